theorem g_X8_hasThing {c0 : Nat} {x1 : Int32} {h : zHp} {Q : Int32 → zHp → Prop} (hc0 : zW c0) (G : zG h) (F : zcI M_X10_within [.int x1, .int 0, .int ((rI h c0 1) - 1)] h (fun vh1 h1 => zG h1 ∧ (zB vh1 ∧ Q vh1 h1))) : zcI M_X8_hasThing [.ref c0, .int x1] h Q := by
  show zw zNT zNT M_X8_hasThing 0 [some (.ref c0), some (.int x1)] [] h _
  refine z_iload_n (pc := 0) dX8_hasThing_0 rfl rfl ?_
  refine z_iconst (pc := 1) (v := 0) dX8_hasThing_1 (by decide) ?_
  refine z_aload_n (pc := 2) dX8_hasThing_2 rfl rfl ?_
  refine q_getI (pc := 3) (v := rI h c0 1) dX8_hasThing_3 lk_RX8_47 (lyW0 hc0) rfl ?_
  refine z_iconst (pc := 6) (v := 1) dX8_hasThing_6 (by decide) ?_
  refine z_isub (pc := 7) dX8_hasThing_7 ?_
  refine q_invS (pc := 8) (As := [.int x1, .int 0, .int ((rI h c0 1) - 1)]) (st := []) dX8_hasThing_8 ok_X10_within ml_RX8_75 st_X10_within pa_X10_within ⟨Nat.le_of_ble_eq_true rfl, Nat.le_of_ble_eq_true rfl⟩ (q_kI F (fun vh1 h1 F => ?_))
  obtain ⟨G1, F⟩ := F
  exact q_retB (pc := 11) dX8_hasThing_11 rfl F.1 F.2
theorem g_X8_hasEffect {c0 : Nat} {x1 : Int32} {h : zHp} {Q : Int32 → zHp → Prop} (hc0 : zW c0) (G : zG h) (F : zcI M_X10_within [.int x1, .int 0, .int ((rI h c0 3) - 1)] h (fun vh1 h1 => zG h1 ∧ (zB vh1 ∧ Q vh1 h1))) : zcI M_X8_hasEffect [.ref c0, .int x1] h Q := by
  show zw zNT zNT M_X8_hasEffect 0 [some (.ref c0), some (.int x1)] [] h _
  refine z_iload_n (pc := 0) dX8_hasEffect_0 rfl rfl ?_
  refine z_iconst (pc := 1) (v := 0) dX8_hasEffect_1 (by decide) ?_
  refine z_aload_n (pc := 2) dX8_hasEffect_2 rfl rfl ?_
  refine q_getI (pc := 3) (v := rI h c0 3) dX8_hasEffect_3 lk_RX8_50 (lyW0 hc0) rfl ?_
  refine z_iconst (pc := 6) (v := 1) dX8_hasEffect_6 (by decide) ?_
  refine z_isub (pc := 7) dX8_hasEffect_7 ?_
  refine q_invS (pc := 8) (As := [.int x1, .int 0, .int ((rI h c0 3) - 1)]) (st := []) dX8_hasEffect_8 ok_X10_within ml_RX8_75 st_X10_within pa_X10_within ⟨Nat.le_of_ble_eq_true rfl, Nat.le_of_ble_eq_true rfl⟩ (q_kI F (fun vh1 h1 F => ?_))
  obtain ⟨G1, F⟩ := F
  exact q_retB (pc := 11) dX8_hasEffect_11 rfl F.1 F.2
theorem g_X8_hasRule {c0 : Nat} {x1 : Int32} {h : zHp} {Q : Int32 → zHp → Prop} (hc0 : zW c0) (G : zG h) (F : zcI M_X10_within [.int x1, .int 0, .int ((rI h c0 5) - 1)] h (fun vh1 h1 => zG h1 ∧ (zB vh1 ∧ Q vh1 h1))) : zcI M_X8_hasRule [.ref c0, .int x1] h Q := by
  show zw zNT zNT M_X8_hasRule 0 [some (.ref c0), some (.int x1)] [] h _
  refine z_iload_n (pc := 0) dX8_hasRule_0 rfl rfl ?_
  refine z_iconst (pc := 1) (v := 0) dX8_hasRule_1 (by decide) ?_
  refine z_aload_n (pc := 2) dX8_hasRule_2 rfl rfl ?_
  refine q_getI (pc := 3) (v := rI h c0 5) dX8_hasRule_3 lk_RX8_53 (lyW0 hc0) rfl ?_
  refine z_iconst (pc := 6) (v := 1) dX8_hasRule_6 (by decide) ?_
  refine z_isub (pc := 7) dX8_hasRule_7 ?_
  refine q_invS (pc := 8) (As := [.int x1, .int 0, .int ((rI h c0 5) - 1)]) (st := []) dX8_hasRule_8 ok_X10_within ml_RX8_75 st_X10_within pa_X10_within ⟨Nat.le_of_ble_eq_true rfl, Nat.le_of_ble_eq_true rfl⟩ (q_kI F (fun vh1 h1 F => ?_))
  obtain ⟨G1, F⟩ := F
  exact q_retB (pc := 11) dX8_hasRule_11 rfl F.1 F.2
theorem g_X8_hasWatcher {c0 : Nat} {x1 : Int32} {h : zHp} {Q : Int32 → zHp → Prop} (hc0 : zW c0) (G : zG h) (F : zcI M_X10_within [.int x1, .int 0, .int ((rI h c0 7) - 1)] h (fun vh1 h1 => zG h1 ∧ (zB vh1 ∧ Q vh1 h1))) : zcI M_X8_hasWatcher [.ref c0, .int x1] h Q := by
  show zw zNT zNT M_X8_hasWatcher 0 [some (.ref c0), some (.int x1)] [] h _
  refine z_iload_n (pc := 0) dX8_hasWatcher_0 rfl rfl ?_
  refine z_iconst (pc := 1) (v := 0) dX8_hasWatcher_1 (by decide) ?_
  refine z_aload_n (pc := 2) dX8_hasWatcher_2 rfl rfl ?_
  refine q_getI (pc := 3) (v := rI h c0 7) dX8_hasWatcher_3 lk_RX8_56 (lyW0 hc0) rfl ?_
  refine z_iconst (pc := 6) (v := 1) dX8_hasWatcher_6 (by decide) ?_
  refine z_isub (pc := 7) dX8_hasWatcher_7 ?_
  refine q_invS (pc := 8) (As := [.int x1, .int 0, .int ((rI h c0 7) - 1)]) (st := []) dX8_hasWatcher_8 ok_X10_within ml_RX8_75 st_X10_within pa_X10_within ⟨Nat.le_of_ble_eq_true rfl, Nat.le_of_ble_eq_true rfl⟩ (q_kI F (fun vh1 h1 F => ?_))
  obtain ⟨G1, F⟩ := F
  exact q_retB (pc := 11) dX8_hasWatcher_11 rfl F.1 F.2
theorem g_X8_isAlive {c0 : Nat} {x1 : Int32} {h : zHp} {Q : Int32 → zHp → Prop} (hc0 : zW c0) (G : zG h) (F : (x1 < 0 → (Q 0 h)) ∧ (¬ (x1 < 0) → ((rI h c0 1 ≤ x1 → (Q 0 h)) ∧ (¬ (rI h c0 1 ≤ x1) → (vp_in x1 8 ∧ ((rI h (c0 + 6 + (Int32.toNatClampNeg x1)) 5 = 0 → (Q 0 h)) ∧ (¬ (rI h (c0 + 6 + (Int32.toNatClampNeg x1)) 5 = 0) → (Q 1 h)))))))) : zcI M_X8_isAlive [.ref c0, .int x1] h Q := by
  show zw zNT zNT M_X8_isAlive 0 [some (.ref c0), some (.int x1)] [] h _
  refine z_iload_n (pc := 0) dX8_isAlive_0 rfl rfl ?_
  refine z_if_lt (pc := 1) (tgt := 28) dX8_isAlive_1 (by decide) (fun k4 => ?_) (fun k4 => ?_)
  · replace F := F.1 k4
    refine z_iconst (pc := 28) (v := 0) dX8_isAlive_28 (by decide) ?_
    exact q_retB (pc := 29) dX8_isAlive_29 rfl (Or.inl rfl) F
  · replace F := F.2 k4
    refine z_iload_n (pc := 4) dX8_isAlive_4 rfl rfl ?_
    refine z_aload_n (pc := 5) dX8_isAlive_5 rfl rfl ?_
    refine q_getI (pc := 6) (v := rI h c0 1) dX8_isAlive_6 lk_RX8_47 (lyW0 hc0) rfl ?_
    refine z_icmp_ge (pc := 9) (tgt := 28) dX8_isAlive_9 (by decide) (fun k3 => ?_) (fun k3 => ?_)
    · replace F := F.1 k3
      refine z_iconst (pc := 28) (v := 0) dX8_isAlive_28 (by decide) ?_
      exact q_retB (pc := 29) dX8_isAlive_29 rfl (Or.inl rfl) F
    · replace F := F.2 k3
      refine z_aload_n (pc := 12) dX8_isAlive_12 rfl rfl ?_
      refine q_getR (pc := 13) (i := c0 + 1) dX8_isAlive_13 lk_RX8_11 (lyW0 hc0) (grW0 G hc0) ?_
      refine z_iload_n (pc := 16) dX8_isAlive_16 rfl rfl ?_
      obtain ⟨k1, F⟩ := F
      refine q_aald (pc := 17) (j := (Int32.toNatClampNeg x1)) (r := c0 + 6 + (Int32.toNatClampNeg x1)) (t := 0) dX8_isAlive_17 (lyW1 hc0) (zvn (lnW1 hc0) k1) rfl (grT (B := c0) G hc0 (zvi k1)) ?_
      refine q_getI (pc := 18) (v := rI h (c0 + 6 + (Int32.toNatClampNeg x1)) 5) dX8_isAlive_18 lk_RX8_79 (lyT (B := c0) hc0 (zvi k1)) rfl ?_
      refine z_if_eq (pc := 21) (tgt := 28) dX8_isAlive_21 (by decide) (fun k2 => ?_) (fun k2 => ?_)
      · replace F := F.1 k2
        refine z_iconst (pc := 28) (v := 0) dX8_isAlive_28 (by decide) ?_
        exact q_retB (pc := 29) dX8_isAlive_29 rfl (Or.inl rfl) F
      · replace F := F.2 k2
        refine z_iconst (pc := 24) (v := 1) dX8_isAlive_24 (by decide) ?_
        refine z_goto (pc := 25) (tgt := 29) dX8_isAlive_25 (by decide) ?_
        exact q_retB (pc := 29) dX8_isAlive_29 rfl (Or.inr rfl) F
theorem g_X8_works {c0 : Nat} {c1 : Nat} {h : zHp} {Q : Int32 → zHp → Prop} (hc0 : zW c0) (hc1 : ly c1 = 2) (G : zG h) (F : (rI h c1 0 = -1 → (Q 1 h)) ∧ (¬ (rI h c1 0 = -1) → (zcI M_X8_isAlive [.ref c0, .int (rI h c1 0)] h (fun vh1 h1 => zG h1 ∧ ((vh1 = 0 → (Q 0 h1)) ∧ (¬ (vh1 = 0) → (Q 1 h1))))))) : zcI M_X8_works [.ref c0, .ref c1] h Q := by
  show zw zNT zNT M_X8_works 0 [some (.ref c0), some (.ref c1)] [] h _
  refine z_aload_n (pc := 0) dX8_works_0 rfl rfl ?_
  refine q_getI (pc := 1) (v := rI h c1 0) dX8_works_1 lk_RX8_83 hc1 rfl ?_
  refine z_iconst (pc := 4) (v := -1) dX8_works_4 (by decide) ?_
  refine z_icmp_eq (pc := 5) (tgt := 19) dX8_works_5 (by decide) (fun k3 => ?_) (fun k3 => ?_)
  · replace F := F.1 k3
    refine z_iconst (pc := 19) (v := 1) dX8_works_19 (by decide) ?_
    refine z_goto (pc := 20) (tgt := 24) dX8_works_20 (by decide) ?_
    exact q_retB (pc := 24) dX8_works_24 rfl (Or.inr rfl) F
  · replace F := F.2 k3
    refine z_aload_n (pc := 8) dX8_works_8 rfl rfl ?_
    refine z_aload_n (pc := 9) dX8_works_9 rfl rfl ?_
    refine q_getI (pc := 10) (v := rI h c1 0) dX8_works_10 lk_RX8_83 hc1 rfl ?_
    refine q_invV (pc := 13) (As := [.int (rI h c1 0)]) (st := []) dX8_works_13 ok_X8_isAlive ml_RX8_86 iv_X8_isAlive pa_X8_isAlive ⟨Nat.le_of_ble_eq_true rfl, Nat.le_of_ble_eq_true rfl⟩ (lyW0 hc0) (q_kI F (fun vh1 h1 F => ?_))
    obtain ⟨G1, F⟩ := F
    refine z_if_eq (pc := 16) (tgt := 23) dX8_works_16 (by decide) (fun k2 => ?_) (fun k2 => ?_)
    · replace F := F.1 k2
      refine z_iconst (pc := 23) (v := 0) dX8_works_23 (by decide) ?_
      exact q_retB (pc := 24) dX8_works_24 rfl (Or.inl rfl) F
    · replace F := F.2 k2
      refine z_iconst (pc := 19) (v := 1) dX8_works_19 (by decide) ?_
      refine z_goto (pc := 20) (tgt := 24) dX8_works_20 (by decide) ?_
      exact q_retB (pc := 24) dX8_works_24 rfl (Or.inr rfl) F
theorem g_X8_aliveBits {c0 : Nat} {h : zHp} {Q : Int32 → zHp → Prop} (hc0 : zW c0) (G : zG h) (F : zlI M_X8_aliveBits 4 [some (.ref c0), some (.int 0), some (.int 0)] [] h Q) : zcI M_X8_aliveBits [.ref c0] h Q := by
  show zw zNT zNT M_X8_aliveBits 0 [some (.ref c0), none, none] [] h _
  refine z_iconst (pc := 0) (v := 0) dX8_aliveBits_0 (by decide) ?_
  refine z_istore_n (pc := 1) (ls' := [some (.ref c0), some (.int 0), none]) dX8_aliveBits_1 rfl (by decide) rfl ?_
  refine z_iconst (pc := 2) (v := 0) dX8_aliveBits_2 (by decide) ?_
  refine z_istore_n (pc := 3) (ls' := [some (.ref c0), some (.int 0), some (.int 0)]) dX8_aliveBits_3 rfl (by decide) rfl ?_
  exact F
theorem g_X8_aliveBits_4 {c0 : Nat} {x1 : Int32} {x2 : Int32} {h : zHp} {Q : Int32 → zHp → Prop} (hc0 : zW c0) (G : zG h) (F : (rI h c0 1 ≤ x2 → (Q x1 h)) ∧ (¬ (rI h c0 1 ≤ x2) → (vp_in x2 8 ∧ ((rI h (c0 + 6 + (Int32.toNatClampNeg x2)) 5 = 0 → (zlI M_X8_aliveBits 4 [some (.ref c0), some (.int x1), some (.int (x2 + 1))] [] h Q)) ∧ (¬ (rI h (c0 + 6 + (Int32.toNatClampNeg x2)) 5 = 0) → (zlI M_X8_aliveBits 4 [some (.ref c0), some (.int (x1 ||| (1 <<< (x2 &&& 31)))), some (.int (x2 + 1))] [] h Q)))))) : zlI M_X8_aliveBits 4 [some (.ref c0), some (.int x1), some (.int x2)] [] h Q := by
  refine z_iload_n (pc := 4) dX8_aliveBits_4 rfl rfl ?_
  refine z_aload_n (pc := 5) dX8_aliveBits_5 rfl rfl ?_
  refine q_getI (pc := 6) (v := rI h c0 1) dX8_aliveBits_6 lk_RX8_47 (lyW0 hc0) rfl ?_
  refine z_icmp_ge (pc := 9) (tgt := 36) dX8_aliveBits_9 (by decide) (fun k3 => ?_) (fun k3 => ?_)
  · replace F := F.1 k3
    refine z_iload_n (pc := 36) dX8_aliveBits_36 rfl rfl ?_
    exact q_retI (pc := 37) dX8_aliveBits_37 rfl F
  · replace F := F.2 k3
    refine z_aload_n (pc := 12) dX8_aliveBits_12 rfl rfl ?_
    refine q_getR (pc := 13) (i := c0 + 1) dX8_aliveBits_13 lk_RX8_11 (lyW0 hc0) (grW0 G hc0) ?_
    refine z_iload_n (pc := 16) dX8_aliveBits_16 rfl rfl ?_
    obtain ⟨k1, F⟩ := F
    refine q_aald (pc := 17) (j := (Int32.toNatClampNeg x2)) (r := c0 + 6 + (Int32.toNatClampNeg x2)) (t := 0) dX8_aliveBits_17 (lyW1 hc0) (zvn (lnW1 hc0) k1) rfl (grT (B := c0) G hc0 (zvi k1)) ?_
    refine q_getI (pc := 18) (v := rI h (c0 + 6 + (Int32.toNatClampNeg x2)) 5) dX8_aliveBits_18 lk_RX8_79 (lyT (B := c0) hc0 (zvi k1)) rfl ?_
    refine z_if_eq (pc := 21) (tgt := 30) dX8_aliveBits_21 (by decide) (fun k2 => ?_) (fun k2 => ?_)
    · replace F := F.1 k2
      refine z_iinc (pc := 30) (v := x2 + 1) (ls' := [some (.ref c0), some (.int x1), some (.int (x2 + 1))]) dX8_aliveBits_30 (by decide) rfl rfl rfl ?_
      refine z_goto (pc := 33) (tgt := 4) dX8_aliveBits_33 (by decide) ?_
      exact F
    · replace F := F.2 k2
      refine z_iload_n (pc := 24) dX8_aliveBits_24 rfl rfl ?_
      refine z_iconst (pc := 25) (v := 1) dX8_aliveBits_25 (by decide) ?_
      refine z_iload_n (pc := 26) dX8_aliveBits_26 rfl rfl ?_
      refine z_ishl (pc := 27) dX8_aliveBits_27 ?_
      refine z_ior (pc := 28) dX8_aliveBits_28 ?_
      refine z_istore_n (pc := 29) (ls' := [some (.ref c0), some (.int (x1 ||| (1 <<< (x2 &&& 31)))), some (.int x2)]) dX8_aliveBits_29 rfl (by decide) rfl ?_
      refine z_iinc (pc := 30) (v := x2 + 1) (ls' := [some (.ref c0), some (.int (x1 ||| (1 <<< (x2 &&& 31)))), some (.int (x2 + 1))]) dX8_aliveBits_30 (by decide) rfl rfl rfl ?_
      refine z_goto (pc := 33) (tgt := 4) dX8_aliveBits_33 (by decide) ?_
      exact F
theorem g_X8_workingIn {c0 : Nat} {x1 : Int32} {h : zHp} {Q : Int32 → zHp → Prop} (hc0 : zW c0) (G : zG h) (F : zlI M_X8_workingIn 4 [some (.ref c0), some (.int x1), some (.int 0), some (.int 0)] [] h Q) : zcI M_X8_workingIn [.ref c0, .int x1] h Q := by
  show zw zNT zNT M_X8_workingIn 0 [some (.ref c0), some (.int x1), none, none] [] h _
  refine z_iconst (pc := 0) (v := 0) dX8_workingIn_0 (by decide) ?_
  refine z_istore_n (pc := 1) (ls' := [some (.ref c0), some (.int x1), some (.int 0), none]) dX8_workingIn_1 rfl (by decide) rfl ?_
  refine z_iconst (pc := 2) (v := 0) dX8_workingIn_2 (by decide) ?_
  refine z_istore_n (pc := 3) (ls' := [some (.ref c0), some (.int x1), some (.int 0), some (.int 0)]) dX8_workingIn_3 rfl (by decide) rfl ?_
  exact F
theorem g_X8_workingIn_4 {c0 : Nat} {x1 : Int32} {x2 : Int32} {x3 : Int32} {h : zHp} {Q : Int32 → zHp → Prop} (hc0 : zW c0) (G : zG h) (F : (rI h c0 3 ≤ x3 → (Q x2 h)) ∧ (¬ (rI h c0 3 ≤ x3) → (vp_in x3 10 ∧ (zRef h (c0 + 2) ((Int32.toNatClampNeg x3)) 2 ∧ (zcI M_X1_layer [.ref (rG h (c0 + 2) ((Int32.toNatClampNeg x3)))] h (fun vh1 h1 => zG h1 ∧ ((¬ vh1 = x1 → (zlI M_X8_workingIn 4 [some (.ref c0), some (.int x1), some (.int x2), some (.int (x3 + 1))] [] h1 Q)) ∧ (vh1 = x1 → (zRef h1 (c0 + 2) ((Int32.toNatClampNeg x3)) 2 ∧ (zcI M_X8_works [.ref c0, .ref (rG h1 (c0 + 2) ((Int32.toNatClampNeg x3)))] h1 (fun vh2 h2 => zG h2 ∧ ((vh2 = 0 → (zlI M_X8_workingIn 4 [some (.ref c0), some (.int x1), some (.int x2), some (.int (x3 + 1))] [] h2 Q)) ∧ (¬ (vh2 = 0) → (zlI M_X8_workingIn 4 [some (.ref c0), some (.int x1), some (.int (x2 ||| (1 <<< (x3 &&& 31)))), some (.int (x3 + 1))] [] h2 Q)))))))))))))) : zlI M_X8_workingIn 4 [some (.ref c0), some (.int x1), some (.int x2), some (.int x3)] [] h Q := by
  refine z_iload_n (pc := 4) dX8_workingIn_4 rfl rfl ?_
  refine z_aload_n (pc := 5) dX8_workingIn_5 rfl rfl ?_
  refine q_getI (pc := 6) (v := rI h c0 3) dX8_workingIn_6 lk_RX8_50 (lyW0 hc0) rfl ?_
  refine z_icmp_ge (pc := 9) (tgt := 50) dX8_workingIn_9 (by decide) (fun k8 => ?_) (fun k8 => ?_)
  · replace F := F.1 k8
    refine z_iload_n (pc := 50) dX8_workingIn_50 rfl rfl ?_
    exact q_retI (pc := 51) dX8_workingIn_51 rfl F
  · replace F := F.2 k8
    refine z_aload_n (pc := 12) dX8_workingIn_12 rfl rfl ?_
    refine q_getR (pc := 13) (i := c0 + 2) dX8_workingIn_13 lk_RX8_19 (lyW0 hc0) (grW2 G hc0) ?_
    refine z_iload_n (pc := 16) dX8_workingIn_16 rfl rfl ?_
    obtain ⟨k1, F⟩ := F
    obtain ⟨k2, F⟩ := F
    refine q_aald (pc := 17) (j := (Int32.toNatClampNeg x3)) (r := rG h (c0 + 2) ((Int32.toNatClampNeg x3))) (t := 1) dX8_workingIn_17 (lyW2 hc0) (zvn (lnW2 hc0) k1) rfl k2.1 ?_
    refine q_invV (pc := 18) (As := []) (st := []) dX8_workingIn_18 ok_X1_layer ml_RX8_90 iv_X1_layer pa_X1_layer ⟨Nat.le_of_ble_eq_true rfl, Nat.le_of_ble_eq_true rfl⟩ k2.2 (q_kI F (fun vh1 h1 F => ?_))
    obtain ⟨G1, F⟩ := F
    refine z_iload_n (pc := 21) dX8_workingIn_21 rfl rfl ?_
    refine z_icmp_ne (pc := 22) (tgt := 44) dX8_workingIn_22 (by decide) (fun k7 => ?_) (fun k7 => ?_)
    · replace F := F.1 k7
      refine z_iinc (pc := 44) (v := x3 + 1) (ls' := [some (.ref c0), some (.int x1), some (.int x2), some (.int (x3 + 1))]) dX8_workingIn_44 (by decide) rfl rfl rfl ?_
      refine z_goto (pc := 47) (tgt := 4) dX8_workingIn_47 (by decide) ?_
      exact F
    · replace F := F.2 k7
      refine z_aload_n (pc := 25) dX8_workingIn_25 rfl rfl ?_
      refine z_aload_n (pc := 26) dX8_workingIn_26 rfl rfl ?_
      refine q_getR (pc := 27) (i := c0 + 2) dX8_workingIn_27 lk_RX8_19 (lyW0 hc0) (grW2 G1 hc0) ?_
      refine z_iload_n (pc := 30) dX8_workingIn_30 rfl rfl ?_
      obtain ⟨k4, F⟩ := F
      refine q_aald (pc := 31) (j := (Int32.toNatClampNeg x3)) (r := rG h1 (c0 + 2) ((Int32.toNatClampNeg x3))) (t := 1) dX8_workingIn_31 (lyW2 hc0) (zvn (lnW2 hc0) k1) rfl k4.1 ?_
      refine q_invV (pc := 32) (As := [.ref (rG h1 (c0 + 2) ((Int32.toNatClampNeg x3)))]) (st := []) dX8_workingIn_32 ok_X8_works ml_RX8_94 iv_X8_works pa_X8_works ⟨Nat.le_of_ble_eq_true rfl, Nat.le_of_ble_eq_true rfl⟩ (lyW0 hc0) (q_kI F (fun vh2 h2 F => ?_))
      obtain ⟨G2, F⟩ := F
      refine z_if_eq (pc := 35) (tgt := 44) dX8_workingIn_35 (by decide) (fun k6 => ?_) (fun k6 => ?_)
      · replace F := F.1 k6
        refine z_iinc (pc := 44) (v := x3 + 1) (ls' := [some (.ref c0), some (.int x1), some (.int x2), some (.int (x3 + 1))]) dX8_workingIn_44 (by decide) rfl rfl rfl ?_
        refine z_goto (pc := 47) (tgt := 4) dX8_workingIn_47 (by decide) ?_
        exact F
      · replace F := F.2 k6
        refine z_iload_n (pc := 38) dX8_workingIn_38 rfl rfl ?_
        refine z_iconst (pc := 39) (v := 1) dX8_workingIn_39 (by decide) ?_
        refine z_iload_n (pc := 40) dX8_workingIn_40 rfl rfl ?_
        refine z_ishl (pc := 41) dX8_workingIn_41 ?_
        refine z_ior (pc := 42) dX8_workingIn_42 ?_
        refine z_istore_n (pc := 43) (ls' := [some (.ref c0), some (.int x1), some (.int (x2 ||| (1 <<< (x3 &&& 31)))), some (.int x3)]) dX8_workingIn_43 rfl (by decide) rfl ?_
        refine z_iinc (pc := 44) (v := x3 + 1) (ls' := [some (.ref c0), some (.int x1), some (.int (x2 ||| (1 <<< (x3 &&& 31)))), some (.int (x3 + 1))]) dX8_workingIn_44 (by decide) rfl rfl rfl ?_
        refine z_goto (pc := 47) (tgt := 4) dX8_workingIn_47 (by decide) ?_
        exact F
theorem g_X8_addThing {c0 : Nat} {x1 : Int32} {x2 : Int32} {x3 : Int32} {x4 : Int32} {h : zHp} {Q : zHp → Prop} (hc0 : zW c0) (G : zG h) (F : (8 ≤ rI h c0 1 → (Q h)) ∧ (¬ (8 ≤ rI h c0 1) → (vp_in (rI h c0 1) 8 ∧ (zcV M_X6_become [.ref (c0 + 6 + (Int32.toNatClampNeg (rI h c0 1))), .int x1, .int x2, .int x3, .int x4] h (fun h1 => zG h1 ∧ (Q (wI h1 c0 1 ((rI h1 c0 1) + 1)))))))) : zcV M_X8_addThing [.ref c0, .int x1, .int x2, .int x3, .int x4] h Q := by
  show zw zNT zNT M_X8_addThing 0 [some (.ref c0), some (.int x1), some (.int x2), some (.int x3), some (.int x4)] [] h _
  refine z_aload_n (pc := 0) dX8_addThing_0 rfl rfl ?_
  refine q_getI (pc := 1) (v := rI h c0 1) dX8_addThing_1 lk_RX8_47 (lyW0 hc0) rfl ?_
  refine z_bipush (pc := 4) (v := 8) dX8_addThing_4 (by decide) ?_
  refine z_icmp_ge (pc := 6) (tgt := 36) dX8_addThing_6 (by decide) (fun k3 => ?_) (fun k3 => ?_)
  · replace F := F.1 k3
    exact q_retV (pc := 36) dX8_addThing_36 rfl F
  · replace F := F.2 k3
    refine z_aload_n (pc := 9) dX8_addThing_9 rfl rfl ?_
    refine q_getR (pc := 10) (i := c0 + 1) dX8_addThing_10 lk_RX8_11 (lyW0 hc0) (grW0 G hc0) ?_
    refine z_aload_n (pc := 13) dX8_addThing_13 rfl rfl ?_
    refine q_getI (pc := 14) (v := rI h c0 1) dX8_addThing_14 lk_RX8_47 (lyW0 hc0) rfl ?_
    obtain ⟨k1, F⟩ := F
    refine q_aald (pc := 17) (j := (Int32.toNatClampNeg (rI h c0 1))) (r := c0 + 6 + (Int32.toNatClampNeg (rI h c0 1))) (t := 0) dX8_addThing_17 (lyW1 hc0) (zvn (lnW1 hc0) k1) rfl (grT (B := c0) G hc0 (zvi k1)) ?_
    refine z_iload_n (pc := 18) dX8_addThing_18 rfl rfl ?_
    refine z_iload_n (pc := 19) dX8_addThing_19 rfl rfl ?_
    refine z_iload_n (pc := 20) dX8_addThing_20 rfl rfl ?_
    refine z_iload (pc := 21) dX8_addThing_21 rfl ?_
    refine q_invV (pc := 23) (As := [.int x1, .int x2, .int x3, .int x4]) (st := []) dX8_addThing_23 ok_X6_become ml_RX8_98 iv_X6_become pa_X6_become ⟨Nat.le_of_ble_eq_true rfl, Nat.le_of_ble_eq_true rfl⟩ (lyT (B := c0) hc0 (zvi k1)) (q_kV F (fun h1 F => ?_))
    obtain ⟨G1, F⟩ := F
    refine z_aload_n (pc := 26) dX8_addThing_26 rfl rfl ?_
    refine z_dup (pc := 27) dX8_addThing_27 rfl ?_
    refine q_getI (pc := 28) (v := rI h1 c0 1) dX8_addThing_28 lk_RX8_47 (lyW0 hc0) rfl ?_
    refine z_iconst (pc := 31) (v := 1) dX8_addThing_31 (by decide) ?_
    refine z_iadd (pc := 32) dX8_addThing_32 ?_
    refine q_putI (pc := 33) dX8_addThing_33 lk_RX8_47 (lyW0 hc0) ?_
    exact q_retV (pc := 36) dX8_addThing_36 rfl F
theorem g_X8_dropEffect {c0 : Nat} {x1 : Int32} {h : zHp} {Q : zHp → Prop} (hc0 : zW c0) (G : zG h) (F : zcI M_X8_hasEffect [.ref c0, .int x1] h (fun vh1 h1 => zG h1 ∧ ((¬ vh1 = 0 → (vp_in x1 10 ∧ (zRef h1 (c0 + 2) ((Int32.toNatClampNeg x1)) 2 ∧ (zlV M_X8_dropEffect 18 [some (.ref c0), some (.int x1), some (.ref (rG h1 (c0 + 2) ((Int32.toNatClampNeg x1)))), some (.int x1)] [] h1 Q)))) ∧ (vh1 = 0 → (Q h1))))) : zcV M_X8_dropEffect [.ref c0, .int x1] h Q := by
  show zw zNT zNT M_X8_dropEffect 0 [some (.ref c0), some (.int x1), none, none] [] h _
  refine z_aload_n (pc := 0) dX8_dropEffect_0 rfl rfl ?_
  refine z_iload_n (pc := 1) dX8_dropEffect_1 rfl rfl ?_
  refine q_invV (pc := 2) (As := [.int x1]) (st := []) dX8_dropEffect_2 ok_X8_hasEffect ml_RX8_102 iv_X8_hasEffect pa_X8_hasEffect ⟨Nat.le_of_ble_eq_true rfl, Nat.le_of_ble_eq_true rfl⟩ (lyW0 hc0) (q_kI F (fun vh1 h1 F => ?_))
  obtain ⟨G1, F⟩ := F
  refine z_if_ne (pc := 5) (tgt := 9) dX8_dropEffect_5 (by decide) (fun k4 => ?_) (fun k4 => ?_)
  · replace F := F.1 k4
    refine z_aload_n (pc := 9) dX8_dropEffect_9 rfl rfl ?_
    refine q_getR (pc := 10) (i := c0 + 2) dX8_dropEffect_10 lk_RX8_19 (lyW0 hc0) (grW2 G1 hc0) ?_
    refine z_iload_n (pc := 13) dX8_dropEffect_13 rfl rfl ?_
    obtain ⟨k2, F⟩ := F
    obtain ⟨k3, F⟩ := F
    refine q_aald (pc := 14) (j := (Int32.toNatClampNeg x1)) (r := rG h1 (c0 + 2) ((Int32.toNatClampNeg x1))) (t := 1) dX8_dropEffect_14 (lyW2 hc0) (zvn (lnW2 hc0) k2) rfl k3.1 ?_
    refine z_astore_n (pc := 15) (ls' := [some (.ref c0), some (.int x1), some (.ref (rG h1 (c0 + 2) ((Int32.toNatClampNeg x1)))), none]) dX8_dropEffect_15 rfl (by decide) rfl ?_
    refine z_iload_n (pc := 16) dX8_dropEffect_16 rfl rfl ?_
    refine z_istore_n (pc := 17) (ls' := [some (.ref c0), some (.int x1), some (.ref (rG h1 (c0 + 2) ((Int32.toNatClampNeg x1)))), some (.int x1)]) dX8_dropEffect_17 rfl (by decide) rfl ?_
    exact F
  · replace F := F.2 k4
    exact q_retV (pc := 8) dX8_dropEffect_8 rfl F
theorem g_X8_dropEffect_18 {c0 : Nat} {x1 : Int32} {c2 : Nat} {x3 : Int32} {h : zHp} {Q : zHp → Prop} (hc0 : zW c0) (hc2 : ly c2 = 2) (G : zG h) (F : ((rI h c0 3) - 1 ≤ x3 → (vp_in ((rI h c0 3) - 1) 10 ∧ (Q (wR (wI h c0 3 ((rI h c0 3) - 1)) (c0 + 2) ((Int32.toNatClampNeg ((rI h c0 3) - 1))) (some c2))))) ∧ (¬ ((rI h c0 3) - 1 ≤ x3) → (vp_in (x3 + 1) 10 ∧ (zRef h (c0 + 2) ((Int32.toNatClampNeg (x3 + 1))) 2 ∧ (vp_in x3 10 ∧ (zlV M_X8_dropEffect 18 [some (.ref c0), some (.int x1), some (.ref c2), some (.int (x3 + 1))] [] (wR h (c0 + 2) ((Int32.toNatClampNeg x3)) (some (rG h (c0 + 2) ((Int32.toNatClampNeg (x3 + 1)))))) Q)))))) : zlV M_X8_dropEffect 18 [some (.ref c0), some (.int x1), some (.ref c2), some (.int x3)] [] h Q := by
  refine z_iload_n (pc := 18) dX8_dropEffect_18 rfl rfl ?_
  refine z_aload_n (pc := 19) dX8_dropEffect_19 rfl rfl ?_
  refine q_getI (pc := 20) (v := rI h c0 3) dX8_dropEffect_20 lk_RX8_50 (lyW0 hc0) rfl ?_
  refine z_iconst (pc := 23) (v := 1) dX8_dropEffect_23 (by decide) ?_
  refine z_isub (pc := 24) dX8_dropEffect_24 ?_
  refine z_icmp_ge (pc := 25) (tgt := 48) dX8_dropEffect_25 (by decide) (fun k5 => ?_) (fun k5 => ?_)
  · replace F := F.1 k5
    refine z_aload_n (pc := 48) dX8_dropEffect_48 rfl rfl ?_
    refine z_dup (pc := 49) dX8_dropEffect_49 rfl ?_
    refine q_getI (pc := 50) (v := rI h c0 3) dX8_dropEffect_50 lk_RX8_50 (lyW0 hc0) rfl ?_
    refine z_iconst (pc := 53) (v := 1) dX8_dropEffect_53 (by decide) ?_
    refine z_isub (pc := 54) dX8_dropEffect_54 ?_
    refine q_putI (pc := 55) dX8_dropEffect_55 lk_RX8_50 (lyW0 hc0) ?_
    refine z_aload_n (pc := 58) dX8_dropEffect_58 rfl rfl ?_
    refine q_getR (pc := 59) (i := c0 + 2) dX8_dropEffect_59 lk_RX8_19 (lyW0 hc0) (grW2 G hc0) ?_
    refine z_aload_n (pc := 62) dX8_dropEffect_62 rfl rfl ?_
    refine q_getI (pc := 63) (v := (rI h c0 3) - 1) dX8_dropEffect_63 lk_RX8_50 (lyW0 hc0) rI_s ?_
    refine z_aload_n (pc := 66) dX8_dropEffect_66 rfl rfl ?_
    obtain ⟨k1, F⟩ := F
    refine q_aast (pc := 67) (j := (Int32.toNatClampNeg ((rI h c0 3) - 1))) (t := 1) dX8_dropEffect_67 (lyW2 hc0) (zvn (lnW2 hc0) k1) rfl hc2 ?_
    exact q_retV (pc := 68) dX8_dropEffect_68 rfl F
  · replace F := F.2 k5
    refine z_aload_n (pc := 28) dX8_dropEffect_28 rfl rfl ?_
    refine q_getR (pc := 29) (i := c0 + 2) dX8_dropEffect_29 lk_RX8_19 (lyW0 hc0) (grW2 G hc0) ?_
    refine z_iload_n (pc := 32) dX8_dropEffect_32 rfl rfl ?_
    refine z_aload_n (pc := 33) dX8_dropEffect_33 rfl rfl ?_
    refine q_getR (pc := 34) (i := c0 + 2) dX8_dropEffect_34 lk_RX8_19 (lyW0 hc0) (grW2 G hc0) ?_
    refine z_iload_n (pc := 37) dX8_dropEffect_37 rfl rfl ?_
    refine z_iconst (pc := 38) (v := 1) dX8_dropEffect_38 (by decide) ?_
    refine z_iadd (pc := 39) dX8_dropEffect_39 ?_
    obtain ⟨k2, F⟩ := F
    obtain ⟨k3, F⟩ := F
    refine q_aald (pc := 40) (j := (Int32.toNatClampNeg (x3 + 1))) (r := rG h (c0 + 2) ((Int32.toNatClampNeg (x3 + 1)))) (t := 1) dX8_dropEffect_40 (lyW2 hc0) (zvn (lnW2 hc0) k2) rfl k3.1 ?_
    obtain ⟨k4, F⟩ := F
    refine q_aast (pc := 41) (j := (Int32.toNatClampNeg x3)) (t := 1) dX8_dropEffect_41 (lyW2 hc0) (zvn (lnW2 hc0) k4) rfl k3.2 ?_
    refine z_iinc (pc := 42) (v := x3 + 1) (ls' := [some (.ref c0), some (.int x1), some (.ref c2), some (.int (x3 + 1))]) dX8_dropEffect_42 (by decide) rfl rfl rfl ?_
    refine z_goto (pc := 45) (tgt := 18) dX8_dropEffect_45 (by decide) ?_
    exact F
theorem g_X8_dropRule {c0 : Nat} {x1 : Int32} {h : zHp} {Q : zHp → Prop} (hc0 : zW c0) (G : zG h) (F : zcI M_X8_hasRule [.ref c0, .int x1] h (fun vh1 h1 => zG h1 ∧ ((¬ vh1 = 0 → (vp_in x1 8 ∧ (zRef h1 (c0 + 3) ((Int32.toNatClampNeg x1)) 5 ∧ (zlV M_X8_dropRule 18 [some (.ref c0), some (.int x1), some (.ref (rG h1 (c0 + 3) ((Int32.toNatClampNeg x1)))), some (.int x1)] [] h1 Q)))) ∧ (vh1 = 0 → (Q h1))))) : zcV M_X8_dropRule [.ref c0, .int x1] h Q := by
  show zw zNT zNT M_X8_dropRule 0 [some (.ref c0), some (.int x1), none, none] [] h _
  refine z_aload_n (pc := 0) dX8_dropRule_0 rfl rfl ?_
  refine z_iload_n (pc := 1) dX8_dropRule_1 rfl rfl ?_
  refine q_invV (pc := 2) (As := [.int x1]) (st := []) dX8_dropRule_2 ok_X8_hasRule ml_RX8_105 iv_X8_hasRule pa_X8_hasRule ⟨Nat.le_of_ble_eq_true rfl, Nat.le_of_ble_eq_true rfl⟩ (lyW0 hc0) (q_kI F (fun vh1 h1 F => ?_))
  obtain ⟨G1, F⟩ := F
  refine z_if_ne (pc := 5) (tgt := 9) dX8_dropRule_5 (by decide) (fun k4 => ?_) (fun k4 => ?_)
  · replace F := F.1 k4
    refine z_aload_n (pc := 9) dX8_dropRule_9 rfl rfl ?_
    refine q_getR (pc := 10) (i := c0 + 3) dX8_dropRule_10 lk_RX8_25 (lyW0 hc0) (grW4 G1 hc0) ?_
    refine z_iload_n (pc := 13) dX8_dropRule_13 rfl rfl ?_
    obtain ⟨k2, F⟩ := F
    obtain ⟨k3, F⟩ := F
    refine q_aald (pc := 14) (j := (Int32.toNatClampNeg x1)) (r := rG h1 (c0 + 3) ((Int32.toNatClampNeg x1))) (t := 2) dX8_dropRule_14 (lyW3 hc0) (zvn (lnW3 hc0) k2) rfl k3.1 ?_
    refine z_astore_n (pc := 15) (ls' := [some (.ref c0), some (.int x1), some (.ref (rG h1 (c0 + 3) ((Int32.toNatClampNeg x1)))), none]) dX8_dropRule_15 rfl (by decide) rfl ?_
    refine z_iload_n (pc := 16) dX8_dropRule_16 rfl rfl ?_
    refine z_istore_n (pc := 17) (ls' := [some (.ref c0), some (.int x1), some (.ref (rG h1 (c0 + 3) ((Int32.toNatClampNeg x1)))), some (.int x1)]) dX8_dropRule_17 rfl (by decide) rfl ?_
    exact F
  · replace F := F.2 k4
    exact q_retV (pc := 8) dX8_dropRule_8 rfl F
theorem g_X8_dropRule_18 {c0 : Nat} {x1 : Int32} {c2 : Nat} {x3 : Int32} {h : zHp} {Q : zHp → Prop} (hc0 : zW c0) (hc2 : ly c2 = 5) (G : zG h) (F : ((rI h c0 5) - 1 ≤ x3 → (vp_in ((rI h c0 5) - 1) 8 ∧ (Q (wR (wI h c0 5 ((rI h c0 5) - 1)) (c0 + 3) ((Int32.toNatClampNeg ((rI h c0 5) - 1))) (some c2))))) ∧ (¬ ((rI h c0 5) - 1 ≤ x3) → (vp_in (x3 + 1) 8 ∧ (zRef h (c0 + 3) ((Int32.toNatClampNeg (x3 + 1))) 5 ∧ (vp_in x3 8 ∧ (zlV M_X8_dropRule 18 [some (.ref c0), some (.int x1), some (.ref c2), some (.int (x3 + 1))] [] (wR h (c0 + 3) ((Int32.toNatClampNeg x3)) (some (rG h (c0 + 3) ((Int32.toNatClampNeg (x3 + 1)))))) Q)))))) : zlV M_X8_dropRule 18 [some (.ref c0), some (.int x1), some (.ref c2), some (.int x3)] [] h Q := by
  refine z_iload_n (pc := 18) dX8_dropRule_18 rfl rfl ?_
  refine z_aload_n (pc := 19) dX8_dropRule_19 rfl rfl ?_
  refine q_getI (pc := 20) (v := rI h c0 5) dX8_dropRule_20 lk_RX8_53 (lyW0 hc0) rfl ?_
  refine z_iconst (pc := 23) (v := 1) dX8_dropRule_23 (by decide) ?_
  refine z_isub (pc := 24) dX8_dropRule_24 ?_
  refine z_icmp_ge (pc := 25) (tgt := 48) dX8_dropRule_25 (by decide) (fun k5 => ?_) (fun k5 => ?_)
  · replace F := F.1 k5
    refine z_aload_n (pc := 48) dX8_dropRule_48 rfl rfl ?_
    refine z_dup (pc := 49) dX8_dropRule_49 rfl ?_
    refine q_getI (pc := 50) (v := rI h c0 5) dX8_dropRule_50 lk_RX8_53 (lyW0 hc0) rfl ?_
    refine z_iconst (pc := 53) (v := 1) dX8_dropRule_53 (by decide) ?_
    refine z_isub (pc := 54) dX8_dropRule_54 ?_
    refine q_putI (pc := 55) dX8_dropRule_55 lk_RX8_53 (lyW0 hc0) ?_
    refine z_aload_n (pc := 58) dX8_dropRule_58 rfl rfl ?_
    refine q_getR (pc := 59) (i := c0 + 3) dX8_dropRule_59 lk_RX8_25 (lyW0 hc0) (grW4 G hc0) ?_
    refine z_aload_n (pc := 62) dX8_dropRule_62 rfl rfl ?_
    refine q_getI (pc := 63) (v := (rI h c0 5) - 1) dX8_dropRule_63 lk_RX8_53 (lyW0 hc0) rI_s ?_
    refine z_aload_n (pc := 66) dX8_dropRule_66 rfl rfl ?_
    obtain ⟨k1, F⟩ := F
    refine q_aast (pc := 67) (j := (Int32.toNatClampNeg ((rI h c0 5) - 1))) (t := 2) dX8_dropRule_67 (lyW3 hc0) (zvn (lnW3 hc0) k1) rfl hc2 ?_
    exact q_retV (pc := 68) dX8_dropRule_68 rfl F
  · replace F := F.2 k5
    refine z_aload_n (pc := 28) dX8_dropRule_28 rfl rfl ?_
    refine q_getR (pc := 29) (i := c0 + 3) dX8_dropRule_29 lk_RX8_25 (lyW0 hc0) (grW4 G hc0) ?_
    refine z_iload_n (pc := 32) dX8_dropRule_32 rfl rfl ?_
    refine z_aload_n (pc := 33) dX8_dropRule_33 rfl rfl ?_
    refine q_getR (pc := 34) (i := c0 + 3) dX8_dropRule_34 lk_RX8_25 (lyW0 hc0) (grW4 G hc0) ?_
    refine z_iload_n (pc := 37) dX8_dropRule_37 rfl rfl ?_
    refine z_iconst (pc := 38) (v := 1) dX8_dropRule_38 (by decide) ?_
    refine z_iadd (pc := 39) dX8_dropRule_39 ?_
    obtain ⟨k2, F⟩ := F
    obtain ⟨k3, F⟩ := F
    refine q_aald (pc := 40) (j := (Int32.toNatClampNeg (x3 + 1))) (r := rG h (c0 + 3) ((Int32.toNatClampNeg (x3 + 1)))) (t := 2) dX8_dropRule_40 (lyW3 hc0) (zvn (lnW3 hc0) k2) rfl k3.1 ?_
    obtain ⟨k4, F⟩ := F
    refine q_aast (pc := 41) (j := (Int32.toNatClampNeg x3)) (t := 2) dX8_dropRule_41 (lyW3 hc0) (zvn (lnW3 hc0) k4) rfl k3.2 ?_
    refine z_iinc (pc := 42) (v := x3 + 1) (ls' := [some (.ref c0), some (.int x1), some (.ref c2), some (.int (x3 + 1))]) dX8_dropRule_42 (by decide) rfl rfl rfl ?_
    refine z_goto (pc := 45) (tgt := 18) dX8_dropRule_45 (by decide) ?_
    exact F
theorem g_X8_dropWatcher {c0 : Nat} {x1 : Int32} {h : zHp} {Q : zHp → Prop} (hc0 : zW c0) (G : zG h) (F : zcI M_X8_hasWatcher [.ref c0, .int x1] h (fun vh1 h1 => zG h1 ∧ ((¬ vh1 = 0 → (vp_in x1 8 ∧ (zRef h1 (c0 + 4) ((Int32.toNatClampNeg x1)) 8 ∧ (zlV M_X8_dropWatcher 18 [some (.ref c0), some (.int x1), some (.ref (rG h1 (c0 + 4) ((Int32.toNatClampNeg x1)))), some (.int x1)] [] h1 Q)))) ∧ (vh1 = 0 → (Q h1))))) : zcV M_X8_dropWatcher [.ref c0, .int x1] h Q := by
  show zw zNT zNT M_X8_dropWatcher 0 [some (.ref c0), some (.int x1), none, none] [] h _
  refine z_aload_n (pc := 0) dX8_dropWatcher_0 rfl rfl ?_
  refine z_iload_n (pc := 1) dX8_dropWatcher_1 rfl rfl ?_
  refine q_invV (pc := 2) (As := [.int x1]) (st := []) dX8_dropWatcher_2 ok_X8_hasWatcher ml_RX8_108 iv_X8_hasWatcher pa_X8_hasWatcher ⟨Nat.le_of_ble_eq_true rfl, Nat.le_of_ble_eq_true rfl⟩ (lyW0 hc0) (q_kI F (fun vh1 h1 F => ?_))
  obtain ⟨G1, F⟩ := F
  refine z_if_ne (pc := 5) (tgt := 9) dX8_dropWatcher_5 (by decide) (fun k4 => ?_) (fun k4 => ?_)
  · replace F := F.1 k4
    refine z_aload_n (pc := 9) dX8_dropWatcher_9 rfl rfl ?_
    refine q_getR (pc := 10) (i := c0 + 4) dX8_dropWatcher_10 lk_RX8_31 (lyW0 hc0) (grW6 G1 hc0) ?_
    refine z_iload_n (pc := 13) dX8_dropWatcher_13 rfl rfl ?_
    obtain ⟨k2, F⟩ := F
    obtain ⟨k3, F⟩ := F
    refine q_aald (pc := 14) (j := (Int32.toNatClampNeg x1)) (r := rG h1 (c0 + 4) ((Int32.toNatClampNeg x1))) (t := 3) dX8_dropWatcher_14 (lyW4 hc0) (zvn (lnW4 hc0) k2) rfl k3.1 ?_
    refine z_astore_n (pc := 15) (ls' := [some (.ref c0), some (.int x1), some (.ref (rG h1 (c0 + 4) ((Int32.toNatClampNeg x1)))), none]) dX8_dropWatcher_15 rfl (by decide) rfl ?_
    refine z_iload_n (pc := 16) dX8_dropWatcher_16 rfl rfl ?_
    refine z_istore_n (pc := 17) (ls' := [some (.ref c0), some (.int x1), some (.ref (rG h1 (c0 + 4) ((Int32.toNatClampNeg x1)))), some (.int x1)]) dX8_dropWatcher_17 rfl (by decide) rfl ?_
    exact F
  · replace F := F.2 k4
    exact q_retV (pc := 8) dX8_dropWatcher_8 rfl F
theorem g_X8_dropWatcher_18 {c0 : Nat} {x1 : Int32} {c2 : Nat} {x3 : Int32} {h : zHp} {Q : zHp → Prop} (hc0 : zW c0) (hc2 : ly c2 = 8) (G : zG h) (F : ((rI h c0 7) - 1 ≤ x3 → (vp_in ((rI h c0 7) - 1) 8 ∧ (Q (wR (wI h c0 7 ((rI h c0 7) - 1)) (c0 + 4) ((Int32.toNatClampNeg ((rI h c0 7) - 1))) (some c2))))) ∧ (¬ ((rI h c0 7) - 1 ≤ x3) → (vp_in (x3 + 1) 8 ∧ (zRef h (c0 + 4) ((Int32.toNatClampNeg (x3 + 1))) 8 ∧ (vp_in x3 8 ∧ (zlV M_X8_dropWatcher 18 [some (.ref c0), some (.int x1), some (.ref c2), some (.int (x3 + 1))] [] (wR h (c0 + 4) ((Int32.toNatClampNeg x3)) (some (rG h (c0 + 4) ((Int32.toNatClampNeg (x3 + 1)))))) Q)))))) : zlV M_X8_dropWatcher 18 [some (.ref c0), some (.int x1), some (.ref c2), some (.int x3)] [] h Q := by
  refine z_iload_n (pc := 18) dX8_dropWatcher_18 rfl rfl ?_
  refine z_aload_n (pc := 19) dX8_dropWatcher_19 rfl rfl ?_
  refine q_getI (pc := 20) (v := rI h c0 7) dX8_dropWatcher_20 lk_RX8_56 (lyW0 hc0) rfl ?_
  refine z_iconst (pc := 23) (v := 1) dX8_dropWatcher_23 (by decide) ?_
  refine z_isub (pc := 24) dX8_dropWatcher_24 ?_
  refine z_icmp_ge (pc := 25) (tgt := 48) dX8_dropWatcher_25 (by decide) (fun k5 => ?_) (fun k5 => ?_)
  · replace F := F.1 k5
    refine z_aload_n (pc := 48) dX8_dropWatcher_48 rfl rfl ?_
    refine z_dup (pc := 49) dX8_dropWatcher_49 rfl ?_
    refine q_getI (pc := 50) (v := rI h c0 7) dX8_dropWatcher_50 lk_RX8_56 (lyW0 hc0) rfl ?_
    refine z_iconst (pc := 53) (v := 1) dX8_dropWatcher_53 (by decide) ?_
    refine z_isub (pc := 54) dX8_dropWatcher_54 ?_
    refine q_putI (pc := 55) dX8_dropWatcher_55 lk_RX8_56 (lyW0 hc0) ?_
    refine z_aload_n (pc := 58) dX8_dropWatcher_58 rfl rfl ?_
    refine q_getR (pc := 59) (i := c0 + 4) dX8_dropWatcher_59 lk_RX8_31 (lyW0 hc0) (grW6 G hc0) ?_
    refine z_aload_n (pc := 62) dX8_dropWatcher_62 rfl rfl ?_
    refine q_getI (pc := 63) (v := (rI h c0 7) - 1) dX8_dropWatcher_63 lk_RX8_56 (lyW0 hc0) rI_s ?_
    refine z_aload_n (pc := 66) dX8_dropWatcher_66 rfl rfl ?_
    obtain ⟨k1, F⟩ := F
    refine q_aast (pc := 67) (j := (Int32.toNatClampNeg ((rI h c0 7) - 1))) (t := 3) dX8_dropWatcher_67 (lyW4 hc0) (zvn (lnW4 hc0) k1) rfl hc2 ?_
    exact q_retV (pc := 68) dX8_dropWatcher_68 rfl F
  · replace F := F.2 k5
    refine z_aload_n (pc := 28) dX8_dropWatcher_28 rfl rfl ?_
    refine q_getR (pc := 29) (i := c0 + 4) dX8_dropWatcher_29 lk_RX8_31 (lyW0 hc0) (grW6 G hc0) ?_
    refine z_iload_n (pc := 32) dX8_dropWatcher_32 rfl rfl ?_
    refine z_aload_n (pc := 33) dX8_dropWatcher_33 rfl rfl ?_
    refine q_getR (pc := 34) (i := c0 + 4) dX8_dropWatcher_34 lk_RX8_31 (lyW0 hc0) (grW6 G hc0) ?_
    refine z_iload_n (pc := 37) dX8_dropWatcher_37 rfl rfl ?_
    refine z_iconst (pc := 38) (v := 1) dX8_dropWatcher_38 (by decide) ?_
    refine z_iadd (pc := 39) dX8_dropWatcher_39 ?_
    obtain ⟨k2, F⟩ := F
    obtain ⟨k3, F⟩ := F
    refine q_aald (pc := 40) (j := (Int32.toNatClampNeg (x3 + 1))) (r := rG h (c0 + 4) ((Int32.toNatClampNeg (x3 + 1)))) (t := 3) dX8_dropWatcher_40 (lyW4 hc0) (zvn (lnW4 hc0) k2) rfl k3.1 ?_
    obtain ⟨k4, F⟩ := F
    refine q_aast (pc := 41) (j := (Int32.toNatClampNeg x3)) (t := 3) dX8_dropWatcher_41 (lyW4 hc0) (zvn (lnW4 hc0) k4) rfl k3.2 ?_
    refine z_iinc (pc := 42) (v := x3 + 1) (ls' := [some (.ref c0), some (.int x1), some (.ref c2), some (.int (x3 + 1))]) dX8_dropWatcher_42 (by decide) rfl rfl rfl ?_
    refine z_goto (pc := 45) (tgt := 18) dX8_dropWatcher_45 (by decide) ?_
    exact F
theorem g_X8_ageEffects {c0 : Nat} {h : zHp} {Q : zHp → Prop} (hc0 : zW c0) (G : zG h) (F : zlV M_X8_ageEffects 7 [some (.ref c0), some (.int ((rI h c0 3) - 1))] [] h Q) : zcV M_X8_ageEffects [.ref c0] h Q := by
  show zw zNT zNT M_X8_ageEffects 0 [some (.ref c0), none] [] h _
  refine z_aload_n (pc := 0) dX8_ageEffects_0 rfl rfl ?_
  refine q_getI (pc := 1) (v := rI h c0 3) dX8_ageEffects_1 lk_RX8_50 (lyW0 hc0) rfl ?_
  refine z_iconst (pc := 4) (v := 1) dX8_ageEffects_4 (by decide) ?_
  refine z_isub (pc := 5) dX8_ageEffects_5 ?_
  refine z_istore_n (pc := 6) (ls' := [some (.ref c0), some (.int ((rI h c0 3) - 1))]) dX8_ageEffects_6 rfl (by decide) rfl ?_
  exact F
theorem g_X8_ageEffects_7 {c0 : Nat} {x1 : Int32} {h : zHp} {Q : zHp → Prop} (hc0 : zW c0) (G : zG h) (F : (x1 < 0 → (Q h)) ∧ (¬ (x1 < 0) → (vp_in x1 10 ∧ (zRef h (c0 + 2) ((Int32.toNatClampNeg x1)) 2 ∧ ((rI h (rG h (c0 + 2) ((Int32.toNatClampNeg x1))) 6 ≤ 0 → (zlV M_X8_ageEffects 7 [some (.ref c0), some (.int (x1 + (-1)))] [] h Q)) ∧ (¬ (rI h (rG h (c0 + 2) ((Int32.toNatClampNeg x1))) 6 ≤ 0) → ((¬ (rI h (rG h (c0 + 2) ((Int32.toNatClampNeg x1))) 6) - 1 = 0 → (zlV M_X8_ageEffects 7 [some (.ref c0), some (.int (x1 + (-1)))] [] (wI h (rG h (c0 + 2) ((Int32.toNatClampNeg x1))) 6 ((rI h (rG h (c0 + 2) ((Int32.toNatClampNeg x1))) 6) - 1)) Q)) ∧ ((rI h (rG h (c0 + 2) ((Int32.toNatClampNeg x1))) 6) - 1 = 0 → (zcV M_X8_dropEffect [.ref c0, .int x1] (wI h (rG h (c0 + 2) ((Int32.toNatClampNeg x1))) 6 ((rI h (rG h (c0 + 2) ((Int32.toNatClampNeg x1))) 6) - 1)) (fun h1 => zG h1 ∧ (zlV M_X8_ageEffects 7 [some (.ref c0), some (.int (x1 + (-1)))] [] h1 Q))))))))))) : zlV M_X8_ageEffects 7 [some (.ref c0), some (.int x1)] [] h Q := by
  refine z_iload_n (pc := 7) dX8_ageEffects_7 rfl rfl ?_
  refine z_if_lt (pc := 8) (tgt := 61) dX8_ageEffects_8 (by decide) (fun k6 => ?_) (fun k6 => ?_)
  · replace F := F.1 k6
    exact q_retV (pc := 61) dX8_ageEffects_61 rfl F
  · replace F := F.2 k6
    refine z_aload_n (pc := 11) dX8_ageEffects_11 rfl rfl ?_
    refine q_getR (pc := 12) (i := c0 + 2) dX8_ageEffects_12 lk_RX8_19 (lyW0 hc0) (grW2 G hc0) ?_
    refine z_iload_n (pc := 15) dX8_ageEffects_15 rfl rfl ?_
    obtain ⟨k1, F⟩ := F
    obtain ⟨k2, F⟩ := F
    refine q_aald (pc := 16) (j := (Int32.toNatClampNeg x1)) (r := rG h (c0 + 2) ((Int32.toNatClampNeg x1))) (t := 1) dX8_ageEffects_16 (lyW2 hc0) (zvn (lnW2 hc0) k1) rfl k2.1 ?_
    refine q_getI (pc := 17) (v := rI h (rG h (c0 + 2) ((Int32.toNatClampNeg x1))) 6) dX8_ageEffects_17 lk_RX8_111 k2.2 rfl ?_
    refine z_if_le (pc := 20) (tgt := 55) dX8_ageEffects_20 (by decide) (fun k5 => ?_) (fun k5 => ?_)
    · replace F := F.1 k5
      refine z_iinc (pc := 55) (v := x1 + (-1)) (ls' := [some (.ref c0), some (.int (x1 + (-1)))]) dX8_ageEffects_55 (by decide) rfl rfl rfl ?_
      refine z_goto (pc := 58) (tgt := 7) dX8_ageEffects_58 (by decide) ?_
      exact F
    · replace F := F.2 k5
      refine z_aload_n (pc := 23) dX8_ageEffects_23 rfl rfl ?_
      refine q_getR (pc := 24) (i := c0 + 2) dX8_ageEffects_24 lk_RX8_19 (lyW0 hc0) (grW2 G hc0) ?_
      refine z_iload_n (pc := 27) dX8_ageEffects_27 rfl rfl ?_
      refine q_aald (pc := 28) (j := (Int32.toNatClampNeg x1)) (r := rG h (c0 + 2) ((Int32.toNatClampNeg x1))) (t := 1) dX8_ageEffects_28 (lyW2 hc0) (zvn (lnW2 hc0) k1) rfl k2.1 ?_
      refine z_dup (pc := 29) dX8_ageEffects_29 rfl ?_
      refine q_getI (pc := 30) (v := rI h (rG h (c0 + 2) ((Int32.toNatClampNeg x1))) 6) dX8_ageEffects_30 lk_RX8_111 k2.2 rfl ?_
      refine z_iconst (pc := 33) (v := 1) dX8_ageEffects_33 (by decide) ?_
      refine z_isub (pc := 34) dX8_ageEffects_34 ?_
      refine q_putI (pc := 35) dX8_ageEffects_35 lk_RX8_111 k2.2 ?_
      refine z_aload_n (pc := 38) dX8_ageEffects_38 rfl rfl ?_
      refine q_getR (pc := 39) (i := c0 + 2) dX8_ageEffects_39 lk_RX8_19 (lyW0 hc0) (grW2 G hc0) ?_
      refine z_iload_n (pc := 42) dX8_ageEffects_42 rfl rfl ?_
      refine q_aald (pc := 43) (j := (Int32.toNatClampNeg x1)) (r := rG h (c0 + 2) ((Int32.toNatClampNeg x1))) (t := 1) dX8_ageEffects_43 (lyW2 hc0) (zvn (lnW2 hc0) k1) rfl k2.1 ?_
      refine q_getI (pc := 44) (v := (rI h (rG h (c0 + 2) ((Int32.toNatClampNeg x1))) 6) - 1) dX8_ageEffects_44 lk_RX8_111 k2.2 rI_s ?_
      refine z_if_ne (pc := 47) (tgt := 55) dX8_ageEffects_47 (by decide) (fun k4 => ?_) (fun k4 => ?_)
      · replace F := F.1 k4
        refine z_iinc (pc := 55) (v := x1 + (-1)) (ls' := [some (.ref c0), some (.int (x1 + (-1)))]) dX8_ageEffects_55 (by decide) rfl rfl rfl ?_
        refine z_goto (pc := 58) (tgt := 7) dX8_ageEffects_58 (by decide) ?_
        exact F
      · replace F := F.2 k4
        refine z_aload_n (pc := 50) dX8_ageEffects_50 rfl rfl ?_
        refine z_iload_n (pc := 51) dX8_ageEffects_51 rfl rfl ?_
        refine q_invV (pc := 52) (As := [.int x1]) (st := []) dX8_ageEffects_52 ok_X8_dropEffect ml_RX8_114 iv_X8_dropEffect pa_X8_dropEffect ⟨Nat.le_of_ble_eq_true rfl, Nat.le_of_ble_eq_true rfl⟩ (lyW0 hc0) (q_kV F (fun h1 F => ?_))
        obtain ⟨G1, F⟩ := F
        refine z_iinc (pc := 55) (v := x1 + (-1)) (ls' := [some (.ref c0), some (.int (x1 + (-1)))]) dX8_ageEffects_55 (by decide) rfl rfl rfl ?_
        refine z_goto (pc := 58) (tgt := 7) dX8_ageEffects_58 (by decide) ?_
        exact F
theorem g_X8_draw {c0 : Nat} {h : zHp} {Q : Int32 → zHp → Prop} (hc0 : zW c0) (G : zG h) (F : Q ((Int32.toUInt32 (((rI h c0 10) * 1103515245) + 12345) >>> (Int32.toUInt32 16 &&& Int32.toUInt32 31)).toInt32) (wI h c0 10 (((rI h c0 10) * 1103515245) + 12345))) : zcI M_X8_draw [.ref c0] h Q := by
  show zw zNT zNT M_X8_draw 0 [some (.ref c0)] [] h _
  refine z_aload_n (pc := 0) dX8_draw_0 rfl rfl ?_
  refine z_aload_n (pc := 1) dX8_draw_1 rfl rfl ?_
  refine q_getI (pc := 2) (v := rI h c0 10) dX8_draw_2 lk_RX8_39 (lyW0 hc0) rfl ?_
  refine z_ldc (pc := 5) (v := 1103515245) dX8_draw_5 cl_RX8_118 ?_
  refine z_imul (pc := 7) dX8_draw_7 ?_
  refine z_sipush (pc := 8) (v := 12345) dX8_draw_8 (by decide) ?_
  refine z_iadd (pc := 11) dX8_draw_11 ?_
  refine q_putI (pc := 12) dX8_draw_12 lk_RX8_39 (lyW0 hc0) ?_
  refine z_aload_n (pc := 15) dX8_draw_15 rfl rfl ?_
  refine q_getI (pc := 16) (v := ((rI h c0 10) * 1103515245) + 12345) dX8_draw_16 lk_RX8_39 (lyW0 hc0) rI_s ?_
  refine z_bipush (pc := 19) (v := 16) dX8_draw_19 (by decide) ?_
  refine z_iushr (pc := 21) dX8_draw_21 ?_
  exact q_retI (pc := 22) dX8_draw_22 rfl F
theorem g_X9_follow {c0 : Nat} {c1 : Nat} {c2 : Nat} {x3 : Int32} {x4 : Int32} {h : zHp} {Q : zHp → Prop} (hc0 : zUo c0) (hc1 : zW c1) (hc2 : zLo c2) (G : zG h) (F : zlV M_X9_follow 24 [some (.ref c0), some (.ref c1), some (.ref c2), some (.int x3), some (.int x4), some (.int 0), none] [] (wI (wI (wI (wI h c0 0 x3) c0 1 x4) c0 2 0) c0 3 0) Q) : zcV M_X9_follow [.ref c0, .ref c1, .ref c2, .int x3, .int x4] h Q := by
  show zw zNT zNT M_X9_follow 0 [some (.ref c0), some (.ref c1), some (.ref c2), some (.int x3), some (.int x4), none, none] [] h _
  refine z_aload_n (pc := 0) dX9_follow_0 rfl rfl ?_
  refine z_iload_n (pc := 1) dX9_follow_1 rfl rfl ?_
  refine q_putI (pc := 2) dX9_follow_2 lk_RX9_15 (lyUo0 hc0) ?_
  refine z_aload_n (pc := 5) dX9_follow_5 rfl rfl ?_
  refine z_iload (pc := 6) dX9_follow_6 rfl ?_
  refine q_putI (pc := 8) dX9_follow_8 lk_RX9_19 (lyUo0 hc0) ?_
  refine z_aload_n (pc := 11) dX9_follow_11 rfl rfl ?_
  refine z_iconst (pc := 12) (v := 0) dX9_follow_12 (by decide) ?_
  refine q_putB (pc := 13) dX9_follow_13 lk_RX9_22 (lyUo0 hc0) (Or.inl rfl) ?_
  refine z_aload_n (pc := 16) dX9_follow_16 rfl rfl ?_
  refine z_iconst (pc := 17) (v := 0) dX9_follow_17 (by decide) ?_
  refine q_putI (pc := 18) dX9_follow_18 lk_RX9_26 (lyUo0 hc0) ?_
  refine z_iconst (pc := 21) (v := 0) dX9_follow_21 (by decide) ?_
  refine z_istore (pc := 22) (ls' := [some (.ref c0), some (.ref c1), some (.ref c2), some (.int x3), some (.int x4), some (.int 0), none]) dX9_follow_22 (by decide) rfl ?_
  exact F
theorem g_X9_follow_24 {c0 : Nat} {c1 : Nat} {c2 : Nat} {x3 : Int32} {x4 : Int32} {x5 : Int32} {h : zHp} {Q : zHp → Prop} (hc0 : zUo c0) (hc1 : zW c1) (hc2 : zLo c2) (G : zG h) (F : (8 ≤ x5 → (Q h)) ∧ (¬ (8 ≤ x5) → ((rI h c0 1 ≤ 0 → (Q h)) ∧ (¬ (rI h c0 1 ≤ 0) → ((¬ rI h c0 2 = 0 → (Q h)) ∧ (rI h c0 2 = 0 → (zcI M_X9_pickRule [.ref c0, .ref c1, .ref c2] h (fun vh1 h1 => zG h1 ∧ ((¬ vh1 = -1 → (vp_in vh1 8 ∧ (zRef h1 (c1 + 3) ((Int32.toNatClampNeg vh1)) 5 ∧ (zcV M_X9_meet [.ref c0, .ref (rG h1 (c1 + 3) ((Int32.toNatClampNeg vh1))), .int vh1] (wI h1 c0 3 ((rI h1 c0 3) ||| (1 <<< (vh1 &&& 31)))) (fun h2 => zG h2 ∧ (zlV M_X9_follow 24 [some (.ref c0), some (.ref c1), some (.ref c2), some (.int x3), some (.int x4), some (.int (x5 + 1)), none] [] h2 Q)))))) ∧ (vh1 = -1 → (Q h1))))))))))) : zlV M_X9_follow 24 [some (.ref c0), some (.ref c1), some (.ref c2), some (.int x3), some (.int x4), some (.int x5), none] [] h Q := by
  refine z_iload (pc := 24) dX9_follow_24 rfl ?_
  refine z_bipush (pc := 26) (v := 8) dX9_follow_26 (by decide) ?_
  refine z_icmp_ge (pc := 28) (tgt := 92) dX9_follow_28 (by decide) (fun k8 => ?_) (fun k8 => ?_)
  · replace F := F.1 k8
    exact q_retV (pc := 92) dX9_follow_92 rfl F
  · replace F := F.2 k8
    refine z_aload_n (pc := 31) dX9_follow_31 rfl rfl ?_
    refine q_getI (pc := 32) (v := rI h c0 1) dX9_follow_32 lk_RX9_19 (lyUo0 hc0) rfl ?_
    refine z_if_le (pc := 35) (tgt := 92) dX9_follow_35 (by decide) (fun k7 => ?_) (fun k7 => ?_)
    · replace F := F.1 k7
      exact q_retV (pc := 92) dX9_follow_92 rfl F
    · replace F := F.2 k7
      refine z_aload_n (pc := 38) dX9_follow_38 rfl rfl ?_
      refine q_getI (pc := 39) (v := rI h c0 2) dX9_follow_39 lk_RX9_22 (lyUo0 hc0) rfl ?_
      refine z_if_ne (pc := 42) (tgt := 92) dX9_follow_42 (by decide) (fun k6 => ?_) (fun k6 => ?_)
      · replace F := F.1 k6
        exact q_retV (pc := 92) dX9_follow_92 rfl F
      · replace F := F.2 k6
        refine z_aload_n (pc := 45) dX9_follow_45 rfl rfl ?_
        refine z_aload_n (pc := 46) dX9_follow_46 rfl rfl ?_
        refine z_aload_n (pc := 47) dX9_follow_47 rfl rfl ?_
        refine q_invV (pc := 48) (As := [.ref c1, .ref c2]) (st := []) dX9_follow_48 ok_X9_pickRule ml_RX9_29 iv_X9_pickRule pa_X9_pickRule ⟨Nat.le_of_ble_eq_true rfl, Nat.le_of_ble_eq_true rfl⟩ (lyUo0 hc0) (q_kI F (fun vh1 h1 F => ?_))
        obtain ⟨G1, F⟩ := F
        refine z_istore (pc := 51) (ls' := [some (.ref c0), some (.ref c1), some (.ref c2), some (.int x3), some (.int x4), some (.int x5), some (.int vh1)]) dX9_follow_51 (by decide) rfl ?_
        refine z_iload (pc := 53) dX9_follow_53 rfl ?_
        refine z_iconst (pc := 55) (v := -1) dX9_follow_55 (by decide) ?_
        refine z_icmp_ne (pc := 56) (tgt := 60) dX9_follow_56 (by decide) (fun k5 => ?_) (fun k5 => ?_)
        · replace F := F.1 k5
          refine z_aload_n (pc := 60) dX9_follow_60 rfl rfl ?_
          refine z_dup (pc := 61) dX9_follow_61 rfl ?_
          refine q_getI (pc := 62) (v := rI h1 c0 3) dX9_follow_62 lk_RX9_26 (lyUo0 hc0) rfl ?_
          refine z_iconst (pc := 65) (v := 1) dX9_follow_65 (by decide) ?_
          refine z_iload (pc := 66) dX9_follow_66 rfl ?_
          refine z_ishl (pc := 68) dX9_follow_68 ?_
          refine z_ior (pc := 69) dX9_follow_69 ?_
          refine q_putI (pc := 70) dX9_follow_70 lk_RX9_26 (lyUo0 hc0) ?_
          refine z_aload_n (pc := 73) dX9_follow_73 rfl rfl ?_
          refine z_aload_n (pc := 74) dX9_follow_74 rfl rfl ?_
          refine q_getR (pc := 75) (i := c1 + 3) dX9_follow_75 lk_RX9_33 (lyW0 hc1) (grW4 G1 hc1) ?_
          refine z_iload (pc := 78) dX9_follow_78 rfl ?_
          obtain ⟨k2, F⟩ := F
          obtain ⟨k3, F⟩ := F
          refine q_aald (pc := 80) (j := (Int32.toNatClampNeg vh1)) (r := rG h1 (c1 + 3) ((Int32.toNatClampNeg vh1))) (t := 2) dX9_follow_80 (lyW3 hc1) (zvn (lnW3 hc1) k2) rfl k3.1 ?_
          refine z_iload (pc := 81) dX9_follow_81 rfl ?_
          refine q_invV (pc := 83) (As := [.ref (rG h1 (c1 + 3) ((Int32.toNatClampNeg vh1))), .int vh1]) (st := []) dX9_follow_83 ok_X9_meet ml_RX9_39 iv_X9_meet pa_X9_meet ⟨Nat.le_of_ble_eq_true rfl, Nat.le_of_ble_eq_true rfl⟩ (lyUo0 hc0) (q_kV F (fun h2 F => ?_))
          obtain ⟨G2, F⟩ := F
          refine z_iinc (pc := 86) (v := x5 + 1) (ls' := [some (.ref c0), some (.ref c1), some (.ref c2), some (.int x3), some (.int x4), some (.int (x5 + 1)), some (.int vh1)]) dX9_follow_86 (by decide) rfl rfl rfl ?_
          refine z_goto (pc := 89) (tgt := 24) dX9_follow_89 (by decide) ?_
          exact q_sub (ls' := [some (.ref c0), some (.ref c1), some (.ref c2), some (.int x3), some (.int x4), some (.int (x5 + 1)), none]) ⟨rfl, rfl, rfl, rfl, rfl, rfl, trivial⟩ F
        · replace F := F.2 k5
          exact q_retV (pc := 59) dX9_follow_59 rfl F
theorem g_X9_pickRule {c0 : Nat} {c1 : Nat} {c2 : Nat} {h : zHp} {Q : Int32 → zHp → Prop} (hc0 : zUo c0) (hc1 : zW c1) (hc2 : zLo c2) (G : zG h) (F : zcI M_X8_isAlive [.ref c1, .int (rI h c0 0)] h (fun vh1 h1 => zG h1 ∧ ((vh1 = 0 → (zlI M_X9_pickRule 44 [some (.ref c0), some (.ref c1), some (.ref c2), some (.int (-1)), some (.int 0), some (.int 0), none, none] [] h1 Q)) ∧ (¬ (vh1 = 0) → (vp_in (rI h1 c0 0) 8 ∧ (vp_in (rI h1 (c1 + 6 + (Int32.toNatClampNeg (rI h1 c0 0))) 0) 2 ∧ ((¬ rI h1 (c1 + 5) ((Int32.toNatClampNeg (rI h1 (c1 + 6 + (Int32.toNatClampNeg (rI h1 c0 0))) 0))) = 1 → (zlI M_X9_pickRule 44 [some (.ref c0), some (.ref c1), some (.ref c2), some (.int (-1)), some (.int 0), some (.int 0), none, none] [] h1 Q)) ∧ (rI h1 (c1 + 5) ((Int32.toNatClampNeg (rI h1 (c1 + 6 + (Int32.toNatClampNeg (rI h1 c0 0))) 0))) = 1 → (zlI M_X9_pickRule 44 [some (.ref c0), some (.ref c1), some (.ref c2), some (.int (-1)), some (.int 1), some (.int 0), none, none] [] h1 Q))))))))) : zcI M_X9_pickRule [.ref c0, .ref c1, .ref c2] h Q := by
  show zw zNT zNT M_X9_pickRule 0 [some (.ref c0), some (.ref c1), some (.ref c2), none, none, none, none, none] [] h _
  refine z_iconst (pc := 0) (v := -1) dX9_pickRule_0 (by decide) ?_
  refine z_istore_n (pc := 1) (ls' := [some (.ref c0), some (.ref c1), some (.ref c2), some (.int (-1)), none, none, none, none]) dX9_pickRule_1 rfl (by decide) rfl ?_
  refine z_aload_n (pc := 2) dX9_pickRule_2 rfl rfl ?_
  refine z_aload_n (pc := 3) dX9_pickRule_3 rfl rfl ?_
  refine q_getI (pc := 4) (v := rI h c0 0) dX9_pickRule_4 lk_RX9_15 (lyUo0 hc0) rfl ?_
  refine q_invV (pc := 7) (As := [.int (rI h c0 0)]) (st := []) dX9_pickRule_7 ok_X8_isAlive ml_RX9_43 iv_X8_isAlive pa_X8_isAlive ⟨Nat.le_of_ble_eq_true rfl, Nat.le_of_ble_eq_true rfl⟩ (lyW0 hc1) (q_kI F (fun vh1 h1 F => ?_))
  obtain ⟨G1, F⟩ := F
  refine z_if_eq (pc := 10) (tgt := 38) dX9_pickRule_10 (by decide) (fun k5 => ?_) (fun k5 => ?_)
  · replace F := F.1 k5
    refine z_iconst (pc := 38) (v := 0) dX9_pickRule_38 (by decide) ?_
    refine z_istore (pc := 39) (ls' := [some (.ref c0), some (.ref c1), some (.ref c2), some (.int (-1)), some (.int 0), none, none, none]) dX9_pickRule_39 (by decide) rfl ?_
    refine z_iconst (pc := 41) (v := 0) dX9_pickRule_41 (by decide) ?_
    refine z_istore (pc := 42) (ls' := [some (.ref c0), some (.ref c1), some (.ref c2), some (.int (-1)), some (.int 0), some (.int 0), none, none]) dX9_pickRule_42 (by decide) rfl ?_
    exact F
  · replace F := F.2 k5
    refine z_aload_n (pc := 13) dX9_pickRule_13 rfl rfl ?_
    refine q_getR (pc := 14) (i := c1 + 5) dX9_pickRule_14 lk_RX9_47 (lyW0 hc1) (grW8 G1 hc1) ?_
    refine z_aload_n (pc := 17) dX9_pickRule_17 rfl rfl ?_
    refine q_getR (pc := 18) (i := c1 + 1) dX9_pickRule_18 lk_RX9_50 (lyW0 hc1) (grW0 G1 hc1) ?_
    refine z_aload_n (pc := 21) dX9_pickRule_21 rfl rfl ?_
    refine q_getI (pc := 22) (v := rI h1 c0 0) dX9_pickRule_22 lk_RX9_15 (lyUo0 hc0) rfl ?_
    obtain ⟨k2, F⟩ := F
    refine q_aald (pc := 25) (j := (Int32.toNatClampNeg (rI h1 c0 0))) (r := c1 + 6 + (Int32.toNatClampNeg (rI h1 c0 0))) (t := 0) dX9_pickRule_25 (lyW1 hc1) (zvn (lnW1 hc1) k2) rfl (grT (B := c1) G1 hc1 (zvi k2)) ?_
    refine q_getI (pc := 26) (v := rI h1 (c1 + 6 + (Int32.toNatClampNeg (rI h1 c0 0))) 0) dX9_pickRule_26 lk_RX9_54 (lyT (B := c1) hc1 (zvi k2)) rfl ?_
    obtain ⟨k3, F⟩ := F
    refine q_iald (pc := 29) (j := (Int32.toNatClampNeg (rI h1 (c1 + 6 + (Int32.toNatClampNeg (rI h1 c0 0))) 0))) (v := rI h1 (c1 + 5) ((Int32.toNatClampNeg (rI h1 (c1 + 6 + (Int32.toNatClampNeg (rI h1 c0 0))) 0)))) dX9_pickRule_29 (lyW5 hc1) (zvn (lnW5 hc1) k3) rfl rfl ?_
    refine z_iconst (pc := 30) (v := 1) dX9_pickRule_30 (by decide) ?_
    refine z_icmp_ne (pc := 31) (tgt := 38) dX9_pickRule_31 (by decide) (fun k4 => ?_) (fun k4 => ?_)
    · replace F := F.1 k4
      refine z_iconst (pc := 38) (v := 0) dX9_pickRule_38 (by decide) ?_
      refine z_istore (pc := 39) (ls' := [some (.ref c0), some (.ref c1), some (.ref c2), some (.int (-1)), some (.int 0), none, none, none]) dX9_pickRule_39 (by decide) rfl ?_
      refine z_iconst (pc := 41) (v := 0) dX9_pickRule_41 (by decide) ?_
      refine z_istore (pc := 42) (ls' := [some (.ref c0), some (.ref c1), some (.ref c2), some (.int (-1)), some (.int 0), some (.int 0), none, none]) dX9_pickRule_42 (by decide) rfl ?_
      exact F
    · replace F := F.2 k4
      refine z_iconst (pc := 34) (v := 1) dX9_pickRule_34 (by decide) ?_
      refine z_goto (pc := 35) (tgt := 39) dX9_pickRule_35 (by decide) ?_
      refine z_istore (pc := 39) (ls' := [some (.ref c0), some (.ref c1), some (.ref c2), some (.int (-1)), some (.int 1), none, none, none]) dX9_pickRule_39 (by decide) rfl ?_
      refine z_iconst (pc := 41) (v := 0) dX9_pickRule_41 (by decide) ?_
      refine z_istore (pc := 42) (ls' := [some (.ref c0), some (.ref c1), some (.ref c2), some (.int (-1)), some (.int 1), some (.int 0), none, none]) dX9_pickRule_42 (by decide) rfl ?_
      exact F
theorem g_X9_pickRule_44 {c0 : Nat} {c1 : Nat} {c2 : Nat} {x3 : Int32} {x4 : Int32} {x5 : Int32} {h : zHp} {Q : Int32 → zHp → Prop} (hc0 : zUo c0) (hc1 : zW c1) (hc2 : zLo c2) (G : zG h) (F : (rI h c1 5 ≤ x5 → (Q x3 h)) ∧ (¬ (rI h c1 5 ≤ x5) → (vp_in x5 8 ∧ (zRef h (c1 + 3) ((Int32.toNatClampNeg x5)) 5 ∧ ((¬ rI h (rG h (c1 + 3) ((Int32.toNatClampNeg x5))) 0 = 3 → (zlI M_X9_pickRule 100 [some (.ref c0), some (.ref c1), some (.ref c2), some (.int x3), some (.int x4), some (.int x5), some (.ref (rG h (c1 + 3) ((Int32.toNatClampNeg x5)))), none] [.int 1] h Q)) ∧ (rI h (rG h (c1 + 3) ((Int32.toNatClampNeg x5))) 0 = 3 → ((rI h (rG h (c1 + 3) ((Int32.toNatClampNeg x5))) 3 = rI h c0 0 → (zlI M_X9_pickRule 100 [some (.ref c0), some (.ref c1), some (.ref c2), some (.int x3), some (.int x4), some (.int x5), some (.ref (rG h (c1 + 3) ((Int32.toNatClampNeg x5)))), none] [.int 0] h Q)) ∧ (¬ (rI h (rG h (c1 + 3) ((Int32.toNatClampNeg x5))) 3 = rI h c0 0) → (zcI M_X8_isAlive [.ref c1, .int (rI h (rG h (c1 + 3) ((Int32.toNatClampNeg x5))) 3)] h (fun vh1 h1 => zG h1 ∧ ((vh1 = 0 → (zlI M_X9_pickRule 100 [some (.ref c0), some (.ref c1), some (.ref c2), some (.int x3), some (.int x4), some (.int x5), some (.ref (rG h (c1 + 3) ((Int32.toNatClampNeg x5)))), none] [.int 0] h1 Q)) ∧ (¬ (vh1 = 0) → (zlI M_X9_pickRule 100 [some (.ref c0), some (.ref c1), some (.ref c2), some (.int x3), some (.int x4), some (.int x5), some (.ref (rG h (c1 + 3) ((Int32.toNatClampNeg x5)))), none] [.int 1] h1 Q))))))))))))) : zlI M_X9_pickRule 44 [some (.ref c0), some (.ref c1), some (.ref c2), some (.int x3), some (.int x4), some (.int x5), none, none] [] h Q := by
  refine z_iload (pc := 44) dX9_pickRule_44 rfl ?_
  refine z_aload_n (pc := 46) dX9_pickRule_46 rfl rfl ?_
  refine q_getI (pc := 47) (v := rI h c1 5) dX9_pickRule_47 lk_RX9_59 (lyW0 hc1) rfl ?_
  refine z_icmp_ge (pc := 50) (tgt := 158) dX9_pickRule_50 (by decide) (fun k7 => ?_) (fun k7 => ?_)
  · replace F := F.1 k7
    refine z_iload_n (pc := 158) dX9_pickRule_158 rfl rfl ?_
    exact q_retI (pc := 159) dX9_pickRule_159 rfl F
  · replace F := F.2 k7
    refine z_aload_n (pc := 53) dX9_pickRule_53 rfl rfl ?_
    refine q_getR (pc := 54) (i := c1 + 3) dX9_pickRule_54 lk_RX9_33 (lyW0 hc1) (grW4 G hc1) ?_
    refine z_iload (pc := 57) dX9_pickRule_57 rfl ?_
    obtain ⟨k1, F⟩ := F
    obtain ⟨k2, F⟩ := F
    refine q_aald (pc := 59) (j := (Int32.toNatClampNeg x5)) (r := rG h (c1 + 3) ((Int32.toNatClampNeg x5))) (t := 2) dX9_pickRule_59 (lyW3 hc1) (zvn (lnW3 hc1) k1) rfl k2.1 ?_
    refine z_astore (pc := 60) (ls' := [some (.ref c0), some (.ref c1), some (.ref c2), some (.int x3), some (.int x4), some (.int x5), some (.ref (rG h (c1 + 3) ((Int32.toNatClampNeg x5)))), none]) dX9_pickRule_60 (by decide) rfl ?_
    refine z_aload (pc := 62) dX9_pickRule_62 rfl ?_
    refine q_getI (pc := 64) (v := rI h (rG h (c1 + 3) ((Int32.toNatClampNeg x5))) 0) dX9_pickRule_64 lk_RX9_62 k2.2 rfl ?_
    refine z_iconst (pc := 67) (v := 3) dX9_pickRule_67 (by decide) ?_
    refine z_icmp_ne (pc := 68) (tgt := 95) dX9_pickRule_68 (by decide) (fun k6 => ?_) (fun k6 => ?_)
    · replace F := F.1 k6
      refine z_iconst (pc := 95) (v := 1) dX9_pickRule_95 (by decide) ?_
      refine z_goto (pc := 96) (tgt := 100) dX9_pickRule_96 (by decide) ?_
      exact F
    · replace F := F.2 k6
      refine z_aload (pc := 71) dX9_pickRule_71 rfl ?_
      refine q_getI (pc := 73) (v := rI h (rG h (c1 + 3) ((Int32.toNatClampNeg x5))) 3) dX9_pickRule_73 lk_RX9_67 k2.2 rfl ?_
      refine z_aload_n (pc := 76) dX9_pickRule_76 rfl rfl ?_
      refine q_getI (pc := 77) (v := rI h c0 0) dX9_pickRule_77 lk_RX9_15 (lyUo0 hc0) rfl ?_
      refine z_icmp_eq (pc := 80) (tgt := 99) dX9_pickRule_80 (by decide) (fun k5 => ?_) (fun k5 => ?_)
      · replace F := F.1 k5
        refine z_iconst (pc := 99) (v := 0) dX9_pickRule_99 (by decide) ?_
        exact F
      · replace F := F.2 k5
        refine z_aload_n (pc := 83) dX9_pickRule_83 rfl rfl ?_
        refine z_aload (pc := 84) dX9_pickRule_84 rfl ?_
        refine q_getI (pc := 86) (v := rI h (rG h (c1 + 3) ((Int32.toNatClampNeg x5))) 3) dX9_pickRule_86 lk_RX9_67 k2.2 rfl ?_
        refine q_invV (pc := 89) (As := [.int (rI h (rG h (c1 + 3) ((Int32.toNatClampNeg x5))) 3)]) (st := []) dX9_pickRule_89 ok_X8_isAlive ml_RX9_43 iv_X8_isAlive pa_X8_isAlive ⟨Nat.le_of_ble_eq_true rfl, Nat.le_of_ble_eq_true rfl⟩ (lyW0 hc1) (q_kI F (fun vh1 h1 F => ?_))
        obtain ⟨G1, F⟩ := F
        refine z_if_eq (pc := 92) (tgt := 99) dX9_pickRule_92 (by decide) (fun k4 => ?_) (fun k4 => ?_)
        · replace F := F.1 k4
          refine z_iconst (pc := 99) (v := 0) dX9_pickRule_99 (by decide) ?_
          exact F
        · replace F := F.2 k4
          refine z_iconst (pc := 95) (v := 1) dX9_pickRule_95 (by decide) ?_
          refine z_goto (pc := 96) (tgt := 100) dX9_pickRule_96 (by decide) ?_
          exact F
theorem g_X9_pickRule_100 {c0 : Nat} {c1 : Nat} {c2 : Nat} {x3 : Int32} {x4 : Int32} {x5 : Int32} {c6 : Nat} {xs0 : Int32} {h : zHp} {Q : Int32 → zHp → Prop} (hc0 : zUo c0) (hc1 : zW c1) (hc2 : zLo c2) (hc6 : ly c6 = 5) (G : zG h) (F : (xs0 = 0 → (zlI M_X9_pickRule 44 [some (.ref c0), some (.ref c1), some (.ref c2), some (.int x3), some (.int x4), some (.int (x5 + 1)), none, none] [] h Q)) ∧ (¬ (xs0 = 0) → ((¬ ((rI h c0 3) >>> (x5 &&& 31)) &&& 1 = 0 → (zlI M_X9_pickRule 44 [some (.ref c0), some (.ref c1), some (.ref c2), some (.int x3), some (.int x4), some (.int (x5 + 1)), none, none] [] h Q)) ∧ (((rI h c0 3) >>> (x5 &&& 31)) &&& 1 = 0 → (zcI M_X2_holds [.ref c2, .ref c1, .int (rI h c0 0), .int (rI h c6 1), .int (rI h c6 2)] h (fun vh1 h1 => zG h1 ∧ ((vh1 = 0 → (zlI M_X9_pickRule 44 [some (.ref c0), some (.ref c1), some (.ref c2), some (.int x3), some (.int x4), some (.int (x5 + 1)), none, none] [] h1 Q)) ∧ (¬ (vh1 = 0) → ((¬ x4 = 0 → (zlI M_X9_pickRule 44 [some (.ref c0), some (.ref c1), some (.ref c2), some (.int x5), some (.int x4), some (.int (x5 + 1)), none, none] [] h1 Q)) ∧ (x4 = 0 → (Q x5 h1))))))))))) : zlI M_X9_pickRule 100 [some (.ref c0), some (.ref c1), some (.ref c2), some (.int x3), some (.int x4), some (.int x5), some (.ref c6), none] [.int xs0] h Q := by
  refine z_istore (pc := 100) (ls' := [some (.ref c0), some (.ref c1), some (.ref c2), some (.int x3), some (.int x4), some (.int x5), some (.ref c6), some (.int xs0)]) dX9_pickRule_100 (by decide) rfl ?_
  refine z_iload (pc := 102) dX9_pickRule_102 rfl ?_
  refine z_if_eq (pc := 104) (tgt := 152) dX9_pickRule_104 (by decide) (fun k5 => ?_) (fun k5 => ?_)
  · replace F := F.1 k5
    refine z_iinc (pc := 152) (v := x5 + 1) (ls' := [some (.ref c0), some (.ref c1), some (.ref c2), some (.int x3), some (.int x4), some (.int (x5 + 1)), some (.ref c6), some (.int xs0)]) dX9_pickRule_152 (by decide) rfl rfl rfl ?_
    refine z_goto (pc := 155) (tgt := 44) dX9_pickRule_155 (by decide) ?_
    exact q_sub (ls' := [some (.ref c0), some (.ref c1), some (.ref c2), some (.int x3), some (.int x4), some (.int (x5 + 1)), none, none]) ⟨rfl, rfl, rfl, rfl, rfl, rfl, trivial⟩ F
  · replace F := F.2 k5
    refine z_aload_n (pc := 107) dX9_pickRule_107 rfl rfl ?_
    refine q_getI (pc := 108) (v := rI h c0 3) dX9_pickRule_108 lk_RX9_26 (lyUo0 hc0) rfl ?_
    refine z_iload (pc := 111) dX9_pickRule_111 rfl ?_
    refine z_ishr (pc := 113) dX9_pickRule_113 ?_
    refine z_iconst (pc := 114) (v := 1) dX9_pickRule_114 (by decide) ?_
    refine z_iand (pc := 115) dX9_pickRule_115 ?_
    refine z_if_ne (pc := 116) (tgt := 152) dX9_pickRule_116 (by decide) (fun k4 => ?_) (fun k4 => ?_)
    · replace F := F.1 k4
      refine z_iinc (pc := 152) (v := x5 + 1) (ls' := [some (.ref c0), some (.ref c1), some (.ref c2), some (.int x3), some (.int x4), some (.int (x5 + 1)), some (.ref c6), some (.int xs0)]) dX9_pickRule_152 (by decide) rfl rfl rfl ?_
      refine z_goto (pc := 155) (tgt := 44) dX9_pickRule_155 (by decide) ?_
      exact q_sub (ls' := [some (.ref c0), some (.ref c1), some (.ref c2), some (.int x3), some (.int x4), some (.int (x5 + 1)), none, none]) ⟨rfl, rfl, rfl, rfl, rfl, rfl, trivial⟩ F
    · replace F := F.2 k4
      refine z_aload_n (pc := 119) dX9_pickRule_119 rfl rfl ?_
      refine z_aload_n (pc := 120) dX9_pickRule_120 rfl rfl ?_
      refine z_aload_n (pc := 121) dX9_pickRule_121 rfl rfl ?_
      refine q_getI (pc := 122) (v := rI h c0 0) dX9_pickRule_122 lk_RX9_15 (lyUo0 hc0) rfl ?_
      refine z_aload (pc := 125) dX9_pickRule_125 rfl ?_
      refine q_getI (pc := 127) (v := rI h c6 1) dX9_pickRule_127 lk_RX9_70 hc6 rfl ?_
      refine z_aload (pc := 130) dX9_pickRule_130 rfl ?_
      refine q_getI (pc := 132) (v := rI h c6 2) dX9_pickRule_132 lk_RX9_73 hc6 rfl ?_
      refine q_invV (pc := 135) (As := [.ref c1, .int (rI h c0 0), .int (rI h c6 1), .int (rI h c6 2)]) (st := []) dX9_pickRule_135 ok_X2_holds ml_RX9_76 iv_X2_holds pa_X2_holds ⟨Nat.le_of_ble_eq_true rfl, Nat.le_of_ble_eq_true rfl⟩ (lyLo0 hc2) (q_kI F (fun vh1 h1 F => ?_))
      obtain ⟨G1, F⟩ := F
      refine z_if_eq (pc := 138) (tgt := 152) dX9_pickRule_138 (by decide) (fun k3 => ?_) (fun k3 => ?_)
      · replace F := F.1 k3
        refine z_iinc (pc := 152) (v := x5 + 1) (ls' := [some (.ref c0), some (.ref c1), some (.ref c2), some (.int x3), some (.int x4), some (.int (x5 + 1)), some (.ref c6), some (.int xs0)]) dX9_pickRule_152 (by decide) rfl rfl rfl ?_
        refine z_goto (pc := 155) (tgt := 44) dX9_pickRule_155 (by decide) ?_
        exact q_sub (ls' := [some (.ref c0), some (.ref c1), some (.ref c2), some (.int x3), some (.int x4), some (.int (x5 + 1)), none, none]) ⟨rfl, rfl, rfl, rfl, rfl, rfl, trivial⟩ F
      · replace F := F.2 k3
        refine z_iload (pc := 141) dX9_pickRule_141 rfl ?_
        refine z_if_ne (pc := 143) (tgt := 149) dX9_pickRule_143 (by decide) (fun k2 => ?_) (fun k2 => ?_)
        · replace F := F.1 k2
          refine z_iload (pc := 149) dX9_pickRule_149 rfl ?_
          refine z_istore_n (pc := 151) (ls' := [some (.ref c0), some (.ref c1), some (.ref c2), some (.int x5), some (.int x4), some (.int x5), some (.ref c6), some (.int xs0)]) dX9_pickRule_151 rfl (by decide) rfl ?_
          refine z_iinc (pc := 152) (v := x5 + 1) (ls' := [some (.ref c0), some (.ref c1), some (.ref c2), some (.int x5), some (.int x4), some (.int (x5 + 1)), some (.ref c6), some (.int xs0)]) dX9_pickRule_152 (by decide) rfl rfl rfl ?_
          refine z_goto (pc := 155) (tgt := 44) dX9_pickRule_155 (by decide) ?_
          exact q_sub (ls' := [some (.ref c0), some (.ref c1), some (.ref c2), some (.int x5), some (.int x4), some (.int (x5 + 1)), none, none]) ⟨rfl, rfl, rfl, rfl, rfl, rfl, trivial⟩ F
        · replace F := F.2 k2
          refine z_iload (pc := 146) dX9_pickRule_146 rfl ?_
          exact q_retI (pc := 148) dX9_pickRule_148 rfl F
theorem g_X9_meet {c0 : Nat} {c1 : Nat} {x2 : Int32} {h : zHp} {Q : zHp → Prop} (hc0 : zUo c0) (hc1 : ly c1 = 5) (G : zG h) (F : vp_in x2 8 ∧ ((rI h c1 0 = 0 → (Q (wI (wI (wI h (c0 + 1) ((Int32.toNatClampNeg x2)) 0) (c0 + 1) ((Int32.toNatClampNeg x2)) (if rI h c0 1 < rI h c1 3 then rI h c0 1 else rI h c1 3)) c0 1 ((rI h c0 1) - (if rI h c0 1 < rI h c1 3 then rI h c0 1 else rI h c1 3))))) ∧ (¬ rI h c1 0 = 0 → ((rI h c1 0 = 1 → (Q (wI (wI h (c0 + 1) ((Int32.toNatClampNeg x2)) 0) c0 1 ((rI h c0 1) - ((rI h c0 1) / 2))))) ∧ (¬ rI h c1 0 = 1 → ((rI h c1 0 = 2 → (Q (wI (wI h (c0 + 1) ((Int32.toNatClampNeg x2)) 0) c0 1 (if (rI h c0 1) * 2 < (999 : Int32) then (rI h c0 1) * 2 else 999)))) ∧ (¬ rI h c1 0 = 2 → ((rI h c1 0 = 3 → (Q (wI (wI h (c0 + 1) ((Int32.toNatClampNeg x2)) 0) c0 0 (rI h c1 3)))) ∧ (¬ rI h c1 0 = 3 → (Q (wI (wI h (c0 + 1) ((Int32.toNatClampNeg x2)) 0) c0 2 1))))))))))) : zcV M_X9_meet [.ref c0, .ref c1, .int x2] h Q := by
  show zw zNT zNT M_X9_meet 0 [some (.ref c0), some (.ref c1), some (.int x2)] [] h _
  refine z_aload_n (pc := 0) dX9_meet_0 rfl rfl ?_
  refine q_getR (pc := 1) (i := c0 + 1) dX9_meet_1 lk_RX9_9 (lyUo0 hc0) (grUo4 G hc0) ?_
  refine z_iload_n (pc := 4) dX9_meet_4 rfl rfl ?_
  refine z_iconst (pc := 5) (v := 0) dX9_meet_5 (by decide) ?_
  obtain ⟨k1, F⟩ := F
  refine q_iast (pc := 6) (j := (Int32.toNatClampNeg x2)) dX9_meet_6 (lyUo1 hc0) (zvn (lnUo1 hc0) k1) rfl ?_
  refine z_aload_n (pc := 7) dX9_meet_7 rfl rfl ?_
  refine q_getI (pc := 8) (v := rI h c1 0) dX9_meet_8 lk_RX9_62 hc1 (rI_c (zne hc1 (lyUo1 hc0) (by decide))) ?_
  by_cases k2 : rI h c1 0 = 0
  · replace F := F.1 k2
    refine z_tableIn (pc := 11) (x := rI h c1 0) (tgt := 40) (off := 29) dX9_meet_11 (by rw [k2]; decide) (by rw [k2]; decide) (by rw [k2]; decide) (by decide) ?_
    refine z_aload_n (pc := 40) dX9_meet_40 rfl rfl ?_
    refine q_getR (pc := 41) (i := c0 + 1) dX9_meet_41 lk_RX9_9 (lyUo0 hc0) (grUo4 G hc0) ?_
    refine z_iload_n (pc := 44) dX9_meet_44 rfl rfl ?_
    refine z_aload_n (pc := 45) dX9_meet_45 rfl rfl ?_
    refine q_getI (pc := 46) (v := rI h c1 3) dX9_meet_46 lk_RX9_67 hc1 (rI_c (zne hc1 (lyUo1 hc0) (by decide))) ?_
    refine z_aload_n (pc := 49) dX9_meet_49 rfl rfl ?_
    refine q_getI (pc := 50) (v := rI h c0 1) dX9_meet_50 lk_RX9_19 (lyUo0 hc0) (rI_c (zne (lyUo0 hc0) (lyUo1 hc0) (by decide))) ?_
    refine z_min (pc := 53) dX9_meet_53 ⟨pl_RX9_82, pw_minS, pw_Math, pw_minC⟩ (zcat_of rfl) ⟨Nat.le_of_ble_eq_true rfl, Nat.le_of_ble_eq_true rfl⟩ ?_
    refine q_iast (pc := 56) (j := (Int32.toNatClampNeg x2)) dX9_meet_56 (lyUo1 hc0) (zvn (lnUo1 hc0) k1) rfl ?_
    refine z_aload_n (pc := 57) dX9_meet_57 rfl rfl ?_
    refine z_dup (pc := 58) dX9_meet_58 rfl ?_
    refine q_getI (pc := 59) (v := rI h c0 1) dX9_meet_59 lk_RX9_19 (lyUo0 hc0) ((rI_c (zne (lyUo0 hc0) (lyUo1 hc0) (by decide))).trans (rI_c (zne (lyUo0 hc0) (lyUo1 hc0) (by decide)))) ?_
    refine z_aload_n (pc := 62) dX9_meet_62 rfl rfl ?_
    refine q_getR (pc := 63) (i := c0 + 1) dX9_meet_63 lk_RX9_9 (lyUo0 hc0) (grUo4 G hc0) ?_
    refine z_iload_n (pc := 66) dX9_meet_66 rfl rfl ?_
    refine q_iald (pc := 67) (j := (Int32.toNatClampNeg x2)) (v := if rI h c0 1 < rI h c1 3 then rI h c0 1 else rI h c1 3) dX9_meet_67 (lyUo1 hc0) (zvn (lnUo1 hc0) k1) rfl rI_s ?_
    refine z_isub (pc := 68) dX9_meet_68 ?_
    refine q_putI (pc := 69) dX9_meet_69 lk_RX9_19 (lyUo0 hc0) ?_
    refine z_goto (pc := 72) (tgt := 128) dX9_meet_72 (by decide) ?_
    exact q_retV (pc := 128) dX9_meet_128 rfl F
  · replace F := F.2 k2
    by_cases k3 : rI h c1 0 = 1
    · replace F := F.1 k3
      refine z_tableIn (pc := 11) (x := rI h c1 0) (tgt := 75) (off := 64) dX9_meet_11 (by rw [k3]; decide) (by rw [k3]; decide) (by rw [k3]; decide) (by decide) ?_
      refine z_aload_n (pc := 75) dX9_meet_75 rfl rfl ?_
      refine z_dup (pc := 76) dX9_meet_76 rfl ?_
      refine q_getI (pc := 77) (v := rI h c0 1) dX9_meet_77 lk_RX9_19 (lyUo0 hc0) (rI_c (zne (lyUo0 hc0) (lyUo1 hc0) (by decide))) ?_
      refine z_aload_n (pc := 80) dX9_meet_80 rfl rfl ?_
      refine q_getI (pc := 81) (v := rI h c0 1) dX9_meet_81 lk_RX9_19 (lyUo0 hc0) (rI_c (zne (lyUo0 hc0) (lyUo1 hc0) (by decide))) ?_
      refine z_iconst (pc := 84) (v := 2) dX9_meet_84 (by decide) ?_
      refine z_idiv (pc := 85) dX9_meet_85 (by decide) ?_
      refine z_isub (pc := 86) dX9_meet_86 ?_
      refine q_putI (pc := 87) dX9_meet_87 lk_RX9_19 (lyUo0 hc0) ?_
      refine z_goto (pc := 90) (tgt := 128) dX9_meet_90 (by decide) ?_
      exact q_retV (pc := 128) dX9_meet_128 rfl F
    · replace F := F.2 k3
      by_cases k4 : rI h c1 0 = 2
      · replace F := F.1 k4
        refine z_tableIn (pc := 11) (x := rI h c1 0) (tgt := 93) (off := 82) dX9_meet_11 (by rw [k4]; decide) (by rw [k4]; decide) (by rw [k4]; decide) (by decide) ?_
        refine z_aload_n (pc := 93) dX9_meet_93 rfl rfl ?_
        refine z_sipush (pc := 94) (v := 999) dX9_meet_94 (by decide) ?_
        refine z_aload_n (pc := 97) dX9_meet_97 rfl rfl ?_
        refine q_getI (pc := 98) (v := rI h c0 1) dX9_meet_98 lk_RX9_19 (lyUo0 hc0) (rI_c (zne (lyUo0 hc0) (lyUo1 hc0) (by decide))) ?_
        refine z_iconst (pc := 101) (v := 2) dX9_meet_101 (by decide) ?_
        refine z_imul (pc := 102) dX9_meet_102 ?_
        refine z_min (pc := 103) dX9_meet_103 ⟨pl_RX9_82, pw_minS, pw_Math, pw_minC⟩ (zcat_of rfl) ⟨Nat.le_of_ble_eq_true rfl, Nat.le_of_ble_eq_true rfl⟩ ?_
        refine q_putI (pc := 106) dX9_meet_106 lk_RX9_19 (lyUo0 hc0) ?_
        refine z_goto (pc := 109) (tgt := 128) dX9_meet_109 (by decide) ?_
        exact q_retV (pc := 128) dX9_meet_128 rfl F
      · replace F := F.2 k4
        by_cases k5 : rI h c1 0 = 3
        · replace F := F.1 k5
          refine z_tableIn (pc := 11) (x := rI h c1 0) (tgt := 112) (off := 101) dX9_meet_11 (by rw [k5]; decide) (by rw [k5]; decide) (by rw [k5]; decide) (by decide) ?_
          refine z_aload_n (pc := 112) dX9_meet_112 rfl rfl ?_
          refine z_aload_n (pc := 113) dX9_meet_113 rfl rfl ?_
          refine q_getI (pc := 114) (v := rI h c1 3) dX9_meet_114 lk_RX9_67 hc1 (rI_c (zne hc1 (lyUo1 hc0) (by decide))) ?_
          refine q_putI (pc := 117) dX9_meet_117 lk_RX9_15 (lyUo0 hc0) ?_
          refine z_goto (pc := 120) (tgt := 128) dX9_meet_120 (by decide) ?_
          exact q_retV (pc := 128) dX9_meet_128 rfl F
        · replace F := F.2 k5
          have hz0 := q_sw (0) k2 (by decide)
          have hz1 := q_sw (1) k3 (by decide)
          have hz2 := q_sw (2) k4 (by decide)
          have hz3 := q_sw (3) k5 (by decide)
          refine z_tableOut (pc := 11) (tgt := 123) dX9_meet_11 (by omega) (by decide) ?_
          refine z_aload_n (pc := 123) dX9_meet_123 rfl rfl ?_
          refine z_iconst (pc := 124) (v := 1) dX9_meet_124 (by decide) ?_
          refine q_putB (pc := 125) dX9_meet_125 lk_RX9_22 (lyUo0 hc0) (Or.inr rfl) ?_
          exact q_retV (pc := 128) dX9_meet_128 rfl F
theorem g_X10_clear  {h : zHp} {Q : Int32 → zHp → Prop}  (G : zG h) (F : zcV M_X8_empty [.ref 2] h (fun h1 => zG h1 ∧ (zcV M_X2_make [.ref 42, .ref 2, .int 5] (wI h1 0 11 0) (fun h2 => zG h2 ∧ (Q (rI h 2 1) h2))))) : zcI M_X10_clear [.ref 0] h Q := by
  show zw zNT zNT M_X10_clear 0 [some (.ref 0), none] [] h _
  refine z_aload_n (pc := 0) dX10_clear_0 rfl rfl ?_
  refine q_getR (pc := 1) (i := 2) dX10_clear_1 lk_RX10_20 (lyc rfl) (G 0 1 2 rfl) ?_
  refine q_getI (pc := 4) (v := rI h 2 1) dX10_clear_4 lk_RX10_68 (lyc rfl) rfl ?_
  refine z_istore_n (pc := 7) (ls' := [some (.ref 0), some (.int (rI h 2 1))]) dX10_clear_7 rfl (by decide) rfl ?_
  refine z_aload_n (pc := 8) dX10_clear_8 rfl rfl ?_
  refine q_getR (pc := 9) (i := 2) dX10_clear_9 lk_RX10_20 (lyc rfl) (G 0 1 2 rfl) ?_
  refine q_invV (pc := 12) (As := []) (st := []) dX10_clear_12 ok_X8_empty ml_RX10_72 iv_X8_empty pa_X8_empty ⟨Nat.le_of_ble_eq_true rfl, Nat.le_of_ble_eq_true rfl⟩ (lyc rfl) (q_kV F (fun h1 F => ?_))
  obtain ⟨G1, F⟩ := F
  refine z_aload_n (pc := 15) dX10_clear_15 rfl rfl ?_
  refine z_iconst (pc := 16) (v := 0) dX10_clear_16 (by decide) ?_
  refine q_putI (pc := 17) dX10_clear_17 lk_RX10_75 (lyc rfl) ?_
  refine z_aload_n (pc := 20) dX10_clear_20 rfl rfl ?_
  refine q_getR (pc := 21) (i := 42) dX10_clear_21 lk_RX10_27 (lyc rfl) (G1 0 2 42 rfl) ?_
  refine z_aload_n (pc := 24) dX10_clear_24 rfl rfl ?_
  refine q_getR (pc := 25) (i := 2) dX10_clear_25 lk_RX10_20 (lyc rfl) (G1 0 1 2 rfl) ?_
  refine z_iconst (pc := 28) (v := 5) dX10_clear_28 (by decide) ?_
  refine q_invV (pc := 29) (As := [.ref 2, .int 5]) (st := []) dX10_clear_29 ok_X2_make ml_RX10_78 iv_X2_make pa_X2_make ⟨Nat.le_of_ble_eq_true rfl, Nat.le_of_ble_eq_true rfl⟩ (lyc rfl) (q_kV F (fun h2 F => ?_))
  obtain ⟨G2, F⟩ := F
  refine z_iload_n (pc := 32) dX10_clear_32 rfl rfl ?_
  exact q_retI (pc := 33) dX10_clear_33 rfl F
theorem g_X10_thing {x1 : Int32} {x2 : Int32} {x3 : Int32} {x4 : Int32} {h : zHp} {Q : Int32 → zHp → Prop}  (G : zG h) (F : zcI M_X10_within [.int x1, .int 0, .int 1] h (fun vh1 h1 => zG h1 ∧ ((vh1 = 0 → (Q (-2) h1)) ∧ (¬ (vh1 = 0) → (zcI M_X10_within [.int x2, .int 0, .int 5] h1 (fun vh2 h2 => zG h2 ∧ ((¬ vh2 = 0 → (zcI M_X10_within [.int x3, .int 0, .int 99] h2 (fun vh3 h3 => zG h3 ∧ ((vh3 = 0 → (Q (-2) h3)) ∧ (¬ (vh3 = 0) → (zcI M_X10_within [.int x4, .int 0, .int 99] h3 (fun vh4 h4 => zG h4 ∧ ((¬ vh4 = 0 → ((rI h4 2 1 < 8 → (zcV M_X8_addThing [.ref 2, .int x1, .int x2, .int x3, .int x4] h4 (fun h5 => zG h5 ∧ (zcV M_X0_settle [.ref 1, .int 0] h5 (fun h6 => zG h6 ∧ (Q (rI h4 2 1) h6)))))) ∧ (¬ (rI h4 2 1 < 8) → (Q (-4) h4)))) ∧ (vh4 = 0 → (Q (-2) h4)))))))))) ∧ (vh2 = 0 → (Q (-2) h2))))))))) : zcI M_X10_thing [.ref 0, .int x1, .int x2, .int x3, .int x4] h Q := by
  show zw zNT zNT M_X10_thing 0 [some (.ref 0), some (.int x1), some (.int x2), some (.int x3), some (.int x4), none] [] h _
  refine z_iload_n (pc := 0) dX10_thing_0 rfl rfl ?_
  refine z_iconst (pc := 1) (v := 0) dX10_thing_1 (by decide) ?_
  refine z_iconst (pc := 2) (v := 1) dX10_thing_2 (by decide) ?_
  refine q_invS (pc := 3) (As := [.int x1, .int 0, .int 1]) (st := []) dX10_thing_3 ok_X10_within ml_RX10_82 st_X10_within pa_X10_within ⟨Nat.le_of_ble_eq_true rfl, Nat.le_of_ble_eq_true rfl⟩ (q_kI F (fun vh1 h1 F => ?_))
  obtain ⟨G1, F⟩ := F
  refine z_if_eq (pc := 6) (tgt := 18) dX10_thing_6 (by decide) (fun k11 => ?_) (fun k11 => ?_)
  · replace F := F.1 k11
    refine z_bipush (pc := 18) (v := -2) dX10_thing_18 (by decide) ?_
    exact q_retI (pc := 20) dX10_thing_20 rfl F
  · replace F := F.2 k11
    refine z_iload_n (pc := 9) dX10_thing_9 rfl rfl ?_
    refine z_iconst (pc := 10) (v := 0) dX10_thing_10 (by decide) ?_
    refine z_iconst (pc := 11) (v := 5) dX10_thing_11 (by decide) ?_
    refine q_invS (pc := 12) (As := [.int x2, .int 0, .int 5]) (st := []) dX10_thing_12 ok_X10_within ml_RX10_82 st_X10_within pa_X10_within ⟨Nat.le_of_ble_eq_true rfl, Nat.le_of_ble_eq_true rfl⟩ (q_kI F (fun vh2 h2 F => ?_))
    obtain ⟨G2, F⟩ := F
    refine z_if_ne (pc := 15) (tgt := 21) dX10_thing_15 (by decide) (fun k10 => ?_) (fun k10 => ?_)
    · replace F := F.1 k10
      refine z_iload_n (pc := 21) dX10_thing_21 rfl rfl ?_
      refine z_iconst (pc := 22) (v := 0) dX10_thing_22 (by decide) ?_
      refine z_bipush (pc := 23) (v := 99) dX10_thing_23 (by decide) ?_
      refine q_invS (pc := 25) (As := [.int x3, .int 0, .int 99]) (st := []) dX10_thing_25 ok_X10_within ml_RX10_82 st_X10_within pa_X10_within ⟨Nat.le_of_ble_eq_true rfl, Nat.le_of_ble_eq_true rfl⟩ (q_kI F (fun vh3 h3 F => ?_))
      obtain ⟨G3, F⟩ := F
      refine z_if_eq (pc := 28) (tgt := 42) dX10_thing_28 (by decide) (fun k9 => ?_) (fun k9 => ?_)
      · replace F := F.1 k9
        refine z_bipush (pc := 42) (v := -2) dX10_thing_42 (by decide) ?_
        exact q_retI (pc := 44) dX10_thing_44 rfl F
      · replace F := F.2 k9
        refine z_iload (pc := 31) dX10_thing_31 rfl ?_
        refine z_iconst (pc := 33) (v := 0) dX10_thing_33 (by decide) ?_
        refine z_bipush (pc := 34) (v := 99) dX10_thing_34 (by decide) ?_
        refine q_invS (pc := 36) (As := [.int x4, .int 0, .int 99]) (st := []) dX10_thing_36 ok_X10_within ml_RX10_82 st_X10_within pa_X10_within ⟨Nat.le_of_ble_eq_true rfl, Nat.le_of_ble_eq_true rfl⟩ (q_kI F (fun vh4 h4 F => ?_))
        obtain ⟨G4, F⟩ := F
        refine z_if_ne (pc := 39) (tgt := 45) dX10_thing_39 (by decide) (fun k8 => ?_) (fun k8 => ?_)
        · replace F := F.1 k8
          refine z_aload_n (pc := 45) dX10_thing_45 rfl rfl ?_
          refine q_getR (pc := 46) (i := 2) dX10_thing_46 lk_RX10_20 (lyc rfl) (G4 0 1 2 rfl) ?_
          refine q_getI (pc := 49) (v := rI h4 2 1) dX10_thing_49 lk_RX10_68 (lyc rfl) rfl ?_
          refine z_bipush (pc := 52) (v := 8) dX10_thing_52 (by decide) ?_
          refine z_icmp_lt (pc := 54) (tgt := 60) dX10_thing_54 (by decide) (fun k7 => ?_) (fun k7 => ?_)
          · replace F := F.1 k7
            refine z_aload_n (pc := 60) dX10_thing_60 rfl rfl ?_
            refine q_getR (pc := 61) (i := 2) dX10_thing_61 lk_RX10_20 (lyc rfl) (G4 0 1 2 rfl) ?_
            refine q_getI (pc := 64) (v := rI h4 2 1) dX10_thing_64 lk_RX10_68 (lyc rfl) rfl ?_
            refine z_istore (pc := 67) (ls' := [some (.ref 0), some (.int x1), some (.int x2), some (.int x3), some (.int x4), some (.int (rI h4 2 1))]) dX10_thing_67 (by decide) rfl ?_
            refine z_aload_n (pc := 69) dX10_thing_69 rfl rfl ?_
            refine q_getR (pc := 70) (i := 2) dX10_thing_70 lk_RX10_20 (lyc rfl) (G4 0 1 2 rfl) ?_
            refine z_iload_n (pc := 73) dX10_thing_73 rfl rfl ?_
            refine z_iload_n (pc := 74) dX10_thing_74 rfl rfl ?_
            refine z_iload_n (pc := 75) dX10_thing_75 rfl rfl ?_
            refine z_iload (pc := 76) dX10_thing_76 rfl ?_
            refine q_invV (pc := 78) (As := [.int x1, .int x2, .int x3, .int x4]) (st := []) dX10_thing_78 ok_X8_addThing ml_RX10_86 iv_X8_addThing pa_X8_addThing ⟨Nat.le_of_ble_eq_true rfl, Nat.le_of_ble_eq_true rfl⟩ (lyc rfl) (q_kV F (fun h5 F => ?_))
            obtain ⟨G5, F⟩ := F
            refine z_aload_n (pc := 81) dX10_thing_81 rfl rfl ?_
            refine q_getR (pc := 82) (i := 1) dX10_thing_82 lk_RX10_10 (lyc rfl) (G5 0 0 1 rfl) ?_
            refine z_iconst (pc := 85) (v := 0) dX10_thing_85 (by decide) ?_
            refine q_invV (pc := 86) (As := [.int 0]) (st := []) dX10_thing_86 ok_X0_settle ml_RX10_90 iv_X0_settle pa_X0_settle ⟨Nat.le_of_ble_eq_true rfl, Nat.le_of_ble_eq_true rfl⟩ (lyc rfl) (q_kV F (fun h6 F => ?_))
            obtain ⟨G6, F⟩ := F
            refine z_iload (pc := 89) dX10_thing_89 rfl ?_
            exact q_retI (pc := 91) dX10_thing_91 rfl F
          · replace F := F.2 k7
            refine z_bipush (pc := 57) (v := -4) dX10_thing_57 (by decide) ?_
            exact q_retI (pc := 59) dX10_thing_59 rfl F
        · replace F := F.2 k8
          refine z_bipush (pc := 42) (v := -2) dX10_thing_42 (by decide) ?_
          exact q_retI (pc := 44) dX10_thing_44 rfl F
    · replace F := F.2 k10
      refine z_bipush (pc := 18) (v := -2) dX10_thing_18 (by decide) ?_
      exact q_retI (pc := 20) dX10_thing_20 rfl F
theorem g_X10_of {x1 : Int32} {x2 : Int32} {h : zHp} {Q : Int32 → zHp → Prop}  (G : zG h) (F : zcI M_X8_hasThing [.ref 2, .int x1] h (fun vh1 h1 => zG h1 ∧ ((¬ vh1 = 0 → (vp_in x1 8 ∧ ((x2 = 0 → (Q (rI h1 (8 + (Int32.toNatClampNeg x1)) 0) h1)) ∧ (¬ x2 = 0 → ((x2 = 1 → (Q (rI h1 (8 + (Int32.toNatClampNeg x1)) 1) h1)) ∧ (¬ x2 = 1 → ((x2 = 2 → (Q (rI h1 (8 + (Int32.toNatClampNeg x1)) 2) h1)) ∧ (¬ x2 = 2 → ((x2 = 3 → (Q (rI h1 (8 + (Int32.toNatClampNeg x1)) 3) h1)) ∧ (¬ x2 = 3 → ((x2 = 4 → (Q (rI h1 (8 + (Int32.toNatClampNeg x1)) 4) h1)) ∧ (¬ x2 = 4 → ((x2 = 5 → ((rI h1 (8 + (Int32.toNatClampNeg x1)) 5 = 0 → (Q 0 h1)) ∧ (¬ (rI h1 (8 + (Int32.toNatClampNeg x1)) 5 = 0) → (Q 1 h1)))) ∧ (¬ x2 = 5 → (Q (-2) h1))))))))))))))) ∧ (vh1 = 0 → (Q (-2) h1))))) : zcI M_X10_of [.ref 0, .int x1, .int x2] h Q := by
  show zw zNT zNT M_X10_of 0 [some (.ref 0), some (.int x1), some (.int x2), none] [] h _
  refine z_aload_n (pc := 0) dX10_of_0 rfl rfl ?_
  refine q_getR (pc := 1) (i := 2) dX10_of_1 lk_RX10_20 (lyc rfl) (G 0 1 2 rfl) ?_
  refine z_iload_n (pc := 4) dX10_of_4 rfl rfl ?_
  refine q_invV (pc := 5) (As := [.int x1]) (st := []) dX10_of_5 ok_X8_hasThing ml_RX10_94 iv_X8_hasThing pa_X8_hasThing ⟨Nat.le_of_ble_eq_true rfl, Nat.le_of_ble_eq_true rfl⟩ (lyc rfl) (q_kI F (fun vh1 h1 F => ?_))
  obtain ⟨G1, F⟩ := F
  refine z_if_ne (pc := 8) (tgt := 14) dX10_of_8 (by decide) (fun k10 => ?_) (fun k10 => ?_)
  · replace F := F.1 k10
    refine z_aload_n (pc := 14) dX10_of_14 rfl rfl ?_
    refine q_getR (pc := 15) (i := 2) dX10_of_15 lk_RX10_20 (lyc rfl) (G1 0 1 2 rfl) ?_
    refine q_getR (pc := 18) (i := 3) dX10_of_18 lk_RX10_98 (lyc rfl) (G1 2 0 3 rfl) ?_
    refine z_iload_n (pc := 21) dX10_of_21 rfl rfl ?_
    obtain ⟨k2, F⟩ := F
    refine q_aald (pc := 22) (j := (Int32.toNatClampNeg x1)) (r := 8 + (Int32.toNatClampNeg x1)) (t := 0) dX10_of_22 (lyc rfl) (zvn (lnc rfl) k2) rfl (grT (B := 2) G1 (Or.inl rfl) (zvi k2)) ?_
    refine z_astore_n (pc := 23) (ls' := [some (.ref 0), some (.int x1), some (.int x2), some (.ref (8 + (Int32.toNatClampNeg x1)))]) dX10_of_23 rfl (by decide) rfl ?_
    refine z_iload_n (pc := 24) dX10_of_24 rfl rfl ?_
    by_cases k3 : x2 = 0
    · replace F := F.1 k3
      refine z_tableIn (pc := 25) (x := x2) (tgt := 64) (off := 39) dX10_of_25 (by rw [k3]; decide) (by rw [k3]; decide) (by rw [k3]; decide) (by decide) ?_
      refine z_aload_n (pc := 64) dX10_of_64 rfl rfl ?_
      refine q_getI (pc := 65) (v := rI h1 (8 + (Int32.toNatClampNeg x1)) 0) dX10_of_65 lk_RX10_102 (lyT (B := 2) (Or.inl rfl) (zvi k2)) rfl ?_
      exact q_retI (pc := 68) dX10_of_68 rfl F
    · replace F := F.2 k3
      by_cases k4 : x2 = 1
      · replace F := F.1 k4
        refine z_tableIn (pc := 25) (x := x2) (tgt := 69) (off := 44) dX10_of_25 (by rw [k4]; decide) (by rw [k4]; decide) (by rw [k4]; decide) (by decide) ?_
        refine z_aload_n (pc := 69) dX10_of_69 rfl rfl ?_
        refine q_getI (pc := 70) (v := rI h1 (8 + (Int32.toNatClampNeg x1)) 1) dX10_of_70 lk_RX10_107 (lyT (B := 2) (Or.inl rfl) (zvi k2)) rfl ?_
        exact q_retI (pc := 73) dX10_of_73 rfl F
      · replace F := F.2 k4
        by_cases k5 : x2 = 2
        · replace F := F.1 k5
          refine z_tableIn (pc := 25) (x := x2) (tgt := 74) (off := 49) dX10_of_25 (by rw [k5]; decide) (by rw [k5]; decide) (by rw [k5]; decide) (by decide) ?_
          refine z_aload_n (pc := 74) dX10_of_74 rfl rfl ?_
          refine q_getI (pc := 75) (v := rI h1 (8 + (Int32.toNatClampNeg x1)) 2) dX10_of_75 lk_RX10_110 (lyT (B := 2) (Or.inl rfl) (zvi k2)) rfl ?_
          exact q_retI (pc := 78) dX10_of_78 rfl F
        · replace F := F.2 k5
          by_cases k6 : x2 = 3
          · replace F := F.1 k6
            refine z_tableIn (pc := 25) (x := x2) (tgt := 79) (off := 54) dX10_of_25 (by rw [k6]; decide) (by rw [k6]; decide) (by rw [k6]; decide) (by decide) ?_
            refine z_aload_n (pc := 79) dX10_of_79 rfl rfl ?_
            refine q_getI (pc := 80) (v := rI h1 (8 + (Int32.toNatClampNeg x1)) 3) dX10_of_80 lk_RX10_113 (lyT (B := 2) (Or.inl rfl) (zvi k2)) rfl ?_
            exact q_retI (pc := 83) dX10_of_83 rfl F
          · replace F := F.2 k6
            by_cases k7 : x2 = 4
            · replace F := F.1 k7
              refine z_tableIn (pc := 25) (x := x2) (tgt := 84) (off := 59) dX10_of_25 (by rw [k7]; decide) (by rw [k7]; decide) (by rw [k7]; decide) (by decide) ?_
              refine z_aload_n (pc := 84) dX10_of_84 rfl rfl ?_
              refine q_getI (pc := 85) (v := rI h1 (8 + (Int32.toNatClampNeg x1)) 4) dX10_of_85 lk_RX10_116 (lyT (B := 2) (Or.inl rfl) (zvi k2)) rfl ?_
              exact q_retI (pc := 88) dX10_of_88 rfl F
            · replace F := F.2 k7
              by_cases k8 : x2 = 5
              · replace F := F.1 k8
                refine z_tableIn (pc := 25) (x := x2) (tgt := 89) (off := 64) dX10_of_25 (by rw [k8]; decide) (by rw [k8]; decide) (by rw [k8]; decide) (by decide) ?_
                refine z_aload_n (pc := 89) dX10_of_89 rfl rfl ?_
                refine q_getI (pc := 90) (v := rI h1 (8 + (Int32.toNatClampNeg x1)) 5) dX10_of_90 lk_RX10_119 (lyT (B := 2) (Or.inl rfl) (zvi k2)) rfl ?_
                refine z_if_eq (pc := 93) (tgt := 100) dX10_of_93 (by decide) (fun k9 => ?_) (fun k9 => ?_)
                · replace F := F.1 k9
                  refine z_iconst (pc := 100) (v := 0) dX10_of_100 (by decide) ?_
                  exact q_retI (pc := 101) dX10_of_101 rfl F
                · replace F := F.2 k9
                  refine z_iconst (pc := 96) (v := 1) dX10_of_96 (by decide) ?_
                  refine z_goto (pc := 97) (tgt := 101) dX10_of_97 (by decide) ?_
                  exact q_retI (pc := 101) dX10_of_101 rfl F
              · replace F := F.2 k8
                have hz0 := q_sw (0) k3 (by decide)
                have hz1 := q_sw (1) k4 (by decide)
                have hz2 := q_sw (2) k5 (by decide)
                have hz3 := q_sw (3) k6 (by decide)
                have hz4 := q_sw (4) k7 (by decide)
                have hz5 := q_sw (5) k8 (by decide)
                refine z_tableOut (pc := 25) (tgt := 102) dX10_of_25 (by omega) (by decide) ?_
                refine z_bipush (pc := 102) (v := -2) dX10_of_102 (by decide) ?_
                exact q_retI (pc := 104) dX10_of_104 rfl F
  · replace F := F.2 k10
    refine z_bipush (pc := 11) (v := -2) dX10_of_11 (by decide) ?_
    exact q_retI (pc := 13) dX10_of_13 rfl F
theorem g_X10_now {x1 : Int32} {x2 : Int32} {h : zHp} {Q : Int32 → zHp → Prop}  (G : zG h) (F : zcI M_X8_hasThing [.ref 2, .int x1] h (fun vh1 h1 => zG h1 ∧ ((¬ vh1 = 0 → (vp_in x1 8 ∧ ((x2 = 0 → ((rI h1 (8 + (Int32.toNatClampNeg x1)) 5 = 0 → (Q (rI h1 (8 + (Int32.toNatClampNeg x1)) 6) h1)) ∧ (¬ (rI h1 (8 + (Int32.toNatClampNeg x1)) 5 = 0) → (Q (rI h1 43 ((Int32.toNatClampNeg x1))) h1)))) ∧ (¬ x2 = 0 → ((x2 = 1 → ((rI h1 (8 + (Int32.toNatClampNeg x1)) 5 = 0 → (Q (rI h1 (8 + (Int32.toNatClampNeg x1)) 7) h1)) ∧ (¬ (rI h1 (8 + (Int32.toNatClampNeg x1)) 5 = 0) → (Q (rI h1 44 ((Int32.toNatClampNeg x1))) h1)))) ∧ (¬ x2 = 1 → ((x2 = 2 → (zcI M_X2_forceOf [.ref 42, .ref 2, .int x1] h1 (fun vh2 h2 => zG h2 ∧ (Q vh2 h2)))) ∧ (¬ x2 = 2 → ((x2 = 3 → ((rI h1 (8 + (Int32.toNatClampNeg x1)) 5 = 0 → (Q (rI h1 (8 + (Int32.toNatClampNeg x1)) 9) h1)) ∧ (¬ (rI h1 (8 + (Int32.toNatClampNeg x1)) 5 = 0) → (Q (rI h1 46 ((Int32.toNatClampNeg x1))) h1)))) ∧ (¬ x2 = 3 → (Q (-2) h1))))))))))) ∧ (vh1 = 0 → (Q (-2) h1))))) : zcI M_X10_now [.ref 0, .int x1, .int x2] h Q := by
  show zw zNT zNT M_X10_now 0 [some (.ref 0), some (.int x1), some (.int x2), none] [] h _
  refine z_aload_n (pc := 0) dX10_now_0 rfl rfl ?_
  refine q_getR (pc := 1) (i := 2) dX10_now_1 lk_RX10_20 (lyc rfl) (G 0 1 2 rfl) ?_
  refine z_iload_n (pc := 4) dX10_now_4 rfl rfl ?_
  refine q_invV (pc := 5) (As := [.int x1]) (st := []) dX10_now_5 ok_X8_hasThing ml_RX10_94 iv_X8_hasThing pa_X8_hasThing ⟨Nat.le_of_ble_eq_true rfl, Nat.le_of_ble_eq_true rfl⟩ (lyc rfl) (q_kI F (fun vh1 h1 F => ?_))
  obtain ⟨G1, F⟩ := F
  refine z_if_ne (pc := 8) (tgt := 14) dX10_now_8 (by decide) (fun k11 => ?_) (fun k11 => ?_)
  · replace F := F.1 k11
    refine z_aload_n (pc := 14) dX10_now_14 rfl rfl ?_
    refine q_getR (pc := 15) (i := 2) dX10_now_15 lk_RX10_20 (lyc rfl) (G1 0 1 2 rfl) ?_
    refine q_getR (pc := 18) (i := 3) dX10_now_18 lk_RX10_98 (lyc rfl) (G1 2 0 3 rfl) ?_
    refine z_iload_n (pc := 21) dX10_now_21 rfl rfl ?_
    obtain ⟨k2, F⟩ := F
    refine q_aald (pc := 22) (j := (Int32.toNatClampNeg x1)) (r := 8 + (Int32.toNatClampNeg x1)) (t := 0) dX10_now_22 (lyc rfl) (zvn (lnc rfl) k2) rfl (grT (B := 2) G1 (Or.inl rfl) (zvi k2)) ?_
    refine z_astore_n (pc := 23) (ls' := [some (.ref 0), some (.int x1), some (.int x2), some (.ref (8 + (Int32.toNatClampNeg x1)))]) dX10_now_23 rfl (by decide) rfl ?_
    refine z_iload_n (pc := 24) dX10_now_24 rfl rfl ?_
    by_cases k3 : x2 = 0
    · replace F := F.1 k3
      refine z_tableIn (pc := 25) (x := x2) (tgt := 56) (off := 31) dX10_now_25 (by rw [k3]; decide) (by rw [k3]; decide) (by rw [k3]; decide) (by decide) ?_
      refine z_aload_n (pc := 56) dX10_now_56 rfl rfl ?_
      refine q_getI (pc := 57) (v := rI h1 (8 + (Int32.toNatClampNeg x1)) 5) dX10_now_57 lk_RX10_119 (lyT (B := 2) (Or.inl rfl) (zvi k2)) rfl ?_
      refine z_if_eq (pc := 60) (tgt := 75) dX10_now_60 (by decide) (fun k4 => ?_) (fun k4 => ?_)
      · replace F := F.1 k4
        refine z_aload_n (pc := 75) dX10_now_75 rfl rfl ?_
        refine q_getI (pc := 76) (v := rI h1 (8 + (Int32.toNatClampNeg x1)) 6) dX10_now_76 lk_RX10_125 (lyT (B := 2) (Or.inl rfl) (zvi k2)) rfl ?_
        exact q_retI (pc := 79) dX10_now_79 rfl F
      · replace F := F.2 k4
        refine z_aload_n (pc := 63) dX10_now_63 rfl rfl ?_
        refine q_getR (pc := 64) (i := 42) dX10_now_64 lk_RX10_27 (lyc rfl) (G1 0 2 42 rfl) ?_
        refine q_getR (pc := 67) (i := 43) dX10_now_67 lk_RX10_123 (lyc rfl) (G1 42 0 43 rfl) ?_
        refine z_iload_n (pc := 70) dX10_now_70 rfl rfl ?_
        refine q_iald (pc := 71) (j := (Int32.toNatClampNeg x1)) (v := rI h1 43 ((Int32.toNatClampNeg x1))) dX10_now_71 (lyc rfl) (zvn (lnc rfl) k2) rfl rfl ?_
        refine z_goto (pc := 72) (tgt := 79) dX10_now_72 (by decide) ?_
        exact q_retI (pc := 79) dX10_now_79 rfl F
    · replace F := F.2 k3
      by_cases k5 : x2 = 1
      · replace F := F.1 k5
        refine z_tableIn (pc := 25) (x := x2) (tgt := 80) (off := 55) dX10_now_25 (by rw [k5]; decide) (by rw [k5]; decide) (by rw [k5]; decide) (by decide) ?_
        refine z_aload_n (pc := 80) dX10_now_80 rfl rfl ?_
        refine q_getI (pc := 81) (v := rI h1 (8 + (Int32.toNatClampNeg x1)) 5) dX10_now_81 lk_RX10_119 (lyT (B := 2) (Or.inl rfl) (zvi k2)) rfl ?_
        refine z_if_eq (pc := 84) (tgt := 99) dX10_now_84 (by decide) (fun k6 => ?_) (fun k6 => ?_)
        · replace F := F.1 k6
          refine z_aload_n (pc := 99) dX10_now_99 rfl rfl ?_
          refine q_getI (pc := 100) (v := rI h1 (8 + (Int32.toNatClampNeg x1)) 7) dX10_now_100 lk_RX10_131 (lyT (B := 2) (Or.inl rfl) (zvi k2)) rfl ?_
          exact q_retI (pc := 103) dX10_now_103 rfl F
        · replace F := F.2 k6
          refine z_aload_n (pc := 87) dX10_now_87 rfl rfl ?_
          refine q_getR (pc := 88) (i := 42) dX10_now_88 lk_RX10_27 (lyc rfl) (G1 0 2 42 rfl) ?_
          refine q_getR (pc := 91) (i := 44) dX10_now_91 lk_RX10_128 (lyc rfl) (G1 42 1 44 rfl) ?_
          refine z_iload_n (pc := 94) dX10_now_94 rfl rfl ?_
          refine q_iald (pc := 95) (j := (Int32.toNatClampNeg x1)) (v := rI h1 44 ((Int32.toNatClampNeg x1))) dX10_now_95 (lyc rfl) (zvn (lnc rfl) k2) rfl rfl ?_
          refine z_goto (pc := 96) (tgt := 103) dX10_now_96 (by decide) ?_
          exact q_retI (pc := 103) dX10_now_103 rfl F
      · replace F := F.2 k5
        by_cases k7 : x2 = 2
        · replace F := F.1 k7
          refine z_tableIn (pc := 25) (x := x2) (tgt := 104) (off := 79) dX10_now_25 (by rw [k7]; decide) (by rw [k7]; decide) (by rw [k7]; decide) (by decide) ?_
          refine z_aload_n (pc := 104) dX10_now_104 rfl rfl ?_
          refine q_getR (pc := 105) (i := 42) dX10_now_105 lk_RX10_27 (lyc rfl) (G1 0 2 42 rfl) ?_
          refine z_aload_n (pc := 108) dX10_now_108 rfl rfl ?_
          refine q_getR (pc := 109) (i := 2) dX10_now_109 lk_RX10_20 (lyc rfl) (G1 0 1 2 rfl) ?_
          refine z_iload_n (pc := 112) dX10_now_112 rfl rfl ?_
          refine q_invV (pc := 113) (As := [.ref 2, .int x1]) (st := []) dX10_now_113 ok_X2_forceOf ml_RX10_134 iv_X2_forceOf pa_X2_forceOf ⟨Nat.le_of_ble_eq_true rfl, Nat.le_of_ble_eq_true rfl⟩ (lyc rfl) (q_kI F (fun vh2 h2 F => ?_))
          obtain ⟨G2, F⟩ := F
          exact q_retI (pc := 116) dX10_now_116 rfl F
        · replace F := F.2 k7
          by_cases k9 : x2 = 3
          · replace F := F.1 k9
            refine z_tableIn (pc := 25) (x := x2) (tgt := 117) (off := 92) dX10_now_25 (by rw [k9]; decide) (by rw [k9]; decide) (by rw [k9]; decide) (by decide) ?_
            refine z_aload_n (pc := 117) dX10_now_117 rfl rfl ?_
            refine q_getI (pc := 118) (v := rI h1 (8 + (Int32.toNatClampNeg x1)) 5) dX10_now_118 lk_RX10_119 (lyT (B := 2) (Or.inl rfl) (zvi k2)) rfl ?_
            refine z_if_eq (pc := 121) (tgt := 136) dX10_now_121 (by decide) (fun k10 => ?_) (fun k10 => ?_)
            · replace F := F.1 k10
              refine z_aload_n (pc := 136) dX10_now_136 rfl rfl ?_
              refine q_getI (pc := 137) (v := rI h1 (8 + (Int32.toNatClampNeg x1)) 9) dX10_now_137 lk_RX10_140 (lyT (B := 2) (Or.inl rfl) (zvi k2)) rfl ?_
              exact q_retI (pc := 140) dX10_now_140 rfl F
            · replace F := F.2 k10
              refine z_aload_n (pc := 124) dX10_now_124 rfl rfl ?_
              refine q_getR (pc := 125) (i := 42) dX10_now_125 lk_RX10_27 (lyc rfl) (G1 0 2 42 rfl) ?_
              refine q_getR (pc := 128) (i := 46) dX10_now_128 lk_RX10_138 (lyc rfl) (G1 42 3 46 rfl) ?_
              refine z_iload_n (pc := 131) dX10_now_131 rfl rfl ?_
              refine q_iald (pc := 132) (j := (Int32.toNatClampNeg x1)) (v := rI h1 46 ((Int32.toNatClampNeg x1))) dX10_now_132 (lyc rfl) (zvn (lnc rfl) k2) rfl rfl ?_
              refine z_goto (pc := 133) (tgt := 140) dX10_now_133 (by decide) ?_
              exact q_retI (pc := 140) dX10_now_140 rfl F
          · replace F := F.2 k9
            have hz0 := q_sw (0) k3 (by decide)
            have hz1 := q_sw (1) k5 (by decide)
            have hz2 := q_sw (2) k7 (by decide)
            have hz3 := q_sw (3) k9 (by decide)
            refine z_tableOut (pc := 25) (tgt := 141) dX10_now_25 (by omega) (by decide) ?_
            refine z_bipush (pc := 141) (v := -2) dX10_now_141 (by decide) ?_
            exact q_retI (pc := 143) dX10_now_143 rfl F
  · replace F := F.2 k11
    refine z_bipush (pc := 11) (v := -2) dX10_now_11 (by decide) ?_
    exact q_retI (pc := 13) dX10_now_13 rfl F
theorem g_X10_set {x1 : Int32} {x2 : Int32} {x3 : Int32} {h : zHp} {Q : Int32 → zHp → Prop}  (G : zG h) (F : zcI M_X8_hasThing [.ref 2, .int x1] h (fun vh1 h1 => zG h1 ∧ ((vh1 = 0 → (Q (-2) h1)) ∧ (¬ (vh1 = 0) → (zcI M_X10_fitsBase [.int x2, .int x3] h1 (fun vh2 h2 => zG h2 ∧ ((¬ vh2 = 0 → (vp_in x1 8 ∧ ((¬ rI h2 (8 + (Int32.toNatClampNeg x1)) 5 = 0 → (zcI M_X6_change [.ref (8 + (Int32.toNatClampNeg x1)), .int x2, .int x3] h2 (fun vh3 h3 => zG h3 ∧ (zcV M_X0_settle [.ref 1, .int 0] h3 (fun h4 => zG h4 ∧ (Q vh3 h4)))))) ∧ (rI h2 (8 + (Int32.toNatClampNeg x1)) 5 = 0 → (Q (-3) h2))))) ∧ (vh2 = 0 → (Q (-2) h2))))))))) : zcI M_X10_set [.ref 0, .int x1, .int x2, .int x3] h Q := by
  show zw zNT zNT M_X10_set 0 [some (.ref 0), some (.int x1), some (.int x2), some (.int x3), none, none] [] h _
  refine z_aload_n (pc := 0) dX10_set_0 rfl rfl ?_
  refine q_getR (pc := 1) (i := 2) dX10_set_1 lk_RX10_20 (lyc rfl) (G 0 1 2 rfl) ?_
  refine z_iload_n (pc := 4) dX10_set_4 rfl rfl ?_
  refine q_invV (pc := 5) (As := [.int x1]) (st := []) dX10_set_5 ok_X8_hasThing ml_RX10_94 iv_X8_hasThing pa_X8_hasThing ⟨Nat.le_of_ble_eq_true rfl, Nat.le_of_ble_eq_true rfl⟩ (lyc rfl) (q_kI F (fun vh1 h1 F => ?_))
  obtain ⟨G1, F⟩ := F
  refine z_if_eq (pc := 8) (tgt := 19) dX10_set_8 (by decide) (fun k8 => ?_) (fun k8 => ?_)
  · replace F := F.1 k8
    refine z_bipush (pc := 19) (v := -2) dX10_set_19 (by decide) ?_
    exact q_retI (pc := 21) dX10_set_21 rfl F
  · replace F := F.2 k8
    refine z_iload_n (pc := 11) dX10_set_11 rfl rfl ?_
    refine z_iload_n (pc := 12) dX10_set_12 rfl rfl ?_
    refine q_invS (pc := 13) (As := [.int x2, .int x3]) (st := []) dX10_set_13 ok_X10_fitsBase ml_RX10_143 st_X10_fitsBase pa_X10_fitsBase ⟨Nat.le_of_ble_eq_true rfl, Nat.le_of_ble_eq_true rfl⟩ (q_kI F (fun vh2 h2 F => ?_))
    obtain ⟨G2, F⟩ := F
    refine z_if_ne (pc := 16) (tgt := 22) dX10_set_16 (by decide) (fun k7 => ?_) (fun k7 => ?_)
    · replace F := F.1 k7
      refine z_aload_n (pc := 22) dX10_set_22 rfl rfl ?_
      refine q_getR (pc := 23) (i := 2) dX10_set_23 lk_RX10_20 (lyc rfl) (G2 0 1 2 rfl) ?_
      refine q_getR (pc := 26) (i := 3) dX10_set_26 lk_RX10_98 (lyc rfl) (G2 2 0 3 rfl) ?_
      refine z_iload_n (pc := 29) dX10_set_29 rfl rfl ?_
      obtain ⟨k3, F⟩ := F
      refine q_aald (pc := 30) (j := (Int32.toNatClampNeg x1)) (r := 8 + (Int32.toNatClampNeg x1)) (t := 0) dX10_set_30 (lyc rfl) (zvn (lnc rfl) k3) rfl (grT (B := 2) G2 (Or.inl rfl) (zvi k3)) ?_
      refine z_astore (pc := 31) (ls' := [some (.ref 0), some (.int x1), some (.int x2), some (.int x3), some (.ref (8 + (Int32.toNatClampNeg x1))), none]) dX10_set_31 (by decide) rfl ?_
      refine z_aload (pc := 33) dX10_set_33 rfl ?_
      refine q_getI (pc := 35) (v := rI h2 (8 + (Int32.toNatClampNeg x1)) 5) dX10_set_35 lk_RX10_119 (lyT (B := 2) (Or.inl rfl) (zvi k3)) rfl ?_
      refine z_if_ne (pc := 38) (tgt := 44) dX10_set_38 (by decide) (fun k6 => ?_) (fun k6 => ?_)
      · replace F := F.1 k6
        refine z_aload (pc := 44) dX10_set_44 rfl ?_
        refine z_iload_n (pc := 46) dX10_set_46 rfl rfl ?_
        refine z_iload_n (pc := 47) dX10_set_47 rfl rfl ?_
        refine q_invV (pc := 48) (As := [.int x2, .int x3]) (st := []) dX10_set_48 ok_X6_change ml_RX10_147 iv_X6_change pa_X6_change ⟨Nat.le_of_ble_eq_true rfl, Nat.le_of_ble_eq_true rfl⟩ (lyT (B := 2) (Or.inl rfl) (zvi k3)) (q_kI F (fun vh3 h3 F => ?_))
        obtain ⟨G3, F⟩ := F
        refine z_istore (pc := 51) (ls' := [some (.ref 0), some (.int x1), some (.int x2), some (.int x3), some (.ref (8 + (Int32.toNatClampNeg x1))), some (.int vh3)]) dX10_set_51 (by decide) rfl ?_
        refine z_aload_n (pc := 53) dX10_set_53 rfl rfl ?_
        refine q_getR (pc := 54) (i := 1) dX10_set_54 lk_RX10_10 (lyc rfl) (G3 0 0 1 rfl) ?_
        refine z_iconst (pc := 57) (v := 0) dX10_set_57 (by decide) ?_
        refine q_invV (pc := 58) (As := [.int 0]) (st := []) dX10_set_58 ok_X0_settle ml_RX10_90 iv_X0_settle pa_X0_settle ⟨Nat.le_of_ble_eq_true rfl, Nat.le_of_ble_eq_true rfl⟩ (lyc rfl) (q_kV F (fun h4 F => ?_))
        obtain ⟨G4, F⟩ := F
        refine z_iload (pc := 61) dX10_set_61 rfl ?_
        exact q_retI (pc := 63) dX10_set_63 rfl F
      · replace F := F.2 k6
        refine z_bipush (pc := 41) (v := -3) dX10_set_41 (by decide) ?_
        exact q_retI (pc := 43) dX10_set_43 rfl F
    · replace F := F.2 k7
      refine z_bipush (pc := 19) (v := -2) dX10_set_19 (by decide) ?_
      exact q_retI (pc := 21) dX10_set_21 rfl F
theorem g_X10_scope {x1 : Int32} {x2 : Int32} {h : zHp} {Q : Int32 → zHp → Prop}  (G : zG h) (F : zcI M_X10_isScope [.int x1, .int x2] h (fun vh1 h1 => zG h1 ∧ ((¬ vh1 = 0 → (zlI M_X10_scope 16 [some (.ref 0), some (.int x1), some (.int x2), some (.int 0), some (.int 0)] [] h1 Q)) ∧ (vh1 = 0 → (Q (-2) h1))))) : zcI M_X10_scope [.ref 0, .int x1, .int x2] h Q := by
  show zw zNT zNT M_X10_scope 0 [some (.ref 0), some (.int x1), some (.int x2), none, none] [] h _
  refine z_iload_n (pc := 0) dX10_scope_0 rfl rfl ?_
  refine z_iload_n (pc := 1) dX10_scope_1 rfl rfl ?_
  refine q_invS (pc := 2) (As := [.int x1, .int x2]) (st := []) dX10_scope_2 ok_X10_isScope ml_RX10_151 st_X10_isScope pa_X10_isScope ⟨Nat.le_of_ble_eq_true rfl, Nat.le_of_ble_eq_true rfl⟩ (q_kI F (fun vh1 h1 F => ?_))
  obtain ⟨G1, F⟩ := F
  refine z_if_ne (pc := 5) (tgt := 11) dX10_scope_5 (by decide) (fun k2 => ?_) (fun k2 => ?_)
  · replace F := F.1 k2
    refine z_iconst (pc := 11) (v := 0) dX10_scope_11 (by decide) ?_
    refine z_istore_n (pc := 12) (ls' := [some (.ref 0), some (.int x1), some (.int x2), some (.int 0), none]) dX10_scope_12 rfl (by decide) rfl ?_
    refine z_iconst (pc := 13) (v := 0) dX10_scope_13 (by decide) ?_
    refine z_istore (pc := 14) (ls' := [some (.ref 0), some (.int x1), some (.int x2), some (.int 0), some (.int 0)]) dX10_scope_14 (by decide) rfl ?_
    exact F
  · replace F := F.2 k2
    refine z_bipush (pc := 8) (v := -2) dX10_scope_8 (by decide) ?_
    exact q_retI (pc := 10) dX10_scope_10 rfl F
theorem g_X10_scope_16 {x1 : Int32} {x2 : Int32} {x3 : Int32} {x4 : Int32} {h : zHp} {Q : Int32 → zHp → Prop}  (G : zG h) (F : (rI h 2 1 ≤ x4 → (Q x3 h)) ∧ (¬ (rI h 2 1 ≤ x4) → (zcI M_X2_holds [.ref 42, .ref 2, .int x4, .int x1, .int x2] h (fun vh1 h1 => zG h1 ∧ ((vh1 = 0 → (zlI M_X10_scope 16 [some (.ref 0), some (.int x1), some (.int x2), some (.int x3), some (.int (x4 + 1))] [] h1 Q)) ∧ (¬ (vh1 = 0) → (zlI M_X10_scope 16 [some (.ref 0), some (.int x1), some (.int x2), some (.int (x3 ||| (1 <<< (x4 &&& 31)))), some (.int (x4 + 1))] [] h1 Q))))))) : zlI M_X10_scope 16 [some (.ref 0), some (.int x1), some (.int x2), some (.int x3), some (.int x4)] [] h Q := by
  refine z_iload (pc := 16) dX10_scope_16 rfl ?_
  refine z_aload_n (pc := 18) dX10_scope_18 rfl rfl ?_
  refine q_getR (pc := 19) (i := 2) dX10_scope_19 lk_RX10_20 (lyc rfl) (G 0 1 2 rfl) ?_
  refine q_getI (pc := 22) (v := rI h 2 1) dX10_scope_22 lk_RX10_68 (lyc rfl) rfl ?_
  refine z_icmp_ge (pc := 25) (tgt := 59) dX10_scope_25 (by decide) (fun k3 => ?_) (fun k3 => ?_)
  · replace F := F.1 k3
    refine z_iload_n (pc := 59) dX10_scope_59 rfl rfl ?_
    exact q_retI (pc := 60) dX10_scope_60 rfl F
  · replace F := F.2 k3
    refine z_aload_n (pc := 28) dX10_scope_28 rfl rfl ?_
    refine q_getR (pc := 29) (i := 42) dX10_scope_29 lk_RX10_27 (lyc rfl) (G 0 2 42 rfl) ?_
    refine z_aload_n (pc := 32) dX10_scope_32 rfl rfl ?_
    refine q_getR (pc := 33) (i := 2) dX10_scope_33 lk_RX10_20 (lyc rfl) (G 0 1 2 rfl) ?_
    refine z_iload (pc := 36) dX10_scope_36 rfl ?_
    refine z_iload_n (pc := 38) dX10_scope_38 rfl rfl ?_
    refine z_iload_n (pc := 39) dX10_scope_39 rfl rfl ?_
    refine q_invV (pc := 40) (As := [.ref 2, .int x4, .int x1, .int x2]) (st := []) dX10_scope_40 ok_X2_holds ml_RX10_154 iv_X2_holds pa_X2_holds ⟨Nat.le_of_ble_eq_true rfl, Nat.le_of_ble_eq_true rfl⟩ (lyc rfl) (q_kI F (fun vh1 h1 F => ?_))
    obtain ⟨G1, F⟩ := F
    refine z_if_eq (pc := 43) (tgt := 53) dX10_scope_43 (by decide) (fun k2 => ?_) (fun k2 => ?_)
    · replace F := F.1 k2
      refine z_iinc (pc := 53) (v := x4 + 1) (ls' := [some (.ref 0), some (.int x1), some (.int x2), some (.int x3), some (.int (x4 + 1))]) dX10_scope_53 (by decide) rfl rfl rfl ?_
      refine z_goto (pc := 56) (tgt := 16) dX10_scope_56 (by decide) ?_
      exact F
    · replace F := F.2 k2
      refine z_iload_n (pc := 46) dX10_scope_46 rfl rfl ?_
      refine z_iconst (pc := 47) (v := 1) dX10_scope_47 (by decide) ?_
      refine z_iload (pc := 48) dX10_scope_48 rfl ?_
      refine z_ishl (pc := 50) dX10_scope_50 ?_
      refine z_ior (pc := 51) dX10_scope_51 ?_
      refine z_istore_n (pc := 52) (ls' := [some (.ref 0), some (.int x1), some (.int x2), some (.int (x3 ||| (1 <<< (x4 &&& 31)))), some (.int x4)]) dX10_scope_52 rfl (by decide) rfl ?_
      refine z_iinc (pc := 53) (v := x4 + 1) (ls' := [some (.ref 0), some (.int x1), some (.int x2), some (.int (x3 ||| (1 <<< (x4 &&& 31)))), some (.int (x4 + 1))]) dX10_scope_53 (by decide) rfl rfl rfl ?_
      refine z_goto (pc := 56) (tgt := 16) dX10_scope_56 (by decide) ?_
      exact F
theorem g_X10_effect {x1 : Int32} {x2 : Int32} {x3 : Int32} {x4 : Int32} {x5 : Int32} {h : zHp} {Q : Int32 → zHp → Prop}  (G : zG h) (F : zcI M_X10_within [.int x1, .int 0, .int 5] h (fun vh1 h1 => zG h1 ∧ ((vh1 = 0 → (Q (-2) h1)) ∧ (¬ (vh1 = 0) → (zcI M_X10_isScope [.int x2, .int x3] h1 (fun vh2 h2 => zG h2 ∧ ((¬ vh2 = 0 → (zcI M_X10_fitsEffect [.int x1, .int x4] h2 (fun vh3 h3 => zG h3 ∧ ((vh3 = 0 → (Q (-2) h3)) ∧ (¬ (vh3 = 0) → (zcI M_X10_within [.int x5, .int (-9), .int 9] h3 (fun vh4 h4 => zG h4 ∧ ((¬ vh4 = 0 → ((rI h4 2 3 < 10 → (vp_in (rI h4 2 3) 10 ∧ (zRef h4 4 ((Int32.toNatClampNeg (rI h4 2 3))) 2 ∧ (zcV M_X1_become [.ref (rG h4 4 ((Int32.toNatClampNeg (rI h4 2 3)))), .int x1, .int x2, .int x3, .int x4, .int x5] h4 (fun h5 => zG h5 ∧ (zcV M_X0_settle [.ref 1, .int 0] (wI h5 2 3 ((rI h5 2 3) + 1)) (fun h6 => zG h6 ∧ (Q (rI h4 2 3) h6)))))))) ∧ (¬ (rI h4 2 3 < 10) → (Q (-4) h4)))) ∧ (vh4 = 0 → (Q (-2) h4)))))))))) ∧ (vh2 = 0 → (Q (-2) h2))))))))) : zcI M_X10_effect [.ref 0, .int x1, .int x2, .int x3, .int x4, .int x5] h Q := by
  show zw zNT zNT M_X10_effect 0 [some (.ref 0), some (.int x1), some (.int x2), some (.int x3), some (.int x4), some (.int x5), none] [] h _
  refine z_iload_n (pc := 0) dX10_effect_0 rfl rfl ?_
  refine z_iconst (pc := 1) (v := 0) dX10_effect_1 (by decide) ?_
  refine z_iconst (pc := 2) (v := 5) dX10_effect_2 (by decide) ?_
  refine q_invS (pc := 3) (As := [.int x1, .int 0, .int 5]) (st := []) dX10_effect_3 ok_X10_within ml_RX10_82 st_X10_within pa_X10_within ⟨Nat.le_of_ble_eq_true rfl, Nat.le_of_ble_eq_true rfl⟩ (q_kI F (fun vh1 h1 F => ?_))
  obtain ⟨G1, F⟩ := F
  refine z_if_eq (pc := 6) (tgt := 17) dX10_effect_6 (by decide) (fun k13 => ?_) (fun k13 => ?_)
  · replace F := F.1 k13
    refine z_bipush (pc := 17) (v := -2) dX10_effect_17 (by decide) ?_
    exact q_retI (pc := 19) dX10_effect_19 rfl F
  · replace F := F.2 k13
    refine z_iload_n (pc := 9) dX10_effect_9 rfl rfl ?_
    refine z_iload_n (pc := 10) dX10_effect_10 rfl rfl ?_
    refine q_invS (pc := 11) (As := [.int x2, .int x3]) (st := []) dX10_effect_11 ok_X10_isScope ml_RX10_151 st_X10_isScope pa_X10_isScope ⟨Nat.le_of_ble_eq_true rfl, Nat.le_of_ble_eq_true rfl⟩ (q_kI F (fun vh2 h2 F => ?_))
    obtain ⟨G2, F⟩ := F
    refine z_if_ne (pc := 14) (tgt := 20) dX10_effect_14 (by decide) (fun k12 => ?_) (fun k12 => ?_)
    · replace F := F.1 k12
      refine z_iload_n (pc := 20) dX10_effect_20 rfl rfl ?_
      refine z_iload (pc := 21) dX10_effect_21 rfl ?_
      refine q_invS (pc := 23) (As := [.int x1, .int x4]) (st := []) dX10_effect_23 ok_X10_fitsEffect ml_RX10_158 st_X10_fitsEffect pa_X10_fitsEffect ⟨Nat.le_of_ble_eq_true rfl, Nat.le_of_ble_eq_true rfl⟩ (q_kI F (fun vh3 h3 F => ?_))
      obtain ⟨G3, F⟩ := F
      refine z_if_eq (pc := 26) (tgt := 41) dX10_effect_26 (by decide) (fun k11 => ?_) (fun k11 => ?_)
      · replace F := F.1 k11
        refine z_bipush (pc := 41) (v := -2) dX10_effect_41 (by decide) ?_
        exact q_retI (pc := 43) dX10_effect_43 rfl F
      · replace F := F.2 k11
        refine z_iload (pc := 29) dX10_effect_29 rfl ?_
        refine z_bipush (pc := 31) (v := -9) dX10_effect_31 (by decide) ?_
        refine z_bipush (pc := 33) (v := 9) dX10_effect_33 (by decide) ?_
        refine q_invS (pc := 35) (As := [.int x5, .int (-9), .int 9]) (st := []) dX10_effect_35 ok_X10_within ml_RX10_82 st_X10_within pa_X10_within ⟨Nat.le_of_ble_eq_true rfl, Nat.le_of_ble_eq_true rfl⟩ (q_kI F (fun vh4 h4 F => ?_))
        obtain ⟨G4, F⟩ := F
        refine z_if_ne (pc := 38) (tgt := 44) dX10_effect_38 (by decide) (fun k10 => ?_) (fun k10 => ?_)
        · replace F := F.1 k10
          refine z_aload_n (pc := 44) dX10_effect_44 rfl rfl ?_
          refine q_getR (pc := 45) (i := 2) dX10_effect_45 lk_RX10_20 (lyc rfl) (G4 0 1 2 rfl) ?_
          refine q_getI (pc := 48) (v := rI h4 2 3) dX10_effect_48 lk_RX10_161 (lyc rfl) rfl ?_
          refine z_bipush (pc := 51) (v := 10) dX10_effect_51 (by decide) ?_
          refine z_icmp_lt (pc := 53) (tgt := 59) dX10_effect_53 (by decide) (fun k9 => ?_) (fun k9 => ?_)
          · replace F := F.1 k9
            refine z_aload_n (pc := 59) dX10_effect_59 rfl rfl ?_
            refine q_getR (pc := 60) (i := 2) dX10_effect_60 lk_RX10_20 (lyc rfl) (G4 0 1 2 rfl) ?_
            refine q_getI (pc := 63) (v := rI h4 2 3) dX10_effect_63 lk_RX10_161 (lyc rfl) rfl ?_
            refine z_istore (pc := 66) (ls' := [some (.ref 0), some (.int x1), some (.int x2), some (.int x3), some (.int x4), some (.int x5), some (.int (rI h4 2 3))]) dX10_effect_66 (by decide) rfl ?_
            refine z_aload_n (pc := 68) dX10_effect_68 rfl rfl ?_
            refine q_getR (pc := 69) (i := 2) dX10_effect_69 lk_RX10_20 (lyc rfl) (G4 0 1 2 rfl) ?_
            refine q_getR (pc := 72) (i := 4) dX10_effect_72 lk_RX10_164 (lyc rfl) (G4 2 2 4 rfl) ?_
            refine z_iload (pc := 75) dX10_effect_75 rfl ?_
            obtain ⟨k5, F⟩ := F
            obtain ⟨k6, F⟩ := F
            refine q_aald (pc := 77) (j := (Int32.toNatClampNeg (rI h4 2 3))) (r := rG h4 4 ((Int32.toNatClampNeg (rI h4 2 3)))) (t := 1) dX10_effect_77 (lyc rfl) (zvn (lnc rfl) k5) rfl k6.1 ?_
            refine z_iload_n (pc := 78) dX10_effect_78 rfl rfl ?_
            refine z_iload_n (pc := 79) dX10_effect_79 rfl rfl ?_
            refine z_iload_n (pc := 80) dX10_effect_80 rfl rfl ?_
            refine z_iload (pc := 81) dX10_effect_81 rfl ?_
            refine z_iload (pc := 83) dX10_effect_83 rfl ?_
            refine q_invV (pc := 85) (As := [.int x1, .int x2, .int x3, .int x4, .int x5]) (st := []) dX10_effect_85 ok_X1_become ml_RX10_168 iv_X1_become pa_X1_become ⟨Nat.le_of_ble_eq_true rfl, Nat.le_of_ble_eq_true rfl⟩ k6.2 (q_kV F (fun h5 F => ?_))
            obtain ⟨G5, F⟩ := F
            refine z_aload_n (pc := 88) dX10_effect_88 rfl rfl ?_
            refine q_getR (pc := 89) (i := 2) dX10_effect_89 lk_RX10_20 (lyc rfl) (G5 0 1 2 rfl) ?_
            refine z_dup (pc := 92) dX10_effect_92 rfl ?_
            refine q_getI (pc := 93) (v := rI h5 2 3) dX10_effect_93 lk_RX10_161 (lyc rfl) rfl ?_
            refine z_iconst (pc := 96) (v := 1) dX10_effect_96 (by decide) ?_
            refine z_iadd (pc := 97) dX10_effect_97 ?_
            refine q_putI (pc := 98) dX10_effect_98 lk_RX10_161 (lyc rfl) ?_
            refine z_aload_n (pc := 101) dX10_effect_101 rfl rfl ?_
            refine q_getR (pc := 102) (i := 1) dX10_effect_102 lk_RX10_10 (lyc rfl) (G5 0 0 1 rfl) ?_
            refine z_iconst (pc := 105) (v := 0) dX10_effect_105 (by decide) ?_
            refine q_invV (pc := 106) (As := [.int 0]) (st := []) dX10_effect_106 ok_X0_settle ml_RX10_90 iv_X0_settle pa_X0_settle ⟨Nat.le_of_ble_eq_true rfl, Nat.le_of_ble_eq_true rfl⟩ (lyc rfl) (q_kV F (fun h6 F => ?_))
            obtain ⟨G6, F⟩ := F
            refine z_iload (pc := 109) dX10_effect_109 rfl ?_
            exact q_retI (pc := 111) dX10_effect_111 rfl F
          · replace F := F.2 k9
            refine z_bipush (pc := 56) (v := -4) dX10_effect_56 (by decide) ?_
            exact q_retI (pc := 58) dX10_effect_58 rfl F
        · replace F := F.2 k10
          refine z_bipush (pc := 41) (v := -2) dX10_effect_41 (by decide) ?_
          exact q_retI (pc := 43) dX10_effect_43 rfl F
    · replace F := F.2 k12
      refine z_bipush (pc := 17) (v := -2) dX10_effect_17 (by decide) ?_
      exact q_retI (pc := 19) dX10_effect_19 rfl F
theorem g_X10_source {x1 : Int32} {x2 : Int32} {h : zHp} {Q : Int32 → zHp → Prop}  (G : zG h) (F : zcI M_X8_hasEffect [.ref 2, .int x1] h (fun vh1 h1 => zG h1 ∧ ((vh1 = 0 → (Q (-2) h1)) ∧ (¬ (vh1 = 0) → ((x2 = -1 → (zlI M_X10_source 30 [some (.ref 0), some (.int x1), some (.int x2), none] [] h1 Q)) ∧ (¬ (x2 = -1) → (zcI M_X8_hasThing [.ref 2, .int x2] h1 (fun vh2 h2 => zG h2 ∧ ((¬ vh2 = 0 → (zlI M_X10_source 30 [some (.ref 0), some (.int x1), some (.int x2), none] [] h2 Q)) ∧ (vh2 = 0 → (Q (-2) h2))))))))))) : zcI M_X10_source [.ref 0, .int x1, .int x2] h Q := by
  show zw zNT zNT M_X10_source 0 [some (.ref 0), some (.int x1), some (.int x2), none] [] h _
  refine z_aload_n (pc := 0) dX10_source_0 rfl rfl ?_
  refine q_getR (pc := 1) (i := 2) dX10_source_1 lk_RX10_20 (lyc rfl) (G 0 1 2 rfl) ?_
  refine z_iload_n (pc := 4) dX10_source_4 rfl rfl ?_
  refine q_invV (pc := 5) (As := [.int x1]) (st := []) dX10_source_5 ok_X8_hasEffect ml_RX10_174 iv_X8_hasEffect pa_X8_hasEffect ⟨Nat.le_of_ble_eq_true rfl, Nat.le_of_ble_eq_true rfl⟩ (lyc rfl) (q_kI F (fun vh1 h1 F => ?_))
  obtain ⟨G1, F⟩ := F
  refine z_if_eq (pc := 8) (tgt := 27) dX10_source_8 (by decide) (fun k5 => ?_) (fun k5 => ?_)
  · replace F := F.1 k5
    refine z_bipush (pc := 27) (v := -2) dX10_source_27 (by decide) ?_
    exact q_retI (pc := 29) dX10_source_29 rfl F
  · replace F := F.2 k5
    refine z_iload_n (pc := 11) dX10_source_11 rfl rfl ?_
    refine z_iconst (pc := 12) (v := -1) dX10_source_12 (by decide) ?_
    refine z_icmp_eq (pc := 13) (tgt := 30) dX10_source_13 (by decide) (fun k4 => ?_) (fun k4 => ?_)
    · replace F := F.1 k4
      exact F
    · replace F := F.2 k4
      refine z_aload_n (pc := 16) dX10_source_16 rfl rfl ?_
      refine q_getR (pc := 17) (i := 2) dX10_source_17 lk_RX10_20 (lyc rfl) (G1 0 1 2 rfl) ?_
      refine z_iload_n (pc := 20) dX10_source_20 rfl rfl ?_
      refine q_invV (pc := 21) (As := [.int x2]) (st := []) dX10_source_21 ok_X8_hasThing ml_RX10_94 iv_X8_hasThing pa_X8_hasThing ⟨Nat.le_of_ble_eq_true rfl, Nat.le_of_ble_eq_true rfl⟩ (lyc rfl) (q_kI F (fun vh2 h2 F => ?_))
      obtain ⟨G2, F⟩ := F
      refine z_if_ne (pc := 24) (tgt := 30) dX10_source_24 (by decide) (fun k3 => ?_) (fun k3 => ?_)
      · replace F := F.1 k3
        exact F
      · replace F := F.2 k3
        refine z_bipush (pc := 27) (v := -2) dX10_source_27 (by decide) ?_
        exact q_retI (pc := 29) dX10_source_29 rfl F
theorem g_X10_source_30 {x1 : Int32} {x2 : Int32} {h : zHp} {Q : Int32 → zHp → Prop}  (G : zG h) (F : vp_in x1 10 ∧ (zRef h 4 ((Int32.toNatClampNeg x1)) 2 ∧ (zcV M_X0_settle [.ref 1, .int 0] (wI h (rG h 4 ((Int32.toNatClampNeg x1))) 0 x2) (fun h1 => zG h1 ∧ (Q (rI h (rG h 4 ((Int32.toNatClampNeg x1))) 0) h1))))) : zlI M_X10_source 30 [some (.ref 0), some (.int x1), some (.int x2), none] [] h Q := by
  refine z_aload_n (pc := 30) dX10_source_30 rfl rfl ?_
  refine q_getR (pc := 31) (i := 2) dX10_source_31 lk_RX10_20 (lyc rfl) (G 0 1 2 rfl) ?_
  refine q_getR (pc := 34) (i := 4) dX10_source_34 lk_RX10_164 (lyc rfl) (G 2 2 4 rfl) ?_
  refine z_iload_n (pc := 37) dX10_source_37 rfl rfl ?_
  obtain ⟨k1, F⟩ := F
  obtain ⟨k2, F⟩ := F
  refine q_aald (pc := 38) (j := (Int32.toNatClampNeg x1)) (r := rG h 4 ((Int32.toNatClampNeg x1))) (t := 1) dX10_source_38 (lyc rfl) (zvn (lnc rfl) k1) rfl k2.1 ?_
  refine q_getI (pc := 39) (v := rI h (rG h 4 ((Int32.toNatClampNeg x1))) 0) dX10_source_39 lk_RX10_177 k2.2 rfl ?_
  refine z_istore_n (pc := 42) (ls' := [some (.ref 0), some (.int x1), some (.int x2), some (.int (rI h (rG h 4 ((Int32.toNatClampNeg x1))) 0))]) dX10_source_42 rfl (by decide) rfl ?_
  refine z_aload_n (pc := 43) dX10_source_43 rfl rfl ?_
  refine q_getR (pc := 44) (i := 2) dX10_source_44 lk_RX10_20 (lyc rfl) (G 0 1 2 rfl) ?_
  refine q_getR (pc := 47) (i := 4) dX10_source_47 lk_RX10_164 (lyc rfl) (G 2 2 4 rfl) ?_
  refine z_iload_n (pc := 50) dX10_source_50 rfl rfl ?_
  refine q_aald (pc := 51) (j := (Int32.toNatClampNeg x1)) (r := rG h 4 ((Int32.toNatClampNeg x1))) (t := 1) dX10_source_51 (lyc rfl) (zvn (lnc rfl) k1) rfl k2.1 ?_
  refine z_iload_n (pc := 52) dX10_source_52 rfl rfl ?_
  refine q_putI (pc := 53) dX10_source_53 lk_RX10_177 k2.2 ?_
  refine z_aload_n (pc := 56) dX10_source_56 rfl rfl ?_
  refine q_getR (pc := 57) (i := 1) dX10_source_57 lk_RX10_10 (lyc rfl) (G 0 0 1 rfl) ?_
  refine z_iconst (pc := 60) (v := 0) dX10_source_60 (by decide) ?_
  refine q_invV (pc := 61) (As := [.int 0]) (st := []) dX10_source_61 ok_X0_settle ml_RX10_90 iv_X0_settle pa_X0_settle ⟨Nat.le_of_ble_eq_true rfl, Nat.le_of_ble_eq_true rfl⟩ (lyc rfl) (q_kV F (fun h1 F => ?_))
  obtain ⟨G1, F⟩ := F
  refine z_iload_n (pc := 64) dX10_source_64 rfl rfl ?_
  exact q_retI (pc := 65) dX10_source_65 rfl F
theorem g_X10_lasts {x1 : Int32} {x2 : Int32} {h : zHp} {Q : Int32 → zHp → Prop}  (G : zG h) (F : zcI M_X8_hasEffect [.ref 2, .int x1] h (fun vh1 h1 => zG h1 ∧ ((vh1 = 0 → (Q (-2) h1)) ∧ (¬ (vh1 = 0) → (zcI M_X10_within [.int x2, .int 0, .int 9] h1 (fun vh2 h2 => zG h2 ∧ ((¬ vh2 = 0 → (vp_in x1 10 ∧ (zRef h2 4 ((Int32.toNatClampNeg x1)) 2 ∧ (Q (rI h2 (rG h2 4 ((Int32.toNatClampNeg x1))) 6) (wI h2 (rG h2 4 ((Int32.toNatClampNeg x1))) 6 x2))))) ∧ (vh2 = 0 → (Q (-2) h2))))))))) : zcI M_X10_lasts [.ref 0, .int x1, .int x2] h Q := by
  show zw zNT zNT M_X10_lasts 0 [some (.ref 0), some (.int x1), some (.int x2), none] [] h _
  refine z_aload_n (pc := 0) dX10_lasts_0 rfl rfl ?_
  refine q_getR (pc := 1) (i := 2) dX10_lasts_1 lk_RX10_20 (lyc rfl) (G 0 1 2 rfl) ?_
  refine z_iload_n (pc := 4) dX10_lasts_4 rfl rfl ?_
  refine q_invV (pc := 5) (As := [.int x1]) (st := []) dX10_lasts_5 ok_X8_hasEffect ml_RX10_174 iv_X8_hasEffect pa_X8_hasEffect ⟨Nat.le_of_ble_eq_true rfl, Nat.le_of_ble_eq_true rfl⟩ (lyc rfl) (q_kI F (fun vh1 h1 F => ?_))
  obtain ⟨G1, F⟩ := F
  refine z_if_eq (pc := 8) (tgt := 21) dX10_lasts_8 (by decide) (fun k6 => ?_) (fun k6 => ?_)
  · replace F := F.1 k6
    refine z_bipush (pc := 21) (v := -2) dX10_lasts_21 (by decide) ?_
    exact q_retI (pc := 23) dX10_lasts_23 rfl F
  · replace F := F.2 k6
    refine z_iload_n (pc := 11) dX10_lasts_11 rfl rfl ?_
    refine z_iconst (pc := 12) (v := 0) dX10_lasts_12 (by decide) ?_
    refine z_bipush (pc := 13) (v := 9) dX10_lasts_13 (by decide) ?_
    refine q_invS (pc := 15) (As := [.int x2, .int 0, .int 9]) (st := []) dX10_lasts_15 ok_X10_within ml_RX10_82 st_X10_within pa_X10_within ⟨Nat.le_of_ble_eq_true rfl, Nat.le_of_ble_eq_true rfl⟩ (q_kI F (fun vh2 h2 F => ?_))
    obtain ⟨G2, F⟩ := F
    refine z_if_ne (pc := 18) (tgt := 24) dX10_lasts_18 (by decide) (fun k5 => ?_) (fun k5 => ?_)
    · replace F := F.1 k5
      refine z_aload_n (pc := 24) dX10_lasts_24 rfl rfl ?_
      refine q_getR (pc := 25) (i := 2) dX10_lasts_25 lk_RX10_20 (lyc rfl) (G2 0 1 2 rfl) ?_
      refine q_getR (pc := 28) (i := 4) dX10_lasts_28 lk_RX10_164 (lyc rfl) (G2 2 2 4 rfl) ?_
      refine z_iload_n (pc := 31) dX10_lasts_31 rfl rfl ?_
      obtain ⟨k3, F⟩ := F
      obtain ⟨k4, F⟩ := F
      refine q_aald (pc := 32) (j := (Int32.toNatClampNeg x1)) (r := rG h2 4 ((Int32.toNatClampNeg x1))) (t := 1) dX10_lasts_32 (lyc rfl) (zvn (lnc rfl) k3) rfl k4.1 ?_
      refine q_getI (pc := 33) (v := rI h2 (rG h2 4 ((Int32.toNatClampNeg x1))) 6) dX10_lasts_33 lk_RX10_180 k4.2 rfl ?_
      refine z_istore_n (pc := 36) (ls' := [some (.ref 0), some (.int x1), some (.int x2), some (.int (rI h2 (rG h2 4 ((Int32.toNatClampNeg x1))) 6))]) dX10_lasts_36 rfl (by decide) rfl ?_
      refine z_aload_n (pc := 37) dX10_lasts_37 rfl rfl ?_
      refine q_getR (pc := 38) (i := 2) dX10_lasts_38 lk_RX10_20 (lyc rfl) (G2 0 1 2 rfl) ?_
      refine q_getR (pc := 41) (i := 4) dX10_lasts_41 lk_RX10_164 (lyc rfl) (G2 2 2 4 rfl) ?_
      refine z_iload_n (pc := 44) dX10_lasts_44 rfl rfl ?_
      refine q_aald (pc := 45) (j := (Int32.toNatClampNeg x1)) (r := rG h2 4 ((Int32.toNatClampNeg x1))) (t := 1) dX10_lasts_45 (lyc rfl) (zvn (lnc rfl) k3) rfl k4.1 ?_
      refine z_iload_n (pc := 46) dX10_lasts_46 rfl rfl ?_
      refine q_putI (pc := 47) dX10_lasts_47 lk_RX10_180 k4.2 ?_
      refine z_iload_n (pc := 50) dX10_lasts_50 rfl rfl ?_
      exact q_retI (pc := 51) dX10_lasts_51 rfl F
    · replace F := F.2 k5
      refine z_bipush (pc := 21) (v := -2) dX10_lasts_21 (by decide) ?_
      exact q_retI (pc := 23) dX10_lasts_23 rfl F
theorem g_X10_ends {x1 : Int32} {h : zHp} {Q : Int32 → zHp → Prop}  (G : zG h) (F : zcI M_X8_hasEffect [.ref 2, .int x1] h (fun vh1 h1 => zG h1 ∧ ((¬ vh1 = 0 → (zcV M_X8_dropEffect [.ref 2, .int x1] h1 (fun h2 => zG h2 ∧ (zcV M_X0_settle [.ref 1, .int 0] h2 (fun h3 => zG h3 ∧ (Q (rI h3 2 3) h3)))))) ∧ (vh1 = 0 → (Q (-2) h1))))) : zcI M_X10_ends [.ref 0, .int x1] h Q := by
  show zw zNT zNT M_X10_ends 0 [some (.ref 0), some (.int x1)] [] h _
  refine z_aload_n (pc := 0) dX10_ends_0 rfl rfl ?_
  refine q_getR (pc := 1) (i := 2) dX10_ends_1 lk_RX10_20 (lyc rfl) (G 0 1 2 rfl) ?_
  refine z_iload_n (pc := 4) dX10_ends_4 rfl rfl ?_
  refine q_invV (pc := 5) (As := [.int x1]) (st := []) dX10_ends_5 ok_X8_hasEffect ml_RX10_174 iv_X8_hasEffect pa_X8_hasEffect ⟨Nat.le_of_ble_eq_true rfl, Nat.le_of_ble_eq_true rfl⟩ (lyc rfl) (q_kI F (fun vh1 h1 F => ?_))
  obtain ⟨G1, F⟩ := F
  refine z_if_ne (pc := 8) (tgt := 14) dX10_ends_8 (by decide) (fun k4 => ?_) (fun k4 => ?_)
  · replace F := F.1 k4
    refine z_aload_n (pc := 14) dX10_ends_14 rfl rfl ?_
    refine q_getR (pc := 15) (i := 2) dX10_ends_15 lk_RX10_20 (lyc rfl) (G1 0 1 2 rfl) ?_
    refine z_iload_n (pc := 18) dX10_ends_18 rfl rfl ?_
    refine q_invV (pc := 19) (As := [.int x1]) (st := []) dX10_ends_19 ok_X8_dropEffect ml_RX10_183 iv_X8_dropEffect pa_X8_dropEffect ⟨Nat.le_of_ble_eq_true rfl, Nat.le_of_ble_eq_true rfl⟩ (lyc rfl) (q_kV F (fun h2 F => ?_))
    obtain ⟨G2, F⟩ := F
    refine z_aload_n (pc := 22) dX10_ends_22 rfl rfl ?_
    refine q_getR (pc := 23) (i := 1) dX10_ends_23 lk_RX10_10 (lyc rfl) (G2 0 0 1 rfl) ?_
    refine z_iconst (pc := 26) (v := 0) dX10_ends_26 (by decide) ?_
    refine q_invV (pc := 27) (As := [.int 0]) (st := []) dX10_ends_27 ok_X0_settle ml_RX10_90 iv_X0_settle pa_X0_settle ⟨Nat.le_of_ble_eq_true rfl, Nat.le_of_ble_eq_true rfl⟩ (lyc rfl) (q_kV F (fun h3 F => ?_))
    obtain ⟨G3, F⟩ := F
    refine z_aload_n (pc := 30) dX10_ends_30 rfl rfl ?_
    refine q_getR (pc := 31) (i := 2) dX10_ends_31 lk_RX10_20 (lyc rfl) (G3 0 1 2 rfl) ?_
    refine q_getI (pc := 34) (v := rI h3 2 3) dX10_ends_34 lk_RX10_161 (lyc rfl) rfl ?_
    exact q_retI (pc := 37) dX10_ends_37 rfl F
  · replace F := F.2 k4
    refine z_bipush (pc := 11) (v := -2) dX10_ends_11 (by decide) ?_
    exact q_retI (pc := 13) dX10_ends_13 rfl F
theorem g_X10_order {x1 : Int32} {h : zHp} {Q : Int32 → zHp → Prop}  (G : zG h) (F : (-1 ≤ x1 → ((¬ x1 = -1 → ((x1 < rI h 42 5 → (vp_in x1 10 ∧ (Q (rI h 47 ((Int32.toNatClampNeg x1))) h))) ∧ (¬ (x1 < rI h 42 5) → (Q (-1) h)))) ∧ (x1 = -1 → (Q (rI h 42 5) h)))) ∧ (¬ (-1 ≤ x1) → (Q (-2) h))) : zcI M_X10_order [.ref 0, .int x1] h Q := by
  show zw zNT zNT M_X10_order 0 [some (.ref 0), some (.int x1)] [] h _
  refine z_iload_n (pc := 0) dX10_order_0 rfl rfl ?_
  refine z_iconst (pc := 1) (v := -1) dX10_order_1 (by decide) ?_
  refine z_icmp_ge (pc := 2) (tgt := 8) dX10_order_2 (by decide) (fun k4 => ?_) (fun k4 => ?_)
  · replace F := F.1 k4
    refine z_iload_n (pc := 8) dX10_order_8 rfl rfl ?_
    refine z_iconst (pc := 9) (v := -1) dX10_order_9 (by decide) ?_
    refine z_icmp_ne (pc := 10) (tgt := 21) dX10_order_10 (by decide) (fun k3 => ?_) (fun k3 => ?_)
    · replace F := F.1 k3
      refine z_iload_n (pc := 21) dX10_order_21 rfl rfl ?_
      refine z_aload_n (pc := 22) dX10_order_22 rfl rfl ?_
      refine q_getR (pc := 23) (i := 42) dX10_order_23 lk_RX10_27 (lyc rfl) (G 0 2 42 rfl) ?_
      refine q_getI (pc := 26) (v := rI h 42 5) dX10_order_26 lk_RX10_187 (lyc rfl) rfl ?_
      refine z_icmp_lt (pc := 29) (tgt := 34) dX10_order_29 (by decide) (fun k2 => ?_) (fun k2 => ?_)
      · replace F := F.1 k2
        refine z_aload_n (pc := 34) dX10_order_34 rfl rfl ?_
        refine q_getR (pc := 35) (i := 42) dX10_order_35 lk_RX10_27 (lyc rfl) (G 0 2 42 rfl) ?_
        refine q_getR (pc := 38) (i := 47) dX10_order_38 lk_RX10_190 (lyc rfl) (G 42 4 47 rfl) ?_
        refine z_iload_n (pc := 41) dX10_order_41 rfl rfl ?_
        obtain ⟨k1, F⟩ := F
        refine q_iald (pc := 42) (j := (Int32.toNatClampNeg x1)) (v := rI h 47 ((Int32.toNatClampNeg x1))) dX10_order_42 (lyc rfl) (zvn (lnc rfl) k1) rfl rfl ?_
        exact q_retI (pc := 43) dX10_order_43 rfl F
      · replace F := F.2 k2
        refine z_iconst (pc := 32) (v := -1) dX10_order_32 (by decide) ?_
        exact q_retI (pc := 33) dX10_order_33 rfl F
    · replace F := F.2 k3
      refine z_aload_n (pc := 13) dX10_order_13 rfl rfl ?_
      refine q_getR (pc := 14) (i := 42) dX10_order_14 lk_RX10_27 (lyc rfl) (G 0 2 42 rfl) ?_
      refine q_getI (pc := 17) (v := rI h 42 5) dX10_order_17 lk_RX10_187 (lyc rfl) rfl ?_
      exact q_retI (pc := 20) dX10_order_20 rfl F
  · replace F := F.2 k4
    refine z_bipush (pc := 5) (v := -2) dX10_order_5 (by decide) ?_
    exact q_retI (pc := 7) dX10_order_7 rfl F
theorem g_X10_depends {x1 : Int32} {x2 : Int32} {h : zHp} {Q : Int32 → zHp → Prop}  (G : zG h) (F : zcI M_X8_hasEffect [.ref 2, .int x1] h (fun vh1 h1 => zG h1 ∧ ((vh1 = 0 → (Q (-2) h1)) ∧ (¬ (vh1 = 0) → (zcI M_X8_hasEffect [.ref 2, .int x2] h1 (fun vh2 h2 => zG h2 ∧ ((vh2 = 0 → (Q (-2) h2)) ∧ (¬ (vh2 = 0) → ((¬ x1 = x2 → (vp_in x1 10 ∧ (zRef h2 4 ((Int32.toNatClampNeg x1)) 2 ∧ (vp_in x2 10 ∧ (zRef h2 4 ((Int32.toNatClampNeg x2)) 2 ∧ (zcI M_X1_layer [.ref (rG h2 4 ((Int32.toNatClampNeg x1)))] h2 (fun vh3 h3 => zG h3 ∧ (zcI M_X1_layer [.ref (rG h2 4 ((Int32.toNatClampNeg x2)))] h3 (fun vh4 h4 => zG h4 ∧ ((¬ vh3 = vh4 → (Q (-3) h4)) ∧ (vh3 = vh4 → (zcI M_X8_works [.ref 2, .ref (rG h2 4 ((Int32.toNatClampNeg x1)))] h4 (fun vh5 h5 => zG h5 ∧ ((vh5 = 0 → (Q (-3) h5)) ∧ (¬ (vh5 = 0) → (zcI M_X8_works [.ref 2, .ref (rG h2 4 ((Int32.toNatClampNeg x2)))] h5 (fun vh6 h6 => zG h6 ∧ ((¬ vh6 = 0 → (zcI M_X1_layer [.ref (rG h2 4 ((Int32.toNatClampNeg x1)))] h6 (fun vh7 h7 => zG h7 ∧ (zcV M_X2_make [.ref 133, .ref 2, .int vh7] h7 (fun h8 => zG h8 ∧ (zcI M_X2_needs [.ref 133, .ref 2, .ref (rG h2 4 ((Int32.toNatClampNeg x1))), .ref (rG h2 4 ((Int32.toNatClampNeg x2)))] h8 (fun vh9 h9 => zG h9 ∧ ((vh9 = 0 → (Q 0 h9)) ∧ (¬ (vh9 = 0) → (Q 1 h9)))))))))) ∧ (vh6 = 0 → (Q (-3) h6)))))))))))))))))))) ∧ (x1 = x2 → (Q (-2) h2))))))))))) : zcI M_X10_depends [.ref 0, .int x1, .int x2] h Q := by
  show zw zNT zNT M_X10_depends 0 [some (.ref 0), some (.int x1), some (.int x2), none, none] [] h _
  refine z_aload_n (pc := 0) dX10_depends_0 rfl rfl ?_
  refine q_getR (pc := 1) (i := 2) dX10_depends_1 lk_RX10_20 (lyc rfl) (G 0 1 2 rfl) ?_
  refine z_iload_n (pc := 4) dX10_depends_4 rfl rfl ?_
  refine q_invV (pc := 5) (As := [.int x1]) (st := []) dX10_depends_5 ok_X8_hasEffect ml_RX10_174 iv_X8_hasEffect pa_X8_hasEffect ⟨Nat.le_of_ble_eq_true rfl, Nat.le_of_ble_eq_true rfl⟩ (lyc rfl) (q_kI F (fun vh1 h1 F => ?_))
  obtain ⟨G1, F⟩ := F
  refine z_if_eq (pc := 8) (tgt := 27) dX10_depends_8 (by decide) (fun k20 => ?_) (fun k20 => ?_)
  · replace F := F.1 k20
    refine z_bipush (pc := 27) (v := -2) dX10_depends_27 (by decide) ?_
    exact q_retI (pc := 29) dX10_depends_29 rfl F
  · replace F := F.2 k20
    refine z_aload_n (pc := 11) dX10_depends_11 rfl rfl ?_
    refine q_getR (pc := 12) (i := 2) dX10_depends_12 lk_RX10_20 (lyc rfl) (G1 0 1 2 rfl) ?_
    refine z_iload_n (pc := 15) dX10_depends_15 rfl rfl ?_
    refine q_invV (pc := 16) (As := [.int x2]) (st := []) dX10_depends_16 ok_X8_hasEffect ml_RX10_174 iv_X8_hasEffect pa_X8_hasEffect ⟨Nat.le_of_ble_eq_true rfl, Nat.le_of_ble_eq_true rfl⟩ (lyc rfl) (q_kI F (fun vh2 h2 F => ?_))
    obtain ⟨G2, F⟩ := F
    refine z_if_eq (pc := 19) (tgt := 27) dX10_depends_19 (by decide) (fun k19 => ?_) (fun k19 => ?_)
    · replace F := F.1 k19
      refine z_bipush (pc := 27) (v := -2) dX10_depends_27 (by decide) ?_
      exact q_retI (pc := 29) dX10_depends_29 rfl F
    · replace F := F.2 k19
      refine z_iload_n (pc := 22) dX10_depends_22 rfl rfl ?_
      refine z_iload_n (pc := 23) dX10_depends_23 rfl rfl ?_
      refine z_icmp_ne (pc := 24) (tgt := 30) dX10_depends_24 (by decide) (fun k18 => ?_) (fun k18 => ?_)
      · replace F := F.1 k18
        refine z_aload_n (pc := 30) dX10_depends_30 rfl rfl ?_
        refine q_getR (pc := 31) (i := 2) dX10_depends_31 lk_RX10_20 (lyc rfl) (G2 0 1 2 rfl) ?_
        refine q_getR (pc := 34) (i := 4) dX10_depends_34 lk_RX10_164 (lyc rfl) (G2 2 2 4 rfl) ?_
        refine z_iload_n (pc := 37) dX10_depends_37 rfl rfl ?_
        obtain ⟨k3, F⟩ := F
        obtain ⟨k4, F⟩ := F
        refine q_aald (pc := 38) (j := (Int32.toNatClampNeg x1)) (r := rG h2 4 ((Int32.toNatClampNeg x1))) (t := 1) dX10_depends_38 (lyc rfl) (zvn (lnc rfl) k3) rfl k4.1 ?_
        refine z_astore_n (pc := 39) (ls' := [some (.ref 0), some (.int x1), some (.int x2), some (.ref (rG h2 4 ((Int32.toNatClampNeg x1)))), none]) dX10_depends_39 rfl (by decide) rfl ?_
        refine z_aload_n (pc := 40) dX10_depends_40 rfl rfl ?_
        refine q_getR (pc := 41) (i := 2) dX10_depends_41 lk_RX10_20 (lyc rfl) (G2 0 1 2 rfl) ?_
        refine q_getR (pc := 44) (i := 4) dX10_depends_44 lk_RX10_164 (lyc rfl) (G2 2 2 4 rfl) ?_
        refine z_iload_n (pc := 47) dX10_depends_47 rfl rfl ?_
        obtain ⟨k5, F⟩ := F
        obtain ⟨k6, F⟩ := F
        refine q_aald (pc := 48) (j := (Int32.toNatClampNeg x2)) (r := rG h2 4 ((Int32.toNatClampNeg x2))) (t := 1) dX10_depends_48 (lyc rfl) (zvn (lnc rfl) k5) rfl k6.1 ?_
        refine z_astore (pc := 49) (ls' := [some (.ref 0), some (.int x1), some (.int x2), some (.ref (rG h2 4 ((Int32.toNatClampNeg x1)))), some (.ref (rG h2 4 ((Int32.toNatClampNeg x2))))]) dX10_depends_49 (by decide) rfl ?_
        refine z_aload_n (pc := 51) dX10_depends_51 rfl rfl ?_
        refine q_invV (pc := 52) (As := []) (st := []) dX10_depends_52 ok_X1_layer ml_RX10_193 iv_X1_layer pa_X1_layer ⟨Nat.le_of_ble_eq_true rfl, Nat.le_of_ble_eq_true rfl⟩ k4.2 (q_kI F (fun vh3 h3 F => ?_))
        obtain ⟨G3, F⟩ := F
        refine z_aload (pc := 55) dX10_depends_55 rfl ?_
        refine q_invV (pc := 57) (As := []) (st := [.int vh3]) dX10_depends_57 ok_X1_layer ml_RX10_193 iv_X1_layer pa_X1_layer ⟨Nat.le_of_ble_eq_true rfl, Nat.le_of_ble_eq_true rfl⟩ k6.2 (q_kI F (fun vh4 h4 F => ?_))
        obtain ⟨G4, F⟩ := F
        refine z_icmp_ne (pc := 60) (tgt := 86) dX10_depends_60 (by decide) (fun k17 => ?_) (fun k17 => ?_)
        · replace F := F.1 k17
          refine z_bipush (pc := 86) (v := -3) dX10_depends_86 (by decide) ?_
          exact q_retI (pc := 88) dX10_depends_88 rfl F
        · replace F := F.2 k17
          refine z_aload_n (pc := 63) dX10_depends_63 rfl rfl ?_
          refine q_getR (pc := 64) (i := 2) dX10_depends_64 lk_RX10_20 (lyc rfl) (G4 0 1 2 rfl) ?_
          refine z_aload_n (pc := 67) dX10_depends_67 rfl rfl ?_
          refine q_invV (pc := 68) (As := [.ref (rG h2 4 ((Int32.toNatClampNeg x1)))]) (st := []) dX10_depends_68 ok_X8_works ml_RX10_197 iv_X8_works pa_X8_works ⟨Nat.le_of_ble_eq_true rfl, Nat.le_of_ble_eq_true rfl⟩ (lyc rfl) (q_kI F (fun vh5 h5 F => ?_))
          obtain ⟨G5, F⟩ := F
          refine z_if_eq (pc := 71) (tgt := 86) dX10_depends_71 (by decide) (fun k16 => ?_) (fun k16 => ?_)
          · replace F := F.1 k16
            refine z_bipush (pc := 86) (v := -3) dX10_depends_86 (by decide) ?_
            exact q_retI (pc := 88) dX10_depends_88 rfl F
          · replace F := F.2 k16
            refine z_aload_n (pc := 74) dX10_depends_74 rfl rfl ?_
            refine q_getR (pc := 75) (i := 2) dX10_depends_75 lk_RX10_20 (lyc rfl) (G5 0 1 2 rfl) ?_
            refine z_aload (pc := 78) dX10_depends_78 rfl ?_
            refine q_invV (pc := 80) (As := [.ref (rG h2 4 ((Int32.toNatClampNeg x2)))]) (st := []) dX10_depends_80 ok_X8_works ml_RX10_197 iv_X8_works pa_X8_works ⟨Nat.le_of_ble_eq_true rfl, Nat.le_of_ble_eq_true rfl⟩ (lyc rfl) (q_kI F (fun vh6 h6 F => ?_))
            obtain ⟨G6, F⟩ := F
            refine z_if_ne (pc := 83) (tgt := 89) dX10_depends_83 (by decide) (fun k15 => ?_) (fun k15 => ?_)
            · replace F := F.1 k15
              refine z_aload_n (pc := 89) dX10_depends_89 rfl rfl ?_
              refine q_getR (pc := 90) (i := 133) dX10_depends_90 lk_RX10_40 (lyc rfl) (G6 0 6 133 rfl) ?_
              refine z_aload_n (pc := 93) dX10_depends_93 rfl rfl ?_
              refine q_getR (pc := 94) (i := 2) dX10_depends_94 lk_RX10_20 (lyc rfl) (G6 0 1 2 rfl) ?_
              refine z_aload_n (pc := 97) dX10_depends_97 rfl rfl ?_
              refine q_invV (pc := 98) (As := []) (st := [.ref 2, .ref 133]) dX10_depends_98 ok_X1_layer ml_RX10_193 iv_X1_layer pa_X1_layer ⟨Nat.le_of_ble_eq_true rfl, Nat.le_of_ble_eq_true rfl⟩ k4.2 (q_kI F (fun vh7 h7 F => ?_))
              obtain ⟨G7, F⟩ := F
              refine q_invV (pc := 101) (As := [.ref 2, .int vh7]) (st := []) dX10_depends_101 ok_X2_make ml_RX10_78 iv_X2_make pa_X2_make ⟨Nat.le_of_ble_eq_true rfl, Nat.le_of_ble_eq_true rfl⟩ (lyc rfl) (q_kV F (fun h8 F => ?_))
              obtain ⟨G8, F⟩ := F
              refine z_aload_n (pc := 104) dX10_depends_104 rfl rfl ?_
              refine q_getR (pc := 105) (i := 133) dX10_depends_105 lk_RX10_40 (lyc rfl) (G8 0 6 133 rfl) ?_
              refine z_aload_n (pc := 108) dX10_depends_108 rfl rfl ?_
              refine q_getR (pc := 109) (i := 2) dX10_depends_109 lk_RX10_20 (lyc rfl) (G8 0 1 2 rfl) ?_
              refine z_aload_n (pc := 112) dX10_depends_112 rfl rfl ?_
              refine z_aload (pc := 113) dX10_depends_113 rfl ?_
              refine q_invV (pc := 115) (As := [.ref 2, .ref (rG h2 4 ((Int32.toNatClampNeg x1))), .ref (rG h2 4 ((Int32.toNatClampNeg x2)))]) (st := []) dX10_depends_115 ok_X2_needs ml_RX10_201 iv_X2_needs pa_X2_needs ⟨Nat.le_of_ble_eq_true rfl, Nat.le_of_ble_eq_true rfl⟩ (lyc rfl) (q_kI F (fun vh9 h9 F => ?_))
              obtain ⟨G9, F⟩ := F
              refine z_if_eq (pc := 118) (tgt := 125) dX10_depends_118 (by decide) (fun k14 => ?_) (fun k14 => ?_)
              · replace F := F.1 k14
                refine z_iconst (pc := 125) (v := 0) dX10_depends_125 (by decide) ?_
                exact q_retI (pc := 126) dX10_depends_126 rfl F
              · replace F := F.2 k14
                refine z_iconst (pc := 121) (v := 1) dX10_depends_121 (by decide) ?_
                refine z_goto (pc := 122) (tgt := 126) dX10_depends_122 (by decide) ?_
                exact q_retI (pc := 126) dX10_depends_126 rfl F
            · replace F := F.2 k15
              refine z_bipush (pc := 86) (v := -3) dX10_depends_86 (by decide) ?_
              exact q_retI (pc := 88) dX10_depends_88 rfl F
      · replace F := F.2 k18
        refine z_bipush (pc := 27) (v := -2) dX10_depends_27 (by decide) ?_
        exact q_retI (pc := 29) dX10_depends_29 rfl F
theorem g_X10_rule {x1 : Int32} {x2 : Int32} {x3 : Int32} {x4 : Int32} {h : zHp} {Q : Int32 → zHp → Prop}  (G : zG h) (F : zcI M_X10_within [.int x1, .int 0, .int 4] h (fun vh1 h1 => zG h1 ∧ ((vh1 = 0 → (Q (-2) h1)) ∧ (¬ (vh1 = 0) → (zcI M_X10_isScope [.int x2, .int x3] h1 (fun vh2 h2 => zG h2 ∧ ((¬ vh2 = 0 → ((¬ x1 = 0 → (zlI M_X10_rule 38 [some (.ref 0), some (.int x1), some (.int x2), some (.int x3), some (.int x4), none] [] h2 Q)) ∧ (x1 = 0 → (zcI M_X10_within [.int x4, .int 1, .int 99] h2 (fun vh3 h3 => zG h3 ∧ ((¬ vh3 = 0 → (zlI M_X10_rule 38 [some (.ref 0), some (.int x1), some (.int x2), some (.int x3), some (.int x4), none] [] h3 Q)) ∧ (vh3 = 0 → (Q (-2) h3)))))))) ∧ (vh2 = 0 → (Q (-2) h2))))))))) : zcI M_X10_rule [.ref 0, .int x1, .int x2, .int x3, .int x4] h Q := by
  show zw zNT zNT M_X10_rule 0 [some (.ref 0), some (.int x1), some (.int x2), some (.int x3), some (.int x4), none] [] h _
  refine z_iload_n (pc := 0) dX10_rule_0 rfl rfl ?_
  refine z_iconst (pc := 1) (v := 0) dX10_rule_1 (by decide) ?_
  refine z_iconst (pc := 2) (v := 4) dX10_rule_2 (by decide) ?_
  refine q_invS (pc := 3) (As := [.int x1, .int 0, .int 4]) (st := []) dX10_rule_3 ok_X10_within ml_RX10_82 st_X10_within pa_X10_within ⟨Nat.le_of_ble_eq_true rfl, Nat.le_of_ble_eq_true rfl⟩ (q_kI F (fun vh1 h1 F => ?_))
  obtain ⟨G1, F⟩ := F
  refine z_if_eq (pc := 6) (tgt := 17) dX10_rule_6 (by decide) (fun k7 => ?_) (fun k7 => ?_)
  · replace F := F.1 k7
    refine z_bipush (pc := 17) (v := -2) dX10_rule_17 (by decide) ?_
    exact q_retI (pc := 19) dX10_rule_19 rfl F
  · replace F := F.2 k7
    refine z_iload_n (pc := 9) dX10_rule_9 rfl rfl ?_
    refine z_iload_n (pc := 10) dX10_rule_10 rfl rfl ?_
    refine q_invS (pc := 11) (As := [.int x2, .int x3]) (st := []) dX10_rule_11 ok_X10_isScope ml_RX10_151 st_X10_isScope pa_X10_isScope ⟨Nat.le_of_ble_eq_true rfl, Nat.le_of_ble_eq_true rfl⟩ (q_kI F (fun vh2 h2 F => ?_))
    obtain ⟨G2, F⟩ := F
    refine z_if_ne (pc := 14) (tgt := 20) dX10_rule_14 (by decide) (fun k6 => ?_) (fun k6 => ?_)
    · replace F := F.1 k6
      refine z_iload_n (pc := 20) dX10_rule_20 rfl rfl ?_
      refine z_if_ne (pc := 21) (tgt := 38) dX10_rule_21 (by decide) (fun k5 => ?_) (fun k5 => ?_)
      · replace F := F.1 k5
        exact F
      · replace F := F.2 k5
        refine z_iload (pc := 24) dX10_rule_24 rfl ?_
        refine z_iconst (pc := 26) (v := 1) dX10_rule_26 (by decide) ?_
        refine z_bipush (pc := 27) (v := 99) dX10_rule_27 (by decide) ?_
        refine q_invS (pc := 29) (As := [.int x4, .int 1, .int 99]) (st := []) dX10_rule_29 ok_X10_within ml_RX10_82 st_X10_within pa_X10_within ⟨Nat.le_of_ble_eq_true rfl, Nat.le_of_ble_eq_true rfl⟩ (q_kI F (fun vh3 h3 F => ?_))
        obtain ⟨G3, F⟩ := F
        refine z_if_ne (pc := 32) (tgt := 38) dX10_rule_32 (by decide) (fun k4 => ?_) (fun k4 => ?_)
        · replace F := F.1 k4
          exact F
        · replace F := F.2 k4
          refine z_bipush (pc := 35) (v := -2) dX10_rule_35 (by decide) ?_
          exact q_retI (pc := 37) dX10_rule_37 rfl F
    · replace F := F.2 k6
      refine z_bipush (pc := 17) (v := -2) dX10_rule_17 (by decide) ?_
      exact q_retI (pc := 19) dX10_rule_19 rfl F
theorem g_X10_rule_38 {x1 : Int32} {x2 : Int32} {x3 : Int32} {x4 : Int32} {h : zHp} {Q : Int32 → zHp → Prop}  (G : zG h) (F : (¬ x1 = 3 → (zlI M_X10_rule 57 [some (.ref 0), some (.int x1), some (.int x2), some (.int x3), some (.int x4), none] [] h Q)) ∧ (x1 = 3 → (zcI M_X10_within [.int x4, .int 0, .int 7] h (fun vh1 h1 => zG h1 ∧ ((¬ vh1 = 0 → (zlI M_X10_rule 57 [some (.ref 0), some (.int x1), some (.int x2), some (.int x3), some (.int x4), none] [] h1 Q)) ∧ (vh1 = 0 → (Q (-2) h1))))))) : zlI M_X10_rule 38 [some (.ref 0), some (.int x1), some (.int x2), some (.int x3), some (.int x4), none] [] h Q := by
  refine z_iload_n (pc := 38) dX10_rule_38 rfl rfl ?_
  refine z_iconst (pc := 39) (v := 3) dX10_rule_39 (by decide) ?_
  refine z_icmp_ne (pc := 40) (tgt := 57) dX10_rule_40 (by decide) (fun k3 => ?_) (fun k3 => ?_)
  · replace F := F.1 k3
    exact F
  · replace F := F.2 k3
    refine z_iload (pc := 43) dX10_rule_43 rfl ?_
    refine z_iconst (pc := 45) (v := 0) dX10_rule_45 (by decide) ?_
    refine z_bipush (pc := 46) (v := 7) dX10_rule_46 (by decide) ?_
    refine q_invS (pc := 48) (As := [.int x4, .int 0, .int 7]) (st := []) dX10_rule_48 ok_X10_within ml_RX10_82 st_X10_within pa_X10_within ⟨Nat.le_of_ble_eq_true rfl, Nat.le_of_ble_eq_true rfl⟩ (q_kI F (fun vh1 h1 F => ?_))
    obtain ⟨G1, F⟩ := F
    refine z_if_ne (pc := 51) (tgt := 57) dX10_rule_51 (by decide) (fun k2 => ?_) (fun k2 => ?_)
    · replace F := F.1 k2
      exact F
    · replace F := F.2 k2
      refine z_bipush (pc := 54) (v := -2) dX10_rule_54 (by decide) ?_
      exact q_retI (pc := 56) dX10_rule_56 rfl F
theorem g_X10_rule_57 {x1 : Int32} {x2 : Int32} {x3 : Int32} {x4 : Int32} {h : zHp} {Q : Int32 → zHp → Prop}  (G : zG h) (F : (rI h 2 5 < 8 → (vp_in (rI h 2 5) 8 ∧ (zRef h 5 ((Int32.toNatClampNeg (rI h 2 5))) 5 ∧ (zcV M_X4_become [.ref (rG h 5 ((Int32.toNatClampNeg (rI h 2 5)))), .int x1, .int x2, .int x3, .int x4] h (fun h1 => zG h1 ∧ (Q (rI h 2 5) (wI h1 2 5 ((rI h1 2 5) + 1)))))))) ∧ (¬ (rI h 2 5 < 8) → (Q (-4) h))) : zlI M_X10_rule 57 [some (.ref 0), some (.int x1), some (.int x2), some (.int x3), some (.int x4), none] [] h Q := by
  refine z_aload_n (pc := 57) dX10_rule_57 rfl rfl ?_
  refine q_getR (pc := 58) (i := 2) dX10_rule_58 lk_RX10_20 (lyc rfl) (G 0 1 2 rfl) ?_
  refine q_getI (pc := 61) (v := rI h 2 5) dX10_rule_61 lk_RX10_205 (lyc rfl) rfl ?_
  refine z_bipush (pc := 64) (v := 8) dX10_rule_64 (by decide) ?_
  refine z_icmp_lt (pc := 66) (tgt := 72) dX10_rule_66 (by decide) (fun k4 => ?_) (fun k4 => ?_)
  · replace F := F.1 k4
    refine z_aload_n (pc := 72) dX10_rule_72 rfl rfl ?_
    refine q_getR (pc := 73) (i := 2) dX10_rule_73 lk_RX10_20 (lyc rfl) (G 0 1 2 rfl) ?_
    refine q_getI (pc := 76) (v := rI h 2 5) dX10_rule_76 lk_RX10_205 (lyc rfl) rfl ?_
    refine z_istore (pc := 79) (ls' := [some (.ref 0), some (.int x1), some (.int x2), some (.int x3), some (.int x4), some (.int (rI h 2 5))]) dX10_rule_79 (by decide) rfl ?_
    refine z_aload_n (pc := 81) dX10_rule_81 rfl rfl ?_
    refine q_getR (pc := 82) (i := 2) dX10_rule_82 lk_RX10_20 (lyc rfl) (G 0 1 2 rfl) ?_
    refine q_getR (pc := 85) (i := 5) dX10_rule_85 lk_RX10_208 (lyc rfl) (G 2 4 5 rfl) ?_
    refine z_iload (pc := 88) dX10_rule_88 rfl ?_
    obtain ⟨k1, F⟩ := F
    obtain ⟨k2, F⟩ := F
    refine q_aald (pc := 90) (j := (Int32.toNatClampNeg (rI h 2 5))) (r := rG h 5 ((Int32.toNatClampNeg (rI h 2 5)))) (t := 2) dX10_rule_90 (lyc rfl) (zvn (lnc rfl) k1) rfl k2.1 ?_
    refine z_iload_n (pc := 91) dX10_rule_91 rfl rfl ?_
    refine z_iload_n (pc := 92) dX10_rule_92 rfl rfl ?_
    refine z_iload_n (pc := 93) dX10_rule_93 rfl rfl ?_
    refine z_iload (pc := 94) dX10_rule_94 rfl ?_
    refine q_invV (pc := 96) (As := [.int x1, .int x2, .int x3, .int x4]) (st := []) dX10_rule_96 ok_X4_become ml_RX10_212 iv_X4_become pa_X4_become ⟨Nat.le_of_ble_eq_true rfl, Nat.le_of_ble_eq_true rfl⟩ k2.2 (q_kV F (fun h1 F => ?_))
    obtain ⟨G1, F⟩ := F
    refine z_aload_n (pc := 99) dX10_rule_99 rfl rfl ?_
    refine q_getR (pc := 100) (i := 2) dX10_rule_100 lk_RX10_20 (lyc rfl) (G1 0 1 2 rfl) ?_
    refine z_dup (pc := 103) dX10_rule_103 rfl ?_
    refine q_getI (pc := 104) (v := rI h1 2 5) dX10_rule_104 lk_RX10_205 (lyc rfl) rfl ?_
    refine z_iconst (pc := 107) (v := 1) dX10_rule_107 (by decide) ?_
    refine z_iadd (pc := 108) dX10_rule_108 ?_
    refine q_putI (pc := 109) dX10_rule_109 lk_RX10_205 (lyc rfl) ?_
    refine z_iload (pc := 112) dX10_rule_112 rfl ?_
    exact q_retI (pc := 114) dX10_rule_114 rfl F
  · replace F := F.2 k4
    refine z_bipush (pc := 69) (v := -4) dX10_rule_69 (by decide) ?_
    exact q_retI (pc := 71) dX10_rule_71 rfl F
theorem g_X10_ruleOf {x1 : Int32} {x2 : Int32} {h : zHp} {Q : Int32 → zHp → Prop}  (G : zG h) (F : zcI M_X8_hasRule [.ref 2, .int x1] h (fun vh1 h1 => zG h1 ∧ ((vh1 = 0 → (Q (-2) h1)) ∧ (¬ (vh1 = 0) → (zcI M_X10_within [.int x2, .int 0, .int 1] h1 (fun vh2 h2 => zG h2 ∧ ((¬ vh2 = 0 → ((¬ x2 = 0 → (vp_in x1 8 ∧ (zRef h2 5 ((Int32.toNatClampNeg x1)) 5 ∧ (Q (rI h2 (rG h2 5 ((Int32.toNatClampNeg x1))) 3) h2)))) ∧ (x2 = 0 → (vp_in x1 8 ∧ (zRef h2 5 ((Int32.toNatClampNeg x1)) 5 ∧ (Q (rI h2 (rG h2 5 ((Int32.toNatClampNeg x1))) 0) h2)))))) ∧ (vh2 = 0 → (Q (-2) h2))))))))) : zcI M_X10_ruleOf [.ref 0, .int x1, .int x2] h Q := by
  show zw zNT zNT M_X10_ruleOf 0 [some (.ref 0), some (.int x1), some (.int x2)] [] h _
  refine z_aload_n (pc := 0) dX10_ruleOf_0 rfl rfl ?_
  refine q_getR (pc := 1) (i := 2) dX10_ruleOf_1 lk_RX10_20 (lyc rfl) (G 0 1 2 rfl) ?_
  refine z_iload_n (pc := 4) dX10_ruleOf_4 rfl rfl ?_
  refine q_invV (pc := 5) (As := [.int x1]) (st := []) dX10_ruleOf_5 ok_X8_hasRule ml_RX10_216 iv_X8_hasRule pa_X8_hasRule ⟨Nat.le_of_ble_eq_true rfl, Nat.le_of_ble_eq_true rfl⟩ (lyc rfl) (q_kI F (fun vh1 h1 F => ?_))
  obtain ⟨G1, F⟩ := F
  refine z_if_eq (pc := 8) (tgt := 20) dX10_ruleOf_8 (by decide) (fun k9 => ?_) (fun k9 => ?_)
  · replace F := F.1 k9
    refine z_bipush (pc := 20) (v := -2) dX10_ruleOf_20 (by decide) ?_
    exact q_retI (pc := 22) dX10_ruleOf_22 rfl F
  · replace F := F.2 k9
    refine z_iload_n (pc := 11) dX10_ruleOf_11 rfl rfl ?_
    refine z_iconst (pc := 12) (v := 0) dX10_ruleOf_12 (by decide) ?_
    refine z_iconst (pc := 13) (v := 1) dX10_ruleOf_13 (by decide) ?_
    refine q_invS (pc := 14) (As := [.int x2, .int 0, .int 1]) (st := []) dX10_ruleOf_14 ok_X10_within ml_RX10_82 st_X10_within pa_X10_within ⟨Nat.le_of_ble_eq_true rfl, Nat.le_of_ble_eq_true rfl⟩ (q_kI F (fun vh2 h2 F => ?_))
    obtain ⟨G2, F⟩ := F
    refine z_if_ne (pc := 17) (tgt := 23) dX10_ruleOf_17 (by decide) (fun k8 => ?_) (fun k8 => ?_)
    · replace F := F.1 k8
      refine z_iload_n (pc := 23) dX10_ruleOf_23 rfl rfl ?_
      refine z_if_ne (pc := 24) (tgt := 42) dX10_ruleOf_24 (by decide) (fun k7 => ?_) (fun k7 => ?_)
      · replace F := F.1 k7
        refine z_aload_n (pc := 42) dX10_ruleOf_42 rfl rfl ?_
        refine q_getR (pc := 43) (i := 2) dX10_ruleOf_43 lk_RX10_20 (lyc rfl) (G2 0 1 2 rfl) ?_
        refine q_getR (pc := 46) (i := 5) dX10_ruleOf_46 lk_RX10_208 (lyc rfl) (G2 2 4 5 rfl) ?_
        refine z_iload_n (pc := 49) dX10_ruleOf_49 rfl rfl ?_
        obtain ⟨k3, F⟩ := F
        obtain ⟨k4, F⟩ := F
        refine q_aald (pc := 50) (j := (Int32.toNatClampNeg x1)) (r := rG h2 5 ((Int32.toNatClampNeg x1))) (t := 2) dX10_ruleOf_50 (lyc rfl) (zvn (lnc rfl) k3) rfl k4.1 ?_
        refine q_getI (pc := 51) (v := rI h2 (rG h2 5 ((Int32.toNatClampNeg x1))) 3) dX10_ruleOf_51 lk_RX10_222 k4.2 rfl ?_
        exact q_retI (pc := 54) dX10_ruleOf_54 rfl F
      · replace F := F.2 k7
        refine z_aload_n (pc := 27) dX10_ruleOf_27 rfl rfl ?_
        refine q_getR (pc := 28) (i := 2) dX10_ruleOf_28 lk_RX10_20 (lyc rfl) (G2 0 1 2 rfl) ?_
        refine q_getR (pc := 31) (i := 5) dX10_ruleOf_31 lk_RX10_208 (lyc rfl) (G2 2 4 5 rfl) ?_
        refine z_iload_n (pc := 34) dX10_ruleOf_34 rfl rfl ?_
        obtain ⟨k5, F⟩ := F
        obtain ⟨k6, F⟩ := F
        refine q_aald (pc := 35) (j := (Int32.toNatClampNeg x1)) (r := rG h2 5 ((Int32.toNatClampNeg x1))) (t := 2) dX10_ruleOf_35 (lyc rfl) (zvn (lnc rfl) k5) rfl k6.1 ?_
        refine q_getI (pc := 36) (v := rI h2 (rG h2 5 ((Int32.toNatClampNeg x1))) 0) dX10_ruleOf_36 lk_RX10_219 k6.2 rfl ?_
        refine z_goto (pc := 39) (tgt := 54) dX10_ruleOf_39 (by decide) ?_
        exact q_retI (pc := 54) dX10_ruleOf_54 rfl F
    · replace F := F.2 k8
      refine z_bipush (pc := 20) (v := -2) dX10_ruleOf_20 (by decide) ?_
      exact q_retI (pc := 22) dX10_ruleOf_22 rfl F
theorem g_X10_unrule {x1 : Int32} {h : zHp} {Q : Int32 → zHp → Prop}  (G : zG h) (F : zcI M_X8_hasRule [.ref 2, .int x1] h (fun vh1 h1 => zG h1 ∧ ((¬ vh1 = 0 → (zcV M_X8_dropRule [.ref 2, .int x1] h1 (fun h2 => zG h2 ∧ (Q (rI h2 2 5) h2)))) ∧ (vh1 = 0 → (Q (-2) h1))))) : zcI M_X10_unrule [.ref 0, .int x1] h Q := by
  show zw zNT zNT M_X10_unrule 0 [some (.ref 0), some (.int x1)] [] h _
  refine z_aload_n (pc := 0) dX10_unrule_0 rfl rfl ?_
  refine q_getR (pc := 1) (i := 2) dX10_unrule_1 lk_RX10_20 (lyc rfl) (G 0 1 2 rfl) ?_
  refine z_iload_n (pc := 4) dX10_unrule_4 rfl rfl ?_
  refine q_invV (pc := 5) (As := [.int x1]) (st := []) dX10_unrule_5 ok_X8_hasRule ml_RX10_216 iv_X8_hasRule pa_X8_hasRule ⟨Nat.le_of_ble_eq_true rfl, Nat.le_of_ble_eq_true rfl⟩ (lyc rfl) (q_kI F (fun vh1 h1 F => ?_))
  obtain ⟨G1, F⟩ := F
  refine z_if_ne (pc := 8) (tgt := 14) dX10_unrule_8 (by decide) (fun k3 => ?_) (fun k3 => ?_)
  · replace F := F.1 k3
    refine z_aload_n (pc := 14) dX10_unrule_14 rfl rfl ?_
    refine q_getR (pc := 15) (i := 2) dX10_unrule_15 lk_RX10_20 (lyc rfl) (G1 0 1 2 rfl) ?_
    refine z_iload_n (pc := 18) dX10_unrule_18 rfl rfl ?_
    refine q_invV (pc := 19) (As := [.int x1]) (st := []) dX10_unrule_19 ok_X8_dropRule ml_RX10_225 iv_X8_dropRule pa_X8_dropRule ⟨Nat.le_of_ble_eq_true rfl, Nat.le_of_ble_eq_true rfl⟩ (lyc rfl) (q_kV F (fun h2 F => ?_))
    obtain ⟨G2, F⟩ := F
    refine z_aload_n (pc := 22) dX10_unrule_22 rfl rfl ?_
    refine q_getR (pc := 23) (i := 2) dX10_unrule_23 lk_RX10_20 (lyc rfl) (G2 0 1 2 rfl) ?_
    refine q_getI (pc := 26) (v := rI h2 2 5) dX10_unrule_26 lk_RX10_205 (lyc rfl) rfl ?_
    exact q_retI (pc := 29) dX10_unrule_29 rfl F
  · replace F := F.2 k3
    refine z_bipush (pc := 11) (v := -2) dX10_unrule_11 (by decide) ?_
    exact q_retI (pc := 13) dX10_unrule_13 rfl F
theorem g_X10_choice {x1 : Int32} {x2 : Int32} {h : zHp} {Q : Int32 → zHp → Prop}  (G : zG h) (F : zcI M_X10_within [.int x1, .int 0, .int 1] h (fun vh1 h1 => zG h1 ∧ ((vh1 = 0 → (Q (-2) h1)) ∧ (¬ (vh1 = 0) → (zcI M_X10_within [.int x2, .int 0, .int 1] h1 (fun vh2 h2 => zG h2 ∧ ((¬ vh2 = 0 → (vp_in x1 2 ∧ (Q (rI h2 7 ((Int32.toNatClampNeg x1))) (wI h2 7 ((Int32.toNatClampNeg x1)) x2)))) ∧ (vh2 = 0 → (Q (-2) h2))))))))) : zcI M_X10_choice [.ref 0, .int x1, .int x2] h Q := by
  show zw zNT zNT M_X10_choice 0 [some (.ref 0), some (.int x1), some (.int x2), none] [] h _
  refine z_iload_n (pc := 0) dX10_choice_0 rfl rfl ?_
  refine z_iconst (pc := 1) (v := 0) dX10_choice_1 (by decide) ?_
  refine z_iconst (pc := 2) (v := 1) dX10_choice_2 (by decide) ?_
  refine q_invS (pc := 3) (As := [.int x1, .int 0, .int 1]) (st := []) dX10_choice_3 ok_X10_within ml_RX10_82 st_X10_within pa_X10_within ⟨Nat.le_of_ble_eq_true rfl, Nat.le_of_ble_eq_true rfl⟩ (q_kI F (fun vh1 h1 F => ?_))
  obtain ⟨G1, F⟩ := F
  refine z_if_eq (pc := 6) (tgt := 18) dX10_choice_6 (by decide) (fun k5 => ?_) (fun k5 => ?_)
  · replace F := F.1 k5
    refine z_bipush (pc := 18) (v := -2) dX10_choice_18 (by decide) ?_
    exact q_retI (pc := 20) dX10_choice_20 rfl F
  · replace F := F.2 k5
    refine z_iload_n (pc := 9) dX10_choice_9 rfl rfl ?_
    refine z_iconst (pc := 10) (v := 0) dX10_choice_10 (by decide) ?_
    refine z_iconst (pc := 11) (v := 1) dX10_choice_11 (by decide) ?_
    refine q_invS (pc := 12) (As := [.int x2, .int 0, .int 1]) (st := []) dX10_choice_12 ok_X10_within ml_RX10_82 st_X10_within pa_X10_within ⟨Nat.le_of_ble_eq_true rfl, Nat.le_of_ble_eq_true rfl⟩ (q_kI F (fun vh2 h2 F => ?_))
    obtain ⟨G2, F⟩ := F
    refine z_if_ne (pc := 15) (tgt := 21) dX10_choice_15 (by decide) (fun k4 => ?_) (fun k4 => ?_)
    · replace F := F.1 k4
      refine z_aload_n (pc := 21) dX10_choice_21 rfl rfl ?_
      refine q_getR (pc := 22) (i := 2) dX10_choice_22 lk_RX10_20 (lyc rfl) (G2 0 1 2 rfl) ?_
      refine q_getR (pc := 25) (i := 7) dX10_choice_25 lk_RX10_228 (lyc rfl) (G2 2 8 7 rfl) ?_
      refine z_iload_n (pc := 28) dX10_choice_28 rfl rfl ?_
      obtain ⟨k3, F⟩ := F
      refine q_iald (pc := 29) (j := (Int32.toNatClampNeg x1)) (v := rI h2 7 ((Int32.toNatClampNeg x1))) dX10_choice_29 (lyc rfl) (zvn (lnc rfl) k3) rfl rfl ?_
      refine z_istore_n (pc := 30) (ls' := [some (.ref 0), some (.int x1), some (.int x2), some (.int (rI h2 7 ((Int32.toNatClampNeg x1))))]) dX10_choice_30 rfl (by decide) rfl ?_
      refine z_aload_n (pc := 31) dX10_choice_31 rfl rfl ?_
      refine q_getR (pc := 32) (i := 2) dX10_choice_32 lk_RX10_20 (lyc rfl) (G2 0 1 2 rfl) ?_
      refine q_getR (pc := 35) (i := 7) dX10_choice_35 lk_RX10_228 (lyc rfl) (G2 2 8 7 rfl) ?_
      refine z_iload_n (pc := 38) dX10_choice_38 rfl rfl ?_
      refine z_iload_n (pc := 39) dX10_choice_39 rfl rfl ?_
      refine q_iast (pc := 40) (j := (Int32.toNatClampNeg x1)) dX10_choice_40 (lyc rfl) (zvn (lnc rfl) k3) rfl ?_
      refine z_iload_n (pc := 41) dX10_choice_41 rfl rfl ?_
      exact q_retI (pc := 42) dX10_choice_42 rfl F
    · replace F := F.2 k4
      refine z_bipush (pc := 18) (v := -2) dX10_choice_18 (by decide) ?_
      exact q_retI (pc := 20) dX10_choice_20 rfl F
theorem g_X10_watch {x1 : Int32} {x2 : Int32} {x3 : Int32} {x4 : Int32} {x5 : Int32} {h : zHp} {Q : Int32 → zHp → Prop}  (G : zG h) (F : zcI M_X10_within [.int x1, .int 0, .int 1] h (fun vh1 h1 => zG h1 ∧ ((vh1 = 0 → (Q (-2) h1)) ∧ (¬ (vh1 = 0) → (zcI M_X10_within [.int x2, .int 0, .int 2] h1 (fun vh2 h2 => zG h2 ∧ ((vh2 = 0 → (Q (-2) h2)) ∧ (¬ (vh2 = 0) → (zcI M_X10_within [.int x3, .int 0, .int 2] h2 (fun vh3 h3 => zG h3 ∧ ((¬ vh3 = 0 → (zcI M_X10_within [.int x4, .int (-1), .int 7] h3 (fun vh4 h4 => zG h4 ∧ ((vh4 = 0 → (Q (-2) h4)) ∧ (¬ (vh4 = 0) → (zcI M_X10_within [.int x5, .int 0, .int 9] h4 (fun vh5 h5 => zG h5 ∧ ((¬ vh5 = 0 → ((rI h5 2 7 < 8 → (vp_in (rI h5 2 7) 8 ∧ (zRef h5 6 ((Int32.toNatClampNeg (rI h5 2 7))) 8 ∧ (zcV M_X7_become [.ref (rG h5 6 ((Int32.toNatClampNeg (rI h5 2 7)))), .int x1, .int x2, .int x3, .int x4, .int x5] h5 (fun h6 => zG h6 ∧ (Q (rI h5 2 7) (wI h6 2 7 ((rI h6 2 7) + 1)))))))) ∧ (¬ (rI h5 2 7 < 8) → (Q (-4) h5)))) ∧ (vh5 = 0 → (Q (-2) h5)))))))))) ∧ (vh3 = 0 → (Q (-2) h3))))))))))))) : zcI M_X10_watch [.ref 0, .int x1, .int x2, .int x3, .int x4, .int x5] h Q := by
  show zw zNT zNT M_X10_watch 0 [some (.ref 0), some (.int x1), some (.int x2), some (.int x3), some (.int x4), some (.int x5), none] [] h _
  refine z_iload_n (pc := 0) dX10_watch_0 rfl rfl ?_
  refine z_iconst (pc := 1) (v := 0) dX10_watch_1 (by decide) ?_
  refine z_iconst (pc := 2) (v := 1) dX10_watch_2 (by decide) ?_
  refine q_invS (pc := 3) (As := [.int x1, .int 0, .int 1]) (st := []) dX10_watch_3 ok_X10_within ml_RX10_82 st_X10_within pa_X10_within ⟨Nat.le_of_ble_eq_true rfl, Nat.le_of_ble_eq_true rfl⟩ (q_kI F (fun vh1 h1 F => ?_))
  obtain ⟨G1, F⟩ := F
  refine z_if_eq (pc := 6) (tgt := 27) dX10_watch_6 (by decide) (fun k14 => ?_) (fun k14 => ?_)
  · replace F := F.1 k14
    refine z_bipush (pc := 27) (v := -2) dX10_watch_27 (by decide) ?_
    exact q_retI (pc := 29) dX10_watch_29 rfl F
  · replace F := F.2 k14
    refine z_iload_n (pc := 9) dX10_watch_9 rfl rfl ?_
    refine z_iconst (pc := 10) (v := 0) dX10_watch_10 (by decide) ?_
    refine z_iconst (pc := 11) (v := 2) dX10_watch_11 (by decide) ?_
    refine q_invS (pc := 12) (As := [.int x2, .int 0, .int 2]) (st := []) dX10_watch_12 ok_X10_within ml_RX10_82 st_X10_within pa_X10_within ⟨Nat.le_of_ble_eq_true rfl, Nat.le_of_ble_eq_true rfl⟩ (q_kI F (fun vh2 h2 F => ?_))
    obtain ⟨G2, F⟩ := F
    refine z_if_eq (pc := 15) (tgt := 27) dX10_watch_15 (by decide) (fun k13 => ?_) (fun k13 => ?_)
    · replace F := F.1 k13
      refine z_bipush (pc := 27) (v := -2) dX10_watch_27 (by decide) ?_
      exact q_retI (pc := 29) dX10_watch_29 rfl F
    · replace F := F.2 k13
      refine z_iload_n (pc := 18) dX10_watch_18 rfl rfl ?_
      refine z_iconst (pc := 19) (v := 0) dX10_watch_19 (by decide) ?_
      refine z_iconst (pc := 20) (v := 2) dX10_watch_20 (by decide) ?_
      refine q_invS (pc := 21) (As := [.int x3, .int 0, .int 2]) (st := []) dX10_watch_21 ok_X10_within ml_RX10_82 st_X10_within pa_X10_within ⟨Nat.le_of_ble_eq_true rfl, Nat.le_of_ble_eq_true rfl⟩ (q_kI F (fun vh3 h3 F => ?_))
      obtain ⟨G3, F⟩ := F
      refine z_if_ne (pc := 24) (tgt := 30) dX10_watch_24 (by decide) (fun k12 => ?_) (fun k12 => ?_)
      · replace F := F.1 k12
        refine z_iload (pc := 30) dX10_watch_30 rfl ?_
        refine z_iconst (pc := 32) (v := -1) dX10_watch_32 (by decide) ?_
        refine z_bipush (pc := 33) (v := 7) dX10_watch_33 (by decide) ?_
        refine q_invS (pc := 35) (As := [.int x4, .int (-1), .int 7]) (st := []) dX10_watch_35 ok_X10_within ml_RX10_82 st_X10_within pa_X10_within ⟨Nat.le_of_ble_eq_true rfl, Nat.le_of_ble_eq_true rfl⟩ (q_kI F (fun vh4 h4 F => ?_))
        obtain ⟨G4, F⟩ := F
        refine z_if_eq (pc := 38) (tgt := 52) dX10_watch_38 (by decide) (fun k11 => ?_) (fun k11 => ?_)
        · replace F := F.1 k11
          refine z_bipush (pc := 52) (v := -2) dX10_watch_52 (by decide) ?_
          exact q_retI (pc := 54) dX10_watch_54 rfl F
        · replace F := F.2 k11
          refine z_iload (pc := 41) dX10_watch_41 rfl ?_
          refine z_iconst (pc := 43) (v := 0) dX10_watch_43 (by decide) ?_
          refine z_bipush (pc := 44) (v := 9) dX10_watch_44 (by decide) ?_
          refine q_invS (pc := 46) (As := [.int x5, .int 0, .int 9]) (st := []) dX10_watch_46 ok_X10_within ml_RX10_82 st_X10_within pa_X10_within ⟨Nat.le_of_ble_eq_true rfl, Nat.le_of_ble_eq_true rfl⟩ (q_kI F (fun vh5 h5 F => ?_))
          obtain ⟨G5, F⟩ := F
          refine z_if_ne (pc := 49) (tgt := 55) dX10_watch_49 (by decide) (fun k10 => ?_) (fun k10 => ?_)
          · replace F := F.1 k10
            refine z_aload_n (pc := 55) dX10_watch_55 rfl rfl ?_
            refine q_getR (pc := 56) (i := 2) dX10_watch_56 lk_RX10_20 (lyc rfl) (G5 0 1 2 rfl) ?_
            refine q_getI (pc := 59) (v := rI h5 2 7) dX10_watch_59 lk_RX10_231 (lyc rfl) rfl ?_
            refine z_bipush (pc := 62) (v := 8) dX10_watch_62 (by decide) ?_
            refine z_icmp_lt (pc := 64) (tgt := 70) dX10_watch_64 (by decide) (fun k9 => ?_) (fun k9 => ?_)
            · replace F := F.1 k9
              refine z_aload_n (pc := 70) dX10_watch_70 rfl rfl ?_
              refine q_getR (pc := 71) (i := 2) dX10_watch_71 lk_RX10_20 (lyc rfl) (G5 0 1 2 rfl) ?_
              refine q_getI (pc := 74) (v := rI h5 2 7) dX10_watch_74 lk_RX10_231 (lyc rfl) rfl ?_
              refine z_istore (pc := 77) (ls' := [some (.ref 0), some (.int x1), some (.int x2), some (.int x3), some (.int x4), some (.int x5), some (.int (rI h5 2 7))]) dX10_watch_77 (by decide) rfl ?_
              refine z_aload_n (pc := 79) dX10_watch_79 rfl rfl ?_
              refine q_getR (pc := 80) (i := 2) dX10_watch_80 lk_RX10_20 (lyc rfl) (G5 0 1 2 rfl) ?_
              refine q_getR (pc := 83) (i := 6) dX10_watch_83 lk_RX10_234 (lyc rfl) (G5 2 6 6 rfl) ?_
              refine z_iload (pc := 86) dX10_watch_86 rfl ?_
              obtain ⟨k6, F⟩ := F
              obtain ⟨k7, F⟩ := F
              refine q_aald (pc := 88) (j := (Int32.toNatClampNeg (rI h5 2 7))) (r := rG h5 6 ((Int32.toNatClampNeg (rI h5 2 7)))) (t := 3) dX10_watch_88 (lyc rfl) (zvn (lnc rfl) k6) rfl k7.1 ?_
              refine z_iload_n (pc := 89) dX10_watch_89 rfl rfl ?_
              refine z_iload_n (pc := 90) dX10_watch_90 rfl rfl ?_
              refine z_iload_n (pc := 91) dX10_watch_91 rfl rfl ?_
              refine z_iload (pc := 92) dX10_watch_92 rfl ?_
              refine z_iload (pc := 94) dX10_watch_94 rfl ?_
              refine q_invV (pc := 96) (As := [.int x1, .int x2, .int x3, .int x4, .int x5]) (st := []) dX10_watch_96 ok_X7_become ml_RX10_238 iv_X7_become pa_X7_become ⟨Nat.le_of_ble_eq_true rfl, Nat.le_of_ble_eq_true rfl⟩ k7.2 (q_kV F (fun h6 F => ?_))
              obtain ⟨G6, F⟩ := F
              refine z_aload_n (pc := 99) dX10_watch_99 rfl rfl ?_
              refine q_getR (pc := 100) (i := 2) dX10_watch_100 lk_RX10_20 (lyc rfl) (G6 0 1 2 rfl) ?_
              refine z_dup (pc := 103) dX10_watch_103 rfl ?_
              refine q_getI (pc := 104) (v := rI h6 2 7) dX10_watch_104 lk_RX10_231 (lyc rfl) rfl ?_
              refine z_iconst (pc := 107) (v := 1) dX10_watch_107 (by decide) ?_
              refine z_iadd (pc := 108) dX10_watch_108 ?_
              refine q_putI (pc := 109) dX10_watch_109 lk_RX10_231 (lyc rfl) ?_
              refine z_iload (pc := 112) dX10_watch_112 rfl ?_
              exact q_retI (pc := 114) dX10_watch_114 rfl F
            · replace F := F.2 k9
              refine z_bipush (pc := 67) (v := -4) dX10_watch_67 (by decide) ?_
              exact q_retI (pc := 69) dX10_watch_69 rfl F
          · replace F := F.2 k10
            refine z_bipush (pc := 52) (v := -2) dX10_watch_52 (by decide) ?_
            exact q_retI (pc := 54) dX10_watch_54 rfl F
      · replace F := F.2 k12
        refine z_bipush (pc := 27) (v := -2) dX10_watch_27 (by decide) ?_
        exact q_retI (pc := 29) dX10_watch_29 rfl F
theorem g_X10_watches {x1 : Int32} {x2 : Int32} {x3 : Int32} {h : zHp} {Q : Int32 → zHp → Prop}  (G : zG h) (F : zcI M_X8_hasWatcher [.ref 2, .int x1] h (fun vh1 h1 => zG h1 ∧ ((vh1 = 0 → (Q (-2) h1)) ∧ (¬ (vh1 = 0) → (zcI M_X10_isScope [.int x2, .int x3] h1 (fun vh2 h2 => zG h2 ∧ ((¬ vh2 = 0 → (vp_in x1 8 ∧ (zRef h2 6 ((Int32.toNatClampNeg x1)) 8 ∧ (Q (rI h2 (rG h2 6 ((Int32.toNatClampNeg x1))) 5) (wI (wI h2 (rG h2 6 ((Int32.toNatClampNeg x1))) 5 x2) (rG h2 6 ((Int32.toNatClampNeg x1))) 6 x3))))) ∧ (vh2 = 0 → (Q (-2) h2))))))))) : zcI M_X10_watches [.ref 0, .int x1, .int x2, .int x3] h Q := by
  show zw zNT zNT M_X10_watches 0 [some (.ref 0), some (.int x1), some (.int x2), some (.int x3), none, none] [] h _
  refine z_aload_n (pc := 0) dX10_watches_0 rfl rfl ?_
  refine q_getR (pc := 1) (i := 2) dX10_watches_1 lk_RX10_20 (lyc rfl) (G 0 1 2 rfl) ?_
  refine z_iload_n (pc := 4) dX10_watches_4 rfl rfl ?_
  refine q_invV (pc := 5) (As := [.int x1]) (st := []) dX10_watches_5 ok_X8_hasWatcher ml_RX10_241 iv_X8_hasWatcher pa_X8_hasWatcher ⟨Nat.le_of_ble_eq_true rfl, Nat.le_of_ble_eq_true rfl⟩ (lyc rfl) (q_kI F (fun vh1 h1 F => ?_))
  obtain ⟨G1, F⟩ := F
  refine z_if_eq (pc := 8) (tgt := 19) dX10_watches_8 (by decide) (fun k6 => ?_) (fun k6 => ?_)
  · replace F := F.1 k6
    refine z_bipush (pc := 19) (v := -2) dX10_watches_19 (by decide) ?_
    exact q_retI (pc := 21) dX10_watches_21 rfl F
  · replace F := F.2 k6
    refine z_iload_n (pc := 11) dX10_watches_11 rfl rfl ?_
    refine z_iload_n (pc := 12) dX10_watches_12 rfl rfl ?_
    refine q_invS (pc := 13) (As := [.int x2, .int x3]) (st := []) dX10_watches_13 ok_X10_isScope ml_RX10_151 st_X10_isScope pa_X10_isScope ⟨Nat.le_of_ble_eq_true rfl, Nat.le_of_ble_eq_true rfl⟩ (q_kI F (fun vh2 h2 F => ?_))
    obtain ⟨G2, F⟩ := F
    refine z_if_ne (pc := 16) (tgt := 22) dX10_watches_16 (by decide) (fun k5 => ?_) (fun k5 => ?_)
    · replace F := F.1 k5
      refine z_aload_n (pc := 22) dX10_watches_22 rfl rfl ?_
      refine q_getR (pc := 23) (i := 2) dX10_watches_23 lk_RX10_20 (lyc rfl) (G2 0 1 2 rfl) ?_
      refine q_getR (pc := 26) (i := 6) dX10_watches_26 lk_RX10_234 (lyc rfl) (G2 2 6 6 rfl) ?_
      refine z_iload_n (pc := 29) dX10_watches_29 rfl rfl ?_
      obtain ⟨k3, F⟩ := F
      obtain ⟨k4, F⟩ := F
      refine q_aald (pc := 30) (j := (Int32.toNatClampNeg x1)) (r := rG h2 6 ((Int32.toNatClampNeg x1))) (t := 3) dX10_watches_30 (lyc rfl) (zvn (lnc rfl) k3) rfl k4.1 ?_
      refine z_astore (pc := 31) (ls' := [some (.ref 0), some (.int x1), some (.int x2), some (.int x3), some (.ref (rG h2 6 ((Int32.toNatClampNeg x1)))), none]) dX10_watches_31 (by decide) rfl ?_
      refine z_aload (pc := 33) dX10_watches_33 rfl ?_
      refine q_getI (pc := 35) (v := rI h2 (rG h2 6 ((Int32.toNatClampNeg x1))) 5) dX10_watches_35 lk_RX10_244 k4.2 rfl ?_
      refine z_istore (pc := 38) (ls' := [some (.ref 0), some (.int x1), some (.int x2), some (.int x3), some (.ref (rG h2 6 ((Int32.toNatClampNeg x1)))), some (.int (rI h2 (rG h2 6 ((Int32.toNatClampNeg x1))) 5))]) dX10_watches_38 (by decide) rfl ?_
      refine z_aload (pc := 40) dX10_watches_40 rfl ?_
      refine z_iload_n (pc := 42) dX10_watches_42 rfl rfl ?_
      refine q_putI (pc := 43) dX10_watches_43 lk_RX10_244 k4.2 ?_
      refine z_aload (pc := 46) dX10_watches_46 rfl ?_
      refine z_iload_n (pc := 48) dX10_watches_48 rfl rfl ?_
      refine q_putI (pc := 49) dX10_watches_49 lk_RX10_247 k4.2 ?_
      refine z_iload (pc := 52) dX10_watches_52 rfl ?_
      exact q_retI (pc := 54) dX10_watches_54 rfl F
    · replace F := F.2 k5
      refine z_bipush (pc := 19) (v := -2) dX10_watches_19 (by decide) ?_
      exact q_retI (pc := 21) dX10_watches_21 rfl F
theorem g_X10_unwatch {x1 : Int32} {h : zHp} {Q : Int32 → zHp → Prop}  (G : zG h) (F : zcI M_X8_hasWatcher [.ref 2, .int x1] h (fun vh1 h1 => zG h1 ∧ ((¬ vh1 = 0 → (zcV M_X8_dropWatcher [.ref 2, .int x1] h1 (fun h2 => zG h2 ∧ (Q (rI h2 2 7) h2)))) ∧ (vh1 = 0 → (Q (-2) h1))))) : zcI M_X10_unwatch [.ref 0, .int x1] h Q := by
  show zw zNT zNT M_X10_unwatch 0 [some (.ref 0), some (.int x1)] [] h _
  refine z_aload_n (pc := 0) dX10_unwatch_0 rfl rfl ?_
  refine q_getR (pc := 1) (i := 2) dX10_unwatch_1 lk_RX10_20 (lyc rfl) (G 0 1 2 rfl) ?_
  refine z_iload_n (pc := 4) dX10_unwatch_4 rfl rfl ?_
  refine q_invV (pc := 5) (As := [.int x1]) (st := []) dX10_unwatch_5 ok_X8_hasWatcher ml_RX10_241 iv_X8_hasWatcher pa_X8_hasWatcher ⟨Nat.le_of_ble_eq_true rfl, Nat.le_of_ble_eq_true rfl⟩ (lyc rfl) (q_kI F (fun vh1 h1 F => ?_))
  obtain ⟨G1, F⟩ := F
  refine z_if_ne (pc := 8) (tgt := 14) dX10_unwatch_8 (by decide) (fun k3 => ?_) (fun k3 => ?_)
  · replace F := F.1 k3
    refine z_aload_n (pc := 14) dX10_unwatch_14 rfl rfl ?_
    refine q_getR (pc := 15) (i := 2) dX10_unwatch_15 lk_RX10_20 (lyc rfl) (G1 0 1 2 rfl) ?_
    refine z_iload_n (pc := 18) dX10_unwatch_18 rfl rfl ?_
    refine q_invV (pc := 19) (As := [.int x1]) (st := []) dX10_unwatch_19 ok_X8_dropWatcher ml_RX10_250 iv_X8_dropWatcher pa_X8_dropWatcher ⟨Nat.le_of_ble_eq_true rfl, Nat.le_of_ble_eq_true rfl⟩ (lyc rfl) (q_kV F (fun h2 F => ?_))
    obtain ⟨G2, F⟩ := F
    refine z_aload_n (pc := 22) dX10_unwatch_22 rfl rfl ?_
    refine q_getR (pc := 23) (i := 2) dX10_unwatch_23 lk_RX10_20 (lyc rfl) (G2 0 1 2 rfl) ?_
    refine q_getI (pc := 26) (v := rI h2 2 7) dX10_unwatch_26 lk_RX10_231 (lyc rfl) rfl ?_
    exact q_retI (pc := 29) dX10_unwatch_29 rfl F
  · replace F := F.2 k3
    refine z_bipush (pc := 11) (v := -2) dX10_unwatch_11 (by decide) ?_
    exact q_retI (pc := 13) dX10_unwatch_13 rfl F
theorem g_X10_hurt {x1 : Int32} {x2 : Int32} {h : zHp} {Q : Int32 → zHp → Prop}  (G : zG h) (F : zcI M_X8_hasThing [.ref 2, .int x1] h (fun vh1 h1 => zG h1 ∧ ((vh1 = 0 → (Q (-2) h1)) ∧ (¬ (vh1 = 0) → (zcI M_X10_within [.int x2, .int 1, .int 99] h1 (fun vh2 h2 => zG h2 ∧ ((¬ vh2 = 0 → (vp_in x1 8 ∧ ((¬ rI h2 (8 + (Int32.toNatClampNeg x1)) 5 = 0 → (zcV M_X8_copyFrom [.ref 53, .ref 2] h2 (fun h3 => zG h3 ∧ (zcV M_X0_begin [.ref 1] h3 (fun h4 => zG h4 ∧ (zcV M_X0_strike [.ref 1, .int x1, .int x2] h4 (fun h5 => zG h5 ∧ (zcI M_X0_finish [.ref 1] h5 (fun vh6 h6 => zG h6 ∧ (zcI M_X10_refuseLoop [.ref 0, .int vh6] h6 (fun vh7 h7 => zG h7 ∧ (Q vh7 h7)))))))))))) ∧ (rI h2 (8 + (Int32.toNatClampNeg x1)) 5 = 0 → (Q (-3) h2))))) ∧ (vh2 = 0 → (Q (-2) h2))))))))) : zcI M_X10_hurt [.ref 0, .int x1, .int x2] h Q := by
  show zw zNT zNT M_X10_hurt 0 [some (.ref 0), some (.int x1), some (.int x2)] [] h _
  refine z_aload_n (pc := 0) dX10_hurt_0 rfl rfl ?_
  refine q_getR (pc := 1) (i := 2) dX10_hurt_1 lk_RX10_20 (lyc rfl) (G 0 1 2 rfl) ?_
  refine z_iload_n (pc := 4) dX10_hurt_4 rfl rfl ?_
  refine q_invV (pc := 5) (As := [.int x1]) (st := []) dX10_hurt_5 ok_X8_hasThing ml_RX10_94 iv_X8_hasThing pa_X8_hasThing ⟨Nat.le_of_ble_eq_true rfl, Nat.le_of_ble_eq_true rfl⟩ (lyc rfl) (q_kI F (fun vh1 h1 F => ?_))
  obtain ⟨G1, F⟩ := F
  refine z_if_eq (pc := 8) (tgt := 21) dX10_hurt_8 (by decide) (fun k11 => ?_) (fun k11 => ?_)
  · replace F := F.1 k11
    refine z_bipush (pc := 21) (v := -2) dX10_hurt_21 (by decide) ?_
    exact q_retI (pc := 23) dX10_hurt_23 rfl F
  · replace F := F.2 k11
    refine z_iload_n (pc := 11) dX10_hurt_11 rfl rfl ?_
    refine z_iconst (pc := 12) (v := 1) dX10_hurt_12 (by decide) ?_
    refine z_bipush (pc := 13) (v := 99) dX10_hurt_13 (by decide) ?_
    refine q_invS (pc := 15) (As := [.int x2, .int 1, .int 99]) (st := []) dX10_hurt_15 ok_X10_within ml_RX10_82 st_X10_within pa_X10_within ⟨Nat.le_of_ble_eq_true rfl, Nat.le_of_ble_eq_true rfl⟩ (q_kI F (fun vh2 h2 F => ?_))
    obtain ⟨G2, F⟩ := F
    refine z_if_ne (pc := 18) (tgt := 24) dX10_hurt_18 (by decide) (fun k10 => ?_) (fun k10 => ?_)
    · replace F := F.1 k10
      refine z_aload_n (pc := 24) dX10_hurt_24 rfl rfl ?_
      refine q_getR (pc := 25) (i := 2) dX10_hurt_25 lk_RX10_20 (lyc rfl) (G2 0 1 2 rfl) ?_
      refine q_getR (pc := 28) (i := 3) dX10_hurt_28 lk_RX10_98 (lyc rfl) (G2 2 0 3 rfl) ?_
      refine z_iload_n (pc := 31) dX10_hurt_31 rfl rfl ?_
      obtain ⟨k3, F⟩ := F
      refine q_aald (pc := 32) (j := (Int32.toNatClampNeg x1)) (r := 8 + (Int32.toNatClampNeg x1)) (t := 0) dX10_hurt_32 (lyc rfl) (zvn (lnc rfl) k3) rfl (grT (B := 2) G2 (Or.inl rfl) (zvi k3)) ?_
      refine q_getI (pc := 33) (v := rI h2 (8 + (Int32.toNatClampNeg x1)) 5) dX10_hurt_33 lk_RX10_119 (lyT (B := 2) (Or.inl rfl) (zvi k3)) rfl ?_
      refine z_if_ne (pc := 36) (tgt := 42) dX10_hurt_36 (by decide) (fun k9 => ?_) (fun k9 => ?_)
      · replace F := F.1 k9
        refine z_aload_n (pc := 42) dX10_hurt_42 rfl rfl ?_
        refine q_getR (pc := 43) (i := 53) dX10_hurt_43 lk_RX10_31 (lyc rfl) (G2 0 3 53 rfl) ?_
        refine z_aload_n (pc := 46) dX10_hurt_46 rfl rfl ?_
        refine q_getR (pc := 47) (i := 2) dX10_hurt_47 lk_RX10_20 (lyc rfl) (G2 0 1 2 rfl) ?_
        refine q_invV (pc := 50) (As := [.ref 2]) (st := []) dX10_hurt_50 ok_X8_copyFrom ml_RX10_253 iv_X8_copyFrom pa_X8_copyFrom ⟨Nat.le_of_ble_eq_true rfl, Nat.le_of_ble_eq_true rfl⟩ (lyc rfl) (q_kV F (fun h3 F => ?_))
        obtain ⟨G3, F⟩ := F
        refine z_aload_n (pc := 53) dX10_hurt_53 rfl rfl ?_
        refine q_getR (pc := 54) (i := 1) dX10_hurt_54 lk_RX10_10 (lyc rfl) (G3 0 0 1 rfl) ?_
        refine q_invV (pc := 57) (As := []) (st := []) dX10_hurt_57 ok_X0_begin ml_RX10_257 iv_X0_begin pa_X0_begin ⟨Nat.le_of_ble_eq_true rfl, Nat.le_of_ble_eq_true rfl⟩ (lyc rfl) (q_kV F (fun h4 F => ?_))
        obtain ⟨G4, F⟩ := F
        refine z_aload_n (pc := 60) dX10_hurt_60 rfl rfl ?_
        refine q_getR (pc := 61) (i := 1) dX10_hurt_61 lk_RX10_10 (lyc rfl) (G4 0 0 1 rfl) ?_
        refine z_iload_n (pc := 64) dX10_hurt_64 rfl rfl ?_
        refine z_iload_n (pc := 65) dX10_hurt_65 rfl rfl ?_
        refine q_invV (pc := 66) (As := [.int x1, .int x2]) (st := []) dX10_hurt_66 ok_X0_strike ml_RX10_260 iv_X0_strike pa_X0_strike ⟨Nat.le_of_ble_eq_true rfl, Nat.le_of_ble_eq_true rfl⟩ (lyc rfl) (q_kV F (fun h5 F => ?_))
        obtain ⟨G5, F⟩ := F
        refine z_aload_n (pc := 69) dX10_hurt_69 rfl rfl ?_
        refine z_aload_n (pc := 70) dX10_hurt_70 rfl rfl ?_
        refine q_getR (pc := 71) (i := 1) dX10_hurt_71 lk_RX10_10 (lyc rfl) (G5 0 0 1 rfl) ?_
        refine q_invV (pc := 74) (As := []) (st := [.ref 0]) dX10_hurt_74 ok_X0_finish ml_RX10_264 iv_X0_finish pa_X0_finish ⟨Nat.le_of_ble_eq_true rfl, Nat.le_of_ble_eq_true rfl⟩ (lyc rfl) (q_kI F (fun vh6 h6 F => ?_))
        obtain ⟨G6, F⟩ := F
        refine q_invV (pc := 77) (As := [.int vh6]) (st := []) dX10_hurt_77 ok_X10_refuseLoop ml_RX10_267 iv_X10_refuseLoop pa_X10_refuseLoop ⟨Nat.le_of_ble_eq_true rfl, Nat.le_of_ble_eq_true rfl⟩ (lyc rfl) (q_kI F (fun vh7 h7 F => ?_))
        obtain ⟨G7, F⟩ := F
        exact q_retI (pc := 80) dX10_hurt_80 rfl F
      · replace F := F.2 k9
        refine z_bipush (pc := 39) (v := -3) dX10_hurt_39 (by decide) ?_
        exact q_retI (pc := 41) dX10_hurt_41 rfl F
    · replace F := F.2 k10
      refine z_bipush (pc := 21) (v := -2) dX10_hurt_21 (by decide) ?_
      exact q_retI (pc := 23) dX10_hurt_23 rfl F
theorem g_X10_aim {x1 : Int32} {x2 : Int32} {x3 : Int32} {h : zHp} {Q : Int32 → zHp → Prop}  (G : zG h) (F : zcI M_X8_hasThing [.ref 2, .int x1] h (fun vh1 h1 => zG h1 ∧ ((vh1 = 0 → (Q (-2) h1)) ∧ (¬ (vh1 = 0) → (zcI M_X10_within [.int x2, .int 1, .int 99] h1 (fun vh2 h2 => zG h2 ∧ ((vh2 = 0 → (Q (-2) h2)) ∧ (¬ (vh2 = 0) → (zcI M_X10_within [.int x3, .int 0, .int 2] h2 (fun vh3 h3 => zG h3 ∧ ((¬ vh3 = 0 → (vp_in x1 8 ∧ ((¬ rI h3 (8 + (Int32.toNatClampNeg x1)) 5 = 0 → (zcV M_X9_follow [.ref 139, .ref 2, .ref 42, .int x1, .int x2] h3 (fun h4 => zG h4 ∧ ((¬ x3 = 0 → ((¬ x3 = 1 → (zcI M_J6_bitCount_0f7a4 [.int (rI h4 139 3)] h4 (fun vh5 h5 => zG h5 ∧ (Q vh5 h5)))) ∧ (x3 = 1 → ((rI h4 139 2 = 0 → (Q (rI h4 139 1) h4)) ∧ (¬ (rI h4 139 2 = 0) → (Q 0 h4)))))) ∧ (x3 = 0 → (Q (rI h4 139 0) h4)))))) ∧ (rI h3 (8 + (Int32.toNatClampNeg x1)) 5 = 0 → (Q (-3) h3))))) ∧ (vh3 = 0 → (Q (-2) h3))))))))))))) : zcI M_X10_aim [.ref 0, .int x1, .int x2, .int x3] h Q := by
  show zw zNT zNT M_X10_aim 0 [some (.ref 0), some (.int x1), some (.int x2), some (.int x3)] [] h _
  refine z_aload_n (pc := 0) dX10_aim_0 rfl rfl ?_
  refine q_getR (pc := 1) (i := 2) dX10_aim_1 lk_RX10_20 (lyc rfl) (G 0 1 2 rfl) ?_
  refine z_iload_n (pc := 4) dX10_aim_4 rfl rfl ?_
  refine q_invV (pc := 5) (As := [.int x1]) (st := []) dX10_aim_5 ok_X8_hasThing ml_RX10_94 iv_X8_hasThing pa_X8_hasThing ⟨Nat.le_of_ble_eq_true rfl, Nat.le_of_ble_eq_true rfl⟩ (lyc rfl) (q_kI F (fun vh1 h1 F => ?_))
  obtain ⟨G1, F⟩ := F
  refine z_if_eq (pc := 8) (tgt := 30) dX10_aim_8 (by decide) (fun k13 => ?_) (fun k13 => ?_)
  · replace F := F.1 k13
    refine z_bipush (pc := 30) (v := -2) dX10_aim_30 (by decide) ?_
    exact q_retI (pc := 32) dX10_aim_32 rfl F
  · replace F := F.2 k13
    refine z_iload_n (pc := 11) dX10_aim_11 rfl rfl ?_
    refine z_iconst (pc := 12) (v := 1) dX10_aim_12 (by decide) ?_
    refine z_bipush (pc := 13) (v := 99) dX10_aim_13 (by decide) ?_
    refine q_invS (pc := 15) (As := [.int x2, .int 1, .int 99]) (st := []) dX10_aim_15 ok_X10_within ml_RX10_82 st_X10_within pa_X10_within ⟨Nat.le_of_ble_eq_true rfl, Nat.le_of_ble_eq_true rfl⟩ (q_kI F (fun vh2 h2 F => ?_))
    obtain ⟨G2, F⟩ := F
    refine z_if_eq (pc := 18) (tgt := 30) dX10_aim_18 (by decide) (fun k12 => ?_) (fun k12 => ?_)
    · replace F := F.1 k12
      refine z_bipush (pc := 30) (v := -2) dX10_aim_30 (by decide) ?_
      exact q_retI (pc := 32) dX10_aim_32 rfl F
    · replace F := F.2 k12
      refine z_iload_n (pc := 21) dX10_aim_21 rfl rfl ?_
      refine z_iconst (pc := 22) (v := 0) dX10_aim_22 (by decide) ?_
      refine z_iconst (pc := 23) (v := 2) dX10_aim_23 (by decide) ?_
      refine q_invS (pc := 24) (As := [.int x3, .int 0, .int 2]) (st := []) dX10_aim_24 ok_X10_within ml_RX10_82 st_X10_within pa_X10_within ⟨Nat.le_of_ble_eq_true rfl, Nat.le_of_ble_eq_true rfl⟩ (q_kI F (fun vh3 h3 F => ?_))
      obtain ⟨G3, F⟩ := F
      refine z_if_ne (pc := 27) (tgt := 33) dX10_aim_27 (by decide) (fun k11 => ?_) (fun k11 => ?_)
      · replace F := F.1 k11
        refine z_aload_n (pc := 33) dX10_aim_33 rfl rfl ?_
        refine q_getR (pc := 34) (i := 2) dX10_aim_34 lk_RX10_20 (lyc rfl) (G3 0 1 2 rfl) ?_
        refine q_getR (pc := 37) (i := 3) dX10_aim_37 lk_RX10_98 (lyc rfl) (G3 2 0 3 rfl) ?_
        refine z_iload_n (pc := 40) dX10_aim_40 rfl rfl ?_
        obtain ⟨k4, F⟩ := F
        refine q_aald (pc := 41) (j := (Int32.toNatClampNeg x1)) (r := 8 + (Int32.toNatClampNeg x1)) (t := 0) dX10_aim_41 (lyc rfl) (zvn (lnc rfl) k4) rfl (grT (B := 2) G3 (Or.inl rfl) (zvi k4)) ?_
        refine q_getI (pc := 42) (v := rI h3 (8 + (Int32.toNatClampNeg x1)) 5) dX10_aim_42 lk_RX10_119 (lyT (B := 2) (Or.inl rfl) (zvi k4)) rfl ?_
        refine z_if_ne (pc := 45) (tgt := 51) dX10_aim_45 (by decide) (fun k10 => ?_) (fun k10 => ?_)
        · replace F := F.1 k10
          refine z_aload_n (pc := 51) dX10_aim_51 rfl rfl ?_
          refine q_getR (pc := 52) (i := 139) dX10_aim_52 lk_RX10_46 (lyc rfl) (G3 0 7 139 rfl) ?_
          refine z_aload_n (pc := 55) dX10_aim_55 rfl rfl ?_
          refine q_getR (pc := 56) (i := 2) dX10_aim_56 lk_RX10_20 (lyc rfl) (G3 0 1 2 rfl) ?_
          refine z_aload_n (pc := 59) dX10_aim_59 rfl rfl ?_
          refine q_getR (pc := 60) (i := 42) dX10_aim_60 lk_RX10_27 (lyc rfl) (G3 0 2 42 rfl) ?_
          refine z_iload_n (pc := 63) dX10_aim_63 rfl rfl ?_
          refine z_iload_n (pc := 64) dX10_aim_64 rfl rfl ?_
          refine q_invV (pc := 65) (As := [.ref 2, .ref 42, .int x1, .int x2]) (st := []) dX10_aim_65 ok_X9_follow ml_RX10_271 iv_X9_follow pa_X9_follow ⟨Nat.le_of_ble_eq_true rfl, Nat.le_of_ble_eq_true rfl⟩ (lyc rfl) (q_kV F (fun h4 F => ?_))
          obtain ⟨G4, F⟩ := F
          refine z_iload_n (pc := 68) dX10_aim_68 rfl rfl ?_
          refine z_if_ne (pc := 69) (tgt := 80) dX10_aim_69 (by decide) (fun k9 => ?_) (fun k9 => ?_)
          · replace F := F.1 k9
            refine z_iload_n (pc := 80) dX10_aim_80 rfl rfl ?_
            refine z_iconst (pc := 81) (v := 1) dX10_aim_81 (by decide) ?_
            refine z_icmp_ne (pc := 82) (tgt := 107) dX10_aim_82 (by decide) (fun k8 => ?_) (fun k8 => ?_)
            · replace F := F.1 k8
              refine z_aload_n (pc := 107) dX10_aim_107 rfl rfl ?_
              refine q_getR (pc := 108) (i := 139) dX10_aim_108 lk_RX10_46 (lyc rfl) (G4 0 7 139 rfl) ?_
              refine q_getI (pc := 111) (v := rI h4 139 3) dX10_aim_111 lk_RX10_284 (lyc rfl) rfl ?_
              refine q_invS (pc := 114) (As := [.int (rI h4 139 3)]) (st := []) dX10_aim_114 ok_J6_bitCount_0f7a4 ml_RX10_287 st_J6_bitCount_0f7a4 pa_J6_bitCount_0f7a4 ⟨Nat.le_of_ble_eq_true rfl, Nat.le_of_ble_eq_true rfl⟩ (q_kI F (fun vh5 h5 F => ?_))
              obtain ⟨G5, F⟩ := F
              exact q_retI (pc := 117) dX10_aim_117 rfl F
            · replace F := F.2 k8
              refine z_aload_n (pc := 85) dX10_aim_85 rfl rfl ?_
              refine q_getR (pc := 86) (i := 139) dX10_aim_86 lk_RX10_46 (lyc rfl) (G4 0 7 139 rfl) ?_
              refine q_getI (pc := 89) (v := rI h4 139 2) dX10_aim_89 lk_RX10_278 (lyc rfl) rfl ?_
              refine z_if_eq (pc := 92) (tgt := 99) dX10_aim_92 (by decide) (fun k7 => ?_) (fun k7 => ?_)
              · replace F := F.1 k7
                refine z_aload_n (pc := 99) dX10_aim_99 rfl rfl ?_
                refine q_getR (pc := 100) (i := 139) dX10_aim_100 lk_RX10_46 (lyc rfl) (G4 0 7 139 rfl) ?_
                refine q_getI (pc := 103) (v := rI h4 139 1) dX10_aim_103 lk_RX10_281 (lyc rfl) rfl ?_
                exact q_retI (pc := 106) dX10_aim_106 rfl F
              · replace F := F.2 k7
                refine z_iconst (pc := 95) (v := 0) dX10_aim_95 (by decide) ?_
                refine z_goto (pc := 96) (tgt := 106) dX10_aim_96 (by decide) ?_
                exact q_retI (pc := 106) dX10_aim_106 rfl F
          · replace F := F.2 k9
            refine z_aload_n (pc := 72) dX10_aim_72 rfl rfl ?_
            refine q_getR (pc := 73) (i := 139) dX10_aim_73 lk_RX10_46 (lyc rfl) (G4 0 7 139 rfl) ?_
            refine q_getI (pc := 76) (v := rI h4 139 0) dX10_aim_76 lk_RX10_275 (lyc rfl) rfl ?_
            exact q_retI (pc := 79) dX10_aim_79 rfl F
        · replace F := F.2 k10
          refine z_bipush (pc := 48) (v := -3) dX10_aim_48 (by decide) ?_
          exact q_retI (pc := 50) dX10_aim_50 rfl F
      · replace F := F.2 k11
        refine z_bipush (pc := 30) (v := -2) dX10_aim_30 (by decide) ?_
        exact q_retI (pc := 32) dX10_aim_32 rfl F
theorem g_X10_next  {h : zHp} {Q : Int32 → zHp → Prop}  (G : zG h) (F : zcV M_X8_copyFrom [.ref 53, .ref 2] h (fun h1 => zG h1 ∧ (zcV M_X0_begin [.ref 1] h1 (fun h2 => zG h2 ∧ (zcV M_X8_ageEffects [.ref 2] (wI h2 2 9 (1 - (rI h2 2 9))) (fun h3 => zG h3 ∧ (zcV M_X0_setOffByTurn [.ref 1] h3 (fun h4 => zG h4 ∧ (zcI M_X0_finish [.ref 1] h4 (fun vh5 h5 => zG h5 ∧ (zcI M_X10_refuseLoop [.ref 0, .int vh5] h5 (fun vh6 h6 => zG h6 ∧ (Q vh6 h6))))))))))))) : zcI M_X10_next [.ref 0] h Q := by
  show zw zNT zNT M_X10_next 0 [some (.ref 0)] [] h _
  refine z_aload_n (pc := 0) dX10_next_0 rfl rfl ?_
  refine q_getR (pc := 1) (i := 53) dX10_next_1 lk_RX10_31 (lyc rfl) (G 0 3 53 rfl) ?_
  refine z_aload_n (pc := 4) dX10_next_4 rfl rfl ?_
  refine q_getR (pc := 5) (i := 2) dX10_next_5 lk_RX10_20 (lyc rfl) (G 0 1 2 rfl) ?_
  refine q_invV (pc := 8) (As := [.ref 2]) (st := []) dX10_next_8 ok_X8_copyFrom ml_RX10_253 iv_X8_copyFrom pa_X8_copyFrom ⟨Nat.le_of_ble_eq_true rfl, Nat.le_of_ble_eq_true rfl⟩ (lyc rfl) (q_kV F (fun h1 F => ?_))
  obtain ⟨G1, F⟩ := F
  refine z_aload_n (pc := 11) dX10_next_11 rfl rfl ?_
  refine q_getR (pc := 12) (i := 1) dX10_next_12 lk_RX10_10 (lyc rfl) (G1 0 0 1 rfl) ?_
  refine q_invV (pc := 15) (As := []) (st := []) dX10_next_15 ok_X0_begin ml_RX10_257 iv_X0_begin pa_X0_begin ⟨Nat.le_of_ble_eq_true rfl, Nat.le_of_ble_eq_true rfl⟩ (lyc rfl) (q_kV F (fun h2 F => ?_))
  obtain ⟨G2, F⟩ := F
  refine z_aload_n (pc := 18) dX10_next_18 rfl rfl ?_
  refine q_getR (pc := 19) (i := 2) dX10_next_19 lk_RX10_20 (lyc rfl) (G2 0 1 2 rfl) ?_
  refine z_iconst (pc := 22) (v := 1) dX10_next_22 (by decide) ?_
  refine z_aload_n (pc := 23) dX10_next_23 rfl rfl ?_
  refine q_getR (pc := 24) (i := 2) dX10_next_24 lk_RX10_20 (lyc rfl) (G2 0 1 2 rfl) ?_
  refine q_getI (pc := 27) (v := rI h2 2 9) dX10_next_27 lk_RX10_292 (lyc rfl) rfl ?_
  refine z_isub (pc := 30) dX10_next_30 ?_
  refine q_putI (pc := 31) dX10_next_31 lk_RX10_292 (lyc rfl) ?_
  refine z_aload_n (pc := 34) dX10_next_34 rfl rfl ?_
  refine q_getR (pc := 35) (i := 2) dX10_next_35 lk_RX10_20 (lyc rfl) (G2 0 1 2 rfl) ?_
  refine q_invV (pc := 38) (As := []) (st := []) dX10_next_38 ok_X8_ageEffects ml_RX10_295 iv_X8_ageEffects pa_X8_ageEffects ⟨Nat.le_of_ble_eq_true rfl, Nat.le_of_ble_eq_true rfl⟩ (lyc rfl) (q_kV F (fun h3 F => ?_))
  obtain ⟨G3, F⟩ := F
  refine z_aload_n (pc := 41) dX10_next_41 rfl rfl ?_
  refine q_getR (pc := 42) (i := 1) dX10_next_42 lk_RX10_10 (lyc rfl) (G3 0 0 1 rfl) ?_
  refine q_invV (pc := 45) (As := []) (st := []) dX10_next_45 ok_X0_setOffByTurn ml_RX10_298 iv_X0_setOffByTurn pa_X0_setOffByTurn ⟨Nat.le_of_ble_eq_true rfl, Nat.le_of_ble_eq_true rfl⟩ (lyc rfl) (q_kV F (fun h4 F => ?_))
  obtain ⟨G4, F⟩ := F
  refine z_aload_n (pc := 48) dX10_next_48 rfl rfl ?_
  refine z_aload_n (pc := 49) dX10_next_49 rfl rfl ?_
  refine q_getR (pc := 50) (i := 1) dX10_next_50 lk_RX10_10 (lyc rfl) (G4 0 0 1 rfl) ?_
  refine q_invV (pc := 53) (As := []) (st := [.ref 0]) dX10_next_53 ok_X0_finish ml_RX10_264 iv_X0_finish pa_X0_finish ⟨Nat.le_of_ble_eq_true rfl, Nat.le_of_ble_eq_true rfl⟩ (lyc rfl) (q_kI F (fun vh5 h5 F => ?_))
  obtain ⟨G5, F⟩ := F
  refine q_invV (pc := 56) (As := [.int vh5]) (st := []) dX10_next_56 ok_X10_refuseLoop ml_RX10_267 iv_X10_refuseLoop pa_X10_refuseLoop ⟨Nat.le_of_ble_eq_true rfl, Nat.le_of_ble_eq_true rfl⟩ (lyc rfl) (q_kI F (fun vh6 h6 F => ?_))
  obtain ⟨G6, F⟩ := F
  exact q_retI (pc := 59) dX10_next_59 rfl F
theorem g_X10_shown {x1 : Int32} {h : zHp} {Q : Int32 → zHp → Prop}  (G : zG h) (F : (-1 ≤ x1 → ((¬ x1 = -1 → ((rI h 0 11 ≤ x1 → (Q (-1) h)) ∧ (¬ (rI h 0 11 ≤ x1) → ((x1 < 40 → (vp_in x1 40 ∧ (Q (rI h 155 ((Int32.toNatClampNeg x1))) h))) ∧ (¬ (x1 < 40) → (Q (-1) h)))))) ∧ (x1 = -1 → (Q (rI h 0 11) h)))) ∧ (¬ (-1 ≤ x1) → (Q (-2) h))) : zcI M_X10_shown [.ref 0, .int x1] h Q := by
  show zw zNT zNT M_X10_shown 0 [some (.ref 0), some (.int x1)] [] h _
  refine z_iload_n (pc := 0) dX10_shown_0 rfl rfl ?_
  refine z_iconst (pc := 1) (v := -1) dX10_shown_1 (by decide) ?_
  refine z_icmp_ge (pc := 2) (tgt := 8) dX10_shown_2 (by decide) (fun k5 => ?_) (fun k5 => ?_)
  · replace F := F.1 k5
    refine z_iload_n (pc := 8) dX10_shown_8 rfl rfl ?_
    refine z_iconst (pc := 9) (v := -1) dX10_shown_9 (by decide) ?_
    refine z_icmp_ne (pc := 10) (tgt := 18) dX10_shown_10 (by decide) (fun k4 => ?_) (fun k4 => ?_)
    · replace F := F.1 k4
      refine z_iload_n (pc := 18) dX10_shown_18 rfl rfl ?_
      refine z_aload_n (pc := 19) dX10_shown_19 rfl rfl ?_
      refine q_getI (pc := 20) (v := rI h 0 11) dX10_shown_20 lk_RX10_75 (lyc rfl) rfl ?_
      refine z_icmp_ge (pc := 23) (tgt := 32) dX10_shown_23 (by decide) (fun k3 => ?_) (fun k3 => ?_)
      · replace F := F.1 k3
        refine z_iconst (pc := 32) (v := -1) dX10_shown_32 (by decide) ?_
        exact q_retI (pc := 33) dX10_shown_33 rfl F
      · replace F := F.2 k3
        refine z_iload_n (pc := 26) dX10_shown_26 rfl rfl ?_
        refine z_bipush (pc := 27) (v := 40) dX10_shown_27 (by decide) ?_
        refine z_icmp_lt (pc := 29) (tgt := 34) dX10_shown_29 (by decide) (fun k2 => ?_) (fun k2 => ?_)
        · replace F := F.1 k2
          refine z_aload_n (pc := 34) dX10_shown_34 rfl rfl ?_
          refine q_getR (pc := 35) (i := 155) dX10_shown_35 lk_RX10_63 (lyc rfl) (G 0 10 155 rfl) ?_
          refine z_iload_n (pc := 38) dX10_shown_38 rfl rfl ?_
          obtain ⟨k1, F⟩ := F
          refine q_iald (pc := 39) (j := (Int32.toNatClampNeg x1)) (v := rI h 155 ((Int32.toNatClampNeg x1))) dX10_shown_39 (lyc rfl) (zvn (lnc rfl) k1) rfl rfl ?_
          exact q_retI (pc := 40) dX10_shown_40 rfl F
        · replace F := F.2 k2
          refine z_iconst (pc := 32) (v := -1) dX10_shown_32 (by decide) ?_
          exact q_retI (pc := 33) dX10_shown_33 rfl F
    · replace F := F.2 k4
      refine z_aload_n (pc := 13) dX10_shown_13 rfl rfl ?_
      refine q_getI (pc := 14) (v := rI h 0 11) dX10_shown_14 lk_RX10_75 (lyc rfl) rfl ?_
      exact q_retI (pc := 17) dX10_shown_17 rfl F
  · replace F := F.2 k5
    refine z_bipush (pc := 5) (v := -2) dX10_shown_5 (by decide) ?_
    exact q_retI (pc := 7) dX10_shown_7 rfl F
theorem g_X10_feed {x1 : Int32} {x2 : Int32} {h : zHp} {Q : Int32 → zHp → Prop}  (G : zG h) (F : zcI M_X10_within [.int x2, .int 1, .int 4] h (fun vh1 h1 => zG h1 ∧ ((¬ vh1 = 0 → ((rI h1 141 1 ≤ 120 - x2 → (zlI M_X10_feed 33 [some (.ref 0), some (.int x1), some (.int x2), some (.int (x2 - 1))] [] h1 Q)) ∧ (¬ (rI h1 141 1 ≤ 120 - x2) → (Q (-4) h1)))) ∧ (vh1 = 0 → (Q (-2) h1))))) : zcI M_X10_feed [.ref 0, .int x1, .int x2] h Q := by
  show zw zNT zNT M_X10_feed 0 [some (.ref 0), some (.int x1), some (.int x2), none] [] h _
  refine z_iload_n (pc := 0) dX10_feed_0 rfl rfl ?_
  refine z_iconst (pc := 1) (v := 1) dX10_feed_1 (by decide) ?_
  refine z_iconst (pc := 2) (v := 4) dX10_feed_2 (by decide) ?_
  refine q_invS (pc := 3) (As := [.int x2, .int 1, .int 4]) (st := []) dX10_feed_3 ok_X10_within ml_RX10_82 st_X10_within pa_X10_within ⟨Nat.le_of_ble_eq_true rfl, Nat.le_of_ble_eq_true rfl⟩ (q_kI F (fun vh1 h1 F => ?_))
  obtain ⟨G1, F⟩ := F
  refine z_if_ne (pc := 6) (tgt := 12) dX10_feed_6 (by decide) (fun k3 => ?_) (fun k3 => ?_)
  · replace F := F.1 k3
    refine z_aload_n (pc := 12) dX10_feed_12 rfl rfl ?_
    refine q_getR (pc := 13) (i := 141) dX10_feed_13 lk_RX10_53 (lyc rfl) (G1 0 8 141 rfl) ?_
    refine q_getI (pc := 16) (v := rI h1 141 1) dX10_feed_16 lk_RX10_301 (lyc rfl) rfl ?_
    refine z_bipush (pc := 19) (v := 120) dX10_feed_19 (by decide) ?_
    refine z_iload_n (pc := 21) dX10_feed_21 rfl rfl ?_
    refine z_isub (pc := 22) dX10_feed_22 ?_
    refine z_icmp_le (pc := 23) (tgt := 29) dX10_feed_23 (by decide) (fun k2 => ?_) (fun k2 => ?_)
    · replace F := F.1 k2
      refine z_iload_n (pc := 29) dX10_feed_29 rfl rfl ?_
      refine z_iconst (pc := 30) (v := 1) dX10_feed_30 (by decide) ?_
      refine z_isub (pc := 31) dX10_feed_31 ?_
      refine z_istore_n (pc := 32) (ls' := [some (.ref 0), some (.int x1), some (.int x2), some (.int (x2 - 1))]) dX10_feed_32 rfl (by decide) rfl ?_
      exact F
    · replace F := F.2 k2
      refine z_bipush (pc := 26) (v := -4) dX10_feed_26 (by decide) ?_
      exact q_retI (pc := 28) dX10_feed_28 rfl F
  · replace F := F.2 k3
    refine z_bipush (pc := 9) (v := -2) dX10_feed_9 (by decide) ?_
    exact q_retI (pc := 11) dX10_feed_11 rfl F
theorem g_X10_feed_33 {x1 : Int32} {x2 : Int32} {x3 : Int32} {h : zHp} {Q : Int32 → zHp → Prop}  (G : zG h) (F : (x3 < 0 → (Q (rI h 141 1) h)) ∧ (¬ (x3 < 0) → (zcV M_X3_append [.ref 141, .int ((Int32.toInt8 (x1 >>> ((8 * x3) &&& 31))).toInt32)] h (fun h1 => zG h1 ∧ (zlI M_X10_feed 33 [some (.ref 0), some (.int x1), some (.int x2), some (.int (x3 + (-1)))] [] h1 Q))))) : zlI M_X10_feed 33 [some (.ref 0), some (.int x1), some (.int x2), some (.int x3)] [] h Q := by
  refine z_iload_n (pc := 33) dX10_feed_33 rfl rfl ?_
  refine z_if_lt (pc := 34) (tgt := 57) dX10_feed_34 (by decide) (fun k2 => ?_) (fun k2 => ?_)
  · replace F := F.1 k2
    refine z_aload_n (pc := 57) dX10_feed_57 rfl rfl ?_
    refine q_getR (pc := 58) (i := 141) dX10_feed_58 lk_RX10_53 (lyc rfl) (G 0 8 141 rfl) ?_
    refine q_getI (pc := 61) (v := rI h 141 1) dX10_feed_61 lk_RX10_301 (lyc rfl) rfl ?_
    exact q_retI (pc := 64) dX10_feed_64 rfl F
  · replace F := F.2 k2
    refine z_aload_n (pc := 37) dX10_feed_37 rfl rfl ?_
    refine q_getR (pc := 38) (i := 141) dX10_feed_38 lk_RX10_53 (lyc rfl) (G 0 8 141 rfl) ?_
    refine z_iload_n (pc := 41) dX10_feed_41 rfl rfl ?_
    refine z_bipush (pc := 42) (v := 8) dX10_feed_42 (by decide) ?_
    refine z_iload_n (pc := 44) dX10_feed_44 rfl rfl ?_
    refine z_imul (pc := 45) dX10_feed_45 ?_
    refine z_ishr (pc := 46) dX10_feed_46 ?_
    refine z_i2b (pc := 47) dX10_feed_47 ?_
    refine q_invV (pc := 48) (As := [.int ((Int32.toInt8 (x1 >>> ((8 * x3) &&& 31))).toInt32)]) (st := []) dX10_feed_48 ok_X3_append ml_RX10_304 iv_X3_append pa_X3_append ⟨Nat.le_of_ble_eq_true rfl, Nat.le_of_ble_eq_true rfl⟩ (lyc rfl) (q_kV F (fun h1 F => ?_))
    obtain ⟨G1, F⟩ := F
    refine z_iinc (pc := 51) (v := x3 + (-1)) (ls' := [some (.ref 0), some (.int x1), some (.int x2), some (.int (x3 + (-1)))]) dX10_feed_51 (by decide) rfl rfl rfl ?_
    refine z_goto (pc := 54) (tgt := 33) dX10_feed_54 (by decide) ?_
    exact F
theorem g_X10_wipe  {h : zHp} {Q : Int32 → zHp → Prop}  (G : zG h) (F : Q (rI h 141 1) (wI h 141 1 0)) : zcI M_X10_wipe [.ref 0] h Q := by
  show zw zNT zNT M_X10_wipe 0 [some (.ref 0), none] [] h _
  refine z_aload_n (pc := 0) dX10_wipe_0 rfl rfl ?_
  refine q_getR (pc := 1) (i := 141) dX10_wipe_1 lk_RX10_53 (lyc rfl) (G 0 8 141 rfl) ?_
  refine q_getI (pc := 4) (v := rI h 141 1) dX10_wipe_4 lk_RX10_301 (lyc rfl) rfl ?_
  refine z_istore_n (pc := 7) (ls' := [some (.ref 0), some (.int (rI h 141 1))]) dX10_wipe_7 rfl (by decide) rfl ?_
  refine z_aload_n (pc := 8) dX10_wipe_8 rfl rfl ?_
  refine q_getR (pc := 9) (i := 141) dX10_wipe_9 lk_RX10_53 (lyc rfl) (G 0 8 141 rfl) ?_
  refine z_iconst (pc := 12) (v := 0) dX10_wipe_12 (by decide) ?_
  refine q_putI (pc := 13) dX10_wipe_13 lk_RX10_301 (lyc rfl) ?_
  refine z_iload_n (pc := 16) dX10_wipe_16 rfl rfl ?_
  exact q_retI (pc := 17) dX10_wipe_17 rfl F
theorem g_X10_text  {h : zHp} {Q : Int32 → zHp → Prop}  (G : zG h) (F : zcV M_X3_readAll [.ref 141, .int (10 - (rI h 2 3))] h (fun h1 => zG h1 ∧ ((rI h1 141 8 < 0 → (zlI M_X10_text 48 [some (.ref 0), some (.int 0)] [] (wI h1 141 1 0) Q)) ∧ (¬ (rI h1 141 8 < 0) → (Q ((-100) - (rI h1 141 8)) (wI h1 141 1 0)))))) : zcI M_X10_text [.ref 0] h Q := by
  show zw zNT zNT M_X10_text 0 [some (.ref 0), none] [] h _
  refine z_aload_n (pc := 0) dX10_text_0 rfl rfl ?_
  refine q_getR (pc := 1) (i := 141) dX10_text_1 lk_RX10_53 (lyc rfl) (G 0 8 141 rfl) ?_
  refine z_bipush (pc := 4) (v := 10) dX10_text_4 (by decide) ?_
  refine z_aload_n (pc := 6) dX10_text_6 rfl rfl ?_
  refine q_getR (pc := 7) (i := 2) dX10_text_7 lk_RX10_20 (lyc rfl) (G 0 1 2 rfl) ?_
  refine q_getI (pc := 10) (v := rI h 2 3) dX10_text_10 lk_RX10_161 (lyc rfl) rfl ?_
  refine z_isub (pc := 13) dX10_text_13 ?_
  refine q_invV (pc := 14) (As := [.int (10 - (rI h 2 3))]) (st := []) dX10_text_14 ok_X3_readAll ml_RX10_308 iv_X3_readAll pa_X3_readAll ⟨Nat.le_of_ble_eq_true rfl, Nat.le_of_ble_eq_true rfl⟩ (lyc rfl) (q_kV F (fun h1 F => ?_))
  obtain ⟨G1, F⟩ := F
  refine z_aload_n (pc := 17) dX10_text_17 rfl rfl ?_
  refine q_getR (pc := 18) (i := 141) dX10_text_18 lk_RX10_53 (lyc rfl) (G1 0 8 141 rfl) ?_
  refine z_iconst (pc := 21) (v := 0) dX10_text_21 (by decide) ?_
  refine q_putI (pc := 22) dX10_text_22 lk_RX10_301 (lyc rfl) ?_
  refine z_aload_n (pc := 25) dX10_text_25 rfl rfl ?_
  refine q_getR (pc := 26) (i := 141) dX10_text_26 lk_RX10_53 (lyc rfl) (G1 0 8 141 rfl) ?_
  refine q_getI (pc := 29) (v := rI h1 141 8) dX10_text_29 lk_RX10_311 (lyc rfl) (rI_k (by decide)) ?_
  refine z_if_lt (pc := 32) (tgt := 46) dX10_text_32 (by decide) (fun k2 => ?_) (fun k2 => ?_)
  · replace F := F.1 k2
    refine z_iconst (pc := 46) (v := 0) dX10_text_46 (by decide) ?_
    refine z_istore_n (pc := 47) (ls' := [some (.ref 0), some (.int 0)]) dX10_text_47 rfl (by decide) rfl ?_
    exact F
  · replace F := F.2 k2
    refine z_bipush (pc := 35) (v := -100) dX10_text_35 (by decide) ?_
    refine z_aload_n (pc := 37) dX10_text_37 rfl rfl ?_
    refine q_getR (pc := 38) (i := 141) dX10_text_38 lk_RX10_53 (lyc rfl) (G1 0 8 141 rfl) ?_
    refine q_getI (pc := 41) (v := rI h1 141 8) dX10_text_41 lk_RX10_311 (lyc rfl) (rI_k (by decide)) ?_
    refine z_isub (pc := 44) dX10_text_44 ?_
    exact q_retI (pc := 45) dX10_text_45 rfl F
theorem g_X10_text_48 {x1 : Int32} {h : zHp} {Q : Int32 → zHp → Prop}  (G : zG h) (F : (rI h 141 7 ≤ x1 → (zcV M_X0_settle [.ref 1, .int 0] h (fun h1 => zG h1 ∧ (Q (rI h1 141 7) h1)))) ∧ (¬ (rI h 141 7 ≤ x1) → ((10 ≤ rI h 2 3 → (zcV M_X0_settle [.ref 1, .int 0] h (fun h2 => zG h2 ∧ (Q (rI h2 141 7) h2)))) ∧ (¬ (10 ≤ rI h 2 3) → (vp_in (rI h 2 3) 10 ∧ (zRef h 4 ((Int32.toNatClampNeg (rI h 2 3))) 2 ∧ (vp_in x1 10 ∧ (zcV M_X1_copyFrom [.ref (rG h 4 ((Int32.toNatClampNeg (rI h 2 3)))), .ref (144 + (Int32.toNatClampNeg x1))] h (fun h3 => zG h3 ∧ (zlI M_X10_text 48 [some (.ref 0), some (.int (x1 + 1))] [] (wI h3 2 3 ((rI h3 2 3) + 1)) Q)))))))))) : zlI M_X10_text 48 [some (.ref 0), some (.int x1)] [] h Q := by
  refine z_iload_n (pc := 48) dX10_text_48 rfl rfl ?_
  refine z_aload_n (pc := 49) dX10_text_49 rfl rfl ?_
  refine q_getR (pc := 50) (i := 141) dX10_text_50 lk_RX10_53 (lyc rfl) (G 0 8 141 rfl) ?_
  refine q_getI (pc := 53) (v := rI h 141 7) dX10_text_53 lk_RX10_314 (lyc rfl) rfl ?_
  refine z_icmp_ge (pc := 56) (tgt := 117) dX10_text_56 (by decide) (fun k8 => ?_) (fun k8 => ?_)
  · replace F := F.1 k8
    refine z_aload_n (pc := 117) dX10_text_117 rfl rfl ?_
    refine q_getR (pc := 118) (i := 1) dX10_text_118 lk_RX10_10 (lyc rfl) (G 0 0 1 rfl) ?_
    refine z_iconst (pc := 121) (v := 0) dX10_text_121 (by decide) ?_
    refine q_invV (pc := 122) (As := [.int 0]) (st := []) dX10_text_122 ok_X0_settle ml_RX10_90 iv_X0_settle pa_X0_settle ⟨Nat.le_of_ble_eq_true rfl, Nat.le_of_ble_eq_true rfl⟩ (lyc rfl) (q_kV F (fun h1 F => ?_))
    obtain ⟨G1, F⟩ := F
    refine z_aload_n (pc := 125) dX10_text_125 rfl rfl ?_
    refine q_getR (pc := 126) (i := 141) dX10_text_126 lk_RX10_53 (lyc rfl) (G1 0 8 141 rfl) ?_
    refine q_getI (pc := 129) (v := rI h1 141 7) dX10_text_129 lk_RX10_314 (lyc rfl) rfl ?_
    exact q_retI (pc := 132) dX10_text_132 rfl F
  · replace F := F.2 k8
    refine z_aload_n (pc := 59) dX10_text_59 rfl rfl ?_
    refine q_getR (pc := 60) (i := 2) dX10_text_60 lk_RX10_20 (lyc rfl) (G 0 1 2 rfl) ?_
    refine q_getI (pc := 63) (v := rI h 2 3) dX10_text_63 lk_RX10_161 (lyc rfl) rfl ?_
    refine z_bipush (pc := 66) (v := 10) dX10_text_66 (by decide) ?_
    refine z_icmp_ge (pc := 68) (tgt := 117) dX10_text_68 (by decide) (fun k7 => ?_) (fun k7 => ?_)
    · replace F := F.1 k7
      refine z_aload_n (pc := 117) dX10_text_117 rfl rfl ?_
      refine q_getR (pc := 118) (i := 1) dX10_text_118 lk_RX10_10 (lyc rfl) (G 0 0 1 rfl) ?_
      refine z_iconst (pc := 121) (v := 0) dX10_text_121 (by decide) ?_
      refine q_invV (pc := 122) (As := [.int 0]) (st := []) dX10_text_122 ok_X0_settle ml_RX10_90 iv_X0_settle pa_X0_settle ⟨Nat.le_of_ble_eq_true rfl, Nat.le_of_ble_eq_true rfl⟩ (lyc rfl) (q_kV F (fun h2 F => ?_))
      obtain ⟨G2, F⟩ := F
      refine z_aload_n (pc := 125) dX10_text_125 rfl rfl ?_
      refine q_getR (pc := 126) (i := 141) dX10_text_126 lk_RX10_53 (lyc rfl) (G2 0 8 141 rfl) ?_
      refine q_getI (pc := 129) (v := rI h2 141 7) dX10_text_129 lk_RX10_314 (lyc rfl) rfl ?_
      exact q_retI (pc := 132) dX10_text_132 rfl F
    · replace F := F.2 k7
      refine z_aload_n (pc := 71) dX10_text_71 rfl rfl ?_
      refine q_getR (pc := 72) (i := 2) dX10_text_72 lk_RX10_20 (lyc rfl) (G 0 1 2 rfl) ?_
      refine q_getR (pc := 75) (i := 4) dX10_text_75 lk_RX10_164 (lyc rfl) (G 2 2 4 rfl) ?_
      refine z_aload_n (pc := 78) dX10_text_78 rfl rfl ?_
      refine q_getR (pc := 79) (i := 2) dX10_text_79 lk_RX10_20 (lyc rfl) (G 0 1 2 rfl) ?_
      refine q_getI (pc := 82) (v := rI h 2 3) dX10_text_82 lk_RX10_161 (lyc rfl) rfl ?_
      obtain ⟨k3, F⟩ := F
      obtain ⟨k4, F⟩ := F
      refine q_aald (pc := 85) (j := (Int32.toNatClampNeg (rI h 2 3))) (r := rG h 4 ((Int32.toNatClampNeg (rI h 2 3)))) (t := 1) dX10_text_85 (lyc rfl) (zvn (lnc rfl) k3) rfl k4.1 ?_
      refine z_aload_n (pc := 86) dX10_text_86 rfl rfl ?_
      refine q_getR (pc := 87) (i := 141) dX10_text_87 lk_RX10_53 (lyc rfl) (G 0 8 141 rfl) ?_
      refine q_getR (pc := 90) (i := 143) dX10_text_90 lk_RX10_317 (lyc rfl) (G 141 6 143 rfl) ?_
      refine z_iload_n (pc := 93) dX10_text_93 rfl rfl ?_
      obtain ⟨k5, F⟩ := F
      refine q_aald (pc := 94) (j := (Int32.toNatClampNeg x1)) (r := 144 + (Int32.toNatClampNeg x1)) (t := 1) dX10_text_94 (lyc rfl) (zvn (lnc rfl) k5) rfl (grP G (zvi k5)) ?_
      refine q_invV (pc := 95) (As := [.ref (144 + (Int32.toNatClampNeg x1))]) (st := []) dX10_text_95 ok_X1_copyFrom ml_RX10_320 iv_X1_copyFrom pa_X1_copyFrom ⟨Nat.le_of_ble_eq_true rfl, Nat.le_of_ble_eq_true rfl⟩ k4.2 (q_kV F (fun h3 F => ?_))
      obtain ⟨G3, F⟩ := F
      refine z_aload_n (pc := 98) dX10_text_98 rfl rfl ?_
      refine q_getR (pc := 99) (i := 2) dX10_text_99 lk_RX10_20 (lyc rfl) (G3 0 1 2 rfl) ?_
      refine z_dup (pc := 102) dX10_text_102 rfl ?_
      refine q_getI (pc := 103) (v := rI h3 2 3) dX10_text_103 lk_RX10_161 (lyc rfl) rfl ?_
      refine z_iconst (pc := 106) (v := 1) dX10_text_106 (by decide) ?_
      refine z_iadd (pc := 107) dX10_text_107 ?_
      refine q_putI (pc := 108) dX10_text_108 lk_RX10_161 (lyc rfl) ?_
      refine z_iinc (pc := 111) (v := x1 + 1) (ls' := [some (.ref 0), some (.int (x1 + 1))]) dX10_text_111 (by decide) rfl rfl rfl ?_
      refine z_goto (pc := 114) (tgt := 48) dX10_text_114 (by decide) ?_
      exact F
theorem g_X10_tell {x1 : Int32} {x2 : Int32} {h : zHp} {Q : Int32 → zHp → Prop}  (G : zG h) (F : zcI M_X8_hasEffect [.ref 2, .int x1] h (fun vh1 h1 => zG h1 ∧ ((vh1 = 0 → (Q (-2) h1)) ∧ (¬ (vh1 = 0) → (zcI M_X10_within [.int x2, .int 0, .int 3] h1 (fun vh2 h2 => zG h2 ∧ ((¬ vh2 = 0 → (vp_in x1 10 ∧ (zRef h2 4 ((Int32.toNatClampNeg x1)) 2 ∧ (vp_in x2 4 ∧ (zcV M_X5_become [.ref (156 + 2 * (Int32.toNatClampNeg x2)), .int 0, .int 0] h2 (fun h3 => zG h3 ∧ (zcR M_X10_scopeWord [.int (rI h3 (rG h2 4 ((Int32.toNatClampNeg x1))) 2)] h3 (fun ch4 h4 => zG h4 ∧ ∃ ih4, ih4 < 13 ∧ ch4 = 1010 + ih4 ∧ (zcV M_X5_appendText [.ref (156 + 2 * (Int32.toNatClampNeg x2)), .ref (1010 + ih4)] h4 (fun h5 => zG h5 ∧ ((rI h5 (rG h2 4 ((Int32.toNatClampNeg x1))) 2 = 0 → (zlI M_X10_tell 76 [some (.ref 0), some (.int x1), some (.int x2), some (.ref (rG h2 4 ((Int32.toNatClampNeg x1)))), some (.ref (156 + 2 * (Int32.toNatClampNeg x2)))] [] h5 Q)) ∧ (¬ (rI h5 (rG h2 4 ((Int32.toNatClampNeg x1))) 2 = 0) → (zcV M_X5_appendValue [.ref (156 + 2 * (Int32.toNatClampNeg x2)), .int (rI h5 (rG h2 4 ((Int32.toNatClampNeg x1))) 3)] h5 (fun h6 => zG h6 ∧ (zlI M_X10_tell 76 [some (.ref 0), some (.int x1), some (.int x2), some (.ref (rG h2 4 ((Int32.toNatClampNeg x1)))), some (.ref (156 + 2 * (Int32.toNatClampNeg x2)))] [] h6 Q))))))))))))))) ∧ (vh2 = 0 → (Q (-2) h2))))))))) : zcI M_X10_tell [.ref 0, .int x1, .int x2] h Q := by
  show zw zNT zNT M_X10_tell 0 [some (.ref 0), some (.int x1), some (.int x2), none, none] [] h _
  refine z_aload_n (pc := 0) dX10_tell_0 rfl rfl ?_
  refine q_getR (pc := 1) (i := 2) dX10_tell_1 lk_RX10_20 (lyc rfl) (G 0 1 2 rfl) ?_
  refine z_iload_n (pc := 4) dX10_tell_4 rfl rfl ?_
  refine q_invV (pc := 5) (As := [.int x1]) (st := []) dX10_tell_5 ok_X8_hasEffect ml_RX10_174 iv_X8_hasEffect pa_X8_hasEffect ⟨Nat.le_of_ble_eq_true rfl, Nat.le_of_ble_eq_true rfl⟩ (lyc rfl) (q_kI F (fun vh1 h1 F => ?_))
  obtain ⟨G1, F⟩ := F
  refine z_if_eq (pc := 8) (tgt := 20) dX10_tell_8 (by decide) (fun k12 => ?_) (fun k12 => ?_)
  · replace F := F.1 k12
    refine z_bipush (pc := 20) (v := -2) dX10_tell_20 (by decide) ?_
    exact q_retI (pc := 22) dX10_tell_22 rfl F
  · replace F := F.2 k12
    refine z_iload_n (pc := 11) dX10_tell_11 rfl rfl ?_
    refine z_iconst (pc := 12) (v := 0) dX10_tell_12 (by decide) ?_
    refine z_iconst (pc := 13) (v := 3) dX10_tell_13 (by decide) ?_
    refine q_invS (pc := 14) (As := [.int x2, .int 0, .int 3]) (st := []) dX10_tell_14 ok_X10_within ml_RX10_82 st_X10_within pa_X10_within ⟨Nat.le_of_ble_eq_true rfl, Nat.le_of_ble_eq_true rfl⟩ (q_kI F (fun vh2 h2 F => ?_))
    obtain ⟨G2, F⟩ := F
    refine z_if_ne (pc := 17) (tgt := 23) dX10_tell_17 (by decide) (fun k11 => ?_) (fun k11 => ?_)
    · replace F := F.1 k11
      refine z_aload_n (pc := 23) dX10_tell_23 rfl rfl ?_
      refine q_getR (pc := 24) (i := 2) dX10_tell_24 lk_RX10_20 (lyc rfl) (G2 0 1 2 rfl) ?_
      refine q_getR (pc := 27) (i := 4) dX10_tell_27 lk_RX10_164 (lyc rfl) (G2 2 2 4 rfl) ?_
      refine z_iload_n (pc := 30) dX10_tell_30 rfl rfl ?_
      obtain ⟨k3, F⟩ := F
      obtain ⟨k4, F⟩ := F
      refine q_aald (pc := 31) (j := (Int32.toNatClampNeg x1)) (r := rG h2 4 ((Int32.toNatClampNeg x1))) (t := 1) dX10_tell_31 (lyc rfl) (zvn (lnc rfl) k3) rfl k4.1 ?_
      refine z_astore_n (pc := 32) (ls' := [some (.ref 0), some (.int x1), some (.int x2), some (.ref (rG h2 4 ((Int32.toNatClampNeg x1)))), none]) dX10_tell_32 rfl (by decide) rfl ?_
      refine z_aload_n (pc := 33) dX10_tell_33 rfl rfl ?_
      refine q_getR (pc := 34) (i := 154) dX10_tell_34 lk_RX10_59 (lyc rfl) (G2 0 9 154 rfl) ?_
      refine z_iload_n (pc := 37) dX10_tell_37 rfl rfl ?_
      obtain ⟨k5, F⟩ := F
      refine q_aald (pc := 38) (j := (Int32.toNatClampNeg x2)) (r := 156 + 2 * (Int32.toNatClampNeg x2)) (t := 4) dX10_tell_38 (lyc rfl) (zvn (lnc rfl) k5) rfl (grS G2 (zvi k5)) ?_
      refine z_astore (pc := 39) (ls' := [some (.ref 0), some (.int x1), some (.int x2), some (.ref (rG h2 4 ((Int32.toNatClampNeg x1)))), some (.ref (156 + 2 * (Int32.toNatClampNeg x2)))]) dX10_tell_39 (by decide) rfl ?_
      refine z_aload (pc := 41) dX10_tell_41 rfl ?_
      refine z_iconst (pc := 43) (v := 0) dX10_tell_43 (by decide) ?_
      refine z_iconst (pc := 44) (v := 0) dX10_tell_44 (by decide) ?_
      refine q_invV (pc := 45) (As := [.int 0, .int 0]) (st := []) dX10_tell_45 ok_X5_become ml_RX10_323 iv_X5_become pa_X5_become ⟨Nat.le_of_ble_eq_true rfl, Nat.le_of_ble_eq_true rfl⟩ (lySh0 (shS (zvi k5))) (q_kV F (fun h3 F => ?_))
      obtain ⟨G3, F⟩ := F
      refine z_aload (pc := 48) dX10_tell_48 rfl ?_
      refine z_aload_n (pc := 50) dX10_tell_50 rfl rfl ?_
      refine q_getI (pc := 51) (v := rI h3 (rG h2 4 ((Int32.toNatClampNeg x1))) 2) dX10_tell_51 lk_RX10_325 k4.2 rfl ?_
      refine q_invS (pc := 54) (As := [.int (rI h3 (rG h2 4 ((Int32.toNatClampNeg x1))) 2)]) (st := [.ref (156 + 2 * (Int32.toNatClampNeg x2))]) dX10_tell_54 ok_X10_scopeWord ml_RX10_326 st_X10_scopeWord pa_X10_scopeWord ⟨Nat.le_of_ble_eq_true rfl, Nat.le_of_ble_eq_true rfl⟩ (q_kR F (fun ch4 h4 F => ?_))
      obtain ⟨G4, ih4, hih4, rfl, F⟩ := F
      refine q_invV (pc := 57) (As := [.ref (1010 + ih4)]) (st := []) dX10_tell_57 ok_X5_appendText ml_RX10_330 iv_X5_appendText pa_X5_appendText ⟨Nat.le_of_ble_eq_true rfl, Nat.le_of_ble_eq_true rfl⟩ (lySh0 (shS (zvi k5))) (q_kV F (fun h5 F => ?_))
      obtain ⟨G5, F⟩ := F
      refine z_aload_n (pc := 60) dX10_tell_60 rfl rfl ?_
      refine q_getI (pc := 61) (v := rI h5 (rG h2 4 ((Int32.toNatClampNeg x1))) 2) dX10_tell_61 lk_RX10_325 k4.2 rfl ?_
      refine z_if_eq (pc := 64) (tgt := 76) dX10_tell_64 (by decide) (fun k10 => ?_) (fun k10 => ?_)
      · replace F := F.1 k10
        exact F
      · replace F := F.2 k10
        refine z_aload (pc := 67) dX10_tell_67 rfl ?_
        refine z_aload_n (pc := 69) dX10_tell_69 rfl rfl ?_
        refine q_getI (pc := 70) (v := rI h5 (rG h2 4 ((Int32.toNatClampNeg x1))) 3) dX10_tell_70 lk_RX10_334 k4.2 rfl ?_
        refine q_invV (pc := 73) (As := [.int (rI h5 (rG h2 4 ((Int32.toNatClampNeg x1))) 3)]) (st := []) dX10_tell_73 ok_X5_appendValue ml_RX10_335 iv_X5_appendValue pa_X5_appendValue ⟨Nat.le_of_ble_eq_true rfl, Nat.le_of_ble_eq_true rfl⟩ (lySh0 (shS (zvi k5))) (q_kV F (fun h6 F => ?_))
        obtain ⟨G6, F⟩ := F
        exact F
    · replace F := F.2 k11
      refine z_bipush (pc := 20) (v := -2) dX10_tell_20 (by decide) ?_
      exact q_retI (pc := 22) dX10_tell_22 rfl F
theorem g_X10_tell_76 {x1 : Int32} {x2 : Int32} {c3 : Nat} {c4 : Nat} {h : zHp} {Q : Int32 → zHp → Prop} (hc3 : ly c3 = 2) (hc4 : zSh c4) (G : zG h) (F : zcV M_X5_appendText [.ref c4, .ref (1010 + 12)] h (fun h1 => zG h1 ∧ (zcR M_X10_deedWord [.int (rI h1 c3 1)] h1 (fun ch2 h2 => zG h2 ∧ ∃ ih2, ih2 < 13 ∧ ch2 = 1010 + ih2 ∧ (zcV M_X5_appendText [.ref c4, .ref (1010 + ih2)] h2 (fun h3 => zG h3 ∧ ((rI h3 c3 1 = 5 → (zlI M_X10_tell 113 [some (.ref 0), some (.int x1), some (.int x2), some (.ref c3), some (.ref c4)] [] h3 Q)) ∧ (¬ (rI h3 c3 1 = 5) → (zcV M_X5_appendValue [.ref c4, .int (rI h3 c3 4)] h3 (fun h4 => zG h4 ∧ (zlI M_X10_tell 113 [some (.ref 0), some (.int x1), some (.int x2), some (.ref c3), some (.ref c4)] [] h4 Q))))))))))) : zlI M_X10_tell 76 [some (.ref 0), some (.int x1), some (.int x2), some (.ref c3), some (.ref c4)] [] h Q := by
  refine z_aload (pc := 76) dX10_tell_76 rfl ?_
  refine z_ldcwS (pc := 78) (i := 12) (tx := " ") dX10_tell_78 (List.mem_of_getElem? (i := 12) rfl) (by decide) ?_
  refine q_invV (pc := 81) (As := [.ref (1010 + 12)]) (st := []) dX10_tell_81 ok_X5_appendText ml_RX10_330 iv_X5_appendText pa_X5_appendText ⟨Nat.le_of_ble_eq_true rfl, Nat.le_of_ble_eq_true rfl⟩ (lySh0 hc4) (q_kV F (fun h1 F => ?_))
  obtain ⟨G1, F⟩ := F
  refine z_aload (pc := 84) dX10_tell_84 rfl ?_
  refine z_aload_n (pc := 86) dX10_tell_86 rfl rfl ?_
  refine q_getI (pc := 87) (v := rI h1 c3 1) dX10_tell_87 lk_RX10_340 hc3 rfl ?_
  refine q_invS (pc := 90) (As := [.int (rI h1 c3 1)]) (st := [.ref c4]) dX10_tell_90 ok_X10_deedWord ml_RX10_341 st_X10_deedWord pa_X10_deedWord ⟨Nat.le_of_ble_eq_true rfl, Nat.le_of_ble_eq_true rfl⟩ (q_kR F (fun ch2 h2 F => ?_))
  obtain ⟨G2, ih2, hih2, rfl, F⟩ := F
  refine q_invV (pc := 93) (As := [.ref (1010 + ih2)]) (st := []) dX10_tell_93 ok_X5_appendText ml_RX10_330 iv_X5_appendText pa_X5_appendText ⟨Nat.le_of_ble_eq_true rfl, Nat.le_of_ble_eq_true rfl⟩ (lySh0 hc4) (q_kV F (fun h3 F => ?_))
  obtain ⟨G3, F⟩ := F
  refine z_aload_n (pc := 96) dX10_tell_96 rfl rfl ?_
  refine q_getI (pc := 97) (v := rI h3 c3 1) dX10_tell_97 lk_RX10_340 hc3 rfl ?_
  refine z_iconst (pc := 100) (v := 5) dX10_tell_100 (by decide) ?_
  refine z_icmp_eq (pc := 101) (tgt := 113) dX10_tell_101 (by decide) (fun k5 => ?_) (fun k5 => ?_)
  · replace F := F.1 k5
    exact F
  · replace F := F.2 k5
    refine z_aload (pc := 104) dX10_tell_104 rfl ?_
    refine z_aload_n (pc := 106) dX10_tell_106 rfl rfl ?_
    refine q_getI (pc := 107) (v := rI h3 c3 4) dX10_tell_107 lk_RX10_344 hc3 rfl ?_
    refine q_invV (pc := 110) (As := [.int (rI h3 c3 4)]) (st := []) dX10_tell_110 ok_X5_appendValue ml_RX10_335 iv_X5_appendValue pa_X5_appendValue ⟨Nat.le_of_ble_eq_true rfl, Nat.le_of_ble_eq_true rfl⟩ (lySh0 hc4) (q_kV F (fun h4 F => ?_))
    obtain ⟨G4, F⟩ := F
    exact F
theorem g_X10_tell_113 {x1 : Int32} {x2 : Int32} {c3 : Nat} {c4 : Nat} {h : zHp} {Q : Int32 → zHp → Prop} (hc3 : ly c3 = 2) (hc4 : zSh c4) (G : zG h) (F : (rI h c3 1 = 3 → (zcV M_X5_appendValue [.ref c4, .int (rI h c3 5)] h (fun h1 => zG h1 ∧ (Q (rI h1 c4 1) h1)))) ∧ (¬ (rI h c3 1 = 3) → ((¬ rI h c3 1 = 4 → (Q (rI h c4 1) h)) ∧ (rI h c3 1 = 4 → (zcV M_X5_appendValue [.ref c4, .int (rI h c3 5)] h (fun h2 => zG h2 ∧ (Q (rI h2 c4 1) h2))))))) : zlI M_X10_tell 113 [some (.ref 0), some (.int x1), some (.int x2), some (.ref c3), some (.ref c4)] [] h Q := by
  refine z_aload_n (pc := 113) dX10_tell_113 rfl rfl ?_
  refine q_getI (pc := 114) (v := rI h c3 1) dX10_tell_114 lk_RX10_340 hc3 rfl ?_
  refine z_iconst (pc := 117) (v := 3) dX10_tell_117 (by decide) ?_
  refine z_icmp_eq (pc := 118) (tgt := 129) dX10_tell_118 (by decide) (fun k4 => ?_) (fun k4 => ?_)
  · replace F := F.1 k4
    refine z_aload (pc := 129) dX10_tell_129 rfl ?_
    refine z_aload_n (pc := 131) dX10_tell_131 rfl rfl ?_
    refine q_getI (pc := 132) (v := rI h c3 5) dX10_tell_132 lk_RX10_345 hc3 rfl ?_
    refine q_invV (pc := 135) (As := [.int (rI h c3 5)]) (st := []) dX10_tell_135 ok_X5_appendValue ml_RX10_335 iv_X5_appendValue pa_X5_appendValue ⟨Nat.le_of_ble_eq_true rfl, Nat.le_of_ble_eq_true rfl⟩ (lySh0 hc4) (q_kV F (fun h1 F => ?_))
    obtain ⟨G1, F⟩ := F
    refine z_aload (pc := 138) dX10_tell_138 rfl ?_
    refine q_getI (pc := 140) (v := rI h1 c4 1) dX10_tell_140 lk_RX10_348 (lySh0 hc4) rfl ?_
    exact q_retI (pc := 143) dX10_tell_143 rfl F
  · replace F := F.2 k4
    refine z_aload_n (pc := 121) dX10_tell_121 rfl rfl ?_
    refine q_getI (pc := 122) (v := rI h c3 1) dX10_tell_122 lk_RX10_340 hc3 rfl ?_
    refine z_iconst (pc := 125) (v := 4) dX10_tell_125 (by decide) ?_
    refine z_icmp_ne (pc := 126) (tgt := 138) dX10_tell_126 (by decide) (fun k3 => ?_) (fun k3 => ?_)
    · replace F := F.1 k3
      refine z_aload (pc := 138) dX10_tell_138 rfl ?_
      refine q_getI (pc := 140) (v := rI h c4 1) dX10_tell_140 lk_RX10_348 (lySh0 hc4) rfl ?_
      exact q_retI (pc := 143) dX10_tell_143 rfl F
    · replace F := F.2 k3
      refine z_aload (pc := 129) dX10_tell_129 rfl ?_
      refine z_aload_n (pc := 131) dX10_tell_131 rfl rfl ?_
      refine q_getI (pc := 132) (v := rI h c3 5) dX10_tell_132 lk_RX10_345 hc3 rfl ?_
      refine q_invV (pc := 135) (As := [.int (rI h c3 5)]) (st := []) dX10_tell_135 ok_X5_appendValue ml_RX10_335 iv_X5_appendValue pa_X5_appendValue ⟨Nat.le_of_ble_eq_true rfl, Nat.le_of_ble_eq_true rfl⟩ (lySh0 hc4) (q_kV F (fun h2 F => ?_))
      obtain ⟨G2, F⟩ := F
      refine z_aload (pc := 138) dX10_tell_138 rfl ?_
      refine q_getI (pc := 140) (v := rI h2 c4 1) dX10_tell_140 lk_RX10_348 (lySh0 hc4) rfl ?_
      exact q_retI (pc := 143) dX10_tell_143 rfl F
theorem g_X10_seed {x1 : Int32} {h : zHp} {Q : Int32 → zHp → Prop}  (G : zG h) (F : Q (rI h 2 10) (wI h 2 10 x1)) : zcI M_X10_seed [.ref 0, .int x1] h Q := by
  show zw zNT zNT M_X10_seed 0 [some (.ref 0), some (.int x1), none] [] h _
  refine z_aload_n (pc := 0) dX10_seed_0 rfl rfl ?_
  refine q_getR (pc := 1) (i := 2) dX10_seed_1 lk_RX10_20 (lyc rfl) (G 0 1 2 rfl) ?_
  refine q_getI (pc := 4) (v := rI h 2 10) dX10_seed_4 lk_RX10_349 (lyc rfl) rfl ?_
  refine z_istore_n (pc := 7) (ls' := [some (.ref 0), some (.int x1), some (.int (rI h 2 10))]) dX10_seed_7 rfl (by decide) rfl ?_
  refine z_aload_n (pc := 8) dX10_seed_8 rfl rfl ?_
  refine q_getR (pc := 9) (i := 2) dX10_seed_9 lk_RX10_20 (lyc rfl) (G 0 1 2 rfl) ?_
  refine z_iload_n (pc := 12) dX10_seed_12 rfl rfl ?_
  refine q_putI (pc := 13) dX10_seed_13 lk_RX10_349 (lyc rfl) ?_
  refine z_iload_n (pc := 16) dX10_seed_16 rfl rfl ?_
  exact q_retI (pc := 17) dX10_seed_17 rfl F
theorem g_X10_deal {x1 : Int32} {h : zHp} {Q : Int32 → zHp → Prop}  (G : zG h) (F : zcI M_X10_within [.int x1, .int 0, .int 8] h (fun vh1 h1 => zG h1 ∧ ((¬ vh1 = 0 → (zlI M_X10_deal 15 [some (.ref 0), some (.int x1), some (.int 0), none, none, none, none] [] h1 Q)) ∧ (vh1 = 0 → (Q (-2) h1))))) : zcI M_X10_deal [.ref 0, .int x1] h Q := by
  show zw zNT zNT M_X10_deal 0 [some (.ref 0), some (.int x1), none, none, none, none, none] [] h _
  refine z_iload_n (pc := 0) dX10_deal_0 rfl rfl ?_
  refine z_iconst (pc := 1) (v := 0) dX10_deal_1 (by decide) ?_
  refine z_bipush (pc := 2) (v := 8) dX10_deal_2 (by decide) ?_
  refine q_invS (pc := 4) (As := [.int x1, .int 0, .int 8]) (st := []) dX10_deal_4 ok_X10_within ml_RX10_82 st_X10_within pa_X10_within ⟨Nat.le_of_ble_eq_true rfl, Nat.le_of_ble_eq_true rfl⟩ (q_kI F (fun vh1 h1 F => ?_))
  obtain ⟨G1, F⟩ := F
  refine z_if_ne (pc := 7) (tgt := 13) dX10_deal_7 (by decide) (fun k2 => ?_) (fun k2 => ?_)
  · replace F := F.1 k2
    refine z_iconst (pc := 13) (v := 0) dX10_deal_13 (by decide) ?_
    refine z_istore_n (pc := 14) (ls' := [some (.ref 0), some (.int x1), some (.int 0), none, none, none, none]) dX10_deal_14 rfl (by decide) rfl ?_
    exact F
  · replace F := F.2 k2
    refine z_bipush (pc := 10) (v := -2) dX10_deal_10 (by decide) ?_
    exact q_retI (pc := 12) dX10_deal_12 rfl F
theorem g_X10_deal_15 {x1 : Int32} {x2 : Int32} {h : zHp} {Q : Int32 → zHp → Prop}  (G : zG h) (F : (x1 ≤ x2 → (zcV M_X0_settle [.ref 1, .int 0] h (fun h1 => zG h1 ∧ (Q (rI h1 2 1) h1)))) ∧ (¬ (x1 ≤ x2) → ((8 ≤ rI h 2 1 → (zcV M_X0_settle [.ref 1, .int 0] h (fun h2 => zG h2 ∧ (Q (rI h2 2 1) h2)))) ∧ (¬ (8 ≤ rI h 2 1) → (zcI M_X8_draw [.ref 2] h (fun vh3 h3 => zG h3 ∧ (zcI M_X8_draw [.ref 2] h3 (fun vh4 h4 => zG h4 ∧ (zcI M_X8_draw [.ref 2] h4 (fun vh5 h5 => zG h5 ∧ (zcI M_X8_draw [.ref 2] h5 (fun vh6 h6 => zG h6 ∧ (zcV M_X8_addThing [.ref 2, .int (vh3 - vh3 / 2 * 2), .int (vh4 - vh4 / 6 * 6), .int ((vh5 - vh5 / 9 * 9) + 1), .int ((vh6 - vh6 / 9 * 9) + 1)] h6 (fun h7 => zG h7 ∧ (zlI M_X10_deal 15 [some (.ref 0), some (.int x1), some (.int (x2 + 1)), none, none, none, none] [] h7 Q))))))))))))))) : zlI M_X10_deal 15 [some (.ref 0), some (.int x1), some (.int x2), none, none, none, none] [] h Q := by
  refine z_iload_n (pc := 15) dX10_deal_15 rfl rfl ?_
  refine z_iload_n (pc := 16) dX10_deal_16 rfl rfl ?_
  refine z_icmp_ge (pc := 17) (tgt := 102) dX10_deal_17 (by decide) (fun k9 => ?_) (fun k9 => ?_)
  · replace F := F.1 k9
    refine z_aload_n (pc := 102) dX10_deal_102 rfl rfl ?_
    refine q_getR (pc := 103) (i := 1) dX10_deal_103 lk_RX10_10 (lyc rfl) (G 0 0 1 rfl) ?_
    refine z_iconst (pc := 106) (v := 0) dX10_deal_106 (by decide) ?_
    refine q_invV (pc := 107) (As := [.int 0]) (st := []) dX10_deal_107 ok_X0_settle ml_RX10_90 iv_X0_settle pa_X0_settle ⟨Nat.le_of_ble_eq_true rfl, Nat.le_of_ble_eq_true rfl⟩ (lyc rfl) (q_kV F (fun h1 F => ?_))
    obtain ⟨G1, F⟩ := F
    refine z_aload_n (pc := 110) dX10_deal_110 rfl rfl ?_
    refine q_getR (pc := 111) (i := 2) dX10_deal_111 lk_RX10_20 (lyc rfl) (G1 0 1 2 rfl) ?_
    refine q_getI (pc := 114) (v := rI h1 2 1) dX10_deal_114 lk_RX10_68 (lyc rfl) rfl ?_
    exact q_retI (pc := 117) dX10_deal_117 rfl F
  · replace F := F.2 k9
    refine z_aload_n (pc := 20) dX10_deal_20 rfl rfl ?_
    refine q_getR (pc := 21) (i := 2) dX10_deal_21 lk_RX10_20 (lyc rfl) (G 0 1 2 rfl) ?_
    refine q_getI (pc := 24) (v := rI h 2 1) dX10_deal_24 lk_RX10_68 (lyc rfl) rfl ?_
    refine z_bipush (pc := 27) (v := 8) dX10_deal_27 (by decide) ?_
    refine z_icmp_ge (pc := 29) (tgt := 102) dX10_deal_29 (by decide) (fun k8 => ?_) (fun k8 => ?_)
    · replace F := F.1 k8
      refine z_aload_n (pc := 102) dX10_deal_102 rfl rfl ?_
      refine q_getR (pc := 103) (i := 1) dX10_deal_103 lk_RX10_10 (lyc rfl) (G 0 0 1 rfl) ?_
      refine z_iconst (pc := 106) (v := 0) dX10_deal_106 (by decide) ?_
      refine q_invV (pc := 107) (As := [.int 0]) (st := []) dX10_deal_107 ok_X0_settle ml_RX10_90 iv_X0_settle pa_X0_settle ⟨Nat.le_of_ble_eq_true rfl, Nat.le_of_ble_eq_true rfl⟩ (lyc rfl) (q_kV F (fun h2 F => ?_))
      obtain ⟨G2, F⟩ := F
      refine z_aload_n (pc := 110) dX10_deal_110 rfl rfl ?_
      refine q_getR (pc := 111) (i := 2) dX10_deal_111 lk_RX10_20 (lyc rfl) (G2 0 1 2 rfl) ?_
      refine q_getI (pc := 114) (v := rI h2 2 1) dX10_deal_114 lk_RX10_68 (lyc rfl) rfl ?_
      exact q_retI (pc := 117) dX10_deal_117 rfl F
    · replace F := F.2 k8
      refine z_aload_n (pc := 32) dX10_deal_32 rfl rfl ?_
      refine q_getR (pc := 33) (i := 2) dX10_deal_33 lk_RX10_20 (lyc rfl) (G 0 1 2 rfl) ?_
      refine q_invV (pc := 36) (As := []) (st := []) dX10_deal_36 ok_X8_draw ml_RX10_352 iv_X8_draw pa_X8_draw ⟨Nat.le_of_ble_eq_true rfl, Nat.le_of_ble_eq_true rfl⟩ (lyc rfl) (q_kI F (fun vh3 h3 F => ?_))
      obtain ⟨G3, F⟩ := F
      refine z_iconst (pc := 39) (v := 2) dX10_deal_39 (by decide) ?_
      refine z_irem (pc := 40) dX10_deal_40 (by decide) ?_
      refine z_istore_n (pc := 41) (ls' := [some (.ref 0), some (.int x1), some (.int x2), some (.int (vh3 - vh3 / 2 * 2)), none, none, none]) dX10_deal_41 rfl (by decide) rfl ?_
      refine z_aload_n (pc := 42) dX10_deal_42 rfl rfl ?_
      refine q_getR (pc := 43) (i := 2) dX10_deal_43 lk_RX10_20 (lyc rfl) (G3 0 1 2 rfl) ?_
      refine q_invV (pc := 46) (As := []) (st := []) dX10_deal_46 ok_X8_draw ml_RX10_352 iv_X8_draw pa_X8_draw ⟨Nat.le_of_ble_eq_true rfl, Nat.le_of_ble_eq_true rfl⟩ (lyc rfl) (q_kI F (fun vh4 h4 F => ?_))
      obtain ⟨G4, F⟩ := F
      refine z_bipush (pc := 49) (v := 6) dX10_deal_49 (by decide) ?_
      refine z_irem (pc := 51) dX10_deal_51 (by decide) ?_
      refine z_istore (pc := 52) (ls' := [some (.ref 0), some (.int x1), some (.int x2), some (.int (vh3 - vh3 / 2 * 2)), some (.int (vh4 - vh4 / 6 * 6)), none, none]) dX10_deal_52 (by decide) rfl ?_
      refine z_aload_n (pc := 54) dX10_deal_54 rfl rfl ?_
      refine q_getR (pc := 55) (i := 2) dX10_deal_55 lk_RX10_20 (lyc rfl) (G4 0 1 2 rfl) ?_
      refine q_invV (pc := 58) (As := []) (st := []) dX10_deal_58 ok_X8_draw ml_RX10_352 iv_X8_draw pa_X8_draw ⟨Nat.le_of_ble_eq_true rfl, Nat.le_of_ble_eq_true rfl⟩ (lyc rfl) (q_kI F (fun vh5 h5 F => ?_))
      obtain ⟨G5, F⟩ := F
      refine z_bipush (pc := 61) (v := 9) dX10_deal_61 (by decide) ?_
      refine z_irem (pc := 63) dX10_deal_63 (by decide) ?_
      refine z_iconst (pc := 64) (v := 1) dX10_deal_64 (by decide) ?_
      refine z_iadd (pc := 65) dX10_deal_65 ?_
      refine z_istore (pc := 66) (ls' := [some (.ref 0), some (.int x1), some (.int x2), some (.int (vh3 - vh3 / 2 * 2)), some (.int (vh4 - vh4 / 6 * 6)), some (.int ((vh5 - vh5 / 9 * 9) + 1)), none]) dX10_deal_66 (by decide) rfl ?_
      refine z_aload_n (pc := 68) dX10_deal_68 rfl rfl ?_
      refine q_getR (pc := 69) (i := 2) dX10_deal_69 lk_RX10_20 (lyc rfl) (G5 0 1 2 rfl) ?_
      refine q_invV (pc := 72) (As := []) (st := []) dX10_deal_72 ok_X8_draw ml_RX10_352 iv_X8_draw pa_X8_draw ⟨Nat.le_of_ble_eq_true rfl, Nat.le_of_ble_eq_true rfl⟩ (lyc rfl) (q_kI F (fun vh6 h6 F => ?_))
      obtain ⟨G6, F⟩ := F
      refine z_bipush (pc := 75) (v := 9) dX10_deal_75 (by decide) ?_
      refine z_irem (pc := 77) dX10_deal_77 (by decide) ?_
      refine z_iconst (pc := 78) (v := 1) dX10_deal_78 (by decide) ?_
      refine z_iadd (pc := 79) dX10_deal_79 ?_
      refine z_istore (pc := 80) (ls' := [some (.ref 0), some (.int x1), some (.int x2), some (.int (vh3 - vh3 / 2 * 2)), some (.int (vh4 - vh4 / 6 * 6)), some (.int ((vh5 - vh5 / 9 * 9) + 1)), some (.int ((vh6 - vh6 / 9 * 9) + 1))]) dX10_deal_80 (by decide) rfl ?_
      refine z_aload_n (pc := 82) dX10_deal_82 rfl rfl ?_
      refine q_getR (pc := 83) (i := 2) dX10_deal_83 lk_RX10_20 (lyc rfl) (G6 0 1 2 rfl) ?_
      refine z_iload_n (pc := 86) dX10_deal_86 rfl rfl ?_
      refine z_iload (pc := 87) dX10_deal_87 rfl ?_
      refine z_iload (pc := 89) dX10_deal_89 rfl ?_
      refine z_iload (pc := 91) dX10_deal_91 rfl ?_
      refine q_invV (pc := 93) (As := [.int (vh3 - vh3 / 2 * 2), .int (vh4 - vh4 / 6 * 6), .int ((vh5 - vh5 / 9 * 9) + 1), .int ((vh6 - vh6 / 9 * 9) + 1)]) (st := []) dX10_deal_93 ok_X8_addThing ml_RX10_86 iv_X8_addThing pa_X8_addThing ⟨Nat.le_of_ble_eq_true rfl, Nat.le_of_ble_eq_true rfl⟩ (lyc rfl) (q_kV F (fun h7 F => ?_))
      obtain ⟨G7, F⟩ := F
      refine z_iinc (pc := 96) (v := x2 + 1) (ls' := [some (.ref 0), some (.int x1), some (.int (x2 + 1)), some (.int (vh3 - vh3 / 2 * 2)), some (.int (vh4 - vh4 / 6 * 6)), some (.int ((vh5 - vh5 / 9 * 9) + 1)), some (.int ((vh6 - vh6 / 9 * 9) + 1))]) dX10_deal_96 (by decide) rfl rfl rfl ?_
      refine z_goto (pc := 99) (tgt := 15) dX10_deal_99 (by decide) ?_
      exact q_sub (ls' := [some (.ref 0), some (.int x1), some (.int (x2 + 1)), none, none, none, none]) ⟨rfl, rfl, rfl, trivial⟩ F
theorem g_X10_sheet {x1 : Int32} {x2 : Int32} {x3 : Int32} {h : zHp} {Q : Int32 → zHp → Prop}  (G : zG h) (F : zcI M_X10_within [.int x1, .int 0, .int 3] h (fun vh1 h1 => zG h1 ∧ ((vh1 = 0 → (Q (-2) h1)) ∧ (¬ (vh1 = 0) → (zcI M_X10_within [.int x2, .int (-1), .int 1] h1 (fun vh2 h2 => zG h2 ∧ ((¬ vh2 = 0 → ((¬ x2 = -1 → ((x3 ≤ 40 → ((0 ≤ x3 → (vp_in x1 4 ∧ (zcV M_X5_become [.ref (156 + 2 * (Int32.toNatClampNeg x1)), .int x2, .int x3] h2 (fun h3 => zG h3 ∧ (Q 1 h3))))) ∧ (¬ (0 ≤ x3) → (Q (-14) h2)))) ∧ (¬ (x3 ≤ 40) → (Q (-2) h2)))) ∧ (x2 = -1 → (vp_in x1 4 ∧ (zcV M_X5_become [.ref (156 + 2 * (Int32.toNatClampNeg x1)), .int (-1), .int 0] h2 (fun h4 => zG h4 ∧ (Q 1 h4))))))) ∧ (vh2 = 0 → (Q (-2) h2))))))))) : zcI M_X10_sheet [.ref 0, .int x1, .int x2, .int x3] h Q := by
  show zw zNT zNT M_X10_sheet 0 [some (.ref 0), some (.int x1), some (.int x2), some (.int x3)] [] h _
  refine z_iload_n (pc := 0) dX10_sheet_0 rfl rfl ?_
  refine z_iconst (pc := 1) (v := 0) dX10_sheet_1 (by decide) ?_
  refine z_iconst (pc := 2) (v := 3) dX10_sheet_2 (by decide) ?_
  refine q_invS (pc := 3) (As := [.int x1, .int 0, .int 3]) (st := []) dX10_sheet_3 ok_X10_within ml_RX10_82 st_X10_within pa_X10_within ⟨Nat.le_of_ble_eq_true rfl, Nat.le_of_ble_eq_true rfl⟩ (q_kI F (fun vh1 h1 F => ?_))
  obtain ⟨G1, F⟩ := F
  refine z_if_eq (pc := 6) (tgt := 18) dX10_sheet_6 (by decide) (fun k11 => ?_) (fun k11 => ?_)
  · replace F := F.1 k11
    refine z_bipush (pc := 18) (v := -2) dX10_sheet_18 (by decide) ?_
    exact q_retI (pc := 20) dX10_sheet_20 rfl F
  · replace F := F.2 k11
    refine z_iload_n (pc := 9) dX10_sheet_9 rfl rfl ?_
    refine z_iconst (pc := 10) (v := -1) dX10_sheet_10 (by decide) ?_
    refine z_iconst (pc := 11) (v := 1) dX10_sheet_11 (by decide) ?_
    refine q_invS (pc := 12) (As := [.int x2, .int (-1), .int 1]) (st := []) dX10_sheet_12 ok_X10_within ml_RX10_82 st_X10_within pa_X10_within ⟨Nat.le_of_ble_eq_true rfl, Nat.le_of_ble_eq_true rfl⟩ (q_kI F (fun vh2 h2 F => ?_))
    obtain ⟨G2, F⟩ := F
    refine z_if_ne (pc := 15) (tgt := 21) dX10_sheet_15 (by decide) (fun k10 => ?_) (fun k10 => ?_)
    · replace F := F.1 k10
      refine z_iload_n (pc := 21) dX10_sheet_21 rfl rfl ?_
      refine z_iconst (pc := 22) (v := -1) dX10_sheet_22 (by decide) ?_
      refine z_icmp_ne (pc := 23) (tgt := 39) dX10_sheet_23 (by decide) (fun k9 => ?_) (fun k9 => ?_)
      · replace F := F.1 k9
        refine z_iload_n (pc := 39) dX10_sheet_39 rfl rfl ?_
        refine z_bipush (pc := 40) (v := 40) dX10_sheet_40 (by decide) ?_
        refine z_icmp_le (pc := 42) (tgt := 48) dX10_sheet_42 (by decide) (fun k6 => ?_) (fun k6 => ?_)
        · replace F := F.1 k6
          refine z_iload_n (pc := 48) dX10_sheet_48 rfl rfl ?_
          refine z_if_ge (pc := 49) (tgt := 55) dX10_sheet_49 (by decide) (fun k5 => ?_) (fun k5 => ?_)
          · replace F := F.1 k5
            refine z_aload_n (pc := 55) dX10_sheet_55 rfl rfl ?_
            refine q_getR (pc := 56) (i := 154) dX10_sheet_56 lk_RX10_59 (lyc rfl) (G2 0 9 154 rfl) ?_
            refine z_iload_n (pc := 59) dX10_sheet_59 rfl rfl ?_
            obtain ⟨k3, F⟩ := F
            refine q_aald (pc := 60) (j := (Int32.toNatClampNeg x1)) (r := 156 + 2 * (Int32.toNatClampNeg x1)) (t := 4) dX10_sheet_60 (lyc rfl) (zvn (lnc rfl) k3) rfl (grS G2 (zvi k3)) ?_
            refine z_iload_n (pc := 61) dX10_sheet_61 rfl rfl ?_
            refine z_iload_n (pc := 62) dX10_sheet_62 rfl rfl ?_
            refine q_invV (pc := 63) (As := [.int x2, .int x3]) (st := []) dX10_sheet_63 ok_X5_become ml_RX10_323 iv_X5_become pa_X5_become ⟨Nat.le_of_ble_eq_true rfl, Nat.le_of_ble_eq_true rfl⟩ (lySh0 (shS (zvi k3))) (q_kV F (fun h3 F => ?_))
            obtain ⟨G3, F⟩ := F
            refine z_iconst (pc := 66) (v := 1) dX10_sheet_66 (by decide) ?_
            exact q_retI (pc := 67) dX10_sheet_67 rfl F
          · replace F := F.2 k5
            refine z_bipush (pc := 52) (v := -14) dX10_sheet_52 (by decide) ?_
            exact q_retI (pc := 54) dX10_sheet_54 rfl F
        · replace F := F.2 k6
          refine z_bipush (pc := 45) (v := -2) dX10_sheet_45 (by decide) ?_
          exact q_retI (pc := 47) dX10_sheet_47 rfl F
      · replace F := F.2 k9
        refine z_aload_n (pc := 26) dX10_sheet_26 rfl rfl ?_
        refine q_getR (pc := 27) (i := 154) dX10_sheet_27 lk_RX10_59 (lyc rfl) (G2 0 9 154 rfl) ?_
        refine z_iload_n (pc := 30) dX10_sheet_30 rfl rfl ?_
        obtain ⟨k7, F⟩ := F
        refine q_aald (pc := 31) (j := (Int32.toNatClampNeg x1)) (r := 156 + 2 * (Int32.toNatClampNeg x1)) (t := 4) dX10_sheet_31 (lyc rfl) (zvn (lnc rfl) k7) rfl (grS G2 (zvi k7)) ?_
        refine z_iconst (pc := 32) (v := -1) dX10_sheet_32 (by decide) ?_
        refine z_iconst (pc := 33) (v := 0) dX10_sheet_33 (by decide) ?_
        refine q_invV (pc := 34) (As := [.int (-1), .int 0]) (st := []) dX10_sheet_34 ok_X5_become ml_RX10_323 iv_X5_become pa_X5_become ⟨Nat.le_of_ble_eq_true rfl, Nat.le_of_ble_eq_true rfl⟩ (lySh0 (shS (zvi k7))) (q_kV F (fun h4 F => ?_))
        obtain ⟨G4, F⟩ := F
        refine z_iconst (pc := 37) (v := 1) dX10_sheet_37 (by decide) ?_
        exact q_retI (pc := 38) dX10_sheet_38 rfl F
    · replace F := F.2 k10
      refine z_bipush (pc := 18) (v := -2) dX10_sheet_18 (by decide) ?_
      exact q_retI (pc := 20) dX10_sheet_20 rfl F
theorem g_X10_write {x1 : Int32} {x2 : Int32} {x3 : Int32} {h : zHp} {Q : Int32 → zHp → Prop}  (G : zG h) (F : zcI M_X10_refusePlace [.ref 0, .int x1, .int x2] h (fun vh1 h1 => zG h1 ∧ ((vh1 = 0 → (vp_in x1 4 ∧ ((¬ rI h1 (156 + 2 * (Int32.toNatClampNeg x1)) 0 = 0 → (vp_in x2 40 ∧ (Q 1 (wI h1 (156 + 2 * (Int32.toNatClampNeg x1) + 1) ((Int32.toNatClampNeg x2)) x3)))) ∧ (rI h1 (156 + 2 * (Int32.toNatClampNeg x1)) 0 = 0 → (vp_in x2 40 ∧ (Q 1 (wI h1 (156 + 2 * (Int32.toNatClampNeg x1) + 1) ((Int32.toNatClampNeg x2)) ((Int32.toInt8 x3).toInt32)))))))) ∧ (¬ (vh1 = 0) → (Q vh1 h1))))) : zcI M_X10_write [.ref 0, .int x1, .int x2, .int x3] h Q := by
  show zw zNT zNT M_X10_write 0 [some (.ref 0), some (.int x1), some (.int x2), some (.int x3), none] [] h _
  refine z_aload_n (pc := 0) dX10_write_0 rfl rfl ?_
  refine z_iload_n (pc := 1) dX10_write_1 rfl rfl ?_
  refine z_iload_n (pc := 2) dX10_write_2 rfl rfl ?_
  refine q_invV (pc := 3) (As := [.int x1, .int x2]) (st := []) dX10_write_3 ok_X10_refusePlace ml_RX10_355 iv_X10_refusePlace pa_X10_refusePlace ⟨Nat.le_of_ble_eq_true rfl, Nat.le_of_ble_eq_true rfl⟩ (lyc rfl) (q_kI F (fun vh1 h1 F => ?_))
  obtain ⟨G1, F⟩ := F
  refine z_istore (pc := 6) (ls' := [some (.ref 0), some (.int x1), some (.int x2), some (.int x3), some (.int vh1)]) dX10_write_6 (by decide) rfl ?_
  refine z_iload (pc := 8) dX10_write_8 rfl ?_
  refine z_if_eq (pc := 10) (tgt := 16) dX10_write_10 (by decide) (fun k6 => ?_) (fun k6 => ?_)
  · replace F := F.1 k6
    refine z_aload_n (pc := 16) dX10_write_16 rfl rfl ?_
    refine q_getR (pc := 17) (i := 154) dX10_write_17 lk_RX10_59 (lyc rfl) (G1 0 9 154 rfl) ?_
    refine z_iload_n (pc := 20) dX10_write_20 rfl rfl ?_
    obtain ⟨k2, F⟩ := F
    refine q_aald (pc := 21) (j := (Int32.toNatClampNeg x1)) (r := 156 + 2 * (Int32.toNatClampNeg x1)) (t := 4) dX10_write_21 (lyc rfl) (zvn (lnc rfl) k2) rfl (grS G1 (zvi k2)) ?_
    refine q_getR (pc := 22) (i := 156 + 2 * (Int32.toNatClampNeg x1) + 1) dX10_write_22 lk_RX10_358 (lySh0 (shS (zvi k2))) (grSh2 G1 (shS (zvi k2))) ?_
    refine z_iload_n (pc := 25) dX10_write_25 rfl rfl ?_
    refine z_aload_n (pc := 26) dX10_write_26 rfl rfl ?_
    refine q_getR (pc := 27) (i := 154) dX10_write_27 lk_RX10_59 (lyc rfl) (G1 0 9 154 rfl) ?_
    refine z_iload_n (pc := 30) dX10_write_30 rfl rfl ?_
    refine q_aald (pc := 31) (j := (Int32.toNatClampNeg x1)) (r := 156 + 2 * (Int32.toNatClampNeg x1)) (t := 4) dX10_write_31 (lyc rfl) (zvn (lnc rfl) k2) rfl (grS G1 (zvi k2)) ?_
    refine q_getI (pc := 32) (v := rI h1 (156 + 2 * (Int32.toNatClampNeg x1)) 0) dX10_write_32 lk_RX10_361 (lySh0 (shS (zvi k2))) rfl ?_
    refine z_if_ne (pc := 35) (tgt := 43) dX10_write_35 (by decide) (fun k5 => ?_) (fun k5 => ?_)
    · replace F := F.1 k5
      refine z_iload_n (pc := 43) dX10_write_43 rfl rfl ?_
      obtain ⟨k3, F⟩ := F
      refine q_iast (pc := 44) (j := (Int32.toNatClampNeg x2)) dX10_write_44 (lySh1 (shS (zvi k2))) (zvn (lnSh1 (shS (zvi k2))) k3) rfl ?_
      refine z_iconst (pc := 45) (v := 1) dX10_write_45 (by decide) ?_
      exact q_retI (pc := 46) dX10_write_46 rfl F
    · replace F := F.2 k5
      refine z_iload_n (pc := 38) dX10_write_38 rfl rfl ?_
      refine z_i2b (pc := 39) dX10_write_39 ?_
      refine z_goto (pc := 40) (tgt := 44) dX10_write_40 (by decide) ?_
      obtain ⟨k4, F⟩ := F
      refine q_iast (pc := 44) (j := (Int32.toNatClampNeg x2)) dX10_write_44 (lySh1 (shS (zvi k2))) (zvn (lnSh1 (shS (zvi k2))) k4) rfl ?_
      refine z_iconst (pc := 45) (v := 1) dX10_write_45 (by decide) ?_
      exact q_retI (pc := 46) dX10_write_46 rfl F
  · replace F := F.2 k6
    refine z_iload (pc := 13) dX10_write_13 rfl ?_
    exact q_retI (pc := 15) dX10_write_15 rfl F
theorem g_X10_item {x1 : Int32} {x2 : Int32} {h : zHp} {Q : Int32 → zHp → Prop}  (G : zG h) (F : zcI M_X10_refusePlace [.ref 0, .int x1, .int x2] h (fun vh1 h1 => zG h1 ∧ ((vh1 = 0 → (vp_in x1 4 ∧ (vp_in x2 40 ∧ (Q (rI h1 (156 + 2 * (Int32.toNatClampNeg x1) + 1) ((Int32.toNatClampNeg x2))) h1)))) ∧ (¬ (vh1 = 0) → (Q vh1 h1))))) : zcI M_X10_item [.ref 0, .int x1, .int x2] h Q := by
  show zw zNT zNT M_X10_item 0 [some (.ref 0), some (.int x1), some (.int x2), none] [] h _
  refine z_aload_n (pc := 0) dX10_item_0 rfl rfl ?_
  refine z_iload_n (pc := 1) dX10_item_1 rfl rfl ?_
  refine z_iload_n (pc := 2) dX10_item_2 rfl rfl ?_
  refine q_invV (pc := 3) (As := [.int x1, .int x2]) (st := []) dX10_item_3 ok_X10_refusePlace ml_RX10_355 iv_X10_refusePlace pa_X10_refusePlace ⟨Nat.le_of_ble_eq_true rfl, Nat.le_of_ble_eq_true rfl⟩ (lyc rfl) (q_kI F (fun vh1 h1 F => ?_))
  obtain ⟨G1, F⟩ := F
  refine z_istore_n (pc := 6) (ls' := [some (.ref 0), some (.int x1), some (.int x2), some (.int vh1)]) dX10_item_6 rfl (by decide) rfl ?_
  refine z_iload_n (pc := 7) dX10_item_7 rfl rfl ?_
  refine z_if_eq (pc := 8) (tgt := 15) dX10_item_8 (by decide) (fun k4 => ?_) (fun k4 => ?_)
  · replace F := F.1 k4
    refine z_aload_n (pc := 15) dX10_item_15 rfl rfl ?_
    refine q_getR (pc := 16) (i := 154) dX10_item_16 lk_RX10_59 (lyc rfl) (G1 0 9 154 rfl) ?_
    refine z_iload_n (pc := 19) dX10_item_19 rfl rfl ?_
    obtain ⟨k2, F⟩ := F
    refine q_aald (pc := 20) (j := (Int32.toNatClampNeg x1)) (r := 156 + 2 * (Int32.toNatClampNeg x1)) (t := 4) dX10_item_20 (lyc rfl) (zvn (lnc rfl) k2) rfl (grS G1 (zvi k2)) ?_
    refine q_getR (pc := 21) (i := 156 + 2 * (Int32.toNatClampNeg x1) + 1) dX10_item_21 lk_RX10_358 (lySh0 (shS (zvi k2))) (grSh2 G1 (shS (zvi k2))) ?_
    refine z_iload_n (pc := 24) dX10_item_24 rfl rfl ?_
    obtain ⟨k3, F⟩ := F
    refine q_iald (pc := 25) (j := (Int32.toNatClampNeg x2)) (v := rI h1 (156 + 2 * (Int32.toNatClampNeg x1) + 1) ((Int32.toNatClampNeg x2))) dX10_item_25 (lySh1 (shS (zvi k2))) (zvn (lnSh1 (shS (zvi k2))) k3) rfl rfl ?_
    exact q_retI (pc := 26) dX10_item_26 rfl F
  · replace F := F.2 k4
    refine z_iload_n (pc := 11) dX10_item_11 rfl rfl ?_
    refine z_goto (pc := 12) (tgt := 26) dX10_item_12 (by decide) ?_
    exact q_retI (pc := 26) dX10_item_26 rfl F
theorem g_X10_copy {x1 : Int32} {x2 : Int32} {x3 : Int32} {x4 : Int32} {x5 : Int32} {h : zHp} {Q : Int32 → zHp → Prop}  (G : zG h) (F : zcI M_X10_within [.int x1, .int 0, .int 3] h (fun vh1 h1 => zG h1 ∧ ((vh1 = 0 → (Q (-2) h1)) ∧ (¬ (vh1 = 0) → (zcI M_X10_within [.int x3, .int 0, .int 3] h1 (fun vh2 h2 => zG h2 ∧ ((¬ vh2 = 0 → (vp_in x1 4 ∧ (vp_in x3 4 ∧ ((rI h2 (156 + 2 * (Int32.toNatClampNeg x1)) 0 = -1 → (Q (-11) h2)) ∧ (¬ (rI h2 (156 + 2 * (Int32.toNatClampNeg x1)) 0 = -1) → ((¬ rI h2 (156 + 2 * (Int32.toNatClampNeg x3)) 0 = -1 → ((rI h2 (156 + 2 * (Int32.toNatClampNeg x1)) 0 = rI h2 (156 + 2 * (Int32.toNatClampNeg x3)) 0 → (zcI M_X5_spans [.ref (156 + 2 * (Int32.toNatClampNeg x1)), .int x2, .int x5] h2 (fun vh3 h3 => zG h3 ∧ ((vh3 = 0 → (Q (-12) h3)) ∧ (¬ (vh3 = 0) → (zcI M_X5_spans [.ref (156 + 2 * (Int32.toNatClampNeg x3)), .int x4, .int x5] h3 (fun vh4 h4 => zG h4 ∧ ((¬ vh4 = 0 → (zAc x2 x4 x5 40 40 ∧ (Q x5 (wC h4 (156 + 2 * (Int32.toNatClampNeg x1) + 1) (Int32.toNatClampNeg x2) (156 + 2 * (Int32.toNatClampNeg x3) + 1) (Int32.toNatClampNeg x4) (Int32.toNatClampNeg x5))))) ∧ (vh4 = 0 → (Q (-12) h4)))))))))) ∧ (¬ (rI h2 (156 + 2 * (Int32.toNatClampNeg x1)) 0 = rI h2 (156 + 2 * (Int32.toNatClampNeg x3)) 0) → (Q (-13) h2)))) ∧ (rI h2 (156 + 2 * (Int32.toNatClampNeg x3)) 0 = -1 → (Q (-11) h2)))))))) ∧ (vh2 = 0 → (Q (-2) h2))))))))) : zcI M_X10_copy [.ref 0, .int x1, .int x2, .int x3, .int x4, .int x5] h Q := by
  show zw zNT zNT M_X10_copy 0 [some (.ref 0), some (.int x1), some (.int x2), some (.int x3), some (.int x4), some (.int x5), none, none] [] h _
  refine z_iload_n (pc := 0) dX10_copy_0 rfl rfl ?_
  refine z_iconst (pc := 1) (v := 0) dX10_copy_1 (by decide) ?_
  refine z_iconst (pc := 2) (v := 3) dX10_copy_2 (by decide) ?_
  refine q_invS (pc := 3) (As := [.int x1, .int 0, .int 3]) (st := []) dX10_copy_3 ok_X10_within ml_RX10_82 st_X10_within pa_X10_within ⟨Nat.le_of_ble_eq_true rfl, Nat.le_of_ble_eq_true rfl⟩ (q_kI F (fun vh1 h1 F => ?_))
  obtain ⟨G1, F⟩ := F
  refine z_if_eq (pc := 6) (tgt := 18) dX10_copy_6 (by decide) (fun k14 => ?_) (fun k14 => ?_)
  · replace F := F.1 k14
    refine z_bipush (pc := 18) (v := -2) dX10_copy_18 (by decide) ?_
    exact q_retI (pc := 20) dX10_copy_20 rfl F
  · replace F := F.2 k14
    refine z_iload_n (pc := 9) dX10_copy_9 rfl rfl ?_
    refine z_iconst (pc := 10) (v := 0) dX10_copy_10 (by decide) ?_
    refine z_iconst (pc := 11) (v := 3) dX10_copy_11 (by decide) ?_
    refine q_invS (pc := 12) (As := [.int x3, .int 0, .int 3]) (st := []) dX10_copy_12 ok_X10_within ml_RX10_82 st_X10_within pa_X10_within ⟨Nat.le_of_ble_eq_true rfl, Nat.le_of_ble_eq_true rfl⟩ (q_kI F (fun vh2 h2 F => ?_))
    obtain ⟨G2, F⟩ := F
    refine z_if_ne (pc := 15) (tgt := 21) dX10_copy_15 (by decide) (fun k13 => ?_) (fun k13 => ?_)
    · replace F := F.1 k13
      refine z_aload_n (pc := 21) dX10_copy_21 rfl rfl ?_
      refine q_getR (pc := 22) (i := 154) dX10_copy_22 lk_RX10_59 (lyc rfl) (G2 0 9 154 rfl) ?_
      refine z_iload_n (pc := 25) dX10_copy_25 rfl rfl ?_
      obtain ⟨k3, F⟩ := F
      refine q_aald (pc := 26) (j := (Int32.toNatClampNeg x1)) (r := 156 + 2 * (Int32.toNatClampNeg x1)) (t := 4) dX10_copy_26 (lyc rfl) (zvn (lnc rfl) k3) rfl (grS G2 (zvi k3)) ?_
      refine z_astore (pc := 27) (ls' := [some (.ref 0), some (.int x1), some (.int x2), some (.int x3), some (.int x4), some (.int x5), some (.ref (156 + 2 * (Int32.toNatClampNeg x1))), none]) dX10_copy_27 (by decide) rfl ?_
      refine z_aload_n (pc := 29) dX10_copy_29 rfl rfl ?_
      refine q_getR (pc := 30) (i := 154) dX10_copy_30 lk_RX10_59 (lyc rfl) (G2 0 9 154 rfl) ?_
      refine z_iload_n (pc := 33) dX10_copy_33 rfl rfl ?_
      obtain ⟨k4, F⟩ := F
      refine q_aald (pc := 34) (j := (Int32.toNatClampNeg x3)) (r := 156 + 2 * (Int32.toNatClampNeg x3)) (t := 4) dX10_copy_34 (lyc rfl) (zvn (lnc rfl) k4) rfl (grS G2 (zvi k4)) ?_
      refine z_astore (pc := 35) (ls' := [some (.ref 0), some (.int x1), some (.int x2), some (.int x3), some (.int x4), some (.int x5), some (.ref (156 + 2 * (Int32.toNatClampNeg x1))), some (.ref (156 + 2 * (Int32.toNatClampNeg x3)))]) dX10_copy_35 (by decide) rfl ?_
      refine z_aload (pc := 37) dX10_copy_37 rfl ?_
      refine q_getI (pc := 39) (v := rI h2 (156 + 2 * (Int32.toNatClampNeg x1)) 0) dX10_copy_39 lk_RX10_361 (lySh0 (shS (zvi k3))) rfl ?_
      refine z_iconst (pc := 42) (v := -1) dX10_copy_42 (by decide) ?_
      refine z_icmp_eq (pc := 43) (tgt := 55) dX10_copy_43 (by decide) (fun k12 => ?_) (fun k12 => ?_)
      · replace F := F.1 k12
        refine z_bipush (pc := 55) (v := -11) dX10_copy_55 (by decide) ?_
        exact q_retI (pc := 57) dX10_copy_57 rfl F
      · replace F := F.2 k12
        refine z_aload (pc := 46) dX10_copy_46 rfl ?_
        refine q_getI (pc := 48) (v := rI h2 (156 + 2 * (Int32.toNatClampNeg x3)) 0) dX10_copy_48 lk_RX10_361 (lySh0 (shS (zvi k4))) rfl ?_
        refine z_iconst (pc := 51) (v := -1) dX10_copy_51 (by decide) ?_
        refine z_icmp_ne (pc := 52) (tgt := 58) dX10_copy_52 (by decide) (fun k11 => ?_) (fun k11 => ?_)
        · replace F := F.1 k11
          refine z_aload (pc := 58) dX10_copy_58 rfl ?_
          refine q_getI (pc := 60) (v := rI h2 (156 + 2 * (Int32.toNatClampNeg x1)) 0) dX10_copy_60 lk_RX10_361 (lySh0 (shS (zvi k3))) rfl ?_
          refine z_aload (pc := 63) dX10_copy_63 rfl ?_
          refine q_getI (pc := 65) (v := rI h2 (156 + 2 * (Int32.toNatClampNeg x3)) 0) dX10_copy_65 lk_RX10_361 (lySh0 (shS (zvi k4))) rfl ?_
          refine z_icmp_eq (pc := 68) (tgt := 74) dX10_copy_68 (by decide) (fun k10 => ?_) (fun k10 => ?_)
          · replace F := F.1 k10
            refine z_aload (pc := 74) dX10_copy_74 rfl ?_
            refine z_iload_n (pc := 76) dX10_copy_76 rfl rfl ?_
            refine z_iload (pc := 77) dX10_copy_77 rfl ?_
            refine q_invV (pc := 79) (As := [.int x2, .int x5]) (st := []) dX10_copy_79 ok_X5_spans ml_RX10_362 iv_X5_spans pa_X5_spans ⟨Nat.le_of_ble_eq_true rfl, Nat.le_of_ble_eq_true rfl⟩ (lySh0 (shS (zvi k3))) (q_kI F (fun vh3 h3 F => ?_))
            obtain ⟨G3, F⟩ := F
            refine z_if_eq (pc := 82) (tgt := 97) dX10_copy_82 (by decide) (fun k9 => ?_) (fun k9 => ?_)
            · replace F := F.1 k9
              refine z_bipush (pc := 97) (v := -12) dX10_copy_97 (by decide) ?_
              exact q_retI (pc := 99) dX10_copy_99 rfl F
            · replace F := F.2 k9
              refine z_aload (pc := 85) dX10_copy_85 rfl ?_
              refine z_iload (pc := 87) dX10_copy_87 rfl ?_
              refine z_iload (pc := 89) dX10_copy_89 rfl ?_
              refine q_invV (pc := 91) (As := [.int x4, .int x5]) (st := []) dX10_copy_91 ok_X5_spans ml_RX10_362 iv_X5_spans pa_X5_spans ⟨Nat.le_of_ble_eq_true rfl, Nat.le_of_ble_eq_true rfl⟩ (lySh0 (shS (zvi k4))) (q_kI F (fun vh4 h4 F => ?_))
              obtain ⟨G4, F⟩ := F
              refine z_if_ne (pc := 94) (tgt := 100) dX10_copy_94 (by decide) (fun k8 => ?_) (fun k8 => ?_)
              · replace F := F.1 k8
                refine z_aload (pc := 100) dX10_copy_100 rfl ?_
                refine q_getR (pc := 102) (i := 156 + 2 * (Int32.toNatClampNeg x1) + 1) dX10_copy_102 lk_RX10_358 (lySh0 (shS (zvi k3))) (grSh2 G4 (shS (zvi k3))) ?_
                refine z_iload_n (pc := 105) dX10_copy_105 rfl rfl ?_
                refine z_aload (pc := 106) dX10_copy_106 rfl ?_
                refine q_getR (pc := 108) (i := 156 + 2 * (Int32.toNatClampNeg x3) + 1) dX10_copy_108 lk_RX10_358 (lySh0 (shS (zvi k4))) (grSh2 G4 (shS (zvi k4))) ?_
                refine z_iload (pc := 111) dX10_copy_111 rfl ?_
                refine z_iload (pc := 113) dX10_copy_113 rfl ?_
                obtain ⟨k7, F⟩ := F
                refine q_copy (pc := 115) dX10_copy_115 ⟨pl_RX10_365, pw_acN, pw_acS, pw_Sys⟩ (lySh1 (shS (zvi k3))) (lySh1 (shS (zvi k4))) (lnSh1 (shS (zvi k3))) (lnSh1 (shS (zvi k4))) k7 ?_
                refine z_iload (pc := 118) dX10_copy_118 rfl ?_
                exact q_retI (pc := 120) dX10_copy_120 rfl F
              · replace F := F.2 k8
                refine z_bipush (pc := 97) (v := -12) dX10_copy_97 (by decide) ?_
                exact q_retI (pc := 99) dX10_copy_99 rfl F
          · replace F := F.2 k10
            refine z_bipush (pc := 71) (v := -13) dX10_copy_71 (by decide) ?_
            exact q_retI (pc := 73) dX10_copy_73 rfl F
        · replace F := F.2 k11
          refine z_bipush (pc := 55) (v := -11) dX10_copy_55 (by decide) ?_
          exact q_retI (pc := 57) dX10_copy_57 rfl F
    · replace F := F.2 k13
      refine z_bipush (pc := 18) (v := -2) dX10_copy_18 (by decide) ?_
      exact q_retI (pc := 20) dX10_copy_20 rfl F
theorem g_X10_image  {h : zHp} {Q : Int32 → zHp → Prop}  (G : zG h) (F : zcV M_X8_copyFrom [.ref 93, .ref 2] h (fun h1 => zG h1 ∧ (Q (rI h1 2 1) (wI h1 0 5 1)))) : zcI M_X10_image [.ref 0] h Q := by
  show zw zNT zNT M_X10_image 0 [some (.ref 0)] [] h _
  refine z_aload_n (pc := 0) dX10_image_0 rfl rfl ?_
  refine q_getR (pc := 1) (i := 93) dX10_image_1 lk_RX10_34 (lyc rfl) (G 0 4 93 rfl) ?_
  refine z_aload_n (pc := 4) dX10_image_4 rfl rfl ?_
  refine q_getR (pc := 5) (i := 2) dX10_image_5 lk_RX10_20 (lyc rfl) (G 0 1 2 rfl) ?_
  refine q_invV (pc := 8) (As := [.ref 2]) (st := []) dX10_image_8 ok_X8_copyFrom ml_RX10_253 iv_X8_copyFrom pa_X8_copyFrom ⟨Nat.le_of_ble_eq_true rfl, Nat.le_of_ble_eq_true rfl⟩ (lyc rfl) (q_kV F (fun h1 F => ?_))
  obtain ⟨G1, F⟩ := F
  refine z_aload_n (pc := 11) dX10_image_11 rfl rfl ?_
  refine z_iconst (pc := 12) (v := 1) dX10_image_12 (by decide) ?_
  refine q_putB (pc := 13) dX10_image_13 lk_RX10_371 (lyc rfl) (Or.inr rfl) ?_
  refine z_aload_n (pc := 16) dX10_image_16 rfl rfl ?_
  refine q_getR (pc := 17) (i := 2) dX10_image_17 lk_RX10_20 (lyc rfl) (G1 0 1 2 rfl) ?_
  refine q_getI (pc := 20) (v := rI h1 2 1) dX10_image_20 lk_RX10_68 (lyc rfl) (rI_k (by decide)) ?_
  exact q_retI (pc := 23) dX10_image_23 rfl F
theorem g_X10_back  {h : zHp} {Q : Int32 → zHp → Prop}  (G : zG h) (F : (¬ rI h 0 5 = 0 → (zcV M_X8_copyFrom [.ref 2, .ref 93] h (fun h1 => zG h1 ∧ (zcV M_X2_make [.ref 42, .ref 2, .int 5] h1 (fun h2 => zG h2 ∧ (Q (rI h2 2 1) h2)))))) ∧ (rI h 0 5 = 0 → (Q (-3) h))) : zcI M_X10_back [.ref 0] h Q := by
  show zw zNT zNT M_X10_back 0 [some (.ref 0)] [] h _
  refine z_aload_n (pc := 0) dX10_back_0 rfl rfl ?_
  refine q_getI (pc := 1) (v := rI h 0 5) dX10_back_1 lk_RX10_371 (lyc rfl) rfl ?_
  refine z_if_ne (pc := 4) (tgt := 10) dX10_back_4 (by decide) (fun k3 => ?_) (fun k3 => ?_)
  · replace F := F.1 k3
    refine z_aload_n (pc := 10) dX10_back_10 rfl rfl ?_
    refine q_getR (pc := 11) (i := 2) dX10_back_11 lk_RX10_20 (lyc rfl) (G 0 1 2 rfl) ?_
    refine z_aload_n (pc := 14) dX10_back_14 rfl rfl ?_
    refine q_getR (pc := 15) (i := 93) dX10_back_15 lk_RX10_34 (lyc rfl) (G 0 4 93 rfl) ?_
    refine q_invV (pc := 18) (As := [.ref 93]) (st := []) dX10_back_18 ok_X8_copyFrom ml_RX10_253 iv_X8_copyFrom pa_X8_copyFrom ⟨Nat.le_of_ble_eq_true rfl, Nat.le_of_ble_eq_true rfl⟩ (lyc rfl) (q_kV F (fun h1 F => ?_))
    obtain ⟨G1, F⟩ := F
    refine z_aload_n (pc := 21) dX10_back_21 rfl rfl ?_
    refine q_getR (pc := 22) (i := 42) dX10_back_22 lk_RX10_27 (lyc rfl) (G1 0 2 42 rfl) ?_
    refine z_aload_n (pc := 25) dX10_back_25 rfl rfl ?_
    refine q_getR (pc := 26) (i := 2) dX10_back_26 lk_RX10_20 (lyc rfl) (G1 0 1 2 rfl) ?_
    refine z_iconst (pc := 29) (v := 5) dX10_back_29 (by decide) ?_
    refine q_invV (pc := 30) (As := [.ref 2, .int 5]) (st := []) dX10_back_30 ok_X2_make ml_RX10_78 iv_X2_make pa_X2_make ⟨Nat.le_of_ble_eq_true rfl, Nat.le_of_ble_eq_true rfl⟩ (lyc rfl) (q_kV F (fun h2 F => ?_))
    obtain ⟨G2, F⟩ := F
    refine z_aload_n (pc := 33) dX10_back_33 rfl rfl ?_
    refine q_getR (pc := 34) (i := 2) dX10_back_34 lk_RX10_20 (lyc rfl) (G2 0 1 2 rfl) ?_
    refine q_getI (pc := 37) (v := rI h2 2 1) dX10_back_37 lk_RX10_68 (lyc rfl) rfl ?_
    exact q_retI (pc := 40) dX10_back_40 rfl F
  · replace F := F.2 k3
    refine z_bipush (pc := 7) (v := -3) dX10_back_7 (by decide) ?_
    exact q_retI (pc := 9) dX10_back_9 rfl F
theorem g_X10_count {x1 : Int32} {h : zHp} {Q : Int32 → zHp → Prop}  (G : zG h) (F : (x1 = 0 → (Q (rI h 2 1) h)) ∧ (¬ x1 = 0 → ((x1 = 1 → (zcI M_X8_aliveBits [.ref 2] h (fun vh1 h1 => zG h1 ∧ (Q vh1 h1)))) ∧ (¬ x1 = 1 → ((x1 = 2 → (Q (rI h 2 3) h)) ∧ (¬ x1 = 2 → ((x1 = 3 → (Q (rI h 2 5) h)) ∧ (¬ x1 = 3 → ((x1 = 4 → (Q (rI h 2 7) h)) ∧ (¬ x1 = 4 → ((x1 = 5 → (Q (rI h 2 9) h)) ∧ (¬ x1 = 5 → ((x1 = 6 → (Q (rI h 141 1) h)) ∧ (¬ x1 = 6 → ((x1 = 7 → (Q (rI h 2 10) h)) ∧ (¬ x1 = 7 → (Q (-2) h))))))))))))))))) : zcI M_X10_count [.ref 0, .int x1] h Q := by
  show zw zNT zNT M_X10_count 0 [some (.ref 0), some (.int x1)] [] h _
  refine z_iload_n (pc := 0) dX10_count_0 rfl rfl ?_
  by_cases k1 : x1 = 0
  · replace F := F.1 k1
    refine z_tableIn (pc := 1) (x := x1) (tgt := 48) (off := 47) dX10_count_1 (by rw [k1]; decide) (by rw [k1]; decide) (by rw [k1]; decide) (by decide) ?_
    refine z_aload_n (pc := 48) dX10_count_48 rfl rfl ?_
    refine q_getR (pc := 49) (i := 2) dX10_count_49 lk_RX10_20 (lyc rfl) (G 0 1 2 rfl) ?_
    refine q_getI (pc := 52) (v := rI h 2 1) dX10_count_52 lk_RX10_68 (lyc rfl) rfl ?_
    exact q_retI (pc := 55) dX10_count_55 rfl F
  · replace F := F.2 k1
    by_cases k2 : x1 = 1
    · replace F := F.1 k2
      refine z_tableIn (pc := 1) (x := x1) (tgt := 56) (off := 55) dX10_count_1 (by rw [k2]; decide) (by rw [k2]; decide) (by rw [k2]; decide) (by decide) ?_
      refine z_aload_n (pc := 56) dX10_count_56 rfl rfl ?_
      refine q_getR (pc := 57) (i := 2) dX10_count_57 lk_RX10_20 (lyc rfl) (G 0 1 2 rfl) ?_
      refine q_invV (pc := 60) (As := []) (st := []) dX10_count_60 ok_X8_aliveBits ml_RX10_374 iv_X8_aliveBits pa_X8_aliveBits ⟨Nat.le_of_ble_eq_true rfl, Nat.le_of_ble_eq_true rfl⟩ (lyc rfl) (q_kI F (fun vh1 h1 F => ?_))
      obtain ⟨G1, F⟩ := F
      exact q_retI (pc := 63) dX10_count_63 rfl F
    · replace F := F.2 k2
      by_cases k4 : x1 = 2
      · replace F := F.1 k4
        refine z_tableIn (pc := 1) (x := x1) (tgt := 64) (off := 63) dX10_count_1 (by rw [k4]; decide) (by rw [k4]; decide) (by rw [k4]; decide) (by decide) ?_
        refine z_aload_n (pc := 64) dX10_count_64 rfl rfl ?_
        refine q_getR (pc := 65) (i := 2) dX10_count_65 lk_RX10_20 (lyc rfl) (G 0 1 2 rfl) ?_
        refine q_getI (pc := 68) (v := rI h 2 3) dX10_count_68 lk_RX10_161 (lyc rfl) rfl ?_
        exact q_retI (pc := 71) dX10_count_71 rfl F
      · replace F := F.2 k4
        by_cases k5 : x1 = 3
        · replace F := F.1 k5
          refine z_tableIn (pc := 1) (x := x1) (tgt := 72) (off := 71) dX10_count_1 (by rw [k5]; decide) (by rw [k5]; decide) (by rw [k5]; decide) (by decide) ?_
          refine z_aload_n (pc := 72) dX10_count_72 rfl rfl ?_
          refine q_getR (pc := 73) (i := 2) dX10_count_73 lk_RX10_20 (lyc rfl) (G 0 1 2 rfl) ?_
          refine q_getI (pc := 76) (v := rI h 2 5) dX10_count_76 lk_RX10_205 (lyc rfl) rfl ?_
          exact q_retI (pc := 79) dX10_count_79 rfl F
        · replace F := F.2 k5
          by_cases k6 : x1 = 4
          · replace F := F.1 k6
            refine z_tableIn (pc := 1) (x := x1) (tgt := 80) (off := 79) dX10_count_1 (by rw [k6]; decide) (by rw [k6]; decide) (by rw [k6]; decide) (by decide) ?_
            refine z_aload_n (pc := 80) dX10_count_80 rfl rfl ?_
            refine q_getR (pc := 81) (i := 2) dX10_count_81 lk_RX10_20 (lyc rfl) (G 0 1 2 rfl) ?_
            refine q_getI (pc := 84) (v := rI h 2 7) dX10_count_84 lk_RX10_231 (lyc rfl) rfl ?_
            exact q_retI (pc := 87) dX10_count_87 rfl F
          · replace F := F.2 k6
            by_cases k7 : x1 = 5
            · replace F := F.1 k7
              refine z_tableIn (pc := 1) (x := x1) (tgt := 88) (off := 87) dX10_count_1 (by rw [k7]; decide) (by rw [k7]; decide) (by rw [k7]; decide) (by decide) ?_
              refine z_aload_n (pc := 88) dX10_count_88 rfl rfl ?_
              refine q_getR (pc := 89) (i := 2) dX10_count_89 lk_RX10_20 (lyc rfl) (G 0 1 2 rfl) ?_
              refine q_getI (pc := 92) (v := rI h 2 9) dX10_count_92 lk_RX10_292 (lyc rfl) rfl ?_
              exact q_retI (pc := 95) dX10_count_95 rfl F
            · replace F := F.2 k7
              by_cases k8 : x1 = 6
              · replace F := F.1 k8
                refine z_tableIn (pc := 1) (x := x1) (tgt := 96) (off := 95) dX10_count_1 (by rw [k8]; decide) (by rw [k8]; decide) (by rw [k8]; decide) (by decide) ?_
                refine z_aload_n (pc := 96) dX10_count_96 rfl rfl ?_
                refine q_getR (pc := 97) (i := 141) dX10_count_97 lk_RX10_53 (lyc rfl) (G 0 8 141 rfl) ?_
                refine q_getI (pc := 100) (v := rI h 141 1) dX10_count_100 lk_RX10_301 (lyc rfl) rfl ?_
                exact q_retI (pc := 103) dX10_count_103 rfl F
              · replace F := F.2 k8
                by_cases k9 : x1 = 7
                · replace F := F.1 k9
                  refine z_tableIn (pc := 1) (x := x1) (tgt := 104) (off := 103) dX10_count_1 (by rw [k9]; decide) (by rw [k9]; decide) (by rw [k9]; decide) (by decide) ?_
                  refine z_aload_n (pc := 104) dX10_count_104 rfl rfl ?_
                  refine q_getR (pc := 105) (i := 2) dX10_count_105 lk_RX10_20 (lyc rfl) (G 0 1 2 rfl) ?_
                  refine q_getI (pc := 108) (v := rI h 2 10) dX10_count_108 lk_RX10_349 (lyc rfl) rfl ?_
                  exact q_retI (pc := 111) dX10_count_111 rfl F
                · replace F := F.2 k9
                  have hz0 := q_sw (0) k1 (by decide)
                  have hz1 := q_sw (1) k2 (by decide)
                  have hz2 := q_sw (2) k4 (by decide)
                  have hz3 := q_sw (3) k5 (by decide)
                  have hz4 := q_sw (4) k6 (by decide)
                  have hz5 := q_sw (5) k7 (by decide)
                  have hz6 := q_sw (6) k8 (by decide)
                  have hz7 := q_sw (7) k9 (by decide)
                  refine z_tableOut (pc := 1) (tgt := 112) dX10_count_1 (by omega) (by decide) ?_
                  refine z_bipush (pc := 112) (v := -2) dX10_count_112 (by decide) ?_
                  exact q_retI (pc := 114) dX10_count_114 rfl F
theorem g_X10_refuseLoop {x1 : Int32} {h : zHp} {Q : Int32 → zHp → Prop}  (G : zG h) (F : (x1 = -5 → (zAc 0 0 40 40 40 ∧ (zcV M_X8_copyFrom [.ref 2, .ref 53] (wC (wI h 0 11 40) 52 (Int32.toNatClampNeg 0) 155 (Int32.toNatClampNeg 0) (Int32.toNatClampNeg 40)) (fun h1 => zG h1 ∧ (zcV M_X2_make [.ref 42, .ref 2, .int 5] h1 (fun h2 => zG h2 ∧ (Q (-5) h2))))))) ∧ (¬ (x1 = -5) → (Q x1 h))) : zcI M_X10_refuseLoop [.ref 0, .int x1] h Q := by
  show zw zNT zNT M_X10_refuseLoop 0 [some (.ref 0), some (.int x1)] [] h _
  refine z_iload_n (pc := 0) dX10_refuseLoop_0 rfl rfl ?_
  refine z_bipush (pc := 1) (v := -5) dX10_refuseLoop_1 (by decide) ?_
  refine z_icmp_eq (pc := 3) (tgt := 8) dX10_refuseLoop_3 (by decide) (fun k4 => ?_) (fun k4 => ?_)
  · replace F := F.1 k4
    refine z_aload_n (pc := 8) dX10_refuseLoop_8 rfl rfl ?_
    refine z_bipush (pc := 9) (v := 40) dX10_refuseLoop_9 (by decide) ?_
    refine q_putI (pc := 11) dX10_refuseLoop_11 lk_RX10_75 (lyc rfl) ?_
    refine z_aload_n (pc := 14) dX10_refuseLoop_14 rfl rfl ?_
    refine q_getR (pc := 15) (i := 1) dX10_refuseLoop_15 lk_RX10_10 (lyc rfl) (G 0 0 1 rfl) ?_
    refine q_getR (pc := 18) (i := 52) dX10_refuseLoop_18 lk_RX10_377 (lyc rfl) (G 1 6 52 rfl) ?_
    refine z_iconst (pc := 21) (v := 0) dX10_refuseLoop_21 (by decide) ?_
    refine z_aload_n (pc := 22) dX10_refuseLoop_22 rfl rfl ?_
    refine q_getR (pc := 23) (i := 155) dX10_refuseLoop_23 lk_RX10_63 (lyc rfl) (G 0 10 155 rfl) ?_
    refine z_iconst (pc := 26) (v := 0) dX10_refuseLoop_26 (by decide) ?_
    refine z_bipush (pc := 27) (v := 40) dX10_refuseLoop_27 (by decide) ?_
    obtain ⟨k3, F⟩ := F
    refine q_copy (pc := 29) dX10_refuseLoop_29 ⟨pl_RX10_365, pw_acN, pw_acS, pw_Sys⟩ (lyc rfl) (lyc rfl) (lnc rfl) (lnc rfl) k3 ?_
    refine z_aload_n (pc := 32) dX10_refuseLoop_32 rfl rfl ?_
    refine q_getR (pc := 33) (i := 2) dX10_refuseLoop_33 lk_RX10_20 (lyc rfl) (G 0 1 2 rfl) ?_
    refine z_aload_n (pc := 36) dX10_refuseLoop_36 rfl rfl ?_
    refine q_getR (pc := 37) (i := 53) dX10_refuseLoop_37 lk_RX10_31 (lyc rfl) (G 0 3 53 rfl) ?_
    refine q_invV (pc := 40) (As := [.ref 53]) (st := []) dX10_refuseLoop_40 ok_X8_copyFrom ml_RX10_253 iv_X8_copyFrom pa_X8_copyFrom ⟨Nat.le_of_ble_eq_true rfl, Nat.le_of_ble_eq_true rfl⟩ (lyc rfl) (q_kV F (fun h1 F => ?_))
    obtain ⟨G1, F⟩ := F
    refine z_aload_n (pc := 43) dX10_refuseLoop_43 rfl rfl ?_
    refine q_getR (pc := 44) (i := 42) dX10_refuseLoop_44 lk_RX10_27 (lyc rfl) (G1 0 2 42 rfl) ?_
    refine z_aload_n (pc := 47) dX10_refuseLoop_47 rfl rfl ?_
    refine q_getR (pc := 48) (i := 2) dX10_refuseLoop_48 lk_RX10_20 (lyc rfl) (G1 0 1 2 rfl) ?_
    refine z_iconst (pc := 51) (v := 5) dX10_refuseLoop_51 (by decide) ?_
    refine q_invV (pc := 52) (As := [.ref 2, .int 5]) (st := []) dX10_refuseLoop_52 ok_X2_make ml_RX10_78 iv_X2_make pa_X2_make ⟨Nat.le_of_ble_eq_true rfl, Nat.le_of_ble_eq_true rfl⟩ (lyc rfl) (q_kV F (fun h2 F => ?_))
    obtain ⟨G2, F⟩ := F
    refine z_bipush (pc := 55) (v := -5) dX10_refuseLoop_55 (by decide) ?_
    exact q_retI (pc := 57) dX10_refuseLoop_57 rfl F
  · replace F := F.2 k4
    refine z_iload_n (pc := 6) dX10_refuseLoop_6 rfl rfl ?_
    exact q_retI (pc := 7) dX10_refuseLoop_7 rfl F
