/-! a world is copied: the class -/
theorem g_X6_copyFrom {c0 : Nat} {c1 : Nat} {h : zHp} {Q : zHp → Prop} (hc0 : ly c0 = 7) (hc1 : ly c1 = 7) (G : zG h) (F : zB (rI h c1 5) ∧ (Q (wI (wI (wI (wI (wI (wI (wI (wI (wI (wI h c0 0 (rI h c1 0)) c0 1 (rI h c1 1)) c0 2 (rI h c1 2)) c0 3 (rI h c1 3)) c0 4 (rI h c1 4)) c0 5 (rI h c1 5)) c0 6 (rI h c1 6)) c0 7 (rI h c1 7)) c0 8 (rI h c1 8)) c0 9 (rI h c1 9)))) : zcV M_X6_copyFrom [.ref c0, .ref c1] h Q := by
  show zw zNT zNT M_X6_copyFrom 0 [some (.ref c0), some (.ref c1)] [] h _
  refine z_aload_n (pc := 0) dX6_copyFrom_0 rfl rfl ?_
  refine z_aload_n (pc := 1) dX6_copyFrom_1 rfl rfl ?_
  refine q_getI (pc := 2) (v := rI h c1 0) dX6_copyFrom_2 lk_RX6_9 hc1 rfl ?_
  refine q_putI (pc := 5) dX6_copyFrom_5 lk_RX6_9 hc0 ?_
  refine z_aload_n (pc := 8) dX6_copyFrom_8 rfl rfl ?_
  refine z_aload_n (pc := 9) dX6_copyFrom_9 rfl rfl ?_
  refine q_getI (pc := 10) (v := rI h c1 1) dX6_copyFrom_10 lk_RX6_15 hc1 (rI_k (by decide)) ?_
  refine q_putI (pc := 13) dX6_copyFrom_13 lk_RX6_15 hc0 ?_
  refine z_aload_n (pc := 16) dX6_copyFrom_16 rfl rfl ?_
  refine z_aload_n (pc := 17) dX6_copyFrom_17 rfl rfl ?_
  refine q_getI (pc := 18) (v := rI h c1 2) dX6_copyFrom_18 lk_RX6_18 hc1 ((rI_k (by decide)).trans (rI_k (by decide))) ?_
  refine q_putI (pc := 21) dX6_copyFrom_21 lk_RX6_18 hc0 ?_
  refine z_aload_n (pc := 24) dX6_copyFrom_24 rfl rfl ?_
  refine z_aload_n (pc := 25) dX6_copyFrom_25 rfl rfl ?_
  refine q_getI (pc := 26) (v := rI h c1 3) dX6_copyFrom_26 lk_RX6_21 hc1 (((rI_k (by decide)).trans (rI_k (by decide))).trans (rI_k (by decide))) ?_
  refine q_putI (pc := 29) dX6_copyFrom_29 lk_RX6_21 hc0 ?_
  refine z_aload_n (pc := 32) dX6_copyFrom_32 rfl rfl ?_
  refine z_aload_n (pc := 33) dX6_copyFrom_33 rfl rfl ?_
  refine q_getI (pc := 34) (v := rI h c1 4) dX6_copyFrom_34 lk_RX6_24 hc1 ((((rI_k (by decide)).trans (rI_k (by decide))).trans (rI_k (by decide))).trans (rI_k (by decide))) ?_
  refine q_putI (pc := 37) dX6_copyFrom_37 lk_RX6_24 hc0 ?_
  refine z_aload_n (pc := 40) dX6_copyFrom_40 rfl rfl ?_
  refine z_aload_n (pc := 41) dX6_copyFrom_41 rfl rfl ?_
  refine q_getI (pc := 42) (v := rI h c1 5) dX6_copyFrom_42 lk_RX6_27 hc1 (((((rI_k (by decide)).trans (rI_k (by decide))).trans (rI_k (by decide))).trans (rI_k (by decide))).trans (rI_k (by decide))) ?_
  obtain ⟨k1, F⟩ := F
  refine q_putB (pc := 45) dX6_copyFrom_45 lk_RX6_27 hc0 k1 ?_
  refine z_aload_n (pc := 48) dX6_copyFrom_48 rfl rfl ?_
  refine z_aload_n (pc := 49) dX6_copyFrom_49 rfl rfl ?_
  refine q_getI (pc := 50) (v := rI h c1 6) dX6_copyFrom_50 lk_RX6_31 hc1 ((((((rI_k (by decide)).trans (rI_k (by decide))).trans (rI_k (by decide))).trans (rI_k (by decide))).trans (rI_k (by decide))).trans (rI_k (by decide))) ?_
  refine q_putI (pc := 53) dX6_copyFrom_53 lk_RX6_31 hc0 ?_
  refine z_aload_n (pc := 56) dX6_copyFrom_56 rfl rfl ?_
  refine z_aload_n (pc := 57) dX6_copyFrom_57 rfl rfl ?_
  refine q_getI (pc := 58) (v := rI h c1 7) dX6_copyFrom_58 lk_RX6_34 hc1 (((((((rI_k (by decide)).trans (rI_k (by decide))).trans (rI_k (by decide))).trans (rI_k (by decide))).trans (rI_k (by decide))).trans (rI_k (by decide))).trans (rI_k (by decide))) ?_
  refine q_putI (pc := 61) dX6_copyFrom_61 lk_RX6_34 hc0 ?_
  refine z_aload_n (pc := 64) dX6_copyFrom_64 rfl rfl ?_
  refine z_aload_n (pc := 65) dX6_copyFrom_65 rfl rfl ?_
  refine q_getI (pc := 66) (v := rI h c1 8) dX6_copyFrom_66 lk_RX6_37 hc1 ((((((((rI_k (by decide)).trans (rI_k (by decide))).trans (rI_k (by decide))).trans (rI_k (by decide))).trans (rI_k (by decide))).trans (rI_k (by decide))).trans (rI_k (by decide))).trans (rI_k (by decide))) ?_
  refine q_putI (pc := 69) dX6_copyFrom_69 lk_RX6_37 hc0 ?_
  refine z_aload_n (pc := 72) dX6_copyFrom_72 rfl rfl ?_
  refine z_aload_n (pc := 73) dX6_copyFrom_73 rfl rfl ?_
  refine q_getI (pc := 74) (v := rI h c1 9) dX6_copyFrom_74 lk_RX6_40 hc1 (((((((((rI_k (by decide)).trans (rI_k (by decide))).trans (rI_k (by decide))).trans (rI_k (by decide))).trans (rI_k (by decide))).trans (rI_k (by decide))).trans (rI_k (by decide))).trans (rI_k (by decide))).trans (rI_k (by decide))) ?_
  refine q_putI (pc := 77) dX6_copyFrom_77 lk_RX6_40 hc0 ?_
  exact q_retV (pc := 80) dX6_copyFrom_80 rfl F
theorem g_X1_copyFrom {c0 : Nat} {c1 : Nat} {h : zHp} {Q : zHp → Prop} (hc0 : ly c0 = 2) (hc1 : ly c1 = 2) (G : zG h) (F : Q (wI (wI (wI (wI (wI (wI (wI h c0 0 (rI h c1 0)) c0 1 (rI h c1 1)) c0 2 (rI h c1 2)) c0 3 (rI h c1 3)) c0 4 (rI h c1 4)) c0 5 (rI h c1 5)) c0 6 (rI h c1 6))) : zcV M_X1_copyFrom [.ref c0, .ref c1] h Q := by
  show zw zNT zNT M_X1_copyFrom 0 [some (.ref c0), some (.ref c1)] [] h _
  refine z_aload_n (pc := 0) dX1_copyFrom_0 rfl rfl ?_
  refine z_aload_n (pc := 1) dX1_copyFrom_1 rfl rfl ?_
  refine q_getI (pc := 2) (v := rI h c1 0) dX1_copyFrom_2 lk_RX1_9 hc1 rfl ?_
  refine q_putI (pc := 5) dX1_copyFrom_5 lk_RX1_9 hc0 ?_
  refine z_aload_n (pc := 8) dX1_copyFrom_8 rfl rfl ?_
  refine z_aload_n (pc := 9) dX1_copyFrom_9 rfl rfl ?_
  refine q_getI (pc := 10) (v := rI h c1 1) dX1_copyFrom_10 lk_RX1_15 hc1 (rI_k (by decide)) ?_
  refine q_putI (pc := 13) dX1_copyFrom_13 lk_RX1_15 hc0 ?_
  refine z_aload_n (pc := 16) dX1_copyFrom_16 rfl rfl ?_
  refine z_aload_n (pc := 17) dX1_copyFrom_17 rfl rfl ?_
  refine q_getI (pc := 18) (v := rI h c1 2) dX1_copyFrom_18 lk_RX1_18 hc1 ((rI_k (by decide)).trans (rI_k (by decide))) ?_
  refine q_putI (pc := 21) dX1_copyFrom_21 lk_RX1_18 hc0 ?_
  refine z_aload_n (pc := 24) dX1_copyFrom_24 rfl rfl ?_
  refine z_aload_n (pc := 25) dX1_copyFrom_25 rfl rfl ?_
  refine q_getI (pc := 26) (v := rI h c1 3) dX1_copyFrom_26 lk_RX1_21 hc1 (((rI_k (by decide)).trans (rI_k (by decide))).trans (rI_k (by decide))) ?_
  refine q_putI (pc := 29) dX1_copyFrom_29 lk_RX1_21 hc0 ?_
  refine z_aload_n (pc := 32) dX1_copyFrom_32 rfl rfl ?_
  refine z_aload_n (pc := 33) dX1_copyFrom_33 rfl rfl ?_
  refine q_getI (pc := 34) (v := rI h c1 4) dX1_copyFrom_34 lk_RX1_24 hc1 ((((rI_k (by decide)).trans (rI_k (by decide))).trans (rI_k (by decide))).trans (rI_k (by decide))) ?_
  refine q_putI (pc := 37) dX1_copyFrom_37 lk_RX1_24 hc0 ?_
  refine z_aload_n (pc := 40) dX1_copyFrom_40 rfl rfl ?_
  refine z_aload_n (pc := 41) dX1_copyFrom_41 rfl rfl ?_
  refine q_getI (pc := 42) (v := rI h c1 5) dX1_copyFrom_42 lk_RX1_27 hc1 (((((rI_k (by decide)).trans (rI_k (by decide))).trans (rI_k (by decide))).trans (rI_k (by decide))).trans (rI_k (by decide))) ?_
  refine q_putI (pc := 45) dX1_copyFrom_45 lk_RX1_27 hc0 ?_
  refine z_aload_n (pc := 48) dX1_copyFrom_48 rfl rfl ?_
  refine z_aload_n (pc := 49) dX1_copyFrom_49 rfl rfl ?_
  refine q_getI (pc := 50) (v := rI h c1 6) dX1_copyFrom_50 lk_RX1_30 hc1 ((((((rI_k (by decide)).trans (rI_k (by decide))).trans (rI_k (by decide))).trans (rI_k (by decide))).trans (rI_k (by decide))).trans (rI_k (by decide))) ?_
  refine q_putI (pc := 53) dX1_copyFrom_53 lk_RX1_30 hc0 ?_
  exact q_retV (pc := 56) dX1_copyFrom_56 rfl F
theorem g_X4_copyFrom {c0 : Nat} {c1 : Nat} {h : zHp} {Q : zHp → Prop} (hc0 : ly c0 = 5) (hc1 : ly c1 = 5) (G : zG h) (F : Q (wI (wI (wI (wI h c0 0 (rI h c1 0)) c0 1 (rI h c1 1)) c0 2 (rI h c1 2)) c0 3 (rI h c1 3))) : zcV M_X4_copyFrom [.ref c0, .ref c1] h Q := by
  show zw zNT zNT M_X4_copyFrom 0 [some (.ref c0), some (.ref c1)] [] h _
  refine z_aload_n (pc := 0) dX4_copyFrom_0 rfl rfl ?_
  refine z_aload_n (pc := 1) dX4_copyFrom_1 rfl rfl ?_
  refine q_getI (pc := 2) (v := rI h c1 0) dX4_copyFrom_2 lk_RX4_7 hc1 rfl ?_
  refine z_aload_n (pc := 5) dX4_copyFrom_5 rfl rfl ?_
  refine q_getI (pc := 6) (v := rI h c1 1) dX4_copyFrom_6 lk_RX4_13 hc1 rfl ?_
  refine z_aload_n (pc := 9) dX4_copyFrom_9 rfl rfl ?_
  refine q_getI (pc := 10) (v := rI h c1 2) dX4_copyFrom_10 lk_RX4_16 hc1 rfl ?_
  refine z_aload_n (pc := 13) dX4_copyFrom_13 rfl rfl ?_
  refine q_getI (pc := 14) (v := rI h c1 3) dX4_copyFrom_14 lk_RX4_19 hc1 rfl ?_
  refine q_invV (pc := 17) (As := [.int (rI h c1 0), .int (rI h c1 1), .int (rI h c1 2), .int (rI h c1 3)]) (st := []) dX4_copyFrom_17 ok_X4_become ml_RX4_22 iv_X4_become pa_X4_become ⟨Nat.le_of_ble_eq_true rfl, Nat.le_of_ble_eq_true rfl⟩ hc0 (q_pV (s_X4_become G hc0) ?_)
  exact q_retV (pc := 20) dX4_copyFrom_20 rfl F
theorem g_X7_copyFrom {c0 : Nat} {c1 : Nat} {h : zHp} {Q : zHp → Prop} (hc0 : ly c0 = 8) (hc1 : ly c1 = 8) (G : zG h) (F : Q (wI (wI (wI (wI (wI (wI (wI (wI (wI h c0 0 (rI h c1 0)) c0 1 (rI h c1 1)) c0 2 (rI h c1 2)) c0 3 (rI h c1 3)) c0 4 (rI h c1 4)) c0 5 0) c0 6 0) c0 5 (rI (wI (wI (wI (wI (wI (wI h c0 0 (rI h c1 0)) c0 1 (rI h c1 1)) c0 2 (rI h c1 2)) c0 3 (rI h c1 3)) c0 4 (rI h c1 4)) c0 5 0) c1 5)) c0 6 (rI (wI (wI (wI (wI (wI (wI (wI h c0 0 (rI h c1 0)) c0 1 (rI h c1 1)) c0 2 (rI h c1 2)) c0 3 (rI h c1 3)) c0 4 (rI h c1 4)) c0 5 0) c0 6 0) c1 6))) : zcV M_X7_copyFrom [.ref c0, .ref c1] h Q := by
  show zw zNT zNT M_X7_copyFrom 0 [some (.ref c0), some (.ref c1)] [] h _
  refine z_aload_n (pc := 0) dX7_copyFrom_0 rfl rfl ?_
  refine z_aload_n (pc := 1) dX7_copyFrom_1 rfl rfl ?_
  refine q_getI (pc := 2) (v := rI h c1 0) dX7_copyFrom_2 lk_RX7_9 hc1 rfl ?_
  refine z_aload_n (pc := 5) dX7_copyFrom_5 rfl rfl ?_
  refine q_getI (pc := 6) (v := rI h c1 1) dX7_copyFrom_6 lk_RX7_15 hc1 rfl ?_
  refine z_aload_n (pc := 9) dX7_copyFrom_9 rfl rfl ?_
  refine q_getI (pc := 10) (v := rI h c1 2) dX7_copyFrom_10 lk_RX7_18 hc1 rfl ?_
  refine z_aload_n (pc := 13) dX7_copyFrom_13 rfl rfl ?_
  refine q_getI (pc := 14) (v := rI h c1 3) dX7_copyFrom_14 lk_RX7_21 hc1 rfl ?_
  refine z_aload_n (pc := 17) dX7_copyFrom_17 rfl rfl ?_
  refine q_getI (pc := 18) (v := rI h c1 4) dX7_copyFrom_18 lk_RX7_24 hc1 rfl ?_
  refine q_invV (pc := 21) (As := [.int (rI h c1 0), .int (rI h c1 1), .int (rI h c1 2), .int (rI h c1 3), .int (rI h c1 4)]) (st := []) dX7_copyFrom_21 ok_X7_become ml_RX7_33 iv_X7_become pa_X7_become ⟨Nat.le_of_ble_eq_true rfl, Nat.le_of_ble_eq_true rfl⟩ hc0 (q_pV (s_X7_become G hc0) ?_)
  refine z_aload_n (pc := 24) dX7_copyFrom_24 rfl rfl ?_
  refine z_aload_n (pc := 25) dX7_copyFrom_25 rfl rfl ?_
  refine q_getI (pc := 26) (v := rI (wI (wI (wI (wI (wI (wI h c0 0 (rI h c1 0)) c0 1 (rI h c1 1)) c0 2 (rI h c1 2)) c0 3 (rI h c1 3)) c0 4 (rI h c1 4)) c0 5 0) c1 5) dX7_copyFrom_26 lk_RX7_27 hc1 (rI_k (by decide)) ?_
  refine q_putI (pc := 29) dX7_copyFrom_29 lk_RX7_27 hc0 ?_
  refine z_aload_n (pc := 32) dX7_copyFrom_32 rfl rfl ?_
  refine z_aload_n (pc := 33) dX7_copyFrom_33 rfl rfl ?_
  refine q_getI (pc := 34) (v := rI (wI (wI (wI (wI (wI (wI (wI h c0 0 (rI h c1 0)) c0 1 (rI h c1 1)) c0 2 (rI h c1 2)) c0 3 (rI h c1 3)) c0 4 (rI h c1 4)) c0 5 0) c0 6 0) c1 6) dX7_copyFrom_34 lk_RX7_30 hc1 (rI_k (by decide)) ?_
  refine q_putI (pc := 37) dX7_copyFrom_37 lk_RX7_30 hc0 ?_
  exact q_retV (pc := 40) dX7_copyFrom_40 rfl F
theorem g_X8_copyFrom {c0 : Nat} {c1 : Nat} {h : zHp} {Q : zHp → Prop} (hc0 : zW c0) (hc1 : zW c1) (G : zG h) (F : zlV M_X8_copyFrom 34 [some (.ref c0), some (.ref c1), some (.int 0)] [] (wI (wI (wI (wI h c0 1 (rI h c1 1)) c0 3 (rI h c1 3)) c0 5 (rI h c1 5)) c0 7 (rI h c1 7)) Q) : zcV M_X8_copyFrom [.ref c0, .ref c1] h Q := by
  show zw zNT zNT M_X8_copyFrom 0 [some (.ref c0), some (.ref c1), none] [] h _
  refine z_aload_n (pc := 0) dX8_copyFrom_0 rfl rfl ?_
  refine z_aload_n (pc := 1) dX8_copyFrom_1 rfl rfl ?_
  refine q_getI (pc := 2) (v := rI h c1 1) dX8_copyFrom_2 lk_RX8_47 (lyW0 hc1) rfl ?_
  refine q_putI (pc := 5) dX8_copyFrom_5 lk_RX8_47 (lyW0 hc0) ?_
  refine z_aload_n (pc := 8) dX8_copyFrom_8 rfl rfl ?_
  refine z_aload_n (pc := 9) dX8_copyFrom_9 rfl rfl ?_
  refine q_getI (pc := 10) (v := rI h c1 3) dX8_copyFrom_10 lk_RX8_50 (lyW0 hc1) (rI_k (by decide)) ?_
  refine q_putI (pc := 13) dX8_copyFrom_13 lk_RX8_50 (lyW0 hc0) ?_
  refine z_aload_n (pc := 16) dX8_copyFrom_16 rfl rfl ?_
  refine z_aload_n (pc := 17) dX8_copyFrom_17 rfl rfl ?_
  refine q_getI (pc := 18) (v := rI h c1 5) dX8_copyFrom_18 lk_RX8_53 (lyW0 hc1) ((rI_k (by decide)).trans (rI_k (by decide))) ?_
  refine q_putI (pc := 21) dX8_copyFrom_21 lk_RX8_53 (lyW0 hc0) ?_
  refine z_aload_n (pc := 24) dX8_copyFrom_24 rfl rfl ?_
  refine z_aload_n (pc := 25) dX8_copyFrom_25 rfl rfl ?_
  refine q_getI (pc := 26) (v := rI h c1 7) dX8_copyFrom_26 lk_RX8_56 (lyW0 hc1) (((rI_k (by decide)).trans (rI_k (by decide))).trans (rI_k (by decide))) ?_
  refine q_putI (pc := 29) dX8_copyFrom_29 lk_RX8_56 (lyW0 hc0) ?_
  refine z_iconst (pc := 32) (v := 0) dX8_copyFrom_32 (by decide) ?_
  refine z_istore_n (pc := 33) (ls' := [some (.ref c0), some (.ref c1), some (.int 0)]) dX8_copyFrom_33 rfl (by decide) rfl ?_
  exact F
theorem g_X8_copyFrom_34 {c0 : Nat} {c1 : Nat} {x2 : Int32} {h : zHp} {Q : zHp → Prop} (hc0 : zW c0) (hc1 : zW c1) (G : zG h) (F : (rI h c0 1 ≤ x2 → (zlV M_X8_copyFrom 71 [some (.ref c0), some (.ref c1), some (.int 0)] [] h Q)) ∧ (¬ (rI h c0 1 ≤ x2) → ((8 ≤ x2 → (zlV M_X8_copyFrom 71 [some (.ref c0), some (.ref c1), some (.int 0)] [] h Q)) ∧ (¬ (8 ≤ x2) → (vp_in x2 8 ∧ (zcV M_X6_copyFrom [.ref (c0 + 6 + (Int32.toNatClampNeg x2)), .ref (c1 + 6 + (Int32.toNatClampNeg x2))] h (fun h1 => zG h1 ∧ (zlV M_X8_copyFrom 34 [some (.ref c0), some (.ref c1), some (.int (x2 + 1))] [] h1 Q)))))))) : zlV M_X8_copyFrom 34 [some (.ref c0), some (.ref c1), some (.int x2)] [] h Q := by
  refine z_iload_n (pc := 34) dX8_copyFrom_34 rfl rfl ?_
  refine z_aload_n (pc := 35) dX8_copyFrom_35 rfl rfl ?_
  refine q_getI (pc := 36) (v := rI h c0 1) dX8_copyFrom_36 lk_RX8_47 (lyW0 hc0) rfl ?_
  refine z_icmp_ge (pc := 39) (tgt := 69) dX8_copyFrom_39 (by decide) (fun k4 => ?_) (fun k4 => ?_)
  · replace F := F.1 k4
    refine z_iconst (pc := 69) (v := 0) dX8_copyFrom_69 (by decide) ?_
    refine z_istore_n (pc := 70) (ls' := [some (.ref c0), some (.ref c1), some (.int 0)]) dX8_copyFrom_70 rfl (by decide) rfl ?_
    exact F
  · replace F := F.2 k4
    refine z_iload_n (pc := 42) dX8_copyFrom_42 rfl rfl ?_
    refine z_bipush (pc := 43) (v := 8) dX8_copyFrom_43 (by decide) ?_
    refine z_icmp_ge (pc := 45) (tgt := 69) dX8_copyFrom_45 (by decide) (fun k3 => ?_) (fun k3 => ?_)
    · replace F := F.1 k3
      refine z_iconst (pc := 69) (v := 0) dX8_copyFrom_69 (by decide) ?_
      refine z_istore_n (pc := 70) (ls' := [some (.ref c0), some (.ref c1), some (.int 0)]) dX8_copyFrom_70 rfl (by decide) rfl ?_
      exact F
    · replace F := F.2 k3
      refine z_aload_n (pc := 48) dX8_copyFrom_48 rfl rfl ?_
      refine q_getR (pc := 49) (i := c0 + 1) dX8_copyFrom_49 lk_RX8_11 (lyW0 hc0) (grW0 G hc0) ?_
      refine z_iload_n (pc := 52) dX8_copyFrom_52 rfl rfl ?_
      obtain ⟨k1, F⟩ := F
      refine q_aald (pc := 53) (j := (Int32.toNatClampNeg x2)) (r := c0 + 6 + (Int32.toNatClampNeg x2)) (t := 0) dX8_copyFrom_53 (lyW1 hc0) (zvn (lnW1 hc0) k1) rfl (grT (B := c0) G hc0 (zvi k1)) ?_
      refine z_aload_n (pc := 54) dX8_copyFrom_54 rfl rfl ?_
      refine q_getR (pc := 55) (i := c1 + 1) dX8_copyFrom_55 lk_RX8_11 (lyW0 hc1) (grW0 G hc1) ?_
      refine z_iload_n (pc := 58) dX8_copyFrom_58 rfl rfl ?_
      refine q_aald (pc := 59) (j := (Int32.toNatClampNeg x2)) (r := c1 + 6 + (Int32.toNatClampNeg x2)) (t := 0) dX8_copyFrom_59 (lyW1 hc1) (zvn (lnW1 hc1) k1) rfl (grT (B := c1) G hc1 (zvi k1)) ?_
      refine q_invV (pc := 60) (As := [.ref (c1 + 6 + (Int32.toNatClampNeg x2))]) (st := []) dX8_copyFrom_60 ok_X6_copyFrom ml_RX8_62 iv_X6_copyFrom pa_X6_copyFrom ⟨Nat.le_of_ble_eq_true rfl, Nat.le_of_ble_eq_true rfl⟩ (lyT (B := c0) hc0 (zvi k1)) (q_kV F (fun h1 F => ?_))
      obtain ⟨G1, F⟩ := F
      refine z_iinc (pc := 63) (v := x2 + 1) (ls' := [some (.ref c0), some (.ref c1), some (.int (x2 + 1))]) dX8_copyFrom_63 (by decide) rfl rfl rfl ?_
      refine z_goto (pc := 66) (tgt := 34) dX8_copyFrom_66 (by decide) ?_
      exact F
theorem g_X8_copyFrom_71 {c0 : Nat} {c1 : Nat} {x2 : Int32} {h : zHp} {Q : zHp → Prop} (hc0 : zW c0) (hc1 : zW c1) (G : zG h) (F : (rI h c0 3 ≤ x2 → (zlV M_X8_copyFrom 108 [some (.ref c0), some (.ref c1), some (.int 0)] [] h Q)) ∧ (¬ (rI h c0 3 ≤ x2) → ((10 ≤ x2 → (zlV M_X8_copyFrom 108 [some (.ref c0), some (.ref c1), some (.int 0)] [] h Q)) ∧ (¬ (10 ≤ x2) → (vp_in x2 10 ∧ (zRef h (c0 + 2) ((Int32.toNatClampNeg x2)) 2 ∧ (zRef h (c1 + 2) ((Int32.toNatClampNeg x2)) 2 ∧ (zcV M_X1_copyFrom [.ref (rG h (c0 + 2) ((Int32.toNatClampNeg x2))), .ref (rG h (c1 + 2) ((Int32.toNatClampNeg x2)))] h (fun h1 => zG h1 ∧ (zlV M_X8_copyFrom 71 [some (.ref c0), some (.ref c1), some (.int (x2 + 1))] [] h1 Q)))))))))) : zlV M_X8_copyFrom 71 [some (.ref c0), some (.ref c1), some (.int x2)] [] h Q := by
  refine z_iload_n (pc := 71) dX8_copyFrom_71 rfl rfl ?_
  refine z_aload_n (pc := 72) dX8_copyFrom_72 rfl rfl ?_
  refine q_getI (pc := 73) (v := rI h c0 3) dX8_copyFrom_73 lk_RX8_50 (lyW0 hc0) rfl ?_
  refine z_icmp_ge (pc := 76) (tgt := 106) dX8_copyFrom_76 (by decide) (fun k6 => ?_) (fun k6 => ?_)
  · replace F := F.1 k6
    refine z_iconst (pc := 106) (v := 0) dX8_copyFrom_106 (by decide) ?_
    refine z_istore_n (pc := 107) (ls' := [some (.ref c0), some (.ref c1), some (.int 0)]) dX8_copyFrom_107 rfl (by decide) rfl ?_
    exact F
  · replace F := F.2 k6
    refine z_iload_n (pc := 79) dX8_copyFrom_79 rfl rfl ?_
    refine z_bipush (pc := 80) (v := 10) dX8_copyFrom_80 (by decide) ?_
    refine z_icmp_ge (pc := 82) (tgt := 106) dX8_copyFrom_82 (by decide) (fun k5 => ?_) (fun k5 => ?_)
    · replace F := F.1 k5
      refine z_iconst (pc := 106) (v := 0) dX8_copyFrom_106 (by decide) ?_
      refine z_istore_n (pc := 107) (ls' := [some (.ref c0), some (.ref c1), some (.int 0)]) dX8_copyFrom_107 rfl (by decide) rfl ?_
      exact F
    · replace F := F.2 k5
      refine z_aload_n (pc := 85) dX8_copyFrom_85 rfl rfl ?_
      refine q_getR (pc := 86) (i := c0 + 2) dX8_copyFrom_86 lk_RX8_19 (lyW0 hc0) (grW2 G hc0) ?_
      refine z_iload_n (pc := 89) dX8_copyFrom_89 rfl rfl ?_
      obtain ⟨k1, F⟩ := F
      obtain ⟨k2, F⟩ := F
      refine q_aald (pc := 90) (j := (Int32.toNatClampNeg x2)) (r := rG h (c0 + 2) ((Int32.toNatClampNeg x2))) (t := 1) dX8_copyFrom_90 (lyW2 hc0) (zvn (lnW2 hc0) k1) rfl k2.1 ?_
      refine z_aload_n (pc := 91) dX8_copyFrom_91 rfl rfl ?_
      refine q_getR (pc := 92) (i := c1 + 2) dX8_copyFrom_92 lk_RX8_19 (lyW0 hc1) (grW2 G hc1) ?_
      refine z_iload_n (pc := 95) dX8_copyFrom_95 rfl rfl ?_
      obtain ⟨k3, F⟩ := F
      refine q_aald (pc := 96) (j := (Int32.toNatClampNeg x2)) (r := rG h (c1 + 2) ((Int32.toNatClampNeg x2))) (t := 1) dX8_copyFrom_96 (lyW2 hc1) (zvn (lnW2 hc1) k1) rfl k3.1 ?_
      refine q_invV (pc := 97) (As := [.ref (rG h (c1 + 2) ((Int32.toNatClampNeg x2)))]) (st := []) dX8_copyFrom_97 ok_X1_copyFrom ml_RX8_66 iv_X1_copyFrom pa_X1_copyFrom ⟨Nat.le_of_ble_eq_true rfl, Nat.le_of_ble_eq_true rfl⟩ k2.2 (q_kV F (fun h1 F => ?_))
      obtain ⟨G1, F⟩ := F
      refine z_iinc (pc := 100) (v := x2 + 1) (ls' := [some (.ref c0), some (.ref c1), some (.int (x2 + 1))]) dX8_copyFrom_100 (by decide) rfl rfl rfl ?_
      refine z_goto (pc := 103) (tgt := 71) dX8_copyFrom_103 (by decide) ?_
      exact F
theorem g_X8_copyFrom_108 {c0 : Nat} {c1 : Nat} {x2 : Int32} {h : zHp} {Q : zHp → Prop} (hc0 : zW c0) (hc1 : zW c1) (G : zG h) (F : (rI h c0 5 ≤ x2 → (zlV M_X8_copyFrom 145 [some (.ref c0), some (.ref c1), some (.int 0)] [] h Q)) ∧ (¬ (rI h c0 5 ≤ x2) → ((8 ≤ x2 → (zlV M_X8_copyFrom 145 [some (.ref c0), some (.ref c1), some (.int 0)] [] h Q)) ∧ (¬ (8 ≤ x2) → (vp_in x2 8 ∧ (zRef h (c0 + 3) ((Int32.toNatClampNeg x2)) 5 ∧ (zRef h (c1 + 3) ((Int32.toNatClampNeg x2)) 5 ∧ (zcV M_X4_copyFrom [.ref (rG h (c0 + 3) ((Int32.toNatClampNeg x2))), .ref (rG h (c1 + 3) ((Int32.toNatClampNeg x2)))] h (fun h1 => zG h1 ∧ (zlV M_X8_copyFrom 108 [some (.ref c0), some (.ref c1), some (.int (x2 + 1))] [] h1 Q)))))))))) : zlV M_X8_copyFrom 108 [some (.ref c0), some (.ref c1), some (.int x2)] [] h Q := by
  refine z_iload_n (pc := 108) dX8_copyFrom_108 rfl rfl ?_
  refine z_aload_n (pc := 109) dX8_copyFrom_109 rfl rfl ?_
  refine q_getI (pc := 110) (v := rI h c0 5) dX8_copyFrom_110 lk_RX8_53 (lyW0 hc0) rfl ?_
  refine z_icmp_ge (pc := 113) (tgt := 143) dX8_copyFrom_113 (by decide) (fun k6 => ?_) (fun k6 => ?_)
  · replace F := F.1 k6
    refine z_iconst (pc := 143) (v := 0) dX8_copyFrom_143 (by decide) ?_
    refine z_istore_n (pc := 144) (ls' := [some (.ref c0), some (.ref c1), some (.int 0)]) dX8_copyFrom_144 rfl (by decide) rfl ?_
    exact F
  · replace F := F.2 k6
    refine z_iload_n (pc := 116) dX8_copyFrom_116 rfl rfl ?_
    refine z_bipush (pc := 117) (v := 8) dX8_copyFrom_117 (by decide) ?_
    refine z_icmp_ge (pc := 119) (tgt := 143) dX8_copyFrom_119 (by decide) (fun k5 => ?_) (fun k5 => ?_)
    · replace F := F.1 k5
      refine z_iconst (pc := 143) (v := 0) dX8_copyFrom_143 (by decide) ?_
      refine z_istore_n (pc := 144) (ls' := [some (.ref c0), some (.ref c1), some (.int 0)]) dX8_copyFrom_144 rfl (by decide) rfl ?_
      exact F
    · replace F := F.2 k5
      refine z_aload_n (pc := 122) dX8_copyFrom_122 rfl rfl ?_
      refine q_getR (pc := 123) (i := c0 + 3) dX8_copyFrom_123 lk_RX8_25 (lyW0 hc0) (grW4 G hc0) ?_
      refine z_iload_n (pc := 126) dX8_copyFrom_126 rfl rfl ?_
      obtain ⟨k1, F⟩ := F
      obtain ⟨k2, F⟩ := F
      refine q_aald (pc := 127) (j := (Int32.toNatClampNeg x2)) (r := rG h (c0 + 3) ((Int32.toNatClampNeg x2))) (t := 2) dX8_copyFrom_127 (lyW3 hc0) (zvn (lnW3 hc0) k1) rfl k2.1 ?_
      refine z_aload_n (pc := 128) dX8_copyFrom_128 rfl rfl ?_
      refine q_getR (pc := 129) (i := c1 + 3) dX8_copyFrom_129 lk_RX8_25 (lyW0 hc1) (grW4 G hc1) ?_
      refine z_iload_n (pc := 132) dX8_copyFrom_132 rfl rfl ?_
      obtain ⟨k3, F⟩ := F
      refine q_aald (pc := 133) (j := (Int32.toNatClampNeg x2)) (r := rG h (c1 + 3) ((Int32.toNatClampNeg x2))) (t := 2) dX8_copyFrom_133 (lyW3 hc1) (zvn (lnW3 hc1) k1) rfl k3.1 ?_
      refine q_invV (pc := 134) (As := [.ref (rG h (c1 + 3) ((Int32.toNatClampNeg x2)))]) (st := []) dX8_copyFrom_134 ok_X4_copyFrom ml_RX8_69 iv_X4_copyFrom pa_X4_copyFrom ⟨Nat.le_of_ble_eq_true rfl, Nat.le_of_ble_eq_true rfl⟩ k2.2 (q_kV F (fun h1 F => ?_))
      obtain ⟨G1, F⟩ := F
      refine z_iinc (pc := 137) (v := x2 + 1) (ls' := [some (.ref c0), some (.ref c1), some (.int (x2 + 1))]) dX8_copyFrom_137 (by decide) rfl rfl rfl ?_
      refine z_goto (pc := 140) (tgt := 108) dX8_copyFrom_140 (by decide) ?_
      exact F
theorem g_X8_copyFrom_145 {c0 : Nat} {c1 : Nat} {x2 : Int32} {h : zHp} {Q : zHp → Prop} (hc0 : zW c0) (hc1 : zW c1) (G : zG h) (F : (rI h c0 7 ≤ x2 → (zlV M_X8_copyFrom 180 [some (.ref c0), some (.ref c1), some (.int x2)] [] h Q)) ∧ (¬ (rI h c0 7 ≤ x2) → ((8 ≤ x2 → (zlV M_X8_copyFrom 180 [some (.ref c0), some (.ref c1), some (.int x2)] [] h Q)) ∧ (¬ (8 ≤ x2) → (vp_in x2 8 ∧ (zRef h (c0 + 4) ((Int32.toNatClampNeg x2)) 8 ∧ (zRef h (c1 + 4) ((Int32.toNatClampNeg x2)) 8 ∧ (zcV M_X7_copyFrom [.ref (rG h (c0 + 4) ((Int32.toNatClampNeg x2))), .ref (rG h (c1 + 4) ((Int32.toNatClampNeg x2)))] h (fun h1 => zG h1 ∧ (zlV M_X8_copyFrom 145 [some (.ref c0), some (.ref c1), some (.int (x2 + 1))] [] h1 Q)))))))))) : zlV M_X8_copyFrom 145 [some (.ref c0), some (.ref c1), some (.int x2)] [] h Q := by
  refine z_iload_n (pc := 145) dX8_copyFrom_145 rfl rfl ?_
  refine z_aload_n (pc := 146) dX8_copyFrom_146 rfl rfl ?_
  refine q_getI (pc := 147) (v := rI h c0 7) dX8_copyFrom_147 lk_RX8_56 (lyW0 hc0) rfl ?_
  refine z_icmp_ge (pc := 150) (tgt := 180) dX8_copyFrom_150 (by decide) (fun k6 => ?_) (fun k6 => ?_)
  · replace F := F.1 k6
    exact F
  · replace F := F.2 k6
    refine z_iload_n (pc := 153) dX8_copyFrom_153 rfl rfl ?_
    refine z_bipush (pc := 154) (v := 8) dX8_copyFrom_154 (by decide) ?_
    refine z_icmp_ge (pc := 156) (tgt := 180) dX8_copyFrom_156 (by decide) (fun k5 => ?_) (fun k5 => ?_)
    · replace F := F.1 k5
      exact F
    · replace F := F.2 k5
      refine z_aload_n (pc := 159) dX8_copyFrom_159 rfl rfl ?_
      refine q_getR (pc := 160) (i := c0 + 4) dX8_copyFrom_160 lk_RX8_31 (lyW0 hc0) (grW6 G hc0) ?_
      refine z_iload_n (pc := 163) dX8_copyFrom_163 rfl rfl ?_
      obtain ⟨k1, F⟩ := F
      obtain ⟨k2, F⟩ := F
      refine q_aald (pc := 164) (j := (Int32.toNatClampNeg x2)) (r := rG h (c0 + 4) ((Int32.toNatClampNeg x2))) (t := 3) dX8_copyFrom_164 (lyW4 hc0) (zvn (lnW4 hc0) k1) rfl k2.1 ?_
      refine z_aload_n (pc := 165) dX8_copyFrom_165 rfl rfl ?_
      refine q_getR (pc := 166) (i := c1 + 4) dX8_copyFrom_166 lk_RX8_31 (lyW0 hc1) (grW6 G hc1) ?_
      refine z_iload_n (pc := 169) dX8_copyFrom_169 rfl rfl ?_
      obtain ⟨k3, F⟩ := F
      refine q_aald (pc := 170) (j := (Int32.toNatClampNeg x2)) (r := rG h (c1 + 4) ((Int32.toNatClampNeg x2))) (t := 3) dX8_copyFrom_170 (lyW4 hc1) (zvn (lnW4 hc1) k1) rfl k3.1 ?_
      refine q_invV (pc := 171) (As := [.ref (rG h (c1 + 4) ((Int32.toNatClampNeg x2)))]) (st := []) dX8_copyFrom_171 ok_X7_copyFrom ml_RX8_72 iv_X7_copyFrom pa_X7_copyFrom ⟨Nat.le_of_ble_eq_true rfl, Nat.le_of_ble_eq_true rfl⟩ k2.2 (q_kV F (fun h1 F => ?_))
      obtain ⟨G1, F⟩ := F
      refine z_iinc (pc := 174) (v := x2 + 1) (ls' := [some (.ref c0), some (.ref c1), some (.int (x2 + 1))]) dX8_copyFrom_174 (by decide) rfl rfl rfl ?_
      refine z_goto (pc := 177) (tgt := 145) dX8_copyFrom_177 (by decide) ?_
      exact F
theorem g_X8_copyFrom_180 {c0 : Nat} {c1 : Nat} {x2 : Int32} {h : zHp} {Q : zHp → Prop} (hc0 : zW c0) (hc1 : zW c1) (G : zG h) (F : Q (wI (wI (wI (wI h (c0 + 5) 0 (rI h (c1 + 5) 0)) (c0 + 5) 1 (rI h (c1 + 5) 1)) c0 9 (rI h c1 9)) c0 10 (rI h c1 10))) : zlV M_X8_copyFrom 180 [some (.ref c0), some (.ref c1), some (.int x2)] [] h Q := by
  refine z_aload_n (pc := 180) dX8_copyFrom_180 rfl rfl ?_
  refine q_getR (pc := 181) (i := c0 + 5) dX8_copyFrom_181 lk_RX8_35 (lyW0 hc0) (grW8 G hc0) ?_
  refine z_iconst (pc := 184) (v := 0) dX8_copyFrom_184 (by decide) ?_
  refine z_aload_n (pc := 185) dX8_copyFrom_185 rfl rfl ?_
  refine q_getR (pc := 186) (i := c1 + 5) dX8_copyFrom_186 lk_RX8_35 (lyW0 hc1) (grW8 G hc1) ?_
  refine z_iconst (pc := 189) (v := 0) dX8_copyFrom_189 (by decide) ?_
  refine q_iald (pc := 190) (j := 0) (v := rI h (c1 + 5) 0) dX8_copyFrom_190 (lyW5 hc1) (zvl (lnW5 hc1) (by decide)) (by decide) rfl ?_
  refine q_iast (pc := 191) (j := 0) dX8_copyFrom_191 (lyW5 hc0) (zvl (lnW5 hc0) (by decide)) (by decide) ?_
  refine z_aload_n (pc := 192) dX8_copyFrom_192 rfl rfl ?_
  refine q_getR (pc := 193) (i := c0 + 5) dX8_copyFrom_193 lk_RX8_35 (lyW0 hc0) (grW8 G hc0) ?_
  refine z_iconst (pc := 196) (v := 1) dX8_copyFrom_196 (by decide) ?_
  refine z_aload_n (pc := 197) dX8_copyFrom_197 rfl rfl ?_
  refine q_getR (pc := 198) (i := c1 + 5) dX8_copyFrom_198 lk_RX8_35 (lyW0 hc1) (grW8 G hc1) ?_
  refine z_iconst (pc := 201) (v := 1) dX8_copyFrom_201 (by decide) ?_
  refine q_iald (pc := 202) (j := 1) (v := rI h (c1 + 5) 1) dX8_copyFrom_202 (lyW5 hc1) (zvl (lnW5 hc1) (by decide)) (by decide) (rI_k (by decide)) ?_
  refine q_iast (pc := 203) (j := 1) dX8_copyFrom_203 (lyW5 hc0) (zvl (lnW5 hc0) (by decide)) (by decide) ?_
  refine z_aload_n (pc := 204) dX8_copyFrom_204 rfl rfl ?_
  refine z_aload_n (pc := 205) dX8_copyFrom_205 rfl rfl ?_
  refine q_getI (pc := 206) (v := rI h c1 9) dX8_copyFrom_206 lk_RX8_59 (lyW0 hc1) ((rI_k (by decide)).trans (rI_k (by decide))) ?_
  refine q_putI (pc := 209) dX8_copyFrom_209 lk_RX8_59 (lyW0 hc0) ?_
  refine z_aload_n (pc := 212) dX8_copyFrom_212 rfl rfl ?_
  refine z_aload_n (pc := 213) dX8_copyFrom_213 rfl rfl ?_
  refine q_getI (pc := 214) (v := rI h c1 10) dX8_copyFrom_214 lk_RX8_39 (lyW0 hc1) (((rI_k (by decide)).trans (rI_k (by decide))).trans (rI_k (by decide))) ?_
  refine q_putI (pc := 217) dX8_copyFrom_217 lk_RX8_39 (lyW0 hc0) ?_
  exact q_retV (pc := 220) dX8_copyFrom_220 rfl F
theorem s_X6_copyFrom {c d : Nat} {h : zHp} (G : zG h) (hc : ly c = 7) (hd : ly d = 7) (hcd : d ≠ c) (hb : zB (rI h d 5)) : zcV M_X6_copyFrom [.ref c, .ref d] h (fun h' => h'.2 = h.2 ∧ (∀ a, a ≠ c → h'.1 a = h.1 a) ∧ ∀ k, k < 10 → rI h' c k = rI h d k) := by
  refine g_X6_copyFrom hc hd G ⟨hb, rfl, fun a ha => ?_, fun k hk => ?_⟩
  · funext b
    simp [wI, ha]
  · rcases (by omega : k = 0 ∨ k = 1 ∨ k = 2 ∨ k = 3 ∨ k = 4 ∨ k = 5 ∨ k = 6 ∨ k = 7 ∨ k = 8 ∨ k = 9) with z | z | z | z | z | z | z | z | z | z <;> subst z <;> simp [rI, wI, hcd]
theorem s_X1_copyFrom {c d : Nat} {h : zHp} (G : zG h) (hc : ly c = 2) (hd : ly d = 2) (hcd : d ≠ c) : zcV M_X1_copyFrom [.ref c, .ref d] h (fun h' => h'.2 = h.2 ∧ (∀ a, a ≠ c → h'.1 a = h.1 a) ∧ ∀ k, k < 7 → rI h' c k = rI h d k) := by
  refine g_X1_copyFrom hc hd G ⟨rfl, fun a ha => ?_, fun k hk => ?_⟩
  · funext b
    simp [wI, ha]
  · rcases (by omega : k = 0 ∨ k = 1 ∨ k = 2 ∨ k = 3 ∨ k = 4 ∨ k = 5 ∨ k = 6) with z | z | z | z | z | z | z <;> subst z <;> simp [rI, wI, hcd]
theorem s_X4_copyFrom {c d : Nat} {h : zHp} (G : zG h) (hc : ly c = 5) (hd : ly d = 5) (hcd : d ≠ c) : zcV M_X4_copyFrom [.ref c, .ref d] h (fun h' => h'.2 = h.2 ∧ (∀ a, a ≠ c → h'.1 a = h.1 a) ∧ ∀ k, k < 4 → rI h' c k = rI h d k) := by
  refine g_X4_copyFrom hc hd G ⟨rfl, fun a ha => ?_, fun k hk => ?_⟩
  · funext b
    simp [wI, ha]
  · rcases (by omega : k = 0 ∨ k = 1 ∨ k = 2 ∨ k = 3) with z | z | z | z <;> subst z <;> simp [rI, wI, hcd]
theorem s_X7_copyFrom {c d : Nat} {h : zHp} (G : zG h) (hc : ly c = 8) (hd : ly d = 8) (hcd : d ≠ c) : zcV M_X7_copyFrom [.ref c, .ref d] h (fun h' => h'.2 = h.2 ∧ (∀ a, a ≠ c → h'.1 a = h.1 a) ∧ ∀ k, k < 7 → rI h' c k = rI h d k) := by
  refine g_X7_copyFrom hc hd G ⟨rfl, fun a ha => ?_, fun k hk => ?_⟩
  · funext b
    simp [wI, ha]
  · rcases (by omega : k = 0 ∨ k = 1 ∨ k = 2 ∨ k = 3 ∨ k = 4 ∨ k = 5 ∨ k = 6) with z | z | z | z | z | z | z <;> subst z <;> simp [rI, wI, hcd]
/-- only cells of world B have changed -/
def fB (B : Nat) (h h' : zHp) : Prop := h'.2 = h.2 ∧ ∀ a, (a < B ∨ B + 40 ≤ a) → h'.1 a = h.1 a
theorem fB.rf {B : Nat} {h : zHp} : fB B h h := ⟨rfl, fun _ _ => rfl⟩
theorem fB.tr {B : Nat} {h h' h2 : zHp} (a : fB B h h') (b : fB B h' h2) : fB B h h2 := ⟨b.1.trans a.1, fun z hz => (b.2 z hz).trans (a.2 z hz)⟩
theorem zW_ap {B C : Nat} (hB : zW B) (hC : zW C) (ne : B ≠ C) : B + 40 ≤ C ∨ C + 40 ≤ B := by
  rcases hB with rfl | rfl | rfl <;> rcases hC with rfl | rfl | rfl <;> omega
theorem s_X8_copyFrom {B C : Nat} {N : zN} {h : zHp} (G : zG h) (hB : zW B) (hC : zW C) (ne : B ≠ C) (cN : CN N) (hW : WN N) (pB : PW h B) (pC : PW h C) (hR : RW h B N) : zcV M_X8_copyFrom [.ref C, .ref B] h (fun h' => fB C h h' ∧ RW h' C N) := by
  have h8 := cN.1.2
  have h10 := cN.2.1.2
  have r8 := cN.2.2.1.2
  have v8 := cN.2.2.2.2
  have ap := zW_ap hB hC ne
  have rd : ∀ h2, fB C h h2 → ∀ a k, B ≤ a → a < B + 40 → rI h2 a k = rI h a k := fun h2 f a k h1 h3 => by show h2.1 a k = h.1 a k; rw [f.2 a (by omega)]
  have l5 : ∀ h2 x, fB C h h2 → (rI h2 C 1 = N 238 ∧ rI h2 C 3 = N 239 ∧ rI h2 C 5 = N 240 ∧ rI h2 C 7 = N 241) → (∀ t k, t < cT N → k < 10 → rI h2 (C + 6 + t) k = N (10 * t + k)) → (∀ t k, t < cE N → k < 7 → rI h2 (rG h (C + 2) t) k = N (80 + 7 * t + k)) → (∀ t k, t < cR N → k < 4 → rI h2 (rG h (C + 3) t) k = N (150 + 4 * t + k)) → (∀ t k, t < cV N → k < 7 → rI h2 (rG h (C + 4) t) k = N (182 + 7 * t + k)) → zlV M_X8_copyFrom 180 [some (.ref C), some (.ref B), some (.int x)] [] h2 (fun h' => fB C h h' ∧ RW h' C N) := by
    intro h2 x f c dT dE dR dV
    have G2 := zG_of f.1 G
    refine g_X8_copyFrom_180 hC hB G2 ⟨f.tr ⟨rfl, fun a ha => by rw [wI_ne (by omega), wI_ne (by omega), wI_ne (by omega), wI_ne (by omega)]⟩, ?_⟩
    obtain ⟨⟨a1, a2, a3, a4, a5, a6, a7, a8⟩, -⟩ := hR
    have e5 : ∀ q, rI h2 (B + 5) q = rI h (B + 5) q := fun q => rd h2 f _ _ (by omega) (by omega)
    have e0 : ∀ q, rI h2 B q = rI h B q := fun q => rd h2 f _ _ (by omega) (by omega)
    rw [e5, e5, e0, e0, a5, a6, a7, a8]
    refine ⟨⟨by rw [rI_k (by decide), rI_k (by decide), rI_c (by omega), rI_c (by omega)]; exact c.1, by rw [rI_k (by decide), rI_k (by decide), rI_c (by omega), rI_c (by omega)]; exact c.2.1, by rw [rI_k (by decide), rI_k (by decide), rI_c (by omega), rI_c (by omega)]; exact c.2.2.1, by rw [rI_k (by decide), rI_k (by decide), rI_c (by omega), rI_c (by omega)]; exact c.2.2.2, by rw [rI_c (by omega), rI_c (by omega), rI_k (by decide), rI_s], by rw [rI_c (by omega), rI_c (by omega), rI_s], by rw [rI_k (by decide), rI_s], by rw [rI_s]⟩, fun t k h1 h3 => ?_, fun t k h1 h3 => ?_, fun t k h1 h3 => ?_, fun t k h1 h3 => ?_⟩
    · rw [rI_c (by omega), rI_c (by omega), rI_c (by omega), rI_c (by omega)]; exact dT t k h1 h3
    · have pl := pC.1.1 t (by omega)
      change rI _ (rG h2 (C + 2) t) k = _
      rw [rG_of f.1, rI_c (by omega), rI_c (by omega), rI_c (by omega), rI_c (by omega)]; exact dE t k h1 h3
    · have pl := pC.2.1.1 t (by omega)
      change rI _ (rG h2 (C + 3) t) k = _
      rw [rG_of f.1, rI_c (by omega), rI_c (by omega), rI_c (by omega), rI_c (by omega)]; exact dR t k h1 h3
    · have pl := pC.2.2.1 t (by omega)
      change rI _ (rG h2 (C + 4) t) k = _
      rw [rG_of f.1, rI_c (by omega), rI_c (by omega), rI_c (by omega), rI_c (by omega)]; exact dV t k h1 h3
  have l4 : ∀ (m j : Nat) (h2 : zHp), j + m = cV N → fB C h h2 → (rI h2 C 1 = N 238 ∧ rI h2 C 3 = N 239 ∧ rI h2 C 5 = N 240 ∧ rI h2 C 7 = N 241) → (∀ t k, t < cT N → k < 10 → rI h2 (C + 6 + t) k = N (10 * t + k)) → (∀ t k, t < cE N → k < 7 → rI h2 (rG h (C + 2) t) k = N (80 + 7 * t + k)) → (∀ t k, t < cR N → k < 4 → rI h2 (rG h (C + 3) t) k = N (150 + 4 * t + k)) → (∀ t k, t < j → k < 7 → rI h2 (rG h (C + 4) t) k = N (182 + 7 * t + k)) → zlV M_X8_copyFrom 145 [some (.ref C), some (.ref B), some (.int (nI j))] [] h2 (fun h' => fB C h h' ∧ RW h' C N) := by
    intro m
    induction m with
    | zero =>
      intro j h2 hj f c dT dE dR d
      have : j = cV N := by omega
      subst this
      have G2 := zG_of f.1 G
      have go := l5 h2 (nI (cV N)) f c dT dE dR d
      refine g_X8_copyFrom_145 hC hB G2 ⟨fun _ => go, fun z => absurd (by rw [c.2.2.2, cN.2.2.2.1]; exact Int32.le_refl _) z⟩
    | succ m ih =>
      intro j h2 hj f c dT dE dR d
      have hjn : j < cV N := by omega
      have G2 := zG_of f.1 G
      refine g_X8_copyFrom_145 hC hB G2 ⟨fun z => absurd z (by rw [c.2.2.2, cN.2.2.2.1]; exact nI_ge hjn (by omega)), fun _ => ⟨fun z => absurd z (nI_ge (b := 8) (by omega) (by omega)), fun _ => ⟨vp_in_nI (by omega) (by omega), ?_⟩⟩⟩
      rw [nI_clamp (by omega)]
      have lc := pC.v hC (show j < 8 by omega)
      have lb := pB.v hB (show j < 8 by omega)
      have qc := pC.2.2.1 j (by omega)
      have qb := pB.2.2.1 j (by omega)
      have ec : rG h2 (C + 4) j = rG h (C + 4) j := rG_of f.1 _ _
      have eb : rG h2 (B + 4) j = rG h (B + 4) j := rG_of f.1 _ _
      have rc : zRef h2 (C + 4) j 8 := ⟨by rw [ec]; show h2.2 _ _ = _; rw [f.1]; exact lc.1, by rw [ec]; exact lc.2⟩
      have rb : zRef h2 (B + 4) j 8 := ⟨by rw [eb]; show h2.2 _ _ = _; rw [f.1]; exact lb.1, by rw [eb]; exact lb.2⟩
      refine ⟨rc, rb, ?_⟩
      rw [ec, eb]
      refine zcV_then (s_X7_copyFrom G2 lc.2 lb.2 (by omega)) (fun h3 hh => ⟨zG_of (hh.1.trans f.1) G, ?_⟩)
      obtain ⟨g1, g2, g3⟩ := hh
      rw [nI_1]
      refine ih (j + 1) h3 (by omega) (f.tr ⟨g1, fun a ha => g2 a (by omega)⟩) ?_ ?_ ?_ ?_ (fun t k h1 h3' => ?_)
      · have e0 : ∀ q, rI h3 C q = rI h2 C q := fun q => by show h3.1 C q = h2.1 C q; rw [g2 C (by omega)]
        rw [e0, e0, e0, e0]; exact c
      · intro t k h1 h3'
        show h3.1 _ k = _
        rw [g2 _ (by omega)]
        exact dT t k h1 h3'
      · intro t k h1 h3'
        have qt := pC.1.1 t (by omega)
        show h3.1 _ k = _
        rw [g2 _ (by omega)]
        exact dE t k h1 h3'
      · intro t k h1 h3'
        have qt := pC.2.1.1 t (by omega)
        show h3.1 _ k = _
        rw [g2 _ (by omega)]
        exact dR t k h1 h3'
      · by_cases z : t = j
        · subst z
          rw [g3 k h3', rd h2 f _ _ (by omega) (by omega)]
          exact hR.2.2.2.2 t k hjn h3'
        · have nz : rG h (C + 4) t ≠ rG h (C + 4) j := fun y => z (pC.2.2.2 t j (by omega) (by omega) y)
          show h3.1 _ k = _
          rw [g2 _ nz]
          exact d t k (by omega) h3'
  have l3 : ∀ (m j : Nat) (h2 : zHp), j + m = cR N → fB C h h2 → (rI h2 C 1 = N 238 ∧ rI h2 C 3 = N 239 ∧ rI h2 C 5 = N 240 ∧ rI h2 C 7 = N 241) → (∀ t k, t < cT N → k < 10 → rI h2 (C + 6 + t) k = N (10 * t + k)) → (∀ t k, t < cE N → k < 7 → rI h2 (rG h (C + 2) t) k = N (80 + 7 * t + k)) → (∀ t k, t < j → k < 4 → rI h2 (rG h (C + 3) t) k = N (150 + 4 * t + k)) → zlV M_X8_copyFrom 108 [some (.ref C), some (.ref B), some (.int (nI j))] [] h2 (fun h' => fB C h h' ∧ RW h' C N) := by
    intro m
    induction m with
    | zero =>
      intro j h2 hj f c dT dE d
      have : j = cR N := by omega
      subst this
      have G2 := zG_of f.1 G
      have go := l4 (cV N) 0 h2 (by omega) f c dT dE d (fun t k h1 _ => by omega)
      refine g_X8_copyFrom_108 hC hB G2 ⟨fun _ => go, fun z => absurd (by rw [c.2.2.1, cN.2.2.1.1]; exact Int32.le_refl _) z⟩
    | succ m ih =>
      intro j h2 hj f c dT dE d
      have hjn : j < cR N := by omega
      have G2 := zG_of f.1 G
      refine g_X8_copyFrom_108 hC hB G2 ⟨fun z => absurd z (by rw [c.2.2.1, cN.2.2.1.1]; exact nI_ge hjn (by omega)), fun _ => ⟨fun z => absurd z (nI_ge (b := 8) (by omega) (by omega)), fun _ => ⟨vp_in_nI (by omega) (by omega), ?_⟩⟩⟩
      rw [nI_clamp (by omega)]
      have lc := pC.r hC (show j < 8 by omega)
      have lb := pB.r hB (show j < 8 by omega)
      have qc := pC.2.1.1 j (by omega)
      have qb := pB.2.1.1 j (by omega)
      have ec : rG h2 (C + 3) j = rG h (C + 3) j := rG_of f.1 _ _
      have eb : rG h2 (B + 3) j = rG h (B + 3) j := rG_of f.1 _ _
      have rc : zRef h2 (C + 3) j 5 := ⟨by rw [ec]; show h2.2 _ _ = _; rw [f.1]; exact lc.1, by rw [ec]; exact lc.2⟩
      have rb : zRef h2 (B + 3) j 5 := ⟨by rw [eb]; show h2.2 _ _ = _; rw [f.1]; exact lb.1, by rw [eb]; exact lb.2⟩
      refine ⟨rc, rb, ?_⟩
      rw [ec, eb]
      refine zcV_then (s_X4_copyFrom G2 lc.2 lb.2 (by omega)) (fun h3 hh => ⟨zG_of (hh.1.trans f.1) G, ?_⟩)
      obtain ⟨g1, g2, g3⟩ := hh
      rw [nI_1]
      refine ih (j + 1) h3 (by omega) (f.tr ⟨g1, fun a ha => g2 a (by omega)⟩) ?_ ?_ ?_ (fun t k h1 h3' => ?_)
      · have e0 : ∀ q, rI h3 C q = rI h2 C q := fun q => by show h3.1 C q = h2.1 C q; rw [g2 C (by omega)]
        rw [e0, e0, e0, e0]; exact c
      · intro t k h1 h3'
        show h3.1 _ k = _
        rw [g2 _ (by omega)]
        exact dT t k h1 h3'
      · intro t k h1 h3'
        have qt := pC.1.1 t (by omega)
        show h3.1 _ k = _
        rw [g2 _ (by omega)]
        exact dE t k h1 h3'
      · by_cases z : t = j
        · subst z
          rw [g3 k h3', rd h2 f _ _ (by omega) (by omega)]
          exact hR.2.2.2.1 t k hjn h3'
        · have nz : rG h (C + 3) t ≠ rG h (C + 3) j := fun y => z (pC.2.1.2 t j (by omega) (by omega) y)
          show h3.1 _ k = _
          rw [g2 _ nz]
          exact d t k (by omega) h3'
  have l2 : ∀ (m j : Nat) (h2 : zHp), j + m = cE N → fB C h h2 → (rI h2 C 1 = N 238 ∧ rI h2 C 3 = N 239 ∧ rI h2 C 5 = N 240 ∧ rI h2 C 7 = N 241) → (∀ t k, t < cT N → k < 10 → rI h2 (C + 6 + t) k = N (10 * t + k)) → (∀ t k, t < j → k < 7 → rI h2 (rG h (C + 2) t) k = N (80 + 7 * t + k)) → zlV M_X8_copyFrom 71 [some (.ref C), some (.ref B), some (.int (nI j))] [] h2 (fun h' => fB C h h' ∧ RW h' C N) := by
    intro m
    induction m with
    | zero =>
      intro j h2 hj f c dT d
      have : j = cE N := by omega
      subst this
      have G2 := zG_of f.1 G
      have go := l3 (cR N) 0 h2 (by omega) f c dT d (fun t k h1 _ => by omega)
      refine g_X8_copyFrom_71 hC hB G2 ⟨fun _ => go, fun z => absurd (by rw [c.2.1, cN.2.1.1]; exact Int32.le_refl _) z⟩
    | succ m ih =>
      intro j h2 hj f c dT d
      have hjn : j < cE N := by omega
      have G2 := zG_of f.1 G
      refine g_X8_copyFrom_71 hC hB G2 ⟨fun z => absurd z (by rw [c.2.1, cN.2.1.1]; exact nI_ge hjn (by omega)), fun _ => ⟨fun z => absurd z (nI_ge (b := 10) (by omega) (by omega)), fun _ => ⟨vp_in_nI (by omega) (by omega), ?_⟩⟩⟩
      rw [nI_clamp (by omega)]
      have lc := pC.e hC (show j < 10 by omega)
      have lb := pB.e hB (show j < 10 by omega)
      have qc := pC.1.1 j (by omega)
      have qb := pB.1.1 j (by omega)
      have ec : rG h2 (C + 2) j = rG h (C + 2) j := rG_of f.1 _ _
      have eb : rG h2 (B + 2) j = rG h (B + 2) j := rG_of f.1 _ _
      have rc : zRef h2 (C + 2) j 2 := ⟨by rw [ec]; show h2.2 _ _ = _; rw [f.1]; exact lc.1, by rw [ec]; exact lc.2⟩
      have rb : zRef h2 (B + 2) j 2 := ⟨by rw [eb]; show h2.2 _ _ = _; rw [f.1]; exact lb.1, by rw [eb]; exact lb.2⟩
      refine ⟨rc, rb, ?_⟩
      rw [ec, eb]
      refine zcV_then (s_X1_copyFrom G2 lc.2 lb.2 (by omega)) (fun h3 hh => ⟨zG_of (hh.1.trans f.1) G, ?_⟩)
      obtain ⟨g1, g2, g3⟩ := hh
      rw [nI_1]
      refine ih (j + 1) h3 (by omega) (f.tr ⟨g1, fun a ha => g2 a (by omega)⟩) ?_ ?_ (fun t k h1 h3' => ?_)
      · have e0 : ∀ q, rI h3 C q = rI h2 C q := fun q => by show h3.1 C q = h2.1 C q; rw [g2 C (by omega)]
        rw [e0, e0, e0, e0]; exact c
      · intro t k h1 h3'
        show h3.1 _ k = _
        rw [g2 _ (by omega)]
        exact dT t k h1 h3'
      · by_cases z : t = j
        · subst z
          rw [g3 k h3', rd h2 f _ _ (by omega) (by omega)]
          exact hR.2.2.1 t k hjn h3'
        · have nz : rG h (C + 2) t ≠ rG h (C + 2) j := fun y => z (pC.1.2 t j (by omega) (by omega) y)
          show h3.1 _ k = _
          rw [g2 _ nz]
          exact d t k (by omega) h3'
  have l1 : ∀ (m j : Nat) (h2 : zHp), j + m = cT N → fB C h h2 → (rI h2 C 1 = N 238 ∧ rI h2 C 3 = N 239 ∧ rI h2 C 5 = N 240 ∧ rI h2 C 7 = N 241) → (∀ t k, t < j → k < 10 → rI h2 (C + 6 + t) k = N (10 * t + k)) → zlV M_X8_copyFrom 34 [some (.ref C), some (.ref B), some (.int (nI j))] [] h2 (fun h' => fB C h h' ∧ RW h' C N) := by
    intro m
    induction m with
    | zero =>
      intro j h2 hj f c  d
      have : j = cT N := by omega
      subst this
      have G2 := zG_of f.1 G
      have go := l2 (cE N) 0 h2 (by omega) f c  d (fun t k h1 _ => by omega)
      refine g_X8_copyFrom_34 hC hB G2 ⟨fun _ => go, fun z => absurd (by rw [c.1, cN.1.1]; exact Int32.le_refl _) z⟩
    | succ m ih =>
      intro j h2 hj f c  d
      have hjn : j < cT N := by omega
      have G2 := zG_of f.1 G
      refine g_X8_copyFrom_34 hC hB G2 ⟨fun z => absurd z (by rw [c.1, cN.1.1]; exact nI_ge hjn (by omega)), fun _ => ⟨fun z => absurd z (nI_ge (b := 8) (by omega) (by omega)), fun _ => ⟨vp_in_nI (by omega) (by omega), ?_⟩⟩⟩
      rw [nI_clamp (by omega)]
      have cb : rI h2 (B + 6 + j) 5 = N (10 * j + 5) := (rd h2 f _ _ (by omega) (by omega)).trans (hR.2.1 j 5 hjn (by omega))
      refine zcV_then (s_X6_copyFrom G2 (lyT hC (by omega)) (lyT hB (by omega)) (by omega) (by rw [cb]; exact hW.1 j hjn)) (fun h3 hh => ⟨zG_of (hh.1.trans f.1) G, ?_⟩)
      obtain ⟨g1, g2, g3⟩ := hh
      rw [nI_1]
      refine ih (j + 1) h3 (by omega) (f.tr ⟨g1, fun a ha => g2 a (by omega)⟩) ?_ (fun t k h1 h3' => ?_)
      · have e0 : ∀ q, rI h3 C q = rI h2 C q := fun q => by show h3.1 C q = h2.1 C q; rw [g2 C (by omega)]
        rw [e0, e0, e0, e0]; exact c
      · by_cases z : t = j
        · subst z
          rw [g3 k h3', rd h2 f _ _ (by omega) (by omega)]
          exact hR.2.1 t k hjn h3'
        · show h3.1 (C + 6 + t) k = _
          rw [g2 _ (by omega)]
          exact d t k (by omega) h3'
  refine g_X8_copyFrom hC hB G ?_
  obtain ⟨a1, a2, a3, a4, -⟩ := hR.1
  rw [a1, a2, a3, a4]
  refine l1 (cT N) 0 _ (by omega) ⟨rfl, fun a ha => by rw [wI_ne (by omega), wI_ne (by omega), wI_ne (by omega), wI_ne (by omega)]⟩ ⟨?_, ?_, ?_, ?_⟩ (fun t k h1 _ => by omega)
  · rw [rI_k (by decide), rI_k (by decide), rI_k (by decide), rI_s]
  · rw [rI_k (by decide), rI_k (by decide), rI_s]
  · rw [rI_k (by decide), rI_s]
  · rw [rI_s]

