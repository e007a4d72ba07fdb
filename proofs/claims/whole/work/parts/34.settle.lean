/-! the class's rounds -/
theorem g_X0_dyingBits  {h : zHp} {Q : Int32 → zHp → Prop}  (G : zG h) (F : zlI M_X0_dyingBits 4 [some (.ref 1), some (.int 0), some (.int 0)] [] h Q) : zcI M_X0_dyingBits [.ref 1] h Q := by
  show zw zNT zNT M_X0_dyingBits 0 [some (.ref 1), none, none] [] h _
  refine z_iconst (pc := 0) (v := 0) dX0_dyingBits_0 (by decide) ?_
  refine z_istore_n (pc := 1) (ls' := [some (.ref 1), some (.int 0), none]) dX0_dyingBits_1 rfl (by decide) rfl ?_
  refine z_iconst (pc := 2) (v := 0) dX0_dyingBits_2 (by decide) ?_
  refine z_istore_n (pc := 3) (ls' := [some (.ref 1), some (.int 0), some (.int 0)]) dX0_dyingBits_3 rfl (by decide) rfl ?_
  exact F
theorem g_X0_dyingBits_4 {x1 : Int32} {x2 : Int32} {h : zHp} {Q : Int32 → zHp → Prop}  (G : zG h) (F : (rI h 2 1 ≤ x2 → (Q x1 h)) ∧ (¬ (rI h 2 1 ≤ x2) → (vp_in x2 8 ∧ ((rI h (8 + (Int32.toNatClampNeg x2)) 5 = 0 → (zlI M_X0_dyingBits 4 [some (.ref 1), some (.int x1), some (.int (x2 + 1))] [] h Q)) ∧ (¬ (rI h (8 + (Int32.toNatClampNeg x2)) 5 = 0) → ((rI h (8 + (Int32.toNatClampNeg x2)) 4 < rI h 46 ((Int32.toNatClampNeg x2)) → (zlI M_X0_dyingBits 4 [some (.ref 1), some (.int x1), some (.int (x2 + 1))] [] h Q)) ∧ (¬ (rI h (8 + (Int32.toNatClampNeg x2)) 4 < rI h 46 ((Int32.toNatClampNeg x2))) → (zlI M_X0_dyingBits 4 [some (.ref 1), some (.int (x1 ||| (1 <<< (x2 &&& 31)))), some (.int (x2 + 1))] [] h Q)))))))) : zlI M_X0_dyingBits 4 [some (.ref 1), some (.int x1), some (.int x2)] [] h Q := by
  refine z_iload_n (pc := 4) dX0_dyingBits_4 rfl rfl ?_
  refine z_aload_n (pc := 5) dX0_dyingBits_5 rfl rfl ?_
  refine q_getR (pc := 6) (i := 2) dX0_dyingBits_6 lk_RX0_12 (lyc rfl) (G 1 0 2 rfl) ?_
  refine q_getI (pc := 9) (v := rI h 2 1) dX0_dyingBits_9 lk_RX0_62 (lyc rfl) rfl ?_
  refine z_icmp_ge (pc := 12) (tgt := 66) dX0_dyingBits_12 (by decide) (fun k4 => ?_) (fun k4 => ?_)
  · replace F := F.1 k4
    refine z_iload_n (pc := 66) dX0_dyingBits_66 rfl rfl ?_
    exact q_retI (pc := 67) dX0_dyingBits_67 rfl F
  · replace F := F.2 k4
    refine z_aload_n (pc := 15) dX0_dyingBits_15 rfl rfl ?_
    refine q_getR (pc := 16) (i := 2) dX0_dyingBits_16 lk_RX0_12 (lyc rfl) (G 1 0 2 rfl) ?_
    refine q_getR (pc := 19) (i := 3) dX0_dyingBits_19 lk_RX0_65 (lyc rfl) (G 2 0 3 rfl) ?_
    refine z_iload_n (pc := 22) dX0_dyingBits_22 rfl rfl ?_
    obtain ⟨k1, F⟩ := F
    refine q_aald (pc := 23) (j := (Int32.toNatClampNeg x2)) (r := 8 + (Int32.toNatClampNeg x2)) (t := 0) dX0_dyingBits_23 (lyc rfl) (zvn (lnc rfl) k1) rfl (grT (B := 2) G (Or.inl rfl) (zvi k1)) ?_
    refine q_getI (pc := 24) (v := rI h (8 + (Int32.toNatClampNeg x2)) 5) dX0_dyingBits_24 lk_RX0_69 (lyT (B := 2) (Or.inl rfl) (zvi k1)) rfl ?_
    refine z_if_eq (pc := 27) (tgt := 60) dX0_dyingBits_27 (by decide) (fun k3 => ?_) (fun k3 => ?_)
    · replace F := F.1 k3
      refine z_iinc (pc := 60) (v := x2 + 1) (ls' := [some (.ref 1), some (.int x1), some (.int (x2 + 1))]) dX0_dyingBits_60 (by decide) rfl rfl rfl ?_
      refine z_goto (pc := 63) (tgt := 4) dX0_dyingBits_63 (by decide) ?_
      exact F
    · replace F := F.2 k3
      refine z_aload_n (pc := 30) dX0_dyingBits_30 rfl rfl ?_
      refine q_getR (pc := 31) (i := 2) dX0_dyingBits_31 lk_RX0_12 (lyc rfl) (G 1 0 2 rfl) ?_
      refine q_getR (pc := 34) (i := 3) dX0_dyingBits_34 lk_RX0_65 (lyc rfl) (G 2 0 3 rfl) ?_
      refine z_iload_n (pc := 37) dX0_dyingBits_37 rfl rfl ?_
      refine q_aald (pc := 38) (j := (Int32.toNatClampNeg x2)) (r := 8 + (Int32.toNatClampNeg x2)) (t := 0) dX0_dyingBits_38 (lyc rfl) (zvn (lnc rfl) k1) rfl (grT (B := 2) G (Or.inl rfl) (zvi k1)) ?_
      refine q_getI (pc := 39) (v := rI h (8 + (Int32.toNatClampNeg x2)) 4) dX0_dyingBits_39 lk_RX0_75 (lyT (B := 2) (Or.inl rfl) (zvi k1)) rfl ?_
      refine z_aload_n (pc := 42) dX0_dyingBits_42 rfl rfl ?_
      refine q_getR (pc := 43) (i := 42) dX0_dyingBits_43 lk_RX0_21 (lyc rfl) (G 1 1 42 rfl) ?_
      refine q_getR (pc := 46) (i := 46) dX0_dyingBits_46 lk_RX0_78 (lyc rfl) (G 42 3 46 rfl) ?_
      refine z_iload_n (pc := 49) dX0_dyingBits_49 rfl rfl ?_
      refine q_iald (pc := 50) (j := (Int32.toNatClampNeg x2)) (v := rI h 46 ((Int32.toNatClampNeg x2))) dX0_dyingBits_50 (lyc rfl) (zvn (lnc rfl) k1) rfl rfl ?_
      refine z_icmp_lt (pc := 51) (tgt := 60) dX0_dyingBits_51 (by decide) (fun k2 => ?_) (fun k2 => ?_)
      · replace F := F.1 k2
        refine z_iinc (pc := 60) (v := x2 + 1) (ls' := [some (.ref 1), some (.int x1), some (.int (x2 + 1))]) dX0_dyingBits_60 (by decide) rfl rfl rfl ?_
        refine z_goto (pc := 63) (tgt := 4) dX0_dyingBits_63 (by decide) ?_
        exact F
      · replace F := F.2 k2
        refine z_iload_n (pc := 54) dX0_dyingBits_54 rfl rfl ?_
        refine z_iconst (pc := 55) (v := 1) dX0_dyingBits_55 (by decide) ?_
        refine z_iload_n (pc := 56) dX0_dyingBits_56 rfl rfl ?_
        refine z_ishl (pc := 57) dX0_dyingBits_57 ?_
        refine z_ior (pc := 58) dX0_dyingBits_58 ?_
        refine z_istore_n (pc := 59) (ls' := [some (.ref 1), some (.int (x1 ||| (1 <<< (x2 &&& 31)))), some (.int x2)]) dX0_dyingBits_59 rfl (by decide) rfl ?_
        refine z_iinc (pc := 60) (v := x2 + 1) (ls' := [some (.ref 1), some (.int (x1 ||| (1 <<< (x2 &&& 31)))), some (.int (x2 + 1))]) dX0_dyingBits_60 (by decide) rfl rfl rfl ?_
        refine z_goto (pc := 63) (tgt := 4) dX0_dyingBits_63 (by decide) ?_
        exact F
theorem g_X2_remember {c0 : Nat} {c1 : Nat} {x2 : Int32} {h : zHp} {Q : zHp → Prop} (hc0 : zLo c0) (hc1 : ly c1 = 7) (G : zG h) (F : (¬ ((0 : Int32) ≤ x2 ∧ x2 ≤ 7) → (Q h)) ∧ (((0 : Int32) ≤ x2 ∧ x2 ≤ 7) → (vp_in x2 8 ∧ (Q (wI (wI (wI (wI h c1 6 (rI h (c0 + 1) ((Int32.toNatClampNeg x2)))) c1 7 (rI h (c0 + 2) ((Int32.toNatClampNeg x2)))) c1 8 (rI h (c0 + 3) ((Int32.toNatClampNeg x2)))) c1 9 (rI h (c0 + 4) ((Int32.toNatClampNeg x2)))))))) : zcV M_X2_remember [.ref c0, .ref c1, .int x2] h Q := by
  show zw zNT zNT M_X2_remember 0 [some (.ref c0), some (.ref c1), some (.int x2)] [] h _
  refine z_iload_n (pc := 0) dX2_remember_0 rfl rfl ?_
  refine z_iconst (pc := 1) (v := 0) dX2_remember_1 (by decide) ?_
  refine z_bipush (pc := 2) (v := 7) dX2_remember_2 (by decide) ?_
  refine q_invS (pc := 4) (As := [.int x2, .int 0, .int 7]) (st := []) dX2_remember_4 ok_X10_within ml_RX2_136 st_X10_within pa_X10_within ⟨Nat.le_of_ble_eq_true rfl, Nat.le_of_ble_eq_true rfl⟩ (q_pI (s_X10_within G) rfl ?_)
  refine z_if_eq (pc := 7) (tgt := 50) dX2_remember_7 (by decide) (fun k2 => ?_) (fun k2 => ?_)
  · replace F := F.1 (zb0.mp k2)
    exact q_retV (pc := 50) dX2_remember_50 rfl F
  · replace F := F.2 (zbn.mp k2)
    refine z_aload_n (pc := 10) dX2_remember_10 rfl rfl ?_
    refine z_aload_n (pc := 11) dX2_remember_11 rfl rfl ?_
    refine q_getR (pc := 12) (i := c0 + 1) dX2_remember_12 lk_RX2_9 (lyLo0 hc0) (grLo0 G hc0) ?_
    refine z_iload_n (pc := 15) dX2_remember_15 rfl rfl ?_
    obtain ⟨k1, F⟩ := F
    refine q_iald (pc := 16) (j := (Int32.toNatClampNeg x2)) (v := rI h (c0 + 1) ((Int32.toNatClampNeg x2))) dX2_remember_16 (lyLo1 hc0) (zvn (lnLo1 hc0) k1) rfl rfl ?_
    refine q_putI (pc := 17) dX2_remember_17 lk_RX2_140 hc1 ?_
    refine z_aload_n (pc := 20) dX2_remember_20 rfl rfl ?_
    refine z_aload_n (pc := 21) dX2_remember_21 rfl rfl ?_
    refine q_getR (pc := 22) (i := c0 + 2) dX2_remember_22 lk_RX2_15 (lyLo0 hc0) (grLo1 G hc0) ?_
    refine z_iload_n (pc := 25) dX2_remember_25 rfl rfl ?_
    refine q_iald (pc := 26) (j := (Int32.toNatClampNeg x2)) (v := rI h (c0 + 2) ((Int32.toNatClampNeg x2))) dX2_remember_26 (lyLo2 hc0) (zvn (lnLo2 hc0) k1) rfl (rI_c (zne (lyLo2 hc0) hc1 (by decide))) ?_
    refine q_putI (pc := 27) dX2_remember_27 lk_RX2_143 hc1 ?_
    refine z_aload_n (pc := 30) dX2_remember_30 rfl rfl ?_
    refine z_aload_n (pc := 31) dX2_remember_31 rfl rfl ?_
    refine q_getR (pc := 32) (i := c0 + 3) dX2_remember_32 lk_RX2_18 (lyLo0 hc0) (grLo2 G hc0) ?_
    refine z_iload_n (pc := 35) dX2_remember_35 rfl rfl ?_
    refine q_iald (pc := 36) (j := (Int32.toNatClampNeg x2)) (v := rI h (c0 + 3) ((Int32.toNatClampNeg x2))) dX2_remember_36 (lyLo3 hc0) (zvn (lnLo3 hc0) k1) rfl ((rI_c (zne (lyLo3 hc0) hc1 (by decide))).trans (rI_c (zne (lyLo3 hc0) hc1 (by decide)))) ?_
    refine q_putI (pc := 37) dX2_remember_37 lk_RX2_133 hc1 ?_
    refine z_aload_n (pc := 40) dX2_remember_40 rfl rfl ?_
    refine z_aload_n (pc := 41) dX2_remember_41 rfl rfl ?_
    refine q_getR (pc := 42) (i := c0 + 4) dX2_remember_42 lk_RX2_21 (lyLo0 hc0) (grLo3 G hc0) ?_
    refine z_iload_n (pc := 45) dX2_remember_45 rfl rfl ?_
    refine q_iald (pc := 46) (j := (Int32.toNatClampNeg x2)) (v := rI h (c0 + 4) ((Int32.toNatClampNeg x2))) dX2_remember_46 (lyLo4 hc0) (zvn (lnLo4 hc0) k1) rfl (((rI_c (zne (lyLo4 hc0) hc1 (by decide))).trans (rI_c (zne (lyLo4 hc0) hc1 (by decide)))).trans (rI_c (zne (lyLo4 hc0) hc1 (by decide)))) ?_
    refine q_putI (pc := 47) dX2_remember_47 lk_RX2_146 hc1 ?_
    exact q_retV (pc := 50) dX2_remember_50 rfl F
theorem g_X0_bury {x1 : Int32} {h : zHp} {Q : zHp → Prop}  (G : zG h) (F : zlV M_X0_bury 2 [some (.ref 1), some (.int x1), some (.int 0)] [] h Q) : zcV M_X0_bury [.ref 1, .int x1] h Q := by
  show zw zNT zNT M_X0_bury 0 [some (.ref 1), some (.int x1), none] [] h _
  refine z_iconst (pc := 0) (v := 0) dX0_bury_0 (by decide) ?_
  refine z_istore_n (pc := 1) (ls' := [some (.ref 1), some (.int x1), some (.int 0)]) dX0_bury_1 rfl (by decide) rfl ?_
  exact F
theorem g_X0_bury_2 {x1 : Int32} {x2 : Int32} {h : zHp} {Q : zHp → Prop}  (G : zG h) (F : (rI h 2 1 ≤ x2 → (Q h)) ∧ (¬ (rI h 2 1 ≤ x2) → (((x1 >>> (x2 &&& 31)) &&& 1 = 0 → (zlV M_X0_bury 2 [some (.ref 1), some (.int x1), some (.int (x2 + 1))] [] h Q)) ∧ (¬ ((x1 >>> (x2 &&& 31)) &&& 1 = 0) → (vp_in x2 8 ∧ (zcV M_X2_remember [.ref 42, .ref (8 + (Int32.toNatClampNeg x2)), .int x2] h (fun h1 => zG h1 ∧ (zlV M_X0_bury 2 [some (.ref 1), some (.int x1), some (.int (x2 + 1))] [] (wI h1 (8 + (Int32.toNatClampNeg x2)) 5 0) Q)))))))) : zlV M_X0_bury 2 [some (.ref 1), some (.int x1), some (.int x2)] [] h Q := by
  refine z_iload_n (pc := 2) dX0_bury_2 rfl rfl ?_
  refine z_aload_n (pc := 3) dX0_bury_3 rfl rfl ?_
  refine q_getR (pc := 4) (i := 2) dX0_bury_4 lk_RX0_12 (lyc rfl) (G 1 0 2 rfl) ?_
  refine q_getI (pc := 7) (v := rI h 2 1) dX0_bury_7 lk_RX0_62 (lyc rfl) rfl ?_
  refine z_icmp_ge (pc := 10) (tgt := 57) dX0_bury_10 (by decide) (fun k4 => ?_) (fun k4 => ?_)
  · replace F := F.1 k4
    exact q_retV (pc := 57) dX0_bury_57 rfl F
  · replace F := F.2 k4
    refine z_iload_n (pc := 13) dX0_bury_13 rfl rfl ?_
    refine z_iload_n (pc := 14) dX0_bury_14 rfl rfl ?_
    refine z_ishr (pc := 15) dX0_bury_15 ?_
    refine z_iconst (pc := 16) (v := 1) dX0_bury_16 (by decide) ?_
    refine z_iand (pc := 17) dX0_bury_17 ?_
    refine z_if_eq (pc := 18) (tgt := 51) dX0_bury_18 (by decide) (fun k3 => ?_) (fun k3 => ?_)
    · replace F := F.1 k3
      refine z_iinc (pc := 51) (v := x2 + 1) (ls' := [some (.ref 1), some (.int x1), some (.int (x2 + 1))]) dX0_bury_51 (by decide) rfl rfl rfl ?_
      refine z_goto (pc := 54) (tgt := 2) dX0_bury_54 (by decide) ?_
      exact F
    · replace F := F.2 k3
      refine z_aload_n (pc := 21) dX0_bury_21 rfl rfl ?_
      refine q_getR (pc := 22) (i := 42) dX0_bury_22 lk_RX0_21 (lyc rfl) (G 1 1 42 rfl) ?_
      refine z_aload_n (pc := 25) dX0_bury_25 rfl rfl ?_
      refine q_getR (pc := 26) (i := 2) dX0_bury_26 lk_RX0_12 (lyc rfl) (G 1 0 2 rfl) ?_
      refine q_getR (pc := 29) (i := 3) dX0_bury_29 lk_RX0_65 (lyc rfl) (G 2 0 3 rfl) ?_
      refine z_iload_n (pc := 32) dX0_bury_32 rfl rfl ?_
      obtain ⟨k1, F⟩ := F
      refine q_aald (pc := 33) (j := (Int32.toNatClampNeg x2)) (r := 8 + (Int32.toNatClampNeg x2)) (t := 0) dX0_bury_33 (lyc rfl) (zvn (lnc rfl) k1) rfl (grT (B := 2) G (Or.inl rfl) (zvi k1)) ?_
      refine z_iload_n (pc := 34) dX0_bury_34 rfl rfl ?_
      refine q_invV (pc := 35) (As := [.ref (8 + (Int32.toNatClampNeg x2)), .int x2]) (st := []) dX0_bury_35 ok_X2_remember ml_RX0_81 iv_X2_remember pa_X2_remember ⟨Nat.le_of_ble_eq_true rfl, Nat.le_of_ble_eq_true rfl⟩ (lyc rfl) (q_kV F (fun h1 F => ?_))
      obtain ⟨G1, F⟩ := F
      refine z_aload_n (pc := 38) dX0_bury_38 rfl rfl ?_
      refine q_getR (pc := 39) (i := 2) dX0_bury_39 lk_RX0_12 (lyc rfl) (G1 1 0 2 rfl) ?_
      refine q_getR (pc := 42) (i := 3) dX0_bury_42 lk_RX0_65 (lyc rfl) (G1 2 0 3 rfl) ?_
      refine z_iload_n (pc := 45) dX0_bury_45 rfl rfl ?_
      refine q_aald (pc := 46) (j := (Int32.toNatClampNeg x2)) (r := 8 + (Int32.toNatClampNeg x2)) (t := 0) dX0_bury_46 (lyc rfl) (zvn (lnc rfl) k1) rfl (grT (B := 2) G1 (Or.inl rfl) (zvi k1)) ?_
      refine z_iconst (pc := 47) (v := 0) dX0_bury_47 (by decide) ?_
      refine q_putB (pc := 48) dX0_bury_48 lk_RX0_69 (lyT (B := 2) (Or.inl rfl) (zvi k1)) (Or.inl rfl) ?_
      refine z_iinc (pc := 51) (v := x2 + 1) (ls' := [some (.ref 1), some (.int x1), some (.int (x2 + 1))]) dX0_bury_51 (by decide) rfl rfl rfl ?_
      refine z_goto (pc := 54) (tgt := 2) dX0_bury_54 (by decide) ?_
      exact F
theorem g_X0_settle {x1 : Int32} {h : zHp} {Q : zHp → Prop}  (G : zG h) (F : zlV M_X0_settle 2 [some (.ref 1), some (.int x1), some (.int 0), none] [] h Q) : zcV M_X0_settle [.ref 1, .int x1] h Q := by
  show zw zNT zNT M_X0_settle 0 [some (.ref 1), some (.int x1), none, none] [] h _
  refine z_iconst (pc := 0) (v := 0) dX0_settle_0 (by decide) ?_
  refine z_istore_n (pc := 1) (ls' := [some (.ref 1), some (.int x1), some (.int 0), none]) dX0_settle_1 rfl (by decide) rfl ?_
  exact F
theorem g_X0_settle_2 {x1 : Int32} {x2 : Int32} {h : zHp} {Q : zHp → Prop}  (G : zG h) (F : (8 < x2 → (Q h)) ∧ (¬ (8 < x2) → (zcV M_X2_make [.ref 42, .ref 2, .int 5] h (fun h1 => zG h1 ∧ (zcI M_X0_dyingBits [.ref 1] h1 (fun vh2 h2 => zG h2 ∧ ((¬ vh2 = 0 → ((x1 = 0 → (zcV M_X0_bury [.ref 1, .int vh2] h2 (fun h3 => zG h3 ∧ (zlV M_X0_settle 2 [some (.ref 1), some (.int x1), some (.int (x2 + 1)), none] [] h3 Q)))) ∧ (¬ (x1 = 0) → (zcV M_X0_setOff [.ref 1, .int 1, .int vh2] h2 (fun h4 => zG h4 ∧ (zcV M_X0_bury [.ref 1, .int vh2] h4 (fun h5 => zG h5 ∧ (zlV M_X0_settle 2 [some (.ref 1), some (.int x1), some (.int (x2 + 1)), none] [] h5 Q)))))))) ∧ (vh2 = 0 → (Q h2))))))))) : zlV M_X0_settle 2 [some (.ref 1), some (.int x1), some (.int x2), none] [] h Q := by
  refine z_iload_n (pc := 2) dX0_settle_2 rfl rfl ?_
  refine z_bipush (pc := 3) (v := 8) dX0_settle_3 (by decide) ?_
  refine z_icmp_gt (pc := 5) (tgt := 51) dX0_settle_5 (by decide) (fun k8 => ?_) (fun k8 => ?_)
  · replace F := F.1 k8
    exact q_retV (pc := 51) dX0_settle_51 rfl F
  · replace F := F.2 k8
    refine z_aload_n (pc := 8) dX0_settle_8 rfl rfl ?_
    refine q_getR (pc := 9) (i := 42) dX0_settle_9 lk_RX0_21 (lyc rfl) (G 1 1 42 rfl) ?_
    refine z_aload_n (pc := 12) dX0_settle_12 rfl rfl ?_
    refine q_getR (pc := 13) (i := 2) dX0_settle_13 lk_RX0_12 (lyc rfl) (G 1 0 2 rfl) ?_
    refine z_iconst (pc := 16) (v := 5) dX0_settle_16 (by decide) ?_
    refine q_invV (pc := 17) (As := [.ref 2, .int 5]) (st := []) dX0_settle_17 ok_X2_make ml_RX0_46 iv_X2_make pa_X2_make ⟨Nat.le_of_ble_eq_true rfl, Nat.le_of_ble_eq_true rfl⟩ (lyc rfl) (q_kV F (fun h1 F => ?_))
    obtain ⟨G1, F⟩ := F
    refine z_aload_n (pc := 20) dX0_settle_20 rfl rfl ?_
    refine q_invV (pc := 21) (As := []) (st := []) dX0_settle_21 ok_X0_dyingBits ml_RX0_50 iv_X0_dyingBits pa_X0_dyingBits ⟨Nat.le_of_ble_eq_true rfl, Nat.le_of_ble_eq_true rfl⟩ (lyc rfl) (q_kI F (fun vh2 h2 F => ?_))
    obtain ⟨G2, F⟩ := F
    refine z_istore_n (pc := 24) (ls' := [some (.ref 1), some (.int x1), some (.int x2), some (.int vh2)]) dX0_settle_24 rfl (by decide) rfl ?_
    refine z_iload_n (pc := 25) dX0_settle_25 rfl rfl ?_
    refine z_if_ne (pc := 26) (tgt := 30) dX0_settle_26 (by decide) (fun k7 => ?_) (fun k7 => ?_)
    · replace F := F.1 k7
      refine z_iload_n (pc := 30) dX0_settle_30 rfl rfl ?_
      refine z_if_eq (pc := 31) (tgt := 40) dX0_settle_31 (by decide) (fun k6 => ?_) (fun k6 => ?_)
      · replace F := F.1 k6
        refine z_aload_n (pc := 40) dX0_settle_40 rfl rfl ?_
        refine z_iload_n (pc := 41) dX0_settle_41 rfl rfl ?_
        refine q_invV (pc := 42) (As := [.int vh2]) (st := []) dX0_settle_42 ok_X0_bury ml_RX0_58 iv_X0_bury pa_X0_bury ⟨Nat.le_of_ble_eq_true rfl, Nat.le_of_ble_eq_true rfl⟩ (lyc rfl) (q_kV F (fun h3 F => ?_))
        obtain ⟨G3, F⟩ := F
        refine z_iinc (pc := 45) (v := x2 + 1) (ls' := [some (.ref 1), some (.int x1), some (.int (x2 + 1)), some (.int vh2)]) dX0_settle_45 (by decide) rfl rfl rfl ?_
        refine z_goto (pc := 48) (tgt := 2) dX0_settle_48 (by decide) ?_
        exact q_sub (ls' := [some (.ref 1), some (.int x1), some (.int (x2 + 1)), none]) ⟨rfl, rfl, rfl, trivial⟩ F
      · replace F := F.2 k6
        refine z_aload_n (pc := 34) dX0_settle_34 rfl rfl ?_
        refine z_iconst (pc := 35) (v := 1) dX0_settle_35 (by decide) ?_
        refine z_iload_n (pc := 36) dX0_settle_36 rfl rfl ?_
        refine q_invV (pc := 37) (As := [.int 1, .int vh2]) (st := []) dX0_settle_37 ok_X0_setOff ml_RX0_54 iv_X0_setOff pa_X0_setOff ⟨Nat.le_of_ble_eq_true rfl, Nat.le_of_ble_eq_true rfl⟩ (lyc rfl) (q_kV F (fun h4 F => ?_))
        obtain ⟨G4, F⟩ := F
        refine z_aload_n (pc := 40) dX0_settle_40 rfl rfl ?_
        refine z_iload_n (pc := 41) dX0_settle_41 rfl rfl ?_
        refine q_invV (pc := 42) (As := [.int vh2]) (st := []) dX0_settle_42 ok_X0_bury ml_RX0_58 iv_X0_bury pa_X0_bury ⟨Nat.le_of_ble_eq_true rfl, Nat.le_of_ble_eq_true rfl⟩ (lyc rfl) (q_kV F (fun h5 F => ?_))
        obtain ⟨G5, F⟩ := F
        refine z_iinc (pc := 45) (v := x2 + 1) (ls' := [some (.ref 1), some (.int x1), some (.int (x2 + 1)), some (.int vh2)]) dX0_settle_45 (by decide) rfl rfl rfl ?_
        refine z_goto (pc := 48) (tgt := 2) dX0_settle_48 (by decide) ?_
        exact q_sub (ls' := [some (.ref 1), some (.int x1), some (.int (x2 + 1)), none]) ⟨rfl, rfl, rfl, trivial⟩ F
    · replace F := F.2 k7
      exact q_retV (pc := 29) dX0_settle_29 rfl F
theorem VL_of {h h' : zHp} {K : Nat} (hf : ∀ a, K + 1 ≤ a → a < K + 5 → h'.1 a = h.1 a) : VL h' K = VL h K := by
  funext i
  unfold VL
  show h'.1 _ _ = h.1 _ _
  rw [hf _ (by omega) (by omega)]
theorem s_X0_dyingBits {N : zN} {h : zHp} (G : zG h) (hC : CN N) (hR : RW h 2 N) (hW : WN N) : zcI M_X0_dyingBits [.ref 1] h (fun r h' => r = Dy N (VL h 42) ∧ h' = h) := by
  have h8 := hC.1.2
  have loop : ∀ (m j : Nat), j + m = cT N → zlI M_X0_dyingBits 4 [some (.ref 1), some (.int (mask j (fun t => Al N t ∧ VL h 42 (4 * t + 3) ≤ N (10 * t + 4)))), some (.int (nI j))] [] h (fun r h' => r = Dy N (VL h 42) ∧ h' = h) := by
    intro m
    induction m with
    | zero =>
      intro j hj
      have : j = cT N := by omega
      subst this
      exact g_X0_dyingBits_4 G ⟨fun _ => ⟨rfl, rfl⟩, fun q => absurd (by rw [hR.1.1, hC.1.1]; exact Int32.le_refl _) q⟩
    | succ m ih =>
      intro j hj
      have hjn : j < cT N := by omega
      have nx := ih (j + 1) (by omega)
      rw [← nI_1] at nx
      refine g_X0_dyingBits_4 G ⟨fun q => absurd q (by rw [hR.1.1, hC.1.1]; exact nI_ge hjn (by omega)), fun _ => ⟨vp_in_nI (by omega) (by omega), ?_⟩⟩
      rw [nI_clamp (by omega)]
      have w5 := hR.2.1 j 5 hjn (by omega)
      have w4 := hR.2.1 j 4 hjn (by omega)
      change rI h (8 + j) 5 = _ at w5
      change rI h (8 + j) 4 = _ at w4
      have ev : VL h 42 (4 * j + 3) = rI h 46 j := by
        unfold VL
        rw [show 42 + 1 + (4 * j + 3) % 4 = 46 by omega, show (4 * j + 3) / 4 = j by omega]
      rw [w5, w4, ← ev]
      have m0 : ¬ (Al N j ∧ VL h 42 (4 * j + 3) ≤ N (10 * j + 4)) → zlI M_X0_dyingBits 4 [some (.ref 1), some (.int (mask j (fun t => Al N t ∧ VL h 42 (4 * t + 3) ≤ N (10 * t + 4)))), some (.int (nI j + 1))] [] h (fun r h' => r = Dy N (VL h 42) ∧ h' = h) := by
        intro z
        rw [mask_s0 z, Int32.or_zero] at nx
        exact nx
      refine ⟨fun q => m0 (fun z => ?_), fun q => ⟨fun q2 => m0 (fun z => Int32.not_lt.mpr z.2 q2), fun q2 => ?_⟩⟩
      · have := z.1
        unfold Al at this
        rw [q] at this
        exact absurd this (by decide)
      · have al : Al N j := (hW.1 j hjn).resolve_left q
        rw [mask_s1 ⟨al, Int32.not_lt.mp q2⟩] at nx
        exact nx
  exact g_X0_dyingBits G (loop (cT N) 0 (by omega))
/-- only things have changed -/
def fT (h h' : zHp) : Prop := h'.2 = h.2 ∧ ∀ a, (a < 8 ∨ 16 ≤ a) → h'.1 a = h.1 a
theorem s_X0_bury {N : zN} {D : Int32} {h : zHp} (G : zG h) (hC : CN N) (hP : PW h 2) (hR : RW h 2 N) : zcV M_X0_bury [.ref 1, .int D] h (fun h' => fT h h' ∧ RW h' 2 (Bu N (VL h 42) D)) := by
  have h8 := hC.1.2
  have e8 := hC.2.1.2
  have r8 := hC.2.2.1.2
  have v8 := hC.2.2.2.2
  have loop : ∀ (m j : Nat) (h' : zHp), j + m = cT N → fT h h' → (∀ t k, t < cT N → k < 10 → rI h' (8 + t) k = if t < j then Bu N (VL h 42) D (10 * t + k) else N (10 * t + k)) → zlV M_X0_bury 2 [some (.ref 1), some (.int D), some (.int (nI j))] [] h' (fun h' => fT h h' ∧ RW h' 2 (Bu N (VL h 42) D)) := by
    intro m
    induction m with
    | zero =>
      intro j h' hj f c
      have : j = cT N := by omega
      subst this
      have r : ∀ a k, (a < 8 ∨ 16 ≤ a) → rI h' a k = rI h a k := fun a k h1 => by show h'.1 a k = h.1 a k; rw [f.2 a h1]
      refine g_X0_bury_2 (zG_of f.1 G) ⟨fun _ => ⟨f, ?_⟩, fun q => absurd (by rw [r 2 1 (by omega), hR.1.1, hC.1.1]; exact Int32.le_refl _) q⟩
      obtain ⟨⟨a1, a2, a3, a4, a5, a6, a7, a8⟩, b, d, e, g⟩ := hR
      obtain ⟨-, t1, t2, t3, t4⟩ := Bu_CN (L := VL h 42) (D := D) hC
      have hi : ∀ i, 80 ≤ i → Bu N (VL h 42) D i = N i := fun i => Bu_hi hC
      refine ⟨⟨?_, ?_, ?_, ?_, ?_, ?_, ?_, ?_⟩, fun t k h1 h2 => ?_, fun t k h1 h2 => ?_, fun t k h1 h2 => ?_, fun t k h1 h2 => ?_⟩
      all_goals first
        | (rw [r _ _ (by omega), hi _ (by omega)]; assumption)
        | skip
      · rw [t1] at h1
        have := c t k h1 h2
        rw [if_pos h1] at this
        exact this
      · rw [t2] at h1
        have q := hP.1.1 t (by omega)
        rw [rG_of f.1, r _ _ (by omega), hi _ (by omega)]
        exact d t k h1 h2
      · rw [t3] at h1
        have q := hP.2.1.1 t (by omega)
        rw [rG_of f.1, r _ _ (by omega), hi _ (by omega)]
        exact e t k h1 h2
      · rw [t4] at h1
        have q := hP.2.2.1 t (by omega)
        rw [rG_of f.1, r _ _ (by omega), hi _ (by omega)]
        exact g t k h1 h2
    | succ m ih =>
      intro j h' hj f c
      have hjn : j < cT N := by omega
      have r : ∀ a k, (a < 8 ∨ 16 ≤ a) → rI h' a k = rI h a k := fun a k h1 => by show h'.1 a k = h.1 a k; rw [f.2 a h1]
      refine g_X0_bury_2 (zG_of f.1 G) ⟨fun q => absurd q (by rw [r 2 1 (by omega), hR.1.1, hC.1.1]; exact nI_ge hjn (by omega)), fun _ => ⟨fun q => ?_, fun q => ⟨vp_in_nI (by omega) (by omega), ?_⟩⟩⟩
      · rw [nI_1]
        refine ih (j + 1) h' (by omega) f (fun t k h1 h2 => ?_)
        rw [c t k h1 h2]
        by_cases z : t = j
        · rw [z, if_neg (by omega), if_pos (by omega), Bu_out (fun y => bi_0.mp q y.2) h2]
        · by_cases z2 : t < j
          · rw [if_pos z2, if_pos (by omega)]
          · rw [if_neg z2, if_neg (by omega)]
      · rw [nI_clamp (by omega)]
        have hb := bi_n0.mp q
        refine g_X2_remember (Or.inl rfl) (lyT (B := 2) (Or.inl rfl) (by omega)) (zG_of f.1 G) ⟨fun z => absurd (⟨nI_pos' (n := j) (by omega), nI_le (a := j) (b := 7) (by omega) (by omega)⟩ : (0 : Int32) ≤ nI j ∧ nI j ≤ 7) z, fun _ => ⟨vp_in_nI (by omega) (by omega), zG_of f.1 G, ?_⟩⟩
        rw [nI_clamp (by omega), nI_1]
        refine ih (j + 1) _ (by omega) ⟨f.1, fun a ha => ?_⟩ (fun t k h1 h2 => ?_)
        · rw [wI_ne (by omega), wI_ne (by omega), wI_ne (by omega), wI_ne (by omega), wI_ne (by omega)]
          exact f.2 a ha
        · by_cases z : t = j
          · subst z
            rw [if_pos (by omega), Bu_in hjn hb h2]
            have ev : ∀ i, i < 4 → VL h 42 (4 * t + i) = rI h' (43 + i) t := by
              intro i hi
              rw [r _ _ (by omega)]
              unfold VL
              rw [show 42 + 1 + (4 * t + i) % 4 = 43 + i by omega, show (4 * t + i) / 4 = t by omega]
            have old := c t k h1 h2
            rw [if_neg (by omega)] at old
            rcases (show k = 5 ∨ k = 6 ∨ k = 7 ∨ k = 8 ∨ k = 9 ∨ k < 5 by omega) with y | y | y | y | y | y
            · subst y
              rw [rI_s, if_pos rfl]
            · subst y
              rw [rI_k (by decide), rI_k (by decide), rI_k (by decide), rI_k (by decide), rI_s, if_neg (by decide), if_pos (by decide), ev 0 (by decide)]
            · subst y
              rw [rI_k (by decide), rI_k (by decide), rI_k (by decide), rI_s, if_neg (by decide), if_pos (by decide), ev 1 (by decide)]
            · subst y
              rw [rI_k (by decide), rI_k (by decide), rI_s, if_neg (by decide), if_pos (by decide), ev 2 (by decide)]
            · subst y
              rw [rI_k (by decide), rI_s, if_neg (by decide), if_pos (by decide), ev 3 (by decide)]
            · rw [rI_k (by omega), rI_k (by omega), rI_k (by omega), rI_k (by omega), rI_k (by omega), old, if_neg (by omega), if_neg (by omega)]
          · rw [rI_c (by omega), rI_c (by omega), rI_c (by omega), rI_c (by omega), rI_c (by omega), c t k h1 h2]
            by_cases z2 : t < j
            · rw [if_pos z2, if_pos (by omega)]
            · rw [if_neg z2, if_neg (by omega)]
  exact g_X0_bury G (loop (cT N) 0 h (by omega) ⟨rfl, fun _ _ => rfl⟩ (fun t k h1 h2 => by rw [if_neg (by omega)]; exact hR.2.1 t k h1 h2))
/-- what the class's rounds may change -/
def fC (h h' : zHp) : Prop := h'.2 = h.2 ∧ (∀ a, a ≠ 1 → (a < 8 ∨ 16 ≤ a) → (a < 42 ∨ 48 ≤ a) → a ≠ 50 → a ≠ 51 → h'.1 a = h.1 a) ∧ ∀ k, k ≠ 5 → h'.1 1 k = h.1 1 k
theorem fC.rf {h : zHp} : fC h h := ⟨rfl, fun _ _ _ _ _ _ => rfl, fun _ _ => rfl⟩
theorem fC.tr {h h' h2 : zHp} (a : fC h h') (b : fC h' h2) : fC h h2 := ⟨b.1.trans a.1, fun z z1 z2 z3 z4 z5 => (b.2.1 z z1 z2 z3 z4 z5).trans (a.2.1 z z1 z2 z3 z4 z5), fun z hz => (b.2.2 z hz).trans (a.2.2 z hz)⟩
theorem fS.c {h h' : zHp} (f : fS h h') : fC h h' := ⟨f.1, fun a z1 _ _ z4 z5 => f.2.1 a z1 z4 z5, f.2.2⟩
theorem fT.c {h h' : zHp} (f : fT h h') : fC h h' := ⟨f.1, fun a _ z2 _ _ _ => f.2 a z2, fun k _ => by rw [f.2 1 (by omega)]⟩
theorem LkS.c {n c : Nat} {h h' : zHp} {X D : zN} (f : LkS 42 n h h' X D c) : fC h h' := ⟨f.1, fun a _ _ z3 _ _ => f.2.1 a (by omega), fun k _ => by rw [f.2.1 1 (by omega)]⟩
/-- look K of the class tells the row N -/
def Lm (h : zHp) (K : Nat) (N : zN) : Prop := rI h K 5 = nI (Mk N 5).2.2 ∧ rq (cT N) (VL h K) (Mk N 5).1 ∧ ∀ i, i < (Mk N 5).2.2 → rI h (K + 5) i = (Mk N 5).2.1 i
theorem SC_of {h h' : zHp} {s : Stk} (h0 : h'.1 1 5 = h.1 1 5) (h1 : h'.1 50 = h.1 50) (h2 : h'.1 51 = h.1 51) (hS : SC h s) : SC h' s := by
  refine ⟨?_, fun i hi => ⟨?_, ?_⟩⟩
  · show h'.1 1 5 = _
    rw [h0]; exact hS.1
  · show h'.1 50 _ = _
    rw [h1]; exact (hS.2 i hi).1
  · show h'.1 51 _ = _
    rw [h2]; exact (hS.2 i hi).2
theorem s_X0_settle {x : Int32} {N : zN} {s : Stk} {h : zHp} (G : zG h) (hC : CN N) (hP : PW h 2) (hR : RW h 2 N) (hW : WN N) (hS : SC h s) (hn : ¬ x = 0 → s.2.2 + 8 * na N ≤ 400) : zcV M_X0_settle [.ref 1, .int x] h (fun h' => fC h h' ∧ RW h' 2 (Ro (¬ x = 0) 9 N s).1 ∧ SC h' (Ro (¬ x = 0) 9 N s).2 ∧ Lm h' 42 (Ro (¬ x = 0) 9 N s).1) := by
  have hB : zW 2 := Or.inl rfl
  have loop : ∀ (m r : Nat) (N' : zN) (s' : Stk) (h' : zHp), r + m = 9 → na N' < m → CN N' → WN N' → fC h h' → RW h' 2 N' → SC h' s' → (¬ x = 0 → s'.2.2 + 8 * na N' ≤ 400) → zlV M_X0_settle 2 [some (.ref 1), some (.int x), some (.int (nI r)), none] [] h' (fun h2 => fC h h2 ∧ RW h2 2 (Ro (¬ x = 0) m N' s').1 ∧ SC h2 (Ro (¬ x = 0) m N' s').2 ∧ Lm h2 42 (Ro (¬ x = 0) m N' s').1) := by
    intro m
    induction m with
    | zero => intro r N' s' h' _ hm; omega
    | succ m ih =>
      intro r N' s' h' hr hm hC' hW' f hR' c hn'
      have h8 := hC'.1.2
      have hP' := PW_of f.1 hP
      refine g_X0_settle_2 (zG_of f.1 G) ⟨fun q => absurd q (nI_nlt (a := 8) (b := r) (by omega) (by omega)), fun _ => ?_⟩
      have mk := s_X2_make (K := 42) (B := 2) (u := 5) (zG_of f.1 G) (Or.inl rfl) hB hC' hP' hR' hW' (by omega)
      rw [show nI 5 = (5 : Int32) from rfl] at mk
      refine zcV_then mk (fun h1 m1 => ⟨zG_of (m1.1.trans f.1) G, ?_⟩)
      have f1 := f.tr m1.c
      have hR1 := m1.rw (Or.inl rfl) hB hP' hC' hR'
      have hrq := m1.2.2.2.1
      have c1 : SC h1 s' := SC_of (by rw [m1.2.1 1 (by omega)]) (m1.2.1 50 (by omega)) (m1.2.1 51 (by omega)) c
      refine zcI_use (s_X0_dyingBits (zG_of f1.1 G) hC' hR1 hW') ⟨zG_of f1.1 G, ?_⟩
      rw [Dy_rq hC' hrq, Ro]
      have room := SOff_room (N := N') (L := (Mk N' 5).1) (s := s') hC'
      refine ⟨fun q => ?_, fun q => ?_⟩
      · rw [if_neg q]
        have pos := Dy_pos hC' q
        have cnt := Bu_na (L := (Mk N' 5).1) hC' (D := Dy N' (Mk N' 5).1) (fun t ht hb => (Dy_al hC' (by omega) hb).2)
        have fin : ∀ h2, fC h h2 → VL h2 42 = VL h1 42 → RW h2 2 N' → SC h2 (@ite _ (¬ x = 0) (Classical.propDecidable _) (SOff N' (Mk N' 5).1 1 (Dy N' (Mk N' 5).1) s') s') → zcV M_X0_bury [.ref 1, .int (Dy N' (Mk N' 5).1)] h2 (fun h3 => zG h3 ∧ zlV M_X0_settle 2 [some (.ref 1), some (.int x), some (.int (nI r + 1)), none] [] h3 (fun h2 => fC h h2 ∧ RW h2 2 (Ro (¬ x = 0) m (Bu N' (Mk N' 5).1 (Dy N' (Mk N' 5).1)) (@ite _ (¬ x = 0) (Classical.propDecidable _) (SOff N' (Mk N' 5).1 1 (Dy N' (Mk N' 5).1) s') s')).1 ∧ SC h2 (Ro (¬ x = 0) m (Bu N' (Mk N' 5).1 (Dy N' (Mk N' 5).1)) (@ite _ (¬ x = 0) (Classical.propDecidable _) (SOff N' (Mk N' 5).1 1 (Dy N' (Mk N' 5).1) s') s')).2 ∧ Lm h2 42 (Ro (¬ x = 0) m (Bu N' (Mk N' 5).1 (Dy N' (Mk N' 5).1)) (@ite _ (¬ x = 0) (Classical.propDecidable _) (SOff N' (Mk N' 5).1 1 (Dy N' (Mk N' 5).1) s') s')).1)) := by
          intro h2 f2 ev hR2 c2
          have bu := s_X0_bury (D := Dy N' (Mk N' 5).1) (zG_of f2.1 G) hC' (PW_of f2.1 hP) hR2
          rw [ev, Bu_rq hrq] at bu
          refine zcV_then bu (fun h3 hh => ⟨zG_of (hh.1.1.trans f2.1) G, ?_⟩)
          rw [nI_1]
          refine ih (r + 1) _ _ h3 (by omega) (by omega) (Bu_CN hC').1 (Bu_WN hC' hW') (f2.tr hh.1.c) hh.2 (SC_of (by rw [hh.1.2 1 (by omega)]) (hh.1.2 50 (by omega)) (hh.1.2 51 (by omega)) c2) (fun hp => ?_)
          rw [if_pos hp]
          have := hn' hp
          omega
        refine ⟨fun z => fin h1 f1 rfl hR1 (by rw [if_neg (fun y => y z)]; exact c1), fun z => ?_⟩
        have hr2 := SOff_rq (N := N') (on := 1) (set := Dy N' (Mk N' 5).1) (s := s') hrq
        have so := s_X0_setOff (on := 1) (set := Dy N' (Mk N' 5).1) (zG_of f1.1 G) hC' (PW_of f1.1 hP) hR1 hW' c1 (by rw [hr2]; have := hn' z; omega)
        refine zcV_then so (fun h2 hh => ⟨zG_of (hh.1.1.trans f1.1) G, ?_⟩)
        have h22 := hh.2
        rw [hr2] at h22
        exact fin h2 (f1.tr hh.1.c) hh.1.vl (hh.1.rw (PW_of f1.1 hP) hC' hR1) (by rw [if_pos z]; exact h22)
      · rw [if_pos q]
        exact ⟨f1, hR1, c1, m1.2.2.1, hrq, m1.2.2.2.2⟩
  have b9 : na N < 9 := by
    have a := nb_le (n := cT N) (p := Al N)
    have b := hC.1.2
    unfold na
    omega
  exact g_X0_settle G (loop 9 0 N s h (by omega) b9 hC hW fC.rf hR hS hn)

