theorem g_X0_begin  {h : zHp} {Q : zHp → Prop}  (G : zG h) (F : Q (wI h 1 5 0)) : zcV M_X0_begin [.ref 1] h Q := by
  show zw zNT zNT M_X0_begin 0 [some (.ref 1)] [] h _
  refine z_aload_n (pc := 0) dX0_begin_0 rfl rfl ?_
  refine z_iconst (pc := 1) (v := 0) dX0_begin_1 (by decide) ?_
  refine q_putI (pc := 2) dX0_begin_2 lk_RX0_42 (lyc rfl) ?_
  exact q_retV (pc := 5) dX0_begin_5 rfl F
theorem g_X0_settle {x1 : Int32} {h : zHp} {Q : zHp → Prop}  (G : zG h) (F : zlV M_X0_settle 2 [some (.ref 1), some (.int x1), some (.int 0), none] [] h Q) : zcV M_X0_settle [.ref 1, .int x1] h Q := by
  show zw zNT zNT M_X0_settle 0 [some (.ref 1), some (.int x1), none, none] [] h _
  refine z_iconst (pc := 0) (v := 0) dX0_settle_0 (by decide) ?_
  refine z_istore_n (pc := 1) (ls' := [some (.ref 1), some (.int x1), some (.int 0), none]) dX0_settle_1 rfl (by decide) rfl ?_
  exact F
theorem g_X0_settle_2 {x1 : Int32} {x2 : Int32} {h : zHp} {Q : zHp → Prop}  (G : zG h) (F : (8 < x2 → (Q h)) ∧ (¬ (8 < x2) → (zcV M_X2_make [.ref 42, .ref 2, .int 5] h (fun h1 => zG h1 ∧ (zcI M_X0_dyingBits [.ref 1] h1 (fun vh2 h2 => zG h2 ∧ ((¬ vh2 = 0 → ((x1 = 0 → (zcV M_X0_bury [.ref 1, .int vh2] h2 (fun h3 => zG h3 ∧ (zlV M_X0_settle 2 [some (.ref 1), some (.int x1), some (.int (x2 + 1)), none] [] h3 Q)))) ∧ (¬ (x1 = 0) → (zcV M_X0_setOff [.ref 1, .int 1, .int vh2] h2 (fun h4 => zG h4 ∧ (zcV M_X0_bury [.ref 1, .int vh2] h4 (fun h5 => zG h5 ∧ (zlV M_X0_settle 2 [some (.ref 1), some (.int x1), some (.int (x2 + 1)), none] [] h5 Q)))))))) ∧ (vh2 = 0 → (Q h2))))))))) : zlV M_X0_settle 2 [some (.ref 1), some (.int x1), some (.int x2), none] [] h Q := by
  refine z_iload_n (pc := 2) dX0_settle_2 rfl rfl ?_
  refine z_bipush (pc := 3) (v := 8) dX0_settle_3 (by decide) ?_
  refine z_icmp_gt (pc := 5) (tgt := 51) dX0_settle_5 (by decide) (fun k8 => ?_) (fun k8 => ?_)
  · replace F := F.1 k8
    exact q_retV (pc := 51) dX0_settle_51 rfl F
  · replace F := F.2 k8
    refine z_aload_n (pc := 8) dX0_settle_8 rfl rfl ?_
    refine q_getR (pc := 9) (i := 42) dX0_settle_9 lk_RX0_21 (lyc rfl) (G 1 1 42 rfl) ?_
    refine z_aload_n (pc := 12) dX0_settle_12 rfl rfl ?_
    refine q_getR (pc := 13) (i := 2) dX0_settle_13 lk_RX0_12 (lyc rfl) (G 1 0 2 rfl) ?_
    refine z_iconst (pc := 16) (v := 5) dX0_settle_16 (by decide) ?_
    refine q_invV (pc := 17) (As := [.ref 2, .int 5]) (st := []) dX0_settle_17 ok_X2_make ml_RX0_46 iv_X2_make pa_X2_make ⟨Nat.le_of_ble_eq_true rfl, Nat.le_of_ble_eq_true rfl⟩ (lyc rfl) (q_kV F (fun h1 F => ?_))
    obtain ⟨G1, F⟩ := F
    refine z_aload_n (pc := 20) dX0_settle_20 rfl rfl ?_
    refine q_invV (pc := 21) (As := []) (st := []) dX0_settle_21 ok_X0_dyingBits ml_RX0_50 iv_X0_dyingBits pa_X0_dyingBits ⟨Nat.le_of_ble_eq_true rfl, Nat.le_of_ble_eq_true rfl⟩ (lyc rfl) (q_kI F (fun vh2 h2 F => ?_))
    obtain ⟨G2, F⟩ := F
    refine z_istore_n (pc := 24) (ls' := [some (.ref 1), some (.int x1), some (.int x2), some (.int vh2)]) dX0_settle_24 rfl (by decide) rfl ?_
    refine z_iload_n (pc := 25) dX0_settle_25 rfl rfl ?_
    refine z_if_ne (pc := 26) (tgt := 30) dX0_settle_26 (by decide) (fun k7 => ?_) (fun k7 => ?_)
    · replace F := F.1 k7
      refine z_iload_n (pc := 30) dX0_settle_30 rfl rfl ?_
      refine z_if_eq (pc := 31) (tgt := 40) dX0_settle_31 (by decide) (fun k6 => ?_) (fun k6 => ?_)
      · replace F := F.1 k6
        refine z_aload_n (pc := 40) dX0_settle_40 rfl rfl ?_
        refine z_iload_n (pc := 41) dX0_settle_41 rfl rfl ?_
        refine q_invV (pc := 42) (As := [.int vh2]) (st := []) dX0_settle_42 ok_X0_bury ml_RX0_58 iv_X0_bury pa_X0_bury ⟨Nat.le_of_ble_eq_true rfl, Nat.le_of_ble_eq_true rfl⟩ (lyc rfl) (q_kV F (fun h3 F => ?_))
        obtain ⟨G3, F⟩ := F
        refine z_iinc (pc := 45) (v := x2 + 1) (ls' := [some (.ref 1), some (.int x1), some (.int (x2 + 1)), some (.int vh2)]) dX0_settle_45 (by decide) rfl rfl rfl ?_
        refine z_goto (pc := 48) (tgt := 2) dX0_settle_48 (by decide) ?_
        exact q_sub (ls' := [some (.ref 1), some (.int x1), some (.int (x2 + 1)), none]) ⟨rfl, rfl, rfl, trivial⟩ F
      · replace F := F.2 k6
        refine z_aload_n (pc := 34) dX0_settle_34 rfl rfl ?_
        refine z_iconst (pc := 35) (v := 1) dX0_settle_35 (by decide) ?_
        refine z_iload_n (pc := 36) dX0_settle_36 rfl rfl ?_
        refine q_invV (pc := 37) (As := [.int 1, .int vh2]) (st := []) dX0_settle_37 ok_X0_setOff ml_RX0_54 iv_X0_setOff pa_X0_setOff ⟨Nat.le_of_ble_eq_true rfl, Nat.le_of_ble_eq_true rfl⟩ (lyc rfl) (q_kV F (fun h4 F => ?_))
        obtain ⟨G4, F⟩ := F
        refine z_aload_n (pc := 40) dX0_settle_40 rfl rfl ?_
        refine z_iload_n (pc := 41) dX0_settle_41 rfl rfl ?_
        refine q_invV (pc := 42) (As := [.int vh2]) (st := []) dX0_settle_42 ok_X0_bury ml_RX0_58 iv_X0_bury pa_X0_bury ⟨Nat.le_of_ble_eq_true rfl, Nat.le_of_ble_eq_true rfl⟩ (lyc rfl) (q_kV F (fun h5 F => ?_))
        obtain ⟨G5, F⟩ := F
        refine z_iinc (pc := 45) (v := x2 + 1) (ls' := [some (.ref 1), some (.int x1), some (.int (x2 + 1)), some (.int vh2)]) dX0_settle_45 (by decide) rfl rfl rfl ?_
        refine z_goto (pc := 48) (tgt := 2) dX0_settle_48 (by decide) ?_
        exact q_sub (ls' := [some (.ref 1), some (.int x1), some (.int (x2 + 1)), none]) ⟨rfl, rfl, rfl, trivial⟩ F
    · replace F := F.2 k7
      exact q_retV (pc := 29) dX0_settle_29 rfl F
theorem g_X0_dyingBits  {h : zHp} {Q : Int32 → zHp → Prop}  (G : zG h) (F : zlI M_X0_dyingBits 4 [some (.ref 1), some (.int 0), some (.int 0)] [] h Q) : zcI M_X0_dyingBits [.ref 1] h Q := by
  show zw zNT zNT M_X0_dyingBits 0 [some (.ref 1), none, none] [] h _
  refine z_iconst (pc := 0) (v := 0) dX0_dyingBits_0 (by decide) ?_
  refine z_istore_n (pc := 1) (ls' := [some (.ref 1), some (.int 0), none]) dX0_dyingBits_1 rfl (by decide) rfl ?_
  refine z_iconst (pc := 2) (v := 0) dX0_dyingBits_2 (by decide) ?_
  refine z_istore_n (pc := 3) (ls' := [some (.ref 1), some (.int 0), some (.int 0)]) dX0_dyingBits_3 rfl (by decide) rfl ?_
  exact F
theorem g_X0_dyingBits_4 {x1 : Int32} {x2 : Int32} {h : zHp} {Q : Int32 → zHp → Prop}  (G : zG h) (F : (rI h 2 1 ≤ x2 → (Q x1 h)) ∧ (¬ (rI h 2 1 ≤ x2) → (vp_in x2 8 ∧ ((rI h (8 + (Int32.toNatClampNeg x2)) 5 = 0 → (zlI M_X0_dyingBits 4 [some (.ref 1), some (.int x1), some (.int (x2 + 1))] [] h Q)) ∧ (¬ (rI h (8 + (Int32.toNatClampNeg x2)) 5 = 0) → ((rI h (8 + (Int32.toNatClampNeg x2)) 4 < rI h 46 ((Int32.toNatClampNeg x2)) → (zlI M_X0_dyingBits 4 [some (.ref 1), some (.int x1), some (.int (x2 + 1))] [] h Q)) ∧ (¬ (rI h (8 + (Int32.toNatClampNeg x2)) 4 < rI h 46 ((Int32.toNatClampNeg x2))) → (zlI M_X0_dyingBits 4 [some (.ref 1), some (.int (x1 ||| (1 <<< (x2 &&& 31)))), some (.int (x2 + 1))] [] h Q)))))))) : zlI M_X0_dyingBits 4 [some (.ref 1), some (.int x1), some (.int x2)] [] h Q := by
  refine z_iload_n (pc := 4) dX0_dyingBits_4 rfl rfl ?_
  refine z_aload_n (pc := 5) dX0_dyingBits_5 rfl rfl ?_
  refine q_getR (pc := 6) (i := 2) dX0_dyingBits_6 lk_RX0_12 (lyc rfl) (G 1 0 2 rfl) ?_
  refine q_getI (pc := 9) (v := rI h 2 1) dX0_dyingBits_9 lk_RX0_62 (lyc rfl) rfl ?_
  refine z_icmp_ge (pc := 12) (tgt := 66) dX0_dyingBits_12 (by decide) (fun k4 => ?_) (fun k4 => ?_)
  · replace F := F.1 k4
    refine z_iload_n (pc := 66) dX0_dyingBits_66 rfl rfl ?_
    exact q_retI (pc := 67) dX0_dyingBits_67 rfl F
  · replace F := F.2 k4
    refine z_aload_n (pc := 15) dX0_dyingBits_15 rfl rfl ?_
    refine q_getR (pc := 16) (i := 2) dX0_dyingBits_16 lk_RX0_12 (lyc rfl) (G 1 0 2 rfl) ?_
    refine q_getR (pc := 19) (i := 3) dX0_dyingBits_19 lk_RX0_65 (lyc rfl) (G 2 0 3 rfl) ?_
    refine z_iload_n (pc := 22) dX0_dyingBits_22 rfl rfl ?_
    obtain ⟨k1, F⟩ := F
    refine q_aald (pc := 23) (j := (Int32.toNatClampNeg x2)) (r := 8 + (Int32.toNatClampNeg x2)) (t := 0) dX0_dyingBits_23 (lyc rfl) (zvn (lnc rfl) k1) rfl (grT (B := 2) G (Or.inl rfl) (zvi k1)) ?_
    refine q_getI (pc := 24) (v := rI h (8 + (Int32.toNatClampNeg x2)) 5) dX0_dyingBits_24 lk_RX0_69 (lyT (B := 2) (Or.inl rfl) (zvi k1)) rfl ?_
    refine z_if_eq (pc := 27) (tgt := 60) dX0_dyingBits_27 (by decide) (fun k3 => ?_) (fun k3 => ?_)
    · replace F := F.1 k3
      refine z_iinc (pc := 60) (v := x2 + 1) (ls' := [some (.ref 1), some (.int x1), some (.int (x2 + 1))]) dX0_dyingBits_60 (by decide) rfl rfl rfl ?_
      refine z_goto (pc := 63) (tgt := 4) dX0_dyingBits_63 (by decide) ?_
      exact F
    · replace F := F.2 k3
      refine z_aload_n (pc := 30) dX0_dyingBits_30 rfl rfl ?_
      refine q_getR (pc := 31) (i := 2) dX0_dyingBits_31 lk_RX0_12 (lyc rfl) (G 1 0 2 rfl) ?_
      refine q_getR (pc := 34) (i := 3) dX0_dyingBits_34 lk_RX0_65 (lyc rfl) (G 2 0 3 rfl) ?_
      refine z_iload_n (pc := 37) dX0_dyingBits_37 rfl rfl ?_
      refine q_aald (pc := 38) (j := (Int32.toNatClampNeg x2)) (r := 8 + (Int32.toNatClampNeg x2)) (t := 0) dX0_dyingBits_38 (lyc rfl) (zvn (lnc rfl) k1) rfl (grT (B := 2) G (Or.inl rfl) (zvi k1)) ?_
      refine q_getI (pc := 39) (v := rI h (8 + (Int32.toNatClampNeg x2)) 4) dX0_dyingBits_39 lk_RX0_75 (lyT (B := 2) (Or.inl rfl) (zvi k1)) rfl ?_
      refine z_aload_n (pc := 42) dX0_dyingBits_42 rfl rfl ?_
      refine q_getR (pc := 43) (i := 42) dX0_dyingBits_43 lk_RX0_21 (lyc rfl) (G 1 1 42 rfl) ?_
      refine q_getR (pc := 46) (i := 46) dX0_dyingBits_46 lk_RX0_78 (lyc rfl) (G 42 3 46 rfl) ?_
      refine z_iload_n (pc := 49) dX0_dyingBits_49 rfl rfl ?_
      refine q_iald (pc := 50) (j := (Int32.toNatClampNeg x2)) (v := rI h 46 ((Int32.toNatClampNeg x2))) dX0_dyingBits_50 (lyc rfl) (zvn (lnc rfl) k1) rfl rfl ?_
      refine z_icmp_lt (pc := 51) (tgt := 60) dX0_dyingBits_51 (by decide) (fun k2 => ?_) (fun k2 => ?_)
      · replace F := F.1 k2
        refine z_iinc (pc := 60) (v := x2 + 1) (ls' := [some (.ref 1), some (.int x1), some (.int (x2 + 1))]) dX0_dyingBits_60 (by decide) rfl rfl rfl ?_
        refine z_goto (pc := 63) (tgt := 4) dX0_dyingBits_63 (by decide) ?_
        exact F
      · replace F := F.2 k2
        refine z_iload_n (pc := 54) dX0_dyingBits_54 rfl rfl ?_
        refine z_iconst (pc := 55) (v := 1) dX0_dyingBits_55 (by decide) ?_
        refine z_iload_n (pc := 56) dX0_dyingBits_56 rfl rfl ?_
        refine z_ishl (pc := 57) dX0_dyingBits_57 ?_
        refine z_ior (pc := 58) dX0_dyingBits_58 ?_
        refine z_istore_n (pc := 59) (ls' := [some (.ref 1), some (.int (x1 ||| (1 <<< (x2 &&& 31)))), some (.int x2)]) dX0_dyingBits_59 rfl (by decide) rfl ?_
        refine z_iinc (pc := 60) (v := x2 + 1) (ls' := [some (.ref 1), some (.int (x1 ||| (1 <<< (x2 &&& 31)))), some (.int (x2 + 1))]) dX0_dyingBits_60 (by decide) rfl rfl rfl ?_
        refine z_goto (pc := 63) (tgt := 4) dX0_dyingBits_63 (by decide) ?_
        exact F
theorem g_X0_bury {x1 : Int32} {h : zHp} {Q : zHp → Prop}  (G : zG h) (F : zlV M_X0_bury 2 [some (.ref 1), some (.int x1), some (.int 0)] [] h Q) : zcV M_X0_bury [.ref 1, .int x1] h Q := by
  show zw zNT zNT M_X0_bury 0 [some (.ref 1), some (.int x1), none] [] h _
  refine z_iconst (pc := 0) (v := 0) dX0_bury_0 (by decide) ?_
  refine z_istore_n (pc := 1) (ls' := [some (.ref 1), some (.int x1), some (.int 0)]) dX0_bury_1 rfl (by decide) rfl ?_
  exact F
theorem g_X0_bury_2 {x1 : Int32} {x2 : Int32} {h : zHp} {Q : zHp → Prop}  (G : zG h) (F : (rI h 2 1 ≤ x2 → (Q h)) ∧ (¬ (rI h 2 1 ≤ x2) → (((x1 >>> (x2 &&& 31)) &&& 1 = 0 → (zlV M_X0_bury 2 [some (.ref 1), some (.int x1), some (.int (x2 + 1))] [] h Q)) ∧ (¬ ((x1 >>> (x2 &&& 31)) &&& 1 = 0) → (vp_in x2 8 ∧ (zcV M_X2_remember [.ref 42, .ref (8 + (Int32.toNatClampNeg x2)), .int x2] h (fun h1 => zG h1 ∧ (zlV M_X0_bury 2 [some (.ref 1), some (.int x1), some (.int (x2 + 1))] [] (wI h1 (8 + (Int32.toNatClampNeg x2)) 5 0) Q)))))))) : zlV M_X0_bury 2 [some (.ref 1), some (.int x1), some (.int x2)] [] h Q := by
  refine z_iload_n (pc := 2) dX0_bury_2 rfl rfl ?_
  refine z_aload_n (pc := 3) dX0_bury_3 rfl rfl ?_
  refine q_getR (pc := 4) (i := 2) dX0_bury_4 lk_RX0_12 (lyc rfl) (G 1 0 2 rfl) ?_
  refine q_getI (pc := 7) (v := rI h 2 1) dX0_bury_7 lk_RX0_62 (lyc rfl) rfl ?_
  refine z_icmp_ge (pc := 10) (tgt := 57) dX0_bury_10 (by decide) (fun k4 => ?_) (fun k4 => ?_)
  · replace F := F.1 k4
    exact q_retV (pc := 57) dX0_bury_57 rfl F
  · replace F := F.2 k4
    refine z_iload_n (pc := 13) dX0_bury_13 rfl rfl ?_
    refine z_iload_n (pc := 14) dX0_bury_14 rfl rfl ?_
    refine z_ishr (pc := 15) dX0_bury_15 ?_
    refine z_iconst (pc := 16) (v := 1) dX0_bury_16 (by decide) ?_
    refine z_iand (pc := 17) dX0_bury_17 ?_
    refine z_if_eq (pc := 18) (tgt := 51) dX0_bury_18 (by decide) (fun k3 => ?_) (fun k3 => ?_)
    · replace F := F.1 k3
      refine z_iinc (pc := 51) (v := x2 + 1) (ls' := [some (.ref 1), some (.int x1), some (.int (x2 + 1))]) dX0_bury_51 (by decide) rfl rfl rfl ?_
      refine z_goto (pc := 54) (tgt := 2) dX0_bury_54 (by decide) ?_
      exact F
    · replace F := F.2 k3
      refine z_aload_n (pc := 21) dX0_bury_21 rfl rfl ?_
      refine q_getR (pc := 22) (i := 42) dX0_bury_22 lk_RX0_21 (lyc rfl) (G 1 1 42 rfl) ?_
      refine z_aload_n (pc := 25) dX0_bury_25 rfl rfl ?_
      refine q_getR (pc := 26) (i := 2) dX0_bury_26 lk_RX0_12 (lyc rfl) (G 1 0 2 rfl) ?_
      refine q_getR (pc := 29) (i := 3) dX0_bury_29 lk_RX0_65 (lyc rfl) (G 2 0 3 rfl) ?_
      refine z_iload_n (pc := 32) dX0_bury_32 rfl rfl ?_
      obtain ⟨k1, F⟩ := F
      refine q_aald (pc := 33) (j := (Int32.toNatClampNeg x2)) (r := 8 + (Int32.toNatClampNeg x2)) (t := 0) dX0_bury_33 (lyc rfl) (zvn (lnc rfl) k1) rfl (grT (B := 2) G (Or.inl rfl) (zvi k1)) ?_
      refine z_iload_n (pc := 34) dX0_bury_34 rfl rfl ?_
      refine q_invV (pc := 35) (As := [.ref (8 + (Int32.toNatClampNeg x2)), .int x2]) (st := []) dX0_bury_35 ok_X2_remember ml_RX0_81 iv_X2_remember pa_X2_remember ⟨Nat.le_of_ble_eq_true rfl, Nat.le_of_ble_eq_true rfl⟩ (lyc rfl) (q_kV F (fun h1 F => ?_))
      obtain ⟨G1, F⟩ := F
      refine z_aload_n (pc := 38) dX0_bury_38 rfl rfl ?_
      refine q_getR (pc := 39) (i := 2) dX0_bury_39 lk_RX0_12 (lyc rfl) (G1 1 0 2 rfl) ?_
      refine q_getR (pc := 42) (i := 3) dX0_bury_42 lk_RX0_65 (lyc rfl) (G1 2 0 3 rfl) ?_
      refine z_iload_n (pc := 45) dX0_bury_45 rfl rfl ?_
      refine q_aald (pc := 46) (j := (Int32.toNatClampNeg x2)) (r := 8 + (Int32.toNatClampNeg x2)) (t := 0) dX0_bury_46 (lyc rfl) (zvn (lnc rfl) k1) rfl (grT (B := 2) G1 (Or.inl rfl) (zvi k1)) ?_
      refine z_iconst (pc := 47) (v := 0) dX0_bury_47 (by decide) ?_
      refine q_putB (pc := 48) dX0_bury_48 lk_RX0_69 (lyT (B := 2) (Or.inl rfl) (zvi k1)) (Or.inl rfl) ?_
      refine z_iinc (pc := 51) (v := x2 + 1) (ls' := [some (.ref 1), some (.int x1), some (.int (x2 + 1))]) dX0_bury_51 (by decide) rfl rfl rfl ?_
      refine z_goto (pc := 54) (tgt := 2) dX0_bury_54 (by decide) ?_
      exact F
theorem g_X0_setOffByTurn  {h : zHp} {Q : zHp → Prop}  (G : zG h) (F : zlV M_X0_setOffByTurn 2 [some (.ref 1), some (.int 0)] [] h Q) : zcV M_X0_setOffByTurn [.ref 1] h Q := by
  show zw zNT zNT M_X0_setOffByTurn 0 [some (.ref 1), none] [] h _
  refine z_iconst (pc := 0) (v := 0) dX0_setOffByTurn_0 (by decide) ?_
  refine z_istore_n (pc := 1) (ls' := [some (.ref 1), some (.int 0)]) dX0_setOffByTurn_1 rfl (by decide) rfl ?_
  exact F
theorem g_X0_setOffByTurn_2 {x1 : Int32} {h : zHp} {Q : zHp → Prop}  (G : zG h) (F : (rI h 2 7 ≤ x1 → (Q h)) ∧ (¬ (rI h 2 7 ≤ x1) → (vp_in x1 8 ∧ (zRef h 6 ((Int32.toNatClampNeg x1)) 8 ∧ ((¬ rI h (rG h 6 ((Int32.toNatClampNeg x1))) 0 = rI h 2 9 → (zlV M_X0_setOffByTurn 2 [some (.ref 1), some (.int (x1 + 1))] [] h Q)) ∧ (rI h (rG h 6 ((Int32.toNatClampNeg x1))) 0 = rI h 2 9 → ((¬ rI h (rG h 6 ((Int32.toNatClampNeg x1))) 1 = 2 → (zlV M_X0_setOffByTurn 2 [some (.ref 1), some (.int (x1 + 1))] [] h Q)) ∧ (rI h (rG h 6 ((Int32.toNatClampNeg x1))) 1 = 2 → (zcV M_X0_push [.ref 1, .int x1, .int (-1)] h (fun h1 => zG h1 ∧ (zlV M_X0_setOffByTurn 2 [some (.ref 1), some (.int (x1 + 1))] [] h1 Q))))))))))) : zlV M_X0_setOffByTurn 2 [some (.ref 1), some (.int x1)] [] h Q := by
  refine z_iload_n (pc := 2) dX0_setOffByTurn_2 rfl rfl ?_
  refine z_aload_n (pc := 3) dX0_setOffByTurn_3 rfl rfl ?_
  refine q_getR (pc := 4) (i := 2) dX0_setOffByTurn_4 lk_RX0_12 (lyc rfl) (G 1 0 2 rfl) ?_
  refine q_getI (pc := 7) (v := rI h 2 7) dX0_setOffByTurn_7 lk_RX0_85 (lyc rfl) rfl ?_
  refine z_icmp_ge (pc := 10) (tgt := 63) dX0_setOffByTurn_10 (by decide) (fun k6 => ?_) (fun k6 => ?_)
  · replace F := F.1 k6
    exact q_retV (pc := 63) dX0_setOffByTurn_63 rfl F
  · replace F := F.2 k6
    refine z_aload_n (pc := 13) dX0_setOffByTurn_13 rfl rfl ?_
    refine q_getR (pc := 14) (i := 2) dX0_setOffByTurn_14 lk_RX0_12 (lyc rfl) (G 1 0 2 rfl) ?_
    refine q_getR (pc := 17) (i := 6) dX0_setOffByTurn_17 lk_RX0_88 (lyc rfl) (G 2 6 6 rfl) ?_
    refine z_iload_n (pc := 20) dX0_setOffByTurn_20 rfl rfl ?_
    obtain ⟨k1, F⟩ := F
    obtain ⟨k2, F⟩ := F
    refine q_aald (pc := 21) (j := (Int32.toNatClampNeg x1)) (r := rG h 6 ((Int32.toNatClampNeg x1))) (t := 3) dX0_setOffByTurn_21 (lyc rfl) (zvn (lnc rfl) k1) rfl k2.1 ?_
    refine q_getI (pc := 22) (v := rI h (rG h 6 ((Int32.toNatClampNeg x1))) 0) dX0_setOffByTurn_22 lk_RX0_92 k2.2 rfl ?_
    refine z_aload_n (pc := 25) dX0_setOffByTurn_25 rfl rfl ?_
    refine q_getR (pc := 26) (i := 2) dX0_setOffByTurn_26 lk_RX0_12 (lyc rfl) (G 1 0 2 rfl) ?_
    refine q_getI (pc := 29) (v := rI h 2 9) dX0_setOffByTurn_29 lk_RX0_97 (lyc rfl) rfl ?_
    refine z_icmp_ne (pc := 32) (tgt := 57) dX0_setOffByTurn_32 (by decide) (fun k5 => ?_) (fun k5 => ?_)
    · replace F := F.1 k5
      refine z_iinc (pc := 57) (v := x1 + 1) (ls' := [some (.ref 1), some (.int (x1 + 1))]) dX0_setOffByTurn_57 (by decide) rfl rfl rfl ?_
      refine z_goto (pc := 60) (tgt := 2) dX0_setOffByTurn_60 (by decide) ?_
      exact F
    · replace F := F.2 k5
      refine z_aload_n (pc := 35) dX0_setOffByTurn_35 rfl rfl ?_
      refine q_getR (pc := 36) (i := 2) dX0_setOffByTurn_36 lk_RX0_12 (lyc rfl) (G 1 0 2 rfl) ?_
      refine q_getR (pc := 39) (i := 6) dX0_setOffByTurn_39 lk_RX0_88 (lyc rfl) (G 2 6 6 rfl) ?_
      refine z_iload_n (pc := 42) dX0_setOffByTurn_42 rfl rfl ?_
      refine q_aald (pc := 43) (j := (Int32.toNatClampNeg x1)) (r := rG h 6 ((Int32.toNatClampNeg x1))) (t := 3) dX0_setOffByTurn_43 (lyc rfl) (zvn (lnc rfl) k1) rfl k2.1 ?_
      refine q_getI (pc := 44) (v := rI h (rG h 6 ((Int32.toNatClampNeg x1))) 1) dX0_setOffByTurn_44 lk_RX0_100 k2.2 rfl ?_
      refine z_iconst (pc := 47) (v := 2) dX0_setOffByTurn_47 (by decide) ?_
      refine z_icmp_ne (pc := 48) (tgt := 57) dX0_setOffByTurn_48 (by decide) (fun k4 => ?_) (fun k4 => ?_)
      · replace F := F.1 k4
        refine z_iinc (pc := 57) (v := x1 + 1) (ls' := [some (.ref 1), some (.int (x1 + 1))]) dX0_setOffByTurn_57 (by decide) rfl rfl rfl ?_
        refine z_goto (pc := 60) (tgt := 2) dX0_setOffByTurn_60 (by decide) ?_
        exact F
      · replace F := F.2 k4
        refine z_aload_n (pc := 51) dX0_setOffByTurn_51 rfl rfl ?_
        refine z_iload_n (pc := 52) dX0_setOffByTurn_52 rfl rfl ?_
        refine z_iconst (pc := 53) (v := -1) dX0_setOffByTurn_53 (by decide) ?_
        refine q_invV (pc := 54) (As := [.int x1, .int (-1)]) (st := []) dX0_setOffByTurn_54 ok_X0_push ml_RX0_103 iv_X0_push pa_X0_push ⟨Nat.le_of_ble_eq_true rfl, Nat.le_of_ble_eq_true rfl⟩ (lyc rfl) (q_kV F (fun h1 F => ?_))
        obtain ⟨G1, F⟩ := F
        refine z_iinc (pc := 57) (v := x1 + 1) (ls' := [some (.ref 1), some (.int (x1 + 1))]) dX0_setOffByTurn_57 (by decide) rfl rfl rfl ?_
        refine z_goto (pc := 60) (tgt := 2) dX0_setOffByTurn_60 (by decide) ?_
        exact F
theorem g_X0_setOff {x1 : Int32} {x2 : Int32} {h : zHp} {Q : zHp → Prop}  (G : zG h) (F : zcV M_X0_setOffOf [.ref 1, .int (rI h 2 9), .int x1, .int x2] h (fun h1 => zG h1 ∧ (zcV M_X0_setOffOf [.ref 1, .int (1 - (rI h1 2 9)), .int x1, .int x2] h1 (fun h2 => zG h2 ∧ (Q h2))))) : zcV M_X0_setOff [.ref 1, .int x1, .int x2] h Q := by
  show zw zNT zNT M_X0_setOff 0 [some (.ref 1), some (.int x1), some (.int x2)] [] h _
  refine z_aload_n (pc := 0) dX0_setOff_0 rfl rfl ?_
  refine z_aload_n (pc := 1) dX0_setOff_1 rfl rfl ?_
  refine q_getR (pc := 2) (i := 2) dX0_setOff_2 lk_RX0_12 (lyc rfl) (G 1 0 2 rfl) ?_
  refine q_getI (pc := 5) (v := rI h 2 9) dX0_setOff_5 lk_RX0_97 (lyc rfl) rfl ?_
  refine z_iload_n (pc := 8) dX0_setOff_8 rfl rfl ?_
  refine z_iload_n (pc := 9) dX0_setOff_9 rfl rfl ?_
  refine q_invV (pc := 10) (As := [.int (rI h 2 9), .int x1, .int x2]) (st := []) dX0_setOff_10 ok_X0_setOffOf ml_RX0_106 iv_X0_setOffOf pa_X0_setOffOf ⟨Nat.le_of_ble_eq_true rfl, Nat.le_of_ble_eq_true rfl⟩ (lyc rfl) (q_kV F (fun h1 F => ?_))
  obtain ⟨G1, F⟩ := F
  refine z_aload_n (pc := 13) dX0_setOff_13 rfl rfl ?_
  refine z_iconst (pc := 14) (v := 1) dX0_setOff_14 (by decide) ?_
  refine z_aload_n (pc := 15) dX0_setOff_15 rfl rfl ?_
  refine q_getR (pc := 16) (i := 2) dX0_setOff_16 lk_RX0_12 (lyc rfl) (G1 1 0 2 rfl) ?_
  refine q_getI (pc := 19) (v := rI h1 2 9) dX0_setOff_19 lk_RX0_97 (lyc rfl) rfl ?_
  refine z_isub (pc := 22) dX0_setOff_22 ?_
  refine z_iload_n (pc := 23) dX0_setOff_23 rfl rfl ?_
  refine z_iload_n (pc := 24) dX0_setOff_24 rfl rfl ?_
  refine q_invV (pc := 25) (As := [.int (1 - (rI h1 2 9)), .int x1, .int x2]) (st := []) dX0_setOff_25 ok_X0_setOffOf ml_RX0_106 iv_X0_setOffOf pa_X0_setOffOf ⟨Nat.le_of_ble_eq_true rfl, Nat.le_of_ble_eq_true rfl⟩ (lyc rfl) (q_kV F (fun h2 F => ?_))
  obtain ⟨G2, F⟩ := F
  exact q_retV (pc := 28) dX0_setOff_28 rfl F
theorem g_X0_setOffOf {x1 : Int32} {x2 : Int32} {x3 : Int32} {h : zHp} {Q : zHp → Prop}  (G : zG h) (F : zlV M_X0_setOffOf 3 [some (.ref 1), some (.int x1), some (.int x2), some (.int x3), some (.int 0), none, none] [] h Q) : zcV M_X0_setOffOf [.ref 1, .int x1, .int x2, .int x3] h Q := by
  show zw zNT zNT M_X0_setOffOf 0 [some (.ref 1), some (.int x1), some (.int x2), some (.int x3), none, none, none] [] h _
  refine z_iconst (pc := 0) (v := 0) dX0_setOffOf_0 (by decide) ?_
  refine z_istore (pc := 1) (ls' := [some (.ref 1), some (.int x1), some (.int x2), some (.int x3), some (.int 0), none, none]) dX0_setOffOf_1 (by decide) rfl ?_
  exact F
theorem g_X0_setOffOf_3 {x1 : Int32} {x2 : Int32} {x3 : Int32} {x4 : Int32} {h : zHp} {Q : zHp → Prop}  (G : zG h) (F : (rI h 2 7 ≤ x4 → (Q h)) ∧ (¬ (rI h 2 7 ≤ x4) → (vp_in x4 8 ∧ (zRef h 6 ((Int32.toNatClampNeg x4)) 8 ∧ ((¬ rI h (rG h 6 ((Int32.toNatClampNeg x4))) 0 = x1 → (zlV M_X0_setOffOf 3 [some (.ref 1), some (.int x1), some (.int x2), some (.int x3), some (.int (x4 + 1)), none, none] [] h Q)) ∧ (rI h (rG h 6 ((Int32.toNatClampNeg x4))) 0 = x1 → ((¬ rI h (rG h 6 ((Int32.toNatClampNeg x4))) 1 = x2 → (zlV M_X0_setOffOf 3 [some (.ref 1), some (.int x1), some (.int x2), some (.int x3), some (.int (x4 + 1)), none, none] [] h Q)) ∧ (rI h (rG h 6 ((Int32.toNatClampNeg x4))) 1 = x2 → (zlV M_X0_setOffOf 48 [some (.ref 1), some (.int x1), some (.int x2), some (.int x3), some (.int x4), some (.ref (rG h 6 ((Int32.toNatClampNeg x4)))), some (.int 0)] [] h Q))))))))) : zlV M_X0_setOffOf 3 [some (.ref 1), some (.int x1), some (.int x2), some (.int x3), some (.int x4), none, none] [] h Q := by
  refine z_iload (pc := 3) dX0_setOffOf_3 rfl ?_
  refine z_aload_n (pc := 5) dX0_setOffOf_5 rfl rfl ?_
  refine q_getR (pc := 6) (i := 2) dX0_setOffOf_6 lk_RX0_12 (lyc rfl) (G 1 0 2 rfl) ?_
  refine q_getI (pc := 9) (v := rI h 2 7) dX0_setOffOf_9 lk_RX0_85 (lyc rfl) rfl ?_
  refine z_icmp_ge (pc := 12) (tgt := 115) dX0_setOffOf_12 (by decide) (fun k5 => ?_) (fun k5 => ?_)
  · replace F := F.1 k5
    exact q_retV (pc := 115) dX0_setOffOf_115 rfl F
  · replace F := F.2 k5
    refine z_aload_n (pc := 15) dX0_setOffOf_15 rfl rfl ?_
    refine q_getR (pc := 16) (i := 2) dX0_setOffOf_16 lk_RX0_12 (lyc rfl) (G 1 0 2 rfl) ?_
    refine q_getR (pc := 19) (i := 6) dX0_setOffOf_19 lk_RX0_88 (lyc rfl) (G 2 6 6 rfl) ?_
    refine z_iload (pc := 22) dX0_setOffOf_22 rfl ?_
    obtain ⟨k1, F⟩ := F
    obtain ⟨k2, F⟩ := F
    refine q_aald (pc := 24) (j := (Int32.toNatClampNeg x4)) (r := rG h 6 ((Int32.toNatClampNeg x4))) (t := 3) dX0_setOffOf_24 (lyc rfl) (zvn (lnc rfl) k1) rfl k2.1 ?_
    refine z_astore (pc := 25) (ls' := [some (.ref 1), some (.int x1), some (.int x2), some (.int x3), some (.int x4), some (.ref (rG h 6 ((Int32.toNatClampNeg x4)))), none]) dX0_setOffOf_25 (by decide) rfl ?_
    refine z_aload (pc := 27) dX0_setOffOf_27 rfl ?_
    refine q_getI (pc := 29) (v := rI h (rG h 6 ((Int32.toNatClampNeg x4))) 0) dX0_setOffOf_29 lk_RX0_92 k2.2 rfl ?_
    refine z_iload_n (pc := 32) dX0_setOffOf_32 rfl rfl ?_
    refine z_icmp_ne (pc := 33) (tgt := 109) dX0_setOffOf_33 (by decide) (fun k4 => ?_) (fun k4 => ?_)
    · replace F := F.1 k4
      refine z_iinc (pc := 109) (v := x4 + 1) (ls' := [some (.ref 1), some (.int x1), some (.int x2), some (.int x3), some (.int (x4 + 1)), some (.ref (rG h 6 ((Int32.toNatClampNeg x4)))), none]) dX0_setOffOf_109 (by decide) rfl rfl rfl ?_
      refine z_goto (pc := 112) (tgt := 3) dX0_setOffOf_112 (by decide) ?_
      exact q_sub (ls' := [some (.ref 1), some (.int x1), some (.int x2), some (.int x3), some (.int (x4 + 1)), none, none]) ⟨rfl, rfl, rfl, rfl, rfl, trivial⟩ F
    · replace F := F.2 k4
      refine z_aload (pc := 36) dX0_setOffOf_36 rfl ?_
      refine q_getI (pc := 38) (v := rI h (rG h 6 ((Int32.toNatClampNeg x4))) 1) dX0_setOffOf_38 lk_RX0_100 k2.2 rfl ?_
      refine z_iload_n (pc := 41) dX0_setOffOf_41 rfl rfl ?_
      refine z_icmp_ne (pc := 42) (tgt := 109) dX0_setOffOf_42 (by decide) (fun k3 => ?_) (fun k3 => ?_)
      · replace F := F.1 k3
        refine z_iinc (pc := 109) (v := x4 + 1) (ls' := [some (.ref 1), some (.int x1), some (.int x2), some (.int x3), some (.int (x4 + 1)), some (.ref (rG h 6 ((Int32.toNatClampNeg x4)))), none]) dX0_setOffOf_109 (by decide) rfl rfl rfl ?_
        refine z_goto (pc := 112) (tgt := 3) dX0_setOffOf_112 (by decide) ?_
        exact q_sub (ls' := [some (.ref 1), some (.int x1), some (.int x2), some (.int x3), some (.int (x4 + 1)), none, none]) ⟨rfl, rfl, rfl, rfl, rfl, trivial⟩ F
      · replace F := F.2 k3
        refine z_iconst (pc := 45) (v := 0) dX0_setOffOf_45 (by decide) ?_
        refine z_istore (pc := 46) (ls' := [some (.ref 1), some (.int x1), some (.int x2), some (.int x3), some (.int x4), some (.ref (rG h 6 ((Int32.toNatClampNeg x4)))), some (.int 0)]) dX0_setOffOf_46 (by decide) rfl ?_
        exact F
theorem g_X0_setOffOf_48 {x1 : Int32} {x2 : Int32} {x3 : Int32} {x4 : Int32} {c5 : Nat} {x6 : Int32} {h : zHp} {Q : zHp → Prop} (hc5 : ly c5 = 8) (G : zG h) (F : (rI h 2 1 ≤ x6 → (zlV M_X0_setOffOf 3 [some (.ref 1), some (.int x1), some (.int x2), some (.int x3), some (.int (x4 + 1)), none, none] [] h Q)) ∧ (¬ (rI h 2 1 ≤ x6) → (((x3 >>> (x6 &&& 31)) &&& 1 = 0 → (zlV M_X0_setOffOf 48 [some (.ref 1), some (.int x1), some (.int x2), some (.int x3), some (.int x4), some (.ref c5), some (.int (x6 + 1))] [] h Q)) ∧ (¬ ((x3 >>> (x6 &&& 31)) &&& 1 = 0) → (zcI M_X2_holds [.ref 42, .ref 2, .int x6, .int (rI h c5 5), .int (rI h c5 6)] h (fun vh1 h1 => zG h1 ∧ ((vh1 = 0 → (zlV M_X0_setOffOf 48 [some (.ref 1), some (.int x1), some (.int x2), some (.int x3), some (.int x4), some (.ref c5), some (.int (x6 + 1))] [] h1 Q)) ∧ (¬ (vh1 = 0) → (zcV M_X0_push [.ref 1, .int x4, .int x6] h1 (fun h2 => zG h2 ∧ (zlV M_X0_setOffOf 48 [some (.ref 1), some (.int x1), some (.int x2), some (.int x3), some (.int x4), some (.ref c5), some (.int (x6 + 1))] [] h2 Q))))))))))) : zlV M_X0_setOffOf 48 [some (.ref 1), some (.int x1), some (.int x2), some (.int x3), some (.int x4), some (.ref c5), some (.int x6)] [] h Q := by
  refine z_iload (pc := 48) dX0_setOffOf_48 rfl ?_
  refine z_aload_n (pc := 50) dX0_setOffOf_50 rfl rfl ?_
  refine q_getR (pc := 51) (i := 2) dX0_setOffOf_51 lk_RX0_12 (lyc rfl) (G 1 0 2 rfl) ?_
  refine q_getI (pc := 54) (v := rI h 2 1) dX0_setOffOf_54 lk_RX0_62 (lyc rfl) rfl ?_
  refine z_icmp_ge (pc := 57) (tgt := 109) dX0_setOffOf_57 (by decide) (fun k5 => ?_) (fun k5 => ?_)
  · replace F := F.1 k5
    refine z_iinc (pc := 109) (v := x4 + 1) (ls' := [some (.ref 1), some (.int x1), some (.int x2), some (.int x3), some (.int (x4 + 1)), some (.ref c5), some (.int x6)]) dX0_setOffOf_109 (by decide) rfl rfl rfl ?_
    refine z_goto (pc := 112) (tgt := 3) dX0_setOffOf_112 (by decide) ?_
    exact q_sub (ls' := [some (.ref 1), some (.int x1), some (.int x2), some (.int x3), some (.int (x4 + 1)), none, none]) ⟨rfl, rfl, rfl, rfl, rfl, trivial⟩ F
  · replace F := F.2 k5
    refine z_iload_n (pc := 60) dX0_setOffOf_60 rfl rfl ?_
    refine z_iload (pc := 61) dX0_setOffOf_61 rfl ?_
    refine z_ishr (pc := 63) dX0_setOffOf_63 ?_
    refine z_iconst (pc := 64) (v := 1) dX0_setOffOf_64 (by decide) ?_
    refine z_iand (pc := 65) dX0_setOffOf_65 ?_
    refine z_if_eq (pc := 66) (tgt := 103) dX0_setOffOf_66 (by decide) (fun k4 => ?_) (fun k4 => ?_)
    · replace F := F.1 k4
      refine z_iinc (pc := 103) (v := x6 + 1) (ls' := [some (.ref 1), some (.int x1), some (.int x2), some (.int x3), some (.int x4), some (.ref c5), some (.int (x6 + 1))]) dX0_setOffOf_103 (by decide) rfl rfl rfl ?_
      refine z_goto (pc := 106) (tgt := 48) dX0_setOffOf_106 (by decide) ?_
      exact F
    · replace F := F.2 k4
      refine z_aload_n (pc := 69) dX0_setOffOf_69 rfl rfl ?_
      refine q_getR (pc := 70) (i := 42) dX0_setOffOf_70 lk_RX0_21 (lyc rfl) (G 1 1 42 rfl) ?_
      refine z_aload_n (pc := 73) dX0_setOffOf_73 rfl rfl ?_
      refine q_getR (pc := 74) (i := 2) dX0_setOffOf_74 lk_RX0_12 (lyc rfl) (G 1 0 2 rfl) ?_
      refine z_iload (pc := 77) dX0_setOffOf_77 rfl ?_
      refine z_aload (pc := 79) dX0_setOffOf_79 rfl ?_
      refine q_getI (pc := 81) (v := rI h c5 5) dX0_setOffOf_81 lk_RX0_110 hc5 rfl ?_
      refine z_aload (pc := 84) dX0_setOffOf_84 rfl ?_
      refine q_getI (pc := 86) (v := rI h c5 6) dX0_setOffOf_86 lk_RX0_113 hc5 rfl ?_
      refine q_invV (pc := 89) (As := [.ref 2, .int x6, .int (rI h c5 5), .int (rI h c5 6)]) (st := []) dX0_setOffOf_89 ok_X2_holds ml_RX0_116 iv_X2_holds pa_X2_holds ⟨Nat.le_of_ble_eq_true rfl, Nat.le_of_ble_eq_true rfl⟩ (lyc rfl) (q_kI F (fun vh1 h1 F => ?_))
      obtain ⟨G1, F⟩ := F
      refine z_if_eq (pc := 92) (tgt := 103) dX0_setOffOf_92 (by decide) (fun k3 => ?_) (fun k3 => ?_)
      · replace F := F.1 k3
        refine z_iinc (pc := 103) (v := x6 + 1) (ls' := [some (.ref 1), some (.int x1), some (.int x2), some (.int x3), some (.int x4), some (.ref c5), some (.int (x6 + 1))]) dX0_setOffOf_103 (by decide) rfl rfl rfl ?_
        refine z_goto (pc := 106) (tgt := 48) dX0_setOffOf_106 (by decide) ?_
        exact F
      · replace F := F.2 k3
        refine z_aload_n (pc := 95) dX0_setOffOf_95 rfl rfl ?_
        refine z_iload (pc := 96) dX0_setOffOf_96 rfl ?_
        refine z_iload (pc := 98) dX0_setOffOf_98 rfl ?_
        refine q_invV (pc := 100) (As := [.int x4, .int x6]) (st := []) dX0_setOffOf_100 ok_X0_push ml_RX0_103 iv_X0_push pa_X0_push ⟨Nat.le_of_ble_eq_true rfl, Nat.le_of_ble_eq_true rfl⟩ (lyc rfl) (q_kV F (fun h2 F => ?_))
        obtain ⟨G2, F⟩ := F
        refine z_iinc (pc := 103) (v := x6 + 1) (ls' := [some (.ref 1), some (.int x1), some (.int x2), some (.int x3), some (.int x4), some (.ref c5), some (.int (x6 + 1))]) dX0_setOffOf_103 (by decide) rfl rfl rfl ?_
        refine z_goto (pc := 106) (tgt := 48) dX0_setOffOf_106 (by decide) ?_
        exact F
theorem g_X0_push {x1 : Int32} {x2 : Int32} {h : zHp} {Q : zHp → Prop}  (G : zG h) (F : (rI h 1 5 < 0 → (Q h)) ∧ (¬ (rI h 1 5 < 0) → ((400 ≤ rI h 1 5 → (Q h)) ∧ (¬ (400 ≤ rI h 1 5) → (vp_in (rI h 1 5) 400 ∧ (Q (wI (wI (wI h 50 ((Int32.toNatClampNeg (rI h 1 5))) x1) 51 ((Int32.toNatClampNeg (rI h 1 5))) x2) 1 5 ((rI h 1 5) + 1)))))))) : zcV M_X0_push [.ref 1, .int x1, .int x2] h Q := by
  show zw zNT zNT M_X0_push 0 [some (.ref 1), some (.int x1), some (.int x2)] [] h _
  refine z_aload_n (pc := 0) dX0_push_0 rfl rfl ?_
  refine q_getI (pc := 1) (v := rI h 1 5) dX0_push_1 lk_RX0_42 (lyc rfl) rfl ?_
  refine z_if_lt (pc := 4) (tgt := 47) dX0_push_4 (by decide) (fun k3 => ?_) (fun k3 => ?_)
  · replace F := F.1 k3
    exact q_retV (pc := 47) dX0_push_47 rfl F
  · replace F := F.2 k3
    refine z_aload_n (pc := 7) dX0_push_7 rfl rfl ?_
    refine q_getI (pc := 8) (v := rI h 1 5) dX0_push_8 lk_RX0_42 (lyc rfl) rfl ?_
    refine z_sipush (pc := 11) (v := 400) dX0_push_11 (by decide) ?_
    refine z_icmp_ge (pc := 14) (tgt := 47) dX0_push_14 (by decide) (fun k2 => ?_) (fun k2 => ?_)
    · replace F := F.1 k2
      exact q_retV (pc := 47) dX0_push_47 rfl F
    · replace F := F.2 k2
      refine z_aload_n (pc := 17) dX0_push_17 rfl rfl ?_
      refine q_getR (pc := 18) (i := 50) dX0_push_18 lk_RX0_32 (lyc rfl) (G 1 3 50 rfl) ?_
      refine z_aload_n (pc := 21) dX0_push_21 rfl rfl ?_
      refine q_getI (pc := 22) (v := rI h 1 5) dX0_push_22 lk_RX0_42 (lyc rfl) rfl ?_
      refine z_iload_n (pc := 25) dX0_push_25 rfl rfl ?_
      obtain ⟨k1, F⟩ := F
      refine q_iast (pc := 26) (j := (Int32.toNatClampNeg (rI h 1 5))) dX0_push_26 (lyc rfl) (zvn (lnc rfl) k1) rfl ?_
      refine z_aload_n (pc := 27) dX0_push_27 rfl rfl ?_
      refine q_getR (pc := 28) (i := 51) dX0_push_28 lk_RX0_36 (lyc rfl) (G 1 4 51 rfl) ?_
      refine z_aload_n (pc := 31) dX0_push_31 rfl rfl ?_
      refine q_getI (pc := 32) (v := rI h 1 5) dX0_push_32 lk_RX0_42 (lyc rfl) (rI_c (by decide)) ?_
      refine z_iload_n (pc := 35) dX0_push_35 rfl rfl ?_
      refine q_iast (pc := 36) (j := (Int32.toNatClampNeg (rI h 1 5))) dX0_push_36 (lyc rfl) (zvn (lnc rfl) k1) rfl ?_
      refine z_aload_n (pc := 37) dX0_push_37 rfl rfl ?_
      refine z_dup (pc := 38) dX0_push_38 rfl ?_
      refine q_getI (pc := 39) (v := rI h 1 5) dX0_push_39 lk_RX0_42 (lyc rfl) ((rI_c (by decide)).trans (rI_c (by decide))) ?_
      refine z_iconst (pc := 42) (v := 1) dX0_push_42 (by decide) ?_
      refine z_iadd (pc := 43) dX0_push_43 ?_
      refine q_putI (pc := 44) dX0_push_44 lk_RX0_42 (lyc rfl) ?_
      exact q_retV (pc := 47) dX0_push_47 rfl F
theorem g_X0_strike {x1 : Int32} {x2 : Int32} {h : zHp} {Q : zHp → Prop}  (G : zG h) (F : zcV M_X9_follow [.ref 48, .ref 2, .ref 42, .int x1, .int x2] h (fun h1 => zG h1 ∧ (zcV M_X0_spendRules [.ref 1] h1 (fun h2 => zG h2 ∧ (zcI M_X8_hasThing [.ref 2, .int (rI h2 48 0)] h2 (fun vh3 h3 => zG h3 ∧ ((¬ vh3 = 0 → (vp_in (rI h3 48 0) 8 ∧ ((rI h3 48 2 = 0 → ((rI h3 48 1 ≤ 0 → (Q h3)) ∧ (¬ (rI h3 48 1 ≤ 0) → (zcV M_X0_setOff [.ref 1, .int 0, .int (1 <<< ((rI h3 48 0) &&& 31))] (wI h3 (8 + (Int32.toNatClampNeg (rI h3 48 0))) 4 (if (rI h3 (8 + (Int32.toNatClampNeg (rI h3 48 0))) 4) + (rI h3 48 1) < (999 : Int32) then (rI h3 (8 + (Int32.toNatClampNeg (rI h3 48 0))) 4) + (rI h3 48 1) else 999)) (fun h4 => zG h4 ∧ (Q h4)))))) ∧ (¬ (rI h3 48 2 = 0) → (zcV M_X6_heal [.ref (8 + (Int32.toNatClampNeg (rI h3 48 0))), .int (rI h3 48 1)] h3 (fun h5 => zG h5 ∧ (Q h5))))))) ∧ (vh3 = 0 → (Q h3))))))))) : zcV M_X0_strike [.ref 1, .int x1, .int x2] h Q := by
  show zw zNT zNT M_X0_strike 0 [some (.ref 1), some (.int x1), some (.int x2), none] [] h _
  refine z_aload_n (pc := 0) dX0_strike_0 rfl rfl ?_
  refine q_getR (pc := 1) (i := 48) dX0_strike_1 lk_RX0_28 (lyc rfl) (G 1 2 48 rfl) ?_
  refine z_aload_n (pc := 4) dX0_strike_4 rfl rfl ?_
  refine q_getR (pc := 5) (i := 2) dX0_strike_5 lk_RX0_12 (lyc rfl) (G 1 0 2 rfl) ?_
  refine z_aload_n (pc := 8) dX0_strike_8 rfl rfl ?_
  refine q_getR (pc := 9) (i := 42) dX0_strike_9 lk_RX0_21 (lyc rfl) (G 1 1 42 rfl) ?_
  refine z_iload_n (pc := 12) dX0_strike_12 rfl rfl ?_
  refine z_iload_n (pc := 13) dX0_strike_13 rfl rfl ?_
  refine q_invV (pc := 14) (As := [.ref 2, .ref 42, .int x1, .int x2]) (st := []) dX0_strike_14 ok_X9_follow ml_RX0_120 iv_X9_follow pa_X9_follow ⟨Nat.le_of_ble_eq_true rfl, Nat.le_of_ble_eq_true rfl⟩ (lyc rfl) (q_kV F (fun h1 F => ?_))
  obtain ⟨G1, F⟩ := F
  refine z_aload_n (pc := 17) dX0_strike_17 rfl rfl ?_
  refine q_invV (pc := 18) (As := []) (st := []) dX0_strike_18 ok_X0_spendRules ml_RX0_124 iv_X0_spendRules pa_X0_spendRules ⟨Nat.le_of_ble_eq_true rfl, Nat.le_of_ble_eq_true rfl⟩ (lyc rfl) (q_kV F (fun h2 F => ?_))
  obtain ⟨G2, F⟩ := F
  refine z_aload_n (pc := 21) dX0_strike_21 rfl rfl ?_
  refine q_getR (pc := 22) (i := 2) dX0_strike_22 lk_RX0_12 (lyc rfl) (G2 1 0 2 rfl) ?_
  refine z_aload_n (pc := 25) dX0_strike_25 rfl rfl ?_
  refine q_getR (pc := 26) (i := 48) dX0_strike_26 lk_RX0_28 (lyc rfl) (G2 1 2 48 rfl) ?_
  refine q_getI (pc := 29) (v := rI h2 48 0) dX0_strike_29 lk_RX0_127 (lyc rfl) rfl ?_
  refine q_invV (pc := 32) (As := [.int (rI h2 48 0)]) (st := []) dX0_strike_32 ok_X8_hasThing ml_RX0_130 iv_X8_hasThing pa_X8_hasThing ⟨Nat.le_of_ble_eq_true rfl, Nat.le_of_ble_eq_true rfl⟩ (lyc rfl) (q_kI F (fun vh3 h3 F => ?_))
  obtain ⟨G3, F⟩ := F
  refine z_if_ne (pc := 35) (tgt := 39) dX0_strike_35 (by decide) (fun k9 => ?_) (fun k9 => ?_)
  · replace F := F.1 k9
    refine z_aload_n (pc := 39) dX0_strike_39 rfl rfl ?_
    refine q_getR (pc := 40) (i := 2) dX0_strike_40 lk_RX0_12 (lyc rfl) (G3 1 0 2 rfl) ?_
    refine q_getR (pc := 43) (i := 3) dX0_strike_43 lk_RX0_65 (lyc rfl) (G3 2 0 3 rfl) ?_
    refine z_aload_n (pc := 46) dX0_strike_46 rfl rfl ?_
    refine q_getR (pc := 47) (i := 48) dX0_strike_47 lk_RX0_28 (lyc rfl) (G3 1 2 48 rfl) ?_
    refine q_getI (pc := 50) (v := rI h3 48 0) dX0_strike_50 lk_RX0_127 (lyc rfl) rfl ?_
    obtain ⟨k4, F⟩ := F
    refine q_aald (pc := 53) (j := (Int32.toNatClampNeg (rI h3 48 0))) (r := 8 + (Int32.toNatClampNeg (rI h3 48 0))) (t := 0) dX0_strike_53 (lyc rfl) (zvn (lnc rfl) k4) rfl (grT (B := 2) G3 (Or.inl rfl) (zvi k4)) ?_
    refine z_astore_n (pc := 54) (ls' := [some (.ref 1), some (.int x1), some (.int x2), some (.ref (8 + (Int32.toNatClampNeg (rI h3 48 0))))]) dX0_strike_54 rfl (by decide) rfl ?_
    refine z_aload_n (pc := 55) dX0_strike_55 rfl rfl ?_
    refine q_getR (pc := 56) (i := 48) dX0_strike_56 lk_RX0_28 (lyc rfl) (G3 1 2 48 rfl) ?_
    refine q_getI (pc := 59) (v := rI h3 48 2) dX0_strike_59 lk_RX0_134 (lyc rfl) rfl ?_
    refine z_if_eq (pc := 62) (tgt := 79) dX0_strike_62 (by decide) (fun k8 => ?_) (fun k8 => ?_)
    · replace F := F.1 k8
      refine z_aload_n (pc := 79) dX0_strike_79 rfl rfl ?_
      refine q_getR (pc := 80) (i := 48) dX0_strike_80 lk_RX0_28 (lyc rfl) (G3 1 2 48 rfl) ?_
      refine q_getI (pc := 83) (v := rI h3 48 1) dX0_strike_83 lk_RX0_137 (lyc rfl) rfl ?_
      refine z_if_le (pc := 86) (tgt := 125) dX0_strike_86 (by decide) (fun k6 => ?_) (fun k6 => ?_)
      · replace F := F.1 k6
        exact q_retV (pc := 125) dX0_strike_125 rfl F
      · replace F := F.2 k6
        refine z_aload_n (pc := 89) dX0_strike_89 rfl rfl ?_
        refine z_sipush (pc := 90) (v := 999) dX0_strike_90 (by decide) ?_
        refine z_aload_n (pc := 93) dX0_strike_93 rfl rfl ?_
        refine q_getI (pc := 94) (v := rI h3 (8 + (Int32.toNatClampNeg (rI h3 48 0))) 4) dX0_strike_94 lk_RX0_75 (lyT (B := 2) (Or.inl rfl) (zvi k4)) rfl ?_
        refine z_aload_n (pc := 97) dX0_strike_97 rfl rfl ?_
        refine q_getR (pc := 98) (i := 48) dX0_strike_98 lk_RX0_28 (lyc rfl) (G3 1 2 48 rfl) ?_
        refine q_getI (pc := 101) (v := rI h3 48 1) dX0_strike_101 lk_RX0_137 (lyc rfl) rfl ?_
        refine z_iadd (pc := 104) dX0_strike_104 ?_
        refine z_min (pc := 105) dX0_strike_105 ⟨pl_RX0_143, pw_minS, pw_Math, pw_minC⟩ (zcat_of rfl) ⟨Nat.le_of_ble_eq_true rfl, Nat.le_of_ble_eq_true rfl⟩ ?_
        refine q_putI (pc := 108) dX0_strike_108 lk_RX0_75 (lyT (B := 2) (Or.inl rfl) (zvi k4)) ?_
        refine z_aload_n (pc := 111) dX0_strike_111 rfl rfl ?_
        refine z_iconst (pc := 112) (v := 0) dX0_strike_112 (by decide) ?_
        refine z_iconst (pc := 113) (v := 1) dX0_strike_113 (by decide) ?_
        refine z_aload_n (pc := 114) dX0_strike_114 rfl rfl ?_
        refine q_getR (pc := 115) (i := 48) dX0_strike_115 lk_RX0_28 (lyc rfl) (G3 1 2 48 rfl) ?_
        refine q_getI (pc := 118) (v := rI h3 48 0) dX0_strike_118 lk_RX0_127 (lyc rfl) (rI_k (by decide)) ?_
        refine z_ishl (pc := 121) dX0_strike_121 ?_
        refine q_invV (pc := 122) (As := [.int 0, .int (1 <<< ((rI h3 48 0) &&& 31))]) (st := []) dX0_strike_122 ok_X0_setOff ml_RX0_54 iv_X0_setOff pa_X0_setOff ⟨Nat.le_of_ble_eq_true rfl, Nat.le_of_ble_eq_true rfl⟩ (lyc rfl) (q_kV F (fun h4 F => ?_))
        obtain ⟨G4, F⟩ := F
        exact q_retV (pc := 125) dX0_strike_125 rfl F
    · replace F := F.2 k8
      refine z_aload_n (pc := 65) dX0_strike_65 rfl rfl ?_
      refine z_aload_n (pc := 66) dX0_strike_66 rfl rfl ?_
      refine q_getR (pc := 67) (i := 48) dX0_strike_67 lk_RX0_28 (lyc rfl) (G3 1 2 48 rfl) ?_
      refine q_getI (pc := 70) (v := rI h3 48 1) dX0_strike_70 lk_RX0_137 (lyc rfl) rfl ?_
      refine q_invV (pc := 73) (As := [.int (rI h3 48 1)]) (st := []) dX0_strike_73 ok_X6_heal ml_RX0_140 iv_X6_heal pa_X6_heal ⟨Nat.le_of_ble_eq_true rfl, Nat.le_of_ble_eq_true rfl⟩ (lyT (B := 2) (Or.inl rfl) (zvi k4)) (q_kV F (fun h5 F => ?_))
      obtain ⟨G5, F⟩ := F
      refine z_goto (pc := 76) (tgt := 125) dX0_strike_76 (by decide) ?_
      exact q_retV (pc := 125) dX0_strike_125 rfl F
  · replace F := F.2 k9
    exact q_retV (pc := 38) dX0_strike_38 rfl F
theorem g_X0_spendRules  {h : zHp} {Q : zHp → Prop}  (G : zG h) (F : zlV M_X0_spendRules 10 [some (.ref 1), some (.int ((rI h 2 5) - 1)), none] [] h Q) : zcV M_X0_spendRules [.ref 1] h Q := by
  show zw zNT zNT M_X0_spendRules 0 [some (.ref 1), none, none] [] h _
  refine z_aload_n (pc := 0) dX0_spendRules_0 rfl rfl ?_
  refine q_getR (pc := 1) (i := 2) dX0_spendRules_1 lk_RX0_12 (lyc rfl) (G 1 0 2 rfl) ?_
  refine q_getI (pc := 4) (v := rI h 2 5) dX0_spendRules_4 lk_RX0_149 (lyc rfl) rfl ?_
  refine z_iconst (pc := 7) (v := 1) dX0_spendRules_7 (by decide) ?_
  refine z_isub (pc := 8) dX0_spendRules_8 ?_
  refine z_istore_n (pc := 9) (ls' := [some (.ref 1), some (.int ((rI h 2 5) - 1)), none]) dX0_spendRules_9 rfl (by decide) rfl ?_
  exact F
theorem g_X0_spendRules_10 {x1 : Int32} {h : zHp} {Q : zHp → Prop}  (G : zG h) (F : (x1 < 0 → (Q h)) ∧ (¬ (x1 < 0) → (vp_in x1 8 ∧ (zRef h 5 ((Int32.toNatClampNeg x1)) 5 ∧ ((¬ rI h (rG h 5 ((Int32.toNatClampNeg x1))) 0 = 0 → (zlV M_X0_spendRules 10 [some (.ref 1), some (.int (x1 + (-1))), none] [] h Q)) ∧ (rI h (rG h 5 ((Int32.toNatClampNeg x1))) 0 = 0 → ((((rI h 48 3) >>> (x1 &&& 31)) &&& 1 = 0 → (zlV M_X0_spendRules 10 [some (.ref 1), some (.int (x1 + (-1))), none] [] h Q)) ∧ (¬ (((rI h 48 3) >>> (x1 &&& 31)) &&& 1 = 0) → ((0 < (rI h (rG h 5 ((Int32.toNatClampNeg x1))) 3) - (rI h 49 ((Int32.toNatClampNeg x1))) → (zlV M_X0_spendRules 10 [some (.ref 1), some (.int (x1 + (-1))), none] [] (wI h (rG h 5 ((Int32.toNatClampNeg x1))) 3 ((rI h (rG h 5 ((Int32.toNatClampNeg x1))) 3) - (rI h 49 ((Int32.toNatClampNeg x1))))) Q)) ∧ (¬ (0 < (rI h (rG h 5 ((Int32.toNatClampNeg x1))) 3) - (rI h 49 ((Int32.toNatClampNeg x1)))) → (zcV M_X8_dropRule [.ref 2, .int x1] (wI h (rG h 5 ((Int32.toNatClampNeg x1))) 3 ((rI h (rG h 5 ((Int32.toNatClampNeg x1))) 3) - (rI h 49 ((Int32.toNatClampNeg x1))))) (fun h1 => zG h1 ∧ (zlV M_X0_spendRules 10 [some (.ref 1), some (.int (x1 + (-1))), none] [] h1 Q))))))))))))) : zlV M_X0_spendRules 10 [some (.ref 1), some (.int x1), none] [] h Q := by
  refine z_iload_n (pc := 10) dX0_spendRules_10 rfl rfl ?_
  refine z_if_lt (pc := 11) (tgt := 84) dX0_spendRules_11 (by decide) (fun k7 => ?_) (fun k7 => ?_)
  · replace F := F.1 k7
    exact q_retV (pc := 84) dX0_spendRules_84 rfl F
  · replace F := F.2 k7
    refine z_aload_n (pc := 14) dX0_spendRules_14 rfl rfl ?_
    refine q_getR (pc := 15) (i := 2) dX0_spendRules_15 lk_RX0_12 (lyc rfl) (G 1 0 2 rfl) ?_
    refine q_getR (pc := 18) (i := 5) dX0_spendRules_18 lk_RX0_152 (lyc rfl) (G 2 4 5 rfl) ?_
    refine z_iload_n (pc := 21) dX0_spendRules_21 rfl rfl ?_
    obtain ⟨k1, F⟩ := F
    obtain ⟨k2, F⟩ := F
    refine q_aald (pc := 22) (j := (Int32.toNatClampNeg x1)) (r := rG h 5 ((Int32.toNatClampNeg x1))) (t := 2) dX0_spendRules_22 (lyc rfl) (zvn (lnc rfl) k1) rfl k2.1 ?_
    refine z_astore_n (pc := 23) (ls' := [some (.ref 1), some (.int x1), some (.ref (rG h 5 ((Int32.toNatClampNeg x1))))]) dX0_spendRules_23 rfl (by decide) rfl ?_
    refine z_aload_n (pc := 24) dX0_spendRules_24 rfl rfl ?_
    refine q_getI (pc := 25) (v := rI h (rG h 5 ((Int32.toNatClampNeg x1))) 0) dX0_spendRules_25 lk_RX0_156 k2.2 rfl ?_
    refine z_if_ne (pc := 28) (tgt := 78) dX0_spendRules_28 (by decide) (fun k6 => ?_) (fun k6 => ?_)
    · replace F := F.1 k6
      refine z_iinc (pc := 78) (v := x1 + (-1)) (ls' := [some (.ref 1), some (.int (x1 + (-1))), some (.ref (rG h 5 ((Int32.toNatClampNeg x1))))]) dX0_spendRules_78 (by decide) rfl rfl rfl ?_
      refine z_goto (pc := 81) (tgt := 10) dX0_spendRules_81 (by decide) ?_
      exact q_sub (ls' := [some (.ref 1), some (.int (x1 + (-1))), none]) ⟨rfl, rfl, trivial⟩ F
    · replace F := F.2 k6
      refine z_aload_n (pc := 31) dX0_spendRules_31 rfl rfl ?_
      refine q_getR (pc := 32) (i := 48) dX0_spendRules_32 lk_RX0_28 (lyc rfl) (G 1 2 48 rfl) ?_
      refine q_getI (pc := 35) (v := rI h 48 3) dX0_spendRules_35 lk_RX0_161 (lyc rfl) rfl ?_
      refine z_iload_n (pc := 38) dX0_spendRules_38 rfl rfl ?_
      refine z_ishr (pc := 39) dX0_spendRules_39 ?_
      refine z_iconst (pc := 40) (v := 1) dX0_spendRules_40 (by decide) ?_
      refine z_iand (pc := 41) dX0_spendRules_41 ?_
      refine z_if_eq (pc := 42) (tgt := 78) dX0_spendRules_42 (by decide) (fun k5 => ?_) (fun k5 => ?_)
      · replace F := F.1 k5
        refine z_iinc (pc := 78) (v := x1 + (-1)) (ls' := [some (.ref 1), some (.int (x1 + (-1))), some (.ref (rG h 5 ((Int32.toNatClampNeg x1))))]) dX0_spendRules_78 (by decide) rfl rfl rfl ?_
        refine z_goto (pc := 81) (tgt := 10) dX0_spendRules_81 (by decide) ?_
        exact q_sub (ls' := [some (.ref 1), some (.int (x1 + (-1))), none]) ⟨rfl, rfl, trivial⟩ F
      · replace F := F.2 k5
        refine z_aload_n (pc := 45) dX0_spendRules_45 rfl rfl ?_
        refine z_dup (pc := 46) dX0_spendRules_46 rfl ?_
        refine q_getI (pc := 47) (v := rI h (rG h 5 ((Int32.toNatClampNeg x1))) 3) dX0_spendRules_47 lk_RX0_164 k2.2 rfl ?_
        refine z_aload_n (pc := 50) dX0_spendRules_50 rfl rfl ?_
        refine q_getR (pc := 51) (i := 48) dX0_spendRules_51 lk_RX0_28 (lyc rfl) (G 1 2 48 rfl) ?_
        refine q_getR (pc := 54) (i := 49) dX0_spendRules_54 lk_RX0_167 (lyc rfl) (G 48 4 49 rfl) ?_
        refine z_iload_n (pc := 57) dX0_spendRules_57 rfl rfl ?_
        refine q_iald (pc := 58) (j := (Int32.toNatClampNeg x1)) (v := rI h 49 ((Int32.toNatClampNeg x1))) dX0_spendRules_58 (lyc rfl) (zvn (lnc rfl) k1) rfl rfl ?_
        refine z_isub (pc := 59) dX0_spendRules_59 ?_
        refine q_putI (pc := 60) dX0_spendRules_60 lk_RX0_164 k2.2 ?_
        refine z_aload_n (pc := 63) dX0_spendRules_63 rfl rfl ?_
        refine q_getI (pc := 64) (v := (rI h (rG h 5 ((Int32.toNatClampNeg x1))) 3) - (rI h 49 ((Int32.toNatClampNeg x1)))) dX0_spendRules_64 lk_RX0_164 k2.2 rI_s ?_
        refine z_if_gt (pc := 67) (tgt := 78) dX0_spendRules_67 (by decide) (fun k4 => ?_) (fun k4 => ?_)
        · replace F := F.1 k4
          refine z_iinc (pc := 78) (v := x1 + (-1)) (ls' := [some (.ref 1), some (.int (x1 + (-1))), some (.ref (rG h 5 ((Int32.toNatClampNeg x1))))]) dX0_spendRules_78 (by decide) rfl rfl rfl ?_
          refine z_goto (pc := 81) (tgt := 10) dX0_spendRules_81 (by decide) ?_
          exact q_sub (ls' := [some (.ref 1), some (.int (x1 + (-1))), none]) ⟨rfl, rfl, trivial⟩ F
        · replace F := F.2 k4
          refine z_aload_n (pc := 70) dX0_spendRules_70 rfl rfl ?_
          refine q_getR (pc := 71) (i := 2) dX0_spendRules_71 lk_RX0_12 (lyc rfl) (G 1 0 2 rfl) ?_
          refine z_iload_n (pc := 74) dX0_spendRules_74 rfl rfl ?_
          refine q_invV (pc := 75) (As := [.int x1]) (st := []) dX0_spendRules_75 ok_X8_dropRule ml_RX0_170 iv_X8_dropRule pa_X8_dropRule ⟨Nat.le_of_ble_eq_true rfl, Nat.le_of_ble_eq_true rfl⟩ (lyc rfl) (q_kV F (fun h1 F => ?_))
          obtain ⟨G1, F⟩ := F
          refine z_iinc (pc := 78) (v := x1 + (-1)) (ls' := [some (.ref 1), some (.int (x1 + (-1))), some (.ref (rG h 5 ((Int32.toNatClampNeg x1))))]) dX0_spendRules_78 (by decide) rfl rfl rfl ?_
          refine z_goto (pc := 81) (tgt := 10) dX0_spendRules_81 (by decide) ?_
          exact q_sub (ls' := [some (.ref 1), some (.int (x1 + (-1))), none]) ⟨rfl, rfl, trivial⟩ F
theorem g_X0_finish  {h : zHp} {Q : Int32 → zHp → Prop}  (G : zG h) (F : zcV M_X0_settle [.ref 1, .int 1] h (fun h1 => zG h1 ∧ (zlI M_X0_finish 9 [some (.ref 1), some (.int 0), some (.int 0)] [] h1 Q))) : zcI M_X0_finish [.ref 1] h Q := by
  show zw zNT zNT M_X0_finish 0 [some (.ref 1), none, none] [] h _
  refine z_aload_n (pc := 0) dX0_finish_0 rfl rfl ?_
  refine z_iconst (pc := 1) (v := 1) dX0_finish_1 (by decide) ?_
  refine q_invV (pc := 2) (As := [.int 1]) (st := []) dX0_finish_2 ok_X0_settle ml_RX0_173 iv_X0_settle pa_X0_settle ⟨Nat.le_of_ble_eq_true rfl, Nat.le_of_ble_eq_true rfl⟩ (lyc rfl) (q_kV F (fun h1 F => ?_))
  obtain ⟨G1, F⟩ := F
  refine z_iconst (pc := 5) (v := 0) dX0_finish_5 (by decide) ?_
  refine z_istore_n (pc := 6) (ls' := [some (.ref 1), some (.int 0), none]) dX0_finish_6 rfl (by decide) rfl ?_
  refine z_iconst (pc := 7) (v := 0) dX0_finish_7 (by decide) ?_
  refine z_istore_n (pc := 8) (ls' := [some (.ref 1), some (.int 0), some (.int 0)]) dX0_finish_8 rfl (by decide) rfl ?_
  exact F
theorem g_X0_finish_9 {x1 : Int32} {x2 : Int32} {h : zHp} {Q : Int32 → zHp → Prop}  (G : zG h) (F : (40 ≤ x2 → ((rI h 1 5 ≤ 0 → (Q x1 h)) ∧ (¬ (rI h 1 5 ≤ 0) → (Q (-5) h)))) ∧ (¬ (40 ≤ x2) → (zcI M_X10_within [.int (rI h 1 5), .int 1, .int 400] h (fun vh1 h1 => zG h1 ∧ ((vh1 = 0 → ((rI h1 1 5 ≤ 0 → (Q x1 h1)) ∧ (¬ (rI h1 1 5 ≤ 0) → (Q (-5) h1)))) ∧ (¬ (vh1 = 0) → (vp_in ((rI h1 1 5) - 1) 400 ∧ (vp_in x2 40 ∧ (zcV M_X0_act [.ref 1, .int (rI h1 50 ((Int32.toNatClampNeg ((rI h1 1 5) - 1)))), .int (rI h1 51 ((Int32.toNatClampNeg ((rI h1 1 5) - 1))))] (wI (wI h1 1 5 ((rI h1 1 5) - 1)) 52 ((Int32.toNatClampNeg x2)) (rI h1 50 ((Int32.toNatClampNeg ((rI h1 1 5) - 1))))) (fun h2 => zG h2 ∧ (zcV M_X0_settle [.ref 1, .int 1] h2 (fun h3 => zG h3 ∧ (zlI M_X0_finish 9 [some (.ref 1), some (.int (x1 + 1)), some (.int (x2 + 1))] [] h3 Q))))))))))))) : zlI M_X0_finish 9 [some (.ref 1), some (.int x1), some (.int x2)] [] h Q := by
  refine z_iload_n (pc := 9) dX0_finish_9 rfl rfl ?_
  refine z_bipush (pc := 10) (v := 40) dX0_finish_10 (by decide) ?_
  refine z_icmp_ge (pc := 12) (tgt := 90) dX0_finish_12 (by decide) (fun k9 => ?_) (fun k9 => ?_)
  · replace F := F.1 k9
    refine z_aload_n (pc := 90) dX0_finish_90 rfl rfl ?_
    refine q_getI (pc := 91) (v := rI h 1 5) dX0_finish_91 lk_RX0_42 (lyc rfl) rfl ?_
    refine z_if_le (pc := 94) (tgt := 102) dX0_finish_94 (by decide) (fun k1 => ?_) (fun k1 => ?_)
    · replace F := F.1 k1
      refine z_iload_n (pc := 102) dX0_finish_102 rfl rfl ?_
      exact q_retI (pc := 103) dX0_finish_103 rfl F
    · replace F := F.2 k1
      refine z_bipush (pc := 97) (v := -5) dX0_finish_97 (by decide) ?_
      refine z_goto (pc := 99) (tgt := 103) dX0_finish_99 (by decide) ?_
      exact q_retI (pc := 103) dX0_finish_103 rfl F
  · replace F := F.2 k9
    refine z_aload_n (pc := 15) dX0_finish_15 rfl rfl ?_
    refine q_getI (pc := 16) (v := rI h 1 5) dX0_finish_16 lk_RX0_42 (lyc rfl) rfl ?_
    refine z_iconst (pc := 19) (v := 1) dX0_finish_19 (by decide) ?_
    refine z_sipush (pc := 20) (v := 400) dX0_finish_20 (by decide) ?_
    refine q_invS (pc := 23) (As := [.int (rI h 1 5), .int 1, .int 400]) (st := []) dX0_finish_23 ok_X10_within ml_RX0_177 st_X10_within pa_X10_within ⟨Nat.le_of_ble_eq_true rfl, Nat.le_of_ble_eq_true rfl⟩ (q_kI F (fun vh1 h1 F => ?_))
    obtain ⟨G1, F⟩ := F
    refine z_if_eq (pc := 26) (tgt := 90) dX0_finish_26 (by decide) (fun k8 => ?_) (fun k8 => ?_)
    · replace F := F.1 k8
      refine z_aload_n (pc := 90) dX0_finish_90 rfl rfl ?_
      refine q_getI (pc := 91) (v := rI h1 1 5) dX0_finish_91 lk_RX0_42 (lyc rfl) rfl ?_
      refine z_if_le (pc := 94) (tgt := 102) dX0_finish_94 (by decide) (fun k3 => ?_) (fun k3 => ?_)
      · replace F := F.1 k3
        refine z_iload_n (pc := 102) dX0_finish_102 rfl rfl ?_
        exact q_retI (pc := 103) dX0_finish_103 rfl F
      · replace F := F.2 k3
        refine z_bipush (pc := 97) (v := -5) dX0_finish_97 (by decide) ?_
        refine z_goto (pc := 99) (tgt := 103) dX0_finish_99 (by decide) ?_
        exact q_retI (pc := 103) dX0_finish_103 rfl F
    · replace F := F.2 k8
      refine z_aload_n (pc := 29) dX0_finish_29 rfl rfl ?_
      refine z_dup (pc := 30) dX0_finish_30 rfl ?_
      refine q_getI (pc := 31) (v := rI h1 1 5) dX0_finish_31 lk_RX0_42 (lyc rfl) rfl ?_
      refine z_iconst (pc := 34) (v := 1) dX0_finish_34 (by decide) ?_
      refine z_isub (pc := 35) dX0_finish_35 ?_
      refine q_putI (pc := 36) dX0_finish_36 lk_RX0_42 (lyc rfl) ?_
      refine z_aload_n (pc := 39) dX0_finish_39 rfl rfl ?_
      refine q_getR (pc := 40) (i := 52) dX0_finish_40 lk_RX0_39 (lyc rfl) (G1 1 6 52 rfl) ?_
      refine z_iload_n (pc := 43) dX0_finish_43 rfl rfl ?_
      refine z_aload_n (pc := 44) dX0_finish_44 rfl rfl ?_
      refine q_getR (pc := 45) (i := 50) dX0_finish_45 lk_RX0_32 (lyc rfl) (G1 1 3 50 rfl) ?_
      refine z_aload_n (pc := 48) dX0_finish_48 rfl rfl ?_
      refine q_getI (pc := 49) (v := (rI h1 1 5) - 1) dX0_finish_49 lk_RX0_42 (lyc rfl) rI_s ?_
      obtain ⟨k4, F⟩ := F
      refine q_iald (pc := 52) (j := (Int32.toNatClampNeg ((rI h1 1 5) - 1))) (v := rI h1 50 ((Int32.toNatClampNeg ((rI h1 1 5) - 1)))) dX0_finish_52 (lyc rfl) (zvn (lnc rfl) k4) rfl (rI_c (by decide)) ?_
      obtain ⟨k5, F⟩ := F
      refine q_iast (pc := 53) (j := (Int32.toNatClampNeg x2)) dX0_finish_53 (lyc rfl) (zvn (lnc rfl) k5) rfl ?_
      refine z_aload_n (pc := 54) dX0_finish_54 rfl rfl ?_
      refine z_aload_n (pc := 55) dX0_finish_55 rfl rfl ?_
      refine q_getR (pc := 56) (i := 50) dX0_finish_56 lk_RX0_32 (lyc rfl) (G1 1 3 50 rfl) ?_
      refine z_aload_n (pc := 59) dX0_finish_59 rfl rfl ?_
      refine q_getI (pc := 60) (v := (rI h1 1 5) - 1) dX0_finish_60 lk_RX0_42 (lyc rfl) ((rI_c (by decide)).trans rI_s) ?_
      refine q_iald (pc := 63) (j := (Int32.toNatClampNeg ((rI h1 1 5) - 1))) (v := rI h1 50 ((Int32.toNatClampNeg ((rI h1 1 5) - 1)))) dX0_finish_63 (lyc rfl) (zvn (lnc rfl) k4) rfl ((rI_c (by decide)).trans (rI_c (by decide))) ?_
      refine z_aload_n (pc := 64) dX0_finish_64 rfl rfl ?_
      refine q_getR (pc := 65) (i := 51) dX0_finish_65 lk_RX0_36 (lyc rfl) (G1 1 4 51 rfl) ?_
      refine z_aload_n (pc := 68) dX0_finish_68 rfl rfl ?_
      refine q_getI (pc := 69) (v := (rI h1 1 5) - 1) dX0_finish_69 lk_RX0_42 (lyc rfl) ((rI_c (by decide)).trans rI_s) ?_
      refine q_iald (pc := 72) (j := (Int32.toNatClampNeg ((rI h1 1 5) - 1))) (v := rI h1 51 ((Int32.toNatClampNeg ((rI h1 1 5) - 1)))) dX0_finish_72 (lyc rfl) (zvn (lnc rfl) k4) rfl ((rI_c (by decide)).trans (rI_c (by decide))) ?_
      refine q_invV (pc := 73) (As := [.int (rI h1 50 ((Int32.toNatClampNeg ((rI h1 1 5) - 1)))), .int (rI h1 51 ((Int32.toNatClampNeg ((rI h1 1 5) - 1))))]) (st := []) dX0_finish_73 ok_X0_act ml_RX0_181 iv_X0_act pa_X0_act ⟨Nat.le_of_ble_eq_true rfl, Nat.le_of_ble_eq_true rfl⟩ (lyc rfl) (q_kV F (fun h2 F => ?_))
      obtain ⟨G2, F⟩ := F
      refine z_aload_n (pc := 76) dX0_finish_76 rfl rfl ?_
      refine z_iconst (pc := 77) (v := 1) dX0_finish_77 (by decide) ?_
      refine q_invV (pc := 78) (As := [.int 1]) (st := []) dX0_finish_78 ok_X0_settle ml_RX0_173 iv_X0_settle pa_X0_settle ⟨Nat.le_of_ble_eq_true rfl, Nat.le_of_ble_eq_true rfl⟩ (lyc rfl) (q_kV F (fun h3 F => ?_))
      obtain ⟨G3, F⟩ := F
      refine z_iinc (pc := 81) (v := x1 + 1) (ls' := [some (.ref 1), some (.int (x1 + 1)), some (.int x2)]) dX0_finish_81 (by decide) rfl rfl rfl ?_
      refine z_iinc (pc := 84) (v := x2 + 1) (ls' := [some (.ref 1), some (.int (x1 + 1)), some (.int (x2 + 1))]) dX0_finish_84 (by decide) rfl rfl rfl ?_
      refine z_goto (pc := 87) (tgt := 9) dX0_finish_87 (by decide) ?_
      exact F
theorem g_X0_act {x1 : Int32} {x2 : Int32} {h : zHp} {Q : zHp → Prop}  (G : zG h) (F : zcI M_X8_hasWatcher [.ref 2, .int x1] h (fun vh1 h1 => zG h1 ∧ ((¬ vh1 = 0 → (vp_in x1 8 ∧ (zRef h1 6 ((Int32.toNatClampNeg x1)) 8 ∧ ((¬ rI h1 (rG h1 6 ((Int32.toNatClampNeg x1))) 3 = -1 → (zlV M_X0_act 38 [some (.ref 1), some (.int x1), some (.int x2), some (.ref (rG h1 6 ((Int32.toNatClampNeg x1)))), none, none] [.int (rI h1 (rG h1 6 ((Int32.toNatClampNeg x1))) 3)] h1 Q)) ∧ (rI h1 (rG h1 6 ((Int32.toNatClampNeg x1))) 3 = -1 → (zlV M_X0_act 38 [some (.ref 1), some (.int x1), some (.int x2), some (.ref (rG h1 6 ((Int32.toNatClampNeg x1)))), none, none] [.int x2] h1 Q)))))) ∧ (vh1 = 0 → (Q h1))))) : zcV M_X0_act [.ref 1, .int x1, .int x2] h Q := by
  show zw zNT zNT M_X0_act 0 [some (.ref 1), some (.int x1), some (.int x2), none, none, none] [] h _
  refine z_aload_n (pc := 0) dX0_act_0 rfl rfl ?_
  refine q_getR (pc := 1) (i := 2) dX0_act_1 lk_RX0_12 (lyc rfl) (G 1 0 2 rfl) ?_
  refine z_iload_n (pc := 4) dX0_act_4 rfl rfl ?_
  refine q_invV (pc := 5) (As := [.int x1]) (st := []) dX0_act_5 ok_X8_hasWatcher ml_RX0_184 iv_X8_hasWatcher pa_X8_hasWatcher ⟨Nat.le_of_ble_eq_true rfl, Nat.le_of_ble_eq_true rfl⟩ (lyc rfl) (q_kI F (fun vh1 h1 F => ?_))
  obtain ⟨G1, F⟩ := F
  refine z_if_ne (pc := 8) (tgt := 12) dX0_act_8 (by decide) (fun k5 => ?_) (fun k5 => ?_)
  · replace F := F.1 k5
    refine z_aload_n (pc := 12) dX0_act_12 rfl rfl ?_
    refine q_getR (pc := 13) (i := 2) dX0_act_13 lk_RX0_12 (lyc rfl) (G1 1 0 2 rfl) ?_
    refine q_getR (pc := 16) (i := 6) dX0_act_16 lk_RX0_88 (lyc rfl) (G1 2 6 6 rfl) ?_
    refine z_iload_n (pc := 19) dX0_act_19 rfl rfl ?_
    obtain ⟨k2, F⟩ := F
    obtain ⟨k3, F⟩ := F
    refine q_aald (pc := 20) (j := (Int32.toNatClampNeg x1)) (r := rG h1 6 ((Int32.toNatClampNeg x1))) (t := 3) dX0_act_20 (lyc rfl) (zvn (lnc rfl) k2) rfl k3.1 ?_
    refine z_astore_n (pc := 21) (ls' := [some (.ref 1), some (.int x1), some (.int x2), some (.ref (rG h1 6 ((Int32.toNatClampNeg x1)))), none, none]) dX0_act_21 rfl (by decide) rfl ?_
    refine z_aload_n (pc := 22) dX0_act_22 rfl rfl ?_
    refine q_getI (pc := 23) (v := rI h1 (rG h1 6 ((Int32.toNatClampNeg x1))) 3) dX0_act_23 lk_RX0_187 k3.2 rfl ?_
    refine z_iconst (pc := 26) (v := -1) dX0_act_26 (by decide) ?_
    refine z_icmp_ne (pc := 27) (tgt := 34) dX0_act_27 (by decide) (fun k4 => ?_) (fun k4 => ?_)
    · replace F := F.1 k4
      refine z_aload_n (pc := 34) dX0_act_34 rfl rfl ?_
      refine q_getI (pc := 35) (v := rI h1 (rG h1 6 ((Int32.toNatClampNeg x1))) 3) dX0_act_35 lk_RX0_187 k3.2 rfl ?_
      exact F
    · replace F := F.2 k4
      refine z_iload_n (pc := 30) dX0_act_30 rfl rfl ?_
      refine z_goto (pc := 31) (tgt := 38) dX0_act_31 (by decide) ?_
      exact F
  · replace F := F.2 k5
    exact q_retV (pc := 11) dX0_act_11 rfl F
theorem g_X0_act_38 {x1 : Int32} {x2 : Int32} {c3 : Nat} {xs0 : Int32} {h : zHp} {Q : zHp → Prop} (hc3 : ly c3 = 8) (G : zG h) (F : (rI h c3 4 ≤ 0 → (zcI M_X2_forceOf [.ref 42, .ref 2, .int x2] h (fun vh1 h1 => zG h1 ∧ (zlV M_X0_act 66 [some (.ref 1), some (.int x1), some (.int x2), some (.ref c3), some (.int xs0), none] [.int vh1] h1 Q)))) ∧ (¬ (rI h c3 4 ≤ 0) → (zlV M_X0_act 66 [some (.ref 1), some (.int x1), some (.int x2), some (.ref c3), some (.int xs0), none] [.int (rI h c3 4)] h Q))) : zlV M_X0_act 38 [some (.ref 1), some (.int x1), some (.int x2), some (.ref c3), none, none] [.int xs0] h Q := by
  refine z_istore (pc := 38) (ls' := [some (.ref 1), some (.int x1), some (.int x2), some (.ref c3), some (.int xs0), none]) dX0_act_38 (by decide) rfl ?_
  refine z_aload_n (pc := 40) dX0_act_40 rfl rfl ?_
  refine q_getI (pc := 41) (v := rI h c3 4) dX0_act_41 lk_RX0_190 hc3 rfl ?_
  refine z_if_le (pc := 44) (tgt := 54) dX0_act_44 (by decide) (fun k2 => ?_) (fun k2 => ?_)
  · replace F := F.1 k2
    refine z_aload_n (pc := 54) dX0_act_54 rfl rfl ?_
    refine q_getR (pc := 55) (i := 42) dX0_act_55 lk_RX0_21 (lyc rfl) (G 1 1 42 rfl) ?_
    refine z_aload_n (pc := 58) dX0_act_58 rfl rfl ?_
    refine q_getR (pc := 59) (i := 2) dX0_act_59 lk_RX0_12 (lyc rfl) (G 1 0 2 rfl) ?_
    refine z_iload_n (pc := 62) dX0_act_62 rfl rfl ?_
    refine q_invV (pc := 63) (As := [.ref 2, .int x2]) (st := []) dX0_act_63 ok_X2_forceOf ml_RX0_191 iv_X2_forceOf pa_X2_forceOf ⟨Nat.le_of_ble_eq_true rfl, Nat.le_of_ble_eq_true rfl⟩ (lyc rfl) (q_kI F (fun vh1 h1 F => ?_))
    obtain ⟨G1, F⟩ := F
    exact F
  · replace F := F.2 k2
    refine z_aload_n (pc := 47) dX0_act_47 rfl rfl ?_
    refine q_getI (pc := 48) (v := rI h c3 4) dX0_act_48 lk_RX0_190 hc3 rfl ?_
    refine z_goto (pc := 51) (tgt := 66) dX0_act_51 (by decide) ?_
    exact F
theorem g_X0_act_66 {x1 : Int32} {x2 : Int32} {c3 : Nat} {x4 : Int32} {xs0 : Int32} {h : zHp} {Q : zHp → Prop} (hc3 : ly c3 = 8) (G : zG h) (F : (xs0 ≤ 0 → (Q h)) ∧ (¬ (xs0 ≤ 0) → (zcI M_X8_isAlive [.ref 2, .int x4] h (fun vh1 h1 => zG h1 ∧ ((¬ vh1 = 0 → ((¬ rI h1 c3 2 = 0 → ((¬ rI h1 c3 2 = 1 → (vp_in x4 8 ∧ (zcV M_X6_raise [.ref (8 + (Int32.toNatClampNeg x4)), .int xs0] h1 (fun h2 => zG h2 ∧ (Q h2))))) ∧ (rI h1 c3 2 = 1 → (vp_in x4 8 ∧ (zcV M_X6_heal [.ref (8 + (Int32.toNatClampNeg x4)), .int xs0] h1 (fun h3 => zG h3 ∧ (Q h3))))))) ∧ (rI h1 c3 2 = 0 → (zcV M_X0_strike [.ref 1, .int x4, .int xs0] h1 (fun h4 => zG h4 ∧ (Q h4)))))) ∧ (vh1 = 0 → (Q h1))))))) : zlV M_X0_act 66 [some (.ref 1), some (.int x1), some (.int x2), some (.ref c3), some (.int x4), none] [.int xs0] h Q := by
  refine z_istore (pc := 66) (ls' := [some (.ref 1), some (.int x1), some (.int x2), some (.ref c3), some (.int x4), some (.int xs0)]) dX0_act_66 (by decide) rfl ?_
  refine z_iload (pc := 68) dX0_act_68 rfl ?_
  refine z_if_le (pc := 70) (tgt := 85) dX0_act_70 (by decide) (fun k10 => ?_) (fun k10 => ?_)
  · replace F := F.1 k10
    exact q_retV (pc := 85) dX0_act_85 rfl F
  · replace F := F.2 k10
    refine z_aload_n (pc := 73) dX0_act_73 rfl rfl ?_
    refine q_getR (pc := 74) (i := 2) dX0_act_74 lk_RX0_12 (lyc rfl) (G 1 0 2 rfl) ?_
    refine z_iload (pc := 77) dX0_act_77 rfl ?_
    refine q_invV (pc := 79) (As := [.int x4]) (st := []) dX0_act_79 ok_X8_isAlive ml_RX0_195 iv_X8_isAlive pa_X8_isAlive ⟨Nat.le_of_ble_eq_true rfl, Nat.le_of_ble_eq_true rfl⟩ (lyc rfl) (q_kI F (fun vh1 h1 F => ?_))
    obtain ⟨G1, F⟩ := F
    refine z_if_ne (pc := 82) (tgt := 86) dX0_act_82 (by decide) (fun k9 => ?_) (fun k9 => ?_)
    · replace F := F.1 k9
      refine z_aload_n (pc := 86) dX0_act_86 rfl rfl ?_
      refine q_getI (pc := 87) (v := rI h1 c3 2) dX0_act_87 lk_RX0_198 hc3 rfl ?_
      refine z_if_ne (pc := 90) (tgt := 104) dX0_act_90 (by decide) (fun k8 => ?_) (fun k8 => ?_)
      · replace F := F.1 k8
        refine z_aload_n (pc := 104) dX0_act_104 rfl rfl ?_
        refine q_getI (pc := 105) (v := rI h1 c3 2) dX0_act_105 lk_RX0_198 hc3 rfl ?_
        refine z_iconst (pc := 108) (v := 1) dX0_act_108 (by decide) ?_
        refine z_icmp_ne (pc := 109) (tgt := 130) dX0_act_109 (by decide) (fun k6 => ?_) (fun k6 => ?_)
        · replace F := F.1 k6
          refine z_aload_n (pc := 130) dX0_act_130 rfl rfl ?_
          refine q_getR (pc := 131) (i := 2) dX0_act_131 lk_RX0_12 (lyc rfl) (G1 1 0 2 rfl) ?_
          refine q_getR (pc := 134) (i := 3) dX0_act_134 lk_RX0_65 (lyc rfl) (G1 2 0 3 rfl) ?_
          refine z_iload (pc := 137) dX0_act_137 rfl ?_
          obtain ⟨k2, F⟩ := F
          refine q_aald (pc := 139) (j := (Int32.toNatClampNeg x4)) (r := 8 + (Int32.toNatClampNeg x4)) (t := 0) dX0_act_139 (lyc rfl) (zvn (lnc rfl) k2) rfl (grT (B := 2) G1 (Or.inl rfl) (zvi k2)) ?_
          refine z_iload (pc := 140) dX0_act_140 rfl ?_
          refine q_invV (pc := 142) (As := [.int xs0]) (st := []) dX0_act_142 ok_X6_raise ml_RX0_203 iv_X6_raise pa_X6_raise ⟨Nat.le_of_ble_eq_true rfl, Nat.le_of_ble_eq_true rfl⟩ (lyT (B := 2) (Or.inl rfl) (zvi k2)) (q_kV F (fun h2 F => ?_))
          obtain ⟨G2, F⟩ := F
          exact q_retV (pc := 145) dX0_act_145 rfl F
        · replace F := F.2 k6
          refine z_aload_n (pc := 112) dX0_act_112 rfl rfl ?_
          refine q_getR (pc := 113) (i := 2) dX0_act_113 lk_RX0_12 (lyc rfl) (G1 1 0 2 rfl) ?_
          refine q_getR (pc := 116) (i := 3) dX0_act_116 lk_RX0_65 (lyc rfl) (G1 2 0 3 rfl) ?_
          refine z_iload (pc := 119) dX0_act_119 rfl ?_
          obtain ⟨k4, F⟩ := F
          refine q_aald (pc := 121) (j := (Int32.toNatClampNeg x4)) (r := 8 + (Int32.toNatClampNeg x4)) (t := 0) dX0_act_121 (lyc rfl) (zvn (lnc rfl) k4) rfl (grT (B := 2) G1 (Or.inl rfl) (zvi k4)) ?_
          refine z_iload (pc := 122) dX0_act_122 rfl ?_
          refine q_invV (pc := 124) (As := [.int xs0]) (st := []) dX0_act_124 ok_X6_heal ml_RX0_140 iv_X6_heal pa_X6_heal ⟨Nat.le_of_ble_eq_true rfl, Nat.le_of_ble_eq_true rfl⟩ (lyT (B := 2) (Or.inl rfl) (zvi k4)) (q_kV F (fun h3 F => ?_))
          obtain ⟨G3, F⟩ := F
          refine z_goto (pc := 127) (tgt := 145) dX0_act_127 (by decide) ?_
          exact q_retV (pc := 145) dX0_act_145 rfl F
      · replace F := F.2 k8
        refine z_aload_n (pc := 93) dX0_act_93 rfl rfl ?_
        refine z_iload (pc := 94) dX0_act_94 rfl ?_
        refine z_iload (pc := 96) dX0_act_96 rfl ?_
        refine q_invV (pc := 98) (As := [.int x4, .int xs0]) (st := []) dX0_act_98 ok_X0_strike ml_RX0_200 iv_X0_strike pa_X0_strike ⟨Nat.le_of_ble_eq_true rfl, Nat.le_of_ble_eq_true rfl⟩ (lyc rfl) (q_kV F (fun h4 F => ?_))
        obtain ⟨G4, F⟩ := F
        refine z_goto (pc := 101) (tgt := 145) dX0_act_101 (by decide) ?_
        exact q_retV (pc := 145) dX0_act_145 rfl F
    · replace F := F.2 k9
      exact q_retV (pc := 85) dX0_act_85 rfl F
theorem g_X1_become {c0 : Nat} {x1 : Int32} {x2 : Int32} {x3 : Int32} {x4 : Int32} {x5 : Int32} {h : zHp} {Q : zHp → Prop} (hc0 : ly c0 = 2) (G : zG h) (F : Q (wI (wI (wI (wI (wI (wI (wI h c0 0 (-1)) c0 1 x1) c0 2 x2) c0 3 x3) c0 4 x4) c0 5 x5) c0 6 0)) : zcV M_X1_become [.ref c0, .int x1, .int x2, .int x3, .int x4, .int x5] h Q := by
  show zw zNT zNT M_X1_become 0 [some (.ref c0), some (.int x1), some (.int x2), some (.int x3), some (.int x4), some (.int x5)] [] h _
  refine z_aload_n (pc := 0) dX1_become_0 rfl rfl ?_
  refine z_iconst (pc := 1) (v := -1) dX1_become_1 (by decide) ?_
  refine q_putI (pc := 2) dX1_become_2 lk_RX1_9 hc0 ?_
  refine z_aload_n (pc := 5) dX1_become_5 rfl rfl ?_
  refine z_iload_n (pc := 6) dX1_become_6 rfl rfl ?_
  refine q_putI (pc := 7) dX1_become_7 lk_RX1_15 hc0 ?_
  refine z_aload_n (pc := 10) dX1_become_10 rfl rfl ?_
  refine z_iload_n (pc := 11) dX1_become_11 rfl rfl ?_
  refine q_putI (pc := 12) dX1_become_12 lk_RX1_18 hc0 ?_
  refine z_aload_n (pc := 15) dX1_become_15 rfl rfl ?_
  refine z_iload_n (pc := 16) dX1_become_16 rfl rfl ?_
  refine q_putI (pc := 17) dX1_become_17 lk_RX1_21 hc0 ?_
  refine z_aload_n (pc := 20) dX1_become_20 rfl rfl ?_
  refine z_iload (pc := 21) dX1_become_21 rfl ?_
  refine q_putI (pc := 23) dX1_become_23 lk_RX1_24 hc0 ?_
  refine z_aload_n (pc := 26) dX1_become_26 rfl rfl ?_
  refine z_iload (pc := 27) dX1_become_27 rfl ?_
  refine q_putI (pc := 29) dX1_become_29 lk_RX1_27 hc0 ?_
  refine z_aload_n (pc := 32) dX1_become_32 rfl rfl ?_
  refine z_iconst (pc := 33) (v := 0) dX1_become_33 (by decide) ?_
  refine q_putI (pc := 34) dX1_become_34 lk_RX1_30 hc0 ?_
  exact q_retV (pc := 37) dX1_become_37 rfl F
theorem g_X1_layer {c0 : Nat} {h : zHp} {Q : Int32 → zHp → Prop} (hc0 : ly c0 = 2) (G : zG h) (F : zcI M_X10_within [.int (rI h c0 1), .int 0, .int 5] h (fun vh1 h1 => zG h1 ∧ ((vh1 = 0 → (Q 5 h1)) ∧ (¬ (vh1 = 0) → (vp_in (rI h1 c0 1) 6 ∧ (Q (zLO (Int32.toNatClampNeg (rI h1 c0 1))) h1)))))) : zcI M_X1_layer [.ref c0] h Q := by
  show zw zNT zNT M_X1_layer 0 [some (.ref c0)] [] h _
  refine z_aload_n (pc := 0) dX1_layer_0 rfl rfl ?_
  refine q_getI (pc := 1) (v := rI h c0 1) dX1_layer_1 lk_RX1_15 hc0 rfl ?_
  refine z_iconst (pc := 4) (v := 0) dX1_layer_4 (by decide) ?_
  refine z_iconst (pc := 5) (v := 5) dX1_layer_5 (by decide) ?_
  refine q_invS (pc := 6) (As := [.int (rI h c0 1), .int 0, .int 5]) (st := []) dX1_layer_6 ok_X10_within ml_RX1_33 st_X10_within pa_X10_within ⟨Nat.le_of_ble_eq_true rfl, Nat.le_of_ble_eq_true rfl⟩ (q_kI F (fun vh1 h1 F => ?_))
  obtain ⟨G1, F⟩ := F
  refine z_if_eq (pc := 9) (tgt := 23) dX1_layer_9 (by decide) (fun k3 => ?_) (fun k3 => ?_)
  · replace F := F.1 k3
    refine z_iconst (pc := 23) (v := 5) dX1_layer_23 (by decide) ?_
    exact q_retI (pc := 24) dX1_layer_24 rfl F
  · replace F := F.2 k3
    refine z_gsN (pc := 12) (i := 1000) (own := RX1) (nm := "LAYER_OF") (host := "LayeredRules") dX1_layer_12 (List.mem_of_getElem? (i := 0) rfl) rfl (Or.inl ⟨rfl, rfl⟩) ?_
    refine z_aload_n (pc := 15) dX1_layer_15 rfl rfl ?_
    refine q_getI (pc := 16) (v := rI h1 c0 1) dX1_layer_16 lk_RX1_15 hc0 rfl ?_
    obtain ⟨k2, F⟩ := F
    refine z_ldLO (pc := 19) dX1_layer_19 k2 rfl ?_
    refine z_goto (pc := 20) (tgt := 24) dX1_layer_20 (by decide) ?_
    exact q_retI (pc := 24) dX1_layer_24 rfl F
theorem g_X1_copyFrom {c0 : Nat} {c1 : Nat} {h : zHp} {Q : zHp → Prop} (hc0 : ly c0 = 2) (hc1 : ly c1 = 2) (G : zG h) (F : Q (wI (wI (wI (wI (wI (wI (wI h c0 0 (rI h c1 0)) c0 1 (rI h c1 1)) c0 2 (rI h c1 2)) c0 3 (rI h c1 3)) c0 4 (rI h c1 4)) c0 5 (rI h c1 5)) c0 6 (rI h c1 6))) : zcV M_X1_copyFrom [.ref c0, .ref c1] h Q := by
  show zw zNT zNT M_X1_copyFrom 0 [some (.ref c0), some (.ref c1)] [] h _
  refine z_aload_n (pc := 0) dX1_copyFrom_0 rfl rfl ?_
  refine z_aload_n (pc := 1) dX1_copyFrom_1 rfl rfl ?_
  refine q_getI (pc := 2) (v := rI h c1 0) dX1_copyFrom_2 lk_RX1_9 hc1 rfl ?_
  refine q_putI (pc := 5) dX1_copyFrom_5 lk_RX1_9 hc0 ?_
  refine z_aload_n (pc := 8) dX1_copyFrom_8 rfl rfl ?_
  refine z_aload_n (pc := 9) dX1_copyFrom_9 rfl rfl ?_
  refine q_getI (pc := 10) (v := rI h c1 1) dX1_copyFrom_10 lk_RX1_15 hc1 (rI_k (by decide)) ?_
  refine q_putI (pc := 13) dX1_copyFrom_13 lk_RX1_15 hc0 ?_
  refine z_aload_n (pc := 16) dX1_copyFrom_16 rfl rfl ?_
  refine z_aload_n (pc := 17) dX1_copyFrom_17 rfl rfl ?_
  refine q_getI (pc := 18) (v := rI h c1 2) dX1_copyFrom_18 lk_RX1_18 hc1 ((rI_k (by decide)).trans (rI_k (by decide))) ?_
  refine q_putI (pc := 21) dX1_copyFrom_21 lk_RX1_18 hc0 ?_
  refine z_aload_n (pc := 24) dX1_copyFrom_24 rfl rfl ?_
  refine z_aload_n (pc := 25) dX1_copyFrom_25 rfl rfl ?_
  refine q_getI (pc := 26) (v := rI h c1 3) dX1_copyFrom_26 lk_RX1_21 hc1 (((rI_k (by decide)).trans (rI_k (by decide))).trans (rI_k (by decide))) ?_
  refine q_putI (pc := 29) dX1_copyFrom_29 lk_RX1_21 hc0 ?_
  refine z_aload_n (pc := 32) dX1_copyFrom_32 rfl rfl ?_
  refine z_aload_n (pc := 33) dX1_copyFrom_33 rfl rfl ?_
  refine q_getI (pc := 34) (v := rI h c1 4) dX1_copyFrom_34 lk_RX1_24 hc1 ((((rI_k (by decide)).trans (rI_k (by decide))).trans (rI_k (by decide))).trans (rI_k (by decide))) ?_
  refine q_putI (pc := 37) dX1_copyFrom_37 lk_RX1_24 hc0 ?_
  refine z_aload_n (pc := 40) dX1_copyFrom_40 rfl rfl ?_
  refine z_aload_n (pc := 41) dX1_copyFrom_41 rfl rfl ?_
  refine q_getI (pc := 42) (v := rI h c1 5) dX1_copyFrom_42 lk_RX1_27 hc1 (((((rI_k (by decide)).trans (rI_k (by decide))).trans (rI_k (by decide))).trans (rI_k (by decide))).trans (rI_k (by decide))) ?_
  refine q_putI (pc := 45) dX1_copyFrom_45 lk_RX1_27 hc0 ?_
  refine z_aload_n (pc := 48) dX1_copyFrom_48 rfl rfl ?_
  refine z_aload_n (pc := 49) dX1_copyFrom_49 rfl rfl ?_
  refine q_getI (pc := 50) (v := rI h c1 6) dX1_copyFrom_50 lk_RX1_30 hc1 ((((((rI_k (by decide)).trans (rI_k (by decide))).trans (rI_k (by decide))).trans (rI_k (by decide))).trans (rI_k (by decide))).trans (rI_k (by decide))) ?_
  refine q_putI (pc := 53) dX1_copyFrom_53 lk_RX1_30 hc0 ?_
  exact q_retV (pc := 56) dX1_copyFrom_56 rfl F
theorem g_X2_make {c0 : Nat} {c1 : Nat} {x2 : Int32} {h : zHp} {Q : zHp → Prop} (hc0 : zLo c0) (hc1 : zW c1) (G : zG h) (F : zlV M_X2_make 2 [some (.ref c0), some (.ref c1), some (.int x2), some (.int 0), none, none, none] [] h Q) : zcV M_X2_make [.ref c0, .ref c1, .int x2] h Q := by
  show zw zNT zNT M_X2_make 0 [some (.ref c0), some (.ref c1), some (.int x2), none, none, none, none] [] h _
  refine z_iconst (pc := 0) (v := 0) dX2_make_0 (by decide) ?_
  refine z_istore_n (pc := 1) (ls' := [some (.ref c0), some (.ref c1), some (.int x2), some (.int 0), none, none, none]) dX2_make_1 rfl (by decide) rfl ?_
  exact F
theorem g_X2_make_2 {c0 : Nat} {c1 : Nat} {x2 : Int32} {x3 : Int32} {h : zHp} {Q : zHp → Prop} (hc0 : zLo c0) (hc1 : zW c1) (G : zG h) (F : (rI h c1 1 ≤ x3 → (zlV M_X2_make 75 [some (.ref c0), some (.ref c1), some (.int x2), some (.int 0), none, none, none] [] (wI h c0 5 0) Q)) ∧ (¬ (rI h c1 1 ≤ x3) → (vp_in x3 8 ∧ (zlV M_X2_make 2 [some (.ref c0), some (.ref c1), some (.int x2), some (.int (x3 + 1)), none, none, none] [] (wI (wI (wI (wI h (c0 + 1) ((Int32.toNatClampNeg x3)) (rI h (c1 + 6 + (Int32.toNatClampNeg x3)) 1)) (c0 + 2) ((Int32.toNatClampNeg x3)) 0) (c0 + 3) ((Int32.toNatClampNeg x3)) (rI h (c1 + 6 + (Int32.toNatClampNeg x3)) 2)) (c0 + 4) ((Int32.toNatClampNeg x3)) (rI h (c1 + 6 + (Int32.toNatClampNeg x3)) 3)) Q)))) : zlV M_X2_make 2 [some (.ref c0), some (.ref c1), some (.int x2), some (.int x3), none, none, none] [] h Q := by
  refine z_iload_n (pc := 2) dX2_make_2 rfl rfl ?_
  refine z_aload_n (pc := 3) dX2_make_3 rfl rfl ?_
  refine q_getI (pc := 4) (v := rI h c1 1) dX2_make_4 lk_RX2_27 (lyW0 hc1) rfl ?_
  refine z_icmp_ge (pc := 7) (tgt := 68) dX2_make_7 (by decide) (fun k2 => ?_) (fun k2 => ?_)
  · replace F := F.1 k2
    refine z_aload_n (pc := 68) dX2_make_68 rfl rfl ?_
    refine z_iconst (pc := 69) (v := 0) dX2_make_69 (by decide) ?_
    refine q_putI (pc := 70) dX2_make_70 lk_RX2_45 (lyLo0 hc0) ?_
    refine z_iconst (pc := 73) (v := 0) dX2_make_73 (by decide) ?_
    refine z_istore_n (pc := 74) (ls' := [some (.ref c0), some (.ref c1), some (.int x2), some (.int 0), none, none, none]) dX2_make_74 rfl (by decide) rfl ?_
    exact F
  · replace F := F.2 k2
    refine z_aload_n (pc := 10) dX2_make_10 rfl rfl ?_
    refine q_getR (pc := 11) (i := c0 + 1) dX2_make_11 lk_RX2_9 (lyLo0 hc0) (grLo0 G hc0) ?_
    refine z_iload_n (pc := 14) dX2_make_14 rfl rfl ?_
    refine z_aload_n (pc := 15) dX2_make_15 rfl rfl ?_
    refine q_getR (pc := 16) (i := c1 + 1) dX2_make_16 lk_RX2_33 (lyW0 hc1) (grW0 G hc1) ?_
    refine z_iload_n (pc := 19) dX2_make_19 rfl rfl ?_
    obtain ⟨k1, F⟩ := F
    refine q_aald (pc := 20) (j := (Int32.toNatClampNeg x3)) (r := c1 + 6 + (Int32.toNatClampNeg x3)) (t := 0) dX2_make_20 (lyW1 hc1) (zvn (lnW1 hc1) k1) rfl (grT (B := c1) G hc1 (zvi k1)) ?_
    refine q_getI (pc := 21) (v := rI h (c1 + 6 + (Int32.toNatClampNeg x3)) 1) dX2_make_21 lk_RX2_37 (lyT (B := c1) hc1 (zvi k1)) rfl ?_
    refine q_iast (pc := 24) (j := (Int32.toNatClampNeg x3)) dX2_make_24 (lyLo1 hc0) (zvn (lnLo1 hc0) k1) rfl ?_
    refine z_aload_n (pc := 25) dX2_make_25 rfl rfl ?_
    refine q_getR (pc := 26) (i := c0 + 2) dX2_make_26 lk_RX2_15 (lyLo0 hc0) (grLo1 G hc0) ?_
    refine z_iload_n (pc := 29) dX2_make_29 rfl rfl ?_
    refine z_iconst (pc := 30) (v := 0) dX2_make_30 (by decide) ?_
    refine q_iast (pc := 31) (j := (Int32.toNatClampNeg x3)) dX2_make_31 (lyLo2 hc0) (zvn (lnLo2 hc0) k1) rfl ?_
    refine z_aload_n (pc := 32) dX2_make_32 rfl rfl ?_
    refine q_getR (pc := 33) (i := c0 + 3) dX2_make_33 lk_RX2_18 (lyLo0 hc0) (grLo2 G hc0) ?_
    refine z_iload_n (pc := 36) dX2_make_36 rfl rfl ?_
    refine z_aload_n (pc := 37) dX2_make_37 rfl rfl ?_
    refine q_getR (pc := 38) (i := c1 + 1) dX2_make_38 lk_RX2_33 (lyW0 hc1) (grW0 G hc1) ?_
    refine z_iload_n (pc := 41) dX2_make_41 rfl rfl ?_
    refine q_aald (pc := 42) (j := (Int32.toNatClampNeg x3)) (r := c1 + 6 + (Int32.toNatClampNeg x3)) (t := 0) dX2_make_42 (lyW1 hc1) (zvn (lnW1 hc1) k1) rfl (grT (B := c1) G hc1 (zvi k1)) ?_
    refine q_getI (pc := 43) (v := rI h (c1 + 6 + (Int32.toNatClampNeg x3)) 2) dX2_make_43 lk_RX2_41 (lyT (B := c1) hc1 (zvi k1)) ((rI_c (zne (lyT (B := c1) hc1 (zvi k1)) (lyLo2 hc0) (by decide))).trans (rI_c (zne (lyT (B := c1) hc1 (zvi k1)) (lyLo1 hc0) (by decide)))) ?_
    refine q_iast (pc := 46) (j := (Int32.toNatClampNeg x3)) dX2_make_46 (lyLo3 hc0) (zvn (lnLo3 hc0) k1) rfl ?_
    refine z_aload_n (pc := 47) dX2_make_47 rfl rfl ?_
    refine q_getR (pc := 48) (i := c0 + 4) dX2_make_48 lk_RX2_21 (lyLo0 hc0) (grLo3 G hc0) ?_
    refine z_iload_n (pc := 51) dX2_make_51 rfl rfl ?_
    refine z_aload_n (pc := 52) dX2_make_52 rfl rfl ?_
    refine q_getR (pc := 53) (i := c1 + 1) dX2_make_53 lk_RX2_33 (lyW0 hc1) (grW0 G hc1) ?_
    refine z_iload_n (pc := 56) dX2_make_56 rfl rfl ?_
    refine q_aald (pc := 57) (j := (Int32.toNatClampNeg x3)) (r := c1 + 6 + (Int32.toNatClampNeg x3)) (t := 0) dX2_make_57 (lyW1 hc1) (zvn (lnW1 hc1) k1) rfl (grT (B := c1) G hc1 (zvi k1)) ?_
    refine q_getI (pc := 58) (v := rI h (c1 + 6 + (Int32.toNatClampNeg x3)) 3) dX2_make_58 lk_RX2_43 (lyT (B := c1) hc1 (zvi k1)) (((rI_c (zne (lyT (B := c1) hc1 (zvi k1)) (lyLo3 hc0) (by decide))).trans (rI_c (zne (lyT (B := c1) hc1 (zvi k1)) (lyLo2 hc0) (by decide)))).trans (rI_c (zne (lyT (B := c1) hc1 (zvi k1)) (lyLo1 hc0) (by decide)))) ?_
    refine q_iast (pc := 61) (j := (Int32.toNatClampNeg x3)) dX2_make_61 (lyLo4 hc0) (zvn (lnLo4 hc0) k1) rfl ?_
    refine z_iinc (pc := 62) (v := x3 + 1) (ls' := [some (.ref c0), some (.ref c1), some (.int x2), some (.int (x3 + 1)), none, none, none]) dX2_make_62 (by decide) rfl rfl rfl ?_
    refine z_goto (pc := 65) (tgt := 2) dX2_make_65 (by decide) ?_
    exact F
theorem g_X2_make_75 {c0 : Nat} {c1 : Nat} {x2 : Int32} {x3 : Int32} {h : zHp} {Q : zHp → Prop} (hc0 : zLo c0) (hc1 : zW c1) (G : zG h) (F : (x2 ≤ x3 → (Q h)) ∧ (¬ (x2 ≤ x3) → ((5 ≤ x3 → (Q h)) ∧ (¬ (5 ≤ x3) → (zcI M_X8_workingIn [.ref c1, .int x3] h (fun vh1 h1 => zG h1 ∧ (zlV M_X2_make 95 [some (.ref c0), some (.ref c1), some (.int x2), some (.int x3), some (.int vh1), some (.int 0), none] [] h1 Q))))))) : zlV M_X2_make 75 [some (.ref c0), some (.ref c1), some (.int x2), some (.int x3), none, none, none] [] h Q := by
  refine z_iload_n (pc := 75) dX2_make_75 rfl rfl ?_
  refine z_iload_n (pc := 76) dX2_make_76 rfl rfl ?_
  refine z_icmp_ge (pc := 77) (tgt := 157) dX2_make_77 (by decide) (fun k3 => ?_) (fun k3 => ?_)
  · replace F := F.1 k3
    exact q_retV (pc := 157) dX2_make_157 rfl F
  · replace F := F.2 k3
    refine z_iload_n (pc := 80) dX2_make_80 rfl rfl ?_
    refine z_iconst (pc := 81) (v := 5) dX2_make_81 (by decide) ?_
    refine z_icmp_ge (pc := 82) (tgt := 157) dX2_make_82 (by decide) (fun k2 => ?_) (fun k2 => ?_)
    · replace F := F.1 k2
      exact q_retV (pc := 157) dX2_make_157 rfl F
    · replace F := F.2 k2
      refine z_aload_n (pc := 85) dX2_make_85 rfl rfl ?_
      refine z_iload_n (pc := 86) dX2_make_86 rfl rfl ?_
      refine q_invV (pc := 87) (As := [.int x3]) (st := []) dX2_make_87 ok_X8_workingIn ml_RX2_48 iv_X8_workingIn pa_X8_workingIn ⟨Nat.le_of_ble_eq_true rfl, Nat.le_of_ble_eq_true rfl⟩ (lyW0 hc1) (q_kI F (fun vh1 h1 F => ?_))
      obtain ⟨G1, F⟩ := F
      refine z_istore (pc := 90) (ls' := [some (.ref c0), some (.ref c1), some (.int x2), some (.int x3), some (.int vh1), none, none]) dX2_make_90 (by decide) rfl ?_
      refine z_iconst (pc := 92) (v := 0) dX2_make_92 (by decide) ?_
      refine z_istore (pc := 93) (ls' := [some (.ref c0), some (.ref c1), some (.int x2), some (.int x3), some (.int vh1), some (.int 0), none]) dX2_make_93 (by decide) rfl ?_
      exact F
theorem g_X2_make_95 {c0 : Nat} {c1 : Nat} {x2 : Int32} {x3 : Int32} {x4 : Int32} {x5 : Int32} {h : zHp} {Q : zHp → Prop} (hc0 : zLo c0) (hc1 : zW c1) (G : zG h) (F : (10 ≤ x5 → (zlV M_X2_make 75 [some (.ref c0), some (.ref c1), some (.int x2), some (.int (x3 + 1)), none, none, none] [] h Q)) ∧ (¬ (10 ≤ x5) → ((x4 = 0 → (zlV M_X2_make 75 [some (.ref c0), some (.ref c1), some (.int x2), some (.int (x3 + 1)), none, none, none] [] h Q)) ∧ (¬ (x4 = 0) → (zcI M_X2_pick [.ref c0, .ref c1, .int x4] h (fun vh1 h1 => zG h1 ∧ (vp_in vh1 10 ∧ (zRef h1 (c1 + 2) ((Int32.toNatClampNeg vh1)) 2 ∧ (zcV M_X2_perform [.ref c0, .ref c1, .ref (rG h1 (c1 + 2) ((Int32.toNatClampNeg vh1)))] h1 (fun h2 => zG h2 ∧ (zcV M_X2_record [.ref c0, .int vh1] h2 (fun h3 => zG h3 ∧ (zlV M_X2_make 95 [some (.ref c0), some (.ref c1), some (.int x2), some (.int x3), some (.int (x4 &&& ((1 <<< (vh1 &&& 31)) ^^^ (-1)))), some (.int (x5 + 1)), none] [] h3 Q))))))))))))) : zlV M_X2_make 95 [some (.ref c0), some (.ref c1), some (.int x2), some (.int x3), some (.int x4), some (.int x5), none] [] h Q := by
  refine z_iload (pc := 95) dX2_make_95 rfl ?_
  refine z_bipush (pc := 97) (v := 10) dX2_make_97 (by decide) ?_
  refine z_icmp_ge (pc := 99) (tgt := 151) dX2_make_99 (by decide) (fun k7 => ?_) (fun k7 => ?_)
  · replace F := F.1 k7
    refine z_iinc (pc := 151) (v := x3 + 1) (ls' := [some (.ref c0), some (.ref c1), some (.int x2), some (.int (x3 + 1)), some (.int x4), some (.int x5), none]) dX2_make_151 (by decide) rfl rfl rfl ?_
    refine z_goto (pc := 154) (tgt := 75) dX2_make_154 (by decide) ?_
    exact q_sub (ls' := [some (.ref c0), some (.ref c1), some (.int x2), some (.int (x3 + 1)), none, none, none]) ⟨rfl, rfl, rfl, rfl, trivial⟩ F
  · replace F := F.2 k7
    refine z_iload (pc := 102) dX2_make_102 rfl ?_
    refine z_if_eq (pc := 104) (tgt := 151) dX2_make_104 (by decide) (fun k6 => ?_) (fun k6 => ?_)
    · replace F := F.1 k6
      refine z_iinc (pc := 151) (v := x3 + 1) (ls' := [some (.ref c0), some (.ref c1), some (.int x2), some (.int (x3 + 1)), some (.int x4), some (.int x5), none]) dX2_make_151 (by decide) rfl rfl rfl ?_
      refine z_goto (pc := 154) (tgt := 75) dX2_make_154 (by decide) ?_
      exact q_sub (ls' := [some (.ref c0), some (.ref c1), some (.int x2), some (.int (x3 + 1)), none, none, none]) ⟨rfl, rfl, rfl, rfl, trivial⟩ F
    · replace F := F.2 k6
      refine z_aload_n (pc := 107) dX2_make_107 rfl rfl ?_
      refine z_aload_n (pc := 108) dX2_make_108 rfl rfl ?_
      refine z_iload (pc := 109) dX2_make_109 rfl ?_
      refine q_invV (pc := 111) (As := [.ref c1, .int x4]) (st := []) dX2_make_111 ok_X2_pick ml_RX2_52 iv_X2_pick pa_X2_pick ⟨Nat.le_of_ble_eq_true rfl, Nat.le_of_ble_eq_true rfl⟩ (lyLo0 hc0) (q_kI F (fun vh1 h1 F => ?_))
      obtain ⟨G1, F⟩ := F
      refine z_istore (pc := 114) (ls' := [some (.ref c0), some (.ref c1), some (.int x2), some (.int x3), some (.int x4), some (.int x5), some (.int vh1)]) dX2_make_114 (by decide) rfl ?_
      refine z_aload_n (pc := 116) dX2_make_116 rfl rfl ?_
      refine z_aload_n (pc := 117) dX2_make_117 rfl rfl ?_
      refine z_aload_n (pc := 118) dX2_make_118 rfl rfl ?_
      refine q_getR (pc := 119) (i := c1 + 2) dX2_make_119 lk_RX2_56 (lyW0 hc1) (grW2 G1 hc1) ?_
      refine z_iload (pc := 122) dX2_make_122 rfl ?_
      obtain ⟨k2, F⟩ := F
      obtain ⟨k3, F⟩ := F
      refine q_aald (pc := 124) (j := (Int32.toNatClampNeg vh1)) (r := rG h1 (c1 + 2) ((Int32.toNatClampNeg vh1))) (t := 1) dX2_make_124 (lyW2 hc1) (zvn (lnW2 hc1) k2) rfl k3.1 ?_
      refine q_invV (pc := 125) (As := [.ref c1, .ref (rG h1 (c1 + 2) ((Int32.toNatClampNeg vh1)))]) (st := []) dX2_make_125 ok_X2_perform ml_RX2_60 iv_X2_perform pa_X2_perform ⟨Nat.le_of_ble_eq_true rfl, Nat.le_of_ble_eq_true rfl⟩ (lyLo0 hc0) (q_kV F (fun h2 F => ?_))
      obtain ⟨G2, F⟩ := F
      refine z_aload_n (pc := 128) dX2_make_128 rfl rfl ?_
      refine z_iload (pc := 129) dX2_make_129 rfl ?_
      refine q_invV (pc := 131) (As := [.int vh1]) (st := []) dX2_make_131 ok_X2_record ml_RX2_64 iv_X2_record pa_X2_record ⟨Nat.le_of_ble_eq_true rfl, Nat.le_of_ble_eq_true rfl⟩ (lyLo0 hc0) (q_kV F (fun h3 F => ?_))
      obtain ⟨G3, F⟩ := F
      refine z_iload (pc := 134) dX2_make_134 rfl ?_
      refine z_iconst (pc := 136) (v := 1) dX2_make_136 (by decide) ?_
      refine z_iload (pc := 137) dX2_make_137 rfl ?_
      refine z_ishl (pc := 139) dX2_make_139 ?_
      refine z_iconst (pc := 140) (v := -1) dX2_make_140 (by decide) ?_
      refine z_ixor (pc := 141) dX2_make_141 ?_
      refine z_iand (pc := 142) dX2_make_142 ?_
      refine z_istore (pc := 143) (ls' := [some (.ref c0), some (.ref c1), some (.int x2), some (.int x3), some (.int (x4 &&& ((1 <<< (vh1 &&& 31)) ^^^ (-1)))), some (.int x5), some (.int vh1)]) dX2_make_143 (by decide) rfl ?_
      refine z_iinc (pc := 145) (v := x5 + 1) (ls' := [some (.ref c0), some (.ref c1), some (.int x2), some (.int x3), some (.int (x4 &&& ((1 <<< (vh1 &&& 31)) ^^^ (-1)))), some (.int (x5 + 1)), some (.int vh1)]) dX2_make_145 (by decide) rfl rfl rfl ?_
      refine z_goto (pc := 148) (tgt := 95) dX2_make_148 (by decide) ?_
      exact q_sub (ls' := [some (.ref c0), some (.ref c1), some (.int x2), some (.int x3), some (.int (x4 &&& ((1 <<< (vh1 &&& 31)) ^^^ (-1)))), some (.int (x5 + 1)), none]) ⟨rfl, rfl, rfl, rfl, rfl, rfl, trivial⟩ F
theorem g_X2_record {c0 : Nat} {x1 : Int32} {h : zHp} {Q : zHp → Prop} (hc0 : zLo c0) (G : zG h) (F : (10 ≤ rI h c0 5 → (Q h)) ∧ (¬ (10 ≤ rI h c0 5) → (vp_in (rI h c0 5) 10 ∧ (Q (wI (wI h (c0 + 5) ((Int32.toNatClampNeg (rI h c0 5))) x1) c0 5 ((rI h c0 5) + 1)))))) : zcV M_X2_record [.ref c0, .int x1] h Q := by
  show zw zNT zNT M_X2_record 0 [some (.ref c0), some (.int x1)] [] h _
  refine z_aload_n (pc := 0) dX2_record_0 rfl rfl ?_
  refine q_getI (pc := 1) (v := rI h c0 5) dX2_record_1 lk_RX2_45 (lyLo0 hc0) rfl ?_
  refine z_bipush (pc := 4) (v := 10) dX2_record_4 (by decide) ?_
  refine z_icmp_ge (pc := 6) (tgt := 29) dX2_record_6 (by decide) (fun k2 => ?_) (fun k2 => ?_)
  · replace F := F.1 k2
    exact q_retV (pc := 29) dX2_record_29 rfl F
  · replace F := F.2 k2
    refine z_aload_n (pc := 9) dX2_record_9 rfl rfl ?_
    refine q_getR (pc := 10) (i := c0 + 5) dX2_record_10 lk_RX2_24 (lyLo0 hc0) (grLo4 G hc0) ?_
    refine z_aload_n (pc := 13) dX2_record_13 rfl rfl ?_
    refine q_getI (pc := 14) (v := rI h c0 5) dX2_record_14 lk_RX2_45 (lyLo0 hc0) rfl ?_
    refine z_iload_n (pc := 17) dX2_record_17 rfl rfl ?_
    obtain ⟨k1, F⟩ := F
    refine q_iast (pc := 18) (j := (Int32.toNatClampNeg (rI h c0 5))) dX2_record_18 (lyLo5 hc0) (zvn (lnLo5 hc0) k1) rfl ?_
    refine z_aload_n (pc := 19) dX2_record_19 rfl rfl ?_
    refine z_dup (pc := 20) dX2_record_20 rfl ?_
    refine q_getI (pc := 21) (v := rI h c0 5) dX2_record_21 lk_RX2_45 (lyLo0 hc0) (rI_c (zne (lyLo0 hc0) (lyLo5 hc0) (by decide))) ?_
    refine z_iconst (pc := 24) (v := 1) dX2_record_24 (by decide) ?_
    refine z_iadd (pc := 25) dX2_record_25 ?_
    refine q_putI (pc := 26) dX2_record_26 lk_RX2_45 (lyLo0 hc0) ?_
    exact q_retV (pc := 29) dX2_record_29 rfl F
theorem g_X2_pick {c0 : Nat} {c1 : Nat} {x2 : Int32} {h : zHp} {Q : Int32 → zHp → Prop} (hc0 : zLo c0) (hc1 : zW c1) (G : zG h) (F : zlI M_X2_pick 2 [some (.ref c0), some (.ref c1), some (.int x2), some (.int 0), none, none, none] [] h Q) : zcI M_X2_pick [.ref c0, .ref c1, .int x2] h Q := by
  show zw zNT zNT M_X2_pick 0 [some (.ref c0), some (.ref c1), some (.int x2), none, none, none, none] [] h _
  refine z_iconst (pc := 0) (v := 0) dX2_pick_0 (by decide) ?_
  refine z_istore_n (pc := 1) (ls' := [some (.ref c0), some (.ref c1), some (.int x2), some (.int 0), none, none, none]) dX2_pick_1 rfl (by decide) rfl ?_
  exact F
theorem g_X2_pick_2 {c0 : Nat} {c1 : Nat} {x2 : Int32} {x3 : Int32} {h : zHp} {Q : Int32 → zHp → Prop} (hc0 : zLo c0) (hc1 : zW c1) (G : zG h) (F : (rI h c1 3 ≤ x3 → (zcI M_J6_numberOfTrailingZeros_0f7a4 [.int x2] h (fun vh1 h1 => zG h1 ∧ (Q (if 9 < vh1 then 9 else vh1) h1)))) ∧ (¬ (rI h c1 3 ≤ x3) → (((x2 >>> (x3 &&& 31)) &&& 1 = 0 → (zlI M_X2_pick 28 [some (.ref c0), some (.ref c1), some (.int x2), some (.int x3), some (.int 0), some (.int 0), none] [] h Q)) ∧ (¬ ((x2 >>> (x3 &&& 31)) &&& 1 = 0) → (zlI M_X2_pick 28 [some (.ref c0), some (.ref c1), some (.int x2), some (.int x3), some (.int 1), some (.int 0), none] [] h Q))))) : zlI M_X2_pick 2 [some (.ref c0), some (.ref c1), some (.int x2), some (.int x3), none, none, none] [] h Q := by
  refine z_iload_n (pc := 2) dX2_pick_2 rfl rfl ?_
  refine z_aload_n (pc := 3) dX2_pick_3 rfl rfl ?_
  refine q_getI (pc := 4) (v := rI h c1 3) dX2_pick_4 lk_RX2_68 (lyW0 hc1) rfl ?_
  refine z_icmp_ge (pc := 7) (tgt := 116) dX2_pick_7 (by decide) (fun k3 => ?_) (fun k3 => ?_)
  · replace F := F.1 k3
    refine z_iload_n (pc := 116) dX2_pick_116 rfl rfl ?_
    refine q_invS (pc := 117) (As := [.int x2]) (st := []) dX2_pick_117 ok_J6_numberOfTrailingZeros_0f7a4 ml_RX2_75 st_J6_numberOfTrailingZeros_0f7a4 pa_J6_numberOfTrailingZeros_0f7a4 ⟨Nat.le_of_ble_eq_true rfl, Nat.le_of_ble_eq_true rfl⟩ (q_kI F (fun vh1 h1 F => ?_))
    obtain ⟨G1, F⟩ := F
    refine z_bipush (pc := 120) (v := 9) dX2_pick_120 (by decide) ?_
    refine z_min (pc := 122) dX2_pick_122 ⟨pl_RX2_80, pw_minS, pw_Math, pw_minC⟩ (zcat_of rfl) ⟨Nat.le_of_ble_eq_true rfl, Nat.le_of_ble_eq_true rfl⟩ ?_
    exact q_retI (pc := 125) dX2_pick_125 rfl F
  · replace F := F.2 k3
    refine z_iload_n (pc := 10) dX2_pick_10 rfl rfl ?_
    refine z_iload_n (pc := 11) dX2_pick_11 rfl rfl ?_
    refine z_ishr (pc := 12) dX2_pick_12 ?_
    refine z_iconst (pc := 13) (v := 1) dX2_pick_13 (by decide) ?_
    refine z_iand (pc := 14) dX2_pick_14 ?_
    refine z_if_eq (pc := 15) (tgt := 22) dX2_pick_15 (by decide) (fun k2 => ?_) (fun k2 => ?_)
    · replace F := F.1 k2
      refine z_iconst (pc := 22) (v := 0) dX2_pick_22 (by decide) ?_
      refine z_istore (pc := 23) (ls' := [some (.ref c0), some (.ref c1), some (.int x2), some (.int x3), some (.int 0), none, none]) dX2_pick_23 (by decide) rfl ?_
      refine z_iconst (pc := 25) (v := 0) dX2_pick_25 (by decide) ?_
      refine z_istore (pc := 26) (ls' := [some (.ref c0), some (.ref c1), some (.int x2), some (.int x3), some (.int 0), some (.int 0), none]) dX2_pick_26 (by decide) rfl ?_
      exact F
    · replace F := F.2 k2
      refine z_iconst (pc := 18) (v := 1) dX2_pick_18 (by decide) ?_
      refine z_goto (pc := 19) (tgt := 23) dX2_pick_19 (by decide) ?_
      refine z_istore (pc := 23) (ls' := [some (.ref c0), some (.ref c1), some (.int x2), some (.int x3), some (.int 1), none, none]) dX2_pick_23 (by decide) rfl ?_
      refine z_iconst (pc := 25) (v := 0) dX2_pick_25 (by decide) ?_
      refine z_istore (pc := 26) (ls' := [some (.ref c0), some (.ref c1), some (.int x2), some (.int x3), some (.int 1), some (.int 0), none]) dX2_pick_26 (by decide) rfl ?_
      exact F
theorem g_X2_pick_28 {c0 : Nat} {c1 : Nat} {x2 : Int32} {x3 : Int32} {x4 : Int32} {x5 : Int32} {h : zHp} {Q : Int32 → zHp → Prop} (hc0 : zLo c0) (hc1 : zW c1) (G : zG h) (F : (x4 = 0 → ((x4 = 0 → (zlI M_X2_pick 2 [some (.ref c0), some (.ref c1), some (.int x2), some (.int (x3 + 1)), none, none, none] [] h Q)) ∧ (¬ (x4 = 0) → (Q x3 h)))) ∧ (¬ (x4 = 0) → ((rI h c1 3 ≤ x5 → ((x4 = 0 → (zlI M_X2_pick 2 [some (.ref c0), some (.ref c1), some (.int x2), some (.int (x3 + 1)), none, none, none] [] h Q)) ∧ (¬ (x4 = 0) → (Q x3 h)))) ∧ (¬ (rI h c1 3 ≤ x5) → ((x5 = x3 → (zlI M_X2_pick 62 [some (.ref c0), some (.ref c1), some (.int x2), some (.int x3), some (.int x4), some (.int x5), none] [.int 0] h Q)) ∧ (¬ (x5 = x3) → (((x2 >>> (x5 &&& 31)) &&& 1 = 0 → (zlI M_X2_pick 62 [some (.ref c0), some (.ref c1), some (.int x2), some (.int x3), some (.int x4), some (.int x5), none] [.int 0] h Q)) ∧ (¬ ((x2 >>> (x5 &&& 31)) &&& 1 = 0) → (zlI M_X2_pick 62 [some (.ref c0), some (.ref c1), some (.int x2), some (.int x3), some (.int x4), some (.int x5), none] [.int 1] h Q))))))))) : zlI M_X2_pick 28 [some (.ref c0), some (.ref c1), some (.int x2), some (.int x3), some (.int x4), some (.int x5), none] [] h Q := by
  refine z_iload (pc := 28) dX2_pick_28 rfl ?_
  refine z_if_eq (pc := 30) (tgt := 103) dX2_pick_30 (by decide) (fun k6 => ?_) (fun k6 => ?_)
  · replace F := F.1 k6
    refine z_iload (pc := 103) dX2_pick_103 rfl ?_
    refine z_if_eq (pc := 105) (tgt := 110) dX2_pick_105 (by decide) (fun k1 => ?_) (fun k1 => ?_)
    · replace F := F.1 k1
      refine z_iinc (pc := 110) (v := x3 + 1) (ls' := [some (.ref c0), some (.ref c1), some (.int x2), some (.int (x3 + 1)), some (.int x4), some (.int x5), none]) dX2_pick_110 (by decide) rfl rfl rfl ?_
      refine z_goto (pc := 113) (tgt := 2) dX2_pick_113 (by decide) ?_
      exact q_sub (ls' := [some (.ref c0), some (.ref c1), some (.int x2), some (.int (x3 + 1)), none, none, none]) ⟨rfl, rfl, rfl, rfl, trivial⟩ F
    · replace F := F.2 k1
      refine z_iload_n (pc := 108) dX2_pick_108 rfl rfl ?_
      exact q_retI (pc := 109) dX2_pick_109 rfl F
  · replace F := F.2 k6
    refine z_iload (pc := 33) dX2_pick_33 rfl ?_
    refine z_aload_n (pc := 35) dX2_pick_35 rfl rfl ?_
    refine q_getI (pc := 36) (v := rI h c1 3) dX2_pick_36 lk_RX2_68 (lyW0 hc1) rfl ?_
    refine z_icmp_ge (pc := 39) (tgt := 103) dX2_pick_39 (by decide) (fun k5 => ?_) (fun k5 => ?_)
    · replace F := F.1 k5
      refine z_iload (pc := 103) dX2_pick_103 rfl ?_
      refine z_if_eq (pc := 105) (tgt := 110) dX2_pick_105 (by decide) (fun k2 => ?_) (fun k2 => ?_)
      · replace F := F.1 k2
        refine z_iinc (pc := 110) (v := x3 + 1) (ls' := [some (.ref c0), some (.ref c1), some (.int x2), some (.int (x3 + 1)), some (.int x4), some (.int x5), none]) dX2_pick_110 (by decide) rfl rfl rfl ?_
        refine z_goto (pc := 113) (tgt := 2) dX2_pick_113 (by decide) ?_
        exact q_sub (ls' := [some (.ref c0), some (.ref c1), some (.int x2), some (.int (x3 + 1)), none, none, none]) ⟨rfl, rfl, rfl, rfl, trivial⟩ F
      · replace F := F.2 k2
        refine z_iload_n (pc := 108) dX2_pick_108 rfl rfl ?_
        exact q_retI (pc := 109) dX2_pick_109 rfl F
    · replace F := F.2 k5
      refine z_iload (pc := 42) dX2_pick_42 rfl ?_
      refine z_iload_n (pc := 44) dX2_pick_44 rfl rfl ?_
      refine z_icmp_eq (pc := 45) (tgt := 61) dX2_pick_45 (by decide) (fun k4 => ?_) (fun k4 => ?_)
      · replace F := F.1 k4
        refine z_iconst (pc := 61) (v := 0) dX2_pick_61 (by decide) ?_
        exact F
      · replace F := F.2 k4
        refine z_iload_n (pc := 48) dX2_pick_48 rfl rfl ?_
        refine z_iload (pc := 49) dX2_pick_49 rfl ?_
        refine z_ishr (pc := 51) dX2_pick_51 ?_
        refine z_iconst (pc := 52) (v := 1) dX2_pick_52 (by decide) ?_
        refine z_iand (pc := 53) dX2_pick_53 ?_
        refine z_if_eq (pc := 54) (tgt := 61) dX2_pick_54 (by decide) (fun k3 => ?_) (fun k3 => ?_)
        · replace F := F.1 k3
          refine z_iconst (pc := 61) (v := 0) dX2_pick_61 (by decide) ?_
          exact F
        · replace F := F.2 k3
          refine z_iconst (pc := 57) (v := 1) dX2_pick_57 (by decide) ?_
          refine z_goto (pc := 58) (tgt := 62) dX2_pick_58 (by decide) ?_
          exact F
theorem g_X2_pick_62 {c0 : Nat} {c1 : Nat} {x2 : Int32} {x3 : Int32} {x4 : Int32} {x5 : Int32} {xs0 : Int32} {h : zHp} {Q : Int32 → zHp → Prop} (hc0 : zLo c0) (hc1 : zW c1) (G : zG h) (F : (xs0 = 0 → (zlI M_X2_pick 28 [some (.ref c0), some (.ref c1), some (.int x2), some (.int x3), some (.int 1), some (.int (x5 + 1)), none] [] h Q)) ∧ (¬ (xs0 = 0) → (vp_in x3 10 ∧ (zRef h (c1 + 2) ((Int32.toNatClampNeg x3)) 2 ∧ (vp_in x5 10 ∧ (zRef h (c1 + 2) ((Int32.toNatClampNeg x5)) 2 ∧ (zcI M_X2_needs [.ref c0, .ref c1, .ref (rG h (c1 + 2) ((Int32.toNatClampNeg x3))), .ref (rG h (c1 + 2) ((Int32.toNatClampNeg x5)))] h (fun vh1 h1 => zG h1 ∧ ((¬ vh1 = 0 → (zlI M_X2_pick 28 [some (.ref c0), some (.ref c1), some (.int x2), some (.int x3), some (.int 0), some (.int (x5 + 1)), none] [] h1 Q)) ∧ (vh1 = 0 → (zlI M_X2_pick 28 [some (.ref c0), some (.ref c1), some (.int x2), some (.int x3), some (.int 1), some (.int (x5 + 1)), none] [] h1 Q))))))))))) : zlI M_X2_pick 62 [some (.ref c0), some (.ref c1), some (.int x2), some (.int x3), some (.int x4), some (.int x5), none] [.int xs0] h Q := by
  refine z_istore (pc := 62) (ls' := [some (.ref c0), some (.ref c1), some (.int x2), some (.int x3), some (.int x4), some (.int x5), some (.int xs0)]) dX2_pick_62 (by decide) rfl ?_
  refine z_iload (pc := 64) dX2_pick_64 rfl ?_
  refine z_if_eq (pc := 66) (tgt := 90) dX2_pick_66 (by decide) (fun k7 => ?_) (fun k7 => ?_)
  · replace F := F.1 k7
    refine z_iconst (pc := 90) (v := 1) dX2_pick_90 (by decide) ?_
    refine z_goto (pc := 91) (tgt := 95) dX2_pick_91 (by decide) ?_
    refine z_istore (pc := 95) (ls' := [some (.ref c0), some (.ref c1), some (.int x2), some (.int x3), some (.int 1), some (.int x5), some (.int xs0)]) dX2_pick_95 (by decide) rfl ?_
    refine z_iinc (pc := 97) (v := x5 + 1) (ls' := [some (.ref c0), some (.ref c1), some (.int x2), some (.int x3), some (.int 1), some (.int (x5 + 1)), some (.int xs0)]) dX2_pick_97 (by decide) rfl rfl rfl ?_
    refine z_goto (pc := 100) (tgt := 28) dX2_pick_100 (by decide) ?_
    exact q_sub (ls' := [some (.ref c0), some (.ref c1), some (.int x2), some (.int x3), some (.int 1), some (.int (x5 + 1)), none]) ⟨rfl, rfl, rfl, rfl, rfl, rfl, trivial⟩ F
  · replace F := F.2 k7
    refine z_aload_n (pc := 69) dX2_pick_69 rfl rfl ?_
    refine z_aload_n (pc := 70) dX2_pick_70 rfl rfl ?_
    refine z_aload_n (pc := 71) dX2_pick_71 rfl rfl ?_
    refine q_getR (pc := 72) (i := c1 + 2) dX2_pick_72 lk_RX2_56 (lyW0 hc1) (grW2 G hc1) ?_
    refine z_iload_n (pc := 75) dX2_pick_75 rfl rfl ?_
    obtain ⟨k1, F⟩ := F
    obtain ⟨k2, F⟩ := F
    refine q_aald (pc := 76) (j := (Int32.toNatClampNeg x3)) (r := rG h (c1 + 2) ((Int32.toNatClampNeg x3))) (t := 1) dX2_pick_76 (lyW2 hc1) (zvn (lnW2 hc1) k1) rfl k2.1 ?_
    refine z_aload_n (pc := 77) dX2_pick_77 rfl rfl ?_
    refine q_getR (pc := 78) (i := c1 + 2) dX2_pick_78 lk_RX2_56 (lyW0 hc1) (grW2 G hc1) ?_
    refine z_iload (pc := 81) dX2_pick_81 rfl ?_
    obtain ⟨k3, F⟩ := F
    obtain ⟨k4, F⟩ := F
    refine q_aald (pc := 83) (j := (Int32.toNatClampNeg x5)) (r := rG h (c1 + 2) ((Int32.toNatClampNeg x5))) (t := 1) dX2_pick_83 (lyW2 hc1) (zvn (lnW2 hc1) k3) rfl k4.1 ?_
    refine q_invV (pc := 84) (As := [.ref c1, .ref (rG h (c1 + 2) ((Int32.toNatClampNeg x3))), .ref (rG h (c1 + 2) ((Int32.toNatClampNeg x5)))]) (st := []) dX2_pick_84 ok_X2_needs ml_RX2_71 iv_X2_needs pa_X2_needs ⟨Nat.le_of_ble_eq_true rfl, Nat.le_of_ble_eq_true rfl⟩ (lyLo0 hc0) (q_kI F (fun vh1 h1 F => ?_))
    obtain ⟨G1, F⟩ := F
    refine z_if_ne (pc := 87) (tgt := 94) dX2_pick_87 (by decide) (fun k6 => ?_) (fun k6 => ?_)
    · replace F := F.1 k6
      refine z_iconst (pc := 94) (v := 0) dX2_pick_94 (by decide) ?_
      refine z_istore (pc := 95) (ls' := [some (.ref c0), some (.ref c1), some (.int x2), some (.int x3), some (.int 0), some (.int x5), some (.int xs0)]) dX2_pick_95 (by decide) rfl ?_
      refine z_iinc (pc := 97) (v := x5 + 1) (ls' := [some (.ref c0), some (.ref c1), some (.int x2), some (.int x3), some (.int 0), some (.int (x5 + 1)), some (.int xs0)]) dX2_pick_97 (by decide) rfl rfl rfl ?_
      refine z_goto (pc := 100) (tgt := 28) dX2_pick_100 (by decide) ?_
      exact q_sub (ls' := [some (.ref c0), some (.ref c1), some (.int x2), some (.int x3), some (.int 0), some (.int (x5 + 1)), none]) ⟨rfl, rfl, rfl, rfl, rfl, rfl, trivial⟩ F
    · replace F := F.2 k6
      refine z_iconst (pc := 90) (v := 1) dX2_pick_90 (by decide) ?_
      refine z_goto (pc := 91) (tgt := 95) dX2_pick_91 (by decide) ?_
      refine z_istore (pc := 95) (ls' := [some (.ref c0), some (.ref c1), some (.int x2), some (.int x3), some (.int 1), some (.int x5), some (.int xs0)]) dX2_pick_95 (by decide) rfl ?_
      refine z_iinc (pc := 97) (v := x5 + 1) (ls' := [some (.ref c0), some (.ref c1), some (.int x2), some (.int x3), some (.int 1), some (.int (x5 + 1)), some (.int xs0)]) dX2_pick_97 (by decide) rfl rfl rfl ?_
      refine z_goto (pc := 100) (tgt := 28) dX2_pick_100 (by decide) ?_
      exact q_sub (ls' := [some (.ref c0), some (.ref c1), some (.int x2), some (.int x3), some (.int 1), some (.int (x5 + 1)), none]) ⟨rfl, rfl, rfl, rfl, rfl, rfl, trivial⟩ F
theorem g_X2_needs {c0 : Nat} {c1 : Nat} {c2 : Nat} {c3 : Nat} {h : zHp} {Q : Int32 → zHp → Prop} (hc0 : zLo c0) (hc1 : zW c1) (hc2 : ly c2 = 2) (hc3 : ly c3 = 2) (G : zG h) (F : zlI M_X2_needs 3 [some (.ref c0), some (.ref c1), some (.ref c2), some (.ref c3), some (.int 0), none, none] [] h Q) : zcI M_X2_needs [.ref c0, .ref c1, .ref c2, .ref c3] h Q := by
  show zw zNT zNT M_X2_needs 0 [some (.ref c0), some (.ref c1), some (.ref c2), some (.ref c3), none, none, none] [] h _
  refine z_iconst (pc := 0) (v := 0) dX2_needs_0 (by decide) ?_
  refine z_istore (pc := 1) (ls' := [some (.ref c0), some (.ref c1), some (.ref c2), some (.ref c3), some (.int 0), none, none]) dX2_needs_1 (by decide) rfl ?_
  exact F
theorem g_X2_needs_3 {c0 : Nat} {c1 : Nat} {c2 : Nat} {c3 : Nat} {x4 : Int32} {h : zHp} {Q : Int32 → zHp → Prop} (hc0 : zLo c0) (hc1 : zW c1) (hc2 : ly c2 = 2) (hc3 : ly c3 = 2) (G : zG h) (F : (rI h c1 1 ≤ x4 → (Q 0 h)) ∧ (¬ (rI h c1 1 ≤ x4) → (zcI M_X2_holds [.ref c0, .ref c1, .int x4, .int (rI h c3 2), .int (rI h c3 3)] h (fun vh1 h1 => zG h1 ∧ ((vh1 = 0 → (zlI M_X2_needs 3 [some (.ref c0), some (.ref c1), some (.ref c2), some (.ref c3), some (.int (x4 + 1)), none, none] [] h1 Q)) ∧ (¬ (vh1 = 0) → (zcI M_X2_typeUnder [.ref c0, .ref c3, .int x4] h1 (fun vh2 h2 => zG h2 ∧ (zcI M_X2_marksUnder [.ref c0, .ref c3, .int x4] h2 (fun vh3 h3 => zG h3 ∧ (zcI M_X2_holds [.ref c0, .ref c1, .int x4, .int (rI h3 c2 2), .int (rI h3 c2 3)] h3 (fun vh4 h4 => zG h4 ∧ (vp_in x4 8 ∧ (zcI M_X2_fits [.ref (c1 + 6 + (Int32.toNatClampNeg x4)), .int x4, .int (rI h4 c2 2), .int (rI h4 c2 3), .int vh2, .int vh3] h4 (fun vh5 h5 => zG h5 ∧ ((vh4 = vh5 → (zlI M_X2_needs 3 [some (.ref c0), some (.ref c1), some (.ref c2), some (.ref c3), some (.int (x4 + 1)), none, none] [] h5 Q)) ∧ (¬ (vh4 = vh5) → (Q 1 h5)))))))))))))))))) : zlI M_X2_needs 3 [some (.ref c0), some (.ref c1), some (.ref c2), some (.ref c3), some (.int x4), none, none] [] h Q := by
  refine z_iload (pc := 3) dX2_needs_3 rfl ?_
  refine z_aload_n (pc := 5) dX2_needs_5 rfl rfl ?_
  refine q_getI (pc := 6) (v := rI h c1 1) dX2_needs_6 lk_RX2_27 (lyW0 hc1) rfl ?_
  refine z_icmp_ge (pc := 9) (tgt := 98) dX2_needs_9 (by decide) (fun k9 => ?_) (fun k9 => ?_)
  · replace F := F.1 k9
    refine z_iconst (pc := 98) (v := 0) dX2_needs_98 (by decide) ?_
    exact q_retB (pc := 99) dX2_needs_99 rfl (Or.inl rfl) F
  · replace F := F.2 k9
    refine z_aload_n (pc := 12) dX2_needs_12 rfl rfl ?_
    refine z_aload_n (pc := 13) dX2_needs_13 rfl rfl ?_
    refine z_iload (pc := 14) dX2_needs_14 rfl ?_
    refine z_aload_n (pc := 16) dX2_needs_16 rfl rfl ?_
    refine q_getI (pc := 17) (v := rI h c3 2) dX2_needs_17 lk_RX2_86 hc3 rfl ?_
    refine z_aload_n (pc := 20) dX2_needs_20 rfl rfl ?_
    refine q_getI (pc := 21) (v := rI h c3 3) dX2_needs_21 lk_RX2_91 hc3 rfl ?_
    refine q_invV (pc := 24) (As := [.ref c1, .int x4, .int (rI h c3 2), .int (rI h c3 3)]) (st := []) dX2_needs_24 ok_X2_holds ml_RX2_94 iv_X2_holds pa_X2_holds ⟨Nat.le_of_ble_eq_true rfl, Nat.le_of_ble_eq_true rfl⟩ (lyLo0 hc0) (q_kI F (fun vh1 h1 F => ?_))
    obtain ⟨G1, F⟩ := F
    refine z_if_eq (pc := 27) (tgt := 92) dX2_needs_27 (by decide) (fun k8 => ?_) (fun k8 => ?_)
    · replace F := F.1 k8
      refine z_iinc (pc := 92) (v := x4 + 1) (ls' := [some (.ref c0), some (.ref c1), some (.ref c2), some (.ref c3), some (.int (x4 + 1)), none, none]) dX2_needs_92 (by decide) rfl rfl rfl ?_
      refine z_goto (pc := 95) (tgt := 3) dX2_needs_95 (by decide) ?_
      exact F
    · replace F := F.2 k8
      refine z_aload_n (pc := 30) dX2_needs_30 rfl rfl ?_
      refine z_aload_n (pc := 31) dX2_needs_31 rfl rfl ?_
      refine z_iload (pc := 32) dX2_needs_32 rfl ?_
      refine q_invV (pc := 34) (As := [.ref c3, .int x4]) (st := []) dX2_needs_34 ok_X2_typeUnder ml_RX2_98 iv_X2_typeUnder pa_X2_typeUnder ⟨Nat.le_of_ble_eq_true rfl, Nat.le_of_ble_eq_true rfl⟩ (lyLo0 hc0) (q_kI F (fun vh2 h2 F => ?_))
      obtain ⟨G2, F⟩ := F
      refine z_istore (pc := 37) (ls' := [some (.ref c0), some (.ref c1), some (.ref c2), some (.ref c3), some (.int x4), some (.int vh2), none]) dX2_needs_37 (by decide) rfl ?_
      refine z_aload_n (pc := 39) dX2_needs_39 rfl rfl ?_
      refine z_aload_n (pc := 40) dX2_needs_40 rfl rfl ?_
      refine z_iload (pc := 41) dX2_needs_41 rfl ?_
      refine q_invV (pc := 43) (As := [.ref c3, .int x4]) (st := []) dX2_needs_43 ok_X2_marksUnder ml_RX2_102 iv_X2_marksUnder pa_X2_marksUnder ⟨Nat.le_of_ble_eq_true rfl, Nat.le_of_ble_eq_true rfl⟩ (lyLo0 hc0) (q_kI F (fun vh3 h3 F => ?_))
      obtain ⟨G3, F⟩ := F
      refine z_istore (pc := 46) (ls' := [some (.ref c0), some (.ref c1), some (.ref c2), some (.ref c3), some (.int x4), some (.int vh2), some (.int vh3)]) dX2_needs_46 (by decide) rfl ?_
      refine z_aload_n (pc := 48) dX2_needs_48 rfl rfl ?_
      refine z_aload_n (pc := 49) dX2_needs_49 rfl rfl ?_
      refine z_iload (pc := 50) dX2_needs_50 rfl ?_
      refine z_aload_n (pc := 52) dX2_needs_52 rfl rfl ?_
      refine q_getI (pc := 53) (v := rI h3 c2 2) dX2_needs_53 lk_RX2_86 hc2 rfl ?_
      refine z_aload_n (pc := 56) dX2_needs_56 rfl rfl ?_
      refine q_getI (pc := 57) (v := rI h3 c2 3) dX2_needs_57 lk_RX2_91 hc2 rfl ?_
      refine q_invV (pc := 60) (As := [.ref c1, .int x4, .int (rI h3 c2 2), .int (rI h3 c2 3)]) (st := []) dX2_needs_60 ok_X2_holds ml_RX2_94 iv_X2_holds pa_X2_holds ⟨Nat.le_of_ble_eq_true rfl, Nat.le_of_ble_eq_true rfl⟩ (lyLo0 hc0) (q_kI F (fun vh4 h4 F => ?_))
      obtain ⟨G4, F⟩ := F
      refine z_aload_n (pc := 63) dX2_needs_63 rfl rfl ?_
      refine q_getR (pc := 64) (i := c1 + 1) dX2_needs_64 lk_RX2_33 (lyW0 hc1) (grW0 G4 hc1) ?_
      refine z_iload (pc := 67) dX2_needs_67 rfl ?_
      obtain ⟨k5, F⟩ := F
      refine q_aald (pc := 69) (j := (Int32.toNatClampNeg x4)) (r := c1 + 6 + (Int32.toNatClampNeg x4)) (t := 0) dX2_needs_69 (lyW1 hc1) (zvn (lnW1 hc1) k5) rfl (grT (B := c1) G4 hc1 (zvi k5)) ?_
      refine z_iload (pc := 70) dX2_needs_70 rfl ?_
      refine z_aload_n (pc := 72) dX2_needs_72 rfl rfl ?_
      refine q_getI (pc := 73) (v := rI h4 c2 2) dX2_needs_73 lk_RX2_86 hc2 rfl ?_
      refine z_aload_n (pc := 76) dX2_needs_76 rfl rfl ?_
      refine q_getI (pc := 77) (v := rI h4 c2 3) dX2_needs_77 lk_RX2_91 hc2 rfl ?_
      refine z_iload (pc := 80) dX2_needs_80 rfl ?_
      refine z_iload (pc := 82) dX2_needs_82 rfl ?_
      refine q_invS (pc := 84) (As := [.ref (c1 + 6 + (Int32.toNatClampNeg x4)), .int x4, .int (rI h4 c2 2), .int (rI h4 c2 3), .int vh2, .int vh3]) (st := [.int vh4]) dX2_needs_84 ok_X2_fits ml_RX2_105 st_X2_fits pa_X2_fits ⟨Nat.le_of_ble_eq_true rfl, Nat.le_of_ble_eq_true rfl⟩ (q_kI F (fun vh5 h5 F => ?_))
      obtain ⟨G5, F⟩ := F
      refine z_icmp_eq (pc := 87) (tgt := 92) dX2_needs_87 (by decide) (fun k7 => ?_) (fun k7 => ?_)
      · replace F := F.1 k7
        refine z_iinc (pc := 92) (v := x4 + 1) (ls' := [some (.ref c0), some (.ref c1), some (.ref c2), some (.ref c3), some (.int (x4 + 1)), some (.int vh2), some (.int vh3)]) dX2_needs_92 (by decide) rfl rfl rfl ?_
        refine z_goto (pc := 95) (tgt := 3) dX2_needs_95 (by decide) ?_
        exact q_sub (ls' := [some (.ref c0), some (.ref c1), some (.ref c2), some (.ref c3), some (.int (x4 + 1)), none, none]) ⟨rfl, rfl, rfl, rfl, rfl, trivial⟩ F
      · replace F := F.2 k7
        refine z_iconst (pc := 90) (v := 1) dX2_needs_90 (by decide) ?_
        exact q_retB (pc := 91) dX2_needs_91 rfl (Or.inr rfl) F
theorem g_X2_typeUnder {c0 : Nat} {c1 : Nat} {x2 : Int32} {h : zHp} {Q : Int32 → zHp → Prop} (hc0 : zLo c0) (hc1 : ly c1 = 2) (G : zG h) (F : (¬ rI h c1 1 = 0 → (vp_in x2 8 ∧ (Q (rI h (c0 + 1) ((Int32.toNatClampNeg x2))) h))) ∧ (rI h c1 1 = 0 → (Q (rI h c1 4) h))) : zcI M_X2_typeUnder [.ref c0, .ref c1, .int x2] h Q := by
  show zw zNT zNT M_X2_typeUnder 0 [some (.ref c0), some (.ref c1), some (.int x2)] [] h _
  refine z_aload_n (pc := 0) dX2_typeUnder_0 rfl rfl ?_
  refine q_getI (pc := 1) (v := rI h c1 1) dX2_typeUnder_1 lk_RX2_109 hc1 rfl ?_
  refine z_if_ne (pc := 4) (tgt := 14) dX2_typeUnder_4 (by decide) (fun k2 => ?_) (fun k2 => ?_)
  · replace F := F.1 k2
    refine z_aload_n (pc := 14) dX2_typeUnder_14 rfl rfl ?_
    refine q_getR (pc := 15) (i := c0 + 1) dX2_typeUnder_15 lk_RX2_9 (lyLo0 hc0) (grLo0 G hc0) ?_
    refine z_iload_n (pc := 18) dX2_typeUnder_18 rfl rfl ?_
    obtain ⟨k1, F⟩ := F
    refine q_iald (pc := 19) (j := (Int32.toNatClampNeg x2)) (v := rI h (c0 + 1) ((Int32.toNatClampNeg x2))) dX2_typeUnder_19 (lyLo1 hc0) (zvn (lnLo1 hc0) k1) rfl rfl ?_
    exact q_retI (pc := 20) dX2_typeUnder_20 rfl F
  · replace F := F.2 k2
    refine z_aload_n (pc := 7) dX2_typeUnder_7 rfl rfl ?_
    refine q_getI (pc := 8) (v := rI h c1 4) dX2_typeUnder_8 lk_RX2_112 hc1 rfl ?_
    refine z_goto (pc := 11) (tgt := 20) dX2_typeUnder_11 (by decide) ?_
    exact q_retI (pc := 20) dX2_typeUnder_20 rfl F
theorem g_X2_marksUnder {c0 : Nat} {c1 : Nat} {x2 : Int32} {h : zHp} {Q : Int32 → zHp → Prop} (hc0 : zLo c0) (hc1 : ly c1 = 2) (G : zG h) (F : (¬ rI h c1 1 = 1 → ((¬ rI h c1 1 = 2 → (vp_in x2 8 ∧ (Q (rI h (c0 + 2) ((Int32.toNatClampNeg x2))) h))) ∧ (rI h c1 1 = 2 → (vp_in x2 8 ∧ (Q ((rI h (c0 + 2) ((Int32.toNatClampNeg x2))) &&& ((1 <<< ((rI h c1 4) &&& 31)) ^^^ (-1))) h))))) ∧ (rI h c1 1 = 1 → (vp_in x2 8 ∧ (Q ((rI h (c0 + 2) ((Int32.toNatClampNeg x2))) ||| (1 <<< ((rI h c1 4) &&& 31))) h)))) : zcI M_X2_marksUnder [.ref c0, .ref c1, .int x2] h Q := by
  show zw zNT zNT M_X2_marksUnder 0 [some (.ref c0), some (.ref c1), some (.int x2)] [] h _
  refine z_aload_n (pc := 0) dX2_marksUnder_0 rfl rfl ?_
  refine q_getI (pc := 1) (v := rI h c1 1) dX2_marksUnder_1 lk_RX2_109 hc1 rfl ?_
  refine z_iconst (pc := 4) (v := 1) dX2_marksUnder_4 (by decide) ?_
  refine z_icmp_ne (pc := 5) (tgt := 22) dX2_marksUnder_5 (by decide) (fun k5 => ?_) (fun k5 => ?_)
  · replace F := F.1 k5
    refine z_aload_n (pc := 22) dX2_marksUnder_22 rfl rfl ?_
    refine q_getI (pc := 23) (v := rI h c1 1) dX2_marksUnder_23 lk_RX2_109 hc1 rfl ?_
    refine z_iconst (pc := 26) (v := 2) dX2_marksUnder_26 (by decide) ?_
    refine z_icmp_ne (pc := 27) (tgt := 48) dX2_marksUnder_27 (by decide) (fun k3 => ?_) (fun k3 => ?_)
    · replace F := F.1 k3
      refine z_aload_n (pc := 48) dX2_marksUnder_48 rfl rfl ?_
      refine q_getR (pc := 49) (i := c0 + 2) dX2_marksUnder_49 lk_RX2_15 (lyLo0 hc0) (grLo1 G hc0) ?_
      refine z_iload_n (pc := 52) dX2_marksUnder_52 rfl rfl ?_
      obtain ⟨k1, F⟩ := F
      refine q_iald (pc := 53) (j := (Int32.toNatClampNeg x2)) (v := rI h (c0 + 2) ((Int32.toNatClampNeg x2))) dX2_marksUnder_53 (lyLo2 hc0) (zvn (lnLo2 hc0) k1) rfl rfl ?_
      exact q_retI (pc := 54) dX2_marksUnder_54 rfl F
    · replace F := F.2 k3
      refine z_aload_n (pc := 30) dX2_marksUnder_30 rfl rfl ?_
      refine q_getR (pc := 31) (i := c0 + 2) dX2_marksUnder_31 lk_RX2_15 (lyLo0 hc0) (grLo1 G hc0) ?_
      refine z_iload_n (pc := 34) dX2_marksUnder_34 rfl rfl ?_
      obtain ⟨k2, F⟩ := F
      refine q_iald (pc := 35) (j := (Int32.toNatClampNeg x2)) (v := rI h (c0 + 2) ((Int32.toNatClampNeg x2))) dX2_marksUnder_35 (lyLo2 hc0) (zvn (lnLo2 hc0) k2) rfl rfl ?_
      refine z_iconst (pc := 36) (v := 1) dX2_marksUnder_36 (by decide) ?_
      refine z_aload_n (pc := 37) dX2_marksUnder_37 rfl rfl ?_
      refine q_getI (pc := 38) (v := rI h c1 4) dX2_marksUnder_38 lk_RX2_112 hc1 rfl ?_
      refine z_ishl (pc := 41) dX2_marksUnder_41 ?_
      refine z_iconst (pc := 42) (v := -1) dX2_marksUnder_42 (by decide) ?_
      refine z_ixor (pc := 43) dX2_marksUnder_43 ?_
      refine z_iand (pc := 44) dX2_marksUnder_44 ?_
      refine z_goto (pc := 45) (tgt := 54) dX2_marksUnder_45 (by decide) ?_
      exact q_retI (pc := 54) dX2_marksUnder_54 rfl F
  · replace F := F.2 k5
    refine z_aload_n (pc := 8) dX2_marksUnder_8 rfl rfl ?_
    refine q_getR (pc := 9) (i := c0 + 2) dX2_marksUnder_9 lk_RX2_15 (lyLo0 hc0) (grLo1 G hc0) ?_
    refine z_iload_n (pc := 12) dX2_marksUnder_12 rfl rfl ?_
    obtain ⟨k4, F⟩ := F
    refine q_iald (pc := 13) (j := (Int32.toNatClampNeg x2)) (v := rI h (c0 + 2) ((Int32.toNatClampNeg x2))) dX2_marksUnder_13 (lyLo2 hc0) (zvn (lnLo2 hc0) k4) rfl rfl ?_
    refine z_iconst (pc := 14) (v := 1) dX2_marksUnder_14 (by decide) ?_
    refine z_aload_n (pc := 15) dX2_marksUnder_15 rfl rfl ?_
    refine q_getI (pc := 16) (v := rI h c1 4) dX2_marksUnder_16 lk_RX2_112 hc1 rfl ?_
    refine z_ishl (pc := 19) dX2_marksUnder_19 ?_
    refine z_ior (pc := 20) dX2_marksUnder_20 ?_
    exact q_retI (pc := 21) dX2_marksUnder_21 rfl F
theorem g_X2_perform {c0 : Nat} {c1 : Nat} {c2 : Nat} {h : zHp} {Q : zHp → Prop} (hc0 : zLo c0) (hc1 : zW c1) (hc2 : ly c2 = 2) (G : zG h) (F : zlV M_X2_perform 2 [some (.ref c0), some (.ref c1), some (.ref c2), some (.int 0)] [] h Q) : zcV M_X2_perform [.ref c0, .ref c1, .ref c2] h Q := by
  show zw zNT zNT M_X2_perform 0 [some (.ref c0), some (.ref c1), some (.ref c2), none] [] h _
  refine z_iconst (pc := 0) (v := 0) dX2_perform_0 (by decide) ?_
  refine z_istore_n (pc := 1) (ls' := [some (.ref c0), some (.ref c1), some (.ref c2), some (.int 0)]) dX2_perform_1 rfl (by decide) rfl ?_
  exact F
theorem g_X2_perform_2 {c0 : Nat} {c1 : Nat} {c2 : Nat} {x3 : Int32} {h : zHp} {Q : zHp → Prop} (hc0 : zLo c0) (hc1 : zW c1) (hc2 : ly c2 = 2) (G : zG h) (F : (rI h c1 1 ≤ x3 → (Q h)) ∧ (¬ (rI h c1 1 ≤ x3) → (zcI M_X2_holds [.ref c0, .ref c1, .int x3, .int (rI h c2 2), .int (rI h c2 3)] h (fun vh1 h1 => zG h1 ∧ ((vh1 = 0 → (zlV M_X2_perform 2 [some (.ref c0), some (.ref c1), some (.ref c2), some (.int (x3 + 1))] [] h1 Q)) ∧ (¬ (vh1 = 0) → (zcI M_X2_typeUnder [.ref c0, .ref c2, .int x3] h1 (fun vh2 h2 => zG h2 ∧ (vp_in x3 8 ∧ (zcI M_X2_marksUnder [.ref c0, .ref c2, .int x3] (wI h2 (c0 + 1) ((Int32.toNatClampNeg x3)) vh2) (fun vh3 h3 => zG h3 ∧ (zcV M_X2_changeStrength [.ref c0, .ref c2, .int x3] (wI h3 (c0 + 2) ((Int32.toNatClampNeg x3)) vh3) (fun h4 => zG h4 ∧ (zlV M_X2_perform 2 [some (.ref c0), some (.ref c1), some (.ref c2), some (.int (x3 + 1))] [] h4 Q)))))))))))))) : zlV M_X2_perform 2 [some (.ref c0), some (.ref c1), some (.ref c2), some (.int x3)] [] h Q := by
  refine z_iload_n (pc := 2) dX2_perform_2 rfl rfl ?_
  refine z_aload_n (pc := 3) dX2_perform_3 rfl rfl ?_
  refine q_getI (pc := 4) (v := rI h c1 1) dX2_perform_4 lk_RX2_27 (lyW0 hc1) rfl ?_
  refine z_icmp_ge (pc := 7) (tgt := 63) dX2_perform_7 (by decide) (fun k7 => ?_) (fun k7 => ?_)
  · replace F := F.1 k7
    exact q_retV (pc := 63) dX2_perform_63 rfl F
  · replace F := F.2 k7
    refine z_aload_n (pc := 10) dX2_perform_10 rfl rfl ?_
    refine z_aload_n (pc := 11) dX2_perform_11 rfl rfl ?_
    refine z_iload_n (pc := 12) dX2_perform_12 rfl rfl ?_
    refine z_aload_n (pc := 13) dX2_perform_13 rfl rfl ?_
    refine q_getI (pc := 14) (v := rI h c2 2) dX2_perform_14 lk_RX2_86 hc2 rfl ?_
    refine z_aload_n (pc := 17) dX2_perform_17 rfl rfl ?_
    refine q_getI (pc := 18) (v := rI h c2 3) dX2_perform_18 lk_RX2_91 hc2 rfl ?_
    refine q_invV (pc := 21) (As := [.ref c1, .int x3, .int (rI h c2 2), .int (rI h c2 3)]) (st := []) dX2_perform_21 ok_X2_holds ml_RX2_94 iv_X2_holds pa_X2_holds ⟨Nat.le_of_ble_eq_true rfl, Nat.le_of_ble_eq_true rfl⟩ (lyLo0 hc0) (q_kI F (fun vh1 h1 F => ?_))
    obtain ⟨G1, F⟩ := F
    refine z_if_eq (pc := 24) (tgt := 57) dX2_perform_24 (by decide) (fun k6 => ?_) (fun k6 => ?_)
    · replace F := F.1 k6
      refine z_iinc (pc := 57) (v := x3 + 1) (ls' := [some (.ref c0), some (.ref c1), some (.ref c2), some (.int (x3 + 1))]) dX2_perform_57 (by decide) rfl rfl rfl ?_
      refine z_goto (pc := 60) (tgt := 2) dX2_perform_60 (by decide) ?_
      exact F
    · replace F := F.2 k6
      refine z_aload_n (pc := 27) dX2_perform_27 rfl rfl ?_
      refine q_getR (pc := 28) (i := c0 + 1) dX2_perform_28 lk_RX2_9 (lyLo0 hc0) (grLo0 G1 hc0) ?_
      refine z_iload_n (pc := 31) dX2_perform_31 rfl rfl ?_
      refine z_aload_n (pc := 32) dX2_perform_32 rfl rfl ?_
      refine z_aload_n (pc := 33) dX2_perform_33 rfl rfl ?_
      refine z_iload_n (pc := 34) dX2_perform_34 rfl rfl ?_
      refine q_invV (pc := 35) (As := [.ref c2, .int x3]) (st := [.int x3, .ref (c0 + 1)]) dX2_perform_35 ok_X2_typeUnder ml_RX2_98 iv_X2_typeUnder pa_X2_typeUnder ⟨Nat.le_of_ble_eq_true rfl, Nat.le_of_ble_eq_true rfl⟩ (lyLo0 hc0) (q_kI F (fun vh2 h2 F => ?_))
      obtain ⟨G2, F⟩ := F
      obtain ⟨k3, F⟩ := F
      refine q_iast (pc := 38) (j := (Int32.toNatClampNeg x3)) dX2_perform_38 (lyLo1 hc0) (zvn (lnLo1 hc0) k3) rfl ?_
      refine z_aload_n (pc := 39) dX2_perform_39 rfl rfl ?_
      refine q_getR (pc := 40) (i := c0 + 2) dX2_perform_40 lk_RX2_15 (lyLo0 hc0) (grLo1 G2 hc0) ?_
      refine z_iload_n (pc := 43) dX2_perform_43 rfl rfl ?_
      refine z_aload_n (pc := 44) dX2_perform_44 rfl rfl ?_
      refine z_aload_n (pc := 45) dX2_perform_45 rfl rfl ?_
      refine z_iload_n (pc := 46) dX2_perform_46 rfl rfl ?_
      refine q_invV (pc := 47) (As := [.ref c2, .int x3]) (st := [.int x3, .ref (c0 + 2)]) dX2_perform_47 ok_X2_marksUnder ml_RX2_102 iv_X2_marksUnder pa_X2_marksUnder ⟨Nat.le_of_ble_eq_true rfl, Nat.le_of_ble_eq_true rfl⟩ (lyLo0 hc0) (q_kI F (fun vh3 h3 F => ?_))
      obtain ⟨G3, F⟩ := F
      refine q_iast (pc := 50) (j := (Int32.toNatClampNeg x3)) dX2_perform_50 (lyLo2 hc0) (zvn (lnLo2 hc0) k3) rfl ?_
      refine z_aload_n (pc := 51) dX2_perform_51 rfl rfl ?_
      refine z_aload_n (pc := 52) dX2_perform_52 rfl rfl ?_
      refine z_iload_n (pc := 53) dX2_perform_53 rfl rfl ?_
      refine q_invV (pc := 54) (As := [.ref c2, .int x3]) (st := []) dX2_perform_54 ok_X2_changeStrength ml_RX2_115 iv_X2_changeStrength pa_X2_changeStrength ⟨Nat.le_of_ble_eq_true rfl, Nat.le_of_ble_eq_true rfl⟩ (lyLo0 hc0) (q_kV F (fun h4 F => ?_))
      obtain ⟨G4, F⟩ := F
      refine z_iinc (pc := 57) (v := x3 + 1) (ls' := [some (.ref c0), some (.ref c1), some (.ref c2), some (.int (x3 + 1))]) dX2_perform_57 (by decide) rfl rfl rfl ?_
      refine z_goto (pc := 60) (tgt := 2) dX2_perform_60 (by decide) ?_
      exact F
theorem g_X2_changeStrength {c0 : Nat} {c1 : Nat} {x2 : Int32} {h : zHp} {Q : zHp → Prop} (hc0 : zLo c0) (hc1 : ly c1 = 2) (G : zG h) (F : (¬ rI h c1 1 = 3 → ((¬ rI h c1 1 = 4 → ((¬ rI h c1 1 = 5 → (Q h)) ∧ (rI h c1 1 = 5 → (vp_in x2 8 ∧ (Q (wI (wI h (c0 + 3) ((Int32.toNatClampNeg x2)) (rI h (c0 + 4) ((Int32.toNatClampNeg x2)))) (c0 + 4) ((Int32.toNatClampNeg x2)) (rI h (c0 + 3) ((Int32.toNatClampNeg x2))))))))) ∧ (rI h c1 1 = 4 → (vp_in x2 8 ∧ (Q (wI (wI h (c0 + 3) ((Int32.toNatClampNeg x2)) ((rI h (c0 + 3) ((Int32.toNatClampNeg x2))) + (rI h c1 4))) (c0 + 4) ((Int32.toNatClampNeg x2)) ((rI h (c0 + 4) ((Int32.toNatClampNeg x2))) + (rI h c1 5)))))))) ∧ (rI h c1 1 = 3 → (vp_in x2 8 ∧ (Q (wI (wI h (c0 + 3) ((Int32.toNatClampNeg x2)) (rI h c1 4)) (c0 + 4) ((Int32.toNatClampNeg x2)) (rI h c1 5)))))) : zcV M_X2_changeStrength [.ref c0, .ref c1, .int x2] h Q := by
  show zw zNT zNT M_X2_changeStrength 0 [some (.ref c0), some (.ref c1), some (.int x2), none] [] h _
  refine z_aload_n (pc := 0) dX2_changeStrength_0 rfl rfl ?_
  refine q_getI (pc := 1) (v := rI h c1 1) dX2_changeStrength_1 lk_RX2_109 hc1 rfl ?_
  refine z_iconst (pc := 4) (v := 3) dX2_changeStrength_4 (by decide) ?_
  refine z_icmp_ne (pc := 5) (tgt := 31) dX2_changeStrength_5 (by decide) (fun k6 => ?_) (fun k6 => ?_)
  · replace F := F.1 k6
    refine z_aload_n (pc := 31) dX2_changeStrength_31 rfl rfl ?_
    refine q_getI (pc := 32) (v := rI h c1 1) dX2_changeStrength_32 lk_RX2_109 hc1 rfl ?_
    refine z_iconst (pc := 35) (v := 4) dX2_changeStrength_35 (by decide) ?_
    refine z_icmp_ne (pc := 36) (tgt := 68) dX2_changeStrength_36 (by decide) (fun k4 => ?_) (fun k4 => ?_)
    · replace F := F.1 k4
      refine z_aload_n (pc := 68) dX2_changeStrength_68 rfl rfl ?_
      refine q_getI (pc := 69) (v := rI h c1 1) dX2_changeStrength_69 lk_RX2_109 hc1 rfl ?_
      refine z_iconst (pc := 72) (v := 5) dX2_changeStrength_72 (by decide) ?_
      refine z_icmp_ne (pc := 73) (tgt := 102) dX2_changeStrength_73 (by decide) (fun k2 => ?_) (fun k2 => ?_)
      · replace F := F.1 k2
        exact q_retV (pc := 102) dX2_changeStrength_102 rfl F
      · replace F := F.2 k2
        refine z_aload_n (pc := 76) dX2_changeStrength_76 rfl rfl ?_
        refine q_getR (pc := 77) (i := c0 + 3) dX2_changeStrength_77 lk_RX2_18 (lyLo0 hc0) (grLo2 G hc0) ?_
        refine z_iload_n (pc := 80) dX2_changeStrength_80 rfl rfl ?_
        obtain ⟨k1, F⟩ := F
        refine q_iald (pc := 81) (j := (Int32.toNatClampNeg x2)) (v := rI h (c0 + 3) ((Int32.toNatClampNeg x2))) dX2_changeStrength_81 (lyLo3 hc0) (zvn (lnLo3 hc0) k1) rfl rfl ?_
        refine z_istore_n (pc := 82) (ls' := [some (.ref c0), some (.ref c1), some (.int x2), some (.int (rI h (c0 + 3) ((Int32.toNatClampNeg x2))))]) dX2_changeStrength_82 rfl (by decide) rfl ?_
        refine z_aload_n (pc := 83) dX2_changeStrength_83 rfl rfl ?_
        refine q_getR (pc := 84) (i := c0 + 3) dX2_changeStrength_84 lk_RX2_18 (lyLo0 hc0) (grLo2 G hc0) ?_
        refine z_iload_n (pc := 87) dX2_changeStrength_87 rfl rfl ?_
        refine z_aload_n (pc := 88) dX2_changeStrength_88 rfl rfl ?_
        refine q_getR (pc := 89) (i := c0 + 4) dX2_changeStrength_89 lk_RX2_21 (lyLo0 hc0) (grLo3 G hc0) ?_
        refine z_iload_n (pc := 92) dX2_changeStrength_92 rfl rfl ?_
        refine q_iald (pc := 93) (j := (Int32.toNatClampNeg x2)) (v := rI h (c0 + 4) ((Int32.toNatClampNeg x2))) dX2_changeStrength_93 (lyLo4 hc0) (zvn (lnLo4 hc0) k1) rfl rfl ?_
        refine q_iast (pc := 94) (j := (Int32.toNatClampNeg x2)) dX2_changeStrength_94 (lyLo3 hc0) (zvn (lnLo3 hc0) k1) rfl ?_
        refine z_aload_n (pc := 95) dX2_changeStrength_95 rfl rfl ?_
        refine q_getR (pc := 96) (i := c0 + 4) dX2_changeStrength_96 lk_RX2_21 (lyLo0 hc0) (grLo3 G hc0) ?_
        refine z_iload_n (pc := 99) dX2_changeStrength_99 rfl rfl ?_
        refine z_iload_n (pc := 100) dX2_changeStrength_100 rfl rfl ?_
        refine q_iast (pc := 101) (j := (Int32.toNatClampNeg x2)) dX2_changeStrength_101 (lyLo4 hc0) (zvn (lnLo4 hc0) k1) rfl ?_
        exact q_retV (pc := 102) dX2_changeStrength_102 rfl F
    · replace F := F.2 k4
      refine z_aload_n (pc := 39) dX2_changeStrength_39 rfl rfl ?_
      refine q_getR (pc := 40) (i := c0 + 3) dX2_changeStrength_40 lk_RX2_18 (lyLo0 hc0) (grLo2 G hc0) ?_
      refine z_iload_n (pc := 43) dX2_changeStrength_43 rfl rfl ?_
      refine z_dup2 (pc := 44) dX2_changeStrength_44 rfl rfl ?_
      obtain ⟨k3, F⟩ := F
      refine q_iald (pc := 45) (j := (Int32.toNatClampNeg x2)) (v := rI h (c0 + 3) ((Int32.toNatClampNeg x2))) dX2_changeStrength_45 (lyLo3 hc0) (zvn (lnLo3 hc0) k3) rfl rfl ?_
      refine z_aload_n (pc := 46) dX2_changeStrength_46 rfl rfl ?_
      refine q_getI (pc := 47) (v := rI h c1 4) dX2_changeStrength_47 lk_RX2_112 hc1 rfl ?_
      refine z_iadd (pc := 50) dX2_changeStrength_50 ?_
      refine q_iast (pc := 51) (j := (Int32.toNatClampNeg x2)) dX2_changeStrength_51 (lyLo3 hc0) (zvn (lnLo3 hc0) k3) rfl ?_
      refine z_aload_n (pc := 52) dX2_changeStrength_52 rfl rfl ?_
      refine q_getR (pc := 53) (i := c0 + 4) dX2_changeStrength_53 lk_RX2_21 (lyLo0 hc0) (grLo3 G hc0) ?_
      refine z_iload_n (pc := 56) dX2_changeStrength_56 rfl rfl ?_
      refine z_dup2 (pc := 57) dX2_changeStrength_57 rfl rfl ?_
      refine q_iald (pc := 58) (j := (Int32.toNatClampNeg x2)) (v := rI h (c0 + 4) ((Int32.toNatClampNeg x2))) dX2_changeStrength_58 (lyLo4 hc0) (zvn (lnLo4 hc0) k3) rfl (rI_c (by omega)) ?_
      refine z_aload_n (pc := 59) dX2_changeStrength_59 rfl rfl ?_
      refine q_getI (pc := 60) (v := rI h c1 5) dX2_changeStrength_60 lk_RX2_119 hc1 (rI_c (zne hc1 (lyLo3 hc0) (by decide))) ?_
      refine z_iadd (pc := 63) dX2_changeStrength_63 ?_
      refine q_iast (pc := 64) (j := (Int32.toNatClampNeg x2)) dX2_changeStrength_64 (lyLo4 hc0) (zvn (lnLo4 hc0) k3) rfl ?_
      refine z_goto (pc := 65) (tgt := 102) dX2_changeStrength_65 (by decide) ?_
      exact q_retV (pc := 102) dX2_changeStrength_102 rfl F
  · replace F := F.2 k6
    refine z_aload_n (pc := 8) dX2_changeStrength_8 rfl rfl ?_
    refine q_getR (pc := 9) (i := c0 + 3) dX2_changeStrength_9 lk_RX2_18 (lyLo0 hc0) (grLo2 G hc0) ?_
    refine z_iload_n (pc := 12) dX2_changeStrength_12 rfl rfl ?_
    refine z_aload_n (pc := 13) dX2_changeStrength_13 rfl rfl ?_
    refine q_getI (pc := 14) (v := rI h c1 4) dX2_changeStrength_14 lk_RX2_112 hc1 rfl ?_
    obtain ⟨k5, F⟩ := F
    refine q_iast (pc := 17) (j := (Int32.toNatClampNeg x2)) dX2_changeStrength_17 (lyLo3 hc0) (zvn (lnLo3 hc0) k5) rfl ?_
    refine z_aload_n (pc := 18) dX2_changeStrength_18 rfl rfl ?_
    refine q_getR (pc := 19) (i := c0 + 4) dX2_changeStrength_19 lk_RX2_21 (lyLo0 hc0) (grLo3 G hc0) ?_
    refine z_iload_n (pc := 22) dX2_changeStrength_22 rfl rfl ?_
    refine z_aload_n (pc := 23) dX2_changeStrength_23 rfl rfl ?_
    refine q_getI (pc := 24) (v := rI h c1 5) dX2_changeStrength_24 lk_RX2_119 hc1 (rI_c (zne hc1 (lyLo3 hc0) (by decide))) ?_
    refine q_iast (pc := 27) (j := (Int32.toNatClampNeg x2)) dX2_changeStrength_27 (lyLo4 hc0) (zvn (lnLo4 hc0) k5) rfl ?_
    refine z_goto (pc := 28) (tgt := 102) dX2_changeStrength_28 (by decide) ?_
    exact q_retV (pc := 102) dX2_changeStrength_102 rfl F
theorem g_X2_holds {c0 : Nat} {c1 : Nat} {x2 : Int32} {x3 : Int32} {x4 : Int32} {h : zHp} {Q : Int32 → zHp → Prop} (hc0 : zLo c0) (hc1 : zW c1) (G : zG h) (F : (x2 < 0 → (Q 0 h)) ∧ (¬ (x2 < 0) → ((rI h c1 1 ≤ x2 → (Q 0 h)) ∧ (¬ (rI h c1 1 ≤ x2) → (vp_in x2 8 ∧ (zcI M_X2_fits [.ref (c1 + 6 + (Int32.toNatClampNeg x2)), .int x2, .int x3, .int x4, .int (rI h (c0 + 1) ((Int32.toNatClampNeg x2))), .int (rI h (c0 + 2) ((Int32.toNatClampNeg x2)))] h (fun vh1 h1 => zG h1 ∧ ((vh1 = 0 → (Q 0 h1)) ∧ (¬ (vh1 = 0) → (Q 1 h1)))))))))) : zcI M_X2_holds [.ref c0, .ref c1, .int x2, .int x3, .int x4] h Q := by
  show zw zNT zNT M_X2_holds 0 [some (.ref c0), some (.ref c1), some (.int x2), some (.int x3), some (.int x4)] [] h _
  refine z_iload_n (pc := 0) dX2_holds_0 rfl rfl ?_
  refine z_if_lt (pc := 1) (tgt := 44) dX2_holds_1 (by decide) (fun k5 => ?_) (fun k5 => ?_)
  · replace F := F.1 k5
    refine z_iconst (pc := 44) (v := 0) dX2_holds_44 (by decide) ?_
    exact q_retB (pc := 45) dX2_holds_45 rfl (Or.inl rfl) F
  · replace F := F.2 k5
    refine z_iload_n (pc := 4) dX2_holds_4 rfl rfl ?_
    refine z_aload_n (pc := 5) dX2_holds_5 rfl rfl ?_
    refine q_getI (pc := 6) (v := rI h c1 1) dX2_holds_6 lk_RX2_27 (lyW0 hc1) rfl ?_
    refine z_icmp_ge (pc := 9) (tgt := 44) dX2_holds_9 (by decide) (fun k4 => ?_) (fun k4 => ?_)
    · replace F := F.1 k4
      refine z_iconst (pc := 44) (v := 0) dX2_holds_44 (by decide) ?_
      exact q_retB (pc := 45) dX2_holds_45 rfl (Or.inl rfl) F
    · replace F := F.2 k4
      refine z_aload_n (pc := 12) dX2_holds_12 rfl rfl ?_
      refine q_getR (pc := 13) (i := c1 + 1) dX2_holds_13 lk_RX2_33 (lyW0 hc1) (grW0 G hc1) ?_
      refine z_iload_n (pc := 16) dX2_holds_16 rfl rfl ?_
      obtain ⟨k1, F⟩ := F
      refine q_aald (pc := 17) (j := (Int32.toNatClampNeg x2)) (r := c1 + 6 + (Int32.toNatClampNeg x2)) (t := 0) dX2_holds_17 (lyW1 hc1) (zvn (lnW1 hc1) k1) rfl (grT (B := c1) G hc1 (zvi k1)) ?_
      refine z_iload_n (pc := 18) dX2_holds_18 rfl rfl ?_
      refine z_iload_n (pc := 19) dX2_holds_19 rfl rfl ?_
      refine z_iload (pc := 20) dX2_holds_20 rfl ?_
      refine z_aload_n (pc := 22) dX2_holds_22 rfl rfl ?_
      refine q_getR (pc := 23) (i := c0 + 1) dX2_holds_23 lk_RX2_9 (lyLo0 hc0) (grLo0 G hc0) ?_
      refine z_iload_n (pc := 26) dX2_holds_26 rfl rfl ?_
      refine q_iald (pc := 27) (j := (Int32.toNatClampNeg x2)) (v := rI h (c0 + 1) ((Int32.toNatClampNeg x2))) dX2_holds_27 (lyLo1 hc0) (zvn (lnLo1 hc0) k1) rfl rfl ?_
      refine z_aload_n (pc := 28) dX2_holds_28 rfl rfl ?_
      refine q_getR (pc := 29) (i := c0 + 2) dX2_holds_29 lk_RX2_15 (lyLo0 hc0) (grLo1 G hc0) ?_
      refine z_iload_n (pc := 32) dX2_holds_32 rfl rfl ?_
      refine q_iald (pc := 33) (j := (Int32.toNatClampNeg x2)) (v := rI h (c0 + 2) ((Int32.toNatClampNeg x2))) dX2_holds_33 (lyLo2 hc0) (zvn (lnLo2 hc0) k1) rfl rfl ?_
      refine q_invS (pc := 34) (As := [.ref (c1 + 6 + (Int32.toNatClampNeg x2)), .int x2, .int x3, .int x4, .int (rI h (c0 + 1) ((Int32.toNatClampNeg x2))), .int (rI h (c0 + 2) ((Int32.toNatClampNeg x2)))]) (st := []) dX2_holds_34 ok_X2_fits ml_RX2_105 st_X2_fits pa_X2_fits ⟨Nat.le_of_ble_eq_true rfl, Nat.le_of_ble_eq_true rfl⟩ (q_kI F (fun vh1 h1 F => ?_))
      obtain ⟨G1, F⟩ := F
      refine z_if_eq (pc := 37) (tgt := 44) dX2_holds_37 (by decide) (fun k3 => ?_) (fun k3 => ?_)
      · replace F := F.1 k3
        refine z_iconst (pc := 44) (v := 0) dX2_holds_44 (by decide) ?_
        exact q_retB (pc := 45) dX2_holds_45 rfl (Or.inl rfl) F
      · replace F := F.2 k3
        refine z_iconst (pc := 40) (v := 1) dX2_holds_40 (by decide) ?_
        refine z_goto (pc := 41) (tgt := 45) dX2_holds_41 (by decide) ?_
        exact q_retB (pc := 45) dX2_holds_45 rfl (Or.inr rfl) F
theorem g_X2_fits {c0 : Nat} {x1 : Int32} {x2 : Int32} {x3 : Int32} {x4 : Int32} {x5 : Int32} {h : zHp} {Q : Int32 → zHp → Prop} (hc0 : ly c0 = 7) (G : zG h) (F : (¬ rI h c0 5 = 0 → ((x2 = 0 → (Q 1 h)) ∧ (¬ x2 = 0 → ((x2 = 1 → ((¬ rI h c0 0 = x3 → (Q 0 h)) ∧ (rI h c0 0 = x3 → (Q 1 h)))) ∧ (¬ x2 = 1 → ((x2 = 2 → ((¬ x4 = x3 → (Q 0 h)) ∧ (x4 = x3 → (Q 1 h)))) ∧ (¬ x2 = 2 → ((x2 = 3 → (((x5 >>> (x3 &&& 31)) &&& 1 = 0 → (Q 0 h)) ∧ (¬ ((x5 >>> (x3 &&& 31)) &&& 1 = 0) → (Q 1 h)))) ∧ (¬ x2 = 3 → ((x2 = 4 → ((¬ (x5 >>> (x3 &&& 31)) &&& 1 = 0 → (Q 0 h)) ∧ ((x5 >>> (x3 &&& 31)) &&& 1 = 0 → (Q 1 h)))) ∧ (¬ x2 = 4 → ((¬ x1 = x3 → (Q 0 h)) ∧ (x1 = x3 → (Q 1 h)))))))))))))) ∧ (rI h c0 5 = 0 → (Q 0 h))) : zcI M_X2_fits [.ref c0, .int x1, .int x2, .int x3, .int x4, .int x5] h Q := by
  show zw zNT zNT M_X2_fits 0 [some (.ref c0), some (.int x1), some (.int x2), some (.int x3), some (.int x4), some (.int x5)] [] h _
  refine z_aload_n (pc := 0) dX2_fits_0 rfl rfl ?_
  refine q_getI (pc := 1) (v := rI h c0 5) dX2_fits_1 lk_RX2_122 hc0 rfl ?_
  refine z_if_ne (pc := 4) (tgt := 9) dX2_fits_4 (by decide) (fun k11 => ?_) (fun k11 => ?_)
  · replace F := F.1 k11
    refine z_iload_n (pc := 9) dX2_fits_9 rfl rfl ?_
    by_cases k1 : x2 = 0
    · replace F := F.1 k1
      refine z_tableIn (pc := 10) (x := x2) (tgt := 44) (off := 34) dX2_fits_10 (by rw [k1]; decide) (by rw [k1]; decide) (by rw [k1]; decide) (by decide) ?_
      refine z_iconst (pc := 44) (v := 1) dX2_fits_44 (by decide) ?_
      exact q_retB (pc := 45) dX2_fits_45 rfl (Or.inr rfl) F
    · replace F := F.2 k1
      by_cases k2 : x2 = 1
      · replace F := F.1 k2
        refine z_tableIn (pc := 10) (x := x2) (tgt := 46) (off := 36) dX2_fits_10 (by rw [k2]; decide) (by rw [k2]; decide) (by rw [k2]; decide) (by decide) ?_
        refine z_aload_n (pc := 46) dX2_fits_46 rfl rfl ?_
        refine q_getI (pc := 47) (v := rI h c0 0) dX2_fits_47 lk_RX2_126 hc0 rfl ?_
        refine z_iload_n (pc := 50) dX2_fits_50 rfl rfl ?_
        refine z_icmp_ne (pc := 51) (tgt := 58) dX2_fits_51 (by decide) (fun k3 => ?_) (fun k3 => ?_)
        · replace F := F.1 k3
          refine z_iconst (pc := 58) (v := 0) dX2_fits_58 (by decide) ?_
          exact q_retB (pc := 59) dX2_fits_59 rfl (Or.inl rfl) F
        · replace F := F.2 k3
          refine z_iconst (pc := 54) (v := 1) dX2_fits_54 (by decide) ?_
          refine z_goto (pc := 55) (tgt := 59) dX2_fits_55 (by decide) ?_
          exact q_retB (pc := 59) dX2_fits_59 rfl (Or.inr rfl) F
      · replace F := F.2 k2
        by_cases k4 : x2 = 2
        · replace F := F.1 k4
          refine z_tableIn (pc := 10) (x := x2) (tgt := 60) (off := 50) dX2_fits_10 (by rw [k4]; decide) (by rw [k4]; decide) (by rw [k4]; decide) (by decide) ?_
          refine z_iload (pc := 60) dX2_fits_60 rfl ?_
          refine z_iload_n (pc := 62) dX2_fits_62 rfl rfl ?_
          refine z_icmp_ne (pc := 63) (tgt := 70) dX2_fits_63 (by decide) (fun k5 => ?_) (fun k5 => ?_)
          · replace F := F.1 k5
            refine z_iconst (pc := 70) (v := 0) dX2_fits_70 (by decide) ?_
            exact q_retB (pc := 71) dX2_fits_71 rfl (Or.inl rfl) F
          · replace F := F.2 k5
            refine z_iconst (pc := 66) (v := 1) dX2_fits_66 (by decide) ?_
            refine z_goto (pc := 67) (tgt := 71) dX2_fits_67 (by decide) ?_
            exact q_retB (pc := 71) dX2_fits_71 rfl (Or.inr rfl) F
        · replace F := F.2 k4
          by_cases k6 : x2 = 3
          · replace F := F.1 k6
            refine z_tableIn (pc := 10) (x := x2) (tgt := 72) (off := 62) dX2_fits_10 (by rw [k6]; decide) (by rw [k6]; decide) (by rw [k6]; decide) (by decide) ?_
            refine z_iload (pc := 72) dX2_fits_72 rfl ?_
            refine z_iload_n (pc := 74) dX2_fits_74 rfl rfl ?_
            refine z_ishr (pc := 75) dX2_fits_75 ?_
            refine z_iconst (pc := 76) (v := 1) dX2_fits_76 (by decide) ?_
            refine z_iand (pc := 77) dX2_fits_77 ?_
            refine z_if_eq (pc := 78) (tgt := 85) dX2_fits_78 (by decide) (fun k7 => ?_) (fun k7 => ?_)
            · replace F := F.1 k7
              refine z_iconst (pc := 85) (v := 0) dX2_fits_85 (by decide) ?_
              exact q_retB (pc := 86) dX2_fits_86 rfl (Or.inl rfl) F
            · replace F := F.2 k7
              refine z_iconst (pc := 81) (v := 1) dX2_fits_81 (by decide) ?_
              refine z_goto (pc := 82) (tgt := 86) dX2_fits_82 (by decide) ?_
              exact q_retB (pc := 86) dX2_fits_86 rfl (Or.inr rfl) F
          · replace F := F.2 k6
            by_cases k8 : x2 = 4
            · replace F := F.1 k8
              refine z_tableIn (pc := 10) (x := x2) (tgt := 87) (off := 77) dX2_fits_10 (by rw [k8]; decide) (by rw [k8]; decide) (by rw [k8]; decide) (by decide) ?_
              refine z_iload (pc := 87) dX2_fits_87 rfl ?_
              refine z_iload_n (pc := 89) dX2_fits_89 rfl rfl ?_
              refine z_ishr (pc := 90) dX2_fits_90 ?_
              refine z_iconst (pc := 91) (v := 1) dX2_fits_91 (by decide) ?_
              refine z_iand (pc := 92) dX2_fits_92 ?_
              refine z_if_ne (pc := 93) (tgt := 100) dX2_fits_93 (by decide) (fun k9 => ?_) (fun k9 => ?_)
              · replace F := F.1 k9
                refine z_iconst (pc := 100) (v := 0) dX2_fits_100 (by decide) ?_
                exact q_retB (pc := 101) dX2_fits_101 rfl (Or.inl rfl) F
              · replace F := F.2 k9
                refine z_iconst (pc := 96) (v := 1) dX2_fits_96 (by decide) ?_
                refine z_goto (pc := 97) (tgt := 101) dX2_fits_97 (by decide) ?_
                exact q_retB (pc := 101) dX2_fits_101 rfl (Or.inr rfl) F
            · replace F := F.2 k8
              have hz0 := q_sw (0) k1 (by decide)
              have hz1 := q_sw (1) k2 (by decide)
              have hz2 := q_sw (2) k4 (by decide)
              have hz3 := q_sw (3) k6 (by decide)
              have hz4 := q_sw (4) k8 (by decide)
              refine z_tableOut (pc := 10) (tgt := 102) dX2_fits_10 (by omega) (by decide) ?_
              refine z_iload_n (pc := 102) dX2_fits_102 rfl rfl ?_
              refine z_iload_n (pc := 103) dX2_fits_103 rfl rfl ?_
              refine z_icmp_ne (pc := 104) (tgt := 111) dX2_fits_104 (by decide) (fun k10 => ?_) (fun k10 => ?_)
              · replace F := F.1 k10
                refine z_iconst (pc := 111) (v := 0) dX2_fits_111 (by decide) ?_
                exact q_retB (pc := 112) dX2_fits_112 rfl (Or.inl rfl) F
              · replace F := F.2 k10
                refine z_iconst (pc := 107) (v := 1) dX2_fits_107 (by decide) ?_
                refine z_goto (pc := 108) (tgt := 112) dX2_fits_108 (by decide) ?_
                exact q_retB (pc := 112) dX2_fits_112 rfl (Or.inr rfl) F
  · replace F := F.2 k11
    refine z_iconst (pc := 7) (v := 0) dX2_fits_7 (by decide) ?_
    exact q_retB (pc := 8) dX2_fits_8 rfl (Or.inl rfl) F
theorem g_X2_forceOf {c0 : Nat} {c1 : Nat} {x2 : Int32} {h : zHp} {Q : Int32 → zHp → Prop} (hc0 : zLo c0) (hc1 : zW c1) (G : zG h) (F : zcI M_X8_hasThing [.ref c1, .int x2] h (fun vh1 h1 => zG h1 ∧ ((¬ vh1 = 0 → (vp_in x2 8 ∧ ((rI h1 (c1 + 6 + (Int32.toNatClampNeg x2)) 5 = 0 → (Q (rI h1 (c1 + 6 + (Int32.toNatClampNeg x2)) 8) h1)) ∧ (¬ (rI h1 (c1 + 6 + (Int32.toNatClampNeg x2)) 5 = 0) → (Q (rI h1 (c0 + 3) ((Int32.toNatClampNeg x2))) h1))))) ∧ (vh1 = 0 → (Q 0 h1))))) : zcI M_X2_forceOf [.ref c0, .ref c1, .int x2] h Q := by
  show zw zNT zNT M_X2_forceOf 0 [some (.ref c0), some (.ref c1), some (.int x2)] [] h _
  refine z_aload_n (pc := 0) dX2_forceOf_0 rfl rfl ?_
  refine z_iload_n (pc := 1) dX2_forceOf_1 rfl rfl ?_
  refine q_invV (pc := 2) (As := [.int x2]) (st := []) dX2_forceOf_2 ok_X8_hasThing ml_RX2_129 iv_X8_hasThing pa_X8_hasThing ⟨Nat.le_of_ble_eq_true rfl, Nat.le_of_ble_eq_true rfl⟩ (lyW0 hc1) (q_kI F (fun vh1 h1 F => ?_))
  obtain ⟨G1, F⟩ := F
  refine z_if_ne (pc := 5) (tgt := 10) dX2_forceOf_5 (by decide) (fun k4 => ?_) (fun k4 => ?_)
  · replace F := F.1 k4
    refine z_aload_n (pc := 10) dX2_forceOf_10 rfl rfl ?_
    refine q_getR (pc := 11) (i := c1 + 1) dX2_forceOf_11 lk_RX2_33 (lyW0 hc1) (grW0 G1 hc1) ?_
    refine z_iload_n (pc := 14) dX2_forceOf_14 rfl rfl ?_
    obtain ⟨k2, F⟩ := F
    refine q_aald (pc := 15) (j := (Int32.toNatClampNeg x2)) (r := c1 + 6 + (Int32.toNatClampNeg x2)) (t := 0) dX2_forceOf_15 (lyW1 hc1) (zvn (lnW1 hc1) k2) rfl (grT (B := c1) G1 hc1 (zvi k2)) ?_
    refine q_getI (pc := 16) (v := rI h1 (c1 + 6 + (Int32.toNatClampNeg x2)) 5) dX2_forceOf_16 lk_RX2_122 (lyT (B := c1) hc1 (zvi k2)) rfl ?_
    refine z_if_eq (pc := 19) (tgt := 31) dX2_forceOf_19 (by decide) (fun k3 => ?_) (fun k3 => ?_)
    · replace F := F.1 k3
      refine z_aload_n (pc := 31) dX2_forceOf_31 rfl rfl ?_
      refine q_getR (pc := 32) (i := c1 + 1) dX2_forceOf_32 lk_RX2_33 (lyW0 hc1) (grW0 G1 hc1) ?_
      refine z_iload_n (pc := 35) dX2_forceOf_35 rfl rfl ?_
      refine q_aald (pc := 36) (j := (Int32.toNatClampNeg x2)) (r := c1 + 6 + (Int32.toNatClampNeg x2)) (t := 0) dX2_forceOf_36 (lyW1 hc1) (zvn (lnW1 hc1) k2) rfl (grT (B := c1) G1 hc1 (zvi k2)) ?_
      refine q_getI (pc := 37) (v := rI h1 (c1 + 6 + (Int32.toNatClampNeg x2)) 8) dX2_forceOf_37 lk_RX2_133 (lyT (B := c1) hc1 (zvi k2)) rfl ?_
      exact q_retI (pc := 40) dX2_forceOf_40 rfl F
    · replace F := F.2 k3
      refine z_aload_n (pc := 22) dX2_forceOf_22 rfl rfl ?_
      refine q_getR (pc := 23) (i := c0 + 3) dX2_forceOf_23 lk_RX2_18 (lyLo0 hc0) (grLo2 G1 hc0) ?_
      refine z_iload_n (pc := 26) dX2_forceOf_26 rfl rfl ?_
      refine q_iald (pc := 27) (j := (Int32.toNatClampNeg x2)) (v := rI h1 (c0 + 3) ((Int32.toNatClampNeg x2))) dX2_forceOf_27 (lyLo3 hc0) (zvn (lnLo3 hc0) k2) rfl rfl ?_
      refine z_goto (pc := 28) (tgt := 40) dX2_forceOf_28 (by decide) ?_
      exact q_retI (pc := 40) dX2_forceOf_40 rfl F
  · replace F := F.2 k4
    refine z_iconst (pc := 8) (v := 0) dX2_forceOf_8 (by decide) ?_
    exact q_retI (pc := 9) dX2_forceOf_9 rfl F
theorem g_X2_remember {c0 : Nat} {c1 : Nat} {x2 : Int32} {h : zHp} {Q : zHp → Prop} (hc0 : zLo c0) (hc1 : ly c1 = 7) (G : zG h) (F : zcI M_X10_within [.int x2, .int 0, .int 7] h (fun vh1 h1 => zG h1 ∧ ((vh1 = 0 → (Q h1)) ∧ (¬ (vh1 = 0) → (vp_in x2 8 ∧ (Q (wI (wI (wI (wI h1 c1 6 (rI h1 (c0 + 1) ((Int32.toNatClampNeg x2)))) c1 7 (rI h1 (c0 + 2) ((Int32.toNatClampNeg x2)))) c1 8 (rI h1 (c0 + 3) ((Int32.toNatClampNeg x2)))) c1 9 (rI h1 (c0 + 4) ((Int32.toNatClampNeg x2)))))))))) : zcV M_X2_remember [.ref c0, .ref c1, .int x2] h Q := by
  show zw zNT zNT M_X2_remember 0 [some (.ref c0), some (.ref c1), some (.int x2)] [] h _
  refine z_iload_n (pc := 0) dX2_remember_0 rfl rfl ?_
  refine z_iconst (pc := 1) (v := 0) dX2_remember_1 (by decide) ?_
  refine z_bipush (pc := 2) (v := 7) dX2_remember_2 (by decide) ?_
  refine q_invS (pc := 4) (As := [.int x2, .int 0, .int 7]) (st := []) dX2_remember_4 ok_X10_within ml_RX2_136 st_X10_within pa_X10_within ⟨Nat.le_of_ble_eq_true rfl, Nat.le_of_ble_eq_true rfl⟩ (q_kI F (fun vh1 h1 F => ?_))
  obtain ⟨G1, F⟩ := F
  refine z_if_eq (pc := 7) (tgt := 50) dX2_remember_7 (by decide) (fun k3 => ?_) (fun k3 => ?_)
  · replace F := F.1 k3
    exact q_retV (pc := 50) dX2_remember_50 rfl F
  · replace F := F.2 k3
    refine z_aload_n (pc := 10) dX2_remember_10 rfl rfl ?_
    refine z_aload_n (pc := 11) dX2_remember_11 rfl rfl ?_
    refine q_getR (pc := 12) (i := c0 + 1) dX2_remember_12 lk_RX2_9 (lyLo0 hc0) (grLo0 G1 hc0) ?_
    refine z_iload_n (pc := 15) dX2_remember_15 rfl rfl ?_
    obtain ⟨k2, F⟩ := F
    refine q_iald (pc := 16) (j := (Int32.toNatClampNeg x2)) (v := rI h1 (c0 + 1) ((Int32.toNatClampNeg x2))) dX2_remember_16 (lyLo1 hc0) (zvn (lnLo1 hc0) k2) rfl rfl ?_
    refine q_putI (pc := 17) dX2_remember_17 lk_RX2_140 hc1 ?_
    refine z_aload_n (pc := 20) dX2_remember_20 rfl rfl ?_
    refine z_aload_n (pc := 21) dX2_remember_21 rfl rfl ?_
    refine q_getR (pc := 22) (i := c0 + 2) dX2_remember_22 lk_RX2_15 (lyLo0 hc0) (grLo1 G1 hc0) ?_
    refine z_iload_n (pc := 25) dX2_remember_25 rfl rfl ?_
    refine q_iald (pc := 26) (j := (Int32.toNatClampNeg x2)) (v := rI h1 (c0 + 2) ((Int32.toNatClampNeg x2))) dX2_remember_26 (lyLo2 hc0) (zvn (lnLo2 hc0) k2) rfl (rI_c (zne (lyLo2 hc0) hc1 (by decide))) ?_
    refine q_putI (pc := 27) dX2_remember_27 lk_RX2_143 hc1 ?_
    refine z_aload_n (pc := 30) dX2_remember_30 rfl rfl ?_
    refine z_aload_n (pc := 31) dX2_remember_31 rfl rfl ?_
    refine q_getR (pc := 32) (i := c0 + 3) dX2_remember_32 lk_RX2_18 (lyLo0 hc0) (grLo2 G1 hc0) ?_
    refine z_iload_n (pc := 35) dX2_remember_35 rfl rfl ?_
    refine q_iald (pc := 36) (j := (Int32.toNatClampNeg x2)) (v := rI h1 (c0 + 3) ((Int32.toNatClampNeg x2))) dX2_remember_36 (lyLo3 hc0) (zvn (lnLo3 hc0) k2) rfl ((rI_c (zne (lyLo3 hc0) hc1 (by decide))).trans (rI_c (zne (lyLo3 hc0) hc1 (by decide)))) ?_
    refine q_putI (pc := 37) dX2_remember_37 lk_RX2_133 hc1 ?_
    refine z_aload_n (pc := 40) dX2_remember_40 rfl rfl ?_
    refine z_aload_n (pc := 41) dX2_remember_41 rfl rfl ?_
    refine q_getR (pc := 42) (i := c0 + 4) dX2_remember_42 lk_RX2_21 (lyLo0 hc0) (grLo3 G1 hc0) ?_
    refine z_iload_n (pc := 45) dX2_remember_45 rfl rfl ?_
    refine q_iald (pc := 46) (j := (Int32.toNatClampNeg x2)) (v := rI h1 (c0 + 4) ((Int32.toNatClampNeg x2))) dX2_remember_46 (lyLo4 hc0) (zvn (lnLo4 hc0) k2) rfl (((rI_c (zne (lyLo4 hc0) hc1 (by decide))).trans (rI_c (zne (lyLo4 hc0) hc1 (by decide)))).trans (rI_c (zne (lyLo4 hc0) hc1 (by decide)))) ?_
    refine q_putI (pc := 47) dX2_remember_47 lk_RX2_146 hc1 ?_
    exact q_retV (pc := 50) dX2_remember_50 rfl F
theorem g_X3_append {x1 : Int32} {h : zHp} {Q : zHp → Prop}  (G : zG h) (F : (120 ≤ rI h 141 1 → (Q h)) ∧ (¬ (120 ≤ rI h 141 1) → (vp_in (rI h 141 1) 120 ∧ (Q (wI (wI h 142 ((Int32.toNatClampNeg (rI h 141 1))) ((Int32.toInt8 x1).toInt32)) 141 1 ((rI h 141 1) + 1)))))) : zcV M_X3_append [.ref 141, .int x1] h Q := by
  show zw zNT zNT M_X3_append 0 [some (.ref 141), some (.int x1)] [] h _
  refine z_aload_n (pc := 0) dX3_append_0 rfl rfl ?_
  refine q_getI (pc := 1) (v := rI h 141 1) dX3_append_1 lk_RX3_22 (lyc rfl) rfl ?_
  refine z_bipush (pc := 4) (v := 120) dX3_append_4 (by decide) ?_
  refine z_icmp_ge (pc := 6) (tgt := 29) dX3_append_6 (by decide) (fun k2 => ?_) (fun k2 => ?_)
  · replace F := F.1 k2
    exact q_retV (pc := 29) dX3_append_29 rfl F
  · replace F := F.2 k2
    refine z_aload_n (pc := 9) dX3_append_9 rfl rfl ?_
    refine q_getR (pc := 10) (i := 142) dX3_append_10 lk_RX3_9 (lyc rfl) (G 141 0 142 rfl) ?_
    refine z_aload_n (pc := 13) dX3_append_13 rfl rfl ?_
    refine q_getI (pc := 14) (v := rI h 141 1) dX3_append_14 lk_RX3_22 (lyc rfl) rfl ?_
    refine z_iload_n (pc := 17) dX3_append_17 rfl rfl ?_
    obtain ⟨k1, F⟩ := F
    refine q_bast (pc := 18) (j := (Int32.toNatClampNeg (rI h 141 1))) dX3_append_18 (lyc rfl) (zvn (lnc rfl) k1) rfl ?_
    refine z_aload_n (pc := 19) dX3_append_19 rfl rfl ?_
    refine z_dup (pc := 20) dX3_append_20 rfl ?_
    refine q_getI (pc := 21) (v := rI h 141 1) dX3_append_21 lk_RX3_22 (lyc rfl) (rI_c (by decide)) ?_
    refine z_iconst (pc := 24) (v := 1) dX3_append_24 (by decide) ?_
    refine z_iadd (pc := 25) dX3_append_25 ?_
    refine q_putI (pc := 26) dX3_append_26 lk_RX3_22 (lyc rfl) ?_
    exact q_retV (pc := 29) dX3_append_29 rfl F
theorem g_X3_readAll {x1 : Int32} {h : zHp} {Q : zHp → Prop}  (G : zG h) (F : zlV M_X3_readAll 17 [some (.ref 141), some (.int x1), some (.int 0)] [] (wI (wI (wI h 141 2 0) 141 8 (-1)) 141 7 0) Q) : zcV M_X3_readAll [.ref 141, .int x1] h Q := by
  show zw zNT zNT M_X3_readAll 0 [some (.ref 141), some (.int x1), none] [] h _
  refine z_aload_n (pc := 0) dX3_readAll_0 rfl rfl ?_
  refine z_iconst (pc := 1) (v := 0) dX3_readAll_1 (by decide) ?_
  refine q_putI (pc := 2) dX3_readAll_2 lk_RX3_26 (lyc rfl) ?_
  refine z_aload_n (pc := 5) dX3_readAll_5 rfl rfl ?_
  refine z_iconst (pc := 6) (v := -1) dX3_readAll_6 (by decide) ?_
  refine q_putI (pc := 7) dX3_readAll_7 lk_RX3_29 (lyc rfl) ?_
  refine z_aload_n (pc := 10) dX3_readAll_10 rfl rfl ?_
  refine z_iconst (pc := 11) (v := 0) dX3_readAll_11 (by decide) ?_
  refine q_putI (pc := 12) dX3_readAll_12 lk_RX3_32 (lyc rfl) ?_
  refine z_iconst (pc := 15) (v := 0) dX3_readAll_15 (by decide) ?_
  refine z_istore_n (pc := 16) (ls' := [some (.ref 141), some (.int x1), some (.int 0)]) dX3_readAll_16 rfl (by decide) rfl ?_
  exact F
theorem g_X3_readAll_17 {x1 : Int32} {x2 : Int32} {h : zHp} {Q : zHp → Prop}  (G : zG h) (F : (10 < x2 → (Q h)) ∧ (¬ (10 < x2) → ((x1 ≤ x2 → (zlV M_X3_readAll 34 [some (.ref 141), some (.int x1), some (.int x2)] [.int 0, .ref 141] h Q)) ∧ (¬ (x1 ≤ x2) → (zlV M_X3_readAll 34 [some (.ref 141), some (.int x1), some (.int x2)] [.int 1, .ref 141] h Q))))) : zlV M_X3_readAll 17 [some (.ref 141), some (.int x1), some (.int x2)] [] h Q := by
  refine z_iload_n (pc := 17) dX3_readAll_17 rfl rfl ?_
  refine z_bipush (pc := 18) (v := 10) dX3_readAll_18 (by decide) ?_
  refine z_icmp_gt (pc := 20) (tgt := 81) dX3_readAll_20 (by decide) (fun k2 => ?_) (fun k2 => ?_)
  · replace F := F.1 k2
    exact q_retV (pc := 81) dX3_readAll_81 rfl F
  · replace F := F.2 k2
    refine z_aload_n (pc := 23) dX3_readAll_23 rfl rfl ?_
    refine z_iload_n (pc := 24) dX3_readAll_24 rfl rfl ?_
    refine z_iload_n (pc := 25) dX3_readAll_25 rfl rfl ?_
    refine z_icmp_ge (pc := 26) (tgt := 33) dX3_readAll_26 (by decide) (fun k1 => ?_) (fun k1 => ?_)
    · replace F := F.1 k1
      refine z_iconst (pc := 33) (v := 0) dX3_readAll_33 (by decide) ?_
      exact F
    · replace F := F.2 k1
      refine z_iconst (pc := 29) (v := 1) dX3_readAll_29 (by decide) ?_
      refine z_goto (pc := 30) (tgt := 34) dX3_readAll_30 (by decide) ?_
      exact F
theorem g_X3_readAll_34 {x1 : Int32} {x2 : Int32} {xs1 : Int32} {h : zHp} {Q : zHp → Prop}  (G : zG h) (F : zcV M_X3_readPhrase [.ref 141, .int xs1] h (fun h1 => zG h1 ∧ ((rI h1 141 8 = -1 → (zcV M_X3_advance [.ref 141] h1 (fun h2 => zG h2 ∧ ((¬ rI h2 141 3 = 0 → ((rI h2 141 3 = 3 → (zlV M_X3_readAll 17 [some (.ref 141), some (.int x1), some (.int (x2 + 1))] [] h2 Q)) ∧ (¬ (rI h2 141 3 = 3) → (Q (wI h2 141 8 (rI h2 141 4)))))) ∧ (rI h2 141 3 = 0 → (Q h2)))))) ∧ (¬ (rI h1 141 8 = -1) → (Q h1))))) : zlV M_X3_readAll 34 [some (.ref 141), some (.int x1), some (.int x2)] [.int xs1, .ref 141] h Q := by
  refine q_invV (pc := 34) (As := [.int xs1]) (st := []) dX3_readAll_34 ok_X3_readPhrase ml_RX3_35 iv_X3_readPhrase pa_X3_readPhrase ⟨Nat.le_of_ble_eq_true rfl, Nat.le_of_ble_eq_true rfl⟩ (lyc rfl) (q_kV F (fun h1 F => ?_))
  obtain ⟨G1, F⟩ := F
  refine z_aload_n (pc := 37) dX3_readAll_37 rfl rfl ?_
  refine q_getI (pc := 38) (v := rI h1 141 8) dX3_readAll_38 lk_RX3_29 (lyc rfl) rfl ?_
  refine z_iconst (pc := 41) (v := -1) dX3_readAll_41 (by decide) ?_
  refine z_icmp_eq (pc := 42) (tgt := 46) dX3_readAll_42 (by decide) (fun k5 => ?_) (fun k5 => ?_)
  · replace F := F.1 k5
    refine z_aload_n (pc := 46) dX3_readAll_46 rfl rfl ?_
    refine q_invV (pc := 47) (As := []) (st := []) dX3_readAll_47 ok_X3_advance ml_RX3_39 iv_X3_advance pa_X3_advance ⟨Nat.le_of_ble_eq_true rfl, Nat.le_of_ble_eq_true rfl⟩ (lyc rfl) (q_kV F (fun h2 F => ?_))
    obtain ⟨G2, F⟩ := F
    refine z_aload_n (pc := 50) dX3_readAll_50 rfl rfl ?_
    refine q_getI (pc := 51) (v := rI h2 141 3) dX3_readAll_51 lk_RX3_42 (lyc rfl) rfl ?_
    refine z_if_ne (pc := 54) (tgt := 58) dX3_readAll_54 (by decide) (fun k4 => ?_) (fun k4 => ?_)
    · replace F := F.1 k4
      refine z_aload_n (pc := 58) dX3_readAll_58 rfl rfl ?_
      refine q_getI (pc := 59) (v := rI h2 141 3) dX3_readAll_59 lk_RX3_42 (lyc rfl) rfl ?_
      refine z_iconst (pc := 62) (v := 3) dX3_readAll_62 (by decide) ?_
      refine z_icmp_eq (pc := 63) (tgt := 75) dX3_readAll_63 (by decide) (fun k3 => ?_) (fun k3 => ?_)
      · replace F := F.1 k3
        refine z_iinc (pc := 75) (v := x2 + 1) (ls' := [some (.ref 141), some (.int x1), some (.int (x2 + 1))]) dX3_readAll_75 (by decide) rfl rfl rfl ?_
        refine z_goto (pc := 78) (tgt := 17) dX3_readAll_78 (by decide) ?_
        exact F
      · replace F := F.2 k3
        refine z_aload_n (pc := 66) dX3_readAll_66 rfl rfl ?_
        refine z_aload_n (pc := 67) dX3_readAll_67 rfl rfl ?_
        refine q_getI (pc := 68) (v := rI h2 141 4) dX3_readAll_68 lk_RX3_45 (lyc rfl) rfl ?_
        refine q_putI (pc := 71) dX3_readAll_71 lk_RX3_29 (lyc rfl) ?_
        exact q_retV (pc := 74) dX3_readAll_74 rfl F
    · replace F := F.2 k4
      exact q_retV (pc := 57) dX3_readAll_57 rfl F
  · replace F := F.2 k5
    exact q_retV (pc := 45) dX3_readAll_45 rfl F
theorem g_X3_readPhrase {x1 : Int32} {h : zHp} {Q : zHp → Prop}  (G : zG h) (F : zcV M_X3_advance [.ref 141] h (fun h1 => zG h1 ∧ ((¬ rI h1 141 3 = 1 → (zlV M_X3_readPhrase 20 [some (.ref 141), some (.int x1), none, none, none, none, none] [.int (-1)] h1 Q)) ∧ (rI h1 141 3 = 1 → (zcI M_X3_scopeOfWord [.ref 141] h1 (fun vh2 h2 => zG h2 ∧ (zlV M_X3_readPhrase 20 [some (.ref 141), some (.int x1), none, none, none, none, none] [.int vh2] h2 Q))))))) : zcV M_X3_readPhrase [.ref 141, .int x1] h Q := by
  show zw zNT zNT M_X3_readPhrase 0 [some (.ref 141), some (.int x1), none, none, none, none, none] [] h _
  refine z_aload_n (pc := 0) dX3_readPhrase_0 rfl rfl ?_
  refine q_invV (pc := 1) (As := []) (st := []) dX3_readPhrase_1 ok_X3_advance ml_RX3_39 iv_X3_advance pa_X3_advance ⟨Nat.le_of_ble_eq_true rfl, Nat.le_of_ble_eq_true rfl⟩ (lyc rfl) (q_kV F (fun h1 F => ?_))
  obtain ⟨G1, F⟩ := F
  refine z_aload_n (pc := 4) dX3_readPhrase_4 rfl rfl ?_
  refine q_getI (pc := 5) (v := rI h1 141 3) dX3_readPhrase_5 lk_RX3_42 (lyc rfl) rfl ?_
  refine z_iconst (pc := 8) (v := 1) dX3_readPhrase_8 (by decide) ?_
  refine z_icmp_ne (pc := 9) (tgt := 19) dX3_readPhrase_9 (by decide) (fun k3 => ?_) (fun k3 => ?_)
  · replace F := F.1 k3
    refine z_iconst (pc := 19) (v := -1) dX3_readPhrase_19 (by decide) ?_
    exact F
  · replace F := F.2 k3
    refine z_aload_n (pc := 12) dX3_readPhrase_12 rfl rfl ?_
    refine q_invV (pc := 13) (As := []) (st := []) dX3_readPhrase_13 ok_X3_scopeOfWord ml_RX3_48 iv_X3_scopeOfWord pa_X3_scopeOfWord ⟨Nat.le_of_ble_eq_true rfl, Nat.le_of_ble_eq_true rfl⟩ (lyc rfl) (q_kI F (fun vh2 h2 F => ?_))
    obtain ⟨G2, F⟩ := F
    refine z_goto (pc := 16) (tgt := 20) dX3_readPhrase_16 (by decide) ?_
    exact F
theorem g_X3_readPhrase_20 {x1 : Int32} {xs0 : Int32} {h : zHp} {Q : zHp → Prop}  (G : zG h) (F : (xs0 = -1 → (Q (wI h 141 8 (rI h 141 4)))) ∧ (¬ (xs0 = -1) → ((x1 = 0 → (Q (wI h 141 8 (rI h 141 4)))) ∧ (¬ (x1 = 0) → ((rI h 141 7 < 10 → ((¬ xs0 = 0 → (vp_in xs0 6 ∧ (zcI M_X3_readNumber [.ref 141, .int (zMX (Int32.toNatClampNeg xs0))] h (fun vh1 h1 => zG h1 ∧ (zlV M_X3_readPhrase 65 [some (.ref 141), some (.int x1), some (.int xs0), none, none, none, none] [.int vh1] h1 Q))))) ∧ (xs0 = 0 → (zlV M_X3_readPhrase 65 [some (.ref 141), some (.int x1), some (.int xs0), none, none, none, none] [.int 0] h Q)))) ∧ (¬ (rI h 141 7 < 10) → (Q (wI h 141 8 (rI h 141 4))))))))) : zlV M_X3_readPhrase 20 [some (.ref 141), some (.int x1), none, none, none, none, none] [.int xs0] h Q := by
  refine z_istore_n (pc := 20) (ls' := [some (.ref 141), some (.int x1), some (.int xs0), none, none, none, none]) dX3_readPhrase_20 rfl (by decide) rfl ?_
  refine z_iload_n (pc := 21) dX3_readPhrase_21 rfl rfl ?_
  refine z_iconst (pc := 22) (v := -1) dX3_readPhrase_22 (by decide) ?_
  refine z_icmp_eq (pc := 23) (tgt := 39) dX3_readPhrase_23 (by decide) (fun k6 => ?_) (fun k6 => ?_)
  · replace F := F.1 k6
    refine z_aload_n (pc := 39) dX3_readPhrase_39 rfl rfl ?_
    refine z_aload_n (pc := 40) dX3_readPhrase_40 rfl rfl ?_
    refine q_getI (pc := 41) (v := rI h 141 4) dX3_readPhrase_41 lk_RX3_45 (lyc rfl) rfl ?_
    refine q_putI (pc := 44) dX3_readPhrase_44 lk_RX3_29 (lyc rfl) ?_
    exact q_retV (pc := 47) dX3_readPhrase_47 rfl F
  · replace F := F.2 k6
    refine z_iload_n (pc := 26) dX3_readPhrase_26 rfl rfl ?_
    refine z_if_eq (pc := 27) (tgt := 39) dX3_readPhrase_27 (by decide) (fun k5 => ?_) (fun k5 => ?_)
    · replace F := F.1 k5
      refine z_aload_n (pc := 39) dX3_readPhrase_39 rfl rfl ?_
      refine z_aload_n (pc := 40) dX3_readPhrase_40 rfl rfl ?_
      refine q_getI (pc := 41) (v := rI h 141 4) dX3_readPhrase_41 lk_RX3_45 (lyc rfl) rfl ?_
      refine q_putI (pc := 44) dX3_readPhrase_44 lk_RX3_29 (lyc rfl) ?_
      exact q_retV (pc := 47) dX3_readPhrase_47 rfl F
    · replace F := F.2 k5
      refine z_aload_n (pc := 30) dX3_readPhrase_30 rfl rfl ?_
      refine q_getI (pc := 31) (v := rI h 141 7) dX3_readPhrase_31 lk_RX3_32 (lyc rfl) rfl ?_
      refine z_bipush (pc := 34) (v := 10) dX3_readPhrase_34 (by decide) ?_
      refine z_icmp_lt (pc := 36) (tgt := 48) dX3_readPhrase_36 (by decide) (fun k4 => ?_) (fun k4 => ?_)
      · replace F := F.1 k4
        refine z_iload_n (pc := 48) dX3_readPhrase_48 rfl rfl ?_
        refine z_if_ne (pc := 49) (tgt := 56) dX3_readPhrase_49 (by decide) (fun k3 => ?_) (fun k3 => ?_)
        · replace F := F.1 k3
          refine z_aload_n (pc := 56) dX3_readPhrase_56 rfl rfl ?_
          refine z_gsN (pc := 57) (i := 1001) (own := RX3) (nm := "MOST_X") (host := "LayeredRules") dX3_readPhrase_57 (List.mem_of_getElem? (i := 1) rfl) rfl (Or.inr ⟨rfl, rfl⟩) ?_
          refine z_iload_n (pc := 60) dX3_readPhrase_60 rfl rfl ?_
          obtain ⟨k1, F⟩ := F
          refine z_ldMX (pc := 61) dX3_readPhrase_61 k1 rfl ?_
          refine q_invV (pc := 62) (As := [.int (zMX (Int32.toNatClampNeg xs0))]) (st := []) dX3_readPhrase_62 ok_X3_readNumber ml_RX3_56 iv_X3_readNumber pa_X3_readNumber ⟨Nat.le_of_ble_eq_true rfl, Nat.le_of_ble_eq_true rfl⟩ (lyc rfl) (q_kI F (fun vh1 h1 F => ?_))
          obtain ⟨G1, F⟩ := F
          exact F
        · replace F := F.2 k3
          refine z_iconst (pc := 52) (v := 0) dX3_readPhrase_52 (by decide) ?_
          refine z_goto (pc := 53) (tgt := 65) dX3_readPhrase_53 (by decide) ?_
          exact F
      · replace F := F.2 k4
        refine z_aload_n (pc := 39) dX3_readPhrase_39 rfl rfl ?_
        refine z_aload_n (pc := 40) dX3_readPhrase_40 rfl rfl ?_
        refine q_getI (pc := 41) (v := rI h 141 4) dX3_readPhrase_41 lk_RX3_45 (lyc rfl) rfl ?_
        refine q_putI (pc := 44) dX3_readPhrase_44 lk_RX3_29 (lyc rfl) ?_
        exact q_retV (pc := 47) dX3_readPhrase_47 rfl F
theorem g_X3_readPhrase_65 {x1 : Int32} {x2 : Int32} {xs0 : Int32} {h : zHp} {Q : zHp → Prop}  (G : zG h) (F : (rI h 141 8 = -1 → (zcV M_X3_advance [.ref 141] h (fun h1 => zG h1 ∧ ((¬ rI h1 141 3 = 1 → (zlV M_X3_readPhrase 95 [some (.ref 141), some (.int x1), some (.int x2), some (.int xs0), none, none, none] [.int (-1)] h1 Q)) ∧ (rI h1 141 3 = 1 → (zcI M_X3_sortOfWord [.ref 141] h1 (fun vh2 h2 => zG h2 ∧ (zlV M_X3_readPhrase 95 [some (.ref 141), some (.int x1), some (.int x2), some (.int xs0), none, none, none] [.int vh2] h2 Q)))))))) ∧ (¬ (rI h 141 8 = -1) → (Q h))) : zlV M_X3_readPhrase 65 [some (.ref 141), some (.int x1), some (.int x2), none, none, none, none] [.int xs0] h Q := by
  refine z_istore_n (pc := 65) (ls' := [some (.ref 141), some (.int x1), some (.int x2), some (.int xs0), none, none, none]) dX3_readPhrase_65 rfl (by decide) rfl ?_
  refine z_aload_n (pc := 66) dX3_readPhrase_66 rfl rfl ?_
  refine q_getI (pc := 67) (v := rI h 141 8) dX3_readPhrase_67 lk_RX3_29 (lyc rfl) rfl ?_
  refine z_iconst (pc := 70) (v := -1) dX3_readPhrase_70 (by decide) ?_
  refine z_icmp_eq (pc := 71) (tgt := 75) dX3_readPhrase_71 (by decide) (fun k4 => ?_) (fun k4 => ?_)
  · replace F := F.1 k4
    refine z_aload_n (pc := 75) dX3_readPhrase_75 rfl rfl ?_
    refine q_invV (pc := 76) (As := []) (st := []) dX3_readPhrase_76 ok_X3_advance ml_RX3_39 iv_X3_advance pa_X3_advance ⟨Nat.le_of_ble_eq_true rfl, Nat.le_of_ble_eq_true rfl⟩ (lyc rfl) (q_kV F (fun h1 F => ?_))
    obtain ⟨G1, F⟩ := F
    refine z_aload_n (pc := 79) dX3_readPhrase_79 rfl rfl ?_
    refine q_getI (pc := 80) (v := rI h1 141 3) dX3_readPhrase_80 lk_RX3_42 (lyc rfl) rfl ?_
    refine z_iconst (pc := 83) (v := 1) dX3_readPhrase_83 (by decide) ?_
    refine z_icmp_ne (pc := 84) (tgt := 94) dX3_readPhrase_84 (by decide) (fun k3 => ?_) (fun k3 => ?_)
    · replace F := F.1 k3
      refine z_iconst (pc := 94) (v := -1) dX3_readPhrase_94 (by decide) ?_
      exact F
    · replace F := F.2 k3
      refine z_aload_n (pc := 87) dX3_readPhrase_87 rfl rfl ?_
      refine q_invV (pc := 88) (As := []) (st := []) dX3_readPhrase_88 ok_X3_sortOfWord ml_RX3_60 iv_X3_sortOfWord pa_X3_sortOfWord ⟨Nat.le_of_ble_eq_true rfl, Nat.le_of_ble_eq_true rfl⟩ (lyc rfl) (q_kI F (fun vh2 h2 F => ?_))
      obtain ⟨G2, F⟩ := F
      refine z_goto (pc := 91) (tgt := 95) dX3_readPhrase_91 (by decide) ?_
      exact F
  · replace F := F.2 k4
    exact q_retV (pc := 74) dX3_readPhrase_74 rfl F
theorem g_X3_readPhrase_95 {x1 : Int32} {x2 : Int32} {x3 : Int32} {xs0 : Int32} {h : zHp} {Q : zHp → Prop}  (G : zG h) (F : (¬ xs0 = -1 → (zcI M_X3_readFirst [.ref 141, .int xs0] h (fun vh1 h1 => zG h1 ∧ ((¬ rI h1 141 8 = -1 → (zlV M_X3_readPhrase 148 [some (.ref 141), some (.int x1), some (.int x2), some (.int x3), some (.int xs0), some (.int vh1), none] [.int 0] h1 Q)) ∧ (rI h1 141 8 = -1 → ((xs0 = 3 → (zcI M_X3_readValue [.ref 141] h1 (fun vh2 h2 => zG h2 ∧ (zlV M_X3_readPhrase 148 [some (.ref 141), some (.int x1), some (.int x2), some (.int x3), some (.int xs0), some (.int vh1), none] [.int vh2] h2 Q)))) ∧ (¬ (xs0 = 3) → ((¬ xs0 = 4 → (zlV M_X3_readPhrase 148 [some (.ref 141), some (.int x1), some (.int x2), some (.int x3), some (.int xs0), some (.int vh1), none] [.int 0] h1 Q)) ∧ (xs0 = 4 → (zcI M_X3_readValue [.ref 141] h1 (fun vh3 h3 => zG h3 ∧ (zlV M_X3_readPhrase 148 [some (.ref 141), some (.int x1), some (.int x2), some (.int x3), some (.int xs0), some (.int vh1), none] [.int vh3] h3 Q)))))))))))) ∧ (xs0 = -1 → (Q (wI h 141 8 (rI h 141 4))))) : zlV M_X3_readPhrase 95 [some (.ref 141), some (.int x1), some (.int x2), some (.int x3), none, none, none] [.int xs0] h Q := by
  refine z_istore (pc := 95) (ls' := [some (.ref 141), some (.int x1), some (.int x2), some (.int x3), some (.int xs0), none, none]) dX3_readPhrase_95 (by decide) rfl ?_
  refine z_iload (pc := 97) dX3_readPhrase_97 rfl ?_
  refine z_iconst (pc := 99) (v := -1) dX3_readPhrase_99 (by decide) ?_
  refine z_icmp_ne (pc := 100) (tgt := 112) dX3_readPhrase_100 (by decide) (fun k7 => ?_) (fun k7 => ?_)
  · replace F := F.1 k7
    refine z_aload_n (pc := 112) dX3_readPhrase_112 rfl rfl ?_
    refine z_iload (pc := 113) dX3_readPhrase_113 rfl ?_
    refine q_invV (pc := 115) (As := [.int xs0]) (st := []) dX3_readPhrase_115 ok_X3_readFirst ml_RX3_63 iv_X3_readFirst pa_X3_readFirst ⟨Nat.le_of_ble_eq_true rfl, Nat.le_of_ble_eq_true rfl⟩ (lyc rfl) (q_kI F (fun vh1 h1 F => ?_))
    obtain ⟨G1, F⟩ := F
    refine z_istore (pc := 118) (ls' := [some (.ref 141), some (.int x1), some (.int x2), some (.int x3), some (.int xs0), some (.int vh1), none]) dX3_readPhrase_118 (by decide) rfl ?_
    refine z_aload_n (pc := 120) dX3_readPhrase_120 rfl rfl ?_
    refine q_getI (pc := 121) (v := rI h1 141 8) dX3_readPhrase_121 lk_RX3_29 (lyc rfl) rfl ?_
    refine z_iconst (pc := 124) (v := -1) dX3_readPhrase_124 (by decide) ?_
    refine z_icmp_ne (pc := 125) (tgt := 147) dX3_readPhrase_125 (by decide) (fun k6 => ?_) (fun k6 => ?_)
    · replace F := F.1 k6
      refine z_iconst (pc := 147) (v := 0) dX3_readPhrase_147 (by decide) ?_
      exact F
    · replace F := F.2 k6
      refine z_iload (pc := 128) dX3_readPhrase_128 rfl ?_
      refine z_iconst (pc := 130) (v := 3) dX3_readPhrase_130 (by decide) ?_
      refine z_icmp_eq (pc := 131) (tgt := 140) dX3_readPhrase_131 (by decide) (fun k5 => ?_) (fun k5 => ?_)
      · replace F := F.1 k5
        refine z_aload_n (pc := 140) dX3_readPhrase_140 rfl rfl ?_
        refine q_invV (pc := 141) (As := []) (st := []) dX3_readPhrase_141 ok_X3_readValue ml_RX3_66 iv_X3_readValue pa_X3_readValue ⟨Nat.le_of_ble_eq_true rfl, Nat.le_of_ble_eq_true rfl⟩ (lyc rfl) (q_kI F (fun vh2 h2 F => ?_))
        obtain ⟨G2, F⟩ := F
        refine z_goto (pc := 144) (tgt := 148) dX3_readPhrase_144 (by decide) ?_
        exact F
      · replace F := F.2 k5
        refine z_iload (pc := 134) dX3_readPhrase_134 rfl ?_
        refine z_iconst (pc := 136) (v := 4) dX3_readPhrase_136 (by decide) ?_
        refine z_icmp_ne (pc := 137) (tgt := 147) dX3_readPhrase_137 (by decide) (fun k4 => ?_) (fun k4 => ?_)
        · replace F := F.1 k4
          refine z_iconst (pc := 147) (v := 0) dX3_readPhrase_147 (by decide) ?_
          exact F
        · replace F := F.2 k4
          refine z_aload_n (pc := 140) dX3_readPhrase_140 rfl rfl ?_
          refine q_invV (pc := 141) (As := []) (st := []) dX3_readPhrase_141 ok_X3_readValue ml_RX3_66 iv_X3_readValue pa_X3_readValue ⟨Nat.le_of_ble_eq_true rfl, Nat.le_of_ble_eq_true rfl⟩ (lyc rfl) (q_kI F (fun vh3 h3 F => ?_))
          obtain ⟨G3, F⟩ := F
          refine z_goto (pc := 144) (tgt := 148) dX3_readPhrase_144 (by decide) ?_
          exact F
  · replace F := F.2 k7
    refine z_aload_n (pc := 103) dX3_readPhrase_103 rfl rfl ?_
    refine z_aload_n (pc := 104) dX3_readPhrase_104 rfl rfl ?_
    refine q_getI (pc := 105) (v := rI h 141 4) dX3_readPhrase_105 lk_RX3_45 (lyc rfl) rfl ?_
    refine q_putI (pc := 108) dX3_readPhrase_108 lk_RX3_29 (lyc rfl) ?_
    exact q_retV (pc := 111) dX3_readPhrase_111 rfl F
theorem g_X3_readPhrase_148 {x1 : Int32} {x2 : Int32} {x3 : Int32} {x4 : Int32} {x5 : Int32} {xs0 : Int32} {h : zHp} {Q : zHp → Prop}  (G : zG h) (F : (¬ rI h 141 8 = -1 → (Q h)) ∧ (rI h 141 8 = -1 → (vp_in (rI h 141 7) 10 ∧ (zcV M_X1_become [.ref (144 + (Int32.toNatClampNeg (rI h 141 7))), .int x4, .int x2, .int x3, .int x5, .int xs0] h (fun h1 => zG h1 ∧ (Q (wI h1 141 7 ((rI h1 141 7) + 1)))))))) : zlV M_X3_readPhrase 148 [some (.ref 141), some (.int x1), some (.int x2), some (.int x3), some (.int x4), some (.int x5), none] [.int xs0] h Q := by
  refine z_istore (pc := 148) (ls' := [some (.ref 141), some (.int x1), some (.int x2), some (.int x3), some (.int x4), some (.int x5), some (.int xs0)]) dX3_readPhrase_148 (by decide) rfl ?_
  refine z_aload_n (pc := 150) dX3_readPhrase_150 rfl rfl ?_
  refine q_getI (pc := 151) (v := rI h 141 8) dX3_readPhrase_151 lk_RX3_29 (lyc rfl) rfl ?_
  refine z_iconst (pc := 154) (v := -1) dX3_readPhrase_154 (by decide) ?_
  refine z_icmp_ne (pc := 155) (tgt := 188) dX3_readPhrase_155 (by decide) (fun k3 => ?_) (fun k3 => ?_)
  · replace F := F.1 k3
    exact q_retV (pc := 188) dX3_readPhrase_188 rfl F
  · replace F := F.2 k3
    refine z_aload_n (pc := 158) dX3_readPhrase_158 rfl rfl ?_
    refine q_getR (pc := 159) (i := 143) dX3_readPhrase_159 lk_RX3_17 (lyc rfl) (G 141 6 143 rfl) ?_
    refine z_aload_n (pc := 162) dX3_readPhrase_162 rfl rfl ?_
    refine q_getI (pc := 163) (v := rI h 141 7) dX3_readPhrase_163 lk_RX3_32 (lyc rfl) rfl ?_
    obtain ⟨k1, F⟩ := F
    refine q_aald (pc := 166) (j := (Int32.toNatClampNeg (rI h 141 7))) (r := 144 + (Int32.toNatClampNeg (rI h 141 7))) (t := 1) dX3_readPhrase_166 (lyc rfl) (zvn (lnc rfl) k1) rfl (grP G (zvi k1)) ?_
    refine z_iload (pc := 167) dX3_readPhrase_167 rfl ?_
    refine z_iload_n (pc := 169) dX3_readPhrase_169 rfl rfl ?_
    refine z_iload_n (pc := 170) dX3_readPhrase_170 rfl rfl ?_
    refine z_iload (pc := 171) dX3_readPhrase_171 rfl ?_
    refine z_iload (pc := 173) dX3_readPhrase_173 rfl ?_
    refine q_invV (pc := 175) (As := [.int x4, .int x2, .int x3, .int x5, .int xs0]) (st := []) dX3_readPhrase_175 ok_X1_become ml_RX3_69 iv_X1_become pa_X1_become ⟨Nat.le_of_ble_eq_true rfl, Nat.le_of_ble_eq_true rfl⟩ (lyP (zvi k1)) (q_kV F (fun h1 F => ?_))
    obtain ⟨G1, F⟩ := F
    refine z_aload_n (pc := 178) dX3_readPhrase_178 rfl rfl ?_
    refine z_dup (pc := 179) dX3_readPhrase_179 rfl ?_
    refine q_getI (pc := 180) (v := rI h1 141 7) dX3_readPhrase_180 lk_RX3_32 (lyc rfl) rfl ?_
    refine z_iconst (pc := 183) (v := 1) dX3_readPhrase_183 (by decide) ?_
    refine z_iadd (pc := 184) dX3_readPhrase_184 ?_
    refine q_putI (pc := 185) dX3_readPhrase_185 lk_RX3_32 (lyc rfl) ?_
    exact q_retV (pc := 188) dX3_readPhrase_188 rfl F
theorem g_X3_readFirst {x1 : Int32} {h : zHp} {Q : Int32 → zHp → Prop}  (G : zG h) (F : (¬ x1 = 5 → ((2 < x1 → (zcI M_X3_readValue [.ref 141] h (fun vh1 h1 => zG h1 ∧ (Q vh1 h1)))) ∧ (¬ (2 < x1) → (zcI M_X3_readNumber [.ref 141, .int 5] h (fun vh2 h2 => zG h2 ∧ (Q vh2 h2)))))) ∧ (x1 = 5 → (Q 0 h))) : zcI M_X3_readFirst [.ref 141, .int x1] h Q := by
  show zw zNT zNT M_X3_readFirst 0 [some (.ref 141), some (.int x1)] [] h _
  refine z_iload_n (pc := 0) dX3_readFirst_0 rfl rfl ?_
  refine z_iconst (pc := 1) (v := 5) dX3_readFirst_1 (by decide) ?_
  refine z_icmp_ne (pc := 2) (tgt := 7) dX3_readFirst_2 (by decide) (fun k4 => ?_) (fun k4 => ?_)
  · replace F := F.1 k4
    refine z_iload_n (pc := 7) dX3_readFirst_7 rfl rfl ?_
    refine z_iconst (pc := 8) (v := 2) dX3_readFirst_8 (by decide) ?_
    refine z_icmp_gt (pc := 9) (tgt := 20) dX3_readFirst_9 (by decide) (fun k3 => ?_) (fun k3 => ?_)
    · replace F := F.1 k3
      refine z_aload_n (pc := 20) dX3_readFirst_20 rfl rfl ?_
      refine q_invV (pc := 21) (As := []) (st := []) dX3_readFirst_21 ok_X3_readValue ml_RX3_66 iv_X3_readValue pa_X3_readValue ⟨Nat.le_of_ble_eq_true rfl, Nat.le_of_ble_eq_true rfl⟩ (lyc rfl) (q_kI F (fun vh1 h1 F => ?_))
      obtain ⟨G1, F⟩ := F
      exact q_retI (pc := 24) dX3_readFirst_24 rfl F
    · replace F := F.2 k3
      refine z_aload_n (pc := 12) dX3_readFirst_12 rfl rfl ?_
      refine z_iconst (pc := 13) (v := 5) dX3_readFirst_13 (by decide) ?_
      refine q_invV (pc := 14) (As := [.int 5]) (st := []) dX3_readFirst_14 ok_X3_readNumber ml_RX3_56 iv_X3_readNumber pa_X3_readNumber ⟨Nat.le_of_ble_eq_true rfl, Nat.le_of_ble_eq_true rfl⟩ (lyc rfl) (q_kI F (fun vh2 h2 F => ?_))
      obtain ⟨G2, F⟩ := F
      refine z_goto (pc := 17) (tgt := 24) dX3_readFirst_17 (by decide) ?_
      exact q_retI (pc := 24) dX3_readFirst_24 rfl F
  · replace F := F.2 k4
    refine z_iconst (pc := 5) (v := 0) dX3_readFirst_5 (by decide) ?_
    exact q_retI (pc := 6) dX3_readFirst_6 rfl F
theorem g_X3_readNumber {x1 : Int32} {h : zHp} {Q : Int32 → zHp → Prop}  (G : zG h) (F : zcV M_X3_advance [.ref 141] h (fun h1 => zG h1 ∧ (zcI M_X3_numberHere [.ref 141, .int x1] h1 (fun vh2 h2 => zG h2 ∧ (Q vh2 h2))))) : zcI M_X3_readNumber [.ref 141, .int x1] h Q := by
  show zw zNT zNT M_X3_readNumber 0 [some (.ref 141), some (.int x1)] [] h _
  refine z_aload_n (pc := 0) dX3_readNumber_0 rfl rfl ?_
  refine q_invV (pc := 1) (As := []) (st := []) dX3_readNumber_1 ok_X3_advance ml_RX3_39 iv_X3_advance pa_X3_advance ⟨Nat.le_of_ble_eq_true rfl, Nat.le_of_ble_eq_true rfl⟩ (lyc rfl) (q_kV F (fun h1 F => ?_))
  obtain ⟨G1, F⟩ := F
  refine z_aload_n (pc := 4) dX3_readNumber_4 rfl rfl ?_
  refine z_iload_n (pc := 5) dX3_readNumber_5 rfl rfl ?_
  refine q_invV (pc := 6) (As := [.int x1]) (st := []) dX3_readNumber_6 ok_X3_numberHere ml_RX3_73 iv_X3_numberHere pa_X3_numberHere ⟨Nat.le_of_ble_eq_true rfl, Nat.le_of_ble_eq_true rfl⟩ (lyc rfl) (q_kI F (fun vh2 h2 F => ?_))
  obtain ⟨G2, F⟩ := F
  exact q_retI (pc := 9) dX3_readNumber_9 rfl F
theorem g_X3_readValue  {h : zHp} {Q : Int32 → zHp → Prop}  (G : zG h) (F : zcV M_X3_advance [.ref 141] h (fun h1 => zG h1 ∧ ((rI h1 141 3 = 4 → (zcV M_X3_advance [.ref 141] h1 (fun h2 => zG h2 ∧ (zcI M_X3_numberHere [.ref 141, .int 9] h2 (fun vh3 h3 => zG h3 ∧ (Q (-vh3) h3)))))) ∧ (¬ (rI h1 141 3 = 4) → (zcI M_X3_numberHere [.ref 141, .int 9] h1 (fun vh4 h4 => zG h4 ∧ (Q vh4 h4))))))) : zcI M_X3_readValue [.ref 141] h Q := by
  show zw zNT zNT M_X3_readValue 0 [some (.ref 141)] [] h _
  refine z_aload_n (pc := 0) dX3_readValue_0 rfl rfl ?_
  refine q_invV (pc := 1) (As := []) (st := []) dX3_readValue_1 ok_X3_advance ml_RX3_39 iv_X3_advance pa_X3_advance ⟨Nat.le_of_ble_eq_true rfl, Nat.le_of_ble_eq_true rfl⟩ (lyc rfl) (q_kV F (fun h1 F => ?_))
  obtain ⟨G1, F⟩ := F
  refine z_aload_n (pc := 4) dX3_readValue_4 rfl rfl ?_
  refine q_getI (pc := 5) (v := rI h1 141 3) dX3_readValue_5 lk_RX3_42 (lyc rfl) rfl ?_
  refine z_iconst (pc := 8) (v := 4) dX3_readValue_8 (by decide) ?_
  refine z_icmp_eq (pc := 9) (tgt := 19) dX3_readValue_9 (by decide) (fun k5 => ?_) (fun k5 => ?_)
  · replace F := F.1 k5
    refine z_aload_n (pc := 19) dX3_readValue_19 rfl rfl ?_
    refine q_invV (pc := 20) (As := []) (st := []) dX3_readValue_20 ok_X3_advance ml_RX3_39 iv_X3_advance pa_X3_advance ⟨Nat.le_of_ble_eq_true rfl, Nat.le_of_ble_eq_true rfl⟩ (lyc rfl) (q_kV F (fun h2 F => ?_))
    obtain ⟨G2, F⟩ := F
    refine z_aload_n (pc := 23) dX3_readValue_23 rfl rfl ?_
    refine z_bipush (pc := 24) (v := 9) dX3_readValue_24 (by decide) ?_
    refine q_invV (pc := 26) (As := [.int 9]) (st := []) dX3_readValue_26 ok_X3_numberHere ml_RX3_73 iv_X3_numberHere pa_X3_numberHere ⟨Nat.le_of_ble_eq_true rfl, Nat.le_of_ble_eq_true rfl⟩ (lyc rfl) (q_kI F (fun vh3 h3 F => ?_))
    obtain ⟨G3, F⟩ := F
    refine z_ineg (pc := 29) dX3_readValue_29 ?_
    exact q_retI (pc := 30) dX3_readValue_30 rfl F
  · replace F := F.2 k5
    refine z_aload_n (pc := 12) dX3_readValue_12 rfl rfl ?_
    refine z_bipush (pc := 13) (v := 9) dX3_readValue_13 (by decide) ?_
    refine q_invV (pc := 15) (As := [.int 9]) (st := []) dX3_readValue_15 ok_X3_numberHere ml_RX3_73 iv_X3_numberHere pa_X3_numberHere ⟨Nat.le_of_ble_eq_true rfl, Nat.le_of_ble_eq_true rfl⟩ (lyc rfl) (q_kI F (fun vh4 h4 F => ?_))
    obtain ⟨G4, F⟩ := F
    exact q_retI (pc := 18) dX3_readValue_18 rfl F
theorem g_X3_numberHere {x1 : Int32} {h : zHp} {Q : Int32 → zHp → Prop}  (G : zG h) (F : (¬ rI h 141 3 = 2 → (Q 0 (wI h 141 8 (rI h 141 4)))) ∧ (rI h 141 3 = 2 → ((x1 < rI h 141 5 → (Q 0 (wI h 141 8 (rI h 141 4)))) ∧ (¬ (x1 < rI h 141 5) → (Q (rI h 141 5) h))))) : zcI M_X3_numberHere [.ref 141, .int x1] h Q := by
  show zw zNT zNT M_X3_numberHere 0 [some (.ref 141), some (.int x1)] [] h _
  refine z_aload_n (pc := 0) dX3_numberHere_0 rfl rfl ?_
  refine q_getI (pc := 1) (v := rI h 141 3) dX3_numberHere_1 lk_RX3_42 (lyc rfl) rfl ?_
  refine z_iconst (pc := 4) (v := 2) dX3_numberHere_4 (by decide) ?_
  refine z_icmp_ne (pc := 5) (tgt := 21) dX3_numberHere_5 (by decide) (fun k2 => ?_) (fun k2 => ?_)
  · replace F := F.1 k2
    refine z_aload_n (pc := 21) dX3_numberHere_21 rfl rfl ?_
    refine z_aload_n (pc := 22) dX3_numberHere_22 rfl rfl ?_
    refine q_getI (pc := 23) (v := rI h 141 4) dX3_numberHere_23 lk_RX3_45 (lyc rfl) rfl ?_
    refine q_putI (pc := 26) dX3_numberHere_26 lk_RX3_29 (lyc rfl) ?_
    refine z_iconst (pc := 29) (v := 0) dX3_numberHere_29 (by decide) ?_
    exact q_retI (pc := 30) dX3_numberHere_30 rfl F
  · replace F := F.2 k2
    refine z_aload_n (pc := 8) dX3_numberHere_8 rfl rfl ?_
    refine q_getI (pc := 9) (v := rI h 141 5) dX3_numberHere_9 lk_RX3_76 (lyc rfl) rfl ?_
    refine z_iload_n (pc := 12) dX3_numberHere_12 rfl rfl ?_
    refine z_icmp_gt (pc := 13) (tgt := 21) dX3_numberHere_13 (by decide) (fun k1 => ?_) (fun k1 => ?_)
    · replace F := F.1 k1
      refine z_aload_n (pc := 21) dX3_numberHere_21 rfl rfl ?_
      refine z_aload_n (pc := 22) dX3_numberHere_22 rfl rfl ?_
      refine q_getI (pc := 23) (v := rI h 141 4) dX3_numberHere_23 lk_RX3_45 (lyc rfl) rfl ?_
      refine q_putI (pc := 26) dX3_numberHere_26 lk_RX3_29 (lyc rfl) ?_
      refine z_iconst (pc := 29) (v := 0) dX3_numberHere_29 (by decide) ?_
      exact q_retI (pc := 30) dX3_numberHere_30 rfl F
    · replace F := F.2 k1
      refine z_aload_n (pc := 16) dX3_numberHere_16 rfl rfl ?_
      refine q_getI (pc := 17) (v := rI h 141 5) dX3_numberHere_17 lk_RX3_76 (lyc rfl) rfl ?_
      exact q_retI (pc := 20) dX3_numberHere_20 rfl F
theorem g_X3_scopeOfWord  {h : zHp} {Q : Int32 → zHp → Prop}  (G : zG h) (F : zlI M_X3_scopeOfWord 2 [some (.ref 141), some (.int 0)] [] h Q) : zcI M_X3_scopeOfWord [.ref 141] h Q := by
  show zw zNT zNT M_X3_scopeOfWord 0 [some (.ref 141), none] [] h _
  refine z_iconst (pc := 0) (v := 0) dX3_scopeOfWord_0 (by decide) ?_
  refine z_istore_n (pc := 1) (ls' := [some (.ref 141), some (.int 0)]) dX3_scopeOfWord_1 rfl (by decide) rfl ?_
  exact F
theorem g_X3_scopeOfWord_2 {x1 : Int32} {h : zHp} {Q : Int32 → zHp → Prop}  (G : zG h) (F : (5 < x1 → (Q (-1) h)) ∧ (¬ (5 < x1) → (zcR M_X10_scopeWord [.int x1] h (fun ch1 h1 => zG h1 ∧ ∃ ih1, ih1 < 13 ∧ ch1 = 1010 + ih1 ∧ (zcI M_X3_isWord [.ref 141, .ref (1010 + ih1)] h1 (fun vh2 h2 => zG h2 ∧ ((vh2 = 0 → (zlI M_X3_scopeOfWord 2 [some (.ref 141), some (.int (x1 + 1))] [] h2 Q)) ∧ (¬ (vh2 = 0) → (Q x1 h2))))))))) : zlI M_X3_scopeOfWord 2 [some (.ref 141), some (.int x1)] [] h Q := by
  refine z_iload_n (pc := 2) dX3_scopeOfWord_2 rfl rfl ?_
  refine z_iconst (pc := 3) (v := 5) dX3_scopeOfWord_3 (by decide) ?_
  refine z_icmp_gt (pc := 4) (tgt := 26) dX3_scopeOfWord_4 (by decide) (fun k4 => ?_) (fun k4 => ?_)
  · replace F := F.1 k4
    refine z_iconst (pc := 26) (v := -1) dX3_scopeOfWord_26 (by decide) ?_
    exact q_retI (pc := 27) dX3_scopeOfWord_27 rfl F
  · replace F := F.2 k4
    refine z_aload_n (pc := 7) dX3_scopeOfWord_7 rfl rfl ?_
    refine z_iload_n (pc := 8) dX3_scopeOfWord_8 rfl rfl ?_
    refine q_invS (pc := 9) (As := [.int x1]) (st := [.ref 141]) dX3_scopeOfWord_9 ok_X10_scopeWord ml_RX3_79 st_X10_scopeWord pa_X10_scopeWord ⟨Nat.le_of_ble_eq_true rfl, Nat.le_of_ble_eq_true rfl⟩ (q_kR F (fun ch1 h1 F => ?_))
    obtain ⟨G1, ih1, hih1, rfl, F⟩ := F
    refine q_invV (pc := 12) (As := [.ref (1010 + ih1)]) (st := []) dX3_scopeOfWord_12 ok_X3_isWord ml_RX3_83 iv_X3_isWord pa_X3_isWord ⟨Nat.le_of_ble_eq_true rfl, Nat.le_of_ble_eq_true rfl⟩ (lyc rfl) (q_kI F (fun vh2 h2 F => ?_))
    obtain ⟨G2, F⟩ := F
    refine z_if_eq (pc := 15) (tgt := 20) dX3_scopeOfWord_15 (by decide) (fun k3 => ?_) (fun k3 => ?_)
    · replace F := F.1 k3
      refine z_iinc (pc := 20) (v := x1 + 1) (ls' := [some (.ref 141), some (.int (x1 + 1))]) dX3_scopeOfWord_20 (by decide) rfl rfl rfl ?_
      refine z_goto (pc := 23) (tgt := 2) dX3_scopeOfWord_23 (by decide) ?_
      exact F
    · replace F := F.2 k3
      refine z_iload_n (pc := 18) dX3_scopeOfWord_18 rfl rfl ?_
      exact q_retI (pc := 19) dX3_scopeOfWord_19 rfl F
theorem g_X3_sortOfWord  {h : zHp} {Q : Int32 → zHp → Prop}  (G : zG h) (F : zlI M_X3_sortOfWord 2 [some (.ref 141), some (.int 0)] [] h Q) : zcI M_X3_sortOfWord [.ref 141] h Q := by
  show zw zNT zNT M_X3_sortOfWord 0 [some (.ref 141), none] [] h _
  refine z_iconst (pc := 0) (v := 0) dX3_sortOfWord_0 (by decide) ?_
  refine z_istore_n (pc := 1) (ls' := [some (.ref 141), some (.int 0)]) dX3_sortOfWord_1 rfl (by decide) rfl ?_
  exact F
theorem g_X3_sortOfWord_2 {x1 : Int32} {h : zHp} {Q : Int32 → zHp → Prop}  (G : zG h) (F : (5 < x1 → (Q (-1) h)) ∧ (¬ (5 < x1) → (zcR M_X10_deedWord [.int x1] h (fun ch1 h1 => zG h1 ∧ ∃ ih1, ih1 < 13 ∧ ch1 = 1010 + ih1 ∧ (zcI M_X3_isWord [.ref 141, .ref (1010 + ih1)] h1 (fun vh2 h2 => zG h2 ∧ ((vh2 = 0 → (zlI M_X3_sortOfWord 2 [some (.ref 141), some (.int (x1 + 1))] [] h2 Q)) ∧ (¬ (vh2 = 0) → (Q x1 h2))))))))) : zlI M_X3_sortOfWord 2 [some (.ref 141), some (.int x1)] [] h Q := by
  refine z_iload_n (pc := 2) dX3_sortOfWord_2 rfl rfl ?_
  refine z_iconst (pc := 3) (v := 5) dX3_sortOfWord_3 (by decide) ?_
  refine z_icmp_gt (pc := 4) (tgt := 26) dX3_sortOfWord_4 (by decide) (fun k4 => ?_) (fun k4 => ?_)
  · replace F := F.1 k4
    refine z_iconst (pc := 26) (v := -1) dX3_sortOfWord_26 (by decide) ?_
    exact q_retI (pc := 27) dX3_sortOfWord_27 rfl F
  · replace F := F.2 k4
    refine z_aload_n (pc := 7) dX3_sortOfWord_7 rfl rfl ?_
    refine z_iload_n (pc := 8) dX3_sortOfWord_8 rfl rfl ?_
    refine q_invS (pc := 9) (As := [.int x1]) (st := [.ref 141]) dX3_sortOfWord_9 ok_X10_deedWord ml_RX3_87 st_X10_deedWord pa_X10_deedWord ⟨Nat.le_of_ble_eq_true rfl, Nat.le_of_ble_eq_true rfl⟩ (q_kR F (fun ch1 h1 F => ?_))
    obtain ⟨G1, ih1, hih1, rfl, F⟩ := F
    refine q_invV (pc := 12) (As := [.ref (1010 + ih1)]) (st := []) dX3_sortOfWord_12 ok_X3_isWord ml_RX3_83 iv_X3_isWord pa_X3_isWord ⟨Nat.le_of_ble_eq_true rfl, Nat.le_of_ble_eq_true rfl⟩ (lyc rfl) (q_kI F (fun vh2 h2 F => ?_))
    obtain ⟨G2, F⟩ := F
    refine z_if_eq (pc := 15) (tgt := 20) dX3_sortOfWord_15 (by decide) (fun k3 => ?_) (fun k3 => ?_)
    · replace F := F.1 k3
      refine z_iinc (pc := 20) (v := x1 + 1) (ls' := [some (.ref 141), some (.int (x1 + 1))]) dX3_sortOfWord_20 (by decide) rfl rfl rfl ?_
      refine z_goto (pc := 23) (tgt := 2) dX3_sortOfWord_23 (by decide) ?_
      exact F
    · replace F := F.2 k3
      refine z_iload_n (pc := 18) dX3_sortOfWord_18 rfl rfl ?_
      exact q_retI (pc := 19) dX3_sortOfWord_19 rfl F
theorem g_X3_isWord {i1 : Nat} {h : zHp} {Q : Int32 → zHp → Prop} (hi1 : i1 < 13) (G : zG h) (F : zcI M_J0_length_8abf5 [.ref (1010 + i1)] h (fun vh1 h1 => zG h1 ∧ (((rI h 141 2) - (rI h 141 4) = vh1 → (zlI M_X3_isWord 20 [some (.ref 141), some (.ref (1010 + i1)), some (.int 0)] [] h1 Q)) ∧ (¬ ((rI h 141 2) - (rI h 141 4) = vh1) → (Q 0 h1))))) : zcI M_X3_isWord [.ref 141, .ref (1010 + i1)] h Q := by
  show zw zNT zNT M_X3_isWord 0 [some (.ref 141), some (.ref (1010 + i1)), none] [] h _
  refine z_aload_n (pc := 0) dX3_isWord_0 rfl rfl ?_
  refine q_getI (pc := 1) (v := rI h 141 2) dX3_isWord_1 lk_RX3_26 (lyc rfl) rfl ?_
  refine z_aload_n (pc := 4) dX3_isWord_4 rfl rfl ?_
  refine q_getI (pc := 5) (v := rI h 141 4) dX3_isWord_5 lk_RX3_45 (lyc rfl) rfl ?_
  refine z_isub (pc := 8) dX3_isWord_8 ?_
  refine z_aload_n (pc := 9) dX3_isWord_9 rfl rfl ?_
  refine q_invVS (pc := 10) (i := i1) (As := []) (st := [.int ((rI h 141 2) - (rI h 141 4))]) dX3_isWord_10 ok_J0_length_8abf5 ms_RX3_90 iv_J0_length_8abf5 pa_J0_length_8abf5 ⟨Nat.le_of_ble_eq_true rfl, Nat.le_of_ble_eq_true rfl⟩ hi1 (q_kI F (fun vh1 h1 F => ?_))
  obtain ⟨G1, F⟩ := F
  refine z_icmp_eq (pc := 13) (tgt := 18) dX3_isWord_13 (by decide) (fun k2 => ?_) (fun k2 => ?_)
  · replace F := F.1 k2
    refine z_iconst (pc := 18) (v := 0) dX3_isWord_18 (by decide) ?_
    refine z_istore_n (pc := 19) (ls' := [some (.ref 141), some (.ref (1010 + i1)), some (.int 0)]) dX3_isWord_19 rfl (by decide) rfl ?_
    exact F
  · replace F := F.2 k2
    refine z_iconst (pc := 16) (v := 0) dX3_isWord_16 (by decide) ?_
    exact q_retB (pc := 17) dX3_isWord_17 rfl (Or.inl rfl) F
theorem g_X3_isWord_20 {i1 : Nat} {x2 : Int32} {h : zHp} {Q : Int32 → zHp → Prop} (hi1 : i1 < 13) (G : zG h) (F : zcI M_J0_length_8abf5 [.ref (1010 + i1)] h (fun vh1 h1 => zG h1 ∧ ((vh1 ≤ x2 → (Q 1 h1)) ∧ (¬ (vh1 ≤ x2) → (zcI M_X3_byteAt [.ref 141, .int ((rI h1 141 4) + x2)] h1 (fun vh2 h2 => zG h2 ∧ (zcI M_J0_charAt_5068e [.ref (1010 + i1), .int x2] h2 (fun vh3 h3 => zG h3 ∧ ((vh2 = vh3 → (zlI M_X3_isWord 20 [some (.ref 141), some (.ref (1010 + i1)), some (.int (x2 + 1))] [] h3 Q)) ∧ (¬ (vh2 = vh3) → (Q 0 h3))))))))))) : zlI M_X3_isWord 20 [some (.ref 141), some (.ref (1010 + i1)), some (.int x2)] [] h Q := by
  refine z_iload_n (pc := 20) dX3_isWord_20 rfl rfl ?_
  refine z_aload_n (pc := 21) dX3_isWord_21 rfl rfl ?_
  refine q_invVS (pc := 22) (i := i1) (As := []) (st := [.int x2]) dX3_isWord_22 ok_J0_length_8abf5 ms_RX3_90 iv_J0_length_8abf5 pa_J0_length_8abf5 ⟨Nat.le_of_ble_eq_true rfl, Nat.le_of_ble_eq_true rfl⟩ hi1 (q_kI F (fun vh1 h1 F => ?_))
  obtain ⟨G1, F⟩ := F
  refine z_icmp_ge (pc := 25) (tgt := 54) dX3_isWord_25 (by decide) (fun k5 => ?_) (fun k5 => ?_)
  · replace F := F.1 k5
    refine z_iconst (pc := 54) (v := 1) dX3_isWord_54 (by decide) ?_
    exact q_retB (pc := 55) dX3_isWord_55 rfl (Or.inr rfl) F
  · replace F := F.2 k5
    refine z_aload_n (pc := 28) dX3_isWord_28 rfl rfl ?_
    refine z_aload_n (pc := 29) dX3_isWord_29 rfl rfl ?_
    refine q_getI (pc := 30) (v := rI h1 141 4) dX3_isWord_30 lk_RX3_45 (lyc rfl) rfl ?_
    refine z_iload_n (pc := 33) dX3_isWord_33 rfl rfl ?_
    refine z_iadd (pc := 34) dX3_isWord_34 ?_
    refine q_invV (pc := 35) (As := [.int ((rI h1 141 4) + x2)]) (st := []) dX3_isWord_35 ok_X3_byteAt ml_RX3_94 iv_X3_byteAt pa_X3_byteAt ⟨Nat.le_of_ble_eq_true rfl, Nat.le_of_ble_eq_true rfl⟩ (lyc rfl) (q_kI F (fun vh2 h2 F => ?_))
    obtain ⟨G2, F⟩ := F
    refine z_aload_n (pc := 38) dX3_isWord_38 rfl rfl ?_
    refine z_iload_n (pc := 39) dX3_isWord_39 rfl rfl ?_
    refine q_invVS (pc := 40) (i := i1) (As := [.int x2]) (st := [.int vh2]) dX3_isWord_40 ok_J0_charAt_5068e ms_RX3_97 iv_J0_charAt_5068e pa_J0_charAt_5068e ⟨Nat.le_of_ble_eq_true rfl, Nat.le_of_ble_eq_true rfl⟩ hi1 (q_kI F (fun vh3 h3 F => ?_))
    obtain ⟨G3, F⟩ := F
    refine z_icmp_eq (pc := 43) (tgt := 48) dX3_isWord_43 (by decide) (fun k4 => ?_) (fun k4 => ?_)
    · replace F := F.1 k4
      refine z_iinc (pc := 48) (v := x2 + 1) (ls' := [some (.ref 141), some (.ref (1010 + i1)), some (.int (x2 + 1))]) dX3_isWord_48 (by decide) rfl rfl rfl ?_
      refine z_goto (pc := 51) (tgt := 20) dX3_isWord_51 (by decide) ?_
      exact F
    · replace F := F.2 k4
      refine z_iconst (pc := 46) (v := 0) dX3_isWord_46 (by decide) ?_
      exact q_retB (pc := 47) dX3_isWord_47 rfl (Or.inl rfl) F
theorem g_X3_byteAt {x1 : Int32} {h : zHp} {Q : Int32 → zHp → Prop}  (G : zG h) (F : (x1 < 0 → (Q 0 h)) ∧ (¬ (x1 < 0) → ((rI h 141 1 ≤ x1 → (Q 0 h)) ∧ (¬ (rI h 141 1 ≤ x1) → ((120 ≤ x1 → (Q 0 h)) ∧ (¬ (120 ≤ x1) → (vp_in x1 120 ∧ (Q (rI h 142 ((Int32.toNatClampNeg x1))) h)))))))) : zcI M_X3_byteAt [.ref 141, .int x1] h Q := by
  show zw zNT zNT M_X3_byteAt 0 [some (.ref 141), some (.int x1)] [] h _
  refine z_iload_n (pc := 0) dX3_byteAt_0 rfl rfl ?_
  refine z_if_lt (pc := 1) (tgt := 27) dX3_byteAt_1 (by decide) (fun k4 => ?_) (fun k4 => ?_)
  · replace F := F.1 k4
    refine z_iconst (pc := 27) (v := 0) dX3_byteAt_27 (by decide) ?_
    exact q_retI (pc := 28) dX3_byteAt_28 rfl F
  · replace F := F.2 k4
    refine z_iload_n (pc := 4) dX3_byteAt_4 rfl rfl ?_
    refine z_aload_n (pc := 5) dX3_byteAt_5 rfl rfl ?_
    refine q_getI (pc := 6) (v := rI h 141 1) dX3_byteAt_6 lk_RX3_22 (lyc rfl) rfl ?_
    refine z_icmp_ge (pc := 9) (tgt := 27) dX3_byteAt_9 (by decide) (fun k3 => ?_) (fun k3 => ?_)
    · replace F := F.1 k3
      refine z_iconst (pc := 27) (v := 0) dX3_byteAt_27 (by decide) ?_
      exact q_retI (pc := 28) dX3_byteAt_28 rfl F
    · replace F := F.2 k3
      refine z_iload_n (pc := 12) dX3_byteAt_12 rfl rfl ?_
      refine z_bipush (pc := 13) (v := 120) dX3_byteAt_13 (by decide) ?_
      refine z_icmp_ge (pc := 15) (tgt := 27) dX3_byteAt_15 (by decide) (fun k2 => ?_) (fun k2 => ?_)
      · replace F := F.1 k2
        refine z_iconst (pc := 27) (v := 0) dX3_byteAt_27 (by decide) ?_
        exact q_retI (pc := 28) dX3_byteAt_28 rfl F
      · replace F := F.2 k2
        refine z_aload_n (pc := 18) dX3_byteAt_18 rfl rfl ?_
        refine q_getR (pc := 19) (i := 142) dX3_byteAt_19 lk_RX3_9 (lyc rfl) (G 141 0 142 rfl) ?_
        refine z_iload_n (pc := 22) dX3_byteAt_22 rfl rfl ?_
        obtain ⟨k1, F⟩ := F
        refine q_bald (pc := 23) (j := (Int32.toNatClampNeg x1)) (v := rI h 142 ((Int32.toNatClampNeg x1))) dX3_byteAt_23 (lyc rfl) (zvn (lnc rfl) k1) rfl rfl ?_
        refine z_goto (pc := 24) (tgt := 28) dX3_byteAt_24 (by decide) ?_
        exact q_retI (pc := 28) dX3_byteAt_28 rfl F
theorem g_X3_advance  {h : zHp} {Q : zHp → Prop}  (G : zG h) (F : (rI h 141 1 ≤ rI h 141 2 → (zlV M_X3_advance 37 [some (.ref 141), none] [] h Q)) ∧ (¬ (rI h 141 1 ≤ rI h 141 2) → (zcI M_X3_byteAt [.ref 141, .int (rI h 141 2)] h (fun vh1 h1 => zG h1 ∧ ((¬ vh1 = 32 → (zlV M_X3_advance 37 [some (.ref 141), none] [] h1 Q)) ∧ (vh1 = 32 → (zlV M_X3_advance 0 [some (.ref 141), none] [] (wI h1 141 2 ((rI h1 141 2) + 1)) Q))))))) : zcV M_X3_advance [.ref 141] h Q := by
  show zw zNT zNT M_X3_advance 0 [some (.ref 141), none] [] h _
  refine z_aload_n (pc := 0) dX3_advance_0 rfl rfl ?_
  refine q_getI (pc := 1) (v := rI h 141 2) dX3_advance_1 lk_RX3_26 (lyc rfl) rfl ?_
  refine z_aload_n (pc := 4) dX3_advance_4 rfl rfl ?_
  refine q_getI (pc := 5) (v := rI h 141 1) dX3_advance_5 lk_RX3_22 (lyc rfl) rfl ?_
  refine z_icmp_ge (pc := 8) (tgt := 37) dX3_advance_8 (by decide) (fun k3 => ?_) (fun k3 => ?_)
  · replace F := F.1 k3
    exact F
  · replace F := F.2 k3
    refine z_aload_n (pc := 11) dX3_advance_11 rfl rfl ?_
    refine z_aload_n (pc := 12) dX3_advance_12 rfl rfl ?_
    refine q_getI (pc := 13) (v := rI h 141 2) dX3_advance_13 lk_RX3_26 (lyc rfl) rfl ?_
    refine q_invV (pc := 16) (As := [.int (rI h 141 2)]) (st := []) dX3_advance_16 ok_X3_byteAt ml_RX3_94 iv_X3_byteAt pa_X3_byteAt ⟨Nat.le_of_ble_eq_true rfl, Nat.le_of_ble_eq_true rfl⟩ (lyc rfl) (q_kI F (fun vh1 h1 F => ?_))
    obtain ⟨G1, F⟩ := F
    refine z_bipush (pc := 19) (v := 32) dX3_advance_19 (by decide) ?_
    refine z_icmp_ne (pc := 21) (tgt := 37) dX3_advance_21 (by decide) (fun k2 => ?_) (fun k2 => ?_)
    · replace F := F.1 k2
      exact F
    · replace F := F.2 k2
      refine z_aload_n (pc := 24) dX3_advance_24 rfl rfl ?_
      refine z_dup (pc := 25) dX3_advance_25 rfl ?_
      refine q_getI (pc := 26) (v := rI h1 141 2) dX3_advance_26 lk_RX3_26 (lyc rfl) rfl ?_
      refine z_iconst (pc := 29) (v := 1) dX3_advance_29 (by decide) ?_
      refine z_iadd (pc := 30) dX3_advance_30 ?_
      refine q_putI (pc := 31) dX3_advance_31 lk_RX3_26 (lyc rfl) ?_
      refine z_goto (pc := 34) (tgt := 0) dX3_advance_34 (by decide) ?_
      exact F
theorem g_X3_advance_37  {h : zHp} {Q : zHp → Prop}  (G : zG h) (F : (rI h 141 1 ≤ rI h 141 2 → (zlV M_X3_advance 72 [some (.ref 141), none] [.int 0, .ref 141] (wI h 141 4 (rI h 141 2)) Q)) ∧ (¬ (rI h 141 1 ≤ rI h 141 2) → (zcI M_X3_byteAt [.ref 141, .int (rI h 141 2)] (wI h 141 4 (rI h 141 2)) (fun vh1 h1 => zG h1 ∧ (zcI M_X3_kindOf [.int vh1] h1 (fun vh2 h2 => zG h2 ∧ (zlV M_X3_advance 72 [some (.ref 141), none] [.int vh2, .ref 141] h2 Q))))))) : zlV M_X3_advance 37 [some (.ref 141), none] [] h Q := by
  refine z_aload_n (pc := 37) dX3_advance_37 rfl rfl ?_
  refine z_aload_n (pc := 38) dX3_advance_38 rfl rfl ?_
  refine q_getI (pc := 39) (v := rI h 141 2) dX3_advance_39 lk_RX3_26 (lyc rfl) rfl ?_
  refine q_putI (pc := 42) dX3_advance_42 lk_RX3_45 (lyc rfl) ?_
  refine z_aload_n (pc := 45) dX3_advance_45 rfl rfl ?_
  refine z_aload_n (pc := 46) dX3_advance_46 rfl rfl ?_
  refine q_getI (pc := 47) (v := rI h 141 2) dX3_advance_47 lk_RX3_26 (lyc rfl) (rI_k (by decide)) ?_
  refine z_aload_n (pc := 50) dX3_advance_50 rfl rfl ?_
  refine q_getI (pc := 51) (v := rI h 141 1) dX3_advance_51 lk_RX3_22 (lyc rfl) (rI_k (by decide)) ?_
  refine z_icmp_ge (pc := 54) (tgt := 71) dX3_advance_54 (by decide) (fun k3 => ?_) (fun k3 => ?_)
  · replace F := F.1 k3
    refine z_iconst (pc := 71) (v := 0) dX3_advance_71 (by decide) ?_
    exact F
  · replace F := F.2 k3
    refine z_aload_n (pc := 57) dX3_advance_57 rfl rfl ?_
    refine z_aload_n (pc := 58) dX3_advance_58 rfl rfl ?_
    refine q_getI (pc := 59) (v := rI h 141 2) dX3_advance_59 lk_RX3_26 (lyc rfl) (rI_k (by decide)) ?_
    refine q_invV (pc := 62) (As := [.int (rI h 141 2)]) (st := [.ref 141]) dX3_advance_62 ok_X3_byteAt ml_RX3_94 iv_X3_byteAt pa_X3_byteAt ⟨Nat.le_of_ble_eq_true rfl, Nat.le_of_ble_eq_true rfl⟩ (lyc rfl) (q_kI F (fun vh1 h1 F => ?_))
    obtain ⟨G1, F⟩ := F
    refine q_invS (pc := 65) (As := [.int vh1]) (st := [.ref 141]) dX3_advance_65 ok_X3_kindOf ml_RX3_101 st_X3_kindOf pa_X3_kindOf ⟨Nat.le_of_ble_eq_true rfl, Nat.le_of_ble_eq_true rfl⟩ (q_kI F (fun vh2 h2 F => ?_))
    obtain ⟨G2, F⟩ := F
    refine z_goto (pc := 68) (tgt := 72) dX3_advance_68 (by decide) ?_
    exact F
theorem g_X3_advance_72 {xs1 : Int32} {h : zHp} {Q : zHp → Prop}  (G : zG h) (F : (xs1 = 0 → (zlV M_X3_advance 93 [some (.ref 141), some (.int 0)] [] (wI (wI h 141 3 xs1) 141 5 0) Q)) ∧ (¬ (xs1 = 0) → (zlV M_X3_advance 93 [some (.ref 141), some (.int 1)] [] (wI (wI h 141 3 xs1) 141 5 0) Q))) : zlV M_X3_advance 72 [some (.ref 141), none] [.int xs1, .ref 141] h Q := by
  refine q_putI (pc := 72) dX3_advance_72 lk_RX3_42 (lyc rfl) ?_
  refine z_aload_n (pc := 75) dX3_advance_75 rfl rfl ?_
  refine z_iconst (pc := 76) (v := 0) dX3_advance_76 (by decide) ?_
  refine q_putI (pc := 77) dX3_advance_77 lk_RX3_76 (lyc rfl) ?_
  refine z_aload_n (pc := 80) dX3_advance_80 rfl rfl ?_
  refine q_getI (pc := 81) (v := xs1) dX3_advance_81 lk_RX3_42 (lyc rfl) ((rI_k (by decide)).trans rI_s) ?_
  refine z_if_eq (pc := 84) (tgt := 91) dX3_advance_84 (by decide) (fun k1 => ?_) (fun k1 => ?_)
  · replace F := F.1 k1
    refine z_iconst (pc := 91) (v := 0) dX3_advance_91 (by decide) ?_
    refine z_istore_n (pc := 92) (ls' := [some (.ref 141), some (.int 0)]) dX3_advance_92 rfl (by decide) rfl ?_
    exact F
  · replace F := F.2 k1
    refine z_iconst (pc := 87) (v := 1) dX3_advance_87 (by decide) ?_
    refine z_goto (pc := 88) (tgt := 92) dX3_advance_88 (by decide) ?_
    refine z_istore_n (pc := 92) (ls' := [some (.ref 141), some (.int 1)]) dX3_advance_92 rfl (by decide) rfl ?_
    exact F
theorem g_X3_advance_93 {x1 : Int32} {h : zHp} {Q : zHp → Prop}  (G : zG h) (F : (x1 = 0 → (Q h)) ∧ (¬ (x1 = 0) → ((rI h 141 1 ≤ rI h 141 2 → (Q h)) ∧ (¬ (rI h 141 1 ≤ rI h 141 2) → ((¬ rI h 141 3 = 2 → (zlV M_X3_advance 144 [some (.ref 141), some (.int x1)] [] h Q)) ∧ (rI h 141 3 = 2 → (zcI M_X3_byteAt [.ref 141, .int (rI h 141 2)] h (fun vh1 h1 => zG h1 ∧ (zlV M_X3_advance 144 [some (.ref 141), some (.int x1)] [] (wI h1 141 5 (if (((rI h 141 5) * 10) + vh1) - 48 < (10 : Int32) then (((rI h 141 5) * 10) + vh1) - 48 else 10)) Q))))))))) : zlV M_X3_advance 93 [some (.ref 141), some (.int x1)] [] h Q := by
  refine z_iload_n (pc := 93) dX3_advance_93 rfl rfl ?_
  refine z_if_eq (pc := 94) (tgt := 197) dX3_advance_94 (by decide) (fun k4 => ?_) (fun k4 => ?_)
  · replace F := F.1 k4
    exact q_retV (pc := 197) dX3_advance_197 rfl F
  · replace F := F.2 k4
    refine z_aload_n (pc := 97) dX3_advance_97 rfl rfl ?_
    refine q_getI (pc := 98) (v := rI h 141 2) dX3_advance_98 lk_RX3_26 (lyc rfl) rfl ?_
    refine z_aload_n (pc := 101) dX3_advance_101 rfl rfl ?_
    refine q_getI (pc := 102) (v := rI h 141 1) dX3_advance_102 lk_RX3_22 (lyc rfl) rfl ?_
    refine z_icmp_ge (pc := 105) (tgt := 197) dX3_advance_105 (by decide) (fun k3 => ?_) (fun k3 => ?_)
    · replace F := F.1 k3
      exact q_retV (pc := 197) dX3_advance_197 rfl F
    · replace F := F.2 k3
      refine z_aload_n (pc := 108) dX3_advance_108 rfl rfl ?_
      refine q_getI (pc := 109) (v := rI h 141 3) dX3_advance_109 lk_RX3_42 (lyc rfl) rfl ?_
      refine z_iconst (pc := 112) (v := 2) dX3_advance_112 (by decide) ?_
      refine z_icmp_ne (pc := 113) (tgt := 144) dX3_advance_113 (by decide) (fun k2 => ?_) (fun k2 => ?_)
      · replace F := F.1 k2
        exact F
      · replace F := F.2 k2
        refine z_aload_n (pc := 116) dX3_advance_116 rfl rfl ?_
        refine z_bipush (pc := 117) (v := 10) dX3_advance_117 (by decide) ?_
        refine z_aload_n (pc := 119) dX3_advance_119 rfl rfl ?_
        refine q_getI (pc := 120) (v := rI h 141 5) dX3_advance_120 lk_RX3_76 (lyc rfl) rfl ?_
        refine z_bipush (pc := 123) (v := 10) dX3_advance_123 (by decide) ?_
        refine z_imul (pc := 125) dX3_advance_125 ?_
        refine z_aload_n (pc := 126) dX3_advance_126 rfl rfl ?_
        refine z_aload_n (pc := 127) dX3_advance_127 rfl rfl ?_
        refine q_getI (pc := 128) (v := rI h 141 2) dX3_advance_128 lk_RX3_26 (lyc rfl) rfl ?_
        refine q_invV (pc := 131) (As := [.int (rI h 141 2)]) (st := [.int ((rI h 141 5) * 10), .int 10, .ref 141]) dX3_advance_131 ok_X3_byteAt ml_RX3_94 iv_X3_byteAt pa_X3_byteAt ⟨Nat.le_of_ble_eq_true rfl, Nat.le_of_ble_eq_true rfl⟩ (lyc rfl) (q_kI F (fun vh1 h1 F => ?_))
        obtain ⟨G1, F⟩ := F
        refine z_iadd (pc := 134) dX3_advance_134 ?_
        refine z_bipush (pc := 135) (v := 48) dX3_advance_135 (by decide) ?_
        refine z_isub (pc := 137) dX3_advance_137 ?_
        refine z_min (pc := 138) dX3_advance_138 ⟨pl_RX3_104, pw_minS, pw_Math, pw_minC⟩ (zcat_of rfl) ⟨Nat.le_of_ble_eq_true rfl, Nat.le_of_ble_eq_true rfl⟩ ?_
        refine q_putI (pc := 141) dX3_advance_141 lk_RX3_76 (lyc rfl) ?_
        exact F
theorem g_X3_advance_144 {x1 : Int32} {h : zHp} {Q : zHp → Prop}  (G : zG h) (F : (rI h 141 3 = 1 → (zlV M_X3_advance 170 [some (.ref 141), some (.int x1)] [] (wI h 141 2 ((rI h 141 2) + 1)) Q)) ∧ (¬ (rI h 141 3 = 1) → ((¬ rI h 141 3 = 2 → (zlV M_X3_advance 93 [some (.ref 141), some (.int 0)] [] (wI h 141 2 ((rI h 141 2) + 1)) Q)) ∧ (rI h 141 3 = 2 → (zlV M_X3_advance 170 [some (.ref 141), some (.int x1)] [] (wI h 141 2 ((rI h 141 2) + 1)) Q))))) : zlV M_X3_advance 144 [some (.ref 141), some (.int x1)] [] h Q := by
  refine z_aload_n (pc := 144) dX3_advance_144 rfl rfl ?_
  refine z_dup (pc := 145) dX3_advance_145 rfl ?_
  refine q_getI (pc := 146) (v := rI h 141 2) dX3_advance_146 lk_RX3_26 (lyc rfl) rfl ?_
  refine z_iconst (pc := 149) (v := 1) dX3_advance_149 (by decide) ?_
  refine z_iadd (pc := 150) dX3_advance_150 ?_
  refine q_putI (pc := 151) dX3_advance_151 lk_RX3_26 (lyc rfl) ?_
  refine z_aload_n (pc := 154) dX3_advance_154 rfl rfl ?_
  refine q_getI (pc := 155) (v := rI h 141 3) dX3_advance_155 lk_RX3_42 (lyc rfl) (rI_k (by decide)) ?_
  refine z_iconst (pc := 158) (v := 1) dX3_advance_158 (by decide) ?_
  refine z_icmp_eq (pc := 159) (tgt := 170) dX3_advance_159 (by decide) (fun k2 => ?_) (fun k2 => ?_)
  · replace F := F.1 k2
    exact F
  · replace F := F.2 k2
    refine z_aload_n (pc := 162) dX3_advance_162 rfl rfl ?_
    refine q_getI (pc := 163) (v := rI h 141 3) dX3_advance_163 lk_RX3_42 (lyc rfl) (rI_k (by decide)) ?_
    refine z_iconst (pc := 166) (v := 2) dX3_advance_166 (by decide) ?_
    refine z_icmp_ne (pc := 167) (tgt := 192) dX3_advance_167 (by decide) (fun k1 => ?_) (fun k1 => ?_)
    · replace F := F.1 k1
      refine z_iconst (pc := 192) (v := 0) dX3_advance_192 (by decide) ?_
      refine z_istore_n (pc := 193) (ls' := [some (.ref 141), some (.int 0)]) dX3_advance_193 rfl (by decide) rfl ?_
      refine z_goto (pc := 194) (tgt := 93) dX3_advance_194 (by decide) ?_
      exact F
    · replace F := F.2 k1
      exact F
theorem g_X3_advance_170 {x1 : Int32} {h : zHp} {Q : zHp → Prop}  (G : zG h) (F : zcI M_X3_byteAt [.ref 141, .int (rI h 141 2)] h (fun vh1 h1 => zG h1 ∧ (zcI M_X3_kindOf [.int vh1] h1 (fun vh2 h2 => zG h2 ∧ ((¬ vh2 = rI h2 141 3 → (zlV M_X3_advance 93 [some (.ref 141), some (.int 0)] [] h2 Q)) ∧ (vh2 = rI h2 141 3 → (zlV M_X3_advance 93 [some (.ref 141), some (.int 1)] [] h2 Q))))))) : zlV M_X3_advance 170 [some (.ref 141), some (.int x1)] [] h Q := by
  refine z_aload_n (pc := 170) dX3_advance_170 rfl rfl ?_
  refine z_aload_n (pc := 171) dX3_advance_171 rfl rfl ?_
  refine q_getI (pc := 172) (v := rI h 141 2) dX3_advance_172 lk_RX3_26 (lyc rfl) rfl ?_
  refine q_invV (pc := 175) (As := [.int (rI h 141 2)]) (st := []) dX3_advance_175 ok_X3_byteAt ml_RX3_94 iv_X3_byteAt pa_X3_byteAt ⟨Nat.le_of_ble_eq_true rfl, Nat.le_of_ble_eq_true rfl⟩ (lyc rfl) (q_kI F (fun vh1 h1 F => ?_))
  obtain ⟨G1, F⟩ := F
  refine q_invS (pc := 178) (As := [.int vh1]) (st := []) dX3_advance_178 ok_X3_kindOf ml_RX3_101 st_X3_kindOf pa_X3_kindOf ⟨Nat.le_of_ble_eq_true rfl, Nat.le_of_ble_eq_true rfl⟩ (q_kI F (fun vh2 h2 F => ?_))
  obtain ⟨G2, F⟩ := F
  refine z_aload_n (pc := 181) dX3_advance_181 rfl rfl ?_
  refine q_getI (pc := 182) (v := rI h2 141 3) dX3_advance_182 lk_RX3_42 (lyc rfl) rfl ?_
  refine z_icmp_ne (pc := 185) (tgt := 192) dX3_advance_185 (by decide) (fun k3 => ?_) (fun k3 => ?_)
  · replace F := F.1 k3
    refine z_iconst (pc := 192) (v := 0) dX3_advance_192 (by decide) ?_
    refine z_istore_n (pc := 193) (ls' := [some (.ref 141), some (.int 0)]) dX3_advance_193 rfl (by decide) rfl ?_
    refine z_goto (pc := 194) (tgt := 93) dX3_advance_194 (by decide) ?_
    exact F
  · replace F := F.2 k3
    refine z_iconst (pc := 188) (v := 1) dX3_advance_188 (by decide) ?_
    refine z_goto (pc := 189) (tgt := 193) dX3_advance_189 (by decide) ?_
    refine z_istore_n (pc := 193) (ls' := [some (.ref 141), some (.int 1)]) dX3_advance_193 rfl (by decide) rfl ?_
    refine z_goto (pc := 194) (tgt := 93) dX3_advance_194 (by decide) ?_
    exact F
theorem g_X3_kindOf {x0 : Int32} {h : zHp} {Q : Int32 → zHp → Prop}  (G : zG h) (F : (x0 < 97 → ((x0 < 48 → (zlI M_X3_kindOf 28 [some (.int x0)] [] h Q)) ∧ (¬ (x0 < 48) → ((57 < x0 → (zlI M_X3_kindOf 28 [some (.int x0)] [] h Q)) ∧ (¬ (57 < x0) → (Q 2 h)))))) ∧ (¬ (x0 < 97) → ((122 < x0 → ((x0 < 48 → (zlI M_X3_kindOf 28 [some (.int x0)] [] h Q)) ∧ (¬ (x0 < 48) → ((57 < x0 → (zlI M_X3_kindOf 28 [some (.int x0)] [] h Q)) ∧ (¬ (57 < x0) → (Q 2 h)))))) ∧ (¬ (122 < x0) → (Q 1 h))))) : zcI M_X3_kindOf [.int x0] h Q := by
  show zw zNT zNT M_X3_kindOf 0 [some (.int x0)] [] h _
  refine z_iload_n (pc := 0) dX3_kindOf_0 rfl rfl ?_
  refine z_bipush (pc := 1) (v := 97) dX3_kindOf_1 (by decide) ?_
  refine z_icmp_lt (pc := 3) (tgt := 14) dX3_kindOf_3 (by decide) (fun k6 => ?_) (fun k6 => ?_)
  · replace F := F.1 k6
    refine z_iload_n (pc := 14) dX3_kindOf_14 rfl rfl ?_
    refine z_bipush (pc := 15) (v := 48) dX3_kindOf_15 (by decide) ?_
    refine z_icmp_lt (pc := 17) (tgt := 28) dX3_kindOf_17 (by decide) (fun k2 => ?_) (fun k2 => ?_)
    · replace F := F.1 k2
      exact F
    · replace F := F.2 k2
      refine z_iload_n (pc := 20) dX3_kindOf_20 rfl rfl ?_
      refine z_bipush (pc := 21) (v := 57) dX3_kindOf_21 (by decide) ?_
      refine z_icmp_gt (pc := 23) (tgt := 28) dX3_kindOf_23 (by decide) (fun k1 => ?_) (fun k1 => ?_)
      · replace F := F.1 k1
        exact F
      · replace F := F.2 k1
        refine z_iconst (pc := 26) (v := 2) dX3_kindOf_26 (by decide) ?_
        exact q_retI (pc := 27) dX3_kindOf_27 rfl F
  · replace F := F.2 k6
    refine z_iload_n (pc := 6) dX3_kindOf_6 rfl rfl ?_
    refine z_bipush (pc := 7) (v := 122) dX3_kindOf_7 (by decide) ?_
    refine z_icmp_gt (pc := 9) (tgt := 14) dX3_kindOf_9 (by decide) (fun k5 => ?_) (fun k5 => ?_)
    · replace F := F.1 k5
      refine z_iload_n (pc := 14) dX3_kindOf_14 rfl rfl ?_
      refine z_bipush (pc := 15) (v := 48) dX3_kindOf_15 (by decide) ?_
      refine z_icmp_lt (pc := 17) (tgt := 28) dX3_kindOf_17 (by decide) (fun k4 => ?_) (fun k4 => ?_)
      · replace F := F.1 k4
        exact F
      · replace F := F.2 k4
        refine z_iload_n (pc := 20) dX3_kindOf_20 rfl rfl ?_
        refine z_bipush (pc := 21) (v := 57) dX3_kindOf_21 (by decide) ?_
        refine z_icmp_gt (pc := 23) (tgt := 28) dX3_kindOf_23 (by decide) (fun k3 => ?_) (fun k3 => ?_)
        · replace F := F.1 k3
          exact F
        · replace F := F.2 k3
          refine z_iconst (pc := 26) (v := 2) dX3_kindOf_26 (by decide) ?_
          exact q_retI (pc := 27) dX3_kindOf_27 rfl F
    · replace F := F.2 k5
      refine z_iconst (pc := 12) (v := 1) dX3_kindOf_12 (by decide) ?_
      exact q_retI (pc := 13) dX3_kindOf_13 rfl F
theorem g_X3_kindOf_28 {x0 : Int32} {h : zHp} {Q : Int32 → zHp → Prop}  (G : zG h) (F : (¬ x0 = 59 → ((¬ x0 = 45 → (Q 5 h)) ∧ (x0 = 45 → (Q 4 h)))) ∧ (x0 = 59 → (Q 3 h))) : zlI M_X3_kindOf 28 [some (.int x0)] [] h Q := by
  refine z_iload_n (pc := 28) dX3_kindOf_28 rfl rfl ?_
  refine z_bipush (pc := 29) (v := 59) dX3_kindOf_29 (by decide) ?_
  refine z_icmp_ne (pc := 31) (tgt := 36) dX3_kindOf_31 (by decide) (fun k2 => ?_) (fun k2 => ?_)
  · replace F := F.1 k2
    refine z_iload_n (pc := 36) dX3_kindOf_36 rfl rfl ?_
    refine z_bipush (pc := 37) (v := 45) dX3_kindOf_37 (by decide) ?_
    refine z_icmp_ne (pc := 39) (tgt := 46) dX3_kindOf_39 (by decide) (fun k1 => ?_) (fun k1 => ?_)
    · replace F := F.1 k1
      refine z_iconst (pc := 46) (v := 5) dX3_kindOf_46 (by decide) ?_
      exact q_retI (pc := 47) dX3_kindOf_47 rfl F
    · replace F := F.2 k1
      refine z_iconst (pc := 42) (v := 4) dX3_kindOf_42 (by decide) ?_
      refine z_goto (pc := 43) (tgt := 47) dX3_kindOf_43 (by decide) ?_
      exact q_retI (pc := 47) dX3_kindOf_47 rfl F
  · replace F := F.2 k2
    refine z_iconst (pc := 34) (v := 3) dX3_kindOf_34 (by decide) ?_
    exact q_retI (pc := 35) dX3_kindOf_35 rfl F
theorem g_X4_become {c0 : Nat} {x1 : Int32} {x2 : Int32} {x3 : Int32} {x4 : Int32} {h : zHp} {Q : zHp → Prop} (hc0 : ly c0 = 5) (G : zG h) (F : Q (wI (wI (wI (wI h c0 0 x1) c0 1 x2) c0 2 x3) c0 3 x4)) : zcV M_X4_become [.ref c0, .int x1, .int x2, .int x3, .int x4] h Q := by
  show zw zNT zNT M_X4_become 0 [some (.ref c0), some (.int x1), some (.int x2), some (.int x3), some (.int x4)] [] h _
  refine z_aload_n (pc := 0) dX4_become_0 rfl rfl ?_
  refine z_iload_n (pc := 1) dX4_become_1 rfl rfl ?_
  refine q_putI (pc := 2) dX4_become_2 lk_RX4_7 hc0 ?_
  refine z_aload_n (pc := 5) dX4_become_5 rfl rfl ?_
  refine z_iload_n (pc := 6) dX4_become_6 rfl rfl ?_
  refine q_putI (pc := 7) dX4_become_7 lk_RX4_13 hc0 ?_
  refine z_aload_n (pc := 10) dX4_become_10 rfl rfl ?_
  refine z_iload_n (pc := 11) dX4_become_11 rfl rfl ?_
  refine q_putI (pc := 12) dX4_become_12 lk_RX4_16 hc0 ?_
  refine z_aload_n (pc := 15) dX4_become_15 rfl rfl ?_
  refine z_iload (pc := 16) dX4_become_16 rfl ?_
  refine q_putI (pc := 18) dX4_become_18 lk_RX4_19 hc0 ?_
  exact q_retV (pc := 21) dX4_become_21 rfl F
theorem g_X4_copyFrom {c0 : Nat} {c1 : Nat} {h : zHp} {Q : zHp → Prop} (hc0 : ly c0 = 5) (hc1 : ly c1 = 5) (G : zG h) (F : zcV M_X4_become [.ref c0, .int (rI h c1 0), .int (rI h c1 1), .int (rI h c1 2), .int (rI h c1 3)] h (fun h1 => zG h1 ∧ (Q h1))) : zcV M_X4_copyFrom [.ref c0, .ref c1] h Q := by
  show zw zNT zNT M_X4_copyFrom 0 [some (.ref c0), some (.ref c1)] [] h _
  refine z_aload_n (pc := 0) dX4_copyFrom_0 rfl rfl ?_
  refine z_aload_n (pc := 1) dX4_copyFrom_1 rfl rfl ?_
  refine q_getI (pc := 2) (v := rI h c1 0) dX4_copyFrom_2 lk_RX4_7 hc1 rfl ?_
  refine z_aload_n (pc := 5) dX4_copyFrom_5 rfl rfl ?_
  refine q_getI (pc := 6) (v := rI h c1 1) dX4_copyFrom_6 lk_RX4_13 hc1 rfl ?_
  refine z_aload_n (pc := 9) dX4_copyFrom_9 rfl rfl ?_
  refine q_getI (pc := 10) (v := rI h c1 2) dX4_copyFrom_10 lk_RX4_16 hc1 rfl ?_
  refine z_aload_n (pc := 13) dX4_copyFrom_13 rfl rfl ?_
  refine q_getI (pc := 14) (v := rI h c1 3) dX4_copyFrom_14 lk_RX4_19 hc1 rfl ?_
  refine q_invV (pc := 17) (As := [.int (rI h c1 0), .int (rI h c1 1), .int (rI h c1 2), .int (rI h c1 3)]) (st := []) dX4_copyFrom_17 ok_X4_become ml_RX4_22 iv_X4_become pa_X4_become ⟨Nat.le_of_ble_eq_true rfl, Nat.le_of_ble_eq_true rfl⟩ hc0 (q_kV F (fun h1 F => ?_))
  obtain ⟨G1, F⟩ := F
  exact q_retV (pc := 20) dX4_copyFrom_20 rfl F
theorem g_X5_become {c0 : Nat} {x1 : Int32} {x2 : Int32} {h : zHp} {Q : zHp → Prop} (hc0 : zSh c0) (G : zG h) (F : zlV M_X5_become 12 [some (.ref c0), some (.int x1), some (.int x2), some (.int 0)] [] (wI (wI h c0 0 x1) c0 1 x2) Q) : zcV M_X5_become [.ref c0, .int x1, .int x2] h Q := by
  show zw zNT zNT M_X5_become 0 [some (.ref c0), some (.int x1), some (.int x2), none] [] h _
  refine z_aload_n (pc := 0) dX5_become_0 rfl rfl ?_
  refine z_iload_n (pc := 1) dX5_become_1 rfl rfl ?_
  refine q_putI (pc := 2) dX5_become_2 lk_RX5_9 (lySh0 hc0) ?_
  refine z_aload_n (pc := 5) dX5_become_5 rfl rfl ?_
  refine z_iload_n (pc := 6) dX5_become_6 rfl rfl ?_
  refine q_putI (pc := 7) dX5_become_7 lk_RX5_19 (lySh0 hc0) ?_
  refine z_iconst (pc := 10) (v := 0) dX5_become_10 (by decide) ?_
  refine z_istore_n (pc := 11) (ls' := [some (.ref c0), some (.int x1), some (.int x2), some (.int 0)]) dX5_become_11 rfl (by decide) rfl ?_
  exact F
theorem g_X5_become_12 {c0 : Nat} {x1 : Int32} {x2 : Int32} {x3 : Int32} {h : zHp} {Q : zHp → Prop} (hc0 : zSh c0) (G : zG h) (F : (40 ≤ x3 → (Q h)) ∧ (¬ (40 ≤ x3) → (vp_in x3 40 ∧ (zlV M_X5_become 12 [some (.ref c0), some (.int x1), some (.int x2), some (.int (x3 + 1))] [] (wI h (c0 + 1) ((Int32.toNatClampNeg x3)) 0) Q)))) : zlV M_X5_become 12 [some (.ref c0), some (.int x1), some (.int x2), some (.int x3)] [] h Q := by
  refine z_iload_n (pc := 12) dX5_become_12 rfl rfl ?_
  refine z_bipush (pc := 13) (v := 40) dX5_become_13 (by decide) ?_
  refine z_icmp_ge (pc := 15) (tgt := 31) dX5_become_15 (by decide) (fun k2 => ?_) (fun k2 => ?_)
  · replace F := F.1 k2
    exact q_retV (pc := 31) dX5_become_31 rfl F
  · replace F := F.2 k2
    refine z_aload_n (pc := 18) dX5_become_18 rfl rfl ?_
    refine q_getR (pc := 19) (i := c0 + 1) dX5_become_19 lk_RX5_15 (lySh0 hc0) (grSh2 G hc0) ?_
    refine z_iload_n (pc := 22) dX5_become_22 rfl rfl ?_
    refine z_iconst (pc := 23) (v := 0) dX5_become_23 (by decide) ?_
    obtain ⟨k1, F⟩ := F
    refine q_iast (pc := 24) (j := (Int32.toNatClampNeg x3)) dX5_become_24 (lySh1 hc0) (zvn (lnSh1 hc0) k1) rfl ?_
    refine z_iinc (pc := 25) (v := x3 + 1) (ls' := [some (.ref c0), some (.int x1), some (.int x2), some (.int (x3 + 1))]) dX5_become_25 (by decide) rfl rfl rfl ?_
    refine z_goto (pc := 28) (tgt := 12) dX5_become_28 (by decide) ?_
    exact F
theorem g_X5_spans {c0 : Nat} {x1 : Int32} {x2 : Int32} {h : zHp} {Q : Int32 → zHp → Prop} (hc0 : zSh c0) (G : zG h) (F : (x2 < 0 → (Q 0 h)) ∧ (¬ (x2 < 0) → ((rI h c0 1 < x2 → (Q 0 h)) ∧ (¬ (rI h c0 1 < x2) → (zcI M_X10_within [.int x1, .int 0, .int ((rI h c0 1) - x2)] h (fun vh1 h1 => zG h1 ∧ ((vh1 = 0 → (Q 0 h1)) ∧ (¬ (vh1 = 0) → (Q 1 h1))))))))) : zcI M_X5_spans [.ref c0, .int x1, .int x2] h Q := by
  show zw zNT zNT M_X5_spans 0 [some (.ref c0), some (.int x1), some (.int x2)] [] h _
  refine z_iload_n (pc := 0) dX5_spans_0 rfl rfl ?_
  refine z_if_lt (pc := 1) (tgt := 30) dX5_spans_1 (by decide) (fun k4 => ?_) (fun k4 => ?_)
  · replace F := F.1 k4
    refine z_iconst (pc := 30) (v := 0) dX5_spans_30 (by decide) ?_
    exact q_retB (pc := 31) dX5_spans_31 rfl (Or.inl rfl) F
  · replace F := F.2 k4
    refine z_iload_n (pc := 4) dX5_spans_4 rfl rfl ?_
    refine z_aload_n (pc := 5) dX5_spans_5 rfl rfl ?_
    refine q_getI (pc := 6) (v := rI h c0 1) dX5_spans_6 lk_RX5_19 (lySh0 hc0) rfl ?_
    refine z_icmp_gt (pc := 9) (tgt := 30) dX5_spans_9 (by decide) (fun k3 => ?_) (fun k3 => ?_)
    · replace F := F.1 k3
      refine z_iconst (pc := 30) (v := 0) dX5_spans_30 (by decide) ?_
      exact q_retB (pc := 31) dX5_spans_31 rfl (Or.inl rfl) F
    · replace F := F.2 k3
      refine z_iload_n (pc := 12) dX5_spans_12 rfl rfl ?_
      refine z_iconst (pc := 13) (v := 0) dX5_spans_13 (by decide) ?_
      refine z_aload_n (pc := 14) dX5_spans_14 rfl rfl ?_
      refine q_getI (pc := 15) (v := rI h c0 1) dX5_spans_15 lk_RX5_19 (lySh0 hc0) rfl ?_
      refine z_iload_n (pc := 18) dX5_spans_18 rfl rfl ?_
      refine z_isub (pc := 19) dX5_spans_19 ?_
      refine q_invS (pc := 20) (As := [.int x1, .int 0, .int ((rI h c0 1) - x2)]) (st := []) dX5_spans_20 ok_X10_within ml_RX5_22 st_X10_within pa_X10_within ⟨Nat.le_of_ble_eq_true rfl, Nat.le_of_ble_eq_true rfl⟩ (q_kI F (fun vh1 h1 F => ?_))
      obtain ⟨G1, F⟩ := F
      refine z_if_eq (pc := 23) (tgt := 30) dX5_spans_23 (by decide) (fun k2 => ?_) (fun k2 => ?_)
      · replace F := F.1 k2
        refine z_iconst (pc := 30) (v := 0) dX5_spans_30 (by decide) ?_
        exact q_retB (pc := 31) dX5_spans_31 rfl (Or.inl rfl) F
      · replace F := F.2 k2
        refine z_iconst (pc := 26) (v := 1) dX5_spans_26 (by decide) ?_
        refine z_goto (pc := 27) (tgt := 31) dX5_spans_27 (by decide) ?_
        exact q_retB (pc := 31) dX5_spans_31 rfl (Or.inr rfl) F
theorem g_X5_appendText {c0 : Nat} {i1 : Nat} {h : zHp} {Q : zHp → Prop} (hc0 : zSh c0) (hi1 : i1 < 13) (G : zG h) (F : zlV M_X5_appendText 2 [some (.ref c0), some (.ref (1010 + i1)), some (.int 0)] [] h Q) : zcV M_X5_appendText [.ref c0, .ref (1010 + i1)] h Q := by
  show zw zNT zNT M_X5_appendText 0 [some (.ref c0), some (.ref (1010 + i1)), none] [] h _
  refine z_iconst (pc := 0) (v := 0) dX5_appendText_0 (by decide) ?_
  refine z_istore_n (pc := 1) (ls' := [some (.ref c0), some (.ref (1010 + i1)), some (.int 0)]) dX5_appendText_1 rfl (by decide) rfl ?_
  exact F
theorem g_X5_appendText_2 {c0 : Nat} {i1 : Nat} {x2 : Int32} {h : zHp} {Q : zHp → Prop} (hc0 : zSh c0) (hi1 : i1 < 13) (G : zG h) (F : zcI M_J0_length_8abf5 [.ref (1010 + i1)] h (fun vh1 h1 => zG h1 ∧ ((vh1 ≤ x2 → (Q h1)) ∧ (¬ (vh1 ≤ x2) → (zcI M_J0_charAt_5068e [.ref (1010 + i1), .int x2] h1 (fun vh2 h2 => zG h2 ∧ (zcV M_X5_appendSign [.ref c0, .int vh2] h2 (fun h3 => zG h3 ∧ (zlV M_X5_appendText 2 [some (.ref c0), some (.ref (1010 + i1)), some (.int (x2 + 1))] [] h3 Q))))))))) : zlV M_X5_appendText 2 [some (.ref c0), some (.ref (1010 + i1)), some (.int x2)] [] h Q := by
  refine z_iload_n (pc := 2) dX5_appendText_2 rfl rfl ?_
  refine z_aload_n (pc := 3) dX5_appendText_3 rfl rfl ?_
  refine q_invVS (pc := 4) (i := i1) (As := []) (st := [.int x2]) dX5_appendText_4 ok_J0_length_8abf5 ms_RX5_26 iv_J0_length_8abf5 pa_J0_length_8abf5 ⟨Nat.le_of_ble_eq_true rfl, Nat.le_of_ble_eq_true rfl⟩ hi1 (q_kI F (fun vh1 h1 F => ?_))
  obtain ⟨G1, F⟩ := F
  refine z_icmp_ge (pc := 7) (tgt := 25) dX5_appendText_7 (by decide) (fun k4 => ?_) (fun k4 => ?_)
  · replace F := F.1 k4
    exact q_retV (pc := 25) dX5_appendText_25 rfl F
  · replace F := F.2 k4
    refine z_aload_n (pc := 10) dX5_appendText_10 rfl rfl ?_
    refine z_aload_n (pc := 11) dX5_appendText_11 rfl rfl ?_
    refine z_iload_n (pc := 12) dX5_appendText_12 rfl rfl ?_
    refine q_invVS (pc := 13) (i := i1) (As := [.int x2]) (st := [.ref c0]) dX5_appendText_13 ok_J0_charAt_5068e ms_RX5_31 iv_J0_charAt_5068e pa_J0_charAt_5068e ⟨Nat.le_of_ble_eq_true rfl, Nat.le_of_ble_eq_true rfl⟩ hi1 (q_kI F (fun vh2 h2 F => ?_))
    obtain ⟨G2, F⟩ := F
    refine q_invV (pc := 16) (As := [.int vh2]) (st := []) dX5_appendText_16 ok_X5_appendSign ml_RX5_35 iv_X5_appendSign pa_X5_appendSign ⟨Nat.le_of_ble_eq_true rfl, Nat.le_of_ble_eq_true rfl⟩ (lySh0 hc0) (q_kV F (fun h3 F => ?_))
    obtain ⟨G3, F⟩ := F
    refine z_iinc (pc := 19) (v := x2 + 1) (ls' := [some (.ref c0), some (.ref (1010 + i1)), some (.int (x2 + 1))]) dX5_appendText_19 (by decide) rfl rfl rfl ?_
    refine z_goto (pc := 22) (tgt := 2) dX5_appendText_22 (by decide) ?_
    exact F
theorem g_X5_appendValue {c0 : Nat} {x1 : Int32} {h : zHp} {Q : zHp → Prop} (hc0 : zSh c0) (G : zG h) (F : zcV M_X5_appendSign [.ref c0, .int 32] h (fun h1 => zG h1 ∧ ((0 ≤ x1 → (zcV M_X5_appendSign [.ref c0, .int ((Int32.toUInt32 (48 + (if 0 ≤ x1 then x1 else 0 - x1)) % 65536).toInt32)] h1 (fun h2 => zG h2 ∧ (Q h2)))) ∧ (¬ (0 ≤ x1) → (zcV M_X5_appendSign [.ref c0, .int 45] h1 (fun h3 => zG h3 ∧ (zcV M_X5_appendSign [.ref c0, .int ((Int32.toUInt32 (48 + (if 0 ≤ x1 then x1 else 0 - x1)) % 65536).toInt32)] h3 (fun h4 => zG h4 ∧ (Q h4))))))))) : zcV M_X5_appendValue [.ref c0, .int x1] h Q := by
  show zw zNT zNT M_X5_appendValue 0 [some (.ref c0), some (.int x1)] [] h _
  refine z_aload_n (pc := 0) dX5_appendValue_0 rfl rfl ?_
  refine z_bipush (pc := 1) (v := 32) dX5_appendValue_1 (by decide) ?_
  refine q_invV (pc := 3) (As := [.int 32]) (st := []) dX5_appendValue_3 ok_X5_appendSign ml_RX5_35 iv_X5_appendSign pa_X5_appendSign ⟨Nat.le_of_ble_eq_true rfl, Nat.le_of_ble_eq_true rfl⟩ (lySh0 hc0) (q_kV F (fun h1 F => ?_))
  obtain ⟨G1, F⟩ := F
  refine z_iload_n (pc := 6) dX5_appendValue_6 rfl rfl ?_
  refine z_if_ge (pc := 7) (tgt := 16) dX5_appendValue_7 (by decide) (fun k5 => ?_) (fun k5 => ?_)
  · replace F := F.1 k5
    refine z_aload_n (pc := 16) dX5_appendValue_16 rfl rfl ?_
    refine z_bipush (pc := 17) (v := 48) dX5_appendValue_17 (by decide) ?_
    refine z_iload_n (pc := 19) dX5_appendValue_19 rfl rfl ?_
    refine z_abs (pc := 20) dX5_appendValue_20 ⟨pl_RX5_39, pw_absS, pw_Math, pw_absC⟩ (zcat_of rfl) ⟨Nat.le_of_ble_eq_true rfl, Nat.le_of_ble_eq_true rfl⟩ ?_
    refine z_iadd (pc := 23) dX5_appendValue_23 ?_
    refine z_i2c (pc := 24) dX5_appendValue_24 ?_
    refine q_invV (pc := 25) (As := [.int ((Int32.toUInt32 (48 + (if 0 ≤ x1 then x1 else 0 - x1)) % 65536).toInt32)]) (st := []) dX5_appendValue_25 ok_X5_appendSign ml_RX5_35 iv_X5_appendSign pa_X5_appendSign ⟨Nat.le_of_ble_eq_true rfl, Nat.le_of_ble_eq_true rfl⟩ (lySh0 hc0) (q_kV F (fun h2 F => ?_))
    obtain ⟨G2, F⟩ := F
    exact q_retV (pc := 28) dX5_appendValue_28 rfl F
  · replace F := F.2 k5
    refine z_aload_n (pc := 10) dX5_appendValue_10 rfl rfl ?_
    refine z_bipush (pc := 11) (v := 45) dX5_appendValue_11 (by decide) ?_
    refine q_invV (pc := 13) (As := [.int 45]) (st := []) dX5_appendValue_13 ok_X5_appendSign ml_RX5_35 iv_X5_appendSign pa_X5_appendSign ⟨Nat.le_of_ble_eq_true rfl, Nat.le_of_ble_eq_true rfl⟩ (lySh0 hc0) (q_kV F (fun h3 F => ?_))
    obtain ⟨G3, F⟩ := F
    refine z_aload_n (pc := 16) dX5_appendValue_16 rfl rfl ?_
    refine z_bipush (pc := 17) (v := 48) dX5_appendValue_17 (by decide) ?_
    refine z_iload_n (pc := 19) dX5_appendValue_19 rfl rfl ?_
    refine z_abs (pc := 20) dX5_appendValue_20 ⟨pl_RX5_39, pw_absS, pw_Math, pw_absC⟩ (zcat_of rfl) ⟨Nat.le_of_ble_eq_true rfl, Nat.le_of_ble_eq_true rfl⟩ ?_
    refine z_iadd (pc := 23) dX5_appendValue_23 ?_
    refine z_i2c (pc := 24) dX5_appendValue_24 ?_
    refine q_invV (pc := 25) (As := [.int ((Int32.toUInt32 (48 + (if 0 ≤ x1 then x1 else 0 - x1)) % 65536).toInt32)]) (st := []) dX5_appendValue_25 ok_X5_appendSign ml_RX5_35 iv_X5_appendSign pa_X5_appendSign ⟨Nat.le_of_ble_eq_true rfl, Nat.le_of_ble_eq_true rfl⟩ (lySh0 hc0) (q_kV F (fun h4 F => ?_))
    obtain ⟨G4, F⟩ := F
    exact q_retV (pc := 28) dX5_appendValue_28 rfl F
theorem g_X5_appendSign {c0 : Nat} {x1 : Int32} {h : zHp} {Q : zHp → Prop} (hc0 : zSh c0) (G : zG h) (F : (40 ≤ rI h c0 1 → (Q h)) ∧ (¬ (40 ≤ rI h c0 1) → (vp_in (rI h c0 1) 40 ∧ (Q (wI (wI h (c0 + 1) ((Int32.toNatClampNeg (rI h c0 1))) ((Int32.toInt8 x1).toInt32)) c0 1 ((rI h c0 1) + 1)))))) : zcV M_X5_appendSign [.ref c0, .int x1] h Q := by
  show zw zNT zNT M_X5_appendSign 0 [some (.ref c0), some (.int x1)] [] h _
  refine z_aload_n (pc := 0) dX5_appendSign_0 rfl rfl ?_
  refine q_getI (pc := 1) (v := rI h c0 1) dX5_appendSign_1 lk_RX5_19 (lySh0 hc0) rfl ?_
  refine z_bipush (pc := 4) (v := 40) dX5_appendSign_4 (by decide) ?_
  refine z_icmp_ge (pc := 6) (tgt := 30) dX5_appendSign_6 (by decide) (fun k2 => ?_) (fun k2 => ?_)
  · replace F := F.1 k2
    exact q_retV (pc := 30) dX5_appendSign_30 rfl F
  · replace F := F.2 k2
    refine z_aload_n (pc := 9) dX5_appendSign_9 rfl rfl ?_
    refine q_getR (pc := 10) (i := c0 + 1) dX5_appendSign_10 lk_RX5_15 (lySh0 hc0) (grSh2 G hc0) ?_
    refine z_aload_n (pc := 13) dX5_appendSign_13 rfl rfl ?_
    refine q_getI (pc := 14) (v := rI h c0 1) dX5_appendSign_14 lk_RX5_19 (lySh0 hc0) rfl ?_
    refine z_iload_n (pc := 17) dX5_appendSign_17 rfl rfl ?_
    refine z_i2b (pc := 18) dX5_appendSign_18 ?_
    obtain ⟨k1, F⟩ := F
    refine q_iast (pc := 19) (j := (Int32.toNatClampNeg (rI h c0 1))) dX5_appendSign_19 (lySh1 hc0) (zvn (lnSh1 hc0) k1) rfl ?_
    refine z_aload_n (pc := 20) dX5_appendSign_20 rfl rfl ?_
    refine z_dup (pc := 21) dX5_appendSign_21 rfl ?_
    refine q_getI (pc := 22) (v := rI h c0 1) dX5_appendSign_22 lk_RX5_19 (lySh0 hc0) (rI_c (zne (lySh0 hc0) (lySh1 hc0) (by decide))) ?_
    refine z_iconst (pc := 25) (v := 1) dX5_appendSign_25 (by decide) ?_
    refine z_iadd (pc := 26) dX5_appendSign_26 ?_
    refine q_putI (pc := 27) dX5_appendSign_27 lk_RX5_19 (lySh0 hc0) ?_
    exact q_retV (pc := 30) dX5_appendSign_30 rfl F
theorem g_X6_become {c0 : Nat} {x1 : Int32} {x2 : Int32} {x3 : Int32} {x4 : Int32} {h : zHp} {Q : zHp → Prop} (hc0 : ly c0 = 7) (G : zG h) (F : Q (wI (wI (wI (wI (wI (wI (wI (wI (wI (wI h c0 0 x1) c0 1 x2) c0 2 x3) c0 3 x4) c0 4 0) c0 5 1) c0 6 0) c0 7 0) c0 8 0) c0 9 0)) : zcV M_X6_become [.ref c0, .int x1, .int x2, .int x3, .int x4] h Q := by
  show zw zNT zNT M_X6_become 0 [some (.ref c0), some (.int x1), some (.int x2), some (.int x3), some (.int x4)] [] h _
  refine z_aload_n (pc := 0) dX6_become_0 rfl rfl ?_
  refine z_iload_n (pc := 1) dX6_become_1 rfl rfl ?_
  refine q_putI (pc := 2) dX6_become_2 lk_RX6_9 hc0 ?_
  refine z_aload_n (pc := 5) dX6_become_5 rfl rfl ?_
  refine z_iload_n (pc := 6) dX6_become_6 rfl rfl ?_
  refine q_putI (pc := 7) dX6_become_7 lk_RX6_15 hc0 ?_
  refine z_aload_n (pc := 10) dX6_become_10 rfl rfl ?_
  refine z_iload_n (pc := 11) dX6_become_11 rfl rfl ?_
  refine q_putI (pc := 12) dX6_become_12 lk_RX6_18 hc0 ?_
  refine z_aload_n (pc := 15) dX6_become_15 rfl rfl ?_
  refine z_iload (pc := 16) dX6_become_16 rfl ?_
  refine q_putI (pc := 18) dX6_become_18 lk_RX6_21 hc0 ?_
  refine z_aload_n (pc := 21) dX6_become_21 rfl rfl ?_
  refine z_iconst (pc := 22) (v := 0) dX6_become_22 (by decide) ?_
  refine q_putI (pc := 23) dX6_become_23 lk_RX6_24 hc0 ?_
  refine z_aload_n (pc := 26) dX6_become_26 rfl rfl ?_
  refine z_iconst (pc := 27) (v := 1) dX6_become_27 (by decide) ?_
  refine q_putB (pc := 28) dX6_become_28 lk_RX6_27 hc0 (Or.inr rfl) ?_
  refine z_aload_n (pc := 31) dX6_become_31 rfl rfl ?_
  refine z_iconst (pc := 32) (v := 0) dX6_become_32 (by decide) ?_
  refine q_putI (pc := 33) dX6_become_33 lk_RX6_31 hc0 ?_
  refine z_aload_n (pc := 36) dX6_become_36 rfl rfl ?_
  refine z_iconst (pc := 37) (v := 0) dX6_become_37 (by decide) ?_
  refine q_putI (pc := 38) dX6_become_38 lk_RX6_34 hc0 ?_
  refine z_aload_n (pc := 41) dX6_become_41 rfl rfl ?_
  refine z_iconst (pc := 42) (v := 0) dX6_become_42 (by decide) ?_
  refine q_putI (pc := 43) dX6_become_43 lk_RX6_37 hc0 ?_
  refine z_aload_n (pc := 46) dX6_become_46 rfl rfl ?_
  refine z_iconst (pc := 47) (v := 0) dX6_become_47 (by decide) ?_
  refine q_putI (pc := 48) dX6_become_48 lk_RX6_40 hc0 ?_
  exact q_retV (pc := 51) dX6_become_51 rfl F
theorem g_X6_change {c0 : Nat} {x1 : Int32} {x2 : Int32} {h : zHp} {Q : Int32 → zHp → Prop} (hc0 : ly c0 = 7) (G : zG h) (F : (x1 = 1 → (Q (rI h c0 1) (wI h c0 1 x2))) ∧ (¬ x1 = 1 → ((x1 = 2 → (Q (rI h c0 2) (wI h c0 2 x2))) ∧ (¬ x1 = 2 → ((x1 = 3 → (Q (rI h c0 3) (wI h c0 3 x2))) ∧ (¬ x1 = 3 → (Q (rI h c0 4) (wI h c0 4 x2)))))))) : zcI M_X6_change [.ref c0, .int x1, .int x2] h Q := by
  show zw zNT zNT M_X6_change 0 [some (.ref c0), some (.int x1), some (.int x2), none] [] h _
  refine z_iload_n (pc := 0) dX6_change_0 rfl rfl ?_
  by_cases k1 : x1 = 1
  · replace F := F.1 k1
    refine z_tableIn (pc := 1) (x := x1) (tgt := 28) (off := 27) dX6_change_1 (by rw [k1]; decide) (by rw [k1]; decide) (by rw [k1]; decide) (by decide) ?_
    refine z_aload_n (pc := 28) dX6_change_28 rfl rfl ?_
    refine q_getI (pc := 29) (v := rI h c0 1) dX6_change_29 lk_RX6_15 hc0 rfl ?_
    refine z_istore_n (pc := 32) (ls' := [some (.ref c0), some (.int x1), some (.int x2), some (.int (rI h c0 1))]) dX6_change_32 rfl (by decide) rfl ?_
    refine z_aload_n (pc := 33) dX6_change_33 rfl rfl ?_
    refine z_iload_n (pc := 34) dX6_change_34 rfl rfl ?_
    refine q_putI (pc := 35) dX6_change_35 lk_RX6_15 hc0 ?_
    refine z_iload_n (pc := 38) dX6_change_38 rfl rfl ?_
    exact q_retI (pc := 39) dX6_change_39 rfl F
  · replace F := F.2 k1
    by_cases k2 : x1 = 2
    · replace F := F.1 k2
      refine z_tableIn (pc := 1) (x := x1) (tgt := 40) (off := 39) dX6_change_1 (by rw [k2]; decide) (by rw [k2]; decide) (by rw [k2]; decide) (by decide) ?_
      refine z_aload_n (pc := 40) dX6_change_40 rfl rfl ?_
      refine q_getI (pc := 41) (v := rI h c0 2) dX6_change_41 lk_RX6_18 hc0 rfl ?_
      refine z_istore_n (pc := 44) (ls' := [some (.ref c0), some (.int x1), some (.int x2), some (.int (rI h c0 2))]) dX6_change_44 rfl (by decide) rfl ?_
      refine z_aload_n (pc := 45) dX6_change_45 rfl rfl ?_
      refine z_iload_n (pc := 46) dX6_change_46 rfl rfl ?_
      refine q_putI (pc := 47) dX6_change_47 lk_RX6_18 hc0 ?_
      refine z_iload_n (pc := 50) dX6_change_50 rfl rfl ?_
      exact q_retI (pc := 51) dX6_change_51 rfl F
    · replace F := F.2 k2
      by_cases k3 : x1 = 3
      · replace F := F.1 k3
        refine z_tableIn (pc := 1) (x := x1) (tgt := 52) (off := 51) dX6_change_1 (by rw [k3]; decide) (by rw [k3]; decide) (by rw [k3]; decide) (by decide) ?_
        refine z_aload_n (pc := 52) dX6_change_52 rfl rfl ?_
        refine q_getI (pc := 53) (v := rI h c0 3) dX6_change_53 lk_RX6_21 hc0 rfl ?_
        refine z_istore_n (pc := 56) (ls' := [some (.ref c0), some (.int x1), some (.int x2), some (.int (rI h c0 3))]) dX6_change_56 rfl (by decide) rfl ?_
        refine z_aload_n (pc := 57) dX6_change_57 rfl rfl ?_
        refine z_iload_n (pc := 58) dX6_change_58 rfl rfl ?_
        refine q_putI (pc := 59) dX6_change_59 lk_RX6_21 hc0 ?_
        refine z_iload_n (pc := 62) dX6_change_62 rfl rfl ?_
        exact q_retI (pc := 63) dX6_change_63 rfl F
      · replace F := F.2 k3
        have hz0 := q_sw (1) k1 (by decide)
        have hz1 := q_sw (2) k2 (by decide)
        have hz2 := q_sw (3) k3 (by decide)
        refine z_tableOut (pc := 1) (tgt := 64) dX6_change_1 (by omega) (by decide) ?_
        refine z_aload_n (pc := 64) dX6_change_64 rfl rfl ?_
        refine q_getI (pc := 65) (v := rI h c0 4) dX6_change_65 lk_RX6_24 hc0 rfl ?_
        refine z_istore_n (pc := 68) (ls' := [some (.ref c0), some (.int x1), some (.int x2), some (.int (rI h c0 4))]) dX6_change_68 rfl (by decide) rfl ?_
        refine z_aload_n (pc := 69) dX6_change_69 rfl rfl ?_
        refine z_iload_n (pc := 70) dX6_change_70 rfl rfl ?_
        refine q_putI (pc := 71) dX6_change_71 lk_RX6_24 hc0 ?_
        refine z_iload_n (pc := 74) dX6_change_74 rfl rfl ?_
        exact q_retI (pc := 75) dX6_change_75 rfl F
theorem g_X6_heal {c0 : Nat} {x1 : Int32} {h : zHp} {Q : zHp → Prop} (hc0 : ly c0 = 7) (G : zG h) (F : Q (wI h c0 4 (if (0 : Int32) < (rI h c0 4) - x1 then (rI h c0 4) - x1 else 0))) : zcV M_X6_heal [.ref c0, .int x1] h Q := by
  show zw zNT zNT M_X6_heal 0 [some (.ref c0), some (.int x1)] [] h _
  refine z_aload_n (pc := 0) dX6_heal_0 rfl rfl ?_
  refine z_iconst (pc := 1) (v := 0) dX6_heal_1 (by decide) ?_
  refine z_aload_n (pc := 2) dX6_heal_2 rfl rfl ?_
  refine q_getI (pc := 3) (v := rI h c0 4) dX6_heal_3 lk_RX6_24 hc0 rfl ?_
  refine z_iload_n (pc := 6) dX6_heal_6 rfl rfl ?_
  refine z_isub (pc := 7) dX6_heal_7 ?_
  refine z_max (pc := 8) dX6_heal_8 ⟨pl_RX6_43, pw_maxS, pw_Math, pw_maxC⟩ (zcat_of rfl) ⟨Nat.le_of_ble_eq_true rfl, Nat.le_of_ble_eq_true rfl⟩ ?_
  refine q_putI (pc := 11) dX6_heal_11 lk_RX6_24 hc0 ?_
  exact q_retV (pc := 14) dX6_heal_14 rfl F
theorem g_X6_raise {c0 : Nat} {x1 : Int32} {h : zHp} {Q : zHp → Prop} (hc0 : ly c0 = 7) (G : zG h) (F : Q (wI (wI h c0 2 (if (rI h c0 2) + x1 < (99 : Int32) then (rI h c0 2) + x1 else 99)) c0 3 (if (rI h c0 3) + x1 < (99 : Int32) then (rI h c0 3) + x1 else 99))) : zcV M_X6_raise [.ref c0, .int x1] h Q := by
  show zw zNT zNT M_X6_raise 0 [some (.ref c0), some (.int x1)] [] h _
  refine z_aload_n (pc := 0) dX6_raise_0 rfl rfl ?_
  refine z_bipush (pc := 1) (v := 99) dX6_raise_1 (by decide) ?_
  refine z_aload_n (pc := 3) dX6_raise_3 rfl rfl ?_
  refine q_getI (pc := 4) (v := rI h c0 2) dX6_raise_4 lk_RX6_18 hc0 rfl ?_
  refine z_iload_n (pc := 7) dX6_raise_7 rfl rfl ?_
  refine z_iadd (pc := 8) dX6_raise_8 ?_
  refine z_min (pc := 9) dX6_raise_9 ⟨pl_RX6_49, pw_minS, pw_Math, pw_minC⟩ (zcat_of rfl) ⟨Nat.le_of_ble_eq_true rfl, Nat.le_of_ble_eq_true rfl⟩ ?_
  refine q_putI (pc := 12) dX6_raise_12 lk_RX6_18 hc0 ?_
  refine z_aload_n (pc := 15) dX6_raise_15 rfl rfl ?_
  refine z_bipush (pc := 16) (v := 99) dX6_raise_16 (by decide) ?_
  refine z_aload_n (pc := 18) dX6_raise_18 rfl rfl ?_
  refine q_getI (pc := 19) (v := rI h c0 3) dX6_raise_19 lk_RX6_21 hc0 (rI_k (by decide)) ?_
  refine z_iload_n (pc := 22) dX6_raise_22 rfl rfl ?_
  refine z_iadd (pc := 23) dX6_raise_23 ?_
  refine z_min (pc := 24) dX6_raise_24 ⟨pl_RX6_49, pw_minS, pw_Math, pw_minC⟩ (zcat_of rfl) ⟨Nat.le_of_ble_eq_true rfl, Nat.le_of_ble_eq_true rfl⟩ ?_
  refine q_putI (pc := 27) dX6_raise_27 lk_RX6_21 hc0 ?_
  exact q_retV (pc := 30) dX6_raise_30 rfl F
theorem g_X6_copyFrom {c0 : Nat} {c1 : Nat} {h : zHp} {Q : zHp → Prop} (hc0 : ly c0 = 7) (hc1 : ly c1 = 7) (G : zG h) (F : zB (rI h c1 5) ∧ (Q (wI (wI (wI (wI (wI (wI (wI (wI (wI (wI h c0 0 (rI h c1 0)) c0 1 (rI h c1 1)) c0 2 (rI h c1 2)) c0 3 (rI h c1 3)) c0 4 (rI h c1 4)) c0 5 (rI h c1 5)) c0 6 (rI h c1 6)) c0 7 (rI h c1 7)) c0 8 (rI h c1 8)) c0 9 (rI h c1 9)))) : zcV M_X6_copyFrom [.ref c0, .ref c1] h Q := by
  show zw zNT zNT M_X6_copyFrom 0 [some (.ref c0), some (.ref c1)] [] h _
  refine z_aload_n (pc := 0) dX6_copyFrom_0 rfl rfl ?_
  refine z_aload_n (pc := 1) dX6_copyFrom_1 rfl rfl ?_
  refine q_getI (pc := 2) (v := rI h c1 0) dX6_copyFrom_2 lk_RX6_9 hc1 rfl ?_
  refine q_putI (pc := 5) dX6_copyFrom_5 lk_RX6_9 hc0 ?_
  refine z_aload_n (pc := 8) dX6_copyFrom_8 rfl rfl ?_
  refine z_aload_n (pc := 9) dX6_copyFrom_9 rfl rfl ?_
  refine q_getI (pc := 10) (v := rI h c1 1) dX6_copyFrom_10 lk_RX6_15 hc1 (rI_k (by decide)) ?_
  refine q_putI (pc := 13) dX6_copyFrom_13 lk_RX6_15 hc0 ?_
  refine z_aload_n (pc := 16) dX6_copyFrom_16 rfl rfl ?_
  refine z_aload_n (pc := 17) dX6_copyFrom_17 rfl rfl ?_
  refine q_getI (pc := 18) (v := rI h c1 2) dX6_copyFrom_18 lk_RX6_18 hc1 ((rI_k (by decide)).trans (rI_k (by decide))) ?_
  refine q_putI (pc := 21) dX6_copyFrom_21 lk_RX6_18 hc0 ?_
  refine z_aload_n (pc := 24) dX6_copyFrom_24 rfl rfl ?_
  refine z_aload_n (pc := 25) dX6_copyFrom_25 rfl rfl ?_
  refine q_getI (pc := 26) (v := rI h c1 3) dX6_copyFrom_26 lk_RX6_21 hc1 (((rI_k (by decide)).trans (rI_k (by decide))).trans (rI_k (by decide))) ?_
  refine q_putI (pc := 29) dX6_copyFrom_29 lk_RX6_21 hc0 ?_
  refine z_aload_n (pc := 32) dX6_copyFrom_32 rfl rfl ?_
  refine z_aload_n (pc := 33) dX6_copyFrom_33 rfl rfl ?_
  refine q_getI (pc := 34) (v := rI h c1 4) dX6_copyFrom_34 lk_RX6_24 hc1 ((((rI_k (by decide)).trans (rI_k (by decide))).trans (rI_k (by decide))).trans (rI_k (by decide))) ?_
  refine q_putI (pc := 37) dX6_copyFrom_37 lk_RX6_24 hc0 ?_
  refine z_aload_n (pc := 40) dX6_copyFrom_40 rfl rfl ?_
  refine z_aload_n (pc := 41) dX6_copyFrom_41 rfl rfl ?_
  refine q_getI (pc := 42) (v := rI h c1 5) dX6_copyFrom_42 lk_RX6_27 hc1 (((((rI_k (by decide)).trans (rI_k (by decide))).trans (rI_k (by decide))).trans (rI_k (by decide))).trans (rI_k (by decide))) ?_
  obtain ⟨k1, F⟩ := F
  refine q_putB (pc := 45) dX6_copyFrom_45 lk_RX6_27 hc0 k1 ?_
  refine z_aload_n (pc := 48) dX6_copyFrom_48 rfl rfl ?_
  refine z_aload_n (pc := 49) dX6_copyFrom_49 rfl rfl ?_
  refine q_getI (pc := 50) (v := rI h c1 6) dX6_copyFrom_50 lk_RX6_31 hc1 ((((((rI_k (by decide)).trans (rI_k (by decide))).trans (rI_k (by decide))).trans (rI_k (by decide))).trans (rI_k (by decide))).trans (rI_k (by decide))) ?_
  refine q_putI (pc := 53) dX6_copyFrom_53 lk_RX6_31 hc0 ?_
  refine z_aload_n (pc := 56) dX6_copyFrom_56 rfl rfl ?_
  refine z_aload_n (pc := 57) dX6_copyFrom_57 rfl rfl ?_
  refine q_getI (pc := 58) (v := rI h c1 7) dX6_copyFrom_58 lk_RX6_34 hc1 (((((((rI_k (by decide)).trans (rI_k (by decide))).trans (rI_k (by decide))).trans (rI_k (by decide))).trans (rI_k (by decide))).trans (rI_k (by decide))).trans (rI_k (by decide))) ?_
  refine q_putI (pc := 61) dX6_copyFrom_61 lk_RX6_34 hc0 ?_
  refine z_aload_n (pc := 64) dX6_copyFrom_64 rfl rfl ?_
  refine z_aload_n (pc := 65) dX6_copyFrom_65 rfl rfl ?_
  refine q_getI (pc := 66) (v := rI h c1 8) dX6_copyFrom_66 lk_RX6_37 hc1 ((((((((rI_k (by decide)).trans (rI_k (by decide))).trans (rI_k (by decide))).trans (rI_k (by decide))).trans (rI_k (by decide))).trans (rI_k (by decide))).trans (rI_k (by decide))).trans (rI_k (by decide))) ?_
  refine q_putI (pc := 69) dX6_copyFrom_69 lk_RX6_37 hc0 ?_
  refine z_aload_n (pc := 72) dX6_copyFrom_72 rfl rfl ?_
  refine z_aload_n (pc := 73) dX6_copyFrom_73 rfl rfl ?_
  refine q_getI (pc := 74) (v := rI h c1 9) dX6_copyFrom_74 lk_RX6_40 hc1 (((((((((rI_k (by decide)).trans (rI_k (by decide))).trans (rI_k (by decide))).trans (rI_k (by decide))).trans (rI_k (by decide))).trans (rI_k (by decide))).trans (rI_k (by decide))).trans (rI_k (by decide))).trans (rI_k (by decide))) ?_
  refine q_putI (pc := 77) dX6_copyFrom_77 lk_RX6_40 hc0 ?_
  exact q_retV (pc := 80) dX6_copyFrom_80 rfl F
theorem g_X7_become {c0 : Nat} {x1 : Int32} {x2 : Int32} {x3 : Int32} {x4 : Int32} {x5 : Int32} {h : zHp} {Q : zHp → Prop} (hc0 : ly c0 = 8) (G : zG h) (F : Q (wI (wI (wI (wI (wI (wI (wI h c0 0 x1) c0 1 x2) c0 2 x3) c0 3 x4) c0 4 x5) c0 5 0) c0 6 0)) : zcV M_X7_become [.ref c0, .int x1, .int x2, .int x3, .int x4, .int x5] h Q := by
  show zw zNT zNT M_X7_become 0 [some (.ref c0), some (.int x1), some (.int x2), some (.int x3), some (.int x4), some (.int x5)] [] h _
  refine z_aload_n (pc := 0) dX7_become_0 rfl rfl ?_
  refine z_iload_n (pc := 1) dX7_become_1 rfl rfl ?_
  refine q_putI (pc := 2) dX7_become_2 lk_RX7_9 hc0 ?_
  refine z_aload_n (pc := 5) dX7_become_5 rfl rfl ?_
  refine z_iload_n (pc := 6) dX7_become_6 rfl rfl ?_
  refine q_putI (pc := 7) dX7_become_7 lk_RX7_15 hc0 ?_
  refine z_aload_n (pc := 10) dX7_become_10 rfl rfl ?_
  refine z_iload_n (pc := 11) dX7_become_11 rfl rfl ?_
  refine q_putI (pc := 12) dX7_become_12 lk_RX7_18 hc0 ?_
  refine z_aload_n (pc := 15) dX7_become_15 rfl rfl ?_
  refine z_iload (pc := 16) dX7_become_16 rfl ?_
  refine q_putI (pc := 18) dX7_become_18 lk_RX7_21 hc0 ?_
  refine z_aload_n (pc := 21) dX7_become_21 rfl rfl ?_
  refine z_iload (pc := 22) dX7_become_22 rfl ?_
  refine q_putI (pc := 24) dX7_become_24 lk_RX7_24 hc0 ?_
  refine z_aload_n (pc := 27) dX7_become_27 rfl rfl ?_
  refine z_iconst (pc := 28) (v := 0) dX7_become_28 (by decide) ?_
  refine q_putI (pc := 29) dX7_become_29 lk_RX7_27 hc0 ?_
  refine z_aload_n (pc := 32) dX7_become_32 rfl rfl ?_
  refine z_iconst (pc := 33) (v := 0) dX7_become_33 (by decide) ?_
  refine q_putI (pc := 34) dX7_become_34 lk_RX7_30 hc0 ?_
  exact q_retV (pc := 37) dX7_become_37 rfl F
theorem g_X7_copyFrom {c0 : Nat} {c1 : Nat} {h : zHp} {Q : zHp → Prop} (hc0 : ly c0 = 8) (hc1 : ly c1 = 8) (G : zG h) (F : zcV M_X7_become [.ref c0, .int (rI h c1 0), .int (rI h c1 1), .int (rI h c1 2), .int (rI h c1 3), .int (rI h c1 4)] h (fun h1 => zG h1 ∧ (Q (wI (wI h1 c0 5 (rI h1 c1 5)) c0 6 (rI h1 c1 6))))) : zcV M_X7_copyFrom [.ref c0, .ref c1] h Q := by
  show zw zNT zNT M_X7_copyFrom 0 [some (.ref c0), some (.ref c1)] [] h _
  refine z_aload_n (pc := 0) dX7_copyFrom_0 rfl rfl ?_
  refine z_aload_n (pc := 1) dX7_copyFrom_1 rfl rfl ?_
  refine q_getI (pc := 2) (v := rI h c1 0) dX7_copyFrom_2 lk_RX7_9 hc1 rfl ?_
  refine z_aload_n (pc := 5) dX7_copyFrom_5 rfl rfl ?_
  refine q_getI (pc := 6) (v := rI h c1 1) dX7_copyFrom_6 lk_RX7_15 hc1 rfl ?_
  refine z_aload_n (pc := 9) dX7_copyFrom_9 rfl rfl ?_
  refine q_getI (pc := 10) (v := rI h c1 2) dX7_copyFrom_10 lk_RX7_18 hc1 rfl ?_
  refine z_aload_n (pc := 13) dX7_copyFrom_13 rfl rfl ?_
  refine q_getI (pc := 14) (v := rI h c1 3) dX7_copyFrom_14 lk_RX7_21 hc1 rfl ?_
  refine z_aload_n (pc := 17) dX7_copyFrom_17 rfl rfl ?_
  refine q_getI (pc := 18) (v := rI h c1 4) dX7_copyFrom_18 lk_RX7_24 hc1 rfl ?_
  refine q_invV (pc := 21) (As := [.int (rI h c1 0), .int (rI h c1 1), .int (rI h c1 2), .int (rI h c1 3), .int (rI h c1 4)]) (st := []) dX7_copyFrom_21 ok_X7_become ml_RX7_33 iv_X7_become pa_X7_become ⟨Nat.le_of_ble_eq_true rfl, Nat.le_of_ble_eq_true rfl⟩ hc0 (q_kV F (fun h1 F => ?_))
  obtain ⟨G1, F⟩ := F
  refine z_aload_n (pc := 24) dX7_copyFrom_24 rfl rfl ?_
  refine z_aload_n (pc := 25) dX7_copyFrom_25 rfl rfl ?_
  refine q_getI (pc := 26) (v := rI h1 c1 5) dX7_copyFrom_26 lk_RX7_27 hc1 rfl ?_
  refine q_putI (pc := 29) dX7_copyFrom_29 lk_RX7_27 hc0 ?_
  refine z_aload_n (pc := 32) dX7_copyFrom_32 rfl rfl ?_
  refine z_aload_n (pc := 33) dX7_copyFrom_33 rfl rfl ?_
  refine q_getI (pc := 34) (v := rI h1 c1 6) dX7_copyFrom_34 lk_RX7_30 hc1 (rI_k (by decide)) ?_
  refine q_putI (pc := 37) dX7_copyFrom_37 lk_RX7_30 hc0 ?_
  exact q_retV (pc := 40) dX7_copyFrom_40 rfl F
theorem g_X8_empty {c0 : Nat} {h : zHp} {Q : zHp → Prop} (hc0 : zW c0) (G : zG h) (F : Q (wI (wI (wI (wI (wI (wI (wI h c0 1 0) c0 3 0) c0 5 0) c0 7 0) (c0 + 5) 0 0) (c0 + 5) 1 0) c0 9 0)) : zcV M_X8_empty [.ref c0] h Q := by
  show zw zNT zNT M_X8_empty 0 [some (.ref c0)] [] h _
  refine z_aload_n (pc := 0) dX8_empty_0 rfl rfl ?_
  refine z_iconst (pc := 1) (v := 0) dX8_empty_1 (by decide) ?_
  refine q_putI (pc := 2) dX8_empty_2 lk_RX8_47 (lyW0 hc0) ?_
  refine z_aload_n (pc := 5) dX8_empty_5 rfl rfl ?_
  refine z_iconst (pc := 6) (v := 0) dX8_empty_6 (by decide) ?_
  refine q_putI (pc := 7) dX8_empty_7 lk_RX8_50 (lyW0 hc0) ?_
  refine z_aload_n (pc := 10) dX8_empty_10 rfl rfl ?_
  refine z_iconst (pc := 11) (v := 0) dX8_empty_11 (by decide) ?_
  refine q_putI (pc := 12) dX8_empty_12 lk_RX8_53 (lyW0 hc0) ?_
  refine z_aload_n (pc := 15) dX8_empty_15 rfl rfl ?_
  refine z_iconst (pc := 16) (v := 0) dX8_empty_16 (by decide) ?_
  refine q_putI (pc := 17) dX8_empty_17 lk_RX8_56 (lyW0 hc0) ?_
  refine z_aload_n (pc := 20) dX8_empty_20 rfl rfl ?_
  refine q_getR (pc := 21) (i := c0 + 5) dX8_empty_21 lk_RX8_35 (lyW0 hc0) (grW8 G hc0) ?_
  refine z_iconst (pc := 24) (v := 0) dX8_empty_24 (by decide) ?_
  refine z_iconst (pc := 25) (v := 0) dX8_empty_25 (by decide) ?_
  refine q_iast (pc := 26) (j := 0) dX8_empty_26 (lyW5 hc0) (zvl (lnW5 hc0) (by decide)) (by decide) ?_
  refine z_aload_n (pc := 27) dX8_empty_27 rfl rfl ?_
  refine q_getR (pc := 28) (i := c0 + 5) dX8_empty_28 lk_RX8_35 (lyW0 hc0) (grW8 G hc0) ?_
  refine z_iconst (pc := 31) (v := 1) dX8_empty_31 (by decide) ?_
  refine z_iconst (pc := 32) (v := 0) dX8_empty_32 (by decide) ?_
  refine q_iast (pc := 33) (j := 1) dX8_empty_33 (lyW5 hc0) (zvl (lnW5 hc0) (by decide)) (by decide) ?_
  refine z_aload_n (pc := 34) dX8_empty_34 rfl rfl ?_
  refine z_iconst (pc := 35) (v := 0) dX8_empty_35 (by decide) ?_
  refine q_putI (pc := 36) dX8_empty_36 lk_RX8_59 (lyW0 hc0) ?_
  exact q_retV (pc := 39) dX8_empty_39 rfl F
theorem g_X8_copyFrom {c0 : Nat} {c1 : Nat} {h : zHp} {Q : zHp → Prop} (hc0 : zW c0) (hc1 : zW c1) (G : zG h) (F : zlV M_X8_copyFrom 34 [some (.ref c0), some (.ref c1), some (.int 0)] [] (wI (wI (wI (wI h c0 1 (rI h c1 1)) c0 3 (rI h c1 3)) c0 5 (rI h c1 5)) c0 7 (rI h c1 7)) Q) : zcV M_X8_copyFrom [.ref c0, .ref c1] h Q := by
  show zw zNT zNT M_X8_copyFrom 0 [some (.ref c0), some (.ref c1), none] [] h _
  refine z_aload_n (pc := 0) dX8_copyFrom_0 rfl rfl ?_
  refine z_aload_n (pc := 1) dX8_copyFrom_1 rfl rfl ?_
  refine q_getI (pc := 2) (v := rI h c1 1) dX8_copyFrom_2 lk_RX8_47 (lyW0 hc1) rfl ?_
  refine q_putI (pc := 5) dX8_copyFrom_5 lk_RX8_47 (lyW0 hc0) ?_
  refine z_aload_n (pc := 8) dX8_copyFrom_8 rfl rfl ?_
  refine z_aload_n (pc := 9) dX8_copyFrom_9 rfl rfl ?_
  refine q_getI (pc := 10) (v := rI h c1 3) dX8_copyFrom_10 lk_RX8_50 (lyW0 hc1) (rI_k (by decide)) ?_
  refine q_putI (pc := 13) dX8_copyFrom_13 lk_RX8_50 (lyW0 hc0) ?_
  refine z_aload_n (pc := 16) dX8_copyFrom_16 rfl rfl ?_
  refine z_aload_n (pc := 17) dX8_copyFrom_17 rfl rfl ?_
  refine q_getI (pc := 18) (v := rI h c1 5) dX8_copyFrom_18 lk_RX8_53 (lyW0 hc1) ((rI_k (by decide)).trans (rI_k (by decide))) ?_
  refine q_putI (pc := 21) dX8_copyFrom_21 lk_RX8_53 (lyW0 hc0) ?_
  refine z_aload_n (pc := 24) dX8_copyFrom_24 rfl rfl ?_
  refine z_aload_n (pc := 25) dX8_copyFrom_25 rfl rfl ?_
  refine q_getI (pc := 26) (v := rI h c1 7) dX8_copyFrom_26 lk_RX8_56 (lyW0 hc1) (((rI_k (by decide)).trans (rI_k (by decide))).trans (rI_k (by decide))) ?_
  refine q_putI (pc := 29) dX8_copyFrom_29 lk_RX8_56 (lyW0 hc0) ?_
  refine z_iconst (pc := 32) (v := 0) dX8_copyFrom_32 (by decide) ?_
  refine z_istore_n (pc := 33) (ls' := [some (.ref c0), some (.ref c1), some (.int 0)]) dX8_copyFrom_33 rfl (by decide) rfl ?_
  exact F
theorem g_X8_copyFrom_34 {c0 : Nat} {c1 : Nat} {x2 : Int32} {h : zHp} {Q : zHp → Prop} (hc0 : zW c0) (hc1 : zW c1) (G : zG h) (F : (rI h c0 1 ≤ x2 → (zlV M_X8_copyFrom 71 [some (.ref c0), some (.ref c1), some (.int 0)] [] h Q)) ∧ (¬ (rI h c0 1 ≤ x2) → ((8 ≤ x2 → (zlV M_X8_copyFrom 71 [some (.ref c0), some (.ref c1), some (.int 0)] [] h Q)) ∧ (¬ (8 ≤ x2) → (vp_in x2 8 ∧ (zcV M_X6_copyFrom [.ref (c0 + 6 + (Int32.toNatClampNeg x2)), .ref (c1 + 6 + (Int32.toNatClampNeg x2))] h (fun h1 => zG h1 ∧ (zlV M_X8_copyFrom 34 [some (.ref c0), some (.ref c1), some (.int (x2 + 1))] [] h1 Q)))))))) : zlV M_X8_copyFrom 34 [some (.ref c0), some (.ref c1), some (.int x2)] [] h Q := by
  refine z_iload_n (pc := 34) dX8_copyFrom_34 rfl rfl ?_
  refine z_aload_n (pc := 35) dX8_copyFrom_35 rfl rfl ?_
  refine q_getI (pc := 36) (v := rI h c0 1) dX8_copyFrom_36 lk_RX8_47 (lyW0 hc0) rfl ?_
  refine z_icmp_ge (pc := 39) (tgt := 69) dX8_copyFrom_39 (by decide) (fun k4 => ?_) (fun k4 => ?_)
  · replace F := F.1 k4
    refine z_iconst (pc := 69) (v := 0) dX8_copyFrom_69 (by decide) ?_
    refine z_istore_n (pc := 70) (ls' := [some (.ref c0), some (.ref c1), some (.int 0)]) dX8_copyFrom_70 rfl (by decide) rfl ?_
    exact F
  · replace F := F.2 k4
    refine z_iload_n (pc := 42) dX8_copyFrom_42 rfl rfl ?_
    refine z_bipush (pc := 43) (v := 8) dX8_copyFrom_43 (by decide) ?_
    refine z_icmp_ge (pc := 45) (tgt := 69) dX8_copyFrom_45 (by decide) (fun k3 => ?_) (fun k3 => ?_)
    · replace F := F.1 k3
      refine z_iconst (pc := 69) (v := 0) dX8_copyFrom_69 (by decide) ?_
      refine z_istore_n (pc := 70) (ls' := [some (.ref c0), some (.ref c1), some (.int 0)]) dX8_copyFrom_70 rfl (by decide) rfl ?_
      exact F
    · replace F := F.2 k3
      refine z_aload_n (pc := 48) dX8_copyFrom_48 rfl rfl ?_
      refine q_getR (pc := 49) (i := c0 + 1) dX8_copyFrom_49 lk_RX8_11 (lyW0 hc0) (grW0 G hc0) ?_
      refine z_iload_n (pc := 52) dX8_copyFrom_52 rfl rfl ?_
      obtain ⟨k1, F⟩ := F
      refine q_aald (pc := 53) (j := (Int32.toNatClampNeg x2)) (r := c0 + 6 + (Int32.toNatClampNeg x2)) (t := 0) dX8_copyFrom_53 (lyW1 hc0) (zvn (lnW1 hc0) k1) rfl (grT (B := c0) G hc0 (zvi k1)) ?_
      refine z_aload_n (pc := 54) dX8_copyFrom_54 rfl rfl ?_
      refine q_getR (pc := 55) (i := c1 + 1) dX8_copyFrom_55 lk_RX8_11 (lyW0 hc1) (grW0 G hc1) ?_
      refine z_iload_n (pc := 58) dX8_copyFrom_58 rfl rfl ?_
      refine q_aald (pc := 59) (j := (Int32.toNatClampNeg x2)) (r := c1 + 6 + (Int32.toNatClampNeg x2)) (t := 0) dX8_copyFrom_59 (lyW1 hc1) (zvn (lnW1 hc1) k1) rfl (grT (B := c1) G hc1 (zvi k1)) ?_
      refine q_invV (pc := 60) (As := [.ref (c1 + 6 + (Int32.toNatClampNeg x2))]) (st := []) dX8_copyFrom_60 ok_X6_copyFrom ml_RX8_62 iv_X6_copyFrom pa_X6_copyFrom ⟨Nat.le_of_ble_eq_true rfl, Nat.le_of_ble_eq_true rfl⟩ (lyT (B := c0) hc0 (zvi k1)) (q_kV F (fun h1 F => ?_))
      obtain ⟨G1, F⟩ := F
      refine z_iinc (pc := 63) (v := x2 + 1) (ls' := [some (.ref c0), some (.ref c1), some (.int (x2 + 1))]) dX8_copyFrom_63 (by decide) rfl rfl rfl ?_
      refine z_goto (pc := 66) (tgt := 34) dX8_copyFrom_66 (by decide) ?_
      exact F
theorem g_X8_copyFrom_71 {c0 : Nat} {c1 : Nat} {x2 : Int32} {h : zHp} {Q : zHp → Prop} (hc0 : zW c0) (hc1 : zW c1) (G : zG h) (F : (rI h c0 3 ≤ x2 → (zlV M_X8_copyFrom 108 [some (.ref c0), some (.ref c1), some (.int 0)] [] h Q)) ∧ (¬ (rI h c0 3 ≤ x2) → ((10 ≤ x2 → (zlV M_X8_copyFrom 108 [some (.ref c0), some (.ref c1), some (.int 0)] [] h Q)) ∧ (¬ (10 ≤ x2) → (vp_in x2 10 ∧ (zRef h (c0 + 2) ((Int32.toNatClampNeg x2)) 2 ∧ (zRef h (c1 + 2) ((Int32.toNatClampNeg x2)) 2 ∧ (zcV M_X1_copyFrom [.ref (rG h (c0 + 2) ((Int32.toNatClampNeg x2))), .ref (rG h (c1 + 2) ((Int32.toNatClampNeg x2)))] h (fun h1 => zG h1 ∧ (zlV M_X8_copyFrom 71 [some (.ref c0), some (.ref c1), some (.int (x2 + 1))] [] h1 Q)))))))))) : zlV M_X8_copyFrom 71 [some (.ref c0), some (.ref c1), some (.int x2)] [] h Q := by
  refine z_iload_n (pc := 71) dX8_copyFrom_71 rfl rfl ?_
  refine z_aload_n (pc := 72) dX8_copyFrom_72 rfl rfl ?_
  refine q_getI (pc := 73) (v := rI h c0 3) dX8_copyFrom_73 lk_RX8_50 (lyW0 hc0) rfl ?_
  refine z_icmp_ge (pc := 76) (tgt := 106) dX8_copyFrom_76 (by decide) (fun k6 => ?_) (fun k6 => ?_)
  · replace F := F.1 k6
    refine z_iconst (pc := 106) (v := 0) dX8_copyFrom_106 (by decide) ?_
    refine z_istore_n (pc := 107) (ls' := [some (.ref c0), some (.ref c1), some (.int 0)]) dX8_copyFrom_107 rfl (by decide) rfl ?_
    exact F
  · replace F := F.2 k6
    refine z_iload_n (pc := 79) dX8_copyFrom_79 rfl rfl ?_
    refine z_bipush (pc := 80) (v := 10) dX8_copyFrom_80 (by decide) ?_
    refine z_icmp_ge (pc := 82) (tgt := 106) dX8_copyFrom_82 (by decide) (fun k5 => ?_) (fun k5 => ?_)
    · replace F := F.1 k5
      refine z_iconst (pc := 106) (v := 0) dX8_copyFrom_106 (by decide) ?_
      refine z_istore_n (pc := 107) (ls' := [some (.ref c0), some (.ref c1), some (.int 0)]) dX8_copyFrom_107 rfl (by decide) rfl ?_
      exact F
    · replace F := F.2 k5
      refine z_aload_n (pc := 85) dX8_copyFrom_85 rfl rfl ?_
      refine q_getR (pc := 86) (i := c0 + 2) dX8_copyFrom_86 lk_RX8_19 (lyW0 hc0) (grW2 G hc0) ?_
      refine z_iload_n (pc := 89) dX8_copyFrom_89 rfl rfl ?_
      obtain ⟨k1, F⟩ := F
      obtain ⟨k2, F⟩ := F
      refine q_aald (pc := 90) (j := (Int32.toNatClampNeg x2)) (r := rG h (c0 + 2) ((Int32.toNatClampNeg x2))) (t := 1) dX8_copyFrom_90 (lyW2 hc0) (zvn (lnW2 hc0) k1) rfl k2.1 ?_
      refine z_aload_n (pc := 91) dX8_copyFrom_91 rfl rfl ?_
      refine q_getR (pc := 92) (i := c1 + 2) dX8_copyFrom_92 lk_RX8_19 (lyW0 hc1) (grW2 G hc1) ?_
      refine z_iload_n (pc := 95) dX8_copyFrom_95 rfl rfl ?_
      obtain ⟨k3, F⟩ := F
      refine q_aald (pc := 96) (j := (Int32.toNatClampNeg x2)) (r := rG h (c1 + 2) ((Int32.toNatClampNeg x2))) (t := 1) dX8_copyFrom_96 (lyW2 hc1) (zvn (lnW2 hc1) k1) rfl k3.1 ?_
      refine q_invV (pc := 97) (As := [.ref (rG h (c1 + 2) ((Int32.toNatClampNeg x2)))]) (st := []) dX8_copyFrom_97 ok_X1_copyFrom ml_RX8_66 iv_X1_copyFrom pa_X1_copyFrom ⟨Nat.le_of_ble_eq_true rfl, Nat.le_of_ble_eq_true rfl⟩ k2.2 (q_kV F (fun h1 F => ?_))
      obtain ⟨G1, F⟩ := F
      refine z_iinc (pc := 100) (v := x2 + 1) (ls' := [some (.ref c0), some (.ref c1), some (.int (x2 + 1))]) dX8_copyFrom_100 (by decide) rfl rfl rfl ?_
      refine z_goto (pc := 103) (tgt := 71) dX8_copyFrom_103 (by decide) ?_
      exact F
theorem g_X8_copyFrom_108 {c0 : Nat} {c1 : Nat} {x2 : Int32} {h : zHp} {Q : zHp → Prop} (hc0 : zW c0) (hc1 : zW c1) (G : zG h) (F : (rI h c0 5 ≤ x2 → (zlV M_X8_copyFrom 145 [some (.ref c0), some (.ref c1), some (.int 0)] [] h Q)) ∧ (¬ (rI h c0 5 ≤ x2) → ((8 ≤ x2 → (zlV M_X8_copyFrom 145 [some (.ref c0), some (.ref c1), some (.int 0)] [] h Q)) ∧ (¬ (8 ≤ x2) → (vp_in x2 8 ∧ (zRef h (c0 + 3) ((Int32.toNatClampNeg x2)) 5 ∧ (zRef h (c1 + 3) ((Int32.toNatClampNeg x2)) 5 ∧ (zcV M_X4_copyFrom [.ref (rG h (c0 + 3) ((Int32.toNatClampNeg x2))), .ref (rG h (c1 + 3) ((Int32.toNatClampNeg x2)))] h (fun h1 => zG h1 ∧ (zlV M_X8_copyFrom 108 [some (.ref c0), some (.ref c1), some (.int (x2 + 1))] [] h1 Q)))))))))) : zlV M_X8_copyFrom 108 [some (.ref c0), some (.ref c1), some (.int x2)] [] h Q := by
  refine z_iload_n (pc := 108) dX8_copyFrom_108 rfl rfl ?_
  refine z_aload_n (pc := 109) dX8_copyFrom_109 rfl rfl ?_
  refine q_getI (pc := 110) (v := rI h c0 5) dX8_copyFrom_110 lk_RX8_53 (lyW0 hc0) rfl ?_
  refine z_icmp_ge (pc := 113) (tgt := 143) dX8_copyFrom_113 (by decide) (fun k6 => ?_) (fun k6 => ?_)
  · replace F := F.1 k6
    refine z_iconst (pc := 143) (v := 0) dX8_copyFrom_143 (by decide) ?_
    refine z_istore_n (pc := 144) (ls' := [some (.ref c0), some (.ref c1), some (.int 0)]) dX8_copyFrom_144 rfl (by decide) rfl ?_
    exact F
  · replace F := F.2 k6
    refine z_iload_n (pc := 116) dX8_copyFrom_116 rfl rfl ?_
    refine z_bipush (pc := 117) (v := 8) dX8_copyFrom_117 (by decide) ?_
    refine z_icmp_ge (pc := 119) (tgt := 143) dX8_copyFrom_119 (by decide) (fun k5 => ?_) (fun k5 => ?_)
    · replace F := F.1 k5
      refine z_iconst (pc := 143) (v := 0) dX8_copyFrom_143 (by decide) ?_
      refine z_istore_n (pc := 144) (ls' := [some (.ref c0), some (.ref c1), some (.int 0)]) dX8_copyFrom_144 rfl (by decide) rfl ?_
      exact F
    · replace F := F.2 k5
      refine z_aload_n (pc := 122) dX8_copyFrom_122 rfl rfl ?_
      refine q_getR (pc := 123) (i := c0 + 3) dX8_copyFrom_123 lk_RX8_25 (lyW0 hc0) (grW4 G hc0) ?_
      refine z_iload_n (pc := 126) dX8_copyFrom_126 rfl rfl ?_
      obtain ⟨k1, F⟩ := F
      obtain ⟨k2, F⟩ := F
      refine q_aald (pc := 127) (j := (Int32.toNatClampNeg x2)) (r := rG h (c0 + 3) ((Int32.toNatClampNeg x2))) (t := 2) dX8_copyFrom_127 (lyW3 hc0) (zvn (lnW3 hc0) k1) rfl k2.1 ?_
      refine z_aload_n (pc := 128) dX8_copyFrom_128 rfl rfl ?_
      refine q_getR (pc := 129) (i := c1 + 3) dX8_copyFrom_129 lk_RX8_25 (lyW0 hc1) (grW4 G hc1) ?_
      refine z_iload_n (pc := 132) dX8_copyFrom_132 rfl rfl ?_
      obtain ⟨k3, F⟩ := F
      refine q_aald (pc := 133) (j := (Int32.toNatClampNeg x2)) (r := rG h (c1 + 3) ((Int32.toNatClampNeg x2))) (t := 2) dX8_copyFrom_133 (lyW3 hc1) (zvn (lnW3 hc1) k1) rfl k3.1 ?_
      refine q_invV (pc := 134) (As := [.ref (rG h (c1 + 3) ((Int32.toNatClampNeg x2)))]) (st := []) dX8_copyFrom_134 ok_X4_copyFrom ml_RX8_69 iv_X4_copyFrom pa_X4_copyFrom ⟨Nat.le_of_ble_eq_true rfl, Nat.le_of_ble_eq_true rfl⟩ k2.2 (q_kV F (fun h1 F => ?_))
      obtain ⟨G1, F⟩ := F
      refine z_iinc (pc := 137) (v := x2 + 1) (ls' := [some (.ref c0), some (.ref c1), some (.int (x2 + 1))]) dX8_copyFrom_137 (by decide) rfl rfl rfl ?_
      refine z_goto (pc := 140) (tgt := 108) dX8_copyFrom_140 (by decide) ?_
      exact F
theorem g_X8_copyFrom_145 {c0 : Nat} {c1 : Nat} {x2 : Int32} {h : zHp} {Q : zHp → Prop} (hc0 : zW c0) (hc1 : zW c1) (G : zG h) (F : (rI h c0 7 ≤ x2 → (zlV M_X8_copyFrom 180 [some (.ref c0), some (.ref c1), some (.int x2)] [] h Q)) ∧ (¬ (rI h c0 7 ≤ x2) → ((8 ≤ x2 → (zlV M_X8_copyFrom 180 [some (.ref c0), some (.ref c1), some (.int x2)] [] h Q)) ∧ (¬ (8 ≤ x2) → (vp_in x2 8 ∧ (zRef h (c0 + 4) ((Int32.toNatClampNeg x2)) 8 ∧ (zRef h (c1 + 4) ((Int32.toNatClampNeg x2)) 8 ∧ (zcV M_X7_copyFrom [.ref (rG h (c0 + 4) ((Int32.toNatClampNeg x2))), .ref (rG h (c1 + 4) ((Int32.toNatClampNeg x2)))] h (fun h1 => zG h1 ∧ (zlV M_X8_copyFrom 145 [some (.ref c0), some (.ref c1), some (.int (x2 + 1))] [] h1 Q)))))))))) : zlV M_X8_copyFrom 145 [some (.ref c0), some (.ref c1), some (.int x2)] [] h Q := by
  refine z_iload_n (pc := 145) dX8_copyFrom_145 rfl rfl ?_
  refine z_aload_n (pc := 146) dX8_copyFrom_146 rfl rfl ?_
  refine q_getI (pc := 147) (v := rI h c0 7) dX8_copyFrom_147 lk_RX8_56 (lyW0 hc0) rfl ?_
  refine z_icmp_ge (pc := 150) (tgt := 180) dX8_copyFrom_150 (by decide) (fun k6 => ?_) (fun k6 => ?_)
  · replace F := F.1 k6
    exact F
  · replace F := F.2 k6
    refine z_iload_n (pc := 153) dX8_copyFrom_153 rfl rfl ?_
    refine z_bipush (pc := 154) (v := 8) dX8_copyFrom_154 (by decide) ?_
    refine z_icmp_ge (pc := 156) (tgt := 180) dX8_copyFrom_156 (by decide) (fun k5 => ?_) (fun k5 => ?_)
    · replace F := F.1 k5
      exact F
    · replace F := F.2 k5
      refine z_aload_n (pc := 159) dX8_copyFrom_159 rfl rfl ?_
      refine q_getR (pc := 160) (i := c0 + 4) dX8_copyFrom_160 lk_RX8_31 (lyW0 hc0) (grW6 G hc0) ?_
      refine z_iload_n (pc := 163) dX8_copyFrom_163 rfl rfl ?_
      obtain ⟨k1, F⟩ := F
      obtain ⟨k2, F⟩ := F
      refine q_aald (pc := 164) (j := (Int32.toNatClampNeg x2)) (r := rG h (c0 + 4) ((Int32.toNatClampNeg x2))) (t := 3) dX8_copyFrom_164 (lyW4 hc0) (zvn (lnW4 hc0) k1) rfl k2.1 ?_
      refine z_aload_n (pc := 165) dX8_copyFrom_165 rfl rfl ?_
      refine q_getR (pc := 166) (i := c1 + 4) dX8_copyFrom_166 lk_RX8_31 (lyW0 hc1) (grW6 G hc1) ?_
      refine z_iload_n (pc := 169) dX8_copyFrom_169 rfl rfl ?_
      obtain ⟨k3, F⟩ := F
      refine q_aald (pc := 170) (j := (Int32.toNatClampNeg x2)) (r := rG h (c1 + 4) ((Int32.toNatClampNeg x2))) (t := 3) dX8_copyFrom_170 (lyW4 hc1) (zvn (lnW4 hc1) k1) rfl k3.1 ?_
      refine q_invV (pc := 171) (As := [.ref (rG h (c1 + 4) ((Int32.toNatClampNeg x2)))]) (st := []) dX8_copyFrom_171 ok_X7_copyFrom ml_RX8_72 iv_X7_copyFrom pa_X7_copyFrom ⟨Nat.le_of_ble_eq_true rfl, Nat.le_of_ble_eq_true rfl⟩ k2.2 (q_kV F (fun h1 F => ?_))
      obtain ⟨G1, F⟩ := F
      refine z_iinc (pc := 174) (v := x2 + 1) (ls' := [some (.ref c0), some (.ref c1), some (.int (x2 + 1))]) dX8_copyFrom_174 (by decide) rfl rfl rfl ?_
      refine z_goto (pc := 177) (tgt := 145) dX8_copyFrom_177 (by decide) ?_
      exact F
theorem g_X8_copyFrom_180 {c0 : Nat} {c1 : Nat} {x2 : Int32} {h : zHp} {Q : zHp → Prop} (hc0 : zW c0) (hc1 : zW c1) (G : zG h) (F : Q (wI (wI (wI (wI h (c0 + 5) 0 (rI h (c1 + 5) 0)) (c0 + 5) 1 (rI h (c1 + 5) 1)) c0 9 (rI h c1 9)) c0 10 (rI h c1 10))) : zlV M_X8_copyFrom 180 [some (.ref c0), some (.ref c1), some (.int x2)] [] h Q := by
  refine z_aload_n (pc := 180) dX8_copyFrom_180 rfl rfl ?_
  refine q_getR (pc := 181) (i := c0 + 5) dX8_copyFrom_181 lk_RX8_35 (lyW0 hc0) (grW8 G hc0) ?_
  refine z_iconst (pc := 184) (v := 0) dX8_copyFrom_184 (by decide) ?_
  refine z_aload_n (pc := 185) dX8_copyFrom_185 rfl rfl ?_
  refine q_getR (pc := 186) (i := c1 + 5) dX8_copyFrom_186 lk_RX8_35 (lyW0 hc1) (grW8 G hc1) ?_
  refine z_iconst (pc := 189) (v := 0) dX8_copyFrom_189 (by decide) ?_
  refine q_iald (pc := 190) (j := 0) (v := rI h (c1 + 5) 0) dX8_copyFrom_190 (lyW5 hc1) (zvl (lnW5 hc1) (by decide)) (by decide) rfl ?_
  refine q_iast (pc := 191) (j := 0) dX8_copyFrom_191 (lyW5 hc0) (zvl (lnW5 hc0) (by decide)) (by decide) ?_
  refine z_aload_n (pc := 192) dX8_copyFrom_192 rfl rfl ?_
  refine q_getR (pc := 193) (i := c0 + 5) dX8_copyFrom_193 lk_RX8_35 (lyW0 hc0) (grW8 G hc0) ?_
  refine z_iconst (pc := 196) (v := 1) dX8_copyFrom_196 (by decide) ?_
  refine z_aload_n (pc := 197) dX8_copyFrom_197 rfl rfl ?_
  refine q_getR (pc := 198) (i := c1 + 5) dX8_copyFrom_198 lk_RX8_35 (lyW0 hc1) (grW8 G hc1) ?_
  refine z_iconst (pc := 201) (v := 1) dX8_copyFrom_201 (by decide) ?_
  refine q_iald (pc := 202) (j := 1) (v := rI h (c1 + 5) 1) dX8_copyFrom_202 (lyW5 hc1) (zvl (lnW5 hc1) (by decide)) (by decide) (rI_k (by decide)) ?_
  refine q_iast (pc := 203) (j := 1) dX8_copyFrom_203 (lyW5 hc0) (zvl (lnW5 hc0) (by decide)) (by decide) ?_
  refine z_aload_n (pc := 204) dX8_copyFrom_204 rfl rfl ?_
  refine z_aload_n (pc := 205) dX8_copyFrom_205 rfl rfl ?_
  refine q_getI (pc := 206) (v := rI h c1 9) dX8_copyFrom_206 lk_RX8_59 (lyW0 hc1) ((rI_k (by decide)).trans (rI_k (by decide))) ?_
  refine q_putI (pc := 209) dX8_copyFrom_209 lk_RX8_59 (lyW0 hc0) ?_
  refine z_aload_n (pc := 212) dX8_copyFrom_212 rfl rfl ?_
  refine z_aload_n (pc := 213) dX8_copyFrom_213 rfl rfl ?_
  refine q_getI (pc := 214) (v := rI h c1 10) dX8_copyFrom_214 lk_RX8_39 (lyW0 hc1) (((rI_k (by decide)).trans (rI_k (by decide))).trans (rI_k (by decide))) ?_
  refine q_putI (pc := 217) dX8_copyFrom_217 lk_RX8_39 (lyW0 hc0) ?_
  exact q_retV (pc := 220) dX8_copyFrom_220 rfl F
