theorem g_X0_begin  {h : zHp} {Q : zHp → Prop}  (G : zG h) (F : Q (wI h 1 5 0)) : zcV M_X0_begin [.ref 1] h Q := by
  show zw zNT zNT M_X0_begin 0 [some (.ref 1)] [] h _
  refine z_aload_n (pc := 0) dX0_begin_0 rfl rfl ?_
  refine z_iconst (pc := 1) (v := 0) dX0_begin_1 (by decide) ?_
  refine q_putI (pc := 2) dX0_begin_2 lk_RX0_42 (lyc rfl) ?_
  exact q_retV (pc := 5) dX0_begin_5 rfl F
theorem g_X0_settle {x1 : Int32} {h : zHp} {Q : zHp → Prop}  (G : zG h) (F : zlV M_X0_settle 2 [some (.ref 1), some (.int x1), some (.int 0), none] [] h Q) : zcV M_X0_settle [.ref 1, .int x1] h Q := by
  show zw zNT zNT M_X0_settle 0 [some (.ref 1), some (.int x1), none, none] [] h _
  refine z_iconst (pc := 0) (v := 0) dX0_settle_0 (by decide) ?_
  refine z_istore_n (pc := 1) (ls' := [some (.ref 1), some (.int x1), some (.int 0), none]) dX0_settle_1 rfl (by decide) rfl ?_
  exact F
theorem g_X0_settle_2 {x1 : Int32} {x2 : Int32} {h : zHp} {Q : zHp → Prop}  (G : zG h) (F : (8 < x2 → (Q h)) ∧ (¬ (8 < x2) → (zcV M_X2_make [.ref 42, .ref 2, .int 5] h (fun h1 => zG h1 ∧ (zcI M_X0_dyingBits [.ref 1] h1 (fun vh2 h2 => zG h2 ∧ ((¬ vh2 = 0 → ((x1 = 0 → (zcV M_X0_bury [.ref 1, .int vh2] h2 (fun h3 => zG h3 ∧ (zlV M_X0_settle 2 [some (.ref 1), some (.int x1), some (.int (x2 + 1)), none] [] h3 Q)))) ∧ (¬ (x1 = 0) → (zcV M_X0_setOff [.ref 1, .int 1, .int vh2] h2 (fun h4 => zG h4 ∧ (zcV M_X0_bury [.ref 1, .int vh2] h4 (fun h5 => zG h5 ∧ (zlV M_X0_settle 2 [some (.ref 1), some (.int x1), some (.int (x2 + 1)), none] [] h5 Q)))))))) ∧ (vh2 = 0 → (Q h2))))))))) : zlV M_X0_settle 2 [some (.ref 1), some (.int x1), some (.int x2), none] [] h Q := by
  refine z_iload_n (pc := 2) dX0_settle_2 rfl rfl ?_
  refine z_bipush (pc := 3) (v := 8) dX0_settle_3 (by decide) ?_
  refine z_icmp_gt (pc := 5) (tgt := 51) dX0_settle_5 (by decide) (fun k8 => ?_) (fun k8 => ?_)
  · replace F := F.1 k8
    exact q_retV (pc := 51) dX0_settle_51 rfl F
  · replace F := F.2 k8
    refine z_aload_n (pc := 8) dX0_settle_8 rfl rfl ?_
    refine q_getR (pc := 9) (i := 42) dX0_settle_9 lk_RX0_21 (lyc rfl) (G 1 1 42 rfl) ?_
    refine z_aload_n (pc := 12) dX0_settle_12 rfl rfl ?_
    refine q_getR (pc := 13) (i := 2) dX0_settle_13 lk_RX0_12 (lyc rfl) (G 1 0 2 rfl) ?_
    refine z_iconst (pc := 16) (v := 5) dX0_settle_16 (by decide) ?_
    refine q_invV (pc := 17) (As := [.ref 2, .int 5]) (st := []) dX0_settle_17 ok_X2_make ml_RX0_46 iv_X2_make pa_X2_make ⟨Nat.le_of_ble_eq_true rfl, Nat.le_of_ble_eq_true rfl⟩ (lyc rfl) (q_kV F (fun h1 F => ?_))
    obtain ⟨G1, F⟩ := F
    refine z_aload_n (pc := 20) dX0_settle_20 rfl rfl ?_
    refine q_invV (pc := 21) (As := []) (st := []) dX0_settle_21 ok_X0_dyingBits ml_RX0_50 iv_X0_dyingBits pa_X0_dyingBits ⟨Nat.le_of_ble_eq_true rfl, Nat.le_of_ble_eq_true rfl⟩ (lyc rfl) (q_kI F (fun vh2 h2 F => ?_))
    obtain ⟨G2, F⟩ := F
    refine z_istore_n (pc := 24) (ls' := [some (.ref 1), some (.int x1), some (.int x2), some (.int vh2)]) dX0_settle_24 rfl (by decide) rfl ?_
    refine z_iload_n (pc := 25) dX0_settle_25 rfl rfl ?_
    refine z_if_ne (pc := 26) (tgt := 30) dX0_settle_26 (by decide) (fun k7 => ?_) (fun k7 => ?_)
    · replace F := F.1 k7
      refine z_iload_n (pc := 30) dX0_settle_30 rfl rfl ?_
      refine z_if_eq (pc := 31) (tgt := 40) dX0_settle_31 (by decide) (fun k6 => ?_) (fun k6 => ?_)
      · replace F := F.1 k6
        refine z_aload_n (pc := 40) dX0_settle_40 rfl rfl ?_
        refine z_iload_n (pc := 41) dX0_settle_41 rfl rfl ?_
        refine q_invV (pc := 42) (As := [.int vh2]) (st := []) dX0_settle_42 ok_X0_bury ml_RX0_58 iv_X0_bury pa_X0_bury ⟨Nat.le_of_ble_eq_true rfl, Nat.le_of_ble_eq_true rfl⟩ (lyc rfl) (q_kV F (fun h3 F => ?_))
        obtain ⟨G3, F⟩ := F
        refine z_iinc (pc := 45) (v := x2 + 1) (ls' := [some (.ref 1), some (.int x1), some (.int (x2 + 1)), some (.int vh2)]) dX0_settle_45 (by decide) rfl rfl rfl ?_
        refine z_goto (pc := 48) (tgt := 2) dX0_settle_48 (by decide) ?_
        exact q_sub (ls' := [some (.ref 1), some (.int x1), some (.int (x2 + 1)), none]) ⟨rfl, rfl, rfl, trivial⟩ F
      · replace F := F.2 k6
        refine z_aload_n (pc := 34) dX0_settle_34 rfl rfl ?_
        refine z_iconst (pc := 35) (v := 1) dX0_settle_35 (by decide) ?_
        refine z_iload_n (pc := 36) dX0_settle_36 rfl rfl ?_
        refine q_invV (pc := 37) (As := [.int 1, .int vh2]) (st := []) dX0_settle_37 ok_X0_setOff ml_RX0_54 iv_X0_setOff pa_X0_setOff ⟨Nat.le_of_ble_eq_true rfl, Nat.le_of_ble_eq_true rfl⟩ (lyc rfl) (q_kV F (fun h4 F => ?_))
        obtain ⟨G4, F⟩ := F
        refine z_aload_n (pc := 40) dX0_settle_40 rfl rfl ?_
        refine z_iload_n (pc := 41) dX0_settle_41 rfl rfl ?_
        refine q_invV (pc := 42) (As := [.int vh2]) (st := []) dX0_settle_42 ok_X0_bury ml_RX0_58 iv_X0_bury pa_X0_bury ⟨Nat.le_of_ble_eq_true rfl, Nat.le_of_ble_eq_true rfl⟩ (lyc rfl) (q_kV F (fun h5 F => ?_))
        obtain ⟨G5, F⟩ := F
        refine z_iinc (pc := 45) (v := x2 + 1) (ls' := [some (.ref 1), some (.int x1), some (.int (x2 + 1)), some (.int vh2)]) dX0_settle_45 (by decide) rfl rfl rfl ?_
        refine z_goto (pc := 48) (tgt := 2) dX0_settle_48 (by decide) ?_
        exact q_sub (ls' := [some (.ref 1), some (.int x1), some (.int (x2 + 1)), none]) ⟨rfl, rfl, rfl, trivial⟩ F
    · replace F := F.2 k7
      exact q_retV (pc := 29) dX0_settle_29 rfl F
theorem g_X0_setOff {x1 : Int32} {x2 : Int32} {h : zHp} {Q : zHp → Prop}  (G : zG h) (F : zcV M_X0_setOffOf [.ref 1, .int (rI h 2 9), .int x1, .int x2] h (fun h1 => zG h1 ∧ (zcV M_X0_setOffOf [.ref 1, .int (1 - (rI h1 2 9)), .int x1, .int x2] h1 (fun h2 => zG h2 ∧ (Q h2))))) : zcV M_X0_setOff [.ref 1, .int x1, .int x2] h Q := by
  show zw zNT zNT M_X0_setOff 0 [some (.ref 1), some (.int x1), some (.int x2)] [] h _
  refine z_aload_n (pc := 0) dX0_setOff_0 rfl rfl ?_
  refine z_aload_n (pc := 1) dX0_setOff_1 rfl rfl ?_
  refine q_getR (pc := 2) (i := 2) dX0_setOff_2 lk_RX0_12 (lyc rfl) (G 1 0 2 rfl) ?_
  refine q_getI (pc := 5) (v := rI h 2 9) dX0_setOff_5 lk_RX0_97 (lyc rfl) rfl ?_
  refine z_iload_n (pc := 8) dX0_setOff_8 rfl rfl ?_
  refine z_iload_n (pc := 9) dX0_setOff_9 rfl rfl ?_
  refine q_invV (pc := 10) (As := [.int (rI h 2 9), .int x1, .int x2]) (st := []) dX0_setOff_10 ok_X0_setOffOf ml_RX0_106 iv_X0_setOffOf pa_X0_setOffOf ⟨Nat.le_of_ble_eq_true rfl, Nat.le_of_ble_eq_true rfl⟩ (lyc rfl) (q_kV F (fun h1 F => ?_))
  obtain ⟨G1, F⟩ := F
  refine z_aload_n (pc := 13) dX0_setOff_13 rfl rfl ?_
  refine z_iconst (pc := 14) (v := 1) dX0_setOff_14 (by decide) ?_
  refine z_aload_n (pc := 15) dX0_setOff_15 rfl rfl ?_
  refine q_getR (pc := 16) (i := 2) dX0_setOff_16 lk_RX0_12 (lyc rfl) (G1 1 0 2 rfl) ?_
  refine q_getI (pc := 19) (v := rI h1 2 9) dX0_setOff_19 lk_RX0_97 (lyc rfl) rfl ?_
  refine z_isub (pc := 22) dX0_setOff_22 ?_
  refine z_iload_n (pc := 23) dX0_setOff_23 rfl rfl ?_
  refine z_iload_n (pc := 24) dX0_setOff_24 rfl rfl ?_
  refine q_invV (pc := 25) (As := [.int (1 - (rI h1 2 9)), .int x1, .int x2]) (st := []) dX0_setOff_25 ok_X0_setOffOf ml_RX0_106 iv_X0_setOffOf pa_X0_setOffOf ⟨Nat.le_of_ble_eq_true rfl, Nat.le_of_ble_eq_true rfl⟩ (lyc rfl) (q_kV F (fun h2 F => ?_))
  obtain ⟨G2, F⟩ := F
  exact q_retV (pc := 28) dX0_setOff_28 rfl F
theorem g_X0_push {x1 : Int32} {x2 : Int32} {h : zHp} {Q : zHp → Prop}  (G : zG h) (F : (rI h 1 5 < 0 → (Q h)) ∧ (¬ (rI h 1 5 < 0) → ((400 ≤ rI h 1 5 → (Q h)) ∧ (¬ (400 ≤ rI h 1 5) → (vp_in (rI h 1 5) 400 ∧ (Q (wI (wI (wI h 50 ((Int32.toNatClampNeg (rI h 1 5))) x1) 51 ((Int32.toNatClampNeg (rI h 1 5))) x2) 1 5 ((rI h 1 5) + 1)))))))) : zcV M_X0_push [.ref 1, .int x1, .int x2] h Q := by
  show zw zNT zNT M_X0_push 0 [some (.ref 1), some (.int x1), some (.int x2)] [] h _
  refine z_aload_n (pc := 0) dX0_push_0 rfl rfl ?_
  refine q_getI (pc := 1) (v := rI h 1 5) dX0_push_1 lk_RX0_42 (lyc rfl) rfl ?_
  refine z_if_lt (pc := 4) (tgt := 47) dX0_push_4 (by decide) (fun k3 => ?_) (fun k3 => ?_)
  · replace F := F.1 k3
    exact q_retV (pc := 47) dX0_push_47 rfl F
  · replace F := F.2 k3
    refine z_aload_n (pc := 7) dX0_push_7 rfl rfl ?_
    refine q_getI (pc := 8) (v := rI h 1 5) dX0_push_8 lk_RX0_42 (lyc rfl) rfl ?_
    refine z_sipush (pc := 11) (v := 400) dX0_push_11 (by decide) ?_
    refine z_icmp_ge (pc := 14) (tgt := 47) dX0_push_14 (by decide) (fun k2 => ?_) (fun k2 => ?_)
    · replace F := F.1 k2
      exact q_retV (pc := 47) dX0_push_47 rfl F
    · replace F := F.2 k2
      refine z_aload_n (pc := 17) dX0_push_17 rfl rfl ?_
      refine q_getR (pc := 18) (i := 50) dX0_push_18 lk_RX0_32 (lyc rfl) (G 1 3 50 rfl) ?_
      refine z_aload_n (pc := 21) dX0_push_21 rfl rfl ?_
      refine q_getI (pc := 22) (v := rI h 1 5) dX0_push_22 lk_RX0_42 (lyc rfl) rfl ?_
      refine z_iload_n (pc := 25) dX0_push_25 rfl rfl ?_
      obtain ⟨k1, F⟩ := F
      refine q_iast (pc := 26) (j := (Int32.toNatClampNeg (rI h 1 5))) dX0_push_26 (lyc rfl) (zvn (lnc rfl) k1) rfl ?_
      refine z_aload_n (pc := 27) dX0_push_27 rfl rfl ?_
      refine q_getR (pc := 28) (i := 51) dX0_push_28 lk_RX0_36 (lyc rfl) (G 1 4 51 rfl) ?_
      refine z_aload_n (pc := 31) dX0_push_31 rfl rfl ?_
      refine q_getI (pc := 32) (v := rI h 1 5) dX0_push_32 lk_RX0_42 (lyc rfl) (rI_c (by decide)) ?_
      refine z_iload_n (pc := 35) dX0_push_35 rfl rfl ?_
      refine q_iast (pc := 36) (j := (Int32.toNatClampNeg (rI h 1 5))) dX0_push_36 (lyc rfl) (zvn (lnc rfl) k1) rfl ?_
      refine z_aload_n (pc := 37) dX0_push_37 rfl rfl ?_
      refine z_dup (pc := 38) dX0_push_38 rfl ?_
      refine q_getI (pc := 39) (v := rI h 1 5) dX0_push_39 lk_RX0_42 (lyc rfl) ((rI_c (by decide)).trans (rI_c (by decide))) ?_
      refine z_iconst (pc := 42) (v := 1) dX0_push_42 (by decide) ?_
      refine z_iadd (pc := 43) dX0_push_43 ?_
      refine q_putI (pc := 44) dX0_push_44 lk_RX0_42 (lyc rfl) ?_
      exact q_retV (pc := 47) dX0_push_47 rfl F
theorem g_X0_finish  {h : zHp} {Q : Int32 → zHp → Prop}  (G : zG h) (F : zcV M_X0_settle [.ref 1, .int 1] h (fun h1 => zG h1 ∧ (zlI M_X0_finish 9 [some (.ref 1), some (.int 0), some (.int 0)] [] h1 Q))) : zcI M_X0_finish [.ref 1] h Q := by
  show zw zNT zNT M_X0_finish 0 [some (.ref 1), none, none] [] h _
  refine z_aload_n (pc := 0) dX0_finish_0 rfl rfl ?_
  refine z_iconst (pc := 1) (v := 1) dX0_finish_1 (by decide) ?_
  refine q_invV (pc := 2) (As := [.int 1]) (st := []) dX0_finish_2 ok_X0_settle ml_RX0_173 iv_X0_settle pa_X0_settle ⟨Nat.le_of_ble_eq_true rfl, Nat.le_of_ble_eq_true rfl⟩ (lyc rfl) (q_kV F (fun h1 F => ?_))
  obtain ⟨G1, F⟩ := F
  refine z_iconst (pc := 5) (v := 0) dX0_finish_5 (by decide) ?_
  refine z_istore_n (pc := 6) (ls' := [some (.ref 1), some (.int 0), none]) dX0_finish_6 rfl (by decide) rfl ?_
  refine z_iconst (pc := 7) (v := 0) dX0_finish_7 (by decide) ?_
  refine z_istore_n (pc := 8) (ls' := [some (.ref 1), some (.int 0), some (.int 0)]) dX0_finish_8 rfl (by decide) rfl ?_
  exact F
theorem g_X0_finish_9 {x1 : Int32} {x2 : Int32} {h : zHp} {Q : Int32 → zHp → Prop}  (G : zG h) (F : (40 ≤ x2 → ((rI h 1 5 ≤ 0 → (Q x1 h)) ∧ (¬ (rI h 1 5 ≤ 0) → (Q (-5) h)))) ∧ (¬ (40 ≤ x2) → (zcI M_X10_within [.int (rI h 1 5), .int 1, .int 400] h (fun vh1 h1 => zG h1 ∧ ((vh1 = 0 → ((rI h1 1 5 ≤ 0 → (Q x1 h1)) ∧ (¬ (rI h1 1 5 ≤ 0) → (Q (-5) h1)))) ∧ (¬ (vh1 = 0) → (vp_in ((rI h1 1 5) - 1) 400 ∧ (vp_in x2 40 ∧ (zcV M_X0_act [.ref 1, .int (rI h1 50 ((Int32.toNatClampNeg ((rI h1 1 5) - 1)))), .int (rI h1 51 ((Int32.toNatClampNeg ((rI h1 1 5) - 1))))] (wI (wI h1 1 5 ((rI h1 1 5) - 1)) 52 ((Int32.toNatClampNeg x2)) (rI h1 50 ((Int32.toNatClampNeg ((rI h1 1 5) - 1))))) (fun h2 => zG h2 ∧ (zcV M_X0_settle [.ref 1, .int 1] h2 (fun h3 => zG h3 ∧ (zlI M_X0_finish 9 [some (.ref 1), some (.int (x1 + 1)), some (.int (x2 + 1))] [] h3 Q))))))))))))) : zlI M_X0_finish 9 [some (.ref 1), some (.int x1), some (.int x2)] [] h Q := by
  refine z_iload_n (pc := 9) dX0_finish_9 rfl rfl ?_
  refine z_bipush (pc := 10) (v := 40) dX0_finish_10 (by decide) ?_
  refine z_icmp_ge (pc := 12) (tgt := 90) dX0_finish_12 (by decide) (fun k9 => ?_) (fun k9 => ?_)
  · replace F := F.1 k9
    refine z_aload_n (pc := 90) dX0_finish_90 rfl rfl ?_
    refine q_getI (pc := 91) (v := rI h 1 5) dX0_finish_91 lk_RX0_42 (lyc rfl) rfl ?_
    refine z_if_le (pc := 94) (tgt := 102) dX0_finish_94 (by decide) (fun k1 => ?_) (fun k1 => ?_)
    · replace F := F.1 k1
      refine z_iload_n (pc := 102) dX0_finish_102 rfl rfl ?_
      exact q_retI (pc := 103) dX0_finish_103 rfl F
    · replace F := F.2 k1
      refine z_bipush (pc := 97) (v := -5) dX0_finish_97 (by decide) ?_
      refine z_goto (pc := 99) (tgt := 103) dX0_finish_99 (by decide) ?_
      exact q_retI (pc := 103) dX0_finish_103 rfl F
  · replace F := F.2 k9
    refine z_aload_n (pc := 15) dX0_finish_15 rfl rfl ?_
    refine q_getI (pc := 16) (v := rI h 1 5) dX0_finish_16 lk_RX0_42 (lyc rfl) rfl ?_
    refine z_iconst (pc := 19) (v := 1) dX0_finish_19 (by decide) ?_
    refine z_sipush (pc := 20) (v := 400) dX0_finish_20 (by decide) ?_
    refine q_invS (pc := 23) (As := [.int (rI h 1 5), .int 1, .int 400]) (st := []) dX0_finish_23 ok_X10_within ml_RX0_177 st_X10_within pa_X10_within ⟨Nat.le_of_ble_eq_true rfl, Nat.le_of_ble_eq_true rfl⟩ (q_kI F (fun vh1 h1 F => ?_))
    obtain ⟨G1, F⟩ := F
    refine z_if_eq (pc := 26) (tgt := 90) dX0_finish_26 (by decide) (fun k8 => ?_) (fun k8 => ?_)
    · replace F := F.1 k8
      refine z_aload_n (pc := 90) dX0_finish_90 rfl rfl ?_
      refine q_getI (pc := 91) (v := rI h1 1 5) dX0_finish_91 lk_RX0_42 (lyc rfl) rfl ?_
      refine z_if_le (pc := 94) (tgt := 102) dX0_finish_94 (by decide) (fun k3 => ?_) (fun k3 => ?_)
      · replace F := F.1 k3
        refine z_iload_n (pc := 102) dX0_finish_102 rfl rfl ?_
        exact q_retI (pc := 103) dX0_finish_103 rfl F
      · replace F := F.2 k3
        refine z_bipush (pc := 97) (v := -5) dX0_finish_97 (by decide) ?_
        refine z_goto (pc := 99) (tgt := 103) dX0_finish_99 (by decide) ?_
        exact q_retI (pc := 103) dX0_finish_103 rfl F
    · replace F := F.2 k8
      refine z_aload_n (pc := 29) dX0_finish_29 rfl rfl ?_
      refine z_dup (pc := 30) dX0_finish_30 rfl ?_
      refine q_getI (pc := 31) (v := rI h1 1 5) dX0_finish_31 lk_RX0_42 (lyc rfl) rfl ?_
      refine z_iconst (pc := 34) (v := 1) dX0_finish_34 (by decide) ?_
      refine z_isub (pc := 35) dX0_finish_35 ?_
      refine q_putI (pc := 36) dX0_finish_36 lk_RX0_42 (lyc rfl) ?_
      refine z_aload_n (pc := 39) dX0_finish_39 rfl rfl ?_
      refine q_getR (pc := 40) (i := 52) dX0_finish_40 lk_RX0_39 (lyc rfl) (G1 1 6 52 rfl) ?_
      refine z_iload_n (pc := 43) dX0_finish_43 rfl rfl ?_
      refine z_aload_n (pc := 44) dX0_finish_44 rfl rfl ?_
      refine q_getR (pc := 45) (i := 50) dX0_finish_45 lk_RX0_32 (lyc rfl) (G1 1 3 50 rfl) ?_
      refine z_aload_n (pc := 48) dX0_finish_48 rfl rfl ?_
      refine q_getI (pc := 49) (v := (rI h1 1 5) - 1) dX0_finish_49 lk_RX0_42 (lyc rfl) rI_s ?_
      obtain ⟨k4, F⟩ := F
      refine q_iald (pc := 52) (j := (Int32.toNatClampNeg ((rI h1 1 5) - 1))) (v := rI h1 50 ((Int32.toNatClampNeg ((rI h1 1 5) - 1)))) dX0_finish_52 (lyc rfl) (zvn (lnc rfl) k4) rfl (rI_c (by decide)) ?_
      obtain ⟨k5, F⟩ := F
      refine q_iast (pc := 53) (j := (Int32.toNatClampNeg x2)) dX0_finish_53 (lyc rfl) (zvn (lnc rfl) k5) rfl ?_
      refine z_aload_n (pc := 54) dX0_finish_54 rfl rfl ?_
      refine z_aload_n (pc := 55) dX0_finish_55 rfl rfl ?_
      refine q_getR (pc := 56) (i := 50) dX0_finish_56 lk_RX0_32 (lyc rfl) (G1 1 3 50 rfl) ?_
      refine z_aload_n (pc := 59) dX0_finish_59 rfl rfl ?_
      refine q_getI (pc := 60) (v := (rI h1 1 5) - 1) dX0_finish_60 lk_RX0_42 (lyc rfl) ((rI_c (by decide)).trans rI_s) ?_
      refine q_iald (pc := 63) (j := (Int32.toNatClampNeg ((rI h1 1 5) - 1))) (v := rI h1 50 ((Int32.toNatClampNeg ((rI h1 1 5) - 1)))) dX0_finish_63 (lyc rfl) (zvn (lnc rfl) k4) rfl ((rI_c (by decide)).trans (rI_c (by decide))) ?_
      refine z_aload_n (pc := 64) dX0_finish_64 rfl rfl ?_
      refine q_getR (pc := 65) (i := 51) dX0_finish_65 lk_RX0_36 (lyc rfl) (G1 1 4 51 rfl) ?_
      refine z_aload_n (pc := 68) dX0_finish_68 rfl rfl ?_
      refine q_getI (pc := 69) (v := (rI h1 1 5) - 1) dX0_finish_69 lk_RX0_42 (lyc rfl) ((rI_c (by decide)).trans rI_s) ?_
      refine q_iald (pc := 72) (j := (Int32.toNatClampNeg ((rI h1 1 5) - 1))) (v := rI h1 51 ((Int32.toNatClampNeg ((rI h1 1 5) - 1)))) dX0_finish_72 (lyc rfl) (zvn (lnc rfl) k4) rfl ((rI_c (by decide)).trans (rI_c (by decide))) ?_
      refine q_invV (pc := 73) (As := [.int (rI h1 50 ((Int32.toNatClampNeg ((rI h1 1 5) - 1)))), .int (rI h1 51 ((Int32.toNatClampNeg ((rI h1 1 5) - 1))))]) (st := []) dX0_finish_73 ok_X0_act ml_RX0_181 iv_X0_act pa_X0_act ⟨Nat.le_of_ble_eq_true rfl, Nat.le_of_ble_eq_true rfl⟩ (lyc rfl) (q_kV F (fun h2 F => ?_))
      obtain ⟨G2, F⟩ := F
      refine z_aload_n (pc := 76) dX0_finish_76 rfl rfl ?_
      refine z_iconst (pc := 77) (v := 1) dX0_finish_77 (by decide) ?_
      refine q_invV (pc := 78) (As := [.int 1]) (st := []) dX0_finish_78 ok_X0_settle ml_RX0_173 iv_X0_settle pa_X0_settle ⟨Nat.le_of_ble_eq_true rfl, Nat.le_of_ble_eq_true rfl⟩ (lyc rfl) (q_kV F (fun h3 F => ?_))
      obtain ⟨G3, F⟩ := F
      refine z_iinc (pc := 81) (v := x1 + 1) (ls' := [some (.ref 1), some (.int (x1 + 1)), some (.int x2)]) dX0_finish_81 (by decide) rfl rfl rfl ?_
      refine z_iinc (pc := 84) (v := x2 + 1) (ls' := [some (.ref 1), some (.int (x1 + 1)), some (.int (x2 + 1))]) dX0_finish_84 (by decide) rfl rfl rfl ?_
      refine z_goto (pc := 87) (tgt := 9) dX0_finish_87 (by decide) ?_
      exact F
theorem g_X1_become {c0 : Nat} {x1 : Int32} {x2 : Int32} {x3 : Int32} {x4 : Int32} {x5 : Int32} {h : zHp} {Q : zHp → Prop} (hc0 : ly c0 = 2) (G : zG h) (F : Q (wI (wI (wI (wI (wI (wI (wI h c0 0 (-1)) c0 1 x1) c0 2 x2) c0 3 x3) c0 4 x4) c0 5 x5) c0 6 0)) : zcV M_X1_become [.ref c0, .int x1, .int x2, .int x3, .int x4, .int x5] h Q := by
  show zw zNT zNT M_X1_become 0 [some (.ref c0), some (.int x1), some (.int x2), some (.int x3), some (.int x4), some (.int x5)] [] h _
  refine z_aload_n (pc := 0) dX1_become_0 rfl rfl ?_
  refine z_iconst (pc := 1) (v := -1) dX1_become_1 (by decide) ?_
  refine q_putI (pc := 2) dX1_become_2 lk_RX1_9 hc0 ?_
  refine z_aload_n (pc := 5) dX1_become_5 rfl rfl ?_
  refine z_iload_n (pc := 6) dX1_become_6 rfl rfl ?_
  refine q_putI (pc := 7) dX1_become_7 lk_RX1_15 hc0 ?_
  refine z_aload_n (pc := 10) dX1_become_10 rfl rfl ?_
  refine z_iload_n (pc := 11) dX1_become_11 rfl rfl ?_
  refine q_putI (pc := 12) dX1_become_12 lk_RX1_18 hc0 ?_
  refine z_aload_n (pc := 15) dX1_become_15 rfl rfl ?_
  refine z_iload_n (pc := 16) dX1_become_16 rfl rfl ?_
  refine q_putI (pc := 17) dX1_become_17 lk_RX1_21 hc0 ?_
  refine z_aload_n (pc := 20) dX1_become_20 rfl rfl ?_
  refine z_iload (pc := 21) dX1_become_21 rfl ?_
  refine q_putI (pc := 23) dX1_become_23 lk_RX1_24 hc0 ?_
  refine z_aload_n (pc := 26) dX1_become_26 rfl rfl ?_
  refine z_iload (pc := 27) dX1_become_27 rfl ?_
  refine q_putI (pc := 29) dX1_become_29 lk_RX1_27 hc0 ?_
  refine z_aload_n (pc := 32) dX1_become_32 rfl rfl ?_
  refine z_iconst (pc := 33) (v := 0) dX1_become_33 (by decide) ?_
  refine q_putI (pc := 34) dX1_become_34 lk_RX1_30 hc0 ?_
  exact q_retV (pc := 37) dX1_become_37 rfl F
theorem g_X1_layer {c0 : Nat} {h : zHp} {Q : Int32 → zHp → Prop} (hc0 : ly c0 = 2) (G : zG h) (F : zcI M_X10_within [.int (rI h c0 1), .int 0, .int 5] h (fun vh1 h1 => zG h1 ∧ ((vh1 = 0 → (Q 5 h1)) ∧ (¬ (vh1 = 0) → (vp_in (rI h1 c0 1) 6 ∧ (Q (zLO (Int32.toNatClampNeg (rI h1 c0 1))) h1)))))) : zcI M_X1_layer [.ref c0] h Q := by
  show zw zNT zNT M_X1_layer 0 [some (.ref c0)] [] h _
  refine z_aload_n (pc := 0) dX1_layer_0 rfl rfl ?_
  refine q_getI (pc := 1) (v := rI h c0 1) dX1_layer_1 lk_RX1_15 hc0 rfl ?_
  refine z_iconst (pc := 4) (v := 0) dX1_layer_4 (by decide) ?_
  refine z_iconst (pc := 5) (v := 5) dX1_layer_5 (by decide) ?_
  refine q_invS (pc := 6) (As := [.int (rI h c0 1), .int 0, .int 5]) (st := []) dX1_layer_6 ok_X10_within ml_RX1_33 st_X10_within pa_X10_within ⟨Nat.le_of_ble_eq_true rfl, Nat.le_of_ble_eq_true rfl⟩ (q_kI F (fun vh1 h1 F => ?_))
  obtain ⟨G1, F⟩ := F
  refine z_if_eq (pc := 9) (tgt := 23) dX1_layer_9 (by decide) (fun k3 => ?_) (fun k3 => ?_)
  · replace F := F.1 k3
    refine z_iconst (pc := 23) (v := 5) dX1_layer_23 (by decide) ?_
    exact q_retI (pc := 24) dX1_layer_24 rfl F
  · replace F := F.2 k3
    refine z_gsN (pc := 12) (i := 1000) (own := RX1) (nm := "LAYER_OF") (host := "LayeredRules") dX1_layer_12 (List.mem_of_getElem? (i := 0) rfl) rfl (Or.inl ⟨rfl, rfl⟩) ?_
    refine z_aload_n (pc := 15) dX1_layer_15 rfl rfl ?_
    refine q_getI (pc := 16) (v := rI h1 c0 1) dX1_layer_16 lk_RX1_15 hc0 rfl ?_
    obtain ⟨k2, F⟩ := F
    refine z_ldLO (pc := 19) dX1_layer_19 k2 rfl ?_
    refine z_goto (pc := 20) (tgt := 24) dX1_layer_20 (by decide) ?_
    exact q_retI (pc := 24) dX1_layer_24 rfl F
theorem g_X1_copyFrom {c0 : Nat} {c1 : Nat} {h : zHp} {Q : zHp → Prop} (hc0 : ly c0 = 2) (hc1 : ly c1 = 2) (G : zG h) (F : Q (wI (wI (wI (wI (wI (wI (wI h c0 0 (rI h c1 0)) c0 1 (rI h c1 1)) c0 2 (rI h c1 2)) c0 3 (rI h c1 3)) c0 4 (rI h c1 4)) c0 5 (rI h c1 5)) c0 6 (rI h c1 6))) : zcV M_X1_copyFrom [.ref c0, .ref c1] h Q := by
  show zw zNT zNT M_X1_copyFrom 0 [some (.ref c0), some (.ref c1)] [] h _
  refine z_aload_n (pc := 0) dX1_copyFrom_0 rfl rfl ?_
  refine z_aload_n (pc := 1) dX1_copyFrom_1 rfl rfl ?_
  refine q_getI (pc := 2) (v := rI h c1 0) dX1_copyFrom_2 lk_RX1_9 hc1 rfl ?_
  refine q_putI (pc := 5) dX1_copyFrom_5 lk_RX1_9 hc0 ?_
  refine z_aload_n (pc := 8) dX1_copyFrom_8 rfl rfl ?_
  refine z_aload_n (pc := 9) dX1_copyFrom_9 rfl rfl ?_
  refine q_getI (pc := 10) (v := rI h c1 1) dX1_copyFrom_10 lk_RX1_15 hc1 (rI_k (by decide)) ?_
  refine q_putI (pc := 13) dX1_copyFrom_13 lk_RX1_15 hc0 ?_
  refine z_aload_n (pc := 16) dX1_copyFrom_16 rfl rfl ?_
  refine z_aload_n (pc := 17) dX1_copyFrom_17 rfl rfl ?_
  refine q_getI (pc := 18) (v := rI h c1 2) dX1_copyFrom_18 lk_RX1_18 hc1 ((rI_k (by decide)).trans (rI_k (by decide))) ?_
  refine q_putI (pc := 21) dX1_copyFrom_21 lk_RX1_18 hc0 ?_
  refine z_aload_n (pc := 24) dX1_copyFrom_24 rfl rfl ?_
  refine z_aload_n (pc := 25) dX1_copyFrom_25 rfl rfl ?_
  refine q_getI (pc := 26) (v := rI h c1 3) dX1_copyFrom_26 lk_RX1_21 hc1 (((rI_k (by decide)).trans (rI_k (by decide))).trans (rI_k (by decide))) ?_
  refine q_putI (pc := 29) dX1_copyFrom_29 lk_RX1_21 hc0 ?_
  refine z_aload_n (pc := 32) dX1_copyFrom_32 rfl rfl ?_
  refine z_aload_n (pc := 33) dX1_copyFrom_33 rfl rfl ?_
  refine q_getI (pc := 34) (v := rI h c1 4) dX1_copyFrom_34 lk_RX1_24 hc1 ((((rI_k (by decide)).trans (rI_k (by decide))).trans (rI_k (by decide))).trans (rI_k (by decide))) ?_
  refine q_putI (pc := 37) dX1_copyFrom_37 lk_RX1_24 hc0 ?_
  refine z_aload_n (pc := 40) dX1_copyFrom_40 rfl rfl ?_
  refine z_aload_n (pc := 41) dX1_copyFrom_41 rfl rfl ?_
  refine q_getI (pc := 42) (v := rI h c1 5) dX1_copyFrom_42 lk_RX1_27 hc1 (((((rI_k (by decide)).trans (rI_k (by decide))).trans (rI_k (by decide))).trans (rI_k (by decide))).trans (rI_k (by decide))) ?_
  refine q_putI (pc := 45) dX1_copyFrom_45 lk_RX1_27 hc0 ?_
  refine z_aload_n (pc := 48) dX1_copyFrom_48 rfl rfl ?_
  refine z_aload_n (pc := 49) dX1_copyFrom_49 rfl rfl ?_
  refine q_getI (pc := 50) (v := rI h c1 6) dX1_copyFrom_50 lk_RX1_30 hc1 ((((((rI_k (by decide)).trans (rI_k (by decide))).trans (rI_k (by decide))).trans (rI_k (by decide))).trans (rI_k (by decide))).trans (rI_k (by decide))) ?_
  refine q_putI (pc := 53) dX1_copyFrom_53 lk_RX1_30 hc0 ?_
  exact q_retV (pc := 56) dX1_copyFrom_56 rfl F
theorem g_X2_record {c0 : Nat} {x1 : Int32} {h : zHp} {Q : zHp → Prop} (hc0 : zLo c0) (G : zG h) (F : (10 ≤ rI h c0 5 → (Q h)) ∧ (¬ (10 ≤ rI h c0 5) → (vp_in (rI h c0 5) 10 ∧ (Q (wI (wI h (c0 + 5) ((Int32.toNatClampNeg (rI h c0 5))) x1) c0 5 ((rI h c0 5) + 1)))))) : zcV M_X2_record [.ref c0, .int x1] h Q := by
  show zw zNT zNT M_X2_record 0 [some (.ref c0), some (.int x1)] [] h _
  refine z_aload_n (pc := 0) dX2_record_0 rfl rfl ?_
  refine q_getI (pc := 1) (v := rI h c0 5) dX2_record_1 lk_RX2_45 (lyLo0 hc0) rfl ?_
  refine z_bipush (pc := 4) (v := 10) dX2_record_4 (by decide) ?_
  refine z_icmp_ge (pc := 6) (tgt := 29) dX2_record_6 (by decide) (fun k2 => ?_) (fun k2 => ?_)
  · replace F := F.1 k2
    exact q_retV (pc := 29) dX2_record_29 rfl F
  · replace F := F.2 k2
    refine z_aload_n (pc := 9) dX2_record_9 rfl rfl ?_
    refine q_getR (pc := 10) (i := c0 + 5) dX2_record_10 lk_RX2_24 (lyLo0 hc0) (grLo4 G hc0) ?_
    refine z_aload_n (pc := 13) dX2_record_13 rfl rfl ?_
    refine q_getI (pc := 14) (v := rI h c0 5) dX2_record_14 lk_RX2_45 (lyLo0 hc0) rfl ?_
    refine z_iload_n (pc := 17) dX2_record_17 rfl rfl ?_
    obtain ⟨k1, F⟩ := F
    refine q_iast (pc := 18) (j := (Int32.toNatClampNeg (rI h c0 5))) dX2_record_18 (lyLo5 hc0) (zvn (lnLo5 hc0) k1) rfl ?_
    refine z_aload_n (pc := 19) dX2_record_19 rfl rfl ?_
    refine z_dup (pc := 20) dX2_record_20 rfl ?_
    refine q_getI (pc := 21) (v := rI h c0 5) dX2_record_21 lk_RX2_45 (lyLo0 hc0) (rI_c (zne (lyLo0 hc0) (lyLo5 hc0) (by decide))) ?_
    refine z_iconst (pc := 24) (v := 1) dX2_record_24 (by decide) ?_
    refine z_iadd (pc := 25) dX2_record_25 ?_
    refine q_putI (pc := 26) dX2_record_26 lk_RX2_45 (lyLo0 hc0) ?_
    exact q_retV (pc := 29) dX2_record_29 rfl F
theorem g_X2_typeUnder {c0 : Nat} {c1 : Nat} {x2 : Int32} {h : zHp} {Q : Int32 → zHp → Prop} (hc0 : zLo c0) (hc1 : ly c1 = 2) (G : zG h) (F : (¬ rI h c1 1 = 0 → (vp_in x2 8 ∧ (Q (rI h (c0 + 1) ((Int32.toNatClampNeg x2))) h))) ∧ (rI h c1 1 = 0 → (Q (rI h c1 4) h))) : zcI M_X2_typeUnder [.ref c0, .ref c1, .int x2] h Q := by
  show zw zNT zNT M_X2_typeUnder 0 [some (.ref c0), some (.ref c1), some (.int x2)] [] h _
  refine z_aload_n (pc := 0) dX2_typeUnder_0 rfl rfl ?_
  refine q_getI (pc := 1) (v := rI h c1 1) dX2_typeUnder_1 lk_RX2_109 hc1 rfl ?_
  refine z_if_ne (pc := 4) (tgt := 14) dX2_typeUnder_4 (by decide) (fun k2 => ?_) (fun k2 => ?_)
  · replace F := F.1 k2
    refine z_aload_n (pc := 14) dX2_typeUnder_14 rfl rfl ?_
    refine q_getR (pc := 15) (i := c0 + 1) dX2_typeUnder_15 lk_RX2_9 (lyLo0 hc0) (grLo0 G hc0) ?_
    refine z_iload_n (pc := 18) dX2_typeUnder_18 rfl rfl ?_
    obtain ⟨k1, F⟩ := F
    refine q_iald (pc := 19) (j := (Int32.toNatClampNeg x2)) (v := rI h (c0 + 1) ((Int32.toNatClampNeg x2))) dX2_typeUnder_19 (lyLo1 hc0) (zvn (lnLo1 hc0) k1) rfl rfl ?_
    exact q_retI (pc := 20) dX2_typeUnder_20 rfl F
  · replace F := F.2 k2
    refine z_aload_n (pc := 7) dX2_typeUnder_7 rfl rfl ?_
    refine q_getI (pc := 8) (v := rI h c1 4) dX2_typeUnder_8 lk_RX2_112 hc1 rfl ?_
    refine z_goto (pc := 11) (tgt := 20) dX2_typeUnder_11 (by decide) ?_
    exact q_retI (pc := 20) dX2_typeUnder_20 rfl F
theorem g_X2_marksUnder {c0 : Nat} {c1 : Nat} {x2 : Int32} {h : zHp} {Q : Int32 → zHp → Prop} (hc0 : zLo c0) (hc1 : ly c1 = 2) (G : zG h) (F : (¬ rI h c1 1 = 1 → ((¬ rI h c1 1 = 2 → (vp_in x2 8 ∧ (Q (rI h (c0 + 2) ((Int32.toNatClampNeg x2))) h))) ∧ (rI h c1 1 = 2 → (vp_in x2 8 ∧ (Q ((rI h (c0 + 2) ((Int32.toNatClampNeg x2))) &&& ((1 <<< ((rI h c1 4) &&& 31)) ^^^ (-1))) h))))) ∧ (rI h c1 1 = 1 → (vp_in x2 8 ∧ (Q ((rI h (c0 + 2) ((Int32.toNatClampNeg x2))) ||| (1 <<< ((rI h c1 4) &&& 31))) h)))) : zcI M_X2_marksUnder [.ref c0, .ref c1, .int x2] h Q := by
  show zw zNT zNT M_X2_marksUnder 0 [some (.ref c0), some (.ref c1), some (.int x2)] [] h _
  refine z_aload_n (pc := 0) dX2_marksUnder_0 rfl rfl ?_
  refine q_getI (pc := 1) (v := rI h c1 1) dX2_marksUnder_1 lk_RX2_109 hc1 rfl ?_
  refine z_iconst (pc := 4) (v := 1) dX2_marksUnder_4 (by decide) ?_
  refine z_icmp_ne (pc := 5) (tgt := 22) dX2_marksUnder_5 (by decide) (fun k5 => ?_) (fun k5 => ?_)
  · replace F := F.1 k5
    refine z_aload_n (pc := 22) dX2_marksUnder_22 rfl rfl ?_
    refine q_getI (pc := 23) (v := rI h c1 1) dX2_marksUnder_23 lk_RX2_109 hc1 rfl ?_
    refine z_iconst (pc := 26) (v := 2) dX2_marksUnder_26 (by decide) ?_
    refine z_icmp_ne (pc := 27) (tgt := 48) dX2_marksUnder_27 (by decide) (fun k3 => ?_) (fun k3 => ?_)
    · replace F := F.1 k3
      refine z_aload_n (pc := 48) dX2_marksUnder_48 rfl rfl ?_
      refine q_getR (pc := 49) (i := c0 + 2) dX2_marksUnder_49 lk_RX2_15 (lyLo0 hc0) (grLo1 G hc0) ?_
      refine z_iload_n (pc := 52) dX2_marksUnder_52 rfl rfl ?_
      obtain ⟨k1, F⟩ := F
      refine q_iald (pc := 53) (j := (Int32.toNatClampNeg x2)) (v := rI h (c0 + 2) ((Int32.toNatClampNeg x2))) dX2_marksUnder_53 (lyLo2 hc0) (zvn (lnLo2 hc0) k1) rfl rfl ?_
      exact q_retI (pc := 54) dX2_marksUnder_54 rfl F
    · replace F := F.2 k3
      refine z_aload_n (pc := 30) dX2_marksUnder_30 rfl rfl ?_
      refine q_getR (pc := 31) (i := c0 + 2) dX2_marksUnder_31 lk_RX2_15 (lyLo0 hc0) (grLo1 G hc0) ?_
      refine z_iload_n (pc := 34) dX2_marksUnder_34 rfl rfl ?_
      obtain ⟨k2, F⟩ := F
      refine q_iald (pc := 35) (j := (Int32.toNatClampNeg x2)) (v := rI h (c0 + 2) ((Int32.toNatClampNeg x2))) dX2_marksUnder_35 (lyLo2 hc0) (zvn (lnLo2 hc0) k2) rfl rfl ?_
      refine z_iconst (pc := 36) (v := 1) dX2_marksUnder_36 (by decide) ?_
      refine z_aload_n (pc := 37) dX2_marksUnder_37 rfl rfl ?_
      refine q_getI (pc := 38) (v := rI h c1 4) dX2_marksUnder_38 lk_RX2_112 hc1 rfl ?_
      refine z_ishl (pc := 41) dX2_marksUnder_41 ?_
      refine z_iconst (pc := 42) (v := -1) dX2_marksUnder_42 (by decide) ?_
      refine z_ixor (pc := 43) dX2_marksUnder_43 ?_
      refine z_iand (pc := 44) dX2_marksUnder_44 ?_
      refine z_goto (pc := 45) (tgt := 54) dX2_marksUnder_45 (by decide) ?_
      exact q_retI (pc := 54) dX2_marksUnder_54 rfl F
  · replace F := F.2 k5
    refine z_aload_n (pc := 8) dX2_marksUnder_8 rfl rfl ?_
    refine q_getR (pc := 9) (i := c0 + 2) dX2_marksUnder_9 lk_RX2_15 (lyLo0 hc0) (grLo1 G hc0) ?_
    refine z_iload_n (pc := 12) dX2_marksUnder_12 rfl rfl ?_
    obtain ⟨k4, F⟩ := F
    refine q_iald (pc := 13) (j := (Int32.toNatClampNeg x2)) (v := rI h (c0 + 2) ((Int32.toNatClampNeg x2))) dX2_marksUnder_13 (lyLo2 hc0) (zvn (lnLo2 hc0) k4) rfl rfl ?_
    refine z_iconst (pc := 14) (v := 1) dX2_marksUnder_14 (by decide) ?_
    refine z_aload_n (pc := 15) dX2_marksUnder_15 rfl rfl ?_
    refine q_getI (pc := 16) (v := rI h c1 4) dX2_marksUnder_16 lk_RX2_112 hc1 rfl ?_
    refine z_ishl (pc := 19) dX2_marksUnder_19 ?_
    refine z_ior (pc := 20) dX2_marksUnder_20 ?_
    exact q_retI (pc := 21) dX2_marksUnder_21 rfl F
theorem g_X2_perform {c0 : Nat} {c1 : Nat} {c2 : Nat} {h : zHp} {Q : zHp → Prop} (hc0 : zLo c0) (hc1 : zW c1) (hc2 : ly c2 = 2) (G : zG h) (F : zlV M_X2_perform 2 [some (.ref c0), some (.ref c1), some (.ref c2), some (.int 0)] [] h Q) : zcV M_X2_perform [.ref c0, .ref c1, .ref c2] h Q := by
  show zw zNT zNT M_X2_perform 0 [some (.ref c0), some (.ref c1), some (.ref c2), none] [] h _
  refine z_iconst (pc := 0) (v := 0) dX2_perform_0 (by decide) ?_
  refine z_istore_n (pc := 1) (ls' := [some (.ref c0), some (.ref c1), some (.ref c2), some (.int 0)]) dX2_perform_1 rfl (by decide) rfl ?_
  exact F
theorem g_X2_perform_2 {c0 : Nat} {c1 : Nat} {c2 : Nat} {x3 : Int32} {h : zHp} {Q : zHp → Prop} (hc0 : zLo c0) (hc1 : zW c1) (hc2 : ly c2 = 2) (G : zG h) (F : (rI h c1 1 ≤ x3 → (Q h)) ∧ (¬ (rI h c1 1 ≤ x3) → (zcI M_X2_holds [.ref c0, .ref c1, .int x3, .int (rI h c2 2), .int (rI h c2 3)] h (fun vh1 h1 => zG h1 ∧ ((vh1 = 0 → (zlV M_X2_perform 2 [some (.ref c0), some (.ref c1), some (.ref c2), some (.int (x3 + 1))] [] h1 Q)) ∧ (¬ (vh1 = 0) → (zcI M_X2_typeUnder [.ref c0, .ref c2, .int x3] h1 (fun vh2 h2 => zG h2 ∧ (vp_in x3 8 ∧ (zcI M_X2_marksUnder [.ref c0, .ref c2, .int x3] (wI h2 (c0 + 1) ((Int32.toNatClampNeg x3)) vh2) (fun vh3 h3 => zG h3 ∧ (zcV M_X2_changeStrength [.ref c0, .ref c2, .int x3] (wI h3 (c0 + 2) ((Int32.toNatClampNeg x3)) vh3) (fun h4 => zG h4 ∧ (zlV M_X2_perform 2 [some (.ref c0), some (.ref c1), some (.ref c2), some (.int (x3 + 1))] [] h4 Q)))))))))))))) : zlV M_X2_perform 2 [some (.ref c0), some (.ref c1), some (.ref c2), some (.int x3)] [] h Q := by
  refine z_iload_n (pc := 2) dX2_perform_2 rfl rfl ?_
  refine z_aload_n (pc := 3) dX2_perform_3 rfl rfl ?_
  refine q_getI (pc := 4) (v := rI h c1 1) dX2_perform_4 lk_RX2_27 (lyW0 hc1) rfl ?_
  refine z_icmp_ge (pc := 7) (tgt := 63) dX2_perform_7 (by decide) (fun k7 => ?_) (fun k7 => ?_)
  · replace F := F.1 k7
    exact q_retV (pc := 63) dX2_perform_63 rfl F
  · replace F := F.2 k7
    refine z_aload_n (pc := 10) dX2_perform_10 rfl rfl ?_
    refine z_aload_n (pc := 11) dX2_perform_11 rfl rfl ?_
    refine z_iload_n (pc := 12) dX2_perform_12 rfl rfl ?_
    refine z_aload_n (pc := 13) dX2_perform_13 rfl rfl ?_
    refine q_getI (pc := 14) (v := rI h c2 2) dX2_perform_14 lk_RX2_86 hc2 rfl ?_
    refine z_aload_n (pc := 17) dX2_perform_17 rfl rfl ?_
    refine q_getI (pc := 18) (v := rI h c2 3) dX2_perform_18 lk_RX2_91 hc2 rfl ?_
    refine q_invV (pc := 21) (As := [.ref c1, .int x3, .int (rI h c2 2), .int (rI h c2 3)]) (st := []) dX2_perform_21 ok_X2_holds ml_RX2_94 iv_X2_holds pa_X2_holds ⟨Nat.le_of_ble_eq_true rfl, Nat.le_of_ble_eq_true rfl⟩ (lyLo0 hc0) (q_kI F (fun vh1 h1 F => ?_))
    obtain ⟨G1, F⟩ := F
    refine z_if_eq (pc := 24) (tgt := 57) dX2_perform_24 (by decide) (fun k6 => ?_) (fun k6 => ?_)
    · replace F := F.1 k6
      refine z_iinc (pc := 57) (v := x3 + 1) (ls' := [some (.ref c0), some (.ref c1), some (.ref c2), some (.int (x3 + 1))]) dX2_perform_57 (by decide) rfl rfl rfl ?_
      refine z_goto (pc := 60) (tgt := 2) dX2_perform_60 (by decide) ?_
      exact F
    · replace F := F.2 k6
      refine z_aload_n (pc := 27) dX2_perform_27 rfl rfl ?_
      refine q_getR (pc := 28) (i := c0 + 1) dX2_perform_28 lk_RX2_9 (lyLo0 hc0) (grLo0 G1 hc0) ?_
      refine z_iload_n (pc := 31) dX2_perform_31 rfl rfl ?_
      refine z_aload_n (pc := 32) dX2_perform_32 rfl rfl ?_
      refine z_aload_n (pc := 33) dX2_perform_33 rfl rfl ?_
      refine z_iload_n (pc := 34) dX2_perform_34 rfl rfl ?_
      refine q_invV (pc := 35) (As := [.ref c2, .int x3]) (st := [.int x3, .ref (c0 + 1)]) dX2_perform_35 ok_X2_typeUnder ml_RX2_98 iv_X2_typeUnder pa_X2_typeUnder ⟨Nat.le_of_ble_eq_true rfl, Nat.le_of_ble_eq_true rfl⟩ (lyLo0 hc0) (q_kI F (fun vh2 h2 F => ?_))
      obtain ⟨G2, F⟩ := F
      obtain ⟨k3, F⟩ := F
      refine q_iast (pc := 38) (j := (Int32.toNatClampNeg x3)) dX2_perform_38 (lyLo1 hc0) (zvn (lnLo1 hc0) k3) rfl ?_
      refine z_aload_n (pc := 39) dX2_perform_39 rfl rfl ?_
      refine q_getR (pc := 40) (i := c0 + 2) dX2_perform_40 lk_RX2_15 (lyLo0 hc0) (grLo1 G2 hc0) ?_
      refine z_iload_n (pc := 43) dX2_perform_43 rfl rfl ?_
      refine z_aload_n (pc := 44) dX2_perform_44 rfl rfl ?_
      refine z_aload_n (pc := 45) dX2_perform_45 rfl rfl ?_
      refine z_iload_n (pc := 46) dX2_perform_46 rfl rfl ?_
      refine q_invV (pc := 47) (As := [.ref c2, .int x3]) (st := [.int x3, .ref (c0 + 2)]) dX2_perform_47 ok_X2_marksUnder ml_RX2_102 iv_X2_marksUnder pa_X2_marksUnder ⟨Nat.le_of_ble_eq_true rfl, Nat.le_of_ble_eq_true rfl⟩ (lyLo0 hc0) (q_kI F (fun vh3 h3 F => ?_))
      obtain ⟨G3, F⟩ := F
      refine q_iast (pc := 50) (j := (Int32.toNatClampNeg x3)) dX2_perform_50 (lyLo2 hc0) (zvn (lnLo2 hc0) k3) rfl ?_
      refine z_aload_n (pc := 51) dX2_perform_51 rfl rfl ?_
      refine z_aload_n (pc := 52) dX2_perform_52 rfl rfl ?_
      refine z_iload_n (pc := 53) dX2_perform_53 rfl rfl ?_
      refine q_invV (pc := 54) (As := [.ref c2, .int x3]) (st := []) dX2_perform_54 ok_X2_changeStrength ml_RX2_115 iv_X2_changeStrength pa_X2_changeStrength ⟨Nat.le_of_ble_eq_true rfl, Nat.le_of_ble_eq_true rfl⟩ (lyLo0 hc0) (q_kV F (fun h4 F => ?_))
      obtain ⟨G4, F⟩ := F
      refine z_iinc (pc := 57) (v := x3 + 1) (ls' := [some (.ref c0), some (.ref c1), some (.ref c2), some (.int (x3 + 1))]) dX2_perform_57 (by decide) rfl rfl rfl ?_
      refine z_goto (pc := 60) (tgt := 2) dX2_perform_60 (by decide) ?_
      exact F
theorem g_X2_changeStrength {c0 : Nat} {c1 : Nat} {x2 : Int32} {h : zHp} {Q : zHp → Prop} (hc0 : zLo c0) (hc1 : ly c1 = 2) (G : zG h) (F : (¬ rI h c1 1 = 3 → ((¬ rI h c1 1 = 4 → ((¬ rI h c1 1 = 5 → (Q h)) ∧ (rI h c1 1 = 5 → (vp_in x2 8 ∧ (Q (wI (wI h (c0 + 3) ((Int32.toNatClampNeg x2)) (rI h (c0 + 4) ((Int32.toNatClampNeg x2)))) (c0 + 4) ((Int32.toNatClampNeg x2)) (rI h (c0 + 3) ((Int32.toNatClampNeg x2))))))))) ∧ (rI h c1 1 = 4 → (vp_in x2 8 ∧ (Q (wI (wI h (c0 + 3) ((Int32.toNatClampNeg x2)) ((rI h (c0 + 3) ((Int32.toNatClampNeg x2))) + (rI h c1 4))) (c0 + 4) ((Int32.toNatClampNeg x2)) ((rI h (c0 + 4) ((Int32.toNatClampNeg x2))) + (rI h c1 5)))))))) ∧ (rI h c1 1 = 3 → (vp_in x2 8 ∧ (Q (wI (wI h (c0 + 3) ((Int32.toNatClampNeg x2)) (rI h c1 4)) (c0 + 4) ((Int32.toNatClampNeg x2)) (rI h c1 5)))))) : zcV M_X2_changeStrength [.ref c0, .ref c1, .int x2] h Q := by
  show zw zNT zNT M_X2_changeStrength 0 [some (.ref c0), some (.ref c1), some (.int x2), none] [] h _
  refine z_aload_n (pc := 0) dX2_changeStrength_0 rfl rfl ?_
  refine q_getI (pc := 1) (v := rI h c1 1) dX2_changeStrength_1 lk_RX2_109 hc1 rfl ?_
  refine z_iconst (pc := 4) (v := 3) dX2_changeStrength_4 (by decide) ?_
  refine z_icmp_ne (pc := 5) (tgt := 31) dX2_changeStrength_5 (by decide) (fun k6 => ?_) (fun k6 => ?_)
  · replace F := F.1 k6
    refine z_aload_n (pc := 31) dX2_changeStrength_31 rfl rfl ?_
    refine q_getI (pc := 32) (v := rI h c1 1) dX2_changeStrength_32 lk_RX2_109 hc1 rfl ?_
    refine z_iconst (pc := 35) (v := 4) dX2_changeStrength_35 (by decide) ?_
    refine z_icmp_ne (pc := 36) (tgt := 68) dX2_changeStrength_36 (by decide) (fun k4 => ?_) (fun k4 => ?_)
    · replace F := F.1 k4
      refine z_aload_n (pc := 68) dX2_changeStrength_68 rfl rfl ?_
      refine q_getI (pc := 69) (v := rI h c1 1) dX2_changeStrength_69 lk_RX2_109 hc1 rfl ?_
      refine z_iconst (pc := 72) (v := 5) dX2_changeStrength_72 (by decide) ?_
      refine z_icmp_ne (pc := 73) (tgt := 102) dX2_changeStrength_73 (by decide) (fun k2 => ?_) (fun k2 => ?_)
      · replace F := F.1 k2
        exact q_retV (pc := 102) dX2_changeStrength_102 rfl F
      · replace F := F.2 k2
        refine z_aload_n (pc := 76) dX2_changeStrength_76 rfl rfl ?_
        refine q_getR (pc := 77) (i := c0 + 3) dX2_changeStrength_77 lk_RX2_18 (lyLo0 hc0) (grLo2 G hc0) ?_
        refine z_iload_n (pc := 80) dX2_changeStrength_80 rfl rfl ?_
        obtain ⟨k1, F⟩ := F
        refine q_iald (pc := 81) (j := (Int32.toNatClampNeg x2)) (v := rI h (c0 + 3) ((Int32.toNatClampNeg x2))) dX2_changeStrength_81 (lyLo3 hc0) (zvn (lnLo3 hc0) k1) rfl rfl ?_
        refine z_istore_n (pc := 82) (ls' := [some (.ref c0), some (.ref c1), some (.int x2), some (.int (rI h (c0 + 3) ((Int32.toNatClampNeg x2))))]) dX2_changeStrength_82 rfl (by decide) rfl ?_
        refine z_aload_n (pc := 83) dX2_changeStrength_83 rfl rfl ?_
        refine q_getR (pc := 84) (i := c0 + 3) dX2_changeStrength_84 lk_RX2_18 (lyLo0 hc0) (grLo2 G hc0) ?_
        refine z_iload_n (pc := 87) dX2_changeStrength_87 rfl rfl ?_
        refine z_aload_n (pc := 88) dX2_changeStrength_88 rfl rfl ?_
        refine q_getR (pc := 89) (i := c0 + 4) dX2_changeStrength_89 lk_RX2_21 (lyLo0 hc0) (grLo3 G hc0) ?_
        refine z_iload_n (pc := 92) dX2_changeStrength_92 rfl rfl ?_
        refine q_iald (pc := 93) (j := (Int32.toNatClampNeg x2)) (v := rI h (c0 + 4) ((Int32.toNatClampNeg x2))) dX2_changeStrength_93 (lyLo4 hc0) (zvn (lnLo4 hc0) k1) rfl rfl ?_
        refine q_iast (pc := 94) (j := (Int32.toNatClampNeg x2)) dX2_changeStrength_94 (lyLo3 hc0) (zvn (lnLo3 hc0) k1) rfl ?_
        refine z_aload_n (pc := 95) dX2_changeStrength_95 rfl rfl ?_
        refine q_getR (pc := 96) (i := c0 + 4) dX2_changeStrength_96 lk_RX2_21 (lyLo0 hc0) (grLo3 G hc0) ?_
        refine z_iload_n (pc := 99) dX2_changeStrength_99 rfl rfl ?_
        refine z_iload_n (pc := 100) dX2_changeStrength_100 rfl rfl ?_
        refine q_iast (pc := 101) (j := (Int32.toNatClampNeg x2)) dX2_changeStrength_101 (lyLo4 hc0) (zvn (lnLo4 hc0) k1) rfl ?_
        exact q_retV (pc := 102) dX2_changeStrength_102 rfl F
    · replace F := F.2 k4
      refine z_aload_n (pc := 39) dX2_changeStrength_39 rfl rfl ?_
      refine q_getR (pc := 40) (i := c0 + 3) dX2_changeStrength_40 lk_RX2_18 (lyLo0 hc0) (grLo2 G hc0) ?_
      refine z_iload_n (pc := 43) dX2_changeStrength_43 rfl rfl ?_
      refine z_dup2 (pc := 44) dX2_changeStrength_44 rfl rfl ?_
      obtain ⟨k3, F⟩ := F
      refine q_iald (pc := 45) (j := (Int32.toNatClampNeg x2)) (v := rI h (c0 + 3) ((Int32.toNatClampNeg x2))) dX2_changeStrength_45 (lyLo3 hc0) (zvn (lnLo3 hc0) k3) rfl rfl ?_
      refine z_aload_n (pc := 46) dX2_changeStrength_46 rfl rfl ?_
      refine q_getI (pc := 47) (v := rI h c1 4) dX2_changeStrength_47 lk_RX2_112 hc1 rfl ?_
      refine z_iadd (pc := 50) dX2_changeStrength_50 ?_
      refine q_iast (pc := 51) (j := (Int32.toNatClampNeg x2)) dX2_changeStrength_51 (lyLo3 hc0) (zvn (lnLo3 hc0) k3) rfl ?_
      refine z_aload_n (pc := 52) dX2_changeStrength_52 rfl rfl ?_
      refine q_getR (pc := 53) (i := c0 + 4) dX2_changeStrength_53 lk_RX2_21 (lyLo0 hc0) (grLo3 G hc0) ?_
      refine z_iload_n (pc := 56) dX2_changeStrength_56 rfl rfl ?_
      refine z_dup2 (pc := 57) dX2_changeStrength_57 rfl rfl ?_
      refine q_iald (pc := 58) (j := (Int32.toNatClampNeg x2)) (v := rI h (c0 + 4) ((Int32.toNatClampNeg x2))) dX2_changeStrength_58 (lyLo4 hc0) (zvn (lnLo4 hc0) k3) rfl (rI_c (by omega)) ?_
      refine z_aload_n (pc := 59) dX2_changeStrength_59 rfl rfl ?_
      refine q_getI (pc := 60) (v := rI h c1 5) dX2_changeStrength_60 lk_RX2_119 hc1 (rI_c (zne hc1 (lyLo3 hc0) (by decide))) ?_
      refine z_iadd (pc := 63) dX2_changeStrength_63 ?_
      refine q_iast (pc := 64) (j := (Int32.toNatClampNeg x2)) dX2_changeStrength_64 (lyLo4 hc0) (zvn (lnLo4 hc0) k3) rfl ?_
      refine z_goto (pc := 65) (tgt := 102) dX2_changeStrength_65 (by decide) ?_
      exact q_retV (pc := 102) dX2_changeStrength_102 rfl F
  · replace F := F.2 k6
    refine z_aload_n (pc := 8) dX2_changeStrength_8 rfl rfl ?_
    refine q_getR (pc := 9) (i := c0 + 3) dX2_changeStrength_9 lk_RX2_18 (lyLo0 hc0) (grLo2 G hc0) ?_
    refine z_iload_n (pc := 12) dX2_changeStrength_12 rfl rfl ?_
    refine z_aload_n (pc := 13) dX2_changeStrength_13 rfl rfl ?_
    refine q_getI (pc := 14) (v := rI h c1 4) dX2_changeStrength_14 lk_RX2_112 hc1 rfl ?_
    obtain ⟨k5, F⟩ := F
    refine q_iast (pc := 17) (j := (Int32.toNatClampNeg x2)) dX2_changeStrength_17 (lyLo3 hc0) (zvn (lnLo3 hc0) k5) rfl ?_
    refine z_aload_n (pc := 18) dX2_changeStrength_18 rfl rfl ?_
    refine q_getR (pc := 19) (i := c0 + 4) dX2_changeStrength_19 lk_RX2_21 (lyLo0 hc0) (grLo3 G hc0) ?_
    refine z_iload_n (pc := 22) dX2_changeStrength_22 rfl rfl ?_
    refine z_aload_n (pc := 23) dX2_changeStrength_23 rfl rfl ?_
    refine q_getI (pc := 24) (v := rI h c1 5) dX2_changeStrength_24 lk_RX2_119 hc1 (rI_c (zne hc1 (lyLo3 hc0) (by decide))) ?_
    refine q_iast (pc := 27) (j := (Int32.toNatClampNeg x2)) dX2_changeStrength_27 (lyLo4 hc0) (zvn (lnLo4 hc0) k5) rfl ?_
    refine z_goto (pc := 28) (tgt := 102) dX2_changeStrength_28 (by decide) ?_
    exact q_retV (pc := 102) dX2_changeStrength_102 rfl F
theorem g_X2_fits {c0 : Nat} {x1 : Int32} {x2 : Int32} {x3 : Int32} {x4 : Int32} {x5 : Int32} {h : zHp} {Q : Int32 → zHp → Prop} (hc0 : ly c0 = 7) (G : zG h) (F : (¬ rI h c0 5 = 0 → ((x2 = 0 → (Q 1 h)) ∧ (¬ x2 = 0 → ((x2 = 1 → ((¬ rI h c0 0 = x3 → (Q 0 h)) ∧ (rI h c0 0 = x3 → (Q 1 h)))) ∧ (¬ x2 = 1 → ((x2 = 2 → ((¬ x4 = x3 → (Q 0 h)) ∧ (x4 = x3 → (Q 1 h)))) ∧ (¬ x2 = 2 → ((x2 = 3 → (((x5 >>> (x3 &&& 31)) &&& 1 = 0 → (Q 0 h)) ∧ (¬ ((x5 >>> (x3 &&& 31)) &&& 1 = 0) → (Q 1 h)))) ∧ (¬ x2 = 3 → ((x2 = 4 → ((¬ (x5 >>> (x3 &&& 31)) &&& 1 = 0 → (Q 0 h)) ∧ ((x5 >>> (x3 &&& 31)) &&& 1 = 0 → (Q 1 h)))) ∧ (¬ x2 = 4 → ((¬ x1 = x3 → (Q 0 h)) ∧ (x1 = x3 → (Q 1 h)))))))))))))) ∧ (rI h c0 5 = 0 → (Q 0 h))) : zcI M_X2_fits [.ref c0, .int x1, .int x2, .int x3, .int x4, .int x5] h Q := by
  show zw zNT zNT M_X2_fits 0 [some (.ref c0), some (.int x1), some (.int x2), some (.int x3), some (.int x4), some (.int x5)] [] h _
  refine z_aload_n (pc := 0) dX2_fits_0 rfl rfl ?_
  refine q_getI (pc := 1) (v := rI h c0 5) dX2_fits_1 lk_RX2_122 hc0 rfl ?_
  refine z_if_ne (pc := 4) (tgt := 9) dX2_fits_4 (by decide) (fun k11 => ?_) (fun k11 => ?_)
  · replace F := F.1 k11
    refine z_iload_n (pc := 9) dX2_fits_9 rfl rfl ?_
    by_cases k1 : x2 = 0
    · replace F := F.1 k1
      refine z_tableIn (pc := 10) (x := x2) (tgt := 44) (off := 34) dX2_fits_10 (by rw [k1]; decide) (by rw [k1]; decide) (by rw [k1]; decide) (by decide) ?_
      refine z_iconst (pc := 44) (v := 1) dX2_fits_44 (by decide) ?_
      exact q_retB (pc := 45) dX2_fits_45 rfl (Or.inr rfl) F
    · replace F := F.2 k1
      by_cases k2 : x2 = 1
      · replace F := F.1 k2
        refine z_tableIn (pc := 10) (x := x2) (tgt := 46) (off := 36) dX2_fits_10 (by rw [k2]; decide) (by rw [k2]; decide) (by rw [k2]; decide) (by decide) ?_
        refine z_aload_n (pc := 46) dX2_fits_46 rfl rfl ?_
        refine q_getI (pc := 47) (v := rI h c0 0) dX2_fits_47 lk_RX2_126 hc0 rfl ?_
        refine z_iload_n (pc := 50) dX2_fits_50 rfl rfl ?_
        refine z_icmp_ne (pc := 51) (tgt := 58) dX2_fits_51 (by decide) (fun k3 => ?_) (fun k3 => ?_)
        · replace F := F.1 k3
          refine z_iconst (pc := 58) (v := 0) dX2_fits_58 (by decide) ?_
          exact q_retB (pc := 59) dX2_fits_59 rfl (Or.inl rfl) F
        · replace F := F.2 k3
          refine z_iconst (pc := 54) (v := 1) dX2_fits_54 (by decide) ?_
          refine z_goto (pc := 55) (tgt := 59) dX2_fits_55 (by decide) ?_
          exact q_retB (pc := 59) dX2_fits_59 rfl (Or.inr rfl) F
      · replace F := F.2 k2
        by_cases k4 : x2 = 2
        · replace F := F.1 k4
          refine z_tableIn (pc := 10) (x := x2) (tgt := 60) (off := 50) dX2_fits_10 (by rw [k4]; decide) (by rw [k4]; decide) (by rw [k4]; decide) (by decide) ?_
          refine z_iload (pc := 60) dX2_fits_60 rfl ?_
          refine z_iload_n (pc := 62) dX2_fits_62 rfl rfl ?_
          refine z_icmp_ne (pc := 63) (tgt := 70) dX2_fits_63 (by decide) (fun k5 => ?_) (fun k5 => ?_)
          · replace F := F.1 k5
            refine z_iconst (pc := 70) (v := 0) dX2_fits_70 (by decide) ?_
            exact q_retB (pc := 71) dX2_fits_71 rfl (Or.inl rfl) F
          · replace F := F.2 k5
            refine z_iconst (pc := 66) (v := 1) dX2_fits_66 (by decide) ?_
            refine z_goto (pc := 67) (tgt := 71) dX2_fits_67 (by decide) ?_
            exact q_retB (pc := 71) dX2_fits_71 rfl (Or.inr rfl) F
        · replace F := F.2 k4
          by_cases k6 : x2 = 3
          · replace F := F.1 k6
            refine z_tableIn (pc := 10) (x := x2) (tgt := 72) (off := 62) dX2_fits_10 (by rw [k6]; decide) (by rw [k6]; decide) (by rw [k6]; decide) (by decide) ?_
            refine z_iload (pc := 72) dX2_fits_72 rfl ?_
            refine z_iload_n (pc := 74) dX2_fits_74 rfl rfl ?_
            refine z_ishr (pc := 75) dX2_fits_75 ?_
            refine z_iconst (pc := 76) (v := 1) dX2_fits_76 (by decide) ?_
            refine z_iand (pc := 77) dX2_fits_77 ?_
            refine z_if_eq (pc := 78) (tgt := 85) dX2_fits_78 (by decide) (fun k7 => ?_) (fun k7 => ?_)
            · replace F := F.1 k7
              refine z_iconst (pc := 85) (v := 0) dX2_fits_85 (by decide) ?_
              exact q_retB (pc := 86) dX2_fits_86 rfl (Or.inl rfl) F
            · replace F := F.2 k7
              refine z_iconst (pc := 81) (v := 1) dX2_fits_81 (by decide) ?_
              refine z_goto (pc := 82) (tgt := 86) dX2_fits_82 (by decide) ?_
              exact q_retB (pc := 86) dX2_fits_86 rfl (Or.inr rfl) F
          · replace F := F.2 k6
            by_cases k8 : x2 = 4
            · replace F := F.1 k8
              refine z_tableIn (pc := 10) (x := x2) (tgt := 87) (off := 77) dX2_fits_10 (by rw [k8]; decide) (by rw [k8]; decide) (by rw [k8]; decide) (by decide) ?_
              refine z_iload (pc := 87) dX2_fits_87 rfl ?_
              refine z_iload_n (pc := 89) dX2_fits_89 rfl rfl ?_
              refine z_ishr (pc := 90) dX2_fits_90 ?_
              refine z_iconst (pc := 91) (v := 1) dX2_fits_91 (by decide) ?_
              refine z_iand (pc := 92) dX2_fits_92 ?_
              refine z_if_ne (pc := 93) (tgt := 100) dX2_fits_93 (by decide) (fun k9 => ?_) (fun k9 => ?_)
              · replace F := F.1 k9
                refine z_iconst (pc := 100) (v := 0) dX2_fits_100 (by decide) ?_
                exact q_retB (pc := 101) dX2_fits_101 rfl (Or.inl rfl) F
              · replace F := F.2 k9
                refine z_iconst (pc := 96) (v := 1) dX2_fits_96 (by decide) ?_
                refine z_goto (pc := 97) (tgt := 101) dX2_fits_97 (by decide) ?_
                exact q_retB (pc := 101) dX2_fits_101 rfl (Or.inr rfl) F
            · replace F := F.2 k8
              have hz0 := q_sw (0) k1 (by decide)
              have hz1 := q_sw (1) k2 (by decide)
              have hz2 := q_sw (2) k4 (by decide)
              have hz3 := q_sw (3) k6 (by decide)
              have hz4 := q_sw (4) k8 (by decide)
              refine z_tableOut (pc := 10) (tgt := 102) dX2_fits_10 (by omega) (by decide) ?_
              refine z_iload_n (pc := 102) dX2_fits_102 rfl rfl ?_
              refine z_iload_n (pc := 103) dX2_fits_103 rfl rfl ?_
              refine z_icmp_ne (pc := 104) (tgt := 111) dX2_fits_104 (by decide) (fun k10 => ?_) (fun k10 => ?_)
              · replace F := F.1 k10
                refine z_iconst (pc := 111) (v := 0) dX2_fits_111 (by decide) ?_
                exact q_retB (pc := 112) dX2_fits_112 rfl (Or.inl rfl) F
              · replace F := F.2 k10
                refine z_iconst (pc := 107) (v := 1) dX2_fits_107 (by decide) ?_
                refine z_goto (pc := 108) (tgt := 112) dX2_fits_108 (by decide) ?_
                exact q_retB (pc := 112) dX2_fits_112 rfl (Or.inr rfl) F
  · replace F := F.2 k11
    refine z_iconst (pc := 7) (v := 0) dX2_fits_7 (by decide) ?_
    exact q_retB (pc := 8) dX2_fits_8 rfl (Or.inl rfl) F
theorem g_X2_remember {c0 : Nat} {c1 : Nat} {x2 : Int32} {h : zHp} {Q : zHp → Prop} (hc0 : zLo c0) (hc1 : ly c1 = 7) (G : zG h) (F : zcI M_X10_within [.int x2, .int 0, .int 7] h (fun vh1 h1 => zG h1 ∧ ((vh1 = 0 → (Q h1)) ∧ (¬ (vh1 = 0) → (vp_in x2 8 ∧ (Q (wI (wI (wI (wI h1 c1 6 (rI h1 (c0 + 1) ((Int32.toNatClampNeg x2)))) c1 7 (rI h1 (c0 + 2) ((Int32.toNatClampNeg x2)))) c1 8 (rI h1 (c0 + 3) ((Int32.toNatClampNeg x2)))) c1 9 (rI h1 (c0 + 4) ((Int32.toNatClampNeg x2)))))))))) : zcV M_X2_remember [.ref c0, .ref c1, .int x2] h Q := by
  show zw zNT zNT M_X2_remember 0 [some (.ref c0), some (.ref c1), some (.int x2)] [] h _
  refine z_iload_n (pc := 0) dX2_remember_0 rfl rfl ?_
  refine z_iconst (pc := 1) (v := 0) dX2_remember_1 (by decide) ?_
  refine z_bipush (pc := 2) (v := 7) dX2_remember_2 (by decide) ?_
  refine q_invS (pc := 4) (As := [.int x2, .int 0, .int 7]) (st := []) dX2_remember_4 ok_X10_within ml_RX2_136 st_X10_within pa_X10_within ⟨Nat.le_of_ble_eq_true rfl, Nat.le_of_ble_eq_true rfl⟩ (q_kI F (fun vh1 h1 F => ?_))
  obtain ⟨G1, F⟩ := F
  refine z_if_eq (pc := 7) (tgt := 50) dX2_remember_7 (by decide) (fun k3 => ?_) (fun k3 => ?_)
  · replace F := F.1 k3
    exact q_retV (pc := 50) dX2_remember_50 rfl F
  · replace F := F.2 k3
    refine z_aload_n (pc := 10) dX2_remember_10 rfl rfl ?_
    refine z_aload_n (pc := 11) dX2_remember_11 rfl rfl ?_
    refine q_getR (pc := 12) (i := c0 + 1) dX2_remember_12 lk_RX2_9 (lyLo0 hc0) (grLo0 G1 hc0) ?_
    refine z_iload_n (pc := 15) dX2_remember_15 rfl rfl ?_
    obtain ⟨k2, F⟩ := F
    refine q_iald (pc := 16) (j := (Int32.toNatClampNeg x2)) (v := rI h1 (c0 + 1) ((Int32.toNatClampNeg x2))) dX2_remember_16 (lyLo1 hc0) (zvn (lnLo1 hc0) k2) rfl rfl ?_
    refine q_putI (pc := 17) dX2_remember_17 lk_RX2_140 hc1 ?_
    refine z_aload_n (pc := 20) dX2_remember_20 rfl rfl ?_
    refine z_aload_n (pc := 21) dX2_remember_21 rfl rfl ?_
    refine q_getR (pc := 22) (i := c0 + 2) dX2_remember_22 lk_RX2_15 (lyLo0 hc0) (grLo1 G1 hc0) ?_
    refine z_iload_n (pc := 25) dX2_remember_25 rfl rfl ?_
    refine q_iald (pc := 26) (j := (Int32.toNatClampNeg x2)) (v := rI h1 (c0 + 2) ((Int32.toNatClampNeg x2))) dX2_remember_26 (lyLo2 hc0) (zvn (lnLo2 hc0) k2) rfl (rI_c (zne (lyLo2 hc0) hc1 (by decide))) ?_
    refine q_putI (pc := 27) dX2_remember_27 lk_RX2_143 hc1 ?_
    refine z_aload_n (pc := 30) dX2_remember_30 rfl rfl ?_
    refine z_aload_n (pc := 31) dX2_remember_31 rfl rfl ?_
    refine q_getR (pc := 32) (i := c0 + 3) dX2_remember_32 lk_RX2_18 (lyLo0 hc0) (grLo2 G1 hc0) ?_
    refine z_iload_n (pc := 35) dX2_remember_35 rfl rfl ?_
    refine q_iald (pc := 36) (j := (Int32.toNatClampNeg x2)) (v := rI h1 (c0 + 3) ((Int32.toNatClampNeg x2))) dX2_remember_36 (lyLo3 hc0) (zvn (lnLo3 hc0) k2) rfl ((rI_c (zne (lyLo3 hc0) hc1 (by decide))).trans (rI_c (zne (lyLo3 hc0) hc1 (by decide)))) ?_
    refine q_putI (pc := 37) dX2_remember_37 lk_RX2_133 hc1 ?_
    refine z_aload_n (pc := 40) dX2_remember_40 rfl rfl ?_
    refine z_aload_n (pc := 41) dX2_remember_41 rfl rfl ?_
    refine q_getR (pc := 42) (i := c0 + 4) dX2_remember_42 lk_RX2_21 (lyLo0 hc0) (grLo3 G1 hc0) ?_
    refine z_iload_n (pc := 45) dX2_remember_45 rfl rfl ?_
    refine q_iald (pc := 46) (j := (Int32.toNatClampNeg x2)) (v := rI h1 (c0 + 4) ((Int32.toNatClampNeg x2))) dX2_remember_46 (lyLo4 hc0) (zvn (lnLo4 hc0) k2) rfl (((rI_c (zne (lyLo4 hc0) hc1 (by decide))).trans (rI_c (zne (lyLo4 hc0) hc1 (by decide)))).trans (rI_c (zne (lyLo4 hc0) hc1 (by decide)))) ?_
    refine q_putI (pc := 47) dX2_remember_47 lk_RX2_146 hc1 ?_
    exact q_retV (pc := 50) dX2_remember_50 rfl F
theorem g_X3_append {x1 : Int32} {h : zHp} {Q : zHp → Prop}  (G : zG h) (F : (120 ≤ rI h 141 1 → (Q h)) ∧ (¬ (120 ≤ rI h 141 1) → (vp_in (rI h 141 1) 120 ∧ (Q (wI (wI h 142 ((Int32.toNatClampNeg (rI h 141 1))) ((Int32.toInt8 x1).toInt32)) 141 1 ((rI h 141 1) + 1)))))) : zcV M_X3_append [.ref 141, .int x1] h Q := by
  show zw zNT zNT M_X3_append 0 [some (.ref 141), some (.int x1)] [] h _
  refine z_aload_n (pc := 0) dX3_append_0 rfl rfl ?_
  refine q_getI (pc := 1) (v := rI h 141 1) dX3_append_1 lk_RX3_22 (lyc rfl) rfl ?_
  refine z_bipush (pc := 4) (v := 120) dX3_append_4 (by decide) ?_
  refine z_icmp_ge (pc := 6) (tgt := 29) dX3_append_6 (by decide) (fun k2 => ?_) (fun k2 => ?_)
  · replace F := F.1 k2
    exact q_retV (pc := 29) dX3_append_29 rfl F
  · replace F := F.2 k2
    refine z_aload_n (pc := 9) dX3_append_9 rfl rfl ?_
    refine q_getR (pc := 10) (i := 142) dX3_append_10 lk_RX3_9 (lyc rfl) (G 141 0 142 rfl) ?_
    refine z_aload_n (pc := 13) dX3_append_13 rfl rfl ?_
    refine q_getI (pc := 14) (v := rI h 141 1) dX3_append_14 lk_RX3_22 (lyc rfl) rfl ?_
    refine z_iload_n (pc := 17) dX3_append_17 rfl rfl ?_
    obtain ⟨k1, F⟩ := F
    refine q_bast (pc := 18) (j := (Int32.toNatClampNeg (rI h 141 1))) dX3_append_18 (lyc rfl) (zvn (lnc rfl) k1) rfl ?_
    refine z_aload_n (pc := 19) dX3_append_19 rfl rfl ?_
    refine z_dup (pc := 20) dX3_append_20 rfl ?_
    refine q_getI (pc := 21) (v := rI h 141 1) dX3_append_21 lk_RX3_22 (lyc rfl) (rI_c (by decide)) ?_
    refine z_iconst (pc := 24) (v := 1) dX3_append_24 (by decide) ?_
    refine z_iadd (pc := 25) dX3_append_25 ?_
    refine q_putI (pc := 26) dX3_append_26 lk_RX3_22 (lyc rfl) ?_
    exact q_retV (pc := 29) dX3_append_29 rfl F
theorem g_X3_readAll {x1 : Int32} {h : zHp} {Q : zHp → Prop}  (G : zG h) (F : zlV M_X3_readAll 17 [some (.ref 141), some (.int x1), some (.int 0)] [] (wI (wI (wI h 141 2 0) 141 8 (-1)) 141 7 0) Q) : zcV M_X3_readAll [.ref 141, .int x1] h Q := by
  show zw zNT zNT M_X3_readAll 0 [some (.ref 141), some (.int x1), none] [] h _
  refine z_aload_n (pc := 0) dX3_readAll_0 rfl rfl ?_
  refine z_iconst (pc := 1) (v := 0) dX3_readAll_1 (by decide) ?_
  refine q_putI (pc := 2) dX3_readAll_2 lk_RX3_26 (lyc rfl) ?_
  refine z_aload_n (pc := 5) dX3_readAll_5 rfl rfl ?_
  refine z_iconst (pc := 6) (v := -1) dX3_readAll_6 (by decide) ?_
  refine q_putI (pc := 7) dX3_readAll_7 lk_RX3_29 (lyc rfl) ?_
  refine z_aload_n (pc := 10) dX3_readAll_10 rfl rfl ?_
  refine z_iconst (pc := 11) (v := 0) dX3_readAll_11 (by decide) ?_
  refine q_putI (pc := 12) dX3_readAll_12 lk_RX3_32 (lyc rfl) ?_
  refine z_iconst (pc := 15) (v := 0) dX3_readAll_15 (by decide) ?_
  refine z_istore_n (pc := 16) (ls' := [some (.ref 141), some (.int x1), some (.int 0)]) dX3_readAll_16 rfl (by decide) rfl ?_
  exact F
theorem g_X3_readAll_17 {x1 : Int32} {x2 : Int32} {h : zHp} {Q : zHp → Prop}  (G : zG h) (F : (10 < x2 → (Q h)) ∧ (¬ (10 < x2) → ((x1 ≤ x2 → (zlV M_X3_readAll 34 [some (.ref 141), some (.int x1), some (.int x2)] [.int 0, .ref 141] h Q)) ∧ (¬ (x1 ≤ x2) → (zlV M_X3_readAll 34 [some (.ref 141), some (.int x1), some (.int x2)] [.int 1, .ref 141] h Q))))) : zlV M_X3_readAll 17 [some (.ref 141), some (.int x1), some (.int x2)] [] h Q := by
  refine z_iload_n (pc := 17) dX3_readAll_17 rfl rfl ?_
  refine z_bipush (pc := 18) (v := 10) dX3_readAll_18 (by decide) ?_
  refine z_icmp_gt (pc := 20) (tgt := 81) dX3_readAll_20 (by decide) (fun k2 => ?_) (fun k2 => ?_)
  · replace F := F.1 k2
    exact q_retV (pc := 81) dX3_readAll_81 rfl F
  · replace F := F.2 k2
    refine z_aload_n (pc := 23) dX3_readAll_23 rfl rfl ?_
    refine z_iload_n (pc := 24) dX3_readAll_24 rfl rfl ?_
    refine z_iload_n (pc := 25) dX3_readAll_25 rfl rfl ?_
    refine z_icmp_ge (pc := 26) (tgt := 33) dX3_readAll_26 (by decide) (fun k1 => ?_) (fun k1 => ?_)
    · replace F := F.1 k1
      refine z_iconst (pc := 33) (v := 0) dX3_readAll_33 (by decide) ?_
      exact F
    · replace F := F.2 k1
      refine z_iconst (pc := 29) (v := 1) dX3_readAll_29 (by decide) ?_
      refine z_goto (pc := 30) (tgt := 34) dX3_readAll_30 (by decide) ?_
      exact F
theorem g_X3_readAll_34 {x1 : Int32} {x2 : Int32} {xs1 : Int32} {h : zHp} {Q : zHp → Prop}  (G : zG h) (F : zcV M_X3_readPhrase [.ref 141, .int xs1] h (fun h1 => zG h1 ∧ ((rI h1 141 8 = -1 → (zcV M_X3_advance [.ref 141] h1 (fun h2 => zG h2 ∧ ((¬ rI h2 141 3 = 0 → ((rI h2 141 3 = 3 → (zlV M_X3_readAll 17 [some (.ref 141), some (.int x1), some (.int (x2 + 1))] [] h2 Q)) ∧ (¬ (rI h2 141 3 = 3) → (Q (wI h2 141 8 (rI h2 141 4)))))) ∧ (rI h2 141 3 = 0 → (Q h2)))))) ∧ (¬ (rI h1 141 8 = -1) → (Q h1))))) : zlV M_X3_readAll 34 [some (.ref 141), some (.int x1), some (.int x2)] [.int xs1, .ref 141] h Q := by
  refine q_invV (pc := 34) (As := [.int xs1]) (st := []) dX3_readAll_34 ok_X3_readPhrase ml_RX3_35 iv_X3_readPhrase pa_X3_readPhrase ⟨Nat.le_of_ble_eq_true rfl, Nat.le_of_ble_eq_true rfl⟩ (lyc rfl) (q_kV F (fun h1 F => ?_))
  obtain ⟨G1, F⟩ := F
  refine z_aload_n (pc := 37) dX3_readAll_37 rfl rfl ?_
  refine q_getI (pc := 38) (v := rI h1 141 8) dX3_readAll_38 lk_RX3_29 (lyc rfl) rfl ?_
  refine z_iconst (pc := 41) (v := -1) dX3_readAll_41 (by decide) ?_
  refine z_icmp_eq (pc := 42) (tgt := 46) dX3_readAll_42 (by decide) (fun k5 => ?_) (fun k5 => ?_)
  · replace F := F.1 k5
    refine z_aload_n (pc := 46) dX3_readAll_46 rfl rfl ?_
    refine q_invV (pc := 47) (As := []) (st := []) dX3_readAll_47 ok_X3_advance ml_RX3_39 iv_X3_advance pa_X3_advance ⟨Nat.le_of_ble_eq_true rfl, Nat.le_of_ble_eq_true rfl⟩ (lyc rfl) (q_kV F (fun h2 F => ?_))
    obtain ⟨G2, F⟩ := F
    refine z_aload_n (pc := 50) dX3_readAll_50 rfl rfl ?_
    refine q_getI (pc := 51) (v := rI h2 141 3) dX3_readAll_51 lk_RX3_42 (lyc rfl) rfl ?_
    refine z_if_ne (pc := 54) (tgt := 58) dX3_readAll_54 (by decide) (fun k4 => ?_) (fun k4 => ?_)
    · replace F := F.1 k4
      refine z_aload_n (pc := 58) dX3_readAll_58 rfl rfl ?_
      refine q_getI (pc := 59) (v := rI h2 141 3) dX3_readAll_59 lk_RX3_42 (lyc rfl) rfl ?_
      refine z_iconst (pc := 62) (v := 3) dX3_readAll_62 (by decide) ?_
      refine z_icmp_eq (pc := 63) (tgt := 75) dX3_readAll_63 (by decide) (fun k3 => ?_) (fun k3 => ?_)
      · replace F := F.1 k3
        refine z_iinc (pc := 75) (v := x2 + 1) (ls' := [some (.ref 141), some (.int x1), some (.int (x2 + 1))]) dX3_readAll_75 (by decide) rfl rfl rfl ?_
        refine z_goto (pc := 78) (tgt := 17) dX3_readAll_78 (by decide) ?_
        exact F
      · replace F := F.2 k3
        refine z_aload_n (pc := 66) dX3_readAll_66 rfl rfl ?_
        refine z_aload_n (pc := 67) dX3_readAll_67 rfl rfl ?_
        refine q_getI (pc := 68) (v := rI h2 141 4) dX3_readAll_68 lk_RX3_45 (lyc rfl) rfl ?_
        refine q_putI (pc := 71) dX3_readAll_71 lk_RX3_29 (lyc rfl) ?_
        exact q_retV (pc := 74) dX3_readAll_74 rfl F
    · replace F := F.2 k4
      exact q_retV (pc := 57) dX3_readAll_57 rfl F
  · replace F := F.2 k5
    exact q_retV (pc := 45) dX3_readAll_45 rfl F
theorem g_X3_readFirst {x1 : Int32} {h : zHp} {Q : Int32 → zHp → Prop}  (G : zG h) (F : (¬ x1 = 5 → ((2 < x1 → (zcI M_X3_readValue [.ref 141] h (fun vh1 h1 => zG h1 ∧ (Q vh1 h1)))) ∧ (¬ (2 < x1) → (zcI M_X3_readNumber [.ref 141, .int 5] h (fun vh2 h2 => zG h2 ∧ (Q vh2 h2)))))) ∧ (x1 = 5 → (Q 0 h))) : zcI M_X3_readFirst [.ref 141, .int x1] h Q := by
  show zw zNT zNT M_X3_readFirst 0 [some (.ref 141), some (.int x1)] [] h _
  refine z_iload_n (pc := 0) dX3_readFirst_0 rfl rfl ?_
  refine z_iconst (pc := 1) (v := 5) dX3_readFirst_1 (by decide) ?_
  refine z_icmp_ne (pc := 2) (tgt := 7) dX3_readFirst_2 (by decide) (fun k4 => ?_) (fun k4 => ?_)
  · replace F := F.1 k4
    refine z_iload_n (pc := 7) dX3_readFirst_7 rfl rfl ?_
    refine z_iconst (pc := 8) (v := 2) dX3_readFirst_8 (by decide) ?_
    refine z_icmp_gt (pc := 9) (tgt := 20) dX3_readFirst_9 (by decide) (fun k3 => ?_) (fun k3 => ?_)
    · replace F := F.1 k3
      refine z_aload_n (pc := 20) dX3_readFirst_20 rfl rfl ?_
      refine q_invV (pc := 21) (As := []) (st := []) dX3_readFirst_21 ok_X3_readValue ml_RX3_66 iv_X3_readValue pa_X3_readValue ⟨Nat.le_of_ble_eq_true rfl, Nat.le_of_ble_eq_true rfl⟩ (lyc rfl) (q_kI F (fun vh1 h1 F => ?_))
      obtain ⟨G1, F⟩ := F
      exact q_retI (pc := 24) dX3_readFirst_24 rfl F
    · replace F := F.2 k3
      refine z_aload_n (pc := 12) dX3_readFirst_12 rfl rfl ?_
      refine z_iconst (pc := 13) (v := 5) dX3_readFirst_13 (by decide) ?_
      refine q_invV (pc := 14) (As := [.int 5]) (st := []) dX3_readFirst_14 ok_X3_readNumber ml_RX3_56 iv_X3_readNumber pa_X3_readNumber ⟨Nat.le_of_ble_eq_true rfl, Nat.le_of_ble_eq_true rfl⟩ (lyc rfl) (q_kI F (fun vh2 h2 F => ?_))
      obtain ⟨G2, F⟩ := F
      refine z_goto (pc := 17) (tgt := 24) dX3_readFirst_17 (by decide) ?_
      exact q_retI (pc := 24) dX3_readFirst_24 rfl F
  · replace F := F.2 k4
    refine z_iconst (pc := 5) (v := 0) dX3_readFirst_5 (by decide) ?_
    exact q_retI (pc := 6) dX3_readFirst_6 rfl F
theorem g_X3_readNumber {x1 : Int32} {h : zHp} {Q : Int32 → zHp → Prop}  (G : zG h) (F : zcV M_X3_advance [.ref 141] h (fun h1 => zG h1 ∧ (zcI M_X3_numberHere [.ref 141, .int x1] h1 (fun vh2 h2 => zG h2 ∧ (Q vh2 h2))))) : zcI M_X3_readNumber [.ref 141, .int x1] h Q := by
  show zw zNT zNT M_X3_readNumber 0 [some (.ref 141), some (.int x1)] [] h _
  refine z_aload_n (pc := 0) dX3_readNumber_0 rfl rfl ?_
  refine q_invV (pc := 1) (As := []) (st := []) dX3_readNumber_1 ok_X3_advance ml_RX3_39 iv_X3_advance pa_X3_advance ⟨Nat.le_of_ble_eq_true rfl, Nat.le_of_ble_eq_true rfl⟩ (lyc rfl) (q_kV F (fun h1 F => ?_))
  obtain ⟨G1, F⟩ := F
  refine z_aload_n (pc := 4) dX3_readNumber_4 rfl rfl ?_
  refine z_iload_n (pc := 5) dX3_readNumber_5 rfl rfl ?_
  refine q_invV (pc := 6) (As := [.int x1]) (st := []) dX3_readNumber_6 ok_X3_numberHere ml_RX3_73 iv_X3_numberHere pa_X3_numberHere ⟨Nat.le_of_ble_eq_true rfl, Nat.le_of_ble_eq_true rfl⟩ (lyc rfl) (q_kI F (fun vh2 h2 F => ?_))
  obtain ⟨G2, F⟩ := F
  exact q_retI (pc := 9) dX3_readNumber_9 rfl F
theorem g_X3_readValue  {h : zHp} {Q : Int32 → zHp → Prop}  (G : zG h) (F : zcV M_X3_advance [.ref 141] h (fun h1 => zG h1 ∧ ((rI h1 141 3 = 4 → (zcV M_X3_advance [.ref 141] h1 (fun h2 => zG h2 ∧ (zcI M_X3_numberHere [.ref 141, .int 9] h2 (fun vh3 h3 => zG h3 ∧ (Q (-vh3) h3)))))) ∧ (¬ (rI h1 141 3 = 4) → (zcI M_X3_numberHere [.ref 141, .int 9] h1 (fun vh4 h4 => zG h4 ∧ (Q vh4 h4))))))) : zcI M_X3_readValue [.ref 141] h Q := by
  show zw zNT zNT M_X3_readValue 0 [some (.ref 141)] [] h _
  refine z_aload_n (pc := 0) dX3_readValue_0 rfl rfl ?_
  refine q_invV (pc := 1) (As := []) (st := []) dX3_readValue_1 ok_X3_advance ml_RX3_39 iv_X3_advance pa_X3_advance ⟨Nat.le_of_ble_eq_true rfl, Nat.le_of_ble_eq_true rfl⟩ (lyc rfl) (q_kV F (fun h1 F => ?_))
  obtain ⟨G1, F⟩ := F
  refine z_aload_n (pc := 4) dX3_readValue_4 rfl rfl ?_
  refine q_getI (pc := 5) (v := rI h1 141 3) dX3_readValue_5 lk_RX3_42 (lyc rfl) rfl ?_
  refine z_iconst (pc := 8) (v := 4) dX3_readValue_8 (by decide) ?_
  refine z_icmp_eq (pc := 9) (tgt := 19) dX3_readValue_9 (by decide) (fun k5 => ?_) (fun k5 => ?_)
  · replace F := F.1 k5
    refine z_aload_n (pc := 19) dX3_readValue_19 rfl rfl ?_
    refine q_invV (pc := 20) (As := []) (st := []) dX3_readValue_20 ok_X3_advance ml_RX3_39 iv_X3_advance pa_X3_advance ⟨Nat.le_of_ble_eq_true rfl, Nat.le_of_ble_eq_true rfl⟩ (lyc rfl) (q_kV F (fun h2 F => ?_))
    obtain ⟨G2, F⟩ := F
    refine z_aload_n (pc := 23) dX3_readValue_23 rfl rfl ?_
    refine z_bipush (pc := 24) (v := 9) dX3_readValue_24 (by decide) ?_
    refine q_invV (pc := 26) (As := [.int 9]) (st := []) dX3_readValue_26 ok_X3_numberHere ml_RX3_73 iv_X3_numberHere pa_X3_numberHere ⟨Nat.le_of_ble_eq_true rfl, Nat.le_of_ble_eq_true rfl⟩ (lyc rfl) (q_kI F (fun vh3 h3 F => ?_))
    obtain ⟨G3, F⟩ := F
    refine z_ineg (pc := 29) dX3_readValue_29 ?_
    exact q_retI (pc := 30) dX3_readValue_30 rfl F
  · replace F := F.2 k5
    refine z_aload_n (pc := 12) dX3_readValue_12 rfl rfl ?_
    refine z_bipush (pc := 13) (v := 9) dX3_readValue_13 (by decide) ?_
    refine q_invV (pc := 15) (As := [.int 9]) (st := []) dX3_readValue_15 ok_X3_numberHere ml_RX3_73 iv_X3_numberHere pa_X3_numberHere ⟨Nat.le_of_ble_eq_true rfl, Nat.le_of_ble_eq_true rfl⟩ (lyc rfl) (q_kI F (fun vh4 h4 F => ?_))
    obtain ⟨G4, F⟩ := F
    exact q_retI (pc := 18) dX3_readValue_18 rfl F
theorem g_X3_numberHere {x1 : Int32} {h : zHp} {Q : Int32 → zHp → Prop}  (G : zG h) (F : (¬ rI h 141 3 = 2 → (Q 0 (wI h 141 8 (rI h 141 4)))) ∧ (rI h 141 3 = 2 → ((x1 < rI h 141 5 → (Q 0 (wI h 141 8 (rI h 141 4)))) ∧ (¬ (x1 < rI h 141 5) → (Q (rI h 141 5) h))))) : zcI M_X3_numberHere [.ref 141, .int x1] h Q := by
  show zw zNT zNT M_X3_numberHere 0 [some (.ref 141), some (.int x1)] [] h _
  refine z_aload_n (pc := 0) dX3_numberHere_0 rfl rfl ?_
  refine q_getI (pc := 1) (v := rI h 141 3) dX3_numberHere_1 lk_RX3_42 (lyc rfl) rfl ?_
  refine z_iconst (pc := 4) (v := 2) dX3_numberHere_4 (by decide) ?_
  refine z_icmp_ne (pc := 5) (tgt := 21) dX3_numberHere_5 (by decide) (fun k2 => ?_) (fun k2 => ?_)
  · replace F := F.1 k2
    refine z_aload_n (pc := 21) dX3_numberHere_21 rfl rfl ?_
    refine z_aload_n (pc := 22) dX3_numberHere_22 rfl rfl ?_
    refine q_getI (pc := 23) (v := rI h 141 4) dX3_numberHere_23 lk_RX3_45 (lyc rfl) rfl ?_
    refine q_putI (pc := 26) dX3_numberHere_26 lk_RX3_29 (lyc rfl) ?_
    refine z_iconst (pc := 29) (v := 0) dX3_numberHere_29 (by decide) ?_
    exact q_retI (pc := 30) dX3_numberHere_30 rfl F
  · replace F := F.2 k2
    refine z_aload_n (pc := 8) dX3_numberHere_8 rfl rfl ?_
    refine q_getI (pc := 9) (v := rI h 141 5) dX3_numberHere_9 lk_RX3_76 (lyc rfl) rfl ?_
    refine z_iload_n (pc := 12) dX3_numberHere_12 rfl rfl ?_
    refine z_icmp_gt (pc := 13) (tgt := 21) dX3_numberHere_13 (by decide) (fun k1 => ?_) (fun k1 => ?_)
    · replace F := F.1 k1
      refine z_aload_n (pc := 21) dX3_numberHere_21 rfl rfl ?_
      refine z_aload_n (pc := 22) dX3_numberHere_22 rfl rfl ?_
      refine q_getI (pc := 23) (v := rI h 141 4) dX3_numberHere_23 lk_RX3_45 (lyc rfl) rfl ?_
      refine q_putI (pc := 26) dX3_numberHere_26 lk_RX3_29 (lyc rfl) ?_
      refine z_iconst (pc := 29) (v := 0) dX3_numberHere_29 (by decide) ?_
      exact q_retI (pc := 30) dX3_numberHere_30 rfl F
    · replace F := F.2 k1
      refine z_aload_n (pc := 16) dX3_numberHere_16 rfl rfl ?_
      refine q_getI (pc := 17) (v := rI h 141 5) dX3_numberHere_17 lk_RX3_76 (lyc rfl) rfl ?_
      exact q_retI (pc := 20) dX3_numberHere_20 rfl F
theorem g_X3_scopeOfWord  {h : zHp} {Q : Int32 → zHp → Prop}  (G : zG h) (F : zlI M_X3_scopeOfWord 2 [some (.ref 141), some (.int 0)] [] h Q) : zcI M_X3_scopeOfWord [.ref 141] h Q := by
  show zw zNT zNT M_X3_scopeOfWord 0 [some (.ref 141), none] [] h _
  refine z_iconst (pc := 0) (v := 0) dX3_scopeOfWord_0 (by decide) ?_
  refine z_istore_n (pc := 1) (ls' := [some (.ref 141), some (.int 0)]) dX3_scopeOfWord_1 rfl (by decide) rfl ?_
  exact F
theorem g_X3_scopeOfWord_2 {x1 : Int32} {h : zHp} {Q : Int32 → zHp → Prop}  (G : zG h) (F : (5 < x1 → (Q (-1) h)) ∧ (¬ (5 < x1) → (zcR M_X10_scopeWord [.int x1] h (fun ch1 h1 => zG h1 ∧ ∃ ih1, ih1 < 13 ∧ ch1 = 1010 + ih1 ∧ (zcI M_X3_isWord [.ref 141, .ref (1010 + ih1)] h1 (fun vh2 h2 => zG h2 ∧ ((vh2 = 0 → (zlI M_X3_scopeOfWord 2 [some (.ref 141), some (.int (x1 + 1))] [] h2 Q)) ∧ (¬ (vh2 = 0) → (Q x1 h2))))))))) : zlI M_X3_scopeOfWord 2 [some (.ref 141), some (.int x1)] [] h Q := by
  refine z_iload_n (pc := 2) dX3_scopeOfWord_2 rfl rfl ?_
  refine z_iconst (pc := 3) (v := 5) dX3_scopeOfWord_3 (by decide) ?_
  refine z_icmp_gt (pc := 4) (tgt := 26) dX3_scopeOfWord_4 (by decide) (fun k4 => ?_) (fun k4 => ?_)
  · replace F := F.1 k4
    refine z_iconst (pc := 26) (v := -1) dX3_scopeOfWord_26 (by decide) ?_
    exact q_retI (pc := 27) dX3_scopeOfWord_27 rfl F
  · replace F := F.2 k4
    refine z_aload_n (pc := 7) dX3_scopeOfWord_7 rfl rfl ?_
    refine z_iload_n (pc := 8) dX3_scopeOfWord_8 rfl rfl ?_
    refine q_invS (pc := 9) (As := [.int x1]) (st := [.ref 141]) dX3_scopeOfWord_9 ok_X10_scopeWord ml_RX3_79 st_X10_scopeWord pa_X10_scopeWord ⟨Nat.le_of_ble_eq_true rfl, Nat.le_of_ble_eq_true rfl⟩ (q_kR F (fun ch1 h1 F => ?_))
    obtain ⟨G1, ih1, hih1, rfl, F⟩ := F
    refine q_invV (pc := 12) (As := [.ref (1010 + ih1)]) (st := []) dX3_scopeOfWord_12 ok_X3_isWord ml_RX3_83 iv_X3_isWord pa_X3_isWord ⟨Nat.le_of_ble_eq_true rfl, Nat.le_of_ble_eq_true rfl⟩ (lyc rfl) (q_kI F (fun vh2 h2 F => ?_))
    obtain ⟨G2, F⟩ := F
    refine z_if_eq (pc := 15) (tgt := 20) dX3_scopeOfWord_15 (by decide) (fun k3 => ?_) (fun k3 => ?_)
    · replace F := F.1 k3
      refine z_iinc (pc := 20) (v := x1 + 1) (ls' := [some (.ref 141), some (.int (x1 + 1))]) dX3_scopeOfWord_20 (by decide) rfl rfl rfl ?_
      refine z_goto (pc := 23) (tgt := 2) dX3_scopeOfWord_23 (by decide) ?_
      exact F
    · replace F := F.2 k3
      refine z_iload_n (pc := 18) dX3_scopeOfWord_18 rfl rfl ?_
      exact q_retI (pc := 19) dX3_scopeOfWord_19 rfl F
theorem g_X3_sortOfWord  {h : zHp} {Q : Int32 → zHp → Prop}  (G : zG h) (F : zlI M_X3_sortOfWord 2 [some (.ref 141), some (.int 0)] [] h Q) : zcI M_X3_sortOfWord [.ref 141] h Q := by
  show zw zNT zNT M_X3_sortOfWord 0 [some (.ref 141), none] [] h _
  refine z_iconst (pc := 0) (v := 0) dX3_sortOfWord_0 (by decide) ?_
  refine z_istore_n (pc := 1) (ls' := [some (.ref 141), some (.int 0)]) dX3_sortOfWord_1 rfl (by decide) rfl ?_
  exact F
theorem g_X3_sortOfWord_2 {x1 : Int32} {h : zHp} {Q : Int32 → zHp → Prop}  (G : zG h) (F : (5 < x1 → (Q (-1) h)) ∧ (¬ (5 < x1) → (zcR M_X10_deedWord [.int x1] h (fun ch1 h1 => zG h1 ∧ ∃ ih1, ih1 < 13 ∧ ch1 = 1010 + ih1 ∧ (zcI M_X3_isWord [.ref 141, .ref (1010 + ih1)] h1 (fun vh2 h2 => zG h2 ∧ ((vh2 = 0 → (zlI M_X3_sortOfWord 2 [some (.ref 141), some (.int (x1 + 1))] [] h2 Q)) ∧ (¬ (vh2 = 0) → (Q x1 h2))))))))) : zlI M_X3_sortOfWord 2 [some (.ref 141), some (.int x1)] [] h Q := by
  refine z_iload_n (pc := 2) dX3_sortOfWord_2 rfl rfl ?_
  refine z_iconst (pc := 3) (v := 5) dX3_sortOfWord_3 (by decide) ?_
  refine z_icmp_gt (pc := 4) (tgt := 26) dX3_sortOfWord_4 (by decide) (fun k4 => ?_) (fun k4 => ?_)
  · replace F := F.1 k4
    refine z_iconst (pc := 26) (v := -1) dX3_sortOfWord_26 (by decide) ?_
    exact q_retI (pc := 27) dX3_sortOfWord_27 rfl F
  · replace F := F.2 k4
    refine z_aload_n (pc := 7) dX3_sortOfWord_7 rfl rfl ?_
    refine z_iload_n (pc := 8) dX3_sortOfWord_8 rfl rfl ?_
    refine q_invS (pc := 9) (As := [.int x1]) (st := [.ref 141]) dX3_sortOfWord_9 ok_X10_deedWord ml_RX3_87 st_X10_deedWord pa_X10_deedWord ⟨Nat.le_of_ble_eq_true rfl, Nat.le_of_ble_eq_true rfl⟩ (q_kR F (fun ch1 h1 F => ?_))
    obtain ⟨G1, ih1, hih1, rfl, F⟩ := F
    refine q_invV (pc := 12) (As := [.ref (1010 + ih1)]) (st := []) dX3_sortOfWord_12 ok_X3_isWord ml_RX3_83 iv_X3_isWord pa_X3_isWord ⟨Nat.le_of_ble_eq_true rfl, Nat.le_of_ble_eq_true rfl⟩ (lyc rfl) (q_kI F (fun vh2 h2 F => ?_))
    obtain ⟨G2, F⟩ := F
    refine z_if_eq (pc := 15) (tgt := 20) dX3_sortOfWord_15 (by decide) (fun k3 => ?_) (fun k3 => ?_)
    · replace F := F.1 k3
      refine z_iinc (pc := 20) (v := x1 + 1) (ls' := [some (.ref 141), some (.int (x1 + 1))]) dX3_sortOfWord_20 (by decide) rfl rfl rfl ?_
      refine z_goto (pc := 23) (tgt := 2) dX3_sortOfWord_23 (by decide) ?_
      exact F
    · replace F := F.2 k3
      refine z_iload_n (pc := 18) dX3_sortOfWord_18 rfl rfl ?_
      exact q_retI (pc := 19) dX3_sortOfWord_19 rfl F
theorem g_X3_isWord {i1 : Nat} {h : zHp} {Q : Int32 → zHp → Prop} (hi1 : i1 < 13) (G : zG h) (F : zcI M_J0_length_8abf5 [.ref (1010 + i1)] h (fun vh1 h1 => zG h1 ∧ (((rI h 141 2) - (rI h 141 4) = vh1 → (zlI M_X3_isWord 20 [some (.ref 141), some (.ref (1010 + i1)), some (.int 0)] [] h1 Q)) ∧ (¬ ((rI h 141 2) - (rI h 141 4) = vh1) → (Q 0 h1))))) : zcI M_X3_isWord [.ref 141, .ref (1010 + i1)] h Q := by
  show zw zNT zNT M_X3_isWord 0 [some (.ref 141), some (.ref (1010 + i1)), none] [] h _
  refine z_aload_n (pc := 0) dX3_isWord_0 rfl rfl ?_
  refine q_getI (pc := 1) (v := rI h 141 2) dX3_isWord_1 lk_RX3_26 (lyc rfl) rfl ?_
  refine z_aload_n (pc := 4) dX3_isWord_4 rfl rfl ?_
  refine q_getI (pc := 5) (v := rI h 141 4) dX3_isWord_5 lk_RX3_45 (lyc rfl) rfl ?_
  refine z_isub (pc := 8) dX3_isWord_8 ?_
  refine z_aload_n (pc := 9) dX3_isWord_9 rfl rfl ?_
  refine q_invVS (pc := 10) (i := i1) (As := []) (st := [.int ((rI h 141 2) - (rI h 141 4))]) dX3_isWord_10 ok_J0_length_8abf5 ms_RX3_90 iv_J0_length_8abf5 pa_J0_length_8abf5 ⟨Nat.le_of_ble_eq_true rfl, Nat.le_of_ble_eq_true rfl⟩ hi1 (q_kI F (fun vh1 h1 F => ?_))
  obtain ⟨G1, F⟩ := F
  refine z_icmp_eq (pc := 13) (tgt := 18) dX3_isWord_13 (by decide) (fun k2 => ?_) (fun k2 => ?_)
  · replace F := F.1 k2
    refine z_iconst (pc := 18) (v := 0) dX3_isWord_18 (by decide) ?_
    refine z_istore_n (pc := 19) (ls' := [some (.ref 141), some (.ref (1010 + i1)), some (.int 0)]) dX3_isWord_19 rfl (by decide) rfl ?_
    exact F
  · replace F := F.2 k2
    refine z_iconst (pc := 16) (v := 0) dX3_isWord_16 (by decide) ?_
    exact q_retB (pc := 17) dX3_isWord_17 rfl (Or.inl rfl) F
theorem g_X3_isWord_20 {i1 : Nat} {x2 : Int32} {h : zHp} {Q : Int32 → zHp → Prop} (hi1 : i1 < 13) (G : zG h) (F : zcI M_J0_length_8abf5 [.ref (1010 + i1)] h (fun vh1 h1 => zG h1 ∧ ((vh1 ≤ x2 → (Q 1 h1)) ∧ (¬ (vh1 ≤ x2) → (zcI M_X3_byteAt [.ref 141, .int ((rI h1 141 4) + x2)] h1 (fun vh2 h2 => zG h2 ∧ (zcI M_J0_charAt_5068e [.ref (1010 + i1), .int x2] h2 (fun vh3 h3 => zG h3 ∧ ((vh2 = vh3 → (zlI M_X3_isWord 20 [some (.ref 141), some (.ref (1010 + i1)), some (.int (x2 + 1))] [] h3 Q)) ∧ (¬ (vh2 = vh3) → (Q 0 h3))))))))))) : zlI M_X3_isWord 20 [some (.ref 141), some (.ref (1010 + i1)), some (.int x2)] [] h Q := by
  refine z_iload_n (pc := 20) dX3_isWord_20 rfl rfl ?_
  refine z_aload_n (pc := 21) dX3_isWord_21 rfl rfl ?_
  refine q_invVS (pc := 22) (i := i1) (As := []) (st := [.int x2]) dX3_isWord_22 ok_J0_length_8abf5 ms_RX3_90 iv_J0_length_8abf5 pa_J0_length_8abf5 ⟨Nat.le_of_ble_eq_true rfl, Nat.le_of_ble_eq_true rfl⟩ hi1 (q_kI F (fun vh1 h1 F => ?_))
  obtain ⟨G1, F⟩ := F
  refine z_icmp_ge (pc := 25) (tgt := 54) dX3_isWord_25 (by decide) (fun k5 => ?_) (fun k5 => ?_)
  · replace F := F.1 k5
    refine z_iconst (pc := 54) (v := 1) dX3_isWord_54 (by decide) ?_
    exact q_retB (pc := 55) dX3_isWord_55 rfl (Or.inr rfl) F
  · replace F := F.2 k5
    refine z_aload_n (pc := 28) dX3_isWord_28 rfl rfl ?_
    refine z_aload_n (pc := 29) dX3_isWord_29 rfl rfl ?_
    refine q_getI (pc := 30) (v := rI h1 141 4) dX3_isWord_30 lk_RX3_45 (lyc rfl) rfl ?_
    refine z_iload_n (pc := 33) dX3_isWord_33 rfl rfl ?_
    refine z_iadd (pc := 34) dX3_isWord_34 ?_
    refine q_invV (pc := 35) (As := [.int ((rI h1 141 4) + x2)]) (st := []) dX3_isWord_35 ok_X3_byteAt ml_RX3_94 iv_X3_byteAt pa_X3_byteAt ⟨Nat.le_of_ble_eq_true rfl, Nat.le_of_ble_eq_true rfl⟩ (lyc rfl) (q_kI F (fun vh2 h2 F => ?_))
    obtain ⟨G2, F⟩ := F
    refine z_aload_n (pc := 38) dX3_isWord_38 rfl rfl ?_
    refine z_iload_n (pc := 39) dX3_isWord_39 rfl rfl ?_
    refine q_invVS (pc := 40) (i := i1) (As := [.int x2]) (st := [.int vh2]) dX3_isWord_40 ok_J0_charAt_5068e ms_RX3_97 iv_J0_charAt_5068e pa_J0_charAt_5068e ⟨Nat.le_of_ble_eq_true rfl, Nat.le_of_ble_eq_true rfl⟩ hi1 (q_kI F (fun vh3 h3 F => ?_))
    obtain ⟨G3, F⟩ := F
    refine z_icmp_eq (pc := 43) (tgt := 48) dX3_isWord_43 (by decide) (fun k4 => ?_) (fun k4 => ?_)
    · replace F := F.1 k4
      refine z_iinc (pc := 48) (v := x2 + 1) (ls' := [some (.ref 141), some (.ref (1010 + i1)), some (.int (x2 + 1))]) dX3_isWord_48 (by decide) rfl rfl rfl ?_
      refine z_goto (pc := 51) (tgt := 20) dX3_isWord_51 (by decide) ?_
      exact F
    · replace F := F.2 k4
      refine z_iconst (pc := 46) (v := 0) dX3_isWord_46 (by decide) ?_
      exact q_retB (pc := 47) dX3_isWord_47 rfl (Or.inl rfl) F
theorem g_X3_byteAt {x1 : Int32} {h : zHp} {Q : Int32 → zHp → Prop}  (G : zG h) (F : (x1 < 0 → (Q 0 h)) ∧ (¬ (x1 < 0) → ((rI h 141 1 ≤ x1 → (Q 0 h)) ∧ (¬ (rI h 141 1 ≤ x1) → ((120 ≤ x1 → (Q 0 h)) ∧ (¬ (120 ≤ x1) → (vp_in x1 120 ∧ (Q (rI h 142 ((Int32.toNatClampNeg x1))) h)))))))) : zcI M_X3_byteAt [.ref 141, .int x1] h Q := by
  show zw zNT zNT M_X3_byteAt 0 [some (.ref 141), some (.int x1)] [] h _
  refine z_iload_n (pc := 0) dX3_byteAt_0 rfl rfl ?_
  refine z_if_lt (pc := 1) (tgt := 27) dX3_byteAt_1 (by decide) (fun k4 => ?_) (fun k4 => ?_)
  · replace F := F.1 k4
    refine z_iconst (pc := 27) (v := 0) dX3_byteAt_27 (by decide) ?_
    exact q_retI (pc := 28) dX3_byteAt_28 rfl F
  · replace F := F.2 k4
    refine z_iload_n (pc := 4) dX3_byteAt_4 rfl rfl ?_
    refine z_aload_n (pc := 5) dX3_byteAt_5 rfl rfl ?_
    refine q_getI (pc := 6) (v := rI h 141 1) dX3_byteAt_6 lk_RX3_22 (lyc rfl) rfl ?_
    refine z_icmp_ge (pc := 9) (tgt := 27) dX3_byteAt_9 (by decide) (fun k3 => ?_) (fun k3 => ?_)
    · replace F := F.1 k3
      refine z_iconst (pc := 27) (v := 0) dX3_byteAt_27 (by decide) ?_
      exact q_retI (pc := 28) dX3_byteAt_28 rfl F
    · replace F := F.2 k3
      refine z_iload_n (pc := 12) dX3_byteAt_12 rfl rfl ?_
      refine z_bipush (pc := 13) (v := 120) dX3_byteAt_13 (by decide) ?_
      refine z_icmp_ge (pc := 15) (tgt := 27) dX3_byteAt_15 (by decide) (fun k2 => ?_) (fun k2 => ?_)
      · replace F := F.1 k2
        refine z_iconst (pc := 27) (v := 0) dX3_byteAt_27 (by decide) ?_
        exact q_retI (pc := 28) dX3_byteAt_28 rfl F
      · replace F := F.2 k2
        refine z_aload_n (pc := 18) dX3_byteAt_18 rfl rfl ?_
        refine q_getR (pc := 19) (i := 142) dX3_byteAt_19 lk_RX3_9 (lyc rfl) (G 141 0 142 rfl) ?_
        refine z_iload_n (pc := 22) dX3_byteAt_22 rfl rfl ?_
        obtain ⟨k1, F⟩ := F
        refine q_bald (pc := 23) (j := (Int32.toNatClampNeg x1)) (v := rI h 142 ((Int32.toNatClampNeg x1))) dX3_byteAt_23 (lyc rfl) (zvn (lnc rfl) k1) rfl rfl ?_
        refine z_goto (pc := 24) (tgt := 28) dX3_byteAt_24 (by decide) ?_
        exact q_retI (pc := 28) dX3_byteAt_28 rfl F
theorem g_X3_advance  {h : zHp} {Q : zHp → Prop}  (G : zG h) (F : (rI h 141 1 ≤ rI h 141 2 → (zlV M_X3_advance 37 [some (.ref 141), none] [] h Q)) ∧ (¬ (rI h 141 1 ≤ rI h 141 2) → (zcI M_X3_byteAt [.ref 141, .int (rI h 141 2)] h (fun vh1 h1 => zG h1 ∧ ((¬ vh1 = 32 → (zlV M_X3_advance 37 [some (.ref 141), none] [] h1 Q)) ∧ (vh1 = 32 → (zlV M_X3_advance 0 [some (.ref 141), none] [] (wI h1 141 2 ((rI h1 141 2) + 1)) Q))))))) : zcV M_X3_advance [.ref 141] h Q := by
  show zw zNT zNT M_X3_advance 0 [some (.ref 141), none] [] h _
  refine z_aload_n (pc := 0) dX3_advance_0 rfl rfl ?_
  refine q_getI (pc := 1) (v := rI h 141 2) dX3_advance_1 lk_RX3_26 (lyc rfl) rfl ?_
  refine z_aload_n (pc := 4) dX3_advance_4 rfl rfl ?_
  refine q_getI (pc := 5) (v := rI h 141 1) dX3_advance_5 lk_RX3_22 (lyc rfl) rfl ?_
  refine z_icmp_ge (pc := 8) (tgt := 37) dX3_advance_8 (by decide) (fun k3 => ?_) (fun k3 => ?_)
  · replace F := F.1 k3
    exact F
  · replace F := F.2 k3
    refine z_aload_n (pc := 11) dX3_advance_11 rfl rfl ?_
    refine z_aload_n (pc := 12) dX3_advance_12 rfl rfl ?_
    refine q_getI (pc := 13) (v := rI h 141 2) dX3_advance_13 lk_RX3_26 (lyc rfl) rfl ?_
    refine q_invV (pc := 16) (As := [.int (rI h 141 2)]) (st := []) dX3_advance_16 ok_X3_byteAt ml_RX3_94 iv_X3_byteAt pa_X3_byteAt ⟨Nat.le_of_ble_eq_true rfl, Nat.le_of_ble_eq_true rfl⟩ (lyc rfl) (q_kI F (fun vh1 h1 F => ?_))
    obtain ⟨G1, F⟩ := F
    refine z_bipush (pc := 19) (v := 32) dX3_advance_19 (by decide) ?_
    refine z_icmp_ne (pc := 21) (tgt := 37) dX3_advance_21 (by decide) (fun k2 => ?_) (fun k2 => ?_)
    · replace F := F.1 k2
      exact F
    · replace F := F.2 k2
      refine z_aload_n (pc := 24) dX3_advance_24 rfl rfl ?_
      refine z_dup (pc := 25) dX3_advance_25 rfl ?_
      refine q_getI (pc := 26) (v := rI h1 141 2) dX3_advance_26 lk_RX3_26 (lyc rfl) rfl ?_
      refine z_iconst (pc := 29) (v := 1) dX3_advance_29 (by decide) ?_
      refine z_iadd (pc := 30) dX3_advance_30 ?_
      refine q_putI (pc := 31) dX3_advance_31 lk_RX3_26 (lyc rfl) ?_
      refine z_goto (pc := 34) (tgt := 0) dX3_advance_34 (by decide) ?_
      exact F
theorem g_X3_advance_37  {h : zHp} {Q : zHp → Prop}  (G : zG h) (F : (rI h 141 1 ≤ rI h 141 2 → (zlV M_X3_advance 72 [some (.ref 141), none] [.int 0, .ref 141] (wI h 141 4 (rI h 141 2)) Q)) ∧ (¬ (rI h 141 1 ≤ rI h 141 2) → (zcI M_X3_byteAt [.ref 141, .int (rI h 141 2)] (wI h 141 4 (rI h 141 2)) (fun vh1 h1 => zG h1 ∧ (zcI M_X3_kindOf [.int vh1] h1 (fun vh2 h2 => zG h2 ∧ (zlV M_X3_advance 72 [some (.ref 141), none] [.int vh2, .ref 141] h2 Q))))))) : zlV M_X3_advance 37 [some (.ref 141), none] [] h Q := by
  refine z_aload_n (pc := 37) dX3_advance_37 rfl rfl ?_
  refine z_aload_n (pc := 38) dX3_advance_38 rfl rfl ?_
  refine q_getI (pc := 39) (v := rI h 141 2) dX3_advance_39 lk_RX3_26 (lyc rfl) rfl ?_
  refine q_putI (pc := 42) dX3_advance_42 lk_RX3_45 (lyc rfl) ?_
  refine z_aload_n (pc := 45) dX3_advance_45 rfl rfl ?_
  refine z_aload_n (pc := 46) dX3_advance_46 rfl rfl ?_
  refine q_getI (pc := 47) (v := rI h 141 2) dX3_advance_47 lk_RX3_26 (lyc rfl) (rI_k (by decide)) ?_
  refine z_aload_n (pc := 50) dX3_advance_50 rfl rfl ?_
  refine q_getI (pc := 51) (v := rI h 141 1) dX3_advance_51 lk_RX3_22 (lyc rfl) (rI_k (by decide)) ?_
  refine z_icmp_ge (pc := 54) (tgt := 71) dX3_advance_54 (by decide) (fun k3 => ?_) (fun k3 => ?_)
  · replace F := F.1 k3
    refine z_iconst (pc := 71) (v := 0) dX3_advance_71 (by decide) ?_
    exact F
  · replace F := F.2 k3
    refine z_aload_n (pc := 57) dX3_advance_57 rfl rfl ?_
    refine z_aload_n (pc := 58) dX3_advance_58 rfl rfl ?_
    refine q_getI (pc := 59) (v := rI h 141 2) dX3_advance_59 lk_RX3_26 (lyc rfl) (rI_k (by decide)) ?_
    refine q_invV (pc := 62) (As := [.int (rI h 141 2)]) (st := [.ref 141]) dX3_advance_62 ok_X3_byteAt ml_RX3_94 iv_X3_byteAt pa_X3_byteAt ⟨Nat.le_of_ble_eq_true rfl, Nat.le_of_ble_eq_true rfl⟩ (lyc rfl) (q_kI F (fun vh1 h1 F => ?_))
    obtain ⟨G1, F⟩ := F
    refine q_invS (pc := 65) (As := [.int vh1]) (st := [.ref 141]) dX3_advance_65 ok_X3_kindOf ml_RX3_101 st_X3_kindOf pa_X3_kindOf ⟨Nat.le_of_ble_eq_true rfl, Nat.le_of_ble_eq_true rfl⟩ (q_kI F (fun vh2 h2 F => ?_))
    obtain ⟨G2, F⟩ := F
    refine z_goto (pc := 68) (tgt := 72) dX3_advance_68 (by decide) ?_
    exact F
theorem g_X3_advance_72 {xs1 : Int32} {h : zHp} {Q : zHp → Prop}  (G : zG h) (F : (xs1 = 0 → (zlV M_X3_advance 93 [some (.ref 141), some (.int 0)] [] (wI (wI h 141 3 xs1) 141 5 0) Q)) ∧ (¬ (xs1 = 0) → (zlV M_X3_advance 93 [some (.ref 141), some (.int 1)] [] (wI (wI h 141 3 xs1) 141 5 0) Q))) : zlV M_X3_advance 72 [some (.ref 141), none] [.int xs1, .ref 141] h Q := by
  refine q_putI (pc := 72) dX3_advance_72 lk_RX3_42 (lyc rfl) ?_
  refine z_aload_n (pc := 75) dX3_advance_75 rfl rfl ?_
  refine z_iconst (pc := 76) (v := 0) dX3_advance_76 (by decide) ?_
  refine q_putI (pc := 77) dX3_advance_77 lk_RX3_76 (lyc rfl) ?_
  refine z_aload_n (pc := 80) dX3_advance_80 rfl rfl ?_
  refine q_getI (pc := 81) (v := xs1) dX3_advance_81 lk_RX3_42 (lyc rfl) ((rI_k (by decide)).trans rI_s) ?_
  refine z_if_eq (pc := 84) (tgt := 91) dX3_advance_84 (by decide) (fun k1 => ?_) (fun k1 => ?_)
  · replace F := F.1 k1
    refine z_iconst (pc := 91) (v := 0) dX3_advance_91 (by decide) ?_
    refine z_istore_n (pc := 92) (ls' := [some (.ref 141), some (.int 0)]) dX3_advance_92 rfl (by decide) rfl ?_
    exact F
  · replace F := F.2 k1
    refine z_iconst (pc := 87) (v := 1) dX3_advance_87 (by decide) ?_
    refine z_goto (pc := 88) (tgt := 92) dX3_advance_88 (by decide) ?_
    refine z_istore_n (pc := 92) (ls' := [some (.ref 141), some (.int 1)]) dX3_advance_92 rfl (by decide) rfl ?_
    exact F
theorem g_X3_advance_93 {x1 : Int32} {h : zHp} {Q : zHp → Prop}  (G : zG h) (F : (x1 = 0 → (Q h)) ∧ (¬ (x1 = 0) → ((rI h 141 1 ≤ rI h 141 2 → (Q h)) ∧ (¬ (rI h 141 1 ≤ rI h 141 2) → ((¬ rI h 141 3 = 2 → (zlV M_X3_advance 144 [some (.ref 141), some (.int x1)] [] h Q)) ∧ (rI h 141 3 = 2 → (zcI M_X3_byteAt [.ref 141, .int (rI h 141 2)] h (fun vh1 h1 => zG h1 ∧ (zlV M_X3_advance 144 [some (.ref 141), some (.int x1)] [] (wI h1 141 5 (if (((rI h 141 5) * 10) + vh1) - 48 < (10 : Int32) then (((rI h 141 5) * 10) + vh1) - 48 else 10)) Q))))))))) : zlV M_X3_advance 93 [some (.ref 141), some (.int x1)] [] h Q := by
  refine z_iload_n (pc := 93) dX3_advance_93 rfl rfl ?_
  refine z_if_eq (pc := 94) (tgt := 197) dX3_advance_94 (by decide) (fun k4 => ?_) (fun k4 => ?_)
  · replace F := F.1 k4
    exact q_retV (pc := 197) dX3_advance_197 rfl F
  · replace F := F.2 k4
    refine z_aload_n (pc := 97) dX3_advance_97 rfl rfl ?_
    refine q_getI (pc := 98) (v := rI h 141 2) dX3_advance_98 lk_RX3_26 (lyc rfl) rfl ?_
    refine z_aload_n (pc := 101) dX3_advance_101 rfl rfl ?_
    refine q_getI (pc := 102) (v := rI h 141 1) dX3_advance_102 lk_RX3_22 (lyc rfl) rfl ?_
    refine z_icmp_ge (pc := 105) (tgt := 197) dX3_advance_105 (by decide) (fun k3 => ?_) (fun k3 => ?_)
    · replace F := F.1 k3
      exact q_retV (pc := 197) dX3_advance_197 rfl F
    · replace F := F.2 k3
      refine z_aload_n (pc := 108) dX3_advance_108 rfl rfl ?_
      refine q_getI (pc := 109) (v := rI h 141 3) dX3_advance_109 lk_RX3_42 (lyc rfl) rfl ?_
      refine z_iconst (pc := 112) (v := 2) dX3_advance_112 (by decide) ?_
      refine z_icmp_ne (pc := 113) (tgt := 144) dX3_advance_113 (by decide) (fun k2 => ?_) (fun k2 => ?_)
      · replace F := F.1 k2
        exact F
      · replace F := F.2 k2
        refine z_aload_n (pc := 116) dX3_advance_116 rfl rfl ?_
        refine z_bipush (pc := 117) (v := 10) dX3_advance_117 (by decide) ?_
        refine z_aload_n (pc := 119) dX3_advance_119 rfl rfl ?_
        refine q_getI (pc := 120) (v := rI h 141 5) dX3_advance_120 lk_RX3_76 (lyc rfl) rfl ?_
        refine z_bipush (pc := 123) (v := 10) dX3_advance_123 (by decide) ?_
        refine z_imul (pc := 125) dX3_advance_125 ?_
        refine z_aload_n (pc := 126) dX3_advance_126 rfl rfl ?_
        refine z_aload_n (pc := 127) dX3_advance_127 rfl rfl ?_
        refine q_getI (pc := 128) (v := rI h 141 2) dX3_advance_128 lk_RX3_26 (lyc rfl) rfl ?_
        refine q_invV (pc := 131) (As := [.int (rI h 141 2)]) (st := [.int ((rI h 141 5) * 10), .int 10, .ref 141]) dX3_advance_131 ok_X3_byteAt ml_RX3_94 iv_X3_byteAt pa_X3_byteAt ⟨Nat.le_of_ble_eq_true rfl, Nat.le_of_ble_eq_true rfl⟩ (lyc rfl) (q_kI F (fun vh1 h1 F => ?_))
        obtain ⟨G1, F⟩ := F
        refine z_iadd (pc := 134) dX3_advance_134 ?_
        refine z_bipush (pc := 135) (v := 48) dX3_advance_135 (by decide) ?_
        refine z_isub (pc := 137) dX3_advance_137 ?_
        refine z_min (pc := 138) dX3_advance_138 ⟨pl_RX3_104, pw_minS, pw_Math, pw_minC⟩ (zcat_of rfl) ⟨Nat.le_of_ble_eq_true rfl, Nat.le_of_ble_eq_true rfl⟩ ?_
        refine q_putI (pc := 141) dX3_advance_141 lk_RX3_76 (lyc rfl) ?_
        exact F
theorem g_X3_advance_144 {x1 : Int32} {h : zHp} {Q : zHp → Prop}  (G : zG h) (F : (rI h 141 3 = 1 → (zlV M_X3_advance 170 [some (.ref 141), some (.int x1)] [] (wI h 141 2 ((rI h 141 2) + 1)) Q)) ∧ (¬ (rI h 141 3 = 1) → ((¬ rI h 141 3 = 2 → (zlV M_X3_advance 93 [some (.ref 141), some (.int 0)] [] (wI h 141 2 ((rI h 141 2) + 1)) Q)) ∧ (rI h 141 3 = 2 → (zlV M_X3_advance 170 [some (.ref 141), some (.int x1)] [] (wI h 141 2 ((rI h 141 2) + 1)) Q))))) : zlV M_X3_advance 144 [some (.ref 141), some (.int x1)] [] h Q := by
  refine z_aload_n (pc := 144) dX3_advance_144 rfl rfl ?_
  refine z_dup (pc := 145) dX3_advance_145 rfl ?_
  refine q_getI (pc := 146) (v := rI h 141 2) dX3_advance_146 lk_RX3_26 (lyc rfl) rfl ?_
  refine z_iconst (pc := 149) (v := 1) dX3_advance_149 (by decide) ?_
  refine z_iadd (pc := 150) dX3_advance_150 ?_
  refine q_putI (pc := 151) dX3_advance_151 lk_RX3_26 (lyc rfl) ?_
  refine z_aload_n (pc := 154) dX3_advance_154 rfl rfl ?_
  refine q_getI (pc := 155) (v := rI h 141 3) dX3_advance_155 lk_RX3_42 (lyc rfl) (rI_k (by decide)) ?_
  refine z_iconst (pc := 158) (v := 1) dX3_advance_158 (by decide) ?_
  refine z_icmp_eq (pc := 159) (tgt := 170) dX3_advance_159 (by decide) (fun k2 => ?_) (fun k2 => ?_)
  · replace F := F.1 k2
    exact F
  · replace F := F.2 k2
    refine z_aload_n (pc := 162) dX3_advance_162 rfl rfl ?_
    refine q_getI (pc := 163) (v := rI h 141 3) dX3_advance_163 lk_RX3_42 (lyc rfl) (rI_k (by decide)) ?_
    refine z_iconst (pc := 166) (v := 2) dX3_advance_166 (by decide) ?_
    refine z_icmp_ne (pc := 167) (tgt := 192) dX3_advance_167 (by decide) (fun k1 => ?_) (fun k1 => ?_)
    · replace F := F.1 k1
      refine z_iconst (pc := 192) (v := 0) dX3_advance_192 (by decide) ?_
      refine z_istore_n (pc := 193) (ls' := [some (.ref 141), some (.int 0)]) dX3_advance_193 rfl (by decide) rfl ?_
      refine z_goto (pc := 194) (tgt := 93) dX3_advance_194 (by decide) ?_
      exact F
    · replace F := F.2 k1
      exact F
theorem g_X3_advance_170 {x1 : Int32} {h : zHp} {Q : zHp → Prop}  (G : zG h) (F : zcI M_X3_byteAt [.ref 141, .int (rI h 141 2)] h (fun vh1 h1 => zG h1 ∧ (zcI M_X3_kindOf [.int vh1] h1 (fun vh2 h2 => zG h2 ∧ ((¬ vh2 = rI h2 141 3 → (zlV M_X3_advance 93 [some (.ref 141), some (.int 0)] [] h2 Q)) ∧ (vh2 = rI h2 141 3 → (zlV M_X3_advance 93 [some (.ref 141), some (.int 1)] [] h2 Q))))))) : zlV M_X3_advance 170 [some (.ref 141), some (.int x1)] [] h Q := by
  refine z_aload_n (pc := 170) dX3_advance_170 rfl rfl ?_
  refine z_aload_n (pc := 171) dX3_advance_171 rfl rfl ?_
  refine q_getI (pc := 172) (v := rI h 141 2) dX3_advance_172 lk_RX3_26 (lyc rfl) rfl ?_
  refine q_invV (pc := 175) (As := [.int (rI h 141 2)]) (st := []) dX3_advance_175 ok_X3_byteAt ml_RX3_94 iv_X3_byteAt pa_X3_byteAt ⟨Nat.le_of_ble_eq_true rfl, Nat.le_of_ble_eq_true rfl⟩ (lyc rfl) (q_kI F (fun vh1 h1 F => ?_))
  obtain ⟨G1, F⟩ := F
  refine q_invS (pc := 178) (As := [.int vh1]) (st := []) dX3_advance_178 ok_X3_kindOf ml_RX3_101 st_X3_kindOf pa_X3_kindOf ⟨Nat.le_of_ble_eq_true rfl, Nat.le_of_ble_eq_true rfl⟩ (q_kI F (fun vh2 h2 F => ?_))
  obtain ⟨G2, F⟩ := F
  refine z_aload_n (pc := 181) dX3_advance_181 rfl rfl ?_
  refine q_getI (pc := 182) (v := rI h2 141 3) dX3_advance_182 lk_RX3_42 (lyc rfl) rfl ?_
  refine z_icmp_ne (pc := 185) (tgt := 192) dX3_advance_185 (by decide) (fun k3 => ?_) (fun k3 => ?_)
  · replace F := F.1 k3
    refine z_iconst (pc := 192) (v := 0) dX3_advance_192 (by decide) ?_
    refine z_istore_n (pc := 193) (ls' := [some (.ref 141), some (.int 0)]) dX3_advance_193 rfl (by decide) rfl ?_
    refine z_goto (pc := 194) (tgt := 93) dX3_advance_194 (by decide) ?_
    exact F
  · replace F := F.2 k3
    refine z_iconst (pc := 188) (v := 1) dX3_advance_188 (by decide) ?_
    refine z_goto (pc := 189) (tgt := 193) dX3_advance_189 (by decide) ?_
    refine z_istore_n (pc := 193) (ls' := [some (.ref 141), some (.int 1)]) dX3_advance_193 rfl (by decide) rfl ?_
    refine z_goto (pc := 194) (tgt := 93) dX3_advance_194 (by decide) ?_
    exact F
theorem g_X3_kindOf {x0 : Int32} {h : zHp} {Q : Int32 → zHp → Prop}  (G : zG h) (F : (x0 < 97 → ((x0 < 48 → (zlI M_X3_kindOf 28 [some (.int x0)] [] h Q)) ∧ (¬ (x0 < 48) → ((57 < x0 → (zlI M_X3_kindOf 28 [some (.int x0)] [] h Q)) ∧ (¬ (57 < x0) → (Q 2 h)))))) ∧ (¬ (x0 < 97) → ((122 < x0 → ((x0 < 48 → (zlI M_X3_kindOf 28 [some (.int x0)] [] h Q)) ∧ (¬ (x0 < 48) → ((57 < x0 → (zlI M_X3_kindOf 28 [some (.int x0)] [] h Q)) ∧ (¬ (57 < x0) → (Q 2 h)))))) ∧ (¬ (122 < x0) → (Q 1 h))))) : zcI M_X3_kindOf [.int x0] h Q := by
  show zw zNT zNT M_X3_kindOf 0 [some (.int x0)] [] h _
  refine z_iload_n (pc := 0) dX3_kindOf_0 rfl rfl ?_
  refine z_bipush (pc := 1) (v := 97) dX3_kindOf_1 (by decide) ?_
  refine z_icmp_lt (pc := 3) (tgt := 14) dX3_kindOf_3 (by decide) (fun k6 => ?_) (fun k6 => ?_)
  · replace F := F.1 k6
    refine z_iload_n (pc := 14) dX3_kindOf_14 rfl rfl ?_
    refine z_bipush (pc := 15) (v := 48) dX3_kindOf_15 (by decide) ?_
    refine z_icmp_lt (pc := 17) (tgt := 28) dX3_kindOf_17 (by decide) (fun k2 => ?_) (fun k2 => ?_)
    · replace F := F.1 k2
      exact F
    · replace F := F.2 k2
      refine z_iload_n (pc := 20) dX3_kindOf_20 rfl rfl ?_
      refine z_bipush (pc := 21) (v := 57) dX3_kindOf_21 (by decide) ?_
      refine z_icmp_gt (pc := 23) (tgt := 28) dX3_kindOf_23 (by decide) (fun k1 => ?_) (fun k1 => ?_)
      · replace F := F.1 k1
        exact F
      · replace F := F.2 k1
        refine z_iconst (pc := 26) (v := 2) dX3_kindOf_26 (by decide) ?_
        exact q_retI (pc := 27) dX3_kindOf_27 rfl F
  · replace F := F.2 k6
    refine z_iload_n (pc := 6) dX3_kindOf_6 rfl rfl ?_
    refine z_bipush (pc := 7) (v := 122) dX3_kindOf_7 (by decide) ?_
    refine z_icmp_gt (pc := 9) (tgt := 14) dX3_kindOf_9 (by decide) (fun k5 => ?_) (fun k5 => ?_)
    · replace F := F.1 k5
      refine z_iload_n (pc := 14) dX3_kindOf_14 rfl rfl ?_
      refine z_bipush (pc := 15) (v := 48) dX3_kindOf_15 (by decide) ?_
      refine z_icmp_lt (pc := 17) (tgt := 28) dX3_kindOf_17 (by decide) (fun k4 => ?_) (fun k4 => ?_)
      · replace F := F.1 k4
        exact F
      · replace F := F.2 k4
        refine z_iload_n (pc := 20) dX3_kindOf_20 rfl rfl ?_
        refine z_bipush (pc := 21) (v := 57) dX3_kindOf_21 (by decide) ?_
        refine z_icmp_gt (pc := 23) (tgt := 28) dX3_kindOf_23 (by decide) (fun k3 => ?_) (fun k3 => ?_)
        · replace F := F.1 k3
          exact F
        · replace F := F.2 k3
          refine z_iconst (pc := 26) (v := 2) dX3_kindOf_26 (by decide) ?_
          exact q_retI (pc := 27) dX3_kindOf_27 rfl F
    · replace F := F.2 k5
      refine z_iconst (pc := 12) (v := 1) dX3_kindOf_12 (by decide) ?_
      exact q_retI (pc := 13) dX3_kindOf_13 rfl F
theorem g_X3_kindOf_28 {x0 : Int32} {h : zHp} {Q : Int32 → zHp → Prop}  (G : zG h) (F : (¬ x0 = 59 → ((¬ x0 = 45 → (Q 5 h)) ∧ (x0 = 45 → (Q 4 h)))) ∧ (x0 = 59 → (Q 3 h))) : zlI M_X3_kindOf 28 [some (.int x0)] [] h Q := by
  refine z_iload_n (pc := 28) dX3_kindOf_28 rfl rfl ?_
  refine z_bipush (pc := 29) (v := 59) dX3_kindOf_29 (by decide) ?_
  refine z_icmp_ne (pc := 31) (tgt := 36) dX3_kindOf_31 (by decide) (fun k2 => ?_) (fun k2 => ?_)
  · replace F := F.1 k2
    refine z_iload_n (pc := 36) dX3_kindOf_36 rfl rfl ?_
    refine z_bipush (pc := 37) (v := 45) dX3_kindOf_37 (by decide) ?_
    refine z_icmp_ne (pc := 39) (tgt := 46) dX3_kindOf_39 (by decide) (fun k1 => ?_) (fun k1 => ?_)
    · replace F := F.1 k1
      refine z_iconst (pc := 46) (v := 5) dX3_kindOf_46 (by decide) ?_
      exact q_retI (pc := 47) dX3_kindOf_47 rfl F
    · replace F := F.2 k1
      refine z_iconst (pc := 42) (v := 4) dX3_kindOf_42 (by decide) ?_
      refine z_goto (pc := 43) (tgt := 47) dX3_kindOf_43 (by decide) ?_
      exact q_retI (pc := 47) dX3_kindOf_47 rfl F
  · replace F := F.2 k2
    refine z_iconst (pc := 34) (v := 3) dX3_kindOf_34 (by decide) ?_
    exact q_retI (pc := 35) dX3_kindOf_35 rfl F
theorem g_X4_become {c0 : Nat} {x1 : Int32} {x2 : Int32} {x3 : Int32} {x4 : Int32} {h : zHp} {Q : zHp → Prop} (hc0 : ly c0 = 5) (G : zG h) (F : Q (wI (wI (wI (wI h c0 0 x1) c0 1 x2) c0 2 x3) c0 3 x4)) : zcV M_X4_become [.ref c0, .int x1, .int x2, .int x3, .int x4] h Q := by
  show zw zNT zNT M_X4_become 0 [some (.ref c0), some (.int x1), some (.int x2), some (.int x3), some (.int x4)] [] h _
  refine z_aload_n (pc := 0) dX4_become_0 rfl rfl ?_
  refine z_iload_n (pc := 1) dX4_become_1 rfl rfl ?_
  refine q_putI (pc := 2) dX4_become_2 lk_RX4_7 hc0 ?_
  refine z_aload_n (pc := 5) dX4_become_5 rfl rfl ?_
  refine z_iload_n (pc := 6) dX4_become_6 rfl rfl ?_
  refine q_putI (pc := 7) dX4_become_7 lk_RX4_13 hc0 ?_
  refine z_aload_n (pc := 10) dX4_become_10 rfl rfl ?_
  refine z_iload_n (pc := 11) dX4_become_11 rfl rfl ?_
  refine q_putI (pc := 12) dX4_become_12 lk_RX4_16 hc0 ?_
  refine z_aload_n (pc := 15) dX4_become_15 rfl rfl ?_
  refine z_iload (pc := 16) dX4_become_16 rfl ?_
  refine q_putI (pc := 18) dX4_become_18 lk_RX4_19 hc0 ?_
  exact q_retV (pc := 21) dX4_become_21 rfl F
theorem g_X4_copyFrom {c0 : Nat} {c1 : Nat} {h : zHp} {Q : zHp → Prop} (hc0 : ly c0 = 5) (hc1 : ly c1 = 5) (G : zG h) (F : zcV M_X4_become [.ref c0, .int (rI h c1 0), .int (rI h c1 1), .int (rI h c1 2), .int (rI h c1 3)] h (fun h1 => zG h1 ∧ (Q h1))) : zcV M_X4_copyFrom [.ref c0, .ref c1] h Q := by
  show zw zNT zNT M_X4_copyFrom 0 [some (.ref c0), some (.ref c1)] [] h _
  refine z_aload_n (pc := 0) dX4_copyFrom_0 rfl rfl ?_
  refine z_aload_n (pc := 1) dX4_copyFrom_1 rfl rfl ?_
  refine q_getI (pc := 2) (v := rI h c1 0) dX4_copyFrom_2 lk_RX4_7 hc1 rfl ?_
  refine z_aload_n (pc := 5) dX4_copyFrom_5 rfl rfl ?_
  refine q_getI (pc := 6) (v := rI h c1 1) dX4_copyFrom_6 lk_RX4_13 hc1 rfl ?_
  refine z_aload_n (pc := 9) dX4_copyFrom_9 rfl rfl ?_
  refine q_getI (pc := 10) (v := rI h c1 2) dX4_copyFrom_10 lk_RX4_16 hc1 rfl ?_
  refine z_aload_n (pc := 13) dX4_copyFrom_13 rfl rfl ?_
  refine q_getI (pc := 14) (v := rI h c1 3) dX4_copyFrom_14 lk_RX4_19 hc1 rfl ?_
  refine q_invV (pc := 17) (As := [.int (rI h c1 0), .int (rI h c1 1), .int (rI h c1 2), .int (rI h c1 3)]) (st := []) dX4_copyFrom_17 ok_X4_become ml_RX4_22 iv_X4_become pa_X4_become ⟨Nat.le_of_ble_eq_true rfl, Nat.le_of_ble_eq_true rfl⟩ hc0 (q_kV F (fun h1 F => ?_))
  obtain ⟨G1, F⟩ := F
  exact q_retV (pc := 20) dX4_copyFrom_20 rfl F
theorem g_X5_become {c0 : Nat} {x1 : Int32} {x2 : Int32} {h : zHp} {Q : zHp → Prop} (hc0 : zSh c0) (G : zG h) (F : zlV M_X5_become 12 [some (.ref c0), some (.int x1), some (.int x2), some (.int 0)] [] (wI (wI h c0 0 x1) c0 1 x2) Q) : zcV M_X5_become [.ref c0, .int x1, .int x2] h Q := by
  show zw zNT zNT M_X5_become 0 [some (.ref c0), some (.int x1), some (.int x2), none] [] h _
  refine z_aload_n (pc := 0) dX5_become_0 rfl rfl ?_
  refine z_iload_n (pc := 1) dX5_become_1 rfl rfl ?_
  refine q_putI (pc := 2) dX5_become_2 lk_RX5_9 (lySh0 hc0) ?_
  refine z_aload_n (pc := 5) dX5_become_5 rfl rfl ?_
  refine z_iload_n (pc := 6) dX5_become_6 rfl rfl ?_
  refine q_putI (pc := 7) dX5_become_7 lk_RX5_19 (lySh0 hc0) ?_
  refine z_iconst (pc := 10) (v := 0) dX5_become_10 (by decide) ?_
  refine z_istore_n (pc := 11) (ls' := [some (.ref c0), some (.int x1), some (.int x2), some (.int 0)]) dX5_become_11 rfl (by decide) rfl ?_
  exact F
theorem g_X5_become_12 {c0 : Nat} {x1 : Int32} {x2 : Int32} {x3 : Int32} {h : zHp} {Q : zHp → Prop} (hc0 : zSh c0) (G : zG h) (F : (40 ≤ x3 → (Q h)) ∧ (¬ (40 ≤ x3) → (vp_in x3 40 ∧ (zlV M_X5_become 12 [some (.ref c0), some (.int x1), some (.int x2), some (.int (x3 + 1))] [] (wI h (c0 + 1) ((Int32.toNatClampNeg x3)) 0) Q)))) : zlV M_X5_become 12 [some (.ref c0), some (.int x1), some (.int x2), some (.int x3)] [] h Q := by
  refine z_iload_n (pc := 12) dX5_become_12 rfl rfl ?_
  refine z_bipush (pc := 13) (v := 40) dX5_become_13 (by decide) ?_
  refine z_icmp_ge (pc := 15) (tgt := 31) dX5_become_15 (by decide) (fun k2 => ?_) (fun k2 => ?_)
  · replace F := F.1 k2
    exact q_retV (pc := 31) dX5_become_31 rfl F
  · replace F := F.2 k2
    refine z_aload_n (pc := 18) dX5_become_18 rfl rfl ?_
    refine q_getR (pc := 19) (i := c0 + 1) dX5_become_19 lk_RX5_15 (lySh0 hc0) (grSh2 G hc0) ?_
    refine z_iload_n (pc := 22) dX5_become_22 rfl rfl ?_
    refine z_iconst (pc := 23) (v := 0) dX5_become_23 (by decide) ?_
    obtain ⟨k1, F⟩ := F
    refine q_iast (pc := 24) (j := (Int32.toNatClampNeg x3)) dX5_become_24 (lySh1 hc0) (zvn (lnSh1 hc0) k1) rfl ?_
    refine z_iinc (pc := 25) (v := x3 + 1) (ls' := [some (.ref c0), some (.int x1), some (.int x2), some (.int (x3 + 1))]) dX5_become_25 (by decide) rfl rfl rfl ?_
    refine z_goto (pc := 28) (tgt := 12) dX5_become_28 (by decide) ?_
    exact F
theorem g_X5_spans {c0 : Nat} {x1 : Int32} {x2 : Int32} {h : zHp} {Q : Int32 → zHp → Prop} (hc0 : zSh c0) (G : zG h) (F : (x2 < 0 → (Q 0 h)) ∧ (¬ (x2 < 0) → ((rI h c0 1 < x2 → (Q 0 h)) ∧ (¬ (rI h c0 1 < x2) → (zcI M_X10_within [.int x1, .int 0, .int ((rI h c0 1) - x2)] h (fun vh1 h1 => zG h1 ∧ ((vh1 = 0 → (Q 0 h1)) ∧ (¬ (vh1 = 0) → (Q 1 h1))))))))) : zcI M_X5_spans [.ref c0, .int x1, .int x2] h Q := by
  show zw zNT zNT M_X5_spans 0 [some (.ref c0), some (.int x1), some (.int x2)] [] h _
  refine z_iload_n (pc := 0) dX5_spans_0 rfl rfl ?_
  refine z_if_lt (pc := 1) (tgt := 30) dX5_spans_1 (by decide) (fun k4 => ?_) (fun k4 => ?_)
  · replace F := F.1 k4
    refine z_iconst (pc := 30) (v := 0) dX5_spans_30 (by decide) ?_
    exact q_retB (pc := 31) dX5_spans_31 rfl (Or.inl rfl) F
  · replace F := F.2 k4
    refine z_iload_n (pc := 4) dX5_spans_4 rfl rfl ?_
    refine z_aload_n (pc := 5) dX5_spans_5 rfl rfl ?_
    refine q_getI (pc := 6) (v := rI h c0 1) dX5_spans_6 lk_RX5_19 (lySh0 hc0) rfl ?_
    refine z_icmp_gt (pc := 9) (tgt := 30) dX5_spans_9 (by decide) (fun k3 => ?_) (fun k3 => ?_)
    · replace F := F.1 k3
      refine z_iconst (pc := 30) (v := 0) dX5_spans_30 (by decide) ?_
      exact q_retB (pc := 31) dX5_spans_31 rfl (Or.inl rfl) F
    · replace F := F.2 k3
      refine z_iload_n (pc := 12) dX5_spans_12 rfl rfl ?_
      refine z_iconst (pc := 13) (v := 0) dX5_spans_13 (by decide) ?_
      refine z_aload_n (pc := 14) dX5_spans_14 rfl rfl ?_
      refine q_getI (pc := 15) (v := rI h c0 1) dX5_spans_15 lk_RX5_19 (lySh0 hc0) rfl ?_
      refine z_iload_n (pc := 18) dX5_spans_18 rfl rfl ?_
      refine z_isub (pc := 19) dX5_spans_19 ?_
      refine q_invS (pc := 20) (As := [.int x1, .int 0, .int ((rI h c0 1) - x2)]) (st := []) dX5_spans_20 ok_X10_within ml_RX5_22 st_X10_within pa_X10_within ⟨Nat.le_of_ble_eq_true rfl, Nat.le_of_ble_eq_true rfl⟩ (q_kI F (fun vh1 h1 F => ?_))
      obtain ⟨G1, F⟩ := F
      refine z_if_eq (pc := 23) (tgt := 30) dX5_spans_23 (by decide) (fun k2 => ?_) (fun k2 => ?_)
      · replace F := F.1 k2
        refine z_iconst (pc := 30) (v := 0) dX5_spans_30 (by decide) ?_
        exact q_retB (pc := 31) dX5_spans_31 rfl (Or.inl rfl) F
      · replace F := F.2 k2
        refine z_iconst (pc := 26) (v := 1) dX5_spans_26 (by decide) ?_
        refine z_goto (pc := 27) (tgt := 31) dX5_spans_27 (by decide) ?_
        exact q_retB (pc := 31) dX5_spans_31 rfl (Or.inr rfl) F
theorem g_X5_appendText {c0 : Nat} {i1 : Nat} {h : zHp} {Q : zHp → Prop} (hc0 : zSh c0) (hi1 : i1 < 13) (G : zG h) (F : zlV M_X5_appendText 2 [some (.ref c0), some (.ref (1010 + i1)), some (.int 0)] [] h Q) : zcV M_X5_appendText [.ref c0, .ref (1010 + i1)] h Q := by
  show zw zNT zNT M_X5_appendText 0 [some (.ref c0), some (.ref (1010 + i1)), none] [] h _
  refine z_iconst (pc := 0) (v := 0) dX5_appendText_0 (by decide) ?_
  refine z_istore_n (pc := 1) (ls' := [some (.ref c0), some (.ref (1010 + i1)), some (.int 0)]) dX5_appendText_1 rfl (by decide) rfl ?_
  exact F
theorem g_X5_appendText_2 {c0 : Nat} {i1 : Nat} {x2 : Int32} {h : zHp} {Q : zHp → Prop} (hc0 : zSh c0) (hi1 : i1 < 13) (G : zG h) (F : zcI M_J0_length_8abf5 [.ref (1010 + i1)] h (fun vh1 h1 => zG h1 ∧ ((vh1 ≤ x2 → (Q h1)) ∧ (¬ (vh1 ≤ x2) → (zcI M_J0_charAt_5068e [.ref (1010 + i1), .int x2] h1 (fun vh2 h2 => zG h2 ∧ (zcV M_X5_appendSign [.ref c0, .int vh2] h2 (fun h3 => zG h3 ∧ (zlV M_X5_appendText 2 [some (.ref c0), some (.ref (1010 + i1)), some (.int (x2 + 1))] [] h3 Q))))))))) : zlV M_X5_appendText 2 [some (.ref c0), some (.ref (1010 + i1)), some (.int x2)] [] h Q := by
  refine z_iload_n (pc := 2) dX5_appendText_2 rfl rfl ?_
  refine z_aload_n (pc := 3) dX5_appendText_3 rfl rfl ?_
  refine q_invVS (pc := 4) (i := i1) (As := []) (st := [.int x2]) dX5_appendText_4 ok_J0_length_8abf5 ms_RX5_26 iv_J0_length_8abf5 pa_J0_length_8abf5 ⟨Nat.le_of_ble_eq_true rfl, Nat.le_of_ble_eq_true rfl⟩ hi1 (q_kI F (fun vh1 h1 F => ?_))
  obtain ⟨G1, F⟩ := F
  refine z_icmp_ge (pc := 7) (tgt := 25) dX5_appendText_7 (by decide) (fun k4 => ?_) (fun k4 => ?_)
  · replace F := F.1 k4
    exact q_retV (pc := 25) dX5_appendText_25 rfl F
  · replace F := F.2 k4
    refine z_aload_n (pc := 10) dX5_appendText_10 rfl rfl ?_
    refine z_aload_n (pc := 11) dX5_appendText_11 rfl rfl ?_
    refine z_iload_n (pc := 12) dX5_appendText_12 rfl rfl ?_
    refine q_invVS (pc := 13) (i := i1) (As := [.int x2]) (st := [.ref c0]) dX5_appendText_13 ok_J0_charAt_5068e ms_RX5_31 iv_J0_charAt_5068e pa_J0_charAt_5068e ⟨Nat.le_of_ble_eq_true rfl, Nat.le_of_ble_eq_true rfl⟩ hi1 (q_kI F (fun vh2 h2 F => ?_))
    obtain ⟨G2, F⟩ := F
    refine q_invV (pc := 16) (As := [.int vh2]) (st := []) dX5_appendText_16 ok_X5_appendSign ml_RX5_35 iv_X5_appendSign pa_X5_appendSign ⟨Nat.le_of_ble_eq_true rfl, Nat.le_of_ble_eq_true rfl⟩ (lySh0 hc0) (q_kV F (fun h3 F => ?_))
    obtain ⟨G3, F⟩ := F
    refine z_iinc (pc := 19) (v := x2 + 1) (ls' := [some (.ref c0), some (.ref (1010 + i1)), some (.int (x2 + 1))]) dX5_appendText_19 (by decide) rfl rfl rfl ?_
    refine z_goto (pc := 22) (tgt := 2) dX5_appendText_22 (by decide) ?_
    exact F
theorem g_X5_appendValue {c0 : Nat} {x1 : Int32} {h : zHp} {Q : zHp → Prop} (hc0 : zSh c0) (G : zG h) (F : zcV M_X5_appendSign [.ref c0, .int 32] h (fun h1 => zG h1 ∧ ((0 ≤ x1 → (zcV M_X5_appendSign [.ref c0, .int ((Int32.toUInt32 (48 + (if 0 ≤ x1 then x1 else 0 - x1)) % 65536).toInt32)] h1 (fun h2 => zG h2 ∧ (Q h2)))) ∧ (¬ (0 ≤ x1) → (zcV M_X5_appendSign [.ref c0, .int 45] h1 (fun h3 => zG h3 ∧ (zcV M_X5_appendSign [.ref c0, .int ((Int32.toUInt32 (48 + (if 0 ≤ x1 then x1 else 0 - x1)) % 65536).toInt32)] h3 (fun h4 => zG h4 ∧ (Q h4))))))))) : zcV M_X5_appendValue [.ref c0, .int x1] h Q := by
  show zw zNT zNT M_X5_appendValue 0 [some (.ref c0), some (.int x1)] [] h _
  refine z_aload_n (pc := 0) dX5_appendValue_0 rfl rfl ?_
  refine z_bipush (pc := 1) (v := 32) dX5_appendValue_1 (by decide) ?_
  refine q_invV (pc := 3) (As := [.int 32]) (st := []) dX5_appendValue_3 ok_X5_appendSign ml_RX5_35 iv_X5_appendSign pa_X5_appendSign ⟨Nat.le_of_ble_eq_true rfl, Nat.le_of_ble_eq_true rfl⟩ (lySh0 hc0) (q_kV F (fun h1 F => ?_))
  obtain ⟨G1, F⟩ := F
  refine z_iload_n (pc := 6) dX5_appendValue_6 rfl rfl ?_
  refine z_if_ge (pc := 7) (tgt := 16) dX5_appendValue_7 (by decide) (fun k5 => ?_) (fun k5 => ?_)
  · replace F := F.1 k5
    refine z_aload_n (pc := 16) dX5_appendValue_16 rfl rfl ?_
    refine z_bipush (pc := 17) (v := 48) dX5_appendValue_17 (by decide) ?_
    refine z_iload_n (pc := 19) dX5_appendValue_19 rfl rfl ?_
    refine z_abs (pc := 20) dX5_appendValue_20 ⟨pl_RX5_39, pw_absS, pw_Math, pw_absC⟩ (zcat_of rfl) ⟨Nat.le_of_ble_eq_true rfl, Nat.le_of_ble_eq_true rfl⟩ ?_
    refine z_iadd (pc := 23) dX5_appendValue_23 ?_
    refine z_i2c (pc := 24) dX5_appendValue_24 ?_
    refine q_invV (pc := 25) (As := [.int ((Int32.toUInt32 (48 + (if 0 ≤ x1 then x1 else 0 - x1)) % 65536).toInt32)]) (st := []) dX5_appendValue_25 ok_X5_appendSign ml_RX5_35 iv_X5_appendSign pa_X5_appendSign ⟨Nat.le_of_ble_eq_true rfl, Nat.le_of_ble_eq_true rfl⟩ (lySh0 hc0) (q_kV F (fun h2 F => ?_))
    obtain ⟨G2, F⟩ := F
    exact q_retV (pc := 28) dX5_appendValue_28 rfl F
  · replace F := F.2 k5
    refine z_aload_n (pc := 10) dX5_appendValue_10 rfl rfl ?_
    refine z_bipush (pc := 11) (v := 45) dX5_appendValue_11 (by decide) ?_
    refine q_invV (pc := 13) (As := [.int 45]) (st := []) dX5_appendValue_13 ok_X5_appendSign ml_RX5_35 iv_X5_appendSign pa_X5_appendSign ⟨Nat.le_of_ble_eq_true rfl, Nat.le_of_ble_eq_true rfl⟩ (lySh0 hc0) (q_kV F (fun h3 F => ?_))
    obtain ⟨G3, F⟩ := F
    refine z_aload_n (pc := 16) dX5_appendValue_16 rfl rfl ?_
    refine z_bipush (pc := 17) (v := 48) dX5_appendValue_17 (by decide) ?_
    refine z_iload_n (pc := 19) dX5_appendValue_19 rfl rfl ?_
    refine z_abs (pc := 20) dX5_appendValue_20 ⟨pl_RX5_39, pw_absS, pw_Math, pw_absC⟩ (zcat_of rfl) ⟨Nat.le_of_ble_eq_true rfl, Nat.le_of_ble_eq_true rfl⟩ ?_
    refine z_iadd (pc := 23) dX5_appendValue_23 ?_
    refine z_i2c (pc := 24) dX5_appendValue_24 ?_
    refine q_invV (pc := 25) (As := [.int ((Int32.toUInt32 (48 + (if 0 ≤ x1 then x1 else 0 - x1)) % 65536).toInt32)]) (st := []) dX5_appendValue_25 ok_X5_appendSign ml_RX5_35 iv_X5_appendSign pa_X5_appendSign ⟨Nat.le_of_ble_eq_true rfl, Nat.le_of_ble_eq_true rfl⟩ (lySh0 hc0) (q_kV F (fun h4 F => ?_))
    obtain ⟨G4, F⟩ := F
    exact q_retV (pc := 28) dX5_appendValue_28 rfl F
theorem g_X5_appendSign {c0 : Nat} {x1 : Int32} {h : zHp} {Q : zHp → Prop} (hc0 : zSh c0) (G : zG h) (F : (40 ≤ rI h c0 1 → (Q h)) ∧ (¬ (40 ≤ rI h c0 1) → (vp_in (rI h c0 1) 40 ∧ (Q (wI (wI h (c0 + 1) ((Int32.toNatClampNeg (rI h c0 1))) ((Int32.toInt8 x1).toInt32)) c0 1 ((rI h c0 1) + 1)))))) : zcV M_X5_appendSign [.ref c0, .int x1] h Q := by
  show zw zNT zNT M_X5_appendSign 0 [some (.ref c0), some (.int x1)] [] h _
  refine z_aload_n (pc := 0) dX5_appendSign_0 rfl rfl ?_
  refine q_getI (pc := 1) (v := rI h c0 1) dX5_appendSign_1 lk_RX5_19 (lySh0 hc0) rfl ?_
  refine z_bipush (pc := 4) (v := 40) dX5_appendSign_4 (by decide) ?_
  refine z_icmp_ge (pc := 6) (tgt := 30) dX5_appendSign_6 (by decide) (fun k2 => ?_) (fun k2 => ?_)
  · replace F := F.1 k2
    exact q_retV (pc := 30) dX5_appendSign_30 rfl F
  · replace F := F.2 k2
    refine z_aload_n (pc := 9) dX5_appendSign_9 rfl rfl ?_
    refine q_getR (pc := 10) (i := c0 + 1) dX5_appendSign_10 lk_RX5_15 (lySh0 hc0) (grSh2 G hc0) ?_
    refine z_aload_n (pc := 13) dX5_appendSign_13 rfl rfl ?_
    refine q_getI (pc := 14) (v := rI h c0 1) dX5_appendSign_14 lk_RX5_19 (lySh0 hc0) rfl ?_
    refine z_iload_n (pc := 17) dX5_appendSign_17 rfl rfl ?_
    refine z_i2b (pc := 18) dX5_appendSign_18 ?_
    obtain ⟨k1, F⟩ := F
    refine q_iast (pc := 19) (j := (Int32.toNatClampNeg (rI h c0 1))) dX5_appendSign_19 (lySh1 hc0) (zvn (lnSh1 hc0) k1) rfl ?_
    refine z_aload_n (pc := 20) dX5_appendSign_20 rfl rfl ?_
    refine z_dup (pc := 21) dX5_appendSign_21 rfl ?_
    refine q_getI (pc := 22) (v := rI h c0 1) dX5_appendSign_22 lk_RX5_19 (lySh0 hc0) (rI_c (zne (lySh0 hc0) (lySh1 hc0) (by decide))) ?_
    refine z_iconst (pc := 25) (v := 1) dX5_appendSign_25 (by decide) ?_
    refine z_iadd (pc := 26) dX5_appendSign_26 ?_
    refine q_putI (pc := 27) dX5_appendSign_27 lk_RX5_19 (lySh0 hc0) ?_
    exact q_retV (pc := 30) dX5_appendSign_30 rfl F
theorem g_X6_become {c0 : Nat} {x1 : Int32} {x2 : Int32} {x3 : Int32} {x4 : Int32} {h : zHp} {Q : zHp → Prop} (hc0 : ly c0 = 7) (G : zG h) (F : Q (wI (wI (wI (wI (wI (wI (wI (wI (wI (wI h c0 0 x1) c0 1 x2) c0 2 x3) c0 3 x4) c0 4 0) c0 5 1) c0 6 0) c0 7 0) c0 8 0) c0 9 0)) : zcV M_X6_become [.ref c0, .int x1, .int x2, .int x3, .int x4] h Q := by
  show zw zNT zNT M_X6_become 0 [some (.ref c0), some (.int x1), some (.int x2), some (.int x3), some (.int x4)] [] h _
  refine z_aload_n (pc := 0) dX6_become_0 rfl rfl ?_
  refine z_iload_n (pc := 1) dX6_become_1 rfl rfl ?_
  refine q_putI (pc := 2) dX6_become_2 lk_RX6_9 hc0 ?_
  refine z_aload_n (pc := 5) dX6_become_5 rfl rfl ?_
  refine z_iload_n (pc := 6) dX6_become_6 rfl rfl ?_
  refine q_putI (pc := 7) dX6_become_7 lk_RX6_15 hc0 ?_
  refine z_aload_n (pc := 10) dX6_become_10 rfl rfl ?_
  refine z_iload_n (pc := 11) dX6_become_11 rfl rfl ?_
  refine q_putI (pc := 12) dX6_become_12 lk_RX6_18 hc0 ?_
  refine z_aload_n (pc := 15) dX6_become_15 rfl rfl ?_
  refine z_iload (pc := 16) dX6_become_16 rfl ?_
  refine q_putI (pc := 18) dX6_become_18 lk_RX6_21 hc0 ?_
  refine z_aload_n (pc := 21) dX6_become_21 rfl rfl ?_
  refine z_iconst (pc := 22) (v := 0) dX6_become_22 (by decide) ?_
  refine q_putI (pc := 23) dX6_become_23 lk_RX6_24 hc0 ?_
  refine z_aload_n (pc := 26) dX6_become_26 rfl rfl ?_
  refine z_iconst (pc := 27) (v := 1) dX6_become_27 (by decide) ?_
  refine q_putB (pc := 28) dX6_become_28 lk_RX6_27 hc0 (Or.inr rfl) ?_
  refine z_aload_n (pc := 31) dX6_become_31 rfl rfl ?_
  refine z_iconst (pc := 32) (v := 0) dX6_become_32 (by decide) ?_
  refine q_putI (pc := 33) dX6_become_33 lk_RX6_31 hc0 ?_
  refine z_aload_n (pc := 36) dX6_become_36 rfl rfl ?_
  refine z_iconst (pc := 37) (v := 0) dX6_become_37 (by decide) ?_
  refine q_putI (pc := 38) dX6_become_38 lk_RX6_34 hc0 ?_
  refine z_aload_n (pc := 41) dX6_become_41 rfl rfl ?_
  refine z_iconst (pc := 42) (v := 0) dX6_become_42 (by decide) ?_
  refine q_putI (pc := 43) dX6_become_43 lk_RX6_37 hc0 ?_
  refine z_aload_n (pc := 46) dX6_become_46 rfl rfl ?_
  refine z_iconst (pc := 47) (v := 0) dX6_become_47 (by decide) ?_
  refine q_putI (pc := 48) dX6_become_48 lk_RX6_40 hc0 ?_
  exact q_retV (pc := 51) dX6_become_51 rfl F
theorem g_X6_change {c0 : Nat} {x1 : Int32} {x2 : Int32} {h : zHp} {Q : Int32 → zHp → Prop} (hc0 : ly c0 = 7) (G : zG h) (F : (x1 = 1 → (Q (rI h c0 1) (wI h c0 1 x2))) ∧ (¬ x1 = 1 → ((x1 = 2 → (Q (rI h c0 2) (wI h c0 2 x2))) ∧ (¬ x1 = 2 → ((x1 = 3 → (Q (rI h c0 3) (wI h c0 3 x2))) ∧ (¬ x1 = 3 → (Q (rI h c0 4) (wI h c0 4 x2)))))))) : zcI M_X6_change [.ref c0, .int x1, .int x2] h Q := by
  show zw zNT zNT M_X6_change 0 [some (.ref c0), some (.int x1), some (.int x2), none] [] h _
  refine z_iload_n (pc := 0) dX6_change_0 rfl rfl ?_
  by_cases k1 : x1 = 1
  · replace F := F.1 k1
    refine z_tableIn (pc := 1) (x := x1) (tgt := 28) (off := 27) dX6_change_1 (by rw [k1]; decide) (by rw [k1]; decide) (by rw [k1]; decide) (by decide) ?_
    refine z_aload_n (pc := 28) dX6_change_28 rfl rfl ?_
    refine q_getI (pc := 29) (v := rI h c0 1) dX6_change_29 lk_RX6_15 hc0 rfl ?_
    refine z_istore_n (pc := 32) (ls' := [some (.ref c0), some (.int x1), some (.int x2), some (.int (rI h c0 1))]) dX6_change_32 rfl (by decide) rfl ?_
    refine z_aload_n (pc := 33) dX6_change_33 rfl rfl ?_
    refine z_iload_n (pc := 34) dX6_change_34 rfl rfl ?_
    refine q_putI (pc := 35) dX6_change_35 lk_RX6_15 hc0 ?_
    refine z_iload_n (pc := 38) dX6_change_38 rfl rfl ?_
    exact q_retI (pc := 39) dX6_change_39 rfl F
  · replace F := F.2 k1
    by_cases k2 : x1 = 2
    · replace F := F.1 k2
      refine z_tableIn (pc := 1) (x := x1) (tgt := 40) (off := 39) dX6_change_1 (by rw [k2]; decide) (by rw [k2]; decide) (by rw [k2]; decide) (by decide) ?_
      refine z_aload_n (pc := 40) dX6_change_40 rfl rfl ?_
      refine q_getI (pc := 41) (v := rI h c0 2) dX6_change_41 lk_RX6_18 hc0 rfl ?_
      refine z_istore_n (pc := 44) (ls' := [some (.ref c0), some (.int x1), some (.int x2), some (.int (rI h c0 2))]) dX6_change_44 rfl (by decide) rfl ?_
      refine z_aload_n (pc := 45) dX6_change_45 rfl rfl ?_
      refine z_iload_n (pc := 46) dX6_change_46 rfl rfl ?_
      refine q_putI (pc := 47) dX6_change_47 lk_RX6_18 hc0 ?_
      refine z_iload_n (pc := 50) dX6_change_50 rfl rfl ?_
      exact q_retI (pc := 51) dX6_change_51 rfl F
    · replace F := F.2 k2
      by_cases k3 : x1 = 3
      · replace F := F.1 k3
        refine z_tableIn (pc := 1) (x := x1) (tgt := 52) (off := 51) dX6_change_1 (by rw [k3]; decide) (by rw [k3]; decide) (by rw [k3]; decide) (by decide) ?_
        refine z_aload_n (pc := 52) dX6_change_52 rfl rfl ?_
        refine q_getI (pc := 53) (v := rI h c0 3) dX6_change_53 lk_RX6_21 hc0 rfl ?_
        refine z_istore_n (pc := 56) (ls' := [some (.ref c0), some (.int x1), some (.int x2), some (.int (rI h c0 3))]) dX6_change_56 rfl (by decide) rfl ?_
        refine z_aload_n (pc := 57) dX6_change_57 rfl rfl ?_
        refine z_iload_n (pc := 58) dX6_change_58 rfl rfl ?_
        refine q_putI (pc := 59) dX6_change_59 lk_RX6_21 hc0 ?_
        refine z_iload_n (pc := 62) dX6_change_62 rfl rfl ?_
        exact q_retI (pc := 63) dX6_change_63 rfl F
      · replace F := F.2 k3
        have hz0 := q_sw (1) k1 (by decide)
        have hz1 := q_sw (2) k2 (by decide)
        have hz2 := q_sw (3) k3 (by decide)
        refine z_tableOut (pc := 1) (tgt := 64) dX6_change_1 (by omega) (by decide) ?_
        refine z_aload_n (pc := 64) dX6_change_64 rfl rfl ?_
        refine q_getI (pc := 65) (v := rI h c0 4) dX6_change_65 lk_RX6_24 hc0 rfl ?_
        refine z_istore_n (pc := 68) (ls' := [some (.ref c0), some (.int x1), some (.int x2), some (.int (rI h c0 4))]) dX6_change_68 rfl (by decide) rfl ?_
        refine z_aload_n (pc := 69) dX6_change_69 rfl rfl ?_
        refine z_iload_n (pc := 70) dX6_change_70 rfl rfl ?_
        refine q_putI (pc := 71) dX6_change_71 lk_RX6_24 hc0 ?_
        refine z_iload_n (pc := 74) dX6_change_74 rfl rfl ?_
        exact q_retI (pc := 75) dX6_change_75 rfl F
theorem g_X6_heal {c0 : Nat} {x1 : Int32} {h : zHp} {Q : zHp → Prop} (hc0 : ly c0 = 7) (G : zG h) (F : Q (wI h c0 4 (if (0 : Int32) < (rI h c0 4) - x1 then (rI h c0 4) - x1 else 0))) : zcV M_X6_heal [.ref c0, .int x1] h Q := by
  show zw zNT zNT M_X6_heal 0 [some (.ref c0), some (.int x1)] [] h _
  refine z_aload_n (pc := 0) dX6_heal_0 rfl rfl ?_
  refine z_iconst (pc := 1) (v := 0) dX6_heal_1 (by decide) ?_
  refine z_aload_n (pc := 2) dX6_heal_2 rfl rfl ?_
  refine q_getI (pc := 3) (v := rI h c0 4) dX6_heal_3 lk_RX6_24 hc0 rfl ?_
  refine z_iload_n (pc := 6) dX6_heal_6 rfl rfl ?_
  refine z_isub (pc := 7) dX6_heal_7 ?_
  refine z_max (pc := 8) dX6_heal_8 ⟨pl_RX6_43, pw_maxS, pw_Math, pw_maxC⟩ (zcat_of rfl) ⟨Nat.le_of_ble_eq_true rfl, Nat.le_of_ble_eq_true rfl⟩ ?_
  refine q_putI (pc := 11) dX6_heal_11 lk_RX6_24 hc0 ?_
  exact q_retV (pc := 14) dX6_heal_14 rfl F
theorem g_X6_raise {c0 : Nat} {x1 : Int32} {h : zHp} {Q : zHp → Prop} (hc0 : ly c0 = 7) (G : zG h) (F : Q (wI (wI h c0 2 (if (rI h c0 2) + x1 < (99 : Int32) then (rI h c0 2) + x1 else 99)) c0 3 (if (rI h c0 3) + x1 < (99 : Int32) then (rI h c0 3) + x1 else 99))) : zcV M_X6_raise [.ref c0, .int x1] h Q := by
  show zw zNT zNT M_X6_raise 0 [some (.ref c0), some (.int x1)] [] h _
  refine z_aload_n (pc := 0) dX6_raise_0 rfl rfl ?_
  refine z_bipush (pc := 1) (v := 99) dX6_raise_1 (by decide) ?_
  refine z_aload_n (pc := 3) dX6_raise_3 rfl rfl ?_
  refine q_getI (pc := 4) (v := rI h c0 2) dX6_raise_4 lk_RX6_18 hc0 rfl ?_
  refine z_iload_n (pc := 7) dX6_raise_7 rfl rfl ?_
  refine z_iadd (pc := 8) dX6_raise_8 ?_
  refine z_min (pc := 9) dX6_raise_9 ⟨pl_RX6_49, pw_minS, pw_Math, pw_minC⟩ (zcat_of rfl) ⟨Nat.le_of_ble_eq_true rfl, Nat.le_of_ble_eq_true rfl⟩ ?_
  refine q_putI (pc := 12) dX6_raise_12 lk_RX6_18 hc0 ?_
  refine z_aload_n (pc := 15) dX6_raise_15 rfl rfl ?_
  refine z_bipush (pc := 16) (v := 99) dX6_raise_16 (by decide) ?_
  refine z_aload_n (pc := 18) dX6_raise_18 rfl rfl ?_
  refine q_getI (pc := 19) (v := rI h c0 3) dX6_raise_19 lk_RX6_21 hc0 (rI_k (by decide)) ?_
  refine z_iload_n (pc := 22) dX6_raise_22 rfl rfl ?_
  refine z_iadd (pc := 23) dX6_raise_23 ?_
  refine z_min (pc := 24) dX6_raise_24 ⟨pl_RX6_49, pw_minS, pw_Math, pw_minC⟩ (zcat_of rfl) ⟨Nat.le_of_ble_eq_true rfl, Nat.le_of_ble_eq_true rfl⟩ ?_
  refine q_putI (pc := 27) dX6_raise_27 lk_RX6_21 hc0 ?_
  exact q_retV (pc := 30) dX6_raise_30 rfl F
theorem g_X6_copyFrom {c0 : Nat} {c1 : Nat} {h : zHp} {Q : zHp → Prop} (hc0 : ly c0 = 7) (hc1 : ly c1 = 7) (G : zG h) (F : zB (rI h c1 5) ∧ (Q (wI (wI (wI (wI (wI (wI (wI (wI (wI (wI h c0 0 (rI h c1 0)) c0 1 (rI h c1 1)) c0 2 (rI h c1 2)) c0 3 (rI h c1 3)) c0 4 (rI h c1 4)) c0 5 (rI h c1 5)) c0 6 (rI h c1 6)) c0 7 (rI h c1 7)) c0 8 (rI h c1 8)) c0 9 (rI h c1 9)))) : zcV M_X6_copyFrom [.ref c0, .ref c1] h Q := by
  show zw zNT zNT M_X6_copyFrom 0 [some (.ref c0), some (.ref c1)] [] h _
  refine z_aload_n (pc := 0) dX6_copyFrom_0 rfl rfl ?_
  refine z_aload_n (pc := 1) dX6_copyFrom_1 rfl rfl ?_
  refine q_getI (pc := 2) (v := rI h c1 0) dX6_copyFrom_2 lk_RX6_9 hc1 rfl ?_
  refine q_putI (pc := 5) dX6_copyFrom_5 lk_RX6_9 hc0 ?_
  refine z_aload_n (pc := 8) dX6_copyFrom_8 rfl rfl ?_
  refine z_aload_n (pc := 9) dX6_copyFrom_9 rfl rfl ?_
  refine q_getI (pc := 10) (v := rI h c1 1) dX6_copyFrom_10 lk_RX6_15 hc1 (rI_k (by decide)) ?_
  refine q_putI (pc := 13) dX6_copyFrom_13 lk_RX6_15 hc0 ?_
  refine z_aload_n (pc := 16) dX6_copyFrom_16 rfl rfl ?_
  refine z_aload_n (pc := 17) dX6_copyFrom_17 rfl rfl ?_
  refine q_getI (pc := 18) (v := rI h c1 2) dX6_copyFrom_18 lk_RX6_18 hc1 ((rI_k (by decide)).trans (rI_k (by decide))) ?_
  refine q_putI (pc := 21) dX6_copyFrom_21 lk_RX6_18 hc0 ?_
  refine z_aload_n (pc := 24) dX6_copyFrom_24 rfl rfl ?_
  refine z_aload_n (pc := 25) dX6_copyFrom_25 rfl rfl ?_
  refine q_getI (pc := 26) (v := rI h c1 3) dX6_copyFrom_26 lk_RX6_21 hc1 (((rI_k (by decide)).trans (rI_k (by decide))).trans (rI_k (by decide))) ?_
  refine q_putI (pc := 29) dX6_copyFrom_29 lk_RX6_21 hc0 ?_
  refine z_aload_n (pc := 32) dX6_copyFrom_32 rfl rfl ?_
  refine z_aload_n (pc := 33) dX6_copyFrom_33 rfl rfl ?_
  refine q_getI (pc := 34) (v := rI h c1 4) dX6_copyFrom_34 lk_RX6_24 hc1 ((((rI_k (by decide)).trans (rI_k (by decide))).trans (rI_k (by decide))).trans (rI_k (by decide))) ?_
  refine q_putI (pc := 37) dX6_copyFrom_37 lk_RX6_24 hc0 ?_
  refine z_aload_n (pc := 40) dX6_copyFrom_40 rfl rfl ?_
  refine z_aload_n (pc := 41) dX6_copyFrom_41 rfl rfl ?_
  refine q_getI (pc := 42) (v := rI h c1 5) dX6_copyFrom_42 lk_RX6_27 hc1 (((((rI_k (by decide)).trans (rI_k (by decide))).trans (rI_k (by decide))).trans (rI_k (by decide))).trans (rI_k (by decide))) ?_
  obtain ⟨k1, F⟩ := F
  refine q_putB (pc := 45) dX6_copyFrom_45 lk_RX6_27 hc0 k1 ?_
  refine z_aload_n (pc := 48) dX6_copyFrom_48 rfl rfl ?_
  refine z_aload_n (pc := 49) dX6_copyFrom_49 rfl rfl ?_
  refine q_getI (pc := 50) (v := rI h c1 6) dX6_copyFrom_50 lk_RX6_31 hc1 ((((((rI_k (by decide)).trans (rI_k (by decide))).trans (rI_k (by decide))).trans (rI_k (by decide))).trans (rI_k (by decide))).trans (rI_k (by decide))) ?_
  refine q_putI (pc := 53) dX6_copyFrom_53 lk_RX6_31 hc0 ?_
  refine z_aload_n (pc := 56) dX6_copyFrom_56 rfl rfl ?_
  refine z_aload_n (pc := 57) dX6_copyFrom_57 rfl rfl ?_
  refine q_getI (pc := 58) (v := rI h c1 7) dX6_copyFrom_58 lk_RX6_34 hc1 (((((((rI_k (by decide)).trans (rI_k (by decide))).trans (rI_k (by decide))).trans (rI_k (by decide))).trans (rI_k (by decide))).trans (rI_k (by decide))).trans (rI_k (by decide))) ?_
  refine q_putI (pc := 61) dX6_copyFrom_61 lk_RX6_34 hc0 ?_
  refine z_aload_n (pc := 64) dX6_copyFrom_64 rfl rfl ?_
  refine z_aload_n (pc := 65) dX6_copyFrom_65 rfl rfl ?_
  refine q_getI (pc := 66) (v := rI h c1 8) dX6_copyFrom_66 lk_RX6_37 hc1 ((((((((rI_k (by decide)).trans (rI_k (by decide))).trans (rI_k (by decide))).trans (rI_k (by decide))).trans (rI_k (by decide))).trans (rI_k (by decide))).trans (rI_k (by decide))).trans (rI_k (by decide))) ?_
  refine q_putI (pc := 69) dX6_copyFrom_69 lk_RX6_37 hc0 ?_
  refine z_aload_n (pc := 72) dX6_copyFrom_72 rfl rfl ?_
  refine z_aload_n (pc := 73) dX6_copyFrom_73 rfl rfl ?_
  refine q_getI (pc := 74) (v := rI h c1 9) dX6_copyFrom_74 lk_RX6_40 hc1 (((((((((rI_k (by decide)).trans (rI_k (by decide))).trans (rI_k (by decide))).trans (rI_k (by decide))).trans (rI_k (by decide))).trans (rI_k (by decide))).trans (rI_k (by decide))).trans (rI_k (by decide))).trans (rI_k (by decide))) ?_
  refine q_putI (pc := 77) dX6_copyFrom_77 lk_RX6_40 hc0 ?_
  exact q_retV (pc := 80) dX6_copyFrom_80 rfl F
theorem g_X7_become {c0 : Nat} {x1 : Int32} {x2 : Int32} {x3 : Int32} {x4 : Int32} {x5 : Int32} {h : zHp} {Q : zHp → Prop} (hc0 : ly c0 = 8) (G : zG h) (F : Q (wI (wI (wI (wI (wI (wI (wI h c0 0 x1) c0 1 x2) c0 2 x3) c0 3 x4) c0 4 x5) c0 5 0) c0 6 0)) : zcV M_X7_become [.ref c0, .int x1, .int x2, .int x3, .int x4, .int x5] h Q := by
  show zw zNT zNT M_X7_become 0 [some (.ref c0), some (.int x1), some (.int x2), some (.int x3), some (.int x4), some (.int x5)] [] h _
  refine z_aload_n (pc := 0) dX7_become_0 rfl rfl ?_
  refine z_iload_n (pc := 1) dX7_become_1 rfl rfl ?_
  refine q_putI (pc := 2) dX7_become_2 lk_RX7_9 hc0 ?_
  refine z_aload_n (pc := 5) dX7_become_5 rfl rfl ?_
  refine z_iload_n (pc := 6) dX7_become_6 rfl rfl ?_
  refine q_putI (pc := 7) dX7_become_7 lk_RX7_15 hc0 ?_
  refine z_aload_n (pc := 10) dX7_become_10 rfl rfl ?_
  refine z_iload_n (pc := 11) dX7_become_11 rfl rfl ?_
  refine q_putI (pc := 12) dX7_become_12 lk_RX7_18 hc0 ?_
  refine z_aload_n (pc := 15) dX7_become_15 rfl rfl ?_
  refine z_iload (pc := 16) dX7_become_16 rfl ?_
  refine q_putI (pc := 18) dX7_become_18 lk_RX7_21 hc0 ?_
  refine z_aload_n (pc := 21) dX7_become_21 rfl rfl ?_
  refine z_iload (pc := 22) dX7_become_22 rfl ?_
  refine q_putI (pc := 24) dX7_become_24 lk_RX7_24 hc0 ?_
  refine z_aload_n (pc := 27) dX7_become_27 rfl rfl ?_
  refine z_iconst (pc := 28) (v := 0) dX7_become_28 (by decide) ?_
  refine q_putI (pc := 29) dX7_become_29 lk_RX7_27 hc0 ?_
  refine z_aload_n (pc := 32) dX7_become_32 rfl rfl ?_
  refine z_iconst (pc := 33) (v := 0) dX7_become_33 (by decide) ?_
  refine q_putI (pc := 34) dX7_become_34 lk_RX7_30 hc0 ?_
  exact q_retV (pc := 37) dX7_become_37 rfl F
theorem g_X7_copyFrom {c0 : Nat} {c1 : Nat} {h : zHp} {Q : zHp → Prop} (hc0 : ly c0 = 8) (hc1 : ly c1 = 8) (G : zG h) (F : zcV M_X7_become [.ref c0, .int (rI h c1 0), .int (rI h c1 1), .int (rI h c1 2), .int (rI h c1 3), .int (rI h c1 4)] h (fun h1 => zG h1 ∧ (Q (wI (wI h1 c0 5 (rI h1 c1 5)) c0 6 (rI h1 c1 6))))) : zcV M_X7_copyFrom [.ref c0, .ref c1] h Q := by
  show zw zNT zNT M_X7_copyFrom 0 [some (.ref c0), some (.ref c1)] [] h _
  refine z_aload_n (pc := 0) dX7_copyFrom_0 rfl rfl ?_
  refine z_aload_n (pc := 1) dX7_copyFrom_1 rfl rfl ?_
  refine q_getI (pc := 2) (v := rI h c1 0) dX7_copyFrom_2 lk_RX7_9 hc1 rfl ?_
  refine z_aload_n (pc := 5) dX7_copyFrom_5 rfl rfl ?_
  refine q_getI (pc := 6) (v := rI h c1 1) dX7_copyFrom_6 lk_RX7_15 hc1 rfl ?_
  refine z_aload_n (pc := 9) dX7_copyFrom_9 rfl rfl ?_
  refine q_getI (pc := 10) (v := rI h c1 2) dX7_copyFrom_10 lk_RX7_18 hc1 rfl ?_
  refine z_aload_n (pc := 13) dX7_copyFrom_13 rfl rfl ?_
  refine q_getI (pc := 14) (v := rI h c1 3) dX7_copyFrom_14 lk_RX7_21 hc1 rfl ?_
  refine z_aload_n (pc := 17) dX7_copyFrom_17 rfl rfl ?_
  refine q_getI (pc := 18) (v := rI h c1 4) dX7_copyFrom_18 lk_RX7_24 hc1 rfl ?_
  refine q_invV (pc := 21) (As := [.int (rI h c1 0), .int (rI h c1 1), .int (rI h c1 2), .int (rI h c1 3), .int (rI h c1 4)]) (st := []) dX7_copyFrom_21 ok_X7_become ml_RX7_33 iv_X7_become pa_X7_become ⟨Nat.le_of_ble_eq_true rfl, Nat.le_of_ble_eq_true rfl⟩ hc0 (q_kV F (fun h1 F => ?_))
  obtain ⟨G1, F⟩ := F
  refine z_aload_n (pc := 24) dX7_copyFrom_24 rfl rfl ?_
  refine z_aload_n (pc := 25) dX7_copyFrom_25 rfl rfl ?_
  refine q_getI (pc := 26) (v := rI h1 c1 5) dX7_copyFrom_26 lk_RX7_27 hc1 rfl ?_
  refine q_putI (pc := 29) dX7_copyFrom_29 lk_RX7_27 hc0 ?_
  refine z_aload_n (pc := 32) dX7_copyFrom_32 rfl rfl ?_
  refine z_aload_n (pc := 33) dX7_copyFrom_33 rfl rfl ?_
  refine q_getI (pc := 34) (v := rI h1 c1 6) dX7_copyFrom_34 lk_RX7_30 hc1 (rI_k (by decide)) ?_
  refine q_putI (pc := 37) dX7_copyFrom_37 lk_RX7_30 hc0 ?_
  exact q_retV (pc := 40) dX7_copyFrom_40 rfl F
theorem g_X8_empty {c0 : Nat} {h : zHp} {Q : zHp → Prop} (hc0 : zW c0) (G : zG h) (F : Q (wI (wI (wI (wI (wI (wI (wI h c0 1 0) c0 3 0) c0 5 0) c0 7 0) (c0 + 5) 0 0) (c0 + 5) 1 0) c0 9 0)) : zcV M_X8_empty [.ref c0] h Q := by
  show zw zNT zNT M_X8_empty 0 [some (.ref c0)] [] h _
  refine z_aload_n (pc := 0) dX8_empty_0 rfl rfl ?_
  refine z_iconst (pc := 1) (v := 0) dX8_empty_1 (by decide) ?_
  refine q_putI (pc := 2) dX8_empty_2 lk_RX8_47 (lyW0 hc0) ?_
  refine z_aload_n (pc := 5) dX8_empty_5 rfl rfl ?_
  refine z_iconst (pc := 6) (v := 0) dX8_empty_6 (by decide) ?_
  refine q_putI (pc := 7) dX8_empty_7 lk_RX8_50 (lyW0 hc0) ?_
  refine z_aload_n (pc := 10) dX8_empty_10 rfl rfl ?_
  refine z_iconst (pc := 11) (v := 0) dX8_empty_11 (by decide) ?_
  refine q_putI (pc := 12) dX8_empty_12 lk_RX8_53 (lyW0 hc0) ?_
  refine z_aload_n (pc := 15) dX8_empty_15 rfl rfl ?_
  refine z_iconst (pc := 16) (v := 0) dX8_empty_16 (by decide) ?_
  refine q_putI (pc := 17) dX8_empty_17 lk_RX8_56 (lyW0 hc0) ?_
  refine z_aload_n (pc := 20) dX8_empty_20 rfl rfl ?_
  refine q_getR (pc := 21) (i := c0 + 5) dX8_empty_21 lk_RX8_35 (lyW0 hc0) (grW8 G hc0) ?_
  refine z_iconst (pc := 24) (v := 0) dX8_empty_24 (by decide) ?_
  refine z_iconst (pc := 25) (v := 0) dX8_empty_25 (by decide) ?_
  refine q_iast (pc := 26) (j := 0) dX8_empty_26 (lyW5 hc0) (zvl (lnW5 hc0) (by decide)) (by decide) ?_
  refine z_aload_n (pc := 27) dX8_empty_27 rfl rfl ?_
  refine q_getR (pc := 28) (i := c0 + 5) dX8_empty_28 lk_RX8_35 (lyW0 hc0) (grW8 G hc0) ?_
  refine z_iconst (pc := 31) (v := 1) dX8_empty_31 (by decide) ?_
  refine z_iconst (pc := 32) (v := 0) dX8_empty_32 (by decide) ?_
  refine q_iast (pc := 33) (j := 1) dX8_empty_33 (lyW5 hc0) (zvl (lnW5 hc0) (by decide)) (by decide) ?_
  refine z_aload_n (pc := 34) dX8_empty_34 rfl rfl ?_
  refine z_iconst (pc := 35) (v := 0) dX8_empty_35 (by decide) ?_
  refine q_putI (pc := 36) dX8_empty_36 lk_RX8_59 (lyW0 hc0) ?_
  exact q_retV (pc := 39) dX8_empty_39 rfl F
theorem g_X8_hasThing {c0 : Nat} {x1 : Int32} {h : zHp} {Q : Int32 → zHp → Prop} (hc0 : zW c0) (G : zG h) (F : zcI M_X10_within [.int x1, .int 0, .int ((rI h c0 1) - 1)] h (fun vh1 h1 => zG h1 ∧ (zB vh1 ∧ Q vh1 h1))) : zcI M_X8_hasThing [.ref c0, .int x1] h Q := by
  show zw zNT zNT M_X8_hasThing 0 [some (.ref c0), some (.int x1)] [] h _
  refine z_iload_n (pc := 0) dX8_hasThing_0 rfl rfl ?_
  refine z_iconst (pc := 1) (v := 0) dX8_hasThing_1 (by decide) ?_
  refine z_aload_n (pc := 2) dX8_hasThing_2 rfl rfl ?_
  refine q_getI (pc := 3) (v := rI h c0 1) dX8_hasThing_3 lk_RX8_47 (lyW0 hc0) rfl ?_
  refine z_iconst (pc := 6) (v := 1) dX8_hasThing_6 (by decide) ?_
  refine z_isub (pc := 7) dX8_hasThing_7 ?_
  refine q_invS (pc := 8) (As := [.int x1, .int 0, .int ((rI h c0 1) - 1)]) (st := []) dX8_hasThing_8 ok_X10_within ml_RX8_75 st_X10_within pa_X10_within ⟨Nat.le_of_ble_eq_true rfl, Nat.le_of_ble_eq_true rfl⟩ (q_kI F (fun vh1 h1 F => ?_))
  obtain ⟨G1, F⟩ := F
  exact q_retB (pc := 11) dX8_hasThing_11 rfl F.1 F.2
theorem g_X8_hasEffect {c0 : Nat} {x1 : Int32} {h : zHp} {Q : Int32 → zHp → Prop} (hc0 : zW c0) (G : zG h) (F : zcI M_X10_within [.int x1, .int 0, .int ((rI h c0 3) - 1)] h (fun vh1 h1 => zG h1 ∧ (zB vh1 ∧ Q vh1 h1))) : zcI M_X8_hasEffect [.ref c0, .int x1] h Q := by
  show zw zNT zNT M_X8_hasEffect 0 [some (.ref c0), some (.int x1)] [] h _
  refine z_iload_n (pc := 0) dX8_hasEffect_0 rfl rfl ?_
  refine z_iconst (pc := 1) (v := 0) dX8_hasEffect_1 (by decide) ?_
  refine z_aload_n (pc := 2) dX8_hasEffect_2 rfl rfl ?_
  refine q_getI (pc := 3) (v := rI h c0 3) dX8_hasEffect_3 lk_RX8_50 (lyW0 hc0) rfl ?_
  refine z_iconst (pc := 6) (v := 1) dX8_hasEffect_6 (by decide) ?_
  refine z_isub (pc := 7) dX8_hasEffect_7 ?_
  refine q_invS (pc := 8) (As := [.int x1, .int 0, .int ((rI h c0 3) - 1)]) (st := []) dX8_hasEffect_8 ok_X10_within ml_RX8_75 st_X10_within pa_X10_within ⟨Nat.le_of_ble_eq_true rfl, Nat.le_of_ble_eq_true rfl⟩ (q_kI F (fun vh1 h1 F => ?_))
  obtain ⟨G1, F⟩ := F
  exact q_retB (pc := 11) dX8_hasEffect_11 rfl F.1 F.2
theorem g_X8_hasRule {c0 : Nat} {x1 : Int32} {h : zHp} {Q : Int32 → zHp → Prop} (hc0 : zW c0) (G : zG h) (F : zcI M_X10_within [.int x1, .int 0, .int ((rI h c0 5) - 1)] h (fun vh1 h1 => zG h1 ∧ (zB vh1 ∧ Q vh1 h1))) : zcI M_X8_hasRule [.ref c0, .int x1] h Q := by
  show zw zNT zNT M_X8_hasRule 0 [some (.ref c0), some (.int x1)] [] h _
  refine z_iload_n (pc := 0) dX8_hasRule_0 rfl rfl ?_
  refine z_iconst (pc := 1) (v := 0) dX8_hasRule_1 (by decide) ?_
  refine z_aload_n (pc := 2) dX8_hasRule_2 rfl rfl ?_
  refine q_getI (pc := 3) (v := rI h c0 5) dX8_hasRule_3 lk_RX8_53 (lyW0 hc0) rfl ?_
  refine z_iconst (pc := 6) (v := 1) dX8_hasRule_6 (by decide) ?_
  refine z_isub (pc := 7) dX8_hasRule_7 ?_
  refine q_invS (pc := 8) (As := [.int x1, .int 0, .int ((rI h c0 5) - 1)]) (st := []) dX8_hasRule_8 ok_X10_within ml_RX8_75 st_X10_within pa_X10_within ⟨Nat.le_of_ble_eq_true rfl, Nat.le_of_ble_eq_true rfl⟩ (q_kI F (fun vh1 h1 F => ?_))
  obtain ⟨G1, F⟩ := F
  exact q_retB (pc := 11) dX8_hasRule_11 rfl F.1 F.2
theorem g_X8_hasWatcher {c0 : Nat} {x1 : Int32} {h : zHp} {Q : Int32 → zHp → Prop} (hc0 : zW c0) (G : zG h) (F : zcI M_X10_within [.int x1, .int 0, .int ((rI h c0 7) - 1)] h (fun vh1 h1 => zG h1 ∧ (zB vh1 ∧ Q vh1 h1))) : zcI M_X8_hasWatcher [.ref c0, .int x1] h Q := by
  show zw zNT zNT M_X8_hasWatcher 0 [some (.ref c0), some (.int x1)] [] h _
  refine z_iload_n (pc := 0) dX8_hasWatcher_0 rfl rfl ?_
  refine z_iconst (pc := 1) (v := 0) dX8_hasWatcher_1 (by decide) ?_
  refine z_aload_n (pc := 2) dX8_hasWatcher_2 rfl rfl ?_
  refine q_getI (pc := 3) (v := rI h c0 7) dX8_hasWatcher_3 lk_RX8_56 (lyW0 hc0) rfl ?_
  refine z_iconst (pc := 6) (v := 1) dX8_hasWatcher_6 (by decide) ?_
  refine z_isub (pc := 7) dX8_hasWatcher_7 ?_
  refine q_invS (pc := 8) (As := [.int x1, .int 0, .int ((rI h c0 7) - 1)]) (st := []) dX8_hasWatcher_8 ok_X10_within ml_RX8_75 st_X10_within pa_X10_within ⟨Nat.le_of_ble_eq_true rfl, Nat.le_of_ble_eq_true rfl⟩ (q_kI F (fun vh1 h1 F => ?_))
  obtain ⟨G1, F⟩ := F
  exact q_retB (pc := 11) dX8_hasWatcher_11 rfl F.1 F.2
theorem g_X8_works {c0 : Nat} {c1 : Nat} {h : zHp} {Q : Int32 → zHp → Prop} (hc0 : zW c0) (hc1 : ly c1 = 2) (G : zG h) (F : (rI h c1 0 = -1 → (Q 1 h)) ∧ (¬ (rI h c1 0 = -1) → (zcI M_X8_isAlive [.ref c0, .int (rI h c1 0)] h (fun vh1 h1 => zG h1 ∧ ((vh1 = 0 → (Q 0 h1)) ∧ (¬ (vh1 = 0) → (Q 1 h1))))))) : zcI M_X8_works [.ref c0, .ref c1] h Q := by
  show zw zNT zNT M_X8_works 0 [some (.ref c0), some (.ref c1)] [] h _
  refine z_aload_n (pc := 0) dX8_works_0 rfl rfl ?_
  refine q_getI (pc := 1) (v := rI h c1 0) dX8_works_1 lk_RX8_83 hc1 rfl ?_
  refine z_iconst (pc := 4) (v := -1) dX8_works_4 (by decide) ?_
  refine z_icmp_eq (pc := 5) (tgt := 19) dX8_works_5 (by decide) (fun k3 => ?_) (fun k3 => ?_)
  · replace F := F.1 k3
    refine z_iconst (pc := 19) (v := 1) dX8_works_19 (by decide) ?_
    refine z_goto (pc := 20) (tgt := 24) dX8_works_20 (by decide) ?_
    exact q_retB (pc := 24) dX8_works_24 rfl (Or.inr rfl) F
  · replace F := F.2 k3
    refine z_aload_n (pc := 8) dX8_works_8 rfl rfl ?_
    refine z_aload_n (pc := 9) dX8_works_9 rfl rfl ?_
    refine q_getI (pc := 10) (v := rI h c1 0) dX8_works_10 lk_RX8_83 hc1 rfl ?_
    refine q_invV (pc := 13) (As := [.int (rI h c1 0)]) (st := []) dX8_works_13 ok_X8_isAlive ml_RX8_86 iv_X8_isAlive pa_X8_isAlive ⟨Nat.le_of_ble_eq_true rfl, Nat.le_of_ble_eq_true rfl⟩ (lyW0 hc0) (q_kI F (fun vh1 h1 F => ?_))
    obtain ⟨G1, F⟩ := F
    refine z_if_eq (pc := 16) (tgt := 23) dX8_works_16 (by decide) (fun k2 => ?_) (fun k2 => ?_)
    · replace F := F.1 k2
      refine z_iconst (pc := 23) (v := 0) dX8_works_23 (by decide) ?_
      exact q_retB (pc := 24) dX8_works_24 rfl (Or.inl rfl) F
    · replace F := F.2 k2
      refine z_iconst (pc := 19) (v := 1) dX8_works_19 (by decide) ?_
      refine z_goto (pc := 20) (tgt := 24) dX8_works_20 (by decide) ?_
      exact q_retB (pc := 24) dX8_works_24 rfl (Or.inr rfl) F
theorem g_X8_draw {c0 : Nat} {h : zHp} {Q : Int32 → zHp → Prop} (hc0 : zW c0) (G : zG h) (F : Q ((Int32.toUInt32 (((rI h c0 10) * 1103515245) + 12345) >>> (Int32.toUInt32 16 &&& Int32.toUInt32 31)).toInt32) (wI h c0 10 (((rI h c0 10) * 1103515245) + 12345))) : zcI M_X8_draw [.ref c0] h Q := by
  show zw zNT zNT M_X8_draw 0 [some (.ref c0)] [] h _
  refine z_aload_n (pc := 0) dX8_draw_0 rfl rfl ?_
  refine z_aload_n (pc := 1) dX8_draw_1 rfl rfl ?_
  refine q_getI (pc := 2) (v := rI h c0 10) dX8_draw_2 lk_RX8_39 (lyW0 hc0) rfl ?_
  refine z_ldc (pc := 5) (v := 1103515245) dX8_draw_5 cl_RX8_118 ?_
  refine z_imul (pc := 7) dX8_draw_7 ?_
  refine z_sipush (pc := 8) (v := 12345) dX8_draw_8 (by decide) ?_
  refine z_iadd (pc := 11) dX8_draw_11 ?_
  refine q_putI (pc := 12) dX8_draw_12 lk_RX8_39 (lyW0 hc0) ?_
  refine z_aload_n (pc := 15) dX8_draw_15 rfl rfl ?_
  refine q_getI (pc := 16) (v := ((rI h c0 10) * 1103515245) + 12345) dX8_draw_16 lk_RX8_39 (lyW0 hc0) rI_s ?_
  refine z_bipush (pc := 19) (v := 16) dX8_draw_19 (by decide) ?_
  refine z_iushr (pc := 21) dX8_draw_21 ?_
  exact q_retI (pc := 22) dX8_draw_22 rfl F
theorem g_X9_meet {c0 : Nat} {c1 : Nat} {x2 : Int32} {h : zHp} {Q : zHp → Prop} (hc0 : zUo c0) (hc1 : ly c1 = 5) (G : zG h) (F : vp_in x2 8 ∧ ((rI h c1 0 = 0 → (Q (wI (wI (wI h (c0 + 1) ((Int32.toNatClampNeg x2)) 0) (c0 + 1) ((Int32.toNatClampNeg x2)) (if rI h c0 1 < rI h c1 3 then rI h c0 1 else rI h c1 3)) c0 1 ((rI h c0 1) - (if rI h c0 1 < rI h c1 3 then rI h c0 1 else rI h c1 3))))) ∧ (¬ rI h c1 0 = 0 → ((rI h c1 0 = 1 → (Q (wI (wI h (c0 + 1) ((Int32.toNatClampNeg x2)) 0) c0 1 ((rI h c0 1) - ((rI h c0 1) / 2))))) ∧ (¬ rI h c1 0 = 1 → ((rI h c1 0 = 2 → (Q (wI (wI h (c0 + 1) ((Int32.toNatClampNeg x2)) 0) c0 1 (if (rI h c0 1) * 2 < (999 : Int32) then (rI h c0 1) * 2 else 999)))) ∧ (¬ rI h c1 0 = 2 → ((rI h c1 0 = 3 → (Q (wI (wI h (c0 + 1) ((Int32.toNatClampNeg x2)) 0) c0 0 (rI h c1 3)))) ∧ (¬ rI h c1 0 = 3 → (Q (wI (wI h (c0 + 1) ((Int32.toNatClampNeg x2)) 0) c0 2 1))))))))))) : zcV M_X9_meet [.ref c0, .ref c1, .int x2] h Q := by
  show zw zNT zNT M_X9_meet 0 [some (.ref c0), some (.ref c1), some (.int x2)] [] h _
  refine z_aload_n (pc := 0) dX9_meet_0 rfl rfl ?_
  refine q_getR (pc := 1) (i := c0 + 1) dX9_meet_1 lk_RX9_9 (lyUo0 hc0) (grUo4 G hc0) ?_
  refine z_iload_n (pc := 4) dX9_meet_4 rfl rfl ?_
  refine z_iconst (pc := 5) (v := 0) dX9_meet_5 (by decide) ?_
  obtain ⟨k1, F⟩ := F
  refine q_iast (pc := 6) (j := (Int32.toNatClampNeg x2)) dX9_meet_6 (lyUo1 hc0) (zvn (lnUo1 hc0) k1) rfl ?_
  refine z_aload_n (pc := 7) dX9_meet_7 rfl rfl ?_
  refine q_getI (pc := 8) (v := rI h c1 0) dX9_meet_8 lk_RX9_62 hc1 (rI_c (zne hc1 (lyUo1 hc0) (by decide))) ?_
  by_cases k2 : rI h c1 0 = 0
  · replace F := F.1 k2
    refine z_tableIn (pc := 11) (x := rI h c1 0) (tgt := 40) (off := 29) dX9_meet_11 (by rw [k2]; decide) (by rw [k2]; decide) (by rw [k2]; decide) (by decide) ?_
    refine z_aload_n (pc := 40) dX9_meet_40 rfl rfl ?_
    refine q_getR (pc := 41) (i := c0 + 1) dX9_meet_41 lk_RX9_9 (lyUo0 hc0) (grUo4 G hc0) ?_
    refine z_iload_n (pc := 44) dX9_meet_44 rfl rfl ?_
    refine z_aload_n (pc := 45) dX9_meet_45 rfl rfl ?_
    refine q_getI (pc := 46) (v := rI h c1 3) dX9_meet_46 lk_RX9_67 hc1 (rI_c (zne hc1 (lyUo1 hc0) (by decide))) ?_
    refine z_aload_n (pc := 49) dX9_meet_49 rfl rfl ?_
    refine q_getI (pc := 50) (v := rI h c0 1) dX9_meet_50 lk_RX9_19 (lyUo0 hc0) (rI_c (zne (lyUo0 hc0) (lyUo1 hc0) (by decide))) ?_
    refine z_min (pc := 53) dX9_meet_53 ⟨pl_RX9_82, pw_minS, pw_Math, pw_minC⟩ (zcat_of rfl) ⟨Nat.le_of_ble_eq_true rfl, Nat.le_of_ble_eq_true rfl⟩ ?_
    refine q_iast (pc := 56) (j := (Int32.toNatClampNeg x2)) dX9_meet_56 (lyUo1 hc0) (zvn (lnUo1 hc0) k1) rfl ?_
    refine z_aload_n (pc := 57) dX9_meet_57 rfl rfl ?_
    refine z_dup (pc := 58) dX9_meet_58 rfl ?_
    refine q_getI (pc := 59) (v := rI h c0 1) dX9_meet_59 lk_RX9_19 (lyUo0 hc0) ((rI_c (zne (lyUo0 hc0) (lyUo1 hc0) (by decide))).trans (rI_c (zne (lyUo0 hc0) (lyUo1 hc0) (by decide)))) ?_
    refine z_aload_n (pc := 62) dX9_meet_62 rfl rfl ?_
    refine q_getR (pc := 63) (i := c0 + 1) dX9_meet_63 lk_RX9_9 (lyUo0 hc0) (grUo4 G hc0) ?_
    refine z_iload_n (pc := 66) dX9_meet_66 rfl rfl ?_
    refine q_iald (pc := 67) (j := (Int32.toNatClampNeg x2)) (v := if rI h c0 1 < rI h c1 3 then rI h c0 1 else rI h c1 3) dX9_meet_67 (lyUo1 hc0) (zvn (lnUo1 hc0) k1) rfl rI_s ?_
    refine z_isub (pc := 68) dX9_meet_68 ?_
    refine q_putI (pc := 69) dX9_meet_69 lk_RX9_19 (lyUo0 hc0) ?_
    refine z_goto (pc := 72) (tgt := 128) dX9_meet_72 (by decide) ?_
    exact q_retV (pc := 128) dX9_meet_128 rfl F
  · replace F := F.2 k2
    by_cases k3 : rI h c1 0 = 1
    · replace F := F.1 k3
      refine z_tableIn (pc := 11) (x := rI h c1 0) (tgt := 75) (off := 64) dX9_meet_11 (by rw [k3]; decide) (by rw [k3]; decide) (by rw [k3]; decide) (by decide) ?_
      refine z_aload_n (pc := 75) dX9_meet_75 rfl rfl ?_
      refine z_dup (pc := 76) dX9_meet_76 rfl ?_
      refine q_getI (pc := 77) (v := rI h c0 1) dX9_meet_77 lk_RX9_19 (lyUo0 hc0) (rI_c (zne (lyUo0 hc0) (lyUo1 hc0) (by decide))) ?_
      refine z_aload_n (pc := 80) dX9_meet_80 rfl rfl ?_
      refine q_getI (pc := 81) (v := rI h c0 1) dX9_meet_81 lk_RX9_19 (lyUo0 hc0) (rI_c (zne (lyUo0 hc0) (lyUo1 hc0) (by decide))) ?_
      refine z_iconst (pc := 84) (v := 2) dX9_meet_84 (by decide) ?_
      refine z_idiv (pc := 85) dX9_meet_85 (by decide) ?_
      refine z_isub (pc := 86) dX9_meet_86 ?_
      refine q_putI (pc := 87) dX9_meet_87 lk_RX9_19 (lyUo0 hc0) ?_
      refine z_goto (pc := 90) (tgt := 128) dX9_meet_90 (by decide) ?_
      exact q_retV (pc := 128) dX9_meet_128 rfl F
    · replace F := F.2 k3
      by_cases k4 : rI h c1 0 = 2
      · replace F := F.1 k4
        refine z_tableIn (pc := 11) (x := rI h c1 0) (tgt := 93) (off := 82) dX9_meet_11 (by rw [k4]; decide) (by rw [k4]; decide) (by rw [k4]; decide) (by decide) ?_
        refine z_aload_n (pc := 93) dX9_meet_93 rfl rfl ?_
        refine z_sipush (pc := 94) (v := 999) dX9_meet_94 (by decide) ?_
        refine z_aload_n (pc := 97) dX9_meet_97 rfl rfl ?_
        refine q_getI (pc := 98) (v := rI h c0 1) dX9_meet_98 lk_RX9_19 (lyUo0 hc0) (rI_c (zne (lyUo0 hc0) (lyUo1 hc0) (by decide))) ?_
        refine z_iconst (pc := 101) (v := 2) dX9_meet_101 (by decide) ?_
        refine z_imul (pc := 102) dX9_meet_102 ?_
        refine z_min (pc := 103) dX9_meet_103 ⟨pl_RX9_82, pw_minS, pw_Math, pw_minC⟩ (zcat_of rfl) ⟨Nat.le_of_ble_eq_true rfl, Nat.le_of_ble_eq_true rfl⟩ ?_
        refine q_putI (pc := 106) dX9_meet_106 lk_RX9_19 (lyUo0 hc0) ?_
        refine z_goto (pc := 109) (tgt := 128) dX9_meet_109 (by decide) ?_
        exact q_retV (pc := 128) dX9_meet_128 rfl F
      · replace F := F.2 k4
        by_cases k5 : rI h c1 0 = 3
        · replace F := F.1 k5
          refine z_tableIn (pc := 11) (x := rI h c1 0) (tgt := 112) (off := 101) dX9_meet_11 (by rw [k5]; decide) (by rw [k5]; decide) (by rw [k5]; decide) (by decide) ?_
          refine z_aload_n (pc := 112) dX9_meet_112 rfl rfl ?_
          refine z_aload_n (pc := 113) dX9_meet_113 rfl rfl ?_
          refine q_getI (pc := 114) (v := rI h c1 3) dX9_meet_114 lk_RX9_67 hc1 (rI_c (zne hc1 (lyUo1 hc0) (by decide))) ?_
          refine q_putI (pc := 117) dX9_meet_117 lk_RX9_15 (lyUo0 hc0) ?_
          refine z_goto (pc := 120) (tgt := 128) dX9_meet_120 (by decide) ?_
          exact q_retV (pc := 128) dX9_meet_128 rfl F
        · replace F := F.2 k5
          have hz0 := q_sw (0) k2 (by decide)
          have hz1 := q_sw (1) k3 (by decide)
          have hz2 := q_sw (2) k4 (by decide)
          have hz3 := q_sw (3) k5 (by decide)
          refine z_tableOut (pc := 11) (tgt := 123) dX9_meet_11 (by omega) (by decide) ?_
          refine z_aload_n (pc := 123) dX9_meet_123 rfl rfl ?_
          refine z_iconst (pc := 124) (v := 1) dX9_meet_124 (by decide) ?_
          refine q_putB (pc := 125) dX9_meet_125 lk_RX9_22 (lyUo0 hc0) (Or.inr rfl) ?_
          exact q_retV (pc := 128) dX9_meet_128 rfl F
theorem g_X10_clear  {h : zHp} {Q : Int32 → zHp → Prop}  (G : zG h) (F : zcV M_X8_empty [.ref 2] h (fun h1 => zG h1 ∧ (zcV M_X2_make [.ref 42, .ref 2, .int 5] (wI h1 0 11 0) (fun h2 => zG h2 ∧ (Q (rI h 2 1) h2))))) : zcI M_X10_clear [.ref 0] h Q := by
  show zw zNT zNT M_X10_clear 0 [some (.ref 0), none] [] h _
  refine z_aload_n (pc := 0) dX10_clear_0 rfl rfl ?_
  refine q_getR (pc := 1) (i := 2) dX10_clear_1 lk_RX10_20 (lyc rfl) (G 0 1 2 rfl) ?_
  refine q_getI (pc := 4) (v := rI h 2 1) dX10_clear_4 lk_RX10_68 (lyc rfl) rfl ?_
  refine z_istore_n (pc := 7) (ls' := [some (.ref 0), some (.int (rI h 2 1))]) dX10_clear_7 rfl (by decide) rfl ?_
  refine z_aload_n (pc := 8) dX10_clear_8 rfl rfl ?_
  refine q_getR (pc := 9) (i := 2) dX10_clear_9 lk_RX10_20 (lyc rfl) (G 0 1 2 rfl) ?_
  refine q_invV (pc := 12) (As := []) (st := []) dX10_clear_12 ok_X8_empty ml_RX10_72 iv_X8_empty pa_X8_empty ⟨Nat.le_of_ble_eq_true rfl, Nat.le_of_ble_eq_true rfl⟩ (lyc rfl) (q_kV F (fun h1 F => ?_))
  obtain ⟨G1, F⟩ := F
  refine z_aload_n (pc := 15) dX10_clear_15 rfl rfl ?_
  refine z_iconst (pc := 16) (v := 0) dX10_clear_16 (by decide) ?_
  refine q_putI (pc := 17) dX10_clear_17 lk_RX10_75 (lyc rfl) ?_
  refine z_aload_n (pc := 20) dX10_clear_20 rfl rfl ?_
  refine q_getR (pc := 21) (i := 42) dX10_clear_21 lk_RX10_27 (lyc rfl) (G1 0 2 42 rfl) ?_
  refine z_aload_n (pc := 24) dX10_clear_24 rfl rfl ?_
  refine q_getR (pc := 25) (i := 2) dX10_clear_25 lk_RX10_20 (lyc rfl) (G1 0 1 2 rfl) ?_
  refine z_iconst (pc := 28) (v := 5) dX10_clear_28 (by decide) ?_
  refine q_invV (pc := 29) (As := [.ref 2, .int 5]) (st := []) dX10_clear_29 ok_X2_make ml_RX10_78 iv_X2_make pa_X2_make ⟨Nat.le_of_ble_eq_true rfl, Nat.le_of_ble_eq_true rfl⟩ (lyc rfl) (q_kV F (fun h2 F => ?_))
  obtain ⟨G2, F⟩ := F
  refine z_iload_n (pc := 32) dX10_clear_32 rfl rfl ?_
  exact q_retI (pc := 33) dX10_clear_33 rfl F
theorem g_X10_thing {x1 : Int32} {x2 : Int32} {x3 : Int32} {x4 : Int32} {h : zHp} {Q : Int32 → zHp → Prop}  (G : zG h) (F : zcI M_X10_within [.int x1, .int 0, .int 1] h (fun vh1 h1 => zG h1 ∧ ((vh1 = 0 → (Q (-2) h1)) ∧ (¬ (vh1 = 0) → (zcI M_X10_within [.int x2, .int 0, .int 5] h1 (fun vh2 h2 => zG h2 ∧ ((¬ vh2 = 0 → (zcI M_X10_within [.int x3, .int 0, .int 99] h2 (fun vh3 h3 => zG h3 ∧ ((vh3 = 0 → (Q (-2) h3)) ∧ (¬ (vh3 = 0) → (zcI M_X10_within [.int x4, .int 0, .int 99] h3 (fun vh4 h4 => zG h4 ∧ ((¬ vh4 = 0 → ((rI h4 2 1 < 8 → (zcV M_X8_addThing [.ref 2, .int x1, .int x2, .int x3, .int x4] h4 (fun h5 => zG h5 ∧ (zcV M_X0_settle [.ref 1, .int 0] h5 (fun h6 => zG h6 ∧ (Q (rI h4 2 1) h6)))))) ∧ (¬ (rI h4 2 1 < 8) → (Q (-4) h4)))) ∧ (vh4 = 0 → (Q (-2) h4)))))))))) ∧ (vh2 = 0 → (Q (-2) h2))))))))) : zcI M_X10_thing [.ref 0, .int x1, .int x2, .int x3, .int x4] h Q := by
  show zw zNT zNT M_X10_thing 0 [some (.ref 0), some (.int x1), some (.int x2), some (.int x3), some (.int x4), none] [] h _
  refine z_iload_n (pc := 0) dX10_thing_0 rfl rfl ?_
  refine z_iconst (pc := 1) (v := 0) dX10_thing_1 (by decide) ?_
  refine z_iconst (pc := 2) (v := 1) dX10_thing_2 (by decide) ?_
  refine q_invS (pc := 3) (As := [.int x1, .int 0, .int 1]) (st := []) dX10_thing_3 ok_X10_within ml_RX10_82 st_X10_within pa_X10_within ⟨Nat.le_of_ble_eq_true rfl, Nat.le_of_ble_eq_true rfl⟩ (q_kI F (fun vh1 h1 F => ?_))
  obtain ⟨G1, F⟩ := F
  refine z_if_eq (pc := 6) (tgt := 18) dX10_thing_6 (by decide) (fun k11 => ?_) (fun k11 => ?_)
  · replace F := F.1 k11
    refine z_bipush (pc := 18) (v := -2) dX10_thing_18 (by decide) ?_
    exact q_retI (pc := 20) dX10_thing_20 rfl F
  · replace F := F.2 k11
    refine z_iload_n (pc := 9) dX10_thing_9 rfl rfl ?_
    refine z_iconst (pc := 10) (v := 0) dX10_thing_10 (by decide) ?_
    refine z_iconst (pc := 11) (v := 5) dX10_thing_11 (by decide) ?_
    refine q_invS (pc := 12) (As := [.int x2, .int 0, .int 5]) (st := []) dX10_thing_12 ok_X10_within ml_RX10_82 st_X10_within pa_X10_within ⟨Nat.le_of_ble_eq_true rfl, Nat.le_of_ble_eq_true rfl⟩ (q_kI F (fun vh2 h2 F => ?_))
    obtain ⟨G2, F⟩ := F
    refine z_if_ne (pc := 15) (tgt := 21) dX10_thing_15 (by decide) (fun k10 => ?_) (fun k10 => ?_)
    · replace F := F.1 k10
      refine z_iload_n (pc := 21) dX10_thing_21 rfl rfl ?_
      refine z_iconst (pc := 22) (v := 0) dX10_thing_22 (by decide) ?_
      refine z_bipush (pc := 23) (v := 99) dX10_thing_23 (by decide) ?_
      refine q_invS (pc := 25) (As := [.int x3, .int 0, .int 99]) (st := []) dX10_thing_25 ok_X10_within ml_RX10_82 st_X10_within pa_X10_within ⟨Nat.le_of_ble_eq_true rfl, Nat.le_of_ble_eq_true rfl⟩ (q_kI F (fun vh3 h3 F => ?_))
      obtain ⟨G3, F⟩ := F
      refine z_if_eq (pc := 28) (tgt := 42) dX10_thing_28 (by decide) (fun k9 => ?_) (fun k9 => ?_)
      · replace F := F.1 k9
        refine z_bipush (pc := 42) (v := -2) dX10_thing_42 (by decide) ?_
        exact q_retI (pc := 44) dX10_thing_44 rfl F
      · replace F := F.2 k9
        refine z_iload (pc := 31) dX10_thing_31 rfl ?_
        refine z_iconst (pc := 33) (v := 0) dX10_thing_33 (by decide) ?_
        refine z_bipush (pc := 34) (v := 99) dX10_thing_34 (by decide) ?_
        refine q_invS (pc := 36) (As := [.int x4, .int 0, .int 99]) (st := []) dX10_thing_36 ok_X10_within ml_RX10_82 st_X10_within pa_X10_within ⟨Nat.le_of_ble_eq_true rfl, Nat.le_of_ble_eq_true rfl⟩ (q_kI F (fun vh4 h4 F => ?_))
        obtain ⟨G4, F⟩ := F
        refine z_if_ne (pc := 39) (tgt := 45) dX10_thing_39 (by decide) (fun k8 => ?_) (fun k8 => ?_)
        · replace F := F.1 k8
          refine z_aload_n (pc := 45) dX10_thing_45 rfl rfl ?_
          refine q_getR (pc := 46) (i := 2) dX10_thing_46 lk_RX10_20 (lyc rfl) (G4 0 1 2 rfl) ?_
          refine q_getI (pc := 49) (v := rI h4 2 1) dX10_thing_49 lk_RX10_68 (lyc rfl) rfl ?_
          refine z_bipush (pc := 52) (v := 8) dX10_thing_52 (by decide) ?_
          refine z_icmp_lt (pc := 54) (tgt := 60) dX10_thing_54 (by decide) (fun k7 => ?_) (fun k7 => ?_)
          · replace F := F.1 k7
            refine z_aload_n (pc := 60) dX10_thing_60 rfl rfl ?_
            refine q_getR (pc := 61) (i := 2) dX10_thing_61 lk_RX10_20 (lyc rfl) (G4 0 1 2 rfl) ?_
            refine q_getI (pc := 64) (v := rI h4 2 1) dX10_thing_64 lk_RX10_68 (lyc rfl) rfl ?_
            refine z_istore (pc := 67) (ls' := [some (.ref 0), some (.int x1), some (.int x2), some (.int x3), some (.int x4), some (.int (rI h4 2 1))]) dX10_thing_67 (by decide) rfl ?_
            refine z_aload_n (pc := 69) dX10_thing_69 rfl rfl ?_
            refine q_getR (pc := 70) (i := 2) dX10_thing_70 lk_RX10_20 (lyc rfl) (G4 0 1 2 rfl) ?_
            refine z_iload_n (pc := 73) dX10_thing_73 rfl rfl ?_
            refine z_iload_n (pc := 74) dX10_thing_74 rfl rfl ?_
            refine z_iload_n (pc := 75) dX10_thing_75 rfl rfl ?_
            refine z_iload (pc := 76) dX10_thing_76 rfl ?_
            refine q_invV (pc := 78) (As := [.int x1, .int x2, .int x3, .int x4]) (st := []) dX10_thing_78 ok_X8_addThing ml_RX10_86 iv_X8_addThing pa_X8_addThing ⟨Nat.le_of_ble_eq_true rfl, Nat.le_of_ble_eq_true rfl⟩ (lyc rfl) (q_kV F (fun h5 F => ?_))
            obtain ⟨G5, F⟩ := F
            refine z_aload_n (pc := 81) dX10_thing_81 rfl rfl ?_
            refine q_getR (pc := 82) (i := 1) dX10_thing_82 lk_RX10_10 (lyc rfl) (G5 0 0 1 rfl) ?_
            refine z_iconst (pc := 85) (v := 0) dX10_thing_85 (by decide) ?_
            refine q_invV (pc := 86) (As := [.int 0]) (st := []) dX10_thing_86 ok_X0_settle ml_RX10_90 iv_X0_settle pa_X0_settle ⟨Nat.le_of_ble_eq_true rfl, Nat.le_of_ble_eq_true rfl⟩ (lyc rfl) (q_kV F (fun h6 F => ?_))
            obtain ⟨G6, F⟩ := F
            refine z_iload (pc := 89) dX10_thing_89 rfl ?_
            exact q_retI (pc := 91) dX10_thing_91 rfl F
          · replace F := F.2 k7
            refine z_bipush (pc := 57) (v := -4) dX10_thing_57 (by decide) ?_
            exact q_retI (pc := 59) dX10_thing_59 rfl F
        · replace F := F.2 k8
          refine z_bipush (pc := 42) (v := -2) dX10_thing_42 (by decide) ?_
          exact q_retI (pc := 44) dX10_thing_44 rfl F
    · replace F := F.2 k10
      refine z_bipush (pc := 18) (v := -2) dX10_thing_18 (by decide) ?_
      exact q_retI (pc := 20) dX10_thing_20 rfl F
theorem g_X10_scope {x1 : Int32} {x2 : Int32} {h : zHp} {Q : Int32 → zHp → Prop}  (G : zG h) (F : zcI M_X10_isScope [.int x1, .int x2] h (fun vh1 h1 => zG h1 ∧ ((¬ vh1 = 0 → (zlI M_X10_scope 16 [some (.ref 0), some (.int x1), some (.int x2), some (.int 0), some (.int 0)] [] h1 Q)) ∧ (vh1 = 0 → (Q (-2) h1))))) : zcI M_X10_scope [.ref 0, .int x1, .int x2] h Q := by
  show zw zNT zNT M_X10_scope 0 [some (.ref 0), some (.int x1), some (.int x2), none, none] [] h _
  refine z_iload_n (pc := 0) dX10_scope_0 rfl rfl ?_
  refine z_iload_n (pc := 1) dX10_scope_1 rfl rfl ?_
  refine q_invS (pc := 2) (As := [.int x1, .int x2]) (st := []) dX10_scope_2 ok_X10_isScope ml_RX10_151 st_X10_isScope pa_X10_isScope ⟨Nat.le_of_ble_eq_true rfl, Nat.le_of_ble_eq_true rfl⟩ (q_kI F (fun vh1 h1 F => ?_))
  obtain ⟨G1, F⟩ := F
  refine z_if_ne (pc := 5) (tgt := 11) dX10_scope_5 (by decide) (fun k2 => ?_) (fun k2 => ?_)
  · replace F := F.1 k2
    refine z_iconst (pc := 11) (v := 0) dX10_scope_11 (by decide) ?_
    refine z_istore_n (pc := 12) (ls' := [some (.ref 0), some (.int x1), some (.int x2), some (.int 0), none]) dX10_scope_12 rfl (by decide) rfl ?_
    refine z_iconst (pc := 13) (v := 0) dX10_scope_13 (by decide) ?_
    refine z_istore (pc := 14) (ls' := [some (.ref 0), some (.int x1), some (.int x2), some (.int 0), some (.int 0)]) dX10_scope_14 (by decide) rfl ?_
    exact F
  · replace F := F.2 k2
    refine z_bipush (pc := 8) (v := -2) dX10_scope_8 (by decide) ?_
    exact q_retI (pc := 10) dX10_scope_10 rfl F
theorem g_X10_scope_16 {x1 : Int32} {x2 : Int32} {x3 : Int32} {x4 : Int32} {h : zHp} {Q : Int32 → zHp → Prop}  (G : zG h) (F : (rI h 2 1 ≤ x4 → (Q x3 h)) ∧ (¬ (rI h 2 1 ≤ x4) → (zcI M_X2_holds [.ref 42, .ref 2, .int x4, .int x1, .int x2] h (fun vh1 h1 => zG h1 ∧ ((vh1 = 0 → (zlI M_X10_scope 16 [some (.ref 0), some (.int x1), some (.int x2), some (.int x3), some (.int (x4 + 1))] [] h1 Q)) ∧ (¬ (vh1 = 0) → (zlI M_X10_scope 16 [some (.ref 0), some (.int x1), some (.int x2), some (.int (x3 ||| (1 <<< (x4 &&& 31)))), some (.int (x4 + 1))] [] h1 Q))))))) : zlI M_X10_scope 16 [some (.ref 0), some (.int x1), some (.int x2), some (.int x3), some (.int x4)] [] h Q := by
  refine z_iload (pc := 16) dX10_scope_16 rfl ?_
  refine z_aload_n (pc := 18) dX10_scope_18 rfl rfl ?_
  refine q_getR (pc := 19) (i := 2) dX10_scope_19 lk_RX10_20 (lyc rfl) (G 0 1 2 rfl) ?_
  refine q_getI (pc := 22) (v := rI h 2 1) dX10_scope_22 lk_RX10_68 (lyc rfl) rfl ?_
  refine z_icmp_ge (pc := 25) (tgt := 59) dX10_scope_25 (by decide) (fun k3 => ?_) (fun k3 => ?_)
  · replace F := F.1 k3
    refine z_iload_n (pc := 59) dX10_scope_59 rfl rfl ?_
    exact q_retI (pc := 60) dX10_scope_60 rfl F
  · replace F := F.2 k3
    refine z_aload_n (pc := 28) dX10_scope_28 rfl rfl ?_
    refine q_getR (pc := 29) (i := 42) dX10_scope_29 lk_RX10_27 (lyc rfl) (G 0 2 42 rfl) ?_
    refine z_aload_n (pc := 32) dX10_scope_32 rfl rfl ?_
    refine q_getR (pc := 33) (i := 2) dX10_scope_33 lk_RX10_20 (lyc rfl) (G 0 1 2 rfl) ?_
    refine z_iload (pc := 36) dX10_scope_36 rfl ?_
    refine z_iload_n (pc := 38) dX10_scope_38 rfl rfl ?_
    refine z_iload_n (pc := 39) dX10_scope_39 rfl rfl ?_
    refine q_invV (pc := 40) (As := [.ref 2, .int x4, .int x1, .int x2]) (st := []) dX10_scope_40 ok_X2_holds ml_RX10_154 iv_X2_holds pa_X2_holds ⟨Nat.le_of_ble_eq_true rfl, Nat.le_of_ble_eq_true rfl⟩ (lyc rfl) (q_kI F (fun vh1 h1 F => ?_))
    obtain ⟨G1, F⟩ := F
    refine z_if_eq (pc := 43) (tgt := 53) dX10_scope_43 (by decide) (fun k2 => ?_) (fun k2 => ?_)
    · replace F := F.1 k2
      refine z_iinc (pc := 53) (v := x4 + 1) (ls' := [some (.ref 0), some (.int x1), some (.int x2), some (.int x3), some (.int (x4 + 1))]) dX10_scope_53 (by decide) rfl rfl rfl ?_
      refine z_goto (pc := 56) (tgt := 16) dX10_scope_56 (by decide) ?_
      exact F
    · replace F := F.2 k2
      refine z_iload_n (pc := 46) dX10_scope_46 rfl rfl ?_
      refine z_iconst (pc := 47) (v := 1) dX10_scope_47 (by decide) ?_
      refine z_iload (pc := 48) dX10_scope_48 rfl ?_
      refine z_ishl (pc := 50) dX10_scope_50 ?_
      refine z_ior (pc := 51) dX10_scope_51 ?_
      refine z_istore_n (pc := 52) (ls' := [some (.ref 0), some (.int x1), some (.int x2), some (.int (x3 ||| (1 <<< (x4 &&& 31)))), some (.int x4)]) dX10_scope_52 rfl (by decide) rfl ?_
      refine z_iinc (pc := 53) (v := x4 + 1) (ls' := [some (.ref 0), some (.int x1), some (.int x2), some (.int (x3 ||| (1 <<< (x4 &&& 31)))), some (.int (x4 + 1))]) dX10_scope_53 (by decide) rfl rfl rfl ?_
      refine z_goto (pc := 56) (tgt := 16) dX10_scope_56 (by decide) ?_
      exact F
theorem g_X10_ends {x1 : Int32} {h : zHp} {Q : Int32 → zHp → Prop}  (G : zG h) (F : zcI M_X8_hasEffect [.ref 2, .int x1] h (fun vh1 h1 => zG h1 ∧ ((¬ vh1 = 0 → (zcV M_X8_dropEffect [.ref 2, .int x1] h1 (fun h2 => zG h2 ∧ (zcV M_X0_settle [.ref 1, .int 0] h2 (fun h3 => zG h3 ∧ (Q (rI h3 2 3) h3)))))) ∧ (vh1 = 0 → (Q (-2) h1))))) : zcI M_X10_ends [.ref 0, .int x1] h Q := by
  show zw zNT zNT M_X10_ends 0 [some (.ref 0), some (.int x1)] [] h _
  refine z_aload_n (pc := 0) dX10_ends_0 rfl rfl ?_
  refine q_getR (pc := 1) (i := 2) dX10_ends_1 lk_RX10_20 (lyc rfl) (G 0 1 2 rfl) ?_
  refine z_iload_n (pc := 4) dX10_ends_4 rfl rfl ?_
  refine q_invV (pc := 5) (As := [.int x1]) (st := []) dX10_ends_5 ok_X8_hasEffect ml_RX10_174 iv_X8_hasEffect pa_X8_hasEffect ⟨Nat.le_of_ble_eq_true rfl, Nat.le_of_ble_eq_true rfl⟩ (lyc rfl) (q_kI F (fun vh1 h1 F => ?_))
  obtain ⟨G1, F⟩ := F
  refine z_if_ne (pc := 8) (tgt := 14) dX10_ends_8 (by decide) (fun k4 => ?_) (fun k4 => ?_)
  · replace F := F.1 k4
    refine z_aload_n (pc := 14) dX10_ends_14 rfl rfl ?_
    refine q_getR (pc := 15) (i := 2) dX10_ends_15 lk_RX10_20 (lyc rfl) (G1 0 1 2 rfl) ?_
    refine z_iload_n (pc := 18) dX10_ends_18 rfl rfl ?_
    refine q_invV (pc := 19) (As := [.int x1]) (st := []) dX10_ends_19 ok_X8_dropEffect ml_RX10_183 iv_X8_dropEffect pa_X8_dropEffect ⟨Nat.le_of_ble_eq_true rfl, Nat.le_of_ble_eq_true rfl⟩ (lyc rfl) (q_kV F (fun h2 F => ?_))
    obtain ⟨G2, F⟩ := F
    refine z_aload_n (pc := 22) dX10_ends_22 rfl rfl ?_
    refine q_getR (pc := 23) (i := 1) dX10_ends_23 lk_RX10_10 (lyc rfl) (G2 0 0 1 rfl) ?_
    refine z_iconst (pc := 26) (v := 0) dX10_ends_26 (by decide) ?_
    refine q_invV (pc := 27) (As := [.int 0]) (st := []) dX10_ends_27 ok_X0_settle ml_RX10_90 iv_X0_settle pa_X0_settle ⟨Nat.le_of_ble_eq_true rfl, Nat.le_of_ble_eq_true rfl⟩ (lyc rfl) (q_kV F (fun h3 F => ?_))
    obtain ⟨G3, F⟩ := F
    refine z_aload_n (pc := 30) dX10_ends_30 rfl rfl ?_
    refine q_getR (pc := 31) (i := 2) dX10_ends_31 lk_RX10_20 (lyc rfl) (G3 0 1 2 rfl) ?_
    refine q_getI (pc := 34) (v := rI h3 2 3) dX10_ends_34 lk_RX10_161 (lyc rfl) rfl ?_
    exact q_retI (pc := 37) dX10_ends_37 rfl F
  · replace F := F.2 k4
    refine z_bipush (pc := 11) (v := -2) dX10_ends_11 (by decide) ?_
    exact q_retI (pc := 13) dX10_ends_13 rfl F
theorem g_X10_order {x1 : Int32} {h : zHp} {Q : Int32 → zHp → Prop}  (G : zG h) (F : (-1 ≤ x1 → ((¬ x1 = -1 → ((x1 < rI h 42 5 → (vp_in x1 10 ∧ (Q (rI h 47 ((Int32.toNatClampNeg x1))) h))) ∧ (¬ (x1 < rI h 42 5) → (Q (-1) h)))) ∧ (x1 = -1 → (Q (rI h 42 5) h)))) ∧ (¬ (-1 ≤ x1) → (Q (-2) h))) : zcI M_X10_order [.ref 0, .int x1] h Q := by
  show zw zNT zNT M_X10_order 0 [some (.ref 0), some (.int x1)] [] h _
  refine z_iload_n (pc := 0) dX10_order_0 rfl rfl ?_
  refine z_iconst (pc := 1) (v := -1) dX10_order_1 (by decide) ?_
  refine z_icmp_ge (pc := 2) (tgt := 8) dX10_order_2 (by decide) (fun k4 => ?_) (fun k4 => ?_)
  · replace F := F.1 k4
    refine z_iload_n (pc := 8) dX10_order_8 rfl rfl ?_
    refine z_iconst (pc := 9) (v := -1) dX10_order_9 (by decide) ?_
    refine z_icmp_ne (pc := 10) (tgt := 21) dX10_order_10 (by decide) (fun k3 => ?_) (fun k3 => ?_)
    · replace F := F.1 k3
      refine z_iload_n (pc := 21) dX10_order_21 rfl rfl ?_
      refine z_aload_n (pc := 22) dX10_order_22 rfl rfl ?_
      refine q_getR (pc := 23) (i := 42) dX10_order_23 lk_RX10_27 (lyc rfl) (G 0 2 42 rfl) ?_
      refine q_getI (pc := 26) (v := rI h 42 5) dX10_order_26 lk_RX10_187 (lyc rfl) rfl ?_
      refine z_icmp_lt (pc := 29) (tgt := 34) dX10_order_29 (by decide) (fun k2 => ?_) (fun k2 => ?_)
      · replace F := F.1 k2
        refine z_aload_n (pc := 34) dX10_order_34 rfl rfl ?_
        refine q_getR (pc := 35) (i := 42) dX10_order_35 lk_RX10_27 (lyc rfl) (G 0 2 42 rfl) ?_
        refine q_getR (pc := 38) (i := 47) dX10_order_38 lk_RX10_190 (lyc rfl) (G 42 4 47 rfl) ?_
        refine z_iload_n (pc := 41) dX10_order_41 rfl rfl ?_
        obtain ⟨k1, F⟩ := F
        refine q_iald (pc := 42) (j := (Int32.toNatClampNeg x1)) (v := rI h 47 ((Int32.toNatClampNeg x1))) dX10_order_42 (lyc rfl) (zvn (lnc rfl) k1) rfl rfl ?_
        exact q_retI (pc := 43) dX10_order_43 rfl F
      · replace F := F.2 k2
        refine z_iconst (pc := 32) (v := -1) dX10_order_32 (by decide) ?_
        exact q_retI (pc := 33) dX10_order_33 rfl F
    · replace F := F.2 k3
      refine z_aload_n (pc := 13) dX10_order_13 rfl rfl ?_
      refine q_getR (pc := 14) (i := 42) dX10_order_14 lk_RX10_27 (lyc rfl) (G 0 2 42 rfl) ?_
      refine q_getI (pc := 17) (v := rI h 42 5) dX10_order_17 lk_RX10_187 (lyc rfl) rfl ?_
      exact q_retI (pc := 20) dX10_order_20 rfl F
  · replace F := F.2 k4
    refine z_bipush (pc := 5) (v := -2) dX10_order_5 (by decide) ?_
    exact q_retI (pc := 7) dX10_order_7 rfl F
theorem g_X10_unrule {x1 : Int32} {h : zHp} {Q : Int32 → zHp → Prop}  (G : zG h) (F : zcI M_X8_hasRule [.ref 2, .int x1] h (fun vh1 h1 => zG h1 ∧ ((¬ vh1 = 0 → (zcV M_X8_dropRule [.ref 2, .int x1] h1 (fun h2 => zG h2 ∧ (Q (rI h2 2 5) h2)))) ∧ (vh1 = 0 → (Q (-2) h1))))) : zcI M_X10_unrule [.ref 0, .int x1] h Q := by
  show zw zNT zNT M_X10_unrule 0 [some (.ref 0), some (.int x1)] [] h _
  refine z_aload_n (pc := 0) dX10_unrule_0 rfl rfl ?_
  refine q_getR (pc := 1) (i := 2) dX10_unrule_1 lk_RX10_20 (lyc rfl) (G 0 1 2 rfl) ?_
  refine z_iload_n (pc := 4) dX10_unrule_4 rfl rfl ?_
  refine q_invV (pc := 5) (As := [.int x1]) (st := []) dX10_unrule_5 ok_X8_hasRule ml_RX10_216 iv_X8_hasRule pa_X8_hasRule ⟨Nat.le_of_ble_eq_true rfl, Nat.le_of_ble_eq_true rfl⟩ (lyc rfl) (q_kI F (fun vh1 h1 F => ?_))
  obtain ⟨G1, F⟩ := F
  refine z_if_ne (pc := 8) (tgt := 14) dX10_unrule_8 (by decide) (fun k3 => ?_) (fun k3 => ?_)
  · replace F := F.1 k3
    refine z_aload_n (pc := 14) dX10_unrule_14 rfl rfl ?_
    refine q_getR (pc := 15) (i := 2) dX10_unrule_15 lk_RX10_20 (lyc rfl) (G1 0 1 2 rfl) ?_
    refine z_iload_n (pc := 18) dX10_unrule_18 rfl rfl ?_
    refine q_invV (pc := 19) (As := [.int x1]) (st := []) dX10_unrule_19 ok_X8_dropRule ml_RX10_225 iv_X8_dropRule pa_X8_dropRule ⟨Nat.le_of_ble_eq_true rfl, Nat.le_of_ble_eq_true rfl⟩ (lyc rfl) (q_kV F (fun h2 F => ?_))
    obtain ⟨G2, F⟩ := F
    refine z_aload_n (pc := 22) dX10_unrule_22 rfl rfl ?_
    refine q_getR (pc := 23) (i := 2) dX10_unrule_23 lk_RX10_20 (lyc rfl) (G2 0 1 2 rfl) ?_
    refine q_getI (pc := 26) (v := rI h2 2 5) dX10_unrule_26 lk_RX10_205 (lyc rfl) rfl ?_
    exact q_retI (pc := 29) dX10_unrule_29 rfl F
  · replace F := F.2 k3
    refine z_bipush (pc := 11) (v := -2) dX10_unrule_11 (by decide) ?_
    exact q_retI (pc := 13) dX10_unrule_13 rfl F
theorem g_X10_choice {x1 : Int32} {x2 : Int32} {h : zHp} {Q : Int32 → zHp → Prop}  (G : zG h) (F : zcI M_X10_within [.int x1, .int 0, .int 1] h (fun vh1 h1 => zG h1 ∧ ((vh1 = 0 → (Q (-2) h1)) ∧ (¬ (vh1 = 0) → (zcI M_X10_within [.int x2, .int 0, .int 1] h1 (fun vh2 h2 => zG h2 ∧ ((¬ vh2 = 0 → (vp_in x1 2 ∧ (Q (rI h2 7 ((Int32.toNatClampNeg x1))) (wI h2 7 ((Int32.toNatClampNeg x1)) x2)))) ∧ (vh2 = 0 → (Q (-2) h2))))))))) : zcI M_X10_choice [.ref 0, .int x1, .int x2] h Q := by
  show zw zNT zNT M_X10_choice 0 [some (.ref 0), some (.int x1), some (.int x2), none] [] h _
  refine z_iload_n (pc := 0) dX10_choice_0 rfl rfl ?_
  refine z_iconst (pc := 1) (v := 0) dX10_choice_1 (by decide) ?_
  refine z_iconst (pc := 2) (v := 1) dX10_choice_2 (by decide) ?_
  refine q_invS (pc := 3) (As := [.int x1, .int 0, .int 1]) (st := []) dX10_choice_3 ok_X10_within ml_RX10_82 st_X10_within pa_X10_within ⟨Nat.le_of_ble_eq_true rfl, Nat.le_of_ble_eq_true rfl⟩ (q_kI F (fun vh1 h1 F => ?_))
  obtain ⟨G1, F⟩ := F
  refine z_if_eq (pc := 6) (tgt := 18) dX10_choice_6 (by decide) (fun k5 => ?_) (fun k5 => ?_)
  · replace F := F.1 k5
    refine z_bipush (pc := 18) (v := -2) dX10_choice_18 (by decide) ?_
    exact q_retI (pc := 20) dX10_choice_20 rfl F
  · replace F := F.2 k5
    refine z_iload_n (pc := 9) dX10_choice_9 rfl rfl ?_
    refine z_iconst (pc := 10) (v := 0) dX10_choice_10 (by decide) ?_
    refine z_iconst (pc := 11) (v := 1) dX10_choice_11 (by decide) ?_
    refine q_invS (pc := 12) (As := [.int x2, .int 0, .int 1]) (st := []) dX10_choice_12 ok_X10_within ml_RX10_82 st_X10_within pa_X10_within ⟨Nat.le_of_ble_eq_true rfl, Nat.le_of_ble_eq_true rfl⟩ (q_kI F (fun vh2 h2 F => ?_))
    obtain ⟨G2, F⟩ := F
    refine z_if_ne (pc := 15) (tgt := 21) dX10_choice_15 (by decide) (fun k4 => ?_) (fun k4 => ?_)
    · replace F := F.1 k4
      refine z_aload_n (pc := 21) dX10_choice_21 rfl rfl ?_
      refine q_getR (pc := 22) (i := 2) dX10_choice_22 lk_RX10_20 (lyc rfl) (G2 0 1 2 rfl) ?_
      refine q_getR (pc := 25) (i := 7) dX10_choice_25 lk_RX10_228 (lyc rfl) (G2 2 8 7 rfl) ?_
      refine z_iload_n (pc := 28) dX10_choice_28 rfl rfl ?_
      obtain ⟨k3, F⟩ := F
      refine q_iald (pc := 29) (j := (Int32.toNatClampNeg x1)) (v := rI h2 7 ((Int32.toNatClampNeg x1))) dX10_choice_29 (lyc rfl) (zvn (lnc rfl) k3) rfl rfl ?_
      refine z_istore_n (pc := 30) (ls' := [some (.ref 0), some (.int x1), some (.int x2), some (.int (rI h2 7 ((Int32.toNatClampNeg x1))))]) dX10_choice_30 rfl (by decide) rfl ?_
      refine z_aload_n (pc := 31) dX10_choice_31 rfl rfl ?_
      refine q_getR (pc := 32) (i := 2) dX10_choice_32 lk_RX10_20 (lyc rfl) (G2 0 1 2 rfl) ?_
      refine q_getR (pc := 35) (i := 7) dX10_choice_35 lk_RX10_228 (lyc rfl) (G2 2 8 7 rfl) ?_
      refine z_iload_n (pc := 38) dX10_choice_38 rfl rfl ?_
      refine z_iload_n (pc := 39) dX10_choice_39 rfl rfl ?_
      refine q_iast (pc := 40) (j := (Int32.toNatClampNeg x1)) dX10_choice_40 (lyc rfl) (zvn (lnc rfl) k3) rfl ?_
      refine z_iload_n (pc := 41) dX10_choice_41 rfl rfl ?_
      exact q_retI (pc := 42) dX10_choice_42 rfl F
    · replace F := F.2 k4
      refine z_bipush (pc := 18) (v := -2) dX10_choice_18 (by decide) ?_
      exact q_retI (pc := 20) dX10_choice_20 rfl F
theorem g_X10_unwatch {x1 : Int32} {h : zHp} {Q : Int32 → zHp → Prop}  (G : zG h) (F : zcI M_X8_hasWatcher [.ref 2, .int x1] h (fun vh1 h1 => zG h1 ∧ ((¬ vh1 = 0 → (zcV M_X8_dropWatcher [.ref 2, .int x1] h1 (fun h2 => zG h2 ∧ (Q (rI h2 2 7) h2)))) ∧ (vh1 = 0 → (Q (-2) h1))))) : zcI M_X10_unwatch [.ref 0, .int x1] h Q := by
  show zw zNT zNT M_X10_unwatch 0 [some (.ref 0), some (.int x1)] [] h _
  refine z_aload_n (pc := 0) dX10_unwatch_0 rfl rfl ?_
  refine q_getR (pc := 1) (i := 2) dX10_unwatch_1 lk_RX10_20 (lyc rfl) (G 0 1 2 rfl) ?_
  refine z_iload_n (pc := 4) dX10_unwatch_4 rfl rfl ?_
  refine q_invV (pc := 5) (As := [.int x1]) (st := []) dX10_unwatch_5 ok_X8_hasWatcher ml_RX10_241 iv_X8_hasWatcher pa_X8_hasWatcher ⟨Nat.le_of_ble_eq_true rfl, Nat.le_of_ble_eq_true rfl⟩ (lyc rfl) (q_kI F (fun vh1 h1 F => ?_))
  obtain ⟨G1, F⟩ := F
  refine z_if_ne (pc := 8) (tgt := 14) dX10_unwatch_8 (by decide) (fun k3 => ?_) (fun k3 => ?_)
  · replace F := F.1 k3
    refine z_aload_n (pc := 14) dX10_unwatch_14 rfl rfl ?_
    refine q_getR (pc := 15) (i := 2) dX10_unwatch_15 lk_RX10_20 (lyc rfl) (G1 0 1 2 rfl) ?_
    refine z_iload_n (pc := 18) dX10_unwatch_18 rfl rfl ?_
    refine q_invV (pc := 19) (As := [.int x1]) (st := []) dX10_unwatch_19 ok_X8_dropWatcher ml_RX10_250 iv_X8_dropWatcher pa_X8_dropWatcher ⟨Nat.le_of_ble_eq_true rfl, Nat.le_of_ble_eq_true rfl⟩ (lyc rfl) (q_kV F (fun h2 F => ?_))
    obtain ⟨G2, F⟩ := F
    refine z_aload_n (pc := 22) dX10_unwatch_22 rfl rfl ?_
    refine q_getR (pc := 23) (i := 2) dX10_unwatch_23 lk_RX10_20 (lyc rfl) (G2 0 1 2 rfl) ?_
    refine q_getI (pc := 26) (v := rI h2 2 7) dX10_unwatch_26 lk_RX10_231 (lyc rfl) rfl ?_
    exact q_retI (pc := 29) dX10_unwatch_29 rfl F
  · replace F := F.2 k3
    refine z_bipush (pc := 11) (v := -2) dX10_unwatch_11 (by decide) ?_
    exact q_retI (pc := 13) dX10_unwatch_13 rfl F
theorem g_X10_next  {h : zHp} {Q : Int32 → zHp → Prop}  (G : zG h) (F : zcV M_X8_copyFrom [.ref 53, .ref 2] h (fun h1 => zG h1 ∧ (zcV M_X0_begin [.ref 1] h1 (fun h2 => zG h2 ∧ (zcV M_X8_ageEffects [.ref 2] (wI h2 2 9 (1 - (rI h2 2 9))) (fun h3 => zG h3 ∧ (zcV M_X0_setOffByTurn [.ref 1] h3 (fun h4 => zG h4 ∧ (zcI M_X0_finish [.ref 1] h4 (fun vh5 h5 => zG h5 ∧ (zcI M_X10_refuseLoop [.ref 0, .int vh5] h5 (fun vh6 h6 => zG h6 ∧ (Q vh6 h6))))))))))))) : zcI M_X10_next [.ref 0] h Q := by
  show zw zNT zNT M_X10_next 0 [some (.ref 0)] [] h _
  refine z_aload_n (pc := 0) dX10_next_0 rfl rfl ?_
  refine q_getR (pc := 1) (i := 53) dX10_next_1 lk_RX10_31 (lyc rfl) (G 0 3 53 rfl) ?_
  refine z_aload_n (pc := 4) dX10_next_4 rfl rfl ?_
  refine q_getR (pc := 5) (i := 2) dX10_next_5 lk_RX10_20 (lyc rfl) (G 0 1 2 rfl) ?_
  refine q_invV (pc := 8) (As := [.ref 2]) (st := []) dX10_next_8 ok_X8_copyFrom ml_RX10_253 iv_X8_copyFrom pa_X8_copyFrom ⟨Nat.le_of_ble_eq_true rfl, Nat.le_of_ble_eq_true rfl⟩ (lyc rfl) (q_kV F (fun h1 F => ?_))
  obtain ⟨G1, F⟩ := F
  refine z_aload_n (pc := 11) dX10_next_11 rfl rfl ?_
  refine q_getR (pc := 12) (i := 1) dX10_next_12 lk_RX10_10 (lyc rfl) (G1 0 0 1 rfl) ?_
  refine q_invV (pc := 15) (As := []) (st := []) dX10_next_15 ok_X0_begin ml_RX10_257 iv_X0_begin pa_X0_begin ⟨Nat.le_of_ble_eq_true rfl, Nat.le_of_ble_eq_true rfl⟩ (lyc rfl) (q_kV F (fun h2 F => ?_))
  obtain ⟨G2, F⟩ := F
  refine z_aload_n (pc := 18) dX10_next_18 rfl rfl ?_
  refine q_getR (pc := 19) (i := 2) dX10_next_19 lk_RX10_20 (lyc rfl) (G2 0 1 2 rfl) ?_
  refine z_iconst (pc := 22) (v := 1) dX10_next_22 (by decide) ?_
  refine z_aload_n (pc := 23) dX10_next_23 rfl rfl ?_
  refine q_getR (pc := 24) (i := 2) dX10_next_24 lk_RX10_20 (lyc rfl) (G2 0 1 2 rfl) ?_
  refine q_getI (pc := 27) (v := rI h2 2 9) dX10_next_27 lk_RX10_292 (lyc rfl) rfl ?_
  refine z_isub (pc := 30) dX10_next_30 ?_
  refine q_putI (pc := 31) dX10_next_31 lk_RX10_292 (lyc rfl) ?_
  refine z_aload_n (pc := 34) dX10_next_34 rfl rfl ?_
  refine q_getR (pc := 35) (i := 2) dX10_next_35 lk_RX10_20 (lyc rfl) (G2 0 1 2 rfl) ?_
  refine q_invV (pc := 38) (As := []) (st := []) dX10_next_38 ok_X8_ageEffects ml_RX10_295 iv_X8_ageEffects pa_X8_ageEffects ⟨Nat.le_of_ble_eq_true rfl, Nat.le_of_ble_eq_true rfl⟩ (lyc rfl) (q_kV F (fun h3 F => ?_))
  obtain ⟨G3, F⟩ := F
  refine z_aload_n (pc := 41) dX10_next_41 rfl rfl ?_
  refine q_getR (pc := 42) (i := 1) dX10_next_42 lk_RX10_10 (lyc rfl) (G3 0 0 1 rfl) ?_
  refine q_invV (pc := 45) (As := []) (st := []) dX10_next_45 ok_X0_setOffByTurn ml_RX10_298 iv_X0_setOffByTurn pa_X0_setOffByTurn ⟨Nat.le_of_ble_eq_true rfl, Nat.le_of_ble_eq_true rfl⟩ (lyc rfl) (q_kV F (fun h4 F => ?_))
  obtain ⟨G4, F⟩ := F
  refine z_aload_n (pc := 48) dX10_next_48 rfl rfl ?_
  refine z_aload_n (pc := 49) dX10_next_49 rfl rfl ?_
  refine q_getR (pc := 50) (i := 1) dX10_next_50 lk_RX10_10 (lyc rfl) (G4 0 0 1 rfl) ?_
  refine q_invV (pc := 53) (As := []) (st := [.ref 0]) dX10_next_53 ok_X0_finish ml_RX10_264 iv_X0_finish pa_X0_finish ⟨Nat.le_of_ble_eq_true rfl, Nat.le_of_ble_eq_true rfl⟩ (lyc rfl) (q_kI F (fun vh5 h5 F => ?_))
  obtain ⟨G5, F⟩ := F
  refine q_invV (pc := 56) (As := [.int vh5]) (st := []) dX10_next_56 ok_X10_refuseLoop ml_RX10_267 iv_X10_refuseLoop pa_X10_refuseLoop ⟨Nat.le_of_ble_eq_true rfl, Nat.le_of_ble_eq_true rfl⟩ (lyc rfl) (q_kI F (fun vh6 h6 F => ?_))
  obtain ⟨G6, F⟩ := F
  exact q_retI (pc := 59) dX10_next_59 rfl F
theorem g_X10_shown {x1 : Int32} {h : zHp} {Q : Int32 → zHp → Prop}  (G : zG h) (F : (-1 ≤ x1 → ((¬ x1 = -1 → ((rI h 0 11 ≤ x1 → (Q (-1) h)) ∧ (¬ (rI h 0 11 ≤ x1) → ((x1 < 40 → (vp_in x1 40 ∧ (Q (rI h 155 ((Int32.toNatClampNeg x1))) h))) ∧ (¬ (x1 < 40) → (Q (-1) h)))))) ∧ (x1 = -1 → (Q (rI h 0 11) h)))) ∧ (¬ (-1 ≤ x1) → (Q (-2) h))) : zcI M_X10_shown [.ref 0, .int x1] h Q := by
  show zw zNT zNT M_X10_shown 0 [some (.ref 0), some (.int x1)] [] h _
  refine z_iload_n (pc := 0) dX10_shown_0 rfl rfl ?_
  refine z_iconst (pc := 1) (v := -1) dX10_shown_1 (by decide) ?_
  refine z_icmp_ge (pc := 2) (tgt := 8) dX10_shown_2 (by decide) (fun k5 => ?_) (fun k5 => ?_)
  · replace F := F.1 k5
    refine z_iload_n (pc := 8) dX10_shown_8 rfl rfl ?_
    refine z_iconst (pc := 9) (v := -1) dX10_shown_9 (by decide) ?_
    refine z_icmp_ne (pc := 10) (tgt := 18) dX10_shown_10 (by decide) (fun k4 => ?_) (fun k4 => ?_)
    · replace F := F.1 k4
      refine z_iload_n (pc := 18) dX10_shown_18 rfl rfl ?_
      refine z_aload_n (pc := 19) dX10_shown_19 rfl rfl ?_
      refine q_getI (pc := 20) (v := rI h 0 11) dX10_shown_20 lk_RX10_75 (lyc rfl) rfl ?_
      refine z_icmp_ge (pc := 23) (tgt := 32) dX10_shown_23 (by decide) (fun k3 => ?_) (fun k3 => ?_)
      · replace F := F.1 k3
        refine z_iconst (pc := 32) (v := -1) dX10_shown_32 (by decide) ?_
        exact q_retI (pc := 33) dX10_shown_33 rfl F
      · replace F := F.2 k3
        refine z_iload_n (pc := 26) dX10_shown_26 rfl rfl ?_
        refine z_bipush (pc := 27) (v := 40) dX10_shown_27 (by decide) ?_
        refine z_icmp_lt (pc := 29) (tgt := 34) dX10_shown_29 (by decide) (fun k2 => ?_) (fun k2 => ?_)
        · replace F := F.1 k2
          refine z_aload_n (pc := 34) dX10_shown_34 rfl rfl ?_
          refine q_getR (pc := 35) (i := 155) dX10_shown_35 lk_RX10_63 (lyc rfl) (G 0 10 155 rfl) ?_
          refine z_iload_n (pc := 38) dX10_shown_38 rfl rfl ?_
          obtain ⟨k1, F⟩ := F
          refine q_iald (pc := 39) (j := (Int32.toNatClampNeg x1)) (v := rI h 155 ((Int32.toNatClampNeg x1))) dX10_shown_39 (lyc rfl) (zvn (lnc rfl) k1) rfl rfl ?_
          exact q_retI (pc := 40) dX10_shown_40 rfl F
        · replace F := F.2 k2
          refine z_iconst (pc := 32) (v := -1) dX10_shown_32 (by decide) ?_
          exact q_retI (pc := 33) dX10_shown_33 rfl F
    · replace F := F.2 k4
      refine z_aload_n (pc := 13) dX10_shown_13 rfl rfl ?_
      refine q_getI (pc := 14) (v := rI h 0 11) dX10_shown_14 lk_RX10_75 (lyc rfl) rfl ?_
      exact q_retI (pc := 17) dX10_shown_17 rfl F
  · replace F := F.2 k5
    refine z_bipush (pc := 5) (v := -2) dX10_shown_5 (by decide) ?_
    exact q_retI (pc := 7) dX10_shown_7 rfl F
theorem g_X10_feed {x1 : Int32} {x2 : Int32} {h : zHp} {Q : Int32 → zHp → Prop}  (G : zG h) (F : zcI M_X10_within [.int x2, .int 1, .int 4] h (fun vh1 h1 => zG h1 ∧ ((¬ vh1 = 0 → ((rI h1 141 1 ≤ 120 - x2 → (zlI M_X10_feed 33 [some (.ref 0), some (.int x1), some (.int x2), some (.int (x2 - 1))] [] h1 Q)) ∧ (¬ (rI h1 141 1 ≤ 120 - x2) → (Q (-4) h1)))) ∧ (vh1 = 0 → (Q (-2) h1))))) : zcI M_X10_feed [.ref 0, .int x1, .int x2] h Q := by
  show zw zNT zNT M_X10_feed 0 [some (.ref 0), some (.int x1), some (.int x2), none] [] h _
  refine z_iload_n (pc := 0) dX10_feed_0 rfl rfl ?_
  refine z_iconst (pc := 1) (v := 1) dX10_feed_1 (by decide) ?_
  refine z_iconst (pc := 2) (v := 4) dX10_feed_2 (by decide) ?_
  refine q_invS (pc := 3) (As := [.int x2, .int 1, .int 4]) (st := []) dX10_feed_3 ok_X10_within ml_RX10_82 st_X10_within pa_X10_within ⟨Nat.le_of_ble_eq_true rfl, Nat.le_of_ble_eq_true rfl⟩ (q_kI F (fun vh1 h1 F => ?_))
  obtain ⟨G1, F⟩ := F
  refine z_if_ne (pc := 6) (tgt := 12) dX10_feed_6 (by decide) (fun k3 => ?_) (fun k3 => ?_)
  · replace F := F.1 k3
    refine z_aload_n (pc := 12) dX10_feed_12 rfl rfl ?_
    refine q_getR (pc := 13) (i := 141) dX10_feed_13 lk_RX10_53 (lyc rfl) (G1 0 8 141 rfl) ?_
    refine q_getI (pc := 16) (v := rI h1 141 1) dX10_feed_16 lk_RX10_301 (lyc rfl) rfl ?_
    refine z_bipush (pc := 19) (v := 120) dX10_feed_19 (by decide) ?_
    refine z_iload_n (pc := 21) dX10_feed_21 rfl rfl ?_
    refine z_isub (pc := 22) dX10_feed_22 ?_
    refine z_icmp_le (pc := 23) (tgt := 29) dX10_feed_23 (by decide) (fun k2 => ?_) (fun k2 => ?_)
    · replace F := F.1 k2
      refine z_iload_n (pc := 29) dX10_feed_29 rfl rfl ?_
      refine z_iconst (pc := 30) (v := 1) dX10_feed_30 (by decide) ?_
      refine z_isub (pc := 31) dX10_feed_31 ?_
      refine z_istore_n (pc := 32) (ls' := [some (.ref 0), some (.int x1), some (.int x2), some (.int (x2 - 1))]) dX10_feed_32 rfl (by decide) rfl ?_
      exact F
    · replace F := F.2 k2
      refine z_bipush (pc := 26) (v := -4) dX10_feed_26 (by decide) ?_
      exact q_retI (pc := 28) dX10_feed_28 rfl F
  · replace F := F.2 k3
    refine z_bipush (pc := 9) (v := -2) dX10_feed_9 (by decide) ?_
    exact q_retI (pc := 11) dX10_feed_11 rfl F
theorem g_X10_feed_33 {x1 : Int32} {x2 : Int32} {x3 : Int32} {h : zHp} {Q : Int32 → zHp → Prop}  (G : zG h) (F : (x3 < 0 → (Q (rI h 141 1) h)) ∧ (¬ (x3 < 0) → (zcV M_X3_append [.ref 141, .int ((Int32.toInt8 (x1 >>> ((8 * x3) &&& 31))).toInt32)] h (fun h1 => zG h1 ∧ (zlI M_X10_feed 33 [some (.ref 0), some (.int x1), some (.int x2), some (.int (x3 + (-1)))] [] h1 Q))))) : zlI M_X10_feed 33 [some (.ref 0), some (.int x1), some (.int x2), some (.int x3)] [] h Q := by
  refine z_iload_n (pc := 33) dX10_feed_33 rfl rfl ?_
  refine z_if_lt (pc := 34) (tgt := 57) dX10_feed_34 (by decide) (fun k2 => ?_) (fun k2 => ?_)
  · replace F := F.1 k2
    refine z_aload_n (pc := 57) dX10_feed_57 rfl rfl ?_
    refine q_getR (pc := 58) (i := 141) dX10_feed_58 lk_RX10_53 (lyc rfl) (G 0 8 141 rfl) ?_
    refine q_getI (pc := 61) (v := rI h 141 1) dX10_feed_61 lk_RX10_301 (lyc rfl) rfl ?_
    exact q_retI (pc := 64) dX10_feed_64 rfl F
  · replace F := F.2 k2
    refine z_aload_n (pc := 37) dX10_feed_37 rfl rfl ?_
    refine q_getR (pc := 38) (i := 141) dX10_feed_38 lk_RX10_53 (lyc rfl) (G 0 8 141 rfl) ?_
    refine z_iload_n (pc := 41) dX10_feed_41 rfl rfl ?_
    refine z_bipush (pc := 42) (v := 8) dX10_feed_42 (by decide) ?_
    refine z_iload_n (pc := 44) dX10_feed_44 rfl rfl ?_
    refine z_imul (pc := 45) dX10_feed_45 ?_
    refine z_ishr (pc := 46) dX10_feed_46 ?_
    refine z_i2b (pc := 47) dX10_feed_47 ?_
    refine q_invV (pc := 48) (As := [.int ((Int32.toInt8 (x1 >>> ((8 * x3) &&& 31))).toInt32)]) (st := []) dX10_feed_48 ok_X3_append ml_RX10_304 iv_X3_append pa_X3_append ⟨Nat.le_of_ble_eq_true rfl, Nat.le_of_ble_eq_true rfl⟩ (lyc rfl) (q_kV F (fun h1 F => ?_))
    obtain ⟨G1, F⟩ := F
    refine z_iinc (pc := 51) (v := x3 + (-1)) (ls' := [some (.ref 0), some (.int x1), some (.int x2), some (.int (x3 + (-1)))]) dX10_feed_51 (by decide) rfl rfl rfl ?_
    refine z_goto (pc := 54) (tgt := 33) dX10_feed_54 (by decide) ?_
    exact F
theorem g_X10_wipe  {h : zHp} {Q : Int32 → zHp → Prop}  (G : zG h) (F : Q (rI h 141 1) (wI h 141 1 0)) : zcI M_X10_wipe [.ref 0] h Q := by
  show zw zNT zNT M_X10_wipe 0 [some (.ref 0), none] [] h _
  refine z_aload_n (pc := 0) dX10_wipe_0 rfl rfl ?_
  refine q_getR (pc := 1) (i := 141) dX10_wipe_1 lk_RX10_53 (lyc rfl) (G 0 8 141 rfl) ?_
  refine q_getI (pc := 4) (v := rI h 141 1) dX10_wipe_4 lk_RX10_301 (lyc rfl) rfl ?_
  refine z_istore_n (pc := 7) (ls' := [some (.ref 0), some (.int (rI h 141 1))]) dX10_wipe_7 rfl (by decide) rfl ?_
  refine z_aload_n (pc := 8) dX10_wipe_8 rfl rfl ?_
  refine q_getR (pc := 9) (i := 141) dX10_wipe_9 lk_RX10_53 (lyc rfl) (G 0 8 141 rfl) ?_
  refine z_iconst (pc := 12) (v := 0) dX10_wipe_12 (by decide) ?_
  refine q_putI (pc := 13) dX10_wipe_13 lk_RX10_301 (lyc rfl) ?_
  refine z_iload_n (pc := 16) dX10_wipe_16 rfl rfl ?_
  exact q_retI (pc := 17) dX10_wipe_17 rfl F
theorem g_X10_seed {x1 : Int32} {h : zHp} {Q : Int32 → zHp → Prop}  (G : zG h) (F : Q (rI h 2 10) (wI h 2 10 x1)) : zcI M_X10_seed [.ref 0, .int x1] h Q := by
  show zw zNT zNT M_X10_seed 0 [some (.ref 0), some (.int x1), none] [] h _
  refine z_aload_n (pc := 0) dX10_seed_0 rfl rfl ?_
  refine q_getR (pc := 1) (i := 2) dX10_seed_1 lk_RX10_20 (lyc rfl) (G 0 1 2 rfl) ?_
  refine q_getI (pc := 4) (v := rI h 2 10) dX10_seed_4 lk_RX10_349 (lyc rfl) rfl ?_
  refine z_istore_n (pc := 7) (ls' := [some (.ref 0), some (.int x1), some (.int (rI h 2 10))]) dX10_seed_7 rfl (by decide) rfl ?_
  refine z_aload_n (pc := 8) dX10_seed_8 rfl rfl ?_
  refine q_getR (pc := 9) (i := 2) dX10_seed_9 lk_RX10_20 (lyc rfl) (G 0 1 2 rfl) ?_
  refine z_iload_n (pc := 12) dX10_seed_12 rfl rfl ?_
  refine q_putI (pc := 13) dX10_seed_13 lk_RX10_349 (lyc rfl) ?_
  refine z_iload_n (pc := 16) dX10_seed_16 rfl rfl ?_
  exact q_retI (pc := 17) dX10_seed_17 rfl F
theorem g_X10_deal {x1 : Int32} {h : zHp} {Q : Int32 → zHp → Prop}  (G : zG h) (F : zcI M_X10_within [.int x1, .int 0, .int 8] h (fun vh1 h1 => zG h1 ∧ ((¬ vh1 = 0 → (zlI M_X10_deal 15 [some (.ref 0), some (.int x1), some (.int 0), none, none, none, none] [] h1 Q)) ∧ (vh1 = 0 → (Q (-2) h1))))) : zcI M_X10_deal [.ref 0, .int x1] h Q := by
  show zw zNT zNT M_X10_deal 0 [some (.ref 0), some (.int x1), none, none, none, none, none] [] h _
  refine z_iload_n (pc := 0) dX10_deal_0 rfl rfl ?_
  refine z_iconst (pc := 1) (v := 0) dX10_deal_1 (by decide) ?_
  refine z_bipush (pc := 2) (v := 8) dX10_deal_2 (by decide) ?_
  refine q_invS (pc := 4) (As := [.int x1, .int 0, .int 8]) (st := []) dX10_deal_4 ok_X10_within ml_RX10_82 st_X10_within pa_X10_within ⟨Nat.le_of_ble_eq_true rfl, Nat.le_of_ble_eq_true rfl⟩ (q_kI F (fun vh1 h1 F => ?_))
  obtain ⟨G1, F⟩ := F
  refine z_if_ne (pc := 7) (tgt := 13) dX10_deal_7 (by decide) (fun k2 => ?_) (fun k2 => ?_)
  · replace F := F.1 k2
    refine z_iconst (pc := 13) (v := 0) dX10_deal_13 (by decide) ?_
    refine z_istore_n (pc := 14) (ls' := [some (.ref 0), some (.int x1), some (.int 0), none, none, none, none]) dX10_deal_14 rfl (by decide) rfl ?_
    exact F
  · replace F := F.2 k2
    refine z_bipush (pc := 10) (v := -2) dX10_deal_10 (by decide) ?_
    exact q_retI (pc := 12) dX10_deal_12 rfl F
theorem g_X10_deal_15 {x1 : Int32} {x2 : Int32} {h : zHp} {Q : Int32 → zHp → Prop}  (G : zG h) (F : (x1 ≤ x2 → (zcV M_X0_settle [.ref 1, .int 0] h (fun h1 => zG h1 ∧ (Q (rI h1 2 1) h1)))) ∧ (¬ (x1 ≤ x2) → ((8 ≤ rI h 2 1 → (zcV M_X0_settle [.ref 1, .int 0] h (fun h2 => zG h2 ∧ (Q (rI h2 2 1) h2)))) ∧ (¬ (8 ≤ rI h 2 1) → (zcI M_X8_draw [.ref 2] h (fun vh3 h3 => zG h3 ∧ (zcI M_X8_draw [.ref 2] h3 (fun vh4 h4 => zG h4 ∧ (zcI M_X8_draw [.ref 2] h4 (fun vh5 h5 => zG h5 ∧ (zcI M_X8_draw [.ref 2] h5 (fun vh6 h6 => zG h6 ∧ (zcV M_X8_addThing [.ref 2, .int (vh3 - vh3 / 2 * 2), .int (vh4 - vh4 / 6 * 6), .int ((vh5 - vh5 / 9 * 9) + 1), .int ((vh6 - vh6 / 9 * 9) + 1)] h6 (fun h7 => zG h7 ∧ (zlI M_X10_deal 15 [some (.ref 0), some (.int x1), some (.int (x2 + 1)), none, none, none, none] [] h7 Q))))))))))))))) : zlI M_X10_deal 15 [some (.ref 0), some (.int x1), some (.int x2), none, none, none, none] [] h Q := by
  refine z_iload_n (pc := 15) dX10_deal_15 rfl rfl ?_
  refine z_iload_n (pc := 16) dX10_deal_16 rfl rfl ?_
  refine z_icmp_ge (pc := 17) (tgt := 102) dX10_deal_17 (by decide) (fun k9 => ?_) (fun k9 => ?_)
  · replace F := F.1 k9
    refine z_aload_n (pc := 102) dX10_deal_102 rfl rfl ?_
    refine q_getR (pc := 103) (i := 1) dX10_deal_103 lk_RX10_10 (lyc rfl) (G 0 0 1 rfl) ?_
    refine z_iconst (pc := 106) (v := 0) dX10_deal_106 (by decide) ?_
    refine q_invV (pc := 107) (As := [.int 0]) (st := []) dX10_deal_107 ok_X0_settle ml_RX10_90 iv_X0_settle pa_X0_settle ⟨Nat.le_of_ble_eq_true rfl, Nat.le_of_ble_eq_true rfl⟩ (lyc rfl) (q_kV F (fun h1 F => ?_))
    obtain ⟨G1, F⟩ := F
    refine z_aload_n (pc := 110) dX10_deal_110 rfl rfl ?_
    refine q_getR (pc := 111) (i := 2) dX10_deal_111 lk_RX10_20 (lyc rfl) (G1 0 1 2 rfl) ?_
    refine q_getI (pc := 114) (v := rI h1 2 1) dX10_deal_114 lk_RX10_68 (lyc rfl) rfl ?_
    exact q_retI (pc := 117) dX10_deal_117 rfl F
  · replace F := F.2 k9
    refine z_aload_n (pc := 20) dX10_deal_20 rfl rfl ?_
    refine q_getR (pc := 21) (i := 2) dX10_deal_21 lk_RX10_20 (lyc rfl) (G 0 1 2 rfl) ?_
    refine q_getI (pc := 24) (v := rI h 2 1) dX10_deal_24 lk_RX10_68 (lyc rfl) rfl ?_
    refine z_bipush (pc := 27) (v := 8) dX10_deal_27 (by decide) ?_
    refine z_icmp_ge (pc := 29) (tgt := 102) dX10_deal_29 (by decide) (fun k8 => ?_) (fun k8 => ?_)
    · replace F := F.1 k8
      refine z_aload_n (pc := 102) dX10_deal_102 rfl rfl ?_
      refine q_getR (pc := 103) (i := 1) dX10_deal_103 lk_RX10_10 (lyc rfl) (G 0 0 1 rfl) ?_
      refine z_iconst (pc := 106) (v := 0) dX10_deal_106 (by decide) ?_
      refine q_invV (pc := 107) (As := [.int 0]) (st := []) dX10_deal_107 ok_X0_settle ml_RX10_90 iv_X0_settle pa_X0_settle ⟨Nat.le_of_ble_eq_true rfl, Nat.le_of_ble_eq_true rfl⟩ (lyc rfl) (q_kV F (fun h2 F => ?_))
      obtain ⟨G2, F⟩ := F
      refine z_aload_n (pc := 110) dX10_deal_110 rfl rfl ?_
      refine q_getR (pc := 111) (i := 2) dX10_deal_111 lk_RX10_20 (lyc rfl) (G2 0 1 2 rfl) ?_
      refine q_getI (pc := 114) (v := rI h2 2 1) dX10_deal_114 lk_RX10_68 (lyc rfl) rfl ?_
      exact q_retI (pc := 117) dX10_deal_117 rfl F
    · replace F := F.2 k8
      refine z_aload_n (pc := 32) dX10_deal_32 rfl rfl ?_
      refine q_getR (pc := 33) (i := 2) dX10_deal_33 lk_RX10_20 (lyc rfl) (G 0 1 2 rfl) ?_
      refine q_invV (pc := 36) (As := []) (st := []) dX10_deal_36 ok_X8_draw ml_RX10_352 iv_X8_draw pa_X8_draw ⟨Nat.le_of_ble_eq_true rfl, Nat.le_of_ble_eq_true rfl⟩ (lyc rfl) (q_kI F (fun vh3 h3 F => ?_))
      obtain ⟨G3, F⟩ := F
      refine z_iconst (pc := 39) (v := 2) dX10_deal_39 (by decide) ?_
      refine z_irem (pc := 40) dX10_deal_40 (by decide) ?_
      refine z_istore_n (pc := 41) (ls' := [some (.ref 0), some (.int x1), some (.int x2), some (.int (vh3 - vh3 / 2 * 2)), none, none, none]) dX10_deal_41 rfl (by decide) rfl ?_
      refine z_aload_n (pc := 42) dX10_deal_42 rfl rfl ?_
      refine q_getR (pc := 43) (i := 2) dX10_deal_43 lk_RX10_20 (lyc rfl) (G3 0 1 2 rfl) ?_
      refine q_invV (pc := 46) (As := []) (st := []) dX10_deal_46 ok_X8_draw ml_RX10_352 iv_X8_draw pa_X8_draw ⟨Nat.le_of_ble_eq_true rfl, Nat.le_of_ble_eq_true rfl⟩ (lyc rfl) (q_kI F (fun vh4 h4 F => ?_))
      obtain ⟨G4, F⟩ := F
      refine z_bipush (pc := 49) (v := 6) dX10_deal_49 (by decide) ?_
      refine z_irem (pc := 51) dX10_deal_51 (by decide) ?_
      refine z_istore (pc := 52) (ls' := [some (.ref 0), some (.int x1), some (.int x2), some (.int (vh3 - vh3 / 2 * 2)), some (.int (vh4 - vh4 / 6 * 6)), none, none]) dX10_deal_52 (by decide) rfl ?_
      refine z_aload_n (pc := 54) dX10_deal_54 rfl rfl ?_
      refine q_getR (pc := 55) (i := 2) dX10_deal_55 lk_RX10_20 (lyc rfl) (G4 0 1 2 rfl) ?_
      refine q_invV (pc := 58) (As := []) (st := []) dX10_deal_58 ok_X8_draw ml_RX10_352 iv_X8_draw pa_X8_draw ⟨Nat.le_of_ble_eq_true rfl, Nat.le_of_ble_eq_true rfl⟩ (lyc rfl) (q_kI F (fun vh5 h5 F => ?_))
      obtain ⟨G5, F⟩ := F
      refine z_bipush (pc := 61) (v := 9) dX10_deal_61 (by decide) ?_
      refine z_irem (pc := 63) dX10_deal_63 (by decide) ?_
      refine z_iconst (pc := 64) (v := 1) dX10_deal_64 (by decide) ?_
      refine z_iadd (pc := 65) dX10_deal_65 ?_
      refine z_istore (pc := 66) (ls' := [some (.ref 0), some (.int x1), some (.int x2), some (.int (vh3 - vh3 / 2 * 2)), some (.int (vh4 - vh4 / 6 * 6)), some (.int ((vh5 - vh5 / 9 * 9) + 1)), none]) dX10_deal_66 (by decide) rfl ?_
      refine z_aload_n (pc := 68) dX10_deal_68 rfl rfl ?_
      refine q_getR (pc := 69) (i := 2) dX10_deal_69 lk_RX10_20 (lyc rfl) (G5 0 1 2 rfl) ?_
      refine q_invV (pc := 72) (As := []) (st := []) dX10_deal_72 ok_X8_draw ml_RX10_352 iv_X8_draw pa_X8_draw ⟨Nat.le_of_ble_eq_true rfl, Nat.le_of_ble_eq_true rfl⟩ (lyc rfl) (q_kI F (fun vh6 h6 F => ?_))
      obtain ⟨G6, F⟩ := F
      refine z_bipush (pc := 75) (v := 9) dX10_deal_75 (by decide) ?_
      refine z_irem (pc := 77) dX10_deal_77 (by decide) ?_
      refine z_iconst (pc := 78) (v := 1) dX10_deal_78 (by decide) ?_
      refine z_iadd (pc := 79) dX10_deal_79 ?_
      refine z_istore (pc := 80) (ls' := [some (.ref 0), some (.int x1), some (.int x2), some (.int (vh3 - vh3 / 2 * 2)), some (.int (vh4 - vh4 / 6 * 6)), some (.int ((vh5 - vh5 / 9 * 9) + 1)), some (.int ((vh6 - vh6 / 9 * 9) + 1))]) dX10_deal_80 (by decide) rfl ?_
      refine z_aload_n (pc := 82) dX10_deal_82 rfl rfl ?_
      refine q_getR (pc := 83) (i := 2) dX10_deal_83 lk_RX10_20 (lyc rfl) (G6 0 1 2 rfl) ?_
      refine z_iload_n (pc := 86) dX10_deal_86 rfl rfl ?_
      refine z_iload (pc := 87) dX10_deal_87 rfl ?_
      refine z_iload (pc := 89) dX10_deal_89 rfl ?_
      refine z_iload (pc := 91) dX10_deal_91 rfl ?_
      refine q_invV (pc := 93) (As := [.int (vh3 - vh3 / 2 * 2), .int (vh4 - vh4 / 6 * 6), .int ((vh5 - vh5 / 9 * 9) + 1), .int ((vh6 - vh6 / 9 * 9) + 1)]) (st := []) dX10_deal_93 ok_X8_addThing ml_RX10_86 iv_X8_addThing pa_X8_addThing ⟨Nat.le_of_ble_eq_true rfl, Nat.le_of_ble_eq_true rfl⟩ (lyc rfl) (q_kV F (fun h7 F => ?_))
      obtain ⟨G7, F⟩ := F
      refine z_iinc (pc := 96) (v := x2 + 1) (ls' := [some (.ref 0), some (.int x1), some (.int (x2 + 1)), some (.int (vh3 - vh3 / 2 * 2)), some (.int (vh4 - vh4 / 6 * 6)), some (.int ((vh5 - vh5 / 9 * 9) + 1)), some (.int ((vh6 - vh6 / 9 * 9) + 1))]) dX10_deal_96 (by decide) rfl rfl rfl ?_
      refine z_goto (pc := 99) (tgt := 15) dX10_deal_99 (by decide) ?_
      exact q_sub (ls' := [some (.ref 0), some (.int x1), some (.int (x2 + 1)), none, none, none, none]) ⟨rfl, rfl, rfl, trivial⟩ F
theorem g_X10_image  {h : zHp} {Q : Int32 → zHp → Prop}  (G : zG h) (F : zcV M_X8_copyFrom [.ref 93, .ref 2] h (fun h1 => zG h1 ∧ (Q (rI h1 2 1) (wI h1 0 5 1)))) : zcI M_X10_image [.ref 0] h Q := by
  show zw zNT zNT M_X10_image 0 [some (.ref 0)] [] h _
  refine z_aload_n (pc := 0) dX10_image_0 rfl rfl ?_
  refine q_getR (pc := 1) (i := 93) dX10_image_1 lk_RX10_34 (lyc rfl) (G 0 4 93 rfl) ?_
  refine z_aload_n (pc := 4) dX10_image_4 rfl rfl ?_
  refine q_getR (pc := 5) (i := 2) dX10_image_5 lk_RX10_20 (lyc rfl) (G 0 1 2 rfl) ?_
  refine q_invV (pc := 8) (As := [.ref 2]) (st := []) dX10_image_8 ok_X8_copyFrom ml_RX10_253 iv_X8_copyFrom pa_X8_copyFrom ⟨Nat.le_of_ble_eq_true rfl, Nat.le_of_ble_eq_true rfl⟩ (lyc rfl) (q_kV F (fun h1 F => ?_))
  obtain ⟨G1, F⟩ := F
  refine z_aload_n (pc := 11) dX10_image_11 rfl rfl ?_
  refine z_iconst (pc := 12) (v := 1) dX10_image_12 (by decide) ?_
  refine q_putB (pc := 13) dX10_image_13 lk_RX10_371 (lyc rfl) (Or.inr rfl) ?_
  refine z_aload_n (pc := 16) dX10_image_16 rfl rfl ?_
  refine q_getR (pc := 17) (i := 2) dX10_image_17 lk_RX10_20 (lyc rfl) (G1 0 1 2 rfl) ?_
  refine q_getI (pc := 20) (v := rI h1 2 1) dX10_image_20 lk_RX10_68 (lyc rfl) (rI_k (by decide)) ?_
  exact q_retI (pc := 23) dX10_image_23 rfl F
theorem g_X10_back  {h : zHp} {Q : Int32 → zHp → Prop}  (G : zG h) (F : (¬ rI h 0 5 = 0 → (zcV M_X8_copyFrom [.ref 2, .ref 93] h (fun h1 => zG h1 ∧ (zcV M_X2_make [.ref 42, .ref 2, .int 5] h1 (fun h2 => zG h2 ∧ (Q (rI h2 2 1) h2)))))) ∧ (rI h 0 5 = 0 → (Q (-3) h))) : zcI M_X10_back [.ref 0] h Q := by
  show zw zNT zNT M_X10_back 0 [some (.ref 0)] [] h _
  refine z_aload_n (pc := 0) dX10_back_0 rfl rfl ?_
  refine q_getI (pc := 1) (v := rI h 0 5) dX10_back_1 lk_RX10_371 (lyc rfl) rfl ?_
  refine z_if_ne (pc := 4) (tgt := 10) dX10_back_4 (by decide) (fun k3 => ?_) (fun k3 => ?_)
  · replace F := F.1 k3
    refine z_aload_n (pc := 10) dX10_back_10 rfl rfl ?_
    refine q_getR (pc := 11) (i := 2) dX10_back_11 lk_RX10_20 (lyc rfl) (G 0 1 2 rfl) ?_
    refine z_aload_n (pc := 14) dX10_back_14 rfl rfl ?_
    refine q_getR (pc := 15) (i := 93) dX10_back_15 lk_RX10_34 (lyc rfl) (G 0 4 93 rfl) ?_
    refine q_invV (pc := 18) (As := [.ref 93]) (st := []) dX10_back_18 ok_X8_copyFrom ml_RX10_253 iv_X8_copyFrom pa_X8_copyFrom ⟨Nat.le_of_ble_eq_true rfl, Nat.le_of_ble_eq_true rfl⟩ (lyc rfl) (q_kV F (fun h1 F => ?_))
    obtain ⟨G1, F⟩ := F
    refine z_aload_n (pc := 21) dX10_back_21 rfl rfl ?_
    refine q_getR (pc := 22) (i := 42) dX10_back_22 lk_RX10_27 (lyc rfl) (G1 0 2 42 rfl) ?_
    refine z_aload_n (pc := 25) dX10_back_25 rfl rfl ?_
    refine q_getR (pc := 26) (i := 2) dX10_back_26 lk_RX10_20 (lyc rfl) (G1 0 1 2 rfl) ?_
    refine z_iconst (pc := 29) (v := 5) dX10_back_29 (by decide) ?_
    refine q_invV (pc := 30) (As := [.ref 2, .int 5]) (st := []) dX10_back_30 ok_X2_make ml_RX10_78 iv_X2_make pa_X2_make ⟨Nat.le_of_ble_eq_true rfl, Nat.le_of_ble_eq_true rfl⟩ (lyc rfl) (q_kV F (fun h2 F => ?_))
    obtain ⟨G2, F⟩ := F
    refine z_aload_n (pc := 33) dX10_back_33 rfl rfl ?_
    refine q_getR (pc := 34) (i := 2) dX10_back_34 lk_RX10_20 (lyc rfl) (G2 0 1 2 rfl) ?_
    refine q_getI (pc := 37) (v := rI h2 2 1) dX10_back_37 lk_RX10_68 (lyc rfl) rfl ?_
    exact q_retI (pc := 40) dX10_back_40 rfl F
  · replace F := F.2 k3
    refine z_bipush (pc := 7) (v := -3) dX10_back_7 (by decide) ?_
    exact q_retI (pc := 9) dX10_back_9 rfl F
theorem g_X10_count {x1 : Int32} {h : zHp} {Q : Int32 → zHp → Prop}  (G : zG h) (F : (x1 = 0 → (Q (rI h 2 1) h)) ∧ (¬ x1 = 0 → ((x1 = 1 → (zcI M_X8_aliveBits [.ref 2] h (fun vh1 h1 => zG h1 ∧ (Q vh1 h1)))) ∧ (¬ x1 = 1 → ((x1 = 2 → (Q (rI h 2 3) h)) ∧ (¬ x1 = 2 → ((x1 = 3 → (Q (rI h 2 5) h)) ∧ (¬ x1 = 3 → ((x1 = 4 → (Q (rI h 2 7) h)) ∧ (¬ x1 = 4 → ((x1 = 5 → (Q (rI h 2 9) h)) ∧ (¬ x1 = 5 → ((x1 = 6 → (Q (rI h 141 1) h)) ∧ (¬ x1 = 6 → ((x1 = 7 → (Q (rI h 2 10) h)) ∧ (¬ x1 = 7 → (Q (-2) h))))))))))))))))) : zcI M_X10_count [.ref 0, .int x1] h Q := by
  show zw zNT zNT M_X10_count 0 [some (.ref 0), some (.int x1)] [] h _
  refine z_iload_n (pc := 0) dX10_count_0 rfl rfl ?_
  by_cases k1 : x1 = 0
  · replace F := F.1 k1
    refine z_tableIn (pc := 1) (x := x1) (tgt := 48) (off := 47) dX10_count_1 (by rw [k1]; decide) (by rw [k1]; decide) (by rw [k1]; decide) (by decide) ?_
    refine z_aload_n (pc := 48) dX10_count_48 rfl rfl ?_
    refine q_getR (pc := 49) (i := 2) dX10_count_49 lk_RX10_20 (lyc rfl) (G 0 1 2 rfl) ?_
    refine q_getI (pc := 52) (v := rI h 2 1) dX10_count_52 lk_RX10_68 (lyc rfl) rfl ?_
    exact q_retI (pc := 55) dX10_count_55 rfl F
  · replace F := F.2 k1
    by_cases k2 : x1 = 1
    · replace F := F.1 k2
      refine z_tableIn (pc := 1) (x := x1) (tgt := 56) (off := 55) dX10_count_1 (by rw [k2]; decide) (by rw [k2]; decide) (by rw [k2]; decide) (by decide) ?_
      refine z_aload_n (pc := 56) dX10_count_56 rfl rfl ?_
      refine q_getR (pc := 57) (i := 2) dX10_count_57 lk_RX10_20 (lyc rfl) (G 0 1 2 rfl) ?_
      refine q_invV (pc := 60) (As := []) (st := []) dX10_count_60 ok_X8_aliveBits ml_RX10_374 iv_X8_aliveBits pa_X8_aliveBits ⟨Nat.le_of_ble_eq_true rfl, Nat.le_of_ble_eq_true rfl⟩ (lyc rfl) (q_kI F (fun vh1 h1 F => ?_))
      obtain ⟨G1, F⟩ := F
      exact q_retI (pc := 63) dX10_count_63 rfl F
    · replace F := F.2 k2
      by_cases k4 : x1 = 2
      · replace F := F.1 k4
        refine z_tableIn (pc := 1) (x := x1) (tgt := 64) (off := 63) dX10_count_1 (by rw [k4]; decide) (by rw [k4]; decide) (by rw [k4]; decide) (by decide) ?_
        refine z_aload_n (pc := 64) dX10_count_64 rfl rfl ?_
        refine q_getR (pc := 65) (i := 2) dX10_count_65 lk_RX10_20 (lyc rfl) (G 0 1 2 rfl) ?_
        refine q_getI (pc := 68) (v := rI h 2 3) dX10_count_68 lk_RX10_161 (lyc rfl) rfl ?_
        exact q_retI (pc := 71) dX10_count_71 rfl F
      · replace F := F.2 k4
        by_cases k5 : x1 = 3
        · replace F := F.1 k5
          refine z_tableIn (pc := 1) (x := x1) (tgt := 72) (off := 71) dX10_count_1 (by rw [k5]; decide) (by rw [k5]; decide) (by rw [k5]; decide) (by decide) ?_
          refine z_aload_n (pc := 72) dX10_count_72 rfl rfl ?_
          refine q_getR (pc := 73) (i := 2) dX10_count_73 lk_RX10_20 (lyc rfl) (G 0 1 2 rfl) ?_
          refine q_getI (pc := 76) (v := rI h 2 5) dX10_count_76 lk_RX10_205 (lyc rfl) rfl ?_
          exact q_retI (pc := 79) dX10_count_79 rfl F
        · replace F := F.2 k5
          by_cases k6 : x1 = 4
          · replace F := F.1 k6
            refine z_tableIn (pc := 1) (x := x1) (tgt := 80) (off := 79) dX10_count_1 (by rw [k6]; decide) (by rw [k6]; decide) (by rw [k6]; decide) (by decide) ?_
            refine z_aload_n (pc := 80) dX10_count_80 rfl rfl ?_
            refine q_getR (pc := 81) (i := 2) dX10_count_81 lk_RX10_20 (lyc rfl) (G 0 1 2 rfl) ?_
            refine q_getI (pc := 84) (v := rI h 2 7) dX10_count_84 lk_RX10_231 (lyc rfl) rfl ?_
            exact q_retI (pc := 87) dX10_count_87 rfl F
          · replace F := F.2 k6
            by_cases k7 : x1 = 5
            · replace F := F.1 k7
              refine z_tableIn (pc := 1) (x := x1) (tgt := 88) (off := 87) dX10_count_1 (by rw [k7]; decide) (by rw [k7]; decide) (by rw [k7]; decide) (by decide) ?_
              refine z_aload_n (pc := 88) dX10_count_88 rfl rfl ?_
              refine q_getR (pc := 89) (i := 2) dX10_count_89 lk_RX10_20 (lyc rfl) (G 0 1 2 rfl) ?_
              refine q_getI (pc := 92) (v := rI h 2 9) dX10_count_92 lk_RX10_292 (lyc rfl) rfl ?_
              exact q_retI (pc := 95) dX10_count_95 rfl F
            · replace F := F.2 k7
              by_cases k8 : x1 = 6
              · replace F := F.1 k8
                refine z_tableIn (pc := 1) (x := x1) (tgt := 96) (off := 95) dX10_count_1 (by rw [k8]; decide) (by rw [k8]; decide) (by rw [k8]; decide) (by decide) ?_
                refine z_aload_n (pc := 96) dX10_count_96 rfl rfl ?_
                refine q_getR (pc := 97) (i := 141) dX10_count_97 lk_RX10_53 (lyc rfl) (G 0 8 141 rfl) ?_
                refine q_getI (pc := 100) (v := rI h 141 1) dX10_count_100 lk_RX10_301 (lyc rfl) rfl ?_
                exact q_retI (pc := 103) dX10_count_103 rfl F
              · replace F := F.2 k8
                by_cases k9 : x1 = 7
                · replace F := F.1 k9
                  refine z_tableIn (pc := 1) (x := x1) (tgt := 104) (off := 103) dX10_count_1 (by rw [k9]; decide) (by rw [k9]; decide) (by rw [k9]; decide) (by decide) ?_
                  refine z_aload_n (pc := 104) dX10_count_104 rfl rfl ?_
                  refine q_getR (pc := 105) (i := 2) dX10_count_105 lk_RX10_20 (lyc rfl) (G 0 1 2 rfl) ?_
                  refine q_getI (pc := 108) (v := rI h 2 10) dX10_count_108 lk_RX10_349 (lyc rfl) rfl ?_
                  exact q_retI (pc := 111) dX10_count_111 rfl F
                · replace F := F.2 k9
                  have hz0 := q_sw (0) k1 (by decide)
                  have hz1 := q_sw (1) k2 (by decide)
                  have hz2 := q_sw (2) k4 (by decide)
                  have hz3 := q_sw (3) k5 (by decide)
                  have hz4 := q_sw (4) k6 (by decide)
                  have hz5 := q_sw (5) k7 (by decide)
                  have hz6 := q_sw (6) k8 (by decide)
                  have hz7 := q_sw (7) k9 (by decide)
                  refine z_tableOut (pc := 1) (tgt := 112) dX10_count_1 (by omega) (by decide) ?_
                  refine z_bipush (pc := 112) (v := -2) dX10_count_112 (by decide) ?_
                  exact q_retI (pc := 114) dX10_count_114 rfl F
theorem g_X10_refuseLoop {x1 : Int32} {h : zHp} {Q : Int32 → zHp → Prop}  (G : zG h) (F : (x1 = -5 → (zAc 0 0 40 40 40 ∧ (zcV M_X8_copyFrom [.ref 2, .ref 53] (wC (wI h 0 11 40) 52 (Int32.toNatClampNeg 0) 155 (Int32.toNatClampNeg 0) (Int32.toNatClampNeg 40)) (fun h1 => zG h1 ∧ (zcV M_X2_make [.ref 42, .ref 2, .int 5] h1 (fun h2 => zG h2 ∧ (Q (-5) h2))))))) ∧ (¬ (x1 = -5) → (Q x1 h))) : zcI M_X10_refuseLoop [.ref 0, .int x1] h Q := by
  show zw zNT zNT M_X10_refuseLoop 0 [some (.ref 0), some (.int x1)] [] h _
  refine z_iload_n (pc := 0) dX10_refuseLoop_0 rfl rfl ?_
  refine z_bipush (pc := 1) (v := -5) dX10_refuseLoop_1 (by decide) ?_
  refine z_icmp_eq (pc := 3) (tgt := 8) dX10_refuseLoop_3 (by decide) (fun k4 => ?_) (fun k4 => ?_)
  · replace F := F.1 k4
    refine z_aload_n (pc := 8) dX10_refuseLoop_8 rfl rfl ?_
    refine z_bipush (pc := 9) (v := 40) dX10_refuseLoop_9 (by decide) ?_
    refine q_putI (pc := 11) dX10_refuseLoop_11 lk_RX10_75 (lyc rfl) ?_
    refine z_aload_n (pc := 14) dX10_refuseLoop_14 rfl rfl ?_
    refine q_getR (pc := 15) (i := 1) dX10_refuseLoop_15 lk_RX10_10 (lyc rfl) (G 0 0 1 rfl) ?_
    refine q_getR (pc := 18) (i := 52) dX10_refuseLoop_18 lk_RX10_377 (lyc rfl) (G 1 6 52 rfl) ?_
    refine z_iconst (pc := 21) (v := 0) dX10_refuseLoop_21 (by decide) ?_
    refine z_aload_n (pc := 22) dX10_refuseLoop_22 rfl rfl ?_
    refine q_getR (pc := 23) (i := 155) dX10_refuseLoop_23 lk_RX10_63 (lyc rfl) (G 0 10 155 rfl) ?_
    refine z_iconst (pc := 26) (v := 0) dX10_refuseLoop_26 (by decide) ?_
    refine z_bipush (pc := 27) (v := 40) dX10_refuseLoop_27 (by decide) ?_
    obtain ⟨k3, F⟩ := F
    refine q_copy (pc := 29) dX10_refuseLoop_29 ⟨pl_RX10_365, pw_acN, pw_acS, pw_Sys⟩ (lyc rfl) (lyc rfl) (lnc rfl) (lnc rfl) k3 ?_
    refine z_aload_n (pc := 32) dX10_refuseLoop_32 rfl rfl ?_
    refine q_getR (pc := 33) (i := 2) dX10_refuseLoop_33 lk_RX10_20 (lyc rfl) (G 0 1 2 rfl) ?_
    refine z_aload_n (pc := 36) dX10_refuseLoop_36 rfl rfl ?_
    refine q_getR (pc := 37) (i := 53) dX10_refuseLoop_37 lk_RX10_31 (lyc rfl) (G 0 3 53 rfl) ?_
    refine q_invV (pc := 40) (As := [.ref 53]) (st := []) dX10_refuseLoop_40 ok_X8_copyFrom ml_RX10_253 iv_X8_copyFrom pa_X8_copyFrom ⟨Nat.le_of_ble_eq_true rfl, Nat.le_of_ble_eq_true rfl⟩ (lyc rfl) (q_kV F (fun h1 F => ?_))
    obtain ⟨G1, F⟩ := F
    refine z_aload_n (pc := 43) dX10_refuseLoop_43 rfl rfl ?_
    refine q_getR (pc := 44) (i := 42) dX10_refuseLoop_44 lk_RX10_27 (lyc rfl) (G1 0 2 42 rfl) ?_
    refine z_aload_n (pc := 47) dX10_refuseLoop_47 rfl rfl ?_
    refine q_getR (pc := 48) (i := 2) dX10_refuseLoop_48 lk_RX10_20 (lyc rfl) (G1 0 1 2 rfl) ?_
    refine z_iconst (pc := 51) (v := 5) dX10_refuseLoop_51 (by decide) ?_
    refine q_invV (pc := 52) (As := [.ref 2, .int 5]) (st := []) dX10_refuseLoop_52 ok_X2_make ml_RX10_78 iv_X2_make pa_X2_make ⟨Nat.le_of_ble_eq_true rfl, Nat.le_of_ble_eq_true rfl⟩ (lyc rfl) (q_kV F (fun h2 F => ?_))
    obtain ⟨G2, F⟩ := F
    refine z_bipush (pc := 55) (v := -5) dX10_refuseLoop_55 (by decide) ?_
    exact q_retI (pc := 57) dX10_refuseLoop_57 rfl F
  · replace F := F.2 k4
    refine z_iload_n (pc := 6) dX10_refuseLoop_6 rfl rfl ?_
    exact q_retI (pc := 7) dX10_refuseLoop_7 rfl F
theorem g_X10_within {x0 : Int32} {x1 : Int32} {x2 : Int32} {h : zHp} {Q : Int32 → zHp → Prop}  (G : zG h) (F : (x0 < x1 → (Q 0 h)) ∧ (¬ (x0 < x1) → ((x2 < x0 → (Q 0 h)) ∧ (¬ (x2 < x0) → (Q 1 h))))) : zcI M_X10_within [.int x0, .int x1, .int x2] h Q := by
  show zw zNT zNT M_X10_within 0 [some (.int x0), some (.int x1), some (.int x2)] [] h _
  refine z_iload_n (pc := 0) dX10_within_0 rfl rfl ?_
  refine z_iload_n (pc := 1) dX10_within_1 rfl rfl ?_
  refine z_icmp_lt (pc := 2) (tgt := 14) dX10_within_2 (by decide) (fun k2 => ?_) (fun k2 => ?_)
  · replace F := F.1 k2
    refine z_iconst (pc := 14) (v := 0) dX10_within_14 (by decide) ?_
    exact q_retB (pc := 15) dX10_within_15 rfl (Or.inl rfl) F
  · replace F := F.2 k2
    refine z_iload_n (pc := 5) dX10_within_5 rfl rfl ?_
    refine z_iload_n (pc := 6) dX10_within_6 rfl rfl ?_
    refine z_icmp_gt (pc := 7) (tgt := 14) dX10_within_7 (by decide) (fun k1 => ?_) (fun k1 => ?_)
    · replace F := F.1 k1
      refine z_iconst (pc := 14) (v := 0) dX10_within_14 (by decide) ?_
      exact q_retB (pc := 15) dX10_within_15 rfl (Or.inl rfl) F
    · replace F := F.2 k1
      refine z_iconst (pc := 10) (v := 1) dX10_within_10 (by decide) ?_
      refine z_goto (pc := 11) (tgt := 15) dX10_within_11 (by decide) ?_
      exact q_retB (pc := 15) dX10_within_15 rfl (Or.inr rfl) F
theorem g_X10_isScope {x0 : Int32} {x1 : Int32} {h : zHp} {Q : Int32 → zHp → Prop}  (G : zG h) (F : zcI M_X10_within [.int x0, .int 0, .int 5] h (fun vh1 h1 => zG h1 ∧ ((¬ vh1 = 0 → ((x0 = 0 → (Q 1 h1)) ∧ (¬ (x0 = 0) → (vp_in x0 6 ∧ (zcI M_X10_within [.int x1, .int 0, .int (zMX (Int32.toNatClampNeg x0))] h1 (fun vh2 h2 => zG h2 ∧ ((vh2 = 0 → (Q 0 h2)) ∧ (¬ (vh2 = 0) → (Q 1 h2))))))))) ∧ (vh1 = 0 → (Q 0 h1))))) : zcI M_X10_isScope [.int x0, .int x1] h Q := by
  show zw zNT zNT M_X10_isScope 0 [some (.int x0), some (.int x1)] [] h _
  refine z_iload_n (pc := 0) dX10_isScope_0 rfl rfl ?_
  refine z_iconst (pc := 1) (v := 0) dX10_isScope_1 (by decide) ?_
  refine z_iconst (pc := 2) (v := 5) dX10_isScope_2 (by decide) ?_
  refine q_invS (pc := 3) (As := [.int x0, .int 0, .int 5]) (st := []) dX10_isScope_3 ok_X10_within ml_RX10_82 st_X10_within pa_X10_within ⟨Nat.le_of_ble_eq_true rfl, Nat.le_of_ble_eq_true rfl⟩ (q_kI F (fun vh1 h1 F => ?_))
  obtain ⟨G1, F⟩ := F
  refine z_if_ne (pc := 6) (tgt := 11) dX10_isScope_6 (by decide) (fun k6 => ?_) (fun k6 => ?_)
  · replace F := F.1 k6
    refine z_iload_n (pc := 11) dX10_isScope_11 rfl rfl ?_
    refine z_if_eq (pc := 12) (tgt := 28) dX10_isScope_12 (by decide) (fun k5 => ?_) (fun k5 => ?_)
    · replace F := F.1 k5
      refine z_iconst (pc := 28) (v := 1) dX10_isScope_28 (by decide) ?_
      refine z_goto (pc := 29) (tgt := 33) dX10_isScope_29 (by decide) ?_
      exact q_retB (pc := 33) dX10_isScope_33 rfl (Or.inr rfl) F
    · replace F := F.2 k5
      refine z_iload_n (pc := 15) dX10_isScope_15 rfl rfl ?_
      refine z_iconst (pc := 16) (v := 0) dX10_isScope_16 (by decide) ?_
      refine z_gs (pc := 17) dX10_isScope_17 fl_RX10_380 ?_
      refine z_iload_n (pc := 20) dX10_isScope_20 rfl rfl ?_
      obtain ⟨k2, F⟩ := F
      refine z_ldMX (pc := 21) dX10_isScope_21 k2 rfl ?_
      refine q_invS (pc := 22) (As := [.int x1, .int 0, .int (zMX (Int32.toNatClampNeg x0))]) (st := []) dX10_isScope_22 ok_X10_within ml_RX10_82 st_X10_within pa_X10_within ⟨Nat.le_of_ble_eq_true rfl, Nat.le_of_ble_eq_true rfl⟩ (q_kI F (fun vh2 h2 F => ?_))
      obtain ⟨G2, F⟩ := F
      refine z_if_eq (pc := 25) (tgt := 32) dX10_isScope_25 (by decide) (fun k4 => ?_) (fun k4 => ?_)
      · replace F := F.1 k4
        refine z_iconst (pc := 32) (v := 0) dX10_isScope_32 (by decide) ?_
        exact q_retB (pc := 33) dX10_isScope_33 rfl (Or.inl rfl) F
      · replace F := F.2 k4
        refine z_iconst (pc := 28) (v := 1) dX10_isScope_28 (by decide) ?_
        refine z_goto (pc := 29) (tgt := 33) dX10_isScope_29 (by decide) ?_
        exact q_retB (pc := 33) dX10_isScope_33 rfl (Or.inr rfl) F
  · replace F := F.2 k6
    refine z_iconst (pc := 9) (v := 0) dX10_isScope_9 (by decide) ?_
    exact q_retB (pc := 10) dX10_isScope_10 rfl (Or.inl rfl) F
theorem g_X10_fitsBase {x0 : Int32} {x1 : Int32} {h : zHp} {Q : Int32 → zHp → Prop}  (G : zG h) (F : (x0 = 1 → (zcI M_X10_within [.int x1, .int 0, .int 5] h (fun vh1 h1 => zG h1 ∧ (zB vh1 ∧ Q vh1 h1)))) ∧ (¬ x0 = 1 → ((x0 = 2 → (zcI M_X10_within [.int x1, .int 0, .int 99] h (fun vh2 h2 => zG h2 ∧ (zB vh2 ∧ Q vh2 h2)))) ∧ (¬ x0 = 2 → ((x0 = 3 → (zcI M_X10_within [.int x1, .int 0, .int 99] h (fun vh3 h3 => zG h3 ∧ (zB vh3 ∧ Q vh3 h3)))) ∧ (¬ x0 = 3 → ((x0 = 4 → (zcI M_X10_within [.int x1, .int 0, .int 999] h (fun vh4 h4 => zG h4 ∧ (zB vh4 ∧ Q vh4 h4)))) ∧ (¬ x0 = 4 → (Q 0 h))))))))) : zcI M_X10_fitsBase [.int x0, .int x1] h Q := by
  show zw zNT zNT M_X10_fitsBase 0 [some (.int x0), some (.int x1)] [] h _
  refine z_iload_n (pc := 0) dX10_fitsBase_0 rfl rfl ?_
  by_cases k1 : x0 = 1
  · replace F := F.1 k1
    refine z_tableIn (pc := 1) (x := x0) (tgt := 32) (off := 31) dX10_fitsBase_1 (by rw [k1]; decide) (by rw [k1]; decide) (by rw [k1]; decide) (by decide) ?_
    refine z_iload_n (pc := 32) dX10_fitsBase_32 rfl rfl ?_
    refine z_iconst (pc := 33) (v := 0) dX10_fitsBase_33 (by decide) ?_
    refine z_iconst (pc := 34) (v := 5) dX10_fitsBase_34 (by decide) ?_
    refine q_invS (pc := 35) (As := [.int x1, .int 0, .int 5]) (st := []) dX10_fitsBase_35 ok_X10_within ml_RX10_82 st_X10_within pa_X10_within ⟨Nat.le_of_ble_eq_true rfl, Nat.le_of_ble_eq_true rfl⟩ (q_kI F (fun vh1 h1 F => ?_))
    obtain ⟨G1, F⟩ := F
    exact q_retB (pc := 38) dX10_fitsBase_38 rfl F.1 F.2
  · replace F := F.2 k1
    by_cases k3 : x0 = 2
    · replace F := F.1 k3
      refine z_tableIn (pc := 1) (x := x0) (tgt := 39) (off := 38) dX10_fitsBase_1 (by rw [k3]; decide) (by rw [k3]; decide) (by rw [k3]; decide) (by decide) ?_
      refine z_iload_n (pc := 39) dX10_fitsBase_39 rfl rfl ?_
      refine z_iconst (pc := 40) (v := 0) dX10_fitsBase_40 (by decide) ?_
      refine z_bipush (pc := 41) (v := 99) dX10_fitsBase_41 (by decide) ?_
      refine q_invS (pc := 43) (As := [.int x1, .int 0, .int 99]) (st := []) dX10_fitsBase_43 ok_X10_within ml_RX10_82 st_X10_within pa_X10_within ⟨Nat.le_of_ble_eq_true rfl, Nat.le_of_ble_eq_true rfl⟩ (q_kI F (fun vh2 h2 F => ?_))
      obtain ⟨G2, F⟩ := F
      exact q_retB (pc := 46) dX10_fitsBase_46 rfl F.1 F.2
    · replace F := F.2 k3
      by_cases k5 : x0 = 3
      · replace F := F.1 k5
        refine z_tableIn (pc := 1) (x := x0) (tgt := 47) (off := 46) dX10_fitsBase_1 (by rw [k5]; decide) (by rw [k5]; decide) (by rw [k5]; decide) (by decide) ?_
        refine z_iload_n (pc := 47) dX10_fitsBase_47 rfl rfl ?_
        refine z_iconst (pc := 48) (v := 0) dX10_fitsBase_48 (by decide) ?_
        refine z_bipush (pc := 49) (v := 99) dX10_fitsBase_49 (by decide) ?_
        refine q_invS (pc := 51) (As := [.int x1, .int 0, .int 99]) (st := []) dX10_fitsBase_51 ok_X10_within ml_RX10_82 st_X10_within pa_X10_within ⟨Nat.le_of_ble_eq_true rfl, Nat.le_of_ble_eq_true rfl⟩ (q_kI F (fun vh3 h3 F => ?_))
        obtain ⟨G3, F⟩ := F
        exact q_retB (pc := 54) dX10_fitsBase_54 rfl F.1 F.2
      · replace F := F.2 k5
        by_cases k7 : x0 = 4
        · replace F := F.1 k7
          refine z_tableIn (pc := 1) (x := x0) (tgt := 55) (off := 54) dX10_fitsBase_1 (by rw [k7]; decide) (by rw [k7]; decide) (by rw [k7]; decide) (by decide) ?_
          refine z_iload_n (pc := 55) dX10_fitsBase_55 rfl rfl ?_
          refine z_iconst (pc := 56) (v := 0) dX10_fitsBase_56 (by decide) ?_
          refine z_sipush (pc := 57) (v := 999) dX10_fitsBase_57 (by decide) ?_
          refine q_invS (pc := 60) (As := [.int x1, .int 0, .int 999]) (st := []) dX10_fitsBase_60 ok_X10_within ml_RX10_82 st_X10_within pa_X10_within ⟨Nat.le_of_ble_eq_true rfl, Nat.le_of_ble_eq_true rfl⟩ (q_kI F (fun vh4 h4 F => ?_))
          obtain ⟨G4, F⟩ := F
          exact q_retB (pc := 63) dX10_fitsBase_63 rfl F.1 F.2
        · replace F := F.2 k7
          have hz0 := q_sw (1) k1 (by decide)
          have hz1 := q_sw (2) k3 (by decide)
          have hz2 := q_sw (3) k5 (by decide)
          have hz3 := q_sw (4) k7 (by decide)
          refine z_tableOut (pc := 1) (tgt := 64) dX10_fitsBase_1 (by omega) (by decide) ?_
          refine z_iconst (pc := 64) (v := 0) dX10_fitsBase_64 (by decide) ?_
          exact q_retB (pc := 65) dX10_fitsBase_65 rfl (Or.inl rfl) F
theorem g_X10_fitsEffect {x0 : Int32} {x1 : Int32} {h : zHp} {Q : Int32 → zHp → Prop}  (G : zG h) (F : (2 < x0 → (zcI M_X10_within [.int x1, .int (-9), .int 9] h (fun vh1 h1 => zG h1 ∧ (zB vh1 ∧ Q vh1 h1)))) ∧ (¬ (2 < x0) → (zcI M_X10_within [.int x1, .int 0, .int 5] h (fun vh2 h2 => zG h2 ∧ (zB vh2 ∧ Q vh2 h2))))) : zcI M_X10_fitsEffect [.int x0, .int x1] h Q := by
  show zw zNT zNT M_X10_fitsEffect 0 [some (.int x0), some (.int x1)] [] h _
  refine z_iload_n (pc := 0) dX10_fitsEffect_0 rfl rfl ?_
  refine z_iconst (pc := 1) (v := 2) dX10_fitsEffect_1 (by decide) ?_
  refine z_icmp_gt (pc := 2) (tgt := 14) dX10_fitsEffect_2 (by decide) (fun k3 => ?_) (fun k3 => ?_)
  · replace F := F.1 k3
    refine z_iload_n (pc := 14) dX10_fitsEffect_14 rfl rfl ?_
    refine z_bipush (pc := 15) (v := -9) dX10_fitsEffect_15 (by decide) ?_
    refine z_bipush (pc := 17) (v := 9) dX10_fitsEffect_17 (by decide) ?_
    refine q_invS (pc := 19) (As := [.int x1, .int (-9), .int 9]) (st := []) dX10_fitsEffect_19 ok_X10_within ml_RX10_82 st_X10_within pa_X10_within ⟨Nat.le_of_ble_eq_true rfl, Nat.le_of_ble_eq_true rfl⟩ (q_kI F (fun vh1 h1 F => ?_))
    obtain ⟨G1, F⟩ := F
    exact q_retB (pc := 22) dX10_fitsEffect_22 rfl F.1 F.2
  · replace F := F.2 k3
    refine z_iload_n (pc := 5) dX10_fitsEffect_5 rfl rfl ?_
    refine z_iconst (pc := 6) (v := 0) dX10_fitsEffect_6 (by decide) ?_
    refine z_iconst (pc := 7) (v := 5) dX10_fitsEffect_7 (by decide) ?_
    refine q_invS (pc := 8) (As := [.int x1, .int 0, .int 5]) (st := []) dX10_fitsEffect_8 ok_X10_within ml_RX10_82 st_X10_within pa_X10_within ⟨Nat.le_of_ble_eq_true rfl, Nat.le_of_ble_eq_true rfl⟩ (q_kI F (fun vh2 h2 F => ?_))
    obtain ⟨G2, F⟩ := F
    refine z_goto (pc := 11) (tgt := 22) dX10_fitsEffect_11 (by decide) ?_
    exact q_retB (pc := 22) dX10_fitsEffect_22 rfl F.1 F.2
theorem g_X10_scopeWord {x0 : Int32} {h : zHp} {Q : Nat → zHp → Prop}  (G : zG h) (F : (x0 = 0 → (Q (1010 + 0) h)) ∧ (¬ x0 = 0 → ((x0 = 1 → (Q (1010 + 1) h)) ∧ (¬ x0 = 1 → ((x0 = 2 → (Q (1010 + 2) h)) ∧ (¬ x0 = 2 → ((x0 = 3 → (Q (1010 + 3) h)) ∧ (¬ x0 = 3 → ((x0 = 4 → (Q (1010 + 4) h)) ∧ (¬ x0 = 4 → (Q (1010 + 5) h))))))))))) : zcR M_X10_scopeWord [.int x0] h Q := by
  show zw zNT zNT M_X10_scopeWord 0 [some (.int x0)] [] h _
  refine z_iload_n (pc := 0) dX10_scopeWord_0 rfl rfl ?_
  by_cases k1 : x0 = 0
  · replace F := F.1 k1
    refine z_tableIn (pc := 1) (x := x0) (tgt := 36) (off := 35) dX10_scopeWord_1 (by rw [k1]; decide) (by rw [k1]; decide) (by rw [k1]; decide) (by decide) ?_
    refine z_ldcwS (pc := 36) (i := 0) (tx := "all") dX10_scopeWord_36 (List.mem_of_getElem? (i := 0) rfl) (by decide) ?_
    exact q_retR (pc := 39) dX10_scopeWord_39 rfl F
  · replace F := F.2 k1
    by_cases k2 : x0 = 1
    · replace F := F.1 k2
      refine z_tableIn (pc := 1) (x := x0) (tgt := 40) (off := 39) dX10_scopeWord_1 (by rw [k2]; decide) (by rw [k2]; decide) (by rw [k2]; decide) (by decide) ?_
      refine z_ldcwS (pc := 40) (i := 1) (tx := "owner") dX10_scopeWord_40 (List.mem_of_getElem? (i := 1) rfl) (by decide) ?_
      exact q_retR (pc := 43) dX10_scopeWord_43 rfl F
    · replace F := F.2 k2
      by_cases k3 : x0 = 2
      · replace F := F.1 k3
        refine z_tableIn (pc := 1) (x := x0) (tgt := 44) (off := 43) dX10_scopeWord_1 (by rw [k3]; decide) (by rw [k3]; decide) (by rw [k3]; decide) (by decide) ?_
        refine z_ldcwS (pc := 44) (i := 2) (tx := "type") dX10_scopeWord_44 (List.mem_of_getElem? (i := 2) rfl) (by decide) ?_
        exact q_retR (pc := 47) dX10_scopeWord_47 rfl F
      · replace F := F.2 k3
        by_cases k4 : x0 = 3
        · replace F := F.1 k4
          refine z_tableIn (pc := 1) (x := x0) (tgt := 48) (off := 47) dX10_scopeWord_1 (by rw [k4]; decide) (by rw [k4]; decide) (by rw [k4]; decide) (by decide) ?_
          refine z_ldcwS (pc := 48) (i := 3) (tx := "with") dX10_scopeWord_48 (List.mem_of_getElem? (i := 3) rfl) (by decide) ?_
          exact q_retR (pc := 51) dX10_scopeWord_51 rfl F
        · replace F := F.2 k4
          by_cases k5 : x0 = 4
          · replace F := F.1 k5
            refine z_tableIn (pc := 1) (x := x0) (tgt := 52) (off := 51) dX10_scopeWord_1 (by rw [k5]; decide) (by rw [k5]; decide) (by rw [k5]; decide) (by decide) ?_
            refine z_ldcwS (pc := 52) (i := 4) (tx := "without") dX10_scopeWord_52 (List.mem_of_getElem? (i := 4) rfl) (by decide) ?_
            exact q_retR (pc := 55) dX10_scopeWord_55 rfl F
          · replace F := F.2 k5
            have hz0 := q_sw (0) k1 (by decide)
            have hz1 := q_sw (1) k2 (by decide)
            have hz2 := q_sw (2) k3 (by decide)
            have hz3 := q_sw (3) k4 (by decide)
            have hz4 := q_sw (4) k5 (by decide)
            refine z_tableOut (pc := 1) (tgt := 56) dX10_scopeWord_1 (by omega) (by decide) ?_
            refine z_ldcwS (pc := 56) (i := 5) (tx := "thing") dX10_scopeWord_56 (List.mem_of_getElem? (i := 5) rfl) (by decide) ?_
            exact q_retR (pc := 59) dX10_scopeWord_59 rfl F
theorem g_X10_deedWord {x0 : Int32} {h : zHp} {Q : Nat → zHp → Prop}  (G : zG h) (F : (x0 = 0 → (Q (1010 + 6) h)) ∧ (¬ x0 = 0 → ((x0 = 1 → (Q (1010 + 7) h)) ∧ (¬ x0 = 1 → ((x0 = 2 → (Q (1010 + 8) h)) ∧ (¬ x0 = 2 → ((x0 = 3 → (Q (1010 + 9) h)) ∧ (¬ x0 = 3 → ((x0 = 4 → (Q (1010 + 10) h)) ∧ (¬ x0 = 4 → (Q (1010 + 11) h))))))))))) : zcR M_X10_deedWord [.int x0] h Q := by
  show zw zNT zNT M_X10_deedWord 0 [some (.int x0)] [] h _
  refine z_iload_n (pc := 0) dX10_deedWord_0 rfl rfl ?_
  by_cases k1 : x0 = 0
  · replace F := F.1 k1
    refine z_tableIn (pc := 1) (x := x0) (tgt := 36) (off := 35) dX10_deedWord_1 (by rw [k1]; decide) (by rw [k1]; decide) (by rw [k1]; decide) (by decide) ?_
    refine z_ldcwS (pc := 36) (i := 6) (tx := "is") dX10_deedWord_36 (List.mem_of_getElem? (i := 6) rfl) (by decide) ?_
    exact q_retR (pc := 39) dX10_deedWord_39 rfl F
  · replace F := F.2 k1
    by_cases k2 : x0 = 1
    · replace F := F.1 k2
      refine z_tableIn (pc := 1) (x := x0) (tgt := 40) (off := 39) dX10_deedWord_1 (by rw [k2]; decide) (by rw [k2]; decide) (by rw [k2]; decide) (by decide) ?_
      refine z_ldcwS (pc := 40) (i := 7) (tx := "gains") dX10_deedWord_40 (List.mem_of_getElem? (i := 7) rfl) (by decide) ?_
      exact q_retR (pc := 43) dX10_deedWord_43 rfl F
    · replace F := F.2 k2
      by_cases k3 : x0 = 2
      · replace F := F.1 k3
        refine z_tableIn (pc := 1) (x := x0) (tgt := 44) (off := 43) dX10_deedWord_1 (by rw [k3]; decide) (by rw [k3]; decide) (by rw [k3]; decide) (by decide) ?_
        refine z_ldcwS (pc := 44) (i := 8) (tx := "loses") dX10_deedWord_44 (List.mem_of_getElem? (i := 8) rfl) (by decide) ?_
        exact q_retR (pc := 47) dX10_deedWord_47 rfl F
      · replace F := F.2 k3
        by_cases k4 : x0 = 3
        · replace F := F.1 k4
          refine z_tableIn (pc := 1) (x := x0) (tgt := 48) (off := 47) dX10_deedWord_1 (by rw [k4]; decide) (by rw [k4]; decide) (by rw [k4]; decide) (by decide) ?_
          refine z_ldcwS (pc := 48) (i := 9) (tx := "sets") dX10_deedWord_48 (List.mem_of_getElem? (i := 9) rfl) (by decide) ?_
          exact q_retR (pc := 51) dX10_deedWord_51 rfl F
        · replace F := F.2 k4
          by_cases k5 : x0 = 4
          · replace F := F.1 k5
            refine z_tableIn (pc := 1) (x := x0) (tgt := 52) (off := 51) dX10_deedWord_1 (by rw [k5]; decide) (by rw [k5]; decide) (by rw [k5]; decide) (by decide) ?_
            refine z_ldcwS (pc := 52) (i := 10) (tx := "gets") dX10_deedWord_52 (List.mem_of_getElem? (i := 10) rfl) (by decide) ?_
            exact q_retR (pc := 55) dX10_deedWord_55 rfl F
          · replace F := F.2 k5
            have hz0 := q_sw (0) k1 (by decide)
            have hz1 := q_sw (1) k2 (by decide)
            have hz2 := q_sw (2) k3 (by decide)
            have hz3 := q_sw (3) k4 (by decide)
            have hz4 := q_sw (4) k5 (by decide)
            refine z_tableOut (pc := 1) (tgt := 56) dX10_deedWord_1 (by omega) (by decide) ?_
            refine z_ldcwS (pc := 56) (i := 11) (tx := "swaps") dX10_deedWord_56 (List.mem_of_getElem? (i := 11) rfl) (by decide) ?_
            exact q_retR (pc := 59) dX10_deedWord_59 rfl F
theorem g_X11_in {x0 : Int32} {x1 : Int32} {x2 : Int32} {h : zHp} {Q : Int32 → zHp → Prop}  (G : zG h) (F : (x0 < x1 → (Q 0 h)) ∧ (¬ (x0 < x1) → ((x2 < x0 → (Q 0 h)) ∧ (¬ (x2 < x0) → (Q 1 h))))) : zcI M_X11_in [.int x0, .int x1, .int x2] h Q := by
  show zw zNT zNT M_X11_in 0 [some (.int x0), some (.int x1), some (.int x2)] [] h _
  refine z_iload_n (pc := 0) dX11_in_0 rfl rfl ?_
  refine z_iload_n (pc := 1) dX11_in_1 rfl rfl ?_
  refine z_icmp_lt (pc := 2) (tgt := 14) dX11_in_2 (by decide) (fun k2 => ?_) (fun k2 => ?_)
  · replace F := F.1 k2
    refine z_iconst (pc := 14) (v := 0) dX11_in_14 (by decide) ?_
    exact q_retB (pc := 15) dX11_in_15 rfl (Or.inl rfl) F
  · replace F := F.2 k2
    refine z_iload_n (pc := 5) dX11_in_5 rfl rfl ?_
    refine z_iload_n (pc := 6) dX11_in_6 rfl rfl ?_
    refine z_icmp_gt (pc := 7) (tgt := 14) dX11_in_7 (by decide) (fun k1 => ?_) (fun k1 => ?_)
    · replace F := F.1 k1
      refine z_iconst (pc := 14) (v := 0) dX11_in_14 (by decide) ?_
      exact q_retB (pc := 15) dX11_in_15 rfl (Or.inl rfl) F
    · replace F := F.2 k1
      refine z_iconst (pc := 10) (v := 1) dX11_in_10 (by decide) ?_
      refine z_goto (pc := 11) (tgt := 15) dX11_in_11 (by decide) ?_
      exact q_retB (pc := 15) dX11_in_15 rfl (Or.inr rfl) F
theorem g_X11_has {x0 : Int32} {x1 : Int32} {h : zHp} {Q : Int32 → zHp → Prop}  (G : zG h) (F : (¬ (x0 >>> (x1 &&& 31)) &&& 1 = 1 → (Q 0 h)) ∧ ((x0 >>> (x1 &&& 31)) &&& 1 = 1 → (Q 1 h))) : zcI M_X11_has [.int x0, .int x1] h Q := by
  show zw zNT zNT M_X11_has 0 [some (.int x0), some (.int x1)] [] h _
  refine z_iload_n (pc := 0) dX11_has_0 rfl rfl ?_
  refine z_iload_n (pc := 1) dX11_has_1 rfl rfl ?_
  refine z_ishr (pc := 2) dX11_has_2 ?_
  refine z_iconst (pc := 3) (v := 1) dX11_has_3 (by decide) ?_
  refine z_iand (pc := 4) dX11_has_4 ?_
  refine z_iconst (pc := 5) (v := 1) dX11_has_5 (by decide) ?_
  refine z_icmp_ne (pc := 6) (tgt := 13) dX11_has_6 (by decide) (fun k1 => ?_) (fun k1 => ?_)
  · replace F := F.1 k1
    refine z_iconst (pc := 13) (v := 0) dX11_has_13 (by decide) ?_
    exact q_retB (pc := 14) dX11_has_14 rfl (Or.inl rfl) F
  · replace F := F.2 k1
    refine z_iconst (pc := 9) (v := 1) dX11_has_9 (by decide) ?_
    refine z_goto (pc := 10) (tgt := 14) dX11_has_10 (by decide) ?_
    exact q_retB (pc := 14) dX11_has_14 rfl (Or.inr rfl) F
theorem g_X11_copies {c0 : Nat} {c1 : Nat} {h : zHp} {Q : zHp → Prop} (hc0 : zNw c0) (hc1 : zNw c1) (G : zG h) (F : zlV M_X11_copies 2 [some (.ref c0), some (.ref c1), some (.int 0)] [] h Q) : zcV M_X11_copies [.ref c0, .ref c1] h Q := by
  show zw zNT zNT M_X11_copies 0 [some (.ref c0), some (.ref c1), none] [] h _
  refine z_iconst (pc := 0) (v := 0) dX11_copies_0 (by decide) ?_
  refine z_istore_n (pc := 1) (ls' := [some (.ref c0), some (.ref c1), some (.int 0)]) dX11_copies_1 rfl (by decide) rfl ?_
  exact F
theorem g_X11_copies_2 {c0 : Nat} {c1 : Nat} {x2 : Int32} {h : zHp} {Q : zHp → Prop} (hc0 : zNw c0) (hc1 : zNw c1) (G : zG h) (F : (246 ≤ x2 → (Q h)) ∧ (¬ (246 ≤ x2) → (vp_in x2 246 ∧ (zlV M_X11_copies 2 [some (.ref c0), some (.ref c1), some (.int (x2 + 1))] [] (wI h c1 ((Int32.toNatClampNeg x2)) (rI h c0 ((Int32.toNatClampNeg x2)))) Q)))) : zlV M_X11_copies 2 [some (.ref c0), some (.ref c1), some (.int x2)] [] h Q := by
  refine z_iload_n (pc := 2) dX11_copies_2 rfl rfl ?_
  refine z_sipush (pc := 3) (v := 246) dX11_copies_3 (by decide) ?_
  refine z_icmp_ge (pc := 6) (tgt := 21) dX11_copies_6 (by decide) (fun k2 => ?_) (fun k2 => ?_)
  · replace F := F.1 k2
    exact q_retV (pc := 21) dX11_copies_21 rfl F
  · replace F := F.2 k2
    refine z_aload_n (pc := 9) dX11_copies_9 rfl rfl ?_
    refine z_iload_n (pc := 10) dX11_copies_10 rfl rfl ?_
    refine z_aload_n (pc := 11) dX11_copies_11 rfl rfl ?_
    refine z_iload_n (pc := 12) dX11_copies_12 rfl rfl ?_
    obtain ⟨k1, F⟩ := F
    refine q_iald (pc := 13) (j := (Int32.toNatClampNeg x2)) (v := rI h c0 ((Int32.toNatClampNeg x2))) dX11_copies_13 (lyNw0 hc0) (zvn (lnNw0 hc0) k1) rfl rfl ?_
    refine q_iast (pc := 14) (j := (Int32.toNatClampNeg x2)) dX11_copies_14 (lyNw0 hc1) (zvn (lnNw0 hc1) k1) rfl ?_
    refine z_iinc (pc := 15) (v := x2 + 1) (ls' := [some (.ref c0), some (.ref c1), some (.int (x2 + 1))]) dX11_copies_15 (by decide) rfl rfl rfl ?_
    refine z_goto (pc := 18) (tgt := 2) dX11_copies_18 (by decide) ?_
    exact F
theorem g_X11_isThing {x1 : Int32} {h : zHp} {Q : Int32 → zHp → Prop}  (G : zG h) (F : zcI M_X11_in [.int x1, .int 0, .int ((rI h 165 238) - 1)] h (fun vh1 h1 => zG h1 ∧ (zB vh1 ∧ Q vh1 h1))) : zcI M_X11_isThing [.ref 164, .int x1] h Q := by
  show zw zNT zNT M_X11_isThing 0 [some (.ref 164), some (.int x1)] [] h _
  refine z_iload_n (pc := 0) dX11_isThing_0 rfl rfl ?_
  refine z_iconst (pc := 1) (v := 0) dX11_isThing_1 (by decide) ?_
  refine z_aload_n (pc := 2) dX11_isThing_2 rfl rfl ?_
  refine q_getR (pc := 3) (i := 165) dX11_isThing_3 lk_RX11_7 (lyc rfl) (G 164 0 165 rfl) ?_
  refine z_sipush (pc := 6) (v := 238) dX11_isThing_6 (by decide) ?_
  refine q_iald (pc := 9) (j := 238) (v := rI h 165 238) dX11_isThing_9 (lyc rfl) (zvl (lnc rfl) (by decide)) (by decide) rfl ?_
  refine z_iconst (pc := 10) (v := 1) dX11_isThing_10 (by decide) ?_
  refine z_isub (pc := 11) dX11_isThing_11 ?_
  refine q_invS (pc := 12) (As := [.int x1, .int 0, .int ((rI h 165 238) - 1)]) (st := []) dX11_isThing_12 ok_X11_in ml_RX11_84 st_X11_in pa_X11_in ⟨Nat.le_of_ble_eq_true rfl, Nat.le_of_ble_eq_true rfl⟩ (q_kI F (fun vh1 h1 F => ?_))
  obtain ⟨G1, F⟩ := F
  exact q_retB (pc := 15) dX11_isThing_15 rfl F.1 F.2
theorem g_X11_its {x1 : Int32} {x2 : Int32} {h : zHp} {Q : Int32 → zHp → Prop}  (G : zG h) (F : vp_in ((0 + (10 * x1)) + x2) 246 ∧ (Q (rI h 165 ((Int32.toNatClampNeg ((0 + (10 * x1)) + x2)))) h)) : zcI M_X11_its [.ref 164, .int x1, .int x2] h Q := by
  show zw zNT zNT M_X11_its 0 [some (.ref 164), some (.int x1), some (.int x2)] [] h _
  refine z_aload_n (pc := 0) dX11_its_0 rfl rfl ?_
  refine q_getR (pc := 1) (i := 165) dX11_its_1 lk_RX11_7 (lyc rfl) (G 164 0 165 rfl) ?_
  refine z_iconst (pc := 4) (v := 0) dX11_its_4 (by decide) ?_
  refine z_bipush (pc := 5) (v := 10) dX11_its_5 (by decide) ?_
  refine z_iload_n (pc := 7) dX11_its_7 rfl rfl ?_
  refine z_imul (pc := 8) dX11_its_8 ?_
  refine z_iadd (pc := 9) dX11_its_9 ?_
  refine z_iload_n (pc := 10) dX11_its_10 rfl rfl ?_
  refine z_iadd (pc := 11) dX11_its_11 ?_
  obtain ⟨k1, F⟩ := F
  refine q_iald (pc := 12) (j := (Int32.toNatClampNeg ((0 + (10 * x1)) + x2))) (v := rI h 165 ((Int32.toNatClampNeg ((0 + (10 * x1)) + x2)))) dX11_its_12 (lyc rfl) (zvn (lnc rfl) k1) rfl rfl ?_
  exact q_retI (pc := 13) dX11_its_13 rfl F
theorem g_X11_isAlive {x1 : Int32} {h : zHp} {Q : Int32 → zHp → Prop}  (G : zG h) (F : zcI M_X11_isThing [.ref 164, .int x1] h (fun vh1 h1 => zG h1 ∧ ((vh1 = 0 → (Q 0 h1)) ∧ (¬ (vh1 = 0) → (zcI M_X11_its [.ref 164, .int x1, .int 5] h1 (fun vh2 h2 => zG h2 ∧ ((¬ vh2 = 1 → (Q 0 h2)) ∧ (vh2 = 1 → (Q 1 h2))))))))) : zcI M_X11_isAlive [.ref 164, .int x1] h Q := by
  show zw zNT zNT M_X11_isAlive 0 [some (.ref 164), some (.int x1)] [] h _
  refine z_aload_n (pc := 0) dX11_isAlive_0 rfl rfl ?_
  refine z_iload_n (pc := 1) dX11_isAlive_1 rfl rfl ?_
  refine q_invV (pc := 2) (As := [.int x1]) (st := []) dX11_isAlive_2 ok_X11_isThing ml_RX11_88 iv_X11_isThing pa_X11_isThing ⟨Nat.le_of_ble_eq_true rfl, Nat.le_of_ble_eq_true rfl⟩ (lyc rfl) (q_kI F (fun vh1 h1 F => ?_))
  obtain ⟨G1, F⟩ := F
  refine z_if_eq (pc := 5) (tgt := 22) dX11_isAlive_5 (by decide) (fun k4 => ?_) (fun k4 => ?_)
  · replace F := F.1 k4
    refine z_iconst (pc := 22) (v := 0) dX11_isAlive_22 (by decide) ?_
    exact q_retB (pc := 23) dX11_isAlive_23 rfl (Or.inl rfl) F
  · replace F := F.2 k4
    refine z_aload_n (pc := 8) dX11_isAlive_8 rfl rfl ?_
    refine z_iload_n (pc := 9) dX11_isAlive_9 rfl rfl ?_
    refine z_iconst (pc := 10) (v := 5) dX11_isAlive_10 (by decide) ?_
    refine q_invV (pc := 11) (As := [.int x1, .int 5]) (st := []) dX11_isAlive_11 ok_X11_its ml_RX11_92 iv_X11_its pa_X11_its ⟨Nat.le_of_ble_eq_true rfl, Nat.le_of_ble_eq_true rfl⟩ (lyc rfl) (q_kI F (fun vh2 h2 F => ?_))
    obtain ⟨G2, F⟩ := F
    refine z_iconst (pc := 14) (v := 1) dX11_isAlive_14 (by decide) ?_
    refine z_icmp_ne (pc := 15) (tgt := 22) dX11_isAlive_15 (by decide) (fun k3 => ?_) (fun k3 => ?_)
    · replace F := F.1 k3
      refine z_iconst (pc := 22) (v := 0) dX11_isAlive_22 (by decide) ?_
      exact q_retB (pc := 23) dX11_isAlive_23 rfl (Or.inl rfl) F
    · replace F := F.2 k3
      refine z_iconst (pc := 18) (v := 1) dX11_isAlive_18 (by decide) ?_
      refine z_goto (pc := 19) (tgt := 23) dX11_isAlive_19 (by decide) ?_
      exact q_retB (pc := 23) dX11_isAlive_23 rfl (Or.inr rfl) F
theorem g_X11_effectIs {x1 : Int32} {x2 : Int32} {h : zHp} {Q : Int32 → zHp → Prop}  (G : zG h) (F : vp_in ((80 + (7 * x1)) + x2) 246 ∧ (Q (rI h 165 ((Int32.toNatClampNeg ((80 + (7 * x1)) + x2)))) h)) : zcI M_X11_effectIs [.ref 164, .int x1, .int x2] h Q := by
  show zw zNT zNT M_X11_effectIs 0 [some (.ref 164), some (.int x1), some (.int x2)] [] h _
  refine z_aload_n (pc := 0) dX11_effectIs_0 rfl rfl ?_
  refine q_getR (pc := 1) (i := 165) dX11_effectIs_1 lk_RX11_7 (lyc rfl) (G 164 0 165 rfl) ?_
  refine z_bipush (pc := 4) (v := 80) dX11_effectIs_4 (by decide) ?_
  refine z_bipush (pc := 6) (v := 7) dX11_effectIs_6 (by decide) ?_
  refine z_iload_n (pc := 8) dX11_effectIs_8 rfl rfl ?_
  refine z_imul (pc := 9) dX11_effectIs_9 ?_
  refine z_iadd (pc := 10) dX11_effectIs_10 ?_
  refine z_iload_n (pc := 11) dX11_effectIs_11 rfl rfl ?_
  refine z_iadd (pc := 12) dX11_effectIs_12 ?_
  obtain ⟨k1, F⟩ := F
  refine q_iald (pc := 13) (j := (Int32.toNatClampNeg ((80 + (7 * x1)) + x2))) (v := rI h 165 ((Int32.toNatClampNeg ((80 + (7 * x1)) + x2)))) dX11_effectIs_13 (lyc rfl) (zvn (lnc rfl) k1) rfl rfl ?_
  exact q_retI (pc := 14) dX11_effectIs_14 rfl F
theorem g_X11_isEffect {x1 : Int32} {h : zHp} {Q : Int32 → zHp → Prop}  (G : zG h) (F : zcI M_X11_in [.int x1, .int 0, .int ((rI h 165 239) - 1)] h (fun vh1 h1 => zG h1 ∧ (zB vh1 ∧ Q vh1 h1))) : zcI M_X11_isEffect [.ref 164, .int x1] h Q := by
  show zw zNT zNT M_X11_isEffect 0 [some (.ref 164), some (.int x1)] [] h _
  refine z_iload_n (pc := 0) dX11_isEffect_0 rfl rfl ?_
  refine z_iconst (pc := 1) (v := 0) dX11_isEffect_1 (by decide) ?_
  refine z_aload_n (pc := 2) dX11_isEffect_2 rfl rfl ?_
  refine q_getR (pc := 3) (i := 165) dX11_isEffect_3 lk_RX11_7 (lyc rfl) (G 164 0 165 rfl) ?_
  refine z_sipush (pc := 6) (v := 239) dX11_isEffect_6 (by decide) ?_
  refine q_iald (pc := 9) (j := 239) (v := rI h 165 239) dX11_isEffect_9 (lyc rfl) (zvl (lnc rfl) (by decide)) (by decide) rfl ?_
  refine z_iconst (pc := 10) (v := 1) dX11_isEffect_10 (by decide) ?_
  refine z_isub (pc := 11) dX11_isEffect_11 ?_
  refine q_invS (pc := 12) (As := [.int x1, .int 0, .int ((rI h 165 239) - 1)]) (st := []) dX11_isEffect_12 ok_X11_in ml_RX11_84 st_X11_in pa_X11_in ⟨Nat.le_of_ble_eq_true rfl, Nat.le_of_ble_eq_true rfl⟩ (q_kI F (fun vh1 h1 F => ?_))
  obtain ⟨G1, F⟩ := F
  exact q_retB (pc := 15) dX11_isEffect_15 rfl F.1 F.2
theorem g_X11_watcher {x1 : Int32} {x2 : Int32} {h : zHp} {Q : Int32 → zHp → Prop}  (G : zG h) (F : vp_in ((182 + (7 * x1)) + x2) 246 ∧ (Q (rI h 165 ((Int32.toNatClampNeg ((182 + (7 * x1)) + x2)))) h)) : zcI M_X11_watcher [.ref 164, .int x1, .int x2] h Q := by
  show zw zNT zNT M_X11_watcher 0 [some (.ref 164), some (.int x1), some (.int x2)] [] h _
  refine z_aload_n (pc := 0) dX11_watcher_0 rfl rfl ?_
  refine q_getR (pc := 1) (i := 165) dX11_watcher_1 lk_RX11_7 (lyc rfl) (G 164 0 165 rfl) ?_
  refine z_sipush (pc := 4) (v := 182) dX11_watcher_4 (by decide) ?_
  refine z_bipush (pc := 7) (v := 7) dX11_watcher_7 (by decide) ?_
  refine z_iload_n (pc := 9) dX11_watcher_9 rfl rfl ?_
  refine z_imul (pc := 10) dX11_watcher_10 ?_
  refine z_iadd (pc := 11) dX11_watcher_11 ?_
  refine z_iload_n (pc := 12) dX11_watcher_12 rfl rfl ?_
  refine z_iadd (pc := 13) dX11_watcher_13 ?_
  obtain ⟨k1, F⟩ := F
  refine q_iald (pc := 14) (j := (Int32.toNatClampNeg ((182 + (7 * x1)) + x2))) (v := rI h 165 ((Int32.toNatClampNeg ((182 + (7 * x1)) + x2)))) dX11_watcher_14 (lyc rfl) (zvn (lnc rfl) k1) rfl rfl ?_
  exact q_retI (pc := 15) dX11_watcher_15 rfl F
theorem g_X11_isScope {x0 : Int32} {x1 : Int32} {h : zHp} {Q : Int32 → zHp → Prop}  (G : zG h) (F : (x0 = 0 → (Q 1 h)) ∧ (¬ (x0 = 0) → (zcI M_X11_in [.int x0, .int 1, .int 5] h (fun vh1 h1 => zG h1 ∧ ((vh1 = 0 → (Q 0 h1)) ∧ (¬ (vh1 = 0) → ((¬ x0 = 1 → ((¬ x0 = 5 → (zcI M_X11_in [.int x1, .int 0, .int 5] h1 (fun vh2 h2 => zG h2 ∧ ((vh2 = 0 → (Q 0 h2)) ∧ (¬ (vh2 = 0) → (Q 1 h2)))))) ∧ (x0 = 5 → (zcI M_X11_in [.int x1, .int 0, .int 7] h1 (fun vh3 h3 => zG h3 ∧ ((vh3 = 0 → (Q 0 h3)) ∧ (¬ (vh3 = 0) → (Q 1 h3)))))))) ∧ (x0 = 1 → (zcI M_X11_in [.int x1, .int 0, .int 1] h1 (fun vh4 h4 => zG h4 ∧ ((vh4 = 0 → (Q 0 h4)) ∧ (¬ (vh4 = 0) → (Q 1 h4))))))))))))) : zcI M_X11_isScope [.int x0, .int x1] h Q := by
  show zw zNT zNT M_X11_isScope 0 [some (.int x0), some (.int x1)] [] h _
  refine z_iload_n (pc := 0) dX11_isScope_0 rfl rfl ?_
  refine z_if_eq (pc := 1) (tgt := 41) dX11_isScope_1 (by decide) (fun k11 => ?_) (fun k11 => ?_)
  · replace F := F.1 k11
    refine z_iconst (pc := 41) (v := 1) dX11_isScope_41 (by decide) ?_
    refine z_goto (pc := 42) (tgt := 46) dX11_isScope_42 (by decide) ?_
    exact q_retB (pc := 46) dX11_isScope_46 rfl (Or.inr rfl) F
  · replace F := F.2 k11
    refine z_iload_n (pc := 4) dX11_isScope_4 rfl rfl ?_
    refine z_iconst (pc := 5) (v := 1) dX11_isScope_5 (by decide) ?_
    refine z_iconst (pc := 6) (v := 5) dX11_isScope_6 (by decide) ?_
    refine q_invS (pc := 7) (As := [.int x0, .int 1, .int 5]) (st := []) dX11_isScope_7 ok_X11_in ml_RX11_84 st_X11_in pa_X11_in ⟨Nat.le_of_ble_eq_true rfl, Nat.le_of_ble_eq_true rfl⟩ (q_kI F (fun vh1 h1 F => ?_))
    obtain ⟨G1, F⟩ := F
    refine z_if_eq (pc := 10) (tgt := 45) dX11_isScope_10 (by decide) (fun k10 => ?_) (fun k10 => ?_)
    · replace F := F.1 k10
      refine z_iconst (pc := 45) (v := 0) dX11_isScope_45 (by decide) ?_
      exact q_retB (pc := 46) dX11_isScope_46 rfl (Or.inl rfl) F
    · replace F := F.2 k10
      refine z_iload_n (pc := 13) dX11_isScope_13 rfl rfl ?_
      refine z_iconst (pc := 14) (v := 0) dX11_isScope_14 (by decide) ?_
      refine z_iload_n (pc := 15) dX11_isScope_15 rfl rfl ?_
      refine z_iconst (pc := 16) (v := 1) dX11_isScope_16 (by decide) ?_
      refine z_icmp_ne (pc := 17) (tgt := 24) dX11_isScope_17 (by decide) (fun k9 => ?_) (fun k9 => ?_)
      · replace F := F.1 k9
        refine z_iload_n (pc := 24) dX11_isScope_24 rfl rfl ?_
        refine z_iconst (pc := 25) (v := 5) dX11_isScope_25 (by decide) ?_
        refine z_icmp_ne (pc := 26) (tgt := 34) dX11_isScope_26 (by decide) (fun k6 => ?_) (fun k6 => ?_)
        · replace F := F.1 k6
          refine z_iconst (pc := 34) (v := 5) dX11_isScope_34 (by decide) ?_
          refine q_invS (pc := 35) (As := [.int x1, .int 0, .int 5]) (st := []) dX11_isScope_35 ok_X11_in ml_RX11_84 st_X11_in pa_X11_in ⟨Nat.le_of_ble_eq_true rfl, Nat.le_of_ble_eq_true rfl⟩ (q_kI F (fun vh2 h2 F => ?_))
          obtain ⟨G2, F⟩ := F
          refine z_if_eq (pc := 38) (tgt := 45) dX11_isScope_38 (by decide) (fun k3 => ?_) (fun k3 => ?_)
          · replace F := F.1 k3
            refine z_iconst (pc := 45) (v := 0) dX11_isScope_45 (by decide) ?_
            exact q_retB (pc := 46) dX11_isScope_46 rfl (Or.inl rfl) F
          · replace F := F.2 k3
            refine z_iconst (pc := 41) (v := 1) dX11_isScope_41 (by decide) ?_
            refine z_goto (pc := 42) (tgt := 46) dX11_isScope_42 (by decide) ?_
            exact q_retB (pc := 46) dX11_isScope_46 rfl (Or.inr rfl) F
        · replace F := F.2 k6
          refine z_bipush (pc := 29) (v := 7) dX11_isScope_29 (by decide) ?_
          refine z_goto (pc := 31) (tgt := 35) dX11_isScope_31 (by decide) ?_
          refine q_invS (pc := 35) (As := [.int x1, .int 0, .int 7]) (st := []) dX11_isScope_35 ok_X11_in ml_RX11_84 st_X11_in pa_X11_in ⟨Nat.le_of_ble_eq_true rfl, Nat.le_of_ble_eq_true rfl⟩ (q_kI F (fun vh3 h3 F => ?_))
          obtain ⟨G3, F⟩ := F
          refine z_if_eq (pc := 38) (tgt := 45) dX11_isScope_38 (by decide) (fun k5 => ?_) (fun k5 => ?_)
          · replace F := F.1 k5
            refine z_iconst (pc := 45) (v := 0) dX11_isScope_45 (by decide) ?_
            exact q_retB (pc := 46) dX11_isScope_46 rfl (Or.inl rfl) F
          · replace F := F.2 k5
            refine z_iconst (pc := 41) (v := 1) dX11_isScope_41 (by decide) ?_
            refine z_goto (pc := 42) (tgt := 46) dX11_isScope_42 (by decide) ?_
            exact q_retB (pc := 46) dX11_isScope_46 rfl (Or.inr rfl) F
      · replace F := F.2 k9
        refine z_iconst (pc := 20) (v := 1) dX11_isScope_20 (by decide) ?_
        refine z_goto (pc := 21) (tgt := 35) dX11_isScope_21 (by decide) ?_
        refine q_invS (pc := 35) (As := [.int x1, .int 0, .int 1]) (st := []) dX11_isScope_35 ok_X11_in ml_RX11_84 st_X11_in pa_X11_in ⟨Nat.le_of_ble_eq_true rfl, Nat.le_of_ble_eq_true rfl⟩ (q_kI F (fun vh4 h4 F => ?_))
        obtain ⟨G4, F⟩ := F
        refine z_if_eq (pc := 38) (tgt := 45) dX11_isScope_38 (by decide) (fun k8 => ?_) (fun k8 => ?_)
        · replace F := F.1 k8
          refine z_iconst (pc := 45) (v := 0) dX11_isScope_45 (by decide) ?_
          exact q_retB (pc := 46) dX11_isScope_46 rfl (Or.inl rfl) F
        · replace F := F.2 k8
          refine z_iconst (pc := 41) (v := 1) dX11_isScope_41 (by decide) ?_
          refine z_goto (pc := 42) (tgt := 46) dX11_isScope_42 (by decide) ?_
          exact q_retB (pc := 46) dX11_isScope_46 rfl (Or.inr rfl) F
theorem g_X11_inScope {c1 : Nat} {x2 : Int32} {x3 : Int32} {h : zHp} {Q : Int32 → zHp → Prop} (hc1 : zRow c1) (G : zG h) (F : zlI M_X11_inScope 6 [some (.ref 164), some (.ref c1), some (.int x2), some (.int x3), some (.int 0), some (.int 0), none] [] h Q) : zcI M_X11_inScope [.ref 164, .ref c1, .int x2, .int x3] h Q := by
  show zw zNT zNT M_X11_inScope 0 [some (.ref 164), some (.ref c1), some (.int x2), some (.int x3), none, none, none] [] h _
  refine z_iconst (pc := 0) (v := 0) dX11_inScope_0 (by decide) ?_
  refine z_istore (pc := 1) (ls' := [some (.ref 164), some (.ref c1), some (.int x2), some (.int x3), some (.int 0), none, none]) dX11_inScope_1 (by decide) rfl ?_
  refine z_iconst (pc := 3) (v := 0) dX11_inScope_3 (by decide) ?_
  refine z_istore (pc := 4) (ls' := [some (.ref 164), some (.ref c1), some (.int x2), some (.int x3), some (.int 0), some (.int 0), none]) dX11_inScope_4 (by decide) rfl ?_
  exact F
theorem g_X11_inScope_6 {c1 : Nat} {x2 : Int32} {x3 : Int32} {x4 : Int32} {x5 : Int32} {h : zHp} {Q : Int32 → zHp → Prop} (hc1 : zRow c1) (G : zG h) (F : (rI h 165 238 ≤ x5 → (Q x4 h)) ∧ (¬ (rI h 165 238 ≤ x5) → ((x2 = 0 → (zlI M_X11_inScope 117 [some (.ref 164), some (.ref c1), some (.int x2), some (.int x3), some (.int x4), some (.int x5), none] [.int 1] h Q)) ∧ (¬ (x2 = 0) → ((¬ x2 = 1 → ((¬ x2 = 2 → ((¬ x2 = 3 → ((¬ x2 = 4 → ((¬ x5 = x3 → (zlI M_X11_inScope 117 [some (.ref 164), some (.ref c1), some (.int x2), some (.int x3), some (.int x4), some (.int x5), none] [.int 0] h Q)) ∧ (x5 = x3 → (zlI M_X11_inScope 117 [some (.ref 164), some (.ref c1), some (.int x2), some (.int x3), some (.int x4), some (.int x5), none] [.int 1] h Q)))) ∧ (x2 = 4 → (vp_in ((4 * x5) + 1) 32 ∧ (zcI M_X11_has [.int (rI h c1 ((Int32.toNatClampNeg ((4 * x5) + 1)))), .int x3] h (fun vh1 h1 => zG h1 ∧ ((¬ vh1 = 0 → (zlI M_X11_inScope 117 [some (.ref 164), some (.ref c1), some (.int x2), some (.int x3), some (.int x4), some (.int x5), none] [.int 0] h1 Q)) ∧ (vh1 = 0 → (zlI M_X11_inScope 117 [some (.ref 164), some (.ref c1), some (.int x2), some (.int x3), some (.int x4), some (.int x5), none] [.int 1] h1 Q))))))))) ∧ (x2 = 3 → (vp_in ((4 * x5) + 1) 32 ∧ (zcI M_X11_has [.int (rI h c1 ((Int32.toNatClampNeg ((4 * x5) + 1)))), .int x3] h (fun vh2 h2 => zG h2 ∧ ((vh2 = 0 → (zlI M_X11_inScope 117 [some (.ref 164), some (.ref c1), some (.int x2), some (.int x3), some (.int x4), some (.int x5), none] [.int 0] h2 Q)) ∧ (¬ (vh2 = 0) → (zlI M_X11_inScope 117 [some (.ref 164), some (.ref c1), some (.int x2), some (.int x3), some (.int x4), some (.int x5), none] [.int 1] h2 Q))))))))) ∧ (x2 = 2 → (vp_in (4 * x5) 32 ∧ ((¬ rI h c1 ((Int32.toNatClampNeg (4 * x5))) = x3 → (zlI M_X11_inScope 117 [some (.ref 164), some (.ref c1), some (.int x2), some (.int x3), some (.int x4), some (.int x5), none] [.int 0] h Q)) ∧ (rI h c1 ((Int32.toNatClampNeg (4 * x5))) = x3 → (zlI M_X11_inScope 117 [some (.ref 164), some (.ref c1), some (.int x2), some (.int x3), some (.int x4), some (.int x5), none] [.int 1] h Q))))))) ∧ (x2 = 1 → (zcI M_X11_its [.ref 164, .int x5, .int 0] h (fun vh3 h3 => zG h3 ∧ ((¬ vh3 = x3 → (zlI M_X11_inScope 117 [some (.ref 164), some (.ref c1), some (.int x2), some (.int x3), some (.int x4), some (.int x5), none] [.int 0] h3 Q)) ∧ (vh3 = x3 → (zlI M_X11_inScope 117 [some (.ref 164), some (.ref c1), some (.int x2), some (.int x3), some (.int x4), some (.int x5), none] [.int 1] h3 Q))))))))))) : zlI M_X11_inScope 6 [some (.ref 164), some (.ref c1), some (.int x2), some (.int x3), some (.int x4), some (.int x5), none] [] h Q := by
  refine z_iload (pc := 6) dX11_inScope_6 rfl ?_
  refine z_aload_n (pc := 8) dX11_inScope_8 rfl rfl ?_
  refine q_getR (pc := 9) (i := 165) dX11_inScope_9 lk_RX11_7 (lyc rfl) (G 164 0 165 rfl) ?_
  refine z_sipush (pc := 12) (v := 238) dX11_inScope_12 (by decide) ?_
  refine q_iald (pc := 15) (j := 238) (v := rI h 165 238) dX11_inScope_15 (lyc rfl) (zvl (lnc rfl) (by decide)) (by decide) rfl ?_
  refine z_icmp_ge (pc := 16) (tgt := 152) dX11_inScope_16 (by decide) (fun k17 => ?_) (fun k17 => ?_)
  · replace F := F.1 k17
    refine z_iload (pc := 152) dX11_inScope_152 rfl ?_
    exact q_retI (pc := 154) dX11_inScope_154 rfl F
  · replace F := F.2 k17
    refine z_iload_n (pc := 19) dX11_inScope_19 rfl rfl ?_
    refine z_if_eq (pc := 20) (tgt := 112) dX11_inScope_20 (by decide) (fun k16 => ?_) (fun k16 => ?_)
    · replace F := F.1 k16
      refine z_iconst (pc := 112) (v := 1) dX11_inScope_112 (by decide) ?_
      refine z_goto (pc := 113) (tgt := 117) dX11_inScope_113 (by decide) ?_
      exact F
    · replace F := F.2 k16
      refine z_iload_n (pc := 23) dX11_inScope_23 rfl rfl ?_
      refine z_iconst (pc := 24) (v := 1) dX11_inScope_24 (by decide) ?_
      refine z_icmp_ne (pc := 25) (tgt := 42) dX11_inScope_25 (by decide) (fun k15 => ?_) (fun k15 => ?_)
      · replace F := F.1 k15
        refine z_iload_n (pc := 42) dX11_inScope_42 rfl rfl ?_
        refine z_iconst (pc := 43) (v := 2) dX11_inScope_43 (by decide) ?_
        refine z_icmp_ne (pc := 44) (tgt := 60) dX11_inScope_44 (by decide) (fun k12 => ?_) (fun k12 => ?_)
        · replace F := F.1 k12
          refine z_iload_n (pc := 60) dX11_inScope_60 rfl rfl ?_
          refine z_iconst (pc := 61) (v := 3) dX11_inScope_61 (by decide) ?_
          refine z_icmp_ne (pc := 62) (tgt := 83) dX11_inScope_62 (by decide) (fun k9 => ?_) (fun k9 => ?_)
          · replace F := F.1 k9
            refine z_iload_n (pc := 83) dX11_inScope_83 rfl rfl ?_
            refine z_iconst (pc := 84) (v := 4) dX11_inScope_84 (by decide) ?_
            refine z_icmp_ne (pc := 85) (tgt := 106) dX11_inScope_85 (by decide) (fun k5 => ?_) (fun k5 => ?_)
            · replace F := F.1 k5
              refine z_iload (pc := 106) dX11_inScope_106 rfl ?_
              refine z_iload_n (pc := 108) dX11_inScope_108 rfl rfl ?_
              refine z_icmp_ne (pc := 109) (tgt := 116) dX11_inScope_109 (by decide) (fun k1 => ?_) (fun k1 => ?_)
              · replace F := F.1 k1
                refine z_iconst (pc := 116) (v := 0) dX11_inScope_116 (by decide) ?_
                exact F
              · replace F := F.2 k1
                refine z_iconst (pc := 112) (v := 1) dX11_inScope_112 (by decide) ?_
                refine z_goto (pc := 113) (tgt := 117) dX11_inScope_113 (by decide) ?_
                exact F
            · replace F := F.2 k5
              refine z_aload_n (pc := 88) dX11_inScope_88 rfl rfl ?_
              refine z_iconst (pc := 89) (v := 4) dX11_inScope_89 (by decide) ?_
              refine z_iload (pc := 90) dX11_inScope_90 rfl ?_
              refine z_imul (pc := 92) dX11_inScope_92 ?_
              refine z_iconst (pc := 93) (v := 1) dX11_inScope_93 (by decide) ?_
              refine z_iadd (pc := 94) dX11_inScope_94 ?_
              obtain ⟨k2, F⟩ := F
              refine q_iald (pc := 95) (j := (Int32.toNatClampNeg ((4 * x5) + 1))) (v := rI h c1 ((Int32.toNatClampNeg ((4 * x5) + 1)))) dX11_inScope_95 (lyRow0 hc1) (zvn (lnRow0 hc1) k2) rfl rfl ?_
              refine z_iload_n (pc := 96) dX11_inScope_96 rfl rfl ?_
              refine q_invS (pc := 97) (As := [.int (rI h c1 ((Int32.toNatClampNeg ((4 * x5) + 1)))), .int x3]) (st := []) dX11_inScope_97 ok_X11_has ml_RX11_96 st_X11_has pa_X11_has ⟨Nat.le_of_ble_eq_true rfl, Nat.le_of_ble_eq_true rfl⟩ (q_kI F (fun vh1 h1 F => ?_))
              obtain ⟨G1, F⟩ := F
              refine z_if_ne (pc := 100) (tgt := 116) dX11_inScope_100 (by decide) (fun k4 => ?_) (fun k4 => ?_)
              · replace F := F.1 k4
                refine z_iconst (pc := 116) (v := 0) dX11_inScope_116 (by decide) ?_
                exact F
              · replace F := F.2 k4
                refine z_goto (pc := 103) (tgt := 112) dX11_inScope_103 (by decide) ?_
                refine z_iconst (pc := 112) (v := 1) dX11_inScope_112 (by decide) ?_
                refine z_goto (pc := 113) (tgt := 117) dX11_inScope_113 (by decide) ?_
                exact F
          · replace F := F.2 k9
            refine z_aload_n (pc := 65) dX11_inScope_65 rfl rfl ?_
            refine z_iconst (pc := 66) (v := 4) dX11_inScope_66 (by decide) ?_
            refine z_iload (pc := 67) dX11_inScope_67 rfl ?_
            refine z_imul (pc := 69) dX11_inScope_69 ?_
            refine z_iconst (pc := 70) (v := 1) dX11_inScope_70 (by decide) ?_
            refine z_iadd (pc := 71) dX11_inScope_71 ?_
            obtain ⟨k6, F⟩ := F
            refine q_iald (pc := 72) (j := (Int32.toNatClampNeg ((4 * x5) + 1))) (v := rI h c1 ((Int32.toNatClampNeg ((4 * x5) + 1)))) dX11_inScope_72 (lyRow0 hc1) (zvn (lnRow0 hc1) k6) rfl rfl ?_
            refine z_iload_n (pc := 73) dX11_inScope_73 rfl rfl ?_
            refine q_invS (pc := 74) (As := [.int (rI h c1 ((Int32.toNatClampNeg ((4 * x5) + 1)))), .int x3]) (st := []) dX11_inScope_74 ok_X11_has ml_RX11_96 st_X11_has pa_X11_has ⟨Nat.le_of_ble_eq_true rfl, Nat.le_of_ble_eq_true rfl⟩ (q_kI F (fun vh2 h2 F => ?_))
            obtain ⟨G2, F⟩ := F
            refine z_if_eq (pc := 77) (tgt := 116) dX11_inScope_77 (by decide) (fun k8 => ?_) (fun k8 => ?_)
            · replace F := F.1 k8
              refine z_iconst (pc := 116) (v := 0) dX11_inScope_116 (by decide) ?_
              exact F
            · replace F := F.2 k8
              refine z_goto (pc := 80) (tgt := 112) dX11_inScope_80 (by decide) ?_
              refine z_iconst (pc := 112) (v := 1) dX11_inScope_112 (by decide) ?_
              refine z_goto (pc := 113) (tgt := 117) dX11_inScope_113 (by decide) ?_
              exact F
        · replace F := F.2 k12
          refine z_aload_n (pc := 47) dX11_inScope_47 rfl rfl ?_
          refine z_iconst (pc := 48) (v := 4) dX11_inScope_48 (by decide) ?_
          refine z_iload (pc := 49) dX11_inScope_49 rfl ?_
          refine z_imul (pc := 51) dX11_inScope_51 ?_
          obtain ⟨k10, F⟩ := F
          refine q_iald (pc := 52) (j := (Int32.toNatClampNeg (4 * x5))) (v := rI h c1 ((Int32.toNatClampNeg (4 * x5)))) dX11_inScope_52 (lyRow0 hc1) (zvn (lnRow0 hc1) k10) rfl rfl ?_
          refine z_iload_n (pc := 53) dX11_inScope_53 rfl rfl ?_
          refine z_icmp_ne (pc := 54) (tgt := 116) dX11_inScope_54 (by decide) (fun k11 => ?_) (fun k11 => ?_)
          · replace F := F.1 k11
            refine z_iconst (pc := 116) (v := 0) dX11_inScope_116 (by decide) ?_
            exact F
          · replace F := F.2 k11
            refine z_goto (pc := 57) (tgt := 112) dX11_inScope_57 (by decide) ?_
            refine z_iconst (pc := 112) (v := 1) dX11_inScope_112 (by decide) ?_
            refine z_goto (pc := 113) (tgt := 117) dX11_inScope_113 (by decide) ?_
            exact F
      · replace F := F.2 k15
        refine z_aload_n (pc := 28) dX11_inScope_28 rfl rfl ?_
        refine z_iload (pc := 29) dX11_inScope_29 rfl ?_
        refine z_iconst (pc := 31) (v := 0) dX11_inScope_31 (by decide) ?_
        refine q_invV (pc := 32) (As := [.int x5, .int 0]) (st := []) dX11_inScope_32 ok_X11_its ml_RX11_92 iv_X11_its pa_X11_its ⟨Nat.le_of_ble_eq_true rfl, Nat.le_of_ble_eq_true rfl⟩ (lyc rfl) (q_kI F (fun vh3 h3 F => ?_))
        obtain ⟨G3, F⟩ := F
        refine z_iload_n (pc := 35) dX11_inScope_35 rfl rfl ?_
        refine z_icmp_ne (pc := 36) (tgt := 116) dX11_inScope_36 (by decide) (fun k14 => ?_) (fun k14 => ?_)
        · replace F := F.1 k14
          refine z_iconst (pc := 116) (v := 0) dX11_inScope_116 (by decide) ?_
          exact F
        · replace F := F.2 k14
          refine z_goto (pc := 39) (tgt := 112) dX11_inScope_39 (by decide) ?_
          refine z_iconst (pc := 112) (v := 1) dX11_inScope_112 (by decide) ?_
          refine z_goto (pc := 113) (tgt := 117) dX11_inScope_113 (by decide) ?_
          exact F
theorem g_X11_inScope_117 {c1 : Nat} {x2 : Int32} {x3 : Int32} {x4 : Int32} {x5 : Int32} {xs0 : Int32} {h : zHp} {Q : Int32 → zHp → Prop} (hc1 : zRow c1) (G : zG h) (F : (xs0 = 0 → (zlI M_X11_inScope 6 [some (.ref 164), some (.ref c1), some (.int x2), some (.int x3), some (.int (x4 ||| 0)), some (.int (x5 + 1)), none] [] h Q)) ∧ (¬ (xs0 = 0) → (zcI M_X11_isAlive [.ref 164, .int x5] h (fun vh1 h1 => zG h1 ∧ ((vh1 = 0 → (zlI M_X11_inScope 6 [some (.ref 164), some (.ref c1), some (.int x2), some (.int x3), some (.int (x4 ||| 0)), some (.int (x5 + 1)), none] [] h1 Q)) ∧ (¬ (vh1 = 0) → (zlI M_X11_inScope 6 [some (.ref 164), some (.ref c1), some (.int x2), some (.int x3), some (.int (x4 ||| (1 <<< (x5 &&& 31)))), some (.int (x5 + 1)), none] [] h1 Q))))))) : zlI M_X11_inScope 117 [some (.ref 164), some (.ref c1), some (.int x2), some (.int x3), some (.int x4), some (.int x5), none] [.int xs0] h Q := by
  refine z_istore (pc := 117) (ls' := [some (.ref 164), some (.ref c1), some (.int x2), some (.int x3), some (.int x4), some (.int x5), some (.int xs0)]) dX11_inScope_117 (by decide) rfl ?_
  refine z_iload (pc := 119) dX11_inScope_119 rfl ?_
  refine z_iload (pc := 121) dX11_inScope_121 rfl ?_
  refine z_if_eq (pc := 123) (tgt := 142) dX11_inScope_123 (by decide) (fun k3 => ?_) (fun k3 => ?_)
  · replace F := F.1 k3
    refine z_iconst (pc := 142) (v := 0) dX11_inScope_142 (by decide) ?_
    refine z_ior (pc := 143) dX11_inScope_143 ?_
    refine z_istore (pc := 144) (ls' := [some (.ref 164), some (.ref c1), some (.int x2), some (.int x3), some (.int (x4 ||| 0)), some (.int x5), some (.int xs0)]) dX11_inScope_144 (by decide) rfl ?_
    refine z_iinc (pc := 146) (v := x5 + 1) (ls' := [some (.ref 164), some (.ref c1), some (.int x2), some (.int x3), some (.int (x4 ||| 0)), some (.int (x5 + 1)), some (.int xs0)]) dX11_inScope_146 (by decide) rfl rfl rfl ?_
    refine z_goto (pc := 149) (tgt := 6) dX11_inScope_149 (by decide) ?_
    exact q_sub (ls' := [some (.ref 164), some (.ref c1), some (.int x2), some (.int x3), some (.int (x4 ||| 0)), some (.int (x5 + 1)), none]) ⟨rfl, rfl, rfl, rfl, rfl, rfl, trivial⟩ F
  · replace F := F.2 k3
    refine z_aload_n (pc := 126) dX11_inScope_126 rfl rfl ?_
    refine z_iload (pc := 127) dX11_inScope_127 rfl ?_
    refine q_invV (pc := 129) (As := [.int x5]) (st := [.int x4]) dX11_inScope_129 ok_X11_isAlive ml_RX11_100 iv_X11_isAlive pa_X11_isAlive ⟨Nat.le_of_ble_eq_true rfl, Nat.le_of_ble_eq_true rfl⟩ (lyc rfl) (q_kI F (fun vh1 h1 F => ?_))
    obtain ⟨G1, F⟩ := F
    refine z_if_eq (pc := 132) (tgt := 142) dX11_inScope_132 (by decide) (fun k2 => ?_) (fun k2 => ?_)
    · replace F := F.1 k2
      refine z_iconst (pc := 142) (v := 0) dX11_inScope_142 (by decide) ?_
      refine z_ior (pc := 143) dX11_inScope_143 ?_
      refine z_istore (pc := 144) (ls' := [some (.ref 164), some (.ref c1), some (.int x2), some (.int x3), some (.int (x4 ||| 0)), some (.int x5), some (.int xs0)]) dX11_inScope_144 (by decide) rfl ?_
      refine z_iinc (pc := 146) (v := x5 + 1) (ls' := [some (.ref 164), some (.ref c1), some (.int x2), some (.int x3), some (.int (x4 ||| 0)), some (.int (x5 + 1)), some (.int xs0)]) dX11_inScope_146 (by decide) rfl rfl rfl ?_
      refine z_goto (pc := 149) (tgt := 6) dX11_inScope_149 (by decide) ?_
      exact q_sub (ls' := [some (.ref 164), some (.ref c1), some (.int x2), some (.int x3), some (.int (x4 ||| 0)), some (.int (x5 + 1)), none]) ⟨rfl, rfl, rfl, rfl, rfl, rfl, trivial⟩ F
    · replace F := F.2 k2
      refine z_iconst (pc := 135) (v := 1) dX11_inScope_135 (by decide) ?_
      refine z_iload (pc := 136) dX11_inScope_136 rfl ?_
      refine z_ishl (pc := 138) dX11_inScope_138 ?_
      refine z_goto (pc := 139) (tgt := 143) dX11_inScope_139 (by decide) ?_
      refine z_ior (pc := 143) dX11_inScope_143 ?_
      refine z_istore (pc := 144) (ls' := [some (.ref 164), some (.ref c1), some (.int x2), some (.int x3), some (.int (x4 ||| (1 <<< (x5 &&& 31)))), some (.int x5), some (.int xs0)]) dX11_inScope_144 (by decide) rfl ?_
      refine z_iinc (pc := 146) (v := x5 + 1) (ls' := [some (.ref 164), some (.ref c1), some (.int x2), some (.int x3), some (.int (x4 ||| (1 <<< (x5 &&& 31)))), some (.int (x5 + 1)), some (.int xs0)]) dX11_inScope_146 (by decide) rfl rfl rfl ?_
      refine z_goto (pc := 149) (tgt := 6) dX11_inScope_149 (by decide) ?_
      exact q_sub (ls' := [some (.ref 164), some (.ref c1), some (.int x2), some (.int x3), some (.int (x4 ||| (1 <<< (x5 &&& 31)))), some (.int (x5 + 1)), none]) ⟨rfl, rfl, rfl, rfl, rfl, rfl, trivial⟩ F
