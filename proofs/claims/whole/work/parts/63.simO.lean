/-! calls: the tape, the sheets -/
theorem g_X3_append {x1 : Int32} {h : zHp} {Q : zHp → Prop}  (G : zG h) (F : (120 ≤ rI h 141 1 → (Q h)) ∧ (¬ (120 ≤ rI h 141 1) → (vp_in (rI h 141 1) 120 ∧ (Q (wI (wI h 142 ((Int32.toNatClampNeg (rI h 141 1))) ((Int32.toInt8 x1).toInt32)) 141 1 ((rI h 141 1) + 1)))))) : zcV M_X3_append [.ref 141, .int x1] h Q := by
  show zw zNT zNT M_X3_append 0 [some (.ref 141), some (.int x1)] [] h _
  refine z_aload_n (pc := 0) dX3_append_0 rfl rfl ?_
  refine q_getI (pc := 1) (v := rI h 141 1) dX3_append_1 lk_RX3_22 (lyc rfl) rfl ?_
  refine z_bipush (pc := 4) (v := 120) dX3_append_4 (by decide) ?_
  refine z_icmp_ge (pc := 6) (tgt := 29) dX3_append_6 (by decide) (fun k2 => ?_) (fun k2 => ?_)
  · replace F := F.1 k2
    exact q_retV (pc := 29) dX3_append_29 rfl F
  · replace F := F.2 k2
    refine z_aload_n (pc := 9) dX3_append_9 rfl rfl ?_
    refine q_getR (pc := 10) (i := 142) dX3_append_10 lk_RX3_9 (lyc rfl) (G 141 0 142 rfl) ?_
    refine z_aload_n (pc := 13) dX3_append_13 rfl rfl ?_
    refine q_getI (pc := 14) (v := rI h 141 1) dX3_append_14 lk_RX3_22 (lyc rfl) rfl ?_
    refine z_iload_n (pc := 17) dX3_append_17 rfl rfl ?_
    obtain ⟨k1, F⟩ := F
    refine q_bast (pc := 18) (j := (Int32.toNatClampNeg (rI h 141 1))) dX3_append_18 (lyc rfl) (zvn (lnc rfl) k1) rfl ?_
    refine z_aload_n (pc := 19) dX3_append_19 rfl rfl ?_
    refine z_dup (pc := 20) dX3_append_20 rfl ?_
    refine q_getI (pc := 21) (v := rI h 141 1) dX3_append_21 lk_RX3_22 (lyc rfl) (rI_c (by decide)) ?_
    refine z_iconst (pc := 24) (v := 1) dX3_append_24 (by decide) ?_
    refine z_iadd (pc := 25) dX3_append_25 ?_
    refine q_putI (pc := 26) dX3_append_26 lk_RX3_22 (lyc rfl) ?_
    exact q_retV (pc := 29) dX3_append_29 rfl F
theorem g_X10_feed {x1 : Int32} {x2 : Int32} {h : zHp} {Q : Int32 → zHp → Prop}  (G : zG h) (F : (((1 : Int32) ≤ x2 ∧ x2 ≤ 4) → ((rI h 141 1 ≤ 120 - x2 → (zlI M_X10_feed 33 [some (.ref 0), some (.int x1), some (.int x2), some (.int (x2 - 1))] [] h Q)) ∧ (¬ (rI h 141 1 ≤ 120 - x2) → (Q (-4) h)))) ∧ (¬ ((1 : Int32) ≤ x2 ∧ x2 ≤ 4) → (Q (-2) h))) : zcI M_X10_feed [.ref 0, .int x1, .int x2] h Q := by
  show zw zNT zNT M_X10_feed 0 [some (.ref 0), some (.int x1), some (.int x2), none] [] h _
  refine z_iload_n (pc := 0) dX10_feed_0 rfl rfl ?_
  refine z_iconst (pc := 1) (v := 1) dX10_feed_1 (by decide) ?_
  refine z_iconst (pc := 2) (v := 4) dX10_feed_2 (by decide) ?_
  refine q_invS (pc := 3) (As := [.int x2, .int 1, .int 4]) (st := []) dX10_feed_3 ok_X10_within ml_RX10_82 st_X10_within pa_X10_within ⟨Nat.le_of_ble_eq_true rfl, Nat.le_of_ble_eq_true rfl⟩ (q_pI (s_X10_within G) rfl ?_)
  refine z_if_ne (pc := 6) (tgt := 12) dX10_feed_6 (by decide) (fun k2 => ?_) (fun k2 => ?_)
  · replace F := F.1 (zbn.mp k2)
    refine z_aload_n (pc := 12) dX10_feed_12 rfl rfl ?_
    refine q_getR (pc := 13) (i := 141) dX10_feed_13 lk_RX10_53 (lyc rfl) (G 0 8 141 rfl) ?_
    refine q_getI (pc := 16) (v := rI h 141 1) dX10_feed_16 lk_RX10_301 (lyc rfl) rfl ?_
    refine z_bipush (pc := 19) (v := 120) dX10_feed_19 (by decide) ?_
    refine z_iload_n (pc := 21) dX10_feed_21 rfl rfl ?_
    refine z_isub (pc := 22) dX10_feed_22 ?_
    refine z_icmp_le (pc := 23) (tgt := 29) dX10_feed_23 (by decide) (fun k1 => ?_) (fun k1 => ?_)
    · replace F := F.1 k1
      refine z_iload_n (pc := 29) dX10_feed_29 rfl rfl ?_
      refine z_iconst (pc := 30) (v := 1) dX10_feed_30 (by decide) ?_
      refine z_isub (pc := 31) dX10_feed_31 ?_
      refine z_istore_n (pc := 32) (ls' := [some (.ref 0), some (.int x1), some (.int x2), some (.int (x2 - 1))]) dX10_feed_32 rfl (by decide) rfl ?_
      exact F
    · replace F := F.2 k1
      refine z_bipush (pc := 26) (v := -4) dX10_feed_26 (by decide) ?_
      exact q_retI (pc := 28) dX10_feed_28 rfl F
  · replace F := F.2 (zb0.mp k2)
    refine z_bipush (pc := 9) (v := -2) dX10_feed_9 (by decide) ?_
    exact q_retI (pc := 11) dX10_feed_11 rfl F
theorem g_X10_feed_33 {x1 : Int32} {x2 : Int32} {x3 : Int32} {h : zHp} {Q : Int32 → zHp → Prop}  (G : zG h) (F : (x3 < 0 → (Q (rI h 141 1) h)) ∧ (¬ (x3 < 0) → (zcV M_X3_append [.ref 141, .int ((Int32.toInt8 (x1 >>> ((8 * x3) &&& 31))).toInt32)] h (fun h1 => zG h1 ∧ (zlI M_X10_feed 33 [some (.ref 0), some (.int x1), some (.int x2), some (.int (x3 + (-1)))] [] h1 Q))))) : zlI M_X10_feed 33 [some (.ref 0), some (.int x1), some (.int x2), some (.int x3)] [] h Q := by
  refine z_iload_n (pc := 33) dX10_feed_33 rfl rfl ?_
  refine z_if_lt (pc := 34) (tgt := 57) dX10_feed_34 (by decide) (fun k2 => ?_) (fun k2 => ?_)
  · replace F := F.1 k2
    refine z_aload_n (pc := 57) dX10_feed_57 rfl rfl ?_
    refine q_getR (pc := 58) (i := 141) dX10_feed_58 lk_RX10_53 (lyc rfl) (G 0 8 141 rfl) ?_
    refine q_getI (pc := 61) (v := rI h 141 1) dX10_feed_61 lk_RX10_301 (lyc rfl) rfl ?_
    exact q_retI (pc := 64) dX10_feed_64 rfl F
  · replace F := F.2 k2
    refine z_aload_n (pc := 37) dX10_feed_37 rfl rfl ?_
    refine q_getR (pc := 38) (i := 141) dX10_feed_38 lk_RX10_53 (lyc rfl) (G 0 8 141 rfl) ?_
    refine z_iload_n (pc := 41) dX10_feed_41 rfl rfl ?_
    refine z_bipush (pc := 42) (v := 8) dX10_feed_42 (by decide) ?_
    refine z_iload_n (pc := 44) dX10_feed_44 rfl rfl ?_
    refine z_imul (pc := 45) dX10_feed_45 ?_
    refine z_ishr (pc := 46) dX10_feed_46 ?_
    refine z_i2b (pc := 47) dX10_feed_47 ?_
    refine q_invV (pc := 48) (As := [.int ((Int32.toInt8 (x1 >>> ((8 * x3) &&& 31))).toInt32)]) (st := []) dX10_feed_48 ok_X3_append ml_RX10_304 iv_X3_append pa_X3_append ⟨Nat.le_of_ble_eq_true rfl, Nat.le_of_ble_eq_true rfl⟩ (lyc rfl) (q_kV F (fun h1 F => ?_))
    obtain ⟨G1, F⟩ := F
    refine z_iinc (pc := 51) (v := x3 + (-1)) (ls' := [some (.ref 0), some (.int x1), some (.int x2), some (.int (x3 + (-1)))]) dX10_feed_51 (by decide) rfl rfl rfl ?_
    refine z_goto (pc := 54) (tgt := 33) dX10_feed_54 (by decide) ?_
    exact F
theorem g_X11_feed {x1 : Int32} {x2 : Int32} {h : zHp} {Q : Int32 → zHp → Prop}  (G : zG h) (F : (((1 : Int32) ≤ x2 ∧ x2 ≤ 4) → (((rI h 164 21) + x2 ≤ 120 → (zlI M_X11_feed 30 [some (.ref 164), some (.int x1), some (.int x2), some (.int (x2 - 1))] [] h Q)) ∧ (¬ ((rI h 164 21) + x2 ≤ 120) → (Q (-4) h)))) ∧ (¬ ((1 : Int32) ≤ x2 ∧ x2 ≤ 4) → (Q (-2) h))) : zcI M_X11_feed [.ref 164, .int x1, .int x2] h Q := by
  show zw zNT zNT M_X11_feed 0 [some (.ref 164), some (.int x1), some (.int x2), none] [] h _
  refine z_iload_n (pc := 0) dX11_feed_0 rfl rfl ?_
  refine z_iconst (pc := 1) (v := 1) dX11_feed_1 (by decide) ?_
  refine z_iconst (pc := 2) (v := 4) dX11_feed_2 (by decide) ?_
  refine q_invS (pc := 3) (As := [.int x2, .int 1, .int 4]) (st := []) dX11_feed_3 ok_X11_in ml_RX11_84 st_X11_in pa_X11_in ⟨Nat.le_of_ble_eq_true rfl, Nat.le_of_ble_eq_true rfl⟩ (q_pI (s_X11_in G) rfl ?_)
  refine z_if_ne (pc := 6) (tgt := 12) dX11_feed_6 (by decide) (fun k2 => ?_) (fun k2 => ?_)
  · replace F := F.1 (zbn.mp k2)
    refine z_aload_n (pc := 12) dX11_feed_12 rfl rfl ?_
    refine q_getI (pc := 13) (v := rI h 164 21) dX11_feed_13 lk_RX11_242 (lyc rfl) rfl ?_
    refine z_iload_n (pc := 16) dX11_feed_16 rfl rfl ?_
    refine z_iadd (pc := 17) dX11_feed_17 ?_
    refine z_bipush (pc := 18) (v := 120) dX11_feed_18 (by decide) ?_
    refine z_icmp_le (pc := 20) (tgt := 26) dX11_feed_20 (by decide) (fun k1 => ?_) (fun k1 => ?_)
    · replace F := F.1 k1
      refine z_iload_n (pc := 26) dX11_feed_26 rfl rfl ?_
      refine z_iconst (pc := 27) (v := 1) dX11_feed_27 (by decide) ?_
      refine z_isub (pc := 28) dX11_feed_28 ?_
      refine z_istore_n (pc := 29) (ls' := [some (.ref 164), some (.int x1), some (.int x2), some (.int (x2 - 1))]) dX11_feed_29 rfl (by decide) rfl ?_
      exact F
    · replace F := F.2 k1
      refine z_bipush (pc := 23) (v := -4) dX11_feed_23 (by decide) ?_
      exact q_retI (pc := 25) dX11_feed_25 rfl F
  · replace F := F.2 (zb0.mp k2)
    refine z_bipush (pc := 9) (v := -2) dX11_feed_9 (by decide) ?_
    exact q_retI (pc := 11) dX11_feed_11 rfl F
theorem g_X11_feed_30 {x1 : Int32} {x2 : Int32} {x3 : Int32} {h : zHp} {Q : Int32 → zHp → Prop}  (G : zG h) (F : (x3 < 0 → (Q (rI h 164 21) h)) ∧ (¬ (x3 < 0) → (vp_in (rI h 164 21) 120 ∧ (zlI M_X11_feed 30 [some (.ref 164), some (.int x1), some (.int x2), some (.int (x3 + (-1)))] [] (wI (wI h 174 ((Int32.toNatClampNeg (rI h 164 21))) ((x1 >>> ((8 * x3) &&& 31)) &&& 255)) 164 21 ((rI h 164 21) + 1)) Q)))) : zlI M_X11_feed 30 [some (.ref 164), some (.int x1), some (.int x2), some (.int x3)] [] h Q := by
  refine z_iload_n (pc := 30) dX11_feed_30 rfl rfl ?_
  refine z_if_lt (pc := 31) (tgt := 69) dX11_feed_31 (by decide) (fun k2 => ?_) (fun k2 => ?_)
  · replace F := F.1 k2
    refine z_aload_n (pc := 69) dX11_feed_69 rfl rfl ?_
    refine q_getI (pc := 70) (v := rI h 164 21) dX11_feed_70 lk_RX11_242 (lyc rfl) rfl ?_
    exact q_retI (pc := 73) dX11_feed_73 rfl F
  · replace F := F.2 k2
    refine z_aload_n (pc := 34) dX11_feed_34 rfl rfl ?_
    refine q_getR (pc := 35) (i := 174) dX11_feed_35 lk_RX11_37 (lyc rfl) (G 164 20 174 rfl) ?_
    refine z_aload_n (pc := 38) dX11_feed_38 rfl rfl ?_
    refine q_getI (pc := 39) (v := rI h 164 21) dX11_feed_39 lk_RX11_242 (lyc rfl) rfl ?_
    refine z_iload_n (pc := 42) dX11_feed_42 rfl rfl ?_
    refine z_bipush (pc := 43) (v := 8) dX11_feed_43 (by decide) ?_
    refine z_iload_n (pc := 45) dX11_feed_45 rfl rfl ?_
    refine z_imul (pc := 46) dX11_feed_46 ?_
    refine z_ishr (pc := 47) dX11_feed_47 ?_
    refine z_sipush (pc := 48) (v := 255) dX11_feed_48 (by decide) ?_
    refine z_iand (pc := 51) dX11_feed_51 ?_
    obtain ⟨k1, F⟩ := F
    refine q_iast (pc := 52) (j := (Int32.toNatClampNeg (rI h 164 21))) dX11_feed_52 (lyc rfl) (zvn (lnc rfl) k1) rfl ?_
    refine z_aload_n (pc := 53) dX11_feed_53 rfl rfl ?_
    refine z_dup (pc := 54) dX11_feed_54 rfl ?_
    refine q_getI (pc := 55) (v := rI h 164 21) dX11_feed_55 lk_RX11_242 (lyc rfl) (rI_c (by decide)) ?_
    refine z_iconst (pc := 58) (v := 1) dX11_feed_58 (by decide) ?_
    refine z_iadd (pc := 59) dX11_feed_59 ?_
    refine q_putI (pc := 60) dX11_feed_60 lk_RX11_242 (lyc rfl) ?_
    refine z_iinc (pc := 63) (v := x3 + (-1)) (ls' := [some (.ref 164), some (.int x1), some (.int x2), some (.int (x3 + (-1)))]) dX11_feed_63 (by decide) rfl rfl rfl ?_
    refine z_goto (pc := 66) (tgt := 30) dX11_feed_66 (by decide) ?_
    exact F
theorem g_X10_wipe  {h : zHp} {Q : Int32 → zHp → Prop}  (G : zG h) (F : Q (rI h 141 1) (wI h 141 1 0)) : zcI M_X10_wipe [.ref 0] h Q := by
  show zw zNT zNT M_X10_wipe 0 [some (.ref 0), none] [] h _
  refine z_aload_n (pc := 0) dX10_wipe_0 rfl rfl ?_
  refine q_getR (pc := 1) (i := 141) dX10_wipe_1 lk_RX10_53 (lyc rfl) (G 0 8 141 rfl) ?_
  refine q_getI (pc := 4) (v := rI h 141 1) dX10_wipe_4 lk_RX10_301 (lyc rfl) rfl ?_
  refine z_istore_n (pc := 7) (ls' := [some (.ref 0), some (.int (rI h 141 1))]) dX10_wipe_7 rfl (by decide) rfl ?_
  refine z_aload_n (pc := 8) dX10_wipe_8 rfl rfl ?_
  refine q_getR (pc := 9) (i := 141) dX10_wipe_9 lk_RX10_53 (lyc rfl) (G 0 8 141 rfl) ?_
  refine z_iconst (pc := 12) (v := 0) dX10_wipe_12 (by decide) ?_
  refine q_putI (pc := 13) dX10_wipe_13 lk_RX10_301 (lyc rfl) ?_
  refine z_iload_n (pc := 16) dX10_wipe_16 rfl rfl ?_
  exact q_retI (pc := 17) dX10_wipe_17 rfl F
theorem g_X11_wipe  {h : zHp} {Q : Int32 → zHp → Prop}  (G : zG h) (F : Q (rI h 164 21) (wI h 164 21 0)) : zcI M_X11_wipe [.ref 164] h Q := by
  show zw zNT zNT M_X11_wipe 0 [some (.ref 164), none] [] h _
  refine z_aload_n (pc := 0) dX11_wipe_0 rfl rfl ?_
  refine q_getI (pc := 1) (v := rI h 164 21) dX11_wipe_1 lk_RX11_242 (lyc rfl) rfl ?_
  refine z_istore_n (pc := 4) (ls' := [some (.ref 164), some (.int (rI h 164 21))]) dX11_wipe_4 rfl (by decide) rfl ?_
  refine z_aload_n (pc := 5) dX11_wipe_5 rfl rfl ?_
  refine z_iconst (pc := 6) (v := 0) dX11_wipe_6 (by decide) ?_
  refine q_putI (pc := 7) dX11_wipe_7 lk_RX11_242 (lyc rfl) ?_
  refine z_iload_n (pc := 10) dX11_wipe_10 rfl rfl ?_
  exact q_retI (pc := 11) dX11_wipe_11 rfl F
theorem g_X5_become {c0 : Nat} {x1 : Int32} {x2 : Int32} {h : zHp} {Q : zHp → Prop} (hc0 : zSh c0) (G : zG h) (F : zlV M_X5_become 12 [some (.ref c0), some (.int x1), some (.int x2), some (.int 0)] [] (wI (wI h c0 0 x1) c0 1 x2) Q) : zcV M_X5_become [.ref c0, .int x1, .int x2] h Q := by
  show zw zNT zNT M_X5_become 0 [some (.ref c0), some (.int x1), some (.int x2), none] [] h _
  refine z_aload_n (pc := 0) dX5_become_0 rfl rfl ?_
  refine z_iload_n (pc := 1) dX5_become_1 rfl rfl ?_
  refine q_putI (pc := 2) dX5_become_2 lk_RX5_9 (lySh0 hc0) ?_
  refine z_aload_n (pc := 5) dX5_become_5 rfl rfl ?_
  refine z_iload_n (pc := 6) dX5_become_6 rfl rfl ?_
  refine q_putI (pc := 7) dX5_become_7 lk_RX5_19 (lySh0 hc0) ?_
  refine z_iconst (pc := 10) (v := 0) dX5_become_10 (by decide) ?_
  refine z_istore_n (pc := 11) (ls' := [some (.ref c0), some (.int x1), some (.int x2), some (.int 0)]) dX5_become_11 rfl (by decide) rfl ?_
  exact F
theorem g_X5_become_12 {c0 : Nat} {x1 : Int32} {x2 : Int32} {x3 : Int32} {h : zHp} {Q : zHp → Prop} (hc0 : zSh c0) (G : zG h) (F : (40 ≤ x3 → (Q h)) ∧ (¬ (40 ≤ x3) → (vp_in x3 40 ∧ (zlV M_X5_become 12 [some (.ref c0), some (.int x1), some (.int x2), some (.int (x3 + 1))] [] (wI h (c0 + 1) ((Int32.toNatClampNeg x3)) 0) Q)))) : zlV M_X5_become 12 [some (.ref c0), some (.int x1), some (.int x2), some (.int x3)] [] h Q := by
  refine z_iload_n (pc := 12) dX5_become_12 rfl rfl ?_
  refine z_bipush (pc := 13) (v := 40) dX5_become_13 (by decide) ?_
  refine z_icmp_ge (pc := 15) (tgt := 31) dX5_become_15 (by decide) (fun k2 => ?_) (fun k2 => ?_)
  · replace F := F.1 k2
    exact q_retV (pc := 31) dX5_become_31 rfl F
  · replace F := F.2 k2
    refine z_aload_n (pc := 18) dX5_become_18 rfl rfl ?_
    refine q_getR (pc := 19) (i := c0 + 1) dX5_become_19 lk_RX5_15 (lySh0 hc0) (grSh2 G hc0) ?_
    refine z_iload_n (pc := 22) dX5_become_22 rfl rfl ?_
    refine z_iconst (pc := 23) (v := 0) dX5_become_23 (by decide) ?_
    obtain ⟨k1, F⟩ := F
    refine q_iast (pc := 24) (j := (Int32.toNatClampNeg x3)) dX5_become_24 (lySh1 hc0) (zvn (lnSh1 hc0) k1) rfl ?_
    refine z_iinc (pc := 25) (v := x3 + 1) (ls' := [some (.ref c0), some (.int x1), some (.int x2), some (.int (x3 + 1))]) dX5_become_25 (by decide) rfl rfl rfl ?_
    refine z_goto (pc := 28) (tgt := 12) dX5_become_28 (by decide) ?_
    exact F
theorem g_X10_sheet {x1 : Int32} {x2 : Int32} {x3 : Int32} {h : zHp} {Q : Int32 → zHp → Prop}  (G : zG h) (F : (¬ ((0 : Int32) ≤ x1 ∧ x1 ≤ 3) → (Q (-2) h)) ∧ (((0 : Int32) ≤ x1 ∧ x1 ≤ 3) → ((((-1 : Int32) ≤ x2 ∧ x2 ≤ 1) → ((¬ x2 = -1 → ((x3 ≤ 40 → ((0 ≤ x3 → (vp_in x1 4 ∧ (zcV M_X5_become [.ref (156 + 2 * (Int32.toNatClampNeg x1)), .int x2, .int x3] h (fun h1 => zG h1 ∧ (Q 1 h1))))) ∧ (¬ (0 ≤ x3) → (Q (-14) h)))) ∧ (¬ (x3 ≤ 40) → (Q (-2) h)))) ∧ (x2 = -1 → (vp_in x1 4 ∧ (zcV M_X5_become [.ref (156 + 2 * (Int32.toNatClampNeg x1)), .int (-1), .int 0] h (fun h2 => zG h2 ∧ (Q 1 h2))))))) ∧ (¬ ((-1 : Int32) ≤ x2 ∧ x2 ≤ 1) → (Q (-2) h))))) : zcI M_X10_sheet [.ref 0, .int x1, .int x2, .int x3] h Q := by
  show zw zNT zNT M_X10_sheet 0 [some (.ref 0), some (.int x1), some (.int x2), some (.int x3)] [] h _
  refine z_iload_n (pc := 0) dX10_sheet_0 rfl rfl ?_
  refine z_iconst (pc := 1) (v := 0) dX10_sheet_1 (by decide) ?_
  refine z_iconst (pc := 2) (v := 3) dX10_sheet_2 (by decide) ?_
  refine q_invS (pc := 3) (As := [.int x1, .int 0, .int 3]) (st := []) dX10_sheet_3 ok_X10_within ml_RX10_82 st_X10_within pa_X10_within ⟨Nat.le_of_ble_eq_true rfl, Nat.le_of_ble_eq_true rfl⟩ (q_pI (s_X10_within G) rfl ?_)
  refine z_if_eq (pc := 6) (tgt := 18) dX10_sheet_6 (by decide) (fun k9 => ?_) (fun k9 => ?_)
  · replace F := F.1 (zb0.mp k9)
    refine z_bipush (pc := 18) (v := -2) dX10_sheet_18 (by decide) ?_
    exact q_retI (pc := 20) dX10_sheet_20 rfl F
  · replace F := F.2 (zbn.mp k9)
    refine z_iload_n (pc := 9) dX10_sheet_9 rfl rfl ?_
    refine z_iconst (pc := 10) (v := -1) dX10_sheet_10 (by decide) ?_
    refine z_iconst (pc := 11) (v := 1) dX10_sheet_11 (by decide) ?_
    refine q_invS (pc := 12) (As := [.int x2, .int (-1), .int 1]) (st := []) dX10_sheet_12 ok_X10_within ml_RX10_82 st_X10_within pa_X10_within ⟨Nat.le_of_ble_eq_true rfl, Nat.le_of_ble_eq_true rfl⟩ (q_pI (s_X10_within G) rfl ?_)
    refine z_if_ne (pc := 15) (tgt := 21) dX10_sheet_15 (by decide) (fun k8 => ?_) (fun k8 => ?_)
    · replace F := F.1 (zbn.mp k8)
      refine z_iload_n (pc := 21) dX10_sheet_21 rfl rfl ?_
      refine z_iconst (pc := 22) (v := -1) dX10_sheet_22 (by decide) ?_
      refine z_icmp_ne (pc := 23) (tgt := 39) dX10_sheet_23 (by decide) (fun k7 => ?_) (fun k7 => ?_)
      · replace F := F.1 k7
        refine z_iload_n (pc := 39) dX10_sheet_39 rfl rfl ?_
        refine z_bipush (pc := 40) (v := 40) dX10_sheet_40 (by decide) ?_
        refine z_icmp_le (pc := 42) (tgt := 48) dX10_sheet_42 (by decide) (fun k4 => ?_) (fun k4 => ?_)
        · replace F := F.1 k4
          refine z_iload_n (pc := 48) dX10_sheet_48 rfl rfl ?_
          refine z_if_ge (pc := 49) (tgt := 55) dX10_sheet_49 (by decide) (fun k3 => ?_) (fun k3 => ?_)
          · replace F := F.1 k3
            refine z_aload_n (pc := 55) dX10_sheet_55 rfl rfl ?_
            refine q_getR (pc := 56) (i := 154) dX10_sheet_56 lk_RX10_59 (lyc rfl) (G 0 9 154 rfl) ?_
            refine z_iload_n (pc := 59) dX10_sheet_59 rfl rfl ?_
            obtain ⟨k1, F⟩ := F
            refine q_aald (pc := 60) (j := (Int32.toNatClampNeg x1)) (r := 156 + 2 * (Int32.toNatClampNeg x1)) (t := 4) dX10_sheet_60 (lyc rfl) (zvn (lnc rfl) k1) rfl (grS G (zvi k1)) ?_
            refine z_iload_n (pc := 61) dX10_sheet_61 rfl rfl ?_
            refine z_iload_n (pc := 62) dX10_sheet_62 rfl rfl ?_
            refine q_invV (pc := 63) (As := [.int x2, .int x3]) (st := []) dX10_sheet_63 ok_X5_become ml_RX10_323 iv_X5_become pa_X5_become ⟨Nat.le_of_ble_eq_true rfl, Nat.le_of_ble_eq_true rfl⟩ (lySh0 (shS (zvi k1))) (q_kV F (fun h1 F => ?_))
            obtain ⟨G1, F⟩ := F
            refine z_iconst (pc := 66) (v := 1) dX10_sheet_66 (by decide) ?_
            exact q_retI (pc := 67) dX10_sheet_67 rfl F
          · replace F := F.2 k3
            refine z_bipush (pc := 52) (v := -14) dX10_sheet_52 (by decide) ?_
            exact q_retI (pc := 54) dX10_sheet_54 rfl F
        · replace F := F.2 k4
          refine z_bipush (pc := 45) (v := -2) dX10_sheet_45 (by decide) ?_
          exact q_retI (pc := 47) dX10_sheet_47 rfl F
      · replace F := F.2 k7
        refine z_aload_n (pc := 26) dX10_sheet_26 rfl rfl ?_
        refine q_getR (pc := 27) (i := 154) dX10_sheet_27 lk_RX10_59 (lyc rfl) (G 0 9 154 rfl) ?_
        refine z_iload_n (pc := 30) dX10_sheet_30 rfl rfl ?_
        obtain ⟨k5, F⟩ := F
        refine q_aald (pc := 31) (j := (Int32.toNatClampNeg x1)) (r := 156 + 2 * (Int32.toNatClampNeg x1)) (t := 4) dX10_sheet_31 (lyc rfl) (zvn (lnc rfl) k5) rfl (grS G (zvi k5)) ?_
        refine z_iconst (pc := 32) (v := -1) dX10_sheet_32 (by decide) ?_
        refine z_iconst (pc := 33) (v := 0) dX10_sheet_33 (by decide) ?_
        refine q_invV (pc := 34) (As := [.int (-1), .int 0]) (st := []) dX10_sheet_34 ok_X5_become ml_RX10_323 iv_X5_become pa_X5_become ⟨Nat.le_of_ble_eq_true rfl, Nat.le_of_ble_eq_true rfl⟩ (lySh0 (shS (zvi k5))) (q_kV F (fun h2 F => ?_))
        obtain ⟨G2, F⟩ := F
        refine z_iconst (pc := 37) (v := 1) dX10_sheet_37 (by decide) ?_
        exact q_retI (pc := 38) dX10_sheet_38 rfl F
    · replace F := F.2 (zb0.mp k8)
      refine z_bipush (pc := 18) (v := -2) dX10_sheet_18 (by decide) ?_
      exact q_retI (pc := 20) dX10_sheet_20 rfl F
theorem g_X11_sheet {x1 : Int32} {x2 : Int32} {x3 : Int32} {h : zHp} {Q : Int32 → zHp → Prop}  (G : zG h) (F : (¬ (0 ≤ x1 ∧ x1 ≤ 3) → (Q (-2) h)) ∧ ((0 ≤ x1 ∧ x1 ≤ 3) → ((¬ ((-1 : Int32) ≤ x2 ∧ x2 ≤ 1) → (Q (-2) h)) ∧ (((-1 : Int32) ≤ x2 ∧ x2 ≤ 1) → ((x2 = -1 → ((x2 = -1 → (zlI M_X11_sheet 42 [some (.ref 164), some (.int x1), some (.int x2), some (.int x3), none] [] h Q)) ∧ (¬ (x2 = -1) → ((0 ≤ x3 → (zlI M_X11_sheet 42 [some (.ref 164), some (.int x1), some (.int x2), some (.int x3), none] [] h Q)) ∧ (¬ (0 ≤ x3) → (Q (-14) h)))))) ∧ (¬ (x2 = -1) → ((x3 ≤ 40 → ((x2 = -1 → (zlI M_X11_sheet 42 [some (.ref 164), some (.int x1), some (.int x2), some (.int x3), none] [] h Q)) ∧ (¬ (x2 = -1) → ((0 ≤ x3 → (zlI M_X11_sheet 42 [some (.ref 164), some (.int x1), some (.int x2), some (.int x3), none] [] h Q)) ∧ (¬ (0 ≤ x3) → (Q (-14) h)))))) ∧ (¬ (x3 ≤ 40) → (Q (-2) h))))))))) : zcI M_X11_sheet [.ref 164, .int x1, .int x2, .int x3] h Q := by
  show zw zNT zNT M_X11_sheet 0 [some (.ref 164), some (.int x1), some (.int x2), some (.int x3), none] [] h _
  refine z_iload_n (pc := 0) dX11_sheet_0 rfl rfl ?_
  refine q_invS (pc := 1) (As := [.int x1]) (st := []) dX11_sheet_1 ok_X11_isSheet ml_RX11_297 st_X11_isSheet pa_X11_isSheet ⟨Nat.le_of_ble_eq_true rfl, Nat.le_of_ble_eq_true rfl⟩ (q_pI (s_X11_isSheet G) rfl ?_)
  refine z_if_eq (pc := 4) (tgt := 27) dX11_sheet_4 (by decide) (fun k8 => ?_) (fun k8 => ?_)
  · replace F := F.1 (zb0.mp k8)
    refine z_bipush (pc := 27) (v := -2) dX11_sheet_27 (by decide) ?_
    exact q_retI (pc := 29) dX11_sheet_29 rfl F
  · replace F := F.2 (zbn.mp k8)
    refine z_iload_n (pc := 7) dX11_sheet_7 rfl rfl ?_
    refine z_iconst (pc := 8) (v := -1) dX11_sheet_8 (by decide) ?_
    refine z_iconst (pc := 9) (v := 1) dX11_sheet_9 (by decide) ?_
    refine q_invS (pc := 10) (As := [.int x2, .int (-1), .int 1]) (st := []) dX11_sheet_10 ok_X11_in ml_RX11_84 st_X11_in pa_X11_in ⟨Nat.le_of_ble_eq_true rfl, Nat.le_of_ble_eq_true rfl⟩ (q_pI (s_X11_in G) rfl ?_)
    refine z_if_eq (pc := 13) (tgt := 27) dX11_sheet_13 (by decide) (fun k7 => ?_) (fun k7 => ?_)
    · replace F := F.1 (zb0.mp k7)
      refine z_bipush (pc := 27) (v := -2) dX11_sheet_27 (by decide) ?_
      exact q_retI (pc := 29) dX11_sheet_29 rfl F
    · replace F := F.2 (zbn.mp k7)
      refine z_iload_n (pc := 16) dX11_sheet_16 rfl rfl ?_
      refine z_iconst (pc := 17) (v := -1) dX11_sheet_17 (by decide) ?_
      refine z_icmp_eq (pc := 18) (tgt := 30) dX11_sheet_18 (by decide) (fun k6 => ?_) (fun k6 => ?_)
      · replace F := F.1 k6
        refine z_iload_n (pc := 30) dX11_sheet_30 rfl rfl ?_
        refine z_iconst (pc := 31) (v := -1) dX11_sheet_31 (by decide) ?_
        refine z_icmp_eq (pc := 32) (tgt := 42) dX11_sheet_32 (by decide) (fun k2 => ?_) (fun k2 => ?_)
        · replace F := F.1 k2
          exact F
        · replace F := F.2 k2
          refine z_iload_n (pc := 35) dX11_sheet_35 rfl rfl ?_
          refine z_if_ge (pc := 36) (tgt := 42) dX11_sheet_36 (by decide) (fun k1 => ?_) (fun k1 => ?_)
          · replace F := F.1 k1
            exact F
          · replace F := F.2 k1
            refine z_bipush (pc := 39) (v := -14) dX11_sheet_39 (by decide) ?_
            exact q_retI (pc := 41) dX11_sheet_41 rfl F
      · replace F := F.2 k6
        refine z_iload_n (pc := 21) dX11_sheet_21 rfl rfl ?_
        refine z_bipush (pc := 22) (v := 40) dX11_sheet_22 (by decide) ?_
        refine z_icmp_le (pc := 24) (tgt := 30) dX11_sheet_24 (by decide) (fun k5 => ?_) (fun k5 => ?_)
        · replace F := F.1 k5
          refine z_iload_n (pc := 30) dX11_sheet_30 rfl rfl ?_
          refine z_iconst (pc := 31) (v := -1) dX11_sheet_31 (by decide) ?_
          refine z_icmp_eq (pc := 32) (tgt := 42) dX11_sheet_32 (by decide) (fun k4 => ?_) (fun k4 => ?_)
          · replace F := F.1 k4
            exact F
          · replace F := F.2 k4
            refine z_iload_n (pc := 35) dX11_sheet_35 rfl rfl ?_
            refine z_if_ge (pc := 36) (tgt := 42) dX11_sheet_36 (by decide) (fun k3 => ?_) (fun k3 => ?_)
            · replace F := F.1 k3
              exact F
            · replace F := F.2 k3
              refine z_bipush (pc := 39) (v := -14) dX11_sheet_39 (by decide) ?_
              exact q_retI (pc := 41) dX11_sheet_41 rfl F
        · replace F := F.2 k5
          refine z_bipush (pc := 27) (v := -2) dX11_sheet_27 (by decide) ?_
          exact q_retI (pc := 29) dX11_sheet_29 rfl F
theorem g_X11_sheet_42 {x1 : Int32} {x2 : Int32} {x3 : Int32} {h : zHp} {Q : Int32 → zHp → Prop}  (G : zG h) (F : vp_in x1 4 ∧ ((¬ x2 = -1 → (zlI M_X11_sheet 68 [some (.ref 164), some (.int x1), some (.int x2), some (.int x3), some (.int 0)] [] (wI (wI h 178 ((Int32.toNatClampNeg x1)) x2) 179 ((Int32.toNatClampNeg x1)) x3) Q)) ∧ (x2 = -1 → (zlI M_X11_sheet 68 [some (.ref 164), some (.int x1), some (.int x2), some (.int x3), some (.int 0)] [] (wI (wI h 178 ((Int32.toNatClampNeg x1)) x2) 179 ((Int32.toNatClampNeg x1)) 0) Q)))) : zlI M_X11_sheet 42 [some (.ref 164), some (.int x1), some (.int x2), some (.int x3), none] [] h Q := by
  refine z_aload_n (pc := 42) dX11_sheet_42 rfl rfl ?_
  refine q_getR (pc := 43) (i := 178) dX11_sheet_43 lk_RX11_75 (lyc rfl) (G 164 30 178 rfl) ?_
  refine z_iload_n (pc := 46) dX11_sheet_46 rfl rfl ?_
  refine z_iload_n (pc := 47) dX11_sheet_47 rfl rfl ?_
  obtain ⟨k1, F⟩ := F
  refine q_iast (pc := 48) (j := (Int32.toNatClampNeg x1)) dX11_sheet_48 (lyc rfl) (zvn (lnc rfl) k1) rfl ?_
  refine z_aload_n (pc := 49) dX11_sheet_49 rfl rfl ?_
  refine q_getR (pc := 50) (i := 179) dX11_sheet_50 lk_RX11_78 (lyc rfl) (G 164 31 179 rfl) ?_
  refine z_iload_n (pc := 53) dX11_sheet_53 rfl rfl ?_
  refine z_iload_n (pc := 54) dX11_sheet_54 rfl rfl ?_
  refine z_iconst (pc := 55) (v := -1) dX11_sheet_55 (by decide) ?_
  refine z_icmp_ne (pc := 56) (tgt := 63) dX11_sheet_56 (by decide) (fun k2 => ?_) (fun k2 => ?_)
  · replace F := F.1 k2
    refine z_iload_n (pc := 63) dX11_sheet_63 rfl rfl ?_
    refine q_iast (pc := 64) (j := (Int32.toNatClampNeg x1)) dX11_sheet_64 (lyc rfl) (zvn (lnc rfl) k1) rfl ?_
    refine z_iconst (pc := 65) (v := 0) dX11_sheet_65 (by decide) ?_
    refine z_istore (pc := 66) (ls' := [some (.ref 164), some (.int x1), some (.int x2), some (.int x3), some (.int 0)]) dX11_sheet_66 (by decide) rfl ?_
    exact F
  · replace F := F.2 k2
    refine z_iconst (pc := 59) (v := 0) dX11_sheet_59 (by decide) ?_
    refine z_goto (pc := 60) (tgt := 64) dX11_sheet_60 (by decide) ?_
    refine q_iast (pc := 64) (j := (Int32.toNatClampNeg x1)) dX11_sheet_64 (lyc rfl) (zvn (lnc rfl) k1) rfl ?_
    refine z_iconst (pc := 65) (v := 0) dX11_sheet_65 (by decide) ?_
    refine z_istore (pc := 66) (ls' := [some (.ref 164), some (.int x1), some (.int x2), some (.int x3), some (.int 0)]) dX11_sheet_66 (by decide) rfl ?_
    exact F
theorem g_X11_sheet_68 {x1 : Int32} {x2 : Int32} {x3 : Int32} {x4 : Int32} {h : zHp} {Q : Int32 → zHp → Prop}  (G : zG h) (F : (40 ≤ x4 → (Q 1 h)) ∧ (¬ (40 ≤ x4) → (vp_in ((40 * x1) + x4) 160 ∧ (zlI M_X11_sheet 68 [some (.ref 164), some (.int x1), some (.int x2), some (.int x3), some (.int (x4 + 1))] [] (wI h 180 ((Int32.toNatClampNeg ((40 * x1) + x4))) 0) Q)))) : zlI M_X11_sheet 68 [some (.ref 164), some (.int x1), some (.int x2), some (.int x3), some (.int x4)] [] h Q := by
  refine z_iload (pc := 68) dX11_sheet_68 rfl ?_
  refine z_bipush (pc := 70) (v := 40) dX11_sheet_70 (by decide) ?_
  refine z_icmp_ge (pc := 72) (tgt := 94) dX11_sheet_72 (by decide) (fun k2 => ?_) (fun k2 => ?_)
  · replace F := F.1 k2
    refine z_iconst (pc := 94) (v := 1) dX11_sheet_94 (by decide) ?_
    exact q_retI (pc := 95) dX11_sheet_95 rfl F
  · replace F := F.2 k2
    refine z_aload_n (pc := 75) dX11_sheet_75 rfl rfl ?_
    refine q_getR (pc := 76) (i := 180) dX11_sheet_76 lk_RX11_81 (lyc rfl) (G 164 32 180 rfl) ?_
    refine z_bipush (pc := 79) (v := 40) dX11_sheet_79 (by decide) ?_
    refine z_iload_n (pc := 81) dX11_sheet_81 rfl rfl ?_
    refine z_imul (pc := 82) dX11_sheet_82 ?_
    refine z_iload (pc := 83) dX11_sheet_83 rfl ?_
    refine z_iadd (pc := 85) dX11_sheet_85 ?_
    refine z_iconst (pc := 86) (v := 0) dX11_sheet_86 (by decide) ?_
    obtain ⟨k1, F⟩ := F
    refine q_iast (pc := 87) (j := (Int32.toNatClampNeg ((40 * x1) + x4))) dX11_sheet_87 (lyc rfl) (zvn (lnc rfl) k1) rfl ?_
    refine z_iinc (pc := 88) (v := x4 + 1) (ls' := [some (.ref 164), some (.int x1), some (.int x2), some (.int x3), some (.int (x4 + 1))]) dX11_sheet_88 (by decide) rfl rfl rfl ?_
    refine z_goto (pc := 91) (tgt := 68) dX11_sheet_91 (by decide) ?_
    exact F
theorem g_X10_refusePlace {x1 : Int32} {x2 : Int32} {h : zHp} {Q : Int32 → zHp → Prop}  (G : zG h) (F : (((0 : Int32) ≤ x1 ∧ x1 ≤ 3) → (vp_in x1 4 ∧ ((¬ rI h (156 + 2 * (Int32.toNatClampNeg x1)) 0 = -1 → ((¬ ((0 : Int32) ≤ x2 ∧ x2 ≤ (rI h (156 + 2 * (Int32.toNatClampNeg x1)) 1) - 1) → (Q (-12) h)) ∧ (((0 : Int32) ≤ x2 ∧ x2 ≤ (rI h (156 + 2 * (Int32.toNatClampNeg x1)) 1) - 1) → (Q 0 h)))) ∧ (rI h (156 + 2 * (Int32.toNatClampNeg x1)) 0 = -1 → (Q (-11) h))))) ∧ (¬ ((0 : Int32) ≤ x1 ∧ x1 ≤ 3) → (Q (-2) h))) : zcI M_X10_refusePlace [.ref 0, .int x1, .int x2] h Q := by
  show zw zNT zNT M_X10_refusePlace 0 [some (.ref 0), some (.int x1), some (.int x2)] [] h _
  refine z_iload_n (pc := 0) dX10_refusePlace_0 rfl rfl ?_
  refine z_iconst (pc := 1) (v := 0) dX10_refusePlace_1 (by decide) ?_
  refine z_iconst (pc := 2) (v := 3) dX10_refusePlace_2 (by decide) ?_
  refine q_invS (pc := 3) (As := [.int x1, .int 0, .int 3]) (st := []) dX10_refusePlace_3 ok_X10_within ml_RX10_82 st_X10_within pa_X10_within ⟨Nat.le_of_ble_eq_true rfl, Nat.le_of_ble_eq_true rfl⟩ (q_pI (s_X10_within G) rfl ?_)
  refine z_if_ne (pc := 6) (tgt := 12) dX10_refusePlace_6 (by decide) (fun k4 => ?_) (fun k4 => ?_)
  · replace F := F.1 (zbn.mp k4)
    refine z_aload_n (pc := 12) dX10_refusePlace_12 rfl rfl ?_
    refine q_getR (pc := 13) (i := 154) dX10_refusePlace_13 lk_RX10_59 (lyc rfl) (G 0 9 154 rfl) ?_
    refine z_iload_n (pc := 16) dX10_refusePlace_16 rfl rfl ?_
    obtain ⟨k1, F⟩ := F
    refine q_aald (pc := 17) (j := (Int32.toNatClampNeg x1)) (r := 156 + 2 * (Int32.toNatClampNeg x1)) (t := 4) dX10_refusePlace_17 (lyc rfl) (zvn (lnc rfl) k1) rfl (grS G (zvi k1)) ?_
    refine q_getI (pc := 18) (v := rI h (156 + 2 * (Int32.toNatClampNeg x1)) 0) dX10_refusePlace_18 lk_RX10_361 (lySh0 (shS (zvi k1))) rfl ?_
    refine z_iconst (pc := 21) (v := -1) dX10_refusePlace_21 (by decide) ?_
    refine z_icmp_ne (pc := 22) (tgt := 28) dX10_refusePlace_22 (by decide) (fun k3 => ?_) (fun k3 => ?_)
    · replace F := F.1 k3
      refine z_iload_n (pc := 28) dX10_refusePlace_28 rfl rfl ?_
      refine z_iconst (pc := 29) (v := 0) dX10_refusePlace_29 (by decide) ?_
      refine z_aload_n (pc := 30) dX10_refusePlace_30 rfl rfl ?_
      refine q_getR (pc := 31) (i := 154) dX10_refusePlace_31 lk_RX10_59 (lyc rfl) (G 0 9 154 rfl) ?_
      refine z_iload_n (pc := 34) dX10_refusePlace_34 rfl rfl ?_
      refine q_aald (pc := 35) (j := (Int32.toNatClampNeg x1)) (r := 156 + 2 * (Int32.toNatClampNeg x1)) (t := 4) dX10_refusePlace_35 (lyc rfl) (zvn (lnc rfl) k1) rfl (grS G (zvi k1)) ?_
      refine q_getI (pc := 36) (v := rI h (156 + 2 * (Int32.toNatClampNeg x1)) 1) dX10_refusePlace_36 lk_RX10_348 (lySh0 (shS (zvi k1))) rfl ?_
      refine z_iconst (pc := 39) (v := 1) dX10_refusePlace_39 (by decide) ?_
      refine z_isub (pc := 40) dX10_refusePlace_40 ?_
      refine q_invS (pc := 41) (As := [.int x2, .int 0, .int ((rI h (156 + 2 * (Int32.toNatClampNeg x1)) 1) - 1)]) (st := []) dX10_refusePlace_41 ok_X10_within ml_RX10_82 st_X10_within pa_X10_within ⟨Nat.le_of_ble_eq_true rfl, Nat.le_of_ble_eq_true rfl⟩ (q_pI (s_X10_within G) rfl ?_)
      refine z_if_eq (pc := 44) (tgt := 51) dX10_refusePlace_44 (by decide) (fun k2 => ?_) (fun k2 => ?_)
      · replace F := F.1 (zb0.mp k2)
        refine z_bipush (pc := 51) (v := -12) dX10_refusePlace_51 (by decide) ?_
        exact q_retI (pc := 53) dX10_refusePlace_53 rfl F
      · replace F := F.2 (zbn.mp k2)
        refine z_iconst (pc := 47) (v := 0) dX10_refusePlace_47 (by decide) ?_
        refine z_goto (pc := 48) (tgt := 53) dX10_refusePlace_48 (by decide) ?_
        exact q_retI (pc := 53) dX10_refusePlace_53 rfl F
    · replace F := F.2 k3
      refine z_bipush (pc := 25) (v := -11) dX10_refusePlace_25 (by decide) ?_
      exact q_retI (pc := 27) dX10_refusePlace_27 rfl F
  · replace F := F.2 (zb0.mp k4)
    refine z_bipush (pc := 9) (v := -2) dX10_refusePlace_9 (by decide) ?_
    exact q_retI (pc := 11) dX10_refusePlace_11 rfl F
theorem g_X11_wrongAt {x1 : Int32} {x2 : Int32} {h : zHp} {Q : Int32 → zHp → Prop}  (G : zG h) (F : ((0 ≤ x1 ∧ x1 ≤ 3) → (vp_in x1 4 ∧ ((¬ rI h 178 ((Int32.toNatClampNeg x1)) = -1 → ((¬ ((0 : Int32) ≤ x2 ∧ x2 ≤ (rI h 179 ((Int32.toNatClampNeg x1))) - 1) → (Q (-12) h)) ∧ (((0 : Int32) ≤ x2 ∧ x2 ≤ (rI h 179 ((Int32.toNatClampNeg x1))) - 1) → (Q 0 h)))) ∧ (rI h 178 ((Int32.toNatClampNeg x1)) = -1 → (Q (-11) h))))) ∧ (¬ (0 ≤ x1 ∧ x1 ≤ 3) → (Q (-2) h))) : zcI M_X11_wrongAt [.ref 164, .int x1, .int x2] h Q := by
  show zw zNT zNT M_X11_wrongAt 0 [some (.ref 164), some (.int x1), some (.int x2)] [] h _
  refine z_iload_n (pc := 0) dX11_wrongAt_0 rfl rfl ?_
  refine q_invS (pc := 1) (As := [.int x1]) (st := []) dX11_wrongAt_1 ok_X11_isSheet ml_RX11_297 st_X11_isSheet pa_X11_isSheet ⟨Nat.le_of_ble_eq_true rfl, Nat.le_of_ble_eq_true rfl⟩ (q_pI (s_X11_isSheet G) rfl ?_)
  refine z_if_ne (pc := 4) (tgt := 12) dX11_wrongAt_4 (by decide) (fun k4 => ?_) (fun k4 => ?_)
  · replace F := F.1 (zbn.mp k4)
    refine z_aload_n (pc := 12) dX11_wrongAt_12 rfl rfl ?_
    refine q_getR (pc := 13) (i := 178) dX11_wrongAt_13 lk_RX11_75 (lyc rfl) (G 164 30 178 rfl) ?_
    refine z_iload_n (pc := 16) dX11_wrongAt_16 rfl rfl ?_
    obtain ⟨k1, F⟩ := F
    refine q_iald (pc := 17) (j := (Int32.toNatClampNeg x1)) (v := rI h 178 ((Int32.toNatClampNeg x1))) dX11_wrongAt_17 (lyc rfl) (zvn (lnc rfl) k1) rfl rfl ?_
    refine z_iconst (pc := 18) (v := -1) dX11_wrongAt_18 (by decide) ?_
    refine z_icmp_ne (pc := 19) (tgt := 27) dX11_wrongAt_19 (by decide) (fun k3 => ?_) (fun k3 => ?_)
    · replace F := F.1 k3
      refine z_iload_n (pc := 27) dX11_wrongAt_27 rfl rfl ?_
      refine z_iconst (pc := 28) (v := 0) dX11_wrongAt_28 (by decide) ?_
      refine z_aload_n (pc := 29) dX11_wrongAt_29 rfl rfl ?_
      refine q_getR (pc := 30) (i := 179) dX11_wrongAt_30 lk_RX11_78 (lyc rfl) (G 164 31 179 rfl) ?_
      refine z_iload_n (pc := 33) dX11_wrongAt_33 rfl rfl ?_
      refine q_iald (pc := 34) (j := (Int32.toNatClampNeg x1)) (v := rI h 179 ((Int32.toNatClampNeg x1))) dX11_wrongAt_34 (lyc rfl) (zvn (lnc rfl) k1) rfl rfl ?_
      refine z_iconst (pc := 35) (v := 1) dX11_wrongAt_35 (by decide) ?_
      refine z_isub (pc := 36) dX11_wrongAt_36 ?_
      refine q_invS (pc := 37) (As := [.int x2, .int 0, .int ((rI h 179 ((Int32.toNatClampNeg x1))) - 1)]) (st := []) dX11_wrongAt_37 ok_X11_in ml_RX11_84 st_X11_in pa_X11_in ⟨Nat.le_of_ble_eq_true rfl, Nat.le_of_ble_eq_true rfl⟩ (q_pI (s_X11_in G) rfl ?_)
      refine z_if_eq (pc := 40) (tgt := 47) dX11_wrongAt_40 (by decide) (fun k2 => ?_) (fun k2 => ?_)
      · replace F := F.1 (zb0.mp k2)
        refine z_bipush (pc := 47) (v := -12) dX11_wrongAt_47 (by decide) ?_
        exact q_retI (pc := 49) dX11_wrongAt_49 rfl F
      · replace F := F.2 (zbn.mp k2)
        refine z_iconst (pc := 43) (v := 0) dX11_wrongAt_43 (by decide) ?_
        refine z_goto (pc := 44) (tgt := 49) dX11_wrongAt_44 (by decide) ?_
        exact q_retI (pc := 49) dX11_wrongAt_49 rfl F
    · replace F := F.2 k3
      refine z_bipush (pc := 22) (v := -11) dX11_wrongAt_22 (by decide) ?_
      refine z_goto (pc := 24) (tgt := 49) dX11_wrongAt_24 (by decide) ?_
      exact q_retI (pc := 49) dX11_wrongAt_49 rfl F
  · replace F := F.2 (zb0.mp k4)
    refine z_bipush (pc := 7) (v := -2) dX11_wrongAt_7 (by decide) ?_
    refine z_goto (pc := 9) (tgt := 49) dX11_wrongAt_9 (by decide) ?_
    exact q_retI (pc := 49) dX11_wrongAt_49 rfl F
theorem g_X10_write {x1 : Int32} {x2 : Int32} {x3 : Int32} {h : zHp} {Q : Int32 → zHp → Prop}  (G : zG h) (F : zcI M_X10_refusePlace [.ref 0, .int x1, .int x2] h (fun vh1 h1 => zG h1 ∧ ((vh1 = 0 → (vp_in x1 4 ∧ ((¬ rI h1 (156 + 2 * (Int32.toNatClampNeg x1)) 0 = 0 → (vp_in x2 40 ∧ (Q 1 (wI h1 (156 + 2 * (Int32.toNatClampNeg x1) + 1) ((Int32.toNatClampNeg x2)) x3)))) ∧ (rI h1 (156 + 2 * (Int32.toNatClampNeg x1)) 0 = 0 → (vp_in x2 40 ∧ (Q 1 (wI h1 (156 + 2 * (Int32.toNatClampNeg x1) + 1) ((Int32.toNatClampNeg x2)) ((Int32.toInt8 x3).toInt32)))))))) ∧ (¬ (vh1 = 0) → (Q vh1 h1))))) : zcI M_X10_write [.ref 0, .int x1, .int x2, .int x3] h Q := by
  show zw zNT zNT M_X10_write 0 [some (.ref 0), some (.int x1), some (.int x2), some (.int x3), none] [] h _
  refine z_aload_n (pc := 0) dX10_write_0 rfl rfl ?_
  refine z_iload_n (pc := 1) dX10_write_1 rfl rfl ?_
  refine z_iload_n (pc := 2) dX10_write_2 rfl rfl ?_
  refine q_invV (pc := 3) (As := [.int x1, .int x2]) (st := []) dX10_write_3 ok_X10_refusePlace ml_RX10_355 iv_X10_refusePlace pa_X10_refusePlace ⟨Nat.le_of_ble_eq_true rfl, Nat.le_of_ble_eq_true rfl⟩ (lyc rfl) (q_kI F (fun vh1 h1 F => ?_))
  obtain ⟨G1, F⟩ := F
  refine z_istore (pc := 6) (ls' := [some (.ref 0), some (.int x1), some (.int x2), some (.int x3), some (.int vh1)]) dX10_write_6 (by decide) rfl ?_
  refine z_iload (pc := 8) dX10_write_8 rfl ?_
  refine z_if_eq (pc := 10) (tgt := 16) dX10_write_10 (by decide) (fun k6 => ?_) (fun k6 => ?_)
  · replace F := F.1 k6
    refine z_aload_n (pc := 16) dX10_write_16 rfl rfl ?_
    refine q_getR (pc := 17) (i := 154) dX10_write_17 lk_RX10_59 (lyc rfl) (G1 0 9 154 rfl) ?_
    refine z_iload_n (pc := 20) dX10_write_20 rfl rfl ?_
    obtain ⟨k2, F⟩ := F
    refine q_aald (pc := 21) (j := (Int32.toNatClampNeg x1)) (r := 156 + 2 * (Int32.toNatClampNeg x1)) (t := 4) dX10_write_21 (lyc rfl) (zvn (lnc rfl) k2) rfl (grS G1 (zvi k2)) ?_
    refine q_getR (pc := 22) (i := 156 + 2 * (Int32.toNatClampNeg x1) + 1) dX10_write_22 lk_RX10_358 (lySh0 (shS (zvi k2))) (grSh2 G1 (shS (zvi k2))) ?_
    refine z_iload_n (pc := 25) dX10_write_25 rfl rfl ?_
    refine z_aload_n (pc := 26) dX10_write_26 rfl rfl ?_
    refine q_getR (pc := 27) (i := 154) dX10_write_27 lk_RX10_59 (lyc rfl) (G1 0 9 154 rfl) ?_
    refine z_iload_n (pc := 30) dX10_write_30 rfl rfl ?_
    refine q_aald (pc := 31) (j := (Int32.toNatClampNeg x1)) (r := 156 + 2 * (Int32.toNatClampNeg x1)) (t := 4) dX10_write_31 (lyc rfl) (zvn (lnc rfl) k2) rfl (grS G1 (zvi k2)) ?_
    refine q_getI (pc := 32) (v := rI h1 (156 + 2 * (Int32.toNatClampNeg x1)) 0) dX10_write_32 lk_RX10_361 (lySh0 (shS (zvi k2))) rfl ?_
    refine z_if_ne (pc := 35) (tgt := 43) dX10_write_35 (by decide) (fun k5 => ?_) (fun k5 => ?_)
    · replace F := F.1 k5
      refine z_iload_n (pc := 43) dX10_write_43 rfl rfl ?_
      obtain ⟨k3, F⟩ := F
      refine q_iast (pc := 44) (j := (Int32.toNatClampNeg x2)) dX10_write_44 (lySh1 (shS (zvi k2))) (zvn (lnSh1 (shS (zvi k2))) k3) rfl ?_
      refine z_iconst (pc := 45) (v := 1) dX10_write_45 (by decide) ?_
      exact q_retI (pc := 46) dX10_write_46 rfl F
    · replace F := F.2 k5
      refine z_iload_n (pc := 38) dX10_write_38 rfl rfl ?_
      refine z_i2b (pc := 39) dX10_write_39 ?_
      refine z_goto (pc := 40) (tgt := 44) dX10_write_40 (by decide) ?_
      obtain ⟨k4, F⟩ := F
      refine q_iast (pc := 44) (j := (Int32.toNatClampNeg x2)) dX10_write_44 (lySh1 (shS (zvi k2))) (zvn (lnSh1 (shS (zvi k2))) k4) rfl ?_
      refine z_iconst (pc := 45) (v := 1) dX10_write_45 (by decide) ?_
      exact q_retI (pc := 46) dX10_write_46 rfl F
  · replace F := F.2 k6
    refine z_iload (pc := 13) dX10_write_13 rfl ?_
    exact q_retI (pc := 15) dX10_write_15 rfl F
theorem g_X11_write {x1 : Int32} {x2 : Int32} {x3 : Int32} {h : zHp} {Q : Int32 → zHp → Prop}  (G : zG h) (F : zcI M_X11_wrongAt [.ref 164, .int x1, .int x2] h (fun vh1 h1 => zG h1 ∧ ((vh1 = 0 → (vp_in x1 4 ∧ ((¬ rI h1 178 ((Int32.toNatClampNeg x1)) = 0 → (vp_in ((40 * x1) + x2) 160 ∧ (Q 1 (wI h1 180 ((Int32.toNatClampNeg ((40 * x1) + x2))) x3)))) ∧ (rI h1 178 ((Int32.toNatClampNeg x1)) = 0 → (vp_in ((40 * x1) + x2) 160 ∧ (Q 1 (wI h1 180 ((Int32.toNatClampNeg ((40 * x1) + x2))) ((Int32.toInt8 x3).toInt32)))))))) ∧ (¬ (vh1 = 0) → (Q vh1 h1))))) : zcI M_X11_write [.ref 164, .int x1, .int x2, .int x3] h Q := by
  show zw zNT zNT M_X11_write 0 [some (.ref 164), some (.int x1), some (.int x2), some (.int x3), none] [] h _
  refine z_aload_n (pc := 0) dX11_write_0 rfl rfl ?_
  refine z_iload_n (pc := 1) dX11_write_1 rfl rfl ?_
  refine z_iload_n (pc := 2) dX11_write_2 rfl rfl ?_
  refine q_invV (pc := 3) (As := [.int x1, .int x2]) (st := []) dX11_write_3 ok_X11_wrongAt ml_RX11_311 iv_X11_wrongAt pa_X11_wrongAt ⟨Nat.le_of_ble_eq_true rfl, Nat.le_of_ble_eq_true rfl⟩ (lyc rfl) (q_kI F (fun vh1 h1 F => ?_))
  obtain ⟨G1, F⟩ := F
  refine z_istore (pc := 6) (ls' := [some (.ref 164), some (.int x1), some (.int x2), some (.int x3), some (.int vh1)]) dX11_write_6 (by decide) rfl ?_
  refine z_iload (pc := 8) dX11_write_8 rfl ?_
  refine z_if_eq (pc := 10) (tgt := 16) dX11_write_10 (by decide) (fun k6 => ?_) (fun k6 => ?_)
  · replace F := F.1 k6
    refine z_aload_n (pc := 16) dX11_write_16 rfl rfl ?_
    refine q_getR (pc := 17) (i := 180) dX11_write_17 lk_RX11_81 (lyc rfl) (G1 164 32 180 rfl) ?_
    refine z_bipush (pc := 20) (v := 40) dX11_write_20 (by decide) ?_
    refine z_iload_n (pc := 22) dX11_write_22 rfl rfl ?_
    refine z_imul (pc := 23) dX11_write_23 ?_
    refine z_iload_n (pc := 24) dX11_write_24 rfl rfl ?_
    refine z_iadd (pc := 25) dX11_write_25 ?_
    refine z_aload_n (pc := 26) dX11_write_26 rfl rfl ?_
    refine q_getR (pc := 27) (i := 178) dX11_write_27 lk_RX11_75 (lyc rfl) (G1 164 30 178 rfl) ?_
    refine z_iload_n (pc := 30) dX11_write_30 rfl rfl ?_
    obtain ⟨k2, F⟩ := F
    refine q_iald (pc := 31) (j := (Int32.toNatClampNeg x1)) (v := rI h1 178 ((Int32.toNatClampNeg x1))) dX11_write_31 (lyc rfl) (zvn (lnc rfl) k2) rfl rfl ?_
    refine z_if_ne (pc := 32) (tgt := 40) dX11_write_32 (by decide) (fun k5 => ?_) (fun k5 => ?_)
    · replace F := F.1 k5
      refine z_iload_n (pc := 40) dX11_write_40 rfl rfl ?_
      obtain ⟨k3, F⟩ := F
      refine q_iast (pc := 41) (j := (Int32.toNatClampNeg ((40 * x1) + x2))) dX11_write_41 (lyc rfl) (zvn (lnc rfl) k3) rfl ?_
      refine z_iconst (pc := 42) (v := 1) dX11_write_42 (by decide) ?_
      exact q_retI (pc := 43) dX11_write_43 rfl F
    · replace F := F.2 k5
      refine z_iload_n (pc := 35) dX11_write_35 rfl rfl ?_
      refine z_i2b (pc := 36) dX11_write_36 ?_
      refine z_goto (pc := 37) (tgt := 41) dX11_write_37 (by decide) ?_
      obtain ⟨k4, F⟩ := F
      refine q_iast (pc := 41) (j := (Int32.toNatClampNeg ((40 * x1) + x2))) dX11_write_41 (lyc rfl) (zvn (lnc rfl) k4) rfl ?_
      refine z_iconst (pc := 42) (v := 1) dX11_write_42 (by decide) ?_
      exact q_retI (pc := 43) dX11_write_43 rfl F
  · replace F := F.2 k6
    refine z_iload (pc := 13) dX11_write_13 rfl ?_
    exact q_retI (pc := 15) dX11_write_15 rfl F
theorem g_X10_item {x1 : Int32} {x2 : Int32} {h : zHp} {Q : Int32 → zHp → Prop}  (G : zG h) (F : zcI M_X10_refusePlace [.ref 0, .int x1, .int x2] h (fun vh1 h1 => zG h1 ∧ ((vh1 = 0 → (vp_in x1 4 ∧ (vp_in x2 40 ∧ (Q (rI h1 (156 + 2 * (Int32.toNatClampNeg x1) + 1) ((Int32.toNatClampNeg x2))) h1)))) ∧ (¬ (vh1 = 0) → (Q vh1 h1))))) : zcI M_X10_item [.ref 0, .int x1, .int x2] h Q := by
  show zw zNT zNT M_X10_item 0 [some (.ref 0), some (.int x1), some (.int x2), none] [] h _
  refine z_aload_n (pc := 0) dX10_item_0 rfl rfl ?_
  refine z_iload_n (pc := 1) dX10_item_1 rfl rfl ?_
  refine z_iload_n (pc := 2) dX10_item_2 rfl rfl ?_
  refine q_invV (pc := 3) (As := [.int x1, .int x2]) (st := []) dX10_item_3 ok_X10_refusePlace ml_RX10_355 iv_X10_refusePlace pa_X10_refusePlace ⟨Nat.le_of_ble_eq_true rfl, Nat.le_of_ble_eq_true rfl⟩ (lyc rfl) (q_kI F (fun vh1 h1 F => ?_))
  obtain ⟨G1, F⟩ := F
  refine z_istore_n (pc := 6) (ls' := [some (.ref 0), some (.int x1), some (.int x2), some (.int vh1)]) dX10_item_6 rfl (by decide) rfl ?_
  refine z_iload_n (pc := 7) dX10_item_7 rfl rfl ?_
  refine z_if_eq (pc := 8) (tgt := 15) dX10_item_8 (by decide) (fun k4 => ?_) (fun k4 => ?_)
  · replace F := F.1 k4
    refine z_aload_n (pc := 15) dX10_item_15 rfl rfl ?_
    refine q_getR (pc := 16) (i := 154) dX10_item_16 lk_RX10_59 (lyc rfl) (G1 0 9 154 rfl) ?_
    refine z_iload_n (pc := 19) dX10_item_19 rfl rfl ?_
    obtain ⟨k2, F⟩ := F
    refine q_aald (pc := 20) (j := (Int32.toNatClampNeg x1)) (r := 156 + 2 * (Int32.toNatClampNeg x1)) (t := 4) dX10_item_20 (lyc rfl) (zvn (lnc rfl) k2) rfl (grS G1 (zvi k2)) ?_
    refine q_getR (pc := 21) (i := 156 + 2 * (Int32.toNatClampNeg x1) + 1) dX10_item_21 lk_RX10_358 (lySh0 (shS (zvi k2))) (grSh2 G1 (shS (zvi k2))) ?_
    refine z_iload_n (pc := 24) dX10_item_24 rfl rfl ?_
    obtain ⟨k3, F⟩ := F
    refine q_iald (pc := 25) (j := (Int32.toNatClampNeg x2)) (v := rI h1 (156 + 2 * (Int32.toNatClampNeg x1) + 1) ((Int32.toNatClampNeg x2))) dX10_item_25 (lySh1 (shS (zvi k2))) (zvn (lnSh1 (shS (zvi k2))) k3) rfl rfl ?_
    exact q_retI (pc := 26) dX10_item_26 rfl F
  · replace F := F.2 k4
    refine z_iload_n (pc := 11) dX10_item_11 rfl rfl ?_
    refine z_goto (pc := 12) (tgt := 26) dX10_item_12 (by decide) ?_
    exact q_retI (pc := 26) dX10_item_26 rfl F
theorem g_X11_item {x1 : Int32} {x2 : Int32} {h : zHp} {Q : Int32 → zHp → Prop}  (G : zG h) (F : zcI M_X11_wrongAt [.ref 164, .int x1, .int x2] h (fun vh1 h1 => zG h1 ∧ ((vh1 = 0 → (vp_in ((40 * x1) + x2) 160 ∧ (Q (rI h1 180 ((Int32.toNatClampNeg ((40 * x1) + x2)))) h1))) ∧ (¬ (vh1 = 0) → (Q vh1 h1))))) : zcI M_X11_item [.ref 164, .int x1, .int x2] h Q := by
  show zw zNT zNT M_X11_item 0 [some (.ref 164), some (.int x1), some (.int x2), none] [] h _
  refine z_aload_n (pc := 0) dX11_item_0 rfl rfl ?_
  refine z_iload_n (pc := 1) dX11_item_1 rfl rfl ?_
  refine z_iload_n (pc := 2) dX11_item_2 rfl rfl ?_
  refine q_invV (pc := 3) (As := [.int x1, .int x2]) (st := []) dX11_item_3 ok_X11_wrongAt ml_RX11_311 iv_X11_wrongAt pa_X11_wrongAt ⟨Nat.le_of_ble_eq_true rfl, Nat.le_of_ble_eq_true rfl⟩ (lyc rfl) (q_kI F (fun vh1 h1 F => ?_))
  obtain ⟨G1, F⟩ := F
  refine z_istore_n (pc := 6) (ls' := [some (.ref 164), some (.int x1), some (.int x2), some (.int vh1)]) dX11_item_6 rfl (by decide) rfl ?_
  refine z_iload_n (pc := 7) dX11_item_7 rfl rfl ?_
  refine z_if_eq (pc := 8) (tgt := 15) dX11_item_8 (by decide) (fun k3 => ?_) (fun k3 => ?_)
  · replace F := F.1 k3
    refine z_aload_n (pc := 15) dX11_item_15 rfl rfl ?_
    refine q_getR (pc := 16) (i := 180) dX11_item_16 lk_RX11_81 (lyc rfl) (G1 164 32 180 rfl) ?_
    refine z_bipush (pc := 19) (v := 40) dX11_item_19 (by decide) ?_
    refine z_iload_n (pc := 21) dX11_item_21 rfl rfl ?_
    refine z_imul (pc := 22) dX11_item_22 ?_
    refine z_iload_n (pc := 23) dX11_item_23 rfl rfl ?_
    refine z_iadd (pc := 24) dX11_item_24 ?_
    obtain ⟨k2, F⟩ := F
    refine q_iald (pc := 25) (j := (Int32.toNatClampNeg ((40 * x1) + x2))) (v := rI h1 180 ((Int32.toNatClampNeg ((40 * x1) + x2)))) dX11_item_25 (lyc rfl) (zvn (lnc rfl) k2) rfl rfl ?_
    exact q_retI (pc := 26) dX11_item_26 rfl F
  · replace F := F.2 k3
    refine z_iload_n (pc := 11) dX11_item_11 rfl rfl ?_
    refine z_goto (pc := 12) (tgt := 26) dX11_item_12 (by decide) ?_
    exact q_retI (pc := 26) dX11_item_26 rfl F
theorem INV_o {h h2 : zHp} (I : INV h) (e2 : h2.2 = h.2) (fa : ∀ a, (a < 141 ∨ a = 155 ∨ (165 ≤ a ∧ a < 174)) → h2.1 a = h.1 a) (f4 : ∀ k, (k = 3 ∨ k = 10 ∨ k = 19) → h2.1 164 k = h.1 164 k) (t : IOt h2) (s : IOh h2) : INV h2 := by
  obtain ⟨G, iq, ic, ⟨p1, p2⟩, ⟨n, hn⟩, ii, is, -, -⟩ := I
  have e165 : h2.1 165 = h.1 165 := fa 165 (by omega)
  refine ⟨zG_of e2 G, by rw [e165]; exact iq, by rw [e165]; exact IC_of e2 (fun a ha => fa a (by omega)) iq.1 ic, ⟨PW_of e2 p1, PW_of e2 p2⟩, ⟨n, by show h2.1 164 10 = _; rw [f4 10 (by omega)]; exact hn⟩, IOi_of ii p2 (by rw [fa 0 (by omega)]) (f4 3 (by omega)) (fa 166 (by omega)) (fun a z1 z2 => fa a (by omega)) (fun a _ _ => by rw [e2]), IOs_of is (by rw [fa 0 (by omega)]) (f4 19 (by omega)) (fa 155 (by omega)) (fa 173 (by omega)), t, s⟩
theorem sim_wipe : Sim M_X10_wipe M_X11_wipe [] := by
  intro h I
  have I0 := I
  obtain ⟨G, iq, ic, io⟩ := I
  obtain ⟨L, t1, t2, t3, t4⟩ := io.2.2.2.2.1
  refine g_X10_wipe G ⟨zG_of rfl G, g_X11_wipe (zG_of rfl G) ⟨zG_of rfl G, ?_, ?_⟩⟩
  · rw [rI_c (by decide), t2, t3]
  · refine INV_o I0 rfl (fun a ha => by rw [wI_ne (by omega), wI_ne (by omega)]) (fun k hk => ?_) ⟨0, by omega, ?_, rI_s, fun i hi => by omega⟩ (IOh_of io.2.2.2.2.2 (fun a ha => by rw [wI_ne (by omega), wI_ne (by omega)]))
    · show rI _ 164 k = rI h 164 k
      rw [rI_k (by omega), rI_c (by decide)]
    · rw [rI_c (by decide), rI_s]
      rfl
/-- byte k of a number, as it is fed -/
def shb (x : Int32) (k : Nat) : Int32 := x >>> ((8 * nI k) &&& 31)
theorem byte_rel (y : Int32) : (Int32.toInt8 (Int32.toInt8 y).toInt32).toInt32 = (Int32.toInt8 (y &&& 255)).toInt32 ∧ iv 0 255 (y &&& 255) := by
  refine ⟨?_, ?_⟩
  · rw [Int8.toInt8_toInt32, Int32.toInt8_and]
    have e : Int32.toInt8 255 = -1 := by decide
    rw [e]
    have : Int32.toInt8 y &&& -1 = Int32.toInt8 y := Int8.toBitVec_inj.mp (by
      rw [Int8.toBitVec_and, show (-1 : Int8).toBitVec = BitVec.allOnes 8 from rfl, BitVec.and_allOnes])
    rw [this]
  · obtain ⟨j, hj, e⟩ := pk_andE y (m := 255) 8 (by decide)
    rw [e]
    exact nI_iv (by omega) (by omega) (by omega)
theorem s_X3_append {x : Int32} {L : Nat} {h : zHp} (G : zG h) (e : rI h 141 1 = nI L) (hL : L < 120) : zcV M_X3_append [.ref 141, .int x] h (fun h' => h' = wI (wI h 142 L (Int32.toInt8 x).toInt32) 141 1 (nI (L + 1))) := by
  refine g_X3_append G ?_
  rw [e, nI_clamp (by omega), nI_1]
  exact ⟨fun z => absurd z (nI_ge (b := 120) hL (by omega)), fun _ => ⟨vp_in_nI (by omega) (by omega), rfl⟩⟩
theorem c_feed {x : Int32} {n L : Nat} {h : zHp} (G : zG h) (e : rI h 141 1 = nI L) (hL : L + n ≤ 120) (h1 : 1 ≤ n) (h4 : n ≤ 4) : zlI M_X10_feed 33 [some (.ref 0), some (.int x), some (.int (nI n)), some (.int (nI n - 1))] [] h (fun v h' => v = nI (L + n) ∧ h'.2 = h.2 ∧ (∀ a, a ≠ 141 → a ≠ 142 → h'.1 a = h.1 a) ∧ rI h' 141 1 = nI (L + n) ∧ (∀ i, i < L → rI h' 142 i = rI h 142 i) ∧ ∀ q, q < n → rI h' 142 (L + q) = (Int32.toInt8 (Int32.toInt8 (shb x (n - 1 - q))).toInt32).toInt32) := by
  have loop : ∀ (r j : Nat) (h' : zHp), j + r = n → h'.2 = h.2 → (∀ a, a ≠ 141 → a ≠ 142 → h'.1 a = h.1 a) → rI h' 141 1 = nI (L + j) → (∀ i, i < L → rI h' 142 i = rI h 142 i) → (∀ q, q < j → rI h' 142 (L + q) = (Int32.toInt8 (Int32.toInt8 (shb x (n - 1 - q))).toInt32).toInt32) → zlI M_X10_feed 33 [some (.ref 0), some (.int x), some (.int (nI n)), some (.int (nI r + (-1)))] [] h' (fun v h' => v = nI (L + n) ∧ h'.2 = h.2 ∧ (∀ a, a ≠ 141 → a ≠ 142 → h'.1 a = h.1 a) ∧ rI h' 141 1 = nI (L + n) ∧ (∀ i, i < L → rI h' 142 i = rI h 142 i) ∧ ∀ q, q < n → rI h' 142 (L + q) = (Int32.toInt8 (Int32.toInt8 (shb x (n - 1 - q))).toInt32).toInt32) := by
    intro r
    induction r with
    | zero =>
      intro j h' hj f1 f2 f3 f4 f5
      have : j = n := by omega
      subst this
      exact g_X10_feed_33 (zG_of f1 G) ⟨fun _ => ⟨f3, f1, f2, f3, f4, f5⟩, fun z => absurd (by decide) z⟩
    | succ r ih =>
      intro j h' hj f1 f2 f3 f4 f5
      rw [pk_m1]
      refine g_X10_feed_33 (zG_of f1 G) ⟨fun z => absurd z (nI_pos (by omega)), fun _ => ?_⟩
      refine zcV_use (s_X3_append (zG_of f1 G) f3 (by omega)) ⟨zG_of f1 G, ?_⟩
      refine ih (j + 1) _ (by omega) f1 (fun a z1 z2 => by rw [wI_ne z1, wI_ne z2, f2 a z1 z2]) (by rw [rI_s, Nat.add_assoc]) (fun i hi => ?_) (fun q hq => ?_)
      · rw [rI_c (by decide), rI_k (by omega)]
        exact f4 i hi
      · rw [rI_c (by decide)]
        by_cases z : q = j
        · subst z
          rw [rI_s]
          unfold shb
          rw [show n - 1 - q = r by omega]
        · rw [rI_k (by omega)]
          exact f5 q (by omega)
  rw [Int32.sub_eq_add_neg]
  exact loop n 0 h (by omega) rfl (fun _ _ _ => rfl) e (fun _ _ => rfl) (fun q hq => by omega)
theorem m_feed {x : Int32} {n L : Nat} {h : zHp} (G : zG h) (e : rI h 164 21 = nI L) (hL : L + n ≤ 120) (h1 : 1 ≤ n) (h4 : n ≤ 4) : zlI M_X11_feed 30 [some (.ref 164), some (.int x), some (.int (nI n)), some (.int (nI n - 1))] [] h (fun v h' => v = nI (L + n) ∧ h'.2 = h.2 ∧ (∀ a, a ≠ 164 → a ≠ 174 → h'.1 a = h.1 a) ∧ (∀ k, k ≠ 21 → h'.1 164 k = h.1 164 k) ∧ rI h' 164 21 = nI (L + n) ∧ (∀ i, i < L → rI h' 174 i = rI h 174 i) ∧ ∀ q, q < n → rI h' 174 (L + q) = shb x (n - 1 - q) &&& 255) := by
  have loop : ∀ (r j : Nat) (h' : zHp), j + r = n → h'.2 = h.2 → (∀ a, a ≠ 164 → a ≠ 174 → h'.1 a = h.1 a) → (∀ k, k ≠ 21 → h'.1 164 k = h.1 164 k) → rI h' 164 21 = nI (L + j) → (∀ i, i < L → rI h' 174 i = rI h 174 i) → (∀ q, q < j → rI h' 174 (L + q) = shb x (n - 1 - q) &&& 255) → zlI M_X11_feed 30 [some (.ref 164), some (.int x), some (.int (nI n)), some (.int (nI r + (-1)))] [] h' (fun v h' => v = nI (L + n) ∧ h'.2 = h.2 ∧ (∀ a, a ≠ 164 → a ≠ 174 → h'.1 a = h.1 a) ∧ (∀ k, k ≠ 21 → h'.1 164 k = h.1 164 k) ∧ rI h' 164 21 = nI (L + n) ∧ (∀ i, i < L → rI h' 174 i = rI h 174 i) ∧ ∀ q, q < n → rI h' 174 (L + q) = shb x (n - 1 - q) &&& 255) := by
    intro r
    induction r with
    | zero =>
      intro j h' hj f1 f2 f2' f3 f4 f5
      have : j = n := by omega
      subst this
      exact g_X11_feed_30 (zG_of f1 G) ⟨fun _ => ⟨f3, f1, f2, f2', f3, f4, f5⟩, fun z => absurd (by decide) z⟩
    | succ r ih =>
      intro j h' hj f1 f2 f2' f3 f4 f5
      rw [pk_m1]
      refine g_X11_feed_30 (zG_of f1 G) ⟨fun z => absurd z (nI_pos (by omega)), fun _ => ?_⟩
      rw [f3, nI_clamp (by omega), nI_1]
      refine ⟨vp_in_nI (by omega) (by omega), ?_⟩
      refine ih (j + 1) _ (by omega) f1 (fun a z1 z2 => by rw [wI_ne z1, wI_ne z2, f2 a z1 z2]) (fun k hk => ?_) (by rw [rI_s, Nat.add_assoc]) (fun i hi => ?_) (fun q hq => ?_)
      · show rI _ 164 k = _
        rw [rI_k hk, rI_c (by decide)]
        exact f2' k hk
      · rw [rI_c (by decide), rI_k (by omega)]
        exact f4 i hi
      · rw [rI_c (by decide)]
        by_cases z : q = j
        · subst z
          rw [rI_s]
          unfold shb
          rw [show n - 1 - q = r by omega]
        · rw [rI_k (by omega)]
          exact f5 q (by omega)
  rw [Int32.sub_eq_add_neg]
  exact loop n 0 h (by omega) rfl (fun _ _ _ => rfl) (fun _ _ => rfl) e (fun _ _ => rfl) (fun q hq => by omega)
theorem sim_feed {x n : Int32} : Sim M_X10_feed M_X11_feed [.int x, .int n] := by
  intro h I
  have I0 := I
  obtain ⟨G, iq, ic, io⟩ := I
  obtain ⟨L, t1, t2, t3, t4⟩ := io.2.2.2.2.1
  refine g_X10_feed G ⟨fun z => ?_, fun z => ⟨G, g_X11_feed G ⟨fun y => absurd y z, fun _ => ⟨G, rfl, I0⟩⟩⟩⟩
  obtain ⟨k, hk, rfl⟩ := nI_of2 (M := 4) (n := 4) rfl (Int32.not_lt.mpr (Int32.le_trans (by decide) z.1)) z.2
  have k1 : 1 ≤ k := (nI_leI (a := 1) (by omega) (by omega)).mp z.1
  rw [t2, show (120 : Int32) - nI k = nI (120 - k) from pk_sub (a := 120) (by omega)]
  refine ⟨fun y => ?_, fun y => ⟨G, g_X11_feed G ⟨fun _ => ?_, fun w => absurd z w⟩⟩⟩
  · have hL : L + k ≤ 120 := by have := (nI_leI (by omega) (by omega)).mp y; omega
    refine zw.mono (c_feed (x := x) G t2 hL k1 hk) (fun r h1 hr => ?_)
    obtain ⟨v, rfl, ev, e2, fa, c1, c2, c3⟩ := hr
    have G1 := zG_of e2 G
    have t31 : rI h1 164 21 = nI L := by show h1.1 164 21 = _; rw [fa 164 (by decide) (by decide)]; exact t3
    refine ⟨v, rfl, G1, g_X11_feed G1 ⟨fun _ => ?_, fun w => absurd z w⟩⟩
    rw [t31, nI_add]
    refine ⟨fun _ => ?_, fun w => absurd (nI_le (b := 120) hL (by omega)) w⟩
    refine zw.mono (m_feed (x := x) G1 t31 hL k1 hk) (fun r h2 hr => ?_)
    obtain ⟨v', rfl, ev', e3, fb, fk, d1, d2, d3⟩ := hr
    refine ⟨v', rfl, zG_of e3 G1, by rw [ev, ev'], ?_⟩
    refine INV_o I0 (e3.trans e2) (fun a ha => by rw [fb a (by omega) (by omega), fa a (by omega) (by omega)]) (fun q hq => by rw [fk q (by omega), fa 164 (by decide) (by decide)]) ⟨L + k, hL, ?_, d1, fun i hi => ?_⟩ (IOh_of io.2.2.2.2.2 (fun a ha => by rw [fb a (by omega) (by omega), fa a (by omega) (by omega)]))
    · show h2.1 141 1 = _
      rw [fb 141 (by decide) (by decide)]
      exact c1
    · have e142 : rI h2 142 i = rI h1 142 i := by show h2.1 142 i = h1.1 142 i; rw [fb 142 (by decide) (by decide)]
      rw [e142]
      rcases Nat.lt_or_ge i L with w | w
      · have e174 : rI h1 174 i = rI h 174 i := by show h1.1 174 i = h.1 174 i; rw [fa 174 (by decide) (by decide)]
        rw [c2 i w, d2 i w, e174]
        exact t4 i w
      · obtain ⟨q, rfl⟩ : ∃ q, i = L + q := ⟨i - L, by omega⟩
        rw [c3 q (by omega), d3 q (by omega)]
        exact byte_rel _
  · have hL : ¬ L + k ≤ 120 := fun w => y (nI_le (by omega) (by omega))
    rw [t3, nI_add]
    exact ⟨fun w => absurd ((nI_leI (b := 120) (by omega) (by omega)).mp w) hL, fun _ => ⟨G, rfl, I0⟩⟩
/-- a sheet is made anew -/
theorem s_X5_become {c : Nat} {so n : Int32} {h : zHp} (G : zG h) (hc : zSh c) : zcV M_X5_become [.ref c, .int so, .int n] h (fun h' => h'.2 = h.2 ∧ (∀ a, a ≠ c → a ≠ c + 1 → h'.1 a = h.1 a) ∧ rI h' c 0 = so ∧ rI h' c 1 = n ∧ ∀ i, i < 40 → rI h' (c + 1) i = 0) := by
  have loop : ∀ (m j : Nat) (h' : zHp), j + m = 40 → h'.2 = h.2 → (∀ a, a ≠ c → a ≠ c + 1 → h'.1 a = h.1 a) → rI h' c 0 = so → rI h' c 1 = n → (∀ i, i < j → rI h' (c + 1) i = 0) → zlV M_X5_become 12 [some (.ref c), some (.int so), some (.int n), some (.int (nI j))] [] h' (fun h' => h'.2 = h.2 ∧ (∀ a, a ≠ c → a ≠ c + 1 → h'.1 a = h.1 a) ∧ rI h' c 0 = so ∧ rI h' c 1 = n ∧ ∀ i, i < 40 → rI h' (c + 1) i = 0) := by
    intro m
    induction m with
    | zero =>
      intro j h' hj f1 f2 f3 f4 f5
      have : j = 40 := by omega
      subst this
      exact g_X5_become_12 hc (zG_of f1 G) ⟨fun _ => ⟨f1, f2, f3, f4, f5⟩, fun z => absurd (by decide) z⟩
    | succ m ih =>
      intro j h' hj f1 f2 f3 f4 f5
      refine g_X5_become_12 hc (zG_of f1 G) ⟨fun z => absurd z (nI_ge (b := 40) (by omega) (by omega)), fun _ => ⟨vp_in_nI (by omega) (by omega), ?_⟩⟩
      rw [nI_clamp (by omega), nI_1]
      refine ih (j + 1) _ (by omega) f1 (fun a z1 z2 => by rw [wI_ne z2, f2 a z1 z2]) (by rw [rI_c (by omega)]; exact f3) (by rw [rI_c (by omega)]; exact f4) (fun i hi => ?_)
      by_cases z : i = j
      · rw [z, rI_s]
      · rw [rI_k z]; exact f5 i (by omega)
  exact g_X5_become hc G (loop 40 0 _ (by omega) rfl (fun a z1 z2 => by rw [wI_ne z1, wI_ne z1]) (by rw [rI_k (by decide), rI_s]) rI_s (fun i hi => by omega))
theorem ixS {s i : Nat} (hs : s < 4) (hi : i < 40) : vp_in ((40 * nI s) + nI i) 160 ∧ ((40 * nI s) + nI i).toNatClampNeg = 40 * s + i := by
  have e : (40 * nI s) + nI i = nI (40 * s + i) := by rw [show (40 : Int32) = nI 40 from rfl, pk_mul, nI_add]
  rw [e]
  exact ⟨vp_in_nI (by omega) (by omega), nI_clamp (by omega)⟩
/-- sheet s of the reference has been changed, no other -/
def fSh (s : Nat) (h h' : zHp) : Prop := h'.2 = h.2 ∧ (∀ a, (a < 164 ∨ (165 ≤ a ∧ a < 178)) → h'.1 a = h.1 a) ∧ (∀ k, k ≠ 29 → h'.1 164 k = h.1 164 k) ∧ (∀ q, q ≠ s → rI h' 178 q = rI h 178 q ∧ rI h' 179 q = rI h 179 q) ∧ ∀ i, (i < 40 * s ∨ 40 * s + 40 ≤ i) → rI h' 180 i = rI h 180 i
theorem m_zero {s : Nat} {x2 x3 : Int32} {h h1 : zHp} {so sz : Int32} (G : zG h) (hs : s < 4) (e1 : h1 = wI (wI h 178 s so) 179 s sz) : zlI M_X11_sheet 68 [some (.ref 164), some (.int (nI s)), some (.int x2), some (.int x3), some (.int 0)] [] h1 (fun v h' => v = 1 ∧ fSh s h h' ∧ rI h' 178 s = so ∧ rI h' 179 s = sz ∧ ∀ i, i < 40 → rI h' 180 (40 * s + i) = 0) := by
  have loop : ∀ (m j : Nat) (h' : zHp), j + m = 40 → fSh s h h' → rI h' 178 s = so → rI h' 179 s = sz → (∀ i, i < j → rI h' 180 (40 * s + i) = 0) → zlI M_X11_sheet 68 [some (.ref 164), some (.int (nI s)), some (.int x2), some (.int x3), some (.int (nI j))] [] h' (fun v h' => v = 1 ∧ fSh s h h' ∧ rI h' 178 s = so ∧ rI h' 179 s = sz ∧ ∀ i, i < 40 → rI h' 180 (40 * s + i) = 0) := by
    intro m
    induction m with
    | zero =>
      intro j h' hj f1 f2 f3 f4
      have : j = 40 := by omega
      subst this
      exact g_X11_sheet_68 (zG_of f1.1 G) ⟨fun _ => ⟨rfl, f1, f2, f3, f4⟩, fun z => absurd (by decide) z⟩
    | succ m ih =>
      intro j h' hj f1 f2 f3 f4
      have ix := ixS (s := s) (i := j) hs (by omega)
      refine g_X11_sheet_68 (zG_of f1.1 G) ⟨fun z => absurd z (nI_ge (b := 40) (by omega) (by omega)), fun _ => ?_⟩
      rw [ix.2, nI_1]
      refine ⟨ix.1, ih (j + 1) _ (by omega) ⟨f1.1, fun a ha => by rw [wI_ne (by omega), f1.2.1 a ha], fun k hk => by rw [wI_ne (by decide), f1.2.2.1 k hk], fun q hq => by rw [rI_c (by decide), rI_c (by decide)]; exact f1.2.2.2.1 q hq, fun i hi => by rw [rI_k (by omega)]; exact f1.2.2.2.2 i hi⟩ (by rw [rI_c (by decide)]; exact f2) (by rw [rI_c (by decide)]; exact f3) (fun i hi => ?_)⟩
      by_cases z : i = j
      · rw [z, rI_s]
      · rw [rI_k (by omega)]; exact f4 i (by omega)
  subst e1
  refine loop 40 0 _ (by omega) ⟨rfl, fun a ha => by rw [wI_ne (by omega), wI_ne (by omega)], fun k hk => by rw [wI_ne (by decide), wI_ne (by decide)], fun q hq => ⟨by rw [rI_c (by decide), rI_k hq], by rw [rI_k hq, rI_c (by decide)]⟩, fun i hi => by rw [rI_c (by decide), rI_c (by decide)]⟩ (by rw [rI_c (by decide), rI_s]) rI_s (fun i hi => by omega)
/-- all stands as before when sheet s has been changed alike on both sides -/
theorem INV_sh {s : Nat} {h h1 h2 : zHp} (I : INV h) (hs : s < 4) (e1 : h1.2 = h.2) (fa : ∀ a, a ≠ 156 + 2 * s → a ≠ 156 + 2 * s + 1 → h1.1 a = h.1 a) (f2 : fSh s h1 h2) (so : rI h1 (156 + 2 * s) 0 = rI h2 178 s) (so3 : rI h2 178 s = -1 ∨ rI h2 178 s = 0 ∨ rI h2 178 s = 1) (sz : ∃ L, L ≤ 40 ∧ rI h1 (156 + 2 * s) 1 = nI L ∧ rI h2 179 s = nI L) (it : ∀ i, i < 40 → rI h1 (156 + 2 * s + 1) i = rI h2 180 (40 * s + i)) : INV h2 := by
  obtain ⟨G, iq, ic, io⟩ := I
  obtain ⟨g1, g2, g3, g4, g5⟩ := f2
  have e12 : ∀ a k, a < 164 → rI h2 a k = rI h1 a k := fun a k ha => by show h2.1 a k = h1.1 a k; rw [g2 a (by omega)]
  refine INV_o ⟨G, iq, ic, io⟩ (g1.trans e1) (fun a ha => by rw [g2 a (by omega), fa a (by omega) (by omega)]) (fun k hk => by rw [g3 k (by omega), fa 164 (by omega) (by omega)]) (IOt_of io.2.2.2.2.1 (by rw [g2 141 (by omega), fa 141 (by omega) (by omega)]) (by rw [g3 21 (by decide), fa 164 (by omega) (by omega)]) (by rw [g2 142 (by omega), fa 142 (by omega) (by omega)]) (by rw [g2 174 (by omega), fa 174 (by omega) (by omega)])) (fun q hq => ?_)
  by_cases z : q = s
  · subst z
    rw [e12 (156 + 2 * q) 0 (by omega), e12 (156 + 2 * q) 1 (by omega)]
    exact ⟨⟨so, so3⟩, sz, fun i hi => by rw [e12 (156 + 2 * q + 1) i (by omega)]; exact it i hi⟩
  · obtain ⟨a, b, c⟩ := io.2.2.2.2.2 q hq
    have r : ∀ x k, x ≠ 156 + 2 * s → x ≠ 156 + 2 * s + 1 → rI h1 x k = rI h x k := fun x k z1 z2 => by show h1.1 x k = h.1 x k; rw [fa x z1 z2]
    rw [e12 (156 + 2 * q) 0 (by omega), e12 (156 + 2 * q) 1 (by omega), r (156 + 2 * q) 0 (by omega) (by omega), r (156 + 2 * q) 1 (by omega) (by omega), (g4 q z).1, (g4 q z).2, r 178 q (by omega) (by omega), r 179 q (by omega) (by omega)]
    exact ⟨a, b, fun i hi => by rw [e12 (156 + 2 * q + 1) i (by omega), r (156 + 2 * q + 1) i (by omega) (by omega), g5 _ (by omega), r 180 _ (by omega) (by omega)]; exact c i hi⟩
theorem sim_sheet {s so n : Int32} : Sim M_X10_sheet M_X11_sheet [.int s, .int so, .int n] := by
  intro h I
  have I0 := I
  obtain ⟨G, iq, ic, io⟩ := I
  -- a refused call
  have refuse : ∀ v, (((0 : Int32) ≤ s ∧ s ≤ 3) → ((-1 : Int32) ≤ so ∧ so ≤ 1) → ¬ so = -1 ∧ (n ≤ 40 → ¬ 0 ≤ n ∧ v = -14) ∧ (¬ n ≤ 40 → v = -2)) → ((¬ ((0 : Int32) ≤ s ∧ s ≤ 3) ∨ ¬ ((-1 : Int32) ≤ so ∧ so ≤ 1)) → v = -2) → zG h ∧ zcI M_X11_sheet [.ref 164, .int s, .int so, .int n] h (fun v' h2 => zG h2 ∧ v = v' ∧ INV h2) := by
    intro v a b
    refine ⟨G, g_X11_sheet G ⟨fun z => ⟨G, b (Or.inl z), I0⟩, fun z1 => ⟨fun z => ⟨G, b (Or.inr z), I0⟩, fun z2 => ?_⟩⟩⟩
    obtain ⟨c1, c2, c3⟩ := a z1 z2
    refine ⟨fun z => absurd z c1, fun _ => ⟨fun z => ⟨fun y => absurd y c1, fun _ => ⟨fun y => absurd y (c2 z).1, fun _ => ⟨G, (c2 z).2, I0⟩⟩⟩, fun z => ⟨G, c3 z, I0⟩⟩⟩
  refine g_X10_sheet G ⟨fun z => refuse _ (fun y => absurd y z) (fun _ => rfl), fun z1 => ⟨fun z2 => ?_, fun z => refuse _ (fun _ y => absurd y z) (fun _ => rfl)⟩⟩
  obtain ⟨j, hj, rfl⟩ := nI_of2 (x := s) (M := 3) (n := 3) rfl (Int32.not_lt.mpr z1.1) z1.2
  have sh : zSh (156 + 2 * j) := shS (by omega)
  have so3 : so = -1 ∨ so = 0 ∨ so = 1 := by
    have q := iv_of (a := -1) (b := 1) z2 rfl rfl
    obtain ⟨q1, q2⟩ := q
    rcases (by omega : so.toInt = -1 ∨ so.toInt = 0 ∨ so.toInt = 1) with w | w | w
    · exact Or.inl (Int32.toInt_inj.mp w)
    · exact Or.inr (Or.inl (Int32.toInt_inj.mp w))
    · exact Or.inr (Or.inr (Int32.toInt_inj.mp w))
  rw [nI_clamp (by omega)]
  have fin : ∀ (L : Nat) (sz : Int32), L ≤ 40 → sz = nI L → (so = -1 → sz = 0) → (¬ so = -1 → sz = n ∧ n ≤ 40 ∧ 0 ≤ n) → zcV M_X5_become [.ref (156 + 2 * j), .int so, .int sz] h (fun h1 => zG h1 ∧ zG h1 ∧ zcI M_X11_sheet [.ref 164, .int (nI j), .int so, .int n] h1 (fun v' h2 => zG h2 ∧ 1 = v' ∧ INV h2)) := by
    intro L sz hL hz k1 k2
    refine zcV_then (s_X5_become G sh) (fun h1 hh => ⟨zG_of hh.1 G, zG_of hh.1 G, ?_⟩)
    obtain ⟨e1, fa, c0, c1, c2⟩ := hh
    have G1 := zG_of e1 G
    have go : zlI M_X11_sheet 42 [some (.ref 164), some (.int (nI j)), some (.int so), some (.int n), none] [] h1 (fun v' h2 => zG h2 ∧ 1 = v' ∧ INV h2) := by
      refine g_X11_sheet_42 G1 ⟨vp_in_nI (by omega) (by omega), ?_⟩
      rw [nI_clamp (by omega)]
      have last : ∀ hz', hz' = wI (wI h1 178 j so) 179 j sz → zlI M_X11_sheet 68 [some (.ref 164), some (.int (nI j)), some (.int so), some (.int n), some (.int 0)] [] hz' (fun v' h2 => zG h2 ∧ 1 = v' ∧ INV h2) := by
        intro hz' ez
        refine zw.mono (m_zero G1 (by omega) ez) (fun r h2 hr => ?_)
        obtain ⟨v, rfl, ev, f2, d0, d1, d2⟩ := hr
        exact ⟨v, rfl, zG_of f2.1 G1, ev.symm, INV_sh I0 (by omega) e1 fa f2 (by rw [c0, d0]) (by rw [d0]; exact so3) ⟨L, hL, by rw [c1, hz], by rw [d1, hz]⟩ (fun i hi => by rw [c2 i hi, d2 i hi])⟩
      exact ⟨fun z => last _ (by rw [(k2 z).1]), fun z => last _ (by rw [k1 z])⟩
    refine g_X11_sheet G1 ⟨fun z => absurd z1 z, fun _ => ⟨fun z => absurd z2 z, fun _ => ⟨fun z => ⟨fun _ => go, fun y => absurd z y⟩, fun z => ⟨fun _ => ⟨fun y => absurd y z, fun _ => ⟨fun _ => go, fun y => absurd (k2 z).2.2 y⟩⟩, fun y => absurd (k2 z).2.1 y⟩⟩⟩⟩
  refine ⟨fun z => ⟨fun y => ⟨fun x => ⟨vp_in_nI (by omega) (by omega), ?_⟩, fun x => ?_⟩, fun y => ?_⟩, fun z => ⟨vp_in_nI (by omega) (by omega), ?_⟩⟩
  · obtain ⟨L, hL, rfl⟩ := nI_of2 (x := n) (M := 40) (n := 40) rfl (Int32.not_lt.mpr x) y
    exact fin L (nI L) hL rfl (fun w => absurd w z) (fun _ => ⟨rfl, y, x⟩)
  · exact refuse _ (fun _ _ => ⟨z, fun _ => ⟨x, rfl⟩, fun w => absurd y w⟩) (fun w => w.elim (fun w => absurd z1 w) (fun w => absurd z2 w))
  · exact refuse _ (fun _ _ => ⟨z, fun w => absurd w y, fun _ => rfl⟩) (fun _ => rfl)
  · subst z
    exact fin 0 0 (by omega) rfl (fun _ => rfl) (fun w => absurd rfl w)
/-- why a place of a sheet is refused, or 0 -/
noncomputable def rpl (x1 x2 so le : Int32) : Int32 := if (0 : Int32) ≤ x1 ∧ x1 ≤ 3 then (if so = -1 then -11 else if (0 : Int32) ≤ x2 ∧ x2 ≤ le - 1 then 0 else -12) else -2
theorem s_X10_refusePlace {x1 x2 : Int32} {h : zHp} (G : zG h) : zcI M_X10_refusePlace [.ref 0, .int x1, .int x2] h (fun r h' => r = rpl x1 x2 (rI h (156 + 2 * x1.toNatClampNeg) 0) (rI h (156 + 2 * x1.toNatClampNeg) 1) ∧ h' = h) := by
  unfold rpl
  refine g_X10_refusePlace G ⟨fun z => ⟨?_, fun y => ⟨fun x => ⟨?_, rfl⟩, fun x => ⟨?_, rfl⟩⟩, fun y => ⟨?_, rfl⟩⟩, fun z => ⟨?_, rfl⟩⟩
  · obtain ⟨j, hj, rfl⟩ := nI_of2 (x := x1) (M := 3) (n := 3) rfl (Int32.not_lt.mpr z.1) z.2
    exact vp_in_nI (by omega) (by omega)
  · rw [if_pos z, if_neg y, if_neg x]
  · rw [if_pos z, if_neg y, if_pos x]
  · rw [if_pos z, if_pos y]
  · rw [if_neg z]
theorem s_X11_wrongAt {x1 x2 : Int32} {h : zHp} (G : zG h) : zcI M_X11_wrongAt [.ref 164, .int x1, .int x2] h (fun r h' => r = rpl x1 x2 (rI h 178 x1.toNatClampNeg) (rI h 179 x1.toNatClampNeg) ∧ h' = h) := by
  unfold rpl
  refine g_X11_wrongAt G ⟨fun z => ⟨?_, fun y => ⟨fun x => ⟨?_, rfl⟩, fun x => ⟨?_, rfl⟩⟩, fun y => ⟨?_, rfl⟩⟩, fun z => ⟨?_, rfl⟩⟩
  · obtain ⟨j, hj, rfl⟩ := nI_of2 (x := x1) (M := 3) (n := 3) rfl (Int32.not_lt.mpr z.1) z.2
    exact vp_in_nI (by omega) (by omega)
  · rw [if_pos z, if_neg y, if_neg x]
  · rw [if_pos z, if_neg y, if_pos x]
  · rw [if_pos z, if_pos y]
  · rw [if_neg z]
theorem rpl_eq {h : zHp} {x1 x2 : Int32} (I : IOh h) : rpl x1 x2 (rI h 178 x1.toNatClampNeg) (rI h 179 x1.toNatClampNeg) = rpl x1 x2 (rI h (156 + 2 * x1.toNatClampNeg) 0) (rI h (156 + 2 * x1.toNatClampNeg) 1) := by
  by_cases z : (0 : Int32) ≤ x1 ∧ x1 ≤ 3
  · obtain ⟨j, hj, rfl⟩ := nI_of2 (x := x1) (M := 3) (n := 3) rfl (Int32.not_lt.mpr z.1) z.2
    rw [nI_clamp (by omega)]
    obtain ⟨a, ⟨L, -, b, c⟩, -⟩ := I j (by omega)
    rw [a.1, b, c]
  · unfold rpl
    rw [if_neg z, if_neg z]
theorem rpl_0 {x1 x2 so : Int32} {L : Nat} (hL : L ≤ 40) (h : rpl x1 x2 so (nI L) = 0) : ∃ j i, j < 4 ∧ i < 40 ∧ i < L ∧ x1 = nI j ∧ x2 = nI i := by
  unfold rpl at h
  by_cases z : (0 : Int32) ≤ x1 ∧ x1 ≤ 3
  · rw [if_pos z] at h
    by_cases y : so = -1
    · rw [if_pos y] at h; exact absurd h (by decide)
    · rw [if_neg y] at h
      by_cases x : (0 : Int32) ≤ x2 ∧ x2 ≤ nI L - 1
      · obtain ⟨j, hj, rfl⟩ := nI_of2 (x := x1) (M := 3) (n := 3) rfl (Int32.not_lt.mpr z.1) z.2
        obtain ⟨i, hi, rfl⟩ := zsm (by omega) x
        exact ⟨j, i, by omega, by omega, hi, rfl, rfl⟩
      · rw [if_neg x] at h; exact absurd h (by decide)
  · rw [if_neg z] at h; exact absurd h (by decide)
theorem rpl_len {h : zHp} {x1 x2 : Int32} (I : IOh h) (e : rpl x1 x2 (rI h (156 + 2 * x1.toNatClampNeg) 0) (rI h (156 + 2 * x1.toNatClampNeg) 1) = 0) : ∃ j i, j < 4 ∧ i < 40 ∧ x1 = nI j ∧ x2 = nI i := by
  have z : (0 : Int32) ≤ x1 ∧ x1 ≤ 3 := Classical.byContradiction (fun z => by
    unfold rpl at e
    rw [if_neg z] at e
    exact absurd e (by decide))
  obtain ⟨j, hj, rfl⟩ := nI_of2 (x := x1) (M := 3) (n := 3) rfl (Int32.not_lt.mpr z.1) z.2
  rw [nI_clamp (by omega)] at e
  obtain ⟨-, ⟨L, hL, b, -⟩, -⟩ := I j (by omega)
  rw [b] at e
  obtain ⟨j', i, a1, a2, -, a3, a4⟩ := rpl_0 hL e
  exact ⟨j', i, a1, a2, a3, a4⟩
theorem sim_item {s i : Int32} : Sim M_X10_item M_X11_item [.int s, .int i] := by
  intro h I
  have I0 := I
  obtain ⟨G, iq, ic, io⟩ := I
  have ih := io.2.2.2.2.2
  have wr := s_X11_wrongAt (x1 := s) (x2 := i) G
  rw [rpl_eq ih] at wr
  refine g_X10_item G (zcI_use (s_X10_refusePlace G) ⟨G, fun z => ?_, fun z => ⟨G, g_X11_item G (zcI_use wr ⟨G, fun y => absurd y z, fun _ => ⟨G, rfl, I0⟩⟩)⟩⟩)
  obtain ⟨j, k, hj, hk, rfl, rfl⟩ := rpl_len ih z
  have ix := ixS hj hk
  rw [nI_clamp (by omega), nI_clamp (by omega)]
  refine ⟨vp_in_nI (by omega) (by omega), vp_in_nI (by omega) (by omega), G, g_X11_item G (zcI_use wr ⟨G, fun _ => ?_, fun y => absurd z y⟩)⟩
  rw [ix.2]
  exact ⟨ix.1, G, (ih j hj).2.2 k hk, I0⟩
theorem sim_write {s i v : Int32} : Sim M_X10_write M_X11_write [.int s, .int i, .int v] := by
  intro h I
  have I0 := I
  obtain ⟨G, iq, ic, io⟩ := I
  have ih := io.2.2.2.2.2
  have wr : ∀ h1, h1.2 = h.2 → (∀ a, (a = 178 ∨ a = 179) → h1.1 a = h.1 a) → zcI M_X11_wrongAt [.ref 164, .int s, .int i] h1 (fun r h' => r = rpl s i (rI h (156 + 2 * s.toNatClampNeg) 0) (rI h (156 + 2 * s.toNatClampNeg) 1) ∧ h' = h1) := by
    intro h1 e1 f1
    have w := s_X11_wrongAt (x1 := s) (x2 := i) (zG_of e1 G)
    rw [show rI h1 178 s.toNatClampNeg = rI h 178 s.toNatClampNeg by show h1.1 178 _ = _; rw [f1 178 (by omega)]; rfl, show rI h1 179 s.toNatClampNeg = rI h 179 s.toNatClampNeg by show h1.1 179 _ = _; rw [f1 179 (by omega)]; rfl, rpl_eq ih] at w
    exact w
  refine g_X10_write G (zcI_use (s_X10_refusePlace G) ⟨G, fun z => ?_, fun z => ⟨G, g_X11_write G (zcI_use (wr h rfl (fun _ _ => rfl)) ⟨G, fun y => absurd y z, fun _ => ⟨G, rfl, I0⟩⟩)⟩⟩)
  obtain ⟨j, k, hj, hk, rfl, rfl⟩ := rpl_len ih z
  have ix := ixS hj hk
  obtain ⟨⟨a1, a2⟩, ⟨L, hL, b1, b2⟩, c⟩ := ih j hj
  rw [nI_clamp (by omega), nI_clamp (by omega)]
  have fin : ∀ y, (rI h 178 j = 0 → y = (Int32.toInt8 v).toInt32) → (¬ rI h 178 j = 0 → y = v) → zG (wI h (156 + 2 * j + 1) k y) ∧ zcI M_X11_write [.ref 164, .int (nI j), .int (nI k), .int v] (wI h (156 + 2 * j + 1) k y) (fun v' h2 => zG h2 ∧ 1 = v' ∧ INV h2) := by
    intro y k0 k1
    refine ⟨zG_of rfl G, g_X11_write (zG_of rfl G) (zcI_use (wr _ rfl (fun a ha => wI_ne (by omega))) ⟨zG_of rfl G, fun _ => ?_, fun x => absurd z x⟩)⟩
    rw [nI_clamp (by omega), ix.2, rI_c (show 178 ≠ 156 + 2 * j + 1 by omega)]
    have inv : INV (wI (wI h (156 + 2 * j + 1) k y) 180 (40 * j + k) y) := by
      refine INV_sh (h1 := wI h (156 + 2 * j + 1) k y) I0 hj rfl (fun a _ z2 => wI_ne z2) ⟨rfl, fun a ha => wI_ne (by omega), fun q _ => by rw [wI_ne (by decide)], fun q _ => ⟨by rw [rI_c (by decide)], by rw [rI_c (by decide)]⟩, fun q hq => by rw [rI_k (by omega)]⟩ ?_ ?_ ⟨L, hL, ?_, ?_⟩ (fun q hq => ?_)
      · rw [rI_c (by omega), rI_c (by decide), rI_c (by omega)]; exact a1
      · rw [rI_c (by decide), rI_c (by omega)]; exact a2
      · rw [rI_c (by omega)]; exact b1
      · rw [rI_c (by decide), rI_c (by omega)]; exact b2
      · by_cases w : q = k
        · rw [w, rI_s, rI_s]
        · rw [rI_k w, rI_k (by omega), rI_c (by omega)]; exact c q hq
    refine ⟨vp_in_nI (by omega) (by omega), fun x => ⟨ix.1, zG_of rfl G, rfl, ?_⟩, fun x => ⟨ix.1, zG_of rfl G, rfl, ?_⟩⟩
    · rw [← k1 x]; exact inv
    · rw [← k0 x]; exact inv
  rw [a1]
  refine ⟨vp_in_nI (by omega) (by omega), fun y => ⟨vp_in_nI (by omega) (by omega), fin _ (fun x => absurd x y) (fun _ => rfl)⟩, fun y => ⟨vp_in_nI (by omega) (by omega), fin _ (fun _ => rfl) (fun x => absurd y x)⟩⟩

