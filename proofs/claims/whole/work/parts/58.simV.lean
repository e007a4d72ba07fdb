/-! calls: watchers, deals, counts -/
theorem g_X8_draw {c0 : Nat} {h : zHp} {Q : Int32 → zHp → Prop} (hc0 : zW c0) (G : zG h) (F : Q ((Int32.toUInt32 (((rI h c0 10) * 1103515245) + 12345) >>> (Int32.toUInt32 16 &&& Int32.toUInt32 31)).toInt32) (wI h c0 10 (((rI h c0 10) * 1103515245) + 12345))) : zcI M_X8_draw [.ref c0] h Q := by
  show zw zNT zNT M_X8_draw 0 [some (.ref c0)] [] h _
  refine z_aload_n (pc := 0) dX8_draw_0 rfl rfl ?_
  refine z_aload_n (pc := 1) dX8_draw_1 rfl rfl ?_
  refine q_getI (pc := 2) (v := rI h c0 10) dX8_draw_2 lk_RX8_39 (lyW0 hc0) rfl ?_
  refine z_ldc (pc := 5) (v := 1103515245) dX8_draw_5 cl_RX8_118 ?_
  refine z_imul (pc := 7) dX8_draw_7 ?_
  refine z_sipush (pc := 8) (v := 12345) dX8_draw_8 (by decide) ?_
  refine z_iadd (pc := 11) dX8_draw_11 ?_
  refine q_putI (pc := 12) dX8_draw_12 lk_RX8_39 (lyW0 hc0) ?_
  refine z_aload_n (pc := 15) dX8_draw_15 rfl rfl ?_
  refine q_getI (pc := 16) (v := ((rI h c0 10) * 1103515245) + 12345) dX8_draw_16 lk_RX8_39 (lyW0 hc0) rI_s ?_
  refine z_bipush (pc := 19) (v := 16) dX8_draw_19 (by decide) ?_
  refine z_iushr (pc := 21) dX8_draw_21 ?_
  exact q_retI (pc := 22) dX8_draw_22 rfl F
theorem g_X11_draw  {h : zHp} {Q : Int32 → zHp → Prop}  (G : zG h) (F : Q ((Int32.toUInt32 (((rI h 165 245) * 1103515245) + 12345) >>> (Int32.toUInt32 16 &&& Int32.toUInt32 31)).toInt32) (wI h 165 245 (((rI h 165 245) * 1103515245) + 12345))) : zcI M_X11_draw [.ref 164] h Q := by
  show zw zNT zNT M_X11_draw 0 [some (.ref 164)] [] h _
  refine z_aload_n (pc := 0) dX11_draw_0 rfl rfl ?_
  refine q_getR (pc := 1) (i := 165) dX11_draw_1 lk_RX11_7 (lyc rfl) (G 164 0 165 rfl) ?_
  refine z_sipush (pc := 4) (v := 245) dX11_draw_4 (by decide) ?_
  refine z_aload_n (pc := 7) dX11_draw_7 rfl rfl ?_
  refine q_getR (pc := 8) (i := 165) dX11_draw_8 lk_RX11_7 (lyc rfl) (G 164 0 165 rfl) ?_
  refine z_sipush (pc := 11) (v := 245) dX11_draw_11 (by decide) ?_
  refine q_iald (pc := 14) (j := 245) (v := rI h 165 245) dX11_draw_14 (lyc rfl) (zvl (lnc rfl) (by decide)) (by decide) rfl ?_
  refine z_ldcw (pc := 15) (v := 1103515245) dX11_draw_15 cl_RX11_307 ?_
  refine z_imul (pc := 18) dX11_draw_18 ?_
  refine z_sipush (pc := 19) (v := 12345) dX11_draw_19 (by decide) ?_
  refine z_iadd (pc := 22) dX11_draw_22 ?_
  refine q_iast (pc := 23) (j := 245) dX11_draw_23 (lyc rfl) (zvl (lnc rfl) (by decide)) (by decide) ?_
  refine z_aload_n (pc := 24) dX11_draw_24 rfl rfl ?_
  refine q_getR (pc := 25) (i := 165) dX11_draw_25 lk_RX11_7 (lyc rfl) (G 164 0 165 rfl) ?_
  refine z_sipush (pc := 28) (v := 245) dX11_draw_28 (by decide) ?_
  refine q_iald (pc := 31) (j := 245) (v := ((rI h 165 245) * 1103515245) + 12345) dX11_draw_31 (lyc rfl) (zvl (lnc rfl) (by decide)) (by decide) rI_s ?_
  refine z_bipush (pc := 32) (v := 16) dX11_draw_32 (by decide) ?_
  refine z_iushr (pc := 34) dX11_draw_34 ?_
  exact q_retI (pc := 35) dX11_draw_35 rfl F
theorem g_X10_deal {x1 : Int32} {h : zHp} {Q : Int32 → zHp → Prop}  (G : zG h) (F : (((0 : Int32) ≤ x1 ∧ x1 ≤ 8) → (zlI M_X10_deal 15 [some (.ref 0), some (.int x1), some (.int 0), none, none, none, none] [] h Q)) ∧ (¬ ((0 : Int32) ≤ x1 ∧ x1 ≤ 8) → (Q (-2) h))) : zcI M_X10_deal [.ref 0, .int x1] h Q := by
  show zw zNT zNT M_X10_deal 0 [some (.ref 0), some (.int x1), none, none, none, none, none] [] h _
  refine z_iload_n (pc := 0) dX10_deal_0 rfl rfl ?_
  refine z_iconst (pc := 1) (v := 0) dX10_deal_1 (by decide) ?_
  refine z_bipush (pc := 2) (v := 8) dX10_deal_2 (by decide) ?_
  refine q_invS (pc := 4) (As := [.int x1, .int 0, .int 8]) (st := []) dX10_deal_4 ok_X10_within ml_RX10_82 st_X10_within pa_X10_within ⟨Nat.le_of_ble_eq_true rfl, Nat.le_of_ble_eq_true rfl⟩ (q_pI (s_X10_within G) rfl ?_)
  refine z_if_ne (pc := 7) (tgt := 13) dX10_deal_7 (by decide) (fun k1 => ?_) (fun k1 => ?_)
  · replace F := F.1 (zbn.mp k1)
    refine z_iconst (pc := 13) (v := 0) dX10_deal_13 (by decide) ?_
    refine z_istore_n (pc := 14) (ls' := [some (.ref 0), some (.int x1), some (.int 0), none, none, none, none]) dX10_deal_14 rfl (by decide) rfl ?_
    exact F
  · replace F := F.2 (zb0.mp k1)
    refine z_bipush (pc := 10) (v := -2) dX10_deal_10 (by decide) ?_
    exact q_retI (pc := 12) dX10_deal_12 rfl F
theorem g_X10_deal_15 {x1 : Int32} {x2 : Int32} {h : zHp} {Q : Int32 → zHp → Prop}  (G : zG h) (F : (x1 ≤ x2 → (zcV M_X0_settle [.ref 1, .int 0] h (fun h1 => zG h1 ∧ (Q (rI h1 2 1) h1)))) ∧ (¬ (x1 ≤ x2) → ((8 ≤ rI h 2 1 → (zcV M_X0_settle [.ref 1, .int 0] h (fun h2 => zG h2 ∧ (Q (rI h2 2 1) h2)))) ∧ (¬ (8 ≤ rI h 2 1) → (zcI M_X8_draw [.ref 2] h (fun vh3 h3 => zG h3 ∧ (zcI M_X8_draw [.ref 2] h3 (fun vh4 h4 => zG h4 ∧ (zcI M_X8_draw [.ref 2] h4 (fun vh5 h5 => zG h5 ∧ (zcI M_X8_draw [.ref 2] h5 (fun vh6 h6 => zG h6 ∧ (zcV M_X8_addThing [.ref 2, .int (vh3 - vh3 / 2 * 2), .int (vh4 - vh4 / 6 * 6), .int ((vh5 - vh5 / 9 * 9) + 1), .int ((vh6 - vh6 / 9 * 9) + 1)] h6 (fun h7 => zG h7 ∧ (zlI M_X10_deal 15 [some (.ref 0), some (.int x1), some (.int (x2 + 1)), none, none, none, none] [] h7 Q))))))))))))))) : zlI M_X10_deal 15 [some (.ref 0), some (.int x1), some (.int x2), none, none, none, none] [] h Q := by
  refine z_iload_n (pc := 15) dX10_deal_15 rfl rfl ?_
  refine z_iload_n (pc := 16) dX10_deal_16 rfl rfl ?_
  refine z_icmp_ge (pc := 17) (tgt := 102) dX10_deal_17 (by decide) (fun k9 => ?_) (fun k9 => ?_)
  · replace F := F.1 k9
    refine z_aload_n (pc := 102) dX10_deal_102 rfl rfl ?_
    refine q_getR (pc := 103) (i := 1) dX10_deal_103 lk_RX10_10 (lyc rfl) (G 0 0 1 rfl) ?_
    refine z_iconst (pc := 106) (v := 0) dX10_deal_106 (by decide) ?_
    refine q_invV (pc := 107) (As := [.int 0]) (st := []) dX10_deal_107 ok_X0_settle ml_RX10_90 iv_X0_settle pa_X0_settle ⟨Nat.le_of_ble_eq_true rfl, Nat.le_of_ble_eq_true rfl⟩ (lyc rfl) (q_kV F (fun h1 F => ?_))
    obtain ⟨G1, F⟩ := F
    refine z_aload_n (pc := 110) dX10_deal_110 rfl rfl ?_
    refine q_getR (pc := 111) (i := 2) dX10_deal_111 lk_RX10_20 (lyc rfl) (G1 0 1 2 rfl) ?_
    refine q_getI (pc := 114) (v := rI h1 2 1) dX10_deal_114 lk_RX10_68 (lyc rfl) rfl ?_
    exact q_retI (pc := 117) dX10_deal_117 rfl F
  · replace F := F.2 k9
    refine z_aload_n (pc := 20) dX10_deal_20 rfl rfl ?_
    refine q_getR (pc := 21) (i := 2) dX10_deal_21 lk_RX10_20 (lyc rfl) (G 0 1 2 rfl) ?_
    refine q_getI (pc := 24) (v := rI h 2 1) dX10_deal_24 lk_RX10_68 (lyc rfl) rfl ?_
    refine z_bipush (pc := 27) (v := 8) dX10_deal_27 (by decide) ?_
    refine z_icmp_ge (pc := 29) (tgt := 102) dX10_deal_29 (by decide) (fun k8 => ?_) (fun k8 => ?_)
    · replace F := F.1 k8
      refine z_aload_n (pc := 102) dX10_deal_102 rfl rfl ?_
      refine q_getR (pc := 103) (i := 1) dX10_deal_103 lk_RX10_10 (lyc rfl) (G 0 0 1 rfl) ?_
      refine z_iconst (pc := 106) (v := 0) dX10_deal_106 (by decide) ?_
      refine q_invV (pc := 107) (As := [.int 0]) (st := []) dX10_deal_107 ok_X0_settle ml_RX10_90 iv_X0_settle pa_X0_settle ⟨Nat.le_of_ble_eq_true rfl, Nat.le_of_ble_eq_true rfl⟩ (lyc rfl) (q_kV F (fun h2 F => ?_))
      obtain ⟨G2, F⟩ := F
      refine z_aload_n (pc := 110) dX10_deal_110 rfl rfl ?_
      refine q_getR (pc := 111) (i := 2) dX10_deal_111 lk_RX10_20 (lyc rfl) (G2 0 1 2 rfl) ?_
      refine q_getI (pc := 114) (v := rI h2 2 1) dX10_deal_114 lk_RX10_68 (lyc rfl) rfl ?_
      exact q_retI (pc := 117) dX10_deal_117 rfl F
    · replace F := F.2 k8
      refine z_aload_n (pc := 32) dX10_deal_32 rfl rfl ?_
      refine q_getR (pc := 33) (i := 2) dX10_deal_33 lk_RX10_20 (lyc rfl) (G 0 1 2 rfl) ?_
      refine q_invV (pc := 36) (As := []) (st := []) dX10_deal_36 ok_X8_draw ml_RX10_352 iv_X8_draw pa_X8_draw ⟨Nat.le_of_ble_eq_true rfl, Nat.le_of_ble_eq_true rfl⟩ (lyc rfl) (q_kI F (fun vh3 h3 F => ?_))
      obtain ⟨G3, F⟩ := F
      refine z_iconst (pc := 39) (v := 2) dX10_deal_39 (by decide) ?_
      refine z_irem (pc := 40) dX10_deal_40 (by decide) ?_
      refine z_istore_n (pc := 41) (ls' := [some (.ref 0), some (.int x1), some (.int x2), some (.int (vh3 - vh3 / 2 * 2)), none, none, none]) dX10_deal_41 rfl (by decide) rfl ?_
      refine z_aload_n (pc := 42) dX10_deal_42 rfl rfl ?_
      refine q_getR (pc := 43) (i := 2) dX10_deal_43 lk_RX10_20 (lyc rfl) (G3 0 1 2 rfl) ?_
      refine q_invV (pc := 46) (As := []) (st := []) dX10_deal_46 ok_X8_draw ml_RX10_352 iv_X8_draw pa_X8_draw ⟨Nat.le_of_ble_eq_true rfl, Nat.le_of_ble_eq_true rfl⟩ (lyc rfl) (q_kI F (fun vh4 h4 F => ?_))
      obtain ⟨G4, F⟩ := F
      refine z_bipush (pc := 49) (v := 6) dX10_deal_49 (by decide) ?_
      refine z_irem (pc := 51) dX10_deal_51 (by decide) ?_
      refine z_istore (pc := 52) (ls' := [some (.ref 0), some (.int x1), some (.int x2), some (.int (vh3 - vh3 / 2 * 2)), some (.int (vh4 - vh4 / 6 * 6)), none, none]) dX10_deal_52 (by decide) rfl ?_
      refine z_aload_n (pc := 54) dX10_deal_54 rfl rfl ?_
      refine q_getR (pc := 55) (i := 2) dX10_deal_55 lk_RX10_20 (lyc rfl) (G4 0 1 2 rfl) ?_
      refine q_invV (pc := 58) (As := []) (st := []) dX10_deal_58 ok_X8_draw ml_RX10_352 iv_X8_draw pa_X8_draw ⟨Nat.le_of_ble_eq_true rfl, Nat.le_of_ble_eq_true rfl⟩ (lyc rfl) (q_kI F (fun vh5 h5 F => ?_))
      obtain ⟨G5, F⟩ := F
      refine z_bipush (pc := 61) (v := 9) dX10_deal_61 (by decide) ?_
      refine z_irem (pc := 63) dX10_deal_63 (by decide) ?_
      refine z_iconst (pc := 64) (v := 1) dX10_deal_64 (by decide) ?_
      refine z_iadd (pc := 65) dX10_deal_65 ?_
      refine z_istore (pc := 66) (ls' := [some (.ref 0), some (.int x1), some (.int x2), some (.int (vh3 - vh3 / 2 * 2)), some (.int (vh4 - vh4 / 6 * 6)), some (.int ((vh5 - vh5 / 9 * 9) + 1)), none]) dX10_deal_66 (by decide) rfl ?_
      refine z_aload_n (pc := 68) dX10_deal_68 rfl rfl ?_
      refine q_getR (pc := 69) (i := 2) dX10_deal_69 lk_RX10_20 (lyc rfl) (G5 0 1 2 rfl) ?_
      refine q_invV (pc := 72) (As := []) (st := []) dX10_deal_72 ok_X8_draw ml_RX10_352 iv_X8_draw pa_X8_draw ⟨Nat.le_of_ble_eq_true rfl, Nat.le_of_ble_eq_true rfl⟩ (lyc rfl) (q_kI F (fun vh6 h6 F => ?_))
      obtain ⟨G6, F⟩ := F
      refine z_bipush (pc := 75) (v := 9) dX10_deal_75 (by decide) ?_
      refine z_irem (pc := 77) dX10_deal_77 (by decide) ?_
      refine z_iconst (pc := 78) (v := 1) dX10_deal_78 (by decide) ?_
      refine z_iadd (pc := 79) dX10_deal_79 ?_
      refine z_istore (pc := 80) (ls' := [some (.ref 0), some (.int x1), some (.int x2), some (.int (vh3 - vh3 / 2 * 2)), some (.int (vh4 - vh4 / 6 * 6)), some (.int ((vh5 - vh5 / 9 * 9) + 1)), some (.int ((vh6 - vh6 / 9 * 9) + 1))]) dX10_deal_80 (by decide) rfl ?_
      refine z_aload_n (pc := 82) dX10_deal_82 rfl rfl ?_
      refine q_getR (pc := 83) (i := 2) dX10_deal_83 lk_RX10_20 (lyc rfl) (G6 0 1 2 rfl) ?_
      refine z_iload_n (pc := 86) dX10_deal_86 rfl rfl ?_
      refine z_iload (pc := 87) dX10_deal_87 rfl ?_
      refine z_iload (pc := 89) dX10_deal_89 rfl ?_
      refine z_iload (pc := 91) dX10_deal_91 rfl ?_
      refine q_invV (pc := 93) (As := [.int (vh3 - vh3 / 2 * 2), .int (vh4 - vh4 / 6 * 6), .int ((vh5 - vh5 / 9 * 9) + 1), .int ((vh6 - vh6 / 9 * 9) + 1)]) (st := []) dX10_deal_93 ok_X8_addThing ml_RX10_86 iv_X8_addThing pa_X8_addThing ⟨Nat.le_of_ble_eq_true rfl, Nat.le_of_ble_eq_true rfl⟩ (lyc rfl) (q_kV F (fun h7 F => ?_))
      obtain ⟨G7, F⟩ := F
      refine z_iinc (pc := 96) (v := x2 + 1) (ls' := [some (.ref 0), some (.int x1), some (.int (x2 + 1)), some (.int (vh3 - vh3 / 2 * 2)), some (.int (vh4 - vh4 / 6 * 6)), some (.int ((vh5 - vh5 / 9 * 9) + 1)), some (.int ((vh6 - vh6 / 9 * 9) + 1))]) dX10_deal_96 (by decide) rfl rfl rfl ?_
      refine z_goto (pc := 99) (tgt := 15) dX10_deal_99 (by decide) ?_
      exact q_sub (ls' := [some (.ref 0), some (.int x1), some (.int (x2 + 1)), none, none, none, none]) ⟨rfl, rfl, rfl, trivial⟩ F
theorem g_X11_deal {x1 : Int32} {h : zHp} {Q : Int32 → zHp → Prop}  (G : zG h) (F : (((0 : Int32) ≤ x1 ∧ x1 ≤ 8) → (zlI M_X11_deal 15 [some (.ref 164), some (.int x1), some (.int 0), none, none, none] [] h Q)) ∧ (¬ ((0 : Int32) ≤ x1 ∧ x1 ≤ 8) → (Q (-2) h))) : zcI M_X11_deal [.ref 164, .int x1] h Q := by
  show zw zNT zNT M_X11_deal 0 [some (.ref 164), some (.int x1), none, none, none, none] [] h _
  refine z_iload_n (pc := 0) dX11_deal_0 rfl rfl ?_
  refine z_iconst (pc := 1) (v := 0) dX11_deal_1 (by decide) ?_
  refine z_bipush (pc := 2) (v := 8) dX11_deal_2 (by decide) ?_
  refine q_invS (pc := 4) (As := [.int x1, .int 0, .int 8]) (st := []) dX11_deal_4 ok_X11_in ml_RX11_84 st_X11_in pa_X11_in ⟨Nat.le_of_ble_eq_true rfl, Nat.le_of_ble_eq_true rfl⟩ (q_pI (s_X11_in G) rfl ?_)
  refine z_if_ne (pc := 7) (tgt := 13) dX11_deal_7 (by decide) (fun k1 => ?_) (fun k1 => ?_)
  · replace F := F.1 (zbn.mp k1)
    refine z_iconst (pc := 13) (v := 0) dX11_deal_13 (by decide) ?_
    refine z_istore_n (pc := 14) (ls' := [some (.ref 164), some (.int x1), some (.int 0), none, none, none]) dX11_deal_14 rfl (by decide) rfl ?_
    exact F
  · replace F := F.2 (zb0.mp k1)
    refine z_bipush (pc := 10) (v := -2) dX11_deal_10 (by decide) ?_
    exact q_retI (pc := 12) dX11_deal_12 rfl F
theorem g_X11_deal_15 {x1 : Int32} {x2 : Int32} {h : zHp} {Q : Int32 → zHp → Prop}  (G : zG h) (F : (x1 ≤ x2 → (zcI M_X11_changed [.ref 164, .int (rI h 165 238)] h (fun vh1 h1 => zG h1 ∧ (Q vh1 h1)))) ∧ (¬ (x1 ≤ x2) → ((8 ≤ rI h 165 238 → (zcI M_X11_changed [.ref 164, .int (rI h 165 238)] h (fun vh2 h2 => zG h2 ∧ (Q vh2 h2)))) ∧ (¬ (8 ≤ rI h 165 238) → (zcI M_X11_draw [.ref 164] h (fun vh3 h3 => zG h3 ∧ (zcI M_X11_draw [.ref 164] h3 (fun vh4 h4 => zG h4 ∧ (zcI M_X11_draw [.ref 164] h4 (fun vh5 h5 => zG h5 ∧ (zcI M_X11_draw [.ref 164] h5 (fun vh6 h6 => zG h6 ∧ (zcV M_X11_comes [.ref 164, .int (vh3 - vh3 / 2 * 2), .int (vh4 - vh4 / 6 * 6), .int ((vh5 - vh5 / 9 * 9) + 1), .int ((vh6 - vh6 / 9 * 9) + 1)] h6 (fun h7 => zG h7 ∧ (zlI M_X11_deal 15 [some (.ref 164), some (.int x1), some (.int (x2 + 1)), none, none, none] [] h7 Q))))))))))))))) : zlI M_X11_deal 15 [some (.ref 164), some (.int x1), some (.int x2), none, none, none] [] h Q := by
  refine z_iload_n (pc := 15) dX11_deal_15 rfl rfl ?_
  refine z_iload_n (pc := 16) dX11_deal_16 rfl rfl ?_
  refine z_icmp_ge (pc := 17) (tgt := 84) dX11_deal_17 (by decide) (fun k9 => ?_) (fun k9 => ?_)
  · replace F := F.1 k9
    refine z_aload_n (pc := 84) dX11_deal_84 rfl rfl ?_
    refine z_aload_n (pc := 85) dX11_deal_85 rfl rfl ?_
    refine q_getR (pc := 86) (i := 165) dX11_deal_86 lk_RX11_7 (lyc rfl) (G 164 0 165 rfl) ?_
    refine z_sipush (pc := 89) (v := 238) dX11_deal_89 (by decide) ?_
    refine q_iald (pc := 92) (j := 238) (v := rI h 165 238) dX11_deal_92 (lyc rfl) (zvl (lnc rfl) (by decide)) (by decide) rfl ?_
    refine q_invV (pc := 93) (As := [.int (rI h 165 238)]) (st := []) dX11_deal_93 ok_X11_changed ml_RX11_167 iv_X11_changed pa_X11_changed ⟨Nat.le_of_ble_eq_true rfl, Nat.le_of_ble_eq_true rfl⟩ (lyc rfl) (q_kI F (fun vh1 h1 F => ?_))
    obtain ⟨G1, F⟩ := F
    exact q_retI (pc := 96) dX11_deal_96 rfl F
  · replace F := F.2 k9
    refine z_aload_n (pc := 20) dX11_deal_20 rfl rfl ?_
    refine q_getR (pc := 21) (i := 165) dX11_deal_21 lk_RX11_7 (lyc rfl) (G 164 0 165 rfl) ?_
    refine z_sipush (pc := 24) (v := 238) dX11_deal_24 (by decide) ?_
    refine q_iald (pc := 27) (j := 238) (v := rI h 165 238) dX11_deal_27 (lyc rfl) (zvl (lnc rfl) (by decide)) (by decide) rfl ?_
    refine z_bipush (pc := 28) (v := 8) dX11_deal_28 (by decide) ?_
    refine z_icmp_ge (pc := 30) (tgt := 84) dX11_deal_30 (by decide) (fun k8 => ?_) (fun k8 => ?_)
    · replace F := F.1 k8
      refine z_aload_n (pc := 84) dX11_deal_84 rfl rfl ?_
      refine z_aload_n (pc := 85) dX11_deal_85 rfl rfl ?_
      refine q_getR (pc := 86) (i := 165) dX11_deal_86 lk_RX11_7 (lyc rfl) (G 164 0 165 rfl) ?_
      refine z_sipush (pc := 89) (v := 238) dX11_deal_89 (by decide) ?_
      refine q_iald (pc := 92) (j := 238) (v := rI h 165 238) dX11_deal_92 (lyc rfl) (zvl (lnc rfl) (by decide)) (by decide) rfl ?_
      refine q_invV (pc := 93) (As := [.int (rI h 165 238)]) (st := []) dX11_deal_93 ok_X11_changed ml_RX11_167 iv_X11_changed pa_X11_changed ⟨Nat.le_of_ble_eq_true rfl, Nat.le_of_ble_eq_true rfl⟩ (lyc rfl) (q_kI F (fun vh2 h2 F => ?_))
      obtain ⟨G2, F⟩ := F
      exact q_retI (pc := 96) dX11_deal_96 rfl F
    · replace F := F.2 k8
      refine z_aload_n (pc := 33) dX11_deal_33 rfl rfl ?_
      refine q_invV (pc := 34) (As := []) (st := []) dX11_deal_34 ok_X11_draw ml_RX11_308 iv_X11_draw pa_X11_draw ⟨Nat.le_of_ble_eq_true rfl, Nat.le_of_ble_eq_true rfl⟩ (lyc rfl) (q_kI F (fun vh3 h3 F => ?_))
      obtain ⟨G3, F⟩ := F
      refine z_iconst (pc := 37) (v := 2) dX11_deal_37 (by decide) ?_
      refine z_irem (pc := 38) dX11_deal_38 (by decide) ?_
      refine z_istore_n (pc := 39) (ls' := [some (.ref 164), some (.int x1), some (.int x2), some (.int (vh3 - vh3 / 2 * 2)), none, none]) dX11_deal_39 rfl (by decide) rfl ?_
      refine z_aload_n (pc := 40) dX11_deal_40 rfl rfl ?_
      refine q_invV (pc := 41) (As := []) (st := []) dX11_deal_41 ok_X11_draw ml_RX11_308 iv_X11_draw pa_X11_draw ⟨Nat.le_of_ble_eq_true rfl, Nat.le_of_ble_eq_true rfl⟩ (lyc rfl) (q_kI F (fun vh4 h4 F => ?_))
      obtain ⟨G4, F⟩ := F
      refine z_bipush (pc := 44) (v := 6) dX11_deal_44 (by decide) ?_
      refine z_irem (pc := 46) dX11_deal_46 (by decide) ?_
      refine z_istore (pc := 47) (ls' := [some (.ref 164), some (.int x1), some (.int x2), some (.int (vh3 - vh3 / 2 * 2)), some (.int (vh4 - vh4 / 6 * 6)), none]) dX11_deal_47 (by decide) rfl ?_
      refine z_aload_n (pc := 49) dX11_deal_49 rfl rfl ?_
      refine q_invV (pc := 50) (As := []) (st := []) dX11_deal_50 ok_X11_draw ml_RX11_308 iv_X11_draw pa_X11_draw ⟨Nat.le_of_ble_eq_true rfl, Nat.le_of_ble_eq_true rfl⟩ (lyc rfl) (q_kI F (fun vh5 h5 F => ?_))
      obtain ⟨G5, F⟩ := F
      refine z_bipush (pc := 53) (v := 9) dX11_deal_53 (by decide) ?_
      refine z_irem (pc := 55) dX11_deal_55 (by decide) ?_
      refine z_iconst (pc := 56) (v := 1) dX11_deal_56 (by decide) ?_
      refine z_iadd (pc := 57) dX11_deal_57 ?_
      refine z_istore (pc := 58) (ls' := [some (.ref 164), some (.int x1), some (.int x2), some (.int (vh3 - vh3 / 2 * 2)), some (.int (vh4 - vh4 / 6 * 6)), some (.int ((vh5 - vh5 / 9 * 9) + 1))]) dX11_deal_58 (by decide) rfl ?_
      refine z_aload_n (pc := 60) dX11_deal_60 rfl rfl ?_
      refine z_iload_n (pc := 61) dX11_deal_61 rfl rfl ?_
      refine z_iload (pc := 62) dX11_deal_62 rfl ?_
      refine z_iload (pc := 64) dX11_deal_64 rfl ?_
      refine z_aload_n (pc := 66) dX11_deal_66 rfl rfl ?_
      refine q_invV (pc := 67) (As := []) (st := [.int ((vh5 - vh5 / 9 * 9) + 1), .int (vh4 - vh4 / 6 * 6), .int (vh3 - vh3 / 2 * 2), .ref 164]) dX11_deal_67 ok_X11_draw ml_RX11_308 iv_X11_draw pa_X11_draw ⟨Nat.le_of_ble_eq_true rfl, Nat.le_of_ble_eq_true rfl⟩ (lyc rfl) (q_kI F (fun vh6 h6 F => ?_))
      obtain ⟨G6, F⟩ := F
      refine z_bipush (pc := 70) (v := 9) dX11_deal_70 (by decide) ?_
      refine z_irem (pc := 72) dX11_deal_72 (by decide) ?_
      refine z_iconst (pc := 73) (v := 1) dX11_deal_73 (by decide) ?_
      refine z_iadd (pc := 74) dX11_deal_74 ?_
      refine q_invV (pc := 75) (As := [.int (vh3 - vh3 / 2 * 2), .int (vh4 - vh4 / 6 * 6), .int ((vh5 - vh5 / 9 * 9) + 1), .int ((vh6 - vh6 / 9 * 9) + 1)]) (st := []) dX11_deal_75 ok_X11_comes ml_RX11_163 iv_X11_comes pa_X11_comes ⟨Nat.le_of_ble_eq_true rfl, Nat.le_of_ble_eq_true rfl⟩ (lyc rfl) (q_kV F (fun h7 F => ?_))
      obtain ⟨G7, F⟩ := F
      refine z_iinc (pc := 78) (v := x2 + 1) (ls' := [some (.ref 164), some (.int x1), some (.int (x2 + 1)), some (.int (vh3 - vh3 / 2 * 2)), some (.int (vh4 - vh4 / 6 * 6)), some (.int ((vh5 - vh5 / 9 * 9) + 1))]) dX11_deal_78 (by decide) rfl rfl rfl ?_
      refine z_goto (pc := 81) (tgt := 15) dX11_deal_81 (by decide) ?_
      exact q_sub (ls' := [some (.ref 164), some (.int x1), some (.int (x2 + 1)), none, none, none]) ⟨rfl, rfl, rfl, trivial⟩ F
theorem g_X8_aliveBits {c0 : Nat} {h : zHp} {Q : Int32 → zHp → Prop} (hc0 : zW c0) (G : zG h) (F : zlI M_X8_aliveBits 4 [some (.ref c0), some (.int 0), some (.int 0)] [] h Q) : zcI M_X8_aliveBits [.ref c0] h Q := by
  show zw zNT zNT M_X8_aliveBits 0 [some (.ref c0), none, none] [] h _
  refine z_iconst (pc := 0) (v := 0) dX8_aliveBits_0 (by decide) ?_
  refine z_istore_n (pc := 1) (ls' := [some (.ref c0), some (.int 0), none]) dX8_aliveBits_1 rfl (by decide) rfl ?_
  refine z_iconst (pc := 2) (v := 0) dX8_aliveBits_2 (by decide) ?_
  refine z_istore_n (pc := 3) (ls' := [some (.ref c0), some (.int 0), some (.int 0)]) dX8_aliveBits_3 rfl (by decide) rfl ?_
  exact F
theorem g_X8_aliveBits_4 {c0 : Nat} {x1 : Int32} {x2 : Int32} {h : zHp} {Q : Int32 → zHp → Prop} (hc0 : zW c0) (G : zG h) (F : (rI h c0 1 ≤ x2 → (Q x1 h)) ∧ (¬ (rI h c0 1 ≤ x2) → (vp_in x2 8 ∧ ((rI h (c0 + 6 + (Int32.toNatClampNeg x2)) 5 = 0 → (zlI M_X8_aliveBits 4 [some (.ref c0), some (.int x1), some (.int (x2 + 1))] [] h Q)) ∧ (¬ (rI h (c0 + 6 + (Int32.toNatClampNeg x2)) 5 = 0) → (zlI M_X8_aliveBits 4 [some (.ref c0), some (.int (x1 ||| (1 <<< (x2 &&& 31)))), some (.int (x2 + 1))] [] h Q)))))) : zlI M_X8_aliveBits 4 [some (.ref c0), some (.int x1), some (.int x2)] [] h Q := by
  refine z_iload_n (pc := 4) dX8_aliveBits_4 rfl rfl ?_
  refine z_aload_n (pc := 5) dX8_aliveBits_5 rfl rfl ?_
  refine q_getI (pc := 6) (v := rI h c0 1) dX8_aliveBits_6 lk_RX8_47 (lyW0 hc0) rfl ?_
  refine z_icmp_ge (pc := 9) (tgt := 36) dX8_aliveBits_9 (by decide) (fun k3 => ?_) (fun k3 => ?_)
  · replace F := F.1 k3
    refine z_iload_n (pc := 36) dX8_aliveBits_36 rfl rfl ?_
    exact q_retI (pc := 37) dX8_aliveBits_37 rfl F
  · replace F := F.2 k3
    refine z_aload_n (pc := 12) dX8_aliveBits_12 rfl rfl ?_
    refine q_getR (pc := 13) (i := c0 + 1) dX8_aliveBits_13 lk_RX8_11 (lyW0 hc0) (grW0 G hc0) ?_
    refine z_iload_n (pc := 16) dX8_aliveBits_16 rfl rfl ?_
    obtain ⟨k1, F⟩ := F
    refine q_aald (pc := 17) (j := (Int32.toNatClampNeg x2)) (r := c0 + 6 + (Int32.toNatClampNeg x2)) (t := 0) dX8_aliveBits_17 (lyW1 hc0) (zvn (lnW1 hc0) k1) rfl (grT (B := c0) G hc0 (zvi k1)) ?_
    refine q_getI (pc := 18) (v := rI h (c0 + 6 + (Int32.toNatClampNeg x2)) 5) dX8_aliveBits_18 lk_RX8_79 (lyT (B := c0) hc0 (zvi k1)) rfl ?_
    refine z_if_eq (pc := 21) (tgt := 30) dX8_aliveBits_21 (by decide) (fun k2 => ?_) (fun k2 => ?_)
    · replace F := F.1 k2
      refine z_iinc (pc := 30) (v := x2 + 1) (ls' := [some (.ref c0), some (.int x1), some (.int (x2 + 1))]) dX8_aliveBits_30 (by decide) rfl rfl rfl ?_
      refine z_goto (pc := 33) (tgt := 4) dX8_aliveBits_33 (by decide) ?_
      exact F
    · replace F := F.2 k2
      refine z_iload_n (pc := 24) dX8_aliveBits_24 rfl rfl ?_
      refine z_iconst (pc := 25) (v := 1) dX8_aliveBits_25 (by decide) ?_
      refine z_iload_n (pc := 26) dX8_aliveBits_26 rfl rfl ?_
      refine z_ishl (pc := 27) dX8_aliveBits_27 ?_
      refine z_ior (pc := 28) dX8_aliveBits_28 ?_
      refine z_istore_n (pc := 29) (ls' := [some (.ref c0), some (.int (x1 ||| (1 <<< (x2 &&& 31)))), some (.int x2)]) dX8_aliveBits_29 rfl (by decide) rfl ?_
      refine z_iinc (pc := 30) (v := x2 + 1) (ls' := [some (.ref c0), some (.int (x1 ||| (1 <<< (x2 &&& 31)))), some (.int (x2 + 1))]) dX8_aliveBits_30 (by decide) rfl rfl rfl ?_
      refine z_goto (pc := 33) (tgt := 4) dX8_aliveBits_33 (by decide) ?_
      exact F
theorem g_X10_count {x1 : Int32} {h : zHp} {Q : Int32 → zHp → Prop}  (G : zG h) (F : (x1 = 0 → (Q (rI h 2 1) h)) ∧ (¬ x1 = 0 → ((x1 = 1 → (zcI M_X8_aliveBits [.ref 2] h (fun vh1 h1 => zG h1 ∧ (Q vh1 h1)))) ∧ (¬ x1 = 1 → ((x1 = 2 → (Q (rI h 2 3) h)) ∧ (¬ x1 = 2 → ((x1 = 3 → (Q (rI h 2 5) h)) ∧ (¬ x1 = 3 → ((x1 = 4 → (Q (rI h 2 7) h)) ∧ (¬ x1 = 4 → ((x1 = 5 → (Q (rI h 2 9) h)) ∧ (¬ x1 = 5 → ((x1 = 6 → (Q (rI h 141 1) h)) ∧ (¬ x1 = 6 → ((x1 = 7 → (Q (rI h 2 10) h)) ∧ (¬ x1 = 7 → (Q (-2) h))))))))))))))))) : zcI M_X10_count [.ref 0, .int x1] h Q := by
  show zw zNT zNT M_X10_count 0 [some (.ref 0), some (.int x1)] [] h _
  refine z_iload_n (pc := 0) dX10_count_0 rfl rfl ?_
  by_cases k1 : x1 = 0
  · replace F := F.1 k1
    refine z_tableIn (pc := 1) (x := x1) (tgt := 48) (off := 47) dX10_count_1 (by rw [k1]; decide) (by rw [k1]; decide) (by rw [k1]; decide) (by decide) ?_
    refine z_aload_n (pc := 48) dX10_count_48 rfl rfl ?_
    refine q_getR (pc := 49) (i := 2) dX10_count_49 lk_RX10_20 (lyc rfl) (G 0 1 2 rfl) ?_
    refine q_getI (pc := 52) (v := rI h 2 1) dX10_count_52 lk_RX10_68 (lyc rfl) rfl ?_
    exact q_retI (pc := 55) dX10_count_55 rfl F
  · replace F := F.2 k1
    by_cases k2 : x1 = 1
    · replace F := F.1 k2
      refine z_tableIn (pc := 1) (x := x1) (tgt := 56) (off := 55) dX10_count_1 (by rw [k2]; decide) (by rw [k2]; decide) (by rw [k2]; decide) (by decide) ?_
      refine z_aload_n (pc := 56) dX10_count_56 rfl rfl ?_
      refine q_getR (pc := 57) (i := 2) dX10_count_57 lk_RX10_20 (lyc rfl) (G 0 1 2 rfl) ?_
      refine q_invV (pc := 60) (As := []) (st := []) dX10_count_60 ok_X8_aliveBits ml_RX10_374 iv_X8_aliveBits pa_X8_aliveBits ⟨Nat.le_of_ble_eq_true rfl, Nat.le_of_ble_eq_true rfl⟩ (lyc rfl) (q_kI F (fun vh1 h1 F => ?_))
      obtain ⟨G1, F⟩ := F
      exact q_retI (pc := 63) dX10_count_63 rfl F
    · replace F := F.2 k2
      by_cases k4 : x1 = 2
      · replace F := F.1 k4
        refine z_tableIn (pc := 1) (x := x1) (tgt := 64) (off := 63) dX10_count_1 (by rw [k4]; decide) (by rw [k4]; decide) (by rw [k4]; decide) (by decide) ?_
        refine z_aload_n (pc := 64) dX10_count_64 rfl rfl ?_
        refine q_getR (pc := 65) (i := 2) dX10_count_65 lk_RX10_20 (lyc rfl) (G 0 1 2 rfl) ?_
        refine q_getI (pc := 68) (v := rI h 2 3) dX10_count_68 lk_RX10_161 (lyc rfl) rfl ?_
        exact q_retI (pc := 71) dX10_count_71 rfl F
      · replace F := F.2 k4
        by_cases k5 : x1 = 3
        · replace F := F.1 k5
          refine z_tableIn (pc := 1) (x := x1) (tgt := 72) (off := 71) dX10_count_1 (by rw [k5]; decide) (by rw [k5]; decide) (by rw [k5]; decide) (by decide) ?_
          refine z_aload_n (pc := 72) dX10_count_72 rfl rfl ?_
          refine q_getR (pc := 73) (i := 2) dX10_count_73 lk_RX10_20 (lyc rfl) (G 0 1 2 rfl) ?_
          refine q_getI (pc := 76) (v := rI h 2 5) dX10_count_76 lk_RX10_205 (lyc rfl) rfl ?_
          exact q_retI (pc := 79) dX10_count_79 rfl F
        · replace F := F.2 k5
          by_cases k6 : x1 = 4
          · replace F := F.1 k6
            refine z_tableIn (pc := 1) (x := x1) (tgt := 80) (off := 79) dX10_count_1 (by rw [k6]; decide) (by rw [k6]; decide) (by rw [k6]; decide) (by decide) ?_
            refine z_aload_n (pc := 80) dX10_count_80 rfl rfl ?_
            refine q_getR (pc := 81) (i := 2) dX10_count_81 lk_RX10_20 (lyc rfl) (G 0 1 2 rfl) ?_
            refine q_getI (pc := 84) (v := rI h 2 7) dX10_count_84 lk_RX10_231 (lyc rfl) rfl ?_
            exact q_retI (pc := 87) dX10_count_87 rfl F
          · replace F := F.2 k6
            by_cases k7 : x1 = 5
            · replace F := F.1 k7
              refine z_tableIn (pc := 1) (x := x1) (tgt := 88) (off := 87) dX10_count_1 (by rw [k7]; decide) (by rw [k7]; decide) (by rw [k7]; decide) (by decide) ?_
              refine z_aload_n (pc := 88) dX10_count_88 rfl rfl ?_
              refine q_getR (pc := 89) (i := 2) dX10_count_89 lk_RX10_20 (lyc rfl) (G 0 1 2 rfl) ?_
              refine q_getI (pc := 92) (v := rI h 2 9) dX10_count_92 lk_RX10_292 (lyc rfl) rfl ?_
              exact q_retI (pc := 95) dX10_count_95 rfl F
            · replace F := F.2 k7
              by_cases k8 : x1 = 6
              · replace F := F.1 k8
                refine z_tableIn (pc := 1) (x := x1) (tgt := 96) (off := 95) dX10_count_1 (by rw [k8]; decide) (by rw [k8]; decide) (by rw [k8]; decide) (by decide) ?_
                refine z_aload_n (pc := 96) dX10_count_96 rfl rfl ?_
                refine q_getR (pc := 97) (i := 141) dX10_count_97 lk_RX10_53 (lyc rfl) (G 0 8 141 rfl) ?_
                refine q_getI (pc := 100) (v := rI h 141 1) dX10_count_100 lk_RX10_301 (lyc rfl) rfl ?_
                exact q_retI (pc := 103) dX10_count_103 rfl F
              · replace F := F.2 k8
                by_cases k9 : x1 = 7
                · replace F := F.1 k9
                  refine z_tableIn (pc := 1) (x := x1) (tgt := 104) (off := 103) dX10_count_1 (by rw [k9]; decide) (by rw [k9]; decide) (by rw [k9]; decide) (by decide) ?_
                  refine z_aload_n (pc := 104) dX10_count_104 rfl rfl ?_
                  refine q_getR (pc := 105) (i := 2) dX10_count_105 lk_RX10_20 (lyc rfl) (G 0 1 2 rfl) ?_
                  refine q_getI (pc := 108) (v := rI h 2 10) dX10_count_108 lk_RX10_349 (lyc rfl) rfl ?_
                  exact q_retI (pc := 111) dX10_count_111 rfl F
                · replace F := F.2 k9
                  have hz0 := q_sw (0) k1 (by decide)
                  have hz1 := q_sw (1) k2 (by decide)
                  have hz2 := q_sw (2) k4 (by decide)
                  have hz3 := q_sw (3) k5 (by decide)
                  have hz4 := q_sw (4) k6 (by decide)
                  have hz5 := q_sw (5) k7 (by decide)
                  have hz6 := q_sw (6) k8 (by decide)
                  have hz7 := q_sw (7) k9 (by decide)
                  refine z_tableOut (pc := 1) (tgt := 112) dX10_count_1 (by omega) (by decide) ?_
                  refine z_bipush (pc := 112) (v := -2) dX10_count_112 (by decide) ?_
                  exact q_retI (pc := 114) dX10_count_114 rfl F
theorem g_X11_count {x1 : Int32} {h : zHp} {Q : Int32 → zHp → Prop}  (G : zG h) (F : zlI M_X11_count 4 [some (.ref 164), some (.int x1), some (.int 0), some (.int 0)] [] h Q) : zcI M_X11_count [.ref 164, .int x1] h Q := by
  show zw zNT zNT M_X11_count 0 [some (.ref 164), some (.int x1), none, none] [] h _
  refine z_iconst (pc := 0) (v := 0) dX11_count_0 (by decide) ?_
  refine z_istore_n (pc := 1) (ls' := [some (.ref 164), some (.int x1), some (.int 0), none]) dX11_count_1 rfl (by decide) rfl ?_
  refine z_iconst (pc := 2) (v := 0) dX11_count_2 (by decide) ?_
  refine z_istore_n (pc := 3) (ls' := [some (.ref 164), some (.int x1), some (.int 0), some (.int 0)]) dX11_count_3 rfl (by decide) rfl ?_
  exact F
theorem g_X11_count_4 {x1 : Int32} {x2 : Int32} {x3 : Int32} {h : zHp} {Q : Int32 → zHp → Prop}  (G : zG h) (F : (rI h 165 238 ≤ x3 → ((x1 = 0 → (Q (rI h 165 238) h)) ∧ (¬ x1 = 0 → ((x1 = 1 → (Q x2 h)) ∧ (¬ x1 = 1 → ((x1 = 2 → (Q (rI h 165 239) h)) ∧ (¬ x1 = 2 → ((x1 = 3 → (Q (rI h 165 240) h)) ∧ (¬ x1 = 3 → ((x1 = 4 → (Q (rI h 165 241) h)) ∧ (¬ x1 = 4 → ((x1 = 5 → (Q (rI h 165 244) h)) ∧ (¬ x1 = 5 → ((x1 = 6 → (Q (rI h 164 21) h)) ∧ (¬ x1 = 6 → ((x1 = 7 → (Q (rI h 165 245) h)) ∧ (¬ x1 = 7 → (Q (-2) h)))))))))))))))))) ∧ (¬ (rI h 165 238 ≤ x3) → (zCt (rI h 165 238) 8 ∧ ((¬ (aliveM h x3) → (zlI M_X11_count 4 [some (.ref 164), some (.int x1), some (.int (x2 ||| 0)), some (.int (x3 + 1))] [] h Q)) ∧ ((aliveM h x3) → (zlI M_X11_count 4 [some (.ref 164), some (.int x1), some (.int (x2 ||| (1 <<< (x3 &&& 31)))), some (.int (x3 + 1))] [] h Q)))))) : zlI M_X11_count 4 [some (.ref 164), some (.int x1), some (.int x2), some (.int x3)] [] h Q := by
  refine z_iload_n (pc := 4) dX11_count_4 rfl rfl ?_
  refine z_aload_n (pc := 5) dX11_count_5 rfl rfl ?_
  refine q_getR (pc := 6) (i := 165) dX11_count_6 lk_RX11_7 (lyc rfl) (G 164 0 165 rfl) ?_
  refine z_sipush (pc := 9) (v := 238) dX11_count_9 (by decide) ?_
  refine q_iald (pc := 12) (j := 238) (v := rI h 165 238) dX11_count_12 (lyc rfl) (zvl (lnc rfl) (by decide)) (by decide) rfl ?_
  refine z_icmp_ge (pc := 13) (tgt := 40) dX11_count_13 (by decide) (fun k11 => ?_) (fun k11 => ?_)
  · replace F := F.1 k11
    refine z_iload_n (pc := 40) dX11_count_40 rfl rfl ?_
    by_cases k1 : x1 = 0
    · replace F := F.1 k1
      refine z_tableIn (pc := 41) (x := x1) (tgt := 88) (off := 47) dX11_count_41 (by rw [k1]; decide) (by rw [k1]; decide) (by rw [k1]; decide) (by decide) ?_
      refine z_aload_n (pc := 88) dX11_count_88 rfl rfl ?_
      refine q_getR (pc := 89) (i := 165) dX11_count_89 lk_RX11_7 (lyc rfl) (G 164 0 165 rfl) ?_
      refine z_sipush (pc := 92) (v := 238) dX11_count_92 (by decide) ?_
      refine q_iald (pc := 95) (j := 238) (v := rI h 165 238) dX11_count_95 (lyc rfl) (zvl (lnc rfl) (by decide)) (by decide) rfl ?_
      exact q_retI (pc := 96) dX11_count_96 rfl F
    · replace F := F.2 k1
      by_cases k2 : x1 = 1
      · replace F := F.1 k2
        refine z_tableIn (pc := 41) (x := x1) (tgt := 97) (off := 56) dX11_count_41 (by rw [k2]; decide) (by rw [k2]; decide) (by rw [k2]; decide) (by decide) ?_
        refine z_iload_n (pc := 97) dX11_count_97 rfl rfl ?_
        exact q_retI (pc := 98) dX11_count_98 rfl F
      · replace F := F.2 k2
        by_cases k3 : x1 = 2
        · replace F := F.1 k3
          refine z_tableIn (pc := 41) (x := x1) (tgt := 99) (off := 58) dX11_count_41 (by rw [k3]; decide) (by rw [k3]; decide) (by rw [k3]; decide) (by decide) ?_
          refine z_aload_n (pc := 99) dX11_count_99 rfl rfl ?_
          refine q_getR (pc := 100) (i := 165) dX11_count_100 lk_RX11_7 (lyc rfl) (G 164 0 165 rfl) ?_
          refine z_sipush (pc := 103) (v := 239) dX11_count_103 (by decide) ?_
          refine q_iald (pc := 106) (j := 239) (v := rI h 165 239) dX11_count_106 (lyc rfl) (zvl (lnc rfl) (by decide)) (by decide) rfl ?_
          exact q_retI (pc := 107) dX11_count_107 rfl F
        · replace F := F.2 k3
          by_cases k4 : x1 = 3
          · replace F := F.1 k4
            refine z_tableIn (pc := 41) (x := x1) (tgt := 108) (off := 67) dX11_count_41 (by rw [k4]; decide) (by rw [k4]; decide) (by rw [k4]; decide) (by decide) ?_
            refine z_aload_n (pc := 108) dX11_count_108 rfl rfl ?_
            refine q_getR (pc := 109) (i := 165) dX11_count_109 lk_RX11_7 (lyc rfl) (G 164 0 165 rfl) ?_
            refine z_sipush (pc := 112) (v := 240) dX11_count_112 (by decide) ?_
            refine q_iald (pc := 115) (j := 240) (v := rI h 165 240) dX11_count_115 (lyc rfl) (zvl (lnc rfl) (by decide)) (by decide) rfl ?_
            exact q_retI (pc := 116) dX11_count_116 rfl F
          · replace F := F.2 k4
            by_cases k5 : x1 = 4
            · replace F := F.1 k5
              refine z_tableIn (pc := 41) (x := x1) (tgt := 117) (off := 76) dX11_count_41 (by rw [k5]; decide) (by rw [k5]; decide) (by rw [k5]; decide) (by decide) ?_
              refine z_aload_n (pc := 117) dX11_count_117 rfl rfl ?_
              refine q_getR (pc := 118) (i := 165) dX11_count_118 lk_RX11_7 (lyc rfl) (G 164 0 165 rfl) ?_
              refine z_sipush (pc := 121) (v := 241) dX11_count_121 (by decide) ?_
              refine q_iald (pc := 124) (j := 241) (v := rI h 165 241) dX11_count_124 (lyc rfl) (zvl (lnc rfl) (by decide)) (by decide) rfl ?_
              exact q_retI (pc := 125) dX11_count_125 rfl F
            · replace F := F.2 k5
              by_cases k6 : x1 = 5
              · replace F := F.1 k6
                refine z_tableIn (pc := 41) (x := x1) (tgt := 126) (off := 85) dX11_count_41 (by rw [k6]; decide) (by rw [k6]; decide) (by rw [k6]; decide) (by decide) ?_
                refine z_aload_n (pc := 126) dX11_count_126 rfl rfl ?_
                refine q_getR (pc := 127) (i := 165) dX11_count_127 lk_RX11_7 (lyc rfl) (G 164 0 165 rfl) ?_
                refine z_sipush (pc := 130) (v := 244) dX11_count_130 (by decide) ?_
                refine q_iald (pc := 133) (j := 244) (v := rI h 165 244) dX11_count_133 (lyc rfl) (zvl (lnc rfl) (by decide)) (by decide) rfl ?_
                exact q_retI (pc := 134) dX11_count_134 rfl F
              · replace F := F.2 k6
                by_cases k7 : x1 = 6
                · replace F := F.1 k7
                  refine z_tableIn (pc := 41) (x := x1) (tgt := 135) (off := 94) dX11_count_41 (by rw [k7]; decide) (by rw [k7]; decide) (by rw [k7]; decide) (by decide) ?_
                  refine z_aload_n (pc := 135) dX11_count_135 rfl rfl ?_
                  refine q_getI (pc := 136) (v := rI h 164 21) dX11_count_136 lk_RX11_242 (lyc rfl) rfl ?_
                  exact q_retI (pc := 139) dX11_count_139 rfl F
                · replace F := F.2 k7
                  by_cases k8 : x1 = 7
                  · replace F := F.1 k8
                    refine z_tableIn (pc := 41) (x := x1) (tgt := 140) (off := 99) dX11_count_41 (by rw [k8]; decide) (by rw [k8]; decide) (by rw [k8]; decide) (by decide) ?_
                    refine z_aload_n (pc := 140) dX11_count_140 rfl rfl ?_
                    refine q_getR (pc := 141) (i := 165) dX11_count_141 lk_RX11_7 (lyc rfl) (G 164 0 165 rfl) ?_
                    refine z_sipush (pc := 144) (v := 245) dX11_count_144 (by decide) ?_
                    refine q_iald (pc := 147) (j := 245) (v := rI h 165 245) dX11_count_147 (lyc rfl) (zvl (lnc rfl) (by decide)) (by decide) rfl ?_
                    exact q_retI (pc := 148) dX11_count_148 rfl F
                  · replace F := F.2 k8
                    have hz0 := q_sw (0) k1 (by decide)
                    have hz1 := q_sw (1) k2 (by decide)
                    have hz2 := q_sw (2) k3 (by decide)
                    have hz3 := q_sw (3) k4 (by decide)
                    have hz4 := q_sw (4) k5 (by decide)
                    have hz5 := q_sw (5) k6 (by decide)
                    have hz6 := q_sw (6) k7 (by decide)
                    have hz7 := q_sw (7) k8 (by decide)
                    refine z_tableOut (pc := 41) (tgt := 149) dX11_count_41 (by omega) (by decide) ?_
                    refine z_bipush (pc := 149) (v := -2) dX11_count_149 (by decide) ?_
                    exact q_retI (pc := 151) dX11_count_151 rfl F
  · replace F := F.2 k11
    refine z_iload_n (pc := 16) dX11_count_16 rfl rfl ?_
    refine z_aload_n (pc := 17) dX11_count_17 rfl rfl ?_
    refine z_iload_n (pc := 18) dX11_count_18 rfl rfl ?_
    obtain ⟨k9, F⟩ := F
    refine q_invV (pc := 19) (As := [.int x3]) (st := [.int x2]) dX11_count_19 ok_X11_isAlive ml_RX11_100 iv_X11_isAlive pa_X11_isAlive ⟨Nat.le_of_ble_eq_true rfl, Nat.le_of_ble_eq_true rfl⟩ (lyc rfl) (q_pI (s_X11_isAlive G k9) rfl ?_)
    refine z_if_eq (pc := 22) (tgt := 31) dX11_count_22 (by decide) (fun k10 => ?_) (fun k10 => ?_)
    · replace F := F.1 (zb0.mp k10)
      refine z_iconst (pc := 31) (v := 0) dX11_count_31 (by decide) ?_
      refine z_ior (pc := 32) dX11_count_32 ?_
      refine z_istore_n (pc := 33) (ls' := [some (.ref 164), some (.int x1), some (.int (x2 ||| 0)), some (.int x3)]) dX11_count_33 rfl (by decide) rfl ?_
      refine z_iinc (pc := 34) (v := x3 + 1) (ls' := [some (.ref 164), some (.int x1), some (.int (x2 ||| 0)), some (.int (x3 + 1))]) dX11_count_34 (by decide) rfl rfl rfl ?_
      refine z_goto (pc := 37) (tgt := 4) dX11_count_37 (by decide) ?_
      exact F
    · replace F := F.2 (zbn.mp k10)
      refine z_iconst (pc := 25) (v := 1) dX11_count_25 (by decide) ?_
      refine z_iload_n (pc := 26) dX11_count_26 rfl rfl ?_
      refine z_ishl (pc := 27) dX11_count_27 ?_
      refine z_goto (pc := 28) (tgt := 32) dX11_count_28 (by decide) ?_
      refine z_ior (pc := 32) dX11_count_32 ?_
      refine z_istore_n (pc := 33) (ls' := [some (.ref 164), some (.int x1), some (.int (x2 ||| (1 <<< (x3 &&& 31)))), some (.int x3)]) dX11_count_33 rfl (by decide) rfl ?_
      refine z_iinc (pc := 34) (v := x3 + 1) (ls' := [some (.ref 164), some (.int x1), some (.int (x2 ||| (1 <<< (x3 &&& 31)))), some (.int (x3 + 1))]) dX11_count_34 (by decide) rfl rfl rfl ?_
      refine z_goto (pc := 37) (tgt := 4) dX11_count_37 (by decide) ?_
      exact F
noncomputable def aV (N : zN) (o n a t v : Int32) : zN := upd (upd (upd (upd (upd (upd (upd (upd N (182 + 7 * cV N) o) (182 + 7 * cV N + 1) n) (182 + 7 * cV N + 2) a) (182 + 7 * cV N + 3) t) (182 + 7 * cV N + 4) v) (182 + 7 * cV N + 5) 0) (182 + 7 * cV N + 6) 0) 241 (nI (cV N + 1))
theorem aV_ad {N : zN} {o n a t v : Int32} (h : cV N < 8) : adV N (aV N o n a t v) := ⟨pk_us, fun i h1 h2 => by unfold aV; rw [pk_un h1, pk_un (by omega), pk_un (by omega), pk_un (by omega), pk_un (by omega), pk_un (by omega), pk_un (by omega), pk_un (by omega)]⟩
theorem aV_f {N : zN} {o n a t v : Int32} (h : cV N < 8) : aV N o n a t v (182 + 7 * cV N) = o ∧ aV N o n a t v (182 + 7 * cV N + 1) = n ∧ aV N o n a t v (182 + 7 * cV N + 2) = a ∧ aV N o n a t v (182 + 7 * cV N + 3) = t ∧ aV N o n a t v (182 + 7 * cV N + 4) = v ∧ aV N o n a t v (182 + 7 * cV N + 5) = 0 ∧ aV N o n a t v (182 + 7 * cV N + 6) = 0 := by
  unfold aV
  refine ⟨?_, ?_, ?_, ?_, ?_, ?_, ?_⟩
  · rw [pk_un (by omega), pk_un (by omega), pk_un (by omega), pk_un (by omega), pk_un (by omega), pk_un (by omega), pk_un (by omega), pk_us]
  · rw [pk_un (by omega), pk_un (by omega), pk_un (by omega), pk_un (by omega), pk_un (by omega), pk_un (by omega), pk_us]
  · rw [pk_un (by omega), pk_un (by omega), pk_un (by omega), pk_un (by omega), pk_un (by omega), pk_us]
  · rw [pk_un (by omega), pk_un (by omega), pk_un (by omega), pk_un (by omega), pk_us]
  · rw [pk_un (by omega), pk_un (by omega), pk_un (by omega), pk_us]
  · rw [pk_un (by omega), pk_un (by omega), pk_us]
  · rw [pk_un (by omega), pk_us]
def okV (o n a t v : Int32) : Prop := ((0 : Int32) ≤ o ∧ o ≤ 1) ∧ ((0 : Int32) ≤ n ∧ n ≤ 2) ∧ ((0 : Int32) ≤ a ∧ a ≤ 2) ∧ ((-1 : Int32) ≤ t ∧ t ≤ 7) ∧ ((0 : Int32) ≤ v ∧ v ≤ 9)
theorem aV_IQ {N : zN} {o n a t v : Int32} (q : IQ N) (h : cV N < 8) (ok : okV o n a t v) : IQ (aV N o n a t v) ∧ Sm N (aV N o n a t v) := by
  have sm : Sm N (aV N o n a t v) := Sm_hi q.1 (fun i hi => (aV_ad h).2 i (by omega) (by omega))
  obtain ⟨-, -, -, -, f4, -⟩ := aV_f (N := N) (o := o) (n := n) (a := a) (t := t) (v := v) h
  obtain ⟨x, y⟩ := adV_q q.1 q.2.1 h (aV_ad (o := o) (n := n) (a := a) (t := t) (v := v) h) (by
    unfold QV
    rw [f4]
    exact iv_of ok.2.2.2.2 rfl rfl)
  exact ⟨⟨x, y, St_Sm q.1 sm q.2.2⟩, sm⟩
noncomputable def o_watch (N : zN) (o n a t v : Int32) : Int32 × zN := @ite _ (okV o n a t v) (Classical.propDecidable _) (if cV N < 8 then (nI (cV N), aV N o n a t v) else (-4, N)) (-2, N)
theorem sim_watch {o n a t v : Int32} : Sim M_X10_watch M_X11_watch [.int o, .int n, .int a, .int t, .int v] := by
  refine simW (ans := fun N => (o_watch N o n a t v).1) (F := fun N => (o_watch N o n a t v).2) (fun h N G q I => ?_) (fun h N G q e top => ?_) (fun N q => ?_)
  · have I0 := I
    obtain ⟨hP, hR, hL, ht⟩ := I
    have hC := q.1
    have v8 := hC.2.2.2.2
    have bad : ¬ okV o n a t v → (-2 = (o_watch N o n a t v).1 ∧ fZ h h ∧ IC h (o_watch N o n a t v).2) := fun z => by
      unfold o_watch
      rw [if_neg z]
      exact ⟨rfl, fZ.rf, I0⟩
    refine g_X10_watch G ⟨fun z => bad (fun y => z y.1), fun z1 => ⟨fun z => bad (fun y => z y.2.1), fun z2 => ⟨fun z3 => ⟨fun z => bad (fun y => z y.2.2.2.1), fun z4 => ⟨fun z5 => ?_, fun z => bad (fun y => z y.2.2.2.2)⟩⟩, fun z => bad (fun y => z y.2.2.1)⟩⟩⟩
    have ok : okV o n a t v := ⟨z1, z2, z3, z4, z5⟩
    unfold o_watch
    rw [if_pos ok, hR.1.2.2.2.1, hC.2.2.2.1, nI_clamp (by omega), nI_1]
    refine ⟨fun z => ?_, fun z => ?_⟩
    · have c8 : cV N < 8 := (nI_ltI (a := cV N) (b := 8) (by omega) (by omega)).mp z
      rw [if_pos c8]
      obtain ⟨iq, sm⟩ := aV_IQ q c8 ok
      have lc := hP.v (Or.inl rfl) c8
      have pn := hP.2.2.1 (cV N) c8
      change rR h 6 (cV N) = some (rG h 6 (cV N)) ∧ 2 + 32 ≤ rG h 6 (cV N) ∧ rG h 6 (cV N) < 2 + 32 + 8 at pn
      obtain ⟨a0, a1, a2, a3, a4, a5, a6⟩ := aV_f (N := N) (o := o) (n := n) (a := a) (t := t) (v := v) c8
      refine ⟨vp_in_nI (by omega) (by omega), lc, rfl, ?_⟩
      generalize hg : rG h 6 (cV N) = g at *
      have rw1 : RW (wI (wI (wI (wI (wI (wI (wI (wI h g 0 o) g 1 n) g 2 a) g 3 t) g 4 v) g 5 0) g 6 0) 2 7 (nI (cV N + 1))) 2 (aV N o n a t v) := by
        refine adV_r (h := h) hC c8 (aV_ad c8) hP hR rfl (fun b k h1 h2 => ?_) rI_s (fun k hk => ?_)
        · change b ≠ rG h 6 (cV N) at h1
          rw [hg] at h1
          have : ∀ z : zHp, rI (wI z 2 7 (nI (cV N + 1))) b k = rI z b k := fun z => by
            rcases h2 with y | y
            · exact rI_c y
            · exact rI_k y
          rw [this, rI_c h1, rI_c h1, rI_c h1, rI_c h1, rI_c h1, rI_c h1, rI_c h1]
        · change rI _ (rG h 6 (cV N)) k = _
          rw [hg, rI_c (by omega)]
          rcases (by omega : k = 0 ∨ k = 1 ∨ k = 2 ∨ k = 3 ∨ k = 4 ∨ k = 5 ∨ k = 6) with z | z | z | z | z | z | z <;> subst z
          · rw [rI_k (by decide), rI_k (by decide), rI_k (by decide), rI_k (by decide), rI_k (by decide), rI_k (by decide), rI_s]; exact a0.symm
          · rw [rI_k (by decide), rI_k (by decide), rI_k (by decide), rI_k (by decide), rI_k (by decide), rI_s]; exact a1.symm
          · rw [rI_k (by decide), rI_k (by decide), rI_k (by decide), rI_k (by decide), rI_s]; exact a2.symm
          · rw [rI_k (by decide), rI_k (by decide), rI_k (by decide), rI_s]; exact a3.symm
          · rw [rI_k (by decide), rI_k (by decide), rI_s]; exact a4.symm
          · rw [rI_k (by decide), rI_s]; exact a5.symm
          · rw [rI_s]; exact a6.symm
      have f1 : fW h (wI (wI (wI (wI (wI (wI (wI (wI h g 0 o) g 1 n) g 2 a) g 3 t) g 4 v) g 5 0) g 6 0) 2 7 (nI (cV N + 1))) := ⟨fun b ha => by rw [wI_ne (by omega), wI_ne (by omega), wI_ne (by omega), wI_ne (by omega), wI_ne (by omega), wI_ne (by omega), wI_ne (by omega), wI_ne (by omega)], fun _ _ _ _ => rfl⟩
      exact ⟨f1.z, IC_w hC I0 f1 (PW_of rfl hP) rw1 sm⟩
    · have c8 : ¬ cV N < 8 := fun y => z (nI_lt (b := 8) y (by omega))
      rw [if_neg c8]
      exact ⟨rfl, fZ.rf, I0⟩
  · have hC := q.1
    have v8 := hC.2.2.2.2
    have bad : ¬ okV o n a t v → (-2 = (o_watch N o n a t v).1 ∧ fV h h ∧ h.1 165 = (o_watch N o n a t v).2 ∧ ∃ m, rI h 164 10 = nI m) := fun z => by
      unfold o_watch
      rw [if_neg z]
      exact ⟨rfl, fV.rf, e, top⟩
    refine g_X11_watch G ⟨fun z => bad (fun y => z y.1), fun z1 => ⟨fun z => bad (fun y => z y.2.1), fun z2 => ⟨fun z => bad (fun y => z y.2.2.1), fun z3 => ⟨fun z => bad (fun y => z y.2.2.2.1), fun z4 => ⟨fun z5 => ?_, fun z => bad (fun y => z y.2.2.2.2)⟩⟩⟩⟩⟩
    have ok : okV o n a t v := ⟨z1, z2, z3, z4, z5⟩
    unfold o_watch
    rw [if_pos ok, rdN e 241, hC.2.2.2.1]
    refine ⟨fun z => ?_, fun z => ?_⟩
    · have c8 : cV N < 8 := by
        rcases Nat.lt_or_ge (cV N) 8 with x | x
        · exact x
        · exact absurd (by rw [show cV N = 8 by omega]; rfl) z
      rw [if_pos c8]
      have i0 := ixV0 (e := cV N) c8
      obtain ⟨-, i1, i2, i3, i4, i5, i6⟩ := ixV' (e := cV N) c8
      rw [i0.2, i1.2, i2.2, i3.2, i4.2, i5.2, i6.2, show wI h 165 (182 + 7 * cV N) o = wA h 165 (upd N (182 + 7 * cV N) o) by rw [wI_wA, e], wA_wI, wA_wI, wA_wI, wA_wI, wA_wI, wA_wI, rI_As, pk_un (by omega), pk_un (by omega), pk_un (by omega), pk_un (by omega), pk_un (by omega), pk_un (by omega), pk_un (by omega), hC.2.2.2.1, nI_1, nI_pred, wA_wI]
      exact ⟨i0.1, i1.1, i2.1, i3.1, i4.1, i5.1, i6.1, rfl, fV.a, wA_s, top_a top⟩
    · have c8 : ¬ cV N < 8 := fun x => by
        have := (nI_eq (a := cV N) (b := 8) (by omega) (by omega)).mp z
        omega
      rw [if_neg c8]
      exact ⟨rfl, fV.rf, e, top⟩
  · show IQ (o_watch N o n a t v).2
    unfold o_watch
    by_cases ok : okV o n a t v
    · rw [if_pos ok]
      by_cases c8 : cV N < 8
      · rw [if_pos c8]; exact (aV_IQ q c8 ok).1
      · rw [if_neg c8]; exact q
    · rw [if_neg ok]; exact q
noncomputable def o_watches (N : zN) (j w x : Int32) : Int32 × zN := @ite _ ((0 ≤ j ∧ j ≤ N 241 - 1) ∧ okSc w x) (Classical.propDecidable _) (N (182 + 7 * j.toNatClampNeg + 5), upd (upd N (182 + 7 * j.toNatClampNeg + 5) w) (182 + 7 * j.toNatClampNeg + 6) x) (-2, N)
theorem wat_IQ {N : zN} {j : Nat} {w x : Int32} (q : IQ N) (hj : j < cV N) : IQ (upd (upd N (182 + 7 * j + 5) w) (182 + 7 * j + 6) x) ∧ Sm N (upd (upd N (182 + 7 * j + 5) w) (182 + 7 * j + 6) x) := by
  have h8 := q.1.1.2
  have h10 := q.1.2.1.2
  have r8 := q.1.2.2.1.2
  have v8 := q.1.2.2.2.2
  have sm : Sm N (upd (upd N (182 + 7 * j + 5) w) (182 + 7 * j + 6) x) := Sm_hi q.1 (fun j hj => (pk_un (by omega)).trans (pk_un (by omega)))
  refine ⟨⟨CN_u (CN_u q.1 (by omega)) (by omega), ⟨fun t ht => ?_, fun t ht => ?_, fun t ht => ?_, fun t ht => ?_⟩, St_Sm q.1 sm q.2.2⟩, sm⟩
  · rw [cT_u (by omega), cT_u (by omega)] at ht; exact QT_eq (q.2.1.1 t ht) (fun k hk => (pk_un (by omega)).trans (pk_un (by omega)))
  · rw [cE_u (by omega), cE_u (by omega)] at ht; exact QE_eq (q.2.1.2.1 t ht) (fun k hk => (pk_un (by omega)).trans (pk_un (by omega)))
  · rw [cR_u (by omega), cR_u (by omega)] at ht; exact QR_eq (q.2.1.2.2.1 t ht) (fun k hk => (pk_un (by omega)).trans (pk_un (by omega)))
  · rw [cV_u (by omega), cV_u (by omega)] at ht
    unfold QV
    rw [pk_un (by omega), pk_un (by omega)]
    exact q.2.1.2.2.2 t ht
theorem sim_watches {j w x : Int32} : Sim M_X10_watches M_X11_watches [.int j, .int w, .int x] := by
  refine simW (ans := fun N => (o_watches N j w x).1) (F := fun N => (o_watches N j w x).2) (fun h N G q I => ?_) (fun h N G q e top => ?_) (fun N q => ?_)
  · have I0 := I
    obtain ⟨hP, hR, hL, ht⟩ := I
    have hC := q.1
    have v8 := hC.2.2.2.2
    have bad : ¬ ((0 ≤ j ∧ j ≤ N 241 - 1) ∧ okSc w x) → (-2 = (o_watches N j w x).1 ∧ fZ h h ∧ IC h (o_watches N j w x).2) := fun z => by
      unfold o_watches
      rw [if_neg z]
      exact ⟨rfl, fZ.rf, I0⟩
    refine g_X10_watches G ?_
    rw [hR.1.2.2.2.1]
    refine ⟨fun z => bad (fun y => z y.1), fun z => ⟨fun y => ?_, fun y => bad (fun x => y x.2)⟩⟩
    unfold o_watches
    rw [if_pos ⟨z, y⟩]
    rw [hC.2.2.2.1] at z
    obtain ⟨i, hi, rfl⟩ := zsm (by omega) z
    rw [nI_clamp (by omega)]
    have lc := hP.v (Or.inl rfl) (show i < 8 by omega)
    have pn := hP.2.2.1 i (by omega)
    change rR h 6 i = some (rG h 6 i) ∧ 2 + 32 ≤ rG h 6 i ∧ rG h 6 i < 2 + 32 + 8 at pn
    have w5 : rI h (rG h 6 i) 5 = N (182 + 7 * i + 5) := hR.2.2.2.2 i 5 hi (by omega)
    have r1 := RW_uV (k := 5) (v := w) hP hC hR hi (by omega)
    have r2 := RW_uV (t := i) (k := 6) (v := x) (PW_of (h := h) (h' := wI h (rG h (2 + 4) i) 5 w) rfl hP) (CN_u (i := 182 + 7 * i + 5) (v := w) hC (by omega)) r1 (by rw [cV_u (by omega)]; exact hi) (by omega)
    have f1 : fW h (wI (wI h (rG h 6 i) 5 w) (rG h 6 i) 6 x) := ⟨fun a ha => by rw [wI_ne (by omega), wI_ne (by omega)], fun _ _ _ _ => rfl⟩
    exact ⟨vp_in_nI (by omega) (by omega), lc, w5, f1.z, IC_w hC I0 f1 (PW_of rfl hP) r2 (wat_IQ q hi).2⟩
  · have hC := q.1
    have v8 := hC.2.2.2.2
    have bad : ¬ ((0 ≤ j ∧ j ≤ N 241 - 1) ∧ okSc w x) → (-2 = (o_watches N j w x).1 ∧ fV h h ∧ h.1 165 = (o_watches N j w x).2 ∧ ∃ n, rI h 164 10 = nI n) := fun z => by
      unfold o_watches
      rw [if_neg z]
      exact ⟨rfl, fV.rf, e, top⟩
    refine g_X11_watches G ?_
    rw [rdN e 241]
    refine ⟨fun z => bad (fun y => z y.1), fun z => ⟨fun y => ?_, fun y => bad (fun x => y x.2)⟩⟩
    unfold o_watches
    rw [if_pos ⟨z, y⟩]
    rw [hC.2.2.2.1] at z
    obtain ⟨i, hi, rfl⟩ := zsm (by omega) z
    obtain ⟨-, -, -, -, -, i5, i6⟩ := ixV' (e := i) (by omega)
    rw [nI_clamp (by omega), i5.2, i6.2, rdN e, show wI h 165 (182 + 7 * i + 5) w = wA h 165 (upd N (182 + 7 * i + 5) w) by rw [wI_wA, e], wA_wI]
    exact ⟨i5.1, i5.1, i6.1, rfl, fV.a, wA_s, top_a top⟩
  · show IQ (o_watches N j w x).2
    unfold o_watches
    by_cases z : (0 ≤ j ∧ j ≤ N 241 - 1) ∧ okSc w x
    · rw [if_pos z]
      have v8 := q.1.2.2.2.2
      obtain ⟨z, -⟩ := z
      rw [q.1.2.2.2.1] at z
      obtain ⟨i, hi, rfl⟩ := zsm (by omega) z
      rw [nI_clamp (by omega)]
      exact (wat_IQ q hi).1
    · rw [if_neg z]; exact q
noncomputable def o_unwatch (N : zN) (r : Int32) : Int32 × zN := @ite _ (0 ≤ r ∧ r ≤ N 241 - 1) (Classical.propDecidable _) (nI (cV N - 1), Go 182 7 241 r.toNatClampNeg N) (-2, N)
theorem GoV_IQ {N : zN} {j : Nat} (q : IQ N) (hj : j < cV N) : IQ (Go 182 7 241 j N) ∧ Sm N (Go 182 7 241 j N) := by
  have sm : Sm N (Go 182 7 241 j N) := Sm_hi q.1 (fun i hi => GoV_o q.1 (by omega))
  exact ⟨⟨(GoV_C q.1 hj).1, GoV_Q q.1 q.2.1 hj, St_Sm q.1 sm q.2.2⟩, sm⟩
theorem sim_unwatch {r : Int32} : Sim M_X10_unwatch M_X11_unwatch [.int r] := by
  refine simW (ans := fun N => (o_unwatch N r).1) (F := fun N => (o_unwatch N r).2) (fun h N G q I => ?_) (fun h N G q e top => ?_) (fun N q => ?_)
  · have I0 := I
    obtain ⟨hP, hR, hL, ht⟩ := I
    have hC := q.1
    have v8 := hC.2.2.2.2
    refine g_X10_unwatch G ?_
    rw [hR.1.2.2.2.1]
    refine ⟨fun z => ?_, fun z => ?_⟩
    · unfold o_unwatch
      rw [if_pos z]
      rw [hC.2.2.2.1] at z
      obtain ⟨j, hj, rfl⟩ := zsm (by omega) z
      rw [nI_clamp (by omega)]
      obtain ⟨w1, w2⟩ := drh_WV (Or.inl rfl) hC hP hR hj
      have f1 : fW h (drh h 2 7 (2 + 4) j (cV N)) := fW.d (Or.inr (Or.inr rfl))
      refine zcV_use (s_X8_dropWatcher G (Or.inl rfl) hC hP hR hj) ⟨f1.g G, drh_If, f1.z, IC_w hC I0 f1 w1 w2 (GoV_IQ q hj).2⟩
    · unfold o_unwatch
      rw [if_neg z]
      exact ⟨rfl, fZ.rf, I0⟩
  · have hC := q.1
    have v8 := hC.2.2.2.2
    refine g_X11_unwatch G ?_
    rw [rdN e 241]
    refine ⟨fun z => ?_, fun z => ?_⟩
    · unfold o_unwatch
      rw [if_pos z]
      rw [hC.2.2.2.1] at z
      obtain ⟨j, hj, rfl⟩ := zsm (by omega) z
      rw [nI_clamp (by omega)]
      have go := s_X11_goes (b := 182) (w := 7) (m := 241) (k := j) (n := cV N) G e hC.2.2.2.1 hj (by omega) (by decide) (by decide) (by omega) (by decide)
      refine zcV_use go ⟨zG_of rfl G, ?_, fV.a, wA_s, top_a top⟩
      rw [rI_As, (GoV_n hC hj).1]
    · unfold o_unwatch
      rw [if_neg z]
      exact ⟨rfl, fV.rf, e, top⟩
  · show IQ (o_unwatch N r).2
    unfold o_unwatch
    by_cases z : 0 ≤ r ∧ r ≤ N 241 - 1
    · rw [if_pos z]
      have v8 := q.1.2.2.2.2
      rw [q.1.2.2.2.1] at z
      obtain ⟨j, hj, rfl⟩ := zsm (by omega) z
      rw [nI_clamp (by omega)]
      exact (GoV_IQ q hj).1
    · rw [if_neg z]; exact q

