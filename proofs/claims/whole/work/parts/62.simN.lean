/-! calls: next -/
theorem g_X8_ageEffects {c0 : Nat} {h : zHp} {Q : zHp → Prop} (hc0 : zW c0) (G : zG h) (F : zlV M_X8_ageEffects 7 [some (.ref c0), some (.int ((rI h c0 3) - 1))] [] h Q) : zcV M_X8_ageEffects [.ref c0] h Q := by
  show zw zNT zNT M_X8_ageEffects 0 [some (.ref c0), none] [] h _
  refine z_aload_n (pc := 0) dX8_ageEffects_0 rfl rfl ?_
  refine q_getI (pc := 1) (v := rI h c0 3) dX8_ageEffects_1 lk_RX8_50 (lyW0 hc0) rfl ?_
  refine z_iconst (pc := 4) (v := 1) dX8_ageEffects_4 (by decide) ?_
  refine z_isub (pc := 5) dX8_ageEffects_5 ?_
  refine z_istore_n (pc := 6) (ls' := [some (.ref c0), some (.int ((rI h c0 3) - 1))]) dX8_ageEffects_6 rfl (by decide) rfl ?_
  exact F
theorem g_X8_ageEffects_7 {c0 : Nat} {x1 : Int32} {h : zHp} {Q : zHp → Prop} (hc0 : zW c0) (G : zG h) (F : (x1 < 0 → (Q h)) ∧ (¬ (x1 < 0) → (vp_in x1 10 ∧ (zRef h (c0 + 2) ((Int32.toNatClampNeg x1)) 2 ∧ ((rI h (rG h (c0 + 2) ((Int32.toNatClampNeg x1))) 6 ≤ 0 → (zlV M_X8_ageEffects 7 [some (.ref c0), some (.int (x1 + (-1)))] [] h Q)) ∧ (¬ (rI h (rG h (c0 + 2) ((Int32.toNatClampNeg x1))) 6 ≤ 0) → ((¬ (rI h (rG h (c0 + 2) ((Int32.toNatClampNeg x1))) 6) - 1 = 0 → (zlV M_X8_ageEffects 7 [some (.ref c0), some (.int (x1 + (-1)))] [] (wI h (rG h (c0 + 2) ((Int32.toNatClampNeg x1))) 6 ((rI h (rG h (c0 + 2) ((Int32.toNatClampNeg x1))) 6) - 1)) Q)) ∧ ((rI h (rG h (c0 + 2) ((Int32.toNatClampNeg x1))) 6) - 1 = 0 → (zcV M_X8_dropEffect [.ref c0, .int x1] (wI h (rG h (c0 + 2) ((Int32.toNatClampNeg x1))) 6 ((rI h (rG h (c0 + 2) ((Int32.toNatClampNeg x1))) 6) - 1)) (fun h1 => zG h1 ∧ (zlV M_X8_ageEffects 7 [some (.ref c0), some (.int (x1 + (-1)))] [] h1 Q))))))))))) : zlV M_X8_ageEffects 7 [some (.ref c0), some (.int x1)] [] h Q := by
  refine z_iload_n (pc := 7) dX8_ageEffects_7 rfl rfl ?_
  refine z_if_lt (pc := 8) (tgt := 61) dX8_ageEffects_8 (by decide) (fun k6 => ?_) (fun k6 => ?_)
  · replace F := F.1 k6
    exact q_retV (pc := 61) dX8_ageEffects_61 rfl F
  · replace F := F.2 k6
    refine z_aload_n (pc := 11) dX8_ageEffects_11 rfl rfl ?_
    refine q_getR (pc := 12) (i := c0 + 2) dX8_ageEffects_12 lk_RX8_19 (lyW0 hc0) (grW2 G hc0) ?_
    refine z_iload_n (pc := 15) dX8_ageEffects_15 rfl rfl ?_
    obtain ⟨k1, F⟩ := F
    obtain ⟨k2, F⟩ := F
    refine q_aald (pc := 16) (j := (Int32.toNatClampNeg x1)) (r := rG h (c0 + 2) ((Int32.toNatClampNeg x1))) (t := 1) dX8_ageEffects_16 (lyW2 hc0) (zvn (lnW2 hc0) k1) rfl k2.1 ?_
    refine q_getI (pc := 17) (v := rI h (rG h (c0 + 2) ((Int32.toNatClampNeg x1))) 6) dX8_ageEffects_17 lk_RX8_111 k2.2 rfl ?_
    refine z_if_le (pc := 20) (tgt := 55) dX8_ageEffects_20 (by decide) (fun k5 => ?_) (fun k5 => ?_)
    · replace F := F.1 k5
      refine z_iinc (pc := 55) (v := x1 + (-1)) (ls' := [some (.ref c0), some (.int (x1 + (-1)))]) dX8_ageEffects_55 (by decide) rfl rfl rfl ?_
      refine z_goto (pc := 58) (tgt := 7) dX8_ageEffects_58 (by decide) ?_
      exact F
    · replace F := F.2 k5
      refine z_aload_n (pc := 23) dX8_ageEffects_23 rfl rfl ?_
      refine q_getR (pc := 24) (i := c0 + 2) dX8_ageEffects_24 lk_RX8_19 (lyW0 hc0) (grW2 G hc0) ?_
      refine z_iload_n (pc := 27) dX8_ageEffects_27 rfl rfl ?_
      refine q_aald (pc := 28) (j := (Int32.toNatClampNeg x1)) (r := rG h (c0 + 2) ((Int32.toNatClampNeg x1))) (t := 1) dX8_ageEffects_28 (lyW2 hc0) (zvn (lnW2 hc0) k1) rfl k2.1 ?_
      refine z_dup (pc := 29) dX8_ageEffects_29 rfl ?_
      refine q_getI (pc := 30) (v := rI h (rG h (c0 + 2) ((Int32.toNatClampNeg x1))) 6) dX8_ageEffects_30 lk_RX8_111 k2.2 rfl ?_
      refine z_iconst (pc := 33) (v := 1) dX8_ageEffects_33 (by decide) ?_
      refine z_isub (pc := 34) dX8_ageEffects_34 ?_
      refine q_putI (pc := 35) dX8_ageEffects_35 lk_RX8_111 k2.2 ?_
      refine z_aload_n (pc := 38) dX8_ageEffects_38 rfl rfl ?_
      refine q_getR (pc := 39) (i := c0 + 2) dX8_ageEffects_39 lk_RX8_19 (lyW0 hc0) (grW2 G hc0) ?_
      refine z_iload_n (pc := 42) dX8_ageEffects_42 rfl rfl ?_
      refine q_aald (pc := 43) (j := (Int32.toNatClampNeg x1)) (r := rG h (c0 + 2) ((Int32.toNatClampNeg x1))) (t := 1) dX8_ageEffects_43 (lyW2 hc0) (zvn (lnW2 hc0) k1) rfl k2.1 ?_
      refine q_getI (pc := 44) (v := (rI h (rG h (c0 + 2) ((Int32.toNatClampNeg x1))) 6) - 1) dX8_ageEffects_44 lk_RX8_111 k2.2 rI_s ?_
      refine z_if_ne (pc := 47) (tgt := 55) dX8_ageEffects_47 (by decide) (fun k4 => ?_) (fun k4 => ?_)
      · replace F := F.1 k4
        refine z_iinc (pc := 55) (v := x1 + (-1)) (ls' := [some (.ref c0), some (.int (x1 + (-1)))]) dX8_ageEffects_55 (by decide) rfl rfl rfl ?_
        refine z_goto (pc := 58) (tgt := 7) dX8_ageEffects_58 (by decide) ?_
        exact F
      · replace F := F.2 k4
        refine z_aload_n (pc := 50) dX8_ageEffects_50 rfl rfl ?_
        refine z_iload_n (pc := 51) dX8_ageEffects_51 rfl rfl ?_
        refine q_invV (pc := 52) (As := [.int x1]) (st := []) dX8_ageEffects_52 ok_X8_dropEffect ml_RX8_114 iv_X8_dropEffect pa_X8_dropEffect ⟨Nat.le_of_ble_eq_true rfl, Nat.le_of_ble_eq_true rfl⟩ (lyW0 hc0) (q_kV F (fun h1 F => ?_))
        obtain ⟨G1, F⟩ := F
        refine z_iinc (pc := 55) (v := x1 + (-1)) (ls' := [some (.ref c0), some (.int (x1 + (-1)))]) dX8_ageEffects_55 (by decide) rfl rfl rfl ?_
        refine z_goto (pc := 58) (tgt := 7) dX8_ageEffects_58 (by decide) ?_
        exact F
theorem g_X10_next  {h : zHp} {Q : Int32 → zHp → Prop}  (G : zG h) (F : zcV M_X8_copyFrom [.ref 53, .ref 2] h (fun h1 => zG h1 ∧ (zcV M_X0_begin [.ref 1] h1 (fun h2 => zG h2 ∧ (zcV M_X8_ageEffects [.ref 2] (wI h2 2 9 (1 - (rI h2 2 9))) (fun h3 => zG h3 ∧ (zcV M_X0_setOffByTurn [.ref 1] h3 (fun h4 => zG h4 ∧ (zcI M_X0_finish [.ref 1] h4 (fun vh5 h5 => zG h5 ∧ (zcI M_X10_refuseLoop [.ref 0, .int vh5] h5 (fun vh6 h6 => zG h6 ∧ (Q vh6 h6))))))))))))) : zcI M_X10_next [.ref 0] h Q := by
  show zw zNT zNT M_X10_next 0 [some (.ref 0)] [] h _
  refine z_aload_n (pc := 0) dX10_next_0 rfl rfl ?_
  refine q_getR (pc := 1) (i := 53) dX10_next_1 lk_RX10_31 (lyc rfl) (G 0 3 53 rfl) ?_
  refine z_aload_n (pc := 4) dX10_next_4 rfl rfl ?_
  refine q_getR (pc := 5) (i := 2) dX10_next_5 lk_RX10_20 (lyc rfl) (G 0 1 2 rfl) ?_
  refine q_invV (pc := 8) (As := [.ref 2]) (st := []) dX10_next_8 ok_X8_copyFrom ml_RX10_253 iv_X8_copyFrom pa_X8_copyFrom ⟨Nat.le_of_ble_eq_true rfl, Nat.le_of_ble_eq_true rfl⟩ (lyc rfl) (q_kV F (fun h1 F => ?_))
  obtain ⟨G1, F⟩ := F
  refine z_aload_n (pc := 11) dX10_next_11 rfl rfl ?_
  refine q_getR (pc := 12) (i := 1) dX10_next_12 lk_RX10_10 (lyc rfl) (G1 0 0 1 rfl) ?_
  refine q_invV (pc := 15) (As := []) (st := []) dX10_next_15 ok_X0_begin ml_RX10_257 iv_X0_begin pa_X0_begin ⟨Nat.le_of_ble_eq_true rfl, Nat.le_of_ble_eq_true rfl⟩ (lyc rfl) (q_kV F (fun h2 F => ?_))
  obtain ⟨G2, F⟩ := F
  refine z_aload_n (pc := 18) dX10_next_18 rfl rfl ?_
  refine q_getR (pc := 19) (i := 2) dX10_next_19 lk_RX10_20 (lyc rfl) (G2 0 1 2 rfl) ?_
  refine z_iconst (pc := 22) (v := 1) dX10_next_22 (by decide) ?_
  refine z_aload_n (pc := 23) dX10_next_23 rfl rfl ?_
  refine q_getR (pc := 24) (i := 2) dX10_next_24 lk_RX10_20 (lyc rfl) (G2 0 1 2 rfl) ?_
  refine q_getI (pc := 27) (v := rI h2 2 9) dX10_next_27 lk_RX10_292 (lyc rfl) rfl ?_
  refine z_isub (pc := 30) dX10_next_30 ?_
  refine q_putI (pc := 31) dX10_next_31 lk_RX10_292 (lyc rfl) ?_
  refine z_aload_n (pc := 34) dX10_next_34 rfl rfl ?_
  refine q_getR (pc := 35) (i := 2) dX10_next_35 lk_RX10_20 (lyc rfl) (G2 0 1 2 rfl) ?_
  refine q_invV (pc := 38) (As := []) (st := []) dX10_next_38 ok_X8_ageEffects ml_RX10_295 iv_X8_ageEffects pa_X8_ageEffects ⟨Nat.le_of_ble_eq_true rfl, Nat.le_of_ble_eq_true rfl⟩ (lyc rfl) (q_kV F (fun h3 F => ?_))
  obtain ⟨G3, F⟩ := F
  refine z_aload_n (pc := 41) dX10_next_41 rfl rfl ?_
  refine q_getR (pc := 42) (i := 1) dX10_next_42 lk_RX10_10 (lyc rfl) (G3 0 0 1 rfl) ?_
  refine q_invV (pc := 45) (As := []) (st := []) dX10_next_45 ok_X0_setOffByTurn ml_RX10_298 iv_X0_setOffByTurn pa_X0_setOffByTurn ⟨Nat.le_of_ble_eq_true rfl, Nat.le_of_ble_eq_true rfl⟩ (lyc rfl) (q_kV F (fun h4 F => ?_))
  obtain ⟨G4, F⟩ := F
  refine z_aload_n (pc := 48) dX10_next_48 rfl rfl ?_
  refine z_aload_n (pc := 49) dX10_next_49 rfl rfl ?_
  refine q_getR (pc := 50) (i := 1) dX10_next_50 lk_RX10_10 (lyc rfl) (G4 0 0 1 rfl) ?_
  refine q_invV (pc := 53) (As := []) (st := [.ref 0]) dX10_next_53 ok_X0_finish ml_RX10_264 iv_X0_finish pa_X0_finish ⟨Nat.le_of_ble_eq_true rfl, Nat.le_of_ble_eq_true rfl⟩ (lyc rfl) (q_kI F (fun vh5 h5 F => ?_))
  obtain ⟨G5, F⟩ := F
  refine q_invV (pc := 56) (As := [.int vh5]) (st := []) dX10_next_56 ok_X10_refuseLoop ml_RX10_267 iv_X10_refuseLoop pa_X10_refuseLoop ⟨Nat.le_of_ble_eq_true rfl, Nat.le_of_ble_eq_true rfl⟩ (lyc rfl) (q_kI F (fun vh6 h6 F => ?_))
  obtain ⟨G6, F⟩ := F
  exact q_retI (pc := 59) dX10_next_59 rfl F
theorem g_X11_next  {h : zHp} {Q : Int32 → zHp → Prop}  (G : zG h) (F : zcV M_X11_begins [.ref 164] h (fun h1 => zG h1 ∧ (zlI M_X11_next 33 [some (.ref 164), some (.int ((rI h1 165 239) - 1)), none] [] (wI h1 165 244 (1 - (rI h1 165 244))) Q))) : zcI M_X11_next [.ref 164] h Q := by
  show zw zNT zNT M_X11_next 0 [some (.ref 164), none, none] [] h _
  refine z_aload_n (pc := 0) dX11_next_0 rfl rfl ?_
  refine q_invV (pc := 1) (As := []) (st := []) dX11_next_1 ok_X11_begins ml_RX11_236 iv_X11_begins pa_X11_begins ⟨Nat.le_of_ble_eq_true rfl, Nat.le_of_ble_eq_true rfl⟩ (lyc rfl) (q_kV F (fun h1 F => ?_))
  obtain ⟨G1, F⟩ := F
  refine z_aload_n (pc := 4) dX11_next_4 rfl rfl ?_
  refine q_getR (pc := 5) (i := 165) dX11_next_5 lk_RX11_7 (lyc rfl) (G1 164 0 165 rfl) ?_
  refine z_sipush (pc := 8) (v := 244) dX11_next_8 (by decide) ?_
  refine z_iconst (pc := 11) (v := 1) dX11_next_11 (by decide) ?_
  refine z_aload_n (pc := 12) dX11_next_12 rfl rfl ?_
  refine q_getR (pc := 13) (i := 165) dX11_next_13 lk_RX11_7 (lyc rfl) (G1 164 0 165 rfl) ?_
  refine z_sipush (pc := 16) (v := 244) dX11_next_16 (by decide) ?_
  refine q_iald (pc := 19) (j := 244) (v := rI h1 165 244) dX11_next_19 (lyc rfl) (zvl (lnc rfl) (by decide)) (by decide) rfl ?_
  refine z_isub (pc := 20) dX11_next_20 ?_
  refine q_iast (pc := 21) (j := 244) dX11_next_21 (lyc rfl) (zvl (lnc rfl) (by decide)) (by decide) ?_
  refine z_aload_n (pc := 22) dX11_next_22 rfl rfl ?_
  refine q_getR (pc := 23) (i := 165) dX11_next_23 lk_RX11_7 (lyc rfl) (G1 164 0 165 rfl) ?_
  refine z_sipush (pc := 26) (v := 239) dX11_next_26 (by decide) ?_
  refine q_iald (pc := 29) (j := 239) (v := rI h1 165 239) dX11_next_29 (lyc rfl) (zvl (lnc rfl) (by decide)) (by decide) (rI_k (by decide)) ?_
  refine z_iconst (pc := 30) (v := 1) dX11_next_30 (by decide) ?_
  refine z_isub (pc := 31) dX11_next_31 ?_
  refine z_istore_n (pc := 32) (ls' := [some (.ref 164), some (.int ((rI h1 165 239) - 1)), none]) dX11_next_32 rfl (by decide) rfl ?_
  exact F
theorem g_X11_next_33 {x1 : Int32} {h : zHp} {Q : Int32 → zHp → Prop}  (G : zG h) (F : (x1 < 0 → (zcV M_X11_setsOff [.ref 164, .int 2, .int 0] h (fun h1 => zG h1 ∧ (zcV M_X11_rounds [.ref 164] h1 (fun h2 => zG h2 ∧ (zcI M_X11_goesThrough [.ref 164] h2 (fun vh3 h3 => zG h3 ∧ (Q vh3 h3)))))))) ∧ (¬ (x1 < 0) → (vp_in ((80 + (7 * x1)) + 6) 246 ∧ ((¬ rI h 165 ((Int32.toNatClampNeg (((80 + (7 * x1)) + 6)))) = 0 → (zlI M_X11_next 70 [some (.ref 164), some (.int x1), some (.int (rI h 165 ((Int32.toNatClampNeg (((80 + (7 * x1)) + 6))))))] [.int ((rI h 165 ((Int32.toNatClampNeg (((80 + (7 * x1)) + 6))))) - 1), .int ((80 + (7 * x1)) + 6), .ref 165] h Q)) ∧ (rI h 165 ((Int32.toNatClampNeg (((80 + (7 * x1)) + 6)))) = 0 → (zlI M_X11_next 70 [some (.ref 164), some (.int x1), some (.int (rI h 165 ((Int32.toNatClampNeg (((80 + (7 * x1)) + 6))))))] [.int 0, .int ((80 + (7 * x1)) + 6), .ref 165] h Q)))))) : zlI M_X11_next 33 [some (.ref 164), some (.int x1), none] [] h Q := by
  refine z_iload_n (pc := 33) dX11_next_33 rfl rfl ?_
  refine z_if_lt (pc := 34) (tgt := 94) dX11_next_34 (by decide) (fun k6 => ?_) (fun k6 => ?_)
  · replace F := F.1 k6
    refine z_aload_n (pc := 94) dX11_next_94 rfl rfl ?_
    refine z_iconst (pc := 95) (v := 2) dX11_next_95 (by decide) ?_
    refine z_iconst (pc := 96) (v := 0) dX11_next_96 (by decide) ?_
    refine q_invV (pc := 97) (As := [.int 2, .int 0]) (st := []) dX11_next_97 ok_X11_setsOff ml_RX11_149 iv_X11_setsOff pa_X11_setsOff ⟨Nat.le_of_ble_eq_true rfl, Nat.le_of_ble_eq_true rfl⟩ (lyc rfl) (q_kV F (fun h1 F => ?_))
    obtain ⟨G1, F⟩ := F
    refine z_aload_n (pc := 100) dX11_next_100 rfl rfl ?_
    refine q_invV (pc := 101) (As := []) (st := []) dX11_next_101 ok_X11_rounds ml_RX11_153 iv_X11_rounds pa_X11_rounds ⟨Nat.le_of_ble_eq_true rfl, Nat.le_of_ble_eq_true rfl⟩ (lyc rfl) (q_kV F (fun h2 F => ?_))
    obtain ⟨G2, F⟩ := F
    refine z_aload_n (pc := 104) dX11_next_104 rfl rfl ?_
    refine q_invV (pc := 105) (As := []) (st := []) dX11_next_105 ok_X11_goesThrough ml_RX11_239 iv_X11_goesThrough pa_X11_goesThrough ⟨Nat.le_of_ble_eq_true rfl, Nat.le_of_ble_eq_true rfl⟩ (lyc rfl) (q_kI F (fun vh3 h3 F => ?_))
    obtain ⟨G3, F⟩ := F
    exact q_retI (pc := 108) dX11_next_108 rfl F
  · replace F := F.2 k6
    refine z_aload_n (pc := 37) dX11_next_37 rfl rfl ?_
    refine z_iload_n (pc := 38) dX11_next_38 rfl rfl ?_
    refine z_bipush (pc := 39) (v := 6) dX11_next_39 (by decide) ?_
    obtain ⟨k4, F⟩ := F
    refine q_invV (pc := 41) (As := [.int x1, .int 6]) (st := []) dX11_next_41 ok_X11_effectIs ml_RX11_103 iv_X11_effectIs pa_X11_effectIs ⟨Nat.le_of_ble_eq_true rfl, Nat.le_of_ble_eq_true rfl⟩ (lyc rfl) (q_pI (s_X11_effectIs G k4) rfl ?_)
    refine z_istore_n (pc := 44) (ls' := [some (.ref 164), some (.int x1), some (.int (rI h 165 ((Int32.toNatClampNeg (((80 + (7 * x1)) + 6))))))]) dX11_next_44 rfl (by decide) rfl ?_
    refine z_aload_n (pc := 45) dX11_next_45 rfl rfl ?_
    refine q_getR (pc := 46) (i := 165) dX11_next_46 lk_RX11_7 (lyc rfl) (G 164 0 165 rfl) ?_
    refine z_bipush (pc := 49) (v := 80) dX11_next_49 (by decide) ?_
    refine z_bipush (pc := 51) (v := 7) dX11_next_51 (by decide) ?_
    refine z_iload_n (pc := 53) dX11_next_53 rfl rfl ?_
    refine z_imul (pc := 54) dX11_next_54 ?_
    refine z_iadd (pc := 55) dX11_next_55 ?_
    refine z_bipush (pc := 56) (v := 6) dX11_next_56 (by decide) ?_
    refine z_iadd (pc := 58) dX11_next_58 ?_
    refine z_iload_n (pc := 59) dX11_next_59 rfl rfl ?_
    refine z_if_ne (pc := 60) (tgt := 67) dX11_next_60 (by decide) (fun k5 => ?_) (fun k5 => ?_)
    · replace F := F.1 k5
      refine z_iload_n (pc := 67) dX11_next_67 rfl rfl ?_
      refine z_iconst (pc := 68) (v := 1) dX11_next_68 (by decide) ?_
      refine z_isub (pc := 69) dX11_next_69 ?_
      exact F
    · replace F := F.2 k5
      refine z_iconst (pc := 63) (v := 0) dX11_next_63 (by decide) ?_
      refine z_goto (pc := 64) (tgt := 70) dX11_next_64 (by decide) ?_
      exact F
theorem g_X11_next_70 {x1 : Int32} {x2 : Int32} {xs1 : Int32} {xs2 : Int32} {h : zHp} {Q : Int32 → zHp → Prop}  (G : zG h) (F : vp_in xs1 246 ∧ ((¬ x2 = 1 → (zlI M_X11_next 33 [some (.ref 164), some (.int (x1 + (-1))), none] [] (wI h 165 ((Int32.toNatClampNeg xs1)) xs2) Q)) ∧ (x2 = 1 → (zcV M_X11_goes [.ref 164, .int 80, .int 7, .int 239, .int x1] (wI h 165 ((Int32.toNatClampNeg xs1)) xs2) (fun h1 => zG h1 ∧ (zlI M_X11_next 33 [some (.ref 164), some (.int (x1 + (-1))), none] [] h1 Q)))))) : zlI M_X11_next 70 [some (.ref 164), some (.int x1), some (.int x2)] [.int xs2, .int xs1, .ref 165] h Q := by
  obtain ⟨k1, F⟩ := F
  refine q_iast (pc := 70) (j := (Int32.toNatClampNeg xs1)) dX11_next_70 (lyc rfl) (zvn (lnc rfl) k1) rfl ?_
  refine z_iload_n (pc := 71) dX11_next_71 rfl rfl ?_
  refine z_iconst (pc := 72) (v := 1) dX11_next_72 (by decide) ?_
  refine z_icmp_ne (pc := 73) (tgt := 88) dX11_next_73 (by decide) (fun k3 => ?_) (fun k3 => ?_)
  · replace F := F.1 k3
    refine z_iinc (pc := 88) (v := x1 + (-1)) (ls' := [some (.ref 164), some (.int (x1 + (-1))), some (.int x2)]) dX11_next_88 (by decide) rfl rfl rfl ?_
    refine z_goto (pc := 91) (tgt := 33) dX11_next_91 (by decide) ?_
    exact q_sub (ls' := [some (.ref 164), some (.int (x1 + (-1))), none]) ⟨rfl, rfl, trivial⟩ F
  · replace F := F.2 k3
    refine z_aload_n (pc := 76) dX11_next_76 rfl rfl ?_
    refine z_bipush (pc := 77) (v := 80) dX11_next_77 (by decide) ?_
    refine z_bipush (pc := 79) (v := 7) dX11_next_79 (by decide) ?_
    refine z_sipush (pc := 81) (v := 239) dX11_next_81 (by decide) ?_
    refine z_iload_n (pc := 84) dX11_next_84 rfl rfl ?_
    refine q_invV (pc := 85) (As := [.int 80, .int 7, .int 239, .int x1]) (st := []) dX11_next_85 ok_X11_goes ml_RX11_186 iv_X11_goes pa_X11_goes ⟨Nat.le_of_ble_eq_true rfl, Nat.le_of_ble_eq_true rfl⟩ (lyc rfl) (q_kV F (fun h1 F => ?_))
    obtain ⟨G1, F⟩ := F
    refine z_iinc (pc := 88) (v := x1 + (-1)) (ls' := [some (.ref 164), some (.int (x1 + (-1))), some (.int x2)]) dX11_next_88 (by decide) rfl rfl rfl ?_
    refine z_goto (pc := 91) (tgt := 33) dX11_next_91 (by decide) ?_
    exact q_sub (ls' := [some (.ref 164), some (.int (x1 + (-1))), none]) ⟨rfl, rfl, trivial⟩ F
noncomputable def AgS (e : Nat) (N : zN) : zN := if N (80 + 7 * e + 6) = 0 then N else if N (80 + 7 * e + 6) = 1 then Go 80 7 239 e (upd N (80 + 7 * e + 6) (N (80 + 7 * e + 6) - 1)) else upd N (80 + 7 * e + 6) (N (80 + 7 * e + 6) - 1)
noncomputable def AgR : Nat → zN → zN
  | 0, N => N
  | r + 1, N => AgR r (AgS r N)
theorem age_CQ {N : zN} {e : Nat} (hC : CN N) (hQ : WQ N) (he : e < cE N) (h0 : ¬ N (80 + 7 * e + 6) = 0) : CN (upd N (80 + 7 * e + 6) (N (80 + 7 * e + 6) - 1)) ∧ WQ (upd N (80 + 7 * e + 6) (N (80 + 7 * e + 6) - 1)) ∧ cE (upd N (80 + 7 * e + 6) (N (80 + 7 * e + 6) - 1)) = cE N := by
  have h10 := hC.2.1.2
  have q := hQ.2.1 e he
  obtain ⟨a, b⟩ := updE_CQ (k := 6) (v := N (80 + 7 * e + 6) - 1) hC hQ he (by omega) (by
    unfold QE
    rw [pk_un (by omega), pk_un (by omega), pk_un (by omega), pk_un (by omega), pk_un (by omega), pk_us]
    refine ⟨q.1, q.2.1, q.2.2.1, q.2.2.2.1, q.2.2.2.2.1, ?_⟩
    have q6 := q.2.2.2.2.2
    have n0 : ¬ (N (80 + 7 * e + 6)).toInt = 0 := fun z => h0 (Int32.toInt_inj.mp z)
    unfold iv at q6 ⊢
    rw [ti_sub (show _ ≤ _ - (1 : Int) by omega) (show _ - (1 : Int) < _ by omega)]
    show 0 ≤ _ - (1 : Int) ∧ _ - (1 : Int) ≤ 9
    omega)
  exact ⟨a, b, cE_u (by omega)⟩
theorem AgS_all {N : zN} {e : Nat} (hC : CN N) (hQ : WQ N) (he : e < cE N) : CN (AgS e N) ∧ WQ (AgS e N) ∧ e ≤ cE (AgS e N) := by
  unfold AgS
  by_cases z : N (80 + 7 * e + 6) = 0
  · rw [if_pos z]; exact ⟨hC, hQ, by omega⟩
  · rw [if_neg z]
    obtain ⟨a, b, c⟩ := age_CQ hC hQ he z
    by_cases y : N (80 + 7 * e + 6) = 1
    · rw [if_pos y]
      have he' : e < cE (upd N (80 + 7 * e + 6) (N (80 + 7 * e + 6) - 1)) := by omega
      exact ⟨(GoE_C a he').1, GoE_Q a b he', by rw [(GoE_n a he').2]; omega⟩
    · rw [if_neg y]; exact ⟨a, b, by omega⟩
theorem AgR_all : ∀ (r : Nat) (N : zN), CN N → WQ N → r ≤ cE N → CN (AgR r N) ∧ WQ (AgR r N) := by
  intro r
  induction r with
  | zero => intro N a b _; exact ⟨a, b⟩
  | succ r ih =>
    intro N a b h
    obtain ⟨x, y, z⟩ := AgS_all a b (show r < cE N by omega)
    exact ih _ x y z
theorem s_X8_ageEffects {N : zN} {h : zHp} (G : zG h) (hC : CN N) (hQ : WQ N) (hP : PW h 2) (hR : RW h 2 N) : zcV M_X8_ageEffects [.ref 2] h (fun h' => fW h h' ∧ PW h' 2 ∧ RW h' 2 (AgR (cE N) N)) := by
  have hB : zW 2 := Or.inl rfl
  have loop : ∀ (r : Nat) (X : zN) (h' : zHp), CN X → WQ X → r ≤ cE X → fW h h' → PW h' 2 → RW h' 2 X → zlV M_X8_ageEffects 7 [some (.ref 2), some (.int (nI r + (-1)))] [] h' (fun h2 => fW h h2 ∧ PW h2 2 ∧ RW h2 2 (AgR r X)) := by
    intro r
    induction r with
    | zero =>
      intro X h' _ _ _ f p q
      exact g_X8_ageEffects_7 hB (f.g G) ⟨fun _ => ⟨f, p, q⟩, fun z => absurd (by decide) z⟩
    | succ r ih =>
      intro X h' cX qX hr f p q
      have h10 := cX.2.1.2
      have hr' : r < cE X := by omega
      have lc := p.e hB (show r < 10 by omega)
      have pn := p.1.1 r (by omega)
      change rR h' 4 r = some (rG h' 4 r) ∧ 2 + 14 ≤ rG h' 4 r ∧ rG h' 4 r < 2 + 14 + 10 at pn
      have w6 : rI h' (rG h' (2 + 2) r) 6 = X (80 + 7 * r + 6) := q.2.2.1 r 6 hr' (by omega)
      have q6 := (qX.2.1 r hr').2.2.2.2.2
      obtain ⟨x1, x2, x3⟩ := AgS_all cX qX hr'
      rw [AgR, pk_m1]
      refine g_X8_ageEffects_7 hB (f.g G) ⟨fun z => absurd z (nI_pos (by omega)), fun _ => ?_⟩
      rw [nI_clamp (by omega), w6]
      refine ⟨vp_in_nI (by omega) (by omega), lc, fun z => ?_, fun z => ?_⟩
      · have z0 : X (80 + 7 * r + 6) = 0 := Int32.toInt_inj.mp (by have := (iv_0 _).mp z; have := q6.1; show _ = (0 : Int); omega)
        have e : AgS r X = X := by unfold AgS; rw [if_pos z0]
        rw [e]
        exact ih X h' cX qX (by omega) f p q
      · have z0 : ¬ X (80 + 7 * r + 6) = 0 := fun y => z (by rw [y]; exact Int32.le_refl _)
        obtain ⟨a, b, c⟩ := age_CQ cX qX hr' z0
        have q' := RW_uE (k := 6) (v := X (80 + 7 * r + 6) - 1) p cX q hr' (by omega)
        have f' : fW h (wI h' (rG h' (2 + 2) r) 6 (X (80 + 7 * r + 6) - 1)) := f.tr (fW.w (by show 2 ≤ rG h' 4 r ∧ rG h' 4 r < 42; omega))
        have p' : PW (wI h' (rG h' (2 + 2) r) 6 (X (80 + 7 * r + 6) - 1)) 2 := PW_of (h := h') rfl p
        have i1 : X (80 + 7 * r + 6) - 1 = 0 ↔ X (80 + 7 * r + 6) = 1 := by
          constructor
          · intro y
            have : X (80 + 7 * r + 6) - 1 + 1 = 0 + 1 := by rw [y]
            rw [Int32.sub_add_cancel] at this
            exact this
          · intro y
            rw [y]
            rfl
        refine ⟨fun y => ?_, fun y => ?_⟩
        · have e : AgS r X = upd X (80 + 7 * r + 6) (X (80 + 7 * r + 6) - 1) := by unfold AgS; rw [if_neg z0, if_neg (fun x => y (i1.mpr x))]
          rw [e]
          exact ih _ _ a b (by omega) f' p' q'
        · have e : AgS r X = Go 80 7 239 r (upd X (80 + 7 * r + 6) (X (80 + 7 * r + 6) - 1)) := by unfold AgS; rw [if_neg z0, if_pos (i1.mp y)]
          have hk : r < cE (upd X (80 + 7 * r + 6) (X (80 + 7 * r + 6) - 1)) := by omega
          obtain ⟨w1, w2⟩ := drh_WE hB a p' q' hk
          have fd : fW (wI h' (rG h' (2 + 2) r) 6 (X (80 + 7 * r + 6) - 1)) (drh (wI h' (rG h' (2 + 2) r) 6 (X (80 + 7 * r + 6) - 1)) 2 3 (2 + 2) r (cE (upd X (80 + 7 * r + 6) (X (80 + 7 * r + 6) - 1)))) := fW.d (Or.inl rfl)
          refine zcV_use (s_X8_dropEffect (f'.g G) hB a p' q' hk) ⟨(f'.tr fd).g G, ?_⟩
          rw [e] at x1 x2 x3 ⊢
          exact ih _ _ x1 x2 x3 (f'.tr fd) w1 w2
  refine g_X8_ageEffects hB G ?_
  rw [hR.1.2.1, hC.2.1.1, Int32.sub_eq_add_neg]
  exact loop (cE N) N h hC hQ (Nat.le_refl _) fW.rf hP hR
/-- the turn is another's -/
def tN (N : zN) : zN := upd N 244 (1 - N 244)
noncomputable def nX2 (N : zN) : zN := AgR (cE N) (tN N)
theorem sim_next : Sim M_X10_next M_X11_next [] := by
  intro h I
  have I0 := I
  obtain ⟨G, iq, ic, io⟩ := I
  have hC := iq.1
  have h10 := hC.2.1.2
  obtain ⟨tq, -⟩ := upd_IQ (i := 244) (v := 1 - h.1 165 244) iq (by decide)
  have tE : cE (tN (h.1 165)) = cE (h.1 165) := cE_u (by decide)
  obtain ⟨n1, n2⟩ := AgR_all (cE (h.1 165)) (tN (h.1 165)) tq.1 tq.2.1 (by omega)
  change CN (nX2 (h.1 165)) at n1
  change WQ (nX2 (h.1 165)) at n2
  have sv : SV (cV (nX2 (h.1 165))) (cT (nX2 (h.1 165))) (SOn (nX2 (h.1 165)) s0) := SV_SOn SV_0
  have rm : (SOn (nX2 (h.1 165)) s0).2.2 ≤ 8 := by have := SOn_cnt (N := nX2 (h.1 165)) (s := s0) n1; change _ ≤ 0 + 8 at this; omega
  refine g_X10_next G ?_
  refine c_begin (N := h.1 165) (h2 := h) G iq ic io.1.1 (fun h2 e2 f2 r2 ic2 sc2 => ⟨zG_of e2 G, ?_⟩)
  rw [ic2.2.1.1.2.2.2.2.2.2.1]
  have rt : RW (wI h2 2 9 (1 - h.1 165 244)) 2 (tN (h.1 165)) := RW_ut ic2.1 hC ic2.2.1
  refine zcV_then (s_X8_ageEffects (zG_of e2 G) tq.1 tq.2.1 (PW_of (h := h2) rfl ic2.1) rt) (fun h3 hh => ⟨hh.1.g (zG_of e2 G), ?_⟩)
  obtain ⟨f3, p3, r3⟩ := hh
  change RW h3 2 (AgR (cE (tN (h.1 165))) (tN (h.1 165))) at r3
  rw [tE] at r3
  change RW h3 2 (nX2 (h.1 165)) at r3
  have G3 := f3.g (zG_of (h := h) (h' := wI h2 2 9 (1 - h.1 165 244)) e2 G)
  have c3 : SC h3 s0 := ⟨by
    show h3.1 1 5 = _
    rw [f3.1 1 (by omega), wI_ne (by decide)]
    exact sc2.1, fun i hi => absurd hi (Nat.not_lt_zero i)⟩
  refine zcV_then (s_X0_setOffByTurn G3 n1 p3 r3 c3 (by decide)) (fun h4 hh => ⟨zG_of hh.1.1 G3, ?_⟩)
  obtain ⟨f4, c4⟩ := hh
  have G4 := zG_of f4.1 G3
  have fa : ∀ a, (a = 0 ∨ 52 ≤ a) → h4.1 a = h2.1 a := fun a ha => by rw [(fX.s f4).1 a ha, f3.1 a (by omega), wI_ne (by omega)]
  have fb : ∀ a, a ≠ 4 → a ≠ 5 → a ≠ 6 → h4.2 a = h2.2 a := fun a z1 z2 z3 => by rw [f4.1, f3.2 a z1 z2 z3]; rfl
  have p53 : PW h4 53 := PW_of2 (h := h) (fun a _ _ => by rw [fb a (by omega) (by omega) (by omega), e2]) io.1.1
  have r53 : RW h4 53 (h.1 165) := RW_of2 (h := h2) (fun a _ _ => fb a (by omega) (by omega) (by omega)) (fun a z1 z2 => fa a (by omega)) (PW_of e2 io.1.1) hC r2
  refine zcI_then (c_tail G4 hC iq.2.1.n p53 r53 n1 n2 (PW_of f4.1 p3) (f4.rw p3 n1 r3) c4 sv rm) (fun v h5 hh => ⟨hh.1, zcI_then hh.2 (fun v' h6 hh => ⟨hh.1, ?_⟩)⟩)
  obtain ⟨G6, ev, ce⟩ := hh
  have ce' : cEnd h h6 (h.1 165) (TT (nX2 (h.1 165)) (SOn (nX2 (h.1 165)) s0)) := by
    obtain ⟨k1, k2, k3, k4, k5⟩ := ce
    refine ⟨fun a ha => by rw [k1 a ha, fa a (by omega), f2 a (by omega)], fun k hk => by rw [k2 k hk, fa 0 (by omega), f2 0 (by omega)], fun a z1 z2 z3 => by rw [k3 a z1 z2 z3, fb a z1 z2 z3, e2], fun z => ?_, k5⟩
    obtain ⟨a, b, c⟩ := k4 z
    exact ⟨by rw [a, fa 0 (by omega), f2 0 (by omega)], by rw [b, fa 155 (by omega), f2 155 (by omega)], c⟩
  have e165 : h6.1 165 = h.1 165 := ce'.1 165 (by omega)
  refine ⟨G6, g_X11_next G6 ?_⟩
  refine zcV_then (s_X11_begins G6) (fun h7 hb => ?_)
  obtain ⟨b1, b2, b3, b4, b5, b6, b7⟩ := beg_f hb
  have G7 := zG_of b1 G6
  have e7 : h7.1 165 = h.1 165 := by rw [b2 165 (by decide) (by decide), e165]
  refine ⟨G7, ?_⟩
  rw [rdN e7 239, rdN e7 244, wI_wA, e7]
  have fi := FI_0 n1 n2 sv rm
  have ba : ∀ k, rI (wA h7 165 (nX2 (h.1 165))) 164 k = rI h7 164 k := fun k => rI_An (by decide)
  have fin : zlI M_X11_next 33 [some (.ref 164), some (.int (nI 0 + (-1))), none] [] (wA h7 165 (nX2 (h.1 165))) (fun v1 h2 => zG h2 ∧ v' = v1 ∧ INV h2) := by
    refine g_X11_next_33 (zG_of rfl G7) ⟨fun _ => ?_, fun z => absurd (by decide) z⟩
    have so := s_X11_setsOn (set := 0) (s := s0) (h := wA h7 165 (nX2 (h.1 165))) (zG_of rfl G7) (by rw [wA_s]; exact n1) (by rw [ba, b4]; decide) (SM_of (h := h7) (wA_n (by decide)) (by rw [wA_n (by decide)]) b5) (by decide)
    rw [wA_s] at so
    refine zcV_then so (fun h8 hh => ⟨zG_of (hh.1.1.trans rfl) G7, ?_⟩)
    obtain ⟨f8, s8⟩ := hh
    have G8 : zG h8 := zG_of (f8.1.trans rfl) G7
    have e8 : h8.1 165 = nX2 (h.1 165) := by rw [f8.2.1 165 (by decide) (by decide), wA_s]
    have p8 : ¬ rI h8 164 8 = 0 := by
      show ¬ h8.1 164 8 = 0
      rw [f8.2.2 8 (by decide)]
      show ¬ rI (wA h7 165 _) 164 8 = 0
      rw [ba, b4]
      decide
    have nn := na_8 n1
    have ro := s_X11_rounds G8 n1 e8 s8 (fun _ => by omega)
    rw [eq_true p8] at ro
    refine zcV_then ro (fun h9 hh => ⟨zG_of hh.1.1 G8, ?_⟩)
    obtain ⟨f9, e9, s9, -⟩ := hh
    have f89 : fH (wA h7 165 (nX2 (h.1 165))) h9 := f8.h.tr f9.h
    have f79 : fH h7 h9 := fH.a.tr f89
    refine zcI_then (m_tail (h := h6) (N0 := h.1 165) (zG_of f9.1 G8) fi e9 s9 (by show ¬ h9.1 164 8 = 0; rw [f79.2.2 8 (by decide) (by omega)]; show ¬ rI h7 164 8 = 0; rw [b4]; decide) (by show h9.1 164 16 = 0; rw [f79.2.2 16 (by decide) (by omega)]; exact b6) (by rw [f79.2.1 167 (by decide) (by decide) (by decide) (by decide) (by decide) (by decide), ← e165]; exact b7) (f79.1.trans b1) (fun a ha => by rw [f79.2.1 a (by omega) (by omega) (by omega) (by omega) (by omega) (by omega), b2 a (by omega) (by omega)]) ⟨by rw [f79.2.2 3 (by decide) (by omega), b3 3 (by decide) (by decide) (by decide)], by rw [f79.2.2 19 (by decide) (by omega), b3 19 (by decide) (by decide) (by decide)], by rw [f79.2.2 21 (by decide) (by omega), b3 21 (by decide) (by decide) (by decide)]⟩) (fun r h8' hh => ⟨hh.1, hh.1, by rw [ev, hh.2.1], inv_tail I0 rfl hh.1 ce' hh.2.2 (fun _ => Fn_IQ 40 0 _ _ _ fi)⟩)
  have loop : ∀ (r : Nat) (X : zN), CN X → WQ X → r ≤ cE X → AgR r X = nX2 (h.1 165) → zlI M_X11_next 33 [some (.ref 164), some (.int (nI r + (-1))), none] [] (wA h7 165 X) (fun v1 h2 => zG h2 ∧ v' = v1 ∧ INV h2) := by
    intro r
    induction r with
    | zero =>
      intro X _ _ _ e
      change X = _ at e
      rw [e]
      exact fin
    | succ r ih =>
      intro X cX qX hr e
      have hr' : r < cE X := by omega
      have hx10 := cX.2.1.2
      obtain ⟨-, -, -, -, -, -, i6⟩ := ixE' (e := r) (by omega)
      obtain ⟨x1, x2, x3⟩ := AgS_all cX qX hr'
      rw [AgR] at e
      have nx := ih _ x1 x2 x3 e
      rw [pk_m1]
      have stp : ∀ y, y = (if X (80 + 7 * r + 6) = 0 then 0 else X (80 + 7 * r + 6) - 1) → zlI M_X11_next 70 [some (.ref 164), some (.int (nI r)), some (.int (X (80 + 7 * r + 6)))] [.int y, .int ((80 + (7 * nI r)) + 6), .ref 165] (wA h7 165 X) (fun v1 h2 => zG h2 ∧ v' = v1 ∧ INV h2) := by
        intro y hy
        refine g_X11_next_70 (zG_of rfl G7) ?_
        rw [i6.2, wA_wI]
        refine ⟨i6.1, fun z => ?_, fun z => ?_⟩
        · have e1 : upd X (80 + 7 * r + 6) y = AgS r X := by
            unfold AgS
            by_cases z0 : X (80 + 7 * r + 6) = 0
            · rw [if_pos z0] at hy ⊢
              exact upd_id (by rw [hy, z0])
            · rw [if_neg z0] at hy ⊢
              rw [if_neg z, hy]
          rw [e1]
          exact nx
        · have z0 : ¬ X (80 + 7 * r + 6) = 0 := by rw [z]; decide
          rw [if_neg z0] at hy
          obtain ⟨a, b, c⟩ := age_CQ cX qX hr' z0
          have e1 : AgS r X = Go 80 7 239 r (upd X (80 + 7 * r + 6) y) := by unfold AgS; rw [if_neg z0, if_pos z, hy]
          rw [← hy] at a c
          have go := s_X11_goes (b := 80) (w := 7) (m := 239) (k := r) (n := cE X) (N := upd X (80 + 7 * r + 6) y) (h := wA h7 165 (upd X (80 + 7 * r + 6) y)) (zG_of rfl G7) wA_s (by rw [a.2.1.1, c]) hr' (by omega) (by decide) (by decide) (by omega) (by decide)
          rw [wA_wA, ← e1] at go
          exact zcV_use go ⟨zG_of rfl G7, nx⟩
      refine g_X11_next_33 (zG_of rfl G7) ⟨fun z => absurd z (nI_pos (by omega)), fun _ => ?_⟩
      rw [i6.2, rI_As]
      refine ⟨i6.1, fun z => stp _ (by rw [if_neg z]), fun z => stp _ (by rw [if_pos z])⟩
  rw [show h.1 165 239 = nI (cE (h.1 165)) from hC.2.1.1, Int32.sub_eq_add_neg]
  exact loop (cE (h.1 165)) (tN (h.1 165)) tq.1 tq.2.1 (by omega) rfl

