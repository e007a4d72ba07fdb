/-! wounds that come: the reference -/
theorem g_X11_wounds {x1 : Int32} {x2 : Int32} {h : zHp} {Q : zHp → Prop}  (G : zG h) (F : vp_in ((0 + (10 * x1)) + 4) 246 ∧ ((0 ≤ (rI h 165 ((Int32.toNatClampNeg ((0 + (10 * x1)) + 4)))) + x2 → (((rI h 165 ((Int32.toNatClampNeg ((0 + (10 * x1)) + 4)))) + x2 ≤ 999 → (Q (wI h 165 ((Int32.toNatClampNeg ((0 + (10 * x1)) + 4))) ((rI h 165 ((Int32.toNatClampNeg ((0 + (10 * x1)) + 4)))) + x2)))) ∧ (¬ ((rI h 165 ((Int32.toNatClampNeg ((0 + (10 * x1)) + 4)))) + x2 ≤ 999) → (Q (wI h 165 ((Int32.toNatClampNeg ((0 + (10 * x1)) + 4))) 999))))) ∧ (¬ (0 ≤ (rI h 165 ((Int32.toNatClampNeg ((0 + (10 * x1)) + 4)))) + x2) → (Q (wI h 165 ((Int32.toNatClampNeg ((0 + (10 * x1)) + 4))) 0))))) : zcV M_X11_wounds [.ref 164, .int x1, .int x2] h Q := by
  show zw zNT zNT M_X11_wounds 0 [some (.ref 164), some (.int x1), some (.int x2), none] [] h _
  refine z_iconst (pc := 0) (v := 0) dX11_wounds_0 (by decide) ?_
  refine z_bipush (pc := 1) (v := 10) dX11_wounds_1 (by decide) ?_
  refine z_iload_n (pc := 3) dX11_wounds_3 rfl rfl ?_
  refine z_imul (pc := 4) dX11_wounds_4 ?_
  refine z_iadd (pc := 5) dX11_wounds_5 ?_
  refine z_iconst (pc := 6) (v := 4) dX11_wounds_6 (by decide) ?_
  refine z_iadd (pc := 7) dX11_wounds_7 ?_
  refine z_istore_n (pc := 8) (ls' := [some (.ref 164), some (.int x1), some (.int x2), some (.int ((0 + (10 * x1)) + 4))]) dX11_wounds_8 rfl (by decide) rfl ?_
  refine z_aload_n (pc := 9) dX11_wounds_9 rfl rfl ?_
  refine q_getR (pc := 10) (i := 165) dX11_wounds_10 lk_RX11_7 (lyc rfl) (G 164 0 165 rfl) ?_
  refine z_iload_n (pc := 13) dX11_wounds_13 rfl rfl ?_
  refine z_aload_n (pc := 14) dX11_wounds_14 rfl rfl ?_
  refine q_getR (pc := 15) (i := 165) dX11_wounds_15 lk_RX11_7 (lyc rfl) (G 164 0 165 rfl) ?_
  refine z_iload_n (pc := 18) dX11_wounds_18 rfl rfl ?_
  obtain ⟨k1, F⟩ := F
  refine q_iald (pc := 19) (j := (Int32.toNatClampNeg ((0 + (10 * x1)) + 4))) (v := rI h 165 ((Int32.toNatClampNeg ((0 + (10 * x1)) + 4)))) dX11_wounds_19 (lyc rfl) (zvn (lnc rfl) k1) rfl rfl ?_
  refine z_iload_n (pc := 20) dX11_wounds_20 rfl rfl ?_
  refine z_iadd (pc := 21) dX11_wounds_21 ?_
  refine z_if_ge (pc := 22) (tgt := 29) dX11_wounds_22 (by decide) (fun k3 => ?_) (fun k3 => ?_)
  · replace F := F.1 k3
    refine z_aload_n (pc := 29) dX11_wounds_29 rfl rfl ?_
    refine q_getR (pc := 30) (i := 165) dX11_wounds_30 lk_RX11_7 (lyc rfl) (G 164 0 165 rfl) ?_
    refine z_iload_n (pc := 33) dX11_wounds_33 rfl rfl ?_
    refine q_iald (pc := 34) (j := (Int32.toNatClampNeg ((0 + (10 * x1)) + 4))) (v := rI h 165 ((Int32.toNatClampNeg ((0 + (10 * x1)) + 4)))) dX11_wounds_34 (lyc rfl) (zvn (lnc rfl) k1) rfl rfl ?_
    refine z_iload_n (pc := 35) dX11_wounds_35 rfl rfl ?_
    refine z_iadd (pc := 36) dX11_wounds_36 ?_
    refine z_sipush (pc := 37) (v := 999) dX11_wounds_37 (by decide) ?_
    refine z_icmp_le (pc := 40) (tgt := 49) dX11_wounds_40 (by decide) (fun k2 => ?_) (fun k2 => ?_)
    · replace F := F.1 k2
      refine z_aload_n (pc := 49) dX11_wounds_49 rfl rfl ?_
      refine q_getR (pc := 50) (i := 165) dX11_wounds_50 lk_RX11_7 (lyc rfl) (G 164 0 165 rfl) ?_
      refine z_iload_n (pc := 53) dX11_wounds_53 rfl rfl ?_
      refine q_iald (pc := 54) (j := (Int32.toNatClampNeg ((0 + (10 * x1)) + 4))) (v := rI h 165 ((Int32.toNatClampNeg ((0 + (10 * x1)) + 4)))) dX11_wounds_54 (lyc rfl) (zvn (lnc rfl) k1) rfl rfl ?_
      refine z_iload_n (pc := 55) dX11_wounds_55 rfl rfl ?_
      refine z_iadd (pc := 56) dX11_wounds_56 ?_
      refine q_iast (pc := 57) (j := (Int32.toNatClampNeg ((0 + (10 * x1)) + 4))) dX11_wounds_57 (lyc rfl) (zvn (lnc rfl) k1) rfl ?_
      exact q_retV (pc := 58) dX11_wounds_58 rfl F
    · replace F := F.2 k2
      refine z_sipush (pc := 43) (v := 999) dX11_wounds_43 (by decide) ?_
      refine z_goto (pc := 46) (tgt := 57) dX11_wounds_46 (by decide) ?_
      refine q_iast (pc := 57) (j := (Int32.toNatClampNeg ((0 + (10 * x1)) + 4))) dX11_wounds_57 (lyc rfl) (zvn (lnc rfl) k1) rfl ?_
      exact q_retV (pc := 58) dX11_wounds_58 rfl F
  · replace F := F.2 k3
    refine z_iconst (pc := 25) (v := 0) dX11_wounds_25 (by decide) ?_
    refine z_goto (pc := 26) (tgt := 57) dX11_wounds_26 (by decide) ?_
    refine q_iast (pc := 57) (j := (Int32.toNatClampNeg ((0 + (10 * x1)) + 4))) dX11_wounds_57 (lyc rfl) (zvn (lnc rfl) k1) rfl ?_
    exact q_retV (pc := 58) dX11_wounds_58 rfl F
theorem g_X11_hurts {x1 : Int32} {x2 : Int32} {h : zHp} {Q : zHp → Prop}  (G : zG h) (F : zcV M_X11_leads [.ref 164, .int x1, .int x2, .int 1] h (fun h1 => zG h1 ∧ ((rI h1 164 15 = 0 → ((rI h1 164 12 ≤ 0 → (zlV M_X11_hurts 60 [some (.ref 164), some (.int x1), some (.int x2), some (.int ((rI h1 165 240) - 1))] [] h1 Q)) ∧ (¬ (rI h1 164 12 ≤ 0) → (zcV M_X11_wounds [.ref 164, .int (rI h1 164 11), .int (rI h1 164 12)] h1 (fun h2 => zG h2 ∧ (zlV M_X11_hurts 60 [some (.ref 164), some (.int x1), some (.int x2), some (.int ((rI h2 165 240) - 1))] [] h2 Q)))))) ∧ (¬ (rI h1 164 15 = 0) → (zcV M_X11_wounds [.ref 164, .int (rI h1 164 11), .int (-(rI h1 164 12))] h1 (fun h3 => zG h3 ∧ (zlV M_X11_hurts 60 [some (.ref 164), some (.int x1), some (.int x2), some (.int ((rI h3 165 240) - 1))] [] h3 Q))))))) : zcV M_X11_hurts [.ref 164, .int x1, .int x2] h Q := by
  show zw zNT zNT M_X11_hurts 0 [some (.ref 164), some (.int x1), some (.int x2), none] [] h _
  refine z_aload_n (pc := 0) dX11_hurts_0 rfl rfl ?_
  refine z_iload_n (pc := 1) dX11_hurts_1 rfl rfl ?_
  refine z_iload_n (pc := 2) dX11_hurts_2 rfl rfl ?_
  refine z_iconst (pc := 3) (v := 1) dX11_hurts_3 (by decide) ?_
  refine q_invV (pc := 4) (As := [.int x1, .int x2, .int 1]) (st := []) dX11_hurts_4 ok_X11_leads ml_RX11_217 iv_X11_leads pa_X11_leads ⟨Nat.le_of_ble_eq_true rfl, Nat.le_of_ble_eq_true rfl⟩ (lyc rfl) (q_kV F (fun h1 F => ?_))
  obtain ⟨G1, F⟩ := F
  refine z_aload_n (pc := 7) dX11_hurts_7 rfl rfl ?_
  refine q_getI (pc := 8) (v := rI h1 164 15) dX11_hurts_8 lk_RX11_210 (lyc rfl) rfl ?_
  refine z_if_eq (pc := 11) (tgt := 30) dX11_hurts_11 (by decide) (fun k5 => ?_) (fun k5 => ?_)
  · replace F := F.1 k5
    refine z_aload_n (pc := 30) dX11_hurts_30 rfl rfl ?_
    refine q_getI (pc := 31) (v := rI h1 164 12) dX11_hurts_31 lk_RX11_204 (lyc rfl) rfl ?_
    refine z_if_le (pc := 34) (tgt := 49) dX11_hurts_34 (by decide) (fun k3 => ?_) (fun k3 => ?_)
    · replace F := F.1 k3
      refine z_aload_n (pc := 49) dX11_hurts_49 rfl rfl ?_
      refine q_getR (pc := 50) (i := 165) dX11_hurts_50 lk_RX11_7 (lyc rfl) (G1 164 0 165 rfl) ?_
      refine z_sipush (pc := 53) (v := 240) dX11_hurts_53 (by decide) ?_
      refine q_iald (pc := 56) (j := 240) (v := rI h1 165 240) dX11_hurts_56 (lyc rfl) (zvl (lnc rfl) (by decide)) (by decide) rfl ?_
      refine z_iconst (pc := 57) (v := 1) dX11_hurts_57 (by decide) ?_
      refine z_isub (pc := 58) dX11_hurts_58 ?_
      refine z_istore_n (pc := 59) (ls' := [some (.ref 164), some (.int x1), some (.int x2), some (.int ((rI h1 165 240) - 1))]) dX11_hurts_59 rfl (by decide) rfl ?_
      exact F
    · replace F := F.2 k3
      refine z_aload_n (pc := 37) dX11_hurts_37 rfl rfl ?_
      refine z_aload_n (pc := 38) dX11_hurts_38 rfl rfl ?_
      refine q_getI (pc := 39) (v := rI h1 164 11) dX11_hurts_39 lk_RX11_201 (lyc rfl) rfl ?_
      refine z_aload_n (pc := 42) dX11_hurts_42 rfl rfl ?_
      refine q_getI (pc := 43) (v := rI h1 164 12) dX11_hurts_43 lk_RX11_204 (lyc rfl) rfl ?_
      refine q_invV (pc := 46) (As := [.int (rI h1 164 11), .int (rI h1 164 12)]) (st := []) dX11_hurts_46 ok_X11_wounds ml_RX11_221 iv_X11_wounds pa_X11_wounds ⟨Nat.le_of_ble_eq_true rfl, Nat.le_of_ble_eq_true rfl⟩ (lyc rfl) (q_kV F (fun h2 F => ?_))
      obtain ⟨G2, F⟩ := F
      refine z_aload_n (pc := 49) dX11_hurts_49 rfl rfl ?_
      refine q_getR (pc := 50) (i := 165) dX11_hurts_50 lk_RX11_7 (lyc rfl) (G2 164 0 165 rfl) ?_
      refine z_sipush (pc := 53) (v := 240) dX11_hurts_53 (by decide) ?_
      refine q_iald (pc := 56) (j := 240) (v := rI h2 165 240) dX11_hurts_56 (lyc rfl) (zvl (lnc rfl) (by decide)) (by decide) rfl ?_
      refine z_iconst (pc := 57) (v := 1) dX11_hurts_57 (by decide) ?_
      refine z_isub (pc := 58) dX11_hurts_58 ?_
      refine z_istore_n (pc := 59) (ls' := [some (.ref 164), some (.int x1), some (.int x2), some (.int ((rI h2 165 240) - 1))]) dX11_hurts_59 rfl (by decide) rfl ?_
      exact F
  · replace F := F.2 k5
    refine z_aload_n (pc := 14) dX11_hurts_14 rfl rfl ?_
    refine z_aload_n (pc := 15) dX11_hurts_15 rfl rfl ?_
    refine q_getI (pc := 16) (v := rI h1 164 11) dX11_hurts_16 lk_RX11_201 (lyc rfl) rfl ?_
    refine z_aload_n (pc := 19) dX11_hurts_19 rfl rfl ?_
    refine q_getI (pc := 20) (v := rI h1 164 12) dX11_hurts_20 lk_RX11_204 (lyc rfl) rfl ?_
    refine z_ineg (pc := 23) dX11_hurts_23 ?_
    refine q_invV (pc := 24) (As := [.int (rI h1 164 11), .int (-(rI h1 164 12))]) (st := []) dX11_hurts_24 ok_X11_wounds ml_RX11_221 iv_X11_wounds pa_X11_wounds ⟨Nat.le_of_ble_eq_true rfl, Nat.le_of_ble_eq_true rfl⟩ (lyc rfl) (q_kV F (fun h3 F => ?_))
    obtain ⟨G3, F⟩ := F
    refine z_goto (pc := 27) (tgt := 49) dX11_hurts_27 (by decide) ?_
    refine z_aload_n (pc := 49) dX11_hurts_49 rfl rfl ?_
    refine q_getR (pc := 50) (i := 165) dX11_hurts_50 lk_RX11_7 (lyc rfl) (G3 164 0 165 rfl) ?_
    refine z_sipush (pc := 53) (v := 240) dX11_hurts_53 (by decide) ?_
    refine q_iald (pc := 56) (j := 240) (v := rI h3 165 240) dX11_hurts_56 (lyc rfl) (zvl (lnc rfl) (by decide)) (by decide) rfl ?_
    refine z_iconst (pc := 57) (v := 1) dX11_hurts_57 (by decide) ?_
    refine z_isub (pc := 58) dX11_hurts_58 ?_
    refine z_istore_n (pc := 59) (ls' := [some (.ref 164), some (.int x1), some (.int x2), some (.int ((rI h3 165 240) - 1))]) dX11_hurts_59 rfl (by decide) rfl ?_
    exact F
theorem g_X11_hurts_60 {x1 : Int32} {x2 : Int32} {x3 : Int32} {h : zHp} {Q : zHp → Prop}  (G : zG h) (F : (x3 < 0 → ((rI h 164 12 ≤ 0 → (zcV M_X11_rounds [.ref 164] h (fun h1 => zG h1 ∧ (Q h1)))) ∧ (¬ (rI h 164 12 ≤ 0) → ((¬ rI h 164 15 = 0 → (zcV M_X11_rounds [.ref 164] h (fun h2 => zG h2 ∧ (Q h2)))) ∧ (rI h 164 15 = 0 → (zcV M_X11_setsOff [.ref 164, .int 0, .int (1 <<< ((rI h 164 11) &&& 31))] h (fun h3 => zG h3 ∧ (zcV M_X11_rounds [.ref 164] h3 (fun h4 => zG h4 ∧ (Q h4)))))))))) ∧ (¬ (x3 < 0) → (vp_in ((150 + (4 * x3)) + 0) 246 ∧ ((¬ rI h 165 ((Int32.toNatClampNeg (((150 + (4 * x3)) + 0)))) = 0 → (zlV M_X11_hurts 60 [some (.ref 164), some (.int x1), some (.int x2), some (.int (x3 + (-1)))] [] h Q)) ∧ (rI h 165 ((Int32.toNatClampNeg (((150 + (4 * x3)) + 0)))) = 0 → (vp_in ((150 + (4 * x3)) + 3) 246 ∧ ((¬ rI h 165 ((Int32.toNatClampNeg (((150 + (4 * x3)) + 3)))) = 0 → (zlV M_X11_hurts 60 [some (.ref 164), some (.int x1), some (.int x2), some (.int (x3 + (-1)))] [] h Q)) ∧ (rI h 165 ((Int32.toNatClampNeg (((150 + (4 * x3)) + 3)))) = 0 → (zcV M_X11_goes [.ref 164, .int 150, .int 4, .int 240, .int x3] h (fun h5 => zG h5 ∧ (zlV M_X11_hurts 60 [some (.ref 164), some (.int x1), some (.int x2), some (.int (x3 + (-1)))] [] h5 Q))))))))))) : zlV M_X11_hurts 60 [some (.ref 164), some (.int x1), some (.int x2), some (.int x3)] [] h Q := by
  refine z_iload_n (pc := 60) dX11_hurts_60 rfl rfl ?_
  refine z_if_lt (pc := 61) (tgt := 100) dX11_hurts_61 (by decide) (fun k12 => ?_) (fun k12 => ?_)
  · replace F := F.1 k12
    refine z_aload_n (pc := 100) dX11_hurts_100 rfl rfl ?_
    refine q_getI (pc := 101) (v := rI h 164 12) dX11_hurts_101 lk_RX11_204 (lyc rfl) rfl ?_
    refine z_if_le (pc := 104) (tgt := 125) dX11_hurts_104 (by decide) (fun k6 => ?_) (fun k6 => ?_)
    · replace F := F.1 k6
      refine z_aload_n (pc := 125) dX11_hurts_125 rfl rfl ?_
      refine q_invV (pc := 126) (As := []) (st := []) dX11_hurts_126 ok_X11_rounds ml_RX11_153 iv_X11_rounds pa_X11_rounds ⟨Nat.le_of_ble_eq_true rfl, Nat.le_of_ble_eq_true rfl⟩ (lyc rfl) (q_kV F (fun h1 F => ?_))
      obtain ⟨G1, F⟩ := F
      exact q_retV (pc := 129) dX11_hurts_129 rfl F
    · replace F := F.2 k6
      refine z_aload_n (pc := 107) dX11_hurts_107 rfl rfl ?_
      refine q_getI (pc := 108) (v := rI h 164 15) dX11_hurts_108 lk_RX11_210 (lyc rfl) rfl ?_
      refine z_if_ne (pc := 111) (tgt := 125) dX11_hurts_111 (by decide) (fun k5 => ?_) (fun k5 => ?_)
      · replace F := F.1 k5
        refine z_aload_n (pc := 125) dX11_hurts_125 rfl rfl ?_
        refine q_invV (pc := 126) (As := []) (st := []) dX11_hurts_126 ok_X11_rounds ml_RX11_153 iv_X11_rounds pa_X11_rounds ⟨Nat.le_of_ble_eq_true rfl, Nat.le_of_ble_eq_true rfl⟩ (lyc rfl) (q_kV F (fun h2 F => ?_))
        obtain ⟨G2, F⟩ := F
        exact q_retV (pc := 129) dX11_hurts_129 rfl F
      · replace F := F.2 k5
        refine z_aload_n (pc := 114) dX11_hurts_114 rfl rfl ?_
        refine z_iconst (pc := 115) (v := 0) dX11_hurts_115 (by decide) ?_
        refine z_iconst (pc := 116) (v := 1) dX11_hurts_116 (by decide) ?_
        refine z_aload_n (pc := 117) dX11_hurts_117 rfl rfl ?_
        refine q_getI (pc := 118) (v := rI h 164 11) dX11_hurts_118 lk_RX11_201 (lyc rfl) rfl ?_
        refine z_ishl (pc := 121) dX11_hurts_121 ?_
        refine q_invV (pc := 122) (As := [.int 0, .int (1 <<< ((rI h 164 11) &&& 31))]) (st := []) dX11_hurts_122 ok_X11_setsOff ml_RX11_149 iv_X11_setsOff pa_X11_setsOff ⟨Nat.le_of_ble_eq_true rfl, Nat.le_of_ble_eq_true rfl⟩ (lyc rfl) (q_kV F (fun h3 F => ?_))
        obtain ⟨G3, F⟩ := F
        refine z_aload_n (pc := 125) dX11_hurts_125 rfl rfl ?_
        refine q_invV (pc := 126) (As := []) (st := []) dX11_hurts_126 ok_X11_rounds ml_RX11_153 iv_X11_rounds pa_X11_rounds ⟨Nat.le_of_ble_eq_true rfl, Nat.le_of_ble_eq_true rfl⟩ (lyc rfl) (q_kV F (fun h4 F => ?_))
        obtain ⟨G4, F⟩ := F
        exact q_retV (pc := 129) dX11_hurts_129 rfl F
  · replace F := F.2 k12
    refine z_aload_n (pc := 64) dX11_hurts_64 rfl rfl ?_
    refine z_iload_n (pc := 65) dX11_hurts_65 rfl rfl ?_
    refine z_iconst (pc := 66) (v := 0) dX11_hurts_66 (by decide) ?_
    obtain ⟨k7, F⟩ := F
    refine q_invV (pc := 67) (As := [.int x3, .int 0]) (st := []) dX11_hurts_67 ok_X11_ruleIs ml_RX11_192 iv_X11_ruleIs pa_X11_ruleIs ⟨Nat.le_of_ble_eq_true rfl, Nat.le_of_ble_eq_true rfl⟩ (lyc rfl) (q_pI (s_X11_ruleIs G k7) rfl ?_)
    refine z_if_ne (pc := 70) (tgt := 94) dX11_hurts_70 (by decide) (fun k11 => ?_) (fun k11 => ?_)
    · replace F := F.1 k11
      refine z_iinc (pc := 94) (v := x3 + (-1)) (ls' := [some (.ref 164), some (.int x1), some (.int x2), some (.int (x3 + (-1)))]) dX11_hurts_94 (by decide) rfl rfl rfl ?_
      refine z_goto (pc := 97) (tgt := 60) dX11_hurts_97 (by decide) ?_
      exact F
    · replace F := F.2 k11
      refine z_aload_n (pc := 73) dX11_hurts_73 rfl rfl ?_
      refine z_iload_n (pc := 74) dX11_hurts_74 rfl rfl ?_
      refine z_iconst (pc := 75) (v := 3) dX11_hurts_75 (by decide) ?_
      obtain ⟨k8, F⟩ := F
      refine q_invV (pc := 76) (As := [.int x3, .int 3]) (st := []) dX11_hurts_76 ok_X11_ruleIs ml_RX11_192 iv_X11_ruleIs pa_X11_ruleIs ⟨Nat.le_of_ble_eq_true rfl, Nat.le_of_ble_eq_true rfl⟩ (lyc rfl) (q_pI (s_X11_ruleIs G k8) rfl ?_)
      refine z_if_ne (pc := 79) (tgt := 94) dX11_hurts_79 (by decide) (fun k10 => ?_) (fun k10 => ?_)
      · replace F := F.1 k10
        refine z_iinc (pc := 94) (v := x3 + (-1)) (ls' := [some (.ref 164), some (.int x1), some (.int x2), some (.int (x3 + (-1)))]) dX11_hurts_94 (by decide) rfl rfl rfl ?_
        refine z_goto (pc := 97) (tgt := 60) dX11_hurts_97 (by decide) ?_
        exact F
      · replace F := F.2 k10
        refine z_aload_n (pc := 82) dX11_hurts_82 rfl rfl ?_
        refine z_sipush (pc := 83) (v := 150) dX11_hurts_83 (by decide) ?_
        refine z_iconst (pc := 86) (v := 4) dX11_hurts_86 (by decide) ?_
        refine z_sipush (pc := 87) (v := 240) dX11_hurts_87 (by decide) ?_
        refine z_iload_n (pc := 90) dX11_hurts_90 rfl rfl ?_
        refine q_invV (pc := 91) (As := [.int 150, .int 4, .int 240, .int x3]) (st := []) dX11_hurts_91 ok_X11_goes ml_RX11_186 iv_X11_goes pa_X11_goes ⟨Nat.le_of_ble_eq_true rfl, Nat.le_of_ble_eq_true rfl⟩ (lyc rfl) (q_kV F (fun h5 F => ?_))
        obtain ⟨G5, F⟩ := F
        refine z_iinc (pc := 94) (v := x3 + (-1)) (ls' := [some (.ref 164), some (.int x1), some (.int x2), some (.int (x3 + (-1)))]) dX11_hurts_94 (by decide) rfl rfl rfl ?_
        refine z_goto (pc := 97) (tgt := 60) dX11_hurts_97 (by decide) ?_
        exact F
theorem s_X11_wounds {N : zN} {t : Nat} {y : Int32} {h : zHp} (G : zG h) (hN : h.1 165 = N) (ht : t < 8) : zcV M_X11_wounds [.ref 164, .int (nI t), .int y] h (fun h' => h' = wA h 165 (wN N t y)) := by
  have i4 := ixT (t := t) (k := 4) ht (by omega)
  rw [show nI 4 = (4 : Int32) from rfl] at i4
  refine g_X11_wounds G ?_
  rw [i4.2, show rI h 165 (10 * t + 4) = N (10 * t + 4) by show h.1 165 _ = _; rw [hN], wI_wA, wI_wA, wI_wA, hN]
  unfold wN wv
  refine ⟨i4.1, fun q => ⟨fun q1 => ?_, fun q1 => ?_⟩, fun q => ?_⟩
  · rw [if_pos q, if_pos q1]
  · rw [if_pos q, if_neg q1]
  · rw [if_neg q]
/-- what a hurt may change of the reference -/
def fH (h h' : zHp) : Prop := h'.2 = h.2 ∧ (∀ a, a ≠ 164 → a ≠ 165 → a ≠ 168 → a ≠ 169 → a ≠ 170 → a ≠ 171 → h'.1 a = h.1 a) ∧ ∀ k, k ≠ 7 → (k < 10 ∨ 15 < k) → h'.1 164 k = h.1 164 k
theorem fH.rf {h : zHp} : fH h h := ⟨rfl, fun _ _ _ _ _ _ _ => rfl, fun _ _ _ => rfl⟩
theorem fH.tr {h h' h2 : zHp} (a : fH h h') (b : fH h' h2) : fH h h2 := ⟨b.1.trans a.1, fun z z1 z2 z3 z4 z5 z6 => (b.2.1 z z1 z2 z3 z4 z5 z6).trans (a.2.1 z z1 z2 z3 z4 z5 z6), fun z h1 h2 => (b.2.2 z h1 h2).trans (a.2.2 z h1 h2)⟩
theorem fL.h {h h' : zHp} (f : fL h h') : fH h h' := ⟨f.1, fun a z1 z2 z3 z4 z5 _ => f.2.1 a z1 z2 z3 z4 z5, fun k z1 z2 => f.2.2 k z1 (by omega)⟩
theorem fR.h {h h' : zHp} (f : fR h h') : fH h h' := ⟨f.1, f.2.1, fun k z1 z2 => f.2.2 k z1 (by omega)⟩
theorem fM.h {h h' : zHp} (f : fM h h') : fH h h' := f.r.h
theorem fH.a {h : zHp} {X : zN} : fH h (wA h 165 X) := ⟨rfl, fun a _ z _ _ _ _ => wA_n z, fun k _ _ => by rw [wA_n (by decide)]⟩
theorem fH.k {h : zHp} {X D : zN} {c : Nat} {h' : zHp} (m : MkS h h' X D c) : fH h h' := m.r.h
theorem na_eq {N N' : zN} (hT : cT N' = cT N) (h : ∀ t, t < cT N → N' (10 * t + 5) = N (10 * t + 5)) : na N' = na N := by
  unfold na
  rw [hT]
  exact nb_congr (fun t ht => by unfold Al; rw [h t ht])
theorem Hs_cnt {N : zN} {t : Nat} {n : Int32} {s : Stk} (hC : CN N) (k : Ks N (Hs N t n s).1) : cT (Hs N t n s).1 = cT N ∧ cV (Hs N t n s).1 = cV N ∧ na (Hs N t n s).1 = na N := by
  have h8 := hC.1.2
  have a : cT (Hs N t n s).1 = cT N := by unfold cT; rw [k.2 238 (by decide) (by decide) (by decide)]
  refine ⟨a, by unfold cV; rw [k.2 241 (by decide) (by decide) (by decide)], na_eq a (fun u hu => k.1 _ (by omega) (by omega) (fun v => by omega))⟩
theorem Hs_room {N : zN} {t : Nat} {n : Int32} {s : Stk} (hC : CN N) (hQ : WQ N) (ht : t < cT N) (al : Al N t) (hn : iv 0 999 n) : (Hs N t n s).2.2.2 ≤ s.2.2 + 8 := by
  have cq := Hs_CQ (s := s) hC hQ ht al hn
  have wi := Wy_I (L := (Mk N 5).1) hC hQ ht al hn
  change WI N (wy N t n) at wi
  have h8 := hC.1.2
  have hw := wi.2.1.1
  unfold Hs at cq ⊢
  by_cases z : ¬ (wy N t n).2.2.1 = 0
  · rw [if_pos z]; show s.2.2 ≤ _; omega
  · rw [if_neg z] at cq ⊢
    by_cases z1 : (wy N t n).2.1 ≤ 0
    · rw [if_pos z1]; show s.2.2 ≤ _; omega
    · rw [if_neg z1] at cq ⊢
      have := SOff_cnt (L := (Mk N 5).1) (on := 0) (s := s) cq.1 (nb_single (a := (wy N t n).1) (by omega))
      exact this
theorem s_X11_hurts {N : zN} {s : Stk} {t : Nat} {n : Int32} {h : zHp} (G : zG h) (hC : CN N) (hQ : WQ N) (hN : h.1 165 = N) (hS : SM h s) (pl : ¬ rI h 164 8 = 0) (ht : t < cT N) (al : Al N t) (hn : iv 0 999 n) (room : s.2.2 + 8 + 8 * na N ≤ 400) : zcV M_X11_hurts [.ref 164, .int (nI t), .int n] h (fun h' => fH h h' ∧ h'.1 165 = (Ro True 9 (Hs N t n s).1 (Hs N t n s).2).1 ∧ SM h' (Ro True 9 (Hs N t n s).1 (Hs N t n s).2).2 ∧ Mm h' (Ro True 9 (Hs N t n s).1 (Hs N t n s).2).1) := by
  have h8 := hC.1.2
  have r8 := hC.2.2.1.2
  have cq := Hs_CQ (s := s) hC hQ ht al hn
  have cnt := Hs_cnt hC cq.2.2
  have rm := Hs_room (s := s) hC hQ ht al hn
  have wi : WI N (wy N t n) := Wy_I (L := (Mk N 5).1) hC hQ ht al hn
  have hw := wi.2.1.1
  obtain ⟨s1, s2, -⟩ := Sr_CQ hC hQ wi
  refine g_X11_hurts G (zcV_then (s_X11_leads (fl := 1) (n := n) G hC hN hQ.o ht al) (fun h1 hh => ⟨zG_of hh.1.1 G, ?_⟩))
  obtain ⟨f1, ⟨w1, w2, w3, w4, w5, w6⟩, m1, -⟩ := hh
  change rI h1 164 11 = nI (wy N t n).1 at w1
  change rI h1 164 12 = (wy N t n).2.1 at w2
  change rI h1 164 15 = (wy N t n).2.2.1 at w3
  change h1.1 165 = Sp 1 N (wy N t n).2.2.2.2.1 at w5
  obtain ⟨c1, -, -, c4, -⟩ := Sp_CN (fl := 1) (kp := (wy N t n).2.2.2.2.1) hC
  have sm1 : SM h1 s := SM_of (f1.2.1 171 (by decide) (by decide) (by decide) (by decide) (by decide)) (f1.2.2 10 (by decide) (by omega)) hS
  have pl1 : ¬ rI h1 164 8 = 0 := by
    show ¬ h1.1 164 8 = 0
    rw [f1.2.2 8 (by decide) (by omega)]
    exact pl
  -- the rounds at the end
  have rnd : ∀ h2, fH h h2 → h2.1 165 = (Hs N t n s).1 → SM h2 (Hs N t n s).2 → ¬ rI h2 164 8 = 0 → zcV M_X11_rounds [.ref 164] h2 (fun h4 => zG h4 ∧ fH h h4 ∧ h4.1 165 = (Ro True 9 (Hs N t n s).1 (Hs N t n s).2).1 ∧ SM h4 (Ro True 9 (Hs N t n s).1 (Hs N t n s).2).2 ∧ Mm h4 (Ro True 9 (Hs N t n s).1 (Hs N t n s).2).1) := by
    intro h2 f2 e2 sm2 p2
    have ro := s_X11_rounds (zG_of f2.1 G) cq.1 e2 sm2 (fun _ => by omega)
    rw [eq_true p2] at ro
    exact zcV_then ro (fun h4 hh => ⟨zG_of (hh.1.1.trans f2.1) G, f2.tr hh.1.h, hh.2.1, hh.2.2.1, hh.2.2.2⟩)
  -- rules go
  have loop : ∀ (r : Nat) (X : zN), CN X → r ≤ cR X → zlV M_X11_hurts 60 [some (.ref 164), some (.int (nI t)), some (.int n), some (.int (nI 0 + (-1)))] [] (wA h1 165 (DrR r X)) (fun h4 => fH h h4 ∧ h4.1 165 = (Ro True 9 (Hs N t n s).1 (Hs N t n s).2).1 ∧ SM h4 (Ro True 9 (Hs N t n s).1 (Hs N t n s).2).2 ∧ Mm h4 (Ro True 9 (Hs N t n s).1 (Hs N t n s).2).1) → zlV M_X11_hurts 60 [some (.ref 164), some (.int (nI t)), some (.int n), some (.int (nI r + (-1)))] [] (wA h1 165 X) (fun h4 => fH h h4 ∧ h4.1 165 = (Ro True 9 (Hs N t n s).1 (Hs N t n s).2).1 ∧ SM h4 (Ro True 9 (Hs N t n s).1 (Hs N t n s).2).2 ∧ Mm h4 (Ro True 9 (Hs N t n s).1 (Hs N t n s).2).1) := by
    intro r
    induction r with
    | zero => intro X _ _ k; exact k
    | succ r ih =>
      intro X cX hr k
      have cX8 := cX.2.2.1.2
      obtain ⟨i0, -, -, i3⟩ := ixR' (e := r) (by omega)
      have hr' : r < cR X := by omega
      obtain ⟨d1, d2, -⟩ := DrS_C cX hr'
      rw [DrR] at k
      have nx := ih _ d1 d2 k
      rw [pk_m1]
      refine g_X11_hurts_60 (zG_of f1.1 G) ⟨fun z => absurd z (nI_pos (by omega)), fun _ => ?_⟩
      rw [i0.2, i3.2, rI_As, rI_As]
      refine ⟨i0.1, fun z => ?_, fun z => ⟨i3.1, fun z1 => ?_, fun z1 => ?_⟩⟩
      · rw [DrS_0 (fun y => z y.1)] at nx; exact nx
      · rw [DrS_0 (fun y => z1 y.2)] at nx; exact nx
      · rw [DrS_1 ⟨z, z1⟩] at nx
        have go := s_X11_goes (b := 150) (w := 4) (m := 240) (k := r) (n := cR X) (N := X) (h := wA h1 165 X) (zG_of f1.1 G) wA_s cX.2.2.1.1 hr' (by omega) (by decide) (by decide) (by omega) (by decide)
        rw [wA_wA] at go
        exact zcV_use go ⟨zG_of f1.1 G, nx⟩
  have fin : ∀ Y, h1.1 165 = h1.1 165 → DrR (cR N) Y = (Hs N t n s).1 → CN Y → cR Y = cR N → zlV M_X11_hurts 60 [some (.ref 164), some (.int (nI t)), some (.int n), some (.int (Y 240 - 1))] [] (wA h1 165 Y) (fun h4 => fH h h4 ∧ h4.1 165 = (Ro True 9 (Hs N t n s).1 (Hs N t n s).2).1 ∧ SM h4 (Ro True 9 (Hs N t n s).1 (Hs N t n s).2).2 ∧ Mm h4 (Ro True 9 (Hs N t n s).1 (Hs N t n s).2).1) := by
    intro Y _ eY cY rY
    rw [cY.2.2.1.1, rY, Int32.sub_eq_add_neg]
    refine loop (cR N) Y cY (by omega) ?_
    rw [eY]
    have f2 : fH h (wA h1 165 (Hs N t n s).1) := f1.h.tr fH.a
    have p2 : ¬ rI (wA h1 165 (Hs N t n s).1) 164 8 = 0 := by rw [rI_An (by decide)]; exact pl1
    have sm2 : SM (wA h1 165 (Hs N t n s).1) s := SM_of (wA_n (by decide)) (by rw [wA_n (by decide)]) sm1
    refine g_X11_hurts_60 (zG_of f1.1 G) ⟨fun _ => ?_, fun z => absurd (by decide) z⟩
    rw [rI_An (by decide), rI_An (by decide), rI_An (by decide), w1, w2, w3]
    refine ⟨fun z => ?_, fun z => ⟨fun z1 => ?_, fun z1 => ?_⟩⟩
    · refine rnd _ f2 wA_s ?_ p2
      have e : (Hs N t n s).2 = s := by
        unfold Hs
        by_cases y : ¬ (wy N t n).2.2.1 = 0
        · rw [if_pos y]
        · rw [if_neg y, if_pos z]
      rw [e]; exact sm2
    · refine rnd _ f2 wA_s ?_ p2
      have e : (Hs N t n s).2 = s := by
        unfold Hs
        rw [if_pos z1]
      rw [e]; exact sm2
    · have e : (Hs N t n s).2 = SOff (Hs N t n s).1 (Mk N 5).1 0 ((1 : Int32) <<< (nI (wy N t n).1 &&& 31)) s := by
        unfold Hs
        rw [if_neg (fun y => y z1), if_neg z]
      have rq2 : rq (cT (Hs N t n s).1) ((wA h1 165 (Hs N t n s).1).1 168) (Mk N 5).1 := by rw [wA_n (by decide), cnt.1]; exact m1.2.1
      have e2 : SOff ((wA h1 165 (Hs N t n s).1).1 165) ((wA h1 165 (Hs N t n s).1).1 168) 0 ((1 : Int32) <<< (nI (wy N t n).1 &&& 31)) s = (Hs N t n s).2 := by
        rw [wA_s, SOff_rq rq2, e]
      have so := s_X11_setsOff (on := 0) (set := (1 : Int32) <<< (nI (wy N t n).1 &&& 31)) (s := s) (h := wA h1 165 (Hs N t n s).1) (zG_of f1.1 G) (by rw [wA_s]; exact cq.1) p2 sm2 (by decide) (by rw [e2]; omega)
      rw [e2] at so
      refine zcV_then so (fun h3 hh => ⟨zG_of (hh.1.1.trans f1.1) G, rnd h3 (f2.tr hh.1.h) (by rw [hh.1.2.1 165 (by decide) (by decide), wA_s]) hh.2 ?_⟩)
      show ¬ h3.1 164 8 = 0
      rw [hh.1.2.2 8 (by decide)]
      exact p2
  have uu : ∀ y, DrR (cR N) (wN (Sp 1 N (wy N t n).2.2.2.2.1) (wy N t n).1 y) = wN (Sr N (wy N t n)) (wy N t n).1 y ∧ CN (wN (Sp 1 N (wy N t n).2.2.2.2.1) (wy N t n).1 y) ∧ cR (wN (Sp 1 N (wy N t n).2.2.2.2.1) (wy N t n).1 y) = cR N := by
    intro y
    unfold wN
    refine ⟨?_, CN_u c1 (by omega), by rw [cR_u (by omega), c4]⟩
    rw [DrR_upd (by omega), s2 _ (by omega) (by omega), Sp_hi (by omega)]
    rfl
  rw [w1, w2, w3]
  refine ⟨fun z => ⟨fun z1 => ?_, fun z1 => ?_⟩, fun z => ?_⟩
  · have := fin (Sp 1 N (wy N t n).2.2.2.2.1) rfl (by unfold Hs; rw [if_neg (fun y => y z), if_pos z1]; rfl) c1 c4
    rw [← w5, wA_id] at this
    exact this
  · obtain ⟨u1, u2, u3⟩ := uu (wy N t n).2.1
    have := fin _ rfl (by rw [u1]; unfold Hs; rw [if_neg (fun y => y z), if_neg z1]) u2 u3
    refine zcV_use (s_X11_wounds (zG_of f1.1 G) w5 (by omega)) ⟨zG_of f1.1 G, ?_⟩
    rw [rI_As]
    exact this
  · obtain ⟨u1, u2, u3⟩ := uu (-(wy N t n).2.1)
    have := fin _ rfl (by rw [u1]; unfold Hs; rw [if_pos z]) u2 u3
    refine zcV_use (s_X11_wounds (zG_of f1.1 G) w5 (by omega)) ⟨zG_of f1.1 G, ?_⟩
    rw [rI_As]
    exact this

