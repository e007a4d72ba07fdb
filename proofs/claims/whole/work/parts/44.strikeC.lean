/-! wounds that come: the class -/
theorem g_X0_spendRules  {h : zHp} {Q : zHp → Prop}  (G : zG h) (F : zlV M_X0_spendRules 10 [some (.ref 1), some (.int ((rI h 2 5) - 1)), none] [] h Q) : zcV M_X0_spendRules [.ref 1] h Q := by
  show zw zNT zNT M_X0_spendRules 0 [some (.ref 1), none, none] [] h _
  refine z_aload_n (pc := 0) dX0_spendRules_0 rfl rfl ?_
  refine q_getR (pc := 1) (i := 2) dX0_spendRules_1 lk_RX0_12 (lyc rfl) (G 1 0 2 rfl) ?_
  refine q_getI (pc := 4) (v := rI h 2 5) dX0_spendRules_4 lk_RX0_149 (lyc rfl) rfl ?_
  refine z_iconst (pc := 7) (v := 1) dX0_spendRules_7 (by decide) ?_
  refine z_isub (pc := 8) dX0_spendRules_8 ?_
  refine z_istore_n (pc := 9) (ls' := [some (.ref 1), some (.int ((rI h 2 5) - 1)), none]) dX0_spendRules_9 rfl (by decide) rfl ?_
  exact F
theorem g_X0_spendRules_10 {x1 : Int32} {h : zHp} {Q : zHp → Prop}  (G : zG h) (F : (x1 < 0 → (Q h)) ∧ (¬ (x1 < 0) → (vp_in x1 8 ∧ (zRef h 5 ((Int32.toNatClampNeg x1)) 5 ∧ ((¬ rI h (rG h 5 ((Int32.toNatClampNeg x1))) 0 = 0 → (zlV M_X0_spendRules 10 [some (.ref 1), some (.int (x1 + (-1))), none] [] h Q)) ∧ (rI h (rG h 5 ((Int32.toNatClampNeg x1))) 0 = 0 → ((((rI h 48 3) >>> (x1 &&& 31)) &&& 1 = 0 → (zlV M_X0_spendRules 10 [some (.ref 1), some (.int (x1 + (-1))), none] [] h Q)) ∧ (¬ (((rI h 48 3) >>> (x1 &&& 31)) &&& 1 = 0) → ((0 < (rI h (rG h 5 ((Int32.toNatClampNeg x1))) 3) - (rI h 49 ((Int32.toNatClampNeg x1))) → (zlV M_X0_spendRules 10 [some (.ref 1), some (.int (x1 + (-1))), none] [] (wI h (rG h 5 ((Int32.toNatClampNeg x1))) 3 ((rI h (rG h 5 ((Int32.toNatClampNeg x1))) 3) - (rI h 49 ((Int32.toNatClampNeg x1))))) Q)) ∧ (¬ (0 < (rI h (rG h 5 ((Int32.toNatClampNeg x1))) 3) - (rI h 49 ((Int32.toNatClampNeg x1)))) → (zcV M_X8_dropRule [.ref 2, .int x1] (wI h (rG h 5 ((Int32.toNatClampNeg x1))) 3 ((rI h (rG h 5 ((Int32.toNatClampNeg x1))) 3) - (rI h 49 ((Int32.toNatClampNeg x1))))) (fun h1 => zG h1 ∧ (zlV M_X0_spendRules 10 [some (.ref 1), some (.int (x1 + (-1))), none] [] h1 Q))))))))))))) : zlV M_X0_spendRules 10 [some (.ref 1), some (.int x1), none] [] h Q := by
  refine z_iload_n (pc := 10) dX0_spendRules_10 rfl rfl ?_
  refine z_if_lt (pc := 11) (tgt := 84) dX0_spendRules_11 (by decide) (fun k7 => ?_) (fun k7 => ?_)
  · replace F := F.1 k7
    exact q_retV (pc := 84) dX0_spendRules_84 rfl F
  · replace F := F.2 k7
    refine z_aload_n (pc := 14) dX0_spendRules_14 rfl rfl ?_
    refine q_getR (pc := 15) (i := 2) dX0_spendRules_15 lk_RX0_12 (lyc rfl) (G 1 0 2 rfl) ?_
    refine q_getR (pc := 18) (i := 5) dX0_spendRules_18 lk_RX0_152 (lyc rfl) (G 2 4 5 rfl) ?_
    refine z_iload_n (pc := 21) dX0_spendRules_21 rfl rfl ?_
    obtain ⟨k1, F⟩ := F
    obtain ⟨k2, F⟩ := F
    refine q_aald (pc := 22) (j := (Int32.toNatClampNeg x1)) (r := rG h 5 ((Int32.toNatClampNeg x1))) (t := 2) dX0_spendRules_22 (lyc rfl) (zvn (lnc rfl) k1) rfl k2.1 ?_
    refine z_astore_n (pc := 23) (ls' := [some (.ref 1), some (.int x1), some (.ref (rG h 5 ((Int32.toNatClampNeg x1))))]) dX0_spendRules_23 rfl (by decide) rfl ?_
    refine z_aload_n (pc := 24) dX0_spendRules_24 rfl rfl ?_
    refine q_getI (pc := 25) (v := rI h (rG h 5 ((Int32.toNatClampNeg x1))) 0) dX0_spendRules_25 lk_RX0_156 k2.2 rfl ?_
    refine z_if_ne (pc := 28) (tgt := 78) dX0_spendRules_28 (by decide) (fun k6 => ?_) (fun k6 => ?_)
    · replace F := F.1 k6
      refine z_iinc (pc := 78) (v := x1 + (-1)) (ls' := [some (.ref 1), some (.int (x1 + (-1))), some (.ref (rG h 5 ((Int32.toNatClampNeg x1))))]) dX0_spendRules_78 (by decide) rfl rfl rfl ?_
      refine z_goto (pc := 81) (tgt := 10) dX0_spendRules_81 (by decide) ?_
      exact q_sub (ls' := [some (.ref 1), some (.int (x1 + (-1))), none]) ⟨rfl, rfl, trivial⟩ F
    · replace F := F.2 k6
      refine z_aload_n (pc := 31) dX0_spendRules_31 rfl rfl ?_
      refine q_getR (pc := 32) (i := 48) dX0_spendRules_32 lk_RX0_28 (lyc rfl) (G 1 2 48 rfl) ?_
      refine q_getI (pc := 35) (v := rI h 48 3) dX0_spendRules_35 lk_RX0_161 (lyc rfl) rfl ?_
      refine z_iload_n (pc := 38) dX0_spendRules_38 rfl rfl ?_
      refine z_ishr (pc := 39) dX0_spendRules_39 ?_
      refine z_iconst (pc := 40) (v := 1) dX0_spendRules_40 (by decide) ?_
      refine z_iand (pc := 41) dX0_spendRules_41 ?_
      refine z_if_eq (pc := 42) (tgt := 78) dX0_spendRules_42 (by decide) (fun k5 => ?_) (fun k5 => ?_)
      · replace F := F.1 k5
        refine z_iinc (pc := 78) (v := x1 + (-1)) (ls' := [some (.ref 1), some (.int (x1 + (-1))), some (.ref (rG h 5 ((Int32.toNatClampNeg x1))))]) dX0_spendRules_78 (by decide) rfl rfl rfl ?_
        refine z_goto (pc := 81) (tgt := 10) dX0_spendRules_81 (by decide) ?_
        exact q_sub (ls' := [some (.ref 1), some (.int (x1 + (-1))), none]) ⟨rfl, rfl, trivial⟩ F
      · replace F := F.2 k5
        refine z_aload_n (pc := 45) dX0_spendRules_45 rfl rfl ?_
        refine z_dup (pc := 46) dX0_spendRules_46 rfl ?_
        refine q_getI (pc := 47) (v := rI h (rG h 5 ((Int32.toNatClampNeg x1))) 3) dX0_spendRules_47 lk_RX0_164 k2.2 rfl ?_
        refine z_aload_n (pc := 50) dX0_spendRules_50 rfl rfl ?_
        refine q_getR (pc := 51) (i := 48) dX0_spendRules_51 lk_RX0_28 (lyc rfl) (G 1 2 48 rfl) ?_
        refine q_getR (pc := 54) (i := 49) dX0_spendRules_54 lk_RX0_167 (lyc rfl) (G 48 4 49 rfl) ?_
        refine z_iload_n (pc := 57) dX0_spendRules_57 rfl rfl ?_
        refine q_iald (pc := 58) (j := (Int32.toNatClampNeg x1)) (v := rI h 49 ((Int32.toNatClampNeg x1))) dX0_spendRules_58 (lyc rfl) (zvn (lnc rfl) k1) rfl rfl ?_
        refine z_isub (pc := 59) dX0_spendRules_59 ?_
        refine q_putI (pc := 60) dX0_spendRules_60 lk_RX0_164 k2.2 ?_
        refine z_aload_n (pc := 63) dX0_spendRules_63 rfl rfl ?_
        refine q_getI (pc := 64) (v := (rI h (rG h 5 ((Int32.toNatClampNeg x1))) 3) - (rI h 49 ((Int32.toNatClampNeg x1)))) dX0_spendRules_64 lk_RX0_164 k2.2 rI_s ?_
        refine z_if_gt (pc := 67) (tgt := 78) dX0_spendRules_67 (by decide) (fun k4 => ?_) (fun k4 => ?_)
        · replace F := F.1 k4
          refine z_iinc (pc := 78) (v := x1 + (-1)) (ls' := [some (.ref 1), some (.int (x1 + (-1))), some (.ref (rG h 5 ((Int32.toNatClampNeg x1))))]) dX0_spendRules_78 (by decide) rfl rfl rfl ?_
          refine z_goto (pc := 81) (tgt := 10) dX0_spendRules_81 (by decide) ?_
          exact q_sub (ls' := [some (.ref 1), some (.int (x1 + (-1))), none]) ⟨rfl, rfl, trivial⟩ F
        · replace F := F.2 k4
          refine z_aload_n (pc := 70) dX0_spendRules_70 rfl rfl ?_
          refine q_getR (pc := 71) (i := 2) dX0_spendRules_71 lk_RX0_12 (lyc rfl) (G 1 0 2 rfl) ?_
          refine z_iload_n (pc := 74) dX0_spendRules_74 rfl rfl ?_
          refine q_invV (pc := 75) (As := [.int x1]) (st := []) dX0_spendRules_75 ok_X8_dropRule ml_RX0_170 iv_X8_dropRule pa_X8_dropRule ⟨Nat.le_of_ble_eq_true rfl, Nat.le_of_ble_eq_true rfl⟩ (lyc rfl) (q_kV F (fun h1 F => ?_))
          obtain ⟨G1, F⟩ := F
          refine z_iinc (pc := 78) (v := x1 + (-1)) (ls' := [some (.ref 1), some (.int (x1 + (-1))), some (.ref (rG h 5 ((Int32.toNatClampNeg x1))))]) dX0_spendRules_78 (by decide) rfl rfl rfl ?_
          refine z_goto (pc := 81) (tgt := 10) dX0_spendRules_81 (by decide) ?_
          exact q_sub (ls' := [some (.ref 1), some (.int (x1 + (-1))), none]) ⟨rfl, rfl, trivial⟩ F
theorem g_X0_strike {x1 : Int32} {x2 : Int32} {h : zHp} {Q : zHp → Prop}  (G : zG h) (F : zcV M_X9_follow [.ref 48, .ref 2, .ref 42, .int x1, .int x2] h (fun h1 => zG h1 ∧ (zcV M_X0_spendRules [.ref 1] h1 (fun h2 => zG h2 ∧ (((0 ≤ rI h2 48 0 ∧ rI h2 48 0 ≤ (rI h2 2 1) - 1) → (vp_in (rI h2 48 0) 8 ∧ ((rI h2 48 2 = 0 → ((rI h2 48 1 ≤ 0 → (Q h2)) ∧ (¬ (rI h2 48 1 ≤ 0) → (zcV M_X0_setOff [.ref 1, .int 0, .int (1 <<< ((rI h2 48 0) &&& 31))] (wI h2 (8 + (Int32.toNatClampNeg (rI h2 48 0))) 4 (if (rI h2 (8 + (Int32.toNatClampNeg (rI h2 48 0))) 4) + (rI h2 48 1) < (999 : Int32) then (rI h2 (8 + (Int32.toNatClampNeg (rI h2 48 0))) 4) + (rI h2 48 1) else 999)) (fun h3 => zG h3 ∧ (Q h3)))))) ∧ (¬ (rI h2 48 2 = 0) → (Q (wI h2 (8 + (Int32.toNatClampNeg (rI h2 48 0))) 4 (if (0 : Int32) < (rI h2 (8 + (Int32.toNatClampNeg (rI h2 48 0))) 4) - (rI h2 48 1) then (rI h2 (8 + (Int32.toNatClampNeg (rI h2 48 0))) 4) - (rI h2 48 1) else 0))))))) ∧ (¬ (0 ≤ rI h2 48 0 ∧ rI h2 48 0 ≤ (rI h2 2 1) - 1) → (Q h2))))))) : zcV M_X0_strike [.ref 1, .int x1, .int x2] h Q := by
  show zw zNT zNT M_X0_strike 0 [some (.ref 1), some (.int x1), some (.int x2), none] [] h _
  refine z_aload_n (pc := 0) dX0_strike_0 rfl rfl ?_
  refine q_getR (pc := 1) (i := 48) dX0_strike_1 lk_RX0_28 (lyc rfl) (G 1 2 48 rfl) ?_
  refine z_aload_n (pc := 4) dX0_strike_4 rfl rfl ?_
  refine q_getR (pc := 5) (i := 2) dX0_strike_5 lk_RX0_12 (lyc rfl) (G 1 0 2 rfl) ?_
  refine z_aload_n (pc := 8) dX0_strike_8 rfl rfl ?_
  refine q_getR (pc := 9) (i := 42) dX0_strike_9 lk_RX0_21 (lyc rfl) (G 1 1 42 rfl) ?_
  refine z_iload_n (pc := 12) dX0_strike_12 rfl rfl ?_
  refine z_iload_n (pc := 13) dX0_strike_13 rfl rfl ?_
  refine q_invV (pc := 14) (As := [.ref 2, .ref 42, .int x1, .int x2]) (st := []) dX0_strike_14 ok_X9_follow ml_RX0_120 iv_X9_follow pa_X9_follow ⟨Nat.le_of_ble_eq_true rfl, Nat.le_of_ble_eq_true rfl⟩ (lyc rfl) (q_kV F (fun h1 F => ?_))
  obtain ⟨G1, F⟩ := F
  refine z_aload_n (pc := 17) dX0_strike_17 rfl rfl ?_
  refine q_invV (pc := 18) (As := []) (st := []) dX0_strike_18 ok_X0_spendRules ml_RX0_124 iv_X0_spendRules pa_X0_spendRules ⟨Nat.le_of_ble_eq_true rfl, Nat.le_of_ble_eq_true rfl⟩ (lyc rfl) (q_kV F (fun h2 F => ?_))
  obtain ⟨G2, F⟩ := F
  refine z_aload_n (pc := 21) dX0_strike_21 rfl rfl ?_
  refine q_getR (pc := 22) (i := 2) dX0_strike_22 lk_RX0_12 (lyc rfl) (G2 1 0 2 rfl) ?_
  refine z_aload_n (pc := 25) dX0_strike_25 rfl rfl ?_
  refine q_getR (pc := 26) (i := 48) dX0_strike_26 lk_RX0_28 (lyc rfl) (G2 1 2 48 rfl) ?_
  refine q_getI (pc := 29) (v := rI h2 48 0) dX0_strike_29 lk_RX0_127 (lyc rfl) rfl ?_
  refine q_invV (pc := 32) (As := [.int (rI h2 48 0)]) (st := []) dX0_strike_32 ok_X8_hasThing ml_RX0_130 iv_X8_hasThing pa_X8_hasThing ⟨Nat.le_of_ble_eq_true rfl, Nat.le_of_ble_eq_true rfl⟩ (lyc rfl) (q_pI (s_X8_hasThing G2 (Or.inl rfl)) rfl ?_)
  refine z_if_ne (pc := 35) (tgt := 39) dX0_strike_35 (by decide) (fun k7 => ?_) (fun k7 => ?_)
  · replace F := F.1 (zbn.mp k7)
    refine z_aload_n (pc := 39) dX0_strike_39 rfl rfl ?_
    refine q_getR (pc := 40) (i := 2) dX0_strike_40 lk_RX0_12 (lyc rfl) (G2 1 0 2 rfl) ?_
    refine q_getR (pc := 43) (i := 3) dX0_strike_43 lk_RX0_65 (lyc rfl) (G2 2 0 3 rfl) ?_
    refine z_aload_n (pc := 46) dX0_strike_46 rfl rfl ?_
    refine q_getR (pc := 47) (i := 48) dX0_strike_47 lk_RX0_28 (lyc rfl) (G2 1 2 48 rfl) ?_
    refine q_getI (pc := 50) (v := rI h2 48 0) dX0_strike_50 lk_RX0_127 (lyc rfl) rfl ?_
    obtain ⟨k3, F⟩ := F
    refine q_aald (pc := 53) (j := (Int32.toNatClampNeg (rI h2 48 0))) (r := 8 + (Int32.toNatClampNeg (rI h2 48 0))) (t := 0) dX0_strike_53 (lyc rfl) (zvn (lnc rfl) k3) rfl (grT (B := 2) G2 (Or.inl rfl) (zvi k3)) ?_
    refine z_astore_n (pc := 54) (ls' := [some (.ref 1), some (.int x1), some (.int x2), some (.ref (8 + (Int32.toNatClampNeg (rI h2 48 0))))]) dX0_strike_54 rfl (by decide) rfl ?_
    refine z_aload_n (pc := 55) dX0_strike_55 rfl rfl ?_
    refine q_getR (pc := 56) (i := 48) dX0_strike_56 lk_RX0_28 (lyc rfl) (G2 1 2 48 rfl) ?_
    refine q_getI (pc := 59) (v := rI h2 48 2) dX0_strike_59 lk_RX0_134 (lyc rfl) rfl ?_
    refine z_if_eq (pc := 62) (tgt := 79) dX0_strike_62 (by decide) (fun k6 => ?_) (fun k6 => ?_)
    · replace F := F.1 k6
      refine z_aload_n (pc := 79) dX0_strike_79 rfl rfl ?_
      refine q_getR (pc := 80) (i := 48) dX0_strike_80 lk_RX0_28 (lyc rfl) (G2 1 2 48 rfl) ?_
      refine q_getI (pc := 83) (v := rI h2 48 1) dX0_strike_83 lk_RX0_137 (lyc rfl) rfl ?_
      refine z_if_le (pc := 86) (tgt := 125) dX0_strike_86 (by decide) (fun k5 => ?_) (fun k5 => ?_)
      · replace F := F.1 k5
        exact q_retV (pc := 125) dX0_strike_125 rfl F
      · replace F := F.2 k5
        refine z_aload_n (pc := 89) dX0_strike_89 rfl rfl ?_
        refine z_sipush (pc := 90) (v := 999) dX0_strike_90 (by decide) ?_
        refine z_aload_n (pc := 93) dX0_strike_93 rfl rfl ?_
        refine q_getI (pc := 94) (v := rI h2 (8 + (Int32.toNatClampNeg (rI h2 48 0))) 4) dX0_strike_94 lk_RX0_75 (lyT (B := 2) (Or.inl rfl) (zvi k3)) rfl ?_
        refine z_aload_n (pc := 97) dX0_strike_97 rfl rfl ?_
        refine q_getR (pc := 98) (i := 48) dX0_strike_98 lk_RX0_28 (lyc rfl) (G2 1 2 48 rfl) ?_
        refine q_getI (pc := 101) (v := rI h2 48 1) dX0_strike_101 lk_RX0_137 (lyc rfl) rfl ?_
        refine z_iadd (pc := 104) dX0_strike_104 ?_
        refine z_min (pc := 105) dX0_strike_105 ⟨pl_RX0_143, pw_minS, pw_Math, pw_minC⟩ (zcat_of rfl) ⟨Nat.le_of_ble_eq_true rfl, Nat.le_of_ble_eq_true rfl⟩ ?_
        refine q_putI (pc := 108) dX0_strike_108 lk_RX0_75 (lyT (B := 2) (Or.inl rfl) (zvi k3)) ?_
        refine z_aload_n (pc := 111) dX0_strike_111 rfl rfl ?_
        refine z_iconst (pc := 112) (v := 0) dX0_strike_112 (by decide) ?_
        refine z_iconst (pc := 113) (v := 1) dX0_strike_113 (by decide) ?_
        refine z_aload_n (pc := 114) dX0_strike_114 rfl rfl ?_
        refine q_getR (pc := 115) (i := 48) dX0_strike_115 lk_RX0_28 (lyc rfl) (G2 1 2 48 rfl) ?_
        refine q_getI (pc := 118) (v := rI h2 48 0) dX0_strike_118 lk_RX0_127 (lyc rfl) (rI_k (by decide)) ?_
        refine z_ishl (pc := 121) dX0_strike_121 ?_
        refine q_invV (pc := 122) (As := [.int 0, .int (1 <<< ((rI h2 48 0) &&& 31))]) (st := []) dX0_strike_122 ok_X0_setOff ml_RX0_54 iv_X0_setOff pa_X0_setOff ⟨Nat.le_of_ble_eq_true rfl, Nat.le_of_ble_eq_true rfl⟩ (lyc rfl) (q_kV F (fun h3 F => ?_))
        obtain ⟨G3, F⟩ := F
        exact q_retV (pc := 125) dX0_strike_125 rfl F
    · replace F := F.2 k6
      refine z_aload_n (pc := 65) dX0_strike_65 rfl rfl ?_
      refine z_aload_n (pc := 66) dX0_strike_66 rfl rfl ?_
      refine q_getR (pc := 67) (i := 48) dX0_strike_67 lk_RX0_28 (lyc rfl) (G2 1 2 48 rfl) ?_
      refine q_getI (pc := 70) (v := rI h2 48 1) dX0_strike_70 lk_RX0_137 (lyc rfl) rfl ?_
      refine q_invV (pc := 73) (As := [.int (rI h2 48 1)]) (st := []) dX0_strike_73 ok_X6_heal ml_RX0_140 iv_X6_heal pa_X6_heal ⟨Nat.le_of_ble_eq_true rfl, Nat.le_of_ble_eq_true rfl⟩ (lyT (B := 2) (Or.inl rfl) (zvi k3)) (q_pV (s_X6_heal G2 (lyT (B := 2) (Or.inl rfl) (zvi k3))) ?_)
      refine z_goto (pc := 76) (tgt := 125) dX0_strike_76 (by decide) ?_
      exact q_retV (pc := 125) dX0_strike_125 rfl F
  · replace F := F.2 (zb0.mp k7)
    exact q_retV (pc := 38) dX0_strike_38 rfl F
/-- world 2 alone may have changed -/
def fW (h h' : zHp) : Prop := (∀ a, (a < 2 ∨ 42 ≤ a) → h'.1 a = h.1 a) ∧ ∀ a, a ≠ 4 → a ≠ 5 → a ≠ 6 → h'.2 a = h.2 a
theorem fW.rf {h : zHp} : fW h h := ⟨fun _ _ => rfl, fun _ _ _ _ => rfl⟩
theorem fW.tr {h h' h2 : zHp} (a : fW h h') (b : fW h' h2) : fW h h2 := ⟨fun z hz => (b.1 z hz).trans (a.1 z hz), fun z z1 z2 z3 => (b.2 z z1 z2 z3).trans (a.2 z z1 z2 z3)⟩
theorem fW.x {h h' : zHp} (f : fW h h') : fX h h' := ⟨fun a ha => f.1 a (by omega), f.2⟩
theorem fW.g {h h' : zHp} (f : fW h h') (G : zG h) : zG h' := f.x.g G
theorem fW.w {h : zHp} {c k : Nat} {v : Int32} (hc : 2 ≤ c ∧ c < 42) : fW h (wI h c k v) := ⟨fun a ha => wI_ne (by omega), fun _ _ _ _ => rfl⟩
theorem fW.d {h : zHp} {f c k n : Nat} (hc : c = 4 ∨ c = 5 ∨ c = 6) : fW h (drh h 2 f c k n) := ⟨fun a ha => drh_1 (by omega), fun a h1 h2 h3 => drh_2 (by omega)⟩
/-- the rules below r as they were before -/
def Uz (r : Nat) (N X : zN) : zN := fun i => if 150 ≤ i ∧ i < 150 + 4 * r ∧ (i - 150) % 4 = 3 then N i else X i
theorem Uz_0 {N X : zN} : Uz 0 N X = X := by
  funext i
  unfold Uz
  rw [if_neg (by omega)]
theorem Uz_o {r i : Nat} {N X : zN} (h : i < 150 ∨ 150 + 4 * r ≤ i ∨ (i - 150) % 4 ≠ 3) : Uz r N X i = X i := by
  unfold Uz
  rw [if_neg (by omega)]
theorem Uz_in {r j : Nat} {N X : zN} (h : j < r) : Uz r N X (150 + 4 * j + 3) = N (150 + 4 * j + 3) := by
  unfold Uz
  rw [if_pos (by omega)]
theorem Uz_R {r : Nat} {N X : zN} (hr : r ≤ 8) : cR (Uz r N X) = cR X := by unfold cR; rw [Uz_o (by omega)]
theorem Uz_C {r : Nat} {N X : zN} (hr : r ≤ 8) (hC : CN X) : CN (Uz r N X) := by
  unfold CN cT cE cR cV
  rw [Uz_o (by omega), Uz_o (by omega), Uz_o (by omega), Uz_o (by omega)]
  exact hC
theorem Uz_up {r : Nat} {N X : zN} : upd (Uz (r + 1) N X) (150 + 4 * r + 3) (X (150 + 4 * r + 3)) = Uz r N X := by
  funext i
  unfold upd
  by_cases z : i = 150 + 4 * r + 3
  · rw [if_pos z, z, Uz_o (by omega)]
  · rw [if_neg z]
    by_cases y : 150 ≤ i ∧ i < 150 + 4 * r ∧ (i - 150) % 4 = 3
    · unfold Uz; rw [if_pos y, if_pos (by omega)]
    · unfold Uz; rw [if_neg y, if_neg (by omega)]
theorem Uz_st {r : Nat} {N X : zN} (h : X (150 + 4 * r + 3) = N (150 + 4 * r + 3)) : Uz (r + 1) N X = Uz r N X := by
  have e := Uz_up (r := r) (N := N) (X := X)
  rw [upd_id (by rw [Uz_in (by omega), h])] at e
  exact e
theorem Uz_Go {r : Nat} {N X : zN} (hr : r < 8) : Go 150 4 240 r (Uz r N X) = Uz r N (Go 150 4 240 r X) := by
  funext i
  have e : Uz r N X 240 = X 240 := Uz_o (by omega)
  unfold Go
  rw [e]
  by_cases z : i = 240
  · subst z
    rw [if_pos rfl, Uz_o (by omega), if_pos rfl]
  · rw [if_neg z]
    by_cases y : 150 + 4 * r ≤ i ∧ i < 150 + 4 * ((X 240).toNatClampNeg - 1)
    · rw [if_pos y, Uz_o (by omega), Uz_o (by omega), if_neg z, if_pos y]
    · rw [if_neg y]
      by_cases x : 150 ≤ i ∧ i < 150 + 4 * r ∧ (i - 150) % 4 = 3
      · unfold Uz; rw [if_pos x, if_pos x]
      · rw [Uz_o (by omega), Uz_o (by omega), if_neg z, if_neg y]
theorem s_X0_spendRules {N : zN} {w : Wst} {h : zHp} (G : zG h) (hC : CN N) (hQ : WQ N) (hP : PW h 2) (hR : RW h 2 N) (wi : WI N w) (wk : WK N w) (u3 : rI h 48 3 = w.2.2.2.1) (u4 : ∀ r, r < 8 → bi w.2.2.2.1 (nI r) → rI h 49 r = w.2.2.2.2.1 r) : zcV M_X0_spendRules [.ref 1] h (fun h' => fW h h' ∧ PW h' 2 ∧ RW h' 2 (Sr N w)) := by
  have r8 := hC.2.2.1.2
  have hB : zW 2 := Or.inl rfl
  have loop : ∀ (r : Nat) (X : zN) (h' : zHp), CN X → r ≤ cR X → r ≤ cR N → (∀ j q, j < r → q < 4 → X (150 + 4 * j + q) = Sp 1 N w.2.2.2.2.1 (150 + 4 * j + q)) → fW h h' → PW h' 2 → RW h' 2 (Uz r N X) → zlV M_X0_spendRules 10 [some (.ref 1), some (.int (nI r + (-1))), none] [] h' (fun h2 => fW h h2 ∧ PW h2 2 ∧ RW h2 2 (DrR r X)) := by
    intro r
    induction r with
    | zero =>
      intro X h' cX _ _ _ f p q
      rw [Uz_0] at q
      exact g_X0_spendRules_10 (f.g G) ⟨fun _ => ⟨f, p, q⟩, fun z => absurd (by decide) z⟩
    | succ r ih =>
      intro X h' cX h1 h2 h3 f p q
      have cX8 := cX.2.2.1.2
      have hr8 : r < 8 := by omega
      have lc := p.r hB hr8
      have hRc : r < cR (Uz (r + 1) N X) := by rw [Uz_R (by omega)]; omega
      have cU : CN (Uz (r + 1) N X) := Uz_C (by omega) cX
      have v0 := q.2.2.2.1 r 0 hRc (by omega)
      have v3 := q.2.2.2.1 r 3 hRc (by omega)
      rw [Uz_o (by omega)] at v0
      rw [Uz_in (by omega)] at v3
      have x0 : X (150 + 4 * r) = N (150 + 4 * r) := (h3 r 0 (by omega) (by omega)).trans (Sp_r (k := 0) (by omega))
      have x3 : X (150 + 4 * r + 3) = N (150 + 4 * r + 3) - w.2.2.2.2.1 r := (h3 r 3 (by omega) (by omega)).trans (Sp_v (by decide) (by omega))
      change rI h' (rG h' 5 r) 0 = X (150 + 4 * r) at v0
      change rI h' (rG h' 5 r) 3 = _ at v3
      rw [x0] at v0
      have lo : ∀ Y : zN, CN Y → r ≤ cR Y → (∀ j q, j < r → q < 4 → Y (150 + 4 * j + q) = X (150 + 4 * j + q)) → ∀ h2, fW h h2 → PW h2 2 → RW h2 2 (Uz r N Y) → DrS r X = Y → zlV M_X0_spendRules 10 [some (.ref 1), some (.int (nI r + (-1))), none] [] h2 (fun h2 => fW h h2 ∧ PW h2 2 ∧ RW h2 2 (DrR (r + 1) X)) := by
        intro Y cY y1 y2 h2' f2 p2 q2 e
        rw [DrR, e]
        exact ih Y h2' cY y1 (by omega) (fun j q h5 h6 => (y2 j q h5 h6).trans (h3 j q (by omega) h6)) f2 p2 q2
      have same : X (150 + 4 * r + 3) = N (150 + 4 * r + 3) → ¬ (X (150 + 4 * r) = 0 ∧ X (150 + 4 * r + 3) = 0) → zlV M_X0_spendRules 10 [some (.ref 1), some (.int (nI r + (-1))), none] [] h' (fun h2 => fW h h2 ∧ PW h2 2 ∧ RW h2 2 (DrR (r + 1) X)) := by
        intro e n0
        rw [Uz_st e] at q
        exact lo X cX (by omega) (fun _ _ _ _ => rfl) h' f p q (DrS_0 n0)
      rw [pk_m1]
      refine g_X0_spendRules_10 (f.g G) ⟨fun z => absurd z (nI_pos (by omega)), fun _ => ?_⟩
      rw [nI_clamp (by omega), v0, v3, show rI h' 48 3 = w.2.2.2.1 by rw [← u3]; show h'.1 48 3 = h.1 48 3; rw [f.1 48 (by omega)], show rI h' 49 r = rI h 49 r by show h'.1 49 r = h.1 49 r; rw [f.1 49 (by omega)]]
      refine ⟨vp_in_nI (by omega) (by omega), lc, fun z0 => ?_, fun z0 => ⟨fun zb => ?_, fun zb => ?_⟩⟩
      · refine same ?_ (fun y => z0 (x0.symm.trans y.1))
        have k0 : w.2.2.2.2.1 r = 0 := Classical.byContradiction (fun y => z0 (wk r hr8 y).1)
        rw [x3, k0, Int32.sub_zero]
      · have nb := bi_0.mp zb
        have k0 : w.2.2.2.2.1 r = 0 := Classical.byContradiction (fun y => nb (wk r hr8 y).2)
        have e : X (150 + 4 * r + 3) = N (150 + 4 * r + 3) := by rw [x3, k0, Int32.sub_zero]
        refine same e (fun y => ?_)
        have q1 := (hQ.2.2.1 r (by omega) z0).1
        rw [← e, y.2] at q1
        exact absurd q1 (by decide)
      · have hb := bi_n0.mp zb
        rw [u4 r hr8 hb, ← x3]
        have pr := p.2.1.1 r hr8
        have q' := RW_uR (v := X (150 + 4 * r + 3)) p cU q hRc (show 3 < 4 by omega)
        rw [Uz_up] at q'
        have f' : fW h (wI h' (rG h' 5 r) 3 (X (150 + 4 * r + 3))) := f.tr (fW.w (by have pr2 := pr.2; change 2 + 24 ≤ rG h' 5 r ∧ rG h' 5 r < 2 + 24 + 8 at pr2; omega))
        have p' : PW (wI h' (rG h' 5 r) 3 (X (150 + 4 * r + 3))) 2 := PW_of rfl p
        have nn : iv 0 99 (X (150 + 4 * r + 3)) := by
          rw [x3]
          have q1 := hQ.2.2.1 r (by omega) z0
          rcases wi.2.2 r hr8 with y | y
          · rw [y, Int32.sub_zero]; exact q1.mono (by omega) (by omega)
          · exact (Sp_sub q1 y.2.2).2
        refine ⟨fun y => ?_, fun y => ?_⟩
        · refine lo X cX (by omega) (fun _ _ _ _ => rfl) _ f' p' q' (DrS_0 (fun x => ?_))
          rw [x.2] at y
          exact absurd y (by decide)
        · have e0 : X (150 + 4 * r + 3) = 0 := by
            have y1 : ¬ 0 < (X (150 + 4 * r + 3)).toInt := fun z => y ((iv_0l _).mpr z)
            have := nn.1
            exact Int32.toInt_inj.mp (by show _ = (0 : Int); omega)
          have cU' : CN (Uz r N X) := Uz_C (by omega) cX
          have hk : r < cR (Uz r N X) := by rw [Uz_R (by omega)]; omega
          have dr := s_X8_dropRule (f'.g G) hB cU' p' q' hk
          refine zcV_use dr ?_
          obtain ⟨w1, w2⟩ := drh_WR hB cU' p' q' hk
          rw [Uz_Go hr8] at w2
          have fd : fW (wI h' (rG h' 5 r) 3 (X (150 + 4 * r + 3))) (drh (wI h' (rG h' 5 r) 3 (X (150 + 4 * r + 3))) 2 5 (2 + 3) r (cR (Uz r N X))) := fW.d (Or.inr (Or.inl rfl))
          refine ⟨(f'.tr fd).g G, ?_⟩
          have zz : X (150 + 4 * r) = 0 ∧ X (150 + 4 * r + 3) = 0 := ⟨x0.trans z0, e0⟩
          have hrX : r < cR X := by omega
          exact lo (Go 150 4 240 r X) (GoR_C cX hrX).1 (by rw [(GoR_n cX hrX).2]; omega) (fun j q h5 h6 => GoR_lo cX h5 (by omega) h6) _ (f'.tr fd) w1 w2 (DrS_1 zz)
  obtain ⟨c1, -, -, c4, -⟩ := Sp_CN (fl := 1) (kp := w.2.2.2.2.1) hC
  refine g_X0_spendRules G ?_
  rw [hR.1.2.2.1, hC.2.2.1.1, Int32.sub_eq_add_neg]
  have eU : RW h 2 (Uz (cR N) N (Sp 1 N w.2.2.2.2.1)) := by
    obtain ⟨a, b, d, e, g⟩ := hR
    have hi : ∀ i, (i < 150 ∨ 182 ≤ i) → Uz (cR N) N (Sp 1 N w.2.2.2.2.1) i = N i := fun i h => (Uz_o (by omega)).trans (Sp_hi h)
    refine ⟨by rw [hi _ (by omega), hi _ (by omega), hi _ (by omega), hi _ (by omega), hi _ (by omega), hi _ (by omega), hi _ (by omega), hi _ (by omega)]; exact a, fun t k h1 h2 => ?_, fun t k h1 h2 => ?_, fun t k h1 h2 => ?_, fun t k h1 h2 => ?_⟩
    · have h3 : t < cT N := by unfold cT at h1 ⊢; rw [hi _ (by omega)] at h1; exact h1
      have := hC.1.2
      rw [hi _ (by omega)]; exact b t k h3 h2
    · have h3 : t < cE N := by unfold cE at h1 ⊢; rw [hi _ (by omega)] at h1; exact h1
      have := hC.2.1.2
      rw [hi _ (by omega)]; exact d t k h3 h2
    · have h3 : t < cR N := by rw [Uz_R (by omega), c4] at h1; exact h1
      rw [e t k h3 h2]
      by_cases z : k = 3
      · subst z; rw [Uz_in h3]
      · rw [Uz_o (by omega), Sp_r (by omega)]
    · have h3 : t < cV N := by unfold cV at h1 ⊢; rw [hi _ (by omega)] at h1; exact h1
      rw [hi _ (by omega)]; exact g t k h3 h2
  exact loop (cR N) (Sp 1 N w.2.2.2.2.1) h c1 (by omega) (Nat.le_refl _) (fun _ _ _ _ => rfl) fW.rf hP eU
theorem nb_single {a : Nat} (ha : a < 8) : nb 8 (fun t => bi ((1 : Int32) <<< (nI a &&& 31)) (nI t)) ≤ 1 := by
  have e := nb_one (n := 8) (e := a) (p := fun t => bi ((1 : Int32) <<< (nI a &&& 31)) (nI t)) ha ((bi_pw (by omega) (by omega)).mpr rfl)
  have z : nb 8 (fun k => bi ((1 : Int32) <<< (nI a &&& 31)) (nI k) ∧ k ≠ a) = 0 := nb_0.mpr (fun k hk y => y.2 ((bi_pw (by omega) (by omega)).mp y.1))
  omega
theorem wy_K {N : zN} {t : Nat} {n : Int32} (hC : CN N) : WK N (wy N t n) :=
  Wy_inv (P := WK N) (fun s r hr _ _ _ h => Ws_K (by have := hC.2.2.1.2; omega) h) hC.2.2.1.2 8 _ (fun r _ z => absurd rfl z)
theorem s_X0_strike {N : zN} {s : Stk} {t : Nat} {n : Int32} {h : zHp} (G : zG h) (hC : CN N) (hQ : WQ N) (hP : PW h 2) (hR : RW h 2 N) (hL : Lm h 42 N) (hS : SC h s) (ht : t < cT N) (al : Al N t) (hn : iv 0 999 n) (room : s.2.2 + 8 ≤ 400) : zcV M_X0_strike [.ref 1, .int (nI t), .int n] h (fun h' => fX h h' ∧ PW h' 2 ∧ RW h' 2 (Hs N t n s).1 ∧ SC h' (Hs N t n s).2) := by
  have hB : zW 2 := Or.inl rfl
  have h8 := hC.1.2
  have fo := s_X9_follow (n := n) G (Or.inl rfl) hB (Or.inl rfl) hC hP hR hQ.n hQ.o ht al
  rw [Wy_rq hC hL.2.1 8 _ ht al] at fo
  change zcV _ _ _ (fun h' => fU 48 h h' ∧ WC h' 48 (wy N t n)) at fo
  have wi : WI N (wy N t n) := Wy_I (L := (Mk N 5).1) hC hQ ht al hn
  refine g_X0_strike G (zcV_then fo (fun h1 hh => ⟨zG_of hh.1.1 G, ?_⟩))
  obtain ⟨f1, c0, c1, c2, c3, c4⟩ := hh
  have hP1 := PW_of f1.1 hP
  have hR1 := f1.rw (Or.inl rfl) hB hP hC hR
  refine zcV_then (s_X0_spendRules (zG_of f1.1 G) hC hQ hP1 hR1 wi (wy_K hC) c3 c4) (fun h2 hh => ⟨hh.1.g (zG_of f1.1 G), ?_⟩)
  obtain ⟨f2, p2, q2⟩ := hh
  have e48 : ∀ k, rI h2 48 k = rI h1 48 k := fun k => by show h2.1 48 k = h1.1 48 k; rw [f2.1 48 (by omega)]
  obtain ⟨s1, s2, s3⟩ := Sr_CQ hC hQ wi
  have tT : cT (Sr N (wy N t n)) = cT N := by unfold cT; rw [s2 238 (by decide) (by decide)]
  have hw := wi.2.1.1
  have fx : fX h h2 := (fX.u f1).tr f2.x
  have sc2 : SC h2 s := SC_of (by rw [f2.1 1 (by omega), f1.2 1 (by omega) (by omega)]) (by rw [f2.1 50 (by omega), f1.2 50 (by omega) (by omega)]) (by rw [f2.1 51 (by omega), f1.2 51 (by omega) (by omega)]) hS
  have ev : ∀ h3 : zHp, (∀ a, 42 ≤ a → h3.1 a = h2.1 a) → VL h3 42 = VL h 42 := fun h3 e => (VL_of (fun a z1 z2 => e a (by omega))).trans ((VL_of (fun a z1 z2 => f2.1 a (by omega))).trans (f1.vl (Or.inl rfl) (Or.inl rfl)))
  rw [e48 0, e48 1, e48 2, c0, c1, c2, nI_clamp (by omega), q2.1.1, s1.1.1, tT]
  have w4 : rI h2 (8 + (wy N t n).1) 4 = Sr N (wy N t n) (10 * (wy N t n).1 + 4) := q2.2.1 _ 4 (by omega) (by omega)
  rw [w4]
  have x4 : iv 0 999 (Sr N (wy N t n) (10 * (wy N t n).1 + 4)) := by
    rw [s2 _ (by omega) (by omega)]
    exact (hQ.1 _ hw).2.2.2.2.1
  rw [wv_add x4 wi.1, wv_sub x4 wi.1]
  have put : ∀ y, PW (wI h2 (8 + (wy N t n).1) 4 (wv (Sr N (wy N t n) (10 * (wy N t n).1 + 4)) y)) 2 ∧ RW (wI h2 (8 + (wy N t n).1) 4 (wv (Sr N (wy N t n) (10 * (wy N t n).1 + 4)) y)) 2 (wN (Sr N (wy N t n)) (wy N t n).1 y) ∧ fX h (wI h2 (8 + (wy N t n).1) 4 (wv (Sr N (wy N t n) (10 * (wy N t n).1 + 4)) y)) ∧ SC (wI h2 (8 + (wy N t n).1) 4 (wv (Sr N (wy N t n) (10 * (wy N t n).1 + 4)) y)) s := by
    intro y
    refine ⟨PW_of rfl p2, RW_uT p2 s1 q2 (by omega) (by omega), fx.tr (fX.w (by omega)), SC_of (by rw [wI_ne (by omega)]) (wI_ne (by omega)) (wI_ne (by omega)) sc2⟩
  refine ⟨fun _ => ⟨vp_in_nI (by omega) (by omega), fun z0 => ⟨fun z1 => ?_, fun z1 => ?_⟩, fun z0 => ?_⟩, fun z => absurd (zsm2 (by omega) hw) z⟩
  · have e : Hs N t n s = (Sr N (wy N t n), s) := by unfold Hs; rw [if_neg (fun y => y z0), if_pos z1]
    rw [e]
    exact ⟨fx, p2, q2, sc2⟩
  · have e : Hs N t n s = (wN (Sr N (wy N t n)) (wy N t n).1 (wy N t n).2.1, SOff (wN (Sr N (wy N t n)) (wy N t n).1 (wy N t n).2.1) (Mk N 5).1 0 ((1 : Int32) <<< (nI (wy N t n).1 &&& 31)) s) := by unfold Hs; rw [if_neg (fun y => y z0), if_neg z1]
    have cq := Hs_CQ (s := s) hC hQ ht al hn
    rw [e] at cq ⊢
    obtain ⟨p3, q3, f3, c3⟩ := put (wy N t n).2.1
    have cnt := SOff_cnt (N := wN (Sr N (wy N t n)) (wy N t n).1 (wy N t n).2.1) (L := (Mk N 5).1) (on := 0) (s := s) cq.1 (nb_single (a := (wy N t n).1) (by omega))
    have ev3 := ev (wI h2 (8 + (wy N t n).1) 4 (wv (Sr N (wy N t n) (10 * (wy N t n).1 + 4)) (wy N t n).2.1)) (fun a ha => wI_ne (by omega))
    have eT : cT (wN (Sr N (wy N t n)) (wy N t n).1 (wy N t n).2.1) = cT N := by unfold wN; rw [cT_u (by omega), tT]
    have rq3 : rq (cT (wN (Sr N (wy N t n)) (wy N t n).1 (wy N t n).2.1)) (VL (wI h2 (8 + (wy N t n).1) 4 (wv (Sr N (wy N t n) (10 * (wy N t n).1 + 4)) (wy N t n).2.1)) 42) (Mk N 5).1 := by rw [ev3, eT]; exact hL.2.1
    have so := s_X0_setOff (on := 0) (set := (1 : Int32) <<< (nI (wy N t n).1 &&& 31)) (s := s) (f3.g G) cq.1 p3 q3 cq.2.1.n c3 (by rw [SOff_rq rq3]; omega)
    rw [SOff_rq rq3] at so
    refine zcV_then so (fun h4 hh => ⟨(f3.tr (fX.s hh.1)).g G, f3.tr (fX.s hh.1), PW_of hh.1.1 p3, hh.1.rw p3 cq.1 q3, hh.2⟩)
  · have e : Hs N t n s = (wN (Sr N (wy N t n)) (wy N t n).1 (-(wy N t n).2.1), s) := by unfold Hs; rw [if_pos z0]
    rw [e]
    obtain ⟨p3, q3, f3, c3⟩ := put (-(wy N t n).2.1)
    exact ⟨f3, p3, q3, c3⟩

