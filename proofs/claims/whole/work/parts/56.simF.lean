/-! calls: source, lasts, ends, order, depends -/
theorem g_X10_depends {x1 : Int32} {x2 : Int32} {h : zHp} {Q : Int32 → zHp → Prop}  (G : zG h) (F : (¬ (0 ≤ x1 ∧ x1 ≤ (rI h 2 3) - 1) → (Q (-2) h)) ∧ ((0 ≤ x1 ∧ x1 ≤ (rI h 2 3) - 1) → ((¬ (0 ≤ x2 ∧ x2 ≤ (rI h 2 3) - 1) → (Q (-2) h)) ∧ ((0 ≤ x2 ∧ x2 ≤ (rI h 2 3) - 1) → ((¬ x1 = x2 → (vp_in x1 10 ∧ (zRef h 4 ((Int32.toNatClampNeg x1)) 2 ∧ (vp_in x2 10 ∧ (zRef h 4 ((Int32.toNatClampNeg x2)) 2 ∧ (zcI M_X1_layer [.ref (rG h 4 ((Int32.toNatClampNeg x1)))] h (fun vh1 h1 => zG h1 ∧ (zcI M_X1_layer [.ref (rG h 4 ((Int32.toNatClampNeg x2)))] h1 (fun vh2 h2 => zG h2 ∧ ((¬ vh1 = vh2 → (Q (-3) h2)) ∧ (vh1 = vh2 → (zcI M_X8_works [.ref 2, .ref (rG h 4 ((Int32.toNatClampNeg x1)))] h2 (fun vh3 h3 => zG h3 ∧ ((vh3 = 0 → (Q (-3) h3)) ∧ (¬ (vh3 = 0) → (zcI M_X8_works [.ref 2, .ref (rG h 4 ((Int32.toNatClampNeg x2)))] h3 (fun vh4 h4 => zG h4 ∧ ((¬ vh4 = 0 → (zcI M_X1_layer [.ref (rG h 4 ((Int32.toNatClampNeg x1)))] h4 (fun vh5 h5 => zG h5 ∧ (zcV M_X2_make [.ref 133, .ref 2, .int vh5] h5 (fun h6 => zG h6 ∧ (zcI M_X2_needs [.ref 133, .ref 2, .ref (rG h 4 ((Int32.toNatClampNeg x1))), .ref (rG h 4 ((Int32.toNatClampNeg x2)))] h6 (fun vh7 h7 => zG h7 ∧ ((vh7 = 0 → (Q 0 h7)) ∧ (¬ (vh7 = 0) → (Q 1 h7)))))))))) ∧ (vh4 = 0 → (Q (-3) h4)))))))))))))))))))) ∧ (x1 = x2 → (Q (-2) h))))))) : zcI M_X10_depends [.ref 0, .int x1, .int x2] h Q := by
  show zw zNT zNT M_X10_depends 0 [some (.ref 0), some (.int x1), some (.int x2), none, none] [] h _
  refine z_aload_n (pc := 0) dX10_depends_0 rfl rfl ?_
  refine q_getR (pc := 1) (i := 2) dX10_depends_1 lk_RX10_20 (lyc rfl) (G 0 1 2 rfl) ?_
  refine z_iload_n (pc := 4) dX10_depends_4 rfl rfl ?_
  refine q_invV (pc := 5) (As := [.int x1]) (st := []) dX10_depends_5 ok_X8_hasEffect ml_RX10_174 iv_X8_hasEffect pa_X8_hasEffect ⟨Nat.le_of_ble_eq_true rfl, Nat.le_of_ble_eq_true rfl⟩ (lyc rfl) (q_pI (s_X8_hasEffect G (Or.inl rfl)) rfl ?_)
  refine z_if_eq (pc := 8) (tgt := 27) dX10_depends_8 (by decide) (fun k18 => ?_) (fun k18 => ?_)
  · replace F := F.1 (zb0.mp k18)
    refine z_bipush (pc := 27) (v := -2) dX10_depends_27 (by decide) ?_
    exact q_retI (pc := 29) dX10_depends_29 rfl F
  · replace F := F.2 (zbn.mp k18)
    refine z_aload_n (pc := 11) dX10_depends_11 rfl rfl ?_
    refine q_getR (pc := 12) (i := 2) dX10_depends_12 lk_RX10_20 (lyc rfl) (G 0 1 2 rfl) ?_
    refine z_iload_n (pc := 15) dX10_depends_15 rfl rfl ?_
    refine q_invV (pc := 16) (As := [.int x2]) (st := []) dX10_depends_16 ok_X8_hasEffect ml_RX10_174 iv_X8_hasEffect pa_X8_hasEffect ⟨Nat.le_of_ble_eq_true rfl, Nat.le_of_ble_eq_true rfl⟩ (lyc rfl) (q_pI (s_X8_hasEffect G (Or.inl rfl)) rfl ?_)
    refine z_if_eq (pc := 19) (tgt := 27) dX10_depends_19 (by decide) (fun k17 => ?_) (fun k17 => ?_)
    · replace F := F.1 (zb0.mp k17)
      refine z_bipush (pc := 27) (v := -2) dX10_depends_27 (by decide) ?_
      exact q_retI (pc := 29) dX10_depends_29 rfl F
    · replace F := F.2 (zbn.mp k17)
      refine z_iload_n (pc := 22) dX10_depends_22 rfl rfl ?_
      refine z_iload_n (pc := 23) dX10_depends_23 rfl rfl ?_
      refine z_icmp_ne (pc := 24) (tgt := 30) dX10_depends_24 (by decide) (fun k16 => ?_) (fun k16 => ?_)
      · replace F := F.1 k16
        refine z_aload_n (pc := 30) dX10_depends_30 rfl rfl ?_
        refine q_getR (pc := 31) (i := 2) dX10_depends_31 lk_RX10_20 (lyc rfl) (G 0 1 2 rfl) ?_
        refine q_getR (pc := 34) (i := 4) dX10_depends_34 lk_RX10_164 (lyc rfl) (G 2 2 4 rfl) ?_
        refine z_iload_n (pc := 37) dX10_depends_37 rfl rfl ?_
        obtain ⟨k1, F⟩ := F
        obtain ⟨k2, F⟩ := F
        refine q_aald (pc := 38) (j := (Int32.toNatClampNeg x1)) (r := rG h 4 ((Int32.toNatClampNeg x1))) (t := 1) dX10_depends_38 (lyc rfl) (zvn (lnc rfl) k1) rfl k2.1 ?_
        refine z_astore_n (pc := 39) (ls' := [some (.ref 0), some (.int x1), some (.int x2), some (.ref (rG h 4 ((Int32.toNatClampNeg x1)))), none]) dX10_depends_39 rfl (by decide) rfl ?_
        refine z_aload_n (pc := 40) dX10_depends_40 rfl rfl ?_
        refine q_getR (pc := 41) (i := 2) dX10_depends_41 lk_RX10_20 (lyc rfl) (G 0 1 2 rfl) ?_
        refine q_getR (pc := 44) (i := 4) dX10_depends_44 lk_RX10_164 (lyc rfl) (G 2 2 4 rfl) ?_
        refine z_iload_n (pc := 47) dX10_depends_47 rfl rfl ?_
        obtain ⟨k3, F⟩ := F
        obtain ⟨k4, F⟩ := F
        refine q_aald (pc := 48) (j := (Int32.toNatClampNeg x2)) (r := rG h 4 ((Int32.toNatClampNeg x2))) (t := 1) dX10_depends_48 (lyc rfl) (zvn (lnc rfl) k3) rfl k4.1 ?_
        refine z_astore (pc := 49) (ls' := [some (.ref 0), some (.int x1), some (.int x2), some (.ref (rG h 4 ((Int32.toNatClampNeg x1)))), some (.ref (rG h 4 ((Int32.toNatClampNeg x2))))]) dX10_depends_49 (by decide) rfl ?_
        refine z_aload_n (pc := 51) dX10_depends_51 rfl rfl ?_
        refine q_invV (pc := 52) (As := []) (st := []) dX10_depends_52 ok_X1_layer ml_RX10_193 iv_X1_layer pa_X1_layer ⟨Nat.le_of_ble_eq_true rfl, Nat.le_of_ble_eq_true rfl⟩ k2.2 (q_kI F (fun vh1 h1 F => ?_))
        obtain ⟨G1, F⟩ := F
        refine z_aload (pc := 55) dX10_depends_55 rfl ?_
        refine q_invV (pc := 57) (As := []) (st := [.int vh1]) dX10_depends_57 ok_X1_layer ml_RX10_193 iv_X1_layer pa_X1_layer ⟨Nat.le_of_ble_eq_true rfl, Nat.le_of_ble_eq_true rfl⟩ k4.2 (q_kI F (fun vh2 h2 F => ?_))
        obtain ⟨G2, F⟩ := F
        refine z_icmp_ne (pc := 60) (tgt := 86) dX10_depends_60 (by decide) (fun k15 => ?_) (fun k15 => ?_)
        · replace F := F.1 k15
          refine z_bipush (pc := 86) (v := -3) dX10_depends_86 (by decide) ?_
          exact q_retI (pc := 88) dX10_depends_88 rfl F
        · replace F := F.2 k15
          refine z_aload_n (pc := 63) dX10_depends_63 rfl rfl ?_
          refine q_getR (pc := 64) (i := 2) dX10_depends_64 lk_RX10_20 (lyc rfl) (G2 0 1 2 rfl) ?_
          refine z_aload_n (pc := 67) dX10_depends_67 rfl rfl ?_
          refine q_invV (pc := 68) (As := [.ref (rG h 4 ((Int32.toNatClampNeg x1)))]) (st := []) dX10_depends_68 ok_X8_works ml_RX10_197 iv_X8_works pa_X8_works ⟨Nat.le_of_ble_eq_true rfl, Nat.le_of_ble_eq_true rfl⟩ (lyc rfl) (q_kI F (fun vh3 h3 F => ?_))
          obtain ⟨G3, F⟩ := F
          refine z_if_eq (pc := 71) (tgt := 86) dX10_depends_71 (by decide) (fun k14 => ?_) (fun k14 => ?_)
          · replace F := F.1 k14
            refine z_bipush (pc := 86) (v := -3) dX10_depends_86 (by decide) ?_
            exact q_retI (pc := 88) dX10_depends_88 rfl F
          · replace F := F.2 k14
            refine z_aload_n (pc := 74) dX10_depends_74 rfl rfl ?_
            refine q_getR (pc := 75) (i := 2) dX10_depends_75 lk_RX10_20 (lyc rfl) (G3 0 1 2 rfl) ?_
            refine z_aload (pc := 78) dX10_depends_78 rfl ?_
            refine q_invV (pc := 80) (As := [.ref (rG h 4 ((Int32.toNatClampNeg x2)))]) (st := []) dX10_depends_80 ok_X8_works ml_RX10_197 iv_X8_works pa_X8_works ⟨Nat.le_of_ble_eq_true rfl, Nat.le_of_ble_eq_true rfl⟩ (lyc rfl) (q_kI F (fun vh4 h4 F => ?_))
            obtain ⟨G4, F⟩ := F
            refine z_if_ne (pc := 83) (tgt := 89) dX10_depends_83 (by decide) (fun k13 => ?_) (fun k13 => ?_)
            · replace F := F.1 k13
              refine z_aload_n (pc := 89) dX10_depends_89 rfl rfl ?_
              refine q_getR (pc := 90) (i := 133) dX10_depends_90 lk_RX10_40 (lyc rfl) (G4 0 6 133 rfl) ?_
              refine z_aload_n (pc := 93) dX10_depends_93 rfl rfl ?_
              refine q_getR (pc := 94) (i := 2) dX10_depends_94 lk_RX10_20 (lyc rfl) (G4 0 1 2 rfl) ?_
              refine z_aload_n (pc := 97) dX10_depends_97 rfl rfl ?_
              refine q_invV (pc := 98) (As := []) (st := [.ref 2, .ref 133]) dX10_depends_98 ok_X1_layer ml_RX10_193 iv_X1_layer pa_X1_layer ⟨Nat.le_of_ble_eq_true rfl, Nat.le_of_ble_eq_true rfl⟩ k2.2 (q_kI F (fun vh5 h5 F => ?_))
              obtain ⟨G5, F⟩ := F
              refine q_invV (pc := 101) (As := [.ref 2, .int vh5]) (st := []) dX10_depends_101 ok_X2_make ml_RX10_78 iv_X2_make pa_X2_make ⟨Nat.le_of_ble_eq_true rfl, Nat.le_of_ble_eq_true rfl⟩ (lyc rfl) (q_kV F (fun h6 F => ?_))
              obtain ⟨G6, F⟩ := F
              refine z_aload_n (pc := 104) dX10_depends_104 rfl rfl ?_
              refine q_getR (pc := 105) (i := 133) dX10_depends_105 lk_RX10_40 (lyc rfl) (G6 0 6 133 rfl) ?_
              refine z_aload_n (pc := 108) dX10_depends_108 rfl rfl ?_
              refine q_getR (pc := 109) (i := 2) dX10_depends_109 lk_RX10_20 (lyc rfl) (G6 0 1 2 rfl) ?_
              refine z_aload_n (pc := 112) dX10_depends_112 rfl rfl ?_
              refine z_aload (pc := 113) dX10_depends_113 rfl ?_
              refine q_invV (pc := 115) (As := [.ref 2, .ref (rG h 4 ((Int32.toNatClampNeg x1))), .ref (rG h 4 ((Int32.toNatClampNeg x2)))]) (st := []) dX10_depends_115 ok_X2_needs ml_RX10_201 iv_X2_needs pa_X2_needs ⟨Nat.le_of_ble_eq_true rfl, Nat.le_of_ble_eq_true rfl⟩ (lyc rfl) (q_kI F (fun vh7 h7 F => ?_))
              obtain ⟨G7, F⟩ := F
              refine z_if_eq (pc := 118) (tgt := 125) dX10_depends_118 (by decide) (fun k12 => ?_) (fun k12 => ?_)
              · replace F := F.1 k12
                refine z_iconst (pc := 125) (v := 0) dX10_depends_125 (by decide) ?_
                exact q_retI (pc := 126) dX10_depends_126 rfl F
              · replace F := F.2 k12
                refine z_iconst (pc := 121) (v := 1) dX10_depends_121 (by decide) ?_
                refine z_goto (pc := 122) (tgt := 126) dX10_depends_122 (by decide) ?_
                exact q_retI (pc := 126) dX10_depends_126 rfl F
            · replace F := F.2 k13
              refine z_bipush (pc := 86) (v := -3) dX10_depends_86 (by decide) ?_
              exact q_retI (pc := 88) dX10_depends_88 rfl F
      · replace F := F.2 k16
        refine z_bipush (pc := 27) (v := -2) dX10_depends_27 (by decide) ?_
        exact q_retI (pc := 29) dX10_depends_29 rfl F
theorem g_X11_depends {x1 : Int32} {x2 : Int32} {h : zHp} {Q : Int32 → zHp → Prop}  (G : zG h) (F : (¬ (0 ≤ x1 ∧ x1 ≤ rI h 165 239 - 1) → (Q (-2) h)) ∧ ((0 ≤ x1 ∧ x1 ≤ rI h 165 239 - 1) → ((¬ (0 ≤ x2 ∧ x2 ≤ rI h 165 239 - 1) → (Q (-2) h)) ∧ ((0 ≤ x2 ∧ x2 ≤ rI h 165 239 - 1) → ((¬ x1 = x2 → (vp_in ((80 + (7 * x1)) + 1) 246 ∧ (vp_in ((80 + (7 * x2)) + 1) 246 ∧ ((¬ layM (rI h 165 ((Int32.toNatClampNeg (((80 + (7 * x1)) + 1))))) = layM (rI h 165 ((Int32.toNatClampNeg (((80 + (7 * x2)) + 1))))) → (Q (-3) h)) ∧ (layM (rI h 165 ((Int32.toNatClampNeg (((80 + (7 * x1)) + 1))))) = layM (rI h 165 ((Int32.toNatClampNeg (((80 + (7 * x2)) + 1))))) → (zcI M_X11_doesSomething [.ref 164, .int x1] h (fun vh1 h1 => zG h1 ∧ ((vh1 = 0 → (Q (-3) h1)) ∧ (¬ (vh1 = 0) → (zcI M_X11_doesSomething [.ref 164, .int x2] h1 (fun vh2 h2 => zG h2 ∧ ((¬ vh2 = 0 → (zcV M_X11_makes [.ref 164, .int (layM (rI h 165 ((Int32.toNatClampNeg (((80 + (7 * x1)) + 1))))))] h2 (fun h3 => zG h3 ∧ (zcI M_X11_doesDepend [.ref 164, .int x1, .int x2] h3 (fun vh4 h4 => zG h4 ∧ ((vh4 = 0 → (Q 0 h4)) ∧ (¬ (vh4 = 0) → (Q 1 h4)))))))) ∧ (vh2 = 0 → (Q (-3) h2)))))))))))))) ∧ (x1 = x2 → (Q (-2) h))))))) : zcI M_X11_depends [.ref 164, .int x1, .int x2] h Q := by
  show zw zNT zNT M_X11_depends 0 [some (.ref 164), some (.int x1), some (.int x2), none] [] h _
  refine z_aload_n (pc := 0) dX11_depends_0 rfl rfl ?_
  refine z_iload_n (pc := 1) dX11_depends_1 rfl rfl ?_
  refine q_invV (pc := 2) (As := [.int x1]) (st := []) dX11_depends_2 ok_X11_isEffect ml_RX11_183 iv_X11_isEffect pa_X11_isEffect ⟨Nat.le_of_ble_eq_true rfl, Nat.le_of_ble_eq_true rfl⟩ (lyc rfl) (q_pI (s_X11_isEffect G) rfl ?_)
  refine z_if_eq (pc := 5) (tgt := 21) dX11_depends_5 (by decide) (fun k13 => ?_) (fun k13 => ?_)
  · replace F := F.1 (zb0.mp k13)
    refine z_bipush (pc := 21) (v := -2) dX11_depends_21 (by decide) ?_
    exact q_retI (pc := 23) dX11_depends_23 rfl F
  · replace F := F.2 (zbn.mp k13)
    refine z_aload_n (pc := 8) dX11_depends_8 rfl rfl ?_
    refine z_iload_n (pc := 9) dX11_depends_9 rfl rfl ?_
    refine q_invV (pc := 10) (As := [.int x2]) (st := []) dX11_depends_10 ok_X11_isEffect ml_RX11_183 iv_X11_isEffect pa_X11_isEffect ⟨Nat.le_of_ble_eq_true rfl, Nat.le_of_ble_eq_true rfl⟩ (lyc rfl) (q_pI (s_X11_isEffect G) rfl ?_)
    refine z_if_eq (pc := 13) (tgt := 21) dX11_depends_13 (by decide) (fun k12 => ?_) (fun k12 => ?_)
    · replace F := F.1 (zb0.mp k12)
      refine z_bipush (pc := 21) (v := -2) dX11_depends_21 (by decide) ?_
      exact q_retI (pc := 23) dX11_depends_23 rfl F
    · replace F := F.2 (zbn.mp k12)
      refine z_iload_n (pc := 16) dX11_depends_16 rfl rfl ?_
      refine z_iload_n (pc := 17) dX11_depends_17 rfl rfl ?_
      refine z_icmp_ne (pc := 18) (tgt := 24) dX11_depends_18 (by decide) (fun k11 => ?_) (fun k11 => ?_)
      · replace F := F.1 k11
        refine z_aload_n (pc := 24) dX11_depends_24 rfl rfl ?_
        refine z_iload_n (pc := 25) dX11_depends_25 rfl rfl ?_
        refine z_iconst (pc := 26) (v := 1) dX11_depends_26 (by decide) ?_
        obtain ⟨k1, F⟩ := F
        refine q_invV (pc := 27) (As := [.int x1, .int 1]) (st := []) dX11_depends_27 ok_X11_effectIs ml_RX11_103 iv_X11_effectIs pa_X11_effectIs ⟨Nat.le_of_ble_eq_true rfl, Nat.le_of_ble_eq_true rfl⟩ (lyc rfl) (q_pI (s_X11_effectIs G k1) rfl ?_)
        refine q_invS (pc := 30) (As := [.int (rI h 165 ((Int32.toNatClampNeg (((80 + (7 * x1)) + 1)))))]) (st := []) dX11_depends_30 ok_X11_layer ml_RX11_125 st_X11_layer pa_X11_layer ⟨Nat.le_of_ble_eq_true rfl, Nat.le_of_ble_eq_true rfl⟩ (q_pI (s_X11_layer G) rfl ?_)
        refine z_istore_n (pc := 33) (ls' := [some (.ref 164), some (.int x1), some (.int x2), some (.int (layM (rI h 165 ((Int32.toNatClampNeg (((80 + (7 * x1)) + 1)))))))]) dX11_depends_33 rfl (by decide) rfl ?_
        refine z_iload_n (pc := 34) dX11_depends_34 rfl rfl ?_
        refine z_aload_n (pc := 35) dX11_depends_35 rfl rfl ?_
        refine z_iload_n (pc := 36) dX11_depends_36 rfl rfl ?_
        refine z_iconst (pc := 37) (v := 1) dX11_depends_37 (by decide) ?_
        obtain ⟨k2, F⟩ := F
        refine q_invV (pc := 38) (As := [.int x2, .int 1]) (st := [.int (layM (rI h 165 ((Int32.toNatClampNeg (((80 + (7 * x1)) + 1))))))]) dX11_depends_38 ok_X11_effectIs ml_RX11_103 iv_X11_effectIs pa_X11_effectIs ⟨Nat.le_of_ble_eq_true rfl, Nat.le_of_ble_eq_true rfl⟩ (lyc rfl) (q_pI (s_X11_effectIs G k2) rfl ?_)
        refine q_invS (pc := 41) (As := [.int (rI h 165 ((Int32.toNatClampNeg (((80 + (7 * x2)) + 1)))))]) (st := [.int (layM (rI h 165 ((Int32.toNatClampNeg (((80 + (7 * x1)) + 1))))))]) dX11_depends_41 ok_X11_layer ml_RX11_125 st_X11_layer pa_X11_layer ⟨Nat.le_of_ble_eq_true rfl, Nat.le_of_ble_eq_true rfl⟩ (q_pI (s_X11_layer G) rfl ?_)
        refine z_icmp_ne (pc := 44) (tgt := 63) dX11_depends_44 (by decide) (fun k10 => ?_) (fun k10 => ?_)
        · replace F := F.1 k10
          refine z_bipush (pc := 63) (v := -3) dX11_depends_63 (by decide) ?_
          exact q_retI (pc := 65) dX11_depends_65 rfl F
        · replace F := F.2 k10
          refine z_aload_n (pc := 47) dX11_depends_47 rfl rfl ?_
          refine z_iload_n (pc := 48) dX11_depends_48 rfl rfl ?_
          refine q_invV (pc := 49) (As := [.int x1]) (st := []) dX11_depends_49 ok_X11_doesSomething ml_RX11_129 iv_X11_doesSomething pa_X11_doesSomething ⟨Nat.le_of_ble_eq_true rfl, Nat.le_of_ble_eq_true rfl⟩ (lyc rfl) (q_kI F (fun vh1 h1 F => ?_))
          obtain ⟨G1, F⟩ := F
          refine z_if_eq (pc := 52) (tgt := 63) dX11_depends_52 (by decide) (fun k9 => ?_) (fun k9 => ?_)
          · replace F := F.1 k9
            refine z_bipush (pc := 63) (v := -3) dX11_depends_63 (by decide) ?_
            exact q_retI (pc := 65) dX11_depends_65 rfl F
          · replace F := F.2 k9
            refine z_aload_n (pc := 55) dX11_depends_55 rfl rfl ?_
            refine z_iload_n (pc := 56) dX11_depends_56 rfl rfl ?_
            refine q_invV (pc := 57) (As := [.int x2]) (st := []) dX11_depends_57 ok_X11_doesSomething ml_RX11_129 iv_X11_doesSomething pa_X11_doesSomething ⟨Nat.le_of_ble_eq_true rfl, Nat.le_of_ble_eq_true rfl⟩ (lyc rfl) (q_kI F (fun vh2 h2 F => ?_))
            obtain ⟨G2, F⟩ := F
            refine z_if_ne (pc := 60) (tgt := 66) dX11_depends_60 (by decide) (fun k8 => ?_) (fun k8 => ?_)
            · replace F := F.1 k8
              refine z_aload_n (pc := 66) dX11_depends_66 rfl rfl ?_
              refine z_iload_n (pc := 67) dX11_depends_67 rfl rfl ?_
              refine q_invV (pc := 68) (As := [.int (layM (rI h 165 ((Int32.toNatClampNeg (((80 + (7 * x1)) + 1))))))]) (st := []) dX11_depends_68 ok_X11_makes ml_RX11_145 iv_X11_makes pa_X11_makes ⟨Nat.le_of_ble_eq_true rfl, Nat.le_of_ble_eq_true rfl⟩ (lyc rfl) (q_kV F (fun h3 F => ?_))
              obtain ⟨G3, F⟩ := F
              refine z_aload_n (pc := 71) dX11_depends_71 rfl rfl ?_
              refine z_iload_n (pc := 72) dX11_depends_72 rfl rfl ?_
              refine z_iload_n (pc := 73) dX11_depends_73 rfl rfl ?_
              refine q_invV (pc := 74) (As := [.int x1, .int x2]) (st := []) dX11_depends_74 ok_X11_doesDepend ml_RX11_118 iv_X11_doesDepend pa_X11_doesDepend ⟨Nat.le_of_ble_eq_true rfl, Nat.le_of_ble_eq_true rfl⟩ (lyc rfl) (q_kI F (fun vh4 h4 F => ?_))
              obtain ⟨G4, F⟩ := F
              refine z_if_eq (pc := 77) (tgt := 84) dX11_depends_77 (by decide) (fun k7 => ?_) (fun k7 => ?_)
              · replace F := F.1 k7
                refine z_iconst (pc := 84) (v := 0) dX11_depends_84 (by decide) ?_
                exact q_retI (pc := 85) dX11_depends_85 rfl F
              · replace F := F.2 k7
                refine z_iconst (pc := 80) (v := 1) dX11_depends_80 (by decide) ?_
                refine z_goto (pc := 81) (tgt := 85) dX11_depends_81 (by decide) ?_
                exact q_retI (pc := 85) dX11_depends_85 rfl F
            · replace F := F.2 k8
              refine z_bipush (pc := 63) (v := -3) dX11_depends_63 (by decide) ?_
              exact q_retI (pc := 65) dX11_depends_65 rfl F
      · replace F := F.2 k11
        refine z_bipush (pc := 21) (v := -2) dX11_depends_21 (by decide) ?_
        exact q_retI (pc := 23) dX11_depends_23 rfl F
theorem RF_hi {N : zN} (hC : CN N) {i : Nat} (hi : 80 ≤ i) : RF N i = N i :=
  (Ro_ind (pl := False) (P := fun X => CN X ∧ X i = N i) (fun _ h => h.1) (fun _ h => ⟨(Bu_CN h.1).1, (Bu_hi h.1 hi).trans h.2⟩) 9 N _ ⟨hC, rfl⟩).2
theorem updE_CQ {N : zN} {e k : Nat} {v : Int32} (hC : CN N) (hQ : WQ N) (he : e < cE N) (hk : k < 7) (hq : QE (upd N (80 + 7 * e + k) v) e) : CN (upd N (80 + 7 * e + k) v) ∧ WQ (upd N (80 + 7 * e + k) v) := by
  have h8 := hC.1.2
  have h10 := hC.2.1.2
  refine ⟨CN_u hC (by omega), fun u hu => ?_, fun u hu => ?_, fun u hu => ?_, fun u hu => ?_⟩
  · rw [cT_u (by omega)] at hu
    exact QT_eq (hQ.1 u hu) (fun q hq => pk_un (by omega))
  · rw [cE_u (by omega)] at hu
    by_cases z : u = e
    · rw [z]; exact hq
    · exact QE_eq (hQ.2.1 u hu) (fun q hq => pk_un (by omega))
  · rw [cR_u (by omega)] at hu
    exact QR_eq (hQ.2.2.1 u hu) (fun q hq => pk_un (by omega))
  · rw [cV_u (by omega)] at hu
    exact QV_eq (hQ.2.2.2 u hu) (fun q hq => pk_un (by omega))
theorem src_CQ {N : zN} {e : Nat} {v : Int32} (hC : CN N) (hQ : WQ N) (he : e < cE N) : CN (upd N (80 + 7 * e) v) ∧ WQ (upd N (80 + 7 * e) v) := by
  have q := hQ.2.1 e he
  have := updE_CQ (k := 0) (v := v) hC hQ he (by omega) (by
    unfold QE
    rw [pk_un (by omega), pk_un (by omega), pk_un (by omega), pk_un (by omega), pk_un (by omega), pk_un (by omega)]
    exact q)
  exact this
noncomputable def o_source (N : zN) (e t : Int32) : Int32 × zN := @ite _ ((0 ≤ e ∧ e ≤ N 239 - 1) ∧ (t = -1 ∨ (0 ≤ t ∧ t ≤ N 238 - 1))) (Classical.propDecidable _) (N (80 + 7 * e.toNatClampNeg), RF (upd N (80 + 7 * e.toNatClampNeg) t)) (-2, N)
theorem sim_source {e t : Int32} : Sim M_X10_source M_X11_source [.int e, .int t] := by
  refine simW (ans := fun N => (o_source N e t).1) (F := fun N => (o_source N e t).2) (fun h N G q I => ?_) (fun h N G q eN top => ?_) (fun N q => ?_)
  · obtain ⟨hC, hQ, hS⟩ := q
    obtain ⟨hP, hR, hL, ht⟩ := I
    have h10 := hC.2.1.2
    have bad : ¬ ((0 ≤ e ∧ e ≤ N 239 - 1) ∧ (t = -1 ∨ (0 ≤ t ∧ t ≤ N 238 - 1))) → (-2 = (o_source N e t).1 ∧ fZ h h ∧ IC h (o_source N e t).2) := fun z => by
      unfold o_source
      rw [if_neg z]
      exact ⟨rfl, fZ.rf, hP, hR, hL, ht⟩
    have good : (0 ≤ e ∧ e ≤ N 239 - 1) → (t = -1 ∨ (0 ≤ t ∧ t ≤ N 238 - 1)) → zlI M_X10_source 30 [some (.ref 0), some (.int e), some (.int t), none] [] h (fun v h1 => v = (o_source N e t).1 ∧ fZ h h1 ∧ IC h1 (o_source N e t).2) := by
      intro z y
      unfold o_source
      rw [if_pos ⟨z, y⟩]
      rw [hC.2.1.1] at z
      obtain ⟨j, hj, rfl⟩ := zsm (by omega) z
      rw [nI_clamp (by omega)]
      have lc := hP.e (Or.inl rfl) (show j < 10 by omega)
      have pn := hP.1.1 j (by omega)
      change rR h 4 j = some (rG h 4 j) ∧ 2 + 14 ≤ rG h 4 j ∧ rG h 4 j < 2 + 14 + 10 at pn
      have w0 : rI h (rG h 4 j) 0 = N (80 + 7 * j) := hR.2.2.1 j 0 hj (by omega)
      refine g_X10_source_30 G ?_
      rw [nI_clamp (by omega), w0]
      obtain ⟨c1, c2⟩ := src_CQ (v := t) hC hQ hj
      have f1 : fW h (wI h (rG h 4 j) 0 t) := fW.w (by omega)
      have t1 : ∃ n, rI (wI h (rG h 4 j) 0 t) 1 5 = nI n := by
        obtain ⟨n, hn⟩ := ht
        exact ⟨n, by rw [rI_c (by omega)]; exact hn⟩
      exact ⟨vp_in_nI (by omega) (by omega), lc, zcV_then (s_settleF (zG_of rfl G) c1 c2 (PW_of rfl hP) (RW_uE (k := 0) hP hC hR hj (by omega)) t1) (fun h2 hh => ⟨hh.1.g (zG_of rfl G), rfl, f1.z.tr hh.1.z, hh.2⟩)⟩
    refine g_X10_source G ?_
    rw [hR.1.1, hR.1.2.1]
    exact ⟨fun z => bad (fun y => z y.1), fun z => ⟨fun y => good z (Or.inl y), fun y => ⟨fun x => good z (Or.inr x), fun x => bad (fun w => w.2.elim y x)⟩⟩⟩
  · obtain ⟨hC, hQ, hS⟩ := q
    have h10 := hC.2.1.2
    have bad : ¬ ((0 ≤ e ∧ e ≤ N 239 - 1) ∧ (t = -1 ∨ (0 ≤ t ∧ t ≤ N 238 - 1))) → (-2 = (o_source N e t).1 ∧ fV h h ∧ h.1 165 = (o_source N e t).2 ∧ ∃ n, rI h 164 10 = nI n) := fun z => by
      unfold o_source
      rw [if_neg z]
      exact ⟨rfl, fV.rf, eN, top⟩
    have good : (0 ≤ e ∧ e ≤ N 239 - 1) → (t = -1 ∨ (0 ≤ t ∧ t ≤ N 238 - 1)) → zlI M_X11_source 24 [some (.ref 164), some (.int e), some (.int t), none] [] h (fun v h1 => v = (o_source N e t).1 ∧ fV h h1 ∧ h1.1 165 = (o_source N e t).2 ∧ ∃ n, rI h1 164 10 = nI n) := by
      intro z y
      unfold o_source
      rw [if_pos ⟨z, y⟩]
      rw [hC.2.1.1] at z
      obtain ⟨j, hj, rfl⟩ := zsm (by omega) z
      rw [nI_clamp (by omega)]
      obtain ⟨i0, -⟩ := ixE' (e := j) (by omega)
      have i1 := ixE0 (e := j) (by omega)
      refine g_X11_source_24 G ?_
      rw [i0.2, i1.2, rdN eN]
      obtain ⟨c1, c2⟩ := src_CQ (v := t) hC hQ hj
      have t1 : ∃ m, rI (wI h 165 (80 + 7 * j) t) 164 10 = nI m := by
        obtain ⟨m, hm⟩ := top
        exact ⟨m, by rw [rI_c (by decide)]; exact hm⟩
      exact ⟨i0.1, i1.1, zcI_then (s_X11_changed (zG_of rfl G) c1 (wI_s1 eN) t1) (fun v1 h2 hh => ⟨zG_of hh.2.1.1 (zG_of rfl G), hh.1, fV.w.tr hh.2.1, hh.2.2⟩)⟩
    refine g_X11_source G ?_
    rw [rdN eN 239, rdN eN 238]
    exact ⟨fun z => bad (fun y => z y.1), fun z => ⟨fun y => good z (Or.inl y), fun y => ⟨fun x => good z (Or.inr x), fun x => bad (fun w => w.2.elim y x)⟩⟩⟩
  · show IQ (o_source N e t).2
    unfold o_source
    by_cases ok : (0 ≤ e ∧ e ≤ N 239 - 1) ∧ (t = -1 ∨ (0 ≤ t ∧ t ≤ N 238 - 1))
    · rw [if_pos ok]
      obtain ⟨z, -⟩ := ok
      have h10 := q.1.2.1.2
      rw [q.1.2.1.1] at z
      obtain ⟨j, hj, rfl⟩ := zsm (by omega) z
      rw [nI_clamp (by omega)]
      obtain ⟨c1, c2⟩ := src_CQ (v := t) q.1 q.2.1 hj
      exact RF_IQ c1 c2
    · rw [if_neg ok]; exact q
noncomputable def o_lasts (N : zN) (e n : Int32) : Int32 × zN := @ite _ ((0 ≤ e ∧ e ≤ N 239 - 1) ∧ ((0 : Int32) ≤ n ∧ n ≤ 9)) (Classical.propDecidable _) (N (80 + 7 * e.toNatClampNeg + 6), upd N (80 + 7 * e.toNatClampNeg + 6) n) (-2, N)
theorem las_CQ {N : zN} {e : Nat} {v : Int32} (q : IQ N) (he : e < cE N) (hv : iv 0 9 v) : IQ (upd N (80 + 7 * e + 6) v) ∧ Sm N (upd N (80 + 7 * e + 6) v) := by
  have qe := q.2.1.2.1 e he
  have h10 := q.1.2.1.2
  obtain ⟨a, b⟩ := updE_CQ (k := 6) (v := v) q.1 q.2.1 he (by omega) (by
    unfold QE
    rw [pk_un (by omega), pk_un (by omega), pk_un (by omega), pk_un (by omega), pk_un (by omega), pk_us]
    exact ⟨qe.1, qe.2.1, qe.2.2.1, qe.2.2.2.1, qe.2.2.2.2.1, hv⟩)
  have s : Sm N (upd N (80 + 7 * e + 6) v) := ⟨fun i hi => pk_un (by omega), pk_un (by omega), pk_un (by omega), fun e' k h1 h2 => pk_un (by omega)⟩
  exact ⟨⟨a, b, St_Sm q.1 s q.2.2⟩, s⟩
theorem sim_lasts {e n : Int32} : Sim M_X10_lasts M_X11_lasts [.int e, .int n] := by
  refine simW (ans := fun N => (o_lasts N e n).1) (F := fun N => (o_lasts N e n).2) (fun h N G q I => ?_) (fun h N G q eN top => ?_) (fun N q => ?_)
  · have q0 := q
    obtain ⟨hC, hQ, hS⟩ := q
    obtain ⟨hP, hR, hL, ht⟩ := I
    have h10 := hC.2.1.2
    have bad : ¬ ((0 ≤ e ∧ e ≤ N 239 - 1) ∧ ((0 : Int32) ≤ n ∧ n ≤ 9)) → (-2 = (o_lasts N e n).1 ∧ fZ h h ∧ IC h (o_lasts N e n).2) := fun z => by
      unfold o_lasts
      rw [if_neg z]
      exact ⟨rfl, fZ.rf, hP, hR, hL, ht⟩
    refine g_X10_lasts G ?_
    rw [hR.1.2.1]
    refine ⟨fun z => bad (fun y => z y.1), fun z => ⟨fun y => ?_, fun y => bad (fun x => y x.2)⟩⟩
    unfold o_lasts
    rw [if_pos ⟨z, y⟩]
    rw [hC.2.1.1] at z
    obtain ⟨j, hj, rfl⟩ := zsm (by omega) z
    rw [nI_clamp (by omega)]
    have lc := hP.e (Or.inl rfl) (show j < 10 by omega)
    have pn := hP.1.1 j (by omega)
    change rR h 4 j = some (rG h 4 j) ∧ 2 + 14 ≤ rG h 4 j ∧ rG h 4 j < 2 + 14 + 10 at pn
    have w6 : rI h (rG h 4 j) 6 = N (80 + 7 * j + 6) := hR.2.2.1 j 6 hj (by omega)
    rw [w6]
    obtain ⟨c1, c2⟩ := las_CQ (v := n) q0 hj (iv_of y rfl rfl)
    have f1 : fW h (wI h (rG h 4 j) 6 n) := fW.w (by omega)
    refine ⟨vp_in_nI (by omega) (by omega), lc, rfl, f1.z, PW_of rfl hP, RW_uE (k := 6) hP hC hR hj (by omega), ?_, ?_⟩
    · refine Lm_Sm hC c2 ⟨by rw [rI_c (by omega)]; exact hL.1, ?_, fun i hi => by rw [rI_c (by omega)]; exact hL.2.2 i hi⟩
      rw [VL_of (h := h) (fun a h1 h2 => wI_ne (by omega))]
      exact hL.2.1
    · obtain ⟨m, hm⟩ := ht
      exact ⟨m, by rw [rI_c (by omega)]; exact hm⟩
  · have q0 := q
    obtain ⟨hC, hQ, hS⟩ := q
    have h10 := hC.2.1.2
    have bad : ¬ ((0 ≤ e ∧ e ≤ N 239 - 1) ∧ ((0 : Int32) ≤ n ∧ n ≤ 9)) → (-2 = (o_lasts N e n).1 ∧ fV h h ∧ h.1 165 = (o_lasts N e n).2 ∧ ∃ m, rI h 164 10 = nI m) := fun z => by
      unfold o_lasts
      rw [if_neg z]
      exact ⟨rfl, fV.rf, eN, top⟩
    refine g_X11_lasts G ?_
    rw [rdN eN 239]
    refine ⟨fun z => bad (fun y => z y.1), fun z => ⟨fun y => ?_, fun y => bad (fun x => y x.2)⟩⟩
    unfold o_lasts
    rw [if_pos ⟨z, y⟩]
    rw [hC.2.1.1] at z
    obtain ⟨j, hj, rfl⟩ := zsm (by omega) z
    rw [nI_clamp (by omega)]
    obtain ⟨-, -, -, -, -, -, i6⟩ := ixE' (e := j) (by omega)
    obtain ⟨c1, c2⟩ := las_CQ (v := n) q0 hj (iv_of y rfl rfl)
    rw [i6.2, rdN eN]
    have t1 : ∃ m, rI (wI h 165 (80 + 7 * j + 6) n) 164 10 = nI m := by
      obtain ⟨m, hm⟩ := top
      exact ⟨m, by rw [rI_c (by decide)]; exact hm⟩
    exact ⟨i6.1, i6.1, zcI_then (s_X11_changed (zG_of rfl G) c1.1 (wI_s1 eN) t1) (fun v1 h2 hh => ⟨zG_of hh.2.1.1 (zG_of rfl G), hh.1, fV.w.tr hh.2.1, by rw [hh.2.2.1, RF_St c1.2.2], hh.2.2.2⟩)⟩
  · show IQ (o_lasts N e n).2
    unfold o_lasts
    by_cases ok : (0 ≤ e ∧ e ≤ N 239 - 1) ∧ ((0 : Int32) ≤ n ∧ n ≤ 9)
    · rw [if_pos ok]
      obtain ⟨z, y⟩ := ok
      have h10 := q.1.2.1.2
      rw [q.1.2.1.1] at z
      obtain ⟨j, hj, rfl⟩ := zsm (by omega) z
      rw [nI_clamp (by omega)]
      exact (las_CQ q hj (iv_of y rfl rfl)).1
    · rw [if_neg ok]; exact q
noncomputable def o_ends (N : zN) (e : Int32) : Int32 × zN := @ite _ (0 ≤ e ∧ e ≤ N 239 - 1) (Classical.propDecidable _) (nI (cE N - 1), RF (Go 80 7 239 e.toNatClampNeg N)) (-2, N)
theorem sim_ends {e : Int32} : Sim M_X10_ends M_X11_ends [.int e] := by
  refine simW (ans := fun N => (o_ends N e).1) (F := fun N => (o_ends N e).2) (fun h N G q I => ?_) (fun h N G q eN top => ?_) (fun N q => ?_)
  · obtain ⟨hC, hQ, hS⟩ := q
    obtain ⟨hP, hR, hL, ht⟩ := I
    have h10 := hC.2.1.2
    refine g_X10_ends G ?_
    rw [hR.1.2.1]
    refine ⟨fun z => ?_, fun z => ?_⟩
    · unfold o_ends
      rw [if_pos z]
      rw [hC.2.1.1] at z
      obtain ⟨j, hj, rfl⟩ := zsm (by omega) z
      rw [nI_clamp (by omega)]
      obtain ⟨w1, w2⟩ := drh_WE (Or.inl rfl) hC hP hR hj
      have f1 : fW h (drh h 2 3 (2 + 2) j (cE N)) := fW.d (Or.inl rfl)
      have c1 := (GoE_C hC hj).1
      have c2 := GoE_Q hC hQ hj
      refine zcV_use (s_X8_dropEffect G (Or.inl rfl) hC hP hR hj) ⟨f1.g G, ?_⟩
      have t1 : ∃ n, rI (drh h 2 3 (2 + 2) j (cE N)) 1 5 = nI n := by
        obtain ⟨n, hn⟩ := ht
        exact ⟨n, by rw [drh_I (by omega)]; exact hn⟩
      refine zcV_then (s_settleF (f1.g G) c1 c2 w1 w2 t1) (fun h2 hh => ⟨hh.1.g (f1.g G), ?_, f1.z.tr hh.1.z, hh.2⟩)
      rw [hh.2.2.1.1.2.1, RF_hi c1 (by decide), (GoE_n hC hj).1]
    · unfold o_ends
      rw [if_neg z]
      exact ⟨rfl, fZ.rf, hP, hR, hL, ht⟩
  · obtain ⟨hC, hQ, hS⟩ := q
    have h10 := hC.2.1.2
    refine g_X11_ends G ?_
    rw [rdN eN 239]
    refine ⟨fun z => ?_, fun z => ?_⟩
    · unfold o_ends
      rw [if_pos z]
      rw [hC.2.1.1] at z
      obtain ⟨j, hj, rfl⟩ := zsm (by omega) z
      rw [nI_clamp (by omega)]
      have c1 := (GoE_C hC hj).1
      have go := s_X11_goes (b := 80) (w := 7) (m := 239) (k := j) (n := cE N) G eN hC.2.1.1 hj (by omega) (by decide) (by decide) (by omega) (by decide)
      refine zcV_use go ⟨zG_of rfl G, ?_⟩
      rw [rI_As, (GoE_n hC hj).1]
      have t1 : ∃ m, rI (wA h 165 (Go 80 7 239 j N)) 164 10 = nI m := by
        obtain ⟨m, hm⟩ := top
        exact ⟨m, by rw [rI_An (by decide)]; exact hm⟩
      exact zcI_then (s_X11_changed (zG_of rfl G) c1 wA_s t1) (fun v1 h2 hh => ⟨zG_of hh.2.1.1 (zG_of rfl G), hh.1, fV.a.tr hh.2.1, hh.2.2⟩)
    · unfold o_ends
      rw [if_neg z]
      exact ⟨rfl, fV.rf, eN, top⟩
  · show IQ (o_ends N e).2
    unfold o_ends
    by_cases z : 0 ≤ e ∧ e ≤ N 239 - 1
    · rw [if_pos z]
      have h10 := q.1.2.1.2
      rw [q.1.2.1.1] at z
      obtain ⟨j, hj, rfl⟩ := zsm (by omega) z
      rw [nI_clamp (by omega)]
      exact RF_IQ (GoE_C q.1 hj).1 (GoE_Q q.1 q.2.1 hj)
    · rw [if_neg z]; exact q
noncomputable def o_order (N : zN) (i : Int32) : Int32 := if -1 ≤ i then (if i = -1 then nI (Mk N 5).2.2 else if i < nI (Mk N 5).2.2 then (Mk N 5).2.1 i.toNatClampNeg else -1) else -2
theorem m1_le {i : Int32} (h : -1 ≤ i) (h2 : ¬ i = -1) : ¬ i < 0 := by
  intro z
  have a : (-1 : Int) ≤ i.toInt := Int32.le_iff_toInt_le.mp h
  have b : i.toInt < 0 := Int32.lt_iff_toInt_lt.mp z
  exact h2 (Int32.toInt_inj.mp (show i.toInt = -1 by omega))
theorem sim_order {i : Int32} : Sim M_X10_order M_X11_order [.int i] := by
  refine simQ (ans := fun N => o_order N i) (fun h N G q I => ?_) (fun h N G q e top => ?_)
  · obtain ⟨hC, hQ, hS⟩ := q
    have hL := I.2.2.1
    have c10 := Mk_le hC.2.1.2 (show 5 ≤ 5 by omega)
    refine g_X10_order G ?_
    rw [hL.1]
    unfold o_order
    refine ⟨fun z => ?_, fun z => by rw [if_neg z]; exact ⟨rfl, fZ.rf, I⟩⟩
    rw [if_pos z]
    refine ⟨fun y => ?_, fun y => by rw [if_pos y]; exact ⟨rfl, fZ.rf, I⟩⟩
    rw [if_neg y]
    obtain ⟨j, hj, rfl⟩ := nI_of (m1_le z y)
    refine ⟨fun x => ?_, fun x => by rw [if_neg x]; exact ⟨rfl, fZ.rf, I⟩⟩
    have jc := (nI_ltI hj (by omega)).mp x
    rw [if_pos x, nI_clamp hj]
    exact ⟨vp_in_nI (by omega) (by omega), hL.2.2 j jc, fZ.rf, I⟩
  · obtain ⟨hC, hQ, hS⟩ := q
    have c10 := Mk_le hC.2.1.2 (show 5 ≤ 5 by omega)
    refine g_X11_order G ?_
    unfold o_order
    refine ⟨fun z => ?_, fun z => by rw [if_neg z]; exact ⟨rfl, fV.rf, e, top⟩⟩
    rw [if_pos z]
    have mk := s_X11_makes (u := 5) G (by rw [rdN e]; exact hC.t) (by rw [rdN e]; exact hC.e) (by omega)
    rw [show nI 5 = (5 : Int32) from rfl] at mk
    refine zcV_then mk (fun h1 m1 => ⟨zG_of m1.1 G, ?_⟩)
    have e1 : h1.1 165 = N := m1.n.trans e
    have t1 : ∃ n, rI h1 164 10 = nI n := by
      obtain ⟨n, hn⟩ := top
      exact ⟨n, by show h1.1 164 10 = _; rw [m1.2.2.1 10 (by decide)]; exact hn⟩
    have fv := (fH.k m1).v
    have e7 := m1.2.2.2.1
    have e170 := m1.2.2.2.2.2
    rw [e] at e7 e170
    rw [e7]
    refine ⟨fun y => ?_, fun y => by rw [if_pos y]; exact ⟨rfl, fv, e1, t1⟩⟩
    rw [if_neg y]
    obtain ⟨j, hj, rfl⟩ := nI_of (m1_le z y)
    refine ⟨fun x => by rw [if_neg (Int32.not_lt.mpr x)]; exact ⟨rfl, fv, e1, t1⟩, fun x => ?_⟩
    have x' := Int32.not_le.mp x
    have jc := (nI_ltI hj (by omega)).mp x'
    rw [if_pos x', nI_clamp hj]
    exact ⟨vp_in_nI (by omega) (by omega), e170 j jc, fv, e1, t1⟩
theorem layM_n {s : Int32} (h : iv 0 5 s) : ∃ l, l ≤ 4 ∧ layM s = nI l := by
  obtain ⟨n, hn, rfl⟩ := nI_of2 (x := s) (M := 5) (n := 5) rfl (Int32.not_lt.mpr ((iv_0' s).mpr h.1)) (Int32.le_iff_toInt_le.mpr h.2)
  unfold layM
  rcases (by omega : n = 0 ∨ n = 1 ∨ n = 2 ∨ n = 3 ∨ n = 4 ∨ n = 5) with z | z | z | z | z | z <;> subst z
  · exact ⟨0, by omega, by decide⟩
  · exact ⟨1, by omega, by decide⟩
  · exact ⟨1, by omega, by decide⟩
  · exact ⟨2, by omega, by decide⟩
  · exact ⟨3, by omega, by decide⟩
  · exact ⟨4, by omega, by decide⟩
noncomputable def o_dep (N : zN) (e f : Int32) : Int32 := @ite _ ((0 ≤ e ∧ e ≤ N 239 - 1) ∧ (0 ≤ f ∧ f ≤ N 239 - 1) ∧ ¬ e = f) (Classical.propDecidable _) (@ite _ (layM (N (80 + 7 * e.toNatClampNeg + 1)) = layM (N (80 + 7 * f.toNatClampNeg + 1)) ∧ Wo N e.toNatClampNeg ∧ Wo N f.toNatClampNeg) (Classical.propDecidable _) (zb (Dep N (Mk N (layM (N (80 + 7 * e.toNatClampNeg + 1))).toNatClampNeg).1 e.toNatClampNeg f.toNatClampNeg)) (-3)) (-2)
theorem sim_depends {e f : Int32} : Sim M_X10_depends M_X11_depends [.int e, .int f] := by
  refine simQ (ans := fun N => o_dep N e f) (fun h N G q I => ?_) (fun h N G q eN top => ?_)
  · obtain ⟨hC, hQ, hS⟩ := q
    obtain ⟨hP, hR, hL, ht⟩ := I
    have h10 := hC.2.1.2
    have bad : ¬ ((0 ≤ e ∧ e ≤ N 239 - 1) ∧ (0 ≤ f ∧ f ≤ N 239 - 1) ∧ ¬ e = f) → (-2 = o_dep N e f ∧ fZ h h ∧ IC h N) := fun z => by
      unfold o_dep
      rw [if_neg z]
      exact ⟨rfl, fZ.rf, hP, hR, hL, ht⟩
    refine g_X10_depends G ?_
    rw [hR.1.2.1]
    refine ⟨fun z => bad (fun y => z y.1), fun z1 => ⟨fun z => bad (fun y => z y.2.1), fun z2 => ⟨fun z3 => ?_, fun z => bad (fun y => y.2.2 z)⟩⟩⟩
    unfold o_dep
    rw [if_pos ⟨z1, z2, z3⟩]
    rw [hC.2.1.1] at z1 z2
    obtain ⟨i, hi, rfl⟩ := zsm (by omega) z1
    obtain ⟨j, hj, rfl⟩ := zsm (by omega) z2
    rw [nI_clamp (by omega), nI_clamp (by omega)]
    have li := hP.e (Or.inl rfl) (show i < 10 by omega)
    have lj := hP.e (Or.inl rfl) (show j < 10 by omega)
    have hB : zW 2 := Or.inl rfl
    refine ⟨vp_in_nI (by omega) (by omega), li, vp_in_nI (by omega) (by omega), lj, zcI_use (s_X1_layer G hB hC hP hR hQ.n hi) ⟨G, zcI_use (s_X1_layer G hB hC hP hR hQ.n hj) ⟨G, fun y => ?_, fun y1 => zcI_use (s_X8_works G hB hC hP hR hQ.n hi) ⟨G, fun y => ?_, fun y2 => zcI_use (s_X8_works G hB hC hP hR hQ.n hj) ⟨G, fun y3 => ?_, fun y => ?_⟩⟩⟩⟩⟩
    · rw [if_neg (fun x => y x.1)]
      exact ⟨rfl, fZ.rf, hP, hR, hL, ht⟩
    · rw [if_neg (fun x => (zb0.mp y) x.2.1)]
      exact ⟨rfl, fZ.rf, hP, hR, hL, ht⟩
    · rw [if_pos ⟨y1, zbn.mp y2, zbn.mp y3⟩]
      refine zcI_use (s_X1_layer G hB hC hP hR hQ.n hi) ⟨G, ?_⟩
      obtain ⟨l, hl, el⟩ := layM_n (hQ.2.1 i hi).1
      rw [el, nI_clamp (by omega)]
      refine zcV_then (s_X2_make (K := 133) (u := l) G (Or.inr rfl) hB hC hP hR hQ.n (by omega)) (fun h1 m1 => ⟨zG_of m1.1 G, ?_⟩)
      have R1 := m1.rw (Or.inr rfl) hB hP hC hR
      have P1 := PW_of m1.1 hP
      have nd := s_X2_needs (K := 133) (zG_of m1.1 G) (Or.inr rfl) hB hC P1 R1 hQ.n hi hj
      rw [rG_of m1.1, rG_of m1.1, zb_congr (Dep_rq (e := i) (f := j) m1.2.2.2.1)] at nd
      have fz : fZ h h1 := ⟨fun a ha => m1.2.1 a (by omega), fun a _ _ _ => by rw [m1.1]⟩
      have ic : IC h1 N := IC_of m1.1 (fun a ha => m1.2.1 a (by omega)) hC ⟨hP, hR, hL, ht⟩
      refine zcI_use nd ⟨zG_of m1.1 G, fun x => ?_, fun x => ?_⟩
      · exact ⟨x.symm, fz, ic⟩
      · exact ⟨(zb_pos (zbn.mp x)).symm, fz, ic⟩
    · rw [if_neg (fun x => (zb0.mp y) x.2.2)]
      exact ⟨rfl, fZ.rf, hP, hR, hL, ht⟩
  · obtain ⟨hC, hQ, hS⟩ := q
    have h10 := hC.2.1.2
    have bad : ¬ ((0 ≤ e ∧ e ≤ N 239 - 1) ∧ (0 ≤ f ∧ f ≤ N 239 - 1) ∧ ¬ e = f) → (-2 = o_dep N e f ∧ fV h h ∧ h.1 165 = N ∧ ∃ n, rI h 164 10 = nI n) := fun z => by
      unfold o_dep
      rw [if_neg z]
      exact ⟨rfl, fV.rf, eN, top⟩
    refine g_X11_depends G ?_
    rw [rdN eN 239]
    refine ⟨fun z => bad (fun y => z y.1), fun z1 => ⟨fun z => bad (fun y => z y.2.1), fun z2 => ⟨fun z3 => ?_, fun z => bad (fun y => y.2.2 z)⟩⟩⟩
    unfold o_dep
    rw [if_pos ⟨z1, z2, z3⟩]
    rw [hC.2.1.1] at z1 z2
    obtain ⟨i, hi, rfl⟩ := zsm (by omega) z1
    obtain ⟨j, hj, rfl⟩ := zsm (by omega) z2
    rw [nI_clamp (by omega), nI_clamp (by omega)]
    obtain ⟨-, i1, -⟩ := ixE' (e := i) (by omega)
    obtain ⟨-, j1, -⟩ := ixE' (e := j) (by omega)
    rw [i1.2, j1.2, rdN eN, rdN eN]
    have kT : zCt (rI h 165 238) 8 := by rw [rdN eN]; exact hC.t
    have di := s_X11_doesSomething (e := i) G kT (by omega)
    have dj := s_X11_doesSomething (e := j) G kT (by omega)
    rw [eN] at di dj
    refine ⟨i1.1, j1.1, fun y => ?_, fun y1 => zcI_use di ⟨G, fun y => ?_, fun y2 => zcI_use dj ⟨G, fun y3 => ?_, fun y => ?_⟩⟩⟩
    · rw [if_neg (fun x => y x.1)]
      exact ⟨rfl, fV.rf, eN, top⟩
    · rw [if_neg (fun x => (zb0.mp y) x.2.1)]
      exact ⟨rfl, fV.rf, eN, top⟩
    · rw [if_pos ⟨y1, zbn.mp y2, zbn.mp y3⟩]
      obtain ⟨l, hl, el⟩ := layM_n (hQ.2.1 i hi).1
      rw [el, nI_clamp (by omega)]
      refine zcV_then (s_X11_makes (u := l) G kT (by rw [rdN eN]; exact hC.e) (by omega)) (fun h1 m1 => ⟨zG_of m1.1 G, ?_⟩)
      have e1 : h1.1 165 = N := m1.n.trans eN
      have r := m1.2.2.2.2.1
      rw [eN] at r
      have dd := s_X11_doesDepend (e := i) (f := j) (zG_of m1.1 G) (by rw [rdN e1]; exact hC.t) (by omega) (by omega)
      rw [e1, zb_congr (Dep_rq (e := i) (f := j) r)] at dd
      have t1 : ∀ g, ∃ n, rI (wA h1 169 g) 164 10 = nI n := fun g => by
        obtain ⟨n, hn⟩ := top
        exact ⟨n, by rw [rI_An (by decide)]; show h1.1 164 10 = _; rw [m1.2.2.1 10 (by decide)]; exact hn⟩
      have fv : ∀ g, fV h (wA h1 169 g) := fun g => (fH.k m1).v.tr ⟨rfl, fun a ha => wA_n (by omega), by rw [wA_n (by decide)], by rw [wA_n (by decide)], by rw [wA_n (by decide)]⟩
      refine zcI_then dd (fun v h2 hh => ?_)
      obtain ⟨hv, g, rfl⟩ := hh
      refine ⟨zG_of m1.1 G, fun x => ⟨?_, fv g, by rw [wA_n (by decide)]; exact e1, t1 g⟩, fun x => ⟨?_, fv g, by rw [wA_n (by decide)]; exact e1, t1 g⟩⟩
      · rw [← hv, x]
      · rw [hv] at x
        exact (zb_pos (zbn.mp x)).symm
    · rw [if_neg (fun x => (zb0.mp y) x.2.2)]
      exact ⟨rfl, fV.rf, eN, top⟩

