/-! calls: effects -/
theorem g_X11_lays {x1 : Int32} {x2 : Int32} {x3 : Int32} {x4 : Int32} {x5 : Int32} {x6 : Int32} {h : zHp} {Q : zHp → Prop}  (G : zG h) (F : vp_in (80 + (7 * x1)) 246 ∧ (vp_in ((80 + (7 * x1)) + 1) 246 ∧ (vp_in ((80 + (7 * x1)) + 2) 246 ∧ (vp_in ((80 + (7 * x1)) + 3) 246 ∧ (vp_in ((80 + (7 * x1)) + 4) 246 ∧ (vp_in ((80 + (7 * x1)) + 5) 246 ∧ (vp_in ((80 + (7 * x1)) + 6) 246 ∧ (Q (wI (wI (wI (wI (wI (wI (wI h 165 ((Int32.toNatClampNeg (80 + (7 * x1)))) (-1)) 165 ((Int32.toNatClampNeg ((80 + (7 * x1)) + 1))) x2) 165 ((Int32.toNatClampNeg ((80 + (7 * x1)) + 2))) x3) 165 ((Int32.toNatClampNeg ((80 + (7 * x1)) + 3))) x4) 165 ((Int32.toNatClampNeg ((80 + (7 * x1)) + 4))) x5) 165 ((Int32.toNatClampNeg ((80 + (7 * x1)) + 5))) x6) 165 ((Int32.toNatClampNeg ((80 + (7 * x1)) + 6))) 0))))))))) : zcV M_X11_lays [.ref 164, .int x1, .int x2, .int x3, .int x4, .int x5, .int x6] h Q := by
  show zw zNT zNT M_X11_lays 0 [some (.ref 164), some (.int x1), some (.int x2), some (.int x3), some (.int x4), some (.int x5), some (.int x6), none] [] h _
  refine z_bipush (pc := 0) (v := 80) dX11_lays_0 (by decide) ?_
  refine z_bipush (pc := 2) (v := 7) dX11_lays_2 (by decide) ?_
  refine z_iload_n (pc := 4) dX11_lays_4 rfl rfl ?_
  refine z_imul (pc := 5) dX11_lays_5 ?_
  refine z_iadd (pc := 6) dX11_lays_6 ?_
  refine z_istore (pc := 7) (ls' := [some (.ref 164), some (.int x1), some (.int x2), some (.int x3), some (.int x4), some (.int x5), some (.int x6), some (.int (80 + (7 * x1)))]) dX11_lays_7 (by decide) rfl ?_
  refine z_aload_n (pc := 9) dX11_lays_9 rfl rfl ?_
  refine q_getR (pc := 10) (i := 165) dX11_lays_10 lk_RX11_7 (lyc rfl) (G 164 0 165 rfl) ?_
  refine z_iload (pc := 13) dX11_lays_13 rfl ?_
  refine z_iconst (pc := 15) (v := -1) dX11_lays_15 (by decide) ?_
  obtain ⟨k1, F⟩ := F
  refine q_iast (pc := 16) (j := (Int32.toNatClampNeg (80 + (7 * x1)))) dX11_lays_16 (lyc rfl) (zvn (lnc rfl) k1) rfl ?_
  refine z_aload_n (pc := 17) dX11_lays_17 rfl rfl ?_
  refine q_getR (pc := 18) (i := 165) dX11_lays_18 lk_RX11_7 (lyc rfl) (G 164 0 165 rfl) ?_
  refine z_iload (pc := 21) dX11_lays_21 rfl ?_
  refine z_iconst (pc := 23) (v := 1) dX11_lays_23 (by decide) ?_
  refine z_iadd (pc := 24) dX11_lays_24 ?_
  refine z_iload_n (pc := 25) dX11_lays_25 rfl rfl ?_
  obtain ⟨k2, F⟩ := F
  refine q_iast (pc := 26) (j := (Int32.toNatClampNeg ((80 + (7 * x1)) + 1))) dX11_lays_26 (lyc rfl) (zvn (lnc rfl) k2) rfl ?_
  refine z_aload_n (pc := 27) dX11_lays_27 rfl rfl ?_
  refine q_getR (pc := 28) (i := 165) dX11_lays_28 lk_RX11_7 (lyc rfl) (G 164 0 165 rfl) ?_
  refine z_iload (pc := 31) dX11_lays_31 rfl ?_
  refine z_iconst (pc := 33) (v := 2) dX11_lays_33 (by decide) ?_
  refine z_iadd (pc := 34) dX11_lays_34 ?_
  refine z_iload_n (pc := 35) dX11_lays_35 rfl rfl ?_
  obtain ⟨k3, F⟩ := F
  refine q_iast (pc := 36) (j := (Int32.toNatClampNeg ((80 + (7 * x1)) + 2))) dX11_lays_36 (lyc rfl) (zvn (lnc rfl) k3) rfl ?_
  refine z_aload_n (pc := 37) dX11_lays_37 rfl rfl ?_
  refine q_getR (pc := 38) (i := 165) dX11_lays_38 lk_RX11_7 (lyc rfl) (G 164 0 165 rfl) ?_
  refine z_iload (pc := 41) dX11_lays_41 rfl ?_
  refine z_iconst (pc := 43) (v := 3) dX11_lays_43 (by decide) ?_
  refine z_iadd (pc := 44) dX11_lays_44 ?_
  refine z_iload (pc := 45) dX11_lays_45 rfl ?_
  obtain ⟨k4, F⟩ := F
  refine q_iast (pc := 47) (j := (Int32.toNatClampNeg ((80 + (7 * x1)) + 3))) dX11_lays_47 (lyc rfl) (zvn (lnc rfl) k4) rfl ?_
  refine z_aload_n (pc := 48) dX11_lays_48 rfl rfl ?_
  refine q_getR (pc := 49) (i := 165) dX11_lays_49 lk_RX11_7 (lyc rfl) (G 164 0 165 rfl) ?_
  refine z_iload (pc := 52) dX11_lays_52 rfl ?_
  refine z_iconst (pc := 54) (v := 4) dX11_lays_54 (by decide) ?_
  refine z_iadd (pc := 55) dX11_lays_55 ?_
  refine z_iload (pc := 56) dX11_lays_56 rfl ?_
  obtain ⟨k5, F⟩ := F
  refine q_iast (pc := 58) (j := (Int32.toNatClampNeg ((80 + (7 * x1)) + 4))) dX11_lays_58 (lyc rfl) (zvn (lnc rfl) k5) rfl ?_
  refine z_aload_n (pc := 59) dX11_lays_59 rfl rfl ?_
  refine q_getR (pc := 60) (i := 165) dX11_lays_60 lk_RX11_7 (lyc rfl) (G 164 0 165 rfl) ?_
  refine z_iload (pc := 63) dX11_lays_63 rfl ?_
  refine z_iconst (pc := 65) (v := 5) dX11_lays_65 (by decide) ?_
  refine z_iadd (pc := 66) dX11_lays_66 ?_
  refine z_iload (pc := 67) dX11_lays_67 rfl ?_
  obtain ⟨k6, F⟩ := F
  refine q_iast (pc := 69) (j := (Int32.toNatClampNeg ((80 + (7 * x1)) + 5))) dX11_lays_69 (lyc rfl) (zvn (lnc rfl) k6) rfl ?_
  refine z_aload_n (pc := 70) dX11_lays_70 rfl rfl ?_
  refine q_getR (pc := 71) (i := 165) dX11_lays_71 lk_RX11_7 (lyc rfl) (G 164 0 165 rfl) ?_
  refine z_iload (pc := 74) dX11_lays_74 rfl ?_
  refine z_bipush (pc := 76) (v := 6) dX11_lays_76 (by decide) ?_
  refine z_iadd (pc := 78) dX11_lays_78 ?_
  refine z_iconst (pc := 79) (v := 0) dX11_lays_79 (by decide) ?_
  obtain ⟨k7, F⟩ := F
  refine q_iast (pc := 80) (j := (Int32.toNatClampNeg ((80 + (7 * x1)) + 6))) dX11_lays_80 (lyc rfl) (zvn (lnc rfl) k7) rfl ?_
  exact q_retV (pc := 81) dX11_lays_81 rfl F
theorem g_X10_fitsEffect {x0 : Int32} {x1 : Int32} {h : zHp} {Q : Int32 → zHp → Prop}  (G : zG h) (F : (2 < x0 → (Q (zb ((-9 : Int32) ≤ x1 ∧ x1 ≤ 9)) h)) ∧ (¬ (2 < x0) → (Q (zb ((0 : Int32) ≤ x1 ∧ x1 ≤ 5)) h))) : zcI M_X10_fitsEffect [.int x0, .int x1] h Q := by
  show zw zNT zNT M_X10_fitsEffect 0 [some (.int x0), some (.int x1)] [] h _
  refine z_iload_n (pc := 0) dX10_fitsEffect_0 rfl rfl ?_
  refine z_iconst (pc := 1) (v := 2) dX10_fitsEffect_1 (by decide) ?_
  refine z_icmp_gt (pc := 2) (tgt := 14) dX10_fitsEffect_2 (by decide) (fun k1 => ?_) (fun k1 => ?_)
  · replace F := F.1 k1
    refine z_iload_n (pc := 14) dX10_fitsEffect_14 rfl rfl ?_
    refine z_bipush (pc := 15) (v := -9) dX10_fitsEffect_15 (by decide) ?_
    refine z_bipush (pc := 17) (v := 9) dX10_fitsEffect_17 (by decide) ?_
    refine q_invS (pc := 19) (As := [.int x1, .int (-9), .int 9]) (st := []) dX10_fitsEffect_19 ok_X10_within ml_RX10_82 st_X10_within pa_X10_within ⟨Nat.le_of_ble_eq_true rfl, Nat.le_of_ble_eq_true rfl⟩ (q_pI (s_X10_within G) rfl ?_)
    exact q_retB (pc := 22) dX10_fitsEffect_22 rfl zb_B F
  · replace F := F.2 k1
    refine z_iload_n (pc := 5) dX10_fitsEffect_5 rfl rfl ?_
    refine z_iconst (pc := 6) (v := 0) dX10_fitsEffect_6 (by decide) ?_
    refine z_iconst (pc := 7) (v := 5) dX10_fitsEffect_7 (by decide) ?_
    refine q_invS (pc := 8) (As := [.int x1, .int 0, .int 5]) (st := []) dX10_fitsEffect_8 ok_X10_within ml_RX10_82 st_X10_within pa_X10_within ⟨Nat.le_of_ble_eq_true rfl, Nat.le_of_ble_eq_true rfl⟩ (q_pI (s_X10_within G) rfl ?_)
    refine z_goto (pc := 11) (tgt := 22) dX10_fitsEffect_11 (by decide) ?_
    exact q_retB (pc := 22) dX10_fitsEffect_22 rfl zb_B F
theorem g_X11_isDeed {x0 : Int32} {x1 : Int32} {x2 : Int32} {h : zHp} {Q : Int32 → zHp → Prop}  (G : zG h) (F : (¬ ((0 : Int32) ≤ x0 ∧ x0 ≤ 5) → (Q 0 h)) ∧ (((0 : Int32) ≤ x0 ∧ x0 ≤ 5) → ((3 ≤ x0 → ((3 ≤ x0 → (zlI M_X11_isDeed 32 [some (.int x0), some (.int x1), some (.int x2)] [.int 9, .int (-9), .int x1] h Q)) ∧ (¬ (3 ≤ x0) → (zlI M_X11_isDeed 32 [some (.int x0), some (.int x1), some (.int x2)] [.int 5, .int (-9), .int x1] h Q)))) ∧ (¬ (3 ≤ x0) → ((3 ≤ x0 → (zlI M_X11_isDeed 32 [some (.int x0), some (.int x1), some (.int x2)] [.int 9, .int 0, .int x1] h Q)) ∧ (¬ (3 ≤ x0) → (zlI M_X11_isDeed 32 [some (.int x0), some (.int x1), some (.int x2)] [.int 5, .int 0, .int x1] h Q))))))) : zcI M_X11_isDeed [.int x0, .int x1, .int x2] h Q := by
  show zw zNT zNT M_X11_isDeed 0 [some (.int x0), some (.int x1), some (.int x2)] [] h _
  refine z_iload_n (pc := 0) dX11_isDeed_0 rfl rfl ?_
  refine z_iconst (pc := 1) (v := 0) dX11_isDeed_1 (by decide) ?_
  refine z_iconst (pc := 2) (v := 5) dX11_isDeed_2 (by decide) ?_
  refine q_invS (pc := 3) (As := [.int x0, .int 0, .int 5]) (st := []) dX11_isDeed_3 ok_X11_in ml_RX11_84 st_X11_in pa_X11_in ⟨Nat.le_of_ble_eq_true rfl, Nat.le_of_ble_eq_true rfl⟩ (q_pI (s_X11_in G) rfl ?_)
  refine z_if_eq (pc := 6) (tgt := 53) dX11_isDeed_6 (by decide) (fun k4 => ?_) (fun k4 => ?_)
  · replace F := F.1 (zb0.mp k4)
    refine z_iconst (pc := 53) (v := 0) dX11_isDeed_53 (by decide) ?_
    exact q_retB (pc := 54) dX11_isDeed_54 rfl (Or.inl rfl) F
  · replace F := F.2 (zbn.mp k4)
    refine z_iload_n (pc := 9) dX11_isDeed_9 rfl rfl ?_
    refine z_iload_n (pc := 10) dX11_isDeed_10 rfl rfl ?_
    refine z_iconst (pc := 11) (v := 3) dX11_isDeed_11 (by decide) ?_
    refine z_icmp_ge (pc := 12) (tgt := 19) dX11_isDeed_12 (by decide) (fun k3 => ?_) (fun k3 => ?_)
    · replace F := F.1 k3
      refine z_bipush (pc := 19) (v := -9) dX11_isDeed_19 (by decide) ?_
      refine z_iload_n (pc := 21) dX11_isDeed_21 rfl rfl ?_
      refine z_iconst (pc := 22) (v := 3) dX11_isDeed_22 (by decide) ?_
      refine z_icmp_ge (pc := 23) (tgt := 30) dX11_isDeed_23 (by decide) (fun k1 => ?_) (fun k1 => ?_)
      · replace F := F.1 k1
        refine z_bipush (pc := 30) (v := 9) dX11_isDeed_30 (by decide) ?_
        exact F
      · replace F := F.2 k1
        refine z_iconst (pc := 26) (v := 5) dX11_isDeed_26 (by decide) ?_
        refine z_goto (pc := 27) (tgt := 32) dX11_isDeed_27 (by decide) ?_
        exact F
    · replace F := F.2 k3
      refine z_iconst (pc := 15) (v := 0) dX11_isDeed_15 (by decide) ?_
      refine z_goto (pc := 16) (tgt := 21) dX11_isDeed_16 (by decide) ?_
      refine z_iload_n (pc := 21) dX11_isDeed_21 rfl rfl ?_
      refine z_iconst (pc := 22) (v := 3) dX11_isDeed_22 (by decide) ?_
      refine z_icmp_ge (pc := 23) (tgt := 30) dX11_isDeed_23 (by decide) (fun k2 => ?_) (fun k2 => ?_)
      · replace F := F.1 k2
        refine z_bipush (pc := 30) (v := 9) dX11_isDeed_30 (by decide) ?_
        exact F
      · replace F := F.2 k2
        refine z_iconst (pc := 26) (v := 5) dX11_isDeed_26 (by decide) ?_
        refine z_goto (pc := 27) (tgt := 32) dX11_isDeed_27 (by decide) ?_
        exact F
theorem g_X11_isDeed_32 {x0 : Int32} {x1 : Int32} {x2 : Int32} {xs0 : Int32} {xs1 : Int32} {xs2 : Int32} {h : zHp} {Q : Int32 → zHp → Prop}  (G : zG h) (F : (¬ (xs1 ≤ xs0 ∧ xs0 ≤ xs2) → (Q 0 h)) ∧ ((xs1 ≤ xs0 ∧ xs0 ≤ xs2) → ((¬ ((-9 : Int32) ≤ x2 ∧ x2 ≤ 9) → (Q 0 h)) ∧ (((-9 : Int32) ≤ x2 ∧ x2 ≤ 9) → (Q 1 h))))) : zlI M_X11_isDeed 32 [some (.int x0), some (.int x1), some (.int x2)] [.int xs2, .int xs1, .int xs0] h Q := by
  refine q_invS (pc := 32) (As := [.int xs0, .int xs1, .int xs2]) (st := []) dX11_isDeed_32 ok_X11_in ml_RX11_84 st_X11_in pa_X11_in ⟨Nat.le_of_ble_eq_true rfl, Nat.le_of_ble_eq_true rfl⟩ (q_pI (s_X11_in G) rfl ?_)
  refine z_if_eq (pc := 35) (tgt := 53) dX11_isDeed_35 (by decide) (fun k2 => ?_) (fun k2 => ?_)
  · replace F := F.1 (zb0.mp k2)
    refine z_iconst (pc := 53) (v := 0) dX11_isDeed_53 (by decide) ?_
    exact q_retB (pc := 54) dX11_isDeed_54 rfl (Or.inl rfl) F
  · replace F := F.2 (zbn.mp k2)
    refine z_iload_n (pc := 38) dX11_isDeed_38 rfl rfl ?_
    refine z_bipush (pc := 39) (v := -9) dX11_isDeed_39 (by decide) ?_
    refine z_bipush (pc := 41) (v := 9) dX11_isDeed_41 (by decide) ?_
    refine q_invS (pc := 43) (As := [.int x2, .int (-9), .int 9]) (st := []) dX11_isDeed_43 ok_X11_in ml_RX11_84 st_X11_in pa_X11_in ⟨Nat.le_of_ble_eq_true rfl, Nat.le_of_ble_eq_true rfl⟩ (q_pI (s_X11_in G) rfl ?_)
    refine z_if_eq (pc := 46) (tgt := 53) dX11_isDeed_46 (by decide) (fun k1 => ?_) (fun k1 => ?_)
    · replace F := F.1 (zb0.mp k1)
      refine z_iconst (pc := 53) (v := 0) dX11_isDeed_53 (by decide) ?_
      exact q_retB (pc := 54) dX11_isDeed_54 rfl (Or.inl rfl) F
    · replace F := F.2 (zbn.mp k1)
      refine z_iconst (pc := 49) (v := 1) dX11_isDeed_49 (by decide) ?_
      refine z_goto (pc := 50) (tgt := 54) dX11_isDeed_50 (by decide) ?_
      exact q_retB (pc := 54) dX11_isDeed_54 rfl (Or.inr rfl) F
theorem g_X10_effect {x1 : Int32} {x2 : Int32} {x3 : Int32} {x4 : Int32} {x5 : Int32} {h : zHp} {Q : Int32 → zHp → Prop}  (G : zG h) (F : (¬ ((0 : Int32) ≤ x1 ∧ x1 ≤ 5) → (Q (-2) h)) ∧ (((0 : Int32) ≤ x1 ∧ x1 ≤ 5) → (((okSc x2 x3) → (zcI M_X10_fitsEffect [.int x1, .int x4] h (fun vh1 h1 => zG h1 ∧ ((vh1 = 0 → (Q (-2) h1)) ∧ (¬ (vh1 = 0) → ((((-9 : Int32) ≤ x5 ∧ x5 ≤ 9) → ((rI h1 2 3 < 10 → (vp_in (rI h1 2 3) 10 ∧ (zRef h1 4 ((Int32.toNatClampNeg (rI h1 2 3))) 2 ∧ (zcV M_X0_settle [.ref 1, .int 0] (wI (wI (wI (wI (wI (wI (wI (wI h1 (rG h1 4 ((Int32.toNatClampNeg (rI h1 2 3)))) 0 (-1)) (rG h1 4 ((Int32.toNatClampNeg (rI h1 2 3)))) 1 x1) (rG h1 4 ((Int32.toNatClampNeg (rI h1 2 3)))) 2 x2) (rG h1 4 ((Int32.toNatClampNeg (rI h1 2 3)))) 3 x3) (rG h1 4 ((Int32.toNatClampNeg (rI h1 2 3)))) 4 x4) (rG h1 4 ((Int32.toNatClampNeg (rI h1 2 3)))) 5 x5) (rG h1 4 ((Int32.toNatClampNeg (rI h1 2 3)))) 6 0) 2 3 ((rI h1 2 3) + 1)) (fun h2 => zG h2 ∧ (Q (rI h1 2 3) h2)))))) ∧ (¬ (rI h1 2 3 < 10) → (Q (-4) h1)))) ∧ (¬ ((-9 : Int32) ≤ x5 ∧ x5 ≤ 9) → (Q (-2) h1)))))))) ∧ (¬ (okSc x2 x3) → (Q (-2) h))))) : zcI M_X10_effect [.ref 0, .int x1, .int x2, .int x3, .int x4, .int x5] h Q := by
  show zw zNT zNT M_X10_effect 0 [some (.ref 0), some (.int x1), some (.int x2), some (.int x3), some (.int x4), some (.int x5), none] [] h _
  refine z_iload_n (pc := 0) dX10_effect_0 rfl rfl ?_
  refine z_iconst (pc := 1) (v := 0) dX10_effect_1 (by decide) ?_
  refine z_iconst (pc := 2) (v := 5) dX10_effect_2 (by decide) ?_
  refine q_invS (pc := 3) (As := [.int x1, .int 0, .int 5]) (st := []) dX10_effect_3 ok_X10_within ml_RX10_82 st_X10_within pa_X10_within ⟨Nat.le_of_ble_eq_true rfl, Nat.le_of_ble_eq_true rfl⟩ (q_pI (s_X10_within G) rfl ?_)
  refine z_if_eq (pc := 6) (tgt := 17) dX10_effect_6 (by decide) (fun k9 => ?_) (fun k9 => ?_)
  · replace F := F.1 (zb0.mp k9)
    refine z_bipush (pc := 17) (v := -2) dX10_effect_17 (by decide) ?_
    exact q_retI (pc := 19) dX10_effect_19 rfl F
  · replace F := F.2 (zbn.mp k9)
    refine z_iload_n (pc := 9) dX10_effect_9 rfl rfl ?_
    refine z_iload_n (pc := 10) dX10_effect_10 rfl rfl ?_
    refine q_invS (pc := 11) (As := [.int x2, .int x3]) (st := []) dX10_effect_11 ok_X10_isScope ml_RX10_151 st_X10_isScope pa_X10_isScope ⟨Nat.le_of_ble_eq_true rfl, Nat.le_of_ble_eq_true rfl⟩ (q_pI (s_X10_isScope G) rfl ?_)
    refine z_if_ne (pc := 14) (tgt := 20) dX10_effect_14 (by decide) (fun k8 => ?_) (fun k8 => ?_)
    · replace F := F.1 (zbn.mp k8)
      refine z_iload_n (pc := 20) dX10_effect_20 rfl rfl ?_
      refine z_iload (pc := 21) dX10_effect_21 rfl ?_
      refine q_invS (pc := 23) (As := [.int x1, .int x4]) (st := []) dX10_effect_23 ok_X10_fitsEffect ml_RX10_158 st_X10_fitsEffect pa_X10_fitsEffect ⟨Nat.le_of_ble_eq_true rfl, Nat.le_of_ble_eq_true rfl⟩ (q_kI F (fun vh1 h1 F => ?_))
      obtain ⟨G1, F⟩ := F
      refine z_if_eq (pc := 26) (tgt := 41) dX10_effect_26 (by decide) (fun k7 => ?_) (fun k7 => ?_)
      · replace F := F.1 k7
        refine z_bipush (pc := 41) (v := -2) dX10_effect_41 (by decide) ?_
        exact q_retI (pc := 43) dX10_effect_43 rfl F
      · replace F := F.2 k7
        refine z_iload (pc := 29) dX10_effect_29 rfl ?_
        refine z_bipush (pc := 31) (v := -9) dX10_effect_31 (by decide) ?_
        refine z_bipush (pc := 33) (v := 9) dX10_effect_33 (by decide) ?_
        refine q_invS (pc := 35) (As := [.int x5, .int (-9), .int 9]) (st := []) dX10_effect_35 ok_X10_within ml_RX10_82 st_X10_within pa_X10_within ⟨Nat.le_of_ble_eq_true rfl, Nat.le_of_ble_eq_true rfl⟩ (q_pI (s_X10_within G1) rfl ?_)
        refine z_if_ne (pc := 38) (tgt := 44) dX10_effect_38 (by decide) (fun k6 => ?_) (fun k6 => ?_)
        · replace F := F.1 (zbn.mp k6)
          refine z_aload_n (pc := 44) dX10_effect_44 rfl rfl ?_
          refine q_getR (pc := 45) (i := 2) dX10_effect_45 lk_RX10_20 (lyc rfl) (G1 0 1 2 rfl) ?_
          refine q_getI (pc := 48) (v := rI h1 2 3) dX10_effect_48 lk_RX10_161 (lyc rfl) rfl ?_
          refine z_bipush (pc := 51) (v := 10) dX10_effect_51 (by decide) ?_
          refine z_icmp_lt (pc := 53) (tgt := 59) dX10_effect_53 (by decide) (fun k5 => ?_) (fun k5 => ?_)
          · replace F := F.1 k5
            refine z_aload_n (pc := 59) dX10_effect_59 rfl rfl ?_
            refine q_getR (pc := 60) (i := 2) dX10_effect_60 lk_RX10_20 (lyc rfl) (G1 0 1 2 rfl) ?_
            refine q_getI (pc := 63) (v := rI h1 2 3) dX10_effect_63 lk_RX10_161 (lyc rfl) rfl ?_
            refine z_istore (pc := 66) (ls' := [some (.ref 0), some (.int x1), some (.int x2), some (.int x3), some (.int x4), some (.int x5), some (.int (rI h1 2 3))]) dX10_effect_66 (by decide) rfl ?_
            refine z_aload_n (pc := 68) dX10_effect_68 rfl rfl ?_
            refine q_getR (pc := 69) (i := 2) dX10_effect_69 lk_RX10_20 (lyc rfl) (G1 0 1 2 rfl) ?_
            refine q_getR (pc := 72) (i := 4) dX10_effect_72 lk_RX10_164 (lyc rfl) (G1 2 2 4 rfl) ?_
            refine z_iload (pc := 75) dX10_effect_75 rfl ?_
            obtain ⟨k2, F⟩ := F
            obtain ⟨k3, F⟩ := F
            refine q_aald (pc := 77) (j := (Int32.toNatClampNeg (rI h1 2 3))) (r := rG h1 4 ((Int32.toNatClampNeg (rI h1 2 3)))) (t := 1) dX10_effect_77 (lyc rfl) (zvn (lnc rfl) k2) rfl k3.1 ?_
            refine z_iload_n (pc := 78) dX10_effect_78 rfl rfl ?_
            refine z_iload_n (pc := 79) dX10_effect_79 rfl rfl ?_
            refine z_iload_n (pc := 80) dX10_effect_80 rfl rfl ?_
            refine z_iload (pc := 81) dX10_effect_81 rfl ?_
            refine z_iload (pc := 83) dX10_effect_83 rfl ?_
            refine q_invV (pc := 85) (As := [.int x1, .int x2, .int x3, .int x4, .int x5]) (st := []) dX10_effect_85 ok_X1_become ml_RX10_168 iv_X1_become pa_X1_become ⟨Nat.le_of_ble_eq_true rfl, Nat.le_of_ble_eq_true rfl⟩ k3.2 (q_pV (s_X1_become G1 k3.2) ?_)
            refine z_aload_n (pc := 88) dX10_effect_88 rfl rfl ?_
            refine q_getR (pc := 89) (i := 2) dX10_effect_89 lk_RX10_20 (lyc rfl) (G1 0 1 2 rfl) ?_
            refine z_dup (pc := 92) dX10_effect_92 rfl ?_
            refine q_getI (pc := 93) (v := rI h1 2 3) dX10_effect_93 lk_RX10_161 (lyc rfl) (((((((rI_k (by decide)).trans (rI_k (by decide))).trans (rI_k (by decide))).trans (rI_c (zne (lyc rfl) k3.2 (by decide)))).trans (rI_k (by decide))).trans (rI_k (by decide))).trans (rI_k (by decide))) ?_
            refine z_iconst (pc := 96) (v := 1) dX10_effect_96 (by decide) ?_
            refine z_iadd (pc := 97) dX10_effect_97 ?_
            refine q_putI (pc := 98) dX10_effect_98 lk_RX10_161 (lyc rfl) ?_
            refine z_aload_n (pc := 101) dX10_effect_101 rfl rfl ?_
            refine q_getR (pc := 102) (i := 1) dX10_effect_102 lk_RX10_10 (lyc rfl) (G1 0 0 1 rfl) ?_
            refine z_iconst (pc := 105) (v := 0) dX10_effect_105 (by decide) ?_
            refine q_invV (pc := 106) (As := [.int 0]) (st := []) dX10_effect_106 ok_X0_settle ml_RX10_90 iv_X0_settle pa_X0_settle ⟨Nat.le_of_ble_eq_true rfl, Nat.le_of_ble_eq_true rfl⟩ (lyc rfl) (q_kV F (fun h2 F => ?_))
            obtain ⟨G2, F⟩ := F
            refine z_iload (pc := 109) dX10_effect_109 rfl ?_
            exact q_retI (pc := 111) dX10_effect_111 rfl F
          · replace F := F.2 k5
            refine z_bipush (pc := 56) (v := -4) dX10_effect_56 (by decide) ?_
            exact q_retI (pc := 58) dX10_effect_58 rfl F
        · replace F := F.2 (zb0.mp k6)
          refine z_bipush (pc := 41) (v := -2) dX10_effect_41 (by decide) ?_
          exact q_retI (pc := 43) dX10_effect_43 rfl F
    · replace F := F.2 (zb0.mp k8)
      refine z_bipush (pc := 17) (v := -2) dX10_effect_17 (by decide) ?_
      exact q_retI (pc := 19) dX10_effect_19 rfl F
theorem g_X11_effect {x1 : Int32} {x2 : Int32} {x3 : Int32} {x4 : Int32} {x5 : Int32} {h : zHp} {Q : Int32 → zHp → Prop}  (G : zG h) (F : zcI M_X11_isDeed [.int x1, .int x4, .int x5] h (fun vh1 h1 => zG h1 ∧ ((vh1 = 0 → (Q (-2) h1)) ∧ (¬ (vh1 = 0) → (((okSc x2 x3) → ((¬ rI h1 165 239 = 10 → (zcV M_X11_lays [.ref 164, .int (rI h1 165 239), .int x1, .int x2, .int x3, .int x4, .int x5] h1 (fun h2 => zG h2 ∧ (zcI M_X11_changed [.ref 164, .int (((rI h2 165 239) + 1) - 1)] (wI h2 165 239 ((rI h2 165 239) + 1)) (fun vh3 h3 => zG h3 ∧ (Q vh3 h3)))))) ∧ (rI h1 165 239 = 10 → (Q (-4) h1)))) ∧ (¬ (okSc x2 x3) → (Q (-2) h1))))))) : zcI M_X11_effect [.ref 164, .int x1, .int x2, .int x3, .int x4, .int x5] h Q := by
  show zw zNT zNT M_X11_effect 0 [some (.ref 164), some (.int x1), some (.int x2), some (.int x3), some (.int x4), some (.int x5)] [] h _
  refine z_iload_n (pc := 0) dX11_effect_0 rfl rfl ?_
  refine z_iload (pc := 1) dX11_effect_1 rfl ?_
  refine z_iload (pc := 3) dX11_effect_3 rfl ?_
  refine q_invS (pc := 5) (As := [.int x1, .int x4, .int x5]) (st := []) dX11_effect_5 ok_X11_isDeed ml_RX11_176 st_X11_isDeed pa_X11_isDeed ⟨Nat.le_of_ble_eq_true rfl, Nat.le_of_ble_eq_true rfl⟩ (q_kI F (fun vh1 h1 F => ?_))
  obtain ⟨G1, F⟩ := F
  refine z_if_eq (pc := 8) (tgt := 19) dX11_effect_8 (by decide) (fun k6 => ?_) (fun k6 => ?_)
  · replace F := F.1 k6
    refine z_bipush (pc := 19) (v := -2) dX11_effect_19 (by decide) ?_
    exact q_retI (pc := 21) dX11_effect_21 rfl F
  · replace F := F.2 k6
    refine z_iload_n (pc := 11) dX11_effect_11 rfl rfl ?_
    refine z_iload_n (pc := 12) dX11_effect_12 rfl rfl ?_
    refine q_invS (pc := 13) (As := [.int x2, .int x3]) (st := []) dX11_effect_13 ok_X11_isScope ml_RX11_173 st_X11_isScope pa_X11_isScope ⟨Nat.le_of_ble_eq_true rfl, Nat.le_of_ble_eq_true rfl⟩ (q_pI (s_X11_isScope G1) rfl ?_)
    refine z_if_ne (pc := 16) (tgt := 22) dX11_effect_16 (by decide) (fun k5 => ?_) (fun k5 => ?_)
    · replace F := F.1 (zbn.mp k5)
      refine z_aload_n (pc := 22) dX11_effect_22 rfl rfl ?_
      refine q_getR (pc := 23) (i := 165) dX11_effect_23 lk_RX11_7 (lyc rfl) (G1 164 0 165 rfl) ?_
      refine z_sipush (pc := 26) (v := 239) dX11_effect_26 (by decide) ?_
      refine q_iald (pc := 29) (j := 239) (v := rI h1 165 239) dX11_effect_29 (lyc rfl) (zvl (lnc rfl) (by decide)) (by decide) rfl ?_
      refine z_bipush (pc := 30) (v := 10) dX11_effect_30 (by decide) ?_
      refine z_icmp_ne (pc := 32) (tgt := 38) dX11_effect_32 (by decide) (fun k4 => ?_) (fun k4 => ?_)
      · replace F := F.1 k4
        refine z_aload_n (pc := 38) dX11_effect_38 rfl rfl ?_
        refine z_aload_n (pc := 39) dX11_effect_39 rfl rfl ?_
        refine q_getR (pc := 40) (i := 165) dX11_effect_40 lk_RX11_7 (lyc rfl) (G1 164 0 165 rfl) ?_
        refine z_sipush (pc := 43) (v := 239) dX11_effect_43 (by decide) ?_
        refine q_iald (pc := 46) (j := 239) (v := rI h1 165 239) dX11_effect_46 (lyc rfl) (zvl (lnc rfl) (by decide)) (by decide) rfl ?_
        refine z_iload_n (pc := 47) dX11_effect_47 rfl rfl ?_
        refine z_iload_n (pc := 48) dX11_effect_48 rfl rfl ?_
        refine z_iload_n (pc := 49) dX11_effect_49 rfl rfl ?_
        refine z_iload (pc := 50) dX11_effect_50 rfl ?_
        refine z_iload (pc := 52) dX11_effect_52 rfl ?_
        refine q_invV (pc := 54) (As := [.int (rI h1 165 239), .int x1, .int x2, .int x3, .int x4, .int x5]) (st := []) dX11_effect_54 ok_X11_lays ml_RX11_179 iv_X11_lays pa_X11_lays ⟨Nat.le_of_ble_eq_true rfl, Nat.le_of_ble_eq_true rfl⟩ (lyc rfl) (q_kV F (fun h2 F => ?_))
        obtain ⟨G2, F⟩ := F
        refine z_aload_n (pc := 57) dX11_effect_57 rfl rfl ?_
        refine q_getR (pc := 58) (i := 165) dX11_effect_58 lk_RX11_7 (lyc rfl) (G2 164 0 165 rfl) ?_
        refine z_sipush (pc := 61) (v := 239) dX11_effect_61 (by decide) ?_
        refine z_dup2 (pc := 64) dX11_effect_64 rfl rfl ?_
        refine q_iald (pc := 65) (j := 239) (v := rI h2 165 239) dX11_effect_65 (lyc rfl) (zvl (lnc rfl) (by decide)) (by decide) rfl ?_
        refine z_iconst (pc := 66) (v := 1) dX11_effect_66 (by decide) ?_
        refine z_iadd (pc := 67) dX11_effect_67 ?_
        refine q_iast (pc := 68) (j := 239) dX11_effect_68 (lyc rfl) (zvl (lnc rfl) (by decide)) (by decide) ?_
        refine z_aload_n (pc := 69) dX11_effect_69 rfl rfl ?_
        refine z_aload_n (pc := 70) dX11_effect_70 rfl rfl ?_
        refine q_getR (pc := 71) (i := 165) dX11_effect_71 lk_RX11_7 (lyc rfl) (G2 164 0 165 rfl) ?_
        refine z_sipush (pc := 74) (v := 239) dX11_effect_74 (by decide) ?_
        refine q_iald (pc := 77) (j := 239) (v := (rI h2 165 239) + 1) dX11_effect_77 (lyc rfl) (zvl (lnc rfl) (by decide)) (by decide) rI_s ?_
        refine z_iconst (pc := 78) (v := 1) dX11_effect_78 (by decide) ?_
        refine z_isub (pc := 79) dX11_effect_79 ?_
        refine q_invV (pc := 80) (As := [.int (((rI h2 165 239) + 1) - 1)]) (st := []) dX11_effect_80 ok_X11_changed ml_RX11_167 iv_X11_changed pa_X11_changed ⟨Nat.le_of_ble_eq_true rfl, Nat.le_of_ble_eq_true rfl⟩ (lyc rfl) (q_kI F (fun vh3 h3 F => ?_))
        obtain ⟨G3, F⟩ := F
        exact q_retI (pc := 83) dX11_effect_83 rfl F
      · replace F := F.2 k4
        refine z_bipush (pc := 35) (v := -4) dX11_effect_35 (by decide) ?_
        exact q_retI (pc := 37) dX11_effect_37 rfl F
    · replace F := F.2 (zb0.mp k5)
      refine z_bipush (pc := 19) (v := -2) dX11_effect_19 (by decide) ?_
      exact q_retI (pc := 21) dX11_effect_21 rfl F
theorem g_X10_source {x1 : Int32} {x2 : Int32} {h : zHp} {Q : Int32 → zHp → Prop}  (G : zG h) (F : (¬ (0 ≤ x1 ∧ x1 ≤ (rI h 2 3) - 1) → (Q (-2) h)) ∧ ((0 ≤ x1 ∧ x1 ≤ (rI h 2 3) - 1) → ((x2 = -1 → (zlI M_X10_source 30 [some (.ref 0), some (.int x1), some (.int x2), none] [] h Q)) ∧ (¬ (x2 = -1) → (((0 ≤ x2 ∧ x2 ≤ (rI h 2 1) - 1) → (zlI M_X10_source 30 [some (.ref 0), some (.int x1), some (.int x2), none] [] h Q)) ∧ (¬ (0 ≤ x2 ∧ x2 ≤ (rI h 2 1) - 1) → (Q (-2) h))))))) : zcI M_X10_source [.ref 0, .int x1, .int x2] h Q := by
  show zw zNT zNT M_X10_source 0 [some (.ref 0), some (.int x1), some (.int x2), none] [] h _
  refine z_aload_n (pc := 0) dX10_source_0 rfl rfl ?_
  refine q_getR (pc := 1) (i := 2) dX10_source_1 lk_RX10_20 (lyc rfl) (G 0 1 2 rfl) ?_
  refine z_iload_n (pc := 4) dX10_source_4 rfl rfl ?_
  refine q_invV (pc := 5) (As := [.int x1]) (st := []) dX10_source_5 ok_X8_hasEffect ml_RX10_174 iv_X8_hasEffect pa_X8_hasEffect ⟨Nat.le_of_ble_eq_true rfl, Nat.le_of_ble_eq_true rfl⟩ (lyc rfl) (q_pI (s_X8_hasEffect G (Or.inl rfl)) rfl ?_)
  refine z_if_eq (pc := 8) (tgt := 27) dX10_source_8 (by decide) (fun k3 => ?_) (fun k3 => ?_)
  · replace F := F.1 (zb0.mp k3)
    refine z_bipush (pc := 27) (v := -2) dX10_source_27 (by decide) ?_
    exact q_retI (pc := 29) dX10_source_29 rfl F
  · replace F := F.2 (zbn.mp k3)
    refine z_iload_n (pc := 11) dX10_source_11 rfl rfl ?_
    refine z_iconst (pc := 12) (v := -1) dX10_source_12 (by decide) ?_
    refine z_icmp_eq (pc := 13) (tgt := 30) dX10_source_13 (by decide) (fun k2 => ?_) (fun k2 => ?_)
    · replace F := F.1 k2
      exact F
    · replace F := F.2 k2
      refine z_aload_n (pc := 16) dX10_source_16 rfl rfl ?_
      refine q_getR (pc := 17) (i := 2) dX10_source_17 lk_RX10_20 (lyc rfl) (G 0 1 2 rfl) ?_
      refine z_iload_n (pc := 20) dX10_source_20 rfl rfl ?_
      refine q_invV (pc := 21) (As := [.int x2]) (st := []) dX10_source_21 ok_X8_hasThing ml_RX10_94 iv_X8_hasThing pa_X8_hasThing ⟨Nat.le_of_ble_eq_true rfl, Nat.le_of_ble_eq_true rfl⟩ (lyc rfl) (q_pI (s_X8_hasThing G (Or.inl rfl)) rfl ?_)
      refine z_if_ne (pc := 24) (tgt := 30) dX10_source_24 (by decide) (fun k1 => ?_) (fun k1 => ?_)
      · replace F := F.1 (zbn.mp k1)
        exact F
      · replace F := F.2 (zb0.mp k1)
        refine z_bipush (pc := 27) (v := -2) dX10_source_27 (by decide) ?_
        exact q_retI (pc := 29) dX10_source_29 rfl F
theorem g_X10_source_30 {x1 : Int32} {x2 : Int32} {h : zHp} {Q : Int32 → zHp → Prop}  (G : zG h) (F : vp_in x1 10 ∧ (zRef h 4 ((Int32.toNatClampNeg x1)) 2 ∧ (zcV M_X0_settle [.ref 1, .int 0] (wI h (rG h 4 ((Int32.toNatClampNeg x1))) 0 x2) (fun h1 => zG h1 ∧ (Q (rI h (rG h 4 ((Int32.toNatClampNeg x1))) 0) h1))))) : zlI M_X10_source 30 [some (.ref 0), some (.int x1), some (.int x2), none] [] h Q := by
  refine z_aload_n (pc := 30) dX10_source_30 rfl rfl ?_
  refine q_getR (pc := 31) (i := 2) dX10_source_31 lk_RX10_20 (lyc rfl) (G 0 1 2 rfl) ?_
  refine q_getR (pc := 34) (i := 4) dX10_source_34 lk_RX10_164 (lyc rfl) (G 2 2 4 rfl) ?_
  refine z_iload_n (pc := 37) dX10_source_37 rfl rfl ?_
  obtain ⟨k1, F⟩ := F
  obtain ⟨k2, F⟩ := F
  refine q_aald (pc := 38) (j := (Int32.toNatClampNeg x1)) (r := rG h 4 ((Int32.toNatClampNeg x1))) (t := 1) dX10_source_38 (lyc rfl) (zvn (lnc rfl) k1) rfl k2.1 ?_
  refine q_getI (pc := 39) (v := rI h (rG h 4 ((Int32.toNatClampNeg x1))) 0) dX10_source_39 lk_RX10_177 k2.2 rfl ?_
  refine z_istore_n (pc := 42) (ls' := [some (.ref 0), some (.int x1), some (.int x2), some (.int (rI h (rG h 4 ((Int32.toNatClampNeg x1))) 0))]) dX10_source_42 rfl (by decide) rfl ?_
  refine z_aload_n (pc := 43) dX10_source_43 rfl rfl ?_
  refine q_getR (pc := 44) (i := 2) dX10_source_44 lk_RX10_20 (lyc rfl) (G 0 1 2 rfl) ?_
  refine q_getR (pc := 47) (i := 4) dX10_source_47 lk_RX10_164 (lyc rfl) (G 2 2 4 rfl) ?_
  refine z_iload_n (pc := 50) dX10_source_50 rfl rfl ?_
  refine q_aald (pc := 51) (j := (Int32.toNatClampNeg x1)) (r := rG h 4 ((Int32.toNatClampNeg x1))) (t := 1) dX10_source_51 (lyc rfl) (zvn (lnc rfl) k1) rfl k2.1 ?_
  refine z_iload_n (pc := 52) dX10_source_52 rfl rfl ?_
  refine q_putI (pc := 53) dX10_source_53 lk_RX10_177 k2.2 ?_
  refine z_aload_n (pc := 56) dX10_source_56 rfl rfl ?_
  refine q_getR (pc := 57) (i := 1) dX10_source_57 lk_RX10_10 (lyc rfl) (G 0 0 1 rfl) ?_
  refine z_iconst (pc := 60) (v := 0) dX10_source_60 (by decide) ?_
  refine q_invV (pc := 61) (As := [.int 0]) (st := []) dX10_source_61 ok_X0_settle ml_RX10_90 iv_X0_settle pa_X0_settle ⟨Nat.le_of_ble_eq_true rfl, Nat.le_of_ble_eq_true rfl⟩ (lyc rfl) (q_kV F (fun h1 F => ?_))
  obtain ⟨G1, F⟩ := F
  refine z_iload_n (pc := 64) dX10_source_64 rfl rfl ?_
  exact q_retI (pc := 65) dX10_source_65 rfl F
theorem g_X11_source {x1 : Int32} {x2 : Int32} {h : zHp} {Q : Int32 → zHp → Prop}  (G : zG h) (F : (¬ (0 ≤ x1 ∧ x1 ≤ rI h 165 239 - 1) → (Q (-2) h)) ∧ ((0 ≤ x1 ∧ x1 ≤ rI h 165 239 - 1) → ((x2 = -1 → (zlI M_X11_source 24 [some (.ref 164), some (.int x1), some (.int x2), none] [] h Q)) ∧ (¬ (x2 = -1) → (((0 ≤ x2 ∧ x2 ≤ rI h 165 238 - 1) → (zlI M_X11_source 24 [some (.ref 164), some (.int x1), some (.int x2), none] [] h Q)) ∧ (¬ (0 ≤ x2 ∧ x2 ≤ rI h 165 238 - 1) → (Q (-2) h))))))) : zcI M_X11_source [.ref 164, .int x1, .int x2] h Q := by
  show zw zNT zNT M_X11_source 0 [some (.ref 164), some (.int x1), some (.int x2), none] [] h _
  refine z_aload_n (pc := 0) dX11_source_0 rfl rfl ?_
  refine z_iload_n (pc := 1) dX11_source_1 rfl rfl ?_
  refine q_invV (pc := 2) (As := [.int x1]) (st := []) dX11_source_2 ok_X11_isEffect ml_RX11_183 iv_X11_isEffect pa_X11_isEffect ⟨Nat.le_of_ble_eq_true rfl, Nat.le_of_ble_eq_true rfl⟩ (lyc rfl) (q_pI (s_X11_isEffect G) rfl ?_)
  refine z_if_eq (pc := 5) (tgt := 21) dX11_source_5 (by decide) (fun k3 => ?_) (fun k3 => ?_)
  · replace F := F.1 (zb0.mp k3)
    refine z_bipush (pc := 21) (v := -2) dX11_source_21 (by decide) ?_
    exact q_retI (pc := 23) dX11_source_23 rfl F
  · replace F := F.2 (zbn.mp k3)
    refine z_iload_n (pc := 8) dX11_source_8 rfl rfl ?_
    refine z_iconst (pc := 9) (v := -1) dX11_source_9 (by decide) ?_
    refine z_icmp_eq (pc := 10) (tgt := 24) dX11_source_10 (by decide) (fun k2 => ?_) (fun k2 => ?_)
    · replace F := F.1 k2
      exact F
    · replace F := F.2 k2
      refine z_aload_n (pc := 13) dX11_source_13 rfl rfl ?_
      refine z_iload_n (pc := 14) dX11_source_14 rfl rfl ?_
      refine q_invV (pc := 15) (As := [.int x2]) (st := []) dX11_source_15 ok_X11_isThing ml_RX11_88 iv_X11_isThing pa_X11_isThing ⟨Nat.le_of_ble_eq_true rfl, Nat.le_of_ble_eq_true rfl⟩ (lyc rfl) (q_pI (s_X11_isThing G) rfl ?_)
      refine z_if_ne (pc := 18) (tgt := 24) dX11_source_18 (by decide) (fun k1 => ?_) (fun k1 => ?_)
      · replace F := F.1 (zbn.mp k1)
        exact F
      · replace F := F.2 (zb0.mp k1)
        refine z_bipush (pc := 21) (v := -2) dX11_source_21 (by decide) ?_
        exact q_retI (pc := 23) dX11_source_23 rfl F
theorem g_X11_source_24 {x1 : Int32} {x2 : Int32} {h : zHp} {Q : Int32 → zHp → Prop}  (G : zG h) (F : vp_in ((80 + (7 * x1)) + 0) 246 ∧ (vp_in (80 + (7 * x1)) 246 ∧ (zcI M_X11_changed [.ref 164, .int (rI h 165 ((Int32.toNatClampNeg (((80 + (7 * x1)) + 0)))))] (wI h 165 ((Int32.toNatClampNeg (80 + (7 * x1)))) x2) (fun vh1 h1 => zG h1 ∧ (Q vh1 h1))))) : zlI M_X11_source 24 [some (.ref 164), some (.int x1), some (.int x2), none] [] h Q := by
  refine z_aload_n (pc := 24) dX11_source_24 rfl rfl ?_
  refine z_iload_n (pc := 25) dX11_source_25 rfl rfl ?_
  refine z_iconst (pc := 26) (v := 0) dX11_source_26 (by decide) ?_
  obtain ⟨k1, F⟩ := F
  refine q_invV (pc := 27) (As := [.int x1, .int 0]) (st := []) dX11_source_27 ok_X11_effectIs ml_RX11_103 iv_X11_effectIs pa_X11_effectIs ⟨Nat.le_of_ble_eq_true rfl, Nat.le_of_ble_eq_true rfl⟩ (lyc rfl) (q_pI (s_X11_effectIs G k1) rfl ?_)
  refine z_istore_n (pc := 30) (ls' := [some (.ref 164), some (.int x1), some (.int x2), some (.int (rI h 165 ((Int32.toNatClampNeg (((80 + (7 * x1)) + 0))))))]) dX11_source_30 rfl (by decide) rfl ?_
  refine z_aload_n (pc := 31) dX11_source_31 rfl rfl ?_
  refine q_getR (pc := 32) (i := 165) dX11_source_32 lk_RX11_7 (lyc rfl) (G 164 0 165 rfl) ?_
  refine z_bipush (pc := 35) (v := 80) dX11_source_35 (by decide) ?_
  refine z_bipush (pc := 37) (v := 7) dX11_source_37 (by decide) ?_
  refine z_iload_n (pc := 39) dX11_source_39 rfl rfl ?_
  refine z_imul (pc := 40) dX11_source_40 ?_
  refine z_iadd (pc := 41) dX11_source_41 ?_
  refine z_iload_n (pc := 42) dX11_source_42 rfl rfl ?_
  obtain ⟨k2, F⟩ := F
  refine q_iast (pc := 43) (j := (Int32.toNatClampNeg (80 + (7 * x1)))) dX11_source_43 (lyc rfl) (zvn (lnc rfl) k2) rfl ?_
  refine z_aload_n (pc := 44) dX11_source_44 rfl rfl ?_
  refine z_iload_n (pc := 45) dX11_source_45 rfl rfl ?_
  refine q_invV (pc := 46) (As := [.int (rI h 165 ((Int32.toNatClampNeg (((80 + (7 * x1)) + 0)))))]) (st := []) dX11_source_46 ok_X11_changed ml_RX11_167 iv_X11_changed pa_X11_changed ⟨Nat.le_of_ble_eq_true rfl, Nat.le_of_ble_eq_true rfl⟩ (lyc rfl) (q_kI F (fun vh1 h1 F => ?_))
  obtain ⟨G1, F⟩ := F
  exact q_retI (pc := 49) dX11_source_49 rfl F
theorem g_X10_lasts {x1 : Int32} {x2 : Int32} {h : zHp} {Q : Int32 → zHp → Prop}  (G : zG h) (F : (¬ (0 ≤ x1 ∧ x1 ≤ (rI h 2 3) - 1) → (Q (-2) h)) ∧ ((0 ≤ x1 ∧ x1 ≤ (rI h 2 3) - 1) → ((((0 : Int32) ≤ x2 ∧ x2 ≤ 9) → (vp_in x1 10 ∧ (zRef h 4 ((Int32.toNatClampNeg x1)) 2 ∧ (Q (rI h (rG h 4 ((Int32.toNatClampNeg x1))) 6) (wI h (rG h 4 ((Int32.toNatClampNeg x1))) 6 x2))))) ∧ (¬ ((0 : Int32) ≤ x2 ∧ x2 ≤ 9) → (Q (-2) h))))) : zcI M_X10_lasts [.ref 0, .int x1, .int x2] h Q := by
  show zw zNT zNT M_X10_lasts 0 [some (.ref 0), some (.int x1), some (.int x2), none] [] h _
  refine z_aload_n (pc := 0) dX10_lasts_0 rfl rfl ?_
  refine q_getR (pc := 1) (i := 2) dX10_lasts_1 lk_RX10_20 (lyc rfl) (G 0 1 2 rfl) ?_
  refine z_iload_n (pc := 4) dX10_lasts_4 rfl rfl ?_
  refine q_invV (pc := 5) (As := [.int x1]) (st := []) dX10_lasts_5 ok_X8_hasEffect ml_RX10_174 iv_X8_hasEffect pa_X8_hasEffect ⟨Nat.le_of_ble_eq_true rfl, Nat.le_of_ble_eq_true rfl⟩ (lyc rfl) (q_pI (s_X8_hasEffect G (Or.inl rfl)) rfl ?_)
  refine z_if_eq (pc := 8) (tgt := 21) dX10_lasts_8 (by decide) (fun k4 => ?_) (fun k4 => ?_)
  · replace F := F.1 (zb0.mp k4)
    refine z_bipush (pc := 21) (v := -2) dX10_lasts_21 (by decide) ?_
    exact q_retI (pc := 23) dX10_lasts_23 rfl F
  · replace F := F.2 (zbn.mp k4)
    refine z_iload_n (pc := 11) dX10_lasts_11 rfl rfl ?_
    refine z_iconst (pc := 12) (v := 0) dX10_lasts_12 (by decide) ?_
    refine z_bipush (pc := 13) (v := 9) dX10_lasts_13 (by decide) ?_
    refine q_invS (pc := 15) (As := [.int x2, .int 0, .int 9]) (st := []) dX10_lasts_15 ok_X10_within ml_RX10_82 st_X10_within pa_X10_within ⟨Nat.le_of_ble_eq_true rfl, Nat.le_of_ble_eq_true rfl⟩ (q_pI (s_X10_within G) rfl ?_)
    refine z_if_ne (pc := 18) (tgt := 24) dX10_lasts_18 (by decide) (fun k3 => ?_) (fun k3 => ?_)
    · replace F := F.1 (zbn.mp k3)
      refine z_aload_n (pc := 24) dX10_lasts_24 rfl rfl ?_
      refine q_getR (pc := 25) (i := 2) dX10_lasts_25 lk_RX10_20 (lyc rfl) (G 0 1 2 rfl) ?_
      refine q_getR (pc := 28) (i := 4) dX10_lasts_28 lk_RX10_164 (lyc rfl) (G 2 2 4 rfl) ?_
      refine z_iload_n (pc := 31) dX10_lasts_31 rfl rfl ?_
      obtain ⟨k1, F⟩ := F
      obtain ⟨k2, F⟩ := F
      refine q_aald (pc := 32) (j := (Int32.toNatClampNeg x1)) (r := rG h 4 ((Int32.toNatClampNeg x1))) (t := 1) dX10_lasts_32 (lyc rfl) (zvn (lnc rfl) k1) rfl k2.1 ?_
      refine q_getI (pc := 33) (v := rI h (rG h 4 ((Int32.toNatClampNeg x1))) 6) dX10_lasts_33 lk_RX10_180 k2.2 rfl ?_
      refine z_istore_n (pc := 36) (ls' := [some (.ref 0), some (.int x1), some (.int x2), some (.int (rI h (rG h 4 ((Int32.toNatClampNeg x1))) 6))]) dX10_lasts_36 rfl (by decide) rfl ?_
      refine z_aload_n (pc := 37) dX10_lasts_37 rfl rfl ?_
      refine q_getR (pc := 38) (i := 2) dX10_lasts_38 lk_RX10_20 (lyc rfl) (G 0 1 2 rfl) ?_
      refine q_getR (pc := 41) (i := 4) dX10_lasts_41 lk_RX10_164 (lyc rfl) (G 2 2 4 rfl) ?_
      refine z_iload_n (pc := 44) dX10_lasts_44 rfl rfl ?_
      refine q_aald (pc := 45) (j := (Int32.toNatClampNeg x1)) (r := rG h 4 ((Int32.toNatClampNeg x1))) (t := 1) dX10_lasts_45 (lyc rfl) (zvn (lnc rfl) k1) rfl k2.1 ?_
      refine z_iload_n (pc := 46) dX10_lasts_46 rfl rfl ?_
      refine q_putI (pc := 47) dX10_lasts_47 lk_RX10_180 k2.2 ?_
      refine z_iload_n (pc := 50) dX10_lasts_50 rfl rfl ?_
      exact q_retI (pc := 51) dX10_lasts_51 rfl F
    · replace F := F.2 (zb0.mp k3)
      refine z_bipush (pc := 21) (v := -2) dX10_lasts_21 (by decide) ?_
      exact q_retI (pc := 23) dX10_lasts_23 rfl F
theorem g_X11_lasts {x1 : Int32} {x2 : Int32} {h : zHp} {Q : Int32 → zHp → Prop}  (G : zG h) (F : (¬ (0 ≤ x1 ∧ x1 ≤ rI h 165 239 - 1) → (Q (-2) h)) ∧ ((0 ≤ x1 ∧ x1 ≤ rI h 165 239 - 1) → ((((0 : Int32) ≤ x2 ∧ x2 ≤ 9) → (vp_in ((80 + (7 * x1)) + 6) 246 ∧ (vp_in ((80 + (7 * x1)) + 6) 246 ∧ (zcI M_X11_changed [.ref 164, .int (rI h 165 ((Int32.toNatClampNeg (((80 + (7 * x1)) + 6)))))] (wI h 165 ((Int32.toNatClampNeg ((80 + (7 * x1)) + 6))) x2) (fun vh1 h1 => zG h1 ∧ (Q vh1 h1)))))) ∧ (¬ ((0 : Int32) ≤ x2 ∧ x2 ≤ 9) → (Q (-2) h))))) : zcI M_X11_lasts [.ref 164, .int x1, .int x2] h Q := by
  show zw zNT zNT M_X11_lasts 0 [some (.ref 164), some (.int x1), some (.int x2), none] [] h _
  refine z_aload_n (pc := 0) dX11_lasts_0 rfl rfl ?_
  refine z_iload_n (pc := 1) dX11_lasts_1 rfl rfl ?_
  refine q_invV (pc := 2) (As := [.int x1]) (st := []) dX11_lasts_2 ok_X11_isEffect ml_RX11_183 iv_X11_isEffect pa_X11_isEffect ⟨Nat.le_of_ble_eq_true rfl, Nat.le_of_ble_eq_true rfl⟩ (lyc rfl) (q_pI (s_X11_isEffect G) rfl ?_)
  refine z_if_eq (pc := 5) (tgt := 18) dX11_lasts_5 (by decide) (fun k5 => ?_) (fun k5 => ?_)
  · replace F := F.1 (zb0.mp k5)
    refine z_bipush (pc := 18) (v := -2) dX11_lasts_18 (by decide) ?_
    exact q_retI (pc := 20) dX11_lasts_20 rfl F
  · replace F := F.2 (zbn.mp k5)
    refine z_iload_n (pc := 8) dX11_lasts_8 rfl rfl ?_
    refine z_iconst (pc := 9) (v := 0) dX11_lasts_9 (by decide) ?_
    refine z_bipush (pc := 10) (v := 9) dX11_lasts_10 (by decide) ?_
    refine q_invS (pc := 12) (As := [.int x2, .int 0, .int 9]) (st := []) dX11_lasts_12 ok_X11_in ml_RX11_84 st_X11_in pa_X11_in ⟨Nat.le_of_ble_eq_true rfl, Nat.le_of_ble_eq_true rfl⟩ (q_pI (s_X11_in G) rfl ?_)
    refine z_if_ne (pc := 15) (tgt := 21) dX11_lasts_15 (by decide) (fun k4 => ?_) (fun k4 => ?_)
    · replace F := F.1 (zbn.mp k4)
      refine z_aload_n (pc := 21) dX11_lasts_21 rfl rfl ?_
      refine z_iload_n (pc := 22) dX11_lasts_22 rfl rfl ?_
      refine z_bipush (pc := 23) (v := 6) dX11_lasts_23 (by decide) ?_
      obtain ⟨k1, F⟩ := F
      refine q_invV (pc := 25) (As := [.int x1, .int 6]) (st := []) dX11_lasts_25 ok_X11_effectIs ml_RX11_103 iv_X11_effectIs pa_X11_effectIs ⟨Nat.le_of_ble_eq_true rfl, Nat.le_of_ble_eq_true rfl⟩ (lyc rfl) (q_pI (s_X11_effectIs G k1) rfl ?_)
      refine z_istore_n (pc := 28) (ls' := [some (.ref 164), some (.int x1), some (.int x2), some (.int (rI h 165 ((Int32.toNatClampNeg (((80 + (7 * x1)) + 6))))))]) dX11_lasts_28 rfl (by decide) rfl ?_
      refine z_aload_n (pc := 29) dX11_lasts_29 rfl rfl ?_
      refine q_getR (pc := 30) (i := 165) dX11_lasts_30 lk_RX11_7 (lyc rfl) (G 164 0 165 rfl) ?_
      refine z_bipush (pc := 33) (v := 80) dX11_lasts_33 (by decide) ?_
      refine z_bipush (pc := 35) (v := 7) dX11_lasts_35 (by decide) ?_
      refine z_iload_n (pc := 37) dX11_lasts_37 rfl rfl ?_
      refine z_imul (pc := 38) dX11_lasts_38 ?_
      refine z_iadd (pc := 39) dX11_lasts_39 ?_
      refine z_bipush (pc := 40) (v := 6) dX11_lasts_40 (by decide) ?_
      refine z_iadd (pc := 42) dX11_lasts_42 ?_
      refine z_iload_n (pc := 43) dX11_lasts_43 rfl rfl ?_
      obtain ⟨k2, F⟩ := F
      refine q_iast (pc := 44) (j := (Int32.toNatClampNeg ((80 + (7 * x1)) + 6))) dX11_lasts_44 (lyc rfl) (zvn (lnc rfl) k2) rfl ?_
      refine z_aload_n (pc := 45) dX11_lasts_45 rfl rfl ?_
      refine z_iload_n (pc := 46) dX11_lasts_46 rfl rfl ?_
      refine q_invV (pc := 47) (As := [.int (rI h 165 ((Int32.toNatClampNeg (((80 + (7 * x1)) + 6)))))]) (st := []) dX11_lasts_47 ok_X11_changed ml_RX11_167 iv_X11_changed pa_X11_changed ⟨Nat.le_of_ble_eq_true rfl, Nat.le_of_ble_eq_true rfl⟩ (lyc rfl) (q_kI F (fun vh1 h1 F => ?_))
      obtain ⟨G1, F⟩ := F
      exact q_retI (pc := 50) dX11_lasts_50 rfl F
    · replace F := F.2 (zb0.mp k4)
      refine z_bipush (pc := 18) (v := -2) dX11_lasts_18 (by decide) ?_
      exact q_retI (pc := 20) dX11_lasts_20 rfl F
theorem g_X10_ends {x1 : Int32} {h : zHp} {Q : Int32 → zHp → Prop}  (G : zG h) (F : ((0 ≤ x1 ∧ x1 ≤ (rI h 2 3) - 1) → (zcV M_X8_dropEffect [.ref 2, .int x1] h (fun h1 => zG h1 ∧ (zcV M_X0_settle [.ref 1, .int 0] h1 (fun h2 => zG h2 ∧ (Q (rI h2 2 3) h2)))))) ∧ (¬ (0 ≤ x1 ∧ x1 ≤ (rI h 2 3) - 1) → (Q (-2) h))) : zcI M_X10_ends [.ref 0, .int x1] h Q := by
  show zw zNT zNT M_X10_ends 0 [some (.ref 0), some (.int x1)] [] h _
  refine z_aload_n (pc := 0) dX10_ends_0 rfl rfl ?_
  refine q_getR (pc := 1) (i := 2) dX10_ends_1 lk_RX10_20 (lyc rfl) (G 0 1 2 rfl) ?_
  refine z_iload_n (pc := 4) dX10_ends_4 rfl rfl ?_
  refine q_invV (pc := 5) (As := [.int x1]) (st := []) dX10_ends_5 ok_X8_hasEffect ml_RX10_174 iv_X8_hasEffect pa_X8_hasEffect ⟨Nat.le_of_ble_eq_true rfl, Nat.le_of_ble_eq_true rfl⟩ (lyc rfl) (q_pI (s_X8_hasEffect G (Or.inl rfl)) rfl ?_)
  refine z_if_ne (pc := 8) (tgt := 14) dX10_ends_8 (by decide) (fun k3 => ?_) (fun k3 => ?_)
  · replace F := F.1 (zbn.mp k3)
    refine z_aload_n (pc := 14) dX10_ends_14 rfl rfl ?_
    refine q_getR (pc := 15) (i := 2) dX10_ends_15 lk_RX10_20 (lyc rfl) (G 0 1 2 rfl) ?_
    refine z_iload_n (pc := 18) dX10_ends_18 rfl rfl ?_
    refine q_invV (pc := 19) (As := [.int x1]) (st := []) dX10_ends_19 ok_X8_dropEffect ml_RX10_183 iv_X8_dropEffect pa_X8_dropEffect ⟨Nat.le_of_ble_eq_true rfl, Nat.le_of_ble_eq_true rfl⟩ (lyc rfl) (q_kV F (fun h1 F => ?_))
    obtain ⟨G1, F⟩ := F
    refine z_aload_n (pc := 22) dX10_ends_22 rfl rfl ?_
    refine q_getR (pc := 23) (i := 1) dX10_ends_23 lk_RX10_10 (lyc rfl) (G1 0 0 1 rfl) ?_
    refine z_iconst (pc := 26) (v := 0) dX10_ends_26 (by decide) ?_
    refine q_invV (pc := 27) (As := [.int 0]) (st := []) dX10_ends_27 ok_X0_settle ml_RX10_90 iv_X0_settle pa_X0_settle ⟨Nat.le_of_ble_eq_true rfl, Nat.le_of_ble_eq_true rfl⟩ (lyc rfl) (q_kV F (fun h2 F => ?_))
    obtain ⟨G2, F⟩ := F
    refine z_aload_n (pc := 30) dX10_ends_30 rfl rfl ?_
    refine q_getR (pc := 31) (i := 2) dX10_ends_31 lk_RX10_20 (lyc rfl) (G2 0 1 2 rfl) ?_
    refine q_getI (pc := 34) (v := rI h2 2 3) dX10_ends_34 lk_RX10_161 (lyc rfl) rfl ?_
    exact q_retI (pc := 37) dX10_ends_37 rfl F
  · replace F := F.2 (zb0.mp k3)
    refine z_bipush (pc := 11) (v := -2) dX10_ends_11 (by decide) ?_
    exact q_retI (pc := 13) dX10_ends_13 rfl F
theorem g_X11_ends {x1 : Int32} {h : zHp} {Q : Int32 → zHp → Prop}  (G : zG h) (F : ((0 ≤ x1 ∧ x1 ≤ rI h 165 239 - 1) → (zcV M_X11_goes [.ref 164, .int 80, .int 7, .int 239, .int x1] h (fun h1 => zG h1 ∧ (zcI M_X11_changed [.ref 164, .int (rI h1 165 239)] h1 (fun vh2 h2 => zG h2 ∧ (Q vh2 h2)))))) ∧ (¬ (0 ≤ x1 ∧ x1 ≤ rI h 165 239 - 1) → (Q (-2) h))) : zcI M_X11_ends [.ref 164, .int x1] h Q := by
  show zw zNT zNT M_X11_ends 0 [some (.ref 164), some (.int x1)] [] h _
  refine z_aload_n (pc := 0) dX11_ends_0 rfl rfl ?_
  refine z_iload_n (pc := 1) dX11_ends_1 rfl rfl ?_
  refine q_invV (pc := 2) (As := [.int x1]) (st := []) dX11_ends_2 ok_X11_isEffect ml_RX11_183 iv_X11_isEffect pa_X11_isEffect ⟨Nat.le_of_ble_eq_true rfl, Nat.le_of_ble_eq_true rfl⟩ (lyc rfl) (q_pI (s_X11_isEffect G) rfl ?_)
  refine z_if_ne (pc := 5) (tgt := 11) dX11_ends_5 (by decide) (fun k3 => ?_) (fun k3 => ?_)
  · replace F := F.1 (zbn.mp k3)
    refine z_aload_n (pc := 11) dX11_ends_11 rfl rfl ?_
    refine z_bipush (pc := 12) (v := 80) dX11_ends_12 (by decide) ?_
    refine z_bipush (pc := 14) (v := 7) dX11_ends_14 (by decide) ?_
    refine z_sipush (pc := 16) (v := 239) dX11_ends_16 (by decide) ?_
    refine z_iload_n (pc := 19) dX11_ends_19 rfl rfl ?_
    refine q_invV (pc := 20) (As := [.int 80, .int 7, .int 239, .int x1]) (st := []) dX11_ends_20 ok_X11_goes ml_RX11_186 iv_X11_goes pa_X11_goes ⟨Nat.le_of_ble_eq_true rfl, Nat.le_of_ble_eq_true rfl⟩ (lyc rfl) (q_kV F (fun h1 F => ?_))
    obtain ⟨G1, F⟩ := F
    refine z_aload_n (pc := 23) dX11_ends_23 rfl rfl ?_
    refine z_aload_n (pc := 24) dX11_ends_24 rfl rfl ?_
    refine q_getR (pc := 25) (i := 165) dX11_ends_25 lk_RX11_7 (lyc rfl) (G1 164 0 165 rfl) ?_
    refine z_sipush (pc := 28) (v := 239) dX11_ends_28 (by decide) ?_
    refine q_iald (pc := 31) (j := 239) (v := rI h1 165 239) dX11_ends_31 (lyc rfl) (zvl (lnc rfl) (by decide)) (by decide) rfl ?_
    refine q_invV (pc := 32) (As := [.int (rI h1 165 239)]) (st := []) dX11_ends_32 ok_X11_changed ml_RX11_167 iv_X11_changed pa_X11_changed ⟨Nat.le_of_ble_eq_true rfl, Nat.le_of_ble_eq_true rfl⟩ (lyc rfl) (q_kI F (fun vh2 h2 F => ?_))
    obtain ⟨G2, F⟩ := F
    exact q_retI (pc := 35) dX11_ends_35 rfl F
  · replace F := F.2 (zb0.mp k3)
    refine z_bipush (pc := 8) (v := -2) dX11_ends_8 (by decide) ?_
    exact q_retI (pc := 10) dX11_ends_10 rfl F
theorem g_X10_order {x1 : Int32} {h : zHp} {Q : Int32 → zHp → Prop}  (G : zG h) (F : (-1 ≤ x1 → ((¬ x1 = -1 → ((x1 < rI h 42 5 → (vp_in x1 10 ∧ (Q (rI h 47 ((Int32.toNatClampNeg x1))) h))) ∧ (¬ (x1 < rI h 42 5) → (Q (-1) h)))) ∧ (x1 = -1 → (Q (rI h 42 5) h)))) ∧ (¬ (-1 ≤ x1) → (Q (-2) h))) : zcI M_X10_order [.ref 0, .int x1] h Q := by
  show zw zNT zNT M_X10_order 0 [some (.ref 0), some (.int x1)] [] h _
  refine z_iload_n (pc := 0) dX10_order_0 rfl rfl ?_
  refine z_iconst (pc := 1) (v := -1) dX10_order_1 (by decide) ?_
  refine z_icmp_ge (pc := 2) (tgt := 8) dX10_order_2 (by decide) (fun k4 => ?_) (fun k4 => ?_)
  · replace F := F.1 k4
    refine z_iload_n (pc := 8) dX10_order_8 rfl rfl ?_
    refine z_iconst (pc := 9) (v := -1) dX10_order_9 (by decide) ?_
    refine z_icmp_ne (pc := 10) (tgt := 21) dX10_order_10 (by decide) (fun k3 => ?_) (fun k3 => ?_)
    · replace F := F.1 k3
      refine z_iload_n (pc := 21) dX10_order_21 rfl rfl ?_
      refine z_aload_n (pc := 22) dX10_order_22 rfl rfl ?_
      refine q_getR (pc := 23) (i := 42) dX10_order_23 lk_RX10_27 (lyc rfl) (G 0 2 42 rfl) ?_
      refine q_getI (pc := 26) (v := rI h 42 5) dX10_order_26 lk_RX10_187 (lyc rfl) rfl ?_
      refine z_icmp_lt (pc := 29) (tgt := 34) dX10_order_29 (by decide) (fun k2 => ?_) (fun k2 => ?_)
      · replace F := F.1 k2
        refine z_aload_n (pc := 34) dX10_order_34 rfl rfl ?_
        refine q_getR (pc := 35) (i := 42) dX10_order_35 lk_RX10_27 (lyc rfl) (G 0 2 42 rfl) ?_
        refine q_getR (pc := 38) (i := 47) dX10_order_38 lk_RX10_190 (lyc rfl) (G 42 4 47 rfl) ?_
        refine z_iload_n (pc := 41) dX10_order_41 rfl rfl ?_
        obtain ⟨k1, F⟩ := F
        refine q_iald (pc := 42) (j := (Int32.toNatClampNeg x1)) (v := rI h 47 ((Int32.toNatClampNeg x1))) dX10_order_42 (lyc rfl) (zvn (lnc rfl) k1) rfl rfl ?_
        exact q_retI (pc := 43) dX10_order_43 rfl F
      · replace F := F.2 k2
        refine z_iconst (pc := 32) (v := -1) dX10_order_32 (by decide) ?_
        exact q_retI (pc := 33) dX10_order_33 rfl F
    · replace F := F.2 k3
      refine z_aload_n (pc := 13) dX10_order_13 rfl rfl ?_
      refine q_getR (pc := 14) (i := 42) dX10_order_14 lk_RX10_27 (lyc rfl) (G 0 2 42 rfl) ?_
      refine q_getI (pc := 17) (v := rI h 42 5) dX10_order_17 lk_RX10_187 (lyc rfl) rfl ?_
      exact q_retI (pc := 20) dX10_order_20 rfl F
  · replace F := F.2 k4
    refine z_bipush (pc := 5) (v := -2) dX10_order_5 (by decide) ?_
    exact q_retI (pc := 7) dX10_order_7 rfl F
theorem g_X11_order {x1 : Int32} {h : zHp} {Q : Int32 → zHp → Prop}  (G : zG h) (F : (-1 ≤ x1 → (zcV M_X11_makes [.ref 164, .int 5] h (fun h1 => zG h1 ∧ ((¬ x1 = -1 → ((rI h1 164 7 ≤ x1 → (Q (-1) h1)) ∧ (¬ (rI h1 164 7 ≤ x1) → (vp_in x1 10 ∧ (Q (rI h1 170 ((Int32.toNatClampNeg x1))) h1))))) ∧ (x1 = -1 → (Q (rI h1 164 7) h1)))))) ∧ (¬ (-1 ≤ x1) → (Q (-2) h))) : zcI M_X11_order [.ref 164, .int x1] h Q := by
  show zw zNT zNT M_X11_order 0 [some (.ref 164), some (.int x1)] [] h _
  refine z_iload_n (pc := 0) dX11_order_0 rfl rfl ?_
  refine z_iconst (pc := 1) (v := -1) dX11_order_1 (by decide) ?_
  refine z_icmp_ge (pc := 2) (tgt := 8) dX11_order_2 (by decide) (fun k5 => ?_) (fun k5 => ?_)
  · replace F := F.1 k5
    refine z_aload_n (pc := 8) dX11_order_8 rfl rfl ?_
    refine z_iconst (pc := 9) (v := 5) dX11_order_9 (by decide) ?_
    refine q_invV (pc := 10) (As := [.int 5]) (st := []) dX11_order_10 ok_X11_makes ml_RX11_145 iv_X11_makes pa_X11_makes ⟨Nat.le_of_ble_eq_true rfl, Nat.le_of_ble_eq_true rfl⟩ (lyc rfl) (q_kV F (fun h1 F => ?_))
    obtain ⟨G1, F⟩ := F
    refine z_iload_n (pc := 13) dX11_order_13 rfl rfl ?_
    refine z_iconst (pc := 14) (v := -1) dX11_order_14 (by decide) ?_
    refine z_icmp_ne (pc := 15) (tgt := 25) dX11_order_15 (by decide) (fun k4 => ?_) (fun k4 => ?_)
    · replace F := F.1 k4
      refine z_iload_n (pc := 25) dX11_order_25 rfl rfl ?_
      refine z_aload_n (pc := 26) dX11_order_26 rfl rfl ?_
      refine q_getI (pc := 27) (v := rI h1 164 7) dX11_order_27 lk_RX11_121 (lyc rfl) rfl ?_
      refine z_icmp_ge (pc := 30) (tgt := 42) dX11_order_30 (by decide) (fun k3 => ?_) (fun k3 => ?_)
      · replace F := F.1 k3
        refine z_iconst (pc := 42) (v := -1) dX11_order_42 (by decide) ?_
        exact q_retI (pc := 43) dX11_order_43 rfl F
      · replace F := F.2 k3
        refine z_aload_n (pc := 33) dX11_order_33 rfl rfl ?_
        refine q_getR (pc := 34) (i := 170) dX11_order_34 lk_RX11_25 (lyc rfl) (G1 164 6 170 rfl) ?_
        refine z_iload_n (pc := 37) dX11_order_37 rfl rfl ?_
        obtain ⟨k2, F⟩ := F
        refine q_iald (pc := 38) (j := (Int32.toNatClampNeg x1)) (v := rI h1 170 ((Int32.toNatClampNeg x1))) dX11_order_38 (lyc rfl) (zvn (lnc rfl) k2) rfl rfl ?_
        refine z_goto (pc := 39) (tgt := 43) dX11_order_39 (by decide) ?_
        exact q_retI (pc := 43) dX11_order_43 rfl F
    · replace F := F.2 k4
      refine z_aload_n (pc := 18) dX11_order_18 rfl rfl ?_
      refine q_getI (pc := 19) (v := rI h1 164 7) dX11_order_19 lk_RX11_121 (lyc rfl) rfl ?_
      refine z_goto (pc := 22) (tgt := 43) dX11_order_22 (by decide) ?_
      exact q_retI (pc := 43) dX11_order_43 rfl F
  · replace F := F.2 k5
    refine z_bipush (pc := 5) (v := -2) dX11_order_5 (by decide) ?_
    exact q_retI (pc := 7) dX11_order_7 rfl F
/-- an effect is laid into place e -/
def lay (N : zN) (e : Nat) (s w x v u : Int32) : zN := upd (upd (upd (upd (upd (upd (upd N (80 + 7 * e) (-1)) (80 + 7 * e + 1) s) (80 + 7 * e + 2) w) (80 + 7 * e + 3) x) (80 + 7 * e + 4) v) (80 + 7 * e + 5) u) (80 + 7 * e + 6) 0
theorem lay_o {N : zN} {e i : Nat} {s w x v u : Int32} (h : i < 80 + 7 * e ∨ 80 + 7 * e + 7 ≤ i) : lay N e s w x v u i = N i := by
  unfold lay
  rw [pk_un (by omega), pk_un (by omega), pk_un (by omega), pk_un (by omega), pk_un (by omega), pk_un (by omega), pk_un (by omega)]
theorem lay_f {N : zN} {e : Nat} {s w x v u : Int32} : lay N e s w x v u (80 + 7 * e) = -1 ∧ lay N e s w x v u (80 + 7 * e + 1) = s ∧ lay N e s w x v u (80 + 7 * e + 2) = w ∧ lay N e s w x v u (80 + 7 * e + 3) = x ∧ lay N e s w x v u (80 + 7 * e + 4) = v ∧ lay N e s w x v u (80 + 7 * e + 5) = u ∧ lay N e s w x v u (80 + 7 * e + 6) = 0 := by
  unfold lay
  refine ⟨?_, ?_, ?_, ?_, ?_, ?_, ?_⟩
  · rw [pk_un (by omega), pk_un (by omega), pk_un (by omega), pk_un (by omega), pk_un (by omega), pk_un (by omega), pk_us]
  · rw [pk_un (by omega), pk_un (by omega), pk_un (by omega), pk_un (by omega), pk_un (by omega), pk_us]
  · rw [pk_un (by omega), pk_un (by omega), pk_un (by omega), pk_un (by omega), pk_us]
  · rw [pk_un (by omega), pk_un (by omega), pk_un (by omega), pk_us]
  · rw [pk_un (by omega), pk_un (by omega), pk_us]
  · rw [pk_un (by omega), pk_us]
  · rw [pk_us]
theorem ixE0 {e : Nat} (he : e < 10) : vp_in (80 + 7 * nI e) 246 ∧ (80 + 7 * nI e).toNatClampNeg = 80 + 7 * e := by
  have e1 : 80 + 7 * nI e = nI (80 + 7 * e) := by rw [show (80 : Int32) = nI 80 from rfl, show (7 : Int32) = nI 7 from rfl, pk_mul, nI_add]
  rw [e1]
  exact ⟨vp_in_nI (by omega) (by omega), nI_clamp (by omega)⟩
theorem s_X11_lays {N : zN} {e : Nat} {s w x v u : Int32} {h : zHp} (G : zG h) (hN : h.1 165 = N) (he : e < 10) : zcV M_X11_lays [.ref 164, .int (nI e), .int s, .int w, .int x, .int v, .int u] h (fun h' => h' = wA h 165 (lay N e s w x v u)) := by
  obtain ⟨-, i1, i2, i3, i4, i5, i6⟩ := ixE' (e := e) he
  have i0 := ixE0 (e := e) he
  refine g_X11_lays G ?_
  rw [i0.2, i1.2, i2.2, i3.2, i4.2, i5.2, i6.2]
  refine ⟨i0.1, i1.1, i2.1, i3.1, i4.1, i5.1, i6.1, ?_⟩
  rw [show wI h 165 (80 + 7 * e) (-1) = wA h 165 (upd N (80 + 7 * e) (-1)) by rw [wI_wA, hN], wA_wI, wA_wI, wA_wI, wA_wI, wA_wI, wA_wI]
  rfl
noncomputable def aE (N : zN) (s w x v u : Int32) : zN := upd (lay N (cE N) s w x v u) 239 (nI (cE N + 1))
theorem aE_ad {N : zN} {s w x v u : Int32} (hC : CN N) (h : cE N < 10) : adE N (aE N s w x v u) := ⟨pk_us, fun i h1 h2 => (pk_un h1).trans (lay_o h2)⟩
theorem aE_f {N : zN} {s w x v u : Int32} (h : cE N < 10) : aE N s w x v u (80 + 7 * cE N) = -1 ∧ aE N s w x v u (80 + 7 * cE N + 1) = s ∧ aE N s w x v u (80 + 7 * cE N + 2) = w ∧ aE N s w x v u (80 + 7 * cE N + 3) = x ∧ aE N s w x v u (80 + 7 * cE N + 4) = v ∧ aE N s w x v u (80 + 7 * cE N + 5) = u ∧ aE N s w x v u (80 + 7 * cE N + 6) = 0 := by
  obtain ⟨a0, a1, a2, a3, a4, a5, a6⟩ := lay_f (N := N) (e := cE N) (s := s) (w := w) (x := x) (v := v) (u := u)
  exact ⟨(pk_un (by omega)).trans a0, (pk_un (by omega)).trans a1, (pk_un (by omega)).trans a2, (pk_un (by omega)).trans a3, (pk_un (by omega)).trans a4, (pk_un (by omega)).trans a5, (pk_un (by omega)).trans a6⟩
/-- an effect as it may be told -/
def okE (s w x v u : Int32) : Prop := ((0 : Int32) ≤ s ∧ s ≤ 5) ∧ okSc w x ∧ (if s ≤ 2 then (0 : Int32) ≤ v ∧ v ≤ 5 else (-9 : Int32) ≤ v ∧ v ≤ 9) ∧ ((-9 : Int32) ≤ u ∧ u ≤ 9)
theorem okSc_iv {w x : Int32} (h : okSc w x) : iv 0 5 w ∧ (¬ w = 0 → iv 0 7 x) := by
  rcases h with z | ⟨z1, z2, z3⟩
  · rw [z]; exact ⟨⟨by decide, by decide⟩, fun y => absurd rfl y⟩
  · refine ⟨(iv_of (a := 1) (b := 5) z1 rfl rfl).mono (by decide) (by decide), fun _ => ?_⟩
    have l := (iv_0' x).mp z2
    refine ⟨l, ?_⟩
    have := Int32.le_iff_toInt_le.mp z3
    split at this
    · exact Int.le_trans this (by decide)
    · split at this
      · exact this
      · exact Int.le_trans this (by decide)
theorem okE_q {N : zN} {s w x v u : Int32} (h : cE N < 10) (ok : okE s w x v u) : QE (aE N s w x v u) (cE N) := by
  obtain ⟨a0, a1, a2, a3, a4, a5, a6⟩ := aE_f (N := N) (s := s) (w := w) (x := x) (v := v) (u := u) h
  obtain ⟨k1, k2, k3, k4⟩ := ok
  unfold QE
  rw [a1, a2, a3, a4, a5, a6]
  refine ⟨iv_of k1 rfl rfl, (okSc_iv k2).1, (okSc_iv k2).2, ?_, iv_of k4 rfl rfl, ⟨by decide, by decide⟩⟩
  by_cases z : s ≤ 2
  · rw [if_pos z] at k3
    exact (iv_of (a := 0) (b := 5) k3 rfl rfl).mono (by decide) (by decide)
  · rw [if_neg z] at k3
    exact iv_of k3 rfl rfl
theorem s_X10_fitsEffect {s v : Int32} {h : zHp} (G : zG h) : zcI M_X10_fitsEffect [.int s, .int v] h (fun r h' => r = zb (if s ≤ 2 then (0 : Int32) ≤ v ∧ v ≤ 5 else (-9 : Int32) ≤ v ∧ v ≤ 9) ∧ h' = h) := by
  refine g_X10_fitsEffect G ⟨fun z => ⟨?_, rfl⟩, fun z => ⟨?_, rfl⟩⟩
  · rw [if_neg (Int32.not_le.mpr z)]
  · rw [if_pos (Int32.not_lt.mp z)]
theorem three_le {s : Int32} : 3 ≤ s ↔ ¬ s ≤ 2 := by
  rw [Int32.le_iff_toInt_le, Int32.le_iff_toInt_le]
  show (3 : Int) ≤ _ ↔ ¬ _ ≤ (2 : Int)
  omega
theorem s_X11_isDeed {s v u : Int32} {h : zHp} (G : zG h) : zcI M_X11_isDeed [.int s, .int v, .int u] h (fun r h' => r = zb (((0 : Int32) ≤ s ∧ s ≤ 5) ∧ (if s ≤ 2 then (0 : Int32) ≤ v ∧ v ≤ 5 else (-9 : Int32) ≤ v ∧ v ≤ 9) ∧ ((-9 : Int32) ≤ u ∧ u ≤ 9)) ∧ h' = h) := by
  have fin : ∀ lo hi : Int32, ((0 : Int32) ≤ s ∧ s ≤ 5) → ((lo ≤ v ∧ v ≤ hi) ↔ (if s ≤ 2 then (0 : Int32) ≤ v ∧ v ≤ 5 else (-9 : Int32) ≤ v ∧ v ≤ 9)) → zlI M_X11_isDeed 32 [some (.int s), some (.int v), some (.int u)] [.int hi, .int lo, .int v] h (fun r h' => r = zb (((0 : Int32) ≤ s ∧ s ≤ 5) ∧ (if s ≤ 2 then (0 : Int32) ≤ v ∧ v ≤ 5 else (-9 : Int32) ≤ v ∧ v ≤ 9) ∧ ((-9 : Int32) ≤ u ∧ u ≤ 9)) ∧ h' = h) := by
    intro lo hi k1 k2
    exact g_X11_isDeed_32 G ⟨fun z => ⟨(zb_neg (fun y => z (k2.mpr y.2.1))).symm, rfl⟩, fun z => ⟨fun y => ⟨(zb_neg (fun x => y x.2.2)).symm, rfl⟩, fun y => ⟨(zb_pos ⟨k1, k2.mp z, y⟩).symm, rfl⟩⟩⟩
  refine g_X11_isDeed G ⟨fun z => ⟨(zb_neg (fun y => z y.1)).symm, rfl⟩, fun z => ⟨fun y => ⟨fun _ => fin _ _ z ?_, fun x => absurd y x⟩, fun y => ⟨fun x => absurd x y, fun _ => fin _ _ z ?_⟩⟩⟩
  · rw [if_neg (three_le.mp y)]
  · rw [if_pos (Classical.byContradiction (fun x => y (three_le.mpr x)))]
noncomputable def o_effect (N : zN) (s w x v u : Int32) : Int32 × zN := @ite _ (okE s w x v u) (Classical.propDecidable _) (if cE N < 10 then (nI (cE N), RF (aE N s w x v u)) else (-4, N)) (-2, N)
theorem sim_effect {s w x v u : Int32} : Sim M_X10_effect M_X11_effect [.int s, .int w, .int x, .int v, .int u] := by
  refine simW (ans := fun N => (o_effect N s w x v u).1) (F := fun N => (o_effect N s w x v u).2) (fun h N G q I => ?_) (fun h N G q e top => ?_) (fun N q => ?_)
  · obtain ⟨hC, hQ, hS⟩ := q
    obtain ⟨hP, hR, hL, ht⟩ := I
    have h10 := hC.2.1.2
    have bad : ¬ okE s w x v u → (-2 = (o_effect N s w x v u).1 ∧ fZ h h ∧ IC h (o_effect N s w x v u).2) := fun z => by
      unfold o_effect
      rw [if_neg z]
      exact ⟨rfl, fZ.rf, hP, hR, hL, ht⟩
    refine g_X10_effect G ⟨fun z => bad (fun y => z y.1), fun z1 => ⟨fun z2 => zcI_use (s_X10_fitsEffect G) ⟨G, fun z => bad (fun y => (zb0.mp z) y.2.2.1), fun z3 => ⟨fun z4 => ?_, fun z => bad (fun y => z y.2.2.2)⟩⟩, fun z => bad (fun y => z y.2.1)⟩⟩
    have ok : okE s w x v u := ⟨z1, z2, zbn.mp z3, z4⟩
    unfold o_effect
    rw [if_pos ok, hR.1.2.1, hC.2.1.1, nI_clamp (by omega), nI_1]
    refine ⟨fun z => ?_, fun z => ?_⟩
    · have c10 : cE N < 10 := (nI_ltI (a := cE N) (b := 10) (by omega) (by omega)).mp z
      rw [if_pos c10]
      obtain ⟨c1, c2⟩ := adE_q hC hQ c10 (aE_ad hC c10) (okE_q c10 ok)
      have lc := hP.e (Or.inl rfl) c10
      have pn := hP.1.1 (cE N) c10
      change rR h 4 (cE N) = some (rG h 4 (cE N)) ∧ 2 + 14 ≤ rG h 4 (cE N) ∧ rG h 4 (cE N) < 2 + 14 + 10 at pn
      obtain ⟨a0, a1, a2, a3, a4, a5, a6⟩ := aE_f (N := N) (s := s) (w := w) (x := x) (v := v) (u := u) c10
      refine ⟨vp_in_nI (by omega) (by omega), lc, ?_⟩
      generalize hg : rG h 4 (cE N) = g at *
      have rw1 : RW (wI (wI (wI (wI (wI (wI (wI (wI h g 0 (-1)) g 1 s) g 2 w) g 3 x) g 4 v) g 5 u) g 6 0) 2 3 (nI (cE N + 1))) 2 (aE N s w x v u) := by
        refine adE_r (h := h) hC c10 (aE_ad hC c10) hP hR rfl (fun a k h1 h2 => ?_) rI_s (fun k hk => ?_)
        · change a ≠ rG h 4 (cE N) at h1
          rw [hg] at h1
          have : ∀ z : zHp, rI (wI z 2 3 (nI (cE N + 1))) a k = rI z a k := fun z => by
            rcases h2 with y | y
            · exact rI_c y
            · exact rI_k y
          rw [this, rI_c h1, rI_c h1, rI_c h1, rI_c h1, rI_c h1, rI_c h1, rI_c h1]
        · change rI _ (rG h 4 (cE N)) k = _
          rw [hg, rI_c (by omega)]
          rcases (by omega : k = 0 ∨ k = 1 ∨ k = 2 ∨ k = 3 ∨ k = 4 ∨ k = 5 ∨ k = 6) with z | z | z | z | z | z | z <;> subst z
          · rw [rI_k (by decide), rI_k (by decide), rI_k (by decide), rI_k (by decide), rI_k (by decide), rI_k (by decide), rI_s]; exact a0.symm
          · rw [rI_k (by decide), rI_k (by decide), rI_k (by decide), rI_k (by decide), rI_k (by decide), rI_s]; exact a1.symm
          · rw [rI_k (by decide), rI_k (by decide), rI_k (by decide), rI_k (by decide), rI_s]; exact a2.symm
          · rw [rI_k (by decide), rI_k (by decide), rI_k (by decide), rI_s]; exact a3.symm
          · rw [rI_k (by decide), rI_k (by decide), rI_s]; exact a4.symm
          · rw [rI_k (by decide), rI_s]; exact a5.symm
          · rw [rI_s]; exact a6.symm
      have f1 : fW h (wI (wI (wI (wI (wI (wI (wI (wI h g 0 (-1)) g 1 s) g 2 w) g 3 x) g 4 v) g 5 u) g 6 0) 2 3 (nI (cE N + 1))) := ⟨fun a ha => by rw [wI_ne (by omega), wI_ne (by omega), wI_ne (by omega), wI_ne (by omega), wI_ne (by omega), wI_ne (by omega), wI_ne (by omega), wI_ne (by omega)], fun _ _ _ _ => rfl⟩
      have t1 : ∃ n, rI (wI (wI (wI (wI (wI (wI (wI (wI h g 0 (-1)) g 1 s) g 2 w) g 3 x) g 4 v) g 5 u) g 6 0) 2 3 (nI (cE N + 1))) 1 5 = nI n := by
        obtain ⟨n, hn⟩ := ht
        exact ⟨n, by show (wI _ 2 3 _).1 1 5 = _; rw [f1.1 1 (by omega)]; exact hn⟩
      exact zcV_then (s_settleF (zG_of rfl G) c1 c2 (PW_of rfl hP) rw1 t1) (fun h2 hh => ⟨hh.1.g (zG_of rfl G), rfl, f1.z.tr hh.1.z, hh.2⟩)
    · have c10 : ¬ cE N < 10 := fun y => z (nI_lt (b := 10) y (by omega))
      rw [if_neg c10]
      exact ⟨rfl, fZ.rf, hP, hR, hL, ht⟩
  · obtain ⟨hC, hQ, hS⟩ := q
    have h10 := hC.2.1.2
    have bad : ¬ okE s w x v u → (-2 = (o_effect N s w x v u).1 ∧ fV h h ∧ h.1 165 = (o_effect N s w x v u).2 ∧ ∃ n, rI h 164 10 = nI n) := fun z => by
      unfold o_effect
      rw [if_neg z]
      exact ⟨rfl, fV.rf, e, top⟩
    refine g_X11_effect G (zcI_use (s_X11_isDeed G) ⟨G, fun z => bad (fun y => (zb0.mp z) ⟨y.1, y.2.2⟩), fun z => ⟨fun z2 => ?_, fun y => bad (fun x => y x.2.1)⟩⟩)
    have dd := zbn.mp z
    have ok : okE s w x v u := ⟨dd.1, z2, dd.2⟩
    unfold o_effect
    rw [if_pos ok, rdN e, hC.2.1.1]
    refine ⟨fun y => ?_, fun y => ?_⟩
    · have c10 : cE N < 10 := by
        rcases Nat.lt_or_ge (cE N) 10 with x | x
        · exact x
        · exact absurd (by rw [show cE N = 10 by omega]; rfl) y
      rw [if_pos c10]
      obtain ⟨c1, c2⟩ := adE_q hC hQ c10 (aE_ad hC c10) (okE_q c10 ok)
      refine zcV_use (s_X11_lays G e c10) ⟨zG_of rfl G, ?_⟩
      rw [rI_As, lay_o (by omega), hC.2.1.1, nI_1, nI_pred, wA_wI]
      have e10 : ∃ n, rI (wA h 165 (aE N s w x v u)) 164 10 = nI n := by
        obtain ⟨n, hn⟩ := top
        exact ⟨n, by rw [rI_An (by decide)]; exact hn⟩
      exact zcI_then (s_X11_changed (v := nI (cE N)) (zG_of rfl G) c1 wA_s e10) (fun v h2 hh => ⟨zG_of hh.2.1.1 (zG_of rfl G), hh.1, fV.a.tr hh.2.1, hh.2.2⟩)
    · have c10 : ¬ cE N < 10 := fun x => by
        have := (nI_eq (a := cE N) (b := 10) (by omega) (by omega)).mp y
        omega
      rw [if_neg c10]
      exact ⟨rfl, fV.rf, e, top⟩
  · show IQ (o_effect N s w x v u).2
    unfold o_effect
    by_cases ok : okE s w x v u
    · rw [if_pos ok]
      by_cases c10 : cE N < 10
      · rw [if_pos c10]
        obtain ⟨c1, c2⟩ := adE_q q.1 q.2.1 c10 (aE_ad q.1 c10) (okE_q c10 ok)
        exact RF_IQ c1 c2
      · rw [if_neg c10]; exact q
    · rw [if_neg ok]; exact q

