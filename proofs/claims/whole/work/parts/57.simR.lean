/-! calls: rules, choices, watchers, the seed -/
theorem g_X10_rule {x1 : Int32} {x2 : Int32} {x3 : Int32} {x4 : Int32} {h : zHp} {Q : Int32 → zHp → Prop}  (G : zG h) (F : (¬ ((0 : Int32) ≤ x1 ∧ x1 ≤ 4) → (Q (-2) h)) ∧ (((0 : Int32) ≤ x1 ∧ x1 ≤ 4) → (((okSc x2 x3) → ((¬ x1 = 0 → (zlI M_X10_rule 38 [some (.ref 0), some (.int x1), some (.int x2), some (.int x3), some (.int x4), none] [] h Q)) ∧ (x1 = 0 → ((((1 : Int32) ≤ x4 ∧ x4 ≤ 99) → (zlI M_X10_rule 38 [some (.ref 0), some (.int x1), some (.int x2), some (.int x3), some (.int x4), none] [] h Q)) ∧ (¬ ((1 : Int32) ≤ x4 ∧ x4 ≤ 99) → (Q (-2) h)))))) ∧ (¬ (okSc x2 x3) → (Q (-2) h))))) : zcI M_X10_rule [.ref 0, .int x1, .int x2, .int x3, .int x4] h Q := by
  show zw zNT zNT M_X10_rule 0 [some (.ref 0), some (.int x1), some (.int x2), some (.int x3), some (.int x4), none] [] h _
  refine z_iload_n (pc := 0) dX10_rule_0 rfl rfl ?_
  refine z_iconst (pc := 1) (v := 0) dX10_rule_1 (by decide) ?_
  refine z_iconst (pc := 2) (v := 4) dX10_rule_2 (by decide) ?_
  refine q_invS (pc := 3) (As := [.int x1, .int 0, .int 4]) (st := []) dX10_rule_3 ok_X10_within ml_RX10_82 st_X10_within pa_X10_within ⟨Nat.le_of_ble_eq_true rfl, Nat.le_of_ble_eq_true rfl⟩ (q_pI (s_X10_within G) rfl ?_)
  refine z_if_eq (pc := 6) (tgt := 17) dX10_rule_6 (by decide) (fun k4 => ?_) (fun k4 => ?_)
  · replace F := F.1 (zb0.mp k4)
    refine z_bipush (pc := 17) (v := -2) dX10_rule_17 (by decide) ?_
    exact q_retI (pc := 19) dX10_rule_19 rfl F
  · replace F := F.2 (zbn.mp k4)
    refine z_iload_n (pc := 9) dX10_rule_9 rfl rfl ?_
    refine z_iload_n (pc := 10) dX10_rule_10 rfl rfl ?_
    refine q_invS (pc := 11) (As := [.int x2, .int x3]) (st := []) dX10_rule_11 ok_X10_isScope ml_RX10_151 st_X10_isScope pa_X10_isScope ⟨Nat.le_of_ble_eq_true rfl, Nat.le_of_ble_eq_true rfl⟩ (q_pI (s_X10_isScope G) rfl ?_)
    refine z_if_ne (pc := 14) (tgt := 20) dX10_rule_14 (by decide) (fun k3 => ?_) (fun k3 => ?_)
    · replace F := F.1 (zbn.mp k3)
      refine z_iload_n (pc := 20) dX10_rule_20 rfl rfl ?_
      refine z_if_ne (pc := 21) (tgt := 38) dX10_rule_21 (by decide) (fun k2 => ?_) (fun k2 => ?_)
      · replace F := F.1 k2
        exact F
      · replace F := F.2 k2
        refine z_iload (pc := 24) dX10_rule_24 rfl ?_
        refine z_iconst (pc := 26) (v := 1) dX10_rule_26 (by decide) ?_
        refine z_bipush (pc := 27) (v := 99) dX10_rule_27 (by decide) ?_
        refine q_invS (pc := 29) (As := [.int x4, .int 1, .int 99]) (st := []) dX10_rule_29 ok_X10_within ml_RX10_82 st_X10_within pa_X10_within ⟨Nat.le_of_ble_eq_true rfl, Nat.le_of_ble_eq_true rfl⟩ (q_pI (s_X10_within G) rfl ?_)
        refine z_if_ne (pc := 32) (tgt := 38) dX10_rule_32 (by decide) (fun k1 => ?_) (fun k1 => ?_)
        · replace F := F.1 (zbn.mp k1)
          exact F
        · replace F := F.2 (zb0.mp k1)
          refine z_bipush (pc := 35) (v := -2) dX10_rule_35 (by decide) ?_
          exact q_retI (pc := 37) dX10_rule_37 rfl F
    · replace F := F.2 (zb0.mp k3)
      refine z_bipush (pc := 17) (v := -2) dX10_rule_17 (by decide) ?_
      exact q_retI (pc := 19) dX10_rule_19 rfl F
theorem g_X10_rule_38 {x1 : Int32} {x2 : Int32} {x3 : Int32} {x4 : Int32} {h : zHp} {Q : Int32 → zHp → Prop}  (G : zG h) (F : (¬ x1 = 3 → (zlI M_X10_rule 57 [some (.ref 0), some (.int x1), some (.int x2), some (.int x3), some (.int x4), none] [] h Q)) ∧ (x1 = 3 → ((((0 : Int32) ≤ x4 ∧ x4 ≤ 7) → (zlI M_X10_rule 57 [some (.ref 0), some (.int x1), some (.int x2), some (.int x3), some (.int x4), none] [] h Q)) ∧ (¬ ((0 : Int32) ≤ x4 ∧ x4 ≤ 7) → (Q (-2) h))))) : zlI M_X10_rule 38 [some (.ref 0), some (.int x1), some (.int x2), some (.int x3), some (.int x4), none] [] h Q := by
  refine z_iload_n (pc := 38) dX10_rule_38 rfl rfl ?_
  refine z_iconst (pc := 39) (v := 3) dX10_rule_39 (by decide) ?_
  refine z_icmp_ne (pc := 40) (tgt := 57) dX10_rule_40 (by decide) (fun k2 => ?_) (fun k2 => ?_)
  · replace F := F.1 k2
    exact F
  · replace F := F.2 k2
    refine z_iload (pc := 43) dX10_rule_43 rfl ?_
    refine z_iconst (pc := 45) (v := 0) dX10_rule_45 (by decide) ?_
    refine z_bipush (pc := 46) (v := 7) dX10_rule_46 (by decide) ?_
    refine q_invS (pc := 48) (As := [.int x4, .int 0, .int 7]) (st := []) dX10_rule_48 ok_X10_within ml_RX10_82 st_X10_within pa_X10_within ⟨Nat.le_of_ble_eq_true rfl, Nat.le_of_ble_eq_true rfl⟩ (q_pI (s_X10_within G) rfl ?_)
    refine z_if_ne (pc := 51) (tgt := 57) dX10_rule_51 (by decide) (fun k1 => ?_) (fun k1 => ?_)
    · replace F := F.1 (zbn.mp k1)
      exact F
    · replace F := F.2 (zb0.mp k1)
      refine z_bipush (pc := 54) (v := -2) dX10_rule_54 (by decide) ?_
      exact q_retI (pc := 56) dX10_rule_56 rfl F
theorem g_X10_rule_57 {x1 : Int32} {x2 : Int32} {x3 : Int32} {x4 : Int32} {h : zHp} {Q : Int32 → zHp → Prop}  (G : zG h) (F : (rI h 2 5 < 8 → (vp_in (rI h 2 5) 8 ∧ (zRef h 5 ((Int32.toNatClampNeg (rI h 2 5))) 5 ∧ (Q (rI h 2 5) (wI (wI (wI (wI (wI h (rG h 5 ((Int32.toNatClampNeg (rI h 2 5)))) 0 x1) (rG h 5 ((Int32.toNatClampNeg (rI h 2 5)))) 1 x2) (rG h 5 ((Int32.toNatClampNeg (rI h 2 5)))) 2 x3) (rG h 5 ((Int32.toNatClampNeg (rI h 2 5)))) 3 x4) 2 5 ((rI h 2 5) + 1)))))) ∧ (¬ (rI h 2 5 < 8) → (Q (-4) h))) : zlI M_X10_rule 57 [some (.ref 0), some (.int x1), some (.int x2), some (.int x3), some (.int x4), none] [] h Q := by
  refine z_aload_n (pc := 57) dX10_rule_57 rfl rfl ?_
  refine q_getR (pc := 58) (i := 2) dX10_rule_58 lk_RX10_20 (lyc rfl) (G 0 1 2 rfl) ?_
  refine q_getI (pc := 61) (v := rI h 2 5) dX10_rule_61 lk_RX10_205 (lyc rfl) rfl ?_
  refine z_bipush (pc := 64) (v := 8) dX10_rule_64 (by decide) ?_
  refine z_icmp_lt (pc := 66) (tgt := 72) dX10_rule_66 (by decide) (fun k3 => ?_) (fun k3 => ?_)
  · replace F := F.1 k3
    refine z_aload_n (pc := 72) dX10_rule_72 rfl rfl ?_
    refine q_getR (pc := 73) (i := 2) dX10_rule_73 lk_RX10_20 (lyc rfl) (G 0 1 2 rfl) ?_
    refine q_getI (pc := 76) (v := rI h 2 5) dX10_rule_76 lk_RX10_205 (lyc rfl) rfl ?_
    refine z_istore (pc := 79) (ls' := [some (.ref 0), some (.int x1), some (.int x2), some (.int x3), some (.int x4), some (.int (rI h 2 5))]) dX10_rule_79 (by decide) rfl ?_
    refine z_aload_n (pc := 81) dX10_rule_81 rfl rfl ?_
    refine q_getR (pc := 82) (i := 2) dX10_rule_82 lk_RX10_20 (lyc rfl) (G 0 1 2 rfl) ?_
    refine q_getR (pc := 85) (i := 5) dX10_rule_85 lk_RX10_208 (lyc rfl) (G 2 4 5 rfl) ?_
    refine z_iload (pc := 88) dX10_rule_88 rfl ?_
    obtain ⟨k1, F⟩ := F
    obtain ⟨k2, F⟩ := F
    refine q_aald (pc := 90) (j := (Int32.toNatClampNeg (rI h 2 5))) (r := rG h 5 ((Int32.toNatClampNeg (rI h 2 5)))) (t := 2) dX10_rule_90 (lyc rfl) (zvn (lnc rfl) k1) rfl k2.1 ?_
    refine z_iload_n (pc := 91) dX10_rule_91 rfl rfl ?_
    refine z_iload_n (pc := 92) dX10_rule_92 rfl rfl ?_
    refine z_iload_n (pc := 93) dX10_rule_93 rfl rfl ?_
    refine z_iload (pc := 94) dX10_rule_94 rfl ?_
    refine q_invV (pc := 96) (As := [.int x1, .int x2, .int x3, .int x4]) (st := []) dX10_rule_96 ok_X4_become ml_RX10_212 iv_X4_become pa_X4_become ⟨Nat.le_of_ble_eq_true rfl, Nat.le_of_ble_eq_true rfl⟩ k2.2 (q_pV (s_X4_become G k2.2) ?_)
    refine z_aload_n (pc := 99) dX10_rule_99 rfl rfl ?_
    refine q_getR (pc := 100) (i := 2) dX10_rule_100 lk_RX10_20 (lyc rfl) (G 0 1 2 rfl) ?_
    refine z_dup (pc := 103) dX10_rule_103 rfl ?_
    refine q_getI (pc := 104) (v := rI h 2 5) dX10_rule_104 lk_RX10_205 (lyc rfl) ((((rI_k (by decide)).trans (rI_k (by decide))).trans (rI_k (by decide))).trans (rI_k (by decide))) ?_
    refine z_iconst (pc := 107) (v := 1) dX10_rule_107 (by decide) ?_
    refine z_iadd (pc := 108) dX10_rule_108 ?_
    refine q_putI (pc := 109) dX10_rule_109 lk_RX10_205 (lyc rfl) ?_
    refine z_iload (pc := 112) dX10_rule_112 rfl ?_
    exact q_retI (pc := 114) dX10_rule_114 rfl F
  · replace F := F.2 k3
    refine z_bipush (pc := 69) (v := -4) dX10_rule_69 (by decide) ?_
    exact q_retI (pc := 71) dX10_rule_71 rfl F
theorem g_X11_rule {x1 : Int32} {x2 : Int32} {x3 : Int32} {x4 : Int32} {h : zHp} {Q : Int32 → zHp → Prop}  (G : zG h) (F : (¬ ((0 : Int32) ≤ x1 ∧ x1 ≤ 4) → (Q (-2) h)) ∧ (((0 : Int32) ≤ x1 ∧ x1 ≤ 4) → ((¬ (okSc x2 x3) → (Q (-2) h)) ∧ ((okSc x2 x3) → ((¬ x1 = 0 → (zlI M_X11_rule 32 [some (.ref 164), some (.int x1), some (.int x2), some (.int x3), some (.int x4), none] [] h Q)) ∧ (x1 = 0 → ((¬ ((1 : Int32) ≤ x4 ∧ x4 ≤ 99) → (Q (-2) h)) ∧ (((1 : Int32) ≤ x4 ∧ x4 ≤ 99) → (zlI M_X11_rule 32 [some (.ref 164), some (.int x1), some (.int x2), some (.int x3), some (.int x4), none] [] h Q))))))))) : zcI M_X11_rule [.ref 164, .int x1, .int x2, .int x3, .int x4] h Q := by
  show zw zNT zNT M_X11_rule 0 [some (.ref 164), some (.int x1), some (.int x2), some (.int x3), some (.int x4), none] [] h _
  refine z_iload_n (pc := 0) dX11_rule_0 rfl rfl ?_
  refine z_iconst (pc := 1) (v := 0) dX11_rule_1 (by decide) ?_
  refine z_iconst (pc := 2) (v := 4) dX11_rule_2 (by decide) ?_
  refine q_invS (pc := 3) (As := [.int x1, .int 0, .int 4]) (st := []) dX11_rule_3 ok_X11_in ml_RX11_84 st_X11_in pa_X11_in ⟨Nat.le_of_ble_eq_true rfl, Nat.le_of_ble_eq_true rfl⟩ (q_pI (s_X11_in G) rfl ?_)
  refine z_if_eq (pc := 6) (tgt := 48) dX11_rule_6 (by decide) (fun k4 => ?_) (fun k4 => ?_)
  · replace F := F.1 (zb0.mp k4)
    refine z_bipush (pc := 48) (v := -2) dX11_rule_48 (by decide) ?_
    exact q_retI (pc := 50) dX11_rule_50 rfl F
  · replace F := F.2 (zbn.mp k4)
    refine z_iload_n (pc := 9) dX11_rule_9 rfl rfl ?_
    refine z_iload_n (pc := 10) dX11_rule_10 rfl rfl ?_
    refine q_invS (pc := 11) (As := [.int x2, .int x3]) (st := []) dX11_rule_11 ok_X11_isScope ml_RX11_173 st_X11_isScope pa_X11_isScope ⟨Nat.le_of_ble_eq_true rfl, Nat.le_of_ble_eq_true rfl⟩ (q_pI (s_X11_isScope G) rfl ?_)
    refine z_if_eq (pc := 14) (tgt := 48) dX11_rule_14 (by decide) (fun k3 => ?_) (fun k3 => ?_)
    · replace F := F.1 (zb0.mp k3)
      refine z_bipush (pc := 48) (v := -2) dX11_rule_48 (by decide) ?_
      exact q_retI (pc := 50) dX11_rule_50 rfl F
    · replace F := F.2 (zbn.mp k3)
      refine z_iload_n (pc := 17) dX11_rule_17 rfl rfl ?_
      refine z_if_ne (pc := 18) (tgt := 32) dX11_rule_18 (by decide) (fun k2 => ?_) (fun k2 => ?_)
      · replace F := F.1 k2
        exact F
      · replace F := F.2 k2
        refine z_iload (pc := 21) dX11_rule_21 rfl ?_
        refine z_iconst (pc := 23) (v := 1) dX11_rule_23 (by decide) ?_
        refine z_bipush (pc := 24) (v := 99) dX11_rule_24 (by decide) ?_
        refine q_invS (pc := 26) (As := [.int x4, .int 1, .int 99]) (st := []) dX11_rule_26 ok_X11_in ml_RX11_84 st_X11_in pa_X11_in ⟨Nat.le_of_ble_eq_true rfl, Nat.le_of_ble_eq_true rfl⟩ (q_pI (s_X11_in G) rfl ?_)
        refine z_if_eq (pc := 29) (tgt := 48) dX11_rule_29 (by decide) (fun k1 => ?_) (fun k1 => ?_)
        · replace F := F.1 (zb0.mp k1)
          refine z_bipush (pc := 48) (v := -2) dX11_rule_48 (by decide) ?_
          exact q_retI (pc := 50) dX11_rule_50 rfl F
        · replace F := F.2 (zbn.mp k1)
          exact F
theorem g_X11_rule_32 {x1 : Int32} {x2 : Int32} {x3 : Int32} {x4 : Int32} {h : zHp} {Q : Int32 → zHp → Prop}  (G : zG h) (F : (¬ x1 = 3 → (zlI M_X11_rule 51 [some (.ref 164), some (.int x1), some (.int x2), some (.int x3), some (.int x4), none] [] h Q)) ∧ (x1 = 3 → ((((0 : Int32) ≤ x4 ∧ x4 ≤ 7) → (zlI M_X11_rule 51 [some (.ref 164), some (.int x1), some (.int x2), some (.int x3), some (.int x4), none] [] h Q)) ∧ (¬ ((0 : Int32) ≤ x4 ∧ x4 ≤ 7) → (Q (-2) h))))) : zlI M_X11_rule 32 [some (.ref 164), some (.int x1), some (.int x2), some (.int x3), some (.int x4), none] [] h Q := by
  refine z_iload_n (pc := 32) dX11_rule_32 rfl rfl ?_
  refine z_iconst (pc := 33) (v := 3) dX11_rule_33 (by decide) ?_
  refine z_icmp_ne (pc := 34) (tgt := 51) dX11_rule_34 (by decide) (fun k2 => ?_) (fun k2 => ?_)
  · replace F := F.1 k2
    exact F
  · replace F := F.2 k2
    refine z_iload (pc := 37) dX11_rule_37 rfl ?_
    refine z_iconst (pc := 39) (v := 0) dX11_rule_39 (by decide) ?_
    refine z_bipush (pc := 40) (v := 7) dX11_rule_40 (by decide) ?_
    refine q_invS (pc := 42) (As := [.int x4, .int 0, .int 7]) (st := []) dX11_rule_42 ok_X11_in ml_RX11_84 st_X11_in pa_X11_in ⟨Nat.le_of_ble_eq_true rfl, Nat.le_of_ble_eq_true rfl⟩ (q_pI (s_X11_in G) rfl ?_)
    refine z_if_ne (pc := 45) (tgt := 51) dX11_rule_45 (by decide) (fun k1 => ?_) (fun k1 => ?_)
    · replace F := F.1 (zbn.mp k1)
      exact F
    · replace F := F.2 (zb0.mp k1)
      refine z_bipush (pc := 48) (v := -2) dX11_rule_48 (by decide) ?_
      exact q_retI (pc := 50) dX11_rule_50 rfl F
theorem g_X11_rule_51 {x1 : Int32} {x2 : Int32} {x3 : Int32} {x4 : Int32} {h : zHp} {Q : Int32 → zHp → Prop}  (G : zG h) (F : (¬ rI h 165 240 = 8 → (vp_in (150 + (4 * (rI h 165 240))) 246 ∧ (vp_in ((150 + (4 * (rI h 165 240))) + 1) 246 ∧ (vp_in ((150 + (4 * (rI h 165 240))) + 2) 246 ∧ (vp_in ((150 + (4 * (rI h 165 240))) + 3) 246 ∧ (Q (((rI (wI (wI (wI (wI h 165 ((Int32.toNatClampNeg (150 + (4 * (rI h 165 240))))) x1) 165 ((Int32.toNatClampNeg ((150 + (4 * (rI h 165 240))) + 1))) x2) 165 ((Int32.toNatClampNeg ((150 + (4 * (rI h 165 240))) + 2))) x3) 165 ((Int32.toNatClampNeg ((150 + (4 * (rI h 165 240))) + 3))) x4) 165 240) + 1) - 1) (wI (wI (wI (wI (wI h 165 ((Int32.toNatClampNeg (150 + (4 * (rI h 165 240))))) x1) 165 ((Int32.toNatClampNeg ((150 + (4 * (rI h 165 240))) + 1))) x2) 165 ((Int32.toNatClampNeg ((150 + (4 * (rI h 165 240))) + 2))) x3) 165 ((Int32.toNatClampNeg ((150 + (4 * (rI h 165 240))) + 3))) x4) 165 240 ((rI (wI (wI (wI (wI h 165 ((Int32.toNatClampNeg (150 + (4 * (rI h 165 240))))) x1) 165 ((Int32.toNatClampNeg ((150 + (4 * (rI h 165 240))) + 1))) x2) 165 ((Int32.toNatClampNeg ((150 + (4 * (rI h 165 240))) + 2))) x3) 165 ((Int32.toNatClampNeg ((150 + (4 * (rI h 165 240))) + 3))) x4) 165 240) + 1)))))))) ∧ (rI h 165 240 = 8 → (Q (-4) h))) : zlI M_X11_rule 51 [some (.ref 164), some (.int x1), some (.int x2), some (.int x3), some (.int x4), none] [] h Q := by
  refine z_aload_n (pc := 51) dX11_rule_51 rfl rfl ?_
  refine q_getR (pc := 52) (i := 165) dX11_rule_52 lk_RX11_7 (lyc rfl) (G 164 0 165 rfl) ?_
  refine z_sipush (pc := 55) (v := 240) dX11_rule_55 (by decide) ?_
  refine q_iald (pc := 58) (j := 240) (v := rI h 165 240) dX11_rule_58 (lyc rfl) (zvl (lnc rfl) (by decide)) (by decide) rfl ?_
  refine z_bipush (pc := 59) (v := 8) dX11_rule_59 (by decide) ?_
  refine z_icmp_ne (pc := 61) (tgt := 67) dX11_rule_61 (by decide) (fun k5 => ?_) (fun k5 => ?_)
  · replace F := F.1 k5
    refine z_sipush (pc := 67) (v := 150) dX11_rule_67 (by decide) ?_
    refine z_iconst (pc := 70) (v := 4) dX11_rule_70 (by decide) ?_
    refine z_aload_n (pc := 71) dX11_rule_71 rfl rfl ?_
    refine q_getR (pc := 72) (i := 165) dX11_rule_72 lk_RX11_7 (lyc rfl) (G 164 0 165 rfl) ?_
    refine z_sipush (pc := 75) (v := 240) dX11_rule_75 (by decide) ?_
    refine q_iald (pc := 78) (j := 240) (v := rI h 165 240) dX11_rule_78 (lyc rfl) (zvl (lnc rfl) (by decide)) (by decide) rfl ?_
    refine z_imul (pc := 79) dX11_rule_79 ?_
    refine z_iadd (pc := 80) dX11_rule_80 ?_
    refine z_istore (pc := 81) (ls' := [some (.ref 164), some (.int x1), some (.int x2), some (.int x3), some (.int x4), some (.int (150 + (4 * (rI h 165 240))))]) dX11_rule_81 (by decide) rfl ?_
    refine z_aload_n (pc := 83) dX11_rule_83 rfl rfl ?_
    refine q_getR (pc := 84) (i := 165) dX11_rule_84 lk_RX11_7 (lyc rfl) (G 164 0 165 rfl) ?_
    refine z_iload (pc := 87) dX11_rule_87 rfl ?_
    refine z_iload_n (pc := 89) dX11_rule_89 rfl rfl ?_
    obtain ⟨k1, F⟩ := F
    refine q_iast (pc := 90) (j := (Int32.toNatClampNeg (150 + (4 * (rI h 165 240))))) dX11_rule_90 (lyc rfl) (zvn (lnc rfl) k1) rfl ?_
    refine z_aload_n (pc := 91) dX11_rule_91 rfl rfl ?_
    refine q_getR (pc := 92) (i := 165) dX11_rule_92 lk_RX11_7 (lyc rfl) (G 164 0 165 rfl) ?_
    refine z_iload (pc := 95) dX11_rule_95 rfl ?_
    refine z_iconst (pc := 97) (v := 1) dX11_rule_97 (by decide) ?_
    refine z_iadd (pc := 98) dX11_rule_98 ?_
    refine z_iload_n (pc := 99) dX11_rule_99 rfl rfl ?_
    obtain ⟨k2, F⟩ := F
    refine q_iast (pc := 100) (j := (Int32.toNatClampNeg ((150 + (4 * (rI h 165 240))) + 1))) dX11_rule_100 (lyc rfl) (zvn (lnc rfl) k2) rfl ?_
    refine z_aload_n (pc := 101) dX11_rule_101 rfl rfl ?_
    refine q_getR (pc := 102) (i := 165) dX11_rule_102 lk_RX11_7 (lyc rfl) (G 164 0 165 rfl) ?_
    refine z_iload (pc := 105) dX11_rule_105 rfl ?_
    refine z_iconst (pc := 107) (v := 2) dX11_rule_107 (by decide) ?_
    refine z_iadd (pc := 108) dX11_rule_108 ?_
    refine z_iload_n (pc := 109) dX11_rule_109 rfl rfl ?_
    obtain ⟨k3, F⟩ := F
    refine q_iast (pc := 110) (j := (Int32.toNatClampNeg ((150 + (4 * (rI h 165 240))) + 2))) dX11_rule_110 (lyc rfl) (zvn (lnc rfl) k3) rfl ?_
    refine z_aload_n (pc := 111) dX11_rule_111 rfl rfl ?_
    refine q_getR (pc := 112) (i := 165) dX11_rule_112 lk_RX11_7 (lyc rfl) (G 164 0 165 rfl) ?_
    refine z_iload (pc := 115) dX11_rule_115 rfl ?_
    refine z_iconst (pc := 117) (v := 3) dX11_rule_117 (by decide) ?_
    refine z_iadd (pc := 118) dX11_rule_118 ?_
    refine z_iload (pc := 119) dX11_rule_119 rfl ?_
    obtain ⟨k4, F⟩ := F
    refine q_iast (pc := 121) (j := (Int32.toNatClampNeg ((150 + (4 * (rI h 165 240))) + 3))) dX11_rule_121 (lyc rfl) (zvn (lnc rfl) k4) rfl ?_
    refine z_aload_n (pc := 122) dX11_rule_122 rfl rfl ?_
    refine q_getR (pc := 123) (i := 165) dX11_rule_123 lk_RX11_7 (lyc rfl) (G 164 0 165 rfl) ?_
    refine z_sipush (pc := 126) (v := 240) dX11_rule_126 (by decide) ?_
    refine z_dup2 (pc := 129) dX11_rule_129 rfl rfl ?_
    refine q_iald (pc := 130) (j := 240) (v := rI (wI (wI (wI (wI h 165 ((Int32.toNatClampNeg (150 + (4 * (rI h 165 240))))) x1) 165 ((Int32.toNatClampNeg ((150 + (4 * (rI h 165 240))) + 1))) x2) 165 ((Int32.toNatClampNeg ((150 + (4 * (rI h 165 240))) + 2))) x3) 165 ((Int32.toNatClampNeg ((150 + (4 * (rI h 165 240))) + 3))) x4) 165 240) dX11_rule_130 (lyc rfl) (zvl (lnc rfl) (by decide)) (by decide) rfl ?_
    refine z_iconst (pc := 131) (v := 1) dX11_rule_131 (by decide) ?_
    refine z_iadd (pc := 132) dX11_rule_132 ?_
    refine q_iast (pc := 133) (j := 240) dX11_rule_133 (lyc rfl) (zvl (lnc rfl) (by decide)) (by decide) ?_
    refine z_aload_n (pc := 134) dX11_rule_134 rfl rfl ?_
    refine q_getR (pc := 135) (i := 165) dX11_rule_135 lk_RX11_7 (lyc rfl) (G 164 0 165 rfl) ?_
    refine z_sipush (pc := 138) (v := 240) dX11_rule_138 (by decide) ?_
    refine q_iald (pc := 141) (j := 240) (v := (rI (wI (wI (wI (wI h 165 ((Int32.toNatClampNeg (150 + (4 * (rI h 165 240))))) x1) 165 ((Int32.toNatClampNeg ((150 + (4 * (rI h 165 240))) + 1))) x2) 165 ((Int32.toNatClampNeg ((150 + (4 * (rI h 165 240))) + 2))) x3) 165 ((Int32.toNatClampNeg ((150 + (4 * (rI h 165 240))) + 3))) x4) 165 240) + 1) dX11_rule_141 (lyc rfl) (zvl (lnc rfl) (by decide)) (by decide) rI_s ?_
    refine z_iconst (pc := 142) (v := 1) dX11_rule_142 (by decide) ?_
    refine z_isub (pc := 143) dX11_rule_143 ?_
    exact q_retI (pc := 144) dX11_rule_144 rfl F
  · replace F := F.2 k5
    refine z_bipush (pc := 64) (v := -4) dX11_rule_64 (by decide) ?_
    exact q_retI (pc := 66) dX11_rule_66 rfl F
theorem g_X10_ruleOf {x1 : Int32} {x2 : Int32} {h : zHp} {Q : Int32 → zHp → Prop}  (G : zG h) (F : (¬ (0 ≤ x1 ∧ x1 ≤ (rI h 2 5) - 1) → (Q (-2) h)) ∧ ((0 ≤ x1 ∧ x1 ≤ (rI h 2 5) - 1) → ((((0 : Int32) ≤ x2 ∧ x2 ≤ 1) → ((¬ x2 = 0 → (vp_in x1 8 ∧ (zRef h 5 ((Int32.toNatClampNeg x1)) 5 ∧ (Q (rI h (rG h 5 ((Int32.toNatClampNeg x1))) 3) h)))) ∧ (x2 = 0 → (vp_in x1 8 ∧ (zRef h 5 ((Int32.toNatClampNeg x1)) 5 ∧ (Q (rI h (rG h 5 ((Int32.toNatClampNeg x1))) 0) h)))))) ∧ (¬ ((0 : Int32) ≤ x2 ∧ x2 ≤ 1) → (Q (-2) h))))) : zcI M_X10_ruleOf [.ref 0, .int x1, .int x2] h Q := by
  show zw zNT zNT M_X10_ruleOf 0 [some (.ref 0), some (.int x1), some (.int x2)] [] h _
  refine z_aload_n (pc := 0) dX10_ruleOf_0 rfl rfl ?_
  refine q_getR (pc := 1) (i := 2) dX10_ruleOf_1 lk_RX10_20 (lyc rfl) (G 0 1 2 rfl) ?_
  refine z_iload_n (pc := 4) dX10_ruleOf_4 rfl rfl ?_
  refine q_invV (pc := 5) (As := [.int x1]) (st := []) dX10_ruleOf_5 ok_X8_hasRule ml_RX10_216 iv_X8_hasRule pa_X8_hasRule ⟨Nat.le_of_ble_eq_true rfl, Nat.le_of_ble_eq_true rfl⟩ (lyc rfl) (q_pI (s_X8_hasRule G (Or.inl rfl)) rfl ?_)
  refine z_if_eq (pc := 8) (tgt := 20) dX10_ruleOf_8 (by decide) (fun k7 => ?_) (fun k7 => ?_)
  · replace F := F.1 (zb0.mp k7)
    refine z_bipush (pc := 20) (v := -2) dX10_ruleOf_20 (by decide) ?_
    exact q_retI (pc := 22) dX10_ruleOf_22 rfl F
  · replace F := F.2 (zbn.mp k7)
    refine z_iload_n (pc := 11) dX10_ruleOf_11 rfl rfl ?_
    refine z_iconst (pc := 12) (v := 0) dX10_ruleOf_12 (by decide) ?_
    refine z_iconst (pc := 13) (v := 1) dX10_ruleOf_13 (by decide) ?_
    refine q_invS (pc := 14) (As := [.int x2, .int 0, .int 1]) (st := []) dX10_ruleOf_14 ok_X10_within ml_RX10_82 st_X10_within pa_X10_within ⟨Nat.le_of_ble_eq_true rfl, Nat.le_of_ble_eq_true rfl⟩ (q_pI (s_X10_within G) rfl ?_)
    refine z_if_ne (pc := 17) (tgt := 23) dX10_ruleOf_17 (by decide) (fun k6 => ?_) (fun k6 => ?_)
    · replace F := F.1 (zbn.mp k6)
      refine z_iload_n (pc := 23) dX10_ruleOf_23 rfl rfl ?_
      refine z_if_ne (pc := 24) (tgt := 42) dX10_ruleOf_24 (by decide) (fun k5 => ?_) (fun k5 => ?_)
      · replace F := F.1 k5
        refine z_aload_n (pc := 42) dX10_ruleOf_42 rfl rfl ?_
        refine q_getR (pc := 43) (i := 2) dX10_ruleOf_43 lk_RX10_20 (lyc rfl) (G 0 1 2 rfl) ?_
        refine q_getR (pc := 46) (i := 5) dX10_ruleOf_46 lk_RX10_208 (lyc rfl) (G 2 4 5 rfl) ?_
        refine z_iload_n (pc := 49) dX10_ruleOf_49 rfl rfl ?_
        obtain ⟨k1, F⟩ := F
        obtain ⟨k2, F⟩ := F
        refine q_aald (pc := 50) (j := (Int32.toNatClampNeg x1)) (r := rG h 5 ((Int32.toNatClampNeg x1))) (t := 2) dX10_ruleOf_50 (lyc rfl) (zvn (lnc rfl) k1) rfl k2.1 ?_
        refine q_getI (pc := 51) (v := rI h (rG h 5 ((Int32.toNatClampNeg x1))) 3) dX10_ruleOf_51 lk_RX10_222 k2.2 rfl ?_
        exact q_retI (pc := 54) dX10_ruleOf_54 rfl F
      · replace F := F.2 k5
        refine z_aload_n (pc := 27) dX10_ruleOf_27 rfl rfl ?_
        refine q_getR (pc := 28) (i := 2) dX10_ruleOf_28 lk_RX10_20 (lyc rfl) (G 0 1 2 rfl) ?_
        refine q_getR (pc := 31) (i := 5) dX10_ruleOf_31 lk_RX10_208 (lyc rfl) (G 2 4 5 rfl) ?_
        refine z_iload_n (pc := 34) dX10_ruleOf_34 rfl rfl ?_
        obtain ⟨k3, F⟩ := F
        obtain ⟨k4, F⟩ := F
        refine q_aald (pc := 35) (j := (Int32.toNatClampNeg x1)) (r := rG h 5 ((Int32.toNatClampNeg x1))) (t := 2) dX10_ruleOf_35 (lyc rfl) (zvn (lnc rfl) k3) rfl k4.1 ?_
        refine q_getI (pc := 36) (v := rI h (rG h 5 ((Int32.toNatClampNeg x1))) 0) dX10_ruleOf_36 lk_RX10_219 k4.2 rfl ?_
        refine z_goto (pc := 39) (tgt := 54) dX10_ruleOf_39 (by decide) ?_
        exact q_retI (pc := 54) dX10_ruleOf_54 rfl F
    · replace F := F.2 (zb0.mp k6)
      refine z_bipush (pc := 20) (v := -2) dX10_ruleOf_20 (by decide) ?_
      exact q_retI (pc := 22) dX10_ruleOf_22 rfl F
theorem g_X11_ruleOf {x1 : Int32} {x2 : Int32} {h : zHp} {Q : Int32 → zHp → Prop}  (G : zG h) (F : (¬ (0 ≤ x1 ∧ x1 ≤ rI h 165 240 - 1) → (Q (-2) h)) ∧ ((0 ≤ x1 ∧ x1 ≤ rI h 165 240 - 1) → ((¬ ((0 : Int32) ≤ x2 ∧ x2 ≤ 1) → (Q (-2) h)) ∧ (((0 : Int32) ≤ x2 ∧ x2 ≤ 1) → (vp_in ((150 + (4 * x1)) + (3 * x2)) 246 ∧ (Q (rI h 165 ((Int32.toNatClampNeg (((150 + (4 * x1)) + (3 * x2)))))) h)))))) : zcI M_X11_ruleOf [.ref 164, .int x1, .int x2] h Q := by
  show zw zNT zNT M_X11_ruleOf 0 [some (.ref 164), some (.int x1), some (.int x2)] [] h _
  refine z_aload_n (pc := 0) dX11_ruleOf_0 rfl rfl ?_
  refine z_iload_n (pc := 1) dX11_ruleOf_1 rfl rfl ?_
  refine q_invV (pc := 2) (As := [.int x1]) (st := []) dX11_ruleOf_2 ok_X11_isRule ml_RX11_189 iv_X11_isRule pa_X11_isRule ⟨Nat.le_of_ble_eq_true rfl, Nat.le_of_ble_eq_true rfl⟩ (lyc rfl) (q_pI (s_X11_isRule G) rfl ?_)
  refine z_if_eq (pc := 5) (tgt := 28) dX11_ruleOf_5 (by decide) (fun k3 => ?_) (fun k3 => ?_)
  · replace F := F.1 (zb0.mp k3)
    refine z_bipush (pc := 28) (v := -2) dX11_ruleOf_28 (by decide) ?_
    exact q_retI (pc := 30) dX11_ruleOf_30 rfl F
  · replace F := F.2 (zbn.mp k3)
    refine z_iload_n (pc := 8) dX11_ruleOf_8 rfl rfl ?_
    refine z_iconst (pc := 9) (v := 0) dX11_ruleOf_9 (by decide) ?_
    refine z_iconst (pc := 10) (v := 1) dX11_ruleOf_10 (by decide) ?_
    refine q_invS (pc := 11) (As := [.int x2, .int 0, .int 1]) (st := []) dX11_ruleOf_11 ok_X11_in ml_RX11_84 st_X11_in pa_X11_in ⟨Nat.le_of_ble_eq_true rfl, Nat.le_of_ble_eq_true rfl⟩ (q_pI (s_X11_in G) rfl ?_)
    refine z_if_eq (pc := 14) (tgt := 28) dX11_ruleOf_14 (by decide) (fun k2 => ?_) (fun k2 => ?_)
    · replace F := F.1 (zb0.mp k2)
      refine z_bipush (pc := 28) (v := -2) dX11_ruleOf_28 (by decide) ?_
      exact q_retI (pc := 30) dX11_ruleOf_30 rfl F
    · replace F := F.2 (zbn.mp k2)
      refine z_aload_n (pc := 17) dX11_ruleOf_17 rfl rfl ?_
      refine z_iload_n (pc := 18) dX11_ruleOf_18 rfl rfl ?_
      refine z_iconst (pc := 19) (v := 3) dX11_ruleOf_19 (by decide) ?_
      refine z_iload_n (pc := 20) dX11_ruleOf_20 rfl rfl ?_
      refine z_imul (pc := 21) dX11_ruleOf_21 ?_
      obtain ⟨k1, F⟩ := F
      refine q_invV (pc := 22) (As := [.int x1, .int (3 * x2)]) (st := []) dX11_ruleOf_22 ok_X11_ruleIs ml_RX11_192 iv_X11_ruleIs pa_X11_ruleIs ⟨Nat.le_of_ble_eq_true rfl, Nat.le_of_ble_eq_true rfl⟩ (lyc rfl) (q_pI (s_X11_ruleIs G k1) rfl ?_)
      refine z_goto (pc := 25) (tgt := 30) dX11_ruleOf_25 (by decide) ?_
      exact q_retI (pc := 30) dX11_ruleOf_30 rfl F
theorem g_X10_unrule {x1 : Int32} {h : zHp} {Q : Int32 → zHp → Prop}  (G : zG h) (F : ((0 ≤ x1 ∧ x1 ≤ (rI h 2 5) - 1) → (zcV M_X8_dropRule [.ref 2, .int x1] h (fun h1 => zG h1 ∧ (Q (rI h1 2 5) h1)))) ∧ (¬ (0 ≤ x1 ∧ x1 ≤ (rI h 2 5) - 1) → (Q (-2) h))) : zcI M_X10_unrule [.ref 0, .int x1] h Q := by
  show zw zNT zNT M_X10_unrule 0 [some (.ref 0), some (.int x1)] [] h _
  refine z_aload_n (pc := 0) dX10_unrule_0 rfl rfl ?_
  refine q_getR (pc := 1) (i := 2) dX10_unrule_1 lk_RX10_20 (lyc rfl) (G 0 1 2 rfl) ?_
  refine z_iload_n (pc := 4) dX10_unrule_4 rfl rfl ?_
  refine q_invV (pc := 5) (As := [.int x1]) (st := []) dX10_unrule_5 ok_X8_hasRule ml_RX10_216 iv_X8_hasRule pa_X8_hasRule ⟨Nat.le_of_ble_eq_true rfl, Nat.le_of_ble_eq_true rfl⟩ (lyc rfl) (q_pI (s_X8_hasRule G (Or.inl rfl)) rfl ?_)
  refine z_if_ne (pc := 8) (tgt := 14) dX10_unrule_8 (by decide) (fun k2 => ?_) (fun k2 => ?_)
  · replace F := F.1 (zbn.mp k2)
    refine z_aload_n (pc := 14) dX10_unrule_14 rfl rfl ?_
    refine q_getR (pc := 15) (i := 2) dX10_unrule_15 lk_RX10_20 (lyc rfl) (G 0 1 2 rfl) ?_
    refine z_iload_n (pc := 18) dX10_unrule_18 rfl rfl ?_
    refine q_invV (pc := 19) (As := [.int x1]) (st := []) dX10_unrule_19 ok_X8_dropRule ml_RX10_225 iv_X8_dropRule pa_X8_dropRule ⟨Nat.le_of_ble_eq_true rfl, Nat.le_of_ble_eq_true rfl⟩ (lyc rfl) (q_kV F (fun h1 F => ?_))
    obtain ⟨G1, F⟩ := F
    refine z_aload_n (pc := 22) dX10_unrule_22 rfl rfl ?_
    refine q_getR (pc := 23) (i := 2) dX10_unrule_23 lk_RX10_20 (lyc rfl) (G1 0 1 2 rfl) ?_
    refine q_getI (pc := 26) (v := rI h1 2 5) dX10_unrule_26 lk_RX10_205 (lyc rfl) rfl ?_
    exact q_retI (pc := 29) dX10_unrule_29 rfl F
  · replace F := F.2 (zb0.mp k2)
    refine z_bipush (pc := 11) (v := -2) dX10_unrule_11 (by decide) ?_
    exact q_retI (pc := 13) dX10_unrule_13 rfl F
theorem g_X11_unrule {x1 : Int32} {h : zHp} {Q : Int32 → zHp → Prop}  (G : zG h) (F : ((0 ≤ x1 ∧ x1 ≤ rI h 165 240 - 1) → (zcV M_X11_goes [.ref 164, .int 150, .int 4, .int 240, .int x1] h (fun h1 => zG h1 ∧ (Q (rI h1 165 240) h1)))) ∧ (¬ (0 ≤ x1 ∧ x1 ≤ rI h 165 240 - 1) → (Q (-2) h))) : zcI M_X11_unrule [.ref 164, .int x1] h Q := by
  show zw zNT zNT M_X11_unrule 0 [some (.ref 164), some (.int x1)] [] h _
  refine z_aload_n (pc := 0) dX11_unrule_0 rfl rfl ?_
  refine z_iload_n (pc := 1) dX11_unrule_1 rfl rfl ?_
  refine q_invV (pc := 2) (As := [.int x1]) (st := []) dX11_unrule_2 ok_X11_isRule ml_RX11_189 iv_X11_isRule pa_X11_isRule ⟨Nat.le_of_ble_eq_true rfl, Nat.le_of_ble_eq_true rfl⟩ (lyc rfl) (q_pI (s_X11_isRule G) rfl ?_)
  refine z_if_ne (pc := 5) (tgt := 11) dX11_unrule_5 (by decide) (fun k2 => ?_) (fun k2 => ?_)
  · replace F := F.1 (zbn.mp k2)
    refine z_aload_n (pc := 11) dX11_unrule_11 rfl rfl ?_
    refine z_sipush (pc := 12) (v := 150) dX11_unrule_12 (by decide) ?_
    refine z_iconst (pc := 15) (v := 4) dX11_unrule_15 (by decide) ?_
    refine z_sipush (pc := 16) (v := 240) dX11_unrule_16 (by decide) ?_
    refine z_iload_n (pc := 19) dX11_unrule_19 rfl rfl ?_
    refine q_invV (pc := 20) (As := [.int 150, .int 4, .int 240, .int x1]) (st := []) dX11_unrule_20 ok_X11_goes ml_RX11_186 iv_X11_goes pa_X11_goes ⟨Nat.le_of_ble_eq_true rfl, Nat.le_of_ble_eq_true rfl⟩ (lyc rfl) (q_kV F (fun h1 F => ?_))
    obtain ⟨G1, F⟩ := F
    refine z_aload_n (pc := 23) dX11_unrule_23 rfl rfl ?_
    refine q_getR (pc := 24) (i := 165) dX11_unrule_24 lk_RX11_7 (lyc rfl) (G1 164 0 165 rfl) ?_
    refine z_sipush (pc := 27) (v := 240) dX11_unrule_27 (by decide) ?_
    refine q_iald (pc := 30) (j := 240) (v := rI h1 165 240) dX11_unrule_30 (lyc rfl) (zvl (lnc rfl) (by decide)) (by decide) rfl ?_
    exact q_retI (pc := 31) dX11_unrule_31 rfl F
  · replace F := F.2 (zb0.mp k2)
    refine z_bipush (pc := 8) (v := -2) dX11_unrule_8 (by decide) ?_
    exact q_retI (pc := 10) dX11_unrule_10 rfl F
theorem g_X10_choice {x1 : Int32} {x2 : Int32} {h : zHp} {Q : Int32 → zHp → Prop}  (G : zG h) (F : (¬ ((0 : Int32) ≤ x1 ∧ x1 ≤ 1) → (Q (-2) h)) ∧ (((0 : Int32) ≤ x1 ∧ x1 ≤ 1) → ((((0 : Int32) ≤ x2 ∧ x2 ≤ 1) → (vp_in x1 2 ∧ (Q (rI h 7 ((Int32.toNatClampNeg x1))) (wI h 7 ((Int32.toNatClampNeg x1)) x2)))) ∧ (¬ ((0 : Int32) ≤ x2 ∧ x2 ≤ 1) → (Q (-2) h))))) : zcI M_X10_choice [.ref 0, .int x1, .int x2] h Q := by
  show zw zNT zNT M_X10_choice 0 [some (.ref 0), some (.int x1), some (.int x2), none] [] h _
  refine z_iload_n (pc := 0) dX10_choice_0 rfl rfl ?_
  refine z_iconst (pc := 1) (v := 0) dX10_choice_1 (by decide) ?_
  refine z_iconst (pc := 2) (v := 1) dX10_choice_2 (by decide) ?_
  refine q_invS (pc := 3) (As := [.int x1, .int 0, .int 1]) (st := []) dX10_choice_3 ok_X10_within ml_RX10_82 st_X10_within pa_X10_within ⟨Nat.le_of_ble_eq_true rfl, Nat.le_of_ble_eq_true rfl⟩ (q_pI (s_X10_within G) rfl ?_)
  refine z_if_eq (pc := 6) (tgt := 18) dX10_choice_6 (by decide) (fun k3 => ?_) (fun k3 => ?_)
  · replace F := F.1 (zb0.mp k3)
    refine z_bipush (pc := 18) (v := -2) dX10_choice_18 (by decide) ?_
    exact q_retI (pc := 20) dX10_choice_20 rfl F
  · replace F := F.2 (zbn.mp k3)
    refine z_iload_n (pc := 9) dX10_choice_9 rfl rfl ?_
    refine z_iconst (pc := 10) (v := 0) dX10_choice_10 (by decide) ?_
    refine z_iconst (pc := 11) (v := 1) dX10_choice_11 (by decide) ?_
    refine q_invS (pc := 12) (As := [.int x2, .int 0, .int 1]) (st := []) dX10_choice_12 ok_X10_within ml_RX10_82 st_X10_within pa_X10_within ⟨Nat.le_of_ble_eq_true rfl, Nat.le_of_ble_eq_true rfl⟩ (q_pI (s_X10_within G) rfl ?_)
    refine z_if_ne (pc := 15) (tgt := 21) dX10_choice_15 (by decide) (fun k2 => ?_) (fun k2 => ?_)
    · replace F := F.1 (zbn.mp k2)
      refine z_aload_n (pc := 21) dX10_choice_21 rfl rfl ?_
      refine q_getR (pc := 22) (i := 2) dX10_choice_22 lk_RX10_20 (lyc rfl) (G 0 1 2 rfl) ?_
      refine q_getR (pc := 25) (i := 7) dX10_choice_25 lk_RX10_228 (lyc rfl) (G 2 8 7 rfl) ?_
      refine z_iload_n (pc := 28) dX10_choice_28 rfl rfl ?_
      obtain ⟨k1, F⟩ := F
      refine q_iald (pc := 29) (j := (Int32.toNatClampNeg x1)) (v := rI h 7 ((Int32.toNatClampNeg x1))) dX10_choice_29 (lyc rfl) (zvn (lnc rfl) k1) rfl rfl ?_
      refine z_istore_n (pc := 30) (ls' := [some (.ref 0), some (.int x1), some (.int x2), some (.int (rI h 7 ((Int32.toNatClampNeg x1))))]) dX10_choice_30 rfl (by decide) rfl ?_
      refine z_aload_n (pc := 31) dX10_choice_31 rfl rfl ?_
      refine q_getR (pc := 32) (i := 2) dX10_choice_32 lk_RX10_20 (lyc rfl) (G 0 1 2 rfl) ?_
      refine q_getR (pc := 35) (i := 7) dX10_choice_35 lk_RX10_228 (lyc rfl) (G 2 8 7 rfl) ?_
      refine z_iload_n (pc := 38) dX10_choice_38 rfl rfl ?_
      refine z_iload_n (pc := 39) dX10_choice_39 rfl rfl ?_
      refine q_iast (pc := 40) (j := (Int32.toNatClampNeg x1)) dX10_choice_40 (lyc rfl) (zvn (lnc rfl) k1) rfl ?_
      refine z_iload_n (pc := 41) dX10_choice_41 rfl rfl ?_
      exact q_retI (pc := 42) dX10_choice_42 rfl F
    · replace F := F.2 (zb0.mp k2)
      refine z_bipush (pc := 18) (v := -2) dX10_choice_18 (by decide) ?_
      exact q_retI (pc := 20) dX10_choice_20 rfl F
theorem g_X11_choice {x1 : Int32} {x2 : Int32} {h : zHp} {Q : Int32 → zHp → Prop}  (G : zG h) (F : (¬ ((0 : Int32) ≤ x1 ∧ x1 ≤ 1) → (Q (-2) h)) ∧ (((0 : Int32) ≤ x1 ∧ x1 ≤ 1) → ((((0 : Int32) ≤ x2 ∧ x2 ≤ 1) → (vp_in (242 + x1) 246 ∧ (Q (rI h 165 ((Int32.toNatClampNeg (242 + x1)))) (wI h 165 ((Int32.toNatClampNeg (242 + x1))) x2)))) ∧ (¬ ((0 : Int32) ≤ x2 ∧ x2 ≤ 1) → (Q (-2) h))))) : zcI M_X11_choice [.ref 164, .int x1, .int x2] h Q := by
  show zw zNT zNT M_X11_choice 0 [some (.ref 164), some (.int x1), some (.int x2), none] [] h _
  refine z_iload_n (pc := 0) dX11_choice_0 rfl rfl ?_
  refine z_iconst (pc := 1) (v := 0) dX11_choice_1 (by decide) ?_
  refine z_iconst (pc := 2) (v := 1) dX11_choice_2 (by decide) ?_
  refine q_invS (pc := 3) (As := [.int x1, .int 0, .int 1]) (st := []) dX11_choice_3 ok_X11_in ml_RX11_84 st_X11_in pa_X11_in ⟨Nat.le_of_ble_eq_true rfl, Nat.le_of_ble_eq_true rfl⟩ (q_pI (s_X11_in G) rfl ?_)
  refine z_if_eq (pc := 6) (tgt := 18) dX11_choice_6 (by decide) (fun k3 => ?_) (fun k3 => ?_)
  · replace F := F.1 (zb0.mp k3)
    refine z_bipush (pc := 18) (v := -2) dX11_choice_18 (by decide) ?_
    exact q_retI (pc := 20) dX11_choice_20 rfl F
  · replace F := F.2 (zbn.mp k3)
    refine z_iload_n (pc := 9) dX11_choice_9 rfl rfl ?_
    refine z_iconst (pc := 10) (v := 0) dX11_choice_10 (by decide) ?_
    refine z_iconst (pc := 11) (v := 1) dX11_choice_11 (by decide) ?_
    refine q_invS (pc := 12) (As := [.int x2, .int 0, .int 1]) (st := []) dX11_choice_12 ok_X11_in ml_RX11_84 st_X11_in pa_X11_in ⟨Nat.le_of_ble_eq_true rfl, Nat.le_of_ble_eq_true rfl⟩ (q_pI (s_X11_in G) rfl ?_)
    refine z_if_ne (pc := 15) (tgt := 21) dX11_choice_15 (by decide) (fun k2 => ?_) (fun k2 => ?_)
    · replace F := F.1 (zbn.mp k2)
      refine z_aload_n (pc := 21) dX11_choice_21 rfl rfl ?_
      refine q_getR (pc := 22) (i := 165) dX11_choice_22 lk_RX11_7 (lyc rfl) (G 164 0 165 rfl) ?_
      refine z_sipush (pc := 25) (v := 242) dX11_choice_25 (by decide) ?_
      refine z_iload_n (pc := 28) dX11_choice_28 rfl rfl ?_
      refine z_iadd (pc := 29) dX11_choice_29 ?_
      obtain ⟨k1, F⟩ := F
      refine q_iald (pc := 30) (j := (Int32.toNatClampNeg (242 + x1))) (v := rI h 165 ((Int32.toNatClampNeg (242 + x1)))) dX11_choice_30 (lyc rfl) (zvn (lnc rfl) k1) rfl rfl ?_
      refine z_istore_n (pc := 31) (ls' := [some (.ref 164), some (.int x1), some (.int x2), some (.int (rI h 165 ((Int32.toNatClampNeg (242 + x1)))))]) dX11_choice_31 rfl (by decide) rfl ?_
      refine z_aload_n (pc := 32) dX11_choice_32 rfl rfl ?_
      refine q_getR (pc := 33) (i := 165) dX11_choice_33 lk_RX11_7 (lyc rfl) (G 164 0 165 rfl) ?_
      refine z_sipush (pc := 36) (v := 242) dX11_choice_36 (by decide) ?_
      refine z_iload_n (pc := 39) dX11_choice_39 rfl rfl ?_
      refine z_iadd (pc := 40) dX11_choice_40 ?_
      refine z_iload_n (pc := 41) dX11_choice_41 rfl rfl ?_
      refine q_iast (pc := 42) (j := (Int32.toNatClampNeg (242 + x1))) dX11_choice_42 (lyc rfl) (zvn (lnc rfl) k1) rfl ?_
      refine z_iload_n (pc := 43) dX11_choice_43 rfl rfl ?_
      exact q_retI (pc := 44) dX11_choice_44 rfl F
    · replace F := F.2 (zb0.mp k2)
      refine z_bipush (pc := 18) (v := -2) dX11_choice_18 (by decide) ?_
      exact q_retI (pc := 20) dX11_choice_20 rfl F
theorem g_X10_watch {x1 : Int32} {x2 : Int32} {x3 : Int32} {x4 : Int32} {x5 : Int32} {h : zHp} {Q : Int32 → zHp → Prop}  (G : zG h) (F : (¬ ((0 : Int32) ≤ x1 ∧ x1 ≤ 1) → (Q (-2) h)) ∧ (((0 : Int32) ≤ x1 ∧ x1 ≤ 1) → ((¬ ((0 : Int32) ≤ x2 ∧ x2 ≤ 2) → (Q (-2) h)) ∧ (((0 : Int32) ≤ x2 ∧ x2 ≤ 2) → ((((0 : Int32) ≤ x3 ∧ x3 ≤ 2) → ((¬ ((-1 : Int32) ≤ x4 ∧ x4 ≤ 7) → (Q (-2) h)) ∧ (((-1 : Int32) ≤ x4 ∧ x4 ≤ 7) → ((((0 : Int32) ≤ x5 ∧ x5 ≤ 9) → ((rI h 2 7 < 8 → (vp_in (rI h 2 7) 8 ∧ (zRef h 6 ((Int32.toNatClampNeg (rI h 2 7))) 8 ∧ (Q (rI h 2 7) (wI (wI (wI (wI (wI (wI (wI (wI h (rG h 6 ((Int32.toNatClampNeg (rI h 2 7)))) 0 x1) (rG h 6 ((Int32.toNatClampNeg (rI h 2 7)))) 1 x2) (rG h 6 ((Int32.toNatClampNeg (rI h 2 7)))) 2 x3) (rG h 6 ((Int32.toNatClampNeg (rI h 2 7)))) 3 x4) (rG h 6 ((Int32.toNatClampNeg (rI h 2 7)))) 4 x5) (rG h 6 ((Int32.toNatClampNeg (rI h 2 7)))) 5 0) (rG h 6 ((Int32.toNatClampNeg (rI h 2 7)))) 6 0) 2 7 ((rI h 2 7) + 1)))))) ∧ (¬ (rI h 2 7 < 8) → (Q (-4) h)))) ∧ (¬ ((0 : Int32) ≤ x5 ∧ x5 ≤ 9) → (Q (-2) h)))))) ∧ (¬ ((0 : Int32) ≤ x3 ∧ x3 ≤ 2) → (Q (-2) h))))))) : zcI M_X10_watch [.ref 0, .int x1, .int x2, .int x3, .int x4, .int x5] h Q := by
  show zw zNT zNT M_X10_watch 0 [some (.ref 0), some (.int x1), some (.int x2), some (.int x3), some (.int x4), some (.int x5), none] [] h _
  refine z_iload_n (pc := 0) dX10_watch_0 rfl rfl ?_
  refine z_iconst (pc := 1) (v := 0) dX10_watch_1 (by decide) ?_
  refine z_iconst (pc := 2) (v := 1) dX10_watch_2 (by decide) ?_
  refine q_invS (pc := 3) (As := [.int x1, .int 0, .int 1]) (st := []) dX10_watch_3 ok_X10_within ml_RX10_82 st_X10_within pa_X10_within ⟨Nat.le_of_ble_eq_true rfl, Nat.le_of_ble_eq_true rfl⟩ (q_pI (s_X10_within G) rfl ?_)
  refine z_if_eq (pc := 6) (tgt := 27) dX10_watch_6 (by decide) (fun k8 => ?_) (fun k8 => ?_)
  · replace F := F.1 (zb0.mp k8)
    refine z_bipush (pc := 27) (v := -2) dX10_watch_27 (by decide) ?_
    exact q_retI (pc := 29) dX10_watch_29 rfl F
  · replace F := F.2 (zbn.mp k8)
    refine z_iload_n (pc := 9) dX10_watch_9 rfl rfl ?_
    refine z_iconst (pc := 10) (v := 0) dX10_watch_10 (by decide) ?_
    refine z_iconst (pc := 11) (v := 2) dX10_watch_11 (by decide) ?_
    refine q_invS (pc := 12) (As := [.int x2, .int 0, .int 2]) (st := []) dX10_watch_12 ok_X10_within ml_RX10_82 st_X10_within pa_X10_within ⟨Nat.le_of_ble_eq_true rfl, Nat.le_of_ble_eq_true rfl⟩ (q_pI (s_X10_within G) rfl ?_)
    refine z_if_eq (pc := 15) (tgt := 27) dX10_watch_15 (by decide) (fun k7 => ?_) (fun k7 => ?_)
    · replace F := F.1 (zb0.mp k7)
      refine z_bipush (pc := 27) (v := -2) dX10_watch_27 (by decide) ?_
      exact q_retI (pc := 29) dX10_watch_29 rfl F
    · replace F := F.2 (zbn.mp k7)
      refine z_iload_n (pc := 18) dX10_watch_18 rfl rfl ?_
      refine z_iconst (pc := 19) (v := 0) dX10_watch_19 (by decide) ?_
      refine z_iconst (pc := 20) (v := 2) dX10_watch_20 (by decide) ?_
      refine q_invS (pc := 21) (As := [.int x3, .int 0, .int 2]) (st := []) dX10_watch_21 ok_X10_within ml_RX10_82 st_X10_within pa_X10_within ⟨Nat.le_of_ble_eq_true rfl, Nat.le_of_ble_eq_true rfl⟩ (q_pI (s_X10_within G) rfl ?_)
      refine z_if_ne (pc := 24) (tgt := 30) dX10_watch_24 (by decide) (fun k6 => ?_) (fun k6 => ?_)
      · replace F := F.1 (zbn.mp k6)
        refine z_iload (pc := 30) dX10_watch_30 rfl ?_
        refine z_iconst (pc := 32) (v := -1) dX10_watch_32 (by decide) ?_
        refine z_bipush (pc := 33) (v := 7) dX10_watch_33 (by decide) ?_
        refine q_invS (pc := 35) (As := [.int x4, .int (-1), .int 7]) (st := []) dX10_watch_35 ok_X10_within ml_RX10_82 st_X10_within pa_X10_within ⟨Nat.le_of_ble_eq_true rfl, Nat.le_of_ble_eq_true rfl⟩ (q_pI (s_X10_within G) rfl ?_)
        refine z_if_eq (pc := 38) (tgt := 52) dX10_watch_38 (by decide) (fun k5 => ?_) (fun k5 => ?_)
        · replace F := F.1 (zb0.mp k5)
          refine z_bipush (pc := 52) (v := -2) dX10_watch_52 (by decide) ?_
          exact q_retI (pc := 54) dX10_watch_54 rfl F
        · replace F := F.2 (zbn.mp k5)
          refine z_iload (pc := 41) dX10_watch_41 rfl ?_
          refine z_iconst (pc := 43) (v := 0) dX10_watch_43 (by decide) ?_
          refine z_bipush (pc := 44) (v := 9) dX10_watch_44 (by decide) ?_
          refine q_invS (pc := 46) (As := [.int x5, .int 0, .int 9]) (st := []) dX10_watch_46 ok_X10_within ml_RX10_82 st_X10_within pa_X10_within ⟨Nat.le_of_ble_eq_true rfl, Nat.le_of_ble_eq_true rfl⟩ (q_pI (s_X10_within G) rfl ?_)
          refine z_if_ne (pc := 49) (tgt := 55) dX10_watch_49 (by decide) (fun k4 => ?_) (fun k4 => ?_)
          · replace F := F.1 (zbn.mp k4)
            refine z_aload_n (pc := 55) dX10_watch_55 rfl rfl ?_
            refine q_getR (pc := 56) (i := 2) dX10_watch_56 lk_RX10_20 (lyc rfl) (G 0 1 2 rfl) ?_
            refine q_getI (pc := 59) (v := rI h 2 7) dX10_watch_59 lk_RX10_231 (lyc rfl) rfl ?_
            refine z_bipush (pc := 62) (v := 8) dX10_watch_62 (by decide) ?_
            refine z_icmp_lt (pc := 64) (tgt := 70) dX10_watch_64 (by decide) (fun k3 => ?_) (fun k3 => ?_)
            · replace F := F.1 k3
              refine z_aload_n (pc := 70) dX10_watch_70 rfl rfl ?_
              refine q_getR (pc := 71) (i := 2) dX10_watch_71 lk_RX10_20 (lyc rfl) (G 0 1 2 rfl) ?_
              refine q_getI (pc := 74) (v := rI h 2 7) dX10_watch_74 lk_RX10_231 (lyc rfl) rfl ?_
              refine z_istore (pc := 77) (ls' := [some (.ref 0), some (.int x1), some (.int x2), some (.int x3), some (.int x4), some (.int x5), some (.int (rI h 2 7))]) dX10_watch_77 (by decide) rfl ?_
              refine z_aload_n (pc := 79) dX10_watch_79 rfl rfl ?_
              refine q_getR (pc := 80) (i := 2) dX10_watch_80 lk_RX10_20 (lyc rfl) (G 0 1 2 rfl) ?_
              refine q_getR (pc := 83) (i := 6) dX10_watch_83 lk_RX10_234 (lyc rfl) (G 2 6 6 rfl) ?_
              refine z_iload (pc := 86) dX10_watch_86 rfl ?_
              obtain ⟨k1, F⟩ := F
              obtain ⟨k2, F⟩ := F
              refine q_aald (pc := 88) (j := (Int32.toNatClampNeg (rI h 2 7))) (r := rG h 6 ((Int32.toNatClampNeg (rI h 2 7)))) (t := 3) dX10_watch_88 (lyc rfl) (zvn (lnc rfl) k1) rfl k2.1 ?_
              refine z_iload_n (pc := 89) dX10_watch_89 rfl rfl ?_
              refine z_iload_n (pc := 90) dX10_watch_90 rfl rfl ?_
              refine z_iload_n (pc := 91) dX10_watch_91 rfl rfl ?_
              refine z_iload (pc := 92) dX10_watch_92 rfl ?_
              refine z_iload (pc := 94) dX10_watch_94 rfl ?_
              refine q_invV (pc := 96) (As := [.int x1, .int x2, .int x3, .int x4, .int x5]) (st := []) dX10_watch_96 ok_X7_become ml_RX10_238 iv_X7_become pa_X7_become ⟨Nat.le_of_ble_eq_true rfl, Nat.le_of_ble_eq_true rfl⟩ k2.2 (q_pV (s_X7_become G k2.2) ?_)
              refine z_aload_n (pc := 99) dX10_watch_99 rfl rfl ?_
              refine q_getR (pc := 100) (i := 2) dX10_watch_100 lk_RX10_20 (lyc rfl) (G 0 1 2 rfl) ?_
              refine z_dup (pc := 103) dX10_watch_103 rfl ?_
              refine q_getI (pc := 104) (v := rI h 2 7) dX10_watch_104 lk_RX10_231 (lyc rfl) (((((((rI_k (by decide)).trans (rI_k (by decide))).trans (rI_k (by decide))).trans (rI_k (by decide))).trans (rI_k (by decide))).trans (rI_k (by decide))).trans (rI_k (by decide))) ?_
              refine z_iconst (pc := 107) (v := 1) dX10_watch_107 (by decide) ?_
              refine z_iadd (pc := 108) dX10_watch_108 ?_
              refine q_putI (pc := 109) dX10_watch_109 lk_RX10_231 (lyc rfl) ?_
              refine z_iload (pc := 112) dX10_watch_112 rfl ?_
              exact q_retI (pc := 114) dX10_watch_114 rfl F
            · replace F := F.2 k3
              refine z_bipush (pc := 67) (v := -4) dX10_watch_67 (by decide) ?_
              exact q_retI (pc := 69) dX10_watch_69 rfl F
          · replace F := F.2 (zb0.mp k4)
            refine z_bipush (pc := 52) (v := -2) dX10_watch_52 (by decide) ?_
            exact q_retI (pc := 54) dX10_watch_54 rfl F
      · replace F := F.2 (zb0.mp k6)
        refine z_bipush (pc := 27) (v := -2) dX10_watch_27 (by decide) ?_
        exact q_retI (pc := 29) dX10_watch_29 rfl F
theorem g_X11_watch {x1 : Int32} {x2 : Int32} {x3 : Int32} {x4 : Int32} {x5 : Int32} {h : zHp} {Q : Int32 → zHp → Prop}  (G : zG h) (F : (¬ ((0 : Int32) ≤ x1 ∧ x1 ≤ 1) → (Q (-2) h)) ∧ (((0 : Int32) ≤ x1 ∧ x1 ≤ 1) → ((¬ ((0 : Int32) ≤ x2 ∧ x2 ≤ 2) → (Q (-2) h)) ∧ (((0 : Int32) ≤ x2 ∧ x2 ≤ 2) → ((¬ ((0 : Int32) ≤ x3 ∧ x3 ≤ 2) → (Q (-2) h)) ∧ (((0 : Int32) ≤ x3 ∧ x3 ≤ 2) → ((¬ ((-1 : Int32) ≤ x4 ∧ x4 ≤ 7) → (Q (-2) h)) ∧ (((-1 : Int32) ≤ x4 ∧ x4 ≤ 7) → ((((0 : Int32) ≤ x5 ∧ x5 ≤ 9) → ((¬ rI h 165 241 = 8 → (vp_in (182 + (7 * (rI h 165 241))) 246 ∧ (vp_in ((182 + (7 * (rI h 165 241))) + 1) 246 ∧ (vp_in ((182 + (7 * (rI h 165 241))) + 2) 246 ∧ (vp_in ((182 + (7 * (rI h 165 241))) + 3) 246 ∧ (vp_in ((182 + (7 * (rI h 165 241))) + 4) 246 ∧ (vp_in ((182 + (7 * (rI h 165 241))) + 5) 246 ∧ (vp_in ((182 + (7 * (rI h 165 241))) + 6) 246 ∧ (Q (((rI (wI (wI (wI (wI (wI (wI (wI h 165 ((Int32.toNatClampNeg (182 + (7 * (rI h 165 241))))) x1) 165 ((Int32.toNatClampNeg ((182 + (7 * (rI h 165 241))) + 1))) x2) 165 ((Int32.toNatClampNeg ((182 + (7 * (rI h 165 241))) + 2))) x3) 165 ((Int32.toNatClampNeg ((182 + (7 * (rI h 165 241))) + 3))) x4) 165 ((Int32.toNatClampNeg ((182 + (7 * (rI h 165 241))) + 4))) x5) 165 ((Int32.toNatClampNeg ((182 + (7 * (rI h 165 241))) + 5))) 0) 165 ((Int32.toNatClampNeg ((182 + (7 * (rI h 165 241))) + 6))) 0) 165 241) + 1) - 1) (wI (wI (wI (wI (wI (wI (wI (wI h 165 ((Int32.toNatClampNeg (182 + (7 * (rI h 165 241))))) x1) 165 ((Int32.toNatClampNeg ((182 + (7 * (rI h 165 241))) + 1))) x2) 165 ((Int32.toNatClampNeg ((182 + (7 * (rI h 165 241))) + 2))) x3) 165 ((Int32.toNatClampNeg ((182 + (7 * (rI h 165 241))) + 3))) x4) 165 ((Int32.toNatClampNeg ((182 + (7 * (rI h 165 241))) + 4))) x5) 165 ((Int32.toNatClampNeg ((182 + (7 * (rI h 165 241))) + 5))) 0) 165 ((Int32.toNatClampNeg ((182 + (7 * (rI h 165 241))) + 6))) 0) 165 241 ((rI (wI (wI (wI (wI (wI (wI (wI h 165 ((Int32.toNatClampNeg (182 + (7 * (rI h 165 241))))) x1) 165 ((Int32.toNatClampNeg ((182 + (7 * (rI h 165 241))) + 1))) x2) 165 ((Int32.toNatClampNeg ((182 + (7 * (rI h 165 241))) + 2))) x3) 165 ((Int32.toNatClampNeg ((182 + (7 * (rI h 165 241))) + 3))) x4) 165 ((Int32.toNatClampNeg ((182 + (7 * (rI h 165 241))) + 4))) x5) 165 ((Int32.toNatClampNeg ((182 + (7 * (rI h 165 241))) + 5))) 0) 165 ((Int32.toNatClampNeg ((182 + (7 * (rI h 165 241))) + 6))) 0) 165 241) + 1))))))))))) ∧ (rI h 165 241 = 8 → (Q (-4) h)))) ∧ (¬ ((0 : Int32) ≤ x5 ∧ x5 ≤ 9) → (Q (-2) h))))))))))) : zcI M_X11_watch [.ref 164, .int x1, .int x2, .int x3, .int x4, .int x5] h Q := by
  show zw zNT zNT M_X11_watch 0 [some (.ref 164), some (.int x1), some (.int x2), some (.int x3), some (.int x4), some (.int x5), none] [] h _
  refine z_iload_n (pc := 0) dX11_watch_0 rfl rfl ?_
  refine z_iconst (pc := 1) (v := 0) dX11_watch_1 (by decide) ?_
  refine z_iconst (pc := 2) (v := 1) dX11_watch_2 (by decide) ?_
  refine q_invS (pc := 3) (As := [.int x1, .int 0, .int 1]) (st := []) dX11_watch_3 ok_X11_in ml_RX11_84 st_X11_in pa_X11_in ⟨Nat.le_of_ble_eq_true rfl, Nat.le_of_ble_eq_true rfl⟩ (q_pI (s_X11_in G) rfl ?_)
  refine z_if_eq (pc := 6) (tgt := 49) dX11_watch_6 (by decide) (fun k13 => ?_) (fun k13 => ?_)
  · replace F := F.1 (zb0.mp k13)
    refine z_bipush (pc := 49) (v := -2) dX11_watch_49 (by decide) ?_
    exact q_retI (pc := 51) dX11_watch_51 rfl F
  · replace F := F.2 (zbn.mp k13)
    refine z_iload_n (pc := 9) dX11_watch_9 rfl rfl ?_
    refine z_iconst (pc := 10) (v := 0) dX11_watch_10 (by decide) ?_
    refine z_iconst (pc := 11) (v := 2) dX11_watch_11 (by decide) ?_
    refine q_invS (pc := 12) (As := [.int x2, .int 0, .int 2]) (st := []) dX11_watch_12 ok_X11_in ml_RX11_84 st_X11_in pa_X11_in ⟨Nat.le_of_ble_eq_true rfl, Nat.le_of_ble_eq_true rfl⟩ (q_pI (s_X11_in G) rfl ?_)
    refine z_if_eq (pc := 15) (tgt := 49) dX11_watch_15 (by decide) (fun k12 => ?_) (fun k12 => ?_)
    · replace F := F.1 (zb0.mp k12)
      refine z_bipush (pc := 49) (v := -2) dX11_watch_49 (by decide) ?_
      exact q_retI (pc := 51) dX11_watch_51 rfl F
    · replace F := F.2 (zbn.mp k12)
      refine z_iload_n (pc := 18) dX11_watch_18 rfl rfl ?_
      refine z_iconst (pc := 19) (v := 0) dX11_watch_19 (by decide) ?_
      refine z_iconst (pc := 20) (v := 2) dX11_watch_20 (by decide) ?_
      refine q_invS (pc := 21) (As := [.int x3, .int 0, .int 2]) (st := []) dX11_watch_21 ok_X11_in ml_RX11_84 st_X11_in pa_X11_in ⟨Nat.le_of_ble_eq_true rfl, Nat.le_of_ble_eq_true rfl⟩ (q_pI (s_X11_in G) rfl ?_)
      refine z_if_eq (pc := 24) (tgt := 49) dX11_watch_24 (by decide) (fun k11 => ?_) (fun k11 => ?_)
      · replace F := F.1 (zb0.mp k11)
        refine z_bipush (pc := 49) (v := -2) dX11_watch_49 (by decide) ?_
        exact q_retI (pc := 51) dX11_watch_51 rfl F
      · replace F := F.2 (zbn.mp k11)
        refine z_iload (pc := 27) dX11_watch_27 rfl ?_
        refine z_iconst (pc := 29) (v := -1) dX11_watch_29 (by decide) ?_
        refine z_bipush (pc := 30) (v := 7) dX11_watch_30 (by decide) ?_
        refine q_invS (pc := 32) (As := [.int x4, .int (-1), .int 7]) (st := []) dX11_watch_32 ok_X11_in ml_RX11_84 st_X11_in pa_X11_in ⟨Nat.le_of_ble_eq_true rfl, Nat.le_of_ble_eq_true rfl⟩ (q_pI (s_X11_in G) rfl ?_)
        refine z_if_eq (pc := 35) (tgt := 49) dX11_watch_35 (by decide) (fun k10 => ?_) (fun k10 => ?_)
        · replace F := F.1 (zb0.mp k10)
          refine z_bipush (pc := 49) (v := -2) dX11_watch_49 (by decide) ?_
          exact q_retI (pc := 51) dX11_watch_51 rfl F
        · replace F := F.2 (zbn.mp k10)
          refine z_iload (pc := 38) dX11_watch_38 rfl ?_
          refine z_iconst (pc := 40) (v := 0) dX11_watch_40 (by decide) ?_
          refine z_bipush (pc := 41) (v := 9) dX11_watch_41 (by decide) ?_
          refine q_invS (pc := 43) (As := [.int x5, .int 0, .int 9]) (st := []) dX11_watch_43 ok_X11_in ml_RX11_84 st_X11_in pa_X11_in ⟨Nat.le_of_ble_eq_true rfl, Nat.le_of_ble_eq_true rfl⟩ (q_pI (s_X11_in G) rfl ?_)
          refine z_if_ne (pc := 46) (tgt := 52) dX11_watch_46 (by decide) (fun k9 => ?_) (fun k9 => ?_)
          · replace F := F.1 (zbn.mp k9)
            refine z_aload_n (pc := 52) dX11_watch_52 rfl rfl ?_
            refine q_getR (pc := 53) (i := 165) dX11_watch_53 lk_RX11_7 (lyc rfl) (G 164 0 165 rfl) ?_
            refine z_sipush (pc := 56) (v := 241) dX11_watch_56 (by decide) ?_
            refine q_iald (pc := 59) (j := 241) (v := rI h 165 241) dX11_watch_59 (lyc rfl) (zvl (lnc rfl) (by decide)) (by decide) rfl ?_
            refine z_bipush (pc := 60) (v := 8) dX11_watch_60 (by decide) ?_
            refine z_icmp_ne (pc := 62) (tgt := 68) dX11_watch_62 (by decide) (fun k8 => ?_) (fun k8 => ?_)
            · replace F := F.1 k8
              refine z_sipush (pc := 68) (v := 182) dX11_watch_68 (by decide) ?_
              refine z_bipush (pc := 71) (v := 7) dX11_watch_71 (by decide) ?_
              refine z_aload_n (pc := 73) dX11_watch_73 rfl rfl ?_
              refine q_getR (pc := 74) (i := 165) dX11_watch_74 lk_RX11_7 (lyc rfl) (G 164 0 165 rfl) ?_
              refine z_sipush (pc := 77) (v := 241) dX11_watch_77 (by decide) ?_
              refine q_iald (pc := 80) (j := 241) (v := rI h 165 241) dX11_watch_80 (lyc rfl) (zvl (lnc rfl) (by decide)) (by decide) rfl ?_
              refine z_imul (pc := 81) dX11_watch_81 ?_
              refine z_iadd (pc := 82) dX11_watch_82 ?_
              refine z_istore (pc := 83) (ls' := [some (.ref 164), some (.int x1), some (.int x2), some (.int x3), some (.int x4), some (.int x5), some (.int (182 + (7 * (rI h 165 241))))]) dX11_watch_83 (by decide) rfl ?_
              refine z_aload_n (pc := 85) dX11_watch_85 rfl rfl ?_
              refine q_getR (pc := 86) (i := 165) dX11_watch_86 lk_RX11_7 (lyc rfl) (G 164 0 165 rfl) ?_
              refine z_iload (pc := 89) dX11_watch_89 rfl ?_
              refine z_iload_n (pc := 91) dX11_watch_91 rfl rfl ?_
              obtain ⟨k1, F⟩ := F
              refine q_iast (pc := 92) (j := (Int32.toNatClampNeg (182 + (7 * (rI h 165 241))))) dX11_watch_92 (lyc rfl) (zvn (lnc rfl) k1) rfl ?_
              refine z_aload_n (pc := 93) dX11_watch_93 rfl rfl ?_
              refine q_getR (pc := 94) (i := 165) dX11_watch_94 lk_RX11_7 (lyc rfl) (G 164 0 165 rfl) ?_
              refine z_iload (pc := 97) dX11_watch_97 rfl ?_
              refine z_iconst (pc := 99) (v := 1) dX11_watch_99 (by decide) ?_
              refine z_iadd (pc := 100) dX11_watch_100 ?_
              refine z_iload_n (pc := 101) dX11_watch_101 rfl rfl ?_
              obtain ⟨k2, F⟩ := F
              refine q_iast (pc := 102) (j := (Int32.toNatClampNeg ((182 + (7 * (rI h 165 241))) + 1))) dX11_watch_102 (lyc rfl) (zvn (lnc rfl) k2) rfl ?_
              refine z_aload_n (pc := 103) dX11_watch_103 rfl rfl ?_
              refine q_getR (pc := 104) (i := 165) dX11_watch_104 lk_RX11_7 (lyc rfl) (G 164 0 165 rfl) ?_
              refine z_iload (pc := 107) dX11_watch_107 rfl ?_
              refine z_iconst (pc := 109) (v := 2) dX11_watch_109 (by decide) ?_
              refine z_iadd (pc := 110) dX11_watch_110 ?_
              refine z_iload_n (pc := 111) dX11_watch_111 rfl rfl ?_
              obtain ⟨k3, F⟩ := F
              refine q_iast (pc := 112) (j := (Int32.toNatClampNeg ((182 + (7 * (rI h 165 241))) + 2))) dX11_watch_112 (lyc rfl) (zvn (lnc rfl) k3) rfl ?_
              refine z_aload_n (pc := 113) dX11_watch_113 rfl rfl ?_
              refine q_getR (pc := 114) (i := 165) dX11_watch_114 lk_RX11_7 (lyc rfl) (G 164 0 165 rfl) ?_
              refine z_iload (pc := 117) dX11_watch_117 rfl ?_
              refine z_iconst (pc := 119) (v := 3) dX11_watch_119 (by decide) ?_
              refine z_iadd (pc := 120) dX11_watch_120 ?_
              refine z_iload (pc := 121) dX11_watch_121 rfl ?_
              obtain ⟨k4, F⟩ := F
              refine q_iast (pc := 123) (j := (Int32.toNatClampNeg ((182 + (7 * (rI h 165 241))) + 3))) dX11_watch_123 (lyc rfl) (zvn (lnc rfl) k4) rfl ?_
              refine z_aload_n (pc := 124) dX11_watch_124 rfl rfl ?_
              refine q_getR (pc := 125) (i := 165) dX11_watch_125 lk_RX11_7 (lyc rfl) (G 164 0 165 rfl) ?_
              refine z_iload (pc := 128) dX11_watch_128 rfl ?_
              refine z_iconst (pc := 130) (v := 4) dX11_watch_130 (by decide) ?_
              refine z_iadd (pc := 131) dX11_watch_131 ?_
              refine z_iload (pc := 132) dX11_watch_132 rfl ?_
              obtain ⟨k5, F⟩ := F
              refine q_iast (pc := 134) (j := (Int32.toNatClampNeg ((182 + (7 * (rI h 165 241))) + 4))) dX11_watch_134 (lyc rfl) (zvn (lnc rfl) k5) rfl ?_
              refine z_aload_n (pc := 135) dX11_watch_135 rfl rfl ?_
              refine q_getR (pc := 136) (i := 165) dX11_watch_136 lk_RX11_7 (lyc rfl) (G 164 0 165 rfl) ?_
              refine z_iload (pc := 139) dX11_watch_139 rfl ?_
              refine z_iconst (pc := 141) (v := 5) dX11_watch_141 (by decide) ?_
              refine z_iadd (pc := 142) dX11_watch_142 ?_
              refine z_iconst (pc := 143) (v := 0) dX11_watch_143 (by decide) ?_
              obtain ⟨k6, F⟩ := F
              refine q_iast (pc := 144) (j := (Int32.toNatClampNeg ((182 + (7 * (rI h 165 241))) + 5))) dX11_watch_144 (lyc rfl) (zvn (lnc rfl) k6) rfl ?_
              refine z_aload_n (pc := 145) dX11_watch_145 rfl rfl ?_
              refine q_getR (pc := 146) (i := 165) dX11_watch_146 lk_RX11_7 (lyc rfl) (G 164 0 165 rfl) ?_
              refine z_iload (pc := 149) dX11_watch_149 rfl ?_
              refine z_bipush (pc := 151) (v := 6) dX11_watch_151 (by decide) ?_
              refine z_iadd (pc := 153) dX11_watch_153 ?_
              refine z_iconst (pc := 154) (v := 0) dX11_watch_154 (by decide) ?_
              obtain ⟨k7, F⟩ := F
              refine q_iast (pc := 155) (j := (Int32.toNatClampNeg ((182 + (7 * (rI h 165 241))) + 6))) dX11_watch_155 (lyc rfl) (zvn (lnc rfl) k7) rfl ?_
              refine z_aload_n (pc := 156) dX11_watch_156 rfl rfl ?_
              refine q_getR (pc := 157) (i := 165) dX11_watch_157 lk_RX11_7 (lyc rfl) (G 164 0 165 rfl) ?_
              refine z_sipush (pc := 160) (v := 241) dX11_watch_160 (by decide) ?_
              refine z_dup2 (pc := 163) dX11_watch_163 rfl rfl ?_
              refine q_iald (pc := 164) (j := 241) (v := rI (wI (wI (wI (wI (wI (wI (wI h 165 ((Int32.toNatClampNeg (182 + (7 * (rI h 165 241))))) x1) 165 ((Int32.toNatClampNeg ((182 + (7 * (rI h 165 241))) + 1))) x2) 165 ((Int32.toNatClampNeg ((182 + (7 * (rI h 165 241))) + 2))) x3) 165 ((Int32.toNatClampNeg ((182 + (7 * (rI h 165 241))) + 3))) x4) 165 ((Int32.toNatClampNeg ((182 + (7 * (rI h 165 241))) + 4))) x5) 165 ((Int32.toNatClampNeg ((182 + (7 * (rI h 165 241))) + 5))) 0) 165 ((Int32.toNatClampNeg ((182 + (7 * (rI h 165 241))) + 6))) 0) 165 241) dX11_watch_164 (lyc rfl) (zvl (lnc rfl) (by decide)) (by decide) rfl ?_
              refine z_iconst (pc := 165) (v := 1) dX11_watch_165 (by decide) ?_
              refine z_iadd (pc := 166) dX11_watch_166 ?_
              refine q_iast (pc := 167) (j := 241) dX11_watch_167 (lyc rfl) (zvl (lnc rfl) (by decide)) (by decide) ?_
              refine z_aload_n (pc := 168) dX11_watch_168 rfl rfl ?_
              refine q_getR (pc := 169) (i := 165) dX11_watch_169 lk_RX11_7 (lyc rfl) (G 164 0 165 rfl) ?_
              refine z_sipush (pc := 172) (v := 241) dX11_watch_172 (by decide) ?_
              refine q_iald (pc := 175) (j := 241) (v := (rI (wI (wI (wI (wI (wI (wI (wI h 165 ((Int32.toNatClampNeg (182 + (7 * (rI h 165 241))))) x1) 165 ((Int32.toNatClampNeg ((182 + (7 * (rI h 165 241))) + 1))) x2) 165 ((Int32.toNatClampNeg ((182 + (7 * (rI h 165 241))) + 2))) x3) 165 ((Int32.toNatClampNeg ((182 + (7 * (rI h 165 241))) + 3))) x4) 165 ((Int32.toNatClampNeg ((182 + (7 * (rI h 165 241))) + 4))) x5) 165 ((Int32.toNatClampNeg ((182 + (7 * (rI h 165 241))) + 5))) 0) 165 ((Int32.toNatClampNeg ((182 + (7 * (rI h 165 241))) + 6))) 0) 165 241) + 1) dX11_watch_175 (lyc rfl) (zvl (lnc rfl) (by decide)) (by decide) rI_s ?_
              refine z_iconst (pc := 176) (v := 1) dX11_watch_176 (by decide) ?_
              refine z_isub (pc := 177) dX11_watch_177 ?_
              exact q_retI (pc := 178) dX11_watch_178 rfl F
            · replace F := F.2 k8
              refine z_bipush (pc := 65) (v := -4) dX11_watch_65 (by decide) ?_
              exact q_retI (pc := 67) dX11_watch_67 rfl F
          · replace F := F.2 (zb0.mp k9)
            refine z_bipush (pc := 49) (v := -2) dX11_watch_49 (by decide) ?_
            exact q_retI (pc := 51) dX11_watch_51 rfl F
theorem g_X10_watches {x1 : Int32} {x2 : Int32} {x3 : Int32} {h : zHp} {Q : Int32 → zHp → Prop}  (G : zG h) (F : (¬ (0 ≤ x1 ∧ x1 ≤ (rI h 2 7) - 1) → (Q (-2) h)) ∧ ((0 ≤ x1 ∧ x1 ≤ (rI h 2 7) - 1) → (((okSc x2 x3) → (vp_in x1 8 ∧ (zRef h 6 ((Int32.toNatClampNeg x1)) 8 ∧ (Q (rI h (rG h 6 ((Int32.toNatClampNeg x1))) 5) (wI (wI h (rG h 6 ((Int32.toNatClampNeg x1))) 5 x2) (rG h 6 ((Int32.toNatClampNeg x1))) 6 x3))))) ∧ (¬ (okSc x2 x3) → (Q (-2) h))))) : zcI M_X10_watches [.ref 0, .int x1, .int x2, .int x3] h Q := by
  show zw zNT zNT M_X10_watches 0 [some (.ref 0), some (.int x1), some (.int x2), some (.int x3), none, none] [] h _
  refine z_aload_n (pc := 0) dX10_watches_0 rfl rfl ?_
  refine q_getR (pc := 1) (i := 2) dX10_watches_1 lk_RX10_20 (lyc rfl) (G 0 1 2 rfl) ?_
  refine z_iload_n (pc := 4) dX10_watches_4 rfl rfl ?_
  refine q_invV (pc := 5) (As := [.int x1]) (st := []) dX10_watches_5 ok_X8_hasWatcher ml_RX10_241 iv_X8_hasWatcher pa_X8_hasWatcher ⟨Nat.le_of_ble_eq_true rfl, Nat.le_of_ble_eq_true rfl⟩ (lyc rfl) (q_pI (s_X8_hasWatcher G (Or.inl rfl)) rfl ?_)
  refine z_if_eq (pc := 8) (tgt := 19) dX10_watches_8 (by decide) (fun k4 => ?_) (fun k4 => ?_)
  · replace F := F.1 (zb0.mp k4)
    refine z_bipush (pc := 19) (v := -2) dX10_watches_19 (by decide) ?_
    exact q_retI (pc := 21) dX10_watches_21 rfl F
  · replace F := F.2 (zbn.mp k4)
    refine z_iload_n (pc := 11) dX10_watches_11 rfl rfl ?_
    refine z_iload_n (pc := 12) dX10_watches_12 rfl rfl ?_
    refine q_invS (pc := 13) (As := [.int x2, .int x3]) (st := []) dX10_watches_13 ok_X10_isScope ml_RX10_151 st_X10_isScope pa_X10_isScope ⟨Nat.le_of_ble_eq_true rfl, Nat.le_of_ble_eq_true rfl⟩ (q_pI (s_X10_isScope G) rfl ?_)
    refine z_if_ne (pc := 16) (tgt := 22) dX10_watches_16 (by decide) (fun k3 => ?_) (fun k3 => ?_)
    · replace F := F.1 (zbn.mp k3)
      refine z_aload_n (pc := 22) dX10_watches_22 rfl rfl ?_
      refine q_getR (pc := 23) (i := 2) dX10_watches_23 lk_RX10_20 (lyc rfl) (G 0 1 2 rfl) ?_
      refine q_getR (pc := 26) (i := 6) dX10_watches_26 lk_RX10_234 (lyc rfl) (G 2 6 6 rfl) ?_
      refine z_iload_n (pc := 29) dX10_watches_29 rfl rfl ?_
      obtain ⟨k1, F⟩ := F
      obtain ⟨k2, F⟩ := F
      refine q_aald (pc := 30) (j := (Int32.toNatClampNeg x1)) (r := rG h 6 ((Int32.toNatClampNeg x1))) (t := 3) dX10_watches_30 (lyc rfl) (zvn (lnc rfl) k1) rfl k2.1 ?_
      refine z_astore (pc := 31) (ls' := [some (.ref 0), some (.int x1), some (.int x2), some (.int x3), some (.ref (rG h 6 ((Int32.toNatClampNeg x1)))), none]) dX10_watches_31 (by decide) rfl ?_
      refine z_aload (pc := 33) dX10_watches_33 rfl ?_
      refine q_getI (pc := 35) (v := rI h (rG h 6 ((Int32.toNatClampNeg x1))) 5) dX10_watches_35 lk_RX10_244 k2.2 rfl ?_
      refine z_istore (pc := 38) (ls' := [some (.ref 0), some (.int x1), some (.int x2), some (.int x3), some (.ref (rG h 6 ((Int32.toNatClampNeg x1)))), some (.int (rI h (rG h 6 ((Int32.toNatClampNeg x1))) 5))]) dX10_watches_38 (by decide) rfl ?_
      refine z_aload (pc := 40) dX10_watches_40 rfl ?_
      refine z_iload_n (pc := 42) dX10_watches_42 rfl rfl ?_
      refine q_putI (pc := 43) dX10_watches_43 lk_RX10_244 k2.2 ?_
      refine z_aload (pc := 46) dX10_watches_46 rfl ?_
      refine z_iload_n (pc := 48) dX10_watches_48 rfl rfl ?_
      refine q_putI (pc := 49) dX10_watches_49 lk_RX10_247 k2.2 ?_
      refine z_iload (pc := 52) dX10_watches_52 rfl ?_
      exact q_retI (pc := 54) dX10_watches_54 rfl F
    · replace F := F.2 (zb0.mp k3)
      refine z_bipush (pc := 19) (v := -2) dX10_watches_19 (by decide) ?_
      exact q_retI (pc := 21) dX10_watches_21 rfl F
theorem g_X11_watches {x1 : Int32} {x2 : Int32} {x3 : Int32} {h : zHp} {Q : Int32 → zHp → Prop}  (G : zG h) (F : (¬ (0 ≤ x1 ∧ x1 ≤ rI h 165 241 - 1) → (Q (-2) h)) ∧ ((0 ≤ x1 ∧ x1 ≤ rI h 165 241 - 1) → (((okSc x2 x3) → (vp_in ((182 + (7 * x1)) + 5) 246 ∧ (vp_in ((182 + (7 * x1)) + 5) 246 ∧ (vp_in ((182 + (7 * x1)) + 6) 246 ∧ (Q (rI h 165 ((Int32.toNatClampNeg (((182 + (7 * x1)) + 5))))) (wI (wI h 165 ((Int32.toNatClampNeg ((182 + (7 * x1)) + 5))) x2) 165 ((Int32.toNatClampNeg ((182 + (7 * x1)) + 6))) x3)))))) ∧ (¬ (okSc x2 x3) → (Q (-2) h))))) : zcI M_X11_watches [.ref 164, .int x1, .int x2, .int x3] h Q := by
  show zw zNT zNT M_X11_watches 0 [some (.ref 164), some (.int x1), some (.int x2), some (.int x3), none] [] h _
  refine z_aload_n (pc := 0) dX11_watches_0 rfl rfl ?_
  refine z_iload_n (pc := 1) dX11_watches_1 rfl rfl ?_
  refine q_invV (pc := 2) (As := [.int x1]) (st := []) dX11_watches_2 ok_X11_isWatcher ml_RX11_195 iv_X11_isWatcher pa_X11_isWatcher ⟨Nat.le_of_ble_eq_true rfl, Nat.le_of_ble_eq_true rfl⟩ (lyc rfl) (q_pI (s_X11_isWatcher G) rfl ?_)
  refine z_if_eq (pc := 5) (tgt := 16) dX11_watches_5 (by decide) (fun k5 => ?_) (fun k5 => ?_)
  · replace F := F.1 (zb0.mp k5)
    refine z_bipush (pc := 16) (v := -2) dX11_watches_16 (by decide) ?_
    exact q_retI (pc := 18) dX11_watches_18 rfl F
  · replace F := F.2 (zbn.mp k5)
    refine z_iload_n (pc := 8) dX11_watches_8 rfl rfl ?_
    refine z_iload_n (pc := 9) dX11_watches_9 rfl rfl ?_
    refine q_invS (pc := 10) (As := [.int x2, .int x3]) (st := []) dX11_watches_10 ok_X11_isScope ml_RX11_173 st_X11_isScope pa_X11_isScope ⟨Nat.le_of_ble_eq_true rfl, Nat.le_of_ble_eq_true rfl⟩ (q_pI (s_X11_isScope G) rfl ?_)
    refine z_if_ne (pc := 13) (tgt := 19) dX11_watches_13 (by decide) (fun k4 => ?_) (fun k4 => ?_)
    · replace F := F.1 (zbn.mp k4)
      refine z_aload_n (pc := 19) dX11_watches_19 rfl rfl ?_
      refine z_iload_n (pc := 20) dX11_watches_20 rfl rfl ?_
      refine z_iconst (pc := 21) (v := 5) dX11_watches_21 (by decide) ?_
      obtain ⟨k1, F⟩ := F
      refine q_invV (pc := 22) (As := [.int x1, .int 5]) (st := []) dX11_watches_22 ok_X11_watcher ml_RX11_139 iv_X11_watcher pa_X11_watcher ⟨Nat.le_of_ble_eq_true rfl, Nat.le_of_ble_eq_true rfl⟩ (lyc rfl) (q_pI (s_X11_watcher G k1) rfl ?_)
      refine z_istore (pc := 25) (ls' := [some (.ref 164), some (.int x1), some (.int x2), some (.int x3), some (.int (rI h 165 ((Int32.toNatClampNeg (((182 + (7 * x1)) + 5))))))]) dX11_watches_25 (by decide) rfl ?_
      refine z_aload_n (pc := 27) dX11_watches_27 rfl rfl ?_
      refine q_getR (pc := 28) (i := 165) dX11_watches_28 lk_RX11_7 (lyc rfl) (G 164 0 165 rfl) ?_
      refine z_sipush (pc := 31) (v := 182) dX11_watches_31 (by decide) ?_
      refine z_bipush (pc := 34) (v := 7) dX11_watches_34 (by decide) ?_
      refine z_iload_n (pc := 36) dX11_watches_36 rfl rfl ?_
      refine z_imul (pc := 37) dX11_watches_37 ?_
      refine z_iadd (pc := 38) dX11_watches_38 ?_
      refine z_iconst (pc := 39) (v := 5) dX11_watches_39 (by decide) ?_
      refine z_iadd (pc := 40) dX11_watches_40 ?_
      refine z_iload_n (pc := 41) dX11_watches_41 rfl rfl ?_
      obtain ⟨k2, F⟩ := F
      refine q_iast (pc := 42) (j := (Int32.toNatClampNeg ((182 + (7 * x1)) + 5))) dX11_watches_42 (lyc rfl) (zvn (lnc rfl) k2) rfl ?_
      refine z_aload_n (pc := 43) dX11_watches_43 rfl rfl ?_
      refine q_getR (pc := 44) (i := 165) dX11_watches_44 lk_RX11_7 (lyc rfl) (G 164 0 165 rfl) ?_
      refine z_sipush (pc := 47) (v := 182) dX11_watches_47 (by decide) ?_
      refine z_bipush (pc := 50) (v := 7) dX11_watches_50 (by decide) ?_
      refine z_iload_n (pc := 52) dX11_watches_52 rfl rfl ?_
      refine z_imul (pc := 53) dX11_watches_53 ?_
      refine z_iadd (pc := 54) dX11_watches_54 ?_
      refine z_bipush (pc := 55) (v := 6) dX11_watches_55 (by decide) ?_
      refine z_iadd (pc := 57) dX11_watches_57 ?_
      refine z_iload_n (pc := 58) dX11_watches_58 rfl rfl ?_
      obtain ⟨k3, F⟩ := F
      refine q_iast (pc := 59) (j := (Int32.toNatClampNeg ((182 + (7 * x1)) + 6))) dX11_watches_59 (lyc rfl) (zvn (lnc rfl) k3) rfl ?_
      refine z_iload (pc := 60) dX11_watches_60 rfl ?_
      exact q_retI (pc := 62) dX11_watches_62 rfl F
    · replace F := F.2 (zb0.mp k4)
      refine z_bipush (pc := 16) (v := -2) dX11_watches_16 (by decide) ?_
      exact q_retI (pc := 18) dX11_watches_18 rfl F
theorem g_X10_unwatch {x1 : Int32} {h : zHp} {Q : Int32 → zHp → Prop}  (G : zG h) (F : ((0 ≤ x1 ∧ x1 ≤ (rI h 2 7) - 1) → (zcV M_X8_dropWatcher [.ref 2, .int x1] h (fun h1 => zG h1 ∧ (Q (rI h1 2 7) h1)))) ∧ (¬ (0 ≤ x1 ∧ x1 ≤ (rI h 2 7) - 1) → (Q (-2) h))) : zcI M_X10_unwatch [.ref 0, .int x1] h Q := by
  show zw zNT zNT M_X10_unwatch 0 [some (.ref 0), some (.int x1)] [] h _
  refine z_aload_n (pc := 0) dX10_unwatch_0 rfl rfl ?_
  refine q_getR (pc := 1) (i := 2) dX10_unwatch_1 lk_RX10_20 (lyc rfl) (G 0 1 2 rfl) ?_
  refine z_iload_n (pc := 4) dX10_unwatch_4 rfl rfl ?_
  refine q_invV (pc := 5) (As := [.int x1]) (st := []) dX10_unwatch_5 ok_X8_hasWatcher ml_RX10_241 iv_X8_hasWatcher pa_X8_hasWatcher ⟨Nat.le_of_ble_eq_true rfl, Nat.le_of_ble_eq_true rfl⟩ (lyc rfl) (q_pI (s_X8_hasWatcher G (Or.inl rfl)) rfl ?_)
  refine z_if_ne (pc := 8) (tgt := 14) dX10_unwatch_8 (by decide) (fun k2 => ?_) (fun k2 => ?_)
  · replace F := F.1 (zbn.mp k2)
    refine z_aload_n (pc := 14) dX10_unwatch_14 rfl rfl ?_
    refine q_getR (pc := 15) (i := 2) dX10_unwatch_15 lk_RX10_20 (lyc rfl) (G 0 1 2 rfl) ?_
    refine z_iload_n (pc := 18) dX10_unwatch_18 rfl rfl ?_
    refine q_invV (pc := 19) (As := [.int x1]) (st := []) dX10_unwatch_19 ok_X8_dropWatcher ml_RX10_250 iv_X8_dropWatcher pa_X8_dropWatcher ⟨Nat.le_of_ble_eq_true rfl, Nat.le_of_ble_eq_true rfl⟩ (lyc rfl) (q_kV F (fun h1 F => ?_))
    obtain ⟨G1, F⟩ := F
    refine z_aload_n (pc := 22) dX10_unwatch_22 rfl rfl ?_
    refine q_getR (pc := 23) (i := 2) dX10_unwatch_23 lk_RX10_20 (lyc rfl) (G1 0 1 2 rfl) ?_
    refine q_getI (pc := 26) (v := rI h1 2 7) dX10_unwatch_26 lk_RX10_231 (lyc rfl) rfl ?_
    exact q_retI (pc := 29) dX10_unwatch_29 rfl F
  · replace F := F.2 (zb0.mp k2)
    refine z_bipush (pc := 11) (v := -2) dX10_unwatch_11 (by decide) ?_
    exact q_retI (pc := 13) dX10_unwatch_13 rfl F
theorem g_X11_unwatch {x1 : Int32} {h : zHp} {Q : Int32 → zHp → Prop}  (G : zG h) (F : ((0 ≤ x1 ∧ x1 ≤ rI h 165 241 - 1) → (zcV M_X11_goes [.ref 164, .int 182, .int 7, .int 241, .int x1] h (fun h1 => zG h1 ∧ (Q (rI h1 165 241) h1)))) ∧ (¬ (0 ≤ x1 ∧ x1 ≤ rI h 165 241 - 1) → (Q (-2) h))) : zcI M_X11_unwatch [.ref 164, .int x1] h Q := by
  show zw zNT zNT M_X11_unwatch 0 [some (.ref 164), some (.int x1)] [] h _
  refine z_aload_n (pc := 0) dX11_unwatch_0 rfl rfl ?_
  refine z_iload_n (pc := 1) dX11_unwatch_1 rfl rfl ?_
  refine q_invV (pc := 2) (As := [.int x1]) (st := []) dX11_unwatch_2 ok_X11_isWatcher ml_RX11_195 iv_X11_isWatcher pa_X11_isWatcher ⟨Nat.le_of_ble_eq_true rfl, Nat.le_of_ble_eq_true rfl⟩ (lyc rfl) (q_pI (s_X11_isWatcher G) rfl ?_)
  refine z_if_ne (pc := 5) (tgt := 11) dX11_unwatch_5 (by decide) (fun k2 => ?_) (fun k2 => ?_)
  · replace F := F.1 (zbn.mp k2)
    refine z_aload_n (pc := 11) dX11_unwatch_11 rfl rfl ?_
    refine z_sipush (pc := 12) (v := 182) dX11_unwatch_12 (by decide) ?_
    refine z_bipush (pc := 15) (v := 7) dX11_unwatch_15 (by decide) ?_
    refine z_sipush (pc := 17) (v := 241) dX11_unwatch_17 (by decide) ?_
    refine z_iload_n (pc := 20) dX11_unwatch_20 rfl rfl ?_
    refine q_invV (pc := 21) (As := [.int 182, .int 7, .int 241, .int x1]) (st := []) dX11_unwatch_21 ok_X11_goes ml_RX11_186 iv_X11_goes pa_X11_goes ⟨Nat.le_of_ble_eq_true rfl, Nat.le_of_ble_eq_true rfl⟩ (lyc rfl) (q_kV F (fun h1 F => ?_))
    obtain ⟨G1, F⟩ := F
    refine z_aload_n (pc := 24) dX11_unwatch_24 rfl rfl ?_
    refine q_getR (pc := 25) (i := 165) dX11_unwatch_25 lk_RX11_7 (lyc rfl) (G1 164 0 165 rfl) ?_
    refine z_sipush (pc := 28) (v := 241) dX11_unwatch_28 (by decide) ?_
    refine q_iald (pc := 31) (j := 241) (v := rI h1 165 241) dX11_unwatch_31 (lyc rfl) (zvl (lnc rfl) (by decide)) (by decide) rfl ?_
    exact q_retI (pc := 32) dX11_unwatch_32 rfl F
  · replace F := F.2 (zb0.mp k2)
    refine z_bipush (pc := 8) (v := -2) dX11_unwatch_8 (by decide) ?_
    exact q_retI (pc := 10) dX11_unwatch_10 rfl F
theorem g_X10_seed {x1 : Int32} {h : zHp} {Q : Int32 → zHp → Prop}  (G : zG h) (F : Q (rI h 2 10) (wI h 2 10 x1)) : zcI M_X10_seed [.ref 0, .int x1] h Q := by
  show zw zNT zNT M_X10_seed 0 [some (.ref 0), some (.int x1), none] [] h _
  refine z_aload_n (pc := 0) dX10_seed_0 rfl rfl ?_
  refine q_getR (pc := 1) (i := 2) dX10_seed_1 lk_RX10_20 (lyc rfl) (G 0 1 2 rfl) ?_
  refine q_getI (pc := 4) (v := rI h 2 10) dX10_seed_4 lk_RX10_349 (lyc rfl) rfl ?_
  refine z_istore_n (pc := 7) (ls' := [some (.ref 0), some (.int x1), some (.int (rI h 2 10))]) dX10_seed_7 rfl (by decide) rfl ?_
  refine z_aload_n (pc := 8) dX10_seed_8 rfl rfl ?_
  refine q_getR (pc := 9) (i := 2) dX10_seed_9 lk_RX10_20 (lyc rfl) (G 0 1 2 rfl) ?_
  refine z_iload_n (pc := 12) dX10_seed_12 rfl rfl ?_
  refine q_putI (pc := 13) dX10_seed_13 lk_RX10_349 (lyc rfl) ?_
  refine z_iload_n (pc := 16) dX10_seed_16 rfl rfl ?_
  exact q_retI (pc := 17) dX10_seed_17 rfl F
theorem g_X11_seed {x1 : Int32} {h : zHp} {Q : Int32 → zHp → Prop}  (G : zG h) (F : Q (rI h 165 245) (wI h 165 245 x1)) : zcI M_X11_seed [.ref 164, .int x1] h Q := by
  show zw zNT zNT M_X11_seed 0 [some (.ref 164), some (.int x1), none] [] h _
  refine z_aload_n (pc := 0) dX11_seed_0 rfl rfl ?_
  refine q_getR (pc := 1) (i := 165) dX11_seed_1 lk_RX11_7 (lyc rfl) (G 164 0 165 rfl) ?_
  refine z_sipush (pc := 4) (v := 245) dX11_seed_4 (by decide) ?_
  refine q_iald (pc := 7) (j := 245) (v := rI h 165 245) dX11_seed_7 (lyc rfl) (zvl (lnc rfl) (by decide)) (by decide) rfl ?_
  refine z_istore_n (pc := 8) (ls' := [some (.ref 164), some (.int x1), some (.int (rI h 165 245))]) dX11_seed_8 rfl (by decide) rfl ?_
  refine z_aload_n (pc := 9) dX11_seed_9 rfl rfl ?_
  refine q_getR (pc := 10) (i := 165) dX11_seed_10 lk_RX11_7 (lyc rfl) (G 164 0 165 rfl) ?_
  refine z_sipush (pc := 13) (v := 245) dX11_seed_13 (by decide) ?_
  refine z_iload_n (pc := 16) dX11_seed_16 rfl rfl ?_
  refine q_iast (pc := 17) (j := 245) dX11_seed_17 (lyc rfl) (zvl (lnc rfl) (by decide)) (by decide) ?_
  refine z_iload_n (pc := 18) dX11_seed_18 rfl rfl ?_
  exact q_retI (pc := 19) dX11_seed_19 rfl F
theorem Sm_hi {N N' : zN} (hC : CN N) (h : ∀ i, (i < 150 ∨ i = 238 ∨ i = 239) → N' i = N i) : Sm N N' := ⟨fun i hi => h i (by omega), h _ (by omega), h _ (by omega), fun e k h1 h2 => h _ (by have := hC.2.1.2; omega)⟩
theorem IC_w {h h1 : zHp} {N N' : zN} (hC : CN N) (c : IC h N) (f : fW h h1) (p : PW h1 2) (r : RW h1 2 N') (s : Sm N N') : IC h1 N' := by
  have e : ∀ a k, (a < 2 ∨ 42 ≤ a) → rI h1 a k = rI h a k := fun a k ha => by show h1.1 a k = h.1 a k; rw [f.1 a ha]
  refine ⟨p, r, Lm_Sm hC s ⟨by rw [e _ _ (by omega)]; exact c.2.2.1.1, ?_, fun i hi => by rw [e _ _ (by omega)]; exact c.2.2.1.2.2 i hi⟩, ?_⟩
  · rw [VL_of (h := h) (fun a h1 h2 => f.1 a (by omega))]
    exact c.2.2.1.2.1
  · obtain ⟨n, hn⟩ := c.2.2.2
    exact ⟨n, by rw [e _ _ (by omega)]; exact hn⟩
theorem top_a {h : zHp} {X : zN} (t : ∃ n, rI h 164 10 = nI n) : ∃ n, rI (wA h 165 X) 164 10 = nI n := by
  obtain ⟨n, hn⟩ := t
  exact ⟨n, by rw [rI_An (by decide)]; exact hn⟩
theorem top_w {h : zHp} {k : Nat} {v : Int32} (t : ∃ n, rI h 164 10 = nI n) : ∃ n, rI (wI h 165 k v) 164 10 = nI n := by
  obtain ⟨n, hn⟩ := t
  exact ⟨n, by rw [rI_c (by decide)]; exact hn⟩
noncomputable def aR (N : zN) (s w x v : Int32) : zN := upd (upd (upd (upd (upd N (150 + 4 * cR N) s) (150 + 4 * cR N + 1) w) (150 + 4 * cR N + 2) x) (150 + 4 * cR N + 3) v) 240 (nI (cR N + 1))
theorem aR_ad {N : zN} {s w x v : Int32} (h : cR N < 8) : adR N (aR N s w x v) := ⟨pk_us, fun i h1 h2 => by unfold aR; rw [pk_un h1, pk_un (by omega), pk_un (by omega), pk_un (by omega), pk_un (by omega)]⟩
theorem aR_f {N : zN} {s w x v : Int32} (h : cR N < 8) : aR N s w x v (150 + 4 * cR N) = s ∧ aR N s w x v (150 + 4 * cR N + 1) = w ∧ aR N s w x v (150 + 4 * cR N + 2) = x ∧ aR N s w x v (150 + 4 * cR N + 3) = v := by
  unfold aR
  refine ⟨?_, ?_, ?_, ?_⟩
  · rw [pk_un (by omega), pk_un (by omega), pk_un (by omega), pk_un (by omega), pk_us]
  · rw [pk_un (by omega), pk_un (by omega), pk_un (by omega), pk_us]
  · rw [pk_un (by omega), pk_un (by omega), pk_us]
  · rw [pk_un (by omega), pk_us]
def okR (s w x v : Int32) : Prop := ((0 : Int32) ≤ s ∧ s ≤ 4) ∧ okSc w x ∧ (s = 0 → (1 : Int32) ≤ v ∧ v ≤ 99) ∧ (s = 3 → (0 : Int32) ≤ v ∧ v ≤ 7)
theorem aR_IQ {N : zN} {s w x v : Int32} (q : IQ N) (h : cR N < 8) (ok : okR s w x v) : IQ (aR N s w x v) ∧ Sm N (aR N s w x v) := by
  have sm : Sm N (aR N s w x v) := Sm_hi q.1 (fun i hi => (aR_ad h).2 i (by omega) (by omega))
  obtain ⟨f0, f1, f2, f3⟩ := aR_f (N := N) (s := s) (w := w) (x := x) (v := v) h
  obtain ⟨a, b⟩ := adR_q q.1 q.2.1 h (aR_ad (s := s) (w := w) (x := x) (v := v) h) (by
    unfold QR
    rw [f0, f3]
    exact fun z => iv_of (ok.2.2.1 z) rfl rfl)
  exact ⟨⟨a, b, St_Sm q.1 sm q.2.2⟩, sm⟩
theorem ixR0 {e : Nat} (he : e < 8) : vp_in (150 + 4 * nI e) 246 ∧ (150 + 4 * nI e).toNatClampNeg = 150 + 4 * e := by
  have e1 : 150 + 4 * nI e = nI (150 + 4 * e) := by rw [show (150 : Int32) = nI 150 from rfl, show (4 : Int32) = nI 4 from rfl, pk_mul, nI_add]
  rw [e1]
  exact ⟨vp_in_nI (by omega) (by omega), nI_clamp (by omega)⟩
theorem ixV0 {e : Nat} (he : e < 8) : vp_in (182 + 7 * nI e) 246 ∧ (182 + 7 * nI e).toNatClampNeg = 182 + 7 * e := by
  have e1 : 182 + 7 * nI e = nI (182 + 7 * e) := by rw [show (182 : Int32) = nI 182 from rfl, show (7 : Int32) = nI 7 from rfl, pk_mul, nI_add]
  rw [e1]
  exact ⟨vp_in_nI (by omega) (by omega), nI_clamp (by omega)⟩
noncomputable def o_rule (N : zN) (s w x v : Int32) : Int32 × zN := @ite _ (okR s w x v) (Classical.propDecidable _) (if cR N < 8 then (nI (cR N), aR N s w x v) else (-4, N)) (-2, N)
theorem sim_rule {s w x v : Int32} : Sim M_X10_rule M_X11_rule [.int s, .int w, .int x, .int v] := by
  refine simW (ans := fun N => (o_rule N s w x v).1) (F := fun N => (o_rule N s w x v).2) (fun h N G q I => ?_) (fun h N G q e top => ?_) (fun N q => ?_)
  · have I0 := I
    obtain ⟨hP, hR, hL, ht⟩ := I
    have hC := q.1
    have r8 := hC.2.2.1.2
    have bad : ¬ okR s w x v → (-2 = (o_rule N s w x v).1 ∧ fZ h h ∧ IC h (o_rule N s w x v).2) := fun z => by
      unfold o_rule
      rw [if_neg z]
      exact ⟨rfl, fZ.rf, I0⟩
    have good : okR s w x v → zlI M_X10_rule 57 [some (.ref 0), some (.int s), some (.int w), some (.int x), some (.int v), none] [] h (fun a h1 => a = (o_rule N s w x v).1 ∧ fZ h h1 ∧ IC h1 (o_rule N s w x v).2) := by
      intro ok
      unfold o_rule
      rw [if_pos ok]
      refine g_X10_rule_57 G ?_
      rw [hR.1.2.2.1, hC.2.2.1.1, nI_clamp (by omega), nI_1]
      refine ⟨fun z => ?_, fun z => ?_⟩
      · have c8 : cR N < 8 := (nI_ltI (a := cR N) (b := 8) (by omega) (by omega)).mp z
        rw [if_pos c8]
        obtain ⟨iq, sm⟩ := aR_IQ q c8 ok
        have lc := hP.r (Or.inl rfl) c8
        have pn := hP.2.1.1 (cR N) c8
        change rR h 5 (cR N) = some (rG h 5 (cR N)) ∧ 2 + 24 ≤ rG h 5 (cR N) ∧ rG h 5 (cR N) < 2 + 24 + 8 at pn
        obtain ⟨a0, a1, a2, a3⟩ := aR_f (N := N) (s := s) (w := w) (x := x) (v := v) c8
        refine ⟨vp_in_nI (by omega) (by omega), lc, rfl, ?_⟩
        generalize hg : rG h 5 (cR N) = g at *
        have rw1 : RW (wI (wI (wI (wI (wI h g 0 s) g 1 w) g 2 x) g 3 v) 2 5 (nI (cR N + 1))) 2 (aR N s w x v) := by
          refine adR_r (h := h) hC c8 (aR_ad c8) hP hR rfl (fun a k h1 h2 => ?_) rI_s (fun k hk => ?_)
          · change a ≠ rG h 5 (cR N) at h1
            rw [hg] at h1
            have : ∀ z : zHp, rI (wI z 2 5 (nI (cR N + 1))) a k = rI z a k := fun z => by
              rcases h2 with y | y
              · exact rI_c y
              · exact rI_k y
            rw [this, rI_c h1, rI_c h1, rI_c h1, rI_c h1]
          · change rI _ (rG h 5 (cR N)) k = _
            rw [hg, rI_c (by omega)]
            rcases (by omega : k = 0 ∨ k = 1 ∨ k = 2 ∨ k = 3) with z | z | z | z <;> subst z
            · rw [rI_k (by decide), rI_k (by decide), rI_k (by decide), rI_s]; exact a0.symm
            · rw [rI_k (by decide), rI_k (by decide), rI_s]; exact a1.symm
            · rw [rI_k (by decide), rI_s]; exact a2.symm
            · rw [rI_s]; exact a3.symm
        have f1 : fW h (wI (wI (wI (wI (wI h g 0 s) g 1 w) g 2 x) g 3 v) 2 5 (nI (cR N + 1))) := ⟨fun a ha => by rw [wI_ne (by omega), wI_ne (by omega), wI_ne (by omega), wI_ne (by omega), wI_ne (by omega)], fun _ _ _ _ => rfl⟩
        exact ⟨f1.z, IC_w hC I0 f1 (PW_of rfl hP) rw1 sm⟩
      · have c8 : ¬ cR N < 8 := fun y => z (nI_lt (b := 8) y (by omega))
        rw [if_neg c8]
        exact ⟨rfl, fZ.rf, I0⟩
    have mid : (s = 0 → (1 : Int32) ≤ v ∧ v ≤ 99) → ((0 : Int32) ≤ s ∧ s ≤ 4) → okSc w x → zlI M_X10_rule 38 [some (.ref 0), some (.int s), some (.int w), some (.int x), some (.int v), none] [] h (fun a h1 => a = (o_rule N s w x v).1 ∧ fZ h h1 ∧ IC h1 (o_rule N s w x v).2) := by
      intro k0 k1 k2
      exact g_X10_rule_38 G ⟨fun z => good ⟨k1, k2, k0, fun y => absurd y z⟩, fun z => ⟨fun y => good ⟨k1, k2, k0, fun _ => y⟩, fun y => bad (fun x => y (x.2.2.2 z))⟩⟩
    exact g_X10_rule G ⟨fun z => bad (fun y => z y.1), fun z1 => ⟨fun z2 => ⟨fun z3 => mid (fun y => absurd y z3) z1 z2, fun z3 => ⟨fun z4 => mid (fun _ => z4) z1 z2, fun z4 => bad (fun y => z4 (y.2.2.1 z3))⟩⟩, fun z => bad (fun y => z y.2.1)⟩⟩
  · have hC := q.1
    have r8 := hC.2.2.1.2
    have bad : ¬ okR s w x v → (-2 = (o_rule N s w x v).1 ∧ fV h h ∧ h.1 165 = (o_rule N s w x v).2 ∧ ∃ n, rI h 164 10 = nI n) := fun z => by
      unfold o_rule
      rw [if_neg z]
      exact ⟨rfl, fV.rf, e, top⟩
    have good : okR s w x v → zlI M_X11_rule 51 [some (.ref 164), some (.int s), some (.int w), some (.int x), some (.int v), none] [] h (fun a h1 => a = (o_rule N s w x v).1 ∧ fV h h1 ∧ h1.1 165 = (o_rule N s w x v).2 ∧ ∃ n, rI h1 164 10 = nI n) := by
      intro ok
      unfold o_rule
      rw [if_pos ok]
      refine g_X11_rule_51 G ?_
      rw [rdN e 240, hC.2.2.1.1]
      refine ⟨fun z => ?_, fun z => ?_⟩
      · have c8 : cR N < 8 := by
          rcases Nat.lt_or_ge (cR N) 8 with x | x
          · exact x
          · exact absurd (by rw [show cR N = 8 by omega]; rfl) z
        rw [if_pos c8]
        have i0 := ixR0 (e := cR N) c8
        obtain ⟨-, i1, i2, i3⟩ := ixR' (e := cR N) c8
        rw [i0.2, i1.2, i2.2, i3.2, show wI h 165 (150 + 4 * cR N) s = wA h 165 (upd N (150 + 4 * cR N) s) by rw [wI_wA, e], wA_wI, wA_wI, wA_wI, rI_As, pk_un (by omega), pk_un (by omega), pk_un (by omega), pk_un (by omega), hC.2.2.1.1, nI_1, nI_pred, wA_wI]
        exact ⟨i0.1, i1.1, i2.1, i3.1, rfl, fV.a, wA_s, top_a top⟩
      · have c8 : ¬ cR N < 8 := fun x => by
          have := (nI_eq (a := cR N) (b := 8) (by omega) (by omega)).mp z
          omega
        rw [if_neg c8]
        exact ⟨rfl, fV.rf, e, top⟩
    have mid : (s = 0 → (1 : Int32) ≤ v ∧ v ≤ 99) → ((0 : Int32) ≤ s ∧ s ≤ 4) → okSc w x → zlI M_X11_rule 32 [some (.ref 164), some (.int s), some (.int w), some (.int x), some (.int v), none] [] h (fun a h1 => a = (o_rule N s w x v).1 ∧ fV h h1 ∧ h1.1 165 = (o_rule N s w x v).2 ∧ ∃ n, rI h1 164 10 = nI n) := by
      intro k0 k1 k2
      exact g_X11_rule_32 G ⟨fun z => good ⟨k1, k2, k0, fun y => absurd y z⟩, fun z => ⟨fun y => good ⟨k1, k2, k0, fun _ => y⟩, fun y => bad (fun x => y (x.2.2.2 z))⟩⟩
    exact g_X11_rule G ⟨fun z => bad (fun y => z y.1), fun z1 => ⟨fun z => bad (fun y => z y.2.1), fun z2 => ⟨fun z3 => mid (fun y => absurd y z3) z1 z2, fun z3 => ⟨fun z4 => bad (fun y => z4 (y.2.2.1 z3)), fun z4 => mid (fun _ => z4) z1 z2⟩⟩⟩⟩
  · show IQ (o_rule N s w x v).2
    unfold o_rule
    by_cases ok : okR s w x v
    · rw [if_pos ok]
      by_cases c8 : cR N < 8
      · rw [if_pos c8]; exact (aR_IQ q c8 ok).1
      · rw [if_neg c8]; exact q
    · rw [if_neg ok]; exact q
noncomputable def o_ruleOf (N : zN) (r k : Int32) : Int32 := @ite _ ((0 ≤ r ∧ r ≤ N 240 - 1) ∧ ((0 : Int32) ≤ k ∧ k ≤ 1)) (Classical.propDecidable _) (if k = 0 then N (150 + 4 * r.toNatClampNeg) else N (150 + 4 * r.toNatClampNeg + 3)) (-2)
theorem sim_ruleOf {r k : Int32} : Sim M_X10_ruleOf M_X11_ruleOf [.int r, .int k] := by
  refine simQ (ans := fun N => o_ruleOf N r k) (fun h N G q I => ?_) (fun h N G q e top => ?_)
  · have hC := q.1
    have r8 := hC.2.2.1.2
    obtain ⟨hP, hR, hL, ht⟩ := I
    have bad : ¬ ((0 ≤ r ∧ r ≤ N 240 - 1) ∧ ((0 : Int32) ≤ k ∧ k ≤ 1)) → (-2 = o_ruleOf N r k ∧ fZ h h ∧ IC h N) := fun z => by
      unfold o_ruleOf
      rw [if_neg z]
      exact ⟨rfl, fZ.rf, hP, hR, hL, ht⟩
    refine g_X10_ruleOf G ?_
    rw [hR.1.2.2.1]
    refine ⟨fun z => bad (fun y => z y.1), fun z => ⟨fun y => ?_, fun y => bad (fun x => y x.2)⟩⟩
    unfold o_ruleOf
    rw [if_pos ⟨z, y⟩]
    rw [hC.2.2.1.1] at z
    obtain ⟨j, hj, rfl⟩ := zsm (by omega) z
    rw [nI_clamp (by omega)]
    have lc := hP.r (Or.inl rfl) (show j < 8 by omega)
    have w0 : rI h (rG h 5 j) 0 = N (150 + 4 * j) := hR.2.2.2.1 j 0 hj (by omega)
    have w3 : rI h (rG h 5 j) 3 = N (150 + 4 * j + 3) := hR.2.2.2.1 j 3 hj (by omega)
    rw [w0, w3]
    refine ⟨fun x => ⟨vp_in_nI (by omega) (by omega), lc, ?_⟩, fun x => ⟨vp_in_nI (by omega) (by omega), lc, ?_⟩⟩
    · rw [if_neg x]; exact ⟨rfl, fZ.rf, hP, hR, hL, ht⟩
    · rw [if_pos x]; exact ⟨rfl, fZ.rf, hP, hR, hL, ht⟩
  · have hC := q.1
    have r8 := hC.2.2.1.2
    have bad : ¬ ((0 ≤ r ∧ r ≤ N 240 - 1) ∧ ((0 : Int32) ≤ k ∧ k ≤ 1)) → (-2 = o_ruleOf N r k ∧ fV h h ∧ h.1 165 = N ∧ ∃ n, rI h 164 10 = nI n) := fun z => by
      unfold o_ruleOf
      rw [if_neg z]
      exact ⟨rfl, fV.rf, e, top⟩
    refine g_X11_ruleOf G ?_
    rw [rdN e 240]
    refine ⟨fun z => bad (fun y => z y.1), fun z => ⟨fun y => bad (fun x => y x.2), fun y => ?_⟩⟩
    unfold o_ruleOf
    rw [if_pos ⟨z, y⟩]
    rw [hC.2.2.1.1] at z
    obtain ⟨j, hj, rfl⟩ := zsm (by omega) z
    obtain ⟨i0, -, -, i3⟩ := ixR' (e := j) (by omega)
    rw [nI_clamp (by omega)]
    rcases two_of y with y | y <;> subst y
    · rw [show (3 : Int32) * 0 = 0 from rfl, i0.2, rdN e, if_pos rfl]
      exact ⟨i0.1, rfl, fV.rf, e, top⟩
    · rw [show (3 : Int32) * 1 = 3 from rfl, i3.2, rdN e, if_neg (by decide)]
      exact ⟨i3.1, rfl, fV.rf, e, top⟩
noncomputable def o_unrule (N : zN) (r : Int32) : Int32 × zN := @ite _ (0 ≤ r ∧ r ≤ N 240 - 1) (Classical.propDecidable _) (nI (cR N - 1), Go 150 4 240 r.toNatClampNeg N) (-2, N)
theorem GoR_IQ {N : zN} {j : Nat} (q : IQ N) (hj : j < cR N) : IQ (Go 150 4 240 j N) ∧ Sm N (Go 150 4 240 j N) := by
  have sm : Sm N (Go 150 4 240 j N) := Sm_hi q.1 (fun i hi => GoR_o q.1 (by omega))
  exact ⟨⟨(GoR_C q.1 hj).1, GoR_Q q.1 q.2.1 hj, St_Sm q.1 sm q.2.2⟩, sm⟩
theorem sim_unrule {r : Int32} : Sim M_X10_unrule M_X11_unrule [.int r] := by
  refine simW (ans := fun N => (o_unrule N r).1) (F := fun N => (o_unrule N r).2) (fun h N G q I => ?_) (fun h N G q e top => ?_) (fun N q => ?_)
  · have I0 := I
    obtain ⟨hP, hR, hL, ht⟩ := I
    have hC := q.1
    have r8 := hC.2.2.1.2
    refine g_X10_unrule G ?_
    rw [hR.1.2.2.1]
    refine ⟨fun z => ?_, fun z => ?_⟩
    · unfold o_unrule
      rw [if_pos z]
      rw [hC.2.2.1.1] at z
      obtain ⟨j, hj, rfl⟩ := zsm (by omega) z
      rw [nI_clamp (by omega)]
      obtain ⟨w1, w2⟩ := drh_WR (Or.inl rfl) hC hP hR hj
      have f1 : fW h (drh h 2 5 (2 + 3) j (cR N)) := fW.d (Or.inr (Or.inl rfl))
      refine zcV_use (s_X8_dropRule G (Or.inl rfl) hC hP hR hj) ⟨f1.g G, drh_If, f1.z, IC_w hC I0 f1 w1 w2 (GoR_IQ q hj).2⟩
    · unfold o_unrule
      rw [if_neg z]
      exact ⟨rfl, fZ.rf, I0⟩
  · have hC := q.1
    have r8 := hC.2.2.1.2
    refine g_X11_unrule G ?_
    rw [rdN e 240]
    refine ⟨fun z => ?_, fun z => ?_⟩
    · unfold o_unrule
      rw [if_pos z]
      rw [hC.2.2.1.1] at z
      obtain ⟨j, hj, rfl⟩ := zsm (by omega) z
      rw [nI_clamp (by omega)]
      have go := s_X11_goes (b := 150) (w := 4) (m := 240) (k := j) (n := cR N) G e hC.2.2.1.1 hj (by omega) (by decide) (by decide) (by omega) (by decide)
      refine zcV_use go ⟨zG_of rfl G, ?_, fV.a, wA_s, top_a top⟩
      rw [rI_As, (GoR_n hC hj).1]
    · unfold o_unrule
      rw [if_neg z]
      exact ⟨rfl, fV.rf, e, top⟩
  · show IQ (o_unrule N r).2
    unfold o_unrule
    by_cases z : 0 ≤ r ∧ r ≤ N 240 - 1
    · rw [if_pos z]
      have r8 := q.1.2.2.1.2
      rw [q.1.2.2.1.1] at z
      obtain ⟨j, hj, rfl⟩ := zsm (by omega) z
      rw [nI_clamp (by omega)]
      exact (GoR_IQ q hj).1
    · rw [if_neg z]; exact q
/-- a place behind the counts is changed -/
theorem upd_IQ {N : zN} {i : Nat} {v : Int32} (q : IQ N) (hi : 241 < i) : IQ (upd N i v) ∧ Sm N (upd N i v) := by
  have h8 := q.1.1.2
  have h10 := q.1.2.1.2
  have r8 := q.1.2.2.1.2
  have v8 := q.1.2.2.2.2
  have sm : Sm N (upd N i v) := Sm_hi q.1 (fun j hj => pk_un (by omega))
  refine ⟨⟨CN_u q.1 (Or.inr hi), ⟨fun t ht => ?_, fun t ht => ?_, fun t ht => ?_, fun t ht => ?_⟩, St_Sm q.1 sm q.2.2⟩, sm⟩
  · rw [cT_u (by omega)] at ht; exact QT_eq (q.2.1.1 t ht) (fun k hk => pk_un (by omega))
  · rw [cE_u (by omega)] at ht; exact QE_eq (q.2.1.2.1 t ht) (fun k hk => pk_un (by omega))
  · rw [cR_u (by omega)] at ht; exact QR_eq (q.2.1.2.2.1 t ht) (fun k hk => pk_un (by omega))
  · rw [cV_u (by omega)] at ht; exact QV_eq (q.2.1.2.2.2 t ht) (fun k hk => pk_un (by omega))
noncomputable def o_choice (N : zN) (o v : Int32) : Int32 × zN := @ite _ (((0 : Int32) ≤ o ∧ o ≤ 1) ∧ ((0 : Int32) ≤ v ∧ v ≤ 1)) (Classical.propDecidable _) (N (242 + o.toNatClampNeg), upd N (242 + o.toNatClampNeg) v) (-2, N)
theorem sim_choice {o v : Int32} : Sim M_X10_choice M_X11_choice [.int o, .int v] := by
  refine simW (ans := fun N => (o_choice N o v).1) (F := fun N => (o_choice N o v).2) (fun h N G q I => ?_) (fun h N G q e top => ?_) (fun N q => ?_)
  · have I0 := I
    obtain ⟨hP, hR, hL, ht⟩ := I
    have hC := q.1
    have bad : ¬ (((0 : Int32) ≤ o ∧ o ≤ 1) ∧ ((0 : Int32) ≤ v ∧ v ≤ 1)) → (-2 = (o_choice N o v).1 ∧ fZ h h ∧ IC h (o_choice N o v).2) := fun z => by
      unfold o_choice
      rw [if_neg z]
      exact ⟨rfl, fZ.rf, I0⟩
    refine g_X10_choice G ⟨fun z => bad (fun y => z y.1), fun z => ⟨fun y => ?_, fun y => bad (fun x => y x.2)⟩⟩
    unfold o_choice
    rw [if_pos ⟨z, y⟩]
    have f1 : ∀ k, fW h (wI h 7 k v) := fun k => fW.w (by omega)
    rcases two_of z with z | z <;> subst z
    · exact ⟨vp_in_nI (n := 0) (by omega) (by omega), hR.1.2.2.2.2.1, (f1 0).z, IC_w hC I0 (f1 0) (PW_of rfl hP) (RW_uc0 hP hC hR) (upd_IQ q (by decide)).2⟩
    · exact ⟨vp_in_nI (n := 1) (by omega) (by omega), hR.1.2.2.2.2.2.1, (f1 1).z, IC_w hC I0 (f1 1) (PW_of rfl hP) (RW_uc1 hP hC hR) (upd_IQ q (by decide)).2⟩
  · have bad : ¬ (((0 : Int32) ≤ o ∧ o ≤ 1) ∧ ((0 : Int32) ≤ v ∧ v ≤ 1)) → (-2 = (o_choice N o v).1 ∧ fV h h ∧ h.1 165 = (o_choice N o v).2 ∧ ∃ n, rI h 164 10 = nI n) := fun z => by
      unfold o_choice
      rw [if_neg z]
      exact ⟨rfl, fV.rf, e, top⟩
    refine g_X11_choice G ⟨fun z => bad (fun y => z y.1), fun z => ⟨fun y => ?_, fun y => bad (fun x => y x.2)⟩⟩
    unfold o_choice
    obtain ⟨i1, i2, -⟩ := ixO (two_of z)
    rw [if_pos ⟨z, y⟩, i2, rdN e]
    exact ⟨i1, rfl, fV.w, wI_s1 e, top_w top⟩
  · show IQ (o_choice N o v).2
    unfold o_choice
    by_cases z : ((0 : Int32) ≤ o ∧ o ≤ 1) ∧ ((0 : Int32) ≤ v ∧ v ≤ 1)
    · rw [if_pos z]; exact (upd_IQ q (by omega)).1
    · rw [if_neg z]; exact q
theorem sim_seed {v : Int32} : Sim M_X10_seed M_X11_seed [.int v] := by
  refine simW (ans := fun N => N 245) (F := fun N => upd N 245 v) (fun h N G q I => ?_) (fun h N G q e top => ?_) (fun N q => (upd_IQ q (by decide)).1)
  · have f1 : fW h (wI h 2 10 v) := fW.w (by omega)
    exact g_X10_seed G ⟨I.2.1.1.2.2.2.2.2.2.2, f1.z, IC_w q.1 I f1 (PW_of rfl I.1) (RW_uz I.1 q.1 I.2.1) (upd_IQ q (by decide)).2⟩
  · exact g_X11_seed G ⟨rdN e 245, fV.w, wI_s1 e, top_w top⟩

