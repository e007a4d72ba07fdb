theorem g_X11_watches {x1 : Int32} {x2 : Int32} {x3 : Int32} {h : zHp} {Q : Int32 → zHp → Prop}  (G : zG h) (F : zcI M_X11_isWatcher [.ref 164, .int x1] h (fun vh1 h1 => zG h1 ∧ ((vh1 = 0 → (Q (-2) h1)) ∧ (¬ (vh1 = 0) → (zcI M_X11_isScope [.int x2, .int x3] h1 (fun vh2 h2 => zG h2 ∧ ((¬ vh2 = 0 → (zcI M_X11_watcher [.ref 164, .int x1, .int 5] h2 (fun vh3 h3 => zG h3 ∧ (vp_in ((182 + (7 * x1)) + 5) 246 ∧ (vp_in ((182 + (7 * x1)) + 6) 246 ∧ (Q vh3 (wI (wI h3 165 ((Int32.toNatClampNeg ((182 + (7 * x1)) + 5))) x2) 165 ((Int32.toNatClampNeg ((182 + (7 * x1)) + 6))) x3))))))) ∧ (vh2 = 0 → (Q (-2) h2))))))))) : zcI M_X11_watches [.ref 164, .int x1, .int x2, .int x3] h Q := by
  show zw zNT zNT M_X11_watches 0 [some (.ref 164), some (.int x1), some (.int x2), some (.int x3), none] [] h _
  refine z_aload_n (pc := 0) dX11_watches_0 rfl rfl ?_
  refine z_iload_n (pc := 1) dX11_watches_1 rfl rfl ?_
  refine q_invV (pc := 2) (As := [.int x1]) (st := []) dX11_watches_2 ok_X11_isWatcher ml_RX11_195 iv_X11_isWatcher pa_X11_isWatcher ⟨Nat.le_of_ble_eq_true rfl, Nat.le_of_ble_eq_true rfl⟩ (lyc rfl) (q_kI F (fun vh1 h1 F => ?_))
  obtain ⟨G1, F⟩ := F
  refine z_if_eq (pc := 5) (tgt := 16) dX11_watches_5 (by decide) (fun k7 => ?_) (fun k7 => ?_)
  · replace F := F.1 k7
    refine z_bipush (pc := 16) (v := -2) dX11_watches_16 (by decide) ?_
    exact q_retI (pc := 18) dX11_watches_18 rfl F
  · replace F := F.2 k7
    refine z_iload_n (pc := 8) dX11_watches_8 rfl rfl ?_
    refine z_iload_n (pc := 9) dX11_watches_9 rfl rfl ?_
    refine q_invS (pc := 10) (As := [.int x2, .int x3]) (st := []) dX11_watches_10 ok_X11_isScope ml_RX11_173 st_X11_isScope pa_X11_isScope ⟨Nat.le_of_ble_eq_true rfl, Nat.le_of_ble_eq_true rfl⟩ (q_kI F (fun vh2 h2 F => ?_))
    obtain ⟨G2, F⟩ := F
    refine z_if_ne (pc := 13) (tgt := 19) dX11_watches_13 (by decide) (fun k6 => ?_) (fun k6 => ?_)
    · replace F := F.1 k6
      refine z_aload_n (pc := 19) dX11_watches_19 rfl rfl ?_
      refine z_iload_n (pc := 20) dX11_watches_20 rfl rfl ?_
      refine z_iconst (pc := 21) (v := 5) dX11_watches_21 (by decide) ?_
      refine q_invV (pc := 22) (As := [.int x1, .int 5]) (st := []) dX11_watches_22 ok_X11_watcher ml_RX11_139 iv_X11_watcher pa_X11_watcher ⟨Nat.le_of_ble_eq_true rfl, Nat.le_of_ble_eq_true rfl⟩ (lyc rfl) (q_kI F (fun vh3 h3 F => ?_))
      obtain ⟨G3, F⟩ := F
      refine z_istore (pc := 25) (ls' := [some (.ref 164), some (.int x1), some (.int x2), some (.int x3), some (.int vh3)]) dX11_watches_25 (by decide) rfl ?_
      refine z_aload_n (pc := 27) dX11_watches_27 rfl rfl ?_
      refine q_getR (pc := 28) (i := 165) dX11_watches_28 lk_RX11_7 (lyc rfl) (G3 164 0 165 rfl) ?_
      refine z_sipush (pc := 31) (v := 182) dX11_watches_31 (by decide) ?_
      refine z_bipush (pc := 34) (v := 7) dX11_watches_34 (by decide) ?_
      refine z_iload_n (pc := 36) dX11_watches_36 rfl rfl ?_
      refine z_imul (pc := 37) dX11_watches_37 ?_
      refine z_iadd (pc := 38) dX11_watches_38 ?_
      refine z_iconst (pc := 39) (v := 5) dX11_watches_39 (by decide) ?_
      refine z_iadd (pc := 40) dX11_watches_40 ?_
      refine z_iload_n (pc := 41) dX11_watches_41 rfl rfl ?_
      obtain ⟨k4, F⟩ := F
      refine q_iast (pc := 42) (j := (Int32.toNatClampNeg ((182 + (7 * x1)) + 5))) dX11_watches_42 (lyc rfl) (zvn (lnc rfl) k4) rfl ?_
      refine z_aload_n (pc := 43) dX11_watches_43 rfl rfl ?_
      refine q_getR (pc := 44) (i := 165) dX11_watches_44 lk_RX11_7 (lyc rfl) (G3 164 0 165 rfl) ?_
      refine z_sipush (pc := 47) (v := 182) dX11_watches_47 (by decide) ?_
      refine z_bipush (pc := 50) (v := 7) dX11_watches_50 (by decide) ?_
      refine z_iload_n (pc := 52) dX11_watches_52 rfl rfl ?_
      refine z_imul (pc := 53) dX11_watches_53 ?_
      refine z_iadd (pc := 54) dX11_watches_54 ?_
      refine z_bipush (pc := 55) (v := 6) dX11_watches_55 (by decide) ?_
      refine z_iadd (pc := 57) dX11_watches_57 ?_
      refine z_iload_n (pc := 58) dX11_watches_58 rfl rfl ?_
      obtain ⟨k5, F⟩ := F
      refine q_iast (pc := 59) (j := (Int32.toNatClampNeg ((182 + (7 * x1)) + 6))) dX11_watches_59 (lyc rfl) (zvn (lnc rfl) k5) rfl ?_
      refine z_iload (pc := 60) dX11_watches_60 rfl ?_
      exact q_retI (pc := 62) dX11_watches_62 rfl F
    · replace F := F.2 k6
      refine z_bipush (pc := 16) (v := -2) dX11_watches_16 (by decide) ?_
      exact q_retI (pc := 18) dX11_watches_18 rfl F
theorem g_X11_unwatch {x1 : Int32} {h : zHp} {Q : Int32 → zHp → Prop}  (G : zG h) (F : zcI M_X11_isWatcher [.ref 164, .int x1] h (fun vh1 h1 => zG h1 ∧ ((¬ vh1 = 0 → (zcV M_X11_goes [.ref 164, .int 182, .int 7, .int 241, .int x1] h1 (fun h2 => zG h2 ∧ (Q (rI h2 165 241) h2)))) ∧ (vh1 = 0 → (Q (-2) h1))))) : zcI M_X11_unwatch [.ref 164, .int x1] h Q := by
  show zw zNT zNT M_X11_unwatch 0 [some (.ref 164), some (.int x1)] [] h _
  refine z_aload_n (pc := 0) dX11_unwatch_0 rfl rfl ?_
  refine z_iload_n (pc := 1) dX11_unwatch_1 rfl rfl ?_
  refine q_invV (pc := 2) (As := [.int x1]) (st := []) dX11_unwatch_2 ok_X11_isWatcher ml_RX11_195 iv_X11_isWatcher pa_X11_isWatcher ⟨Nat.le_of_ble_eq_true rfl, Nat.le_of_ble_eq_true rfl⟩ (lyc rfl) (q_kI F (fun vh1 h1 F => ?_))
  obtain ⟨G1, F⟩ := F
  refine z_if_ne (pc := 5) (tgt := 11) dX11_unwatch_5 (by decide) (fun k3 => ?_) (fun k3 => ?_)
  · replace F := F.1 k3
    refine z_aload_n (pc := 11) dX11_unwatch_11 rfl rfl ?_
    refine z_sipush (pc := 12) (v := 182) dX11_unwatch_12 (by decide) ?_
    refine z_bipush (pc := 15) (v := 7) dX11_unwatch_15 (by decide) ?_
    refine z_sipush (pc := 17) (v := 241) dX11_unwatch_17 (by decide) ?_
    refine z_iload_n (pc := 20) dX11_unwatch_20 rfl rfl ?_
    refine q_invV (pc := 21) (As := [.int 182, .int 7, .int 241, .int x1]) (st := []) dX11_unwatch_21 ok_X11_goes ml_RX11_186 iv_X11_goes pa_X11_goes ⟨Nat.le_of_ble_eq_true rfl, Nat.le_of_ble_eq_true rfl⟩ (lyc rfl) (q_kV F (fun h2 F => ?_))
    obtain ⟨G2, F⟩ := F
    refine z_aload_n (pc := 24) dX11_unwatch_24 rfl rfl ?_
    refine q_getR (pc := 25) (i := 165) dX11_unwatch_25 lk_RX11_7 (lyc rfl) (G2 164 0 165 rfl) ?_
    refine z_sipush (pc := 28) (v := 241) dX11_unwatch_28 (by decide) ?_
    refine q_iald (pc := 31) (j := 241) (v := rI h2 165 241) dX11_unwatch_31 (lyc rfl) (zvl (lnc rfl) (by decide)) (by decide) rfl ?_
    exact q_retI (pc := 32) dX11_unwatch_32 rfl F
  · replace F := F.2 k3
    refine z_bipush (pc := 8) (v := -2) dX11_unwatch_8 (by decide) ?_
    exact q_retI (pc := 10) dX11_unwatch_10 rfl F
theorem g_X11_ruleFor  {h : zHp} {Q : Int32 → zHp → Prop}  (G : zG h) (F : zlI M_X11_ruleFor 4 [some (.ref 164), some (.int (-1)), some (.int 0), none] [] h Q) : zcI M_X11_ruleFor [.ref 164] h Q := by
  show zw zNT zNT M_X11_ruleFor 0 [some (.ref 164), none, none, none] [] h _
  refine z_iconst (pc := 0) (v := -1) dX11_ruleFor_0 (by decide) ?_
  refine z_istore_n (pc := 1) (ls' := [some (.ref 164), some (.int (-1)), none, none]) dX11_ruleFor_1 rfl (by decide) rfl ?_
  refine z_iconst (pc := 2) (v := 0) dX11_ruleFor_2 (by decide) ?_
  refine z_istore_n (pc := 3) (ls' := [some (.ref 164), some (.int (-1)), some (.int 0), none]) dX11_ruleFor_3 rfl (by decide) rfl ?_
  exact F
theorem g_X11_ruleFor_4 {x1 : Int32} {x2 : Int32} {h : zHp} {Q : Int32 → zHp → Prop}  (G : zG h) (F : (rI h 165 240 ≤ x2 → (Q x1 h)) ∧ (¬ (rI h 165 240 ≤ x2) → (zcI M_X11_has [.int (rI h 164 13), .int x2] h (fun vh1 h1 => zG h1 ∧ ((¬ vh1 = 0 → (zlI M_X11_ruleFor 62 [some (.ref 164), some (.int x1), some (.int x2), none] [.int 0] h1 Q)) ∧ (vh1 = 0 → (zcI M_X11_ruleIs [.ref 164, .int x2, .int 1] h1 (fun vh2 h2 => zG h2 ∧ (zcI M_X11_ruleIs [.ref 164, .int x2, .int 2] h2 (fun vh3 h3 => zG h3 ∧ (zcI M_X11_inScope [.ref 164, .ref 168, .int vh2, .int vh3] h3 (fun vh4 h4 => zG h4 ∧ (zcI M_X11_has [.int vh4, .int (rI h4 164 11)] h4 (fun vh5 h5 => zG h5 ∧ ((vh5 = 0 → (zlI M_X11_ruleFor 62 [some (.ref 164), some (.int x1), some (.int x2), none] [.int 0] h5 Q)) ∧ (¬ (vh5 = 0) → (zlI M_X11_ruleFor 62 [some (.ref 164), some (.int x1), some (.int x2), none] [.int 1] h5 Q))))))))))))))))) : zlI M_X11_ruleFor 4 [some (.ref 164), some (.int x1), some (.int x2), none] [] h Q := by
  refine z_iload_n (pc := 4) dX11_ruleFor_4 rfl rfl ?_
  refine z_aload_n (pc := 5) dX11_ruleFor_5 rfl rfl ?_
  refine q_getR (pc := 6) (i := 165) dX11_ruleFor_6 lk_RX11_7 (lyc rfl) (G 164 0 165 rfl) ?_
  refine z_sipush (pc := 9) (v := 240) dX11_ruleFor_9 (by decide) ?_
  refine q_iald (pc := 12) (j := 240) (v := rI h 165 240) dX11_ruleFor_12 (lyc rfl) (zvl (lnc rfl) (by decide)) (by decide) rfl ?_
  refine z_icmp_ge (pc := 13) (tgt := 148) dX11_ruleFor_13 (by decide) (fun k8 => ?_) (fun k8 => ?_)
  · replace F := F.1 k8
    refine z_iload_n (pc := 148) dX11_ruleFor_148 rfl rfl ?_
    exact q_retI (pc := 149) dX11_ruleFor_149 rfl F
  · replace F := F.2 k8
    refine z_aload_n (pc := 16) dX11_ruleFor_16 rfl rfl ?_
    refine q_getI (pc := 17) (v := rI h 164 13) dX11_ruleFor_17 lk_RX11_198 (lyc rfl) rfl ?_
    refine z_iload_n (pc := 20) dX11_ruleFor_20 rfl rfl ?_
    refine q_invS (pc := 21) (As := [.int (rI h 164 13), .int x2]) (st := []) dX11_ruleFor_21 ok_X11_has ml_RX11_96 st_X11_has pa_X11_has ⟨Nat.le_of_ble_eq_true rfl, Nat.le_of_ble_eq_true rfl⟩ (q_kI F (fun vh1 h1 F => ?_))
    obtain ⟨G1, F⟩ := F
    refine z_if_ne (pc := 24) (tgt := 61) dX11_ruleFor_24 (by decide) (fun k7 => ?_) (fun k7 => ?_)
    · replace F := F.1 k7
      refine z_iconst (pc := 61) (v := 0) dX11_ruleFor_61 (by decide) ?_
      exact F
    · replace F := F.2 k7
      refine z_aload_n (pc := 27) dX11_ruleFor_27 rfl rfl ?_
      refine z_aload_n (pc := 28) dX11_ruleFor_28 rfl rfl ?_
      refine q_getR (pc := 29) (i := 168) dX11_ruleFor_29 lk_RX11_19 (lyc rfl) (G1 164 4 168 rfl) ?_
      refine z_aload_n (pc := 32) dX11_ruleFor_32 rfl rfl ?_
      refine z_iload_n (pc := 33) dX11_ruleFor_33 rfl rfl ?_
      refine z_iconst (pc := 34) (v := 1) dX11_ruleFor_34 (by decide) ?_
      refine q_invV (pc := 35) (As := [.int x2, .int 1]) (st := [.ref 168, .ref 164]) dX11_ruleFor_35 ok_X11_ruleIs ml_RX11_192 iv_X11_ruleIs pa_X11_ruleIs ⟨Nat.le_of_ble_eq_true rfl, Nat.le_of_ble_eq_true rfl⟩ (lyc rfl) (q_kI F (fun vh2 h2 F => ?_))
      obtain ⟨G2, F⟩ := F
      refine z_aload_n (pc := 38) dX11_ruleFor_38 rfl rfl ?_
      refine z_iload_n (pc := 39) dX11_ruleFor_39 rfl rfl ?_
      refine z_iconst (pc := 40) (v := 2) dX11_ruleFor_40 (by decide) ?_
      refine q_invV (pc := 41) (As := [.int x2, .int 2]) (st := [.int vh2, .ref 168, .ref 164]) dX11_ruleFor_41 ok_X11_ruleIs ml_RX11_192 iv_X11_ruleIs pa_X11_ruleIs ⟨Nat.le_of_ble_eq_true rfl, Nat.le_of_ble_eq_true rfl⟩ (lyc rfl) (q_kI F (fun vh3 h3 F => ?_))
      obtain ⟨G3, F⟩ := F
      refine q_invV (pc := 44) (As := [.ref 168, .int vh2, .int vh3]) (st := []) dX11_ruleFor_44 ok_X11_inScope ml_RX11_106 iv_X11_inScope pa_X11_inScope ⟨Nat.le_of_ble_eq_true rfl, Nat.le_of_ble_eq_true rfl⟩ (lyc rfl) (q_kI F (fun vh4 h4 F => ?_))
      obtain ⟨G4, F⟩ := F
      refine z_aload_n (pc := 47) dX11_ruleFor_47 rfl rfl ?_
      refine q_getI (pc := 48) (v := rI h4 164 11) dX11_ruleFor_48 lk_RX11_201 (lyc rfl) rfl ?_
      refine q_invS (pc := 51) (As := [.int vh4, .int (rI h4 164 11)]) (st := []) dX11_ruleFor_51 ok_X11_has ml_RX11_96 st_X11_has pa_X11_has ⟨Nat.le_of_ble_eq_true rfl, Nat.le_of_ble_eq_true rfl⟩ (q_kI F (fun vh5 h5 F => ?_))
      obtain ⟨G5, F⟩ := F
      refine z_if_eq (pc := 54) (tgt := 61) dX11_ruleFor_54 (by decide) (fun k6 => ?_) (fun k6 => ?_)
      · replace F := F.1 k6
        refine z_iconst (pc := 61) (v := 0) dX11_ruleFor_61 (by decide) ?_
        exact F
      · replace F := F.2 k6
        refine z_iconst (pc := 57) (v := 1) dX11_ruleFor_57 (by decide) ?_
        refine z_goto (pc := 58) (tgt := 62) dX11_ruleFor_58 (by decide) ?_
        exact F
theorem g_X11_ruleFor_62 {x1 : Int32} {x2 : Int32} {xs0 : Int32} {h : zHp} {Q : Int32 → zHp → Prop}  (G : zG h) (F : (xs0 = 0 → (zlI M_X11_ruleFor 108 [some (.ref 164), some (.int x1), some (.int x2), some (.int xs0)] [.int 0] h Q)) ∧ (¬ (xs0 = 0) → (zcI M_X11_ruleIs [.ref 164, .int x2, .int 0] h (fun vh1 h1 => zG h1 ∧ ((¬ vh1 = 3 → (zlI M_X11_ruleFor 108 [some (.ref 164), some (.int x1), some (.int x2), some (.int xs0)] [.int 1] h1 Q)) ∧ (vh1 = 3 → (zcI M_X11_ruleIs [.ref 164, .int x2, .int 3] h1 (fun vh2 h2 => zG h2 ∧ ((vh2 = rI h2 164 11 → (zlI M_X11_ruleFor 108 [some (.ref 164), some (.int x1), some (.int x2), some (.int xs0)] [.int 0] h2 Q)) ∧ (¬ (vh2 = rI h2 164 11) → (zcI M_X11_ruleIs [.ref 164, .int x2, .int 3] h2 (fun vh3 h3 => zG h3 ∧ (zcI M_X11_isAlive [.ref 164, .int vh3] h3 (fun vh4 h4 => zG h4 ∧ ((vh4 = 0 → (zlI M_X11_ruleFor 108 [some (.ref 164), some (.int x1), some (.int x2), some (.int xs0)] [.int 0] h4 Q)) ∧ (¬ (vh4 = 0) → (zlI M_X11_ruleFor 108 [some (.ref 164), some (.int x1), some (.int x2), some (.int xs0)] [.int 1] h4 Q))))))))))))))))) : zlI M_X11_ruleFor 62 [some (.ref 164), some (.int x1), some (.int x2), none] [.int xs0] h Q := by
  refine z_istore_n (pc := 62) (ls' := [some (.ref 164), some (.int x1), some (.int x2), some (.int xs0)]) dX11_ruleFor_62 rfl (by decide) rfl ?_
  refine z_iload_n (pc := 63) dX11_ruleFor_63 rfl rfl ?_
  refine z_if_eq (pc := 64) (tgt := 107) dX11_ruleFor_64 (by decide) (fun k8 => ?_) (fun k8 => ?_)
  · replace F := F.1 k8
    refine z_iconst (pc := 107) (v := 0) dX11_ruleFor_107 (by decide) ?_
    exact F
  · replace F := F.2 k8
    refine z_aload_n (pc := 67) dX11_ruleFor_67 rfl rfl ?_
    refine z_iload_n (pc := 68) dX11_ruleFor_68 rfl rfl ?_
    refine z_iconst (pc := 69) (v := 0) dX11_ruleFor_69 (by decide) ?_
    refine q_invV (pc := 70) (As := [.int x2, .int 0]) (st := []) dX11_ruleFor_70 ok_X11_ruleIs ml_RX11_192 iv_X11_ruleIs pa_X11_ruleIs ⟨Nat.le_of_ble_eq_true rfl, Nat.le_of_ble_eq_true rfl⟩ (lyc rfl) (q_kI F (fun vh1 h1 F => ?_))
    obtain ⟨G1, F⟩ := F
    refine z_iconst (pc := 73) (v := 3) dX11_ruleFor_73 (by decide) ?_
    refine z_icmp_ne (pc := 74) (tgt := 103) dX11_ruleFor_74 (by decide) (fun k7 => ?_) (fun k7 => ?_)
    · replace F := F.1 k7
      refine z_iconst (pc := 103) (v := 1) dX11_ruleFor_103 (by decide) ?_
      refine z_goto (pc := 104) (tgt := 108) dX11_ruleFor_104 (by decide) ?_
      exact F
    · replace F := F.2 k7
      refine z_aload_n (pc := 77) dX11_ruleFor_77 rfl rfl ?_
      refine z_iload_n (pc := 78) dX11_ruleFor_78 rfl rfl ?_
      refine z_iconst (pc := 79) (v := 3) dX11_ruleFor_79 (by decide) ?_
      refine q_invV (pc := 80) (As := [.int x2, .int 3]) (st := []) dX11_ruleFor_80 ok_X11_ruleIs ml_RX11_192 iv_X11_ruleIs pa_X11_ruleIs ⟨Nat.le_of_ble_eq_true rfl, Nat.le_of_ble_eq_true rfl⟩ (lyc rfl) (q_kI F (fun vh2 h2 F => ?_))
      obtain ⟨G2, F⟩ := F
      refine z_aload_n (pc := 83) dX11_ruleFor_83 rfl rfl ?_
      refine q_getI (pc := 84) (v := rI h2 164 11) dX11_ruleFor_84 lk_RX11_201 (lyc rfl) rfl ?_
      refine z_icmp_eq (pc := 87) (tgt := 107) dX11_ruleFor_87 (by decide) (fun k6 => ?_) (fun k6 => ?_)
      · replace F := F.1 k6
        refine z_iconst (pc := 107) (v := 0) dX11_ruleFor_107 (by decide) ?_
        exact F
      · replace F := F.2 k6
        refine z_aload_n (pc := 90) dX11_ruleFor_90 rfl rfl ?_
        refine z_aload_n (pc := 91) dX11_ruleFor_91 rfl rfl ?_
        refine z_iload_n (pc := 92) dX11_ruleFor_92 rfl rfl ?_
        refine z_iconst (pc := 93) (v := 3) dX11_ruleFor_93 (by decide) ?_
        refine q_invV (pc := 94) (As := [.int x2, .int 3]) (st := [.ref 164]) dX11_ruleFor_94 ok_X11_ruleIs ml_RX11_192 iv_X11_ruleIs pa_X11_ruleIs ⟨Nat.le_of_ble_eq_true rfl, Nat.le_of_ble_eq_true rfl⟩ (lyc rfl) (q_kI F (fun vh3 h3 F => ?_))
        obtain ⟨G3, F⟩ := F
        refine q_invV (pc := 97) (As := [.int vh3]) (st := []) dX11_ruleFor_97 ok_X11_isAlive ml_RX11_100 iv_X11_isAlive pa_X11_isAlive ⟨Nat.le_of_ble_eq_true rfl, Nat.le_of_ble_eq_true rfl⟩ (lyc rfl) (q_kI F (fun vh4 h4 F => ?_))
        obtain ⟨G4, F⟩ := F
        refine z_if_eq (pc := 100) (tgt := 107) dX11_ruleFor_100 (by decide) (fun k5 => ?_) (fun k5 => ?_)
        · replace F := F.1 k5
          refine z_iconst (pc := 107) (v := 0) dX11_ruleFor_107 (by decide) ?_
          exact F
        · replace F := F.2 k5
          refine z_iconst (pc := 103) (v := 1) dX11_ruleFor_103 (by decide) ?_
          refine z_goto (pc := 104) (tgt := 108) dX11_ruleFor_104 (by decide) ?_
          exact F
theorem g_X11_ruleFor_108 {x1 : Int32} {x2 : Int32} {x3 : Int32} {xs0 : Int32} {h : zHp} {Q : Int32 → zHp → Prop}  (G : zG h) (F : (xs0 = 0 → (zlI M_X11_ruleFor 4 [some (.ref 164), some (.int x1), some (.int (x2 + 1)), none] [] h Q)) ∧ (¬ (xs0 = 0) → ((x1 = -1 → (zlI M_X11_ruleFor 4 [some (.ref 164), some (.int x2), some (.int (x2 + 1)), none] [] h Q)) ∧ (¬ (x1 = -1) → (zcI M_X11_its [.ref 164, .int (rI h 164 11), .int 0] h (fun vh1 h1 => zG h1 ∧ (vp_in (242 + vh1) 246 ∧ ((¬ rI h1 165 ((Int32.toNatClampNeg (242 + vh1))) = 1 → (zlI M_X11_ruleFor 4 [some (.ref 164), some (.int x1), some (.int (x2 + 1)), none] [] h1 Q)) ∧ (rI h1 165 ((Int32.toNatClampNeg (242 + vh1))) = 1 → (zlI M_X11_ruleFor 4 [some (.ref 164), some (.int x2), some (.int (x2 + 1)), none] [] h1 Q)))))))))) : zlI M_X11_ruleFor 108 [some (.ref 164), some (.int x1), some (.int x2), some (.int x3)] [.int xs0] h Q := by
  refine z_istore_n (pc := 108) (ls' := [some (.ref 164), some (.int x1), some (.int x2), some (.int xs0)]) dX11_ruleFor_108 rfl (by decide) rfl ?_
  refine z_iload_n (pc := 109) dX11_ruleFor_109 rfl rfl ?_
  refine z_if_eq (pc := 110) (tgt := 142) dX11_ruleFor_110 (by decide) (fun k5 => ?_) (fun k5 => ?_)
  · replace F := F.1 k5
    refine z_iinc (pc := 142) (v := x2 + 1) (ls' := [some (.ref 164), some (.int x1), some (.int (x2 + 1)), some (.int xs0)]) dX11_ruleFor_142 (by decide) rfl rfl rfl ?_
    refine z_goto (pc := 145) (tgt := 4) dX11_ruleFor_145 (by decide) ?_
    exact q_sub (ls' := [some (.ref 164), some (.int x1), some (.int (x2 + 1)), none]) ⟨rfl, rfl, rfl, trivial⟩ F
  · replace F := F.2 k5
    refine z_iload_n (pc := 113) dX11_ruleFor_113 rfl rfl ?_
    refine z_iconst (pc := 114) (v := -1) dX11_ruleFor_114 (by decide) ?_
    refine z_icmp_eq (pc := 115) (tgt := 140) dX11_ruleFor_115 (by decide) (fun k4 => ?_) (fun k4 => ?_)
    · replace F := F.1 k4
      refine z_iload_n (pc := 140) dX11_ruleFor_140 rfl rfl ?_
      refine z_istore_n (pc := 141) (ls' := [some (.ref 164), some (.int x2), some (.int x2), some (.int xs0)]) dX11_ruleFor_141 rfl (by decide) rfl ?_
      refine z_iinc (pc := 142) (v := x2 + 1) (ls' := [some (.ref 164), some (.int x2), some (.int (x2 + 1)), some (.int xs0)]) dX11_ruleFor_142 (by decide) rfl rfl rfl ?_
      refine z_goto (pc := 145) (tgt := 4) dX11_ruleFor_145 (by decide) ?_
      exact q_sub (ls' := [some (.ref 164), some (.int x2), some (.int (x2 + 1)), none]) ⟨rfl, rfl, rfl, trivial⟩ F
    · replace F := F.2 k4
      refine z_aload_n (pc := 118) dX11_ruleFor_118 rfl rfl ?_
      refine q_getR (pc := 119) (i := 165) dX11_ruleFor_119 lk_RX11_7 (lyc rfl) (G 164 0 165 rfl) ?_
      refine z_sipush (pc := 122) (v := 242) dX11_ruleFor_122 (by decide) ?_
      refine z_aload_n (pc := 125) dX11_ruleFor_125 rfl rfl ?_
      refine z_aload_n (pc := 126) dX11_ruleFor_126 rfl rfl ?_
      refine q_getI (pc := 127) (v := rI h 164 11) dX11_ruleFor_127 lk_RX11_201 (lyc rfl) rfl ?_
      refine z_iconst (pc := 130) (v := 0) dX11_ruleFor_130 (by decide) ?_
      refine q_invV (pc := 131) (As := [.int (rI h 164 11), .int 0]) (st := [.int 242, .ref 165]) dX11_ruleFor_131 ok_X11_its ml_RX11_92 iv_X11_its pa_X11_its ⟨Nat.le_of_ble_eq_true rfl, Nat.le_of_ble_eq_true rfl⟩ (lyc rfl) (q_kI F (fun vh1 h1 F => ?_))
      obtain ⟨G1, F⟩ := F
      refine z_iadd (pc := 134) dX11_ruleFor_134 ?_
      obtain ⟨k2, F⟩ := F
      refine q_iald (pc := 135) (j := (Int32.toNatClampNeg (242 + vh1))) (v := rI h1 165 ((Int32.toNatClampNeg (242 + vh1)))) dX11_ruleFor_135 (lyc rfl) (zvn (lnc rfl) k2) rfl rfl ?_
      refine z_iconst (pc := 136) (v := 1) dX11_ruleFor_136 (by decide) ?_
      refine z_icmp_ne (pc := 137) (tgt := 142) dX11_ruleFor_137 (by decide) (fun k3 => ?_) (fun k3 => ?_)
      · replace F := F.1 k3
        refine z_iinc (pc := 142) (v := x2 + 1) (ls' := [some (.ref 164), some (.int x1), some (.int (x2 + 1)), some (.int xs0)]) dX11_ruleFor_142 (by decide) rfl rfl rfl ?_
        refine z_goto (pc := 145) (tgt := 4) dX11_ruleFor_145 (by decide) ?_
        exact q_sub (ls' := [some (.ref 164), some (.int x1), some (.int (x2 + 1)), none]) ⟨rfl, rfl, rfl, trivial⟩ F
      · replace F := F.2 k3
        refine z_iload_n (pc := 140) dX11_ruleFor_140 rfl rfl ?_
        refine z_istore_n (pc := 141) (ls' := [some (.ref 164), some (.int x2), some (.int x2), some (.int xs0)]) dX11_ruleFor_141 rfl (by decide) rfl ?_
        refine z_iinc (pc := 142) (v := x2 + 1) (ls' := [some (.ref 164), some (.int x2), some (.int (x2 + 1)), some (.int xs0)]) dX11_ruleFor_142 (by decide) rfl rfl rfl ?_
        refine z_goto (pc := 145) (tgt := 4) dX11_ruleFor_145 (by decide) ?_
        exact q_sub (ls' := [some (.ref 164), some (.int x2), some (.int (x2 + 1)), none]) ⟨rfl, rfl, rfl, trivial⟩ F
theorem g_X11_leads {x1 : Int32} {x2 : Int32} {x3 : Int32} {h : zHp} {Q : zHp → Prop}  (G : zG h) (F : zcV M_X11_makes [.ref 164, .int 5] h (fun h1 => zG h1 ∧ (zcI M_X11_ruleFor [.ref 164] (wI (wI (wI (wI (wI h1 164 11 x1) 164 12 x2) 164 13 0) 164 14 0) 164 15 0) (fun vh2 h2 => zG h2 ∧ (zlV M_X11_leads 36 [some (.ref 164), some (.int x1), some (.int x2), some (.int x3), some (.int vh2), none, none] [] h2 Q))))) : zcV M_X11_leads [.ref 164, .int x1, .int x2, .int x3] h Q := by
  show zw zNT zNT M_X11_leads 0 [some (.ref 164), some (.int x1), some (.int x2), some (.int x3), none, none, none] [] h _
  refine z_aload_n (pc := 0) dX11_leads_0 rfl rfl ?_
  refine z_iconst (pc := 1) (v := 5) dX11_leads_1 (by decide) ?_
  refine q_invV (pc := 2) (As := [.int 5]) (st := []) dX11_leads_2 ok_X11_makes ml_RX11_145 iv_X11_makes pa_X11_makes ⟨Nat.le_of_ble_eq_true rfl, Nat.le_of_ble_eq_true rfl⟩ (lyc rfl) (q_kV F (fun h1 F => ?_))
  obtain ⟨G1, F⟩ := F
  refine z_aload_n (pc := 5) dX11_leads_5 rfl rfl ?_
  refine z_iload_n (pc := 6) dX11_leads_6 rfl rfl ?_
  refine q_putI (pc := 7) dX11_leads_7 lk_RX11_201 (lyc rfl) ?_
  refine z_aload_n (pc := 10) dX11_leads_10 rfl rfl ?_
  refine z_iload_n (pc := 11) dX11_leads_11 rfl rfl ?_
  refine q_putI (pc := 12) dX11_leads_12 lk_RX11_204 (lyc rfl) ?_
  refine z_aload_n (pc := 15) dX11_leads_15 rfl rfl ?_
  refine z_iconst (pc := 16) (v := 0) dX11_leads_16 (by decide) ?_
  refine q_putI (pc := 17) dX11_leads_17 lk_RX11_198 (lyc rfl) ?_
  refine z_aload_n (pc := 20) dX11_leads_20 rfl rfl ?_
  refine z_iconst (pc := 21) (v := 0) dX11_leads_21 (by decide) ?_
  refine q_putI (pc := 22) dX11_leads_22 lk_RX11_207 (lyc rfl) ?_
  refine z_aload_n (pc := 25) dX11_leads_25 rfl rfl ?_
  refine z_iconst (pc := 26) (v := 0) dX11_leads_26 (by decide) ?_
  refine q_putB (pc := 27) dX11_leads_27 lk_RX11_210 (lyc rfl) (Or.inl rfl) ?_
  refine z_aload_n (pc := 30) dX11_leads_30 rfl rfl ?_
  refine q_invV (pc := 31) (As := []) (st := []) dX11_leads_31 ok_X11_ruleFor ml_RX11_213 iv_X11_ruleFor pa_X11_ruleFor ⟨Nat.le_of_ble_eq_true rfl, Nat.le_of_ble_eq_true rfl⟩ (lyc rfl) (q_kI F (fun vh2 h2 F => ?_))
  obtain ⟨G2, F⟩ := F
  refine z_istore (pc := 34) (ls' := [some (.ref 164), some (.int x1), some (.int x2), some (.int x3), some (.int vh2), none, none]) dX11_leads_34 (by decide) rfl ?_
  exact F
theorem g_X11_leads_36 {x1 : Int32} {x2 : Int32} {x3 : Int32} {x4 : Int32} {h : zHp} {Q : zHp → Prop}  (G : zG h) (F : (rI h 164 12 ≤ 0 → (Q h)) ∧ (¬ (rI h 164 12 ≤ 0) → ((¬ rI h 164 15 = 0 → (Q h)) ∧ (rI h 164 15 = 0 → ((x4 = -1 → (Q h)) ∧ (¬ (x4 = -1) → (zcI M_X11_ruleIs [.ref 164, .int x4, .int 3] (wI (wI h 164 13 ((rI h 164 13) ||| (1 <<< (x4 &&& 31)))) 164 14 ((rI h 164 14) + 1)) (fun vh1 h1 => zG h1 ∧ (zcI M_X11_ruleIs [.ref 164, .int x4, .int 0] h1 (fun vh2 h2 => zG h2 ∧ ((vh2 = 0 → ((rI h2 164 12 ≤ vh1 → (zlV M_X11_leads 142 [some (.ref 164), some (.int x1), some (.int x2), some (.int x3), some (.int x4), some (.int vh1), none] [.int (rI h2 164 12)] h2 Q)) ∧ (¬ (rI h2 164 12 ≤ vh1) → (zlV M_X11_leads 142 [some (.ref 164), some (.int x1), some (.int x2), some (.int x3), some (.int x4), some (.int vh1), none] [.int vh1] h2 Q)))) ∧ (¬ vh2 = 0 → ((vh2 = 1 → (zcI M_X11_ruleFor [.ref 164] (wI h2 164 12 ((rI h2 164 12) - ((rI h2 164 12) / 2))) (fun vh3 h3 => zG h3 ∧ (zlV M_X11_leads 36 [some (.ref 164), some (.int x1), some (.int x2), some (.int x3), some (.int vh3), none, none] [] h3 Q)))) ∧ (¬ vh2 = 1 → ((vh2 = 2 → ((2 * (rI h2 164 12) ≤ 999 → (zcI M_X11_ruleFor [.ref 164] (wI h2 164 12 (2 * (rI h2 164 12))) (fun vh4 h4 => zG h4 ∧ (zlV M_X11_leads 36 [some (.ref 164), some (.int x1), some (.int x2), some (.int x3), some (.int vh4), none, none] [] h4 Q)))) ∧ (¬ (2 * (rI h2 164 12) ≤ 999) → (zcI M_X11_ruleFor [.ref 164] (wI h2 164 12 999) (fun vh5 h5 => zG h5 ∧ (zlV M_X11_leads 36 [some (.ref 164), some (.int x1), some (.int x2), some (.int x3), some (.int vh5), none, none] [] h5 Q)))))) ∧ (¬ vh2 = 2 → ((vh2 = 3 → (zcI M_X11_ruleFor [.ref 164] (wI h2 164 11 vh1) (fun vh6 h6 => zG h6 ∧ (zlV M_X11_leads 36 [some (.ref 164), some (.int x1), some (.int x2), some (.int x3), some (.int vh6), none, none] [] h6 Q)))) ∧ (¬ vh2 = 3 → (zcI M_X11_ruleFor [.ref 164] (wI h2 164 15 1) (fun vh7 h7 => zG h7 ∧ (zlV M_X11_leads 36 [some (.ref 164), some (.int x1), some (.int x2), some (.int x3), some (.int vh7), none, none] [] h7 Q))))))))))))))))))))) : zlV M_X11_leads 36 [some (.ref 164), some (.int x1), some (.int x2), some (.int x3), some (.int x4), none, none] [] h Q := by
  refine z_aload_n (pc := 36) dX11_leads_36 rfl rfl ?_
  refine q_getI (pc := 37) (v := rI h 164 12) dX11_leads_37 lk_RX11_204 (lyc rfl) rfl ?_
  refine z_if_le (pc := 40) (tgt := 258) dX11_leads_40 (by decide) (fun k16 => ?_) (fun k16 => ?_)
  · replace F := F.1 k16
    exact q_retV (pc := 258) dX11_leads_258 rfl F
  · replace F := F.2 k16
    refine z_aload_n (pc := 43) dX11_leads_43 rfl rfl ?_
    refine q_getI (pc := 44) (v := rI h 164 15) dX11_leads_44 lk_RX11_210 (lyc rfl) rfl ?_
    refine z_if_ne (pc := 47) (tgt := 258) dX11_leads_47 (by decide) (fun k15 => ?_) (fun k15 => ?_)
    · replace F := F.1 k15
      exact q_retV (pc := 258) dX11_leads_258 rfl F
    · replace F := F.2 k15
      refine z_iload (pc := 50) dX11_leads_50 rfl ?_
      refine z_iconst (pc := 52) (v := -1) dX11_leads_52 (by decide) ?_
      refine z_icmp_eq (pc := 53) (tgt := 258) dX11_leads_53 (by decide) (fun k14 => ?_) (fun k14 => ?_)
      · replace F := F.1 k14
        exact q_retV (pc := 258) dX11_leads_258 rfl F
      · replace F := F.2 k14
        refine z_aload_n (pc := 56) dX11_leads_56 rfl rfl ?_
        refine z_dup (pc := 57) dX11_leads_57 rfl ?_
        refine q_getI (pc := 58) (v := rI h 164 13) dX11_leads_58 lk_RX11_198 (lyc rfl) rfl ?_
        refine z_iconst (pc := 61) (v := 1) dX11_leads_61 (by decide) ?_
        refine z_iload (pc := 62) dX11_leads_62 rfl ?_
        refine z_ishl (pc := 64) dX11_leads_64 ?_
        refine z_ior (pc := 65) dX11_leads_65 ?_
        refine q_putI (pc := 66) dX11_leads_66 lk_RX11_198 (lyc rfl) ?_
        refine z_aload_n (pc := 69) dX11_leads_69 rfl rfl ?_
        refine z_dup (pc := 70) dX11_leads_70 rfl ?_
        refine q_getI (pc := 71) (v := rI h 164 14) dX11_leads_71 lk_RX11_207 (lyc rfl) (rI_k (by decide)) ?_
        refine z_iconst (pc := 74) (v := 1) dX11_leads_74 (by decide) ?_
        refine z_iadd (pc := 75) dX11_leads_75 ?_
        refine q_putI (pc := 76) dX11_leads_76 lk_RX11_207 (lyc rfl) ?_
        refine z_aload_n (pc := 79) dX11_leads_79 rfl rfl ?_
        refine z_iload (pc := 80) dX11_leads_80 rfl ?_
        refine z_iconst (pc := 82) (v := 3) dX11_leads_82 (by decide) ?_
        refine q_invV (pc := 83) (As := [.int x4, .int 3]) (st := []) dX11_leads_83 ok_X11_ruleIs ml_RX11_192 iv_X11_ruleIs pa_X11_ruleIs ⟨Nat.le_of_ble_eq_true rfl, Nat.le_of_ble_eq_true rfl⟩ (lyc rfl) (q_kI F (fun vh1 h1 F => ?_))
        obtain ⟨G1, F⟩ := F
        refine z_istore (pc := 86) (ls' := [some (.ref 164), some (.int x1), some (.int x2), some (.int x3), some (.int x4), some (.int vh1), none]) dX11_leads_86 (by decide) rfl ?_
        refine z_aload_n (pc := 88) dX11_leads_88 rfl rfl ?_
        refine z_iload (pc := 89) dX11_leads_89 rfl ?_
        refine z_iconst (pc := 91) (v := 0) dX11_leads_91 (by decide) ?_
        refine q_invV (pc := 92) (As := [.int x4, .int 0]) (st := []) dX11_leads_92 ok_X11_ruleIs ml_RX11_192 iv_X11_ruleIs pa_X11_ruleIs ⟨Nat.le_of_ble_eq_true rfl, Nat.le_of_ble_eq_true rfl⟩ (lyc rfl) (q_kI F (fun vh2 h2 F => ?_))
        obtain ⟨G2, F⟩ := F
        by_cases k3 : vh2 = 0
        · replace F := F.1 k3
          refine z_tableIn (pc := 95) (x := vh2) (tgt := 124) (off := 29) dX11_leads_95 (by rw [k3]; decide) (by rw [k3]; decide) (by rw [k3]; decide) (by decide) ?_
          refine z_iload (pc := 124) dX11_leads_124 rfl ?_
          refine z_aload_n (pc := 126) dX11_leads_126 rfl rfl ?_
          refine q_getI (pc := 127) (v := rI h2 164 12) dX11_leads_127 lk_RX11_204 (lyc rfl) rfl ?_
          refine z_icmp_ge (pc := 130) (tgt := 138) dX11_leads_130 (by decide) (fun k4 => ?_) (fun k4 => ?_)
          · replace F := F.1 k4
            refine z_aload_n (pc := 138) dX11_leads_138 rfl rfl ?_
            refine q_getI (pc := 139) (v := rI h2 164 12) dX11_leads_139 lk_RX11_204 (lyc rfl) rfl ?_
            exact F
          · replace F := F.2 k4
            refine z_iload (pc := 133) dX11_leads_133 rfl ?_
            refine z_goto (pc := 135) (tgt := 142) dX11_leads_135 (by decide) ?_
            exact F
        · replace F := F.2 k3
          by_cases k5 : vh2 = 1
          · replace F := F.1 k5
            refine z_tableIn (pc := 95) (x := vh2) (tgt := 186) (off := 91) dX11_leads_95 (by rw [k5]; decide) (by rw [k5]; decide) (by rw [k5]; decide) (by decide) ?_
            refine z_aload_n (pc := 186) dX11_leads_186 rfl rfl ?_
            refine z_dup (pc := 187) dX11_leads_187 rfl ?_
            refine q_getI (pc := 188) (v := rI h2 164 12) dX11_leads_188 lk_RX11_204 (lyc rfl) rfl ?_
            refine z_aload_n (pc := 191) dX11_leads_191 rfl rfl ?_
            refine q_getI (pc := 192) (v := rI h2 164 12) dX11_leads_192 lk_RX11_204 (lyc rfl) rfl ?_
            refine z_iconst (pc := 195) (v := 2) dX11_leads_195 (by decide) ?_
            refine z_idiv (pc := 196) dX11_leads_196 (by decide) ?_
            refine z_isub (pc := 197) dX11_leads_197 ?_
            refine q_putI (pc := 198) dX11_leads_198 lk_RX11_204 (lyc rfl) ?_
            refine z_goto (pc := 201) (tgt := 249) dX11_leads_201 (by decide) ?_
            refine z_aload_n (pc := 249) dX11_leads_249 rfl rfl ?_
            refine q_invV (pc := 250) (As := []) (st := []) dX11_leads_250 ok_X11_ruleFor ml_RX11_213 iv_X11_ruleFor pa_X11_ruleFor ⟨Nat.le_of_ble_eq_true rfl, Nat.le_of_ble_eq_true rfl⟩ (lyc rfl) (q_kI F (fun vh3 h3 F => ?_))
            obtain ⟨G3, F⟩ := F
            refine z_istore (pc := 253) (ls' := [some (.ref 164), some (.int x1), some (.int x2), some (.int x3), some (.int vh3), some (.int vh1), none]) dX11_leads_253 (by decide) rfl ?_
            refine z_goto (pc := 255) (tgt := 36) dX11_leads_255 (by decide) ?_
            exact q_sub (ls' := [some (.ref 164), some (.int x1), some (.int x2), some (.int x3), some (.int vh3), none, none]) ⟨rfl, rfl, rfl, rfl, rfl, trivial⟩ F
          · replace F := F.2 k5
            by_cases k7 : vh2 = 2
            · replace F := F.1 k7
              refine z_tableIn (pc := 95) (x := vh2) (tgt := 204) (off := 109) dX11_leads_95 (by rw [k7]; decide) (by rw [k7]; decide) (by rw [k7]; decide) (by decide) ?_
              refine z_aload_n (pc := 204) dX11_leads_204 rfl rfl ?_
              refine z_iconst (pc := 205) (v := 2) dX11_leads_205 (by decide) ?_
              refine z_aload_n (pc := 206) dX11_leads_206 rfl rfl ?_
              refine q_getI (pc := 207) (v := rI h2 164 12) dX11_leads_207 lk_RX11_204 (lyc rfl) rfl ?_
              refine z_imul (pc := 210) dX11_leads_210 ?_
              refine z_sipush (pc := 211) (v := 999) dX11_leads_211 (by decide) ?_
              refine z_icmp_le (pc := 214) (tgt := 223) dX11_leads_214 (by decide) (fun k10 => ?_) (fun k10 => ?_)
              · replace F := F.1 k10
                refine z_iconst (pc := 223) (v := 2) dX11_leads_223 (by decide) ?_
                refine z_aload_n (pc := 224) dX11_leads_224 rfl rfl ?_
                refine q_getI (pc := 225) (v := rI h2 164 12) dX11_leads_225 lk_RX11_204 (lyc rfl) rfl ?_
                refine z_imul (pc := 228) dX11_leads_228 ?_
                refine q_putI (pc := 229) dX11_leads_229 lk_RX11_204 (lyc rfl) ?_
                refine z_goto (pc := 232) (tgt := 249) dX11_leads_232 (by decide) ?_
                refine z_aload_n (pc := 249) dX11_leads_249 rfl rfl ?_
                refine q_invV (pc := 250) (As := []) (st := []) dX11_leads_250 ok_X11_ruleFor ml_RX11_213 iv_X11_ruleFor pa_X11_ruleFor ⟨Nat.le_of_ble_eq_true rfl, Nat.le_of_ble_eq_true rfl⟩ (lyc rfl) (q_kI F (fun vh4 h4 F => ?_))
                obtain ⟨G4, F⟩ := F
                refine z_istore (pc := 253) (ls' := [some (.ref 164), some (.int x1), some (.int x2), some (.int x3), some (.int vh4), some (.int vh1), none]) dX11_leads_253 (by decide) rfl ?_
                refine z_goto (pc := 255) (tgt := 36) dX11_leads_255 (by decide) ?_
                exact q_sub (ls' := [some (.ref 164), some (.int x1), some (.int x2), some (.int x3), some (.int vh4), none, none]) ⟨rfl, rfl, rfl, rfl, rfl, trivial⟩ F
              · replace F := F.2 k10
                refine z_sipush (pc := 217) (v := 999) dX11_leads_217 (by decide) ?_
                refine z_goto (pc := 220) (tgt := 229) dX11_leads_220 (by decide) ?_
                refine q_putI (pc := 229) dX11_leads_229 lk_RX11_204 (lyc rfl) ?_
                refine z_goto (pc := 232) (tgt := 249) dX11_leads_232 (by decide) ?_
                refine z_aload_n (pc := 249) dX11_leads_249 rfl rfl ?_
                refine q_invV (pc := 250) (As := []) (st := []) dX11_leads_250 ok_X11_ruleFor ml_RX11_213 iv_X11_ruleFor pa_X11_ruleFor ⟨Nat.le_of_ble_eq_true rfl, Nat.le_of_ble_eq_true rfl⟩ (lyc rfl) (q_kI F (fun vh5 h5 F => ?_))
                obtain ⟨G5, F⟩ := F
                refine z_istore (pc := 253) (ls' := [some (.ref 164), some (.int x1), some (.int x2), some (.int x3), some (.int vh5), some (.int vh1), none]) dX11_leads_253 (by decide) rfl ?_
                refine z_goto (pc := 255) (tgt := 36) dX11_leads_255 (by decide) ?_
                exact q_sub (ls' := [some (.ref 164), some (.int x1), some (.int x2), some (.int x3), some (.int vh5), none, none]) ⟨rfl, rfl, rfl, rfl, rfl, trivial⟩ F
            · replace F := F.2 k7
              by_cases k11 : vh2 = 3
              · replace F := F.1 k11
                refine z_tableIn (pc := 95) (x := vh2) (tgt := 235) (off := 140) dX11_leads_95 (by rw [k11]; decide) (by rw [k11]; decide) (by rw [k11]; decide) (by decide) ?_
                refine z_aload_n (pc := 235) dX11_leads_235 rfl rfl ?_
                refine z_iload (pc := 236) dX11_leads_236 rfl ?_
                refine q_putI (pc := 238) dX11_leads_238 lk_RX11_201 (lyc rfl) ?_
                refine z_goto (pc := 241) (tgt := 249) dX11_leads_241 (by decide) ?_
                refine z_aload_n (pc := 249) dX11_leads_249 rfl rfl ?_
                refine q_invV (pc := 250) (As := []) (st := []) dX11_leads_250 ok_X11_ruleFor ml_RX11_213 iv_X11_ruleFor pa_X11_ruleFor ⟨Nat.le_of_ble_eq_true rfl, Nat.le_of_ble_eq_true rfl⟩ (lyc rfl) (q_kI F (fun vh6 h6 F => ?_))
                obtain ⟨G6, F⟩ := F
                refine z_istore (pc := 253) (ls' := [some (.ref 164), some (.int x1), some (.int x2), some (.int x3), some (.int vh6), some (.int vh1), none]) dX11_leads_253 (by decide) rfl ?_
                refine z_goto (pc := 255) (tgt := 36) dX11_leads_255 (by decide) ?_
                exact q_sub (ls' := [some (.ref 164), some (.int x1), some (.int x2), some (.int x3), some (.int vh6), none, none]) ⟨rfl, rfl, rfl, rfl, rfl, trivial⟩ F
              · replace F := F.2 k11
                have hz0 := q_sw (0) k3 (by decide)
                have hz1 := q_sw (1) k5 (by decide)
                have hz2 := q_sw (2) k7 (by decide)
                have hz3 := q_sw (3) k11 (by decide)
                refine z_tableOut (pc := 95) (tgt := 244) dX11_leads_95 (by omega) (by decide) ?_
                refine z_aload_n (pc := 244) dX11_leads_244 rfl rfl ?_
                refine z_iconst (pc := 245) (v := 1) dX11_leads_245 (by decide) ?_
                refine q_putB (pc := 246) dX11_leads_246 lk_RX11_210 (lyc rfl) (Or.inr rfl) ?_
                refine z_aload_n (pc := 249) dX11_leads_249 rfl rfl ?_
                refine q_invV (pc := 250) (As := []) (st := []) dX11_leads_250 ok_X11_ruleFor ml_RX11_213 iv_X11_ruleFor pa_X11_ruleFor ⟨Nat.le_of_ble_eq_true rfl, Nat.le_of_ble_eq_true rfl⟩ (lyc rfl) (q_kI F (fun vh7 h7 F => ?_))
                obtain ⟨G7, F⟩ := F
                refine z_istore (pc := 253) (ls' := [some (.ref 164), some (.int x1), some (.int x2), some (.int x3), some (.int vh7), some (.int vh1), none]) dX11_leads_253 (by decide) rfl ?_
                refine z_goto (pc := 255) (tgt := 36) dX11_leads_255 (by decide) ?_
                exact q_sub (ls' := [some (.ref 164), some (.int x1), some (.int x2), some (.int x3), some (.int vh7), none, none]) ⟨rfl, rfl, rfl, rfl, rfl, trivial⟩ F
theorem g_X11_leads_142 {x1 : Int32} {x2 : Int32} {x3 : Int32} {x4 : Int32} {x5 : Int32} {xs0 : Int32} {h : zHp} {Q : zHp → Prop}  (G : zG h) (F : vp_in ((150 + (4 * x4)) + 3) 246 ∧ ((x3 = 0 → (zcI M_X11_ruleFor [.ref 164] (wI (wI h 164 12 ((rI h 164 12) - xs0)) 165 ((Int32.toNatClampNeg ((150 + (4 * x4)) + 3))) ((rI h 165 ((Int32.toNatClampNeg ((150 + (4 * x4)) + 3)))) - 0)) (fun vh1 h1 => zG h1 ∧ (zlV M_X11_leads 36 [some (.ref 164), some (.int x1), some (.int x2), some (.int x3), some (.int vh1), none, none] [] h1 Q)))) ∧ (¬ (x3 = 0) → (zcI M_X11_ruleFor [.ref 164] (wI (wI h 164 12 ((rI h 164 12) - xs0)) 165 ((Int32.toNatClampNeg ((150 + (4 * x4)) + 3))) ((rI h 165 ((Int32.toNatClampNeg ((150 + (4 * x4)) + 3)))) - xs0)) (fun vh2 h2 => zG h2 ∧ (zlV M_X11_leads 36 [some (.ref 164), some (.int x1), some (.int x2), some (.int x3), some (.int vh2), none, none] [] h2 Q)))))) : zlV M_X11_leads 142 [some (.ref 164), some (.int x1), some (.int x2), some (.int x3), some (.int x4), some (.int x5), none] [.int xs0] h Q := by
  refine z_istore (pc := 142) (ls' := [some (.ref 164), some (.int x1), some (.int x2), some (.int x3), some (.int x4), some (.int x5), some (.int xs0)]) dX11_leads_142 (by decide) rfl ?_
  refine z_aload_n (pc := 144) dX11_leads_144 rfl rfl ?_
  refine z_dup (pc := 145) dX11_leads_145 rfl ?_
  refine q_getI (pc := 146) (v := rI h 164 12) dX11_leads_146 lk_RX11_204 (lyc rfl) rfl ?_
  refine z_iload (pc := 149) dX11_leads_149 rfl ?_
  refine z_isub (pc := 151) dX11_leads_151 ?_
  refine q_putI (pc := 152) dX11_leads_152 lk_RX11_204 (lyc rfl) ?_
  refine z_aload_n (pc := 155) dX11_leads_155 rfl rfl ?_
  refine q_getR (pc := 156) (i := 165) dX11_leads_156 lk_RX11_7 (lyc rfl) (G 164 0 165 rfl) ?_
  refine z_sipush (pc := 159) (v := 150) dX11_leads_159 (by decide) ?_
  refine z_iconst (pc := 162) (v := 4) dX11_leads_162 (by decide) ?_
  refine z_iload (pc := 163) dX11_leads_163 rfl ?_
  refine z_imul (pc := 165) dX11_leads_165 ?_
  refine z_iadd (pc := 166) dX11_leads_166 ?_
  refine z_iconst (pc := 167) (v := 3) dX11_leads_167 (by decide) ?_
  refine z_iadd (pc := 168) dX11_leads_168 ?_
  refine z_dup2 (pc := 169) dX11_leads_169 rfl rfl ?_
  obtain ⟨k1, F⟩ := F
  refine q_iald (pc := 170) (j := (Int32.toNatClampNeg ((150 + (4 * x4)) + 3))) (v := rI h 165 ((Int32.toNatClampNeg ((150 + (4 * x4)) + 3)))) dX11_leads_170 (lyc rfl) (zvn (lnc rfl) k1) rfl (rI_c (by decide)) ?_
  refine z_iload_n (pc := 171) dX11_leads_171 rfl rfl ?_
  refine z_if_eq (pc := 172) (tgt := 180) dX11_leads_172 (by decide) (fun k4 => ?_) (fun k4 => ?_)
  · replace F := F.1 k4
    refine z_iconst (pc := 180) (v := 0) dX11_leads_180 (by decide) ?_
    refine z_isub (pc := 181) dX11_leads_181 ?_
    refine q_iast (pc := 182) (j := (Int32.toNatClampNeg ((150 + (4 * x4)) + 3))) dX11_leads_182 (lyc rfl) (zvn (lnc rfl) k1) rfl ?_
    refine z_goto (pc := 183) (tgt := 249) dX11_leads_183 (by decide) ?_
    refine z_aload_n (pc := 249) dX11_leads_249 rfl rfl ?_
    refine q_invV (pc := 250) (As := []) (st := []) dX11_leads_250 ok_X11_ruleFor ml_RX11_213 iv_X11_ruleFor pa_X11_ruleFor ⟨Nat.le_of_ble_eq_true rfl, Nat.le_of_ble_eq_true rfl⟩ (lyc rfl) (q_kI F (fun vh1 h1 F => ?_))
    obtain ⟨G1, F⟩ := F
    refine z_istore (pc := 253) (ls' := [some (.ref 164), some (.int x1), some (.int x2), some (.int x3), some (.int vh1), some (.int x5), some (.int xs0)]) dX11_leads_253 (by decide) rfl ?_
    refine z_goto (pc := 255) (tgt := 36) dX11_leads_255 (by decide) ?_
    exact q_sub (ls' := [some (.ref 164), some (.int x1), some (.int x2), some (.int x3), some (.int vh1), none, none]) ⟨rfl, rfl, rfl, rfl, rfl, trivial⟩ F
  · replace F := F.2 k4
    refine z_iload (pc := 175) dX11_leads_175 rfl ?_
    refine z_goto (pc := 177) (tgt := 181) dX11_leads_177 (by decide) ?_
    refine z_isub (pc := 181) dX11_leads_181 ?_
    refine q_iast (pc := 182) (j := (Int32.toNatClampNeg ((150 + (4 * x4)) + 3))) dX11_leads_182 (lyc rfl) (zvn (lnc rfl) k1) rfl ?_
    refine z_goto (pc := 183) (tgt := 249) dX11_leads_183 (by decide) ?_
    refine z_aload_n (pc := 249) dX11_leads_249 rfl rfl ?_
    refine q_invV (pc := 250) (As := []) (st := []) dX11_leads_250 ok_X11_ruleFor ml_RX11_213 iv_X11_ruleFor pa_X11_ruleFor ⟨Nat.le_of_ble_eq_true rfl, Nat.le_of_ble_eq_true rfl⟩ (lyc rfl) (q_kI F (fun vh2 h2 F => ?_))
    obtain ⟨G2, F⟩ := F
    refine z_istore (pc := 253) (ls' := [some (.ref 164), some (.int x1), some (.int x2), some (.int x3), some (.int vh2), some (.int x5), some (.int xs0)]) dX11_leads_253 (by decide) rfl ?_
    refine z_goto (pc := 255) (tgt := 36) dX11_leads_255 (by decide) ?_
    exact q_sub (ls' := [some (.ref 164), some (.int x1), some (.int x2), some (.int x3), some (.int vh2), none, none]) ⟨rfl, rfl, rfl, rfl, rfl, trivial⟩ F
theorem g_X11_wounds {x1 : Int32} {x2 : Int32} {h : zHp} {Q : zHp → Prop}  (G : zG h) (F : vp_in ((0 + (10 * x1)) + 4) 246 ∧ ((0 ≤ (rI h 165 ((Int32.toNatClampNeg ((0 + (10 * x1)) + 4)))) + x2 → (((rI h 165 ((Int32.toNatClampNeg ((0 + (10 * x1)) + 4)))) + x2 ≤ 999 → (Q (wI h 165 ((Int32.toNatClampNeg ((0 + (10 * x1)) + 4))) ((rI h 165 ((Int32.toNatClampNeg ((0 + (10 * x1)) + 4)))) + x2)))) ∧ (¬ ((rI h 165 ((Int32.toNatClampNeg ((0 + (10 * x1)) + 4)))) + x2 ≤ 999) → (Q (wI h 165 ((Int32.toNatClampNeg ((0 + (10 * x1)) + 4))) 999))))) ∧ (¬ (0 ≤ (rI h 165 ((Int32.toNatClampNeg ((0 + (10 * x1)) + 4)))) + x2) → (Q (wI h 165 ((Int32.toNatClampNeg ((0 + (10 * x1)) + 4))) 0))))) : zcV M_X11_wounds [.ref 164, .int x1, .int x2] h Q := by
  show zw zNT zNT M_X11_wounds 0 [some (.ref 164), some (.int x1), some (.int x2), none] [] h _
  refine z_iconst (pc := 0) (v := 0) dX11_wounds_0 (by decide) ?_
  refine z_bipush (pc := 1) (v := 10) dX11_wounds_1 (by decide) ?_
  refine z_iload_n (pc := 3) dX11_wounds_3 rfl rfl ?_
  refine z_imul (pc := 4) dX11_wounds_4 ?_
  refine z_iadd (pc := 5) dX11_wounds_5 ?_
  refine z_iconst (pc := 6) (v := 4) dX11_wounds_6 (by decide) ?_
  refine z_iadd (pc := 7) dX11_wounds_7 ?_
  refine z_istore_n (pc := 8) (ls' := [some (.ref 164), some (.int x1), some (.int x2), some (.int ((0 + (10 * x1)) + 4))]) dX11_wounds_8 rfl (by decide) rfl ?_
  refine z_aload_n (pc := 9) dX11_wounds_9 rfl rfl ?_
  refine q_getR (pc := 10) (i := 165) dX11_wounds_10 lk_RX11_7 (lyc rfl) (G 164 0 165 rfl) ?_
  refine z_iload_n (pc := 13) dX11_wounds_13 rfl rfl ?_
  refine z_aload_n (pc := 14) dX11_wounds_14 rfl rfl ?_
  refine q_getR (pc := 15) (i := 165) dX11_wounds_15 lk_RX11_7 (lyc rfl) (G 164 0 165 rfl) ?_
  refine z_iload_n (pc := 18) dX11_wounds_18 rfl rfl ?_
  obtain ⟨k1, F⟩ := F
  refine q_iald (pc := 19) (j := (Int32.toNatClampNeg ((0 + (10 * x1)) + 4))) (v := rI h 165 ((Int32.toNatClampNeg ((0 + (10 * x1)) + 4)))) dX11_wounds_19 (lyc rfl) (zvn (lnc rfl) k1) rfl rfl ?_
  refine z_iload_n (pc := 20) dX11_wounds_20 rfl rfl ?_
  refine z_iadd (pc := 21) dX11_wounds_21 ?_
  refine z_if_ge (pc := 22) (tgt := 29) dX11_wounds_22 (by decide) (fun k3 => ?_) (fun k3 => ?_)
  · replace F := F.1 k3
    refine z_aload_n (pc := 29) dX11_wounds_29 rfl rfl ?_
    refine q_getR (pc := 30) (i := 165) dX11_wounds_30 lk_RX11_7 (lyc rfl) (G 164 0 165 rfl) ?_
    refine z_iload_n (pc := 33) dX11_wounds_33 rfl rfl ?_
    refine q_iald (pc := 34) (j := (Int32.toNatClampNeg ((0 + (10 * x1)) + 4))) (v := rI h 165 ((Int32.toNatClampNeg ((0 + (10 * x1)) + 4)))) dX11_wounds_34 (lyc rfl) (zvn (lnc rfl) k1) rfl rfl ?_
    refine z_iload_n (pc := 35) dX11_wounds_35 rfl rfl ?_
    refine z_iadd (pc := 36) dX11_wounds_36 ?_
    refine z_sipush (pc := 37) (v := 999) dX11_wounds_37 (by decide) ?_
    refine z_icmp_le (pc := 40) (tgt := 49) dX11_wounds_40 (by decide) (fun k2 => ?_) (fun k2 => ?_)
    · replace F := F.1 k2
      refine z_aload_n (pc := 49) dX11_wounds_49 rfl rfl ?_
      refine q_getR (pc := 50) (i := 165) dX11_wounds_50 lk_RX11_7 (lyc rfl) (G 164 0 165 rfl) ?_
      refine z_iload_n (pc := 53) dX11_wounds_53 rfl rfl ?_
      refine q_iald (pc := 54) (j := (Int32.toNatClampNeg ((0 + (10 * x1)) + 4))) (v := rI h 165 ((Int32.toNatClampNeg ((0 + (10 * x1)) + 4)))) dX11_wounds_54 (lyc rfl) (zvn (lnc rfl) k1) rfl rfl ?_
      refine z_iload_n (pc := 55) dX11_wounds_55 rfl rfl ?_
      refine z_iadd (pc := 56) dX11_wounds_56 ?_
      refine q_iast (pc := 57) (j := (Int32.toNatClampNeg ((0 + (10 * x1)) + 4))) dX11_wounds_57 (lyc rfl) (zvn (lnc rfl) k1) rfl ?_
      exact q_retV (pc := 58) dX11_wounds_58 rfl F
    · replace F := F.2 k2
      refine z_sipush (pc := 43) (v := 999) dX11_wounds_43 (by decide) ?_
      refine z_goto (pc := 46) (tgt := 57) dX11_wounds_46 (by decide) ?_
      refine q_iast (pc := 57) (j := (Int32.toNatClampNeg ((0 + (10 * x1)) + 4))) dX11_wounds_57 (lyc rfl) (zvn (lnc rfl) k1) rfl ?_
      exact q_retV (pc := 58) dX11_wounds_58 rfl F
  · replace F := F.2 k3
    refine z_iconst (pc := 25) (v := 0) dX11_wounds_25 (by decide) ?_
    refine z_goto (pc := 26) (tgt := 57) dX11_wounds_26 (by decide) ?_
    refine q_iast (pc := 57) (j := (Int32.toNatClampNeg ((0 + (10 * x1)) + 4))) dX11_wounds_57 (lyc rfl) (zvn (lnc rfl) k1) rfl ?_
    exact q_retV (pc := 58) dX11_wounds_58 rfl F
theorem g_X11_hurts {x1 : Int32} {x2 : Int32} {h : zHp} {Q : zHp → Prop}  (G : zG h) (F : zcV M_X11_leads [.ref 164, .int x1, .int x2, .int 1] h (fun h1 => zG h1 ∧ ((rI h1 164 15 = 0 → ((rI h1 164 12 ≤ 0 → (zlV M_X11_hurts 60 [some (.ref 164), some (.int x1), some (.int x2), some (.int ((rI h1 165 240) - 1))] [] h1 Q)) ∧ (¬ (rI h1 164 12 ≤ 0) → (zcV M_X11_wounds [.ref 164, .int (rI h1 164 11), .int (rI h1 164 12)] h1 (fun h2 => zG h2 ∧ (zlV M_X11_hurts 60 [some (.ref 164), some (.int x1), some (.int x2), some (.int ((rI h2 165 240) - 1))] [] h2 Q)))))) ∧ (¬ (rI h1 164 15 = 0) → (zcV M_X11_wounds [.ref 164, .int (rI h1 164 11), .int (-(rI h1 164 12))] h1 (fun h3 => zG h3 ∧ (zlV M_X11_hurts 60 [some (.ref 164), some (.int x1), some (.int x2), some (.int ((rI h3 165 240) - 1))] [] h3 Q))))))) : zcV M_X11_hurts [.ref 164, .int x1, .int x2] h Q := by
  show zw zNT zNT M_X11_hurts 0 [some (.ref 164), some (.int x1), some (.int x2), none] [] h _
  refine z_aload_n (pc := 0) dX11_hurts_0 rfl rfl ?_
  refine z_iload_n (pc := 1) dX11_hurts_1 rfl rfl ?_
  refine z_iload_n (pc := 2) dX11_hurts_2 rfl rfl ?_
  refine z_iconst (pc := 3) (v := 1) dX11_hurts_3 (by decide) ?_
  refine q_invV (pc := 4) (As := [.int x1, .int x2, .int 1]) (st := []) dX11_hurts_4 ok_X11_leads ml_RX11_217 iv_X11_leads pa_X11_leads ⟨Nat.le_of_ble_eq_true rfl, Nat.le_of_ble_eq_true rfl⟩ (lyc rfl) (q_kV F (fun h1 F => ?_))
  obtain ⟨G1, F⟩ := F
  refine z_aload_n (pc := 7) dX11_hurts_7 rfl rfl ?_
  refine q_getI (pc := 8) (v := rI h1 164 15) dX11_hurts_8 lk_RX11_210 (lyc rfl) rfl ?_
  refine z_if_eq (pc := 11) (tgt := 30) dX11_hurts_11 (by decide) (fun k5 => ?_) (fun k5 => ?_)
  · replace F := F.1 k5
    refine z_aload_n (pc := 30) dX11_hurts_30 rfl rfl ?_
    refine q_getI (pc := 31) (v := rI h1 164 12) dX11_hurts_31 lk_RX11_204 (lyc rfl) rfl ?_
    refine z_if_le (pc := 34) (tgt := 49) dX11_hurts_34 (by decide) (fun k3 => ?_) (fun k3 => ?_)
    · replace F := F.1 k3
      refine z_aload_n (pc := 49) dX11_hurts_49 rfl rfl ?_
      refine q_getR (pc := 50) (i := 165) dX11_hurts_50 lk_RX11_7 (lyc rfl) (G1 164 0 165 rfl) ?_
      refine z_sipush (pc := 53) (v := 240) dX11_hurts_53 (by decide) ?_
      refine q_iald (pc := 56) (j := 240) (v := rI h1 165 240) dX11_hurts_56 (lyc rfl) (zvl (lnc rfl) (by decide)) (by decide) rfl ?_
      refine z_iconst (pc := 57) (v := 1) dX11_hurts_57 (by decide) ?_
      refine z_isub (pc := 58) dX11_hurts_58 ?_
      refine z_istore_n (pc := 59) (ls' := [some (.ref 164), some (.int x1), some (.int x2), some (.int ((rI h1 165 240) - 1))]) dX11_hurts_59 rfl (by decide) rfl ?_
      exact F
    · replace F := F.2 k3
      refine z_aload_n (pc := 37) dX11_hurts_37 rfl rfl ?_
      refine z_aload_n (pc := 38) dX11_hurts_38 rfl rfl ?_
      refine q_getI (pc := 39) (v := rI h1 164 11) dX11_hurts_39 lk_RX11_201 (lyc rfl) rfl ?_
      refine z_aload_n (pc := 42) dX11_hurts_42 rfl rfl ?_
      refine q_getI (pc := 43) (v := rI h1 164 12) dX11_hurts_43 lk_RX11_204 (lyc rfl) rfl ?_
      refine q_invV (pc := 46) (As := [.int (rI h1 164 11), .int (rI h1 164 12)]) (st := []) dX11_hurts_46 ok_X11_wounds ml_RX11_221 iv_X11_wounds pa_X11_wounds ⟨Nat.le_of_ble_eq_true rfl, Nat.le_of_ble_eq_true rfl⟩ (lyc rfl) (q_kV F (fun h2 F => ?_))
      obtain ⟨G2, F⟩ := F
      refine z_aload_n (pc := 49) dX11_hurts_49 rfl rfl ?_
      refine q_getR (pc := 50) (i := 165) dX11_hurts_50 lk_RX11_7 (lyc rfl) (G2 164 0 165 rfl) ?_
      refine z_sipush (pc := 53) (v := 240) dX11_hurts_53 (by decide) ?_
      refine q_iald (pc := 56) (j := 240) (v := rI h2 165 240) dX11_hurts_56 (lyc rfl) (zvl (lnc rfl) (by decide)) (by decide) rfl ?_
      refine z_iconst (pc := 57) (v := 1) dX11_hurts_57 (by decide) ?_
      refine z_isub (pc := 58) dX11_hurts_58 ?_
      refine z_istore_n (pc := 59) (ls' := [some (.ref 164), some (.int x1), some (.int x2), some (.int ((rI h2 165 240) - 1))]) dX11_hurts_59 rfl (by decide) rfl ?_
      exact F
  · replace F := F.2 k5
    refine z_aload_n (pc := 14) dX11_hurts_14 rfl rfl ?_
    refine z_aload_n (pc := 15) dX11_hurts_15 rfl rfl ?_
    refine q_getI (pc := 16) (v := rI h1 164 11) dX11_hurts_16 lk_RX11_201 (lyc rfl) rfl ?_
    refine z_aload_n (pc := 19) dX11_hurts_19 rfl rfl ?_
    refine q_getI (pc := 20) (v := rI h1 164 12) dX11_hurts_20 lk_RX11_204 (lyc rfl) rfl ?_
    refine z_ineg (pc := 23) dX11_hurts_23 ?_
    refine q_invV (pc := 24) (As := [.int (rI h1 164 11), .int (-(rI h1 164 12))]) (st := []) dX11_hurts_24 ok_X11_wounds ml_RX11_221 iv_X11_wounds pa_X11_wounds ⟨Nat.le_of_ble_eq_true rfl, Nat.le_of_ble_eq_true rfl⟩ (lyc rfl) (q_kV F (fun h3 F => ?_))
    obtain ⟨G3, F⟩ := F
    refine z_goto (pc := 27) (tgt := 49) dX11_hurts_27 (by decide) ?_
    refine z_aload_n (pc := 49) dX11_hurts_49 rfl rfl ?_
    refine q_getR (pc := 50) (i := 165) dX11_hurts_50 lk_RX11_7 (lyc rfl) (G3 164 0 165 rfl) ?_
    refine z_sipush (pc := 53) (v := 240) dX11_hurts_53 (by decide) ?_
    refine q_iald (pc := 56) (j := 240) (v := rI h3 165 240) dX11_hurts_56 (lyc rfl) (zvl (lnc rfl) (by decide)) (by decide) rfl ?_
    refine z_iconst (pc := 57) (v := 1) dX11_hurts_57 (by decide) ?_
    refine z_isub (pc := 58) dX11_hurts_58 ?_
    refine z_istore_n (pc := 59) (ls' := [some (.ref 164), some (.int x1), some (.int x2), some (.int ((rI h3 165 240) - 1))]) dX11_hurts_59 rfl (by decide) rfl ?_
    exact F
theorem g_X11_hurts_60 {x1 : Int32} {x2 : Int32} {x3 : Int32} {h : zHp} {Q : zHp → Prop}  (G : zG h) (F : (x3 < 0 → ((rI h 164 12 ≤ 0 → (zcV M_X11_rounds [.ref 164] h (fun h1 => zG h1 ∧ (Q h1)))) ∧ (¬ (rI h 164 12 ≤ 0) → ((¬ rI h 164 15 = 0 → (zcV M_X11_rounds [.ref 164] h (fun h2 => zG h2 ∧ (Q h2)))) ∧ (rI h 164 15 = 0 → (zcV M_X11_setsOff [.ref 164, .int 0, .int (1 <<< ((rI h 164 11) &&& 31))] h (fun h3 => zG h3 ∧ (zcV M_X11_rounds [.ref 164] h3 (fun h4 => zG h4 ∧ (Q h4)))))))))) ∧ (¬ (x3 < 0) → (zcI M_X11_ruleIs [.ref 164, .int x3, .int 0] h (fun vh5 h5 => zG h5 ∧ ((¬ vh5 = 0 → (zlV M_X11_hurts 60 [some (.ref 164), some (.int x1), some (.int x2), some (.int (x3 + (-1)))] [] h5 Q)) ∧ (vh5 = 0 → (zcI M_X11_ruleIs [.ref 164, .int x3, .int 3] h5 (fun vh6 h6 => zG h6 ∧ ((¬ vh6 = 0 → (zlV M_X11_hurts 60 [some (.ref 164), some (.int x1), some (.int x2), some (.int (x3 + (-1)))] [] h6 Q)) ∧ (vh6 = 0 → (zcV M_X11_goes [.ref 164, .int 150, .int 4, .int 240, .int x3] h6 (fun h7 => zG h7 ∧ (zlV M_X11_hurts 60 [some (.ref 164), some (.int x1), some (.int x2), some (.int (x3 + (-1)))] [] h7 Q))))))))))))) : zlV M_X11_hurts 60 [some (.ref 164), some (.int x1), some (.int x2), some (.int x3)] [] h Q := by
  refine z_iload_n (pc := 60) dX11_hurts_60 rfl rfl ?_
  refine z_if_lt (pc := 61) (tgt := 100) dX11_hurts_61 (by decide) (fun k12 => ?_) (fun k12 => ?_)
  · replace F := F.1 k12
    refine z_aload_n (pc := 100) dX11_hurts_100 rfl rfl ?_
    refine q_getI (pc := 101) (v := rI h 164 12) dX11_hurts_101 lk_RX11_204 (lyc rfl) rfl ?_
    refine z_if_le (pc := 104) (tgt := 125) dX11_hurts_104 (by decide) (fun k6 => ?_) (fun k6 => ?_)
    · replace F := F.1 k6
      refine z_aload_n (pc := 125) dX11_hurts_125 rfl rfl ?_
      refine q_invV (pc := 126) (As := []) (st := []) dX11_hurts_126 ok_X11_rounds ml_RX11_153 iv_X11_rounds pa_X11_rounds ⟨Nat.le_of_ble_eq_true rfl, Nat.le_of_ble_eq_true rfl⟩ (lyc rfl) (q_kV F (fun h1 F => ?_))
      obtain ⟨G1, F⟩ := F
      exact q_retV (pc := 129) dX11_hurts_129 rfl F
    · replace F := F.2 k6
      refine z_aload_n (pc := 107) dX11_hurts_107 rfl rfl ?_
      refine q_getI (pc := 108) (v := rI h 164 15) dX11_hurts_108 lk_RX11_210 (lyc rfl) rfl ?_
      refine z_if_ne (pc := 111) (tgt := 125) dX11_hurts_111 (by decide) (fun k5 => ?_) (fun k5 => ?_)
      · replace F := F.1 k5
        refine z_aload_n (pc := 125) dX11_hurts_125 rfl rfl ?_
        refine q_invV (pc := 126) (As := []) (st := []) dX11_hurts_126 ok_X11_rounds ml_RX11_153 iv_X11_rounds pa_X11_rounds ⟨Nat.le_of_ble_eq_true rfl, Nat.le_of_ble_eq_true rfl⟩ (lyc rfl) (q_kV F (fun h2 F => ?_))
        obtain ⟨G2, F⟩ := F
        exact q_retV (pc := 129) dX11_hurts_129 rfl F
      · replace F := F.2 k5
        refine z_aload_n (pc := 114) dX11_hurts_114 rfl rfl ?_
        refine z_iconst (pc := 115) (v := 0) dX11_hurts_115 (by decide) ?_
        refine z_iconst (pc := 116) (v := 1) dX11_hurts_116 (by decide) ?_
        refine z_aload_n (pc := 117) dX11_hurts_117 rfl rfl ?_
        refine q_getI (pc := 118) (v := rI h 164 11) dX11_hurts_118 lk_RX11_201 (lyc rfl) rfl ?_
        refine z_ishl (pc := 121) dX11_hurts_121 ?_
        refine q_invV (pc := 122) (As := [.int 0, .int (1 <<< ((rI h 164 11) &&& 31))]) (st := []) dX11_hurts_122 ok_X11_setsOff ml_RX11_149 iv_X11_setsOff pa_X11_setsOff ⟨Nat.le_of_ble_eq_true rfl, Nat.le_of_ble_eq_true rfl⟩ (lyc rfl) (q_kV F (fun h3 F => ?_))
        obtain ⟨G3, F⟩ := F
        refine z_aload_n (pc := 125) dX11_hurts_125 rfl rfl ?_
        refine q_invV (pc := 126) (As := []) (st := []) dX11_hurts_126 ok_X11_rounds ml_RX11_153 iv_X11_rounds pa_X11_rounds ⟨Nat.le_of_ble_eq_true rfl, Nat.le_of_ble_eq_true rfl⟩ (lyc rfl) (q_kV F (fun h4 F => ?_))
        obtain ⟨G4, F⟩ := F
        exact q_retV (pc := 129) dX11_hurts_129 rfl F
  · replace F := F.2 k12
    refine z_aload_n (pc := 64) dX11_hurts_64 rfl rfl ?_
    refine z_iload_n (pc := 65) dX11_hurts_65 rfl rfl ?_
    refine z_iconst (pc := 66) (v := 0) dX11_hurts_66 (by decide) ?_
    refine q_invV (pc := 67) (As := [.int x3, .int 0]) (st := []) dX11_hurts_67 ok_X11_ruleIs ml_RX11_192 iv_X11_ruleIs pa_X11_ruleIs ⟨Nat.le_of_ble_eq_true rfl, Nat.le_of_ble_eq_true rfl⟩ (lyc rfl) (q_kI F (fun vh5 h5 F => ?_))
    obtain ⟨G5, F⟩ := F
    refine z_if_ne (pc := 70) (tgt := 94) dX11_hurts_70 (by decide) (fun k11 => ?_) (fun k11 => ?_)
    · replace F := F.1 k11
      refine z_iinc (pc := 94) (v := x3 + (-1)) (ls' := [some (.ref 164), some (.int x1), some (.int x2), some (.int (x3 + (-1)))]) dX11_hurts_94 (by decide) rfl rfl rfl ?_
      refine z_goto (pc := 97) (tgt := 60) dX11_hurts_97 (by decide) ?_
      exact F
    · replace F := F.2 k11
      refine z_aload_n (pc := 73) dX11_hurts_73 rfl rfl ?_
      refine z_iload_n (pc := 74) dX11_hurts_74 rfl rfl ?_
      refine z_iconst (pc := 75) (v := 3) dX11_hurts_75 (by decide) ?_
      refine q_invV (pc := 76) (As := [.int x3, .int 3]) (st := []) dX11_hurts_76 ok_X11_ruleIs ml_RX11_192 iv_X11_ruleIs pa_X11_ruleIs ⟨Nat.le_of_ble_eq_true rfl, Nat.le_of_ble_eq_true rfl⟩ (lyc rfl) (q_kI F (fun vh6 h6 F => ?_))
      obtain ⟨G6, F⟩ := F
      refine z_if_ne (pc := 79) (tgt := 94) dX11_hurts_79 (by decide) (fun k10 => ?_) (fun k10 => ?_)
      · replace F := F.1 k10
        refine z_iinc (pc := 94) (v := x3 + (-1)) (ls' := [some (.ref 164), some (.int x1), some (.int x2), some (.int (x3 + (-1)))]) dX11_hurts_94 (by decide) rfl rfl rfl ?_
        refine z_goto (pc := 97) (tgt := 60) dX11_hurts_97 (by decide) ?_
        exact F
      · replace F := F.2 k10
        refine z_aload_n (pc := 82) dX11_hurts_82 rfl rfl ?_
        refine z_sipush (pc := 83) (v := 150) dX11_hurts_83 (by decide) ?_
        refine z_iconst (pc := 86) (v := 4) dX11_hurts_86 (by decide) ?_
        refine z_sipush (pc := 87) (v := 240) dX11_hurts_87 (by decide) ?_
        refine z_iload_n (pc := 90) dX11_hurts_90 rfl rfl ?_
        refine q_invV (pc := 91) (As := [.int 150, .int 4, .int 240, .int x3]) (st := []) dX11_hurts_91 ok_X11_goes ml_RX11_186 iv_X11_goes pa_X11_goes ⟨Nat.le_of_ble_eq_true rfl, Nat.le_of_ble_eq_true rfl⟩ (lyc rfl) (q_kV F (fun h7 F => ?_))
        obtain ⟨G7, F⟩ := F
        refine z_iinc (pc := 94) (v := x3 + (-1)) (ls' := [some (.ref 164), some (.int x1), some (.int x2), some (.int (x3 + (-1)))]) dX11_hurts_94 (by decide) rfl rfl rfl ?_
        refine z_goto (pc := 97) (tgt := 60) dX11_hurts_97 (by decide) ?_
        exact F
theorem g_X11_aim {x1 : Int32} {x2 : Int32} {x3 : Int32} {h : zHp} {Q : Int32 → zHp → Prop}  (G : zG h) (F : zcI M_X11_isThing [.ref 164, .int x1] h (fun vh1 h1 => zG h1 ∧ ((vh1 = 0 → (Q (-2) h1)) ∧ (¬ (vh1 = 0) → (zcI M_X11_in [.int x2, .int 1, .int 99] h1 (fun vh2 h2 => zG h2 ∧ ((vh2 = 0 → (Q (-2) h2)) ∧ (¬ (vh2 = 0) → (zcI M_X11_in [.int x3, .int 0, .int 2] h2 (fun vh3 h3 => zG h3 ∧ ((¬ vh3 = 0 → (zcI M_X11_isAlive [.ref 164, .int x1] h3 (fun vh4 h4 => zG h4 ∧ ((¬ vh4 = 0 → (zcV M_X11_leads [.ref 164, .int x1, .int x2, .int 0] h4 (fun h5 => zG h5 ∧ ((¬ x3 = 0 → ((¬ x3 = 2 → ((rI h5 164 15 = 0 → (Q (rI h5 164 12) h5)) ∧ (¬ (rI h5 164 15 = 0) → (Q 0 h5)))) ∧ (x3 = 2 → (Q (rI h5 164 14) h5)))) ∧ (x3 = 0 → (Q (rI h5 164 11) h5)))))) ∧ (vh4 = 0 → (Q (-3) h4)))))) ∧ (vh3 = 0 → (Q (-2) h3))))))))))))) : zcI M_X11_aim [.ref 164, .int x1, .int x2, .int x3] h Q := by
  show zw zNT zNT M_X11_aim 0 [some (.ref 164), some (.int x1), some (.int x2), some (.int x3)] [] h _
  refine z_aload_n (pc := 0) dX11_aim_0 rfl rfl ?_
  refine z_iload_n (pc := 1) dX11_aim_1 rfl rfl ?_
  refine q_invV (pc := 2) (As := [.int x1]) (st := []) dX11_aim_2 ok_X11_isThing ml_RX11_88 iv_X11_isThing pa_X11_isThing ⟨Nat.le_of_ble_eq_true rfl, Nat.le_of_ble_eq_true rfl⟩ (lyc rfl) (q_kI F (fun vh1 h1 F => ?_))
  obtain ⟨G1, F⟩ := F
  refine z_if_eq (pc := 5) (tgt := 27) dX11_aim_5 (by decide) (fun k12 => ?_) (fun k12 => ?_)
  · replace F := F.1 k12
    refine z_bipush (pc := 27) (v := -2) dX11_aim_27 (by decide) ?_
    exact q_retI (pc := 29) dX11_aim_29 rfl F
  · replace F := F.2 k12
    refine z_iload_n (pc := 8) dX11_aim_8 rfl rfl ?_
    refine z_iconst (pc := 9) (v := 1) dX11_aim_9 (by decide) ?_
    refine z_bipush (pc := 10) (v := 99) dX11_aim_10 (by decide) ?_
    refine q_invS (pc := 12) (As := [.int x2, .int 1, .int 99]) (st := []) dX11_aim_12 ok_X11_in ml_RX11_84 st_X11_in pa_X11_in ⟨Nat.le_of_ble_eq_true rfl, Nat.le_of_ble_eq_true rfl⟩ (q_kI F (fun vh2 h2 F => ?_))
    obtain ⟨G2, F⟩ := F
    refine z_if_eq (pc := 15) (tgt := 27) dX11_aim_15 (by decide) (fun k11 => ?_) (fun k11 => ?_)
    · replace F := F.1 k11
      refine z_bipush (pc := 27) (v := -2) dX11_aim_27 (by decide) ?_
      exact q_retI (pc := 29) dX11_aim_29 rfl F
    · replace F := F.2 k11
      refine z_iload_n (pc := 18) dX11_aim_18 rfl rfl ?_
      refine z_iconst (pc := 19) (v := 0) dX11_aim_19 (by decide) ?_
      refine z_iconst (pc := 20) (v := 2) dX11_aim_20 (by decide) ?_
      refine q_invS (pc := 21) (As := [.int x3, .int 0, .int 2]) (st := []) dX11_aim_21 ok_X11_in ml_RX11_84 st_X11_in pa_X11_in ⟨Nat.le_of_ble_eq_true rfl, Nat.le_of_ble_eq_true rfl⟩ (q_kI F (fun vh3 h3 F => ?_))
      obtain ⟨G3, F⟩ := F
      refine z_if_ne (pc := 24) (tgt := 30) dX11_aim_24 (by decide) (fun k10 => ?_) (fun k10 => ?_)
      · replace F := F.1 k10
        refine z_aload_n (pc := 30) dX11_aim_30 rfl rfl ?_
        refine z_iload_n (pc := 31) dX11_aim_31 rfl rfl ?_
        refine q_invV (pc := 32) (As := [.int x1]) (st := []) dX11_aim_32 ok_X11_isAlive ml_RX11_100 iv_X11_isAlive pa_X11_isAlive ⟨Nat.le_of_ble_eq_true rfl, Nat.le_of_ble_eq_true rfl⟩ (lyc rfl) (q_kI F (fun vh4 h4 F => ?_))
        obtain ⟨G4, F⟩ := F
        refine z_if_ne (pc := 35) (tgt := 41) dX11_aim_35 (by decide) (fun k9 => ?_) (fun k9 => ?_)
        · replace F := F.1 k9
          refine z_aload_n (pc := 41) dX11_aim_41 rfl rfl ?_
          refine z_iload_n (pc := 42) dX11_aim_42 rfl rfl ?_
          refine z_iload_n (pc := 43) dX11_aim_43 rfl rfl ?_
          refine z_iconst (pc := 44) (v := 0) dX11_aim_44 (by decide) ?_
          refine q_invV (pc := 45) (As := [.int x1, .int x2, .int 0]) (st := []) dX11_aim_45 ok_X11_leads ml_RX11_217 iv_X11_leads pa_X11_leads ⟨Nat.le_of_ble_eq_true rfl, Nat.le_of_ble_eq_true rfl⟩ (lyc rfl) (q_kV F (fun h5 F => ?_))
          obtain ⟨G5, F⟩ := F
          refine z_iload_n (pc := 48) dX11_aim_48 rfl rfl ?_
          refine z_if_ne (pc := 49) (tgt := 59) dX11_aim_49 (by decide) (fun k8 => ?_) (fun k8 => ?_)
          · replace F := F.1 k8
            refine z_iload_n (pc := 59) dX11_aim_59 rfl rfl ?_
            refine z_iconst (pc := 60) (v := 2) dX11_aim_60 (by decide) ?_
            refine z_icmp_ne (pc := 61) (tgt := 71) dX11_aim_61 (by decide) (fun k7 => ?_) (fun k7 => ?_)
            · replace F := F.1 k7
              refine z_aload_n (pc := 71) dX11_aim_71 rfl rfl ?_
              refine q_getI (pc := 72) (v := rI h5 164 15) dX11_aim_72 lk_RX11_210 (lyc rfl) rfl ?_
              refine z_if_eq (pc := 75) (tgt := 82) dX11_aim_75 (by decide) (fun k6 => ?_) (fun k6 => ?_)
              · replace F := F.1 k6
                refine z_aload_n (pc := 82) dX11_aim_82 rfl rfl ?_
                refine q_getI (pc := 83) (v := rI h5 164 12) dX11_aim_83 lk_RX11_204 (lyc rfl) rfl ?_
                exact q_retI (pc := 86) dX11_aim_86 rfl F
              · replace F := F.2 k6
                refine z_iconst (pc := 78) (v := 0) dX11_aim_78 (by decide) ?_
                refine z_goto (pc := 79) (tgt := 86) dX11_aim_79 (by decide) ?_
                exact q_retI (pc := 86) dX11_aim_86 rfl F
            · replace F := F.2 k7
              refine z_aload_n (pc := 64) dX11_aim_64 rfl rfl ?_
              refine q_getI (pc := 65) (v := rI h5 164 14) dX11_aim_65 lk_RX11_207 (lyc rfl) rfl ?_
              refine z_goto (pc := 68) (tgt := 86) dX11_aim_68 (by decide) ?_
              exact q_retI (pc := 86) dX11_aim_86 rfl F
          · replace F := F.2 k8
            refine z_aload_n (pc := 52) dX11_aim_52 rfl rfl ?_
            refine q_getI (pc := 53) (v := rI h5 164 11) dX11_aim_53 lk_RX11_201 (lyc rfl) rfl ?_
            refine z_goto (pc := 56) (tgt := 86) dX11_aim_56 (by decide) ?_
            exact q_retI (pc := 86) dX11_aim_86 rfl F
        · replace F := F.2 k9
          refine z_bipush (pc := 38) (v := -3) dX11_aim_38 (by decide) ?_
          exact q_retI (pc := 40) dX11_aim_40 rfl F
      · replace F := F.2 k10
        refine z_bipush (pc := 27) (v := -2) dX11_aim_27 (by decide) ?_
        exact q_retI (pc := 29) dX11_aim_29 rfl F
theorem g_X11_acts {x1 : Int32} {x2 : Int32} {h : zHp} {Q : zHp → Prop}  (G : zG h) (F : zcI M_X11_watcher [.ref 164, .int x1, .int 3] h (fun vh1 h1 => zG h1 ∧ ((¬ vh1 = -1 → (zcI M_X11_watcher [.ref 164, .int x1, .int 3] h1 (fun vh2 h2 => zG h2 ∧ (zlV M_X11_acts 20 [some (.ref 164), some (.int x1), some (.int x2), none, none, none] [.int vh2] h2 Q)))) ∧ (vh1 = -1 → (zlV M_X11_acts 20 [some (.ref 164), some (.int x1), some (.int x2), none, none, none] [.int x2] h1 Q))))) : zcV M_X11_acts [.ref 164, .int x1, .int x2] h Q := by
  show zw zNT zNT M_X11_acts 0 [some (.ref 164), some (.int x1), some (.int x2), none, none, none] [] h _
  refine z_aload_n (pc := 0) dX11_acts_0 rfl rfl ?_
  refine z_iload_n (pc := 1) dX11_acts_1 rfl rfl ?_
  refine z_iconst (pc := 2) (v := 3) dX11_acts_2 (by decide) ?_
  refine q_invV (pc := 3) (As := [.int x1, .int 3]) (st := []) dX11_acts_3 ok_X11_watcher ml_RX11_139 iv_X11_watcher pa_X11_watcher ⟨Nat.le_of_ble_eq_true rfl, Nat.le_of_ble_eq_true rfl⟩ (lyc rfl) (q_kI F (fun vh1 h1 F => ?_))
  obtain ⟨G1, F⟩ := F
  refine z_iconst (pc := 6) (v := -1) dX11_acts_6 (by decide) ?_
  refine z_icmp_ne (pc := 7) (tgt := 14) dX11_acts_7 (by decide) (fun k3 => ?_) (fun k3 => ?_)
  · replace F := F.1 k3
    refine z_aload_n (pc := 14) dX11_acts_14 rfl rfl ?_
    refine z_iload_n (pc := 15) dX11_acts_15 rfl rfl ?_
    refine z_iconst (pc := 16) (v := 3) dX11_acts_16 (by decide) ?_
    refine q_invV (pc := 17) (As := [.int x1, .int 3]) (st := []) dX11_acts_17 ok_X11_watcher ml_RX11_139 iv_X11_watcher pa_X11_watcher ⟨Nat.le_of_ble_eq_true rfl, Nat.le_of_ble_eq_true rfl⟩ (lyc rfl) (q_kI F (fun vh2 h2 F => ?_))
    obtain ⟨G2, F⟩ := F
    exact F
  · replace F := F.2 k3
    refine z_iload_n (pc := 10) dX11_acts_10 rfl rfl ?_
    refine z_goto (pc := 11) (tgt := 20) dX11_acts_11 (by decide) ?_
    exact F
theorem g_X11_acts_20 {x1 : Int32} {x2 : Int32} {xs0 : Int32} {h : zHp} {Q : zHp → Prop}  (G : zG h) (F : zcI M_X11_watcher [.ref 164, .int x1, .int 4] h (fun vh1 h1 => zG h1 ∧ ((¬ vh1 = 0 → (zlV M_X11_acts 52 [some (.ref 164), some (.int x1), some (.int x2), some (.int xs0), some (.int vh1), none] [] h1 Q)) ∧ (vh1 = 0 → ((x2 = -1 → (zlV M_X11_acts 52 [some (.ref 164), some (.int x1), some (.int x2), some (.int xs0), some (.int vh1), none] [] h1 Q)) ∧ (¬ (x2 = -1) → (zcV M_X11_makes [.ref 164, .int 5] h1 (fun h2 => zG h2 ∧ (zcI M_X11_isNow [.ref 164, .int x2, .int 2] h2 (fun vh3 h3 => zG h3 ∧ (zlV M_X11_acts 52 [some (.ref 164), some (.int x1), some (.int x2), some (.int xs0), some (.int vh3), none] [] h3 Q))))))))))) : zlV M_X11_acts 20 [some (.ref 164), some (.int x1), some (.int x2), none, none, none] [.int xs0] h Q := by
  refine z_istore_n (pc := 20) (ls' := [some (.ref 164), some (.int x1), some (.int x2), some (.int xs0), none, none]) dX11_acts_20 rfl (by decide) rfl ?_
  refine z_aload_n (pc := 21) dX11_acts_21 rfl rfl ?_
  refine z_iload_n (pc := 22) dX11_acts_22 rfl rfl ?_
  refine z_iconst (pc := 23) (v := 4) dX11_acts_23 (by decide) ?_
  refine q_invV (pc := 24) (As := [.int x1, .int 4]) (st := []) dX11_acts_24 ok_X11_watcher ml_RX11_139 iv_X11_watcher pa_X11_watcher ⟨Nat.le_of_ble_eq_true rfl, Nat.le_of_ble_eq_true rfl⟩ (lyc rfl) (q_kI F (fun vh1 h1 F => ?_))
  obtain ⟨G1, F⟩ := F
  refine z_istore (pc := 27) (ls' := [some (.ref 164), some (.int x1), some (.int x2), some (.int xs0), some (.int vh1), none]) dX11_acts_27 (by decide) rfl ?_
  refine z_iload (pc := 29) dX11_acts_29 rfl ?_
  refine z_if_ne (pc := 31) (tgt := 52) dX11_acts_31 (by decide) (fun k5 => ?_) (fun k5 => ?_)
  · replace F := F.1 k5
    exact F
  · replace F := F.2 k5
    refine z_iload_n (pc := 34) dX11_acts_34 rfl rfl ?_
    refine z_iconst (pc := 35) (v := -1) dX11_acts_35 (by decide) ?_
    refine z_icmp_eq (pc := 36) (tgt := 52) dX11_acts_36 (by decide) (fun k4 => ?_) (fun k4 => ?_)
    · replace F := F.1 k4
      exact F
    · replace F := F.2 k4
      refine z_aload_n (pc := 39) dX11_acts_39 rfl rfl ?_
      refine z_iconst (pc := 40) (v := 5) dX11_acts_40 (by decide) ?_
      refine q_invV (pc := 41) (As := [.int 5]) (st := []) dX11_acts_41 ok_X11_makes ml_RX11_145 iv_X11_makes pa_X11_makes ⟨Nat.le_of_ble_eq_true rfl, Nat.le_of_ble_eq_true rfl⟩ (lyc rfl) (q_kV F (fun h2 F => ?_))
      obtain ⟨G2, F⟩ := F
      refine z_aload_n (pc := 44) dX11_acts_44 rfl rfl ?_
      refine z_iload_n (pc := 45) dX11_acts_45 rfl rfl ?_
      refine z_iconst (pc := 46) (v := 2) dX11_acts_46 (by decide) ?_
      refine q_invV (pc := 47) (As := [.int x2, .int 2]) (st := []) dX11_acts_47 ok_X11_isNow ml_RX11_170 iv_X11_isNow pa_X11_isNow ⟨Nat.le_of_ble_eq_true rfl, Nat.le_of_ble_eq_true rfl⟩ (lyc rfl) (q_kI F (fun vh3 h3 F => ?_))
      obtain ⟨G3, F⟩ := F
      refine z_istore (pc := 50) (ls' := [some (.ref 164), some (.int x1), some (.int x2), some (.int xs0), some (.int vh3), none]) dX11_acts_50 (by decide) rfl ?_
      exact F
theorem g_X11_acts_52 {x1 : Int32} {x2 : Int32} {x3 : Int32} {x4 : Int32} {h : zHp} {Q : zHp → Prop}  (G : zG h) (F : (x4 ≤ 0 → (Q h)) ∧ (¬ (x4 ≤ 0) → (zcI M_X11_isAlive [.ref 164, .int x3] h (fun vh1 h1 => zG h1 ∧ ((¬ vh1 = 0 → (zcI M_X11_watcher [.ref 164, .int x1, .int 2] h1 (fun vh2 h2 => zG h2 ∧ ((vh2 = 0 → (zcV M_X11_hurts [.ref 164, .int x3, .int x4] h2 (fun h3 => zG h3 ∧ (Q h3)))) ∧ (¬ vh2 = 0 → ((vh2 = 1 → (zcV M_X11_wounds [.ref 164, .int x3, .int (-x4)] h2 (fun h4 => zG h4 ∧ (Q h4)))) ∧ (¬ vh2 = 1 → (zlV M_X11_acts 124 [some (.ref 164), some (.int x1), some (.int x2), some (.int x3), some (.int x4), some (.int 2)] [] h2 Q)))))))) ∧ (vh1 = 0 → (Q h1))))))) : zlV M_X11_acts 52 [some (.ref 164), some (.int x1), some (.int x2), some (.int x3), some (.int x4), none] [] h Q := by
  refine z_iload (pc := 52) dX11_acts_52 rfl ?_
  refine z_if_le (pc := 54) (tgt := 65) dX11_acts_54 (by decide) (fun k8 => ?_) (fun k8 => ?_)
  · replace F := F.1 k8
    exact q_retV (pc := 65) dX11_acts_65 rfl F
  · replace F := F.2 k8
    refine z_aload_n (pc := 57) dX11_acts_57 rfl rfl ?_
    refine z_iload_n (pc := 58) dX11_acts_58 rfl rfl ?_
    refine q_invV (pc := 59) (As := [.int x3]) (st := []) dX11_acts_59 ok_X11_isAlive ml_RX11_100 iv_X11_isAlive pa_X11_isAlive ⟨Nat.le_of_ble_eq_true rfl, Nat.le_of_ble_eq_true rfl⟩ (lyc rfl) (q_kI F (fun vh1 h1 F => ?_))
    obtain ⟨G1, F⟩ := F
    refine z_if_ne (pc := 62) (tgt := 66) dX11_acts_62 (by decide) (fun k7 => ?_) (fun k7 => ?_)
    · replace F := F.1 k7
      refine z_aload_n (pc := 66) dX11_acts_66 rfl rfl ?_
      refine z_iload_n (pc := 67) dX11_acts_67 rfl rfl ?_
      refine z_iconst (pc := 68) (v := 2) dX11_acts_68 (by decide) ?_
      refine q_invV (pc := 69) (As := [.int x1, .int 2]) (st := []) dX11_acts_69 ok_X11_watcher ml_RX11_139 iv_X11_watcher pa_X11_watcher ⟨Nat.le_of_ble_eq_true rfl, Nat.le_of_ble_eq_true rfl⟩ (lyc rfl) (q_kI F (fun vh2 h2 F => ?_))
      obtain ⟨G2, F⟩ := F
      by_cases k3 : vh2 = 0
      · replace F := F.1 k3
        refine z_lookup (pc := 72) (x := vh2) (tgt := 100) (off := 28) dX11_acts_72 (by decide) (by rw [k3]; decide) (by decide) ?_
        refine z_aload_n (pc := 100) dX11_acts_100 rfl rfl ?_
        refine z_iload_n (pc := 101) dX11_acts_101 rfl rfl ?_
        refine z_iload (pc := 102) dX11_acts_102 rfl ?_
        refine q_invV (pc := 104) (As := [.int x3, .int x4]) (st := []) dX11_acts_104 ok_X11_hurts ml_RX11_224 iv_X11_hurts pa_X11_hurts ⟨Nat.le_of_ble_eq_true rfl, Nat.le_of_ble_eq_true rfl⟩ (lyc rfl) (q_kV F (fun h3 F => ?_))
        obtain ⟨G3, F⟩ := F
        refine z_goto (pc := 107) (tgt := 180) dX11_acts_107 (by decide) ?_
        exact q_retV (pc := 180) dX11_acts_180 rfl F
      · replace F := F.2 k3
        by_cases k5 : vh2 = 1
        · replace F := F.1 k5
          refine z_lookup (pc := 72) (x := vh2) (tgt := 110) (off := 38) dX11_acts_72 (by decide) (by rw [k5]; decide) (by decide) ?_
          refine z_aload_n (pc := 110) dX11_acts_110 rfl rfl ?_
          refine z_iload_n (pc := 111) dX11_acts_111 rfl rfl ?_
          refine z_iload (pc := 112) dX11_acts_112 rfl ?_
          refine z_ineg (pc := 114) dX11_acts_114 ?_
          refine q_invV (pc := 115) (As := [.int x3, .int (-x4)]) (st := []) dX11_acts_115 ok_X11_wounds ml_RX11_221 iv_X11_wounds pa_X11_wounds ⟨Nat.le_of_ble_eq_true rfl, Nat.le_of_ble_eq_true rfl⟩ (lyc rfl) (q_kV F (fun h4 F => ?_))
          obtain ⟨G4, F⟩ := F
          refine z_goto (pc := 118) (tgt := 180) dX11_acts_118 (by decide) ?_
          exact q_retV (pc := 180) dX11_acts_180 rfl F
        · replace F := F.2 k5
          refine z_lookup (pc := 72) (tgt := 121) (off := 49) dX11_acts_72 (by decide) (by simp [Op.lookupswitch.offset, (q_sw (0) k3 (by decide)).symm, (q_sw (1) k5 (by decide)).symm]) (by decide) ?_
          refine z_iconst (pc := 121) (v := 2) dX11_acts_121 (by decide) ?_
          refine z_istore (pc := 122) (ls' := [some (.ref 164), some (.int x1), some (.int x2), some (.int x3), some (.int x4), some (.int 2)]) dX11_acts_122 (by decide) rfl ?_
          exact F
    · replace F := F.2 k7
      exact q_retV (pc := 65) dX11_acts_65 rfl F
theorem g_X11_acts_124 {x1 : Int32} {x2 : Int32} {x3 : Int32} {x4 : Int32} {x5 : Int32} {h : zHp} {Q : zHp → Prop}  (G : zG h) (F : (4 ≤ x5 → (Q h)) ∧ (¬ (4 ≤ x5) → (zcI M_X11_its [.ref 164, .int x3, .int x5] h (fun vh1 h1 => zG h1 ∧ ((vh1 + x4 ≤ 99 → (zcI M_X11_its [.ref 164, .int x3, .int x5] h1 (fun vh2 h2 => zG h2 ∧ (vp_in ((0 + (10 * x3)) + x5) 246 ∧ (zlV M_X11_acts 124 [some (.ref 164), some (.int x1), some (.int x2), some (.int x3), some (.int x4), some (.int (x5 + 1))] [] (wI h2 165 ((Int32.toNatClampNeg ((0 + (10 * x3)) + x5))) (vh2 + x4)) Q))))) ∧ (¬ (vh1 + x4 ≤ 99) → (vp_in ((0 + (10 * x3)) + x5) 246 ∧ (zlV M_X11_acts 124 [some (.ref 164), some (.int x1), some (.int x2), some (.int x3), some (.int x4), some (.int (x5 + 1))] [] (wI h1 165 ((Int32.toNatClampNeg ((0 + (10 * x3)) + x5))) 99) Q)))))))) : zlV M_X11_acts 124 [some (.ref 164), some (.int x1), some (.int x2), some (.int x3), some (.int x4), some (.int x5)] [] h Q := by
  refine z_iload (pc := 124) dX11_acts_124 rfl ?_
  refine z_iconst (pc := 126) (v := 4) dX11_acts_126 (by decide) ?_
  refine z_icmp_ge (pc := 127) (tgt := 180) dX11_acts_127 (by decide) (fun k6 => ?_) (fun k6 => ?_)
  · replace F := F.1 k6
    exact q_retV (pc := 180) dX11_acts_180 rfl F
  · replace F := F.2 k6
    refine z_aload_n (pc := 130) dX11_acts_130 rfl rfl ?_
    refine q_getR (pc := 131) (i := 165) dX11_acts_131 lk_RX11_7 (lyc rfl) (G 164 0 165 rfl) ?_
    refine z_iconst (pc := 134) (v := 0) dX11_acts_134 (by decide) ?_
    refine z_bipush (pc := 135) (v := 10) dX11_acts_135 (by decide) ?_
    refine z_iload_n (pc := 137) dX11_acts_137 rfl rfl ?_
    refine z_imul (pc := 138) dX11_acts_138 ?_
    refine z_iadd (pc := 139) dX11_acts_139 ?_
    refine z_iload (pc := 140) dX11_acts_140 rfl ?_
    refine z_iadd (pc := 142) dX11_acts_142 ?_
    refine z_aload_n (pc := 143) dX11_acts_143 rfl rfl ?_
    refine z_iload_n (pc := 144) dX11_acts_144 rfl rfl ?_
    refine z_iload (pc := 145) dX11_acts_145 rfl ?_
    refine q_invV (pc := 147) (As := [.int x3, .int x5]) (st := [.int ((0 + (10 * x3)) + x5), .ref 165]) dX11_acts_147 ok_X11_its ml_RX11_92 iv_X11_its pa_X11_its ⟨Nat.le_of_ble_eq_true rfl, Nat.le_of_ble_eq_true rfl⟩ (lyc rfl) (q_kI F (fun vh1 h1 F => ?_))
    obtain ⟨G1, F⟩ := F
    refine z_iload (pc := 150) dX11_acts_150 rfl ?_
    refine z_iadd (pc := 152) dX11_acts_152 ?_
    refine z_bipush (pc := 153) (v := 99) dX11_acts_153 (by decide) ?_
    refine z_icmp_le (pc := 155) (tgt := 163) dX11_acts_155 (by decide) (fun k5 => ?_) (fun k5 => ?_)
    · replace F := F.1 k5
      refine z_aload_n (pc := 163) dX11_acts_163 rfl rfl ?_
      refine z_iload_n (pc := 164) dX11_acts_164 rfl rfl ?_
      refine z_iload (pc := 165) dX11_acts_165 rfl ?_
      refine q_invV (pc := 167) (As := [.int x3, .int x5]) (st := [.int ((0 + (10 * x3)) + x5), .ref 165]) dX11_acts_167 ok_X11_its ml_RX11_92 iv_X11_its pa_X11_its ⟨Nat.le_of_ble_eq_true rfl, Nat.le_of_ble_eq_true rfl⟩ (lyc rfl) (q_kI F (fun vh2 h2 F => ?_))
      obtain ⟨G2, F⟩ := F
      refine z_iload (pc := 170) dX11_acts_170 rfl ?_
      refine z_iadd (pc := 172) dX11_acts_172 ?_
      obtain ⟨k3, F⟩ := F
      refine q_iast (pc := 173) (j := (Int32.toNatClampNeg ((0 + (10 * x3)) + x5))) dX11_acts_173 (lyc rfl) (zvn (lnc rfl) k3) rfl ?_
      refine z_iinc (pc := 174) (v := x5 + 1) (ls' := [some (.ref 164), some (.int x1), some (.int x2), some (.int x3), some (.int x4), some (.int (x5 + 1))]) dX11_acts_174 (by decide) rfl rfl rfl ?_
      refine z_goto (pc := 177) (tgt := 124) dX11_acts_177 (by decide) ?_
      exact F
    · replace F := F.2 k5
      refine z_bipush (pc := 158) (v := 99) dX11_acts_158 (by decide) ?_
      refine z_goto (pc := 160) (tgt := 173) dX11_acts_160 (by decide) ?_
      obtain ⟨k4, F⟩ := F
      refine q_iast (pc := 173) (j := (Int32.toNatClampNeg ((0 + (10 * x3)) + x5))) dX11_acts_173 (lyc rfl) (zvn (lnc rfl) k4) rfl ?_
      refine z_iinc (pc := 174) (v := x5 + 1) (ls' := [some (.ref 164), some (.int x1), some (.int x2), some (.int x3), some (.int x4), some (.int (x5 + 1))]) dX11_acts_174 (by decide) rfl rfl rfl ?_
      refine z_goto (pc := 177) (tgt := 124) dX11_acts_177 (by decide) ?_
      exact F
theorem g_X11_goesThrough  {h : zHp} {Q : Int32 → zHp → Prop}  (G : zG h) (F : (rI h 164 10 ≤ 0 → (Q (rI h 164 16) h)) ∧ (¬ (rI h 164 10 ≤ 0) → ((¬ rI h 164 16 = 40 → (vp_in (2 * ((rI h 164 10) - 1)) 1024 ∧ (vp_in (rI h 164 16) 41 ∧ (vp_in ((2 * ((rI h 164 10) - 1)) + 1) 1024 ∧ (zcV M_X11_acts [.ref 164, .int (rI h 171 ((Int32.toNatClampNeg (2 * ((rI h 164 10) - 1))))), .int (rI h 171 ((Int32.toNatClampNeg ((2 * ((rI h 164 10) - 1)) + 1))))] (wI (wI (wI h 164 10 ((rI h 164 10) - 1)) 172 ((Int32.toNatClampNeg (rI h 164 16))) (rI h 171 ((Int32.toNatClampNeg (2 * ((rI h 164 10) - 1)))))) 164 16 ((rI h 164 16) + 1)) (fun h1 => zG h1 ∧ (zcV M_X11_rounds [.ref 164] h1 (fun h2 => zG h2 ∧ (zlI M_X11_goesThrough 0 [some (.ref 164), none] [] h2 Q))))))))) ∧ (rI h 164 16 = 40 → (zcV M_X11_copies [.ref 167, .ref 165] h (fun h3 => zG h3 ∧ (zlI M_X11_goesThrough 37 [some (.ref 164), some (.int 0)] [] (wI h3 164 19 (rI h3 164 16)) Q))))))) : zcI M_X11_goesThrough [.ref 164] h Q := by
  show zw zNT zNT M_X11_goesThrough 0 [some (.ref 164), none] [] h _
  refine z_aload_n (pc := 0) dX11_goesThrough_0 rfl rfl ?_
  refine q_getI (pc := 1) (v := rI h 164 10) dX11_goesThrough_1 lk_RX11_142 (lyc rfl) rfl ?_
  refine z_if_le (pc := 4) (tgt := 141) dX11_goesThrough_4 (by decide) (fun k8 => ?_) (fun k8 => ?_)
  · replace F := F.1 k8
    refine z_aload_n (pc := 141) dX11_goesThrough_141 rfl rfl ?_
    refine q_getI (pc := 142) (v := rI h 164 16) dX11_goesThrough_142 lk_RX11_227 (lyc rfl) rfl ?_
    exact q_retI (pc := 145) dX11_goesThrough_145 rfl F
  · replace F := F.2 k8
    refine z_aload_n (pc := 7) dX11_goesThrough_7 rfl rfl ?_
    refine q_getI (pc := 8) (v := rI h 164 16) dX11_goesThrough_8 lk_RX11_227 (lyc rfl) rfl ?_
    refine z_bipush (pc := 11) (v := 40) dX11_goesThrough_11 (by decide) ?_
    refine z_icmp_ne (pc := 13) (tgt := 66) dX11_goesThrough_13 (by decide) (fun k7 => ?_) (fun k7 => ?_)
    · replace F := F.1 k7
      refine z_aload_n (pc := 66) dX11_goesThrough_66 rfl rfl ?_
      refine z_dup (pc := 67) dX11_goesThrough_67 rfl ?_
      refine q_getI (pc := 68) (v := rI h 164 10) dX11_goesThrough_68 lk_RX11_142 (lyc rfl) rfl ?_
      refine z_iconst (pc := 71) (v := 1) dX11_goesThrough_71 (by decide) ?_
      refine z_isub (pc := 72) dX11_goesThrough_72 ?_
      refine q_putI (pc := 73) dX11_goesThrough_73 lk_RX11_142 (lyc rfl) ?_
      refine z_aload_n (pc := 76) dX11_goesThrough_76 rfl rfl ?_
      refine q_getR (pc := 77) (i := 172) dX11_goesThrough_77 lk_RX11_31 (lyc rfl) (G 164 17 172 rfl) ?_
      refine z_aload_n (pc := 80) dX11_goesThrough_80 rfl rfl ?_
      refine q_getI (pc := 81) (v := rI h 164 16) dX11_goesThrough_81 lk_RX11_227 (lyc rfl) (rI_k (by decide)) ?_
      refine z_aload_n (pc := 84) dX11_goesThrough_84 rfl rfl ?_
      refine q_getR (pc := 85) (i := 171) dX11_goesThrough_85 lk_RX11_28 (lyc rfl) (G 164 9 171 rfl) ?_
      refine z_iconst (pc := 88) (v := 2) dX11_goesThrough_88 (by decide) ?_
      refine z_aload_n (pc := 89) dX11_goesThrough_89 rfl rfl ?_
      refine q_getI (pc := 90) (v := (rI h 164 10) - 1) dX11_goesThrough_90 lk_RX11_142 (lyc rfl) rI_s ?_
      refine z_imul (pc := 93) dX11_goesThrough_93 ?_
      obtain ⟨k1, F⟩ := F
      refine q_iald (pc := 94) (j := (Int32.toNatClampNeg (2 * ((rI h 164 10) - 1)))) (v := rI h 171 ((Int32.toNatClampNeg (2 * ((rI h 164 10) - 1))))) dX11_goesThrough_94 (lyc rfl) (zvn (lnc rfl) k1) rfl (rI_c (by decide)) ?_
      obtain ⟨k2, F⟩ := F
      refine q_iast (pc := 95) (j := (Int32.toNatClampNeg (rI h 164 16))) dX11_goesThrough_95 (lyc rfl) (zvn (lnc rfl) k2) rfl ?_
      refine z_aload_n (pc := 96) dX11_goesThrough_96 rfl rfl ?_
      refine z_dup (pc := 97) dX11_goesThrough_97 rfl ?_
      refine q_getI (pc := 98) (v := rI h 164 16) dX11_goesThrough_98 lk_RX11_227 (lyc rfl) ((rI_c (by decide)).trans (rI_k (by decide))) ?_
      refine z_iconst (pc := 101) (v := 1) dX11_goesThrough_101 (by decide) ?_
      refine z_iadd (pc := 102) dX11_goesThrough_102 ?_
      refine q_putI (pc := 103) dX11_goesThrough_103 lk_RX11_227 (lyc rfl) ?_
      refine z_aload_n (pc := 106) dX11_goesThrough_106 rfl rfl ?_
      refine z_aload_n (pc := 107) dX11_goesThrough_107 rfl rfl ?_
      refine q_getR (pc := 108) (i := 171) dX11_goesThrough_108 lk_RX11_28 (lyc rfl) (G 164 9 171 rfl) ?_
      refine z_iconst (pc := 111) (v := 2) dX11_goesThrough_111 (by decide) ?_
      refine z_aload_n (pc := 112) dX11_goesThrough_112 rfl rfl ?_
      refine q_getI (pc := 113) (v := (rI h 164 10) - 1) dX11_goesThrough_113 lk_RX11_142 (lyc rfl) (((rI_k (by decide)).trans (rI_c (by decide))).trans rI_s) ?_
      refine z_imul (pc := 116) dX11_goesThrough_116 ?_
      refine q_iald (pc := 117) (j := (Int32.toNatClampNeg (2 * ((rI h 164 10) - 1)))) (v := rI h 171 ((Int32.toNatClampNeg (2 * ((rI h 164 10) - 1))))) dX11_goesThrough_117 (lyc rfl) (zvn (lnc rfl) k1) rfl (((rI_c (by decide)).trans (rI_c (by decide))).trans (rI_c (by decide))) ?_
      refine z_aload_n (pc := 118) dX11_goesThrough_118 rfl rfl ?_
      refine q_getR (pc := 119) (i := 171) dX11_goesThrough_119 lk_RX11_28 (lyc rfl) (G 164 9 171 rfl) ?_
      refine z_iconst (pc := 122) (v := 2) dX11_goesThrough_122 (by decide) ?_
      refine z_aload_n (pc := 123) dX11_goesThrough_123 rfl rfl ?_
      refine q_getI (pc := 124) (v := (rI h 164 10) - 1) dX11_goesThrough_124 lk_RX11_142 (lyc rfl) (((rI_k (by decide)).trans (rI_c (by decide))).trans rI_s) ?_
      refine z_imul (pc := 127) dX11_goesThrough_127 ?_
      refine z_iconst (pc := 128) (v := 1) dX11_goesThrough_128 (by decide) ?_
      refine z_iadd (pc := 129) dX11_goesThrough_129 ?_
      obtain ⟨k3, F⟩ := F
      refine q_iald (pc := 130) (j := (Int32.toNatClampNeg ((2 * ((rI h 164 10) - 1)) + 1))) (v := rI h 171 ((Int32.toNatClampNeg ((2 * ((rI h 164 10) - 1)) + 1)))) dX11_goesThrough_130 (lyc rfl) (zvn (lnc rfl) k3) rfl (((rI_c (by decide)).trans (rI_c (by decide))).trans (rI_c (by decide))) ?_
      refine q_invV (pc := 131) (As := [.int (rI h 171 ((Int32.toNatClampNeg (2 * ((rI h 164 10) - 1))))), .int (rI h 171 ((Int32.toNatClampNeg ((2 * ((rI h 164 10) - 1)) + 1))))]) (st := []) dX11_goesThrough_131 ok_X11_acts ml_RX11_234 iv_X11_acts pa_X11_acts ⟨Nat.le_of_ble_eq_true rfl, Nat.le_of_ble_eq_true rfl⟩ (lyc rfl) (q_kV F (fun h1 F => ?_))
      obtain ⟨G1, F⟩ := F
      refine z_aload_n (pc := 134) dX11_goesThrough_134 rfl rfl ?_
      refine q_invV (pc := 135) (As := []) (st := []) dX11_goesThrough_135 ok_X11_rounds ml_RX11_153 iv_X11_rounds pa_X11_rounds ⟨Nat.le_of_ble_eq_true rfl, Nat.le_of_ble_eq_true rfl⟩ (lyc rfl) (q_kV F (fun h2 F => ?_))
      obtain ⟨G2, F⟩ := F
      refine z_goto (pc := 138) (tgt := 0) dX11_goesThrough_138 (by decide) ?_
      exact F
    · replace F := F.2 k7
      refine z_aload_n (pc := 16) dX11_goesThrough_16 rfl rfl ?_
      refine q_getR (pc := 17) (i := 167) dX11_goesThrough_17 lk_RX11_16 (lyc rfl) (G 164 2 167 rfl) ?_
      refine z_aload_n (pc := 20) dX11_goesThrough_20 rfl rfl ?_
      refine q_getR (pc := 21) (i := 165) dX11_goesThrough_21 lk_RX11_7 (lyc rfl) (G 164 0 165 rfl) ?_
      refine q_invS (pc := 24) (As := [.ref 167, .ref 165]) (st := []) dX11_goesThrough_24 ok_X11_copies ml_RX11_230 st_X11_copies pa_X11_copies ⟨Nat.le_of_ble_eq_true rfl, Nat.le_of_ble_eq_true rfl⟩ (q_kV F (fun h3 F => ?_))
      obtain ⟨G3, F⟩ := F
      refine z_aload_n (pc := 27) dX11_goesThrough_27 rfl rfl ?_
      refine z_aload_n (pc := 28) dX11_goesThrough_28 rfl rfl ?_
      refine q_getI (pc := 29) (v := rI h3 164 16) dX11_goesThrough_29 lk_RX11_227 (lyc rfl) rfl ?_
      refine q_putI (pc := 32) dX11_goesThrough_32 lk_RX11_156 (lyc rfl) ?_
      refine z_iconst (pc := 35) (v := 0) dX11_goesThrough_35 (by decide) ?_
      refine z_istore_n (pc := 36) (ls' := [some (.ref 164), some (.int 0)]) dX11_goesThrough_36 rfl (by decide) rfl ?_
      exact F
theorem g_X11_goesThrough_37 {x1 : Int32} {h : zHp} {Q : Int32 → zHp → Prop}  (G : zG h) (F : (rI h 164 16 ≤ x1 → (Q (-5) h)) ∧ (¬ (rI h 164 16 ≤ x1) → (vp_in x1 41 ∧ (zlI M_X11_goesThrough 37 [some (.ref 164), some (.int (x1 + 1))] [] (wI h 173 ((Int32.toNatClampNeg x1)) (rI h 172 ((Int32.toNatClampNeg x1)))) Q)))) : zlI M_X11_goesThrough 37 [some (.ref 164), some (.int x1)] [] h Q := by
  refine z_iload_n (pc := 37) dX11_goesThrough_37 rfl rfl ?_
  refine z_aload_n (pc := 38) dX11_goesThrough_38 rfl rfl ?_
  refine q_getI (pc := 39) (v := rI h 164 16) dX11_goesThrough_39 lk_RX11_227 (lyc rfl) rfl ?_
  refine z_icmp_ge (pc := 42) (tgt := 63) dX11_goesThrough_42 (by decide) (fun k2 => ?_) (fun k2 => ?_)
  · replace F := F.1 k2
    refine z_bipush (pc := 63) (v := -5) dX11_goesThrough_63 (by decide) ?_
    exact q_retI (pc := 65) dX11_goesThrough_65 rfl F
  · replace F := F.2 k2
    refine z_aload_n (pc := 45) dX11_goesThrough_45 rfl rfl ?_
    refine q_getR (pc := 46) (i := 173) dX11_goesThrough_46 lk_RX11_34 (lyc rfl) (G 164 18 173 rfl) ?_
    refine z_iload_n (pc := 49) dX11_goesThrough_49 rfl rfl ?_
    refine z_aload_n (pc := 50) dX11_goesThrough_50 rfl rfl ?_
    refine q_getR (pc := 51) (i := 172) dX11_goesThrough_51 lk_RX11_31 (lyc rfl) (G 164 17 172 rfl) ?_
    refine z_iload_n (pc := 54) dX11_goesThrough_54 rfl rfl ?_
    obtain ⟨k1, F⟩ := F
    refine q_iald (pc := 55) (j := (Int32.toNatClampNeg x1)) (v := rI h 172 ((Int32.toNatClampNeg x1))) dX11_goesThrough_55 (lyc rfl) (zvn (lnc rfl) k1) rfl rfl ?_
    refine q_iast (pc := 56) (j := (Int32.toNatClampNeg x1)) dX11_goesThrough_56 (lyc rfl) (zvn (lnc rfl) k1) rfl ?_
    refine z_iinc (pc := 57) (v := x1 + 1) (ls' := [some (.ref 164), some (.int (x1 + 1))]) dX11_goesThrough_57 (by decide) rfl rfl rfl ?_
    refine z_goto (pc := 60) (tgt := 37) dX11_goesThrough_60 (by decide) ?_
    exact F
theorem g_X11_begins  {h : zHp} {Q : zHp → Prop}  (G : zG h) (F : zcV M_X11_copies [.ref 165, .ref 167] h (fun h1 => zG h1 ∧ (Q (wI (wI (wI h1 164 8 1) 164 10 0) 164 16 0)))) : zcV M_X11_begins [.ref 164] h Q := by
  show zw zNT zNT M_X11_begins 0 [some (.ref 164)] [] h _
  refine z_aload_n (pc := 0) dX11_begins_0 rfl rfl ?_
  refine q_getR (pc := 1) (i := 165) dX11_begins_1 lk_RX11_7 (lyc rfl) (G 164 0 165 rfl) ?_
  refine z_aload_n (pc := 4) dX11_begins_4 rfl rfl ?_
  refine q_getR (pc := 5) (i := 167) dX11_begins_5 lk_RX11_16 (lyc rfl) (G 164 2 167 rfl) ?_
  refine q_invS (pc := 8) (As := [.ref 165, .ref 167]) (st := []) dX11_begins_8 ok_X11_copies ml_RX11_230 st_X11_copies pa_X11_copies ⟨Nat.le_of_ble_eq_true rfl, Nat.le_of_ble_eq_true rfl⟩ (q_kV F (fun h1 F => ?_))
  obtain ⟨G1, F⟩ := F
  refine z_aload_n (pc := 11) dX11_begins_11 rfl rfl ?_
  refine z_iconst (pc := 12) (v := 1) dX11_begins_12 (by decide) ?_
  refine q_putB (pc := 13) dX11_begins_13 lk_RX11_135 (lyc rfl) (Or.inr rfl) ?_
  refine z_aload_n (pc := 16) dX11_begins_16 rfl rfl ?_
  refine z_iconst (pc := 17) (v := 0) dX11_begins_17 (by decide) ?_
  refine q_putI (pc := 18) dX11_begins_18 lk_RX11_142 (lyc rfl) ?_
  refine z_aload_n (pc := 21) dX11_begins_21 rfl rfl ?_
  refine z_iconst (pc := 22) (v := 0) dX11_begins_22 (by decide) ?_
  refine q_putI (pc := 23) dX11_begins_23 lk_RX11_227 (lyc rfl) ?_
  exact q_retV (pc := 26) dX11_begins_26 rfl F
theorem g_X11_hurt {x1 : Int32} {x2 : Int32} {h : zHp} {Q : Int32 → zHp → Prop}  (G : zG h) (F : zcI M_X11_isThing [.ref 164, .int x1] h (fun vh1 h1 => zG h1 ∧ ((vh1 = 0 → (Q (-2) h1)) ∧ (¬ (vh1 = 0) → (zcI M_X11_in [.int x2, .int 1, .int 99] h1 (fun vh2 h2 => zG h2 ∧ ((¬ vh2 = 0 → (zcI M_X11_isAlive [.ref 164, .int x1] h2 (fun vh3 h3 => zG h3 ∧ ((¬ vh3 = 0 → (zcV M_X11_begins [.ref 164] h3 (fun h4 => zG h4 ∧ (zcV M_X11_hurts [.ref 164, .int x1, .int x2] h4 (fun h5 => zG h5 ∧ (zcI M_X11_goesThrough [.ref 164] h5 (fun vh6 h6 => zG h6 ∧ (Q vh6 h6)))))))) ∧ (vh3 = 0 → (Q (-3) h3)))))) ∧ (vh2 = 0 → (Q (-2) h2))))))))) : zcI M_X11_hurt [.ref 164, .int x1, .int x2] h Q := by
  show zw zNT zNT M_X11_hurt 0 [some (.ref 164), some (.int x1), some (.int x2)] [] h _
  refine z_aload_n (pc := 0) dX11_hurt_0 rfl rfl ?_
  refine z_iload_n (pc := 1) dX11_hurt_1 rfl rfl ?_
  refine q_invV (pc := 2) (As := [.int x1]) (st := []) dX11_hurt_2 ok_X11_isThing ml_RX11_88 iv_X11_isThing pa_X11_isThing ⟨Nat.le_of_ble_eq_true rfl, Nat.le_of_ble_eq_true rfl⟩ (lyc rfl) (q_kI F (fun vh1 h1 F => ?_))
  obtain ⟨G1, F⟩ := F
  refine z_if_eq (pc := 5) (tgt := 18) dX11_hurt_5 (by decide) (fun k9 => ?_) (fun k9 => ?_)
  · replace F := F.1 k9
    refine z_bipush (pc := 18) (v := -2) dX11_hurt_18 (by decide) ?_
    exact q_retI (pc := 20) dX11_hurt_20 rfl F
  · replace F := F.2 k9
    refine z_iload_n (pc := 8) dX11_hurt_8 rfl rfl ?_
    refine z_iconst (pc := 9) (v := 1) dX11_hurt_9 (by decide) ?_
    refine z_bipush (pc := 10) (v := 99) dX11_hurt_10 (by decide) ?_
    refine q_invS (pc := 12) (As := [.int x2, .int 1, .int 99]) (st := []) dX11_hurt_12 ok_X11_in ml_RX11_84 st_X11_in pa_X11_in ⟨Nat.le_of_ble_eq_true rfl, Nat.le_of_ble_eq_true rfl⟩ (q_kI F (fun vh2 h2 F => ?_))
    obtain ⟨G2, F⟩ := F
    refine z_if_ne (pc := 15) (tgt := 21) dX11_hurt_15 (by decide) (fun k8 => ?_) (fun k8 => ?_)
    · replace F := F.1 k8
      refine z_aload_n (pc := 21) dX11_hurt_21 rfl rfl ?_
      refine z_iload_n (pc := 22) dX11_hurt_22 rfl rfl ?_
      refine q_invV (pc := 23) (As := [.int x1]) (st := []) dX11_hurt_23 ok_X11_isAlive ml_RX11_100 iv_X11_isAlive pa_X11_isAlive ⟨Nat.le_of_ble_eq_true rfl, Nat.le_of_ble_eq_true rfl⟩ (lyc rfl) (q_kI F (fun vh3 h3 F => ?_))
      obtain ⟨G3, F⟩ := F
      refine z_if_ne (pc := 26) (tgt := 32) dX11_hurt_26 (by decide) (fun k7 => ?_) (fun k7 => ?_)
      · replace F := F.1 k7
        refine z_aload_n (pc := 32) dX11_hurt_32 rfl rfl ?_
        refine q_invV (pc := 33) (As := []) (st := []) dX11_hurt_33 ok_X11_begins ml_RX11_236 iv_X11_begins pa_X11_begins ⟨Nat.le_of_ble_eq_true rfl, Nat.le_of_ble_eq_true rfl⟩ (lyc rfl) (q_kV F (fun h4 F => ?_))
        obtain ⟨G4, F⟩ := F
        refine z_aload_n (pc := 36) dX11_hurt_36 rfl rfl ?_
        refine z_iload_n (pc := 37) dX11_hurt_37 rfl rfl ?_
        refine z_iload_n (pc := 38) dX11_hurt_38 rfl rfl ?_
        refine q_invV (pc := 39) (As := [.int x1, .int x2]) (st := []) dX11_hurt_39 ok_X11_hurts ml_RX11_224 iv_X11_hurts pa_X11_hurts ⟨Nat.le_of_ble_eq_true rfl, Nat.le_of_ble_eq_true rfl⟩ (lyc rfl) (q_kV F (fun h5 F => ?_))
        obtain ⟨G5, F⟩ := F
        refine z_aload_n (pc := 42) dX11_hurt_42 rfl rfl ?_
        refine q_invV (pc := 43) (As := []) (st := []) dX11_hurt_43 ok_X11_goesThrough ml_RX11_239 iv_X11_goesThrough pa_X11_goesThrough ⟨Nat.le_of_ble_eq_true rfl, Nat.le_of_ble_eq_true rfl⟩ (lyc rfl) (q_kI F (fun vh6 h6 F => ?_))
        obtain ⟨G6, F⟩ := F
        exact q_retI (pc := 46) dX11_hurt_46 rfl F
      · replace F := F.2 k7
        refine z_bipush (pc := 29) (v := -3) dX11_hurt_29 (by decide) ?_
        exact q_retI (pc := 31) dX11_hurt_31 rfl F
    · replace F := F.2 k8
      refine z_bipush (pc := 18) (v := -2) dX11_hurt_18 (by decide) ?_
      exact q_retI (pc := 20) dX11_hurt_20 rfl F
theorem g_X11_next  {h : zHp} {Q : Int32 → zHp → Prop}  (G : zG h) (F : zcV M_X11_begins [.ref 164] h (fun h1 => zG h1 ∧ (zlI M_X11_next 33 [some (.ref 164), some (.int ((rI h1 165 239) - 1)), none] [] (wI h1 165 244 (1 - (rI h1 165 244))) Q))) : zcI M_X11_next [.ref 164] h Q := by
  show zw zNT zNT M_X11_next 0 [some (.ref 164), none, none] [] h _
  refine z_aload_n (pc := 0) dX11_next_0 rfl rfl ?_
  refine q_invV (pc := 1) (As := []) (st := []) dX11_next_1 ok_X11_begins ml_RX11_236 iv_X11_begins pa_X11_begins ⟨Nat.le_of_ble_eq_true rfl, Nat.le_of_ble_eq_true rfl⟩ (lyc rfl) (q_kV F (fun h1 F => ?_))
  obtain ⟨G1, F⟩ := F
  refine z_aload_n (pc := 4) dX11_next_4 rfl rfl ?_
  refine q_getR (pc := 5) (i := 165) dX11_next_5 lk_RX11_7 (lyc rfl) (G1 164 0 165 rfl) ?_
  refine z_sipush (pc := 8) (v := 244) dX11_next_8 (by decide) ?_
  refine z_iconst (pc := 11) (v := 1) dX11_next_11 (by decide) ?_
  refine z_aload_n (pc := 12) dX11_next_12 rfl rfl ?_
  refine q_getR (pc := 13) (i := 165) dX11_next_13 lk_RX11_7 (lyc rfl) (G1 164 0 165 rfl) ?_
  refine z_sipush (pc := 16) (v := 244) dX11_next_16 (by decide) ?_
  refine q_iald (pc := 19) (j := 244) (v := rI h1 165 244) dX11_next_19 (lyc rfl) (zvl (lnc rfl) (by decide)) (by decide) rfl ?_
  refine z_isub (pc := 20) dX11_next_20 ?_
  refine q_iast (pc := 21) (j := 244) dX11_next_21 (lyc rfl) (zvl (lnc rfl) (by decide)) (by decide) ?_
  refine z_aload_n (pc := 22) dX11_next_22 rfl rfl ?_
  refine q_getR (pc := 23) (i := 165) dX11_next_23 lk_RX11_7 (lyc rfl) (G1 164 0 165 rfl) ?_
  refine z_sipush (pc := 26) (v := 239) dX11_next_26 (by decide) ?_
  refine q_iald (pc := 29) (j := 239) (v := rI h1 165 239) dX11_next_29 (lyc rfl) (zvl (lnc rfl) (by decide)) (by decide) (rI_k (by decide)) ?_
  refine z_iconst (pc := 30) (v := 1) dX11_next_30 (by decide) ?_
  refine z_isub (pc := 31) dX11_next_31 ?_
  refine z_istore_n (pc := 32) (ls' := [some (.ref 164), some (.int ((rI h1 165 239) - 1)), none]) dX11_next_32 rfl (by decide) rfl ?_
  exact F
theorem g_X11_next_33 {x1 : Int32} {h : zHp} {Q : Int32 → zHp → Prop}  (G : zG h) (F : (x1 < 0 → (zcV M_X11_setsOff [.ref 164, .int 2, .int 0] h (fun h1 => zG h1 ∧ (zcV M_X11_rounds [.ref 164] h1 (fun h2 => zG h2 ∧ (zcI M_X11_goesThrough [.ref 164] h2 (fun vh3 h3 => zG h3 ∧ (Q vh3 h3)))))))) ∧ (¬ (x1 < 0) → (zcI M_X11_effectIs [.ref 164, .int x1, .int 6] h (fun vh4 h4 => zG h4 ∧ ((¬ vh4 = 0 → (zlI M_X11_next 70 [some (.ref 164), some (.int x1), some (.int vh4)] [.int (vh4 - 1), .int ((80 + (7 * x1)) + 6), .ref 165] h4 Q)) ∧ (vh4 = 0 → (zlI M_X11_next 70 [some (.ref 164), some (.int x1), some (.int vh4)] [.int 0, .int ((80 + (7 * x1)) + 6), .ref 165] h4 Q))))))) : zlI M_X11_next 33 [some (.ref 164), some (.int x1), none] [] h Q := by
  refine z_iload_n (pc := 33) dX11_next_33 rfl rfl ?_
  refine z_if_lt (pc := 34) (tgt := 94) dX11_next_34 (by decide) (fun k6 => ?_) (fun k6 => ?_)
  · replace F := F.1 k6
    refine z_aload_n (pc := 94) dX11_next_94 rfl rfl ?_
    refine z_iconst (pc := 95) (v := 2) dX11_next_95 (by decide) ?_
    refine z_iconst (pc := 96) (v := 0) dX11_next_96 (by decide) ?_
    refine q_invV (pc := 97) (As := [.int 2, .int 0]) (st := []) dX11_next_97 ok_X11_setsOff ml_RX11_149 iv_X11_setsOff pa_X11_setsOff ⟨Nat.le_of_ble_eq_true rfl, Nat.le_of_ble_eq_true rfl⟩ (lyc rfl) (q_kV F (fun h1 F => ?_))
    obtain ⟨G1, F⟩ := F
    refine z_aload_n (pc := 100) dX11_next_100 rfl rfl ?_
    refine q_invV (pc := 101) (As := []) (st := []) dX11_next_101 ok_X11_rounds ml_RX11_153 iv_X11_rounds pa_X11_rounds ⟨Nat.le_of_ble_eq_true rfl, Nat.le_of_ble_eq_true rfl⟩ (lyc rfl) (q_kV F (fun h2 F => ?_))
    obtain ⟨G2, F⟩ := F
    refine z_aload_n (pc := 104) dX11_next_104 rfl rfl ?_
    refine q_invV (pc := 105) (As := []) (st := []) dX11_next_105 ok_X11_goesThrough ml_RX11_239 iv_X11_goesThrough pa_X11_goesThrough ⟨Nat.le_of_ble_eq_true rfl, Nat.le_of_ble_eq_true rfl⟩ (lyc rfl) (q_kI F (fun vh3 h3 F => ?_))
    obtain ⟨G3, F⟩ := F
    exact q_retI (pc := 108) dX11_next_108 rfl F
  · replace F := F.2 k6
    refine z_aload_n (pc := 37) dX11_next_37 rfl rfl ?_
    refine z_iload_n (pc := 38) dX11_next_38 rfl rfl ?_
    refine z_bipush (pc := 39) (v := 6) dX11_next_39 (by decide) ?_
    refine q_invV (pc := 41) (As := [.int x1, .int 6]) (st := []) dX11_next_41 ok_X11_effectIs ml_RX11_103 iv_X11_effectIs pa_X11_effectIs ⟨Nat.le_of_ble_eq_true rfl, Nat.le_of_ble_eq_true rfl⟩ (lyc rfl) (q_kI F (fun vh4 h4 F => ?_))
    obtain ⟨G4, F⟩ := F
    refine z_istore_n (pc := 44) (ls' := [some (.ref 164), some (.int x1), some (.int vh4)]) dX11_next_44 rfl (by decide) rfl ?_
    refine z_aload_n (pc := 45) dX11_next_45 rfl rfl ?_
    refine q_getR (pc := 46) (i := 165) dX11_next_46 lk_RX11_7 (lyc rfl) (G4 164 0 165 rfl) ?_
    refine z_bipush (pc := 49) (v := 80) dX11_next_49 (by decide) ?_
    refine z_bipush (pc := 51) (v := 7) dX11_next_51 (by decide) ?_
    refine z_iload_n (pc := 53) dX11_next_53 rfl rfl ?_
    refine z_imul (pc := 54) dX11_next_54 ?_
    refine z_iadd (pc := 55) dX11_next_55 ?_
    refine z_bipush (pc := 56) (v := 6) dX11_next_56 (by decide) ?_
    refine z_iadd (pc := 58) dX11_next_58 ?_
    refine z_iload_n (pc := 59) dX11_next_59 rfl rfl ?_
    refine z_if_ne (pc := 60) (tgt := 67) dX11_next_60 (by decide) (fun k5 => ?_) (fun k5 => ?_)
    · replace F := F.1 k5
      refine z_iload_n (pc := 67) dX11_next_67 rfl rfl ?_
      refine z_iconst (pc := 68) (v := 1) dX11_next_68 (by decide) ?_
      refine z_isub (pc := 69) dX11_next_69 ?_
      exact F
    · replace F := F.2 k5
      refine z_iconst (pc := 63) (v := 0) dX11_next_63 (by decide) ?_
      refine z_goto (pc := 64) (tgt := 70) dX11_next_64 (by decide) ?_
      exact F
theorem g_X11_next_70 {x1 : Int32} {x2 : Int32} {xs1 : Int32} {xs2 : Int32} {h : zHp} {Q : Int32 → zHp → Prop}  (G : zG h) (F : vp_in xs1 246 ∧ ((¬ x2 = 1 → (zlI M_X11_next 33 [some (.ref 164), some (.int (x1 + (-1))), none] [] (wI h 165 ((Int32.toNatClampNeg xs1)) xs2) Q)) ∧ (x2 = 1 → (zcV M_X11_goes [.ref 164, .int 80, .int 7, .int 239, .int x1] (wI h 165 ((Int32.toNatClampNeg xs1)) xs2) (fun h1 => zG h1 ∧ (zlI M_X11_next 33 [some (.ref 164), some (.int (x1 + (-1))), none] [] h1 Q)))))) : zlI M_X11_next 70 [some (.ref 164), some (.int x1), some (.int x2)] [.int xs2, .int xs1, .ref 165] h Q := by
  obtain ⟨k1, F⟩ := F
  refine q_iast (pc := 70) (j := (Int32.toNatClampNeg xs1)) dX11_next_70 (lyc rfl) (zvn (lnc rfl) k1) rfl ?_
  refine z_iload_n (pc := 71) dX11_next_71 rfl rfl ?_
  refine z_iconst (pc := 72) (v := 1) dX11_next_72 (by decide) ?_
  refine z_icmp_ne (pc := 73) (tgt := 88) dX11_next_73 (by decide) (fun k3 => ?_) (fun k3 => ?_)
  · replace F := F.1 k3
    refine z_iinc (pc := 88) (v := x1 + (-1)) (ls' := [some (.ref 164), some (.int (x1 + (-1))), some (.int x2)]) dX11_next_88 (by decide) rfl rfl rfl ?_
    refine z_goto (pc := 91) (tgt := 33) dX11_next_91 (by decide) ?_
    exact q_sub (ls' := [some (.ref 164), some (.int (x1 + (-1))), none]) ⟨rfl, rfl, trivial⟩ F
  · replace F := F.2 k3
    refine z_aload_n (pc := 76) dX11_next_76 rfl rfl ?_
    refine z_bipush (pc := 77) (v := 80) dX11_next_77 (by decide) ?_
    refine z_bipush (pc := 79) (v := 7) dX11_next_79 (by decide) ?_
    refine z_sipush (pc := 81) (v := 239) dX11_next_81 (by decide) ?_
    refine z_iload_n (pc := 84) dX11_next_84 rfl rfl ?_
    refine q_invV (pc := 85) (As := [.int 80, .int 7, .int 239, .int x1]) (st := []) dX11_next_85 ok_X11_goes ml_RX11_186 iv_X11_goes pa_X11_goes ⟨Nat.le_of_ble_eq_true rfl, Nat.le_of_ble_eq_true rfl⟩ (lyc rfl) (q_kV F (fun h1 F => ?_))
    obtain ⟨G1, F⟩ := F
    refine z_iinc (pc := 88) (v := x1 + (-1)) (ls' := [some (.ref 164), some (.int (x1 + (-1))), some (.int x2)]) dX11_next_88 (by decide) rfl rfl rfl ?_
    refine z_goto (pc := 91) (tgt := 33) dX11_next_91 (by decide) ?_
    exact q_sub (ls' := [some (.ref 164), some (.int (x1 + (-1))), none]) ⟨rfl, rfl, trivial⟩ F
theorem g_X11_shown {x1 : Int32} {h : zHp} {Q : Int32 → zHp → Prop}  (G : zG h) (F : (-1 ≤ x1 → ((¬ x1 = -1 → ((rI h 164 19 ≤ x1 → (Q (-1) h)) ∧ (¬ (rI h 164 19 ≤ x1) → (vp_in x1 41 ∧ (Q (rI h 173 ((Int32.toNatClampNeg x1))) h))))) ∧ (x1 = -1 → (Q (rI h 164 19) h)))) ∧ (¬ (-1 ≤ x1) → (Q (-2) h))) : zcI M_X11_shown [.ref 164, .int x1] h Q := by
  show zw zNT zNT M_X11_shown 0 [some (.ref 164), some (.int x1)] [] h _
  refine z_iload_n (pc := 0) dX11_shown_0 rfl rfl ?_
  refine z_iconst (pc := 1) (v := -1) dX11_shown_1 (by decide) ?_
  refine z_icmp_ge (pc := 2) (tgt := 10) dX11_shown_2 (by decide) (fun k4 => ?_) (fun k4 => ?_)
  · replace F := F.1 k4
    refine z_iload_n (pc := 10) dX11_shown_10 rfl rfl ?_
    refine z_iconst (pc := 11) (v := -1) dX11_shown_11 (by decide) ?_
    refine z_icmp_ne (pc := 12) (tgt := 22) dX11_shown_12 (by decide) (fun k3 => ?_) (fun k3 => ?_)
    · replace F := F.1 k3
      refine z_iload_n (pc := 22) dX11_shown_22 rfl rfl ?_
      refine z_aload_n (pc := 23) dX11_shown_23 rfl rfl ?_
      refine q_getI (pc := 24) (v := rI h 164 19) dX11_shown_24 lk_RX11_156 (lyc rfl) rfl ?_
      refine z_icmp_ge (pc := 27) (tgt := 39) dX11_shown_27 (by decide) (fun k2 => ?_) (fun k2 => ?_)
      · replace F := F.1 k2
        refine z_iconst (pc := 39) (v := -1) dX11_shown_39 (by decide) ?_
        exact q_retI (pc := 40) dX11_shown_40 rfl F
      · replace F := F.2 k2
        refine z_aload_n (pc := 30) dX11_shown_30 rfl rfl ?_
        refine q_getR (pc := 31) (i := 173) dX11_shown_31 lk_RX11_34 (lyc rfl) (G 164 18 173 rfl) ?_
        refine z_iload_n (pc := 34) dX11_shown_34 rfl rfl ?_
        obtain ⟨k1, F⟩ := F
        refine q_iald (pc := 35) (j := (Int32.toNatClampNeg x1)) (v := rI h 173 ((Int32.toNatClampNeg x1))) dX11_shown_35 (lyc rfl) (zvn (lnc rfl) k1) rfl rfl ?_
        refine z_goto (pc := 36) (tgt := 40) dX11_shown_36 (by decide) ?_
        exact q_retI (pc := 40) dX11_shown_40 rfl F
    · replace F := F.2 k3
      refine z_aload_n (pc := 15) dX11_shown_15 rfl rfl ?_
      refine q_getI (pc := 16) (v := rI h 164 19) dX11_shown_16 lk_RX11_156 (lyc rfl) rfl ?_
      refine z_goto (pc := 19) (tgt := 40) dX11_shown_19 (by decide) ?_
      exact q_retI (pc := 40) dX11_shown_40 rfl F
  · replace F := F.2 k4
    refine z_bipush (pc := 5) (v := -2) dX11_shown_5 (by decide) ?_
    refine z_goto (pc := 7) (tgt := 40) dX11_shown_7 (by decide) ?_
    exact q_retI (pc := 40) dX11_shown_40 rfl F
theorem g_X11_feed {x1 : Int32} {x2 : Int32} {h : zHp} {Q : Int32 → zHp → Prop}  (G : zG h) (F : zcI M_X11_in [.int x2, .int 1, .int 4] h (fun vh1 h1 => zG h1 ∧ ((¬ vh1 = 0 → (((rI h1 164 21) + x2 ≤ 120 → (zlI M_X11_feed 30 [some (.ref 164), some (.int x1), some (.int x2), some (.int (x2 - 1))] [] h1 Q)) ∧ (¬ ((rI h1 164 21) + x2 ≤ 120) → (Q (-4) h1)))) ∧ (vh1 = 0 → (Q (-2) h1))))) : zcI M_X11_feed [.ref 164, .int x1, .int x2] h Q := by
  show zw zNT zNT M_X11_feed 0 [some (.ref 164), some (.int x1), some (.int x2), none] [] h _
  refine z_iload_n (pc := 0) dX11_feed_0 rfl rfl ?_
  refine z_iconst (pc := 1) (v := 1) dX11_feed_1 (by decide) ?_
  refine z_iconst (pc := 2) (v := 4) dX11_feed_2 (by decide) ?_
  refine q_invS (pc := 3) (As := [.int x2, .int 1, .int 4]) (st := []) dX11_feed_3 ok_X11_in ml_RX11_84 st_X11_in pa_X11_in ⟨Nat.le_of_ble_eq_true rfl, Nat.le_of_ble_eq_true rfl⟩ (q_kI F (fun vh1 h1 F => ?_))
  obtain ⟨G1, F⟩ := F
  refine z_if_ne (pc := 6) (tgt := 12) dX11_feed_6 (by decide) (fun k3 => ?_) (fun k3 => ?_)
  · replace F := F.1 k3
    refine z_aload_n (pc := 12) dX11_feed_12 rfl rfl ?_
    refine q_getI (pc := 13) (v := rI h1 164 21) dX11_feed_13 lk_RX11_242 (lyc rfl) rfl ?_
    refine z_iload_n (pc := 16) dX11_feed_16 rfl rfl ?_
    refine z_iadd (pc := 17) dX11_feed_17 ?_
    refine z_bipush (pc := 18) (v := 120) dX11_feed_18 (by decide) ?_
    refine z_icmp_le (pc := 20) (tgt := 26) dX11_feed_20 (by decide) (fun k2 => ?_) (fun k2 => ?_)
    · replace F := F.1 k2
      refine z_iload_n (pc := 26) dX11_feed_26 rfl rfl ?_
      refine z_iconst (pc := 27) (v := 1) dX11_feed_27 (by decide) ?_
      refine z_isub (pc := 28) dX11_feed_28 ?_
      refine z_istore_n (pc := 29) (ls' := [some (.ref 164), some (.int x1), some (.int x2), some (.int (x2 - 1))]) dX11_feed_29 rfl (by decide) rfl ?_
      exact F
    · replace F := F.2 k2
      refine z_bipush (pc := 23) (v := -4) dX11_feed_23 (by decide) ?_
      exact q_retI (pc := 25) dX11_feed_25 rfl F
  · replace F := F.2 k3
    refine z_bipush (pc := 9) (v := -2) dX11_feed_9 (by decide) ?_
    exact q_retI (pc := 11) dX11_feed_11 rfl F
theorem g_X11_feed_30 {x1 : Int32} {x2 : Int32} {x3 : Int32} {h : zHp} {Q : Int32 → zHp → Prop}  (G : zG h) (F : (x3 < 0 → (Q (rI h 164 21) h)) ∧ (¬ (x3 < 0) → (vp_in (rI h 164 21) 120 ∧ (zlI M_X11_feed 30 [some (.ref 164), some (.int x1), some (.int x2), some (.int (x3 + (-1)))] [] (wI (wI h 174 ((Int32.toNatClampNeg (rI h 164 21))) ((x1 >>> ((8 * x3) &&& 31)) &&& 255)) 164 21 ((rI h 164 21) + 1)) Q)))) : zlI M_X11_feed 30 [some (.ref 164), some (.int x1), some (.int x2), some (.int x3)] [] h Q := by
  refine z_iload_n (pc := 30) dX11_feed_30 rfl rfl ?_
  refine z_if_lt (pc := 31) (tgt := 69) dX11_feed_31 (by decide) (fun k2 => ?_) (fun k2 => ?_)
  · replace F := F.1 k2
    refine z_aload_n (pc := 69) dX11_feed_69 rfl rfl ?_
    refine q_getI (pc := 70) (v := rI h 164 21) dX11_feed_70 lk_RX11_242 (lyc rfl) rfl ?_
    exact q_retI (pc := 73) dX11_feed_73 rfl F
  · replace F := F.2 k2
    refine z_aload_n (pc := 34) dX11_feed_34 rfl rfl ?_
    refine q_getR (pc := 35) (i := 174) dX11_feed_35 lk_RX11_37 (lyc rfl) (G 164 20 174 rfl) ?_
    refine z_aload_n (pc := 38) dX11_feed_38 rfl rfl ?_
    refine q_getI (pc := 39) (v := rI h 164 21) dX11_feed_39 lk_RX11_242 (lyc rfl) rfl ?_
    refine z_iload_n (pc := 42) dX11_feed_42 rfl rfl ?_
    refine z_bipush (pc := 43) (v := 8) dX11_feed_43 (by decide) ?_
    refine z_iload_n (pc := 45) dX11_feed_45 rfl rfl ?_
    refine z_imul (pc := 46) dX11_feed_46 ?_
    refine z_ishr (pc := 47) dX11_feed_47 ?_
    refine z_sipush (pc := 48) (v := 255) dX11_feed_48 (by decide) ?_
    refine z_iand (pc := 51) dX11_feed_51 ?_
    obtain ⟨k1, F⟩ := F
    refine q_iast (pc := 52) (j := (Int32.toNatClampNeg (rI h 164 21))) dX11_feed_52 (lyc rfl) (zvn (lnc rfl) k1) rfl ?_
    refine z_aload_n (pc := 53) dX11_feed_53 rfl rfl ?_
    refine z_dup (pc := 54) dX11_feed_54 rfl ?_
    refine q_getI (pc := 55) (v := rI h 164 21) dX11_feed_55 lk_RX11_242 (lyc rfl) (rI_c (by decide)) ?_
    refine z_iconst (pc := 58) (v := 1) dX11_feed_58 (by decide) ?_
    refine z_iadd (pc := 59) dX11_feed_59 ?_
    refine q_putI (pc := 60) dX11_feed_60 lk_RX11_242 (lyc rfl) ?_
    refine z_iinc (pc := 63) (v := x3 + (-1)) (ls' := [some (.ref 164), some (.int x1), some (.int x2), some (.int (x3 + (-1)))]) dX11_feed_63 (by decide) rfl rfl rfl ?_
    refine z_goto (pc := 66) (tgt := 30) dX11_feed_66 (by decide) ?_
    exact F
theorem g_X11_wipe  {h : zHp} {Q : Int32 → zHp → Prop}  (G : zG h) (F : Q (rI h 164 21) (wI h 164 21 0)) : zcI M_X11_wipe [.ref 164] h Q := by
  show zw zNT zNT M_X11_wipe 0 [some (.ref 164), none] [] h _
  refine z_aload_n (pc := 0) dX11_wipe_0 rfl rfl ?_
  refine q_getI (pc := 1) (v := rI h 164 21) dX11_wipe_1 lk_RX11_242 (lyc rfl) rfl ?_
  refine z_istore_n (pc := 4) (ls' := [some (.ref 164), some (.int (rI h 164 21))]) dX11_wipe_4 rfl (by decide) rfl ?_
  refine z_aload_n (pc := 5) dX11_wipe_5 rfl rfl ?_
  refine z_iconst (pc := 6) (v := 0) dX11_wipe_6 (by decide) ?_
  refine q_putI (pc := 7) dX11_wipe_7 lk_RX11_242 (lyc rfl) ?_
  refine z_iload_n (pc := 10) dX11_wipe_10 rfl rfl ?_
  exact q_retI (pc := 11) dX11_wipe_11 rfl F
theorem g_X11_isAt {x1 : Int32} {x2 : Int32} {h : zHp} {Q : Int32 → zHp → Prop}  (G : zG h) (F : (rI h 164 21 ≤ rI h 164 23 → (Q 0 h)) ∧ (¬ (rI h 164 21 ≤ rI h 164 23) → (vp_in (rI h 164 23) 120 ∧ (zcI M_X11_in [.int (rI h 174 ((Int32.toNatClampNeg (rI h 164 23)))), .int x1, .int x2] h (fun vh1 h1 => zG h1 ∧ ((vh1 = 0 → (Q 0 h1)) ∧ (¬ (vh1 = 0) → (Q 1 h1)))))))) : zcI M_X11_isAt [.ref 164, .int x1, .int x2] h Q := by
  show zw zNT zNT M_X11_isAt 0 [some (.ref 164), some (.int x1), some (.int x2)] [] h _
  refine z_aload_n (pc := 0) dX11_isAt_0 rfl rfl ?_
  refine q_getI (pc := 1) (v := rI h 164 23) dX11_isAt_1 lk_RX11_245 (lyc rfl) rfl ?_
  refine z_aload_n (pc := 4) dX11_isAt_4 rfl rfl ?_
  refine q_getI (pc := 5) (v := rI h 164 21) dX11_isAt_5 lk_RX11_242 (lyc rfl) rfl ?_
  refine z_icmp_ge (pc := 8) (tgt := 32) dX11_isAt_8 (by decide) (fun k4 => ?_) (fun k4 => ?_)
  · replace F := F.1 k4
    refine z_iconst (pc := 32) (v := 0) dX11_isAt_32 (by decide) ?_
    exact q_retB (pc := 33) dX11_isAt_33 rfl (Or.inl rfl) F
  · replace F := F.2 k4
    refine z_aload_n (pc := 11) dX11_isAt_11 rfl rfl ?_
    refine q_getR (pc := 12) (i := 174) dX11_isAt_12 lk_RX11_37 (lyc rfl) (G 164 20 174 rfl) ?_
    refine z_aload_n (pc := 15) dX11_isAt_15 rfl rfl ?_
    refine q_getI (pc := 16) (v := rI h 164 23) dX11_isAt_16 lk_RX11_245 (lyc rfl) rfl ?_
    obtain ⟨k1, F⟩ := F
    refine q_iald (pc := 19) (j := (Int32.toNatClampNeg (rI h 164 23))) (v := rI h 174 ((Int32.toNatClampNeg (rI h 164 23)))) dX11_isAt_19 (lyc rfl) (zvn (lnc rfl) k1) rfl rfl ?_
    refine z_iload_n (pc := 20) dX11_isAt_20 rfl rfl ?_
    refine z_iload_n (pc := 21) dX11_isAt_21 rfl rfl ?_
    refine q_invS (pc := 22) (As := [.int (rI h 174 ((Int32.toNatClampNeg (rI h 164 23)))), .int x1, .int x2]) (st := []) dX11_isAt_22 ok_X11_in ml_RX11_84 st_X11_in pa_X11_in ⟨Nat.le_of_ble_eq_true rfl, Nat.le_of_ble_eq_true rfl⟩ (q_kI F (fun vh1 h1 F => ?_))
    obtain ⟨G1, F⟩ := F
    refine z_if_eq (pc := 25) (tgt := 32) dX11_isAt_25 (by decide) (fun k3 => ?_) (fun k3 => ?_)
    · replace F := F.1 k3
      refine z_iconst (pc := 32) (v := 0) dX11_isAt_32 (by decide) ?_
      exact q_retB (pc := 33) dX11_isAt_33 rfl (Or.inl rfl) F
    · replace F := F.2 k3
      refine z_iconst (pc := 28) (v := 1) dX11_isAt_28 (by decide) ?_
      refine z_goto (pc := 29) (tgt := 33) dX11_isAt_29 (by decide) ?_
      exact q_retB (pc := 33) dX11_isAt_33 rfl (Or.inr rfl) F
theorem g_X11_goesOn  {h : zHp} {Q : zHp → Prop}  (G : zG h) (F : zcI M_X11_isAt [.ref 164, .int 32, .int 32] h (fun vh1 h1 => zG h1 ∧ ((vh1 = 0 → ((¬ rI h1 164 23 = rI h1 164 21 → (zcI M_X11_isAt [.ref 164, .int 97, .int 122] (wI (wI h1 164 22 (rI h1 164 23)) 164 25 0) (fun vh2 h2 => zG h2 ∧ ((vh2 = 0 → (zcI M_X11_isAt [.ref 164, .int 48, .int 57] h2 (fun vh3 h3 => zG h3 ∧ ((vh3 = 0 → (zcI M_X11_isAt [.ref 164, .int 59, .int 59] h3 (fun vh4 h4 => zG h4 ∧ ((¬ vh4 = 0 → (zlV M_X11_goesOn 199 [some (.ref 164)] [.ref 164] h4 Q)) ∧ (vh4 = 0 → (zcI M_X11_isAt [.ref 164, .int 45, .int 45] h4 (fun vh5 h5 => zG h5 ∧ ((vh5 = 0 → (Q (wI (wI h5 164 24 3) 164 23 ((rI h5 164 23) + 1)))) ∧ (¬ (vh5 = 0) → (zlV M_X11_goesOn 199 [some (.ref 164)] [.ref 164] h5 Q)))))))))) ∧ (¬ (vh3 = 0) → (zlV M_X11_goesOn 112 [some (.ref 164)] [] (wI h3 164 24 2) Q)))))) ∧ (¬ (vh2 = 0) → (zlV M_X11_goesOn 72 [some (.ref 164)] [] (wI h2 164 24 1) Q)))))) ∧ (rI h1 164 23 = rI h1 164 21 → (Q (wI (wI (wI h1 164 22 (rI h1 164 23)) 164 25 0) 164 24 0))))) ∧ (¬ (vh1 = 0) → (zlV M_X11_goesOn 0 [some (.ref 164)] [] (wI h1 164 23 ((rI h1 164 23) + 1)) Q))))) : zcV M_X11_goesOn [.ref 164] h Q := by
  show zw zNT zNT M_X11_goesOn 0 [some (.ref 164)] [] h _
  refine z_aload_n (pc := 0) dX11_goesOn_0 rfl rfl ?_
  refine z_bipush (pc := 1) (v := 32) dX11_goesOn_1 (by decide) ?_
  refine z_bipush (pc := 3) (v := 32) dX11_goesOn_3 (by decide) ?_
  refine q_invV (pc := 5) (As := [.int 32, .int 32]) (st := []) dX11_goesOn_5 ok_X11_isAt ml_RX11_248 iv_X11_isAt pa_X11_isAt ⟨Nat.le_of_ble_eq_true rfl, Nat.le_of_ble_eq_true rfl⟩ (lyc rfl) (q_kI F (fun vh1 h1 F => ?_))
  obtain ⟨G1, F⟩ := F
  refine z_if_eq (pc := 8) (tgt := 24) dX11_goesOn_8 (by decide) (fun k11 => ?_) (fun k11 => ?_)
  · replace F := F.1 k11
    refine z_aload_n (pc := 24) dX11_goesOn_24 rfl rfl ?_
    refine z_aload_n (pc := 25) dX11_goesOn_25 rfl rfl ?_
    refine q_getI (pc := 26) (v := rI h1 164 23) dX11_goesOn_26 lk_RX11_245 (lyc rfl) rfl ?_
    refine q_putI (pc := 29) dX11_goesOn_29 lk_RX11_251 (lyc rfl) ?_
    refine z_aload_n (pc := 32) dX11_goesOn_32 rfl rfl ?_
    refine z_iconst (pc := 33) (v := 0) dX11_goesOn_33 (by decide) ?_
    refine q_putI (pc := 34) dX11_goesOn_34 lk_RX11_254 (lyc rfl) ?_
    refine z_aload_n (pc := 37) dX11_goesOn_37 rfl rfl ?_
    refine q_getI (pc := 38) (v := rI h1 164 23) dX11_goesOn_38 lk_RX11_245 (lyc rfl) ((rI_k (by decide)).trans (rI_k (by decide))) ?_
    refine z_aload_n (pc := 41) dX11_goesOn_41 rfl rfl ?_
    refine q_getI (pc := 42) (v := rI h1 164 21) dX11_goesOn_42 lk_RX11_242 (lyc rfl) ((rI_k (by decide)).trans (rI_k (by decide))) ?_
    refine z_icmp_ne (pc := 45) (tgt := 56) dX11_goesOn_45 (by decide) (fun k10 => ?_) (fun k10 => ?_)
    · replace F := F.1 k10
      refine z_aload_n (pc := 56) dX11_goesOn_56 rfl rfl ?_
      refine z_bipush (pc := 57) (v := 97) dX11_goesOn_57 (by decide) ?_
      refine z_bipush (pc := 59) (v := 122) dX11_goesOn_59 (by decide) ?_
      refine q_invV (pc := 61) (As := [.int 97, .int 122]) (st := []) dX11_goesOn_61 ok_X11_isAt ml_RX11_248 iv_X11_isAt pa_X11_isAt ⟨Nat.le_of_ble_eq_true rfl, Nat.le_of_ble_eq_true rfl⟩ (lyc rfl) (q_kI F (fun vh2 h2 F => ?_))
      obtain ⟨G2, F⟩ := F
      refine z_if_eq (pc := 64) (tgt := 96) dX11_goesOn_64 (by decide) (fun k9 => ?_) (fun k9 => ?_)
      · replace F := F.1 k9
        refine z_aload_n (pc := 96) dX11_goesOn_96 rfl rfl ?_
        refine z_bipush (pc := 97) (v := 48) dX11_goesOn_97 (by decide) ?_
        refine z_bipush (pc := 99) (v := 57) dX11_goesOn_99 (by decide) ?_
        refine q_invV (pc := 101) (As := [.int 48, .int 57]) (st := []) dX11_goesOn_101 ok_X11_isAt ml_RX11_248 iv_X11_isAt pa_X11_isAt ⟨Nat.le_of_ble_eq_true rfl, Nat.le_of_ble_eq_true rfl⟩ (lyc rfl) (q_kI F (fun vh3 h3 F => ?_))
        obtain ⟨G3, F⟩ := F
        refine z_if_eq (pc := 104) (tgt := 176) dX11_goesOn_104 (by decide) (fun k8 => ?_) (fun k8 => ?_)
        · replace F := F.1 k8
          refine z_aload_n (pc := 176) dX11_goesOn_176 rfl rfl ?_
          refine z_aload_n (pc := 177) dX11_goesOn_177 rfl rfl ?_
          refine z_bipush (pc := 178) (v := 59) dX11_goesOn_178 (by decide) ?_
          refine z_bipush (pc := 180) (v := 59) dX11_goesOn_180 (by decide) ?_
          refine q_invV (pc := 182) (As := [.int 59, .int 59]) (st := [.ref 164]) dX11_goesOn_182 ok_X11_isAt ml_RX11_248 iv_X11_isAt pa_X11_isAt ⟨Nat.le_of_ble_eq_true rfl, Nat.le_of_ble_eq_true rfl⟩ (lyc rfl) (q_kI F (fun vh4 h4 F => ?_))
          obtain ⟨G4, F⟩ := F
          refine z_if_ne (pc := 185) (tgt := 199) dX11_goesOn_185 (by decide) (fun k7 => ?_) (fun k7 => ?_)
          · replace F := F.1 k7
            exact F
          · replace F := F.2 k7
            refine z_aload_n (pc := 188) dX11_goesOn_188 rfl rfl ?_
            refine z_bipush (pc := 189) (v := 45) dX11_goesOn_189 (by decide) ?_
            refine z_bipush (pc := 191) (v := 45) dX11_goesOn_191 (by decide) ?_
            refine q_invV (pc := 193) (As := [.int 45, .int 45]) (st := [.ref 164]) dX11_goesOn_193 ok_X11_isAt ml_RX11_248 iv_X11_isAt pa_X11_isAt ⟨Nat.le_of_ble_eq_true rfl, Nat.le_of_ble_eq_true rfl⟩ (lyc rfl) (q_kI F (fun vh5 h5 F => ?_))
            obtain ⟨G5, F⟩ := F
            refine z_if_eq (pc := 196) (tgt := 211) dX11_goesOn_196 (by decide) (fun k6 => ?_) (fun k6 => ?_)
            · replace F := F.1 k6
              refine z_iconst (pc := 211) (v := 3) dX11_goesOn_211 (by decide) ?_
              refine q_putI (pc := 212) dX11_goesOn_212 lk_RX11_257 (lyc rfl) ?_
              refine z_aload_n (pc := 215) dX11_goesOn_215 rfl rfl ?_
              refine z_dup (pc := 216) dX11_goesOn_216 rfl ?_
              refine q_getI (pc := 217) (v := rI h5 164 23) dX11_goesOn_217 lk_RX11_245 (lyc rfl) (rI_k (by decide)) ?_
              refine z_iconst (pc := 220) (v := 1) dX11_goesOn_220 (by decide) ?_
              refine z_iadd (pc := 221) dX11_goesOn_221 ?_
              refine q_putI (pc := 222) dX11_goesOn_222 lk_RX11_245 (lyc rfl) ?_
              exact q_retV (pc := 225) dX11_goesOn_225 rfl F
            · replace F := F.2 k6
              exact F
        · replace F := F.2 k8
          refine z_aload_n (pc := 107) dX11_goesOn_107 rfl rfl ?_
          refine z_iconst (pc := 108) (v := 2) dX11_goesOn_108 (by decide) ?_
          refine q_putI (pc := 109) dX11_goesOn_109 lk_RX11_257 (lyc rfl) ?_
          exact F
      · replace F := F.2 k9
        refine z_aload_n (pc := 67) dX11_goesOn_67 rfl rfl ?_
        refine z_iconst (pc := 68) (v := 1) dX11_goesOn_68 (by decide) ?_
        refine q_putI (pc := 69) dX11_goesOn_69 lk_RX11_257 (lyc rfl) ?_
        exact F
    · replace F := F.2 k10
      refine z_aload_n (pc := 48) dX11_goesOn_48 rfl rfl ?_
      refine z_iconst (pc := 49) (v := 0) dX11_goesOn_49 (by decide) ?_
      refine q_putI (pc := 50) dX11_goesOn_50 lk_RX11_257 (lyc rfl) ?_
      refine z_goto (pc := 53) (tgt := 225) dX11_goesOn_53 (by decide) ?_
      exact q_retV (pc := 225) dX11_goesOn_225 rfl F
  · replace F := F.2 k11
    refine z_aload_n (pc := 11) dX11_goesOn_11 rfl rfl ?_
    refine z_dup (pc := 12) dX11_goesOn_12 rfl ?_
    refine q_getI (pc := 13) (v := rI h1 164 23) dX11_goesOn_13 lk_RX11_245 (lyc rfl) rfl ?_
    refine z_iconst (pc := 16) (v := 1) dX11_goesOn_16 (by decide) ?_
    refine z_iadd (pc := 17) dX11_goesOn_17 ?_
    refine q_putI (pc := 18) dX11_goesOn_18 lk_RX11_245 (lyc rfl) ?_
    refine z_goto (pc := 21) (tgt := 0) dX11_goesOn_21 (by decide) ?_
    exact F
theorem g_X11_goesOn_72  {h : zHp} {Q : zHp → Prop}  (G : zG h) (F : zcI M_X11_isAt [.ref 164, .int 97, .int 122] h (fun vh1 h1 => zG h1 ∧ ((vh1 = 0 → (Q h1)) ∧ (¬ (vh1 = 0) → (zlV M_X11_goesOn 72 [some (.ref 164)] [] (wI h1 164 23 ((rI h1 164 23) + 1)) Q))))) : zlV M_X11_goesOn 72 [some (.ref 164)] [] h Q := by
  refine z_aload_n (pc := 72) dX11_goesOn_72 rfl rfl ?_
  refine z_bipush (pc := 73) (v := 97) dX11_goesOn_73 (by decide) ?_
  refine z_bipush (pc := 75) (v := 122) dX11_goesOn_75 (by decide) ?_
  refine q_invV (pc := 77) (As := [.int 97, .int 122]) (st := []) dX11_goesOn_77 ok_X11_isAt ml_RX11_248 iv_X11_isAt pa_X11_isAt ⟨Nat.le_of_ble_eq_true rfl, Nat.le_of_ble_eq_true rfl⟩ (lyc rfl) (q_kI F (fun vh1 h1 F => ?_))
  obtain ⟨G1, F⟩ := F
  refine z_if_eq (pc := 80) (tgt := 225) dX11_goesOn_80 (by decide) (fun k2 => ?_) (fun k2 => ?_)
  · replace F := F.1 k2
    exact q_retV (pc := 225) dX11_goesOn_225 rfl F
  · replace F := F.2 k2
    refine z_aload_n (pc := 83) dX11_goesOn_83 rfl rfl ?_
    refine z_dup (pc := 84) dX11_goesOn_84 rfl ?_
    refine q_getI (pc := 85) (v := rI h1 164 23) dX11_goesOn_85 lk_RX11_245 (lyc rfl) rfl ?_
    refine z_iconst (pc := 88) (v := 1) dX11_goesOn_88 (by decide) ?_
    refine z_iadd (pc := 89) dX11_goesOn_89 ?_
    refine q_putI (pc := 90) dX11_goesOn_90 lk_RX11_245 (lyc rfl) ?_
    refine z_goto (pc := 93) (tgt := 72) dX11_goesOn_93 (by decide) ?_
    exact F
theorem g_X11_goesOn_112  {h : zHp} {Q : zHp → Prop}  (G : zG h) (F : zcI M_X11_isAt [.ref 164, .int 48, .int 57] h (fun vh1 h1 => zG h1 ∧ ((vh1 = 0 → (Q h1)) ∧ (¬ (vh1 = 0) → ((rI h1 164 25 ≤ 9 → (vp_in (rI h1 164 23) 120 ∧ (zlV M_X11_goesOn 112 [some (.ref 164)] [] (wI (wI h1 164 25 (((10 * (rI h1 164 25)) + (rI h1 174 ((Int32.toNatClampNeg (rI h1 164 23))))) - 48)) 164 23 ((rI h1 164 23) + 1)) Q))) ∧ (¬ (rI h1 164 25 ≤ 9) → (zlV M_X11_goesOn 112 [some (.ref 164)] [] (wI (wI h1 164 25 (rI h1 164 25)) 164 23 ((rI h1 164 23) + 1)) Q))))))) : zlV M_X11_goesOn 112 [some (.ref 164)] [] h Q := by
  refine z_aload_n (pc := 112) dX11_goesOn_112 rfl rfl ?_
  refine z_bipush (pc := 113) (v := 48) dX11_goesOn_113 (by decide) ?_
  refine z_bipush (pc := 115) (v := 57) dX11_goesOn_115 (by decide) ?_
  refine q_invV (pc := 117) (As := [.int 48, .int 57]) (st := []) dX11_goesOn_117 ok_X11_isAt ml_RX11_248 iv_X11_isAt pa_X11_isAt ⟨Nat.le_of_ble_eq_true rfl, Nat.le_of_ble_eq_true rfl⟩ (lyc rfl) (q_kI F (fun vh1 h1 F => ?_))
  obtain ⟨G1, F⟩ := F
  refine z_if_eq (pc := 120) (tgt := 225) dX11_goesOn_120 (by decide) (fun k4 => ?_) (fun k4 => ?_)
  · replace F := F.1 k4
    exact q_retV (pc := 225) dX11_goesOn_225 rfl F
  · replace F := F.2 k4
    refine z_aload_n (pc := 123) dX11_goesOn_123 rfl rfl ?_
    refine z_aload_n (pc := 124) dX11_goesOn_124 rfl rfl ?_
    refine q_getI (pc := 125) (v := rI h1 164 25) dX11_goesOn_125 lk_RX11_254 (lyc rfl) rfl ?_
    refine z_bipush (pc := 128) (v := 9) dX11_goesOn_128 (by decide) ?_
    refine z_icmp_le (pc := 130) (tgt := 140) dX11_goesOn_130 (by decide) (fun k3 => ?_) (fun k3 => ?_)
    · replace F := F.1 k3
      refine z_bipush (pc := 140) (v := 10) dX11_goesOn_140 (by decide) ?_
      refine z_aload_n (pc := 142) dX11_goesOn_142 rfl rfl ?_
      refine q_getI (pc := 143) (v := rI h1 164 25) dX11_goesOn_143 lk_RX11_254 (lyc rfl) rfl ?_
      refine z_imul (pc := 146) dX11_goesOn_146 ?_
      refine z_aload_n (pc := 147) dX11_goesOn_147 rfl rfl ?_
      refine q_getR (pc := 148) (i := 174) dX11_goesOn_148 lk_RX11_37 (lyc rfl) (G1 164 20 174 rfl) ?_
      refine z_aload_n (pc := 151) dX11_goesOn_151 rfl rfl ?_
      refine q_getI (pc := 152) (v := rI h1 164 23) dX11_goesOn_152 lk_RX11_245 (lyc rfl) rfl ?_
      obtain ⟨k2, F⟩ := F
      refine q_iald (pc := 155) (j := (Int32.toNatClampNeg (rI h1 164 23))) (v := rI h1 174 ((Int32.toNatClampNeg (rI h1 164 23)))) dX11_goesOn_155 (lyc rfl) (zvn (lnc rfl) k2) rfl rfl ?_
      refine z_iadd (pc := 156) dX11_goesOn_156 ?_
      refine z_bipush (pc := 157) (v := 48) dX11_goesOn_157 (by decide) ?_
      refine z_isub (pc := 159) dX11_goesOn_159 ?_
      refine q_putI (pc := 160) dX11_goesOn_160 lk_RX11_254 (lyc rfl) ?_
      refine z_aload_n (pc := 163) dX11_goesOn_163 rfl rfl ?_
      refine z_dup (pc := 164) dX11_goesOn_164 rfl ?_
      refine q_getI (pc := 165) (v := rI h1 164 23) dX11_goesOn_165 lk_RX11_245 (lyc rfl) (rI_k (by decide)) ?_
      refine z_iconst (pc := 168) (v := 1) dX11_goesOn_168 (by decide) ?_
      refine z_iadd (pc := 169) dX11_goesOn_169 ?_
      refine q_putI (pc := 170) dX11_goesOn_170 lk_RX11_245 (lyc rfl) ?_
      refine z_goto (pc := 173) (tgt := 112) dX11_goesOn_173 (by decide) ?_
      exact F
    · replace F := F.2 k3
      refine z_aload_n (pc := 133) dX11_goesOn_133 rfl rfl ?_
      refine q_getI (pc := 134) (v := rI h1 164 25) dX11_goesOn_134 lk_RX11_254 (lyc rfl) rfl ?_
      refine z_goto (pc := 137) (tgt := 160) dX11_goesOn_137 (by decide) ?_
      refine q_putI (pc := 160) dX11_goesOn_160 lk_RX11_254 (lyc rfl) ?_
      refine z_aload_n (pc := 163) dX11_goesOn_163 rfl rfl ?_
      refine z_dup (pc := 164) dX11_goesOn_164 rfl ?_
      refine q_getI (pc := 165) (v := rI h1 164 23) dX11_goesOn_165 lk_RX11_245 (lyc rfl) (rI_k (by decide)) ?_
      refine z_iconst (pc := 168) (v := 1) dX11_goesOn_168 (by decide) ?_
      refine z_iadd (pc := 169) dX11_goesOn_169 ?_
      refine q_putI (pc := 170) dX11_goesOn_170 lk_RX11_245 (lyc rfl) ?_
      refine z_goto (pc := 173) (tgt := 112) dX11_goesOn_173 (by decide) ?_
      exact F
theorem g_X11_goesOn_199  {h : zHp} {Q : zHp → Prop}  (G : zG h) (F : vp_in (rI h 164 23) 120 ∧ (Q (wI (wI h 164 24 (rI h 174 ((Int32.toNatClampNeg (rI h 164 23))))) 164 23 ((rI h 164 23) + 1)))) : zlV M_X11_goesOn 199 [some (.ref 164)] [.ref 164] h Q := by
  refine z_aload_n (pc := 199) dX11_goesOn_199 rfl rfl ?_
  refine q_getR (pc := 200) (i := 174) dX11_goesOn_200 lk_RX11_37 (lyc rfl) (G 164 20 174 rfl) ?_
  refine z_aload_n (pc := 203) dX11_goesOn_203 rfl rfl ?_
  refine q_getI (pc := 204) (v := rI h 164 23) dX11_goesOn_204 lk_RX11_245 (lyc rfl) rfl ?_
  obtain ⟨k1, F⟩ := F
  refine q_iald (pc := 207) (j := (Int32.toNatClampNeg (rI h 164 23))) (v := rI h 174 ((Int32.toNatClampNeg (rI h 164 23)))) dX11_goesOn_207 (lyc rfl) (zvn (lnc rfl) k1) rfl rfl ?_
  refine z_goto (pc := 208) (tgt := 212) dX11_goesOn_208 (by decide) ?_
  refine q_putI (pc := 212) dX11_goesOn_212 lk_RX11_257 (lyc rfl) ?_
  refine z_aload_n (pc := 215) dX11_goesOn_215 rfl rfl ?_
  refine z_dup (pc := 216) dX11_goesOn_216 rfl ?_
  refine q_getI (pc := 217) (v := rI h 164 23) dX11_goesOn_217 lk_RX11_245 (lyc rfl) (rI_k (by decide)) ?_
  refine z_iconst (pc := 220) (v := 1) dX11_goesOn_220 (by decide) ?_
  refine z_iadd (pc := 221) dX11_goesOn_221 ?_
  refine q_putI (pc := 222) dX11_goesOn_222 lk_RX11_245 (lyc rfl) ?_
  exact q_retV (pc := 225) dX11_goesOn_225 rfl F
theorem g_X11_isWord {i1 : Nat} {h : zHp} {Q : Int32 → zHp → Prop} (hi1 : i1 < 13) (G : zG h) (F : (¬ rI h 164 24 = 1 → (zlI M_X11_isWord 32 [some (.ref 164), some (.ref (1010 + i1)), some (.int 0), some (.int 0)] [] h Q)) ∧ (rI h 164 24 = 1 → (zcI M_J0_length_8abf5 [.ref (1010 + i1)] h (fun vh1 h1 => zG h1 ∧ ((¬ (rI h 164 23) - (rI h 164 22) = vh1 → (zlI M_X11_isWord 32 [some (.ref 164), some (.ref (1010 + i1)), some (.int 0), some (.int 0)] [] h1 Q)) ∧ ((rI h 164 23) - (rI h 164 22) = vh1 → (zlI M_X11_isWord 32 [some (.ref 164), some (.ref (1010 + i1)), some (.int 1), some (.int 0)] [] h1 Q))))))) : zcI M_X11_isWord [.ref 164, .ref (1010 + i1)] h Q := by
  show zw zNT zNT M_X11_isWord 0 [some (.ref 164), some (.ref (1010 + i1)), none, none] [] h _
  refine z_aload_n (pc := 0) dX11_isWord_0 rfl rfl ?_
  refine q_getI (pc := 1) (v := rI h 164 24) dX11_isWord_1 lk_RX11_257 (lyc rfl) rfl ?_
  refine z_iconst (pc := 4) (v := 1) dX11_isWord_4 (by decide) ?_
  refine z_icmp_ne (pc := 5) (tgt := 28) dX11_isWord_5 (by decide) (fun k3 => ?_) (fun k3 => ?_)
  · replace F := F.1 k3
    refine z_iconst (pc := 28) (v := 0) dX11_isWord_28 (by decide) ?_
    refine z_istore_n (pc := 29) (ls' := [some (.ref 164), some (.ref (1010 + i1)), some (.int 0), none]) dX11_isWord_29 rfl (by decide) rfl ?_
    refine z_iconst (pc := 30) (v := 0) dX11_isWord_30 (by decide) ?_
    refine z_istore_n (pc := 31) (ls' := [some (.ref 164), some (.ref (1010 + i1)), some (.int 0), some (.int 0)]) dX11_isWord_31 rfl (by decide) rfl ?_
    exact F
  · replace F := F.2 k3
    refine z_aload_n (pc := 8) dX11_isWord_8 rfl rfl ?_
    refine q_getI (pc := 9) (v := rI h 164 23) dX11_isWord_9 lk_RX11_245 (lyc rfl) rfl ?_
    refine z_aload_n (pc := 12) dX11_isWord_12 rfl rfl ?_
    refine q_getI (pc := 13) (v := rI h 164 22) dX11_isWord_13 lk_RX11_251 (lyc rfl) rfl ?_
    refine z_isub (pc := 16) dX11_isWord_16 ?_
    refine z_aload_n (pc := 17) dX11_isWord_17 rfl rfl ?_
    refine q_invVS (pc := 18) (i := i1) (As := []) (st := [.int ((rI h 164 23) - (rI h 164 22))]) dX11_isWord_18 ok_J0_length_8abf5 ms_RX11_260 iv_J0_length_8abf5 pa_J0_length_8abf5 ⟨Nat.le_of_ble_eq_true rfl, Nat.le_of_ble_eq_true rfl⟩ hi1 (q_kI F (fun vh1 h1 F => ?_))
    obtain ⟨G1, F⟩ := F
    refine z_icmp_ne (pc := 21) (tgt := 28) dX11_isWord_21 (by decide) (fun k2 => ?_) (fun k2 => ?_)
    · replace F := F.1 k2
      refine z_iconst (pc := 28) (v := 0) dX11_isWord_28 (by decide) ?_
      refine z_istore_n (pc := 29) (ls' := [some (.ref 164), some (.ref (1010 + i1)), some (.int 0), none]) dX11_isWord_29 rfl (by decide) rfl ?_
      refine z_iconst (pc := 30) (v := 0) dX11_isWord_30 (by decide) ?_
      refine z_istore_n (pc := 31) (ls' := [some (.ref 164), some (.ref (1010 + i1)), some (.int 0), some (.int 0)]) dX11_isWord_31 rfl (by decide) rfl ?_
      exact F
    · replace F := F.2 k2
      refine z_iconst (pc := 24) (v := 1) dX11_isWord_24 (by decide) ?_
      refine z_goto (pc := 25) (tgt := 29) dX11_isWord_25 (by decide) ?_
      refine z_istore_n (pc := 29) (ls' := [some (.ref 164), some (.ref (1010 + i1)), some (.int 1), none]) dX11_isWord_29 rfl (by decide) rfl ?_
      refine z_iconst (pc := 30) (v := 0) dX11_isWord_30 (by decide) ?_
      refine z_istore_n (pc := 31) (ls' := [some (.ref 164), some (.ref (1010 + i1)), some (.int 1), some (.int 0)]) dX11_isWord_31 rfl (by decide) rfl ?_
      exact F
theorem g_X11_isWord_32 {i1 : Nat} {x2 : Int32} {x3 : Int32} {h : zHp} {Q : Int32 → zHp → Prop} (hi1 : i1 < 13) (G : zG h) (F : zcI M_J0_length_8abf5 [.ref (1010 + i1)] h (fun vh1 h1 => zG h1 ∧ ((vh1 ≤ x3 → (zB x2 ∧ Q x2 h1)) ∧ (¬ (vh1 ≤ x3) → ((x2 = 0 → (zB x2 ∧ Q x2 h1)) ∧ (¬ (x2 = 0) → (vp_in ((rI h1 164 22) + x3) 120 ∧ (zcI M_J0_charAt_5068e [.ref (1010 + i1), .int x3] h1 (fun vh2 h2 => zG h2 ∧ ((¬ rI h1 174 ((Int32.toNatClampNeg ((rI h1 164 22) + x3))) = vh2 → (zlI M_X11_isWord 32 [some (.ref 164), some (.ref (1010 + i1)), some (.int 0), some (.int (x3 + 1))] [] h2 Q)) ∧ (rI h1 174 ((Int32.toNatClampNeg ((rI h1 164 22) + x3))) = vh2 → (zlI M_X11_isWord 32 [some (.ref 164), some (.ref (1010 + i1)), some (.int 1), some (.int (x3 + 1))] [] h2 Q)))))))))))) : zlI M_X11_isWord 32 [some (.ref 164), some (.ref (1010 + i1)), some (.int x2), some (.int x3)] [] h Q := by
  refine z_iload_n (pc := 32) dX11_isWord_32 rfl rfl ?_
  refine z_aload_n (pc := 33) dX11_isWord_33 rfl rfl ?_
  refine q_invVS (pc := 34) (i := i1) (As := []) (st := [.int x3]) dX11_isWord_34 ok_J0_length_8abf5 ms_RX11_260 iv_J0_length_8abf5 pa_J0_length_8abf5 ⟨Nat.le_of_ble_eq_true rfl, Nat.le_of_ble_eq_true rfl⟩ hi1 (q_kI F (fun vh1 h1 F => ?_))
  obtain ⟨G1, F⟩ := F
  refine z_icmp_ge (pc := 37) (tgt := 75) dX11_isWord_37 (by decide) (fun k6 => ?_) (fun k6 => ?_)
  · replace F := F.1 k6
    refine z_iload_n (pc := 75) dX11_isWord_75 rfl rfl ?_
    exact q_retB (pc := 76) dX11_isWord_76 rfl F.1 F.2
  · replace F := F.2 k6
    refine z_iload_n (pc := 40) dX11_isWord_40 rfl rfl ?_
    refine z_if_eq (pc := 41) (tgt := 75) dX11_isWord_41 (by decide) (fun k5 => ?_) (fun k5 => ?_)
    · replace F := F.1 k5
      refine z_iload_n (pc := 75) dX11_isWord_75 rfl rfl ?_
      exact q_retB (pc := 76) dX11_isWord_76 rfl F.1 F.2
    · replace F := F.2 k5
      refine z_aload_n (pc := 44) dX11_isWord_44 rfl rfl ?_
      refine q_getR (pc := 45) (i := 174) dX11_isWord_45 lk_RX11_37 (lyc rfl) (G1 164 20 174 rfl) ?_
      refine z_aload_n (pc := 48) dX11_isWord_48 rfl rfl ?_
      refine q_getI (pc := 49) (v := rI h1 164 22) dX11_isWord_49 lk_RX11_251 (lyc rfl) rfl ?_
      refine z_iload_n (pc := 52) dX11_isWord_52 rfl rfl ?_
      refine z_iadd (pc := 53) dX11_isWord_53 ?_
      obtain ⟨k2, F⟩ := F
      refine q_iald (pc := 54) (j := (Int32.toNatClampNeg ((rI h1 164 22) + x3))) (v := rI h1 174 ((Int32.toNatClampNeg ((rI h1 164 22) + x3)))) dX11_isWord_54 (lyc rfl) (zvn (lnc rfl) k2) rfl rfl ?_
      refine z_aload_n (pc := 55) dX11_isWord_55 rfl rfl ?_
      refine z_iload_n (pc := 56) dX11_isWord_56 rfl rfl ?_
      refine q_invVS (pc := 57) (i := i1) (As := [.int x3]) (st := [.int (rI h1 174 ((Int32.toNatClampNeg ((rI h1 164 22) + x3))))]) dX11_isWord_57 ok_J0_charAt_5068e ms_RX11_263 iv_J0_charAt_5068e pa_J0_charAt_5068e ⟨Nat.le_of_ble_eq_true rfl, Nat.le_of_ble_eq_true rfl⟩ hi1 (q_kI F (fun vh2 h2 F => ?_))
      obtain ⟨G2, F⟩ := F
      refine z_icmp_ne (pc := 60) (tgt := 67) dX11_isWord_60 (by decide) (fun k4 => ?_) (fun k4 => ?_)
      · replace F := F.1 k4
        refine z_iconst (pc := 67) (v := 0) dX11_isWord_67 (by decide) ?_
        refine z_istore_n (pc := 68) (ls' := [some (.ref 164), some (.ref (1010 + i1)), some (.int 0), some (.int x3)]) dX11_isWord_68 rfl (by decide) rfl ?_
        refine z_iinc (pc := 69) (v := x3 + 1) (ls' := [some (.ref 164), some (.ref (1010 + i1)), some (.int 0), some (.int (x3 + 1))]) dX11_isWord_69 (by decide) rfl rfl rfl ?_
        refine z_goto (pc := 72) (tgt := 32) dX11_isWord_72 (by decide) ?_
        exact F
      · replace F := F.2 k4
        refine z_iconst (pc := 63) (v := 1) dX11_isWord_63 (by decide) ?_
        refine z_goto (pc := 64) (tgt := 68) dX11_isWord_64 (by decide) ?_
        refine z_istore_n (pc := 68) (ls' := [some (.ref 164), some (.ref (1010 + i1)), some (.int 1), some (.int x3)]) dX11_isWord_68 rfl (by decide) rfl ?_
        refine z_iinc (pc := 69) (v := x3 + 1) (ls' := [some (.ref 164), some (.ref (1010 + i1)), some (.int 1), some (.int (x3 + 1))]) dX11_isWord_69 (by decide) rfl rfl rfl ?_
        refine z_goto (pc := 72) (tgt := 32) dX11_isWord_72 (by decide) ?_
        exact F
theorem g_X11_wordOf {c1 : Nat} {h : zHp} {Q : Int32 → zHp → Prop} (hc1 : zWd c1) (G : zG h) (F : zlI M_X11_wordOf 4 [some (.ref 164), some (.ref c1), some (.int (-1)), some (.int 0)] [] h Q) : zcI M_X11_wordOf [.ref 164, .ref c1] h Q := by
  show zw zNT zNT M_X11_wordOf 0 [some (.ref 164), some (.ref c1), none, none] [] h _
  refine z_iconst (pc := 0) (v := -1) dX11_wordOf_0 (by decide) ?_
  refine z_istore_n (pc := 1) (ls' := [some (.ref 164), some (.ref c1), some (.int (-1)), none]) dX11_wordOf_1 rfl (by decide) rfl ?_
  refine z_iconst (pc := 2) (v := 0) dX11_wordOf_2 (by decide) ?_
  refine z_istore_n (pc := 3) (ls' := [some (.ref 164), some (.ref c1), some (.int (-1)), some (.int 0)]) dX11_wordOf_3 rfl (by decide) rfl ?_
  exact F
theorem g_X11_wordOf_4 {c1 : Nat} {x2 : Int32} {x3 : Int32} {h : zHp} {Q : Int32 → zHp → Prop} (hc1 : zWd c1) (G : zG h) (F : (nI 6 ≤ x3 → (Q x2 h)) ∧ (¬ (nI 6 ≤ x3) → (vp_in x3 6 ∧ (zcI M_X11_isWord [.ref 164, .ref (1010 + (6 * (c1 - 175) + (Int32.toNatClampNeg x3)))] h (fun vh1 h1 => zG h1 ∧ ((vh1 = 0 → (zlI M_X11_wordOf 4 [some (.ref 164), some (.ref c1), some (.int x2), some (.int (x3 + 1))] [] h1 Q)) ∧ (¬ (vh1 = 0) → (zlI M_X11_wordOf 4 [some (.ref 164), some (.ref c1), some (.int x3), some (.int (x3 + 1))] [] h1 Q)))))))) : zlI M_X11_wordOf 4 [some (.ref 164), some (.ref c1), some (.int x2), some (.int x3)] [] h Q := by
  refine z_iload_n (pc := 4) dX11_wordOf_4 rfl rfl ?_
  refine z_aload_n (pc := 5) dX11_wordOf_5 rfl rfl ?_
  refine q_alen (pc := 6) dX11_wordOf_6 (lyWd0 hc1) (lnWd0 hc1) ?_
  refine z_icmp_ge (pc := 7) (tgt := 32) dX11_wordOf_7 (by decide) (fun k4 => ?_) (fun k4 => ?_)
  · replace F := F.1 k4
    refine z_iload_n (pc := 32) dX11_wordOf_32 rfl rfl ?_
    exact q_retI (pc := 33) dX11_wordOf_33 rfl F
  · replace F := F.2 k4
    refine z_aload_n (pc := 10) dX11_wordOf_10 rfl rfl ?_
    refine z_aload_n (pc := 11) dX11_wordOf_11 rfl rfl ?_
    refine z_iload_n (pc := 12) dX11_wordOf_12 rfl rfl ?_
    obtain ⟨k1, F⟩ := F
    refine q_aald (pc := 13) (j := (Int32.toNatClampNeg x3)) (r := 1010 + (6 * (c1 - 175) + (Int32.toNatClampNeg x3))) (t := 5) dX11_wordOf_13 (lyWd0 hc1) (zvn (lnWd0 hc1) k1) rfl (grD G hc1 (zvi k1)) ?_
    refine q_invV (pc := 14) (As := [.ref (1010 + (6 * (c1 - 175) + (Int32.toNatClampNeg x3)))]) (st := []) dX11_wordOf_14 ok_X11_isWord ml_RX11_267 iv_X11_isWord pa_X11_isWord ⟨Nat.le_of_ble_eq_true rfl, Nat.le_of_ble_eq_true rfl⟩ (lyc rfl) (q_kI F (fun vh1 h1 F => ?_))
    obtain ⟨G1, F⟩ := F
    refine z_if_eq (pc := 17) (tgt := 24) dX11_wordOf_17 (by decide) (fun k3 => ?_) (fun k3 => ?_)
    · replace F := F.1 k3
      refine z_iload_n (pc := 24) dX11_wordOf_24 rfl rfl ?_
      refine z_istore_n (pc := 25) (ls' := [some (.ref 164), some (.ref c1), some (.int x2), some (.int x3)]) dX11_wordOf_25 rfl (by decide) rfl ?_
      refine z_iinc (pc := 26) (v := x3 + 1) (ls' := [some (.ref 164), some (.ref c1), some (.int x2), some (.int (x3 + 1))]) dX11_wordOf_26 (by decide) rfl rfl rfl ?_
      refine z_goto (pc := 29) (tgt := 4) dX11_wordOf_29 (by decide) ?_
      exact F
    · replace F := F.2 k3
      refine z_iload_n (pc := 20) dX11_wordOf_20 rfl rfl ?_
      refine z_goto (pc := 21) (tgt := 25) dX11_wordOf_21 (by decide) ?_
      refine z_istore_n (pc := 25) (ls' := [some (.ref 164), some (.ref c1), some (.int x3), some (.int x3)]) dX11_wordOf_25 rfl (by decide) rfl ?_
      refine z_iinc (pc := 26) (v := x3 + 1) (ls' := [some (.ref 164), some (.ref c1), some (.int x3), some (.int (x3 + 1))]) dX11_wordOf_26 (by decide) rfl rfl rfl ?_
      refine z_goto (pc := 29) (tgt := 4) dX11_wordOf_29 (by decide) ?_
      exact F
theorem g_X11_isNumber {x1 : Int32} {x2 : Int32} {h : zHp} {Q : Int32 → zHp → Prop}  (G : zG h) (F : (¬ rI h 164 24 = 2 → (Q 0 h)) ∧ (rI h 164 24 = 2 → ((rI h 164 25 ≤ x2 → (vp_in x1 3 ∧ (zcV M_X11_goesOn [.ref 164] (wI h 177 ((Int32.toNatClampNeg x1)) (rI h 164 25)) (fun h1 => zG h1 ∧ (Q 1 h1))))) ∧ (¬ (rI h 164 25 ≤ x2) → (Q 0 h))))) : zcI M_X11_isNumber [.ref 164, .int x1, .int x2] h Q := by
  show zw zNT zNT M_X11_isNumber 0 [some (.ref 164), some (.int x1), some (.int x2)] [] h _
  refine z_aload_n (pc := 0) dX11_isNumber_0 rfl rfl ?_
  refine q_getI (pc := 1) (v := rI h 164 24) dX11_isNumber_1 lk_RX11_257 (lyc rfl) rfl ?_
  refine z_iconst (pc := 4) (v := 2) dX11_isNumber_4 (by decide) ?_
  refine z_icmp_ne (pc := 5) (tgt := 16) dX11_isNumber_5 (by decide) (fun k4 => ?_) (fun k4 => ?_)
  · replace F := F.1 k4
    refine z_iconst (pc := 16) (v := 0) dX11_isNumber_16 (by decide) ?_
    exact q_retB (pc := 17) dX11_isNumber_17 rfl (Or.inl rfl) F
  · replace F := F.2 k4
    refine z_aload_n (pc := 8) dX11_isNumber_8 rfl rfl ?_
    refine q_getI (pc := 9) (v := rI h 164 25) dX11_isNumber_9 lk_RX11_254 (lyc rfl) rfl ?_
    refine z_iload_n (pc := 12) dX11_isNumber_12 rfl rfl ?_
    refine z_icmp_le (pc := 13) (tgt := 18) dX11_isNumber_13 (by decide) (fun k3 => ?_) (fun k3 => ?_)
    · replace F := F.1 k3
      refine z_aload_n (pc := 18) dX11_isNumber_18 rfl rfl ?_
      refine q_getR (pc := 19) (i := 177) dX11_isNumber_19 lk_RX11_72 (lyc rfl) (G 164 28 177 rfl) ?_
      refine z_iload_n (pc := 22) dX11_isNumber_22 rfl rfl ?_
      refine z_aload_n (pc := 23) dX11_isNumber_23 rfl rfl ?_
      refine q_getI (pc := 24) (v := rI h 164 25) dX11_isNumber_24 lk_RX11_254 (lyc rfl) rfl ?_
      obtain ⟨k1, F⟩ := F
      refine q_iast (pc := 27) (j := (Int32.toNatClampNeg x1)) dX11_isNumber_27 (lyc rfl) (zvn (lnc rfl) k1) rfl ?_
      refine z_aload_n (pc := 28) dX11_isNumber_28 rfl rfl ?_
      refine q_invV (pc := 29) (As := []) (st := []) dX11_isNumber_29 ok_X11_goesOn ml_RX11_271 iv_X11_goesOn pa_X11_goesOn ⟨Nat.le_of_ble_eq_true rfl, Nat.le_of_ble_eq_true rfl⟩ (lyc rfl) (q_kV F (fun h1 F => ?_))
      obtain ⟨G1, F⟩ := F
      refine z_iconst (pc := 32) (v := 1) dX11_isNumber_32 (by decide) ?_
      exact q_retB (pc := 33) dX11_isNumber_33 rfl (Or.inr rfl) F
    · replace F := F.2 k3
      refine z_iconst (pc := 16) (v := 0) dX11_isNumber_16 (by decide) ?_
      exact q_retB (pc := 17) dX11_isNumber_17 rfl (Or.inl rfl) F
theorem g_X11_isValue {x1 : Int32} {h : zHp} {Q : Int32 → zHp → Prop}  (G : zG h) (F : (¬ rI h 164 24 = 45 → (((0 : Int32) = 0 → (zlI M_X11_isValue 23 [some (.ref 164), some (.int x1), some (.int 0)] [] h Q)) ∧ (¬ ((0 : Int32) = 0) → (zcV M_X11_goesOn [.ref 164] h (fun h1 => zG h1 ∧ (zlI M_X11_isValue 23 [some (.ref 164), some (.int x1), some (.int 0)] [] h1 Q)))))) ∧ (rI h 164 24 = 45 → (((1 : Int32) = 0 → (zlI M_X11_isValue 23 [some (.ref 164), some (.int x1), some (.int 1)] [] h Q)) ∧ (¬ ((1 : Int32) = 0) → (zcV M_X11_goesOn [.ref 164] h (fun h2 => zG h2 ∧ (zlI M_X11_isValue 23 [some (.ref 164), some (.int x1), some (.int 1)] [] h2 Q))))))) : zcI M_X11_isValue [.ref 164, .int x1] h Q := by
  show zw zNT zNT M_X11_isValue 0 [some (.ref 164), some (.int x1), none] [] h _
  refine z_aload_n (pc := 0) dX11_isValue_0 rfl rfl ?_
  refine q_getI (pc := 1) (v := rI h 164 24) dX11_isValue_1 lk_RX11_257 (lyc rfl) rfl ?_
  refine z_bipush (pc := 4) (v := 45) dX11_isValue_4 (by decide) ?_
  refine z_icmp_ne (pc := 6) (tgt := 13) dX11_isValue_6 (by decide) (fun k5 => ?_) (fun k5 => ?_)
  · replace F := F.1 k5
    refine z_iconst (pc := 13) (v := 0) dX11_isValue_13 (by decide) ?_
    refine z_istore_n (pc := 14) (ls' := [some (.ref 164), some (.int x1), some (.int 0)]) dX11_isValue_14 rfl (by decide) rfl ?_
    refine z_iload_n (pc := 15) dX11_isValue_15 rfl rfl ?_
    refine z_if_eq (pc := 16) (tgt := 23) dX11_isValue_16 (by decide) (fun k2 => ?_) (fun k2 => ?_)
    · replace F := F.1 k2
      exact F
    · replace F := F.2 k2
      refine z_aload_n (pc := 19) dX11_isValue_19 rfl rfl ?_
      refine q_invV (pc := 20) (As := []) (st := []) dX11_isValue_20 ok_X11_goesOn ml_RX11_271 iv_X11_goesOn pa_X11_goesOn ⟨Nat.le_of_ble_eq_true rfl, Nat.le_of_ble_eq_true rfl⟩ (lyc rfl) (q_kV F (fun h1 F => ?_))
      obtain ⟨G1, F⟩ := F
      exact F
  · replace F := F.2 k5
    refine z_iconst (pc := 9) (v := 1) dX11_isValue_9 (by decide) ?_
    refine z_goto (pc := 10) (tgt := 14) dX11_isValue_10 (by decide) ?_
    refine z_istore_n (pc := 14) (ls' := [some (.ref 164), some (.int x1), some (.int 1)]) dX11_isValue_14 rfl (by decide) rfl ?_
    refine z_iload_n (pc := 15) dX11_isValue_15 rfl rfl ?_
    refine z_if_eq (pc := 16) (tgt := 23) dX11_isValue_16 (by decide) (fun k4 => ?_) (fun k4 => ?_)
    · replace F := F.1 k4
      exact F
    · replace F := F.2 k4
      refine z_aload_n (pc := 19) dX11_isValue_19 rfl rfl ?_
      refine q_invV (pc := 20) (As := []) (st := []) dX11_isValue_20 ok_X11_goesOn ml_RX11_271 iv_X11_goesOn pa_X11_goesOn ⟨Nat.le_of_ble_eq_true rfl, Nat.le_of_ble_eq_true rfl⟩ (lyc rfl) (q_kV F (fun h2 F => ?_))
      obtain ⟨G2, F⟩ := F
      exact F
theorem g_X11_isValue_23 {x1 : Int32} {x2 : Int32} {h : zHp} {Q : Int32 → zHp → Prop}  (G : zG h) (F : zcI M_X11_isNumber [.ref 164, .int x1, .int 9] h (fun vh1 h1 => zG h1 ∧ ((¬ vh1 = 0 → ((x2 = 0 → (vp_in x1 3 ∧ (Q 1 (wI h1 177 ((Int32.toNatClampNeg x1)) (rI h1 177 ((Int32.toNatClampNeg x1))))))) ∧ (¬ (x2 = 0) → (vp_in x1 3 ∧ (Q 1 (wI h1 177 ((Int32.toNatClampNeg x1)) (-(rI h1 177 ((Int32.toNatClampNeg x1)))))))))) ∧ (vh1 = 0 → (Q 0 h1))))) : zlI M_X11_isValue 23 [some (.ref 164), some (.int x1), some (.int x2)] [] h Q := by
  refine z_aload_n (pc := 23) dX11_isValue_23 rfl rfl ?_
  refine z_iload_n (pc := 24) dX11_isValue_24 rfl rfl ?_
  refine z_bipush (pc := 25) (v := 9) dX11_isValue_25 (by decide) ?_
  refine q_invV (pc := 27) (As := [.int x1, .int 9]) (st := []) dX11_isValue_27 ok_X11_isNumber ml_RX11_274 iv_X11_isNumber pa_X11_isNumber ⟨Nat.le_of_ble_eq_true rfl, Nat.le_of_ble_eq_true rfl⟩ (lyc rfl) (q_kI F (fun vh1 h1 F => ?_))
  obtain ⟨G1, F⟩ := F
  refine z_if_ne (pc := 30) (tgt := 35) dX11_isValue_30 (by decide) (fun k5 => ?_) (fun k5 => ?_)
  · replace F := F.1 k5
    refine z_aload_n (pc := 35) dX11_isValue_35 rfl rfl ?_
    refine q_getR (pc := 36) (i := 177) dX11_isValue_36 lk_RX11_72 (lyc rfl) (G1 164 28 177 rfl) ?_
    refine z_iload_n (pc := 39) dX11_isValue_39 rfl rfl ?_
    refine z_iload_n (pc := 40) dX11_isValue_40 rfl rfl ?_
    refine z_if_eq (pc := 41) (tgt := 54) dX11_isValue_41 (by decide) (fun k4 => ?_) (fun k4 => ?_)
    · replace F := F.1 k4
      refine z_aload_n (pc := 54) dX11_isValue_54 rfl rfl ?_
      refine q_getR (pc := 55) (i := 177) dX11_isValue_55 lk_RX11_72 (lyc rfl) (G1 164 28 177 rfl) ?_
      refine z_iload_n (pc := 58) dX11_isValue_58 rfl rfl ?_
      obtain ⟨k2, F⟩ := F
      refine q_iald (pc := 59) (j := (Int32.toNatClampNeg x1)) (v := rI h1 177 ((Int32.toNatClampNeg x1))) dX11_isValue_59 (lyc rfl) (zvn (lnc rfl) k2) rfl rfl ?_
      refine q_iast (pc := 60) (j := (Int32.toNatClampNeg x1)) dX11_isValue_60 (lyc rfl) (zvn (lnc rfl) k2) rfl ?_
      refine z_iconst (pc := 61) (v := 1) dX11_isValue_61 (by decide) ?_
      exact q_retB (pc := 62) dX11_isValue_62 rfl (Or.inr rfl) F
    · replace F := F.2 k4
      refine z_aload_n (pc := 44) dX11_isValue_44 rfl rfl ?_
      refine q_getR (pc := 45) (i := 177) dX11_isValue_45 lk_RX11_72 (lyc rfl) (G1 164 28 177 rfl) ?_
      refine z_iload_n (pc := 48) dX11_isValue_48 rfl rfl ?_
      obtain ⟨k3, F⟩ := F
      refine q_iald (pc := 49) (j := (Int32.toNatClampNeg x1)) (v := rI h1 177 ((Int32.toNatClampNeg x1))) dX11_isValue_49 (lyc rfl) (zvn (lnc rfl) k3) rfl rfl ?_
      refine z_ineg (pc := 50) dX11_isValue_50 ?_
      refine z_goto (pc := 51) (tgt := 60) dX11_isValue_51 (by decide) ?_
      refine q_iast (pc := 60) (j := (Int32.toNatClampNeg x1)) dX11_isValue_60 (lyc rfl) (zvn (lnc rfl) k3) rfl ?_
      refine z_iconst (pc := 61) (v := 1) dX11_isValue_61 (by decide) ?_
      exact q_retB (pc := 62) dX11_isValue_62 rfl (Or.inr rfl) F
  · replace F := F.2 k5
    refine z_iconst (pc := 33) (v := 0) dX11_isValue_33 (by decide) ?_
    exact q_retB (pc := 34) dX11_isValue_34 rfl (Or.inl rfl) F
theorem g_X11_isPhrase  {h : zHp} {Q : Int32 → zHp → Prop}  (G : zG h) (F : zcI M_X11_wordOf [.ref 164, .ref 175] h (fun vh1 h1 => zG h1 ∧ ((vh1 = -1 → (Q 0 h1)) ∧ (¬ (vh1 = -1) → ((¬ rI h1 165 239 = 10 → (zlI M_X11_isPhrase 31 [some (.ref 164), some (.int vh1), some (.int 0)] [] h1 Q)) ∧ (rI h1 165 239 = 10 → (Q 0 h1))))))) : zcI M_X11_isPhrase [.ref 164] h Q := by
  show zw zNT zNT M_X11_isPhrase 0 [some (.ref 164), none, none] [] h _
  refine z_aload_n (pc := 0) dX11_isPhrase_0 rfl rfl ?_
  refine z_aload_n (pc := 1) dX11_isPhrase_1 rfl rfl ?_
  refine q_getR (pc := 2) (i := 175) dX11_isPhrase_2 lk_RX11_54 (lyc rfl) (G 164 26 175 rfl) ?_
  refine q_invV (pc := 5) (As := [.ref 175]) (st := []) dX11_isPhrase_5 ok_X11_wordOf ml_RX11_277 iv_X11_wordOf pa_X11_wordOf ⟨Nat.le_of_ble_eq_true rfl, Nat.le_of_ble_eq_true rfl⟩ (lyc rfl) (q_kI F (fun vh1 h1 F => ?_))
  obtain ⟨G1, F⟩ := F
  refine z_istore_n (pc := 8) (ls' := [some (.ref 164), some (.int vh1), none]) dX11_isPhrase_8 rfl (by decide) rfl ?_
  refine z_iload_n (pc := 9) dX11_isPhrase_9 rfl rfl ?_
  refine z_iconst (pc := 10) (v := -1) dX11_isPhrase_10 (by decide) ?_
  refine z_icmp_eq (pc := 11) (tgt := 27) dX11_isPhrase_11 (by decide) (fun k3 => ?_) (fun k3 => ?_)
  · replace F := F.1 k3
    refine z_iconst (pc := 27) (v := 0) dX11_isPhrase_27 (by decide) ?_
    exact q_retB (pc := 28) dX11_isPhrase_28 rfl (Or.inl rfl) F
  · replace F := F.2 k3
    refine z_aload_n (pc := 14) dX11_isPhrase_14 rfl rfl ?_
    refine q_getR (pc := 15) (i := 165) dX11_isPhrase_15 lk_RX11_7 (lyc rfl) (G1 164 0 165 rfl) ?_
    refine z_sipush (pc := 18) (v := 239) dX11_isPhrase_18 (by decide) ?_
    refine q_iald (pc := 21) (j := 239) (v := rI h1 165 239) dX11_isPhrase_21 (lyc rfl) (zvl (lnc rfl) (by decide)) (by decide) rfl ?_
    refine z_bipush (pc := 22) (v := 10) dX11_isPhrase_22 (by decide) ?_
    refine z_icmp_ne (pc := 24) (tgt := 29) dX11_isPhrase_24 (by decide) (fun k2 => ?_) (fun k2 => ?_)
    · replace F := F.1 k2
      refine z_iconst (pc := 29) (v := 0) dX11_isPhrase_29 (by decide) ?_
      refine z_istore_n (pc := 30) (ls' := [some (.ref 164), some (.int vh1), some (.int 0)]) dX11_isPhrase_30 rfl (by decide) rfl ?_
      exact F
    · replace F := F.2 k2
      refine z_iconst (pc := 27) (v := 0) dX11_isPhrase_27 (by decide) ?_
      exact q_retB (pc := 28) dX11_isPhrase_28 rfl (Or.inl rfl) F
theorem g_X11_isPhrase_31 {x1 : Int32} {x2 : Int32} {h : zHp} {Q : Int32 → zHp → Prop}  (G : zG h) (F : (3 ≤ x2 → (zcV M_X11_goesOn [.ref 164] h (fun h1 => zG h1 ∧ ((x1 ≤ 0 → (zlI M_X11_isPhrase 87 [some (.ref 164), some (.int x1), some (.int x2)] [] h1 Q)) ∧ (¬ (x1 ≤ 0) → ((¬ x1 = 1 → ((¬ x1 = 5 → (zcI M_X11_isNumber [.ref 164, .int 0, .int 5] h1 (fun vh2 h2 => zG h2 ∧ ((¬ vh2 = 0 → (zlI M_X11_isPhrase 87 [some (.ref 164), some (.int x1), some (.int x2)] [] h2 Q)) ∧ (vh2 = 0 → (Q 0 h2)))))) ∧ (x1 = 5 → (zcI M_X11_isNumber [.ref 164, .int 0, .int 7] h1 (fun vh3 h3 => zG h3 ∧ ((¬ vh3 = 0 → (zlI M_X11_isPhrase 87 [some (.ref 164), some (.int x1), some (.int x2)] [] h3 Q)) ∧ (vh3 = 0 → (Q 0 h3)))))))) ∧ (x1 = 1 → (zcI M_X11_isNumber [.ref 164, .int 0, .int 1] h1 (fun vh4 h4 => zG h4 ∧ ((¬ vh4 = 0 → (zlI M_X11_isPhrase 87 [some (.ref 164), some (.int x1), some (.int x2)] [] h4 Q)) ∧ (vh4 = 0 → (Q 0 h4)))))))))))) ∧ (¬ (3 ≤ x2) → (vp_in x2 3 ∧ (zlI M_X11_isPhrase 31 [some (.ref 164), some (.int x1), some (.int (x2 + 1))] [] (wI h 177 ((Int32.toNatClampNeg x2)) 0) Q)))) : zlI M_X11_isPhrase 31 [some (.ref 164), some (.int x1), some (.int x2)] [] h Q := by
  refine z_iload_n (pc := 31) dX11_isPhrase_31 rfl rfl ?_
  refine z_iconst (pc := 32) (v := 3) dX11_isPhrase_32 (by decide) ?_
  refine z_icmp_ge (pc := 33) (tgt := 49) dX11_isPhrase_33 (by decide) (fun k12 => ?_) (fun k12 => ?_)
  · replace F := F.1 k12
    refine z_aload_n (pc := 49) dX11_isPhrase_49 rfl rfl ?_
    refine q_invV (pc := 50) (As := []) (st := []) dX11_isPhrase_50 ok_X11_goesOn ml_RX11_271 iv_X11_goesOn pa_X11_goesOn ⟨Nat.le_of_ble_eq_true rfl, Nat.le_of_ble_eq_true rfl⟩ (lyc rfl) (q_kV F (fun h1 F => ?_))
    obtain ⟨G1, F⟩ := F
    refine z_iload_n (pc := 53) dX11_isPhrase_53 rfl rfl ?_
    refine z_if_le (pc := 54) (tgt := 87) dX11_isPhrase_54 (by decide) (fun k10 => ?_) (fun k10 => ?_)
    · replace F := F.1 k10
      exact F
    · replace F := F.2 k10
      refine z_aload_n (pc := 57) dX11_isPhrase_57 rfl rfl ?_
      refine z_iconst (pc := 58) (v := 0) dX11_isPhrase_58 (by decide) ?_
      refine z_iload_n (pc := 59) dX11_isPhrase_59 rfl rfl ?_
      refine z_iconst (pc := 60) (v := 1) dX11_isPhrase_60 (by decide) ?_
      refine z_icmp_ne (pc := 61) (tgt := 68) dX11_isPhrase_61 (by decide) (fun k9 => ?_) (fun k9 => ?_)
      · replace F := F.1 k9
        refine z_iload_n (pc := 68) dX11_isPhrase_68 rfl rfl ?_
        refine z_iconst (pc := 69) (v := 5) dX11_isPhrase_69 (by decide) ?_
        refine z_icmp_ne (pc := 70) (tgt := 78) dX11_isPhrase_70 (by decide) (fun k6 => ?_) (fun k6 => ?_)
        · replace F := F.1 k6
          refine z_iconst (pc := 78) (v := 5) dX11_isPhrase_78 (by decide) ?_
          refine q_invV (pc := 79) (As := [.int 0, .int 5]) (st := []) dX11_isPhrase_79 ok_X11_isNumber ml_RX11_274 iv_X11_isNumber pa_X11_isNumber ⟨Nat.le_of_ble_eq_true rfl, Nat.le_of_ble_eq_true rfl⟩ (lyc rfl) (q_kI F (fun vh2 h2 F => ?_))
          obtain ⟨G2, F⟩ := F
          refine z_if_ne (pc := 82) (tgt := 87) dX11_isPhrase_82 (by decide) (fun k3 => ?_) (fun k3 => ?_)
          · replace F := F.1 k3
            exact F
          · replace F := F.2 k3
            refine z_iconst (pc := 85) (v := 0) dX11_isPhrase_85 (by decide) ?_
            exact q_retB (pc := 86) dX11_isPhrase_86 rfl (Or.inl rfl) F
        · replace F := F.2 k6
          refine z_bipush (pc := 73) (v := 7) dX11_isPhrase_73 (by decide) ?_
          refine z_goto (pc := 75) (tgt := 79) dX11_isPhrase_75 (by decide) ?_
          refine q_invV (pc := 79) (As := [.int 0, .int 7]) (st := []) dX11_isPhrase_79 ok_X11_isNumber ml_RX11_274 iv_X11_isNumber pa_X11_isNumber ⟨Nat.le_of_ble_eq_true rfl, Nat.le_of_ble_eq_true rfl⟩ (lyc rfl) (q_kI F (fun vh3 h3 F => ?_))
          obtain ⟨G3, F⟩ := F
          refine z_if_ne (pc := 82) (tgt := 87) dX11_isPhrase_82 (by decide) (fun k5 => ?_) (fun k5 => ?_)
          · replace F := F.1 k5
            exact F
          · replace F := F.2 k5
            refine z_iconst (pc := 85) (v := 0) dX11_isPhrase_85 (by decide) ?_
            exact q_retB (pc := 86) dX11_isPhrase_86 rfl (Or.inl rfl) F
      · replace F := F.2 k9
        refine z_iconst (pc := 64) (v := 1) dX11_isPhrase_64 (by decide) ?_
        refine z_goto (pc := 65) (tgt := 79) dX11_isPhrase_65 (by decide) ?_
        refine q_invV (pc := 79) (As := [.int 0, .int 1]) (st := []) dX11_isPhrase_79 ok_X11_isNumber ml_RX11_274 iv_X11_isNumber pa_X11_isNumber ⟨Nat.le_of_ble_eq_true rfl, Nat.le_of_ble_eq_true rfl⟩ (lyc rfl) (q_kI F (fun vh4 h4 F => ?_))
        obtain ⟨G4, F⟩ := F
        refine z_if_ne (pc := 82) (tgt := 87) dX11_isPhrase_82 (by decide) (fun k8 => ?_) (fun k8 => ?_)
        · replace F := F.1 k8
          exact F
        · replace F := F.2 k8
          refine z_iconst (pc := 85) (v := 0) dX11_isPhrase_85 (by decide) ?_
          exact q_retB (pc := 86) dX11_isPhrase_86 rfl (Or.inl rfl) F
  · replace F := F.2 k12
    refine z_aload_n (pc := 36) dX11_isPhrase_36 rfl rfl ?_
    refine q_getR (pc := 37) (i := 177) dX11_isPhrase_37 lk_RX11_72 (lyc rfl) (G 164 28 177 rfl) ?_
    refine z_iload_n (pc := 40) dX11_isPhrase_40 rfl rfl ?_
    refine z_iconst (pc := 41) (v := 0) dX11_isPhrase_41 (by decide) ?_
    obtain ⟨k11, F⟩ := F
    refine q_iast (pc := 42) (j := (Int32.toNatClampNeg x2)) dX11_isPhrase_42 (lyc rfl) (zvn (lnc rfl) k11) rfl ?_
    refine z_iinc (pc := 43) (v := x2 + 1) (ls' := [some (.ref 164), some (.int x1), some (.int (x2 + 1))]) dX11_isPhrase_43 (by decide) rfl rfl rfl ?_
    refine z_goto (pc := 46) (tgt := 31) dX11_isPhrase_46 (by decide) ?_
    exact F
theorem g_X11_isPhrase_87 {x1 : Int32} {x2 : Int32} {h : zHp} {Q : Int32 → zHp → Prop}  (G : zG h) (F : zcI M_X11_wordOf [.ref 164, .ref 176] h (fun vh1 h1 => zG h1 ∧ ((¬ vh1 = -1 → (zcV M_X11_goesOn [.ref 164] h1 (fun h2 => zG h2 ∧ ((3 ≤ vh1 → (zlI M_X11_isPhrase 123 [some (.ref 164), some (.int x1), some (.int vh1)] [] h2 Q)) ∧ (¬ (3 ≤ vh1) → (zcI M_X11_isNumber [.ref 164, .int 1, .int 5] h2 (fun vh3 h3 => zG h3 ∧ ((¬ vh3 = 0 → (zlI M_X11_isPhrase 123 [some (.ref 164), some (.int x1), some (.int vh1)] [] h3 Q)) ∧ (vh3 = 0 → (Q 0 h3)))))))))) ∧ (vh1 = -1 → (Q 0 h1))))) : zlI M_X11_isPhrase 87 [some (.ref 164), some (.int x1), some (.int x2)] [] h Q := by
  refine z_aload_n (pc := 87) dX11_isPhrase_87 rfl rfl ?_
  refine z_aload_n (pc := 88) dX11_isPhrase_88 rfl rfl ?_
  refine q_getR (pc := 89) (i := 176) dX11_isPhrase_89 lk_RX11_69 (lyc rfl) (G 164 27 176 rfl) ?_
  refine q_invV (pc := 92) (As := [.ref 176]) (st := []) dX11_isPhrase_92 ok_X11_wordOf ml_RX11_277 iv_X11_wordOf pa_X11_wordOf ⟨Nat.le_of_ble_eq_true rfl, Nat.le_of_ble_eq_true rfl⟩ (lyc rfl) (q_kI F (fun vh1 h1 F => ?_))
  obtain ⟨G1, F⟩ := F
  refine z_istore_n (pc := 95) (ls' := [some (.ref 164), some (.int x1), some (.int vh1)]) dX11_isPhrase_95 rfl (by decide) rfl ?_
  refine z_iload_n (pc := 96) dX11_isPhrase_96 rfl rfl ?_
  refine z_iconst (pc := 97) (v := -1) dX11_isPhrase_97 (by decide) ?_
  refine z_icmp_ne (pc := 98) (tgt := 103) dX11_isPhrase_98 (by decide) (fun k6 => ?_) (fun k6 => ?_)
  · replace F := F.1 k6
    refine z_aload_n (pc := 103) dX11_isPhrase_103 rfl rfl ?_
    refine q_invV (pc := 104) (As := []) (st := []) dX11_isPhrase_104 ok_X11_goesOn ml_RX11_271 iv_X11_goesOn pa_X11_goesOn ⟨Nat.le_of_ble_eq_true rfl, Nat.le_of_ble_eq_true rfl⟩ (lyc rfl) (q_kV F (fun h2 F => ?_))
    obtain ⟨G2, F⟩ := F
    refine z_iload_n (pc := 107) dX11_isPhrase_107 rfl rfl ?_
    refine z_iconst (pc := 108) (v := 3) dX11_isPhrase_108 (by decide) ?_
    refine z_icmp_ge (pc := 109) (tgt := 123) dX11_isPhrase_109 (by decide) (fun k5 => ?_) (fun k5 => ?_)
    · replace F := F.1 k5
      exact F
    · replace F := F.2 k5
      refine z_aload_n (pc := 112) dX11_isPhrase_112 rfl rfl ?_
      refine z_iconst (pc := 113) (v := 1) dX11_isPhrase_113 (by decide) ?_
      refine z_iconst (pc := 114) (v := 5) dX11_isPhrase_114 (by decide) ?_
      refine q_invV (pc := 115) (As := [.int 1, .int 5]) (st := []) dX11_isPhrase_115 ok_X11_isNumber ml_RX11_274 iv_X11_isNumber pa_X11_isNumber ⟨Nat.le_of_ble_eq_true rfl, Nat.le_of_ble_eq_true rfl⟩ (lyc rfl) (q_kI F (fun vh3 h3 F => ?_))
      obtain ⟨G3, F⟩ := F
      refine z_if_ne (pc := 118) (tgt := 123) dX11_isPhrase_118 (by decide) (fun k4 => ?_) (fun k4 => ?_)
      · replace F := F.1 k4
        exact F
      · replace F := F.2 k4
        refine z_iconst (pc := 121) (v := 0) dX11_isPhrase_121 (by decide) ?_
        exact q_retB (pc := 122) dX11_isPhrase_122 rfl (Or.inl rfl) F
  · replace F := F.2 k6
    refine z_iconst (pc := 101) (v := 0) dX11_isPhrase_101 (by decide) ?_
    exact q_retB (pc := 102) dX11_isPhrase_102 rfl (Or.inl rfl) F
theorem g_X11_isPhrase_123 {x1 : Int32} {x2 : Int32} {h : zHp} {Q : Int32 → zHp → Prop}  (G : zG h) (F : zcI M_X11_in [.int x2, .int 3, .int 4] h (fun vh1 h1 => zG h1 ∧ ((vh1 = 0 → (zlI M_X11_isPhrase 150 [some (.ref 164), some (.int x1), some (.int x2)] [] h1 Q)) ∧ (¬ (vh1 = 0) → (zcI M_X11_isValue [.ref 164, .int 1] h1 (fun vh2 h2 => zG h2 ∧ ((vh2 = 0 → (Q 0 h2)) ∧ (¬ (vh2 = 0) → (zcI M_X11_isValue [.ref 164, .int 2] h2 (fun vh3 h3 => zG h3 ∧ ((¬ vh3 = 0 → (zlI M_X11_isPhrase 150 [some (.ref 164), some (.int x1), some (.int x2)] [] h3 Q)) ∧ (vh3 = 0 → (Q 0 h3))))))))))))) : zlI M_X11_isPhrase 123 [some (.ref 164), some (.int x1), some (.int x2)] [] h Q := by
  refine z_iload_n (pc := 123) dX11_isPhrase_123 rfl rfl ?_
  refine z_iconst (pc := 124) (v := 3) dX11_isPhrase_124 (by decide) ?_
  refine z_iconst (pc := 125) (v := 4) dX11_isPhrase_125 (by decide) ?_
  refine q_invS (pc := 126) (As := [.int x2, .int 3, .int 4]) (st := []) dX11_isPhrase_126 ok_X11_in ml_RX11_84 st_X11_in pa_X11_in ⟨Nat.le_of_ble_eq_true rfl, Nat.le_of_ble_eq_true rfl⟩ (q_kI F (fun vh1 h1 F => ?_))
  obtain ⟨G1, F⟩ := F
  refine z_if_eq (pc := 129) (tgt := 150) dX11_isPhrase_129 (by decide) (fun k6 => ?_) (fun k6 => ?_)
  · replace F := F.1 k6
    exact F
  · replace F := F.2 k6
    refine z_aload_n (pc := 132) dX11_isPhrase_132 rfl rfl ?_
    refine z_iconst (pc := 133) (v := 1) dX11_isPhrase_133 (by decide) ?_
    refine q_invV (pc := 134) (As := [.int 1]) (st := []) dX11_isPhrase_134 ok_X11_isValue ml_RX11_281 iv_X11_isValue pa_X11_isValue ⟨Nat.le_of_ble_eq_true rfl, Nat.le_of_ble_eq_true rfl⟩ (lyc rfl) (q_kI F (fun vh2 h2 F => ?_))
    obtain ⟨G2, F⟩ := F
    refine z_if_eq (pc := 137) (tgt := 148) dX11_isPhrase_137 (by decide) (fun k5 => ?_) (fun k5 => ?_)
    · replace F := F.1 k5
      refine z_iconst (pc := 148) (v := 0) dX11_isPhrase_148 (by decide) ?_
      exact q_retB (pc := 149) dX11_isPhrase_149 rfl (Or.inl rfl) F
    · replace F := F.2 k5
      refine z_aload_n (pc := 140) dX11_isPhrase_140 rfl rfl ?_
      refine z_iconst (pc := 141) (v := 2) dX11_isPhrase_141 (by decide) ?_
      refine q_invV (pc := 142) (As := [.int 2]) (st := []) dX11_isPhrase_142 ok_X11_isValue ml_RX11_281 iv_X11_isValue pa_X11_isValue ⟨Nat.le_of_ble_eq_true rfl, Nat.le_of_ble_eq_true rfl⟩ (lyc rfl) (q_kI F (fun vh3 h3 F => ?_))
      obtain ⟨G3, F⟩ := F
      refine z_if_ne (pc := 145) (tgt := 150) dX11_isPhrase_145 (by decide) (fun k4 => ?_) (fun k4 => ?_)
      · replace F := F.1 k4
        exact F
      · replace F := F.2 k4
        refine z_iconst (pc := 148) (v := 0) dX11_isPhrase_148 (by decide) ?_
        exact q_retB (pc := 149) dX11_isPhrase_149 rfl (Or.inl rfl) F
theorem g_X11_isPhrase_150 {x1 : Int32} {x2 : Int32} {h : zHp} {Q : Int32 → zHp → Prop}  (G : zG h) (F : zcV M_X11_lays [.ref 164, .int (rI h 165 239), .int x2, .int x1, .int (rI h 177 0), .int (rI h 177 1), .int (rI h 177 2)] h (fun h1 => zG h1 ∧ (Q 1 (wI h1 165 239 ((rI h1 165 239) + 1))))) : zlI M_X11_isPhrase 150 [some (.ref 164), some (.int x1), some (.int x2)] [] h Q := by
  refine z_aload_n (pc := 150) dX11_isPhrase_150 rfl rfl ?_
  refine z_aload_n (pc := 151) dX11_isPhrase_151 rfl rfl ?_
  refine q_getR (pc := 152) (i := 165) dX11_isPhrase_152 lk_RX11_7 (lyc rfl) (G 164 0 165 rfl) ?_
  refine z_sipush (pc := 155) (v := 239) dX11_isPhrase_155 (by decide) ?_
  refine q_iald (pc := 158) (j := 239) (v := rI h 165 239) dX11_isPhrase_158 (lyc rfl) (zvl (lnc rfl) (by decide)) (by decide) rfl ?_
  refine z_iload_n (pc := 159) dX11_isPhrase_159 rfl rfl ?_
  refine z_iload_n (pc := 160) dX11_isPhrase_160 rfl rfl ?_
  refine z_aload_n (pc := 161) dX11_isPhrase_161 rfl rfl ?_
  refine q_getR (pc := 162) (i := 177) dX11_isPhrase_162 lk_RX11_72 (lyc rfl) (G 164 28 177 rfl) ?_
  refine z_iconst (pc := 165) (v := 0) dX11_isPhrase_165 (by decide) ?_
  refine q_iald (pc := 166) (j := 0) (v := rI h 177 0) dX11_isPhrase_166 (lyc rfl) (zvl (lnc rfl) (by decide)) (by decide) rfl ?_
  refine z_aload_n (pc := 167) dX11_isPhrase_167 rfl rfl ?_
  refine q_getR (pc := 168) (i := 177) dX11_isPhrase_168 lk_RX11_72 (lyc rfl) (G 164 28 177 rfl) ?_
  refine z_iconst (pc := 171) (v := 1) dX11_isPhrase_171 (by decide) ?_
  refine q_iald (pc := 172) (j := 1) (v := rI h 177 1) dX11_isPhrase_172 (lyc rfl) (zvl (lnc rfl) (by decide)) (by decide) rfl ?_
  refine z_aload_n (pc := 173) dX11_isPhrase_173 rfl rfl ?_
  refine q_getR (pc := 174) (i := 177) dX11_isPhrase_174 lk_RX11_72 (lyc rfl) (G 164 28 177 rfl) ?_
  refine z_iconst (pc := 177) (v := 2) dX11_isPhrase_177 (by decide) ?_
  refine q_iald (pc := 178) (j := 2) (v := rI h 177 2) dX11_isPhrase_178 (lyc rfl) (zvl (lnc rfl) (by decide)) (by decide) rfl ?_
  refine q_invV (pc := 179) (As := [.int (rI h 165 239), .int x2, .int x1, .int (rI h 177 0), .int (rI h 177 1), .int (rI h 177 2)]) (st := []) dX11_isPhrase_179 ok_X11_lays ml_RX11_179 iv_X11_lays pa_X11_lays ⟨Nat.le_of_ble_eq_true rfl, Nat.le_of_ble_eq_true rfl⟩ (lyc rfl) (q_kV F (fun h1 F => ?_))
  obtain ⟨G1, F⟩ := F
  refine z_aload_n (pc := 182) dX11_isPhrase_182 rfl rfl ?_
  refine q_getR (pc := 183) (i := 165) dX11_isPhrase_183 lk_RX11_7 (lyc rfl) (G1 164 0 165 rfl) ?_
  refine z_sipush (pc := 186) (v := 239) dX11_isPhrase_186 (by decide) ?_
  refine z_dup2 (pc := 189) dX11_isPhrase_189 rfl rfl ?_
  refine q_iald (pc := 190) (j := 239) (v := rI h1 165 239) dX11_isPhrase_190 (lyc rfl) (zvl (lnc rfl) (by decide)) (by decide) rfl ?_
  refine z_iconst (pc := 191) (v := 1) dX11_isPhrase_191 (by decide) ?_
  refine z_iadd (pc := 192) dX11_isPhrase_192 ?_
  refine q_iast (pc := 193) (j := 239) dX11_isPhrase_193 (lyc rfl) (zvl (lnc rfl) (by decide)) (by decide) ?_
  refine z_iconst (pc := 194) (v := 1) dX11_isPhrase_194 (by decide) ?_
  exact q_retB (pc := 195) dX11_isPhrase_195 rfl (Or.inr rfl) F
theorem g_X11_isText  {h : zHp} {Q : Int32 → zHp → Prop}  (G : zG h) (F : zcV M_X11_goesOn [.ref 164] (wI h 164 23 0) (fun h1 => zG h1 ∧ (zlI M_X11_isText 9 [some (.ref 164)] [] h1 Q))) : zcI M_X11_isText [.ref 164] h Q := by
  show zw zNT zNT M_X11_isText 0 [some (.ref 164)] [] h _
  refine z_aload_n (pc := 0) dX11_isText_0 rfl rfl ?_
  refine z_iconst (pc := 1) (v := 0) dX11_isText_1 (by decide) ?_
  refine q_putI (pc := 2) dX11_isText_2 lk_RX11_245 (lyc rfl) ?_
  refine z_aload_n (pc := 5) dX11_isText_5 rfl rfl ?_
  refine q_invV (pc := 6) (As := []) (st := []) dX11_isText_6 ok_X11_goesOn ml_RX11_271 iv_X11_goesOn pa_X11_goesOn ⟨Nat.le_of_ble_eq_true rfl, Nat.le_of_ble_eq_true rfl⟩ (lyc rfl) (q_kV F (fun h1 F => ?_))
  obtain ⟨G1, F⟩ := F
  exact F
theorem g_X11_isText_9  {h : zHp} {Q : Int32 → zHp → Prop}  (G : zG h) (F : zcI M_X11_isPhrase [.ref 164] h (fun vh1 h1 => zG h1 ∧ ((¬ vh1 = 0 → ((¬ rI h1 164 24 = 0 → ((rI h1 164 24 = 59 → (zcV M_X11_goesOn [.ref 164] h1 (fun h2 => zG h2 ∧ (zlI M_X11_isText 9 [some (.ref 164)] [] h2 Q)))) ∧ (¬ (rI h1 164 24 = 59) → (Q 0 h1)))) ∧ (rI h1 164 24 = 0 → (Q 1 h1)))) ∧ (vh1 = 0 → (Q 0 h1))))) : zlI M_X11_isText 9 [some (.ref 164)] [] h Q := by
  refine z_aload_n (pc := 9) dX11_isText_9 rfl rfl ?_
  refine q_invV (pc := 10) (As := []) (st := []) dX11_isText_10 ok_X11_isPhrase ml_RX11_284 iv_X11_isPhrase pa_X11_isPhrase ⟨Nat.le_of_ble_eq_true rfl, Nat.le_of_ble_eq_true rfl⟩ (lyc rfl) (q_kI F (fun vh1 h1 F => ?_))
  obtain ⟨G1, F⟩ := F
  refine z_if_ne (pc := 13) (tgt := 18) dX11_isText_13 (by decide) (fun k5 => ?_) (fun k5 => ?_)
  · replace F := F.1 k5
    refine z_aload_n (pc := 18) dX11_isText_18 rfl rfl ?_
    refine q_getI (pc := 19) (v := rI h1 164 24) dX11_isText_19 lk_RX11_257 (lyc rfl) rfl ?_
    refine z_if_ne (pc := 22) (tgt := 27) dX11_isText_22 (by decide) (fun k4 => ?_) (fun k4 => ?_)
    · replace F := F.1 k4
      refine z_aload_n (pc := 27) dX11_isText_27 rfl rfl ?_
      refine q_getI (pc := 28) (v := rI h1 164 24) dX11_isText_28 lk_RX11_257 (lyc rfl) rfl ?_
      refine z_bipush (pc := 31) (v := 59) dX11_isText_31 (by decide) ?_
      refine z_icmp_eq (pc := 33) (tgt := 38) dX11_isText_33 (by decide) (fun k3 => ?_) (fun k3 => ?_)
      · replace F := F.1 k3
        refine z_aload_n (pc := 38) dX11_isText_38 rfl rfl ?_
        refine q_invV (pc := 39) (As := []) (st := []) dX11_isText_39 ok_X11_goesOn ml_RX11_271 iv_X11_goesOn pa_X11_goesOn ⟨Nat.le_of_ble_eq_true rfl, Nat.le_of_ble_eq_true rfl⟩ (lyc rfl) (q_kV F (fun h2 F => ?_))
        obtain ⟨G2, F⟩ := F
        refine z_goto (pc := 42) (tgt := 9) dX11_isText_42 (by decide) ?_
        exact F
      · replace F := F.2 k3
        refine z_iconst (pc := 36) (v := 0) dX11_isText_36 (by decide) ?_
        exact q_retB (pc := 37) dX11_isText_37 rfl (Or.inl rfl) F
    · replace F := F.2 k4
      refine z_iconst (pc := 25) (v := 1) dX11_isText_25 (by decide) ?_
      exact q_retB (pc := 26) dX11_isText_26 rfl (Or.inr rfl) F
  · replace F := F.2 k5
    refine z_iconst (pc := 16) (v := 0) dX11_isText_16 (by decide) ?_
    exact q_retB (pc := 17) dX11_isText_17 rfl (Or.inl rfl) F
theorem g_X11_text  {h : zHp} {Q : Int32 → zHp → Prop}  (G : zG h) (F : zcI M_X11_isText [.ref 164] h (fun vh1 h1 => zG h1 ∧ ((vh1 = 0 → (Q ((-100) - (rI h1 164 22)) (wI (wI h1 164 21 0) 165 239 (rI h 165 239)))) ∧ (¬ (vh1 = 0) → (zcI M_X11_changed [.ref 164, .int ((rI h1 165 239) - (rI h 165 239))] (wI h1 164 21 0) (fun vh2 h2 => zG h2 ∧ (Q vh2 h2))))))) : zcI M_X11_text [.ref 164] h Q := by
  show zw zNT zNT M_X11_text 0 [some (.ref 164), none, none] [] h _
  refine z_aload_n (pc := 0) dX11_text_0 rfl rfl ?_
  refine q_getR (pc := 1) (i := 165) dX11_text_1 lk_RX11_7 (lyc rfl) (G 164 0 165 rfl) ?_
  refine z_sipush (pc := 4) (v := 239) dX11_text_4 (by decide) ?_
  refine q_iald (pc := 7) (j := 239) (v := rI h 165 239) dX11_text_7 (lyc rfl) (zvl (lnc rfl) (by decide)) (by decide) rfl ?_
  refine z_istore_n (pc := 8) (ls' := [some (.ref 164), some (.int (rI h 165 239)), none]) dX11_text_8 rfl (by decide) rfl ?_
  refine z_aload_n (pc := 9) dX11_text_9 rfl rfl ?_
  refine q_invV (pc := 10) (As := []) (st := []) dX11_text_10 ok_X11_isText ml_RX11_288 iv_X11_isText pa_X11_isText ⟨Nat.le_of_ble_eq_true rfl, Nat.le_of_ble_eq_true rfl⟩ (lyc rfl) (q_kI F (fun vh1 h1 F => ?_))
  obtain ⟨G1, F⟩ := F
  refine z_istore_n (pc := 13) (ls' := [some (.ref 164), some (.int (rI h 165 239)), some (.int vh1)]) dX11_text_13 rfl (by decide) rfl ?_
  refine z_aload_n (pc := 14) dX11_text_14 rfl rfl ?_
  refine z_iconst (pc := 15) (v := 0) dX11_text_15 (by decide) ?_
  refine q_putI (pc := 16) dX11_text_16 lk_RX11_242 (lyc rfl) ?_
  refine z_iload_n (pc := 19) dX11_text_19 rfl rfl ?_
  refine z_if_eq (pc := 20) (tgt := 38) dX11_text_20 (by decide) (fun k3 => ?_) (fun k3 => ?_)
  · replace F := F.1 k3
    refine z_aload_n (pc := 38) dX11_text_38 rfl rfl ?_
    refine q_getR (pc := 39) (i := 165) dX11_text_39 lk_RX11_7 (lyc rfl) (G1 164 0 165 rfl) ?_
    refine z_sipush (pc := 42) (v := 239) dX11_text_42 (by decide) ?_
    refine z_iload_n (pc := 45) dX11_text_45 rfl rfl ?_
    refine q_iast (pc := 46) (j := 239) dX11_text_46 (lyc rfl) (zvl (lnc rfl) (by decide)) (by decide) ?_
    refine z_bipush (pc := 47) (v := -100) dX11_text_47 (by decide) ?_
    refine z_aload_n (pc := 49) dX11_text_49 rfl rfl ?_
    refine q_getI (pc := 50) (v := rI h1 164 22) dX11_text_50 lk_RX11_251 (lyc rfl) ((rI_k (by decide)).trans (rI_k (by decide))) ?_
    refine z_isub (pc := 53) dX11_text_53 ?_
    exact q_retI (pc := 54) dX11_text_54 rfl F
  · replace F := F.2 k3
    refine z_aload_n (pc := 23) dX11_text_23 rfl rfl ?_
    refine z_aload_n (pc := 24) dX11_text_24 rfl rfl ?_
    refine q_getR (pc := 25) (i := 165) dX11_text_25 lk_RX11_7 (lyc rfl) (G1 164 0 165 rfl) ?_
    refine z_sipush (pc := 28) (v := 239) dX11_text_28 (by decide) ?_
    refine q_iald (pc := 31) (j := 239) (v := rI h1 165 239) dX11_text_31 (lyc rfl) (zvl (lnc rfl) (by decide)) (by decide) (rI_k (by decide)) ?_
    refine z_iload_n (pc := 32) dX11_text_32 rfl rfl ?_
    refine z_isub (pc := 33) dX11_text_33 ?_
    refine q_invV (pc := 34) (As := [.int ((rI h1 165 239) - (rI h 165 239))]) (st := []) dX11_text_34 ok_X11_changed ml_RX11_167 iv_X11_changed pa_X11_changed ⟨Nat.le_of_ble_eq_true rfl, Nat.le_of_ble_eq_true rfl⟩ (lyc rfl) (q_kI F (fun vh2 h2 F => ?_))
    obtain ⟨G2, F⟩ := F
    exact q_retI (pc := 37) dX11_text_37 rfl F
theorem g_X11_says {x1 : Int32} {x2 : Int32} {h : zHp} {Q : zHp → Prop}  (G : zG h) (F : vp_in ((40 * x1) + (rI h 164 29)) 160 ∧ (Q (wI (wI h 180 ((Int32.toNatClampNeg ((40 * x1) + (rI h 164 29)))) x2) 164 29 ((rI h 164 29) + 1)))) : zcV M_X11_says [.ref 164, .int x1, .int x2] h Q := by
  show zw zNT zNT M_X11_says 0 [some (.ref 164), some (.int x1), some (.int x2)] [] h _
  refine z_aload_n (pc := 0) dX11_says_0 rfl rfl ?_
  refine q_getR (pc := 1) (i := 180) dX11_says_1 lk_RX11_81 (lyc rfl) (G 164 32 180 rfl) ?_
  refine z_bipush (pc := 4) (v := 40) dX11_says_4 (by decide) ?_
  refine z_iload_n (pc := 6) dX11_says_6 rfl rfl ?_
  refine z_imul (pc := 7) dX11_says_7 ?_
  refine z_aload_n (pc := 8) dX11_says_8 rfl rfl ?_
  refine q_getI (pc := 9) (v := rI h 164 29) dX11_says_9 lk_RX11_291 (lyc rfl) rfl ?_
  refine z_iadd (pc := 12) dX11_says_12 ?_
  refine z_iload_n (pc := 13) dX11_says_13 rfl rfl ?_
  obtain ⟨k1, F⟩ := F
  refine q_iast (pc := 14) (j := (Int32.toNatClampNeg ((40 * x1) + (rI h 164 29)))) dX11_says_14 (lyc rfl) (zvn (lnc rfl) k1) rfl ?_
  refine z_aload_n (pc := 15) dX11_says_15 rfl rfl ?_
  refine z_dup (pc := 16) dX11_says_16 rfl ?_
  refine q_getI (pc := 17) (v := rI h 164 29) dX11_says_17 lk_RX11_291 (lyc rfl) (rI_c (by decide)) ?_
  refine z_iconst (pc := 20) (v := 1) dX11_says_20 (by decide) ?_
  refine z_iadd (pc := 21) dX11_says_21 ?_
  refine q_putI (pc := 22) dX11_says_22 lk_RX11_291 (lyc rfl) ?_
  exact q_retV (pc := 25) dX11_says_25 rfl F
theorem g_X11_saysWord {x1 : Int32} {i2 : Nat} {h : zHp} {Q : zHp → Prop} (hi2 : i2 < 13) (G : zG h) (F : (rI h 164 29 ≤ 0 → (zlV M_X11_saysWord 16 [some (.ref 164), some (.int x1), some (.ref (1010 + i2)), some (.int 0)] [] h Q)) ∧ (¬ (rI h 164 29 ≤ 0) → (zcV M_X11_says [.ref 164, .int x1, .int 32] h (fun h1 => zG h1 ∧ (zlV M_X11_saysWord 16 [some (.ref 164), some (.int x1), some (.ref (1010 + i2)), some (.int 0)] [] h1 Q))))) : zcV M_X11_saysWord [.ref 164, .int x1, .ref (1010 + i2)] h Q := by
  show zw zNT zNT M_X11_saysWord 0 [some (.ref 164), some (.int x1), some (.ref (1010 + i2)), none] [] h _
  refine z_aload_n (pc := 0) dX11_saysWord_0 rfl rfl ?_
  refine q_getI (pc := 1) (v := rI h 164 29) dX11_saysWord_1 lk_RX11_291 (lyc rfl) rfl ?_
  refine z_if_le (pc := 4) (tgt := 14) dX11_saysWord_4 (by decide) (fun k2 => ?_) (fun k2 => ?_)
  · replace F := F.1 k2
    refine z_iconst (pc := 14) (v := 0) dX11_saysWord_14 (by decide) ?_
    refine z_istore_n (pc := 15) (ls' := [some (.ref 164), some (.int x1), some (.ref (1010 + i2)), some (.int 0)]) dX11_saysWord_15 rfl (by decide) rfl ?_
    exact F
  · replace F := F.2 k2
    refine z_aload_n (pc := 7) dX11_saysWord_7 rfl rfl ?_
    refine z_iload_n (pc := 8) dX11_saysWord_8 rfl rfl ?_
    refine z_bipush (pc := 9) (v := 32) dX11_saysWord_9 (by decide) ?_
    refine q_invV (pc := 11) (As := [.int x1, .int 32]) (st := []) dX11_saysWord_11 ok_X11_says ml_RX11_294 iv_X11_says pa_X11_says ⟨Nat.le_of_ble_eq_true rfl, Nat.le_of_ble_eq_true rfl⟩ (lyc rfl) (q_kV F (fun h1 F => ?_))
    obtain ⟨G1, F⟩ := F
    refine z_iconst (pc := 14) (v := 0) dX11_saysWord_14 (by decide) ?_
    refine z_istore_n (pc := 15) (ls' := [some (.ref 164), some (.int x1), some (.ref (1010 + i2)), some (.int 0)]) dX11_saysWord_15 rfl (by decide) rfl ?_
    exact F
theorem g_X11_saysWord_16 {x1 : Int32} {i2 : Nat} {x3 : Int32} {h : zHp} {Q : zHp → Prop} (hi2 : i2 < 13) (G : zG h) (F : zcI M_J0_length_8abf5 [.ref (1010 + i2)] h (fun vh1 h1 => zG h1 ∧ ((vh1 ≤ x3 → (Q h1)) ∧ (¬ (vh1 ≤ x3) → (zcI M_J0_charAt_5068e [.ref (1010 + i2), .int x3] h1 (fun vh2 h2 => zG h2 ∧ (zcV M_X11_says [.ref 164, .int x1, .int vh2] h2 (fun h3 => zG h3 ∧ (zlV M_X11_saysWord 16 [some (.ref 164), some (.int x1), some (.ref (1010 + i2)), some (.int (x3 + 1))] [] h3 Q))))))))) : zlV M_X11_saysWord 16 [some (.ref 164), some (.int x1), some (.ref (1010 + i2)), some (.int x3)] [] h Q := by
  refine z_iload_n (pc := 16) dX11_saysWord_16 rfl rfl ?_
  refine z_aload_n (pc := 17) dX11_saysWord_17 rfl rfl ?_
  refine q_invVS (pc := 18) (i := i2) (As := []) (st := [.int x3]) dX11_saysWord_18 ok_J0_length_8abf5 ms_RX11_260 iv_J0_length_8abf5 pa_J0_length_8abf5 ⟨Nat.le_of_ble_eq_true rfl, Nat.le_of_ble_eq_true rfl⟩ hi2 (q_kI F (fun vh1 h1 F => ?_))
  obtain ⟨G1, F⟩ := F
  refine z_icmp_ge (pc := 21) (tgt := 40) dX11_saysWord_21 (by decide) (fun k4 => ?_) (fun k4 => ?_)
  · replace F := F.1 k4
    exact q_retV (pc := 40) dX11_saysWord_40 rfl F
  · replace F := F.2 k4
    refine z_aload_n (pc := 24) dX11_saysWord_24 rfl rfl ?_
    refine z_iload_n (pc := 25) dX11_saysWord_25 rfl rfl ?_
    refine z_aload_n (pc := 26) dX11_saysWord_26 rfl rfl ?_
    refine z_iload_n (pc := 27) dX11_saysWord_27 rfl rfl ?_
    refine q_invVS (pc := 28) (i := i2) (As := [.int x3]) (st := [.int x1, .ref 164]) dX11_saysWord_28 ok_J0_charAt_5068e ms_RX11_263 iv_J0_charAt_5068e pa_J0_charAt_5068e ⟨Nat.le_of_ble_eq_true rfl, Nat.le_of_ble_eq_true rfl⟩ hi2 (q_kI F (fun vh2 h2 F => ?_))
    obtain ⟨G2, F⟩ := F
    refine q_invV (pc := 31) (As := [.int x1, .int vh2]) (st := []) dX11_saysWord_31 ok_X11_says ml_RX11_294 iv_X11_says pa_X11_says ⟨Nat.le_of_ble_eq_true rfl, Nat.le_of_ble_eq_true rfl⟩ (lyc rfl) (q_kV F (fun h3 F => ?_))
    obtain ⟨G3, F⟩ := F
    refine z_iinc (pc := 34) (v := x3 + 1) (ls' := [some (.ref 164), some (.int x1), some (.ref (1010 + i2)), some (.int (x3 + 1))]) dX11_saysWord_34 (by decide) rfl rfl rfl ?_
    refine z_goto (pc := 37) (tgt := 16) dX11_saysWord_37 (by decide) ?_
    exact F
theorem g_X11_saysNumber {x1 : Int32} {x2 : Int32} {h : zHp} {Q : zHp → Prop}  (G : zG h) (F : zcV M_X11_says [.ref 164, .int x1, .int 32] h (fun h1 => zG h1 ∧ ((0 ≤ x2 → (zlV M_X11_saysNumber 18 [some (.ref 164), some (.int x1), some (.int x2)] [] h1 Q)) ∧ (¬ (0 ≤ x2) → (zcV M_X11_says [.ref 164, .int x1, .int 45] h1 (fun h2 => zG h2 ∧ (zlV M_X11_saysNumber 18 [some (.ref 164), some (.int x1), some (.int x2)] [] h2 Q))))))) : zcV M_X11_saysNumber [.ref 164, .int x1, .int x2] h Q := by
  show zw zNT zNT M_X11_saysNumber 0 [some (.ref 164), some (.int x1), some (.int x2)] [] h _
  refine z_aload_n (pc := 0) dX11_saysNumber_0 rfl rfl ?_
  refine z_iload_n (pc := 1) dX11_saysNumber_1 rfl rfl ?_
  refine z_bipush (pc := 2) (v := 32) dX11_saysNumber_2 (by decide) ?_
  refine q_invV (pc := 4) (As := [.int x1, .int 32]) (st := []) dX11_saysNumber_4 ok_X11_says ml_RX11_294 iv_X11_says pa_X11_says ⟨Nat.le_of_ble_eq_true rfl, Nat.le_of_ble_eq_true rfl⟩ (lyc rfl) (q_kV F (fun h1 F => ?_))
  obtain ⟨G1, F⟩ := F
  refine z_iload_n (pc := 7) dX11_saysNumber_7 rfl rfl ?_
  refine z_if_ge (pc := 8) (tgt := 18) dX11_saysNumber_8 (by decide) (fun k3 => ?_) (fun k3 => ?_)
  · replace F := F.1 k3
    exact F
  · replace F := F.2 k3
    refine z_aload_n (pc := 11) dX11_saysNumber_11 rfl rfl ?_
    refine z_iload_n (pc := 12) dX11_saysNumber_12 rfl rfl ?_
    refine z_bipush (pc := 13) (v := 45) dX11_saysNumber_13 (by decide) ?_
    refine q_invV (pc := 15) (As := [.int x1, .int 45]) (st := []) dX11_saysNumber_15 ok_X11_says ml_RX11_294 iv_X11_says pa_X11_says ⟨Nat.le_of_ble_eq_true rfl, Nat.le_of_ble_eq_true rfl⟩ (lyc rfl) (q_kV F (fun h2 F => ?_))
    obtain ⟨G2, F⟩ := F
    exact F
theorem g_X11_saysNumber_18 {x1 : Int32} {x2 : Int32} {h : zHp} {Q : zHp → Prop}  (G : zG h) (F : (0 ≤ x2 → (zcV M_X11_says [.ref 164, .int x1, .int (48 + x2)] h (fun h1 => zG h1 ∧ (Q h1)))) ∧ (¬ (0 ≤ x2) → (zcV M_X11_says [.ref 164, .int x1, .int (48 + (-x2))] h (fun h2 => zG h2 ∧ (Q h2))))) : zlV M_X11_saysNumber 18 [some (.ref 164), some (.int x1), some (.int x2)] [] h Q := by
  refine z_aload_n (pc := 18) dX11_saysNumber_18 rfl rfl ?_
  refine z_iload_n (pc := 19) dX11_saysNumber_19 rfl rfl ?_
  refine z_bipush (pc := 20) (v := 48) dX11_saysNumber_20 (by decide) ?_
  refine z_iload_n (pc := 22) dX11_saysNumber_22 rfl rfl ?_
  refine z_if_ge (pc := 23) (tgt := 31) dX11_saysNumber_23 (by decide) (fun k3 => ?_) (fun k3 => ?_)
  · replace F := F.1 k3
    refine z_iload_n (pc := 31) dX11_saysNumber_31 rfl rfl ?_
    refine z_iadd (pc := 32) dX11_saysNumber_32 ?_
    refine q_invV (pc := 33) (As := [.int x1, .int (48 + x2)]) (st := []) dX11_saysNumber_33 ok_X11_says ml_RX11_294 iv_X11_says pa_X11_says ⟨Nat.le_of_ble_eq_true rfl, Nat.le_of_ble_eq_true rfl⟩ (lyc rfl) (q_kV F (fun h1 F => ?_))
    obtain ⟨G1, F⟩ := F
    exact q_retV (pc := 36) dX11_saysNumber_36 rfl F
  · replace F := F.2 k3
    refine z_iload_n (pc := 26) dX11_saysNumber_26 rfl rfl ?_
    refine z_ineg (pc := 27) dX11_saysNumber_27 ?_
    refine z_goto (pc := 28) (tgt := 32) dX11_saysNumber_28 (by decide) ?_
    refine z_iadd (pc := 32) dX11_saysNumber_32 ?_
    refine q_invV (pc := 33) (As := [.int x1, .int (48 + (-x2))]) (st := []) dX11_saysNumber_33 ok_X11_says ml_RX11_294 iv_X11_says pa_X11_says ⟨Nat.le_of_ble_eq_true rfl, Nat.le_of_ble_eq_true rfl⟩ (lyc rfl) (q_kV F (fun h2 F => ?_))
    obtain ⟨G2, F⟩ := F
    exact q_retV (pc := 36) dX11_saysNumber_36 rfl F
theorem g_X11_tell {x1 : Int32} {x2 : Int32} {h : zHp} {Q : Int32 → zHp → Prop}  (G : zG h) (F : zcI M_X11_isEffect [.ref 164, .int x1] h (fun vh1 h1 => zG h1 ∧ ((vh1 = 0 → (Q (-2) h1)) ∧ (¬ (vh1 = 0) → (zcI M_X11_isSheet [.int x2] h1 (fun vh2 h2 => zG h2 ∧ ((¬ vh2 = 0 → (zcI M_X11_effectIs [.ref 164, .int x1, .int 1] h2 (fun vh3 h3 => zG h3 ∧ (zlI M_X11_tell 28 [some (.ref 164), some (.int x1), some (.int x2), some (.int vh3), some (.int 0)] [] h3 Q)))) ∧ (vh2 = 0 → (Q (-2) h2))))))))) : zcI M_X11_tell [.ref 164, .int x1, .int x2] h Q := by
  show zw zNT zNT M_X11_tell 0 [some (.ref 164), some (.int x1), some (.int x2), none, none] [] h _
  refine z_aload_n (pc := 0) dX11_tell_0 rfl rfl ?_
  refine z_iload_n (pc := 1) dX11_tell_1 rfl rfl ?_
  refine q_invV (pc := 2) (As := [.int x1]) (st := []) dX11_tell_2 ok_X11_isEffect ml_RX11_183 iv_X11_isEffect pa_X11_isEffect ⟨Nat.le_of_ble_eq_true rfl, Nat.le_of_ble_eq_true rfl⟩ (lyc rfl) (q_kI F (fun vh1 h1 F => ?_))
  obtain ⟨G1, F⟩ := F
  refine z_if_eq (pc := 5) (tgt := 15) dX11_tell_5 (by decide) (fun k5 => ?_) (fun k5 => ?_)
  · replace F := F.1 k5
    refine z_bipush (pc := 15) (v := -2) dX11_tell_15 (by decide) ?_
    exact q_retI (pc := 17) dX11_tell_17 rfl F
  · replace F := F.2 k5
    refine z_iload_n (pc := 8) dX11_tell_8 rfl rfl ?_
    refine q_invS (pc := 9) (As := [.int x2]) (st := []) dX11_tell_9 ok_X11_isSheet ml_RX11_297 st_X11_isSheet pa_X11_isSheet ⟨Nat.le_of_ble_eq_true rfl, Nat.le_of_ble_eq_true rfl⟩ (q_kI F (fun vh2 h2 F => ?_))
    obtain ⟨G2, F⟩ := F
    refine z_if_ne (pc := 12) (tgt := 18) dX11_tell_12 (by decide) (fun k4 => ?_) (fun k4 => ?_)
    · replace F := F.1 k4
      refine z_aload_n (pc := 18) dX11_tell_18 rfl rfl ?_
      refine z_iload_n (pc := 19) dX11_tell_19 rfl rfl ?_
      refine z_iconst (pc := 20) (v := 1) dX11_tell_20 (by decide) ?_
      refine q_invV (pc := 21) (As := [.int x1, .int 1]) (st := []) dX11_tell_21 ok_X11_effectIs ml_RX11_103 iv_X11_effectIs pa_X11_effectIs ⟨Nat.le_of_ble_eq_true rfl, Nat.le_of_ble_eq_true rfl⟩ (lyc rfl) (q_kI F (fun vh3 h3 F => ?_))
      obtain ⟨G3, F⟩ := F
      refine z_istore_n (pc := 24) (ls' := [some (.ref 164), some (.int x1), some (.int x2), some (.int vh3), none]) dX11_tell_24 rfl (by decide) rfl ?_
      refine z_iconst (pc := 25) (v := 0) dX11_tell_25 (by decide) ?_
      refine z_istore (pc := 26) (ls' := [some (.ref 164), some (.int x1), some (.int x2), some (.int vh3), some (.int 0)]) dX11_tell_26 (by decide) rfl ?_
      exact F
    · replace F := F.2 k4
      refine z_bipush (pc := 15) (v := -2) dX11_tell_15 (by decide) ?_
      exact q_retI (pc := 17) dX11_tell_17 rfl F
theorem g_X11_tell_28 {x1 : Int32} {x2 : Int32} {x3 : Int32} {x4 : Int32} {h : zHp} {Q : Int32 → zHp → Prop}  (G : zG h) (F : (40 ≤ x4 → (zcI M_X11_effectIs [.ref 164, .int x1, .int 2] (wI h 164 29 0) (fun vh1 h1 => zG h1 ∧ (vp_in vh1 6 ∧ (zcV M_X11_saysWord [.ref 164, .int x2, .ref (1010 + (6 * (175 - 175) + (Int32.toNatClampNeg vh1)))] h1 (fun h2 => zG h2 ∧ (zcI M_X11_effectIs [.ref 164, .int x1, .int 2] h2 (fun vh3 h3 => zG h3 ∧ ((vh3 ≤ 0 → (zlI M_X11_tell 95 [some (.ref 164), some (.int x1), some (.int x2), some (.int x3), some (.int x4)] [] h3 Q)) ∧ (¬ (vh3 ≤ 0) → (zcI M_X11_effectIs [.ref 164, .int x1, .int 3] h3 (fun vh4 h4 => zG h4 ∧ (zcV M_X11_saysNumber [.ref 164, .int x2, .int vh4] h4 (fun h5 => zG h5 ∧ (zlI M_X11_tell 95 [some (.ref 164), some (.int x1), some (.int x2), some (.int x3), some (.int x4)] [] h5 Q))))))))))))))) ∧ (¬ (40 ≤ x4) → (vp_in ((40 * x2) + x4) 160 ∧ (zlI M_X11_tell 28 [some (.ref 164), some (.int x1), some (.int x2), some (.int x3), some (.int (x4 + 1))] [] (wI h 180 ((Int32.toNatClampNeg ((40 * x2) + x4))) 0) Q)))) : zlI M_X11_tell 28 [some (.ref 164), some (.int x1), some (.int x2), some (.int x3), some (.int x4)] [] h Q := by
  refine z_iload (pc := 28) dX11_tell_28 rfl ?_
  refine z_bipush (pc := 30) (v := 40) dX11_tell_30 (by decide) ?_
  refine z_icmp_ge (pc := 32) (tgt := 54) dX11_tell_32 (by decide) (fun k9 => ?_) (fun k9 => ?_)
  · replace F := F.1 k9
    refine z_aload_n (pc := 54) dX11_tell_54 rfl rfl ?_
    refine z_iconst (pc := 55) (v := 0) dX11_tell_55 (by decide) ?_
    refine q_putI (pc := 56) dX11_tell_56 lk_RX11_291 (lyc rfl) ?_
    refine z_aload_n (pc := 59) dX11_tell_59 rfl rfl ?_
    refine z_iload_n (pc := 60) dX11_tell_60 rfl rfl ?_
    refine z_aload_n (pc := 61) dX11_tell_61 rfl rfl ?_
    refine q_getR (pc := 62) (i := 175) dX11_tell_62 lk_RX11_54 (lyc rfl) (G 164 26 175 rfl) ?_
    refine z_aload_n (pc := 65) dX11_tell_65 rfl rfl ?_
    refine z_iload_n (pc := 66) dX11_tell_66 rfl rfl ?_
    refine z_iconst (pc := 67) (v := 2) dX11_tell_67 (by decide) ?_
    refine q_invV (pc := 68) (As := [.int x1, .int 2]) (st := [.ref 175, .int x2, .ref 164]) dX11_tell_68 ok_X11_effectIs ml_RX11_103 iv_X11_effectIs pa_X11_effectIs ⟨Nat.le_of_ble_eq_true rfl, Nat.le_of_ble_eq_true rfl⟩ (lyc rfl) (q_kI F (fun vh1 h1 F => ?_))
    obtain ⟨G1, F⟩ := F
    obtain ⟨k2, F⟩ := F
    refine q_aald (pc := 71) (j := (Int32.toNatClampNeg vh1)) (r := 1010 + (6 * (175 - 175) + (Int32.toNatClampNeg vh1))) (t := 5) dX11_tell_71 (lyc rfl) (zvn (lnc rfl) k2) rfl (grD G1 (Or.inl rfl) (zvi k2)) ?_
    refine q_invV (pc := 72) (As := [.int x2, .ref (1010 + (6 * (175 - 175) + (Int32.toNatClampNeg vh1)))]) (st := []) dX11_tell_72 ok_X11_saysWord ml_RX11_300 iv_X11_saysWord pa_X11_saysWord ⟨Nat.le_of_ble_eq_true rfl, Nat.le_of_ble_eq_true rfl⟩ (lyc rfl) (q_kV F (fun h2 F => ?_))
    obtain ⟨G2, F⟩ := F
    refine z_aload_n (pc := 75) dX11_tell_75 rfl rfl ?_
    refine z_iload_n (pc := 76) dX11_tell_76 rfl rfl ?_
    refine z_iconst (pc := 77) (v := 2) dX11_tell_77 (by decide) ?_
    refine q_invV (pc := 78) (As := [.int x1, .int 2]) (st := []) dX11_tell_78 ok_X11_effectIs ml_RX11_103 iv_X11_effectIs pa_X11_effectIs ⟨Nat.le_of_ble_eq_true rfl, Nat.le_of_ble_eq_true rfl⟩ (lyc rfl) (q_kI F (fun vh3 h3 F => ?_))
    obtain ⟨G3, F⟩ := F
    refine z_if_le (pc := 81) (tgt := 95) dX11_tell_81 (by decide) (fun k7 => ?_) (fun k7 => ?_)
    · replace F := F.1 k7
      exact F
    · replace F := F.2 k7
      refine z_aload_n (pc := 84) dX11_tell_84 rfl rfl ?_
      refine z_iload_n (pc := 85) dX11_tell_85 rfl rfl ?_
      refine z_aload_n (pc := 86) dX11_tell_86 rfl rfl ?_
      refine z_iload_n (pc := 87) dX11_tell_87 rfl rfl ?_
      refine z_iconst (pc := 88) (v := 3) dX11_tell_88 (by decide) ?_
      refine q_invV (pc := 89) (As := [.int x1, .int 3]) (st := [.int x2, .ref 164]) dX11_tell_89 ok_X11_effectIs ml_RX11_103 iv_X11_effectIs pa_X11_effectIs ⟨Nat.le_of_ble_eq_true rfl, Nat.le_of_ble_eq_true rfl⟩ (lyc rfl) (q_kI F (fun vh4 h4 F => ?_))
      obtain ⟨G4, F⟩ := F
      refine q_invV (pc := 92) (As := [.int x2, .int vh4]) (st := []) dX11_tell_92 ok_X11_saysNumber ml_RX11_304 iv_X11_saysNumber pa_X11_saysNumber ⟨Nat.le_of_ble_eq_true rfl, Nat.le_of_ble_eq_true rfl⟩ (lyc rfl) (q_kV F (fun h5 F => ?_))
      obtain ⟨G5, F⟩ := F
      exact F
  · replace F := F.2 k9
    refine z_aload_n (pc := 35) dX11_tell_35 rfl rfl ?_
    refine q_getR (pc := 36) (i := 180) dX11_tell_36 lk_RX11_81 (lyc rfl) (G 164 32 180 rfl) ?_
    refine z_bipush (pc := 39) (v := 40) dX11_tell_39 (by decide) ?_
    refine z_iload_n (pc := 41) dX11_tell_41 rfl rfl ?_
    refine z_imul (pc := 42) dX11_tell_42 ?_
    refine z_iload (pc := 43) dX11_tell_43 rfl ?_
    refine z_iadd (pc := 45) dX11_tell_45 ?_
    refine z_iconst (pc := 46) (v := 0) dX11_tell_46 (by decide) ?_
    obtain ⟨k8, F⟩ := F
    refine q_iast (pc := 47) (j := (Int32.toNatClampNeg ((40 * x2) + x4))) dX11_tell_47 (lyc rfl) (zvn (lnc rfl) k8) rfl ?_
    refine z_iinc (pc := 48) (v := x4 + 1) (ls' := [some (.ref 164), some (.int x1), some (.int x2), some (.int x3), some (.int (x4 + 1))]) dX11_tell_48 (by decide) rfl rfl rfl ?_
    refine z_goto (pc := 51) (tgt := 28) dX11_tell_51 (by decide) ?_
    exact F
theorem g_X11_tell_95 {x1 : Int32} {x2 : Int32} {x3 : Int32} {x4 : Int32} {h : zHp} {Q : Int32 → zHp → Prop}  (G : zG h) (F : vp_in x3 6 ∧ (zcV M_X11_saysWord [.ref 164, .int x2, .ref (1010 + (6 * (176 - 175) + (Int32.toNatClampNeg x3)))] h (fun h1 => zG h1 ∧ ((5 ≤ x3 → (zlI M_X11_tell 122 [some (.ref 164), some (.int x1), some (.int x2), some (.int x3), some (.int x4)] [] h1 Q)) ∧ (¬ (5 ≤ x3) → (zcI M_X11_effectIs [.ref 164, .int x1, .int 4] h1 (fun vh2 h2 => zG h2 ∧ (zcV M_X11_saysNumber [.ref 164, .int x2, .int vh2] h2 (fun h3 => zG h3 ∧ (zlI M_X11_tell 122 [some (.ref 164), some (.int x1), some (.int x2), some (.int x3), some (.int x4)] [] h3 Q)))))))))) : zlI M_X11_tell 95 [some (.ref 164), some (.int x1), some (.int x2), some (.int x3), some (.int x4)] [] h Q := by
  refine z_aload_n (pc := 95) dX11_tell_95 rfl rfl ?_
  refine z_iload_n (pc := 96) dX11_tell_96 rfl rfl ?_
  refine z_aload_n (pc := 97) dX11_tell_97 rfl rfl ?_
  refine q_getR (pc := 98) (i := 176) dX11_tell_98 lk_RX11_69 (lyc rfl) (G 164 27 176 rfl) ?_
  refine z_iload_n (pc := 101) dX11_tell_101 rfl rfl ?_
  obtain ⟨k1, F⟩ := F
  refine q_aald (pc := 102) (j := (Int32.toNatClampNeg x3)) (r := 1010 + (6 * (176 - 175) + (Int32.toNatClampNeg x3))) (t := 5) dX11_tell_102 (lyc rfl) (zvn (lnc rfl) k1) rfl (grD G (Or.inr rfl) (zvi k1)) ?_
  refine q_invV (pc := 103) (As := [.int x2, .ref (1010 + (6 * (176 - 175) + (Int32.toNatClampNeg x3)))]) (st := []) dX11_tell_103 ok_X11_saysWord ml_RX11_300 iv_X11_saysWord pa_X11_saysWord ⟨Nat.le_of_ble_eq_true rfl, Nat.le_of_ble_eq_true rfl⟩ (lyc rfl) (q_kV F (fun h1 F => ?_))
  obtain ⟨G1, F⟩ := F
  refine z_iload_n (pc := 106) dX11_tell_106 rfl rfl ?_
  refine z_iconst (pc := 107) (v := 5) dX11_tell_107 (by decide) ?_
  refine z_icmp_ge (pc := 108) (tgt := 122) dX11_tell_108 (by decide) (fun k5 => ?_) (fun k5 => ?_)
  · replace F := F.1 k5
    exact F
  · replace F := F.2 k5
    refine z_aload_n (pc := 111) dX11_tell_111 rfl rfl ?_
    refine z_iload_n (pc := 112) dX11_tell_112 rfl rfl ?_
    refine z_aload_n (pc := 113) dX11_tell_113 rfl rfl ?_
    refine z_iload_n (pc := 114) dX11_tell_114 rfl rfl ?_
    refine z_iconst (pc := 115) (v := 4) dX11_tell_115 (by decide) ?_
    refine q_invV (pc := 116) (As := [.int x1, .int 4]) (st := [.int x2, .ref 164]) dX11_tell_116 ok_X11_effectIs ml_RX11_103 iv_X11_effectIs pa_X11_effectIs ⟨Nat.le_of_ble_eq_true rfl, Nat.le_of_ble_eq_true rfl⟩ (lyc rfl) (q_kI F (fun vh2 h2 F => ?_))
    obtain ⟨G2, F⟩ := F
    refine q_invV (pc := 119) (As := [.int x2, .int vh2]) (st := []) dX11_tell_119 ok_X11_saysNumber ml_RX11_304 iv_X11_saysNumber pa_X11_saysNumber ⟨Nat.le_of_ble_eq_true rfl, Nat.le_of_ble_eq_true rfl⟩ (lyc rfl) (q_kV F (fun h3 F => ?_))
    obtain ⟨G3, F⟩ := F
    exact F
theorem g_X11_tell_122 {x1 : Int32} {x2 : Int32} {x3 : Int32} {x4 : Int32} {h : zHp} {Q : Int32 → zHp → Prop}  (G : zG h) (F : zcI M_X11_in [.int x3, .int 3, .int 4] h (fun vh1 h1 => zG h1 ∧ ((vh1 = 0 → (zlI M_X11_tell 142 [some (.ref 164), some (.int x1), some (.int x2), some (.int x3), some (.int x4)] [] h1 Q)) ∧ (¬ (vh1 = 0) → (zcI M_X11_effectIs [.ref 164, .int x1, .int 5] h1 (fun vh2 h2 => zG h2 ∧ (zcV M_X11_saysNumber [.ref 164, .int x2, .int vh2] h2 (fun h3 => zG h3 ∧ (zlI M_X11_tell 142 [some (.ref 164), some (.int x1), some (.int x2), some (.int x3), some (.int x4)] [] h3 Q))))))))) : zlI M_X11_tell 122 [some (.ref 164), some (.int x1), some (.int x2), some (.int x3), some (.int x4)] [] h Q := by
  refine z_iload_n (pc := 122) dX11_tell_122 rfl rfl ?_
  refine z_iconst (pc := 123) (v := 3) dX11_tell_123 (by decide) ?_
  refine z_iconst (pc := 124) (v := 4) dX11_tell_124 (by decide) ?_
  refine q_invS (pc := 125) (As := [.int x3, .int 3, .int 4]) (st := []) dX11_tell_125 ok_X11_in ml_RX11_84 st_X11_in pa_X11_in ⟨Nat.le_of_ble_eq_true rfl, Nat.le_of_ble_eq_true rfl⟩ (q_kI F (fun vh1 h1 F => ?_))
  obtain ⟨G1, F⟩ := F
  refine z_if_eq (pc := 128) (tgt := 142) dX11_tell_128 (by decide) (fun k4 => ?_) (fun k4 => ?_)
  · replace F := F.1 k4
    exact F
  · replace F := F.2 k4
    refine z_aload_n (pc := 131) dX11_tell_131 rfl rfl ?_
    refine z_iload_n (pc := 132) dX11_tell_132 rfl rfl ?_
    refine z_aload_n (pc := 133) dX11_tell_133 rfl rfl ?_
    refine z_iload_n (pc := 134) dX11_tell_134 rfl rfl ?_
    refine z_iconst (pc := 135) (v := 5) dX11_tell_135 (by decide) ?_
    refine q_invV (pc := 136) (As := [.int x1, .int 5]) (st := [.int x2, .ref 164]) dX11_tell_136 ok_X11_effectIs ml_RX11_103 iv_X11_effectIs pa_X11_effectIs ⟨Nat.le_of_ble_eq_true rfl, Nat.le_of_ble_eq_true rfl⟩ (lyc rfl) (q_kI F (fun vh2 h2 F => ?_))
    obtain ⟨G2, F⟩ := F
    refine q_invV (pc := 139) (As := [.int x2, .int vh2]) (st := []) dX11_tell_139 ok_X11_saysNumber ml_RX11_304 iv_X11_saysNumber pa_X11_saysNumber ⟨Nat.le_of_ble_eq_true rfl, Nat.le_of_ble_eq_true rfl⟩ (lyc rfl) (q_kV F (fun h3 F => ?_))
    obtain ⟨G3, F⟩ := F
    exact F
theorem g_X11_tell_142 {x1 : Int32} {x2 : Int32} {x3 : Int32} {x4 : Int32} {h : zHp} {Q : Int32 → zHp → Prop}  (G : zG h) (F : vp_in x2 4 ∧ (Q (rI h 164 29) (wI (wI h 178 ((Int32.toNatClampNeg x2)) 0) 179 ((Int32.toNatClampNeg x2)) (rI h 164 29)))) : zlI M_X11_tell 142 [some (.ref 164), some (.int x1), some (.int x2), some (.int x3), some (.int x4)] [] h Q := by
  refine z_aload_n (pc := 142) dX11_tell_142 rfl rfl ?_
  refine q_getR (pc := 143) (i := 178) dX11_tell_143 lk_RX11_75 (lyc rfl) (G 164 30 178 rfl) ?_
  refine z_iload_n (pc := 146) dX11_tell_146 rfl rfl ?_
  refine z_iconst (pc := 147) (v := 0) dX11_tell_147 (by decide) ?_
  obtain ⟨k1, F⟩ := F
  refine q_iast (pc := 148) (j := (Int32.toNatClampNeg x2)) dX11_tell_148 (lyc rfl) (zvn (lnc rfl) k1) rfl ?_
  refine z_aload_n (pc := 149) dX11_tell_149 rfl rfl ?_
  refine q_getR (pc := 150) (i := 179) dX11_tell_150 lk_RX11_78 (lyc rfl) (G 164 31 179 rfl) ?_
  refine z_iload_n (pc := 153) dX11_tell_153 rfl rfl ?_
  refine z_aload_n (pc := 154) dX11_tell_154 rfl rfl ?_
  refine q_getI (pc := 155) (v := rI h 164 29) dX11_tell_155 lk_RX11_291 (lyc rfl) (rI_c (by decide)) ?_
  refine q_iast (pc := 158) (j := (Int32.toNatClampNeg x2)) dX11_tell_158 (lyc rfl) (zvn (lnc rfl) k1) rfl ?_
  refine z_aload_n (pc := 159) dX11_tell_159 rfl rfl ?_
  refine q_getI (pc := 160) (v := rI h 164 29) dX11_tell_160 lk_RX11_291 (lyc rfl) ((rI_c (by decide)).trans (rI_c (by decide))) ?_
  exact q_retI (pc := 163) dX11_tell_163 rfl F
theorem g_X11_draw  {h : zHp} {Q : Int32 → zHp → Prop}  (G : zG h) (F : Q ((Int32.toUInt32 (((rI h 165 245) * 1103515245) + 12345) >>> (Int32.toUInt32 16 &&& Int32.toUInt32 31)).toInt32) (wI h 165 245 (((rI h 165 245) * 1103515245) + 12345))) : zcI M_X11_draw [.ref 164] h Q := by
  show zw zNT zNT M_X11_draw 0 [some (.ref 164)] [] h _
  refine z_aload_n (pc := 0) dX11_draw_0 rfl rfl ?_
  refine q_getR (pc := 1) (i := 165) dX11_draw_1 lk_RX11_7 (lyc rfl) (G 164 0 165 rfl) ?_
  refine z_sipush (pc := 4) (v := 245) dX11_draw_4 (by decide) ?_
  refine z_aload_n (pc := 7) dX11_draw_7 rfl rfl ?_
  refine q_getR (pc := 8) (i := 165) dX11_draw_8 lk_RX11_7 (lyc rfl) (G 164 0 165 rfl) ?_
  refine z_sipush (pc := 11) (v := 245) dX11_draw_11 (by decide) ?_
  refine q_iald (pc := 14) (j := 245) (v := rI h 165 245) dX11_draw_14 (lyc rfl) (zvl (lnc rfl) (by decide)) (by decide) rfl ?_
  refine z_ldcw (pc := 15) (v := 1103515245) dX11_draw_15 cl_RX11_307 ?_
  refine z_imul (pc := 18) dX11_draw_18 ?_
  refine z_sipush (pc := 19) (v := 12345) dX11_draw_19 (by decide) ?_
  refine z_iadd (pc := 22) dX11_draw_22 ?_
  refine q_iast (pc := 23) (j := 245) dX11_draw_23 (lyc rfl) (zvl (lnc rfl) (by decide)) (by decide) ?_
  refine z_aload_n (pc := 24) dX11_draw_24 rfl rfl ?_
  refine q_getR (pc := 25) (i := 165) dX11_draw_25 lk_RX11_7 (lyc rfl) (G 164 0 165 rfl) ?_
  refine z_sipush (pc := 28) (v := 245) dX11_draw_28 (by decide) ?_
  refine q_iald (pc := 31) (j := 245) (v := ((rI h 165 245) * 1103515245) + 12345) dX11_draw_31 (lyc rfl) (zvl (lnc rfl) (by decide)) (by decide) rI_s ?_
  refine z_bipush (pc := 32) (v := 16) dX11_draw_32 (by decide) ?_
  refine z_iushr (pc := 34) dX11_draw_34 ?_
  exact q_retI (pc := 35) dX11_draw_35 rfl F
theorem g_X11_seed {x1 : Int32} {h : zHp} {Q : Int32 → zHp → Prop}  (G : zG h) (F : Q (rI h 165 245) (wI h 165 245 x1)) : zcI M_X11_seed [.ref 164, .int x1] h Q := by
  show zw zNT zNT M_X11_seed 0 [some (.ref 164), some (.int x1), none] [] h _
  refine z_aload_n (pc := 0) dX11_seed_0 rfl rfl ?_
  refine q_getR (pc := 1) (i := 165) dX11_seed_1 lk_RX11_7 (lyc rfl) (G 164 0 165 rfl) ?_
  refine z_sipush (pc := 4) (v := 245) dX11_seed_4 (by decide) ?_
  refine q_iald (pc := 7) (j := 245) (v := rI h 165 245) dX11_seed_7 (lyc rfl) (zvl (lnc rfl) (by decide)) (by decide) rfl ?_
  refine z_istore_n (pc := 8) (ls' := [some (.ref 164), some (.int x1), some (.int (rI h 165 245))]) dX11_seed_8 rfl (by decide) rfl ?_
  refine z_aload_n (pc := 9) dX11_seed_9 rfl rfl ?_
  refine q_getR (pc := 10) (i := 165) dX11_seed_10 lk_RX11_7 (lyc rfl) (G 164 0 165 rfl) ?_
  refine z_sipush (pc := 13) (v := 245) dX11_seed_13 (by decide) ?_
  refine z_iload_n (pc := 16) dX11_seed_16 rfl rfl ?_
  refine q_iast (pc := 17) (j := 245) dX11_seed_17 (lyc rfl) (zvl (lnc rfl) (by decide)) (by decide) ?_
  refine z_iload_n (pc := 18) dX11_seed_18 rfl rfl ?_
  exact q_retI (pc := 19) dX11_seed_19 rfl F
theorem g_X11_deal {x1 : Int32} {h : zHp} {Q : Int32 → zHp → Prop}  (G : zG h) (F : zcI M_X11_in [.int x1, .int 0, .int 8] h (fun vh1 h1 => zG h1 ∧ ((¬ vh1 = 0 → (zlI M_X11_deal 15 [some (.ref 164), some (.int x1), some (.int 0), none, none, none] [] h1 Q)) ∧ (vh1 = 0 → (Q (-2) h1))))) : zcI M_X11_deal [.ref 164, .int x1] h Q := by
  show zw zNT zNT M_X11_deal 0 [some (.ref 164), some (.int x1), none, none, none, none] [] h _
  refine z_iload_n (pc := 0) dX11_deal_0 rfl rfl ?_
  refine z_iconst (pc := 1) (v := 0) dX11_deal_1 (by decide) ?_
  refine z_bipush (pc := 2) (v := 8) dX11_deal_2 (by decide) ?_
  refine q_invS (pc := 4) (As := [.int x1, .int 0, .int 8]) (st := []) dX11_deal_4 ok_X11_in ml_RX11_84 st_X11_in pa_X11_in ⟨Nat.le_of_ble_eq_true rfl, Nat.le_of_ble_eq_true rfl⟩ (q_kI F (fun vh1 h1 F => ?_))
  obtain ⟨G1, F⟩ := F
  refine z_if_ne (pc := 7) (tgt := 13) dX11_deal_7 (by decide) (fun k2 => ?_) (fun k2 => ?_)
  · replace F := F.1 k2
    refine z_iconst (pc := 13) (v := 0) dX11_deal_13 (by decide) ?_
    refine z_istore_n (pc := 14) (ls' := [some (.ref 164), some (.int x1), some (.int 0), none, none, none]) dX11_deal_14 rfl (by decide) rfl ?_
    exact F
  · replace F := F.2 k2
    refine z_bipush (pc := 10) (v := -2) dX11_deal_10 (by decide) ?_
    exact q_retI (pc := 12) dX11_deal_12 rfl F
theorem g_X11_deal_15 {x1 : Int32} {x2 : Int32} {h : zHp} {Q : Int32 → zHp → Prop}  (G : zG h) (F : (x1 ≤ x2 → (zcI M_X11_changed [.ref 164, .int (rI h 165 238)] h (fun vh1 h1 => zG h1 ∧ (Q vh1 h1)))) ∧ (¬ (x1 ≤ x2) → ((8 ≤ rI h 165 238 → (zcI M_X11_changed [.ref 164, .int (rI h 165 238)] h (fun vh2 h2 => zG h2 ∧ (Q vh2 h2)))) ∧ (¬ (8 ≤ rI h 165 238) → (zcI M_X11_draw [.ref 164] h (fun vh3 h3 => zG h3 ∧ (zcI M_X11_draw [.ref 164] h3 (fun vh4 h4 => zG h4 ∧ (zcI M_X11_draw [.ref 164] h4 (fun vh5 h5 => zG h5 ∧ (zcI M_X11_draw [.ref 164] h5 (fun vh6 h6 => zG h6 ∧ (zcV M_X11_comes [.ref 164, .int (vh3 - vh3 / 2 * 2), .int (vh4 - vh4 / 6 * 6), .int ((vh5 - vh5 / 9 * 9) + 1), .int ((vh6 - vh6 / 9 * 9) + 1)] h6 (fun h7 => zG h7 ∧ (zlI M_X11_deal 15 [some (.ref 164), some (.int x1), some (.int (x2 + 1)), none, none, none] [] h7 Q))))))))))))))) : zlI M_X11_deal 15 [some (.ref 164), some (.int x1), some (.int x2), none, none, none] [] h Q := by
  refine z_iload_n (pc := 15) dX11_deal_15 rfl rfl ?_
  refine z_iload_n (pc := 16) dX11_deal_16 rfl rfl ?_
  refine z_icmp_ge (pc := 17) (tgt := 84) dX11_deal_17 (by decide) (fun k9 => ?_) (fun k9 => ?_)
  · replace F := F.1 k9
    refine z_aload_n (pc := 84) dX11_deal_84 rfl rfl ?_
    refine z_aload_n (pc := 85) dX11_deal_85 rfl rfl ?_
    refine q_getR (pc := 86) (i := 165) dX11_deal_86 lk_RX11_7 (lyc rfl) (G 164 0 165 rfl) ?_
    refine z_sipush (pc := 89) (v := 238) dX11_deal_89 (by decide) ?_
    refine q_iald (pc := 92) (j := 238) (v := rI h 165 238) dX11_deal_92 (lyc rfl) (zvl (lnc rfl) (by decide)) (by decide) rfl ?_
    refine q_invV (pc := 93) (As := [.int (rI h 165 238)]) (st := []) dX11_deal_93 ok_X11_changed ml_RX11_167 iv_X11_changed pa_X11_changed ⟨Nat.le_of_ble_eq_true rfl, Nat.le_of_ble_eq_true rfl⟩ (lyc rfl) (q_kI F (fun vh1 h1 F => ?_))
    obtain ⟨G1, F⟩ := F
    exact q_retI (pc := 96) dX11_deal_96 rfl F
  · replace F := F.2 k9
    refine z_aload_n (pc := 20) dX11_deal_20 rfl rfl ?_
    refine q_getR (pc := 21) (i := 165) dX11_deal_21 lk_RX11_7 (lyc rfl) (G 164 0 165 rfl) ?_
    refine z_sipush (pc := 24) (v := 238) dX11_deal_24 (by decide) ?_
    refine q_iald (pc := 27) (j := 238) (v := rI h 165 238) dX11_deal_27 (lyc rfl) (zvl (lnc rfl) (by decide)) (by decide) rfl ?_
    refine z_bipush (pc := 28) (v := 8) dX11_deal_28 (by decide) ?_
    refine z_icmp_ge (pc := 30) (tgt := 84) dX11_deal_30 (by decide) (fun k8 => ?_) (fun k8 => ?_)
    · replace F := F.1 k8
      refine z_aload_n (pc := 84) dX11_deal_84 rfl rfl ?_
      refine z_aload_n (pc := 85) dX11_deal_85 rfl rfl ?_
      refine q_getR (pc := 86) (i := 165) dX11_deal_86 lk_RX11_7 (lyc rfl) (G 164 0 165 rfl) ?_
      refine z_sipush (pc := 89) (v := 238) dX11_deal_89 (by decide) ?_
      refine q_iald (pc := 92) (j := 238) (v := rI h 165 238) dX11_deal_92 (lyc rfl) (zvl (lnc rfl) (by decide)) (by decide) rfl ?_
      refine q_invV (pc := 93) (As := [.int (rI h 165 238)]) (st := []) dX11_deal_93 ok_X11_changed ml_RX11_167 iv_X11_changed pa_X11_changed ⟨Nat.le_of_ble_eq_true rfl, Nat.le_of_ble_eq_true rfl⟩ (lyc rfl) (q_kI F (fun vh2 h2 F => ?_))
      obtain ⟨G2, F⟩ := F
      exact q_retI (pc := 96) dX11_deal_96 rfl F
    · replace F := F.2 k8
      refine z_aload_n (pc := 33) dX11_deal_33 rfl rfl ?_
      refine q_invV (pc := 34) (As := []) (st := []) dX11_deal_34 ok_X11_draw ml_RX11_308 iv_X11_draw pa_X11_draw ⟨Nat.le_of_ble_eq_true rfl, Nat.le_of_ble_eq_true rfl⟩ (lyc rfl) (q_kI F (fun vh3 h3 F => ?_))
      obtain ⟨G3, F⟩ := F
      refine z_iconst (pc := 37) (v := 2) dX11_deal_37 (by decide) ?_
      refine z_irem (pc := 38) dX11_deal_38 (by decide) ?_
      refine z_istore_n (pc := 39) (ls' := [some (.ref 164), some (.int x1), some (.int x2), some (.int (vh3 - vh3 / 2 * 2)), none, none]) dX11_deal_39 rfl (by decide) rfl ?_
      refine z_aload_n (pc := 40) dX11_deal_40 rfl rfl ?_
      refine q_invV (pc := 41) (As := []) (st := []) dX11_deal_41 ok_X11_draw ml_RX11_308 iv_X11_draw pa_X11_draw ⟨Nat.le_of_ble_eq_true rfl, Nat.le_of_ble_eq_true rfl⟩ (lyc rfl) (q_kI F (fun vh4 h4 F => ?_))
      obtain ⟨G4, F⟩ := F
      refine z_bipush (pc := 44) (v := 6) dX11_deal_44 (by decide) ?_
      refine z_irem (pc := 46) dX11_deal_46 (by decide) ?_
      refine z_istore (pc := 47) (ls' := [some (.ref 164), some (.int x1), some (.int x2), some (.int (vh3 - vh3 / 2 * 2)), some (.int (vh4 - vh4 / 6 * 6)), none]) dX11_deal_47 (by decide) rfl ?_
      refine z_aload_n (pc := 49) dX11_deal_49 rfl rfl ?_
      refine q_invV (pc := 50) (As := []) (st := []) dX11_deal_50 ok_X11_draw ml_RX11_308 iv_X11_draw pa_X11_draw ⟨Nat.le_of_ble_eq_true rfl, Nat.le_of_ble_eq_true rfl⟩ (lyc rfl) (q_kI F (fun vh5 h5 F => ?_))
      obtain ⟨G5, F⟩ := F
      refine z_bipush (pc := 53) (v := 9) dX11_deal_53 (by decide) ?_
      refine z_irem (pc := 55) dX11_deal_55 (by decide) ?_
      refine z_iconst (pc := 56) (v := 1) dX11_deal_56 (by decide) ?_
      refine z_iadd (pc := 57) dX11_deal_57 ?_
      refine z_istore (pc := 58) (ls' := [some (.ref 164), some (.int x1), some (.int x2), some (.int (vh3 - vh3 / 2 * 2)), some (.int (vh4 - vh4 / 6 * 6)), some (.int ((vh5 - vh5 / 9 * 9) + 1))]) dX11_deal_58 (by decide) rfl ?_
      refine z_aload_n (pc := 60) dX11_deal_60 rfl rfl ?_
      refine z_iload_n (pc := 61) dX11_deal_61 rfl rfl ?_
      refine z_iload (pc := 62) dX11_deal_62 rfl ?_
      refine z_iload (pc := 64) dX11_deal_64 rfl ?_
      refine z_aload_n (pc := 66) dX11_deal_66 rfl rfl ?_
      refine q_invV (pc := 67) (As := []) (st := [.int ((vh5 - vh5 / 9 * 9) + 1), .int (vh4 - vh4 / 6 * 6), .int (vh3 - vh3 / 2 * 2), .ref 164]) dX11_deal_67 ok_X11_draw ml_RX11_308 iv_X11_draw pa_X11_draw ⟨Nat.le_of_ble_eq_true rfl, Nat.le_of_ble_eq_true rfl⟩ (lyc rfl) (q_kI F (fun vh6 h6 F => ?_))
      obtain ⟨G6, F⟩ := F
      refine z_bipush (pc := 70) (v := 9) dX11_deal_70 (by decide) ?_
      refine z_irem (pc := 72) dX11_deal_72 (by decide) ?_
      refine z_iconst (pc := 73) (v := 1) dX11_deal_73 (by decide) ?_
      refine z_iadd (pc := 74) dX11_deal_74 ?_
      refine q_invV (pc := 75) (As := [.int (vh3 - vh3 / 2 * 2), .int (vh4 - vh4 / 6 * 6), .int ((vh5 - vh5 / 9 * 9) + 1), .int ((vh6 - vh6 / 9 * 9) + 1)]) (st := []) dX11_deal_75 ok_X11_comes ml_RX11_163 iv_X11_comes pa_X11_comes ⟨Nat.le_of_ble_eq_true rfl, Nat.le_of_ble_eq_true rfl⟩ (lyc rfl) (q_kV F (fun h7 F => ?_))
      obtain ⟨G7, F⟩ := F
      refine z_iinc (pc := 78) (v := x2 + 1) (ls' := [some (.ref 164), some (.int x1), some (.int (x2 + 1)), some (.int (vh3 - vh3 / 2 * 2)), some (.int (vh4 - vh4 / 6 * 6)), some (.int ((vh5 - vh5 / 9 * 9) + 1))]) dX11_deal_78 (by decide) rfl rfl rfl ?_
      refine z_goto (pc := 81) (tgt := 15) dX11_deal_81 (by decide) ?_
      exact q_sub (ls' := [some (.ref 164), some (.int x1), some (.int (x2 + 1)), none, none, none]) ⟨rfl, rfl, rfl, trivial⟩ F
theorem g_X11_isSheet {x0 : Int32} {h : zHp} {Q : Int32 → zHp → Prop}  (G : zG h) (F : zcI M_X11_in [.int x0, .int 0, .int 3] h (fun vh1 h1 => zG h1 ∧ (zB vh1 ∧ Q vh1 h1))) : zcI M_X11_isSheet [.int x0] h Q := by
  show zw zNT zNT M_X11_isSheet 0 [some (.int x0)] [] h _
  refine z_iload_n (pc := 0) dX11_isSheet_0 rfl rfl ?_
  refine z_iconst (pc := 1) (v := 0) dX11_isSheet_1 (by decide) ?_
  refine z_iconst (pc := 2) (v := 3) dX11_isSheet_2 (by decide) ?_
  refine q_invS (pc := 3) (As := [.int x0, .int 0, .int 3]) (st := []) dX11_isSheet_3 ok_X11_in ml_RX11_84 st_X11_in pa_X11_in ⟨Nat.le_of_ble_eq_true rfl, Nat.le_of_ble_eq_true rfl⟩ (q_kI F (fun vh1 h1 F => ?_))
  obtain ⟨G1, F⟩ := F
  exact q_retB (pc := 6) dX11_isSheet_6 rfl F.1 F.2
theorem g_X11_sheet {x1 : Int32} {x2 : Int32} {x3 : Int32} {h : zHp} {Q : Int32 → zHp → Prop}  (G : zG h) (F : zcI M_X11_isSheet [.int x1] h (fun vh1 h1 => zG h1 ∧ ((vh1 = 0 → (Q (-2) h1)) ∧ (¬ (vh1 = 0) → (zcI M_X11_in [.int x2, .int (-1), .int 1] h1 (fun vh2 h2 => zG h2 ∧ ((vh2 = 0 → (Q (-2) h2)) ∧ (¬ (vh2 = 0) → ((x2 = -1 → ((x2 = -1 → (zlI M_X11_sheet 42 [some (.ref 164), some (.int x1), some (.int x2), some (.int x3), none] [] h2 Q)) ∧ (¬ (x2 = -1) → ((0 ≤ x3 → (zlI M_X11_sheet 42 [some (.ref 164), some (.int x1), some (.int x2), some (.int x3), none] [] h2 Q)) ∧ (¬ (0 ≤ x3) → (Q (-14) h2)))))) ∧ (¬ (x2 = -1) → ((x3 ≤ 40 → ((x2 = -1 → (zlI M_X11_sheet 42 [some (.ref 164), some (.int x1), some (.int x2), some (.int x3), none] [] h2 Q)) ∧ (¬ (x2 = -1) → ((0 ≤ x3 → (zlI M_X11_sheet 42 [some (.ref 164), some (.int x1), some (.int x2), some (.int x3), none] [] h2 Q)) ∧ (¬ (0 ≤ x3) → (Q (-14) h2)))))) ∧ (¬ (x3 ≤ 40) → (Q (-2) h2))))))))))))) : zcI M_X11_sheet [.ref 164, .int x1, .int x2, .int x3] h Q := by
  show zw zNT zNT M_X11_sheet 0 [some (.ref 164), some (.int x1), some (.int x2), some (.int x3), none] [] h _
  refine z_iload_n (pc := 0) dX11_sheet_0 rfl rfl ?_
  refine q_invS (pc := 1) (As := [.int x1]) (st := []) dX11_sheet_1 ok_X11_isSheet ml_RX11_297 st_X11_isSheet pa_X11_isSheet ⟨Nat.le_of_ble_eq_true rfl, Nat.le_of_ble_eq_true rfl⟩ (q_kI F (fun vh1 h1 F => ?_))
  obtain ⟨G1, F⟩ := F
  refine z_if_eq (pc := 4) (tgt := 27) dX11_sheet_4 (by decide) (fun k10 => ?_) (fun k10 => ?_)
  · replace F := F.1 k10
    refine z_bipush (pc := 27) (v := -2) dX11_sheet_27 (by decide) ?_
    exact q_retI (pc := 29) dX11_sheet_29 rfl F
  · replace F := F.2 k10
    refine z_iload_n (pc := 7) dX11_sheet_7 rfl rfl ?_
    refine z_iconst (pc := 8) (v := -1) dX11_sheet_8 (by decide) ?_
    refine z_iconst (pc := 9) (v := 1) dX11_sheet_9 (by decide) ?_
    refine q_invS (pc := 10) (As := [.int x2, .int (-1), .int 1]) (st := []) dX11_sheet_10 ok_X11_in ml_RX11_84 st_X11_in pa_X11_in ⟨Nat.le_of_ble_eq_true rfl, Nat.le_of_ble_eq_true rfl⟩ (q_kI F (fun vh2 h2 F => ?_))
    obtain ⟨G2, F⟩ := F
    refine z_if_eq (pc := 13) (tgt := 27) dX11_sheet_13 (by decide) (fun k9 => ?_) (fun k9 => ?_)
    · replace F := F.1 k9
      refine z_bipush (pc := 27) (v := -2) dX11_sheet_27 (by decide) ?_
      exact q_retI (pc := 29) dX11_sheet_29 rfl F
    · replace F := F.2 k9
      refine z_iload_n (pc := 16) dX11_sheet_16 rfl rfl ?_
      refine z_iconst (pc := 17) (v := -1) dX11_sheet_17 (by decide) ?_
      refine z_icmp_eq (pc := 18) (tgt := 30) dX11_sheet_18 (by decide) (fun k8 => ?_) (fun k8 => ?_)
      · replace F := F.1 k8
        refine z_iload_n (pc := 30) dX11_sheet_30 rfl rfl ?_
        refine z_iconst (pc := 31) (v := -1) dX11_sheet_31 (by decide) ?_
        refine z_icmp_eq (pc := 32) (tgt := 42) dX11_sheet_32 (by decide) (fun k4 => ?_) (fun k4 => ?_)
        · replace F := F.1 k4
          exact F
        · replace F := F.2 k4
          refine z_iload_n (pc := 35) dX11_sheet_35 rfl rfl ?_
          refine z_if_ge (pc := 36) (tgt := 42) dX11_sheet_36 (by decide) (fun k3 => ?_) (fun k3 => ?_)
          · replace F := F.1 k3
            exact F
          · replace F := F.2 k3
            refine z_bipush (pc := 39) (v := -14) dX11_sheet_39 (by decide) ?_
            exact q_retI (pc := 41) dX11_sheet_41 rfl F
      · replace F := F.2 k8
        refine z_iload_n (pc := 21) dX11_sheet_21 rfl rfl ?_
        refine z_bipush (pc := 22) (v := 40) dX11_sheet_22 (by decide) ?_
        refine z_icmp_le (pc := 24) (tgt := 30) dX11_sheet_24 (by decide) (fun k7 => ?_) (fun k7 => ?_)
        · replace F := F.1 k7
          refine z_iload_n (pc := 30) dX11_sheet_30 rfl rfl ?_
          refine z_iconst (pc := 31) (v := -1) dX11_sheet_31 (by decide) ?_
          refine z_icmp_eq (pc := 32) (tgt := 42) dX11_sheet_32 (by decide) (fun k6 => ?_) (fun k6 => ?_)
          · replace F := F.1 k6
            exact F
          · replace F := F.2 k6
            refine z_iload_n (pc := 35) dX11_sheet_35 rfl rfl ?_
            refine z_if_ge (pc := 36) (tgt := 42) dX11_sheet_36 (by decide) (fun k5 => ?_) (fun k5 => ?_)
            · replace F := F.1 k5
              exact F
            · replace F := F.2 k5
              refine z_bipush (pc := 39) (v := -14) dX11_sheet_39 (by decide) ?_
              exact q_retI (pc := 41) dX11_sheet_41 rfl F
        · replace F := F.2 k7
          refine z_bipush (pc := 27) (v := -2) dX11_sheet_27 (by decide) ?_
          exact q_retI (pc := 29) dX11_sheet_29 rfl F
theorem g_X11_sheet_42 {x1 : Int32} {x2 : Int32} {x3 : Int32} {h : zHp} {Q : Int32 → zHp → Prop}  (G : zG h) (F : vp_in x1 4 ∧ ((¬ x2 = -1 → (zlI M_X11_sheet 68 [some (.ref 164), some (.int x1), some (.int x2), some (.int x3), some (.int 0)] [] (wI (wI h 178 ((Int32.toNatClampNeg x1)) x2) 179 ((Int32.toNatClampNeg x1)) x3) Q)) ∧ (x2 = -1 → (zlI M_X11_sheet 68 [some (.ref 164), some (.int x1), some (.int x2), some (.int x3), some (.int 0)] [] (wI (wI h 178 ((Int32.toNatClampNeg x1)) x2) 179 ((Int32.toNatClampNeg x1)) 0) Q)))) : zlI M_X11_sheet 42 [some (.ref 164), some (.int x1), some (.int x2), some (.int x3), none] [] h Q := by
  refine z_aload_n (pc := 42) dX11_sheet_42 rfl rfl ?_
  refine q_getR (pc := 43) (i := 178) dX11_sheet_43 lk_RX11_75 (lyc rfl) (G 164 30 178 rfl) ?_
  refine z_iload_n (pc := 46) dX11_sheet_46 rfl rfl ?_
  refine z_iload_n (pc := 47) dX11_sheet_47 rfl rfl ?_
  obtain ⟨k1, F⟩ := F
  refine q_iast (pc := 48) (j := (Int32.toNatClampNeg x1)) dX11_sheet_48 (lyc rfl) (zvn (lnc rfl) k1) rfl ?_
  refine z_aload_n (pc := 49) dX11_sheet_49 rfl rfl ?_
  refine q_getR (pc := 50) (i := 179) dX11_sheet_50 lk_RX11_78 (lyc rfl) (G 164 31 179 rfl) ?_
  refine z_iload_n (pc := 53) dX11_sheet_53 rfl rfl ?_
  refine z_iload_n (pc := 54) dX11_sheet_54 rfl rfl ?_
  refine z_iconst (pc := 55) (v := -1) dX11_sheet_55 (by decide) ?_
  refine z_icmp_ne (pc := 56) (tgt := 63) dX11_sheet_56 (by decide) (fun k2 => ?_) (fun k2 => ?_)
  · replace F := F.1 k2
    refine z_iload_n (pc := 63) dX11_sheet_63 rfl rfl ?_
    refine q_iast (pc := 64) (j := (Int32.toNatClampNeg x1)) dX11_sheet_64 (lyc rfl) (zvn (lnc rfl) k1) rfl ?_
    refine z_iconst (pc := 65) (v := 0) dX11_sheet_65 (by decide) ?_
    refine z_istore (pc := 66) (ls' := [some (.ref 164), some (.int x1), some (.int x2), some (.int x3), some (.int 0)]) dX11_sheet_66 (by decide) rfl ?_
    exact F
  · replace F := F.2 k2
    refine z_iconst (pc := 59) (v := 0) dX11_sheet_59 (by decide) ?_
    refine z_goto (pc := 60) (tgt := 64) dX11_sheet_60 (by decide) ?_
    refine q_iast (pc := 64) (j := (Int32.toNatClampNeg x1)) dX11_sheet_64 (lyc rfl) (zvn (lnc rfl) k1) rfl ?_
    refine z_iconst (pc := 65) (v := 0) dX11_sheet_65 (by decide) ?_
    refine z_istore (pc := 66) (ls' := [some (.ref 164), some (.int x1), some (.int x2), some (.int x3), some (.int 0)]) dX11_sheet_66 (by decide) rfl ?_
    exact F
theorem g_X11_sheet_68 {x1 : Int32} {x2 : Int32} {x3 : Int32} {x4 : Int32} {h : zHp} {Q : Int32 → zHp → Prop}  (G : zG h) (F : (40 ≤ x4 → (Q 1 h)) ∧ (¬ (40 ≤ x4) → (vp_in ((40 * x1) + x4) 160 ∧ (zlI M_X11_sheet 68 [some (.ref 164), some (.int x1), some (.int x2), some (.int x3), some (.int (x4 + 1))] [] (wI h 180 ((Int32.toNatClampNeg ((40 * x1) + x4))) 0) Q)))) : zlI M_X11_sheet 68 [some (.ref 164), some (.int x1), some (.int x2), some (.int x3), some (.int x4)] [] h Q := by
  refine z_iload (pc := 68) dX11_sheet_68 rfl ?_
  refine z_bipush (pc := 70) (v := 40) dX11_sheet_70 (by decide) ?_
  refine z_icmp_ge (pc := 72) (tgt := 94) dX11_sheet_72 (by decide) (fun k2 => ?_) (fun k2 => ?_)
  · replace F := F.1 k2
    refine z_iconst (pc := 94) (v := 1) dX11_sheet_94 (by decide) ?_
    exact q_retI (pc := 95) dX11_sheet_95 rfl F
  · replace F := F.2 k2
    refine z_aload_n (pc := 75) dX11_sheet_75 rfl rfl ?_
    refine q_getR (pc := 76) (i := 180) dX11_sheet_76 lk_RX11_81 (lyc rfl) (G 164 32 180 rfl) ?_
    refine z_bipush (pc := 79) (v := 40) dX11_sheet_79 (by decide) ?_
    refine z_iload_n (pc := 81) dX11_sheet_81 rfl rfl ?_
    refine z_imul (pc := 82) dX11_sheet_82 ?_
    refine z_iload (pc := 83) dX11_sheet_83 rfl ?_
    refine z_iadd (pc := 85) dX11_sheet_85 ?_
    refine z_iconst (pc := 86) (v := 0) dX11_sheet_86 (by decide) ?_
    obtain ⟨k1, F⟩ := F
    refine q_iast (pc := 87) (j := (Int32.toNatClampNeg ((40 * x1) + x4))) dX11_sheet_87 (lyc rfl) (zvn (lnc rfl) k1) rfl ?_
    refine z_iinc (pc := 88) (v := x4 + 1) (ls' := [some (.ref 164), some (.int x1), some (.int x2), some (.int x3), some (.int (x4 + 1))]) dX11_sheet_88 (by decide) rfl rfl rfl ?_
    refine z_goto (pc := 91) (tgt := 68) dX11_sheet_91 (by decide) ?_
    exact F
theorem g_X11_wrongAt {x1 : Int32} {x2 : Int32} {h : zHp} {Q : Int32 → zHp → Prop}  (G : zG h) (F : zcI M_X11_isSheet [.int x1] h (fun vh1 h1 => zG h1 ∧ ((¬ vh1 = 0 → (vp_in x1 4 ∧ ((¬ rI h1 178 ((Int32.toNatClampNeg x1)) = -1 → (zcI M_X11_in [.int x2, .int 0, .int ((rI h1 179 ((Int32.toNatClampNeg x1))) - 1)] h1 (fun vh2 h2 => zG h2 ∧ ((vh2 = 0 → (Q (-12) h2)) ∧ (¬ (vh2 = 0) → (Q 0 h2)))))) ∧ (rI h1 178 ((Int32.toNatClampNeg x1)) = -1 → (Q (-11) h1))))) ∧ (vh1 = 0 → (Q (-2) h1))))) : zcI M_X11_wrongAt [.ref 164, .int x1, .int x2] h Q := by
  show zw zNT zNT M_X11_wrongAt 0 [some (.ref 164), some (.int x1), some (.int x2)] [] h _
  refine z_iload_n (pc := 0) dX11_wrongAt_0 rfl rfl ?_
  refine q_invS (pc := 1) (As := [.int x1]) (st := []) dX11_wrongAt_1 ok_X11_isSheet ml_RX11_297 st_X11_isSheet pa_X11_isSheet ⟨Nat.le_of_ble_eq_true rfl, Nat.le_of_ble_eq_true rfl⟩ (q_kI F (fun vh1 h1 F => ?_))
  obtain ⟨G1, F⟩ := F
  refine z_if_ne (pc := 4) (tgt := 12) dX11_wrongAt_4 (by decide) (fun k6 => ?_) (fun k6 => ?_)
  · replace F := F.1 k6
    refine z_aload_n (pc := 12) dX11_wrongAt_12 rfl rfl ?_
    refine q_getR (pc := 13) (i := 178) dX11_wrongAt_13 lk_RX11_75 (lyc rfl) (G1 164 30 178 rfl) ?_
    refine z_iload_n (pc := 16) dX11_wrongAt_16 rfl rfl ?_
    obtain ⟨k2, F⟩ := F
    refine q_iald (pc := 17) (j := (Int32.toNatClampNeg x1)) (v := rI h1 178 ((Int32.toNatClampNeg x1))) dX11_wrongAt_17 (lyc rfl) (zvn (lnc rfl) k2) rfl rfl ?_
    refine z_iconst (pc := 18) (v := -1) dX11_wrongAt_18 (by decide) ?_
    refine z_icmp_ne (pc := 19) (tgt := 27) dX11_wrongAt_19 (by decide) (fun k5 => ?_) (fun k5 => ?_)
    · replace F := F.1 k5
      refine z_iload_n (pc := 27) dX11_wrongAt_27 rfl rfl ?_
      refine z_iconst (pc := 28) (v := 0) dX11_wrongAt_28 (by decide) ?_
      refine z_aload_n (pc := 29) dX11_wrongAt_29 rfl rfl ?_
      refine q_getR (pc := 30) (i := 179) dX11_wrongAt_30 lk_RX11_78 (lyc rfl) (G1 164 31 179 rfl) ?_
      refine z_iload_n (pc := 33) dX11_wrongAt_33 rfl rfl ?_
      refine q_iald (pc := 34) (j := (Int32.toNatClampNeg x1)) (v := rI h1 179 ((Int32.toNatClampNeg x1))) dX11_wrongAt_34 (lyc rfl) (zvn (lnc rfl) k2) rfl rfl ?_
      refine z_iconst (pc := 35) (v := 1) dX11_wrongAt_35 (by decide) ?_
      refine z_isub (pc := 36) dX11_wrongAt_36 ?_
      refine q_invS (pc := 37) (As := [.int x2, .int 0, .int ((rI h1 179 ((Int32.toNatClampNeg x1))) - 1)]) (st := []) dX11_wrongAt_37 ok_X11_in ml_RX11_84 st_X11_in pa_X11_in ⟨Nat.le_of_ble_eq_true rfl, Nat.le_of_ble_eq_true rfl⟩ (q_kI F (fun vh2 h2 F => ?_))
      obtain ⟨G2, F⟩ := F
      refine z_if_eq (pc := 40) (tgt := 47) dX11_wrongAt_40 (by decide) (fun k4 => ?_) (fun k4 => ?_)
      · replace F := F.1 k4
        refine z_bipush (pc := 47) (v := -12) dX11_wrongAt_47 (by decide) ?_
        exact q_retI (pc := 49) dX11_wrongAt_49 rfl F
      · replace F := F.2 k4
        refine z_iconst (pc := 43) (v := 0) dX11_wrongAt_43 (by decide) ?_
        refine z_goto (pc := 44) (tgt := 49) dX11_wrongAt_44 (by decide) ?_
        exact q_retI (pc := 49) dX11_wrongAt_49 rfl F
    · replace F := F.2 k5
      refine z_bipush (pc := 22) (v := -11) dX11_wrongAt_22 (by decide) ?_
      refine z_goto (pc := 24) (tgt := 49) dX11_wrongAt_24 (by decide) ?_
      exact q_retI (pc := 49) dX11_wrongAt_49 rfl F
  · replace F := F.2 k6
    refine z_bipush (pc := 7) (v := -2) dX11_wrongAt_7 (by decide) ?_
    refine z_goto (pc := 9) (tgt := 49) dX11_wrongAt_9 (by decide) ?_
    exact q_retI (pc := 49) dX11_wrongAt_49 rfl F
theorem g_X11_write {x1 : Int32} {x2 : Int32} {x3 : Int32} {h : zHp} {Q : Int32 → zHp → Prop}  (G : zG h) (F : zcI M_X11_wrongAt [.ref 164, .int x1, .int x2] h (fun vh1 h1 => zG h1 ∧ ((vh1 = 0 → (vp_in x1 4 ∧ ((¬ rI h1 178 ((Int32.toNatClampNeg x1)) = 0 → (vp_in ((40 * x1) + x2) 160 ∧ (Q 1 (wI h1 180 ((Int32.toNatClampNeg ((40 * x1) + x2))) x3)))) ∧ (rI h1 178 ((Int32.toNatClampNeg x1)) = 0 → (vp_in ((40 * x1) + x2) 160 ∧ (Q 1 (wI h1 180 ((Int32.toNatClampNeg ((40 * x1) + x2))) ((Int32.toInt8 x3).toInt32)))))))) ∧ (¬ (vh1 = 0) → (Q vh1 h1))))) : zcI M_X11_write [.ref 164, .int x1, .int x2, .int x3] h Q := by
  show zw zNT zNT M_X11_write 0 [some (.ref 164), some (.int x1), some (.int x2), some (.int x3), none] [] h _
  refine z_aload_n (pc := 0) dX11_write_0 rfl rfl ?_
  refine z_iload_n (pc := 1) dX11_write_1 rfl rfl ?_
  refine z_iload_n (pc := 2) dX11_write_2 rfl rfl ?_
  refine q_invV (pc := 3) (As := [.int x1, .int x2]) (st := []) dX11_write_3 ok_X11_wrongAt ml_RX11_311 iv_X11_wrongAt pa_X11_wrongAt ⟨Nat.le_of_ble_eq_true rfl, Nat.le_of_ble_eq_true rfl⟩ (lyc rfl) (q_kI F (fun vh1 h1 F => ?_))
  obtain ⟨G1, F⟩ := F
  refine z_istore (pc := 6) (ls' := [some (.ref 164), some (.int x1), some (.int x2), some (.int x3), some (.int vh1)]) dX11_write_6 (by decide) rfl ?_
  refine z_iload (pc := 8) dX11_write_8 rfl ?_
  refine z_if_eq (pc := 10) (tgt := 16) dX11_write_10 (by decide) (fun k6 => ?_) (fun k6 => ?_)
  · replace F := F.1 k6
    refine z_aload_n (pc := 16) dX11_write_16 rfl rfl ?_
    refine q_getR (pc := 17) (i := 180) dX11_write_17 lk_RX11_81 (lyc rfl) (G1 164 32 180 rfl) ?_
    refine z_bipush (pc := 20) (v := 40) dX11_write_20 (by decide) ?_
    refine z_iload_n (pc := 22) dX11_write_22 rfl rfl ?_
    refine z_imul (pc := 23) dX11_write_23 ?_
    refine z_iload_n (pc := 24) dX11_write_24 rfl rfl ?_
    refine z_iadd (pc := 25) dX11_write_25 ?_
    refine z_aload_n (pc := 26) dX11_write_26 rfl rfl ?_
    refine q_getR (pc := 27) (i := 178) dX11_write_27 lk_RX11_75 (lyc rfl) (G1 164 30 178 rfl) ?_
    refine z_iload_n (pc := 30) dX11_write_30 rfl rfl ?_
    obtain ⟨k2, F⟩ := F
    refine q_iald (pc := 31) (j := (Int32.toNatClampNeg x1)) (v := rI h1 178 ((Int32.toNatClampNeg x1))) dX11_write_31 (lyc rfl) (zvn (lnc rfl) k2) rfl rfl ?_
    refine z_if_ne (pc := 32) (tgt := 40) dX11_write_32 (by decide) (fun k5 => ?_) (fun k5 => ?_)
    · replace F := F.1 k5
      refine z_iload_n (pc := 40) dX11_write_40 rfl rfl ?_
      obtain ⟨k3, F⟩ := F
      refine q_iast (pc := 41) (j := (Int32.toNatClampNeg ((40 * x1) + x2))) dX11_write_41 (lyc rfl) (zvn (lnc rfl) k3) rfl ?_
      refine z_iconst (pc := 42) (v := 1) dX11_write_42 (by decide) ?_
      exact q_retI (pc := 43) dX11_write_43 rfl F
    · replace F := F.2 k5
      refine z_iload_n (pc := 35) dX11_write_35 rfl rfl ?_
      refine z_i2b (pc := 36) dX11_write_36 ?_
      refine z_goto (pc := 37) (tgt := 41) dX11_write_37 (by decide) ?_
      obtain ⟨k4, F⟩ := F
      refine q_iast (pc := 41) (j := (Int32.toNatClampNeg ((40 * x1) + x2))) dX11_write_41 (lyc rfl) (zvn (lnc rfl) k4) rfl ?_
      refine z_iconst (pc := 42) (v := 1) dX11_write_42 (by decide) ?_
      exact q_retI (pc := 43) dX11_write_43 rfl F
  · replace F := F.2 k6
    refine z_iload (pc := 13) dX11_write_13 rfl ?_
    exact q_retI (pc := 15) dX11_write_15 rfl F
theorem g_X11_item {x1 : Int32} {x2 : Int32} {h : zHp} {Q : Int32 → zHp → Prop}  (G : zG h) (F : zcI M_X11_wrongAt [.ref 164, .int x1, .int x2] h (fun vh1 h1 => zG h1 ∧ ((vh1 = 0 → (vp_in ((40 * x1) + x2) 160 ∧ (Q (rI h1 180 ((Int32.toNatClampNeg ((40 * x1) + x2)))) h1))) ∧ (¬ (vh1 = 0) → (Q vh1 h1))))) : zcI M_X11_item [.ref 164, .int x1, .int x2] h Q := by
  show zw zNT zNT M_X11_item 0 [some (.ref 164), some (.int x1), some (.int x2), none] [] h _
  refine z_aload_n (pc := 0) dX11_item_0 rfl rfl ?_
  refine z_iload_n (pc := 1) dX11_item_1 rfl rfl ?_
  refine z_iload_n (pc := 2) dX11_item_2 rfl rfl ?_
  refine q_invV (pc := 3) (As := [.int x1, .int x2]) (st := []) dX11_item_3 ok_X11_wrongAt ml_RX11_311 iv_X11_wrongAt pa_X11_wrongAt ⟨Nat.le_of_ble_eq_true rfl, Nat.le_of_ble_eq_true rfl⟩ (lyc rfl) (q_kI F (fun vh1 h1 F => ?_))
  obtain ⟨G1, F⟩ := F
  refine z_istore_n (pc := 6) (ls' := [some (.ref 164), some (.int x1), some (.int x2), some (.int vh1)]) dX11_item_6 rfl (by decide) rfl ?_
  refine z_iload_n (pc := 7) dX11_item_7 rfl rfl ?_
  refine z_if_eq (pc := 8) (tgt := 15) dX11_item_8 (by decide) (fun k3 => ?_) (fun k3 => ?_)
  · replace F := F.1 k3
    refine z_aload_n (pc := 15) dX11_item_15 rfl rfl ?_
    refine q_getR (pc := 16) (i := 180) dX11_item_16 lk_RX11_81 (lyc rfl) (G1 164 32 180 rfl) ?_
    refine z_bipush (pc := 19) (v := 40) dX11_item_19 (by decide) ?_
    refine z_iload_n (pc := 21) dX11_item_21 rfl rfl ?_
    refine z_imul (pc := 22) dX11_item_22 ?_
    refine z_iload_n (pc := 23) dX11_item_23 rfl rfl ?_
    refine z_iadd (pc := 24) dX11_item_24 ?_
    obtain ⟨k2, F⟩ := F
    refine q_iald (pc := 25) (j := (Int32.toNatClampNeg ((40 * x1) + x2))) (v := rI h1 180 ((Int32.toNatClampNeg ((40 * x1) + x2)))) dX11_item_25 (lyc rfl) (zvn (lnc rfl) k2) rfl rfl ?_
    exact q_retI (pc := 26) dX11_item_26 rfl F
  · replace F := F.2 k3
    refine z_iload_n (pc := 11) dX11_item_11 rfl rfl ?_
    refine z_goto (pc := 12) (tgt := 26) dX11_item_12 (by decide) ?_
    exact q_retI (pc := 26) dX11_item_26 rfl F
theorem g_X11_copy {x1 : Int32} {x2 : Int32} {x3 : Int32} {x4 : Int32} {x5 : Int32} {h : zHp} {Q : Int32 → zHp → Prop}  (G : zG h) (F : zcI M_X11_isSheet [.int x1] h (fun vh1 h1 => zG h1 ∧ ((vh1 = 0 → (Q (-2) h1)) ∧ (¬ (vh1 = 0) → (zcI M_X11_isSheet [.int x3] h1 (fun vh2 h2 => zG h2 ∧ ((¬ vh2 = 0 → (vp_in x1 4 ∧ ((rI h2 178 ((Int32.toNatClampNeg x1)) = -1 → (Q (-11) h2)) ∧ (¬ (rI h2 178 ((Int32.toNatClampNeg x1)) = -1) → (vp_in x3 4 ∧ ((¬ rI h2 178 ((Int32.toNatClampNeg x3)) = -1 → ((rI h2 178 ((Int32.toNatClampNeg x1)) = rI h2 178 ((Int32.toNatClampNeg x3)) → ((x5 < 0 → (Q (-12) h2)) ∧ (¬ (x5 < 0) → ((x2 < 0 → (Q (-12) h2)) ∧ (¬ (x2 < 0) → ((x4 < 0 → (Q (-12) h2)) ∧ (¬ (x4 < 0) → (((rI h2 179 ((Int32.toNatClampNeg x1))) - x5 < x2 → (Q (-12) h2)) ∧ (¬ ((rI h2 179 ((Int32.toNatClampNeg x1))) - x5 < x2) → ((x4 ≤ (rI h2 179 ((Int32.toNatClampNeg x3))) - x5 → (((40 * x3) + x4 ≤ (40 * x1) + x2 → (zlI M_X11_copy 128 [some (.ref 164), some (.int x1), some (.int x2), some (.int x3), some (.int x4), some (.int x5), some (.int 0), some (.int 0), none] [] h2 Q)) ∧ (¬ ((40 * x3) + x4 ≤ (40 * x1) + x2) → (zlI M_X11_copy 128 [some (.ref 164), some (.int x1), some (.int x2), some (.int x3), some (.int x4), some (.int x5), some (.int 1), some (.int 0), none] [] h2 Q)))) ∧ (¬ (x4 ≤ (rI h2 179 ((Int32.toNatClampNeg x3))) - x5) → (Q (-12) h2)))))))))))) ∧ (¬ (rI h2 178 ((Int32.toNatClampNeg x1)) = rI h2 178 ((Int32.toNatClampNeg x3))) → (Q (-13) h2)))) ∧ (rI h2 178 ((Int32.toNatClampNeg x3)) = -1 → (Q (-11) h2)))))))) ∧ (vh2 = 0 → (Q (-2) h2))))))))) : zcI M_X11_copy [.ref 164, .int x1, .int x2, .int x3, .int x4, .int x5] h Q := by
  show zw zNT zNT M_X11_copy 0 [some (.ref 164), some (.int x1), some (.int x2), some (.int x3), some (.int x4), some (.int x5), none, none, none] [] h _
  refine z_iload_n (pc := 0) dX11_copy_0 rfl rfl ?_
  refine q_invS (pc := 1) (As := [.int x1]) (st := []) dX11_copy_1 ok_X11_isSheet ml_RX11_297 st_X11_isSheet pa_X11_isSheet ⟨Nat.le_of_ble_eq_true rfl, Nat.le_of_ble_eq_true rfl⟩ (q_kI F (fun vh1 h1 F => ?_))
  obtain ⟨G1, F⟩ := F
  refine z_if_eq (pc := 4) (tgt := 14) dX11_copy_4 (by decide) (fun k15 => ?_) (fun k15 => ?_)
  · replace F := F.1 k15
    refine z_bipush (pc := 14) (v := -2) dX11_copy_14 (by decide) ?_
    exact q_retI (pc := 16) dX11_copy_16 rfl F
  · replace F := F.2 k15
    refine z_iload_n (pc := 7) dX11_copy_7 rfl rfl ?_
    refine q_invS (pc := 8) (As := [.int x3]) (st := []) dX11_copy_8 ok_X11_isSheet ml_RX11_297 st_X11_isSheet pa_X11_isSheet ⟨Nat.le_of_ble_eq_true rfl, Nat.le_of_ble_eq_true rfl⟩ (q_kI F (fun vh2 h2 F => ?_))
    obtain ⟨G2, F⟩ := F
    refine z_if_ne (pc := 11) (tgt := 17) dX11_copy_11 (by decide) (fun k14 => ?_) (fun k14 => ?_)
    · replace F := F.1 k14
      refine z_aload_n (pc := 17) dX11_copy_17 rfl rfl ?_
      refine q_getR (pc := 18) (i := 178) dX11_copy_18 lk_RX11_75 (lyc rfl) (G2 164 30 178 rfl) ?_
      refine z_iload_n (pc := 21) dX11_copy_21 rfl rfl ?_
      obtain ⟨k3, F⟩ := F
      refine q_iald (pc := 22) (j := (Int32.toNatClampNeg x1)) (v := rI h2 178 ((Int32.toNatClampNeg x1))) dX11_copy_22 (lyc rfl) (zvn (lnc rfl) k3) rfl rfl ?_
      refine z_iconst (pc := 23) (v := -1) dX11_copy_23 (by decide) ?_
      refine z_icmp_eq (pc := 24) (tgt := 37) dX11_copy_24 (by decide) (fun k13 => ?_) (fun k13 => ?_)
      · replace F := F.1 k13
        refine z_bipush (pc := 37) (v := -11) dX11_copy_37 (by decide) ?_
        exact q_retI (pc := 39) dX11_copy_39 rfl F
      · replace F := F.2 k13
        refine z_aload_n (pc := 27) dX11_copy_27 rfl rfl ?_
        refine q_getR (pc := 28) (i := 178) dX11_copy_28 lk_RX11_75 (lyc rfl) (G2 164 30 178 rfl) ?_
        refine z_iload_n (pc := 31) dX11_copy_31 rfl rfl ?_
        obtain ⟨k4, F⟩ := F
        refine q_iald (pc := 32) (j := (Int32.toNatClampNeg x3)) (v := rI h2 178 ((Int32.toNatClampNeg x3))) dX11_copy_32 (lyc rfl) (zvn (lnc rfl) k4) rfl rfl ?_
        refine z_iconst (pc := 33) (v := -1) dX11_copy_33 (by decide) ?_
        refine z_icmp_ne (pc := 34) (tgt := 40) dX11_copy_34 (by decide) (fun k12 => ?_) (fun k12 => ?_)
        · replace F := F.1 k12
          refine z_aload_n (pc := 40) dX11_copy_40 rfl rfl ?_
          refine q_getR (pc := 41) (i := 178) dX11_copy_41 lk_RX11_75 (lyc rfl) (G2 164 30 178 rfl) ?_
          refine z_iload_n (pc := 44) dX11_copy_44 rfl rfl ?_
          refine q_iald (pc := 45) (j := (Int32.toNatClampNeg x1)) (v := rI h2 178 ((Int32.toNatClampNeg x1))) dX11_copy_45 (lyc rfl) (zvn (lnc rfl) k3) rfl rfl ?_
          refine z_aload_n (pc := 46) dX11_copy_46 rfl rfl ?_
          refine q_getR (pc := 47) (i := 178) dX11_copy_47 lk_RX11_75 (lyc rfl) (G2 164 30 178 rfl) ?_
          refine z_iload_n (pc := 50) dX11_copy_50 rfl rfl ?_
          refine q_iald (pc := 51) (j := (Int32.toNatClampNeg x3)) (v := rI h2 178 ((Int32.toNatClampNeg x3))) dX11_copy_51 (lyc rfl) (zvn (lnc rfl) k4) rfl rfl ?_
          refine z_icmp_eq (pc := 52) (tgt := 58) dX11_copy_52 (by decide) (fun k11 => ?_) (fun k11 => ?_)
          · replace F := F.1 k11
            refine z_iload (pc := 58) dX11_copy_58 rfl ?_
            refine z_if_lt (pc := 60) (tgt := 99) dX11_copy_60 (by decide) (fun k10 => ?_) (fun k10 => ?_)
            · replace F := F.1 k10
              refine z_bipush (pc := 99) (v := -12) dX11_copy_99 (by decide) ?_
              exact q_retI (pc := 101) dX11_copy_101 rfl F
            · replace F := F.2 k10
              refine z_iload_n (pc := 63) dX11_copy_63 rfl rfl ?_
              refine z_if_lt (pc := 64) (tgt := 99) dX11_copy_64 (by decide) (fun k9 => ?_) (fun k9 => ?_)
              · replace F := F.1 k9
                refine z_bipush (pc := 99) (v := -12) dX11_copy_99 (by decide) ?_
                exact q_retI (pc := 101) dX11_copy_101 rfl F
              · replace F := F.2 k9
                refine z_iload (pc := 67) dX11_copy_67 rfl ?_
                refine z_if_lt (pc := 69) (tgt := 99) dX11_copy_69 (by decide) (fun k8 => ?_) (fun k8 => ?_)
                · replace F := F.1 k8
                  refine z_bipush (pc := 99) (v := -12) dX11_copy_99 (by decide) ?_
                  exact q_retI (pc := 101) dX11_copy_101 rfl F
                · replace F := F.2 k8
                  refine z_iload_n (pc := 72) dX11_copy_72 rfl rfl ?_
                  refine z_aload_n (pc := 73) dX11_copy_73 rfl rfl ?_
                  refine q_getR (pc := 74) (i := 179) dX11_copy_74 lk_RX11_78 (lyc rfl) (G2 164 31 179 rfl) ?_
                  refine z_iload_n (pc := 77) dX11_copy_77 rfl rfl ?_
                  refine q_iald (pc := 78) (j := (Int32.toNatClampNeg x1)) (v := rI h2 179 ((Int32.toNatClampNeg x1))) dX11_copy_78 (lyc rfl) (zvn (lnc rfl) k3) rfl rfl ?_
                  refine z_iload (pc := 79) dX11_copy_79 rfl ?_
                  refine z_isub (pc := 81) dX11_copy_81 ?_
                  refine z_icmp_gt (pc := 82) (tgt := 99) dX11_copy_82 (by decide) (fun k7 => ?_) (fun k7 => ?_)
                  · replace F := F.1 k7
                    refine z_bipush (pc := 99) (v := -12) dX11_copy_99 (by decide) ?_
                    exact q_retI (pc := 101) dX11_copy_101 rfl F
                  · replace F := F.2 k7
                    refine z_iload (pc := 85) dX11_copy_85 rfl ?_
                    refine z_aload_n (pc := 87) dX11_copy_87 rfl rfl ?_
                    refine q_getR (pc := 88) (i := 179) dX11_copy_88 lk_RX11_78 (lyc rfl) (G2 164 31 179 rfl) ?_
                    refine z_iload_n (pc := 91) dX11_copy_91 rfl rfl ?_
                    refine q_iald (pc := 92) (j := (Int32.toNatClampNeg x3)) (v := rI h2 179 ((Int32.toNatClampNeg x3))) dX11_copy_92 (lyc rfl) (zvn (lnc rfl) k4) rfl rfl ?_
                    refine z_iload (pc := 93) dX11_copy_93 rfl ?_
                    refine z_isub (pc := 95) dX11_copy_95 ?_
                    refine z_icmp_le (pc := 96) (tgt := 102) dX11_copy_96 (by decide) (fun k6 => ?_) (fun k6 => ?_)
                    · replace F := F.1 k6
                      refine z_bipush (pc := 102) (v := 40) dX11_copy_102 (by decide) ?_
                      refine z_iload_n (pc := 104) dX11_copy_104 rfl rfl ?_
                      refine z_imul (pc := 105) dX11_copy_105 ?_
                      refine z_iload_n (pc := 106) dX11_copy_106 rfl rfl ?_
                      refine z_iadd (pc := 107) dX11_copy_107 ?_
                      refine z_bipush (pc := 108) (v := 40) dX11_copy_108 (by decide) ?_
                      refine z_iload_n (pc := 110) dX11_copy_110 rfl rfl ?_
                      refine z_imul (pc := 111) dX11_copy_111 ?_
                      refine z_iload (pc := 112) dX11_copy_112 rfl ?_
                      refine z_iadd (pc := 114) dX11_copy_114 ?_
                      refine z_icmp_ge (pc := 115) (tgt := 122) dX11_copy_115 (by decide) (fun k5 => ?_) (fun k5 => ?_)
                      · replace F := F.1 k5
                        refine z_iconst (pc := 122) (v := 0) dX11_copy_122 (by decide) ?_
                        refine z_istore (pc := 123) (ls' := [some (.ref 164), some (.int x1), some (.int x2), some (.int x3), some (.int x4), some (.int x5), some (.int 0), none, none]) dX11_copy_123 (by decide) rfl ?_
                        refine z_iconst (pc := 125) (v := 0) dX11_copy_125 (by decide) ?_
                        refine z_istore (pc := 126) (ls' := [some (.ref 164), some (.int x1), some (.int x2), some (.int x3), some (.int x4), some (.int x5), some (.int 0), some (.int 0), none]) dX11_copy_126 (by decide) rfl ?_
                        exact F
                      · replace F := F.2 k5
                        refine z_iconst (pc := 118) (v := 1) dX11_copy_118 (by decide) ?_
                        refine z_goto (pc := 119) (tgt := 123) dX11_copy_119 (by decide) ?_
                        refine z_istore (pc := 123) (ls' := [some (.ref 164), some (.int x1), some (.int x2), some (.int x3), some (.int x4), some (.int x5), some (.int 1), none, none]) dX11_copy_123 (by decide) rfl ?_
                        refine z_iconst (pc := 125) (v := 0) dX11_copy_125 (by decide) ?_
                        refine z_istore (pc := 126) (ls' := [some (.ref 164), some (.int x1), some (.int x2), some (.int x3), some (.int x4), some (.int x5), some (.int 1), some (.int 0), none]) dX11_copy_126 (by decide) rfl ?_
                        exact F
                    · replace F := F.2 k6
                      refine z_bipush (pc := 99) (v := -12) dX11_copy_99 (by decide) ?_
                      exact q_retI (pc := 101) dX11_copy_101 rfl F
          · replace F := F.2 k11
            refine z_bipush (pc := 55) (v := -13) dX11_copy_55 (by decide) ?_
            exact q_retI (pc := 57) dX11_copy_57 rfl F
        · replace F := F.2 k12
          refine z_bipush (pc := 37) (v := -11) dX11_copy_37 (by decide) ?_
          exact q_retI (pc := 39) dX11_copy_39 rfl F
    · replace F := F.2 k14
      refine z_bipush (pc := 14) (v := -2) dX11_copy_14 (by decide) ?_
      exact q_retI (pc := 16) dX11_copy_16 rfl F
theorem g_X11_copy_128 {x1 : Int32} {x2 : Int32} {x3 : Int32} {x4 : Int32} {x5 : Int32} {x6 : Int32} {x7 : Int32} {h : zHp} {Q : Int32 → zHp → Prop}  (G : zG h) (F : (x5 ≤ x7 → (Q x5 h)) ∧ (¬ (x5 ≤ x7) → ((x6 = 0 → (zlI M_X11_copy 152 [some (.ref 164), some (.int x1), some (.int x2), some (.int x3), some (.int x4), some (.int x5), some (.int x6), some (.int x7), none] [.int x7] h Q)) ∧ (¬ (x6 = 0) → (zlI M_X11_copy 152 [some (.ref 164), some (.int x1), some (.int x2), some (.int x3), some (.int x4), some (.int x5), some (.int x6), some (.int x7), none] [.int ((x5 - 1) - x7)] h Q))))) : zlI M_X11_copy 128 [some (.ref 164), some (.int x1), some (.int x2), some (.int x3), some (.int x4), some (.int x5), some (.int x6), some (.int x7), none] [] h Q := by
  refine z_iload (pc := 128) dX11_copy_128 rfl ?_
  refine z_iload (pc := 130) dX11_copy_130 rfl ?_
  refine z_icmp_ge (pc := 132) (tgt := 189) dX11_copy_132 (by decide) (fun k2 => ?_) (fun k2 => ?_)
  · replace F := F.1 k2
    refine z_iload (pc := 189) dX11_copy_189 rfl ?_
    exact q_retI (pc := 191) dX11_copy_191 rfl F
  · replace F := F.2 k2
    refine z_iload (pc := 135) dX11_copy_135 rfl ?_
    refine z_if_eq (pc := 137) (tgt := 150) dX11_copy_137 (by decide) (fun k1 => ?_) (fun k1 => ?_)
    · replace F := F.1 k1
      refine z_iload (pc := 150) dX11_copy_150 rfl ?_
      exact F
    · replace F := F.2 k1
      refine z_iload (pc := 140) dX11_copy_140 rfl ?_
      refine z_iconst (pc := 142) (v := 1) dX11_copy_142 (by decide) ?_
      refine z_isub (pc := 143) dX11_copy_143 ?_
      refine z_iload (pc := 144) dX11_copy_144 rfl ?_
      refine z_isub (pc := 146) dX11_copy_146 ?_
      refine z_goto (pc := 147) (tgt := 152) dX11_copy_147 (by decide) ?_
      exact F
theorem g_X11_copy_152 {x1 : Int32} {x2 : Int32} {x3 : Int32} {x4 : Int32} {x5 : Int32} {x6 : Int32} {x7 : Int32} {xs0 : Int32} {h : zHp} {Q : Int32 → zHp → Prop}  (G : zG h) (F : vp_in (((40 * x1) + x2) + xs0) 160 ∧ (vp_in (((40 * x3) + x4) + xs0) 160 ∧ (zlI M_X11_copy 128 [some (.ref 164), some (.int x1), some (.int x2), some (.int x3), some (.int x4), some (.int x5), some (.int x6), some (.int (x7 + 1)), none] [] (wI h 180 ((Int32.toNatClampNeg (((40 * x3) + x4) + xs0))) (rI h 180 ((Int32.toNatClampNeg (((40 * x1) + x2) + xs0))))) Q))) : zlI M_X11_copy 152 [some (.ref 164), some (.int x1), some (.int x2), some (.int x3), some (.int x4), some (.int x5), some (.int x6), some (.int x7), none] [.int xs0] h Q := by
  refine z_istore (pc := 152) (ls' := [some (.ref 164), some (.int x1), some (.int x2), some (.int x3), some (.int x4), some (.int x5), some (.int x6), some (.int x7), some (.int xs0)]) dX11_copy_152 (by decide) rfl ?_
  refine z_aload_n (pc := 154) dX11_copy_154 rfl rfl ?_
  refine q_getR (pc := 155) (i := 180) dX11_copy_155 lk_RX11_81 (lyc rfl) (G 164 32 180 rfl) ?_
  refine z_bipush (pc := 158) (v := 40) dX11_copy_158 (by decide) ?_
  refine z_iload_n (pc := 160) dX11_copy_160 rfl rfl ?_
  refine z_imul (pc := 161) dX11_copy_161 ?_
  refine z_iload (pc := 162) dX11_copy_162 rfl ?_
  refine z_iadd (pc := 164) dX11_copy_164 ?_
  refine z_iload (pc := 165) dX11_copy_165 rfl ?_
  refine z_iadd (pc := 167) dX11_copy_167 ?_
  refine z_aload_n (pc := 168) dX11_copy_168 rfl rfl ?_
  refine q_getR (pc := 169) (i := 180) dX11_copy_169 lk_RX11_81 (lyc rfl) (G 164 32 180 rfl) ?_
  refine z_bipush (pc := 172) (v := 40) dX11_copy_172 (by decide) ?_
  refine z_iload_n (pc := 174) dX11_copy_174 rfl rfl ?_
  refine z_imul (pc := 175) dX11_copy_175 ?_
  refine z_iload_n (pc := 176) dX11_copy_176 rfl rfl ?_
  refine z_iadd (pc := 177) dX11_copy_177 ?_
  refine z_iload (pc := 178) dX11_copy_178 rfl ?_
  refine z_iadd (pc := 180) dX11_copy_180 ?_
  obtain ⟨k1, F⟩ := F
  refine q_iald (pc := 181) (j := (Int32.toNatClampNeg (((40 * x1) + x2) + xs0))) (v := rI h 180 ((Int32.toNatClampNeg (((40 * x1) + x2) + xs0)))) dX11_copy_181 (lyc rfl) (zvn (lnc rfl) k1) rfl rfl ?_
  obtain ⟨k2, F⟩ := F
  refine q_iast (pc := 182) (j := (Int32.toNatClampNeg (((40 * x3) + x4) + xs0))) dX11_copy_182 (lyc rfl) (zvn (lnc rfl) k2) rfl ?_
  refine z_iinc (pc := 183) (v := x7 + 1) (ls' := [some (.ref 164), some (.int x1), some (.int x2), some (.int x3), some (.int x4), some (.int x5), some (.int x6), some (.int (x7 + 1)), some (.int xs0)]) dX11_copy_183 (by decide) rfl rfl rfl ?_
  refine z_goto (pc := 186) (tgt := 128) dX11_copy_186 (by decide) ?_
  exact q_sub (ls' := [some (.ref 164), some (.int x1), some (.int x2), some (.int x3), some (.int x4), some (.int x5), some (.int x6), some (.int (x7 + 1)), none]) ⟨rfl, rfl, rfl, rfl, rfl, rfl, rfl, rfl, trivial⟩ F
theorem g_X11_image  {h : zHp} {Q : Int32 → zHp → Prop}  (G : zG h) (F : zcV M_X11_copies [.ref 165, .ref 166] h (fun h1 => zG h1 ∧ (Q (rI h1 165 238) (wI h1 164 3 1)))) : zcI M_X11_image [.ref 164] h Q := by
  show zw zNT zNT M_X11_image 0 [some (.ref 164)] [] h _
  refine z_aload_n (pc := 0) dX11_image_0 rfl rfl ?_
  refine q_getR (pc := 1) (i := 165) dX11_image_1 lk_RX11_7 (lyc rfl) (G 164 0 165 rfl) ?_
  refine z_aload_n (pc := 4) dX11_image_4 rfl rfl ?_
  refine q_getR (pc := 5) (i := 166) dX11_image_5 lk_RX11_13 (lyc rfl) (G 164 1 166 rfl) ?_
  refine q_invS (pc := 8) (As := [.ref 165, .ref 166]) (st := []) dX11_image_8 ok_X11_copies ml_RX11_230 st_X11_copies pa_X11_copies ⟨Nat.le_of_ble_eq_true rfl, Nat.le_of_ble_eq_true rfl⟩ (q_kV F (fun h1 F => ?_))
  obtain ⟨G1, F⟩ := F
  refine z_aload_n (pc := 11) dX11_image_11 rfl rfl ?_
  refine z_iconst (pc := 12) (v := 1) dX11_image_12 (by decide) ?_
  refine q_putB (pc := 13) dX11_image_13 lk_RX11_314 (lyc rfl) (Or.inr rfl) ?_
  refine z_aload_n (pc := 16) dX11_image_16 rfl rfl ?_
  refine q_getR (pc := 17) (i := 165) dX11_image_17 lk_RX11_7 (lyc rfl) (G1 164 0 165 rfl) ?_
  refine z_sipush (pc := 20) (v := 238) dX11_image_20 (by decide) ?_
  refine q_iald (pc := 23) (j := 238) (v := rI h1 165 238) dX11_image_23 (lyc rfl) (zvl (lnc rfl) (by decide)) (by decide) (rI_k (by decide)) ?_
  exact q_retI (pc := 24) dX11_image_24 rfl F
theorem g_X11_back  {h : zHp} {Q : Int32 → zHp → Prop}  (G : zG h) (F : (¬ rI h 164 3 = 0 → (zcV M_X11_copies [.ref 166, .ref 165] h (fun h1 => zG h1 ∧ (Q (rI h1 165 238) h1)))) ∧ (rI h 164 3 = 0 → (Q (-3) h))) : zcI M_X11_back [.ref 164] h Q := by
  show zw zNT zNT M_X11_back 0 [some (.ref 164)] [] h _
  refine z_aload_n (pc := 0) dX11_back_0 rfl rfl ?_
  refine q_getI (pc := 1) (v := rI h 164 3) dX11_back_1 lk_RX11_314 (lyc rfl) rfl ?_
  refine z_if_ne (pc := 4) (tgt := 10) dX11_back_4 (by decide) (fun k2 => ?_) (fun k2 => ?_)
  · replace F := F.1 k2
    refine z_aload_n (pc := 10) dX11_back_10 rfl rfl ?_
    refine q_getR (pc := 11) (i := 166) dX11_back_11 lk_RX11_13 (lyc rfl) (G 164 1 166 rfl) ?_
    refine z_aload_n (pc := 14) dX11_back_14 rfl rfl ?_
    refine q_getR (pc := 15) (i := 165) dX11_back_15 lk_RX11_7 (lyc rfl) (G 164 0 165 rfl) ?_
    refine q_invS (pc := 18) (As := [.ref 166, .ref 165]) (st := []) dX11_back_18 ok_X11_copies ml_RX11_230 st_X11_copies pa_X11_copies ⟨Nat.le_of_ble_eq_true rfl, Nat.le_of_ble_eq_true rfl⟩ (q_kV F (fun h1 F => ?_))
    obtain ⟨G1, F⟩ := F
    refine z_aload_n (pc := 21) dX11_back_21 rfl rfl ?_
    refine q_getR (pc := 22) (i := 165) dX11_back_22 lk_RX11_7 (lyc rfl) (G1 164 0 165 rfl) ?_
    refine z_sipush (pc := 25) (v := 238) dX11_back_25 (by decide) ?_
    refine q_iald (pc := 28) (j := 238) (v := rI h1 165 238) dX11_back_28 (lyc rfl) (zvl (lnc rfl) (by decide)) (by decide) rfl ?_
    exact q_retI (pc := 29) dX11_back_29 rfl F
  · replace F := F.2 k2
    refine z_bipush (pc := 7) (v := -3) dX11_back_7 (by decide) ?_
    exact q_retI (pc := 9) dX11_back_9 rfl F
theorem g_X11_count {x1 : Int32} {h : zHp} {Q : Int32 → zHp → Prop}  (G : zG h) (F : zlI M_X11_count 4 [some (.ref 164), some (.int x1), some (.int 0), some (.int 0)] [] h Q) : zcI M_X11_count [.ref 164, .int x1] h Q := by
  show zw zNT zNT M_X11_count 0 [some (.ref 164), some (.int x1), none, none] [] h _
  refine z_iconst (pc := 0) (v := 0) dX11_count_0 (by decide) ?_
  refine z_istore_n (pc := 1) (ls' := [some (.ref 164), some (.int x1), some (.int 0), none]) dX11_count_1 rfl (by decide) rfl ?_
  refine z_iconst (pc := 2) (v := 0) dX11_count_2 (by decide) ?_
  refine z_istore_n (pc := 3) (ls' := [some (.ref 164), some (.int x1), some (.int 0), some (.int 0)]) dX11_count_3 rfl (by decide) rfl ?_
  exact F
theorem g_X11_count_4 {x1 : Int32} {x2 : Int32} {x3 : Int32} {h : zHp} {Q : Int32 → zHp → Prop}  (G : zG h) (F : (rI h 165 238 ≤ x3 → ((x1 = 0 → (Q (rI h 165 238) h)) ∧ (¬ x1 = 0 → ((x1 = 1 → (Q x2 h)) ∧ (¬ x1 = 1 → ((x1 = 2 → (Q (rI h 165 239) h)) ∧ (¬ x1 = 2 → ((x1 = 3 → (Q (rI h 165 240) h)) ∧ (¬ x1 = 3 → ((x1 = 4 → (Q (rI h 165 241) h)) ∧ (¬ x1 = 4 → ((x1 = 5 → (Q (rI h 165 244) h)) ∧ (¬ x1 = 5 → ((x1 = 6 → (Q (rI h 164 21) h)) ∧ (¬ x1 = 6 → ((x1 = 7 → (Q (rI h 165 245) h)) ∧ (¬ x1 = 7 → (Q (-2) h)))))))))))))))))) ∧ (¬ (rI h 165 238 ≤ x3) → (zcI M_X11_isAlive [.ref 164, .int x3] h (fun vh1 h1 => zG h1 ∧ ((vh1 = 0 → (zlI M_X11_count 4 [some (.ref 164), some (.int x1), some (.int (x2 ||| 0)), some (.int (x3 + 1))] [] h1 Q)) ∧ (¬ (vh1 = 0) → (zlI M_X11_count 4 [some (.ref 164), some (.int x1), some (.int (x2 ||| (1 <<< (x3 &&& 31)))), some (.int (x3 + 1))] [] h1 Q))))))) : zlI M_X11_count 4 [some (.ref 164), some (.int x1), some (.int x2), some (.int x3)] [] h Q := by
  refine z_iload_n (pc := 4) dX11_count_4 rfl rfl ?_
  refine z_aload_n (pc := 5) dX11_count_5 rfl rfl ?_
  refine q_getR (pc := 6) (i := 165) dX11_count_6 lk_RX11_7 (lyc rfl) (G 164 0 165 rfl) ?_
  refine z_sipush (pc := 9) (v := 238) dX11_count_9 (by decide) ?_
  refine q_iald (pc := 12) (j := 238) (v := rI h 165 238) dX11_count_12 (lyc rfl) (zvl (lnc rfl) (by decide)) (by decide) rfl ?_
  refine z_icmp_ge (pc := 13) (tgt := 40) dX11_count_13 (by decide) (fun k11 => ?_) (fun k11 => ?_)
  · replace F := F.1 k11
    refine z_iload_n (pc := 40) dX11_count_40 rfl rfl ?_
    by_cases k1 : x1 = 0
    · replace F := F.1 k1
      refine z_tableIn (pc := 41) (x := x1) (tgt := 88) (off := 47) dX11_count_41 (by rw [k1]; decide) (by rw [k1]; decide) (by rw [k1]; decide) (by decide) ?_
      refine z_aload_n (pc := 88) dX11_count_88 rfl rfl ?_
      refine q_getR (pc := 89) (i := 165) dX11_count_89 lk_RX11_7 (lyc rfl) (G 164 0 165 rfl) ?_
      refine z_sipush (pc := 92) (v := 238) dX11_count_92 (by decide) ?_
      refine q_iald (pc := 95) (j := 238) (v := rI h 165 238) dX11_count_95 (lyc rfl) (zvl (lnc rfl) (by decide)) (by decide) rfl ?_
      exact q_retI (pc := 96) dX11_count_96 rfl F
    · replace F := F.2 k1
      by_cases k2 : x1 = 1
      · replace F := F.1 k2
        refine z_tableIn (pc := 41) (x := x1) (tgt := 97) (off := 56) dX11_count_41 (by rw [k2]; decide) (by rw [k2]; decide) (by rw [k2]; decide) (by decide) ?_
        refine z_iload_n (pc := 97) dX11_count_97 rfl rfl ?_
        exact q_retI (pc := 98) dX11_count_98 rfl F
      · replace F := F.2 k2
        by_cases k3 : x1 = 2
        · replace F := F.1 k3
          refine z_tableIn (pc := 41) (x := x1) (tgt := 99) (off := 58) dX11_count_41 (by rw [k3]; decide) (by rw [k3]; decide) (by rw [k3]; decide) (by decide) ?_
          refine z_aload_n (pc := 99) dX11_count_99 rfl rfl ?_
          refine q_getR (pc := 100) (i := 165) dX11_count_100 lk_RX11_7 (lyc rfl) (G 164 0 165 rfl) ?_
          refine z_sipush (pc := 103) (v := 239) dX11_count_103 (by decide) ?_
          refine q_iald (pc := 106) (j := 239) (v := rI h 165 239) dX11_count_106 (lyc rfl) (zvl (lnc rfl) (by decide)) (by decide) rfl ?_
          exact q_retI (pc := 107) dX11_count_107 rfl F
        · replace F := F.2 k3
          by_cases k4 : x1 = 3
          · replace F := F.1 k4
            refine z_tableIn (pc := 41) (x := x1) (tgt := 108) (off := 67) dX11_count_41 (by rw [k4]; decide) (by rw [k4]; decide) (by rw [k4]; decide) (by decide) ?_
            refine z_aload_n (pc := 108) dX11_count_108 rfl rfl ?_
            refine q_getR (pc := 109) (i := 165) dX11_count_109 lk_RX11_7 (lyc rfl) (G 164 0 165 rfl) ?_
            refine z_sipush (pc := 112) (v := 240) dX11_count_112 (by decide) ?_
            refine q_iald (pc := 115) (j := 240) (v := rI h 165 240) dX11_count_115 (lyc rfl) (zvl (lnc rfl) (by decide)) (by decide) rfl ?_
            exact q_retI (pc := 116) dX11_count_116 rfl F
          · replace F := F.2 k4
            by_cases k5 : x1 = 4
            · replace F := F.1 k5
              refine z_tableIn (pc := 41) (x := x1) (tgt := 117) (off := 76) dX11_count_41 (by rw [k5]; decide) (by rw [k5]; decide) (by rw [k5]; decide) (by decide) ?_
              refine z_aload_n (pc := 117) dX11_count_117 rfl rfl ?_
              refine q_getR (pc := 118) (i := 165) dX11_count_118 lk_RX11_7 (lyc rfl) (G 164 0 165 rfl) ?_
              refine z_sipush (pc := 121) (v := 241) dX11_count_121 (by decide) ?_
              refine q_iald (pc := 124) (j := 241) (v := rI h 165 241) dX11_count_124 (lyc rfl) (zvl (lnc rfl) (by decide)) (by decide) rfl ?_
              exact q_retI (pc := 125) dX11_count_125 rfl F
            · replace F := F.2 k5
              by_cases k6 : x1 = 5
              · replace F := F.1 k6
                refine z_tableIn (pc := 41) (x := x1) (tgt := 126) (off := 85) dX11_count_41 (by rw [k6]; decide) (by rw [k6]; decide) (by rw [k6]; decide) (by decide) ?_
                refine z_aload_n (pc := 126) dX11_count_126 rfl rfl ?_
                refine q_getR (pc := 127) (i := 165) dX11_count_127 lk_RX11_7 (lyc rfl) (G 164 0 165 rfl) ?_
                refine z_sipush (pc := 130) (v := 244) dX11_count_130 (by decide) ?_
                refine q_iald (pc := 133) (j := 244) (v := rI h 165 244) dX11_count_133 (lyc rfl) (zvl (lnc rfl) (by decide)) (by decide) rfl ?_
                exact q_retI (pc := 134) dX11_count_134 rfl F
              · replace F := F.2 k6
                by_cases k7 : x1 = 6
                · replace F := F.1 k7
                  refine z_tableIn (pc := 41) (x := x1) (tgt := 135) (off := 94) dX11_count_41 (by rw [k7]; decide) (by rw [k7]; decide) (by rw [k7]; decide) (by decide) ?_
                  refine z_aload_n (pc := 135) dX11_count_135 rfl rfl ?_
                  refine q_getI (pc := 136) (v := rI h 164 21) dX11_count_136 lk_RX11_242 (lyc rfl) rfl ?_
                  exact q_retI (pc := 139) dX11_count_139 rfl F
                · replace F := F.2 k7
                  by_cases k8 : x1 = 7
                  · replace F := F.1 k8
                    refine z_tableIn (pc := 41) (x := x1) (tgt := 140) (off := 99) dX11_count_41 (by rw [k8]; decide) (by rw [k8]; decide) (by rw [k8]; decide) (by decide) ?_
                    refine z_aload_n (pc := 140) dX11_count_140 rfl rfl ?_
                    refine q_getR (pc := 141) (i := 165) dX11_count_141 lk_RX11_7 (lyc rfl) (G 164 0 165 rfl) ?_
                    refine z_sipush (pc := 144) (v := 245) dX11_count_144 (by decide) ?_
                    refine q_iald (pc := 147) (j := 245) (v := rI h 165 245) dX11_count_147 (lyc rfl) (zvl (lnc rfl) (by decide)) (by decide) rfl ?_
                    exact q_retI (pc := 148) dX11_count_148 rfl F
                  · replace F := F.2 k8
                    have hz0 := q_sw (0) k1 (by decide)
                    have hz1 := q_sw (1) k2 (by decide)
                    have hz2 := q_sw (2) k3 (by decide)
                    have hz3 := q_sw (3) k4 (by decide)
                    have hz4 := q_sw (4) k5 (by decide)
                    have hz5 := q_sw (5) k6 (by decide)
                    have hz6 := q_sw (6) k7 (by decide)
                    have hz7 := q_sw (7) k8 (by decide)
                    refine z_tableOut (pc := 41) (tgt := 149) dX11_count_41 (by omega) (by decide) ?_
                    refine z_bipush (pc := 149) (v := -2) dX11_count_149 (by decide) ?_
                    exact q_retI (pc := 151) dX11_count_151 rfl F
  · replace F := F.2 k11
    refine z_iload_n (pc := 16) dX11_count_16 rfl rfl ?_
    refine z_aload_n (pc := 17) dX11_count_17 rfl rfl ?_
    refine z_iload_n (pc := 18) dX11_count_18 rfl rfl ?_
    refine q_invV (pc := 19) (As := [.int x3]) (st := [.int x2]) dX11_count_19 ok_X11_isAlive ml_RX11_100 iv_X11_isAlive pa_X11_isAlive ⟨Nat.le_of_ble_eq_true rfl, Nat.le_of_ble_eq_true rfl⟩ (lyc rfl) (q_kI F (fun vh1 h1 F => ?_))
    obtain ⟨G1, F⟩ := F
    refine z_if_eq (pc := 22) (tgt := 31) dX11_count_22 (by decide) (fun k10 => ?_) (fun k10 => ?_)
    · replace F := F.1 k10
      refine z_iconst (pc := 31) (v := 0) dX11_count_31 (by decide) ?_
      refine z_ior (pc := 32) dX11_count_32 ?_
      refine z_istore_n (pc := 33) (ls' := [some (.ref 164), some (.int x1), some (.int (x2 ||| 0)), some (.int x3)]) dX11_count_33 rfl (by decide) rfl ?_
      refine z_iinc (pc := 34) (v := x3 + 1) (ls' := [some (.ref 164), some (.int x1), some (.int (x2 ||| 0)), some (.int (x3 + 1))]) dX11_count_34 (by decide) rfl rfl rfl ?_
      refine z_goto (pc := 37) (tgt := 4) dX11_count_37 (by decide) ?_
      exact F
    · replace F := F.2 k10
      refine z_iconst (pc := 25) (v := 1) dX11_count_25 (by decide) ?_
      refine z_iload_n (pc := 26) dX11_count_26 rfl rfl ?_
      refine z_ishl (pc := 27) dX11_count_27 ?_
      refine z_goto (pc := 28) (tgt := 32) dX11_count_28 (by decide) ?_
      refine z_ior (pc := 32) dX11_count_32 ?_
      refine z_istore_n (pc := 33) (ls' := [some (.ref 164), some (.int x1), some (.int (x2 ||| (1 <<< (x3 &&& 31)))), some (.int x3)]) dX11_count_33 rfl (by decide) rfl ?_
      refine z_iinc (pc := 34) (v := x3 + 1) (ls' := [some (.ref 164), some (.int x1), some (.int (x2 ||| (1 <<< (x3 &&& 31)))), some (.int (x3 + 1))]) dX11_count_34 (by decide) rfl rfl rfl ?_
      refine z_goto (pc := 37) (tgt := 4) dX11_count_37 (by decide) ?_
      exact F
