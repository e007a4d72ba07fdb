/-! texts: the reference's reader -/
theorem g_X11_isNumber {x1 : Int32} {x2 : Int32} {h : zHp} {Q : Int32 → zHp → Prop}  (G : zG h) (F : (¬ rI h 164 24 = 2 → (Q 0 h)) ∧ (rI h 164 24 = 2 → ((rI h 164 25 ≤ x2 → (vp_in x1 3 ∧ (zcV M_X11_goesOn [.ref 164] (wI h 177 ((Int32.toNatClampNeg x1)) (rI h 164 25)) (fun h1 => zG h1 ∧ (Q 1 h1))))) ∧ (¬ (rI h 164 25 ≤ x2) → (Q 0 h))))) : zcI M_X11_isNumber [.ref 164, .int x1, .int x2] h Q := by
  show zw zNT zNT M_X11_isNumber 0 [some (.ref 164), some (.int x1), some (.int x2)] [] h _
  refine z_aload_n (pc := 0) dX11_isNumber_0 rfl rfl ?_
  refine q_getI (pc := 1) (v := rI h 164 24) dX11_isNumber_1 lk_RX11_257 (lyc rfl) rfl ?_
  refine z_iconst (pc := 4) (v := 2) dX11_isNumber_4 (by decide) ?_
  refine z_icmp_ne (pc := 5) (tgt := 16) dX11_isNumber_5 (by decide) (fun k4 => ?_) (fun k4 => ?_)
  · replace F := F.1 k4
    refine z_iconst (pc := 16) (v := 0) dX11_isNumber_16 (by decide) ?_
    exact q_retB (pc := 17) dX11_isNumber_17 rfl (Or.inl rfl) F
  · replace F := F.2 k4
    refine z_aload_n (pc := 8) dX11_isNumber_8 rfl rfl ?_
    refine q_getI (pc := 9) (v := rI h 164 25) dX11_isNumber_9 lk_RX11_254 (lyc rfl) rfl ?_
    refine z_iload_n (pc := 12) dX11_isNumber_12 rfl rfl ?_
    refine z_icmp_le (pc := 13) (tgt := 18) dX11_isNumber_13 (by decide) (fun k3 => ?_) (fun k3 => ?_)
    · replace F := F.1 k3
      refine z_aload_n (pc := 18) dX11_isNumber_18 rfl rfl ?_
      refine q_getR (pc := 19) (i := 177) dX11_isNumber_19 lk_RX11_72 (lyc rfl) (G 164 28 177 rfl) ?_
      refine z_iload_n (pc := 22) dX11_isNumber_22 rfl rfl ?_
      refine z_aload_n (pc := 23) dX11_isNumber_23 rfl rfl ?_
      refine q_getI (pc := 24) (v := rI h 164 25) dX11_isNumber_24 lk_RX11_254 (lyc rfl) rfl ?_
      obtain ⟨k1, F⟩ := F
      refine q_iast (pc := 27) (j := (Int32.toNatClampNeg x1)) dX11_isNumber_27 (lyc rfl) (zvn (lnc rfl) k1) rfl ?_
      refine z_aload_n (pc := 28) dX11_isNumber_28 rfl rfl ?_
      refine q_invV (pc := 29) (As := []) (st := []) dX11_isNumber_29 ok_X11_goesOn ml_RX11_271 iv_X11_goesOn pa_X11_goesOn ⟨Nat.le_of_ble_eq_true rfl, Nat.le_of_ble_eq_true rfl⟩ (lyc rfl) (q_kV F (fun h1 F => ?_))
      obtain ⟨G1, F⟩ := F
      refine z_iconst (pc := 32) (v := 1) dX11_isNumber_32 (by decide) ?_
      exact q_retB (pc := 33) dX11_isNumber_33 rfl (Or.inr rfl) F
    · replace F := F.2 k3
      refine z_iconst (pc := 16) (v := 0) dX11_isNumber_16 (by decide) ?_
      exact q_retB (pc := 17) dX11_isNumber_17 rfl (Or.inl rfl) F
theorem g_X11_isValue {x1 : Int32} {h : zHp} {Q : Int32 → zHp → Prop}  (G : zG h) (F : (¬ rI h 164 24 = 45 → (((0 : Int32) = 0 → (zlI M_X11_isValue 23 [some (.ref 164), some (.int x1), some (.int 0)] [] h Q)) ∧ (¬ ((0 : Int32) = 0) → (zcV M_X11_goesOn [.ref 164] h (fun h1 => zG h1 ∧ (zlI M_X11_isValue 23 [some (.ref 164), some (.int x1), some (.int 0)] [] h1 Q)))))) ∧ (rI h 164 24 = 45 → (((1 : Int32) = 0 → (zlI M_X11_isValue 23 [some (.ref 164), some (.int x1), some (.int 1)] [] h Q)) ∧ (¬ ((1 : Int32) = 0) → (zcV M_X11_goesOn [.ref 164] h (fun h2 => zG h2 ∧ (zlI M_X11_isValue 23 [some (.ref 164), some (.int x1), some (.int 1)] [] h2 Q))))))) : zcI M_X11_isValue [.ref 164, .int x1] h Q := by
  show zw zNT zNT M_X11_isValue 0 [some (.ref 164), some (.int x1), none] [] h _
  refine z_aload_n (pc := 0) dX11_isValue_0 rfl rfl ?_
  refine q_getI (pc := 1) (v := rI h 164 24) dX11_isValue_1 lk_RX11_257 (lyc rfl) rfl ?_
  refine z_bipush (pc := 4) (v := 45) dX11_isValue_4 (by decide) ?_
  refine z_icmp_ne (pc := 6) (tgt := 13) dX11_isValue_6 (by decide) (fun k5 => ?_) (fun k5 => ?_)
  · replace F := F.1 k5
    refine z_iconst (pc := 13) (v := 0) dX11_isValue_13 (by decide) ?_
    refine z_istore_n (pc := 14) (ls' := [some (.ref 164), some (.int x1), some (.int 0)]) dX11_isValue_14 rfl (by decide) rfl ?_
    refine z_iload_n (pc := 15) dX11_isValue_15 rfl rfl ?_
    refine z_if_eq (pc := 16) (tgt := 23) dX11_isValue_16 (by decide) (fun k2 => ?_) (fun k2 => ?_)
    · replace F := F.1 k2
      exact F
    · replace F := F.2 k2
      refine z_aload_n (pc := 19) dX11_isValue_19 rfl rfl ?_
      refine q_invV (pc := 20) (As := []) (st := []) dX11_isValue_20 ok_X11_goesOn ml_RX11_271 iv_X11_goesOn pa_X11_goesOn ⟨Nat.le_of_ble_eq_true rfl, Nat.le_of_ble_eq_true rfl⟩ (lyc rfl) (q_kV F (fun h1 F => ?_))
      obtain ⟨G1, F⟩ := F
      exact F
  · replace F := F.2 k5
    refine z_iconst (pc := 9) (v := 1) dX11_isValue_9 (by decide) ?_
    refine z_goto (pc := 10) (tgt := 14) dX11_isValue_10 (by decide) ?_
    refine z_istore_n (pc := 14) (ls' := [some (.ref 164), some (.int x1), some (.int 1)]) dX11_isValue_14 rfl (by decide) rfl ?_
    refine z_iload_n (pc := 15) dX11_isValue_15 rfl rfl ?_
    refine z_if_eq (pc := 16) (tgt := 23) dX11_isValue_16 (by decide) (fun k4 => ?_) (fun k4 => ?_)
    · replace F := F.1 k4
      exact F
    · replace F := F.2 k4
      refine z_aload_n (pc := 19) dX11_isValue_19 rfl rfl ?_
      refine q_invV (pc := 20) (As := []) (st := []) dX11_isValue_20 ok_X11_goesOn ml_RX11_271 iv_X11_goesOn pa_X11_goesOn ⟨Nat.le_of_ble_eq_true rfl, Nat.le_of_ble_eq_true rfl⟩ (lyc rfl) (q_kV F (fun h2 F => ?_))
      obtain ⟨G2, F⟩ := F
      exact F
theorem g_X11_isValue_23 {x1 : Int32} {x2 : Int32} {h : zHp} {Q : Int32 → zHp → Prop}  (G : zG h) (F : zcI M_X11_isNumber [.ref 164, .int x1, .int 9] h (fun vh1 h1 => zG h1 ∧ ((¬ vh1 = 0 → ((x2 = 0 → (vp_in x1 3 ∧ (Q 1 (wI h1 177 ((Int32.toNatClampNeg x1)) (rI h1 177 ((Int32.toNatClampNeg x1))))))) ∧ (¬ (x2 = 0) → (vp_in x1 3 ∧ (Q 1 (wI h1 177 ((Int32.toNatClampNeg x1)) (-(rI h1 177 ((Int32.toNatClampNeg x1)))))))))) ∧ (vh1 = 0 → (Q 0 h1))))) : zlI M_X11_isValue 23 [some (.ref 164), some (.int x1), some (.int x2)] [] h Q := by
  refine z_aload_n (pc := 23) dX11_isValue_23 rfl rfl ?_
  refine z_iload_n (pc := 24) dX11_isValue_24 rfl rfl ?_
  refine z_bipush (pc := 25) (v := 9) dX11_isValue_25 (by decide) ?_
  refine q_invV (pc := 27) (As := [.int x1, .int 9]) (st := []) dX11_isValue_27 ok_X11_isNumber ml_RX11_274 iv_X11_isNumber pa_X11_isNumber ⟨Nat.le_of_ble_eq_true rfl, Nat.le_of_ble_eq_true rfl⟩ (lyc rfl) (q_kI F (fun vh1 h1 F => ?_))
  obtain ⟨G1, F⟩ := F
  refine z_if_ne (pc := 30) (tgt := 35) dX11_isValue_30 (by decide) (fun k5 => ?_) (fun k5 => ?_)
  · replace F := F.1 k5
    refine z_aload_n (pc := 35) dX11_isValue_35 rfl rfl ?_
    refine q_getR (pc := 36) (i := 177) dX11_isValue_36 lk_RX11_72 (lyc rfl) (G1 164 28 177 rfl) ?_
    refine z_iload_n (pc := 39) dX11_isValue_39 rfl rfl ?_
    refine z_iload_n (pc := 40) dX11_isValue_40 rfl rfl ?_
    refine z_if_eq (pc := 41) (tgt := 54) dX11_isValue_41 (by decide) (fun k4 => ?_) (fun k4 => ?_)
    · replace F := F.1 k4
      refine z_aload_n (pc := 54) dX11_isValue_54 rfl rfl ?_
      refine q_getR (pc := 55) (i := 177) dX11_isValue_55 lk_RX11_72 (lyc rfl) (G1 164 28 177 rfl) ?_
      refine z_iload_n (pc := 58) dX11_isValue_58 rfl rfl ?_
      obtain ⟨k2, F⟩ := F
      refine q_iald (pc := 59) (j := (Int32.toNatClampNeg x1)) (v := rI h1 177 ((Int32.toNatClampNeg x1))) dX11_isValue_59 (lyc rfl) (zvn (lnc rfl) k2) rfl rfl ?_
      refine q_iast (pc := 60) (j := (Int32.toNatClampNeg x1)) dX11_isValue_60 (lyc rfl) (zvn (lnc rfl) k2) rfl ?_
      refine z_iconst (pc := 61) (v := 1) dX11_isValue_61 (by decide) ?_
      exact q_retB (pc := 62) dX11_isValue_62 rfl (Or.inr rfl) F
    · replace F := F.2 k4
      refine z_aload_n (pc := 44) dX11_isValue_44 rfl rfl ?_
      refine q_getR (pc := 45) (i := 177) dX11_isValue_45 lk_RX11_72 (lyc rfl) (G1 164 28 177 rfl) ?_
      refine z_iload_n (pc := 48) dX11_isValue_48 rfl rfl ?_
      obtain ⟨k3, F⟩ := F
      refine q_iald (pc := 49) (j := (Int32.toNatClampNeg x1)) (v := rI h1 177 ((Int32.toNatClampNeg x1))) dX11_isValue_49 (lyc rfl) (zvn (lnc rfl) k3) rfl rfl ?_
      refine z_ineg (pc := 50) dX11_isValue_50 ?_
      refine z_goto (pc := 51) (tgt := 60) dX11_isValue_51 (by decide) ?_
      refine q_iast (pc := 60) (j := (Int32.toNatClampNeg x1)) dX11_isValue_60 (lyc rfl) (zvn (lnc rfl) k3) rfl ?_
      refine z_iconst (pc := 61) (v := 1) dX11_isValue_61 (by decide) ?_
      exact q_retB (pc := 62) dX11_isValue_62 rfl (Or.inr rfl) F
  · replace F := F.2 k5
    refine z_iconst (pc := 33) (v := 0) dX11_isValue_33 (by decide) ?_
    exact q_retB (pc := 34) dX11_isValue_34 rfl (Or.inl rfl) F
theorem g_X11_isPhrase  {h : zHp} {Q : Int32 → zHp → Prop}  (G : zG h) (F : zcI M_X11_wordOf [.ref 164, .ref 175] h (fun vh1 h1 => zG h1 ∧ ((vh1 = -1 → (Q 0 h1)) ∧ (¬ (vh1 = -1) → ((¬ rI h1 165 239 = 10 → (zlI M_X11_isPhrase 31 [some (.ref 164), some (.int vh1), some (.int 0)] [] h1 Q)) ∧ (rI h1 165 239 = 10 → (Q 0 h1))))))) : zcI M_X11_isPhrase [.ref 164] h Q := by
  show zw zNT zNT M_X11_isPhrase 0 [some (.ref 164), none, none] [] h _
  refine z_aload_n (pc := 0) dX11_isPhrase_0 rfl rfl ?_
  refine z_aload_n (pc := 1) dX11_isPhrase_1 rfl rfl ?_
  refine q_getR (pc := 2) (i := 175) dX11_isPhrase_2 lk_RX11_54 (lyc rfl) (G 164 26 175 rfl) ?_
  refine q_invV (pc := 5) (As := [.ref 175]) (st := []) dX11_isPhrase_5 ok_X11_wordOf ml_RX11_277 iv_X11_wordOf pa_X11_wordOf ⟨Nat.le_of_ble_eq_true rfl, Nat.le_of_ble_eq_true rfl⟩ (lyc rfl) (q_kI F (fun vh1 h1 F => ?_))
  obtain ⟨G1, F⟩ := F
  refine z_istore_n (pc := 8) (ls' := [some (.ref 164), some (.int vh1), none]) dX11_isPhrase_8 rfl (by decide) rfl ?_
  refine z_iload_n (pc := 9) dX11_isPhrase_9 rfl rfl ?_
  refine z_iconst (pc := 10) (v := -1) dX11_isPhrase_10 (by decide) ?_
  refine z_icmp_eq (pc := 11) (tgt := 27) dX11_isPhrase_11 (by decide) (fun k3 => ?_) (fun k3 => ?_)
  · replace F := F.1 k3
    refine z_iconst (pc := 27) (v := 0) dX11_isPhrase_27 (by decide) ?_
    exact q_retB (pc := 28) dX11_isPhrase_28 rfl (Or.inl rfl) F
  · replace F := F.2 k3
    refine z_aload_n (pc := 14) dX11_isPhrase_14 rfl rfl ?_
    refine q_getR (pc := 15) (i := 165) dX11_isPhrase_15 lk_RX11_7 (lyc rfl) (G1 164 0 165 rfl) ?_
    refine z_sipush (pc := 18) (v := 239) dX11_isPhrase_18 (by decide) ?_
    refine q_iald (pc := 21) (j := 239) (v := rI h1 165 239) dX11_isPhrase_21 (lyc rfl) (zvl (lnc rfl) (by decide)) (by decide) rfl ?_
    refine z_bipush (pc := 22) (v := 10) dX11_isPhrase_22 (by decide) ?_
    refine z_icmp_ne (pc := 24) (tgt := 29) dX11_isPhrase_24 (by decide) (fun k2 => ?_) (fun k2 => ?_)
    · replace F := F.1 k2
      refine z_iconst (pc := 29) (v := 0) dX11_isPhrase_29 (by decide) ?_
      refine z_istore_n (pc := 30) (ls' := [some (.ref 164), some (.int vh1), some (.int 0)]) dX11_isPhrase_30 rfl (by decide) rfl ?_
      exact F
    · replace F := F.2 k2
      refine z_iconst (pc := 27) (v := 0) dX11_isPhrase_27 (by decide) ?_
      exact q_retB (pc := 28) dX11_isPhrase_28 rfl (Or.inl rfl) F
theorem g_X11_isPhrase_31 {x1 : Int32} {x2 : Int32} {h : zHp} {Q : Int32 → zHp → Prop}  (G : zG h) (F : (3 ≤ x2 → (zcV M_X11_goesOn [.ref 164] h (fun h1 => zG h1 ∧ ((x1 ≤ 0 → (zlI M_X11_isPhrase 87 [some (.ref 164), some (.int x1), some (.int x2)] [] h1 Q)) ∧ (¬ (x1 ≤ 0) → ((¬ x1 = 1 → ((¬ x1 = 5 → (zcI M_X11_isNumber [.ref 164, .int 0, .int 5] h1 (fun vh2 h2 => zG h2 ∧ ((¬ vh2 = 0 → (zlI M_X11_isPhrase 87 [some (.ref 164), some (.int x1), some (.int x2)] [] h2 Q)) ∧ (vh2 = 0 → (Q 0 h2)))))) ∧ (x1 = 5 → (zcI M_X11_isNumber [.ref 164, .int 0, .int 7] h1 (fun vh3 h3 => zG h3 ∧ ((¬ vh3 = 0 → (zlI M_X11_isPhrase 87 [some (.ref 164), some (.int x1), some (.int x2)] [] h3 Q)) ∧ (vh3 = 0 → (Q 0 h3)))))))) ∧ (x1 = 1 → (zcI M_X11_isNumber [.ref 164, .int 0, .int 1] h1 (fun vh4 h4 => zG h4 ∧ ((¬ vh4 = 0 → (zlI M_X11_isPhrase 87 [some (.ref 164), some (.int x1), some (.int x2)] [] h4 Q)) ∧ (vh4 = 0 → (Q 0 h4)))))))))))) ∧ (¬ (3 ≤ x2) → (vp_in x2 3 ∧ (zlI M_X11_isPhrase 31 [some (.ref 164), some (.int x1), some (.int (x2 + 1))] [] (wI h 177 ((Int32.toNatClampNeg x2)) 0) Q)))) : zlI M_X11_isPhrase 31 [some (.ref 164), some (.int x1), some (.int x2)] [] h Q := by
  refine z_iload_n (pc := 31) dX11_isPhrase_31 rfl rfl ?_
  refine z_iconst (pc := 32) (v := 3) dX11_isPhrase_32 (by decide) ?_
  refine z_icmp_ge (pc := 33) (tgt := 49) dX11_isPhrase_33 (by decide) (fun k12 => ?_) (fun k12 => ?_)
  · replace F := F.1 k12
    refine z_aload_n (pc := 49) dX11_isPhrase_49 rfl rfl ?_
    refine q_invV (pc := 50) (As := []) (st := []) dX11_isPhrase_50 ok_X11_goesOn ml_RX11_271 iv_X11_goesOn pa_X11_goesOn ⟨Nat.le_of_ble_eq_true rfl, Nat.le_of_ble_eq_true rfl⟩ (lyc rfl) (q_kV F (fun h1 F => ?_))
    obtain ⟨G1, F⟩ := F
    refine z_iload_n (pc := 53) dX11_isPhrase_53 rfl rfl ?_
    refine z_if_le (pc := 54) (tgt := 87) dX11_isPhrase_54 (by decide) (fun k10 => ?_) (fun k10 => ?_)
    · replace F := F.1 k10
      exact F
    · replace F := F.2 k10
      refine z_aload_n (pc := 57) dX11_isPhrase_57 rfl rfl ?_
      refine z_iconst (pc := 58) (v := 0) dX11_isPhrase_58 (by decide) ?_
      refine z_iload_n (pc := 59) dX11_isPhrase_59 rfl rfl ?_
      refine z_iconst (pc := 60) (v := 1) dX11_isPhrase_60 (by decide) ?_
      refine z_icmp_ne (pc := 61) (tgt := 68) dX11_isPhrase_61 (by decide) (fun k9 => ?_) (fun k9 => ?_)
      · replace F := F.1 k9
        refine z_iload_n (pc := 68) dX11_isPhrase_68 rfl rfl ?_
        refine z_iconst (pc := 69) (v := 5) dX11_isPhrase_69 (by decide) ?_
        refine z_icmp_ne (pc := 70) (tgt := 78) dX11_isPhrase_70 (by decide) (fun k6 => ?_) (fun k6 => ?_)
        · replace F := F.1 k6
          refine z_iconst (pc := 78) (v := 5) dX11_isPhrase_78 (by decide) ?_
          refine q_invV (pc := 79) (As := [.int 0, .int 5]) (st := []) dX11_isPhrase_79 ok_X11_isNumber ml_RX11_274 iv_X11_isNumber pa_X11_isNumber ⟨Nat.le_of_ble_eq_true rfl, Nat.le_of_ble_eq_true rfl⟩ (lyc rfl) (q_kI F (fun vh2 h2 F => ?_))
          obtain ⟨G2, F⟩ := F
          refine z_if_ne (pc := 82) (tgt := 87) dX11_isPhrase_82 (by decide) (fun k3 => ?_) (fun k3 => ?_)
          · replace F := F.1 k3
            exact F
          · replace F := F.2 k3
            refine z_iconst (pc := 85) (v := 0) dX11_isPhrase_85 (by decide) ?_
            exact q_retB (pc := 86) dX11_isPhrase_86 rfl (Or.inl rfl) F
        · replace F := F.2 k6
          refine z_bipush (pc := 73) (v := 7) dX11_isPhrase_73 (by decide) ?_
          refine z_goto (pc := 75) (tgt := 79) dX11_isPhrase_75 (by decide) ?_
          refine q_invV (pc := 79) (As := [.int 0, .int 7]) (st := []) dX11_isPhrase_79 ok_X11_isNumber ml_RX11_274 iv_X11_isNumber pa_X11_isNumber ⟨Nat.le_of_ble_eq_true rfl, Nat.le_of_ble_eq_true rfl⟩ (lyc rfl) (q_kI F (fun vh3 h3 F => ?_))
          obtain ⟨G3, F⟩ := F
          refine z_if_ne (pc := 82) (tgt := 87) dX11_isPhrase_82 (by decide) (fun k5 => ?_) (fun k5 => ?_)
          · replace F := F.1 k5
            exact F
          · replace F := F.2 k5
            refine z_iconst (pc := 85) (v := 0) dX11_isPhrase_85 (by decide) ?_
            exact q_retB (pc := 86) dX11_isPhrase_86 rfl (Or.inl rfl) F
      · replace F := F.2 k9
        refine z_iconst (pc := 64) (v := 1) dX11_isPhrase_64 (by decide) ?_
        refine z_goto (pc := 65) (tgt := 79) dX11_isPhrase_65 (by decide) ?_
        refine q_invV (pc := 79) (As := [.int 0, .int 1]) (st := []) dX11_isPhrase_79 ok_X11_isNumber ml_RX11_274 iv_X11_isNumber pa_X11_isNumber ⟨Nat.le_of_ble_eq_true rfl, Nat.le_of_ble_eq_true rfl⟩ (lyc rfl) (q_kI F (fun vh4 h4 F => ?_))
        obtain ⟨G4, F⟩ := F
        refine z_if_ne (pc := 82) (tgt := 87) dX11_isPhrase_82 (by decide) (fun k8 => ?_) (fun k8 => ?_)
        · replace F := F.1 k8
          exact F
        · replace F := F.2 k8
          refine z_iconst (pc := 85) (v := 0) dX11_isPhrase_85 (by decide) ?_
          exact q_retB (pc := 86) dX11_isPhrase_86 rfl (Or.inl rfl) F
  · replace F := F.2 k12
    refine z_aload_n (pc := 36) dX11_isPhrase_36 rfl rfl ?_
    refine q_getR (pc := 37) (i := 177) dX11_isPhrase_37 lk_RX11_72 (lyc rfl) (G 164 28 177 rfl) ?_
    refine z_iload_n (pc := 40) dX11_isPhrase_40 rfl rfl ?_
    refine z_iconst (pc := 41) (v := 0) dX11_isPhrase_41 (by decide) ?_
    obtain ⟨k11, F⟩ := F
    refine q_iast (pc := 42) (j := (Int32.toNatClampNeg x2)) dX11_isPhrase_42 (lyc rfl) (zvn (lnc rfl) k11) rfl ?_
    refine z_iinc (pc := 43) (v := x2 + 1) (ls' := [some (.ref 164), some (.int x1), some (.int (x2 + 1))]) dX11_isPhrase_43 (by decide) rfl rfl rfl ?_
    refine z_goto (pc := 46) (tgt := 31) dX11_isPhrase_46 (by decide) ?_
    exact F
theorem g_X11_isPhrase_87 {x1 : Int32} {x2 : Int32} {h : zHp} {Q : Int32 → zHp → Prop}  (G : zG h) (F : zcI M_X11_wordOf [.ref 164, .ref 176] h (fun vh1 h1 => zG h1 ∧ ((¬ vh1 = -1 → (zcV M_X11_goesOn [.ref 164] h1 (fun h2 => zG h2 ∧ ((3 ≤ vh1 → (zlI M_X11_isPhrase 123 [some (.ref 164), some (.int x1), some (.int vh1)] [] h2 Q)) ∧ (¬ (3 ≤ vh1) → (zcI M_X11_isNumber [.ref 164, .int 1, .int 5] h2 (fun vh3 h3 => zG h3 ∧ ((¬ vh3 = 0 → (zlI M_X11_isPhrase 123 [some (.ref 164), some (.int x1), some (.int vh1)] [] h3 Q)) ∧ (vh3 = 0 → (Q 0 h3)))))))))) ∧ (vh1 = -1 → (Q 0 h1))))) : zlI M_X11_isPhrase 87 [some (.ref 164), some (.int x1), some (.int x2)] [] h Q := by
  refine z_aload_n (pc := 87) dX11_isPhrase_87 rfl rfl ?_
  refine z_aload_n (pc := 88) dX11_isPhrase_88 rfl rfl ?_
  refine q_getR (pc := 89) (i := 176) dX11_isPhrase_89 lk_RX11_69 (lyc rfl) (G 164 27 176 rfl) ?_
  refine q_invV (pc := 92) (As := [.ref 176]) (st := []) dX11_isPhrase_92 ok_X11_wordOf ml_RX11_277 iv_X11_wordOf pa_X11_wordOf ⟨Nat.le_of_ble_eq_true rfl, Nat.le_of_ble_eq_true rfl⟩ (lyc rfl) (q_kI F (fun vh1 h1 F => ?_))
  obtain ⟨G1, F⟩ := F
  refine z_istore_n (pc := 95) (ls' := [some (.ref 164), some (.int x1), some (.int vh1)]) dX11_isPhrase_95 rfl (by decide) rfl ?_
  refine z_iload_n (pc := 96) dX11_isPhrase_96 rfl rfl ?_
  refine z_iconst (pc := 97) (v := -1) dX11_isPhrase_97 (by decide) ?_
  refine z_icmp_ne (pc := 98) (tgt := 103) dX11_isPhrase_98 (by decide) (fun k6 => ?_) (fun k6 => ?_)
  · replace F := F.1 k6
    refine z_aload_n (pc := 103) dX11_isPhrase_103 rfl rfl ?_
    refine q_invV (pc := 104) (As := []) (st := []) dX11_isPhrase_104 ok_X11_goesOn ml_RX11_271 iv_X11_goesOn pa_X11_goesOn ⟨Nat.le_of_ble_eq_true rfl, Nat.le_of_ble_eq_true rfl⟩ (lyc rfl) (q_kV F (fun h2 F => ?_))
    obtain ⟨G2, F⟩ := F
    refine z_iload_n (pc := 107) dX11_isPhrase_107 rfl rfl ?_
    refine z_iconst (pc := 108) (v := 3) dX11_isPhrase_108 (by decide) ?_
    refine z_icmp_ge (pc := 109) (tgt := 123) dX11_isPhrase_109 (by decide) (fun k5 => ?_) (fun k5 => ?_)
    · replace F := F.1 k5
      exact F
    · replace F := F.2 k5
      refine z_aload_n (pc := 112) dX11_isPhrase_112 rfl rfl ?_
      refine z_iconst (pc := 113) (v := 1) dX11_isPhrase_113 (by decide) ?_
      refine z_iconst (pc := 114) (v := 5) dX11_isPhrase_114 (by decide) ?_
      refine q_invV (pc := 115) (As := [.int 1, .int 5]) (st := []) dX11_isPhrase_115 ok_X11_isNumber ml_RX11_274 iv_X11_isNumber pa_X11_isNumber ⟨Nat.le_of_ble_eq_true rfl, Nat.le_of_ble_eq_true rfl⟩ (lyc rfl) (q_kI F (fun vh3 h3 F => ?_))
      obtain ⟨G3, F⟩ := F
      refine z_if_ne (pc := 118) (tgt := 123) dX11_isPhrase_118 (by decide) (fun k4 => ?_) (fun k4 => ?_)
      · replace F := F.1 k4
        exact F
      · replace F := F.2 k4
        refine z_iconst (pc := 121) (v := 0) dX11_isPhrase_121 (by decide) ?_
        exact q_retB (pc := 122) dX11_isPhrase_122 rfl (Or.inl rfl) F
  · replace F := F.2 k6
    refine z_iconst (pc := 101) (v := 0) dX11_isPhrase_101 (by decide) ?_
    exact q_retB (pc := 102) dX11_isPhrase_102 rfl (Or.inl rfl) F
theorem g_X11_isPhrase_123 {x1 : Int32} {x2 : Int32} {h : zHp} {Q : Int32 → zHp → Prop}  (G : zG h) (F : (¬ ((3 : Int32) ≤ x2 ∧ x2 ≤ 4) → (zlI M_X11_isPhrase 150 [some (.ref 164), some (.int x1), some (.int x2)] [] h Q)) ∧ (((3 : Int32) ≤ x2 ∧ x2 ≤ 4) → (zcI M_X11_isValue [.ref 164, .int 1] h (fun vh1 h1 => zG h1 ∧ ((vh1 = 0 → (Q 0 h1)) ∧ (¬ (vh1 = 0) → (zcI M_X11_isValue [.ref 164, .int 2] h1 (fun vh2 h2 => zG h2 ∧ ((¬ vh2 = 0 → (zlI M_X11_isPhrase 150 [some (.ref 164), some (.int x1), some (.int x2)] [] h2 Q)) ∧ (vh2 = 0 → (Q 0 h2))))))))))) : zlI M_X11_isPhrase 123 [some (.ref 164), some (.int x1), some (.int x2)] [] h Q := by
  refine z_iload_n (pc := 123) dX11_isPhrase_123 rfl rfl ?_
  refine z_iconst (pc := 124) (v := 3) dX11_isPhrase_124 (by decide) ?_
  refine z_iconst (pc := 125) (v := 4) dX11_isPhrase_125 (by decide) ?_
  refine q_invS (pc := 126) (As := [.int x2, .int 3, .int 4]) (st := []) dX11_isPhrase_126 ok_X11_in ml_RX11_84 st_X11_in pa_X11_in ⟨Nat.le_of_ble_eq_true rfl, Nat.le_of_ble_eq_true rfl⟩ (q_pI (s_X11_in G) rfl ?_)
  refine z_if_eq (pc := 129) (tgt := 150) dX11_isPhrase_129 (by decide) (fun k5 => ?_) (fun k5 => ?_)
  · replace F := F.1 (zb0.mp k5)
    exact F
  · replace F := F.2 (zbn.mp k5)
    refine z_aload_n (pc := 132) dX11_isPhrase_132 rfl rfl ?_
    refine z_iconst (pc := 133) (v := 1) dX11_isPhrase_133 (by decide) ?_
    refine q_invV (pc := 134) (As := [.int 1]) (st := []) dX11_isPhrase_134 ok_X11_isValue ml_RX11_281 iv_X11_isValue pa_X11_isValue ⟨Nat.le_of_ble_eq_true rfl, Nat.le_of_ble_eq_true rfl⟩ (lyc rfl) (q_kI F (fun vh1 h1 F => ?_))
    obtain ⟨G1, F⟩ := F
    refine z_if_eq (pc := 137) (tgt := 148) dX11_isPhrase_137 (by decide) (fun k4 => ?_) (fun k4 => ?_)
    · replace F := F.1 k4
      refine z_iconst (pc := 148) (v := 0) dX11_isPhrase_148 (by decide) ?_
      exact q_retB (pc := 149) dX11_isPhrase_149 rfl (Or.inl rfl) F
    · replace F := F.2 k4
      refine z_aload_n (pc := 140) dX11_isPhrase_140 rfl rfl ?_
      refine z_iconst (pc := 141) (v := 2) dX11_isPhrase_141 (by decide) ?_
      refine q_invV (pc := 142) (As := [.int 2]) (st := []) dX11_isPhrase_142 ok_X11_isValue ml_RX11_281 iv_X11_isValue pa_X11_isValue ⟨Nat.le_of_ble_eq_true rfl, Nat.le_of_ble_eq_true rfl⟩ (lyc rfl) (q_kI F (fun vh2 h2 F => ?_))
      obtain ⟨G2, F⟩ := F
      refine z_if_ne (pc := 145) (tgt := 150) dX11_isPhrase_145 (by decide) (fun k3 => ?_) (fun k3 => ?_)
      · replace F := F.1 k3
        exact F
      · replace F := F.2 k3
        refine z_iconst (pc := 148) (v := 0) dX11_isPhrase_148 (by decide) ?_
        exact q_retB (pc := 149) dX11_isPhrase_149 rfl (Or.inl rfl) F
theorem g_X11_isPhrase_150 {x1 : Int32} {x2 : Int32} {h : zHp} {Q : Int32 → zHp → Prop}  (G : zG h) (F : zcV M_X11_lays [.ref 164, .int (rI h 165 239), .int x2, .int x1, .int (rI h 177 0), .int (rI h 177 1), .int (rI h 177 2)] h (fun h1 => zG h1 ∧ (Q 1 (wI h1 165 239 ((rI h1 165 239) + 1))))) : zlI M_X11_isPhrase 150 [some (.ref 164), some (.int x1), some (.int x2)] [] h Q := by
  refine z_aload_n (pc := 150) dX11_isPhrase_150 rfl rfl ?_
  refine z_aload_n (pc := 151) dX11_isPhrase_151 rfl rfl ?_
  refine q_getR (pc := 152) (i := 165) dX11_isPhrase_152 lk_RX11_7 (lyc rfl) (G 164 0 165 rfl) ?_
  refine z_sipush (pc := 155) (v := 239) dX11_isPhrase_155 (by decide) ?_
  refine q_iald (pc := 158) (j := 239) (v := rI h 165 239) dX11_isPhrase_158 (lyc rfl) (zvl (lnc rfl) (by decide)) (by decide) rfl ?_
  refine z_iload_n (pc := 159) dX11_isPhrase_159 rfl rfl ?_
  refine z_iload_n (pc := 160) dX11_isPhrase_160 rfl rfl ?_
  refine z_aload_n (pc := 161) dX11_isPhrase_161 rfl rfl ?_
  refine q_getR (pc := 162) (i := 177) dX11_isPhrase_162 lk_RX11_72 (lyc rfl) (G 164 28 177 rfl) ?_
  refine z_iconst (pc := 165) (v := 0) dX11_isPhrase_165 (by decide) ?_
  refine q_iald (pc := 166) (j := 0) (v := rI h 177 0) dX11_isPhrase_166 (lyc rfl) (zvl (lnc rfl) (by decide)) (by decide) rfl ?_
  refine z_aload_n (pc := 167) dX11_isPhrase_167 rfl rfl ?_
  refine q_getR (pc := 168) (i := 177) dX11_isPhrase_168 lk_RX11_72 (lyc rfl) (G 164 28 177 rfl) ?_
  refine z_iconst (pc := 171) (v := 1) dX11_isPhrase_171 (by decide) ?_
  refine q_iald (pc := 172) (j := 1) (v := rI h 177 1) dX11_isPhrase_172 (lyc rfl) (zvl (lnc rfl) (by decide)) (by decide) rfl ?_
  refine z_aload_n (pc := 173) dX11_isPhrase_173 rfl rfl ?_
  refine q_getR (pc := 174) (i := 177) dX11_isPhrase_174 lk_RX11_72 (lyc rfl) (G 164 28 177 rfl) ?_
  refine z_iconst (pc := 177) (v := 2) dX11_isPhrase_177 (by decide) ?_
  refine q_iald (pc := 178) (j := 2) (v := rI h 177 2) dX11_isPhrase_178 (lyc rfl) (zvl (lnc rfl) (by decide)) (by decide) rfl ?_
  refine q_invV (pc := 179) (As := [.int (rI h 165 239), .int x2, .int x1, .int (rI h 177 0), .int (rI h 177 1), .int (rI h 177 2)]) (st := []) dX11_isPhrase_179 ok_X11_lays ml_RX11_179 iv_X11_lays pa_X11_lays ⟨Nat.le_of_ble_eq_true rfl, Nat.le_of_ble_eq_true rfl⟩ (lyc rfl) (q_kV F (fun h1 F => ?_))
  obtain ⟨G1, F⟩ := F
  refine z_aload_n (pc := 182) dX11_isPhrase_182 rfl rfl ?_
  refine q_getR (pc := 183) (i := 165) dX11_isPhrase_183 lk_RX11_7 (lyc rfl) (G1 164 0 165 rfl) ?_
  refine z_sipush (pc := 186) (v := 239) dX11_isPhrase_186 (by decide) ?_
  refine z_dup2 (pc := 189) dX11_isPhrase_189 rfl rfl ?_
  refine q_iald (pc := 190) (j := 239) (v := rI h1 165 239) dX11_isPhrase_190 (lyc rfl) (zvl (lnc rfl) (by decide)) (by decide) rfl ?_
  refine z_iconst (pc := 191) (v := 1) dX11_isPhrase_191 (by decide) ?_
  refine z_iadd (pc := 192) dX11_isPhrase_192 ?_
  refine q_iast (pc := 193) (j := 239) dX11_isPhrase_193 (lyc rfl) (zvl (lnc rfl) (by decide)) (by decide) ?_
  refine z_iconst (pc := 194) (v := 1) dX11_isPhrase_194 (by decide) ?_
  exact q_retB (pc := 195) dX11_isPhrase_195 rfl (Or.inr rfl) F
theorem g_X11_isText  {h : zHp} {Q : Int32 → zHp → Prop}  (G : zG h) (F : zcV M_X11_goesOn [.ref 164] (wI h 164 23 0) (fun h1 => zG h1 ∧ (zlI M_X11_isText 9 [some (.ref 164)] [] h1 Q))) : zcI M_X11_isText [.ref 164] h Q := by
  show zw zNT zNT M_X11_isText 0 [some (.ref 164)] [] h _
  refine z_aload_n (pc := 0) dX11_isText_0 rfl rfl ?_
  refine z_iconst (pc := 1) (v := 0) dX11_isText_1 (by decide) ?_
  refine q_putI (pc := 2) dX11_isText_2 lk_RX11_245 (lyc rfl) ?_
  refine z_aload_n (pc := 5) dX11_isText_5 rfl rfl ?_
  refine q_invV (pc := 6) (As := []) (st := []) dX11_isText_6 ok_X11_goesOn ml_RX11_271 iv_X11_goesOn pa_X11_goesOn ⟨Nat.le_of_ble_eq_true rfl, Nat.le_of_ble_eq_true rfl⟩ (lyc rfl) (q_kV F (fun h1 F => ?_))
  obtain ⟨G1, F⟩ := F
  exact F
theorem g_X11_isText_9  {h : zHp} {Q : Int32 → zHp → Prop}  (G : zG h) (F : zcI M_X11_isPhrase [.ref 164] h (fun vh1 h1 => zG h1 ∧ ((¬ vh1 = 0 → ((¬ rI h1 164 24 = 0 → ((rI h1 164 24 = 59 → (zcV M_X11_goesOn [.ref 164] h1 (fun h2 => zG h2 ∧ (zlI M_X11_isText 9 [some (.ref 164)] [] h2 Q)))) ∧ (¬ (rI h1 164 24 = 59) → (Q 0 h1)))) ∧ (rI h1 164 24 = 0 → (Q 1 h1)))) ∧ (vh1 = 0 → (Q 0 h1))))) : zlI M_X11_isText 9 [some (.ref 164)] [] h Q := by
  refine z_aload_n (pc := 9) dX11_isText_9 rfl rfl ?_
  refine q_invV (pc := 10) (As := []) (st := []) dX11_isText_10 ok_X11_isPhrase ml_RX11_284 iv_X11_isPhrase pa_X11_isPhrase ⟨Nat.le_of_ble_eq_true rfl, Nat.le_of_ble_eq_true rfl⟩ (lyc rfl) (q_kI F (fun vh1 h1 F => ?_))
  obtain ⟨G1, F⟩ := F
  refine z_if_ne (pc := 13) (tgt := 18) dX11_isText_13 (by decide) (fun k5 => ?_) (fun k5 => ?_)
  · replace F := F.1 k5
    refine z_aload_n (pc := 18) dX11_isText_18 rfl rfl ?_
    refine q_getI (pc := 19) (v := rI h1 164 24) dX11_isText_19 lk_RX11_257 (lyc rfl) rfl ?_
    refine z_if_ne (pc := 22) (tgt := 27) dX11_isText_22 (by decide) (fun k4 => ?_) (fun k4 => ?_)
    · replace F := F.1 k4
      refine z_aload_n (pc := 27) dX11_isText_27 rfl rfl ?_
      refine q_getI (pc := 28) (v := rI h1 164 24) dX11_isText_28 lk_RX11_257 (lyc rfl) rfl ?_
      refine z_bipush (pc := 31) (v := 59) dX11_isText_31 (by decide) ?_
      refine z_icmp_eq (pc := 33) (tgt := 38) dX11_isText_33 (by decide) (fun k3 => ?_) (fun k3 => ?_)
      · replace F := F.1 k3
        refine z_aload_n (pc := 38) dX11_isText_38 rfl rfl ?_
        refine q_invV (pc := 39) (As := []) (st := []) dX11_isText_39 ok_X11_goesOn ml_RX11_271 iv_X11_goesOn pa_X11_goesOn ⟨Nat.le_of_ble_eq_true rfl, Nat.le_of_ble_eq_true rfl⟩ (lyc rfl) (q_kV F (fun h2 F => ?_))
        obtain ⟨G2, F⟩ := F
        refine z_goto (pc := 42) (tgt := 9) dX11_isText_42 (by decide) ?_
        exact F
      · replace F := F.2 k3
        refine z_iconst (pc := 36) (v := 0) dX11_isText_36 (by decide) ?_
        exact q_retB (pc := 37) dX11_isText_37 rfl (Or.inl rfl) F
    · replace F := F.2 k4
      refine z_iconst (pc := 25) (v := 1) dX11_isText_25 (by decide) ?_
      exact q_retB (pc := 26) dX11_isText_26 rfl (Or.inr rfl) F
  · replace F := F.2 k5
    refine z_iconst (pc := 16) (v := 0) dX11_isText_16 (by decide) ?_
    exact q_retB (pc := 17) dX11_isText_17 rfl (Or.inl rfl) F
theorem tv_all : ∀ k, k < 6 → (tv k = 2 ↔ k = 2) ∧ (tv k = 45 ↔ k = 4) ∧ (tv k = 59 ↔ k = 3) ∧ (tv k = 0 ↔ k = 0) := by decide +kernel
def fMn (h h' : zHp) : Prop := h'.2 = h.2 ∧ (∀ a, a ≠ 164 → a ≠ 177 → h'.1 a = h.1 a) ∧ ∀ j, (j < 22 ∨ 25 < j) → h'.1 164 j = h.1 164 j
theorem fMn.rf {h : zHp} : fMn h h := ⟨rfl, fun _ _ _ => rfl, fun _ _ => rfl⟩
theorem fMn.tr {h h' h2 : zHp} (a : fMn h h') (b : fMn h' h2) : fMn h h2 := ⟨b.1.trans a.1, fun z z1 z2 => (b.2.1 z z1 z2).trans (a.2.1 z z1 z2), fun k hk => (b.2.2 k hk).trans (a.2.2 k hk)⟩
theorem fT4.n {h h' : zHp} (f : fT4 h h') : fMn h h' := ⟨f.1, fun a h1 _ => f.2.1 a h1, f.2.2⟩
theorem fMn.w {h : zHp} {k : Nat} {v : Int32} : fMn h (wI h 177 k v) := ⟨rfl, fun a _ z => wI_ne z, fun j _ => by rw [wI_ne (by decide)]⟩
theorem fMn.t {h h' : zHp} {T : zN} {L : Nat} (f : fMn h h') (t : TpM h T L) : TpM h' T L := ⟨t.1, by show h'.1 164 21 = _; rw [f.2.2 21 (by omega)]; exact t.2.1, fun i hi => by
  have : rI h' 174 i = rI h 174 i := by show h'.1 174 i = h.1 174 i; rw [f.2.1 174 (by decide) (by decide)]
  rw [this]; exact t.2.2 i hi⟩
def RN (h h' : zHp) (T : zN) (L k : Nat) (x : Nat ⊕ (Int32 × Nat)) (r : Int32) : Prop := fMn h h' ∧ (∀ i, i ≠ k → rI h' 177 i = rI h 177 i) ∧ (∀ f, x = .inl f → r = 0 ∧ rI h' 164 22 = nI f) ∧ (∀ w q, x = .inr (w, q) → r = 1 ∧ rI h' 177 k = w ∧ TM h' (Tk T L q))
theorem s_X11_isNumber {T : zN} {L p k most : Nat} {h : zHp} (G : zG h) (tp : TpM h T L) (tm : TM h (Tk T L p)) (hp : p ≤ L) (hk : k < 3) (hm : most ≤ 9) : zcI M_X11_isNumber [.ref 164, .int (nI k), .int (nI most)] h (fun r h' => RN h h' T L k (pN T L most p) r) := by
  have k5 := Tk_5 (T := T) (L := L) (p := p)
  have tb := Tk_b (T := T) hp
  have w99 : (Tk T L p).2.2.2 < 2 ^ 31 ∨ ¬ (Tk T L p).2.2.2 < 2 ^ 31 := Classical.em _
  have wle : (Tk T L p).2.2.2 ≤ 99 := by
    have wb : ∀ (m q w : Nat), w ≤ 99 → (∀ i, i < L → iv 0 255 (T i)) → wrp T L m q w ≤ 99 := by
      intro m
      induction m with
      | zero => intro q w hw _; exact hw
      | succ m ih =>
        intro q w hw ok
        rw [wrp]
        by_cases z : q < L ∧ kd (T q) = 2
        · rw [if_pos z]
          obtain ⟨mm, em, m1, m2⟩ := (kdx (ok q z.1)).2.2.2.2.2.2.2.2.2 z.2
          refine ih _ _ ?_ ok
          rw [em, nI_clamp (by omega)]
          split <;> omega
        · rw [if_neg z]; exact hw
    unfold Tk
    split
    · split
      · show 0 ≤ 99; omega
      · split
        · exact wb _ _ _ (by omega) (fun i hi => (tp.2.2 i hi).2)
        · show 0 ≤ 99; omega
    · show 0 ≤ 99; omega
  refine g_X11_isNumber G ?_
  rw [tm.2.2.1, tm.2.2.2]
  have bad : ¬ ((Tk T L p).2.1 = 2 ∧ (Tk T L p).2.2.2 ≤ most) → RN h h T L k (pN T L most p) 0 := by
    intro z
    have ep : pN T L most p = .inl (Tk T L p).1 := by unfold pN; rw [if_neg z]
    rw [ep]
    exact ⟨fMn.rf, fun _ _ => rfl, fun f e => (by cases e; exact ⟨rfl, tm.1⟩), fun w q e => by cases e⟩
  refine ⟨fun z => bad (fun y => z ((tv_all _ (by omega)).1.mpr y.1)), fun z => ⟨fun y => ?_, fun y => bad (fun x => y (nI_le x.2 (by omega)))⟩⟩
  have k2 := (tv_all _ (by omega)).1.mp z
  have wm := (nI_leI (by omega) (by omega)).mp y
  have ep : pN T L most p = .inr (nI (Tk T L p).2.2.2, (Tk T L p).2.2.1) := by unfold pN; rw [if_pos ⟨k2, wm⟩]
  rw [nI_clamp (by omega), ep]
  refine ⟨vp_in_nI (by omega) (by omega), ?_⟩
  have f1 : fMn h (wI h 177 k (nI (Tk T L p).2.2.2)) := fMn.w
  refine zcV_then (s_X11_goesOn (zG_of f1.1 G) (f1.t tp) tb.2.1 (by rw [rI_c (by decide)]; exact tm.2.1)) (fun h2 hh => ⟨zG_of (hh.1.1.trans f1.1) G, ?_⟩)
  obtain ⟨f2, tm2⟩ := hh
  have e177 : ∀ i, rI h2 177 i = rI (wI h 177 k (nI (Tk T L p).2.2.2)) 177 i := fun i => by show h2.1 177 i = (wI h 177 k (nI (Tk T L p).2.2.2)).1 177 i; rw [f2.2.1 177 (by decide)]
  refine ⟨f1.tr f2.n, fun i hi => by rw [e177, rI_k hi], fun f e => (by cases e), fun w q e => ?_⟩
  cases e
  exact ⟨rfl, by rw [e177, rI_s], tm2⟩
theorem s_X11_isValue {T : zN} {L p k : Nat} {h : zHp} (G : zG h) (tp : TpM h T L) (tm : TM h (Tk T L p)) (hp : p ≤ L) (hk : k < 3) : zcI M_X11_isValue [.ref 164, .int (nI k)] h (fun r h' => RN h h' T L k (pV T L p) r) := by
  have k5 := Tk_5 (T := T) (L := L) (p := p)
  have tb := Tk_b (T := T) hp
  have tl : ∀ (p1 : Nat) (g : Int32) (h1 : zHp), p1 ≤ L → fMn h h1 → (∀ i, rI h1 177 i = rI h 177 i) → TM h1 (Tk T L p1) → zlI M_X11_isValue 23 [some (.ref 164), some (.int (nI k)), some (.int g)] [] h1 (fun r h' => RN h h' T L k (bd (pN T L 9 p1) (fun w => .inr (if g = 0 then w.1 else -w.1, w.2))) r) := by
    intro p1 g h1 hp1 f1 e1 tm1
    have G1 := zG_of f1.1 G
    refine g_X11_isValue_23 G1 ?_
    refine zcI_then (s_X11_isNumber (most := 9) G1 (f1.t tp) tm1 hp1 hk (by omega)) (fun r h2 hh => ?_)
    obtain ⟨f2, o2, a2, b2⟩ := hh
    have f12 := f1.tr f2
    refine ⟨zG_of f2.1 G1, ?_⟩
    cases ex : pN T L 9 p1 with
    | inl f =>
      obtain ⟨r0, e22⟩ := a2 f ex
      exact ⟨fun z => absurd r0 z, fun _ => ⟨f12, fun i hi => by rw [o2 i hi, e1], fun f' e => (by cases e; exact ⟨rfl, e22⟩), fun w q e => by cases e⟩⟩
    | inr y =>
      obtain ⟨w, q⟩ := y
      obtain ⟨r1, ek, tm2⟩ := b2 w q ex
      have fin : ∀ v, v = (if g = 0 then w else -w) → RN h (wI h2 177 k v) T L k (.inr (if g = 0 then w else -w, q)) 1 := by
        intro v hv
        refine ⟨f12.tr fMn.w, fun i hi => by rw [rI_k hi, o2 i hi, e1], fun f' e => (by cases e), fun w' q' e => ?_⟩
        cases e
        exact ⟨rfl, by rw [rI_s, hv], by rw [rI_c (by decide)]; exact tm2.1, by rw [rI_c (by decide)]; exact tm2.2.1, by rw [rI_c (by decide)]; exact tm2.2.2.1, by rw [rI_c (by decide)]; exact tm2.2.2.2⟩
      rw [nI_clamp (by omega), ek]
      refine ⟨fun _ => ⟨fun z => ⟨vp_in_nI (by omega) (by omega), fin _ (by rw [if_pos z])⟩, fun z => ⟨vp_in_nI (by omega) (by omega), fin _ (by rw [if_neg z])⟩⟩, fun z => absurd (r1.symm.trans z) (by decide)⟩
  refine g_X11_isValue G ?_
  rw [tm.2.2.1]
  unfold pV
  refine ⟨fun z => ⟨fun _ => ?_, fun y => absurd rfl y⟩, fun z => ⟨fun y => absurd y (by decide), fun _ => ?_⟩⟩
  · have n4 : ¬ (Tk T L p).2.1 = 4 := fun y => z ((tv_all _ (by omega)).2.1.mpr y)
    rw [if_neg n4]
    have r := tl p 0 h hp fMn.rf (fun _ => rfl) tm
    have eb : bd (pN T L 9 p) (fun w => .inr (if (0 : Int32) = 0 then w.1 else -w.1, w.2)) = pN T L 9 p := by
      cases pN T L 9 p with
      | inl f => rfl
      | inr w => rfl
    rw [eb] at r
    exact r
  · have k4 := (tv_all _ (by omega)).2.1.mp z
    rw [if_pos k4]
    refine zcV_then (s_X11_goesOn G tp tb.2.1 tm.2.1) (fun h1 hh => ⟨zG_of hh.1.1 G, ?_⟩)
    have r := tl (Tk T L p).2.2.1 1 h1 tb.2.1 hh.1.n (fun i => by show h1.1 177 i = h.1 177 i; rw [hh.1.2.1 177 (by decide)]) hh.2
    have eb : bd (pN T L 9 (Tk T L p).2.2.1) (fun w => .inr (if (1 : Int32) = 0 then w.1 else -w.1, w.2)) = bd (pN T L 9 (Tk T L p).2.2.1) (fun w => .inr (-w.1, w.2)) := by
      cases pN T L 9 (Tk T L p).2.2.1 with
      | inl f => rfl
      | inr w => rfl
    rw [eb] at r
    exact r
/-- an effect out of a phrase -/
noncomputable def aP (N : zN) (ph : Ph) : zN := aE N ph.1 ph.2.1 ph.2.2.1 ph.2.2.2.1 ph.2.2.2.2
def fMp (h h' : zHp) : Prop := h'.2 = h.2 ∧ (∀ a, a ≠ 164 → a ≠ 165 → a ≠ 177 → h'.1 a = h.1 a) ∧ ∀ j, (j < 22 ∨ 25 < j) → h'.1 164 j = h.1 164 j
theorem fMp.tr {h h' h2 : zHp} (a : fMp h h') (b : fMp h' h2) : fMp h h2 := ⟨b.1.trans a.1, fun z z1 z2 z3 => (b.2.1 z z1 z2 z3).trans (a.2.1 z z1 z2 z3), fun k hk => (b.2.2 k hk).trans (a.2.2 k hk)⟩
theorem fMn.p {h h' : zHp} (f : fMn h h') : fMp h h' := ⟨f.1, fun a h1 _ h3 => f.2.1 a h1 h3, f.2.2⟩
theorem fMp.t {h h' : zHp} {T : zN} {L : Nat} (f : fMp h h') (t : TpM h T L) : TpM h' T L := ⟨t.1, by show h'.1 164 21 = _; rw [f.2.2 21 (by omega)]; exact t.2.1, fun i hi => by
  have : rI h' 174 i = rI h 174 i := by show h'.1 174 i = h.1 174 i; rw [f.2.1 174 (by decide) (by decide) (by decide)]
  rw [this]; exact t.2.2 i hi⟩
def RQ (h h' : zHp) (T : zN) (L : Nat) (N : zN) (x : Nat ⊕ (Ph × Nat)) (r : Int32) : Prop := fMp h h' ∧ (∀ f, x = .inl f → r = 0 ∧ rI h' 164 22 = nI f ∧ h'.1 165 = N) ∧ (∀ ph q, x = .inr (ph, q) → r = 1 ∧ h'.1 165 = aP N ph ∧ TM h' (Tk T L q))
theorem s_X11_isPhrase {T N : zN} {L p : Nat} {h : zHp} (G : zG h) (tp : TpM h T L) (tm : TM h (Tk T L p)) (hp : p ≤ L) (hC : CN N) (hN : h.1 165 = N) : zcI M_X11_isPhrase [.ref 164] h (fun r h' => RQ h h' T L N (PH T L (decide (0 < 10 - cE N)) p) r) := by
  have h10 := hC.2.1.2
  have tb := Tk_b (T := T) hp
  have ts := Tk_se (T := T) hp
  have n165 : ∀ h1, fMn h h1 → h1.1 165 = N := fun h1 f => by rw [f.2.1 165 (by decide) (by decide), hN]
  have no : ∀ (h1 : zHp) (f : Nat), fMn h h1 → rI h1 164 22 = nI f → RQ h h1 T L N (.inl f) 0 := fun h1 f f1 e => ⟨f1.p, fun f' e' => (by cases e'; exact ⟨rfl, e, n165 h1 f1⟩), fun _ _ e' => by cases e'⟩
  -- the effect is laid
  have put : ∀ (how so xv v u : Int32) (q : Nat) (h1 : zHp), cE N < 10 → fMn h h1 → rI h1 177 0 = xv → rI h1 177 1 = v → rI h1 177 2 = u → TM h1 (Tk T L q) → zlI M_X11_isPhrase 150 [some (.ref 164), some (.int how), some (.int so)] [] h1 (fun r h' => RQ h h' T L N (.inr ((so, how, xv, v, u), q)) r) := by
    intro how so xv v u q h1 c10 f1 e0 e1 e2 tmq
    have eN := n165 h1 f1
    refine g_X11_isPhrase_150 (zG_of f1.1 G) ?_
    rw [rdN eN, hC.2.1.1, e0, e1, e2]
    refine zcV_use (s_X11_lays (zG_of f1.1 G) eN c10) ⟨zG_of f1.1 G, ?_⟩
    rw [rI_As, lay_o (by omega), hC.2.1.1, nI_1, wA_wI]
    refine ⟨f1.p.tr ⟨rfl, fun a _ z2 _ => wA_n z2, fun j _ => by rw [wA_n (by decide)]⟩, fun f e => (by cases e), fun ph q' e => ?_⟩
    cases e
    exact ⟨rfl, wA_s, by rw [rI_An (by decide)]; exact tmq.1, by rw [rI_An (by decide)]; exact tmq.2.1, by rw [rI_An (by decide)]; exact tmq.2.2.1, by rw [rI_An (by decide)]; exact tmq.2.2.2⟩
  -- behind the scope
  have body : ∀ (how xv : Int32) (p1 : Nat) (x2 : Int32) (h1 : zHp), cE N < 10 → fMn h h1 → p1 ≤ L → rI h1 177 0 = xv → rI h1 177 1 = 0 → rI h1 177 2 = 0 → TM h1 (Tk T L p1) → zlI M_X11_isPhrase 87 [some (.ref 164), some (.int how), some (.int x2)] [] h1 (fun r h' => RQ h h' T L N (pB T L how (xv, p1)) r) := by
    intro how xv p1 x2 h1 c10 f1 hp1 e0 e1 e2 tm1
    have G1 := zG_of f1.1 G
    have tp1 := f1.t tp
    have tb1 := Tk_b (T := T) hp1
    have ts1 := Tk_se (T := T) hp1
    refine g_X11_isPhrase_87 G1 (zcI_use (s_X11_wordOf (b := 1) G1 tp1 tm1 ts1 tb1.2.1 (by omega)) ⟨G1, fun z => ?_, fun z => ?_⟩)
    · change ¬ hw T (Tk T L p1) 6 = -1 at z
      unfold pB
      dsimp only
      rw [if_neg z]
      obtain ⟨k, hk, ek⟩ : ∃ k, k < 6 ∧ hw T (Tk T L p1) 6 = nI k := by
        rcases hw_in (T := T) (t := Tk T L p1) (b := 6) with u | u
        · exact absurd u z
        · exact u
      change zcV M_X11_goesOn [.ref 164] h1 (fun h2 => zG h2 ∧ ((3 ≤ hw T (Tk T L p1) 6 → zlI M_X11_isPhrase 123 [some (.ref 164), some (.int how), some (.int (hw T (Tk T L p1) 6))] [] h2 _) ∧ (¬ 3 ≤ hw T (Tk T L p1) 6 → _)))
      rw [ek]
      refine zcV_then (s_X11_goesOn G1 tp1 tb1.2.1 tm1.2.1) (fun h2 hh => ⟨zG_of hh.1.1 G1, ?_⟩)
      obtain ⟨f2, tm2⟩ := hh
      have f12 := f1.tr f2.n
      have G2 := zG_of f12.1 G
      have g : ∀ i, rI h2 177 i = rI h1 177 i := fun i => by show h2.1 177 i = h1.1 177 i; rw [f2.2.1 177 (by decide)]
      refine ⟨fun y => ?_, fun y => ?_⟩
      · have k3 := (nI_leI (a := 3) (by omega) (by omega)).mp y
        by_cases k5 : k = 5
        · subst k5
          have ef : pF T L (nI 5) (Tk T L p1).2.2.1 = .inr (0, (Tk T L p1).2.2.1) := by unfold pF; rw [if_pos (show nI 5 = (5 : Int32) from rfl)]
          have eu : pU T L (nI 5) (Tk T L p1).2.2.1 = .inr (0, (Tk T L p1).2.2.1) := by unfold pU; rw [if_neg (by decide)]
          rw [ef]
          show zlI _ _ _ _ _ (fun r h' => RQ h h' T L N (bd (pU T L (nI 5) (Tk T L p1).2.2.1) (fun uq => .inr ((nI 5, how, xv, 0, uq.1), uq.2))) r)
          rw [eu]
          exact g_X11_isPhrase_123 G2 ⟨fun _ => put how (nI 5) xv 0 0 _ h2 c10 f12 (by rw [g]; exact e0) (by rw [g]; exact e1) (by rw [g]; exact e2) tm2, fun w => absurd w.2 (by decide)⟩
        · have k34 : k = 3 ∨ k = 4 := by omega
          have s34 : nI k = 3 ∨ nI k = 4 := by rcases k34 with w | w <;> subst w; exact Or.inl rfl; exact Or.inr rfl
          have ef : pF T L (nI k) (Tk T L p1).2.2.1 = pV T L (Tk T L p1).2.2.1 := by
            unfold pF
            rw [if_neg (show ¬ nI k = (5 : Int32) from fun w => k5 ((nI_eq (b := 5) (by omega) (by omega)).mp w)), if_neg (show ¬ nI k ≤ (2 : Int32) from fun w => by have := (nI_leI (b := 2) (by omega) (by omega)).mp w; omega)]
          have eu : ∀ q, pU T L (nI k) q = pV T L q := fun q => by unfold pU; rw [if_pos s34]
          rw [ef]
          refine g_X11_isPhrase_123 G2 ⟨fun w => absurd ⟨y, nI_le (b := 4) (by omega) (by omega)⟩ w, fun _ => ?_⟩
          refine zcI_then (s_X11_isValue (k := 1) G2 (f12.t tp) tm2 tb1.2.1 (by omega)) (fun r h3 hh => ?_)
          obtain ⟨f3, o3, a3, b3⟩ := hh
          have f13 := f12.tr f3
          have G3 := zG_of f13.1 G
          refine ⟨G3, ?_⟩
          cases ex : pV T L (Tk T L p1).2.2.1 with
          | inl f =>
            obtain ⟨r0, e22⟩ := a3 f ex
            exact ⟨fun _ => no h3 f f13 e22, fun w => absurd r0 w⟩
          | inr vq =>
            obtain ⟨v, q⟩ := vq
            obtain ⟨r1, ev, tm3⟩ := b3 v q ex
            have hq := ((pV_b tb1.2.1).2 v q ex).1
            refine ⟨fun w => absurd (r1.symm.trans w) (by decide), fun _ => ?_⟩
            show zcI M_X11_isValue [.ref 164, .int 2] h3 (fun vh2 h4 => zG h4 ∧ ((¬ vh2 = 0 → zlI M_X11_isPhrase 150 [some (.ref 164), some (.int how), some (.int (nI k))] [] h4 (fun r h' => RQ h h' T L N (bd (pU T L (nI k) q) (fun uq => .inr ((nI k, how, xv, v, uq.1), uq.2))) r)) ∧ (vh2 = 0 → RQ h h4 T L N (bd (pU T L (nI k) q) (fun uq => .inr ((nI k, how, xv, v, uq.1), uq.2))) 0)))
            rw [eu]
            refine zcI_then (s_X11_isValue (k := 2) G3 (f13.t tp) tm3 hq (by omega)) (fun r' h4 hh => ?_)
            obtain ⟨f4, o4, a4, b4⟩ := hh
            have f14 := f13.tr f4
            refine ⟨zG_of f14.1 G, ?_⟩
            cases ex2 : pV T L q with
            | inl f =>
              obtain ⟨r0, e22⟩ := a4 f ex2
              exact ⟨fun w => absurd r0 w, fun _ => no h4 f f14 e22⟩
            | inr uq =>
              obtain ⟨u, q2⟩ := uq
              obtain ⟨r2, eu2, tm4⟩ := b4 u q2 ex2
              exact ⟨fun _ => put how (nI k) xv v u q2 h4 c10 f14 (by rw [o4 0 (by omega), o3 0 (by omega), g]; exact e0) (by rw [o4 1 (by omega)]; exact ev) eu2 tm4, fun w => absurd (r2.symm.trans w) (by decide)⟩
      · have k2 : k ≤ 2 := Nat.le_of_not_lt (fun w => y (nI_le (a := 3) (by omega) (by omega)))
        have ef : pF T L (nI k) (Tk T L p1).2.2.1 = pN T L 5 (Tk T L p1).2.2.1 := by
          unfold pF
          rw [if_neg (show ¬ nI k = (5 : Int32) from fun w => by have := (nI_eq (b := 5) (by omega) (by omega)).mp w; omega), if_pos (show nI k ≤ (2 : Int32) from nI_le (b := 2) k2 (by omega))]
        have eu : ∀ q, pU T L (nI k) q = .inr (0, q) := fun q => by
          unfold pU
          rw [if_neg (fun w => by
            rcases w with w | w
            · have := (nI_eq (b := 3) (by omega) (by omega)).mp w; omega
            · have := (nI_eq (b := 4) (by omega) (by omega)).mp w; omega)]
        rw [ef]
        refine zcI_then (s_X11_isNumber (k := 1) (most := 5) G2 (f12.t tp) tm2 tb1.2.1 (by omega) (by omega)) (fun r h3 hh => ?_)
        obtain ⟨f3, o3, a3, b3⟩ := hh
        have f13 := f12.tr f3
        have G3 := zG_of f13.1 G
        refine ⟨G3, ?_⟩
        cases ex : pN T L 5 (Tk T L p1).2.2.1 with
        | inl f =>
          obtain ⟨r0, e22⟩ := a3 f ex
          exact ⟨fun w => absurd r0 w, fun _ => no h3 f f13 e22⟩
        | inr vq =>
          obtain ⟨v, q⟩ := vq
          obtain ⟨r1, ev, tm3⟩ := b3 v q ex
          refine ⟨fun _ => ?_, fun w => absurd (r1.symm.trans w) (by decide)⟩
          show zlI _ _ _ _ _ (fun r h' => RQ h h' T L N (bd (pU T L (nI k) q) (fun uq => .inr ((nI k, how, xv, v, uq.1), uq.2))) r)
          rw [eu]
          exact g_X11_isPhrase_123 G3 ⟨fun _ => put how (nI k) xv v 0 q h3 c10 f13 (by rw [o3 0 (by omega), g]; exact e0) ev (by rw [o3 2 (by omega), g]; exact e2) tm3, fun w => absurd ((nI_leI (a := 3) (by omega) (by omega)).mp w.1) (by omega)⟩
    · change hw T (Tk T L p1) 6 = -1 at z
      unfold pB
      dsimp only
      rw [if_pos z]
      exact no h1 _ f1 tm1.1
  refine g_X11_isPhrase G (zcI_use (s_X11_wordOf (b := 0) G tp tm ts tb.2.1 (by omega)) ⟨G, fun z => ?_, fun z => ?_⟩)
  · change hw T (Tk T L p) 0 = -1 at z
    unfold PH
    rw [if_pos (Or.inl z)]
    exact no h _ fMn.rf tm.1
  · change ¬ hw T (Tk T L p) 0 = -1 at z
    change (¬ rI h 165 239 = 10 → zlI M_X11_isPhrase 31 [some (.ref 164), some (.int (hw T (Tk T L p) 0)), some (.int 0)] [] h _) ∧ (rI h 165 239 = 10 → _)
    rw [rdN hN, hC.2.1.1]
    refine ⟨fun y => ?_, fun y => ?_⟩
    · have c10 : cE N < 10 := by
        rcases Nat.lt_or_ge (cE N) 10 with x | x
        · exact x
        · exact absurd (by rw [show cE N = 10 by omega]; rfl) y
      obtain ⟨k, hk, ek⟩ : ∃ k, k < 6 ∧ hw T (Tk T L p) 0 = nI k := by
        rcases hw_in (T := T) (t := Tk T L p) (b := 0) with u | u
        · exact absurd u z
        · exact u
      have eP : PH T L (decide (0 < 10 - cE N)) p = bd (pX T L (nI k) (Tk T L p).2.2.1) (pB T L (nI k)) := by
        unfold PH
        rw [if_neg (fun w => w.elim z (fun w => by rw [decide_eq_true (by omega)] at w; cases w)), ek]
      rw [eP, ek]
      have loop : ∀ (m j : Nat) (h1 : zHp), j + m = 3 → fMn h h1 → (∀ a, a ≠ 177 → h1.1 a = h.1 a) → (∀ i, i < j → rI h1 177 i = 0) → zlI M_X11_isPhrase 31 [some (.ref 164), some (.int (nI k)), some (.int (nI j))] [] h1 (fun r h' => RQ h h' T L N (bd (pX T L (nI k) (Tk T L p).2.2.1) (pB T L (nI k))) r) := by
        intro m
        induction m with
        | zero =>
          intro j h1 hj f1 fa e0
          have : j = 3 := by omega
          subst this
          have G1 := zG_of f1.1 G
          have e23 : rI h1 164 23 = nI (Tk T L p).2.2.1 := by show h1.1 164 23 = _; rw [fa 164 (by decide)]; exact tm.2.1
          refine g_X11_isPhrase_31 G1 ⟨fun _ => zcV_then (s_X11_goesOn G1 (f1.t tp) tb.2.1 e23) (fun h2 hh => ⟨zG_of hh.1.1 G1, ?_⟩), fun w => absurd (by decide) w⟩
          obtain ⟨f2, tm2⟩ := hh
          have f12 := f1.tr f2.n
          have G2 := zG_of f12.1 G
          have g : ∀ i, i < 3 → rI h2 177 i = 0 := fun i hi => by rw [← e0 i hi]; show h2.1 177 i = h1.1 177 i; rw [f2.2.1 177 (by decide)]
          have num : ∀ most, most ≤ 9 → pX T L (nI k) (Tk T L p).2.2.1 = pN T L most (Tk T L p).2.2.1 → zcI M_X11_isNumber [.ref 164, .int 0, .int (nI most)] h2 (fun vh3 h3 => zG h3 ∧ ((¬ vh3 = 0 → zlI M_X11_isPhrase 87 [some (.ref 164), some (.int (nI k)), some (.int (nI 3))] [] h3 (fun r h' => RQ h h' T L N (bd (pX T L (nI k) (Tk T L p).2.2.1) (pB T L (nI k))) r)) ∧ (vh3 = 0 → RQ h h3 T L N (bd (pX T L (nI k) (Tk T L p).2.2.1) (pB T L (nI k))) 0))) := by
            intro most hm ex0
            rw [ex0]
            refine zcI_then (s_X11_isNumber (k := 0) G2 (f12.t tp) tm2 tb.2.1 (by omega) hm) (fun r h3 hh => ?_)
            obtain ⟨f3, o3, a3, b3⟩ := hh
            have f13 := f12.tr f3
            refine ⟨zG_of f13.1 G, ?_⟩
            cases ex : pN T L most (Tk T L p).2.2.1 with
            | inl f =>
              obtain ⟨r0, e22⟩ := a3 f ex
              exact ⟨fun w => absurd r0 w, fun _ => no h3 f f13 e22⟩
            | inr xq =>
              obtain ⟨xv, q⟩ := xq
              obtain ⟨r1, ev, tm3⟩ := b3 xv q ex
              exact ⟨fun _ => body (nI k) xv q _ h3 c10 f13 ((pN_b tb.2.1).2 _ _ ex).1 ev (by rw [o3 1 (by omega), g 1 (by omega)]) (by rw [o3 2 (by omega), g 2 (by omega)]) tm3, fun w => absurd (r1.symm.trans w) (by decide)⟩
          have nz : 1 ≤ k → ¬ nI k = 0 := fun u => nI_ne0 (by omega) (by omega)
          refine ⟨fun w => ?_, fun w => ?_⟩
          · have k0 : k = 0 := Classical.byContradiction (fun u => nI_nle (n := k) (by omega) (by omega) w)
            have ex0 : pX T L (nI k) (Tk T L p).2.2.1 = .inr (0, (Tk T L p).2.2.1) := by unfold pX; rw [if_pos (by rw [k0]; rfl)]
            rw [ex0]
            exact body (nI k) 0 _ _ h2 c10 f12 tb.2.1 (g 0 (by omega)) (g 1 (by omega)) (g 2 (by omega)) tm2
          · have k1 : 1 ≤ k := by
              rcases Nat.eq_zero_or_pos k with u | u
              · exact absurd (by rw [u]; decide) w
              · exact u
            have ex0 : ∀ mo, mxk k = mo → pX T L (nI k) (Tk T L p).2.2.1 = pN T L mo (Tk T L p).2.2.1 := fun mo e => by unfold pX; rw [if_neg (nz k1), nI_clamp (by omega), e]
            refine ⟨fun u => ⟨fun v => num 5 (by omega) (ex0 5 ?_), fun v => num 7 (by omega) (ex0 7 ?_)⟩, fun u => num 1 (by omega) (ex0 1 ?_)⟩
            · unfold mxk; rw [if_neg (fun x => u (by rw [x]; rfl)), if_neg (fun x => v (by rw [x]; rfl))]
            · have := (nI_eq (b := 5) (by omega) (by omega)).mp v
              subst this; rfl
            · have := (nI_eq (b := 1) (by omega) (by omega)).mp u
              subst this; rfl
        | succ m ih =>
          intro j h1 hj f1 fa e0
          refine g_X11_isPhrase_31 (zG_of f1.1 G) ⟨fun w => absurd w (nI_ge (b := 3) (by omega) (by omega)), fun _ => ⟨vp_in_nI (by omega) (by omega), ?_⟩⟩
          rw [nI_clamp (by omega), nI_1]
          refine ih (j + 1) _ (by omega) (f1.tr fMn.w) (fun a ha => by rw [wI_ne ha, fa a ha]) (fun i hi => ?_)
          by_cases x : i = j
          · rw [x, rI_s]
          · rw [rI_k x]; exact e0 i (by omega)
      exact loop 3 0 h (by omega) fMn.rf (fun _ _ => rfl) (fun i hi => by omega)
    · have c10 : cE N = 10 := (nI_eq (b := 10) (by omega) (by omega)).mp y
      unfold PH
      rw [if_pos (Or.inr (decide_eq_false (by omega)))]
      exact no h _ fMn.rf tm.1

