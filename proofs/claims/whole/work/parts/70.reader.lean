/-! texts: the class's reader -/
theorem g_X3_numberHere {x1 : Int32} {h : zHp} {Q : Int32 → zHp → Prop}  (G : zG h) (F : (¬ rI h 141 3 = 2 → (Q 0 (wI h 141 8 (rI h 141 4)))) ∧ (rI h 141 3 = 2 → ((x1 < rI h 141 5 → (Q 0 (wI h 141 8 (rI h 141 4)))) ∧ (¬ (x1 < rI h 141 5) → (Q (rI h 141 5) h))))) : zcI M_X3_numberHere [.ref 141, .int x1] h Q := by
  show zw zNT zNT M_X3_numberHere 0 [some (.ref 141), some (.int x1)] [] h _
  refine z_aload_n (pc := 0) dX3_numberHere_0 rfl rfl ?_
  refine q_getI (pc := 1) (v := rI h 141 3) dX3_numberHere_1 lk_RX3_42 (lyc rfl) rfl ?_
  refine z_iconst (pc := 4) (v := 2) dX3_numberHere_4 (by decide) ?_
  refine z_icmp_ne (pc := 5) (tgt := 21) dX3_numberHere_5 (by decide) (fun k2 => ?_) (fun k2 => ?_)
  · replace F := F.1 k2
    refine z_aload_n (pc := 21) dX3_numberHere_21 rfl rfl ?_
    refine z_aload_n (pc := 22) dX3_numberHere_22 rfl rfl ?_
    refine q_getI (pc := 23) (v := rI h 141 4) dX3_numberHere_23 lk_RX3_45 (lyc rfl) rfl ?_
    refine q_putI (pc := 26) dX3_numberHere_26 lk_RX3_29 (lyc rfl) ?_
    refine z_iconst (pc := 29) (v := 0) dX3_numberHere_29 (by decide) ?_
    exact q_retI (pc := 30) dX3_numberHere_30 rfl F
  · replace F := F.2 k2
    refine z_aload_n (pc := 8) dX3_numberHere_8 rfl rfl ?_
    refine q_getI (pc := 9) (v := rI h 141 5) dX3_numberHere_9 lk_RX3_76 (lyc rfl) rfl ?_
    refine z_iload_n (pc := 12) dX3_numberHere_12 rfl rfl ?_
    refine z_icmp_gt (pc := 13) (tgt := 21) dX3_numberHere_13 (by decide) (fun k1 => ?_) (fun k1 => ?_)
    · replace F := F.1 k1
      refine z_aload_n (pc := 21) dX3_numberHere_21 rfl rfl ?_
      refine z_aload_n (pc := 22) dX3_numberHere_22 rfl rfl ?_
      refine q_getI (pc := 23) (v := rI h 141 4) dX3_numberHere_23 lk_RX3_45 (lyc rfl) rfl ?_
      refine q_putI (pc := 26) dX3_numberHere_26 lk_RX3_29 (lyc rfl) ?_
      refine z_iconst (pc := 29) (v := 0) dX3_numberHere_29 (by decide) ?_
      exact q_retI (pc := 30) dX3_numberHere_30 rfl F
    · replace F := F.2 k1
      refine z_aload_n (pc := 16) dX3_numberHere_16 rfl rfl ?_
      refine q_getI (pc := 17) (v := rI h 141 5) dX3_numberHere_17 lk_RX3_76 (lyc rfl) rfl ?_
      exact q_retI (pc := 20) dX3_numberHere_20 rfl F
theorem g_X3_readNumber {x1 : Int32} {h : zHp} {Q : Int32 → zHp → Prop}  (G : zG h) (F : zcV M_X3_advance [.ref 141] h (fun h1 => zG h1 ∧ (zcI M_X3_numberHere [.ref 141, .int x1] h1 (fun vh2 h2 => zG h2 ∧ (Q vh2 h2))))) : zcI M_X3_readNumber [.ref 141, .int x1] h Q := by
  show zw zNT zNT M_X3_readNumber 0 [some (.ref 141), some (.int x1)] [] h _
  refine z_aload_n (pc := 0) dX3_readNumber_0 rfl rfl ?_
  refine q_invV (pc := 1) (As := []) (st := []) dX3_readNumber_1 ok_X3_advance ml_RX3_39 iv_X3_advance pa_X3_advance ⟨Nat.le_of_ble_eq_true rfl, Nat.le_of_ble_eq_true rfl⟩ (lyc rfl) (q_kV F (fun h1 F => ?_))
  obtain ⟨G1, F⟩ := F
  refine z_aload_n (pc := 4) dX3_readNumber_4 rfl rfl ?_
  refine z_iload_n (pc := 5) dX3_readNumber_5 rfl rfl ?_
  refine q_invV (pc := 6) (As := [.int x1]) (st := []) dX3_readNumber_6 ok_X3_numberHere ml_RX3_73 iv_X3_numberHere pa_X3_numberHere ⟨Nat.le_of_ble_eq_true rfl, Nat.le_of_ble_eq_true rfl⟩ (lyc rfl) (q_kI F (fun vh2 h2 F => ?_))
  obtain ⟨G2, F⟩ := F
  exact q_retI (pc := 9) dX3_readNumber_9 rfl F
theorem g_X3_readValue  {h : zHp} {Q : Int32 → zHp → Prop}  (G : zG h) (F : zcV M_X3_advance [.ref 141] h (fun h1 => zG h1 ∧ ((rI h1 141 3 = 4 → (zcV M_X3_advance [.ref 141] h1 (fun h2 => zG h2 ∧ (zcI M_X3_numberHere [.ref 141, .int 9] h2 (fun vh3 h3 => zG h3 ∧ (Q (-vh3) h3)))))) ∧ (¬ (rI h1 141 3 = 4) → (zcI M_X3_numberHere [.ref 141, .int 9] h1 (fun vh4 h4 => zG h4 ∧ (Q vh4 h4))))))) : zcI M_X3_readValue [.ref 141] h Q := by
  show zw zNT zNT M_X3_readValue 0 [some (.ref 141)] [] h _
  refine z_aload_n (pc := 0) dX3_readValue_0 rfl rfl ?_
  refine q_invV (pc := 1) (As := []) (st := []) dX3_readValue_1 ok_X3_advance ml_RX3_39 iv_X3_advance pa_X3_advance ⟨Nat.le_of_ble_eq_true rfl, Nat.le_of_ble_eq_true rfl⟩ (lyc rfl) (q_kV F (fun h1 F => ?_))
  obtain ⟨G1, F⟩ := F
  refine z_aload_n (pc := 4) dX3_readValue_4 rfl rfl ?_
  refine q_getI (pc := 5) (v := rI h1 141 3) dX3_readValue_5 lk_RX3_42 (lyc rfl) rfl ?_
  refine z_iconst (pc := 8) (v := 4) dX3_readValue_8 (by decide) ?_
  refine z_icmp_eq (pc := 9) (tgt := 19) dX3_readValue_9 (by decide) (fun k5 => ?_) (fun k5 => ?_)
  · replace F := F.1 k5
    refine z_aload_n (pc := 19) dX3_readValue_19 rfl rfl ?_
    refine q_invV (pc := 20) (As := []) (st := []) dX3_readValue_20 ok_X3_advance ml_RX3_39 iv_X3_advance pa_X3_advance ⟨Nat.le_of_ble_eq_true rfl, Nat.le_of_ble_eq_true rfl⟩ (lyc rfl) (q_kV F (fun h2 F => ?_))
    obtain ⟨G2, F⟩ := F
    refine z_aload_n (pc := 23) dX3_readValue_23 rfl rfl ?_
    refine z_bipush (pc := 24) (v := 9) dX3_readValue_24 (by decide) ?_
    refine q_invV (pc := 26) (As := [.int 9]) (st := []) dX3_readValue_26 ok_X3_numberHere ml_RX3_73 iv_X3_numberHere pa_X3_numberHere ⟨Nat.le_of_ble_eq_true rfl, Nat.le_of_ble_eq_true rfl⟩ (lyc rfl) (q_kI F (fun vh3 h3 F => ?_))
    obtain ⟨G3, F⟩ := F
    refine z_ineg (pc := 29) dX3_readValue_29 ?_
    exact q_retI (pc := 30) dX3_readValue_30 rfl F
  · replace F := F.2 k5
    refine z_aload_n (pc := 12) dX3_readValue_12 rfl rfl ?_
    refine z_bipush (pc := 13) (v := 9) dX3_readValue_13 (by decide) ?_
    refine q_invV (pc := 15) (As := [.int 9]) (st := []) dX3_readValue_15 ok_X3_numberHere ml_RX3_73 iv_X3_numberHere pa_X3_numberHere ⟨Nat.le_of_ble_eq_true rfl, Nat.le_of_ble_eq_true rfl⟩ (lyc rfl) (q_kI F (fun vh4 h4 F => ?_))
    obtain ⟨G4, F⟩ := F
    exact q_retI (pc := 18) dX3_readValue_18 rfl F
theorem g_X3_readFirst {x1 : Int32} {h : zHp} {Q : Int32 → zHp → Prop}  (G : zG h) (F : (¬ x1 = 5 → ((2 < x1 → (zcI M_X3_readValue [.ref 141] h (fun vh1 h1 => zG h1 ∧ (Q vh1 h1)))) ∧ (¬ (2 < x1) → (zcI M_X3_readNumber [.ref 141, .int 5] h (fun vh2 h2 => zG h2 ∧ (Q vh2 h2)))))) ∧ (x1 = 5 → (Q 0 h))) : zcI M_X3_readFirst [.ref 141, .int x1] h Q := by
  show zw zNT zNT M_X3_readFirst 0 [some (.ref 141), some (.int x1)] [] h _
  refine z_iload_n (pc := 0) dX3_readFirst_0 rfl rfl ?_
  refine z_iconst (pc := 1) (v := 5) dX3_readFirst_1 (by decide) ?_
  refine z_icmp_ne (pc := 2) (tgt := 7) dX3_readFirst_2 (by decide) (fun k4 => ?_) (fun k4 => ?_)
  · replace F := F.1 k4
    refine z_iload_n (pc := 7) dX3_readFirst_7 rfl rfl ?_
    refine z_iconst (pc := 8) (v := 2) dX3_readFirst_8 (by decide) ?_
    refine z_icmp_gt (pc := 9) (tgt := 20) dX3_readFirst_9 (by decide) (fun k3 => ?_) (fun k3 => ?_)
    · replace F := F.1 k3
      refine z_aload_n (pc := 20) dX3_readFirst_20 rfl rfl ?_
      refine q_invV (pc := 21) (As := []) (st := []) dX3_readFirst_21 ok_X3_readValue ml_RX3_66 iv_X3_readValue pa_X3_readValue ⟨Nat.le_of_ble_eq_true rfl, Nat.le_of_ble_eq_true rfl⟩ (lyc rfl) (q_kI F (fun vh1 h1 F => ?_))
      obtain ⟨G1, F⟩ := F
      exact q_retI (pc := 24) dX3_readFirst_24 rfl F
    · replace F := F.2 k3
      refine z_aload_n (pc := 12) dX3_readFirst_12 rfl rfl ?_
      refine z_iconst (pc := 13) (v := 5) dX3_readFirst_13 (by decide) ?_
      refine q_invV (pc := 14) (As := [.int 5]) (st := []) dX3_readFirst_14 ok_X3_readNumber ml_RX3_56 iv_X3_readNumber pa_X3_readNumber ⟨Nat.le_of_ble_eq_true rfl, Nat.le_of_ble_eq_true rfl⟩ (lyc rfl) (q_kI F (fun vh2 h2 F => ?_))
      obtain ⟨G2, F⟩ := F
      refine z_goto (pc := 17) (tgt := 24) dX3_readFirst_17 (by decide) ?_
      exact q_retI (pc := 24) dX3_readFirst_24 rfl F
  · replace F := F.2 k4
    refine z_iconst (pc := 5) (v := 0) dX3_readFirst_5 (by decide) ?_
    exact q_retI (pc := 6) dX3_readFirst_6 rfl F
theorem g_X3_readPhrase {x1 : Int32} {h : zHp} {Q : zHp → Prop}  (G : zG h) (F : zcV M_X3_advance [.ref 141] h (fun h1 => zG h1 ∧ ((¬ rI h1 141 3 = 1 → (zlV M_X3_readPhrase 20 [some (.ref 141), some (.int x1), none, none, none, none, none] [.int (-1)] h1 Q)) ∧ (rI h1 141 3 = 1 → (zcI M_X3_scopeOfWord [.ref 141] h1 (fun vh2 h2 => zG h2 ∧ (zlV M_X3_readPhrase 20 [some (.ref 141), some (.int x1), none, none, none, none, none] [.int vh2] h2 Q))))))) : zcV M_X3_readPhrase [.ref 141, .int x1] h Q := by
  show zw zNT zNT M_X3_readPhrase 0 [some (.ref 141), some (.int x1), none, none, none, none, none] [] h _
  refine z_aload_n (pc := 0) dX3_readPhrase_0 rfl rfl ?_
  refine q_invV (pc := 1) (As := []) (st := []) dX3_readPhrase_1 ok_X3_advance ml_RX3_39 iv_X3_advance pa_X3_advance ⟨Nat.le_of_ble_eq_true rfl, Nat.le_of_ble_eq_true rfl⟩ (lyc rfl) (q_kV F (fun h1 F => ?_))
  obtain ⟨G1, F⟩ := F
  refine z_aload_n (pc := 4) dX3_readPhrase_4 rfl rfl ?_
  refine q_getI (pc := 5) (v := rI h1 141 3) dX3_readPhrase_5 lk_RX3_42 (lyc rfl) rfl ?_
  refine z_iconst (pc := 8) (v := 1) dX3_readPhrase_8 (by decide) ?_
  refine z_icmp_ne (pc := 9) (tgt := 19) dX3_readPhrase_9 (by decide) (fun k3 => ?_) (fun k3 => ?_)
  · replace F := F.1 k3
    refine z_iconst (pc := 19) (v := -1) dX3_readPhrase_19 (by decide) ?_
    exact F
  · replace F := F.2 k3
    refine z_aload_n (pc := 12) dX3_readPhrase_12 rfl rfl ?_
    refine q_invV (pc := 13) (As := []) (st := []) dX3_readPhrase_13 ok_X3_scopeOfWord ml_RX3_48 iv_X3_scopeOfWord pa_X3_scopeOfWord ⟨Nat.le_of_ble_eq_true rfl, Nat.le_of_ble_eq_true rfl⟩ (lyc rfl) (q_kI F (fun vh2 h2 F => ?_))
    obtain ⟨G2, F⟩ := F
    refine z_goto (pc := 16) (tgt := 20) dX3_readPhrase_16 (by decide) ?_
    exact F
theorem g_X3_readPhrase_20 {x1 : Int32} {xs0 : Int32} {h : zHp} {Q : zHp → Prop}  (G : zG h) (F : (xs0 = -1 → (Q (wI h 141 8 (rI h 141 4)))) ∧ (¬ (xs0 = -1) → ((x1 = 0 → (Q (wI h 141 8 (rI h 141 4)))) ∧ (¬ (x1 = 0) → ((rI h 141 7 < 10 → ((¬ xs0 = 0 → (vp_in xs0 6 ∧ (zcI M_X3_readNumber [.ref 141, .int (zMX (Int32.toNatClampNeg xs0))] h (fun vh1 h1 => zG h1 ∧ (zlV M_X3_readPhrase 65 [some (.ref 141), some (.int x1), some (.int xs0), none, none, none, none] [.int vh1] h1 Q))))) ∧ (xs0 = 0 → (zlV M_X3_readPhrase 65 [some (.ref 141), some (.int x1), some (.int xs0), none, none, none, none] [.int 0] h Q)))) ∧ (¬ (rI h 141 7 < 10) → (Q (wI h 141 8 (rI h 141 4))))))))) : zlV M_X3_readPhrase 20 [some (.ref 141), some (.int x1), none, none, none, none, none] [.int xs0] h Q := by
  refine z_istore_n (pc := 20) (ls' := [some (.ref 141), some (.int x1), some (.int xs0), none, none, none, none]) dX3_readPhrase_20 rfl (by decide) rfl ?_
  refine z_iload_n (pc := 21) dX3_readPhrase_21 rfl rfl ?_
  refine z_iconst (pc := 22) (v := -1) dX3_readPhrase_22 (by decide) ?_
  refine z_icmp_eq (pc := 23) (tgt := 39) dX3_readPhrase_23 (by decide) (fun k6 => ?_) (fun k6 => ?_)
  · replace F := F.1 k6
    refine z_aload_n (pc := 39) dX3_readPhrase_39 rfl rfl ?_
    refine z_aload_n (pc := 40) dX3_readPhrase_40 rfl rfl ?_
    refine q_getI (pc := 41) (v := rI h 141 4) dX3_readPhrase_41 lk_RX3_45 (lyc rfl) rfl ?_
    refine q_putI (pc := 44) dX3_readPhrase_44 lk_RX3_29 (lyc rfl) ?_
    exact q_retV (pc := 47) dX3_readPhrase_47 rfl F
  · replace F := F.2 k6
    refine z_iload_n (pc := 26) dX3_readPhrase_26 rfl rfl ?_
    refine z_if_eq (pc := 27) (tgt := 39) dX3_readPhrase_27 (by decide) (fun k5 => ?_) (fun k5 => ?_)
    · replace F := F.1 k5
      refine z_aload_n (pc := 39) dX3_readPhrase_39 rfl rfl ?_
      refine z_aload_n (pc := 40) dX3_readPhrase_40 rfl rfl ?_
      refine q_getI (pc := 41) (v := rI h 141 4) dX3_readPhrase_41 lk_RX3_45 (lyc rfl) rfl ?_
      refine q_putI (pc := 44) dX3_readPhrase_44 lk_RX3_29 (lyc rfl) ?_
      exact q_retV (pc := 47) dX3_readPhrase_47 rfl F
    · replace F := F.2 k5
      refine z_aload_n (pc := 30) dX3_readPhrase_30 rfl rfl ?_
      refine q_getI (pc := 31) (v := rI h 141 7) dX3_readPhrase_31 lk_RX3_32 (lyc rfl) rfl ?_
      refine z_bipush (pc := 34) (v := 10) dX3_readPhrase_34 (by decide) ?_
      refine z_icmp_lt (pc := 36) (tgt := 48) dX3_readPhrase_36 (by decide) (fun k4 => ?_) (fun k4 => ?_)
      · replace F := F.1 k4
        refine z_iload_n (pc := 48) dX3_readPhrase_48 rfl rfl ?_
        refine z_if_ne (pc := 49) (tgt := 56) dX3_readPhrase_49 (by decide) (fun k3 => ?_) (fun k3 => ?_)
        · replace F := F.1 k3
          refine z_aload_n (pc := 56) dX3_readPhrase_56 rfl rfl ?_
          refine z_gsN (pc := 57) (i := 1001) (own := RX3) (nm := "MOST_X") (host := "LayeredRules") dX3_readPhrase_57 (List.mem_of_getElem? (i := 1) rfl) rfl (Or.inr ⟨rfl, rfl⟩) ?_
          refine z_iload_n (pc := 60) dX3_readPhrase_60 rfl rfl ?_
          obtain ⟨k1, F⟩ := F
          refine z_ldMX (pc := 61) dX3_readPhrase_61 k1 rfl ?_
          refine q_invV (pc := 62) (As := [.int (zMX (Int32.toNatClampNeg xs0))]) (st := []) dX3_readPhrase_62 ok_X3_readNumber ml_RX3_56 iv_X3_readNumber pa_X3_readNumber ⟨Nat.le_of_ble_eq_true rfl, Nat.le_of_ble_eq_true rfl⟩ (lyc rfl) (q_kI F (fun vh1 h1 F => ?_))
          obtain ⟨G1, F⟩ := F
          exact F
        · replace F := F.2 k3
          refine z_iconst (pc := 52) (v := 0) dX3_readPhrase_52 (by decide) ?_
          refine z_goto (pc := 53) (tgt := 65) dX3_readPhrase_53 (by decide) ?_
          exact F
      · replace F := F.2 k4
        refine z_aload_n (pc := 39) dX3_readPhrase_39 rfl rfl ?_
        refine z_aload_n (pc := 40) dX3_readPhrase_40 rfl rfl ?_
        refine q_getI (pc := 41) (v := rI h 141 4) dX3_readPhrase_41 lk_RX3_45 (lyc rfl) rfl ?_
        refine q_putI (pc := 44) dX3_readPhrase_44 lk_RX3_29 (lyc rfl) ?_
        exact q_retV (pc := 47) dX3_readPhrase_47 rfl F
theorem g_X3_readPhrase_65 {x1 : Int32} {x2 : Int32} {xs0 : Int32} {h : zHp} {Q : zHp → Prop}  (G : zG h) (F : (rI h 141 8 = -1 → (zcV M_X3_advance [.ref 141] h (fun h1 => zG h1 ∧ ((¬ rI h1 141 3 = 1 → (zlV M_X3_readPhrase 95 [some (.ref 141), some (.int x1), some (.int x2), some (.int xs0), none, none, none] [.int (-1)] h1 Q)) ∧ (rI h1 141 3 = 1 → (zcI M_X3_sortOfWord [.ref 141] h1 (fun vh2 h2 => zG h2 ∧ (zlV M_X3_readPhrase 95 [some (.ref 141), some (.int x1), some (.int x2), some (.int xs0), none, none, none] [.int vh2] h2 Q)))))))) ∧ (¬ (rI h 141 8 = -1) → (Q h))) : zlV M_X3_readPhrase 65 [some (.ref 141), some (.int x1), some (.int x2), none, none, none, none] [.int xs0] h Q := by
  refine z_istore_n (pc := 65) (ls' := [some (.ref 141), some (.int x1), some (.int x2), some (.int xs0), none, none, none]) dX3_readPhrase_65 rfl (by decide) rfl ?_
  refine z_aload_n (pc := 66) dX3_readPhrase_66 rfl rfl ?_
  refine q_getI (pc := 67) (v := rI h 141 8) dX3_readPhrase_67 lk_RX3_29 (lyc rfl) rfl ?_
  refine z_iconst (pc := 70) (v := -1) dX3_readPhrase_70 (by decide) ?_
  refine z_icmp_eq (pc := 71) (tgt := 75) dX3_readPhrase_71 (by decide) (fun k4 => ?_) (fun k4 => ?_)
  · replace F := F.1 k4
    refine z_aload_n (pc := 75) dX3_readPhrase_75 rfl rfl ?_
    refine q_invV (pc := 76) (As := []) (st := []) dX3_readPhrase_76 ok_X3_advance ml_RX3_39 iv_X3_advance pa_X3_advance ⟨Nat.le_of_ble_eq_true rfl, Nat.le_of_ble_eq_true rfl⟩ (lyc rfl) (q_kV F (fun h1 F => ?_))
    obtain ⟨G1, F⟩ := F
    refine z_aload_n (pc := 79) dX3_readPhrase_79 rfl rfl ?_
    refine q_getI (pc := 80) (v := rI h1 141 3) dX3_readPhrase_80 lk_RX3_42 (lyc rfl) rfl ?_
    refine z_iconst (pc := 83) (v := 1) dX3_readPhrase_83 (by decide) ?_
    refine z_icmp_ne (pc := 84) (tgt := 94) dX3_readPhrase_84 (by decide) (fun k3 => ?_) (fun k3 => ?_)
    · replace F := F.1 k3
      refine z_iconst (pc := 94) (v := -1) dX3_readPhrase_94 (by decide) ?_
      exact F
    · replace F := F.2 k3
      refine z_aload_n (pc := 87) dX3_readPhrase_87 rfl rfl ?_
      refine q_invV (pc := 88) (As := []) (st := []) dX3_readPhrase_88 ok_X3_sortOfWord ml_RX3_60 iv_X3_sortOfWord pa_X3_sortOfWord ⟨Nat.le_of_ble_eq_true rfl, Nat.le_of_ble_eq_true rfl⟩ (lyc rfl) (q_kI F (fun vh2 h2 F => ?_))
      obtain ⟨G2, F⟩ := F
      refine z_goto (pc := 91) (tgt := 95) dX3_readPhrase_91 (by decide) ?_
      exact F
  · replace F := F.2 k4
    exact q_retV (pc := 74) dX3_readPhrase_74 rfl F
theorem g_X3_readPhrase_95 {x1 : Int32} {x2 : Int32} {x3 : Int32} {xs0 : Int32} {h : zHp} {Q : zHp → Prop}  (G : zG h) (F : (¬ xs0 = -1 → (zcI M_X3_readFirst [.ref 141, .int xs0] h (fun vh1 h1 => zG h1 ∧ ((¬ rI h1 141 8 = -1 → (zlV M_X3_readPhrase 148 [some (.ref 141), some (.int x1), some (.int x2), some (.int x3), some (.int xs0), some (.int vh1), none] [.int 0] h1 Q)) ∧ (rI h1 141 8 = -1 → ((xs0 = 3 → (zcI M_X3_readValue [.ref 141] h1 (fun vh2 h2 => zG h2 ∧ (zlV M_X3_readPhrase 148 [some (.ref 141), some (.int x1), some (.int x2), some (.int x3), some (.int xs0), some (.int vh1), none] [.int vh2] h2 Q)))) ∧ (¬ (xs0 = 3) → ((¬ xs0 = 4 → (zlV M_X3_readPhrase 148 [some (.ref 141), some (.int x1), some (.int x2), some (.int x3), some (.int xs0), some (.int vh1), none] [.int 0] h1 Q)) ∧ (xs0 = 4 → (zcI M_X3_readValue [.ref 141] h1 (fun vh3 h3 => zG h3 ∧ (zlV M_X3_readPhrase 148 [some (.ref 141), some (.int x1), some (.int x2), some (.int x3), some (.int xs0), some (.int vh1), none] [.int vh3] h3 Q)))))))))))) ∧ (xs0 = -1 → (Q (wI h 141 8 (rI h 141 4))))) : zlV M_X3_readPhrase 95 [some (.ref 141), some (.int x1), some (.int x2), some (.int x3), none, none, none] [.int xs0] h Q := by
  refine z_istore (pc := 95) (ls' := [some (.ref 141), some (.int x1), some (.int x2), some (.int x3), some (.int xs0), none, none]) dX3_readPhrase_95 (by decide) rfl ?_
  refine z_iload (pc := 97) dX3_readPhrase_97 rfl ?_
  refine z_iconst (pc := 99) (v := -1) dX3_readPhrase_99 (by decide) ?_
  refine z_icmp_ne (pc := 100) (tgt := 112) dX3_readPhrase_100 (by decide) (fun k7 => ?_) (fun k7 => ?_)
  · replace F := F.1 k7
    refine z_aload_n (pc := 112) dX3_readPhrase_112 rfl rfl ?_
    refine z_iload (pc := 113) dX3_readPhrase_113 rfl ?_
    refine q_invV (pc := 115) (As := [.int xs0]) (st := []) dX3_readPhrase_115 ok_X3_readFirst ml_RX3_63 iv_X3_readFirst pa_X3_readFirst ⟨Nat.le_of_ble_eq_true rfl, Nat.le_of_ble_eq_true rfl⟩ (lyc rfl) (q_kI F (fun vh1 h1 F => ?_))
    obtain ⟨G1, F⟩ := F
    refine z_istore (pc := 118) (ls' := [some (.ref 141), some (.int x1), some (.int x2), some (.int x3), some (.int xs0), some (.int vh1), none]) dX3_readPhrase_118 (by decide) rfl ?_
    refine z_aload_n (pc := 120) dX3_readPhrase_120 rfl rfl ?_
    refine q_getI (pc := 121) (v := rI h1 141 8) dX3_readPhrase_121 lk_RX3_29 (lyc rfl) rfl ?_
    refine z_iconst (pc := 124) (v := -1) dX3_readPhrase_124 (by decide) ?_
    refine z_icmp_ne (pc := 125) (tgt := 147) dX3_readPhrase_125 (by decide) (fun k6 => ?_) (fun k6 => ?_)
    · replace F := F.1 k6
      refine z_iconst (pc := 147) (v := 0) dX3_readPhrase_147 (by decide) ?_
      exact F
    · replace F := F.2 k6
      refine z_iload (pc := 128) dX3_readPhrase_128 rfl ?_
      refine z_iconst (pc := 130) (v := 3) dX3_readPhrase_130 (by decide) ?_
      refine z_icmp_eq (pc := 131) (tgt := 140) dX3_readPhrase_131 (by decide) (fun k5 => ?_) (fun k5 => ?_)
      · replace F := F.1 k5
        refine z_aload_n (pc := 140) dX3_readPhrase_140 rfl rfl ?_
        refine q_invV (pc := 141) (As := []) (st := []) dX3_readPhrase_141 ok_X3_readValue ml_RX3_66 iv_X3_readValue pa_X3_readValue ⟨Nat.le_of_ble_eq_true rfl, Nat.le_of_ble_eq_true rfl⟩ (lyc rfl) (q_kI F (fun vh2 h2 F => ?_))
        obtain ⟨G2, F⟩ := F
        refine z_goto (pc := 144) (tgt := 148) dX3_readPhrase_144 (by decide) ?_
        exact F
      · replace F := F.2 k5
        refine z_iload (pc := 134) dX3_readPhrase_134 rfl ?_
        refine z_iconst (pc := 136) (v := 4) dX3_readPhrase_136 (by decide) ?_
        refine z_icmp_ne (pc := 137) (tgt := 147) dX3_readPhrase_137 (by decide) (fun k4 => ?_) (fun k4 => ?_)
        · replace F := F.1 k4
          refine z_iconst (pc := 147) (v := 0) dX3_readPhrase_147 (by decide) ?_
          exact F
        · replace F := F.2 k4
          refine z_aload_n (pc := 140) dX3_readPhrase_140 rfl rfl ?_
          refine q_invV (pc := 141) (As := []) (st := []) dX3_readPhrase_141 ok_X3_readValue ml_RX3_66 iv_X3_readValue pa_X3_readValue ⟨Nat.le_of_ble_eq_true rfl, Nat.le_of_ble_eq_true rfl⟩ (lyc rfl) (q_kI F (fun vh3 h3 F => ?_))
          obtain ⟨G3, F⟩ := F
          refine z_goto (pc := 144) (tgt := 148) dX3_readPhrase_144 (by decide) ?_
          exact F
  · replace F := F.2 k7
    refine z_aload_n (pc := 103) dX3_readPhrase_103 rfl rfl ?_
    refine z_aload_n (pc := 104) dX3_readPhrase_104 rfl rfl ?_
    refine q_getI (pc := 105) (v := rI h 141 4) dX3_readPhrase_105 lk_RX3_45 (lyc rfl) rfl ?_
    refine q_putI (pc := 108) dX3_readPhrase_108 lk_RX3_29 (lyc rfl) ?_
    exact q_retV (pc := 111) dX3_readPhrase_111 rfl F
theorem g_X3_readPhrase_148 {x1 : Int32} {x2 : Int32} {x3 : Int32} {x4 : Int32} {x5 : Int32} {xs0 : Int32} {h : zHp} {Q : zHp → Prop}  (G : zG h) (F : (¬ rI h 141 8 = -1 → (Q h)) ∧ (rI h 141 8 = -1 → (vp_in (rI h 141 7) 10 ∧ (Q (wI (wI (wI (wI (wI (wI (wI (wI h (144 + (Int32.toNatClampNeg (rI h 141 7))) 0 (-1)) (144 + (Int32.toNatClampNeg (rI h 141 7))) 1 x4) (144 + (Int32.toNatClampNeg (rI h 141 7))) 2 x2) (144 + (Int32.toNatClampNeg (rI h 141 7))) 3 x3) (144 + (Int32.toNatClampNeg (rI h 141 7))) 4 x5) (144 + (Int32.toNatClampNeg (rI h 141 7))) 5 xs0) (144 + (Int32.toNatClampNeg (rI h 141 7))) 6 0) 141 7 ((rI h 141 7) + 1)))))) : zlV M_X3_readPhrase 148 [some (.ref 141), some (.int x1), some (.int x2), some (.int x3), some (.int x4), some (.int x5), none] [.int xs0] h Q := by
  refine z_istore (pc := 148) (ls' := [some (.ref 141), some (.int x1), some (.int x2), some (.int x3), some (.int x4), some (.int x5), some (.int xs0)]) dX3_readPhrase_148 (by decide) rfl ?_
  refine z_aload_n (pc := 150) dX3_readPhrase_150 rfl rfl ?_
  refine q_getI (pc := 151) (v := rI h 141 8) dX3_readPhrase_151 lk_RX3_29 (lyc rfl) rfl ?_
  refine z_iconst (pc := 154) (v := -1) dX3_readPhrase_154 (by decide) ?_
  refine z_icmp_ne (pc := 155) (tgt := 188) dX3_readPhrase_155 (by decide) (fun k2 => ?_) (fun k2 => ?_)
  · replace F := F.1 k2
    exact q_retV (pc := 188) dX3_readPhrase_188 rfl F
  · replace F := F.2 k2
    refine z_aload_n (pc := 158) dX3_readPhrase_158 rfl rfl ?_
    refine q_getR (pc := 159) (i := 143) dX3_readPhrase_159 lk_RX3_17 (lyc rfl) (G 141 6 143 rfl) ?_
    refine z_aload_n (pc := 162) dX3_readPhrase_162 rfl rfl ?_
    refine q_getI (pc := 163) (v := rI h 141 7) dX3_readPhrase_163 lk_RX3_32 (lyc rfl) rfl ?_
    obtain ⟨k1, F⟩ := F
    refine q_aald (pc := 166) (j := (Int32.toNatClampNeg (rI h 141 7))) (r := 144 + (Int32.toNatClampNeg (rI h 141 7))) (t := 1) dX3_readPhrase_166 (lyc rfl) (zvn (lnc rfl) k1) rfl (grP G (zvi k1)) ?_
    refine z_iload (pc := 167) dX3_readPhrase_167 rfl ?_
    refine z_iload_n (pc := 169) dX3_readPhrase_169 rfl rfl ?_
    refine z_iload_n (pc := 170) dX3_readPhrase_170 rfl rfl ?_
    refine z_iload (pc := 171) dX3_readPhrase_171 rfl ?_
    refine z_iload (pc := 173) dX3_readPhrase_173 rfl ?_
    refine q_invV (pc := 175) (As := [.int x4, .int x2, .int x3, .int x5, .int xs0]) (st := []) dX3_readPhrase_175 ok_X1_become ml_RX3_69 iv_X1_become pa_X1_become ⟨Nat.le_of_ble_eq_true rfl, Nat.le_of_ble_eq_true rfl⟩ (lyP (zvi k1)) (q_pV (s_X1_become G (lyP (zvi k1))) ?_)
    refine z_aload_n (pc := 178) dX3_readPhrase_178 rfl rfl ?_
    refine z_dup (pc := 179) dX3_readPhrase_179 rfl ?_
    refine q_getI (pc := 180) (v := rI h 141 7) dX3_readPhrase_180 lk_RX3_32 (lyc rfl) (((((((rI_k (by decide)).trans (rI_k (by decide))).trans (rI_k (by decide))).trans (rI_k (by decide))).trans (rI_k (by decide))).trans (rI_k (by decide))).trans (rI_k (by decide))) ?_
    refine z_iconst (pc := 183) (v := 1) dX3_readPhrase_183 (by decide) ?_
    refine z_iadd (pc := 184) dX3_readPhrase_184 ?_
    refine q_putI (pc := 185) dX3_readPhrase_185 lk_RX3_32 (lyc rfl) ?_
    exact q_retV (pc := 188) dX3_readPhrase_188 rfl F
theorem g_X3_readAll {x1 : Int32} {h : zHp} {Q : zHp → Prop}  (G : zG h) (F : zlV M_X3_readAll 17 [some (.ref 141), some (.int x1), some (.int 0)] [] (wI (wI (wI h 141 2 0) 141 8 (-1)) 141 7 0) Q) : zcV M_X3_readAll [.ref 141, .int x1] h Q := by
  show zw zNT zNT M_X3_readAll 0 [some (.ref 141), some (.int x1), none] [] h _
  refine z_aload_n (pc := 0) dX3_readAll_0 rfl rfl ?_
  refine z_iconst (pc := 1) (v := 0) dX3_readAll_1 (by decide) ?_
  refine q_putI (pc := 2) dX3_readAll_2 lk_RX3_26 (lyc rfl) ?_
  refine z_aload_n (pc := 5) dX3_readAll_5 rfl rfl ?_
  refine z_iconst (pc := 6) (v := -1) dX3_readAll_6 (by decide) ?_
  refine q_putI (pc := 7) dX3_readAll_7 lk_RX3_29 (lyc rfl) ?_
  refine z_aload_n (pc := 10) dX3_readAll_10 rfl rfl ?_
  refine z_iconst (pc := 11) (v := 0) dX3_readAll_11 (by decide) ?_
  refine q_putI (pc := 12) dX3_readAll_12 lk_RX3_32 (lyc rfl) ?_
  refine z_iconst (pc := 15) (v := 0) dX3_readAll_15 (by decide) ?_
  refine z_istore_n (pc := 16) (ls' := [some (.ref 141), some (.int x1), some (.int 0)]) dX3_readAll_16 rfl (by decide) rfl ?_
  exact F
theorem g_X3_readAll_17 {x1 : Int32} {x2 : Int32} {h : zHp} {Q : zHp → Prop}  (G : zG h) (F : (10 < x2 → (Q h)) ∧ (¬ (10 < x2) → ((x1 ≤ x2 → (zlV M_X3_readAll 34 [some (.ref 141), some (.int x1), some (.int x2)] [.int 0, .ref 141] h Q)) ∧ (¬ (x1 ≤ x2) → (zlV M_X3_readAll 34 [some (.ref 141), some (.int x1), some (.int x2)] [.int 1, .ref 141] h Q))))) : zlV M_X3_readAll 17 [some (.ref 141), some (.int x1), some (.int x2)] [] h Q := by
  refine z_iload_n (pc := 17) dX3_readAll_17 rfl rfl ?_
  refine z_bipush (pc := 18) (v := 10) dX3_readAll_18 (by decide) ?_
  refine z_icmp_gt (pc := 20) (tgt := 81) dX3_readAll_20 (by decide) (fun k2 => ?_) (fun k2 => ?_)
  · replace F := F.1 k2
    exact q_retV (pc := 81) dX3_readAll_81 rfl F
  · replace F := F.2 k2
    refine z_aload_n (pc := 23) dX3_readAll_23 rfl rfl ?_
    refine z_iload_n (pc := 24) dX3_readAll_24 rfl rfl ?_
    refine z_iload_n (pc := 25) dX3_readAll_25 rfl rfl ?_
    refine z_icmp_ge (pc := 26) (tgt := 33) dX3_readAll_26 (by decide) (fun k1 => ?_) (fun k1 => ?_)
    · replace F := F.1 k1
      refine z_iconst (pc := 33) (v := 0) dX3_readAll_33 (by decide) ?_
      exact F
    · replace F := F.2 k1
      refine z_iconst (pc := 29) (v := 1) dX3_readAll_29 (by decide) ?_
      refine z_goto (pc := 30) (tgt := 34) dX3_readAll_30 (by decide) ?_
      exact F
theorem g_X3_readAll_34 {x1 : Int32} {x2 : Int32} {xs1 : Int32} {h : zHp} {Q : zHp → Prop}  (G : zG h) (F : zcV M_X3_readPhrase [.ref 141, .int xs1] h (fun h1 => zG h1 ∧ ((rI h1 141 8 = -1 → (zcV M_X3_advance [.ref 141] h1 (fun h2 => zG h2 ∧ ((¬ rI h2 141 3 = 0 → ((rI h2 141 3 = 3 → (zlV M_X3_readAll 17 [some (.ref 141), some (.int x1), some (.int (x2 + 1))] [] h2 Q)) ∧ (¬ (rI h2 141 3 = 3) → (Q (wI h2 141 8 (rI h2 141 4)))))) ∧ (rI h2 141 3 = 0 → (Q h2)))))) ∧ (¬ (rI h1 141 8 = -1) → (Q h1))))) : zlV M_X3_readAll 34 [some (.ref 141), some (.int x1), some (.int x2)] [.int xs1, .ref 141] h Q := by
  refine q_invV (pc := 34) (As := [.int xs1]) (st := []) dX3_readAll_34 ok_X3_readPhrase ml_RX3_35 iv_X3_readPhrase pa_X3_readPhrase ⟨Nat.le_of_ble_eq_true rfl, Nat.le_of_ble_eq_true rfl⟩ (lyc rfl) (q_kV F (fun h1 F => ?_))
  obtain ⟨G1, F⟩ := F
  refine z_aload_n (pc := 37) dX3_readAll_37 rfl rfl ?_
  refine q_getI (pc := 38) (v := rI h1 141 8) dX3_readAll_38 lk_RX3_29 (lyc rfl) rfl ?_
  refine z_iconst (pc := 41) (v := -1) dX3_readAll_41 (by decide) ?_
  refine z_icmp_eq (pc := 42) (tgt := 46) dX3_readAll_42 (by decide) (fun k5 => ?_) (fun k5 => ?_)
  · replace F := F.1 k5
    refine z_aload_n (pc := 46) dX3_readAll_46 rfl rfl ?_
    refine q_invV (pc := 47) (As := []) (st := []) dX3_readAll_47 ok_X3_advance ml_RX3_39 iv_X3_advance pa_X3_advance ⟨Nat.le_of_ble_eq_true rfl, Nat.le_of_ble_eq_true rfl⟩ (lyc rfl) (q_kV F (fun h2 F => ?_))
    obtain ⟨G2, F⟩ := F
    refine z_aload_n (pc := 50) dX3_readAll_50 rfl rfl ?_
    refine q_getI (pc := 51) (v := rI h2 141 3) dX3_readAll_51 lk_RX3_42 (lyc rfl) rfl ?_
    refine z_if_ne (pc := 54) (tgt := 58) dX3_readAll_54 (by decide) (fun k4 => ?_) (fun k4 => ?_)
    · replace F := F.1 k4
      refine z_aload_n (pc := 58) dX3_readAll_58 rfl rfl ?_
      refine q_getI (pc := 59) (v := rI h2 141 3) dX3_readAll_59 lk_RX3_42 (lyc rfl) rfl ?_
      refine z_iconst (pc := 62) (v := 3) dX3_readAll_62 (by decide) ?_
      refine z_icmp_eq (pc := 63) (tgt := 75) dX3_readAll_63 (by decide) (fun k3 => ?_) (fun k3 => ?_)
      · replace F := F.1 k3
        refine z_iinc (pc := 75) (v := x2 + 1) (ls' := [some (.ref 141), some (.int x1), some (.int (x2 + 1))]) dX3_readAll_75 (by decide) rfl rfl rfl ?_
        refine z_goto (pc := 78) (tgt := 17) dX3_readAll_78 (by decide) ?_
        exact F
      · replace F := F.2 k3
        refine z_aload_n (pc := 66) dX3_readAll_66 rfl rfl ?_
        refine z_aload_n (pc := 67) dX3_readAll_67 rfl rfl ?_
        refine q_getI (pc := 68) (v := rI h2 141 4) dX3_readAll_68 lk_RX3_45 (lyc rfl) rfl ?_
        refine q_putI (pc := 71) dX3_readAll_71 lk_RX3_29 (lyc rfl) ?_
        exact q_retV (pc := 74) dX3_readAll_74 rfl F
    · replace F := F.2 k4
      exact q_retV (pc := 57) dX3_readAll_57 rfl F
  · replace F := F.2 k5
    exact q_retV (pc := 45) dX3_readAll_45 rfl F
theorem kd_5 (c : Int32) : kd c ≤ 5 := by
  unfold kd
  split
  · omega
  · split
    · omega
    · split
      · omega
      · split <;> omega
theorem Tk_5 {T : zN} {L p : Nat} : (Tk T L p).2.1 ≤ 5 := by
  have := kd_5 (T (sk T L p))
  unfold Tk
  split
  · split
    · show 1 ≤ 5; omega
    · split
      · show 2 ≤ 5; omega
      · exact this
  · show 0 ≤ 5; omega
def fT8 (h h' : zHp) : Prop := h'.2 = h.2 ∧ (∀ a, a ≠ 141 → h'.1 a = h.1 a) ∧ ∀ k, (k < 2 ∨ k = 6 ∨ k = 7 ∨ 8 < k) → h'.1 141 k = h.1 141 k
theorem fT3.e {h h' : zHp} (f : fT3 h h') : fT8 h h' := ⟨f.1, f.2.1, fun k hk => f.2.2 k (by omega)⟩
theorem fT8.tr {h h' h2 : zHp} (a : fT8 h h') (b : fT8 h' h2) : fT8 h h2 := ⟨b.1.trans a.1, fun z z1 => (b.2.1 z z1).trans (a.2.1 z z1), fun k hk => (b.2.2 k hk).trans (a.2.2 k hk)⟩
theorem fT8.w {h : zHp} {v : Int32} : fT8 h (wI h 141 8 v) := ⟨rfl, fun a ha => wI_ne ha, fun q hq => by show rI _ 141 q = rI h 141 q; rw [rI_k (by omega)]⟩
/-- what reading a number or a value leaves -/
def RP (h h' : zHp) (x : Nat ⊕ (Int32 × Nat)) (r : Int32) : Prop := (∀ f, x = .inl f → fT8 h h' ∧ rI h' 141 8 = nI f) ∧ (∀ w q, x = .inr (w, q) → fT3 h h' ∧ r = w ∧ rI h' 141 2 = nI q)
theorem s_numberHere {t : Nat × Nat × Nat × Nat} {most : Nat} {h : zHp} (G : zG h) (tc : TC h t) (k5 : t.2.1 ≤ 5) (hm : most ≤ 9) : zcI M_X3_numberHere [.ref 141, .int (nI most)] h (fun r h' => (¬ (t.2.1 = 2 ∧ t.2.2.2 ≤ most) → h' = wI h 141 8 (nI t.1)) ∧ ((t.2.1 = 2 ∧ t.2.2.2 ≤ most) → h' = h ∧ r = nI t.2.2.2)) := by
  refine g_X3_numberHere G ?_
  rw [tc.2.1, tc.2.2.1, tc.2.2.2]
  refine ⟨fun z => ⟨fun _ => rfl, fun y => absurd (by rw [y.1]; rfl) z⟩, fun z => ?_⟩
  have k2 : t.2.1 = 2 := (nI_eq (b := 2) (by omega) (by omega)).mp z
  refine ⟨fun y => ⟨fun _ => rfl, fun x => absurd y (nI_nlt (by omega) (by omega))⟩, fun y => ?_⟩
  have l : min 10 t.2.2.2 ≤ most := Nat.le_of_not_lt (fun x => y (nI_lt x (by omega)))
  exact ⟨fun x => absurd ⟨k2, by omega⟩ x, fun _ => ⟨rfl, by rw [show min 10 t.2.2.2 = t.2.2.2 by omega]⟩⟩
theorem num_RP {T : zN} {L p most : Nat} {h h1 : zHp} (G : zG h) (f1 : fT3 h h1) (tc : TC h1 (Tk T L p)) (hm : most ≤ 9) : zcI M_X3_numberHere [.ref 141, .int (nI most)] h1 (fun r h' => zG h' ∧ RP h h' (pN T L most p) r) := by
  refine zcI_then (s_numberHere (zG_of f1.1 G) tc Tk_5 hm) (fun r h2 hh => ?_)
  by_cases z : (Tk T L p).2.1 = 2 ∧ (Tk T L p).2.2.2 ≤ most
  · obtain ⟨rfl, e⟩ := hh.2 z
    have ep : pN T L most p = .inr (nI (Tk T L p).2.2.2, (Tk T L p).2.2.1) := by unfold pN; rw [if_pos z]
    rw [ep]
    exact ⟨zG_of f1.1 G, fun f e' => (by cases e'), fun w q e' => by cases e'; exact ⟨f1, e, tc.1⟩⟩
  · have e := hh.1 z
    subst e
    have ep : pN T L most p = .inl (Tk T L p).1 := by unfold pN; rw [if_neg z]
    rw [ep]
    exact ⟨zG_of f1.1 G, fun f e' => (by cases e'; exact ⟨f1.e.tr fT8.w, rI_s⟩), fun w q e' => by cases e'⟩
theorem s_X3_readNumber {T : zN} {L p most : Nat} {h : zHp} (G : zG h) (tp : TpC h T L) (hp : p ≤ L) (e : rI h 141 2 = nI p) (hm : most ≤ 9) : zcI M_X3_readNumber [.ref 141, .int (nI most)] h (fun r h' => RP h h' (pN T L most p) r) :=
  g_X3_readNumber G (zcV_then (s_X3_advance G tp hp e) (fun h1 hh => ⟨zG_of hh.1.1 G, num_RP G hh.1 hh.2 hm⟩))
theorem s_X3_readValue {T : zN} {L p : Nat} {h : zHp} (G : zG h) (tp : TpC h T L) (hp : p ≤ L) (e : rI h 141 2 = nI p) : zcI M_X3_readValue [.ref 141] h (fun r h' => RP h h' (pV T L p) r) := by
  refine g_X3_readValue G (zcV_then (s_X3_advance G tp hp e) (fun h1 hh => ⟨zG_of hh.1.1 G, ?_⟩))
  obtain ⟨f1, tc⟩ := hh
  have G1 := zG_of f1.1 G
  have k5 := Tk_5 (T := T) (L := L) (p := p)
  rw [tc.2.1]
  unfold pV
  refine ⟨fun z => ?_, fun z => ?_⟩
  · have k4 := (nI_eq (b := 4) (by omega) (by omega)).mp z
    rw [if_pos k4]
    refine zcV_then (s_X3_advance G1 (f1.t tp) (Tk_b hp).2.1 tc.1) (fun h2 hh => ⟨zG_of hh.1.1 G1, ?_⟩)
    refine zcI_then (num_RP (most := 9) G (f1.tr hh.1) hh.2 (by omega)) (fun r h3 hh => ⟨hh.1, ?_⟩)
    obtain ⟨-, a, b⟩ := hh
    cases ex : pN T L 9 (Tk T L p).2.2.1 with
    | inl f => exact ⟨fun f' e' => by cases e'; exact a f ex, fun w q e' => by cases e'⟩
    | inr y =>
      obtain ⟨w, q⟩ := y
      obtain ⟨c1, c2, c3⟩ := b w q ex
      exact ⟨fun f' e' => (by cases e'), fun w' q' e' => by cases e'; exact ⟨c1, by rw [c2], c3⟩⟩
  · have k4 : ¬ (Tk T L p).2.1 = 4 := fun y => z (by rw [y]; rfl)
    rw [if_neg k4]
    exact num_RP (most := 9) G f1 tc (by omega)
theorem s_X3_readFirst {T : zN} {L p : Nat} {so : Int32} {h : zHp} (G : zG h) (tp : TpC h T L) (hp : p ≤ L) (e : rI h 141 2 = nI p) : zcI M_X3_readFirst [.ref 141, .int so] h (fun r h' => RP h h' (pF T L so p) r) := by
  unfold pF
  refine g_X3_readFirst G ⟨fun z => ⟨fun y => ?_, fun y => ?_⟩, fun z => ?_⟩
  · rw [if_neg z, if_neg (Int32.not_le.mpr y)]
    exact zcI_then (s_X3_readValue G tp hp e) (fun r h1 hh => ⟨by
      cases ex : pV T L p with
      | inl f => exact zG_of (hh.1 f ex).1.1 G
      | inr y => exact zG_of (hh.2 y.1 y.2 ex).1.1 G, hh⟩)
  · rw [if_neg z, if_pos (Int32.not_lt.mp y)]
    exact zcI_then (s_X3_readNumber (most := 5) G tp hp e (by omega)) (fun r h1 hh => ⟨by
      cases ex : pN T L 5 p with
      | inl f => exact zG_of (hh.1 f ex).1.1 G
      | inr y => exact zG_of (hh.2 y.1 y.2 ex).1.1 G, hh⟩)
  · rw [if_pos z]
    exact ⟨fun f e' => (by cases e'), fun w q e' => by cases e'; exact ⟨fT3.rf, rfl, e⟩⟩
def PhC (h : zHp) (c : Nat) (ph : Ph) : Prop := rI h c 0 = -1 ∧ rI h c 1 = ph.1 ∧ rI h c 2 = ph.2.1 ∧ rI h c 3 = ph.2.2.1 ∧ rI h c 4 = ph.2.2.2.1 ∧ rI h c 5 = ph.2.2.2.2 ∧ rI h c 6 = 0
def fPh (c : Nat) (h h' : zHp) : Prop := h'.2 = h.2 ∧ (∀ a, a ≠ 141 → a ≠ 144 + c → h'.1 a = h.1 a) ∧ ∀ k, k < 2 → h'.1 141 k = h.1 141 k
theorem fT8.p {c : Nat} {h h' : zHp} (f : fT8 h h') : fPh c h h' := ⟨f.1, fun a h1 _ => f.2.1 a h1, fun k hk => f.2.2 k (by omega)⟩
def RPP (h h' : zHp) (c : Nat) (x : Nat ⊕ (Ph × Nat)) : Prop := (∀ f, x = .inl f → fT8 h h' ∧ rI h' 141 8 = nI f) ∧ (∀ ph q, x = .inr (ph, q) → fPh c h h' ∧ rI h' 141 2 = nI q ∧ rI h' 141 7 = nI (c + 1) ∧ rI h' 141 8 = -1 ∧ PhC h' (144 + c) ph)
theorem fT3_8 {h h' : zHp} (f : fT3 h h') : rI h' 141 8 = rI h 141 8 ∧ rI h' 141 7 = rI h 141 7 := ⟨f.2.2 8 (by omega), f.2.2 7 (by omega)⟩
theorem RPP_l {h h' : zHp} {c f : Nat} (a : fT8 h h') (e : rI h' 141 8 = nI f) : RPP h h' c (.inl f) := ⟨fun f' e' => by cases e'; exact ⟨a, e⟩, fun _ _ e' => by cases e'⟩
theorem mx_all : ∀ k, 1 ≤ k → k < 6 → zMX k = nI (mxk k) ∧ mxk k ≤ 9 := by
  intro k h1 h2
  rcases (by omega : k = 1 ∨ k = 2 ∨ k = 3 ∨ k = 4 ∨ k = 5) with z | z | z | z | z <;> subst z <;> exact ⟨rfl, by decide⟩
theorem s_X3_readPhrase {T : zN} {L p c : Nat} {x : Int32} {room : Bool} {h : zHp} (G : zG h) (tp : TpC h T L) (hp : p ≤ L) (e : rI h 141 2 = nI p) (e7 : rI h 141 7 = nI c) (e8 : rI h 141 8 = -1) (hr : room = true ↔ ¬ x = 0) (hc : room = true → c < 10) (hc2 : c ≤ 10) : zcV M_X3_readPhrase [.ref 141, .int x] h (fun h' => RPP h h' c (PH T L room p)) := by
  have l120 := tp.1
  -- the phrase is laid
  have put : ∀ (how so xv v u : Int32) (q : Nat) (h1 : zHp), c < 10 → fT3 h h1 → rI h1 141 2 = nI q → zlV M_X3_readPhrase 148 [some (.ref 141), some (.int x), some (.int how), some (.int xv), some (.int so), some (.int v), none] [.int u] h1 (fun h' => RPP h h' c (.inr ((so, how, xv, v, u), q))) := by
    intro how so xv v u q h1 c10 f1 e1
    have g8 := fT3_8 f1
    refine g_X3_readPhrase_148 (zG_of f1.1 G) ⟨fun z => absurd (by rw [g8.1]; exact e8) z, fun _ => ?_⟩
    rw [g8.2, e7, nI_clamp (by omega), nI_1]
    refine ⟨vp_in_nI (by omega) (by omega), fun f e' => (by cases e'), fun ph q' e' => ?_⟩
    cases e'
    have ne : 141 ≠ 144 + c := by omega
    refine ⟨⟨f1.1, fun a z1 z2 => ?_, fun k hk => ?_⟩, ?_, rI_s, ?_, ?_, ?_, ?_, ?_, ?_, ?_, ?_⟩
    · rw [wI_ne z1, wI_ne z2, wI_ne z2, wI_ne z2, wI_ne z2, wI_ne z2, wI_ne z2, wI_ne z2]
      exact f1.2.1 a z1
    · show rI _ 141 k = rI h 141 k
      rw [rI_k (by omega), rI_c ne, rI_c ne, rI_c ne, rI_c ne, rI_c ne, rI_c ne, rI_c ne]
      exact f1.2.2 k (by omega)
    · rw [rI_k (by decide), rI_c ne, rI_c ne, rI_c ne, rI_c ne, rI_c ne, rI_c ne, rI_c ne]; exact e1
    · rw [rI_k (by decide), rI_c ne, rI_c ne, rI_c ne, rI_c ne, rI_c ne, rI_c ne, rI_c ne, g8.1]; exact e8
    · rw [rI_c (Ne.symm ne), rI_k (by decide), rI_k (by decide), rI_k (by decide), rI_k (by decide), rI_k (by decide), rI_k (by decide), rI_s]
    · rw [rI_c (Ne.symm ne), rI_k (by decide), rI_k (by decide), rI_k (by decide), rI_k (by decide), rI_k (by decide), rI_s]
    · rw [rI_c (Ne.symm ne), rI_k (by decide), rI_k (by decide), rI_k (by decide), rI_k (by decide), rI_s]
    · rw [rI_c (Ne.symm ne), rI_k (by decide), rI_k (by decide), rI_k (by decide), rI_s]
    · rw [rI_c (Ne.symm ne), rI_k (by decide), rI_k (by decide), rI_s]
    · rw [rI_c (Ne.symm ne), rI_k (by decide), rI_s]
    · rw [rI_c (Ne.symm ne), rI_s]
  -- behind a fault nothing more is read
  have out148 : ∀ (how so xv v u : Int32) (f : Nat) (h1 : zHp), f ≤ L → fT8 h h1 → rI h1 141 8 = nI f → zlV M_X3_readPhrase 148 [some (.ref 141), some (.int x), some (.int how), some (.int xv), some (.int so), some (.int v), none] [.int u] h1 (fun h' => RPP h h' c (.inl f)) := by
    intro how so xv v u f h1 hf f1 e1
    exact g_X3_readPhrase_148 (zG_of f1.1 G) ⟨fun _ => RPP_l f1 e1, fun z => absurd (e1.symm.trans z) (nI_neg1 (by omega))⟩
  -- behind the scope
  have body : ∀ (how xv : Int32) (p1 : Nat) (h1 : zHp), c < 10 → fT3 h h1 → rI h1 141 2 = nI p1 → p1 ≤ L → zlV M_X3_readPhrase 65 [some (.ref 141), some (.int x), some (.int how), none, none, none, none] [.int xv] h1 (fun h' => RPP h h' c (pB T L how (xv, p1))) := by
    intro how xv p1 h1 c10 f1 e1 hp1
    have G1 := zG_of f1.1 G
    refine g_X3_readPhrase_65 G1 ⟨fun _ => ?_, fun z => absurd (by rw [(fT3_8 f1).1]; exact e8) z⟩
    refine zcV_then (s_X3_advance G1 (f1.t tp) hp1 e1) (fun h2 hh => ⟨zG_of hh.1.1 G1, ?_⟩)
    obtain ⟨f2, tc⟩ := hh
    have f12 := f1.tr f2
    have G2 := zG_of f12.1 G
    have tp2 := f12.t tp
    have k5 := Tk_5 (T := T) (L := L) (p := p1)
    have tb := Tk_b (T := T) hp1
    have ts := Tk_se (T := T) hp1
    have l95 : ∀ so, so = hw T (Tk T L p1) 6 → zlV M_X3_readPhrase 95 [some (.ref 141), some (.int x), some (.int how), some (.int xv), none, none, none] [.int so] h2 (fun h' => RPP h h' c (pB T L how (xv, p1))) := by
      intro so hso
      unfold pB
      dsimp only
      rw [← hso]
      refine g_X3_readPhrase_95 G2 ⟨fun z => ?_, fun z => ?_⟩
      · rw [if_neg z]
        refine zcI_then (s_X3_readFirst (so := so) G2 tp2 tb.2.1 tc.1) (fun v h3 hh => ?_)
        cases ex : pF T L so (Tk T L p1).2.2.1 with
        | inl f =>
          obtain ⟨f3, e3⟩ := hh.1 f ex
          have hf : f ≤ L := by
            unfold pF at ex
            by_cases y : so = 5
            · rw [if_pos y] at ex; cases ex
            · rw [if_neg y] at ex
              by_cases y2 : so ≤ 2
              · rw [if_pos y2] at ex; exact (pN_b tb.2.1).1 f ex
              · rw [if_neg y2] at ex; exact (pV_b tb.2.1).1 f ex
          have n1 : ¬ rI h3 141 8 = -1 := by rw [e3]; exact nI_neg1 (by omega)
          exact ⟨zG_of f3.1 G2, fun _ => out148 _ _ _ _ _ f h3 hf (f12.e.tr f3) e3, fun y => absurd y n1⟩
        | inr vq =>
          obtain ⟨w, q⟩ := vq
          obtain ⟨f3, ev, e3⟩ := hh.2 w q ex
          subst ev
          have hq : q ≤ L := by
            unfold pF at ex
            by_cases y : so = 5
            · rw [if_pos y] at ex; cases ex; exact tb.2.1
            · rw [if_neg y] at ex
              by_cases y2 : so ≤ 2
              · rw [if_pos y2] at ex; exact ((pN_b tb.2.1).2 _ _ ex).1
              · rw [if_neg y2] at ex; exact ((pV_b tb.2.1).2 _ _ ex).1
          have f13 := f12.tr f3
          have G3 := zG_of f13.1 G
          have e38 : rI h3 141 8 = -1 := by rw [(fT3_8 f13).1]; exact e8
          -- the second value
          have val : (so = 3 ∨ so = 4) → zcI M_X3_readValue [.ref 141] h3 (fun vh2 h4 => zG h4 ∧ zlV M_X3_readPhrase 148 [some (.ref 141), some (.int x), some (.int how), some (.int xv), some (.int so), some (.int v), none] [.int vh2] h4 (fun h' => RPP h h' c (bd (pU T L so q) (fun uq => .inr ((so, how, xv, v, uq.1), uq.2))))) := by
            intro y
            have eu : pU T L so q = pV T L q := by unfold pU; rw [if_pos y]
            rw [eu]
            refine zcI_then (s_X3_readValue G3 (f13.t tp) hq e3) (fun u h4 hh => ?_)
            cases ex2 : pV T L q with
            | inl f =>
              obtain ⟨f4, e4⟩ := hh.1 f ex2
              exact ⟨zG_of f4.1 G3, out148 _ _ _ _ _ f h4 ((pV_b hq).1 f ex2) (f13.e.tr f4) e4⟩
            | inr uq =>
              obtain ⟨w2, q2⟩ := uq
              obtain ⟨f4, eu2, e4⟩ := hh.2 w2 q2 ex2
              subst eu2
              exact ⟨zG_of f4.1 G3, put _ _ _ _ _ _ h4 c10 (f13.tr f4) e4⟩
          refine ⟨G3, fun y => absurd e38 y, fun _ => ⟨fun y => val (Or.inl y), fun y => ⟨fun y2 => ?_, fun y2 => val (Or.inr y2)⟩⟩⟩
          have eu : pU T L so q = .inr (0, q) := by unfold pU; rw [if_neg (fun w => w.elim y y2)]
          show zlV M_X3_readPhrase 148 [some (.ref 141), some (.int x), some (.int how), some (.int xv), some (.int so), some (.int v), none] [.int 0] h3 (fun h' => RPP h h' c (bd (pU T L so q) (fun uq => .inr ((so, how, xv, v, uq.1), uq.2))))
          rw [eu]
          exact put _ _ _ _ _ _ h3 c10 f13 e3
      · rw [if_pos z, tc.2.2.1]
        exact RPP_l (f12.e.tr fT8.w) rI_s
    rw [tc.2.1]
    refine ⟨fun z => l95 _ ?_, fun z => zcI_use (s_X3_sortOfWord G2 tp2 tc ts tb.2.1) ⟨G2, l95 _ ?_⟩⟩
    · unfold hw; rw [if_neg (fun y => z (by rw [y]; rfl))]
    · unfold hw; rw [if_pos ((nI_eq (b := 1) (by omega) (by omega)).mp z)]
  refine g_X3_readPhrase G (zcV_then (s_X3_advance G tp hp e) (fun h1 hh => ⟨zG_of hh.1.1 G, ?_⟩))
  obtain ⟨f1, tc⟩ := hh
  have G1 := zG_of f1.1 G
  have tp1 := f1.t tp
  have k5 := Tk_5 (T := T) (L := L) (p := p)
  have tb := Tk_b (T := T) hp
  have ts := Tk_se (T := T) hp
  have l20 : ∀ how, how = hw T (Tk T L p) 0 → zlV M_X3_readPhrase 20 [some (.ref 141), some (.int x), none, none, none, none, none] [.int how] h1 (fun h' => RPP h h' c (PH T L room p)) := by
    intro how hh
    have bad : (how = -1 ∨ room = false) → RPP h (wI h1 141 8 (nI (Tk T L p).1)) c (PH T L room p) := by
      intro z
      unfold PH
      rw [← hh, if_pos z]
      exact RPP_l (f1.e.tr fT8.w) rI_s
    refine g_X3_readPhrase_20 G1 ?_
    rw [tc.2.2.1, (fT3_8 f1).2, e7]
    refine ⟨fun z => bad (Or.inl z), fun z => ⟨fun y => bad (Or.inr (by cases room with | false => rfl | true => exact absurd y (hr.mp rfl))), fun y => ?_⟩⟩
    have rt := hr.mpr y
    have c10 := hc rt
    refine ⟨fun _ => ?_, fun w => absurd (nI_lt (b := 10) c10 (by omega)) w⟩
    have eP : PH T L room p = bd (pX T L how (Tk T L p).2.2.1) (pB T L how) := by
      unfold PH
      rw [← hh, if_neg (fun w => w.elim z (fun w => by rw [rt] at w; cases w))]
    rw [eP]
    refine ⟨fun w => ?_, fun w => ?_⟩
    · obtain ⟨k, hk, ek⟩ : ∃ k, k < 6 ∧ how = nI k := by
        rcases hw_in (T := T) (t := Tk T L p) (b := 0) with u | ⟨k, a, b⟩
        · exact absurd (hh.trans u) z
        · exact ⟨k, a, hh.trans b⟩
      have k1 : 1 ≤ k := by
        rcases Nat.eq_zero_or_pos k with u | u
        · exact absurd (by rw [ek, u]; rfl) w
        · exact u
      obtain ⟨m1, m2⟩ := mx_all k k1 hk
      have ex0 : pX T L how (Tk T L p).2.2.1 = pN T L (mxk k) (Tk T L p).2.2.1 := by unfold pX; rw [if_neg w, ek, nI_clamp (by omega)]
      rw [ex0, ek, nI_clamp (by omega), m1]
      refine ⟨vp_in_nI (by omega) (by omega), zcI_then (s_X3_readNumber G1 tp1 tb.2.1 tc.1 m2) (fun xv h2 hh2 => ?_)⟩
      rw [← ek]
      cases ex : pN T L (mxk k) (Tk T L p).2.2.1 with
      | inl f =>
        obtain ⟨f2, e2⟩ := hh2.1 f ex
        have hf := (pN_b (T := T) (L := L) (most := mxk k) tb.2.1).1 f ex
        refine ⟨zG_of f2.1 G1, g_X3_readPhrase_65 (zG_of f2.1 G1) ⟨fun u => absurd (e2.symm.trans u) (nI_neg1 (by omega)), fun _ => RPP_l (f1.e.tr f2) e2⟩⟩
      | inr xq =>
        obtain ⟨w2, q⟩ := xq
        obtain ⟨f2, ev, e2⟩ := hh2.2 w2 q ex
        subst ev
        exact ⟨zG_of f2.1 G1, body how xv q h2 c10 (f1.tr f2) e2 ((pN_b tb.2.1).2 _ _ ex).1⟩
    · have ex0 : pX T L how (Tk T L p).2.2.1 = .inr (0, (Tk T L p).2.2.1) := by unfold pX; rw [if_pos w]
      rw [ex0]
      exact body how 0 _ h1 c10 f1 tc.1 tb.2.1
  rw [tc.2.1]
  refine ⟨fun z => l20 _ ?_, fun z => zcI_use (s_X3_scopeOfWord G1 tp1 tc ts tb.2.1) ⟨G1, l20 _ ?_⟩⟩
  · unfold hw; rw [if_neg (fun y => z (by rw [y]; rfl))]
  · unfold hw; rw [if_pos ((nI_eq (b := 1) (by omega) (by omega)).mp z)]
/-- what reading all leaves -/
def fRA (h h' : zHp) : Prop := h'.2 = h.2 ∧ (∀ a, a ≠ 141 → (a < 144 ∨ 154 ≤ a) → h'.1 a = h.1 a) ∧ ∀ k, k < 2 → h'.1 141 k = h.1 141 k
theorem fRA.tr {h h' h2 : zHp} (a : fRA h h') (b : fRA h' h2) : fRA h h2 := ⟨b.1.trans a.1, fun z z1 z2 => (b.2.1 z z1 z2).trans (a.2.1 z z1 z2), fun k hk => (b.2.2 k hk).trans (a.2.2 k hk)⟩
theorem fPh.ra {c : Nat} {h h' : zHp} (f : fPh c h h') (hc : c ≤ 9) : fRA h h' := ⟨f.1, fun a z1 z2 => f.2.1 a z1 (by omega), f.2.2⟩
theorem fT8.ra {h h' : zHp} (f : fT8 h h') : fRA h h' := ⟨f.1, fun a z1 _ => f.2.1 a z1, fun k hk => f.2.2 k (by omega)⟩
theorem fRA.t {h h' : zHp} {T : zN} {L : Nat} (f : fRA h h') (t : TpC h T L) : TpC h' T L := ⟨t.1, by show h'.1 141 1 = _; rw [f.2.2 1 (by omega)]; exact t.2.1, fun i hi => by
  have : rI h' 142 i = rI h 142 i := by show h'.1 142 i = h.1 142 i; rw [f.2.1 142 (by decide) (by omega)]
  rw [this]; exact t.2.2 i hi⟩
def RA (h h' : zHp) (room : Nat) (x : Nat ⊕ List Ph) : Prop := (∀ f, x = .inl f → fRA h h' ∧ rI h' 141 8 = nI f ∧ f ≤ 120) ∧ (∀ l, x = .inr l → fRA h h' ∧ rI h' 141 8 = -1 ∧ rI h' 141 7 = nI l.length ∧ l.length ≤ room ∧ ∀ k ph, l[k]? = some ph → PhC h' (144 + k) ph)
theorem pB_b {T : zN} {L : Nat} {how : Int32} {xq : Int32 × Nat} (h : xq.2 ≤ L) : (∀ f, pB T L how xq = .inl f → f ≤ L) ∧ ∀ ph q, pB T L how xq = .inr (ph, q) → q ≤ L ∧ ph.2.1 = how ∧ ph.2.2.1 = xq.1 ∧ (∃ k, k < 6 ∧ ph.1 = nI k) ∧ iv (-9) 9 ph.2.2.2.1 ∧ iv (-9) 9 ph.2.2.2.2 := by
  have tb := Tk_b (T := T) h
  unfold pB
  by_cases z : hw T (Tk T L xq.2) 6 = -1
  · rw [if_pos z]
    exact ⟨fun f e => (by cases e; exact tb.1), fun ph q e => by cases e⟩
  · rw [if_neg z]
    have hk : ∃ k, k < 6 ∧ hw T (Tk T L xq.2) 6 = nI k := by
      rcases hw_in (T := T) (t := Tk T L xq.2) (b := 6) with u | u
      · exact absurd u z
      · exact u
    generalize hw T (Tk T L xq.2) 6 = so at *
    have pf : (∀ f, pF T L so (Tk T L xq.2).2.2.1 = .inl f → f ≤ L) ∧ ∀ w q, pF T L so (Tk T L xq.2).2.2.1 = .inr (w, q) → q ≤ L ∧ iv (-9) 9 w := by
      unfold pF
      by_cases y : so = 5
      · rw [if_pos y]
        exact ⟨fun f e => (by cases e), fun w q e => by cases e; exact ⟨tb.2.1, by decide, by decide⟩⟩
      · rw [if_neg y]
        by_cases y2 : so ≤ 2
        · rw [if_pos y2]
          have b := pN_b (T := T) (most := 5) tb.2.1
          refine ⟨b.1, fun w q e => ?_⟩
          obtain ⟨c1, k, c2, rfl⟩ := b.2 w q e
          exact ⟨c1, nI_iv (by omega) (by omega) (by omega)⟩
        · rw [if_neg y2]; exact pV_b tb.2.1
    cases ex : pF T L so (Tk T L xq.2).2.2.1 with
    | inl f => exact ⟨fun f' e => (by cases e; exact pf.1 f ex), fun ph q e => by cases e⟩
    | inr vq =>
      obtain ⟨v, q⟩ := vq
      obtain ⟨hq, hv⟩ := pf.2 v q ex
      show (∀ f, bd (pU T L so q) (fun uq => .inr ((so, how, xq.1, v, uq.1), uq.2)) = .inl f → f ≤ L) ∧ ∀ ph q', bd (pU T L so q) (fun uq => .inr ((so, how, xq.1, v, uq.1), uq.2)) = .inr (ph, q') → _
      have pu : (∀ f, pU T L so q = .inl f → f ≤ L) ∧ ∀ w q', pU T L so q = .inr (w, q') → q' ≤ L ∧ iv (-9) 9 w := by
        unfold pU
        by_cases y : so = 3 ∨ so = 4
        · rw [if_pos y]; exact pV_b hq
        · rw [if_neg y]
          exact ⟨fun f e => (by cases e), fun w q' e => by cases e; exact ⟨hq, by decide, by decide⟩⟩
      cases ex2 : pU T L so q with
      | inl f => exact ⟨fun f' e => (by cases e; exact pu.1 f ex2), fun ph q' e => by cases e⟩
      | inr uq =>
        obtain ⟨u, q2⟩ := uq
        obtain ⟨h1, h2⟩ := pu.2 u q2 ex2
        exact ⟨fun f' e => (by cases e), fun ph q' e => by cases e; exact ⟨h1, rfl, rfl, hk, hv, h2⟩⟩
/-- a phrase as it may stand -/
def okP (ph : Ph) : Prop := (∃ k, k < 6 ∧ ph.1 = nI k) ∧ (∃ k, k < 6 ∧ ph.2.1 = nI k) ∧ (¬ ph.2.1 = 0 → iv 0 7 ph.2.2.1) ∧ iv (-9) 9 ph.2.2.2.1 ∧ iv (-9) 9 ph.2.2.2.2
theorem PH_b {T : zN} {L p : Nat} {room : Bool} (h : p ≤ L) : (∀ f, PH T L room p = .inl f → f ≤ L) ∧ ∀ ph q, PH T L room p = .inr (ph, q) → q ≤ L ∧ okP ph ∧ room = true := by
  have tb := Tk_b (T := T) h
  unfold PH
  by_cases z : hw T (Tk T L p) 0 = -1 ∨ room = false
  · rw [if_pos z]
    exact ⟨fun f e => (by cases e; exact tb.1), fun ph q e => by cases e⟩
  · rw [if_neg z]
    have rt : room = true := by cases room with | false => exact absurd (Or.inr rfl) z | true => rfl
    have hk : ∃ k, k < 6 ∧ hw T (Tk T L p) 0 = nI k := by
      rcases hw_in (T := T) (t := Tk T L p) (b := 0) with u | u
      · exact absurd (Or.inl u) z
      · exact u
    generalize hw T (Tk T L p) 0 = how at *
    have px : (∀ f, pX T L how (Tk T L p).2.2.1 = .inl f → f ≤ L) ∧ ∀ w q, pX T L how (Tk T L p).2.2.1 = .inr (w, q) → q ≤ L ∧ (¬ how = 0 → iv 0 7 w) := by
      unfold pX
      by_cases y : how = 0
      · rw [if_pos y]
        exact ⟨fun f e => (by cases e), fun w q e => by cases e; exact ⟨tb.2.1, fun u => absurd y u⟩⟩
      · rw [if_neg y]
        have b := pN_b (T := T) (most := mxk how.toNatClampNeg) tb.2.1
        refine ⟨b.1, fun w q e => ?_⟩
        obtain ⟨c1, k, c2, rfl⟩ := b.2 w q e
        have : mxk how.toNatClampNeg ≤ 7 := by
          unfold mxk
          split
          · omega
          · split <;> omega
        exact ⟨c1, fun _ => nI_iv (by omega) (by omega) (by omega)⟩
    cases ex : pX T L how (Tk T L p).2.2.1 with
    | inl f => exact ⟨fun f' e => (by cases e; exact px.1 f ex), fun ph q e => by cases e⟩
    | inr xq =>
      obtain ⟨x, q⟩ := xq
      obtain ⟨hq, hx⟩ := px.2 x q ex
      have b := pB_b (T := T) (how := how) (xq := (x, q)) hq
      refine ⟨b.1, fun ph q' e => ?_⟩
      obtain ⟨c1, c2, c3, c4, c5, c6⟩ := b.2 ph q' e
      exact ⟨c1, ⟨c4, by rw [c2]; exact hk, by rw [c2, c3]; exact hx, c5, c6⟩, rt⟩
theorem s_X3_readAll {T : zN} {L room : Nat} {h : zHp} (G : zG h) (tp : TpC h T L) (hr : room ≤ 10) : zcV M_X3_readAll [.ref 141, .int (nI room)] h (fun h' => RA h h' room (TX T L 11 room 0)) := by
  have l120 := tp.1
  have loop : ∀ (m j p : Nat) (acc : List Ph) (h1 : zHp), j + m = 11 → j ≤ room → acc.length = j → p ≤ L → fRA h h1 → rI h1 141 2 = nI p → rI h1 141 7 = nI j → rI h1 141 8 = -1 → (∀ k ph, acc[k]? = some ph → PhC h1 (144 + k) ph) → zlV M_X3_readAll 17 [some (.ref 141), some (.int (nI room)), some (.int (nI j))] [] h1 (fun h' => RA h h' room (bd (TX T L m (room - j) p) (fun l => .inr (acc ++ l)))) := by
    intro m
    induction m with
    | zero => intro j p acc h1 hj hjr; omega
    | succ m ih =>
      intro j p acc h1 hj hjr al hp f1 e2 e7 e8 ap
      have G1 := zG_of f1.1 G
      have tp1 := f1.t tp
      have rd : ∀ (x : Int32), (decide (0 < room - j) = true ↔ ¬ x = 0) → zlV M_X3_readAll 34 [some (.ref 141), some (.int (nI room)), some (.int (nI j))] [.int x, .ref 141] h1 (fun h' => RA h h' room (bd (TX T L (m + 1) (room - j) p) (fun l => .inr (acc ++ l)))) := by
        intro x hx
        refine g_X3_readAll_34 G1 ?_
        refine zcV_then (s_X3_readPhrase G1 tp1 hp e2 e7 e8 hx (fun y => by have := of_decide_eq_true y; omega) (by omega)) (fun h2 hh => ?_)
        rw [TX]
        have pb := PH_b (T := T) (room := decide (0 < room - j)) hp
        cases ex : PH T L (decide (0 < room - j)) p with
        | inl f =>
          obtain ⟨f2, e28⟩ := hh.1 f ex
          have hf := pb.1 f ex
          have hj9 : fRA h1 h2 := f2.ra
          refine ⟨zG_of f2.1 G1, fun y => absurd (e28.symm.trans y) (nI_neg1 (by omega)), fun _ => ?_⟩
          exact ⟨fun f' e' => (by cases e'; exact ⟨f1.tr hj9, e28, by omega⟩), fun l e' => by cases e'⟩
        | inr w =>
          obtain ⟨ph, q⟩ := w
          obtain ⟨f2, d2, d7, d8, dp⟩ := hh.2 ph q ex
          obtain ⟨hq, okp, rt⟩ := pb.2 ph q ex
          have jr : j < room := by have := of_decide_eq_true rt; omega
          have f12 := f1.tr (f2.ra (by omega))
          have G2 := zG_of f2.1 G1
          refine ⟨G2, fun _ => ?_, fun y => absurd d8 y⟩
          refine zcV_then (s_X3_advance G2 (f12.t tp) hq d2) (fun h3 hh => ⟨zG_of hh.1.1 G2, ?_⟩)
          obtain ⟨f3, tc⟩ := hh
          have f13 := f12.tr f3.e.ra
          have k5 := Tk_5 (T := T) (L := L) (p := q)
          have tb := Tk_b (T := T) hq
          have g8 := fT3_8 f3
          have ap3 : ∀ k ph', (acc ++ [ph])[k]? = some ph' → PhC h3 (144 + k) ph' := by
            intro k ph' hk
            have e3 : ∀ q, k ≤ 9 → rI h3 (144 + k) q = rI h2 (144 + k) q := fun q _ => by show h3.1 _ q = h2.1 _ q; rw [f3.2.1 _ (by omega)]
            have kl : k < (acc ++ [ph]).length := (List.getElem?_eq_some_iff.mp hk).1
            rw [List.length_append] at kl
            change k < acc.length + 1 at kl
            rw [List.getElem?_append] at hk
            by_cases y : k < acc.length
            · rw [if_pos y] at hk
              have := ap k ph' hk
              unfold PhC at this ⊢
              have e2' : ∀ q, rI h2 (144 + k) q = rI h1 (144 + k) q := fun q => by show h2.1 _ q = h1.1 _ q; rw [f2.2.1 _ (by omega) (by omega)]
              rw [e3 _ (by omega), e3 _ (by omega), e3 _ (by omega), e3 _ (by omega), e3 _ (by omega), e3 _ (by omega), e3 _ (by omega), e2', e2', e2', e2', e2', e2', e2']
              exact this
            · rw [if_neg y] at hk
              have kj : k = j := by omega
              subst kj
              rw [show k - acc.length = 0 by omega] at hk
              have eq : ph = ph' := by simpa using hk
              subst eq
              unfold PhC at dp ⊢
              rw [e3 _ (by omega), e3 _ (by omega), e3 _ (by omega), e3 _ (by omega), e3 _ (by omega), e3 _ (by omega), e3 _ (by omega)]
              exact dp
          show (¬ rI h3 141 3 = 0 → (rI h3 141 3 = 3 → zlV M_X3_readAll 17 [some (.ref 141), some (.int (nI room)), some (.int (nI j + 1))] [] h3 (fun h' => RA h h' room (bd (if (Tk T L q).2.1 = 0 then .inr [ph] else if (Tk T L q).2.1 = 3 then bd (TX T L m (room - j - 1) (Tk T L q).2.2.1) (fun l => .inr (ph :: l)) else .inl (Tk T L q).1) (fun l => .inr (acc ++ l))))) ∧ (¬ rI h3 141 3 = 3 → RA h (wI h3 141 8 (rI h3 141 4)) room (bd (if (Tk T L q).2.1 = 0 then .inr [ph] else if (Tk T L q).2.1 = 3 then bd (TX T L m (room - j - 1) (Tk T L q).2.2.1) (fun l => .inr (ph :: l)) else .inl (Tk T L q).1) (fun l => .inr (acc ++ l))))) ∧ (rI h3 141 3 = 0 → RA h h3 room (bd (if (Tk T L q).2.1 = 0 then .inr [ph] else if (Tk T L q).2.1 = 3 then bd (TX T L m (room - j - 1) (Tk T L q).2.2.1) (fun l => .inr (ph :: l)) else .inl (Tk T L q).1) (fun l => .inr (acc ++ l))))
          rw [tc.2.1, tc.2.2.1]
          refine ⟨fun z => ⟨fun y => ?_, fun y => ?_⟩, fun z => ?_⟩
          · have n0 : ¬ (Tk T L q).2.1 = 0 := fun x => z (by rw [x]; rfl)
            have n3 := (nI_eq (b := 3) (by omega) (by omega)).mp y
            rw [if_neg n0, if_pos n3, nI_1]
            have r := ih (j + 1) (Tk T L q).2.2.1 (acc ++ [ph]) h3 (by omega) (by omega) (by rw [List.length_append, al]; rfl) tb.2.1 f13 tc.1 (by rw [g8.2]; exact d7) (by rw [g8.1]; exact d8) ap3
            rw [show room - (j + 1) = room - j - 1 by omega] at r
            have eb : bd (TX T L m (room - j - 1) (Tk T L q).2.2.1) (fun l => .inr (acc ++ [ph] ++ l)) = bd (bd (TX T L m (room - j - 1) (Tk T L q).2.2.1) (fun l => .inr (ph :: l))) (fun l => .inr (acc ++ l)) := by
              cases TX T L m (room - j - 1) (Tk T L q).2.2.1 with
              | inl f => rfl
              | inr l => show Sum.inr (acc ++ [ph] ++ l) = Sum.inr (acc ++ (ph :: l)); rw [List.append_assoc]; rfl
            rw [eb] at r
            exact r
          · have n0 : ¬ (Tk T L q).2.1 = 0 := fun x => z (by rw [x]; rfl)
            have n3 : ¬ (Tk T L q).2.1 = 3 := fun x => y (by rw [x]; rfl)
            rw [if_neg n0, if_neg n3]
            exact ⟨fun f' e' => (by cases e'; exact ⟨f13.tr fT8.w.ra, rI_s, by omega⟩), fun l e' => by cases e'⟩
          · have n0 := (nI_eq (b := 0) (by omega) (by omega)).mp z
            rw [if_pos n0]
            refine ⟨fun f' e' => (by cases e'), fun l e' => ?_⟩
            cases e'
            refine ⟨f13, by rw [g8.1]; exact d8, by rw [g8.2, List.length_append, al]; exact d7, by rw [List.length_append, al]; exact jr, ap3⟩
      refine g_X3_readAll_17 G1 ⟨fun z => absurd z (nI_nlt (a := 10) (by omega) (by omega)), fun _ => ⟨fun z => rd 0 ?_, fun z => rd 1 ?_⟩⟩
      · have := (nI_leI (by omega) (by omega)).mp z
        exact ⟨fun y => by have := of_decide_eq_true y; omega, fun y => absurd rfl y⟩
      · have : j < room := Nat.lt_of_not_le (fun y => z (nI_le y (by omega)))
        exact ⟨fun _ => by decide, fun _ => decide_eq_true (by omega)⟩
  have f0 : fRA h (wI (wI (wI h 141 2 0) 141 8 (-1)) 141 7 0) := ⟨rfl, fun a z1 _ => by rw [wI_ne z1, wI_ne z1, wI_ne z1], fun k hk => by show rI _ 141 k = rI h 141 k; rw [rI_k (by omega), rI_k (by omega), rI_k (by omega)]⟩
  have r := loop 11 0 0 [] (wI (wI (wI h 141 2 0) 141 8 (-1)) 141 7 0) (by omega) (by omega) rfl (by omega) f0 (by rw [rI_k (by decide), rI_k (by decide), rI_s]; rfl) rI_s (by rw [rI_k (by decide), rI_s]) (fun k ph e => by cases e)
  have eb : bd (TX T L 11 (room - 0) 0) (fun l => .inr ([] ++ l)) = TX T L 11 room 0 := by
    rw [Nat.sub_zero]
    cases TX T L 11 room 0 with
    | inl f => rfl
    | inr l => rfl
  rw [eb] at r
  exact g_X3_readAll G r

