/-! calls: aim, shown, image, back -/
theorem g_J6_bitCount_0f7a4 {x0 : Int32} {h : zHp} {Q : Int32 → zHp → Prop}  (G : zG h) (F : Q ((((((((x0 - (((Int32.toUInt32 x0 >>> (Int32.toUInt32 1 &&& Int32.toUInt32 31)).toInt32) &&& 1431655765)) &&& 858993459) + (((Int32.toUInt32 (x0 - (((Int32.toUInt32 x0 >>> (Int32.toUInt32 1 &&& Int32.toUInt32 31)).toInt32) &&& 1431655765)) >>> (Int32.toUInt32 2 &&& Int32.toUInt32 31)).toInt32) &&& 858993459)) + ((Int32.toUInt32 (((x0 - (((Int32.toUInt32 x0 >>> (Int32.toUInt32 1 &&& Int32.toUInt32 31)).toInt32) &&& 1431655765)) &&& 858993459) + (((Int32.toUInt32 (x0 - (((Int32.toUInt32 x0 >>> (Int32.toUInt32 1 &&& Int32.toUInt32 31)).toInt32) &&& 1431655765)) >>> (Int32.toUInt32 2 &&& Int32.toUInt32 31)).toInt32) &&& 858993459)) >>> (Int32.toUInt32 4 &&& Int32.toUInt32 31)).toInt32)) &&& 252645135) + ((Int32.toUInt32 (((((x0 - (((Int32.toUInt32 x0 >>> (Int32.toUInt32 1 &&& Int32.toUInt32 31)).toInt32) &&& 1431655765)) &&& 858993459) + (((Int32.toUInt32 (x0 - (((Int32.toUInt32 x0 >>> (Int32.toUInt32 1 &&& Int32.toUInt32 31)).toInt32) &&& 1431655765)) >>> (Int32.toUInt32 2 &&& Int32.toUInt32 31)).toInt32) &&& 858993459)) + ((Int32.toUInt32 (((x0 - (((Int32.toUInt32 x0 >>> (Int32.toUInt32 1 &&& Int32.toUInt32 31)).toInt32) &&& 1431655765)) &&& 858993459) + (((Int32.toUInt32 (x0 - (((Int32.toUInt32 x0 >>> (Int32.toUInt32 1 &&& Int32.toUInt32 31)).toInt32) &&& 1431655765)) >>> (Int32.toUInt32 2 &&& Int32.toUInt32 31)).toInt32) &&& 858993459)) >>> (Int32.toUInt32 4 &&& Int32.toUInt32 31)).toInt32)) &&& 252645135) >>> (Int32.toUInt32 8 &&& Int32.toUInt32 31)).toInt32)) + ((Int32.toUInt32 ((((((x0 - (((Int32.toUInt32 x0 >>> (Int32.toUInt32 1 &&& Int32.toUInt32 31)).toInt32) &&& 1431655765)) &&& 858993459) + (((Int32.toUInt32 (x0 - (((Int32.toUInt32 x0 >>> (Int32.toUInt32 1 &&& Int32.toUInt32 31)).toInt32) &&& 1431655765)) >>> (Int32.toUInt32 2 &&& Int32.toUInt32 31)).toInt32) &&& 858993459)) + ((Int32.toUInt32 (((x0 - (((Int32.toUInt32 x0 >>> (Int32.toUInt32 1 &&& Int32.toUInt32 31)).toInt32) &&& 1431655765)) &&& 858993459) + (((Int32.toUInt32 (x0 - (((Int32.toUInt32 x0 >>> (Int32.toUInt32 1 &&& Int32.toUInt32 31)).toInt32) &&& 1431655765)) >>> (Int32.toUInt32 2 &&& Int32.toUInt32 31)).toInt32) &&& 858993459)) >>> (Int32.toUInt32 4 &&& Int32.toUInt32 31)).toInt32)) &&& 252645135) + ((Int32.toUInt32 (((((x0 - (((Int32.toUInt32 x0 >>> (Int32.toUInt32 1 &&& Int32.toUInt32 31)).toInt32) &&& 1431655765)) &&& 858993459) + (((Int32.toUInt32 (x0 - (((Int32.toUInt32 x0 >>> (Int32.toUInt32 1 &&& Int32.toUInt32 31)).toInt32) &&& 1431655765)) >>> (Int32.toUInt32 2 &&& Int32.toUInt32 31)).toInt32) &&& 858993459)) + ((Int32.toUInt32 (((x0 - (((Int32.toUInt32 x0 >>> (Int32.toUInt32 1 &&& Int32.toUInt32 31)).toInt32) &&& 1431655765)) &&& 858993459) + (((Int32.toUInt32 (x0 - (((Int32.toUInt32 x0 >>> (Int32.toUInt32 1 &&& Int32.toUInt32 31)).toInt32) &&& 1431655765)) >>> (Int32.toUInt32 2 &&& Int32.toUInt32 31)).toInt32) &&& 858993459)) >>> (Int32.toUInt32 4 &&& Int32.toUInt32 31)).toInt32)) &&& 252645135) >>> (Int32.toUInt32 8 &&& Int32.toUInt32 31)).toInt32)) >>> (Int32.toUInt32 16 &&& Int32.toUInt32 31)).toInt32)) &&& 63) h) : zcI M_J6_bitCount_0f7a4 [.int x0] h Q := by
  show zw zNT zNT M_J6_bitCount_0f7a4 0 [some (.int x0)] [] h _
  refine z_iload_n (pc := 0) dJ6_bitCount_0f7a4_0 rfl rfl ?_
  refine z_iload_n (pc := 1) dJ6_bitCount_0f7a4_1 rfl rfl ?_
  refine z_iconst (pc := 2) (v := 1) dJ6_bitCount_0f7a4_2 (by decide) ?_
  refine z_iushr (pc := 3) dJ6_bitCount_0f7a4_3 ?_
  refine z_ldcw (pc := 4) (v := 1431655765) dJ6_bitCount_0f7a4_4 cl_RJ6_265 ?_
  refine z_iand (pc := 7) dJ6_bitCount_0f7a4_7 ?_
  refine z_isub (pc := 8) dJ6_bitCount_0f7a4_8 ?_
  refine z_istore_n (pc := 9) (ls' := [some (.int (x0 - (((Int32.toUInt32 x0 >>> (Int32.toUInt32 1 &&& Int32.toUInt32 31)).toInt32) &&& 1431655765)))]) dJ6_bitCount_0f7a4_9 rfl (by decide) rfl ?_
  refine z_iload_n (pc := 10) dJ6_bitCount_0f7a4_10 rfl rfl ?_
  refine z_ldcw (pc := 11) (v := 858993459) dJ6_bitCount_0f7a4_11 cl_RJ6_266 ?_
  refine z_iand (pc := 14) dJ6_bitCount_0f7a4_14 ?_
  refine z_iload_n (pc := 15) dJ6_bitCount_0f7a4_15 rfl rfl ?_
  refine z_iconst (pc := 16) (v := 2) dJ6_bitCount_0f7a4_16 (by decide) ?_
  refine z_iushr (pc := 17) dJ6_bitCount_0f7a4_17 ?_
  refine z_ldcw (pc := 18) (v := 858993459) dJ6_bitCount_0f7a4_18 cl_RJ6_266 ?_
  refine z_iand (pc := 21) dJ6_bitCount_0f7a4_21 ?_
  refine z_iadd (pc := 22) dJ6_bitCount_0f7a4_22 ?_
  refine z_istore_n (pc := 23) (ls' := [some (.int (((x0 - (((Int32.toUInt32 x0 >>> (Int32.toUInt32 1 &&& Int32.toUInt32 31)).toInt32) &&& 1431655765)) &&& 858993459) + (((Int32.toUInt32 (x0 - (((Int32.toUInt32 x0 >>> (Int32.toUInt32 1 &&& Int32.toUInt32 31)).toInt32) &&& 1431655765)) >>> (Int32.toUInt32 2 &&& Int32.toUInt32 31)).toInt32) &&& 858993459)))]) dJ6_bitCount_0f7a4_23 rfl (by decide) rfl ?_
  refine z_iload_n (pc := 24) dJ6_bitCount_0f7a4_24 rfl rfl ?_
  refine z_iload_n (pc := 25) dJ6_bitCount_0f7a4_25 rfl rfl ?_
  refine z_iconst (pc := 26) (v := 4) dJ6_bitCount_0f7a4_26 (by decide) ?_
  refine z_iushr (pc := 27) dJ6_bitCount_0f7a4_27 ?_
  refine z_iadd (pc := 28) dJ6_bitCount_0f7a4_28 ?_
  refine z_ldcw (pc := 29) (v := 252645135) dJ6_bitCount_0f7a4_29 cl_RJ6_267 ?_
  refine z_iand (pc := 32) dJ6_bitCount_0f7a4_32 ?_
  refine z_istore_n (pc := 33) (ls' := [some (.int (((((x0 - (((Int32.toUInt32 x0 >>> (Int32.toUInt32 1 &&& Int32.toUInt32 31)).toInt32) &&& 1431655765)) &&& 858993459) + (((Int32.toUInt32 (x0 - (((Int32.toUInt32 x0 >>> (Int32.toUInt32 1 &&& Int32.toUInt32 31)).toInt32) &&& 1431655765)) >>> (Int32.toUInt32 2 &&& Int32.toUInt32 31)).toInt32) &&& 858993459)) + ((Int32.toUInt32 (((x0 - (((Int32.toUInt32 x0 >>> (Int32.toUInt32 1 &&& Int32.toUInt32 31)).toInt32) &&& 1431655765)) &&& 858993459) + (((Int32.toUInt32 (x0 - (((Int32.toUInt32 x0 >>> (Int32.toUInt32 1 &&& Int32.toUInt32 31)).toInt32) &&& 1431655765)) >>> (Int32.toUInt32 2 &&& Int32.toUInt32 31)).toInt32) &&& 858993459)) >>> (Int32.toUInt32 4 &&& Int32.toUInt32 31)).toInt32)) &&& 252645135))]) dJ6_bitCount_0f7a4_33 rfl (by decide) rfl ?_
  refine z_iload_n (pc := 34) dJ6_bitCount_0f7a4_34 rfl rfl ?_
  refine z_iload_n (pc := 35) dJ6_bitCount_0f7a4_35 rfl rfl ?_
  refine z_bipush (pc := 36) (v := 8) dJ6_bitCount_0f7a4_36 (by decide) ?_
  refine z_iushr (pc := 38) dJ6_bitCount_0f7a4_38 ?_
  refine z_iadd (pc := 39) dJ6_bitCount_0f7a4_39 ?_
  refine z_istore_n (pc := 40) (ls' := [some (.int ((((((x0 - (((Int32.toUInt32 x0 >>> (Int32.toUInt32 1 &&& Int32.toUInt32 31)).toInt32) &&& 1431655765)) &&& 858993459) + (((Int32.toUInt32 (x0 - (((Int32.toUInt32 x0 >>> (Int32.toUInt32 1 &&& Int32.toUInt32 31)).toInt32) &&& 1431655765)) >>> (Int32.toUInt32 2 &&& Int32.toUInt32 31)).toInt32) &&& 858993459)) + ((Int32.toUInt32 (((x0 - (((Int32.toUInt32 x0 >>> (Int32.toUInt32 1 &&& Int32.toUInt32 31)).toInt32) &&& 1431655765)) &&& 858993459) + (((Int32.toUInt32 (x0 - (((Int32.toUInt32 x0 >>> (Int32.toUInt32 1 &&& Int32.toUInt32 31)).toInt32) &&& 1431655765)) >>> (Int32.toUInt32 2 &&& Int32.toUInt32 31)).toInt32) &&& 858993459)) >>> (Int32.toUInt32 4 &&& Int32.toUInt32 31)).toInt32)) &&& 252645135) + ((Int32.toUInt32 (((((x0 - (((Int32.toUInt32 x0 >>> (Int32.toUInt32 1 &&& Int32.toUInt32 31)).toInt32) &&& 1431655765)) &&& 858993459) + (((Int32.toUInt32 (x0 - (((Int32.toUInt32 x0 >>> (Int32.toUInt32 1 &&& Int32.toUInt32 31)).toInt32) &&& 1431655765)) >>> (Int32.toUInt32 2 &&& Int32.toUInt32 31)).toInt32) &&& 858993459)) + ((Int32.toUInt32 (((x0 - (((Int32.toUInt32 x0 >>> (Int32.toUInt32 1 &&& Int32.toUInt32 31)).toInt32) &&& 1431655765)) &&& 858993459) + (((Int32.toUInt32 (x0 - (((Int32.toUInt32 x0 >>> (Int32.toUInt32 1 &&& Int32.toUInt32 31)).toInt32) &&& 1431655765)) >>> (Int32.toUInt32 2 &&& Int32.toUInt32 31)).toInt32) &&& 858993459)) >>> (Int32.toUInt32 4 &&& Int32.toUInt32 31)).toInt32)) &&& 252645135) >>> (Int32.toUInt32 8 &&& Int32.toUInt32 31)).toInt32)))]) dJ6_bitCount_0f7a4_40 rfl (by decide) rfl ?_
  refine z_iload_n (pc := 41) dJ6_bitCount_0f7a4_41 rfl rfl ?_
  refine z_iload_n (pc := 42) dJ6_bitCount_0f7a4_42 rfl rfl ?_
  refine z_bipush (pc := 43) (v := 16) dJ6_bitCount_0f7a4_43 (by decide) ?_
  refine z_iushr (pc := 45) dJ6_bitCount_0f7a4_45 ?_
  refine z_iadd (pc := 46) dJ6_bitCount_0f7a4_46 ?_
  refine z_istore_n (pc := 47) (ls' := [some (.int (((((((x0 - (((Int32.toUInt32 x0 >>> (Int32.toUInt32 1 &&& Int32.toUInt32 31)).toInt32) &&& 1431655765)) &&& 858993459) + (((Int32.toUInt32 (x0 - (((Int32.toUInt32 x0 >>> (Int32.toUInt32 1 &&& Int32.toUInt32 31)).toInt32) &&& 1431655765)) >>> (Int32.toUInt32 2 &&& Int32.toUInt32 31)).toInt32) &&& 858993459)) + ((Int32.toUInt32 (((x0 - (((Int32.toUInt32 x0 >>> (Int32.toUInt32 1 &&& Int32.toUInt32 31)).toInt32) &&& 1431655765)) &&& 858993459) + (((Int32.toUInt32 (x0 - (((Int32.toUInt32 x0 >>> (Int32.toUInt32 1 &&& Int32.toUInt32 31)).toInt32) &&& 1431655765)) >>> (Int32.toUInt32 2 &&& Int32.toUInt32 31)).toInt32) &&& 858993459)) >>> (Int32.toUInt32 4 &&& Int32.toUInt32 31)).toInt32)) &&& 252645135) + ((Int32.toUInt32 (((((x0 - (((Int32.toUInt32 x0 >>> (Int32.toUInt32 1 &&& Int32.toUInt32 31)).toInt32) &&& 1431655765)) &&& 858993459) + (((Int32.toUInt32 (x0 - (((Int32.toUInt32 x0 >>> (Int32.toUInt32 1 &&& Int32.toUInt32 31)).toInt32) &&& 1431655765)) >>> (Int32.toUInt32 2 &&& Int32.toUInt32 31)).toInt32) &&& 858993459)) + ((Int32.toUInt32 (((x0 - (((Int32.toUInt32 x0 >>> (Int32.toUInt32 1 &&& Int32.toUInt32 31)).toInt32) &&& 1431655765)) &&& 858993459) + (((Int32.toUInt32 (x0 - (((Int32.toUInt32 x0 >>> (Int32.toUInt32 1 &&& Int32.toUInt32 31)).toInt32) &&& 1431655765)) >>> (Int32.toUInt32 2 &&& Int32.toUInt32 31)).toInt32) &&& 858993459)) >>> (Int32.toUInt32 4 &&& Int32.toUInt32 31)).toInt32)) &&& 252645135) >>> (Int32.toUInt32 8 &&& Int32.toUInt32 31)).toInt32)) + ((Int32.toUInt32 ((((((x0 - (((Int32.toUInt32 x0 >>> (Int32.toUInt32 1 &&& Int32.toUInt32 31)).toInt32) &&& 1431655765)) &&& 858993459) + (((Int32.toUInt32 (x0 - (((Int32.toUInt32 x0 >>> (Int32.toUInt32 1 &&& Int32.toUInt32 31)).toInt32) &&& 1431655765)) >>> (Int32.toUInt32 2 &&& Int32.toUInt32 31)).toInt32) &&& 858993459)) + ((Int32.toUInt32 (((x0 - (((Int32.toUInt32 x0 >>> (Int32.toUInt32 1 &&& Int32.toUInt32 31)).toInt32) &&& 1431655765)) &&& 858993459) + (((Int32.toUInt32 (x0 - (((Int32.toUInt32 x0 >>> (Int32.toUInt32 1 &&& Int32.toUInt32 31)).toInt32) &&& 1431655765)) >>> (Int32.toUInt32 2 &&& Int32.toUInt32 31)).toInt32) &&& 858993459)) >>> (Int32.toUInt32 4 &&& Int32.toUInt32 31)).toInt32)) &&& 252645135) + ((Int32.toUInt32 (((((x0 - (((Int32.toUInt32 x0 >>> (Int32.toUInt32 1 &&& Int32.toUInt32 31)).toInt32) &&& 1431655765)) &&& 858993459) + (((Int32.toUInt32 (x0 - (((Int32.toUInt32 x0 >>> (Int32.toUInt32 1 &&& Int32.toUInt32 31)).toInt32) &&& 1431655765)) >>> (Int32.toUInt32 2 &&& Int32.toUInt32 31)).toInt32) &&& 858993459)) + ((Int32.toUInt32 (((x0 - (((Int32.toUInt32 x0 >>> (Int32.toUInt32 1 &&& Int32.toUInt32 31)).toInt32) &&& 1431655765)) &&& 858993459) + (((Int32.toUInt32 (x0 - (((Int32.toUInt32 x0 >>> (Int32.toUInt32 1 &&& Int32.toUInt32 31)).toInt32) &&& 1431655765)) >>> (Int32.toUInt32 2 &&& Int32.toUInt32 31)).toInt32) &&& 858993459)) >>> (Int32.toUInt32 4 &&& Int32.toUInt32 31)).toInt32)) &&& 252645135) >>> (Int32.toUInt32 8 &&& Int32.toUInt32 31)).toInt32)) >>> (Int32.toUInt32 16 &&& Int32.toUInt32 31)).toInt32)))]) dJ6_bitCount_0f7a4_47 rfl (by decide) rfl ?_
  refine z_iload_n (pc := 48) dJ6_bitCount_0f7a4_48 rfl rfl ?_
  refine z_bipush (pc := 49) (v := 63) dJ6_bitCount_0f7a4_49 (by decide) ?_
  refine z_iand (pc := 51) dJ6_bitCount_0f7a4_51 ?_
  exact q_retI (pc := 52) dJ6_bitCount_0f7a4_52 rfl F
theorem g_X10_aim {x1 : Int32} {x2 : Int32} {x3 : Int32} {h : zHp} {Q : Int32 → zHp → Prop}  (G : zG h) (F : (¬ (0 ≤ x1 ∧ x1 ≤ (rI h 2 1) - 1) → (Q (-2) h)) ∧ ((0 ≤ x1 ∧ x1 ≤ (rI h 2 1) - 1) → ((¬ ((1 : Int32) ≤ x2 ∧ x2 ≤ 99) → (Q (-2) h)) ∧ (((1 : Int32) ≤ x2 ∧ x2 ≤ 99) → ((((0 : Int32) ≤ x3 ∧ x3 ≤ 2) → (vp_in x1 8 ∧ ((¬ rI h (8 + (Int32.toNatClampNeg x1)) 5 = 0 → (zcV M_X9_follow [.ref 139, .ref 2, .ref 42, .int x1, .int x2] h (fun h1 => zG h1 ∧ ((¬ x3 = 0 → ((¬ x3 = 1 → (zcI M_J6_bitCount_0f7a4 [.int (rI h1 139 3)] h1 (fun vh2 h2 => zG h2 ∧ (Q vh2 h2)))) ∧ (x3 = 1 → ((rI h1 139 2 = 0 → (Q (rI h1 139 1) h1)) ∧ (¬ (rI h1 139 2 = 0) → (Q 0 h1)))))) ∧ (x3 = 0 → (Q (rI h1 139 0) h1)))))) ∧ (rI h (8 + (Int32.toNatClampNeg x1)) 5 = 0 → (Q (-3) h))))) ∧ (¬ ((0 : Int32) ≤ x3 ∧ x3 ≤ 2) → (Q (-2) h))))))) : zcI M_X10_aim [.ref 0, .int x1, .int x2, .int x3] h Q := by
  show zw zNT zNT M_X10_aim 0 [some (.ref 0), some (.int x1), some (.int x2), some (.int x3)] [] h _
  refine z_aload_n (pc := 0) dX10_aim_0 rfl rfl ?_
  refine q_getR (pc := 1) (i := 2) dX10_aim_1 lk_RX10_20 (lyc rfl) (G 0 1 2 rfl) ?_
  refine z_iload_n (pc := 4) dX10_aim_4 rfl rfl ?_
  refine q_invV (pc := 5) (As := [.int x1]) (st := []) dX10_aim_5 ok_X8_hasThing ml_RX10_94 iv_X8_hasThing pa_X8_hasThing ⟨Nat.le_of_ble_eq_true rfl, Nat.le_of_ble_eq_true rfl⟩ (lyc rfl) (q_pI (s_X8_hasThing G (Or.inl rfl)) rfl ?_)
  refine z_if_eq (pc := 8) (tgt := 30) dX10_aim_8 (by decide) (fun k10 => ?_) (fun k10 => ?_)
  · replace F := F.1 (zb0.mp k10)
    refine z_bipush (pc := 30) (v := -2) dX10_aim_30 (by decide) ?_
    exact q_retI (pc := 32) dX10_aim_32 rfl F
  · replace F := F.2 (zbn.mp k10)
    refine z_iload_n (pc := 11) dX10_aim_11 rfl rfl ?_
    refine z_iconst (pc := 12) (v := 1) dX10_aim_12 (by decide) ?_
    refine z_bipush (pc := 13) (v := 99) dX10_aim_13 (by decide) ?_
    refine q_invS (pc := 15) (As := [.int x2, .int 1, .int 99]) (st := []) dX10_aim_15 ok_X10_within ml_RX10_82 st_X10_within pa_X10_within ⟨Nat.le_of_ble_eq_true rfl, Nat.le_of_ble_eq_true rfl⟩ (q_pI (s_X10_within G) rfl ?_)
    refine z_if_eq (pc := 18) (tgt := 30) dX10_aim_18 (by decide) (fun k9 => ?_) (fun k9 => ?_)
    · replace F := F.1 (zb0.mp k9)
      refine z_bipush (pc := 30) (v := -2) dX10_aim_30 (by decide) ?_
      exact q_retI (pc := 32) dX10_aim_32 rfl F
    · replace F := F.2 (zbn.mp k9)
      refine z_iload_n (pc := 21) dX10_aim_21 rfl rfl ?_
      refine z_iconst (pc := 22) (v := 0) dX10_aim_22 (by decide) ?_
      refine z_iconst (pc := 23) (v := 2) dX10_aim_23 (by decide) ?_
      refine q_invS (pc := 24) (As := [.int x3, .int 0, .int 2]) (st := []) dX10_aim_24 ok_X10_within ml_RX10_82 st_X10_within pa_X10_within ⟨Nat.le_of_ble_eq_true rfl, Nat.le_of_ble_eq_true rfl⟩ (q_pI (s_X10_within G) rfl ?_)
      refine z_if_ne (pc := 27) (tgt := 33) dX10_aim_27 (by decide) (fun k8 => ?_) (fun k8 => ?_)
      · replace F := F.1 (zbn.mp k8)
        refine z_aload_n (pc := 33) dX10_aim_33 rfl rfl ?_
        refine q_getR (pc := 34) (i := 2) dX10_aim_34 lk_RX10_20 (lyc rfl) (G 0 1 2 rfl) ?_
        refine q_getR (pc := 37) (i := 3) dX10_aim_37 lk_RX10_98 (lyc rfl) (G 2 0 3 rfl) ?_
        refine z_iload_n (pc := 40) dX10_aim_40 rfl rfl ?_
        obtain ⟨k1, F⟩ := F
        refine q_aald (pc := 41) (j := (Int32.toNatClampNeg x1)) (r := 8 + (Int32.toNatClampNeg x1)) (t := 0) dX10_aim_41 (lyc rfl) (zvn (lnc rfl) k1) rfl (grT (B := 2) G (Or.inl rfl) (zvi k1)) ?_
        refine q_getI (pc := 42) (v := rI h (8 + (Int32.toNatClampNeg x1)) 5) dX10_aim_42 lk_RX10_119 (lyT (B := 2) (Or.inl rfl) (zvi k1)) rfl ?_
        refine z_if_ne (pc := 45) (tgt := 51) dX10_aim_45 (by decide) (fun k7 => ?_) (fun k7 => ?_)
        · replace F := F.1 k7
          refine z_aload_n (pc := 51) dX10_aim_51 rfl rfl ?_
          refine q_getR (pc := 52) (i := 139) dX10_aim_52 lk_RX10_46 (lyc rfl) (G 0 7 139 rfl) ?_
          refine z_aload_n (pc := 55) dX10_aim_55 rfl rfl ?_
          refine q_getR (pc := 56) (i := 2) dX10_aim_56 lk_RX10_20 (lyc rfl) (G 0 1 2 rfl) ?_
          refine z_aload_n (pc := 59) dX10_aim_59 rfl rfl ?_
          refine q_getR (pc := 60) (i := 42) dX10_aim_60 lk_RX10_27 (lyc rfl) (G 0 2 42 rfl) ?_
          refine z_iload_n (pc := 63) dX10_aim_63 rfl rfl ?_
          refine z_iload_n (pc := 64) dX10_aim_64 rfl rfl ?_
          refine q_invV (pc := 65) (As := [.ref 2, .ref 42, .int x1, .int x2]) (st := []) dX10_aim_65 ok_X9_follow ml_RX10_271 iv_X9_follow pa_X9_follow ⟨Nat.le_of_ble_eq_true rfl, Nat.le_of_ble_eq_true rfl⟩ (lyc rfl) (q_kV F (fun h1 F => ?_))
          obtain ⟨G1, F⟩ := F
          refine z_iload_n (pc := 68) dX10_aim_68 rfl rfl ?_
          refine z_if_ne (pc := 69) (tgt := 80) dX10_aim_69 (by decide) (fun k6 => ?_) (fun k6 => ?_)
          · replace F := F.1 k6
            refine z_iload_n (pc := 80) dX10_aim_80 rfl rfl ?_
            refine z_iconst (pc := 81) (v := 1) dX10_aim_81 (by decide) ?_
            refine z_icmp_ne (pc := 82) (tgt := 107) dX10_aim_82 (by decide) (fun k5 => ?_) (fun k5 => ?_)
            · replace F := F.1 k5
              refine z_aload_n (pc := 107) dX10_aim_107 rfl rfl ?_
              refine q_getR (pc := 108) (i := 139) dX10_aim_108 lk_RX10_46 (lyc rfl) (G1 0 7 139 rfl) ?_
              refine q_getI (pc := 111) (v := rI h1 139 3) dX10_aim_111 lk_RX10_284 (lyc rfl) rfl ?_
              refine q_invS (pc := 114) (As := [.int (rI h1 139 3)]) (st := []) dX10_aim_114 ok_J6_bitCount_0f7a4 ml_RX10_287 st_J6_bitCount_0f7a4 pa_J6_bitCount_0f7a4 ⟨Nat.le_of_ble_eq_true rfl, Nat.le_of_ble_eq_true rfl⟩ (q_kI F (fun vh2 h2 F => ?_))
              obtain ⟨G2, F⟩ := F
              exact q_retI (pc := 117) dX10_aim_117 rfl F
            · replace F := F.2 k5
              refine z_aload_n (pc := 85) dX10_aim_85 rfl rfl ?_
              refine q_getR (pc := 86) (i := 139) dX10_aim_86 lk_RX10_46 (lyc rfl) (G1 0 7 139 rfl) ?_
              refine q_getI (pc := 89) (v := rI h1 139 2) dX10_aim_89 lk_RX10_278 (lyc rfl) rfl ?_
              refine z_if_eq (pc := 92) (tgt := 99) dX10_aim_92 (by decide) (fun k4 => ?_) (fun k4 => ?_)
              · replace F := F.1 k4
                refine z_aload_n (pc := 99) dX10_aim_99 rfl rfl ?_
                refine q_getR (pc := 100) (i := 139) dX10_aim_100 lk_RX10_46 (lyc rfl) (G1 0 7 139 rfl) ?_
                refine q_getI (pc := 103) (v := rI h1 139 1) dX10_aim_103 lk_RX10_281 (lyc rfl) rfl ?_
                exact q_retI (pc := 106) dX10_aim_106 rfl F
              · replace F := F.2 k4
                refine z_iconst (pc := 95) (v := 0) dX10_aim_95 (by decide) ?_
                refine z_goto (pc := 96) (tgt := 106) dX10_aim_96 (by decide) ?_
                exact q_retI (pc := 106) dX10_aim_106 rfl F
          · replace F := F.2 k6
            refine z_aload_n (pc := 72) dX10_aim_72 rfl rfl ?_
            refine q_getR (pc := 73) (i := 139) dX10_aim_73 lk_RX10_46 (lyc rfl) (G1 0 7 139 rfl) ?_
            refine q_getI (pc := 76) (v := rI h1 139 0) dX10_aim_76 lk_RX10_275 (lyc rfl) rfl ?_
            exact q_retI (pc := 79) dX10_aim_79 rfl F
        · replace F := F.2 k7
          refine z_bipush (pc := 48) (v := -3) dX10_aim_48 (by decide) ?_
          exact q_retI (pc := 50) dX10_aim_50 rfl F
      · replace F := F.2 (zb0.mp k8)
        refine z_bipush (pc := 30) (v := -2) dX10_aim_30 (by decide) ?_
        exact q_retI (pc := 32) dX10_aim_32 rfl F
theorem g_X11_aim {x1 : Int32} {x2 : Int32} {x3 : Int32} {h : zHp} {Q : Int32 → zHp → Prop}  (G : zG h) (F : (¬ (0 ≤ x1 ∧ x1 ≤ rI h 165 238 - 1) → (Q (-2) h)) ∧ ((0 ≤ x1 ∧ x1 ≤ rI h 165 238 - 1) → ((¬ ((1 : Int32) ≤ x2 ∧ x2 ≤ 99) → (Q (-2) h)) ∧ (((1 : Int32) ≤ x2 ∧ x2 ≤ 99) → ((((0 : Int32) ≤ x3 ∧ x3 ≤ 2) → (zCt (rI h 165 238) 8 ∧ (((aliveM h x1) → (zcV M_X11_leads [.ref 164, .int x1, .int x2, .int 0] h (fun h1 => zG h1 ∧ ((¬ x3 = 0 → ((¬ x3 = 2 → ((rI h1 164 15 = 0 → (Q (rI h1 164 12) h1)) ∧ (¬ (rI h1 164 15 = 0) → (Q 0 h1)))) ∧ (x3 = 2 → (Q (rI h1 164 14) h1)))) ∧ (x3 = 0 → (Q (rI h1 164 11) h1)))))) ∧ (¬ (aliveM h x1) → (Q (-3) h))))) ∧ (¬ ((0 : Int32) ≤ x3 ∧ x3 ≤ 2) → (Q (-2) h))))))) : zcI M_X11_aim [.ref 164, .int x1, .int x2, .int x3] h Q := by
  show zw zNT zNT M_X11_aim 0 [some (.ref 164), some (.int x1), some (.int x2), some (.int x3)] [] h _
  refine z_aload_n (pc := 0) dX11_aim_0 rfl rfl ?_
  refine z_iload_n (pc := 1) dX11_aim_1 rfl rfl ?_
  refine q_invV (pc := 2) (As := [.int x1]) (st := []) dX11_aim_2 ok_X11_isThing ml_RX11_88 iv_X11_isThing pa_X11_isThing ⟨Nat.le_of_ble_eq_true rfl, Nat.le_of_ble_eq_true rfl⟩ (lyc rfl) (q_pI (s_X11_isThing G) rfl ?_)
  refine z_if_eq (pc := 5) (tgt := 27) dX11_aim_5 (by decide) (fun k9 => ?_) (fun k9 => ?_)
  · replace F := F.1 (zb0.mp k9)
    refine z_bipush (pc := 27) (v := -2) dX11_aim_27 (by decide) ?_
    exact q_retI (pc := 29) dX11_aim_29 rfl F
  · replace F := F.2 (zbn.mp k9)
    refine z_iload_n (pc := 8) dX11_aim_8 rfl rfl ?_
    refine z_iconst (pc := 9) (v := 1) dX11_aim_9 (by decide) ?_
    refine z_bipush (pc := 10) (v := 99) dX11_aim_10 (by decide) ?_
    refine q_invS (pc := 12) (As := [.int x2, .int 1, .int 99]) (st := []) dX11_aim_12 ok_X11_in ml_RX11_84 st_X11_in pa_X11_in ⟨Nat.le_of_ble_eq_true rfl, Nat.le_of_ble_eq_true rfl⟩ (q_pI (s_X11_in G) rfl ?_)
    refine z_if_eq (pc := 15) (tgt := 27) dX11_aim_15 (by decide) (fun k8 => ?_) (fun k8 => ?_)
    · replace F := F.1 (zb0.mp k8)
      refine z_bipush (pc := 27) (v := -2) dX11_aim_27 (by decide) ?_
      exact q_retI (pc := 29) dX11_aim_29 rfl F
    · replace F := F.2 (zbn.mp k8)
      refine z_iload_n (pc := 18) dX11_aim_18 rfl rfl ?_
      refine z_iconst (pc := 19) (v := 0) dX11_aim_19 (by decide) ?_
      refine z_iconst (pc := 20) (v := 2) dX11_aim_20 (by decide) ?_
      refine q_invS (pc := 21) (As := [.int x3, .int 0, .int 2]) (st := []) dX11_aim_21 ok_X11_in ml_RX11_84 st_X11_in pa_X11_in ⟨Nat.le_of_ble_eq_true rfl, Nat.le_of_ble_eq_true rfl⟩ (q_pI (s_X11_in G) rfl ?_)
      refine z_if_ne (pc := 24) (tgt := 30) dX11_aim_24 (by decide) (fun k7 => ?_) (fun k7 => ?_)
      · replace F := F.1 (zbn.mp k7)
        refine z_aload_n (pc := 30) dX11_aim_30 rfl rfl ?_
        refine z_iload_n (pc := 31) dX11_aim_31 rfl rfl ?_
        obtain ⟨k1, F⟩ := F
        refine q_invV (pc := 32) (As := [.int x1]) (st := []) dX11_aim_32 ok_X11_isAlive ml_RX11_100 iv_X11_isAlive pa_X11_isAlive ⟨Nat.le_of_ble_eq_true rfl, Nat.le_of_ble_eq_true rfl⟩ (lyc rfl) (q_pI (s_X11_isAlive G k1) rfl ?_)
        refine z_if_ne (pc := 35) (tgt := 41) dX11_aim_35 (by decide) (fun k6 => ?_) (fun k6 => ?_)
        · replace F := F.1 (zbn.mp k6)
          refine z_aload_n (pc := 41) dX11_aim_41 rfl rfl ?_
          refine z_iload_n (pc := 42) dX11_aim_42 rfl rfl ?_
          refine z_iload_n (pc := 43) dX11_aim_43 rfl rfl ?_
          refine z_iconst (pc := 44) (v := 0) dX11_aim_44 (by decide) ?_
          refine q_invV (pc := 45) (As := [.int x1, .int x2, .int 0]) (st := []) dX11_aim_45 ok_X11_leads ml_RX11_217 iv_X11_leads pa_X11_leads ⟨Nat.le_of_ble_eq_true rfl, Nat.le_of_ble_eq_true rfl⟩ (lyc rfl) (q_kV F (fun h1 F => ?_))
          obtain ⟨G1, F⟩ := F
          refine z_iload_n (pc := 48) dX11_aim_48 rfl rfl ?_
          refine z_if_ne (pc := 49) (tgt := 59) dX11_aim_49 (by decide) (fun k5 => ?_) (fun k5 => ?_)
          · replace F := F.1 k5
            refine z_iload_n (pc := 59) dX11_aim_59 rfl rfl ?_
            refine z_iconst (pc := 60) (v := 2) dX11_aim_60 (by decide) ?_
            refine z_icmp_ne (pc := 61) (tgt := 71) dX11_aim_61 (by decide) (fun k4 => ?_) (fun k4 => ?_)
            · replace F := F.1 k4
              refine z_aload_n (pc := 71) dX11_aim_71 rfl rfl ?_
              refine q_getI (pc := 72) (v := rI h1 164 15) dX11_aim_72 lk_RX11_210 (lyc rfl) rfl ?_
              refine z_if_eq (pc := 75) (tgt := 82) dX11_aim_75 (by decide) (fun k3 => ?_) (fun k3 => ?_)
              · replace F := F.1 k3
                refine z_aload_n (pc := 82) dX11_aim_82 rfl rfl ?_
                refine q_getI (pc := 83) (v := rI h1 164 12) dX11_aim_83 lk_RX11_204 (lyc rfl) rfl ?_
                exact q_retI (pc := 86) dX11_aim_86 rfl F
              · replace F := F.2 k3
                refine z_iconst (pc := 78) (v := 0) dX11_aim_78 (by decide) ?_
                refine z_goto (pc := 79) (tgt := 86) dX11_aim_79 (by decide) ?_
                exact q_retI (pc := 86) dX11_aim_86 rfl F
            · replace F := F.2 k4
              refine z_aload_n (pc := 64) dX11_aim_64 rfl rfl ?_
              refine q_getI (pc := 65) (v := rI h1 164 14) dX11_aim_65 lk_RX11_207 (lyc rfl) rfl ?_
              refine z_goto (pc := 68) (tgt := 86) dX11_aim_68 (by decide) ?_
              exact q_retI (pc := 86) dX11_aim_86 rfl F
          · replace F := F.2 k5
            refine z_aload_n (pc := 52) dX11_aim_52 rfl rfl ?_
            refine q_getI (pc := 53) (v := rI h1 164 11) dX11_aim_53 lk_RX11_201 (lyc rfl) rfl ?_
            refine z_goto (pc := 56) (tgt := 86) dX11_aim_56 (by decide) ?_
            exact q_retI (pc := 86) dX11_aim_86 rfl F
        · replace F := F.2 (zb0.mp k6)
          refine z_bipush (pc := 38) (v := -3) dX11_aim_38 (by decide) ?_
          exact q_retI (pc := 40) dX11_aim_40 rfl F
      · replace F := F.2 (zb0.mp k7)
        refine z_bipush (pc := 27) (v := -2) dX11_aim_27 (by decide) ?_
        exact q_retI (pc := 29) dX11_aim_29 rfl F
theorem g_X10_shown {x1 : Int32} {h : zHp} {Q : Int32 → zHp → Prop}  (G : zG h) (F : (-1 ≤ x1 → ((¬ x1 = -1 → ((rI h 0 11 ≤ x1 → (Q (-1) h)) ∧ (¬ (rI h 0 11 ≤ x1) → ((x1 < 40 → (vp_in x1 40 ∧ (Q (rI h 155 ((Int32.toNatClampNeg x1))) h))) ∧ (¬ (x1 < 40) → (Q (-1) h)))))) ∧ (x1 = -1 → (Q (rI h 0 11) h)))) ∧ (¬ (-1 ≤ x1) → (Q (-2) h))) : zcI M_X10_shown [.ref 0, .int x1] h Q := by
  show zw zNT zNT M_X10_shown 0 [some (.ref 0), some (.int x1)] [] h _
  refine z_iload_n (pc := 0) dX10_shown_0 rfl rfl ?_
  refine z_iconst (pc := 1) (v := -1) dX10_shown_1 (by decide) ?_
  refine z_icmp_ge (pc := 2) (tgt := 8) dX10_shown_2 (by decide) (fun k5 => ?_) (fun k5 => ?_)
  · replace F := F.1 k5
    refine z_iload_n (pc := 8) dX10_shown_8 rfl rfl ?_
    refine z_iconst (pc := 9) (v := -1) dX10_shown_9 (by decide) ?_
    refine z_icmp_ne (pc := 10) (tgt := 18) dX10_shown_10 (by decide) (fun k4 => ?_) (fun k4 => ?_)
    · replace F := F.1 k4
      refine z_iload_n (pc := 18) dX10_shown_18 rfl rfl ?_
      refine z_aload_n (pc := 19) dX10_shown_19 rfl rfl ?_
      refine q_getI (pc := 20) (v := rI h 0 11) dX10_shown_20 lk_RX10_75 (lyc rfl) rfl ?_
      refine z_icmp_ge (pc := 23) (tgt := 32) dX10_shown_23 (by decide) (fun k3 => ?_) (fun k3 => ?_)
      · replace F := F.1 k3
        refine z_iconst (pc := 32) (v := -1) dX10_shown_32 (by decide) ?_
        exact q_retI (pc := 33) dX10_shown_33 rfl F
      · replace F := F.2 k3
        refine z_iload_n (pc := 26) dX10_shown_26 rfl rfl ?_
        refine z_bipush (pc := 27) (v := 40) dX10_shown_27 (by decide) ?_
        refine z_icmp_lt (pc := 29) (tgt := 34) dX10_shown_29 (by decide) (fun k2 => ?_) (fun k2 => ?_)
        · replace F := F.1 k2
          refine z_aload_n (pc := 34) dX10_shown_34 rfl rfl ?_
          refine q_getR (pc := 35) (i := 155) dX10_shown_35 lk_RX10_63 (lyc rfl) (G 0 10 155 rfl) ?_
          refine z_iload_n (pc := 38) dX10_shown_38 rfl rfl ?_
          obtain ⟨k1, F⟩ := F
          refine q_iald (pc := 39) (j := (Int32.toNatClampNeg x1)) (v := rI h 155 ((Int32.toNatClampNeg x1))) dX10_shown_39 (lyc rfl) (zvn (lnc rfl) k1) rfl rfl ?_
          exact q_retI (pc := 40) dX10_shown_40 rfl F
        · replace F := F.2 k2
          refine z_iconst (pc := 32) (v := -1) dX10_shown_32 (by decide) ?_
          exact q_retI (pc := 33) dX10_shown_33 rfl F
    · replace F := F.2 k4
      refine z_aload_n (pc := 13) dX10_shown_13 rfl rfl ?_
      refine q_getI (pc := 14) (v := rI h 0 11) dX10_shown_14 lk_RX10_75 (lyc rfl) rfl ?_
      exact q_retI (pc := 17) dX10_shown_17 rfl F
  · replace F := F.2 k5
    refine z_bipush (pc := 5) (v := -2) dX10_shown_5 (by decide) ?_
    exact q_retI (pc := 7) dX10_shown_7 rfl F
theorem g_X11_shown {x1 : Int32} {h : zHp} {Q : Int32 → zHp → Prop}  (G : zG h) (F : (-1 ≤ x1 → ((¬ x1 = -1 → ((rI h 164 19 ≤ x1 → (Q (-1) h)) ∧ (¬ (rI h 164 19 ≤ x1) → (vp_in x1 41 ∧ (Q (rI h 173 ((Int32.toNatClampNeg x1))) h))))) ∧ (x1 = -1 → (Q (rI h 164 19) h)))) ∧ (¬ (-1 ≤ x1) → (Q (-2) h))) : zcI M_X11_shown [.ref 164, .int x1] h Q := by
  show zw zNT zNT M_X11_shown 0 [some (.ref 164), some (.int x1)] [] h _
  refine z_iload_n (pc := 0) dX11_shown_0 rfl rfl ?_
  refine z_iconst (pc := 1) (v := -1) dX11_shown_1 (by decide) ?_
  refine z_icmp_ge (pc := 2) (tgt := 10) dX11_shown_2 (by decide) (fun k4 => ?_) (fun k4 => ?_)
  · replace F := F.1 k4
    refine z_iload_n (pc := 10) dX11_shown_10 rfl rfl ?_
    refine z_iconst (pc := 11) (v := -1) dX11_shown_11 (by decide) ?_
    refine z_icmp_ne (pc := 12) (tgt := 22) dX11_shown_12 (by decide) (fun k3 => ?_) (fun k3 => ?_)
    · replace F := F.1 k3
      refine z_iload_n (pc := 22) dX11_shown_22 rfl rfl ?_
      refine z_aload_n (pc := 23) dX11_shown_23 rfl rfl ?_
      refine q_getI (pc := 24) (v := rI h 164 19) dX11_shown_24 lk_RX11_156 (lyc rfl) rfl ?_
      refine z_icmp_ge (pc := 27) (tgt := 39) dX11_shown_27 (by decide) (fun k2 => ?_) (fun k2 => ?_)
      · replace F := F.1 k2
        refine z_iconst (pc := 39) (v := -1) dX11_shown_39 (by decide) ?_
        exact q_retI (pc := 40) dX11_shown_40 rfl F
      · replace F := F.2 k2
        refine z_aload_n (pc := 30) dX11_shown_30 rfl rfl ?_
        refine q_getR (pc := 31) (i := 173) dX11_shown_31 lk_RX11_34 (lyc rfl) (G 164 18 173 rfl) ?_
        refine z_iload_n (pc := 34) dX11_shown_34 rfl rfl ?_
        obtain ⟨k1, F⟩ := F
        refine q_iald (pc := 35) (j := (Int32.toNatClampNeg x1)) (v := rI h 173 ((Int32.toNatClampNeg x1))) dX11_shown_35 (lyc rfl) (zvn (lnc rfl) k1) rfl rfl ?_
        refine z_goto (pc := 36) (tgt := 40) dX11_shown_36 (by decide) ?_
        exact q_retI (pc := 40) dX11_shown_40 rfl F
    · replace F := F.2 k3
      refine z_aload_n (pc := 15) dX11_shown_15 rfl rfl ?_
      refine q_getI (pc := 16) (v := rI h 164 19) dX11_shown_16 lk_RX11_156 (lyc rfl) rfl ?_
      refine z_goto (pc := 19) (tgt := 40) dX11_shown_19 (by decide) ?_
      exact q_retI (pc := 40) dX11_shown_40 rfl F
  · replace F := F.2 k4
    refine z_bipush (pc := 5) (v := -2) dX11_shown_5 (by decide) ?_
    refine z_goto (pc := 7) (tgt := 40) dX11_shown_7 (by decide) ?_
    exact q_retI (pc := 40) dX11_shown_40 rfl F
theorem g_X10_image  {h : zHp} {Q : Int32 → zHp → Prop}  (G : zG h) (F : zcV M_X8_copyFrom [.ref 93, .ref 2] h (fun h1 => zG h1 ∧ (Q (rI h1 2 1) (wI h1 0 5 1)))) : zcI M_X10_image [.ref 0] h Q := by
  show zw zNT zNT M_X10_image 0 [some (.ref 0)] [] h _
  refine z_aload_n (pc := 0) dX10_image_0 rfl rfl ?_
  refine q_getR (pc := 1) (i := 93) dX10_image_1 lk_RX10_34 (lyc rfl) (G 0 4 93 rfl) ?_
  refine z_aload_n (pc := 4) dX10_image_4 rfl rfl ?_
  refine q_getR (pc := 5) (i := 2) dX10_image_5 lk_RX10_20 (lyc rfl) (G 0 1 2 rfl) ?_
  refine q_invV (pc := 8) (As := [.ref 2]) (st := []) dX10_image_8 ok_X8_copyFrom ml_RX10_253 iv_X8_copyFrom pa_X8_copyFrom ⟨Nat.le_of_ble_eq_true rfl, Nat.le_of_ble_eq_true rfl⟩ (lyc rfl) (q_kV F (fun h1 F => ?_))
  obtain ⟨G1, F⟩ := F
  refine z_aload_n (pc := 11) dX10_image_11 rfl rfl ?_
  refine z_iconst (pc := 12) (v := 1) dX10_image_12 (by decide) ?_
  refine q_putB (pc := 13) dX10_image_13 lk_RX10_371 (lyc rfl) (Or.inr rfl) ?_
  refine z_aload_n (pc := 16) dX10_image_16 rfl rfl ?_
  refine q_getR (pc := 17) (i := 2) dX10_image_17 lk_RX10_20 (lyc rfl) (G1 0 1 2 rfl) ?_
  refine q_getI (pc := 20) (v := rI h1 2 1) dX10_image_20 lk_RX10_68 (lyc rfl) (rI_k (by decide)) ?_
  exact q_retI (pc := 23) dX10_image_23 rfl F
theorem g_X11_image  {h : zHp} {Q : Int32 → zHp → Prop}  (G : zG h) (F : zcV M_X11_copies [.ref 165, .ref 166] h (fun h1 => zG h1 ∧ (Q (rI h1 165 238) (wI h1 164 3 1)))) : zcI M_X11_image [.ref 164] h Q := by
  show zw zNT zNT M_X11_image 0 [some (.ref 164)] [] h _
  refine z_aload_n (pc := 0) dX11_image_0 rfl rfl ?_
  refine q_getR (pc := 1) (i := 165) dX11_image_1 lk_RX11_7 (lyc rfl) (G 164 0 165 rfl) ?_
  refine z_aload_n (pc := 4) dX11_image_4 rfl rfl ?_
  refine q_getR (pc := 5) (i := 166) dX11_image_5 lk_RX11_13 (lyc rfl) (G 164 1 166 rfl) ?_
  refine q_invS (pc := 8) (As := [.ref 165, .ref 166]) (st := []) dX11_image_8 ok_X11_copies ml_RX11_230 st_X11_copies pa_X11_copies ⟨Nat.le_of_ble_eq_true rfl, Nat.le_of_ble_eq_true rfl⟩ (q_kV F (fun h1 F => ?_))
  obtain ⟨G1, F⟩ := F
  refine z_aload_n (pc := 11) dX11_image_11 rfl rfl ?_
  refine z_iconst (pc := 12) (v := 1) dX11_image_12 (by decide) ?_
  refine q_putB (pc := 13) dX11_image_13 lk_RX11_314 (lyc rfl) (Or.inr rfl) ?_
  refine z_aload_n (pc := 16) dX11_image_16 rfl rfl ?_
  refine q_getR (pc := 17) (i := 165) dX11_image_17 lk_RX11_7 (lyc rfl) (G1 164 0 165 rfl) ?_
  refine z_sipush (pc := 20) (v := 238) dX11_image_20 (by decide) ?_
  refine q_iald (pc := 23) (j := 238) (v := rI h1 165 238) dX11_image_23 (lyc rfl) (zvl (lnc rfl) (by decide)) (by decide) (rI_k (by decide)) ?_
  exact q_retI (pc := 24) dX11_image_24 rfl F
theorem g_X10_back  {h : zHp} {Q : Int32 → zHp → Prop}  (G : zG h) (F : (¬ rI h 0 5 = 0 → (zcV M_X8_copyFrom [.ref 2, .ref 93] h (fun h1 => zG h1 ∧ (zcV M_X2_make [.ref 42, .ref 2, .int 5] h1 (fun h2 => zG h2 ∧ (Q (rI h2 2 1) h2)))))) ∧ (rI h 0 5 = 0 → (Q (-3) h))) : zcI M_X10_back [.ref 0] h Q := by
  show zw zNT zNT M_X10_back 0 [some (.ref 0)] [] h _
  refine z_aload_n (pc := 0) dX10_back_0 rfl rfl ?_
  refine q_getI (pc := 1) (v := rI h 0 5) dX10_back_1 lk_RX10_371 (lyc rfl) rfl ?_
  refine z_if_ne (pc := 4) (tgt := 10) dX10_back_4 (by decide) (fun k3 => ?_) (fun k3 => ?_)
  · replace F := F.1 k3
    refine z_aload_n (pc := 10) dX10_back_10 rfl rfl ?_
    refine q_getR (pc := 11) (i := 2) dX10_back_11 lk_RX10_20 (lyc rfl) (G 0 1 2 rfl) ?_
    refine z_aload_n (pc := 14) dX10_back_14 rfl rfl ?_
    refine q_getR (pc := 15) (i := 93) dX10_back_15 lk_RX10_34 (lyc rfl) (G 0 4 93 rfl) ?_
    refine q_invV (pc := 18) (As := [.ref 93]) (st := []) dX10_back_18 ok_X8_copyFrom ml_RX10_253 iv_X8_copyFrom pa_X8_copyFrom ⟨Nat.le_of_ble_eq_true rfl, Nat.le_of_ble_eq_true rfl⟩ (lyc rfl) (q_kV F (fun h1 F => ?_))
    obtain ⟨G1, F⟩ := F
    refine z_aload_n (pc := 21) dX10_back_21 rfl rfl ?_
    refine q_getR (pc := 22) (i := 42) dX10_back_22 lk_RX10_27 (lyc rfl) (G1 0 2 42 rfl) ?_
    refine z_aload_n (pc := 25) dX10_back_25 rfl rfl ?_
    refine q_getR (pc := 26) (i := 2) dX10_back_26 lk_RX10_20 (lyc rfl) (G1 0 1 2 rfl) ?_
    refine z_iconst (pc := 29) (v := 5) dX10_back_29 (by decide) ?_
    refine q_invV (pc := 30) (As := [.ref 2, .int 5]) (st := []) dX10_back_30 ok_X2_make ml_RX10_78 iv_X2_make pa_X2_make ⟨Nat.le_of_ble_eq_true rfl, Nat.le_of_ble_eq_true rfl⟩ (lyc rfl) (q_kV F (fun h2 F => ?_))
    obtain ⟨G2, F⟩ := F
    refine z_aload_n (pc := 33) dX10_back_33 rfl rfl ?_
    refine q_getR (pc := 34) (i := 2) dX10_back_34 lk_RX10_20 (lyc rfl) (G2 0 1 2 rfl) ?_
    refine q_getI (pc := 37) (v := rI h2 2 1) dX10_back_37 lk_RX10_68 (lyc rfl) rfl ?_
    exact q_retI (pc := 40) dX10_back_40 rfl F
  · replace F := F.2 k3
    refine z_bipush (pc := 7) (v := -3) dX10_back_7 (by decide) ?_
    exact q_retI (pc := 9) dX10_back_9 rfl F
theorem g_X11_back  {h : zHp} {Q : Int32 → zHp → Prop}  (G : zG h) (F : (¬ rI h 164 3 = 0 → (zcV M_X11_copies [.ref 166, .ref 165] h (fun h1 => zG h1 ∧ (Q (rI h1 165 238) h1)))) ∧ (rI h 164 3 = 0 → (Q (-3) h))) : zcI M_X11_back [.ref 164] h Q := by
  show zw zNT zNT M_X11_back 0 [some (.ref 164)] [] h _
  refine z_aload_n (pc := 0) dX11_back_0 rfl rfl ?_
  refine q_getI (pc := 1) (v := rI h 164 3) dX11_back_1 lk_RX11_314 (lyc rfl) rfl ?_
  refine z_if_ne (pc := 4) (tgt := 10) dX11_back_4 (by decide) (fun k2 => ?_) (fun k2 => ?_)
  · replace F := F.1 k2
    refine z_aload_n (pc := 10) dX11_back_10 rfl rfl ?_
    refine q_getR (pc := 11) (i := 166) dX11_back_11 lk_RX11_13 (lyc rfl) (G 164 1 166 rfl) ?_
    refine z_aload_n (pc := 14) dX11_back_14 rfl rfl ?_
    refine q_getR (pc := 15) (i := 165) dX11_back_15 lk_RX11_7 (lyc rfl) (G 164 0 165 rfl) ?_
    refine q_invS (pc := 18) (As := [.ref 166, .ref 165]) (st := []) dX11_back_18 ok_X11_copies ml_RX11_230 st_X11_copies pa_X11_copies ⟨Nat.le_of_ble_eq_true rfl, Nat.le_of_ble_eq_true rfl⟩ (q_kV F (fun h1 F => ?_))
    obtain ⟨G1, F⟩ := F
    refine z_aload_n (pc := 21) dX11_back_21 rfl rfl ?_
    refine q_getR (pc := 22) (i := 165) dX11_back_22 lk_RX11_7 (lyc rfl) (G1 164 0 165 rfl) ?_
    refine z_sipush (pc := 25) (v := 238) dX11_back_25 (by decide) ?_
    refine q_iald (pc := 28) (j := 238) (v := rI h1 165 238) dX11_back_28 (lyc rfl) (zvl (lnc rfl) (by decide)) (by decide) rfl ?_
    exact q_retI (pc := 29) dX11_back_29 rfl F
  · replace F := F.2 k2
    refine z_bipush (pc := 7) (v := -3) dX11_back_7 (by decide) ?_
    exact q_retI (pc := 9) dX11_back_9 rfl F
def bc1 (x : Int32) : Int32 := x - (us x 1 &&& 1431655765)
def bc2 (x : Int32) : Int32 := (x &&& 858993459) + (us x 2 &&& 858993459)
def bc3 (x : Int32) : Int32 := (x + us x 4) &&& 252645135
def bc4 (x : Int32) : Int32 := x + us x 8
def bc5 (x : Int32) : Int32 := x + us x 16
def bcn (x : Int32) : Int32 := bc5 (bc4 (bc3 (bc2 (bc1 x)))) &&& 63
theorem s_bitCount {x : Int32} {h : zHp} (G : zG h) : zcI M_J6_bitCount_0f7a4 [.int x] h (fun r h' => r = bcn x ∧ h' = h) := g_J6_bitCount_0f7a4 G ⟨rfl, rfl⟩
def cntB : Nat → (Nat → Bool) → Nat
  | 0, _ => 0
  | n + 1, f => cntB n f + (if f n then 1 else 0)
theorem nb_B {f : Nat → Bool} : ∀ n, nb n (fun k => f k = true) = cntB n f := by
  intro n
  induction n with
  | zero => rfl
  | succ n ih =>
    rw [nb, cntB, ih]
    by_cases z : f n = true
    · rw [if_pos z, if_pos z]
    · rw [if_neg z, if_neg z]
theorem bcn_all : ∀ m, m < 256 → bcn (nI m) = nI (cntB 8 (fun k => m.testBit k)) := by decide +kernel
theorem bcn_nb {x : Int32} (h : ∀ k, k < 32 → bi x (nI k) → k < 8) : bcn x = nI (nb 8 (fun k => bi x (nI k))) := by
  obtain ⟨m, hm, rfl⟩ := S_nI (n := 8) (by omega) h
  have e : nb 8 (fun k => bi (nI m) (nI k)) = nb 8 (fun k => m.testBit k = true) := nb_congr (fun k hk => by rw [bi_bt (by omega), bt_nI (by omega)])
  rw [bcn_all m (by omega), ← nb_B, e]
def WU (s : Wst) : Prop := (∀ k, k < 32 → bi s.2.2.2.1 (nI k) → k < 8) ∧ nb 8 (fun k => bi s.2.2.2.1 (nI k)) = s.2.2.2.2.2
theorem Ws_U {N L : zN} {s : Wst} {r : Nat} (hr : r < 8) (ok : Rl N L s.2.2.2.1 s.1 r) (h : WU s) : WU (Ws N r s) := by
  have bits : ∀ k, k < 32 → (bi (Ws N r s).2.2.2.1 (nI k) ↔ bi s.2.2.2.1 (nI k) ∨ k = r) := fun k hk => by
    show bi (s.2.2.2.1 ||| ((1 : Int32) <<< (nI r &&& 31))) (nI k) ↔ _
    rw [bi_or hk, bi_pw (by omega) hk]
  refine ⟨fun k hk hb => ?_, ?_⟩
  · rcases (bits k hk).mp hb with z | z
    · exact h.1 k hk z
    · omega
  · have e := nb_one (n := 8) (e := r) (p := fun k => bi (Ws N r s).2.2.2.1 (nI k)) hr ((bits r (by omega)).mpr (Or.inr rfl))
    have e2 : nb 8 (fun k => bi (Ws N r s).2.2.2.1 (nI k) ∧ k ≠ r) = nb 8 (fun k => bi s.2.2.2.1 (nI k)) := nb_congr (fun k hk => by
      rw [bits k (by omega)]
      constructor
      · rintro ⟨z | z, y⟩
        · exact z
        · exact absurd z y
      · intro z
        exact ⟨Or.inl z, fun y => ok.1 (by rw [← y]; exact z)⟩)
    rw [e2, h.2] at e
    exact e.symm
theorem wy_U {N : zN} {t : Nat} {n : Int32} (hC : CN N) : WU (wy N t n) :=
  Wy_inv (P := WU) (fun s r hr _ _ ok h => Ws_U (by have := hC.2.2.1.2; omega) ok h) hC.2.2.1.2 8 _ ⟨fun k hk hb => absurd hb (bi_zero hk), nb_0.mpr (fun k hk hb => bi_zero (by omega) hb)⟩
noncomputable def o_aim (N : zN) (t n k : Int32) : Int32 := @ite _ ((0 ≤ t ∧ t ≤ N 238 - 1) ∧ ((1 : Int32) ≤ n ∧ n ≤ 99) ∧ ((0 : Int32) ≤ k ∧ k ≤ 2)) (Classical.propDecidable _) (if N (10 * t.toNatClampNeg + 5) = 1 then (if k = 0 then nI (wy N t.toNatClampNeg n).1 else if k = 1 then (if (wy N t.toNatClampNeg n).2.2.1 = 0 then (wy N t.toNatClampNeg n).2.1 else 0) else nI (wy N t.toNatClampNeg n).2.2.2.2.2) else -3) (-2)
theorem sim_aim {t n k : Int32} : Sim M_X10_aim M_X11_aim [.int t, .int n, .int k] := by
  refine simQ (ans := fun N => o_aim N t n k) (fun h N G q I => ?_) (fun h N G q e top => ?_)
  · obtain ⟨hC, hQ, hS⟩ := q
    have I0 := I
    obtain ⟨hP, hR, hL, ht⟩ := I
    have h8 := hC.1.2
    have bad : ¬ ((0 ≤ t ∧ t ≤ N 238 - 1) ∧ ((1 : Int32) ≤ n ∧ n ≤ 99) ∧ ((0 : Int32) ≤ k ∧ k ≤ 2)) → (-2 = o_aim N t n k ∧ fZ h h ∧ IC h N) := fun z => by
      unfold o_aim
      rw [if_neg z]
      exact ⟨rfl, fZ.rf, I0⟩
    refine g_X10_aim G ?_
    rw [hR.1.1]
    refine ⟨fun z => bad (fun y => z y.1), fun z1 => ⟨fun z => bad (fun y => z y.2.1), fun z2 => ⟨fun z3 => ?_, fun z => bad (fun y => z y.2.2)⟩⟩⟩
    unfold o_aim
    rw [if_pos ⟨z1, z2, z3⟩]
    rw [hC.1.1] at z1
    obtain ⟨j, hj, rfl⟩ := zsm (by omega) z1
    have w5 : rI h (8 + j) 5 = N (10 * j + 5) := hR.2.1 j 5 hj (by omega)
    rw [nI_clamp (by omega), w5]
    refine ⟨vp_in_nI (by omega) (by omega), fun y => ?_, fun y => ?_⟩
    · have al : N (10 * j + 5) = 1 := (hQ.n.1 j hj).resolve_left y
      rw [if_pos al]
      have fo := s_X9_follow (n := n) G (Or.inr rfl) (Or.inl rfl) (Or.inl rfl) hC hP hR hQ.n hQ.o hj al
      rw [Wy_rq hC hL.2.1 8 (j, n, 0, 0, fun _ => 0, 0) hj al] at fo
      change zcV _ _ _ (fun h' => fU 139 h h' ∧ WC h' 139 (wy N j n)) at fo
      refine zcV_then fo (fun h1 hh => ⟨zG_of hh.1.1 G, ?_⟩)
      obtain ⟨f1, c0, c1, c2, c3, c4⟩ := hh
      have fz : fZ h h1 := ⟨fun a ha => f1.2 a (by omega) (by omega), fun a _ _ _ => by rw [f1.1]⟩
      have ic : IC h1 N := IC_of f1.1 (fun a ha => f1.2 a (by omega) (by omega)) hC I0
      rw [c0, c1, c2, c3]
      have u := wy_U (N := N) (t := j) (n := n) hC
      refine ⟨fun x => ⟨fun x1 => ?_, fun x1 => ⟨fun x2 => ?_, fun x2 => ?_⟩⟩, fun x => ?_⟩
      · refine zcI_use (s_bitCount (zG_of f1.1 G)) ⟨zG_of f1.1 G, ?_, fz, ic⟩
        rw [if_neg x, if_neg x1, bcn_nb u.1, u.2]
      · rw [if_neg x, if_pos x1, if_pos x2]; exact ⟨rfl, fz, ic⟩
      · rw [if_neg x, if_pos x1, if_neg x2]; exact ⟨rfl, fz, ic⟩
      · rw [if_pos x]; exact ⟨rfl, fz, ic⟩
    · rw [if_neg (by rw [y]; decide)]
      exact ⟨rfl, fZ.rf, I0⟩
  · obtain ⟨hC, hQ, hS⟩ := q
    have h8 := hC.1.2
    have bad : ¬ ((0 ≤ t ∧ t ≤ N 238 - 1) ∧ ((1 : Int32) ≤ n ∧ n ≤ 99) ∧ ((0 : Int32) ≤ k ∧ k ≤ 2)) → (-2 = o_aim N t n k ∧ fV h h ∧ h.1 165 = N ∧ ∃ m, rI h 164 10 = nI m) := fun z => by
      unfold o_aim
      rw [if_neg z]
      exact ⟨rfl, fV.rf, e, top⟩
    have e238 : rI h 165 238 = nI (cT N) := by rw [rdN e]; exact hC.1.1
    refine g_X11_aim G ?_
    rw [rdN e 238]
    refine ⟨fun z => bad (fun y => z y.1), fun z1 => ⟨fun z => bad (fun y => z y.2.1), fun z2 => ⟨fun z3 => ?_, fun z => bad (fun y => z y.2.2)⟩⟩⟩
    unfold o_aim
    rw [if_pos ⟨z1, z2, z3⟩]
    rw [hC.1.1] at z1
    obtain ⟨j, hj, rfl⟩ := zsm (by omega) z1
    rw [nI_clamp (by omega)]
    refine ⟨hC.t, fun y => ?_, fun y => ?_⟩
    · have al : N (10 * j + 5) = 1 := by have := (aliveM_nI e238 h8 hj).mp y; rw [e] at this; exact this
      rw [if_pos al]
      refine zcV_then (s_X11_leads (fl := 0) (n := n) G hC e hQ.o hj al) (fun h1 hh => ⟨zG_of hh.1.1 G, ?_⟩)
      obtain ⟨f1, ⟨w1, w2, w3, w4, w5, w6⟩, m1, -⟩ := hh
      change rI h1 164 11 = nI (wy N j n).1 at w1
      change rI h1 164 12 = (wy N j n).2.1 at w2
      change rI h1 164 15 = (wy N j n).2.2.1 at w3
      change rI h1 164 14 = nI (wy N j n).2.2.2.2.2 at w6
      rw [Sp_0] at w5
      have fv := f1.h.v
      have t1 : ∃ m, rI h1 164 10 = nI m := by
        obtain ⟨m, hm⟩ := top
        exact ⟨m, by show h1.1 164 10 = _; rw [f1.2.2 10 (by decide) (by omega)]; exact hm⟩
      rw [w1, w2, w3, w6]
      refine ⟨fun x => ⟨fun x1 => ?_, fun x1 => ?_⟩, fun x => ?_⟩
      · have k1 : k = 1 := by
          obtain ⟨m, hm, rfl⟩ := nI_of2 (x := k) (M := 2) (n := 2) rfl (Int32.not_lt.mpr z3.1) z3.2
          rcases (by omega : m = 0 ∨ m = 1 ∨ m = 2) with z | z | z <;> subst z
          · exact absurd rfl x
          · rfl
          · exact absurd rfl x1
        rw [if_neg x, if_pos k1]
        exact ⟨fun x2 => by rw [if_pos x2]; exact ⟨rfl, fv, w5, t1⟩, fun x2 => by rw [if_neg x2]; exact ⟨rfl, fv, w5, t1⟩⟩
      · rw [if_neg x, if_neg (by rw [x1]; decide)]; exact ⟨rfl, fv, w5, t1⟩
      · rw [if_pos x]; exact ⟨rfl, fv, w5, t1⟩
    · have al : ¬ N (10 * j + 5) = 1 := fun x => y ((aliveM_nI e238 h8 hj).mpr (by rw [e]; exact x))
      rw [if_neg al]
      exact ⟨rfl, fV.rf, e, top⟩
theorem sim_shown {i : Int32} : Sim M_X10_shown M_X11_shown [.int i] := by
  intro h I
  have I0 := I
  obtain ⟨G, iq, ic, io⟩ := I
  obtain ⟨m, s1, s2, s3, s4⟩ := io.2.2.2.1
  have fin : ∀ v, (-1 ≤ i → (¬ i = -1 → ((nI m ≤ i → v = -1) ∧ (¬ nI m ≤ i → vp_in i 41 ∧ v = rI h 173 i.toNatClampNeg))) ∧ (i = -1 → v = nI m)) ∧ (¬ -1 ≤ i → v = -2) → zG h ∧ zcI M_X11_shown [.ref 164, .int i] h (fun v' h2 => zG h2 ∧ v = v' ∧ INV h2) := by
    intro v F
    refine ⟨G, g_X11_shown G ?_⟩
    rw [s3]
    exact ⟨fun z => ⟨fun y => ⟨fun x => ⟨G, (((F.1 z).1 y).1 x), I0⟩, fun x => ⟨(((F.1 z).1 y).2 x).1, G, (((F.1 z).1 y).2 x).2, I0⟩⟩, fun y => ⟨G, (F.1 z).2 y, I0⟩⟩, fun z => ⟨G, F.2 z, I0⟩⟩
  refine g_X10_shown G ?_
  rw [s2]
  refine ⟨fun z => ⟨fun y => ?_, fun y => fin _ ⟨fun _ => ⟨fun x => absurd y x, fun _ => rfl⟩, fun x => absurd z x⟩⟩, fun z => fin _ ⟨fun x => absurd x z, fun _ => rfl⟩⟩
  obtain ⟨j, hj, rfl⟩ := nI_of (m1_le z y)
  refine ⟨fun x => fin _ ⟨fun _ => ⟨fun _ => ⟨fun _ => rfl, fun w => absurd x w⟩, fun w => absurd w y⟩, fun w => absurd z w⟩, fun x => ⟨fun w => ?_, fun w => ?_⟩⟩
  · have jm : j < m := (nI_ltI hj (by omega)).mp (Int32.not_le.mp x)
    rw [nI_clamp hj] at fin ⊢
    exact ⟨vp_in_nI (by omega) (by omega), fin _ ⟨fun _ => ⟨fun _ => ⟨fun u => absurd u x, fun _ => ⟨vp_in_nI (by omega) (by omega), s4 j jm⟩⟩, fun u => absurd u y⟩, fun u => absurd z u⟩⟩
  · exact absurd (nI_lt (b := 40) (Nat.lt_of_lt_of_le ((nI_ltI hj (by omega)).mp (Int32.not_le.mp x)) s1) (by omega)) w
theorem IOi_of {h h' : zHp} (I : IOi h) (p : PW h 93) (e05 : h'.1 0 5 = h.1 0 5) (e3 : h'.1 164 3 = h.1 164 3) (e6 : h'.1 166 = h.1 166) (fw : ∀ a, 93 ≤ a → a < 133 → h'.1 a = h.1 a) (f2 : ∀ a, 95 ≤ a → a < 98 → h'.2 a = h.2 a) : IOi h' := by
  obtain ⟨i1, i2, i3⟩ := I
  refine ⟨by show h'.1 0 5 = h'.1 164 3; rw [e05, e3]; exact i1, by show zB (h'.1 0 5); rw [e05]; exact i2, fun z => ?_⟩
  change ¬ h'.1 0 5 = 0 at z
  rw [e05] at z
  obtain ⟨a, b⟩ := i3 z
  rw [e6]
  exact ⟨a, RW_of2 (fun x h1 h2 => f2 x (by omega) (by omega)) (fun x h1 h2 => fw x (by omega) (by omega)) p a.1 b⟩
theorem IOs_of {h h' : zHp} (I : IOs h) (e0 : h'.1 0 11 = h.1 0 11) (e19 : h'.1 164 19 = h.1 164 19) (e1 : h'.1 155 = h.1 155) (e2 : h'.1 173 = h.1 173) : IOs h' := by
  obtain ⟨m, s1, s2, s3, s4⟩ := I
  exact ⟨m, s1, by show h'.1 0 11 = _; rw [e0]; exact s2, by show h'.1 164 19 = _; rw [e19]; exact s3, fun i hi => by show h'.1 155 i = h'.1 173 i; rw [e1, e2]; exact s4 i hi⟩
theorem IOt_of {h h' : zHp} (I : IOt h) (e0 : h'.1 141 1 = h.1 141 1) (e21 : h'.1 164 21 = h.1 164 21) (e1 : h'.1 142 = h.1 142) (e2 : h'.1 174 = h.1 174) : IOt h' := by
  obtain ⟨L, t1, t2, t3, t4⟩ := I
  exact ⟨L, t1, by show h'.1 141 1 = _; rw [e0]; exact t2, by show h'.1 164 21 = _; rw [e21]; exact t3, fun i hi => by show h'.1 142 i = (h'.1 174 i).toInt8.toInt32 ∧ iv 0 255 (h'.1 174 i); rw [e1, e2]; exact t4 i hi⟩
theorem IOh_of {h h' : zHp} (I : IOh h) (e : ∀ a, (156 ≤ a ∧ a < 164) ∨ (178 ≤ a ∧ a ≤ 180) → h'.1 a = h.1 a) : IOh h' := by
  have r : ∀ a k, (156 ≤ a ∧ a < 164) ∨ (178 ≤ a ∧ a ≤ 180) → rI h' a k = rI h a k := fun a k ha => by show h'.1 a k = h.1 a k; rw [e a ha]
  intro s hs
  obtain ⟨a, b, c⟩ := I s hs
  rw [r (156 + 2 * s) 0 (by omega), r (156 + 2 * s) 1 (by omega), r 178 s (by omega), r 179 s (by omega)]
  exact ⟨a, b, fun i hi => by rw [r _ i (by omega), r 180 _ (by omega)]; exact c i hi⟩
theorem cp_eqR {A B : zN} : eqR A (cp A B) := fun i hi => by unfold cp; rw [if_pos hi]
theorem sim_image : Sim M_X10_image M_X11_image [] := by
  intro h I
  obtain ⟨G, iq, ic, io⟩ := I
  have hC := iq.1
  obtain ⟨⟨p1, p2⟩, ⟨n, hn⟩, ii, is, it, ih⟩ := io
  refine g_X10_image G (zcV_then (s_X8_copyFrom (B := 2) (C := 93) G (Or.inl rfl) (Or.inr (Or.inr rfl)) (by decide) hC iq.2.1.n ic.1 p2 ic.2.1) (fun h1 hh => ⟨zG_of hh.1.1 G, zG_of hh.1.1 G, ?_⟩))
  obtain ⟨f1, r1⟩ := hh
  have G1 : zG (wI h1 0 5 1) := zG_of f1.1 G
  have e165 : (wI h1 0 5 1).1 165 = h.1 165 := by rw [wI_ne (by decide), f1.2 165 (by omega)]
  refine g_X11_image G1 (zcV_use (s_X11_copies (c := 165) (d := 166) G1 (Or.inl rfl) (Or.inr (Or.inl rfl)) (by decide)) ⟨zG_of rfl G1, ?_⟩)
  rw [e165]
  have c1 : rI h1 2 1 = h.1 165 238 := by show h1.1 2 1 = _; rw [f1.2 2 (by omega)]; exact ic.2.1.1.1
  have fr : ∀ a, a ≠ 0 → a ≠ 164 → a ≠ 166 → (a < 93 ∨ 133 ≤ a) → (wI (wA (wI h1 0 5 1) 166 (cp (h.1 165) ((wI h1 0 5 1).1 166))) 164 3 1).1 a = h.1 a := fun a z1 z2 z3 z4 => by
    rw [wI_ne z2, wA_n z3, wI_ne z1, f1.2 a (by omega)]
  have fw : ∀ a, 93 ≤ a → a < 133 → (wI (wA (wI h1 0 5 1) 166 (cp (h.1 165) ((wI h1 0 5 1).1 166))) 164 3 1).1 a = h1.1 a := fun a z1 z2 => by
    rw [wI_ne (by omega), wA_n (by omega), wI_ne (by omega)]
  have f0 : ∀ k, k ≠ 5 → (wI (wA (wI h1 0 5 1) 166 (cp (h.1 165) ((wI h1 0 5 1).1 166))) 164 3 1).1 0 k = h.1 0 k := fun k hk => by
    show rI _ 0 k = rI h 0 k
    rw [rI_c (by decide), rI_An (by decide), rI_k hk]
    show h1.1 0 k = h.1 0 k
    rw [f1.2 0 (by omega)]
  have f4 : ∀ k, k ≠ 3 → (wI (wA (wI h1 0 5 1) 166 (cp (h.1 165) ((wI h1 0 5 1).1 166))) 164 3 1).1 164 k = h.1 164 k := fun k hk => by
    show rI _ 164 k = rI h 164 k
    rw [rI_k hk, rI_An (by decide), rI_c (by decide)]
    show h1.1 164 k = h.1 164 k
    rw [f1.2 164 (by omega)]
  have f2 : ∀ a, (wI (wA (wI h1 0 5 1) 166 (cp (h.1 165) ((wI h1 0 5 1).1 166))) 164 3 1).2 a = h.2 a := fun a => by show h1.2 a = h.2 a; rw [f1.1]
  have e166 : (wI (wA (wI h1 0 5 1) 166 (cp (h.1 165) ((wI h1 0 5 1).1 166))) 164 3 1).1 166 = cp (h.1 165) ((wI h1 0 5 1).1 166) := by rw [wI_ne (by decide), wA_s]
  have e165' : (wI (wA (wI h1 0 5 1) 166 (cp (h.1 165) ((wI h1 0 5 1).1 166))) 164 3 1).1 165 = h.1 165 := fr 165 (by decide) (by decide) (by decide) (by omega)
  refine ⟨zG_of rfl G1, ?_, zG_of rfl G1, by rw [e165']; exact iq, ?_, ⟨PW_of2 (fun a _ _ => f2 a) p1, PW_of2 (fun a _ _ => f2 a) p2⟩, ⟨n, by show (wI _ 164 3 1).1 164 10 = _; rw [f4 10 (by decide)]; exact hn⟩, ⟨?_, ?_, fun _ => ?_⟩, IOs_of is (f0 11 (by decide)) (f4 19 (by decide)) (fr 155 (by decide) (by decide) (by decide) (by omega)) (fr 173 (by decide) (by decide) (by decide) (by omega)), IOt_of it (by rw [fr 141 (by decide) (by decide) (by decide) (by omega)]) (f4 21 (by decide)) (fr 142 (by decide) (by decide) (by decide) (by omega)) (fr 174 (by decide) (by decide) (by decide) (by omega)), IOh_of ih (fun a ha => fr a (by omega) (by omega) (by omega) (by omega))⟩
  · rw [c1, rI_An (by decide)]
    show _ = (wI h1 0 5 1).1 165 238
    rw [e165]
  · rw [e165']
    have : IC h1 (h.1 165) := IC_of f1.1 (fun a ha => f1.2 a (by omega)) hC ic
    refine ⟨PW_of (h := h1) rfl this.1, RW_of (h := h1) rfl (fun a z1 z2 => by rw [wI_ne (by omega), wA_n (by omega), wI_ne (by omega)]) this.1 hC this.2.1, ⟨?_, ?_, fun i hi => ?_⟩, ?_⟩
    · rw [rI_c (by decide), rI_An (by decide), rI_c (by decide)]; exact this.2.2.1.1
    · rw [VL_of (h := h1) (fun a z1 z2 => by rw [wI_ne (by omega), wA_n (by omega), wI_ne (by omega)])]; exact this.2.2.1.2.1
    · rw [rI_c (by decide), rI_An (by decide), rI_c (by decide)]; exact this.2.2.1.2.2 i hi
    · obtain ⟨m, hm⟩ := this.2.2.2
      exact ⟨m, by rw [rI_c (by decide), rI_An (by decide), rI_c (by decide)]; exact hm⟩
  · rw [rI_c (by decide), rI_An (by decide), rI_s, rI_s]
  · rw [rI_c (by decide), rI_An (by decide), rI_s]; exact Or.inr rfl
  · rw [e166]
    refine ⟨cp_eqR.q iq, cp_eqR.r hC (RW_of2 (h := h1) (fun a _ _ => rfl) (fun a z1 z2 => fw a (by omega) (by omega)) (PW_of f1.1 p2) hC r1)⟩
theorem sim_back : Sim M_X10_back M_X11_back [] := by
  intro h I
  have I0 := I
  obtain ⟨G, iq, ic, io⟩ := I
  obtain ⟨⟨p1, p2⟩, ⟨n, hn⟩, ii, is, it, ih⟩ := io
  refine g_X10_back G ⟨fun z => ?_, fun z => ?_⟩
  · obtain ⟨kq, kr⟩ := ii.2.2 z
    have hC := kq.1
    refine zcV_then (s_X8_copyFrom (B := 93) (C := 2) G (Or.inr (Or.inr rfl)) (Or.inl rfl) (by decide) hC kq.2.1.n p2 ic.1 kr) (fun h1 hh => ⟨zG_of hh.1.1 G, ?_⟩)
    obtain ⟨f1, r1⟩ := hh
    have P1 := PW_of f1.1 ic.1
    have mk := s_X2_make (K := 42) (B := 2) (u := 5) (zG_of f1.1 G) (Or.inl rfl) (Or.inl rfl) hC P1 r1 kq.2.1.n (by omega)
    rw [show nI 5 = (5 : Int32) from rfl] at mk
    refine zcV_then mk (fun h2 m1 => ⟨zG_of (m1.1.trans f1.1) G, zG_of (m1.1.trans f1.1) G, ?_⟩)
    have G2 : zG h2 := zG_of (m1.1.trans f1.1) G
    have fr : ∀ a, (a < 2 ∨ 48 ≤ a) → h2.1 a = h.1 a := fun a ha => by rw [m1.2.1 a (by omega), f1.2 a (by omega)]
    have e3 : ¬ rI h2 164 3 = 0 := by
      show ¬ h2.1 164 3 = 0
      rw [fr 164 (by omega)]
      intro y
      exact z (ii.1.trans y)
    refine g_X11_back G2 ⟨fun _ => zcV_use (s_X11_copies (c := 166) (d := 165) G2 (Or.inr (Or.inl rfl)) (Or.inl rfl) (by decide)) ⟨zG_of rfl G2, zG_of rfl G2, ?_, ?_⟩, fun y => absurd y e3⟩
    · have R2 := m1.rw (Or.inl rfl) (Or.inl rfl) P1 hC r1
      rw [R2.1.1, rI_As]
      unfold cp
      rw [if_pos (by decide), fr 166 (by omega)]
    · have R2 := m1.rw (Or.inl rfl) (Or.inl rfl) P1 hC r1
      have ic2 : IC h2 (h.1 166) := ⟨PW_of m1.1 P1, R2, ⟨m1.2.2.1, m1.2.2.2.1, m1.2.2.2.2⟩, by
        obtain ⟨m, hm⟩ := ic.2.2.2
        exact ⟨m, by show h2.1 1 5 = _; rw [fr 1 (by omega)]; exact hm⟩⟩
      have eq : eqR (h.1 166) (cp (h2.1 166) (h2.1 165)) := by rw [fr 166 (by omega)]; exact cp_eqR
      refine ⟨zG_of rfl G2, by rw [wA_s]; exact eq.q kq, by rw [wA_s]; exact eq.i hC (IC_of (h := h2) rfl (fun a ha => wA_n (by omega)) hC ic2), ?_⟩
      refine IO_of ⟨⟨p1, p2⟩, ⟨n, hn⟩, ii, is, it, ih⟩ (fun a ha => by rw [wA_n (by omega), fr a (by omega)]) ⟨?_, ?_, ?_⟩ ⟨n, ?_⟩ (fun a _ _ _ => by show h2.2 a = h.2 a; rw [m1.1, f1.1])
      · rw [wA_n (by decide), fr 164 (by omega)]
      · rw [wA_n (by decide), fr 164 (by omega)]
      · rw [wA_n (by decide), fr 164 (by omega)]
      · rw [rI_An (by decide)]
        show h2.1 164 10 = _
        rw [fr 164 (by omega)]
        exact hn
  · refine ⟨G, g_X11_back G ⟨fun y => absurd (ii.1.symm.trans z) y, fun _ => ⟨G, rfl, I0⟩⟩⟩

