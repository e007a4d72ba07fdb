theorem g_X10_refusePlace {x1 : Int32} {x2 : Int32} {h : zHp} {Q : Int32 → zHp → Prop}  (G : zG h) (F : zcI M_X10_within [.int x1, .int 0, .int 3] h (fun vh1 h1 => zG h1 ∧ ((¬ vh1 = 0 → (vp_in x1 4 ∧ ((¬ rI h1 (156 + 2 * (Int32.toNatClampNeg x1)) 0 = -1 → (zcI M_X10_within [.int x2, .int 0, .int ((rI h1 (156 + 2 * (Int32.toNatClampNeg x1)) 1) - 1)] h1 (fun vh2 h2 => zG h2 ∧ ((vh2 = 0 → (Q (-12) h2)) ∧ (¬ (vh2 = 0) → (Q 0 h2)))))) ∧ (rI h1 (156 + 2 * (Int32.toNatClampNeg x1)) 0 = -1 → (Q (-11) h1))))) ∧ (vh1 = 0 → (Q (-2) h1))))) : zcI M_X10_refusePlace [.ref 0, .int x1, .int x2] h Q := by
  show zw zNT zNT M_X10_refusePlace 0 [some (.ref 0), some (.int x1), some (.int x2)] [] h _
  refine z_iload_n (pc := 0) dX10_refusePlace_0 rfl rfl ?_
  refine z_iconst (pc := 1) (v := 0) dX10_refusePlace_1 (by decide) ?_
  refine z_iconst (pc := 2) (v := 3) dX10_refusePlace_2 (by decide) ?_
  refine q_invS (pc := 3) (As := [.int x1, .int 0, .int 3]) (st := []) dX10_refusePlace_3 ok_X10_within ml_RX10_82 st_X10_within pa_X10_within ⟨Nat.le_of_ble_eq_true rfl, Nat.le_of_ble_eq_true rfl⟩ (q_kI F (fun vh1 h1 F => ?_))
  obtain ⟨G1, F⟩ := F
  refine z_if_ne (pc := 6) (tgt := 12) dX10_refusePlace_6 (by decide) (fun k6 => ?_) (fun k6 => ?_)
  · replace F := F.1 k6
    refine z_aload_n (pc := 12) dX10_refusePlace_12 rfl rfl ?_
    refine q_getR (pc := 13) (i := 154) dX10_refusePlace_13 lk_RX10_59 (lyc rfl) (G1 0 9 154 rfl) ?_
    refine z_iload_n (pc := 16) dX10_refusePlace_16 rfl rfl ?_
    obtain ⟨k2, F⟩ := F
    refine q_aald (pc := 17) (j := (Int32.toNatClampNeg x1)) (r := 156 + 2 * (Int32.toNatClampNeg x1)) (t := 4) dX10_refusePlace_17 (lyc rfl) (zvn (lnc rfl) k2) rfl (grS G1 (zvi k2)) ?_
    refine q_getI (pc := 18) (v := rI h1 (156 + 2 * (Int32.toNatClampNeg x1)) 0) dX10_refusePlace_18 lk_RX10_361 (lySh0 (shS (zvi k2))) rfl ?_
    refine z_iconst (pc := 21) (v := -1) dX10_refusePlace_21 (by decide) ?_
    refine z_icmp_ne (pc := 22) (tgt := 28) dX10_refusePlace_22 (by decide) (fun k5 => ?_) (fun k5 => ?_)
    · replace F := F.1 k5
      refine z_iload_n (pc := 28) dX10_refusePlace_28 rfl rfl ?_
      refine z_iconst (pc := 29) (v := 0) dX10_refusePlace_29 (by decide) ?_
      refine z_aload_n (pc := 30) dX10_refusePlace_30 rfl rfl ?_
      refine q_getR (pc := 31) (i := 154) dX10_refusePlace_31 lk_RX10_59 (lyc rfl) (G1 0 9 154 rfl) ?_
      refine z_iload_n (pc := 34) dX10_refusePlace_34 rfl rfl ?_
      refine q_aald (pc := 35) (j := (Int32.toNatClampNeg x1)) (r := 156 + 2 * (Int32.toNatClampNeg x1)) (t := 4) dX10_refusePlace_35 (lyc rfl) (zvn (lnc rfl) k2) rfl (grS G1 (zvi k2)) ?_
      refine q_getI (pc := 36) (v := rI h1 (156 + 2 * (Int32.toNatClampNeg x1)) 1) dX10_refusePlace_36 lk_RX10_348 (lySh0 (shS (zvi k2))) rfl ?_
      refine z_iconst (pc := 39) (v := 1) dX10_refusePlace_39 (by decide) ?_
      refine z_isub (pc := 40) dX10_refusePlace_40 ?_
      refine q_invS (pc := 41) (As := [.int x2, .int 0, .int ((rI h1 (156 + 2 * (Int32.toNatClampNeg x1)) 1) - 1)]) (st := []) dX10_refusePlace_41 ok_X10_within ml_RX10_82 st_X10_within pa_X10_within ⟨Nat.le_of_ble_eq_true rfl, Nat.le_of_ble_eq_true rfl⟩ (q_kI F (fun vh2 h2 F => ?_))
      obtain ⟨G2, F⟩ := F
      refine z_if_eq (pc := 44) (tgt := 51) dX10_refusePlace_44 (by decide) (fun k4 => ?_) (fun k4 => ?_)
      · replace F := F.1 k4
        refine z_bipush (pc := 51) (v := -12) dX10_refusePlace_51 (by decide) ?_
        exact q_retI (pc := 53) dX10_refusePlace_53 rfl F
      · replace F := F.2 k4
        refine z_iconst (pc := 47) (v := 0) dX10_refusePlace_47 (by decide) ?_
        refine z_goto (pc := 48) (tgt := 53) dX10_refusePlace_48 (by decide) ?_
        exact q_retI (pc := 53) dX10_refusePlace_53 rfl F
    · replace F := F.2 k5
      refine z_bipush (pc := 25) (v := -11) dX10_refusePlace_25 (by decide) ?_
      exact q_retI (pc := 27) dX10_refusePlace_27 rfl F
  · replace F := F.2 k6
    refine z_bipush (pc := 9) (v := -2) dX10_refusePlace_9 (by decide) ?_
    exact q_retI (pc := 11) dX10_refusePlace_11 rfl F
theorem g_X10_within {x0 : Int32} {x1 : Int32} {x2 : Int32} {h : zHp} {Q : Int32 → zHp → Prop}  (G : zG h) (F : (x0 < x1 → (Q 0 h)) ∧ (¬ (x0 < x1) → ((x2 < x0 → (Q 0 h)) ∧ (¬ (x2 < x0) → (Q 1 h))))) : zcI M_X10_within [.int x0, .int x1, .int x2] h Q := by
  show zw zNT zNT M_X10_within 0 [some (.int x0), some (.int x1), some (.int x2)] [] h _
  refine z_iload_n (pc := 0) dX10_within_0 rfl rfl ?_
  refine z_iload_n (pc := 1) dX10_within_1 rfl rfl ?_
  refine z_icmp_lt (pc := 2) (tgt := 14) dX10_within_2 (by decide) (fun k2 => ?_) (fun k2 => ?_)
  · replace F := F.1 k2
    refine z_iconst (pc := 14) (v := 0) dX10_within_14 (by decide) ?_
    exact q_retB (pc := 15) dX10_within_15 rfl (Or.inl rfl) F
  · replace F := F.2 k2
    refine z_iload_n (pc := 5) dX10_within_5 rfl rfl ?_
    refine z_iload_n (pc := 6) dX10_within_6 rfl rfl ?_
    refine z_icmp_gt (pc := 7) (tgt := 14) dX10_within_7 (by decide) (fun k1 => ?_) (fun k1 => ?_)
    · replace F := F.1 k1
      refine z_iconst (pc := 14) (v := 0) dX10_within_14 (by decide) ?_
      exact q_retB (pc := 15) dX10_within_15 rfl (Or.inl rfl) F
    · replace F := F.2 k1
      refine z_iconst (pc := 10) (v := 1) dX10_within_10 (by decide) ?_
      refine z_goto (pc := 11) (tgt := 15) dX10_within_11 (by decide) ?_
      exact q_retB (pc := 15) dX10_within_15 rfl (Or.inr rfl) F
theorem g_X10_isScope {x0 : Int32} {x1 : Int32} {h : zHp} {Q : Int32 → zHp → Prop}  (G : zG h) (F : zcI M_X10_within [.int x0, .int 0, .int 5] h (fun vh1 h1 => zG h1 ∧ ((¬ vh1 = 0 → ((x0 = 0 → (Q 1 h1)) ∧ (¬ (x0 = 0) → (vp_in x0 6 ∧ (zcI M_X10_within [.int x1, .int 0, .int (zMX (Int32.toNatClampNeg x0))] h1 (fun vh2 h2 => zG h2 ∧ ((vh2 = 0 → (Q 0 h2)) ∧ (¬ (vh2 = 0) → (Q 1 h2))))))))) ∧ (vh1 = 0 → (Q 0 h1))))) : zcI M_X10_isScope [.int x0, .int x1] h Q := by
  show zw zNT zNT M_X10_isScope 0 [some (.int x0), some (.int x1)] [] h _
  refine z_iload_n (pc := 0) dX10_isScope_0 rfl rfl ?_
  refine z_iconst (pc := 1) (v := 0) dX10_isScope_1 (by decide) ?_
  refine z_iconst (pc := 2) (v := 5) dX10_isScope_2 (by decide) ?_
  refine q_invS (pc := 3) (As := [.int x0, .int 0, .int 5]) (st := []) dX10_isScope_3 ok_X10_within ml_RX10_82 st_X10_within pa_X10_within ⟨Nat.le_of_ble_eq_true rfl, Nat.le_of_ble_eq_true rfl⟩ (q_kI F (fun vh1 h1 F => ?_))
  obtain ⟨G1, F⟩ := F
  refine z_if_ne (pc := 6) (tgt := 11) dX10_isScope_6 (by decide) (fun k6 => ?_) (fun k6 => ?_)
  · replace F := F.1 k6
    refine z_iload_n (pc := 11) dX10_isScope_11 rfl rfl ?_
    refine z_if_eq (pc := 12) (tgt := 28) dX10_isScope_12 (by decide) (fun k5 => ?_) (fun k5 => ?_)
    · replace F := F.1 k5
      refine z_iconst (pc := 28) (v := 1) dX10_isScope_28 (by decide) ?_
      refine z_goto (pc := 29) (tgt := 33) dX10_isScope_29 (by decide) ?_
      exact q_retB (pc := 33) dX10_isScope_33 rfl (Or.inr rfl) F
    · replace F := F.2 k5
      refine z_iload_n (pc := 15) dX10_isScope_15 rfl rfl ?_
      refine z_iconst (pc := 16) (v := 0) dX10_isScope_16 (by decide) ?_
      refine z_gs (pc := 17) dX10_isScope_17 fl_RX10_380 ?_
      refine z_iload_n (pc := 20) dX10_isScope_20 rfl rfl ?_
      obtain ⟨k2, F⟩ := F
      refine z_ldMX (pc := 21) dX10_isScope_21 k2 rfl ?_
      refine q_invS (pc := 22) (As := [.int x1, .int 0, .int (zMX (Int32.toNatClampNeg x0))]) (st := []) dX10_isScope_22 ok_X10_within ml_RX10_82 st_X10_within pa_X10_within ⟨Nat.le_of_ble_eq_true rfl, Nat.le_of_ble_eq_true rfl⟩ (q_kI F (fun vh2 h2 F => ?_))
      obtain ⟨G2, F⟩ := F
      refine z_if_eq (pc := 25) (tgt := 32) dX10_isScope_25 (by decide) (fun k4 => ?_) (fun k4 => ?_)
      · replace F := F.1 k4
        refine z_iconst (pc := 32) (v := 0) dX10_isScope_32 (by decide) ?_
        exact q_retB (pc := 33) dX10_isScope_33 rfl (Or.inl rfl) F
      · replace F := F.2 k4
        refine z_iconst (pc := 28) (v := 1) dX10_isScope_28 (by decide) ?_
        refine z_goto (pc := 29) (tgt := 33) dX10_isScope_29 (by decide) ?_
        exact q_retB (pc := 33) dX10_isScope_33 rfl (Or.inr rfl) F
  · replace F := F.2 k6
    refine z_iconst (pc := 9) (v := 0) dX10_isScope_9 (by decide) ?_
    exact q_retB (pc := 10) dX10_isScope_10 rfl (Or.inl rfl) F
theorem g_X10_fitsBase {x0 : Int32} {x1 : Int32} {h : zHp} {Q : Int32 → zHp → Prop}  (G : zG h) (F : (x0 = 1 → (zcI M_X10_within [.int x1, .int 0, .int 5] h (fun vh1 h1 => zG h1 ∧ (zB vh1 ∧ Q vh1 h1)))) ∧ (¬ x0 = 1 → ((x0 = 2 → (zcI M_X10_within [.int x1, .int 0, .int 99] h (fun vh2 h2 => zG h2 ∧ (zB vh2 ∧ Q vh2 h2)))) ∧ (¬ x0 = 2 → ((x0 = 3 → (zcI M_X10_within [.int x1, .int 0, .int 99] h (fun vh3 h3 => zG h3 ∧ (zB vh3 ∧ Q vh3 h3)))) ∧ (¬ x0 = 3 → ((x0 = 4 → (zcI M_X10_within [.int x1, .int 0, .int 999] h (fun vh4 h4 => zG h4 ∧ (zB vh4 ∧ Q vh4 h4)))) ∧ (¬ x0 = 4 → (Q 0 h))))))))) : zcI M_X10_fitsBase [.int x0, .int x1] h Q := by
  show zw zNT zNT M_X10_fitsBase 0 [some (.int x0), some (.int x1)] [] h _
  refine z_iload_n (pc := 0) dX10_fitsBase_0 rfl rfl ?_
  by_cases k1 : x0 = 1
  · replace F := F.1 k1
    refine z_tableIn (pc := 1) (x := x0) (tgt := 32) (off := 31) dX10_fitsBase_1 (by rw [k1]; decide) (by rw [k1]; decide) (by rw [k1]; decide) (by decide) ?_
    refine z_iload_n (pc := 32) dX10_fitsBase_32 rfl rfl ?_
    refine z_iconst (pc := 33) (v := 0) dX10_fitsBase_33 (by decide) ?_
    refine z_iconst (pc := 34) (v := 5) dX10_fitsBase_34 (by decide) ?_
    refine q_invS (pc := 35) (As := [.int x1, .int 0, .int 5]) (st := []) dX10_fitsBase_35 ok_X10_within ml_RX10_82 st_X10_within pa_X10_within ⟨Nat.le_of_ble_eq_true rfl, Nat.le_of_ble_eq_true rfl⟩ (q_kI F (fun vh1 h1 F => ?_))
    obtain ⟨G1, F⟩ := F
    exact q_retB (pc := 38) dX10_fitsBase_38 rfl F.1 F.2
  · replace F := F.2 k1
    by_cases k3 : x0 = 2
    · replace F := F.1 k3
      refine z_tableIn (pc := 1) (x := x0) (tgt := 39) (off := 38) dX10_fitsBase_1 (by rw [k3]; decide) (by rw [k3]; decide) (by rw [k3]; decide) (by decide) ?_
      refine z_iload_n (pc := 39) dX10_fitsBase_39 rfl rfl ?_
      refine z_iconst (pc := 40) (v := 0) dX10_fitsBase_40 (by decide) ?_
      refine z_bipush (pc := 41) (v := 99) dX10_fitsBase_41 (by decide) ?_
      refine q_invS (pc := 43) (As := [.int x1, .int 0, .int 99]) (st := []) dX10_fitsBase_43 ok_X10_within ml_RX10_82 st_X10_within pa_X10_within ⟨Nat.le_of_ble_eq_true rfl, Nat.le_of_ble_eq_true rfl⟩ (q_kI F (fun vh2 h2 F => ?_))
      obtain ⟨G2, F⟩ := F
      exact q_retB (pc := 46) dX10_fitsBase_46 rfl F.1 F.2
    · replace F := F.2 k3
      by_cases k5 : x0 = 3
      · replace F := F.1 k5
        refine z_tableIn (pc := 1) (x := x0) (tgt := 47) (off := 46) dX10_fitsBase_1 (by rw [k5]; decide) (by rw [k5]; decide) (by rw [k5]; decide) (by decide) ?_
        refine z_iload_n (pc := 47) dX10_fitsBase_47 rfl rfl ?_
        refine z_iconst (pc := 48) (v := 0) dX10_fitsBase_48 (by decide) ?_
        refine z_bipush (pc := 49) (v := 99) dX10_fitsBase_49 (by decide) ?_
        refine q_invS (pc := 51) (As := [.int x1, .int 0, .int 99]) (st := []) dX10_fitsBase_51 ok_X10_within ml_RX10_82 st_X10_within pa_X10_within ⟨Nat.le_of_ble_eq_true rfl, Nat.le_of_ble_eq_true rfl⟩ (q_kI F (fun vh3 h3 F => ?_))
        obtain ⟨G3, F⟩ := F
        exact q_retB (pc := 54) dX10_fitsBase_54 rfl F.1 F.2
      · replace F := F.2 k5
        by_cases k7 : x0 = 4
        · replace F := F.1 k7
          refine z_tableIn (pc := 1) (x := x0) (tgt := 55) (off := 54) dX10_fitsBase_1 (by rw [k7]; decide) (by rw [k7]; decide) (by rw [k7]; decide) (by decide) ?_
          refine z_iload_n (pc := 55) dX10_fitsBase_55 rfl rfl ?_
          refine z_iconst (pc := 56) (v := 0) dX10_fitsBase_56 (by decide) ?_
          refine z_sipush (pc := 57) (v := 999) dX10_fitsBase_57 (by decide) ?_
          refine q_invS (pc := 60) (As := [.int x1, .int 0, .int 999]) (st := []) dX10_fitsBase_60 ok_X10_within ml_RX10_82 st_X10_within pa_X10_within ⟨Nat.le_of_ble_eq_true rfl, Nat.le_of_ble_eq_true rfl⟩ (q_kI F (fun vh4 h4 F => ?_))
          obtain ⟨G4, F⟩ := F
          exact q_retB (pc := 63) dX10_fitsBase_63 rfl F.1 F.2
        · replace F := F.2 k7
          have hz0 := q_sw (1) k1 (by decide)
          have hz1 := q_sw (2) k3 (by decide)
          have hz2 := q_sw (3) k5 (by decide)
          have hz3 := q_sw (4) k7 (by decide)
          refine z_tableOut (pc := 1) (tgt := 64) dX10_fitsBase_1 (by omega) (by decide) ?_
          refine z_iconst (pc := 64) (v := 0) dX10_fitsBase_64 (by decide) ?_
          exact q_retB (pc := 65) dX10_fitsBase_65 rfl (Or.inl rfl) F
theorem g_X10_fitsEffect {x0 : Int32} {x1 : Int32} {h : zHp} {Q : Int32 → zHp → Prop}  (G : zG h) (F : (2 < x0 → (zcI M_X10_within [.int x1, .int (-9), .int 9] h (fun vh1 h1 => zG h1 ∧ (zB vh1 ∧ Q vh1 h1)))) ∧ (¬ (2 < x0) → (zcI M_X10_within [.int x1, .int 0, .int 5] h (fun vh2 h2 => zG h2 ∧ (zB vh2 ∧ Q vh2 h2))))) : zcI M_X10_fitsEffect [.int x0, .int x1] h Q := by
  show zw zNT zNT M_X10_fitsEffect 0 [some (.int x0), some (.int x1)] [] h _
  refine z_iload_n (pc := 0) dX10_fitsEffect_0 rfl rfl ?_
  refine z_iconst (pc := 1) (v := 2) dX10_fitsEffect_1 (by decide) ?_
  refine z_icmp_gt (pc := 2) (tgt := 14) dX10_fitsEffect_2 (by decide) (fun k3 => ?_) (fun k3 => ?_)
  · replace F := F.1 k3
    refine z_iload_n (pc := 14) dX10_fitsEffect_14 rfl rfl ?_
    refine z_bipush (pc := 15) (v := -9) dX10_fitsEffect_15 (by decide) ?_
    refine z_bipush (pc := 17) (v := 9) dX10_fitsEffect_17 (by decide) ?_
    refine q_invS (pc := 19) (As := [.int x1, .int (-9), .int 9]) (st := []) dX10_fitsEffect_19 ok_X10_within ml_RX10_82 st_X10_within pa_X10_within ⟨Nat.le_of_ble_eq_true rfl, Nat.le_of_ble_eq_true rfl⟩ (q_kI F (fun vh1 h1 F => ?_))
    obtain ⟨G1, F⟩ := F
    exact q_retB (pc := 22) dX10_fitsEffect_22 rfl F.1 F.2
  · replace F := F.2 k3
    refine z_iload_n (pc := 5) dX10_fitsEffect_5 rfl rfl ?_
    refine z_iconst (pc := 6) (v := 0) dX10_fitsEffect_6 (by decide) ?_
    refine z_iconst (pc := 7) (v := 5) dX10_fitsEffect_7 (by decide) ?_
    refine q_invS (pc := 8) (As := [.int x1, .int 0, .int 5]) (st := []) dX10_fitsEffect_8 ok_X10_within ml_RX10_82 st_X10_within pa_X10_within ⟨Nat.le_of_ble_eq_true rfl, Nat.le_of_ble_eq_true rfl⟩ (q_kI F (fun vh2 h2 F => ?_))
    obtain ⟨G2, F⟩ := F
    refine z_goto (pc := 11) (tgt := 22) dX10_fitsEffect_11 (by decide) ?_
    exact q_retB (pc := 22) dX10_fitsEffect_22 rfl F.1 F.2
theorem g_X10_scopeWord {x0 : Int32} {h : zHp} {Q : Nat → zHp → Prop}  (G : zG h) (F : (x0 = 0 → (Q (1010 + 0) h)) ∧ (¬ x0 = 0 → ((x0 = 1 → (Q (1010 + 1) h)) ∧ (¬ x0 = 1 → ((x0 = 2 → (Q (1010 + 2) h)) ∧ (¬ x0 = 2 → ((x0 = 3 → (Q (1010 + 3) h)) ∧ (¬ x0 = 3 → ((x0 = 4 → (Q (1010 + 4) h)) ∧ (¬ x0 = 4 → (Q (1010 + 5) h))))))))))) : zcR M_X10_scopeWord [.int x0] h Q := by
  show zw zNT zNT M_X10_scopeWord 0 [some (.int x0)] [] h _
  refine z_iload_n (pc := 0) dX10_scopeWord_0 rfl rfl ?_
  by_cases k1 : x0 = 0
  · replace F := F.1 k1
    refine z_tableIn (pc := 1) (x := x0) (tgt := 36) (off := 35) dX10_scopeWord_1 (by rw [k1]; decide) (by rw [k1]; decide) (by rw [k1]; decide) (by decide) ?_
    refine z_ldcwS (pc := 36) (i := 0) (tx := "all") dX10_scopeWord_36 (List.mem_of_getElem? (i := 0) rfl) (by decide) ?_
    exact q_retR (pc := 39) dX10_scopeWord_39 rfl F
  · replace F := F.2 k1
    by_cases k2 : x0 = 1
    · replace F := F.1 k2
      refine z_tableIn (pc := 1) (x := x0) (tgt := 40) (off := 39) dX10_scopeWord_1 (by rw [k2]; decide) (by rw [k2]; decide) (by rw [k2]; decide) (by decide) ?_
      refine z_ldcwS (pc := 40) (i := 1) (tx := "owner") dX10_scopeWord_40 (List.mem_of_getElem? (i := 1) rfl) (by decide) ?_
      exact q_retR (pc := 43) dX10_scopeWord_43 rfl F
    · replace F := F.2 k2
      by_cases k3 : x0 = 2
      · replace F := F.1 k3
        refine z_tableIn (pc := 1) (x := x0) (tgt := 44) (off := 43) dX10_scopeWord_1 (by rw [k3]; decide) (by rw [k3]; decide) (by rw [k3]; decide) (by decide) ?_
        refine z_ldcwS (pc := 44) (i := 2) (tx := "type") dX10_scopeWord_44 (List.mem_of_getElem? (i := 2) rfl) (by decide) ?_
        exact q_retR (pc := 47) dX10_scopeWord_47 rfl F
      · replace F := F.2 k3
        by_cases k4 : x0 = 3
        · replace F := F.1 k4
          refine z_tableIn (pc := 1) (x := x0) (tgt := 48) (off := 47) dX10_scopeWord_1 (by rw [k4]; decide) (by rw [k4]; decide) (by rw [k4]; decide) (by decide) ?_
          refine z_ldcwS (pc := 48) (i := 3) (tx := "with") dX10_scopeWord_48 (List.mem_of_getElem? (i := 3) rfl) (by decide) ?_
          exact q_retR (pc := 51) dX10_scopeWord_51 rfl F
        · replace F := F.2 k4
          by_cases k5 : x0 = 4
          · replace F := F.1 k5
            refine z_tableIn (pc := 1) (x := x0) (tgt := 52) (off := 51) dX10_scopeWord_1 (by rw [k5]; decide) (by rw [k5]; decide) (by rw [k5]; decide) (by decide) ?_
            refine z_ldcwS (pc := 52) (i := 4) (tx := "without") dX10_scopeWord_52 (List.mem_of_getElem? (i := 4) rfl) (by decide) ?_
            exact q_retR (pc := 55) dX10_scopeWord_55 rfl F
          · replace F := F.2 k5
            have hz0 := q_sw (0) k1 (by decide)
            have hz1 := q_sw (1) k2 (by decide)
            have hz2 := q_sw (2) k3 (by decide)
            have hz3 := q_sw (3) k4 (by decide)
            have hz4 := q_sw (4) k5 (by decide)
            refine z_tableOut (pc := 1) (tgt := 56) dX10_scopeWord_1 (by omega) (by decide) ?_
            refine z_ldcwS (pc := 56) (i := 5) (tx := "thing") dX10_scopeWord_56 (List.mem_of_getElem? (i := 5) rfl) (by decide) ?_
            exact q_retR (pc := 59) dX10_scopeWord_59 rfl F
theorem g_X10_deedWord {x0 : Int32} {h : zHp} {Q : Nat → zHp → Prop}  (G : zG h) (F : (x0 = 0 → (Q (1010 + 6) h)) ∧ (¬ x0 = 0 → ((x0 = 1 → (Q (1010 + 7) h)) ∧ (¬ x0 = 1 → ((x0 = 2 → (Q (1010 + 8) h)) ∧ (¬ x0 = 2 → ((x0 = 3 → (Q (1010 + 9) h)) ∧ (¬ x0 = 3 → ((x0 = 4 → (Q (1010 + 10) h)) ∧ (¬ x0 = 4 → (Q (1010 + 11) h))))))))))) : zcR M_X10_deedWord [.int x0] h Q := by
  show zw zNT zNT M_X10_deedWord 0 [some (.int x0)] [] h _
  refine z_iload_n (pc := 0) dX10_deedWord_0 rfl rfl ?_
  by_cases k1 : x0 = 0
  · replace F := F.1 k1
    refine z_tableIn (pc := 1) (x := x0) (tgt := 36) (off := 35) dX10_deedWord_1 (by rw [k1]; decide) (by rw [k1]; decide) (by rw [k1]; decide) (by decide) ?_
    refine z_ldcwS (pc := 36) (i := 6) (tx := "is") dX10_deedWord_36 (List.mem_of_getElem? (i := 6) rfl) (by decide) ?_
    exact q_retR (pc := 39) dX10_deedWord_39 rfl F
  · replace F := F.2 k1
    by_cases k2 : x0 = 1
    · replace F := F.1 k2
      refine z_tableIn (pc := 1) (x := x0) (tgt := 40) (off := 39) dX10_deedWord_1 (by rw [k2]; decide) (by rw [k2]; decide) (by rw [k2]; decide) (by decide) ?_
      refine z_ldcwS (pc := 40) (i := 7) (tx := "gains") dX10_deedWord_40 (List.mem_of_getElem? (i := 7) rfl) (by decide) ?_
      exact q_retR (pc := 43) dX10_deedWord_43 rfl F
    · replace F := F.2 k2
      by_cases k3 : x0 = 2
      · replace F := F.1 k3
        refine z_tableIn (pc := 1) (x := x0) (tgt := 44) (off := 43) dX10_deedWord_1 (by rw [k3]; decide) (by rw [k3]; decide) (by rw [k3]; decide) (by decide) ?_
        refine z_ldcwS (pc := 44) (i := 8) (tx := "loses") dX10_deedWord_44 (List.mem_of_getElem? (i := 8) rfl) (by decide) ?_
        exact q_retR (pc := 47) dX10_deedWord_47 rfl F
      · replace F := F.2 k3
        by_cases k4 : x0 = 3
        · replace F := F.1 k4
          refine z_tableIn (pc := 1) (x := x0) (tgt := 48) (off := 47) dX10_deedWord_1 (by rw [k4]; decide) (by rw [k4]; decide) (by rw [k4]; decide) (by decide) ?_
          refine z_ldcwS (pc := 48) (i := 9) (tx := "sets") dX10_deedWord_48 (List.mem_of_getElem? (i := 9) rfl) (by decide) ?_
          exact q_retR (pc := 51) dX10_deedWord_51 rfl F
        · replace F := F.2 k4
          by_cases k5 : x0 = 4
          · replace F := F.1 k5
            refine z_tableIn (pc := 1) (x := x0) (tgt := 52) (off := 51) dX10_deedWord_1 (by rw [k5]; decide) (by rw [k5]; decide) (by rw [k5]; decide) (by decide) ?_
            refine z_ldcwS (pc := 52) (i := 10) (tx := "gets") dX10_deedWord_52 (List.mem_of_getElem? (i := 10) rfl) (by decide) ?_
            exact q_retR (pc := 55) dX10_deedWord_55 rfl F
          · replace F := F.2 k5
            have hz0 := q_sw (0) k1 (by decide)
            have hz1 := q_sw (1) k2 (by decide)
            have hz2 := q_sw (2) k3 (by decide)
            have hz3 := q_sw (3) k4 (by decide)
            have hz4 := q_sw (4) k5 (by decide)
            refine z_tableOut (pc := 1) (tgt := 56) dX10_deedWord_1 (by omega) (by decide) ?_
            refine z_ldcwS (pc := 56) (i := 11) (tx := "swaps") dX10_deedWord_56 (List.mem_of_getElem? (i := 11) rfl) (by decide) ?_
            exact q_retR (pc := 59) dX10_deedWord_59 rfl F
theorem g_X11_in {x0 : Int32} {x1 : Int32} {x2 : Int32} {h : zHp} {Q : Int32 → zHp → Prop}  (G : zG h) (F : (x0 < x1 → (Q 0 h)) ∧ (¬ (x0 < x1) → ((x2 < x0 → (Q 0 h)) ∧ (¬ (x2 < x0) → (Q 1 h))))) : zcI M_X11_in [.int x0, .int x1, .int x2] h Q := by
  show zw zNT zNT M_X11_in 0 [some (.int x0), some (.int x1), some (.int x2)] [] h _
  refine z_iload_n (pc := 0) dX11_in_0 rfl rfl ?_
  refine z_iload_n (pc := 1) dX11_in_1 rfl rfl ?_
  refine z_icmp_lt (pc := 2) (tgt := 14) dX11_in_2 (by decide) (fun k2 => ?_) (fun k2 => ?_)
  · replace F := F.1 k2
    refine z_iconst (pc := 14) (v := 0) dX11_in_14 (by decide) ?_
    exact q_retB (pc := 15) dX11_in_15 rfl (Or.inl rfl) F
  · replace F := F.2 k2
    refine z_iload_n (pc := 5) dX11_in_5 rfl rfl ?_
    refine z_iload_n (pc := 6) dX11_in_6 rfl rfl ?_
    refine z_icmp_gt (pc := 7) (tgt := 14) dX11_in_7 (by decide) (fun k1 => ?_) (fun k1 => ?_)
    · replace F := F.1 k1
      refine z_iconst (pc := 14) (v := 0) dX11_in_14 (by decide) ?_
      exact q_retB (pc := 15) dX11_in_15 rfl (Or.inl rfl) F
    · replace F := F.2 k1
      refine z_iconst (pc := 10) (v := 1) dX11_in_10 (by decide) ?_
      refine z_goto (pc := 11) (tgt := 15) dX11_in_11 (by decide) ?_
      exact q_retB (pc := 15) dX11_in_15 rfl (Or.inr rfl) F
theorem g_X11_has {x0 : Int32} {x1 : Int32} {h : zHp} {Q : Int32 → zHp → Prop}  (G : zG h) (F : (¬ (x0 >>> (x1 &&& 31)) &&& 1 = 1 → (Q 0 h)) ∧ ((x0 >>> (x1 &&& 31)) &&& 1 = 1 → (Q 1 h))) : zcI M_X11_has [.int x0, .int x1] h Q := by
  show zw zNT zNT M_X11_has 0 [some (.int x0), some (.int x1)] [] h _
  refine z_iload_n (pc := 0) dX11_has_0 rfl rfl ?_
  refine z_iload_n (pc := 1) dX11_has_1 rfl rfl ?_
  refine z_ishr (pc := 2) dX11_has_2 ?_
  refine z_iconst (pc := 3) (v := 1) dX11_has_3 (by decide) ?_
  refine z_iand (pc := 4) dX11_has_4 ?_
  refine z_iconst (pc := 5) (v := 1) dX11_has_5 (by decide) ?_
  refine z_icmp_ne (pc := 6) (tgt := 13) dX11_has_6 (by decide) (fun k1 => ?_) (fun k1 => ?_)
  · replace F := F.1 k1
    refine z_iconst (pc := 13) (v := 0) dX11_has_13 (by decide) ?_
    exact q_retB (pc := 14) dX11_has_14 rfl (Or.inl rfl) F
  · replace F := F.2 k1
    refine z_iconst (pc := 9) (v := 1) dX11_has_9 (by decide) ?_
    refine z_goto (pc := 10) (tgt := 14) dX11_has_10 (by decide) ?_
    exact q_retB (pc := 14) dX11_has_14 rfl (Or.inr rfl) F
theorem g_X11_copies {c0 : Nat} {c1 : Nat} {h : zHp} {Q : zHp → Prop} (hc0 : zNw c0) (hc1 : zNw c1) (G : zG h) (F : zlV M_X11_copies 2 [some (.ref c0), some (.ref c1), some (.int 0)] [] h Q) : zcV M_X11_copies [.ref c0, .ref c1] h Q := by
  show zw zNT zNT M_X11_copies 0 [some (.ref c0), some (.ref c1), none] [] h _
  refine z_iconst (pc := 0) (v := 0) dX11_copies_0 (by decide) ?_
  refine z_istore_n (pc := 1) (ls' := [some (.ref c0), some (.ref c1), some (.int 0)]) dX11_copies_1 rfl (by decide) rfl ?_
  exact F
theorem g_X11_copies_2 {c0 : Nat} {c1 : Nat} {x2 : Int32} {h : zHp} {Q : zHp → Prop} (hc0 : zNw c0) (hc1 : zNw c1) (G : zG h) (F : (246 ≤ x2 → (Q h)) ∧ (¬ (246 ≤ x2) → (vp_in x2 246 ∧ (zlV M_X11_copies 2 [some (.ref c0), some (.ref c1), some (.int (x2 + 1))] [] (wI h c1 ((Int32.toNatClampNeg x2)) (rI h c0 ((Int32.toNatClampNeg x2)))) Q)))) : zlV M_X11_copies 2 [some (.ref c0), some (.ref c1), some (.int x2)] [] h Q := by
  refine z_iload_n (pc := 2) dX11_copies_2 rfl rfl ?_
  refine z_sipush (pc := 3) (v := 246) dX11_copies_3 (by decide) ?_
  refine z_icmp_ge (pc := 6) (tgt := 21) dX11_copies_6 (by decide) (fun k2 => ?_) (fun k2 => ?_)
  · replace F := F.1 k2
    exact q_retV (pc := 21) dX11_copies_21 rfl F
  · replace F := F.2 k2
    refine z_aload_n (pc := 9) dX11_copies_9 rfl rfl ?_
    refine z_iload_n (pc := 10) dX11_copies_10 rfl rfl ?_
    refine z_aload_n (pc := 11) dX11_copies_11 rfl rfl ?_
    refine z_iload_n (pc := 12) dX11_copies_12 rfl rfl ?_
    obtain ⟨k1, F⟩ := F
    refine q_iald (pc := 13) (j := (Int32.toNatClampNeg x2)) (v := rI h c0 ((Int32.toNatClampNeg x2))) dX11_copies_13 (lyNw0 hc0) (zvn (lnNw0 hc0) k1) rfl rfl ?_
    refine q_iast (pc := 14) (j := (Int32.toNatClampNeg x2)) dX11_copies_14 (lyNw0 hc1) (zvn (lnNw0 hc1) k1) rfl ?_
    refine z_iinc (pc := 15) (v := x2 + 1) (ls' := [some (.ref c0), some (.ref c1), some (.int (x2 + 1))]) dX11_copies_15 (by decide) rfl rfl rfl ?_
    refine z_goto (pc := 18) (tgt := 2) dX11_copies_18 (by decide) ?_
    exact F
theorem g_X11_isThing {x1 : Int32} {h : zHp} {Q : Int32 → zHp → Prop}  (G : zG h) (F : zcI M_X11_in [.int x1, .int 0, .int ((rI h 165 238) - 1)] h (fun vh1 h1 => zG h1 ∧ (zB vh1 ∧ Q vh1 h1))) : zcI M_X11_isThing [.ref 164, .int x1] h Q := by
  show zw zNT zNT M_X11_isThing 0 [some (.ref 164), some (.int x1)] [] h _
  refine z_iload_n (pc := 0) dX11_isThing_0 rfl rfl ?_
  refine z_iconst (pc := 1) (v := 0) dX11_isThing_1 (by decide) ?_
  refine z_aload_n (pc := 2) dX11_isThing_2 rfl rfl ?_
  refine q_getR (pc := 3) (i := 165) dX11_isThing_3 lk_RX11_7 (lyc rfl) (G 164 0 165 rfl) ?_
  refine z_sipush (pc := 6) (v := 238) dX11_isThing_6 (by decide) ?_
  refine q_iald (pc := 9) (j := 238) (v := rI h 165 238) dX11_isThing_9 (lyc rfl) (zvl (lnc rfl) (by decide)) (by decide) rfl ?_
  refine z_iconst (pc := 10) (v := 1) dX11_isThing_10 (by decide) ?_
  refine z_isub (pc := 11) dX11_isThing_11 ?_
  refine q_invS (pc := 12) (As := [.int x1, .int 0, .int ((rI h 165 238) - 1)]) (st := []) dX11_isThing_12 ok_X11_in ml_RX11_84 st_X11_in pa_X11_in ⟨Nat.le_of_ble_eq_true rfl, Nat.le_of_ble_eq_true rfl⟩ (q_kI F (fun vh1 h1 F => ?_))
  obtain ⟨G1, F⟩ := F
  exact q_retB (pc := 15) dX11_isThing_15 rfl F.1 F.2
theorem g_X11_its {x1 : Int32} {x2 : Int32} {h : zHp} {Q : Int32 → zHp → Prop}  (G : zG h) (F : vp_in ((0 + (10 * x1)) + x2) 246 ∧ (Q (rI h 165 ((Int32.toNatClampNeg ((0 + (10 * x1)) + x2)))) h)) : zcI M_X11_its [.ref 164, .int x1, .int x2] h Q := by
  show zw zNT zNT M_X11_its 0 [some (.ref 164), some (.int x1), some (.int x2)] [] h _
  refine z_aload_n (pc := 0) dX11_its_0 rfl rfl ?_
  refine q_getR (pc := 1) (i := 165) dX11_its_1 lk_RX11_7 (lyc rfl) (G 164 0 165 rfl) ?_
  refine z_iconst (pc := 4) (v := 0) dX11_its_4 (by decide) ?_
  refine z_bipush (pc := 5) (v := 10) dX11_its_5 (by decide) ?_
  refine z_iload_n (pc := 7) dX11_its_7 rfl rfl ?_
  refine z_imul (pc := 8) dX11_its_8 ?_
  refine z_iadd (pc := 9) dX11_its_9 ?_
  refine z_iload_n (pc := 10) dX11_its_10 rfl rfl ?_
  refine z_iadd (pc := 11) dX11_its_11 ?_
  obtain ⟨k1, F⟩ := F
  refine q_iald (pc := 12) (j := (Int32.toNatClampNeg ((0 + (10 * x1)) + x2))) (v := rI h 165 ((Int32.toNatClampNeg ((0 + (10 * x1)) + x2)))) dX11_its_12 (lyc rfl) (zvn (lnc rfl) k1) rfl rfl ?_
  exact q_retI (pc := 13) dX11_its_13 rfl F
theorem g_X11_isAlive {x1 : Int32} {h : zHp} {Q : Int32 → zHp → Prop}  (G : zG h) (F : zcI M_X11_isThing [.ref 164, .int x1] h (fun vh1 h1 => zG h1 ∧ ((vh1 = 0 → (Q 0 h1)) ∧ (¬ (vh1 = 0) → (zcI M_X11_its [.ref 164, .int x1, .int 5] h1 (fun vh2 h2 => zG h2 ∧ ((¬ vh2 = 1 → (Q 0 h2)) ∧ (vh2 = 1 → (Q 1 h2))))))))) : zcI M_X11_isAlive [.ref 164, .int x1] h Q := by
  show zw zNT zNT M_X11_isAlive 0 [some (.ref 164), some (.int x1)] [] h _
  refine z_aload_n (pc := 0) dX11_isAlive_0 rfl rfl ?_
  refine z_iload_n (pc := 1) dX11_isAlive_1 rfl rfl ?_
  refine q_invV (pc := 2) (As := [.int x1]) (st := []) dX11_isAlive_2 ok_X11_isThing ml_RX11_88 iv_X11_isThing pa_X11_isThing ⟨Nat.le_of_ble_eq_true rfl, Nat.le_of_ble_eq_true rfl⟩ (lyc rfl) (q_kI F (fun vh1 h1 F => ?_))
  obtain ⟨G1, F⟩ := F
  refine z_if_eq (pc := 5) (tgt := 22) dX11_isAlive_5 (by decide) (fun k4 => ?_) (fun k4 => ?_)
  · replace F := F.1 k4
    refine z_iconst (pc := 22) (v := 0) dX11_isAlive_22 (by decide) ?_
    exact q_retB (pc := 23) dX11_isAlive_23 rfl (Or.inl rfl) F
  · replace F := F.2 k4
    refine z_aload_n (pc := 8) dX11_isAlive_8 rfl rfl ?_
    refine z_iload_n (pc := 9) dX11_isAlive_9 rfl rfl ?_
    refine z_iconst (pc := 10) (v := 5) dX11_isAlive_10 (by decide) ?_
    refine q_invV (pc := 11) (As := [.int x1, .int 5]) (st := []) dX11_isAlive_11 ok_X11_its ml_RX11_92 iv_X11_its pa_X11_its ⟨Nat.le_of_ble_eq_true rfl, Nat.le_of_ble_eq_true rfl⟩ (lyc rfl) (q_kI F (fun vh2 h2 F => ?_))
    obtain ⟨G2, F⟩ := F
    refine z_iconst (pc := 14) (v := 1) dX11_isAlive_14 (by decide) ?_
    refine z_icmp_ne (pc := 15) (tgt := 22) dX11_isAlive_15 (by decide) (fun k3 => ?_) (fun k3 => ?_)
    · replace F := F.1 k3
      refine z_iconst (pc := 22) (v := 0) dX11_isAlive_22 (by decide) ?_
      exact q_retB (pc := 23) dX11_isAlive_23 rfl (Or.inl rfl) F
    · replace F := F.2 k3
      refine z_iconst (pc := 18) (v := 1) dX11_isAlive_18 (by decide) ?_
      refine z_goto (pc := 19) (tgt := 23) dX11_isAlive_19 (by decide) ?_
      exact q_retB (pc := 23) dX11_isAlive_23 rfl (Or.inr rfl) F
theorem g_X11_effectIs {x1 : Int32} {x2 : Int32} {h : zHp} {Q : Int32 → zHp → Prop}  (G : zG h) (F : vp_in ((80 + (7 * x1)) + x2) 246 ∧ (Q (rI h 165 ((Int32.toNatClampNeg ((80 + (7 * x1)) + x2)))) h)) : zcI M_X11_effectIs [.ref 164, .int x1, .int x2] h Q := by
  show zw zNT zNT M_X11_effectIs 0 [some (.ref 164), some (.int x1), some (.int x2)] [] h _
  refine z_aload_n (pc := 0) dX11_effectIs_0 rfl rfl ?_
  refine q_getR (pc := 1) (i := 165) dX11_effectIs_1 lk_RX11_7 (lyc rfl) (G 164 0 165 rfl) ?_
  refine z_bipush (pc := 4) (v := 80) dX11_effectIs_4 (by decide) ?_
  refine z_bipush (pc := 6) (v := 7) dX11_effectIs_6 (by decide) ?_
  refine z_iload_n (pc := 8) dX11_effectIs_8 rfl rfl ?_
  refine z_imul (pc := 9) dX11_effectIs_9 ?_
  refine z_iadd (pc := 10) dX11_effectIs_10 ?_
  refine z_iload_n (pc := 11) dX11_effectIs_11 rfl rfl ?_
  refine z_iadd (pc := 12) dX11_effectIs_12 ?_
  obtain ⟨k1, F⟩ := F
  refine q_iald (pc := 13) (j := (Int32.toNatClampNeg ((80 + (7 * x1)) + x2))) (v := rI h 165 ((Int32.toNatClampNeg ((80 + (7 * x1)) + x2)))) dX11_effectIs_13 (lyc rfl) (zvn (lnc rfl) k1) rfl rfl ?_
  exact q_retI (pc := 14) dX11_effectIs_14 rfl F
theorem g_X11_isEffect {x1 : Int32} {h : zHp} {Q : Int32 → zHp → Prop}  (G : zG h) (F : zcI M_X11_in [.int x1, .int 0, .int ((rI h 165 239) - 1)] h (fun vh1 h1 => zG h1 ∧ (zB vh1 ∧ Q vh1 h1))) : zcI M_X11_isEffect [.ref 164, .int x1] h Q := by
  show zw zNT zNT M_X11_isEffect 0 [some (.ref 164), some (.int x1)] [] h _
  refine z_iload_n (pc := 0) dX11_isEffect_0 rfl rfl ?_
  refine z_iconst (pc := 1) (v := 0) dX11_isEffect_1 (by decide) ?_
  refine z_aload_n (pc := 2) dX11_isEffect_2 rfl rfl ?_
  refine q_getR (pc := 3) (i := 165) dX11_isEffect_3 lk_RX11_7 (lyc rfl) (G 164 0 165 rfl) ?_
  refine z_sipush (pc := 6) (v := 239) dX11_isEffect_6 (by decide) ?_
  refine q_iald (pc := 9) (j := 239) (v := rI h 165 239) dX11_isEffect_9 (lyc rfl) (zvl (lnc rfl) (by decide)) (by decide) rfl ?_
  refine z_iconst (pc := 10) (v := 1) dX11_isEffect_10 (by decide) ?_
  refine z_isub (pc := 11) dX11_isEffect_11 ?_
  refine q_invS (pc := 12) (As := [.int x1, .int 0, .int ((rI h 165 239) - 1)]) (st := []) dX11_isEffect_12 ok_X11_in ml_RX11_84 st_X11_in pa_X11_in ⟨Nat.le_of_ble_eq_true rfl, Nat.le_of_ble_eq_true rfl⟩ (q_kI F (fun vh1 h1 F => ?_))
  obtain ⟨G1, F⟩ := F
  exact q_retB (pc := 15) dX11_isEffect_15 rfl F.1 F.2
theorem g_X11_watcher {x1 : Int32} {x2 : Int32} {h : zHp} {Q : Int32 → zHp → Prop}  (G : zG h) (F : vp_in ((182 + (7 * x1)) + x2) 246 ∧ (Q (rI h 165 ((Int32.toNatClampNeg ((182 + (7 * x1)) + x2)))) h)) : zcI M_X11_watcher [.ref 164, .int x1, .int x2] h Q := by
  show zw zNT zNT M_X11_watcher 0 [some (.ref 164), some (.int x1), some (.int x2)] [] h _
  refine z_aload_n (pc := 0) dX11_watcher_0 rfl rfl ?_
  refine q_getR (pc := 1) (i := 165) dX11_watcher_1 lk_RX11_7 (lyc rfl) (G 164 0 165 rfl) ?_
  refine z_sipush (pc := 4) (v := 182) dX11_watcher_4 (by decide) ?_
  refine z_bipush (pc := 7) (v := 7) dX11_watcher_7 (by decide) ?_
  refine z_iload_n (pc := 9) dX11_watcher_9 rfl rfl ?_
  refine z_imul (pc := 10) dX11_watcher_10 ?_
  refine z_iadd (pc := 11) dX11_watcher_11 ?_
  refine z_iload_n (pc := 12) dX11_watcher_12 rfl rfl ?_
  refine z_iadd (pc := 13) dX11_watcher_13 ?_
  obtain ⟨k1, F⟩ := F
  refine q_iald (pc := 14) (j := (Int32.toNatClampNeg ((182 + (7 * x1)) + x2))) (v := rI h 165 ((Int32.toNatClampNeg ((182 + (7 * x1)) + x2)))) dX11_watcher_14 (lyc rfl) (zvn (lnc rfl) k1) rfl rfl ?_
  exact q_retI (pc := 15) dX11_watcher_15 rfl F
theorem g_X11_isScope {x0 : Int32} {x1 : Int32} {h : zHp} {Q : Int32 → zHp → Prop}  (G : zG h) (F : (x0 = 0 → (Q 1 h)) ∧ (¬ (x0 = 0) → (zcI M_X11_in [.int x0, .int 1, .int 5] h (fun vh1 h1 => zG h1 ∧ ((vh1 = 0 → (Q 0 h1)) ∧ (¬ (vh1 = 0) → ((¬ x0 = 1 → ((¬ x0 = 5 → (zcI M_X11_in [.int x1, .int 0, .int 5] h1 (fun vh2 h2 => zG h2 ∧ ((vh2 = 0 → (Q 0 h2)) ∧ (¬ (vh2 = 0) → (Q 1 h2)))))) ∧ (x0 = 5 → (zcI M_X11_in [.int x1, .int 0, .int 7] h1 (fun vh3 h3 => zG h3 ∧ ((vh3 = 0 → (Q 0 h3)) ∧ (¬ (vh3 = 0) → (Q 1 h3)))))))) ∧ (x0 = 1 → (zcI M_X11_in [.int x1, .int 0, .int 1] h1 (fun vh4 h4 => zG h4 ∧ ((vh4 = 0 → (Q 0 h4)) ∧ (¬ (vh4 = 0) → (Q 1 h4))))))))))))) : zcI M_X11_isScope [.int x0, .int x1] h Q := by
  show zw zNT zNT M_X11_isScope 0 [some (.int x0), some (.int x1)] [] h _
  refine z_iload_n (pc := 0) dX11_isScope_0 rfl rfl ?_
  refine z_if_eq (pc := 1) (tgt := 41) dX11_isScope_1 (by decide) (fun k11 => ?_) (fun k11 => ?_)
  · replace F := F.1 k11
    refine z_iconst (pc := 41) (v := 1) dX11_isScope_41 (by decide) ?_
    refine z_goto (pc := 42) (tgt := 46) dX11_isScope_42 (by decide) ?_
    exact q_retB (pc := 46) dX11_isScope_46 rfl (Or.inr rfl) F
  · replace F := F.2 k11
    refine z_iload_n (pc := 4) dX11_isScope_4 rfl rfl ?_
    refine z_iconst (pc := 5) (v := 1) dX11_isScope_5 (by decide) ?_
    refine z_iconst (pc := 6) (v := 5) dX11_isScope_6 (by decide) ?_
    refine q_invS (pc := 7) (As := [.int x0, .int 1, .int 5]) (st := []) dX11_isScope_7 ok_X11_in ml_RX11_84 st_X11_in pa_X11_in ⟨Nat.le_of_ble_eq_true rfl, Nat.le_of_ble_eq_true rfl⟩ (q_kI F (fun vh1 h1 F => ?_))
    obtain ⟨G1, F⟩ := F
    refine z_if_eq (pc := 10) (tgt := 45) dX11_isScope_10 (by decide) (fun k10 => ?_) (fun k10 => ?_)
    · replace F := F.1 k10
      refine z_iconst (pc := 45) (v := 0) dX11_isScope_45 (by decide) ?_
      exact q_retB (pc := 46) dX11_isScope_46 rfl (Or.inl rfl) F
    · replace F := F.2 k10
      refine z_iload_n (pc := 13) dX11_isScope_13 rfl rfl ?_
      refine z_iconst (pc := 14) (v := 0) dX11_isScope_14 (by decide) ?_
      refine z_iload_n (pc := 15) dX11_isScope_15 rfl rfl ?_
      refine z_iconst (pc := 16) (v := 1) dX11_isScope_16 (by decide) ?_
      refine z_icmp_ne (pc := 17) (tgt := 24) dX11_isScope_17 (by decide) (fun k9 => ?_) (fun k9 => ?_)
      · replace F := F.1 k9
        refine z_iload_n (pc := 24) dX11_isScope_24 rfl rfl ?_
        refine z_iconst (pc := 25) (v := 5) dX11_isScope_25 (by decide) ?_
        refine z_icmp_ne (pc := 26) (tgt := 34) dX11_isScope_26 (by decide) (fun k6 => ?_) (fun k6 => ?_)
        · replace F := F.1 k6
          refine z_iconst (pc := 34) (v := 5) dX11_isScope_34 (by decide) ?_
          refine q_invS (pc := 35) (As := [.int x1, .int 0, .int 5]) (st := []) dX11_isScope_35 ok_X11_in ml_RX11_84 st_X11_in pa_X11_in ⟨Nat.le_of_ble_eq_true rfl, Nat.le_of_ble_eq_true rfl⟩ (q_kI F (fun vh2 h2 F => ?_))
          obtain ⟨G2, F⟩ := F
          refine z_if_eq (pc := 38) (tgt := 45) dX11_isScope_38 (by decide) (fun k3 => ?_) (fun k3 => ?_)
          · replace F := F.1 k3
            refine z_iconst (pc := 45) (v := 0) dX11_isScope_45 (by decide) ?_
            exact q_retB (pc := 46) dX11_isScope_46 rfl (Or.inl rfl) F
          · replace F := F.2 k3
            refine z_iconst (pc := 41) (v := 1) dX11_isScope_41 (by decide) ?_
            refine z_goto (pc := 42) (tgt := 46) dX11_isScope_42 (by decide) ?_
            exact q_retB (pc := 46) dX11_isScope_46 rfl (Or.inr rfl) F
        · replace F := F.2 k6
          refine z_bipush (pc := 29) (v := 7) dX11_isScope_29 (by decide) ?_
          refine z_goto (pc := 31) (tgt := 35) dX11_isScope_31 (by decide) ?_
          refine q_invS (pc := 35) (As := [.int x1, .int 0, .int 7]) (st := []) dX11_isScope_35 ok_X11_in ml_RX11_84 st_X11_in pa_X11_in ⟨Nat.le_of_ble_eq_true rfl, Nat.le_of_ble_eq_true rfl⟩ (q_kI F (fun vh3 h3 F => ?_))
          obtain ⟨G3, F⟩ := F
          refine z_if_eq (pc := 38) (tgt := 45) dX11_isScope_38 (by decide) (fun k5 => ?_) (fun k5 => ?_)
          · replace F := F.1 k5
            refine z_iconst (pc := 45) (v := 0) dX11_isScope_45 (by decide) ?_
            exact q_retB (pc := 46) dX11_isScope_46 rfl (Or.inl rfl) F
          · replace F := F.2 k5
            refine z_iconst (pc := 41) (v := 1) dX11_isScope_41 (by decide) ?_
            refine z_goto (pc := 42) (tgt := 46) dX11_isScope_42 (by decide) ?_
            exact q_retB (pc := 46) dX11_isScope_46 rfl (Or.inr rfl) F
      · replace F := F.2 k9
        refine z_iconst (pc := 20) (v := 1) dX11_isScope_20 (by decide) ?_
        refine z_goto (pc := 21) (tgt := 35) dX11_isScope_21 (by decide) ?_
        refine q_invS (pc := 35) (As := [.int x1, .int 0, .int 1]) (st := []) dX11_isScope_35 ok_X11_in ml_RX11_84 st_X11_in pa_X11_in ⟨Nat.le_of_ble_eq_true rfl, Nat.le_of_ble_eq_true rfl⟩ (q_kI F (fun vh4 h4 F => ?_))
        obtain ⟨G4, F⟩ := F
        refine z_if_eq (pc := 38) (tgt := 45) dX11_isScope_38 (by decide) (fun k8 => ?_) (fun k8 => ?_)
        · replace F := F.1 k8
          refine z_iconst (pc := 45) (v := 0) dX11_isScope_45 (by decide) ?_
          exact q_retB (pc := 46) dX11_isScope_46 rfl (Or.inl rfl) F
        · replace F := F.2 k8
          refine z_iconst (pc := 41) (v := 1) dX11_isScope_41 (by decide) ?_
          refine z_goto (pc := 42) (tgt := 46) dX11_isScope_42 (by decide) ?_
          exact q_retB (pc := 46) dX11_isScope_46 rfl (Or.inr rfl) F
theorem g_X11_inScope {c1 : Nat} {x2 : Int32} {x3 : Int32} {h : zHp} {Q : Int32 → zHp → Prop} (hc1 : zRow c1) (G : zG h) (F : zlI M_X11_inScope 6 [some (.ref 164), some (.ref c1), some (.int x2), some (.int x3), some (.int 0), some (.int 0), none] [] h Q) : zcI M_X11_inScope [.ref 164, .ref c1, .int x2, .int x3] h Q := by
  show zw zNT zNT M_X11_inScope 0 [some (.ref 164), some (.ref c1), some (.int x2), some (.int x3), none, none, none] [] h _
  refine z_iconst (pc := 0) (v := 0) dX11_inScope_0 (by decide) ?_
  refine z_istore (pc := 1) (ls' := [some (.ref 164), some (.ref c1), some (.int x2), some (.int x3), some (.int 0), none, none]) dX11_inScope_1 (by decide) rfl ?_
  refine z_iconst (pc := 3) (v := 0) dX11_inScope_3 (by decide) ?_
  refine z_istore (pc := 4) (ls' := [some (.ref 164), some (.ref c1), some (.int x2), some (.int x3), some (.int 0), some (.int 0), none]) dX11_inScope_4 (by decide) rfl ?_
  exact F
theorem g_X11_inScope_6 {c1 : Nat} {x2 : Int32} {x3 : Int32} {x4 : Int32} {x5 : Int32} {h : zHp} {Q : Int32 → zHp → Prop} (hc1 : zRow c1) (G : zG h) (F : (rI h 165 238 ≤ x5 → (Q x4 h)) ∧ (¬ (rI h 165 238 ≤ x5) → ((x2 = 0 → (zlI M_X11_inScope 117 [some (.ref 164), some (.ref c1), some (.int x2), some (.int x3), some (.int x4), some (.int x5), none] [.int 1] h Q)) ∧ (¬ (x2 = 0) → ((¬ x2 = 1 → ((¬ x2 = 2 → ((¬ x2 = 3 → ((¬ x2 = 4 → ((¬ x5 = x3 → (zlI M_X11_inScope 117 [some (.ref 164), some (.ref c1), some (.int x2), some (.int x3), some (.int x4), some (.int x5), none] [.int 0] h Q)) ∧ (x5 = x3 → (zlI M_X11_inScope 117 [some (.ref 164), some (.ref c1), some (.int x2), some (.int x3), some (.int x4), some (.int x5), none] [.int 1] h Q)))) ∧ (x2 = 4 → (vp_in ((4 * x5) + 1) 32 ∧ (zcI M_X11_has [.int (rI h c1 ((Int32.toNatClampNeg ((4 * x5) + 1)))), .int x3] h (fun vh1 h1 => zG h1 ∧ ((¬ vh1 = 0 → (zlI M_X11_inScope 117 [some (.ref 164), some (.ref c1), some (.int x2), some (.int x3), some (.int x4), some (.int x5), none] [.int 0] h1 Q)) ∧ (vh1 = 0 → (zlI M_X11_inScope 117 [some (.ref 164), some (.ref c1), some (.int x2), some (.int x3), some (.int x4), some (.int x5), none] [.int 1] h1 Q))))))))) ∧ (x2 = 3 → (vp_in ((4 * x5) + 1) 32 ∧ (zcI M_X11_has [.int (rI h c1 ((Int32.toNatClampNeg ((4 * x5) + 1)))), .int x3] h (fun vh2 h2 => zG h2 ∧ ((vh2 = 0 → (zlI M_X11_inScope 117 [some (.ref 164), some (.ref c1), some (.int x2), some (.int x3), some (.int x4), some (.int x5), none] [.int 0] h2 Q)) ∧ (¬ (vh2 = 0) → (zlI M_X11_inScope 117 [some (.ref 164), some (.ref c1), some (.int x2), some (.int x3), some (.int x4), some (.int x5), none] [.int 1] h2 Q))))))))) ∧ (x2 = 2 → (vp_in (4 * x5) 32 ∧ ((¬ rI h c1 ((Int32.toNatClampNeg (4 * x5))) = x3 → (zlI M_X11_inScope 117 [some (.ref 164), some (.ref c1), some (.int x2), some (.int x3), some (.int x4), some (.int x5), none] [.int 0] h Q)) ∧ (rI h c1 ((Int32.toNatClampNeg (4 * x5))) = x3 → (zlI M_X11_inScope 117 [some (.ref 164), some (.ref c1), some (.int x2), some (.int x3), some (.int x4), some (.int x5), none] [.int 1] h Q))))))) ∧ (x2 = 1 → (zcI M_X11_its [.ref 164, .int x5, .int 0] h (fun vh3 h3 => zG h3 ∧ ((¬ vh3 = x3 → (zlI M_X11_inScope 117 [some (.ref 164), some (.ref c1), some (.int x2), some (.int x3), some (.int x4), some (.int x5), none] [.int 0] h3 Q)) ∧ (vh3 = x3 → (zlI M_X11_inScope 117 [some (.ref 164), some (.ref c1), some (.int x2), some (.int x3), some (.int x4), some (.int x5), none] [.int 1] h3 Q))))))))))) : zlI M_X11_inScope 6 [some (.ref 164), some (.ref c1), some (.int x2), some (.int x3), some (.int x4), some (.int x5), none] [] h Q := by
  refine z_iload (pc := 6) dX11_inScope_6 rfl ?_
  refine z_aload_n (pc := 8) dX11_inScope_8 rfl rfl ?_
  refine q_getR (pc := 9) (i := 165) dX11_inScope_9 lk_RX11_7 (lyc rfl) (G 164 0 165 rfl) ?_
  refine z_sipush (pc := 12) (v := 238) dX11_inScope_12 (by decide) ?_
  refine q_iald (pc := 15) (j := 238) (v := rI h 165 238) dX11_inScope_15 (lyc rfl) (zvl (lnc rfl) (by decide)) (by decide) rfl ?_
  refine z_icmp_ge (pc := 16) (tgt := 152) dX11_inScope_16 (by decide) (fun k17 => ?_) (fun k17 => ?_)
  · replace F := F.1 k17
    refine z_iload (pc := 152) dX11_inScope_152 rfl ?_
    exact q_retI (pc := 154) dX11_inScope_154 rfl F
  · replace F := F.2 k17
    refine z_iload_n (pc := 19) dX11_inScope_19 rfl rfl ?_
    refine z_if_eq (pc := 20) (tgt := 112) dX11_inScope_20 (by decide) (fun k16 => ?_) (fun k16 => ?_)
    · replace F := F.1 k16
      refine z_iconst (pc := 112) (v := 1) dX11_inScope_112 (by decide) ?_
      refine z_goto (pc := 113) (tgt := 117) dX11_inScope_113 (by decide) ?_
      exact F
    · replace F := F.2 k16
      refine z_iload_n (pc := 23) dX11_inScope_23 rfl rfl ?_
      refine z_iconst (pc := 24) (v := 1) dX11_inScope_24 (by decide) ?_
      refine z_icmp_ne (pc := 25) (tgt := 42) dX11_inScope_25 (by decide) (fun k15 => ?_) (fun k15 => ?_)
      · replace F := F.1 k15
        refine z_iload_n (pc := 42) dX11_inScope_42 rfl rfl ?_
        refine z_iconst (pc := 43) (v := 2) dX11_inScope_43 (by decide) ?_
        refine z_icmp_ne (pc := 44) (tgt := 60) dX11_inScope_44 (by decide) (fun k12 => ?_) (fun k12 => ?_)
        · replace F := F.1 k12
          refine z_iload_n (pc := 60) dX11_inScope_60 rfl rfl ?_
          refine z_iconst (pc := 61) (v := 3) dX11_inScope_61 (by decide) ?_
          refine z_icmp_ne (pc := 62) (tgt := 83) dX11_inScope_62 (by decide) (fun k9 => ?_) (fun k9 => ?_)
          · replace F := F.1 k9
            refine z_iload_n (pc := 83) dX11_inScope_83 rfl rfl ?_
            refine z_iconst (pc := 84) (v := 4) dX11_inScope_84 (by decide) ?_
            refine z_icmp_ne (pc := 85) (tgt := 106) dX11_inScope_85 (by decide) (fun k5 => ?_) (fun k5 => ?_)
            · replace F := F.1 k5
              refine z_iload (pc := 106) dX11_inScope_106 rfl ?_
              refine z_iload_n (pc := 108) dX11_inScope_108 rfl rfl ?_
              refine z_icmp_ne (pc := 109) (tgt := 116) dX11_inScope_109 (by decide) (fun k1 => ?_) (fun k1 => ?_)
              · replace F := F.1 k1
                refine z_iconst (pc := 116) (v := 0) dX11_inScope_116 (by decide) ?_
                exact F
              · replace F := F.2 k1
                refine z_iconst (pc := 112) (v := 1) dX11_inScope_112 (by decide) ?_
                refine z_goto (pc := 113) (tgt := 117) dX11_inScope_113 (by decide) ?_
                exact F
            · replace F := F.2 k5
              refine z_aload_n (pc := 88) dX11_inScope_88 rfl rfl ?_
              refine z_iconst (pc := 89) (v := 4) dX11_inScope_89 (by decide) ?_
              refine z_iload (pc := 90) dX11_inScope_90 rfl ?_
              refine z_imul (pc := 92) dX11_inScope_92 ?_
              refine z_iconst (pc := 93) (v := 1) dX11_inScope_93 (by decide) ?_
              refine z_iadd (pc := 94) dX11_inScope_94 ?_
              obtain ⟨k2, F⟩ := F
              refine q_iald (pc := 95) (j := (Int32.toNatClampNeg ((4 * x5) + 1))) (v := rI h c1 ((Int32.toNatClampNeg ((4 * x5) + 1)))) dX11_inScope_95 (lyRow0 hc1) (zvn (lnRow0 hc1) k2) rfl rfl ?_
              refine z_iload_n (pc := 96) dX11_inScope_96 rfl rfl ?_
              refine q_invS (pc := 97) (As := [.int (rI h c1 ((Int32.toNatClampNeg ((4 * x5) + 1)))), .int x3]) (st := []) dX11_inScope_97 ok_X11_has ml_RX11_96 st_X11_has pa_X11_has ⟨Nat.le_of_ble_eq_true rfl, Nat.le_of_ble_eq_true rfl⟩ (q_kI F (fun vh1 h1 F => ?_))
              obtain ⟨G1, F⟩ := F
              refine z_if_ne (pc := 100) (tgt := 116) dX11_inScope_100 (by decide) (fun k4 => ?_) (fun k4 => ?_)
              · replace F := F.1 k4
                refine z_iconst (pc := 116) (v := 0) dX11_inScope_116 (by decide) ?_
                exact F
              · replace F := F.2 k4
                refine z_goto (pc := 103) (tgt := 112) dX11_inScope_103 (by decide) ?_
                refine z_iconst (pc := 112) (v := 1) dX11_inScope_112 (by decide) ?_
                refine z_goto (pc := 113) (tgt := 117) dX11_inScope_113 (by decide) ?_
                exact F
          · replace F := F.2 k9
            refine z_aload_n (pc := 65) dX11_inScope_65 rfl rfl ?_
            refine z_iconst (pc := 66) (v := 4) dX11_inScope_66 (by decide) ?_
            refine z_iload (pc := 67) dX11_inScope_67 rfl ?_
            refine z_imul (pc := 69) dX11_inScope_69 ?_
            refine z_iconst (pc := 70) (v := 1) dX11_inScope_70 (by decide) ?_
            refine z_iadd (pc := 71) dX11_inScope_71 ?_
            obtain ⟨k6, F⟩ := F
            refine q_iald (pc := 72) (j := (Int32.toNatClampNeg ((4 * x5) + 1))) (v := rI h c1 ((Int32.toNatClampNeg ((4 * x5) + 1)))) dX11_inScope_72 (lyRow0 hc1) (zvn (lnRow0 hc1) k6) rfl rfl ?_
            refine z_iload_n (pc := 73) dX11_inScope_73 rfl rfl ?_
            refine q_invS (pc := 74) (As := [.int (rI h c1 ((Int32.toNatClampNeg ((4 * x5) + 1)))), .int x3]) (st := []) dX11_inScope_74 ok_X11_has ml_RX11_96 st_X11_has pa_X11_has ⟨Nat.le_of_ble_eq_true rfl, Nat.le_of_ble_eq_true rfl⟩ (q_kI F (fun vh2 h2 F => ?_))
            obtain ⟨G2, F⟩ := F
            refine z_if_eq (pc := 77) (tgt := 116) dX11_inScope_77 (by decide) (fun k8 => ?_) (fun k8 => ?_)
            · replace F := F.1 k8
              refine z_iconst (pc := 116) (v := 0) dX11_inScope_116 (by decide) ?_
              exact F
            · replace F := F.2 k8
              refine z_goto (pc := 80) (tgt := 112) dX11_inScope_80 (by decide) ?_
              refine z_iconst (pc := 112) (v := 1) dX11_inScope_112 (by decide) ?_
              refine z_goto (pc := 113) (tgt := 117) dX11_inScope_113 (by decide) ?_
              exact F
        · replace F := F.2 k12
          refine z_aload_n (pc := 47) dX11_inScope_47 rfl rfl ?_
          refine z_iconst (pc := 48) (v := 4) dX11_inScope_48 (by decide) ?_
          refine z_iload (pc := 49) dX11_inScope_49 rfl ?_
          refine z_imul (pc := 51) dX11_inScope_51 ?_
          obtain ⟨k10, F⟩ := F
          refine q_iald (pc := 52) (j := (Int32.toNatClampNeg (4 * x5))) (v := rI h c1 ((Int32.toNatClampNeg (4 * x5)))) dX11_inScope_52 (lyRow0 hc1) (zvn (lnRow0 hc1) k10) rfl rfl ?_
          refine z_iload_n (pc := 53) dX11_inScope_53 rfl rfl ?_
          refine z_icmp_ne (pc := 54) (tgt := 116) dX11_inScope_54 (by decide) (fun k11 => ?_) (fun k11 => ?_)
          · replace F := F.1 k11
            refine z_iconst (pc := 116) (v := 0) dX11_inScope_116 (by decide) ?_
            exact F
          · replace F := F.2 k11
            refine z_goto (pc := 57) (tgt := 112) dX11_inScope_57 (by decide) ?_
            refine z_iconst (pc := 112) (v := 1) dX11_inScope_112 (by decide) ?_
            refine z_goto (pc := 113) (tgt := 117) dX11_inScope_113 (by decide) ?_
            exact F
      · replace F := F.2 k15
        refine z_aload_n (pc := 28) dX11_inScope_28 rfl rfl ?_
        refine z_iload (pc := 29) dX11_inScope_29 rfl ?_
        refine z_iconst (pc := 31) (v := 0) dX11_inScope_31 (by decide) ?_
        refine q_invV (pc := 32) (As := [.int x5, .int 0]) (st := []) dX11_inScope_32 ok_X11_its ml_RX11_92 iv_X11_its pa_X11_its ⟨Nat.le_of_ble_eq_true rfl, Nat.le_of_ble_eq_true rfl⟩ (lyc rfl) (q_kI F (fun vh3 h3 F => ?_))
        obtain ⟨G3, F⟩ := F
        refine z_iload_n (pc := 35) dX11_inScope_35 rfl rfl ?_
        refine z_icmp_ne (pc := 36) (tgt := 116) dX11_inScope_36 (by decide) (fun k14 => ?_) (fun k14 => ?_)
        · replace F := F.1 k14
          refine z_iconst (pc := 116) (v := 0) dX11_inScope_116 (by decide) ?_
          exact F
        · replace F := F.2 k14
          refine z_goto (pc := 39) (tgt := 112) dX11_inScope_39 (by decide) ?_
          refine z_iconst (pc := 112) (v := 1) dX11_inScope_112 (by decide) ?_
          refine z_goto (pc := 113) (tgt := 117) dX11_inScope_113 (by decide) ?_
          exact F
theorem g_X11_inScope_117 {c1 : Nat} {x2 : Int32} {x3 : Int32} {x4 : Int32} {x5 : Int32} {xs0 : Int32} {h : zHp} {Q : Int32 → zHp → Prop} (hc1 : zRow c1) (G : zG h) (F : (xs0 = 0 → (zlI M_X11_inScope 6 [some (.ref 164), some (.ref c1), some (.int x2), some (.int x3), some (.int (x4 ||| 0)), some (.int (x5 + 1)), none] [] h Q)) ∧ (¬ (xs0 = 0) → (zcI M_X11_isAlive [.ref 164, .int x5] h (fun vh1 h1 => zG h1 ∧ ((vh1 = 0 → (zlI M_X11_inScope 6 [some (.ref 164), some (.ref c1), some (.int x2), some (.int x3), some (.int (x4 ||| 0)), some (.int (x5 + 1)), none] [] h1 Q)) ∧ (¬ (vh1 = 0) → (zlI M_X11_inScope 6 [some (.ref 164), some (.ref c1), some (.int x2), some (.int x3), some (.int (x4 ||| (1 <<< (x5 &&& 31)))), some (.int (x5 + 1)), none] [] h1 Q))))))) : zlI M_X11_inScope 117 [some (.ref 164), some (.ref c1), some (.int x2), some (.int x3), some (.int x4), some (.int x5), none] [.int xs0] h Q := by
  refine z_istore (pc := 117) (ls' := [some (.ref 164), some (.ref c1), some (.int x2), some (.int x3), some (.int x4), some (.int x5), some (.int xs0)]) dX11_inScope_117 (by decide) rfl ?_
  refine z_iload (pc := 119) dX11_inScope_119 rfl ?_
  refine z_iload (pc := 121) dX11_inScope_121 rfl ?_
  refine z_if_eq (pc := 123) (tgt := 142) dX11_inScope_123 (by decide) (fun k3 => ?_) (fun k3 => ?_)
  · replace F := F.1 k3
    refine z_iconst (pc := 142) (v := 0) dX11_inScope_142 (by decide) ?_
    refine z_ior (pc := 143) dX11_inScope_143 ?_
    refine z_istore (pc := 144) (ls' := [some (.ref 164), some (.ref c1), some (.int x2), some (.int x3), some (.int (x4 ||| 0)), some (.int x5), some (.int xs0)]) dX11_inScope_144 (by decide) rfl ?_
    refine z_iinc (pc := 146) (v := x5 + 1) (ls' := [some (.ref 164), some (.ref c1), some (.int x2), some (.int x3), some (.int (x4 ||| 0)), some (.int (x5 + 1)), some (.int xs0)]) dX11_inScope_146 (by decide) rfl rfl rfl ?_
    refine z_goto (pc := 149) (tgt := 6) dX11_inScope_149 (by decide) ?_
    exact q_sub (ls' := [some (.ref 164), some (.ref c1), some (.int x2), some (.int x3), some (.int (x4 ||| 0)), some (.int (x5 + 1)), none]) ⟨rfl, rfl, rfl, rfl, rfl, rfl, trivial⟩ F
  · replace F := F.2 k3
    refine z_aload_n (pc := 126) dX11_inScope_126 rfl rfl ?_
    refine z_iload (pc := 127) dX11_inScope_127 rfl ?_
    refine q_invV (pc := 129) (As := [.int x5]) (st := [.int x4]) dX11_inScope_129 ok_X11_isAlive ml_RX11_100 iv_X11_isAlive pa_X11_isAlive ⟨Nat.le_of_ble_eq_true rfl, Nat.le_of_ble_eq_true rfl⟩ (lyc rfl) (q_kI F (fun vh1 h1 F => ?_))
    obtain ⟨G1, F⟩ := F
    refine z_if_eq (pc := 132) (tgt := 142) dX11_inScope_132 (by decide) (fun k2 => ?_) (fun k2 => ?_)
    · replace F := F.1 k2
      refine z_iconst (pc := 142) (v := 0) dX11_inScope_142 (by decide) ?_
      refine z_ior (pc := 143) dX11_inScope_143 ?_
      refine z_istore (pc := 144) (ls' := [some (.ref 164), some (.ref c1), some (.int x2), some (.int x3), some (.int (x4 ||| 0)), some (.int x5), some (.int xs0)]) dX11_inScope_144 (by decide) rfl ?_
      refine z_iinc (pc := 146) (v := x5 + 1) (ls' := [some (.ref 164), some (.ref c1), some (.int x2), some (.int x3), some (.int (x4 ||| 0)), some (.int (x5 + 1)), some (.int xs0)]) dX11_inScope_146 (by decide) rfl rfl rfl ?_
      refine z_goto (pc := 149) (tgt := 6) dX11_inScope_149 (by decide) ?_
      exact q_sub (ls' := [some (.ref 164), some (.ref c1), some (.int x2), some (.int x3), some (.int (x4 ||| 0)), some (.int (x5 + 1)), none]) ⟨rfl, rfl, rfl, rfl, rfl, rfl, trivial⟩ F
    · replace F := F.2 k2
      refine z_iconst (pc := 135) (v := 1) dX11_inScope_135 (by decide) ?_
      refine z_iload (pc := 136) dX11_inScope_136 rfl ?_
      refine z_ishl (pc := 138) dX11_inScope_138 ?_
      refine z_goto (pc := 139) (tgt := 143) dX11_inScope_139 (by decide) ?_
      refine z_ior (pc := 143) dX11_inScope_143 ?_
      refine z_istore (pc := 144) (ls' := [some (.ref 164), some (.ref c1), some (.int x2), some (.int x3), some (.int (x4 ||| (1 <<< (x5 &&& 31)))), some (.int x5), some (.int xs0)]) dX11_inScope_144 (by decide) rfl ?_
      refine z_iinc (pc := 146) (v := x5 + 1) (ls' := [some (.ref 164), some (.ref c1), some (.int x2), some (.int x3), some (.int (x4 ||| (1 <<< (x5 &&& 31)))), some (.int (x5 + 1)), some (.int xs0)]) dX11_inScope_146 (by decide) rfl rfl rfl ?_
      refine z_goto (pc := 149) (tgt := 6) dX11_inScope_149 (by decide) ?_
      exact q_sub (ls' := [some (.ref 164), some (.ref c1), some (.int x2), some (.int x3), some (.int (x4 ||| (1 <<< (x5 &&& 31)))), some (.int (x5 + 1)), none]) ⟨rfl, rfl, rfl, rfl, rfl, rfl, trivial⟩ F
theorem g_X11_scopeOf {c1 : Nat} {x2 : Int32} {h : zHp} {Q : Int32 → zHp → Prop} (hc1 : zRow c1) (G : zG h) (F : zcI M_X11_effectIs [.ref 164, .int x2, .int 2] h (fun vh1 h1 => zG h1 ∧ (zcI M_X11_effectIs [.ref 164, .int x2, .int 3] h1 (fun vh2 h2 => zG h2 ∧ (zcI M_X11_inScope [.ref 164, .ref c1, .int vh1, .int vh2] h2 (fun vh3 h3 => zG h3 ∧ (Q vh3 h3))))))) : zcI M_X11_scopeOf [.ref 164, .ref c1, .int x2] h Q := by
  show zw zNT zNT M_X11_scopeOf 0 [some (.ref 164), some (.ref c1), some (.int x2)] [] h _
  refine z_aload_n (pc := 0) dX11_scopeOf_0 rfl rfl ?_
  refine z_aload_n (pc := 1) dX11_scopeOf_1 rfl rfl ?_
  refine z_aload_n (pc := 2) dX11_scopeOf_2 rfl rfl ?_
  refine z_iload_n (pc := 3) dX11_scopeOf_3 rfl rfl ?_
  refine z_iconst (pc := 4) (v := 2) dX11_scopeOf_4 (by decide) ?_
  refine q_invV (pc := 5) (As := [.int x2, .int 2]) (st := [.ref c1, .ref 164]) dX11_scopeOf_5 ok_X11_effectIs ml_RX11_103 iv_X11_effectIs pa_X11_effectIs ⟨Nat.le_of_ble_eq_true rfl, Nat.le_of_ble_eq_true rfl⟩ (lyc rfl) (q_kI F (fun vh1 h1 F => ?_))
  obtain ⟨G1, F⟩ := F
  refine z_aload_n (pc := 8) dX11_scopeOf_8 rfl rfl ?_
  refine z_iload_n (pc := 9) dX11_scopeOf_9 rfl rfl ?_
  refine z_iconst (pc := 10) (v := 3) dX11_scopeOf_10 (by decide) ?_
  refine q_invV (pc := 11) (As := [.int x2, .int 3]) (st := [.int vh1, .ref c1, .ref 164]) dX11_scopeOf_11 ok_X11_effectIs ml_RX11_103 iv_X11_effectIs pa_X11_effectIs ⟨Nat.le_of_ble_eq_true rfl, Nat.le_of_ble_eq_true rfl⟩ (lyc rfl) (q_kI F (fun vh2 h2 F => ?_))
  obtain ⟨G2, F⟩ := F
  refine q_invV (pc := 14) (As := [.ref c1, .int vh1, .int vh2]) (st := []) dX11_scopeOf_14 ok_X11_inScope ml_RX11_106 iv_X11_inScope pa_X11_inScope ⟨Nat.le_of_ble_eq_true rfl, Nat.le_of_ble_eq_true rfl⟩ (lyc rfl) (q_kI F (fun vh3 h3 F => ?_))
  obtain ⟨G3, F⟩ := F
  exact q_retI (pc := 17) dX11_scopeOf_17 rfl F
theorem g_X11_does {c1 : Nat} {x2 : Int32} {h : zHp} {Q : zHp → Prop} (hc1 : zRow c1) (G : zG h) (F : zcI M_X11_scopeOf [.ref 164, .ref c1, .int x2] h (fun vh1 h1 => zG h1 ∧ (zcI M_X11_effectIs [.ref 164, .int x2, .int 4] h1 (fun vh2 h2 => zG h2 ∧ (zcI M_X11_effectIs [.ref 164, .int x2, .int 5] h2 (fun vh3 h3 => zG h3 ∧ (zlV M_X11_does 26 [some (.ref 164), some (.ref c1), some (.int x2), some (.int vh1), some (.int vh2), some (.int vh3), some (.int 0), none, none] [] h3 Q))))))) : zcV M_X11_does [.ref 164, .ref c1, .int x2] h Q := by
  show zw zNT zNT M_X11_does 0 [some (.ref 164), some (.ref c1), some (.int x2), none, none, none, none, none, none] [] h _
  refine z_aload_n (pc := 0) dX11_does_0 rfl rfl ?_
  refine z_aload_n (pc := 1) dX11_does_1 rfl rfl ?_
  refine z_iload_n (pc := 2) dX11_does_2 rfl rfl ?_
  refine q_invV (pc := 3) (As := [.ref c1, .int x2]) (st := []) dX11_does_3 ok_X11_scopeOf ml_RX11_110 iv_X11_scopeOf pa_X11_scopeOf ⟨Nat.le_of_ble_eq_true rfl, Nat.le_of_ble_eq_true rfl⟩ (lyc rfl) (q_kI F (fun vh1 h1 F => ?_))
  obtain ⟨G1, F⟩ := F
  refine z_istore_n (pc := 6) (ls' := [some (.ref 164), some (.ref c1), some (.int x2), some (.int vh1), none, none, none, none, none]) dX11_does_6 rfl (by decide) rfl ?_
  refine z_aload_n (pc := 7) dX11_does_7 rfl rfl ?_
  refine z_iload_n (pc := 8) dX11_does_8 rfl rfl ?_
  refine z_iconst (pc := 9) (v := 4) dX11_does_9 (by decide) ?_
  refine q_invV (pc := 10) (As := [.int x2, .int 4]) (st := []) dX11_does_10 ok_X11_effectIs ml_RX11_103 iv_X11_effectIs pa_X11_effectIs ⟨Nat.le_of_ble_eq_true rfl, Nat.le_of_ble_eq_true rfl⟩ (lyc rfl) (q_kI F (fun vh2 h2 F => ?_))
  obtain ⟨G2, F⟩ := F
  refine z_istore (pc := 13) (ls' := [some (.ref 164), some (.ref c1), some (.int x2), some (.int vh1), some (.int vh2), none, none, none, none]) dX11_does_13 (by decide) rfl ?_
  refine z_aload_n (pc := 15) dX11_does_15 rfl rfl ?_
  refine z_iload_n (pc := 16) dX11_does_16 rfl rfl ?_
  refine z_iconst (pc := 17) (v := 5) dX11_does_17 (by decide) ?_
  refine q_invV (pc := 18) (As := [.int x2, .int 5]) (st := []) dX11_does_18 ok_X11_effectIs ml_RX11_103 iv_X11_effectIs pa_X11_effectIs ⟨Nat.le_of_ble_eq_true rfl, Nat.le_of_ble_eq_true rfl⟩ (lyc rfl) (q_kI F (fun vh3 h3 F => ?_))
  obtain ⟨G3, F⟩ := F
  refine z_istore (pc := 21) (ls' := [some (.ref 164), some (.ref c1), some (.int x2), some (.int vh1), some (.int vh2), some (.int vh3), none, none, none]) dX11_does_21 (by decide) rfl ?_
  refine z_iconst (pc := 23) (v := 0) dX11_does_23 (by decide) ?_
  refine z_istore (pc := 24) (ls' := [some (.ref 164), some (.ref c1), some (.int x2), some (.int vh1), some (.int vh2), some (.int vh3), some (.int 0), none, none]) dX11_does_24 (by decide) rfl ?_
  exact F
theorem g_X11_does_26 {c1 : Nat} {x2 : Int32} {x3 : Int32} {x4 : Int32} {x5 : Int32} {x6 : Int32} {h : zHp} {Q : zHp → Prop} (hc1 : zRow c1) (G : zG h) (F : (rI h 165 238 ≤ x6 → (Q h)) ∧ (¬ (rI h 165 238 ≤ x6) → (zcI M_X11_has [.int x3, .int x6] h (fun vh1 h1 => zG h1 ∧ ((¬ vh1 = 0 → (vp_in ((4 * x6) + 2) 32 ∧ (vp_in ((4 * x6) + 3) 32 ∧ (zcI M_X11_effectIs [.ref 164, .int x2, .int 1] h1 (fun vh2 h2 => zG h2 ∧ ((vh2 = 0 → (vp_in (4 * x6) 32 ∧ (zlV M_X11_does 26 [some (.ref 164), some (.ref c1), some (.int x2), some (.int x3), some (.int x4), some (.int x5), some (.int (x6 + 1)), none, none] [] (wI h2 c1 ((Int32.toNatClampNeg (4 * x6))) x4) Q))) ∧ (¬ vh2 = 0 → ((vh2 = 1 → (vp_in ((4 * x6) + 1) 32 ∧ (zlV M_X11_does 26 [some (.ref 164), some (.ref c1), some (.int x2), some (.int x3), some (.int x4), some (.int x5), some (.int (x6 + 1)), none, none] [] (wI h2 c1 ((Int32.toNatClampNeg ((4 * x6) + 1))) ((rI h2 c1 ((Int32.toNatClampNeg ((4 * x6) + 1)))) ||| (1 <<< (x4 &&& 31)))) Q))) ∧ (¬ vh2 = 1 → ((vh2 = 2 → (vp_in ((4 * x6) + 1) 32 ∧ (zlV M_X11_does 26 [some (.ref 164), some (.ref c1), some (.int x2), some (.int x3), some (.int x4), some (.int x5), some (.int (x6 + 1)), none, none] [] (wI h2 c1 ((Int32.toNatClampNeg ((4 * x6) + 1))) ((rI h2 c1 ((Int32.toNatClampNeg ((4 * x6) + 1)))) &&& ((1 <<< (x4 &&& 31)) ^^^ (-1)))) Q))) ∧ (¬ vh2 = 2 → ((vh2 = 3 → (zlV M_X11_does 26 [some (.ref 164), some (.ref c1), some (.int x2), some (.int x3), some (.int x4), some (.int x5), some (.int (x6 + 1)), none, none] [] (wI (wI h2 c1 ((Int32.toNatClampNeg ((4 * x6) + 2))) x4) c1 ((Int32.toNatClampNeg ((4 * x6) + 3))) x5) Q)) ∧ (¬ vh2 = 3 → ((vh2 = 4 → (zlV M_X11_does 26 [some (.ref 164), some (.ref c1), some (.int x2), some (.int x3), some (.int x4), some (.int x5), some (.int (x6 + 1)), none, none] [] (wI (wI h2 c1 ((Int32.toNatClampNeg ((4 * x6) + 2))) ((rI h1 c1 ((Int32.toNatClampNeg ((4 * x6) + 2)))) + x4)) c1 ((Int32.toNatClampNeg ((4 * x6) + 3))) ((rI h1 c1 ((Int32.toNatClampNeg ((4 * x6) + 3)))) + x5)) Q)) ∧ (¬ vh2 = 4 → (zlV M_X11_does 26 [some (.ref 164), some (.ref c1), some (.int x2), some (.int x3), some (.int x4), some (.int x5), some (.int (x6 + 1)), none, none] [] (wI (wI h2 c1 ((Int32.toNatClampNeg ((4 * x6) + 2))) (rI h1 c1 ((Int32.toNatClampNeg ((4 * x6) + 3))))) c1 ((Int32.toNatClampNeg ((4 * x6) + 3))) (rI h1 c1 ((Int32.toNatClampNeg ((4 * x6) + 2))))) Q)))))))))))))))) ∧ (vh1 = 0 → (zlV M_X11_does 26 [some (.ref 164), some (.ref c1), some (.int x2), some (.int x3), some (.int x4), some (.int x5), some (.int (x6 + 1)), none, none] [] h1 Q))))))) : zlV M_X11_does 26 [some (.ref 164), some (.ref c1), some (.int x2), some (.int x3), some (.int x4), some (.int x5), some (.int x6), none, none] [] h Q := by
  refine z_iload (pc := 26) dX11_does_26 rfl ?_
  refine z_aload_n (pc := 28) dX11_does_28 rfl rfl ?_
  refine q_getR (pc := 29) (i := 165) dX11_does_29 lk_RX11_7 (lyc rfl) (G 164 0 165 rfl) ?_
  refine z_sipush (pc := 32) (v := 238) dX11_does_32 (by decide) ?_
  refine q_iald (pc := 35) (j := 238) (v := rI h 165 238) dX11_does_35 (lyc rfl) (zvl (lnc rfl) (by decide)) (by decide) rfl ?_
  refine z_icmp_ge (pc := 36) (tgt := 239) dX11_does_36 (by decide) (fun k14 => ?_) (fun k14 => ?_)
  · replace F := F.1 k14
    exact q_retV (pc := 239) dX11_does_239 rfl F
  · replace F := F.2 k14
    refine z_iload_n (pc := 39) dX11_does_39 rfl rfl ?_
    refine z_iload (pc := 40) dX11_does_40 rfl ?_
    refine q_invS (pc := 42) (As := [.int x3, .int x6]) (st := []) dX11_does_42 ok_X11_has ml_RX11_96 st_X11_has pa_X11_has ⟨Nat.le_of_ble_eq_true rfl, Nat.le_of_ble_eq_true rfl⟩ (q_kI F (fun vh1 h1 F => ?_))
    obtain ⟨G1, F⟩ := F
    refine z_if_ne (pc := 45) (tgt := 51) dX11_does_45 (by decide) (fun k13 => ?_) (fun k13 => ?_)
    · replace F := F.1 k13
      refine z_aload_n (pc := 51) dX11_does_51 rfl rfl ?_
      refine z_iconst (pc := 52) (v := 4) dX11_does_52 (by decide) ?_
      refine z_iload (pc := 53) dX11_does_53 rfl ?_
      refine z_imul (pc := 55) dX11_does_55 ?_
      refine z_iconst (pc := 56) (v := 2) dX11_does_56 (by decide) ?_
      refine z_iadd (pc := 57) dX11_does_57 ?_
      obtain ⟨k2, F⟩ := F
      refine q_iald (pc := 58) (j := (Int32.toNatClampNeg ((4 * x6) + 2))) (v := rI h1 c1 ((Int32.toNatClampNeg ((4 * x6) + 2)))) dX11_does_58 (lyRow0 hc1) (zvn (lnRow0 hc1) k2) rfl rfl ?_
      refine z_istore (pc := 59) (ls' := [some (.ref 164), some (.ref c1), some (.int x2), some (.int x3), some (.int x4), some (.int x5), some (.int x6), some (.int (rI h1 c1 ((Int32.toNatClampNeg ((4 * x6) + 2))))), none]) dX11_does_59 (by decide) rfl ?_
      refine z_aload_n (pc := 61) dX11_does_61 rfl rfl ?_
      refine z_iconst (pc := 62) (v := 4) dX11_does_62 (by decide) ?_
      refine z_iload (pc := 63) dX11_does_63 rfl ?_
      refine z_imul (pc := 65) dX11_does_65 ?_
      refine z_iconst (pc := 66) (v := 3) dX11_does_66 (by decide) ?_
      refine z_iadd (pc := 67) dX11_does_67 ?_
      obtain ⟨k3, F⟩ := F
      refine q_iald (pc := 68) (j := (Int32.toNatClampNeg ((4 * x6) + 3))) (v := rI h1 c1 ((Int32.toNatClampNeg ((4 * x6) + 3)))) dX11_does_68 (lyRow0 hc1) (zvn (lnRow0 hc1) k3) rfl rfl ?_
      refine z_istore (pc := 69) (ls' := [some (.ref 164), some (.ref c1), some (.int x2), some (.int x3), some (.int x4), some (.int x5), some (.int x6), some (.int (rI h1 c1 ((Int32.toNatClampNeg ((4 * x6) + 2))))), some (.int (rI h1 c1 ((Int32.toNatClampNeg ((4 * x6) + 3)))))]) dX11_does_69 (by decide) rfl ?_
      refine z_aload_n (pc := 71) dX11_does_71 rfl rfl ?_
      refine z_iload_n (pc := 72) dX11_does_72 rfl rfl ?_
      refine z_iconst (pc := 73) (v := 1) dX11_does_73 (by decide) ?_
      refine q_invV (pc := 74) (As := [.int x2, .int 1]) (st := []) dX11_does_74 ok_X11_effectIs ml_RX11_103 iv_X11_effectIs pa_X11_effectIs ⟨Nat.le_of_ble_eq_true rfl, Nat.le_of_ble_eq_true rfl⟩ (lyc rfl) (q_kI F (fun vh2 h2 F => ?_))
      obtain ⟨G2, F⟩ := F
      by_cases k5 : vh2 = 0
      · replace F := F.1 k5
        refine z_tableIn (pc := 77) (x := vh2) (tgt := 112) (off := 35) dX11_does_77 (by rw [k5]; decide) (by rw [k5]; decide) (by rw [k5]; decide) (by decide) ?_
        refine z_aload_n (pc := 112) dX11_does_112 rfl rfl ?_
        refine z_iconst (pc := 113) (v := 4) dX11_does_113 (by decide) ?_
        refine z_iload (pc := 114) dX11_does_114 rfl ?_
        refine z_imul (pc := 116) dX11_does_116 ?_
        refine z_iload (pc := 117) dX11_does_117 rfl ?_
        obtain ⟨k6, F⟩ := F
        refine q_iast (pc := 119) (j := (Int32.toNatClampNeg (4 * x6))) dX11_does_119 (lyRow0 hc1) (zvn (lnRow0 hc1) k6) rfl ?_
        refine z_goto (pc := 120) (tgt := 233) dX11_does_120 (by decide) ?_
        refine z_iinc (pc := 233) (v := x6 + 1) (ls' := [some (.ref 164), some (.ref c1), some (.int x2), some (.int x3), some (.int x4), some (.int x5), some (.int (x6 + 1)), some (.int (rI h1 c1 ((Int32.toNatClampNeg ((4 * x6) + 2))))), some (.int (rI h1 c1 ((Int32.toNatClampNeg ((4 * x6) + 3)))))]) dX11_does_233 (by decide) rfl rfl rfl ?_
        refine z_goto (pc := 236) (tgt := 26) dX11_does_236 (by decide) ?_
        exact q_sub (ls' := [some (.ref 164), some (.ref c1), some (.int x2), some (.int x3), some (.int x4), some (.int x5), some (.int (x6 + 1)), none, none]) ⟨rfl, rfl, rfl, rfl, rfl, rfl, rfl, trivial⟩ F
      · replace F := F.2 k5
        by_cases k7 : vh2 = 1
        · replace F := F.1 k7
          refine z_tableIn (pc := 77) (x := vh2) (tgt := 123) (off := 46) dX11_does_77 (by rw [k7]; decide) (by rw [k7]; decide) (by rw [k7]; decide) (by decide) ?_
          refine z_aload_n (pc := 123) dX11_does_123 rfl rfl ?_
          refine z_iconst (pc := 124) (v := 4) dX11_does_124 (by decide) ?_
          refine z_iload (pc := 125) dX11_does_125 rfl ?_
          refine z_imul (pc := 127) dX11_does_127 ?_
          refine z_iconst (pc := 128) (v := 1) dX11_does_128 (by decide) ?_
          refine z_iadd (pc := 129) dX11_does_129 ?_
          refine z_dup2 (pc := 130) dX11_does_130 rfl rfl ?_
          obtain ⟨k8, F⟩ := F
          refine q_iald (pc := 131) (j := (Int32.toNatClampNeg ((4 * x6) + 1))) (v := rI h2 c1 ((Int32.toNatClampNeg ((4 * x6) + 1)))) dX11_does_131 (lyRow0 hc1) (zvn (lnRow0 hc1) k8) rfl rfl ?_
          refine z_iconst (pc := 132) (v := 1) dX11_does_132 (by decide) ?_
          refine z_iload (pc := 133) dX11_does_133 rfl ?_
          refine z_ishl (pc := 135) dX11_does_135 ?_
          refine z_ior (pc := 136) dX11_does_136 ?_
          refine q_iast (pc := 137) (j := (Int32.toNatClampNeg ((4 * x6) + 1))) dX11_does_137 (lyRow0 hc1) (zvn (lnRow0 hc1) k8) rfl ?_
          refine z_goto (pc := 138) (tgt := 233) dX11_does_138 (by decide) ?_
          refine z_iinc (pc := 233) (v := x6 + 1) (ls' := [some (.ref 164), some (.ref c1), some (.int x2), some (.int x3), some (.int x4), some (.int x5), some (.int (x6 + 1)), some (.int (rI h1 c1 ((Int32.toNatClampNeg ((4 * x6) + 2))))), some (.int (rI h1 c1 ((Int32.toNatClampNeg ((4 * x6) + 3)))))]) dX11_does_233 (by decide) rfl rfl rfl ?_
          refine z_goto (pc := 236) (tgt := 26) dX11_does_236 (by decide) ?_
          exact q_sub (ls' := [some (.ref 164), some (.ref c1), some (.int x2), some (.int x3), some (.int x4), some (.int x5), some (.int (x6 + 1)), none, none]) ⟨rfl, rfl, rfl, rfl, rfl, rfl, rfl, trivial⟩ F
        · replace F := F.2 k7
          by_cases k9 : vh2 = 2
          · replace F := F.1 k9
            refine z_tableIn (pc := 77) (x := vh2) (tgt := 141) (off := 64) dX11_does_77 (by rw [k9]; decide) (by rw [k9]; decide) (by rw [k9]; decide) (by decide) ?_
            refine z_aload_n (pc := 141) dX11_does_141 rfl rfl ?_
            refine z_iconst (pc := 142) (v := 4) dX11_does_142 (by decide) ?_
            refine z_iload (pc := 143) dX11_does_143 rfl ?_
            refine z_imul (pc := 145) dX11_does_145 ?_
            refine z_iconst (pc := 146) (v := 1) dX11_does_146 (by decide) ?_
            refine z_iadd (pc := 147) dX11_does_147 ?_
            refine z_dup2 (pc := 148) dX11_does_148 rfl rfl ?_
            obtain ⟨k10, F⟩ := F
            refine q_iald (pc := 149) (j := (Int32.toNatClampNeg ((4 * x6) + 1))) (v := rI h2 c1 ((Int32.toNatClampNeg ((4 * x6) + 1)))) dX11_does_149 (lyRow0 hc1) (zvn (lnRow0 hc1) k10) rfl rfl ?_
            refine z_iconst (pc := 150) (v := 1) dX11_does_150 (by decide) ?_
            refine z_iload (pc := 151) dX11_does_151 rfl ?_
            refine z_ishl (pc := 153) dX11_does_153 ?_
            refine z_iconst (pc := 154) (v := -1) dX11_does_154 (by decide) ?_
            refine z_ixor (pc := 155) dX11_does_155 ?_
            refine z_iand (pc := 156) dX11_does_156 ?_
            refine q_iast (pc := 157) (j := (Int32.toNatClampNeg ((4 * x6) + 1))) dX11_does_157 (lyRow0 hc1) (zvn (lnRow0 hc1) k10) rfl ?_
            refine z_goto (pc := 158) (tgt := 233) dX11_does_158 (by decide) ?_
            refine z_iinc (pc := 233) (v := x6 + 1) (ls' := [some (.ref 164), some (.ref c1), some (.int x2), some (.int x3), some (.int x4), some (.int x5), some (.int (x6 + 1)), some (.int (rI h1 c1 ((Int32.toNatClampNeg ((4 * x6) + 2))))), some (.int (rI h1 c1 ((Int32.toNatClampNeg ((4 * x6) + 3)))))]) dX11_does_233 (by decide) rfl rfl rfl ?_
            refine z_goto (pc := 236) (tgt := 26) dX11_does_236 (by decide) ?_
            exact q_sub (ls' := [some (.ref 164), some (.ref c1), some (.int x2), some (.int x3), some (.int x4), some (.int x5), some (.int (x6 + 1)), none, none]) ⟨rfl, rfl, rfl, rfl, rfl, rfl, rfl, trivial⟩ F
          · replace F := F.2 k9
            by_cases k11 : vh2 = 3
            · replace F := F.1 k11
              refine z_tableIn (pc := 77) (x := vh2) (tgt := 161) (off := 84) dX11_does_77 (by rw [k11]; decide) (by rw [k11]; decide) (by rw [k11]; decide) (by decide) ?_
              refine z_aload_n (pc := 161) dX11_does_161 rfl rfl ?_
              refine z_iconst (pc := 162) (v := 4) dX11_does_162 (by decide) ?_
              refine z_iload (pc := 163) dX11_does_163 rfl ?_
              refine z_imul (pc := 165) dX11_does_165 ?_
              refine z_iconst (pc := 166) (v := 2) dX11_does_166 (by decide) ?_
              refine z_iadd (pc := 167) dX11_does_167 ?_
              refine z_iload (pc := 168) dX11_does_168 rfl ?_
              refine q_iast (pc := 170) (j := (Int32.toNatClampNeg ((4 * x6) + 2))) dX11_does_170 (lyRow0 hc1) (zvn (lnRow0 hc1) k2) rfl ?_
              refine z_aload_n (pc := 171) dX11_does_171 rfl rfl ?_
              refine z_iconst (pc := 172) (v := 4) dX11_does_172 (by decide) ?_
              refine z_iload (pc := 173) dX11_does_173 rfl ?_
              refine z_imul (pc := 175) dX11_does_175 ?_
              refine z_iconst (pc := 176) (v := 3) dX11_does_176 (by decide) ?_
              refine z_iadd (pc := 177) dX11_does_177 ?_
              refine z_iload (pc := 178) dX11_does_178 rfl ?_
              refine q_iast (pc := 180) (j := (Int32.toNatClampNeg ((4 * x6) + 3))) dX11_does_180 (lyRow0 hc1) (zvn (lnRow0 hc1) k3) rfl ?_
              refine z_goto (pc := 181) (tgt := 233) dX11_does_181 (by decide) ?_
              refine z_iinc (pc := 233) (v := x6 + 1) (ls' := [some (.ref 164), some (.ref c1), some (.int x2), some (.int x3), some (.int x4), some (.int x5), some (.int (x6 + 1)), some (.int (rI h1 c1 ((Int32.toNatClampNeg ((4 * x6) + 2))))), some (.int (rI h1 c1 ((Int32.toNatClampNeg ((4 * x6) + 3)))))]) dX11_does_233 (by decide) rfl rfl rfl ?_
              refine z_goto (pc := 236) (tgt := 26) dX11_does_236 (by decide) ?_
              exact q_sub (ls' := [some (.ref 164), some (.ref c1), some (.int x2), some (.int x3), some (.int x4), some (.int x5), some (.int (x6 + 1)), none, none]) ⟨rfl, rfl, rfl, rfl, rfl, rfl, rfl, trivial⟩ F
            · replace F := F.2 k11
              by_cases k12 : vh2 = 4
              · replace F := F.1 k12
                refine z_tableIn (pc := 77) (x := vh2) (tgt := 184) (off := 107) dX11_does_77 (by rw [k12]; decide) (by rw [k12]; decide) (by rw [k12]; decide) (by decide) ?_
                refine z_aload_n (pc := 184) dX11_does_184 rfl rfl ?_
                refine z_iconst (pc := 185) (v := 4) dX11_does_185 (by decide) ?_
                refine z_iload (pc := 186) dX11_does_186 rfl ?_
                refine z_imul (pc := 188) dX11_does_188 ?_
                refine z_iconst (pc := 189) (v := 2) dX11_does_189 (by decide) ?_
                refine z_iadd (pc := 190) dX11_does_190 ?_
                refine z_iload (pc := 191) dX11_does_191 rfl ?_
                refine z_iload (pc := 193) dX11_does_193 rfl ?_
                refine z_iadd (pc := 195) dX11_does_195 ?_
                refine q_iast (pc := 196) (j := (Int32.toNatClampNeg ((4 * x6) + 2))) dX11_does_196 (lyRow0 hc1) (zvn (lnRow0 hc1) k2) rfl ?_
                refine z_aload_n (pc := 197) dX11_does_197 rfl rfl ?_
                refine z_iconst (pc := 198) (v := 4) dX11_does_198 (by decide) ?_
                refine z_iload (pc := 199) dX11_does_199 rfl ?_
                refine z_imul (pc := 201) dX11_does_201 ?_
                refine z_iconst (pc := 202) (v := 3) dX11_does_202 (by decide) ?_
                refine z_iadd (pc := 203) dX11_does_203 ?_
                refine z_iload (pc := 204) dX11_does_204 rfl ?_
                refine z_iload (pc := 206) dX11_does_206 rfl ?_
                refine z_iadd (pc := 208) dX11_does_208 ?_
                refine q_iast (pc := 209) (j := (Int32.toNatClampNeg ((4 * x6) + 3))) dX11_does_209 (lyRow0 hc1) (zvn (lnRow0 hc1) k3) rfl ?_
                refine z_goto (pc := 210) (tgt := 233) dX11_does_210 (by decide) ?_
                refine z_iinc (pc := 233) (v := x6 + 1) (ls' := [some (.ref 164), some (.ref c1), some (.int x2), some (.int x3), some (.int x4), some (.int x5), some (.int (x6 + 1)), some (.int (rI h1 c1 ((Int32.toNatClampNeg ((4 * x6) + 2))))), some (.int (rI h1 c1 ((Int32.toNatClampNeg ((4 * x6) + 3)))))]) dX11_does_233 (by decide) rfl rfl rfl ?_
                refine z_goto (pc := 236) (tgt := 26) dX11_does_236 (by decide) ?_
                exact q_sub (ls' := [some (.ref 164), some (.ref c1), some (.int x2), some (.int x3), some (.int x4), some (.int x5), some (.int (x6 + 1)), none, none]) ⟨rfl, rfl, rfl, rfl, rfl, rfl, rfl, trivial⟩ F
              · replace F := F.2 k12
                have hz0 := q_sw (0) k5 (by decide)
                have hz1 := q_sw (1) k7 (by decide)
                have hz2 := q_sw (2) k9 (by decide)
                have hz3 := q_sw (3) k11 (by decide)
                have hz4 := q_sw (4) k12 (by decide)
                refine z_tableOut (pc := 77) (tgt := 213) dX11_does_77 (by omega) (by decide) ?_
                refine z_aload_n (pc := 213) dX11_does_213 rfl rfl ?_
                refine z_iconst (pc := 214) (v := 4) dX11_does_214 (by decide) ?_
                refine z_iload (pc := 215) dX11_does_215 rfl ?_
                refine z_imul (pc := 217) dX11_does_217 ?_
                refine z_iconst (pc := 218) (v := 2) dX11_does_218 (by decide) ?_
                refine z_iadd (pc := 219) dX11_does_219 ?_
                refine z_iload (pc := 220) dX11_does_220 rfl ?_
                refine q_iast (pc := 222) (j := (Int32.toNatClampNeg ((4 * x6) + 2))) dX11_does_222 (lyRow0 hc1) (zvn (lnRow0 hc1) k2) rfl ?_
                refine z_aload_n (pc := 223) dX11_does_223 rfl rfl ?_
                refine z_iconst (pc := 224) (v := 4) dX11_does_224 (by decide) ?_
                refine z_iload (pc := 225) dX11_does_225 rfl ?_
                refine z_imul (pc := 227) dX11_does_227 ?_
                refine z_iconst (pc := 228) (v := 3) dX11_does_228 (by decide) ?_
                refine z_iadd (pc := 229) dX11_does_229 ?_
                refine z_iload (pc := 230) dX11_does_230 rfl ?_
                refine q_iast (pc := 232) (j := (Int32.toNatClampNeg ((4 * x6) + 3))) dX11_does_232 (lyRow0 hc1) (zvn (lnRow0 hc1) k3) rfl ?_
                refine z_iinc (pc := 233) (v := x6 + 1) (ls' := [some (.ref 164), some (.ref c1), some (.int x2), some (.int x3), some (.int x4), some (.int x5), some (.int (x6 + 1)), some (.int (rI h1 c1 ((Int32.toNatClampNeg ((4 * x6) + 2))))), some (.int (rI h1 c1 ((Int32.toNatClampNeg ((4 * x6) + 3)))))]) dX11_does_233 (by decide) rfl rfl rfl ?_
                refine z_goto (pc := 236) (tgt := 26) dX11_does_236 (by decide) ?_
                exact q_sub (ls' := [some (.ref 164), some (.ref c1), some (.int x2), some (.int x3), some (.int x4), some (.int x5), some (.int (x6 + 1)), none, none]) ⟨rfl, rfl, rfl, rfl, rfl, rfl, rfl, trivial⟩ F
    · replace F := F.2 k13
      refine z_goto (pc := 48) (tgt := 233) dX11_does_48 (by decide) ?_
      refine z_iinc (pc := 233) (v := x6 + 1) (ls' := [some (.ref 164), some (.ref c1), some (.int x2), some (.int x3), some (.int x4), some (.int x5), some (.int (x6 + 1)), none, none]) dX11_does_233 (by decide) rfl rfl rfl ?_
      refine z_goto (pc := 236) (tgt := 26) dX11_does_236 (by decide) ?_
      exact F
theorem g_X11_doesSomething {x1 : Int32} {h : zHp} {Q : Int32 → zHp → Prop}  (G : zG h) (F : zcI M_X11_effectIs [.ref 164, .int x1, .int 0] h (fun vh1 h1 => zG h1 ∧ ((vh1 = -1 → (Q 1 h1)) ∧ (¬ (vh1 = -1) → (zcI M_X11_effectIs [.ref 164, .int x1, .int 0] h1 (fun vh2 h2 => zG h2 ∧ (zcI M_X11_isAlive [.ref 164, .int vh2] h2 (fun vh3 h3 => zG h3 ∧ ((vh3 = 0 → (Q 0 h3)) ∧ (¬ (vh3 = 0) → (Q 1 h3))))))))))) : zcI M_X11_doesSomething [.ref 164, .int x1] h Q := by
  show zw zNT zNT M_X11_doesSomething 0 [some (.ref 164), some (.int x1)] [] h _
  refine z_aload_n (pc := 0) dX11_doesSomething_0 rfl rfl ?_
  refine z_iload_n (pc := 1) dX11_doesSomething_1 rfl rfl ?_
  refine z_iconst (pc := 2) (v := 0) dX11_doesSomething_2 (by decide) ?_
  refine q_invV (pc := 3) (As := [.int x1, .int 0]) (st := []) dX11_doesSomething_3 ok_X11_effectIs ml_RX11_103 iv_X11_effectIs pa_X11_effectIs ⟨Nat.le_of_ble_eq_true rfl, Nat.le_of_ble_eq_true rfl⟩ (lyc rfl) (q_kI F (fun vh1 h1 F => ?_))
  obtain ⟨G1, F⟩ := F
  refine z_iconst (pc := 6) (v := -1) dX11_doesSomething_6 (by decide) ?_
  refine z_icmp_eq (pc := 7) (tgt := 23) dX11_doesSomething_7 (by decide) (fun k5 => ?_) (fun k5 => ?_)
  · replace F := F.1 k5
    refine z_iconst (pc := 23) (v := 1) dX11_doesSomething_23 (by decide) ?_
    refine z_goto (pc := 24) (tgt := 28) dX11_doesSomething_24 (by decide) ?_
    exact q_retB (pc := 28) dX11_doesSomething_28 rfl (Or.inr rfl) F
  · replace F := F.2 k5
    refine z_aload_n (pc := 10) dX11_doesSomething_10 rfl rfl ?_
    refine z_aload_n (pc := 11) dX11_doesSomething_11 rfl rfl ?_
    refine z_iload_n (pc := 12) dX11_doesSomething_12 rfl rfl ?_
    refine z_iconst (pc := 13) (v := 0) dX11_doesSomething_13 (by decide) ?_
    refine q_invV (pc := 14) (As := [.int x1, .int 0]) (st := [.ref 164]) dX11_doesSomething_14 ok_X11_effectIs ml_RX11_103 iv_X11_effectIs pa_X11_effectIs ⟨Nat.le_of_ble_eq_true rfl, Nat.le_of_ble_eq_true rfl⟩ (lyc rfl) (q_kI F (fun vh2 h2 F => ?_))
    obtain ⟨G2, F⟩ := F
    refine q_invV (pc := 17) (As := [.int vh2]) (st := []) dX11_doesSomething_17 ok_X11_isAlive ml_RX11_100 iv_X11_isAlive pa_X11_isAlive ⟨Nat.le_of_ble_eq_true rfl, Nat.le_of_ble_eq_true rfl⟩ (lyc rfl) (q_kI F (fun vh3 h3 F => ?_))
    obtain ⟨G3, F⟩ := F
    refine z_if_eq (pc := 20) (tgt := 27) dX11_doesSomething_20 (by decide) (fun k4 => ?_) (fun k4 => ?_)
    · replace F := F.1 k4
      refine z_iconst (pc := 27) (v := 0) dX11_doesSomething_27 (by decide) ?_
      exact q_retB (pc := 28) dX11_doesSomething_28 rfl (Or.inl rfl) F
    · replace F := F.2 k4
      refine z_iconst (pc := 23) (v := 1) dX11_doesSomething_23 (by decide) ?_
      refine z_goto (pc := 24) (tgt := 28) dX11_doesSomething_24 (by decide) ?_
      exact q_retB (pc := 28) dX11_doesSomething_28 rfl (Or.inr rfl) F
theorem g_X11_layer {x0 : Int32} {h : zHp} {Q : Int32 → zHp → Prop}  (G : zG h) (F : (2 ≤ x0 → (Q (x0 - 1) h)) ∧ (¬ (2 ≤ x0) → (Q x0 h))) : zcI M_X11_layer [.int x0] h Q := by
  show zw zNT zNT M_X11_layer 0 [some (.int x0)] [] h _
  refine z_iload_n (pc := 0) dX11_layer_0 rfl rfl ?_
  refine z_iconst (pc := 1) (v := 2) dX11_layer_1 (by decide) ?_
  refine z_icmp_ge (pc := 2) (tgt := 9) dX11_layer_2 (by decide) (fun k1 => ?_) (fun k1 => ?_)
  · replace F := F.1 k1
    refine z_iload_n (pc := 9) dX11_layer_9 rfl rfl ?_
    refine z_iconst (pc := 10) (v := 1) dX11_layer_10 (by decide) ?_
    refine z_isub (pc := 11) dX11_layer_11 ?_
    exact q_retI (pc := 12) dX11_layer_12 rfl F
  · replace F := F.2 k1
    refine z_iload_n (pc := 5) dX11_layer_5 rfl rfl ?_
    refine z_goto (pc := 6) (tgt := 12) dX11_layer_6 (by decide) ?_
    exact q_retI (pc := 12) dX11_layer_12 rfl F
theorem g_X11_doesDepend {x1 : Int32} {x2 : Int32} {h : zHp} {Q : Int32 → zHp → Prop}  (G : zG h) (F : zlI M_X11_doesDepend 2 [some (.ref 164), some (.int x1), some (.int x2), some (.int 0)] [] h Q) : zcI M_X11_doesDepend [.ref 164, .int x1, .int x2] h Q := by
  show zw zNT zNT M_X11_doesDepend 0 [some (.ref 164), some (.int x1), some (.int x2), none] [] h _
  refine z_iconst (pc := 0) (v := 0) dX11_doesDepend_0 (by decide) ?_
  refine z_istore_n (pc := 1) (ls' := [some (.ref 164), some (.int x1), some (.int x2), some (.int 0)]) dX11_doesDepend_1 rfl (by decide) rfl ?_
  exact F
theorem g_X11_doesDepend_2 {x1 : Int32} {x2 : Int32} {x3 : Int32} {h : zHp} {Q : Int32 → zHp → Prop}  (G : zG h) (F : (32 ≤ x3 → (zcV M_X11_does [.ref 164, .ref 169, .int x2] h (fun h1 => zG h1 ∧ (zcI M_X11_scopeOf [.ref 164, .ref 168, .int x1] h1 (fun vh2 h2 => zG h2 ∧ (zcI M_X11_scopeOf [.ref 164, .ref 169, .int x1] h2 (fun vh3 h3 => zG h3 ∧ ((vh2 = vh3 → (Q 0 h3)) ∧ (¬ (vh2 = vh3) → (Q 1 h3)))))))))) ∧ (¬ (32 ≤ x3) → (vp_in x3 32 ∧ (zlI M_X11_doesDepend 2 [some (.ref 164), some (.int x1), some (.int x2), some (.int (x3 + 1))] [] (wI h 169 ((Int32.toNatClampNeg x3)) (rI h 168 ((Int32.toNatClampNeg x3)))) Q)))) : zlI M_X11_doesDepend 2 [some (.ref 164), some (.int x1), some (.int x2), some (.int x3)] [] h Q := by
  refine z_iload_n (pc := 2) dX11_doesDepend_2 rfl rfl ?_
  refine z_bipush (pc := 3) (v := 32) dX11_doesDepend_3 (by decide) ?_
  refine z_icmp_ge (pc := 5) (tgt := 26) dX11_doesDepend_5 (by decide) (fun k6 => ?_) (fun k6 => ?_)
  · replace F := F.1 k6
    refine z_aload_n (pc := 26) dX11_doesDepend_26 rfl rfl ?_
    refine z_aload_n (pc := 27) dX11_doesDepend_27 rfl rfl ?_
    refine q_getR (pc := 28) (i := 169) dX11_doesDepend_28 lk_RX11_22 (lyc rfl) (G 164 5 169 rfl) ?_
    refine z_iload_n (pc := 31) dX11_doesDepend_31 rfl rfl ?_
    refine q_invV (pc := 32) (As := [.ref 169, .int x2]) (st := []) dX11_doesDepend_32 ok_X11_does ml_RX11_114 iv_X11_does pa_X11_does ⟨Nat.le_of_ble_eq_true rfl, Nat.le_of_ble_eq_true rfl⟩ (lyc rfl) (q_kV F (fun h1 F => ?_))
    obtain ⟨G1, F⟩ := F
    refine z_aload_n (pc := 35) dX11_doesDepend_35 rfl rfl ?_
    refine z_aload_n (pc := 36) dX11_doesDepend_36 rfl rfl ?_
    refine q_getR (pc := 37) (i := 168) dX11_doesDepend_37 lk_RX11_19 (lyc rfl) (G1 164 4 168 rfl) ?_
    refine z_iload_n (pc := 40) dX11_doesDepend_40 rfl rfl ?_
    refine q_invV (pc := 41) (As := [.ref 168, .int x1]) (st := []) dX11_doesDepend_41 ok_X11_scopeOf ml_RX11_110 iv_X11_scopeOf pa_X11_scopeOf ⟨Nat.le_of_ble_eq_true rfl, Nat.le_of_ble_eq_true rfl⟩ (lyc rfl) (q_kI F (fun vh2 h2 F => ?_))
    obtain ⟨G2, F⟩ := F
    refine z_aload_n (pc := 44) dX11_doesDepend_44 rfl rfl ?_
    refine z_aload_n (pc := 45) dX11_doesDepend_45 rfl rfl ?_
    refine q_getR (pc := 46) (i := 169) dX11_doesDepend_46 lk_RX11_22 (lyc rfl) (G2 164 5 169 rfl) ?_
    refine z_iload_n (pc := 49) dX11_doesDepend_49 rfl rfl ?_
    refine q_invV (pc := 50) (As := [.ref 169, .int x1]) (st := [.int vh2]) dX11_doesDepend_50 ok_X11_scopeOf ml_RX11_110 iv_X11_scopeOf pa_X11_scopeOf ⟨Nat.le_of_ble_eq_true rfl, Nat.le_of_ble_eq_true rfl⟩ (lyc rfl) (q_kI F (fun vh3 h3 F => ?_))
    obtain ⟨G3, F⟩ := F
    refine z_icmp_eq (pc := 53) (tgt := 60) dX11_doesDepend_53 (by decide) (fun k4 => ?_) (fun k4 => ?_)
    · replace F := F.1 k4
      refine z_iconst (pc := 60) (v := 0) dX11_doesDepend_60 (by decide) ?_
      exact q_retB (pc := 61) dX11_doesDepend_61 rfl (Or.inl rfl) F
    · replace F := F.2 k4
      refine z_iconst (pc := 56) (v := 1) dX11_doesDepend_56 (by decide) ?_
      refine z_goto (pc := 57) (tgt := 61) dX11_doesDepend_57 (by decide) ?_
      exact q_retB (pc := 61) dX11_doesDepend_61 rfl (Or.inr rfl) F
  · replace F := F.2 k6
    refine z_aload_n (pc := 8) dX11_doesDepend_8 rfl rfl ?_
    refine q_getR (pc := 9) (i := 169) dX11_doesDepend_9 lk_RX11_22 (lyc rfl) (G 164 5 169 rfl) ?_
    refine z_iload_n (pc := 12) dX11_doesDepend_12 rfl rfl ?_
    refine z_aload_n (pc := 13) dX11_doesDepend_13 rfl rfl ?_
    refine q_getR (pc := 14) (i := 168) dX11_doesDepend_14 lk_RX11_19 (lyc rfl) (G 164 4 168 rfl) ?_
    refine z_iload_n (pc := 17) dX11_doesDepend_17 rfl rfl ?_
    obtain ⟨k5, F⟩ := F
    refine q_iald (pc := 18) (j := (Int32.toNatClampNeg x3)) (v := rI h 168 ((Int32.toNatClampNeg x3))) dX11_doesDepend_18 (lyc rfl) (zvn (lnc rfl) k5) rfl rfl ?_
    refine q_iast (pc := 19) (j := (Int32.toNatClampNeg x3)) dX11_doesDepend_19 (lyc rfl) (zvn (lnc rfl) k5) rfl ?_
    refine z_iinc (pc := 20) (v := x3 + 1) (ls' := [some (.ref 164), some (.int x1), some (.int x2), some (.int (x3 + 1))]) dX11_doesDepend_20 (by decide) rfl rfl rfl ?_
    refine z_goto (pc := 23) (tgt := 2) dX11_doesDepend_23 (by decide) ?_
    exact F
theorem g_X11_nextOf {x1 : Int32} {h : zHp} {Q : Int32 → zHp → Prop}  (G : zG h) (F : zlI M_X11_nextOf 2 [some (.ref 164), some (.int x1), some (.int 0), none, none] [] h Q) : zcI M_X11_nextOf [.ref 164, .int x1] h Q := by
  show zw zNT zNT M_X11_nextOf 0 [some (.ref 164), some (.int x1), none, none, none] [] h _
  refine z_iconst (pc := 0) (v := 0) dX11_nextOf_0 (by decide) ?_
  refine z_istore_n (pc := 1) (ls' := [some (.ref 164), some (.int x1), some (.int 0), none, none]) dX11_nextOf_1 rfl (by decide) rfl ?_
  exact F
theorem g_X11_nextOf_2 {x1 : Int32} {x2 : Int32} {h : zHp} {Q : Int32 → zHp → Prop}  (G : zG h) (F : (10 ≤ x2 → (zlI M_X11_nextOf 87 [some (.ref 164), some (.int x1), some (.int 0), none, none] [] h Q)) ∧ (¬ (10 ≤ x2) → (zcI M_X11_has [.int x1, .int x2] h (fun vh1 h1 => zG h1 ∧ ((¬ vh1 = 0 → (zlI M_X11_nextOf 25 [some (.ref 164), some (.int x1), some (.int x2), some (.int 0), some (.int 0)] [] h1 Q)) ∧ (vh1 = 0 → (zlI M_X11_nextOf 25 [some (.ref 164), some (.int x1), some (.int x2), some (.int 1), some (.int 0)] [] h1 Q))))))) : zlI M_X11_nextOf 2 [some (.ref 164), some (.int x1), some (.int x2), none, none] [] h Q := by
  refine z_iload_n (pc := 2) dX11_nextOf_2 rfl rfl ?_
  refine z_bipush (pc := 3) (v := 10) dX11_nextOf_3 (by decide) ?_
  refine z_icmp_ge (pc := 5) (tgt := 85) dX11_nextOf_5 (by decide) (fun k3 => ?_) (fun k3 => ?_)
  · replace F := F.1 k3
    refine z_iconst (pc := 85) (v := 0) dX11_nextOf_85 (by decide) ?_
    refine z_istore_n (pc := 86) (ls' := [some (.ref 164), some (.int x1), some (.int 0), none, none]) dX11_nextOf_86 rfl (by decide) rfl ?_
    exact F
  · replace F := F.2 k3
    refine z_iload_n (pc := 8) dX11_nextOf_8 rfl rfl ?_
    refine z_iload_n (pc := 9) dX11_nextOf_9 rfl rfl ?_
    refine q_invS (pc := 10) (As := [.int x1, .int x2]) (st := []) dX11_nextOf_10 ok_X11_has ml_RX11_96 st_X11_has pa_X11_has ⟨Nat.le_of_ble_eq_true rfl, Nat.le_of_ble_eq_true rfl⟩ (q_kI F (fun vh1 h1 F => ?_))
    obtain ⟨G1, F⟩ := F
    refine z_if_ne (pc := 13) (tgt := 20) dX11_nextOf_13 (by decide) (fun k2 => ?_) (fun k2 => ?_)
    · replace F := F.1 k2
      refine z_iconst (pc := 20) (v := 0) dX11_nextOf_20 (by decide) ?_
      refine z_istore_n (pc := 21) (ls' := [some (.ref 164), some (.int x1), some (.int x2), some (.int 0), none]) dX11_nextOf_21 rfl (by decide) rfl ?_
      refine z_iconst (pc := 22) (v := 0) dX11_nextOf_22 (by decide) ?_
      refine z_istore (pc := 23) (ls' := [some (.ref 164), some (.int x1), some (.int x2), some (.int 0), some (.int 0)]) dX11_nextOf_23 (by decide) rfl ?_
      exact F
    · replace F := F.2 k2
      refine z_iconst (pc := 16) (v := 1) dX11_nextOf_16 (by decide) ?_
      refine z_goto (pc := 17) (tgt := 21) dX11_nextOf_17 (by decide) ?_
      refine z_istore_n (pc := 21) (ls' := [some (.ref 164), some (.int x1), some (.int x2), some (.int 1), none]) dX11_nextOf_21 rfl (by decide) rfl ?_
      refine z_iconst (pc := 22) (v := 0) dX11_nextOf_22 (by decide) ?_
      refine z_istore (pc := 23) (ls' := [some (.ref 164), some (.int x1), some (.int x2), some (.int 1), some (.int 0)]) dX11_nextOf_23 (by decide) rfl ?_
      exact F
theorem g_X11_nextOf_25 {x1 : Int32} {x2 : Int32} {x3 : Int32} {x4 : Int32} {h : zHp} {Q : Int32 → zHp → Prop}  (G : zG h) (F : (10 ≤ x4 → ((¬ x3 = 0 → (zlI M_X11_nextOf 2 [some (.ref 164), some (.int x1), some (.int (x2 + 1)), none, none] [] h Q)) ∧ (x3 = 0 → (Q x2 h)))) ∧ (¬ (10 ≤ x4) → ((¬ x3 = 0 → ((¬ x3 = 0 → (zlI M_X11_nextOf 2 [some (.ref 164), some (.int x1), some (.int (x2 + 1)), none, none] [] h Q)) ∧ (x3 = 0 → (Q x2 h)))) ∧ (x3 = 0 → ((x4 = x2 → (zlI M_X11_nextOf 25 [some (.ref 164), some (.int x1), some (.int x2), some (.int 0), some (.int (x4 + 1))] [] h Q)) ∧ (¬ (x4 = x2) → (zcI M_X11_has [.int x1, .int x4] h (fun vh1 h1 => zG h1 ∧ ((vh1 = 0 → (zlI M_X11_nextOf 25 [some (.ref 164), some (.int x1), some (.int x2), some (.int 0), some (.int (x4 + 1))] [] h1 Q)) ∧ (¬ (vh1 = 0) → (zcI M_X11_doesDepend [.ref 164, .int x2, .int x4] h1 (fun vh2 h2 => zG h2 ∧ ((vh2 = 0 → (zlI M_X11_nextOf 25 [some (.ref 164), some (.int x1), some (.int x2), some (.int 0), some (.int (x4 + 1))] [] h2 Q)) ∧ (¬ (vh2 = 0) → (zlI M_X11_nextOf 25 [some (.ref 164), some (.int x1), some (.int x2), some (.int 1), some (.int (x4 + 1))] [] h2 Q))))))))))))))) : zlI M_X11_nextOf 25 [some (.ref 164), some (.int x1), some (.int x2), some (.int x3), some (.int x4)] [] h Q := by
  refine z_iload (pc := 25) dX11_nextOf_25 rfl ?_
  refine z_bipush (pc := 27) (v := 10) dX11_nextOf_27 (by decide) ?_
  refine z_icmp_ge (pc := 29) (tgt := 73) dX11_nextOf_29 (by decide) (fun k9 => ?_) (fun k9 => ?_)
  · replace F := F.1 k9
    refine z_iload_n (pc := 73) dX11_nextOf_73 rfl rfl ?_
    refine z_if_ne (pc := 74) (tgt := 79) dX11_nextOf_74 (by decide) (fun k1 => ?_) (fun k1 => ?_)
    · replace F := F.1 k1
      refine z_iinc (pc := 79) (v := x2 + 1) (ls' := [some (.ref 164), some (.int x1), some (.int (x2 + 1)), some (.int x3), some (.int x4)]) dX11_nextOf_79 (by decide) rfl rfl rfl ?_
      refine z_goto (pc := 82) (tgt := 2) dX11_nextOf_82 (by decide) ?_
      exact q_sub (ls' := [some (.ref 164), some (.int x1), some (.int (x2 + 1)), none, none]) ⟨rfl, rfl, rfl, trivial⟩ F
    · replace F := F.2 k1
      refine z_iload_n (pc := 77) dX11_nextOf_77 rfl rfl ?_
      exact q_retI (pc := 78) dX11_nextOf_78 rfl F
  · replace F := F.2 k9
    refine z_iload_n (pc := 32) dX11_nextOf_32 rfl rfl ?_
    refine z_if_ne (pc := 33) (tgt := 73) dX11_nextOf_33 (by decide) (fun k8 => ?_) (fun k8 => ?_)
    · replace F := F.1 k8
      refine z_iload_n (pc := 73) dX11_nextOf_73 rfl rfl ?_
      refine z_if_ne (pc := 74) (tgt := 79) dX11_nextOf_74 (by decide) (fun k2 => ?_) (fun k2 => ?_)
      · replace F := F.1 k2
        refine z_iinc (pc := 79) (v := x2 + 1) (ls' := [some (.ref 164), some (.int x1), some (.int (x2 + 1)), some (.int x3), some (.int x4)]) dX11_nextOf_79 (by decide) rfl rfl rfl ?_
        refine z_goto (pc := 82) (tgt := 2) dX11_nextOf_82 (by decide) ?_
        exact q_sub (ls' := [some (.ref 164), some (.int x1), some (.int (x2 + 1)), none, none]) ⟨rfl, rfl, rfl, trivial⟩ F
      · replace F := F.2 k2
        refine z_iload_n (pc := 77) dX11_nextOf_77 rfl rfl ?_
        exact q_retI (pc := 78) dX11_nextOf_78 rfl F
    · replace F := F.2 k8
      refine z_iload (pc := 36) dX11_nextOf_36 rfl ?_
      refine z_iload_n (pc := 38) dX11_nextOf_38 rfl rfl ?_
      refine z_icmp_eq (pc := 39) (tgt := 65) dX11_nextOf_39 (by decide) (fun k7 => ?_) (fun k7 => ?_)
      · replace F := F.1 k7
        refine z_iconst (pc := 65) (v := 0) dX11_nextOf_65 (by decide) ?_
        refine z_istore_n (pc := 66) (ls' := [some (.ref 164), some (.int x1), some (.int x2), some (.int 0), some (.int x4)]) dX11_nextOf_66 rfl (by decide) rfl ?_
        refine z_iinc (pc := 67) (v := x4 + 1) (ls' := [some (.ref 164), some (.int x1), some (.int x2), some (.int 0), some (.int (x4 + 1))]) dX11_nextOf_67 (by decide) rfl rfl rfl ?_
        refine z_goto (pc := 70) (tgt := 25) dX11_nextOf_70 (by decide) ?_
        exact F
      · replace F := F.2 k7
        refine z_iload_n (pc := 42) dX11_nextOf_42 rfl rfl ?_
        refine z_iload (pc := 43) dX11_nextOf_43 rfl ?_
        refine q_invS (pc := 45) (As := [.int x1, .int x4]) (st := []) dX11_nextOf_45 ok_X11_has ml_RX11_96 st_X11_has pa_X11_has ⟨Nat.le_of_ble_eq_true rfl, Nat.le_of_ble_eq_true rfl⟩ (q_kI F (fun vh1 h1 F => ?_))
        obtain ⟨G1, F⟩ := F
        refine z_if_eq (pc := 48) (tgt := 65) dX11_nextOf_48 (by decide) (fun k6 => ?_) (fun k6 => ?_)
        · replace F := F.1 k6
          refine z_iconst (pc := 65) (v := 0) dX11_nextOf_65 (by decide) ?_
          refine z_istore_n (pc := 66) (ls' := [some (.ref 164), some (.int x1), some (.int x2), some (.int 0), some (.int x4)]) dX11_nextOf_66 rfl (by decide) rfl ?_
          refine z_iinc (pc := 67) (v := x4 + 1) (ls' := [some (.ref 164), some (.int x1), some (.int x2), some (.int 0), some (.int (x4 + 1))]) dX11_nextOf_67 (by decide) rfl rfl rfl ?_
          refine z_goto (pc := 70) (tgt := 25) dX11_nextOf_70 (by decide) ?_
          exact F
        · replace F := F.2 k6
          refine z_aload_n (pc := 51) dX11_nextOf_51 rfl rfl ?_
          refine z_iload_n (pc := 52) dX11_nextOf_52 rfl rfl ?_
          refine z_iload (pc := 53) dX11_nextOf_53 rfl ?_
          refine q_invV (pc := 55) (As := [.int x2, .int x4]) (st := []) dX11_nextOf_55 ok_X11_doesDepend ml_RX11_118 iv_X11_doesDepend pa_X11_doesDepend ⟨Nat.le_of_ble_eq_true rfl, Nat.le_of_ble_eq_true rfl⟩ (lyc rfl) (q_kI F (fun vh2 h2 F => ?_))
          obtain ⟨G2, F⟩ := F
          refine z_if_eq (pc := 58) (tgt := 65) dX11_nextOf_58 (by decide) (fun k5 => ?_) (fun k5 => ?_)
          · replace F := F.1 k5
            refine z_iconst (pc := 65) (v := 0) dX11_nextOf_65 (by decide) ?_
            refine z_istore_n (pc := 66) (ls' := [some (.ref 164), some (.int x1), some (.int x2), some (.int 0), some (.int x4)]) dX11_nextOf_66 rfl (by decide) rfl ?_
            refine z_iinc (pc := 67) (v := x4 + 1) (ls' := [some (.ref 164), some (.int x1), some (.int x2), some (.int 0), some (.int (x4 + 1))]) dX11_nextOf_67 (by decide) rfl rfl rfl ?_
            refine z_goto (pc := 70) (tgt := 25) dX11_nextOf_70 (by decide) ?_
            exact F
          · replace F := F.2 k5
            refine z_iconst (pc := 61) (v := 1) dX11_nextOf_61 (by decide) ?_
            refine z_goto (pc := 62) (tgt := 66) dX11_nextOf_62 (by decide) ?_
            refine z_istore_n (pc := 66) (ls' := [some (.ref 164), some (.int x1), some (.int x2), some (.int 1), some (.int x4)]) dX11_nextOf_66 rfl (by decide) rfl ?_
            refine z_iinc (pc := 67) (v := x4 + 1) (ls' := [some (.ref 164), some (.int x1), some (.int x2), some (.int 1), some (.int (x4 + 1))]) dX11_nextOf_67 (by decide) rfl rfl rfl ?_
            refine z_goto (pc := 70) (tgt := 25) dX11_nextOf_70 (by decide) ?_
            exact F
theorem g_X11_nextOf_87 {x1 : Int32} {x2 : Int32} {h : zHp} {Q : Int32 → zHp → Prop}  (G : zG h) (F : zcI M_X11_has [.int x1, .int x2] h (fun vh1 h1 => zG h1 ∧ ((¬ vh1 = 0 → (Q x2 h1)) ∧ (vh1 = 0 → (zlI M_X11_nextOf 87 [some (.ref 164), some (.int x1), some (.int (x2 + 1)), none, none] [] h1 Q))))) : zlI M_X11_nextOf 87 [some (.ref 164), some (.int x1), some (.int x2), none, none] [] h Q := by
  refine z_iload_n (pc := 87) dX11_nextOf_87 rfl rfl ?_
  refine z_iload_n (pc := 88) dX11_nextOf_88 rfl rfl ?_
  refine q_invS (pc := 89) (As := [.int x1, .int x2]) (st := []) dX11_nextOf_89 ok_X11_has ml_RX11_96 st_X11_has pa_X11_has ⟨Nat.le_of_ble_eq_true rfl, Nat.le_of_ble_eq_true rfl⟩ (q_kI F (fun vh1 h1 F => ?_))
  obtain ⟨G1, F⟩ := F
  refine z_if_ne (pc := 92) (tgt := 101) dX11_nextOf_92 (by decide) (fun k2 => ?_) (fun k2 => ?_)
  · replace F := F.1 k2
    refine z_iload_n (pc := 101) dX11_nextOf_101 rfl rfl ?_
    exact q_retI (pc := 102) dX11_nextOf_102 rfl F
  · replace F := F.2 k2
    refine z_iinc (pc := 95) (v := x2 + 1) (ls' := [some (.ref 164), some (.int x1), some (.int (x2 + 1)), none, none]) dX11_nextOf_95 (by decide) rfl rfl rfl ?_
    refine z_goto (pc := 98) (tgt := 87) dX11_nextOf_98 (by decide) ?_
    exact F
theorem g_X11_makes {x1 : Int32} {h : zHp} {Q : zHp → Prop}  (G : zG h) (F : zlV M_X11_makes 2 [some (.ref 164), some (.int x1), some (.int 0), none, none] [] h Q) : zcV M_X11_makes [.ref 164, .int x1] h Q := by
  show zw zNT zNT M_X11_makes 0 [some (.ref 164), some (.int x1), none, none, none] [] h _
  refine z_iconst (pc := 0) (v := 0) dX11_makes_0 (by decide) ?_
  refine z_istore_n (pc := 1) (ls' := [some (.ref 164), some (.int x1), some (.int 0), none, none]) dX11_makes_1 rfl (by decide) rfl ?_
  exact F
theorem g_X11_makes_2 {x1 : Int32} {x2 : Int32} {h : zHp} {Q : zHp → Prop}  (G : zG h) (F : (rI h 165 238 ≤ x2 → (zlV M_X11_makes 84 [some (.ref 164), some (.int x1), some (.int 0), none, none] [] (wI h 164 7 0) Q)) ∧ (¬ (rI h 165 238 ≤ x2) → (zcI M_X11_its [.ref 164, .int x2, .int 1] h (fun vh1 h1 => zG h1 ∧ (vp_in (4 * x2) 32 ∧ (vp_in ((4 * x2) + 1) 32 ∧ (zcI M_X11_its [.ref 164, .int x2, .int 2] (wI (wI h1 168 ((Int32.toNatClampNeg (4 * x2))) vh1) 168 ((Int32.toNatClampNeg ((4 * x2) + 1))) 0) (fun vh2 h2 => zG h2 ∧ (vp_in ((4 * x2) + 2) 32 ∧ (zcI M_X11_its [.ref 164, .int x2, .int 3] (wI h2 168 ((Int32.toNatClampNeg ((4 * x2) + 2))) vh2) (fun vh3 h3 => zG h3 ∧ (vp_in ((4 * x2) + 3) 32 ∧ (zlV M_X11_makes 2 [some (.ref 164), some (.int x1), some (.int (x2 + 1)), none, none] [] (wI h3 168 ((Int32.toNatClampNeg ((4 * x2) + 3))) vh3) Q))))))))))))) : zlV M_X11_makes 2 [some (.ref 164), some (.int x1), some (.int x2), none, none] [] h Q := by
  refine z_iload_n (pc := 2) dX11_makes_2 rfl rfl ?_
  refine z_aload_n (pc := 3) dX11_makes_3 rfl rfl ?_
  refine q_getR (pc := 4) (i := 165) dX11_makes_4 lk_RX11_7 (lyc rfl) (G 164 0 165 rfl) ?_
  refine z_sipush (pc := 7) (v := 238) dX11_makes_7 (by decide) ?_
  refine q_iald (pc := 10) (j := 238) (v := rI h 165 238) dX11_makes_10 (lyc rfl) (zvl (lnc rfl) (by decide)) (by decide) rfl ?_
  refine z_icmp_ge (pc := 11) (tgt := 77) dX11_makes_11 (by decide) (fun k8 => ?_) (fun k8 => ?_)
  · replace F := F.1 k8
    refine z_aload_n (pc := 77) dX11_makes_77 rfl rfl ?_
    refine z_iconst (pc := 78) (v := 0) dX11_makes_78 (by decide) ?_
    refine q_putI (pc := 79) dX11_makes_79 lk_RX11_121 (lyc rfl) ?_
    refine z_iconst (pc := 82) (v := 0) dX11_makes_82 (by decide) ?_
    refine z_istore_n (pc := 83) (ls' := [some (.ref 164), some (.int x1), some (.int 0), none, none]) dX11_makes_83 rfl (by decide) rfl ?_
    exact F
  · replace F := F.2 k8
    refine z_aload_n (pc := 14) dX11_makes_14 rfl rfl ?_
    refine q_getR (pc := 15) (i := 168) dX11_makes_15 lk_RX11_19 (lyc rfl) (G 164 4 168 rfl) ?_
    refine z_iconst (pc := 18) (v := 4) dX11_makes_18 (by decide) ?_
    refine z_iload_n (pc := 19) dX11_makes_19 rfl rfl ?_
    refine z_imul (pc := 20) dX11_makes_20 ?_
    refine z_aload_n (pc := 21) dX11_makes_21 rfl rfl ?_
    refine z_iload_n (pc := 22) dX11_makes_22 rfl rfl ?_
    refine z_iconst (pc := 23) (v := 1) dX11_makes_23 (by decide) ?_
    refine q_invV (pc := 24) (As := [.int x2, .int 1]) (st := [.int (4 * x2), .ref 168]) dX11_makes_24 ok_X11_its ml_RX11_92 iv_X11_its pa_X11_its ⟨Nat.le_of_ble_eq_true rfl, Nat.le_of_ble_eq_true rfl⟩ (lyc rfl) (q_kI F (fun vh1 h1 F => ?_))
    obtain ⟨G1, F⟩ := F
    obtain ⟨k2, F⟩ := F
    refine q_iast (pc := 27) (j := (Int32.toNatClampNeg (4 * x2))) dX11_makes_27 (lyc rfl) (zvn (lnc rfl) k2) rfl ?_
    refine z_aload_n (pc := 28) dX11_makes_28 rfl rfl ?_
    refine q_getR (pc := 29) (i := 168) dX11_makes_29 lk_RX11_19 (lyc rfl) (G1 164 4 168 rfl) ?_
    refine z_iconst (pc := 32) (v := 4) dX11_makes_32 (by decide) ?_
    refine z_iload_n (pc := 33) dX11_makes_33 rfl rfl ?_
    refine z_imul (pc := 34) dX11_makes_34 ?_
    refine z_iconst (pc := 35) (v := 1) dX11_makes_35 (by decide) ?_
    refine z_iadd (pc := 36) dX11_makes_36 ?_
    refine z_iconst (pc := 37) (v := 0) dX11_makes_37 (by decide) ?_
    obtain ⟨k3, F⟩ := F
    refine q_iast (pc := 38) (j := (Int32.toNatClampNeg ((4 * x2) + 1))) dX11_makes_38 (lyc rfl) (zvn (lnc rfl) k3) rfl ?_
    refine z_aload_n (pc := 39) dX11_makes_39 rfl rfl ?_
    refine q_getR (pc := 40) (i := 168) dX11_makes_40 lk_RX11_19 (lyc rfl) (G1 164 4 168 rfl) ?_
    refine z_iconst (pc := 43) (v := 4) dX11_makes_43 (by decide) ?_
    refine z_iload_n (pc := 44) dX11_makes_44 rfl rfl ?_
    refine z_imul (pc := 45) dX11_makes_45 ?_
    refine z_iconst (pc := 46) (v := 2) dX11_makes_46 (by decide) ?_
    refine z_iadd (pc := 47) dX11_makes_47 ?_
    refine z_aload_n (pc := 48) dX11_makes_48 rfl rfl ?_
    refine z_iload_n (pc := 49) dX11_makes_49 rfl rfl ?_
    refine z_iconst (pc := 50) (v := 2) dX11_makes_50 (by decide) ?_
    refine q_invV (pc := 51) (As := [.int x2, .int 2]) (st := [.int ((4 * x2) + 2), .ref 168]) dX11_makes_51 ok_X11_its ml_RX11_92 iv_X11_its pa_X11_its ⟨Nat.le_of_ble_eq_true rfl, Nat.le_of_ble_eq_true rfl⟩ (lyc rfl) (q_kI F (fun vh2 h2 F => ?_))
    obtain ⟨G2, F⟩ := F
    obtain ⟨k5, F⟩ := F
    refine q_iast (pc := 54) (j := (Int32.toNatClampNeg ((4 * x2) + 2))) dX11_makes_54 (lyc rfl) (zvn (lnc rfl) k5) rfl ?_
    refine z_aload_n (pc := 55) dX11_makes_55 rfl rfl ?_
    refine q_getR (pc := 56) (i := 168) dX11_makes_56 lk_RX11_19 (lyc rfl) (G2 164 4 168 rfl) ?_
    refine z_iconst (pc := 59) (v := 4) dX11_makes_59 (by decide) ?_
    refine z_iload_n (pc := 60) dX11_makes_60 rfl rfl ?_
    refine z_imul (pc := 61) dX11_makes_61 ?_
    refine z_iconst (pc := 62) (v := 3) dX11_makes_62 (by decide) ?_
    refine z_iadd (pc := 63) dX11_makes_63 ?_
    refine z_aload_n (pc := 64) dX11_makes_64 rfl rfl ?_
    refine z_iload_n (pc := 65) dX11_makes_65 rfl rfl ?_
    refine z_iconst (pc := 66) (v := 3) dX11_makes_66 (by decide) ?_
    refine q_invV (pc := 67) (As := [.int x2, .int 3]) (st := [.int ((4 * x2) + 3), .ref 168]) dX11_makes_67 ok_X11_its ml_RX11_92 iv_X11_its pa_X11_its ⟨Nat.le_of_ble_eq_true rfl, Nat.le_of_ble_eq_true rfl⟩ (lyc rfl) (q_kI F (fun vh3 h3 F => ?_))
    obtain ⟨G3, F⟩ := F
    obtain ⟨k7, F⟩ := F
    refine q_iast (pc := 70) (j := (Int32.toNatClampNeg ((4 * x2) + 3))) dX11_makes_70 (lyc rfl) (zvn (lnc rfl) k7) rfl ?_
    refine z_iinc (pc := 71) (v := x2 + 1) (ls' := [some (.ref 164), some (.int x1), some (.int (x2 + 1)), none, none]) dX11_makes_71 (by decide) rfl rfl rfl ?_
    refine z_goto (pc := 74) (tgt := 2) dX11_makes_74 (by decide) ?_
    exact F
theorem g_X11_makes_84 {x1 : Int32} {x2 : Int32} {h : zHp} {Q : zHp → Prop}  (G : zG h) (F : (x1 ≤ x2 → (Q h)) ∧ (¬ (x1 ≤ x2) → (zlV M_X11_makes 94 [some (.ref 164), some (.int x1), some (.int x2), some (.int 0), some (.int 0)] [] h Q))) : zlV M_X11_makes 84 [some (.ref 164), some (.int x1), some (.int x2), none, none] [] h Q := by
  refine z_iload_n (pc := 84) dX11_makes_84 rfl rfl ?_
  refine z_iload_n (pc := 85) dX11_makes_85 rfl rfl ?_
  refine z_icmp_ge (pc := 86) (tgt := 207) dX11_makes_86 (by decide) (fun k1 => ?_) (fun k1 => ?_)
  · replace F := F.1 k1
    exact q_retV (pc := 207) dX11_makes_207 rfl F
  · replace F := F.2 k1
    refine z_iconst (pc := 89) (v := 0) dX11_makes_89 (by decide) ?_
    refine z_istore_n (pc := 90) (ls' := [some (.ref 164), some (.int x1), some (.int x2), some (.int 0), none]) dX11_makes_90 rfl (by decide) rfl ?_
    refine z_iconst (pc := 91) (v := 0) dX11_makes_91 (by decide) ?_
    refine z_istore (pc := 92) (ls' := [some (.ref 164), some (.int x1), some (.int x2), some (.int 0), some (.int 0)]) dX11_makes_92 (by decide) rfl ?_
    exact F
theorem g_X11_makes_94 {x1 : Int32} {x2 : Int32} {x3 : Int32} {x4 : Int32} {h : zHp} {Q : zHp → Prop}  (G : zG h) (F : (rI h 165 239 ≤ x4 → (zlV M_X11_makes 147 [some (.ref 164), some (.int x1), some (.int x2), some (.int x3), some (.int x4)] [] h Q)) ∧ (¬ (rI h 165 239 ≤ x4) → (zcI M_X11_effectIs [.ref 164, .int x4, .int 1] h (fun vh1 h1 => zG h1 ∧ (zcI M_X11_layer [.int vh1] h1 (fun vh2 h2 => zG h2 ∧ ((¬ vh2 = x2 → (zlV M_X11_makes 94 [some (.ref 164), some (.int x1), some (.int x2), some (.int (x3 ||| 0)), some (.int (x4 + 1))] [] h2 Q)) ∧ (vh2 = x2 → (zcI M_X11_doesSomething [.ref 164, .int x4] h2 (fun vh3 h3 => zG h3 ∧ ((vh3 = 0 → (zlV M_X11_makes 94 [some (.ref 164), some (.int x1), some (.int x2), some (.int (x3 ||| 0)), some (.int (x4 + 1))] [] h3 Q)) ∧ (¬ (vh3 = 0) → (zlV M_X11_makes 94 [some (.ref 164), some (.int x1), some (.int x2), some (.int (x3 ||| (1 <<< (x4 &&& 31)))), some (.int (x4 + 1))] [] h3 Q))))))))))))) : zlV M_X11_makes 94 [some (.ref 164), some (.int x1), some (.int x2), some (.int x3), some (.int x4)] [] h Q := by
  refine z_iload (pc := 94) dX11_makes_94 rfl ?_
  refine z_aload_n (pc := 96) dX11_makes_96 rfl rfl ?_
  refine q_getR (pc := 97) (i := 165) dX11_makes_97 lk_RX11_7 (lyc rfl) (G 164 0 165 rfl) ?_
  refine z_sipush (pc := 100) (v := 239) dX11_makes_100 (by decide) ?_
  refine q_iald (pc := 103) (j := 239) (v := rI h 165 239) dX11_makes_103 (lyc rfl) (zvl (lnc rfl) (by decide)) (by decide) rfl ?_
  refine z_icmp_ge (pc := 104) (tgt := 147) dX11_makes_104 (by decide) (fun k6 => ?_) (fun k6 => ?_)
  · replace F := F.1 k6
    exact F
  · replace F := F.2 k6
    refine z_iload_n (pc := 107) dX11_makes_107 rfl rfl ?_
    refine z_aload_n (pc := 108) dX11_makes_108 rfl rfl ?_
    refine z_iload (pc := 109) dX11_makes_109 rfl ?_
    refine z_iconst (pc := 111) (v := 1) dX11_makes_111 (by decide) ?_
    refine q_invV (pc := 112) (As := [.int x4, .int 1]) (st := [.int x3]) dX11_makes_112 ok_X11_effectIs ml_RX11_103 iv_X11_effectIs pa_X11_effectIs ⟨Nat.le_of_ble_eq_true rfl, Nat.le_of_ble_eq_true rfl⟩ (lyc rfl) (q_kI F (fun vh1 h1 F => ?_))
    obtain ⟨G1, F⟩ := F
    refine q_invS (pc := 115) (As := [.int vh1]) (st := [.int x3]) dX11_makes_115 ok_X11_layer ml_RX11_125 st_X11_layer pa_X11_layer ⟨Nat.le_of_ble_eq_true rfl, Nat.le_of_ble_eq_true rfl⟩ (q_kI F (fun vh2 h2 F => ?_))
    obtain ⟨G2, F⟩ := F
    refine z_iload_n (pc := 118) dX11_makes_118 rfl rfl ?_
    refine z_icmp_ne (pc := 119) (tgt := 138) dX11_makes_119 (by decide) (fun k5 => ?_) (fun k5 => ?_)
    · replace F := F.1 k5
      refine z_iconst (pc := 138) (v := 0) dX11_makes_138 (by decide) ?_
      refine z_ior (pc := 139) dX11_makes_139 ?_
      refine z_istore_n (pc := 140) (ls' := [some (.ref 164), some (.int x1), some (.int x2), some (.int (x3 ||| 0)), some (.int x4)]) dX11_makes_140 rfl (by decide) rfl ?_
      refine z_iinc (pc := 141) (v := x4 + 1) (ls' := [some (.ref 164), some (.int x1), some (.int x2), some (.int (x3 ||| 0)), some (.int (x4 + 1))]) dX11_makes_141 (by decide) rfl rfl rfl ?_
      refine z_goto (pc := 144) (tgt := 94) dX11_makes_144 (by decide) ?_
      exact F
    · replace F := F.2 k5
      refine z_aload_n (pc := 122) dX11_makes_122 rfl rfl ?_
      refine z_iload (pc := 123) dX11_makes_123 rfl ?_
      refine q_invV (pc := 125) (As := [.int x4]) (st := [.int x3]) dX11_makes_125 ok_X11_doesSomething ml_RX11_129 iv_X11_doesSomething pa_X11_doesSomething ⟨Nat.le_of_ble_eq_true rfl, Nat.le_of_ble_eq_true rfl⟩ (lyc rfl) (q_kI F (fun vh3 h3 F => ?_))
      obtain ⟨G3, F⟩ := F
      refine z_if_eq (pc := 128) (tgt := 138) dX11_makes_128 (by decide) (fun k4 => ?_) (fun k4 => ?_)
      · replace F := F.1 k4
        refine z_iconst (pc := 138) (v := 0) dX11_makes_138 (by decide) ?_
        refine z_ior (pc := 139) dX11_makes_139 ?_
        refine z_istore_n (pc := 140) (ls' := [some (.ref 164), some (.int x1), some (.int x2), some (.int (x3 ||| 0)), some (.int x4)]) dX11_makes_140 rfl (by decide) rfl ?_
        refine z_iinc (pc := 141) (v := x4 + 1) (ls' := [some (.ref 164), some (.int x1), some (.int x2), some (.int (x3 ||| 0)), some (.int (x4 + 1))]) dX11_makes_141 (by decide) rfl rfl rfl ?_
        refine z_goto (pc := 144) (tgt := 94) dX11_makes_144 (by decide) ?_
        exact F
      · replace F := F.2 k4
        refine z_iconst (pc := 131) (v := 1) dX11_makes_131 (by decide) ?_
        refine z_iload (pc := 132) dX11_makes_132 rfl ?_
        refine z_ishl (pc := 134) dX11_makes_134 ?_
        refine z_goto (pc := 135) (tgt := 139) dX11_makes_135 (by decide) ?_
        refine z_ior (pc := 139) dX11_makes_139 ?_
        refine z_istore_n (pc := 140) (ls' := [some (.ref 164), some (.int x1), some (.int x2), some (.int (x3 ||| (1 <<< (x4 &&& 31)))), some (.int x4)]) dX11_makes_140 rfl (by decide) rfl ?_
        refine z_iinc (pc := 141) (v := x4 + 1) (ls' := [some (.ref 164), some (.int x1), some (.int x2), some (.int (x3 ||| (1 <<< (x4 &&& 31)))), some (.int (x4 + 1))]) dX11_makes_141 (by decide) rfl rfl rfl ?_
        refine z_goto (pc := 144) (tgt := 94) dX11_makes_144 (by decide) ?_
        exact F
theorem g_X11_makes_147 {x1 : Int32} {x2 : Int32} {x3 : Int32} {x4 : Int32} {h : zHp} {Q : zHp → Prop}  (G : zG h) (F : (x3 = 0 → (zlV M_X11_makes 84 [some (.ref 164), some (.int x1), some (.int (x2 + 1)), none, none] [] h Q)) ∧ (¬ (x3 = 0) → (zcI M_X11_nextOf [.ref 164, .int x3] h (fun vh1 h1 => zG h1 ∧ (zcV M_X11_does [.ref 164, .ref 168, .int vh1] h1 (fun h2 => zG h2 ∧ (vp_in (rI h2 164 7) 10 ∧ (zlV M_X11_makes 147 [some (.ref 164), some (.int x1), some (.int x2), some (.int (x3 &&& ((1 <<< (vh1 &&& 31)) ^^^ (-1)))), some (.int vh1)] [] (wI (wI h2 170 ((Int32.toNatClampNeg (rI h2 164 7))) vh1) 164 7 ((rI h2 164 7) + 1)) Q)))))))) : zlV M_X11_makes 147 [some (.ref 164), some (.int x1), some (.int x2), some (.int x3), some (.int x4)] [] h Q := by
  refine z_iload_n (pc := 147) dX11_makes_147 rfl rfl ?_
  refine z_if_eq (pc := 148) (tgt := 201) dX11_makes_148 (by decide) (fun k4 => ?_) (fun k4 => ?_)
  · replace F := F.1 k4
    refine z_iinc (pc := 201) (v := x2 + 1) (ls' := [some (.ref 164), some (.int x1), some (.int (x2 + 1)), some (.int x3), some (.int x4)]) dX11_makes_201 (by decide) rfl rfl rfl ?_
    refine z_goto (pc := 204) (tgt := 84) dX11_makes_204 (by decide) ?_
    exact q_sub (ls' := [some (.ref 164), some (.int x1), some (.int (x2 + 1)), none, none]) ⟨rfl, rfl, rfl, trivial⟩ F
  · replace F := F.2 k4
    refine z_aload_n (pc := 151) dX11_makes_151 rfl rfl ?_
    refine z_iload_n (pc := 152) dX11_makes_152 rfl rfl ?_
    refine q_invV (pc := 153) (As := [.int x3]) (st := []) dX11_makes_153 ok_X11_nextOf ml_RX11_132 iv_X11_nextOf pa_X11_nextOf ⟨Nat.le_of_ble_eq_true rfl, Nat.le_of_ble_eq_true rfl⟩ (lyc rfl) (q_kI F (fun vh1 h1 F => ?_))
    obtain ⟨G1, F⟩ := F
    refine z_istore (pc := 156) (ls' := [some (.ref 164), some (.int x1), some (.int x2), some (.int x3), some (.int vh1)]) dX11_makes_156 (by decide) rfl ?_
    refine z_aload_n (pc := 158) dX11_makes_158 rfl rfl ?_
    refine z_aload_n (pc := 159) dX11_makes_159 rfl rfl ?_
    refine q_getR (pc := 160) (i := 168) dX11_makes_160 lk_RX11_19 (lyc rfl) (G1 164 4 168 rfl) ?_
    refine z_iload (pc := 163) dX11_makes_163 rfl ?_
    refine q_invV (pc := 165) (As := [.ref 168, .int vh1]) (st := []) dX11_makes_165 ok_X11_does ml_RX11_114 iv_X11_does pa_X11_does ⟨Nat.le_of_ble_eq_true rfl, Nat.le_of_ble_eq_true rfl⟩ (lyc rfl) (q_kV F (fun h2 F => ?_))
    obtain ⟨G2, F⟩ := F
    refine z_iload_n (pc := 168) dX11_makes_168 rfl rfl ?_
    refine z_iconst (pc := 169) (v := 1) dX11_makes_169 (by decide) ?_
    refine z_iload (pc := 170) dX11_makes_170 rfl ?_
    refine z_ishl (pc := 172) dX11_makes_172 ?_
    refine z_iconst (pc := 173) (v := -1) dX11_makes_173 (by decide) ?_
    refine z_ixor (pc := 174) dX11_makes_174 ?_
    refine z_iand (pc := 175) dX11_makes_175 ?_
    refine z_istore_n (pc := 176) (ls' := [some (.ref 164), some (.int x1), some (.int x2), some (.int (x3 &&& ((1 <<< (vh1 &&& 31)) ^^^ (-1)))), some (.int vh1)]) dX11_makes_176 rfl (by decide) rfl ?_
    refine z_aload_n (pc := 177) dX11_makes_177 rfl rfl ?_
    refine q_getR (pc := 178) (i := 170) dX11_makes_178 lk_RX11_25 (lyc rfl) (G2 164 6 170 rfl) ?_
    refine z_aload_n (pc := 181) dX11_makes_181 rfl rfl ?_
    refine q_getI (pc := 182) (v := rI h2 164 7) dX11_makes_182 lk_RX11_121 (lyc rfl) rfl ?_
    refine z_iload (pc := 185) dX11_makes_185 rfl ?_
    obtain ⟨k3, F⟩ := F
    refine q_iast (pc := 187) (j := (Int32.toNatClampNeg (rI h2 164 7))) dX11_makes_187 (lyc rfl) (zvn (lnc rfl) k3) rfl ?_
    refine z_aload_n (pc := 188) dX11_makes_188 rfl rfl ?_
    refine z_dup (pc := 189) dX11_makes_189 rfl ?_
    refine q_getI (pc := 190) (v := rI h2 164 7) dX11_makes_190 lk_RX11_121 (lyc rfl) (rI_c (by decide)) ?_
    refine z_iconst (pc := 193) (v := 1) dX11_makes_193 (by decide) ?_
    refine z_iadd (pc := 194) dX11_makes_194 ?_
    refine q_putI (pc := 195) dX11_makes_195 lk_RX11_121 (lyc rfl) ?_
    refine z_goto (pc := 198) (tgt := 147) dX11_makes_198 (by decide) ?_
    exact F
theorem g_X11_setsOff {x1 : Int32} {x2 : Int32} {h : zHp} {Q : zHp → Prop}  (G : zG h) (F : zlV M_X11_setsOff 2 [some (.ref 164), some (.int x1), some (.int x2), some (.int 0), none, none, none, none] [] h Q) : zcV M_X11_setsOff [.ref 164, .int x1, .int x2] h Q := by
  show zw zNT zNT M_X11_setsOff 0 [some (.ref 164), some (.int x1), some (.int x2), none, none, none, none, none] [] h _
  refine z_iconst (pc := 0) (v := 0) dX11_setsOff_0 (by decide) ?_
  refine z_istore_n (pc := 1) (ls' := [some (.ref 164), some (.int x1), some (.int x2), some (.int 0), none, none, none, none]) dX11_setsOff_1 rfl (by decide) rfl ?_
  exact F
theorem g_X11_setsOff_2 {x1 : Int32} {x2 : Int32} {x3 : Int32} {h : zHp} {Q : zHp → Prop}  (G : zG h) (F : (2 ≤ x3 → (Q h)) ∧ (¬ (2 ≤ x3) → ((rI h 164 8 = 0 → (Q h)) ∧ (¬ (rI h 164 8 = 0) → ((¬ x3 = 0 → (zlV M_X11_setsOff 44 [some (.ref 164), some (.int x1), some (.int x2), some (.int x3), some (.int (1 - (rI h 165 244))), some (.int 0), none, none] [] h Q)) ∧ (x3 = 0 → (zlV M_X11_setsOff 44 [some (.ref 164), some (.int x1), some (.int x2), some (.int x3), some (.int (rI h 165 244)), some (.int 0), none, none] [] h Q))))))) : zlV M_X11_setsOff 2 [some (.ref 164), some (.int x1), some (.int x2), some (.int x3), none, none, none, none] [] h Q := by
  refine z_iload_n (pc := 2) dX11_setsOff_2 rfl rfl ?_
  refine z_iconst (pc := 3) (v := 2) dX11_setsOff_3 (by decide) ?_
  refine z_icmp_ge (pc := 4) (tgt := 217) dX11_setsOff_4 (by decide) (fun k3 => ?_) (fun k3 => ?_)
  · replace F := F.1 k3
    exact q_retV (pc := 217) dX11_setsOff_217 rfl F
  · replace F := F.2 k3
    refine z_aload_n (pc := 7) dX11_setsOff_7 rfl rfl ?_
    refine q_getI (pc := 8) (v := rI h 164 8) dX11_setsOff_8 lk_RX11_135 (lyc rfl) rfl ?_
    refine z_if_eq (pc := 11) (tgt := 217) dX11_setsOff_11 (by decide) (fun k2 => ?_) (fun k2 => ?_)
    · replace F := F.1 k2
      exact q_retV (pc := 217) dX11_setsOff_217 rfl F
    · replace F := F.2 k2
      refine z_iload_n (pc := 14) dX11_setsOff_14 rfl rfl ?_
      refine z_if_ne (pc := 15) (tgt := 29) dX11_setsOff_15 (by decide) (fun k1 => ?_) (fun k1 => ?_)
      · replace F := F.1 k1
        refine z_iconst (pc := 29) (v := 1) dX11_setsOff_29 (by decide) ?_
        refine z_aload_n (pc := 30) dX11_setsOff_30 rfl rfl ?_
        refine q_getR (pc := 31) (i := 165) dX11_setsOff_31 lk_RX11_7 (lyc rfl) (G 164 0 165 rfl) ?_
        refine z_sipush (pc := 34) (v := 244) dX11_setsOff_34 (by decide) ?_
        refine q_iald (pc := 37) (j := 244) (v := rI h 165 244) dX11_setsOff_37 (lyc rfl) (zvl (lnc rfl) (by decide)) (by decide) rfl ?_
        refine z_isub (pc := 38) dX11_setsOff_38 ?_
        refine z_istore (pc := 39) (ls' := [some (.ref 164), some (.int x1), some (.int x2), some (.int x3), some (.int (1 - (rI h 165 244))), none, none, none]) dX11_setsOff_39 (by decide) rfl ?_
        refine z_iconst (pc := 41) (v := 0) dX11_setsOff_41 (by decide) ?_
        refine z_istore (pc := 42) (ls' := [some (.ref 164), some (.int x1), some (.int x2), some (.int x3), some (.int (1 - (rI h 165 244))), some (.int 0), none, none]) dX11_setsOff_42 (by decide) rfl ?_
        exact F
      · replace F := F.2 k1
        refine z_aload_n (pc := 18) dX11_setsOff_18 rfl rfl ?_
        refine q_getR (pc := 19) (i := 165) dX11_setsOff_19 lk_RX11_7 (lyc rfl) (G 164 0 165 rfl) ?_
        refine z_sipush (pc := 22) (v := 244) dX11_setsOff_22 (by decide) ?_
        refine q_iald (pc := 25) (j := 244) (v := rI h 165 244) dX11_setsOff_25 (lyc rfl) (zvl (lnc rfl) (by decide)) (by decide) rfl ?_
        refine z_goto (pc := 26) (tgt := 39) dX11_setsOff_26 (by decide) ?_
        refine z_istore (pc := 39) (ls' := [some (.ref 164), some (.int x1), some (.int x2), some (.int x3), some (.int (rI h 165 244)), none, none, none]) dX11_setsOff_39 (by decide) rfl ?_
        refine z_iconst (pc := 41) (v := 0) dX11_setsOff_41 (by decide) ?_
        refine z_istore (pc := 42) (ls' := [some (.ref 164), some (.int x1), some (.int x2), some (.int x3), some (.int (rI h 165 244)), some (.int 0), none, none]) dX11_setsOff_42 (by decide) rfl ?_
        exact F
theorem g_X11_setsOff_44 {x1 : Int32} {x2 : Int32} {x3 : Int32} {x4 : Int32} {x5 : Int32} {h : zHp} {Q : zHp → Prop}  (G : zG h) (F : (rI h 165 241 ≤ x5 → (zlV M_X11_setsOff 2 [some (.ref 164), some (.int x1), some (.int x2), some (.int (x3 + 1)), none, none, none, none] [] h Q)) ∧ (¬ (rI h 165 241 ≤ x5) → (zcI M_X11_watcher [.ref 164, .int x5, .int 0] h (fun vh1 h1 => zG h1 ∧ ((¬ vh1 = x4 → (zlV M_X11_setsOff 44 [some (.ref 164), some (.int x1), some (.int x2), some (.int x3), some (.int x4), some (.int (x5 + 1)), none, none] [] h1 Q)) ∧ (vh1 = x4 → (zcI M_X11_watcher [.ref 164, .int x5, .int 1] h1 (fun vh2 h2 => zG h2 ∧ ((¬ vh2 = x1 → (zlV M_X11_setsOff 44 [some (.ref 164), some (.int x1), some (.int x2), some (.int x3), some (.int x4), some (.int (x5 + 1)), none, none] [] h2 Q)) ∧ (vh2 = x1 → ((¬ x1 = 2 → (zlV M_X11_setsOff 93 [some (.ref 164), some (.int x1), some (.int x2), some (.int x3), some (.int x4), some (.int x5), none, none] [] h2 Q)) ∧ (x1 = 2 → ((¬ x3 = 1 → (zlV M_X11_setsOff 93 [some (.ref 164), some (.int x1), some (.int x2), some (.int x3), some (.int x4), some (.int x5), none, none] [] h2 Q)) ∧ (x3 = 1 → (zlV M_X11_setsOff 44 [some (.ref 164), some (.int x1), some (.int x2), some (.int x3), some (.int x4), some (.int (x5 + 1)), none, none] [] h2 Q))))))))))))))) : zlV M_X11_setsOff 44 [some (.ref 164), some (.int x1), some (.int x2), some (.int x3), some (.int x4), some (.int x5), none, none] [] h Q := by
  refine z_iload (pc := 44) dX11_setsOff_44 rfl ?_
  refine z_aload_n (pc := 46) dX11_setsOff_46 rfl rfl ?_
  refine q_getR (pc := 47) (i := 165) dX11_setsOff_47 lk_RX11_7 (lyc rfl) (G 164 0 165 rfl) ?_
  refine z_sipush (pc := 50) (v := 241) dX11_setsOff_50 (by decide) ?_
  refine q_iald (pc := 53) (j := 241) (v := rI h 165 241) dX11_setsOff_53 (lyc rfl) (zvl (lnc rfl) (by decide)) (by decide) rfl ?_
  refine z_icmp_ge (pc := 54) (tgt := 211) dX11_setsOff_54 (by decide) (fun k7 => ?_) (fun k7 => ?_)
  · replace F := F.1 k7
    refine z_iinc (pc := 211) (v := x3 + 1) (ls' := [some (.ref 164), some (.int x1), some (.int x2), some (.int (x3 + 1)), some (.int x4), some (.int x5), none, none]) dX11_setsOff_211 (by decide) rfl rfl rfl ?_
    refine z_goto (pc := 214) (tgt := 2) dX11_setsOff_214 (by decide) ?_
    exact q_sub (ls' := [some (.ref 164), some (.int x1), some (.int x2), some (.int (x3 + 1)), none, none, none, none]) ⟨rfl, rfl, rfl, rfl, trivial⟩ F
  · replace F := F.2 k7
    refine z_aload_n (pc := 57) dX11_setsOff_57 rfl rfl ?_
    refine z_iload (pc := 58) dX11_setsOff_58 rfl ?_
    refine z_iconst (pc := 60) (v := 0) dX11_setsOff_60 (by decide) ?_
    refine q_invV (pc := 61) (As := [.int x5, .int 0]) (st := []) dX11_setsOff_61 ok_X11_watcher ml_RX11_139 iv_X11_watcher pa_X11_watcher ⟨Nat.le_of_ble_eq_true rfl, Nat.le_of_ble_eq_true rfl⟩ (lyc rfl) (q_kI F (fun vh1 h1 F => ?_))
    obtain ⟨G1, F⟩ := F
    refine z_iload (pc := 64) dX11_setsOff_64 rfl ?_
    refine z_icmp_ne (pc := 66) (tgt := 205) dX11_setsOff_66 (by decide) (fun k6 => ?_) (fun k6 => ?_)
    · replace F := F.1 k6
      refine z_iinc (pc := 205) (v := x5 + 1) (ls' := [some (.ref 164), some (.int x1), some (.int x2), some (.int x3), some (.int x4), some (.int (x5 + 1)), none, none]) dX11_setsOff_205 (by decide) rfl rfl rfl ?_
      refine z_goto (pc := 208) (tgt := 44) dX11_setsOff_208 (by decide) ?_
      exact F
    · replace F := F.2 k6
      refine z_aload_n (pc := 69) dX11_setsOff_69 rfl rfl ?_
      refine z_iload (pc := 70) dX11_setsOff_70 rfl ?_
      refine z_iconst (pc := 72) (v := 1) dX11_setsOff_72 (by decide) ?_
      refine q_invV (pc := 73) (As := [.int x5, .int 1]) (st := []) dX11_setsOff_73 ok_X11_watcher ml_RX11_139 iv_X11_watcher pa_X11_watcher ⟨Nat.le_of_ble_eq_true rfl, Nat.le_of_ble_eq_true rfl⟩ (lyc rfl) (q_kI F (fun vh2 h2 F => ?_))
      obtain ⟨G2, F⟩ := F
      refine z_iload_n (pc := 76) dX11_setsOff_76 rfl rfl ?_
      refine z_icmp_ne (pc := 77) (tgt := 205) dX11_setsOff_77 (by decide) (fun k5 => ?_) (fun k5 => ?_)
      · replace F := F.1 k5
        refine z_iinc (pc := 205) (v := x5 + 1) (ls' := [some (.ref 164), some (.int x1), some (.int x2), some (.int x3), some (.int x4), some (.int (x5 + 1)), none, none]) dX11_setsOff_205 (by decide) rfl rfl rfl ?_
        refine z_goto (pc := 208) (tgt := 44) dX11_setsOff_208 (by decide) ?_
        exact F
      · replace F := F.2 k5
        refine z_iload_n (pc := 80) dX11_setsOff_80 rfl rfl ?_
        refine z_iconst (pc := 81) (v := 2) dX11_setsOff_81 (by decide) ?_
        refine z_icmp_ne (pc := 82) (tgt := 93) dX11_setsOff_82 (by decide) (fun k4 => ?_) (fun k4 => ?_)
        · replace F := F.1 k4
          exact F
        · replace F := F.2 k4
          refine z_iload_n (pc := 85) dX11_setsOff_85 rfl rfl ?_
          refine z_iconst (pc := 86) (v := 1) dX11_setsOff_86 (by decide) ?_
          refine z_icmp_ne (pc := 87) (tgt := 93) dX11_setsOff_87 (by decide) (fun k3 => ?_) (fun k3 => ?_)
          · replace F := F.1 k3
            exact F
          · replace F := F.2 k3
            refine z_goto (pc := 90) (tgt := 205) dX11_setsOff_90 (by decide) ?_
            refine z_iinc (pc := 205) (v := x5 + 1) (ls' := [some (.ref 164), some (.int x1), some (.int x2), some (.int x3), some (.int x4), some (.int (x5 + 1)), none, none]) dX11_setsOff_205 (by decide) rfl rfl rfl ?_
            refine z_goto (pc := 208) (tgt := 44) dX11_setsOff_208 (by decide) ?_
            exact F
theorem g_X11_setsOff_93 {x1 : Int32} {x2 : Int32} {x3 : Int32} {x4 : Int32} {x5 : Int32} {h : zHp} {Q : zHp → Prop}  (G : zG h) (F : (¬ x1 = 2 → (zcI M_X11_watcher [.ref 164, .int x5, .int 5] h (fun vh1 h1 => zG h1 ∧ (zcI M_X11_watcher [.ref 164, .int x5, .int 6] h1 (fun vh2 h2 => zG h2 ∧ (zcI M_X11_inScope [.ref 164, .ref 168, .int vh1, .int vh2] h2 (fun vh3 h3 => zG h3 ∧ (zlV M_X11_setsOff 132 [some (.ref 164), some (.int x1), some (.int x2), some (.int x3), some (.int x4), some (.int x5), some (.int (x2 &&& vh3)), some (.int 0)] [] h3 Q)))))))) ∧ (x1 = 2 → (zlV M_X11_setsOff 132 [some (.ref 164), some (.int x1), some (.int x2), some (.int x3), some (.int x4), some (.int x5), some (.int 1), some (.int 0)] [] h Q))) : zlV M_X11_setsOff 93 [some (.ref 164), some (.int x1), some (.int x2), some (.int x3), some (.int x4), some (.int x5), none, none] [] h Q := by
  refine z_iload_n (pc := 93) dX11_setsOff_93 rfl rfl ?_
  refine z_iconst (pc := 94) (v := 2) dX11_setsOff_94 (by decide) ?_
  refine z_icmp_ne (pc := 95) (tgt := 102) dX11_setsOff_95 (by decide) (fun k4 => ?_) (fun k4 => ?_)
  · replace F := F.1 k4
    refine z_iload_n (pc := 102) dX11_setsOff_102 rfl rfl ?_
    refine z_aload_n (pc := 103) dX11_setsOff_103 rfl rfl ?_
    refine z_aload_n (pc := 104) dX11_setsOff_104 rfl rfl ?_
    refine q_getR (pc := 105) (i := 168) dX11_setsOff_105 lk_RX11_19 (lyc rfl) (G 164 4 168 rfl) ?_
    refine z_aload_n (pc := 108) dX11_setsOff_108 rfl rfl ?_
    refine z_iload (pc := 109) dX11_setsOff_109 rfl ?_
    refine z_iconst (pc := 111) (v := 5) dX11_setsOff_111 (by decide) ?_
    refine q_invV (pc := 112) (As := [.int x5, .int 5]) (st := [.ref 168, .ref 164, .int x2]) dX11_setsOff_112 ok_X11_watcher ml_RX11_139 iv_X11_watcher pa_X11_watcher ⟨Nat.le_of_ble_eq_true rfl, Nat.le_of_ble_eq_true rfl⟩ (lyc rfl) (q_kI F (fun vh1 h1 F => ?_))
    obtain ⟨G1, F⟩ := F
    refine z_aload_n (pc := 115) dX11_setsOff_115 rfl rfl ?_
    refine z_iload (pc := 116) dX11_setsOff_116 rfl ?_
    refine z_bipush (pc := 118) (v := 6) dX11_setsOff_118 (by decide) ?_
    refine q_invV (pc := 120) (As := [.int x5, .int 6]) (st := [.int vh1, .ref 168, .ref 164, .int x2]) dX11_setsOff_120 ok_X11_watcher ml_RX11_139 iv_X11_watcher pa_X11_watcher ⟨Nat.le_of_ble_eq_true rfl, Nat.le_of_ble_eq_true rfl⟩ (lyc rfl) (q_kI F (fun vh2 h2 F => ?_))
    obtain ⟨G2, F⟩ := F
    refine q_invV (pc := 123) (As := [.ref 168, .int vh1, .int vh2]) (st := [.int x2]) dX11_setsOff_123 ok_X11_inScope ml_RX11_106 iv_X11_inScope pa_X11_inScope ⟨Nat.le_of_ble_eq_true rfl, Nat.le_of_ble_eq_true rfl⟩ (lyc rfl) (q_kI F (fun vh3 h3 F => ?_))
    obtain ⟨G3, F⟩ := F
    refine z_iand (pc := 126) dX11_setsOff_126 ?_
    refine z_istore (pc := 127) (ls' := [some (.ref 164), some (.int x1), some (.int x2), some (.int x3), some (.int x4), some (.int x5), some (.int (x2 &&& vh3)), none]) dX11_setsOff_127 (by decide) rfl ?_
    refine z_iconst (pc := 129) (v := 0) dX11_setsOff_129 (by decide) ?_
    refine z_istore (pc := 130) (ls' := [some (.ref 164), some (.int x1), some (.int x2), some (.int x3), some (.int x4), some (.int x5), some (.int (x2 &&& vh3)), some (.int 0)]) dX11_setsOff_130 (by decide) rfl ?_
    exact F
  · replace F := F.2 k4
    refine z_iconst (pc := 98) (v := 1) dX11_setsOff_98 (by decide) ?_
    refine z_goto (pc := 99) (tgt := 127) dX11_setsOff_99 (by decide) ?_
    refine z_istore (pc := 127) (ls' := [some (.ref 164), some (.int x1), some (.int x2), some (.int x3), some (.int x4), some (.int x5), some (.int 1), none]) dX11_setsOff_127 (by decide) rfl ?_
    refine z_iconst (pc := 129) (v := 0) dX11_setsOff_129 (by decide) ?_
    refine z_istore (pc := 130) (ls' := [some (.ref 164), some (.int x1), some (.int x2), some (.int x3), some (.int x4), some (.int x5), some (.int 1), some (.int 0)]) dX11_setsOff_130 (by decide) rfl ?_
    exact F
theorem g_X11_setsOff_132 {x1 : Int32} {x2 : Int32} {x3 : Int32} {x4 : Int32} {x5 : Int32} {x6 : Int32} {x7 : Int32} {h : zHp} {Q : zHp → Prop}  (G : zG h) (F : (8 ≤ x7 → (zlV M_X11_setsOff 44 [some (.ref 164), some (.int x1), some (.int x2), some (.int x3), some (.int x4), some (.int (x5 + 1)), none, none] [] h Q)) ∧ (¬ (8 ≤ x7) → (zcI M_X11_has [.int x6, .int x7] h (fun vh1 h1 => zG h1 ∧ ((¬ vh1 = 0 → (vp_in (2 * (rI h1 164 10)) 1024 ∧ ((¬ x1 = 2 → (vp_in ((2 * (rI h1 164 10)) + 1) 1024 ∧ (zlV M_X11_setsOff 132 [some (.ref 164), some (.int x1), some (.int x2), some (.int x3), some (.int x4), some (.int x5), some (.int x6), some (.int (x7 + 1))] [] (wI (wI (wI h1 171 ((Int32.toNatClampNeg (2 * (rI h1 164 10)))) x5) 171 ((Int32.toNatClampNeg ((2 * (rI h1 164 10)) + 1))) x7) 164 10 ((rI h1 164 10) + 1)) Q))) ∧ (x1 = 2 → (vp_in ((2 * (rI h1 164 10)) + 1) 1024 ∧ (zlV M_X11_setsOff 132 [some (.ref 164), some (.int x1), some (.int x2), some (.int x3), some (.int x4), some (.int x5), some (.int x6), some (.int (x7 + 1))] [] (wI (wI (wI h1 171 ((Int32.toNatClampNeg (2 * (rI h1 164 10)))) x5) 171 ((Int32.toNatClampNeg ((2 * (rI h1 164 10)) + 1))) (-1)) 164 10 ((rI h1 164 10) + 1)) Q)))))) ∧ (vh1 = 0 → (zlV M_X11_setsOff 132 [some (.ref 164), some (.int x1), some (.int x2), some (.int x3), some (.int x4), some (.int x5), some (.int x6), some (.int (x7 + 1))] [] h1 Q))))))) : zlV M_X11_setsOff 132 [some (.ref 164), some (.int x1), some (.int x2), some (.int x3), some (.int x4), some (.int x5), some (.int x6), some (.int x7)] [] h Q := by
  refine z_iload (pc := 132) dX11_setsOff_132 rfl ?_
  refine z_bipush (pc := 134) (v := 8) dX11_setsOff_134 (by decide) ?_
  refine z_icmp_ge (pc := 136) (tgt := 205) dX11_setsOff_136 (by decide) (fun k7 => ?_) (fun k7 => ?_)
  · replace F := F.1 k7
    refine z_iinc (pc := 205) (v := x5 + 1) (ls' := [some (.ref 164), some (.int x1), some (.int x2), some (.int x3), some (.int x4), some (.int (x5 + 1)), some (.int x6), some (.int x7)]) dX11_setsOff_205 (by decide) rfl rfl rfl ?_
    refine z_goto (pc := 208) (tgt := 44) dX11_setsOff_208 (by decide) ?_
    exact q_sub (ls' := [some (.ref 164), some (.int x1), some (.int x2), some (.int x3), some (.int x4), some (.int (x5 + 1)), none, none]) ⟨rfl, rfl, rfl, rfl, rfl, rfl, trivial⟩ F
  · replace F := F.2 k7
    refine z_iload (pc := 139) dX11_setsOff_139 rfl ?_
    refine z_iload (pc := 141) dX11_setsOff_141 rfl ?_
    refine q_invS (pc := 143) (As := [.int x6, .int x7]) (st := []) dX11_setsOff_143 ok_X11_has ml_RX11_96 st_X11_has pa_X11_has ⟨Nat.le_of_ble_eq_true rfl, Nat.le_of_ble_eq_true rfl⟩ (q_kI F (fun vh1 h1 F => ?_))
    obtain ⟨G1, F⟩ := F
    refine z_if_ne (pc := 146) (tgt := 152) dX11_setsOff_146 (by decide) (fun k6 => ?_) (fun k6 => ?_)
    · replace F := F.1 k6
      refine z_aload_n (pc := 152) dX11_setsOff_152 rfl rfl ?_
      refine q_getR (pc := 153) (i := 171) dX11_setsOff_153 lk_RX11_28 (lyc rfl) (G1 164 9 171 rfl) ?_
      refine z_iconst (pc := 156) (v := 2) dX11_setsOff_156 (by decide) ?_
      refine z_aload_n (pc := 157) dX11_setsOff_157 rfl rfl ?_
      refine q_getI (pc := 158) (v := rI h1 164 10) dX11_setsOff_158 lk_RX11_142 (lyc rfl) rfl ?_
      refine z_imul (pc := 161) dX11_setsOff_161 ?_
      refine z_iload (pc := 162) dX11_setsOff_162 rfl ?_
      obtain ⟨k2, F⟩ := F
      refine q_iast (pc := 164) (j := (Int32.toNatClampNeg (2 * (rI h1 164 10)))) dX11_setsOff_164 (lyc rfl) (zvn (lnc rfl) k2) rfl ?_
      refine z_aload_n (pc := 165) dX11_setsOff_165 rfl rfl ?_
      refine q_getR (pc := 166) (i := 171) dX11_setsOff_166 lk_RX11_28 (lyc rfl) (G1 164 9 171 rfl) ?_
      refine z_iconst (pc := 169) (v := 2) dX11_setsOff_169 (by decide) ?_
      refine z_aload_n (pc := 170) dX11_setsOff_170 rfl rfl ?_
      refine q_getI (pc := 171) (v := rI h1 164 10) dX11_setsOff_171 lk_RX11_142 (lyc rfl) (rI_c (by decide)) ?_
      refine z_imul (pc := 174) dX11_setsOff_174 ?_
      refine z_iconst (pc := 175) (v := 1) dX11_setsOff_175 (by decide) ?_
      refine z_iadd (pc := 176) dX11_setsOff_176 ?_
      refine z_iload_n (pc := 177) dX11_setsOff_177 rfl rfl ?_
      refine z_iconst (pc := 178) (v := 2) dX11_setsOff_178 (by decide) ?_
      refine z_icmp_ne (pc := 179) (tgt := 186) dX11_setsOff_179 (by decide) (fun k5 => ?_) (fun k5 => ?_)
      · replace F := F.1 k5
        refine z_iload (pc := 186) dX11_setsOff_186 rfl ?_
        obtain ⟨k3, F⟩ := F
        refine q_iast (pc := 188) (j := (Int32.toNatClampNeg ((2 * (rI h1 164 10)) + 1))) dX11_setsOff_188 (lyc rfl) (zvn (lnc rfl) k3) rfl ?_
        refine z_aload_n (pc := 189) dX11_setsOff_189 rfl rfl ?_
        refine z_dup (pc := 190) dX11_setsOff_190 rfl ?_
        refine q_getI (pc := 191) (v := rI h1 164 10) dX11_setsOff_191 lk_RX11_142 (lyc rfl) ((rI_c (by decide)).trans (rI_c (by decide))) ?_
        refine z_iconst (pc := 194) (v := 1) dX11_setsOff_194 (by decide) ?_
        refine z_iadd (pc := 195) dX11_setsOff_195 ?_
        refine q_putI (pc := 196) dX11_setsOff_196 lk_RX11_142 (lyc rfl) ?_
        refine z_iinc (pc := 199) (v := x7 + 1) (ls' := [some (.ref 164), some (.int x1), some (.int x2), some (.int x3), some (.int x4), some (.int x5), some (.int x6), some (.int (x7 + 1))]) dX11_setsOff_199 (by decide) rfl rfl rfl ?_
        refine z_goto (pc := 202) (tgt := 132) dX11_setsOff_202 (by decide) ?_
        exact F
      · replace F := F.2 k5
        refine z_iconst (pc := 182) (v := -1) dX11_setsOff_182 (by decide) ?_
        refine z_goto (pc := 183) (tgt := 188) dX11_setsOff_183 (by decide) ?_
        obtain ⟨k4, F⟩ := F
        refine q_iast (pc := 188) (j := (Int32.toNatClampNeg ((2 * (rI h1 164 10)) + 1))) dX11_setsOff_188 (lyc rfl) (zvn (lnc rfl) k4) rfl ?_
        refine z_aload_n (pc := 189) dX11_setsOff_189 rfl rfl ?_
        refine z_dup (pc := 190) dX11_setsOff_190 rfl ?_
        refine q_getI (pc := 191) (v := rI h1 164 10) dX11_setsOff_191 lk_RX11_142 (lyc rfl) ((rI_c (by decide)).trans (rI_c (by decide))) ?_
        refine z_iconst (pc := 194) (v := 1) dX11_setsOff_194 (by decide) ?_
        refine z_iadd (pc := 195) dX11_setsOff_195 ?_
        refine q_putI (pc := 196) dX11_setsOff_196 lk_RX11_142 (lyc rfl) ?_
        refine z_iinc (pc := 199) (v := x7 + 1) (ls' := [some (.ref 164), some (.int x1), some (.int x2), some (.int x3), some (.int x4), some (.int x5), some (.int x6), some (.int (x7 + 1))]) dX11_setsOff_199 (by decide) rfl rfl rfl ?_
        refine z_goto (pc := 202) (tgt := 132) dX11_setsOff_202 (by decide) ?_
        exact F
    · replace F := F.2 k6
      refine z_goto (pc := 149) (tgt := 199) dX11_setsOff_149 (by decide) ?_
      refine z_iinc (pc := 199) (v := x7 + 1) (ls' := [some (.ref 164), some (.int x1), some (.int x2), some (.int x3), some (.int x4), some (.int x5), some (.int x6), some (.int (x7 + 1))]) dX11_setsOff_199 (by decide) rfl rfl rfl ?_
      refine z_goto (pc := 202) (tgt := 132) dX11_setsOff_202 (by decide) ?_
      exact F
theorem g_X11_rounds  {h : zHp} {Q : zHp → Prop}  (G : zG h) (F : zlV M_X11_rounds 2 [some (.ref 164), some (.int 1), none, none] [] h Q) : zcV M_X11_rounds [.ref 164] h Q := by
  show zw zNT zNT M_X11_rounds 0 [some (.ref 164), none, none, none] [] h _
  refine z_iconst (pc := 0) (v := 1) dX11_rounds_0 (by decide) ?_
  refine z_istore_n (pc := 1) (ls' := [some (.ref 164), some (.int 1), none, none]) dX11_rounds_1 rfl (by decide) rfl ?_
  exact F
theorem g_X11_rounds_2 {x1 : Int32} {h : zHp} {Q : zHp → Prop}  (G : zG h) (F : (x1 = 0 → (Q h)) ∧ (¬ (x1 = 0) → (zcV M_X11_makes [.ref 164, .int 5] h (fun h1 => zG h1 ∧ (zlV M_X11_rounds 15 [some (.ref 164), some (.int 0), some (.int 0), none] [] h1 Q))))) : zlV M_X11_rounds 2 [some (.ref 164), some (.int x1), none, none] [] h Q := by
  refine z_iload_n (pc := 2) dX11_rounds_2 rfl rfl ?_
  refine z_if_eq (pc := 3) (tgt := 163) dX11_rounds_3 (by decide) (fun k2 => ?_) (fun k2 => ?_)
  · replace F := F.1 k2
    exact q_retV (pc := 163) dX11_rounds_163 rfl F
  · replace F := F.2 k2
    refine z_aload_n (pc := 6) dX11_rounds_6 rfl rfl ?_
    refine z_iconst (pc := 7) (v := 5) dX11_rounds_7 (by decide) ?_
    refine q_invV (pc := 8) (As := [.int 5]) (st := []) dX11_rounds_8 ok_X11_makes ml_RX11_145 iv_X11_makes pa_X11_makes ⟨Nat.le_of_ble_eq_true rfl, Nat.le_of_ble_eq_true rfl⟩ (lyc rfl) (q_kV F (fun h1 F => ?_))
    obtain ⟨G1, F⟩ := F
    refine z_iconst (pc := 11) (v := 0) dX11_rounds_11 (by decide) ?_
    refine z_istore_n (pc := 12) (ls' := [some (.ref 164), some (.int 0), none, none]) dX11_rounds_12 rfl (by decide) rfl ?_
    refine z_iconst (pc := 13) (v := 0) dX11_rounds_13 (by decide) ?_
    refine z_istore_n (pc := 14) (ls' := [some (.ref 164), some (.int 0), some (.int 0), none]) dX11_rounds_14 rfl (by decide) rfl ?_
    exact F
theorem g_X11_rounds_15 {x1 : Int32} {x2 : Int32} {h : zHp} {Q : zHp → Prop}  (G : zG h) (F : (rI h 165 238 ≤ x2 → (zcV M_X11_setsOff [.ref 164, .int 1, .int x1] h (fun h1 => zG h1 ∧ (zlV M_X11_rounds 78 [some (.ref 164), some (.int x1), some (.int 0), none] [] h1 Q)))) ∧ (¬ (rI h 165 238 ≤ x2) → (zcI M_X11_isAlive [.ref 164, .int x2] h (fun vh2 h2 => zG h2 ∧ ((vh2 = 0 → (zlV M_X11_rounds 15 [some (.ref 164), some (.int (x1 ||| 0)), some (.int (x2 + 1)), none] [] h2 Q)) ∧ (¬ (vh2 = 0) → (zcI M_X11_its [.ref 164, .int x2, .int 4] h2 (fun vh3 h3 => zG h3 ∧ (vp_in ((4 * x2) + 3) 32 ∧ ((vh3 < rI h3 168 ((Int32.toNatClampNeg ((4 * x2) + 3))) → (zlV M_X11_rounds 15 [some (.ref 164), some (.int (x1 ||| 0)), some (.int (x2 + 1)), none] [] h3 Q)) ∧ (¬ (vh3 < rI h3 168 ((Int32.toNatClampNeg ((4 * x2) + 3)))) → (zlV M_X11_rounds 15 [some (.ref 164), some (.int (x1 ||| (1 <<< (x2 &&& 31)))), some (.int (x2 + 1)), none] [] h3 Q)))))))))))) : zlV M_X11_rounds 15 [some (.ref 164), some (.int x1), some (.int x2), none] [] h Q := by
  refine z_iload_n (pc := 15) dX11_rounds_15 rfl rfl ?_
  refine z_aload_n (pc := 16) dX11_rounds_16 rfl rfl ?_
  refine q_getR (pc := 17) (i := 165) dX11_rounds_17 lk_RX11_7 (lyc rfl) (G 164 0 165 rfl) ?_
  refine z_sipush (pc := 20) (v := 238) dX11_rounds_20 (by decide) ?_
  refine q_iald (pc := 23) (j := 238) (v := rI h 165 238) dX11_rounds_23 (lyc rfl) (zvl (lnc rfl) (by decide)) (by decide) rfl ?_
  refine z_icmp_ge (pc := 24) (tgt := 70) dX11_rounds_24 (by decide) (fun k7 => ?_) (fun k7 => ?_)
  · replace F := F.1 k7
    refine z_aload_n (pc := 70) dX11_rounds_70 rfl rfl ?_
    refine z_iconst (pc := 71) (v := 1) dX11_rounds_71 (by decide) ?_
    refine z_iload_n (pc := 72) dX11_rounds_72 rfl rfl ?_
    refine q_invV (pc := 73) (As := [.int 1, .int x1]) (st := []) dX11_rounds_73 ok_X11_setsOff ml_RX11_149 iv_X11_setsOff pa_X11_setsOff ⟨Nat.le_of_ble_eq_true rfl, Nat.le_of_ble_eq_true rfl⟩ (lyc rfl) (q_kV F (fun h1 F => ?_))
    obtain ⟨G1, F⟩ := F
    refine z_iconst (pc := 76) (v := 0) dX11_rounds_76 (by decide) ?_
    refine z_istore_n (pc := 77) (ls' := [some (.ref 164), some (.int x1), some (.int 0), none]) dX11_rounds_77 rfl (by decide) rfl ?_
    exact F
  · replace F := F.2 k7
    refine z_iload_n (pc := 27) dX11_rounds_27 rfl rfl ?_
    refine z_aload_n (pc := 28) dX11_rounds_28 rfl rfl ?_
    refine z_iload_n (pc := 29) dX11_rounds_29 rfl rfl ?_
    refine q_invV (pc := 30) (As := [.int x2]) (st := [.int x1]) dX11_rounds_30 ok_X11_isAlive ml_RX11_100 iv_X11_isAlive pa_X11_isAlive ⟨Nat.le_of_ble_eq_true rfl, Nat.le_of_ble_eq_true rfl⟩ (lyc rfl) (q_kI F (fun vh2 h2 F => ?_))
    obtain ⟨G2, F⟩ := F
    refine z_if_eq (pc := 33) (tgt := 61) dX11_rounds_33 (by decide) (fun k6 => ?_) (fun k6 => ?_)
    · replace F := F.1 k6
      refine z_iconst (pc := 61) (v := 0) dX11_rounds_61 (by decide) ?_
      refine z_ior (pc := 62) dX11_rounds_62 ?_
      refine z_istore_n (pc := 63) (ls' := [some (.ref 164), some (.int (x1 ||| 0)), some (.int x2), none]) dX11_rounds_63 rfl (by decide) rfl ?_
      refine z_iinc (pc := 64) (v := x2 + 1) (ls' := [some (.ref 164), some (.int (x1 ||| 0)), some (.int (x2 + 1)), none]) dX11_rounds_64 (by decide) rfl rfl rfl ?_
      refine z_goto (pc := 67) (tgt := 15) dX11_rounds_67 (by decide) ?_
      exact F
    · replace F := F.2 k6
      refine z_aload_n (pc := 36) dX11_rounds_36 rfl rfl ?_
      refine z_iload_n (pc := 37) dX11_rounds_37 rfl rfl ?_
      refine z_iconst (pc := 38) (v := 4) dX11_rounds_38 (by decide) ?_
      refine q_invV (pc := 39) (As := [.int x2, .int 4]) (st := [.int x1]) dX11_rounds_39 ok_X11_its ml_RX11_92 iv_X11_its pa_X11_its ⟨Nat.le_of_ble_eq_true rfl, Nat.le_of_ble_eq_true rfl⟩ (lyc rfl) (q_kI F (fun vh3 h3 F => ?_))
      obtain ⟨G3, F⟩ := F
      refine z_aload_n (pc := 42) dX11_rounds_42 rfl rfl ?_
      refine q_getR (pc := 43) (i := 168) dX11_rounds_43 lk_RX11_19 (lyc rfl) (G3 164 4 168 rfl) ?_
      refine z_iconst (pc := 46) (v := 4) dX11_rounds_46 (by decide) ?_
      refine z_iload_n (pc := 47) dX11_rounds_47 rfl rfl ?_
      refine z_imul (pc := 48) dX11_rounds_48 ?_
      refine z_iconst (pc := 49) (v := 3) dX11_rounds_49 (by decide) ?_
      refine z_iadd (pc := 50) dX11_rounds_50 ?_
      obtain ⟨k4, F⟩ := F
      refine q_iald (pc := 51) (j := (Int32.toNatClampNeg ((4 * x2) + 3))) (v := rI h3 168 ((Int32.toNatClampNeg ((4 * x2) + 3)))) dX11_rounds_51 (lyc rfl) (zvn (lnc rfl) k4) rfl rfl ?_
      refine z_icmp_lt (pc := 52) (tgt := 61) dX11_rounds_52 (by decide) (fun k5 => ?_) (fun k5 => ?_)
      · replace F := F.1 k5
        refine z_iconst (pc := 61) (v := 0) dX11_rounds_61 (by decide) ?_
        refine z_ior (pc := 62) dX11_rounds_62 ?_
        refine z_istore_n (pc := 63) (ls' := [some (.ref 164), some (.int (x1 ||| 0)), some (.int x2), none]) dX11_rounds_63 rfl (by decide) rfl ?_
        refine z_iinc (pc := 64) (v := x2 + 1) (ls' := [some (.ref 164), some (.int (x1 ||| 0)), some (.int (x2 + 1)), none]) dX11_rounds_64 (by decide) rfl rfl rfl ?_
        refine z_goto (pc := 67) (tgt := 15) dX11_rounds_67 (by decide) ?_
        exact F
      · replace F := F.2 k5
        refine z_iconst (pc := 55) (v := 1) dX11_rounds_55 (by decide) ?_
        refine z_iload_n (pc := 56) dX11_rounds_56 rfl rfl ?_
        refine z_ishl (pc := 57) dX11_rounds_57 ?_
        refine z_goto (pc := 58) (tgt := 62) dX11_rounds_58 (by decide) ?_
        refine z_ior (pc := 62) dX11_rounds_62 ?_
        refine z_istore_n (pc := 63) (ls' := [some (.ref 164), some (.int (x1 ||| (1 <<< (x2 &&& 31)))), some (.int x2), none]) dX11_rounds_63 rfl (by decide) rfl ?_
        refine z_iinc (pc := 64) (v := x2 + 1) (ls' := [some (.ref 164), some (.int (x1 ||| (1 <<< (x2 &&& 31)))), some (.int (x2 + 1)), none]) dX11_rounds_64 (by decide) rfl rfl rfl ?_
        refine z_goto (pc := 67) (tgt := 15) dX11_rounds_67 (by decide) ?_
        exact F
theorem g_X11_rounds_78 {x1 : Int32} {x2 : Int32} {h : zHp} {Q : zHp → Prop}  (G : zG h) (F : (rI h 165 238 ≤ x2 → (zlV M_X11_rounds 2 [some (.ref 164), some (.int x1), none, none] [] h Q)) ∧ (¬ (rI h 165 238 ≤ x2) → (zcI M_X11_has [.int x1, .int x2] h (fun vh1 h1 => zG h1 ∧ ((¬ vh1 = 0 → (vp_in ((0 + (10 * x2)) + 5) 246 ∧ (zlV M_X11_rounds 117 [some (.ref 164), some (.int x1), some (.int x2), some (.int 0)] [] (wI h1 165 ((Int32.toNatClampNeg ((0 + (10 * x2)) + 5))) 0) Q))) ∧ (vh1 = 0 → (zlV M_X11_rounds 78 [some (.ref 164), some (.int x1), some (.int (x2 + 1)), none] [] h1 Q))))))) : zlV M_X11_rounds 78 [some (.ref 164), some (.int x1), some (.int x2), none] [] h Q := by
  refine z_iload_n (pc := 78) dX11_rounds_78 rfl rfl ?_
  refine z_aload_n (pc := 79) dX11_rounds_79 rfl rfl ?_
  refine q_getR (pc := 80) (i := 165) dX11_rounds_80 lk_RX11_7 (lyc rfl) (G 164 0 165 rfl) ?_
  refine z_sipush (pc := 83) (v := 238) dX11_rounds_83 (by decide) ?_
  refine q_iald (pc := 86) (j := 238) (v := rI h 165 238) dX11_rounds_86 (lyc rfl) (zvl (lnc rfl) (by decide)) (by decide) rfl ?_
  refine z_icmp_ge (pc := 87) (tgt := 160) dX11_rounds_87 (by decide) (fun k4 => ?_) (fun k4 => ?_)
  · replace F := F.1 k4
    refine z_goto (pc := 160) (tgt := 2) dX11_rounds_160 (by decide) ?_
    exact q_sub (ls' := [some (.ref 164), some (.int x1), none, none]) ⟨rfl, rfl, trivial⟩ F
  · replace F := F.2 k4
    refine z_iload_n (pc := 90) dX11_rounds_90 rfl rfl ?_
    refine z_iload_n (pc := 91) dX11_rounds_91 rfl rfl ?_
    refine q_invS (pc := 92) (As := [.int x1, .int x2]) (st := []) dX11_rounds_92 ok_X11_has ml_RX11_96 st_X11_has pa_X11_has ⟨Nat.le_of_ble_eq_true rfl, Nat.le_of_ble_eq_true rfl⟩ (q_kI F (fun vh1 h1 F => ?_))
    obtain ⟨G1, F⟩ := F
    refine z_if_ne (pc := 95) (tgt := 101) dX11_rounds_95 (by decide) (fun k3 => ?_) (fun k3 => ?_)
    · replace F := F.1 k3
      refine z_aload_n (pc := 101) dX11_rounds_101 rfl rfl ?_
      refine q_getR (pc := 102) (i := 165) dX11_rounds_102 lk_RX11_7 (lyc rfl) (G1 164 0 165 rfl) ?_
      refine z_iconst (pc := 105) (v := 0) dX11_rounds_105 (by decide) ?_
      refine z_bipush (pc := 106) (v := 10) dX11_rounds_106 (by decide) ?_
      refine z_iload_n (pc := 108) dX11_rounds_108 rfl rfl ?_
      refine z_imul (pc := 109) dX11_rounds_109 ?_
      refine z_iadd (pc := 110) dX11_rounds_110 ?_
      refine z_iconst (pc := 111) (v := 5) dX11_rounds_111 (by decide) ?_
      refine z_iadd (pc := 112) dX11_rounds_112 ?_
      refine z_iconst (pc := 113) (v := 0) dX11_rounds_113 (by decide) ?_
      obtain ⟨k2, F⟩ := F
      refine q_iast (pc := 114) (j := (Int32.toNatClampNeg ((0 + (10 * x2)) + 5))) dX11_rounds_114 (lyc rfl) (zvn (lnc rfl) k2) rfl ?_
      refine z_iconst (pc := 115) (v := 0) dX11_rounds_115 (by decide) ?_
      refine z_istore_n (pc := 116) (ls' := [some (.ref 164), some (.int x1), some (.int x2), some (.int 0)]) dX11_rounds_116 rfl (by decide) rfl ?_
      exact F
    · replace F := F.2 k3
      refine z_goto (pc := 98) (tgt := 154) dX11_rounds_98 (by decide) ?_
      refine z_iinc (pc := 154) (v := x2 + 1) (ls' := [some (.ref 164), some (.int x1), some (.int (x2 + 1)), none]) dX11_rounds_154 (by decide) rfl rfl rfl ?_
      refine z_goto (pc := 157) (tgt := 78) dX11_rounds_157 (by decide) ?_
      exact F
theorem g_X11_rounds_117 {x1 : Int32} {x2 : Int32} {x3 : Int32} {h : zHp} {Q : zHp → Prop}  (G : zG h) (F : (4 ≤ x3 → (zlV M_X11_rounds 78 [some (.ref 164), some (.int x1), some (.int (x2 + 1)), none] [] h Q)) ∧ (¬ (4 ≤ x3) → (vp_in ((4 * x2) + x3) 32 ∧ (vp_in (((0 + (10 * x2)) + 6) + x3) 246 ∧ (zlV M_X11_rounds 117 [some (.ref 164), some (.int x1), some (.int x2), some (.int (x3 + 1))] [] (wI h 165 ((Int32.toNatClampNeg (((0 + (10 * x2)) + 6) + x3))) (rI h 168 ((Int32.toNatClampNeg ((4 * x2) + x3))))) Q))))) : zlV M_X11_rounds 117 [some (.ref 164), some (.int x1), some (.int x2), some (.int x3)] [] h Q := by
  refine z_iload_n (pc := 117) dX11_rounds_117 rfl rfl ?_
  refine z_iconst (pc := 118) (v := 4) dX11_rounds_118 (by decide) ?_
  refine z_icmp_ge (pc := 119) (tgt := 154) dX11_rounds_119 (by decide) (fun k3 => ?_) (fun k3 => ?_)
  · replace F := F.1 k3
    refine z_iinc (pc := 154) (v := x2 + 1) (ls' := [some (.ref 164), some (.int x1), some (.int (x2 + 1)), some (.int x3)]) dX11_rounds_154 (by decide) rfl rfl rfl ?_
    refine z_goto (pc := 157) (tgt := 78) dX11_rounds_157 (by decide) ?_
    exact q_sub (ls' := [some (.ref 164), some (.int x1), some (.int (x2 + 1)), none]) ⟨rfl, rfl, rfl, trivial⟩ F
  · replace F := F.2 k3
    refine z_aload_n (pc := 122) dX11_rounds_122 rfl rfl ?_
    refine q_getR (pc := 123) (i := 165) dX11_rounds_123 lk_RX11_7 (lyc rfl) (G 164 0 165 rfl) ?_
    refine z_iconst (pc := 126) (v := 0) dX11_rounds_126 (by decide) ?_
    refine z_bipush (pc := 127) (v := 10) dX11_rounds_127 (by decide) ?_
    refine z_iload_n (pc := 129) dX11_rounds_129 rfl rfl ?_
    refine z_imul (pc := 130) dX11_rounds_130 ?_
    refine z_iadd (pc := 131) dX11_rounds_131 ?_
    refine z_bipush (pc := 132) (v := 6) dX11_rounds_132 (by decide) ?_
    refine z_iadd (pc := 134) dX11_rounds_134 ?_
    refine z_iload_n (pc := 135) dX11_rounds_135 rfl rfl ?_
    refine z_iadd (pc := 136) dX11_rounds_136 ?_
    refine z_aload_n (pc := 137) dX11_rounds_137 rfl rfl ?_
    refine q_getR (pc := 138) (i := 168) dX11_rounds_138 lk_RX11_19 (lyc rfl) (G 164 4 168 rfl) ?_
    refine z_iconst (pc := 141) (v := 4) dX11_rounds_141 (by decide) ?_
    refine z_iload_n (pc := 142) dX11_rounds_142 rfl rfl ?_
    refine z_imul (pc := 143) dX11_rounds_143 ?_
    refine z_iload_n (pc := 144) dX11_rounds_144 rfl rfl ?_
    refine z_iadd (pc := 145) dX11_rounds_145 ?_
    obtain ⟨k1, F⟩ := F
    refine q_iald (pc := 146) (j := (Int32.toNatClampNeg ((4 * x2) + x3))) (v := rI h 168 ((Int32.toNatClampNeg ((4 * x2) + x3)))) dX11_rounds_146 (lyc rfl) (zvn (lnc rfl) k1) rfl rfl ?_
    obtain ⟨k2, F⟩ := F
    refine q_iast (pc := 147) (j := (Int32.toNatClampNeg (((0 + (10 * x2)) + 6) + x3))) dX11_rounds_147 (lyc rfl) (zvn (lnc rfl) k2) rfl ?_
    refine z_iinc (pc := 148) (v := x3 + 1) (ls' := [some (.ref 164), some (.int x1), some (.int x2), some (.int (x3 + 1))]) dX11_rounds_148 (by decide) rfl rfl rfl ?_
    refine z_goto (pc := 151) (tgt := 117) dX11_rounds_151 (by decide) ?_
    exact F
theorem g_X11_changed {x1 : Int32} {h : zHp} {Q : Int32 → zHp → Prop}  (G : zG h) (F : zcV M_X11_rounds [.ref 164] (wI h 164 8 0) (fun h1 => zG h1 ∧ (Q x1 h1))) : zcI M_X11_changed [.ref 164, .int x1] h Q := by
  show zw zNT zNT M_X11_changed 0 [some (.ref 164), some (.int x1)] [] h _
  refine z_aload_n (pc := 0) dX11_changed_0 rfl rfl ?_
  refine z_iconst (pc := 1) (v := 0) dX11_changed_1 (by decide) ?_
  refine q_putB (pc := 2) dX11_changed_2 lk_RX11_135 (lyc rfl) (Or.inl rfl) ?_
  refine z_aload_n (pc := 5) dX11_changed_5 rfl rfl ?_
  refine q_invV (pc := 6) (As := []) (st := []) dX11_changed_6 ok_X11_rounds ml_RX11_153 iv_X11_rounds pa_X11_rounds ⟨Nat.le_of_ble_eq_true rfl, Nat.le_of_ble_eq_true rfl⟩ (lyc rfl) (q_kV F (fun h1 F => ?_))
  obtain ⟨G1, F⟩ := F
  refine z_iload_n (pc := 9) dX11_changed_9 rfl rfl ?_
  exact q_retI (pc := 10) dX11_changed_10 rfl F
theorem g_X11_isNow {x1 : Int32} {x2 : Int32} {h : zHp} {Q : Int32 → zHp → Prop}  (G : zG h) (F : zcI M_X11_isAlive [.ref 164, .int x1] h (fun vh1 h1 => zG h1 ∧ ((vh1 = 0 → (zcI M_X11_its [.ref 164, .int x1, .int (6 + x2)] h1 (fun vh2 h2 => zG h2 ∧ (Q vh2 h2)))) ∧ (¬ (vh1 = 0) → (vp_in ((4 * x1) + x2) 32 ∧ (Q (rI h1 168 ((Int32.toNatClampNeg ((4 * x1) + x2)))) h1)))))) : zcI M_X11_isNow [.ref 164, .int x1, .int x2] h Q := by
  show zw zNT zNT M_X11_isNow 0 [some (.ref 164), some (.int x1), some (.int x2)] [] h _
  refine z_aload_n (pc := 0) dX11_isNow_0 rfl rfl ?_
  refine z_iload_n (pc := 1) dX11_isNow_1 rfl rfl ?_
  refine q_invV (pc := 2) (As := [.int x1]) (st := []) dX11_isNow_2 ok_X11_isAlive ml_RX11_100 iv_X11_isAlive pa_X11_isAlive ⟨Nat.le_of_ble_eq_true rfl, Nat.le_of_ble_eq_true rfl⟩ (lyc rfl) (q_kI F (fun vh1 h1 F => ?_))
  obtain ⟨G1, F⟩ := F
  refine z_if_eq (pc := 5) (tgt := 21) dX11_isNow_5 (by decide) (fun k4 => ?_) (fun k4 => ?_)
  · replace F := F.1 k4
    refine z_aload_n (pc := 21) dX11_isNow_21 rfl rfl ?_
    refine z_iload_n (pc := 22) dX11_isNow_22 rfl rfl ?_
    refine z_bipush (pc := 23) (v := 6) dX11_isNow_23 (by decide) ?_
    refine z_iload_n (pc := 25) dX11_isNow_25 rfl rfl ?_
    refine z_iadd (pc := 26) dX11_isNow_26 ?_
    refine q_invV (pc := 27) (As := [.int x1, .int (6 + x2)]) (st := []) dX11_isNow_27 ok_X11_its ml_RX11_92 iv_X11_its pa_X11_its ⟨Nat.le_of_ble_eq_true rfl, Nat.le_of_ble_eq_true rfl⟩ (lyc rfl) (q_kI F (fun vh2 h2 F => ?_))
    obtain ⟨G2, F⟩ := F
    exact q_retI (pc := 30) dX11_isNow_30 rfl F
  · replace F := F.2 k4
    refine z_aload_n (pc := 8) dX11_isNow_8 rfl rfl ?_
    refine q_getR (pc := 9) (i := 168) dX11_isNow_9 lk_RX11_19 (lyc rfl) (G1 164 4 168 rfl) ?_
    refine z_iconst (pc := 12) (v := 4) dX11_isNow_12 (by decide) ?_
    refine z_iload_n (pc := 13) dX11_isNow_13 rfl rfl ?_
    refine z_imul (pc := 14) dX11_isNow_14 ?_
    refine z_iload_n (pc := 15) dX11_isNow_15 rfl rfl ?_
    refine z_iadd (pc := 16) dX11_isNow_16 ?_
    obtain ⟨k3, F⟩ := F
    refine q_iald (pc := 17) (j := (Int32.toNatClampNeg ((4 * x1) + x2))) (v := rI h1 168 ((Int32.toNatClampNeg ((4 * x1) + x2)))) dX11_isNow_17 (lyc rfl) (zvn (lnc rfl) k3) rfl rfl ?_
    refine z_goto (pc := 18) (tgt := 30) dX11_isNow_18 (by decide) ?_
    exact q_retI (pc := 30) dX11_isNow_30 rfl F
theorem g_X11_clear  {h : zHp} {Q : Int32 → zHp → Prop}  (G : zG h) (F : zlI M_X11_clear 20 [some (.ref 164), some (.int (rI h 165 238)), some (.int (rI h 165 245)), some (.int 0)] [] h Q) : zcI M_X11_clear [.ref 164] h Q := by
  show zw zNT zNT M_X11_clear 0 [some (.ref 164), none, none, none] [] h _
  refine z_aload_n (pc := 0) dX11_clear_0 rfl rfl ?_
  refine q_getR (pc := 1) (i := 165) dX11_clear_1 lk_RX11_7 (lyc rfl) (G 164 0 165 rfl) ?_
  refine z_sipush (pc := 4) (v := 238) dX11_clear_4 (by decide) ?_
  refine q_iald (pc := 7) (j := 238) (v := rI h 165 238) dX11_clear_7 (lyc rfl) (zvl (lnc rfl) (by decide)) (by decide) rfl ?_
  refine z_istore_n (pc := 8) (ls' := [some (.ref 164), some (.int (rI h 165 238)), none, none]) dX11_clear_8 rfl (by decide) rfl ?_
  refine z_aload_n (pc := 9) dX11_clear_9 rfl rfl ?_
  refine q_getR (pc := 10) (i := 165) dX11_clear_10 lk_RX11_7 (lyc rfl) (G 164 0 165 rfl) ?_
  refine z_sipush (pc := 13) (v := 245) dX11_clear_13 (by decide) ?_
  refine q_iald (pc := 16) (j := 245) (v := rI h 165 245) dX11_clear_16 (lyc rfl) (zvl (lnc rfl) (by decide)) (by decide) rfl ?_
  refine z_istore_n (pc := 17) (ls' := [some (.ref 164), some (.int (rI h 165 238)), some (.int (rI h 165 245)), none]) dX11_clear_17 rfl (by decide) rfl ?_
  refine z_iconst (pc := 18) (v := 0) dX11_clear_18 (by decide) ?_
  refine z_istore_n (pc := 19) (ls' := [some (.ref 164), some (.int (rI h 165 238)), some (.int (rI h 165 245)), some (.int 0)]) dX11_clear_19 rfl (by decide) rfl ?_
  exact F
theorem g_X11_clear_20 {x1 : Int32} {x2 : Int32} {x3 : Int32} {h : zHp} {Q : Int32 → zHp → Prop}  (G : zG h) (F : (246 ≤ x3 → (Q x1 (wI (wI h 165 245 x2) 164 19 0))) ∧ (¬ (246 ≤ x3) → (vp_in x3 246 ∧ (zlI M_X11_clear 20 [some (.ref 164), some (.int x1), some (.int x2), some (.int (x3 + 1))] [] (wI h 165 ((Int32.toNatClampNeg x3)) 0) Q)))) : zlI M_X11_clear 20 [some (.ref 164), some (.int x1), some (.int x2), some (.int x3)] [] h Q := by
  refine z_iload_n (pc := 20) dX11_clear_20 rfl rfl ?_
  refine z_sipush (pc := 21) (v := 246) dX11_clear_21 (by decide) ?_
  refine z_icmp_ge (pc := 24) (tgt := 40) dX11_clear_24 (by decide) (fun k2 => ?_) (fun k2 => ?_)
  · replace F := F.1 k2
    refine z_aload_n (pc := 40) dX11_clear_40 rfl rfl ?_
    refine q_getR (pc := 41) (i := 165) dX11_clear_41 lk_RX11_7 (lyc rfl) (G 164 0 165 rfl) ?_
    refine z_sipush (pc := 44) (v := 245) dX11_clear_44 (by decide) ?_
    refine z_iload_n (pc := 47) dX11_clear_47 rfl rfl ?_
    refine q_iast (pc := 48) (j := 245) dX11_clear_48 (lyc rfl) (zvl (lnc rfl) (by decide)) (by decide) ?_
    refine z_aload_n (pc := 49) dX11_clear_49 rfl rfl ?_
    refine z_iconst (pc := 50) (v := 0) dX11_clear_50 (by decide) ?_
    refine q_putI (pc := 51) dX11_clear_51 lk_RX11_156 (lyc rfl) ?_
    refine z_iload_n (pc := 54) dX11_clear_54 rfl rfl ?_
    exact q_retI (pc := 55) dX11_clear_55 rfl F
  · replace F := F.2 k2
    refine z_aload_n (pc := 27) dX11_clear_27 rfl rfl ?_
    refine q_getR (pc := 28) (i := 165) dX11_clear_28 lk_RX11_7 (lyc rfl) (G 164 0 165 rfl) ?_
    refine z_iload_n (pc := 31) dX11_clear_31 rfl rfl ?_
    refine z_iconst (pc := 32) (v := 0) dX11_clear_32 (by decide) ?_
    obtain ⟨k1, F⟩ := F
    refine q_iast (pc := 33) (j := (Int32.toNatClampNeg x3)) dX11_clear_33 (lyc rfl) (zvn (lnc rfl) k1) rfl ?_
    refine z_iinc (pc := 34) (v := x3 + 1) (ls' := [some (.ref 164), some (.int x1), some (.int x2), some (.int (x3 + 1))]) dX11_clear_34 (by decide) rfl rfl rfl ?_
    refine z_goto (pc := 37) (tgt := 20) dX11_clear_37 (by decide) ?_
    exact F
theorem g_X11_areGood {x0 : Int32} {x1 : Int32} {x2 : Int32} {x3 : Int32} {h : zHp} {Q : Int32 → zHp → Prop}  (G : zG h) (F : zcI M_X11_in [.int x0, .int 0, .int 1] h (fun vh1 h1 => zG h1 ∧ ((vh1 = 0 → (Q 0 h1)) ∧ (¬ (vh1 = 0) → (zcI M_X11_in [.int x1, .int 0, .int 5] h1 (fun vh2 h2 => zG h2 ∧ ((vh2 = 0 → (Q 0 h2)) ∧ (¬ (vh2 = 0) → (zcI M_X11_in [.int x2, .int 0, .int 99] h2 (fun vh3 h3 => zG h3 ∧ ((vh3 = 0 → (Q 0 h3)) ∧ (¬ (vh3 = 0) → (zcI M_X11_in [.int x3, .int 0, .int 99] h3 (fun vh4 h4 => zG h4 ∧ ((vh4 = 0 → (Q 0 h4)) ∧ (¬ (vh4 = 0) → (Q 1 h4))))))))))))))))) : zcI M_X11_areGood [.int x0, .int x1, .int x2, .int x3] h Q := by
  show zw zNT zNT M_X11_areGood 0 [some (.int x0), some (.int x1), some (.int x2), some (.int x3)] [] h _
  refine z_iload_n (pc := 0) dX11_areGood_0 rfl rfl ?_
  refine z_iconst (pc := 1) (v := 0) dX11_areGood_1 (by decide) ?_
  refine z_iconst (pc := 2) (v := 1) dX11_areGood_2 (by decide) ?_
  refine q_invS (pc := 3) (As := [.int x0, .int 0, .int 1]) (st := []) dX11_areGood_3 ok_X11_in ml_RX11_84 st_X11_in pa_X11_in ⟨Nat.le_of_ble_eq_true rfl, Nat.le_of_ble_eq_true rfl⟩ (q_kI F (fun vh1 h1 F => ?_))
  obtain ⟨G1, F⟩ := F
  refine z_if_eq (pc := 6) (tgt := 42) dX11_areGood_6 (by decide) (fun k8 => ?_) (fun k8 => ?_)
  · replace F := F.1 k8
    refine z_iconst (pc := 42) (v := 0) dX11_areGood_42 (by decide) ?_
    exact q_retB (pc := 43) dX11_areGood_43 rfl (Or.inl rfl) F
  · replace F := F.2 k8
    refine z_iload_n (pc := 9) dX11_areGood_9 rfl rfl ?_
    refine z_iconst (pc := 10) (v := 0) dX11_areGood_10 (by decide) ?_
    refine z_iconst (pc := 11) (v := 5) dX11_areGood_11 (by decide) ?_
    refine q_invS (pc := 12) (As := [.int x1, .int 0, .int 5]) (st := []) dX11_areGood_12 ok_X11_in ml_RX11_84 st_X11_in pa_X11_in ⟨Nat.le_of_ble_eq_true rfl, Nat.le_of_ble_eq_true rfl⟩ (q_kI F (fun vh2 h2 F => ?_))
    obtain ⟨G2, F⟩ := F
    refine z_if_eq (pc := 15) (tgt := 42) dX11_areGood_15 (by decide) (fun k7 => ?_) (fun k7 => ?_)
    · replace F := F.1 k7
      refine z_iconst (pc := 42) (v := 0) dX11_areGood_42 (by decide) ?_
      exact q_retB (pc := 43) dX11_areGood_43 rfl (Or.inl rfl) F
    · replace F := F.2 k7
      refine z_iload_n (pc := 18) dX11_areGood_18 rfl rfl ?_
      refine z_iconst (pc := 19) (v := 0) dX11_areGood_19 (by decide) ?_
      refine z_bipush (pc := 20) (v := 99) dX11_areGood_20 (by decide) ?_
      refine q_invS (pc := 22) (As := [.int x2, .int 0, .int 99]) (st := []) dX11_areGood_22 ok_X11_in ml_RX11_84 st_X11_in pa_X11_in ⟨Nat.le_of_ble_eq_true rfl, Nat.le_of_ble_eq_true rfl⟩ (q_kI F (fun vh3 h3 F => ?_))
      obtain ⟨G3, F⟩ := F
      refine z_if_eq (pc := 25) (tgt := 42) dX11_areGood_25 (by decide) (fun k6 => ?_) (fun k6 => ?_)
      · replace F := F.1 k6
        refine z_iconst (pc := 42) (v := 0) dX11_areGood_42 (by decide) ?_
        exact q_retB (pc := 43) dX11_areGood_43 rfl (Or.inl rfl) F
      · replace F := F.2 k6
        refine z_iload_n (pc := 28) dX11_areGood_28 rfl rfl ?_
        refine z_iconst (pc := 29) (v := 0) dX11_areGood_29 (by decide) ?_
        refine z_bipush (pc := 30) (v := 99) dX11_areGood_30 (by decide) ?_
        refine q_invS (pc := 32) (As := [.int x3, .int 0, .int 99]) (st := []) dX11_areGood_32 ok_X11_in ml_RX11_84 st_X11_in pa_X11_in ⟨Nat.le_of_ble_eq_true rfl, Nat.le_of_ble_eq_true rfl⟩ (q_kI F (fun vh4 h4 F => ?_))
        obtain ⟨G4, F⟩ := F
        refine z_if_eq (pc := 35) (tgt := 42) dX11_areGood_35 (by decide) (fun k5 => ?_) (fun k5 => ?_)
        · replace F := F.1 k5
          refine z_iconst (pc := 42) (v := 0) dX11_areGood_42 (by decide) ?_
          exact q_retB (pc := 43) dX11_areGood_43 rfl (Or.inl rfl) F
        · replace F := F.2 k5
          refine z_iconst (pc := 38) (v := 1) dX11_areGood_38 (by decide) ?_
          refine z_goto (pc := 39) (tgt := 43) dX11_areGood_39 (by decide) ?_
          exact q_retB (pc := 43) dX11_areGood_43 rfl (Or.inr rfl) F
theorem g_X11_comes {x1 : Int32} {x2 : Int32} {x3 : Int32} {x4 : Int32} {h : zHp} {Q : zHp → Prop}  (G : zG h) (F : zlV M_X11_comes 18 [some (.ref 164), some (.int x1), some (.int x2), some (.int x3), some (.int x4), some (.int (0 + (10 * (rI h 165 238)))), some (.int 0)] [] h Q) : zcV M_X11_comes [.ref 164, .int x1, .int x2, .int x3, .int x4] h Q := by
  show zw zNT zNT M_X11_comes 0 [some (.ref 164), some (.int x1), some (.int x2), some (.int x3), some (.int x4), none, none] [] h _
  refine z_iconst (pc := 0) (v := 0) dX11_comes_0 (by decide) ?_
  refine z_bipush (pc := 1) (v := 10) dX11_comes_1 (by decide) ?_
  refine z_aload_n (pc := 3) dX11_comes_3 rfl rfl ?_
  refine q_getR (pc := 4) (i := 165) dX11_comes_4 lk_RX11_7 (lyc rfl) (G 164 0 165 rfl) ?_
  refine z_sipush (pc := 7) (v := 238) dX11_comes_7 (by decide) ?_
  refine q_iald (pc := 10) (j := 238) (v := rI h 165 238) dX11_comes_10 (lyc rfl) (zvl (lnc rfl) (by decide)) (by decide) rfl ?_
  refine z_imul (pc := 11) dX11_comes_11 ?_
  refine z_iadd (pc := 12) dX11_comes_12 ?_
  refine z_istore (pc := 13) (ls' := [some (.ref 164), some (.int x1), some (.int x2), some (.int x3), some (.int x4), some (.int (0 + (10 * (rI h 165 238)))), none]) dX11_comes_13 (by decide) rfl ?_
  refine z_iconst (pc := 15) (v := 0) dX11_comes_15 (by decide) ?_
  refine z_istore (pc := 16) (ls' := [some (.ref 164), some (.int x1), some (.int x2), some (.int x3), some (.int x4), some (.int (0 + (10 * (rI h 165 238)))), some (.int 0)]) dX11_comes_16 (by decide) rfl ?_
  exact F
theorem g_X11_comes_18 {x1 : Int32} {x2 : Int32} {x3 : Int32} {x4 : Int32} {x5 : Int32} {x6 : Int32} {h : zHp} {Q : zHp → Prop}  (G : zG h) (F : (10 ≤ x6 → (vp_in x5 246 ∧ (vp_in (x5 + 1) 246 ∧ (vp_in (x5 + 2) 246 ∧ (vp_in (x5 + 3) 246 ∧ (vp_in (x5 + 5) 246 ∧ (Q (wI (wI (wI (wI (wI (wI h 165 ((Int32.toNatClampNeg x5)) x1) 165 ((Int32.toNatClampNeg (x5 + 1))) x2) 165 ((Int32.toNatClampNeg (x5 + 2))) x3) 165 ((Int32.toNatClampNeg (x5 + 3))) x4) 165 ((Int32.toNatClampNeg (x5 + 5))) 1) 165 238 ((rI (wI (wI (wI (wI (wI h 165 ((Int32.toNatClampNeg x5)) x1) 165 ((Int32.toNatClampNeg (x5 + 1))) x2) 165 ((Int32.toNatClampNeg (x5 + 2))) x3) 165 ((Int32.toNatClampNeg (x5 + 3))) x4) 165 ((Int32.toNatClampNeg (x5 + 5))) 1) 165 238) + 1))))))))) ∧ (¬ (10 ≤ x6) → (vp_in (x5 + x6) 246 ∧ (zlV M_X11_comes 18 [some (.ref 164), some (.int x1), some (.int x2), some (.int x3), some (.int x4), some (.int x5), some (.int (x6 + 1))] [] (wI h 165 ((Int32.toNatClampNeg (x5 + x6))) 0) Q)))) : zlV M_X11_comes 18 [some (.ref 164), some (.int x1), some (.int x2), some (.int x3), some (.int x4), some (.int x5), some (.int x6)] [] h Q := by
  refine z_iload (pc := 18) dX11_comes_18 rfl ?_
  refine z_bipush (pc := 20) (v := 10) dX11_comes_20 (by decide) ?_
  refine z_icmp_ge (pc := 22) (tgt := 42) dX11_comes_22 (by decide) (fun k7 => ?_) (fun k7 => ?_)
  · replace F := F.1 k7
    refine z_aload_n (pc := 42) dX11_comes_42 rfl rfl ?_
    refine q_getR (pc := 43) (i := 165) dX11_comes_43 lk_RX11_7 (lyc rfl) (G 164 0 165 rfl) ?_
    refine z_iload (pc := 46) dX11_comes_46 rfl ?_
    refine z_iload_n (pc := 48) dX11_comes_48 rfl rfl ?_
    obtain ⟨k1, F⟩ := F
    refine q_iast (pc := 49) (j := (Int32.toNatClampNeg x5)) dX11_comes_49 (lyc rfl) (zvn (lnc rfl) k1) rfl ?_
    refine z_aload_n (pc := 50) dX11_comes_50 rfl rfl ?_
    refine q_getR (pc := 51) (i := 165) dX11_comes_51 lk_RX11_7 (lyc rfl) (G 164 0 165 rfl) ?_
    refine z_iload (pc := 54) dX11_comes_54 rfl ?_
    refine z_iconst (pc := 56) (v := 1) dX11_comes_56 (by decide) ?_
    refine z_iadd (pc := 57) dX11_comes_57 ?_
    refine z_iload_n (pc := 58) dX11_comes_58 rfl rfl ?_
    obtain ⟨k2, F⟩ := F
    refine q_iast (pc := 59) (j := (Int32.toNatClampNeg (x5 + 1))) dX11_comes_59 (lyc rfl) (zvn (lnc rfl) k2) rfl ?_
    refine z_aload_n (pc := 60) dX11_comes_60 rfl rfl ?_
    refine q_getR (pc := 61) (i := 165) dX11_comes_61 lk_RX11_7 (lyc rfl) (G 164 0 165 rfl) ?_
    refine z_iload (pc := 64) dX11_comes_64 rfl ?_
    refine z_iconst (pc := 66) (v := 2) dX11_comes_66 (by decide) ?_
    refine z_iadd (pc := 67) dX11_comes_67 ?_
    refine z_iload_n (pc := 68) dX11_comes_68 rfl rfl ?_
    obtain ⟨k3, F⟩ := F
    refine q_iast (pc := 69) (j := (Int32.toNatClampNeg (x5 + 2))) dX11_comes_69 (lyc rfl) (zvn (lnc rfl) k3) rfl ?_
    refine z_aload_n (pc := 70) dX11_comes_70 rfl rfl ?_
    refine q_getR (pc := 71) (i := 165) dX11_comes_71 lk_RX11_7 (lyc rfl) (G 164 0 165 rfl) ?_
    refine z_iload (pc := 74) dX11_comes_74 rfl ?_
    refine z_iconst (pc := 76) (v := 3) dX11_comes_76 (by decide) ?_
    refine z_iadd (pc := 77) dX11_comes_77 ?_
    refine z_iload (pc := 78) dX11_comes_78 rfl ?_
    obtain ⟨k4, F⟩ := F
    refine q_iast (pc := 80) (j := (Int32.toNatClampNeg (x5 + 3))) dX11_comes_80 (lyc rfl) (zvn (lnc rfl) k4) rfl ?_
    refine z_aload_n (pc := 81) dX11_comes_81 rfl rfl ?_
    refine q_getR (pc := 82) (i := 165) dX11_comes_82 lk_RX11_7 (lyc rfl) (G 164 0 165 rfl) ?_
    refine z_iload (pc := 85) dX11_comes_85 rfl ?_
    refine z_iconst (pc := 87) (v := 5) dX11_comes_87 (by decide) ?_
    refine z_iadd (pc := 88) dX11_comes_88 ?_
    refine z_iconst (pc := 89) (v := 1) dX11_comes_89 (by decide) ?_
    obtain ⟨k5, F⟩ := F
    refine q_iast (pc := 90) (j := (Int32.toNatClampNeg (x5 + 5))) dX11_comes_90 (lyc rfl) (zvn (lnc rfl) k5) rfl ?_
    refine z_aload_n (pc := 91) dX11_comes_91 rfl rfl ?_
    refine q_getR (pc := 92) (i := 165) dX11_comes_92 lk_RX11_7 (lyc rfl) (G 164 0 165 rfl) ?_
    refine z_sipush (pc := 95) (v := 238) dX11_comes_95 (by decide) ?_
    refine z_dup2 (pc := 98) dX11_comes_98 rfl rfl ?_
    refine q_iald (pc := 99) (j := 238) (v := rI (wI (wI (wI (wI (wI h 165 ((Int32.toNatClampNeg x5)) x1) 165 ((Int32.toNatClampNeg (x5 + 1))) x2) 165 ((Int32.toNatClampNeg (x5 + 2))) x3) 165 ((Int32.toNatClampNeg (x5 + 3))) x4) 165 ((Int32.toNatClampNeg (x5 + 5))) 1) 165 238) dX11_comes_99 (lyc rfl) (zvl (lnc rfl) (by decide)) (by decide) rfl ?_
    refine z_iconst (pc := 100) (v := 1) dX11_comes_100 (by decide) ?_
    refine z_iadd (pc := 101) dX11_comes_101 ?_
    refine q_iast (pc := 102) (j := 238) dX11_comes_102 (lyc rfl) (zvl (lnc rfl) (by decide)) (by decide) ?_
    exact q_retV (pc := 103) dX11_comes_103 rfl F
  · replace F := F.2 k7
    refine z_aload_n (pc := 25) dX11_comes_25 rfl rfl ?_
    refine q_getR (pc := 26) (i := 165) dX11_comes_26 lk_RX11_7 (lyc rfl) (G 164 0 165 rfl) ?_
    refine z_iload (pc := 29) dX11_comes_29 rfl ?_
    refine z_iload (pc := 31) dX11_comes_31 rfl ?_
    refine z_iadd (pc := 33) dX11_comes_33 ?_
    refine z_iconst (pc := 34) (v := 0) dX11_comes_34 (by decide) ?_
    obtain ⟨k6, F⟩ := F
    refine q_iast (pc := 35) (j := (Int32.toNatClampNeg (x5 + x6))) dX11_comes_35 (lyc rfl) (zvn (lnc rfl) k6) rfl ?_
    refine z_iinc (pc := 36) (v := x6 + 1) (ls' := [some (.ref 164), some (.int x1), some (.int x2), some (.int x3), some (.int x4), some (.int x5), some (.int (x6 + 1))]) dX11_comes_36 (by decide) rfl rfl rfl ?_
    refine z_goto (pc := 39) (tgt := 18) dX11_comes_39 (by decide) ?_
    exact F
theorem g_X11_thing {x1 : Int32} {x2 : Int32} {x3 : Int32} {x4 : Int32} {h : zHp} {Q : Int32 → zHp → Prop}  (G : zG h) (F : zcI M_X11_areGood [.int x1, .int x2, .int x3, .int x4] h (fun vh1 h1 => zG h1 ∧ ((¬ vh1 = 0 → ((¬ rI h1 165 238 = 8 → (zcV M_X11_comes [.ref 164, .int x1, .int x2, .int x3, .int x4] h1 (fun h2 => zG h2 ∧ (zcI M_X11_changed [.ref 164, .int ((rI h2 165 238) - 1)] h2 (fun vh3 h3 => zG h3 ∧ (Q vh3 h3)))))) ∧ (rI h1 165 238 = 8 → (Q (-4) h1)))) ∧ (vh1 = 0 → (Q (-2) h1))))) : zcI M_X11_thing [.ref 164, .int x1, .int x2, .int x3, .int x4] h Q := by
  show zw zNT zNT M_X11_thing 0 [some (.ref 164), some (.int x1), some (.int x2), some (.int x3), some (.int x4)] [] h _
  refine z_iload_n (pc := 0) dX11_thing_0 rfl rfl ?_
  refine z_iload_n (pc := 1) dX11_thing_1 rfl rfl ?_
  refine z_iload_n (pc := 2) dX11_thing_2 rfl rfl ?_
  refine z_iload (pc := 3) dX11_thing_3 rfl ?_
  refine q_invS (pc := 5) (As := [.int x1, .int x2, .int x3, .int x4]) (st := []) dX11_thing_5 ok_X11_areGood ml_RX11_159 st_X11_areGood pa_X11_areGood ⟨Nat.le_of_ble_eq_true rfl, Nat.le_of_ble_eq_true rfl⟩ (q_kI F (fun vh1 h1 F => ?_))
  obtain ⟨G1, F⟩ := F
  refine z_if_ne (pc := 8) (tgt := 14) dX11_thing_8 (by decide) (fun k5 => ?_) (fun k5 => ?_)
  · replace F := F.1 k5
    refine z_aload_n (pc := 14) dX11_thing_14 rfl rfl ?_
    refine q_getR (pc := 15) (i := 165) dX11_thing_15 lk_RX11_7 (lyc rfl) (G1 164 0 165 rfl) ?_
    refine z_sipush (pc := 18) (v := 238) dX11_thing_18 (by decide) ?_
    refine q_iald (pc := 21) (j := 238) (v := rI h1 165 238) dX11_thing_21 (lyc rfl) (zvl (lnc rfl) (by decide)) (by decide) rfl ?_
    refine z_bipush (pc := 22) (v := 8) dX11_thing_22 (by decide) ?_
    refine z_icmp_ne (pc := 24) (tgt := 30) dX11_thing_24 (by decide) (fun k4 => ?_) (fun k4 => ?_)
    · replace F := F.1 k4
      refine z_aload_n (pc := 30) dX11_thing_30 rfl rfl ?_
      refine z_iload_n (pc := 31) dX11_thing_31 rfl rfl ?_
      refine z_iload_n (pc := 32) dX11_thing_32 rfl rfl ?_
      refine z_iload_n (pc := 33) dX11_thing_33 rfl rfl ?_
      refine z_iload (pc := 34) dX11_thing_34 rfl ?_
      refine q_invV (pc := 36) (As := [.int x1, .int x2, .int x3, .int x4]) (st := []) dX11_thing_36 ok_X11_comes ml_RX11_163 iv_X11_comes pa_X11_comes ⟨Nat.le_of_ble_eq_true rfl, Nat.le_of_ble_eq_true rfl⟩ (lyc rfl) (q_kV F (fun h2 F => ?_))
      obtain ⟨G2, F⟩ := F
      refine z_aload_n (pc := 39) dX11_thing_39 rfl rfl ?_
      refine z_aload_n (pc := 40) dX11_thing_40 rfl rfl ?_
      refine q_getR (pc := 41) (i := 165) dX11_thing_41 lk_RX11_7 (lyc rfl) (G2 164 0 165 rfl) ?_
      refine z_sipush (pc := 44) (v := 238) dX11_thing_44 (by decide) ?_
      refine q_iald (pc := 47) (j := 238) (v := rI h2 165 238) dX11_thing_47 (lyc rfl) (zvl (lnc rfl) (by decide)) (by decide) rfl ?_
      refine z_iconst (pc := 48) (v := 1) dX11_thing_48 (by decide) ?_
      refine z_isub (pc := 49) dX11_thing_49 ?_
      refine q_invV (pc := 50) (As := [.int ((rI h2 165 238) - 1)]) (st := []) dX11_thing_50 ok_X11_changed ml_RX11_167 iv_X11_changed pa_X11_changed ⟨Nat.le_of_ble_eq_true rfl, Nat.le_of_ble_eq_true rfl⟩ (lyc rfl) (q_kI F (fun vh3 h3 F => ?_))
      obtain ⟨G3, F⟩ := F
      exact q_retI (pc := 53) dX11_thing_53 rfl F
    · replace F := F.2 k4
      refine z_bipush (pc := 27) (v := -4) dX11_thing_27 (by decide) ?_
      exact q_retI (pc := 29) dX11_thing_29 rfl F
  · replace F := F.2 k5
    refine z_bipush (pc := 11) (v := -2) dX11_thing_11 (by decide) ?_
    exact q_retI (pc := 13) dX11_thing_13 rfl F
theorem g_X11_of {x1 : Int32} {x2 : Int32} {h : zHp} {Q : Int32 → zHp → Prop}  (G : zG h) (F : zcI M_X11_isThing [.ref 164, .int x1] h (fun vh1 h1 => zG h1 ∧ ((vh1 = 0 → (Q (-2) h1)) ∧ (¬ (vh1 = 0) → (zcI M_X11_in [.int x2, .int 0, .int 5] h1 (fun vh2 h2 => zG h2 ∧ ((vh2 = 0 → (Q (-2) h2)) ∧ (¬ (vh2 = 0) → (zcI M_X11_its [.ref 164, .int x1, .int x2] h2 (fun vh3 h3 => zG h3 ∧ (Q vh3 h3))))))))))) : zcI M_X11_of [.ref 164, .int x1, .int x2] h Q := by
  show zw zNT zNT M_X11_of 0 [some (.ref 164), some (.int x1), some (.int x2)] [] h _
  refine z_aload_n (pc := 0) dX11_of_0 rfl rfl ?_
  refine z_iload_n (pc := 1) dX11_of_1 rfl rfl ?_
  refine q_invV (pc := 2) (As := [.int x1]) (st := []) dX11_of_2 ok_X11_isThing ml_RX11_88 iv_X11_isThing pa_X11_isThing ⟨Nat.le_of_ble_eq_true rfl, Nat.le_of_ble_eq_true rfl⟩ (lyc rfl) (q_kI F (fun vh1 h1 F => ?_))
  obtain ⟨G1, F⟩ := F
  refine z_if_eq (pc := 5) (tgt := 26) dX11_of_5 (by decide) (fun k5 => ?_) (fun k5 => ?_)
  · replace F := F.1 k5
    refine z_bipush (pc := 26) (v := -2) dX11_of_26 (by decide) ?_
    exact q_retI (pc := 28) dX11_of_28 rfl F
  · replace F := F.2 k5
    refine z_iload_n (pc := 8) dX11_of_8 rfl rfl ?_
    refine z_iconst (pc := 9) (v := 0) dX11_of_9 (by decide) ?_
    refine z_iconst (pc := 10) (v := 5) dX11_of_10 (by decide) ?_
    refine q_invS (pc := 11) (As := [.int x2, .int 0, .int 5]) (st := []) dX11_of_11 ok_X11_in ml_RX11_84 st_X11_in pa_X11_in ⟨Nat.le_of_ble_eq_true rfl, Nat.le_of_ble_eq_true rfl⟩ (q_kI F (fun vh2 h2 F => ?_))
    obtain ⟨G2, F⟩ := F
    refine z_if_eq (pc := 14) (tgt := 26) dX11_of_14 (by decide) (fun k4 => ?_) (fun k4 => ?_)
    · replace F := F.1 k4
      refine z_bipush (pc := 26) (v := -2) dX11_of_26 (by decide) ?_
      exact q_retI (pc := 28) dX11_of_28 rfl F
    · replace F := F.2 k4
      refine z_aload_n (pc := 17) dX11_of_17 rfl rfl ?_
      refine z_iload_n (pc := 18) dX11_of_18 rfl rfl ?_
      refine z_iload_n (pc := 19) dX11_of_19 rfl rfl ?_
      refine q_invV (pc := 20) (As := [.int x1, .int x2]) (st := []) dX11_of_20 ok_X11_its ml_RX11_92 iv_X11_its pa_X11_its ⟨Nat.le_of_ble_eq_true rfl, Nat.le_of_ble_eq_true rfl⟩ (lyc rfl) (q_kI F (fun vh3 h3 F => ?_))
      obtain ⟨G3, F⟩ := F
      refine z_goto (pc := 23) (tgt := 28) dX11_of_23 (by decide) ?_
      exact q_retI (pc := 28) dX11_of_28 rfl F
theorem g_X11_now {x1 : Int32} {x2 : Int32} {h : zHp} {Q : Int32 → zHp → Prop}  (G : zG h) (F : zcI M_X11_isThing [.ref 164, .int x1] h (fun vh1 h1 => zG h1 ∧ ((vh1 = 0 → (Q (-2) h1)) ∧ (¬ (vh1 = 0) → (zcI M_X11_in [.int x2, .int 0, .int 3] h1 (fun vh2 h2 => zG h2 ∧ ((¬ vh2 = 0 → (zcV M_X11_makes [.ref 164, .int 5] h2 (fun h3 => zG h3 ∧ (zcI M_X11_isNow [.ref 164, .int x1, .int x2] h3 (fun vh4 h4 => zG h4 ∧ (Q vh4 h4)))))) ∧ (vh2 = 0 → (Q (-2) h2))))))))) : zcI M_X11_now [.ref 164, .int x1, .int x2] h Q := by
  show zw zNT zNT M_X11_now 0 [some (.ref 164), some (.int x1), some (.int x2)] [] h _
  refine z_aload_n (pc := 0) dX11_now_0 rfl rfl ?_
  refine z_iload_n (pc := 1) dX11_now_1 rfl rfl ?_
  refine q_invV (pc := 2) (As := [.int x1]) (st := []) dX11_now_2 ok_X11_isThing ml_RX11_88 iv_X11_isThing pa_X11_isThing ⟨Nat.le_of_ble_eq_true rfl, Nat.le_of_ble_eq_true rfl⟩ (lyc rfl) (q_kI F (fun vh1 h1 F => ?_))
  obtain ⟨G1, F⟩ := F
  refine z_if_eq (pc := 5) (tgt := 17) dX11_now_5 (by decide) (fun k6 => ?_) (fun k6 => ?_)
  · replace F := F.1 k6
    refine z_bipush (pc := 17) (v := -2) dX11_now_17 (by decide) ?_
    exact q_retI (pc := 19) dX11_now_19 rfl F
  · replace F := F.2 k6
    refine z_iload_n (pc := 8) dX11_now_8 rfl rfl ?_
    refine z_iconst (pc := 9) (v := 0) dX11_now_9 (by decide) ?_
    refine z_iconst (pc := 10) (v := 3) dX11_now_10 (by decide) ?_
    refine q_invS (pc := 11) (As := [.int x2, .int 0, .int 3]) (st := []) dX11_now_11 ok_X11_in ml_RX11_84 st_X11_in pa_X11_in ⟨Nat.le_of_ble_eq_true rfl, Nat.le_of_ble_eq_true rfl⟩ (q_kI F (fun vh2 h2 F => ?_))
    obtain ⟨G2, F⟩ := F
    refine z_if_ne (pc := 14) (tgt := 20) dX11_now_14 (by decide) (fun k5 => ?_) (fun k5 => ?_)
    · replace F := F.1 k5
      refine z_aload_n (pc := 20) dX11_now_20 rfl rfl ?_
      refine z_iconst (pc := 21) (v := 5) dX11_now_21 (by decide) ?_
      refine q_invV (pc := 22) (As := [.int 5]) (st := []) dX11_now_22 ok_X11_makes ml_RX11_145 iv_X11_makes pa_X11_makes ⟨Nat.le_of_ble_eq_true rfl, Nat.le_of_ble_eq_true rfl⟩ (lyc rfl) (q_kV F (fun h3 F => ?_))
      obtain ⟨G3, F⟩ := F
      refine z_aload_n (pc := 25) dX11_now_25 rfl rfl ?_
      refine z_iload_n (pc := 26) dX11_now_26 rfl rfl ?_
      refine z_iload_n (pc := 27) dX11_now_27 rfl rfl ?_
      refine q_invV (pc := 28) (As := [.int x1, .int x2]) (st := []) dX11_now_28 ok_X11_isNow ml_RX11_170 iv_X11_isNow pa_X11_isNow ⟨Nat.le_of_ble_eq_true rfl, Nat.le_of_ble_eq_true rfl⟩ (lyc rfl) (q_kI F (fun vh4 h4 F => ?_))
      obtain ⟨G4, F⟩ := F
      exact q_retI (pc := 31) dX11_now_31 rfl F
    · replace F := F.2 k5
      refine z_bipush (pc := 17) (v := -2) dX11_now_17 (by decide) ?_
      exact q_retI (pc := 19) dX11_now_19 rfl F
theorem g_X11_set {x1 : Int32} {x2 : Int32} {x3 : Int32} {h : zHp} {Q : Int32 → zHp → Prop}  (G : zG h) (F : zcI M_X11_isThing [.ref 164, .int x1] h (fun vh1 h1 => zG h1 ∧ ((vh1 = 0 → (Q (-2) h1)) ∧ (¬ (vh1 = 0) → (zcI M_X11_in [.int x2, .int 1, .int 4] h1 (fun vh2 h2 => zG h2 ∧ ((vh2 = 0 → (Q (-2) h2)) ∧ (¬ (vh2 = 0) → ((¬ x2 = 1 → ((¬ x2 = 4 → (zlI M_X11_set 41 [some (.ref 164), some (.int x1), some (.int x2), some (.int x3), none] [.int 99, .int 0, .int x3] h2 Q)) ∧ (x2 = 4 → (zlI M_X11_set 41 [some (.ref 164), some (.int x1), some (.int x2), some (.int x3), none] [.int 999, .int 0, .int x3] h2 Q)))) ∧ (x2 = 1 → (zlI M_X11_set 41 [some (.ref 164), some (.int x1), some (.int x2), some (.int x3), none] [.int 5, .int 0, .int x3] h2 Q))))))))))) : zcI M_X11_set [.ref 164, .int x1, .int x2, .int x3] h Q := by
  show zw zNT zNT M_X11_set 0 [some (.ref 164), some (.int x1), some (.int x2), some (.int x3), none] [] h _
  refine z_aload_n (pc := 0) dX11_set_0 rfl rfl ?_
  refine z_iload_n (pc := 1) dX11_set_1 rfl rfl ?_
  refine q_invV (pc := 2) (As := [.int x1]) (st := []) dX11_set_2 ok_X11_isThing ml_RX11_88 iv_X11_isThing pa_X11_isThing ⟨Nat.le_of_ble_eq_true rfl, Nat.le_of_ble_eq_true rfl⟩ (lyc rfl) (q_kI F (fun vh1 h1 F => ?_))
  obtain ⟨G1, F⟩ := F
  refine z_if_eq (pc := 5) (tgt := 47) dX11_set_5 (by decide) (fun k6 => ?_) (fun k6 => ?_)
  · replace F := F.1 k6
    refine z_bipush (pc := 47) (v := -2) dX11_set_47 (by decide) ?_
    exact q_retI (pc := 49) dX11_set_49 rfl F
  · replace F := F.2 k6
    refine z_iload_n (pc := 8) dX11_set_8 rfl rfl ?_
    refine z_iconst (pc := 9) (v := 1) dX11_set_9 (by decide) ?_
    refine z_iconst (pc := 10) (v := 4) dX11_set_10 (by decide) ?_
    refine q_invS (pc := 11) (As := [.int x2, .int 1, .int 4]) (st := []) dX11_set_11 ok_X11_in ml_RX11_84 st_X11_in pa_X11_in ⟨Nat.le_of_ble_eq_true rfl, Nat.le_of_ble_eq_true rfl⟩ (q_kI F (fun vh2 h2 F => ?_))
    obtain ⟨G2, F⟩ := F
    refine z_if_eq (pc := 14) (tgt := 47) dX11_set_14 (by decide) (fun k5 => ?_) (fun k5 => ?_)
    · replace F := F.1 k5
      refine z_bipush (pc := 47) (v := -2) dX11_set_47 (by decide) ?_
      exact q_retI (pc := 49) dX11_set_49 rfl F
    · replace F := F.2 k5
      refine z_iload_n (pc := 17) dX11_set_17 rfl rfl ?_
      refine z_iconst (pc := 18) (v := 0) dX11_set_18 (by decide) ?_
      refine z_iload_n (pc := 19) dX11_set_19 rfl rfl ?_
      refine z_iconst (pc := 20) (v := 1) dX11_set_20 (by decide) ?_
      refine z_icmp_ne (pc := 21) (tgt := 28) dX11_set_21 (by decide) (fun k4 => ?_) (fun k4 => ?_)
      · replace F := F.1 k4
        refine z_iload_n (pc := 28) dX11_set_28 rfl rfl ?_
        refine z_iconst (pc := 29) (v := 4) dX11_set_29 (by decide) ?_
        refine z_icmp_ne (pc := 30) (tgt := 39) dX11_set_30 (by decide) (fun k3 => ?_) (fun k3 => ?_)
        · replace F := F.1 k3
          refine z_bipush (pc := 39) (v := 99) dX11_set_39 (by decide) ?_
          exact F
        · replace F := F.2 k3
          refine z_sipush (pc := 33) (v := 999) dX11_set_33 (by decide) ?_
          refine z_goto (pc := 36) (tgt := 41) dX11_set_36 (by decide) ?_
          exact F
      · replace F := F.2 k4
        refine z_iconst (pc := 24) (v := 5) dX11_set_24 (by decide) ?_
        refine z_goto (pc := 25) (tgt := 41) dX11_set_25 (by decide) ?_
        exact F
theorem g_X11_set_41 {x1 : Int32} {x2 : Int32} {x3 : Int32} {xs0 : Int32} {xs1 : Int32} {xs2 : Int32} {h : zHp} {Q : Int32 → zHp → Prop}  (G : zG h) (F : zcI M_X11_in [.int xs0, .int xs1, .int xs2] h (fun vh1 h1 => zG h1 ∧ ((¬ vh1 = 0 → (zcI M_X11_isAlive [.ref 164, .int x1] h1 (fun vh2 h2 => zG h2 ∧ ((¬ vh2 = 0 → (zcI M_X11_its [.ref 164, .int x1, .int x2] h2 (fun vh3 h3 => zG h3 ∧ (vp_in ((0 + (10 * x1)) + x2) 246 ∧ (zcI M_X11_changed [.ref 164, .int vh3] (wI h3 165 ((Int32.toNatClampNeg ((0 + (10 * x1)) + x2))) x3) (fun vh4 h4 => zG h4 ∧ (Q vh4 h4))))))) ∧ (vh2 = 0 → (Q (-3) h2)))))) ∧ (vh1 = 0 → (Q (-2) h1))))) : zlI M_X11_set 41 [some (.ref 164), some (.int x1), some (.int x2), some (.int x3), none] [.int xs2, .int xs1, .int xs0] h Q := by
  refine q_invS (pc := 41) (As := [.int xs0, .int xs1, .int xs2]) (st := []) dX11_set_41 ok_X11_in ml_RX11_84 st_X11_in pa_X11_in ⟨Nat.le_of_ble_eq_true rfl, Nat.le_of_ble_eq_true rfl⟩ (q_kI F (fun vh1 h1 F => ?_))
  obtain ⟨G1, F⟩ := F
  refine z_if_ne (pc := 44) (tgt := 50) dX11_set_44 (by decide) (fun k7 => ?_) (fun k7 => ?_)
  · replace F := F.1 k7
    refine z_aload_n (pc := 50) dX11_set_50 rfl rfl ?_
    refine z_iload_n (pc := 51) dX11_set_51 rfl rfl ?_
    refine q_invV (pc := 52) (As := [.int x1]) (st := []) dX11_set_52 ok_X11_isAlive ml_RX11_100 iv_X11_isAlive pa_X11_isAlive ⟨Nat.le_of_ble_eq_true rfl, Nat.le_of_ble_eq_true rfl⟩ (lyc rfl) (q_kI F (fun vh2 h2 F => ?_))
    obtain ⟨G2, F⟩ := F
    refine z_if_ne (pc := 55) (tgt := 61) dX11_set_55 (by decide) (fun k6 => ?_) (fun k6 => ?_)
    · replace F := F.1 k6
      refine z_aload_n (pc := 61) dX11_set_61 rfl rfl ?_
      refine z_iload_n (pc := 62) dX11_set_62 rfl rfl ?_
      refine z_iload_n (pc := 63) dX11_set_63 rfl rfl ?_
      refine q_invV (pc := 64) (As := [.int x1, .int x2]) (st := []) dX11_set_64 ok_X11_its ml_RX11_92 iv_X11_its pa_X11_its ⟨Nat.le_of_ble_eq_true rfl, Nat.le_of_ble_eq_true rfl⟩ (lyc rfl) (q_kI F (fun vh3 h3 F => ?_))
      obtain ⟨G3, F⟩ := F
      refine z_istore (pc := 67) (ls' := [some (.ref 164), some (.int x1), some (.int x2), some (.int x3), some (.int vh3)]) dX11_set_67 (by decide) rfl ?_
      refine z_aload_n (pc := 69) dX11_set_69 rfl rfl ?_
      refine q_getR (pc := 70) (i := 165) dX11_set_70 lk_RX11_7 (lyc rfl) (G3 164 0 165 rfl) ?_
      refine z_iconst (pc := 73) (v := 0) dX11_set_73 (by decide) ?_
      refine z_bipush (pc := 74) (v := 10) dX11_set_74 (by decide) ?_
      refine z_iload_n (pc := 76) dX11_set_76 rfl rfl ?_
      refine z_imul (pc := 77) dX11_set_77 ?_
      refine z_iadd (pc := 78) dX11_set_78 ?_
      refine z_iload_n (pc := 79) dX11_set_79 rfl rfl ?_
      refine z_iadd (pc := 80) dX11_set_80 ?_
      refine z_iload_n (pc := 81) dX11_set_81 rfl rfl ?_
      obtain ⟨k4, F⟩ := F
      refine q_iast (pc := 82) (j := (Int32.toNatClampNeg ((0 + (10 * x1)) + x2))) dX11_set_82 (lyc rfl) (zvn (lnc rfl) k4) rfl ?_
      refine z_aload_n (pc := 83) dX11_set_83 rfl rfl ?_
      refine z_iload (pc := 84) dX11_set_84 rfl ?_
      refine q_invV (pc := 86) (As := [.int vh3]) (st := []) dX11_set_86 ok_X11_changed ml_RX11_167 iv_X11_changed pa_X11_changed ⟨Nat.le_of_ble_eq_true rfl, Nat.le_of_ble_eq_true rfl⟩ (lyc rfl) (q_kI F (fun vh4 h4 F => ?_))
      obtain ⟨G4, F⟩ := F
      exact q_retI (pc := 89) dX11_set_89 rfl F
    · replace F := F.2 k6
      refine z_bipush (pc := 58) (v := -3) dX11_set_58 (by decide) ?_
      exact q_retI (pc := 60) dX11_set_60 rfl F
  · replace F := F.2 k7
    refine z_bipush (pc := 47) (v := -2) dX11_set_47 (by decide) ?_
    exact q_retI (pc := 49) dX11_set_49 rfl F
theorem g_X11_scope {x1 : Int32} {x2 : Int32} {h : zHp} {Q : Int32 → zHp → Prop}  (G : zG h) (F : zcI M_X11_isScope [.int x1, .int x2] h (fun vh1 h1 => zG h1 ∧ ((¬ vh1 = 0 → (zcV M_X11_makes [.ref 164, .int 5] h1 (fun h2 => zG h2 ∧ (zcI M_X11_inScope [.ref 164, .ref 168, .int x1, .int x2] h2 (fun vh3 h3 => zG h3 ∧ (Q vh3 h3)))))) ∧ (vh1 = 0 → (Q (-2) h1))))) : zcI M_X11_scope [.ref 164, .int x1, .int x2] h Q := by
  show zw zNT zNT M_X11_scope 0 [some (.ref 164), some (.int x1), some (.int x2)] [] h _
  refine z_iload_n (pc := 0) dX11_scope_0 rfl rfl ?_
  refine z_iload_n (pc := 1) dX11_scope_1 rfl rfl ?_
  refine q_invS (pc := 2) (As := [.int x1, .int x2]) (st := []) dX11_scope_2 ok_X11_isScope ml_RX11_173 st_X11_isScope pa_X11_isScope ⟨Nat.le_of_ble_eq_true rfl, Nat.le_of_ble_eq_true rfl⟩ (q_kI F (fun vh1 h1 F => ?_))
  obtain ⟨G1, F⟩ := F
  refine z_if_ne (pc := 5) (tgt := 11) dX11_scope_5 (by decide) (fun k4 => ?_) (fun k4 => ?_)
  · replace F := F.1 k4
    refine z_aload_n (pc := 11) dX11_scope_11 rfl rfl ?_
    refine z_iconst (pc := 12) (v := 5) dX11_scope_12 (by decide) ?_
    refine q_invV (pc := 13) (As := [.int 5]) (st := []) dX11_scope_13 ok_X11_makes ml_RX11_145 iv_X11_makes pa_X11_makes ⟨Nat.le_of_ble_eq_true rfl, Nat.le_of_ble_eq_true rfl⟩ (lyc rfl) (q_kV F (fun h2 F => ?_))
    obtain ⟨G2, F⟩ := F
    refine z_aload_n (pc := 16) dX11_scope_16 rfl rfl ?_
    refine z_aload_n (pc := 17) dX11_scope_17 rfl rfl ?_
    refine q_getR (pc := 18) (i := 168) dX11_scope_18 lk_RX11_19 (lyc rfl) (G2 164 4 168 rfl) ?_
    refine z_iload_n (pc := 21) dX11_scope_21 rfl rfl ?_
    refine z_iload_n (pc := 22) dX11_scope_22 rfl rfl ?_
    refine q_invV (pc := 23) (As := [.ref 168, .int x1, .int x2]) (st := []) dX11_scope_23 ok_X11_inScope ml_RX11_106 iv_X11_inScope pa_X11_inScope ⟨Nat.le_of_ble_eq_true rfl, Nat.le_of_ble_eq_true rfl⟩ (lyc rfl) (q_kI F (fun vh3 h3 F => ?_))
    obtain ⟨G3, F⟩ := F
    exact q_retI (pc := 26) dX11_scope_26 rfl F
  · replace F := F.2 k4
    refine z_bipush (pc := 8) (v := -2) dX11_scope_8 (by decide) ?_
    exact q_retI (pc := 10) dX11_scope_10 rfl F
theorem g_X11_isDeed {x0 : Int32} {x1 : Int32} {x2 : Int32} {h : zHp} {Q : Int32 → zHp → Prop}  (G : zG h) (F : zcI M_X11_in [.int x0, .int 0, .int 5] h (fun vh1 h1 => zG h1 ∧ ((vh1 = 0 → (Q 0 h1)) ∧ (¬ (vh1 = 0) → ((3 ≤ x0 → ((3 ≤ x0 → (zlI M_X11_isDeed 32 [some (.int x0), some (.int x1), some (.int x2)] [.int 9, .int (-9), .int x1] h1 Q)) ∧ (¬ (3 ≤ x0) → (zlI M_X11_isDeed 32 [some (.int x0), some (.int x1), some (.int x2)] [.int 5, .int (-9), .int x1] h1 Q)))) ∧ (¬ (3 ≤ x0) → ((3 ≤ x0 → (zlI M_X11_isDeed 32 [some (.int x0), some (.int x1), some (.int x2)] [.int 9, .int 0, .int x1] h1 Q)) ∧ (¬ (3 ≤ x0) → (zlI M_X11_isDeed 32 [some (.int x0), some (.int x1), some (.int x2)] [.int 5, .int 0, .int x1] h1 Q))))))))) : zcI M_X11_isDeed [.int x0, .int x1, .int x2] h Q := by
  show zw zNT zNT M_X11_isDeed 0 [some (.int x0), some (.int x1), some (.int x2)] [] h _
  refine z_iload_n (pc := 0) dX11_isDeed_0 rfl rfl ?_
  refine z_iconst (pc := 1) (v := 0) dX11_isDeed_1 (by decide) ?_
  refine z_iconst (pc := 2) (v := 5) dX11_isDeed_2 (by decide) ?_
  refine q_invS (pc := 3) (As := [.int x0, .int 0, .int 5]) (st := []) dX11_isDeed_3 ok_X11_in ml_RX11_84 st_X11_in pa_X11_in ⟨Nat.le_of_ble_eq_true rfl, Nat.le_of_ble_eq_true rfl⟩ (q_kI F (fun vh1 h1 F => ?_))
  obtain ⟨G1, F⟩ := F
  refine z_if_eq (pc := 6) (tgt := 53) dX11_isDeed_6 (by decide) (fun k5 => ?_) (fun k5 => ?_)
  · replace F := F.1 k5
    refine z_iconst (pc := 53) (v := 0) dX11_isDeed_53 (by decide) ?_
    exact q_retB (pc := 54) dX11_isDeed_54 rfl (Or.inl rfl) F
  · replace F := F.2 k5
    refine z_iload_n (pc := 9) dX11_isDeed_9 rfl rfl ?_
    refine z_iload_n (pc := 10) dX11_isDeed_10 rfl rfl ?_
    refine z_iconst (pc := 11) (v := 3) dX11_isDeed_11 (by decide) ?_
    refine z_icmp_ge (pc := 12) (tgt := 19) dX11_isDeed_12 (by decide) (fun k4 => ?_) (fun k4 => ?_)
    · replace F := F.1 k4
      refine z_bipush (pc := 19) (v := -9) dX11_isDeed_19 (by decide) ?_
      refine z_iload_n (pc := 21) dX11_isDeed_21 rfl rfl ?_
      refine z_iconst (pc := 22) (v := 3) dX11_isDeed_22 (by decide) ?_
      refine z_icmp_ge (pc := 23) (tgt := 30) dX11_isDeed_23 (by decide) (fun k2 => ?_) (fun k2 => ?_)
      · replace F := F.1 k2
        refine z_bipush (pc := 30) (v := 9) dX11_isDeed_30 (by decide) ?_
        exact F
      · replace F := F.2 k2
        refine z_iconst (pc := 26) (v := 5) dX11_isDeed_26 (by decide) ?_
        refine z_goto (pc := 27) (tgt := 32) dX11_isDeed_27 (by decide) ?_
        exact F
    · replace F := F.2 k4
      refine z_iconst (pc := 15) (v := 0) dX11_isDeed_15 (by decide) ?_
      refine z_goto (pc := 16) (tgt := 21) dX11_isDeed_16 (by decide) ?_
      refine z_iload_n (pc := 21) dX11_isDeed_21 rfl rfl ?_
      refine z_iconst (pc := 22) (v := 3) dX11_isDeed_22 (by decide) ?_
      refine z_icmp_ge (pc := 23) (tgt := 30) dX11_isDeed_23 (by decide) (fun k3 => ?_) (fun k3 => ?_)
      · replace F := F.1 k3
        refine z_bipush (pc := 30) (v := 9) dX11_isDeed_30 (by decide) ?_
        exact F
      · replace F := F.2 k3
        refine z_iconst (pc := 26) (v := 5) dX11_isDeed_26 (by decide) ?_
        refine z_goto (pc := 27) (tgt := 32) dX11_isDeed_27 (by decide) ?_
        exact F
theorem g_X11_isDeed_32 {x0 : Int32} {x1 : Int32} {x2 : Int32} {xs0 : Int32} {xs1 : Int32} {xs2 : Int32} {h : zHp} {Q : Int32 → zHp → Prop}  (G : zG h) (F : zcI M_X11_in [.int xs0, .int xs1, .int xs2] h (fun vh1 h1 => zG h1 ∧ ((vh1 = 0 → (Q 0 h1)) ∧ (¬ (vh1 = 0) → (zcI M_X11_in [.int x2, .int (-9), .int 9] h1 (fun vh2 h2 => zG h2 ∧ ((vh2 = 0 → (Q 0 h2)) ∧ (¬ (vh2 = 0) → (Q 1 h2))))))))) : zlI M_X11_isDeed 32 [some (.int x0), some (.int x1), some (.int x2)] [.int xs2, .int xs1, .int xs0] h Q := by
  refine q_invS (pc := 32) (As := [.int xs0, .int xs1, .int xs2]) (st := []) dX11_isDeed_32 ok_X11_in ml_RX11_84 st_X11_in pa_X11_in ⟨Nat.le_of_ble_eq_true rfl, Nat.le_of_ble_eq_true rfl⟩ (q_kI F (fun vh1 h1 F => ?_))
  obtain ⟨G1, F⟩ := F
  refine z_if_eq (pc := 35) (tgt := 53) dX11_isDeed_35 (by decide) (fun k4 => ?_) (fun k4 => ?_)
  · replace F := F.1 k4
    refine z_iconst (pc := 53) (v := 0) dX11_isDeed_53 (by decide) ?_
    exact q_retB (pc := 54) dX11_isDeed_54 rfl (Or.inl rfl) F
  · replace F := F.2 k4
    refine z_iload_n (pc := 38) dX11_isDeed_38 rfl rfl ?_
    refine z_bipush (pc := 39) (v := -9) dX11_isDeed_39 (by decide) ?_
    refine z_bipush (pc := 41) (v := 9) dX11_isDeed_41 (by decide) ?_
    refine q_invS (pc := 43) (As := [.int x2, .int (-9), .int 9]) (st := []) dX11_isDeed_43 ok_X11_in ml_RX11_84 st_X11_in pa_X11_in ⟨Nat.le_of_ble_eq_true rfl, Nat.le_of_ble_eq_true rfl⟩ (q_kI F (fun vh2 h2 F => ?_))
    obtain ⟨G2, F⟩ := F
    refine z_if_eq (pc := 46) (tgt := 53) dX11_isDeed_46 (by decide) (fun k3 => ?_) (fun k3 => ?_)
    · replace F := F.1 k3
      refine z_iconst (pc := 53) (v := 0) dX11_isDeed_53 (by decide) ?_
      exact q_retB (pc := 54) dX11_isDeed_54 rfl (Or.inl rfl) F
    · replace F := F.2 k3
      refine z_iconst (pc := 49) (v := 1) dX11_isDeed_49 (by decide) ?_
      refine z_goto (pc := 50) (tgt := 54) dX11_isDeed_50 (by decide) ?_
      exact q_retB (pc := 54) dX11_isDeed_54 rfl (Or.inr rfl) F
theorem g_X11_lays {x1 : Int32} {x2 : Int32} {x3 : Int32} {x4 : Int32} {x5 : Int32} {x6 : Int32} {h : zHp} {Q : zHp → Prop}  (G : zG h) (F : vp_in (80 + (7 * x1)) 246 ∧ (vp_in ((80 + (7 * x1)) + 1) 246 ∧ (vp_in ((80 + (7 * x1)) + 2) 246 ∧ (vp_in ((80 + (7 * x1)) + 3) 246 ∧ (vp_in ((80 + (7 * x1)) + 4) 246 ∧ (vp_in ((80 + (7 * x1)) + 5) 246 ∧ (vp_in ((80 + (7 * x1)) + 6) 246 ∧ (Q (wI (wI (wI (wI (wI (wI (wI h 165 ((Int32.toNatClampNeg (80 + (7 * x1)))) (-1)) 165 ((Int32.toNatClampNeg ((80 + (7 * x1)) + 1))) x2) 165 ((Int32.toNatClampNeg ((80 + (7 * x1)) + 2))) x3) 165 ((Int32.toNatClampNeg ((80 + (7 * x1)) + 3))) x4) 165 ((Int32.toNatClampNeg ((80 + (7 * x1)) + 4))) x5) 165 ((Int32.toNatClampNeg ((80 + (7 * x1)) + 5))) x6) 165 ((Int32.toNatClampNeg ((80 + (7 * x1)) + 6))) 0))))))))) : zcV M_X11_lays [.ref 164, .int x1, .int x2, .int x3, .int x4, .int x5, .int x6] h Q := by
  show zw zNT zNT M_X11_lays 0 [some (.ref 164), some (.int x1), some (.int x2), some (.int x3), some (.int x4), some (.int x5), some (.int x6), none] [] h _
  refine z_bipush (pc := 0) (v := 80) dX11_lays_0 (by decide) ?_
  refine z_bipush (pc := 2) (v := 7) dX11_lays_2 (by decide) ?_
  refine z_iload_n (pc := 4) dX11_lays_4 rfl rfl ?_
  refine z_imul (pc := 5) dX11_lays_5 ?_
  refine z_iadd (pc := 6) dX11_lays_6 ?_
  refine z_istore (pc := 7) (ls' := [some (.ref 164), some (.int x1), some (.int x2), some (.int x3), some (.int x4), some (.int x5), some (.int x6), some (.int (80 + (7 * x1)))]) dX11_lays_7 (by decide) rfl ?_
  refine z_aload_n (pc := 9) dX11_lays_9 rfl rfl ?_
  refine q_getR (pc := 10) (i := 165) dX11_lays_10 lk_RX11_7 (lyc rfl) (G 164 0 165 rfl) ?_
  refine z_iload (pc := 13) dX11_lays_13 rfl ?_
  refine z_iconst (pc := 15) (v := -1) dX11_lays_15 (by decide) ?_
  obtain ⟨k1, F⟩ := F
  refine q_iast (pc := 16) (j := (Int32.toNatClampNeg (80 + (7 * x1)))) dX11_lays_16 (lyc rfl) (zvn (lnc rfl) k1) rfl ?_
  refine z_aload_n (pc := 17) dX11_lays_17 rfl rfl ?_
  refine q_getR (pc := 18) (i := 165) dX11_lays_18 lk_RX11_7 (lyc rfl) (G 164 0 165 rfl) ?_
  refine z_iload (pc := 21) dX11_lays_21 rfl ?_
  refine z_iconst (pc := 23) (v := 1) dX11_lays_23 (by decide) ?_
  refine z_iadd (pc := 24) dX11_lays_24 ?_
  refine z_iload_n (pc := 25) dX11_lays_25 rfl rfl ?_
  obtain ⟨k2, F⟩ := F
  refine q_iast (pc := 26) (j := (Int32.toNatClampNeg ((80 + (7 * x1)) + 1))) dX11_lays_26 (lyc rfl) (zvn (lnc rfl) k2) rfl ?_
  refine z_aload_n (pc := 27) dX11_lays_27 rfl rfl ?_
  refine q_getR (pc := 28) (i := 165) dX11_lays_28 lk_RX11_7 (lyc rfl) (G 164 0 165 rfl) ?_
  refine z_iload (pc := 31) dX11_lays_31 rfl ?_
  refine z_iconst (pc := 33) (v := 2) dX11_lays_33 (by decide) ?_
  refine z_iadd (pc := 34) dX11_lays_34 ?_
  refine z_iload_n (pc := 35) dX11_lays_35 rfl rfl ?_
  obtain ⟨k3, F⟩ := F
  refine q_iast (pc := 36) (j := (Int32.toNatClampNeg ((80 + (7 * x1)) + 2))) dX11_lays_36 (lyc rfl) (zvn (lnc rfl) k3) rfl ?_
  refine z_aload_n (pc := 37) dX11_lays_37 rfl rfl ?_
  refine q_getR (pc := 38) (i := 165) dX11_lays_38 lk_RX11_7 (lyc rfl) (G 164 0 165 rfl) ?_
  refine z_iload (pc := 41) dX11_lays_41 rfl ?_
  refine z_iconst (pc := 43) (v := 3) dX11_lays_43 (by decide) ?_
  refine z_iadd (pc := 44) dX11_lays_44 ?_
  refine z_iload (pc := 45) dX11_lays_45 rfl ?_
  obtain ⟨k4, F⟩ := F
  refine q_iast (pc := 47) (j := (Int32.toNatClampNeg ((80 + (7 * x1)) + 3))) dX11_lays_47 (lyc rfl) (zvn (lnc rfl) k4) rfl ?_
  refine z_aload_n (pc := 48) dX11_lays_48 rfl rfl ?_
  refine q_getR (pc := 49) (i := 165) dX11_lays_49 lk_RX11_7 (lyc rfl) (G 164 0 165 rfl) ?_
  refine z_iload (pc := 52) dX11_lays_52 rfl ?_
  refine z_iconst (pc := 54) (v := 4) dX11_lays_54 (by decide) ?_
  refine z_iadd (pc := 55) dX11_lays_55 ?_
  refine z_iload (pc := 56) dX11_lays_56 rfl ?_
  obtain ⟨k5, F⟩ := F
  refine q_iast (pc := 58) (j := (Int32.toNatClampNeg ((80 + (7 * x1)) + 4))) dX11_lays_58 (lyc rfl) (zvn (lnc rfl) k5) rfl ?_
  refine z_aload_n (pc := 59) dX11_lays_59 rfl rfl ?_
  refine q_getR (pc := 60) (i := 165) dX11_lays_60 lk_RX11_7 (lyc rfl) (G 164 0 165 rfl) ?_
  refine z_iload (pc := 63) dX11_lays_63 rfl ?_
  refine z_iconst (pc := 65) (v := 5) dX11_lays_65 (by decide) ?_
  refine z_iadd (pc := 66) dX11_lays_66 ?_
  refine z_iload (pc := 67) dX11_lays_67 rfl ?_
  obtain ⟨k6, F⟩ := F
  refine q_iast (pc := 69) (j := (Int32.toNatClampNeg ((80 + (7 * x1)) + 5))) dX11_lays_69 (lyc rfl) (zvn (lnc rfl) k6) rfl ?_
  refine z_aload_n (pc := 70) dX11_lays_70 rfl rfl ?_
  refine q_getR (pc := 71) (i := 165) dX11_lays_71 lk_RX11_7 (lyc rfl) (G 164 0 165 rfl) ?_
  refine z_iload (pc := 74) dX11_lays_74 rfl ?_
  refine z_bipush (pc := 76) (v := 6) dX11_lays_76 (by decide) ?_
  refine z_iadd (pc := 78) dX11_lays_78 ?_
  refine z_iconst (pc := 79) (v := 0) dX11_lays_79 (by decide) ?_
  obtain ⟨k7, F⟩ := F
  refine q_iast (pc := 80) (j := (Int32.toNatClampNeg ((80 + (7 * x1)) + 6))) dX11_lays_80 (lyc rfl) (zvn (lnc rfl) k7) rfl ?_
  exact q_retV (pc := 81) dX11_lays_81 rfl F
theorem g_X11_effect {x1 : Int32} {x2 : Int32} {x3 : Int32} {x4 : Int32} {x5 : Int32} {h : zHp} {Q : Int32 → zHp → Prop}  (G : zG h) (F : zcI M_X11_isDeed [.int x1, .int x4, .int x5] h (fun vh1 h1 => zG h1 ∧ ((vh1 = 0 → (Q (-2) h1)) ∧ (¬ (vh1 = 0) → (zcI M_X11_isScope [.int x2, .int x3] h1 (fun vh2 h2 => zG h2 ∧ ((¬ vh2 = 0 → ((¬ rI h2 165 239 = 10 → (zcV M_X11_lays [.ref 164, .int (rI h2 165 239), .int x1, .int x2, .int x3, .int x4, .int x5] h2 (fun h3 => zG h3 ∧ (zcI M_X11_changed [.ref 164, .int (((rI h3 165 239) + 1) - 1)] (wI h3 165 239 ((rI h3 165 239) + 1)) (fun vh4 h4 => zG h4 ∧ (Q vh4 h4)))))) ∧ (rI h2 165 239 = 10 → (Q (-4) h2)))) ∧ (vh2 = 0 → (Q (-2) h2))))))))) : zcI M_X11_effect [.ref 164, .int x1, .int x2, .int x3, .int x4, .int x5] h Q := by
  show zw zNT zNT M_X11_effect 0 [some (.ref 164), some (.int x1), some (.int x2), some (.int x3), some (.int x4), some (.int x5)] [] h _
  refine z_iload_n (pc := 0) dX11_effect_0 rfl rfl ?_
  refine z_iload (pc := 1) dX11_effect_1 rfl ?_
  refine z_iload (pc := 3) dX11_effect_3 rfl ?_
  refine q_invS (pc := 5) (As := [.int x1, .int x4, .int x5]) (st := []) dX11_effect_5 ok_X11_isDeed ml_RX11_176 st_X11_isDeed pa_X11_isDeed ⟨Nat.le_of_ble_eq_true rfl, Nat.le_of_ble_eq_true rfl⟩ (q_kI F (fun vh1 h1 F => ?_))
  obtain ⟨G1, F⟩ := F
  refine z_if_eq (pc := 8) (tgt := 19) dX11_effect_8 (by decide) (fun k7 => ?_) (fun k7 => ?_)
  · replace F := F.1 k7
    refine z_bipush (pc := 19) (v := -2) dX11_effect_19 (by decide) ?_
    exact q_retI (pc := 21) dX11_effect_21 rfl F
  · replace F := F.2 k7
    refine z_iload_n (pc := 11) dX11_effect_11 rfl rfl ?_
    refine z_iload_n (pc := 12) dX11_effect_12 rfl rfl ?_
    refine q_invS (pc := 13) (As := [.int x2, .int x3]) (st := []) dX11_effect_13 ok_X11_isScope ml_RX11_173 st_X11_isScope pa_X11_isScope ⟨Nat.le_of_ble_eq_true rfl, Nat.le_of_ble_eq_true rfl⟩ (q_kI F (fun vh2 h2 F => ?_))
    obtain ⟨G2, F⟩ := F
    refine z_if_ne (pc := 16) (tgt := 22) dX11_effect_16 (by decide) (fun k6 => ?_) (fun k6 => ?_)
    · replace F := F.1 k6
      refine z_aload_n (pc := 22) dX11_effect_22 rfl rfl ?_
      refine q_getR (pc := 23) (i := 165) dX11_effect_23 lk_RX11_7 (lyc rfl) (G2 164 0 165 rfl) ?_
      refine z_sipush (pc := 26) (v := 239) dX11_effect_26 (by decide) ?_
      refine q_iald (pc := 29) (j := 239) (v := rI h2 165 239) dX11_effect_29 (lyc rfl) (zvl (lnc rfl) (by decide)) (by decide) rfl ?_
      refine z_bipush (pc := 30) (v := 10) dX11_effect_30 (by decide) ?_
      refine z_icmp_ne (pc := 32) (tgt := 38) dX11_effect_32 (by decide) (fun k5 => ?_) (fun k5 => ?_)
      · replace F := F.1 k5
        refine z_aload_n (pc := 38) dX11_effect_38 rfl rfl ?_
        refine z_aload_n (pc := 39) dX11_effect_39 rfl rfl ?_
        refine q_getR (pc := 40) (i := 165) dX11_effect_40 lk_RX11_7 (lyc rfl) (G2 164 0 165 rfl) ?_
        refine z_sipush (pc := 43) (v := 239) dX11_effect_43 (by decide) ?_
        refine q_iald (pc := 46) (j := 239) (v := rI h2 165 239) dX11_effect_46 (lyc rfl) (zvl (lnc rfl) (by decide)) (by decide) rfl ?_
        refine z_iload_n (pc := 47) dX11_effect_47 rfl rfl ?_
        refine z_iload_n (pc := 48) dX11_effect_48 rfl rfl ?_
        refine z_iload_n (pc := 49) dX11_effect_49 rfl rfl ?_
        refine z_iload (pc := 50) dX11_effect_50 rfl ?_
        refine z_iload (pc := 52) dX11_effect_52 rfl ?_
        refine q_invV (pc := 54) (As := [.int (rI h2 165 239), .int x1, .int x2, .int x3, .int x4, .int x5]) (st := []) dX11_effect_54 ok_X11_lays ml_RX11_179 iv_X11_lays pa_X11_lays ⟨Nat.le_of_ble_eq_true rfl, Nat.le_of_ble_eq_true rfl⟩ (lyc rfl) (q_kV F (fun h3 F => ?_))
        obtain ⟨G3, F⟩ := F
        refine z_aload_n (pc := 57) dX11_effect_57 rfl rfl ?_
        refine q_getR (pc := 58) (i := 165) dX11_effect_58 lk_RX11_7 (lyc rfl) (G3 164 0 165 rfl) ?_
        refine z_sipush (pc := 61) (v := 239) dX11_effect_61 (by decide) ?_
        refine z_dup2 (pc := 64) dX11_effect_64 rfl rfl ?_
        refine q_iald (pc := 65) (j := 239) (v := rI h3 165 239) dX11_effect_65 (lyc rfl) (zvl (lnc rfl) (by decide)) (by decide) rfl ?_
        refine z_iconst (pc := 66) (v := 1) dX11_effect_66 (by decide) ?_
        refine z_iadd (pc := 67) dX11_effect_67 ?_
        refine q_iast (pc := 68) (j := 239) dX11_effect_68 (lyc rfl) (zvl (lnc rfl) (by decide)) (by decide) ?_
        refine z_aload_n (pc := 69) dX11_effect_69 rfl rfl ?_
        refine z_aload_n (pc := 70) dX11_effect_70 rfl rfl ?_
        refine q_getR (pc := 71) (i := 165) dX11_effect_71 lk_RX11_7 (lyc rfl) (G3 164 0 165 rfl) ?_
        refine z_sipush (pc := 74) (v := 239) dX11_effect_74 (by decide) ?_
        refine q_iald (pc := 77) (j := 239) (v := (rI h3 165 239) + 1) dX11_effect_77 (lyc rfl) (zvl (lnc rfl) (by decide)) (by decide) rI_s ?_
        refine z_iconst (pc := 78) (v := 1) dX11_effect_78 (by decide) ?_
        refine z_isub (pc := 79) dX11_effect_79 ?_
        refine q_invV (pc := 80) (As := [.int (((rI h3 165 239) + 1) - 1)]) (st := []) dX11_effect_80 ok_X11_changed ml_RX11_167 iv_X11_changed pa_X11_changed ⟨Nat.le_of_ble_eq_true rfl, Nat.le_of_ble_eq_true rfl⟩ (lyc rfl) (q_kI F (fun vh4 h4 F => ?_))
        obtain ⟨G4, F⟩ := F
        exact q_retI (pc := 83) dX11_effect_83 rfl F
      · replace F := F.2 k5
        refine z_bipush (pc := 35) (v := -4) dX11_effect_35 (by decide) ?_
        exact q_retI (pc := 37) dX11_effect_37 rfl F
    · replace F := F.2 k6
      refine z_bipush (pc := 19) (v := -2) dX11_effect_19 (by decide) ?_
      exact q_retI (pc := 21) dX11_effect_21 rfl F
theorem g_X11_source {x1 : Int32} {x2 : Int32} {h : zHp} {Q : Int32 → zHp → Prop}  (G : zG h) (F : zcI M_X11_isEffect [.ref 164, .int x1] h (fun vh1 h1 => zG h1 ∧ ((vh1 = 0 → (Q (-2) h1)) ∧ (¬ (vh1 = 0) → ((x2 = -1 → (zlI M_X11_source 24 [some (.ref 164), some (.int x1), some (.int x2), none] [] h1 Q)) ∧ (¬ (x2 = -1) → (zcI M_X11_isThing [.ref 164, .int x2] h1 (fun vh2 h2 => zG h2 ∧ ((¬ vh2 = 0 → (zlI M_X11_source 24 [some (.ref 164), some (.int x1), some (.int x2), none] [] h2 Q)) ∧ (vh2 = 0 → (Q (-2) h2))))))))))) : zcI M_X11_source [.ref 164, .int x1, .int x2] h Q := by
  show zw zNT zNT M_X11_source 0 [some (.ref 164), some (.int x1), some (.int x2), none] [] h _
  refine z_aload_n (pc := 0) dX11_source_0 rfl rfl ?_
  refine z_iload_n (pc := 1) dX11_source_1 rfl rfl ?_
  refine q_invV (pc := 2) (As := [.int x1]) (st := []) dX11_source_2 ok_X11_isEffect ml_RX11_183 iv_X11_isEffect pa_X11_isEffect ⟨Nat.le_of_ble_eq_true rfl, Nat.le_of_ble_eq_true rfl⟩ (lyc rfl) (q_kI F (fun vh1 h1 F => ?_))
  obtain ⟨G1, F⟩ := F
  refine z_if_eq (pc := 5) (tgt := 21) dX11_source_5 (by decide) (fun k5 => ?_) (fun k5 => ?_)
  · replace F := F.1 k5
    refine z_bipush (pc := 21) (v := -2) dX11_source_21 (by decide) ?_
    exact q_retI (pc := 23) dX11_source_23 rfl F
  · replace F := F.2 k5
    refine z_iload_n (pc := 8) dX11_source_8 rfl rfl ?_
    refine z_iconst (pc := 9) (v := -1) dX11_source_9 (by decide) ?_
    refine z_icmp_eq (pc := 10) (tgt := 24) dX11_source_10 (by decide) (fun k4 => ?_) (fun k4 => ?_)
    · replace F := F.1 k4
      exact F
    · replace F := F.2 k4
      refine z_aload_n (pc := 13) dX11_source_13 rfl rfl ?_
      refine z_iload_n (pc := 14) dX11_source_14 rfl rfl ?_
      refine q_invV (pc := 15) (As := [.int x2]) (st := []) dX11_source_15 ok_X11_isThing ml_RX11_88 iv_X11_isThing pa_X11_isThing ⟨Nat.le_of_ble_eq_true rfl, Nat.le_of_ble_eq_true rfl⟩ (lyc rfl) (q_kI F (fun vh2 h2 F => ?_))
      obtain ⟨G2, F⟩ := F
      refine z_if_ne (pc := 18) (tgt := 24) dX11_source_18 (by decide) (fun k3 => ?_) (fun k3 => ?_)
      · replace F := F.1 k3
        exact F
      · replace F := F.2 k3
        refine z_bipush (pc := 21) (v := -2) dX11_source_21 (by decide) ?_
        exact q_retI (pc := 23) dX11_source_23 rfl F
theorem g_X11_source_24 {x1 : Int32} {x2 : Int32} {h : zHp} {Q : Int32 → zHp → Prop}  (G : zG h) (F : zcI M_X11_effectIs [.ref 164, .int x1, .int 0] h (fun vh1 h1 => zG h1 ∧ (vp_in (80 + (7 * x1)) 246 ∧ (zcI M_X11_changed [.ref 164, .int vh1] (wI h1 165 ((Int32.toNatClampNeg (80 + (7 * x1)))) x2) (fun vh2 h2 => zG h2 ∧ (Q vh2 h2)))))) : zlI M_X11_source 24 [some (.ref 164), some (.int x1), some (.int x2), none] [] h Q := by
  refine z_aload_n (pc := 24) dX11_source_24 rfl rfl ?_
  refine z_iload_n (pc := 25) dX11_source_25 rfl rfl ?_
  refine z_iconst (pc := 26) (v := 0) dX11_source_26 (by decide) ?_
  refine q_invV (pc := 27) (As := [.int x1, .int 0]) (st := []) dX11_source_27 ok_X11_effectIs ml_RX11_103 iv_X11_effectIs pa_X11_effectIs ⟨Nat.le_of_ble_eq_true rfl, Nat.le_of_ble_eq_true rfl⟩ (lyc rfl) (q_kI F (fun vh1 h1 F => ?_))
  obtain ⟨G1, F⟩ := F
  refine z_istore_n (pc := 30) (ls' := [some (.ref 164), some (.int x1), some (.int x2), some (.int vh1)]) dX11_source_30 rfl (by decide) rfl ?_
  refine z_aload_n (pc := 31) dX11_source_31 rfl rfl ?_
  refine q_getR (pc := 32) (i := 165) dX11_source_32 lk_RX11_7 (lyc rfl) (G1 164 0 165 rfl) ?_
  refine z_bipush (pc := 35) (v := 80) dX11_source_35 (by decide) ?_
  refine z_bipush (pc := 37) (v := 7) dX11_source_37 (by decide) ?_
  refine z_iload_n (pc := 39) dX11_source_39 rfl rfl ?_
  refine z_imul (pc := 40) dX11_source_40 ?_
  refine z_iadd (pc := 41) dX11_source_41 ?_
  refine z_iload_n (pc := 42) dX11_source_42 rfl rfl ?_
  obtain ⟨k2, F⟩ := F
  refine q_iast (pc := 43) (j := (Int32.toNatClampNeg (80 + (7 * x1)))) dX11_source_43 (lyc rfl) (zvn (lnc rfl) k2) rfl ?_
  refine z_aload_n (pc := 44) dX11_source_44 rfl rfl ?_
  refine z_iload_n (pc := 45) dX11_source_45 rfl rfl ?_
  refine q_invV (pc := 46) (As := [.int vh1]) (st := []) dX11_source_46 ok_X11_changed ml_RX11_167 iv_X11_changed pa_X11_changed ⟨Nat.le_of_ble_eq_true rfl, Nat.le_of_ble_eq_true rfl⟩ (lyc rfl) (q_kI F (fun vh2 h2 F => ?_))
  obtain ⟨G2, F⟩ := F
  exact q_retI (pc := 49) dX11_source_49 rfl F
theorem g_X11_lasts {x1 : Int32} {x2 : Int32} {h : zHp} {Q : Int32 → zHp → Prop}  (G : zG h) (F : zcI M_X11_isEffect [.ref 164, .int x1] h (fun vh1 h1 => zG h1 ∧ ((vh1 = 0 → (Q (-2) h1)) ∧ (¬ (vh1 = 0) → (zcI M_X11_in [.int x2, .int 0, .int 9] h1 (fun vh2 h2 => zG h2 ∧ ((¬ vh2 = 0 → (zcI M_X11_effectIs [.ref 164, .int x1, .int 6] h2 (fun vh3 h3 => zG h3 ∧ (vp_in ((80 + (7 * x1)) + 6) 246 ∧ (zcI M_X11_changed [.ref 164, .int vh3] (wI h3 165 ((Int32.toNatClampNeg ((80 + (7 * x1)) + 6))) x2) (fun vh4 h4 => zG h4 ∧ (Q vh4 h4))))))) ∧ (vh2 = 0 → (Q (-2) h2))))))))) : zcI M_X11_lasts [.ref 164, .int x1, .int x2] h Q := by
  show zw zNT zNT M_X11_lasts 0 [some (.ref 164), some (.int x1), some (.int x2), none] [] h _
  refine z_aload_n (pc := 0) dX11_lasts_0 rfl rfl ?_
  refine z_iload_n (pc := 1) dX11_lasts_1 rfl rfl ?_
  refine q_invV (pc := 2) (As := [.int x1]) (st := []) dX11_lasts_2 ok_X11_isEffect ml_RX11_183 iv_X11_isEffect pa_X11_isEffect ⟨Nat.le_of_ble_eq_true rfl, Nat.le_of_ble_eq_true rfl⟩ (lyc rfl) (q_kI F (fun vh1 h1 F => ?_))
  obtain ⟨G1, F⟩ := F
  refine z_if_eq (pc := 5) (tgt := 18) dX11_lasts_5 (by decide) (fun k7 => ?_) (fun k7 => ?_)
  · replace F := F.1 k7
    refine z_bipush (pc := 18) (v := -2) dX11_lasts_18 (by decide) ?_
    exact q_retI (pc := 20) dX11_lasts_20 rfl F
  · replace F := F.2 k7
    refine z_iload_n (pc := 8) dX11_lasts_8 rfl rfl ?_
    refine z_iconst (pc := 9) (v := 0) dX11_lasts_9 (by decide) ?_
    refine z_bipush (pc := 10) (v := 9) dX11_lasts_10 (by decide) ?_
    refine q_invS (pc := 12) (As := [.int x2, .int 0, .int 9]) (st := []) dX11_lasts_12 ok_X11_in ml_RX11_84 st_X11_in pa_X11_in ⟨Nat.le_of_ble_eq_true rfl, Nat.le_of_ble_eq_true rfl⟩ (q_kI F (fun vh2 h2 F => ?_))
    obtain ⟨G2, F⟩ := F
    refine z_if_ne (pc := 15) (tgt := 21) dX11_lasts_15 (by decide) (fun k6 => ?_) (fun k6 => ?_)
    · replace F := F.1 k6
      refine z_aload_n (pc := 21) dX11_lasts_21 rfl rfl ?_
      refine z_iload_n (pc := 22) dX11_lasts_22 rfl rfl ?_
      refine z_bipush (pc := 23) (v := 6) dX11_lasts_23 (by decide) ?_
      refine q_invV (pc := 25) (As := [.int x1, .int 6]) (st := []) dX11_lasts_25 ok_X11_effectIs ml_RX11_103 iv_X11_effectIs pa_X11_effectIs ⟨Nat.le_of_ble_eq_true rfl, Nat.le_of_ble_eq_true rfl⟩ (lyc rfl) (q_kI F (fun vh3 h3 F => ?_))
      obtain ⟨G3, F⟩ := F
      refine z_istore_n (pc := 28) (ls' := [some (.ref 164), some (.int x1), some (.int x2), some (.int vh3)]) dX11_lasts_28 rfl (by decide) rfl ?_
      refine z_aload_n (pc := 29) dX11_lasts_29 rfl rfl ?_
      refine q_getR (pc := 30) (i := 165) dX11_lasts_30 lk_RX11_7 (lyc rfl) (G3 164 0 165 rfl) ?_
      refine z_bipush (pc := 33) (v := 80) dX11_lasts_33 (by decide) ?_
      refine z_bipush (pc := 35) (v := 7) dX11_lasts_35 (by decide) ?_
      refine z_iload_n (pc := 37) dX11_lasts_37 rfl rfl ?_
      refine z_imul (pc := 38) dX11_lasts_38 ?_
      refine z_iadd (pc := 39) dX11_lasts_39 ?_
      refine z_bipush (pc := 40) (v := 6) dX11_lasts_40 (by decide) ?_
      refine z_iadd (pc := 42) dX11_lasts_42 ?_
      refine z_iload_n (pc := 43) dX11_lasts_43 rfl rfl ?_
      obtain ⟨k4, F⟩ := F
      refine q_iast (pc := 44) (j := (Int32.toNatClampNeg ((80 + (7 * x1)) + 6))) dX11_lasts_44 (lyc rfl) (zvn (lnc rfl) k4) rfl ?_
      refine z_aload_n (pc := 45) dX11_lasts_45 rfl rfl ?_
      refine z_iload_n (pc := 46) dX11_lasts_46 rfl rfl ?_
      refine q_invV (pc := 47) (As := [.int vh3]) (st := []) dX11_lasts_47 ok_X11_changed ml_RX11_167 iv_X11_changed pa_X11_changed ⟨Nat.le_of_ble_eq_true rfl, Nat.le_of_ble_eq_true rfl⟩ (lyc rfl) (q_kI F (fun vh4 h4 F => ?_))
      obtain ⟨G4, F⟩ := F
      exact q_retI (pc := 50) dX11_lasts_50 rfl F
    · replace F := F.2 k6
      refine z_bipush (pc := 18) (v := -2) dX11_lasts_18 (by decide) ?_
      exact q_retI (pc := 20) dX11_lasts_20 rfl F
theorem g_X11_goes {x1 : Int32} {x2 : Int32} {x3 : Int32} {x4 : Int32} {h : zHp} {Q : zHp → Prop}  (G : zG h) (F : vp_in x3 246 ∧ (zlV M_X11_goes 18 [some (.ref 164), some (.int x1), some (.int x2), some (.int x3), some (.int x4), some (.int (x1 + (x2 * x4)))] [] (wI h 165 ((Int32.toNatClampNeg x3)) ((rI h 165 ((Int32.toNatClampNeg x3))) - 1)) Q)) : zcV M_X11_goes [.ref 164, .int x1, .int x2, .int x3, .int x4] h Q := by
  show zw zNT zNT M_X11_goes 0 [some (.ref 164), some (.int x1), some (.int x2), some (.int x3), some (.int x4), none] [] h _
  refine z_aload_n (pc := 0) dX11_goes_0 rfl rfl ?_
  refine q_getR (pc := 1) (i := 165) dX11_goes_1 lk_RX11_7 (lyc rfl) (G 164 0 165 rfl) ?_
  refine z_iload_n (pc := 4) dX11_goes_4 rfl rfl ?_
  refine z_dup2 (pc := 5) dX11_goes_5 rfl rfl ?_
  obtain ⟨k1, F⟩ := F
  refine q_iald (pc := 6) (j := (Int32.toNatClampNeg x3)) (v := rI h 165 ((Int32.toNatClampNeg x3))) dX11_goes_6 (lyc rfl) (zvn (lnc rfl) k1) rfl rfl ?_
  refine z_iconst (pc := 7) (v := 1) dX11_goes_7 (by decide) ?_
  refine z_isub (pc := 8) dX11_goes_8 ?_
  refine q_iast (pc := 9) (j := (Int32.toNatClampNeg x3)) dX11_goes_9 (lyc rfl) (zvn (lnc rfl) k1) rfl ?_
  refine z_iload_n (pc := 10) dX11_goes_10 rfl rfl ?_
  refine z_iload_n (pc := 11) dX11_goes_11 rfl rfl ?_
  refine z_iload (pc := 12) dX11_goes_12 rfl ?_
  refine z_imul (pc := 14) dX11_goes_14 ?_
  refine z_iadd (pc := 15) dX11_goes_15 ?_
  refine z_istore (pc := 16) (ls' := [some (.ref 164), some (.int x1), some (.int x2), some (.int x3), some (.int x4), some (.int (x1 + (x2 * x4)))]) dX11_goes_16 (by decide) rfl ?_
  exact F
theorem g_X11_goes_18 {x1 : Int32} {x2 : Int32} {x3 : Int32} {x4 : Int32} {x5 : Int32} {h : zHp} {Q : zHp → Prop}  (G : zG h) (F : vp_in x3 246 ∧ ((x1 + (x2 * (rI h 165 ((Int32.toNatClampNeg x3)))) ≤ x5 → (Q h)) ∧ (¬ (x1 + (x2 * (rI h 165 ((Int32.toNatClampNeg x3)))) ≤ x5) → (vp_in (x5 + x2) 246 ∧ (vp_in x5 246 ∧ (zlV M_X11_goes 18 [some (.ref 164), some (.int x1), some (.int x2), some (.int x3), some (.int x4), some (.int (x5 + 1))] [] (wI h 165 ((Int32.toNatClampNeg x5)) (rI h 165 ((Int32.toNatClampNeg (x5 + x2))))) Q)))))) : zlV M_X11_goes 18 [some (.ref 164), some (.int x1), some (.int x2), some (.int x3), some (.int x4), some (.int x5)] [] h Q := by
  refine z_iload (pc := 18) dX11_goes_18 rfl ?_
  refine z_iload_n (pc := 20) dX11_goes_20 rfl rfl ?_
  refine z_iload_n (pc := 21) dX11_goes_21 rfl rfl ?_
  refine z_aload_n (pc := 22) dX11_goes_22 rfl rfl ?_
  refine q_getR (pc := 23) (i := 165) dX11_goes_23 lk_RX11_7 (lyc rfl) (G 164 0 165 rfl) ?_
  refine z_iload_n (pc := 26) dX11_goes_26 rfl rfl ?_
  obtain ⟨k1, F⟩ := F
  refine q_iald (pc := 27) (j := (Int32.toNatClampNeg x3)) (v := rI h 165 ((Int32.toNatClampNeg x3))) dX11_goes_27 (lyc rfl) (zvn (lnc rfl) k1) rfl rfl ?_
  refine z_imul (pc := 28) dX11_goes_28 ?_
  refine z_iadd (pc := 29) dX11_goes_29 ?_
  refine z_icmp_ge (pc := 30) (tgt := 55) dX11_goes_30 (by decide) (fun k4 => ?_) (fun k4 => ?_)
  · replace F := F.1 k4
    exact q_retV (pc := 55) dX11_goes_55 rfl F
  · replace F := F.2 k4
    refine z_aload_n (pc := 33) dX11_goes_33 rfl rfl ?_
    refine q_getR (pc := 34) (i := 165) dX11_goes_34 lk_RX11_7 (lyc rfl) (G 164 0 165 rfl) ?_
    refine z_iload (pc := 37) dX11_goes_37 rfl ?_
    refine z_aload_n (pc := 39) dX11_goes_39 rfl rfl ?_
    refine q_getR (pc := 40) (i := 165) dX11_goes_40 lk_RX11_7 (lyc rfl) (G 164 0 165 rfl) ?_
    refine z_iload (pc := 43) dX11_goes_43 rfl ?_
    refine z_iload_n (pc := 45) dX11_goes_45 rfl rfl ?_
    refine z_iadd (pc := 46) dX11_goes_46 ?_
    obtain ⟨k2, F⟩ := F
    refine q_iald (pc := 47) (j := (Int32.toNatClampNeg (x5 + x2))) (v := rI h 165 ((Int32.toNatClampNeg (x5 + x2)))) dX11_goes_47 (lyc rfl) (zvn (lnc rfl) k2) rfl rfl ?_
    obtain ⟨k3, F⟩ := F
    refine q_iast (pc := 48) (j := (Int32.toNatClampNeg x5)) dX11_goes_48 (lyc rfl) (zvn (lnc rfl) k3) rfl ?_
    refine z_iinc (pc := 49) (v := x5 + 1) (ls' := [some (.ref 164), some (.int x1), some (.int x2), some (.int x3), some (.int x4), some (.int (x5 + 1))]) dX11_goes_49 (by decide) rfl rfl rfl ?_
    refine z_goto (pc := 52) (tgt := 18) dX11_goes_52 (by decide) ?_
    exact F
theorem g_X11_ends {x1 : Int32} {h : zHp} {Q : Int32 → zHp → Prop}  (G : zG h) (F : zcI M_X11_isEffect [.ref 164, .int x1] h (fun vh1 h1 => zG h1 ∧ ((¬ vh1 = 0 → (zcV M_X11_goes [.ref 164, .int 80, .int 7, .int 239, .int x1] h1 (fun h2 => zG h2 ∧ (zcI M_X11_changed [.ref 164, .int (rI h2 165 239)] h2 (fun vh3 h3 => zG h3 ∧ (Q vh3 h3)))))) ∧ (vh1 = 0 → (Q (-2) h1))))) : zcI M_X11_ends [.ref 164, .int x1] h Q := by
  show zw zNT zNT M_X11_ends 0 [some (.ref 164), some (.int x1)] [] h _
  refine z_aload_n (pc := 0) dX11_ends_0 rfl rfl ?_
  refine z_iload_n (pc := 1) dX11_ends_1 rfl rfl ?_
  refine q_invV (pc := 2) (As := [.int x1]) (st := []) dX11_ends_2 ok_X11_isEffect ml_RX11_183 iv_X11_isEffect pa_X11_isEffect ⟨Nat.le_of_ble_eq_true rfl, Nat.le_of_ble_eq_true rfl⟩ (lyc rfl) (q_kI F (fun vh1 h1 F => ?_))
  obtain ⟨G1, F⟩ := F
  refine z_if_ne (pc := 5) (tgt := 11) dX11_ends_5 (by decide) (fun k4 => ?_) (fun k4 => ?_)
  · replace F := F.1 k4
    refine z_aload_n (pc := 11) dX11_ends_11 rfl rfl ?_
    refine z_bipush (pc := 12) (v := 80) dX11_ends_12 (by decide) ?_
    refine z_bipush (pc := 14) (v := 7) dX11_ends_14 (by decide) ?_
    refine z_sipush (pc := 16) (v := 239) dX11_ends_16 (by decide) ?_
    refine z_iload_n (pc := 19) dX11_ends_19 rfl rfl ?_
    refine q_invV (pc := 20) (As := [.int 80, .int 7, .int 239, .int x1]) (st := []) dX11_ends_20 ok_X11_goes ml_RX11_186 iv_X11_goes pa_X11_goes ⟨Nat.le_of_ble_eq_true rfl, Nat.le_of_ble_eq_true rfl⟩ (lyc rfl) (q_kV F (fun h2 F => ?_))
    obtain ⟨G2, F⟩ := F
    refine z_aload_n (pc := 23) dX11_ends_23 rfl rfl ?_
    refine z_aload_n (pc := 24) dX11_ends_24 rfl rfl ?_
    refine q_getR (pc := 25) (i := 165) dX11_ends_25 lk_RX11_7 (lyc rfl) (G2 164 0 165 rfl) ?_
    refine z_sipush (pc := 28) (v := 239) dX11_ends_28 (by decide) ?_
    refine q_iald (pc := 31) (j := 239) (v := rI h2 165 239) dX11_ends_31 (lyc rfl) (zvl (lnc rfl) (by decide)) (by decide) rfl ?_
    refine q_invV (pc := 32) (As := [.int (rI h2 165 239)]) (st := []) dX11_ends_32 ok_X11_changed ml_RX11_167 iv_X11_changed pa_X11_changed ⟨Nat.le_of_ble_eq_true rfl, Nat.le_of_ble_eq_true rfl⟩ (lyc rfl) (q_kI F (fun vh3 h3 F => ?_))
    obtain ⟨G3, F⟩ := F
    exact q_retI (pc := 35) dX11_ends_35 rfl F
  · replace F := F.2 k4
    refine z_bipush (pc := 8) (v := -2) dX11_ends_8 (by decide) ?_
    exact q_retI (pc := 10) dX11_ends_10 rfl F
theorem g_X11_order {x1 : Int32} {h : zHp} {Q : Int32 → zHp → Prop}  (G : zG h) (F : (-1 ≤ x1 → (zcV M_X11_makes [.ref 164, .int 5] h (fun h1 => zG h1 ∧ ((¬ x1 = -1 → ((rI h1 164 7 ≤ x1 → (Q (-1) h1)) ∧ (¬ (rI h1 164 7 ≤ x1) → (vp_in x1 10 ∧ (Q (rI h1 170 ((Int32.toNatClampNeg x1))) h1))))) ∧ (x1 = -1 → (Q (rI h1 164 7) h1)))))) ∧ (¬ (-1 ≤ x1) → (Q (-2) h))) : zcI M_X11_order [.ref 164, .int x1] h Q := by
  show zw zNT zNT M_X11_order 0 [some (.ref 164), some (.int x1)] [] h _
  refine z_iload_n (pc := 0) dX11_order_0 rfl rfl ?_
  refine z_iconst (pc := 1) (v := -1) dX11_order_1 (by decide) ?_
  refine z_icmp_ge (pc := 2) (tgt := 8) dX11_order_2 (by decide) (fun k5 => ?_) (fun k5 => ?_)
  · replace F := F.1 k5
    refine z_aload_n (pc := 8) dX11_order_8 rfl rfl ?_
    refine z_iconst (pc := 9) (v := 5) dX11_order_9 (by decide) ?_
    refine q_invV (pc := 10) (As := [.int 5]) (st := []) dX11_order_10 ok_X11_makes ml_RX11_145 iv_X11_makes pa_X11_makes ⟨Nat.le_of_ble_eq_true rfl, Nat.le_of_ble_eq_true rfl⟩ (lyc rfl) (q_kV F (fun h1 F => ?_))
    obtain ⟨G1, F⟩ := F
    refine z_iload_n (pc := 13) dX11_order_13 rfl rfl ?_
    refine z_iconst (pc := 14) (v := -1) dX11_order_14 (by decide) ?_
    refine z_icmp_ne (pc := 15) (tgt := 25) dX11_order_15 (by decide) (fun k4 => ?_) (fun k4 => ?_)
    · replace F := F.1 k4
      refine z_iload_n (pc := 25) dX11_order_25 rfl rfl ?_
      refine z_aload_n (pc := 26) dX11_order_26 rfl rfl ?_
      refine q_getI (pc := 27) (v := rI h1 164 7) dX11_order_27 lk_RX11_121 (lyc rfl) rfl ?_
      refine z_icmp_ge (pc := 30) (tgt := 42) dX11_order_30 (by decide) (fun k3 => ?_) (fun k3 => ?_)
      · replace F := F.1 k3
        refine z_iconst (pc := 42) (v := -1) dX11_order_42 (by decide) ?_
        exact q_retI (pc := 43) dX11_order_43 rfl F
      · replace F := F.2 k3
        refine z_aload_n (pc := 33) dX11_order_33 rfl rfl ?_
        refine q_getR (pc := 34) (i := 170) dX11_order_34 lk_RX11_25 (lyc rfl) (G1 164 6 170 rfl) ?_
        refine z_iload_n (pc := 37) dX11_order_37 rfl rfl ?_
        obtain ⟨k2, F⟩ := F
        refine q_iald (pc := 38) (j := (Int32.toNatClampNeg x1)) (v := rI h1 170 ((Int32.toNatClampNeg x1))) dX11_order_38 (lyc rfl) (zvn (lnc rfl) k2) rfl rfl ?_
        refine z_goto (pc := 39) (tgt := 43) dX11_order_39 (by decide) ?_
        exact q_retI (pc := 43) dX11_order_43 rfl F
    · replace F := F.2 k4
      refine z_aload_n (pc := 18) dX11_order_18 rfl rfl ?_
      refine q_getI (pc := 19) (v := rI h1 164 7) dX11_order_19 lk_RX11_121 (lyc rfl) rfl ?_
      refine z_goto (pc := 22) (tgt := 43) dX11_order_22 (by decide) ?_
      exact q_retI (pc := 43) dX11_order_43 rfl F
  · replace F := F.2 k5
    refine z_bipush (pc := 5) (v := -2) dX11_order_5 (by decide) ?_
    exact q_retI (pc := 7) dX11_order_7 rfl F
theorem g_X11_depends {x1 : Int32} {x2 : Int32} {h : zHp} {Q : Int32 → zHp → Prop}  (G : zG h) (F : zcI M_X11_isEffect [.ref 164, .int x1] h (fun vh1 h1 => zG h1 ∧ ((vh1 = 0 → (Q (-2) h1)) ∧ (¬ (vh1 = 0) → (zcI M_X11_isEffect [.ref 164, .int x2] h1 (fun vh2 h2 => zG h2 ∧ ((vh2 = 0 → (Q (-2) h2)) ∧ (¬ (vh2 = 0) → ((¬ x1 = x2 → (zcI M_X11_effectIs [.ref 164, .int x1, .int 1] h2 (fun vh3 h3 => zG h3 ∧ (zcI M_X11_layer [.int vh3] h3 (fun vh4 h4 => zG h4 ∧ (zcI M_X11_effectIs [.ref 164, .int x2, .int 1] h4 (fun vh5 h5 => zG h5 ∧ (zcI M_X11_layer [.int vh5] h5 (fun vh6 h6 => zG h6 ∧ ((¬ vh4 = vh6 → (Q (-3) h6)) ∧ (vh4 = vh6 → (zcI M_X11_doesSomething [.ref 164, .int x1] h6 (fun vh7 h7 => zG h7 ∧ ((vh7 = 0 → (Q (-3) h7)) ∧ (¬ (vh7 = 0) → (zcI M_X11_doesSomething [.ref 164, .int x2] h7 (fun vh8 h8 => zG h8 ∧ ((¬ vh8 = 0 → (zcV M_X11_makes [.ref 164, .int vh4] h8 (fun h9 => zG h9 ∧ (zcI M_X11_doesDepend [.ref 164, .int x1, .int x2] h9 (fun vh10 h10 => zG h10 ∧ ((vh10 = 0 → (Q 0 h10)) ∧ (¬ (vh10 = 0) → (Q 1 h10)))))))) ∧ (vh8 = 0 → (Q (-3) h8)))))))))))))))))))) ∧ (x1 = x2 → (Q (-2) h2))))))))))) : zcI M_X11_depends [.ref 164, .int x1, .int x2] h Q := by
  show zw zNT zNT M_X11_depends 0 [some (.ref 164), some (.int x1), some (.int x2), none] [] h _
  refine z_aload_n (pc := 0) dX11_depends_0 rfl rfl ?_
  refine z_iload_n (pc := 1) dX11_depends_1 rfl rfl ?_
  refine q_invV (pc := 2) (As := [.int x1]) (st := []) dX11_depends_2 ok_X11_isEffect ml_RX11_183 iv_X11_isEffect pa_X11_isEffect ⟨Nat.le_of_ble_eq_true rfl, Nat.le_of_ble_eq_true rfl⟩ (lyc rfl) (q_kI F (fun vh1 h1 F => ?_))
  obtain ⟨G1, F⟩ := F
  refine z_if_eq (pc := 5) (tgt := 21) dX11_depends_5 (by decide) (fun k17 => ?_) (fun k17 => ?_)
  · replace F := F.1 k17
    refine z_bipush (pc := 21) (v := -2) dX11_depends_21 (by decide) ?_
    exact q_retI (pc := 23) dX11_depends_23 rfl F
  · replace F := F.2 k17
    refine z_aload_n (pc := 8) dX11_depends_8 rfl rfl ?_
    refine z_iload_n (pc := 9) dX11_depends_9 rfl rfl ?_
    refine q_invV (pc := 10) (As := [.int x2]) (st := []) dX11_depends_10 ok_X11_isEffect ml_RX11_183 iv_X11_isEffect pa_X11_isEffect ⟨Nat.le_of_ble_eq_true rfl, Nat.le_of_ble_eq_true rfl⟩ (lyc rfl) (q_kI F (fun vh2 h2 F => ?_))
    obtain ⟨G2, F⟩ := F
    refine z_if_eq (pc := 13) (tgt := 21) dX11_depends_13 (by decide) (fun k16 => ?_) (fun k16 => ?_)
    · replace F := F.1 k16
      refine z_bipush (pc := 21) (v := -2) dX11_depends_21 (by decide) ?_
      exact q_retI (pc := 23) dX11_depends_23 rfl F
    · replace F := F.2 k16
      refine z_iload_n (pc := 16) dX11_depends_16 rfl rfl ?_
      refine z_iload_n (pc := 17) dX11_depends_17 rfl rfl ?_
      refine z_icmp_ne (pc := 18) (tgt := 24) dX11_depends_18 (by decide) (fun k15 => ?_) (fun k15 => ?_)
      · replace F := F.1 k15
        refine z_aload_n (pc := 24) dX11_depends_24 rfl rfl ?_
        refine z_iload_n (pc := 25) dX11_depends_25 rfl rfl ?_
        refine z_iconst (pc := 26) (v := 1) dX11_depends_26 (by decide) ?_
        refine q_invV (pc := 27) (As := [.int x1, .int 1]) (st := []) dX11_depends_27 ok_X11_effectIs ml_RX11_103 iv_X11_effectIs pa_X11_effectIs ⟨Nat.le_of_ble_eq_true rfl, Nat.le_of_ble_eq_true rfl⟩ (lyc rfl) (q_kI F (fun vh3 h3 F => ?_))
        obtain ⟨G3, F⟩ := F
        refine q_invS (pc := 30) (As := [.int vh3]) (st := []) dX11_depends_30 ok_X11_layer ml_RX11_125 st_X11_layer pa_X11_layer ⟨Nat.le_of_ble_eq_true rfl, Nat.le_of_ble_eq_true rfl⟩ (q_kI F (fun vh4 h4 F => ?_))
        obtain ⟨G4, F⟩ := F
        refine z_istore_n (pc := 33) (ls' := [some (.ref 164), some (.int x1), some (.int x2), some (.int vh4)]) dX11_depends_33 rfl (by decide) rfl ?_
        refine z_iload_n (pc := 34) dX11_depends_34 rfl rfl ?_
        refine z_aload_n (pc := 35) dX11_depends_35 rfl rfl ?_
        refine z_iload_n (pc := 36) dX11_depends_36 rfl rfl ?_
        refine z_iconst (pc := 37) (v := 1) dX11_depends_37 (by decide) ?_
        refine q_invV (pc := 38) (As := [.int x2, .int 1]) (st := [.int vh4]) dX11_depends_38 ok_X11_effectIs ml_RX11_103 iv_X11_effectIs pa_X11_effectIs ⟨Nat.le_of_ble_eq_true rfl, Nat.le_of_ble_eq_true rfl⟩ (lyc rfl) (q_kI F (fun vh5 h5 F => ?_))
        obtain ⟨G5, F⟩ := F
        refine q_invS (pc := 41) (As := [.int vh5]) (st := [.int vh4]) dX11_depends_41 ok_X11_layer ml_RX11_125 st_X11_layer pa_X11_layer ⟨Nat.le_of_ble_eq_true rfl, Nat.le_of_ble_eq_true rfl⟩ (q_kI F (fun vh6 h6 F => ?_))
        obtain ⟨G6, F⟩ := F
        refine z_icmp_ne (pc := 44) (tgt := 63) dX11_depends_44 (by decide) (fun k14 => ?_) (fun k14 => ?_)
        · replace F := F.1 k14
          refine z_bipush (pc := 63) (v := -3) dX11_depends_63 (by decide) ?_
          exact q_retI (pc := 65) dX11_depends_65 rfl F
        · replace F := F.2 k14
          refine z_aload_n (pc := 47) dX11_depends_47 rfl rfl ?_
          refine z_iload_n (pc := 48) dX11_depends_48 rfl rfl ?_
          refine q_invV (pc := 49) (As := [.int x1]) (st := []) dX11_depends_49 ok_X11_doesSomething ml_RX11_129 iv_X11_doesSomething pa_X11_doesSomething ⟨Nat.le_of_ble_eq_true rfl, Nat.le_of_ble_eq_true rfl⟩ (lyc rfl) (q_kI F (fun vh7 h7 F => ?_))
          obtain ⟨G7, F⟩ := F
          refine z_if_eq (pc := 52) (tgt := 63) dX11_depends_52 (by decide) (fun k13 => ?_) (fun k13 => ?_)
          · replace F := F.1 k13
            refine z_bipush (pc := 63) (v := -3) dX11_depends_63 (by decide) ?_
            exact q_retI (pc := 65) dX11_depends_65 rfl F
          · replace F := F.2 k13
            refine z_aload_n (pc := 55) dX11_depends_55 rfl rfl ?_
            refine z_iload_n (pc := 56) dX11_depends_56 rfl rfl ?_
            refine q_invV (pc := 57) (As := [.int x2]) (st := []) dX11_depends_57 ok_X11_doesSomething ml_RX11_129 iv_X11_doesSomething pa_X11_doesSomething ⟨Nat.le_of_ble_eq_true rfl, Nat.le_of_ble_eq_true rfl⟩ (lyc rfl) (q_kI F (fun vh8 h8 F => ?_))
            obtain ⟨G8, F⟩ := F
            refine z_if_ne (pc := 60) (tgt := 66) dX11_depends_60 (by decide) (fun k12 => ?_) (fun k12 => ?_)
            · replace F := F.1 k12
              refine z_aload_n (pc := 66) dX11_depends_66 rfl rfl ?_
              refine z_iload_n (pc := 67) dX11_depends_67 rfl rfl ?_
              refine q_invV (pc := 68) (As := [.int vh4]) (st := []) dX11_depends_68 ok_X11_makes ml_RX11_145 iv_X11_makes pa_X11_makes ⟨Nat.le_of_ble_eq_true rfl, Nat.le_of_ble_eq_true rfl⟩ (lyc rfl) (q_kV F (fun h9 F => ?_))
              obtain ⟨G9, F⟩ := F
              refine z_aload_n (pc := 71) dX11_depends_71 rfl rfl ?_
              refine z_iload_n (pc := 72) dX11_depends_72 rfl rfl ?_
              refine z_iload_n (pc := 73) dX11_depends_73 rfl rfl ?_
              refine q_invV (pc := 74) (As := [.int x1, .int x2]) (st := []) dX11_depends_74 ok_X11_doesDepend ml_RX11_118 iv_X11_doesDepend pa_X11_doesDepend ⟨Nat.le_of_ble_eq_true rfl, Nat.le_of_ble_eq_true rfl⟩ (lyc rfl) (q_kI F (fun vh10 h10 F => ?_))
              obtain ⟨G10, F⟩ := F
              refine z_if_eq (pc := 77) (tgt := 84) dX11_depends_77 (by decide) (fun k11 => ?_) (fun k11 => ?_)
              · replace F := F.1 k11
                refine z_iconst (pc := 84) (v := 0) dX11_depends_84 (by decide) ?_
                exact q_retI (pc := 85) dX11_depends_85 rfl F
              · replace F := F.2 k11
                refine z_iconst (pc := 80) (v := 1) dX11_depends_80 (by decide) ?_
                refine z_goto (pc := 81) (tgt := 85) dX11_depends_81 (by decide) ?_
                exact q_retI (pc := 85) dX11_depends_85 rfl F
            · replace F := F.2 k12
              refine z_bipush (pc := 63) (v := -3) dX11_depends_63 (by decide) ?_
              exact q_retI (pc := 65) dX11_depends_65 rfl F
      · replace F := F.2 k15
        refine z_bipush (pc := 21) (v := -2) dX11_depends_21 (by decide) ?_
        exact q_retI (pc := 23) dX11_depends_23 rfl F
theorem g_X11_ruleIs {x1 : Int32} {x2 : Int32} {h : zHp} {Q : Int32 → zHp → Prop}  (G : zG h) (F : vp_in ((150 + (4 * x1)) + x2) 246 ∧ (Q (rI h 165 ((Int32.toNatClampNeg ((150 + (4 * x1)) + x2)))) h)) : zcI M_X11_ruleIs [.ref 164, .int x1, .int x2] h Q := by
  show zw zNT zNT M_X11_ruleIs 0 [some (.ref 164), some (.int x1), some (.int x2)] [] h _
  refine z_aload_n (pc := 0) dX11_ruleIs_0 rfl rfl ?_
  refine q_getR (pc := 1) (i := 165) dX11_ruleIs_1 lk_RX11_7 (lyc rfl) (G 164 0 165 rfl) ?_
  refine z_sipush (pc := 4) (v := 150) dX11_ruleIs_4 (by decide) ?_
  refine z_iconst (pc := 7) (v := 4) dX11_ruleIs_7 (by decide) ?_
  refine z_iload_n (pc := 8) dX11_ruleIs_8 rfl rfl ?_
  refine z_imul (pc := 9) dX11_ruleIs_9 ?_
  refine z_iadd (pc := 10) dX11_ruleIs_10 ?_
  refine z_iload_n (pc := 11) dX11_ruleIs_11 rfl rfl ?_
  refine z_iadd (pc := 12) dX11_ruleIs_12 ?_
  obtain ⟨k1, F⟩ := F
  refine q_iald (pc := 13) (j := (Int32.toNatClampNeg ((150 + (4 * x1)) + x2))) (v := rI h 165 ((Int32.toNatClampNeg ((150 + (4 * x1)) + x2)))) dX11_ruleIs_13 (lyc rfl) (zvn (lnc rfl) k1) rfl rfl ?_
  exact q_retI (pc := 14) dX11_ruleIs_14 rfl F
theorem g_X11_isRule {x1 : Int32} {h : zHp} {Q : Int32 → zHp → Prop}  (G : zG h) (F : zcI M_X11_in [.int x1, .int 0, .int ((rI h 165 240) - 1)] h (fun vh1 h1 => zG h1 ∧ (zB vh1 ∧ Q vh1 h1))) : zcI M_X11_isRule [.ref 164, .int x1] h Q := by
  show zw zNT zNT M_X11_isRule 0 [some (.ref 164), some (.int x1)] [] h _
  refine z_iload_n (pc := 0) dX11_isRule_0 rfl rfl ?_
  refine z_iconst (pc := 1) (v := 0) dX11_isRule_1 (by decide) ?_
  refine z_aload_n (pc := 2) dX11_isRule_2 rfl rfl ?_
  refine q_getR (pc := 3) (i := 165) dX11_isRule_3 lk_RX11_7 (lyc rfl) (G 164 0 165 rfl) ?_
  refine z_sipush (pc := 6) (v := 240) dX11_isRule_6 (by decide) ?_
  refine q_iald (pc := 9) (j := 240) (v := rI h 165 240) dX11_isRule_9 (lyc rfl) (zvl (lnc rfl) (by decide)) (by decide) rfl ?_
  refine z_iconst (pc := 10) (v := 1) dX11_isRule_10 (by decide) ?_
  refine z_isub (pc := 11) dX11_isRule_11 ?_
  refine q_invS (pc := 12) (As := [.int x1, .int 0, .int ((rI h 165 240) - 1)]) (st := []) dX11_isRule_12 ok_X11_in ml_RX11_84 st_X11_in pa_X11_in ⟨Nat.le_of_ble_eq_true rfl, Nat.le_of_ble_eq_true rfl⟩ (q_kI F (fun vh1 h1 F => ?_))
  obtain ⟨G1, F⟩ := F
  exact q_retB (pc := 15) dX11_isRule_15 rfl F.1 F.2
theorem g_X11_rule {x1 : Int32} {x2 : Int32} {x3 : Int32} {x4 : Int32} {h : zHp} {Q : Int32 → zHp → Prop}  (G : zG h) (F : zcI M_X11_in [.int x1, .int 0, .int 4] h (fun vh1 h1 => zG h1 ∧ ((vh1 = 0 → (Q (-2) h1)) ∧ (¬ (vh1 = 0) → (zcI M_X11_isScope [.int x2, .int x3] h1 (fun vh2 h2 => zG h2 ∧ ((vh2 = 0 → (Q (-2) h2)) ∧ (¬ (vh2 = 0) → ((¬ x1 = 0 → (zlI M_X11_rule 32 [some (.ref 164), some (.int x1), some (.int x2), some (.int x3), some (.int x4), none] [] h2 Q)) ∧ (x1 = 0 → (zcI M_X11_in [.int x4, .int 1, .int 99] h2 (fun vh3 h3 => zG h3 ∧ ((vh3 = 0 → (Q (-2) h3)) ∧ (¬ (vh3 = 0) → (zlI M_X11_rule 32 [some (.ref 164), some (.int x1), some (.int x2), some (.int x3), some (.int x4), none] [] h3 Q))))))))))))))) : zcI M_X11_rule [.ref 164, .int x1, .int x2, .int x3, .int x4] h Q := by
  show zw zNT zNT M_X11_rule 0 [some (.ref 164), some (.int x1), some (.int x2), some (.int x3), some (.int x4), none] [] h _
  refine z_iload_n (pc := 0) dX11_rule_0 rfl rfl ?_
  refine z_iconst (pc := 1) (v := 0) dX11_rule_1 (by decide) ?_
  refine z_iconst (pc := 2) (v := 4) dX11_rule_2 (by decide) ?_
  refine q_invS (pc := 3) (As := [.int x1, .int 0, .int 4]) (st := []) dX11_rule_3 ok_X11_in ml_RX11_84 st_X11_in pa_X11_in ⟨Nat.le_of_ble_eq_true rfl, Nat.le_of_ble_eq_true rfl⟩ (q_kI F (fun vh1 h1 F => ?_))
  obtain ⟨G1, F⟩ := F
  refine z_if_eq (pc := 6) (tgt := 48) dX11_rule_6 (by decide) (fun k7 => ?_) (fun k7 => ?_)
  · replace F := F.1 k7
    refine z_bipush (pc := 48) (v := -2) dX11_rule_48 (by decide) ?_
    exact q_retI (pc := 50) dX11_rule_50 rfl F
  · replace F := F.2 k7
    refine z_iload_n (pc := 9) dX11_rule_9 rfl rfl ?_
    refine z_iload_n (pc := 10) dX11_rule_10 rfl rfl ?_
    refine q_invS (pc := 11) (As := [.int x2, .int x3]) (st := []) dX11_rule_11 ok_X11_isScope ml_RX11_173 st_X11_isScope pa_X11_isScope ⟨Nat.le_of_ble_eq_true rfl, Nat.le_of_ble_eq_true rfl⟩ (q_kI F (fun vh2 h2 F => ?_))
    obtain ⟨G2, F⟩ := F
    refine z_if_eq (pc := 14) (tgt := 48) dX11_rule_14 (by decide) (fun k6 => ?_) (fun k6 => ?_)
    · replace F := F.1 k6
      refine z_bipush (pc := 48) (v := -2) dX11_rule_48 (by decide) ?_
      exact q_retI (pc := 50) dX11_rule_50 rfl F
    · replace F := F.2 k6
      refine z_iload_n (pc := 17) dX11_rule_17 rfl rfl ?_
      refine z_if_ne (pc := 18) (tgt := 32) dX11_rule_18 (by decide) (fun k5 => ?_) (fun k5 => ?_)
      · replace F := F.1 k5
        exact F
      · replace F := F.2 k5
        refine z_iload (pc := 21) dX11_rule_21 rfl ?_
        refine z_iconst (pc := 23) (v := 1) dX11_rule_23 (by decide) ?_
        refine z_bipush (pc := 24) (v := 99) dX11_rule_24 (by decide) ?_
        refine q_invS (pc := 26) (As := [.int x4, .int 1, .int 99]) (st := []) dX11_rule_26 ok_X11_in ml_RX11_84 st_X11_in pa_X11_in ⟨Nat.le_of_ble_eq_true rfl, Nat.le_of_ble_eq_true rfl⟩ (q_kI F (fun vh3 h3 F => ?_))
        obtain ⟨G3, F⟩ := F
        refine z_if_eq (pc := 29) (tgt := 48) dX11_rule_29 (by decide) (fun k4 => ?_) (fun k4 => ?_)
        · replace F := F.1 k4
          refine z_bipush (pc := 48) (v := -2) dX11_rule_48 (by decide) ?_
          exact q_retI (pc := 50) dX11_rule_50 rfl F
        · replace F := F.2 k4
          exact F
theorem g_X11_rule_32 {x1 : Int32} {x2 : Int32} {x3 : Int32} {x4 : Int32} {h : zHp} {Q : Int32 → zHp → Prop}  (G : zG h) (F : (¬ x1 = 3 → (zlI M_X11_rule 51 [some (.ref 164), some (.int x1), some (.int x2), some (.int x3), some (.int x4), none] [] h Q)) ∧ (x1 = 3 → (zcI M_X11_in [.int x4, .int 0, .int 7] h (fun vh1 h1 => zG h1 ∧ ((¬ vh1 = 0 → (zlI M_X11_rule 51 [some (.ref 164), some (.int x1), some (.int x2), some (.int x3), some (.int x4), none] [] h1 Q)) ∧ (vh1 = 0 → (Q (-2) h1))))))) : zlI M_X11_rule 32 [some (.ref 164), some (.int x1), some (.int x2), some (.int x3), some (.int x4), none] [] h Q := by
  refine z_iload_n (pc := 32) dX11_rule_32 rfl rfl ?_
  refine z_iconst (pc := 33) (v := 3) dX11_rule_33 (by decide) ?_
  refine z_icmp_ne (pc := 34) (tgt := 51) dX11_rule_34 (by decide) (fun k3 => ?_) (fun k3 => ?_)
  · replace F := F.1 k3
    exact F
  · replace F := F.2 k3
    refine z_iload (pc := 37) dX11_rule_37 rfl ?_
    refine z_iconst (pc := 39) (v := 0) dX11_rule_39 (by decide) ?_
    refine z_bipush (pc := 40) (v := 7) dX11_rule_40 (by decide) ?_
    refine q_invS (pc := 42) (As := [.int x4, .int 0, .int 7]) (st := []) dX11_rule_42 ok_X11_in ml_RX11_84 st_X11_in pa_X11_in ⟨Nat.le_of_ble_eq_true rfl, Nat.le_of_ble_eq_true rfl⟩ (q_kI F (fun vh1 h1 F => ?_))
    obtain ⟨G1, F⟩ := F
    refine z_if_ne (pc := 45) (tgt := 51) dX11_rule_45 (by decide) (fun k2 => ?_) (fun k2 => ?_)
    · replace F := F.1 k2
      exact F
    · replace F := F.2 k2
      refine z_bipush (pc := 48) (v := -2) dX11_rule_48 (by decide) ?_
      exact q_retI (pc := 50) dX11_rule_50 rfl F
theorem g_X11_rule_51 {x1 : Int32} {x2 : Int32} {x3 : Int32} {x4 : Int32} {h : zHp} {Q : Int32 → zHp → Prop}  (G : zG h) (F : (¬ rI h 165 240 = 8 → (vp_in (150 + (4 * (rI h 165 240))) 246 ∧ (vp_in ((150 + (4 * (rI h 165 240))) + 1) 246 ∧ (vp_in ((150 + (4 * (rI h 165 240))) + 2) 246 ∧ (vp_in ((150 + (4 * (rI h 165 240))) + 3) 246 ∧ (Q (((rI (wI (wI (wI (wI h 165 ((Int32.toNatClampNeg (150 + (4 * (rI h 165 240))))) x1) 165 ((Int32.toNatClampNeg ((150 + (4 * (rI h 165 240))) + 1))) x2) 165 ((Int32.toNatClampNeg ((150 + (4 * (rI h 165 240))) + 2))) x3) 165 ((Int32.toNatClampNeg ((150 + (4 * (rI h 165 240))) + 3))) x4) 165 240) + 1) - 1) (wI (wI (wI (wI (wI h 165 ((Int32.toNatClampNeg (150 + (4 * (rI h 165 240))))) x1) 165 ((Int32.toNatClampNeg ((150 + (4 * (rI h 165 240))) + 1))) x2) 165 ((Int32.toNatClampNeg ((150 + (4 * (rI h 165 240))) + 2))) x3) 165 ((Int32.toNatClampNeg ((150 + (4 * (rI h 165 240))) + 3))) x4) 165 240 ((rI (wI (wI (wI (wI h 165 ((Int32.toNatClampNeg (150 + (4 * (rI h 165 240))))) x1) 165 ((Int32.toNatClampNeg ((150 + (4 * (rI h 165 240))) + 1))) x2) 165 ((Int32.toNatClampNeg ((150 + (4 * (rI h 165 240))) + 2))) x3) 165 ((Int32.toNatClampNeg ((150 + (4 * (rI h 165 240))) + 3))) x4) 165 240) + 1)))))))) ∧ (rI h 165 240 = 8 → (Q (-4) h))) : zlI M_X11_rule 51 [some (.ref 164), some (.int x1), some (.int x2), some (.int x3), some (.int x4), none] [] h Q := by
  refine z_aload_n (pc := 51) dX11_rule_51 rfl rfl ?_
  refine q_getR (pc := 52) (i := 165) dX11_rule_52 lk_RX11_7 (lyc rfl) (G 164 0 165 rfl) ?_
  refine z_sipush (pc := 55) (v := 240) dX11_rule_55 (by decide) ?_
  refine q_iald (pc := 58) (j := 240) (v := rI h 165 240) dX11_rule_58 (lyc rfl) (zvl (lnc rfl) (by decide)) (by decide) rfl ?_
  refine z_bipush (pc := 59) (v := 8) dX11_rule_59 (by decide) ?_
  refine z_icmp_ne (pc := 61) (tgt := 67) dX11_rule_61 (by decide) (fun k5 => ?_) (fun k5 => ?_)
  · replace F := F.1 k5
    refine z_sipush (pc := 67) (v := 150) dX11_rule_67 (by decide) ?_
    refine z_iconst (pc := 70) (v := 4) dX11_rule_70 (by decide) ?_
    refine z_aload_n (pc := 71) dX11_rule_71 rfl rfl ?_
    refine q_getR (pc := 72) (i := 165) dX11_rule_72 lk_RX11_7 (lyc rfl) (G 164 0 165 rfl) ?_
    refine z_sipush (pc := 75) (v := 240) dX11_rule_75 (by decide) ?_
    refine q_iald (pc := 78) (j := 240) (v := rI h 165 240) dX11_rule_78 (lyc rfl) (zvl (lnc rfl) (by decide)) (by decide) rfl ?_
    refine z_imul (pc := 79) dX11_rule_79 ?_
    refine z_iadd (pc := 80) dX11_rule_80 ?_
    refine z_istore (pc := 81) (ls' := [some (.ref 164), some (.int x1), some (.int x2), some (.int x3), some (.int x4), some (.int (150 + (4 * (rI h 165 240))))]) dX11_rule_81 (by decide) rfl ?_
    refine z_aload_n (pc := 83) dX11_rule_83 rfl rfl ?_
    refine q_getR (pc := 84) (i := 165) dX11_rule_84 lk_RX11_7 (lyc rfl) (G 164 0 165 rfl) ?_
    refine z_iload (pc := 87) dX11_rule_87 rfl ?_
    refine z_iload_n (pc := 89) dX11_rule_89 rfl rfl ?_
    obtain ⟨k1, F⟩ := F
    refine q_iast (pc := 90) (j := (Int32.toNatClampNeg (150 + (4 * (rI h 165 240))))) dX11_rule_90 (lyc rfl) (zvn (lnc rfl) k1) rfl ?_
    refine z_aload_n (pc := 91) dX11_rule_91 rfl rfl ?_
    refine q_getR (pc := 92) (i := 165) dX11_rule_92 lk_RX11_7 (lyc rfl) (G 164 0 165 rfl) ?_
    refine z_iload (pc := 95) dX11_rule_95 rfl ?_
    refine z_iconst (pc := 97) (v := 1) dX11_rule_97 (by decide) ?_
    refine z_iadd (pc := 98) dX11_rule_98 ?_
    refine z_iload_n (pc := 99) dX11_rule_99 rfl rfl ?_
    obtain ⟨k2, F⟩ := F
    refine q_iast (pc := 100) (j := (Int32.toNatClampNeg ((150 + (4 * (rI h 165 240))) + 1))) dX11_rule_100 (lyc rfl) (zvn (lnc rfl) k2) rfl ?_
    refine z_aload_n (pc := 101) dX11_rule_101 rfl rfl ?_
    refine q_getR (pc := 102) (i := 165) dX11_rule_102 lk_RX11_7 (lyc rfl) (G 164 0 165 rfl) ?_
    refine z_iload (pc := 105) dX11_rule_105 rfl ?_
    refine z_iconst (pc := 107) (v := 2) dX11_rule_107 (by decide) ?_
    refine z_iadd (pc := 108) dX11_rule_108 ?_
    refine z_iload_n (pc := 109) dX11_rule_109 rfl rfl ?_
    obtain ⟨k3, F⟩ := F
    refine q_iast (pc := 110) (j := (Int32.toNatClampNeg ((150 + (4 * (rI h 165 240))) + 2))) dX11_rule_110 (lyc rfl) (zvn (lnc rfl) k3) rfl ?_
    refine z_aload_n (pc := 111) dX11_rule_111 rfl rfl ?_
    refine q_getR (pc := 112) (i := 165) dX11_rule_112 lk_RX11_7 (lyc rfl) (G 164 0 165 rfl) ?_
    refine z_iload (pc := 115) dX11_rule_115 rfl ?_
    refine z_iconst (pc := 117) (v := 3) dX11_rule_117 (by decide) ?_
    refine z_iadd (pc := 118) dX11_rule_118 ?_
    refine z_iload (pc := 119) dX11_rule_119 rfl ?_
    obtain ⟨k4, F⟩ := F
    refine q_iast (pc := 121) (j := (Int32.toNatClampNeg ((150 + (4 * (rI h 165 240))) + 3))) dX11_rule_121 (lyc rfl) (zvn (lnc rfl) k4) rfl ?_
    refine z_aload_n (pc := 122) dX11_rule_122 rfl rfl ?_
    refine q_getR (pc := 123) (i := 165) dX11_rule_123 lk_RX11_7 (lyc rfl) (G 164 0 165 rfl) ?_
    refine z_sipush (pc := 126) (v := 240) dX11_rule_126 (by decide) ?_
    refine z_dup2 (pc := 129) dX11_rule_129 rfl rfl ?_
    refine q_iald (pc := 130) (j := 240) (v := rI (wI (wI (wI (wI h 165 ((Int32.toNatClampNeg (150 + (4 * (rI h 165 240))))) x1) 165 ((Int32.toNatClampNeg ((150 + (4 * (rI h 165 240))) + 1))) x2) 165 ((Int32.toNatClampNeg ((150 + (4 * (rI h 165 240))) + 2))) x3) 165 ((Int32.toNatClampNeg ((150 + (4 * (rI h 165 240))) + 3))) x4) 165 240) dX11_rule_130 (lyc rfl) (zvl (lnc rfl) (by decide)) (by decide) rfl ?_
    refine z_iconst (pc := 131) (v := 1) dX11_rule_131 (by decide) ?_
    refine z_iadd (pc := 132) dX11_rule_132 ?_
    refine q_iast (pc := 133) (j := 240) dX11_rule_133 (lyc rfl) (zvl (lnc rfl) (by decide)) (by decide) ?_
    refine z_aload_n (pc := 134) dX11_rule_134 rfl rfl ?_
    refine q_getR (pc := 135) (i := 165) dX11_rule_135 lk_RX11_7 (lyc rfl) (G 164 0 165 rfl) ?_
    refine z_sipush (pc := 138) (v := 240) dX11_rule_138 (by decide) ?_
    refine q_iald (pc := 141) (j := 240) (v := (rI (wI (wI (wI (wI h 165 ((Int32.toNatClampNeg (150 + (4 * (rI h 165 240))))) x1) 165 ((Int32.toNatClampNeg ((150 + (4 * (rI h 165 240))) + 1))) x2) 165 ((Int32.toNatClampNeg ((150 + (4 * (rI h 165 240))) + 2))) x3) 165 ((Int32.toNatClampNeg ((150 + (4 * (rI h 165 240))) + 3))) x4) 165 240) + 1) dX11_rule_141 (lyc rfl) (zvl (lnc rfl) (by decide)) (by decide) rI_s ?_
    refine z_iconst (pc := 142) (v := 1) dX11_rule_142 (by decide) ?_
    refine z_isub (pc := 143) dX11_rule_143 ?_
    exact q_retI (pc := 144) dX11_rule_144 rfl F
  · replace F := F.2 k5
    refine z_bipush (pc := 64) (v := -4) dX11_rule_64 (by decide) ?_
    exact q_retI (pc := 66) dX11_rule_66 rfl F
theorem g_X11_ruleOf {x1 : Int32} {x2 : Int32} {h : zHp} {Q : Int32 → zHp → Prop}  (G : zG h) (F : zcI M_X11_isRule [.ref 164, .int x1] h (fun vh1 h1 => zG h1 ∧ ((vh1 = 0 → (Q (-2) h1)) ∧ (¬ (vh1 = 0) → (zcI M_X11_in [.int x2, .int 0, .int 1] h1 (fun vh2 h2 => zG h2 ∧ ((vh2 = 0 → (Q (-2) h2)) ∧ (¬ (vh2 = 0) → (zcI M_X11_ruleIs [.ref 164, .int x1, .int (3 * x2)] h2 (fun vh3 h3 => zG h3 ∧ (Q vh3 h3))))))))))) : zcI M_X11_ruleOf [.ref 164, .int x1, .int x2] h Q := by
  show zw zNT zNT M_X11_ruleOf 0 [some (.ref 164), some (.int x1), some (.int x2)] [] h _
  refine z_aload_n (pc := 0) dX11_ruleOf_0 rfl rfl ?_
  refine z_iload_n (pc := 1) dX11_ruleOf_1 rfl rfl ?_
  refine q_invV (pc := 2) (As := [.int x1]) (st := []) dX11_ruleOf_2 ok_X11_isRule ml_RX11_189 iv_X11_isRule pa_X11_isRule ⟨Nat.le_of_ble_eq_true rfl, Nat.le_of_ble_eq_true rfl⟩ (lyc rfl) (q_kI F (fun vh1 h1 F => ?_))
  obtain ⟨G1, F⟩ := F
  refine z_if_eq (pc := 5) (tgt := 28) dX11_ruleOf_5 (by decide) (fun k5 => ?_) (fun k5 => ?_)
  · replace F := F.1 k5
    refine z_bipush (pc := 28) (v := -2) dX11_ruleOf_28 (by decide) ?_
    exact q_retI (pc := 30) dX11_ruleOf_30 rfl F
  · replace F := F.2 k5
    refine z_iload_n (pc := 8) dX11_ruleOf_8 rfl rfl ?_
    refine z_iconst (pc := 9) (v := 0) dX11_ruleOf_9 (by decide) ?_
    refine z_iconst (pc := 10) (v := 1) dX11_ruleOf_10 (by decide) ?_
    refine q_invS (pc := 11) (As := [.int x2, .int 0, .int 1]) (st := []) dX11_ruleOf_11 ok_X11_in ml_RX11_84 st_X11_in pa_X11_in ⟨Nat.le_of_ble_eq_true rfl, Nat.le_of_ble_eq_true rfl⟩ (q_kI F (fun vh2 h2 F => ?_))
    obtain ⟨G2, F⟩ := F
    refine z_if_eq (pc := 14) (tgt := 28) dX11_ruleOf_14 (by decide) (fun k4 => ?_) (fun k4 => ?_)
    · replace F := F.1 k4
      refine z_bipush (pc := 28) (v := -2) dX11_ruleOf_28 (by decide) ?_
      exact q_retI (pc := 30) dX11_ruleOf_30 rfl F
    · replace F := F.2 k4
      refine z_aload_n (pc := 17) dX11_ruleOf_17 rfl rfl ?_
      refine z_iload_n (pc := 18) dX11_ruleOf_18 rfl rfl ?_
      refine z_iconst (pc := 19) (v := 3) dX11_ruleOf_19 (by decide) ?_
      refine z_iload_n (pc := 20) dX11_ruleOf_20 rfl rfl ?_
      refine z_imul (pc := 21) dX11_ruleOf_21 ?_
      refine q_invV (pc := 22) (As := [.int x1, .int (3 * x2)]) (st := []) dX11_ruleOf_22 ok_X11_ruleIs ml_RX11_192 iv_X11_ruleIs pa_X11_ruleIs ⟨Nat.le_of_ble_eq_true rfl, Nat.le_of_ble_eq_true rfl⟩ (lyc rfl) (q_kI F (fun vh3 h3 F => ?_))
      obtain ⟨G3, F⟩ := F
      refine z_goto (pc := 25) (tgt := 30) dX11_ruleOf_25 (by decide) ?_
      exact q_retI (pc := 30) dX11_ruleOf_30 rfl F
theorem g_X11_unrule {x1 : Int32} {h : zHp} {Q : Int32 → zHp → Prop}  (G : zG h) (F : zcI M_X11_isRule [.ref 164, .int x1] h (fun vh1 h1 => zG h1 ∧ ((¬ vh1 = 0 → (zcV M_X11_goes [.ref 164, .int 150, .int 4, .int 240, .int x1] h1 (fun h2 => zG h2 ∧ (Q (rI h2 165 240) h2)))) ∧ (vh1 = 0 → (Q (-2) h1))))) : zcI M_X11_unrule [.ref 164, .int x1] h Q := by
  show zw zNT zNT M_X11_unrule 0 [some (.ref 164), some (.int x1)] [] h _
  refine z_aload_n (pc := 0) dX11_unrule_0 rfl rfl ?_
  refine z_iload_n (pc := 1) dX11_unrule_1 rfl rfl ?_
  refine q_invV (pc := 2) (As := [.int x1]) (st := []) dX11_unrule_2 ok_X11_isRule ml_RX11_189 iv_X11_isRule pa_X11_isRule ⟨Nat.le_of_ble_eq_true rfl, Nat.le_of_ble_eq_true rfl⟩ (lyc rfl) (q_kI F (fun vh1 h1 F => ?_))
  obtain ⟨G1, F⟩ := F
  refine z_if_ne (pc := 5) (tgt := 11) dX11_unrule_5 (by decide) (fun k3 => ?_) (fun k3 => ?_)
  · replace F := F.1 k3
    refine z_aload_n (pc := 11) dX11_unrule_11 rfl rfl ?_
    refine z_sipush (pc := 12) (v := 150) dX11_unrule_12 (by decide) ?_
    refine z_iconst (pc := 15) (v := 4) dX11_unrule_15 (by decide) ?_
    refine z_sipush (pc := 16) (v := 240) dX11_unrule_16 (by decide) ?_
    refine z_iload_n (pc := 19) dX11_unrule_19 rfl rfl ?_
    refine q_invV (pc := 20) (As := [.int 150, .int 4, .int 240, .int x1]) (st := []) dX11_unrule_20 ok_X11_goes ml_RX11_186 iv_X11_goes pa_X11_goes ⟨Nat.le_of_ble_eq_true rfl, Nat.le_of_ble_eq_true rfl⟩ (lyc rfl) (q_kV F (fun h2 F => ?_))
    obtain ⟨G2, F⟩ := F
    refine z_aload_n (pc := 23) dX11_unrule_23 rfl rfl ?_
    refine q_getR (pc := 24) (i := 165) dX11_unrule_24 lk_RX11_7 (lyc rfl) (G2 164 0 165 rfl) ?_
    refine z_sipush (pc := 27) (v := 240) dX11_unrule_27 (by decide) ?_
    refine q_iald (pc := 30) (j := 240) (v := rI h2 165 240) dX11_unrule_30 (lyc rfl) (zvl (lnc rfl) (by decide)) (by decide) rfl ?_
    exact q_retI (pc := 31) dX11_unrule_31 rfl F
  · replace F := F.2 k3
    refine z_bipush (pc := 8) (v := -2) dX11_unrule_8 (by decide) ?_
    exact q_retI (pc := 10) dX11_unrule_10 rfl F
theorem g_X11_choice {x1 : Int32} {x2 : Int32} {h : zHp} {Q : Int32 → zHp → Prop}  (G : zG h) (F : zcI M_X11_in [.int x1, .int 0, .int 1] h (fun vh1 h1 => zG h1 ∧ ((vh1 = 0 → (Q (-2) h1)) ∧ (¬ (vh1 = 0) → (zcI M_X11_in [.int x2, .int 0, .int 1] h1 (fun vh2 h2 => zG h2 ∧ ((¬ vh2 = 0 → (vp_in (242 + x1) 246 ∧ (Q (rI h2 165 ((Int32.toNatClampNeg (242 + x1)))) (wI h2 165 ((Int32.toNatClampNeg (242 + x1))) x2)))) ∧ (vh2 = 0 → (Q (-2) h2))))))))) : zcI M_X11_choice [.ref 164, .int x1, .int x2] h Q := by
  show zw zNT zNT M_X11_choice 0 [some (.ref 164), some (.int x1), some (.int x2), none] [] h _
  refine z_iload_n (pc := 0) dX11_choice_0 rfl rfl ?_
  refine z_iconst (pc := 1) (v := 0) dX11_choice_1 (by decide) ?_
  refine z_iconst (pc := 2) (v := 1) dX11_choice_2 (by decide) ?_
  refine q_invS (pc := 3) (As := [.int x1, .int 0, .int 1]) (st := []) dX11_choice_3 ok_X11_in ml_RX11_84 st_X11_in pa_X11_in ⟨Nat.le_of_ble_eq_true rfl, Nat.le_of_ble_eq_true rfl⟩ (q_kI F (fun vh1 h1 F => ?_))
  obtain ⟨G1, F⟩ := F
  refine z_if_eq (pc := 6) (tgt := 18) dX11_choice_6 (by decide) (fun k5 => ?_) (fun k5 => ?_)
  · replace F := F.1 k5
    refine z_bipush (pc := 18) (v := -2) dX11_choice_18 (by decide) ?_
    exact q_retI (pc := 20) dX11_choice_20 rfl F
  · replace F := F.2 k5
    refine z_iload_n (pc := 9) dX11_choice_9 rfl rfl ?_
    refine z_iconst (pc := 10) (v := 0) dX11_choice_10 (by decide) ?_
    refine z_iconst (pc := 11) (v := 1) dX11_choice_11 (by decide) ?_
    refine q_invS (pc := 12) (As := [.int x2, .int 0, .int 1]) (st := []) dX11_choice_12 ok_X11_in ml_RX11_84 st_X11_in pa_X11_in ⟨Nat.le_of_ble_eq_true rfl, Nat.le_of_ble_eq_true rfl⟩ (q_kI F (fun vh2 h2 F => ?_))
    obtain ⟨G2, F⟩ := F
    refine z_if_ne (pc := 15) (tgt := 21) dX11_choice_15 (by decide) (fun k4 => ?_) (fun k4 => ?_)
    · replace F := F.1 k4
      refine z_aload_n (pc := 21) dX11_choice_21 rfl rfl ?_
      refine q_getR (pc := 22) (i := 165) dX11_choice_22 lk_RX11_7 (lyc rfl) (G2 164 0 165 rfl) ?_
      refine z_sipush (pc := 25) (v := 242) dX11_choice_25 (by decide) ?_
      refine z_iload_n (pc := 28) dX11_choice_28 rfl rfl ?_
      refine z_iadd (pc := 29) dX11_choice_29 ?_
      obtain ⟨k3, F⟩ := F
      refine q_iald (pc := 30) (j := (Int32.toNatClampNeg (242 + x1))) (v := rI h2 165 ((Int32.toNatClampNeg (242 + x1)))) dX11_choice_30 (lyc rfl) (zvn (lnc rfl) k3) rfl rfl ?_
      refine z_istore_n (pc := 31) (ls' := [some (.ref 164), some (.int x1), some (.int x2), some (.int (rI h2 165 ((Int32.toNatClampNeg (242 + x1)))))]) dX11_choice_31 rfl (by decide) rfl ?_
      refine z_aload_n (pc := 32) dX11_choice_32 rfl rfl ?_
      refine q_getR (pc := 33) (i := 165) dX11_choice_33 lk_RX11_7 (lyc rfl) (G2 164 0 165 rfl) ?_
      refine z_sipush (pc := 36) (v := 242) dX11_choice_36 (by decide) ?_
      refine z_iload_n (pc := 39) dX11_choice_39 rfl rfl ?_
      refine z_iadd (pc := 40) dX11_choice_40 ?_
      refine z_iload_n (pc := 41) dX11_choice_41 rfl rfl ?_
      refine q_iast (pc := 42) (j := (Int32.toNatClampNeg (242 + x1))) dX11_choice_42 (lyc rfl) (zvn (lnc rfl) k3) rfl ?_
      refine z_iload_n (pc := 43) dX11_choice_43 rfl rfl ?_
      exact q_retI (pc := 44) dX11_choice_44 rfl F
    · replace F := F.2 k4
      refine z_bipush (pc := 18) (v := -2) dX11_choice_18 (by decide) ?_
      exact q_retI (pc := 20) dX11_choice_20 rfl F
theorem g_X11_isWatcher {x1 : Int32} {h : zHp} {Q : Int32 → zHp → Prop}  (G : zG h) (F : zcI M_X11_in [.int x1, .int 0, .int ((rI h 165 241) - 1)] h (fun vh1 h1 => zG h1 ∧ (zB vh1 ∧ Q vh1 h1))) : zcI M_X11_isWatcher [.ref 164, .int x1] h Q := by
  show zw zNT zNT M_X11_isWatcher 0 [some (.ref 164), some (.int x1)] [] h _
  refine z_iload_n (pc := 0) dX11_isWatcher_0 rfl rfl ?_
  refine z_iconst (pc := 1) (v := 0) dX11_isWatcher_1 (by decide) ?_
  refine z_aload_n (pc := 2) dX11_isWatcher_2 rfl rfl ?_
  refine q_getR (pc := 3) (i := 165) dX11_isWatcher_3 lk_RX11_7 (lyc rfl) (G 164 0 165 rfl) ?_
  refine z_sipush (pc := 6) (v := 241) dX11_isWatcher_6 (by decide) ?_
  refine q_iald (pc := 9) (j := 241) (v := rI h 165 241) dX11_isWatcher_9 (lyc rfl) (zvl (lnc rfl) (by decide)) (by decide) rfl ?_
  refine z_iconst (pc := 10) (v := 1) dX11_isWatcher_10 (by decide) ?_
  refine z_isub (pc := 11) dX11_isWatcher_11 ?_
  refine q_invS (pc := 12) (As := [.int x1, .int 0, .int ((rI h 165 241) - 1)]) (st := []) dX11_isWatcher_12 ok_X11_in ml_RX11_84 st_X11_in pa_X11_in ⟨Nat.le_of_ble_eq_true rfl, Nat.le_of_ble_eq_true rfl⟩ (q_kI F (fun vh1 h1 F => ?_))
  obtain ⟨G1, F⟩ := F
  exact q_retB (pc := 15) dX11_isWatcher_15 rfl F.1 F.2
theorem g_X11_watch {x1 : Int32} {x2 : Int32} {x3 : Int32} {x4 : Int32} {x5 : Int32} {h : zHp} {Q : Int32 → zHp → Prop}  (G : zG h) (F : zcI M_X11_in [.int x1, .int 0, .int 1] h (fun vh1 h1 => zG h1 ∧ ((vh1 = 0 → (Q (-2) h1)) ∧ (¬ (vh1 = 0) → (zcI M_X11_in [.int x2, .int 0, .int 2] h1 (fun vh2 h2 => zG h2 ∧ ((vh2 = 0 → (Q (-2) h2)) ∧ (¬ (vh2 = 0) → (zcI M_X11_in [.int x3, .int 0, .int 2] h2 (fun vh3 h3 => zG h3 ∧ ((vh3 = 0 → (Q (-2) h3)) ∧ (¬ (vh3 = 0) → (zcI M_X11_in [.int x4, .int (-1), .int 7] h3 (fun vh4 h4 => zG h4 ∧ ((vh4 = 0 → (Q (-2) h4)) ∧ (¬ (vh4 = 0) → (zcI M_X11_in [.int x5, .int 0, .int 9] h4 (fun vh5 h5 => zG h5 ∧ ((¬ vh5 = 0 → ((¬ rI h5 165 241 = 8 → (vp_in (182 + (7 * (rI h5 165 241))) 246 ∧ (vp_in ((182 + (7 * (rI h5 165 241))) + 1) 246 ∧ (vp_in ((182 + (7 * (rI h5 165 241))) + 2) 246 ∧ (vp_in ((182 + (7 * (rI h5 165 241))) + 3) 246 ∧ (vp_in ((182 + (7 * (rI h5 165 241))) + 4) 246 ∧ (vp_in ((182 + (7 * (rI h5 165 241))) + 5) 246 ∧ (vp_in ((182 + (7 * (rI h5 165 241))) + 6) 246 ∧ (Q (((rI (wI (wI (wI (wI (wI (wI (wI h5 165 ((Int32.toNatClampNeg (182 + (7 * (rI h5 165 241))))) x1) 165 ((Int32.toNatClampNeg ((182 + (7 * (rI h5 165 241))) + 1))) x2) 165 ((Int32.toNatClampNeg ((182 + (7 * (rI h5 165 241))) + 2))) x3) 165 ((Int32.toNatClampNeg ((182 + (7 * (rI h5 165 241))) + 3))) x4) 165 ((Int32.toNatClampNeg ((182 + (7 * (rI h5 165 241))) + 4))) x5) 165 ((Int32.toNatClampNeg ((182 + (7 * (rI h5 165 241))) + 5))) 0) 165 ((Int32.toNatClampNeg ((182 + (7 * (rI h5 165 241))) + 6))) 0) 165 241) + 1) - 1) (wI (wI (wI (wI (wI (wI (wI (wI h5 165 ((Int32.toNatClampNeg (182 + (7 * (rI h5 165 241))))) x1) 165 ((Int32.toNatClampNeg ((182 + (7 * (rI h5 165 241))) + 1))) x2) 165 ((Int32.toNatClampNeg ((182 + (7 * (rI h5 165 241))) + 2))) x3) 165 ((Int32.toNatClampNeg ((182 + (7 * (rI h5 165 241))) + 3))) x4) 165 ((Int32.toNatClampNeg ((182 + (7 * (rI h5 165 241))) + 4))) x5) 165 ((Int32.toNatClampNeg ((182 + (7 * (rI h5 165 241))) + 5))) 0) 165 ((Int32.toNatClampNeg ((182 + (7 * (rI h5 165 241))) + 6))) 0) 165 241 ((rI (wI (wI (wI (wI (wI (wI (wI h5 165 ((Int32.toNatClampNeg (182 + (7 * (rI h5 165 241))))) x1) 165 ((Int32.toNatClampNeg ((182 + (7 * (rI h5 165 241))) + 1))) x2) 165 ((Int32.toNatClampNeg ((182 + (7 * (rI h5 165 241))) + 2))) x3) 165 ((Int32.toNatClampNeg ((182 + (7 * (rI h5 165 241))) + 3))) x4) 165 ((Int32.toNatClampNeg ((182 + (7 * (rI h5 165 241))) + 4))) x5) 165 ((Int32.toNatClampNeg ((182 + (7 * (rI h5 165 241))) + 5))) 0) 165 ((Int32.toNatClampNeg ((182 + (7 * (rI h5 165 241))) + 6))) 0) 165 241) + 1))))))))))) ∧ (rI h5 165 241 = 8 → (Q (-4) h5)))) ∧ (vh5 = 0 → (Q (-2) h5))))))))))))))))))))) : zcI M_X11_watch [.ref 164, .int x1, .int x2, .int x3, .int x4, .int x5] h Q := by
  show zw zNT zNT M_X11_watch 0 [some (.ref 164), some (.int x1), some (.int x2), some (.int x3), some (.int x4), some (.int x5), none] [] h _
  refine z_iload_n (pc := 0) dX11_watch_0 rfl rfl ?_
  refine z_iconst (pc := 1) (v := 0) dX11_watch_1 (by decide) ?_
  refine z_iconst (pc := 2) (v := 1) dX11_watch_2 (by decide) ?_
  refine q_invS (pc := 3) (As := [.int x1, .int 0, .int 1]) (st := []) dX11_watch_3 ok_X11_in ml_RX11_84 st_X11_in pa_X11_in ⟨Nat.le_of_ble_eq_true rfl, Nat.le_of_ble_eq_true rfl⟩ (q_kI F (fun vh1 h1 F => ?_))
  obtain ⟨G1, F⟩ := F
  refine z_if_eq (pc := 6) (tgt := 49) dX11_watch_6 (by decide) (fun k18 => ?_) (fun k18 => ?_)
  · replace F := F.1 k18
    refine z_bipush (pc := 49) (v := -2) dX11_watch_49 (by decide) ?_
    exact q_retI (pc := 51) dX11_watch_51 rfl F
  · replace F := F.2 k18
    refine z_iload_n (pc := 9) dX11_watch_9 rfl rfl ?_
    refine z_iconst (pc := 10) (v := 0) dX11_watch_10 (by decide) ?_
    refine z_iconst (pc := 11) (v := 2) dX11_watch_11 (by decide) ?_
    refine q_invS (pc := 12) (As := [.int x2, .int 0, .int 2]) (st := []) dX11_watch_12 ok_X11_in ml_RX11_84 st_X11_in pa_X11_in ⟨Nat.le_of_ble_eq_true rfl, Nat.le_of_ble_eq_true rfl⟩ (q_kI F (fun vh2 h2 F => ?_))
    obtain ⟨G2, F⟩ := F
    refine z_if_eq (pc := 15) (tgt := 49) dX11_watch_15 (by decide) (fun k17 => ?_) (fun k17 => ?_)
    · replace F := F.1 k17
      refine z_bipush (pc := 49) (v := -2) dX11_watch_49 (by decide) ?_
      exact q_retI (pc := 51) dX11_watch_51 rfl F
    · replace F := F.2 k17
      refine z_iload_n (pc := 18) dX11_watch_18 rfl rfl ?_
      refine z_iconst (pc := 19) (v := 0) dX11_watch_19 (by decide) ?_
      refine z_iconst (pc := 20) (v := 2) dX11_watch_20 (by decide) ?_
      refine q_invS (pc := 21) (As := [.int x3, .int 0, .int 2]) (st := []) dX11_watch_21 ok_X11_in ml_RX11_84 st_X11_in pa_X11_in ⟨Nat.le_of_ble_eq_true rfl, Nat.le_of_ble_eq_true rfl⟩ (q_kI F (fun vh3 h3 F => ?_))
      obtain ⟨G3, F⟩ := F
      refine z_if_eq (pc := 24) (tgt := 49) dX11_watch_24 (by decide) (fun k16 => ?_) (fun k16 => ?_)
      · replace F := F.1 k16
        refine z_bipush (pc := 49) (v := -2) dX11_watch_49 (by decide) ?_
        exact q_retI (pc := 51) dX11_watch_51 rfl F
      · replace F := F.2 k16
        refine z_iload (pc := 27) dX11_watch_27 rfl ?_
        refine z_iconst (pc := 29) (v := -1) dX11_watch_29 (by decide) ?_
        refine z_bipush (pc := 30) (v := 7) dX11_watch_30 (by decide) ?_
        refine q_invS (pc := 32) (As := [.int x4, .int (-1), .int 7]) (st := []) dX11_watch_32 ok_X11_in ml_RX11_84 st_X11_in pa_X11_in ⟨Nat.le_of_ble_eq_true rfl, Nat.le_of_ble_eq_true rfl⟩ (q_kI F (fun vh4 h4 F => ?_))
        obtain ⟨G4, F⟩ := F
        refine z_if_eq (pc := 35) (tgt := 49) dX11_watch_35 (by decide) (fun k15 => ?_) (fun k15 => ?_)
        · replace F := F.1 k15
          refine z_bipush (pc := 49) (v := -2) dX11_watch_49 (by decide) ?_
          exact q_retI (pc := 51) dX11_watch_51 rfl F
        · replace F := F.2 k15
          refine z_iload (pc := 38) dX11_watch_38 rfl ?_
          refine z_iconst (pc := 40) (v := 0) dX11_watch_40 (by decide) ?_
          refine z_bipush (pc := 41) (v := 9) dX11_watch_41 (by decide) ?_
          refine q_invS (pc := 43) (As := [.int x5, .int 0, .int 9]) (st := []) dX11_watch_43 ok_X11_in ml_RX11_84 st_X11_in pa_X11_in ⟨Nat.le_of_ble_eq_true rfl, Nat.le_of_ble_eq_true rfl⟩ (q_kI F (fun vh5 h5 F => ?_))
          obtain ⟨G5, F⟩ := F
          refine z_if_ne (pc := 46) (tgt := 52) dX11_watch_46 (by decide) (fun k14 => ?_) (fun k14 => ?_)
          · replace F := F.1 k14
            refine z_aload_n (pc := 52) dX11_watch_52 rfl rfl ?_
            refine q_getR (pc := 53) (i := 165) dX11_watch_53 lk_RX11_7 (lyc rfl) (G5 164 0 165 rfl) ?_
            refine z_sipush (pc := 56) (v := 241) dX11_watch_56 (by decide) ?_
            refine q_iald (pc := 59) (j := 241) (v := rI h5 165 241) dX11_watch_59 (lyc rfl) (zvl (lnc rfl) (by decide)) (by decide) rfl ?_
            refine z_bipush (pc := 60) (v := 8) dX11_watch_60 (by decide) ?_
            refine z_icmp_ne (pc := 62) (tgt := 68) dX11_watch_62 (by decide) (fun k13 => ?_) (fun k13 => ?_)
            · replace F := F.1 k13
              refine z_sipush (pc := 68) (v := 182) dX11_watch_68 (by decide) ?_
              refine z_bipush (pc := 71) (v := 7) dX11_watch_71 (by decide) ?_
              refine z_aload_n (pc := 73) dX11_watch_73 rfl rfl ?_
              refine q_getR (pc := 74) (i := 165) dX11_watch_74 lk_RX11_7 (lyc rfl) (G5 164 0 165 rfl) ?_
              refine z_sipush (pc := 77) (v := 241) dX11_watch_77 (by decide) ?_
              refine q_iald (pc := 80) (j := 241) (v := rI h5 165 241) dX11_watch_80 (lyc rfl) (zvl (lnc rfl) (by decide)) (by decide) rfl ?_
              refine z_imul (pc := 81) dX11_watch_81 ?_
              refine z_iadd (pc := 82) dX11_watch_82 ?_
              refine z_istore (pc := 83) (ls' := [some (.ref 164), some (.int x1), some (.int x2), some (.int x3), some (.int x4), some (.int x5), some (.int (182 + (7 * (rI h5 165 241))))]) dX11_watch_83 (by decide) rfl ?_
              refine z_aload_n (pc := 85) dX11_watch_85 rfl rfl ?_
              refine q_getR (pc := 86) (i := 165) dX11_watch_86 lk_RX11_7 (lyc rfl) (G5 164 0 165 rfl) ?_
              refine z_iload (pc := 89) dX11_watch_89 rfl ?_
              refine z_iload_n (pc := 91) dX11_watch_91 rfl rfl ?_
              obtain ⟨k6, F⟩ := F
              refine q_iast (pc := 92) (j := (Int32.toNatClampNeg (182 + (7 * (rI h5 165 241))))) dX11_watch_92 (lyc rfl) (zvn (lnc rfl) k6) rfl ?_
              refine z_aload_n (pc := 93) dX11_watch_93 rfl rfl ?_
              refine q_getR (pc := 94) (i := 165) dX11_watch_94 lk_RX11_7 (lyc rfl) (G5 164 0 165 rfl) ?_
              refine z_iload (pc := 97) dX11_watch_97 rfl ?_
              refine z_iconst (pc := 99) (v := 1) dX11_watch_99 (by decide) ?_
              refine z_iadd (pc := 100) dX11_watch_100 ?_
              refine z_iload_n (pc := 101) dX11_watch_101 rfl rfl ?_
              obtain ⟨k7, F⟩ := F
              refine q_iast (pc := 102) (j := (Int32.toNatClampNeg ((182 + (7 * (rI h5 165 241))) + 1))) dX11_watch_102 (lyc rfl) (zvn (lnc rfl) k7) rfl ?_
              refine z_aload_n (pc := 103) dX11_watch_103 rfl rfl ?_
              refine q_getR (pc := 104) (i := 165) dX11_watch_104 lk_RX11_7 (lyc rfl) (G5 164 0 165 rfl) ?_
              refine z_iload (pc := 107) dX11_watch_107 rfl ?_
              refine z_iconst (pc := 109) (v := 2) dX11_watch_109 (by decide) ?_
              refine z_iadd (pc := 110) dX11_watch_110 ?_
              refine z_iload_n (pc := 111) dX11_watch_111 rfl rfl ?_
              obtain ⟨k8, F⟩ := F
              refine q_iast (pc := 112) (j := (Int32.toNatClampNeg ((182 + (7 * (rI h5 165 241))) + 2))) dX11_watch_112 (lyc rfl) (zvn (lnc rfl) k8) rfl ?_
              refine z_aload_n (pc := 113) dX11_watch_113 rfl rfl ?_
              refine q_getR (pc := 114) (i := 165) dX11_watch_114 lk_RX11_7 (lyc rfl) (G5 164 0 165 rfl) ?_
              refine z_iload (pc := 117) dX11_watch_117 rfl ?_
              refine z_iconst (pc := 119) (v := 3) dX11_watch_119 (by decide) ?_
              refine z_iadd (pc := 120) dX11_watch_120 ?_
              refine z_iload (pc := 121) dX11_watch_121 rfl ?_
              obtain ⟨k9, F⟩ := F
              refine q_iast (pc := 123) (j := (Int32.toNatClampNeg ((182 + (7 * (rI h5 165 241))) + 3))) dX11_watch_123 (lyc rfl) (zvn (lnc rfl) k9) rfl ?_
              refine z_aload_n (pc := 124) dX11_watch_124 rfl rfl ?_
              refine q_getR (pc := 125) (i := 165) dX11_watch_125 lk_RX11_7 (lyc rfl) (G5 164 0 165 rfl) ?_
              refine z_iload (pc := 128) dX11_watch_128 rfl ?_
              refine z_iconst (pc := 130) (v := 4) dX11_watch_130 (by decide) ?_
              refine z_iadd (pc := 131) dX11_watch_131 ?_
              refine z_iload (pc := 132) dX11_watch_132 rfl ?_
              obtain ⟨k10, F⟩ := F
              refine q_iast (pc := 134) (j := (Int32.toNatClampNeg ((182 + (7 * (rI h5 165 241))) + 4))) dX11_watch_134 (lyc rfl) (zvn (lnc rfl) k10) rfl ?_
              refine z_aload_n (pc := 135) dX11_watch_135 rfl rfl ?_
              refine q_getR (pc := 136) (i := 165) dX11_watch_136 lk_RX11_7 (lyc rfl) (G5 164 0 165 rfl) ?_
              refine z_iload (pc := 139) dX11_watch_139 rfl ?_
              refine z_iconst (pc := 141) (v := 5) dX11_watch_141 (by decide) ?_
              refine z_iadd (pc := 142) dX11_watch_142 ?_
              refine z_iconst (pc := 143) (v := 0) dX11_watch_143 (by decide) ?_
              obtain ⟨k11, F⟩ := F
              refine q_iast (pc := 144) (j := (Int32.toNatClampNeg ((182 + (7 * (rI h5 165 241))) + 5))) dX11_watch_144 (lyc rfl) (zvn (lnc rfl) k11) rfl ?_
              refine z_aload_n (pc := 145) dX11_watch_145 rfl rfl ?_
              refine q_getR (pc := 146) (i := 165) dX11_watch_146 lk_RX11_7 (lyc rfl) (G5 164 0 165 rfl) ?_
              refine z_iload (pc := 149) dX11_watch_149 rfl ?_
              refine z_bipush (pc := 151) (v := 6) dX11_watch_151 (by decide) ?_
              refine z_iadd (pc := 153) dX11_watch_153 ?_
              refine z_iconst (pc := 154) (v := 0) dX11_watch_154 (by decide) ?_
              obtain ⟨k12, F⟩ := F
              refine q_iast (pc := 155) (j := (Int32.toNatClampNeg ((182 + (7 * (rI h5 165 241))) + 6))) dX11_watch_155 (lyc rfl) (zvn (lnc rfl) k12) rfl ?_
              refine z_aload_n (pc := 156) dX11_watch_156 rfl rfl ?_
              refine q_getR (pc := 157) (i := 165) dX11_watch_157 lk_RX11_7 (lyc rfl) (G5 164 0 165 rfl) ?_
              refine z_sipush (pc := 160) (v := 241) dX11_watch_160 (by decide) ?_
              refine z_dup2 (pc := 163) dX11_watch_163 rfl rfl ?_
              refine q_iald (pc := 164) (j := 241) (v := rI (wI (wI (wI (wI (wI (wI (wI h5 165 ((Int32.toNatClampNeg (182 + (7 * (rI h5 165 241))))) x1) 165 ((Int32.toNatClampNeg ((182 + (7 * (rI h5 165 241))) + 1))) x2) 165 ((Int32.toNatClampNeg ((182 + (7 * (rI h5 165 241))) + 2))) x3) 165 ((Int32.toNatClampNeg ((182 + (7 * (rI h5 165 241))) + 3))) x4) 165 ((Int32.toNatClampNeg ((182 + (7 * (rI h5 165 241))) + 4))) x5) 165 ((Int32.toNatClampNeg ((182 + (7 * (rI h5 165 241))) + 5))) 0) 165 ((Int32.toNatClampNeg ((182 + (7 * (rI h5 165 241))) + 6))) 0) 165 241) dX11_watch_164 (lyc rfl) (zvl (lnc rfl) (by decide)) (by decide) rfl ?_
              refine z_iconst (pc := 165) (v := 1) dX11_watch_165 (by decide) ?_
              refine z_iadd (pc := 166) dX11_watch_166 ?_
              refine q_iast (pc := 167) (j := 241) dX11_watch_167 (lyc rfl) (zvl (lnc rfl) (by decide)) (by decide) ?_
              refine z_aload_n (pc := 168) dX11_watch_168 rfl rfl ?_
              refine q_getR (pc := 169) (i := 165) dX11_watch_169 lk_RX11_7 (lyc rfl) (G5 164 0 165 rfl) ?_
              refine z_sipush (pc := 172) (v := 241) dX11_watch_172 (by decide) ?_
              refine q_iald (pc := 175) (j := 241) (v := (rI (wI (wI (wI (wI (wI (wI (wI h5 165 ((Int32.toNatClampNeg (182 + (7 * (rI h5 165 241))))) x1) 165 ((Int32.toNatClampNeg ((182 + (7 * (rI h5 165 241))) + 1))) x2) 165 ((Int32.toNatClampNeg ((182 + (7 * (rI h5 165 241))) + 2))) x3) 165 ((Int32.toNatClampNeg ((182 + (7 * (rI h5 165 241))) + 3))) x4) 165 ((Int32.toNatClampNeg ((182 + (7 * (rI h5 165 241))) + 4))) x5) 165 ((Int32.toNatClampNeg ((182 + (7 * (rI h5 165 241))) + 5))) 0) 165 ((Int32.toNatClampNeg ((182 + (7 * (rI h5 165 241))) + 6))) 0) 165 241) + 1) dX11_watch_175 (lyc rfl) (zvl (lnc rfl) (by decide)) (by decide) rI_s ?_
              refine z_iconst (pc := 176) (v := 1) dX11_watch_176 (by decide) ?_
              refine z_isub (pc := 177) dX11_watch_177 ?_
              exact q_retI (pc := 178) dX11_watch_178 rfl F
            · replace F := F.2 k13
              refine z_bipush (pc := 65) (v := -4) dX11_watch_65 (by decide) ?_
              exact q_retI (pc := 67) dX11_watch_67 rfl F
          · replace F := F.2 k14
            refine z_bipush (pc := 49) (v := -2) dX11_watch_49 (by decide) ?_
            exact q_retI (pc := 51) dX11_watch_51 rfl F
