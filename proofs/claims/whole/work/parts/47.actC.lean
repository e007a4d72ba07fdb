/-! watchers act: the class -/
theorem g_X2_forceOf {c0 : Nat} {c1 : Nat} {x2 : Int32} {h : zHp} {Q : Int32 → zHp → Prop} (hc0 : zLo c0) (hc1 : zW c1) (G : zG h) (F : ((0 ≤ x2 ∧ x2 ≤ (rI h c1 1) - 1) → (vp_in x2 8 ∧ ((rI h (c1 + 6 + (Int32.toNatClampNeg x2)) 5 = 0 → (Q (rI h (c1 + 6 + (Int32.toNatClampNeg x2)) 8) h)) ∧ (¬ (rI h (c1 + 6 + (Int32.toNatClampNeg x2)) 5 = 0) → (Q (rI h (c0 + 3) ((Int32.toNatClampNeg x2))) h))))) ∧ (¬ (0 ≤ x2 ∧ x2 ≤ (rI h c1 1) - 1) → (Q 0 h))) : zcI M_X2_forceOf [.ref c0, .ref c1, .int x2] h Q := by
  show zw zNT zNT M_X2_forceOf 0 [some (.ref c0), some (.ref c1), some (.int x2)] [] h _
  refine z_aload_n (pc := 0) dX2_forceOf_0 rfl rfl ?_
  refine z_iload_n (pc := 1) dX2_forceOf_1 rfl rfl ?_
  refine q_invV (pc := 2) (As := [.int x2]) (st := []) dX2_forceOf_2 ok_X8_hasThing ml_RX2_129 iv_X8_hasThing pa_X8_hasThing ⟨Nat.le_of_ble_eq_true rfl, Nat.le_of_ble_eq_true rfl⟩ (lyW0 hc1) (q_pI (s_X8_hasThing G hc1) rfl ?_)
  refine z_if_ne (pc := 5) (tgt := 10) dX2_forceOf_5 (by decide) (fun k3 => ?_) (fun k3 => ?_)
  · replace F := F.1 (zbn.mp k3)
    refine z_aload_n (pc := 10) dX2_forceOf_10 rfl rfl ?_
    refine q_getR (pc := 11) (i := c1 + 1) dX2_forceOf_11 lk_RX2_33 (lyW0 hc1) (grW0 G hc1) ?_
    refine z_iload_n (pc := 14) dX2_forceOf_14 rfl rfl ?_
    obtain ⟨k1, F⟩ := F
    refine q_aald (pc := 15) (j := (Int32.toNatClampNeg x2)) (r := c1 + 6 + (Int32.toNatClampNeg x2)) (t := 0) dX2_forceOf_15 (lyW1 hc1) (zvn (lnW1 hc1) k1) rfl (grT (B := c1) G hc1 (zvi k1)) ?_
    refine q_getI (pc := 16) (v := rI h (c1 + 6 + (Int32.toNatClampNeg x2)) 5) dX2_forceOf_16 lk_RX2_122 (lyT (B := c1) hc1 (zvi k1)) rfl ?_
    refine z_if_eq (pc := 19) (tgt := 31) dX2_forceOf_19 (by decide) (fun k2 => ?_) (fun k2 => ?_)
    · replace F := F.1 k2
      refine z_aload_n (pc := 31) dX2_forceOf_31 rfl rfl ?_
      refine q_getR (pc := 32) (i := c1 + 1) dX2_forceOf_32 lk_RX2_33 (lyW0 hc1) (grW0 G hc1) ?_
      refine z_iload_n (pc := 35) dX2_forceOf_35 rfl rfl ?_
      refine q_aald (pc := 36) (j := (Int32.toNatClampNeg x2)) (r := c1 + 6 + (Int32.toNatClampNeg x2)) (t := 0) dX2_forceOf_36 (lyW1 hc1) (zvn (lnW1 hc1) k1) rfl (grT (B := c1) G hc1 (zvi k1)) ?_
      refine q_getI (pc := 37) (v := rI h (c1 + 6 + (Int32.toNatClampNeg x2)) 8) dX2_forceOf_37 lk_RX2_133 (lyT (B := c1) hc1 (zvi k1)) rfl ?_
      exact q_retI (pc := 40) dX2_forceOf_40 rfl F
    · replace F := F.2 k2
      refine z_aload_n (pc := 22) dX2_forceOf_22 rfl rfl ?_
      refine q_getR (pc := 23) (i := c0 + 3) dX2_forceOf_23 lk_RX2_18 (lyLo0 hc0) (grLo2 G hc0) ?_
      refine z_iload_n (pc := 26) dX2_forceOf_26 rfl rfl ?_
      refine q_iald (pc := 27) (j := (Int32.toNatClampNeg x2)) (v := rI h (c0 + 3) ((Int32.toNatClampNeg x2))) dX2_forceOf_27 (lyLo3 hc0) (zvn (lnLo3 hc0) k1) rfl rfl ?_
      refine z_goto (pc := 28) (tgt := 40) dX2_forceOf_28 (by decide) ?_
      exact q_retI (pc := 40) dX2_forceOf_40 rfl F
  · replace F := F.2 (zb0.mp k3)
    refine z_iconst (pc := 8) (v := 0) dX2_forceOf_8 (by decide) ?_
    exact q_retI (pc := 9) dX2_forceOf_9 rfl F
theorem g_X0_act {x1 : Int32} {x2 : Int32} {h : zHp} {Q : zHp → Prop}  (G : zG h) (F : ((0 ≤ x1 ∧ x1 ≤ (rI h 2 7) - 1) → (vp_in x1 8 ∧ (zRef h 6 ((Int32.toNatClampNeg x1)) 8 ∧ ((¬ rI h (rG h 6 ((Int32.toNatClampNeg x1))) 3 = -1 → (zlV M_X0_act 38 [some (.ref 1), some (.int x1), some (.int x2), some (.ref (rG h 6 ((Int32.toNatClampNeg x1)))), none, none] [.int (rI h (rG h 6 ((Int32.toNatClampNeg x1))) 3)] h Q)) ∧ (rI h (rG h 6 ((Int32.toNatClampNeg x1))) 3 = -1 → (zlV M_X0_act 38 [some (.ref 1), some (.int x1), some (.int x2), some (.ref (rG h 6 ((Int32.toNatClampNeg x1)))), none, none] [.int x2] h Q)))))) ∧ (¬ (0 ≤ x1 ∧ x1 ≤ (rI h 2 7) - 1) → (Q h))) : zcV M_X0_act [.ref 1, .int x1, .int x2] h Q := by
  show zw zNT zNT M_X0_act 0 [some (.ref 1), some (.int x1), some (.int x2), none, none, none] [] h _
  refine z_aload_n (pc := 0) dX0_act_0 rfl rfl ?_
  refine q_getR (pc := 1) (i := 2) dX0_act_1 lk_RX0_12 (lyc rfl) (G 1 0 2 rfl) ?_
  refine z_iload_n (pc := 4) dX0_act_4 rfl rfl ?_
  refine q_invV (pc := 5) (As := [.int x1]) (st := []) dX0_act_5 ok_X8_hasWatcher ml_RX0_184 iv_X8_hasWatcher pa_X8_hasWatcher ⟨Nat.le_of_ble_eq_true rfl, Nat.le_of_ble_eq_true rfl⟩ (lyc rfl) (q_pI (s_X8_hasWatcher G (Or.inl rfl)) rfl ?_)
  refine z_if_ne (pc := 8) (tgt := 12) dX0_act_8 (by decide) (fun k4 => ?_) (fun k4 => ?_)
  · replace F := F.1 (zbn.mp k4)
    refine z_aload_n (pc := 12) dX0_act_12 rfl rfl ?_
    refine q_getR (pc := 13) (i := 2) dX0_act_13 lk_RX0_12 (lyc rfl) (G 1 0 2 rfl) ?_
    refine q_getR (pc := 16) (i := 6) dX0_act_16 lk_RX0_88 (lyc rfl) (G 2 6 6 rfl) ?_
    refine z_iload_n (pc := 19) dX0_act_19 rfl rfl ?_
    obtain ⟨k1, F⟩ := F
    obtain ⟨k2, F⟩ := F
    refine q_aald (pc := 20) (j := (Int32.toNatClampNeg x1)) (r := rG h 6 ((Int32.toNatClampNeg x1))) (t := 3) dX0_act_20 (lyc rfl) (zvn (lnc rfl) k1) rfl k2.1 ?_
    refine z_astore_n (pc := 21) (ls' := [some (.ref 1), some (.int x1), some (.int x2), some (.ref (rG h 6 ((Int32.toNatClampNeg x1)))), none, none]) dX0_act_21 rfl (by decide) rfl ?_
    refine z_aload_n (pc := 22) dX0_act_22 rfl rfl ?_
    refine q_getI (pc := 23) (v := rI h (rG h 6 ((Int32.toNatClampNeg x1))) 3) dX0_act_23 lk_RX0_187 k2.2 rfl ?_
    refine z_iconst (pc := 26) (v := -1) dX0_act_26 (by decide) ?_
    refine z_icmp_ne (pc := 27) (tgt := 34) dX0_act_27 (by decide) (fun k3 => ?_) (fun k3 => ?_)
    · replace F := F.1 k3
      refine z_aload_n (pc := 34) dX0_act_34 rfl rfl ?_
      refine q_getI (pc := 35) (v := rI h (rG h 6 ((Int32.toNatClampNeg x1))) 3) dX0_act_35 lk_RX0_187 k2.2 rfl ?_
      exact F
    · replace F := F.2 k3
      refine z_iload_n (pc := 30) dX0_act_30 rfl rfl ?_
      refine z_goto (pc := 31) (tgt := 38) dX0_act_31 (by decide) ?_
      exact F
  · replace F := F.2 (zb0.mp k4)
    exact q_retV (pc := 11) dX0_act_11 rfl F
theorem g_X0_act_38 {x1 : Int32} {x2 : Int32} {c3 : Nat} {xs0 : Int32} {h : zHp} {Q : zHp → Prop} (hc3 : ly c3 = 8) (G : zG h) (F : (rI h c3 4 ≤ 0 → (zcI M_X2_forceOf [.ref 42, .ref 2, .int x2] h (fun vh1 h1 => zG h1 ∧ (zlV M_X0_act 66 [some (.ref 1), some (.int x1), some (.int x2), some (.ref c3), some (.int xs0), none] [.int vh1] h1 Q)))) ∧ (¬ (rI h c3 4 ≤ 0) → (zlV M_X0_act 66 [some (.ref 1), some (.int x1), some (.int x2), some (.ref c3), some (.int xs0), none] [.int (rI h c3 4)] h Q))) : zlV M_X0_act 38 [some (.ref 1), some (.int x1), some (.int x2), some (.ref c3), none, none] [.int xs0] h Q := by
  refine z_istore (pc := 38) (ls' := [some (.ref 1), some (.int x1), some (.int x2), some (.ref c3), some (.int xs0), none]) dX0_act_38 (by decide) rfl ?_
  refine z_aload_n (pc := 40) dX0_act_40 rfl rfl ?_
  refine q_getI (pc := 41) (v := rI h c3 4) dX0_act_41 lk_RX0_190 hc3 rfl ?_
  refine z_if_le (pc := 44) (tgt := 54) dX0_act_44 (by decide) (fun k2 => ?_) (fun k2 => ?_)
  · replace F := F.1 k2
    refine z_aload_n (pc := 54) dX0_act_54 rfl rfl ?_
    refine q_getR (pc := 55) (i := 42) dX0_act_55 lk_RX0_21 (lyc rfl) (G 1 1 42 rfl) ?_
    refine z_aload_n (pc := 58) dX0_act_58 rfl rfl ?_
    refine q_getR (pc := 59) (i := 2) dX0_act_59 lk_RX0_12 (lyc rfl) (G 1 0 2 rfl) ?_
    refine z_iload_n (pc := 62) dX0_act_62 rfl rfl ?_
    refine q_invV (pc := 63) (As := [.ref 2, .int x2]) (st := []) dX0_act_63 ok_X2_forceOf ml_RX0_191 iv_X2_forceOf pa_X2_forceOf ⟨Nat.le_of_ble_eq_true rfl, Nat.le_of_ble_eq_true rfl⟩ (lyc rfl) (q_kI F (fun vh1 h1 F => ?_))
    obtain ⟨G1, F⟩ := F
    exact F
  · replace F := F.2 k2
    refine z_aload_n (pc := 47) dX0_act_47 rfl rfl ?_
    refine q_getI (pc := 48) (v := rI h c3 4) dX0_act_48 lk_RX0_190 hc3 rfl ?_
    refine z_goto (pc := 51) (tgt := 66) dX0_act_51 (by decide) ?_
    exact F
theorem g_X0_act_66 {x1 : Int32} {x2 : Int32} {c3 : Nat} {x4 : Int32} {xs0 : Int32} {h : zHp} {Q : zHp → Prop} (hc3 : ly c3 = 8) (G : zG h) (F : (xs0 ≤ 0 → (Q h)) ∧ (¬ (xs0 ≤ 0) → (zCt (rI h 2 1) 8 ∧ (((aliveC h 2 x4) → ((¬ rI h c3 2 = 0 → ((¬ rI h c3 2 = 1 → (vp_in x4 8 ∧ (Q (wI (wI h (8 + (Int32.toNatClampNeg x4)) 2 (if (rI h (8 + (Int32.toNatClampNeg x4)) 2) + xs0 < (99 : Int32) then (rI h (8 + (Int32.toNatClampNeg x4)) 2) + xs0 else 99)) (8 + (Int32.toNatClampNeg x4)) 3 (if (rI h (8 + (Int32.toNatClampNeg x4)) 3) + xs0 < (99 : Int32) then (rI h (8 + (Int32.toNatClampNeg x4)) 3) + xs0 else 99))))) ∧ (rI h c3 2 = 1 → (vp_in x4 8 ∧ (Q (wI h (8 + (Int32.toNatClampNeg x4)) 4 (if (0 : Int32) < (rI h (8 + (Int32.toNatClampNeg x4)) 4) - xs0 then (rI h (8 + (Int32.toNatClampNeg x4)) 4) - xs0 else 0))))))) ∧ (rI h c3 2 = 0 → (zcV M_X0_strike [.ref 1, .int x4, .int xs0] h (fun h1 => zG h1 ∧ (Q h1)))))) ∧ (¬ (aliveC h 2 x4) → (Q h)))))) : zlV M_X0_act 66 [some (.ref 1), some (.int x1), some (.int x2), some (.ref c3), some (.int x4), none] [.int xs0] h Q := by
  refine z_istore (pc := 66) (ls' := [some (.ref 1), some (.int x1), some (.int x2), some (.ref c3), some (.int x4), some (.int xs0)]) dX0_act_66 (by decide) rfl ?_
  refine z_iload (pc := 68) dX0_act_68 rfl ?_
  refine z_if_le (pc := 70) (tgt := 85) dX0_act_70 (by decide) (fun k8 => ?_) (fun k8 => ?_)
  · replace F := F.1 k8
    exact q_retV (pc := 85) dX0_act_85 rfl F
  · replace F := F.2 k8
    refine z_aload_n (pc := 73) dX0_act_73 rfl rfl ?_
    refine q_getR (pc := 74) (i := 2) dX0_act_74 lk_RX0_12 (lyc rfl) (G 1 0 2 rfl) ?_
    refine z_iload (pc := 77) dX0_act_77 rfl ?_
    obtain ⟨k1, F⟩ := F
    refine q_invV (pc := 79) (As := [.int x4]) (st := []) dX0_act_79 ok_X8_isAlive ml_RX0_195 iv_X8_isAlive pa_X8_isAlive ⟨Nat.le_of_ble_eq_true rfl, Nat.le_of_ble_eq_true rfl⟩ (lyc rfl) (q_pI (s_X8_isAlive G (Or.inl rfl) k1) rfl ?_)
    refine z_if_ne (pc := 82) (tgt := 86) dX0_act_82 (by decide) (fun k7 => ?_) (fun k7 => ?_)
    · replace F := F.1 (zbn.mp k7)
      refine z_aload_n (pc := 86) dX0_act_86 rfl rfl ?_
      refine q_getI (pc := 87) (v := rI h c3 2) dX0_act_87 lk_RX0_198 hc3 rfl ?_
      refine z_if_ne (pc := 90) (tgt := 104) dX0_act_90 (by decide) (fun k6 => ?_) (fun k6 => ?_)
      · replace F := F.1 k6
        refine z_aload_n (pc := 104) dX0_act_104 rfl rfl ?_
        refine q_getI (pc := 105) (v := rI h c3 2) dX0_act_105 lk_RX0_198 hc3 rfl ?_
        refine z_iconst (pc := 108) (v := 1) dX0_act_108 (by decide) ?_
        refine z_icmp_ne (pc := 109) (tgt := 130) dX0_act_109 (by decide) (fun k4 => ?_) (fun k4 => ?_)
        · replace F := F.1 k4
          refine z_aload_n (pc := 130) dX0_act_130 rfl rfl ?_
          refine q_getR (pc := 131) (i := 2) dX0_act_131 lk_RX0_12 (lyc rfl) (G 1 0 2 rfl) ?_
          refine q_getR (pc := 134) (i := 3) dX0_act_134 lk_RX0_65 (lyc rfl) (G 2 0 3 rfl) ?_
          refine z_iload (pc := 137) dX0_act_137 rfl ?_
          obtain ⟨k2, F⟩ := F
          refine q_aald (pc := 139) (j := (Int32.toNatClampNeg x4)) (r := 8 + (Int32.toNatClampNeg x4)) (t := 0) dX0_act_139 (lyc rfl) (zvn (lnc rfl) k2) rfl (grT (B := 2) G (Or.inl rfl) (zvi k2)) ?_
          refine z_iload (pc := 140) dX0_act_140 rfl ?_
          refine q_invV (pc := 142) (As := [.int xs0]) (st := []) dX0_act_142 ok_X6_raise ml_RX0_203 iv_X6_raise pa_X6_raise ⟨Nat.le_of_ble_eq_true rfl, Nat.le_of_ble_eq_true rfl⟩ (lyT (B := 2) (Or.inl rfl) (zvi k2)) (q_pV (s_X6_raise G (lyT (B := 2) (Or.inl rfl) (zvi k2))) ?_)
          exact q_retV (pc := 145) dX0_act_145 rfl F
        · replace F := F.2 k4
          refine z_aload_n (pc := 112) dX0_act_112 rfl rfl ?_
          refine q_getR (pc := 113) (i := 2) dX0_act_113 lk_RX0_12 (lyc rfl) (G 1 0 2 rfl) ?_
          refine q_getR (pc := 116) (i := 3) dX0_act_116 lk_RX0_65 (lyc rfl) (G 2 0 3 rfl) ?_
          refine z_iload (pc := 119) dX0_act_119 rfl ?_
          obtain ⟨k3, F⟩ := F
          refine q_aald (pc := 121) (j := (Int32.toNatClampNeg x4)) (r := 8 + (Int32.toNatClampNeg x4)) (t := 0) dX0_act_121 (lyc rfl) (zvn (lnc rfl) k3) rfl (grT (B := 2) G (Or.inl rfl) (zvi k3)) ?_
          refine z_iload (pc := 122) dX0_act_122 rfl ?_
          refine q_invV (pc := 124) (As := [.int xs0]) (st := []) dX0_act_124 ok_X6_heal ml_RX0_140 iv_X6_heal pa_X6_heal ⟨Nat.le_of_ble_eq_true rfl, Nat.le_of_ble_eq_true rfl⟩ (lyT (B := 2) (Or.inl rfl) (zvi k3)) (q_pV (s_X6_heal G (lyT (B := 2) (Or.inl rfl) (zvi k3))) ?_)
          refine z_goto (pc := 127) (tgt := 145) dX0_act_127 (by decide) ?_
          exact q_retV (pc := 145) dX0_act_145 rfl F
      · replace F := F.2 k6
        refine z_aload_n (pc := 93) dX0_act_93 rfl rfl ?_
        refine z_iload (pc := 94) dX0_act_94 rfl ?_
        refine z_iload (pc := 96) dX0_act_96 rfl ?_
        refine q_invV (pc := 98) (As := [.int x4, .int xs0]) (st := []) dX0_act_98 ok_X0_strike ml_RX0_200 iv_X0_strike pa_X0_strike ⟨Nat.le_of_ble_eq_true rfl, Nat.le_of_ble_eq_true rfl⟩ (lyc rfl) (q_kV F (fun h1 F => ?_))
        obtain ⟨G1, F⟩ := F
        refine z_goto (pc := 101) (tgt := 145) dX0_act_101 (by decide) ?_
        exact q_retV (pc := 145) dX0_act_145 rfl F
    · replace F := F.2 (zb0.mp k7)
      exact q_retV (pc := 85) dX0_act_85 rfl F
theorem g_X0_finish  {h : zHp} {Q : Int32 → zHp → Prop}  (G : zG h) (F : zcV M_X0_settle [.ref 1, .int 1] h (fun h1 => zG h1 ∧ (zlI M_X0_finish 9 [some (.ref 1), some (.int 0), some (.int 0)] [] h1 Q))) : zcI M_X0_finish [.ref 1] h Q := by
  show zw zNT zNT M_X0_finish 0 [some (.ref 1), none, none] [] h _
  refine z_aload_n (pc := 0) dX0_finish_0 rfl rfl ?_
  refine z_iconst (pc := 1) (v := 1) dX0_finish_1 (by decide) ?_
  refine q_invV (pc := 2) (As := [.int 1]) (st := []) dX0_finish_2 ok_X0_settle ml_RX0_173 iv_X0_settle pa_X0_settle ⟨Nat.le_of_ble_eq_true rfl, Nat.le_of_ble_eq_true rfl⟩ (lyc rfl) (q_kV F (fun h1 F => ?_))
  obtain ⟨G1, F⟩ := F
  refine z_iconst (pc := 5) (v := 0) dX0_finish_5 (by decide) ?_
  refine z_istore_n (pc := 6) (ls' := [some (.ref 1), some (.int 0), none]) dX0_finish_6 rfl (by decide) rfl ?_
  refine z_iconst (pc := 7) (v := 0) dX0_finish_7 (by decide) ?_
  refine z_istore_n (pc := 8) (ls' := [some (.ref 1), some (.int 0), some (.int 0)]) dX0_finish_8 rfl (by decide) rfl ?_
  exact F
theorem g_X0_finish_9 {x1 : Int32} {x2 : Int32} {h : zHp} {Q : Int32 → zHp → Prop}  (G : zG h) (F : (40 ≤ x2 → ((rI h 1 5 ≤ 0 → (Q x1 h)) ∧ (¬ (rI h 1 5 ≤ 0) → (Q (-5) h)))) ∧ (¬ (40 ≤ x2) → ((¬ ((1 : Int32) ≤ rI h 1 5 ∧ rI h 1 5 ≤ 400) → ((rI h 1 5 ≤ 0 → (Q x1 h)) ∧ (¬ (rI h 1 5 ≤ 0) → (Q (-5) h)))) ∧ (((1 : Int32) ≤ rI h 1 5 ∧ rI h 1 5 ≤ 400) → (vp_in ((rI h 1 5) - 1) 400 ∧ (vp_in x2 40 ∧ (zcV M_X0_act [.ref 1, .int (rI h 50 ((Int32.toNatClampNeg ((rI h 1 5) - 1)))), .int (rI h 51 ((Int32.toNatClampNeg ((rI h 1 5) - 1))))] (wI (wI h 1 5 ((rI h 1 5) - 1)) 52 ((Int32.toNatClampNeg x2)) (rI h 50 ((Int32.toNatClampNeg ((rI h 1 5) - 1))))) (fun h1 => zG h1 ∧ (zcV M_X0_settle [.ref 1, .int 1] h1 (fun h2 => zG h2 ∧ (zlI M_X0_finish 9 [some (.ref 1), some (.int (x1 + 1)), some (.int (x2 + 1))] [] h2 Q))))))))))) : zlI M_X0_finish 9 [some (.ref 1), some (.int x1), some (.int x2)] [] h Q := by
  refine z_iload_n (pc := 9) dX0_finish_9 rfl rfl ?_
  refine z_bipush (pc := 10) (v := 40) dX0_finish_10 (by decide) ?_
  refine z_icmp_ge (pc := 12) (tgt := 90) dX0_finish_12 (by decide) (fun k8 => ?_) (fun k8 => ?_)
  · replace F := F.1 k8
    refine z_aload_n (pc := 90) dX0_finish_90 rfl rfl ?_
    refine q_getI (pc := 91) (v := rI h 1 5) dX0_finish_91 lk_RX0_42 (lyc rfl) rfl ?_
    refine z_if_le (pc := 94) (tgt := 102) dX0_finish_94 (by decide) (fun k1 => ?_) (fun k1 => ?_)
    · replace F := F.1 k1
      refine z_iload_n (pc := 102) dX0_finish_102 rfl rfl ?_
      exact q_retI (pc := 103) dX0_finish_103 rfl F
    · replace F := F.2 k1
      refine z_bipush (pc := 97) (v := -5) dX0_finish_97 (by decide) ?_
      refine z_goto (pc := 99) (tgt := 103) dX0_finish_99 (by decide) ?_
      exact q_retI (pc := 103) dX0_finish_103 rfl F
  · replace F := F.2 k8
    refine z_aload_n (pc := 15) dX0_finish_15 rfl rfl ?_
    refine q_getI (pc := 16) (v := rI h 1 5) dX0_finish_16 lk_RX0_42 (lyc rfl) rfl ?_
    refine z_iconst (pc := 19) (v := 1) dX0_finish_19 (by decide) ?_
    refine z_sipush (pc := 20) (v := 400) dX0_finish_20 (by decide) ?_
    refine q_invS (pc := 23) (As := [.int (rI h 1 5), .int 1, .int 400]) (st := []) dX0_finish_23 ok_X10_within ml_RX0_177 st_X10_within pa_X10_within ⟨Nat.le_of_ble_eq_true rfl, Nat.le_of_ble_eq_true rfl⟩ (q_pI (s_X10_within G) rfl ?_)
    refine z_if_eq (pc := 26) (tgt := 90) dX0_finish_26 (by decide) (fun k7 => ?_) (fun k7 => ?_)
    · replace F := F.1 (zb0.mp k7)
      refine z_aload_n (pc := 90) dX0_finish_90 rfl rfl ?_
      refine q_getI (pc := 91) (v := rI h 1 5) dX0_finish_91 lk_RX0_42 (lyc rfl) rfl ?_
      refine z_if_le (pc := 94) (tgt := 102) dX0_finish_94 (by decide) (fun k2 => ?_) (fun k2 => ?_)
      · replace F := F.1 k2
        refine z_iload_n (pc := 102) dX0_finish_102 rfl rfl ?_
        exact q_retI (pc := 103) dX0_finish_103 rfl F
      · replace F := F.2 k2
        refine z_bipush (pc := 97) (v := -5) dX0_finish_97 (by decide) ?_
        refine z_goto (pc := 99) (tgt := 103) dX0_finish_99 (by decide) ?_
        exact q_retI (pc := 103) dX0_finish_103 rfl F
    · replace F := F.2 (zbn.mp k7)
      refine z_aload_n (pc := 29) dX0_finish_29 rfl rfl ?_
      refine z_dup (pc := 30) dX0_finish_30 rfl ?_
      refine q_getI (pc := 31) (v := rI h 1 5) dX0_finish_31 lk_RX0_42 (lyc rfl) rfl ?_
      refine z_iconst (pc := 34) (v := 1) dX0_finish_34 (by decide) ?_
      refine z_isub (pc := 35) dX0_finish_35 ?_
      refine q_putI (pc := 36) dX0_finish_36 lk_RX0_42 (lyc rfl) ?_
      refine z_aload_n (pc := 39) dX0_finish_39 rfl rfl ?_
      refine q_getR (pc := 40) (i := 52) dX0_finish_40 lk_RX0_39 (lyc rfl) (G 1 6 52 rfl) ?_
      refine z_iload_n (pc := 43) dX0_finish_43 rfl rfl ?_
      refine z_aload_n (pc := 44) dX0_finish_44 rfl rfl ?_
      refine q_getR (pc := 45) (i := 50) dX0_finish_45 lk_RX0_32 (lyc rfl) (G 1 3 50 rfl) ?_
      refine z_aload_n (pc := 48) dX0_finish_48 rfl rfl ?_
      refine q_getI (pc := 49) (v := (rI h 1 5) - 1) dX0_finish_49 lk_RX0_42 (lyc rfl) rI_s ?_
      obtain ⟨k3, F⟩ := F
      refine q_iald (pc := 52) (j := (Int32.toNatClampNeg ((rI h 1 5) - 1))) (v := rI h 50 ((Int32.toNatClampNeg ((rI h 1 5) - 1)))) dX0_finish_52 (lyc rfl) (zvn (lnc rfl) k3) rfl (rI_c (by decide)) ?_
      obtain ⟨k4, F⟩ := F
      refine q_iast (pc := 53) (j := (Int32.toNatClampNeg x2)) dX0_finish_53 (lyc rfl) (zvn (lnc rfl) k4) rfl ?_
      refine z_aload_n (pc := 54) dX0_finish_54 rfl rfl ?_
      refine z_aload_n (pc := 55) dX0_finish_55 rfl rfl ?_
      refine q_getR (pc := 56) (i := 50) dX0_finish_56 lk_RX0_32 (lyc rfl) (G 1 3 50 rfl) ?_
      refine z_aload_n (pc := 59) dX0_finish_59 rfl rfl ?_
      refine q_getI (pc := 60) (v := (rI h 1 5) - 1) dX0_finish_60 lk_RX0_42 (lyc rfl) ((rI_c (by decide)).trans rI_s) ?_
      refine q_iald (pc := 63) (j := (Int32.toNatClampNeg ((rI h 1 5) - 1))) (v := rI h 50 ((Int32.toNatClampNeg ((rI h 1 5) - 1)))) dX0_finish_63 (lyc rfl) (zvn (lnc rfl) k3) rfl ((rI_c (by decide)).trans (rI_c (by decide))) ?_
      refine z_aload_n (pc := 64) dX0_finish_64 rfl rfl ?_
      refine q_getR (pc := 65) (i := 51) dX0_finish_65 lk_RX0_36 (lyc rfl) (G 1 4 51 rfl) ?_
      refine z_aload_n (pc := 68) dX0_finish_68 rfl rfl ?_
      refine q_getI (pc := 69) (v := (rI h 1 5) - 1) dX0_finish_69 lk_RX0_42 (lyc rfl) ((rI_c (by decide)).trans rI_s) ?_
      refine q_iald (pc := 72) (j := (Int32.toNatClampNeg ((rI h 1 5) - 1))) (v := rI h 51 ((Int32.toNatClampNeg ((rI h 1 5) - 1)))) dX0_finish_72 (lyc rfl) (zvn (lnc rfl) k3) rfl ((rI_c (by decide)).trans (rI_c (by decide))) ?_
      refine q_invV (pc := 73) (As := [.int (rI h 50 ((Int32.toNatClampNeg ((rI h 1 5) - 1)))), .int (rI h 51 ((Int32.toNatClampNeg ((rI h 1 5) - 1))))]) (st := []) dX0_finish_73 ok_X0_act ml_RX0_181 iv_X0_act pa_X0_act ⟨Nat.le_of_ble_eq_true rfl, Nat.le_of_ble_eq_true rfl⟩ (lyc rfl) (q_kV F (fun h1 F => ?_))
      obtain ⟨G1, F⟩ := F
      refine z_aload_n (pc := 76) dX0_finish_76 rfl rfl ?_
      refine z_iconst (pc := 77) (v := 1) dX0_finish_77 (by decide) ?_
      refine q_invV (pc := 78) (As := [.int 1]) (st := []) dX0_finish_78 ok_X0_settle ml_RX0_173 iv_X0_settle pa_X0_settle ⟨Nat.le_of_ble_eq_true rfl, Nat.le_of_ble_eq_true rfl⟩ (lyc rfl) (q_kV F (fun h2 F => ?_))
      obtain ⟨G2, F⟩ := F
      refine z_iinc (pc := 81) (v := x1 + 1) (ls' := [some (.ref 1), some (.int (x1 + 1)), some (.int x2)]) dX0_finish_81 (by decide) rfl rfl rfl ?_
      refine z_iinc (pc := 84) (v := x2 + 1) (ls' := [some (.ref 1), some (.int (x1 + 1)), some (.int (x2 + 1))]) dX0_finish_84 (by decide) rfl rfl rfl ?_
      refine z_goto (pc := 87) (tgt := 9) dX0_finish_87 (by decide) ?_
      exact F
theorem VL_2 {h : zHp} {K t : Nat} : VL h K (4 * t + 2) = rI h (K + 3) t := VL_at (k := 2) (by omega)
theorem s_X2_forceOf {N : zN} {x : Int32} {h : zHp} (G : zG h) (hC : CN N) (hQ : WQ N) (hR : RW h 2 N) (hL : Lm h 42 N) : zcI M_X2_forceOf [.ref 42, .ref 2, .int x] h (fun r h' => r = fo N x ∧ h' = h) := by
  have h8 := hC.1.2
  refine g_X2_forceOf (Or.inl rfl) (Or.inl rfl) G ?_
  rw [hR.1.1]
  refine ⟨fun q => ?_, fun q => ⟨?_, rfl⟩⟩
  · have q0 := q
    rw [hC.1.1] at q
    obtain ⟨t, ht, rfl⟩ := zsm (by omega) q
    rw [nI_clamp (by omega), fo_n hC ht]
    have w5 := hR.2.1 t 5 ht (by omega)
    have w8 := hR.2.1 t 8 ht (by omega)
    rw [w5, w8]
    unfold isN
    refine ⟨vp_in_nI (by omega) (by omega), fun z => ⟨?_, rfl⟩, fun z => ⟨?_, rfl⟩⟩
    · rw [if_neg (by rw [z]; decide)]
    · rw [if_pos ((hQ.n.1 t ht).resolve_left z), ← hL.2.1 _ (by omega), VL_2]
  · unfold fo
    rw [if_neg q]
theorem s_X0_act {N : zN} {s : Stk} {w : Nat} {x : Int32} {h : zHp} (G : zG h) (hC : CN N) (hQ : WQ N) (hP : PW h 2) (hR : RW h 2 N) (hL : Lm h 42 N) (hS : SC h s) (hw : w < cV N) (hx : By (cT N) x) (room : s.2.2 + 8 ≤ 400) : zcV M_X0_act [.ref 1, .int (nI w), .int x] h (fun h' => fX h h' ∧ PW h' 2 ∧ RW h' 2 (Ac N w x s).1 ∧ SC h' (Ac N w x s).2) := by
  have h8 := hC.1.2
  have v8 := hC.2.2.2.2
  have hB : zW 2 := Or.inl rfl
  have lc := hP.v hB (show w < 8 by omega)
  have w2 := hR.2.2.2.2 w 2 hw (by omega)
  have w3 := hR.2.2.2.2 w 3 hw (by omega)
  have w4 := hR.2.2.2.2 w 4 hw (by omega)
  change rI h (rG h 6 w) 2 = _ at w2
  change rI h (rG h 6 w) 3 = _ at w3
  change rI h (rG h 6 w) 4 = _ at w4
  have stay : (acV N w x ≤ 0 ∨ ¬ AlI N (acT N w x)) → fX h h ∧ PW h 2 ∧ RW h 2 (Ac N w x s).1 ∧ SC h (Ac N w x s).2 := by
    intro z
    have e : Ac N w x s = (N, s) := by unfold Ac; rw [if_pos z]
    rw [e]
    exact ⟨fX.rf, hP, hR, hS⟩
  have last : ∀ v, v = acV N w x → zlV M_X0_act 66 [some (.ref 1), some (.int (nI w)), some (.int x), some (.ref (rG h 6 w)), some (.int (acT N w x)), none] [.int v] h (fun h' => fX h h' ∧ PW h' 2 ∧ RW h' 2 (Ac N w x s).1 ∧ SC h' (Ac N w x s).2) := by
    intro v hv
    subst hv
    refine g_X0_act_66 lc.2 G ⟨fun z => stay (Or.inl z), fun z => ⟨?_, fun z1 => ?_, fun z1 => ?_⟩⟩
    · rw [hR.1.1]; exact hC.t
    · have al := (aliveC_Al hC hR hQ.n).mp z1
      obtain ⟨t, ht, et, ta⟩ := AlI_ex hC al
      have nz : ¬ (acV N w x ≤ 0 ∨ ¬ AlI N (acT N w x)) := fun y => y.elim z (fun y => y al)
      have bd := acV_bd hC hQ hw hx z
      have q := hQ.1 t ht
      rw [w2, et, nI_clamp (by omega)]
      have t2 : rI h (8 + t) 2 = N (10 * t + 2) := hR.2.1 t 2 ht (by omega)
      have t3 : rI h (8 + t) 3 = N (10 * t + 3) := hR.2.1 t 3 ht (by omega)
      have t4 : rI h (8 + t) 4 = N (10 * t + 4) := hR.2.1 t 4 ht (by omega)
      rw [t2, t3, t4, wv_sub q.2.2.2.2.1 bd, mnI_lt, mnI_lt]
      have e : Ac N w x s = if N (182 + 7 * w + 2) = 0 then Hs N t (acV N w x) s else if N (182 + 7 * w + 2) = 1 then (wN N t (-(acV N w x)), s) else (Rs N t (acV N w x), s) := by
        unfold Ac
        rw [if_neg nz, et, nI_clamp (by omega)]
      refine ⟨fun y => ⟨fun y1 => ⟨vp_in_nI (by omega) (by omega), ?_⟩, fun y1 => ⟨vp_in_nI (by omega) (by omega), ?_⟩⟩, fun y => ?_⟩
      · rw [e, if_neg y, if_neg y1]
        have r1 := RW_uT (v := ra (N (10 * t + 2)) (acV N w x)) hP hC hR ht (show 2 < 10 by omega)
        have r2 := RW_uT (t := t) (v := ra (N (10 * t + 3)) (acV N w x)) (PW_of (h := h) (h' := wI h (2 + 6 + t) 2 (ra (N (10 * t + 2)) (acV N w x))) rfl hP) (CN_u (i := 10 * t + 2) (v := ra (N (10 * t + 2)) (acV N w x)) hC (by omega)) r1 (by rw [cT_u (by omega)]; exact ht) (show 3 < 10 by omega)
        refine ⟨(fX.w (by omega)).tr (fX.w (by omega)), PW_of rfl hP, r2, SC_of (by rw [wI_ne (by omega), wI_ne (by omega)]) (by rw [wI_ne (by omega), wI_ne (by omega)]) (by rw [wI_ne (by omega), wI_ne (by omega)]) hS⟩
      · rw [e, if_neg y, if_pos y1]
        exact ⟨fX.w (by omega), PW_of rfl hP, RW_uT hP hC hR ht (by omega), SC_of (by rw [wI_ne (by omega)]) (wI_ne (by omega)) (wI_ne (by omega)) hS⟩
      · rw [e, if_pos y]
        exact zcV_then (s_X0_strike G hC hQ hP hR hL hS ht ta bd room) (fun h1 hh => ⟨hh.1.g G, hh⟩)
    · exact stay (Or.inr (fun y => z1 ((aliveC_Al hC hR hQ.n).mpr y)))
  have mid : zlV M_X0_act 38 [some (.ref 1), some (.int (nI w)), some (.int x), some (.ref (rG h 6 w)), none, none] [.int (acT N w x)] h (fun h' => fX h h' ∧ PW h' 2 ∧ RW h' 2 (Ac N w x s).1 ∧ SC h' (Ac N w x s).2) := by
    refine g_X0_act_38 lc.2 G ?_
    rw [w4]
    have iv := acV_iv (x := x) hQ hw
    refine ⟨fun z => zcI_use (s_X2_forceOf G hC hQ hR hL) ⟨G, last _ (iv.1 z).symm⟩, fun z => last _ (iv.2 z).symm⟩
  refine g_X0_act G ?_
  rw [hR.1.2.2.2.1, hC.2.2.2.1, nI_clamp (by omega), w3]
  unfold acT at mid
  refine ⟨fun _ => ⟨vp_in_nI (by omega) (by omega), lc, fun z => ?_, fun z => ?_⟩, fun z => absurd (zsm2 (by omega) hw) z⟩
  · rw [if_neg z] at mid; exact mid
  · rw [if_pos z] at mid; exact mid
/-- the same, and who acted -/
def fY (h h' : zHp) : Prop := (∀ a, (a = 0 ∨ 53 ≤ a) → h'.1 a = h.1 a) ∧ ∀ a, a ≠ 4 → a ≠ 5 → a ≠ 6 → h'.2 a = h.2 a
theorem fX.y {h h' : zHp} (f : fX h h') : fY h h' := ⟨fun a ha => f.1 a (by omega), f.2⟩
theorem fY.tr {h h' h2 : zHp} (a : fY h h') (b : fY h' h2) : fY h h2 := ⟨fun z hz => (b.1 z hz).trans (a.1 z hz), fun z z1 z2 z3 => (b.2 z z1 z2 z3).trans (a.2 z z1 z2 z3)⟩
theorem fY.g {h h' : zHp} (f : fY h h') (G : zG h) : zG h' := by
  have : fX (h'.1, h.2) h' := ⟨fun _ _ => rfl, f.2⟩
  exact this.g (zG_of rfl G)
theorem s_X0_finish {N : zN} {s : Stk} {D : zN} {h : zHp} (G : zG h) (hC : CN N) (hQ : WQ N) (hP : PW h 2) (hR : RW h 2 N) (hS : SC h s) (hv : SV (cV N) (cT N) s) (room : s.2.2 + 8 * na N ≤ 72) : zcI M_X0_finish [.ref 1] h (fun r h' => fY h h' ∧ PW h' 2 ∧ (∃ n, rI h' 1 5 = nI n) ∧ r = (Fn 40 (Ro True 9 N s).1 (Ro True 9 N s).2 0 D).1 ∧ RW h' 2 (Fn 40 (Ro True 9 N s).1 (Ro True 9 N s).2 0 D).2.1 ∧ Lm h' 42 (Fn 40 (Ro True 9 N s).1 (Ro True 9 N s).2 0 D).2.1 ∧ (r = -5 → ∀ i, i < 40 → rI h' 52 i = (Fn 40 (Ro True 9 N s).1 (Ro True 9 N s).2 0 D).2.2 i)) := by
  have loop : ∀ (m k : Nat) (N' : zN) (s' : Stk) (D' : zN) (h' : zHp), k + m = 40 → FI k N' s' → fY h h' → PW h' 2 → RW h' 2 N' → Lm h' 42 N' → SC h' s' → (∀ i, i < k → rI h' 52 i = D' i) → zlI M_X0_finish 9 [some (.ref 1), some (.int (nI k)), some (.int (nI k))] [] h' (fun r h2 => fY h h2 ∧ PW h2 2 ∧ (∃ n, rI h2 1 5 = nI n) ∧ r = (Fn m N' s' k D').1 ∧ RW h2 2 (Fn m N' s' k D').2.1 ∧ Lm h2 42 (Fn m N' s' k D').2.1 ∧ (r = -5 → ∀ i, i < 40 → rI h2 52 i = (Fn m N' s' k D').2.2 i)) := by
    intro m
    induction m with
    | zero =>
      intro k N' s' D' h' hk fi f p q l c d
      have : k = 40 := by omega
      subst this
      refine g_X0_finish_9 (f.g G) ⟨fun _ => ?_, fun z => absurd (by decide) z⟩
      rw [c.1]
      have := fi.2.2.2.2
      refine ⟨fun z => ?_, fun z => ?_⟩
      · have s0 : s'.2.2 = 0 := Classical.byContradiction (fun y => nI_nle (n := s'.2.2) (by omega) (by omega) z)
        rw [Fn, if_pos s0]
        exact ⟨f, p, ⟨_, rfl⟩, rfl, q, l, fun y => absurd y (by decide)⟩
      · have s0 : ¬ s'.2.2 = 0 := fun y => z (by rw [y]; decide)
        rw [Fn, if_neg s0]
        exact ⟨f, p, ⟨_, rfl⟩, rfl, q, l, fun _ => d⟩
    | succ m ih =>
      intro k N' s' D' h' hk fi f p q l c d
      have bd := fi.2.2.2.2
      have hC' := fi.1
      have n8 := na_8 hC'
      refine g_X0_finish_9 (f.g G) ⟨fun z => absurd z (nI_ge (b := 40) (by omega) (by omega)), fun _ => ?_⟩
      rw [c.1]
      by_cases s0 : s'.2.2 = 0
      · rw [Fn, if_pos s0, s0]
        refine ⟨fun _ => ⟨fun _ => ⟨f, p, ⟨_, rfl⟩, rfl, q, l, fun y => ?_⟩, fun z => absurd (by decide) z⟩, fun z => absurd z.1 (by decide)⟩
        exact absurd (by rw [y]; decide) (nI_pos (n := k) (by omega))
      · obtain ⟨w, x, hw, hx, ew, ex, hs⟩ := FI_pop fi s0
        obtain ⟨n, hn⟩ : ∃ n, s'.2.2 = n + 1 := ⟨s'.2.2 - 1, by omega⟩
        have nx := FI_step fi s0 hw hx hs
        have aa := Ac_all hC' fi.2.1 hw hx hs
        rw [Fn, if_neg s0, ew, nI_clamp (show w < 2 ^ 31 by have := hC'.2.2.2.2; omega), ex]
        have en : s'.2.2 - 1 = n := by omega
        rw [en] at ew ex hs nx aa ⊢
        rw [hn, nI_pred, nI_clamp (n := n) (by omega), nI_clamp (n := k) (by omega)]
        have c50 := (c.2 n (by omega)).1
        have c51 := (c.2 n (by omega)).2
        rw [c50, c51, ew, ex]
        refine ⟨fun z => absurd (⟨nI_le (a := 1) (by omega) (by omega), nI_le (b := 400) (by omega) (by omega)⟩ : (1 : Int32) ≤ nI (n + 1) ∧ nI (n + 1) ≤ 400) z, fun _ => ⟨vp_in_nI (by omega) (by omega), vp_in_nI (by omega) (by omega), ?_⟩⟩
        have f1 : fY h (wI (wI h' 1 5 (nI n)) 52 k (nI w)) := f.tr ⟨fun a ha => by rw [wI_ne (by omega), wI_ne (by omega)], fun _ _ _ _ => rfl⟩
        have p1 : PW (wI (wI h' 1 5 (nI n)) 52 k (nI w)) 2 := PW_of rfl p
        have fr : ∀ a, 2 ≤ a → a < 52 → (wI (wI h' 1 5 (nI n)) 52 k (nI w)).1 a = h'.1 a := fun a h1 h2 => by rw [wI_ne (by omega), wI_ne (by omega)]
        have q1 : RW (wI (wI h' 1 5 (nI n)) 52 k (nI w)) 2 N' := RW_of (h := h') rfl (fun a h1 h2 => fr a (by omega) (by omega)) p hC' q
        have l1 : Lm (wI (wI h' 1 5 (nI n)) 52 k (nI w)) 42 N' := by
          refine ⟨?_, ?_, fun i hi => ?_⟩
          · rw [rI_c (by decide), rI_c (by decide)]; exact l.1
          · rw [VL_of (h := h') (fun a h1 h2 => fr a (by omega) (by omega))]; exact l.2.1
          · rw [rI_c (by decide), rI_c (by decide)]; exact l.2.2 i hi
        have c1 : SC (wI (wI h' 1 5 (nI n)) 52 k (nI w)) (s'.1, s'.2.1, n) := by
          refine ⟨by rw [rI_c (by decide), rI_s], fun i hi => ?_⟩
          rw [rI_c (by decide), rI_c (by decide), rI_c (by decide), rI_c (by decide)]
          exact c.2 i (by change i < n at hi; omega)
        refine zcV_then (s_X0_act (f1.g G) hC' fi.2.1 p1 q1 l1 c1 hw hx (by show n + 8 ≤ 400; omega)) (fun h2 hh => ⟨(f1.tr hh.1.y).g G, ?_⟩)
        obtain ⟨f2, p2, q2, c2⟩ := hh
        have fy2 := f1.tr f2.y
        have a6 := aa.2.2.2.2.2.1
        change _ ≤ n + 8 at a6
        have st := s_X0_settle (x := 1) (fy2.g G) aa.1 p2 q2 aa.2.1.n c2 (fun _ => by rw [aa.2.2.2.2.1]; omega)
        rw [eq_true (show ¬ (1 : Int32) = 0 by decide)] at st
        refine zcV_then st (fun h3 hh => ⟨(fy2.tr (fX.c hh.1).y).g G, ?_⟩)
        obtain ⟨f3, q3, c3, l3⟩ := hh
        rw [nI_1]
        refine ih (k + 1) _ _ _ h3 (by omega) nx (fy2.tr (fX.c f3).y) (PW_of f3.1 p2) q3 l3 c3 (fun i hi => ?_)
        have e52 : ∀ i, rI h3 52 i = rI (wI (wI h' 1 5 (nI n)) 52 k (nI w)) 52 i := fun i => by
          show h3.1 52 i = (wI (wI h' 1 5 (nI n)) 52 k (nI w)).1 52 i
          rw [(fX.c f3).1 52 (by omega), f2.1 52 (by omega)]
        rw [e52]
        unfold upd
        by_cases z : i = k
        · rw [if_pos z, z, rI_s]
        · rw [if_neg z, rI_k z, rI_c (by decide)]
          exact d i (by omega)
  have n8 := na_8 hC
  have st := s_X0_settle (x := 1) G hC hP hR hQ.n hS (fun _ => by omega)
  rw [eq_true (show ¬ (1 : Int32) = 0 by decide)] at st
  refine g_X0_finish G (zcV_then st (fun h1 hh => ⟨(fX.c hh.1).g G, ?_⟩))
  obtain ⟨f1, q1, c1, l1⟩ := hh
  obtain ⟨b1, b2⟩ := Ro_CQ (pl := True) (m := 9) (s := s) hC hQ
  have b3 := Ro_cnt (pl := True) (N0 := N) 9 N s hC ⟨rfl, rfl⟩
  have b4 := Ro_room (pl := True) 9 N s hC
  have b5 := SV_Ro (pl := True) 9 N s hC hv
  refine loop 40 0 _ _ D h1 (by omega) ⟨b1, b2, Ro_9 hC, ?_, by omega⟩ (fX.c f1).y (PW_of f1.1 hP) q1 l1 c1 (fun i hi => by omega)
  rw [b3.1, b3.2]
  exact b5

