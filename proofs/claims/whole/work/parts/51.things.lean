/-! calls: things -/
theorem g_X8_empty {c0 : Nat} {h : zHp} {Q : zHp → Prop} (hc0 : zW c0) (G : zG h) (F : Q (wI (wI (wI (wI (wI (wI (wI h c0 1 0) c0 3 0) c0 5 0) c0 7 0) (c0 + 5) 0 0) (c0 + 5) 1 0) c0 9 0)) : zcV M_X8_empty [.ref c0] h Q := by
  show zw zNT zNT M_X8_empty 0 [some (.ref c0)] [] h _
  refine z_aload_n (pc := 0) dX8_empty_0 rfl rfl ?_
  refine z_iconst (pc := 1) (v := 0) dX8_empty_1 (by decide) ?_
  refine q_putI (pc := 2) dX8_empty_2 lk_RX8_47 (lyW0 hc0) ?_
  refine z_aload_n (pc := 5) dX8_empty_5 rfl rfl ?_
  refine z_iconst (pc := 6) (v := 0) dX8_empty_6 (by decide) ?_
  refine q_putI (pc := 7) dX8_empty_7 lk_RX8_50 (lyW0 hc0) ?_
  refine z_aload_n (pc := 10) dX8_empty_10 rfl rfl ?_
  refine z_iconst (pc := 11) (v := 0) dX8_empty_11 (by decide) ?_
  refine q_putI (pc := 12) dX8_empty_12 lk_RX8_53 (lyW0 hc0) ?_
  refine z_aload_n (pc := 15) dX8_empty_15 rfl rfl ?_
  refine z_iconst (pc := 16) (v := 0) dX8_empty_16 (by decide) ?_
  refine q_putI (pc := 17) dX8_empty_17 lk_RX8_56 (lyW0 hc0) ?_
  refine z_aload_n (pc := 20) dX8_empty_20 rfl rfl ?_
  refine q_getR (pc := 21) (i := c0 + 5) dX8_empty_21 lk_RX8_35 (lyW0 hc0) (grW8 G hc0) ?_
  refine z_iconst (pc := 24) (v := 0) dX8_empty_24 (by decide) ?_
  refine z_iconst (pc := 25) (v := 0) dX8_empty_25 (by decide) ?_
  refine q_iast (pc := 26) (j := 0) dX8_empty_26 (lyW5 hc0) (zvl (lnW5 hc0) (by decide)) (by decide) ?_
  refine z_aload_n (pc := 27) dX8_empty_27 rfl rfl ?_
  refine q_getR (pc := 28) (i := c0 + 5) dX8_empty_28 lk_RX8_35 (lyW0 hc0) (grW8 G hc0) ?_
  refine z_iconst (pc := 31) (v := 1) dX8_empty_31 (by decide) ?_
  refine z_iconst (pc := 32) (v := 0) dX8_empty_32 (by decide) ?_
  refine q_iast (pc := 33) (j := 1) dX8_empty_33 (lyW5 hc0) (zvl (lnW5 hc0) (by decide)) (by decide) ?_
  refine z_aload_n (pc := 34) dX8_empty_34 rfl rfl ?_
  refine z_iconst (pc := 35) (v := 0) dX8_empty_35 (by decide) ?_
  refine q_putI (pc := 36) dX8_empty_36 lk_RX8_59 (lyW0 hc0) ?_
  exact q_retV (pc := 39) dX8_empty_39 rfl F
theorem g_X8_addThing {c0 : Nat} {x1 : Int32} {x2 : Int32} {x3 : Int32} {x4 : Int32} {h : zHp} {Q : zHp → Prop} (hc0 : zW c0) (G : zG h) (F : (8 ≤ rI h c0 1 → (Q h)) ∧ (¬ (8 ≤ rI h c0 1) → (vp_in (rI h c0 1) 8 ∧ (Q (wI (wI (wI (wI (wI (wI (wI (wI (wI (wI (wI h (c0 + 6 + (Int32.toNatClampNeg (rI h c0 1))) 0 x1) (c0 + 6 + (Int32.toNatClampNeg (rI h c0 1))) 1 x2) (c0 + 6 + (Int32.toNatClampNeg (rI h c0 1))) 2 x3) (c0 + 6 + (Int32.toNatClampNeg (rI h c0 1))) 3 x4) (c0 + 6 + (Int32.toNatClampNeg (rI h c0 1))) 4 0) (c0 + 6 + (Int32.toNatClampNeg (rI h c0 1))) 5 1) (c0 + 6 + (Int32.toNatClampNeg (rI h c0 1))) 6 0) (c0 + 6 + (Int32.toNatClampNeg (rI h c0 1))) 7 0) (c0 + 6 + (Int32.toNatClampNeg (rI h c0 1))) 8 0) (c0 + 6 + (Int32.toNatClampNeg (rI h c0 1))) 9 0) c0 1 ((rI h c0 1) + 1)))))) : zcV M_X8_addThing [.ref c0, .int x1, .int x2, .int x3, .int x4] h Q := by
  show zw zNT zNT M_X8_addThing 0 [some (.ref c0), some (.int x1), some (.int x2), some (.int x3), some (.int x4)] [] h _
  refine z_aload_n (pc := 0) dX8_addThing_0 rfl rfl ?_
  refine q_getI (pc := 1) (v := rI h c0 1) dX8_addThing_1 lk_RX8_47 (lyW0 hc0) rfl ?_
  refine z_bipush (pc := 4) (v := 8) dX8_addThing_4 (by decide) ?_
  refine z_icmp_ge (pc := 6) (tgt := 36) dX8_addThing_6 (by decide) (fun k2 => ?_) (fun k2 => ?_)
  · replace F := F.1 k2
    exact q_retV (pc := 36) dX8_addThing_36 rfl F
  · replace F := F.2 k2
    refine z_aload_n (pc := 9) dX8_addThing_9 rfl rfl ?_
    refine q_getR (pc := 10) (i := c0 + 1) dX8_addThing_10 lk_RX8_11 (lyW0 hc0) (grW0 G hc0) ?_
    refine z_aload_n (pc := 13) dX8_addThing_13 rfl rfl ?_
    refine q_getI (pc := 14) (v := rI h c0 1) dX8_addThing_14 lk_RX8_47 (lyW0 hc0) rfl ?_
    obtain ⟨k1, F⟩ := F
    refine q_aald (pc := 17) (j := (Int32.toNatClampNeg (rI h c0 1))) (r := c0 + 6 + (Int32.toNatClampNeg (rI h c0 1))) (t := 0) dX8_addThing_17 (lyW1 hc0) (zvn (lnW1 hc0) k1) rfl (grT (B := c0) G hc0 (zvi k1)) ?_
    refine z_iload_n (pc := 18) dX8_addThing_18 rfl rfl ?_
    refine z_iload_n (pc := 19) dX8_addThing_19 rfl rfl ?_
    refine z_iload_n (pc := 20) dX8_addThing_20 rfl rfl ?_
    refine z_iload (pc := 21) dX8_addThing_21 rfl ?_
    refine q_invV (pc := 23) (As := [.int x1, .int x2, .int x3, .int x4]) (st := []) dX8_addThing_23 ok_X6_become ml_RX8_98 iv_X6_become pa_X6_become ⟨Nat.le_of_ble_eq_true rfl, Nat.le_of_ble_eq_true rfl⟩ (lyT (B := c0) hc0 (zvi k1)) (q_pV (s_X6_become G (lyT (B := c0) hc0 (zvi k1))) ?_)
    refine z_aload_n (pc := 26) dX8_addThing_26 rfl rfl ?_
    refine z_dup (pc := 27) dX8_addThing_27 rfl ?_
    refine q_getI (pc := 28) (v := rI h c0 1) dX8_addThing_28 lk_RX8_47 (lyW0 hc0) ((((((((((rI_k (by decide)).trans (rI_k (by decide))).trans (rI_k (by decide))).trans (rI_k (by decide))).trans (rI_k (by decide))).trans (rI_k (by decide))).trans (rI_k (by decide))).trans (rI_k (by decide))).trans (rI_c (zne (lyW0 hc0) (lyT (B := c0) hc0 (zvi k1)) (by decide)))).trans (rI_k (by decide))) ?_
    refine z_iconst (pc := 31) (v := 1) dX8_addThing_31 (by decide) ?_
    refine z_iadd (pc := 32) dX8_addThing_32 ?_
    refine q_putI (pc := 33) dX8_addThing_33 lk_RX8_47 (lyW0 hc0) ?_
    exact q_retV (pc := 36) dX8_addThing_36 rfl F
theorem g_X11_comes {x1 : Int32} {x2 : Int32} {x3 : Int32} {x4 : Int32} {h : zHp} {Q : zHp → Prop}  (G : zG h) (F : zlV M_X11_comes 18 [some (.ref 164), some (.int x1), some (.int x2), some (.int x3), some (.int x4), some (.int (0 + (10 * (rI h 165 238)))), some (.int 0)] [] h Q) : zcV M_X11_comes [.ref 164, .int x1, .int x2, .int x3, .int x4] h Q := by
  show zw zNT zNT M_X11_comes 0 [some (.ref 164), some (.int x1), some (.int x2), some (.int x3), some (.int x4), none, none] [] h _
  refine z_iconst (pc := 0) (v := 0) dX11_comes_0 (by decide) ?_
  refine z_bipush (pc := 1) (v := 10) dX11_comes_1 (by decide) ?_
  refine z_aload_n (pc := 3) dX11_comes_3 rfl rfl ?_
  refine q_getR (pc := 4) (i := 165) dX11_comes_4 lk_RX11_7 (lyc rfl) (G 164 0 165 rfl) ?_
  refine z_sipush (pc := 7) (v := 238) dX11_comes_7 (by decide) ?_
  refine q_iald (pc := 10) (j := 238) (v := rI h 165 238) dX11_comes_10 (lyc rfl) (zvl (lnc rfl) (by decide)) (by decide) rfl ?_
  refine z_imul (pc := 11) dX11_comes_11 ?_
  refine z_iadd (pc := 12) dX11_comes_12 ?_
  refine z_istore (pc := 13) (ls' := [some (.ref 164), some (.int x1), some (.int x2), some (.int x3), some (.int x4), some (.int (0 + (10 * (rI h 165 238)))), none]) dX11_comes_13 (by decide) rfl ?_
  refine z_iconst (pc := 15) (v := 0) dX11_comes_15 (by decide) ?_
  refine z_istore (pc := 16) (ls' := [some (.ref 164), some (.int x1), some (.int x2), some (.int x3), some (.int x4), some (.int (0 + (10 * (rI h 165 238)))), some (.int 0)]) dX11_comes_16 (by decide) rfl ?_
  exact F
theorem g_X11_comes_18 {x1 : Int32} {x2 : Int32} {x3 : Int32} {x4 : Int32} {x5 : Int32} {x6 : Int32} {h : zHp} {Q : zHp → Prop}  (G : zG h) (F : (10 ≤ x6 → (vp_in x5 246 ∧ (vp_in (x5 + 1) 246 ∧ (vp_in (x5 + 2) 246 ∧ (vp_in (x5 + 3) 246 ∧ (vp_in (x5 + 5) 246 ∧ (Q (wI (wI (wI (wI (wI (wI h 165 ((Int32.toNatClampNeg x5)) x1) 165 ((Int32.toNatClampNeg (x5 + 1))) x2) 165 ((Int32.toNatClampNeg (x5 + 2))) x3) 165 ((Int32.toNatClampNeg (x5 + 3))) x4) 165 ((Int32.toNatClampNeg (x5 + 5))) 1) 165 238 ((rI (wI (wI (wI (wI (wI h 165 ((Int32.toNatClampNeg x5)) x1) 165 ((Int32.toNatClampNeg (x5 + 1))) x2) 165 ((Int32.toNatClampNeg (x5 + 2))) x3) 165 ((Int32.toNatClampNeg (x5 + 3))) x4) 165 ((Int32.toNatClampNeg (x5 + 5))) 1) 165 238) + 1))))))))) ∧ (¬ (10 ≤ x6) → (vp_in (x5 + x6) 246 ∧ (zlV M_X11_comes 18 [some (.ref 164), some (.int x1), some (.int x2), some (.int x3), some (.int x4), some (.int x5), some (.int (x6 + 1))] [] (wI h 165 ((Int32.toNatClampNeg (x5 + x6))) 0) Q)))) : zlV M_X11_comes 18 [some (.ref 164), some (.int x1), some (.int x2), some (.int x3), some (.int x4), some (.int x5), some (.int x6)] [] h Q := by
  refine z_iload (pc := 18) dX11_comes_18 rfl ?_
  refine z_bipush (pc := 20) (v := 10) dX11_comes_20 (by decide) ?_
  refine z_icmp_ge (pc := 22) (tgt := 42) dX11_comes_22 (by decide) (fun k7 => ?_) (fun k7 => ?_)
  · replace F := F.1 k7
    refine z_aload_n (pc := 42) dX11_comes_42 rfl rfl ?_
    refine q_getR (pc := 43) (i := 165) dX11_comes_43 lk_RX11_7 (lyc rfl) (G 164 0 165 rfl) ?_
    refine z_iload (pc := 46) dX11_comes_46 rfl ?_
    refine z_iload_n (pc := 48) dX11_comes_48 rfl rfl ?_
    obtain ⟨k1, F⟩ := F
    refine q_iast (pc := 49) (j := (Int32.toNatClampNeg x5)) dX11_comes_49 (lyc rfl) (zvn (lnc rfl) k1) rfl ?_
    refine z_aload_n (pc := 50) dX11_comes_50 rfl rfl ?_
    refine q_getR (pc := 51) (i := 165) dX11_comes_51 lk_RX11_7 (lyc rfl) (G 164 0 165 rfl) ?_
    refine z_iload (pc := 54) dX11_comes_54 rfl ?_
    refine z_iconst (pc := 56) (v := 1) dX11_comes_56 (by decide) ?_
    refine z_iadd (pc := 57) dX11_comes_57 ?_
    refine z_iload_n (pc := 58) dX11_comes_58 rfl rfl ?_
    obtain ⟨k2, F⟩ := F
    refine q_iast (pc := 59) (j := (Int32.toNatClampNeg (x5 + 1))) dX11_comes_59 (lyc rfl) (zvn (lnc rfl) k2) rfl ?_
    refine z_aload_n (pc := 60) dX11_comes_60 rfl rfl ?_
    refine q_getR (pc := 61) (i := 165) dX11_comes_61 lk_RX11_7 (lyc rfl) (G 164 0 165 rfl) ?_
    refine z_iload (pc := 64) dX11_comes_64 rfl ?_
    refine z_iconst (pc := 66) (v := 2) dX11_comes_66 (by decide) ?_
    refine z_iadd (pc := 67) dX11_comes_67 ?_
    refine z_iload_n (pc := 68) dX11_comes_68 rfl rfl ?_
    obtain ⟨k3, F⟩ := F
    refine q_iast (pc := 69) (j := (Int32.toNatClampNeg (x5 + 2))) dX11_comes_69 (lyc rfl) (zvn (lnc rfl) k3) rfl ?_
    refine z_aload_n (pc := 70) dX11_comes_70 rfl rfl ?_
    refine q_getR (pc := 71) (i := 165) dX11_comes_71 lk_RX11_7 (lyc rfl) (G 164 0 165 rfl) ?_
    refine z_iload (pc := 74) dX11_comes_74 rfl ?_
    refine z_iconst (pc := 76) (v := 3) dX11_comes_76 (by decide) ?_
    refine z_iadd (pc := 77) dX11_comes_77 ?_
    refine z_iload (pc := 78) dX11_comes_78 rfl ?_
    obtain ⟨k4, F⟩ := F
    refine q_iast (pc := 80) (j := (Int32.toNatClampNeg (x5 + 3))) dX11_comes_80 (lyc rfl) (zvn (lnc rfl) k4) rfl ?_
    refine z_aload_n (pc := 81) dX11_comes_81 rfl rfl ?_
    refine q_getR (pc := 82) (i := 165) dX11_comes_82 lk_RX11_7 (lyc rfl) (G 164 0 165 rfl) ?_
    refine z_iload (pc := 85) dX11_comes_85 rfl ?_
    refine z_iconst (pc := 87) (v := 5) dX11_comes_87 (by decide) ?_
    refine z_iadd (pc := 88) dX11_comes_88 ?_
    refine z_iconst (pc := 89) (v := 1) dX11_comes_89 (by decide) ?_
    obtain ⟨k5, F⟩ := F
    refine q_iast (pc := 90) (j := (Int32.toNatClampNeg (x5 + 5))) dX11_comes_90 (lyc rfl) (zvn (lnc rfl) k5) rfl ?_
    refine z_aload_n (pc := 91) dX11_comes_91 rfl rfl ?_
    refine q_getR (pc := 92) (i := 165) dX11_comes_92 lk_RX11_7 (lyc rfl) (G 164 0 165 rfl) ?_
    refine z_sipush (pc := 95) (v := 238) dX11_comes_95 (by decide) ?_
    refine z_dup2 (pc := 98) dX11_comes_98 rfl rfl ?_
    refine q_iald (pc := 99) (j := 238) (v := rI (wI (wI (wI (wI (wI h 165 ((Int32.toNatClampNeg x5)) x1) 165 ((Int32.toNatClampNeg (x5 + 1))) x2) 165 ((Int32.toNatClampNeg (x5 + 2))) x3) 165 ((Int32.toNatClampNeg (x5 + 3))) x4) 165 ((Int32.toNatClampNeg (x5 + 5))) 1) 165 238) dX11_comes_99 (lyc rfl) (zvl (lnc rfl) (by decide)) (by decide) rfl ?_
    refine z_iconst (pc := 100) (v := 1) dX11_comes_100 (by decide) ?_
    refine z_iadd (pc := 101) dX11_comes_101 ?_
    refine q_iast (pc := 102) (j := 238) dX11_comes_102 (lyc rfl) (zvl (lnc rfl) (by decide)) (by decide) ?_
    exact q_retV (pc := 103) dX11_comes_103 rfl F
  · replace F := F.2 k7
    refine z_aload_n (pc := 25) dX11_comes_25 rfl rfl ?_
    refine q_getR (pc := 26) (i := 165) dX11_comes_26 lk_RX11_7 (lyc rfl) (G 164 0 165 rfl) ?_
    refine z_iload (pc := 29) dX11_comes_29 rfl ?_
    refine z_iload (pc := 31) dX11_comes_31 rfl ?_
    refine z_iadd (pc := 33) dX11_comes_33 ?_
    refine z_iconst (pc := 34) (v := 0) dX11_comes_34 (by decide) ?_
    obtain ⟨k6, F⟩ := F
    refine q_iast (pc := 35) (j := (Int32.toNatClampNeg (x5 + x6))) dX11_comes_35 (lyc rfl) (zvn (lnc rfl) k6) rfl ?_
    refine z_iinc (pc := 36) (v := x6 + 1) (ls' := [some (.ref 164), some (.int x1), some (.int x2), some (.int x3), some (.int x4), some (.int x5), some (.int (x6 + 1))]) dX11_comes_36 (by decide) rfl rfl rfl ?_
    refine z_goto (pc := 39) (tgt := 18) dX11_comes_39 (by decide) ?_
    exact F
theorem g_X11_areGood {x0 : Int32} {x1 : Int32} {x2 : Int32} {x3 : Int32} {h : zHp} {Q : Int32 → zHp → Prop}  (G : zG h) (F : (¬ ((0 : Int32) ≤ x0 ∧ x0 ≤ 1) → (Q 0 h)) ∧ (((0 : Int32) ≤ x0 ∧ x0 ≤ 1) → ((¬ ((0 : Int32) ≤ x1 ∧ x1 ≤ 5) → (Q 0 h)) ∧ (((0 : Int32) ≤ x1 ∧ x1 ≤ 5) → ((¬ ((0 : Int32) ≤ x2 ∧ x2 ≤ 99) → (Q 0 h)) ∧ (((0 : Int32) ≤ x2 ∧ x2 ≤ 99) → ((¬ ((0 : Int32) ≤ x3 ∧ x3 ≤ 99) → (Q 0 h)) ∧ (((0 : Int32) ≤ x3 ∧ x3 ≤ 99) → (Q 1 h))))))))) : zcI M_X11_areGood [.int x0, .int x1, .int x2, .int x3] h Q := by
  show zw zNT zNT M_X11_areGood 0 [some (.int x0), some (.int x1), some (.int x2), some (.int x3)] [] h _
  refine z_iload_n (pc := 0) dX11_areGood_0 rfl rfl ?_
  refine z_iconst (pc := 1) (v := 0) dX11_areGood_1 (by decide) ?_
  refine z_iconst (pc := 2) (v := 1) dX11_areGood_2 (by decide) ?_
  refine q_invS (pc := 3) (As := [.int x0, .int 0, .int 1]) (st := []) dX11_areGood_3 ok_X11_in ml_RX11_84 st_X11_in pa_X11_in ⟨Nat.le_of_ble_eq_true rfl, Nat.le_of_ble_eq_true rfl⟩ (q_pI (s_X11_in G) rfl ?_)
  refine z_if_eq (pc := 6) (tgt := 42) dX11_areGood_6 (by decide) (fun k4 => ?_) (fun k4 => ?_)
  · replace F := F.1 (zb0.mp k4)
    refine z_iconst (pc := 42) (v := 0) dX11_areGood_42 (by decide) ?_
    exact q_retB (pc := 43) dX11_areGood_43 rfl (Or.inl rfl) F
  · replace F := F.2 (zbn.mp k4)
    refine z_iload_n (pc := 9) dX11_areGood_9 rfl rfl ?_
    refine z_iconst (pc := 10) (v := 0) dX11_areGood_10 (by decide) ?_
    refine z_iconst (pc := 11) (v := 5) dX11_areGood_11 (by decide) ?_
    refine q_invS (pc := 12) (As := [.int x1, .int 0, .int 5]) (st := []) dX11_areGood_12 ok_X11_in ml_RX11_84 st_X11_in pa_X11_in ⟨Nat.le_of_ble_eq_true rfl, Nat.le_of_ble_eq_true rfl⟩ (q_pI (s_X11_in G) rfl ?_)
    refine z_if_eq (pc := 15) (tgt := 42) dX11_areGood_15 (by decide) (fun k3 => ?_) (fun k3 => ?_)
    · replace F := F.1 (zb0.mp k3)
      refine z_iconst (pc := 42) (v := 0) dX11_areGood_42 (by decide) ?_
      exact q_retB (pc := 43) dX11_areGood_43 rfl (Or.inl rfl) F
    · replace F := F.2 (zbn.mp k3)
      refine z_iload_n (pc := 18) dX11_areGood_18 rfl rfl ?_
      refine z_iconst (pc := 19) (v := 0) dX11_areGood_19 (by decide) ?_
      refine z_bipush (pc := 20) (v := 99) dX11_areGood_20 (by decide) ?_
      refine q_invS (pc := 22) (As := [.int x2, .int 0, .int 99]) (st := []) dX11_areGood_22 ok_X11_in ml_RX11_84 st_X11_in pa_X11_in ⟨Nat.le_of_ble_eq_true rfl, Nat.le_of_ble_eq_true rfl⟩ (q_pI (s_X11_in G) rfl ?_)
      refine z_if_eq (pc := 25) (tgt := 42) dX11_areGood_25 (by decide) (fun k2 => ?_) (fun k2 => ?_)
      · replace F := F.1 (zb0.mp k2)
        refine z_iconst (pc := 42) (v := 0) dX11_areGood_42 (by decide) ?_
        exact q_retB (pc := 43) dX11_areGood_43 rfl (Or.inl rfl) F
      · replace F := F.2 (zbn.mp k2)
        refine z_iload_n (pc := 28) dX11_areGood_28 rfl rfl ?_
        refine z_iconst (pc := 29) (v := 0) dX11_areGood_29 (by decide) ?_
        refine z_bipush (pc := 30) (v := 99) dX11_areGood_30 (by decide) ?_
        refine q_invS (pc := 32) (As := [.int x3, .int 0, .int 99]) (st := []) dX11_areGood_32 ok_X11_in ml_RX11_84 st_X11_in pa_X11_in ⟨Nat.le_of_ble_eq_true rfl, Nat.le_of_ble_eq_true rfl⟩ (q_pI (s_X11_in G) rfl ?_)
        refine z_if_eq (pc := 35) (tgt := 42) dX11_areGood_35 (by decide) (fun k1 => ?_) (fun k1 => ?_)
        · replace F := F.1 (zb0.mp k1)
          refine z_iconst (pc := 42) (v := 0) dX11_areGood_42 (by decide) ?_
          exact q_retB (pc := 43) dX11_areGood_43 rfl (Or.inl rfl) F
        · replace F := F.2 (zbn.mp k1)
          refine z_iconst (pc := 38) (v := 1) dX11_areGood_38 (by decide) ?_
          refine z_goto (pc := 39) (tgt := 43) dX11_areGood_39 (by decide) ?_
          exact q_retB (pc := 43) dX11_areGood_43 rfl (Or.inr rfl) F
theorem g_X10_thing {x1 : Int32} {x2 : Int32} {x3 : Int32} {x4 : Int32} {h : zHp} {Q : Int32 → zHp → Prop}  (G : zG h) (F : (¬ ((0 : Int32) ≤ x1 ∧ x1 ≤ 1) → (Q (-2) h)) ∧ (((0 : Int32) ≤ x1 ∧ x1 ≤ 1) → ((((0 : Int32) ≤ x2 ∧ x2 ≤ 5) → ((¬ ((0 : Int32) ≤ x3 ∧ x3 ≤ 99) → (Q (-2) h)) ∧ (((0 : Int32) ≤ x3 ∧ x3 ≤ 99) → ((((0 : Int32) ≤ x4 ∧ x4 ≤ 99) → ((rI h 2 1 < 8 → (zcV M_X8_addThing [.ref 2, .int x1, .int x2, .int x3, .int x4] h (fun h1 => zG h1 ∧ (zcV M_X0_settle [.ref 1, .int 0] h1 (fun h2 => zG h2 ∧ (Q (rI h 2 1) h2)))))) ∧ (¬ (rI h 2 1 < 8) → (Q (-4) h)))) ∧ (¬ ((0 : Int32) ≤ x4 ∧ x4 ≤ 99) → (Q (-2) h)))))) ∧ (¬ ((0 : Int32) ≤ x2 ∧ x2 ≤ 5) → (Q (-2) h))))) : zcI M_X10_thing [.ref 0, .int x1, .int x2, .int x3, .int x4] h Q := by
  show zw zNT zNT M_X10_thing 0 [some (.ref 0), some (.int x1), some (.int x2), some (.int x3), some (.int x4), none] [] h _
  refine z_iload_n (pc := 0) dX10_thing_0 rfl rfl ?_
  refine z_iconst (pc := 1) (v := 0) dX10_thing_1 (by decide) ?_
  refine z_iconst (pc := 2) (v := 1) dX10_thing_2 (by decide) ?_
  refine q_invS (pc := 3) (As := [.int x1, .int 0, .int 1]) (st := []) dX10_thing_3 ok_X10_within ml_RX10_82 st_X10_within pa_X10_within ⟨Nat.le_of_ble_eq_true rfl, Nat.le_of_ble_eq_true rfl⟩ (q_pI (s_X10_within G) rfl ?_)
  refine z_if_eq (pc := 6) (tgt := 18) dX10_thing_6 (by decide) (fun k7 => ?_) (fun k7 => ?_)
  · replace F := F.1 (zb0.mp k7)
    refine z_bipush (pc := 18) (v := -2) dX10_thing_18 (by decide) ?_
    exact q_retI (pc := 20) dX10_thing_20 rfl F
  · replace F := F.2 (zbn.mp k7)
    refine z_iload_n (pc := 9) dX10_thing_9 rfl rfl ?_
    refine z_iconst (pc := 10) (v := 0) dX10_thing_10 (by decide) ?_
    refine z_iconst (pc := 11) (v := 5) dX10_thing_11 (by decide) ?_
    refine q_invS (pc := 12) (As := [.int x2, .int 0, .int 5]) (st := []) dX10_thing_12 ok_X10_within ml_RX10_82 st_X10_within pa_X10_within ⟨Nat.le_of_ble_eq_true rfl, Nat.le_of_ble_eq_true rfl⟩ (q_pI (s_X10_within G) rfl ?_)
    refine z_if_ne (pc := 15) (tgt := 21) dX10_thing_15 (by decide) (fun k6 => ?_) (fun k6 => ?_)
    · replace F := F.1 (zbn.mp k6)
      refine z_iload_n (pc := 21) dX10_thing_21 rfl rfl ?_
      refine z_iconst (pc := 22) (v := 0) dX10_thing_22 (by decide) ?_
      refine z_bipush (pc := 23) (v := 99) dX10_thing_23 (by decide) ?_
      refine q_invS (pc := 25) (As := [.int x3, .int 0, .int 99]) (st := []) dX10_thing_25 ok_X10_within ml_RX10_82 st_X10_within pa_X10_within ⟨Nat.le_of_ble_eq_true rfl, Nat.le_of_ble_eq_true rfl⟩ (q_pI (s_X10_within G) rfl ?_)
      refine z_if_eq (pc := 28) (tgt := 42) dX10_thing_28 (by decide) (fun k5 => ?_) (fun k5 => ?_)
      · replace F := F.1 (zb0.mp k5)
        refine z_bipush (pc := 42) (v := -2) dX10_thing_42 (by decide) ?_
        exact q_retI (pc := 44) dX10_thing_44 rfl F
      · replace F := F.2 (zbn.mp k5)
        refine z_iload (pc := 31) dX10_thing_31 rfl ?_
        refine z_iconst (pc := 33) (v := 0) dX10_thing_33 (by decide) ?_
        refine z_bipush (pc := 34) (v := 99) dX10_thing_34 (by decide) ?_
        refine q_invS (pc := 36) (As := [.int x4, .int 0, .int 99]) (st := []) dX10_thing_36 ok_X10_within ml_RX10_82 st_X10_within pa_X10_within ⟨Nat.le_of_ble_eq_true rfl, Nat.le_of_ble_eq_true rfl⟩ (q_pI (s_X10_within G) rfl ?_)
        refine z_if_ne (pc := 39) (tgt := 45) dX10_thing_39 (by decide) (fun k4 => ?_) (fun k4 => ?_)
        · replace F := F.1 (zbn.mp k4)
          refine z_aload_n (pc := 45) dX10_thing_45 rfl rfl ?_
          refine q_getR (pc := 46) (i := 2) dX10_thing_46 lk_RX10_20 (lyc rfl) (G 0 1 2 rfl) ?_
          refine q_getI (pc := 49) (v := rI h 2 1) dX10_thing_49 lk_RX10_68 (lyc rfl) rfl ?_
          refine z_bipush (pc := 52) (v := 8) dX10_thing_52 (by decide) ?_
          refine z_icmp_lt (pc := 54) (tgt := 60) dX10_thing_54 (by decide) (fun k3 => ?_) (fun k3 => ?_)
          · replace F := F.1 k3
            refine z_aload_n (pc := 60) dX10_thing_60 rfl rfl ?_
            refine q_getR (pc := 61) (i := 2) dX10_thing_61 lk_RX10_20 (lyc rfl) (G 0 1 2 rfl) ?_
            refine q_getI (pc := 64) (v := rI h 2 1) dX10_thing_64 lk_RX10_68 (lyc rfl) rfl ?_
            refine z_istore (pc := 67) (ls' := [some (.ref 0), some (.int x1), some (.int x2), some (.int x3), some (.int x4), some (.int (rI h 2 1))]) dX10_thing_67 (by decide) rfl ?_
            refine z_aload_n (pc := 69) dX10_thing_69 rfl rfl ?_
            refine q_getR (pc := 70) (i := 2) dX10_thing_70 lk_RX10_20 (lyc rfl) (G 0 1 2 rfl) ?_
            refine z_iload_n (pc := 73) dX10_thing_73 rfl rfl ?_
            refine z_iload_n (pc := 74) dX10_thing_74 rfl rfl ?_
            refine z_iload_n (pc := 75) dX10_thing_75 rfl rfl ?_
            refine z_iload (pc := 76) dX10_thing_76 rfl ?_
            refine q_invV (pc := 78) (As := [.int x1, .int x2, .int x3, .int x4]) (st := []) dX10_thing_78 ok_X8_addThing ml_RX10_86 iv_X8_addThing pa_X8_addThing ⟨Nat.le_of_ble_eq_true rfl, Nat.le_of_ble_eq_true rfl⟩ (lyc rfl) (q_kV F (fun h1 F => ?_))
            obtain ⟨G1, F⟩ := F
            refine z_aload_n (pc := 81) dX10_thing_81 rfl rfl ?_
            refine q_getR (pc := 82) (i := 1) dX10_thing_82 lk_RX10_10 (lyc rfl) (G1 0 0 1 rfl) ?_
            refine z_iconst (pc := 85) (v := 0) dX10_thing_85 (by decide) ?_
            refine q_invV (pc := 86) (As := [.int 0]) (st := []) dX10_thing_86 ok_X0_settle ml_RX10_90 iv_X0_settle pa_X0_settle ⟨Nat.le_of_ble_eq_true rfl, Nat.le_of_ble_eq_true rfl⟩ (lyc rfl) (q_kV F (fun h2 F => ?_))
            obtain ⟨G2, F⟩ := F
            refine z_iload (pc := 89) dX10_thing_89 rfl ?_
            exact q_retI (pc := 91) dX10_thing_91 rfl F
          · replace F := F.2 k3
            refine z_bipush (pc := 57) (v := -4) dX10_thing_57 (by decide) ?_
            exact q_retI (pc := 59) dX10_thing_59 rfl F
        · replace F := F.2 (zb0.mp k4)
          refine z_bipush (pc := 42) (v := -2) dX10_thing_42 (by decide) ?_
          exact q_retI (pc := 44) dX10_thing_44 rfl F
    · replace F := F.2 (zb0.mp k6)
      refine z_bipush (pc := 18) (v := -2) dX10_thing_18 (by decide) ?_
      exact q_retI (pc := 20) dX10_thing_20 rfl F
theorem g_X11_thing {x1 : Int32} {x2 : Int32} {x3 : Int32} {x4 : Int32} {h : zHp} {Q : Int32 → zHp → Prop}  (G : zG h) (F : zcI M_X11_areGood [.int x1, .int x2, .int x3, .int x4] h (fun vh1 h1 => zG h1 ∧ ((¬ vh1 = 0 → ((¬ rI h1 165 238 = 8 → (zcV M_X11_comes [.ref 164, .int x1, .int x2, .int x3, .int x4] h1 (fun h2 => zG h2 ∧ (zcI M_X11_changed [.ref 164, .int ((rI h2 165 238) - 1)] h2 (fun vh3 h3 => zG h3 ∧ (Q vh3 h3)))))) ∧ (rI h1 165 238 = 8 → (Q (-4) h1)))) ∧ (vh1 = 0 → (Q (-2) h1))))) : zcI M_X11_thing [.ref 164, .int x1, .int x2, .int x3, .int x4] h Q := by
  show zw zNT zNT M_X11_thing 0 [some (.ref 164), some (.int x1), some (.int x2), some (.int x3), some (.int x4)] [] h _
  refine z_iload_n (pc := 0) dX11_thing_0 rfl rfl ?_
  refine z_iload_n (pc := 1) dX11_thing_1 rfl rfl ?_
  refine z_iload_n (pc := 2) dX11_thing_2 rfl rfl ?_
  refine z_iload (pc := 3) dX11_thing_3 rfl ?_
  refine q_invS (pc := 5) (As := [.int x1, .int x2, .int x3, .int x4]) (st := []) dX11_thing_5 ok_X11_areGood ml_RX11_159 st_X11_areGood pa_X11_areGood ⟨Nat.le_of_ble_eq_true rfl, Nat.le_of_ble_eq_true rfl⟩ (q_kI F (fun vh1 h1 F => ?_))
  obtain ⟨G1, F⟩ := F
  refine z_if_ne (pc := 8) (tgt := 14) dX11_thing_8 (by decide) (fun k5 => ?_) (fun k5 => ?_)
  · replace F := F.1 k5
    refine z_aload_n (pc := 14) dX11_thing_14 rfl rfl ?_
    refine q_getR (pc := 15) (i := 165) dX11_thing_15 lk_RX11_7 (lyc rfl) (G1 164 0 165 rfl) ?_
    refine z_sipush (pc := 18) (v := 238) dX11_thing_18 (by decide) ?_
    refine q_iald (pc := 21) (j := 238) (v := rI h1 165 238) dX11_thing_21 (lyc rfl) (zvl (lnc rfl) (by decide)) (by decide) rfl ?_
    refine z_bipush (pc := 22) (v := 8) dX11_thing_22 (by decide) ?_
    refine z_icmp_ne (pc := 24) (tgt := 30) dX11_thing_24 (by decide) (fun k4 => ?_) (fun k4 => ?_)
    · replace F := F.1 k4
      refine z_aload_n (pc := 30) dX11_thing_30 rfl rfl ?_
      refine z_iload_n (pc := 31) dX11_thing_31 rfl rfl ?_
      refine z_iload_n (pc := 32) dX11_thing_32 rfl rfl ?_
      refine z_iload_n (pc := 33) dX11_thing_33 rfl rfl ?_
      refine z_iload (pc := 34) dX11_thing_34 rfl ?_
      refine q_invV (pc := 36) (As := [.int x1, .int x2, .int x3, .int x4]) (st := []) dX11_thing_36 ok_X11_comes ml_RX11_163 iv_X11_comes pa_X11_comes ⟨Nat.le_of_ble_eq_true rfl, Nat.le_of_ble_eq_true rfl⟩ (lyc rfl) (q_kV F (fun h2 F => ?_))
      obtain ⟨G2, F⟩ := F
      refine z_aload_n (pc := 39) dX11_thing_39 rfl rfl ?_
      refine z_aload_n (pc := 40) dX11_thing_40 rfl rfl ?_
      refine q_getR (pc := 41) (i := 165) dX11_thing_41 lk_RX11_7 (lyc rfl) (G2 164 0 165 rfl) ?_
      refine z_sipush (pc := 44) (v := 238) dX11_thing_44 (by decide) ?_
      refine q_iald (pc := 47) (j := 238) (v := rI h2 165 238) dX11_thing_47 (lyc rfl) (zvl (lnc rfl) (by decide)) (by decide) rfl ?_
      refine z_iconst (pc := 48) (v := 1) dX11_thing_48 (by decide) ?_
      refine z_isub (pc := 49) dX11_thing_49 ?_
      refine q_invV (pc := 50) (As := [.int ((rI h2 165 238) - 1)]) (st := []) dX11_thing_50 ok_X11_changed ml_RX11_167 iv_X11_changed pa_X11_changed ⟨Nat.le_of_ble_eq_true rfl, Nat.le_of_ble_eq_true rfl⟩ (lyc rfl) (q_kI F (fun vh3 h3 F => ?_))
      obtain ⟨G3, F⟩ := F
      exact q_retI (pc := 53) dX11_thing_53 rfl F
    · replace F := F.2 k4
      refine z_bipush (pc := 27) (v := -4) dX11_thing_27 (by decide) ?_
      exact q_retI (pc := 29) dX11_thing_29 rfl F
  · replace F := F.2 k5
    refine z_bipush (pc := 11) (v := -2) dX11_thing_11 (by decide) ?_
    exact q_retI (pc := 13) dX11_thing_13 rfl F
theorem g_X10_of {x1 : Int32} {x2 : Int32} {h : zHp} {Q : Int32 → zHp → Prop}  (G : zG h) (F : ((0 ≤ x1 ∧ x1 ≤ (rI h 2 1) - 1) → (vp_in x1 8 ∧ ((x2 = 0 → (Q (rI h (8 + (Int32.toNatClampNeg x1)) 0) h)) ∧ (¬ x2 = 0 → ((x2 = 1 → (Q (rI h (8 + (Int32.toNatClampNeg x1)) 1) h)) ∧ (¬ x2 = 1 → ((x2 = 2 → (Q (rI h (8 + (Int32.toNatClampNeg x1)) 2) h)) ∧ (¬ x2 = 2 → ((x2 = 3 → (Q (rI h (8 + (Int32.toNatClampNeg x1)) 3) h)) ∧ (¬ x2 = 3 → ((x2 = 4 → (Q (rI h (8 + (Int32.toNatClampNeg x1)) 4) h)) ∧ (¬ x2 = 4 → ((x2 = 5 → ((rI h (8 + (Int32.toNatClampNeg x1)) 5 = 0 → (Q 0 h)) ∧ (¬ (rI h (8 + (Int32.toNatClampNeg x1)) 5 = 0) → (Q 1 h)))) ∧ (¬ x2 = 5 → (Q (-2) h))))))))))))))) ∧ (¬ (0 ≤ x1 ∧ x1 ≤ (rI h 2 1) - 1) → (Q (-2) h))) : zcI M_X10_of [.ref 0, .int x1, .int x2] h Q := by
  show zw zNT zNT M_X10_of 0 [some (.ref 0), some (.int x1), some (.int x2), none] [] h _
  refine z_aload_n (pc := 0) dX10_of_0 rfl rfl ?_
  refine q_getR (pc := 1) (i := 2) dX10_of_1 lk_RX10_20 (lyc rfl) (G 0 1 2 rfl) ?_
  refine z_iload_n (pc := 4) dX10_of_4 rfl rfl ?_
  refine q_invV (pc := 5) (As := [.int x1]) (st := []) dX10_of_5 ok_X8_hasThing ml_RX10_94 iv_X8_hasThing pa_X8_hasThing ⟨Nat.le_of_ble_eq_true rfl, Nat.le_of_ble_eq_true rfl⟩ (lyc rfl) (q_pI (s_X8_hasThing G (Or.inl rfl)) rfl ?_)
  refine z_if_ne (pc := 8) (tgt := 14) dX10_of_8 (by decide) (fun k9 => ?_) (fun k9 => ?_)
  · replace F := F.1 (zbn.mp k9)
    refine z_aload_n (pc := 14) dX10_of_14 rfl rfl ?_
    refine q_getR (pc := 15) (i := 2) dX10_of_15 lk_RX10_20 (lyc rfl) (G 0 1 2 rfl) ?_
    refine q_getR (pc := 18) (i := 3) dX10_of_18 lk_RX10_98 (lyc rfl) (G 2 0 3 rfl) ?_
    refine z_iload_n (pc := 21) dX10_of_21 rfl rfl ?_
    obtain ⟨k1, F⟩ := F
    refine q_aald (pc := 22) (j := (Int32.toNatClampNeg x1)) (r := 8 + (Int32.toNatClampNeg x1)) (t := 0) dX10_of_22 (lyc rfl) (zvn (lnc rfl) k1) rfl (grT (B := 2) G (Or.inl rfl) (zvi k1)) ?_
    refine z_astore_n (pc := 23) (ls' := [some (.ref 0), some (.int x1), some (.int x2), some (.ref (8 + (Int32.toNatClampNeg x1)))]) dX10_of_23 rfl (by decide) rfl ?_
    refine z_iload_n (pc := 24) dX10_of_24 rfl rfl ?_
    by_cases k2 : x2 = 0
    · replace F := F.1 k2
      refine z_tableIn (pc := 25) (x := x2) (tgt := 64) (off := 39) dX10_of_25 (by rw [k2]; decide) (by rw [k2]; decide) (by rw [k2]; decide) (by decide) ?_
      refine z_aload_n (pc := 64) dX10_of_64 rfl rfl ?_
      refine q_getI (pc := 65) (v := rI h (8 + (Int32.toNatClampNeg x1)) 0) dX10_of_65 lk_RX10_102 (lyT (B := 2) (Or.inl rfl) (zvi k1)) rfl ?_
      exact q_retI (pc := 68) dX10_of_68 rfl F
    · replace F := F.2 k2
      by_cases k3 : x2 = 1
      · replace F := F.1 k3
        refine z_tableIn (pc := 25) (x := x2) (tgt := 69) (off := 44) dX10_of_25 (by rw [k3]; decide) (by rw [k3]; decide) (by rw [k3]; decide) (by decide) ?_
        refine z_aload_n (pc := 69) dX10_of_69 rfl rfl ?_
        refine q_getI (pc := 70) (v := rI h (8 + (Int32.toNatClampNeg x1)) 1) dX10_of_70 lk_RX10_107 (lyT (B := 2) (Or.inl rfl) (zvi k1)) rfl ?_
        exact q_retI (pc := 73) dX10_of_73 rfl F
      · replace F := F.2 k3
        by_cases k4 : x2 = 2
        · replace F := F.1 k4
          refine z_tableIn (pc := 25) (x := x2) (tgt := 74) (off := 49) dX10_of_25 (by rw [k4]; decide) (by rw [k4]; decide) (by rw [k4]; decide) (by decide) ?_
          refine z_aload_n (pc := 74) dX10_of_74 rfl rfl ?_
          refine q_getI (pc := 75) (v := rI h (8 + (Int32.toNatClampNeg x1)) 2) dX10_of_75 lk_RX10_110 (lyT (B := 2) (Or.inl rfl) (zvi k1)) rfl ?_
          exact q_retI (pc := 78) dX10_of_78 rfl F
        · replace F := F.2 k4
          by_cases k5 : x2 = 3
          · replace F := F.1 k5
            refine z_tableIn (pc := 25) (x := x2) (tgt := 79) (off := 54) dX10_of_25 (by rw [k5]; decide) (by rw [k5]; decide) (by rw [k5]; decide) (by decide) ?_
            refine z_aload_n (pc := 79) dX10_of_79 rfl rfl ?_
            refine q_getI (pc := 80) (v := rI h (8 + (Int32.toNatClampNeg x1)) 3) dX10_of_80 lk_RX10_113 (lyT (B := 2) (Or.inl rfl) (zvi k1)) rfl ?_
            exact q_retI (pc := 83) dX10_of_83 rfl F
          · replace F := F.2 k5
            by_cases k6 : x2 = 4
            · replace F := F.1 k6
              refine z_tableIn (pc := 25) (x := x2) (tgt := 84) (off := 59) dX10_of_25 (by rw [k6]; decide) (by rw [k6]; decide) (by rw [k6]; decide) (by decide) ?_
              refine z_aload_n (pc := 84) dX10_of_84 rfl rfl ?_
              refine q_getI (pc := 85) (v := rI h (8 + (Int32.toNatClampNeg x1)) 4) dX10_of_85 lk_RX10_116 (lyT (B := 2) (Or.inl rfl) (zvi k1)) rfl ?_
              exact q_retI (pc := 88) dX10_of_88 rfl F
            · replace F := F.2 k6
              by_cases k7 : x2 = 5
              · replace F := F.1 k7
                refine z_tableIn (pc := 25) (x := x2) (tgt := 89) (off := 64) dX10_of_25 (by rw [k7]; decide) (by rw [k7]; decide) (by rw [k7]; decide) (by decide) ?_
                refine z_aload_n (pc := 89) dX10_of_89 rfl rfl ?_
                refine q_getI (pc := 90) (v := rI h (8 + (Int32.toNatClampNeg x1)) 5) dX10_of_90 lk_RX10_119 (lyT (B := 2) (Or.inl rfl) (zvi k1)) rfl ?_
                refine z_if_eq (pc := 93) (tgt := 100) dX10_of_93 (by decide) (fun k8 => ?_) (fun k8 => ?_)
                · replace F := F.1 k8
                  refine z_iconst (pc := 100) (v := 0) dX10_of_100 (by decide) ?_
                  exact q_retI (pc := 101) dX10_of_101 rfl F
                · replace F := F.2 k8
                  refine z_iconst (pc := 96) (v := 1) dX10_of_96 (by decide) ?_
                  refine z_goto (pc := 97) (tgt := 101) dX10_of_97 (by decide) ?_
                  exact q_retI (pc := 101) dX10_of_101 rfl F
              · replace F := F.2 k7
                have hz0 := q_sw (0) k2 (by decide)
                have hz1 := q_sw (1) k3 (by decide)
                have hz2 := q_sw (2) k4 (by decide)
                have hz3 := q_sw (3) k5 (by decide)
                have hz4 := q_sw (4) k6 (by decide)
                have hz5 := q_sw (5) k7 (by decide)
                refine z_tableOut (pc := 25) (tgt := 102) dX10_of_25 (by omega) (by decide) ?_
                refine z_bipush (pc := 102) (v := -2) dX10_of_102 (by decide) ?_
                exact q_retI (pc := 104) dX10_of_104 rfl F
  · replace F := F.2 (zb0.mp k9)
    refine z_bipush (pc := 11) (v := -2) dX10_of_11 (by decide) ?_
    exact q_retI (pc := 13) dX10_of_13 rfl F
theorem g_X11_of {x1 : Int32} {x2 : Int32} {h : zHp} {Q : Int32 → zHp → Prop}  (G : zG h) (F : (¬ (0 ≤ x1 ∧ x1 ≤ rI h 165 238 - 1) → (Q (-2) h)) ∧ ((0 ≤ x1 ∧ x1 ≤ rI h 165 238 - 1) → ((¬ ((0 : Int32) ≤ x2 ∧ x2 ≤ 5) → (Q (-2) h)) ∧ (((0 : Int32) ≤ x2 ∧ x2 ≤ 5) → (vp_in ((0 + (10 * x1)) + x2) 246 ∧ (Q (rI h 165 ((Int32.toNatClampNeg (((0 + (10 * x1)) + x2))))) h)))))) : zcI M_X11_of [.ref 164, .int x1, .int x2] h Q := by
  show zw zNT zNT M_X11_of 0 [some (.ref 164), some (.int x1), some (.int x2)] [] h _
  refine z_aload_n (pc := 0) dX11_of_0 rfl rfl ?_
  refine z_iload_n (pc := 1) dX11_of_1 rfl rfl ?_
  refine q_invV (pc := 2) (As := [.int x1]) (st := []) dX11_of_2 ok_X11_isThing ml_RX11_88 iv_X11_isThing pa_X11_isThing ⟨Nat.le_of_ble_eq_true rfl, Nat.le_of_ble_eq_true rfl⟩ (lyc rfl) (q_pI (s_X11_isThing G) rfl ?_)
  refine z_if_eq (pc := 5) (tgt := 26) dX11_of_5 (by decide) (fun k3 => ?_) (fun k3 => ?_)
  · replace F := F.1 (zb0.mp k3)
    refine z_bipush (pc := 26) (v := -2) dX11_of_26 (by decide) ?_
    exact q_retI (pc := 28) dX11_of_28 rfl F
  · replace F := F.2 (zbn.mp k3)
    refine z_iload_n (pc := 8) dX11_of_8 rfl rfl ?_
    refine z_iconst (pc := 9) (v := 0) dX11_of_9 (by decide) ?_
    refine z_iconst (pc := 10) (v := 5) dX11_of_10 (by decide) ?_
    refine q_invS (pc := 11) (As := [.int x2, .int 0, .int 5]) (st := []) dX11_of_11 ok_X11_in ml_RX11_84 st_X11_in pa_X11_in ⟨Nat.le_of_ble_eq_true rfl, Nat.le_of_ble_eq_true rfl⟩ (q_pI (s_X11_in G) rfl ?_)
    refine z_if_eq (pc := 14) (tgt := 26) dX11_of_14 (by decide) (fun k2 => ?_) (fun k2 => ?_)
    · replace F := F.1 (zb0.mp k2)
      refine z_bipush (pc := 26) (v := -2) dX11_of_26 (by decide) ?_
      exact q_retI (pc := 28) dX11_of_28 rfl F
    · replace F := F.2 (zbn.mp k2)
      refine z_aload_n (pc := 17) dX11_of_17 rfl rfl ?_
      refine z_iload_n (pc := 18) dX11_of_18 rfl rfl ?_
      refine z_iload_n (pc := 19) dX11_of_19 rfl rfl ?_
      obtain ⟨k1, F⟩ := F
      refine q_invV (pc := 20) (As := [.int x1, .int x2]) (st := []) dX11_of_20 ok_X11_its ml_RX11_92 iv_X11_its pa_X11_its ⟨Nat.le_of_ble_eq_true rfl, Nat.le_of_ble_eq_true rfl⟩ (lyc rfl) (q_pI (s_X11_its G k1) rfl ?_)
      refine z_goto (pc := 23) (tgt := 28) dX11_of_23 (by decide) ?_
      exact q_retI (pc := 28) dX11_of_28 rfl F
theorem g_X10_now {x1 : Int32} {x2 : Int32} {h : zHp} {Q : Int32 → zHp → Prop}  (G : zG h) (F : ((0 ≤ x1 ∧ x1 ≤ (rI h 2 1) - 1) → (vp_in x1 8 ∧ ((x2 = 0 → ((rI h (8 + (Int32.toNatClampNeg x1)) 5 = 0 → (Q (rI h (8 + (Int32.toNatClampNeg x1)) 6) h)) ∧ (¬ (rI h (8 + (Int32.toNatClampNeg x1)) 5 = 0) → (Q (rI h 43 ((Int32.toNatClampNeg x1))) h)))) ∧ (¬ x2 = 0 → ((x2 = 1 → ((rI h (8 + (Int32.toNatClampNeg x1)) 5 = 0 → (Q (rI h (8 + (Int32.toNatClampNeg x1)) 7) h)) ∧ (¬ (rI h (8 + (Int32.toNatClampNeg x1)) 5 = 0) → (Q (rI h 44 ((Int32.toNatClampNeg x1))) h)))) ∧ (¬ x2 = 1 → ((x2 = 2 → (zcI M_X2_forceOf [.ref 42, .ref 2, .int x1] h (fun vh1 h1 => zG h1 ∧ (Q vh1 h1)))) ∧ (¬ x2 = 2 → ((x2 = 3 → ((rI h (8 + (Int32.toNatClampNeg x1)) 5 = 0 → (Q (rI h (8 + (Int32.toNatClampNeg x1)) 9) h)) ∧ (¬ (rI h (8 + (Int32.toNatClampNeg x1)) 5 = 0) → (Q (rI h 46 ((Int32.toNatClampNeg x1))) h)))) ∧ (¬ x2 = 3 → (Q (-2) h))))))))))) ∧ (¬ (0 ≤ x1 ∧ x1 ≤ (rI h 2 1) - 1) → (Q (-2) h))) : zcI M_X10_now [.ref 0, .int x1, .int x2] h Q := by
  show zw zNT zNT M_X10_now 0 [some (.ref 0), some (.int x1), some (.int x2), none] [] h _
  refine z_aload_n (pc := 0) dX10_now_0 rfl rfl ?_
  refine q_getR (pc := 1) (i := 2) dX10_now_1 lk_RX10_20 (lyc rfl) (G 0 1 2 rfl) ?_
  refine z_iload_n (pc := 4) dX10_now_4 rfl rfl ?_
  refine q_invV (pc := 5) (As := [.int x1]) (st := []) dX10_now_5 ok_X8_hasThing ml_RX10_94 iv_X8_hasThing pa_X8_hasThing ⟨Nat.le_of_ble_eq_true rfl, Nat.le_of_ble_eq_true rfl⟩ (lyc rfl) (q_pI (s_X8_hasThing G (Or.inl rfl)) rfl ?_)
  refine z_if_ne (pc := 8) (tgt := 14) dX10_now_8 (by decide) (fun k10 => ?_) (fun k10 => ?_)
  · replace F := F.1 (zbn.mp k10)
    refine z_aload_n (pc := 14) dX10_now_14 rfl rfl ?_
    refine q_getR (pc := 15) (i := 2) dX10_now_15 lk_RX10_20 (lyc rfl) (G 0 1 2 rfl) ?_
    refine q_getR (pc := 18) (i := 3) dX10_now_18 lk_RX10_98 (lyc rfl) (G 2 0 3 rfl) ?_
    refine z_iload_n (pc := 21) dX10_now_21 rfl rfl ?_
    obtain ⟨k1, F⟩ := F
    refine q_aald (pc := 22) (j := (Int32.toNatClampNeg x1)) (r := 8 + (Int32.toNatClampNeg x1)) (t := 0) dX10_now_22 (lyc rfl) (zvn (lnc rfl) k1) rfl (grT (B := 2) G (Or.inl rfl) (zvi k1)) ?_
    refine z_astore_n (pc := 23) (ls' := [some (.ref 0), some (.int x1), some (.int x2), some (.ref (8 + (Int32.toNatClampNeg x1)))]) dX10_now_23 rfl (by decide) rfl ?_
    refine z_iload_n (pc := 24) dX10_now_24 rfl rfl ?_
    by_cases k2 : x2 = 0
    · replace F := F.1 k2
      refine z_tableIn (pc := 25) (x := x2) (tgt := 56) (off := 31) dX10_now_25 (by rw [k2]; decide) (by rw [k2]; decide) (by rw [k2]; decide) (by decide) ?_
      refine z_aload_n (pc := 56) dX10_now_56 rfl rfl ?_
      refine q_getI (pc := 57) (v := rI h (8 + (Int32.toNatClampNeg x1)) 5) dX10_now_57 lk_RX10_119 (lyT (B := 2) (Or.inl rfl) (zvi k1)) rfl ?_
      refine z_if_eq (pc := 60) (tgt := 75) dX10_now_60 (by decide) (fun k3 => ?_) (fun k3 => ?_)
      · replace F := F.1 k3
        refine z_aload_n (pc := 75) dX10_now_75 rfl rfl ?_
        refine q_getI (pc := 76) (v := rI h (8 + (Int32.toNatClampNeg x1)) 6) dX10_now_76 lk_RX10_125 (lyT (B := 2) (Or.inl rfl) (zvi k1)) rfl ?_
        exact q_retI (pc := 79) dX10_now_79 rfl F
      · replace F := F.2 k3
        refine z_aload_n (pc := 63) dX10_now_63 rfl rfl ?_
        refine q_getR (pc := 64) (i := 42) dX10_now_64 lk_RX10_27 (lyc rfl) (G 0 2 42 rfl) ?_
        refine q_getR (pc := 67) (i := 43) dX10_now_67 lk_RX10_123 (lyc rfl) (G 42 0 43 rfl) ?_
        refine z_iload_n (pc := 70) dX10_now_70 rfl rfl ?_
        refine q_iald (pc := 71) (j := (Int32.toNatClampNeg x1)) (v := rI h 43 ((Int32.toNatClampNeg x1))) dX10_now_71 (lyc rfl) (zvn (lnc rfl) k1) rfl rfl ?_
        refine z_goto (pc := 72) (tgt := 79) dX10_now_72 (by decide) ?_
        exact q_retI (pc := 79) dX10_now_79 rfl F
    · replace F := F.2 k2
      by_cases k4 : x2 = 1
      · replace F := F.1 k4
        refine z_tableIn (pc := 25) (x := x2) (tgt := 80) (off := 55) dX10_now_25 (by rw [k4]; decide) (by rw [k4]; decide) (by rw [k4]; decide) (by decide) ?_
        refine z_aload_n (pc := 80) dX10_now_80 rfl rfl ?_
        refine q_getI (pc := 81) (v := rI h (8 + (Int32.toNatClampNeg x1)) 5) dX10_now_81 lk_RX10_119 (lyT (B := 2) (Or.inl rfl) (zvi k1)) rfl ?_
        refine z_if_eq (pc := 84) (tgt := 99) dX10_now_84 (by decide) (fun k5 => ?_) (fun k5 => ?_)
        · replace F := F.1 k5
          refine z_aload_n (pc := 99) dX10_now_99 rfl rfl ?_
          refine q_getI (pc := 100) (v := rI h (8 + (Int32.toNatClampNeg x1)) 7) dX10_now_100 lk_RX10_131 (lyT (B := 2) (Or.inl rfl) (zvi k1)) rfl ?_
          exact q_retI (pc := 103) dX10_now_103 rfl F
        · replace F := F.2 k5
          refine z_aload_n (pc := 87) dX10_now_87 rfl rfl ?_
          refine q_getR (pc := 88) (i := 42) dX10_now_88 lk_RX10_27 (lyc rfl) (G 0 2 42 rfl) ?_
          refine q_getR (pc := 91) (i := 44) dX10_now_91 lk_RX10_128 (lyc rfl) (G 42 1 44 rfl) ?_
          refine z_iload_n (pc := 94) dX10_now_94 rfl rfl ?_
          refine q_iald (pc := 95) (j := (Int32.toNatClampNeg x1)) (v := rI h 44 ((Int32.toNatClampNeg x1))) dX10_now_95 (lyc rfl) (zvn (lnc rfl) k1) rfl rfl ?_
          refine z_goto (pc := 96) (tgt := 103) dX10_now_96 (by decide) ?_
          exact q_retI (pc := 103) dX10_now_103 rfl F
      · replace F := F.2 k4
        by_cases k6 : x2 = 2
        · replace F := F.1 k6
          refine z_tableIn (pc := 25) (x := x2) (tgt := 104) (off := 79) dX10_now_25 (by rw [k6]; decide) (by rw [k6]; decide) (by rw [k6]; decide) (by decide) ?_
          refine z_aload_n (pc := 104) dX10_now_104 rfl rfl ?_
          refine q_getR (pc := 105) (i := 42) dX10_now_105 lk_RX10_27 (lyc rfl) (G 0 2 42 rfl) ?_
          refine z_aload_n (pc := 108) dX10_now_108 rfl rfl ?_
          refine q_getR (pc := 109) (i := 2) dX10_now_109 lk_RX10_20 (lyc rfl) (G 0 1 2 rfl) ?_
          refine z_iload_n (pc := 112) dX10_now_112 rfl rfl ?_
          refine q_invV (pc := 113) (As := [.ref 2, .int x1]) (st := []) dX10_now_113 ok_X2_forceOf ml_RX10_134 iv_X2_forceOf pa_X2_forceOf ⟨Nat.le_of_ble_eq_true rfl, Nat.le_of_ble_eq_true rfl⟩ (lyc rfl) (q_kI F (fun vh1 h1 F => ?_))
          obtain ⟨G1, F⟩ := F
          exact q_retI (pc := 116) dX10_now_116 rfl F
        · replace F := F.2 k6
          by_cases k8 : x2 = 3
          · replace F := F.1 k8
            refine z_tableIn (pc := 25) (x := x2) (tgt := 117) (off := 92) dX10_now_25 (by rw [k8]; decide) (by rw [k8]; decide) (by rw [k8]; decide) (by decide) ?_
            refine z_aload_n (pc := 117) dX10_now_117 rfl rfl ?_
            refine q_getI (pc := 118) (v := rI h (8 + (Int32.toNatClampNeg x1)) 5) dX10_now_118 lk_RX10_119 (lyT (B := 2) (Or.inl rfl) (zvi k1)) rfl ?_
            refine z_if_eq (pc := 121) (tgt := 136) dX10_now_121 (by decide) (fun k9 => ?_) (fun k9 => ?_)
            · replace F := F.1 k9
              refine z_aload_n (pc := 136) dX10_now_136 rfl rfl ?_
              refine q_getI (pc := 137) (v := rI h (8 + (Int32.toNatClampNeg x1)) 9) dX10_now_137 lk_RX10_140 (lyT (B := 2) (Or.inl rfl) (zvi k1)) rfl ?_
              exact q_retI (pc := 140) dX10_now_140 rfl F
            · replace F := F.2 k9
              refine z_aload_n (pc := 124) dX10_now_124 rfl rfl ?_
              refine q_getR (pc := 125) (i := 42) dX10_now_125 lk_RX10_27 (lyc rfl) (G 0 2 42 rfl) ?_
              refine q_getR (pc := 128) (i := 46) dX10_now_128 lk_RX10_138 (lyc rfl) (G 42 3 46 rfl) ?_
              refine z_iload_n (pc := 131) dX10_now_131 rfl rfl ?_
              refine q_iald (pc := 132) (j := (Int32.toNatClampNeg x1)) (v := rI h 46 ((Int32.toNatClampNeg x1))) dX10_now_132 (lyc rfl) (zvn (lnc rfl) k1) rfl rfl ?_
              refine z_goto (pc := 133) (tgt := 140) dX10_now_133 (by decide) ?_
              exact q_retI (pc := 140) dX10_now_140 rfl F
          · replace F := F.2 k8
            have hz0 := q_sw (0) k2 (by decide)
            have hz1 := q_sw (1) k4 (by decide)
            have hz2 := q_sw (2) k6 (by decide)
            have hz3 := q_sw (3) k8 (by decide)
            refine z_tableOut (pc := 25) (tgt := 141) dX10_now_25 (by omega) (by decide) ?_
            refine z_bipush (pc := 141) (v := -2) dX10_now_141 (by decide) ?_
            exact q_retI (pc := 143) dX10_now_143 rfl F
  · replace F := F.2 (zb0.mp k10)
    refine z_bipush (pc := 11) (v := -2) dX10_now_11 (by decide) ?_
    exact q_retI (pc := 13) dX10_now_13 rfl F
theorem g_X11_now {x1 : Int32} {x2 : Int32} {h : zHp} {Q : Int32 → zHp → Prop}  (G : zG h) (F : (¬ (0 ≤ x1 ∧ x1 ≤ rI h 165 238 - 1) → (Q (-2) h)) ∧ ((0 ≤ x1 ∧ x1 ≤ rI h 165 238 - 1) → ((((0 : Int32) ≤ x2 ∧ x2 ≤ 3) → (zcV M_X11_makes [.ref 164, .int 5] h (fun h1 => zG h1 ∧ (zcI M_X11_isNow [.ref 164, .int x1, .int x2] h1 (fun vh2 h2 => zG h2 ∧ (Q vh2 h2)))))) ∧ (¬ ((0 : Int32) ≤ x2 ∧ x2 ≤ 3) → (Q (-2) h))))) : zcI M_X11_now [.ref 164, .int x1, .int x2] h Q := by
  show zw zNT zNT M_X11_now 0 [some (.ref 164), some (.int x1), some (.int x2)] [] h _
  refine z_aload_n (pc := 0) dX11_now_0 rfl rfl ?_
  refine z_iload_n (pc := 1) dX11_now_1 rfl rfl ?_
  refine q_invV (pc := 2) (As := [.int x1]) (st := []) dX11_now_2 ok_X11_isThing ml_RX11_88 iv_X11_isThing pa_X11_isThing ⟨Nat.le_of_ble_eq_true rfl, Nat.le_of_ble_eq_true rfl⟩ (lyc rfl) (q_pI (s_X11_isThing G) rfl ?_)
  refine z_if_eq (pc := 5) (tgt := 17) dX11_now_5 (by decide) (fun k4 => ?_) (fun k4 => ?_)
  · replace F := F.1 (zb0.mp k4)
    refine z_bipush (pc := 17) (v := -2) dX11_now_17 (by decide) ?_
    exact q_retI (pc := 19) dX11_now_19 rfl F
  · replace F := F.2 (zbn.mp k4)
    refine z_iload_n (pc := 8) dX11_now_8 rfl rfl ?_
    refine z_iconst (pc := 9) (v := 0) dX11_now_9 (by decide) ?_
    refine z_iconst (pc := 10) (v := 3) dX11_now_10 (by decide) ?_
    refine q_invS (pc := 11) (As := [.int x2, .int 0, .int 3]) (st := []) dX11_now_11 ok_X11_in ml_RX11_84 st_X11_in pa_X11_in ⟨Nat.le_of_ble_eq_true rfl, Nat.le_of_ble_eq_true rfl⟩ (q_pI (s_X11_in G) rfl ?_)
    refine z_if_ne (pc := 14) (tgt := 20) dX11_now_14 (by decide) (fun k3 => ?_) (fun k3 => ?_)
    · replace F := F.1 (zbn.mp k3)
      refine z_aload_n (pc := 20) dX11_now_20 rfl rfl ?_
      refine z_iconst (pc := 21) (v := 5) dX11_now_21 (by decide) ?_
      refine q_invV (pc := 22) (As := [.int 5]) (st := []) dX11_now_22 ok_X11_makes ml_RX11_145 iv_X11_makes pa_X11_makes ⟨Nat.le_of_ble_eq_true rfl, Nat.le_of_ble_eq_true rfl⟩ (lyc rfl) (q_kV F (fun h1 F => ?_))
      obtain ⟨G1, F⟩ := F
      refine z_aload_n (pc := 25) dX11_now_25 rfl rfl ?_
      refine z_iload_n (pc := 26) dX11_now_26 rfl rfl ?_
      refine z_iload_n (pc := 27) dX11_now_27 rfl rfl ?_
      refine q_invV (pc := 28) (As := [.int x1, .int x2]) (st := []) dX11_now_28 ok_X11_isNow ml_RX11_170 iv_X11_isNow pa_X11_isNow ⟨Nat.le_of_ble_eq_true rfl, Nat.le_of_ble_eq_true rfl⟩ (lyc rfl) (q_kI F (fun vh2 h2 F => ?_))
      obtain ⟨G2, F⟩ := F
      exact q_retI (pc := 31) dX11_now_31 rfl F
    · replace F := F.2 (zb0.mp k3)
      refine z_bipush (pc := 17) (v := -2) dX11_now_17 (by decide) ?_
      exact q_retI (pc := 19) dX11_now_19 rfl F
theorem g_X6_change {c0 : Nat} {x1 : Int32} {x2 : Int32} {h : zHp} {Q : Int32 → zHp → Prop} (hc0 : ly c0 = 7) (G : zG h) (F : (x1 = 1 → (Q (rI h c0 1) (wI h c0 1 x2))) ∧ (¬ x1 = 1 → ((x1 = 2 → (Q (rI h c0 2) (wI h c0 2 x2))) ∧ (¬ x1 = 2 → ((x1 = 3 → (Q (rI h c0 3) (wI h c0 3 x2))) ∧ (¬ x1 = 3 → (Q (rI h c0 4) (wI h c0 4 x2)))))))) : zcI M_X6_change [.ref c0, .int x1, .int x2] h Q := by
  show zw zNT zNT M_X6_change 0 [some (.ref c0), some (.int x1), some (.int x2), none] [] h _
  refine z_iload_n (pc := 0) dX6_change_0 rfl rfl ?_
  by_cases k1 : x1 = 1
  · replace F := F.1 k1
    refine z_tableIn (pc := 1) (x := x1) (tgt := 28) (off := 27) dX6_change_1 (by rw [k1]; decide) (by rw [k1]; decide) (by rw [k1]; decide) (by decide) ?_
    refine z_aload_n (pc := 28) dX6_change_28 rfl rfl ?_
    refine q_getI (pc := 29) (v := rI h c0 1) dX6_change_29 lk_RX6_15 hc0 rfl ?_
    refine z_istore_n (pc := 32) (ls' := [some (.ref c0), some (.int x1), some (.int x2), some (.int (rI h c0 1))]) dX6_change_32 rfl (by decide) rfl ?_
    refine z_aload_n (pc := 33) dX6_change_33 rfl rfl ?_
    refine z_iload_n (pc := 34) dX6_change_34 rfl rfl ?_
    refine q_putI (pc := 35) dX6_change_35 lk_RX6_15 hc0 ?_
    refine z_iload_n (pc := 38) dX6_change_38 rfl rfl ?_
    exact q_retI (pc := 39) dX6_change_39 rfl F
  · replace F := F.2 k1
    by_cases k2 : x1 = 2
    · replace F := F.1 k2
      refine z_tableIn (pc := 1) (x := x1) (tgt := 40) (off := 39) dX6_change_1 (by rw [k2]; decide) (by rw [k2]; decide) (by rw [k2]; decide) (by decide) ?_
      refine z_aload_n (pc := 40) dX6_change_40 rfl rfl ?_
      refine q_getI (pc := 41) (v := rI h c0 2) dX6_change_41 lk_RX6_18 hc0 rfl ?_
      refine z_istore_n (pc := 44) (ls' := [some (.ref c0), some (.int x1), some (.int x2), some (.int (rI h c0 2))]) dX6_change_44 rfl (by decide) rfl ?_
      refine z_aload_n (pc := 45) dX6_change_45 rfl rfl ?_
      refine z_iload_n (pc := 46) dX6_change_46 rfl rfl ?_
      refine q_putI (pc := 47) dX6_change_47 lk_RX6_18 hc0 ?_
      refine z_iload_n (pc := 50) dX6_change_50 rfl rfl ?_
      exact q_retI (pc := 51) dX6_change_51 rfl F
    · replace F := F.2 k2
      by_cases k3 : x1 = 3
      · replace F := F.1 k3
        refine z_tableIn (pc := 1) (x := x1) (tgt := 52) (off := 51) dX6_change_1 (by rw [k3]; decide) (by rw [k3]; decide) (by rw [k3]; decide) (by decide) ?_
        refine z_aload_n (pc := 52) dX6_change_52 rfl rfl ?_
        refine q_getI (pc := 53) (v := rI h c0 3) dX6_change_53 lk_RX6_21 hc0 rfl ?_
        refine z_istore_n (pc := 56) (ls' := [some (.ref c0), some (.int x1), some (.int x2), some (.int (rI h c0 3))]) dX6_change_56 rfl (by decide) rfl ?_
        refine z_aload_n (pc := 57) dX6_change_57 rfl rfl ?_
        refine z_iload_n (pc := 58) dX6_change_58 rfl rfl ?_
        refine q_putI (pc := 59) dX6_change_59 lk_RX6_21 hc0 ?_
        refine z_iload_n (pc := 62) dX6_change_62 rfl rfl ?_
        exact q_retI (pc := 63) dX6_change_63 rfl F
      · replace F := F.2 k3
        have hz0 := q_sw (1) k1 (by decide)
        have hz1 := q_sw (2) k2 (by decide)
        have hz2 := q_sw (3) k3 (by decide)
        refine z_tableOut (pc := 1) (tgt := 64) dX6_change_1 (by omega) (by decide) ?_
        refine z_aload_n (pc := 64) dX6_change_64 rfl rfl ?_
        refine q_getI (pc := 65) (v := rI h c0 4) dX6_change_65 lk_RX6_24 hc0 rfl ?_
        refine z_istore_n (pc := 68) (ls' := [some (.ref c0), some (.int x1), some (.int x2), some (.int (rI h c0 4))]) dX6_change_68 rfl (by decide) rfl ?_
        refine z_aload_n (pc := 69) dX6_change_69 rfl rfl ?_
        refine z_iload_n (pc := 70) dX6_change_70 rfl rfl ?_
        refine q_putI (pc := 71) dX6_change_71 lk_RX6_24 hc0 ?_
        refine z_iload_n (pc := 74) dX6_change_74 rfl rfl ?_
        exact q_retI (pc := 75) dX6_change_75 rfl F
theorem g_X10_fitsBase {x0 : Int32} {x1 : Int32} {h : zHp} {Q : Int32 → zHp → Prop}  (G : zG h) (F : (x0 = 1 → (Q (zb ((0 : Int32) ≤ x1 ∧ x1 ≤ 5)) h)) ∧ (¬ x0 = 1 → ((x0 = 2 → (Q (zb ((0 : Int32) ≤ x1 ∧ x1 ≤ 99)) h)) ∧ (¬ x0 = 2 → ((x0 = 3 → (Q (zb ((0 : Int32) ≤ x1 ∧ x1 ≤ 99)) h)) ∧ (¬ x0 = 3 → ((x0 = 4 → (Q (zb ((0 : Int32) ≤ x1 ∧ x1 ≤ 999)) h)) ∧ (¬ x0 = 4 → (Q 0 h))))))))) : zcI M_X10_fitsBase [.int x0, .int x1] h Q := by
  show zw zNT zNT M_X10_fitsBase 0 [some (.int x0), some (.int x1)] [] h _
  refine z_iload_n (pc := 0) dX10_fitsBase_0 rfl rfl ?_
  by_cases k1 : x0 = 1
  · replace F := F.1 k1
    refine z_tableIn (pc := 1) (x := x0) (tgt := 32) (off := 31) dX10_fitsBase_1 (by rw [k1]; decide) (by rw [k1]; decide) (by rw [k1]; decide) (by decide) ?_
    refine z_iload_n (pc := 32) dX10_fitsBase_32 rfl rfl ?_
    refine z_iconst (pc := 33) (v := 0) dX10_fitsBase_33 (by decide) ?_
    refine z_iconst (pc := 34) (v := 5) dX10_fitsBase_34 (by decide) ?_
    refine q_invS (pc := 35) (As := [.int x1, .int 0, .int 5]) (st := []) dX10_fitsBase_35 ok_X10_within ml_RX10_82 st_X10_within pa_X10_within ⟨Nat.le_of_ble_eq_true rfl, Nat.le_of_ble_eq_true rfl⟩ (q_pI (s_X10_within G) rfl ?_)
    exact q_retB (pc := 38) dX10_fitsBase_38 rfl zb_B F
  · replace F := F.2 k1
    by_cases k2 : x0 = 2
    · replace F := F.1 k2
      refine z_tableIn (pc := 1) (x := x0) (tgt := 39) (off := 38) dX10_fitsBase_1 (by rw [k2]; decide) (by rw [k2]; decide) (by rw [k2]; decide) (by decide) ?_
      refine z_iload_n (pc := 39) dX10_fitsBase_39 rfl rfl ?_
      refine z_iconst (pc := 40) (v := 0) dX10_fitsBase_40 (by decide) ?_
      refine z_bipush (pc := 41) (v := 99) dX10_fitsBase_41 (by decide) ?_
      refine q_invS (pc := 43) (As := [.int x1, .int 0, .int 99]) (st := []) dX10_fitsBase_43 ok_X10_within ml_RX10_82 st_X10_within pa_X10_within ⟨Nat.le_of_ble_eq_true rfl, Nat.le_of_ble_eq_true rfl⟩ (q_pI (s_X10_within G) rfl ?_)
      exact q_retB (pc := 46) dX10_fitsBase_46 rfl zb_B F
    · replace F := F.2 k2
      by_cases k3 : x0 = 3
      · replace F := F.1 k3
        refine z_tableIn (pc := 1) (x := x0) (tgt := 47) (off := 46) dX10_fitsBase_1 (by rw [k3]; decide) (by rw [k3]; decide) (by rw [k3]; decide) (by decide) ?_
        refine z_iload_n (pc := 47) dX10_fitsBase_47 rfl rfl ?_
        refine z_iconst (pc := 48) (v := 0) dX10_fitsBase_48 (by decide) ?_
        refine z_bipush (pc := 49) (v := 99) dX10_fitsBase_49 (by decide) ?_
        refine q_invS (pc := 51) (As := [.int x1, .int 0, .int 99]) (st := []) dX10_fitsBase_51 ok_X10_within ml_RX10_82 st_X10_within pa_X10_within ⟨Nat.le_of_ble_eq_true rfl, Nat.le_of_ble_eq_true rfl⟩ (q_pI (s_X10_within G) rfl ?_)
        exact q_retB (pc := 54) dX10_fitsBase_54 rfl zb_B F
      · replace F := F.2 k3
        by_cases k4 : x0 = 4
        · replace F := F.1 k4
          refine z_tableIn (pc := 1) (x := x0) (tgt := 55) (off := 54) dX10_fitsBase_1 (by rw [k4]; decide) (by rw [k4]; decide) (by rw [k4]; decide) (by decide) ?_
          refine z_iload_n (pc := 55) dX10_fitsBase_55 rfl rfl ?_
          refine z_iconst (pc := 56) (v := 0) dX10_fitsBase_56 (by decide) ?_
          refine z_sipush (pc := 57) (v := 999) dX10_fitsBase_57 (by decide) ?_
          refine q_invS (pc := 60) (As := [.int x1, .int 0, .int 999]) (st := []) dX10_fitsBase_60 ok_X10_within ml_RX10_82 st_X10_within pa_X10_within ⟨Nat.le_of_ble_eq_true rfl, Nat.le_of_ble_eq_true rfl⟩ (q_pI (s_X10_within G) rfl ?_)
          exact q_retB (pc := 63) dX10_fitsBase_63 rfl zb_B F
        · replace F := F.2 k4
          have hz0 := q_sw (1) k1 (by decide)
          have hz1 := q_sw (2) k2 (by decide)
          have hz2 := q_sw (3) k3 (by decide)
          have hz3 := q_sw (4) k4 (by decide)
          refine z_tableOut (pc := 1) (tgt := 64) dX10_fitsBase_1 (by omega) (by decide) ?_
          refine z_iconst (pc := 64) (v := 0) dX10_fitsBase_64 (by decide) ?_
          exact q_retB (pc := 65) dX10_fitsBase_65 rfl (Or.inl rfl) F
theorem g_X10_set {x1 : Int32} {x2 : Int32} {x3 : Int32} {h : zHp} {Q : Int32 → zHp → Prop}  (G : zG h) (F : (¬ (0 ≤ x1 ∧ x1 ≤ (rI h 2 1) - 1) → (Q (-2) h)) ∧ ((0 ≤ x1 ∧ x1 ≤ (rI h 2 1) - 1) → (zcI M_X10_fitsBase [.int x2, .int x3] h (fun vh1 h1 => zG h1 ∧ ((¬ vh1 = 0 → (vp_in x1 8 ∧ ((¬ rI h1 (8 + (Int32.toNatClampNeg x1)) 5 = 0 → (zcI M_X6_change [.ref (8 + (Int32.toNatClampNeg x1)), .int x2, .int x3] h1 (fun vh2 h2 => zG h2 ∧ (zcV M_X0_settle [.ref 1, .int 0] h2 (fun h3 => zG h3 ∧ (Q vh2 h3)))))) ∧ (rI h1 (8 + (Int32.toNatClampNeg x1)) 5 = 0 → (Q (-3) h1))))) ∧ (vh1 = 0 → (Q (-2) h1))))))) : zcI M_X10_set [.ref 0, .int x1, .int x2, .int x3] h Q := by
  show zw zNT zNT M_X10_set 0 [some (.ref 0), some (.int x1), some (.int x2), some (.int x3), none, none] [] h _
  refine z_aload_n (pc := 0) dX10_set_0 rfl rfl ?_
  refine q_getR (pc := 1) (i := 2) dX10_set_1 lk_RX10_20 (lyc rfl) (G 0 1 2 rfl) ?_
  refine z_iload_n (pc := 4) dX10_set_4 rfl rfl ?_
  refine q_invV (pc := 5) (As := [.int x1]) (st := []) dX10_set_5 ok_X8_hasThing ml_RX10_94 iv_X8_hasThing pa_X8_hasThing ⟨Nat.le_of_ble_eq_true rfl, Nat.le_of_ble_eq_true rfl⟩ (lyc rfl) (q_pI (s_X8_hasThing G (Or.inl rfl)) rfl ?_)
  refine z_if_eq (pc := 8) (tgt := 19) dX10_set_8 (by decide) (fun k7 => ?_) (fun k7 => ?_)
  · replace F := F.1 (zb0.mp k7)
    refine z_bipush (pc := 19) (v := -2) dX10_set_19 (by decide) ?_
    exact q_retI (pc := 21) dX10_set_21 rfl F
  · replace F := F.2 (zbn.mp k7)
    refine z_iload_n (pc := 11) dX10_set_11 rfl rfl ?_
    refine z_iload_n (pc := 12) dX10_set_12 rfl rfl ?_
    refine q_invS (pc := 13) (As := [.int x2, .int x3]) (st := []) dX10_set_13 ok_X10_fitsBase ml_RX10_143 st_X10_fitsBase pa_X10_fitsBase ⟨Nat.le_of_ble_eq_true rfl, Nat.le_of_ble_eq_true rfl⟩ (q_kI F (fun vh1 h1 F => ?_))
    obtain ⟨G1, F⟩ := F
    refine z_if_ne (pc := 16) (tgt := 22) dX10_set_16 (by decide) (fun k6 => ?_) (fun k6 => ?_)
    · replace F := F.1 k6
      refine z_aload_n (pc := 22) dX10_set_22 rfl rfl ?_
      refine q_getR (pc := 23) (i := 2) dX10_set_23 lk_RX10_20 (lyc rfl) (G1 0 1 2 rfl) ?_
      refine q_getR (pc := 26) (i := 3) dX10_set_26 lk_RX10_98 (lyc rfl) (G1 2 0 3 rfl) ?_
      refine z_iload_n (pc := 29) dX10_set_29 rfl rfl ?_
      obtain ⟨k2, F⟩ := F
      refine q_aald (pc := 30) (j := (Int32.toNatClampNeg x1)) (r := 8 + (Int32.toNatClampNeg x1)) (t := 0) dX10_set_30 (lyc rfl) (zvn (lnc rfl) k2) rfl (grT (B := 2) G1 (Or.inl rfl) (zvi k2)) ?_
      refine z_astore (pc := 31) (ls' := [some (.ref 0), some (.int x1), some (.int x2), some (.int x3), some (.ref (8 + (Int32.toNatClampNeg x1))), none]) dX10_set_31 (by decide) rfl ?_
      refine z_aload (pc := 33) dX10_set_33 rfl ?_
      refine q_getI (pc := 35) (v := rI h1 (8 + (Int32.toNatClampNeg x1)) 5) dX10_set_35 lk_RX10_119 (lyT (B := 2) (Or.inl rfl) (zvi k2)) rfl ?_
      refine z_if_ne (pc := 38) (tgt := 44) dX10_set_38 (by decide) (fun k5 => ?_) (fun k5 => ?_)
      · replace F := F.1 k5
        refine z_aload (pc := 44) dX10_set_44 rfl ?_
        refine z_iload_n (pc := 46) dX10_set_46 rfl rfl ?_
        refine z_iload_n (pc := 47) dX10_set_47 rfl rfl ?_
        refine q_invV (pc := 48) (As := [.int x2, .int x3]) (st := []) dX10_set_48 ok_X6_change ml_RX10_147 iv_X6_change pa_X6_change ⟨Nat.le_of_ble_eq_true rfl, Nat.le_of_ble_eq_true rfl⟩ (lyT (B := 2) (Or.inl rfl) (zvi k2)) (q_kI F (fun vh2 h2 F => ?_))
        obtain ⟨G2, F⟩ := F
        refine z_istore (pc := 51) (ls' := [some (.ref 0), some (.int x1), some (.int x2), some (.int x3), some (.ref (8 + (Int32.toNatClampNeg x1))), some (.int vh2)]) dX10_set_51 (by decide) rfl ?_
        refine z_aload_n (pc := 53) dX10_set_53 rfl rfl ?_
        refine q_getR (pc := 54) (i := 1) dX10_set_54 lk_RX10_10 (lyc rfl) (G2 0 0 1 rfl) ?_
        refine z_iconst (pc := 57) (v := 0) dX10_set_57 (by decide) ?_
        refine q_invV (pc := 58) (As := [.int 0]) (st := []) dX10_set_58 ok_X0_settle ml_RX10_90 iv_X0_settle pa_X0_settle ⟨Nat.le_of_ble_eq_true rfl, Nat.le_of_ble_eq_true rfl⟩ (lyc rfl) (q_kV F (fun h3 F => ?_))
        obtain ⟨G3, F⟩ := F
        refine z_iload (pc := 61) dX10_set_61 rfl ?_
        exact q_retI (pc := 63) dX10_set_63 rfl F
      · replace F := F.2 k5
        refine z_bipush (pc := 41) (v := -3) dX10_set_41 (by decide) ?_
        exact q_retI (pc := 43) dX10_set_43 rfl F
    · replace F := F.2 k6
      refine z_bipush (pc := 19) (v := -2) dX10_set_19 (by decide) ?_
      exact q_retI (pc := 21) dX10_set_21 rfl F
theorem g_X11_set {x1 : Int32} {x2 : Int32} {x3 : Int32} {h : zHp} {Q : Int32 → zHp → Prop}  (G : zG h) (F : (¬ (0 ≤ x1 ∧ x1 ≤ rI h 165 238 - 1) → (Q (-2) h)) ∧ ((0 ≤ x1 ∧ x1 ≤ rI h 165 238 - 1) → ((¬ ((1 : Int32) ≤ x2 ∧ x2 ≤ 4) → (Q (-2) h)) ∧ (((1 : Int32) ≤ x2 ∧ x2 ≤ 4) → ((¬ x2 = 1 → ((¬ x2 = 4 → (zlI M_X11_set 41 [some (.ref 164), some (.int x1), some (.int x2), some (.int x3), none] [.int 99, .int 0, .int x3] h Q)) ∧ (x2 = 4 → (zlI M_X11_set 41 [some (.ref 164), some (.int x1), some (.int x2), some (.int x3), none] [.int 999, .int 0, .int x3] h Q)))) ∧ (x2 = 1 → (zlI M_X11_set 41 [some (.ref 164), some (.int x1), some (.int x2), some (.int x3), none] [.int 5, .int 0, .int x3] h Q))))))) : zcI M_X11_set [.ref 164, .int x1, .int x2, .int x3] h Q := by
  show zw zNT zNT M_X11_set 0 [some (.ref 164), some (.int x1), some (.int x2), some (.int x3), none] [] h _
  refine z_aload_n (pc := 0) dX11_set_0 rfl rfl ?_
  refine z_iload_n (pc := 1) dX11_set_1 rfl rfl ?_
  refine q_invV (pc := 2) (As := [.int x1]) (st := []) dX11_set_2 ok_X11_isThing ml_RX11_88 iv_X11_isThing pa_X11_isThing ⟨Nat.le_of_ble_eq_true rfl, Nat.le_of_ble_eq_true rfl⟩ (lyc rfl) (q_pI (s_X11_isThing G) rfl ?_)
  refine z_if_eq (pc := 5) (tgt := 47) dX11_set_5 (by decide) (fun k4 => ?_) (fun k4 => ?_)
  · replace F := F.1 (zb0.mp k4)
    refine z_bipush (pc := 47) (v := -2) dX11_set_47 (by decide) ?_
    exact q_retI (pc := 49) dX11_set_49 rfl F
  · replace F := F.2 (zbn.mp k4)
    refine z_iload_n (pc := 8) dX11_set_8 rfl rfl ?_
    refine z_iconst (pc := 9) (v := 1) dX11_set_9 (by decide) ?_
    refine z_iconst (pc := 10) (v := 4) dX11_set_10 (by decide) ?_
    refine q_invS (pc := 11) (As := [.int x2, .int 1, .int 4]) (st := []) dX11_set_11 ok_X11_in ml_RX11_84 st_X11_in pa_X11_in ⟨Nat.le_of_ble_eq_true rfl, Nat.le_of_ble_eq_true rfl⟩ (q_pI (s_X11_in G) rfl ?_)
    refine z_if_eq (pc := 14) (tgt := 47) dX11_set_14 (by decide) (fun k3 => ?_) (fun k3 => ?_)
    · replace F := F.1 (zb0.mp k3)
      refine z_bipush (pc := 47) (v := -2) dX11_set_47 (by decide) ?_
      exact q_retI (pc := 49) dX11_set_49 rfl F
    · replace F := F.2 (zbn.mp k3)
      refine z_iload_n (pc := 17) dX11_set_17 rfl rfl ?_
      refine z_iconst (pc := 18) (v := 0) dX11_set_18 (by decide) ?_
      refine z_iload_n (pc := 19) dX11_set_19 rfl rfl ?_
      refine z_iconst (pc := 20) (v := 1) dX11_set_20 (by decide) ?_
      refine z_icmp_ne (pc := 21) (tgt := 28) dX11_set_21 (by decide) (fun k2 => ?_) (fun k2 => ?_)
      · replace F := F.1 k2
        refine z_iload_n (pc := 28) dX11_set_28 rfl rfl ?_
        refine z_iconst (pc := 29) (v := 4) dX11_set_29 (by decide) ?_
        refine z_icmp_ne (pc := 30) (tgt := 39) dX11_set_30 (by decide) (fun k1 => ?_) (fun k1 => ?_)
        · replace F := F.1 k1
          refine z_bipush (pc := 39) (v := 99) dX11_set_39 (by decide) ?_
          exact F
        · replace F := F.2 k1
          refine z_sipush (pc := 33) (v := 999) dX11_set_33 (by decide) ?_
          refine z_goto (pc := 36) (tgt := 41) dX11_set_36 (by decide) ?_
          exact F
      · replace F := F.2 k2
        refine z_iconst (pc := 24) (v := 5) dX11_set_24 (by decide) ?_
        refine z_goto (pc := 25) (tgt := 41) dX11_set_25 (by decide) ?_
        exact F
theorem g_X11_set_41 {x1 : Int32} {x2 : Int32} {x3 : Int32} {xs0 : Int32} {xs1 : Int32} {xs2 : Int32} {h : zHp} {Q : Int32 → zHp → Prop}  (G : zG h) (F : ((xs1 ≤ xs0 ∧ xs0 ≤ xs2) → (zCt (rI h 165 238) 8 ∧ (((aliveM h x1) → (vp_in ((0 + (10 * x1)) + x2) 246 ∧ (vp_in ((0 + (10 * x1)) + x2) 246 ∧ (zcI M_X11_changed [.ref 164, .int (rI h 165 ((Int32.toNatClampNeg (((0 + (10 * x1)) + x2)))))] (wI h 165 ((Int32.toNatClampNeg ((0 + (10 * x1)) + x2))) x3) (fun vh1 h1 => zG h1 ∧ (Q vh1 h1)))))) ∧ (¬ (aliveM h x1) → (Q (-3) h))))) ∧ (¬ (xs1 ≤ xs0 ∧ xs0 ≤ xs2) → (Q (-2) h))) : zlI M_X11_set 41 [some (.ref 164), some (.int x1), some (.int x2), some (.int x3), none] [.int xs2, .int xs1, .int xs0] h Q := by
  refine q_invS (pc := 41) (As := [.int xs0, .int xs1, .int xs2]) (st := []) dX11_set_41 ok_X11_in ml_RX11_84 st_X11_in pa_X11_in ⟨Nat.le_of_ble_eq_true rfl, Nat.le_of_ble_eq_true rfl⟩ (q_pI (s_X11_in G) rfl ?_)
  refine z_if_ne (pc := 44) (tgt := 50) dX11_set_44 (by decide) (fun k6 => ?_) (fun k6 => ?_)
  · replace F := F.1 (zbn.mp k6)
    refine z_aload_n (pc := 50) dX11_set_50 rfl rfl ?_
    refine z_iload_n (pc := 51) dX11_set_51 rfl rfl ?_
    obtain ⟨k1, F⟩ := F
    refine q_invV (pc := 52) (As := [.int x1]) (st := []) dX11_set_52 ok_X11_isAlive ml_RX11_100 iv_X11_isAlive pa_X11_isAlive ⟨Nat.le_of_ble_eq_true rfl, Nat.le_of_ble_eq_true rfl⟩ (lyc rfl) (q_pI (s_X11_isAlive G k1) rfl ?_)
    refine z_if_ne (pc := 55) (tgt := 61) dX11_set_55 (by decide) (fun k5 => ?_) (fun k5 => ?_)
    · replace F := F.1 (zbn.mp k5)
      refine z_aload_n (pc := 61) dX11_set_61 rfl rfl ?_
      refine z_iload_n (pc := 62) dX11_set_62 rfl rfl ?_
      refine z_iload_n (pc := 63) dX11_set_63 rfl rfl ?_
      obtain ⟨k2, F⟩ := F
      refine q_invV (pc := 64) (As := [.int x1, .int x2]) (st := []) dX11_set_64 ok_X11_its ml_RX11_92 iv_X11_its pa_X11_its ⟨Nat.le_of_ble_eq_true rfl, Nat.le_of_ble_eq_true rfl⟩ (lyc rfl) (q_pI (s_X11_its G k2) rfl ?_)
      refine z_istore (pc := 67) (ls' := [some (.ref 164), some (.int x1), some (.int x2), some (.int x3), some (.int (rI h 165 ((Int32.toNatClampNeg (((0 + (10 * x1)) + x2))))))]) dX11_set_67 (by decide) rfl ?_
      refine z_aload_n (pc := 69) dX11_set_69 rfl rfl ?_
      refine q_getR (pc := 70) (i := 165) dX11_set_70 lk_RX11_7 (lyc rfl) (G 164 0 165 rfl) ?_
      refine z_iconst (pc := 73) (v := 0) dX11_set_73 (by decide) ?_
      refine z_bipush (pc := 74) (v := 10) dX11_set_74 (by decide) ?_
      refine z_iload_n (pc := 76) dX11_set_76 rfl rfl ?_
      refine z_imul (pc := 77) dX11_set_77 ?_
      refine z_iadd (pc := 78) dX11_set_78 ?_
      refine z_iload_n (pc := 79) dX11_set_79 rfl rfl ?_
      refine z_iadd (pc := 80) dX11_set_80 ?_
      refine z_iload_n (pc := 81) dX11_set_81 rfl rfl ?_
      obtain ⟨k3, F⟩ := F
      refine q_iast (pc := 82) (j := (Int32.toNatClampNeg ((0 + (10 * x1)) + x2))) dX11_set_82 (lyc rfl) (zvn (lnc rfl) k3) rfl ?_
      refine z_aload_n (pc := 83) dX11_set_83 rfl rfl ?_
      refine z_iload (pc := 84) dX11_set_84 rfl ?_
      refine q_invV (pc := 86) (As := [.int (rI h 165 ((Int32.toNatClampNeg (((0 + (10 * x1)) + x2)))))]) (st := []) dX11_set_86 ok_X11_changed ml_RX11_167 iv_X11_changed pa_X11_changed ⟨Nat.le_of_ble_eq_true rfl, Nat.le_of_ble_eq_true rfl⟩ (lyc rfl) (q_kI F (fun vh1 h1 F => ?_))
      obtain ⟨G1, F⟩ := F
      exact q_retI (pc := 89) dX11_set_89 rfl F
    · replace F := F.2 (zb0.mp k5)
      refine z_bipush (pc := 58) (v := -3) dX11_set_58 (by decide) ?_
      exact q_retI (pc := 60) dX11_set_60 rfl F
  · replace F := F.2 (zb0.mp k6)
    refine z_bipush (pc := 47) (v := -2) dX11_set_47 (by decide) ?_
    exact q_retI (pc := 49) dX11_set_49 rfl F
theorem g_X10_scope {x1 : Int32} {x2 : Int32} {h : zHp} {Q : Int32 → zHp → Prop}  (G : zG h) (F : ((okSc x1 x2) → (zlI M_X10_scope 16 [some (.ref 0), some (.int x1), some (.int x2), some (.int 0), some (.int 0)] [] h Q)) ∧ (¬ (okSc x1 x2) → (Q (-2) h))) : zcI M_X10_scope [.ref 0, .int x1, .int x2] h Q := by
  show zw zNT zNT M_X10_scope 0 [some (.ref 0), some (.int x1), some (.int x2), none, none] [] h _
  refine z_iload_n (pc := 0) dX10_scope_0 rfl rfl ?_
  refine z_iload_n (pc := 1) dX10_scope_1 rfl rfl ?_
  refine q_invS (pc := 2) (As := [.int x1, .int x2]) (st := []) dX10_scope_2 ok_X10_isScope ml_RX10_151 st_X10_isScope pa_X10_isScope ⟨Nat.le_of_ble_eq_true rfl, Nat.le_of_ble_eq_true rfl⟩ (q_pI (s_X10_isScope G) rfl ?_)
  refine z_if_ne (pc := 5) (tgt := 11) dX10_scope_5 (by decide) (fun k1 => ?_) (fun k1 => ?_)
  · replace F := F.1 (zbn.mp k1)
    refine z_iconst (pc := 11) (v := 0) dX10_scope_11 (by decide) ?_
    refine z_istore_n (pc := 12) (ls' := [some (.ref 0), some (.int x1), some (.int x2), some (.int 0), none]) dX10_scope_12 rfl (by decide) rfl ?_
    refine z_iconst (pc := 13) (v := 0) dX10_scope_13 (by decide) ?_
    refine z_istore (pc := 14) (ls' := [some (.ref 0), some (.int x1), some (.int x2), some (.int 0), some (.int 0)]) dX10_scope_14 (by decide) rfl ?_
    exact F
  · replace F := F.2 (zb0.mp k1)
    refine z_bipush (pc := 8) (v := -2) dX10_scope_8 (by decide) ?_
    exact q_retI (pc := 10) dX10_scope_10 rfl F
theorem g_X10_scope_16 {x1 : Int32} {x2 : Int32} {x3 : Int32} {x4 : Int32} {h : zHp} {Q : Int32 → zHp → Prop}  (G : zG h) (F : (rI h 2 1 ≤ x4 → (Q x3 h)) ∧ (¬ (rI h 2 1 ≤ x4) → (zcI M_X2_holds [.ref 42, .ref 2, .int x4, .int x1, .int x2] h (fun vh1 h1 => zG h1 ∧ ((vh1 = 0 → (zlI M_X10_scope 16 [some (.ref 0), some (.int x1), some (.int x2), some (.int x3), some (.int (x4 + 1))] [] h1 Q)) ∧ (¬ (vh1 = 0) → (zlI M_X10_scope 16 [some (.ref 0), some (.int x1), some (.int x2), some (.int (x3 ||| (1 <<< (x4 &&& 31)))), some (.int (x4 + 1))] [] h1 Q))))))) : zlI M_X10_scope 16 [some (.ref 0), some (.int x1), some (.int x2), some (.int x3), some (.int x4)] [] h Q := by
  refine z_iload (pc := 16) dX10_scope_16 rfl ?_
  refine z_aload_n (pc := 18) dX10_scope_18 rfl rfl ?_
  refine q_getR (pc := 19) (i := 2) dX10_scope_19 lk_RX10_20 (lyc rfl) (G 0 1 2 rfl) ?_
  refine q_getI (pc := 22) (v := rI h 2 1) dX10_scope_22 lk_RX10_68 (lyc rfl) rfl ?_
  refine z_icmp_ge (pc := 25) (tgt := 59) dX10_scope_25 (by decide) (fun k3 => ?_) (fun k3 => ?_)
  · replace F := F.1 k3
    refine z_iload_n (pc := 59) dX10_scope_59 rfl rfl ?_
    exact q_retI (pc := 60) dX10_scope_60 rfl F
  · replace F := F.2 k3
    refine z_aload_n (pc := 28) dX10_scope_28 rfl rfl ?_
    refine q_getR (pc := 29) (i := 42) dX10_scope_29 lk_RX10_27 (lyc rfl) (G 0 2 42 rfl) ?_
    refine z_aload_n (pc := 32) dX10_scope_32 rfl rfl ?_
    refine q_getR (pc := 33) (i := 2) dX10_scope_33 lk_RX10_20 (lyc rfl) (G 0 1 2 rfl) ?_
    refine z_iload (pc := 36) dX10_scope_36 rfl ?_
    refine z_iload_n (pc := 38) dX10_scope_38 rfl rfl ?_
    refine z_iload_n (pc := 39) dX10_scope_39 rfl rfl ?_
    refine q_invV (pc := 40) (As := [.ref 2, .int x4, .int x1, .int x2]) (st := []) dX10_scope_40 ok_X2_holds ml_RX10_154 iv_X2_holds pa_X2_holds ⟨Nat.le_of_ble_eq_true rfl, Nat.le_of_ble_eq_true rfl⟩ (lyc rfl) (q_kI F (fun vh1 h1 F => ?_))
    obtain ⟨G1, F⟩ := F
    refine z_if_eq (pc := 43) (tgt := 53) dX10_scope_43 (by decide) (fun k2 => ?_) (fun k2 => ?_)
    · replace F := F.1 k2
      refine z_iinc (pc := 53) (v := x4 + 1) (ls' := [some (.ref 0), some (.int x1), some (.int x2), some (.int x3), some (.int (x4 + 1))]) dX10_scope_53 (by decide) rfl rfl rfl ?_
      refine z_goto (pc := 56) (tgt := 16) dX10_scope_56 (by decide) ?_
      exact F
    · replace F := F.2 k2
      refine z_iload_n (pc := 46) dX10_scope_46 rfl rfl ?_
      refine z_iconst (pc := 47) (v := 1) dX10_scope_47 (by decide) ?_
      refine z_iload (pc := 48) dX10_scope_48 rfl ?_
      refine z_ishl (pc := 50) dX10_scope_50 ?_
      refine z_ior (pc := 51) dX10_scope_51 ?_
      refine z_istore_n (pc := 52) (ls' := [some (.ref 0), some (.int x1), some (.int x2), some (.int (x3 ||| (1 <<< (x4 &&& 31)))), some (.int x4)]) dX10_scope_52 rfl (by decide) rfl ?_
      refine z_iinc (pc := 53) (v := x4 + 1) (ls' := [some (.ref 0), some (.int x1), some (.int x2), some (.int (x3 ||| (1 <<< (x4 &&& 31)))), some (.int (x4 + 1))]) dX10_scope_53 (by decide) rfl rfl rfl ?_
      refine z_goto (pc := 56) (tgt := 16) dX10_scope_56 (by decide) ?_
      exact F
theorem g_X11_scope {x1 : Int32} {x2 : Int32} {h : zHp} {Q : Int32 → zHp → Prop}  (G : zG h) (F : ((okSc x1 x2) → (zcV M_X11_makes [.ref 164, .int 5] h (fun h1 => zG h1 ∧ (zCt (rI h1 165 238) 8 ∧ (Q (mask (cT (h1.1 165)) (Sc (h1.1 165) (h1.1 168) x1 x2)) h1))))) ∧ (¬ (okSc x1 x2) → (Q (-2) h))) : zcI M_X11_scope [.ref 164, .int x1, .int x2] h Q := by
  show zw zNT zNT M_X11_scope 0 [some (.ref 164), some (.int x1), some (.int x2)] [] h _
  refine z_iload_n (pc := 0) dX11_scope_0 rfl rfl ?_
  refine z_iload_n (pc := 1) dX11_scope_1 rfl rfl ?_
  refine q_invS (pc := 2) (As := [.int x1, .int x2]) (st := []) dX11_scope_2 ok_X11_isScope ml_RX11_173 st_X11_isScope pa_X11_isScope ⟨Nat.le_of_ble_eq_true rfl, Nat.le_of_ble_eq_true rfl⟩ (q_pI (s_X11_isScope G) rfl ?_)
  refine z_if_ne (pc := 5) (tgt := 11) dX11_scope_5 (by decide) (fun k3 => ?_) (fun k3 => ?_)
  · replace F := F.1 (zbn.mp k3)
    refine z_aload_n (pc := 11) dX11_scope_11 rfl rfl ?_
    refine z_iconst (pc := 12) (v := 5) dX11_scope_12 (by decide) ?_
    refine q_invV (pc := 13) (As := [.int 5]) (st := []) dX11_scope_13 ok_X11_makes ml_RX11_145 iv_X11_makes pa_X11_makes ⟨Nat.le_of_ble_eq_true rfl, Nat.le_of_ble_eq_true rfl⟩ (lyc rfl) (q_kV F (fun h1 F => ?_))
    obtain ⟨G1, F⟩ := F
    refine z_aload_n (pc := 16) dX11_scope_16 rfl rfl ?_
    refine z_aload_n (pc := 17) dX11_scope_17 rfl rfl ?_
    refine q_getR (pc := 18) (i := 168) dX11_scope_18 lk_RX11_19 (lyc rfl) (G1 164 4 168 rfl) ?_
    refine z_iload_n (pc := 21) dX11_scope_21 rfl rfl ?_
    refine z_iload_n (pc := 22) dX11_scope_22 rfl rfl ?_
    obtain ⟨k2, F⟩ := F
    refine q_invV (pc := 23) (As := [.ref 168, .int x1, .int x2]) (st := []) dX11_scope_23 ok_X11_inScope ml_RX11_106 iv_X11_inScope pa_X11_inScope ⟨Nat.le_of_ble_eq_true rfl, Nat.le_of_ble_eq_true rfl⟩ (lyc rfl) (q_pI (s_X11_inScope G1 (Or.inl rfl) k2) rfl ?_)
    exact q_retI (pc := 26) dX11_scope_26 rfl F
  · replace F := F.2 (zb0.mp k3)
    refine z_bipush (pc := 8) (v := -2) dX11_scope_8 (by decide) ?_
    exact q_retI (pc := 10) dX11_scope_10 rfl F
theorem g_X10_clear  {h : zHp} {Q : Int32 → zHp → Prop}  (G : zG h) (F : zcV M_X8_empty [.ref 2] h (fun h1 => zG h1 ∧ (zcV M_X2_make [.ref 42, .ref 2, .int 5] (wI h1 0 11 0) (fun h2 => zG h2 ∧ (Q (rI h 2 1) h2))))) : zcI M_X10_clear [.ref 0] h Q := by
  show zw zNT zNT M_X10_clear 0 [some (.ref 0), none] [] h _
  refine z_aload_n (pc := 0) dX10_clear_0 rfl rfl ?_
  refine q_getR (pc := 1) (i := 2) dX10_clear_1 lk_RX10_20 (lyc rfl) (G 0 1 2 rfl) ?_
  refine q_getI (pc := 4) (v := rI h 2 1) dX10_clear_4 lk_RX10_68 (lyc rfl) rfl ?_
  refine z_istore_n (pc := 7) (ls' := [some (.ref 0), some (.int (rI h 2 1))]) dX10_clear_7 rfl (by decide) rfl ?_
  refine z_aload_n (pc := 8) dX10_clear_8 rfl rfl ?_
  refine q_getR (pc := 9) (i := 2) dX10_clear_9 lk_RX10_20 (lyc rfl) (G 0 1 2 rfl) ?_
  refine q_invV (pc := 12) (As := []) (st := []) dX10_clear_12 ok_X8_empty ml_RX10_72 iv_X8_empty pa_X8_empty ⟨Nat.le_of_ble_eq_true rfl, Nat.le_of_ble_eq_true rfl⟩ (lyc rfl) (q_kV F (fun h1 F => ?_))
  obtain ⟨G1, F⟩ := F
  refine z_aload_n (pc := 15) dX10_clear_15 rfl rfl ?_
  refine z_iconst (pc := 16) (v := 0) dX10_clear_16 (by decide) ?_
  refine q_putI (pc := 17) dX10_clear_17 lk_RX10_75 (lyc rfl) ?_
  refine z_aload_n (pc := 20) dX10_clear_20 rfl rfl ?_
  refine q_getR (pc := 21) (i := 42) dX10_clear_21 lk_RX10_27 (lyc rfl) (G1 0 2 42 rfl) ?_
  refine z_aload_n (pc := 24) dX10_clear_24 rfl rfl ?_
  refine q_getR (pc := 25) (i := 2) dX10_clear_25 lk_RX10_20 (lyc rfl) (G1 0 1 2 rfl) ?_
  refine z_iconst (pc := 28) (v := 5) dX10_clear_28 (by decide) ?_
  refine q_invV (pc := 29) (As := [.ref 2, .int 5]) (st := []) dX10_clear_29 ok_X2_make ml_RX10_78 iv_X2_make pa_X2_make ⟨Nat.le_of_ble_eq_true rfl, Nat.le_of_ble_eq_true rfl⟩ (lyc rfl) (q_kV F (fun h2 F => ?_))
  obtain ⟨G2, F⟩ := F
  refine z_iload_n (pc := 32) dX10_clear_32 rfl rfl ?_
  exact q_retI (pc := 33) dX10_clear_33 rfl F
theorem g_X11_clear  {h : zHp} {Q : Int32 → zHp → Prop}  (G : zG h) (F : zlI M_X11_clear 20 [some (.ref 164), some (.int (rI h 165 238)), some (.int (rI h 165 245)), some (.int 0)] [] h Q) : zcI M_X11_clear [.ref 164] h Q := by
  show zw zNT zNT M_X11_clear 0 [some (.ref 164), none, none, none] [] h _
  refine z_aload_n (pc := 0) dX11_clear_0 rfl rfl ?_
  refine q_getR (pc := 1) (i := 165) dX11_clear_1 lk_RX11_7 (lyc rfl) (G 164 0 165 rfl) ?_
  refine z_sipush (pc := 4) (v := 238) dX11_clear_4 (by decide) ?_
  refine q_iald (pc := 7) (j := 238) (v := rI h 165 238) dX11_clear_7 (lyc rfl) (zvl (lnc rfl) (by decide)) (by decide) rfl ?_
  refine z_istore_n (pc := 8) (ls' := [some (.ref 164), some (.int (rI h 165 238)), none, none]) dX11_clear_8 rfl (by decide) rfl ?_
  refine z_aload_n (pc := 9) dX11_clear_9 rfl rfl ?_
  refine q_getR (pc := 10) (i := 165) dX11_clear_10 lk_RX11_7 (lyc rfl) (G 164 0 165 rfl) ?_
  refine z_sipush (pc := 13) (v := 245) dX11_clear_13 (by decide) ?_
  refine q_iald (pc := 16) (j := 245) (v := rI h 165 245) dX11_clear_16 (lyc rfl) (zvl (lnc rfl) (by decide)) (by decide) rfl ?_
  refine z_istore_n (pc := 17) (ls' := [some (.ref 164), some (.int (rI h 165 238)), some (.int (rI h 165 245)), none]) dX11_clear_17 rfl (by decide) rfl ?_
  refine z_iconst (pc := 18) (v := 0) dX11_clear_18 (by decide) ?_
  refine z_istore_n (pc := 19) (ls' := [some (.ref 164), some (.int (rI h 165 238)), some (.int (rI h 165 245)), some (.int 0)]) dX11_clear_19 rfl (by decide) rfl ?_
  exact F
theorem g_X11_clear_20 {x1 : Int32} {x2 : Int32} {x3 : Int32} {h : zHp} {Q : Int32 → zHp → Prop}  (G : zG h) (F : (246 ≤ x3 → (Q x1 (wI (wI h 165 245 x2) 164 19 0))) ∧ (¬ (246 ≤ x3) → (vp_in x3 246 ∧ (zlI M_X11_clear 20 [some (.ref 164), some (.int x1), some (.int x2), some (.int (x3 + 1))] [] (wI h 165 ((Int32.toNatClampNeg x3)) 0) Q)))) : zlI M_X11_clear 20 [some (.ref 164), some (.int x1), some (.int x2), some (.int x3)] [] h Q := by
  refine z_iload_n (pc := 20) dX11_clear_20 rfl rfl ?_
  refine z_sipush (pc := 21) (v := 246) dX11_clear_21 (by decide) ?_
  refine z_icmp_ge (pc := 24) (tgt := 40) dX11_clear_24 (by decide) (fun k2 => ?_) (fun k2 => ?_)
  · replace F := F.1 k2
    refine z_aload_n (pc := 40) dX11_clear_40 rfl rfl ?_
    refine q_getR (pc := 41) (i := 165) dX11_clear_41 lk_RX11_7 (lyc rfl) (G 164 0 165 rfl) ?_
    refine z_sipush (pc := 44) (v := 245) dX11_clear_44 (by decide) ?_
    refine z_iload_n (pc := 47) dX11_clear_47 rfl rfl ?_
    refine q_iast (pc := 48) (j := 245) dX11_clear_48 (lyc rfl) (zvl (lnc rfl) (by decide)) (by decide) ?_
    refine z_aload_n (pc := 49) dX11_clear_49 rfl rfl ?_
    refine z_iconst (pc := 50) (v := 0) dX11_clear_50 (by decide) ?_
    refine q_putI (pc := 51) dX11_clear_51 lk_RX11_156 (lyc rfl) ?_
    refine z_iload_n (pc := 54) dX11_clear_54 rfl rfl ?_
    exact q_retI (pc := 55) dX11_clear_55 rfl F
  · replace F := F.2 k2
    refine z_aload_n (pc := 27) dX11_clear_27 rfl rfl ?_
    refine q_getR (pc := 28) (i := 165) dX11_clear_28 lk_RX11_7 (lyc rfl) (G 164 0 165 rfl) ?_
    refine z_iload_n (pc := 31) dX11_clear_31 rfl rfl ?_
    refine z_iconst (pc := 32) (v := 0) dX11_clear_32 (by decide) ?_
    obtain ⟨k1, F⟩ := F
    refine q_iast (pc := 33) (j := (Int32.toNatClampNeg x3)) dX11_clear_33 (lyc rfl) (zvn (lnc rfl) k1) rfl ?_
    refine z_iinc (pc := 34) (v := x3 + 1) (ls' := [some (.ref 164), some (.int x1), some (.int x2), some (.int (x3 + 1))]) dX11_clear_34 (by decide) rfl rfl rfl ?_
    refine z_goto (pc := 37) (tgt := 20) dX11_clear_37 (by decide) ?_
    exact F
theorem rdN {h : zHp} {N : zN} (e : h.1 165 = N) (i : Nat) : rI h 165 i = N i := by show h.1 165 i = _; rw [e]
/-- a thing comes -/
noncomputable def aT (N : zN) (a b c d : Int32) : zN := fun i => if i = 238 then N 238 + 1 else if i = 10 * cT N then a else if i = 10 * cT N + 1 then b else if i = 10 * cT N + 2 then c else if i = 10 * cT N + 3 then d else if i = 10 * cT N + 5 then 1 else if 10 * cT N ≤ i ∧ i < 10 * cT N + 10 then 0 else N i
theorem aT_o {N : zN} {a b c d : Int32} {i : Nat} (h1 : i ≠ 238) (h2 : i < 10 * cT N ∨ 10 * cT N + 10 ≤ i) : aT N a b c d i = N i := by
  unfold aT
  rw [if_neg h1, if_neg (by omega), if_neg (by omega), if_neg (by omega), if_neg (by omega), if_neg (by omega), if_neg (by omega)]
theorem aT_n {N : zN} {a b c d : Int32} (hC : CN N) : aT N a b c d 238 = nI (cT N + 1) ∧ cT (aT N a b c d) = cT N + 1 := by
  have e : aT N a b c d 238 = nI (cT N + 1) := by unfold aT; rw [if_pos rfl, hC.1.1, nI_1]
  refine ⟨e, ?_⟩
  unfold cT at e ⊢
  rw [e, nI_clamp (by have := hC.1.2; unfold cT at this; omega)]
theorem aT_f {N : zN} {a b c d : Int32} (hC : CN N) : aT N a b c d (10 * cT N) = a ∧ aT N a b c d (10 * cT N + 1) = b ∧ aT N a b c d (10 * cT N + 2) = c ∧ aT N a b c d (10 * cT N + 3) = d ∧ aT N a b c d (10 * cT N + 4) = 0 ∧ aT N a b c d (10 * cT N + 5) = 1 ∧ aT N a b c d (10 * cT N + 6) = 0 ∧ aT N a b c d (10 * cT N + 7) = 0 ∧ aT N a b c d (10 * cT N + 8) = 0 ∧ aT N a b c d (10 * cT N + 9) = 0 := by
  have h8 := hC.1.2
  unfold aT
  refine ⟨?_, ?_, ?_, ?_, ?_, ?_, ?_, ?_, ?_, ?_⟩
  · rw [if_neg (by omega), if_pos rfl]
  · rw [if_neg (by omega), if_neg (by omega), if_pos rfl]
  · rw [if_neg (by omega), if_neg (by omega), if_neg (by omega), if_pos rfl]
  · rw [if_neg (by omega), if_neg (by omega), if_neg (by omega), if_neg (by omega), if_pos rfl]
  · rw [if_neg (by omega), if_neg (by omega), if_neg (by omega), if_neg (by omega), if_neg (by omega), if_neg (by omega), if_pos (by omega)]
  · rw [if_neg (by omega), if_neg (by omega), if_neg (by omega), if_neg (by omega), if_neg (by omega), if_pos rfl]
  · rw [if_neg (by omega), if_neg (by omega), if_neg (by omega), if_neg (by omega), if_neg (by omega), if_neg (by omega), if_pos (by omega)]
  · rw [if_neg (by omega), if_neg (by omega), if_neg (by omega), if_neg (by omega), if_neg (by omega), if_neg (by omega), if_pos (by omega)]
  · rw [if_neg (by omega), if_neg (by omega), if_neg (by omega), if_neg (by omega), if_neg (by omega), if_neg (by omega), if_pos (by omega)]
  · rw [if_neg (by omega), if_neg (by omega), if_neg (by omega), if_neg (by omega), if_neg (by omega), if_neg (by omega), if_pos (by omega)]
theorem aT_CQ {N : zN} {a b c d : Int32} (hC : CN N) (hQ : WQ N) (ht : cT N < 8) (ha : a = 0 ∨ a = 1) (hc : iv 0 99 c) (hd : iv 0 99 d) : CN (aT N a b c d) ∧ WQ (aT N a b c d) := by
  have h10 := hC.2.1.2
  have r8 := hC.2.2.1.2
  have v8 := hC.2.2.2.2
  obtain ⟨n1, n2⟩ := aT_n (a := a) (b := b) (c := c) (d := d) hC
  obtain ⟨f0, f1, f2, f3, f4, f5, f6, f7, f8, f9⟩ := aT_f (a := a) (b := b) (c := c) (d := d) hC
  have o9 : aT N a b c d 239 = N 239 := aT_o (by decide) (by omega)
  have o0 : aT N a b c d 240 = N 240 := aT_o (by decide) (by omega)
  have o1 : aT N a b c d 241 = N 241 := aT_o (by decide) (by omega)
  have e2 : cE (aT N a b c d) = cE N := by unfold cE; rw [o9]
  have e3 : cR (aT N a b c d) = cR N := by unfold cR; rw [o0]
  have e4 : cV (aT N a b c d) = cV N := by unfold cV; rw [o1]
  refine ⟨⟨⟨by rw [n1, n2], by omega⟩, by rw [o9, e2]; exact hC.2.1, by rw [o0, e3]; exact hC.2.2.1, by rw [o1, e4]; exact hC.2.2.2⟩, fun t h => ?_, fun t h => ?_, fun t h => ?_, fun t h => ?_⟩
  · rw [n2] at h
    by_cases z : t = cT N
    · subst z
      unfold QT
      rw [f0, f5, f2, f3, f4, f8]
      exact ⟨ha, Or.inr rfl, hc, hd, ⟨by decide, by decide⟩, ⟨by decide, by decide⟩⟩
    · exact QT_eq (hQ.1 t (by omega)) (fun k hk => aT_o (by omega) (by omega))
  · rw [e2] at h; exact QE_eq (hQ.2.1 t h) (fun k hk => aT_o (by omega) (by omega))
  · rw [e3] at h; exact QR_eq (hQ.2.2.1 t h) (fun k hk => aT_o (by omega) (by omega))
  · rw [e4] at h; exact QV_eq (hQ.2.2.2 t h) (fun k hk => aT_o (by omega) (by omega))
theorem s_X8_addThing {N : zN} {a b c d : Int32} {h : zHp} (G : zG h) (hC : CN N) (hP : PW h 2) (hR : RW h 2 N) (ht : cT N < 8) : zcV M_X8_addThing [.ref 2, .int a, .int b, .int c, .int d] h (fun h' => h'.2 = h.2 ∧ (∀ x, (x < 2 ∨ 42 ≤ x) → h'.1 x = h.1 x) ∧ RW h' 2 (aT N a b c d)) := by
  have h10 := hC.2.1.2
  have r8 := hC.2.2.1.2
  have v8 := hC.2.2.2.2
  refine g_X8_addThing (Or.inl rfl) G ?_
  rw [hR.1.1, hC.1.1, nI_clamp (by omega), nI_1]
  refine ⟨fun z => absurd z (nI_ge (b := 8) ht (by omega)), fun _ => ⟨vp_in_nI (by omega) (by omega), rfl, fun x hx => ?_, ?_⟩⟩
  · rw [wI_ne (by omega), wI_ne (by omega), wI_ne (by omega), wI_ne (by omega), wI_ne (by omega), wI_ne (by omega), wI_ne (by omega), wI_ne (by omega), wI_ne (by omega), wI_ne (by omega), wI_ne (by omega)]
  · obtain ⟨n1, n2⟩ := aT_n (a := a) (b := b) (c := c) (d := d) hC
    obtain ⟨f0, f1, f2, f3, f4, f5, f6, f7, f8, f9⟩ := aT_f (a := a) (b := b) (c := c) (d := d) hC
    obtain ⟨⟨a1, a2, a3, a4, a5, a6, a7, a8⟩, bb, dd, ee, gg⟩ := hR
    have o9 : aT N a b c d 239 = N 239 := aT_o (by decide) (by omega)
    have o0 : aT N a b c d 240 = N 240 := aT_o (by decide) (by omega)
    have o1 : aT N a b c d 241 = N 241 := aT_o (by decide) (by omega)
    have e2 : cE (aT N a b c d) = cE N := by unfold cE; rw [o9]
    have e3 : cR (aT N a b c d) = cR N := by unfold cR; rw [o0]
    have e4 : cV (aT N a b c d) = cV N := by unfold cV; rw [o1]
    have rd : ∀ x k, x ≠ 2 + 6 + cT N → (x ≠ 2 ∨ k ≠ 1) → rI (wI (wI (wI (wI (wI (wI (wI (wI (wI (wI (wI h (2 + 6 + cT N) 0 a) (2 + 6 + cT N) 1 b) (2 + 6 + cT N) 2 c) (2 + 6 + cT N) 3 d) (2 + 6 + cT N) 4 0) (2 + 6 + cT N) 5 1) (2 + 6 + cT N) 6 0) (2 + 6 + cT N) 7 0) (2 + 6 + cT N) 8 0) (2 + 6 + cT N) 9 0) 2 1 (nI (cT N + 1))) x k = rI h x k := by
      intro x k h1 h2
      have : ∀ g : zHp, rI (wI g 2 1 (nI (cT N + 1))) x k = rI g x k := fun g => by
        rcases h2 with z | z
        · exact rI_c z
        · exact rI_k z
      rw [this, rI_c h1, rI_c h1, rI_c h1, rI_c h1, rI_c h1, rI_c h1, rI_c h1, rI_c h1, rI_c h1, rI_c h1]
    refine ⟨⟨by rw [rI_s, n1], by rw [rd _ _ (by omega) (by omega), o9]; exact a2, by rw [rd _ _ (by omega) (by omega), o0]; exact a3, by rw [rd _ _ (by omega) (by omega), o1]; exact a4, by rw [rd _ _ (by omega) (by omega), aT_o (by omega) (by omega)]; exact a5, by rw [rd _ _ (by omega) (by omega), aT_o (by omega) (by omega)]; exact a6, by rw [rd _ _ (by omega) (by omega), aT_o (by omega) (by omega)]; exact a7, by rw [rd _ _ (by omega) (by omega), aT_o (by omega) (by omega)]; exact a8⟩, fun t k h1 h2 => ?_, fun t k h1 h2 => ?_, fun t k h1 h2 => ?_, fun t k h1 h2 => ?_⟩
    · rw [n2] at h1
      by_cases z : t = cT N
      · subst z
        rw [rI_c (by omega)]
        rcases (by omega : k = 0 ∨ k = 1 ∨ k = 2 ∨ k = 3 ∨ k = 4 ∨ k = 5 ∨ k = 6 ∨ k = 7 ∨ k = 8 ∨ k = 9) with z | z | z | z | z | z | z | z | z | z <;> subst z
        · rw [rI_k (by decide), rI_k (by decide), rI_k (by decide), rI_k (by decide), rI_k (by decide), rI_k (by decide), rI_k (by decide), rI_k (by decide), rI_k (by decide), rI_s]; exact f0.symm
        · rw [rI_k (by decide), rI_k (by decide), rI_k (by decide), rI_k (by decide), rI_k (by decide), rI_k (by decide), rI_k (by decide), rI_k (by decide), rI_s]; exact f1.symm
        · rw [rI_k (by decide), rI_k (by decide), rI_k (by decide), rI_k (by decide), rI_k (by decide), rI_k (by decide), rI_k (by decide), rI_s]; exact f2.symm
        · rw [rI_k (by decide), rI_k (by decide), rI_k (by decide), rI_k (by decide), rI_k (by decide), rI_k (by decide), rI_s]; exact f3.symm
        · rw [rI_k (by decide), rI_k (by decide), rI_k (by decide), rI_k (by decide), rI_k (by decide), rI_s]; exact f4.symm
        · rw [rI_k (by decide), rI_k (by decide), rI_k (by decide), rI_k (by decide), rI_s]; exact f5.symm
        · rw [rI_k (by decide), rI_k (by decide), rI_k (by decide), rI_s]; exact f6.symm
        · rw [rI_k (by decide), rI_k (by decide), rI_s]; exact f7.symm
        · rw [rI_k (by decide), rI_s]; exact f8.symm
        · rw [rI_s]; exact f9.symm
      · rw [rd _ _ (by omega) (by omega), aT_o (by omega) (by omega)]; exact bb t k (by omega) h2
    · rw [e2] at h1
      have q := hP.1.1 t (by omega)
      change rI _ (rG h (2 + 2) t) k = _
      rw [rd _ _ (by omega) (by omega), aT_o (by omega) (by omega)]; exact dd t k h1 h2
    · rw [e3] at h1
      have q := hP.2.1.1 t (by omega)
      change rI _ (rG h (2 + 3) t) k = _
      rw [rd _ _ (by omega) (by omega), aT_o (by omega) (by omega)]; exact ee t k h1 h2
    · rw [e4] at h1
      have q := hP.2.2.1 t (by omega)
      change rI _ (rG h (2 + 4) t) k = _
      rw [rd _ _ (by omega) (by omega), aT_o (by omega) (by omega)]; exact gg t k h1 h2
theorem s_X11_comes {N : zN} {a b c d : Int32} {h : zHp} (G : zG h) (hC : CN N) (hN : h.1 165 = N) (ht : cT N < 8) : zcV M_X11_comes [.ref 164, .int a, .int b, .int c, .int d] h (fun h' => h' = wA h 165 (aT N a b c d)) := by
  have e0 : (0 : Int32) + 10 * nI (cT N) = nI (10 * cT N) := by
    rw [show (0 : Int32) = nI 0 from rfl, show (10 : Int32) = nI 10 from rfl, pk_mul, nI_add, Nat.zero_add]
  have loop : ∀ (m j : Nat), j + m = 10 → zlV M_X11_comes 18 [some (.ref 164), some (.int a), some (.int b), some (.int c), some (.int d), some (.int (nI (10 * cT N))), some (.int (nI j))] [] (wA h 165 (fun i => if 10 * cT N ≤ i ∧ i < 10 * cT N + j then 0 else N i)) (fun h' => h' = wA h 165 (aT N a b c d)) := by
    intro m
    induction m with
    | zero =>
      intro j hj
      have : j = 10 := by omega
      subst this
      refine g_X11_comes_18 (zG_of rfl G) ⟨fun _ => ?_, fun z => absurd (by decide) z⟩
      rw [show (1 : Int32) = nI 1 from rfl, show (2 : Int32) = nI 2 from rfl, show (3 : Int32) = nI 3 from rfl, show (5 : Int32) = nI 5 from rfl, nI_add, nI_add, nI_add, nI_add, nI_clamp (by omega), nI_clamp (by omega), nI_clamp (by omega), nI_clamp (by omega), nI_clamp (by omega), wA_wI, wA_wI, wA_wI, wA_wI, wA_wI, rI_As, wA_wI]
      refine ⟨vp_in_nI (by omega) (by omega), vp_in_nI (by omega) (by omega), vp_in_nI (by omega) (by omega), vp_in_nI (by omega) (by omega), vp_in_nI (by omega) (by omega), ?_⟩
      congr 1
      funext i
      unfold aT
      by_cases z0 : i = 238
      · subst z0
        rw [pk_us, if_pos rfl, pk_un (by omega), pk_un (by omega), pk_un (by omega), pk_un (by omega), pk_un (by omega), if_neg (by omega)]
        rfl
      · rw [pk_un z0, if_neg z0]
        by_cases z5 : i = 10 * cT N + 5
        · subst z5
          rw [pk_us, if_neg (by omega), if_neg (by omega), if_neg (by omega), if_neg (by omega), if_pos rfl]
          rfl
        · rw [pk_un z5, if_neg z5]
          by_cases z3 : i = 10 * cT N + 3
          · subst z3
            rw [pk_us, if_neg (by omega), if_neg (by omega), if_neg (by omega), if_pos rfl]
          · rw [pk_un z3, if_neg z3]
            by_cases z2 : i = 10 * cT N + 2
            · subst z2
              rw [pk_us, if_neg (by omega), if_neg (by omega), if_pos rfl]
            · rw [pk_un z2, if_neg z2]
              by_cases z1 : i = 10 * cT N + 1
              · subst z1
                rw [pk_us, if_neg (by omega), if_pos rfl]
              · rw [pk_un z1, if_neg z1]
                by_cases z : i = 10 * cT N
                · rw [z, pk_us, if_pos rfl]
                · rw [pk_un z, if_neg z]
    | succ m ih =>
      intro j hj
      refine g_X11_comes_18 (zG_of rfl G) ⟨fun z => absurd z (nI_ge (b := 10) (by omega) (by omega)), fun _ => ?_⟩
      rw [nI_add, nI_clamp (by omega), nI_1, wA_wI]
      refine ⟨vp_in_nI (by omega) (by omega), ?_⟩
      have : upd (fun i => if 10 * cT N ≤ i ∧ i < 10 * cT N + j then 0 else N i) (10 * cT N + j) 0 = fun i => if 10 * cT N ≤ i ∧ i < 10 * cT N + (j + 1) then 0 else N i := by
        funext i
        unfold upd
        dsimp only
        by_cases z : i = 10 * cT N + j
        · rw [if_pos z, if_pos (by omega)]
        · rw [if_neg z]
          by_cases y : 10 * cT N ≤ i ∧ i < 10 * cT N + j
          · rw [if_pos y, if_pos (by omega)]
          · rw [if_neg y, if_neg (by omega)]
      rw [this]
      exact ih (j + 1) (by omega)
  refine g_X11_comes G ?_
  rw [rdN hN, hC.1.1, e0]
  have := loop 10 0 (by omega)
  have e : (fun i => if 10 * cT N ≤ i ∧ i < 10 * cT N + 0 then 0 else N i) = N := by
    funext i
    rw [if_neg (by omega)]
  rw [e, ← hN, wA_id] at this
  rw [← hN]
  exact this

