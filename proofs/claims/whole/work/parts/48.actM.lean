/-! watchers act: the reference -/
theorem g_X11_isNow {x1 : Int32} {x2 : Int32} {h : zHp} {Q : Int32 → zHp → Prop}  (G : zG h) (F : zCt (rI h 165 238) 8 ∧ ((¬ (aliveM h x1) → (vp_in ((0 + (10 * x1)) + (6 + x2)) 246 ∧ (Q (rI h 165 ((Int32.toNatClampNeg (((0 + (10 * x1)) + (6 + x2)))))) h))) ∧ ((aliveM h x1) → (vp_in ((4 * x1) + x2) 32 ∧ (Q (rI h 168 ((Int32.toNatClampNeg ((4 * x1) + x2)))) h))))) : zcI M_X11_isNow [.ref 164, .int x1, .int x2] h Q := by
  show zw zNT zNT M_X11_isNow 0 [some (.ref 164), some (.int x1), some (.int x2)] [] h _
  refine z_aload_n (pc := 0) dX11_isNow_0 rfl rfl ?_
  refine z_iload_n (pc := 1) dX11_isNow_1 rfl rfl ?_
  obtain ⟨k1, F⟩ := F
  refine q_invV (pc := 2) (As := [.int x1]) (st := []) dX11_isNow_2 ok_X11_isAlive ml_RX11_100 iv_X11_isAlive pa_X11_isAlive ⟨Nat.le_of_ble_eq_true rfl, Nat.le_of_ble_eq_true rfl⟩ (lyc rfl) (q_pI (s_X11_isAlive G k1) rfl ?_)
  refine z_if_eq (pc := 5) (tgt := 21) dX11_isNow_5 (by decide) (fun k4 => ?_) (fun k4 => ?_)
  · replace F := F.1 (zb0.mp k4)
    refine z_aload_n (pc := 21) dX11_isNow_21 rfl rfl ?_
    refine z_iload_n (pc := 22) dX11_isNow_22 rfl rfl ?_
    refine z_bipush (pc := 23) (v := 6) dX11_isNow_23 (by decide) ?_
    refine z_iload_n (pc := 25) dX11_isNow_25 rfl rfl ?_
    refine z_iadd (pc := 26) dX11_isNow_26 ?_
    obtain ⟨k2, F⟩ := F
    refine q_invV (pc := 27) (As := [.int x1, .int (6 + x2)]) (st := []) dX11_isNow_27 ok_X11_its ml_RX11_92 iv_X11_its pa_X11_its ⟨Nat.le_of_ble_eq_true rfl, Nat.le_of_ble_eq_true rfl⟩ (lyc rfl) (q_pI (s_X11_its G k2) rfl ?_)
    exact q_retI (pc := 30) dX11_isNow_30 rfl F
  · replace F := F.2 (zbn.mp k4)
    refine z_aload_n (pc := 8) dX11_isNow_8 rfl rfl ?_
    refine q_getR (pc := 9) (i := 168) dX11_isNow_9 lk_RX11_19 (lyc rfl) (G 164 4 168 rfl) ?_
    refine z_iconst (pc := 12) (v := 4) dX11_isNow_12 (by decide) ?_
    refine z_iload_n (pc := 13) dX11_isNow_13 rfl rfl ?_
    refine z_imul (pc := 14) dX11_isNow_14 ?_
    refine z_iload_n (pc := 15) dX11_isNow_15 rfl rfl ?_
    refine z_iadd (pc := 16) dX11_isNow_16 ?_
    obtain ⟨k3, F⟩ := F
    refine q_iald (pc := 17) (j := (Int32.toNatClampNeg ((4 * x1) + x2))) (v := rI h 168 ((Int32.toNatClampNeg ((4 * x1) + x2)))) dX11_isNow_17 (lyc rfl) (zvn (lnc rfl) k3) rfl rfl ?_
    refine z_goto (pc := 18) (tgt := 30) dX11_isNow_18 (by decide) ?_
    exact q_retI (pc := 30) dX11_isNow_30 rfl F
theorem g_X11_copies {c0 : Nat} {c1 : Nat} {h : zHp} {Q : zHp → Prop} (hc0 : zNw c0) (hc1 : zNw c1) (G : zG h) (F : zlV M_X11_copies 2 [some (.ref c0), some (.ref c1), some (.int 0)] [] h Q) : zcV M_X11_copies [.ref c0, .ref c1] h Q := by
  show zw zNT zNT M_X11_copies 0 [some (.ref c0), some (.ref c1), none] [] h _
  refine z_iconst (pc := 0) (v := 0) dX11_copies_0 (by decide) ?_
  refine z_istore_n (pc := 1) (ls' := [some (.ref c0), some (.ref c1), some (.int 0)]) dX11_copies_1 rfl (by decide) rfl ?_
  exact F
theorem g_X11_copies_2 {c0 : Nat} {c1 : Nat} {x2 : Int32} {h : zHp} {Q : zHp → Prop} (hc0 : zNw c0) (hc1 : zNw c1) (G : zG h) (F : (246 ≤ x2 → (Q h)) ∧ (¬ (246 ≤ x2) → (vp_in x2 246 ∧ (zlV M_X11_copies 2 [some (.ref c0), some (.ref c1), some (.int (x2 + 1))] [] (wI h c1 ((Int32.toNatClampNeg x2)) (rI h c0 ((Int32.toNatClampNeg x2)))) Q)))) : zlV M_X11_copies 2 [some (.ref c0), some (.ref c1), some (.int x2)] [] h Q := by
  refine z_iload_n (pc := 2) dX11_copies_2 rfl rfl ?_
  refine z_sipush (pc := 3) (v := 246) dX11_copies_3 (by decide) ?_
  refine z_icmp_ge (pc := 6) (tgt := 21) dX11_copies_6 (by decide) (fun k2 => ?_) (fun k2 => ?_)
  · replace F := F.1 k2
    exact q_retV (pc := 21) dX11_copies_21 rfl F
  · replace F := F.2 k2
    refine z_aload_n (pc := 9) dX11_copies_9 rfl rfl ?_
    refine z_iload_n (pc := 10) dX11_copies_10 rfl rfl ?_
    refine z_aload_n (pc := 11) dX11_copies_11 rfl rfl ?_
    refine z_iload_n (pc := 12) dX11_copies_12 rfl rfl ?_
    obtain ⟨k1, F⟩ := F
    refine q_iald (pc := 13) (j := (Int32.toNatClampNeg x2)) (v := rI h c0 ((Int32.toNatClampNeg x2))) dX11_copies_13 (lyNw0 hc0) (zvn (lnNw0 hc0) k1) rfl rfl ?_
    refine q_iast (pc := 14) (j := (Int32.toNatClampNeg x2)) dX11_copies_14 (lyNw0 hc1) (zvn (lnNw0 hc1) k1) rfl ?_
    refine z_iinc (pc := 15) (v := x2 + 1) (ls' := [some (.ref c0), some (.ref c1), some (.int (x2 + 1))]) dX11_copies_15 (by decide) rfl rfl rfl ?_
    refine z_goto (pc := 18) (tgt := 2) dX11_copies_18 (by decide) ?_
    exact F
theorem g_X11_acts {x1 : Int32} {x2 : Int32} {h : zHp} {Q : zHp → Prop}  (G : zG h) (F : vp_in ((182 + (7 * x1)) + 3) 246 ∧ ((¬ rI h 165 ((Int32.toNatClampNeg (((182 + (7 * x1)) + 3)))) = -1 → (zlV M_X11_acts 20 [some (.ref 164), some (.int x1), some (.int x2), none, none, none] [.int (rI h 165 ((Int32.toNatClampNeg (((182 + (7 * x1)) + 3)))))] h Q)) ∧ (rI h 165 ((Int32.toNatClampNeg (((182 + (7 * x1)) + 3)))) = -1 → (zlV M_X11_acts 20 [some (.ref 164), some (.int x1), some (.int x2), none, none, none] [.int x2] h Q)))) : zcV M_X11_acts [.ref 164, .int x1, .int x2] h Q := by
  show zw zNT zNT M_X11_acts 0 [some (.ref 164), some (.int x1), some (.int x2), none, none, none] [] h _
  refine z_aload_n (pc := 0) dX11_acts_0 rfl rfl ?_
  refine z_iload_n (pc := 1) dX11_acts_1 rfl rfl ?_
  refine z_iconst (pc := 2) (v := 3) dX11_acts_2 (by decide) ?_
  obtain ⟨k1, F⟩ := F
  refine q_invV (pc := 3) (As := [.int x1, .int 3]) (st := []) dX11_acts_3 ok_X11_watcher ml_RX11_139 iv_X11_watcher pa_X11_watcher ⟨Nat.le_of_ble_eq_true rfl, Nat.le_of_ble_eq_true rfl⟩ (lyc rfl) (q_pI (s_X11_watcher G k1) rfl ?_)
  refine z_iconst (pc := 6) (v := -1) dX11_acts_6 (by decide) ?_
  refine z_icmp_ne (pc := 7) (tgt := 14) dX11_acts_7 (by decide) (fun k2 => ?_) (fun k2 => ?_)
  · replace F := F.1 k2
    refine z_aload_n (pc := 14) dX11_acts_14 rfl rfl ?_
    refine z_iload_n (pc := 15) dX11_acts_15 rfl rfl ?_
    refine z_iconst (pc := 16) (v := 3) dX11_acts_16 (by decide) ?_
    refine q_invV (pc := 17) (As := [.int x1, .int 3]) (st := []) dX11_acts_17 ok_X11_watcher ml_RX11_139 iv_X11_watcher pa_X11_watcher ⟨Nat.le_of_ble_eq_true rfl, Nat.le_of_ble_eq_true rfl⟩ (lyc rfl) (q_pI (s_X11_watcher G k1) rfl ?_)
    exact F
  · replace F := F.2 k2
    refine z_iload_n (pc := 10) dX11_acts_10 rfl rfl ?_
    refine z_goto (pc := 11) (tgt := 20) dX11_acts_11 (by decide) ?_
    exact F
theorem g_X11_acts_20 {x1 : Int32} {x2 : Int32} {xs0 : Int32} {h : zHp} {Q : zHp → Prop}  (G : zG h) (F : vp_in ((182 + (7 * x1)) + 4) 246 ∧ ((¬ rI h 165 ((Int32.toNatClampNeg (((182 + (7 * x1)) + 4)))) = 0 → (zlV M_X11_acts 52 [some (.ref 164), some (.int x1), some (.int x2), some (.int xs0), some (.int (rI h 165 ((Int32.toNatClampNeg (((182 + (7 * x1)) + 4)))))), none] [] h Q)) ∧ (rI h 165 ((Int32.toNatClampNeg (((182 + (7 * x1)) + 4)))) = 0 → ((x2 = -1 → (zlV M_X11_acts 52 [some (.ref 164), some (.int x1), some (.int x2), some (.int xs0), some (.int (rI h 165 ((Int32.toNatClampNeg (((182 + (7 * x1)) + 4)))))), none] [] h Q)) ∧ (¬ (x2 = -1) → (zcV M_X11_makes [.ref 164, .int 5] h (fun h1 => zG h1 ∧ (zcI M_X11_isNow [.ref 164, .int x2, .int 2] h1 (fun vh2 h2 => zG h2 ∧ (zlV M_X11_acts 52 [some (.ref 164), some (.int x1), some (.int x2), some (.int xs0), some (.int vh2), none] [] h2 Q)))))))))) : zlV M_X11_acts 20 [some (.ref 164), some (.int x1), some (.int x2), none, none, none] [.int xs0] h Q := by
  refine z_istore_n (pc := 20) (ls' := [some (.ref 164), some (.int x1), some (.int x2), some (.int xs0), none, none]) dX11_acts_20 rfl (by decide) rfl ?_
  refine z_aload_n (pc := 21) dX11_acts_21 rfl rfl ?_
  refine z_iload_n (pc := 22) dX11_acts_22 rfl rfl ?_
  refine z_iconst (pc := 23) (v := 4) dX11_acts_23 (by decide) ?_
  obtain ⟨k1, F⟩ := F
  refine q_invV (pc := 24) (As := [.int x1, .int 4]) (st := []) dX11_acts_24 ok_X11_watcher ml_RX11_139 iv_X11_watcher pa_X11_watcher ⟨Nat.le_of_ble_eq_true rfl, Nat.le_of_ble_eq_true rfl⟩ (lyc rfl) (q_pI (s_X11_watcher G k1) rfl ?_)
  refine z_istore (pc := 27) (ls' := [some (.ref 164), some (.int x1), some (.int x2), some (.int xs0), some (.int (rI h 165 ((Int32.toNatClampNeg (((182 + (7 * x1)) + 4)))))), none]) dX11_acts_27 (by decide) rfl ?_
  refine z_iload (pc := 29) dX11_acts_29 rfl ?_
  refine z_if_ne (pc := 31) (tgt := 52) dX11_acts_31 (by decide) (fun k5 => ?_) (fun k5 => ?_)
  · replace F := F.1 k5
    exact F
  · replace F := F.2 k5
    refine z_iload_n (pc := 34) dX11_acts_34 rfl rfl ?_
    refine z_iconst (pc := 35) (v := -1) dX11_acts_35 (by decide) ?_
    refine z_icmp_eq (pc := 36) (tgt := 52) dX11_acts_36 (by decide) (fun k4 => ?_) (fun k4 => ?_)
    · replace F := F.1 k4
      exact F
    · replace F := F.2 k4
      refine z_aload_n (pc := 39) dX11_acts_39 rfl rfl ?_
      refine z_iconst (pc := 40) (v := 5) dX11_acts_40 (by decide) ?_
      refine q_invV (pc := 41) (As := [.int 5]) (st := []) dX11_acts_41 ok_X11_makes ml_RX11_145 iv_X11_makes pa_X11_makes ⟨Nat.le_of_ble_eq_true rfl, Nat.le_of_ble_eq_true rfl⟩ (lyc rfl) (q_kV F (fun h1 F => ?_))
      obtain ⟨G1, F⟩ := F
      refine z_aload_n (pc := 44) dX11_acts_44 rfl rfl ?_
      refine z_iload_n (pc := 45) dX11_acts_45 rfl rfl ?_
      refine z_iconst (pc := 46) (v := 2) dX11_acts_46 (by decide) ?_
      refine q_invV (pc := 47) (As := [.int x2, .int 2]) (st := []) dX11_acts_47 ok_X11_isNow ml_RX11_170 iv_X11_isNow pa_X11_isNow ⟨Nat.le_of_ble_eq_true rfl, Nat.le_of_ble_eq_true rfl⟩ (lyc rfl) (q_kI F (fun vh2 h2 F => ?_))
      obtain ⟨G2, F⟩ := F
      refine z_istore (pc := 50) (ls' := [some (.ref 164), some (.int x1), some (.int x2), some (.int xs0), some (.int vh2), none]) dX11_acts_50 (by decide) rfl ?_
      exact F
theorem g_X11_acts_52 {x1 : Int32} {x2 : Int32} {x3 : Int32} {x4 : Int32} {h : zHp} {Q : zHp → Prop}  (G : zG h) (F : (x4 ≤ 0 → (Q h)) ∧ (¬ (x4 ≤ 0) → (zCt (rI h 165 238) 8 ∧ (((aliveM h x3) → (vp_in ((182 + (7 * x1)) + 2) 246 ∧ ((rI h 165 ((Int32.toNatClampNeg (((182 + (7 * x1)) + 2)))) = 0 → (zcV M_X11_hurts [.ref 164, .int x3, .int x4] h (fun h1 => zG h1 ∧ (Q h1)))) ∧ (¬ rI h 165 ((Int32.toNatClampNeg (((182 + (7 * x1)) + 2)))) = 0 → ((rI h 165 ((Int32.toNatClampNeg (((182 + (7 * x1)) + 2)))) = 1 → (zcV M_X11_wounds [.ref 164, .int x3, .int (-x4)] h (fun h2 => zG h2 ∧ (Q h2)))) ∧ (¬ rI h 165 ((Int32.toNatClampNeg (((182 + (7 * x1)) + 2)))) = 1 → (zlV M_X11_acts 124 [some (.ref 164), some (.int x1), some (.int x2), some (.int x3), some (.int x4), some (.int 2)] [] h Q))))))) ∧ (¬ (aliveM h x3) → (Q h)))))) : zlV M_X11_acts 52 [some (.ref 164), some (.int x1), some (.int x2), some (.int x3), some (.int x4), none] [] h Q := by
  refine z_iload (pc := 52) dX11_acts_52 rfl ?_
  refine z_if_le (pc := 54) (tgt := 65) dX11_acts_54 (by decide) (fun k8 => ?_) (fun k8 => ?_)
  · replace F := F.1 k8
    exact q_retV (pc := 65) dX11_acts_65 rfl F
  · replace F := F.2 k8
    refine z_aload_n (pc := 57) dX11_acts_57 rfl rfl ?_
    refine z_iload_n (pc := 58) dX11_acts_58 rfl rfl ?_
    obtain ⟨k1, F⟩ := F
    refine q_invV (pc := 59) (As := [.int x3]) (st := []) dX11_acts_59 ok_X11_isAlive ml_RX11_100 iv_X11_isAlive pa_X11_isAlive ⟨Nat.le_of_ble_eq_true rfl, Nat.le_of_ble_eq_true rfl⟩ (lyc rfl) (q_pI (s_X11_isAlive G k1) rfl ?_)
    refine z_if_ne (pc := 62) (tgt := 66) dX11_acts_62 (by decide) (fun k7 => ?_) (fun k7 => ?_)
    · replace F := F.1 (zbn.mp k7)
      refine z_aload_n (pc := 66) dX11_acts_66 rfl rfl ?_
      refine z_iload_n (pc := 67) dX11_acts_67 rfl rfl ?_
      refine z_iconst (pc := 68) (v := 2) dX11_acts_68 (by decide) ?_
      obtain ⟨k2, F⟩ := F
      refine q_invV (pc := 69) (As := [.int x1, .int 2]) (st := []) dX11_acts_69 ok_X11_watcher ml_RX11_139 iv_X11_watcher pa_X11_watcher ⟨Nat.le_of_ble_eq_true rfl, Nat.le_of_ble_eq_true rfl⟩ (lyc rfl) (q_pI (s_X11_watcher G k2) rfl ?_)
      by_cases k3 : rI h 165 ((Int32.toNatClampNeg (((182 + (7 * x1)) + 2)))) = 0
      · replace F := F.1 k3
        refine z_lookup (pc := 72) (x := rI h 165 ((Int32.toNatClampNeg (((182 + (7 * x1)) + 2))))) (tgt := 100) (off := 28) dX11_acts_72 (by decide) (by rw [k3]; decide) (by decide) ?_
        refine z_aload_n (pc := 100) dX11_acts_100 rfl rfl ?_
        refine z_iload_n (pc := 101) dX11_acts_101 rfl rfl ?_
        refine z_iload (pc := 102) dX11_acts_102 rfl ?_
        refine q_invV (pc := 104) (As := [.int x3, .int x4]) (st := []) dX11_acts_104 ok_X11_hurts ml_RX11_224 iv_X11_hurts pa_X11_hurts ⟨Nat.le_of_ble_eq_true rfl, Nat.le_of_ble_eq_true rfl⟩ (lyc rfl) (q_kV F (fun h1 F => ?_))
        obtain ⟨G1, F⟩ := F
        refine z_goto (pc := 107) (tgt := 180) dX11_acts_107 (by decide) ?_
        exact q_retV (pc := 180) dX11_acts_180 rfl F
      · replace F := F.2 k3
        by_cases k5 : rI h 165 ((Int32.toNatClampNeg (((182 + (7 * x1)) + 2)))) = 1
        · replace F := F.1 k5
          refine z_lookup (pc := 72) (x := rI h 165 ((Int32.toNatClampNeg (((182 + (7 * x1)) + 2))))) (tgt := 110) (off := 38) dX11_acts_72 (by decide) (by rw [k5]; decide) (by decide) ?_
          refine z_aload_n (pc := 110) dX11_acts_110 rfl rfl ?_
          refine z_iload_n (pc := 111) dX11_acts_111 rfl rfl ?_
          refine z_iload (pc := 112) dX11_acts_112 rfl ?_
          refine z_ineg (pc := 114) dX11_acts_114 ?_
          refine q_invV (pc := 115) (As := [.int x3, .int (-x4)]) (st := []) dX11_acts_115 ok_X11_wounds ml_RX11_221 iv_X11_wounds pa_X11_wounds ⟨Nat.le_of_ble_eq_true rfl, Nat.le_of_ble_eq_true rfl⟩ (lyc rfl) (q_kV F (fun h2 F => ?_))
          obtain ⟨G2, F⟩ := F
          refine z_goto (pc := 118) (tgt := 180) dX11_acts_118 (by decide) ?_
          exact q_retV (pc := 180) dX11_acts_180 rfl F
        · replace F := F.2 k5
          refine z_lookup (pc := 72) (tgt := 121) (off := 49) dX11_acts_72 (by decide) (by simp [Op.lookupswitch.offset, (q_sw (0) k3 (by decide)).symm, (q_sw (1) k5 (by decide)).symm]) (by decide) ?_
          refine z_iconst (pc := 121) (v := 2) dX11_acts_121 (by decide) ?_
          refine z_istore (pc := 122) (ls' := [some (.ref 164), some (.int x1), some (.int x2), some (.int x3), some (.int x4), some (.int 2)]) dX11_acts_122 (by decide) rfl ?_
          exact F
    · replace F := F.2 (zb0.mp k7)
      exact q_retV (pc := 65) dX11_acts_65 rfl F
theorem g_X11_acts_124 {x1 : Int32} {x2 : Int32} {x3 : Int32} {x4 : Int32} {x5 : Int32} {h : zHp} {Q : zHp → Prop}  (G : zG h) (F : (4 ≤ x5 → (Q h)) ∧ (¬ (4 ≤ x5) → (vp_in ((0 + (10 * x3)) + x5) 246 ∧ (((rI h 165 ((Int32.toNatClampNeg (((0 + (10 * x3)) + x5))))) + x4 ≤ 99 → (vp_in ((0 + (10 * x3)) + x5) 246 ∧ (zlV M_X11_acts 124 [some (.ref 164), some (.int x1), some (.int x2), some (.int x3), some (.int x4), some (.int (x5 + 1))] [] (wI h 165 ((Int32.toNatClampNeg ((0 + (10 * x3)) + x5))) ((rI h 165 ((Int32.toNatClampNeg (((0 + (10 * x3)) + x5))))) + x4)) Q))) ∧ (¬ ((rI h 165 ((Int32.toNatClampNeg (((0 + (10 * x3)) + x5))))) + x4 ≤ 99) → (vp_in ((0 + (10 * x3)) + x5) 246 ∧ (zlV M_X11_acts 124 [some (.ref 164), some (.int x1), some (.int x2), some (.int x3), some (.int x4), some (.int (x5 + 1))] [] (wI h 165 ((Int32.toNatClampNeg ((0 + (10 * x3)) + x5))) 99) Q))))))) : zlV M_X11_acts 124 [some (.ref 164), some (.int x1), some (.int x2), some (.int x3), some (.int x4), some (.int x5)] [] h Q := by
  refine z_iload (pc := 124) dX11_acts_124 rfl ?_
  refine z_iconst (pc := 126) (v := 4) dX11_acts_126 (by decide) ?_
  refine z_icmp_ge (pc := 127) (tgt := 180) dX11_acts_127 (by decide) (fun k5 => ?_) (fun k5 => ?_)
  · replace F := F.1 k5
    exact q_retV (pc := 180) dX11_acts_180 rfl F
  · replace F := F.2 k5
    refine z_aload_n (pc := 130) dX11_acts_130 rfl rfl ?_
    refine q_getR (pc := 131) (i := 165) dX11_acts_131 lk_RX11_7 (lyc rfl) (G 164 0 165 rfl) ?_
    refine z_iconst (pc := 134) (v := 0) dX11_acts_134 (by decide) ?_
    refine z_bipush (pc := 135) (v := 10) dX11_acts_135 (by decide) ?_
    refine z_iload_n (pc := 137) dX11_acts_137 rfl rfl ?_
    refine z_imul (pc := 138) dX11_acts_138 ?_
    refine z_iadd (pc := 139) dX11_acts_139 ?_
    refine z_iload (pc := 140) dX11_acts_140 rfl ?_
    refine z_iadd (pc := 142) dX11_acts_142 ?_
    refine z_aload_n (pc := 143) dX11_acts_143 rfl rfl ?_
    refine z_iload_n (pc := 144) dX11_acts_144 rfl rfl ?_
    refine z_iload (pc := 145) dX11_acts_145 rfl ?_
    obtain ⟨k1, F⟩ := F
    refine q_invV (pc := 147) (As := [.int x3, .int x5]) (st := [.int ((0 + (10 * x3)) + x5), .ref 165]) dX11_acts_147 ok_X11_its ml_RX11_92 iv_X11_its pa_X11_its ⟨Nat.le_of_ble_eq_true rfl, Nat.le_of_ble_eq_true rfl⟩ (lyc rfl) (q_pI (s_X11_its G k1) rfl ?_)
    refine z_iload (pc := 150) dX11_acts_150 rfl ?_
    refine z_iadd (pc := 152) dX11_acts_152 ?_
    refine z_bipush (pc := 153) (v := 99) dX11_acts_153 (by decide) ?_
    refine z_icmp_le (pc := 155) (tgt := 163) dX11_acts_155 (by decide) (fun k4 => ?_) (fun k4 => ?_)
    · replace F := F.1 k4
      refine z_aload_n (pc := 163) dX11_acts_163 rfl rfl ?_
      refine z_iload_n (pc := 164) dX11_acts_164 rfl rfl ?_
      refine z_iload (pc := 165) dX11_acts_165 rfl ?_
      refine q_invV (pc := 167) (As := [.int x3, .int x5]) (st := [.int ((0 + (10 * x3)) + x5), .ref 165]) dX11_acts_167 ok_X11_its ml_RX11_92 iv_X11_its pa_X11_its ⟨Nat.le_of_ble_eq_true rfl, Nat.le_of_ble_eq_true rfl⟩ (lyc rfl) (q_pI (s_X11_its G k1) rfl ?_)
      refine z_iload (pc := 170) dX11_acts_170 rfl ?_
      refine z_iadd (pc := 172) dX11_acts_172 ?_
      obtain ⟨k2, F⟩ := F
      refine q_iast (pc := 173) (j := (Int32.toNatClampNeg ((0 + (10 * x3)) + x5))) dX11_acts_173 (lyc rfl) (zvn (lnc rfl) k2) rfl ?_
      refine z_iinc (pc := 174) (v := x5 + 1) (ls' := [some (.ref 164), some (.int x1), some (.int x2), some (.int x3), some (.int x4), some (.int (x5 + 1))]) dX11_acts_174 (by decide) rfl rfl rfl ?_
      refine z_goto (pc := 177) (tgt := 124) dX11_acts_177 (by decide) ?_
      exact F
    · replace F := F.2 k4
      refine z_bipush (pc := 158) (v := 99) dX11_acts_158 (by decide) ?_
      refine z_goto (pc := 160) (tgt := 173) dX11_acts_160 (by decide) ?_
      obtain ⟨k3, F⟩ := F
      refine q_iast (pc := 173) (j := (Int32.toNatClampNeg ((0 + (10 * x3)) + x5))) dX11_acts_173 (lyc rfl) (zvn (lnc rfl) k3) rfl ?_
      refine z_iinc (pc := 174) (v := x5 + 1) (ls' := [some (.ref 164), some (.int x1), some (.int x2), some (.int x3), some (.int x4), some (.int (x5 + 1))]) dX11_acts_174 (by decide) rfl rfl rfl ?_
      refine z_goto (pc := 177) (tgt := 124) dX11_acts_177 (by decide) ?_
      exact F
theorem g_X11_goesThrough  {h : zHp} {Q : Int32 → zHp → Prop}  (G : zG h) (F : (rI h 164 10 ≤ 0 → (Q (rI h 164 16) h)) ∧ (¬ (rI h 164 10 ≤ 0) → ((¬ rI h 164 16 = 40 → (vp_in (2 * ((rI h 164 10) - 1)) 1024 ∧ (vp_in (rI h 164 16) 41 ∧ (vp_in ((2 * ((rI h 164 10) - 1)) + 1) 1024 ∧ (zcV M_X11_acts [.ref 164, .int (rI h 171 ((Int32.toNatClampNeg (2 * ((rI h 164 10) - 1))))), .int (rI h 171 ((Int32.toNatClampNeg ((2 * ((rI h 164 10) - 1)) + 1))))] (wI (wI (wI h 164 10 ((rI h 164 10) - 1)) 172 ((Int32.toNatClampNeg (rI h 164 16))) (rI h 171 ((Int32.toNatClampNeg (2 * ((rI h 164 10) - 1)))))) 164 16 ((rI h 164 16) + 1)) (fun h1 => zG h1 ∧ (zcV M_X11_rounds [.ref 164] h1 (fun h2 => zG h2 ∧ (zlI M_X11_goesThrough 0 [some (.ref 164), none] [] h2 Q))))))))) ∧ (rI h 164 16 = 40 → (zcV M_X11_copies [.ref 167, .ref 165] h (fun h3 => zG h3 ∧ (zlI M_X11_goesThrough 37 [some (.ref 164), some (.int 0)] [] (wI h3 164 19 (rI h3 164 16)) Q))))))) : zcI M_X11_goesThrough [.ref 164] h Q := by
  show zw zNT zNT M_X11_goesThrough 0 [some (.ref 164), none] [] h _
  refine z_aload_n (pc := 0) dX11_goesThrough_0 rfl rfl ?_
  refine q_getI (pc := 1) (v := rI h 164 10) dX11_goesThrough_1 lk_RX11_142 (lyc rfl) rfl ?_
  refine z_if_le (pc := 4) (tgt := 141) dX11_goesThrough_4 (by decide) (fun k8 => ?_) (fun k8 => ?_)
  · replace F := F.1 k8
    refine z_aload_n (pc := 141) dX11_goesThrough_141 rfl rfl ?_
    refine q_getI (pc := 142) (v := rI h 164 16) dX11_goesThrough_142 lk_RX11_227 (lyc rfl) rfl ?_
    exact q_retI (pc := 145) dX11_goesThrough_145 rfl F
  · replace F := F.2 k8
    refine z_aload_n (pc := 7) dX11_goesThrough_7 rfl rfl ?_
    refine q_getI (pc := 8) (v := rI h 164 16) dX11_goesThrough_8 lk_RX11_227 (lyc rfl) rfl ?_
    refine z_bipush (pc := 11) (v := 40) dX11_goesThrough_11 (by decide) ?_
    refine z_icmp_ne (pc := 13) (tgt := 66) dX11_goesThrough_13 (by decide) (fun k7 => ?_) (fun k7 => ?_)
    · replace F := F.1 k7
      refine z_aload_n (pc := 66) dX11_goesThrough_66 rfl rfl ?_
      refine z_dup (pc := 67) dX11_goesThrough_67 rfl ?_
      refine q_getI (pc := 68) (v := rI h 164 10) dX11_goesThrough_68 lk_RX11_142 (lyc rfl) rfl ?_
      refine z_iconst (pc := 71) (v := 1) dX11_goesThrough_71 (by decide) ?_
      refine z_isub (pc := 72) dX11_goesThrough_72 ?_
      refine q_putI (pc := 73) dX11_goesThrough_73 lk_RX11_142 (lyc rfl) ?_
      refine z_aload_n (pc := 76) dX11_goesThrough_76 rfl rfl ?_
      refine q_getR (pc := 77) (i := 172) dX11_goesThrough_77 lk_RX11_31 (lyc rfl) (G 164 17 172 rfl) ?_
      refine z_aload_n (pc := 80) dX11_goesThrough_80 rfl rfl ?_
      refine q_getI (pc := 81) (v := rI h 164 16) dX11_goesThrough_81 lk_RX11_227 (lyc rfl) (rI_k (by decide)) ?_
      refine z_aload_n (pc := 84) dX11_goesThrough_84 rfl rfl ?_
      refine q_getR (pc := 85) (i := 171) dX11_goesThrough_85 lk_RX11_28 (lyc rfl) (G 164 9 171 rfl) ?_
      refine z_iconst (pc := 88) (v := 2) dX11_goesThrough_88 (by decide) ?_
      refine z_aload_n (pc := 89) dX11_goesThrough_89 rfl rfl ?_
      refine q_getI (pc := 90) (v := (rI h 164 10) - 1) dX11_goesThrough_90 lk_RX11_142 (lyc rfl) rI_s ?_
      refine z_imul (pc := 93) dX11_goesThrough_93 ?_
      obtain ⟨k1, F⟩ := F
      refine q_iald (pc := 94) (j := (Int32.toNatClampNeg (2 * ((rI h 164 10) - 1)))) (v := rI h 171 ((Int32.toNatClampNeg (2 * ((rI h 164 10) - 1))))) dX11_goesThrough_94 (lyc rfl) (zvn (lnc rfl) k1) rfl (rI_c (by decide)) ?_
      obtain ⟨k2, F⟩ := F
      refine q_iast (pc := 95) (j := (Int32.toNatClampNeg (rI h 164 16))) dX11_goesThrough_95 (lyc rfl) (zvn (lnc rfl) k2) rfl ?_
      refine z_aload_n (pc := 96) dX11_goesThrough_96 rfl rfl ?_
      refine z_dup (pc := 97) dX11_goesThrough_97 rfl ?_
      refine q_getI (pc := 98) (v := rI h 164 16) dX11_goesThrough_98 lk_RX11_227 (lyc rfl) ((rI_c (by decide)).trans (rI_k (by decide))) ?_
      refine z_iconst (pc := 101) (v := 1) dX11_goesThrough_101 (by decide) ?_
      refine z_iadd (pc := 102) dX11_goesThrough_102 ?_
      refine q_putI (pc := 103) dX11_goesThrough_103 lk_RX11_227 (lyc rfl) ?_
      refine z_aload_n (pc := 106) dX11_goesThrough_106 rfl rfl ?_
      refine z_aload_n (pc := 107) dX11_goesThrough_107 rfl rfl ?_
      refine q_getR (pc := 108) (i := 171) dX11_goesThrough_108 lk_RX11_28 (lyc rfl) (G 164 9 171 rfl) ?_
      refine z_iconst (pc := 111) (v := 2) dX11_goesThrough_111 (by decide) ?_
      refine z_aload_n (pc := 112) dX11_goesThrough_112 rfl rfl ?_
      refine q_getI (pc := 113) (v := (rI h 164 10) - 1) dX11_goesThrough_113 lk_RX11_142 (lyc rfl) (((rI_k (by decide)).trans (rI_c (by decide))).trans rI_s) ?_
      refine z_imul (pc := 116) dX11_goesThrough_116 ?_
      refine q_iald (pc := 117) (j := (Int32.toNatClampNeg (2 * ((rI h 164 10) - 1)))) (v := rI h 171 ((Int32.toNatClampNeg (2 * ((rI h 164 10) - 1))))) dX11_goesThrough_117 (lyc rfl) (zvn (lnc rfl) k1) rfl (((rI_c (by decide)).trans (rI_c (by decide))).trans (rI_c (by decide))) ?_
      refine z_aload_n (pc := 118) dX11_goesThrough_118 rfl rfl ?_
      refine q_getR (pc := 119) (i := 171) dX11_goesThrough_119 lk_RX11_28 (lyc rfl) (G 164 9 171 rfl) ?_
      refine z_iconst (pc := 122) (v := 2) dX11_goesThrough_122 (by decide) ?_
      refine z_aload_n (pc := 123) dX11_goesThrough_123 rfl rfl ?_
      refine q_getI (pc := 124) (v := (rI h 164 10) - 1) dX11_goesThrough_124 lk_RX11_142 (lyc rfl) (((rI_k (by decide)).trans (rI_c (by decide))).trans rI_s) ?_
      refine z_imul (pc := 127) dX11_goesThrough_127 ?_
      refine z_iconst (pc := 128) (v := 1) dX11_goesThrough_128 (by decide) ?_
      refine z_iadd (pc := 129) dX11_goesThrough_129 ?_
      obtain ⟨k3, F⟩ := F
      refine q_iald (pc := 130) (j := (Int32.toNatClampNeg ((2 * ((rI h 164 10) - 1)) + 1))) (v := rI h 171 ((Int32.toNatClampNeg ((2 * ((rI h 164 10) - 1)) + 1)))) dX11_goesThrough_130 (lyc rfl) (zvn (lnc rfl) k3) rfl (((rI_c (by decide)).trans (rI_c (by decide))).trans (rI_c (by decide))) ?_
      refine q_invV (pc := 131) (As := [.int (rI h 171 ((Int32.toNatClampNeg (2 * ((rI h 164 10) - 1))))), .int (rI h 171 ((Int32.toNatClampNeg ((2 * ((rI h 164 10) - 1)) + 1))))]) (st := []) dX11_goesThrough_131 ok_X11_acts ml_RX11_234 iv_X11_acts pa_X11_acts ⟨Nat.le_of_ble_eq_true rfl, Nat.le_of_ble_eq_true rfl⟩ (lyc rfl) (q_kV F (fun h1 F => ?_))
      obtain ⟨G1, F⟩ := F
      refine z_aload_n (pc := 134) dX11_goesThrough_134 rfl rfl ?_
      refine q_invV (pc := 135) (As := []) (st := []) dX11_goesThrough_135 ok_X11_rounds ml_RX11_153 iv_X11_rounds pa_X11_rounds ⟨Nat.le_of_ble_eq_true rfl, Nat.le_of_ble_eq_true rfl⟩ (lyc rfl) (q_kV F (fun h2 F => ?_))
      obtain ⟨G2, F⟩ := F
      refine z_goto (pc := 138) (tgt := 0) dX11_goesThrough_138 (by decide) ?_
      exact F
    · replace F := F.2 k7
      refine z_aload_n (pc := 16) dX11_goesThrough_16 rfl rfl ?_
      refine q_getR (pc := 17) (i := 167) dX11_goesThrough_17 lk_RX11_16 (lyc rfl) (G 164 2 167 rfl) ?_
      refine z_aload_n (pc := 20) dX11_goesThrough_20 rfl rfl ?_
      refine q_getR (pc := 21) (i := 165) dX11_goesThrough_21 lk_RX11_7 (lyc rfl) (G 164 0 165 rfl) ?_
      refine q_invS (pc := 24) (As := [.ref 167, .ref 165]) (st := []) dX11_goesThrough_24 ok_X11_copies ml_RX11_230 st_X11_copies pa_X11_copies ⟨Nat.le_of_ble_eq_true rfl, Nat.le_of_ble_eq_true rfl⟩ (q_kV F (fun h3 F => ?_))
      obtain ⟨G3, F⟩ := F
      refine z_aload_n (pc := 27) dX11_goesThrough_27 rfl rfl ?_
      refine z_aload_n (pc := 28) dX11_goesThrough_28 rfl rfl ?_
      refine q_getI (pc := 29) (v := rI h3 164 16) dX11_goesThrough_29 lk_RX11_227 (lyc rfl) rfl ?_
      refine q_putI (pc := 32) dX11_goesThrough_32 lk_RX11_156 (lyc rfl) ?_
      refine z_iconst (pc := 35) (v := 0) dX11_goesThrough_35 (by decide) ?_
      refine z_istore_n (pc := 36) (ls' := [some (.ref 164), some (.int 0)]) dX11_goesThrough_36 rfl (by decide) rfl ?_
      exact F
theorem g_X11_goesThrough_37 {x1 : Int32} {h : zHp} {Q : Int32 → zHp → Prop}  (G : zG h) (F : (rI h 164 16 ≤ x1 → (Q (-5) h)) ∧ (¬ (rI h 164 16 ≤ x1) → (vp_in x1 41 ∧ (zlI M_X11_goesThrough 37 [some (.ref 164), some (.int (x1 + 1))] [] (wI h 173 ((Int32.toNatClampNeg x1)) (rI h 172 ((Int32.toNatClampNeg x1)))) Q)))) : zlI M_X11_goesThrough 37 [some (.ref 164), some (.int x1)] [] h Q := by
  refine z_iload_n (pc := 37) dX11_goesThrough_37 rfl rfl ?_
  refine z_aload_n (pc := 38) dX11_goesThrough_38 rfl rfl ?_
  refine q_getI (pc := 39) (v := rI h 164 16) dX11_goesThrough_39 lk_RX11_227 (lyc rfl) rfl ?_
  refine z_icmp_ge (pc := 42) (tgt := 63) dX11_goesThrough_42 (by decide) (fun k2 => ?_) (fun k2 => ?_)
  · replace F := F.1 k2
    refine z_bipush (pc := 63) (v := -5) dX11_goesThrough_63 (by decide) ?_
    exact q_retI (pc := 65) dX11_goesThrough_65 rfl F
  · replace F := F.2 k2
    refine z_aload_n (pc := 45) dX11_goesThrough_45 rfl rfl ?_
    refine q_getR (pc := 46) (i := 173) dX11_goesThrough_46 lk_RX11_34 (lyc rfl) (G 164 18 173 rfl) ?_
    refine z_iload_n (pc := 49) dX11_goesThrough_49 rfl rfl ?_
    refine z_aload_n (pc := 50) dX11_goesThrough_50 rfl rfl ?_
    refine q_getR (pc := 51) (i := 172) dX11_goesThrough_51 lk_RX11_31 (lyc rfl) (G 164 17 172 rfl) ?_
    refine z_iload_n (pc := 54) dX11_goesThrough_54 rfl rfl ?_
    obtain ⟨k1, F⟩ := F
    refine q_iald (pc := 55) (j := (Int32.toNatClampNeg x1)) (v := rI h 172 ((Int32.toNatClampNeg x1))) dX11_goesThrough_55 (lyc rfl) (zvn (lnc rfl) k1) rfl rfl ?_
    refine q_iast (pc := 56) (j := (Int32.toNatClampNeg x1)) dX11_goesThrough_56 (lyc rfl) (zvn (lnc rfl) k1) rfl ?_
    refine z_iinc (pc := 57) (v := x1 + 1) (ls' := [some (.ref 164), some (.int (x1 + 1))]) dX11_goesThrough_57 (by decide) rfl rfl rfl ?_
    refine z_goto (pc := 60) (tgt := 37) dX11_goesThrough_60 (by decide) ?_
    exact F
theorem g_X11_begins  {h : zHp} {Q : zHp → Prop}  (G : zG h) (F : zcV M_X11_copies [.ref 165, .ref 167] h (fun h1 => zG h1 ∧ (Q (wI (wI (wI h1 164 8 1) 164 10 0) 164 16 0)))) : zcV M_X11_begins [.ref 164] h Q := by
  show zw zNT zNT M_X11_begins 0 [some (.ref 164)] [] h _
  refine z_aload_n (pc := 0) dX11_begins_0 rfl rfl ?_
  refine q_getR (pc := 1) (i := 165) dX11_begins_1 lk_RX11_7 (lyc rfl) (G 164 0 165 rfl) ?_
  refine z_aload_n (pc := 4) dX11_begins_4 rfl rfl ?_
  refine q_getR (pc := 5) (i := 167) dX11_begins_5 lk_RX11_16 (lyc rfl) (G 164 2 167 rfl) ?_
  refine q_invS (pc := 8) (As := [.ref 165, .ref 167]) (st := []) dX11_begins_8 ok_X11_copies ml_RX11_230 st_X11_copies pa_X11_copies ⟨Nat.le_of_ble_eq_true rfl, Nat.le_of_ble_eq_true rfl⟩ (q_kV F (fun h1 F => ?_))
  obtain ⟨G1, F⟩ := F
  refine z_aload_n (pc := 11) dX11_begins_11 rfl rfl ?_
  refine z_iconst (pc := 12) (v := 1) dX11_begins_12 (by decide) ?_
  refine q_putB (pc := 13) dX11_begins_13 lk_RX11_135 (lyc rfl) (Or.inr rfl) ?_
  refine z_aload_n (pc := 16) dX11_begins_16 rfl rfl ?_
  refine z_iconst (pc := 17) (v := 0) dX11_begins_17 (by decide) ?_
  refine q_putI (pc := 18) dX11_begins_18 lk_RX11_142 (lyc rfl) ?_
  refine z_aload_n (pc := 21) dX11_begins_21 rfl rfl ?_
  refine z_iconst (pc := 22) (v := 0) dX11_begins_22 (by decide) ?_
  refine q_putI (pc := 23) dX11_begins_23 lk_RX11_227 (lyc rfl) ?_
  exact q_retV (pc := 26) dX11_begins_26 rfl F
theorem s_X11_isNow {N : zN} {t k : Nat} {h : zHp} (G : zG h) (hC : CN N) (hN : h.1 165 = N) (ht : t < cT N) (hk : k < 4) : zcI M_X11_isNow [.ref 164, .int (nI t), .int (nI k)] h (fun r h' => r = isN N (h.1 168) t k ∧ h' = h) := by
  have h8 := hC.1.2
  have i1 := ixT (t := t) (k := 6 + k) (by omega) (by omega)
  rw [← nI_add 6 k, show nI 6 = (6 : Int32) from rfl] at i1
  have i2 := ix4 (t := t) (k := k) (by omega) hk
  have e238 : rI h 165 238 = nI (cT N) := by show h.1 165 238 = _; rw [hN]; exact hC.1.1
  have al : aliveM h (nI t) ↔ N (10 * t + 5) = 1 := by rw [aliveM_nI e238 h8 ht, hN]; exact Iff.rfl
  refine g_X11_isNow G ⟨⟨cT N, h8, e238⟩, fun z => ⟨i1.1, ?_, rfl⟩, fun z => ⟨i2.1, ?_, rfl⟩⟩
  · unfold isN
    rw [if_neg (fun y => z (al.mpr y)), i1.2]
    show h.1 165 _ = _
    rw [hN, Nat.add_assoc]
  · unfold isN
    rw [if_pos (al.mp z), i2.2]
    rfl
/-- the first 246 numbers of a row in another -/
def cp (A B : zN) : zN := fun i => if i < 246 then A i else B i
theorem s_X11_copies {c d : Nat} {h : zHp} (G : zG h) (hc : zNw c) (hd : zNw d) (hcd : c ≠ d) : zcV M_X11_copies [.ref c, .ref d] h (fun h' => h' = wA h d (cp (h.1 c) (h.1 d))) := by
  have loop : ∀ (m j : Nat), j + m = 246 → zlV M_X11_copies 2 [some (.ref c), some (.ref d), some (.int (nI j))] [] (wA h d (fun i => if i < j then h.1 c i else h.1 d i)) (fun h' => h' = wA h d (cp (h.1 c) (h.1 d))) := by
    intro m
    induction m with
    | zero =>
      intro j hj
      have : j = 246 := by omega
      subst this
      exact g_X11_copies_2 hc hd (zG_of rfl G) ⟨fun _ => rfl, fun z => absurd (by decide) z⟩
    | succ m ih =>
      intro j hj
      refine g_X11_copies_2 hc hd (zG_of rfl G) ⟨fun z => absurd z (nI_ge (b := 246) (by omega) (by omega)), fun _ => ?_⟩
      rw [nI_clamp (by omega), nI_1, rI_An hcd, wA_wI]
      refine ⟨vp_in_nI (by omega) (by omega), ?_⟩
      have : upd (fun i => if i < j then h.1 c i else h.1 d i) j (rI h c j) = fun i => if i < j + 1 then h.1 c i else h.1 d i := by
        funext i
        unfold upd
        by_cases z : i = j
        · rw [if_pos z, if_pos (by omega), z]; rfl
        · rw [if_neg z]
          dsimp only
          by_cases y : i < j
          · rw [if_pos y, if_pos (by omega)]
          · rw [if_neg y, if_neg (by omega)]
      rw [this]
      exact ih (j + 1) (by omega)
  refine g_X11_copies hc hd G ?_
  have := loop 246 0 (by omega)
  have e : (fun i => if i < 0 then h.1 c i else h.1 d i) = h.1 d := by
    funext i
    rw [if_neg (by omega)]
  rw [e, wA_id] at this
  exact this
theorem s_X11_acts {N : zN} {s : Stk} {w : Nat} {x : Int32} {h : zHp} (G : zG h) (hC : CN N) (hQ : WQ N) (hN : h.1 165 = N) (hS : SM h s) (pl : ¬ rI h 164 8 = 0) (hw : w < cV N) (hx : By (cT N) x) (hv : SV (cV N) (cT N) s) (room : s.2.2 + 8 + 8 * na N ≤ 400) : zcV M_X11_acts [.ref 164, .int (nI w), .int x] h (fun h' => fH h h' ∧ ∃ s', CN (h'.1 165) ∧ SM h' s' ∧ s'.2.2 + 8 * na (h'.1 165) ≤ 400 ∧ Ro True 9 (h'.1 165) s' = Ro True 9 (Ac N w x s).1 (Ac N w x s).2) := by
  have h8 := hC.1.2
  have v8 := hC.2.2.2.2
  obtain ⟨i0, i1, i2, i3, i4, i5, i6⟩ := ixV' (e := w) (by omega)
  have aa := Ac_all hC hQ hw hx hv
  have rd : ∀ h1 : zHp, h1.1 165 = N → ∀ i, rI h1 165 i = N i := fun h1 e i => by show h1.1 165 i = _; rw [e]
  have last : ∀ h1, fH h h1 → h1.1 165 = N → SM h1 s → zlV M_X11_acts 52 [some (.ref 164), some (.int (nI w)), some (.int x), some (.int (acT N w x)), some (.int (acV N w x)), none] [] h1 (fun h' => fH h h' ∧ ∃ s', CN (h'.1 165) ∧ SM h' s' ∧ s'.2.2 + 8 * na (h'.1 165) ≤ 400 ∧ Ro True 9 (h'.1 165) s' = Ro True 9 (Ac N w x s).1 (Ac N w x s).2) := by
    intro h1 f1 e1 m1
    have G1 := zG_of f1.1 G
    have stay : (acV N w x ≤ 0 ∨ ¬ AlI N (acT N w x)) → fH h h1 ∧ ∃ s', CN (h1.1 165) ∧ SM h1 s' ∧ s'.2.2 + 8 * na (h1.1 165) ≤ 400 ∧ Ro True 9 (h1.1 165) s' = Ro True 9 (Ac N w x s).1 (Ac N w x s).2 := by
      intro z
      have e : Ac N w x s = (N, s) := by unfold Ac; rw [if_pos z]
      rw [e, e1]
      exact ⟨f1, s, hC, m1, by omega, rfl⟩
    refine g_X11_acts_52 G1 ⟨fun z => stay (Or.inl z), fun z => ⟨?_, fun z1 => ?_, fun z1 => stay (Or.inr (fun y => z1 (aliveM_Al.mpr (by rw [e1]; exact y))))⟩⟩
    · rw [rd h1 e1]; exact hC.t
    · have al : AlI N (acT N w x) := by have := aliveM_Al.mp z1; rw [e1] at this; exact this
      obtain ⟨t, ht, et, ta⟩ := AlI_ex hC al
      have nz : ¬ (acV N w x ≤ 0 ∨ ¬ AlI N (acT N w x)) := fun y => y.elim z (fun y => y al)
      have bd := acV_bd hC hQ hw hx z
      rw [i2.2, rd h1 e1, et]
      have e : Ac N w x s = if N (182 + 7 * w + 2) = 0 then Hs N t (acV N w x) s else if N (182 + 7 * w + 2) = 1 then (wN N t (-(acV N w x)), s) else (Rs N t (acV N w x), s) := by
        unfold Ac
        rw [if_neg nz, et, nI_clamp (by omega)]
      rw [e] at aa ⊢
      refine ⟨i2.1, fun y => ?_, fun y => ⟨fun y1 => ?_, fun y1 => ?_⟩⟩
      · rw [if_pos y] at aa ⊢
        have p1 : ¬ rI h1 164 8 = 0 := by show ¬ h1.1 164 8 = 0; rw [f1.2.2 8 (by decide) (by omega)]; exact pl
        refine zcV_then (s_X11_hurts G1 hC hQ e1 m1 p1 ht ta bd room) (fun h2 hh => ⟨zG_of (hh.1.1.trans f1.1) G, f1.tr hh.1, (Ro True 9 (Hs N t (acV N w x) s).1 (Hs N t (acV N w x) s).2).2, ?_, hh.2.2.1, ?_, ?_⟩)
        · rw [hh.2.1]; exact (Ro_CQ aa.1 aa.2.1).1
        · rw [hh.2.1]
          have := Ro_room (pl := True) 9 (Hs N t (acV N w x) s).1 (Hs N t (acV N w x) s).2 aa.1
          have a6 := aa.2.2.2.2.2.1
          have a5 := aa.2.2.2.2.1
          omega
        · rw [hh.2.1]
          exact Ro_St (Ro_9 aa.1)
      · rw [if_neg y, if_pos y1] at aa ⊢
        refine zcV_use (s_X11_wounds G1 e1 (by omega)) ⟨zG_of f1.1 G, f1.tr fH.a, s, ?_, SM_of (wA_n (by decide)) (by rw [wA_n (by decide)]) m1, ?_, ?_⟩
        · rw [wA_s]; exact aa.1
        · rw [wA_s, aa.2.2.2.2.1]; omega
        · rw [wA_s]
      · rw [if_neg y, if_neg y1] at aa ⊢
        have j2 := ixT (t := t) (k := 2) (by omega) (by omega)
        have j3 := ixT (t := t) (k := 3) (by omega) (by omega)
        rw [show nI 2 = (2 : Int32) from rfl] at j2
        rw [show nI 3 = (3 : Int32) from rfl] at j3
        have fin : ∀ h2, h2 = wA h1 165 (Rs N t (acV N w x)) → zlV M_X11_acts 124 [some (.ref 164), some (.int (nI w)), some (.int x), some (.int (nI t)), some (.int (acV N w x)), some (.int (2 + 1 + 1))] [] h2 (fun h' => fH h h' ∧ ∃ s', CN (h'.1 165) ∧ SM h' s' ∧ s'.2.2 + 8 * na (h'.1 165) ≤ 400 ∧ Ro True 9 (h'.1 165) s' = Ro True 9 (Rs N t (acV N w x), s).1 (Rs N t (acV N w x), s).2) := by
          intro h2 e2
          subst e2
          refine g_X11_acts_124 (zG_of f1.1 G) ⟨fun _ => ⟨f1.tr fH.a, s, ?_, SM_of (wA_n (by decide)) (by rw [wA_n (by decide)]) m1, ?_, ?_⟩, fun z => absurd (by decide) z⟩
          · rw [wA_s]; exact aa.1
          · rw [wA_s, aa.2.2.2.2.1]; omega
          · rw [wA_s]
        have snd : ∀ h2, h2 = wA h1 165 (upd N (10 * t + 2) (ra (N (10 * t + 2)) (acV N w x))) → zlV M_X11_acts 124 [some (.ref 164), some (.int (nI w)), some (.int x), some (.int (nI t)), some (.int (acV N w x)), some (.int (2 + 1))] [] h2 (fun h' => fH h h' ∧ ∃ s', CN (h'.1 165) ∧ SM h' s' ∧ s'.2.2 + 8 * na (h'.1 165) ≤ 400 ∧ Ro True 9 (h'.1 165) s' = Ro True 9 (Rs N t (acV N w x), s).1 (Rs N t (acV N w x), s).2) := by
          intro h2 e2
          subst e2
          refine g_X11_acts_124 (zG_of f1.1 G) ⟨fun z => absurd z (by decide), fun _ => ?_⟩
          rw [show (2 + 1 : Int32) = 3 from rfl, j3.2, rI_As, pk_un (by omega), wA_wI, wA_wI]
          refine ⟨j3.1, fun y => ⟨j3.1, fin _ ?_⟩, fun y => ⟨j3.1, fin _ ?_⟩⟩
          · unfold Rs ra mnI; rw [if_pos y]
          · unfold Rs; unfold ra; unfold mnI; rw [if_neg y]
        refine g_X11_acts_124 G1 ⟨fun z => absurd z (by decide), fun _ => ?_⟩
        rw [j2.2, rd h1 e1, wI_wA, wI_wA, e1]
        refine ⟨j2.1, fun y => ⟨j2.1, snd _ ?_⟩, fun y => ⟨j2.1, snd _ ?_⟩⟩
        · unfold ra mnI; rw [if_pos y]
        · unfold ra mnI; rw [if_neg y]
  have mid : zlV M_X11_acts 20 [some (.ref 164), some (.int (nI w)), some (.int x), none, none, none] [.int (acT N w x)] h (fun h' => fH h h' ∧ ∃ s', CN (h'.1 165) ∧ SM h' s' ∧ s'.2.2 + 8 * na (h'.1 165) ≤ 400 ∧ Ro True 9 (h'.1 165) s' = Ro True 9 (Ac N w x s).1 (Ac N w x s).2) := by
    have l0 := last h fH.rf hN hS
    refine g_X11_acts_20 G ?_
    rw [i4.2, rd h hN]
    refine ⟨i4.1, fun z => ?_, fun z => ⟨fun z1 => ?_, fun z1 => ?_⟩⟩
    · have e : acV N w x = N (182 + 7 * w + 4) := by unfold acV; rw [if_neg z]
      rw [e] at l0; exact l0
    · have e : acV N w x = N (182 + 7 * w + 4) := by unfold acV; rw [if_pos z, z1, fo_1, z]
      rw [e] at l0; exact l0
    · rcases hx with hx | ⟨t, ht, rfl⟩
      · exact absurd hx z1
      · have mk := s_X11_makes (u := 5) G (by rw [rd h hN]; exact hC.t) (by rw [rd h hN]; exact hC.e) (by omega)
        rw [show nI 5 = (5 : Int32) from rfl] at mk
        refine zcV_then mk (fun h1 m1 => ⟨zG_of m1.1 G, ?_⟩)
        have e1 : h1.1 165 = N := m1.n.trans hN
        have nw := s_X11_isNow (k := 2) (zG_of m1.1 G) hC e1 ht (by omega)
        rw [show nI 2 = (2 : Int32) from rfl] at nw
        refine zcI_use nw ⟨zG_of m1.1 G, ?_⟩
        have e : acV N w (nI t) = isN N (h1.1 168) t 2 := by
          unfold acV
          rw [if_pos z, fo_n hC ht]
          unfold isN
          have r := m1.2.2.2.2.1
          rw [hN] at r
          rw [r _ (by omega)]
        rw [← e]
        exact last h1 (fH.k m1) e1 (SM_of (m1.2.1 171 (by decide) (by decide) (by decide) (by decide)) (m1.2.2.1 10 (by decide)) hS)
  refine g_X11_acts G ?_
  rw [i3.2, rd h hN]
  unfold acT at mid
  refine ⟨i3.1, fun z => ?_, fun z => ?_⟩
  · rw [if_neg z] at mid; exact mid
  · rw [if_pos z] at mid; exact mid
/-- what a run of acts may change of the reference -/
def fG (h h' : zHp) : Prop := h'.2 = h.2 ∧ (∀ a, a ≠ 164 → a ≠ 165 → (a < 168 ∨ 173 < a) → h'.1 a = h.1 a) ∧ ∀ k, k ≠ 7 → (k < 10 ∨ 16 < k) → k ≠ 19 → h'.1 164 k = h.1 164 k
theorem fG.tr {h h' h2 : zHp} (a : fG h h') (b : fG h' h2) : fG h h2 := ⟨b.1.trans a.1, fun z z1 z2 z3 => (b.2.1 z z1 z2 z3).trans (a.2.1 z z1 z2 z3), fun z h1 h2 h3 => (b.2.2 z h1 h2 h3).trans (a.2.2 z h1 h2 h3)⟩
theorem fH.g {h h' : zHp} (f : fH h h') : fG h h' := ⟨f.1, fun a z1 z2 z3 => f.2.1 a z1 z2 (by omega) (by omega) (by omega) (by omega), fun k z1 z2 _ => f.2.2 k z1 (by omega)⟩
/-- the end of a run of acts -/
def gtE (h h' : zHp) (T : Int32 × zN × zN) (r : Int32) : Prop := fG h h' ∧ r = T.1 ∧ (∃ n, rI h' 164 10 = nI n) ∧ (¬ r = -5 → h'.1 165 = T.2.1 ∧ h'.1 164 19 = h.1 164 19 ∧ h'.1 173 = h.1 173) ∧ (r = -5 → (∀ i, i < 246 → h'.1 165 i = h.1 167 i) ∧ rI h' 164 19 = 40 ∧ ∀ i, i < 40 → rI h' 173 i = T.2.2 i)
theorem s_X11_goesThrough {N : zN} {s : Stk} {D : zN} {h : zHp} (G : zG h) (hN : h.1 165 = N) (hS : SM h s) (pl : ¬ rI h 164 8 = 0) (fi0 : FI 0 N s) (k0 : rI h 164 16 = 0) : zcI M_X11_goesThrough [.ref 164] h (fun r h' => gtE h h' (Fn 40 N s 0 D) r) := by
  have loop : ∀ (m k : Nat) (N' : zN) (s' : Stk) (D' : zN) (h' : zHp), k + m = 40 → FI k N' s' → fG h h' → h'.1 164 19 = h.1 164 19 → h'.1 173 = h.1 173 → h'.1 165 = N' → SM h' s' → rI h' 164 16 = nI k → (∀ i, i < k → rI h' 172 i = D' i) → zcI M_X11_goesThrough [.ref 164] h' (fun r h2 => gtE h h2 (Fn m N' s' k D') r) := by
    intro m
    induction m with
    | zero =>
      intro k N' s' D' h' hk fi f e19 e173 eN c e16 d
      have : k = 40 := by omega
      subst this
      have bd := fi.2.2.2.2
      refine g_X11_goesThrough (zG_of f.1 G) ?_
      rw [c.1, e16]
      by_cases s0 : s'.2.2 = 0
      · rw [Fn, if_pos s0, s0]
        exact ⟨fun _ => ⟨f, rfl, ⟨_, c.1⟩, fun _ => ⟨eN, e19, e173⟩, fun y => absurd y (by decide)⟩, fun z => absurd (by decide) z⟩
      · rw [Fn, if_neg s0]
        refine ⟨fun z => absurd z (nI_nle (by omega) (by omega)), fun _ => ⟨fun z => absurd rfl z, fun _ => ?_⟩⟩
        refine zcV_use (s_X11_copies (c := 167) (d := 165) (zG_of f.1 G) (Or.inr (Or.inr rfl)) (Or.inl rfl) (by decide)) ⟨zG_of f.1 G, ?_⟩
        rw [rI_An (by decide), e16]
        have f1 : fG h (wI (wA h' 165 (cp (h'.1 167) (h'.1 165))) 164 19 (nI 40)) := f.tr ⟨rfl, fun a z1 z2 z3 => by rw [wI_ne z1, wA_n z2], fun k z1 z2 z3 => by
          show rI _ 164 k = rI h' 164 k
          rw [rI_k z3, rI_An (by decide)]⟩
        have lp : ∀ (n j : Nat) (h2 : zHp), j + n = 40 → fG h h2 → (∃ n, rI h2 164 10 = nI n) → (∀ i, i < 246 → h2.1 165 i = h.1 167 i) → rI h2 164 19 = 40 → rI h2 164 16 = nI 40 → (∀ i, i < 40 → rI h2 172 i = D' i) → (∀ i, i < j → rI h2 173 i = D' i) → zlI M_X11_goesThrough 37 [some (.ref 164), some (.int (nI j))] [] h2 (fun r h2 => gtE h h2 (-5, N', D') r) := by
          intro n
          induction n with
          | zero =>
            intro j h2 hj f2 g0 g1 g2 g3 g4 g5
            have : j = 40 := by omega
            subst this
            refine g_X11_goesThrough_37 (zG_of f2.1 G) ?_
            rw [g3]
            exact ⟨fun _ => ⟨f2, rfl, g0, fun y => absurd rfl y, fun _ => ⟨g1, g2, g5⟩⟩, fun z => absurd (Int32.le_refl _) z⟩
          | succ n ih =>
            intro j h2 hj f2 g0 g1 g2 g3 g4 g5
            refine g_X11_goesThrough_37 (zG_of f2.1 G) ?_
            rw [g3, nI_clamp (by omega), nI_1]
            refine ⟨fun z => absurd z (nI_ge (by omega) (by omega)), fun _ => ⟨vp_in_nI (by omega) (by omega), ih (j + 1) _ (by omega) (f2.tr ⟨rfl, fun a z1 z2 z3 => wI_ne (by omega), fun k _ _ _ => by rw [wI_ne (by decide)]⟩) ?_ ?_ ?_ ?_ ?_ ?_⟩⟩
            · obtain ⟨q, hq⟩ := g0
              exact ⟨q, by rw [rI_c (by decide)]; exact hq⟩
            · intro i hi
              rw [wI_ne (by decide)]; exact g1 i hi
            · rw [rI_c (by decide)]; exact g2
            · rw [rI_c (by decide)]; exact g3
            · intro i hi
              rw [rI_c (by decide)]; exact g4 i hi
            · intro i hi
              by_cases z : i = j
              · rw [z, rI_s]; exact g4 j (by omega)
              · rw [rI_k z]; exact g5 i (by omega)
        refine lp 40 0 _ (by omega) f1 ⟨s'.2.2, by rw [rI_k (by decide), rI_An (by decide)]; exact c.1⟩ (fun i hi => ?_) rI_s (by rw [rI_k (by decide), rI_An (by decide), e16]) (fun i hi => by rw [rI_c (by decide), rI_An (by decide)]; exact d i hi) (fun i hi => by omega)
        rw [wI_ne (by decide), wA_s]
        unfold cp
        rw [if_pos hi, f.2.1 167 (by decide) (by decide) (by omega)]
    | succ m ih =>
      intro k N' s' D' h' hk fi f e19 e173 eN c e16 d
      have bd := fi.2.2.2.2
      have hC' := fi.1
      refine g_X11_goesThrough (zG_of f.1 G) ?_
      rw [c.1, e16]
      by_cases s0 : s'.2.2 = 0
      · rw [Fn, if_pos s0, s0]
        refine ⟨fun _ => ⟨f, rfl, ⟨_, c.1⟩, fun _ => ⟨eN, e19, e173⟩, fun y => ?_⟩, fun z => absurd (by decide) z⟩
        exact absurd (by rw [y]; decide) (nI_pos (n := k) (by omega))
      · obtain ⟨w, x, hw, hx, ew, ex, hs⟩ := FI_pop fi s0
        obtain ⟨n, hn⟩ : ∃ n, s'.2.2 = n + 1 := ⟨s'.2.2 - 1, by omega⟩
        have nx := FI_step fi s0 hw hx hs
        rw [Fn, if_neg s0, ew, nI_clamp (show w < 2 ^ 31 by have := hC'.2.2.2.2; omega), ex]
        have en : s'.2.2 - 1 = n := by omega
        rw [en] at ew ex hs nx ⊢
        have x0 := ix20 (n := n) (by omega)
        have x1 := ix2 (n := n) (k := 1) (by omega) (by omega)
        rw [show nI 1 = (1 : Int32) from rfl] at x1
        rw [hn, nI_pred, x0.2, x1.2, nI_clamp (n := k) (by omega), nI_1]
        have c50 := (c.2 n (by omega)).1
        have c51 := (c.2 n (by omega)).2
        rw [c50, c51, ew, ex]
        refine ⟨fun z => absurd z (nI_nle (by omega) (by omega)), fun _ => ⟨fun _ => ⟨x0.1, vp_in_nI (by omega) (by omega), x1.1, ?_⟩, fun z => absurd ((nI_eq (a := k) (b := 40) (by omega) (by omega)).mp z) (by omega)⟩⟩
        have f1 : fG h (wI (wI (wI h' 164 10 (nI n)) 172 k (nI w)) 164 16 (nI (k + 1))) := f.tr ⟨rfl, fun a z1 z2 z3 => by rw [wI_ne z1, wI_ne (by omega), wI_ne z1], fun j z1 z2 z3 => by
          show rI _ 164 j = rI h' 164 j
          rw [rI_k (by omega), rI_c (by decide), rI_k (by omega)]⟩
        have m1 : SM (wI (wI (wI h' 164 10 (nI n)) 172 k (nI w)) 164 16 (nI (k + 1))) (s'.1, s'.2.1, n) := by
          refine ⟨by rw [rI_k (by decide), rI_c (by decide), rI_s], fun i hi => ?_⟩
          rw [rI_c (by decide), rI_c (by decide), rI_c (by decide), rI_c (by decide), rI_c (by decide), rI_c (by decide)]
          exact c.2 i (by change i < n at hi; omega)
        have eN1 : (wI (wI (wI h' 164 10 (nI n)) 172 k (nI w)) 164 16 (nI (k + 1))).1 165 = N' := by rw [wI_ne (by decide), wI_ne (by decide), wI_ne (by decide), eN]
        have p1 : ¬ rI (wI (wI (wI h' 164 10 (nI n)) 172 k (nI w)) 164 16 (nI (k + 1))) 164 8 = 0 := by
          show ¬ (wI (wI (wI h' 164 10 (nI n)) 172 k (nI w)) 164 16 (nI (k + 1))).1 164 8 = 0
          rw [f1.2.2 8 (by decide) (by omega) (by decide)]
          exact pl
        refine zcV_then (s_X11_acts (zG_of f1.1 G) hC' fi.2.1 eN1 m1 p1 hw hx hs (by show n + 8 + 8 * na N' ≤ 400; omega)) (fun h2 hh => ⟨zG_of (hh.1.1.trans f1.1) G, ?_⟩)
        obtain ⟨f2, s2, cX, m2, rm2, eR⟩ := hh
        have p2 : ¬ rI h2 164 8 = 0 := by
          show ¬ h2.1 164 8 = 0
          rw [f2.2.2 8 (by decide) (by omega)]
          exact p1
        have ro := s_X11_rounds (zG_of (f2.1.trans f1.1) G) cX rfl m2 (fun _ => rm2)
        rw [eq_true p2, eR] at ro
        refine zcV_then ro (fun h3 hh => ⟨zG_of (hh.1.1.trans (f2.1.trans f1.1)) G, ?_⟩)
        obtain ⟨f3, eN3, m3, -⟩ := hh
        have f23 := f2.tr f3.h
        refine ih (k + 1) _ _ _ h3 (by omega) nx (f1.tr f23.g) ?_ ?_ eN3 m3 ?_ (fun i hi => ?_)
        · rw [f23.2.2 19 (by decide) (by omega), ← e19]
          show rI _ 164 19 = rI h' 164 19
          rw [rI_k (by decide), rI_c (by decide), rI_k (by decide)]
        · rw [f23.2.1 173 (by decide) (by decide) (by decide) (by decide) (by decide) (by decide), wI_ne (by decide), wI_ne (by decide), wI_ne (by decide), e173]
        · show h3.1 164 16 = _
          rw [f23.2.2 16 (by decide) (by omega)]
          exact rI_s
        · show h3.1 172 i = _
          rw [f23.2.1 172 (by decide) (by decide) (by decide) (by decide) (by decide) (by decide), wI_ne (by decide)]
          show rI _ 172 i = _
          unfold upd
          by_cases z : i = k
          · rw [if_pos z, z, rI_s]
          · rw [if_neg z, rI_k z, rI_c (by decide)]
            exact d i (by omega)
  exact loop 40 0 N s D h (by omega) fi0 ⟨rfl, fun _ _ _ _ => rfl, fun _ _ _ _ => rfl⟩ rfl rfl hN hS k0 (fun i hi => by omega)

