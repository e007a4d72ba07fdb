/-! the reference: nextOf, makes -/
theorem zG_of {h h' : zHp} (e : h'.2 = h.2) (G : zG h) : zG h' := by
  intro c k i hi
  show h'.2 c k = some i
  rw [e]
  exact G c k i hi
theorem g_X11_nextOf {x1 : Int32} {h : zHp} {Q : Int32 → zHp → Prop}  (G : zG h) (F : zlI M_X11_nextOf 2 [some (.ref 164), some (.int x1), some (.int 0), none, none] [] h Q) : zcI M_X11_nextOf [.ref 164, .int x1] h Q := by
  show zw zNT zNT M_X11_nextOf 0 [some (.ref 164), some (.int x1), none, none, none] [] h _
  refine z_iconst (pc := 0) (v := 0) dX11_nextOf_0 (by decide) ?_
  refine z_istore_n (pc := 1) (ls' := [some (.ref 164), some (.int x1), some (.int 0), none, none]) dX11_nextOf_1 rfl (by decide) rfl ?_
  exact F
theorem g_X11_nextOf_2 {x1 : Int32} {x2 : Int32} {h : zHp} {Q : Int32 → zHp → Prop}  (G : zG h) (F : (10 ≤ x2 → (zlI M_X11_nextOf 87 [some (.ref 164), some (.int x1), some (.int 0), none, none] [] h Q)) ∧ (¬ (10 ≤ x2) → (((bi x1 x2) → (zlI M_X11_nextOf 25 [some (.ref 164), some (.int x1), some (.int x2), some (.int 0), some (.int 0)] [] h Q)) ∧ (¬ (bi x1 x2) → (zlI M_X11_nextOf 25 [some (.ref 164), some (.int x1), some (.int x2), some (.int 1), some (.int 0)] [] h Q))))) : zlI M_X11_nextOf 2 [some (.ref 164), some (.int x1), some (.int x2), none, none] [] h Q := by
  refine z_iload_n (pc := 2) dX11_nextOf_2 rfl rfl ?_
  refine z_bipush (pc := 3) (v := 10) dX11_nextOf_3 (by decide) ?_
  refine z_icmp_ge (pc := 5) (tgt := 85) dX11_nextOf_5 (by decide) (fun k2 => ?_) (fun k2 => ?_)
  · replace F := F.1 k2
    refine z_iconst (pc := 85) (v := 0) dX11_nextOf_85 (by decide) ?_
    refine z_istore_n (pc := 86) (ls' := [some (.ref 164), some (.int x1), some (.int 0), none, none]) dX11_nextOf_86 rfl (by decide) rfl ?_
    exact F
  · replace F := F.2 k2
    refine z_iload_n (pc := 8) dX11_nextOf_8 rfl rfl ?_
    refine z_iload_n (pc := 9) dX11_nextOf_9 rfl rfl ?_
    refine q_invS (pc := 10) (As := [.int x1, .int x2]) (st := []) dX11_nextOf_10 ok_X11_has ml_RX11_96 st_X11_has pa_X11_has ⟨Nat.le_of_ble_eq_true rfl, Nat.le_of_ble_eq_true rfl⟩ (q_pI (s_X11_has G) rfl ?_)
    refine z_if_ne (pc := 13) (tgt := 20) dX11_nextOf_13 (by decide) (fun k1 => ?_) (fun k1 => ?_)
    · replace F := F.1 (zbn.mp k1)
      refine z_iconst (pc := 20) (v := 0) dX11_nextOf_20 (by decide) ?_
      refine z_istore_n (pc := 21) (ls' := [some (.ref 164), some (.int x1), some (.int x2), some (.int 0), none]) dX11_nextOf_21 rfl (by decide) rfl ?_
      refine z_iconst (pc := 22) (v := 0) dX11_nextOf_22 (by decide) ?_
      refine z_istore (pc := 23) (ls' := [some (.ref 164), some (.int x1), some (.int x2), some (.int 0), some (.int 0)]) dX11_nextOf_23 (by decide) rfl ?_
      exact F
    · replace F := F.2 (zb0.mp k1)
      refine z_iconst (pc := 16) (v := 1) dX11_nextOf_16 (by decide) ?_
      refine z_goto (pc := 17) (tgt := 21) dX11_nextOf_17 (by decide) ?_
      refine z_istore_n (pc := 21) (ls' := [some (.ref 164), some (.int x1), some (.int x2), some (.int 1), none]) dX11_nextOf_21 rfl (by decide) rfl ?_
      refine z_iconst (pc := 22) (v := 0) dX11_nextOf_22 (by decide) ?_
      refine z_istore (pc := 23) (ls' := [some (.ref 164), some (.int x1), some (.int x2), some (.int 1), some (.int 0)]) dX11_nextOf_23 (by decide) rfl ?_
      exact F
theorem g_X11_nextOf_25 {x1 : Int32} {x2 : Int32} {x3 : Int32} {x4 : Int32} {h : zHp} {Q : Int32 → zHp → Prop}  (G : zG h) (F : (10 ≤ x4 → ((¬ x3 = 0 → (zlI M_X11_nextOf 2 [some (.ref 164), some (.int x1), some (.int (x2 + 1)), none, none] [] h Q)) ∧ (x3 = 0 → (Q x2 h)))) ∧ (¬ (10 ≤ x4) → ((¬ x3 = 0 → ((¬ x3 = 0 → (zlI M_X11_nextOf 2 [some (.ref 164), some (.int x1), some (.int (x2 + 1)), none, none] [] h Q)) ∧ (x3 = 0 → (Q x2 h)))) ∧ (x3 = 0 → ((x4 = x2 → (zlI M_X11_nextOf 25 [some (.ref 164), some (.int x1), some (.int x2), some (.int 0), some (.int (x4 + 1))] [] h Q)) ∧ (¬ (x4 = x2) → ((¬ (bi x1 x4) → (zlI M_X11_nextOf 25 [some (.ref 164), some (.int x1), some (.int x2), some (.int 0), some (.int (x4 + 1))] [] h Q)) ∧ ((bi x1 x4) → (zcI M_X11_doesDepend [.ref 164, .int x2, .int x4] h (fun vh1 h1 => zG h1 ∧ ((vh1 = 0 → (zlI M_X11_nextOf 25 [some (.ref 164), some (.int x1), some (.int x2), some (.int 0), some (.int (x4 + 1))] [] h1 Q)) ∧ (¬ (vh1 = 0) → (zlI M_X11_nextOf 25 [some (.ref 164), some (.int x1), some (.int x2), some (.int 1), some (.int (x4 + 1))] [] h1 Q))))))))))))) : zlI M_X11_nextOf 25 [some (.ref 164), some (.int x1), some (.int x2), some (.int x3), some (.int x4)] [] h Q := by
  refine z_iload (pc := 25) dX11_nextOf_25 rfl ?_
  refine z_bipush (pc := 27) (v := 10) dX11_nextOf_27 (by decide) ?_
  refine z_icmp_ge (pc := 29) (tgt := 73) dX11_nextOf_29 (by decide) (fun k8 => ?_) (fun k8 => ?_)
  · replace F := F.1 k8
    refine z_iload_n (pc := 73) dX11_nextOf_73 rfl rfl ?_
    refine z_if_ne (pc := 74) (tgt := 79) dX11_nextOf_74 (by decide) (fun k1 => ?_) (fun k1 => ?_)
    · replace F := F.1 k1
      refine z_iinc (pc := 79) (v := x2 + 1) (ls' := [some (.ref 164), some (.int x1), some (.int (x2 + 1)), some (.int x3), some (.int x4)]) dX11_nextOf_79 (by decide) rfl rfl rfl ?_
      refine z_goto (pc := 82) (tgt := 2) dX11_nextOf_82 (by decide) ?_
      exact q_sub (ls' := [some (.ref 164), some (.int x1), some (.int (x2 + 1)), none, none]) ⟨rfl, rfl, rfl, trivial⟩ F
    · replace F := F.2 k1
      refine z_iload_n (pc := 77) dX11_nextOf_77 rfl rfl ?_
      exact q_retI (pc := 78) dX11_nextOf_78 rfl F
  · replace F := F.2 k8
    refine z_iload_n (pc := 32) dX11_nextOf_32 rfl rfl ?_
    refine z_if_ne (pc := 33) (tgt := 73) dX11_nextOf_33 (by decide) (fun k7 => ?_) (fun k7 => ?_)
    · replace F := F.1 k7
      refine z_iload_n (pc := 73) dX11_nextOf_73 rfl rfl ?_
      refine z_if_ne (pc := 74) (tgt := 79) dX11_nextOf_74 (by decide) (fun k2 => ?_) (fun k2 => ?_)
      · replace F := F.1 k2
        refine z_iinc (pc := 79) (v := x2 + 1) (ls' := [some (.ref 164), some (.int x1), some (.int (x2 + 1)), some (.int x3), some (.int x4)]) dX11_nextOf_79 (by decide) rfl rfl rfl ?_
        refine z_goto (pc := 82) (tgt := 2) dX11_nextOf_82 (by decide) ?_
        exact q_sub (ls' := [some (.ref 164), some (.int x1), some (.int (x2 + 1)), none, none]) ⟨rfl, rfl, rfl, trivial⟩ F
      · replace F := F.2 k2
        refine z_iload_n (pc := 77) dX11_nextOf_77 rfl rfl ?_
        exact q_retI (pc := 78) dX11_nextOf_78 rfl F
    · replace F := F.2 k7
      refine z_iload (pc := 36) dX11_nextOf_36 rfl ?_
      refine z_iload_n (pc := 38) dX11_nextOf_38 rfl rfl ?_
      refine z_icmp_eq (pc := 39) (tgt := 65) dX11_nextOf_39 (by decide) (fun k6 => ?_) (fun k6 => ?_)
      · replace F := F.1 k6
        refine z_iconst (pc := 65) (v := 0) dX11_nextOf_65 (by decide) ?_
        refine z_istore_n (pc := 66) (ls' := [some (.ref 164), some (.int x1), some (.int x2), some (.int 0), some (.int x4)]) dX11_nextOf_66 rfl (by decide) rfl ?_
        refine z_iinc (pc := 67) (v := x4 + 1) (ls' := [some (.ref 164), some (.int x1), some (.int x2), some (.int 0), some (.int (x4 + 1))]) dX11_nextOf_67 (by decide) rfl rfl rfl ?_
        refine z_goto (pc := 70) (tgt := 25) dX11_nextOf_70 (by decide) ?_
        exact F
      · replace F := F.2 k6
        refine z_iload_n (pc := 42) dX11_nextOf_42 rfl rfl ?_
        refine z_iload (pc := 43) dX11_nextOf_43 rfl ?_
        refine q_invS (pc := 45) (As := [.int x1, .int x4]) (st := []) dX11_nextOf_45 ok_X11_has ml_RX11_96 st_X11_has pa_X11_has ⟨Nat.le_of_ble_eq_true rfl, Nat.le_of_ble_eq_true rfl⟩ (q_pI (s_X11_has G) rfl ?_)
        refine z_if_eq (pc := 48) (tgt := 65) dX11_nextOf_48 (by decide) (fun k5 => ?_) (fun k5 => ?_)
        · replace F := F.1 (zb0.mp k5)
          refine z_iconst (pc := 65) (v := 0) dX11_nextOf_65 (by decide) ?_
          refine z_istore_n (pc := 66) (ls' := [some (.ref 164), some (.int x1), some (.int x2), some (.int 0), some (.int x4)]) dX11_nextOf_66 rfl (by decide) rfl ?_
          refine z_iinc (pc := 67) (v := x4 + 1) (ls' := [some (.ref 164), some (.int x1), some (.int x2), some (.int 0), some (.int (x4 + 1))]) dX11_nextOf_67 (by decide) rfl rfl rfl ?_
          refine z_goto (pc := 70) (tgt := 25) dX11_nextOf_70 (by decide) ?_
          exact F
        · replace F := F.2 (zbn.mp k5)
          refine z_aload_n (pc := 51) dX11_nextOf_51 rfl rfl ?_
          refine z_iload_n (pc := 52) dX11_nextOf_52 rfl rfl ?_
          refine z_iload (pc := 53) dX11_nextOf_53 rfl ?_
          refine q_invV (pc := 55) (As := [.int x2, .int x4]) (st := []) dX11_nextOf_55 ok_X11_doesDepend ml_RX11_118 iv_X11_doesDepend pa_X11_doesDepend ⟨Nat.le_of_ble_eq_true rfl, Nat.le_of_ble_eq_true rfl⟩ (lyc rfl) (q_kI F (fun vh1 h1 F => ?_))
          obtain ⟨G1, F⟩ := F
          refine z_if_eq (pc := 58) (tgt := 65) dX11_nextOf_58 (by decide) (fun k4 => ?_) (fun k4 => ?_)
          · replace F := F.1 k4
            refine z_iconst (pc := 65) (v := 0) dX11_nextOf_65 (by decide) ?_
            refine z_istore_n (pc := 66) (ls' := [some (.ref 164), some (.int x1), some (.int x2), some (.int 0), some (.int x4)]) dX11_nextOf_66 rfl (by decide) rfl ?_
            refine z_iinc (pc := 67) (v := x4 + 1) (ls' := [some (.ref 164), some (.int x1), some (.int x2), some (.int 0), some (.int (x4 + 1))]) dX11_nextOf_67 (by decide) rfl rfl rfl ?_
            refine z_goto (pc := 70) (tgt := 25) dX11_nextOf_70 (by decide) ?_
            exact F
          · replace F := F.2 k4
            refine z_iconst (pc := 61) (v := 1) dX11_nextOf_61 (by decide) ?_
            refine z_goto (pc := 62) (tgt := 66) dX11_nextOf_62 (by decide) ?_
            refine z_istore_n (pc := 66) (ls' := [some (.ref 164), some (.int x1), some (.int x2), some (.int 1), some (.int x4)]) dX11_nextOf_66 rfl (by decide) rfl ?_
            refine z_iinc (pc := 67) (v := x4 + 1) (ls' := [some (.ref 164), some (.int x1), some (.int x2), some (.int 1), some (.int (x4 + 1))]) dX11_nextOf_67 (by decide) rfl rfl rfl ?_
            refine z_goto (pc := 70) (tgt := 25) dX11_nextOf_70 (by decide) ?_
            exact F
theorem g_X11_nextOf_87 {x1 : Int32} {x2 : Int32} {h : zHp} {Q : Int32 → zHp → Prop}  (G : zG h) (F : ((bi x1 x2) → (Q x2 h)) ∧ (¬ (bi x1 x2) → (zlI M_X11_nextOf 87 [some (.ref 164), some (.int x1), some (.int (x2 + 1)), none, none] [] h Q))) : zlI M_X11_nextOf 87 [some (.ref 164), some (.int x1), some (.int x2), none, none] [] h Q := by
  refine z_iload_n (pc := 87) dX11_nextOf_87 rfl rfl ?_
  refine z_iload_n (pc := 88) dX11_nextOf_88 rfl rfl ?_
  refine q_invS (pc := 89) (As := [.int x1, .int x2]) (st := []) dX11_nextOf_89 ok_X11_has ml_RX11_96 st_X11_has pa_X11_has ⟨Nat.le_of_ble_eq_true rfl, Nat.le_of_ble_eq_true rfl⟩ (q_pI (s_X11_has G) rfl ?_)
  refine z_if_ne (pc := 92) (tgt := 101) dX11_nextOf_92 (by decide) (fun k1 => ?_) (fun k1 => ?_)
  · replace F := F.1 (zbn.mp k1)
    refine z_iload_n (pc := 101) dX11_nextOf_101 rfl rfl ?_
    exact q_retI (pc := 102) dX11_nextOf_102 rfl F
  · replace F := F.2 (zb0.mp k1)
    refine z_iinc (pc := 95) (v := x2 + 1) (ls' := [some (.ref 164), some (.int x1), some (.int (x2 + 1)), none, none]) dX11_nextOf_95 (by decide) rfl rfl rfl ?_
    refine z_goto (pc := 98) (tgt := 87) dX11_nextOf_98 (by decide) ?_
    exact F
theorem g_X11_makes {x1 : Int32} {h : zHp} {Q : zHp → Prop}  (G : zG h) (F : zlV M_X11_makes 2 [some (.ref 164), some (.int x1), some (.int 0), none, none] [] h Q) : zcV M_X11_makes [.ref 164, .int x1] h Q := by
  show zw zNT zNT M_X11_makes 0 [some (.ref 164), some (.int x1), none, none, none] [] h _
  refine z_iconst (pc := 0) (v := 0) dX11_makes_0 (by decide) ?_
  refine z_istore_n (pc := 1) (ls' := [some (.ref 164), some (.int x1), some (.int 0), none, none]) dX11_makes_1 rfl (by decide) rfl ?_
  exact F
theorem g_X11_makes_2 {x1 : Int32} {x2 : Int32} {h : zHp} {Q : zHp → Prop}  (G : zG h) (F : (rI h 165 238 ≤ x2 → (zlV M_X11_makes 84 [some (.ref 164), some (.int x1), some (.int 0), none, none] [] (wI h 164 7 0) Q)) ∧ (¬ (rI h 165 238 ≤ x2) → (vp_in ((0 + (10 * x2)) + 1) 246 ∧ (vp_in (4 * x2) 32 ∧ (vp_in ((4 * x2) + 1) 32 ∧ (vp_in ((0 + (10 * x2)) + 2) 246 ∧ (vp_in ((4 * x2) + 2) 32 ∧ (vp_in ((0 + (10 * x2)) + 3) 246 ∧ (vp_in ((4 * x2) + 3) 32 ∧ (zlV M_X11_makes 2 [some (.ref 164), some (.int x1), some (.int (x2 + 1)), none, none] [] (wI (wI (wI (wI h 168 ((Int32.toNatClampNeg (4 * x2))) (rI h 165 ((Int32.toNatClampNeg (((0 + (10 * x2)) + 1)))))) 168 ((Int32.toNatClampNeg ((4 * x2) + 1))) 0) 168 ((Int32.toNatClampNeg ((4 * x2) + 2))) (rI h 165 ((Int32.toNatClampNeg (((0 + (10 * x2)) + 2)))))) 168 ((Int32.toNatClampNeg ((4 * x2) + 3))) (rI h 165 ((Int32.toNatClampNeg (((0 + (10 * x2)) + 3)))))) Q)))))))))) : zlV M_X11_makes 2 [some (.ref 164), some (.int x1), some (.int x2), none, none] [] h Q := by
  refine z_iload_n (pc := 2) dX11_makes_2 rfl rfl ?_
  refine z_aload_n (pc := 3) dX11_makes_3 rfl rfl ?_
  refine q_getR (pc := 4) (i := 165) dX11_makes_4 lk_RX11_7 (lyc rfl) (G 164 0 165 rfl) ?_
  refine z_sipush (pc := 7) (v := 238) dX11_makes_7 (by decide) ?_
  refine q_iald (pc := 10) (j := 238) (v := rI h 165 238) dX11_makes_10 (lyc rfl) (zvl (lnc rfl) (by decide)) (by decide) rfl ?_
  refine z_icmp_ge (pc := 11) (tgt := 77) dX11_makes_11 (by decide) (fun k8 => ?_) (fun k8 => ?_)
  · replace F := F.1 k8
    refine z_aload_n (pc := 77) dX11_makes_77 rfl rfl ?_
    refine z_iconst (pc := 78) (v := 0) dX11_makes_78 (by decide) ?_
    refine q_putI (pc := 79) dX11_makes_79 lk_RX11_121 (lyc rfl) ?_
    refine z_iconst (pc := 82) (v := 0) dX11_makes_82 (by decide) ?_
    refine z_istore_n (pc := 83) (ls' := [some (.ref 164), some (.int x1), some (.int 0), none, none]) dX11_makes_83 rfl (by decide) rfl ?_
    exact F
  · replace F := F.2 k8
    refine z_aload_n (pc := 14) dX11_makes_14 rfl rfl ?_
    refine q_getR (pc := 15) (i := 168) dX11_makes_15 lk_RX11_19 (lyc rfl) (G 164 4 168 rfl) ?_
    refine z_iconst (pc := 18) (v := 4) dX11_makes_18 (by decide) ?_
    refine z_iload_n (pc := 19) dX11_makes_19 rfl rfl ?_
    refine z_imul (pc := 20) dX11_makes_20 ?_
    refine z_aload_n (pc := 21) dX11_makes_21 rfl rfl ?_
    refine z_iload_n (pc := 22) dX11_makes_22 rfl rfl ?_
    refine z_iconst (pc := 23) (v := 1) dX11_makes_23 (by decide) ?_
    obtain ⟨k1, F⟩ := F
    refine q_invV (pc := 24) (As := [.int x2, .int 1]) (st := [.int (4 * x2), .ref 168]) dX11_makes_24 ok_X11_its ml_RX11_92 iv_X11_its pa_X11_its ⟨Nat.le_of_ble_eq_true rfl, Nat.le_of_ble_eq_true rfl⟩ (lyc rfl) (q_pI (s_X11_its G k1) rfl ?_)
    obtain ⟨k2, F⟩ := F
    refine q_iast (pc := 27) (j := (Int32.toNatClampNeg (4 * x2))) dX11_makes_27 (lyc rfl) (zvn (lnc rfl) k2) rfl ?_
    refine z_aload_n (pc := 28) dX11_makes_28 rfl rfl ?_
    refine q_getR (pc := 29) (i := 168) dX11_makes_29 lk_RX11_19 (lyc rfl) (G 164 4 168 rfl) ?_
    refine z_iconst (pc := 32) (v := 4) dX11_makes_32 (by decide) ?_
    refine z_iload_n (pc := 33) dX11_makes_33 rfl rfl ?_
    refine z_imul (pc := 34) dX11_makes_34 ?_
    refine z_iconst (pc := 35) (v := 1) dX11_makes_35 (by decide) ?_
    refine z_iadd (pc := 36) dX11_makes_36 ?_
    refine z_iconst (pc := 37) (v := 0) dX11_makes_37 (by decide) ?_
    obtain ⟨k3, F⟩ := F
    refine q_iast (pc := 38) (j := (Int32.toNatClampNeg ((4 * x2) + 1))) dX11_makes_38 (lyc rfl) (zvn (lnc rfl) k3) rfl ?_
    refine z_aload_n (pc := 39) dX11_makes_39 rfl rfl ?_
    refine q_getR (pc := 40) (i := 168) dX11_makes_40 lk_RX11_19 (lyc rfl) (G 164 4 168 rfl) ?_
    refine z_iconst (pc := 43) (v := 4) dX11_makes_43 (by decide) ?_
    refine z_iload_n (pc := 44) dX11_makes_44 rfl rfl ?_
    refine z_imul (pc := 45) dX11_makes_45 ?_
    refine z_iconst (pc := 46) (v := 2) dX11_makes_46 (by decide) ?_
    refine z_iadd (pc := 47) dX11_makes_47 ?_
    refine z_aload_n (pc := 48) dX11_makes_48 rfl rfl ?_
    refine z_iload_n (pc := 49) dX11_makes_49 rfl rfl ?_
    refine z_iconst (pc := 50) (v := 2) dX11_makes_50 (by decide) ?_
    obtain ⟨k4, F⟩ := F
    refine q_invV (pc := 51) (As := [.int x2, .int 2]) (st := [.int ((4 * x2) + 2), .ref 168]) dX11_makes_51 ok_X11_its ml_RX11_92 iv_X11_its pa_X11_its ⟨Nat.le_of_ble_eq_true rfl, Nat.le_of_ble_eq_true rfl⟩ (lyc rfl) (q_pI (s_X11_its G k4) ((rI_c (by decide)).trans (rI_c (by decide))) ?_)
    obtain ⟨k5, F⟩ := F
    refine q_iast (pc := 54) (j := (Int32.toNatClampNeg ((4 * x2) + 2))) dX11_makes_54 (lyc rfl) (zvn (lnc rfl) k5) rfl ?_
    refine z_aload_n (pc := 55) dX11_makes_55 rfl rfl ?_
    refine q_getR (pc := 56) (i := 168) dX11_makes_56 lk_RX11_19 (lyc rfl) (G 164 4 168 rfl) ?_
    refine z_iconst (pc := 59) (v := 4) dX11_makes_59 (by decide) ?_
    refine z_iload_n (pc := 60) dX11_makes_60 rfl rfl ?_
    refine z_imul (pc := 61) dX11_makes_61 ?_
    refine z_iconst (pc := 62) (v := 3) dX11_makes_62 (by decide) ?_
    refine z_iadd (pc := 63) dX11_makes_63 ?_
    refine z_aload_n (pc := 64) dX11_makes_64 rfl rfl ?_
    refine z_iload_n (pc := 65) dX11_makes_65 rfl rfl ?_
    refine z_iconst (pc := 66) (v := 3) dX11_makes_66 (by decide) ?_
    obtain ⟨k6, F⟩ := F
    refine q_invV (pc := 67) (As := [.int x2, .int 3]) (st := [.int ((4 * x2) + 3), .ref 168]) dX11_makes_67 ok_X11_its ml_RX11_92 iv_X11_its pa_X11_its ⟨Nat.le_of_ble_eq_true rfl, Nat.le_of_ble_eq_true rfl⟩ (lyc rfl) (q_pI (s_X11_its G k6) (((rI_c (by decide)).trans (rI_c (by decide))).trans (rI_c (by decide))) ?_)
    obtain ⟨k7, F⟩ := F
    refine q_iast (pc := 70) (j := (Int32.toNatClampNeg ((4 * x2) + 3))) dX11_makes_70 (lyc rfl) (zvn (lnc rfl) k7) rfl ?_
    refine z_iinc (pc := 71) (v := x2 + 1) (ls' := [some (.ref 164), some (.int x1), some (.int (x2 + 1)), none, none]) dX11_makes_71 (by decide) rfl rfl rfl ?_
    refine z_goto (pc := 74) (tgt := 2) dX11_makes_74 (by decide) ?_
    exact F
theorem g_X11_makes_84 {x1 : Int32} {x2 : Int32} {h : zHp} {Q : zHp → Prop}  (G : zG h) (F : (x1 ≤ x2 → (Q h)) ∧ (¬ (x1 ≤ x2) → (zlV M_X11_makes 94 [some (.ref 164), some (.int x1), some (.int x2), some (.int 0), some (.int 0)] [] h Q))) : zlV M_X11_makes 84 [some (.ref 164), some (.int x1), some (.int x2), none, none] [] h Q := by
  refine z_iload_n (pc := 84) dX11_makes_84 rfl rfl ?_
  refine z_iload_n (pc := 85) dX11_makes_85 rfl rfl ?_
  refine z_icmp_ge (pc := 86) (tgt := 207) dX11_makes_86 (by decide) (fun k1 => ?_) (fun k1 => ?_)
  · replace F := F.1 k1
    exact q_retV (pc := 207) dX11_makes_207 rfl F
  · replace F := F.2 k1
    refine z_iconst (pc := 89) (v := 0) dX11_makes_89 (by decide) ?_
    refine z_istore_n (pc := 90) (ls' := [some (.ref 164), some (.int x1), some (.int x2), some (.int 0), none]) dX11_makes_90 rfl (by decide) rfl ?_
    refine z_iconst (pc := 91) (v := 0) dX11_makes_91 (by decide) ?_
    refine z_istore (pc := 92) (ls' := [some (.ref 164), some (.int x1), some (.int x2), some (.int 0), some (.int 0)]) dX11_makes_92 (by decide) rfl ?_
    exact F
theorem g_X11_makes_94 {x1 : Int32} {x2 : Int32} {x3 : Int32} {x4 : Int32} {h : zHp} {Q : zHp → Prop}  (G : zG h) (F : (rI h 165 239 ≤ x4 → (zlV M_X11_makes 147 [some (.ref 164), some (.int x1), some (.int x2), some (.int x3), some (.int x4)] [] h Q)) ∧ (¬ (rI h 165 239 ≤ x4) → (vp_in ((80 + (7 * x4)) + 1) 246 ∧ ((¬ layM (rI h 165 ((Int32.toNatClampNeg (((80 + (7 * x4)) + 1))))) = x2 → (zlV M_X11_makes 94 [some (.ref 164), some (.int x1), some (.int x2), some (.int (x3 ||| 0)), some (.int (x4 + 1))] [] h Q)) ∧ (layM (rI h 165 ((Int32.toNatClampNeg (((80 + (7 * x4)) + 1))))) = x2 → (zcI M_X11_doesSomething [.ref 164, .int x4] h (fun vh1 h1 => zG h1 ∧ ((vh1 = 0 → (zlV M_X11_makes 94 [some (.ref 164), some (.int x1), some (.int x2), some (.int (x3 ||| 0)), some (.int (x4 + 1))] [] h1 Q)) ∧ (¬ (vh1 = 0) → (zlV M_X11_makes 94 [some (.ref 164), some (.int x1), some (.int x2), some (.int (x3 ||| (1 <<< (x4 &&& 31)))), some (.int (x4 + 1))] [] h1 Q)))))))))) : zlV M_X11_makes 94 [some (.ref 164), some (.int x1), some (.int x2), some (.int x3), some (.int x4)] [] h Q := by
  refine z_iload (pc := 94) dX11_makes_94 rfl ?_
  refine z_aload_n (pc := 96) dX11_makes_96 rfl rfl ?_
  refine q_getR (pc := 97) (i := 165) dX11_makes_97 lk_RX11_7 (lyc rfl) (G 164 0 165 rfl) ?_
  refine z_sipush (pc := 100) (v := 239) dX11_makes_100 (by decide) ?_
  refine q_iald (pc := 103) (j := 239) (v := rI h 165 239) dX11_makes_103 (lyc rfl) (zvl (lnc rfl) (by decide)) (by decide) rfl ?_
  refine z_icmp_ge (pc := 104) (tgt := 147) dX11_makes_104 (by decide) (fun k5 => ?_) (fun k5 => ?_)
  · replace F := F.1 k5
    exact F
  · replace F := F.2 k5
    refine z_iload_n (pc := 107) dX11_makes_107 rfl rfl ?_
    refine z_aload_n (pc := 108) dX11_makes_108 rfl rfl ?_
    refine z_iload (pc := 109) dX11_makes_109 rfl ?_
    refine z_iconst (pc := 111) (v := 1) dX11_makes_111 (by decide) ?_
    obtain ⟨k1, F⟩ := F
    refine q_invV (pc := 112) (As := [.int x4, .int 1]) (st := [.int x3]) dX11_makes_112 ok_X11_effectIs ml_RX11_103 iv_X11_effectIs pa_X11_effectIs ⟨Nat.le_of_ble_eq_true rfl, Nat.le_of_ble_eq_true rfl⟩ (lyc rfl) (q_pI (s_X11_effectIs G k1) rfl ?_)
    refine q_invS (pc := 115) (As := [.int (rI h 165 ((Int32.toNatClampNeg (((80 + (7 * x4)) + 1)))))]) (st := [.int x3]) dX11_makes_115 ok_X11_layer ml_RX11_125 st_X11_layer pa_X11_layer ⟨Nat.le_of_ble_eq_true rfl, Nat.le_of_ble_eq_true rfl⟩ (q_pI (s_X11_layer G) rfl ?_)
    refine z_iload_n (pc := 118) dX11_makes_118 rfl rfl ?_
    refine z_icmp_ne (pc := 119) (tgt := 138) dX11_makes_119 (by decide) (fun k4 => ?_) (fun k4 => ?_)
    · replace F := F.1 k4
      refine z_iconst (pc := 138) (v := 0) dX11_makes_138 (by decide) ?_
      refine z_ior (pc := 139) dX11_makes_139 ?_
      refine z_istore_n (pc := 140) (ls' := [some (.ref 164), some (.int x1), some (.int x2), some (.int (x3 ||| 0)), some (.int x4)]) dX11_makes_140 rfl (by decide) rfl ?_
      refine z_iinc (pc := 141) (v := x4 + 1) (ls' := [some (.ref 164), some (.int x1), some (.int x2), some (.int (x3 ||| 0)), some (.int (x4 + 1))]) dX11_makes_141 (by decide) rfl rfl rfl ?_
      refine z_goto (pc := 144) (tgt := 94) dX11_makes_144 (by decide) ?_
      exact F
    · replace F := F.2 k4
      refine z_aload_n (pc := 122) dX11_makes_122 rfl rfl ?_
      refine z_iload (pc := 123) dX11_makes_123 rfl ?_
      refine q_invV (pc := 125) (As := [.int x4]) (st := [.int x3]) dX11_makes_125 ok_X11_doesSomething ml_RX11_129 iv_X11_doesSomething pa_X11_doesSomething ⟨Nat.le_of_ble_eq_true rfl, Nat.le_of_ble_eq_true rfl⟩ (lyc rfl) (q_kI F (fun vh1 h1 F => ?_))
      obtain ⟨G1, F⟩ := F
      refine z_if_eq (pc := 128) (tgt := 138) dX11_makes_128 (by decide) (fun k3 => ?_) (fun k3 => ?_)
      · replace F := F.1 k3
        refine z_iconst (pc := 138) (v := 0) dX11_makes_138 (by decide) ?_
        refine z_ior (pc := 139) dX11_makes_139 ?_
        refine z_istore_n (pc := 140) (ls' := [some (.ref 164), some (.int x1), some (.int x2), some (.int (x3 ||| 0)), some (.int x4)]) dX11_makes_140 rfl (by decide) rfl ?_
        refine z_iinc (pc := 141) (v := x4 + 1) (ls' := [some (.ref 164), some (.int x1), some (.int x2), some (.int (x3 ||| 0)), some (.int (x4 + 1))]) dX11_makes_141 (by decide) rfl rfl rfl ?_
        refine z_goto (pc := 144) (tgt := 94) dX11_makes_144 (by decide) ?_
        exact F
      · replace F := F.2 k3
        refine z_iconst (pc := 131) (v := 1) dX11_makes_131 (by decide) ?_
        refine z_iload (pc := 132) dX11_makes_132 rfl ?_
        refine z_ishl (pc := 134) dX11_makes_134 ?_
        refine z_goto (pc := 135) (tgt := 139) dX11_makes_135 (by decide) ?_
        refine z_ior (pc := 139) dX11_makes_139 ?_
        refine z_istore_n (pc := 140) (ls' := [some (.ref 164), some (.int x1), some (.int x2), some (.int (x3 ||| (1 <<< (x4 &&& 31)))), some (.int x4)]) dX11_makes_140 rfl (by decide) rfl ?_
        refine z_iinc (pc := 141) (v := x4 + 1) (ls' := [some (.ref 164), some (.int x1), some (.int x2), some (.int (x3 ||| (1 <<< (x4 &&& 31)))), some (.int (x4 + 1))]) dX11_makes_141 (by decide) rfl rfl rfl ?_
        refine z_goto (pc := 144) (tgt := 94) dX11_makes_144 (by decide) ?_
        exact F
theorem g_X11_makes_147 {x1 : Int32} {x2 : Int32} {x3 : Int32} {x4 : Int32} {h : zHp} {Q : zHp → Prop}  (G : zG h) (F : (x3 = 0 → (zlV M_X11_makes 84 [some (.ref 164), some (.int x1), some (.int (x2 + 1)), none, none] [] h Q)) ∧ (¬ (x3 = 0) → (zcI M_X11_nextOf [.ref 164, .int x3] h (fun vh1 h1 => zG h1 ∧ (zcV M_X11_does [.ref 164, .ref 168, .int vh1] h1 (fun h2 => zG h2 ∧ (vp_in (rI h2 164 7) 10 ∧ (zlV M_X11_makes 147 [some (.ref 164), some (.int x1), some (.int x2), some (.int (x3 &&& ((1 <<< (vh1 &&& 31)) ^^^ (-1)))), some (.int vh1)] [] (wI (wI h2 170 ((Int32.toNatClampNeg (rI h2 164 7))) vh1) 164 7 ((rI h2 164 7) + 1)) Q)))))))) : zlV M_X11_makes 147 [some (.ref 164), some (.int x1), some (.int x2), some (.int x3), some (.int x4)] [] h Q := by
  refine z_iload_n (pc := 147) dX11_makes_147 rfl rfl ?_
  refine z_if_eq (pc := 148) (tgt := 201) dX11_makes_148 (by decide) (fun k4 => ?_) (fun k4 => ?_)
  · replace F := F.1 k4
    refine z_iinc (pc := 201) (v := x2 + 1) (ls' := [some (.ref 164), some (.int x1), some (.int (x2 + 1)), some (.int x3), some (.int x4)]) dX11_makes_201 (by decide) rfl rfl rfl ?_
    refine z_goto (pc := 204) (tgt := 84) dX11_makes_204 (by decide) ?_
    exact q_sub (ls' := [some (.ref 164), some (.int x1), some (.int (x2 + 1)), none, none]) ⟨rfl, rfl, rfl, trivial⟩ F
  · replace F := F.2 k4
    refine z_aload_n (pc := 151) dX11_makes_151 rfl rfl ?_
    refine z_iload_n (pc := 152) dX11_makes_152 rfl rfl ?_
    refine q_invV (pc := 153) (As := [.int x3]) (st := []) dX11_makes_153 ok_X11_nextOf ml_RX11_132 iv_X11_nextOf pa_X11_nextOf ⟨Nat.le_of_ble_eq_true rfl, Nat.le_of_ble_eq_true rfl⟩ (lyc rfl) (q_kI F (fun vh1 h1 F => ?_))
    obtain ⟨G1, F⟩ := F
    refine z_istore (pc := 156) (ls' := [some (.ref 164), some (.int x1), some (.int x2), some (.int x3), some (.int vh1)]) dX11_makes_156 (by decide) rfl ?_
    refine z_aload_n (pc := 158) dX11_makes_158 rfl rfl ?_
    refine z_aload_n (pc := 159) dX11_makes_159 rfl rfl ?_
    refine q_getR (pc := 160) (i := 168) dX11_makes_160 lk_RX11_19 (lyc rfl) (G1 164 4 168 rfl) ?_
    refine z_iload (pc := 163) dX11_makes_163 rfl ?_
    refine q_invV (pc := 165) (As := [.ref 168, .int vh1]) (st := []) dX11_makes_165 ok_X11_does ml_RX11_114 iv_X11_does pa_X11_does ⟨Nat.le_of_ble_eq_true rfl, Nat.le_of_ble_eq_true rfl⟩ (lyc rfl) (q_kV F (fun h2 F => ?_))
    obtain ⟨G2, F⟩ := F
    refine z_iload_n (pc := 168) dX11_makes_168 rfl rfl ?_
    refine z_iconst (pc := 169) (v := 1) dX11_makes_169 (by decide) ?_
    refine z_iload (pc := 170) dX11_makes_170 rfl ?_
    refine z_ishl (pc := 172) dX11_makes_172 ?_
    refine z_iconst (pc := 173) (v := -1) dX11_makes_173 (by decide) ?_
    refine z_ixor (pc := 174) dX11_makes_174 ?_
    refine z_iand (pc := 175) dX11_makes_175 ?_
    refine z_istore_n (pc := 176) (ls' := [some (.ref 164), some (.int x1), some (.int x2), some (.int (x3 &&& ((1 <<< (vh1 &&& 31)) ^^^ (-1)))), some (.int vh1)]) dX11_makes_176 rfl (by decide) rfl ?_
    refine z_aload_n (pc := 177) dX11_makes_177 rfl rfl ?_
    refine q_getR (pc := 178) (i := 170) dX11_makes_178 lk_RX11_25 (lyc rfl) (G2 164 6 170 rfl) ?_
    refine z_aload_n (pc := 181) dX11_makes_181 rfl rfl ?_
    refine q_getI (pc := 182) (v := rI h2 164 7) dX11_makes_182 lk_RX11_121 (lyc rfl) rfl ?_
    refine z_iload (pc := 185) dX11_makes_185 rfl ?_
    obtain ⟨k3, F⟩ := F
    refine q_iast (pc := 187) (j := (Int32.toNatClampNeg (rI h2 164 7))) dX11_makes_187 (lyc rfl) (zvn (lnc rfl) k3) rfl ?_
    refine z_aload_n (pc := 188) dX11_makes_188 rfl rfl ?_
    refine z_dup (pc := 189) dX11_makes_189 rfl ?_
    refine q_getI (pc := 190) (v := rI h2 164 7) dX11_makes_190 lk_RX11_121 (lyc rfl) (rI_c (by decide)) ?_
    refine z_iconst (pc := 193) (v := 1) dX11_makes_193 (by decide) ?_
    refine z_iadd (pc := 194) dX11_makes_194 ?_
    refine q_putI (pc := 195) dX11_makes_195 lk_RX11_121 (lyc rfl) ?_
    refine z_goto (pc := 198) (tgt := 147) dX11_makes_198 (by decide) ?_
    exact F
theorem s_X11_nextOf {S : Int32} {h : zHp} (G : zG h) (k : zCt (rI h 165 238) 8) (hs : Set10 S) (h0 : ¬ S = 0) : zcI M_X11_nextOf [.ref 164, .int S] h (fun r h' => r = nI (Nx (h.1 165) (h.1 168) S) ∧ ∃ g, h' = wA h 169 g) := by
  have ex : ∃ k, k < 10 ∧ bi S (nI k) := Classical.byContradiction fun z => h0 (bi_all0.mpr fun k hk y => z ⟨k, hs k hk y, y⟩)
  obtain ⟨e0, he0, hb0⟩ := ex
  have l87 : ∀ (m j : Nat) (g : zN), j + m = e0 → (∀ i, i < j → ¬ bi S (nI i)) → (¬ ∃ e, e < 10 ∧ Fre (h.1 165) (h.1 168) S e) → zlI M_X11_nextOf 87 [some (.ref 164), some (.int S), some (.int (nI j)), none, none] [] (wA h 169 g) (fun r h' => r = nI (Nx (h.1 165) (h.1 168) S) ∧ ∃ g, h' = wA h 169 g) := by
    intro m
    induction m with
    | zero =>
      intro j g hj hi hn
      have : j = e0 := by omega
      subst this
      refine g_X11_nextOf_87 G ⟨fun _ => ⟨?_, g, rfl⟩, fun q => absurd hb0 q⟩
      unfold Nx
      rw [if_neg hn, ffst_eq (j := j) (by omega) (by omega) hb0 (fun k _ hk => hi k hk)]
    | succ m ih =>
      intro j g hj hi hn
      refine g_X11_nextOf_87 G ⟨fun q => ⟨?_, g, rfl⟩, fun q => ?_⟩
      · unfold Nx
        rw [if_neg hn, ffst_eq (j := j) (by omega) (by omega) q (fun k _ hk => hi k hk)]
      · have nx := ih (j + 1) g (by omega) (fun i hi2 => by
          rcases Nat.lt_or_ge i j with z | z
          · exact hi i z
          · rw [show i = j by omega]; exact q) hn
        rw [← nI_1] at nx
        exact nx
  have l2 : ∀ (m j : Nat) (g : zN), j + m = 10 → (∀ i, i < j → ¬ Fre (h.1 165) (h.1 168) S i) → zlI M_X11_nextOf 2 [some (.ref 164), some (.int S), some (.int (nI j)), none, none] [] (wA h 169 g) (fun r h' => r = nI (Nx (h.1 165) (h.1 168) S) ∧ ∃ g, h' = wA h 169 g) := by
    intro m
    induction m with
    | zero =>
      intro j g hj hi
      have : j = 10 := by omega
      subst this
      refine g_X11_nextOf_2 G ⟨fun _ => ?_, fun q => absurd (by decide) q⟩
      exact l87 e0 0 g (by omega) (fun i hi => by omega) (fun ⟨e, a, b⟩ => hi e a b)
    | succ m ih =>
      intro j g hj hi
      have l25 : ∀ (m2 f : Nat) (wt : Int32) (g : zN), f + m2 = 10 → (wt = 0 → bi S (nI j) ∧ ∀ f', f' < f → f' ≠ j → bi S (nI f') → ¬ Dep (h.1 165) (h.1 168) j f') → (¬ wt = 0 → ¬ Fre (h.1 165) (h.1 168) S j) → zlI M_X11_nextOf 25 [some (.ref 164), some (.int S), some (.int (nI j)), some (.int wt), some (.int (nI f))] [] (wA h 169 g) (fun r h' => r = nI (Nx (h.1 165) (h.1 168) S) ∧ ∃ g, h' = wA h 169 g) := by
        intro m2
        have go : ∀ (g : zN), ¬ Fre (h.1 165) (h.1 168) S j → zlI M_X11_nextOf 2 [some (.ref 164), some (.int S), some (.int (nI j + 1)), none, none] [] (wA h 169 g) (fun r h' => r = nI (Nx (h.1 165) (h.1 168) S) ∧ ∃ g, h' = wA h 169 g) := by
          intro g hf
          have nx := ih (j + 1) g (by omega) (fun i hi2 => by
            rcases Nat.lt_or_ge i j with z | z
            · exact hi i z
            · rw [show i = j by omega]; exact hf)
          rw [← nI_1] at nx
          exact nx
        induction m2 with
        | zero =>
          intro f wt g hf a b
          have : f = 10 := by omega
          subst this
          refine g_X11_nextOf_25 G ⟨fun _ => ⟨fun q => go g (b q), fun q => ⟨?_, g, rfl⟩⟩, fun q => absurd (by decide) q⟩
          have hfre : Fre (h.1 165) (h.1 168) S j := ⟨(a q).1, fun f h1 h2 h3 => (a q).2 f h1 h2 h3⟩
          unfold Nx
          rw [if_pos ⟨j, by omega, hfre⟩, ffst_eq (j := j) (by omega) (by omega) hfre (fun k _ hk => hi k hk)]
        | succ m2 ih2 =>
          intro f wt g hf a b
          refine g_X11_nextOf_25 G ⟨fun q => absurd q (nI_ge (b := 10) (by omega) (by omega)), fun _ => ⟨fun q => ⟨fun _ => go g (b q), fun z => absurd z q⟩, fun q => ?_⟩⟩
          have next : ∀ (wt' : Int32) (g' : zN), (wt' = 0 → (f ≠ j → bi S (nI f) → ¬ Dep (h.1 165) (h.1 168) j f)) → (¬ wt' = 0 → ¬ Fre (h.1 165) (h.1 168) S j) → zlI M_X11_nextOf 25 [some (.ref 164), some (.int S), some (.int (nI j)), some (.int wt'), some (.int (nI f + 1))] [] (wA h 169 g') (fun r h' => r = nI (Nx (h.1 165) (h.1 168) S) ∧ ∃ g, h' = wA h 169 g) := by
            intro wt' g' c1 c2
            have nx := ih2 (f + 1) wt' g' (by omega) (fun z => ⟨(a q).1, fun f' h1 h2 h3 => by
              rcases Nat.lt_or_ge f' f with y | y
              · exact (a q).2 f' y h2 h3
              · rw [show f' = f by omega] at h2 h3 ⊢; exact c1 z h2 h3⟩) c2
            rw [← nI_1] at nx
            exact nx
          refine ⟨fun q2 => next 0 g (fun _ z => absurd ((nI_eq (by omega) (by omega)).mp q2) z) (fun z => absurd rfl z), fun q2 => ⟨fun q3 => next 0 g (fun _ _ z => absurd z q3) (fun z => absurd rfl z), fun q3 => ?_⟩⟩
          have hfj : f ≠ j := fun z => q2 (by rw [z])
          have k1 : zCt (rI (wA h 169 g) 165 238) 8 := by rw [rI_An (by decide)]; exact k
          refine zcI_then (s_X11_doesDepend (e := j) (f := f) G k1 (by omega) (by omega)) (fun v h' hv => ?_)
          obtain ⟨rfl, g', rfl⟩ := hv
          rw [wA_wA, wA_n (show 165 ≠ 169 by decide), wA_n (show 168 ≠ 169 by decide)]
          refine ⟨G, fun q4 => next 0 g' (fun _ _ _ => zb0.mp q4) (fun z => absurd rfl z), fun q4 => next 1 g' (fun z => absurd z (by decide)) (fun _ z => z.2 f (by omega) hfj q3 (zbn.mp q4))⟩
      refine g_X11_nextOf_2 G ⟨fun q => absurd q (nI_ge (b := 10) (by omega) (by omega)), fun _ => ⟨fun q => ?_, fun q => ?_⟩⟩
      · exact l25 10 0 0 g (by omega) (fun _ => ⟨q, fun f' h1 => by omega⟩) (fun z => absurd rfl z)
      · exact l25 10 0 1 g (by omega) (fun z => absurd z (by decide)) (fun _ z => q z.1)
  have := l2 10 0 (h.1 169) (by omega) (fun i hi => by omega)
  rw [wA_id] at this
  exact g_X11_nextOf G this
/-- how many below n have p -/
noncomputable def nb : Nat → (Nat → Prop) → Nat
  | 0, _ => 0
  | n + 1, p => nb n p + @ite _ (p n) (Classical.propDecidable _) 1 0
theorem nb_le {n : Nat} {p : Nat → Prop} : nb n p ≤ n := by
  induction n with
  | zero => exact Nat.le_refl _
  | succ n ih =>
    rcases Classical.em (p n) with q | q
    · rw [nb, if_pos q]; omega
    · rw [nb, if_neg q]; omega
theorem nb_congr {n : Nat} {p q : Nat → Prop} (h : ∀ k, k < n → (p k ↔ q k)) : nb n p = nb n q := by
  induction n with
  | zero => rfl
  | succ n ih =>
    have h1 := ih (fun k hk => h k (by omega))
    have h2 := h n (by omega)
    rw [nb, nb, h1]
    rcases Classical.em (p n) with z | z
    · rw [if_pos z, if_pos (h2.mp z)]
    · rw [if_neg z, if_neg (fun y => z (h2.mpr y))]
theorem nb_mono {n : Nat} {p q : Nat → Prop} (h : ∀ k, k < n → p k → q k) : nb n p ≤ nb n q := by
  induction n with
  | zero => exact Nat.le_refl _
  | succ n ih =>
    have h1 := ih (fun k hk => h k (by omega))
    rw [nb, nb]
    rcases Classical.em (p n) with z | z
    · rw [if_pos z, if_pos (h n (by omega) z)]; omega
    · rw [if_neg z]
      rcases Classical.em (q n) with y | y
      · rw [if_pos y]; omega
      · rw [if_neg y]; omega
theorem nb_or {n : Nat} {p q : Nat → Prop} (h : ∀ k, k < n → p k → ¬ q k) : nb n (fun k => p k ∨ q k) = nb n p + nb n q := by
  induction n with
  | zero => rfl
  | succ n ih =>
    have h1 := ih (fun k hk => h k (by omega))
    rw [nb, nb, nb, h1]
    rcases Classical.em (p n) with z | z
    · rw [if_pos (Or.inl z), if_pos z, if_neg (h n (by omega) z)]; omega
    · rcases Classical.em (q n) with y | y
      · rw [if_pos (Or.inr y), if_neg z, if_pos y]; omega
      · rw [if_neg (fun x => x.elim z y), if_neg z, if_neg y]; omega
theorem nb_one {n e : Nat} {p : Nat → Prop} (he : e < n) (hp : p e) : nb n (fun k => p k ∧ k ≠ e) + 1 = nb n p := by
  induction n with
  | zero => omega
  | succ n ih =>
    rw [nb, nb]
    rcases Nat.lt_or_ge e n with q | q
    · have h1 := ih q
      rcases Classical.em (p n) with z | z
      · rw [if_pos ⟨z, by omega⟩, if_pos z]; omega
      · rw [if_neg (fun y => z y.1), if_neg z]; omega
    · have : e = n := by omega
      subst this
      rw [if_neg (fun y => y.2 rfl), if_pos hp, nb_congr (p := fun k => p k ∧ k ≠ e) (q := p) (fun k hk => ⟨fun y => y.1, fun y => ⟨y, by omega⟩⟩)]
theorem nb_0 {n : Nat} {p : Nat → Prop} : nb n p = 0 ↔ ∀ k, k < n → ¬ p k := by
  induction n with
  | zero => exact ⟨fun _ k hk => by omega, fun _ => rfl⟩
  | succ n ih =>
    rw [nb]
    constructor
    · intro h k hk
      rcases Classical.em (p n) with z | z
      · rw [if_pos z] at h; omega
      · rw [if_neg z] at h
        rcases Nat.lt_or_ge k n with y | y
        · exact ih.mp (by omega) k y
        · rw [show k = n by omega]; exact z
    · intro h
      rw [if_neg (h n (by omega)), ih.mpr (fun k hk => h k (by omega))]

