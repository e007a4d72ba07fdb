/-! calls: copy -/
theorem g_X5_spans {c0 : Nat} {x1 : Int32} {x2 : Int32} {h : zHp} {Q : Int32 → zHp → Prop} (hc0 : zSh c0) (G : zG h) (F : (x2 < 0 → (Q 0 h)) ∧ (¬ (x2 < 0) → ((rI h c0 1 < x2 → (Q 0 h)) ∧ (¬ (rI h c0 1 < x2) → ((¬ ((0 : Int32) ≤ x1 ∧ x1 ≤ (rI h c0 1) - x2) → (Q 0 h)) ∧ (((0 : Int32) ≤ x1 ∧ x1 ≤ (rI h c0 1) - x2) → (Q 1 h))))))) : zcI M_X5_spans [.ref c0, .int x1, .int x2] h Q := by
  show zw zNT zNT M_X5_spans 0 [some (.ref c0), some (.int x1), some (.int x2)] [] h _
  refine z_iload_n (pc := 0) dX5_spans_0 rfl rfl ?_
  refine z_if_lt (pc := 1) (tgt := 30) dX5_spans_1 (by decide) (fun k3 => ?_) (fun k3 => ?_)
  · replace F := F.1 k3
    refine z_iconst (pc := 30) (v := 0) dX5_spans_30 (by decide) ?_
    exact q_retB (pc := 31) dX5_spans_31 rfl (Or.inl rfl) F
  · replace F := F.2 k3
    refine z_iload_n (pc := 4) dX5_spans_4 rfl rfl ?_
    refine z_aload_n (pc := 5) dX5_spans_5 rfl rfl ?_
    refine q_getI (pc := 6) (v := rI h c0 1) dX5_spans_6 lk_RX5_19 (lySh0 hc0) rfl ?_
    refine z_icmp_gt (pc := 9) (tgt := 30) dX5_spans_9 (by decide) (fun k2 => ?_) (fun k2 => ?_)
    · replace F := F.1 k2
      refine z_iconst (pc := 30) (v := 0) dX5_spans_30 (by decide) ?_
      exact q_retB (pc := 31) dX5_spans_31 rfl (Or.inl rfl) F
    · replace F := F.2 k2
      refine z_iload_n (pc := 12) dX5_spans_12 rfl rfl ?_
      refine z_iconst (pc := 13) (v := 0) dX5_spans_13 (by decide) ?_
      refine z_aload_n (pc := 14) dX5_spans_14 rfl rfl ?_
      refine q_getI (pc := 15) (v := rI h c0 1) dX5_spans_15 lk_RX5_19 (lySh0 hc0) rfl ?_
      refine z_iload_n (pc := 18) dX5_spans_18 rfl rfl ?_
      refine z_isub (pc := 19) dX5_spans_19 ?_
      refine q_invS (pc := 20) (As := [.int x1, .int 0, .int ((rI h c0 1) - x2)]) (st := []) dX5_spans_20 ok_X10_within ml_RX5_22 st_X10_within pa_X10_within ⟨Nat.le_of_ble_eq_true rfl, Nat.le_of_ble_eq_true rfl⟩ (q_pI (s_X10_within G) rfl ?_)
      refine z_if_eq (pc := 23) (tgt := 30) dX5_spans_23 (by decide) (fun k1 => ?_) (fun k1 => ?_)
      · replace F := F.1 (zb0.mp k1)
        refine z_iconst (pc := 30) (v := 0) dX5_spans_30 (by decide) ?_
        exact q_retB (pc := 31) dX5_spans_31 rfl (Or.inl rfl) F
      · replace F := F.2 (zbn.mp k1)
        refine z_iconst (pc := 26) (v := 1) dX5_spans_26 (by decide) ?_
        refine z_goto (pc := 27) (tgt := 31) dX5_spans_27 (by decide) ?_
        exact q_retB (pc := 31) dX5_spans_31 rfl (Or.inr rfl) F
theorem g_X10_copy {x1 : Int32} {x2 : Int32} {x3 : Int32} {x4 : Int32} {x5 : Int32} {h : zHp} {Q : Int32 → zHp → Prop}  (G : zG h) (F : (¬ ((0 : Int32) ≤ x1 ∧ x1 ≤ 3) → (Q (-2) h)) ∧ (((0 : Int32) ≤ x1 ∧ x1 ≤ 3) → ((((0 : Int32) ≤ x3 ∧ x3 ≤ 3) → (vp_in x1 4 ∧ (vp_in x3 4 ∧ ((rI h (156 + 2 * (Int32.toNatClampNeg x1)) 0 = -1 → (Q (-11) h)) ∧ (¬ (rI h (156 + 2 * (Int32.toNatClampNeg x1)) 0 = -1) → ((¬ rI h (156 + 2 * (Int32.toNatClampNeg x3)) 0 = -1 → ((rI h (156 + 2 * (Int32.toNatClampNeg x1)) 0 = rI h (156 + 2 * (Int32.toNatClampNeg x3)) 0 → (zcI M_X5_spans [.ref (156 + 2 * (Int32.toNatClampNeg x1)), .int x2, .int x5] h (fun vh1 h1 => zG h1 ∧ ((vh1 = 0 → (Q (-12) h1)) ∧ (¬ (vh1 = 0) → (zcI M_X5_spans [.ref (156 + 2 * (Int32.toNatClampNeg x3)), .int x4, .int x5] h1 (fun vh2 h2 => zG h2 ∧ ((¬ vh2 = 0 → (zAc x2 x4 x5 40 40 ∧ (Q x5 (wC h2 (156 + 2 * (Int32.toNatClampNeg x1) + 1) (Int32.toNatClampNeg x2) (156 + 2 * (Int32.toNatClampNeg x3) + 1) (Int32.toNatClampNeg x4) (Int32.toNatClampNeg x5))))) ∧ (vh2 = 0 → (Q (-12) h2)))))))))) ∧ (¬ (rI h (156 + 2 * (Int32.toNatClampNeg x1)) 0 = rI h (156 + 2 * (Int32.toNatClampNeg x3)) 0) → (Q (-13) h)))) ∧ (rI h (156 + 2 * (Int32.toNatClampNeg x3)) 0 = -1 → (Q (-11) h)))))))) ∧ (¬ ((0 : Int32) ≤ x3 ∧ x3 ≤ 3) → (Q (-2) h))))) : zcI M_X10_copy [.ref 0, .int x1, .int x2, .int x3, .int x4, .int x5] h Q := by
  show zw zNT zNT M_X10_copy 0 [some (.ref 0), some (.int x1), some (.int x2), some (.int x3), some (.int x4), some (.int x5), none, none] [] h _
  refine z_iload_n (pc := 0) dX10_copy_0 rfl rfl ?_
  refine z_iconst (pc := 1) (v := 0) dX10_copy_1 (by decide) ?_
  refine z_iconst (pc := 2) (v := 3) dX10_copy_2 (by decide) ?_
  refine q_invS (pc := 3) (As := [.int x1, .int 0, .int 3]) (st := []) dX10_copy_3 ok_X10_within ml_RX10_82 st_X10_within pa_X10_within ⟨Nat.le_of_ble_eq_true rfl, Nat.le_of_ble_eq_true rfl⟩ (q_pI (s_X10_within G) rfl ?_)
  refine z_if_eq (pc := 6) (tgt := 18) dX10_copy_6 (by decide) (fun k12 => ?_) (fun k12 => ?_)
  · replace F := F.1 (zb0.mp k12)
    refine z_bipush (pc := 18) (v := -2) dX10_copy_18 (by decide) ?_
    exact q_retI (pc := 20) dX10_copy_20 rfl F
  · replace F := F.2 (zbn.mp k12)
    refine z_iload_n (pc := 9) dX10_copy_9 rfl rfl ?_
    refine z_iconst (pc := 10) (v := 0) dX10_copy_10 (by decide) ?_
    refine z_iconst (pc := 11) (v := 3) dX10_copy_11 (by decide) ?_
    refine q_invS (pc := 12) (As := [.int x3, .int 0, .int 3]) (st := []) dX10_copy_12 ok_X10_within ml_RX10_82 st_X10_within pa_X10_within ⟨Nat.le_of_ble_eq_true rfl, Nat.le_of_ble_eq_true rfl⟩ (q_pI (s_X10_within G) rfl ?_)
    refine z_if_ne (pc := 15) (tgt := 21) dX10_copy_15 (by decide) (fun k11 => ?_) (fun k11 => ?_)
    · replace F := F.1 (zbn.mp k11)
      refine z_aload_n (pc := 21) dX10_copy_21 rfl rfl ?_
      refine q_getR (pc := 22) (i := 154) dX10_copy_22 lk_RX10_59 (lyc rfl) (G 0 9 154 rfl) ?_
      refine z_iload_n (pc := 25) dX10_copy_25 rfl rfl ?_
      obtain ⟨k1, F⟩ := F
      refine q_aald (pc := 26) (j := (Int32.toNatClampNeg x1)) (r := 156 + 2 * (Int32.toNatClampNeg x1)) (t := 4) dX10_copy_26 (lyc rfl) (zvn (lnc rfl) k1) rfl (grS G (zvi k1)) ?_
      refine z_astore (pc := 27) (ls' := [some (.ref 0), some (.int x1), some (.int x2), some (.int x3), some (.int x4), some (.int x5), some (.ref (156 + 2 * (Int32.toNatClampNeg x1))), none]) dX10_copy_27 (by decide) rfl ?_
      refine z_aload_n (pc := 29) dX10_copy_29 rfl rfl ?_
      refine q_getR (pc := 30) (i := 154) dX10_copy_30 lk_RX10_59 (lyc rfl) (G 0 9 154 rfl) ?_
      refine z_iload_n (pc := 33) dX10_copy_33 rfl rfl ?_
      obtain ⟨k2, F⟩ := F
      refine q_aald (pc := 34) (j := (Int32.toNatClampNeg x3)) (r := 156 + 2 * (Int32.toNatClampNeg x3)) (t := 4) dX10_copy_34 (lyc rfl) (zvn (lnc rfl) k2) rfl (grS G (zvi k2)) ?_
      refine z_astore (pc := 35) (ls' := [some (.ref 0), some (.int x1), some (.int x2), some (.int x3), some (.int x4), some (.int x5), some (.ref (156 + 2 * (Int32.toNatClampNeg x1))), some (.ref (156 + 2 * (Int32.toNatClampNeg x3)))]) dX10_copy_35 (by decide) rfl ?_
      refine z_aload (pc := 37) dX10_copy_37 rfl ?_
      refine q_getI (pc := 39) (v := rI h (156 + 2 * (Int32.toNatClampNeg x1)) 0) dX10_copy_39 lk_RX10_361 (lySh0 (shS (zvi k1))) rfl ?_
      refine z_iconst (pc := 42) (v := -1) dX10_copy_42 (by decide) ?_
      refine z_icmp_eq (pc := 43) (tgt := 55) dX10_copy_43 (by decide) (fun k10 => ?_) (fun k10 => ?_)
      · replace F := F.1 k10
        refine z_bipush (pc := 55) (v := -11) dX10_copy_55 (by decide) ?_
        exact q_retI (pc := 57) dX10_copy_57 rfl F
      · replace F := F.2 k10
        refine z_aload (pc := 46) dX10_copy_46 rfl ?_
        refine q_getI (pc := 48) (v := rI h (156 + 2 * (Int32.toNatClampNeg x3)) 0) dX10_copy_48 lk_RX10_361 (lySh0 (shS (zvi k2))) rfl ?_
        refine z_iconst (pc := 51) (v := -1) dX10_copy_51 (by decide) ?_
        refine z_icmp_ne (pc := 52) (tgt := 58) dX10_copy_52 (by decide) (fun k9 => ?_) (fun k9 => ?_)
        · replace F := F.1 k9
          refine z_aload (pc := 58) dX10_copy_58 rfl ?_
          refine q_getI (pc := 60) (v := rI h (156 + 2 * (Int32.toNatClampNeg x1)) 0) dX10_copy_60 lk_RX10_361 (lySh0 (shS (zvi k1))) rfl ?_
          refine z_aload (pc := 63) dX10_copy_63 rfl ?_
          refine q_getI (pc := 65) (v := rI h (156 + 2 * (Int32.toNatClampNeg x3)) 0) dX10_copy_65 lk_RX10_361 (lySh0 (shS (zvi k2))) rfl ?_
          refine z_icmp_eq (pc := 68) (tgt := 74) dX10_copy_68 (by decide) (fun k8 => ?_) (fun k8 => ?_)
          · replace F := F.1 k8
            refine z_aload (pc := 74) dX10_copy_74 rfl ?_
            refine z_iload_n (pc := 76) dX10_copy_76 rfl rfl ?_
            refine z_iload (pc := 77) dX10_copy_77 rfl ?_
            refine q_invV (pc := 79) (As := [.int x2, .int x5]) (st := []) dX10_copy_79 ok_X5_spans ml_RX10_362 iv_X5_spans pa_X5_spans ⟨Nat.le_of_ble_eq_true rfl, Nat.le_of_ble_eq_true rfl⟩ (lySh0 (shS (zvi k1))) (q_kI F (fun vh1 h1 F => ?_))
            obtain ⟨G1, F⟩ := F
            refine z_if_eq (pc := 82) (tgt := 97) dX10_copy_82 (by decide) (fun k7 => ?_) (fun k7 => ?_)
            · replace F := F.1 k7
              refine z_bipush (pc := 97) (v := -12) dX10_copy_97 (by decide) ?_
              exact q_retI (pc := 99) dX10_copy_99 rfl F
            · replace F := F.2 k7
              refine z_aload (pc := 85) dX10_copy_85 rfl ?_
              refine z_iload (pc := 87) dX10_copy_87 rfl ?_
              refine z_iload (pc := 89) dX10_copy_89 rfl ?_
              refine q_invV (pc := 91) (As := [.int x4, .int x5]) (st := []) dX10_copy_91 ok_X5_spans ml_RX10_362 iv_X5_spans pa_X5_spans ⟨Nat.le_of_ble_eq_true rfl, Nat.le_of_ble_eq_true rfl⟩ (lySh0 (shS (zvi k2))) (q_kI F (fun vh2 h2 F => ?_))
              obtain ⟨G2, F⟩ := F
              refine z_if_ne (pc := 94) (tgt := 100) dX10_copy_94 (by decide) (fun k6 => ?_) (fun k6 => ?_)
              · replace F := F.1 k6
                refine z_aload (pc := 100) dX10_copy_100 rfl ?_
                refine q_getR (pc := 102) (i := 156 + 2 * (Int32.toNatClampNeg x1) + 1) dX10_copy_102 lk_RX10_358 (lySh0 (shS (zvi k1))) (grSh2 G2 (shS (zvi k1))) ?_
                refine z_iload_n (pc := 105) dX10_copy_105 rfl rfl ?_
                refine z_aload (pc := 106) dX10_copy_106 rfl ?_
                refine q_getR (pc := 108) (i := 156 + 2 * (Int32.toNatClampNeg x3) + 1) dX10_copy_108 lk_RX10_358 (lySh0 (shS (zvi k2))) (grSh2 G2 (shS (zvi k2))) ?_
                refine z_iload (pc := 111) dX10_copy_111 rfl ?_
                refine z_iload (pc := 113) dX10_copy_113 rfl ?_
                obtain ⟨k5, F⟩ := F
                refine q_copy (pc := 115) dX10_copy_115 ⟨pl_RX10_365, pw_acN, pw_acS, pw_Sys⟩ (lySh1 (shS (zvi k1))) (lySh1 (shS (zvi k2))) (lnSh1 (shS (zvi k1))) (lnSh1 (shS (zvi k2))) k5 ?_
                refine z_iload (pc := 118) dX10_copy_118 rfl ?_
                exact q_retI (pc := 120) dX10_copy_120 rfl F
              · replace F := F.2 k6
                refine z_bipush (pc := 97) (v := -12) dX10_copy_97 (by decide) ?_
                exact q_retI (pc := 99) dX10_copy_99 rfl F
          · replace F := F.2 k8
            refine z_bipush (pc := 71) (v := -13) dX10_copy_71 (by decide) ?_
            exact q_retI (pc := 73) dX10_copy_73 rfl F
        · replace F := F.2 k9
          refine z_bipush (pc := 55) (v := -11) dX10_copy_55 (by decide) ?_
          exact q_retI (pc := 57) dX10_copy_57 rfl F
    · replace F := F.2 (zb0.mp k11)
      refine z_bipush (pc := 18) (v := -2) dX10_copy_18 (by decide) ?_
      exact q_retI (pc := 20) dX10_copy_20 rfl F
theorem g_X11_copy {x1 : Int32} {x2 : Int32} {x3 : Int32} {x4 : Int32} {x5 : Int32} {h : zHp} {Q : Int32 → zHp → Prop}  (G : zG h) (F : (¬ (0 ≤ x1 ∧ x1 ≤ 3) → (Q (-2) h)) ∧ ((0 ≤ x1 ∧ x1 ≤ 3) → (((0 ≤ x3 ∧ x3 ≤ 3) → (vp_in x1 4 ∧ ((rI h 178 ((Int32.toNatClampNeg x1)) = -1 → (Q (-11) h)) ∧ (¬ (rI h 178 ((Int32.toNatClampNeg x1)) = -1) → (vp_in x3 4 ∧ ((¬ rI h 178 ((Int32.toNatClampNeg x3)) = -1 → ((rI h 178 ((Int32.toNatClampNeg x1)) = rI h 178 ((Int32.toNatClampNeg x3)) → ((x5 < 0 → (Q (-12) h)) ∧ (¬ (x5 < 0) → ((x2 < 0 → (Q (-12) h)) ∧ (¬ (x2 < 0) → ((x4 < 0 → (Q (-12) h)) ∧ (¬ (x4 < 0) → (((rI h 179 ((Int32.toNatClampNeg x1))) - x5 < x2 → (Q (-12) h)) ∧ (¬ ((rI h 179 ((Int32.toNatClampNeg x1))) - x5 < x2) → ((x4 ≤ (rI h 179 ((Int32.toNatClampNeg x3))) - x5 → (((40 * x3) + x4 ≤ (40 * x1) + x2 → (zlI M_X11_copy 128 [some (.ref 164), some (.int x1), some (.int x2), some (.int x3), some (.int x4), some (.int x5), some (.int 0), some (.int 0), none] [] h Q)) ∧ (¬ ((40 * x3) + x4 ≤ (40 * x1) + x2) → (zlI M_X11_copy 128 [some (.ref 164), some (.int x1), some (.int x2), some (.int x3), some (.int x4), some (.int x5), some (.int 1), some (.int 0), none] [] h Q)))) ∧ (¬ (x4 ≤ (rI h 179 ((Int32.toNatClampNeg x3))) - x5) → (Q (-12) h)))))))))))) ∧ (¬ (rI h 178 ((Int32.toNatClampNeg x1)) = rI h 178 ((Int32.toNatClampNeg x3))) → (Q (-13) h)))) ∧ (rI h 178 ((Int32.toNatClampNeg x3)) = -1 → (Q (-11) h)))))))) ∧ (¬ (0 ≤ x3 ∧ x3 ≤ 3) → (Q (-2) h))))) : zcI M_X11_copy [.ref 164, .int x1, .int x2, .int x3, .int x4, .int x5] h Q := by
  show zw zNT zNT M_X11_copy 0 [some (.ref 164), some (.int x1), some (.int x2), some (.int x3), some (.int x4), some (.int x5), none, none, none] [] h _
  refine z_iload_n (pc := 0) dX11_copy_0 rfl rfl ?_
  refine q_invS (pc := 1) (As := [.int x1]) (st := []) dX11_copy_1 ok_X11_isSheet ml_RX11_297 st_X11_isSheet pa_X11_isSheet ⟨Nat.le_of_ble_eq_true rfl, Nat.le_of_ble_eq_true rfl⟩ (q_pI (s_X11_isSheet G) rfl ?_)
  refine z_if_eq (pc := 4) (tgt := 14) dX11_copy_4 (by decide) (fun k13 => ?_) (fun k13 => ?_)
  · replace F := F.1 (zb0.mp k13)
    refine z_bipush (pc := 14) (v := -2) dX11_copy_14 (by decide) ?_
    exact q_retI (pc := 16) dX11_copy_16 rfl F
  · replace F := F.2 (zbn.mp k13)
    refine z_iload_n (pc := 7) dX11_copy_7 rfl rfl ?_
    refine q_invS (pc := 8) (As := [.int x3]) (st := []) dX11_copy_8 ok_X11_isSheet ml_RX11_297 st_X11_isSheet pa_X11_isSheet ⟨Nat.le_of_ble_eq_true rfl, Nat.le_of_ble_eq_true rfl⟩ (q_pI (s_X11_isSheet G) rfl ?_)
    refine z_if_ne (pc := 11) (tgt := 17) dX11_copy_11 (by decide) (fun k12 => ?_) (fun k12 => ?_)
    · replace F := F.1 (zbn.mp k12)
      refine z_aload_n (pc := 17) dX11_copy_17 rfl rfl ?_
      refine q_getR (pc := 18) (i := 178) dX11_copy_18 lk_RX11_75 (lyc rfl) (G 164 30 178 rfl) ?_
      refine z_iload_n (pc := 21) dX11_copy_21 rfl rfl ?_
      obtain ⟨k1, F⟩ := F
      refine q_iald (pc := 22) (j := (Int32.toNatClampNeg x1)) (v := rI h 178 ((Int32.toNatClampNeg x1))) dX11_copy_22 (lyc rfl) (zvn (lnc rfl) k1) rfl rfl ?_
      refine z_iconst (pc := 23) (v := -1) dX11_copy_23 (by decide) ?_
      refine z_icmp_eq (pc := 24) (tgt := 37) dX11_copy_24 (by decide) (fun k11 => ?_) (fun k11 => ?_)
      · replace F := F.1 k11
        refine z_bipush (pc := 37) (v := -11) dX11_copy_37 (by decide) ?_
        exact q_retI (pc := 39) dX11_copy_39 rfl F
      · replace F := F.2 k11
        refine z_aload_n (pc := 27) dX11_copy_27 rfl rfl ?_
        refine q_getR (pc := 28) (i := 178) dX11_copy_28 lk_RX11_75 (lyc rfl) (G 164 30 178 rfl) ?_
        refine z_iload_n (pc := 31) dX11_copy_31 rfl rfl ?_
        obtain ⟨k2, F⟩ := F
        refine q_iald (pc := 32) (j := (Int32.toNatClampNeg x3)) (v := rI h 178 ((Int32.toNatClampNeg x3))) dX11_copy_32 (lyc rfl) (zvn (lnc rfl) k2) rfl rfl ?_
        refine z_iconst (pc := 33) (v := -1) dX11_copy_33 (by decide) ?_
        refine z_icmp_ne (pc := 34) (tgt := 40) dX11_copy_34 (by decide) (fun k10 => ?_) (fun k10 => ?_)
        · replace F := F.1 k10
          refine z_aload_n (pc := 40) dX11_copy_40 rfl rfl ?_
          refine q_getR (pc := 41) (i := 178) dX11_copy_41 lk_RX11_75 (lyc rfl) (G 164 30 178 rfl) ?_
          refine z_iload_n (pc := 44) dX11_copy_44 rfl rfl ?_
          refine q_iald (pc := 45) (j := (Int32.toNatClampNeg x1)) (v := rI h 178 ((Int32.toNatClampNeg x1))) dX11_copy_45 (lyc rfl) (zvn (lnc rfl) k1) rfl rfl ?_
          refine z_aload_n (pc := 46) dX11_copy_46 rfl rfl ?_
          refine q_getR (pc := 47) (i := 178) dX11_copy_47 lk_RX11_75 (lyc rfl) (G 164 30 178 rfl) ?_
          refine z_iload_n (pc := 50) dX11_copy_50 rfl rfl ?_
          refine q_iald (pc := 51) (j := (Int32.toNatClampNeg x3)) (v := rI h 178 ((Int32.toNatClampNeg x3))) dX11_copy_51 (lyc rfl) (zvn (lnc rfl) k2) rfl rfl ?_
          refine z_icmp_eq (pc := 52) (tgt := 58) dX11_copy_52 (by decide) (fun k9 => ?_) (fun k9 => ?_)
          · replace F := F.1 k9
            refine z_iload (pc := 58) dX11_copy_58 rfl ?_
            refine z_if_lt (pc := 60) (tgt := 99) dX11_copy_60 (by decide) (fun k8 => ?_) (fun k8 => ?_)
            · replace F := F.1 k8
              refine z_bipush (pc := 99) (v := -12) dX11_copy_99 (by decide) ?_
              exact q_retI (pc := 101) dX11_copy_101 rfl F
            · replace F := F.2 k8
              refine z_iload_n (pc := 63) dX11_copy_63 rfl rfl ?_
              refine z_if_lt (pc := 64) (tgt := 99) dX11_copy_64 (by decide) (fun k7 => ?_) (fun k7 => ?_)
              · replace F := F.1 k7
                refine z_bipush (pc := 99) (v := -12) dX11_copy_99 (by decide) ?_
                exact q_retI (pc := 101) dX11_copy_101 rfl F
              · replace F := F.2 k7
                refine z_iload (pc := 67) dX11_copy_67 rfl ?_
                refine z_if_lt (pc := 69) (tgt := 99) dX11_copy_69 (by decide) (fun k6 => ?_) (fun k6 => ?_)
                · replace F := F.1 k6
                  refine z_bipush (pc := 99) (v := -12) dX11_copy_99 (by decide) ?_
                  exact q_retI (pc := 101) dX11_copy_101 rfl F
                · replace F := F.2 k6
                  refine z_iload_n (pc := 72) dX11_copy_72 rfl rfl ?_
                  refine z_aload_n (pc := 73) dX11_copy_73 rfl rfl ?_
                  refine q_getR (pc := 74) (i := 179) dX11_copy_74 lk_RX11_78 (lyc rfl) (G 164 31 179 rfl) ?_
                  refine z_iload_n (pc := 77) dX11_copy_77 rfl rfl ?_
                  refine q_iald (pc := 78) (j := (Int32.toNatClampNeg x1)) (v := rI h 179 ((Int32.toNatClampNeg x1))) dX11_copy_78 (lyc rfl) (zvn (lnc rfl) k1) rfl rfl ?_
                  refine z_iload (pc := 79) dX11_copy_79 rfl ?_
                  refine z_isub (pc := 81) dX11_copy_81 ?_
                  refine z_icmp_gt (pc := 82) (tgt := 99) dX11_copy_82 (by decide) (fun k5 => ?_) (fun k5 => ?_)
                  · replace F := F.1 k5
                    refine z_bipush (pc := 99) (v := -12) dX11_copy_99 (by decide) ?_
                    exact q_retI (pc := 101) dX11_copy_101 rfl F
                  · replace F := F.2 k5
                    refine z_iload (pc := 85) dX11_copy_85 rfl ?_
                    refine z_aload_n (pc := 87) dX11_copy_87 rfl rfl ?_
                    refine q_getR (pc := 88) (i := 179) dX11_copy_88 lk_RX11_78 (lyc rfl) (G 164 31 179 rfl) ?_
                    refine z_iload_n (pc := 91) dX11_copy_91 rfl rfl ?_
                    refine q_iald (pc := 92) (j := (Int32.toNatClampNeg x3)) (v := rI h 179 ((Int32.toNatClampNeg x3))) dX11_copy_92 (lyc rfl) (zvn (lnc rfl) k2) rfl rfl ?_
                    refine z_iload (pc := 93) dX11_copy_93 rfl ?_
                    refine z_isub (pc := 95) dX11_copy_95 ?_
                    refine z_icmp_le (pc := 96) (tgt := 102) dX11_copy_96 (by decide) (fun k4 => ?_) (fun k4 => ?_)
                    · replace F := F.1 k4
                      refine z_bipush (pc := 102) (v := 40) dX11_copy_102 (by decide) ?_
                      refine z_iload_n (pc := 104) dX11_copy_104 rfl rfl ?_
                      refine z_imul (pc := 105) dX11_copy_105 ?_
                      refine z_iload_n (pc := 106) dX11_copy_106 rfl rfl ?_
                      refine z_iadd (pc := 107) dX11_copy_107 ?_
                      refine z_bipush (pc := 108) (v := 40) dX11_copy_108 (by decide) ?_
                      refine z_iload_n (pc := 110) dX11_copy_110 rfl rfl ?_
                      refine z_imul (pc := 111) dX11_copy_111 ?_
                      refine z_iload (pc := 112) dX11_copy_112 rfl ?_
                      refine z_iadd (pc := 114) dX11_copy_114 ?_
                      refine z_icmp_ge (pc := 115) (tgt := 122) dX11_copy_115 (by decide) (fun k3 => ?_) (fun k3 => ?_)
                      · replace F := F.1 k3
                        refine z_iconst (pc := 122) (v := 0) dX11_copy_122 (by decide) ?_
                        refine z_istore (pc := 123) (ls' := [some (.ref 164), some (.int x1), some (.int x2), some (.int x3), some (.int x4), some (.int x5), some (.int 0), none, none]) dX11_copy_123 (by decide) rfl ?_
                        refine z_iconst (pc := 125) (v := 0) dX11_copy_125 (by decide) ?_
                        refine z_istore (pc := 126) (ls' := [some (.ref 164), some (.int x1), some (.int x2), some (.int x3), some (.int x4), some (.int x5), some (.int 0), some (.int 0), none]) dX11_copy_126 (by decide) rfl ?_
                        exact F
                      · replace F := F.2 k3
                        refine z_iconst (pc := 118) (v := 1) dX11_copy_118 (by decide) ?_
                        refine z_goto (pc := 119) (tgt := 123) dX11_copy_119 (by decide) ?_
                        refine z_istore (pc := 123) (ls' := [some (.ref 164), some (.int x1), some (.int x2), some (.int x3), some (.int x4), some (.int x5), some (.int 1), none, none]) dX11_copy_123 (by decide) rfl ?_
                        refine z_iconst (pc := 125) (v := 0) dX11_copy_125 (by decide) ?_
                        refine z_istore (pc := 126) (ls' := [some (.ref 164), some (.int x1), some (.int x2), some (.int x3), some (.int x4), some (.int x5), some (.int 1), some (.int 0), none]) dX11_copy_126 (by decide) rfl ?_
                        exact F
                    · replace F := F.2 k4
                      refine z_bipush (pc := 99) (v := -12) dX11_copy_99 (by decide) ?_
                      exact q_retI (pc := 101) dX11_copy_101 rfl F
          · replace F := F.2 k9
            refine z_bipush (pc := 55) (v := -13) dX11_copy_55 (by decide) ?_
            exact q_retI (pc := 57) dX11_copy_57 rfl F
        · replace F := F.2 k10
          refine z_bipush (pc := 37) (v := -11) dX11_copy_37 (by decide) ?_
          exact q_retI (pc := 39) dX11_copy_39 rfl F
    · replace F := F.2 (zb0.mp k12)
      refine z_bipush (pc := 14) (v := -2) dX11_copy_14 (by decide) ?_
      exact q_retI (pc := 16) dX11_copy_16 rfl F
theorem g_X11_copy_128 {x1 : Int32} {x2 : Int32} {x3 : Int32} {x4 : Int32} {x5 : Int32} {x6 : Int32} {x7 : Int32} {h : zHp} {Q : Int32 → zHp → Prop}  (G : zG h) (F : (x5 ≤ x7 → (Q x5 h)) ∧ (¬ (x5 ≤ x7) → ((x6 = 0 → (zlI M_X11_copy 152 [some (.ref 164), some (.int x1), some (.int x2), some (.int x3), some (.int x4), some (.int x5), some (.int x6), some (.int x7), none] [.int x7] h Q)) ∧ (¬ (x6 = 0) → (zlI M_X11_copy 152 [some (.ref 164), some (.int x1), some (.int x2), some (.int x3), some (.int x4), some (.int x5), some (.int x6), some (.int x7), none] [.int ((x5 - 1) - x7)] h Q))))) : zlI M_X11_copy 128 [some (.ref 164), some (.int x1), some (.int x2), some (.int x3), some (.int x4), some (.int x5), some (.int x6), some (.int x7), none] [] h Q := by
  refine z_iload (pc := 128) dX11_copy_128 rfl ?_
  refine z_iload (pc := 130) dX11_copy_130 rfl ?_
  refine z_icmp_ge (pc := 132) (tgt := 189) dX11_copy_132 (by decide) (fun k2 => ?_) (fun k2 => ?_)
  · replace F := F.1 k2
    refine z_iload (pc := 189) dX11_copy_189 rfl ?_
    exact q_retI (pc := 191) dX11_copy_191 rfl F
  · replace F := F.2 k2
    refine z_iload (pc := 135) dX11_copy_135 rfl ?_
    refine z_if_eq (pc := 137) (tgt := 150) dX11_copy_137 (by decide) (fun k1 => ?_) (fun k1 => ?_)
    · replace F := F.1 k1
      refine z_iload (pc := 150) dX11_copy_150 rfl ?_
      exact F
    · replace F := F.2 k1
      refine z_iload (pc := 140) dX11_copy_140 rfl ?_
      refine z_iconst (pc := 142) (v := 1) dX11_copy_142 (by decide) ?_
      refine z_isub (pc := 143) dX11_copy_143 ?_
      refine z_iload (pc := 144) dX11_copy_144 rfl ?_
      refine z_isub (pc := 146) dX11_copy_146 ?_
      refine z_goto (pc := 147) (tgt := 152) dX11_copy_147 (by decide) ?_
      exact F
theorem g_X11_copy_152 {x1 : Int32} {x2 : Int32} {x3 : Int32} {x4 : Int32} {x5 : Int32} {x6 : Int32} {x7 : Int32} {xs0 : Int32} {h : zHp} {Q : Int32 → zHp → Prop}  (G : zG h) (F : vp_in (((40 * x1) + x2) + xs0) 160 ∧ (vp_in (((40 * x3) + x4) + xs0) 160 ∧ (zlI M_X11_copy 128 [some (.ref 164), some (.int x1), some (.int x2), some (.int x3), some (.int x4), some (.int x5), some (.int x6), some (.int (x7 + 1)), none] [] (wI h 180 ((Int32.toNatClampNeg (((40 * x3) + x4) + xs0))) (rI h 180 ((Int32.toNatClampNeg (((40 * x1) + x2) + xs0))))) Q))) : zlI M_X11_copy 152 [some (.ref 164), some (.int x1), some (.int x2), some (.int x3), some (.int x4), some (.int x5), some (.int x6), some (.int x7), none] [.int xs0] h Q := by
  refine z_istore (pc := 152) (ls' := [some (.ref 164), some (.int x1), some (.int x2), some (.int x3), some (.int x4), some (.int x5), some (.int x6), some (.int x7), some (.int xs0)]) dX11_copy_152 (by decide) rfl ?_
  refine z_aload_n (pc := 154) dX11_copy_154 rfl rfl ?_
  refine q_getR (pc := 155) (i := 180) dX11_copy_155 lk_RX11_81 (lyc rfl) (G 164 32 180 rfl) ?_
  refine z_bipush (pc := 158) (v := 40) dX11_copy_158 (by decide) ?_
  refine z_iload_n (pc := 160) dX11_copy_160 rfl rfl ?_
  refine z_imul (pc := 161) dX11_copy_161 ?_
  refine z_iload (pc := 162) dX11_copy_162 rfl ?_
  refine z_iadd (pc := 164) dX11_copy_164 ?_
  refine z_iload (pc := 165) dX11_copy_165 rfl ?_
  refine z_iadd (pc := 167) dX11_copy_167 ?_
  refine z_aload_n (pc := 168) dX11_copy_168 rfl rfl ?_
  refine q_getR (pc := 169) (i := 180) dX11_copy_169 lk_RX11_81 (lyc rfl) (G 164 32 180 rfl) ?_
  refine z_bipush (pc := 172) (v := 40) dX11_copy_172 (by decide) ?_
  refine z_iload_n (pc := 174) dX11_copy_174 rfl rfl ?_
  refine z_imul (pc := 175) dX11_copy_175 ?_
  refine z_iload_n (pc := 176) dX11_copy_176 rfl rfl ?_
  refine z_iadd (pc := 177) dX11_copy_177 ?_
  refine z_iload (pc := 178) dX11_copy_178 rfl ?_
  refine z_iadd (pc := 180) dX11_copy_180 ?_
  obtain ⟨k1, F⟩ := F
  refine q_iald (pc := 181) (j := (Int32.toNatClampNeg (((40 * x1) + x2) + xs0))) (v := rI h 180 ((Int32.toNatClampNeg (((40 * x1) + x2) + xs0)))) dX11_copy_181 (lyc rfl) (zvn (lnc rfl) k1) rfl rfl ?_
  obtain ⟨k2, F⟩ := F
  refine q_iast (pc := 182) (j := (Int32.toNatClampNeg (((40 * x3) + x4) + xs0))) dX11_copy_182 (lyc rfl) (zvn (lnc rfl) k2) rfl ?_
  refine z_iinc (pc := 183) (v := x7 + 1) (ls' := [some (.ref 164), some (.int x1), some (.int x2), some (.int x3), some (.int x4), some (.int x5), some (.int x6), some (.int (x7 + 1)), some (.int xs0)]) dX11_copy_183 (by decide) rfl rfl rfl ?_
  refine z_goto (pc := 186) (tgt := 128) dX11_copy_186 (by decide) ?_
  exact q_sub (ls' := [some (.ref 164), some (.int x1), some (.int x2), some (.int x3), some (.int x4), some (.int x5), some (.int x6), some (.int (x7 + 1)), none]) ⟨rfl, rfl, rfl, rfl, rfl, rfl, rfl, rfl, trivial⟩ F
def spn (L : Nat) (i n : Int32) : Prop := 0 ≤ n.toInt ∧ 0 ≤ i.toInt ∧ i.toInt + n.toInt ≤ L
theorem lt_0x (x : Int32) : x < 0 ↔ x.toInt < 0 := by
  rw [Int32.lt_iff_toInt_lt]
  exact Iff.rfl
theorem s_X5_spans {c L : Nat} {i n : Int32} {h : zHp} (G : zG h) (hc : zSh c) (e : rI h c 1 = nI L) (hL : L ≤ 40) : zcI M_X5_spans [.ref c, .int i, .int n] h (fun r h' => r = zb (spn L i n) ∧ h' = h) := by
  refine g_X5_spans hc G ?_
  rw [e]
  have tL : (nI L).toInt = (L : Int) := nI_toInt (by omega)
  refine ⟨fun z => ⟨(zb_neg (fun y => ?_)).symm, rfl⟩, fun z => ⟨fun y => ⟨(zb_neg (fun x => ?_)).symm, rfl⟩, fun y => ⟨fun x => ⟨(zb_neg (fun w => x ?_)).symm, rfl⟩, fun x => ⟨(zb_pos ?_).symm, rfl⟩⟩⟩⟩
  · have := (lt_0x n).mp z
    have := y.1
    omega
  · have y' := Int32.lt_iff_toInt_lt.mp y
    rw [tL] at y'
    have := x.2.1
    have := x.2.2
    omega
  · have z' : ¬ n.toInt < 0 := fun q => z ((lt_0x n).mpr q)
    have y' : ¬ (L : Int) < n.toInt := fun q => y (Int32.lt_iff_toInt_lt.mpr (by rw [tL]; exact q))
    refine ⟨(iv_0' i).mpr w.2.1, Int32.le_iff_toInt_le.mpr ?_⟩
    rw [ti_sub (by rw [tL]; omega) (by rw [tL]; omega), tL]
    have := w.2.2
    omega
  · have z' : ¬ n.toInt < 0 := fun q => z ((lt_0x n).mpr q)
    have y' : ¬ (L : Int) < n.toInt := fun q => y (Int32.lt_iff_toInt_lt.mpr (by rw [tL]; exact q))
    have x1 := (iv_0' i).mp x.1
    have x2 := Int32.le_iff_toInt_le.mp x.2
    rw [ti_sub (by rw [tL]; omega) (by rw [tL]; omega), tL] at x2
    exact ⟨by omega, x1, by omega⟩
theorem spn_m {L : Nat} {i n : Int32} (hL : L ≤ 40) (h1 : ¬ n < 0) (h2 : ¬ i < 0) : spn L i n ↔ ¬ nI L - n < i := by
  have tL : (nI L).toInt = (L : Int) := nI_toInt (by omega)
  have z' : ¬ n.toInt < 0 := fun q => h1 ((lt_0x n).mpr q)
  have y' : ¬ i.toInt < 0 := fun q => h2 ((lt_0x i).mpr q)
  have nb := Int32.toInt_lt n
  rw [Int32.not_lt, Int32.le_iff_toInt_le, ti_sub (by rw [tL]; omega) (by rw [tL]; omega), tL]
  unfold spn
  constructor
  · intro w; omega
  · intro w; omega
theorem spn_n {L : Nat} {i n : Int32} (hL : L ≤ 40) (h : spn L i n) : ∃ p k, i = nI p ∧ n = nI k ∧ p + k ≤ L := by
  obtain ⟨a, b, c⟩ := h
  obtain ⟨p, hp, rfl⟩ := nI_of (x := i) (fun z => by have := (lt_0x i).mp z; omega)
  obtain ⟨k, hk, rfl⟩ := nI_of (x := n) (fun z => by have := (lt_0x n).mp z; omega)
  rw [nI_toInt hp, nI_toInt hk] at c
  exact ⟨p, k, rfl, rfl, by omega⟩
/-- a stretch of a row in another place of it -/
def mv (f : zN) (S D k : Nat) : zN := fun x => if D ≤ x ∧ x < D + k then f (S + (x - D)) else f x
theorem m_copy {a b p q k : Nat} {h : zHp} {up : Int32} (G : zG h) (ha : a < 4) (hb : b < 4) (hp : p + k ≤ 40) (hq : q + k ≤ 40) (hu : (up = 0 ∧ 40 * b + q ≤ 40 * a + p) ∨ (¬ up = 0 ∧ 40 * a + p < 40 * b + q)) : zlI M_X11_copy 128 [some (.ref 164), some (.int (nI a)), some (.int (nI p)), some (.int (nI b)), some (.int (nI q)), some (.int (nI k)), some (.int up), some (.int 0), none] [] h (fun v h' => v = nI k ∧ h' = wA h 180 (mv (h.1 180) (40 * a + p) (40 * b + q) k)) := by
  have ix : ∀ s i at_, s < 4 → i + at_ < 40 → ((40 * nI s) + nI i) + nI at_ = nI (40 * s + i + at_) := fun s i at_ _ _ => by rw [show (40 : Int32) = nI 40 from rfl, pk_mul, nI_add, nI_add]
  have loop : ∀ (r m : Nat) (g : zN), m + r = k → (∀ x, g x = if ((up = 0 ∧ 40 * b + q ≤ x ∧ x < 40 * b + q + m) ∨ (¬ up = 0 ∧ 40 * b + q + (k - m) ≤ x ∧ x < 40 * b + q + k)) then h.1 180 (40 * a + p + (x - (40 * b + q))) else h.1 180 x) → zlI M_X11_copy 128 [some (.ref 164), some (.int (nI a)), some (.int (nI p)), some (.int (nI b)), some (.int (nI q)), some (.int (nI k)), some (.int up), some (.int (nI m)), none] [] (wA h 180 g) (fun v h' => v = nI k ∧ h' = wA h 180 (mv (h.1 180) (40 * a + p) (40 * b + q) k)) := by
    intro r
    induction r with
    | zero =>
      intro m g hm hg
      have : m = k := by omega
      subst this
      refine g_X11_copy_128 (zG_of rfl G) ⟨fun _ => ⟨rfl, ?_⟩, fun z => absurd (Int32.le_refl _) z⟩
      congr 1
      funext x
      rw [hg x]
      unfold mv
      by_cases z : 40 * b + q ≤ x ∧ x < 40 * b + q + m
      · rw [if_pos z, if_pos (by rcases hu with w | w; exact Or.inl ⟨w.1, z⟩; exact Or.inr ⟨w.1, by omega⟩)]
      · rw [if_neg z, if_neg (fun y => by rcases y with y | y; exact z y.2; exact z (by omega))]
    | succ r ih =>
      intro m g hm hg
      have step : ∀ at_, at_ < k → (up = 0 → at_ = m) → (¬ up = 0 → at_ = k - 1 - m) → zlI M_X11_copy 152 [some (.ref 164), some (.int (nI a)), some (.int (nI p)), some (.int (nI b)), some (.int (nI q)), some (.int (nI k)), some (.int up), some (.int (nI m)), none] [.int (nI at_)] (wA h 180 g) (fun v h' => v = nI k ∧ h' = wA h 180 (mv (h.1 180) (40 * a + p) (40 * b + q) k)) := by
        intro at_ h1 h2 h3
        refine g_X11_copy_152 (zG_of rfl G) ?_
        rw [ix a p at_ ha (by omega), ix b q at_ hb (by omega), nI_clamp (n := 40 * a + p + at_) (by omega), nI_clamp (n := 40 * b + q + at_) (by omega), nI_1, rI_As, wA_wI]
        refine ⟨vp_in_nI (by omega) (by omega), vp_in_nI (by omega) (by omega), ih (m + 1) _ (by omega) (fun x => ?_)⟩
        have src : g (40 * a + p + at_) = h.1 180 (40 * a + p + at_) := by
          rw [hg]
          by_cases z : (up = 0 ∧ 40 * b + q ≤ 40 * a + p + at_ ∧ 40 * a + p + at_ < 40 * b + q + m) ∨ (¬ up = 0 ∧ 40 * b + q + (k - m) ≤ 40 * a + p + at_ ∧ 40 * a + p + at_ < 40 * b + q + k)
          · exfalso
            rcases z with z | z
            · have := h2 z.1
              rcases hu with w | w
              · omega
              · exact w.1 z.1
            · have := h3 z.1
              rcases hu with w | w
              · exact z.1 w.1
              · omega
          · rw [if_neg z]
        unfold upd
        by_cases e : x = 40 * b + q + at_
        · rw [if_pos e, src, if_pos (by
            rcases hu with w | w
            · have := h2 w.1
              exact Or.inl ⟨w.1, by omega⟩
            · have := h3 w.1
              exact Or.inr ⟨w.1, by omega⟩), show 40 * a + p + at_ = 40 * a + p + (x - (40 * b + q)) by omega]
        · rw [if_neg e, hg x]
          by_cases z : (up = 0 ∧ 40 * b + q ≤ x ∧ x < 40 * b + q + m) ∨ (¬ up = 0 ∧ 40 * b + q + (k - m) ≤ x ∧ x < 40 * b + q + k)
          · rw [if_pos z, if_pos (by
              rcases z with w | w
              · exact Or.inl ⟨w.1, by omega⟩
              · exact Or.inr ⟨w.1, by omega⟩)]
          · rw [if_neg z, if_neg (fun y => z (by
              rcases y with w | w
              · have := h2 w.1
                exact Or.inl ⟨w.1, by omega⟩
              · have := h3 w.1
                exact Or.inr ⟨w.1, by omega⟩))]
      refine g_X11_copy_128 (zG_of rfl G) ⟨fun z => absurd z (nI_ge (by omega) (by omega)), fun _ => ⟨fun z => step m (by omega) (fun _ => rfl) (fun y => absurd z y), fun z => ?_⟩⟩
      have e1 : nI k - 1 - nI m = nI (k - 1 - m) := by
        rw [show (1 : Int32) = nI 1 from rfl, pk_sub (by omega), pk_sub (by omega)]
      rw [e1]
      exact step _ (by omega) (fun y => absurd y z) (fun _ => rfl)
  have := loop k 0 (h.1 180) (by omega) (fun x => by
    rw [if_neg (fun y => by rcases y with y | y <;> omega)])
  rw [wA_id] at this
  exact this
theorem sim_copy {s i t j n : Int32} : Sim M_X10_copy M_X11_copy [.int s, .int i, .int t, .int j, .int n] := by
  intro h I
  have I0 := I
  obtain ⟨G, iq, ic, io⟩ := I
  have ih := io.2.2.2.2.2
  by_cases z1 : (0 : Int32) ≤ s ∧ s ≤ 3
  · by_cases z2 : (0 : Int32) ≤ t ∧ t ≤ 3
    · obtain ⟨a, ha, rfl⟩ := nI_of2 (x := s) (M := 3) (n := 3) rfl (Int32.not_lt.mpr z1.1) z1.2
      obtain ⟨b, hb, rfl⟩ := nI_of2 (x := t) (M := 3) (n := 3) rfl (Int32.not_lt.mpr z2.1) z2.2
      obtain ⟨⟨sa, sa3⟩, ⟨La, hLa, la, ma⟩, ita⟩ := ih a (by omega)
      obtain ⟨⟨sb, sb3⟩, ⟨Lb, hLb, lb, mb⟩, itb⟩ := ih b (by omega)
      have m : ∀ (v : Int32), (rI h 178 a = -1 → v = -11) → (¬ rI h 178 a = -1 → (rI h 178 b = -1 → v = -11) ∧ (¬ rI h 178 b = -1 → (¬ rI h 178 a = rI h 178 b → v = -13) ∧ (rI h 178 a = rI h 178 b → ¬ (spn La i n ∧ spn Lb j n) ∧ v = -12))) → zcI M_X11_copy [.ref 164, .int (nI a), .int i, .int (nI b), .int j, .int n] h (fun v' h2 => zG h2 ∧ v = v' ∧ INV h2) := by
        intro v k1 k2
        refine g_X11_copy G ⟨fun z => absurd z1 z, fun _ => ⟨fun _ => ⟨vp_in_nI (by omega) (by omega), ?_⟩, fun z => absurd z2 z⟩⟩
        rw [nI_clamp (n := a) (by omega), nI_clamp (n := b) (by omega), ma, mb]
        refine ⟨fun z => ⟨G, k1 z, I0⟩, fun z => ⟨vp_in_nI (by omega) (by omega), fun y => ⟨fun x => ?_, fun x => ⟨G, ((k2 z).2 y).1 x, I0⟩⟩, fun y => ⟨G, (k2 z).1 y, I0⟩⟩⟩
        obtain ⟨ns, ev⟩ := ((k2 z).2 y).2 x
        refine ⟨fun _ => ⟨G, ev, I0⟩, fun w1 => ⟨fun _ => ⟨G, ev, I0⟩, fun w2 => ⟨fun _ => ⟨G, ev, I0⟩, fun w3 => ⟨fun _ => ⟨G, ev, I0⟩, fun w4 => ⟨fun w5 => ?_, fun _ => ⟨G, ev, I0⟩⟩⟩⟩⟩⟩
        exact absurd ⟨(spn_m hLa w1 w2).mpr w4, (spn_m hLb w1 w3).mpr (Int32.not_lt.mpr w5)⟩ ns
      refine g_X10_copy G ⟨fun z => absurd z1 z, fun _ => ⟨fun _ => ⟨vp_in_nI (by omega) (by omega), vp_in_nI (by omega) (by omega), ?_⟩, fun z => absurd z2 z⟩⟩
      rw [nI_clamp (n := a) (by omega), nI_clamp (n := b) (by omega), sa, sb]
      refine ⟨fun z => ⟨G, m _ (fun _ => rfl) (fun y => absurd z y)⟩, fun z => ⟨fun y => ⟨fun x => ?_, fun x => ⟨G, m _ (fun w => absurd w z) (fun _ => ⟨fun w => absurd w y, fun _ => ⟨fun _ => rfl, fun w => absurd w x⟩⟩)⟩⟩, fun y => ⟨G, m _ (fun _ => rfl) (fun _ => ⟨fun _ => rfl, fun w => absurd y w⟩)⟩⟩⟩
      refine zcI_use (s_X5_spans G (shS (by omega)) la hLa) ⟨G, fun w => ⟨G, m _ (fun u => absurd u z) (fun _ => ⟨fun u => absurd u y, fun _ => ⟨fun u => absurd x u, fun _ => ⟨fun u => (zb0.mp w) u.1, rfl⟩⟩⟩)⟩, fun w1 => ?_⟩
      refine zcI_use (s_X5_spans G (shS (by omega)) lb hLb) ⟨G, fun w2 => ?_, fun w => ⟨G, m _ (fun u => absurd u z) (fun _ => ⟨fun u => absurd u y, fun _ => ⟨fun u => absurd x u, fun _ => ⟨fun u => (zb0.mp w) u.2, rfl⟩⟩⟩)⟩⟩
      have s1 := zbn.mp w1
      have s2 := zbn.mp w2
      obtain ⟨p, k, rfl, rfl, hp⟩ := spn_n hLa s1
      obtain ⟨q, k', rfl, ek, hq⟩ := spn_n hLb s2
      have kb : k < 2 ^ 31 := by omega
      have kb' : k' < 2 ^ 31 := by omega
      have : k' = k := ((nI_eq kb kb').mp ek).symm
      subst this
      rw [nI_clamp (n := p) (by omega), nI_clamp (n := q) (by omega), nI_clamp (n := k') (by omega)]
      refine ⟨⟨nI_pos (by omega), nI_pos (by omega), nI_pos (by omega), by rw [nI_clamp (by omega), nI_clamp (by omega)]; omega, by rw [nI_clamp (by omega), nI_clamp (by omega)]; omega⟩, zG_of rfl G, ?_⟩
      have Gc : zG (wC h (156 + 2 * a + 1) p (156 + 2 * b + 1) q k') := zG_of rfl G
      have fc : ∀ x, x ≠ 156 + 2 * b + 1 → (wC h (156 + 2 * a + 1) p (156 + 2 * b + 1) q k').1 x = h.1 x := fun x hx => wC_ne hx
      have rc : ∀ x y, x ≠ 156 + 2 * b + 1 → rI (wC h (156 + 2 * a + 1) p (156 + 2 * b + 1) q k') x y = rI h x y := fun x y hx => by show (wC h _ p _ q k').1 x y = h.1 x y; rw [fc x hx]
      refine g_X11_copy Gc ⟨fun z => absurd z1 z, fun _ => ⟨fun _ => ⟨vp_in_nI (by omega) (by omega), ?_⟩, fun z => absurd z2 z⟩⟩
      rw [nI_clamp (n := a) (by omega), nI_clamp (n := b) (by omega), rc 178 a (by omega), rc 178 b (by omega), rc 179 a (by omega), rc 179 b (by omega), ma, mb]
      have fin : ∀ up : Int32, ((up = 0 ∧ 40 * b + q ≤ 40 * a + p) ∨ (¬ up = 0 ∧ 40 * a + p < 40 * b + q)) → zlI M_X11_copy 128 [some (.ref 164), some (.int (nI a)), some (.int (nI p)), some (.int (nI b)), some (.int (nI q)), some (.int (nI k')), some (.int up), some (.int 0), none] [] (wC h (156 + 2 * a + 1) p (156 + 2 * b + 1) q k') (fun v' h2 => zG h2 ∧ nI k' = v' ∧ INV h2) := by
        intro up hu
        refine zw.mono (m_copy Gc (by omega) (by omega) (by omega) (by omega) hu) (fun r h2 hr => ?_)
        obtain ⟨v, rfl, ev, rfl⟩ := hr
        refine ⟨v, rfl, zG_of rfl G, ev.symm, ?_⟩
        rw [fc 180 (by omega)]
        refine INV_sh (s := b) (h1 := wC h (156 + 2 * a + 1) p (156 + 2 * b + 1) q k') I0 (by omega) rfl (fun x _ w => fc x w) ⟨rfl, fun x hx => wA_n (by omega), fun x _ => by rw [wA_n (by decide)], fun x _ => ⟨rI_An (by decide), rI_An (by decide)⟩, fun x hx => ?_⟩ ?_ ?_ ⟨Lb, hLb, ?_, ?_⟩ (fun x hx => ?_)
        · rw [rI_As, rc 180 x (by omega)]
          unfold mv
          rw [if_neg (by omega)]
          rfl
        · rw [rc _ _ (by omega), rI_An (by decide), rc 178 b (by omega)]; exact sb
        · rw [rI_An (by decide), rc 178 b (by omega)]; exact sb3
        · rw [rc _ _ (by omega)]; exact lb
        · rw [rI_An (by decide), rc 179 b (by omega)]; exact mb
        · rw [rI_As]
          show (if 156 + 2 * b + 1 = 156 + 2 * b + 1 then va_cpy (h.1 (156 + 2 * a + 1)) (h.1 (156 + 2 * b + 1)) p q k' x else h.1 (156 + 2 * b + 1) x) = _
          rw [if_pos rfl]
          unfold mv
          by_cases w : q ≤ x ∧ x < q + k'
          · rw [pk_cpy_in w.1 w.2, if_pos (by omega)]
            have := ita (p + (x - q)) (by omega)
            rw [show 40 * a + p + (40 * b + x - (40 * b + q)) = 40 * a + (p + (x - q)) by omega]
            exact this
          · rw [pk_cpy_out (by omega), if_neg (by omega)]
            exact itb x hx
      have e1 : (40 : Int32) * nI b + nI q = nI (40 * b + q) := by rw [show (40 : Int32) = nI 40 from rfl, pk_mul, nI_add]
      have e2 : (40 : Int32) * nI a + nI p = nI (40 * a + p) := by rw [show (40 : Int32) = nI 40 from rfl, pk_mul, nI_add]
      rw [e1, e2]
      have n1 : ¬ nI k' < 0 := nI_pos (by omega)
      refine ⟨fun w => absurd w z, fun _ => ⟨vp_in_nI (by omega) (by omega), fun _ => ⟨fun _ => ⟨fun w => absurd w n1, fun _ => ⟨fun w => absurd w (nI_pos (by omega)), fun _ => ⟨fun w => absurd w (nI_pos (by omega)), fun _ => ⟨fun w => absurd w ((spn_m hLa n1 (nI_pos (by omega))).mp s1), fun _ => ⟨fun _ => ⟨fun w => fin 0 (Or.inl ⟨rfl, (nI_leI (by omega) (by omega)).mp w⟩), fun w => fin 1 (Or.inr ⟨by decide, ?_⟩)⟩, fun w => absurd (Int32.not_lt.mp ((spn_m hLb n1 (nI_pos (by omega))).mp s2)) w⟩⟩⟩⟩⟩, fun w => absurd x w⟩, fun w => absurd w y⟩⟩
      exact Nat.lt_of_not_le (fun u => w (nI_le u (by omega)))
    · refine g_X10_copy G ⟨fun z => absurd z1 z, fun _ => ⟨fun z => absurd z z2, fun _ => ⟨G, g_X11_copy G ⟨fun z => absurd z1 z, fun _ => ⟨fun z => absurd z z2, fun _ => ⟨G, rfl, I0⟩⟩⟩⟩⟩⟩
  · exact g_X10_copy G ⟨fun _ => ⟨G, g_X11_copy G ⟨fun _ => ⟨G, rfl, I0⟩, fun z => absurd z z1⟩⟩, fun z => absurd z z1⟩

