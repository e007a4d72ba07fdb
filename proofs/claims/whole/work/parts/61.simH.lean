/-! calls: hurt, next -/
theorem g_X0_begin  {h : zHp} {Q : zHp → Prop}  (G : zG h) (F : Q (wI h 1 5 0)) : zcV M_X0_begin [.ref 1] h Q := by
  show zw zNT zNT M_X0_begin 0 [some (.ref 1)] [] h _
  refine z_aload_n (pc := 0) dX0_begin_0 rfl rfl ?_
  refine z_iconst (pc := 1) (v := 0) dX0_begin_1 (by decide) ?_
  refine q_putI (pc := 2) dX0_begin_2 lk_RX0_42 (lyc rfl) ?_
  exact q_retV (pc := 5) dX0_begin_5 rfl F
theorem g_X10_refuseLoop {x1 : Int32} {h : zHp} {Q : Int32 → zHp → Prop}  (G : zG h) (F : (x1 = -5 → (zAc 0 0 40 40 40 ∧ (zcV M_X8_copyFrom [.ref 2, .ref 53] (wC (wI h 0 11 40) 52 (Int32.toNatClampNeg 0) 155 (Int32.toNatClampNeg 0) (Int32.toNatClampNeg 40)) (fun h1 => zG h1 ∧ (zcV M_X2_make [.ref 42, .ref 2, .int 5] h1 (fun h2 => zG h2 ∧ (Q (-5) h2))))))) ∧ (¬ (x1 = -5) → (Q x1 h))) : zcI M_X10_refuseLoop [.ref 0, .int x1] h Q := by
  show zw zNT zNT M_X10_refuseLoop 0 [some (.ref 0), some (.int x1)] [] h _
  refine z_iload_n (pc := 0) dX10_refuseLoop_0 rfl rfl ?_
  refine z_bipush (pc := 1) (v := -5) dX10_refuseLoop_1 (by decide) ?_
  refine z_icmp_eq (pc := 3) (tgt := 8) dX10_refuseLoop_3 (by decide) (fun k4 => ?_) (fun k4 => ?_)
  · replace F := F.1 k4
    refine z_aload_n (pc := 8) dX10_refuseLoop_8 rfl rfl ?_
    refine z_bipush (pc := 9) (v := 40) dX10_refuseLoop_9 (by decide) ?_
    refine q_putI (pc := 11) dX10_refuseLoop_11 lk_RX10_75 (lyc rfl) ?_
    refine z_aload_n (pc := 14) dX10_refuseLoop_14 rfl rfl ?_
    refine q_getR (pc := 15) (i := 1) dX10_refuseLoop_15 lk_RX10_10 (lyc rfl) (G 0 0 1 rfl) ?_
    refine q_getR (pc := 18) (i := 52) dX10_refuseLoop_18 lk_RX10_377 (lyc rfl) (G 1 6 52 rfl) ?_
    refine z_iconst (pc := 21) (v := 0) dX10_refuseLoop_21 (by decide) ?_
    refine z_aload_n (pc := 22) dX10_refuseLoop_22 rfl rfl ?_
    refine q_getR (pc := 23) (i := 155) dX10_refuseLoop_23 lk_RX10_63 (lyc rfl) (G 0 10 155 rfl) ?_
    refine z_iconst (pc := 26) (v := 0) dX10_refuseLoop_26 (by decide) ?_
    refine z_bipush (pc := 27) (v := 40) dX10_refuseLoop_27 (by decide) ?_
    obtain ⟨k3, F⟩ := F
    refine q_copy (pc := 29) dX10_refuseLoop_29 ⟨pl_RX10_365, pw_acN, pw_acS, pw_Sys⟩ (lyc rfl) (lyc rfl) (lnc rfl) (lnc rfl) k3 ?_
    refine z_aload_n (pc := 32) dX10_refuseLoop_32 rfl rfl ?_
    refine q_getR (pc := 33) (i := 2) dX10_refuseLoop_33 lk_RX10_20 (lyc rfl) (G 0 1 2 rfl) ?_
    refine z_aload_n (pc := 36) dX10_refuseLoop_36 rfl rfl ?_
    refine q_getR (pc := 37) (i := 53) dX10_refuseLoop_37 lk_RX10_31 (lyc rfl) (G 0 3 53 rfl) ?_
    refine q_invV (pc := 40) (As := [.ref 53]) (st := []) dX10_refuseLoop_40 ok_X8_copyFrom ml_RX10_253 iv_X8_copyFrom pa_X8_copyFrom ⟨Nat.le_of_ble_eq_true rfl, Nat.le_of_ble_eq_true rfl⟩ (lyc rfl) (q_kV F (fun h1 F => ?_))
    obtain ⟨G1, F⟩ := F
    refine z_aload_n (pc := 43) dX10_refuseLoop_43 rfl rfl ?_
    refine q_getR (pc := 44) (i := 42) dX10_refuseLoop_44 lk_RX10_27 (lyc rfl) (G1 0 2 42 rfl) ?_
    refine z_aload_n (pc := 47) dX10_refuseLoop_47 rfl rfl ?_
    refine q_getR (pc := 48) (i := 2) dX10_refuseLoop_48 lk_RX10_20 (lyc rfl) (G1 0 1 2 rfl) ?_
    refine z_iconst (pc := 51) (v := 5) dX10_refuseLoop_51 (by decide) ?_
    refine q_invV (pc := 52) (As := [.ref 2, .int 5]) (st := []) dX10_refuseLoop_52 ok_X2_make ml_RX10_78 iv_X2_make pa_X2_make ⟨Nat.le_of_ble_eq_true rfl, Nat.le_of_ble_eq_true rfl⟩ (lyc rfl) (q_kV F (fun h2 F => ?_))
    obtain ⟨G2, F⟩ := F
    refine z_bipush (pc := 55) (v := -5) dX10_refuseLoop_55 (by decide) ?_
    exact q_retI (pc := 57) dX10_refuseLoop_57 rfl F
  · replace F := F.2 k4
    refine z_iload_n (pc := 6) dX10_refuseLoop_6 rfl rfl ?_
    exact q_retI (pc := 7) dX10_refuseLoop_7 rfl F
theorem g_X10_hurt {x1 : Int32} {x2 : Int32} {h : zHp} {Q : Int32 → zHp → Prop}  (G : zG h) (F : (¬ (0 ≤ x1 ∧ x1 ≤ (rI h 2 1) - 1) → (Q (-2) h)) ∧ ((0 ≤ x1 ∧ x1 ≤ (rI h 2 1) - 1) → ((((1 : Int32) ≤ x2 ∧ x2 ≤ 99) → (vp_in x1 8 ∧ ((¬ rI h (8 + (Int32.toNatClampNeg x1)) 5 = 0 → (zcV M_X8_copyFrom [.ref 53, .ref 2] h (fun h1 => zG h1 ∧ (zcV M_X0_begin [.ref 1] h1 (fun h2 => zG h2 ∧ (zcV M_X0_strike [.ref 1, .int x1, .int x2] h2 (fun h3 => zG h3 ∧ (zcI M_X0_finish [.ref 1] h3 (fun vh4 h4 => zG h4 ∧ (zcI M_X10_refuseLoop [.ref 0, .int vh4] h4 (fun vh5 h5 => zG h5 ∧ (Q vh5 h5)))))))))))) ∧ (rI h (8 + (Int32.toNatClampNeg x1)) 5 = 0 → (Q (-3) h))))) ∧ (¬ ((1 : Int32) ≤ x2 ∧ x2 ≤ 99) → (Q (-2) h))))) : zcI M_X10_hurt [.ref 0, .int x1, .int x2] h Q := by
  show zw zNT zNT M_X10_hurt 0 [some (.ref 0), some (.int x1), some (.int x2)] [] h _
  refine z_aload_n (pc := 0) dX10_hurt_0 rfl rfl ?_
  refine q_getR (pc := 1) (i := 2) dX10_hurt_1 lk_RX10_20 (lyc rfl) (G 0 1 2 rfl) ?_
  refine z_iload_n (pc := 4) dX10_hurt_4 rfl rfl ?_
  refine q_invV (pc := 5) (As := [.int x1]) (st := []) dX10_hurt_5 ok_X8_hasThing ml_RX10_94 iv_X8_hasThing pa_X8_hasThing ⟨Nat.le_of_ble_eq_true rfl, Nat.le_of_ble_eq_true rfl⟩ (lyc rfl) (q_pI (s_X8_hasThing G (Or.inl rfl)) rfl ?_)
  refine z_if_eq (pc := 8) (tgt := 21) dX10_hurt_8 (by decide) (fun k9 => ?_) (fun k9 => ?_)
  · replace F := F.1 (zb0.mp k9)
    refine z_bipush (pc := 21) (v := -2) dX10_hurt_21 (by decide) ?_
    exact q_retI (pc := 23) dX10_hurt_23 rfl F
  · replace F := F.2 (zbn.mp k9)
    refine z_iload_n (pc := 11) dX10_hurt_11 rfl rfl ?_
    refine z_iconst (pc := 12) (v := 1) dX10_hurt_12 (by decide) ?_
    refine z_bipush (pc := 13) (v := 99) dX10_hurt_13 (by decide) ?_
    refine q_invS (pc := 15) (As := [.int x2, .int 1, .int 99]) (st := []) dX10_hurt_15 ok_X10_within ml_RX10_82 st_X10_within pa_X10_within ⟨Nat.le_of_ble_eq_true rfl, Nat.le_of_ble_eq_true rfl⟩ (q_pI (s_X10_within G) rfl ?_)
    refine z_if_ne (pc := 18) (tgt := 24) dX10_hurt_18 (by decide) (fun k8 => ?_) (fun k8 => ?_)
    · replace F := F.1 (zbn.mp k8)
      refine z_aload_n (pc := 24) dX10_hurt_24 rfl rfl ?_
      refine q_getR (pc := 25) (i := 2) dX10_hurt_25 lk_RX10_20 (lyc rfl) (G 0 1 2 rfl) ?_
      refine q_getR (pc := 28) (i := 3) dX10_hurt_28 lk_RX10_98 (lyc rfl) (G 2 0 3 rfl) ?_
      refine z_iload_n (pc := 31) dX10_hurt_31 rfl rfl ?_
      obtain ⟨k1, F⟩ := F
      refine q_aald (pc := 32) (j := (Int32.toNatClampNeg x1)) (r := 8 + (Int32.toNatClampNeg x1)) (t := 0) dX10_hurt_32 (lyc rfl) (zvn (lnc rfl) k1) rfl (grT (B := 2) G (Or.inl rfl) (zvi k1)) ?_
      refine q_getI (pc := 33) (v := rI h (8 + (Int32.toNatClampNeg x1)) 5) dX10_hurt_33 lk_RX10_119 (lyT (B := 2) (Or.inl rfl) (zvi k1)) rfl ?_
      refine z_if_ne (pc := 36) (tgt := 42) dX10_hurt_36 (by decide) (fun k7 => ?_) (fun k7 => ?_)
      · replace F := F.1 k7
        refine z_aload_n (pc := 42) dX10_hurt_42 rfl rfl ?_
        refine q_getR (pc := 43) (i := 53) dX10_hurt_43 lk_RX10_31 (lyc rfl) (G 0 3 53 rfl) ?_
        refine z_aload_n (pc := 46) dX10_hurt_46 rfl rfl ?_
        refine q_getR (pc := 47) (i := 2) dX10_hurt_47 lk_RX10_20 (lyc rfl) (G 0 1 2 rfl) ?_
        refine q_invV (pc := 50) (As := [.ref 2]) (st := []) dX10_hurt_50 ok_X8_copyFrom ml_RX10_253 iv_X8_copyFrom pa_X8_copyFrom ⟨Nat.le_of_ble_eq_true rfl, Nat.le_of_ble_eq_true rfl⟩ (lyc rfl) (q_kV F (fun h1 F => ?_))
        obtain ⟨G1, F⟩ := F
        refine z_aload_n (pc := 53) dX10_hurt_53 rfl rfl ?_
        refine q_getR (pc := 54) (i := 1) dX10_hurt_54 lk_RX10_10 (lyc rfl) (G1 0 0 1 rfl) ?_
        refine q_invV (pc := 57) (As := []) (st := []) dX10_hurt_57 ok_X0_begin ml_RX10_257 iv_X0_begin pa_X0_begin ⟨Nat.le_of_ble_eq_true rfl, Nat.le_of_ble_eq_true rfl⟩ (lyc rfl) (q_kV F (fun h2 F => ?_))
        obtain ⟨G2, F⟩ := F
        refine z_aload_n (pc := 60) dX10_hurt_60 rfl rfl ?_
        refine q_getR (pc := 61) (i := 1) dX10_hurt_61 lk_RX10_10 (lyc rfl) (G2 0 0 1 rfl) ?_
        refine z_iload_n (pc := 64) dX10_hurt_64 rfl rfl ?_
        refine z_iload_n (pc := 65) dX10_hurt_65 rfl rfl ?_
        refine q_invV (pc := 66) (As := [.int x1, .int x2]) (st := []) dX10_hurt_66 ok_X0_strike ml_RX10_260 iv_X0_strike pa_X0_strike ⟨Nat.le_of_ble_eq_true rfl, Nat.le_of_ble_eq_true rfl⟩ (lyc rfl) (q_kV F (fun h3 F => ?_))
        obtain ⟨G3, F⟩ := F
        refine z_aload_n (pc := 69) dX10_hurt_69 rfl rfl ?_
        refine z_aload_n (pc := 70) dX10_hurt_70 rfl rfl ?_
        refine q_getR (pc := 71) (i := 1) dX10_hurt_71 lk_RX10_10 (lyc rfl) (G3 0 0 1 rfl) ?_
        refine q_invV (pc := 74) (As := []) (st := [.ref 0]) dX10_hurt_74 ok_X0_finish ml_RX10_264 iv_X0_finish pa_X0_finish ⟨Nat.le_of_ble_eq_true rfl, Nat.le_of_ble_eq_true rfl⟩ (lyc rfl) (q_kI F (fun vh4 h4 F => ?_))
        obtain ⟨G4, F⟩ := F
        refine q_invV (pc := 77) (As := [.int vh4]) (st := []) dX10_hurt_77 ok_X10_refuseLoop ml_RX10_267 iv_X10_refuseLoop pa_X10_refuseLoop ⟨Nat.le_of_ble_eq_true rfl, Nat.le_of_ble_eq_true rfl⟩ (lyc rfl) (q_kI F (fun vh5 h5 F => ?_))
        obtain ⟨G5, F⟩ := F
        exact q_retI (pc := 80) dX10_hurt_80 rfl F
      · replace F := F.2 k7
        refine z_bipush (pc := 39) (v := -3) dX10_hurt_39 (by decide) ?_
        exact q_retI (pc := 41) dX10_hurt_41 rfl F
    · replace F := F.2 (zb0.mp k8)
      refine z_bipush (pc := 21) (v := -2) dX10_hurt_21 (by decide) ?_
      exact q_retI (pc := 23) dX10_hurt_23 rfl F
theorem g_X11_hurt {x1 : Int32} {x2 : Int32} {h : zHp} {Q : Int32 → zHp → Prop}  (G : zG h) (F : (¬ (0 ≤ x1 ∧ x1 ≤ rI h 165 238 - 1) → (Q (-2) h)) ∧ ((0 ≤ x1 ∧ x1 ≤ rI h 165 238 - 1) → ((((1 : Int32) ≤ x2 ∧ x2 ≤ 99) → (zCt (rI h 165 238) 8 ∧ (((aliveM h x1) → (zcV M_X11_begins [.ref 164] h (fun h1 => zG h1 ∧ (zcV M_X11_hurts [.ref 164, .int x1, .int x2] h1 (fun h2 => zG h2 ∧ (zcI M_X11_goesThrough [.ref 164] h2 (fun vh3 h3 => zG h3 ∧ (Q vh3 h3)))))))) ∧ (¬ (aliveM h x1) → (Q (-3) h))))) ∧ (¬ ((1 : Int32) ≤ x2 ∧ x2 ≤ 99) → (Q (-2) h))))) : zcI M_X11_hurt [.ref 164, .int x1, .int x2] h Q := by
  show zw zNT zNT M_X11_hurt 0 [some (.ref 164), some (.int x1), some (.int x2)] [] h _
  refine z_aload_n (pc := 0) dX11_hurt_0 rfl rfl ?_
  refine z_iload_n (pc := 1) dX11_hurt_1 rfl rfl ?_
  refine q_invV (pc := 2) (As := [.int x1]) (st := []) dX11_hurt_2 ok_X11_isThing ml_RX11_88 iv_X11_isThing pa_X11_isThing ⟨Nat.le_of_ble_eq_true rfl, Nat.le_of_ble_eq_true rfl⟩ (lyc rfl) (q_pI (s_X11_isThing G) rfl ?_)
  refine z_if_eq (pc := 5) (tgt := 18) dX11_hurt_5 (by decide) (fun k7 => ?_) (fun k7 => ?_)
  · replace F := F.1 (zb0.mp k7)
    refine z_bipush (pc := 18) (v := -2) dX11_hurt_18 (by decide) ?_
    exact q_retI (pc := 20) dX11_hurt_20 rfl F
  · replace F := F.2 (zbn.mp k7)
    refine z_iload_n (pc := 8) dX11_hurt_8 rfl rfl ?_
    refine z_iconst (pc := 9) (v := 1) dX11_hurt_9 (by decide) ?_
    refine z_bipush (pc := 10) (v := 99) dX11_hurt_10 (by decide) ?_
    refine q_invS (pc := 12) (As := [.int x2, .int 1, .int 99]) (st := []) dX11_hurt_12 ok_X11_in ml_RX11_84 st_X11_in pa_X11_in ⟨Nat.le_of_ble_eq_true rfl, Nat.le_of_ble_eq_true rfl⟩ (q_pI (s_X11_in G) rfl ?_)
    refine z_if_ne (pc := 15) (tgt := 21) dX11_hurt_15 (by decide) (fun k6 => ?_) (fun k6 => ?_)
    · replace F := F.1 (zbn.mp k6)
      refine z_aload_n (pc := 21) dX11_hurt_21 rfl rfl ?_
      refine z_iload_n (pc := 22) dX11_hurt_22 rfl rfl ?_
      obtain ⟨k1, F⟩ := F
      refine q_invV (pc := 23) (As := [.int x1]) (st := []) dX11_hurt_23 ok_X11_isAlive ml_RX11_100 iv_X11_isAlive pa_X11_isAlive ⟨Nat.le_of_ble_eq_true rfl, Nat.le_of_ble_eq_true rfl⟩ (lyc rfl) (q_pI (s_X11_isAlive G k1) rfl ?_)
      refine z_if_ne (pc := 26) (tgt := 32) dX11_hurt_26 (by decide) (fun k5 => ?_) (fun k5 => ?_)
      · replace F := F.1 (zbn.mp k5)
        refine z_aload_n (pc := 32) dX11_hurt_32 rfl rfl ?_
        refine q_invV (pc := 33) (As := []) (st := []) dX11_hurt_33 ok_X11_begins ml_RX11_236 iv_X11_begins pa_X11_begins ⟨Nat.le_of_ble_eq_true rfl, Nat.le_of_ble_eq_true rfl⟩ (lyc rfl) (q_kV F (fun h1 F => ?_))
        obtain ⟨G1, F⟩ := F
        refine z_aload_n (pc := 36) dX11_hurt_36 rfl rfl ?_
        refine z_iload_n (pc := 37) dX11_hurt_37 rfl rfl ?_
        refine z_iload_n (pc := 38) dX11_hurt_38 rfl rfl ?_
        refine q_invV (pc := 39) (As := [.int x1, .int x2]) (st := []) dX11_hurt_39 ok_X11_hurts ml_RX11_224 iv_X11_hurts pa_X11_hurts ⟨Nat.le_of_ble_eq_true rfl, Nat.le_of_ble_eq_true rfl⟩ (lyc rfl) (q_kV F (fun h2 F => ?_))
        obtain ⟨G2, F⟩ := F
        refine z_aload_n (pc := 42) dX11_hurt_42 rfl rfl ?_
        refine q_invV (pc := 43) (As := []) (st := []) dX11_hurt_43 ok_X11_goesThrough ml_RX11_239 iv_X11_goesThrough pa_X11_goesThrough ⟨Nat.le_of_ble_eq_true rfl, Nat.le_of_ble_eq_true rfl⟩ (lyc rfl) (q_kI F (fun vh3 h3 F => ?_))
        obtain ⟨G3, F⟩ := F
        exact q_retI (pc := 46) dX11_hurt_46 rfl F
      · replace F := F.2 (zb0.mp k5)
        refine z_bipush (pc := 29) (v := -3) dX11_hurt_29 (by decide) ?_
        exact q_retI (pc := 31) dX11_hurt_31 rfl F
    · replace F := F.2 (zb0.mp k6)
      refine z_bipush (pc := 18) (v := -2) dX11_hurt_18 (by decide) ?_
      exact q_retI (pc := 20) dX11_hurt_20 rfl F
theorem Fn_IQ : ∀ (m k : Nat) (N : zN) (s : Stk) (D : zN), FI k N s → IQ (Fn m N s k D).2.1 := by
  intro m
  induction m with
  | zero =>
    intro k N s D h
    rw [Fn]
    split
    · exact ⟨h.1, h.2.1, h.2.2.1⟩
    · exact ⟨h.1, h.2.1, h.2.2.1⟩
  | succ m ih =>
    intro k N s D h
    rw [Fn]
    by_cases s0 : s.2.2 = 0
    · rw [if_pos s0]; exact ⟨h.1, h.2.1, h.2.2.1⟩
    · rw [if_neg s0]
      obtain ⟨w, x, hw, hx, ew, ex, hs⟩ := FI_pop h s0
      have nx := FI_step h s0 hw hx hs
      rw [ew, nI_clamp (show w < 2 ^ 31 by have := h.1.2.2.2.2; omega), ex]
      exact ih _ _ _ _ nx
/-- the start of what happens -/
theorem FI_0 {N : zN} {s : Stk} (hC : CN N) (hQ : WQ N) (hv : SV (cV N) (cT N) s) (room : s.2.2 ≤ 8) : FI 0 (Ro True 9 N s).1 (Ro True 9 N s).2 := by
  obtain ⟨b1, b2⟩ := Ro_CQ (pl := True) (m := 9) (s := s) hC hQ
  have b3 := Ro_cnt (pl := True) (N0 := N) 9 N s hC ⟨rfl, rfl⟩
  have b4 := Ro_room (pl := True) 9 N s hC
  have b5 := SV_Ro (pl := True) 9 N s hC hv
  have n8 := na_8 hC
  refine ⟨b1, b2, Ro_9 hC, ?_, by omega⟩
  rw [b3.1, b3.2]
  exact b5
noncomputable def TT (N : zN) (s : Stk) : Int32 × zN × zN := Fn 40 (Ro True 9 N s).1 (Ro True 9 N s).2 0 (fun _ => 0)
/-- what the class has done at the end of a call that plays -/
def cEnd (h1 h3 : zHp) (N0 : zN) (T : Int32 × zN × zN) : Prop := (∀ a, (93 ≤ a ∧ (a < 133 ∨ 140 < a) ∧ a ≠ 155) → h3.1 a = h1.1 a) ∧ (∀ k, k ≠ 11 → h3.1 0 k = h1.1 0 k) ∧ (∀ a, a ≠ 4 → a ≠ 5 → a ≠ 6 → h3.2 a = h1.2 a) ∧ (¬ T.1 = -5 → h3.1 0 = h1.1 0 ∧ h3.1 155 = h1.1 155 ∧ IC h3 T.2.1) ∧ (T.1 = -5 → rI h3 0 11 = 40 ∧ (∀ i, i < 40 → rI h3 155 i = T.2.2 i) ∧ IC h3 N0)
theorem c_tail {h1 : zHp} {N0 N : zN} {s : Stk} (G : zG h1) (c0 : CN N0) (w0 : WN N0) (p0 : PW h1 53) (r0 : RW h1 53 N0) (hC : CN N) (hQ : WQ N) (hP : PW h1 2) (hR : RW h1 2 N) (hS : SC h1 s) (hv : SV (cV N) (cT N) s) (room : s.2.2 ≤ 8) : zcI M_X0_finish [.ref 1] h1 (fun v h2 => zG h2 ∧ zcI M_X10_refuseLoop [.ref 0, .int v] h2 (fun v' h3 => zG h3 ∧ v' = (TT N s).1 ∧ cEnd h1 h3 N0 (TT N s))) := by
  have n8 := na_8 hC
  refine zcI_then (s_X0_finish (D := fun _ => 0) G hC hQ hP hR hS hv (by omega)) (fun v h2 hh => ?_)
  obtain ⟨f2, p2, t2, e2, r2, l2, d2⟩ := hh
  change v = (TT N s).1 at e2
  change RW h2 2 (TT N s).2.1 at r2
  change Lm h2 42 (TT N s).2.1 at l2
  have G2 := f2.g G
  refine ⟨G2, g_X10_refuseLoop G2 ⟨fun z => ?_, fun z => ?_⟩⟩
  · have z' := e2.symm.trans z
    refine ⟨⟨by decide, by decide, by decide, by decide, by decide⟩, ?_⟩
    have fr : ∀ a, a ≠ 0 → a ≠ 155 → (wC (wI h2 0 11 40) 52 (Int32.toNatClampNeg 0) 155 (Int32.toNatClampNeg 0) (Int32.toNatClampNeg 40)).1 a = h2.1 a := fun a z1 z2 => by rw [wC_ne z2, wI_ne z1]
    have p53 : PW h2 53 := PW_of2 (fun a _ _ => f2.2 a (by omega) (by omega) (by omega)) p0
    have r53 : RW h2 53 N0 := RW_of2 (fun a _ _ => f2.2 a (by omega) (by omega) (by omega)) (fun a z1 z2 => f2.1 a (by omega)) p0 c0 r0
    have r53' : RW (wC (wI h2 0 11 40) 52 (Int32.toNatClampNeg 0) 155 (Int32.toNatClampNeg 0) (Int32.toNatClampNeg 40)) 53 N0 := RW_of (h := h2) rfl (fun a z1 z2 => fr a (by omega) (by omega)) p53 c0 r53
    refine zcV_then (s_X8_copyFrom (B := 53) (C := 2) (zG_of rfl G2) (Or.inr (Or.inl rfl)) (Or.inl rfl) (by decide) c0 w0 (PW_of (h := h2) rfl p53) (PW_of (h := h2) rfl p2) r53') (fun h3 hh => ⟨zG_of (hh.1.1.trans rfl) G2, ?_⟩)
    obtain ⟨f3, r3⟩ := hh
    have e3 : h3.2 = h2.2 := f3.1
    have mk := s_X2_make (K := 42) (B := 2) (u := 5) (zG_of e3 G2) (Or.inl rfl) (Or.inl rfl) c0 (PW_of e3 p2) r3 w0 (by omega)
    rw [show nI 5 = (5 : Int32) from rfl] at mk
    refine zcV_then mk (fun h4 m1 => ⟨zG_of (m1.1.trans e3) G2, zG_of (m1.1.trans e3) G2, z'.symm, ?_⟩)
    have fr4 : ∀ a, (a < 2 ∨ 48 ≤ a) → h4.1 a = (wC (wI h2 0 11 40) 52 (Int32.toNatClampNeg 0) 155 (Int32.toNatClampNeg 0) (Int32.toNatClampNeg 40)).1 a := fun a ha => by rw [m1.2.1 a (by omega), f3.2 a (by omega)]
    refine ⟨fun a ha => by rw [fr4 a (by omega), fr a (by omega) (by omega), f2.1 a (by omega)], fun k hk => ?_, fun a z1 z2 z3 => by rw [m1.1, e3, f2.2 a z1 z2 z3], fun y => absurd z' y, fun _ => ⟨?_, fun i hi => ?_, PW_of m1.1 (PW_of e3 p2), m1.rw (Or.inl rfl) (Or.inl rfl) (PW_of e3 p2) c0 r3, ⟨m1.2.2.1, m1.2.2.2.1, m1.2.2.2.2⟩, ?_⟩⟩
    · rw [fr4 0 (by omega), wC_ne (by decide)]
      show rI (wI h2 0 11 40) 0 k = _
      rw [rI_k hk]
      show h2.1 0 k = _
      rw [f2.1 0 (by omega)]
    · show h4.1 0 11 = 40
      rw [fr4 0 (by omega), wC_ne (by decide)]
      exact rI_s
    · show h4.1 155 i = _
      rw [fr4 155 (by omega)]
      show (if 155 = 155 then va_cpy ((wI h2 0 11 40).1 52) ((wI h2 0 11 40).1 155) (Int32.toNatClampNeg 0) (Int32.toNatClampNeg 0) (Int32.toNatClampNeg 40) i else (wI h2 0 11 40).1 155 i) = _
      rw [if_pos rfl, show Int32.toNatClampNeg 0 = 0 from rfl, show Int32.toNatClampNeg 40 = 40 from rfl, pk_cpy_in (by omega) (by omega), wI_ne (by decide)]
      have := d2 z i hi
      rw [show 0 + (i - 0) = i by omega]
      exact this
    · obtain ⟨n, hn⟩ := t2
      exact ⟨n, by show h4.1 1 5 = _; rw [fr4 1 (by omega), fr 1 (by decide) (by decide)]; exact hn⟩
  · have z' : ¬ (TT N s).1 = -5 := fun y => z (e2.trans y)
    refine ⟨G2, e2, fun a ha => f2.1 a (by omega), fun k _ => by rw [f2.1 0 (by omega)], f2.2, fun _ => ⟨f2.1 0 (by omega), f2.1 155 (by omega), p2, r2, l2, t2⟩, fun y => absurd y z'⟩
/-- the reference at the end of such a call -/
def mEnd (h h' : zHp) (N0 : zN) (T : Int32 × zN × zN) : Prop := h'.2 = h.2 ∧ (∀ a, (a < 164 ∨ a = 166 ∨ 174 ≤ a) → h'.1 a = h.1 a) ∧ (h'.1 164 3 = h.1 164 3 ∧ h'.1 164 21 = h.1 164 21) ∧ (∃ n, rI h' 164 10 = nI n) ∧ (¬ T.1 = -5 → h'.1 165 = T.2.1 ∧ h'.1 164 19 = h.1 164 19 ∧ h'.1 173 = h.1 173) ∧ (T.1 = -5 → eqR N0 (h'.1 165) ∧ rI h' 164 19 = 40 ∧ ∀ i, i < 40 → rI h' 173 i = T.2.2 i)
theorem m_tail {h h1 : zHp} {N0 N : zN} {s : Stk} (G : zG h1) (fi : FI 0 (Ro True 9 N s).1 (Ro True 9 N s).2) (e : h1.1 165 = (Ro True 9 N s).1) (hS : SM h1 (Ro True 9 N s).2) (pl : ¬ rI h1 164 8 = 0) (k0 : rI h1 164 16 = 0) (e67 : eqR N0 (h1.1 167)) (f2 : h1.2 = h.2) (fa : ∀ a, (a < 164 ∨ a = 166 ∨ 173 ≤ a) → h1.1 a = h.1 a) (fk : h1.1 164 3 = h.1 164 3 ∧ h1.1 164 19 = h.1 164 19 ∧ h1.1 164 21 = h.1 164 21) : zcI M_X11_goesThrough [.ref 164] h1 (fun r h' => zG h' ∧ r = (TT N s).1 ∧ mEnd h h' N0 (TT N s)) := by
  refine zcI_then (s_X11_goesThrough (D := fun _ => 0) G e hS pl fi k0) (fun r h2 hh => ?_)
  obtain ⟨g1, g2, g3, g4, g5⟩ := hh
  change r = (TT N s).1 at g2
  refine ⟨zG_of g1.1 G, g2, g1.1.trans f2, fun a ha => by rw [g1.2.1 a (by omega) (by omega) (by omega), fa a (by omega)], ⟨by rw [g1.2.2 3 (by decide) (by omega) (by decide), fk.1], by rw [g1.2.2 21 (by decide) (by omega) (by decide), fk.2.2]⟩, g3, fun z => ?_, fun z => ?_⟩
  · obtain ⟨a, b, c⟩ := g4 (fun y => z (g2.symm.trans y))
    exact ⟨a, by rw [b, fk.2.1], by rw [c, fa 173 (by omega)]⟩
  · obtain ⟨a, b, c⟩ := g5 (g2.trans z)
    exact ⟨fun i hi => (a i hi).trans (e67 i hi), b, c⟩
theorem inv_tail {h h3 h6 : zHp} {N : zN} {T : Int32 × zN × zN} (I : INV h) (hN : h.1 165 = N) (G6 : zG h6) (c : cEnd h h3 N T) (m : mEnd h3 h6 N T) (q : ¬ T.1 = -5 → IQ T.2.1) : INV h6 := by
  obtain ⟨G, iq, ic, ⟨p1, p2⟩, ⟨n, hn⟩, ii, is, it, ih⟩ := I
  rw [hN] at iq ic
  obtain ⟨c1, c2, c3, c4, c5⟩ := c
  obtain ⟨m1, m2, m3, m4, m5, m6⟩ := m
  have f2 : ∀ a, a ≠ 4 → a ≠ 5 → a ≠ 6 → h6.2 a = h.2 a := fun a z1 z2 z3 => by rw [m1]; exact c3 a z1 z2 z3
  have fr : ∀ a, ((93 ≤ a ∧ (a < 133 ∨ 140 < a) ∧ a ≠ 155 ∧ a < 164) ∨ a = 166 ∨ 174 ≤ a) → h6.1 a = h.1 a := fun a ha => by rw [m2 a (by omega), c1 a (by omega)]
  have e164 : ∀ k, h3.1 164 k = h.1 164 k := fun k => by rw [c1 164 (by omega)]
  have e05 : h6.1 0 5 = h.1 0 5 := by rw [m2 0 (by omega), c2 5 (by decide)]
  have pw : PW h6 53 ∧ PW h6 93 := ⟨PW_of2 (fun a _ _ => f2 a (by omega) (by omega) (by omega)) p1, PW_of2 (fun a _ _ => f2 a (by omega) (by omega) (by omega)) p2⟩
  have ii6 : IOi h6 := IOi_of ii p2 e05 (by rw [m3.1, e164]) (fr 166 (by omega)) (fun a z1 z2 => fr a (by omega)) (fun a z1 z2 => f2 a (by omega) (by omega) (by omega))
  have it6 : IOt h6 := IOt_of it (by rw [fr 141 (by omega)]) (by rw [m3.2, e164]) (fr 142 (by omega)) (fr 174 (by omega))
  have ih6 : IOh h6 := IOh_of ih (fun a ha => fr a (by omega))
  by_cases z : T.1 = -5
  · obtain ⟨a1, a2, a3⟩ := c5 z
    obtain ⟨b1, b2, b3⟩ := m6 z
    refine ⟨G6, b1.q iq, b1.i iq.1 (IC_of m1 (fun a ha => m2 a (by omega)) iq.1 a3), pw, m4, ii6, ⟨40, by omega, ?_, b2, fun i hi => ?_⟩, it6, ih6⟩
    · show h6.1 0 11 = _
      rw [m2 0 (by omega)]
      exact a1
    · rw [b3 i hi]
      show h6.1 155 i = _
      rw [m2 155 (by omega)]
      exact a2 i hi
  · obtain ⟨a1, a2, a3⟩ := c4 z
    obtain ⟨b1, b2, b3⟩ := m5 z
    have q' := q z
    refine ⟨G6, by rw [b1]; exact q', by rw [b1]; exact IC_of m1 (fun a ha => m2 a (by omega)) q'.1 a3, pw, m4, ii6, IOs_of is ?_ ?_ ?_ ?_, it6, ih6⟩
    · rw [m2 0 (by omega), a1]
    · rw [b2, e164]
    · rw [m2 155 (by omega), a2]
    · rw [b3, c1 173 (by omega)]
def s0 : Stk := (fun _ => 0, fun _ => 0, 0)
theorem SV_0 {v t : Nat} : SV v t s0 := fun i hi => absurd hi (Nat.not_lt_zero i)
/-- the reference's begin -/
theorem s_X11_begins {h : zHp} (G : zG h) : zcV M_X11_begins [.ref 164] h (fun h' => h' = wI (wI (wI (wA h 167 (cp (h.1 165) (h.1 167))) 164 8 1) 164 10 0) 164 16 0) :=
  g_X11_begins G (zcV_use (s_X11_copies (c := 165) (d := 167) G (Or.inl rfl) (Or.inr (Or.inr rfl)) (by decide)) ⟨zG_of rfl G, rfl⟩)
theorem beg_f {h h' : zHp} (e : h' = wI (wI (wI (wA h 167 (cp (h.1 165) (h.1 167))) 164 8 1) 164 10 0) 164 16 0) : h'.2 = h.2 ∧ (∀ a, a ≠ 164 → a ≠ 167 → h'.1 a = h.1 a) ∧ (∀ k, k ≠ 8 → k ≠ 10 → k ≠ 16 → h'.1 164 k = h.1 164 k) ∧ rI h' 164 8 = 1 ∧ SM h' s0 ∧ rI h' 164 16 = 0 ∧ eqR (h.1 165) (h'.1 167) := by
  subst e
  refine ⟨rfl, fun a z1 z2 => by rw [wI_ne z1, wI_ne z1, wI_ne z1, wA_n z2], fun k z1 z2 z3 => ?_, ?_, ⟨?_, fun i hi => absurd hi (Nat.not_lt_zero i)⟩, rI_s, ?_⟩
  · show rI _ 164 k = rI h 164 k
    rw [rI_k z3, rI_k z2, rI_k z1, rI_An (by decide)]
  · rw [rI_k (by decide), rI_k (by decide), rI_s]
  · rw [rI_k (by decide), rI_s]
    rfl
  · rw [wI_ne (by decide), wI_ne (by decide), wI_ne (by decide), wA_s]
    exact cp_eqR
/-- the class's begin: all is copied ahead, the stack is empty -/
theorem c_begin {h h2 : zHp} {N : zN} {Q : zHp → Prop} (G : zG h) (q : IQ N) (ic : IC h N) (p1 : PW h 53) (K : ∀ h2, h2.2 = h.2 → (∀ a, (a = 0 ∨ (2 ≤ a ∧ a < 53) ∨ 93 ≤ a) → h2.1 a = h.1 a) → RW h2 53 N → IC h2 N → SC h2 s0 → Q h2) : zcV M_X8_copyFrom [.ref 53, .ref 2] h (fun h1 => zG h1 ∧ zcV M_X0_begin [.ref 1] h1 Q) := by
  refine zcV_then (s_X8_copyFrom (B := 2) (C := 53) G (Or.inl rfl) (Or.inr (Or.inl rfl)) (by decide) q.1 q.2.1.n ic.1 p1 ic.2.1) (fun h1 hh => ⟨zG_of hh.1.1 G, ?_⟩)
  obtain ⟨f1, r1⟩ := hh
  refine g_X0_begin (zG_of f1.1 G) (K _ f1.1 (fun a ha => by rw [wI_ne (by omega), f1.2 a (by omega)]) (RW_of (h := h1) rfl (fun a z1 z2 => wI_ne (by omega)) (PW_of f1.1 p1) q.1 r1) ?_ ⟨rI_s, fun i hi => absurd hi (Nat.not_lt_zero i)⟩)
  have ic1 : IC h1 N := IC_of f1.1 (fun a ha => f1.2 a (by omega)) q.1 ic
  refine ⟨PW_of (h := h1) rfl ic1.1, RW_of (h := h1) rfl (fun a z1 z2 => wI_ne (by omega)) ic1.1 q.1 ic1.2.1, ⟨by rw [rI_c (by decide)]; exact ic1.2.2.1.1, ?_, fun i hi => by rw [rI_c (by decide)]; exact ic1.2.2.1.2.2 i hi⟩, ⟨0, rI_s⟩⟩
  rw [VL_of (h := h1) (fun a z1 z2 => wI_ne (by omega))]
  exact ic1.2.2.1.2.1
theorem sim_hurt {t n : Int32} : Sim M_X10_hurt M_X11_hurt [.int t, .int n] := by
  intro h I
  have I0 := I
  obtain ⟨G, iq, ic, io⟩ := I
  obtain ⟨hC, hQ, hSt⟩ := iq
  obtain ⟨hP, hR, hL, ht⟩ := ic
  have h8 := hC.1.2
  have e238 : rI h 165 238 = nI (cT (h.1 165)) := hC.1.1
  have refuse : ∀ v, ((¬ (0 ≤ t ∧ t ≤ rI h 165 238 - 1) ∨ ¬ ((1 : Int32) ≤ n ∧ n ≤ 99)) → v = -2) → ((0 ≤ t ∧ t ≤ rI h 165 238 - 1) → ((1 : Int32) ≤ n ∧ n ≤ 99) → ¬ aliveM h t ∧ v = -3) → zG h ∧ zcI M_X11_hurt [.ref 164, .int t, .int n] h (fun v' h2 => zG h2 ∧ v = v' ∧ INV h2) := by
    intro v b s
    refine ⟨G, g_X11_hurt G ⟨fun z => ⟨G, b (Or.inl z), I0⟩, fun z => ⟨fun y => ⟨⟨_, h8, e238⟩, fun x => absurd x (s z y).1, fun x => ⟨G, (s z y).2, I0⟩⟩, fun y => ⟨G, b (Or.inr y), I0⟩⟩⟩⟩
  refine g_X10_hurt G ?_
  rw [hR.1.1]
  refine ⟨fun z => refuse _ (fun _ => rfl) (fun y => absurd y z), fun z1 => ⟨fun z2 => ?_, fun z => refuse _ (fun _ => rfl) (fun _ y => absurd y z)⟩⟩
  have z10 := z1
  rw [hC.1.1] at z1
  obtain ⟨j, hj, rfl⟩ := zsm (by omega) z1
  have w5 : rI h (8 + j) 5 = h.1 165 (10 * j + 5) := hR.2.1 j 5 hj (by omega)
  rw [nI_clamp (by omega), w5]
  refine ⟨vp_in_nI (by omega) (by omega), fun y => ?_, fun y => refuse _ (fun x => x.elim (fun w => absurd z10 w) (fun w => absurd z2 w)) (fun _ _ => ⟨fun x => ?_, rfl⟩)⟩
  · have al : Al (h.1 165) j := (hQ.n.1 j hj).resolve_left y
    have bd : iv 0 999 n := (iv_of (a := 1) (b := 99) z2 rfl rfl).mono (by decide) (by decide)
    have cq := Hs_CQ (s := s0) hC hQ hj al bd
    have cnt := Hs_cnt hC cq.2.2
    have rm := Hs_room (s := s0) hC hQ hj al bd
    change _ ≤ 0 + 8 at rm
    have sv : SV (cV (Hs (h.1 165) j n s0).1) (cT (Hs (h.1 165) j n s0).1) (Hs (h.1 165) j n s0).2 := by
      rw [cnt.1, cnt.2.1]
      exact Hs_SV hC hQ hj al bd SV_0
    refine c_begin (N := h.1 165) (h2 := h) G ⟨hC, hQ, hSt⟩ ⟨hP, hR, hL, ht⟩ io.1.1 (fun h2 e2 f2 r2 ic2 sc2 => ⟨zG_of e2 G, ?_⟩)
    refine zcV_then (s_X0_strike (zG_of e2 G) hC hQ ic2.1 ic2.2.1 ic2.2.2.1 sc2 hj al bd (by decide)) (fun h3 hh => ⟨hh.1.g (zG_of e2 G), ?_⟩)
    obtain ⟨f3, p3, r3, c3⟩ := hh
    have G3 := f3.g (zG_of e2 G)
    have p53 : PW h3 53 := PW_of2 (h := h) (fun a _ _ => by rw [f3.2 a (by omega) (by omega) (by omega), e2]) io.1.1
    have r53 : RW h3 53 (h.1 165) := RW_of2 (h := h2) (fun a _ _ => f3.2 a (by omega) (by omega) (by omega)) (fun a z1 z2 => f3.1 a (by omega)) (PW_of e2 io.1.1) hC r2
    refine zcI_then (c_tail G3 hC hQ.n p53 r53 cq.1 cq.2.1 p3 r3 c3 sv (by omega)) (fun v h4 hh => ⟨hh.1, zcI_then hh.2 (fun v' h5 hh => ⟨hh.1, ?_⟩)⟩)
    obtain ⟨G5, ev, ce⟩ := hh
    have ce' : cEnd h h5 (h.1 165) (TT (Hs (h.1 165) j n s0).1 (Hs (h.1 165) j n s0).2) := by
      obtain ⟨k1, k2, k3, k4, k5⟩ := ce
      refine ⟨fun a ha => by rw [k1 a ha, f3.1 a (by omega), f2 a (by omega)], fun k hk => by rw [k2 k hk, f3.1 0 (by omega), f2 0 (by omega)], fun a z1 z2 z3 => by rw [k3 a z1 z2 z3, f3.2 a z1 z2 z3, e2], fun z => ?_, k5⟩
      obtain ⟨a, b, c⟩ := k4 z
      exact ⟨by rw [a, f3.1 0 (by omega), f2 0 (by omega)], by rw [b, f3.1 155 (by omega), f2 155 (by omega)], c⟩
    have e165 : h5.1 165 = h.1 165 := ce'.1 165 (by omega)
    have e238' : rI h5 165 238 = nI (cT (h.1 165)) := by show h5.1 165 238 = _; rw [e165]; exact hC.1.1
    have alM : aliveM h5 (nI j) := (aliveM_nI e238' h8 hj).mpr (by rw [e165]; exact al)
    refine ⟨G5, g_X11_hurt G5 ?_⟩
    rw [e238']
    refine ⟨fun z => absurd z1 z, fun _ => ⟨fun _ => ⟨⟨_, h8, rfl⟩, fun _ => ?_, fun z => absurd alM z⟩, fun z => absurd z2 z⟩⟩
    refine zcV_then (s_X11_begins G5) (fun h6 hb => ?_)
    obtain ⟨b1, b2, b3, b4, b5, b6, b7⟩ := beg_f hb
    have G6 := zG_of b1 G5
    have e6 : h6.1 165 = h.1 165 := by rw [b2 165 (by decide) (by decide), e165]
    have n8 := na_8 hC
    refine ⟨G6, zcV_then (s_X11_hurts G6 hC hQ e6 b5 (by rw [b4]; decide) hj al bd (by show 0 + 8 + 8 * na (h.1 165) ≤ 400; omega)) (fun h7 hh => ⟨zG_of hh.1.1 G6, ?_⟩)⟩
    obtain ⟨f7, e7, s7, -⟩ := hh
    have fi := FI_0 cq.1 cq.2.1 sv (by omega)
    refine zcI_then (m_tail (h := h5) (N0 := h.1 165) (zG_of f7.1 G6) fi e7 s7 (by show ¬ h7.1 164 8 = 0; rw [f7.2.2 8 (by decide) (by omega)]; show ¬ rI h6 164 8 = 0; rw [b4]; decide) (by show h7.1 164 16 = 0; rw [f7.2.2 16 (by decide) (by omega)]; exact b6) (by rw [f7.2.1 167 (by decide) (by decide) (by decide) (by decide) (by decide) (by decide), ← e165]; exact b7) (f7.1.trans b1) (fun a ha => by rw [f7.2.1 a (by omega) (by omega) (by omega) (by omega) (by omega) (by omega), b2 a (by omega) (by omega)]) ⟨by rw [f7.2.2 3 (by decide) (by omega), b3 3 (by decide) (by decide) (by decide)], by rw [f7.2.2 19 (by decide) (by omega), b3 19 (by decide) (by decide) (by decide)], by rw [f7.2.2 21 (by decide) (by omega), b3 21 (by decide) (by decide) (by decide)]⟩) (fun r h8' hh => ⟨hh.1, hh.1, by rw [ev, hh.2.1], inv_tail I0 rfl hh.1 ce' hh.2.2 (fun _ => Fn_IQ 40 0 _ _ _ fi)⟩)
  · have := (aliveM_nI e238 h8 hj).mp x
    unfold Al at this
    rw [y] at this
    exact absurd this (by decide)

