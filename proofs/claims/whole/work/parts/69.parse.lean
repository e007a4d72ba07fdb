/-! texts: words and phrases, pure; words on both sides -/
theorem g_X3_isWord {i1 : Nat} {h : zHp} {Q : Int32 → zHp → Prop} (hi1 : i1 < 13) (G : zG h) (F : zcI M_J0_length_8abf5 [.ref (1010 + i1)] h (fun vh1 h1 => zG h1 ∧ (((rI h 141 2) - (rI h 141 4) = vh1 → (zlI M_X3_isWord 20 [some (.ref 141), some (.ref (1010 + i1)), some (.int 0)] [] h1 Q)) ∧ (¬ ((rI h 141 2) - (rI h 141 4) = vh1) → (Q 0 h1))))) : zcI M_X3_isWord [.ref 141, .ref (1010 + i1)] h Q := by
  show zw zNT zNT M_X3_isWord 0 [some (.ref 141), some (.ref (1010 + i1)), none] [] h _
  refine z_aload_n (pc := 0) dX3_isWord_0 rfl rfl ?_
  refine q_getI (pc := 1) (v := rI h 141 2) dX3_isWord_1 lk_RX3_26 (lyc rfl) rfl ?_
  refine z_aload_n (pc := 4) dX3_isWord_4 rfl rfl ?_
  refine q_getI (pc := 5) (v := rI h 141 4) dX3_isWord_5 lk_RX3_45 (lyc rfl) rfl ?_
  refine z_isub (pc := 8) dX3_isWord_8 ?_
  refine z_aload_n (pc := 9) dX3_isWord_9 rfl rfl ?_
  refine q_invVS (pc := 10) (i := i1) (As := []) (st := [.int ((rI h 141 2) - (rI h 141 4))]) dX3_isWord_10 ok_J0_length_8abf5 ms_RX3_90 iv_J0_length_8abf5 pa_J0_length_8abf5 ⟨Nat.le_of_ble_eq_true rfl, Nat.le_of_ble_eq_true rfl⟩ hi1 (q_kI F (fun vh1 h1 F => ?_))
  obtain ⟨G1, F⟩ := F
  refine z_icmp_eq (pc := 13) (tgt := 18) dX3_isWord_13 (by decide) (fun k2 => ?_) (fun k2 => ?_)
  · replace F := F.1 k2
    refine z_iconst (pc := 18) (v := 0) dX3_isWord_18 (by decide) ?_
    refine z_istore_n (pc := 19) (ls' := [some (.ref 141), some (.ref (1010 + i1)), some (.int 0)]) dX3_isWord_19 rfl (by decide) rfl ?_
    exact F
  · replace F := F.2 k2
    refine z_iconst (pc := 16) (v := 0) dX3_isWord_16 (by decide) ?_
    exact q_retB (pc := 17) dX3_isWord_17 rfl (Or.inl rfl) F
theorem g_X3_isWord_20 {i1 : Nat} {x2 : Int32} {h : zHp} {Q : Int32 → zHp → Prop} (hi1 : i1 < 13) (G : zG h) (F : zcI M_J0_length_8abf5 [.ref (1010 + i1)] h (fun vh1 h1 => zG h1 ∧ ((vh1 ≤ x2 → (Q 1 h1)) ∧ (¬ (vh1 ≤ x2) → (zcI M_X3_byteAt [.ref 141, .int ((rI h1 141 4) + x2)] h1 (fun vh2 h2 => zG h2 ∧ (zcI M_J0_charAt_5068e [.ref (1010 + i1), .int x2] h2 (fun vh3 h3 => zG h3 ∧ ((vh2 = vh3 → (zlI M_X3_isWord 20 [some (.ref 141), some (.ref (1010 + i1)), some (.int (x2 + 1))] [] h3 Q)) ∧ (¬ (vh2 = vh3) → (Q 0 h3))))))))))) : zlI M_X3_isWord 20 [some (.ref 141), some (.ref (1010 + i1)), some (.int x2)] [] h Q := by
  refine z_iload_n (pc := 20) dX3_isWord_20 rfl rfl ?_
  refine z_aload_n (pc := 21) dX3_isWord_21 rfl rfl ?_
  refine q_invVS (pc := 22) (i := i1) (As := []) (st := [.int x2]) dX3_isWord_22 ok_J0_length_8abf5 ms_RX3_90 iv_J0_length_8abf5 pa_J0_length_8abf5 ⟨Nat.le_of_ble_eq_true rfl, Nat.le_of_ble_eq_true rfl⟩ hi1 (q_kI F (fun vh1 h1 F => ?_))
  obtain ⟨G1, F⟩ := F
  refine z_icmp_ge (pc := 25) (tgt := 54) dX3_isWord_25 (by decide) (fun k5 => ?_) (fun k5 => ?_)
  · replace F := F.1 k5
    refine z_iconst (pc := 54) (v := 1) dX3_isWord_54 (by decide) ?_
    exact q_retB (pc := 55) dX3_isWord_55 rfl (Or.inr rfl) F
  · replace F := F.2 k5
    refine z_aload_n (pc := 28) dX3_isWord_28 rfl rfl ?_
    refine z_aload_n (pc := 29) dX3_isWord_29 rfl rfl ?_
    refine q_getI (pc := 30) (v := rI h1 141 4) dX3_isWord_30 lk_RX3_45 (lyc rfl) rfl ?_
    refine z_iload_n (pc := 33) dX3_isWord_33 rfl rfl ?_
    refine z_iadd (pc := 34) dX3_isWord_34 ?_
    refine q_invV (pc := 35) (As := [.int ((rI h1 141 4) + x2)]) (st := []) dX3_isWord_35 ok_X3_byteAt ml_RX3_94 iv_X3_byteAt pa_X3_byteAt ⟨Nat.le_of_ble_eq_true rfl, Nat.le_of_ble_eq_true rfl⟩ (lyc rfl) (q_kI F (fun vh2 h2 F => ?_))
    obtain ⟨G2, F⟩ := F
    refine z_aload_n (pc := 38) dX3_isWord_38 rfl rfl ?_
    refine z_iload_n (pc := 39) dX3_isWord_39 rfl rfl ?_
    refine q_invVS (pc := 40) (i := i1) (As := [.int x2]) (st := [.int vh2]) dX3_isWord_40 ok_J0_charAt_5068e ms_RX3_97 iv_J0_charAt_5068e pa_J0_charAt_5068e ⟨Nat.le_of_ble_eq_true rfl, Nat.le_of_ble_eq_true rfl⟩ hi1 (q_kI F (fun vh3 h3 F => ?_))
    obtain ⟨G3, F⟩ := F
    refine z_icmp_eq (pc := 43) (tgt := 48) dX3_isWord_43 (by decide) (fun k4 => ?_) (fun k4 => ?_)
    · replace F := F.1 k4
      refine z_iinc (pc := 48) (v := x2 + 1) (ls' := [some (.ref 141), some (.ref (1010 + i1)), some (.int (x2 + 1))]) dX3_isWord_48 (by decide) rfl rfl rfl ?_
      refine z_goto (pc := 51) (tgt := 20) dX3_isWord_51 (by decide) ?_
      exact F
    · replace F := F.2 k4
      refine z_iconst (pc := 46) (v := 0) dX3_isWord_46 (by decide) ?_
      exact q_retB (pc := 47) dX3_isWord_47 rfl (Or.inl rfl) F
theorem g_X3_scopeOfWord  {h : zHp} {Q : Int32 → zHp → Prop}  (G : zG h) (F : zlI M_X3_scopeOfWord 2 [some (.ref 141), some (.int 0)] [] h Q) : zcI M_X3_scopeOfWord [.ref 141] h Q := by
  show zw zNT zNT M_X3_scopeOfWord 0 [some (.ref 141), none] [] h _
  refine z_iconst (pc := 0) (v := 0) dX3_scopeOfWord_0 (by decide) ?_
  refine z_istore_n (pc := 1) (ls' := [some (.ref 141), some (.int 0)]) dX3_scopeOfWord_1 rfl (by decide) rfl ?_
  exact F
theorem g_X3_scopeOfWord_2 {x1 : Int32} {h : zHp} {Q : Int32 → zHp → Prop}  (G : zG h) (F : (5 < x1 → (Q (-1) h)) ∧ (¬ (5 < x1) → (zcR M_X10_scopeWord [.int x1] h (fun ch1 h1 => zG h1 ∧ ∃ ih1, ih1 < 13 ∧ ch1 = 1010 + ih1 ∧ (zcI M_X3_isWord [.ref 141, .ref (1010 + ih1)] h1 (fun vh2 h2 => zG h2 ∧ ((vh2 = 0 → (zlI M_X3_scopeOfWord 2 [some (.ref 141), some (.int (x1 + 1))] [] h2 Q)) ∧ (¬ (vh2 = 0) → (Q x1 h2))))))))) : zlI M_X3_scopeOfWord 2 [some (.ref 141), some (.int x1)] [] h Q := by
  refine z_iload_n (pc := 2) dX3_scopeOfWord_2 rfl rfl ?_
  refine z_iconst (pc := 3) (v := 5) dX3_scopeOfWord_3 (by decide) ?_
  refine z_icmp_gt (pc := 4) (tgt := 26) dX3_scopeOfWord_4 (by decide) (fun k4 => ?_) (fun k4 => ?_)
  · replace F := F.1 k4
    refine z_iconst (pc := 26) (v := -1) dX3_scopeOfWord_26 (by decide) ?_
    exact q_retI (pc := 27) dX3_scopeOfWord_27 rfl F
  · replace F := F.2 k4
    refine z_aload_n (pc := 7) dX3_scopeOfWord_7 rfl rfl ?_
    refine z_iload_n (pc := 8) dX3_scopeOfWord_8 rfl rfl ?_
    refine q_invS (pc := 9) (As := [.int x1]) (st := [.ref 141]) dX3_scopeOfWord_9 ok_X10_scopeWord ml_RX3_79 st_X10_scopeWord pa_X10_scopeWord ⟨Nat.le_of_ble_eq_true rfl, Nat.le_of_ble_eq_true rfl⟩ (q_kR F (fun ch1 h1 F => ?_))
    obtain ⟨G1, ih1, hih1, rfl, F⟩ := F
    refine q_invV (pc := 12) (As := [.ref (1010 + ih1)]) (st := []) dX3_scopeOfWord_12 ok_X3_isWord ml_RX3_83 iv_X3_isWord pa_X3_isWord ⟨Nat.le_of_ble_eq_true rfl, Nat.le_of_ble_eq_true rfl⟩ (lyc rfl) (q_kI F (fun vh2 h2 F => ?_))
    obtain ⟨G2, F⟩ := F
    refine z_if_eq (pc := 15) (tgt := 20) dX3_scopeOfWord_15 (by decide) (fun k3 => ?_) (fun k3 => ?_)
    · replace F := F.1 k3
      refine z_iinc (pc := 20) (v := x1 + 1) (ls' := [some (.ref 141), some (.int (x1 + 1))]) dX3_scopeOfWord_20 (by decide) rfl rfl rfl ?_
      refine z_goto (pc := 23) (tgt := 2) dX3_scopeOfWord_23 (by decide) ?_
      exact F
    · replace F := F.2 k3
      refine z_iload_n (pc := 18) dX3_scopeOfWord_18 rfl rfl ?_
      exact q_retI (pc := 19) dX3_scopeOfWord_19 rfl F
theorem g_X3_sortOfWord  {h : zHp} {Q : Int32 → zHp → Prop}  (G : zG h) (F : zlI M_X3_sortOfWord 2 [some (.ref 141), some (.int 0)] [] h Q) : zcI M_X3_sortOfWord [.ref 141] h Q := by
  show zw zNT zNT M_X3_sortOfWord 0 [some (.ref 141), none] [] h _
  refine z_iconst (pc := 0) (v := 0) dX3_sortOfWord_0 (by decide) ?_
  refine z_istore_n (pc := 1) (ls' := [some (.ref 141), some (.int 0)]) dX3_sortOfWord_1 rfl (by decide) rfl ?_
  exact F
theorem g_X3_sortOfWord_2 {x1 : Int32} {h : zHp} {Q : Int32 → zHp → Prop}  (G : zG h) (F : (5 < x1 → (Q (-1) h)) ∧ (¬ (5 < x1) → (zcR M_X10_deedWord [.int x1] h (fun ch1 h1 => zG h1 ∧ ∃ ih1, ih1 < 13 ∧ ch1 = 1010 + ih1 ∧ (zcI M_X3_isWord [.ref 141, .ref (1010 + ih1)] h1 (fun vh2 h2 => zG h2 ∧ ((vh2 = 0 → (zlI M_X3_sortOfWord 2 [some (.ref 141), some (.int (x1 + 1))] [] h2 Q)) ∧ (¬ (vh2 = 0) → (Q x1 h2))))))))) : zlI M_X3_sortOfWord 2 [some (.ref 141), some (.int x1)] [] h Q := by
  refine z_iload_n (pc := 2) dX3_sortOfWord_2 rfl rfl ?_
  refine z_iconst (pc := 3) (v := 5) dX3_sortOfWord_3 (by decide) ?_
  refine z_icmp_gt (pc := 4) (tgt := 26) dX3_sortOfWord_4 (by decide) (fun k4 => ?_) (fun k4 => ?_)
  · replace F := F.1 k4
    refine z_iconst (pc := 26) (v := -1) dX3_sortOfWord_26 (by decide) ?_
    exact q_retI (pc := 27) dX3_sortOfWord_27 rfl F
  · replace F := F.2 k4
    refine z_aload_n (pc := 7) dX3_sortOfWord_7 rfl rfl ?_
    refine z_iload_n (pc := 8) dX3_sortOfWord_8 rfl rfl ?_
    refine q_invS (pc := 9) (As := [.int x1]) (st := [.ref 141]) dX3_sortOfWord_9 ok_X10_deedWord ml_RX3_87 st_X10_deedWord pa_X10_deedWord ⟨Nat.le_of_ble_eq_true rfl, Nat.le_of_ble_eq_true rfl⟩ (q_kR F (fun ch1 h1 F => ?_))
    obtain ⟨G1, ih1, hih1, rfl, F⟩ := F
    refine q_invV (pc := 12) (As := [.ref (1010 + ih1)]) (st := []) dX3_sortOfWord_12 ok_X3_isWord ml_RX3_83 iv_X3_isWord pa_X3_isWord ⟨Nat.le_of_ble_eq_true rfl, Nat.le_of_ble_eq_true rfl⟩ (lyc rfl) (q_kI F (fun vh2 h2 F => ?_))
    obtain ⟨G2, F⟩ := F
    refine z_if_eq (pc := 15) (tgt := 20) dX3_sortOfWord_15 (by decide) (fun k3 => ?_) (fun k3 => ?_)
    · replace F := F.1 k3
      refine z_iinc (pc := 20) (v := x1 + 1) (ls' := [some (.ref 141), some (.int (x1 + 1))]) dX3_sortOfWord_20 (by decide) rfl rfl rfl ?_
      refine z_goto (pc := 23) (tgt := 2) dX3_sortOfWord_23 (by decide) ?_
      exact F
    · replace F := F.2 k3
      refine z_iload_n (pc := 18) dX3_sortOfWord_18 rfl rfl ?_
      exact q_retI (pc := 19) dX3_sortOfWord_19 rfl F
theorem g_X11_isWord {i1 : Nat} {h : zHp} {Q : Int32 → zHp → Prop} (hi1 : i1 < 13) (G : zG h) (F : (¬ rI h 164 24 = 1 → (zlI M_X11_isWord 32 [some (.ref 164), some (.ref (1010 + i1)), some (.int 0), some (.int 0)] [] h Q)) ∧ (rI h 164 24 = 1 → (zcI M_J0_length_8abf5 [.ref (1010 + i1)] h (fun vh1 h1 => zG h1 ∧ ((¬ (rI h 164 23) - (rI h 164 22) = vh1 → (zlI M_X11_isWord 32 [some (.ref 164), some (.ref (1010 + i1)), some (.int 0), some (.int 0)] [] h1 Q)) ∧ ((rI h 164 23) - (rI h 164 22) = vh1 → (zlI M_X11_isWord 32 [some (.ref 164), some (.ref (1010 + i1)), some (.int 1), some (.int 0)] [] h1 Q))))))) : zcI M_X11_isWord [.ref 164, .ref (1010 + i1)] h Q := by
  show zw zNT zNT M_X11_isWord 0 [some (.ref 164), some (.ref (1010 + i1)), none, none] [] h _
  refine z_aload_n (pc := 0) dX11_isWord_0 rfl rfl ?_
  refine q_getI (pc := 1) (v := rI h 164 24) dX11_isWord_1 lk_RX11_257 (lyc rfl) rfl ?_
  refine z_iconst (pc := 4) (v := 1) dX11_isWord_4 (by decide) ?_
  refine z_icmp_ne (pc := 5) (tgt := 28) dX11_isWord_5 (by decide) (fun k3 => ?_) (fun k3 => ?_)
  · replace F := F.1 k3
    refine z_iconst (pc := 28) (v := 0) dX11_isWord_28 (by decide) ?_
    refine z_istore_n (pc := 29) (ls' := [some (.ref 164), some (.ref (1010 + i1)), some (.int 0), none]) dX11_isWord_29 rfl (by decide) rfl ?_
    refine z_iconst (pc := 30) (v := 0) dX11_isWord_30 (by decide) ?_
    refine z_istore_n (pc := 31) (ls' := [some (.ref 164), some (.ref (1010 + i1)), some (.int 0), some (.int 0)]) dX11_isWord_31 rfl (by decide) rfl ?_
    exact F
  · replace F := F.2 k3
    refine z_aload_n (pc := 8) dX11_isWord_8 rfl rfl ?_
    refine q_getI (pc := 9) (v := rI h 164 23) dX11_isWord_9 lk_RX11_245 (lyc rfl) rfl ?_
    refine z_aload_n (pc := 12) dX11_isWord_12 rfl rfl ?_
    refine q_getI (pc := 13) (v := rI h 164 22) dX11_isWord_13 lk_RX11_251 (lyc rfl) rfl ?_
    refine z_isub (pc := 16) dX11_isWord_16 ?_
    refine z_aload_n (pc := 17) dX11_isWord_17 rfl rfl ?_
    refine q_invVS (pc := 18) (i := i1) (As := []) (st := [.int ((rI h 164 23) - (rI h 164 22))]) dX11_isWord_18 ok_J0_length_8abf5 ms_RX11_260 iv_J0_length_8abf5 pa_J0_length_8abf5 ⟨Nat.le_of_ble_eq_true rfl, Nat.le_of_ble_eq_true rfl⟩ hi1 (q_kI F (fun vh1 h1 F => ?_))
    obtain ⟨G1, F⟩ := F
    refine z_icmp_ne (pc := 21) (tgt := 28) dX11_isWord_21 (by decide) (fun k2 => ?_) (fun k2 => ?_)
    · replace F := F.1 k2
      refine z_iconst (pc := 28) (v := 0) dX11_isWord_28 (by decide) ?_
      refine z_istore_n (pc := 29) (ls' := [some (.ref 164), some (.ref (1010 + i1)), some (.int 0), none]) dX11_isWord_29 rfl (by decide) rfl ?_
      refine z_iconst (pc := 30) (v := 0) dX11_isWord_30 (by decide) ?_
      refine z_istore_n (pc := 31) (ls' := [some (.ref 164), some (.ref (1010 + i1)), some (.int 0), some (.int 0)]) dX11_isWord_31 rfl (by decide) rfl ?_
      exact F
    · replace F := F.2 k2
      refine z_iconst (pc := 24) (v := 1) dX11_isWord_24 (by decide) ?_
      refine z_goto (pc := 25) (tgt := 29) dX11_isWord_25 (by decide) ?_
      refine z_istore_n (pc := 29) (ls' := [some (.ref 164), some (.ref (1010 + i1)), some (.int 1), none]) dX11_isWord_29 rfl (by decide) rfl ?_
      refine z_iconst (pc := 30) (v := 0) dX11_isWord_30 (by decide) ?_
      refine z_istore_n (pc := 31) (ls' := [some (.ref 164), some (.ref (1010 + i1)), some (.int 1), some (.int 0)]) dX11_isWord_31 rfl (by decide) rfl ?_
      exact F
theorem g_X11_isWord_32 {i1 : Nat} {x2 : Int32} {x3 : Int32} {h : zHp} {Q : Int32 → zHp → Prop} (hi1 : i1 < 13) (G : zG h) (F : zcI M_J0_length_8abf5 [.ref (1010 + i1)] h (fun vh1 h1 => zG h1 ∧ ((vh1 ≤ x3 → (zB x2 ∧ Q x2 h1)) ∧ (¬ (vh1 ≤ x3) → ((x2 = 0 → (zB x2 ∧ Q x2 h1)) ∧ (¬ (x2 = 0) → (vp_in ((rI h1 164 22) + x3) 120 ∧ (zcI M_J0_charAt_5068e [.ref (1010 + i1), .int x3] h1 (fun vh2 h2 => zG h2 ∧ ((¬ rI h1 174 ((Int32.toNatClampNeg ((rI h1 164 22) + x3))) = vh2 → (zlI M_X11_isWord 32 [some (.ref 164), some (.ref (1010 + i1)), some (.int 0), some (.int (x3 + 1))] [] h2 Q)) ∧ (rI h1 174 ((Int32.toNatClampNeg ((rI h1 164 22) + x3))) = vh2 → (zlI M_X11_isWord 32 [some (.ref 164), some (.ref (1010 + i1)), some (.int 1), some (.int (x3 + 1))] [] h2 Q)))))))))))) : zlI M_X11_isWord 32 [some (.ref 164), some (.ref (1010 + i1)), some (.int x2), some (.int x3)] [] h Q := by
  refine z_iload_n (pc := 32) dX11_isWord_32 rfl rfl ?_
  refine z_aload_n (pc := 33) dX11_isWord_33 rfl rfl ?_
  refine q_invVS (pc := 34) (i := i1) (As := []) (st := [.int x3]) dX11_isWord_34 ok_J0_length_8abf5 ms_RX11_260 iv_J0_length_8abf5 pa_J0_length_8abf5 ⟨Nat.le_of_ble_eq_true rfl, Nat.le_of_ble_eq_true rfl⟩ hi1 (q_kI F (fun vh1 h1 F => ?_))
  obtain ⟨G1, F⟩ := F
  refine z_icmp_ge (pc := 37) (tgt := 75) dX11_isWord_37 (by decide) (fun k6 => ?_) (fun k6 => ?_)
  · replace F := F.1 k6
    refine z_iload_n (pc := 75) dX11_isWord_75 rfl rfl ?_
    exact q_retB (pc := 76) dX11_isWord_76 rfl F.1 F.2
  · replace F := F.2 k6
    refine z_iload_n (pc := 40) dX11_isWord_40 rfl rfl ?_
    refine z_if_eq (pc := 41) (tgt := 75) dX11_isWord_41 (by decide) (fun k5 => ?_) (fun k5 => ?_)
    · replace F := F.1 k5
      refine z_iload_n (pc := 75) dX11_isWord_75 rfl rfl ?_
      exact q_retB (pc := 76) dX11_isWord_76 rfl F.1 F.2
    · replace F := F.2 k5
      refine z_aload_n (pc := 44) dX11_isWord_44 rfl rfl ?_
      refine q_getR (pc := 45) (i := 174) dX11_isWord_45 lk_RX11_37 (lyc rfl) (G1 164 20 174 rfl) ?_
      refine z_aload_n (pc := 48) dX11_isWord_48 rfl rfl ?_
      refine q_getI (pc := 49) (v := rI h1 164 22) dX11_isWord_49 lk_RX11_251 (lyc rfl) rfl ?_
      refine z_iload_n (pc := 52) dX11_isWord_52 rfl rfl ?_
      refine z_iadd (pc := 53) dX11_isWord_53 ?_
      obtain ⟨k2, F⟩ := F
      refine q_iald (pc := 54) (j := (Int32.toNatClampNeg ((rI h1 164 22) + x3))) (v := rI h1 174 ((Int32.toNatClampNeg ((rI h1 164 22) + x3)))) dX11_isWord_54 (lyc rfl) (zvn (lnc rfl) k2) rfl rfl ?_
      refine z_aload_n (pc := 55) dX11_isWord_55 rfl rfl ?_
      refine z_iload_n (pc := 56) dX11_isWord_56 rfl rfl ?_
      refine q_invVS (pc := 57) (i := i1) (As := [.int x3]) (st := [.int (rI h1 174 ((Int32.toNatClampNeg ((rI h1 164 22) + x3))))]) dX11_isWord_57 ok_J0_charAt_5068e ms_RX11_263 iv_J0_charAt_5068e pa_J0_charAt_5068e ⟨Nat.le_of_ble_eq_true rfl, Nat.le_of_ble_eq_true rfl⟩ hi1 (q_kI F (fun vh2 h2 F => ?_))
      obtain ⟨G2, F⟩ := F
      refine z_icmp_ne (pc := 60) (tgt := 67) dX11_isWord_60 (by decide) (fun k4 => ?_) (fun k4 => ?_)
      · replace F := F.1 k4
        refine z_iconst (pc := 67) (v := 0) dX11_isWord_67 (by decide) ?_
        refine z_istore_n (pc := 68) (ls' := [some (.ref 164), some (.ref (1010 + i1)), some (.int 0), some (.int x3)]) dX11_isWord_68 rfl (by decide) rfl ?_
        refine z_iinc (pc := 69) (v := x3 + 1) (ls' := [some (.ref 164), some (.ref (1010 + i1)), some (.int 0), some (.int (x3 + 1))]) dX11_isWord_69 (by decide) rfl rfl rfl ?_
        refine z_goto (pc := 72) (tgt := 32) dX11_isWord_72 (by decide) ?_
        exact F
      · replace F := F.2 k4
        refine z_iconst (pc := 63) (v := 1) dX11_isWord_63 (by decide) ?_
        refine z_goto (pc := 64) (tgt := 68) dX11_isWord_64 (by decide) ?_
        refine z_istore_n (pc := 68) (ls' := [some (.ref 164), some (.ref (1010 + i1)), some (.int 1), some (.int x3)]) dX11_isWord_68 rfl (by decide) rfl ?_
        refine z_iinc (pc := 69) (v := x3 + 1) (ls' := [some (.ref 164), some (.ref (1010 + i1)), some (.int 1), some (.int (x3 + 1))]) dX11_isWord_69 (by decide) rfl rfl rfl ?_
        refine z_goto (pc := 72) (tgt := 32) dX11_isWord_72 (by decide) ?_
        exact F
theorem g_X11_wordOf {c1 : Nat} {h : zHp} {Q : Int32 → zHp → Prop} (hc1 : zWd c1) (G : zG h) (F : zlI M_X11_wordOf 4 [some (.ref 164), some (.ref c1), some (.int (-1)), some (.int 0)] [] h Q) : zcI M_X11_wordOf [.ref 164, .ref c1] h Q := by
  show zw zNT zNT M_X11_wordOf 0 [some (.ref 164), some (.ref c1), none, none] [] h _
  refine z_iconst (pc := 0) (v := -1) dX11_wordOf_0 (by decide) ?_
  refine z_istore_n (pc := 1) (ls' := [some (.ref 164), some (.ref c1), some (.int (-1)), none]) dX11_wordOf_1 rfl (by decide) rfl ?_
  refine z_iconst (pc := 2) (v := 0) dX11_wordOf_2 (by decide) ?_
  refine z_istore_n (pc := 3) (ls' := [some (.ref 164), some (.ref c1), some (.int (-1)), some (.int 0)]) dX11_wordOf_3 rfl (by decide) rfl ?_
  exact F
theorem g_X11_wordOf_4 {c1 : Nat} {x2 : Int32} {x3 : Int32} {h : zHp} {Q : Int32 → zHp → Prop} (hc1 : zWd c1) (G : zG h) (F : (nI 6 ≤ x3 → (Q x2 h)) ∧ (¬ (nI 6 ≤ x3) → (vp_in x3 6 ∧ (zcI M_X11_isWord [.ref 164, .ref (1010 + (6 * (c1 - 175) + (Int32.toNatClampNeg x3)))] h (fun vh1 h1 => zG h1 ∧ ((vh1 = 0 → (zlI M_X11_wordOf 4 [some (.ref 164), some (.ref c1), some (.int x2), some (.int (x3 + 1))] [] h1 Q)) ∧ (¬ (vh1 = 0) → (zlI M_X11_wordOf 4 [some (.ref 164), some (.ref c1), some (.int x3), some (.int (x3 + 1))] [] h1 Q)))))))) : zlI M_X11_wordOf 4 [some (.ref 164), some (.ref c1), some (.int x2), some (.int x3)] [] h Q := by
  refine z_iload_n (pc := 4) dX11_wordOf_4 rfl rfl ?_
  refine z_aload_n (pc := 5) dX11_wordOf_5 rfl rfl ?_
  refine q_alen (pc := 6) dX11_wordOf_6 (lyWd0 hc1) (lnWd0 hc1) ?_
  refine z_icmp_ge (pc := 7) (tgt := 32) dX11_wordOf_7 (by decide) (fun k4 => ?_) (fun k4 => ?_)
  · replace F := F.1 k4
    refine z_iload_n (pc := 32) dX11_wordOf_32 rfl rfl ?_
    exact q_retI (pc := 33) dX11_wordOf_33 rfl F
  · replace F := F.2 k4
    refine z_aload_n (pc := 10) dX11_wordOf_10 rfl rfl ?_
    refine z_aload_n (pc := 11) dX11_wordOf_11 rfl rfl ?_
    refine z_iload_n (pc := 12) dX11_wordOf_12 rfl rfl ?_
    obtain ⟨k1, F⟩ := F
    refine q_aald (pc := 13) (j := (Int32.toNatClampNeg x3)) (r := 1010 + (6 * (c1 - 175) + (Int32.toNatClampNeg x3))) (t := 5) dX11_wordOf_13 (lyWd0 hc1) (zvn (lnWd0 hc1) k1) rfl (grD G hc1 (zvi k1)) ?_
    refine q_invV (pc := 14) (As := [.ref (1010 + (6 * (c1 - 175) + (Int32.toNatClampNeg x3)))]) (st := []) dX11_wordOf_14 ok_X11_isWord ml_RX11_267 iv_X11_isWord pa_X11_isWord ⟨Nat.le_of_ble_eq_true rfl, Nat.le_of_ble_eq_true rfl⟩ (lyc rfl) (q_kI F (fun vh1 h1 F => ?_))
    obtain ⟨G1, F⟩ := F
    refine z_if_eq (pc := 17) (tgt := 24) dX11_wordOf_17 (by decide) (fun k3 => ?_) (fun k3 => ?_)
    · replace F := F.1 k3
      refine z_iload_n (pc := 24) dX11_wordOf_24 rfl rfl ?_
      refine z_istore_n (pc := 25) (ls' := [some (.ref 164), some (.ref c1), some (.int x2), some (.int x3)]) dX11_wordOf_25 rfl (by decide) rfl ?_
      refine z_iinc (pc := 26) (v := x3 + 1) (ls' := [some (.ref 164), some (.ref c1), some (.int x2), some (.int (x3 + 1))]) dX11_wordOf_26 (by decide) rfl rfl rfl ?_
      refine z_goto (pc := 29) (tgt := 4) dX11_wordOf_29 (by decide) ?_
      exact F
    · replace F := F.2 k3
      refine z_iload_n (pc := 20) dX11_wordOf_20 rfl rfl ?_
      refine z_goto (pc := 21) (tgt := 25) dX11_wordOf_21 (by decide) ?_
      refine z_istore_n (pc := 25) (ls' := [some (.ref 164), some (.ref c1), some (.int x3), some (.int x3)]) dX11_wordOf_25 rfl (by decide) rfl ?_
      refine z_iinc (pc := 26) (v := x3 + 1) (ls' := [some (.ref 164), some (.ref c1), some (.int x3), some (.int (x3 + 1))]) dX11_wordOf_26 (by decide) rfl rfl rfl ?_
      refine z_goto (pc := 29) (tgt := 4) dX11_wordOf_29 (by decide) ?_
      exact F
def isW (T : zN) (t : Nat × Nat × Nat × Nat) (i : Nat) : Prop := t.2.2.1 - t.1 = wl i ∧ ∀ k, k < wl i → T (t.1 + k) = wc i k
noncomputable def wxr (T : zN) (t : Nat × Nat × Nat × Nat) (b : Nat) : Nat → Int32
  | 0 => -1
  | n + 1 => @ite _ (isW T t (b + n)) (Classical.propDecidable _) (nI n) (wxr T t b n)
theorem wxr_1 {T : zN} {t : Nat × Nat × Nat × Nat} {b n : Nat} (h : isW T t (b + n)) : wxr T t b (n + 1) = nI n := by rw [wxr, if_pos h]
theorem wxr_0 {T : zN} {t : Nat × Nat × Nat × Nat} {b n : Nat} (h : ¬ isW T t (b + n)) : wxr T t b (n + 1) = wxr T t b n := by rw [wxr, if_neg h]
theorem W_ne : ∀ i, i < 12 → ∀ j, j < 12 → i ≠ j → wl i ≠ wl j ∨ ∃ k, k < wl i ∧ wc i k ≠ wc j k := by decide +kernel
theorem isW_u {T : zN} {t : Nat × Nat × Nat × Nat} {i j : Nat} (hi : i < 12) (hj : j < 12) (a : isW T t i) (b : isW T t j) : i = j := by
  refine Classical.byContradiction (fun z => ?_)
  rcases W_ne i hi j hj z with y | ⟨k, hk, y⟩
  · exact y (a.1.symm.trans b.1)
  · exact y ((a.2 k hk).symm.trans (b.2 k (by rw [← b.1, a.1]; exact hk)))
theorem wxr_u {T : zN} {t : Nat × Nat × Nat × Nat} {b k : Nat} (hb : b ≤ 6) (hk : k < 6) (a : isW T t (b + k)) : ∀ n, k < n → n ≤ 6 → wxr T t b n = nI k := by
  intro n
  induction n with
  | zero => intro h _; omega
  | succ n ih =>
    intro h1 h2
    by_cases z : n = k
    · subst z; exact wxr_1 a
    · rw [wxr_0 (fun y => z (by have := isW_u (by omega) (by omega) y a; omega))]
      exact ih (by omega) (by omega)
theorem wxr_in {T : zN} {t : Nat × Nat × Nat × Nat} {b : Nat} : ∀ n, wxr T t b n = -1 ∨ ∃ k, k < n ∧ wxr T t b n = nI k ∧ isW T t (b + k) := by
  intro n
  induction n with
  | zero => exact Or.inl rfl
  | succ n ih =>
    rcases Classical.em (isW T t (b + n)) with z | z
    · exact Or.inr ⟨n, by omega, wxr_1 z, z⟩
    · rw [wxr_0 z]
      rcases ih with y | ⟨k, h1, h2, h3⟩
      · exact Or.inl y
      · exact Or.inr ⟨k, by omega, h2, h3⟩
noncomputable def hw (T : zN) (t : Nat × Nat × Nat × Nat) (b : Nat) : Int32 := if t.2.1 = 1 then wxr T t b 6 else -1
theorem hw_in {T : zN} {t : Nat × Nat × Nat × Nat} {b : Nat} : hw T t b = -1 ∨ ∃ k, k < 6 ∧ hw T t b = nI k := by
  unfold hw
  split
  · rcases wxr_in (T := T) (t := t) (b := b) 6 with y | ⟨k, h1, h2, -⟩
    · exact Or.inl y
    · exact Or.inr ⟨k, h1, h2⟩
  · exact Or.inl rfl
theorem sgn_all : ∀ m, m < 256 → ((nI m).toInt8.toInt32 = nI m ∧ m < 128) ∨ ((nI m).toInt8.toInt32 < 0 ∧ 128 ≤ m) := by decide +kernel
theorem wc_b : ∀ i, i < 13 → ∀ j, j < 7 → 0 ≤ wc i j ∧ wc i j ≤ 127 := by decide +kernel
theorem byt_w {c : Int32} {i j : Nat} (h : iv 0 255 c) (hi : i < 13) (hj : j < 7) : c.toInt8.toInt32 = wc i j ↔ c = wc i j := by
  obtain ⟨m, hm, rfl⟩ := byt h
  obtain ⟨w1, w2⟩ := wc_b i hi j hj
  rcases sgn_all m hm with z | z
  · rw [z.1]
  · constructor
    · intro y
      rw [y] at z
      exact absurd z.1 (Int32.not_lt.mpr w1)
    · intro y
      rw [← y] at w2
      exact absurd ((nI_leI (b := 127) (by omega) (by omega)).mp w2) (by omega)
theorem s_X3_isWord {T : zN} {L i : Nat} {t : Nat × Nat × Nat × Nat} {h : zHp} (G : zG h) (tp : TpC h T L) (tc : TC h t) (b1 : t.1 ≤ t.2.2.1) (b2 : t.2.2.1 ≤ L) (hi : i < 13) : zcI M_X3_isWord [.ref 141, .ref (1010 + i)] h (fun r h' => r = zb (isW T t i) ∧ h' = h) := by
  have l120 := tp.1
  have w7 := (wl_all i hi).2.1
  refine g_X3_isWord hi G (zcI_use (s_len hi) ⟨G, ?_⟩)
  rw [tc.1, tc.2.2.1, pk_sub b1]
  refine ⟨fun z => ?_, fun z => ⟨(zb_neg (fun y => z (by rw [y.1]))).symm, rfl⟩⟩
  have el : t.2.2.1 - t.1 = wl i := (nI_eq (by omega) (by omega)).mp z
  have loop : ∀ (m j : Nat), j + m = wl i → (∀ k, k < j → T (t.1 + k) = wc i k) → zlI M_X3_isWord 20 [some (.ref 141), some (.ref (1010 + i)), some (.int (nI j))] [] h (fun r h' => r = zb (isW T t i) ∧ h' = h) := by
    intro m
    induction m with
    | zero =>
      intro j hj c
      have : j = wl i := by omega
      subst this
      exact g_X3_isWord_20 hi G (zcI_use (s_len hi) ⟨G, fun _ => ⟨(zb_pos ⟨el, c⟩).symm, rfl⟩, fun y => absurd (Int32.le_refl _) y⟩)
    | succ m ih =>
      intro j hj c
      have hj' : j < wl i := by omega
      refine g_X3_isWord_20 hi G (zcI_use (s_len hi) ⟨G, fun y => absurd y (nI_ge hj' (by omega)), fun _ => ?_⟩)
      rw [tc.2.2.1, nI_add]
      refine zcI_use (s_X3_byteAt G tp (by omega)) ⟨G, zcI_use (s_char hi hj') ⟨G, ?_⟩⟩
      have eb : bC T L (t.1 + j) = (T (t.1 + j)).toInt8.toInt32 := by unfold bC; rw [if_pos (by omega)]
      have bw := byt_w (i := i) (j := j) (tp.2.2 (t.1 + j) (by omega)).2 hi (by omega)
      rw [eb, nI_1]
      refine ⟨fun y => ih (j + 1) (by omega) (fun k hk => ?_), fun y => ⟨(zb_neg (fun x => y (bw.mpr (x.2 j hj')))).symm, rfl⟩⟩
      by_cases e : k = j
      · rw [e]; exact bw.mp y
      · exact c k (by omega)
  exact loop (wl i) 0 (by omega) (fun k hk => by omega)
theorem s_X3_scopeOfWord {T : zN} {L : Nat} {t : Nat × Nat × Nat × Nat} {h : zHp} (G : zG h) (tp : TpC h T L) (tc : TC h t) (b1 : t.1 ≤ t.2.2.1) (b2 : t.2.2.1 ≤ L) : zcI M_X3_scopeOfWord [.ref 141] h (fun r h' => r = wxr T t 0 6 ∧ h' = h) := by
  have loop : ∀ (m j : Nat), j + m = 6 → wxr T t 0 j = -1 → zlI M_X3_scopeOfWord 2 [some (.ref 141), some (.int (nI j))] [] h (fun r h' => r = wxr T t 0 6 ∧ h' = h) := by
    intro m
    induction m with
    | zero =>
      intro j hj c
      have : j = 6 := by omega
      subst this
      exact g_X3_scopeOfWord_2 G ⟨fun _ => ⟨c.symm, rfl⟩, fun y => absurd (by decide) y⟩
    | succ m ih =>
      intro j hj c
      refine g_X3_scopeOfWord_2 G ⟨fun y => absurd y (nI_nlt (a := 5) (by omega) (by omega)), fun _ => zcR_use (s_scopeWord G (by omega)) ⟨G, j, by omega, rfl, zcI_use (s_X3_isWord G tp tc b1 b2 (by omega)) ⟨G, fun z => ?_, fun z => ?_⟩⟩⟩
      · rw [nI_1]
        exact ih (j + 1) (by omega) (by rw [wxr_0 (by rw [Nat.zero_add]; exact zb0.mp z)]; exact c)
      · exact ⟨(wxr_u (b := 0) (by omega) (by omega) (by rw [Nat.zero_add]; exact zbn.mp z) 6 (by omega) (by omega)).symm, rfl⟩
  exact g_X3_scopeOfWord G (loop 6 0 (by omega) rfl)
theorem s_X3_sortOfWord {T : zN} {L : Nat} {t : Nat × Nat × Nat × Nat} {h : zHp} (G : zG h) (tp : TpC h T L) (tc : TC h t) (b1 : t.1 ≤ t.2.2.1) (b2 : t.2.2.1 ≤ L) : zcI M_X3_sortOfWord [.ref 141] h (fun r h' => r = wxr T t 6 6 ∧ h' = h) := by
  have loop : ∀ (m j : Nat), j + m = 6 → wxr T t 6 j = -1 → zlI M_X3_sortOfWord 2 [some (.ref 141), some (.int (nI j))] [] h (fun r h' => r = wxr T t 6 6 ∧ h' = h) := by
    intro m
    induction m with
    | zero =>
      intro j hj c
      have : j = 6 := by omega
      subst this
      exact g_X3_sortOfWord_2 G ⟨fun _ => ⟨c.symm, rfl⟩, fun y => absurd (by decide) y⟩
    | succ m ih =>
      intro j hj c
      refine g_X3_sortOfWord_2 G ⟨fun y => absurd y (nI_nlt (a := 5) (by omega) (by omega)), fun _ => zcR_use (s_deedWord G (by omega)) ⟨G, 6 + j, by omega, rfl, zcI_use (s_X3_isWord G tp tc b1 b2 (by omega)) ⟨G, fun z => ?_, fun z => ?_⟩⟩⟩
      · rw [nI_1]
        exact ih (j + 1) (by omega) (by rw [wxr_0 (zb0.mp z)]; exact c)
      · exact ⟨(wxr_u (b := 6) (by omega) (by omega) (zbn.mp z) 6 (by omega) (by omega)).symm, rfl⟩
  exact g_X3_sortOfWord G (loop 6 0 (by omega) rfl)
theorem tv_1 {k : Nat} : tv k = 1 ↔ k = 1 := by
  unfold tv
  constructor
  · intro h
    refine Classical.byContradiction (fun z => ?_)
    by_cases a : k = 0
    · rw [if_pos a] at h; exact absurd h (by decide)
    · rw [if_neg a, if_neg z] at h
      by_cases b : k = 2
      · rw [if_pos b] at h; exact absurd h (by decide)
      · rw [if_neg b] at h
        by_cases c : k = 3
        · rw [if_pos c] at h; exact absurd h (by decide)
        · rw [if_neg c] at h
          by_cases d : k = 4
          · rw [if_pos d] at h; exact absurd h (by decide)
          · rw [if_neg d] at h; exact absurd h (by decide)
  · intro h; rw [h]; rfl
theorem s_X11_isWord {T : zN} {L i : Nat} {t : Nat × Nat × Nat × Nat} {h : zHp} (G : zG h) (tp : TpM h T L) (tm : TM h t) (b1 : t.1 ≤ t.2.2.1) (b2 : t.2.2.1 ≤ L) (hi : i < 13) : zcI M_X11_isWord [.ref 164, .ref (1010 + i)] h (fun r h' => r = zb (t.2.1 = 1 ∧ isW T t i) ∧ h' = h) := by
  have l120 := tp.1
  have w7 := (wl_all i hi).2.1
  have no : ∀ j, ¬ (t.2.1 = 1 ∧ isW T t i) → zlI M_X11_isWord 32 [some (.ref 164), some (.ref (1010 + i)), some (.int 0), some (.int j)] [] h (fun r h' => r = zb (t.2.1 = 1 ∧ isW T t i) ∧ h' = h) := by
    intro j n
    exact g_X11_isWord_32 hi G (zcI_use (s_len hi) ⟨G, fun _ => ⟨Or.inl rfl, (zb_neg n).symm, rfl⟩, fun _ => ⟨fun _ => ⟨Or.inl rfl, (zb_neg n).symm, rfl⟩, fun y => absurd rfl y⟩⟩)
  refine g_X11_isWord hi G ?_
  rw [tm.1, tm.2.1, tm.2.2.1, pk_sub b1]
  refine ⟨fun z => no _ (fun y => z (tv_1.mpr y.1)), fun z => zcI_use (s_len hi) ⟨G, fun y => no _ (fun x => y (by rw [x.2.1])), fun y => ?_⟩⟩
  have k1 := tv_1.mp z
  have el : t.2.2.1 - t.1 = wl i := (nI_eq (by omega) (by omega)).mp y
  have loop : ∀ (m j : Nat), j + m = wl i → (∀ k, k < j → T (t.1 + k) = wc i k) → zlI M_X11_isWord 32 [some (.ref 164), some (.ref (1010 + i)), some (.int 1), some (.int (nI j))] [] h (fun r h' => r = zb (t.2.1 = 1 ∧ isW T t i) ∧ h' = h) := by
    intro m
    induction m with
    | zero =>
      intro j hj c
      have : j = wl i := by omega
      subst this
      exact g_X11_isWord_32 hi G (zcI_use (s_len hi) ⟨G, fun _ => ⟨Or.inr rfl, (zb_pos ⟨k1, el, c⟩).symm, rfl⟩, fun y => absurd (Int32.le_refl _) y⟩)
    | succ m ih =>
      intro j hj c
      have hj' : j < wl i := by omega
      refine g_X11_isWord_32 hi G (zcI_use (s_len hi) ⟨G, fun y => absurd y (nI_ge hj' (by omega)), fun _ => ⟨fun y => absurd y (by decide), fun _ => ?_⟩⟩)
      rw [tm.1, nI_add, nI_clamp (by omega), (tp.2.2 (t.1 + j) (by omega)).1, nI_1]
      refine ⟨vp_in_nI (by omega) (by omega), zcI_use (s_char hi hj') ⟨G, fun y => no _ (fun x => y (x.2.2 j hj')), fun y => ih (j + 1) (by omega) (fun k hk => ?_)⟩⟩
      by_cases e : k = j
      · rw [e]; exact y
      · exact c k (by omega)
  exact loop (wl i) 0 (by omega) (fun k hk => by omega)
theorem s_X11_wordOf {T : zN} {L b : Nat} {t : Nat × Nat × Nat × Nat} {h : zHp} (G : zG h) (tp : TpM h T L) (tm : TM h t) (b1 : t.1 ≤ t.2.2.1) (b2 : t.2.2.1 ≤ L) (hb : b < 2) : zcI M_X11_wordOf [.ref 164, .ref (175 + b)] h (fun r h' => r = hw T t (6 * b) ∧ h' = h) := by
  have hc : zWd (175 + b) := by
    rcases (by omega : b = 0 ∨ b = 1) with z | z <;> subst z
    · exact Or.inl rfl
    · exact Or.inr rfl
  have loop : ∀ (m j : Nat), j + m = 6 → zlI M_X11_wordOf 4 [some (.ref 164), some (.ref (175 + b)), some (.int (if t.2.1 = 1 then wxr T t (6 * b) j else -1)), some (.int (nI j))] [] h (fun r h' => r = hw T t (6 * b) ∧ h' = h) := by
    intro m
    induction m with
    | zero =>
      intro j hj
      have : j = 6 := by omega
      subst this
      exact g_X11_wordOf_4 hc G ⟨fun _ => ⟨rfl, rfl⟩, fun y => absurd (by decide) y⟩
    | succ m ih =>
      intro j hj
      refine g_X11_wordOf_4 hc G ⟨fun y => absurd y (nI_ge (by omega) (by omega)), fun _ => ⟨vp_in_nI (by omega) (by omega), ?_⟩⟩
      rw [nI_clamp (by omega), show 6 * (175 + b - 175) + j = 6 * b + j by omega, nI_1]
      have nx := ih (j + 1) (by omega)
      refine zcI_use (s_X11_isWord G tp tm b1 b2 (by omega)) ⟨G, fun z => ?_, fun z => ?_⟩
      · have n := zb0.mp z
        by_cases k1 : t.2.1 = 1
        · rw [if_pos k1] at nx ⊢
          rw [wxr_0 (fun y => n ⟨k1, y⟩)] at nx
          exact nx
        · rw [if_neg k1] at nx ⊢
          exact nx
      · have n := zbn.mp z
        rw [if_pos n.1, wxr_1 n.2] at nx
        exact nx
  have := loop 6 0 (by omega)
  refine g_X11_wordOf hc G ?_
  have e : (if t.2.1 = 1 then wxr T t (6 * b) 0 else -1) = -1 := by
    split <;> rfl
  rw [e] at this
  exact this
/-! phrases -/
def bd {α β : Type} (x : Nat ⊕ α) (f : α → Nat ⊕ β) : Nat ⊕ β := match x with
  | .inl a => .inl a
  | .inr b => f b
abbrev Ph : Type := Int32 × Int32 × Int32 × Int32 × Int32
def pN (T : zN) (L most p : Nat) : Nat ⊕ (Int32 × Nat) := if (Tk T L p).2.1 = 2 ∧ (Tk T L p).2.2.2 ≤ most then .inr (nI (Tk T L p).2.2.2, (Tk T L p).2.2.1) else .inl (Tk T L p).1
def pV (T : zN) (L p : Nat) : Nat ⊕ (Int32 × Nat) := if (Tk T L p).2.1 = 4 then bd (pN T L 9 (Tk T L p).2.2.1) (fun w => .inr (-w.1, w.2)) else pN T L 9 p
def mxk (k : Nat) : Nat := if k = 1 then 1 else if k = 5 then 7 else 5
noncomputable def pX (T : zN) (L : Nat) (how : Int32) (p : Nat) : Nat ⊕ (Int32 × Nat) := if how = 0 then .inr (0, p) else pN T L (mxk how.toNatClampNeg) p
noncomputable def pF (T : zN) (L : Nat) (so : Int32) (p : Nat) : Nat ⊕ (Int32 × Nat) := if so = 5 then .inr (0, p) else if so ≤ 2 then pN T L 5 p else pV T L p
noncomputable def pU (T : zN) (L : Nat) (so : Int32) (p : Nat) : Nat ⊕ (Int32 × Nat) := if so = 3 ∨ so = 4 then pV T L p else .inr (0, p)
noncomputable def pB (T : zN) (L : Nat) (how : Int32) (xq : Int32 × Nat) : Nat ⊕ (Ph × Nat) :=
  if hw T (Tk T L xq.2) 6 = -1 then .inl (Tk T L xq.2).1
  else bd (pF T L (hw T (Tk T L xq.2) 6) (Tk T L xq.2).2.2.1) (fun vq => bd (pU T L (hw T (Tk T L xq.2) 6) vq.2) (fun uq => .inr ((hw T (Tk T L xq.2) 6, how, xq.1, vq.1, uq.1), uq.2)))
noncomputable def PH (T : zN) (L : Nat) (room : Bool) (p : Nat) : Nat ⊕ (Ph × Nat) :=
  if hw T (Tk T L p) 0 = -1 ∨ room = false then .inl (Tk T L p).1
  else bd (pX T L (hw T (Tk T L p) 0) (Tk T L p).2.2.1) (pB T L (hw T (Tk T L p) 0))
noncomputable def TX (T : zN) (L : Nat) : Nat → Nat → Nat → Nat ⊕ List Ph
  | 0, _, p => .inl p
  | m + 1, r, p => bd (PH T L (decide (0 < r)) p) (fun w =>
      if (Tk T L w.2).2.1 = 0 then .inr [w.1]
      else if (Tk T L w.2).2.1 = 3 then bd (TX T L m (r - 1) (Tk T L w.2).2.2.1) (fun l => .inr (w.1 :: l))
      else .inl (Tk T L w.2).1)
theorem Tk_se {T : zN} {L p : Nat} (h : p ≤ L) : (Tk T L p).1 ≤ (Tk T L p).2.2.1 := by
  have a := sk_b (T := T) (L := L) (L - p) p rfl h
  have b := rn_b (T := T) (L := L) (k := 1) (L - sk T L p) (sk T L p) rfl a.2
  have c := rn_b (T := T) (L := L) (k := 2) (L - sk T L p) (sk T L p) rfl a.2
  unfold Tk
  split
  · split
    · exact b.1
    · split
      · exact c.1
      · exact Nat.le_succ _
  · exact Nat.le_refl _
theorem pN_b {T : zN} {L most p : Nat} (h : p ≤ L) : (∀ f, pN T L most p = .inl f → f ≤ L) ∧ ∀ w q, pN T L most p = .inr (w, q) → q ≤ L ∧ ∃ k, k ≤ most ∧ w = nI k := by
  have b := Tk_b (T := T) h
  unfold pN
  by_cases z : (Tk T L p).2.1 = 2 ∧ (Tk T L p).2.2.2 ≤ most
  · rw [if_pos z]
    exact ⟨fun f e => (by cases e), fun w q e => by cases e; exact ⟨b.2.1, _, z.2, rfl⟩⟩
  · rw [if_neg z]
    exact ⟨fun f e => (by cases e; exact b.1), fun w q e => by cases e⟩
theorem pV_b {T : zN} {L p : Nat} (h : p ≤ L) : (∀ f, pV T L p = .inl f → f ≤ L) ∧ ∀ w q, pV T L p = .inr (w, q) → q ≤ L ∧ iv (-9) 9 w := by
  have b := Tk_b (T := T) h
  unfold pV
  by_cases z : (Tk T L p).2.1 = 4
  · rw [if_pos z]
    have c := pN_b (T := T) (most := 9) b.2.1
    cases e : pN T L 9 (Tk T L p).2.2.1 with
    | inl f => exact ⟨fun f' e' => by cases e'; exact c.1 f e, fun w q e' => by cases e'⟩
    | inr a =>
      obtain ⟨w, q⟩ := a
      obtain ⟨c1, k, c2, rfl⟩ := c.2 w q e
      refine ⟨fun f' e' => (by cases e'), fun w' q' e' => ?_⟩
      cases e'
      refine ⟨c1, ?_⟩
      unfold iv
      rw [ti_neg (by rw [nI_toInt (by omega)]; omega), nI_toInt (by omega)]
      omega
  · rw [if_neg z]
    have c := pN_b (T := T) (most := 9) h
    refine ⟨c.1, fun w q e => ?_⟩
    obtain ⟨c1, k, c2, rfl⟩ := c.2 w q e
    exact ⟨c1, nI_iv (by omega) (by omega) (by omega)⟩

