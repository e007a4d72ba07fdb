/-! calls: tell -/
theorem g_X10_tell {x1 : Int32} {x2 : Int32} {h : zHp} {Q : Int32 → zHp → Prop}  (G : zG h) (F : (¬ (0 ≤ x1 ∧ x1 ≤ (rI h 2 3) - 1) → (Q (-2) h)) ∧ ((0 ≤ x1 ∧ x1 ≤ (rI h 2 3) - 1) → ((((0 : Int32) ≤ x2 ∧ x2 ≤ 3) → (vp_in x1 10 ∧ (zRef h 4 ((Int32.toNatClampNeg x1)) 2 ∧ (vp_in x2 4 ∧ (zcV M_X5_become [.ref (156 + 2 * (Int32.toNatClampNeg x2)), .int 0, .int 0] h (fun h1 => zG h1 ∧ (zcR M_X10_scopeWord [.int (rI h1 (rG h 4 ((Int32.toNatClampNeg x1))) 2)] h1 (fun ch2 h2 => zG h2 ∧ ∃ ih2, ih2 < 13 ∧ ch2 = 1010 + ih2 ∧ (zcV M_X5_appendText [.ref (156 + 2 * (Int32.toNatClampNeg x2)), .ref (1010 + ih2)] h2 (fun h3 => zG h3 ∧ ((rI h3 (rG h 4 ((Int32.toNatClampNeg x1))) 2 = 0 → (zlI M_X10_tell 76 [some (.ref 0), some (.int x1), some (.int x2), some (.ref (rG h 4 ((Int32.toNatClampNeg x1)))), some (.ref (156 + 2 * (Int32.toNatClampNeg x2)))] [] h3 Q)) ∧ (¬ (rI h3 (rG h 4 ((Int32.toNatClampNeg x1))) 2 = 0) → (zcV M_X5_appendValue [.ref (156 + 2 * (Int32.toNatClampNeg x2)), .int (rI h3 (rG h 4 ((Int32.toNatClampNeg x1))) 3)] h3 (fun h4 => zG h4 ∧ (zlI M_X10_tell 76 [some (.ref 0), some (.int x1), some (.int x2), some (.ref (rG h 4 ((Int32.toNatClampNeg x1)))), some (.ref (156 + 2 * (Int32.toNatClampNeg x2)))] [] h4 Q))))))))))))))) ∧ (¬ ((0 : Int32) ≤ x2 ∧ x2 ≤ 3) → (Q (-2) h))))) : zcI M_X10_tell [.ref 0, .int x1, .int x2] h Q := by
  show zw zNT zNT M_X10_tell 0 [some (.ref 0), some (.int x1), some (.int x2), none, none] [] h _
  refine z_aload_n (pc := 0) dX10_tell_0 rfl rfl ?_
  refine q_getR (pc := 1) (i := 2) dX10_tell_1 lk_RX10_20 (lyc rfl) (G 0 1 2 rfl) ?_
  refine z_iload_n (pc := 4) dX10_tell_4 rfl rfl ?_
  refine q_invV (pc := 5) (As := [.int x1]) (st := []) dX10_tell_5 ok_X8_hasEffect ml_RX10_174 iv_X8_hasEffect pa_X8_hasEffect ⟨Nat.le_of_ble_eq_true rfl, Nat.le_of_ble_eq_true rfl⟩ (lyc rfl) (q_pI (s_X8_hasEffect G (Or.inl rfl)) rfl ?_)
  refine z_if_eq (pc := 8) (tgt := 20) dX10_tell_8 (by decide) (fun k10 => ?_) (fun k10 => ?_)
  · replace F := F.1 (zb0.mp k10)
    refine z_bipush (pc := 20) (v := -2) dX10_tell_20 (by decide) ?_
    exact q_retI (pc := 22) dX10_tell_22 rfl F
  · replace F := F.2 (zbn.mp k10)
    refine z_iload_n (pc := 11) dX10_tell_11 rfl rfl ?_
    refine z_iconst (pc := 12) (v := 0) dX10_tell_12 (by decide) ?_
    refine z_iconst (pc := 13) (v := 3) dX10_tell_13 (by decide) ?_
    refine q_invS (pc := 14) (As := [.int x2, .int 0, .int 3]) (st := []) dX10_tell_14 ok_X10_within ml_RX10_82 st_X10_within pa_X10_within ⟨Nat.le_of_ble_eq_true rfl, Nat.le_of_ble_eq_true rfl⟩ (q_pI (s_X10_within G) rfl ?_)
    refine z_if_ne (pc := 17) (tgt := 23) dX10_tell_17 (by decide) (fun k9 => ?_) (fun k9 => ?_)
    · replace F := F.1 (zbn.mp k9)
      refine z_aload_n (pc := 23) dX10_tell_23 rfl rfl ?_
      refine q_getR (pc := 24) (i := 2) dX10_tell_24 lk_RX10_20 (lyc rfl) (G 0 1 2 rfl) ?_
      refine q_getR (pc := 27) (i := 4) dX10_tell_27 lk_RX10_164 (lyc rfl) (G 2 2 4 rfl) ?_
      refine z_iload_n (pc := 30) dX10_tell_30 rfl rfl ?_
      obtain ⟨k1, F⟩ := F
      obtain ⟨k2, F⟩ := F
      refine q_aald (pc := 31) (j := (Int32.toNatClampNeg x1)) (r := rG h 4 ((Int32.toNatClampNeg x1))) (t := 1) dX10_tell_31 (lyc rfl) (zvn (lnc rfl) k1) rfl k2.1 ?_
      refine z_astore_n (pc := 32) (ls' := [some (.ref 0), some (.int x1), some (.int x2), some (.ref (rG h 4 ((Int32.toNatClampNeg x1)))), none]) dX10_tell_32 rfl (by decide) rfl ?_
      refine z_aload_n (pc := 33) dX10_tell_33 rfl rfl ?_
      refine q_getR (pc := 34) (i := 154) dX10_tell_34 lk_RX10_59 (lyc rfl) (G 0 9 154 rfl) ?_
      refine z_iload_n (pc := 37) dX10_tell_37 rfl rfl ?_
      obtain ⟨k3, F⟩ := F
      refine q_aald (pc := 38) (j := (Int32.toNatClampNeg x2)) (r := 156 + 2 * (Int32.toNatClampNeg x2)) (t := 4) dX10_tell_38 (lyc rfl) (zvn (lnc rfl) k3) rfl (grS G (zvi k3)) ?_
      refine z_astore (pc := 39) (ls' := [some (.ref 0), some (.int x1), some (.int x2), some (.ref (rG h 4 ((Int32.toNatClampNeg x1)))), some (.ref (156 + 2 * (Int32.toNatClampNeg x2)))]) dX10_tell_39 (by decide) rfl ?_
      refine z_aload (pc := 41) dX10_tell_41 rfl ?_
      refine z_iconst (pc := 43) (v := 0) dX10_tell_43 (by decide) ?_
      refine z_iconst (pc := 44) (v := 0) dX10_tell_44 (by decide) ?_
      refine q_invV (pc := 45) (As := [.int 0, .int 0]) (st := []) dX10_tell_45 ok_X5_become ml_RX10_323 iv_X5_become pa_X5_become ⟨Nat.le_of_ble_eq_true rfl, Nat.le_of_ble_eq_true rfl⟩ (lySh0 (shS (zvi k3))) (q_kV F (fun h1 F => ?_))
      obtain ⟨G1, F⟩ := F
      refine z_aload (pc := 48) dX10_tell_48 rfl ?_
      refine z_aload_n (pc := 50) dX10_tell_50 rfl rfl ?_
      refine q_getI (pc := 51) (v := rI h1 (rG h 4 ((Int32.toNatClampNeg x1))) 2) dX10_tell_51 lk_RX10_325 k2.2 rfl ?_
      refine q_invS (pc := 54) (As := [.int (rI h1 (rG h 4 ((Int32.toNatClampNeg x1))) 2)]) (st := [.ref (156 + 2 * (Int32.toNatClampNeg x2))]) dX10_tell_54 ok_X10_scopeWord ml_RX10_326 st_X10_scopeWord pa_X10_scopeWord ⟨Nat.le_of_ble_eq_true rfl, Nat.le_of_ble_eq_true rfl⟩ (q_kR F (fun ch2 h2 F => ?_))
      obtain ⟨G2, ih2, hih2, rfl, F⟩ := F
      refine q_invV (pc := 57) (As := [.ref (1010 + ih2)]) (st := []) dX10_tell_57 ok_X5_appendText ml_RX10_330 iv_X5_appendText pa_X5_appendText ⟨Nat.le_of_ble_eq_true rfl, Nat.le_of_ble_eq_true rfl⟩ (lySh0 (shS (zvi k3))) (q_kV F (fun h3 F => ?_))
      obtain ⟨G3, F⟩ := F
      refine z_aload_n (pc := 60) dX10_tell_60 rfl rfl ?_
      refine q_getI (pc := 61) (v := rI h3 (rG h 4 ((Int32.toNatClampNeg x1))) 2) dX10_tell_61 lk_RX10_325 k2.2 rfl ?_
      refine z_if_eq (pc := 64) (tgt := 76) dX10_tell_64 (by decide) (fun k8 => ?_) (fun k8 => ?_)
      · replace F := F.1 k8
        exact F
      · replace F := F.2 k8
        refine z_aload (pc := 67) dX10_tell_67 rfl ?_
        refine z_aload_n (pc := 69) dX10_tell_69 rfl rfl ?_
        refine q_getI (pc := 70) (v := rI h3 (rG h 4 ((Int32.toNatClampNeg x1))) 3) dX10_tell_70 lk_RX10_334 k2.2 rfl ?_
        refine q_invV (pc := 73) (As := [.int (rI h3 (rG h 4 ((Int32.toNatClampNeg x1))) 3)]) (st := []) dX10_tell_73 ok_X5_appendValue ml_RX10_335 iv_X5_appendValue pa_X5_appendValue ⟨Nat.le_of_ble_eq_true rfl, Nat.le_of_ble_eq_true rfl⟩ (lySh0 (shS (zvi k3))) (q_kV F (fun h4 F => ?_))
        obtain ⟨G4, F⟩ := F
        exact F
    · replace F := F.2 (zb0.mp k9)
      refine z_bipush (pc := 20) (v := -2) dX10_tell_20 (by decide) ?_
      exact q_retI (pc := 22) dX10_tell_22 rfl F
theorem g_X10_tell_76 {x1 : Int32} {x2 : Int32} {c3 : Nat} {c4 : Nat} {h : zHp} {Q : Int32 → zHp → Prop} (hc3 : ly c3 = 2) (hc4 : zSh c4) (G : zG h) (F : zcV M_X5_appendText [.ref c4, .ref (1010 + 12)] h (fun h1 => zG h1 ∧ (zcR M_X10_deedWord [.int (rI h1 c3 1)] h1 (fun ch2 h2 => zG h2 ∧ ∃ ih2, ih2 < 13 ∧ ch2 = 1010 + ih2 ∧ (zcV M_X5_appendText [.ref c4, .ref (1010 + ih2)] h2 (fun h3 => zG h3 ∧ ((rI h3 c3 1 = 5 → (zlI M_X10_tell 113 [some (.ref 0), some (.int x1), some (.int x2), some (.ref c3), some (.ref c4)] [] h3 Q)) ∧ (¬ (rI h3 c3 1 = 5) → (zcV M_X5_appendValue [.ref c4, .int (rI h3 c3 4)] h3 (fun h4 => zG h4 ∧ (zlI M_X10_tell 113 [some (.ref 0), some (.int x1), some (.int x2), some (.ref c3), some (.ref c4)] [] h4 Q))))))))))) : zlI M_X10_tell 76 [some (.ref 0), some (.int x1), some (.int x2), some (.ref c3), some (.ref c4)] [] h Q := by
  refine z_aload (pc := 76) dX10_tell_76 rfl ?_
  refine z_ldcwS (pc := 78) (i := 12) (tx := " ") dX10_tell_78 (List.mem_of_getElem? (i := 12) rfl) (by decide) ?_
  refine q_invV (pc := 81) (As := [.ref (1010 + 12)]) (st := []) dX10_tell_81 ok_X5_appendText ml_RX10_330 iv_X5_appendText pa_X5_appendText ⟨Nat.le_of_ble_eq_true rfl, Nat.le_of_ble_eq_true rfl⟩ (lySh0 hc4) (q_kV F (fun h1 F => ?_))
  obtain ⟨G1, F⟩ := F
  refine z_aload (pc := 84) dX10_tell_84 rfl ?_
  refine z_aload_n (pc := 86) dX10_tell_86 rfl rfl ?_
  refine q_getI (pc := 87) (v := rI h1 c3 1) dX10_tell_87 lk_RX10_340 hc3 rfl ?_
  refine q_invS (pc := 90) (As := [.int (rI h1 c3 1)]) (st := [.ref c4]) dX10_tell_90 ok_X10_deedWord ml_RX10_341 st_X10_deedWord pa_X10_deedWord ⟨Nat.le_of_ble_eq_true rfl, Nat.le_of_ble_eq_true rfl⟩ (q_kR F (fun ch2 h2 F => ?_))
  obtain ⟨G2, ih2, hih2, rfl, F⟩ := F
  refine q_invV (pc := 93) (As := [.ref (1010 + ih2)]) (st := []) dX10_tell_93 ok_X5_appendText ml_RX10_330 iv_X5_appendText pa_X5_appendText ⟨Nat.le_of_ble_eq_true rfl, Nat.le_of_ble_eq_true rfl⟩ (lySh0 hc4) (q_kV F (fun h3 F => ?_))
  obtain ⟨G3, F⟩ := F
  refine z_aload_n (pc := 96) dX10_tell_96 rfl rfl ?_
  refine q_getI (pc := 97) (v := rI h3 c3 1) dX10_tell_97 lk_RX10_340 hc3 rfl ?_
  refine z_iconst (pc := 100) (v := 5) dX10_tell_100 (by decide) ?_
  refine z_icmp_eq (pc := 101) (tgt := 113) dX10_tell_101 (by decide) (fun k5 => ?_) (fun k5 => ?_)
  · replace F := F.1 k5
    exact F
  · replace F := F.2 k5
    refine z_aload (pc := 104) dX10_tell_104 rfl ?_
    refine z_aload_n (pc := 106) dX10_tell_106 rfl rfl ?_
    refine q_getI (pc := 107) (v := rI h3 c3 4) dX10_tell_107 lk_RX10_344 hc3 rfl ?_
    refine q_invV (pc := 110) (As := [.int (rI h3 c3 4)]) (st := []) dX10_tell_110 ok_X5_appendValue ml_RX10_335 iv_X5_appendValue pa_X5_appendValue ⟨Nat.le_of_ble_eq_true rfl, Nat.le_of_ble_eq_true rfl⟩ (lySh0 hc4) (q_kV F (fun h4 F => ?_))
    obtain ⟨G4, F⟩ := F
    exact F
theorem g_X10_tell_113 {x1 : Int32} {x2 : Int32} {c3 : Nat} {c4 : Nat} {h : zHp} {Q : Int32 → zHp → Prop} (hc3 : ly c3 = 2) (hc4 : zSh c4) (G : zG h) (F : (rI h c3 1 = 3 → (zcV M_X5_appendValue [.ref c4, .int (rI h c3 5)] h (fun h1 => zG h1 ∧ (Q (rI h1 c4 1) h1)))) ∧ (¬ (rI h c3 1 = 3) → ((¬ rI h c3 1 = 4 → (Q (rI h c4 1) h)) ∧ (rI h c3 1 = 4 → (zcV M_X5_appendValue [.ref c4, .int (rI h c3 5)] h (fun h2 => zG h2 ∧ (Q (rI h2 c4 1) h2))))))) : zlI M_X10_tell 113 [some (.ref 0), some (.int x1), some (.int x2), some (.ref c3), some (.ref c4)] [] h Q := by
  refine z_aload_n (pc := 113) dX10_tell_113 rfl rfl ?_
  refine q_getI (pc := 114) (v := rI h c3 1) dX10_tell_114 lk_RX10_340 hc3 rfl ?_
  refine z_iconst (pc := 117) (v := 3) dX10_tell_117 (by decide) ?_
  refine z_icmp_eq (pc := 118) (tgt := 129) dX10_tell_118 (by decide) (fun k4 => ?_) (fun k4 => ?_)
  · replace F := F.1 k4
    refine z_aload (pc := 129) dX10_tell_129 rfl ?_
    refine z_aload_n (pc := 131) dX10_tell_131 rfl rfl ?_
    refine q_getI (pc := 132) (v := rI h c3 5) dX10_tell_132 lk_RX10_345 hc3 rfl ?_
    refine q_invV (pc := 135) (As := [.int (rI h c3 5)]) (st := []) dX10_tell_135 ok_X5_appendValue ml_RX10_335 iv_X5_appendValue pa_X5_appendValue ⟨Nat.le_of_ble_eq_true rfl, Nat.le_of_ble_eq_true rfl⟩ (lySh0 hc4) (q_kV F (fun h1 F => ?_))
    obtain ⟨G1, F⟩ := F
    refine z_aload (pc := 138) dX10_tell_138 rfl ?_
    refine q_getI (pc := 140) (v := rI h1 c4 1) dX10_tell_140 lk_RX10_348 (lySh0 hc4) rfl ?_
    exact q_retI (pc := 143) dX10_tell_143 rfl F
  · replace F := F.2 k4
    refine z_aload_n (pc := 121) dX10_tell_121 rfl rfl ?_
    refine q_getI (pc := 122) (v := rI h c3 1) dX10_tell_122 lk_RX10_340 hc3 rfl ?_
    refine z_iconst (pc := 125) (v := 4) dX10_tell_125 (by decide) ?_
    refine z_icmp_ne (pc := 126) (tgt := 138) dX10_tell_126 (by decide) (fun k3 => ?_) (fun k3 => ?_)
    · replace F := F.1 k3
      refine z_aload (pc := 138) dX10_tell_138 rfl ?_
      refine q_getI (pc := 140) (v := rI h c4 1) dX10_tell_140 lk_RX10_348 (lySh0 hc4) rfl ?_
      exact q_retI (pc := 143) dX10_tell_143 rfl F
    · replace F := F.2 k3
      refine z_aload (pc := 129) dX10_tell_129 rfl ?_
      refine z_aload_n (pc := 131) dX10_tell_131 rfl rfl ?_
      refine q_getI (pc := 132) (v := rI h c3 5) dX10_tell_132 lk_RX10_345 hc3 rfl ?_
      refine q_invV (pc := 135) (As := [.int (rI h c3 5)]) (st := []) dX10_tell_135 ok_X5_appendValue ml_RX10_335 iv_X5_appendValue pa_X5_appendValue ⟨Nat.le_of_ble_eq_true rfl, Nat.le_of_ble_eq_true rfl⟩ (lySh0 hc4) (q_kV F (fun h2 F => ?_))
      obtain ⟨G2, F⟩ := F
      refine z_aload (pc := 138) dX10_tell_138 rfl ?_
      refine q_getI (pc := 140) (v := rI h2 c4 1) dX10_tell_140 lk_RX10_348 (lySh0 hc4) rfl ?_
      exact q_retI (pc := 143) dX10_tell_143 rfl F
theorem g_X11_tell {x1 : Int32} {x2 : Int32} {h : zHp} {Q : Int32 → zHp → Prop}  (G : zG h) (F : (¬ (0 ≤ x1 ∧ x1 ≤ rI h 165 239 - 1) → (Q (-2) h)) ∧ ((0 ≤ x1 ∧ x1 ≤ rI h 165 239 - 1) → (((0 ≤ x2 ∧ x2 ≤ 3) → (vp_in ((80 + (7 * x1)) + 1) 246 ∧ (zlI M_X11_tell 28 [some (.ref 164), some (.int x1), some (.int x2), some (.int (rI h 165 ((Int32.toNatClampNeg (((80 + (7 * x1)) + 1)))))), some (.int 0)] [] h Q))) ∧ (¬ (0 ≤ x2 ∧ x2 ≤ 3) → (Q (-2) h))))) : zcI M_X11_tell [.ref 164, .int x1, .int x2] h Q := by
  show zw zNT zNT M_X11_tell 0 [some (.ref 164), some (.int x1), some (.int x2), none, none] [] h _
  refine z_aload_n (pc := 0) dX11_tell_0 rfl rfl ?_
  refine z_iload_n (pc := 1) dX11_tell_1 rfl rfl ?_
  refine q_invV (pc := 2) (As := [.int x1]) (st := []) dX11_tell_2 ok_X11_isEffect ml_RX11_183 iv_X11_isEffect pa_X11_isEffect ⟨Nat.le_of_ble_eq_true rfl, Nat.le_of_ble_eq_true rfl⟩ (lyc rfl) (q_pI (s_X11_isEffect G) rfl ?_)
  refine z_if_eq (pc := 5) (tgt := 15) dX11_tell_5 (by decide) (fun k3 => ?_) (fun k3 => ?_)
  · replace F := F.1 (zb0.mp k3)
    refine z_bipush (pc := 15) (v := -2) dX11_tell_15 (by decide) ?_
    exact q_retI (pc := 17) dX11_tell_17 rfl F
  · replace F := F.2 (zbn.mp k3)
    refine z_iload_n (pc := 8) dX11_tell_8 rfl rfl ?_
    refine q_invS (pc := 9) (As := [.int x2]) (st := []) dX11_tell_9 ok_X11_isSheet ml_RX11_297 st_X11_isSheet pa_X11_isSheet ⟨Nat.le_of_ble_eq_true rfl, Nat.le_of_ble_eq_true rfl⟩ (q_pI (s_X11_isSheet G) rfl ?_)
    refine z_if_ne (pc := 12) (tgt := 18) dX11_tell_12 (by decide) (fun k2 => ?_) (fun k2 => ?_)
    · replace F := F.1 (zbn.mp k2)
      refine z_aload_n (pc := 18) dX11_tell_18 rfl rfl ?_
      refine z_iload_n (pc := 19) dX11_tell_19 rfl rfl ?_
      refine z_iconst (pc := 20) (v := 1) dX11_tell_20 (by decide) ?_
      obtain ⟨k1, F⟩ := F
      refine q_invV (pc := 21) (As := [.int x1, .int 1]) (st := []) dX11_tell_21 ok_X11_effectIs ml_RX11_103 iv_X11_effectIs pa_X11_effectIs ⟨Nat.le_of_ble_eq_true rfl, Nat.le_of_ble_eq_true rfl⟩ (lyc rfl) (q_pI (s_X11_effectIs G k1) rfl ?_)
      refine z_istore_n (pc := 24) (ls' := [some (.ref 164), some (.int x1), some (.int x2), some (.int (rI h 165 ((Int32.toNatClampNeg (((80 + (7 * x1)) + 1)))))), none]) dX11_tell_24 rfl (by decide) rfl ?_
      refine z_iconst (pc := 25) (v := 0) dX11_tell_25 (by decide) ?_
      refine z_istore (pc := 26) (ls' := [some (.ref 164), some (.int x1), some (.int x2), some (.int (rI h 165 ((Int32.toNatClampNeg (((80 + (7 * x1)) + 1)))))), some (.int 0)]) dX11_tell_26 (by decide) rfl ?_
      exact F
    · replace F := F.2 (zb0.mp k2)
      refine z_bipush (pc := 15) (v := -2) dX11_tell_15 (by decide) ?_
      exact q_retI (pc := 17) dX11_tell_17 rfl F
theorem g_X11_tell_28 {x1 : Int32} {x2 : Int32} {x3 : Int32} {x4 : Int32} {h : zHp} {Q : Int32 → zHp → Prop}  (G : zG h) (F : (40 ≤ x4 → (vp_in ((80 + (7 * x1)) + 2) 246 ∧ (vp_in (rI h 165 ((Int32.toNatClampNeg (((80 + (7 * x1)) + 2))))) 6 ∧ (zcV M_X11_saysWord [.ref 164, .int x2, .ref (1010 + (6 * (175 - 175) + (Int32.toNatClampNeg (rI h 165 ((Int32.toNatClampNeg (((80 + (7 * x1)) + 2))))))))] (wI h 164 29 0) (fun h1 => zG h1 ∧ ((rI h1 165 ((Int32.toNatClampNeg (((80 + (7 * x1)) + 2)))) ≤ 0 → (zlI M_X11_tell 95 [some (.ref 164), some (.int x1), some (.int x2), some (.int x3), some (.int x4)] [] h1 Q)) ∧ (¬ (rI h1 165 ((Int32.toNatClampNeg (((80 + (7 * x1)) + 2)))) ≤ 0) → (vp_in ((80 + (7 * x1)) + 3) 246 ∧ (zcV M_X11_saysNumber [.ref 164, .int x2, .int (rI h1 165 ((Int32.toNatClampNeg (((80 + (7 * x1)) + 3)))))] h1 (fun h2 => zG h2 ∧ (zlI M_X11_tell 95 [some (.ref 164), some (.int x1), some (.int x2), some (.int x3), some (.int x4)] [] h2 Q))))))))))) ∧ (¬ (40 ≤ x4) → (vp_in ((40 * x2) + x4) 160 ∧ (zlI M_X11_tell 28 [some (.ref 164), some (.int x1), some (.int x2), some (.int x3), some (.int (x4 + 1))] [] (wI h 180 ((Int32.toNatClampNeg ((40 * x2) + x4))) 0) Q)))) : zlI M_X11_tell 28 [some (.ref 164), some (.int x1), some (.int x2), some (.int x3), some (.int x4)] [] h Q := by
  refine z_iload (pc := 28) dX11_tell_28 rfl ?_
  refine z_bipush (pc := 30) (v := 40) dX11_tell_30 (by decide) ?_
  refine z_icmp_ge (pc := 32) (tgt := 54) dX11_tell_32 (by decide) (fun k8 => ?_) (fun k8 => ?_)
  · replace F := F.1 k8
    refine z_aload_n (pc := 54) dX11_tell_54 rfl rfl ?_
    refine z_iconst (pc := 55) (v := 0) dX11_tell_55 (by decide) ?_
    refine q_putI (pc := 56) dX11_tell_56 lk_RX11_291 (lyc rfl) ?_
    refine z_aload_n (pc := 59) dX11_tell_59 rfl rfl ?_
    refine z_iload_n (pc := 60) dX11_tell_60 rfl rfl ?_
    refine z_aload_n (pc := 61) dX11_tell_61 rfl rfl ?_
    refine q_getR (pc := 62) (i := 175) dX11_tell_62 lk_RX11_54 (lyc rfl) (G 164 26 175 rfl) ?_
    refine z_aload_n (pc := 65) dX11_tell_65 rfl rfl ?_
    refine z_iload_n (pc := 66) dX11_tell_66 rfl rfl ?_
    refine z_iconst (pc := 67) (v := 2) dX11_tell_67 (by decide) ?_
    obtain ⟨k1, F⟩ := F
    refine q_invV (pc := 68) (As := [.int x1, .int 2]) (st := [.ref 175, .int x2, .ref 164]) dX11_tell_68 ok_X11_effectIs ml_RX11_103 iv_X11_effectIs pa_X11_effectIs ⟨Nat.le_of_ble_eq_true rfl, Nat.le_of_ble_eq_true rfl⟩ (lyc rfl) (q_pI (s_X11_effectIs G k1) (rI_c (by decide)) ?_)
    obtain ⟨k2, F⟩ := F
    refine q_aald (pc := 71) (j := (Int32.toNatClampNeg (rI h 165 ((Int32.toNatClampNeg (((80 + (7 * x1)) + 2))))))) (r := 1010 + (6 * (175 - 175) + (Int32.toNatClampNeg (rI h 165 ((Int32.toNatClampNeg (((80 + (7 * x1)) + 2)))))))) (t := 5) dX11_tell_71 (lyc rfl) (zvn (lnc rfl) k2) rfl (grD G (Or.inl rfl) (zvi k2)) ?_
    refine q_invV (pc := 72) (As := [.int x2, .ref (1010 + (6 * (175 - 175) + (Int32.toNatClampNeg (rI h 165 ((Int32.toNatClampNeg (((80 + (7 * x1)) + 2))))))))]) (st := []) dX11_tell_72 ok_X11_saysWord ml_RX11_300 iv_X11_saysWord pa_X11_saysWord ⟨Nat.le_of_ble_eq_true rfl, Nat.le_of_ble_eq_true rfl⟩ (lyc rfl) (q_kV F (fun h1 F => ?_))
    obtain ⟨G1, F⟩ := F
    refine z_aload_n (pc := 75) dX11_tell_75 rfl rfl ?_
    refine z_iload_n (pc := 76) dX11_tell_76 rfl rfl ?_
    refine z_iconst (pc := 77) (v := 2) dX11_tell_77 (by decide) ?_
    refine q_invV (pc := 78) (As := [.int x1, .int 2]) (st := []) dX11_tell_78 ok_X11_effectIs ml_RX11_103 iv_X11_effectIs pa_X11_effectIs ⟨Nat.le_of_ble_eq_true rfl, Nat.le_of_ble_eq_true rfl⟩ (lyc rfl) (q_pI (s_X11_effectIs G1 k1) rfl ?_)
    refine z_if_le (pc := 81) (tgt := 95) dX11_tell_81 (by decide) (fun k6 => ?_) (fun k6 => ?_)
    · replace F := F.1 k6
      exact F
    · replace F := F.2 k6
      refine z_aload_n (pc := 84) dX11_tell_84 rfl rfl ?_
      refine z_iload_n (pc := 85) dX11_tell_85 rfl rfl ?_
      refine z_aload_n (pc := 86) dX11_tell_86 rfl rfl ?_
      refine z_iload_n (pc := 87) dX11_tell_87 rfl rfl ?_
      refine z_iconst (pc := 88) (v := 3) dX11_tell_88 (by decide) ?_
      obtain ⟨k4, F⟩ := F
      refine q_invV (pc := 89) (As := [.int x1, .int 3]) (st := [.int x2, .ref 164]) dX11_tell_89 ok_X11_effectIs ml_RX11_103 iv_X11_effectIs pa_X11_effectIs ⟨Nat.le_of_ble_eq_true rfl, Nat.le_of_ble_eq_true rfl⟩ (lyc rfl) (q_pI (s_X11_effectIs G1 k4) rfl ?_)
      refine q_invV (pc := 92) (As := [.int x2, .int (rI h1 165 ((Int32.toNatClampNeg (((80 + (7 * x1)) + 3)))))]) (st := []) dX11_tell_92 ok_X11_saysNumber ml_RX11_304 iv_X11_saysNumber pa_X11_saysNumber ⟨Nat.le_of_ble_eq_true rfl, Nat.le_of_ble_eq_true rfl⟩ (lyc rfl) (q_kV F (fun h2 F => ?_))
      obtain ⟨G2, F⟩ := F
      exact F
  · replace F := F.2 k8
    refine z_aload_n (pc := 35) dX11_tell_35 rfl rfl ?_
    refine q_getR (pc := 36) (i := 180) dX11_tell_36 lk_RX11_81 (lyc rfl) (G 164 32 180 rfl) ?_
    refine z_bipush (pc := 39) (v := 40) dX11_tell_39 (by decide) ?_
    refine z_iload_n (pc := 41) dX11_tell_41 rfl rfl ?_
    refine z_imul (pc := 42) dX11_tell_42 ?_
    refine z_iload (pc := 43) dX11_tell_43 rfl ?_
    refine z_iadd (pc := 45) dX11_tell_45 ?_
    refine z_iconst (pc := 46) (v := 0) dX11_tell_46 (by decide) ?_
    obtain ⟨k7, F⟩ := F
    refine q_iast (pc := 47) (j := (Int32.toNatClampNeg ((40 * x2) + x4))) dX11_tell_47 (lyc rfl) (zvn (lnc rfl) k7) rfl ?_
    refine z_iinc (pc := 48) (v := x4 + 1) (ls' := [some (.ref 164), some (.int x1), some (.int x2), some (.int x3), some (.int (x4 + 1))]) dX11_tell_48 (by decide) rfl rfl rfl ?_
    refine z_goto (pc := 51) (tgt := 28) dX11_tell_51 (by decide) ?_
    exact F
theorem g_X11_tell_95 {x1 : Int32} {x2 : Int32} {x3 : Int32} {x4 : Int32} {h : zHp} {Q : Int32 → zHp → Prop}  (G : zG h) (F : vp_in x3 6 ∧ (zcV M_X11_saysWord [.ref 164, .int x2, .ref (1010 + (6 * (176 - 175) + (Int32.toNatClampNeg x3)))] h (fun h1 => zG h1 ∧ ((5 ≤ x3 → (zlI M_X11_tell 122 [some (.ref 164), some (.int x1), some (.int x2), some (.int x3), some (.int x4)] [] h1 Q)) ∧ (¬ (5 ≤ x3) → (vp_in ((80 + (7 * x1)) + 4) 246 ∧ (zcV M_X11_saysNumber [.ref 164, .int x2, .int (rI h1 165 ((Int32.toNatClampNeg (((80 + (7 * x1)) + 4)))))] h1 (fun h2 => zG h2 ∧ (zlI M_X11_tell 122 [some (.ref 164), some (.int x1), some (.int x2), some (.int x3), some (.int x4)] [] h2 Q))))))))) : zlI M_X11_tell 95 [some (.ref 164), some (.int x1), some (.int x2), some (.int x3), some (.int x4)] [] h Q := by
  refine z_aload_n (pc := 95) dX11_tell_95 rfl rfl ?_
  refine z_iload_n (pc := 96) dX11_tell_96 rfl rfl ?_
  refine z_aload_n (pc := 97) dX11_tell_97 rfl rfl ?_
  refine q_getR (pc := 98) (i := 176) dX11_tell_98 lk_RX11_69 (lyc rfl) (G 164 27 176 rfl) ?_
  refine z_iload_n (pc := 101) dX11_tell_101 rfl rfl ?_
  obtain ⟨k1, F⟩ := F
  refine q_aald (pc := 102) (j := (Int32.toNatClampNeg x3)) (r := 1010 + (6 * (176 - 175) + (Int32.toNatClampNeg x3))) (t := 5) dX11_tell_102 (lyc rfl) (zvn (lnc rfl) k1) rfl (grD G (Or.inr rfl) (zvi k1)) ?_
  refine q_invV (pc := 103) (As := [.int x2, .ref (1010 + (6 * (176 - 175) + (Int32.toNatClampNeg x3)))]) (st := []) dX11_tell_103 ok_X11_saysWord ml_RX11_300 iv_X11_saysWord pa_X11_saysWord ⟨Nat.le_of_ble_eq_true rfl, Nat.le_of_ble_eq_true rfl⟩ (lyc rfl) (q_kV F (fun h1 F => ?_))
  obtain ⟨G1, F⟩ := F
  refine z_iload_n (pc := 106) dX11_tell_106 rfl rfl ?_
  refine z_iconst (pc := 107) (v := 5) dX11_tell_107 (by decide) ?_
  refine z_icmp_ge (pc := 108) (tgt := 122) dX11_tell_108 (by decide) (fun k5 => ?_) (fun k5 => ?_)
  · replace F := F.1 k5
    exact F
  · replace F := F.2 k5
    refine z_aload_n (pc := 111) dX11_tell_111 rfl rfl ?_
    refine z_iload_n (pc := 112) dX11_tell_112 rfl rfl ?_
    refine z_aload_n (pc := 113) dX11_tell_113 rfl rfl ?_
    refine z_iload_n (pc := 114) dX11_tell_114 rfl rfl ?_
    refine z_iconst (pc := 115) (v := 4) dX11_tell_115 (by decide) ?_
    obtain ⟨k3, F⟩ := F
    refine q_invV (pc := 116) (As := [.int x1, .int 4]) (st := [.int x2, .ref 164]) dX11_tell_116 ok_X11_effectIs ml_RX11_103 iv_X11_effectIs pa_X11_effectIs ⟨Nat.le_of_ble_eq_true rfl, Nat.le_of_ble_eq_true rfl⟩ (lyc rfl) (q_pI (s_X11_effectIs G1 k3) rfl ?_)
    refine q_invV (pc := 119) (As := [.int x2, .int (rI h1 165 ((Int32.toNatClampNeg (((80 + (7 * x1)) + 4)))))]) (st := []) dX11_tell_119 ok_X11_saysNumber ml_RX11_304 iv_X11_saysNumber pa_X11_saysNumber ⟨Nat.le_of_ble_eq_true rfl, Nat.le_of_ble_eq_true rfl⟩ (lyc rfl) (q_kV F (fun h2 F => ?_))
    obtain ⟨G2, F⟩ := F
    exact F
theorem g_X11_tell_122 {x1 : Int32} {x2 : Int32} {x3 : Int32} {x4 : Int32} {h : zHp} {Q : Int32 → zHp → Prop}  (G : zG h) (F : (¬ ((3 : Int32) ≤ x3 ∧ x3 ≤ 4) → (zlI M_X11_tell 142 [some (.ref 164), some (.int x1), some (.int x2), some (.int x3), some (.int x4)] [] h Q)) ∧ (((3 : Int32) ≤ x3 ∧ x3 ≤ 4) → (vp_in ((80 + (7 * x1)) + 5) 246 ∧ (zcV M_X11_saysNumber [.ref 164, .int x2, .int (rI h 165 ((Int32.toNatClampNeg (((80 + (7 * x1)) + 5)))))] h (fun h1 => zG h1 ∧ (zlI M_X11_tell 142 [some (.ref 164), some (.int x1), some (.int x2), some (.int x3), some (.int x4)] [] h1 Q)))))) : zlI M_X11_tell 122 [some (.ref 164), some (.int x1), some (.int x2), some (.int x3), some (.int x4)] [] h Q := by
  refine z_iload_n (pc := 122) dX11_tell_122 rfl rfl ?_
  refine z_iconst (pc := 123) (v := 3) dX11_tell_123 (by decide) ?_
  refine z_iconst (pc := 124) (v := 4) dX11_tell_124 (by decide) ?_
  refine q_invS (pc := 125) (As := [.int x3, .int 3, .int 4]) (st := []) dX11_tell_125 ok_X11_in ml_RX11_84 st_X11_in pa_X11_in ⟨Nat.le_of_ble_eq_true rfl, Nat.le_of_ble_eq_true rfl⟩ (q_pI (s_X11_in G) rfl ?_)
  refine z_if_eq (pc := 128) (tgt := 142) dX11_tell_128 (by decide) (fun k3 => ?_) (fun k3 => ?_)
  · replace F := F.1 (zb0.mp k3)
    exact F
  · replace F := F.2 (zbn.mp k3)
    refine z_aload_n (pc := 131) dX11_tell_131 rfl rfl ?_
    refine z_iload_n (pc := 132) dX11_tell_132 rfl rfl ?_
    refine z_aload_n (pc := 133) dX11_tell_133 rfl rfl ?_
    refine z_iload_n (pc := 134) dX11_tell_134 rfl rfl ?_
    refine z_iconst (pc := 135) (v := 5) dX11_tell_135 (by decide) ?_
    obtain ⟨k1, F⟩ := F
    refine q_invV (pc := 136) (As := [.int x1, .int 5]) (st := [.int x2, .ref 164]) dX11_tell_136 ok_X11_effectIs ml_RX11_103 iv_X11_effectIs pa_X11_effectIs ⟨Nat.le_of_ble_eq_true rfl, Nat.le_of_ble_eq_true rfl⟩ (lyc rfl) (q_pI (s_X11_effectIs G k1) rfl ?_)
    refine q_invV (pc := 139) (As := [.int x2, .int (rI h 165 ((Int32.toNatClampNeg (((80 + (7 * x1)) + 5)))))]) (st := []) dX11_tell_139 ok_X11_saysNumber ml_RX11_304 iv_X11_saysNumber pa_X11_saysNumber ⟨Nat.le_of_ble_eq_true rfl, Nat.le_of_ble_eq_true rfl⟩ (lyc rfl) (q_kV F (fun h1 F => ?_))
    obtain ⟨G1, F⟩ := F
    exact F
theorem g_X11_tell_142 {x1 : Int32} {x2 : Int32} {x3 : Int32} {x4 : Int32} {h : zHp} {Q : Int32 → zHp → Prop}  (G : zG h) (F : vp_in x2 4 ∧ (Q (rI h 164 29) (wI (wI h 178 ((Int32.toNatClampNeg x2)) 0) 179 ((Int32.toNatClampNeg x2)) (rI h 164 29)))) : zlI M_X11_tell 142 [some (.ref 164), some (.int x1), some (.int x2), some (.int x3), some (.int x4)] [] h Q := by
  refine z_aload_n (pc := 142) dX11_tell_142 rfl rfl ?_
  refine q_getR (pc := 143) (i := 178) dX11_tell_143 lk_RX11_75 (lyc rfl) (G 164 30 178 rfl) ?_
  refine z_iload_n (pc := 146) dX11_tell_146 rfl rfl ?_
  refine z_iconst (pc := 147) (v := 0) dX11_tell_147 (by decide) ?_
  obtain ⟨k1, F⟩ := F
  refine q_iast (pc := 148) (j := (Int32.toNatClampNeg x2)) dX11_tell_148 (lyc rfl) (zvn (lnc rfl) k1) rfl ?_
  refine z_aload_n (pc := 149) dX11_tell_149 rfl rfl ?_
  refine q_getR (pc := 150) (i := 179) dX11_tell_150 lk_RX11_78 (lyc rfl) (G 164 31 179 rfl) ?_
  refine z_iload_n (pc := 153) dX11_tell_153 rfl rfl ?_
  refine z_aload_n (pc := 154) dX11_tell_154 rfl rfl ?_
  refine q_getI (pc := 155) (v := rI h 164 29) dX11_tell_155 lk_RX11_291 (lyc rfl) (rI_c (by decide)) ?_
  refine q_iast (pc := 158) (j := (Int32.toNatClampNeg x2)) dX11_tell_158 (lyc rfl) (zvn (lnc rfl) k1) rfl ?_
  refine z_aload_n (pc := 159) dX11_tell_159 rfl rfl ?_
  refine q_getI (pc := 160) (v := rI h 164 29) dX11_tell_160 lk_RX11_291 (lyc rfl) ((rI_c (by decide)).trans (rI_c (by decide))) ?_
  exact q_retI (pc := 163) dX11_tell_163 rfl F
theorem numL_nn {l : List Int32} {v : Int32} : (l ++ numL v).length ≤ l.length + 3 := by
  rw [List.length_append]
  have := numL_len (v := v)
  omega
/-- what is told of an effect, step by step -/
def tl1 (w : Nat) : List Int32 := [] ++ zSbyt.getD w []
def tl2 (w : Nat) (x : Int32) : List Int32 := if w = 0 then tl1 w else tl1 w ++ numL x
def tl4 (w : Nat) (x : Int32) (d : Nat) : List Int32 := (tl2 w x ++ [32]) ++ zSbyt.getD (6 + d) []
def tl5 (w : Nat) (x : Int32) (d : Nat) (v : Int32) : List Int32 := if d = 5 then tl4 w x d else tl4 w x d ++ numL v
def tl6 (w : Nat) (x : Int32) (d : Nat) (v u : Int32) : List Int32 := if d = 3 ∨ d = 4 then tl5 w x d v ++ numL u else tl5 w x d v
theorem tl_len {w d : Nat} {x v u : Int32} (hw : w ≤ 5) (hd : d ≤ 5) : 0 < (tl2 w x).length ∧ (tl1 w).length ≤ 7 ∧ (tl2 w x).length ≤ 10 ∧ (tl4 w x d).length ≤ 18 ∧ (tl5 w x d v).length ≤ 21 ∧ (tl6 w x d v u).length ≤ 24 := by
  have a : ∀ i, i < 13 → 0 < (zSbyt.getD i []).length ∧ (zSbyt.getD i []).length ≤ 7 := by decide
  have a1 := a w (by omega)
  have a2 := a (6 + d) (by omega)
  have e1 : (tl1 w).length = (zSbyt.getD w []).length := rfl
  have n2 := numL_nn (l := tl1 w) (v := x)
  have e2 : 0 < (tl2 w x).length ∧ (tl2 w x).length ≤ 10 := by
    unfold tl2
    split
    · omega
    · have : (tl1 w ++ numL x).length = (tl1 w).length + (numL x).length := List.length_append
      omega
  have e4 : (tl4 w x d).length ≤ 18 := by
    unfold tl4
    rw [List.length_append, List.length_append]
    show (tl2 w x).length + 1 + _ ≤ 18
    omega
  have n5 := numL_nn (l := tl4 w x d) (v := v)
  have e5 : (tl5 w x d v).length ≤ 21 := by
    unfold tl5
    split <;> omega
  have n6 := numL_nn (l := tl5 w x d v) (v := u)
  refine ⟨e2.1, by omega, e2.2, e4, e5, ?_⟩
  unfold tl6
  split <;> omega
theorem wl_s : ∀ i, i < 13 → wl i ≤ 7 := fun i hi => (wl_all i hi).2.1
theorem c_tell {c g w d : Nat} {x v u : Int32} {x1 x2 : Int32} {h : zHp} (G : zG h) (hc : zSh c) (hg : ly g = 2) (hgc : g ≠ c ∧ g ≠ c + 1) (e1 : rI h g 1 = nI d) (e4 : rI h g 4 = v) (e5 : rI h g 5 = u) (hd : d ≤ 5) (hw : w ≤ 5) (bv : iv (-9) 9 v) (bu : iv (-9) 9 u) (r : RpC h c (tl2 w x)) : zlI M_X10_tell 76 [some (.ref 0), some (.int x1), some (.int x2), some (.ref g), some (.ref c)] [] h (fun a h' => a = nI (tl6 w x d v u).length ∧ fQ c h h' ∧ RpC h' c (tl6 w x d v u)) := by
  obtain ⟨l0, l1, l2, l4, l5, l6⟩ := tl_len (x := x) (v := v) (u := u) hw hd
  have rd : ∀ h1, fQ c h h1 → ∀ k, rI h1 g k = rI h g k := fun h1 f k => by show h1.1 g k = h.1 g k; rw [f.2 g hgc.1 hgc.2]
  have fin : ∀ h1, fQ c h h1 → RpC h1 c (tl5 w x d v) → zlI M_X10_tell 113 [some (.ref 0), some (.int x1), some (.int x2), some (.ref g), some (.ref c)] [] h1 (fun a h' => a = nI (tl6 w x d v u).length ∧ fQ c h h' ∧ RpC h' c (tl6 w x d v u)) := by
    intro h1 f r1
    refine g_X10_tell_113 hg hc (zG_of f.1 G) ?_
    rw [rd h1 f 1, rd h1 f 5, e1, e5, r1.2.1]
    unfold tl6
    have app : (d = 3 ∨ d = 4) → zcV M_X5_appendValue [.ref c, .int u] h1 (fun h2 => zG h2 ∧ rI h2 c 1 = nI (if d = 3 ∨ d = 4 then tl5 w x d v ++ numL u else tl5 w x d v).length ∧ fQ c h h2 ∧ RpC h2 c (if d = 3 ∨ d = 4 then tl5 w x d v ++ numL u else tl5 w x d v)) := by
      intro z
      rw [if_pos z]
      exact zcV_then (s_X5_appendValue (zG_of f.1 G) hc r1 (by omega) bu) (fun h2 hh => ⟨zG_of (hh.1.1.trans f.1) G, hh.2.2.1, f.tr hh.1, hh.2⟩)
    refine ⟨fun z => app (Or.inl ((nI_eq (b := 3) (by omega) (by omega)).mp z)), fun z => ⟨fun y => ?_, fun y => app (Or.inr ((nI_eq (b := 4) (by omega) (by omega)).mp y))⟩⟩
    have n : ¬ (d = 3 ∨ d = 4) := fun q => by
      rcases q with q | q
      · exact z (by rw [q]; rfl)
      · exact y (by rw [q]; rfl)
    rw [if_neg n]
    exact ⟨rfl, f, r1⟩
  refine g_X10_tell_76 hg hc G (zcV_then (s_X5_appendText (i := 12) G hc (by decide) r (by have := wl_s 12 (by decide); omega)) (fun h1 hh => ⟨zG_of hh.1.1 G, ?_⟩))
  obtain ⟨f1, r1⟩ := hh
  have G1 := zG_of f1.1 G
  rw [rd h1 f1, e1]
  refine zcR_use (s_deedWord G1 hd) ⟨G1, 6 + d, by omega, rfl, ?_⟩
  refine zcV_then (s_X5_appendText (i := 6 + d) G1 hc (by omega) r1 (by have := wl_s (6 + d) (by omega); rw [List.length_append]; show (tl2 w x).length + 1 + _ ≤ 40; omega)) (fun h2 hh => ⟨zG_of hh.1.1 G1, ?_⟩)
  obtain ⟨f2, r2⟩ := hh
  change RpC h2 c (tl4 w x d) at r2
  have f12 := f1.tr f2
  rw [rd h2 f12 1, rd h2 f12 4, e1, e4]
  refine ⟨fun z => fin h2 f12 ?_, fun z => zcV_then (s_X5_appendValue (zG_of f12.1 G) hc r2 (by omega) bv) (fun h3 hh => ⟨zG_of (hh.1.1.trans f12.1) G, fin h3 (f12.tr hh.1) ?_⟩)⟩
  · unfold tl5
    rw [if_pos ((nI_eq (b := 5) (by omega) (by omega)).mp z)]
    exact r2
  · unfold tl5
    rw [if_neg (fun y => z (by rw [y]; rfl))]
    exact hh.2
theorem iv_n {a : Nat} {x : Int32} (h : iv 0 a x) : ∃ k, k ≤ a ∧ x = nI k := by
  obtain ⟨h1, h2⟩ := h
  obtain ⟨k, hk, rfl⟩ := nI_of (x := x) (fun z => by have := (lt_0x x).mp z; omega)
  rw [nI_toInt hk] at h2
  exact ⟨k, by omega, rfl⟩
theorem m_tell {s e w d : Nat} {N : zN} {x4 : Int32} {h : zHp} (G : zG h) (hN : h.1 165 = N) (hs : s < 4) (he : e < 10) (e1 : N (80 + 7 * e + 1) = nI d) (hd : d ≤ 5) (hw : w ≤ 5) (r : RpM h s (tl2 w (N (80 + 7 * e + 3)))) : zlI M_X11_tell 95 [some (.ref 164), some (.int (nI e)), some (.int (nI s)), some (.int (nI d)), some (.int x4)] [] h (fun a h' => a = nI (tl6 w (N (80 + 7 * e + 3)) d (N (80 + 7 * e + 4)) (N (80 + 7 * e + 5))).length ∧ fSh s h h' ∧ (∀ k, k < 40 → rI h' 180 (40 * s + k) = (tl6 w (N (80 + 7 * e + 3)) d (N (80 + 7 * e + 4)) (N (80 + 7 * e + 5))).getD k 0) ∧ rI h' 178 s = 0 ∧ rI h' 179 s = nI (tl6 w (N (80 + 7 * e + 3)) d (N (80 + 7 * e + 4)) (N (80 + 7 * e + 5))).length) := by
  obtain ⟨l0, l1, l2, l4, l5, l6⟩ := tl_len (x := N (80 + 7 * e + 3)) (v := N (80 + 7 * e + 4)) (u := N (80 + 7 * e + 5)) hw hd
  obtain ⟨-, -, -, -, i4, i5, -⟩ := ixE' (e := e) he
  have rd : ∀ h1, fSh s h h1 → ∀ k, rI h1 165 k = N k := fun h1 f k => by show h1.1 165 k = N k; rw [f.2.1 165 (by omega), hN]
  have last : ∀ h1, fSh s h h1 → RpM h1 s (tl6 w (N (80 + 7 * e + 3)) d (N (80 + 7 * e + 4)) (N (80 + 7 * e + 5))) → zlI M_X11_tell 142 [some (.ref 164), some (.int (nI e)), some (.int (nI s)), some (.int (nI d)), some (.int x4)] [] h1 (fun a h' => a = nI (tl6 w (N (80 + 7 * e + 3)) d (N (80 + 7 * e + 4)) (N (80 + 7 * e + 5))).length ∧ fSh s h h' ∧ (∀ k, k < 40 → rI h' 180 (40 * s + k) = (tl6 w (N (80 + 7 * e + 3)) d (N (80 + 7 * e + 4)) (N (80 + 7 * e + 5))).getD k 0) ∧ rI h' 178 s = 0 ∧ rI h' 179 s = nI (tl6 w (N (80 + 7 * e + 3)) d (N (80 + 7 * e + 4)) (N (80 + 7 * e + 5))).length) := by
    intro h1 f rr
    refine g_X11_tell_142 (zG_of f.1 G) ⟨vp_in_nI (by omega) (by omega), ?_⟩
    rw [nI_clamp (by omega), rr.1]
    refine ⟨rfl, f.tr ⟨rfl, fun a ha => by rw [wI_ne (by omega), wI_ne (by omega)], fun k hk => by rw [wI_ne (by decide), wI_ne (by decide)], fun q hq => ⟨by rw [rI_c (by decide), rI_k hq], by rw [rI_k hq, rI_c (by decide)]⟩, fun i hi => by rw [rI_c (by decide), rI_c (by decide)]⟩, fun k hk => by rw [rI_c (by decide), rI_c (by decide)]; exact rr.2 k hk, by rw [rI_c (by decide), rI_s], rI_s⟩
  have fin : ∀ h1, fSh s h h1 → RpM h1 s (tl5 w (N (80 + 7 * e + 3)) d (N (80 + 7 * e + 4))) → zlI M_X11_tell 122 [some (.ref 164), some (.int (nI e)), some (.int (nI s)), some (.int (nI d)), some (.int x4)] [] h1 (fun a h' => a = nI (tl6 w (N (80 + 7 * e + 3)) d (N (80 + 7 * e + 4)) (N (80 + 7 * e + 5))).length ∧ fSh s h h' ∧ (∀ k, k < 40 → rI h' 180 (40 * s + k) = (tl6 w (N (80 + 7 * e + 3)) d (N (80 + 7 * e + 4)) (N (80 + 7 * e + 5))).getD k 0) ∧ rI h' 178 s = 0 ∧ rI h' 179 s = nI (tl6 w (N (80 + 7 * e + 3)) d (N (80 + 7 * e + 4)) (N (80 + 7 * e + 5))).length) := by
    intro h1 f rr
    refine g_X11_tell_122 (zG_of f.1 G) ?_
    rw [i5.2, rd h1 f]
    refine ⟨fun z => last h1 f ?_, fun z => ⟨i5.1, zcV_then (s_X11_saysNumber (zG_of f.1 G) hs rr (by omega)) (fun h2 hh => ⟨zG_of (hh.1.1.trans f.1) G, last h2 (f.tr hh.1) ?_⟩)⟩⟩
    · unfold tl6
      rw [if_neg (fun q => z (by
        rcases q with q | q
        · rw [q]; decide
        · rw [q]; decide))]
      exact rr
    · unfold tl6
      have a := (nI_leI (a := 3) (by omega) (by omega)).mp z.1
      have b := (nI_leI (b := 4) (by omega) (by omega)).mp z.2
      rw [if_pos (by omega)]
      exact hh.2
  refine g_X11_tell_95 G ⟨vp_in_nI (by omega) (by omega), ?_⟩
  rw [nI_clamp (by omega), show 6 * (176 - 175) + d = 6 + d by omega]
  refine zcV_then (s_saysWord1 G hs (by omega) r l0 (by have := wl_s (6 + d) (by omega); omega)) (fun h1 hh => ⟨zG_of hh.1.1 G, ?_⟩)
  obtain ⟨f1, r1⟩ := hh
  change RpM h1 s (tl4 w (N (80 + 7 * e + 3)) d) at r1
  rw [i4.2, rd h1 f1]
  refine ⟨fun z => fin h1 f1 ?_, fun z => ⟨i4.1, zcV_then (s_X11_saysNumber (zG_of f1.1 G) hs r1 (by omega)) (fun h2 hh => ⟨zG_of (hh.1.1.trans f1.1) G, fin h2 (f1.tr hh.1) ?_⟩)⟩⟩
  · unfold tl5
    have a := (nI_leI (a := 5) (by omega) (by omega)).mp z
    rw [if_pos (by omega)]
    exact r1
  · unfold tl5
    rw [if_neg (fun y => z (by rw [y]; decide))]
    exact hh.2
theorem sim_tell {e s : Int32} : Sim M_X10_tell M_X11_tell [.int e, .int s] := by
  intro h I
  have I0 := I
  obtain ⟨G, iq, ic, io⟩ := I
  obtain ⟨hC, hQ, hSt⟩ := iq
  obtain ⟨hP, hR, hL, ht⟩ := ic
  have h10 := hC.2.1.2
  have refuse : (¬ (0 ≤ e ∧ e ≤ rI h 165 239 - 1) ∨ ¬ ((0 : Int32) ≤ s ∧ s ≤ 3)) → zG h ∧ zcI M_X11_tell [.ref 164, .int e, .int s] h (fun v' h2 => zG h2 ∧ -2 = v' ∧ INV h2) := by
    intro b
    refine ⟨G, g_X11_tell G ⟨fun z => ⟨G, rfl, I0⟩, fun z => ⟨fun y => ?_, fun y => ⟨G, rfl, I0⟩⟩⟩⟩
    rcases b with b | b
    · exact absurd z b
    · exact absurd y b
  refine g_X10_tell G ?_
  rw [hR.1.2.1]
  refine ⟨fun z => refuse (Or.inl z), fun z1 => ⟨fun z2 => ?_, fun z => refuse (Or.inr z)⟩⟩
  have z10 := z1
  rw [hC.2.1.1] at z1
  obtain ⟨i, hi, rfl⟩ := zsm (by omega) z1
  obtain ⟨j, hj, rfl⟩ := nI_of2 (x := s) (M := 3) (n := 3) rfl (Int32.not_lt.mpr z2.1) z2.2
  have qe := hQ.2.1 i hi
  obtain ⟨d, hd, ed⟩ := iv_n (a := 5) qe.1
  obtain ⟨w, hw, ew⟩ := iv_n (a := 5) qe.2.1
  have lc := hP.e (Or.inl rfl) (show i < 10 by omega)
  have pn := hP.1.1 i (by omega)
  change rR h 4 i = some (rG h 4 i) ∧ 2 + 14 ≤ rG h 4 i ∧ rG h 4 i < 2 + 14 + 10 at pn
  have sh : zSh (156 + 2 * j) := shS (by omega)
  have wv' : ∀ k, k < 7 → rI h (rG h 4 i) k = h.1 165 (80 + 7 * i + k) := fun k hk => hR.2.2.1 i k hi hk
  rw [nI_clamp (by omega), nI_clamp (by omega)]
  refine ⟨vp_in_nI (by omega) (by omega), lc, vp_in_nI (by omega) (by omega), zcV_then (s_X5_become G sh) (fun h1 hh => ⟨zG_of hh.1 G, ?_⟩)⟩
  obtain ⟨b1, b2, b3, b4, b5⟩ := hh
  have f1 : fQ (156 + 2 * j) h h1 := ⟨b1, b2⟩
  have rd : ∀ h1, fQ (156 + 2 * j) h h1 → ∀ k, k < 7 → rI h1 (rG h 4 i) k = h.1 165 (80 + 7 * i + k) := fun h1 f k hk => by
    rw [← wv' k hk]
    show h1.1 _ k = h.1 _ k
    rw [f.2 _ (by omega) (by omega)]
  have r1 : RpC h1 (156 + 2 * j) [] := ⟨b3, b4, by decide, fun k hk => by rw [b5 k hk]; rfl⟩
  have G1 := zG_of f1.1 G
  obtain ⟨l0, l1, l2, l4, l5, l6⟩ := tl_len (x := h.1 165 (80 + 7 * i + 3)) (v := h.1 165 (80 + 7 * i + 4)) (u := h.1 165 (80 + 7 * i + 5)) hw hd
  rw [rd h1 f1 2 (by omega), ew]
  refine zcR_use (s_scopeWord G1 hw) ⟨G1, w, by omega, rfl, ?_⟩
  refine zcV_then (s_X5_appendText (i := w) G1 sh (by omega) r1 (by have := wl_s w (by omega); show 0 + wl w ≤ 40; omega)) (fun h2 hh => ⟨zG_of hh.1.1 G1, ?_⟩)
  obtain ⟨f2, r2⟩ := hh
  change RpC h2 _ (tl1 w) at r2
  have f12 := f1.tr f2
  rw [rd h2 f12 2 (by omega), rd h2 f12 3 (by omega), ew]
  -- behind the scope
  have rest : ∀ h3, fQ (156 + 2 * j) h h3 → RpC h3 (156 + 2 * j) (tl2 w (h.1 165 (80 + 7 * i + 3))) → zlI M_X10_tell 76 [some (.ref 0), some (.int (nI i)), some (.int (nI j)), some (.ref (rG h 4 i)), some (.ref (156 + 2 * j))] [] h3 (fun v h1 => zG h1 ∧ zcI M_X11_tell [.ref 164, .int (nI i), .int (nI j)] h1 (fun v' h2 => zG h2 ∧ v = v' ∧ INV h2)) := by
    intro h3 f3 r3
    have G3 := zG_of f3.1 G
    refine zw.mono (c_tell (x1 := nI i) (x2 := nI j) G3 sh lc.2 ⟨by omega, by omega⟩ ((rd h3 f3 1 (by omega)).trans ed) (rd h3 f3 4 (by omega)) (rd h3 f3 5 (by omega)) hd hw qe.2.2.2.1 qe.2.2.2.2.1 r3) (fun rr h4 hr => ?_)
    obtain ⟨v, rfl, ev, f4, r4⟩ := hr
    have f34 := f3.tr f4
    have G4 := zG_of f34.1 G
    refine ⟨v, rfl, G4, ?_⟩
    have e165 : h4.1 165 = h.1 165 := f34.2 165 (by omega) (by omega)
    obtain ⟨-, i1, i2, i3, -⟩ := ixE' (e := i) (by omega)
    refine g_X11_tell G4 ?_
    rw [rdN e165 239]
    refine ⟨fun z => absurd z10 z, fun _ => ⟨fun _ => ⟨i1.1, ?_⟩, fun z => absurd z2 z⟩⟩
    rw [i1.2, rdN e165, ed]
    have loop : ∀ (m q : Nat) (h5 : zHp), q + m = 40 → fSh j h4 h5 → (∀ k, k < q → rI h5 180 (40 * j + k) = 0) → zlI M_X11_tell 28 [some (.ref 164), some (.int (nI i)), some (.int (nI j)), some (.int (nI d)), some (.int (nI q))] [] h5 (fun v' h2 => zG h2 ∧ v = v' ∧ INV h2) := by
      intro m
      induction m with
      | zero =>
        intro q h5 hq f5 c5
        have : q = 40 := by omega
        subst this
        have e5 : h5.1 165 = h.1 165 := by rw [f5.2.1 165 (by omega), e165]
        have G5 := zG_of f5.1 G4
        refine g_X11_tell_28 G5 ⟨fun _ => ⟨i2.1, ?_⟩, fun z => absurd (by decide) z⟩
        rw [i2.2, rdN e5, ew, nI_clamp (by omega), show 6 * (175 - 175) + w = w by omega]
        refine ⟨vp_in_nI (by omega) (by omega), ?_⟩
        have f6 : fSh j h4 (wI h5 164 29 0) := f5.tr ⟨rfl, fun a ha => wI_ne (by omega), fun k hk => by show rI _ 164 k = rI h5 164 k; rw [rI_k hk], fun _ _ => ⟨rI_c (by decide), rI_c (by decide)⟩, fun _ _ => rI_c (by decide)⟩
        have r6 : RpM (wI h5 164 29 0) j [] := ⟨rI_s, fun k hk => by rw [rI_c (by decide), c5 k hk]; rfl⟩
        refine zcV_then (s_saysWord0 (zG_of f6.1 G4) (by omega) (by omega) r6) (fun h7 hh => ⟨zG_of (hh.1.1.trans f6.1) G4, ?_⟩)
        obtain ⟨f7, r7⟩ := hh
        change RpM h7 j (tl1 w) at r7
        have f47 := f6.tr f7
        have e7 : h7.1 165 = h.1 165 := by rw [f47.2.1 165 (by omega), e165]
        have fin : ∀ h8, fSh j h4 h8 → RpM h8 j (tl2 w (h.1 165 (80 + 7 * i + 3))) → zlI M_X11_tell 95 [some (.ref 164), some (.int (nI i)), some (.int (nI j)), some (.int (nI d)), some (.int (nI 40))] [] h8 (fun v' h2 => zG h2 ∧ v = v' ∧ INV h2) := by
          intro h8 f8 r8
          have e8 : h8.1 165 = h.1 165 := by rw [f8.2.1 165 (by omega), e165]
          refine zw.mono (m_tell (x4 := nI 40) (zG_of f8.1 G4) e8 (by omega) (show i < 10 by omega) ed hd hw r8) (fun rr h9 hr => ?_)
          obtain ⟨v', rfl, ev', f9, d1, d2, d3⟩ := hr
          have f49 := f8.tr f9
          refine ⟨v', rfl, zG_of f49.1 G4, by rw [ev, ev'], INV_sh I0 (by omega) f34.1 (fun a z1 z2 => f34.2 a z1 z2) f49 (by rw [r4.1, d2]) (by rw [d2]; exact Or.inr (Or.inl rfl)) ⟨_, r4.2.2.1, r4.2.1, d3⟩ (fun k hk => by rw [r4.2.2.2 k hk, d1 k hk])⟩
        rw [i3.2, rdN e7, rdN e7, ew]
        refine ⟨fun z => fin h7 f47 ?_, fun z => ⟨i3.1, zcV_then (s_X11_saysNumber (zG_of f47.1 G4) (by omega) r7 (by omega)) (fun h8 hh => ⟨zG_of (hh.1.1.trans f47.1) G4, fin h8 (f47.tr hh.1) ?_⟩)⟩⟩
        · unfold tl2
          have : w = 0 := Classical.byContradiction (fun y => nI_nle (n := w) (by omega) (by omega) z)
          rw [if_pos this]
          exact r7
        · unfold tl2
          rw [if_neg (fun y => z (by rw [y]; decide))]
          exact hh.2
      | succ m ih =>
        intro q h5 hq f5 c5
        have ix := ixS (s := j) (i := q) (by omega) (by omega)
        refine g_X11_tell_28 (zG_of f5.1 G4) ⟨fun z => absurd z (nI_ge (b := 40) (by omega) (by omega)), fun _ => ⟨ix.1, ?_⟩⟩
        rw [ix.2, nI_1]
        refine ih (q + 1) _ (by omega) (f5.tr ⟨rfl, fun a ha => wI_ne (by omega), fun k _ => by rw [wI_ne (by decide)], fun _ _ => ⟨rI_c (by decide), rI_c (by decide)⟩, fun x hx => rI_k (by omega)⟩) (fun k hk => ?_)
        by_cases z : k = q
        · rw [z, rI_s]
        · rw [rI_k (by omega)]; exact c5 k (by omega)
    exact loop 40 0 h4 (by omega) fSh.rf (fun k hk => by omega)
  refine ⟨fun z => rest h2 f12 ?_, fun z => ?_⟩
  · unfold tl2
    rw [if_pos ((nI_eq (b := 0) (by omega) (by omega)).mp z)]
    exact r2
  · have w0 : ¬ w = 0 := fun y => z (by rw [y]; rfl)
    have bx : iv (-9) 9 (h.1 165 (80 + 7 * i + 3)) := (qe.2.2.1 (by rw [ew]; exact z)).mono (by decide) (by decide)
    refine zcV_then (s_X5_appendValue (zG_of f12.1 G) sh r2 (by omega) bx) (fun h3 hh => ⟨zG_of (hh.1.1.trans f12.1) G, rest h3 (f12.tr hh.1) ?_⟩)
    unfold tl2
    rw [if_neg w0]
    exact hh.2

