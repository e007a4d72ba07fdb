/-! texts: the reference's tokens -/
theorem g_X11_isAt {x1 : Int32} {x2 : Int32} {h : zHp} {Q : Int32 → zHp → Prop}  (G : zG h) (F : (rI h 164 21 ≤ rI h 164 23 → (Q 0 h)) ∧ (¬ (rI h 164 21 ≤ rI h 164 23) → (vp_in (rI h 164 23) 120 ∧ ((¬ (x1 ≤ rI h 174 ((Int32.toNatClampNeg (rI h 164 23))) ∧ rI h 174 ((Int32.toNatClampNeg (rI h 164 23))) ≤ x2) → (Q 0 h)) ∧ ((x1 ≤ rI h 174 ((Int32.toNatClampNeg (rI h 164 23))) ∧ rI h 174 ((Int32.toNatClampNeg (rI h 164 23))) ≤ x2) → (Q 1 h)))))) : zcI M_X11_isAt [.ref 164, .int x1, .int x2] h Q := by
  show zw zNT zNT M_X11_isAt 0 [some (.ref 164), some (.int x1), some (.int x2)] [] h _
  refine z_aload_n (pc := 0) dX11_isAt_0 rfl rfl ?_
  refine q_getI (pc := 1) (v := rI h 164 23) dX11_isAt_1 lk_RX11_245 (lyc rfl) rfl ?_
  refine z_aload_n (pc := 4) dX11_isAt_4 rfl rfl ?_
  refine q_getI (pc := 5) (v := rI h 164 21) dX11_isAt_5 lk_RX11_242 (lyc rfl) rfl ?_
  refine z_icmp_ge (pc := 8) (tgt := 32) dX11_isAt_8 (by decide) (fun k3 => ?_) (fun k3 => ?_)
  · replace F := F.1 k3
    refine z_iconst (pc := 32) (v := 0) dX11_isAt_32 (by decide) ?_
    exact q_retB (pc := 33) dX11_isAt_33 rfl (Or.inl rfl) F
  · replace F := F.2 k3
    refine z_aload_n (pc := 11) dX11_isAt_11 rfl rfl ?_
    refine q_getR (pc := 12) (i := 174) dX11_isAt_12 lk_RX11_37 (lyc rfl) (G 164 20 174 rfl) ?_
    refine z_aload_n (pc := 15) dX11_isAt_15 rfl rfl ?_
    refine q_getI (pc := 16) (v := rI h 164 23) dX11_isAt_16 lk_RX11_245 (lyc rfl) rfl ?_
    obtain ⟨k1, F⟩ := F
    refine q_iald (pc := 19) (j := (Int32.toNatClampNeg (rI h 164 23))) (v := rI h 174 ((Int32.toNatClampNeg (rI h 164 23)))) dX11_isAt_19 (lyc rfl) (zvn (lnc rfl) k1) rfl rfl ?_
    refine z_iload_n (pc := 20) dX11_isAt_20 rfl rfl ?_
    refine z_iload_n (pc := 21) dX11_isAt_21 rfl rfl ?_
    refine q_invS (pc := 22) (As := [.int (rI h 174 ((Int32.toNatClampNeg (rI h 164 23)))), .int x1, .int x2]) (st := []) dX11_isAt_22 ok_X11_in ml_RX11_84 st_X11_in pa_X11_in ⟨Nat.le_of_ble_eq_true rfl, Nat.le_of_ble_eq_true rfl⟩ (q_pI (s_X11_in G) rfl ?_)
    refine z_if_eq (pc := 25) (tgt := 32) dX11_isAt_25 (by decide) (fun k2 => ?_) (fun k2 => ?_)
    · replace F := F.1 (zb0.mp k2)
      refine z_iconst (pc := 32) (v := 0) dX11_isAt_32 (by decide) ?_
      exact q_retB (pc := 33) dX11_isAt_33 rfl (Or.inl rfl) F
    · replace F := F.2 (zbn.mp k2)
      refine z_iconst (pc := 28) (v := 1) dX11_isAt_28 (by decide) ?_
      refine z_goto (pc := 29) (tgt := 33) dX11_isAt_29 (by decide) ?_
      exact q_retB (pc := 33) dX11_isAt_33 rfl (Or.inr rfl) F
theorem g_X11_goesOn  {h : zHp} {Q : zHp → Prop}  (G : zG h) (F : zcI M_X11_isAt [.ref 164, .int 32, .int 32] h (fun vh1 h1 => zG h1 ∧ ((vh1 = 0 → ((¬ rI h1 164 23 = rI h1 164 21 → (zcI M_X11_isAt [.ref 164, .int 97, .int 122] (wI (wI h1 164 22 (rI h1 164 23)) 164 25 0) (fun vh2 h2 => zG h2 ∧ ((vh2 = 0 → (zcI M_X11_isAt [.ref 164, .int 48, .int 57] h2 (fun vh3 h3 => zG h3 ∧ ((vh3 = 0 → (zcI M_X11_isAt [.ref 164, .int 59, .int 59] h3 (fun vh4 h4 => zG h4 ∧ ((¬ vh4 = 0 → (zlV M_X11_goesOn 199 [some (.ref 164)] [.ref 164] h4 Q)) ∧ (vh4 = 0 → (zcI M_X11_isAt [.ref 164, .int 45, .int 45] h4 (fun vh5 h5 => zG h5 ∧ ((vh5 = 0 → (Q (wI (wI h5 164 24 3) 164 23 ((rI h5 164 23) + 1)))) ∧ (¬ (vh5 = 0) → (zlV M_X11_goesOn 199 [some (.ref 164)] [.ref 164] h5 Q)))))))))) ∧ (¬ (vh3 = 0) → (zlV M_X11_goesOn 112 [some (.ref 164)] [] (wI h3 164 24 2) Q)))))) ∧ (¬ (vh2 = 0) → (zlV M_X11_goesOn 72 [some (.ref 164)] [] (wI h2 164 24 1) Q)))))) ∧ (rI h1 164 23 = rI h1 164 21 → (Q (wI (wI (wI h1 164 22 (rI h1 164 23)) 164 25 0) 164 24 0))))) ∧ (¬ (vh1 = 0) → (zlV M_X11_goesOn 0 [some (.ref 164)] [] (wI h1 164 23 ((rI h1 164 23) + 1)) Q))))) : zcV M_X11_goesOn [.ref 164] h Q := by
  show zw zNT zNT M_X11_goesOn 0 [some (.ref 164)] [] h _
  refine z_aload_n (pc := 0) dX11_goesOn_0 rfl rfl ?_
  refine z_bipush (pc := 1) (v := 32) dX11_goesOn_1 (by decide) ?_
  refine z_bipush (pc := 3) (v := 32) dX11_goesOn_3 (by decide) ?_
  refine q_invV (pc := 5) (As := [.int 32, .int 32]) (st := []) dX11_goesOn_5 ok_X11_isAt ml_RX11_248 iv_X11_isAt pa_X11_isAt ⟨Nat.le_of_ble_eq_true rfl, Nat.le_of_ble_eq_true rfl⟩ (lyc rfl) (q_kI F (fun vh1 h1 F => ?_))
  obtain ⟨G1, F⟩ := F
  refine z_if_eq (pc := 8) (tgt := 24) dX11_goesOn_8 (by decide) (fun k11 => ?_) (fun k11 => ?_)
  · replace F := F.1 k11
    refine z_aload_n (pc := 24) dX11_goesOn_24 rfl rfl ?_
    refine z_aload_n (pc := 25) dX11_goesOn_25 rfl rfl ?_
    refine q_getI (pc := 26) (v := rI h1 164 23) dX11_goesOn_26 lk_RX11_245 (lyc rfl) rfl ?_
    refine q_putI (pc := 29) dX11_goesOn_29 lk_RX11_251 (lyc rfl) ?_
    refine z_aload_n (pc := 32) dX11_goesOn_32 rfl rfl ?_
    refine z_iconst (pc := 33) (v := 0) dX11_goesOn_33 (by decide) ?_
    refine q_putI (pc := 34) dX11_goesOn_34 lk_RX11_254 (lyc rfl) ?_
    refine z_aload_n (pc := 37) dX11_goesOn_37 rfl rfl ?_
    refine q_getI (pc := 38) (v := rI h1 164 23) dX11_goesOn_38 lk_RX11_245 (lyc rfl) ((rI_k (by decide)).trans (rI_k (by decide))) ?_
    refine z_aload_n (pc := 41) dX11_goesOn_41 rfl rfl ?_
    refine q_getI (pc := 42) (v := rI h1 164 21) dX11_goesOn_42 lk_RX11_242 (lyc rfl) ((rI_k (by decide)).trans (rI_k (by decide))) ?_
    refine z_icmp_ne (pc := 45) (tgt := 56) dX11_goesOn_45 (by decide) (fun k10 => ?_) (fun k10 => ?_)
    · replace F := F.1 k10
      refine z_aload_n (pc := 56) dX11_goesOn_56 rfl rfl ?_
      refine z_bipush (pc := 57) (v := 97) dX11_goesOn_57 (by decide) ?_
      refine z_bipush (pc := 59) (v := 122) dX11_goesOn_59 (by decide) ?_
      refine q_invV (pc := 61) (As := [.int 97, .int 122]) (st := []) dX11_goesOn_61 ok_X11_isAt ml_RX11_248 iv_X11_isAt pa_X11_isAt ⟨Nat.le_of_ble_eq_true rfl, Nat.le_of_ble_eq_true rfl⟩ (lyc rfl) (q_kI F (fun vh2 h2 F => ?_))
      obtain ⟨G2, F⟩ := F
      refine z_if_eq (pc := 64) (tgt := 96) dX11_goesOn_64 (by decide) (fun k9 => ?_) (fun k9 => ?_)
      · replace F := F.1 k9
        refine z_aload_n (pc := 96) dX11_goesOn_96 rfl rfl ?_
        refine z_bipush (pc := 97) (v := 48) dX11_goesOn_97 (by decide) ?_
        refine z_bipush (pc := 99) (v := 57) dX11_goesOn_99 (by decide) ?_
        refine q_invV (pc := 101) (As := [.int 48, .int 57]) (st := []) dX11_goesOn_101 ok_X11_isAt ml_RX11_248 iv_X11_isAt pa_X11_isAt ⟨Nat.le_of_ble_eq_true rfl, Nat.le_of_ble_eq_true rfl⟩ (lyc rfl) (q_kI F (fun vh3 h3 F => ?_))
        obtain ⟨G3, F⟩ := F
        refine z_if_eq (pc := 104) (tgt := 176) dX11_goesOn_104 (by decide) (fun k8 => ?_) (fun k8 => ?_)
        · replace F := F.1 k8
          refine z_aload_n (pc := 176) dX11_goesOn_176 rfl rfl ?_
          refine z_aload_n (pc := 177) dX11_goesOn_177 rfl rfl ?_
          refine z_bipush (pc := 178) (v := 59) dX11_goesOn_178 (by decide) ?_
          refine z_bipush (pc := 180) (v := 59) dX11_goesOn_180 (by decide) ?_
          refine q_invV (pc := 182) (As := [.int 59, .int 59]) (st := [.ref 164]) dX11_goesOn_182 ok_X11_isAt ml_RX11_248 iv_X11_isAt pa_X11_isAt ⟨Nat.le_of_ble_eq_true rfl, Nat.le_of_ble_eq_true rfl⟩ (lyc rfl) (q_kI F (fun vh4 h4 F => ?_))
          obtain ⟨G4, F⟩ := F
          refine z_if_ne (pc := 185) (tgt := 199) dX11_goesOn_185 (by decide) (fun k7 => ?_) (fun k7 => ?_)
          · replace F := F.1 k7
            exact F
          · replace F := F.2 k7
            refine z_aload_n (pc := 188) dX11_goesOn_188 rfl rfl ?_
            refine z_bipush (pc := 189) (v := 45) dX11_goesOn_189 (by decide) ?_
            refine z_bipush (pc := 191) (v := 45) dX11_goesOn_191 (by decide) ?_
            refine q_invV (pc := 193) (As := [.int 45, .int 45]) (st := [.ref 164]) dX11_goesOn_193 ok_X11_isAt ml_RX11_248 iv_X11_isAt pa_X11_isAt ⟨Nat.le_of_ble_eq_true rfl, Nat.le_of_ble_eq_true rfl⟩ (lyc rfl) (q_kI F (fun vh5 h5 F => ?_))
            obtain ⟨G5, F⟩ := F
            refine z_if_eq (pc := 196) (tgt := 211) dX11_goesOn_196 (by decide) (fun k6 => ?_) (fun k6 => ?_)
            · replace F := F.1 k6
              refine z_iconst (pc := 211) (v := 3) dX11_goesOn_211 (by decide) ?_
              refine q_putI (pc := 212) dX11_goesOn_212 lk_RX11_257 (lyc rfl) ?_
              refine z_aload_n (pc := 215) dX11_goesOn_215 rfl rfl ?_
              refine z_dup (pc := 216) dX11_goesOn_216 rfl ?_
              refine q_getI (pc := 217) (v := rI h5 164 23) dX11_goesOn_217 lk_RX11_245 (lyc rfl) (rI_k (by decide)) ?_
              refine z_iconst (pc := 220) (v := 1) dX11_goesOn_220 (by decide) ?_
              refine z_iadd (pc := 221) dX11_goesOn_221 ?_
              refine q_putI (pc := 222) dX11_goesOn_222 lk_RX11_245 (lyc rfl) ?_
              exact q_retV (pc := 225) dX11_goesOn_225 rfl F
            · replace F := F.2 k6
              exact F
        · replace F := F.2 k8
          refine z_aload_n (pc := 107) dX11_goesOn_107 rfl rfl ?_
          refine z_iconst (pc := 108) (v := 2) dX11_goesOn_108 (by decide) ?_
          refine q_putI (pc := 109) dX11_goesOn_109 lk_RX11_257 (lyc rfl) ?_
          exact F
      · replace F := F.2 k9
        refine z_aload_n (pc := 67) dX11_goesOn_67 rfl rfl ?_
        refine z_iconst (pc := 68) (v := 1) dX11_goesOn_68 (by decide) ?_
        refine q_putI (pc := 69) dX11_goesOn_69 lk_RX11_257 (lyc rfl) ?_
        exact F
    · replace F := F.2 k10
      refine z_aload_n (pc := 48) dX11_goesOn_48 rfl rfl ?_
      refine z_iconst (pc := 49) (v := 0) dX11_goesOn_49 (by decide) ?_
      refine q_putI (pc := 50) dX11_goesOn_50 lk_RX11_257 (lyc rfl) ?_
      refine z_goto (pc := 53) (tgt := 225) dX11_goesOn_53 (by decide) ?_
      exact q_retV (pc := 225) dX11_goesOn_225 rfl F
  · replace F := F.2 k11
    refine z_aload_n (pc := 11) dX11_goesOn_11 rfl rfl ?_
    refine z_dup (pc := 12) dX11_goesOn_12 rfl ?_
    refine q_getI (pc := 13) (v := rI h1 164 23) dX11_goesOn_13 lk_RX11_245 (lyc rfl) rfl ?_
    refine z_iconst (pc := 16) (v := 1) dX11_goesOn_16 (by decide) ?_
    refine z_iadd (pc := 17) dX11_goesOn_17 ?_
    refine q_putI (pc := 18) dX11_goesOn_18 lk_RX11_245 (lyc rfl) ?_
    refine z_goto (pc := 21) (tgt := 0) dX11_goesOn_21 (by decide) ?_
    exact F
theorem g_X11_goesOn_72  {h : zHp} {Q : zHp → Prop}  (G : zG h) (F : zcI M_X11_isAt [.ref 164, .int 97, .int 122] h (fun vh1 h1 => zG h1 ∧ ((vh1 = 0 → (Q h1)) ∧ (¬ (vh1 = 0) → (zlV M_X11_goesOn 72 [some (.ref 164)] [] (wI h1 164 23 ((rI h1 164 23) + 1)) Q))))) : zlV M_X11_goesOn 72 [some (.ref 164)] [] h Q := by
  refine z_aload_n (pc := 72) dX11_goesOn_72 rfl rfl ?_
  refine z_bipush (pc := 73) (v := 97) dX11_goesOn_73 (by decide) ?_
  refine z_bipush (pc := 75) (v := 122) dX11_goesOn_75 (by decide) ?_
  refine q_invV (pc := 77) (As := [.int 97, .int 122]) (st := []) dX11_goesOn_77 ok_X11_isAt ml_RX11_248 iv_X11_isAt pa_X11_isAt ⟨Nat.le_of_ble_eq_true rfl, Nat.le_of_ble_eq_true rfl⟩ (lyc rfl) (q_kI F (fun vh1 h1 F => ?_))
  obtain ⟨G1, F⟩ := F
  refine z_if_eq (pc := 80) (tgt := 225) dX11_goesOn_80 (by decide) (fun k2 => ?_) (fun k2 => ?_)
  · replace F := F.1 k2
    exact q_retV (pc := 225) dX11_goesOn_225 rfl F
  · replace F := F.2 k2
    refine z_aload_n (pc := 83) dX11_goesOn_83 rfl rfl ?_
    refine z_dup (pc := 84) dX11_goesOn_84 rfl ?_
    refine q_getI (pc := 85) (v := rI h1 164 23) dX11_goesOn_85 lk_RX11_245 (lyc rfl) rfl ?_
    refine z_iconst (pc := 88) (v := 1) dX11_goesOn_88 (by decide) ?_
    refine z_iadd (pc := 89) dX11_goesOn_89 ?_
    refine q_putI (pc := 90) dX11_goesOn_90 lk_RX11_245 (lyc rfl) ?_
    refine z_goto (pc := 93) (tgt := 72) dX11_goesOn_93 (by decide) ?_
    exact F
theorem g_X11_goesOn_112  {h : zHp} {Q : zHp → Prop}  (G : zG h) (F : zcI M_X11_isAt [.ref 164, .int 48, .int 57] h (fun vh1 h1 => zG h1 ∧ ((vh1 = 0 → (Q h1)) ∧ (¬ (vh1 = 0) → ((rI h1 164 25 ≤ 9 → (vp_in (rI h1 164 23) 120 ∧ (zlV M_X11_goesOn 112 [some (.ref 164)] [] (wI (wI h1 164 25 (((10 * (rI h1 164 25)) + (rI h1 174 ((Int32.toNatClampNeg (rI h1 164 23))))) - 48)) 164 23 ((rI h1 164 23) + 1)) Q))) ∧ (¬ (rI h1 164 25 ≤ 9) → (zlV M_X11_goesOn 112 [some (.ref 164)] [] (wI (wI h1 164 25 (rI h1 164 25)) 164 23 ((rI h1 164 23) + 1)) Q))))))) : zlV M_X11_goesOn 112 [some (.ref 164)] [] h Q := by
  refine z_aload_n (pc := 112) dX11_goesOn_112 rfl rfl ?_
  refine z_bipush (pc := 113) (v := 48) dX11_goesOn_113 (by decide) ?_
  refine z_bipush (pc := 115) (v := 57) dX11_goesOn_115 (by decide) ?_
  refine q_invV (pc := 117) (As := [.int 48, .int 57]) (st := []) dX11_goesOn_117 ok_X11_isAt ml_RX11_248 iv_X11_isAt pa_X11_isAt ⟨Nat.le_of_ble_eq_true rfl, Nat.le_of_ble_eq_true rfl⟩ (lyc rfl) (q_kI F (fun vh1 h1 F => ?_))
  obtain ⟨G1, F⟩ := F
  refine z_if_eq (pc := 120) (tgt := 225) dX11_goesOn_120 (by decide) (fun k4 => ?_) (fun k4 => ?_)
  · replace F := F.1 k4
    exact q_retV (pc := 225) dX11_goesOn_225 rfl F
  · replace F := F.2 k4
    refine z_aload_n (pc := 123) dX11_goesOn_123 rfl rfl ?_
    refine z_aload_n (pc := 124) dX11_goesOn_124 rfl rfl ?_
    refine q_getI (pc := 125) (v := rI h1 164 25) dX11_goesOn_125 lk_RX11_254 (lyc rfl) rfl ?_
    refine z_bipush (pc := 128) (v := 9) dX11_goesOn_128 (by decide) ?_
    refine z_icmp_le (pc := 130) (tgt := 140) dX11_goesOn_130 (by decide) (fun k3 => ?_) (fun k3 => ?_)
    · replace F := F.1 k3
      refine z_bipush (pc := 140) (v := 10) dX11_goesOn_140 (by decide) ?_
      refine z_aload_n (pc := 142) dX11_goesOn_142 rfl rfl ?_
      refine q_getI (pc := 143) (v := rI h1 164 25) dX11_goesOn_143 lk_RX11_254 (lyc rfl) rfl ?_
      refine z_imul (pc := 146) dX11_goesOn_146 ?_
      refine z_aload_n (pc := 147) dX11_goesOn_147 rfl rfl ?_
      refine q_getR (pc := 148) (i := 174) dX11_goesOn_148 lk_RX11_37 (lyc rfl) (G1 164 20 174 rfl) ?_
      refine z_aload_n (pc := 151) dX11_goesOn_151 rfl rfl ?_
      refine q_getI (pc := 152) (v := rI h1 164 23) dX11_goesOn_152 lk_RX11_245 (lyc rfl) rfl ?_
      obtain ⟨k2, F⟩ := F
      refine q_iald (pc := 155) (j := (Int32.toNatClampNeg (rI h1 164 23))) (v := rI h1 174 ((Int32.toNatClampNeg (rI h1 164 23)))) dX11_goesOn_155 (lyc rfl) (zvn (lnc rfl) k2) rfl rfl ?_
      refine z_iadd (pc := 156) dX11_goesOn_156 ?_
      refine z_bipush (pc := 157) (v := 48) dX11_goesOn_157 (by decide) ?_
      refine z_isub (pc := 159) dX11_goesOn_159 ?_
      refine q_putI (pc := 160) dX11_goesOn_160 lk_RX11_254 (lyc rfl) ?_
      refine z_aload_n (pc := 163) dX11_goesOn_163 rfl rfl ?_
      refine z_dup (pc := 164) dX11_goesOn_164 rfl ?_
      refine q_getI (pc := 165) (v := rI h1 164 23) dX11_goesOn_165 lk_RX11_245 (lyc rfl) (rI_k (by decide)) ?_
      refine z_iconst (pc := 168) (v := 1) dX11_goesOn_168 (by decide) ?_
      refine z_iadd (pc := 169) dX11_goesOn_169 ?_
      refine q_putI (pc := 170) dX11_goesOn_170 lk_RX11_245 (lyc rfl) ?_
      refine z_goto (pc := 173) (tgt := 112) dX11_goesOn_173 (by decide) ?_
      exact F
    · replace F := F.2 k3
      refine z_aload_n (pc := 133) dX11_goesOn_133 rfl rfl ?_
      refine q_getI (pc := 134) (v := rI h1 164 25) dX11_goesOn_134 lk_RX11_254 (lyc rfl) rfl ?_
      refine z_goto (pc := 137) (tgt := 160) dX11_goesOn_137 (by decide) ?_
      refine q_putI (pc := 160) dX11_goesOn_160 lk_RX11_254 (lyc rfl) ?_
      refine z_aload_n (pc := 163) dX11_goesOn_163 rfl rfl ?_
      refine z_dup (pc := 164) dX11_goesOn_164 rfl ?_
      refine q_getI (pc := 165) (v := rI h1 164 23) dX11_goesOn_165 lk_RX11_245 (lyc rfl) (rI_k (by decide)) ?_
      refine z_iconst (pc := 168) (v := 1) dX11_goesOn_168 (by decide) ?_
      refine z_iadd (pc := 169) dX11_goesOn_169 ?_
      refine q_putI (pc := 170) dX11_goesOn_170 lk_RX11_245 (lyc rfl) ?_
      refine z_goto (pc := 173) (tgt := 112) dX11_goesOn_173 (by decide) ?_
      exact F
theorem g_X11_goesOn_199  {h : zHp} {Q : zHp → Prop}  (G : zG h) (F : vp_in (rI h 164 23) 120 ∧ (Q (wI (wI h 164 24 (rI h 174 ((Int32.toNatClampNeg (rI h 164 23))))) 164 23 ((rI h 164 23) + 1)))) : zlV M_X11_goesOn 199 [some (.ref 164)] [.ref 164] h Q := by
  refine z_aload_n (pc := 199) dX11_goesOn_199 rfl rfl ?_
  refine q_getR (pc := 200) (i := 174) dX11_goesOn_200 lk_RX11_37 (lyc rfl) (G 164 20 174 rfl) ?_
  refine z_aload_n (pc := 203) dX11_goesOn_203 rfl rfl ?_
  refine q_getI (pc := 204) (v := rI h 164 23) dX11_goesOn_204 lk_RX11_245 (lyc rfl) rfl ?_
  obtain ⟨k1, F⟩ := F
  refine q_iald (pc := 207) (j := (Int32.toNatClampNeg (rI h 164 23))) (v := rI h 174 ((Int32.toNatClampNeg (rI h 164 23)))) dX11_goesOn_207 (lyc rfl) (zvn (lnc rfl) k1) rfl rfl ?_
  refine z_goto (pc := 208) (tgt := 212) dX11_goesOn_208 (by decide) ?_
  refine q_putI (pc := 212) dX11_goesOn_212 lk_RX11_257 (lyc rfl) ?_
  refine z_aload_n (pc := 215) dX11_goesOn_215 rfl rfl ?_
  refine z_dup (pc := 216) dX11_goesOn_216 rfl ?_
  refine q_getI (pc := 217) (v := rI h 164 23) dX11_goesOn_217 lk_RX11_245 (lyc rfl) (rI_k (by decide)) ?_
  refine z_iconst (pc := 220) (v := 1) dX11_goesOn_220 (by decide) ?_
  refine z_iadd (pc := 221) dX11_goesOn_221 ?_
  refine q_putI (pc := 222) dX11_goesOn_222 lk_RX11_245 (lyc rfl) ?_
  exact q_retV (pc := 225) dX11_goesOn_225 rfl F
def TpM (h : zHp) (T : zN) (L : Nat) : Prop := L ≤ 120 ∧ rI h 164 21 = nI L ∧ ∀ i, i < L → rI h 174 i = T i ∧ iv 0 255 (T i)
def fT4 (h h' : zHp) : Prop := h'.2 = h.2 ∧ (∀ a, a ≠ 164 → h'.1 a = h.1 a) ∧ ∀ k, (k < 22 ∨ 25 < k) → h'.1 164 k = h.1 164 k
theorem fT4.rf {h : zHp} : fT4 h h := ⟨rfl, fun _ _ => rfl, fun _ _ => rfl⟩
theorem fT4.tr {h h' h2 : zHp} (a : fT4 h h') (b : fT4 h' h2) : fT4 h h2 := ⟨b.1.trans a.1, fun z z1 => (b.2.1 z z1).trans (a.2.1 z z1), fun k hk => (b.2.2 k hk).trans (a.2.2 k hk)⟩
theorem fT4.w {h : zHp} {k : Nat} {v : Int32} (hk : 22 ≤ k ∧ k ≤ 25) : fT4 h (wI h 164 k v) := ⟨rfl, fun a ha => wI_ne ha, fun q hq => by show rI _ 164 q = rI h 164 q; rw [rI_k (by omega)]⟩
theorem fT4.t {h h' : zHp} {T : zN} {L : Nat} (f : fT4 h h') (t : TpM h T L) : TpM h' T L := ⟨t.1, by show h'.1 164 21 = _; rw [f.2.2 21 (by omega)]; exact t.2.1, fun i hi => by
  have : rI h' 174 i = rI h 174 i := by show h'.1 174 i = h.1 174 i; rw [f.2.1 174 (by decide)]
  rw [this]; exact t.2.2 i hi⟩
theorem s_X11_isAt {T : zN} {L p : Nat} {a b : Int32} {h : zHp} (G : zG h) (t : TpM h T L) (e : rI h 164 23 = nI p) (hp : p ≤ L) : zcI M_X11_isAt [.ref 164, .int a, .int b] h (fun r h' => r = zb (p < L ∧ a ≤ T p ∧ T p ≤ b) ∧ h' = h) := by
  have := t.1
  refine g_X11_isAt G ?_
  rw [t.2.1, e, nI_clamp (by omega)]
  refine ⟨fun z => ⟨(zb_neg (fun y => nI_ge y.1 (by omega) z)).symm, rfl⟩, fun z => ?_⟩
  have pl : p < L := Nat.lt_of_not_le (fun y => z (nI_le y (by omega)))
  rw [(t.2.2 p pl).1]
  exact ⟨vp_in_nI (by omega) (by omega), fun y => ⟨(zb_neg (fun x => y x.2)).symm, rfl⟩, fun y => ⟨(zb_pos ⟨pl, y⟩).symm, rfl⟩⟩
def tv (k : Nat) : Int32 := if k = 0 then 0 else if k = 1 then 1 else if k = 2 then 2 else if k = 3 then 59 else if k = 4 then 45 else 3
def TM (h : zHp) (t : Nat × Nat × Nat × Nat) : Prop := rI h 164 22 = nI t.1 ∧ rI h 164 23 = nI t.2.2.1 ∧ rI h 164 24 = tv t.2.1 ∧ rI h 164 25 = nI t.2.2.2
theorem kd_all : ∀ m, m < 256 → (kd (nI m) = 1 ↔ 97 ≤ nI m ∧ nI m ≤ 122) ∧ (kd (nI m) = 2 ↔ 48 ≤ nI m ∧ nI m ≤ 57) ∧ (kd (nI m) = 3 ↔ 59 ≤ nI m ∧ nI m ≤ 59) ∧ (kd (nI m) = 4 ↔ 45 ≤ nI m ∧ nI m ≤ 45) ∧ (nI m = 32 ↔ 32 ≤ nI m ∧ nI m ≤ 32) ∧ (kd (nI m) = 3 → nI m = 59) ∧ (kd (nI m) = 4 → nI m = 45) ∧ 1 ≤ kd (nI m) ∧ kd (nI m) ≤ 5 ∧ (kd (nI m) = 2 → 48 ≤ m ∧ m ≤ 57) := by decide +kernel
theorem kdx {c : Int32} (h : iv 0 255 c) : (kd c = 1 ↔ 97 ≤ c ∧ c ≤ 122) ∧ (kd c = 2 ↔ 48 ≤ c ∧ c ≤ 57) ∧ (kd c = 3 ↔ 59 ≤ c ∧ c ≤ 59) ∧ (kd c = 4 ↔ 45 ≤ c ∧ c ≤ 45) ∧ (c = 32 ↔ 32 ≤ c ∧ c ≤ 32) ∧ (kd c = 3 → c = 59) ∧ (kd c = 4 → c = 45) ∧ 1 ≤ kd c ∧ kd c ≤ 5 ∧ (kd c = 2 → ∃ m, c = nI m ∧ 48 ≤ m ∧ m ≤ 57) := by
  obtain ⟨m, hm, rfl⟩ := byt h
  obtain ⟨a1, a2, a3, a4, a5, a6, a7, a8, a9, a10⟩ := kd_all m hm
  exact ⟨a1, a2, a3, a4, a5, a6, a7, a8, a9, fun z => ⟨m, rfl, a10 z⟩⟩
theorem s_X11_goesOn {T : zN} {L p : Nat} {h : zHp} (G : zG h) (t : TpM h T L) (hp : p ≤ L) (e : rI h 164 23 = nI p) : zcV M_X11_goesOn [.ref 164] h (fun h' => fT4 h h' ∧ TM h' (Tk T L p)) := by
  have l120 := t.1
  have ok : ∀ i, i < L → iv 0 255 (T i) := fun i hi => (t.2.2 i hi).2
  have word : ∀ (m q : Nat) (h' : zHp), L - q = m → q ≤ L → fT4 h h' → rI h' 164 22 = nI (sk T L p) → rI h' 164 23 = nI q → rI h' 164 24 = 1 → rI h' 164 25 = 0 → zlV M_X11_goesOn 72 [some (.ref 164)] [] h' (fun h2 => fT4 h h2 ∧ TM h2 (sk T L p, 1, rn T L 1 q, 0)) := by
    intro m
    induction m with
    | zero =>
      intro q h' hm hq f c2 c3 c4 c5
      refine g_X11_goesOn_72 (zG_of f.1 G) (zcI_use (s_X11_isAt (zG_of f.1 G) (f.t t) c3 hq) ⟨zG_of f.1 G, fun _ => ⟨f, ?_⟩, fun z => absurd (zbn.mp z).1 (by omega)⟩)
      rw [rn_0 (by omega)]
      exact ⟨c2, c3, c4, c5⟩
    | succ m ih =>
      intro q h' hm hq f c2 c3 c4 c5
      have ql : q < L := by omega
      refine g_X11_goesOn_72 (zG_of f.1 G) (zcI_use (s_X11_isAt (zG_of f.1 G) (f.t t) c3 hq) ⟨zG_of f.1 G, fun z => ⟨f, ?_⟩, fun z => ?_⟩)
      · rw [rn_0 (fun y => (zb0.mp z) ⟨y.1, (kdx (ok q ql)).1.mp y.2⟩)]
        exact ⟨c2, c3, c4, c5⟩
      · rw [rn_1 ql ((kdx (ok q ql)).1.mpr (zbn.mp z).2), c3, nI_1]
        exact ih (q + 1) _ (by omega) (by omega) (f.tr (fT4.w (by omega))) (by rw [rI_k (by decide)]; exact c2) rI_s (by rw [rI_k (by decide)]; exact c4) (by rw [rI_k (by decide)]; exact c5)
  have num : ∀ (m q w : Nat) (h' : zHp), L - q = m → q ≤ L → w ≤ 99 → fT4 h h' → rI h' 164 22 = nI (sk T L p) → rI h' 164 23 = nI q → rI h' 164 24 = 2 → rI h' 164 25 = nI w → zlV M_X11_goesOn 112 [some (.ref 164)] [] h' (fun h2 => fT4 h h2 ∧ TM h2 (sk T L p, 2, rn T L 2 q, wr T L q w)) := by
    intro m
    induction m with
    | zero =>
      intro q w h' hm hq hw f c2 c3 c4 c5
      refine g_X11_goesOn_112 (zG_of f.1 G) (zcI_use (s_X11_isAt (zG_of f.1 G) (f.t t) c3 hq) ⟨zG_of f.1 G, fun _ => ⟨f, ?_⟩, fun z => absurd (zbn.mp z).1 (by omega)⟩)
      rw [rn_0 (by omega), wr_0 (by omega)]
      exact ⟨c2, c3, c4, c5⟩
    | succ m ih =>
      intro q w h' hm hq hw f c2 c3 c4 c5
      have ql : q < L := by omega
      refine g_X11_goesOn_112 (zG_of f.1 G) (zcI_use (s_X11_isAt (zG_of f.1 G) (f.t t) c3 hq) ⟨zG_of f.1 G, fun z => ⟨f, ?_⟩, fun z => ?_⟩)
      · have n : ¬ (q < L ∧ kd (T q) = 2) := fun y => (zb0.mp z) ⟨y.1, (kdx (ok q ql)).2.1.mp y.2⟩
        rw [rn_0 n, wr_0 n]
        exact ⟨c2, c3, c4, c5⟩
      · have k2 := (kdx (ok q ql)).2.1.mpr (zbn.mp z).2
        obtain ⟨mm, em, m1, m2⟩ := (kdx (ok q ql)).2.2.2.2.2.2.2.2.2 k2
        rw [rn_1 ql k2, wr_1 ql k2, c3, c5, nI_clamp (n := q) (by omega), ((f.t t).2.2 q ql).1, em, nI_clamp (n := mm) (by omega), nI_1]
        have go : ∀ (w' : Nat) (x : Int32), x = nI w' → w' ≤ 99 → w' = (if 9 < w then w else 10 * w + (mm - 48)) → zlV M_X11_goesOn 112 [some (.ref 164)] [] (wI (wI h' 164 25 x) 164 23 (nI (q + 1))) (fun h2 => fT4 h h2 ∧ TM h2 (sk T L p, 2, rn T L 2 (q + 1), wr T L (q + 1) (if 9 < w then w else 10 * w + (mm - 48)))) := by
          intro w' x hx w1 w2
          rw [← w2]
          exact ih (q + 1) w' _ (by omega) (by omega) w1 ((f.tr (fT4.w (by omega))).tr (fT4.w (by omega))) (by rw [rI_k (by decide), rI_k (by decide)]; exact c2) rI_s (by rw [rI_k (by decide), rI_k (by decide)]; exact c4) (by rw [rI_k (by decide), rI_s, hx])
        refine ⟨fun y => ⟨vp_in_nI (by omega) (by omega), ?_⟩, fun y => ?_⟩
        · have w9 := (nI_leI (b := 9) (by omega) (by omega)).mp y
          refine go (10 * w + (mm - 48)) _ ?_ (by omega) (by rw [if_neg (by omega)])
          rw [show (10 : Int32) = nI 10 from rfl, show (48 : Int32) = nI 48 from rfl, pk_mul, nI_add, pk_sub (by omega), show 10 * w + mm - 48 = 10 * w + (mm - 48) by omega]
        · have w9 : 9 < w := Nat.lt_of_not_le (fun x => y (nI_le (b := 9) x (by omega)))
          exact go w _ rfl hw (by rw [if_pos w9])
  have bl : ∀ (m q : Nat) (h' : zHp), L - q = m → q ≤ L → sk T L q = sk T L p → fT4 h h' → rI h' 164 23 = nI q → zcV M_X11_goesOn [.ref 164] h' (fun h2 => fT4 h h2 ∧ TM h2 (Tk T L p)) := by
    intro m
    induction m with
    | zero =>
      intro q h' hm hq es f c3
      have n : ¬ (q < L ∧ T q = 32) := by omega
      have e0 : sk T L p = q := by rw [← es, sk_0 n]
      have eL : q = L := by omega
      have eT : Tk T L p = (sk T L p, 0, sk T L p, 0) := by unfold Tk; rw [if_neg (by omega)]
      refine g_X11_goesOn (zG_of f.1 G) (zcI_use (s_X11_isAt (zG_of f.1 G) (f.t t) c3 hq) ⟨zG_of f.1 G, fun _ => ?_, fun z => absurd (zbn.mp z).1 (by omega)⟩)
      rw [(f.t t).2.1, c3, eT, e0]
      refine ⟨fun z => absurd (by rw [eL]) z, fun _ => ⟨((f.tr (fT4.w (by omega))).tr (fT4.w (by omega))).tr (fT4.w (by omega)), ?_, ?_, rI_s, ?_⟩⟩
      · rw [rI_k (by decide), rI_k (by decide), rI_s]
      · rw [rI_k (by decide), rI_k (by decide), rI_k (by decide)]; exact c3
      · rw [rI_k (by decide), rI_s]; rfl
    | succ m ih =>
      intro q h' hm hq es f c3
      have ql : q < L := by omega
      have G' := zG_of f.1 G
      have kx := kdx (ok q ql)
      refine g_X11_goesOn G' (zcI_use (s_X11_isAt G' (f.t t) c3 hq) ⟨G', fun z => ?_, fun z => ?_⟩)
      · have n : ¬ (q < L ∧ T q = 32) := fun y => (zb0.mp z) ⟨y.1, kx.2.2.2.2.1.mp y.2⟩
        have e0 : sk T L p = q := by rw [← es, sk_0 n]
        rw [(f.t t).2.1, c3]
        refine ⟨fun _ => ?_, fun y => absurd ((nI_eq (by omega) (by omega)).mp y) (by omega)⟩
        have f1 : fT4 h (wI (wI h' 164 22 (nI q)) 164 25 0) := (f.tr (fT4.w (by omega))).tr (fT4.w (by omega))
        have G1 := zG_of f1.1 G
        have t1 := f1.t t
        have d3 : rI (wI (wI h' 164 22 (nI q)) 164 25 0) 164 23 = nI q := by rw [rI_k (by decide), rI_k (by decide)]; exact c3
        have d2 : rI (wI (wI h' 164 22 (nI q)) 164 25 0) 164 22 = nI q := by rw [rI_k (by decide), rI_s]
        have d5 : rI (wI (wI h' 164 22 (nI q)) 164 25 0) 164 25 = 0 := rI_s
        have ia : ∀ a b : Int32, zcI M_X11_isAt [.ref 164, .int a, .int b] (wI (wI h' 164 22 (nI q)) 164 25 0) (fun r h'' => r = zb (q < L ∧ a ≤ T q ∧ T q ≤ b) ∧ h'' = wI (wI h' 164 22 (nI q)) 164 25 0) := fun a b => s_X11_isAt G1 t1 d3 hq
        have eTs : sk T L p < L := by omega
        refine zcI_use (ia 97 122) ⟨G1, fun z1 => ?_, fun z1 => ?_⟩
        · have n1 : ¬ kd (T q) = 1 := fun y => (zb0.mp z1) ⟨ql, kx.1.mp y⟩
          refine zcI_use (ia 48 57) ⟨G1, fun z2 => ?_, fun z2 => ?_⟩
          · have n2 : ¬ kd (T q) = 2 := fun y => (zb0.mp z2) ⟨ql, kx.2.1.mp y⟩
            have eT : Tk T L p = (q, kd (T q), q + 1, 0) := by unfold Tk; rw [if_pos eTs, e0, if_neg n1, if_neg n2]
            rw [eT]
            have sig : tv (kd (T q)) = T q → zlV M_X11_goesOn 199 [some (.ref 164)] [.ref 164] (wI (wI h' 164 22 (nI q)) 164 25 0) (fun h2 => fT4 h h2 ∧ TM h2 (q, kd (T q), q + 1, 0)) := by
              intro et
              refine g_X11_goesOn_199 G1 ?_
              rw [d3, nI_clamp (by omega), (t1.2.2 q ql).1, nI_1]
              refine ⟨vp_in_nI (by omega) (by omega), (f1.tr (fT4.w (by omega))).tr (fT4.w (by omega)), ?_, rI_s, ?_, ?_⟩
              · rw [rI_k (by decide), rI_k (by decide)]; exact d2
              · rw [rI_k (by decide), rI_s]; exact et.symm
              · rw [rI_k (by decide), rI_k (by decide)]; exact d5
            refine zcI_use (ia 59 59) ⟨G1, fun z3 => ?_, fun z3 => ?_⟩
            · have k3 := kx.2.2.1.mpr (zbn.mp z3).2
              exact sig (by rw [kx.2.2.2.2.2.1 k3]; decide)
            · have n3 : ¬ kd (T q) = 3 := fun y => (zb0.mp z3) ⟨ql, kx.2.2.1.mp y⟩
              refine zcI_use (ia 45 45) ⟨G1, fun z4 => ?_, fun z4 => ?_⟩
              · have n4 : ¬ kd (T q) = 4 := fun y => (zb0.mp z4) ⟨ql, kx.2.2.2.1.mp y⟩
                have k5 : kd (T q) = 5 := by have := kx.2.2.2.2.2.2.2.1; have := kx.2.2.2.2.2.2.2.2.1; omega
                rw [d3, nI_1]
                refine ⟨(f1.tr (fT4.w (by omega))).tr (fT4.w (by omega)), ?_, rI_s, ?_, ?_⟩
                · rw [rI_k (by decide), rI_k (by decide)]; exact d2
                · rw [rI_k (by decide), rI_s]; show 3 = tv (kd (T q)); rw [k5]; rfl
                · rw [rI_k (by decide), rI_k (by decide)]; exact d5
              · have k4 := kx.2.2.2.1.mpr (zbn.mp z4).2
                exact sig (by rw [kx.2.2.2.2.2.2.1 k4]; decide)
          · have k2 := kx.2.1.mpr (zbn.mp z2).2
            have eT : Tk T L p = (sk T L p, 2, rn T L 2 q, wr T L q 0) := by unfold Tk; rw [if_pos eTs, e0, if_neg n1, if_pos k2]
            rw [eT]
            exact num (L - q) q 0 _ rfl hq (by omega) (f1.tr (fT4.w (by omega))) (by rw [rI_k (by decide), e0]; exact d2) (by rw [rI_k (by decide)]; exact d3) rI_s (by rw [rI_k (by decide)]; exact d5)
        · have k1 := kx.1.mpr (zbn.mp z1).2
          have eT : Tk T L p = (sk T L p, 1, rn T L 1 q, 0) := by unfold Tk; rw [if_pos eTs, e0, if_pos k1]
          rw [eT]
          exact word (L - q) q _ rfl hq (f1.tr (fT4.w (by omega))) (by rw [rI_k (by decide), e0]; exact d2) (by rw [rI_k (by decide)]; exact d3) rI_s (by rw [rI_k (by decide)]; exact d5)
      · have y : T q = 32 := kx.2.2.2.2.1.mpr (zbn.mp z).2
        clear kx
        rw [c3, nI_1]
        exact ih (q + 1) _ (by omega) (by omega) (by rw [← es, sk_1 ql y]) (f.tr (fT4.w (by omega))) rI_s
  exact bl (L - p) p h rfl hp rfl fT4.rf e

