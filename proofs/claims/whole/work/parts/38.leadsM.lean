/-! the way of wounds: the reference's walk -/
theorem g_X11_leads {x1 : Int32} {x2 : Int32} {x3 : Int32} {h : zHp} {Q : zHp → Prop}  (G : zG h) (F : zcV M_X11_makes [.ref 164, .int 5] h (fun h1 => zG h1 ∧ (zcI M_X11_ruleFor [.ref 164] (wI (wI (wI (wI (wI h1 164 11 x1) 164 12 x2) 164 13 0) 164 14 0) 164 15 0) (fun vh2 h2 => zG h2 ∧ (zlV M_X11_leads 36 [some (.ref 164), some (.int x1), some (.int x2), some (.int x3), some (.int vh2), none, none] [] h2 Q))))) : zcV M_X11_leads [.ref 164, .int x1, .int x2, .int x3] h Q := by
  show zw zNT zNT M_X11_leads 0 [some (.ref 164), some (.int x1), some (.int x2), some (.int x3), none, none, none] [] h _
  refine z_aload_n (pc := 0) dX11_leads_0 rfl rfl ?_
  refine z_iconst (pc := 1) (v := 5) dX11_leads_1 (by decide) ?_
  refine q_invV (pc := 2) (As := [.int 5]) (st := []) dX11_leads_2 ok_X11_makes ml_RX11_145 iv_X11_makes pa_X11_makes ⟨Nat.le_of_ble_eq_true rfl, Nat.le_of_ble_eq_true rfl⟩ (lyc rfl) (q_kV F (fun h1 F => ?_))
  obtain ⟨G1, F⟩ := F
  refine z_aload_n (pc := 5) dX11_leads_5 rfl rfl ?_
  refine z_iload_n (pc := 6) dX11_leads_6 rfl rfl ?_
  refine q_putI (pc := 7) dX11_leads_7 lk_RX11_201 (lyc rfl) ?_
  refine z_aload_n (pc := 10) dX11_leads_10 rfl rfl ?_
  refine z_iload_n (pc := 11) dX11_leads_11 rfl rfl ?_
  refine q_putI (pc := 12) dX11_leads_12 lk_RX11_204 (lyc rfl) ?_
  refine z_aload_n (pc := 15) dX11_leads_15 rfl rfl ?_
  refine z_iconst (pc := 16) (v := 0) dX11_leads_16 (by decide) ?_
  refine q_putI (pc := 17) dX11_leads_17 lk_RX11_198 (lyc rfl) ?_
  refine z_aload_n (pc := 20) dX11_leads_20 rfl rfl ?_
  refine z_iconst (pc := 21) (v := 0) dX11_leads_21 (by decide) ?_
  refine q_putI (pc := 22) dX11_leads_22 lk_RX11_207 (lyc rfl) ?_
  refine z_aload_n (pc := 25) dX11_leads_25 rfl rfl ?_
  refine z_iconst (pc := 26) (v := 0) dX11_leads_26 (by decide) ?_
  refine q_putB (pc := 27) dX11_leads_27 lk_RX11_210 (lyc rfl) (Or.inl rfl) ?_
  refine z_aload_n (pc := 30) dX11_leads_30 rfl rfl ?_
  refine q_invV (pc := 31) (As := []) (st := []) dX11_leads_31 ok_X11_ruleFor ml_RX11_213 iv_X11_ruleFor pa_X11_ruleFor ⟨Nat.le_of_ble_eq_true rfl, Nat.le_of_ble_eq_true rfl⟩ (lyc rfl) (q_kI F (fun vh2 h2 F => ?_))
  obtain ⟨G2, F⟩ := F
  refine z_istore (pc := 34) (ls' := [some (.ref 164), some (.int x1), some (.int x2), some (.int x3), some (.int vh2), none, none]) dX11_leads_34 (by decide) rfl ?_
  exact F
theorem g_X11_leads_36 {x1 : Int32} {x2 : Int32} {x3 : Int32} {x4 : Int32} {h : zHp} {Q : zHp → Prop}  (G : zG h) (F : (rI h 164 12 ≤ 0 → (Q h)) ∧ (¬ (rI h 164 12 ≤ 0) → ((¬ rI h 164 15 = 0 → (Q h)) ∧ (rI h 164 15 = 0 → ((x4 = -1 → (Q h)) ∧ (¬ (x4 = -1) → (vp_in ((150 + (4 * x4)) + 3) 246 ∧ (vp_in ((150 + (4 * x4)) + 0) 246 ∧ ((rI h 165 ((Int32.toNatClampNeg (((150 + (4 * x4)) + 0)))) = 0 → ((rI h 164 12 ≤ rI h 165 ((Int32.toNatClampNeg (((150 + (4 * x4)) + 3)))) → (zlV M_X11_leads 142 [some (.ref 164), some (.int x1), some (.int x2), some (.int x3), some (.int x4), some (.int (rI h 165 ((Int32.toNatClampNeg (((150 + (4 * x4)) + 3)))))), none] [.int (rI h 164 12)] (wI (wI h 164 13 ((rI h 164 13) ||| (1 <<< (x4 &&& 31)))) 164 14 ((rI h 164 14) + 1)) Q)) ∧ (¬ (rI h 164 12 ≤ rI h 165 ((Int32.toNatClampNeg (((150 + (4 * x4)) + 3))))) → (zlV M_X11_leads 142 [some (.ref 164), some (.int x1), some (.int x2), some (.int x3), some (.int x4), some (.int (rI h 165 ((Int32.toNatClampNeg (((150 + (4 * x4)) + 3)))))), none] [.int (rI h 165 ((Int32.toNatClampNeg (((150 + (4 * x4)) + 3)))))] (wI (wI h 164 13 ((rI h 164 13) ||| (1 <<< (x4 &&& 31)))) 164 14 ((rI h 164 14) + 1)) Q)))) ∧ (¬ rI h 165 ((Int32.toNatClampNeg (((150 + (4 * x4)) + 0)))) = 0 → ((rI h 165 ((Int32.toNatClampNeg (((150 + (4 * x4)) + 0)))) = 1 → (zcI M_X11_ruleFor [.ref 164] (wI (wI (wI h 164 13 ((rI h 164 13) ||| (1 <<< (x4 &&& 31)))) 164 14 ((rI h 164 14) + 1)) 164 12 ((rI h 164 12) - ((rI h 164 12) / 2))) (fun vh1 h1 => zG h1 ∧ (zlV M_X11_leads 36 [some (.ref 164), some (.int x1), some (.int x2), some (.int x3), some (.int vh1), none, none] [] h1 Q)))) ∧ (¬ rI h 165 ((Int32.toNatClampNeg (((150 + (4 * x4)) + 0)))) = 1 → ((rI h 165 ((Int32.toNatClampNeg (((150 + (4 * x4)) + 0)))) = 2 → ((2 * (rI h 164 12) ≤ 999 → (zcI M_X11_ruleFor [.ref 164] (wI (wI (wI h 164 13 ((rI h 164 13) ||| (1 <<< (x4 &&& 31)))) 164 14 ((rI h 164 14) + 1)) 164 12 (2 * (rI h 164 12))) (fun vh2 h2 => zG h2 ∧ (zlV M_X11_leads 36 [some (.ref 164), some (.int x1), some (.int x2), some (.int x3), some (.int vh2), none, none] [] h2 Q)))) ∧ (¬ (2 * (rI h 164 12) ≤ 999) → (zcI M_X11_ruleFor [.ref 164] (wI (wI (wI h 164 13 ((rI h 164 13) ||| (1 <<< (x4 &&& 31)))) 164 14 ((rI h 164 14) + 1)) 164 12 999) (fun vh3 h3 => zG h3 ∧ (zlV M_X11_leads 36 [some (.ref 164), some (.int x1), some (.int x2), some (.int x3), some (.int vh3), none, none] [] h3 Q)))))) ∧ (¬ rI h 165 ((Int32.toNatClampNeg (((150 + (4 * x4)) + 0)))) = 2 → ((rI h 165 ((Int32.toNatClampNeg (((150 + (4 * x4)) + 0)))) = 3 → (zcI M_X11_ruleFor [.ref 164] (wI (wI (wI h 164 13 ((rI h 164 13) ||| (1 <<< (x4 &&& 31)))) 164 14 ((rI h 164 14) + 1)) 164 11 (rI h 165 ((Int32.toNatClampNeg (((150 + (4 * x4)) + 3)))))) (fun vh4 h4 => zG h4 ∧ (zlV M_X11_leads 36 [some (.ref 164), some (.int x1), some (.int x2), some (.int x3), some (.int vh4), none, none] [] h4 Q)))) ∧ (¬ rI h 165 ((Int32.toNatClampNeg (((150 + (4 * x4)) + 0)))) = 3 → (zcI M_X11_ruleFor [.ref 164] (wI (wI (wI h 164 13 ((rI h 164 13) ||| (1 <<< (x4 &&& 31)))) 164 14 ((rI h 164 14) + 1)) 164 15 1) (fun vh5 h5 => zG h5 ∧ (zlV M_X11_leads 36 [some (.ref 164), some (.int x1), some (.int x2), some (.int x3), some (.int vh5), none, none] [] h5 Q))))))))))))))))))) : zlV M_X11_leads 36 [some (.ref 164), some (.int x1), some (.int x2), some (.int x3), some (.int x4), none, none] [] h Q := by
  refine z_aload_n (pc := 36) dX11_leads_36 rfl rfl ?_
  refine q_getI (pc := 37) (v := rI h 164 12) dX11_leads_37 lk_RX11_204 (lyc rfl) rfl ?_
  refine z_if_le (pc := 40) (tgt := 258) dX11_leads_40 (by decide) (fun k16 => ?_) (fun k16 => ?_)
  · replace F := F.1 k16
    exact q_retV (pc := 258) dX11_leads_258 rfl F
  · replace F := F.2 k16
    refine z_aload_n (pc := 43) dX11_leads_43 rfl rfl ?_
    refine q_getI (pc := 44) (v := rI h 164 15) dX11_leads_44 lk_RX11_210 (lyc rfl) rfl ?_
    refine z_if_ne (pc := 47) (tgt := 258) dX11_leads_47 (by decide) (fun k15 => ?_) (fun k15 => ?_)
    · replace F := F.1 k15
      exact q_retV (pc := 258) dX11_leads_258 rfl F
    · replace F := F.2 k15
      refine z_iload (pc := 50) dX11_leads_50 rfl ?_
      refine z_iconst (pc := 52) (v := -1) dX11_leads_52 (by decide) ?_
      refine z_icmp_eq (pc := 53) (tgt := 258) dX11_leads_53 (by decide) (fun k14 => ?_) (fun k14 => ?_)
      · replace F := F.1 k14
        exact q_retV (pc := 258) dX11_leads_258 rfl F
      · replace F := F.2 k14
        refine z_aload_n (pc := 56) dX11_leads_56 rfl rfl ?_
        refine z_dup (pc := 57) dX11_leads_57 rfl ?_
        refine q_getI (pc := 58) (v := rI h 164 13) dX11_leads_58 lk_RX11_198 (lyc rfl) rfl ?_
        refine z_iconst (pc := 61) (v := 1) dX11_leads_61 (by decide) ?_
        refine z_iload (pc := 62) dX11_leads_62 rfl ?_
        refine z_ishl (pc := 64) dX11_leads_64 ?_
        refine z_ior (pc := 65) dX11_leads_65 ?_
        refine q_putI (pc := 66) dX11_leads_66 lk_RX11_198 (lyc rfl) ?_
        refine z_aload_n (pc := 69) dX11_leads_69 rfl rfl ?_
        refine z_dup (pc := 70) dX11_leads_70 rfl ?_
        refine q_getI (pc := 71) (v := rI h 164 14) dX11_leads_71 lk_RX11_207 (lyc rfl) (rI_k (by decide)) ?_
        refine z_iconst (pc := 74) (v := 1) dX11_leads_74 (by decide) ?_
        refine z_iadd (pc := 75) dX11_leads_75 ?_
        refine q_putI (pc := 76) dX11_leads_76 lk_RX11_207 (lyc rfl) ?_
        refine z_aload_n (pc := 79) dX11_leads_79 rfl rfl ?_
        refine z_iload (pc := 80) dX11_leads_80 rfl ?_
        refine z_iconst (pc := 82) (v := 3) dX11_leads_82 (by decide) ?_
        obtain ⟨k1, F⟩ := F
        refine q_invV (pc := 83) (As := [.int x4, .int 3]) (st := []) dX11_leads_83 ok_X11_ruleIs ml_RX11_192 iv_X11_ruleIs pa_X11_ruleIs ⟨Nat.le_of_ble_eq_true rfl, Nat.le_of_ble_eq_true rfl⟩ (lyc rfl) (q_pI (s_X11_ruleIs G k1) ((rI_c (by decide)).trans (rI_c (by decide))) ?_)
        refine z_istore (pc := 86) (ls' := [some (.ref 164), some (.int x1), some (.int x2), some (.int x3), some (.int x4), some (.int (rI h 165 ((Int32.toNatClampNeg (((150 + (4 * x4)) + 3)))))), none]) dX11_leads_86 (by decide) rfl ?_
        refine z_aload_n (pc := 88) dX11_leads_88 rfl rfl ?_
        refine z_iload (pc := 89) dX11_leads_89 rfl ?_
        refine z_iconst (pc := 91) (v := 0) dX11_leads_91 (by decide) ?_
        obtain ⟨k2, F⟩ := F
        refine q_invV (pc := 92) (As := [.int x4, .int 0]) (st := []) dX11_leads_92 ok_X11_ruleIs ml_RX11_192 iv_X11_ruleIs pa_X11_ruleIs ⟨Nat.le_of_ble_eq_true rfl, Nat.le_of_ble_eq_true rfl⟩ (lyc rfl) (q_pI (s_X11_ruleIs G k2) ((rI_c (by decide)).trans (rI_c (by decide))) ?_)
        by_cases k3 : rI h 165 ((Int32.toNatClampNeg (((150 + (4 * x4)) + 0)))) = 0
        · replace F := F.1 k3
          refine z_tableIn (pc := 95) (x := rI h 165 ((Int32.toNatClampNeg (((150 + (4 * x4)) + 0))))) (tgt := 124) (off := 29) dX11_leads_95 (by rw [k3]; decide) (by rw [k3]; decide) (by rw [k3]; decide) (by decide) ?_
          refine z_iload (pc := 124) dX11_leads_124 rfl ?_
          refine z_aload_n (pc := 126) dX11_leads_126 rfl rfl ?_
          refine q_getI (pc := 127) (v := rI h 164 12) dX11_leads_127 lk_RX11_204 (lyc rfl) ((rI_k (by decide)).trans (rI_k (by decide))) ?_
          refine z_icmp_ge (pc := 130) (tgt := 138) dX11_leads_130 (by decide) (fun k4 => ?_) (fun k4 => ?_)
          · replace F := F.1 k4
            refine z_aload_n (pc := 138) dX11_leads_138 rfl rfl ?_
            refine q_getI (pc := 139) (v := rI h 164 12) dX11_leads_139 lk_RX11_204 (lyc rfl) ((rI_k (by decide)).trans (rI_k (by decide))) ?_
            exact F
          · replace F := F.2 k4
            refine z_iload (pc := 133) dX11_leads_133 rfl ?_
            refine z_goto (pc := 135) (tgt := 142) dX11_leads_135 (by decide) ?_
            exact F
        · replace F := F.2 k3
          by_cases k5 : rI h 165 ((Int32.toNatClampNeg (((150 + (4 * x4)) + 0)))) = 1
          · replace F := F.1 k5
            refine z_tableIn (pc := 95) (x := rI h 165 ((Int32.toNatClampNeg (((150 + (4 * x4)) + 0))))) (tgt := 186) (off := 91) dX11_leads_95 (by rw [k5]; decide) (by rw [k5]; decide) (by rw [k5]; decide) (by decide) ?_
            refine z_aload_n (pc := 186) dX11_leads_186 rfl rfl ?_
            refine z_dup (pc := 187) dX11_leads_187 rfl ?_
            refine q_getI (pc := 188) (v := rI h 164 12) dX11_leads_188 lk_RX11_204 (lyc rfl) ((rI_k (by decide)).trans (rI_k (by decide))) ?_
            refine z_aload_n (pc := 191) dX11_leads_191 rfl rfl ?_
            refine q_getI (pc := 192) (v := rI h 164 12) dX11_leads_192 lk_RX11_204 (lyc rfl) ((rI_k (by decide)).trans (rI_k (by decide))) ?_
            refine z_iconst (pc := 195) (v := 2) dX11_leads_195 (by decide) ?_
            refine z_idiv (pc := 196) dX11_leads_196 (by decide) ?_
            refine z_isub (pc := 197) dX11_leads_197 ?_
            refine q_putI (pc := 198) dX11_leads_198 lk_RX11_204 (lyc rfl) ?_
            refine z_goto (pc := 201) (tgt := 249) dX11_leads_201 (by decide) ?_
            refine z_aload_n (pc := 249) dX11_leads_249 rfl rfl ?_
            refine q_invV (pc := 250) (As := []) (st := []) dX11_leads_250 ok_X11_ruleFor ml_RX11_213 iv_X11_ruleFor pa_X11_ruleFor ⟨Nat.le_of_ble_eq_true rfl, Nat.le_of_ble_eq_true rfl⟩ (lyc rfl) (q_kI F (fun vh1 h1 F => ?_))
            obtain ⟨G1, F⟩ := F
            refine z_istore (pc := 253) (ls' := [some (.ref 164), some (.int x1), some (.int x2), some (.int x3), some (.int vh1), some (.int (rI h 165 ((Int32.toNatClampNeg (((150 + (4 * x4)) + 3)))))), none]) dX11_leads_253 (by decide) rfl ?_
            refine z_goto (pc := 255) (tgt := 36) dX11_leads_255 (by decide) ?_
            exact q_sub (ls' := [some (.ref 164), some (.int x1), some (.int x2), some (.int x3), some (.int vh1), none, none]) ⟨rfl, rfl, rfl, rfl, rfl, trivial⟩ F
          · replace F := F.2 k5
            by_cases k7 : rI h 165 ((Int32.toNatClampNeg (((150 + (4 * x4)) + 0)))) = 2
            · replace F := F.1 k7
              refine z_tableIn (pc := 95) (x := rI h 165 ((Int32.toNatClampNeg (((150 + (4 * x4)) + 0))))) (tgt := 204) (off := 109) dX11_leads_95 (by rw [k7]; decide) (by rw [k7]; decide) (by rw [k7]; decide) (by decide) ?_
              refine z_aload_n (pc := 204) dX11_leads_204 rfl rfl ?_
              refine z_iconst (pc := 205) (v := 2) dX11_leads_205 (by decide) ?_
              refine z_aload_n (pc := 206) dX11_leads_206 rfl rfl ?_
              refine q_getI (pc := 207) (v := rI h 164 12) dX11_leads_207 lk_RX11_204 (lyc rfl) ((rI_k (by decide)).trans (rI_k (by decide))) ?_
              refine z_imul (pc := 210) dX11_leads_210 ?_
              refine z_sipush (pc := 211) (v := 999) dX11_leads_211 (by decide) ?_
              refine z_icmp_le (pc := 214) (tgt := 223) dX11_leads_214 (by decide) (fun k10 => ?_) (fun k10 => ?_)
              · replace F := F.1 k10
                refine z_iconst (pc := 223) (v := 2) dX11_leads_223 (by decide) ?_
                refine z_aload_n (pc := 224) dX11_leads_224 rfl rfl ?_
                refine q_getI (pc := 225) (v := rI h 164 12) dX11_leads_225 lk_RX11_204 (lyc rfl) ((rI_k (by decide)).trans (rI_k (by decide))) ?_
                refine z_imul (pc := 228) dX11_leads_228 ?_
                refine q_putI (pc := 229) dX11_leads_229 lk_RX11_204 (lyc rfl) ?_
                refine z_goto (pc := 232) (tgt := 249) dX11_leads_232 (by decide) ?_
                refine z_aload_n (pc := 249) dX11_leads_249 rfl rfl ?_
                refine q_invV (pc := 250) (As := []) (st := []) dX11_leads_250 ok_X11_ruleFor ml_RX11_213 iv_X11_ruleFor pa_X11_ruleFor ⟨Nat.le_of_ble_eq_true rfl, Nat.le_of_ble_eq_true rfl⟩ (lyc rfl) (q_kI F (fun vh2 h2 F => ?_))
                obtain ⟨G2, F⟩ := F
                refine z_istore (pc := 253) (ls' := [some (.ref 164), some (.int x1), some (.int x2), some (.int x3), some (.int vh2), some (.int (rI h 165 ((Int32.toNatClampNeg (((150 + (4 * x4)) + 3)))))), none]) dX11_leads_253 (by decide) rfl ?_
                refine z_goto (pc := 255) (tgt := 36) dX11_leads_255 (by decide) ?_
                exact q_sub (ls' := [some (.ref 164), some (.int x1), some (.int x2), some (.int x3), some (.int vh2), none, none]) ⟨rfl, rfl, rfl, rfl, rfl, trivial⟩ F
              · replace F := F.2 k10
                refine z_sipush (pc := 217) (v := 999) dX11_leads_217 (by decide) ?_
                refine z_goto (pc := 220) (tgt := 229) dX11_leads_220 (by decide) ?_
                refine q_putI (pc := 229) dX11_leads_229 lk_RX11_204 (lyc rfl) ?_
                refine z_goto (pc := 232) (tgt := 249) dX11_leads_232 (by decide) ?_
                refine z_aload_n (pc := 249) dX11_leads_249 rfl rfl ?_
                refine q_invV (pc := 250) (As := []) (st := []) dX11_leads_250 ok_X11_ruleFor ml_RX11_213 iv_X11_ruleFor pa_X11_ruleFor ⟨Nat.le_of_ble_eq_true rfl, Nat.le_of_ble_eq_true rfl⟩ (lyc rfl) (q_kI F (fun vh3 h3 F => ?_))
                obtain ⟨G3, F⟩ := F
                refine z_istore (pc := 253) (ls' := [some (.ref 164), some (.int x1), some (.int x2), some (.int x3), some (.int vh3), some (.int (rI h 165 ((Int32.toNatClampNeg (((150 + (4 * x4)) + 3)))))), none]) dX11_leads_253 (by decide) rfl ?_
                refine z_goto (pc := 255) (tgt := 36) dX11_leads_255 (by decide) ?_
                exact q_sub (ls' := [some (.ref 164), some (.int x1), some (.int x2), some (.int x3), some (.int vh3), none, none]) ⟨rfl, rfl, rfl, rfl, rfl, trivial⟩ F
            · replace F := F.2 k7
              by_cases k11 : rI h 165 ((Int32.toNatClampNeg (((150 + (4 * x4)) + 0)))) = 3
              · replace F := F.1 k11
                refine z_tableIn (pc := 95) (x := rI h 165 ((Int32.toNatClampNeg (((150 + (4 * x4)) + 0))))) (tgt := 235) (off := 140) dX11_leads_95 (by rw [k11]; decide) (by rw [k11]; decide) (by rw [k11]; decide) (by decide) ?_
                refine z_aload_n (pc := 235) dX11_leads_235 rfl rfl ?_
                refine z_iload (pc := 236) dX11_leads_236 rfl ?_
                refine q_putI (pc := 238) dX11_leads_238 lk_RX11_201 (lyc rfl) ?_
                refine z_goto (pc := 241) (tgt := 249) dX11_leads_241 (by decide) ?_
                refine z_aload_n (pc := 249) dX11_leads_249 rfl rfl ?_
                refine q_invV (pc := 250) (As := []) (st := []) dX11_leads_250 ok_X11_ruleFor ml_RX11_213 iv_X11_ruleFor pa_X11_ruleFor ⟨Nat.le_of_ble_eq_true rfl, Nat.le_of_ble_eq_true rfl⟩ (lyc rfl) (q_kI F (fun vh4 h4 F => ?_))
                obtain ⟨G4, F⟩ := F
                refine z_istore (pc := 253) (ls' := [some (.ref 164), some (.int x1), some (.int x2), some (.int x3), some (.int vh4), some (.int (rI h 165 ((Int32.toNatClampNeg (((150 + (4 * x4)) + 3)))))), none]) dX11_leads_253 (by decide) rfl ?_
                refine z_goto (pc := 255) (tgt := 36) dX11_leads_255 (by decide) ?_
                exact q_sub (ls' := [some (.ref 164), some (.int x1), some (.int x2), some (.int x3), some (.int vh4), none, none]) ⟨rfl, rfl, rfl, rfl, rfl, trivial⟩ F
              · replace F := F.2 k11
                have hz0 := q_sw (0) k3 (by decide)
                have hz1 := q_sw (1) k5 (by decide)
                have hz2 := q_sw (2) k7 (by decide)
                have hz3 := q_sw (3) k11 (by decide)
                refine z_tableOut (pc := 95) (tgt := 244) dX11_leads_95 (by omega) (by decide) ?_
                refine z_aload_n (pc := 244) dX11_leads_244 rfl rfl ?_
                refine z_iconst (pc := 245) (v := 1) dX11_leads_245 (by decide) ?_
                refine q_putB (pc := 246) dX11_leads_246 lk_RX11_210 (lyc rfl) (Or.inr rfl) ?_
                refine z_aload_n (pc := 249) dX11_leads_249 rfl rfl ?_
                refine q_invV (pc := 250) (As := []) (st := []) dX11_leads_250 ok_X11_ruleFor ml_RX11_213 iv_X11_ruleFor pa_X11_ruleFor ⟨Nat.le_of_ble_eq_true rfl, Nat.le_of_ble_eq_true rfl⟩ (lyc rfl) (q_kI F (fun vh5 h5 F => ?_))
                obtain ⟨G5, F⟩ := F
                refine z_istore (pc := 253) (ls' := [some (.ref 164), some (.int x1), some (.int x2), some (.int x3), some (.int vh5), some (.int (rI h 165 ((Int32.toNatClampNeg (((150 + (4 * x4)) + 3)))))), none]) dX11_leads_253 (by decide) rfl ?_
                refine z_goto (pc := 255) (tgt := 36) dX11_leads_255 (by decide) ?_
                exact q_sub (ls' := [some (.ref 164), some (.int x1), some (.int x2), some (.int x3), some (.int vh5), none, none]) ⟨rfl, rfl, rfl, rfl, rfl, trivial⟩ F
theorem g_X11_leads_142 {x1 : Int32} {x2 : Int32} {x3 : Int32} {x4 : Int32} {x5 : Int32} {xs0 : Int32} {h : zHp} {Q : zHp → Prop}  (G : zG h) (F : vp_in ((150 + (4 * x4)) + 3) 246 ∧ ((x3 = 0 → (zcI M_X11_ruleFor [.ref 164] (wI (wI h 164 12 ((rI h 164 12) - xs0)) 165 ((Int32.toNatClampNeg ((150 + (4 * x4)) + 3))) ((rI h 165 ((Int32.toNatClampNeg ((150 + (4 * x4)) + 3)))) - 0)) (fun vh1 h1 => zG h1 ∧ (zlV M_X11_leads 36 [some (.ref 164), some (.int x1), some (.int x2), some (.int x3), some (.int vh1), none, none] [] h1 Q)))) ∧ (¬ (x3 = 0) → (zcI M_X11_ruleFor [.ref 164] (wI (wI h 164 12 ((rI h 164 12) - xs0)) 165 ((Int32.toNatClampNeg ((150 + (4 * x4)) + 3))) ((rI h 165 ((Int32.toNatClampNeg ((150 + (4 * x4)) + 3)))) - xs0)) (fun vh2 h2 => zG h2 ∧ (zlV M_X11_leads 36 [some (.ref 164), some (.int x1), some (.int x2), some (.int x3), some (.int vh2), none, none] [] h2 Q)))))) : zlV M_X11_leads 142 [some (.ref 164), some (.int x1), some (.int x2), some (.int x3), some (.int x4), some (.int x5), none] [.int xs0] h Q := by
  refine z_istore (pc := 142) (ls' := [some (.ref 164), some (.int x1), some (.int x2), some (.int x3), some (.int x4), some (.int x5), some (.int xs0)]) dX11_leads_142 (by decide) rfl ?_
  refine z_aload_n (pc := 144) dX11_leads_144 rfl rfl ?_
  refine z_dup (pc := 145) dX11_leads_145 rfl ?_
  refine q_getI (pc := 146) (v := rI h 164 12) dX11_leads_146 lk_RX11_204 (lyc rfl) rfl ?_
  refine z_iload (pc := 149) dX11_leads_149 rfl ?_
  refine z_isub (pc := 151) dX11_leads_151 ?_
  refine q_putI (pc := 152) dX11_leads_152 lk_RX11_204 (lyc rfl) ?_
  refine z_aload_n (pc := 155) dX11_leads_155 rfl rfl ?_
  refine q_getR (pc := 156) (i := 165) dX11_leads_156 lk_RX11_7 (lyc rfl) (G 164 0 165 rfl) ?_
  refine z_sipush (pc := 159) (v := 150) dX11_leads_159 (by decide) ?_
  refine z_iconst (pc := 162) (v := 4) dX11_leads_162 (by decide) ?_
  refine z_iload (pc := 163) dX11_leads_163 rfl ?_
  refine z_imul (pc := 165) dX11_leads_165 ?_
  refine z_iadd (pc := 166) dX11_leads_166 ?_
  refine z_iconst (pc := 167) (v := 3) dX11_leads_167 (by decide) ?_
  refine z_iadd (pc := 168) dX11_leads_168 ?_
  refine z_dup2 (pc := 169) dX11_leads_169 rfl rfl ?_
  obtain ⟨k1, F⟩ := F
  refine q_iald (pc := 170) (j := (Int32.toNatClampNeg ((150 + (4 * x4)) + 3))) (v := rI h 165 ((Int32.toNatClampNeg ((150 + (4 * x4)) + 3)))) dX11_leads_170 (lyc rfl) (zvn (lnc rfl) k1) rfl (rI_c (by decide)) ?_
  refine z_iload_n (pc := 171) dX11_leads_171 rfl rfl ?_
  refine z_if_eq (pc := 172) (tgt := 180) dX11_leads_172 (by decide) (fun k4 => ?_) (fun k4 => ?_)
  · replace F := F.1 k4
    refine z_iconst (pc := 180) (v := 0) dX11_leads_180 (by decide) ?_
    refine z_isub (pc := 181) dX11_leads_181 ?_
    refine q_iast (pc := 182) (j := (Int32.toNatClampNeg ((150 + (4 * x4)) + 3))) dX11_leads_182 (lyc rfl) (zvn (lnc rfl) k1) rfl ?_
    refine z_goto (pc := 183) (tgt := 249) dX11_leads_183 (by decide) ?_
    refine z_aload_n (pc := 249) dX11_leads_249 rfl rfl ?_
    refine q_invV (pc := 250) (As := []) (st := []) dX11_leads_250 ok_X11_ruleFor ml_RX11_213 iv_X11_ruleFor pa_X11_ruleFor ⟨Nat.le_of_ble_eq_true rfl, Nat.le_of_ble_eq_true rfl⟩ (lyc rfl) (q_kI F (fun vh1 h1 F => ?_))
    obtain ⟨G1, F⟩ := F
    refine z_istore (pc := 253) (ls' := [some (.ref 164), some (.int x1), some (.int x2), some (.int x3), some (.int vh1), some (.int x5), some (.int xs0)]) dX11_leads_253 (by decide) rfl ?_
    refine z_goto (pc := 255) (tgt := 36) dX11_leads_255 (by decide) ?_
    exact q_sub (ls' := [some (.ref 164), some (.int x1), some (.int x2), some (.int x3), some (.int vh1), none, none]) ⟨rfl, rfl, rfl, rfl, rfl, trivial⟩ F
  · replace F := F.2 k4
    refine z_iload (pc := 175) dX11_leads_175 rfl ?_
    refine z_goto (pc := 177) (tgt := 181) dX11_leads_177 (by decide) ?_
    refine z_isub (pc := 181) dX11_leads_181 ?_
    refine q_iast (pc := 182) (j := (Int32.toNatClampNeg ((150 + (4 * x4)) + 3))) dX11_leads_182 (lyc rfl) (zvn (lnc rfl) k1) rfl ?_
    refine z_goto (pc := 183) (tgt := 249) dX11_leads_183 (by decide) ?_
    refine z_aload_n (pc := 249) dX11_leads_249 rfl rfl ?_
    refine q_invV (pc := 250) (As := []) (st := []) dX11_leads_250 ok_X11_ruleFor ml_RX11_213 iv_X11_ruleFor pa_X11_ruleFor ⟨Nat.le_of_ble_eq_true rfl, Nat.le_of_ble_eq_true rfl⟩ (lyc rfl) (q_kI F (fun vh2 h2 F => ?_))
    obtain ⟨G2, F⟩ := F
    refine z_istore (pc := 253) (ls' := [some (.ref 164), some (.int x1), some (.int x2), some (.int x3), some (.int vh2), some (.int x5), some (.int xs0)]) dX11_leads_253 (by decide) rfl ?_
    refine z_goto (pc := 255) (tgt := 36) dX11_leads_255 (by decide) ?_
    exact q_sub (ls' := [some (.ref 164), some (.int x1), some (.int x2), some (.int x3), some (.int vh2), none, none]) ⟨rfl, rfl, rfl, rfl, rfl, trivial⟩ F
theorem fL.of {h h' : zHp} {c : Nat} {X D : zN} (m : MkS h h' X D c) : fL h h' := ⟨m.1, fun a z1 _ z3 z4 z5 => m.2.1 a z1 z3 z4 z5, fun k hk _ => m.2.2.1 k hk⟩
theorem wI_s1 {h : zHp} {c k : Nat} {v : Int32} {f : zN} (e : h.1 c = f) : (wI h c k v).1 c = upd f k v := by
  rw [wI_wA, wA_s, e]
/-- the reference's way -/
theorem s_X11_leads {fl n : Int32} {N : zN} {t : Nat} {h : zHp} (G : zG h) (hC : CN N) (hN : h.1 165 = N) (hO : WO N) (ht : t < cT N) (al : Al N t) : zcV M_X11_leads [.ref 164, .int (nI t), .int n, .int fl] h (fun h' => fL h h' ∧ WM h' fl N (Wy N (Mk N 5).1 8 (t, n, 0, 0, fun _ => 0, 0)) ∧ Mm h' N ∧ WK N (Wy N (Mk N 5).1 8 (t, n, 0, 0, fun _ => 0, 0))) := by
  have h8 := hC.1.2
  have r8 := hC.2.2.1.2
  have mk := s_X11_makes (u := 5) G (by show zCt (h.1 165 238) 8; rw [hN]; exact hC.t) (by show zCt (h.1 165 239) 10; rw [hN]; exact hC.e) (by omega)
  rw [show nI 5 = (5 : Int32) from rfl] at mk
  refine g_X11_leads G (zcV_then mk (fun h1 m1 => ⟨zG_of m1.1 G, ?_⟩))
  have eN1 : h1.1 165 = N := m1.n.trans hN
  have f1 : fL h h1 := fL.of m1
  rw [hN] at m1
  have hrq : rq (cT N) (h1.1 168) (Mk N 5).1 := by have := m1.2.2.2.2.1; rw [hN] at this; exact this
  have mm1 : Mm h1 N := ⟨m1.2.2.2.1, hrq, m1.2.2.2.2.2⟩
  rw [← Wy_rq hC hrq 8 (t, n, 0, 0, fun _ => 0, 0) ht al]
  clear m1 mk
  generalize hL : h1.1 168 = L at *
  -- what holds at each head
  have inv : ∀ h', fL h h' → h'.1 168 = h1.1 168 → h'.1 170 = h1.1 170 → rI h' 164 7 = rI h1 164 7 → Mm h' N := by
    intro h' _ e1 e2 e3
    refine ⟨by rw [e3]; exact mm1.1, by rw [e1]; exact mm1.2.1, fun i hi => by rw [e2]; exact mm1.2.2 i hi⟩
  have loop : ∀ (m : Nat) (h' : zHp) (s : Wst), nb (cR N) (fun r => ¬ bi s.2.2.2.1 (nI r)) ≤ m → fL h h' → h'.1 168 = h1.1 168 → h'.1 170 = h1.1 170 → rI h' 164 7 = rI h1 164 7 → WM h' fl N s → WK N s → s.1 < cT N → Al N s.1 → zlV M_X11_leads 36 [some (.ref 164), some (.int (nI t)), some (.int n), some (.int fl), some (.int (Pk N L s.2.2.2.1 s.1 (cR N))), none, none] [] h' (fun h' => fL h h' ∧ WM h' fl N (Wy N L m s) ∧ Mm h' N ∧ WK N (Wy N L m s)) := by
    intro m
    induction m with
    | zero =>
      intro h' s hm f e1 e2 e3 w k h2 h3
      have p1 : Pk N L s.2.2.2.1 s.1 (cR N) = -1 := by
        rcases Pk_in (N := N) (L := L) (us := s.2.2.2.1) (t := s.1) (cR N) with z | ⟨r, hr, er, ok⟩
        · exact z
        · exact absurd ok.1 ((nb_0 (p := fun r => ¬ bi s.2.2.2.1 (nI r))).mp (by omega) r hr)
      have fin : fL h h' ∧ WM h' fl N (Wy N L 0 s) ∧ Mm h' N ∧ WK N (Wy N L 0 s) := ⟨f, w, inv h' f e1 e2 e3, k⟩
      exact g_X11_leads_36 (zG_of f.1 G) ⟨fun _ => fin, fun _ => ⟨fun _ => fin, fun _ => ⟨fun _ => fin, fun q => absurd p1 q⟩⟩⟩
    | succ m ih =>
      intro h' s hm f e1 e2 e3 w k h2 h3
      obtain ⟨w1, w2, w3, w4, w5, w6⟩ := w
      have stop : ¬ (¬ s.2.1 ≤ 0 ∧ s.2.2.1 = 0 ∧ ¬ Pk N L s.2.2.2.1 s.1 (cR N) = -1) → fL h h' ∧ WM h' fl N (Wy N L (m + 1) s) ∧ Mm h' N ∧ WK N (Wy N L (m + 1) s) := fun q => by
        rw [Wy_0 q]
        exact ⟨f, ⟨w1, w2, w3, w4, w5, w6⟩, inv h' f e1 e2 e3, k⟩
      refine g_X11_leads_36 (zG_of f.1 G) ?_
      rw [w2, w3, w4, w6]
      refine ⟨fun q => stop (fun z => z.1 q), fun q => ⟨fun q1 => stop (fun z => q1 z.2.1), fun q1 => ⟨fun q2 => stop (fun z => z.2.2 q2), fun q2 => ?_⟩⟩⟩
      rcases Pk_in (N := N) (L := L) (us := s.2.2.2.1) (t := s.1) (cR N) with z | ⟨r, hr, er, ok⟩
      · exact absurd z q2
      rw [Wy_1 ⟨q, q1, q2⟩, er, nI_clamp (by omega)]
      have k0 : s.2.2.2.2.1 r = 0 := Classical.byContradiction (fun z => ok.1 (k r (by omega) z).2)
      obtain ⟨i0, i1, i2, i3⟩ := ixR' (e := r) (by omega)
      obtain ⟨b1, b2, b3⟩ := Ws_at hC ok h2 h3
      have cnt := Ws_n (N := N) r8 hr ok.1
      have v0 : rI h' 165 (150 + 4 * r) = N (150 + 4 * r) := by show h'.1 165 _ = _; rw [w5]; exact Sp_r (k := 0) (by omega)
      have v3 : rI h' 165 (150 + 4 * r + 3) = N (150 + 4 * r + 3) := by show h'.1 165 _ = _; rw [w5]; exact Sp_v0 k0
      have nk : ¬ N (150 + 4 * r) = 0 → Sp fl N s.2.2.2.2.1 = Sp fl N (Ws N r s).2.2.2.2.1 := by
        intro z
        show _ = Sp fl N (upd s.2.2.2.2.1 r _)
        rw [if_neg z, upd_id k0.symm]
      -- the next rule is looked for
      have next : ∀ h2', h2'.2 = h'.2 → (∀ a, a ≠ 164 → a ≠ 165 → h2'.1 a = h'.1 a) → (∀ j, (j < 11 ∨ 15 < j) → h2'.1 164 j = h'.1 164 j) → WM h2' fl N (Ws N r s) → zcI M_X11_ruleFor [.ref 164] h2' (fun vh2 h2 => zG h2 ∧ zlV M_X11_leads 36 [some (.ref 164), some (.int (nI t)), some (.int n), some (.int fl), some (.int vh2), none, none] [] h2 (fun h' => fL h h' ∧ WM h' fl N (Wy N L m (Ws N r s)) ∧ Mm h' N ∧ WK N (Wy N L m (Ws N r s)))) := by
        intro h2' g1 g2 g3 ww
        have f2 : fL h h2' := ⟨g1.trans f.1, fun a z1 z2 z3 z4 z5 => (g2 a z1 z2).trans (f.2.1 a z1 z2 z3 z4 z5), fun j z1 z2 => (g3 j z2).trans (f.2.2 j z1 z2)⟩
        obtain ⟨c1, c2, -, c4, -⟩ := Sp_CN (fl := fl) (kp := (Ws N r s).2.2.2.2.1) hC
        have eL : h2'.1 168 = L := (g2 168 (by decide) (by decide)).trans (e1.trans hL)
        have kk := Ws_K (r := r) (by omega) k
        have rf := s_X11_ruleFor (N := Sp fl N (Ws N r s).2.2.2.2.1) (us := (Ws N r s).2.2.2.1) (t := (Ws N r s).1) (zG_of f2.1 G) c1 ww.2.2.2.2.1 (by rw [c2]; exact b1) (by rw [Sp_hi (Or.inl (by omega))]; exact hO _ b1) ww.1 ww.2.2.2.1
        rw [c4, eL, Pk_Sp hC b1 hO (fun r hr z => (kk r hr z).1) (cR N) r8] at rf
        refine zcI_use rf ⟨zG_of f2.1 G, ?_⟩
        exact ih h2' _ (by omega) f2 ((g2 168 (by decide) (by decide)).trans e1) ((g2 170 (by decide) (by decide)).trans e2) ((g3 7 (by omega)).trans e3) ww kk b1 b2
      have pl : ∀ (x : Int32) (k : Nat), (11 ≤ k ∧ k ≤ 15 ∧ k ≠ 13 ∧ k ≠ 14) → (nI (Ws N r s).1 = if k = 11 then x else nI s.1) → ((Ws N r s).2.1 = if k = 12 then x else s.2.1) → ((Ws N r s).2.2.1 = if k = 15 then x else s.2.2.1) → ¬ N (150 + 4 * r) = 0 → zcI M_X11_ruleFor [.ref 164] (wI (wI (wI h' 164 13 (s.2.2.2.1 ||| ((1 : Int32) <<< (nI r &&& 31)))) 164 14 (nI s.2.2.2.2.2 + 1)) 164 k x) (fun vh2 h2 => zG h2 ∧ zlV M_X11_leads 36 [some (.ref 164), some (.int (nI t)), some (.int n), some (.int fl), some (.int vh2), none, none] [] h2 (fun h' => fL h h' ∧ WM h' fl N (Wy N L m (Ws N r s)) ∧ Mm h' N ∧ WK N (Wy N L m (Ws N r s)))) := by
        intro x k hk y1 y2 y3 n0
        refine next _ rfl (fun a z1 _ => by rw [wI_ne z1, wI_ne z1, wI_ne z1]) (fun j hj => ?_) ⟨?_, ?_, ?_, ?_, ?_, ?_⟩
        · show rI _ 164 j = _
          rw [rI_k (by omega), rI_k (by omega), rI_k (by omega)]
          rfl
        · rw [y1]
          by_cases z : k = 11
          · rw [if_pos z, z, rI_s]
          · rw [if_neg z, rI_k (fun y => z y.symm), rI_k (by decide), rI_k (by decide), w1]
        · rw [y2]
          by_cases z : k = 12
          · rw [if_pos z, z, rI_s]
          · rw [if_neg z, rI_k (fun y => z y.symm), rI_k (by decide), rI_k (by decide), w2]
        · rw [y3]
          by_cases z : k = 15
          · rw [if_pos z, z, rI_s]
          · rw [if_neg z, rI_k (fun y => z y.symm), rI_k (by decide), rI_k (by decide), w3]
        · rw [rI_k (by omega), rI_k (by decide), rI_s]
          rfl
        · rw [wI_ne (by decide), wI_ne (by decide), wI_ne (by decide), w5]
          exact nk n0
        · rw [rI_k (by omega), rI_s, nI_1]
          rfl
      have zero : N (150 + 4 * r) = 0 → ∀ x, x = mnI s.2.1 (N (150 + 4 * r + 3)) → zlV M_X11_leads 142 [some (.ref 164), some (.int (nI t)), some (.int n), some (.int fl), some (.int (nI r)), some (.int (N (150 + 4 * r + 3))), none] [.int x] (wI (wI h' 164 13 (s.2.2.2.1 ||| ((1 : Int32) <<< (nI r &&& 31)))) 164 14 (nI s.2.2.2.2.2 + 1)) (fun h' => fL h h' ∧ WM h' fl N (Wy N L m (Ws N r s)) ∧ Mm h' N ∧ WK N (Wy N L m (Ws N r s))) := by
        intro n0 x hx
        have e12 : rI (wI (wI h' 164 13 (s.2.2.2.1 ||| ((1 : Int32) <<< (nI r &&& 31)))) 164 14 (nI s.2.2.2.2.2 + 1)) 164 12 = s.2.1 := by rw [rI_k (by decide), rI_k (by decide), w2]
        have e165 : rI (wI (wI h' 164 13 (s.2.2.2.1 ||| ((1 : Int32) <<< (nI r &&& 31)))) 164 14 (nI s.2.2.2.2.2 + 1)) 165 (150 + 4 * r + 3) = N (150 + 4 * r + 3) := by rw [rI_c (by decide), rI_c (by decide), v3]
        refine g_X11_leads_142 (zG_of f.1 G) ?_
        rw [i3.2, e12, e165]
        have go : ∀ y, upd (Sp fl N s.2.2.2.2.1) (150 + 4 * r + 3) y = Sp fl N (Ws N r s).2.2.2.2.1 → zcI M_X11_ruleFor [.ref 164] (wI (wI (wI (wI h' 164 13 (s.2.2.2.1 ||| ((1 : Int32) <<< (nI r &&& 31)))) 164 14 (nI s.2.2.2.2.2 + 1)) 164 12 (s.2.1 - x)) 165 (150 + 4 * r + 3) y) (fun vh2 h2 => zG h2 ∧ zlV M_X11_leads 36 [some (.ref 164), some (.int (nI t)), some (.int n), some (.int fl), some (.int vh2), none, none] [] h2 (fun h' => fL h h' ∧ WM h' fl N (Wy N L m (Ws N r s)) ∧ Mm h' N ∧ WK N (Wy N L m (Ws N r s)))) := by
          intro y hy
          refine next _ rfl (fun a z1 z2 => by rw [wI_ne z2, wI_ne z1, wI_ne z1, wI_ne z1]) (fun j hj => ?_) ⟨?_, ?_, ?_, ?_, ?_, ?_⟩
          · show rI _ 164 j = _
            rw [rI_c (by decide), rI_k (by omega), rI_k (by omega), rI_k (by omega)]
            rfl
          · rw [rI_c (by decide), rI_k (by decide), rI_k (by decide), rI_k (by decide), w1]
            unfold Ws; dsimp only; rw [if_neg (by rw [n0]; decide)]
          · rw [rI_c (by decide), rI_s, hx]
            unfold Ws; dsimp only; rw [if_pos n0]
          · rw [rI_c (by decide), rI_k (by decide), rI_k (by decide), rI_k (by decide), w3]
            unfold Ws; dsimp only; rw [if_pos (Or.inl n0)]
          · rw [rI_c (by decide), rI_k (by decide), rI_k (by decide), rI_s]
            rfl
          · rw [← hy, wI_s1 (by rw [wI_ne (by decide), wI_ne (by decide), wI_ne (by decide), w5])]
          · rw [rI_c (by decide), rI_k (by decide), rI_s, nI_1]
            rfl
        refine ⟨i3.1, fun z => ?_, fun z => ?_⟩
        · refine go _ ?_
          rw [Int32.sub_zero, z, Sp_0, Sp_0, upd_id rfl]
        · refine go _ ?_
          rw [Sp_up (by omega) z k0]
          show _ = Sp fl N (upd s.2.2.2.2.1 r _)
          rw [if_pos n0, hx]
      rw [i0.2, i3.2, v0, v3]
      refine ⟨i3.1, i0.1, fun p0 => ⟨fun y => zero p0 _ ?_, fun y => zero p0 _ ?_⟩, fun p0 => ⟨fun p1 => ?_, fun p1 => ⟨fun p2 => ⟨fun y => ?_, fun y => ?_⟩, fun p2 => ⟨fun p3 => ?_, fun p3 => ?_⟩⟩⟩⟩
      · unfold mnI; rw [if_pos y]
      · unfold mnI; rw [if_neg y]
      · refine pl _ 12 (by decide) ?_ ?_ ?_ p0
        · unfold Ws; dsimp only; rw [if_neg (by rw [p1]; decide), if_neg (by decide)]
        · unfold Ws; dsimp only; rw [if_neg p0, if_pos p1, if_pos rfl]
        · unfold Ws; dsimp only; rw [if_pos (Or.inr (Or.inl p1)), if_neg (by decide)]
      · refine pl _ 12 (by decide) ?_ ?_ ?_ p0
        · unfold Ws; dsimp only; rw [if_neg (by rw [p2]; decide), if_neg (by decide)]
        · unfold Ws; dsimp only; rw [if_neg p0, if_neg p1, if_pos p2, if_pos y, if_pos rfl]
        · unfold Ws; dsimp only; rw [if_pos (Or.inr (Or.inr (Or.inl p2))), if_neg (by decide)]
      · refine pl _ 12 (by decide) ?_ ?_ ?_ p0
        · unfold Ws; dsimp only; rw [if_neg (by rw [p2]; decide), if_neg (by decide)]
        · unfold Ws; dsimp only; rw [if_neg p0, if_neg p1, if_pos p2, if_neg y, if_pos rfl]
        · unfold Ws; dsimp only; rw [if_pos (Or.inr (Or.inr (Or.inl p2))), if_neg (by decide)]
      · refine pl _ 11 (by decide) ?_ ?_ ?_ p0
        · rw [← b3 p3, if_pos rfl]
        · unfold Ws; dsimp only; rw [if_neg p0, if_neg p1, if_neg p2, if_neg (by decide)]
        · unfold Ws; dsimp only; rw [if_pos (Or.inr (Or.inr (Or.inr p3))), if_neg (by decide)]
      · refine pl _ 15 (by decide) ?_ ?_ ?_ p0
        · unfold Ws; dsimp only; rw [if_neg p3, if_neg (by decide)]
        · unfold Ws; dsimp only; rw [if_neg p0, if_neg p1, if_neg p2, if_neg (by decide)]
        · unfold Ws; dsimp only; rw [if_neg (fun z => z.elim p0 (fun z => z.elim p1 (fun z => z.elim p2 p3))), if_pos rfl]
  have fz : fL h (wI (wI (wI (wI (wI h1 164 11 (nI t)) 164 12 n) 164 13 0) 164 14 0) 164 15 0) := ⟨f1.1, fun a z1 z2 z3 z4 z5 => by rw [wI_ne z1, wI_ne z1, wI_ne z1, wI_ne z1, wI_ne z1]; exact f1.2.1 a z1 z2 z3 z4 z5, fun k z1 z2 => by
    show rI _ 164 k = _
    rw [rI_k (by omega), rI_k (by omega), rI_k (by omega), rI_k (by omega), rI_k (by omega)]
    exact f1.2.2 k z1 z2⟩
  have rf := s_X11_ruleFor (N := N) (us := 0) (t := t) (h := wI (wI (wI (wI (wI h1 164 11 (nI t)) 164 12 n) 164 13 0) 164 14 0) 164 15 0) (zG_of fz.1 G) hC (by rw [wI_ne (by decide), wI_ne (by decide), wI_ne (by decide), wI_ne (by decide), wI_ne (by decide)]; exact eN1) ht (hO _ ht) (by rw [rI_k (by decide), rI_k (by decide), rI_k (by decide), rI_k (by decide), rI_s]) (by rw [rI_k (by decide), rI_k (by decide), rI_s])
  rw [wI_ne (by decide), wI_ne (by decide), wI_ne (by decide), wI_ne (by decide), wI_ne (by decide), hL] at rf
  refine zcI_use rf ⟨zG_of fz.1 G, ?_⟩
  refine loop 8 _ (t, n, 0, 0, fun _ => 0, 0) (Nat.le_trans nb_le r8) fz (by rw [wI_ne (by decide), wI_ne (by decide), wI_ne (by decide), wI_ne (by decide), wI_ne (by decide)]) (by rw [wI_ne (by decide), wI_ne (by decide), wI_ne (by decide), wI_ne (by decide), wI_ne (by decide)]) (by rw [rI_k (by decide), rI_k (by decide), rI_k (by decide), rI_k (by decide), rI_k (by decide)]) ⟨?_, ?_, ?_, ?_, ?_, ?_⟩ (fun r _ z => absurd rfl z) ht al
  · rw [rI_k (by decide), rI_k (by decide), rI_k (by decide), rI_k (by decide), rI_s]
  · rw [rI_k (by decide), rI_k (by decide), rI_k (by decide), rI_s]
  · rw [rI_s]
  · rw [rI_k (by decide), rI_k (by decide), rI_s]
  · rw [wI_ne (by decide), wI_ne (by decide), wI_ne (by decide), wI_ne (by decide), wI_ne (by decide), eN1]
    exact Sp_z.symm
  · rw [rI_k (by decide), rI_s]
    rfl

