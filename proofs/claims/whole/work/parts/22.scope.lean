/-! what things are by effects: pure words; the reference's methods against them -/
abbrev zN : Type := Nat → Int32
def cT (N : zN) : Nat := (N 238).toNatClampNeg
def cE (N : zN) : Nat := (N 239).toNatClampNeg
def cR (N : zN) : Nat := (N 240).toNatClampNeg
def cV (N : zN) : Nat := (N 241).toNatClampNeg
def Al (N : zN) (t : Nat) : Prop := N (10 * t + 5) = 1
/-- thing t is in the scope (w, x), with what things are by the row L -/
def Sc (N L : zN) (w x : Int32) (t : Nat) : Prop := Al N t ∧ pIn (N (10 * t)) (L (4 * t)) (L (4 * t + 1)) (nI t) w x
theorem ix4 {t k : Nat} (ht : t < 8) (hk : k < 4) : vp_in ((4 * nI t) + nI k) 32 ∧ ((4 * nI t) + nI k).toNatClampNeg = 4 * t + k := by
  have e : (4 * nI t) + nI k = nI (4 * t + k) := by
    rw [show (4 : Int32) = nI 4 from rfl, pk_mul, nI_add]
  rw [e]
  exact ⟨vp_in_nI (by omega) (by omega), nI_clamp (by omega)⟩
theorem ix40 {t : Nat} (ht : t < 8) : vp_in (4 * nI t) 32 ∧ (4 * nI t).toNatClampNeg = 4 * t := by
  have e : 4 * nI t = nI (4 * t) := by
    rw [show (4 : Int32) = nI 4 from rfl, pk_mul]
  rw [e]
  exact ⟨vp_in_nI (by omega) (by omega), nI_clamp (by omega)⟩
theorem aliveM_nI {h : zHp} {j n : Nat} (hn : rI h 165 238 = nI n) (hb : n ≤ 8) (hj : j < n) : aliveM h (nI j) ↔ Al (h.1 165) j := by
  unfold aliveM Al
  rw [hn, nI_clamp (by omega)]
  constructor
  · exact fun q => q.2
  · exact fun q => ⟨zsm2 (by omega) hj, q⟩
theorem g_X11_inScope {c1 : Nat} {x2 : Int32} {x3 : Int32} {h : zHp} {Q : Int32 → zHp → Prop} (hc1 : zRow c1) (G : zG h) (F : zlI M_X11_inScope 6 [some (.ref 164), some (.ref c1), some (.int x2), some (.int x3), some (.int 0), some (.int 0), none] [] h Q) : zcI M_X11_inScope [.ref 164, .ref c1, .int x2, .int x3] h Q := by
  show zw zNT zNT M_X11_inScope 0 [some (.ref 164), some (.ref c1), some (.int x2), some (.int x3), none, none, none] [] h _
  refine z_iconst (pc := 0) (v := 0) dX11_inScope_0 (by decide) ?_
  refine z_istore (pc := 1) (ls' := [some (.ref 164), some (.ref c1), some (.int x2), some (.int x3), some (.int 0), none, none]) dX11_inScope_1 (by decide) rfl ?_
  refine z_iconst (pc := 3) (v := 0) dX11_inScope_3 (by decide) ?_
  refine z_istore (pc := 4) (ls' := [some (.ref 164), some (.ref c1), some (.int x2), some (.int x3), some (.int 0), some (.int 0), none]) dX11_inScope_4 (by decide) rfl ?_
  exact F
theorem g_X11_inScope_6 {c1 : Nat} {x2 : Int32} {x3 : Int32} {x4 : Int32} {x5 : Int32} {h : zHp} {Q : Int32 → zHp → Prop} (hc1 : zRow c1) (G : zG h) (F : (rI h 165 238 ≤ x5 → (Q x4 h)) ∧ (¬ (rI h 165 238 ≤ x5) → ((x2 = 0 → (zlI M_X11_inScope 117 [some (.ref 164), some (.ref c1), some (.int x2), some (.int x3), some (.int x4), some (.int x5), none] [.int 1] h Q)) ∧ (¬ (x2 = 0) → ((¬ x2 = 1 → ((¬ x2 = 2 → ((¬ x2 = 3 → ((¬ x2 = 4 → ((¬ x5 = x3 → (zlI M_X11_inScope 117 [some (.ref 164), some (.ref c1), some (.int x2), some (.int x3), some (.int x4), some (.int x5), none] [.int 0] h Q)) ∧ (x5 = x3 → (zlI M_X11_inScope 117 [some (.ref 164), some (.ref c1), some (.int x2), some (.int x3), some (.int x4), some (.int x5), none] [.int 1] h Q)))) ∧ (x2 = 4 → (vp_in ((4 * x5) + 1) 32 ∧ (((bi (rI h c1 ((Int32.toNatClampNeg ((4 * x5) + 1)))) x3) → (zlI M_X11_inScope 117 [some (.ref 164), some (.ref c1), some (.int x2), some (.int x3), some (.int x4), some (.int x5), none] [.int 0] h Q)) ∧ (¬ (bi (rI h c1 ((Int32.toNatClampNeg ((4 * x5) + 1)))) x3) → (zlI M_X11_inScope 117 [some (.ref 164), some (.ref c1), some (.int x2), some (.int x3), some (.int x4), some (.int x5), none] [.int 1] h Q))))))) ∧ (x2 = 3 → (vp_in ((4 * x5) + 1) 32 ∧ ((¬ (bi (rI h c1 ((Int32.toNatClampNeg ((4 * x5) + 1)))) x3) → (zlI M_X11_inScope 117 [some (.ref 164), some (.ref c1), some (.int x2), some (.int x3), some (.int x4), some (.int x5), none] [.int 0] h Q)) ∧ ((bi (rI h c1 ((Int32.toNatClampNeg ((4 * x5) + 1)))) x3) → (zlI M_X11_inScope 117 [some (.ref 164), some (.ref c1), some (.int x2), some (.int x3), some (.int x4), some (.int x5), none] [.int 1] h Q))))))) ∧ (x2 = 2 → (vp_in (4 * x5) 32 ∧ ((¬ rI h c1 ((Int32.toNatClampNeg (4 * x5))) = x3 → (zlI M_X11_inScope 117 [some (.ref 164), some (.ref c1), some (.int x2), some (.int x3), some (.int x4), some (.int x5), none] [.int 0] h Q)) ∧ (rI h c1 ((Int32.toNatClampNeg (4 * x5))) = x3 → (zlI M_X11_inScope 117 [some (.ref 164), some (.ref c1), some (.int x2), some (.int x3), some (.int x4), some (.int x5), none] [.int 1] h Q))))))) ∧ (x2 = 1 → (vp_in ((0 + (10 * x5)) + 0) 246 ∧ ((¬ rI h 165 ((Int32.toNatClampNeg (((0 + (10 * x5)) + 0)))) = x3 → (zlI M_X11_inScope 117 [some (.ref 164), some (.ref c1), some (.int x2), some (.int x3), some (.int x4), some (.int x5), none] [.int 0] h Q)) ∧ (rI h 165 ((Int32.toNatClampNeg (((0 + (10 * x5)) + 0)))) = x3 → (zlI M_X11_inScope 117 [some (.ref 164), some (.ref c1), some (.int x2), some (.int x3), some (.int x4), some (.int x5), none] [.int 1] h Q)))))))))) : zlI M_X11_inScope 6 [some (.ref 164), some (.ref c1), some (.int x2), some (.int x3), some (.int x4), some (.int x5), none] [] h Q := by
  refine z_iload (pc := 6) dX11_inScope_6 rfl ?_
  refine z_aload_n (pc := 8) dX11_inScope_8 rfl rfl ?_
  refine q_getR (pc := 9) (i := 165) dX11_inScope_9 lk_RX11_7 (lyc rfl) (G 164 0 165 rfl) ?_
  refine z_sipush (pc := 12) (v := 238) dX11_inScope_12 (by decide) ?_
  refine q_iald (pc := 15) (j := 238) (v := rI h 165 238) dX11_inScope_15 (lyc rfl) (zvl (lnc rfl) (by decide)) (by decide) rfl ?_
  refine z_icmp_ge (pc := 16) (tgt := 152) dX11_inScope_16 (by decide) (fun k15 => ?_) (fun k15 => ?_)
  · replace F := F.1 k15
    refine z_iload (pc := 152) dX11_inScope_152 rfl ?_
    exact q_retI (pc := 154) dX11_inScope_154 rfl F
  · replace F := F.2 k15
    refine z_iload_n (pc := 19) dX11_inScope_19 rfl rfl ?_
    refine z_if_eq (pc := 20) (tgt := 112) dX11_inScope_20 (by decide) (fun k14 => ?_) (fun k14 => ?_)
    · replace F := F.1 k14
      refine z_iconst (pc := 112) (v := 1) dX11_inScope_112 (by decide) ?_
      refine z_goto (pc := 113) (tgt := 117) dX11_inScope_113 (by decide) ?_
      exact F
    · replace F := F.2 k14
      refine z_iload_n (pc := 23) dX11_inScope_23 rfl rfl ?_
      refine z_iconst (pc := 24) (v := 1) dX11_inScope_24 (by decide) ?_
      refine z_icmp_ne (pc := 25) (tgt := 42) dX11_inScope_25 (by decide) (fun k13 => ?_) (fun k13 => ?_)
      · replace F := F.1 k13
        refine z_iload_n (pc := 42) dX11_inScope_42 rfl rfl ?_
        refine z_iconst (pc := 43) (v := 2) dX11_inScope_43 (by decide) ?_
        refine z_icmp_ne (pc := 44) (tgt := 60) dX11_inScope_44 (by decide) (fun k10 => ?_) (fun k10 => ?_)
        · replace F := F.1 k10
          refine z_iload_n (pc := 60) dX11_inScope_60 rfl rfl ?_
          refine z_iconst (pc := 61) (v := 3) dX11_inScope_61 (by decide) ?_
          refine z_icmp_ne (pc := 62) (tgt := 83) dX11_inScope_62 (by decide) (fun k7 => ?_) (fun k7 => ?_)
          · replace F := F.1 k7
            refine z_iload_n (pc := 83) dX11_inScope_83 rfl rfl ?_
            refine z_iconst (pc := 84) (v := 4) dX11_inScope_84 (by decide) ?_
            refine z_icmp_ne (pc := 85) (tgt := 106) dX11_inScope_85 (by decide) (fun k4 => ?_) (fun k4 => ?_)
            · replace F := F.1 k4
              refine z_iload (pc := 106) dX11_inScope_106 rfl ?_
              refine z_iload_n (pc := 108) dX11_inScope_108 rfl rfl ?_
              refine z_icmp_ne (pc := 109) (tgt := 116) dX11_inScope_109 (by decide) (fun k1 => ?_) (fun k1 => ?_)
              · replace F := F.1 k1
                refine z_iconst (pc := 116) (v := 0) dX11_inScope_116 (by decide) ?_
                exact F
              · replace F := F.2 k1
                refine z_iconst (pc := 112) (v := 1) dX11_inScope_112 (by decide) ?_
                refine z_goto (pc := 113) (tgt := 117) dX11_inScope_113 (by decide) ?_
                exact F
            · replace F := F.2 k4
              refine z_aload_n (pc := 88) dX11_inScope_88 rfl rfl ?_
              refine z_iconst (pc := 89) (v := 4) dX11_inScope_89 (by decide) ?_
              refine z_iload (pc := 90) dX11_inScope_90 rfl ?_
              refine z_imul (pc := 92) dX11_inScope_92 ?_
              refine z_iconst (pc := 93) (v := 1) dX11_inScope_93 (by decide) ?_
              refine z_iadd (pc := 94) dX11_inScope_94 ?_
              obtain ⟨k2, F⟩ := F
              refine q_iald (pc := 95) (j := (Int32.toNatClampNeg ((4 * x5) + 1))) (v := rI h c1 ((Int32.toNatClampNeg ((4 * x5) + 1)))) dX11_inScope_95 (lyRow0 hc1) (zvn (lnRow0 hc1) k2) rfl rfl ?_
              refine z_iload_n (pc := 96) dX11_inScope_96 rfl rfl ?_
              refine q_invS (pc := 97) (As := [.int (rI h c1 ((Int32.toNatClampNeg ((4 * x5) + 1)))), .int x3]) (st := []) dX11_inScope_97 ok_X11_has ml_RX11_96 st_X11_has pa_X11_has ⟨Nat.le_of_ble_eq_true rfl, Nat.le_of_ble_eq_true rfl⟩ (q_pI (s_X11_has G) rfl ?_)
              refine z_if_ne (pc := 100) (tgt := 116) dX11_inScope_100 (by decide) (fun k3 => ?_) (fun k3 => ?_)
              · replace F := F.1 (zbn.mp k3)
                refine z_iconst (pc := 116) (v := 0) dX11_inScope_116 (by decide) ?_
                exact F
              · replace F := F.2 (zb0.mp k3)
                refine z_goto (pc := 103) (tgt := 112) dX11_inScope_103 (by decide) ?_
                refine z_iconst (pc := 112) (v := 1) dX11_inScope_112 (by decide) ?_
                refine z_goto (pc := 113) (tgt := 117) dX11_inScope_113 (by decide) ?_
                exact F
          · replace F := F.2 k7
            refine z_aload_n (pc := 65) dX11_inScope_65 rfl rfl ?_
            refine z_iconst (pc := 66) (v := 4) dX11_inScope_66 (by decide) ?_
            refine z_iload (pc := 67) dX11_inScope_67 rfl ?_
            refine z_imul (pc := 69) dX11_inScope_69 ?_
            refine z_iconst (pc := 70) (v := 1) dX11_inScope_70 (by decide) ?_
            refine z_iadd (pc := 71) dX11_inScope_71 ?_
            obtain ⟨k5, F⟩ := F
            refine q_iald (pc := 72) (j := (Int32.toNatClampNeg ((4 * x5) + 1))) (v := rI h c1 ((Int32.toNatClampNeg ((4 * x5) + 1)))) dX11_inScope_72 (lyRow0 hc1) (zvn (lnRow0 hc1) k5) rfl rfl ?_
            refine z_iload_n (pc := 73) dX11_inScope_73 rfl rfl ?_
            refine q_invS (pc := 74) (As := [.int (rI h c1 ((Int32.toNatClampNeg ((4 * x5) + 1)))), .int x3]) (st := []) dX11_inScope_74 ok_X11_has ml_RX11_96 st_X11_has pa_X11_has ⟨Nat.le_of_ble_eq_true rfl, Nat.le_of_ble_eq_true rfl⟩ (q_pI (s_X11_has G) rfl ?_)
            refine z_if_eq (pc := 77) (tgt := 116) dX11_inScope_77 (by decide) (fun k6 => ?_) (fun k6 => ?_)
            · replace F := F.1 (zb0.mp k6)
              refine z_iconst (pc := 116) (v := 0) dX11_inScope_116 (by decide) ?_
              exact F
            · replace F := F.2 (zbn.mp k6)
              refine z_goto (pc := 80) (tgt := 112) dX11_inScope_80 (by decide) ?_
              refine z_iconst (pc := 112) (v := 1) dX11_inScope_112 (by decide) ?_
              refine z_goto (pc := 113) (tgt := 117) dX11_inScope_113 (by decide) ?_
              exact F
        · replace F := F.2 k10
          refine z_aload_n (pc := 47) dX11_inScope_47 rfl rfl ?_
          refine z_iconst (pc := 48) (v := 4) dX11_inScope_48 (by decide) ?_
          refine z_iload (pc := 49) dX11_inScope_49 rfl ?_
          refine z_imul (pc := 51) dX11_inScope_51 ?_
          obtain ⟨k8, F⟩ := F
          refine q_iald (pc := 52) (j := (Int32.toNatClampNeg (4 * x5))) (v := rI h c1 ((Int32.toNatClampNeg (4 * x5)))) dX11_inScope_52 (lyRow0 hc1) (zvn (lnRow0 hc1) k8) rfl rfl ?_
          refine z_iload_n (pc := 53) dX11_inScope_53 rfl rfl ?_
          refine z_icmp_ne (pc := 54) (tgt := 116) dX11_inScope_54 (by decide) (fun k9 => ?_) (fun k9 => ?_)
          · replace F := F.1 k9
            refine z_iconst (pc := 116) (v := 0) dX11_inScope_116 (by decide) ?_
            exact F
          · replace F := F.2 k9
            refine z_goto (pc := 57) (tgt := 112) dX11_inScope_57 (by decide) ?_
            refine z_iconst (pc := 112) (v := 1) dX11_inScope_112 (by decide) ?_
            refine z_goto (pc := 113) (tgt := 117) dX11_inScope_113 (by decide) ?_
            exact F
      · replace F := F.2 k13
        refine z_aload_n (pc := 28) dX11_inScope_28 rfl rfl ?_
        refine z_iload (pc := 29) dX11_inScope_29 rfl ?_
        refine z_iconst (pc := 31) (v := 0) dX11_inScope_31 (by decide) ?_
        obtain ⟨k11, F⟩ := F
        refine q_invV (pc := 32) (As := [.int x5, .int 0]) (st := []) dX11_inScope_32 ok_X11_its ml_RX11_92 iv_X11_its pa_X11_its ⟨Nat.le_of_ble_eq_true rfl, Nat.le_of_ble_eq_true rfl⟩ (lyc rfl) (q_pI (s_X11_its G k11) rfl ?_)
        refine z_iload_n (pc := 35) dX11_inScope_35 rfl rfl ?_
        refine z_icmp_ne (pc := 36) (tgt := 116) dX11_inScope_36 (by decide) (fun k12 => ?_) (fun k12 => ?_)
        · replace F := F.1 k12
          refine z_iconst (pc := 116) (v := 0) dX11_inScope_116 (by decide) ?_
          exact F
        · replace F := F.2 k12
          refine z_goto (pc := 39) (tgt := 112) dX11_inScope_39 (by decide) ?_
          refine z_iconst (pc := 112) (v := 1) dX11_inScope_112 (by decide) ?_
          refine z_goto (pc := 113) (tgt := 117) dX11_inScope_113 (by decide) ?_
          exact F
theorem g_X11_inScope_117 {c1 : Nat} {x2 : Int32} {x3 : Int32} {x4 : Int32} {x5 : Int32} {xs0 : Int32} {h : zHp} {Q : Int32 → zHp → Prop} (hc1 : zRow c1) (G : zG h) (F : (xs0 = 0 → (zlI M_X11_inScope 6 [some (.ref 164), some (.ref c1), some (.int x2), some (.int x3), some (.int (x4 ||| 0)), some (.int (x5 + 1)), none] [] h Q)) ∧ (¬ (xs0 = 0) → (zCt (rI h 165 238) 8 ∧ ((¬ (aliveM h x5) → (zlI M_X11_inScope 6 [some (.ref 164), some (.ref c1), some (.int x2), some (.int x3), some (.int (x4 ||| 0)), some (.int (x5 + 1)), none] [] h Q)) ∧ ((aliveM h x5) → (zlI M_X11_inScope 6 [some (.ref 164), some (.ref c1), some (.int x2), some (.int x3), some (.int (x4 ||| (1 <<< (x5 &&& 31)))), some (.int (x5 + 1)), none] [] h Q)))))) : zlI M_X11_inScope 117 [some (.ref 164), some (.ref c1), some (.int x2), some (.int x3), some (.int x4), some (.int x5), none] [.int xs0] h Q := by
  refine z_istore (pc := 117) (ls' := [some (.ref 164), some (.ref c1), some (.int x2), some (.int x3), some (.int x4), some (.int x5), some (.int xs0)]) dX11_inScope_117 (by decide) rfl ?_
  refine z_iload (pc := 119) dX11_inScope_119 rfl ?_
  refine z_iload (pc := 121) dX11_inScope_121 rfl ?_
  refine z_if_eq (pc := 123) (tgt := 142) dX11_inScope_123 (by decide) (fun k3 => ?_) (fun k3 => ?_)
  · replace F := F.1 k3
    refine z_iconst (pc := 142) (v := 0) dX11_inScope_142 (by decide) ?_
    refine z_ior (pc := 143) dX11_inScope_143 ?_
    refine z_istore (pc := 144) (ls' := [some (.ref 164), some (.ref c1), some (.int x2), some (.int x3), some (.int (x4 ||| 0)), some (.int x5), some (.int xs0)]) dX11_inScope_144 (by decide) rfl ?_
    refine z_iinc (pc := 146) (v := x5 + 1) (ls' := [some (.ref 164), some (.ref c1), some (.int x2), some (.int x3), some (.int (x4 ||| 0)), some (.int (x5 + 1)), some (.int xs0)]) dX11_inScope_146 (by decide) rfl rfl rfl ?_
    refine z_goto (pc := 149) (tgt := 6) dX11_inScope_149 (by decide) ?_
    exact q_sub (ls' := [some (.ref 164), some (.ref c1), some (.int x2), some (.int x3), some (.int (x4 ||| 0)), some (.int (x5 + 1)), none]) ⟨rfl, rfl, rfl, rfl, rfl, rfl, trivial⟩ F
  · replace F := F.2 k3
    refine z_aload_n (pc := 126) dX11_inScope_126 rfl rfl ?_
    refine z_iload (pc := 127) dX11_inScope_127 rfl ?_
    obtain ⟨k1, F⟩ := F
    refine q_invV (pc := 129) (As := [.int x5]) (st := [.int x4]) dX11_inScope_129 ok_X11_isAlive ml_RX11_100 iv_X11_isAlive pa_X11_isAlive ⟨Nat.le_of_ble_eq_true rfl, Nat.le_of_ble_eq_true rfl⟩ (lyc rfl) (q_pI (s_X11_isAlive G k1) rfl ?_)
    refine z_if_eq (pc := 132) (tgt := 142) dX11_inScope_132 (by decide) (fun k2 => ?_) (fun k2 => ?_)
    · replace F := F.1 (zb0.mp k2)
      refine z_iconst (pc := 142) (v := 0) dX11_inScope_142 (by decide) ?_
      refine z_ior (pc := 143) dX11_inScope_143 ?_
      refine z_istore (pc := 144) (ls' := [some (.ref 164), some (.ref c1), some (.int x2), some (.int x3), some (.int (x4 ||| 0)), some (.int x5), some (.int xs0)]) dX11_inScope_144 (by decide) rfl ?_
      refine z_iinc (pc := 146) (v := x5 + 1) (ls' := [some (.ref 164), some (.ref c1), some (.int x2), some (.int x3), some (.int (x4 ||| 0)), some (.int (x5 + 1)), some (.int xs0)]) dX11_inScope_146 (by decide) rfl rfl rfl ?_
      refine z_goto (pc := 149) (tgt := 6) dX11_inScope_149 (by decide) ?_
      exact q_sub (ls' := [some (.ref 164), some (.ref c1), some (.int x2), some (.int x3), some (.int (x4 ||| 0)), some (.int (x5 + 1)), none]) ⟨rfl, rfl, rfl, rfl, rfl, rfl, trivial⟩ F
    · replace F := F.2 (zbn.mp k2)
      refine z_iconst (pc := 135) (v := 1) dX11_inScope_135 (by decide) ?_
      refine z_iload (pc := 136) dX11_inScope_136 rfl ?_
      refine z_ishl (pc := 138) dX11_inScope_138 ?_
      refine z_goto (pc := 139) (tgt := 143) dX11_inScope_139 (by decide) ?_
      refine z_ior (pc := 143) dX11_inScope_143 ?_
      refine z_istore (pc := 144) (ls' := [some (.ref 164), some (.ref c1), some (.int x2), some (.int x3), some (.int (x4 ||| (1 <<< (x5 &&& 31)))), some (.int x5), some (.int xs0)]) dX11_inScope_144 (by decide) rfl ?_
      refine z_iinc (pc := 146) (v := x5 + 1) (ls' := [some (.ref 164), some (.ref c1), some (.int x2), some (.int x3), some (.int (x4 ||| (1 <<< (x5 &&& 31)))), some (.int (x5 + 1)), some (.int xs0)]) dX11_inScope_146 (by decide) rfl rfl rfl ?_
      refine z_goto (pc := 149) (tgt := 6) dX11_inScope_149 (by decide) ?_
      exact q_sub (ls' := [some (.ref 164), some (.ref c1), some (.int x2), some (.int x3), some (.int (x4 ||| (1 <<< (x5 &&& 31)))), some (.int (x5 + 1)), none]) ⟨rfl, rfl, rfl, rfl, rfl, rfl, trivial⟩ F
theorem s_X11_inScope {c : Nat} {w x : Int32} {h : zHp} (G : zG h) (hc : zRow c) (k : zCt (rI h 165 238) 8) : zcI M_X11_inScope [.ref 164, .ref c, .int w, .int x] h (fun r h' => r = mask (cT (h.1 165)) (Sc (h.1 165) (h.1 c) w x) ∧ h' = h) := by
  obtain ⟨n, hn, en⟩ := k
  have ec : cT (h.1 165) = n := by unfold cT; rw [show h.1 165 238 = nI n from en, nI_clamp (by omega)]
  rw [ec]
  have loop : ∀ (m j : Nat), j + m = n → zlI M_X11_inScope 6 [some (.ref 164), some (.ref c), some (.int w), some (.int x), some (.int (mask j (Sc (h.1 165) (h.1 c) w x))), some (.int (nI j)), none] [] h (fun r h' => r = mask n (Sc (h.1 165) (h.1 c) w x) ∧ h' = h) := by
    intro m
    induction m with
    | zero =>
      intro j hj
      have : j = n := by omega
      subst this
      exact g_X11_inScope_6 hc G ⟨fun _ => ⟨rfl, rfl⟩, fun q => absurd (by rw [en]; exact Int32.le_refl _) q⟩
    | succ m ih =>
      intro j hj
      have hj8 : j < 8 := by omega
      have step : ∀ b : Int32, (¬ b = 0 ↔ pIn (h.1 165 (10 * j)) (h.1 c (4 * j)) (h.1 c (4 * j + 1)) (nI j) w x) → zlI M_X11_inScope 117 [some (.ref 164), some (.ref c), some (.int w), some (.int x), some (.int (mask j (Sc (h.1 165) (h.1 c) w x))), some (.int (nI j)), none] [.int b] h (fun r h' => r = mask n (Sc (h.1 165) (h.1 c) w x) ∧ h' = h) := by
        intro b hb
        have nx := ih (j + 1) (by omega)
        rw [← nI_1] at nx
        refine g_X11_inScope_117 hc G ⟨fun q => ?_, fun q => ⟨⟨n, hn, en⟩, fun q2 => ?_, fun q2 => ?_⟩⟩
        · rw [mask_s0 (fun z => (hb.mpr z.2) q)] at nx
          exact nx
        · rw [mask_s0 (fun z => q2 ((aliveM_nI en hn (by omega)).mpr z.1))] at nx
          exact nx
        · rw [mask_s1 ⟨(aliveM_nI en hn (by omega)).mp q2, hb.mp q⟩] at nx
          exact nx
      have i0 := ix40 (t := j) hj8
      have i1 := ix4 (t := j) (k := 1) hj8 (by omega)
      have iT := ixT (t := j) (k := 0) hj8 (by omega)
      rw [show nI 1 = (1 : Int32) from rfl] at i1
      rw [show nI 0 = (0 : Int32) from rfl] at iT
      refine g_X11_inScope_6 hc G ⟨fun q => absurd q (by rw [en]; exact nI_ge (by omega) (by omega)), fun _ => ?_⟩
      rw [i0.2, i1.2, iT.2]
      simp only [Nat.add_zero]
      have a0 := i0.1
      have a1 := i1.1
      have aT := iT.1
      repeat' (first | exact a0 | exact a1 | exact aT | refine step _ ?_ | refine And.intro ?_ ?_ | intro _)
      all_goals (unfold pIn; simp_all [rI])
  have := loop n 0 (by omega)
  exact g_X11_inScope hc G this

