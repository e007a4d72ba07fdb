/-! calls: text -/
theorem g_X10_text  {h : zHp} {Q : Int32 → zHp → Prop}  (G : zG h) (F : zcV M_X3_readAll [.ref 141, .int (10 - (rI h 2 3))] h (fun h1 => zG h1 ∧ ((rI h1 141 8 < 0 → (zlI M_X10_text 48 [some (.ref 0), some (.int 0)] [] (wI h1 141 1 0) Q)) ∧ (¬ (rI h1 141 8 < 0) → (Q ((-100) - (rI h1 141 8)) (wI h1 141 1 0)))))) : zcI M_X10_text [.ref 0] h Q := by
  show zw zNT zNT M_X10_text 0 [some (.ref 0), none] [] h _
  refine z_aload_n (pc := 0) dX10_text_0 rfl rfl ?_
  refine q_getR (pc := 1) (i := 141) dX10_text_1 lk_RX10_53 (lyc rfl) (G 0 8 141 rfl) ?_
  refine z_bipush (pc := 4) (v := 10) dX10_text_4 (by decide) ?_
  refine z_aload_n (pc := 6) dX10_text_6 rfl rfl ?_
  refine q_getR (pc := 7) (i := 2) dX10_text_7 lk_RX10_20 (lyc rfl) (G 0 1 2 rfl) ?_
  refine q_getI (pc := 10) (v := rI h 2 3) dX10_text_10 lk_RX10_161 (lyc rfl) rfl ?_
  refine z_isub (pc := 13) dX10_text_13 ?_
  refine q_invV (pc := 14) (As := [.int (10 - (rI h 2 3))]) (st := []) dX10_text_14 ok_X3_readAll ml_RX10_308 iv_X3_readAll pa_X3_readAll ⟨Nat.le_of_ble_eq_true rfl, Nat.le_of_ble_eq_true rfl⟩ (lyc rfl) (q_kV F (fun h1 F => ?_))
  obtain ⟨G1, F⟩ := F
  refine z_aload_n (pc := 17) dX10_text_17 rfl rfl ?_
  refine q_getR (pc := 18) (i := 141) dX10_text_18 lk_RX10_53 (lyc rfl) (G1 0 8 141 rfl) ?_
  refine z_iconst (pc := 21) (v := 0) dX10_text_21 (by decide) ?_
  refine q_putI (pc := 22) dX10_text_22 lk_RX10_301 (lyc rfl) ?_
  refine z_aload_n (pc := 25) dX10_text_25 rfl rfl ?_
  refine q_getR (pc := 26) (i := 141) dX10_text_26 lk_RX10_53 (lyc rfl) (G1 0 8 141 rfl) ?_
  refine q_getI (pc := 29) (v := rI h1 141 8) dX10_text_29 lk_RX10_311 (lyc rfl) (rI_k (by decide)) ?_
  refine z_if_lt (pc := 32) (tgt := 46) dX10_text_32 (by decide) (fun k2 => ?_) (fun k2 => ?_)
  · replace F := F.1 k2
    refine z_iconst (pc := 46) (v := 0) dX10_text_46 (by decide) ?_
    refine z_istore_n (pc := 47) (ls' := [some (.ref 0), some (.int 0)]) dX10_text_47 rfl (by decide) rfl ?_
    exact F
  · replace F := F.2 k2
    refine z_bipush (pc := 35) (v := -100) dX10_text_35 (by decide) ?_
    refine z_aload_n (pc := 37) dX10_text_37 rfl rfl ?_
    refine q_getR (pc := 38) (i := 141) dX10_text_38 lk_RX10_53 (lyc rfl) (G1 0 8 141 rfl) ?_
    refine q_getI (pc := 41) (v := rI h1 141 8) dX10_text_41 lk_RX10_311 (lyc rfl) (rI_k (by decide)) ?_
    refine z_isub (pc := 44) dX10_text_44 ?_
    exact q_retI (pc := 45) dX10_text_45 rfl F
theorem g_X10_text_48 {x1 : Int32} {h : zHp} {Q : Int32 → zHp → Prop}  (G : zG h) (F : (rI h 141 7 ≤ x1 → (zcV M_X0_settle [.ref 1, .int 0] h (fun h1 => zG h1 ∧ (Q (rI h1 141 7) h1)))) ∧ (¬ (rI h 141 7 ≤ x1) → ((10 ≤ rI h 2 3 → (zcV M_X0_settle [.ref 1, .int 0] h (fun h2 => zG h2 ∧ (Q (rI h2 141 7) h2)))) ∧ (¬ (10 ≤ rI h 2 3) → (vp_in (rI h 2 3) 10 ∧ (zRef h 4 ((Int32.toNatClampNeg (rI h 2 3))) 2 ∧ (vp_in x1 10 ∧ (zcV M_X1_copyFrom [.ref (rG h 4 ((Int32.toNatClampNeg (rI h 2 3)))), .ref (144 + (Int32.toNatClampNeg x1))] h (fun h3 => zG h3 ∧ (zlI M_X10_text 48 [some (.ref 0), some (.int (x1 + 1))] [] (wI h3 2 3 ((rI h3 2 3) + 1)) Q)))))))))) : zlI M_X10_text 48 [some (.ref 0), some (.int x1)] [] h Q := by
  refine z_iload_n (pc := 48) dX10_text_48 rfl rfl ?_
  refine z_aload_n (pc := 49) dX10_text_49 rfl rfl ?_
  refine q_getR (pc := 50) (i := 141) dX10_text_50 lk_RX10_53 (lyc rfl) (G 0 8 141 rfl) ?_
  refine q_getI (pc := 53) (v := rI h 141 7) dX10_text_53 lk_RX10_314 (lyc rfl) rfl ?_
  refine z_icmp_ge (pc := 56) (tgt := 117) dX10_text_56 (by decide) (fun k8 => ?_) (fun k8 => ?_)
  · replace F := F.1 k8
    refine z_aload_n (pc := 117) dX10_text_117 rfl rfl ?_
    refine q_getR (pc := 118) (i := 1) dX10_text_118 lk_RX10_10 (lyc rfl) (G 0 0 1 rfl) ?_
    refine z_iconst (pc := 121) (v := 0) dX10_text_121 (by decide) ?_
    refine q_invV (pc := 122) (As := [.int 0]) (st := []) dX10_text_122 ok_X0_settle ml_RX10_90 iv_X0_settle pa_X0_settle ⟨Nat.le_of_ble_eq_true rfl, Nat.le_of_ble_eq_true rfl⟩ (lyc rfl) (q_kV F (fun h1 F => ?_))
    obtain ⟨G1, F⟩ := F
    refine z_aload_n (pc := 125) dX10_text_125 rfl rfl ?_
    refine q_getR (pc := 126) (i := 141) dX10_text_126 lk_RX10_53 (lyc rfl) (G1 0 8 141 rfl) ?_
    refine q_getI (pc := 129) (v := rI h1 141 7) dX10_text_129 lk_RX10_314 (lyc rfl) rfl ?_
    exact q_retI (pc := 132) dX10_text_132 rfl F
  · replace F := F.2 k8
    refine z_aload_n (pc := 59) dX10_text_59 rfl rfl ?_
    refine q_getR (pc := 60) (i := 2) dX10_text_60 lk_RX10_20 (lyc rfl) (G 0 1 2 rfl) ?_
    refine q_getI (pc := 63) (v := rI h 2 3) dX10_text_63 lk_RX10_161 (lyc rfl) rfl ?_
    refine z_bipush (pc := 66) (v := 10) dX10_text_66 (by decide) ?_
    refine z_icmp_ge (pc := 68) (tgt := 117) dX10_text_68 (by decide) (fun k7 => ?_) (fun k7 => ?_)
    · replace F := F.1 k7
      refine z_aload_n (pc := 117) dX10_text_117 rfl rfl ?_
      refine q_getR (pc := 118) (i := 1) dX10_text_118 lk_RX10_10 (lyc rfl) (G 0 0 1 rfl) ?_
      refine z_iconst (pc := 121) (v := 0) dX10_text_121 (by decide) ?_
      refine q_invV (pc := 122) (As := [.int 0]) (st := []) dX10_text_122 ok_X0_settle ml_RX10_90 iv_X0_settle pa_X0_settle ⟨Nat.le_of_ble_eq_true rfl, Nat.le_of_ble_eq_true rfl⟩ (lyc rfl) (q_kV F (fun h2 F => ?_))
      obtain ⟨G2, F⟩ := F
      refine z_aload_n (pc := 125) dX10_text_125 rfl rfl ?_
      refine q_getR (pc := 126) (i := 141) dX10_text_126 lk_RX10_53 (lyc rfl) (G2 0 8 141 rfl) ?_
      refine q_getI (pc := 129) (v := rI h2 141 7) dX10_text_129 lk_RX10_314 (lyc rfl) rfl ?_
      exact q_retI (pc := 132) dX10_text_132 rfl F
    · replace F := F.2 k7
      refine z_aload_n (pc := 71) dX10_text_71 rfl rfl ?_
      refine q_getR (pc := 72) (i := 2) dX10_text_72 lk_RX10_20 (lyc rfl) (G 0 1 2 rfl) ?_
      refine q_getR (pc := 75) (i := 4) dX10_text_75 lk_RX10_164 (lyc rfl) (G 2 2 4 rfl) ?_
      refine z_aload_n (pc := 78) dX10_text_78 rfl rfl ?_
      refine q_getR (pc := 79) (i := 2) dX10_text_79 lk_RX10_20 (lyc rfl) (G 0 1 2 rfl) ?_
      refine q_getI (pc := 82) (v := rI h 2 3) dX10_text_82 lk_RX10_161 (lyc rfl) rfl ?_
      obtain ⟨k3, F⟩ := F
      obtain ⟨k4, F⟩ := F
      refine q_aald (pc := 85) (j := (Int32.toNatClampNeg (rI h 2 3))) (r := rG h 4 ((Int32.toNatClampNeg (rI h 2 3)))) (t := 1) dX10_text_85 (lyc rfl) (zvn (lnc rfl) k3) rfl k4.1 ?_
      refine z_aload_n (pc := 86) dX10_text_86 rfl rfl ?_
      refine q_getR (pc := 87) (i := 141) dX10_text_87 lk_RX10_53 (lyc rfl) (G 0 8 141 rfl) ?_
      refine q_getR (pc := 90) (i := 143) dX10_text_90 lk_RX10_317 (lyc rfl) (G 141 6 143 rfl) ?_
      refine z_iload_n (pc := 93) dX10_text_93 rfl rfl ?_
      obtain ⟨k5, F⟩ := F
      refine q_aald (pc := 94) (j := (Int32.toNatClampNeg x1)) (r := 144 + (Int32.toNatClampNeg x1)) (t := 1) dX10_text_94 (lyc rfl) (zvn (lnc rfl) k5) rfl (grP G (zvi k5)) ?_
      refine q_invV (pc := 95) (As := [.ref (144 + (Int32.toNatClampNeg x1))]) (st := []) dX10_text_95 ok_X1_copyFrom ml_RX10_320 iv_X1_copyFrom pa_X1_copyFrom ⟨Nat.le_of_ble_eq_true rfl, Nat.le_of_ble_eq_true rfl⟩ k4.2 (q_kV F (fun h3 F => ?_))
      obtain ⟨G3, F⟩ := F
      refine z_aload_n (pc := 98) dX10_text_98 rfl rfl ?_
      refine q_getR (pc := 99) (i := 2) dX10_text_99 lk_RX10_20 (lyc rfl) (G3 0 1 2 rfl) ?_
      refine z_dup (pc := 102) dX10_text_102 rfl ?_
      refine q_getI (pc := 103) (v := rI h3 2 3) dX10_text_103 lk_RX10_161 (lyc rfl) rfl ?_
      refine z_iconst (pc := 106) (v := 1) dX10_text_106 (by decide) ?_
      refine z_iadd (pc := 107) dX10_text_107 ?_
      refine q_putI (pc := 108) dX10_text_108 lk_RX10_161 (lyc rfl) ?_
      refine z_iinc (pc := 111) (v := x1 + 1) (ls' := [some (.ref 0), some (.int (x1 + 1))]) dX10_text_111 (by decide) rfl rfl rfl ?_
      refine z_goto (pc := 114) (tgt := 48) dX10_text_114 (by decide) ?_
      exact F
theorem g_X11_text  {h : zHp} {Q : Int32 → zHp → Prop}  (G : zG h) (F : zcI M_X11_isText [.ref 164] h (fun vh1 h1 => zG h1 ∧ ((vh1 = 0 → (Q ((-100) - (rI h1 164 22)) (wI (wI h1 164 21 0) 165 239 (rI h 165 239)))) ∧ (¬ (vh1 = 0) → (zcI M_X11_changed [.ref 164, .int ((rI h1 165 239) - (rI h 165 239))] (wI h1 164 21 0) (fun vh2 h2 => zG h2 ∧ (Q vh2 h2))))))) : zcI M_X11_text [.ref 164] h Q := by
  show zw zNT zNT M_X11_text 0 [some (.ref 164), none, none] [] h _
  refine z_aload_n (pc := 0) dX11_text_0 rfl rfl ?_
  refine q_getR (pc := 1) (i := 165) dX11_text_1 lk_RX11_7 (lyc rfl) (G 164 0 165 rfl) ?_
  refine z_sipush (pc := 4) (v := 239) dX11_text_4 (by decide) ?_
  refine q_iald (pc := 7) (j := 239) (v := rI h 165 239) dX11_text_7 (lyc rfl) (zvl (lnc rfl) (by decide)) (by decide) rfl ?_
  refine z_istore_n (pc := 8) (ls' := [some (.ref 164), some (.int (rI h 165 239)), none]) dX11_text_8 rfl (by decide) rfl ?_
  refine z_aload_n (pc := 9) dX11_text_9 rfl rfl ?_
  refine q_invV (pc := 10) (As := []) (st := []) dX11_text_10 ok_X11_isText ml_RX11_288 iv_X11_isText pa_X11_isText ⟨Nat.le_of_ble_eq_true rfl, Nat.le_of_ble_eq_true rfl⟩ (lyc rfl) (q_kI F (fun vh1 h1 F => ?_))
  obtain ⟨G1, F⟩ := F
  refine z_istore_n (pc := 13) (ls' := [some (.ref 164), some (.int (rI h 165 239)), some (.int vh1)]) dX11_text_13 rfl (by decide) rfl ?_
  refine z_aload_n (pc := 14) dX11_text_14 rfl rfl ?_
  refine z_iconst (pc := 15) (v := 0) dX11_text_15 (by decide) ?_
  refine q_putI (pc := 16) dX11_text_16 lk_RX11_242 (lyc rfl) ?_
  refine z_iload_n (pc := 19) dX11_text_19 rfl rfl ?_
  refine z_if_eq (pc := 20) (tgt := 38) dX11_text_20 (by decide) (fun k3 => ?_) (fun k3 => ?_)
  · replace F := F.1 k3
    refine z_aload_n (pc := 38) dX11_text_38 rfl rfl ?_
    refine q_getR (pc := 39) (i := 165) dX11_text_39 lk_RX11_7 (lyc rfl) (G1 164 0 165 rfl) ?_
    refine z_sipush (pc := 42) (v := 239) dX11_text_42 (by decide) ?_
    refine z_iload_n (pc := 45) dX11_text_45 rfl rfl ?_
    refine q_iast (pc := 46) (j := 239) dX11_text_46 (lyc rfl) (zvl (lnc rfl) (by decide)) (by decide) ?_
    refine z_bipush (pc := 47) (v := -100) dX11_text_47 (by decide) ?_
    refine z_aload_n (pc := 49) dX11_text_49 rfl rfl ?_
    refine q_getI (pc := 50) (v := rI h1 164 22) dX11_text_50 lk_RX11_251 (lyc rfl) ((rI_k (by decide)).trans (rI_k (by decide))) ?_
    refine z_isub (pc := 53) dX11_text_53 ?_
    exact q_retI (pc := 54) dX11_text_54 rfl F
  · replace F := F.2 k3
    refine z_aload_n (pc := 23) dX11_text_23 rfl rfl ?_
    refine z_aload_n (pc := 24) dX11_text_24 rfl rfl ?_
    refine q_getR (pc := 25) (i := 165) dX11_text_25 lk_RX11_7 (lyc rfl) (G1 164 0 165 rfl) ?_
    refine z_sipush (pc := 28) (v := 239) dX11_text_28 (by decide) ?_
    refine q_iald (pc := 31) (j := 239) (v := rI h1 165 239) dX11_text_31 (lyc rfl) (zvl (lnc rfl) (by decide)) (by decide) (rI_k (by decide)) ?_
    refine z_iload_n (pc := 32) dX11_text_32 rfl rfl ?_
    refine z_isub (pc := 33) dX11_text_33 ?_
    refine q_invV (pc := 34) (As := [.int ((rI h1 165 239) - (rI h 165 239))]) (st := []) dX11_text_34 ok_X11_changed ml_RX11_167 iv_X11_changed pa_X11_changed ⟨Nat.le_of_ble_eq_true rfl, Nat.le_of_ble_eq_true rfl⟩ (lyc rfl) (q_kI F (fun vh2 h2 F => ?_))
    obtain ⟨G2, F⟩ := F
    exact q_retI (pc := 37) dX11_text_37 rfl F
noncomputable def aPs : zN → List Ph → zN
  | N, [] => N
  | N, ph :: l => aPs (aP N ph) l
/-- N' is N but for what stands in places of effects that aren't there -/
def ext (N N' : zN) : Prop := ∀ i, i ≠ 239 → (i < 80 + 7 * cE N ∨ 150 ≤ i) → N' i = N i
theorem aP_ad {N : zN} {ph : Ph} (hC : CN N) (h : cE N < 10) : adE N (aP N ph) := aE_ad hC h
theorem aP_ext {N N' : zN} {ph : Ph} (hC : CN N) (h : cE N < 10) (e : ext (aP N ph) N') : ext N N' := by
  obtain ⟨-, c1, -⟩ := adE_c hC h (aP_ad (ph := ph) hC h)
  intro i h1 h2
  rw [e i h1 (by rw [c1]; omega)]
  exact (aP_ad hC h).2 i h1 (by omega)
def RX (h h' : zHp) (N : zN) (x : Nat ⊕ List Ph) (r : Int32) : Prop := fMp h h' ∧ (∀ f, x = .inl f → r = 0 ∧ rI h' 164 22 = nI f ∧ ext N (h'.1 165)) ∧ (∀ l, x = .inr l → r = 1 ∧ h'.1 165 = aPs N l)
theorem s_X11_isText {T N : zN} {L : Nat} {h : zHp} (G : zG h) (tp : TpM h T L) (hC : CN N) (hN : h.1 165 = N) : zcI M_X11_isText [.ref 164] h (fun r h' => RX h h' N (TX T L 11 (10 - cE N) 0) r) := by
  have h10 := hC.2.1.2
  have loop : ∀ (m p : Nat) (N1 : zN) (h1 : zHp), 10 - cE N1 < m → p ≤ L → CN N1 → h1.1 165 = N1 → TpM h1 T L → zG h1 → TM h1 (Tk T L p) → zlI M_X11_isText 9 [some (.ref 164)] [] h1 (fun r h' => RX h1 h' N1 (TX T L m (10 - cE N1) p) r) := by
    intro m
    induction m with
    | zero => intro p N1 h1 hm; omega
    | succ m ih =>
      intro p N1 h1 hm hp c1 e1 tp1 G1 tm1
      have h10' := c1.2.1.2
      refine g_X11_isText_9 G1 (zcI_then (s_X11_isPhrase G1 tp1 tm1 hp c1 e1) (fun v h2 hh => ?_))
      obtain ⟨f2, a2, b2⟩ := hh
      have G2 := zG_of f2.1 G1
      rw [TX]
      have pb := PH_b (T := T) (room := decide (0 < 10 - cE N1)) hp
      cases ex : PH T L (decide (0 < 10 - cE N1)) p with
      | inl f =>
        obtain ⟨r0, e22, e165⟩ := a2 f ex
        refine ⟨G2, fun z => absurd r0 z, fun _ => ⟨f2, fun f' e => (by cases e; exact ⟨rfl, e22, fun i _ _ => by rw [e165]⟩), fun l e => by cases e⟩⟩
      | inr w =>
        obtain ⟨ph, q⟩ := w
        obtain ⟨r1, e165, tm2⟩ := b2 ph q ex
        obtain ⟨hq, okp, rt⟩ := pb.2 ph q ex
        have c10 : cE N1 < 10 := by have := of_decide_eq_true rt; omega
        obtain ⟨c2, n2, -⟩ := adE_c c1 c10 (aP_ad (ph := ph) c1 c10)
        have k5 := Tk_5 (T := T) (L := L) (p := q)
        have tb := Tk_b (T := T) hq
        have tt := tv_all (Tk T L q).2.1 (by omega)
        refine ⟨G2, fun _ => ?_, fun z => absurd (r1.symm.trans z) (by decide)⟩
        show (¬ rI h2 164 24 = 0 → (rI h2 164 24 = 59 → zcV M_X11_goesOn [.ref 164] h2 (fun h3 => zG h3 ∧ zlI M_X11_isText 9 [some (.ref 164)] [] h3 (fun r h' => RX h1 h' N1 (if (Tk T L q).2.1 = 0 then .inr [ph] else if (Tk T L q).2.1 = 3 then bd (TX T L m (10 - cE N1 - 1) (Tk T L q).2.2.1) (fun l => .inr (ph :: l)) else .inl (Tk T L q).1) r))) ∧ (¬ rI h2 164 24 = 59 → RX h1 h2 N1 (if (Tk T L q).2.1 = 0 then .inr [ph] else if (Tk T L q).2.1 = 3 then bd (TX T L m (10 - cE N1 - 1) (Tk T L q).2.2.1) (fun l => .inr (ph :: l)) else .inl (Tk T L q).1) 0)) ∧ (rI h2 164 24 = 0 → RX h1 h2 N1 (if (Tk T L q).2.1 = 0 then .inr [ph] else if (Tk T L q).2.1 = 3 then bd (TX T L m (10 - cE N1 - 1) (Tk T L q).2.2.1) (fun l => .inr (ph :: l)) else .inl (Tk T L q).1) 1)
        rw [tm2.2.2.1]
        refine ⟨fun z => ⟨fun y => ?_, fun y => ?_⟩, fun z => ?_⟩
        · have n0 : ¬ (Tk T L q).2.1 = 0 := fun x => z (tt.2.2.2.mpr x)
          have n3 := tt.2.2.1.mp y
          rw [if_neg n0, if_pos n3]
          refine zcV_then (s_X11_goesOn G2 (f2.t tp1) tb.2.1 tm2.2.1) (fun h3 hh => ⟨zG_of hh.1.1 G2, ?_⟩)
          obtain ⟨f3, tm3⟩ := hh
          have f13 : fMp h1 h3 := f2.tr f3.n.p
          have r := ih (Tk T L q).2.2.1 (aP N1 ph) h3 (by rw [n2]; omega) tb.2.1 c2 (by rw [f3.2.1 165 (by decide), e165]) (f13.t tp1) (zG_of f13.1 G1) tm3
          rw [n2, show 10 - (cE N1 + 1) = 10 - cE N1 - 1 by omega] at r
          refine zw.mono r (fun rr h4 hr => ?_)
          obtain ⟨v', rfl, f4, a4, b4⟩ := hr
          refine ⟨v', rfl, f13.tr f4, fun f e => ?_, fun l e => ?_⟩
          · cases et : TX T L m (10 - cE N1 - 1) (Tk T L q).2.2.1 with
            | inl f' =>
              rw [et] at e
              cases e
              obtain ⟨x1, x2, x3⟩ := a4 f et
              exact ⟨x1, x2, aP_ext c1 c10 x3⟩
            | inr l => rw [et] at e; cases e
          · cases et : TX T L m (10 - cE N1 - 1) (Tk T L q).2.2.1 with
            | inl f' => rw [et] at e; cases e
            | inr l' =>
              rw [et] at e
              cases e
              exact b4 l' et
        · have n0 : ¬ (Tk T L q).2.1 = 0 := fun x => z (tt.2.2.2.mpr x)
          have n3 : ¬ (Tk T L q).2.1 = 3 := fun x => y (tt.2.2.1.mpr x)
          rw [if_neg n0, if_neg n3]
          refine ⟨f2, fun f e => ?_, fun l e => by cases e⟩
          cases e
          exact ⟨rfl, tm2.1, aP_ext c1 c10 (fun i _ _ => by rw [e165])⟩
        · have n0 := tt.2.2.2.mp z
          rw [if_pos n0]
          refine ⟨f2, fun f e => (by cases e), fun l e => ?_⟩
          cases e
          exact ⟨rfl, e165⟩
  have f0 : fMp h (wI h 164 23 0) := ⟨rfl, fun a z1 _ _ => wI_ne z1, fun j hj => by show rI _ 164 j = rI h 164 j; rw [rI_k (by omega)]⟩
  refine g_X11_isText G (zcV_then (s_X11_goesOn (zG_of f0.1 G) (f0.t tp) (Nat.zero_le L) rI_s) (fun h1 hh => ⟨zG_of (hh.1.1.trans f0.1) G, ?_⟩))
  obtain ⟨f1, tm1⟩ := hh
  have f01 := f0.tr f1.n.p
  refine zw.mono (loop 11 0 N h1 (by omega) (Nat.zero_le L) hC (by rw [f1.2.1 165 (by decide), wI_ne (by decide), hN]) (f01.t tp) (zG_of f01.1 G) tm1) (fun rr h2 hr => ?_)
  obtain ⟨v, rfl, f2, a2, b2⟩ := hr
  exact ⟨v, rfl, f01.tr f2, a2, b2⟩
def eqX (N N' : zN) : Prop := ∀ i, (i < 80 + 7 * cE N ∨ 150 ≤ i) → N' i = N i
theorem eqX.s {N N' : zN} (hC : CN N) (h : eqX N N') : Sm N N' := ⟨fun i hi => h i (by omega), h _ (by omega), h _ (by omega), fun e k h1 h2 => h _ (by omega)⟩
theorem eqX.q {N N' : zN} (h : eqX N N') (q : IQ N) : IQ N' := by
  obtain ⟨hC, hQ, hS⟩ := q
  have h8 := hC.1.2
  have r8 := hC.2.2.1.2
  have v8 := hC.2.2.2.2
  have e1 : cT N' = cT N := by unfold cT; rw [h _ (by omega)]
  have e2 : cE N' = cE N := by unfold cE; rw [h _ (by omega)]
  have e3 : cR N' = cR N := by unfold cR; rw [h _ (by omega)]
  have e4 : cV N' = cV N := by unfold cV; rw [h _ (by omega)]
  refine ⟨⟨by rw [h _ (by omega), e1]; exact hC.1, by rw [h _ (by omega), e2]; exact hC.2.1, by rw [h _ (by omega), e3]; exact hC.2.2.1, by rw [h _ (by omega), e4]; exact hC.2.2.2⟩, ⟨fun t ht => ?_, fun t ht => ?_, fun t ht => ?_, fun t ht => ?_⟩, St_Sm hC (h.s hC) hS⟩
  · rw [e1] at ht; exact QT_eq (hQ.1 t ht) (fun k hk => h _ (by omega))
  · rw [e2] at ht; exact QE_eq (hQ.2.1 t ht) (fun k hk => h _ (by omega))
  · rw [e3] at ht; exact QR_eq (hQ.2.2.1 t ht) (fun k hk => h _ (by omega))
  · rw [e4] at ht; exact QV_eq (hQ.2.2.2 t ht) (fun k hk => h _ (by omega))
theorem eqX.i {N N' : zN} {h : zHp} (e : eqX N N') (hC : CN N) (c : IC h N) : IC h N' := by
  have h8 := hC.1.2
  have e1 : cT N' = cT N := by unfold cT; rw [e _ (by omega)]
  have e2 : cE N' = cE N := by unfold cE; rw [e _ (by omega)]
  have e3 : cR N' = cR N := by unfold cR; rw [e _ (by omega)]
  have e4 : cV N' = cV N := by unfold cV; rw [e _ (by omega)]
  obtain ⟨p, ⟨a, b, d, e', g⟩, l, t⟩ := c
  refine ⟨p, ⟨by rw [e _ (by omega), e _ (by omega), e _ (by omega), e _ (by omega), e _ (by omega), e _ (by omega), e _ (by omega), e _ (by omega)]; exact a, fun t k h1 h2 => ?_, fun t k h1 h2 => ?_, fun t k h1 h2 => ?_, fun t k h1 h2 => ?_⟩, Lm_Sm hC (e.s hC) l, t⟩
  · rw [e1] at h1; rw [e _ (by omega)]; exact b t k h1 h2
  · rw [e2] at h1; rw [e _ (by omega)]; exact d t k h1 h2
  · rw [e3] at h1; rw [e _ (by omega)]; exact e' t k h1 h2
  · rw [e4] at h1; rw [e _ (by omega)]; exact g t k h1 h2
theorem INV_t {h h1 h2 : zHp} {N' : zN} (I : INV h) (cF : ∀ a, (a = 0 ∨ (93 ≤ a ∧ (a < 133 ∨ 140 < a) ∧ a ≠ 141 ∧ (a < 144 ∨ 154 ≤ a))) → h1.1 a = h.1 a) (c2 : ∀ a, a ≠ 4 → a ≠ 5 → a ≠ 6 → h1.2 a = h.2 a) (c1 : rI h1 141 1 = 0) (G2 : zG h2) (m2 : h2.2 = h1.2) (mF : ∀ a, (a < 164 ∨ a = 166 ∨ (173 ≤ a ∧ a ≠ 177)) → h2.1 a = h1.1 a) (m4 : h2.1 164 3 = h1.1 164 3 ∧ h2.1 164 19 = h1.1 164 19) (m21 : rI h2 164 21 = 0) (m10 : ∃ n, rI h2 164 10 = nI n) (e : h2.1 165 = N') (q : IQ N') (ic : IC h1 N') : INV h2 := by
  obtain ⟨-, -, -, ⟨p1, p2⟩, -, ii, is, -, ih⟩ := I
  have fr : ∀ a, (a = 0 ∨ (93 ≤ a ∧ (a < 133 ∨ 140 < a) ∧ a ≠ 141 ∧ (a < 144 ∨ 154 ≤ a) ∧ a < 164) ∨ a = 166 ∨ (173 ≤ a ∧ a ≠ 177)) → h2.1 a = h.1 a := fun a ha => by rw [mF a (by omega), cF a (by omega)]
  have f2 : ∀ a, a ≠ 4 → a ≠ 5 → a ≠ 6 → h2.2 a = h.2 a := fun a z1 z2 z3 => by rw [m2]; exact c2 a z1 z2 z3
  have e164 : h1.1 164 = h.1 164 := cF 164 (by omega)
  refine ⟨G2, by rw [e]; exact q, by rw [e]; exact IC_of m2 (fun a ha => mF a (by omega)) q.1 ic, ⟨PW_of2 (fun a _ _ => f2 a (by omega) (by omega) (by omega)) p1, PW_of2 (fun a _ _ => f2 a (by omega) (by omega) (by omega)) p2⟩, m10, IOi_of ii p2 (by rw [fr 0 (by omega)]) (by rw [m4.1, e164]) (fr 166 (by omega)) (fun a z1 z2 => fr a (by omega)) (fun a z1 z2 => f2 a (by omega) (by omega) (by omega)), IOs_of is (by rw [fr 0 (by omega)]) (by rw [m4.2, e164]) (fr 155 (by omega)) (fr 173 (by omega)), ⟨0, by omega, ?_, m21, fun i hi => by omega⟩, IOh_of ih (fun a ha => fr a (by omega))⟩
  show h2.1 141 1 = _
  rw [mF 141 (by omega)]
  exact c1
theorem okP_q {N : zN} {ph : Ph} (h : cE N < 10) (ok : okP ph) : QE (aP N ph) (cE N) := by
  obtain ⟨a0, a1, a2, a3, a4, a5, a6⟩ := aE_f (N := N) (s := ph.1) (w := ph.2.1) (x := ph.2.2.1) (v := ph.2.2.2.1) (u := ph.2.2.2.2) h
  obtain ⟨⟨k1, h1, e1⟩, ⟨k2, h2, e2⟩, k3, k4, k5⟩ := ok
  unfold QE aP
  rw [a1, a2, a3, a4, a5, a6]
  exact ⟨by rw [e1]; exact nI_iv (by omega) (by omega) (by omega), by rw [e2]; exact nI_iv (by omega) (by omega) (by omega), k3, k4, k5, ⟨by decide, by decide⟩⟩
theorem TX_ok {T : zN} {L : Nat} : ∀ (m r p : Nat), p ≤ L → (∀ l, TX T L m r p = .inr l → ∀ ph ∈ l, okP ph) ∧ ∀ f, TX T L m r p = .inl f → f ≤ L := by
  intro m
  induction m with
  | zero => intro r p hp; exact ⟨fun l e => (by cases e), fun f e => by cases e; exact hp⟩
  | succ m ih =>
    intro r p hp
    rw [TX]
    have pb := PH_b (T := T) (room := decide (0 < r)) hp
    cases ex : PH T L (decide (0 < r)) p with
    | inl f => exact ⟨fun l e => (by cases e), fun f' e => by cases e; exact pb.1 f ex⟩
    | inr w =>
      obtain ⟨ph, q⟩ := w
      obtain ⟨hq, okp, -⟩ := pb.2 ph q ex
      have tb := Tk_b (T := T) hq
      show (∀ l, (if (Tk T L q).2.1 = 0 then Sum.inr [ph] else if (Tk T L q).2.1 = 3 then bd (TX T L m (r - 1) (Tk T L q).2.2.1) (fun l => .inr (ph :: l)) else .inl (Tk T L q).1) = .inr l → _) ∧ ∀ f, (if (Tk T L q).2.1 = 0 then Sum.inr [ph] else if (Tk T L q).2.1 = 3 then bd (TX T L m (r - 1) (Tk T L q).2.2.1) (fun l => .inr (ph :: l)) else .inl (Tk T L q).1) = .inl f → _
      by_cases z : (Tk T L q).2.1 = 0
      · rw [if_pos z]
        exact ⟨fun l e ph' hm => (by cases e; rw [List.mem_singleton.mp hm]; exact okp), fun f e => by cases e⟩
      · rw [if_neg z]
        by_cases y : (Tk T L q).2.1 = 3
        · rw [if_pos y]
          obtain ⟨i1, i2⟩ := ih (r - 1) (Tk T L q).2.2.1 tb.2.1
          cases et : TX T L m (r - 1) (Tk T L q).2.2.1 with
          | inl f => exact ⟨fun l e => (by cases e), fun f' e => by cases e; exact i2 f et⟩
          | inr l' =>
            refine ⟨fun l e ph' hm => ?_, fun f e => by cases e⟩
            cases e
            rcases List.mem_cons.mp hm with w | w
            · rw [w]; exact okp
            · exact i1 l' et ph' w
        · rw [if_neg y]
          exact ⟨fun l e => (by cases e), fun f e => by cases e; exact tb.1⟩
theorem aPs_all : ∀ (l : List Ph) (N : zN), CN N → WQ N → cE N + l.length ≤ 10 → (∀ ph ∈ l, okP ph) → CN (aPs N l) ∧ WQ (aPs N l) ∧ cE (aPs N l) = cE N + l.length := by
  intro l
  induction l with
  | nil => intro N a b _ _; exact ⟨a, b, rfl⟩
  | cons ph l ih =>
    intro N a b hl ok
    change cE N + (l.length + 1) ≤ 10 at hl
    have c10 : cE N < 10 := by omega
    obtain ⟨c1, c2⟩ := adE_q a b c10 (aP_ad (ph := ph) a c10) (okP_q c10 (ok ph List.mem_cons_self))
    obtain ⟨-, n2, -⟩ := adE_c a c10 (aP_ad (ph := ph) a c10)
    obtain ⟨d1, d2, d3⟩ := ih (aP N ph) c1 c2 (by rw [n2]; omega) (fun q hq => ok q (List.mem_cons_of_mem _ hq))
    refine ⟨d1, d2, ?_⟩
    show cE (aPs (aP N ph) l) = _
    rw [d3, n2]
    show _ = cE N + (l.length + 1)
    omega
theorem sim_text : Sim M_X10_text M_X11_text [] := by
  intro h I
  have I0 := I
  obtain ⟨G, iq, ic, io⟩ := I
  obtain ⟨hC, hQ, hSt⟩ := iq
  obtain ⟨hP, hR, hL, ht⟩ := ic
  have h10 := hC.2.1.2
  obtain ⟨L, t1, t2, t3, t4⟩ := io.2.2.2.2.1
  have tpc : TpC h (h.1 174) L := ⟨t1, t2, t4⟩
  have tx := TX_ok (T := h.1 174) (L := L) 11 (10 - cE (h.1 165)) 0 (Nat.zero_le L)
  refine g_X10_text G ?_
  rw [hR.1.2.1, show h.1 165 239 = nI (cE (h.1 165)) from hC.2.1.1, show (10 : Int32) - nI (cE (h.1 165)) = nI (10 - cE (h.1 165)) from pk_sub (a := 10) h10]
  refine zcV_then (s_X3_readAll G tpc (by omega)) (fun h1 ra => ?_)
  -- the reference, when the class has made the row's first part
  have mod : ∀ h3 : zHp, zG h3 → h3.1 165 = h.1 165 → h3.1 164 = h.1 164 → h3.1 174 = h.1 174 → zcI M_X11_isText [.ref 164] h3 (fun r h' => RX h3 h' (h.1 165) (TX (h.1 174) L 11 (10 - cE (h.1 165)) 0) r) := by
    intro h3 G3 e5 e4 e74
    refine s_X11_isText G3 ⟨t1, by show h3.1 164 21 = _; rw [e4]; exact t3, fun i hi => ⟨by show h3.1 174 i = _; rw [e74], (t4 i hi).2⟩⟩ hC e5
  cases ex : TX (h.1 174) L 11 (10 - cE (h.1 165)) 0 with
  | inl f =>
    rw [ex] at ra
    obtain ⟨f1, e8, hf⟩ := ra.1 f rfl
    have G1 := zG_of f1.1 G
    refine ⟨G1, ?_⟩
    rw [e8]
    refine ⟨fun z => absurd z (nI_pos (by omega)), fun _ => ⟨zG_of f1.1 G, ?_⟩⟩
    have fr : ∀ a, a ≠ 141 → (a < 144 ∨ 154 ≤ a) → (wI h1 141 1 0).1 a = h.1 a := fun a z1 z2 => by rw [wI_ne z1, f1.2.1 a z1 z2]
    have G2 : zG (wI h1 141 1 0) := zG_of f1.1 G
    refine g_X11_text G2 (zcI_then (mod _ G2 (fr 165 (by decide) (by omega)) (fr 164 (by decide) (by omega)) (fr 174 (by decide) (by omega))) (fun r h2 hh => ?_))
    rw [ex] at hh
    obtain ⟨f2, a2, -⟩ := hh
    obtain ⟨r0, e22, ee⟩ := a2 f rfl
    have Gz := zG_of f2.1 G2
    refine ⟨Gz, fun _ => ⟨zG_of f2.1 G2, by rw [e22], ?_⟩, fun z => absurd r0 z⟩
    have e239 : rI (wI h1 141 1 0) 165 239 = h.1 165 239 := by show (wI h1 141 1 0).1 165 239 = _; rw [fr 165 (by decide) (by omega)]
    rw [e239]
    have eN : (wI (wI h2 164 21 0) 165 239 (h.1 165 239)).1 165 = upd (h2.1 165) 239 (h.1 165 239) := by rw [wI_s1 (f := h2.1 165) (wI_ne (by decide))]
    have ex' : eqX (h.1 165) (upd (h2.1 165) 239 (h.1 165 239)) := fun i hi => by
      by_cases y : i = 239
      · rw [y, pk_us]
      · rw [pk_un y]; exact ee i y hi
    refine INV_t (h1 := wI h1 141 1 0) I0 (fun a ha => fr a (by omega) (by omega)) (fun a _ _ _ => by show h1.2 a = h.2 a; rw [f1.1]) rI_s (zG_of f2.1 G2) f2.1 (fun a ha => by rw [wI_ne (by omega), wI_ne (by omega), f2.2.1 a (by omega) (by omega) (by omega)]) ⟨?_, ?_⟩ ?_ ?_ eN (ex'.q ⟨hC, hQ, hSt⟩) (ex'.i hC (IC_of (h := h) f1.1 (fun a ha => fr a (by omega) (by omega)) hC ⟨hP, hR, hL, ht⟩))
    · show rI (wI (wI h2 164 21 0) 165 239 (h.1 165 239)) 164 3 = _
      rw [rI_c (by decide), rI_k (by decide)]
      exact f2.2.2 3 (by omega)
    · show rI (wI (wI h2 164 21 0) 165 239 (h.1 165 239)) 164 19 = _
      rw [rI_c (by decide), rI_k (by decide)]
      exact f2.2.2 19 (by omega)
    · rw [rI_c (by decide), rI_s]
    · obtain ⟨n, hn⟩ := io.2.1
      refine ⟨n, ?_⟩
      rw [rI_c (by decide), rI_k (by decide)]
      show h2.1 164 10 = _
      rw [f2.2.2 10 (by omega), fr 164 (by decide) (by omega)]
      exact hn
  | inr l =>
    rw [ex] at ra
    obtain ⟨f1, e8, e7, hl, pc⟩ := ra.2 l rfl
    have okl := tx.1 l ex
    have G1 := zG_of f1.1 G
    obtain ⟨A1, A2, A3⟩ := aPs_all l (h.1 165) hC hQ (by omega) okl
    refine ⟨G1, ?_⟩
    rw [e8]
    refine ⟨fun _ => ?_, fun z => absurd (by decide) z⟩
    have f2 : ∀ a, a ≠ 141 → (a < 144 ∨ 154 ≤ a) → (wI h1 141 1 0).1 a = h.1 a := fun a z1 z2 => by rw [wI_ne z1, f1.2.1 a z1 z2]
    -- the phrases become effects
    have loop : ∀ (m j : Nat) (X : zN) (h3 : zHp), j + m = l.length → CN X → WQ X → cE X + m ≤ 10 → aPs X (l.drop j) = aPs (h.1 165) l → fW (wI h1 141 1 0) h3 → PW h3 2 → RW h3 2 X → zlI M_X10_text 48 [some (.ref 0), some (.int (nI j))] [] h3 (fun v h4 => v = nI l.length ∧ fZ (wI h1 141 1 0) h4 ∧ IC h4 (RF (aPs (h.1 165) l))) := by
      intro m
      induction m with
      | zero =>
        intro j X h3 hj cX qX _ eX f3 p3 r3
        have : j = l.length := by omega
        subst this
        rw [List.drop_length] at eX
        change X = _ at eX
        have G3 := f3.g (zG_of (h := h) (h' := wI h1 141 1 0) f1.1 G)
        have e7' : rI h3 141 7 = nI l.length := by show h3.1 141 7 = _; rw [f3.1 141 (by omega)]; show rI (wI h1 141 1 0) 141 7 = _; rw [rI_k (by decide)]; exact e7
        have t3' : ∃ n, rI h3 1 5 = nI n := by
          obtain ⟨n, hn⟩ := ht
          exact ⟨n, by show h3.1 1 5 = _; rw [f3.1 1 (by omega), f2 1 (by decide) (by omega)]; exact hn⟩
        refine g_X10_text_48 G3 ?_
        rw [e7']
        refine ⟨fun _ => zcV_then (s_settleF G3 cX qX p3 r3 t3') (fun h4 hh => ⟨hh.1.g G3, ?_, f3.z.tr hh.1.z, by rw [← eX]; exact hh.2⟩), fun z => absurd (Int32.le_refl _) z⟩
        show h4.1 141 7 = _
        rw [hh.1.1 141 (by omega)]
        exact e7'
      | succ m ih =>
        intro j X h3 hj cX qX hc eX f3 p3 r3
        have c10 : cE X < 10 := by omega
        have G3 := f3.g (zG_of (h := h) (h' := wI h1 141 1 0) f1.1 G)
        have e7' : rI h3 141 7 = nI l.length := by show h3.1 141 7 = _; rw [f3.1 141 (by omega)]; show rI (wI h1 141 1 0) 141 7 = _; rw [rI_k (by decide)]; exact e7
        have jl : j < l.length := by omega
        have hd : l.drop j = l[j] :: l.drop (j + 1) := List.drop_eq_getElem_cons jl
        have ph := pc j l[j] (List.getElem?_eq_getElem jl)
        have okj := okl l[j] (List.getElem_mem jl)
        rw [hd] at eX
        change aPs (aP X l[j]) (l.drop (j + 1)) = _ at eX
        have lc := p3.e (Or.inl rfl) c10
        have pn := p3.1.1 (cE X) c10
        change rR h3 4 (cE X) = some (rG h3 4 (cE X)) ∧ 2 + 14 ≤ rG h3 4 (cE X) ∧ rG h3 4 (cE X) < 2 + 14 + 10 at pn
        refine g_X10_text_48 G3 ?_
        rw [e7', r3.1.2.1, cX.2.1.1, nI_clamp (n := cE X) (by omega), nI_clamp (n := j) (by omega), nI_1]
        refine ⟨fun z => absurd z (nI_ge jl (by omega)), fun _ => ⟨fun z => absurd z (nI_ge (b := 10) c10 (by omega)), fun _ => ⟨vp_in_nI (by omega) (by omega), lc, vp_in_nI (by omega) (by omega), ?_⟩⟩⟩
        refine zcV_then (s_X1_copyFrom G3 lc.2 (lyP (by omega)) (by change 144 + j ≠ rG h3 4 (cE X); omega)) (fun h4 hh => ⟨zG_of hh.1 G3, ?_⟩)
        obtain ⟨g1, g2, g3⟩ := hh
        have e4 : rI h4 2 3 = nI (cE X) := by show h4.1 2 3 = _; rw [g2 2 (by omega)]; exact r3.1.2.1.trans cX.2.1.1
        rw [e4, nI_1]
        obtain ⟨c1, c2⟩ := adE_q cX qX c10 (aP_ad (ph := l[j]) cX c10) (okP_q c10 okj)
        obtain ⟨-, n2, -⟩ := adE_c cX c10 (aP_ad (ph := l[j]) cX c10)
        have ep : ∀ k, rI h3 (144 + j) k = rI h1 (144 + j) k := fun k => by show h3.1 _ k = _; rw [f3.1 _ (by omega), wI_ne (by omega)]; rfl
        have rw4 : RW (wI h4 2 3 (nI (cE X + 1))) 2 (aP X l[j]) := by
          refine adE_r (h := h3) cX c10 (aP_ad cX c10) p3 r3 g1 (fun a k z1 z2 => ?_) rI_s (fun k hk => ?_)
          · have : rI (wI h4 2 3 (nI (cE X + 1))) a k = rI h4 a k := by
              rcases z2 with y | y
              · exact rI_c y
              · exact rI_k y
            rw [this]
            show h4.1 a k = h3.1 a k
            rw [g2 a z1]
          · change rI _ (rG h3 4 (cE X)) k = _
            rw [rI_c (by omega), g3 k hk, ep]
            obtain ⟨a0, a1, a2, a3, a4, a5, a6⟩ := aE_f (N := X) (s := l[j].1) (w := l[j].2.1) (x := l[j].2.2.1) (v := l[j].2.2.2.1) (u := l[j].2.2.2.2) c10
            obtain ⟨b0, b1, b2, b3, b4, b5, b6⟩ := ph
            rcases (by omega : k = 0 ∨ k = 1 ∨ k = 2 ∨ k = 3 ∨ k = 4 ∨ k = 5 ∨ k = 6) with z | z | z | z | z | z | z <;> subst z
            · rw [b0]; exact a0.symm
            · rw [b1]; exact a1.symm
            · rw [b2]; exact a2.symm
            · rw [b3]; exact a3.symm
            · rw [b4]; exact a4.symm
            · rw [b5]; exact a5.symm
            · rw [b6]; exact a6.symm
        have f4 : fW h3 (wI h4 2 3 (nI (cE X + 1))) := ⟨fun a ha => by rw [wI_ne (by omega), g2 a (by omega)], fun a _ _ _ => by show h4.2 a = h3.2 a; rw [g1]⟩
        exact ih (j + 1) (aP X l[j]) _ (by omega) c1 c2 (by rw [n2]; omega) eX (f3.tr f4) (PW_of (h := h3) g1 p3) rw4
    have P0 : PW (wI h1 141 1 0) 2 := PW_of (h := h) f1.1 hP
    have R0 : RW (wI h1 141 1 0) 2 (h.1 165) := RW_of (h := h) f1.1 (fun a z1 z2 => f2 a (by omega) (by omega)) hP hC hR
    refine zw.mono (loop l.length 0 (h.1 165) (wI h1 141 1 0) (by omega) hC hQ (by omega) rfl fW.rf P0 R0) (fun rr h4 hr => ?_)
    obtain ⟨v, rfl, ev, f4, ic4⟩ := hr
    have G4 := f4.g (zG_of (h := h) (h' := wI h1 141 1 0) f1.1 G)
    refine ⟨v, rfl, G4, ?_⟩
    have fr : ∀ a, (a = 0 ∨ (93 ≤ a ∧ (a < 133 ∨ 140 < a) ∧ a ≠ 141 ∧ (a < 144 ∨ 154 ≤ a))) → h4.1 a = h.1 a := fun a ha => by rw [f4.1 a (by omega), f2 a (by omega) (by omega)]
    refine g_X11_text G4 (zcI_then (mod h4 G4 (fr 165 (by omega)) (fr 164 (by omega)) (fr 174 (by omega))) (fun r h5 hh => ?_))
    rw [ex] at hh
    obtain ⟨f5, -, b5⟩ := hh
    obtain ⟨r1, e5⟩ := b5 l rfl
    have G5 := zG_of f5.1 G4
    refine ⟨G5, fun z => absurd (r1.symm.trans z) (by decide), fun _ => ?_⟩
    have t5 : ∃ n, rI (wI h5 164 21 0) 164 10 = nI n := by
      obtain ⟨n, hn⟩ := io.2.1
      refine ⟨n, ?_⟩
      rw [rI_k (by decide)]
      show h5.1 164 10 = _
      rw [f5.2.2 10 (by omega), fr 164 (by omega)]
      exact hn
    refine zcI_then (s_X11_changed (N := aPs (h.1 165) l) (h := wI h5 164 21 0) (zG_of f5.1 G4) A1 (by rw [wI_ne (by decide)]; exact e5) t5) (fun v' h6 hh => ⟨zG_of hh.2.1.1 (zG_of (h := h4) (h' := wI h5 164 21 0) f5.1 G4), zG_of hh.2.1.1 (zG_of (h := h4) (h' := wI h5 164 21 0) f5.1 G4), ?_, ?_⟩)
    · rw [ev, hh.1, rdN e5, A1.2.1.1, A3, rdN (fr 165 (by omega)), show h.1 165 239 = nI (cE (h.1 165)) from hC.2.1.1, pk_sub (by omega), show cE (h.1 165) + l.length - cE (h.1 165) = l.length by omega]
    · obtain ⟨-, f6, e6, t6⟩ := hh
      have q6 := RF_IQ A1 A2
      refine INV_t (h1 := h4) I0 fr (fun a z1 z2 z3 => by rw [f4.2 a z1 z2 z3]; show h1.2 a = h.2 a; rw [f1.1]) ?_ (zG_of f6.1 (zG_of (h := h4) (h' := wI h5 164 21 0) f5.1 G4)) (f6.1.trans f5.1) (fun a ha => ?_) ⟨?_, ?_⟩ ?_ t6 e6 q6 ic4
      · show h4.1 141 1 = 0
        rw [f4.1 141 (by omega)]
        exact rI_s
      · rw [f6.2.1 a (by omega), wI_ne (by omega), f5.2.1 a (by omega) (by omega) (by omega)]
      · rw [f6.2.2.1]
        show rI (wI h5 164 21 0) 164 3 = _
        rw [rI_k (by decide)]
        exact f5.2.2 3 (by omega)
      · rw [f6.2.2.2.1]
        show rI (wI h5 164 21 0) 164 19 = _
        rw [rI_k (by decide)]
        exact f5.2.2 19 (by omega)
      · show h6.1 164 21 = 0
        rw [f6.2.2.2.2]
        exact rI_s

