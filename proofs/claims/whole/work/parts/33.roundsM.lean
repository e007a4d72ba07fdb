/-! the reference's rounds -/
/-- the first n places as they are when those of D are buried -/
noncomputable def Bp (N L : zN) (D : Int32) (n : Nat) : zN := fun i => if i < n then Bu N L D i else N i
theorem Bp_0 {N L : zN} {D : Int32} : Bp N L D 0 = N := by
  funext i
  unfold Bp
  rw [if_neg (by omega)]
theorem Bp_up {N L : zN} {D : Int32} {n : Nat} {v : Int32} (hv : v = Bu N L D n) : upd (Bp N L D n) n v = Bp N L D (n + 1) := by
  funext i
  unfold Bp upd
  dsimp only
  by_cases q : i = n
  · rw [if_pos q, if_pos (by omega), hv, q]
  · rw [if_neg q]
    by_cases q2 : i < n
    · rw [if_pos q2, if_pos (by omega)]
    · rw [if_neg q2, if_neg (by omega)]
theorem Bp_eq {N L : zN} {D : Int32} {n m : Nat} (hm : n ≤ m) (h : ∀ i, n ≤ i → i < m → Bu N L D i = N i) : Bp N L D n = Bp N L D m := by
  funext i
  unfold Bp
  by_cases q : i < n
  · rw [if_pos q, if_pos (by omega)]
  · rw [if_neg q]
    by_cases q2 : i < m
    · rw [if_pos q2, h i (by omega) q2]
    · rw [if_neg q2]
theorem Bp_hi {N L : zN} {D : Int32} {n i : Nat} (hC : CN N) (hi : 80 ≤ i) : Bp N L D n i = N i := by
  unfold Bp
  rw [Bu_hi hC hi]
  split <;> rfl
theorem Bp_end {N L : zN} {D : Int32} : Bp N L D (10 * cT N) = Bu N L D := by
  funext i
  unfold Bp
  by_cases q : i < 10 * cT N
  · rw [if_pos q]
  · rw [if_neg q]
    unfold Bu
    rw [if_neg (fun z => by omega)]
/-- what the rounds of the reference may change -/
def fR (h h' : zHp) : Prop := h'.2 = h.2 ∧ (∀ a, a ≠ 164 → a ≠ 165 → a ≠ 168 → a ≠ 169 → a ≠ 170 → a ≠ 171 → h'.1 a = h.1 a) ∧ ∀ k, k ≠ 7 → k ≠ 10 → h'.1 164 k = h.1 164 k
theorem fR.rf {h : zHp} : fR h h := ⟨rfl, fun _ _ _ _ _ _ _ => rfl, fun _ _ _ => rfl⟩
theorem fR.tr {h h' h2 : zHp} (a : fR h h') (b : fR h' h2) : fR h h2 := ⟨b.1.trans a.1, fun z z1 z2 z3 z4 z5 z6 => (b.2.1 z z1 z2 z3 z4 z5 z6).trans (a.2.1 z z1 z2 z3 z4 z5 z6), fun z h1 h2 => (b.2.2 z h1 h2).trans (a.2.2 z h1 h2)⟩
theorem fM.r {h h' : zHp} (f : fM h h') : fR h h' := ⟨f.1, fun a z1 _ _ _ _ z6 => f.2.1 a z1 z6, fun k _ hk => f.2.2 k hk⟩
theorem MkS.r {h h' : zHp} {X D : zN} {c : Nat} (m : MkS h h' X D c) : fR h h' := ⟨m.1, fun a z1 _ z3 z4 z5 _ => m.2.1 a z1 z3 z4 z5, fun k hk _ => m.2.2.1 k hk⟩
/-- the reference has made the row N: what is, and in which order -/
def Mm (h : zHp) (N : zN) : Prop := rI h 164 7 = nI (Mk N 5).2.2 ∧ rq (cT N) (h.1 168) (Mk N 5).1 ∧ ∀ i, i < (Mk N 5).2.2 → h.1 170 i = (Mk N 5).2.1 i
theorem SM_of {h h' : zHp} {s : Stk} (h1 : h'.1 171 = h.1 171) (h2 : h'.1 164 10 = h.1 164 10) (hS : SM h s) : SM h' s := by
  refine ⟨?_, fun i hi => ⟨?_, ?_⟩⟩
  · show h'.1 164 10 = _
    rw [h2]; exact hS.1
  · show h'.1 171 _ = _
    rw [h1]; exact (hS.2 i hi).1
  · show h'.1 171 _ = _
    rw [h1]; exact (hS.2 i hi).2
theorem SOff_0 {N L : zN} {on : Int32} {s : Stk} : SOff N L on 0 s = s := by
  have a : ∀ ow s, SO N L on 0 ow s = s := by
    intro ow s
    unfold SO
    generalize cV N = n
    induction n with
    | zero => rfl
    | succ n ih =>
      have e : ∀ w s, soT (fun t => bi 0 (nI t) ∧ t < cT N ∧ Sc N L (N (182 + 7 * w + 5)) (N (182 + 7 * w + 6)) t) (nI w) 8 s = s := by
        intro w s
        have : ∀ m, m ≤ 8 → soT (fun t => bi 0 (nI t) ∧ t < cT N ∧ Sc N L (N (182 + 7 * w + 5)) (N (182 + 7 * w + 6)) t) (nI w) m s = s := by
          intro m
          induction m with
          | zero => intro _; rfl
          | succ m ihm => intro hm; rw [soT_0 (fun z => bi_zero (by omega) z.1)]; exact ihm (by omega)
        exact this 8 (Nat.le_refl _)
      rcases Classical.em (N (182 + 7 * n) = ow ∧ N (182 + 7 * n + 1) = on) with q | q
      · rw [soW_1 q, ih, e]
      · rw [soW_0 q, ih]
  unfold SOff
  rw [a, a]
theorem Bu_0 {N L : zN} (hC : CN N) : Bu N L 0 = N := by
  funext i
  unfold Bu
  rw [if_neg (fun z => bi_zero (by have := hC.1.2; omega) z.2)]
theorem g_X11_rounds  {h : zHp} {Q : zHp → Prop}  (G : zG h) (F : zlV M_X11_rounds 2 [some (.ref 164), some (.int 1), none, none] [] h Q) : zcV M_X11_rounds [.ref 164] h Q := by
  show zw zNT zNT M_X11_rounds 0 [some (.ref 164), none, none, none] [] h _
  refine z_iconst (pc := 0) (v := 1) dX11_rounds_0 (by decide) ?_
  refine z_istore_n (pc := 1) (ls' := [some (.ref 164), some (.int 1), none, none]) dX11_rounds_1 rfl (by decide) rfl ?_
  exact F
theorem g_X11_rounds_2 {x1 : Int32} {h : zHp} {Q : zHp → Prop}  (G : zG h) (F : (x1 = 0 → (Q h)) ∧ (¬ (x1 = 0) → (zcV M_X11_makes [.ref 164, .int 5] h (fun h1 => zG h1 ∧ (zlV M_X11_rounds 15 [some (.ref 164), some (.int 0), some (.int 0), none] [] h1 Q))))) : zlV M_X11_rounds 2 [some (.ref 164), some (.int x1), none, none] [] h Q := by
  refine z_iload_n (pc := 2) dX11_rounds_2 rfl rfl ?_
  refine z_if_eq (pc := 3) (tgt := 163) dX11_rounds_3 (by decide) (fun k2 => ?_) (fun k2 => ?_)
  · replace F := F.1 k2
    exact q_retV (pc := 163) dX11_rounds_163 rfl F
  · replace F := F.2 k2
    refine z_aload_n (pc := 6) dX11_rounds_6 rfl rfl ?_
    refine z_iconst (pc := 7) (v := 5) dX11_rounds_7 (by decide) ?_
    refine q_invV (pc := 8) (As := [.int 5]) (st := []) dX11_rounds_8 ok_X11_makes ml_RX11_145 iv_X11_makes pa_X11_makes ⟨Nat.le_of_ble_eq_true rfl, Nat.le_of_ble_eq_true rfl⟩ (lyc rfl) (q_kV F (fun h1 F => ?_))
    obtain ⟨G1, F⟩ := F
    refine z_iconst (pc := 11) (v := 0) dX11_rounds_11 (by decide) ?_
    refine z_istore_n (pc := 12) (ls' := [some (.ref 164), some (.int 0), none, none]) dX11_rounds_12 rfl (by decide) rfl ?_
    refine z_iconst (pc := 13) (v := 0) dX11_rounds_13 (by decide) ?_
    refine z_istore_n (pc := 14) (ls' := [some (.ref 164), some (.int 0), some (.int 0), none]) dX11_rounds_14 rfl (by decide) rfl ?_
    exact F
theorem g_X11_rounds_15 {x1 : Int32} {x2 : Int32} {h : zHp} {Q : zHp → Prop}  (G : zG h) (F : (rI h 165 238 ≤ x2 → (zcV M_X11_setsOff [.ref 164, .int 1, .int x1] h (fun h1 => zG h1 ∧ (zlV M_X11_rounds 78 [some (.ref 164), some (.int x1), some (.int 0), none] [] h1 Q)))) ∧ (¬ (rI h 165 238 ≤ x2) → (zCt (rI h 165 238) 8 ∧ ((¬ (aliveM h x2) → (zlV M_X11_rounds 15 [some (.ref 164), some (.int (x1 ||| 0)), some (.int (x2 + 1)), none] [] h Q)) ∧ ((aliveM h x2) → (vp_in ((0 + (10 * x2)) + 4) 246 ∧ (vp_in ((4 * x2) + 3) 32 ∧ ((rI h 165 ((Int32.toNatClampNeg (((0 + (10 * x2)) + 4)))) < rI h 168 ((Int32.toNatClampNeg ((4 * x2) + 3))) → (zlV M_X11_rounds 15 [some (.ref 164), some (.int (x1 ||| 0)), some (.int (x2 + 1)), none] [] h Q)) ∧ (¬ (rI h 165 ((Int32.toNatClampNeg (((0 + (10 * x2)) + 4)))) < rI h 168 ((Int32.toNatClampNeg ((4 * x2) + 3)))) → (zlV M_X11_rounds 15 [some (.ref 164), some (.int (x1 ||| (1 <<< (x2 &&& 31)))), some (.int (x2 + 1)), none] [] h Q)))))))))) : zlV M_X11_rounds 15 [some (.ref 164), some (.int x1), some (.int x2), none] [] h Q := by
  refine z_iload_n (pc := 15) dX11_rounds_15 rfl rfl ?_
  refine z_aload_n (pc := 16) dX11_rounds_16 rfl rfl ?_
  refine q_getR (pc := 17) (i := 165) dX11_rounds_17 lk_RX11_7 (lyc rfl) (G 164 0 165 rfl) ?_
  refine z_sipush (pc := 20) (v := 238) dX11_rounds_20 (by decide) ?_
  refine q_iald (pc := 23) (j := 238) (v := rI h 165 238) dX11_rounds_23 (lyc rfl) (zvl (lnc rfl) (by decide)) (by decide) rfl ?_
  refine z_icmp_ge (pc := 24) (tgt := 70) dX11_rounds_24 (by decide) (fun k7 => ?_) (fun k7 => ?_)
  · replace F := F.1 k7
    refine z_aload_n (pc := 70) dX11_rounds_70 rfl rfl ?_
    refine z_iconst (pc := 71) (v := 1) dX11_rounds_71 (by decide) ?_
    refine z_iload_n (pc := 72) dX11_rounds_72 rfl rfl ?_
    refine q_invV (pc := 73) (As := [.int 1, .int x1]) (st := []) dX11_rounds_73 ok_X11_setsOff ml_RX11_149 iv_X11_setsOff pa_X11_setsOff ⟨Nat.le_of_ble_eq_true rfl, Nat.le_of_ble_eq_true rfl⟩ (lyc rfl) (q_kV F (fun h1 F => ?_))
    obtain ⟨G1, F⟩ := F
    refine z_iconst (pc := 76) (v := 0) dX11_rounds_76 (by decide) ?_
    refine z_istore_n (pc := 77) (ls' := [some (.ref 164), some (.int x1), some (.int 0), none]) dX11_rounds_77 rfl (by decide) rfl ?_
    exact F
  · replace F := F.2 k7
    refine z_iload_n (pc := 27) dX11_rounds_27 rfl rfl ?_
    refine z_aload_n (pc := 28) dX11_rounds_28 rfl rfl ?_
    refine z_iload_n (pc := 29) dX11_rounds_29 rfl rfl ?_
    obtain ⟨k2, F⟩ := F
    refine q_invV (pc := 30) (As := [.int x2]) (st := [.int x1]) dX11_rounds_30 ok_X11_isAlive ml_RX11_100 iv_X11_isAlive pa_X11_isAlive ⟨Nat.le_of_ble_eq_true rfl, Nat.le_of_ble_eq_true rfl⟩ (lyc rfl) (q_pI (s_X11_isAlive G k2) rfl ?_)
    refine z_if_eq (pc := 33) (tgt := 61) dX11_rounds_33 (by decide) (fun k6 => ?_) (fun k6 => ?_)
    · replace F := F.1 (zb0.mp k6)
      refine z_iconst (pc := 61) (v := 0) dX11_rounds_61 (by decide) ?_
      refine z_ior (pc := 62) dX11_rounds_62 ?_
      refine z_istore_n (pc := 63) (ls' := [some (.ref 164), some (.int (x1 ||| 0)), some (.int x2), none]) dX11_rounds_63 rfl (by decide) rfl ?_
      refine z_iinc (pc := 64) (v := x2 + 1) (ls' := [some (.ref 164), some (.int (x1 ||| 0)), some (.int (x2 + 1)), none]) dX11_rounds_64 (by decide) rfl rfl rfl ?_
      refine z_goto (pc := 67) (tgt := 15) dX11_rounds_67 (by decide) ?_
      exact F
    · replace F := F.2 (zbn.mp k6)
      refine z_aload_n (pc := 36) dX11_rounds_36 rfl rfl ?_
      refine z_iload_n (pc := 37) dX11_rounds_37 rfl rfl ?_
      refine z_iconst (pc := 38) (v := 4) dX11_rounds_38 (by decide) ?_
      obtain ⟨k3, F⟩ := F
      refine q_invV (pc := 39) (As := [.int x2, .int 4]) (st := [.int x1]) dX11_rounds_39 ok_X11_its ml_RX11_92 iv_X11_its pa_X11_its ⟨Nat.le_of_ble_eq_true rfl, Nat.le_of_ble_eq_true rfl⟩ (lyc rfl) (q_pI (s_X11_its G k3) rfl ?_)
      refine z_aload_n (pc := 42) dX11_rounds_42 rfl rfl ?_
      refine q_getR (pc := 43) (i := 168) dX11_rounds_43 lk_RX11_19 (lyc rfl) (G 164 4 168 rfl) ?_
      refine z_iconst (pc := 46) (v := 4) dX11_rounds_46 (by decide) ?_
      refine z_iload_n (pc := 47) dX11_rounds_47 rfl rfl ?_
      refine z_imul (pc := 48) dX11_rounds_48 ?_
      refine z_iconst (pc := 49) (v := 3) dX11_rounds_49 (by decide) ?_
      refine z_iadd (pc := 50) dX11_rounds_50 ?_
      obtain ⟨k4, F⟩ := F
      refine q_iald (pc := 51) (j := (Int32.toNatClampNeg ((4 * x2) + 3))) (v := rI h 168 ((Int32.toNatClampNeg ((4 * x2) + 3)))) dX11_rounds_51 (lyc rfl) (zvn (lnc rfl) k4) rfl rfl ?_
      refine z_icmp_lt (pc := 52) (tgt := 61) dX11_rounds_52 (by decide) (fun k5 => ?_) (fun k5 => ?_)
      · replace F := F.1 k5
        refine z_iconst (pc := 61) (v := 0) dX11_rounds_61 (by decide) ?_
        refine z_ior (pc := 62) dX11_rounds_62 ?_
        refine z_istore_n (pc := 63) (ls' := [some (.ref 164), some (.int (x1 ||| 0)), some (.int x2), none]) dX11_rounds_63 rfl (by decide) rfl ?_
        refine z_iinc (pc := 64) (v := x2 + 1) (ls' := [some (.ref 164), some (.int (x1 ||| 0)), some (.int (x2 + 1)), none]) dX11_rounds_64 (by decide) rfl rfl rfl ?_
        refine z_goto (pc := 67) (tgt := 15) dX11_rounds_67 (by decide) ?_
        exact F
      · replace F := F.2 k5
        refine z_iconst (pc := 55) (v := 1) dX11_rounds_55 (by decide) ?_
        refine z_iload_n (pc := 56) dX11_rounds_56 rfl rfl ?_
        refine z_ishl (pc := 57) dX11_rounds_57 ?_
        refine z_goto (pc := 58) (tgt := 62) dX11_rounds_58 (by decide) ?_
        refine z_ior (pc := 62) dX11_rounds_62 ?_
        refine z_istore_n (pc := 63) (ls' := [some (.ref 164), some (.int (x1 ||| (1 <<< (x2 &&& 31)))), some (.int x2), none]) dX11_rounds_63 rfl (by decide) rfl ?_
        refine z_iinc (pc := 64) (v := x2 + 1) (ls' := [some (.ref 164), some (.int (x1 ||| (1 <<< (x2 &&& 31)))), some (.int (x2 + 1)), none]) dX11_rounds_64 (by decide) rfl rfl rfl ?_
        refine z_goto (pc := 67) (tgt := 15) dX11_rounds_67 (by decide) ?_
        exact F
theorem g_X11_rounds_78 {x1 : Int32} {x2 : Int32} {h : zHp} {Q : zHp → Prop}  (G : zG h) (F : (rI h 165 238 ≤ x2 → (zlV M_X11_rounds 2 [some (.ref 164), some (.int x1), none, none] [] h Q)) ∧ (¬ (rI h 165 238 ≤ x2) → (((bi x1 x2) → (vp_in ((0 + (10 * x2)) + 5) 246 ∧ (zlV M_X11_rounds 117 [some (.ref 164), some (.int x1), some (.int x2), some (.int 0)] [] (wI h 165 ((Int32.toNatClampNeg ((0 + (10 * x2)) + 5))) 0) Q))) ∧ (¬ (bi x1 x2) → (zlV M_X11_rounds 78 [some (.ref 164), some (.int x1), some (.int (x2 + 1)), none] [] h Q))))) : zlV M_X11_rounds 78 [some (.ref 164), some (.int x1), some (.int x2), none] [] h Q := by
  refine z_iload_n (pc := 78) dX11_rounds_78 rfl rfl ?_
  refine z_aload_n (pc := 79) dX11_rounds_79 rfl rfl ?_
  refine q_getR (pc := 80) (i := 165) dX11_rounds_80 lk_RX11_7 (lyc rfl) (G 164 0 165 rfl) ?_
  refine z_sipush (pc := 83) (v := 238) dX11_rounds_83 (by decide) ?_
  refine q_iald (pc := 86) (j := 238) (v := rI h 165 238) dX11_rounds_86 (lyc rfl) (zvl (lnc rfl) (by decide)) (by decide) rfl ?_
  refine z_icmp_ge (pc := 87) (tgt := 160) dX11_rounds_87 (by decide) (fun k3 => ?_) (fun k3 => ?_)
  · replace F := F.1 k3
    refine z_goto (pc := 160) (tgt := 2) dX11_rounds_160 (by decide) ?_
    exact q_sub (ls' := [some (.ref 164), some (.int x1), none, none]) ⟨rfl, rfl, trivial⟩ F
  · replace F := F.2 k3
    refine z_iload_n (pc := 90) dX11_rounds_90 rfl rfl ?_
    refine z_iload_n (pc := 91) dX11_rounds_91 rfl rfl ?_
    refine q_invS (pc := 92) (As := [.int x1, .int x2]) (st := []) dX11_rounds_92 ok_X11_has ml_RX11_96 st_X11_has pa_X11_has ⟨Nat.le_of_ble_eq_true rfl, Nat.le_of_ble_eq_true rfl⟩ (q_pI (s_X11_has G) rfl ?_)
    refine z_if_ne (pc := 95) (tgt := 101) dX11_rounds_95 (by decide) (fun k2 => ?_) (fun k2 => ?_)
    · replace F := F.1 (zbn.mp k2)
      refine z_aload_n (pc := 101) dX11_rounds_101 rfl rfl ?_
      refine q_getR (pc := 102) (i := 165) dX11_rounds_102 lk_RX11_7 (lyc rfl) (G 164 0 165 rfl) ?_
      refine z_iconst (pc := 105) (v := 0) dX11_rounds_105 (by decide) ?_
      refine z_bipush (pc := 106) (v := 10) dX11_rounds_106 (by decide) ?_
      refine z_iload_n (pc := 108) dX11_rounds_108 rfl rfl ?_
      refine z_imul (pc := 109) dX11_rounds_109 ?_
      refine z_iadd (pc := 110) dX11_rounds_110 ?_
      refine z_iconst (pc := 111) (v := 5) dX11_rounds_111 (by decide) ?_
      refine z_iadd (pc := 112) dX11_rounds_112 ?_
      refine z_iconst (pc := 113) (v := 0) dX11_rounds_113 (by decide) ?_
      obtain ⟨k1, F⟩ := F
      refine q_iast (pc := 114) (j := (Int32.toNatClampNeg ((0 + (10 * x2)) + 5))) dX11_rounds_114 (lyc rfl) (zvn (lnc rfl) k1) rfl ?_
      refine z_iconst (pc := 115) (v := 0) dX11_rounds_115 (by decide) ?_
      refine z_istore_n (pc := 116) (ls' := [some (.ref 164), some (.int x1), some (.int x2), some (.int 0)]) dX11_rounds_116 rfl (by decide) rfl ?_
      exact F
    · replace F := F.2 (zb0.mp k2)
      refine z_goto (pc := 98) (tgt := 154) dX11_rounds_98 (by decide) ?_
      refine z_iinc (pc := 154) (v := x2 + 1) (ls' := [some (.ref 164), some (.int x1), some (.int (x2 + 1)), none]) dX11_rounds_154 (by decide) rfl rfl rfl ?_
      refine z_goto (pc := 157) (tgt := 78) dX11_rounds_157 (by decide) ?_
      exact F
theorem g_X11_rounds_117 {x1 : Int32} {x2 : Int32} {x3 : Int32} {h : zHp} {Q : zHp → Prop}  (G : zG h) (F : (4 ≤ x3 → (zlV M_X11_rounds 78 [some (.ref 164), some (.int x1), some (.int (x2 + 1)), none] [] h Q)) ∧ (¬ (4 ≤ x3) → (vp_in ((4 * x2) + x3) 32 ∧ (vp_in (((0 + (10 * x2)) + 6) + x3) 246 ∧ (zlV M_X11_rounds 117 [some (.ref 164), some (.int x1), some (.int x2), some (.int (x3 + 1))] [] (wI h 165 ((Int32.toNatClampNeg (((0 + (10 * x2)) + 6) + x3))) (rI h 168 ((Int32.toNatClampNeg ((4 * x2) + x3))))) Q))))) : zlV M_X11_rounds 117 [some (.ref 164), some (.int x1), some (.int x2), some (.int x3)] [] h Q := by
  refine z_iload_n (pc := 117) dX11_rounds_117 rfl rfl ?_
  refine z_iconst (pc := 118) (v := 4) dX11_rounds_118 (by decide) ?_
  refine z_icmp_ge (pc := 119) (tgt := 154) dX11_rounds_119 (by decide) (fun k3 => ?_) (fun k3 => ?_)
  · replace F := F.1 k3
    refine z_iinc (pc := 154) (v := x2 + 1) (ls' := [some (.ref 164), some (.int x1), some (.int (x2 + 1)), some (.int x3)]) dX11_rounds_154 (by decide) rfl rfl rfl ?_
    refine z_goto (pc := 157) (tgt := 78) dX11_rounds_157 (by decide) ?_
    exact q_sub (ls' := [some (.ref 164), some (.int x1), some (.int (x2 + 1)), none]) ⟨rfl, rfl, rfl, trivial⟩ F
  · replace F := F.2 k3
    refine z_aload_n (pc := 122) dX11_rounds_122 rfl rfl ?_
    refine q_getR (pc := 123) (i := 165) dX11_rounds_123 lk_RX11_7 (lyc rfl) (G 164 0 165 rfl) ?_
    refine z_iconst (pc := 126) (v := 0) dX11_rounds_126 (by decide) ?_
    refine z_bipush (pc := 127) (v := 10) dX11_rounds_127 (by decide) ?_
    refine z_iload_n (pc := 129) dX11_rounds_129 rfl rfl ?_
    refine z_imul (pc := 130) dX11_rounds_130 ?_
    refine z_iadd (pc := 131) dX11_rounds_131 ?_
    refine z_bipush (pc := 132) (v := 6) dX11_rounds_132 (by decide) ?_
    refine z_iadd (pc := 134) dX11_rounds_134 ?_
    refine z_iload_n (pc := 135) dX11_rounds_135 rfl rfl ?_
    refine z_iadd (pc := 136) dX11_rounds_136 ?_
    refine z_aload_n (pc := 137) dX11_rounds_137 rfl rfl ?_
    refine q_getR (pc := 138) (i := 168) dX11_rounds_138 lk_RX11_19 (lyc rfl) (G 164 4 168 rfl) ?_
    refine z_iconst (pc := 141) (v := 4) dX11_rounds_141 (by decide) ?_
    refine z_iload_n (pc := 142) dX11_rounds_142 rfl rfl ?_
    refine z_imul (pc := 143) dX11_rounds_143 ?_
    refine z_iload_n (pc := 144) dX11_rounds_144 rfl rfl ?_
    refine z_iadd (pc := 145) dX11_rounds_145 ?_
    obtain ⟨k1, F⟩ := F
    refine q_iald (pc := 146) (j := (Int32.toNatClampNeg ((4 * x2) + x3))) (v := rI h 168 ((Int32.toNatClampNeg ((4 * x2) + x3)))) dX11_rounds_146 (lyc rfl) (zvn (lnc rfl) k1) rfl rfl ?_
    obtain ⟨k2, F⟩ := F
    refine q_iast (pc := 147) (j := (Int32.toNatClampNeg (((0 + (10 * x2)) + 6) + x3))) dX11_rounds_147 (lyc rfl) (zvn (lnc rfl) k2) rfl ?_
    refine z_iinc (pc := 148) (v := x3 + 1) (ls' := [some (.ref 164), some (.int x1), some (.int x2), some (.int (x3 + 1))]) dX11_rounds_148 (by decide) rfl rfl rfl ?_
    refine z_goto (pc := 151) (tgt := 117) dX11_rounds_151 (by decide) ?_
    exact F
/-- a set is buried -/
theorem s_bury {N L : zN} {D : Int32} {h : zHp} {Q : zHp → Prop} (G : zG h) (hC : CN N) (hN : h.1 165 = N) (hL : h.1 168 = L) (cont : zlV M_X11_rounds 2 [some (.ref 164), some (.int D), none, none] [] (wA h 165 (Bu N L D)) Q) : zlV M_X11_rounds 78 [some (.ref 164), some (.int D), some (.int 0), none] [] h Q := by
  have h8 := hC.1.2
  have l78 : ∀ m t, t + m = cT N → zlV M_X11_rounds 78 [some (.ref 164), some (.int D), some (.int (nI t)), none] [] (wA h 165 (Bp N L D (10 * t))) Q := by
    intro m
    induction m with
    | zero =>
      intro t ht
      have : t = cT N := by omega
      subst this
      refine g_X11_rounds_78 (zG_of rfl G) ⟨fun _ => ?_, fun q => absurd (by rw [rI_As, Bp_hi hC (by omega), hC.1.1]; exact Int32.le_refl _) q⟩
      rw [Bp_end]
      exact cont
    | succ m ih =>
      intro t ht
      have htn : t < cT N := by omega
      have nx := ih (t + 1) (by omega)
      rw [← nI_1] at nx
      refine g_X11_rounds_78 (zG_of rfl G) ⟨fun q => absurd q (by rw [rI_As, Bp_hi hC (by omega), hC.1.1]; exact nI_ge htn (by omega)), fun _ => ⟨fun q => ?_, fun q => ?_⟩⟩
      · have t5 := ixT (t := t) (k := 5) (by omega) (by omega)
        rw [show nI 5 = (5 : Int32) from rfl] at t5
        refine ⟨t5.1, ?_⟩
        rw [t5.2, wA_wI]
        have e5 : Bp N L D (10 * t) = Bp N L D (10 * t + 5) := Bp_eq (by omega) (fun i h1 h2 => by
          rw [show i = 10 * t + (i - 10 * t) by omega, Bu_in htn q (by omega), if_neg (by omega), if_neg (by omega)])
        have b5 : (0 : Int32) = Bu N L D (10 * t + 5) := by rw [Bu_in htn q (by omega), if_pos rfl]
        rw [e5, Bp_up b5]
        have l117 : ∀ m2 k, k + m2 = 4 → zlV M_X11_rounds 117 [some (.ref 164), some (.int D), some (.int (nI t)), some (.int (nI k))] [] (wA h 165 (Bp N L D (10 * t + 6 + k))) Q := by
          intro m2
          induction m2 with
          | zero =>
            intro k hk
            have : k = 4 := by omega
            subst this
            refine g_X11_rounds_117 (zG_of rfl G) ⟨fun _ => ?_, fun q => absurd (by decide) q⟩
            rw [show 10 * t + 6 + 4 = 10 * (t + 1) by omega]
            exact nx
          | succ m2 ih2 =>
            intro k hk
            have nx2 := ih2 (k + 1) (by omega)
            rw [← nI_1] at nx2
            have j := ix4 (t := t) (k := k) (by omega) (by omega)
            have t6 := ixT (t := t) (k := 6 + k) (by omega) (by omega)
            rw [← nI_add, ← Int32.add_assoc, show nI 6 = (6 : Int32) from rfl] at t6
            refine g_X11_rounds_117 (zG_of rfl G) ⟨fun q => absurd q (nI_ge (b := 4) (by omega) (by omega)), fun _ => ⟨j.1, t6.1, ?_⟩⟩
            rw [j.2, t6.2, wA_wI, rI_An (by decide), ← Nat.add_assoc, Bp_up]
            · exact nx2
            · rw [Nat.add_assoc, Bu_in htn q (by omega), if_neg (by omega), if_pos (by omega), show 6 + k - 6 = k by omega, ← hL]
              rfl
        exact l117 4 0 (by omega)
      · rw [show Bp N L D (10 * t) = Bp N L D (10 * (t + 1)) from Bp_eq (by omega) (fun i h1 h2 => by
          rw [show i = 10 * t + (i - 10 * t) by omega, Bu_out (fun z => q z.2) (by omega)])]
        exact nx
  have := l78 (cT N) 0 (by omega)
  rw [show 10 * 0 = 0 from rfl, Bp_0, ← hN, wA_id] at this
  exact this
/-- the reference's rounds -/
theorem s_X11_rounds {N : zN} {s : Stk} {h : zHp} (G : zG h) (hC : CN N) (hN : h.1 165 = N) (hS : SM h s) (hn : ¬ rI h 164 8 = 0 → s.2.2 + 8 * na N ≤ 400) : zcV M_X11_rounds [.ref 164] h (fun h' => fR h h' ∧ h'.1 165 = (Ro (¬ rI h 164 8 = 0) 9 N s).1 ∧ SM h' (Ro (¬ rI h 164 8 = 0) 9 N s).2 ∧ Mm h' (Ro (¬ rI h 164 8 = 0) 9 N s).1) := by
  have loop : ∀ (m : Nat) (N' : zN) (s' : Stk) (h' : zHp) (D : Int32), na N' < m → CN N' → fR h h' → h'.1 165 = N' → SM h' s' → (¬ rI h 164 8 = 0 → s'.2.2 + 8 * na N' ≤ 400) → ¬ D = 0 → zlV M_X11_rounds 2 [some (.ref 164), some (.int D), none, none] [] h' (fun h2 => fR h h2 ∧ h2.1 165 = (Ro (¬ rI h 164 8 = 0) m N' s').1 ∧ SM h2 (Ro (¬ rI h 164 8 = 0) m N' s').2 ∧ Mm h2 (Ro (¬ rI h 164 8 = 0) m N' s').1) := by
    intro m
    induction m with
    | zero => intro N' s' h' D hm; omega
    | succ m ih =>
      intro N' s' h' D hm hC' f eN c hn' hD
      have h8 := hC'.1.2
      refine g_X11_rounds_2 (zG_of f.1 G) ⟨fun q => absurd q hD, fun _ => ?_⟩
      have mk := s_X11_makes (u := 5) (zG_of f.1 G) (by show zCt (h'.1 165 238) 8; rw [eN]; exact hC'.t) (by show zCt (h'.1 165 239) 10; rw [eN]; exact hC'.e) (by omega)
      rw [show nI 5 = (5 : Int32) from rfl] at mk
      refine zcV_then mk (fun h1 m1 => ⟨zG_of (m1.1.trans f.1) G, ?_⟩)
      have f1 := f.tr m1.r
      have eN1 : h1.1 165 = N' := m1.n.trans eN
      rw [eN] at m1
      have hrq : rq (cT N') (h1.1 168) (Mk N' 5).1 := by have := m1.2.2.2.2.1; rw [eN] at this; exact this
      have c1 : SM h1 s' := SM_of (m1.2.1 171 (by decide) (by decide) (by decide) (by decide)) (m1.2.2.1 10 (by decide)) c
      have e238 : rI h1 165 238 = nI (cT N') := by show h1.1 165 238 = _; rw [eN1]; exact hC'.1.1
      have l15 : ∀ (m2 j : Nat), j + m2 = cT N' → zlV M_X11_rounds 15 [some (.ref 164), some (.int (mask j (fun t => Al N' t ∧ h1.1 168 (4 * t + 3) ≤ N' (10 * t + 4)))), some (.int (nI j)), none] [] h1 (fun h2 => fR h h2 ∧ h2.1 165 = (Ro (¬ rI h 164 8 = 0) (m + 1) N' s').1 ∧ SM h2 (Ro (¬ rI h 164 8 = 0) (m + 1) N' s').2 ∧ Mm h2 (Ro (¬ rI h 164 8 = 0) (m + 1) N' s').1) := by
        intro m2
        induction m2 with
        | zero =>
          intro j hj
          have : j = cT N' := by omega
          subst this
          refine g_X11_rounds_15 (zG_of f1.1 G) ⟨fun _ => ?_, fun q => absurd (by rw [e238]; exact Int32.le_refl _) q⟩
          have eD : mask (cT N') (fun t => Al N' t ∧ h1.1 168 (4 * t + 3) ≤ N' (10 * t + 4)) = Dy N' (Mk N' 5).1 := Dy_rq hC' hrq
          rw [eD]
          have room := SOff_room (N := N') (L := (Mk N' 5).1) (s := s') hC'
          have fin : ∀ h2, fR h h2 → h2.1 165 = N' → h2.1 168 = h1.1 168 → h2.1 170 = h1.1 170 → rI h2 164 7 = rI h1 164 7 → SM h2 (@ite _ (¬ rI h 164 8 = 0) (Classical.propDecidable _) (SOff N' (Mk N' 5).1 1 (Dy N' (Mk N' 5).1) s') s') → zlV M_X11_rounds 78 [some (.ref 164), some (.int (Dy N' (Mk N' 5).1)), some (.int 0), none] [] h2 (fun h2 => fR h h2 ∧ h2.1 165 = (Ro (¬ rI h 164 8 = 0) (m + 1) N' s').1 ∧ SM h2 (Ro (¬ rI h 164 8 = 0) (m + 1) N' s').2 ∧ Mm h2 (Ro (¬ rI h 164 8 = 0) (m + 1) N' s').1) := by
            intro h2 f2 eN2 eL2 eO2 e72 c2
            refine s_bury (zG_of f2.1 G) hC' eN2 eL2 ?_
            rw [Bu_rq hrq]
            rw [Ro]
            rcases Classical.em (Dy N' (Mk N' 5).1 = 0) with q | q
            · rw [if_pos q, q, Bu_0 hC', ← eN2, wA_id, eN2]
              rw [q, SOff_0] at c2
              refine g_X11_rounds_2 (zG_of f2.1 G) ⟨fun _ => ⟨f2, eN2, ?_, ?_⟩, fun z => absurd rfl z⟩
              · split at c2 <;> exact c2
              · refine ⟨by rw [e72]; exact m1.2.2.2.1, by rw [eL2]; exact hrq, fun i hi => ?_⟩
                rw [eO2]
                exact m1.2.2.2.2.2 i hi
            · rw [if_neg q]
              have pos := Dy_pos hC' q
              have cnt := Bu_na (L := (Mk N' 5).1) hC' (D := Dy N' (Mk N' 5).1) (fun t ht hb => (Dy_al hC' (by omega) hb).2)
              refine ih _ _ _ _ (by omega) (Bu_CN hC').1 (f2.tr ⟨rfl, fun a _ z2 _ _ _ _ => wA_n z2, fun k _ _ => by rw [wA_n (by decide)]⟩) wA_s (SM_of (wA_n (by decide)) (by rw [wA_n (by decide)]) c2) (fun hp => ?_) q
              rw [if_pos hp]
              have := hn' hp
              omega
          have e8 : rI h1 164 8 = rI h 164 8 := f1.2.2 8 (by decide) (by decide)
          rcases Classical.em (rI h 164 8 = 0) with q | q
          · refine zcV_use (s_setsOff0 (zG_of f1.1 G) (e8.trans q)) ⟨zG_of f1.1 G, fin h1 f1 eN1 rfl rfl rfl ?_⟩
            rw [if_neg (fun z => z q)]
            exact c1
          · have hr := SOff_rq (N := N') (on := 1) (set := Dy N' (Mk N' 5).1) (s := s') hrq
            have so := s_X11_setsOff (on := 1) (set := Dy N' (Mk N' 5).1) (zG_of f1.1 G) (by rw [eN1]; exact hC') (by rw [e8]; exact q) c1 (by decide) (by rw [eN1, hr]; have := hn' q; omega)
            refine zcV_then so (fun h2 hh => ⟨zG_of (hh.1.1.trans f1.1) G, ?_⟩)
            refine fin h2 (f1.tr hh.1.r) ((hh.1.2.1 165 (by decide) (by decide)).trans eN1) (hh.1.2.1 168 (by decide) (by decide)) (hh.1.2.1 170 (by decide) (by decide)) (hh.1.2.2 7 (by decide)) ?_
            have h22 := hh.2
            rw [eN1, hr] at h22
            rw [if_pos q]
            exact h22
        | succ m2 ih2 =>
          intro j hj
          have hjn : j < cT N' := by omega
          have nx := ih2 (j + 1) (by omega)
          rw [← nI_1] at nx
          have t4 := ixT (t := j) (k := 4) (by omega) (by omega)
          rw [show nI 4 = (4 : Int32) from rfl] at t4
          have j3 := ix4 (t := j) (k := 3) (by omega) (by omega)
          rw [show nI 3 = (3 : Int32) from rfl] at j3
          have al := aliveM_nI (h := h1) (j := j) e238 h8 hjn
          rw [eN1] at al
          have rN : ∀ k, rI h1 165 k = N' k := fun k => by show h1.1 165 k = _; rw [eN1]
          refine g_X11_rounds_15 (zG_of f1.1 G) ⟨fun q => absurd q (by rw [e238]; exact nI_ge hjn (by omega)), fun _ => ⟨by rw [rN]; exact hC'.t, fun q => ?_, fun q => ⟨t4.1, j3.1, ?_⟩⟩⟩
          · rw [mask_s0 (fun z => q (al.mpr z.1))] at nx
            exact nx
          · rw [t4.2, j3.2, rN]
            refine ⟨fun q2 => ?_, fun q2 => ?_⟩
            · rw [mask_s0 (fun z => Int32.not_lt.mpr z.2 q2)] at nx
              exact nx
            · rw [mask_s1 ⟨al.mp q, Int32.not_lt.mp q2⟩] at nx
              exact nx
      exact l15 (cT N') 0 (by omega)
  have b9 : na N < 9 := by
    have a := nb_le (n := cT N) (p := Al N)
    have b := hC.1.2
    unfold na
    omega
  exact g_X11_rounds G (loop 9 N s h 1 b9 hC fR.rf hN hS hn (by decide))

