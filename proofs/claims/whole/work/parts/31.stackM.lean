/-! set off by a turn; the reference's stack -/
theorem SOn_cnt {N : zN} {s : Stk} (hC : CN N) : (SOn N s).2.2 ≤ s.2.2 + 8 := by
  have a := soW_cnt (sel := fun w => N (182 + 7 * w) = N 244 ∧ N (182 + 7 * w + 1) = 2) (f := fun w s => psh s (nI w) (-1)) (s := s) (k := 1) (fun w s => Nat.le_refl _) (cV N)
  have d := nb_le (n := cV N) (p := fun w => N (182 + 7 * w) = N 244 ∧ N (182 + 7 * w + 1) = 2)
  have e := hC.2.2.2.2
  unfold SOn
  omega
theorem s_X0_setOffByTurn {s : Stk} {N : zN} {h : zHp} (G : zG h) (hC : CN N) (hP : PW h 2) (hR : RW h 2 N) (hS : SC h s) (hn : s.2.2 + 8 ≤ 400) : zcV M_X0_setOffByTurn [.ref 1] h (fun h' => fS h h' ∧ SC h' (SOn N s)) := by
  have v8 := hC.2.2.2.2
  have hB : zW 2 := Or.inl rfl
  have loop : ∀ (m j : Nat) (h' : zHp), j + m = cV N → fS h h' → SC h' (soW (fun w => N (182 + 7 * w) = N 244 ∧ N (182 + 7 * w + 1) = 2) (fun w s => psh s (nI w) (-1)) j s) → zlV M_X0_setOffByTurn 2 [some (.ref 1), some (.int (nI j))] [] h' (fun h' => fS h h' ∧ SC h' (SOn N s)) := by
    intro m
    induction m with
    | zero =>
      intro j h' hj f c
      have : j = cV N := by omega
      subst this
      have hR' := f.rw hP hC hR
      exact g_X0_setOffByTurn_2 (zG_of f.1 G) ⟨fun _ => ⟨f, c⟩, fun q => absurd (by rw [hR'.1.2.2.2.1, hC.2.2.2.1]; exact Int32.le_refl _) q⟩
    | succ m ih =>
      intro j h' hj f c
      have hjn : j < cV N := by omega
      have hR' := f.rw hP hC hR
      have hP' := PW_of f.1 hP
      refine g_X0_setOffByTurn_2 (zG_of f.1 G) ⟨fun q => absurd q (by rw [hR'.1.2.2.2.1, hC.2.2.2.1]; exact nI_ge hjn (by omega)), fun _ => ⟨vp_in_nI (by omega) (by omega), ?_⟩⟩
      rw [nI_clamp (by omega)]
      have w0 := hR'.2.2.2.2 j 0 hjn (by omega)
      have w1 := hR'.2.2.2.2 j 1 hjn (by omega)
      change rI h' (rG h' 6 j) 0 = _ at w0
      change rI h' (rG h' 6 j) 1 = _ at w1
      rw [w0, w1, hR'.1.2.2.2.2.2.2.1]
      have top := soW_cnt (sel := fun w => N (182 + 7 * w) = N 244 ∧ N (182 + 7 * w + 1) = 2) (f := fun w s => psh s (nI w) (-1)) (s := s) (k := 1) (fun w s => Nat.le_refl _) j
      have top2 := nb_le (n := j) (p := fun w => N (182 + 7 * w) = N 244 ∧ N (182 + 7 * w + 1) = 2)
      refine ⟨hP'.v hB (by omega), fun q => ?_, fun q => ⟨fun q2 => ?_, fun q2 => zcV_then (s_X0_push (zG_of f.1 G) c (by omega)) (fun h3 hh => ⟨zG_of (hh.1.1.trans f.1) G, ?_⟩)⟩⟩
      · rw [nI_1]; exact ih (j + 1) h' (by omega) f (by rw [soW_0 (fun z => q z.1)]; exact c)
      · rw [nI_1]; exact ih (j + 1) h' (by omega) f (by rw [soW_0 (fun z => q2 z.2)]; exact c)
      · rw [nI_1]; exact ih (j + 1) h3 (by omega) (f.tr hh.1) (by rw [soW_1 ⟨q, q2⟩]; exact hh.2)
  exact g_X0_setOffByTurn G (loop (cV N) 0 h (by omega) fS.rf hS)
/-- nothing but the reference's stack has changed -/
def fM (h h' : zHp) : Prop := h'.2 = h.2 ∧ (∀ a, a ≠ 164 → a ≠ 171 → h'.1 a = h.1 a) ∧ ∀ k, k ≠ 10 → h'.1 164 k = h.1 164 k
theorem fM.rf {h : zHp} : fM h h := ⟨rfl, fun _ _ _ => rfl, fun _ _ => rfl⟩
theorem fM.tr {h h' h2 : zHp} (a : fM h h') (b : fM h' h2) : fM h h2 := ⟨b.1.trans a.1, fun z z1 z2 => (b.2.1 z z1 z2).trans (a.2.1 z z1 z2), fun z hz => (b.2.2 z hz).trans (a.2.2 z hz)⟩
theorem ix2 {n k : Nat} (hn : n < 400) (hk : k < 2) : vp_in ((2 * nI n) + nI k) 1024 ∧ ((2 * nI n) + nI k).toNatClampNeg = 2 * n + k := by
  have e : (2 * nI n) + nI k = nI (2 * n + k) := by
    rw [show (2 : Int32) = nI 2 from rfl, pk_mul, nI_add]
  rw [e]
  exact ⟨vp_in_nI (by omega) (by omega), nI_clamp (by omega)⟩
theorem ix20 {n : Nat} (hn : n < 400) : vp_in (2 * nI n) 1024 ∧ (2 * nI n).toNatClampNeg = 2 * n := by
  have e : 2 * nI n = nI (2 * n) := by
    rw [show (2 : Int32) = nI 2 from rfl, pk_mul]
  rw [e]
  exact ⟨vp_in_nI (by omega) (by omega), nI_clamp (by omega)⟩
/-- one more on the reference's stack -/
theorem SM_psh {h : zHp} {s : Stk} {w t : Int32} (hS : SM h s) : fM h (wI (wI (wI h 171 (2 * s.2.2) w) 171 (2 * s.2.2 + 1) t) 164 10 (nI (s.2.2 + 1))) ∧ SM (wI (wI (wI h 171 (2 * s.2.2) w) 171 (2 * s.2.2 + 1) t) 164 10 (nI (s.2.2 + 1))) (psh s w t) := by
  refine ⟨⟨rfl, fun a z1 z2 => by rw [wI_ne z1, wI_ne z2, wI_ne z2], fun k hk => ?_⟩, rI_s, fun i hi => ?_⟩
  · show rI _ 164 k = _
    rw [rI_k hk, rI_c (by decide), rI_c (by decide)]
    rfl
  · change i < s.2.2 + 1 at hi
    by_cases q : i = s.2.2
    · refine ⟨?_, ?_⟩
      · rw [q, rI_c (by decide), rI_k (by omega), rI_s]
        simp [psh, upd]
      · rw [q, rI_c (by decide), rI_s]
        simp [psh, upd]
    · have a := hS.2 i (by omega)
      refine ⟨?_, ?_⟩
      · rw [rI_c (by decide), rI_k (by omega), rI_k (by omega), a.1]
        simp only [psh, upd, if_neg q]
      · rw [rI_c (by decide), rI_k (by omega), rI_k (by omega), a.2]
        simp only [psh, upd, if_neg q]
theorem ixV' {e : Nat} (he : e < 8) : (vp_in ((182 + (7 * nI e)) + 0) 246 ∧ ((182 + (7 * nI e)) + 0).toNatClampNeg = 182 + 7 * e) ∧ (vp_in ((182 + (7 * nI e)) + 1) 246 ∧ ((182 + (7 * nI e)) + 1).toNatClampNeg = 182 + 7 * e + 1) ∧ (vp_in ((182 + (7 * nI e)) + 2) 246 ∧ ((182 + (7 * nI e)) + 2).toNatClampNeg = 182 + 7 * e + 2) ∧ (vp_in ((182 + (7 * nI e)) + 3) 246 ∧ ((182 + (7 * nI e)) + 3).toNatClampNeg = 182 + 7 * e + 3) ∧ (vp_in ((182 + (7 * nI e)) + 4) 246 ∧ ((182 + (7 * nI e)) + 4).toNatClampNeg = 182 + 7 * e + 4) ∧ (vp_in ((182 + (7 * nI e)) + 5) 246 ∧ ((182 + (7 * nI e)) + 5).toNatClampNeg = 182 + 7 * e + 5) ∧ (vp_in ((182 + (7 * nI e)) + 6) 246 ∧ ((182 + (7 * nI e)) + 6).toNatClampNeg = 182 + 7 * e + 6) :=
  ⟨ixV (k := 0) he (by omega), ixV (k := 1) he (by omega), ixV (k := 2) he (by omega), ixV (k := 3) he (by omega), ixV (k := 4) he (by omega), ixV (k := 5) he (by omega), ixV (k := 6) he (by omega)⟩
theorem g_X11_setsOff {x1 : Int32} {x2 : Int32} {h : zHp} {Q : zHp → Prop}  (G : zG h) (F : zlV M_X11_setsOff 2 [some (.ref 164), some (.int x1), some (.int x2), some (.int 0), none, none, none, none] [] h Q) : zcV M_X11_setsOff [.ref 164, .int x1, .int x2] h Q := by
  show zw zNT zNT M_X11_setsOff 0 [some (.ref 164), some (.int x1), some (.int x2), none, none, none, none, none] [] h _
  refine z_iconst (pc := 0) (v := 0) dX11_setsOff_0 (by decide) ?_
  refine z_istore_n (pc := 1) (ls' := [some (.ref 164), some (.int x1), some (.int x2), some (.int 0), none, none, none, none]) dX11_setsOff_1 rfl (by decide) rfl ?_
  exact F
theorem g_X11_setsOff_2 {x1 : Int32} {x2 : Int32} {x3 : Int32} {h : zHp} {Q : zHp → Prop}  (G : zG h) (F : (2 ≤ x3 → (Q h)) ∧ (¬ (2 ≤ x3) → ((rI h 164 8 = 0 → (Q h)) ∧ (¬ (rI h 164 8 = 0) → ((¬ x3 = 0 → (zlV M_X11_setsOff 44 [some (.ref 164), some (.int x1), some (.int x2), some (.int x3), some (.int (1 - (rI h 165 244))), some (.int 0), none, none] [] h Q)) ∧ (x3 = 0 → (zlV M_X11_setsOff 44 [some (.ref 164), some (.int x1), some (.int x2), some (.int x3), some (.int (rI h 165 244)), some (.int 0), none, none] [] h Q))))))) : zlV M_X11_setsOff 2 [some (.ref 164), some (.int x1), some (.int x2), some (.int x3), none, none, none, none] [] h Q := by
  refine z_iload_n (pc := 2) dX11_setsOff_2 rfl rfl ?_
  refine z_iconst (pc := 3) (v := 2) dX11_setsOff_3 (by decide) ?_
  refine z_icmp_ge (pc := 4) (tgt := 217) dX11_setsOff_4 (by decide) (fun k3 => ?_) (fun k3 => ?_)
  · replace F := F.1 k3
    exact q_retV (pc := 217) dX11_setsOff_217 rfl F
  · replace F := F.2 k3
    refine z_aload_n (pc := 7) dX11_setsOff_7 rfl rfl ?_
    refine q_getI (pc := 8) (v := rI h 164 8) dX11_setsOff_8 lk_RX11_135 (lyc rfl) rfl ?_
    refine z_if_eq (pc := 11) (tgt := 217) dX11_setsOff_11 (by decide) (fun k2 => ?_) (fun k2 => ?_)
    · replace F := F.1 k2
      exact q_retV (pc := 217) dX11_setsOff_217 rfl F
    · replace F := F.2 k2
      refine z_iload_n (pc := 14) dX11_setsOff_14 rfl rfl ?_
      refine z_if_ne (pc := 15) (tgt := 29) dX11_setsOff_15 (by decide) (fun k1 => ?_) (fun k1 => ?_)
      · replace F := F.1 k1
        refine z_iconst (pc := 29) (v := 1) dX11_setsOff_29 (by decide) ?_
        refine z_aload_n (pc := 30) dX11_setsOff_30 rfl rfl ?_
        refine q_getR (pc := 31) (i := 165) dX11_setsOff_31 lk_RX11_7 (lyc rfl) (G 164 0 165 rfl) ?_
        refine z_sipush (pc := 34) (v := 244) dX11_setsOff_34 (by decide) ?_
        refine q_iald (pc := 37) (j := 244) (v := rI h 165 244) dX11_setsOff_37 (lyc rfl) (zvl (lnc rfl) (by decide)) (by decide) rfl ?_
        refine z_isub (pc := 38) dX11_setsOff_38 ?_
        refine z_istore (pc := 39) (ls' := [some (.ref 164), some (.int x1), some (.int x2), some (.int x3), some (.int (1 - (rI h 165 244))), none, none, none]) dX11_setsOff_39 (by decide) rfl ?_
        refine z_iconst (pc := 41) (v := 0) dX11_setsOff_41 (by decide) ?_
        refine z_istore (pc := 42) (ls' := [some (.ref 164), some (.int x1), some (.int x2), some (.int x3), some (.int (1 - (rI h 165 244))), some (.int 0), none, none]) dX11_setsOff_42 (by decide) rfl ?_
        exact F
      · replace F := F.2 k1
        refine z_aload_n (pc := 18) dX11_setsOff_18 rfl rfl ?_
        refine q_getR (pc := 19) (i := 165) dX11_setsOff_19 lk_RX11_7 (lyc rfl) (G 164 0 165 rfl) ?_
        refine z_sipush (pc := 22) (v := 244) dX11_setsOff_22 (by decide) ?_
        refine q_iald (pc := 25) (j := 244) (v := rI h 165 244) dX11_setsOff_25 (lyc rfl) (zvl (lnc rfl) (by decide)) (by decide) rfl ?_
        refine z_goto (pc := 26) (tgt := 39) dX11_setsOff_26 (by decide) ?_
        refine z_istore (pc := 39) (ls' := [some (.ref 164), some (.int x1), some (.int x2), some (.int x3), some (.int (rI h 165 244)), none, none, none]) dX11_setsOff_39 (by decide) rfl ?_
        refine z_iconst (pc := 41) (v := 0) dX11_setsOff_41 (by decide) ?_
        refine z_istore (pc := 42) (ls' := [some (.ref 164), some (.int x1), some (.int x2), some (.int x3), some (.int (rI h 165 244)), some (.int 0), none, none]) dX11_setsOff_42 (by decide) rfl ?_
        exact F
theorem g_X11_setsOff_44 {x1 : Int32} {x2 : Int32} {x3 : Int32} {x4 : Int32} {x5 : Int32} {h : zHp} {Q : zHp → Prop}  (G : zG h) (F : (rI h 165 241 ≤ x5 → (zlV M_X11_setsOff 2 [some (.ref 164), some (.int x1), some (.int x2), some (.int (x3 + 1)), none, none, none, none] [] h Q)) ∧ (¬ (rI h 165 241 ≤ x5) → (vp_in ((182 + (7 * x5)) + 0) 246 ∧ ((¬ rI h 165 ((Int32.toNatClampNeg (((182 + (7 * x5)) + 0)))) = x4 → (zlV M_X11_setsOff 44 [some (.ref 164), some (.int x1), some (.int x2), some (.int x3), some (.int x4), some (.int (x5 + 1)), none, none] [] h Q)) ∧ (rI h 165 ((Int32.toNatClampNeg (((182 + (7 * x5)) + 0)))) = x4 → (vp_in ((182 + (7 * x5)) + 1) 246 ∧ ((¬ rI h 165 ((Int32.toNatClampNeg (((182 + (7 * x5)) + 1)))) = x1 → (zlV M_X11_setsOff 44 [some (.ref 164), some (.int x1), some (.int x2), some (.int x3), some (.int x4), some (.int (x5 + 1)), none, none] [] h Q)) ∧ (rI h 165 ((Int32.toNatClampNeg (((182 + (7 * x5)) + 1)))) = x1 → ((¬ x1 = 2 → (zlV M_X11_setsOff 93 [some (.ref 164), some (.int x1), some (.int x2), some (.int x3), some (.int x4), some (.int x5), none, none] [] h Q)) ∧ (x1 = 2 → ((¬ x3 = 1 → (zlV M_X11_setsOff 93 [some (.ref 164), some (.int x1), some (.int x2), some (.int x3), some (.int x4), some (.int x5), none, none] [] h Q)) ∧ (x3 = 1 → (zlV M_X11_setsOff 44 [some (.ref 164), some (.int x1), some (.int x2), some (.int x3), some (.int x4), some (.int (x5 + 1)), none, none] [] h Q))))))))))))) : zlV M_X11_setsOff 44 [some (.ref 164), some (.int x1), some (.int x2), some (.int x3), some (.int x4), some (.int x5), none, none] [] h Q := by
  refine z_iload (pc := 44) dX11_setsOff_44 rfl ?_
  refine z_aload_n (pc := 46) dX11_setsOff_46 rfl rfl ?_
  refine q_getR (pc := 47) (i := 165) dX11_setsOff_47 lk_RX11_7 (lyc rfl) (G 164 0 165 rfl) ?_
  refine z_sipush (pc := 50) (v := 241) dX11_setsOff_50 (by decide) ?_
  refine q_iald (pc := 53) (j := 241) (v := rI h 165 241) dX11_setsOff_53 (lyc rfl) (zvl (lnc rfl) (by decide)) (by decide) rfl ?_
  refine z_icmp_ge (pc := 54) (tgt := 211) dX11_setsOff_54 (by decide) (fun k7 => ?_) (fun k7 => ?_)
  · replace F := F.1 k7
    refine z_iinc (pc := 211) (v := x3 + 1) (ls' := [some (.ref 164), some (.int x1), some (.int x2), some (.int (x3 + 1)), some (.int x4), some (.int x5), none, none]) dX11_setsOff_211 (by decide) rfl rfl rfl ?_
    refine z_goto (pc := 214) (tgt := 2) dX11_setsOff_214 (by decide) ?_
    exact q_sub (ls' := [some (.ref 164), some (.int x1), some (.int x2), some (.int (x3 + 1)), none, none, none, none]) ⟨rfl, rfl, rfl, rfl, trivial⟩ F
  · replace F := F.2 k7
    refine z_aload_n (pc := 57) dX11_setsOff_57 rfl rfl ?_
    refine z_iload (pc := 58) dX11_setsOff_58 rfl ?_
    refine z_iconst (pc := 60) (v := 0) dX11_setsOff_60 (by decide) ?_
    obtain ⟨k1, F⟩ := F
    refine q_invV (pc := 61) (As := [.int x5, .int 0]) (st := []) dX11_setsOff_61 ok_X11_watcher ml_RX11_139 iv_X11_watcher pa_X11_watcher ⟨Nat.le_of_ble_eq_true rfl, Nat.le_of_ble_eq_true rfl⟩ (lyc rfl) (q_pI (s_X11_watcher G k1) rfl ?_)
    refine z_iload (pc := 64) dX11_setsOff_64 rfl ?_
    refine z_icmp_ne (pc := 66) (tgt := 205) dX11_setsOff_66 (by decide) (fun k6 => ?_) (fun k6 => ?_)
    · replace F := F.1 k6
      refine z_iinc (pc := 205) (v := x5 + 1) (ls' := [some (.ref 164), some (.int x1), some (.int x2), some (.int x3), some (.int x4), some (.int (x5 + 1)), none, none]) dX11_setsOff_205 (by decide) rfl rfl rfl ?_
      refine z_goto (pc := 208) (tgt := 44) dX11_setsOff_208 (by decide) ?_
      exact F
    · replace F := F.2 k6
      refine z_aload_n (pc := 69) dX11_setsOff_69 rfl rfl ?_
      refine z_iload (pc := 70) dX11_setsOff_70 rfl ?_
      refine z_iconst (pc := 72) (v := 1) dX11_setsOff_72 (by decide) ?_
      obtain ⟨k2, F⟩ := F
      refine q_invV (pc := 73) (As := [.int x5, .int 1]) (st := []) dX11_setsOff_73 ok_X11_watcher ml_RX11_139 iv_X11_watcher pa_X11_watcher ⟨Nat.le_of_ble_eq_true rfl, Nat.le_of_ble_eq_true rfl⟩ (lyc rfl) (q_pI (s_X11_watcher G k2) rfl ?_)
      refine z_iload_n (pc := 76) dX11_setsOff_76 rfl rfl ?_
      refine z_icmp_ne (pc := 77) (tgt := 205) dX11_setsOff_77 (by decide) (fun k5 => ?_) (fun k5 => ?_)
      · replace F := F.1 k5
        refine z_iinc (pc := 205) (v := x5 + 1) (ls' := [some (.ref 164), some (.int x1), some (.int x2), some (.int x3), some (.int x4), some (.int (x5 + 1)), none, none]) dX11_setsOff_205 (by decide) rfl rfl rfl ?_
        refine z_goto (pc := 208) (tgt := 44) dX11_setsOff_208 (by decide) ?_
        exact F
      · replace F := F.2 k5
        refine z_iload_n (pc := 80) dX11_setsOff_80 rfl rfl ?_
        refine z_iconst (pc := 81) (v := 2) dX11_setsOff_81 (by decide) ?_
        refine z_icmp_ne (pc := 82) (tgt := 93) dX11_setsOff_82 (by decide) (fun k4 => ?_) (fun k4 => ?_)
        · replace F := F.1 k4
          exact F
        · replace F := F.2 k4
          refine z_iload_n (pc := 85) dX11_setsOff_85 rfl rfl ?_
          refine z_iconst (pc := 86) (v := 1) dX11_setsOff_86 (by decide) ?_
          refine z_icmp_ne (pc := 87) (tgt := 93) dX11_setsOff_87 (by decide) (fun k3 => ?_) (fun k3 => ?_)
          · replace F := F.1 k3
            exact F
          · replace F := F.2 k3
            refine z_goto (pc := 90) (tgt := 205) dX11_setsOff_90 (by decide) ?_
            refine z_iinc (pc := 205) (v := x5 + 1) (ls' := [some (.ref 164), some (.int x1), some (.int x2), some (.int x3), some (.int x4), some (.int (x5 + 1)), none, none]) dX11_setsOff_205 (by decide) rfl rfl rfl ?_
            refine z_goto (pc := 208) (tgt := 44) dX11_setsOff_208 (by decide) ?_
            exact F
theorem g_X11_setsOff_93 {x1 : Int32} {x2 : Int32} {x3 : Int32} {x4 : Int32} {x5 : Int32} {h : zHp} {Q : zHp → Prop}  (G : zG h) (F : (¬ x1 = 2 → (vp_in ((182 + (7 * x5)) + 5) 246 ∧ (vp_in ((182 + (7 * x5)) + 6) 246 ∧ (zCt (rI h 165 238) 8 ∧ (zlV M_X11_setsOff 132 [some (.ref 164), some (.int x1), some (.int x2), some (.int x3), some (.int x4), some (.int x5), some (.int (x2 &&& (mask (cT (h.1 165)) (Sc (h.1 165) (h.1 168) (rI h 165 ((Int32.toNatClampNeg (((182 + (7 * x5)) + 5))))) (rI h 165 ((Int32.toNatClampNeg (((182 + (7 * x5)) + 6))))))))), some (.int 0)] [] h Q))))) ∧ (x1 = 2 → (zlV M_X11_setsOff 132 [some (.ref 164), some (.int x1), some (.int x2), some (.int x3), some (.int x4), some (.int x5), some (.int 1), some (.int 0)] [] h Q))) : zlV M_X11_setsOff 93 [some (.ref 164), some (.int x1), some (.int x2), some (.int x3), some (.int x4), some (.int x5), none, none] [] h Q := by
  refine z_iload_n (pc := 93) dX11_setsOff_93 rfl rfl ?_
  refine z_iconst (pc := 94) (v := 2) dX11_setsOff_94 (by decide) ?_
  refine z_icmp_ne (pc := 95) (tgt := 102) dX11_setsOff_95 (by decide) (fun k4 => ?_) (fun k4 => ?_)
  · replace F := F.1 k4
    refine z_iload_n (pc := 102) dX11_setsOff_102 rfl rfl ?_
    refine z_aload_n (pc := 103) dX11_setsOff_103 rfl rfl ?_
    refine z_aload_n (pc := 104) dX11_setsOff_104 rfl rfl ?_
    refine q_getR (pc := 105) (i := 168) dX11_setsOff_105 lk_RX11_19 (lyc rfl) (G 164 4 168 rfl) ?_
    refine z_aload_n (pc := 108) dX11_setsOff_108 rfl rfl ?_
    refine z_iload (pc := 109) dX11_setsOff_109 rfl ?_
    refine z_iconst (pc := 111) (v := 5) dX11_setsOff_111 (by decide) ?_
    obtain ⟨k1, F⟩ := F
    refine q_invV (pc := 112) (As := [.int x5, .int 5]) (st := [.ref 168, .ref 164, .int x2]) dX11_setsOff_112 ok_X11_watcher ml_RX11_139 iv_X11_watcher pa_X11_watcher ⟨Nat.le_of_ble_eq_true rfl, Nat.le_of_ble_eq_true rfl⟩ (lyc rfl) (q_pI (s_X11_watcher G k1) rfl ?_)
    refine z_aload_n (pc := 115) dX11_setsOff_115 rfl rfl ?_
    refine z_iload (pc := 116) dX11_setsOff_116 rfl ?_
    refine z_bipush (pc := 118) (v := 6) dX11_setsOff_118 (by decide) ?_
    obtain ⟨k2, F⟩ := F
    refine q_invV (pc := 120) (As := [.int x5, .int 6]) (st := [.int (rI h 165 ((Int32.toNatClampNeg (((182 + (7 * x5)) + 5))))), .ref 168, .ref 164, .int x2]) dX11_setsOff_120 ok_X11_watcher ml_RX11_139 iv_X11_watcher pa_X11_watcher ⟨Nat.le_of_ble_eq_true rfl, Nat.le_of_ble_eq_true rfl⟩ (lyc rfl) (q_pI (s_X11_watcher G k2) rfl ?_)
    obtain ⟨k3, F⟩ := F
    refine q_invV (pc := 123) (As := [.ref 168, .int (rI h 165 ((Int32.toNatClampNeg (((182 + (7 * x5)) + 5))))), .int (rI h 165 ((Int32.toNatClampNeg (((182 + (7 * x5)) + 6)))))]) (st := [.int x2]) dX11_setsOff_123 ok_X11_inScope ml_RX11_106 iv_X11_inScope pa_X11_inScope ⟨Nat.le_of_ble_eq_true rfl, Nat.le_of_ble_eq_true rfl⟩ (lyc rfl) (q_pI (s_X11_inScope G (Or.inl rfl) k3) rfl ?_)
    refine z_iand (pc := 126) dX11_setsOff_126 ?_
    refine z_istore (pc := 127) (ls' := [some (.ref 164), some (.int x1), some (.int x2), some (.int x3), some (.int x4), some (.int x5), some (.int (x2 &&& (mask (cT (h.1 165)) (Sc (h.1 165) (h.1 168) (rI h 165 ((Int32.toNatClampNeg (((182 + (7 * x5)) + 5))))) (rI h 165 ((Int32.toNatClampNeg (((182 + (7 * x5)) + 6))))))))), none]) dX11_setsOff_127 (by decide) rfl ?_
    refine z_iconst (pc := 129) (v := 0) dX11_setsOff_129 (by decide) ?_
    refine z_istore (pc := 130) (ls' := [some (.ref 164), some (.int x1), some (.int x2), some (.int x3), some (.int x4), some (.int x5), some (.int (x2 &&& (mask (cT (h.1 165)) (Sc (h.1 165) (h.1 168) (rI h 165 ((Int32.toNatClampNeg (((182 + (7 * x5)) + 5))))) (rI h 165 ((Int32.toNatClampNeg (((182 + (7 * x5)) + 6))))))))), some (.int 0)]) dX11_setsOff_130 (by decide) rfl ?_
    exact F
  · replace F := F.2 k4
    refine z_iconst (pc := 98) (v := 1) dX11_setsOff_98 (by decide) ?_
    refine z_goto (pc := 99) (tgt := 127) dX11_setsOff_99 (by decide) ?_
    refine z_istore (pc := 127) (ls' := [some (.ref 164), some (.int x1), some (.int x2), some (.int x3), some (.int x4), some (.int x5), some (.int 1), none]) dX11_setsOff_127 (by decide) rfl ?_
    refine z_iconst (pc := 129) (v := 0) dX11_setsOff_129 (by decide) ?_
    refine z_istore (pc := 130) (ls' := [some (.ref 164), some (.int x1), some (.int x2), some (.int x3), some (.int x4), some (.int x5), some (.int 1), some (.int 0)]) dX11_setsOff_130 (by decide) rfl ?_
    exact F
theorem g_X11_setsOff_132 {x1 : Int32} {x2 : Int32} {x3 : Int32} {x4 : Int32} {x5 : Int32} {x6 : Int32} {x7 : Int32} {h : zHp} {Q : zHp → Prop}  (G : zG h) (F : (8 ≤ x7 → (zlV M_X11_setsOff 44 [some (.ref 164), some (.int x1), some (.int x2), some (.int x3), some (.int x4), some (.int (x5 + 1)), none, none] [] h Q)) ∧ (¬ (8 ≤ x7) → (((bi x6 x7) → (vp_in (2 * (rI h 164 10)) 1024 ∧ ((¬ x1 = 2 → (vp_in ((2 * (rI h 164 10)) + 1) 1024 ∧ (zlV M_X11_setsOff 132 [some (.ref 164), some (.int x1), some (.int x2), some (.int x3), some (.int x4), some (.int x5), some (.int x6), some (.int (x7 + 1))] [] (wI (wI (wI h 171 ((Int32.toNatClampNeg (2 * (rI h 164 10)))) x5) 171 ((Int32.toNatClampNeg ((2 * (rI h 164 10)) + 1))) x7) 164 10 ((rI h 164 10) + 1)) Q))) ∧ (x1 = 2 → (vp_in ((2 * (rI h 164 10)) + 1) 1024 ∧ (zlV M_X11_setsOff 132 [some (.ref 164), some (.int x1), some (.int x2), some (.int x3), some (.int x4), some (.int x5), some (.int x6), some (.int (x7 + 1))] [] (wI (wI (wI h 171 ((Int32.toNatClampNeg (2 * (rI h 164 10)))) x5) 171 ((Int32.toNatClampNeg ((2 * (rI h 164 10)) + 1))) (-1)) 164 10 ((rI h 164 10) + 1)) Q)))))) ∧ (¬ (bi x6 x7) → (zlV M_X11_setsOff 132 [some (.ref 164), some (.int x1), some (.int x2), some (.int x3), some (.int x4), some (.int x5), some (.int x6), some (.int (x7 + 1))] [] h Q))))) : zlV M_X11_setsOff 132 [some (.ref 164), some (.int x1), some (.int x2), some (.int x3), some (.int x4), some (.int x5), some (.int x6), some (.int x7)] [] h Q := by
  refine z_iload (pc := 132) dX11_setsOff_132 rfl ?_
  refine z_bipush (pc := 134) (v := 8) dX11_setsOff_134 (by decide) ?_
  refine z_icmp_ge (pc := 136) (tgt := 205) dX11_setsOff_136 (by decide) (fun k6 => ?_) (fun k6 => ?_)
  · replace F := F.1 k6
    refine z_iinc (pc := 205) (v := x5 + 1) (ls' := [some (.ref 164), some (.int x1), some (.int x2), some (.int x3), some (.int x4), some (.int (x5 + 1)), some (.int x6), some (.int x7)]) dX11_setsOff_205 (by decide) rfl rfl rfl ?_
    refine z_goto (pc := 208) (tgt := 44) dX11_setsOff_208 (by decide) ?_
    exact q_sub (ls' := [some (.ref 164), some (.int x1), some (.int x2), some (.int x3), some (.int x4), some (.int (x5 + 1)), none, none]) ⟨rfl, rfl, rfl, rfl, rfl, rfl, trivial⟩ F
  · replace F := F.2 k6
    refine z_iload (pc := 139) dX11_setsOff_139 rfl ?_
    refine z_iload (pc := 141) dX11_setsOff_141 rfl ?_
    refine q_invS (pc := 143) (As := [.int x6, .int x7]) (st := []) dX11_setsOff_143 ok_X11_has ml_RX11_96 st_X11_has pa_X11_has ⟨Nat.le_of_ble_eq_true rfl, Nat.le_of_ble_eq_true rfl⟩ (q_pI (s_X11_has G) rfl ?_)
    refine z_if_ne (pc := 146) (tgt := 152) dX11_setsOff_146 (by decide) (fun k5 => ?_) (fun k5 => ?_)
    · replace F := F.1 (zbn.mp k5)
      refine z_aload_n (pc := 152) dX11_setsOff_152 rfl rfl ?_
      refine q_getR (pc := 153) (i := 171) dX11_setsOff_153 lk_RX11_28 (lyc rfl) (G 164 9 171 rfl) ?_
      refine z_iconst (pc := 156) (v := 2) dX11_setsOff_156 (by decide) ?_
      refine z_aload_n (pc := 157) dX11_setsOff_157 rfl rfl ?_
      refine q_getI (pc := 158) (v := rI h 164 10) dX11_setsOff_158 lk_RX11_142 (lyc rfl) rfl ?_
      refine z_imul (pc := 161) dX11_setsOff_161 ?_
      refine z_iload (pc := 162) dX11_setsOff_162 rfl ?_
      obtain ⟨k1, F⟩ := F
      refine q_iast (pc := 164) (j := (Int32.toNatClampNeg (2 * (rI h 164 10)))) dX11_setsOff_164 (lyc rfl) (zvn (lnc rfl) k1) rfl ?_
      refine z_aload_n (pc := 165) dX11_setsOff_165 rfl rfl ?_
      refine q_getR (pc := 166) (i := 171) dX11_setsOff_166 lk_RX11_28 (lyc rfl) (G 164 9 171 rfl) ?_
      refine z_iconst (pc := 169) (v := 2) dX11_setsOff_169 (by decide) ?_
      refine z_aload_n (pc := 170) dX11_setsOff_170 rfl rfl ?_
      refine q_getI (pc := 171) (v := rI h 164 10) dX11_setsOff_171 lk_RX11_142 (lyc rfl) (rI_c (by decide)) ?_
      refine z_imul (pc := 174) dX11_setsOff_174 ?_
      refine z_iconst (pc := 175) (v := 1) dX11_setsOff_175 (by decide) ?_
      refine z_iadd (pc := 176) dX11_setsOff_176 ?_
      refine z_iload_n (pc := 177) dX11_setsOff_177 rfl rfl ?_
      refine z_iconst (pc := 178) (v := 2) dX11_setsOff_178 (by decide) ?_
      refine z_icmp_ne (pc := 179) (tgt := 186) dX11_setsOff_179 (by decide) (fun k4 => ?_) (fun k4 => ?_)
      · replace F := F.1 k4
        refine z_iload (pc := 186) dX11_setsOff_186 rfl ?_
        obtain ⟨k2, F⟩ := F
        refine q_iast (pc := 188) (j := (Int32.toNatClampNeg ((2 * (rI h 164 10)) + 1))) dX11_setsOff_188 (lyc rfl) (zvn (lnc rfl) k2) rfl ?_
        refine z_aload_n (pc := 189) dX11_setsOff_189 rfl rfl ?_
        refine z_dup (pc := 190) dX11_setsOff_190 rfl ?_
        refine q_getI (pc := 191) (v := rI h 164 10) dX11_setsOff_191 lk_RX11_142 (lyc rfl) ((rI_c (by decide)).trans (rI_c (by decide))) ?_
        refine z_iconst (pc := 194) (v := 1) dX11_setsOff_194 (by decide) ?_
        refine z_iadd (pc := 195) dX11_setsOff_195 ?_
        refine q_putI (pc := 196) dX11_setsOff_196 lk_RX11_142 (lyc rfl) ?_
        refine z_iinc (pc := 199) (v := x7 + 1) (ls' := [some (.ref 164), some (.int x1), some (.int x2), some (.int x3), some (.int x4), some (.int x5), some (.int x6), some (.int (x7 + 1))]) dX11_setsOff_199 (by decide) rfl rfl rfl ?_
        refine z_goto (pc := 202) (tgt := 132) dX11_setsOff_202 (by decide) ?_
        exact F
      · replace F := F.2 k4
        refine z_iconst (pc := 182) (v := -1) dX11_setsOff_182 (by decide) ?_
        refine z_goto (pc := 183) (tgt := 188) dX11_setsOff_183 (by decide) ?_
        obtain ⟨k3, F⟩ := F
        refine q_iast (pc := 188) (j := (Int32.toNatClampNeg ((2 * (rI h 164 10)) + 1))) dX11_setsOff_188 (lyc rfl) (zvn (lnc rfl) k3) rfl ?_
        refine z_aload_n (pc := 189) dX11_setsOff_189 rfl rfl ?_
        refine z_dup (pc := 190) dX11_setsOff_190 rfl ?_
        refine q_getI (pc := 191) (v := rI h 164 10) dX11_setsOff_191 lk_RX11_142 (lyc rfl) ((rI_c (by decide)).trans (rI_c (by decide))) ?_
        refine z_iconst (pc := 194) (v := 1) dX11_setsOff_194 (by decide) ?_
        refine z_iadd (pc := 195) dX11_setsOff_195 ?_
        refine q_putI (pc := 196) dX11_setsOff_196 lk_RX11_142 (lyc rfl) ?_
        refine z_iinc (pc := 199) (v := x7 + 1) (ls' := [some (.ref 164), some (.int x1), some (.int x2), some (.int x3), some (.int x4), some (.int x5), some (.int x6), some (.int (x7 + 1))]) dX11_setsOff_199 (by decide) rfl rfl rfl ?_
        refine z_goto (pc := 202) (tgt := 132) dX11_setsOff_202 (by decide) ?_
        exact F
    · replace F := F.2 (zb0.mp k5)
      refine z_goto (pc := 149) (tgt := 199) dX11_setsOff_149 (by decide) ?_
      refine z_iinc (pc := 199) (v := x7 + 1) (ls' := [some (.ref 164), some (.int x1), some (.int x2), some (.int x3), some (.int x4), some (.int x5), some (.int x6), some (.int (x7 + 1))]) dX11_setsOff_199 (by decide) rfl rfl rfl ?_
      refine z_goto (pc := 202) (tgt := 132) dX11_setsOff_202 (by decide) ?_
      exact F
theorem s_setsOff0 {on set : Int32} {h : zHp} (G : zG h) (h0 : rI h 164 8 = 0) : zcV M_X11_setsOff [.ref 164, .int on, .int set] h (fun h' => h' = h) :=
  g_X11_setsOff G (g_X11_setsOff_2 G ⟨fun _ => rfl, fun _ => ⟨fun _ => rfl, fun q => absurd h0 q⟩⟩)
/-- what an owner's watchers do, as the reference goes through them -/
theorem s_X11_setsOff {on set : Int32} {s : Stk} {h : zHp} (G : zG h) (hC : CN (h.1 165)) (h1 : ¬ rI h 164 8 = 0) (hS : SM h s) (h2 : ¬ on = 2) (hn : (SOff (h.1 165) (h.1 168) on set s).2.2 ≤ 400) : zcV M_X11_setsOff [.ref 164, .int on, .int set] h (fun h' => fM h h' ∧ SM h' (SOff (h.1 165) (h.1 168) on set s)) := by
  have h8 := hC.1.2
  have v8 := hC.2.2.2.2
  generalize hN : h.1 165 = N at *
  generalize hL : h.1 168 = L at *
  have hmono : ∀ (w : Nat) (s : Stk), s.2.2 ≤ (soT (fun t => bi set (nI t) ∧ t < cT N ∧ Sc N L (N (182 + 7 * w + 5)) (N (182 + 7 * w + 6)) t) (nI w) 8 s).2.2 := fun w s => by rw [soT_cnt]; omega
  -- the things of one watcher
  have l132 : ∀ (m t : Nat) (h' : zHp) (o ow : Int32) (j : Nat) (s0 : Stk), t + m = 8 → j < cV N → fM h h' → SM h' (soT (fun t => bi set (nI t) ∧ t < cT N ∧ Sc N L (N (182 + 7 * j + 5)) (N (182 + 7 * j + 6)) t) (nI j) t s0) → (soT (fun t => bi set (nI t) ∧ t < cT N ∧ Sc N L (N (182 + 7 * j + 5)) (N (182 + 7 * j + 6)) t) (nI j) 8 s0).2.2 ≤ 400 → (∀ h2, fM h h2 → SM h2 (soT (fun t => bi set (nI t) ∧ t < cT N ∧ Sc N L (N (182 + 7 * j + 5)) (N (182 + 7 * j + 6)) t) (nI j) 8 s0) → zlV M_X11_setsOff 44 [some (.ref 164), some (.int on), some (.int set), some (.int o), some (.int ow), some (.int (nI j + 1)), none, none] [] h2 (fun h' => fM h h' ∧ SM h' (SOff N L on set s))) → zlV M_X11_setsOff 132 [some (.ref 164), some (.int on), some (.int set), some (.int o), some (.int ow), some (.int (nI j)), some (.int (set &&& mask (cT N) (Sc N L (N (182 + 7 * j + 5)) (N (182 + 7 * j + 6))))), some (.int (nI t))] [] h' (fun h' => fM h h' ∧ SM h' (SOff N L on set s)) := by
    intro m
    induction m with
    | zero =>
      intro t h' o ow j s0 ht hj f c hb cont
      have : t = 8 := by omega
      subst this
      exact g_X11_setsOff_132 (zG_of f.1 G) ⟨fun _ => cont h' f c, fun q => absurd (by decide) q⟩
    | succ m ih =>
      intro t h' o ow j s0 ht hj f c hb cont
      have hbm : bi (set &&& mask (cT N) (Sc N L (N (182 + 7 * j + 5)) (N (182 + 7 * j + 6)))) (nI t) ↔ (bi set (nI t) ∧ t < cT N ∧ Sc N L (N (182 + 7 * j + 5)) (N (182 + 7 * j + 6)) t) := by
        rw [bi_and (by omega), bi_mask (by omega) (by omega)]
      refine g_X11_setsOff_132 (zG_of f.1 G) ⟨fun q => absurd q (nI_ge (b := 8) (by omega) (by omega)), fun _ => ⟨fun q => ?_, fun q => ?_⟩⟩
      · have p1 := soT_1 (p := fun t => bi set (nI t) ∧ t < cT N ∧ Sc N L (N (182 + 7 * j + 5)) (N (182 + 7 * j + 6)) t) (w := nI j) (s := s0) (n := t) (hbm.mp q)
        have k1 := soT_cnt (p := fun t => bi set (nI t) ∧ t < cT N ∧ Sc N L (N (182 + 7 * j + 5)) (N (182 + 7 * j + 6)) t) (w := nI j) (s := s0) (t + 1)
        have k2 := soT_cnt (p := fun t => bi set (nI t) ∧ t < cT N ∧ Sc N L (N (182 + 7 * j + 5)) (N (182 + 7 * j + 6)) t) (w := nI j) (s := s0) 8
        have k4 : ∀ a b, a ≤ b → nb a (fun t => bi set (nI t) ∧ t < cT N ∧ Sc N L (N (182 + 7 * j + 5)) (N (182 + 7 * j + 6)) t) ≤ nb b (fun t => bi set (nI t) ∧ t < cT N ∧ Sc N L (N (182 + 7 * j + 5)) (N (182 + 7 * j + 6)) t) := by
          intro a b hab
          induction b with
          | zero => rw [show a = 0 by omega]; exact Nat.le_refl _
          | succ b ihb =>
            rcases Nat.lt_or_ge b a with u | u
            · rw [show a = b + 1 by omega]; exact Nat.le_refl _
            · exact Nat.le_trans (ihb u) (by rw [nb]; omega)
        have k3 := k4 (t + 1) 8 (by omega)
        rw [p1] at k1
        change (soT _ (nI j) t s0).2.2 + 1 = _ at k1
        have lt4 : (soT (fun t => bi set (nI t) ∧ t < cT N ∧ Sc N L (N (182 + 7 * j + 5)) (N (182 + 7 * j + 6)) t) (nI j) t s0).2.2 < 400 := by omega
        have nx := SM_psh (w := nI j) (t := nI t) c
        rw [c.1]
        have j0 := ix20 lt4
        have j1 := ix2 (k := 1) lt4 (by omega)
        rw [show nI 1 = (1 : Int32) from rfl] at j1
        rw [j0.2, j1.2, nI_1, nI_1]
        refine ⟨j0.1, fun _ => ⟨j1.1, ?_⟩, fun z => absurd z h2⟩
        exact ih (t + 1) _ o ow j s0 (by omega) hj (f.tr nx.1) (by rw [p1]; exact nx.2) hb cont
      · rw [nI_1]
        exact ih (t + 1) h' o ow j s0 (by omega) hj f (by rw [soT_0 (fun z => q (hbm.mpr z))]; exact c) hb cont
  -- the watchers of one owner
  have l44 : ∀ (m j : Nat) (h' : zHp) (o ow : Int32) (s0 : Stk), j + m = cV N → fM h h' → SM h' (soW (fun w => N (182 + 7 * w) = ow ∧ N (182 + 7 * w + 1) = on) (fun w s => soT (fun t => bi set (nI t) ∧ t < cT N ∧ Sc N L (N (182 + 7 * w + 5)) (N (182 + 7 * w + 6)) t) (nI w) 8 s) j s0) → (SO N L on set ow s0).2.2 ≤ 400 → (∀ h2, fM h h2 → SM h2 (SO N L on set ow s0) → zlV M_X11_setsOff 2 [some (.ref 164), some (.int on), some (.int set), some (.int (o + 1)), none, none, none, none] [] h2 (fun h' => fM h h' ∧ SM h' (SOff N L on set s))) → zlV M_X11_setsOff 44 [some (.ref 164), some (.int on), some (.int set), some (.int o), some (.int ow), some (.int (nI j)), none, none] [] h' (fun h' => fM h h' ∧ SM h' (SOff N L on set s)) := by
    intro m
    induction m with
    | zero =>
      intro j h' o ow s0 hj f c hb cont
      have : j = cV N := by omega
      subst this
      have e1 : rI h' 165 241 = nI (cV N) := by show h'.1 165 241 = _; rw [f.2.1 165 (by decide) (by decide), hN]; exact hC.2.2.2.1
      exact g_X11_setsOff_44 (zG_of f.1 G) ⟨fun _ => cont h' f c, fun q => absurd (by rw [e1]; exact Int32.le_refl _) q⟩
    | succ m ih =>
      intro j h' o ow s0 hj f c hb cont
      have hjn : j < cV N := by omega
      have eN : h'.1 165 = N := by rw [f.2.1 165 (by decide) (by decide), hN]
      have eL : h'.1 168 = L := by rw [f.2.1 168 (by decide) (by decide), hL]
      have e1 : rI h' 165 241 = nI (cV N) := by show h'.1 165 241 = _; rw [eN]; exact hC.2.2.2.1
      obtain ⟨i0, i1, -, -, -, i5, i6⟩ := ixV' (e := j) (by omega)
      have rN : ∀ k, rI h' 165 k = N k := fun k => by show h'.1 165 k = _; rw [eN]
      refine g_X11_setsOff_44 (zG_of f.1 G) ⟨fun q => absurd q (by rw [e1]; exact nI_ge hjn (by omega)), fun _ => ?_⟩
      rw [i0.2, i1.2, rN, rN]
      refine ⟨i0.1, fun q => ?_, fun q => ⟨i1.1, fun q2 => ?_, fun q2 => ⟨fun _ => ?_, fun z => absurd z h2⟩⟩⟩
      · rw [nI_1]; exact ih (j + 1) h' o ow s0 (by omega) f (by rw [soW_0 (fun z => q z.1)]; exact c) hb cont
      · rw [nI_1]; exact ih (j + 1) h' o ow s0 (by omega) f (by rw [soW_0 (fun z => q2 z.2)]; exact c) hb cont
      · refine g_X11_setsOff_93 (zG_of f.1 G) ⟨fun _ => ⟨i5.1, i6.1, by rw [rN]; exact hC.t, ?_⟩, fun z => absurd z h2⟩
        rw [i5.2, i6.2, rN, rN, eN, eL]
        have fin := soW_1 (sel := fun w => N (182 + 7 * w) = ow ∧ N (182 + 7 * w + 1) = on) (f := fun w s => soT (fun t => bi set (nI t) ∧ t < cT N ∧ Sc N L (N (182 + 7 * w + 5)) (N (182 + 7 * w + 6)) t) (nI w) 8 s) (s := s0) ⟨q, q2⟩
        have top := soW_mono (sel := fun w => N (182 + 7 * w) = ow ∧ N (182 + 7 * w + 1) = on) (s := s0) hmono (j + 1) (cV N) (by omega)
        rw [fin] at top
        change _ ≤ (SO N L on set ow s0).2.2 at top
        refine l132 8 0 h' o ow j _ (by omega) hjn f c (by omega) (fun h2 f2 c2 => ?_)
        rw [nI_1]
        exact ih (j + 1) h2 o ow s0 (by omega) f2 (by rw [fin]; exact c2) hb cont
  have b1 : (SO N L on set (N 244) s).2.2 ≤ 400 := Nat.le_trans SO_le hn
  refine g_X11_setsOff G (g_X11_setsOff_2 G ⟨fun q => absurd q (by decide), fun _ => ⟨fun q => absurd q h1, fun _ => ⟨fun q => absurd rfl q, fun _ => ?_⟩⟩⟩)
  have e244 : rI h 165 244 = N 244 := by show h.1 165 244 = _; rw [hN]
  rw [e244]
  refine l44 (cV N) 0 h 0 (N 244) s (by omega) fM.rf hS b1 (fun h2' f2 c2 => ?_)
  have e8 : ¬ rI h2' 164 8 = 0 := by show ¬ h2'.1 164 8 = 0; rw [f2.2.2 8 (by decide)]; exact h1
  have e2 : rI h2' 165 244 = N 244 := by show h2'.1 165 244 = _; rw [f2.2.1 165 (by decide) (by decide), hN]
  refine g_X11_setsOff_2 (zG_of f2.1 G) ⟨fun q => absurd q (by decide), fun _ => ⟨fun q => absurd q e8, fun _ => ⟨fun _ => ?_, fun q => absurd q (by decide)⟩⟩⟩
  rw [e2]
  refine l44 (cV N) 0 h2' _ (1 - N 244) (SO N L on set (N 244) s) (by omega) f2 c2 hn (fun h3 f3 c3 => ?_)
  exact g_X11_setsOff_2 (zG_of f3.1 G) ⟨fun _ => ⟨f3, c3⟩, fun q => absurd (by decide) q⟩

