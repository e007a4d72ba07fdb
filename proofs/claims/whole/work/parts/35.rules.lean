/-! which rule the wounds meet -/
theorem AlI_n {N : zN} {j : Nat} (hC : CN N) (hj : j < cT N) : AlI N (nI j) ↔ Al N j := by
  have h8 := hC.1.2
  unfold AlI Al
  rw [nI_clamp (by omega), hC.1.1]
  exact ⟨fun q => q.2, fun q => ⟨zsm2 (by omega) hj, q⟩⟩
/-- rule r meets wounds that are at t -/
def Rl (N L : zN) (us : Int32) (t r : Nat) : Prop := ¬ bi us (nI r) ∧ Sc N L (N (150 + 4 * r + 1)) (N (150 + 4 * r + 2)) t ∧ (N (150 + 4 * r) = 3 → ¬ N (150 + 4 * r + 3) = nI t ∧ AlI N (N (150 + 4 * r + 3)))
/-- the owner of t chooses the greatest -/
def Gr (N : zN) (t : Nat) : Prop := N (242 + (N (10 * t)).toNatClampNeg) = 1
noncomputable def Pk (N L : zN) (us : Int32) (t : Nat) : Nat → Int32
  | 0 => -1
  | n + 1 => @ite _ (Rl N L us t n ∧ (Pk N L us t n = -1 ∨ Gr N t)) (Classical.propDecidable _) (nI n) (Pk N L us t n)
theorem Pk_1 {N L : zN} {us : Int32} {t n : Nat} (h : Rl N L us t n ∧ (Pk N L us t n = -1 ∨ Gr N t)) : Pk N L us t (n + 1) = nI n := by rw [Pk, if_pos h]
theorem Pk_0 {N L : zN} {us : Int32} {t n : Nat} (h : ¬ (Rl N L us t n ∧ (Pk N L us t n = -1 ∨ Gr N t))) : Pk N L us t (n + 1) = Pk N L us t n := by rw [Pk, if_neg h]
theorem Pk_stop {N L : zN} {us : Int32} {t n : Nat} (h1 : ¬ Pk N L us t n = -1) (h2 : ¬ Gr N t) : ∀ m, n ≤ m → Pk N L us t m = Pk N L us t n := by
  intro m
  induction m with
  | zero => intro hm; rw [show n = 0 by omega]
  | succ m ih =>
    intro hm
    rcases Nat.lt_or_ge m n with q | q
    · rw [show n = m + 1 by omega]
    · rw [Pk_0 (fun z => z.2.elim (fun y => h1 (by rw [← ih q]; exact y)) h2)]
      exact ih q
theorem Pk_rq {N L L' : zN} {us : Int32} {t : Nat} (h : rq (cT N) L L') (ht : t < cT N) : ∀ n, Pk N L us t n = Pk N L' us t n := by
  intro n
  induction n with
  | zero => rfl
  | succ n ih =>
    have e : (Rl N L us t n ∧ (Pk N L us t n = -1 ∨ Gr N t)) ↔ (Rl N L' us t n ∧ (Pk N L' us t n = -1 ∨ Gr N t)) := by
      unfold Rl
      rw [ih, Sc_rq h ht]
    rcases Classical.em (Rl N L us t n ∧ (Pk N L us t n = -1 ∨ Gr N t)) with q | q
    · rw [Pk_1 q, Pk_1 (e.mp q)]
    · rw [Pk_0 q, Pk_0 (fun z => q (e.mpr z)), ih]
theorem nI_neg1 {n : Nat} (h : n < 2 ^ 31) : ¬ nI n = -1 := fun z => by
  have := nI_pos' h
  rw [z] at this
  exact absurd this (by decide)
/-- what is picked is there -/
theorem Pk_in {N L : zN} {us : Int32} {t : Nat} : ∀ n, Pk N L us t n = -1 ∨ ∃ r, r < n ∧ Pk N L us t n = nI r ∧ Rl N L us t r := by
  intro n
  induction n with
  | zero => exact Or.inl rfl
  | succ n ih =>
    rcases Classical.em (Rl N L us t n ∧ (Pk N L us t n = -1 ∨ Gr N t)) with q | q
    · exact Or.inr ⟨n, by omega, Pk_1 q, q.1⟩
    · rw [Pk_0 q]
      rcases ih with z | ⟨r, h1, h2, h3⟩
      · exact Or.inl z
      · exact Or.inr ⟨r, by omega, h2, h3⟩
theorem ixR' {e : Nat} (he : e < 8) : (vp_in ((150 + (4 * nI e)) + 0) 246 ∧ ((150 + (4 * nI e)) + 0).toNatClampNeg = 150 + 4 * e) ∧ (vp_in ((150 + (4 * nI e)) + 1) 246 ∧ ((150 + (4 * nI e)) + 1).toNatClampNeg = 150 + 4 * e + 1) ∧ (vp_in ((150 + (4 * nI e)) + 2) 246 ∧ ((150 + (4 * nI e)) + 2).toNatClampNeg = 150 + 4 * e + 2) ∧ (vp_in ((150 + (4 * nI e)) + 3) 246 ∧ ((150 + (4 * nI e)) + 3).toNatClampNeg = 150 + 4 * e + 3) :=
  ⟨ixR (k := 0) he (by omega), ixR (k := 1) he (by omega), ixR (k := 2) he (by omega), ixR (k := 3) he (by omega)⟩
/-- the place of an owner's choice -/
theorem ixO {x : Int32} (h : x = 0 ∨ x = 1) : vp_in (242 + x) 246 ∧ (242 + x).toNatClampNeg = 242 + x.toNatClampNeg ∧ vp_in x 2 := by
  rcases h with z | z
  · subst z
    exact ⟨vp_in_nI (n := 242) (N := 246) (by omega) (by omega), by decide, vp_in_nI (n := 0) (N := 2) (by omega) (by omega)⟩
  · subst z
    exact ⟨vp_in_nI (n := 243) (N := 246) (by omega) (by omega), by decide, vp_in_nI (n := 1) (N := 2) (by omega) (by omega)⟩
theorem g_X11_ruleFor  {h : zHp} {Q : Int32 → zHp → Prop}  (G : zG h) (F : zlI M_X11_ruleFor 4 [some (.ref 164), some (.int (-1)), some (.int 0), none] [] h Q) : zcI M_X11_ruleFor [.ref 164] h Q := by
  show zw zNT zNT M_X11_ruleFor 0 [some (.ref 164), none, none, none] [] h _
  refine z_iconst (pc := 0) (v := -1) dX11_ruleFor_0 (by decide) ?_
  refine z_istore_n (pc := 1) (ls' := [some (.ref 164), some (.int (-1)), none, none]) dX11_ruleFor_1 rfl (by decide) rfl ?_
  refine z_iconst (pc := 2) (v := 0) dX11_ruleFor_2 (by decide) ?_
  refine z_istore_n (pc := 3) (ls' := [some (.ref 164), some (.int (-1)), some (.int 0), none]) dX11_ruleFor_3 rfl (by decide) rfl ?_
  exact F
theorem g_X11_ruleFor_4 {x1 : Int32} {x2 : Int32} {h : zHp} {Q : Int32 → zHp → Prop}  (G : zG h) (F : (rI h 165 240 ≤ x2 → (Q x1 h)) ∧ (¬ (rI h 165 240 ≤ x2) → (((bi (rI h 164 13) x2) → (zlI M_X11_ruleFor 62 [some (.ref 164), some (.int x1), some (.int x2), none] [.int 0] h Q)) ∧ (¬ (bi (rI h 164 13) x2) → (vp_in ((150 + (4 * x2)) + 1) 246 ∧ (vp_in ((150 + (4 * x2)) + 2) 246 ∧ (zCt (rI h 165 238) 8 ∧ ((¬ (bi (mask (cT (h.1 165)) (Sc (h.1 165) (h.1 168) (rI h 165 ((Int32.toNatClampNeg (((150 + (4 * x2)) + 1))))) (rI h 165 ((Int32.toNatClampNeg (((150 + (4 * x2)) + 2))))))) (rI h 164 11)) → (zlI M_X11_ruleFor 62 [some (.ref 164), some (.int x1), some (.int x2), none] [.int 0] h Q)) ∧ ((bi (mask (cT (h.1 165)) (Sc (h.1 165) (h.1 168) (rI h 165 ((Int32.toNatClampNeg (((150 + (4 * x2)) + 1))))) (rI h 165 ((Int32.toNatClampNeg (((150 + (4 * x2)) + 2))))))) (rI h 164 11)) → (zlI M_X11_ruleFor 62 [some (.ref 164), some (.int x1), some (.int x2), none] [.int 1] h Q)))))))))) : zlI M_X11_ruleFor 4 [some (.ref 164), some (.int x1), some (.int x2), none] [] h Q := by
  refine z_iload_n (pc := 4) dX11_ruleFor_4 rfl rfl ?_
  refine z_aload_n (pc := 5) dX11_ruleFor_5 rfl rfl ?_
  refine q_getR (pc := 6) (i := 165) dX11_ruleFor_6 lk_RX11_7 (lyc rfl) (G 164 0 165 rfl) ?_
  refine z_sipush (pc := 9) (v := 240) dX11_ruleFor_9 (by decide) ?_
  refine q_iald (pc := 12) (j := 240) (v := rI h 165 240) dX11_ruleFor_12 (lyc rfl) (zvl (lnc rfl) (by decide)) (by decide) rfl ?_
  refine z_icmp_ge (pc := 13) (tgt := 148) dX11_ruleFor_13 (by decide) (fun k6 => ?_) (fun k6 => ?_)
  · replace F := F.1 k6
    refine z_iload_n (pc := 148) dX11_ruleFor_148 rfl rfl ?_
    exact q_retI (pc := 149) dX11_ruleFor_149 rfl F
  · replace F := F.2 k6
    refine z_aload_n (pc := 16) dX11_ruleFor_16 rfl rfl ?_
    refine q_getI (pc := 17) (v := rI h 164 13) dX11_ruleFor_17 lk_RX11_198 (lyc rfl) rfl ?_
    refine z_iload_n (pc := 20) dX11_ruleFor_20 rfl rfl ?_
    refine q_invS (pc := 21) (As := [.int (rI h 164 13), .int x2]) (st := []) dX11_ruleFor_21 ok_X11_has ml_RX11_96 st_X11_has pa_X11_has ⟨Nat.le_of_ble_eq_true rfl, Nat.le_of_ble_eq_true rfl⟩ (q_pI (s_X11_has G) rfl ?_)
    refine z_if_ne (pc := 24) (tgt := 61) dX11_ruleFor_24 (by decide) (fun k5 => ?_) (fun k5 => ?_)
    · replace F := F.1 (zbn.mp k5)
      refine z_iconst (pc := 61) (v := 0) dX11_ruleFor_61 (by decide) ?_
      exact F
    · replace F := F.2 (zb0.mp k5)
      refine z_aload_n (pc := 27) dX11_ruleFor_27 rfl rfl ?_
      refine z_aload_n (pc := 28) dX11_ruleFor_28 rfl rfl ?_
      refine q_getR (pc := 29) (i := 168) dX11_ruleFor_29 lk_RX11_19 (lyc rfl) (G 164 4 168 rfl) ?_
      refine z_aload_n (pc := 32) dX11_ruleFor_32 rfl rfl ?_
      refine z_iload_n (pc := 33) dX11_ruleFor_33 rfl rfl ?_
      refine z_iconst (pc := 34) (v := 1) dX11_ruleFor_34 (by decide) ?_
      obtain ⟨k1, F⟩ := F
      refine q_invV (pc := 35) (As := [.int x2, .int 1]) (st := [.ref 168, .ref 164]) dX11_ruleFor_35 ok_X11_ruleIs ml_RX11_192 iv_X11_ruleIs pa_X11_ruleIs ⟨Nat.le_of_ble_eq_true rfl, Nat.le_of_ble_eq_true rfl⟩ (lyc rfl) (q_pI (s_X11_ruleIs G k1) rfl ?_)
      refine z_aload_n (pc := 38) dX11_ruleFor_38 rfl rfl ?_
      refine z_iload_n (pc := 39) dX11_ruleFor_39 rfl rfl ?_
      refine z_iconst (pc := 40) (v := 2) dX11_ruleFor_40 (by decide) ?_
      obtain ⟨k2, F⟩ := F
      refine q_invV (pc := 41) (As := [.int x2, .int 2]) (st := [.int (rI h 165 ((Int32.toNatClampNeg (((150 + (4 * x2)) + 1))))), .ref 168, .ref 164]) dX11_ruleFor_41 ok_X11_ruleIs ml_RX11_192 iv_X11_ruleIs pa_X11_ruleIs ⟨Nat.le_of_ble_eq_true rfl, Nat.le_of_ble_eq_true rfl⟩ (lyc rfl) (q_pI (s_X11_ruleIs G k2) rfl ?_)
      obtain ⟨k3, F⟩ := F
      refine q_invV (pc := 44) (As := [.ref 168, .int (rI h 165 ((Int32.toNatClampNeg (((150 + (4 * x2)) + 1))))), .int (rI h 165 ((Int32.toNatClampNeg (((150 + (4 * x2)) + 2)))))]) (st := []) dX11_ruleFor_44 ok_X11_inScope ml_RX11_106 iv_X11_inScope pa_X11_inScope ⟨Nat.le_of_ble_eq_true rfl, Nat.le_of_ble_eq_true rfl⟩ (lyc rfl) (q_pI (s_X11_inScope G (Or.inl rfl) k3) rfl ?_)
      refine z_aload_n (pc := 47) dX11_ruleFor_47 rfl rfl ?_
      refine q_getI (pc := 48) (v := rI h 164 11) dX11_ruleFor_48 lk_RX11_201 (lyc rfl) rfl ?_
      refine q_invS (pc := 51) (As := [.int (mask (cT (h.1 165)) (Sc (h.1 165) (h.1 168) (rI h 165 ((Int32.toNatClampNeg (((150 + (4 * x2)) + 1))))) (rI h 165 ((Int32.toNatClampNeg (((150 + (4 * x2)) + 2))))))), .int (rI h 164 11)]) (st := []) dX11_ruleFor_51 ok_X11_has ml_RX11_96 st_X11_has pa_X11_has ⟨Nat.le_of_ble_eq_true rfl, Nat.le_of_ble_eq_true rfl⟩ (q_pI (s_X11_has G) rfl ?_)
      refine z_if_eq (pc := 54) (tgt := 61) dX11_ruleFor_54 (by decide) (fun k4 => ?_) (fun k4 => ?_)
      · replace F := F.1 (zb0.mp k4)
        refine z_iconst (pc := 61) (v := 0) dX11_ruleFor_61 (by decide) ?_
        exact F
      · replace F := F.2 (zbn.mp k4)
        refine z_iconst (pc := 57) (v := 1) dX11_ruleFor_57 (by decide) ?_
        refine z_goto (pc := 58) (tgt := 62) dX11_ruleFor_58 (by decide) ?_
        exact F
theorem g_X11_ruleFor_62 {x1 : Int32} {x2 : Int32} {xs0 : Int32} {h : zHp} {Q : Int32 → zHp → Prop}  (G : zG h) (F : (xs0 = 0 → (zlI M_X11_ruleFor 108 [some (.ref 164), some (.int x1), some (.int x2), some (.int xs0)] [.int 0] h Q)) ∧ (¬ (xs0 = 0) → (vp_in ((150 + (4 * x2)) + 0) 246 ∧ ((¬ rI h 165 ((Int32.toNatClampNeg (((150 + (4 * x2)) + 0)))) = 3 → (zlI M_X11_ruleFor 108 [some (.ref 164), some (.int x1), some (.int x2), some (.int xs0)] [.int 1] h Q)) ∧ (rI h 165 ((Int32.toNatClampNeg (((150 + (4 * x2)) + 0)))) = 3 → (vp_in ((150 + (4 * x2)) + 3) 246 ∧ ((rI h 165 ((Int32.toNatClampNeg (((150 + (4 * x2)) + 3)))) = rI h 164 11 → (zlI M_X11_ruleFor 108 [some (.ref 164), some (.int x1), some (.int x2), some (.int xs0)] [.int 0] h Q)) ∧ (¬ (rI h 165 ((Int32.toNatClampNeg (((150 + (4 * x2)) + 3)))) = rI h 164 11) → (zCt (rI h 165 238) 8 ∧ ((¬ (aliveM h (rI h 165 ((Int32.toNatClampNeg (((150 + (4 * x2)) + 3)))))) → (zlI M_X11_ruleFor 108 [some (.ref 164), some (.int x1), some (.int x2), some (.int xs0)] [.int 0] h Q)) ∧ ((aliveM h (rI h 165 ((Int32.toNatClampNeg (((150 + (4 * x2)) + 3)))))) → (zlI M_X11_ruleFor 108 [some (.ref 164), some (.int x1), some (.int x2), some (.int xs0)] [.int 1] h Q)))))))))))) : zlI M_X11_ruleFor 62 [some (.ref 164), some (.int x1), some (.int x2), none] [.int xs0] h Q := by
  refine z_istore_n (pc := 62) (ls' := [some (.ref 164), some (.int x1), some (.int x2), some (.int xs0)]) dX11_ruleFor_62 rfl (by decide) rfl ?_
  refine z_iload_n (pc := 63) dX11_ruleFor_63 rfl rfl ?_
  refine z_if_eq (pc := 64) (tgt := 107) dX11_ruleFor_64 (by decide) (fun k7 => ?_) (fun k7 => ?_)
  · replace F := F.1 k7
    refine z_iconst (pc := 107) (v := 0) dX11_ruleFor_107 (by decide) ?_
    exact F
  · replace F := F.2 k7
    refine z_aload_n (pc := 67) dX11_ruleFor_67 rfl rfl ?_
    refine z_iload_n (pc := 68) dX11_ruleFor_68 rfl rfl ?_
    refine z_iconst (pc := 69) (v := 0) dX11_ruleFor_69 (by decide) ?_
    obtain ⟨k1, F⟩ := F
    refine q_invV (pc := 70) (As := [.int x2, .int 0]) (st := []) dX11_ruleFor_70 ok_X11_ruleIs ml_RX11_192 iv_X11_ruleIs pa_X11_ruleIs ⟨Nat.le_of_ble_eq_true rfl, Nat.le_of_ble_eq_true rfl⟩ (lyc rfl) (q_pI (s_X11_ruleIs G k1) rfl ?_)
    refine z_iconst (pc := 73) (v := 3) dX11_ruleFor_73 (by decide) ?_
    refine z_icmp_ne (pc := 74) (tgt := 103) dX11_ruleFor_74 (by decide) (fun k6 => ?_) (fun k6 => ?_)
    · replace F := F.1 k6
      refine z_iconst (pc := 103) (v := 1) dX11_ruleFor_103 (by decide) ?_
      refine z_goto (pc := 104) (tgt := 108) dX11_ruleFor_104 (by decide) ?_
      exact F
    · replace F := F.2 k6
      refine z_aload_n (pc := 77) dX11_ruleFor_77 rfl rfl ?_
      refine z_iload_n (pc := 78) dX11_ruleFor_78 rfl rfl ?_
      refine z_iconst (pc := 79) (v := 3) dX11_ruleFor_79 (by decide) ?_
      obtain ⟨k2, F⟩ := F
      refine q_invV (pc := 80) (As := [.int x2, .int 3]) (st := []) dX11_ruleFor_80 ok_X11_ruleIs ml_RX11_192 iv_X11_ruleIs pa_X11_ruleIs ⟨Nat.le_of_ble_eq_true rfl, Nat.le_of_ble_eq_true rfl⟩ (lyc rfl) (q_pI (s_X11_ruleIs G k2) rfl ?_)
      refine z_aload_n (pc := 83) dX11_ruleFor_83 rfl rfl ?_
      refine q_getI (pc := 84) (v := rI h 164 11) dX11_ruleFor_84 lk_RX11_201 (lyc rfl) rfl ?_
      refine z_icmp_eq (pc := 87) (tgt := 107) dX11_ruleFor_87 (by decide) (fun k5 => ?_) (fun k5 => ?_)
      · replace F := F.1 k5
        refine z_iconst (pc := 107) (v := 0) dX11_ruleFor_107 (by decide) ?_
        exact F
      · replace F := F.2 k5
        refine z_aload_n (pc := 90) dX11_ruleFor_90 rfl rfl ?_
        refine z_aload_n (pc := 91) dX11_ruleFor_91 rfl rfl ?_
        refine z_iload_n (pc := 92) dX11_ruleFor_92 rfl rfl ?_
        refine z_iconst (pc := 93) (v := 3) dX11_ruleFor_93 (by decide) ?_
        refine q_invV (pc := 94) (As := [.int x2, .int 3]) (st := [.ref 164]) dX11_ruleFor_94 ok_X11_ruleIs ml_RX11_192 iv_X11_ruleIs pa_X11_ruleIs ⟨Nat.le_of_ble_eq_true rfl, Nat.le_of_ble_eq_true rfl⟩ (lyc rfl) (q_pI (s_X11_ruleIs G k2) rfl ?_)
        obtain ⟨k3, F⟩ := F
        refine q_invV (pc := 97) (As := [.int (rI h 165 ((Int32.toNatClampNeg (((150 + (4 * x2)) + 3)))))]) (st := []) dX11_ruleFor_97 ok_X11_isAlive ml_RX11_100 iv_X11_isAlive pa_X11_isAlive ⟨Nat.le_of_ble_eq_true rfl, Nat.le_of_ble_eq_true rfl⟩ (lyc rfl) (q_pI (s_X11_isAlive G k3) rfl ?_)
        refine z_if_eq (pc := 100) (tgt := 107) dX11_ruleFor_100 (by decide) (fun k4 => ?_) (fun k4 => ?_)
        · replace F := F.1 (zb0.mp k4)
          refine z_iconst (pc := 107) (v := 0) dX11_ruleFor_107 (by decide) ?_
          exact F
        · replace F := F.2 (zbn.mp k4)
          refine z_iconst (pc := 103) (v := 1) dX11_ruleFor_103 (by decide) ?_
          refine z_goto (pc := 104) (tgt := 108) dX11_ruleFor_104 (by decide) ?_
          exact F
theorem g_X11_ruleFor_108 {x1 : Int32} {x2 : Int32} {x3 : Int32} {xs0 : Int32} {h : zHp} {Q : Int32 → zHp → Prop}  (G : zG h) (F : (xs0 = 0 → (zlI M_X11_ruleFor 4 [some (.ref 164), some (.int x1), some (.int (x2 + 1)), none] [] h Q)) ∧ (¬ (xs0 = 0) → ((x1 = -1 → (zlI M_X11_ruleFor 4 [some (.ref 164), some (.int x2), some (.int (x2 + 1)), none] [] h Q)) ∧ (¬ (x1 = -1) → (vp_in ((0 + (10 * (rI h 164 11))) + 0) 246 ∧ (vp_in (242 + (rI h 165 ((Int32.toNatClampNeg (((0 + (10 * (rI h 164 11))) + 0)))))) 246 ∧ ((¬ rI h 165 ((Int32.toNatClampNeg (242 + (rI h 165 ((Int32.toNatClampNeg (((0 + (10 * (rI h 164 11))) + 0)))))))) = 1 → (zlI M_X11_ruleFor 4 [some (.ref 164), some (.int x1), some (.int (x2 + 1)), none] [] h Q)) ∧ (rI h 165 ((Int32.toNatClampNeg (242 + (rI h 165 ((Int32.toNatClampNeg (((0 + (10 * (rI h 164 11))) + 0)))))))) = 1 → (zlI M_X11_ruleFor 4 [some (.ref 164), some (.int x2), some (.int (x2 + 1)), none] [] h Q))))))))) : zlI M_X11_ruleFor 108 [some (.ref 164), some (.int x1), some (.int x2), some (.int x3)] [.int xs0] h Q := by
  refine z_istore_n (pc := 108) (ls' := [some (.ref 164), some (.int x1), some (.int x2), some (.int xs0)]) dX11_ruleFor_108 rfl (by decide) rfl ?_
  refine z_iload_n (pc := 109) dX11_ruleFor_109 rfl rfl ?_
  refine z_if_eq (pc := 110) (tgt := 142) dX11_ruleFor_110 (by decide) (fun k5 => ?_) (fun k5 => ?_)
  · replace F := F.1 k5
    refine z_iinc (pc := 142) (v := x2 + 1) (ls' := [some (.ref 164), some (.int x1), some (.int (x2 + 1)), some (.int xs0)]) dX11_ruleFor_142 (by decide) rfl rfl rfl ?_
    refine z_goto (pc := 145) (tgt := 4) dX11_ruleFor_145 (by decide) ?_
    exact q_sub (ls' := [some (.ref 164), some (.int x1), some (.int (x2 + 1)), none]) ⟨rfl, rfl, rfl, trivial⟩ F
  · replace F := F.2 k5
    refine z_iload_n (pc := 113) dX11_ruleFor_113 rfl rfl ?_
    refine z_iconst (pc := 114) (v := -1) dX11_ruleFor_114 (by decide) ?_
    refine z_icmp_eq (pc := 115) (tgt := 140) dX11_ruleFor_115 (by decide) (fun k4 => ?_) (fun k4 => ?_)
    · replace F := F.1 k4
      refine z_iload_n (pc := 140) dX11_ruleFor_140 rfl rfl ?_
      refine z_istore_n (pc := 141) (ls' := [some (.ref 164), some (.int x2), some (.int x2), some (.int xs0)]) dX11_ruleFor_141 rfl (by decide) rfl ?_
      refine z_iinc (pc := 142) (v := x2 + 1) (ls' := [some (.ref 164), some (.int x2), some (.int (x2 + 1)), some (.int xs0)]) dX11_ruleFor_142 (by decide) rfl rfl rfl ?_
      refine z_goto (pc := 145) (tgt := 4) dX11_ruleFor_145 (by decide) ?_
      exact q_sub (ls' := [some (.ref 164), some (.int x2), some (.int (x2 + 1)), none]) ⟨rfl, rfl, rfl, trivial⟩ F
    · replace F := F.2 k4
      refine z_aload_n (pc := 118) dX11_ruleFor_118 rfl rfl ?_
      refine q_getR (pc := 119) (i := 165) dX11_ruleFor_119 lk_RX11_7 (lyc rfl) (G 164 0 165 rfl) ?_
      refine z_sipush (pc := 122) (v := 242) dX11_ruleFor_122 (by decide) ?_
      refine z_aload_n (pc := 125) dX11_ruleFor_125 rfl rfl ?_
      refine z_aload_n (pc := 126) dX11_ruleFor_126 rfl rfl ?_
      refine q_getI (pc := 127) (v := rI h 164 11) dX11_ruleFor_127 lk_RX11_201 (lyc rfl) rfl ?_
      refine z_iconst (pc := 130) (v := 0) dX11_ruleFor_130 (by decide) ?_
      obtain ⟨k1, F⟩ := F
      refine q_invV (pc := 131) (As := [.int (rI h 164 11), .int 0]) (st := [.int 242, .ref 165]) dX11_ruleFor_131 ok_X11_its ml_RX11_92 iv_X11_its pa_X11_its ⟨Nat.le_of_ble_eq_true rfl, Nat.le_of_ble_eq_true rfl⟩ (lyc rfl) (q_pI (s_X11_its G k1) rfl ?_)
      refine z_iadd (pc := 134) dX11_ruleFor_134 ?_
      obtain ⟨k2, F⟩ := F
      refine q_iald (pc := 135) (j := (Int32.toNatClampNeg (242 + (rI h 165 ((Int32.toNatClampNeg (((0 + (10 * (rI h 164 11))) + 0)))))))) (v := rI h 165 ((Int32.toNatClampNeg (242 + (rI h 165 ((Int32.toNatClampNeg (((0 + (10 * (rI h 164 11))) + 0))))))))) dX11_ruleFor_135 (lyc rfl) (zvn (lnc rfl) k2) rfl rfl ?_
      refine z_iconst (pc := 136) (v := 1) dX11_ruleFor_136 (by decide) ?_
      refine z_icmp_ne (pc := 137) (tgt := 142) dX11_ruleFor_137 (by decide) (fun k3 => ?_) (fun k3 => ?_)
      · replace F := F.1 k3
        refine z_iinc (pc := 142) (v := x2 + 1) (ls' := [some (.ref 164), some (.int x1), some (.int (x2 + 1)), some (.int xs0)]) dX11_ruleFor_142 (by decide) rfl rfl rfl ?_
        refine z_goto (pc := 145) (tgt := 4) dX11_ruleFor_145 (by decide) ?_
        exact q_sub (ls' := [some (.ref 164), some (.int x1), some (.int (x2 + 1)), none]) ⟨rfl, rfl, rfl, trivial⟩ F
      · replace F := F.2 k3
        refine z_iload_n (pc := 140) dX11_ruleFor_140 rfl rfl ?_
        refine z_istore_n (pc := 141) (ls' := [some (.ref 164), some (.int x2), some (.int x2), some (.int xs0)]) dX11_ruleFor_141 rfl (by decide) rfl ?_
        refine z_iinc (pc := 142) (v := x2 + 1) (ls' := [some (.ref 164), some (.int x2), some (.int (x2 + 1)), some (.int xs0)]) dX11_ruleFor_142 (by decide) rfl rfl rfl ?_
        refine z_goto (pc := 145) (tgt := 4) dX11_ruleFor_145 (by decide) ?_
        exact q_sub (ls' := [some (.ref 164), some (.int x2), some (.int (x2 + 1)), none]) ⟨rfl, rfl, rfl, trivial⟩ F
theorem s_X11_ruleFor {N : zN} {us : Int32} {t : Nat} {h : zHp} (G : zG h) (hC : CN N) (hN : h.1 165 = N) (ht : t < cT N) (hO : N (10 * t) = 0 ∨ N (10 * t) = 1) (e11 : rI h 164 11 = nI t) (e13 : rI h 164 13 = us) : zcI M_X11_ruleFor [.ref 164] h (fun r h' => r = Pk N (h.1 168) us t (cR N) ∧ h' = h) := by
  have h8 := hC.1.2
  have r8 := hC.2.2.1.2
  have rN : ∀ k, rI h 165 k = N k := fun k => by show h.1 165 k = _; rw [hN]
  have c8 : zCt (rI h 165 238) 8 := by rw [rN]; exact hC.t
  have loop : ∀ (m j : Nat), j + m = cR N → zlI M_X11_ruleFor 4 [some (.ref 164), some (.int (Pk N (h.1 168) us t j)), some (.int (nI j)), none] [] h (fun r h' => r = Pk N (h.1 168) us t (cR N) ∧ h' = h) := by
    intro m
    induction m with
    | zero =>
      intro j hj
      have : j = cR N := by omega
      subst this
      exact g_X11_ruleFor_4 G ⟨fun _ => ⟨rfl, rfl⟩, fun q => absurd (by rw [rN, hC.2.2.1.1]; exact Int32.le_refl _) q⟩
    | succ m ih =>
      intro j hj
      have nx := ih (j + 1) (by omega)
      rw [← nI_1] at nx
      obtain ⟨i0, i1, i2, i3⟩ := ixR' (e := j) (by omega)
      have no : ∀ y, ¬ Rl N (h.1 168) us t j → zlI M_X11_ruleFor 108 [some (.ref 164), some (.int (Pk N (h.1 168) us t j)), some (.int (nI j)), some (.int y)] [.int 0] h (fun r h' => r = Pk N (h.1 168) us t (cR N) ∧ h' = h) := by
        intro y q
        rw [Pk_0 (fun z => q z.1)] at nx
        exact g_X11_ruleFor_108 G ⟨fun _ => nx, fun z => absurd rfl z⟩
      have yes : ∀ y, Rl N (h.1 168) us t j → zlI M_X11_ruleFor 108 [some (.ref 164), some (.int (Pk N (h.1 168) us t j)), some (.int (nI j)), some (.int y)] [.int 1] h (fun r h' => r = Pk N (h.1 168) us t (cR N) ∧ h' = h) := by
        intro y q
        have t0 := ixT (t := t) (k := 0) (by omega) (by omega)
        rw [show nI 0 = (0 : Int32) from rfl] at t0
        obtain ⟨o1, o2, -⟩ := ixO hO
        refine g_X11_ruleFor_108 G ⟨fun z => absurd z (by decide), fun _ => ⟨fun z => ?_, fun z => ?_⟩⟩
        · rw [Pk_1 ⟨q, Or.inl z⟩] at nx
          exact nx
        · rw [e11, t0.2, rN, Nat.add_zero]
          refine ⟨t0.1, o1, ?_⟩
          rw [o2, rN]
          refine ⟨fun g => ?_, fun g => ?_⟩
          · rw [Pk_0 (fun x => x.2.elim z g)] at nx
            exact nx
          · rw [Pk_1 ⟨q, Or.inr g⟩] at nx
            exact nx
      refine g_X11_ruleFor_4 G ⟨fun q => absurd q (by rw [rN, hC.2.2.1.1]; exact nI_ge (by omega) (by omega)), fun _ => ?_⟩
      rw [e13, e11, i1.2, i2.2, rN (150 + 4 * j + 1), rN (150 + 4 * j + 2), hN]
      refine ⟨fun q => ?_, fun q => ⟨i1.1, i2.1, c8, fun q2 => ?_, fun q2 => ?_⟩⟩
      · exact g_X11_ruleFor_62 G ⟨fun _ => no _ (fun z => z.1 q), fun z => absurd rfl z⟩
      · exact g_X11_ruleFor_62 G ⟨fun _ => no _ (fun z => q2 ((bi_mask (by omega) (by omega)).mpr ⟨ht, z.2.1⟩)), fun z => absurd rfl z⟩
      · have sc := ((bi_mask (by omega) (by omega)).mp q2).2
        refine g_X11_ruleFor_62 G ⟨fun z => absurd z (by decide), fun _ => ?_⟩
        rw [i0.2, i3.2, rN, rN, e11, aliveM_Al, hN]
        refine ⟨i0.1, fun z => yes _ ⟨q, sc, fun y => absurd y z⟩, fun z => ⟨i3.1, fun y => no _ (fun x => (x.2.2 z).1 y), fun y => ⟨c8, fun x => no _ (fun u => x (u.2.2 z).2), fun x => yes _ ⟨q, sc, fun _ => ⟨y, x⟩⟩⟩⟩⟩
  exact g_X11_ruleFor G (loop (cR N) 0 (by omega))
theorem g_X9_pickRule {c0 : Nat} {c1 : Nat} {c2 : Nat} {h : zHp} {Q : Int32 → zHp → Prop} (hc0 : zUo c0) (hc1 : zW c1) (hc2 : zLo c2) (G : zG h) (F : zCt (rI h c1 1) 8 ∧ ((¬ (aliveC h c1 (rI h c0 0)) → (zlI M_X9_pickRule 44 [some (.ref c0), some (.ref c1), some (.ref c2), some (.int (-1)), some (.int 0), some (.int 0), none, none] [] h Q)) ∧ ((aliveC h c1 (rI h c0 0)) → (vp_in (rI h c0 0) 8 ∧ (vp_in (rI h (c1 + 6 + (Int32.toNatClampNeg (rI h c0 0))) 0) 2 ∧ ((¬ rI h (c1 + 5) ((Int32.toNatClampNeg (rI h (c1 + 6 + (Int32.toNatClampNeg (rI h c0 0))) 0))) = 1 → (zlI M_X9_pickRule 44 [some (.ref c0), some (.ref c1), some (.ref c2), some (.int (-1)), some (.int 0), some (.int 0), none, none] [] h Q)) ∧ (rI h (c1 + 5) ((Int32.toNatClampNeg (rI h (c1 + 6 + (Int32.toNatClampNeg (rI h c0 0))) 0))) = 1 → (zlI M_X9_pickRule 44 [some (.ref c0), some (.ref c1), some (.ref c2), some (.int (-1)), some (.int 1), some (.int 0), none, none] [] h Q)))))))) : zcI M_X9_pickRule [.ref c0, .ref c1, .ref c2] h Q := by
  show zw zNT zNT M_X9_pickRule 0 [some (.ref c0), some (.ref c1), some (.ref c2), none, none, none, none, none] [] h _
  refine z_iconst (pc := 0) (v := -1) dX9_pickRule_0 (by decide) ?_
  refine z_istore_n (pc := 1) (ls' := [some (.ref c0), some (.ref c1), some (.ref c2), some (.int (-1)), none, none, none, none]) dX9_pickRule_1 rfl (by decide) rfl ?_
  refine z_aload_n (pc := 2) dX9_pickRule_2 rfl rfl ?_
  refine z_aload_n (pc := 3) dX9_pickRule_3 rfl rfl ?_
  refine q_getI (pc := 4) (v := rI h c0 0) dX9_pickRule_4 lk_RX9_15 (lyUo0 hc0) rfl ?_
  obtain ⟨k1, F⟩ := F
  refine q_invV (pc := 7) (As := [.int (rI h c0 0)]) (st := []) dX9_pickRule_7 ok_X8_isAlive ml_RX9_43 iv_X8_isAlive pa_X8_isAlive ⟨Nat.le_of_ble_eq_true rfl, Nat.le_of_ble_eq_true rfl⟩ (lyW0 hc1) (q_pI (s_X8_isAlive G hc1 k1) rfl ?_)
  refine z_if_eq (pc := 10) (tgt := 38) dX9_pickRule_10 (by decide) (fun k5 => ?_) (fun k5 => ?_)
  · replace F := F.1 (zb0.mp k5)
    refine z_iconst (pc := 38) (v := 0) dX9_pickRule_38 (by decide) ?_
    refine z_istore (pc := 39) (ls' := [some (.ref c0), some (.ref c1), some (.ref c2), some (.int (-1)), some (.int 0), none, none, none]) dX9_pickRule_39 (by decide) rfl ?_
    refine z_iconst (pc := 41) (v := 0) dX9_pickRule_41 (by decide) ?_
    refine z_istore (pc := 42) (ls' := [some (.ref c0), some (.ref c1), some (.ref c2), some (.int (-1)), some (.int 0), some (.int 0), none, none]) dX9_pickRule_42 (by decide) rfl ?_
    exact F
  · replace F := F.2 (zbn.mp k5)
    refine z_aload_n (pc := 13) dX9_pickRule_13 rfl rfl ?_
    refine q_getR (pc := 14) (i := c1 + 5) dX9_pickRule_14 lk_RX9_47 (lyW0 hc1) (grW8 G hc1) ?_
    refine z_aload_n (pc := 17) dX9_pickRule_17 rfl rfl ?_
    refine q_getR (pc := 18) (i := c1 + 1) dX9_pickRule_18 lk_RX9_50 (lyW0 hc1) (grW0 G hc1) ?_
    refine z_aload_n (pc := 21) dX9_pickRule_21 rfl rfl ?_
    refine q_getI (pc := 22) (v := rI h c0 0) dX9_pickRule_22 lk_RX9_15 (lyUo0 hc0) rfl ?_
    obtain ⟨k2, F⟩ := F
    refine q_aald (pc := 25) (j := (Int32.toNatClampNeg (rI h c0 0))) (r := c1 + 6 + (Int32.toNatClampNeg (rI h c0 0))) (t := 0) dX9_pickRule_25 (lyW1 hc1) (zvn (lnW1 hc1) k2) rfl (grT (B := c1) G hc1 (zvi k2)) ?_
    refine q_getI (pc := 26) (v := rI h (c1 + 6 + (Int32.toNatClampNeg (rI h c0 0))) 0) dX9_pickRule_26 lk_RX9_54 (lyT (B := c1) hc1 (zvi k2)) rfl ?_
    obtain ⟨k3, F⟩ := F
    refine q_iald (pc := 29) (j := (Int32.toNatClampNeg (rI h (c1 + 6 + (Int32.toNatClampNeg (rI h c0 0))) 0))) (v := rI h (c1 + 5) ((Int32.toNatClampNeg (rI h (c1 + 6 + (Int32.toNatClampNeg (rI h c0 0))) 0)))) dX9_pickRule_29 (lyW5 hc1) (zvn (lnW5 hc1) k3) rfl rfl ?_
    refine z_iconst (pc := 30) (v := 1) dX9_pickRule_30 (by decide) ?_
    refine z_icmp_ne (pc := 31) (tgt := 38) dX9_pickRule_31 (by decide) (fun k4 => ?_) (fun k4 => ?_)
    · replace F := F.1 k4
      refine z_iconst (pc := 38) (v := 0) dX9_pickRule_38 (by decide) ?_
      refine z_istore (pc := 39) (ls' := [some (.ref c0), some (.ref c1), some (.ref c2), some (.int (-1)), some (.int 0), none, none, none]) dX9_pickRule_39 (by decide) rfl ?_
      refine z_iconst (pc := 41) (v := 0) dX9_pickRule_41 (by decide) ?_
      refine z_istore (pc := 42) (ls' := [some (.ref c0), some (.ref c1), some (.ref c2), some (.int (-1)), some (.int 0), some (.int 0), none, none]) dX9_pickRule_42 (by decide) rfl ?_
      exact F
    · replace F := F.2 k4
      refine z_iconst (pc := 34) (v := 1) dX9_pickRule_34 (by decide) ?_
      refine z_goto (pc := 35) (tgt := 39) dX9_pickRule_35 (by decide) ?_
      refine z_istore (pc := 39) (ls' := [some (.ref c0), some (.ref c1), some (.ref c2), some (.int (-1)), some (.int 1), none, none, none]) dX9_pickRule_39 (by decide) rfl ?_
      refine z_iconst (pc := 41) (v := 0) dX9_pickRule_41 (by decide) ?_
      refine z_istore (pc := 42) (ls' := [some (.ref c0), some (.ref c1), some (.ref c2), some (.int (-1)), some (.int 1), some (.int 0), none, none]) dX9_pickRule_42 (by decide) rfl ?_
      exact F
theorem g_X9_pickRule_44 {c0 : Nat} {c1 : Nat} {c2 : Nat} {x3 : Int32} {x4 : Int32} {x5 : Int32} {h : zHp} {Q : Int32 → zHp → Prop} (hc0 : zUo c0) (hc1 : zW c1) (hc2 : zLo c2) (G : zG h) (F : (rI h c1 5 ≤ x5 → (Q x3 h)) ∧ (¬ (rI h c1 5 ≤ x5) → (vp_in x5 8 ∧ (zRef h (c1 + 3) ((Int32.toNatClampNeg x5)) 5 ∧ ((¬ rI h (rG h (c1 + 3) ((Int32.toNatClampNeg x5))) 0 = 3 → (zlI M_X9_pickRule 100 [some (.ref c0), some (.ref c1), some (.ref c2), some (.int x3), some (.int x4), some (.int x5), some (.ref (rG h (c1 + 3) ((Int32.toNatClampNeg x5)))), none] [.int 1] h Q)) ∧ (rI h (rG h (c1 + 3) ((Int32.toNatClampNeg x5))) 0 = 3 → ((rI h (rG h (c1 + 3) ((Int32.toNatClampNeg x5))) 3 = rI h c0 0 → (zlI M_X9_pickRule 100 [some (.ref c0), some (.ref c1), some (.ref c2), some (.int x3), some (.int x4), some (.int x5), some (.ref (rG h (c1 + 3) ((Int32.toNatClampNeg x5)))), none] [.int 0] h Q)) ∧ (¬ (rI h (rG h (c1 + 3) ((Int32.toNatClampNeg x5))) 3 = rI h c0 0) → (zCt (rI h c1 1) 8 ∧ ((¬ (aliveC h c1 (rI h (rG h (c1 + 3) ((Int32.toNatClampNeg x5))) 3)) → (zlI M_X9_pickRule 100 [some (.ref c0), some (.ref c1), some (.ref c2), some (.int x3), some (.int x4), some (.int x5), some (.ref (rG h (c1 + 3) ((Int32.toNatClampNeg x5)))), none] [.int 0] h Q)) ∧ ((aliveC h c1 (rI h (rG h (c1 + 3) ((Int32.toNatClampNeg x5))) 3)) → (zlI M_X9_pickRule 100 [some (.ref c0), some (.ref c1), some (.ref c2), some (.int x3), some (.int x4), some (.int x5), some (.ref (rG h (c1 + 3) ((Int32.toNatClampNeg x5)))), none] [.int 1] h Q)))))))))))) : zlI M_X9_pickRule 44 [some (.ref c0), some (.ref c1), some (.ref c2), some (.int x3), some (.int x4), some (.int x5), none, none] [] h Q := by
  refine z_iload (pc := 44) dX9_pickRule_44 rfl ?_
  refine z_aload_n (pc := 46) dX9_pickRule_46 rfl rfl ?_
  refine q_getI (pc := 47) (v := rI h c1 5) dX9_pickRule_47 lk_RX9_59 (lyW0 hc1) rfl ?_
  refine z_icmp_ge (pc := 50) (tgt := 158) dX9_pickRule_50 (by decide) (fun k7 => ?_) (fun k7 => ?_)
  · replace F := F.1 k7
    refine z_iload_n (pc := 158) dX9_pickRule_158 rfl rfl ?_
    exact q_retI (pc := 159) dX9_pickRule_159 rfl F
  · replace F := F.2 k7
    refine z_aload_n (pc := 53) dX9_pickRule_53 rfl rfl ?_
    refine q_getR (pc := 54) (i := c1 + 3) dX9_pickRule_54 lk_RX9_33 (lyW0 hc1) (grW4 G hc1) ?_
    refine z_iload (pc := 57) dX9_pickRule_57 rfl ?_
    obtain ⟨k1, F⟩ := F
    obtain ⟨k2, F⟩ := F
    refine q_aald (pc := 59) (j := (Int32.toNatClampNeg x5)) (r := rG h (c1 + 3) ((Int32.toNatClampNeg x5))) (t := 2) dX9_pickRule_59 (lyW3 hc1) (zvn (lnW3 hc1) k1) rfl k2.1 ?_
    refine z_astore (pc := 60) (ls' := [some (.ref c0), some (.ref c1), some (.ref c2), some (.int x3), some (.int x4), some (.int x5), some (.ref (rG h (c1 + 3) ((Int32.toNatClampNeg x5)))), none]) dX9_pickRule_60 (by decide) rfl ?_
    refine z_aload (pc := 62) dX9_pickRule_62 rfl ?_
    refine q_getI (pc := 64) (v := rI h (rG h (c1 + 3) ((Int32.toNatClampNeg x5))) 0) dX9_pickRule_64 lk_RX9_62 k2.2 rfl ?_
    refine z_iconst (pc := 67) (v := 3) dX9_pickRule_67 (by decide) ?_
    refine z_icmp_ne (pc := 68) (tgt := 95) dX9_pickRule_68 (by decide) (fun k6 => ?_) (fun k6 => ?_)
    · replace F := F.1 k6
      refine z_iconst (pc := 95) (v := 1) dX9_pickRule_95 (by decide) ?_
      refine z_goto (pc := 96) (tgt := 100) dX9_pickRule_96 (by decide) ?_
      exact F
    · replace F := F.2 k6
      refine z_aload (pc := 71) dX9_pickRule_71 rfl ?_
      refine q_getI (pc := 73) (v := rI h (rG h (c1 + 3) ((Int32.toNatClampNeg x5))) 3) dX9_pickRule_73 lk_RX9_67 k2.2 rfl ?_
      refine z_aload_n (pc := 76) dX9_pickRule_76 rfl rfl ?_
      refine q_getI (pc := 77) (v := rI h c0 0) dX9_pickRule_77 lk_RX9_15 (lyUo0 hc0) rfl ?_
      refine z_icmp_eq (pc := 80) (tgt := 99) dX9_pickRule_80 (by decide) (fun k5 => ?_) (fun k5 => ?_)
      · replace F := F.1 k5
        refine z_iconst (pc := 99) (v := 0) dX9_pickRule_99 (by decide) ?_
        exact F
      · replace F := F.2 k5
        refine z_aload_n (pc := 83) dX9_pickRule_83 rfl rfl ?_
        refine z_aload (pc := 84) dX9_pickRule_84 rfl ?_
        refine q_getI (pc := 86) (v := rI h (rG h (c1 + 3) ((Int32.toNatClampNeg x5))) 3) dX9_pickRule_86 lk_RX9_67 k2.2 rfl ?_
        obtain ⟨k3, F⟩ := F
        refine q_invV (pc := 89) (As := [.int (rI h (rG h (c1 + 3) ((Int32.toNatClampNeg x5))) 3)]) (st := []) dX9_pickRule_89 ok_X8_isAlive ml_RX9_43 iv_X8_isAlive pa_X8_isAlive ⟨Nat.le_of_ble_eq_true rfl, Nat.le_of_ble_eq_true rfl⟩ (lyW0 hc1) (q_pI (s_X8_isAlive G hc1 k3) rfl ?_)
        refine z_if_eq (pc := 92) (tgt := 99) dX9_pickRule_92 (by decide) (fun k4 => ?_) (fun k4 => ?_)
        · replace F := F.1 (zb0.mp k4)
          refine z_iconst (pc := 99) (v := 0) dX9_pickRule_99 (by decide) ?_
          exact F
        · replace F := F.2 (zbn.mp k4)
          refine z_iconst (pc := 95) (v := 1) dX9_pickRule_95 (by decide) ?_
          refine z_goto (pc := 96) (tgt := 100) dX9_pickRule_96 (by decide) ?_
          exact F
theorem g_X9_pickRule_100 {c0 : Nat} {c1 : Nat} {c2 : Nat} {x3 : Int32} {x4 : Int32} {x5 : Int32} {c6 : Nat} {xs0 : Int32} {h : zHp} {Q : Int32 → zHp → Prop} (hc0 : zUo c0) (hc1 : zW c1) (hc2 : zLo c2) (hc6 : ly c6 = 5) (G : zG h) (F : (xs0 = 0 → (zlI M_X9_pickRule 44 [some (.ref c0), some (.ref c1), some (.ref c2), some (.int x3), some (.int x4), some (.int (x5 + 1)), none, none] [] h Q)) ∧ (¬ (xs0 = 0) → ((¬ ((rI h c0 3) >>> (x5 &&& 31)) &&& 1 = 0 → (zlI M_X9_pickRule 44 [some (.ref c0), some (.ref c1), some (.ref c2), some (.int x3), some (.int x4), some (.int (x5 + 1)), none, none] [] h Q)) ∧ (((rI h c0 3) >>> (x5 &&& 31)) &&& 1 = 0 → (zcI M_X2_holds [.ref c2, .ref c1, .int (rI h c0 0), .int (rI h c6 1), .int (rI h c6 2)] h (fun vh1 h1 => zG h1 ∧ ((vh1 = 0 → (zlI M_X9_pickRule 44 [some (.ref c0), some (.ref c1), some (.ref c2), some (.int x3), some (.int x4), some (.int (x5 + 1)), none, none] [] h1 Q)) ∧ (¬ (vh1 = 0) → ((¬ x4 = 0 → (zlI M_X9_pickRule 44 [some (.ref c0), some (.ref c1), some (.ref c2), some (.int x5), some (.int x4), some (.int (x5 + 1)), none, none] [] h1 Q)) ∧ (x4 = 0 → (Q x5 h1))))))))))) : zlI M_X9_pickRule 100 [some (.ref c0), some (.ref c1), some (.ref c2), some (.int x3), some (.int x4), some (.int x5), some (.ref c6), none] [.int xs0] h Q := by
  refine z_istore (pc := 100) (ls' := [some (.ref c0), some (.ref c1), some (.ref c2), some (.int x3), some (.int x4), some (.int x5), some (.ref c6), some (.int xs0)]) dX9_pickRule_100 (by decide) rfl ?_
  refine z_iload (pc := 102) dX9_pickRule_102 rfl ?_
  refine z_if_eq (pc := 104) (tgt := 152) dX9_pickRule_104 (by decide) (fun k5 => ?_) (fun k5 => ?_)
  · replace F := F.1 k5
    refine z_iinc (pc := 152) (v := x5 + 1) (ls' := [some (.ref c0), some (.ref c1), some (.ref c2), some (.int x3), some (.int x4), some (.int (x5 + 1)), some (.ref c6), some (.int xs0)]) dX9_pickRule_152 (by decide) rfl rfl rfl ?_
    refine z_goto (pc := 155) (tgt := 44) dX9_pickRule_155 (by decide) ?_
    exact q_sub (ls' := [some (.ref c0), some (.ref c1), some (.ref c2), some (.int x3), some (.int x4), some (.int (x5 + 1)), none, none]) ⟨rfl, rfl, rfl, rfl, rfl, rfl, trivial⟩ F
  · replace F := F.2 k5
    refine z_aload_n (pc := 107) dX9_pickRule_107 rfl rfl ?_
    refine q_getI (pc := 108) (v := rI h c0 3) dX9_pickRule_108 lk_RX9_26 (lyUo0 hc0) rfl ?_
    refine z_iload (pc := 111) dX9_pickRule_111 rfl ?_
    refine z_ishr (pc := 113) dX9_pickRule_113 ?_
    refine z_iconst (pc := 114) (v := 1) dX9_pickRule_114 (by decide) ?_
    refine z_iand (pc := 115) dX9_pickRule_115 ?_
    refine z_if_ne (pc := 116) (tgt := 152) dX9_pickRule_116 (by decide) (fun k4 => ?_) (fun k4 => ?_)
    · replace F := F.1 k4
      refine z_iinc (pc := 152) (v := x5 + 1) (ls' := [some (.ref c0), some (.ref c1), some (.ref c2), some (.int x3), some (.int x4), some (.int (x5 + 1)), some (.ref c6), some (.int xs0)]) dX9_pickRule_152 (by decide) rfl rfl rfl ?_
      refine z_goto (pc := 155) (tgt := 44) dX9_pickRule_155 (by decide) ?_
      exact q_sub (ls' := [some (.ref c0), some (.ref c1), some (.ref c2), some (.int x3), some (.int x4), some (.int (x5 + 1)), none, none]) ⟨rfl, rfl, rfl, rfl, rfl, rfl, trivial⟩ F
    · replace F := F.2 k4
      refine z_aload_n (pc := 119) dX9_pickRule_119 rfl rfl ?_
      refine z_aload_n (pc := 120) dX9_pickRule_120 rfl rfl ?_
      refine z_aload_n (pc := 121) dX9_pickRule_121 rfl rfl ?_
      refine q_getI (pc := 122) (v := rI h c0 0) dX9_pickRule_122 lk_RX9_15 (lyUo0 hc0) rfl ?_
      refine z_aload (pc := 125) dX9_pickRule_125 rfl ?_
      refine q_getI (pc := 127) (v := rI h c6 1) dX9_pickRule_127 lk_RX9_70 hc6 rfl ?_
      refine z_aload (pc := 130) dX9_pickRule_130 rfl ?_
      refine q_getI (pc := 132) (v := rI h c6 2) dX9_pickRule_132 lk_RX9_73 hc6 rfl ?_
      refine q_invV (pc := 135) (As := [.ref c1, .int (rI h c0 0), .int (rI h c6 1), .int (rI h c6 2)]) (st := []) dX9_pickRule_135 ok_X2_holds ml_RX9_76 iv_X2_holds pa_X2_holds ⟨Nat.le_of_ble_eq_true rfl, Nat.le_of_ble_eq_true rfl⟩ (lyLo0 hc2) (q_kI F (fun vh1 h1 F => ?_))
      obtain ⟨G1, F⟩ := F
      refine z_if_eq (pc := 138) (tgt := 152) dX9_pickRule_138 (by decide) (fun k3 => ?_) (fun k3 => ?_)
      · replace F := F.1 k3
        refine z_iinc (pc := 152) (v := x5 + 1) (ls' := [some (.ref c0), some (.ref c1), some (.ref c2), some (.int x3), some (.int x4), some (.int (x5 + 1)), some (.ref c6), some (.int xs0)]) dX9_pickRule_152 (by decide) rfl rfl rfl ?_
        refine z_goto (pc := 155) (tgt := 44) dX9_pickRule_155 (by decide) ?_
        exact q_sub (ls' := [some (.ref c0), some (.ref c1), some (.ref c2), some (.int x3), some (.int x4), some (.int (x5 + 1)), none, none]) ⟨rfl, rfl, rfl, rfl, rfl, rfl, trivial⟩ F
      · replace F := F.2 k3
        refine z_iload (pc := 141) dX9_pickRule_141 rfl ?_
        refine z_if_ne (pc := 143) (tgt := 149) dX9_pickRule_143 (by decide) (fun k2 => ?_) (fun k2 => ?_)
        · replace F := F.1 k2
          refine z_iload (pc := 149) dX9_pickRule_149 rfl ?_
          refine z_istore_n (pc := 151) (ls' := [some (.ref c0), some (.ref c1), some (.ref c2), some (.int x5), some (.int x4), some (.int x5), some (.ref c6), some (.int xs0)]) dX9_pickRule_151 rfl (by decide) rfl ?_
          refine z_iinc (pc := 152) (v := x5 + 1) (ls' := [some (.ref c0), some (.ref c1), some (.ref c2), some (.int x5), some (.int x4), some (.int (x5 + 1)), some (.ref c6), some (.int xs0)]) dX9_pickRule_152 (by decide) rfl rfl rfl ?_
          refine z_goto (pc := 155) (tgt := 44) dX9_pickRule_155 (by decide) ?_
          exact q_sub (ls' := [some (.ref c0), some (.ref c1), some (.ref c2), some (.int x5), some (.int x4), some (.int (x5 + 1)), none, none]) ⟨rfl, rfl, rfl, rfl, rfl, rfl, trivial⟩ F
        · replace F := F.2 k2
          refine z_iload (pc := 146) dX9_pickRule_146 rfl ?_
          exact q_retI (pc := 148) dX9_pickRule_148 rfl F
theorem s_X9_pickRule {U B K : Nat} {N : zN} {us : Int32} {t : Nat} {h : zHp} (G : zG h) (hU : zUo U) (hB : zW B) (hK : zLo K) (hC : CN N) (hP : PW h B) (hR : RW h B N) (hW : WN N) (ht : t < cT N) (al : Al N t) (hO : N (10 * t) = 0 ∨ N (10 * t) = 1) (e0 : rI h U 0 = nI t) (e3 : rI h U 3 = us) : zcI M_X9_pickRule [.ref U, .ref B, .ref K] h (fun r h' => r = Pk N (VL h K) us t (cR N) ∧ h' = h) := by
  have h8 := hC.1.2
  have r8 := hC.2.2.1.2
  have loop : ∀ (fl : Int32), (¬ fl = 0 ↔ Gr N t) → ∀ (m j : Nat), j + m = cR N → (fl = 0 → Pk N (VL h K) us t j = -1) → zlI M_X9_pickRule 44 [some (.ref U), some (.ref B), some (.ref K), some (.int (Pk N (VL h K) us t j)), some (.int fl), some (.int (nI j)), none, none] [] h (fun r h' => r = Pk N (VL h K) us t (cR N) ∧ h' = h) := by
    intro fl hfl m
    induction m with
    | zero =>
      intro j hj _
      have : j = cR N := by omega
      subst this
      exact g_X9_pickRule_44 hU hB hK G ⟨fun _ => ⟨rfl, rfl⟩, fun q => absurd (by rw [hR.1.2.2.1, hC.2.2.1.1]; exact Int32.le_refl _) q⟩
    | succ m ih =>
      intro j hj hf
      have hjn : j < cR N := by omega
      refine g_X9_pickRule_44 hU hB hK G ⟨fun q => absurd q (by rw [hR.1.2.2.1, hC.2.2.1.1]; exact nI_ge (by omega) (by omega)), fun _ => ⟨vp_in_nI (by omega) (by omega), ?_⟩⟩
      rw [nI_clamp (by omega)]
      have w0 := hR.2.2.2.1 j 0 hjn (by omega)
      have w1 := hR.2.2.2.1 j 1 hjn (by omega)
      have w2 := hR.2.2.2.1 j 2 hjn (by omega)
      have w3 := hR.2.2.2.1 j 3 hjn (by omega)
      have lc := hP.r hB (show j < 8 by omega)
      have no : ¬ Rl N (VL h K) us t j → zlI M_X9_pickRule 44 [some (.ref U), some (.ref B), some (.ref K), some (.int (Pk N (VL h K) us t j)), some (.int fl), some (.int (nI j + 1)), none, none] [] h (fun r h' => r = Pk N (VL h K) us t (cR N) ∧ h' = h) := by
        intro q
        have e := Pk_0 (fun z : Rl N (VL h K) us t j ∧ (Pk N (VL h K) us t j = -1 ∨ Gr N t) => q z.1)
        have nx := ih (j + 1) (by omega) (fun z => by rw [e]; exact hf z)
        rw [← nI_1, e] at nx
        exact nx
      have yes : (N (150 + 4 * j) = 3 → ¬ N (150 + 4 * j + 3) = nI t ∧ AlI N (N (150 + 4 * j + 3))) → zlI M_X9_pickRule 100 [some (.ref U), some (.ref B), some (.ref K), some (.int (Pk N (VL h K) us t j)), some (.int fl), some (.int (nI j)), some (.ref (rG h (B + 3) j)), none] [.int 1] h (fun r h' => r = Pk N (VL h K) us t (cR N) ∧ h' = h) := by
        intro q
        refine g_X9_pickRule_100 hU hB hK lc.2 G ⟨fun z => absurd z (by decide), fun _ => ?_⟩
        rw [e3, e0, w1, w2]
        refine ⟨fun z => no (fun y => y.1 (bi_n0.mp z)), fun z => zcI_use (s_X2_holds G hK hB hC hR hW) ⟨G, fun y => no (fun x => zb0.mp y (by rw [ScI_n hC ht]; exact x.2.1)), fun y => ?_⟩⟩
        have y1 := zbn.mp y
        rw [ScI_n hC ht] at y1
        have ok : Rl N (VL h K) us t j := ⟨bi_0.mp z, y1, q⟩
        refine ⟨fun x => ?_, fun x => ⟨?_, rfl⟩⟩
        · have e := Pk_1 (N := N) (L := VL h K) (us := us) (t := t) (n := j) ⟨ok, Or.inr (hfl.mp x)⟩
          have nx := ih (j + 1) (by omega) (fun u => absurd u x)
          rw [← nI_1, e] at nx
          exact nx
        · have e := Pk_1 (N := N) (L := VL h K) (us := us) (t := t) (n := j) ⟨ok, Or.inl (hf x)⟩
          rw [Pk_stop (n := j + 1) (by rw [e]; exact nI_neg1 (by omega)) (fun u => hfl.mpr u x) (cR N) (by omega), e]
      have stop : ¬ Rl N (VL h K) us t j → zlI M_X9_pickRule 100 [some (.ref U), some (.ref B), some (.ref K), some (.int (Pk N (VL h K) us t j)), some (.int fl), some (.int (nI j)), some (.ref (rG h (B + 3) j)), none] [.int 0] h (fun r h' => r = Pk N (VL h K) us t (cR N) ∧ h' = h) := fun q =>
        g_X9_pickRule_100 hU hB hK lc.2 G ⟨fun _ => no q, fun z => absurd rfl z⟩
      rw [w0, w3, e0, aliveC_Al hC hR hW]
      exact ⟨lc, fun q => yes (fun z => absurd z q), fun q => ⟨fun z => stop (fun y => (y.2.2 q).1 z), fun z => ⟨by rw [hR.1.1]; exact hC.t, fun y => stop (fun x => y (x.2.2 q).2), fun y => yes (fun _ => ⟨z, y⟩)⟩⟩⟩
  refine g_X9_pickRule hU hB hK G ?_
  rw [e0, aliveC_Al hC hR hW, nI_clamp (by omega)]
  have o0 : rI h (B + 6 + t) 0 = N (10 * t) := hR.2.1 t 0 ht (by omega)
  obtain ⟨-, -, o3⟩ := ixO hO
  have oc : rI h (B + 5) (N (10 * t)).toNatClampNeg = N (242 + (N (10 * t)).toNatClampNeg) := by
    rcases hO with z | z <;> rw [z]
    · exact hR.1.2.2.2.2.1
    · exact hR.1.2.2.2.2.2.1
  rw [o0, oc]
  refine ⟨by rw [hR.1.1]; exact hC.t, fun q => absurd ((AlI_n hC ht).mpr al) q, fun _ => ⟨vp_in_nI (by omega) (by omega), o3, fun q => ?_, fun q => ?_⟩⟩
  · exact loop 0 ⟨fun z => absurd rfl z, fun z => absurd z q⟩ (cR N) 0 (by omega) (fun _ => rfl)
  · exact loop 1 ⟨fun _ => q, fun _ => by decide⟩ (cR N) 0 (by omega) (fun _ => rfl)

