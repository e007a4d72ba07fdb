/-! contracts of the small methods -/
/-- in the scope (how, x): owner, type, marks of a thing and its number -/
def pIn (ow ty mk t how x : Int32) : Prop := (how = 0) ∨ (how = 1 ∧ ow = x) ∨ (how = 2 ∧ ty = x) ∨ (how = 3 ∧ bi mk x) ∨ (how = 4 ∧ ¬ bi mk x) ∨ (¬ how = 0 ∧ ¬ how = 1 ∧ ¬ how = 2 ∧ ¬ how = 3 ∧ ¬ how = 4 ∧ t = x)
/-- a scope as it may be told -/
def okSc (how x : Int32) : Prop := how = 0 ∨ ((1 ≤ how ∧ how ≤ 5) ∧ 0 ≤ x ∧ x ≤ (if how = 1 then 1 else if how = 5 then 7 else 5))
def aliveM (h : zHp) (t : Int32) : Prop := (0 ≤ t ∧ t ≤ rI h 165 238 - 1) ∧ rI h 165 (10 * t.toNatClampNeg + 5) = 1
def aliveC (h : zHp) (B : Nat) (t : Int32) : Prop := (0 ≤ t ∧ t < rI h B 1) ∧ ¬ rI h (B + 6 + t.toNatClampNeg) 5 = 0
noncomputable def layM (s : Int32) : Int32 := if s < 2 then s else s - 1
def tyU (sort v ty : Int32) : Int32 := if sort = 0 then v else ty
def mkU (sort v mk : Int32) : Int32 := if sort = 1 then mk ||| (1 <<< (v &&& 31)) else if sort = 2 then mk &&& ((1 <<< (v &&& 31)) ^^^ (-1)) else mk
theorem g_X10_within {x0 : Int32} {x1 : Int32} {x2 : Int32} {h : zHp} {Q : Int32 → zHp → Prop}  (G : zG h) (F : (x0 < x1 → (Q 0 h)) ∧ (¬ (x0 < x1) → ((x2 < x0 → (Q 0 h)) ∧ (¬ (x2 < x0) → (Q 1 h))))) : zcI M_X10_within [.int x0, .int x1, .int x2] h Q := by
  show zw zNT zNT M_X10_within 0 [some (.int x0), some (.int x1), some (.int x2)] [] h _
  refine z_iload_n (pc := 0) dX10_within_0 rfl rfl ?_
  refine z_iload_n (pc := 1) dX10_within_1 rfl rfl ?_
  refine z_icmp_lt (pc := 2) (tgt := 14) dX10_within_2 (by decide) (fun k2 => ?_) (fun k2 => ?_)
  · replace F := F.1 k2
    refine z_iconst (pc := 14) (v := 0) dX10_within_14 (by decide) ?_
    exact q_retB (pc := 15) dX10_within_15 rfl (Or.inl rfl) F
  · replace F := F.2 k2
    refine z_iload_n (pc := 5) dX10_within_5 rfl rfl ?_
    refine z_iload_n (pc := 6) dX10_within_6 rfl rfl ?_
    refine z_icmp_gt (pc := 7) (tgt := 14) dX10_within_7 (by decide) (fun k1 => ?_) (fun k1 => ?_)
    · replace F := F.1 k1
      refine z_iconst (pc := 14) (v := 0) dX10_within_14 (by decide) ?_
      exact q_retB (pc := 15) dX10_within_15 rfl (Or.inl rfl) F
    · replace F := F.2 k1
      refine z_iconst (pc := 10) (v := 1) dX10_within_10 (by decide) ?_
      refine z_goto (pc := 11) (tgt := 15) dX10_within_11 (by decide) ?_
      exact q_retB (pc := 15) dX10_within_15 rfl (Or.inr rfl) F
theorem g_X11_in {x0 : Int32} {x1 : Int32} {x2 : Int32} {h : zHp} {Q : Int32 → zHp → Prop}  (G : zG h) (F : (x0 < x1 → (Q 0 h)) ∧ (¬ (x0 < x1) → ((x2 < x0 → (Q 0 h)) ∧ (¬ (x2 < x0) → (Q 1 h))))) : zcI M_X11_in [.int x0, .int x1, .int x2] h Q := by
  show zw zNT zNT M_X11_in 0 [some (.int x0), some (.int x1), some (.int x2)] [] h _
  refine z_iload_n (pc := 0) dX11_in_0 rfl rfl ?_
  refine z_iload_n (pc := 1) dX11_in_1 rfl rfl ?_
  refine z_icmp_lt (pc := 2) (tgt := 14) dX11_in_2 (by decide) (fun k2 => ?_) (fun k2 => ?_)
  · replace F := F.1 k2
    refine z_iconst (pc := 14) (v := 0) dX11_in_14 (by decide) ?_
    exact q_retB (pc := 15) dX11_in_15 rfl (Or.inl rfl) F
  · replace F := F.2 k2
    refine z_iload_n (pc := 5) dX11_in_5 rfl rfl ?_
    refine z_iload_n (pc := 6) dX11_in_6 rfl rfl ?_
    refine z_icmp_gt (pc := 7) (tgt := 14) dX11_in_7 (by decide) (fun k1 => ?_) (fun k1 => ?_)
    · replace F := F.1 k1
      refine z_iconst (pc := 14) (v := 0) dX11_in_14 (by decide) ?_
      exact q_retB (pc := 15) dX11_in_15 rfl (Or.inl rfl) F
    · replace F := F.2 k1
      refine z_iconst (pc := 10) (v := 1) dX11_in_10 (by decide) ?_
      refine z_goto (pc := 11) (tgt := 15) dX11_in_11 (by decide) ?_
      exact q_retB (pc := 15) dX11_in_15 rfl (Or.inr rfl) F
theorem g_X11_has {x0 : Int32} {x1 : Int32} {h : zHp} {Q : Int32 → zHp → Prop}  (G : zG h) (F : (¬ (x0 >>> (x1 &&& 31)) &&& 1 = 1 → (Q 0 h)) ∧ ((x0 >>> (x1 &&& 31)) &&& 1 = 1 → (Q 1 h))) : zcI M_X11_has [.int x0, .int x1] h Q := by
  show zw zNT zNT M_X11_has 0 [some (.int x0), some (.int x1)] [] h _
  refine z_iload_n (pc := 0) dX11_has_0 rfl rfl ?_
  refine z_iload_n (pc := 1) dX11_has_1 rfl rfl ?_
  refine z_ishr (pc := 2) dX11_has_2 ?_
  refine z_iconst (pc := 3) (v := 1) dX11_has_3 (by decide) ?_
  refine z_iand (pc := 4) dX11_has_4 ?_
  refine z_iconst (pc := 5) (v := 1) dX11_has_5 (by decide) ?_
  refine z_icmp_ne (pc := 6) (tgt := 13) dX11_has_6 (by decide) (fun k1 => ?_) (fun k1 => ?_)
  · replace F := F.1 k1
    refine z_iconst (pc := 13) (v := 0) dX11_has_13 (by decide) ?_
    exact q_retB (pc := 14) dX11_has_14 rfl (Or.inl rfl) F
  · replace F := F.2 k1
    refine z_iconst (pc := 9) (v := 1) dX11_has_9 (by decide) ?_
    refine z_goto (pc := 10) (tgt := 14) dX11_has_10 (by decide) ?_
    exact q_retB (pc := 14) dX11_has_14 rfl (Or.inr rfl) F
theorem s_X10_within {v a b : Int32} {h : zHp} (G : zG h) : zcI M_X10_within [.int v, .int a, .int b] h (fun r h' => r = zb (a ≤ v ∧ v ≤ b) ∧ h' = h) := by
  refine g_X10_within G ⟨fun k => ⟨(zb_neg (fun q => absurd k (Int32.not_lt.mpr q.1))).symm, rfl⟩, fun k => ⟨fun k2 => ⟨(zb_neg (fun q => absurd k2 (Int32.not_lt.mpr q.2))).symm, rfl⟩, fun k2 => ⟨(zb_pos ⟨Int32.not_lt.mp k, Int32.not_lt.mp k2⟩).symm, rfl⟩⟩⟩
theorem s_X11_in {v a b : Int32} {h : zHp} (G : zG h) : zcI M_X11_in [.int v, .int a, .int b] h (fun r h' => r = zb (a ≤ v ∧ v ≤ b) ∧ h' = h) := by
  refine g_X11_in G ⟨fun k => ⟨(zb_neg (fun q => absurd k (Int32.not_lt.mpr q.1))).symm, rfl⟩, fun k => ⟨fun k2 => ⟨(zb_neg (fun q => absurd k2 (Int32.not_lt.mpr q.2))).symm, rfl⟩, fun k2 => ⟨(zb_pos ⟨Int32.not_lt.mp k, Int32.not_lt.mp k2⟩).symm, rfl⟩⟩⟩
theorem s_X11_has {x k : Int32} {h : zHp} (G : zG h) : zcI M_X11_has [.int x, .int k] h (fun r h' => r = zb (bi x k) ∧ h' = h) :=
  g_X11_has G ⟨fun q => ⟨(zb_neg q).symm, rfl⟩, fun q => ⟨(zb_pos q).symm, rfl⟩⟩
theorem g_X8_hasThing {c0 : Nat} {x1 : Int32} {h : zHp} {Q : Int32 → zHp → Prop} (hc0 : zW c0) (G : zG h) (F : Q (zb ((0 : Int32) ≤ x1 ∧ x1 ≤ (rI h c0 1) - 1)) h) : zcI M_X8_hasThing [.ref c0, .int x1] h Q := by
  show zw zNT zNT M_X8_hasThing 0 [some (.ref c0), some (.int x1)] [] h _
  refine z_iload_n (pc := 0) dX8_hasThing_0 rfl rfl ?_
  refine z_iconst (pc := 1) (v := 0) dX8_hasThing_1 (by decide) ?_
  refine z_aload_n (pc := 2) dX8_hasThing_2 rfl rfl ?_
  refine q_getI (pc := 3) (v := rI h c0 1) dX8_hasThing_3 lk_RX8_47 (lyW0 hc0) rfl ?_
  refine z_iconst (pc := 6) (v := 1) dX8_hasThing_6 (by decide) ?_
  refine z_isub (pc := 7) dX8_hasThing_7 ?_
  refine q_invS (pc := 8) (As := [.int x1, .int 0, .int ((rI h c0 1) - 1)]) (st := []) dX8_hasThing_8 ok_X10_within ml_RX8_75 st_X10_within pa_X10_within ⟨Nat.le_of_ble_eq_true rfl, Nat.le_of_ble_eq_true rfl⟩ (q_pI (s_X10_within G) rfl ?_)
  exact q_retB (pc := 11) dX8_hasThing_11 rfl zb_B F
theorem g_X8_hasEffect {c0 : Nat} {x1 : Int32} {h : zHp} {Q : Int32 → zHp → Prop} (hc0 : zW c0) (G : zG h) (F : Q (zb ((0 : Int32) ≤ x1 ∧ x1 ≤ (rI h c0 3) - 1)) h) : zcI M_X8_hasEffect [.ref c0, .int x1] h Q := by
  show zw zNT zNT M_X8_hasEffect 0 [some (.ref c0), some (.int x1)] [] h _
  refine z_iload_n (pc := 0) dX8_hasEffect_0 rfl rfl ?_
  refine z_iconst (pc := 1) (v := 0) dX8_hasEffect_1 (by decide) ?_
  refine z_aload_n (pc := 2) dX8_hasEffect_2 rfl rfl ?_
  refine q_getI (pc := 3) (v := rI h c0 3) dX8_hasEffect_3 lk_RX8_50 (lyW0 hc0) rfl ?_
  refine z_iconst (pc := 6) (v := 1) dX8_hasEffect_6 (by decide) ?_
  refine z_isub (pc := 7) dX8_hasEffect_7 ?_
  refine q_invS (pc := 8) (As := [.int x1, .int 0, .int ((rI h c0 3) - 1)]) (st := []) dX8_hasEffect_8 ok_X10_within ml_RX8_75 st_X10_within pa_X10_within ⟨Nat.le_of_ble_eq_true rfl, Nat.le_of_ble_eq_true rfl⟩ (q_pI (s_X10_within G) rfl ?_)
  exact q_retB (pc := 11) dX8_hasEffect_11 rfl zb_B F
theorem g_X8_hasRule {c0 : Nat} {x1 : Int32} {h : zHp} {Q : Int32 → zHp → Prop} (hc0 : zW c0) (G : zG h) (F : Q (zb ((0 : Int32) ≤ x1 ∧ x1 ≤ (rI h c0 5) - 1)) h) : zcI M_X8_hasRule [.ref c0, .int x1] h Q := by
  show zw zNT zNT M_X8_hasRule 0 [some (.ref c0), some (.int x1)] [] h _
  refine z_iload_n (pc := 0) dX8_hasRule_0 rfl rfl ?_
  refine z_iconst (pc := 1) (v := 0) dX8_hasRule_1 (by decide) ?_
  refine z_aload_n (pc := 2) dX8_hasRule_2 rfl rfl ?_
  refine q_getI (pc := 3) (v := rI h c0 5) dX8_hasRule_3 lk_RX8_53 (lyW0 hc0) rfl ?_
  refine z_iconst (pc := 6) (v := 1) dX8_hasRule_6 (by decide) ?_
  refine z_isub (pc := 7) dX8_hasRule_7 ?_
  refine q_invS (pc := 8) (As := [.int x1, .int 0, .int ((rI h c0 5) - 1)]) (st := []) dX8_hasRule_8 ok_X10_within ml_RX8_75 st_X10_within pa_X10_within ⟨Nat.le_of_ble_eq_true rfl, Nat.le_of_ble_eq_true rfl⟩ (q_pI (s_X10_within G) rfl ?_)
  exact q_retB (pc := 11) dX8_hasRule_11 rfl zb_B F
theorem g_X8_hasWatcher {c0 : Nat} {x1 : Int32} {h : zHp} {Q : Int32 → zHp → Prop} (hc0 : zW c0) (G : zG h) (F : Q (zb ((0 : Int32) ≤ x1 ∧ x1 ≤ (rI h c0 7) - 1)) h) : zcI M_X8_hasWatcher [.ref c0, .int x1] h Q := by
  show zw zNT zNT M_X8_hasWatcher 0 [some (.ref c0), some (.int x1)] [] h _
  refine z_iload_n (pc := 0) dX8_hasWatcher_0 rfl rfl ?_
  refine z_iconst (pc := 1) (v := 0) dX8_hasWatcher_1 (by decide) ?_
  refine z_aload_n (pc := 2) dX8_hasWatcher_2 rfl rfl ?_
  refine q_getI (pc := 3) (v := rI h c0 7) dX8_hasWatcher_3 lk_RX8_56 (lyW0 hc0) rfl ?_
  refine z_iconst (pc := 6) (v := 1) dX8_hasWatcher_6 (by decide) ?_
  refine z_isub (pc := 7) dX8_hasWatcher_7 ?_
  refine q_invS (pc := 8) (As := [.int x1, .int 0, .int ((rI h c0 7) - 1)]) (st := []) dX8_hasWatcher_8 ok_X10_within ml_RX8_75 st_X10_within pa_X10_within ⟨Nat.le_of_ble_eq_true rfl, Nat.le_of_ble_eq_true rfl⟩ (q_pI (s_X10_within G) rfl ?_)
  exact q_retB (pc := 11) dX8_hasWatcher_11 rfl zb_B F
theorem g_X11_isThing {x1 : Int32} {h : zHp} {Q : Int32 → zHp → Prop}  (G : zG h) (F : Q (zb ((0 : Int32) ≤ x1 ∧ x1 ≤ (rI h 165 238) - 1)) h) : zcI M_X11_isThing [.ref 164, .int x1] h Q := by
  show zw zNT zNT M_X11_isThing 0 [some (.ref 164), some (.int x1)] [] h _
  refine z_iload_n (pc := 0) dX11_isThing_0 rfl rfl ?_
  refine z_iconst (pc := 1) (v := 0) dX11_isThing_1 (by decide) ?_
  refine z_aload_n (pc := 2) dX11_isThing_2 rfl rfl ?_
  refine q_getR (pc := 3) (i := 165) dX11_isThing_3 lk_RX11_7 (lyc rfl) (G 164 0 165 rfl) ?_
  refine z_sipush (pc := 6) (v := 238) dX11_isThing_6 (by decide) ?_
  refine q_iald (pc := 9) (j := 238) (v := rI h 165 238) dX11_isThing_9 (lyc rfl) (zvl (lnc rfl) (by decide)) (by decide) rfl ?_
  refine z_iconst (pc := 10) (v := 1) dX11_isThing_10 (by decide) ?_
  refine z_isub (pc := 11) dX11_isThing_11 ?_
  refine q_invS (pc := 12) (As := [.int x1, .int 0, .int ((rI h 165 238) - 1)]) (st := []) dX11_isThing_12 ok_X11_in ml_RX11_84 st_X11_in pa_X11_in ⟨Nat.le_of_ble_eq_true rfl, Nat.le_of_ble_eq_true rfl⟩ (q_pI (s_X11_in G) rfl ?_)
  exact q_retB (pc := 15) dX11_isThing_15 rfl zb_B F
theorem g_X11_isEffect {x1 : Int32} {h : zHp} {Q : Int32 → zHp → Prop}  (G : zG h) (F : Q (zb ((0 : Int32) ≤ x1 ∧ x1 ≤ (rI h 165 239) - 1)) h) : zcI M_X11_isEffect [.ref 164, .int x1] h Q := by
  show zw zNT zNT M_X11_isEffect 0 [some (.ref 164), some (.int x1)] [] h _
  refine z_iload_n (pc := 0) dX11_isEffect_0 rfl rfl ?_
  refine z_iconst (pc := 1) (v := 0) dX11_isEffect_1 (by decide) ?_
  refine z_aload_n (pc := 2) dX11_isEffect_2 rfl rfl ?_
  refine q_getR (pc := 3) (i := 165) dX11_isEffect_3 lk_RX11_7 (lyc rfl) (G 164 0 165 rfl) ?_
  refine z_sipush (pc := 6) (v := 239) dX11_isEffect_6 (by decide) ?_
  refine q_iald (pc := 9) (j := 239) (v := rI h 165 239) dX11_isEffect_9 (lyc rfl) (zvl (lnc rfl) (by decide)) (by decide) rfl ?_
  refine z_iconst (pc := 10) (v := 1) dX11_isEffect_10 (by decide) ?_
  refine z_isub (pc := 11) dX11_isEffect_11 ?_
  refine q_invS (pc := 12) (As := [.int x1, .int 0, .int ((rI h 165 239) - 1)]) (st := []) dX11_isEffect_12 ok_X11_in ml_RX11_84 st_X11_in pa_X11_in ⟨Nat.le_of_ble_eq_true rfl, Nat.le_of_ble_eq_true rfl⟩ (q_pI (s_X11_in G) rfl ?_)
  exact q_retB (pc := 15) dX11_isEffect_15 rfl zb_B F
theorem g_X11_isRule {x1 : Int32} {h : zHp} {Q : Int32 → zHp → Prop}  (G : zG h) (F : Q (zb ((0 : Int32) ≤ x1 ∧ x1 ≤ (rI h 165 240) - 1)) h) : zcI M_X11_isRule [.ref 164, .int x1] h Q := by
  show zw zNT zNT M_X11_isRule 0 [some (.ref 164), some (.int x1)] [] h _
  refine z_iload_n (pc := 0) dX11_isRule_0 rfl rfl ?_
  refine z_iconst (pc := 1) (v := 0) dX11_isRule_1 (by decide) ?_
  refine z_aload_n (pc := 2) dX11_isRule_2 rfl rfl ?_
  refine q_getR (pc := 3) (i := 165) dX11_isRule_3 lk_RX11_7 (lyc rfl) (G 164 0 165 rfl) ?_
  refine z_sipush (pc := 6) (v := 240) dX11_isRule_6 (by decide) ?_
  refine q_iald (pc := 9) (j := 240) (v := rI h 165 240) dX11_isRule_9 (lyc rfl) (zvl (lnc rfl) (by decide)) (by decide) rfl ?_
  refine z_iconst (pc := 10) (v := 1) dX11_isRule_10 (by decide) ?_
  refine z_isub (pc := 11) dX11_isRule_11 ?_
  refine q_invS (pc := 12) (As := [.int x1, .int 0, .int ((rI h 165 240) - 1)]) (st := []) dX11_isRule_12 ok_X11_in ml_RX11_84 st_X11_in pa_X11_in ⟨Nat.le_of_ble_eq_true rfl, Nat.le_of_ble_eq_true rfl⟩ (q_pI (s_X11_in G) rfl ?_)
  exact q_retB (pc := 15) dX11_isRule_15 rfl zb_B F
theorem g_X11_isWatcher {x1 : Int32} {h : zHp} {Q : Int32 → zHp → Prop}  (G : zG h) (F : Q (zb ((0 : Int32) ≤ x1 ∧ x1 ≤ (rI h 165 241) - 1)) h) : zcI M_X11_isWatcher [.ref 164, .int x1] h Q := by
  show zw zNT zNT M_X11_isWatcher 0 [some (.ref 164), some (.int x1)] [] h _
  refine z_iload_n (pc := 0) dX11_isWatcher_0 rfl rfl ?_
  refine z_iconst (pc := 1) (v := 0) dX11_isWatcher_1 (by decide) ?_
  refine z_aload_n (pc := 2) dX11_isWatcher_2 rfl rfl ?_
  refine q_getR (pc := 3) (i := 165) dX11_isWatcher_3 lk_RX11_7 (lyc rfl) (G 164 0 165 rfl) ?_
  refine z_sipush (pc := 6) (v := 241) dX11_isWatcher_6 (by decide) ?_
  refine q_iald (pc := 9) (j := 241) (v := rI h 165 241) dX11_isWatcher_9 (lyc rfl) (zvl (lnc rfl) (by decide)) (by decide) rfl ?_
  refine z_iconst (pc := 10) (v := 1) dX11_isWatcher_10 (by decide) ?_
  refine z_isub (pc := 11) dX11_isWatcher_11 ?_
  refine q_invS (pc := 12) (As := [.int x1, .int 0, .int ((rI h 165 241) - 1)]) (st := []) dX11_isWatcher_12 ok_X11_in ml_RX11_84 st_X11_in pa_X11_in ⟨Nat.le_of_ble_eq_true rfl, Nat.le_of_ble_eq_true rfl⟩ (q_pI (s_X11_in G) rfl ?_)
  exact q_retB (pc := 15) dX11_isWatcher_15 rfl zb_B F
theorem g_X11_its {x1 : Int32} {x2 : Int32} {h : zHp} {Q : Int32 → zHp → Prop}  (G : zG h) (F : vp_in ((0 + (10 * x1)) + x2) 246 ∧ (Q (rI h 165 ((Int32.toNatClampNeg ((0 + (10 * x1)) + x2)))) h)) : zcI M_X11_its [.ref 164, .int x1, .int x2] h Q := by
  show zw zNT zNT M_X11_its 0 [some (.ref 164), some (.int x1), some (.int x2)] [] h _
  refine z_aload_n (pc := 0) dX11_its_0 rfl rfl ?_
  refine q_getR (pc := 1) (i := 165) dX11_its_1 lk_RX11_7 (lyc rfl) (G 164 0 165 rfl) ?_
  refine z_iconst (pc := 4) (v := 0) dX11_its_4 (by decide) ?_
  refine z_bipush (pc := 5) (v := 10) dX11_its_5 (by decide) ?_
  refine z_iload_n (pc := 7) dX11_its_7 rfl rfl ?_
  refine z_imul (pc := 8) dX11_its_8 ?_
  refine z_iadd (pc := 9) dX11_its_9 ?_
  refine z_iload_n (pc := 10) dX11_its_10 rfl rfl ?_
  refine z_iadd (pc := 11) dX11_its_11 ?_
  obtain ⟨k1, F⟩ := F
  refine q_iald (pc := 12) (j := (Int32.toNatClampNeg ((0 + (10 * x1)) + x2))) (v := rI h 165 ((Int32.toNatClampNeg ((0 + (10 * x1)) + x2)))) dX11_its_12 (lyc rfl) (zvn (lnc rfl) k1) rfl rfl ?_
  exact q_retI (pc := 13) dX11_its_13 rfl F
theorem g_X11_effectIs {x1 : Int32} {x2 : Int32} {h : zHp} {Q : Int32 → zHp → Prop}  (G : zG h) (F : vp_in ((80 + (7 * x1)) + x2) 246 ∧ (Q (rI h 165 ((Int32.toNatClampNeg ((80 + (7 * x1)) + x2)))) h)) : zcI M_X11_effectIs [.ref 164, .int x1, .int x2] h Q := by
  show zw zNT zNT M_X11_effectIs 0 [some (.ref 164), some (.int x1), some (.int x2)] [] h _
  refine z_aload_n (pc := 0) dX11_effectIs_0 rfl rfl ?_
  refine q_getR (pc := 1) (i := 165) dX11_effectIs_1 lk_RX11_7 (lyc rfl) (G 164 0 165 rfl) ?_
  refine z_bipush (pc := 4) (v := 80) dX11_effectIs_4 (by decide) ?_
  refine z_bipush (pc := 6) (v := 7) dX11_effectIs_6 (by decide) ?_
  refine z_iload_n (pc := 8) dX11_effectIs_8 rfl rfl ?_
  refine z_imul (pc := 9) dX11_effectIs_9 ?_
  refine z_iadd (pc := 10) dX11_effectIs_10 ?_
  refine z_iload_n (pc := 11) dX11_effectIs_11 rfl rfl ?_
  refine z_iadd (pc := 12) dX11_effectIs_12 ?_
  obtain ⟨k1, F⟩ := F
  refine q_iald (pc := 13) (j := (Int32.toNatClampNeg ((80 + (7 * x1)) + x2))) (v := rI h 165 ((Int32.toNatClampNeg ((80 + (7 * x1)) + x2)))) dX11_effectIs_13 (lyc rfl) (zvn (lnc rfl) k1) rfl rfl ?_
  exact q_retI (pc := 14) dX11_effectIs_14 rfl F
theorem g_X11_ruleIs {x1 : Int32} {x2 : Int32} {h : zHp} {Q : Int32 → zHp → Prop}  (G : zG h) (F : vp_in ((150 + (4 * x1)) + x2) 246 ∧ (Q (rI h 165 ((Int32.toNatClampNeg ((150 + (4 * x1)) + x2)))) h)) : zcI M_X11_ruleIs [.ref 164, .int x1, .int x2] h Q := by
  show zw zNT zNT M_X11_ruleIs 0 [some (.ref 164), some (.int x1), some (.int x2)] [] h _
  refine z_aload_n (pc := 0) dX11_ruleIs_0 rfl rfl ?_
  refine q_getR (pc := 1) (i := 165) dX11_ruleIs_1 lk_RX11_7 (lyc rfl) (G 164 0 165 rfl) ?_
  refine z_sipush (pc := 4) (v := 150) dX11_ruleIs_4 (by decide) ?_
  refine z_iconst (pc := 7) (v := 4) dX11_ruleIs_7 (by decide) ?_
  refine z_iload_n (pc := 8) dX11_ruleIs_8 rfl rfl ?_
  refine z_imul (pc := 9) dX11_ruleIs_9 ?_
  refine z_iadd (pc := 10) dX11_ruleIs_10 ?_
  refine z_iload_n (pc := 11) dX11_ruleIs_11 rfl rfl ?_
  refine z_iadd (pc := 12) dX11_ruleIs_12 ?_
  obtain ⟨k1, F⟩ := F
  refine q_iald (pc := 13) (j := (Int32.toNatClampNeg ((150 + (4 * x1)) + x2))) (v := rI h 165 ((Int32.toNatClampNeg ((150 + (4 * x1)) + x2)))) dX11_ruleIs_13 (lyc rfl) (zvn (lnc rfl) k1) rfl rfl ?_
  exact q_retI (pc := 14) dX11_ruleIs_14 rfl F
theorem g_X11_watcher {x1 : Int32} {x2 : Int32} {h : zHp} {Q : Int32 → zHp → Prop}  (G : zG h) (F : vp_in ((182 + (7 * x1)) + x2) 246 ∧ (Q (rI h 165 ((Int32.toNatClampNeg ((182 + (7 * x1)) + x2)))) h)) : zcI M_X11_watcher [.ref 164, .int x1, .int x2] h Q := by
  show zw zNT zNT M_X11_watcher 0 [some (.ref 164), some (.int x1), some (.int x2)] [] h _
  refine z_aload_n (pc := 0) dX11_watcher_0 rfl rfl ?_
  refine q_getR (pc := 1) (i := 165) dX11_watcher_1 lk_RX11_7 (lyc rfl) (G 164 0 165 rfl) ?_
  refine z_sipush (pc := 4) (v := 182) dX11_watcher_4 (by decide) ?_
  refine z_bipush (pc := 7) (v := 7) dX11_watcher_7 (by decide) ?_
  refine z_iload_n (pc := 9) dX11_watcher_9 rfl rfl ?_
  refine z_imul (pc := 10) dX11_watcher_10 ?_
  refine z_iadd (pc := 11) dX11_watcher_11 ?_
  refine z_iload_n (pc := 12) dX11_watcher_12 rfl rfl ?_
  refine z_iadd (pc := 13) dX11_watcher_13 ?_
  obtain ⟨k1, F⟩ := F
  refine q_iald (pc := 14) (j := (Int32.toNatClampNeg ((182 + (7 * x1)) + x2))) (v := rI h 165 ((Int32.toNatClampNeg ((182 + (7 * x1)) + x2)))) dX11_watcher_14 (lyc rfl) (zvn (lnc rfl) k1) rfl rfl ?_
  exact q_retI (pc := 15) dX11_watcher_15 rfl F
theorem g_X11_isSheet {x0 : Int32} {h : zHp} {Q : Int32 → zHp → Prop}  (G : zG h) (F : Q (zb ((0 : Int32) ≤ x0 ∧ x0 ≤ 3)) h) : zcI M_X11_isSheet [.int x0] h Q := by
  show zw zNT zNT M_X11_isSheet 0 [some (.int x0)] [] h _
  refine z_iload_n (pc := 0) dX11_isSheet_0 rfl rfl ?_
  refine z_iconst (pc := 1) (v := 0) dX11_isSheet_1 (by decide) ?_
  refine z_iconst (pc := 2) (v := 3) dX11_isSheet_2 (by decide) ?_
  refine q_invS (pc := 3) (As := [.int x0, .int 0, .int 3]) (st := []) dX11_isSheet_3 ok_X11_in ml_RX11_84 st_X11_in pa_X11_in ⟨Nat.le_of_ble_eq_true rfl, Nat.le_of_ble_eq_true rfl⟩ (q_pI (s_X11_in G) rfl ?_)
  exact q_retB (pc := 6) dX11_isSheet_6 rfl zb_B F
theorem s_X8_hasThing {B : Nat} {t : Int32} {h : zHp} (G : zG h) (hB : zW B) : zcI M_X8_hasThing [.ref B, .int t] h (fun r h' => r = zb (0 ≤ t ∧ t ≤ rI h B 1 - 1) ∧ h' = h) := g_X8_hasThing hB G ⟨rfl, rfl⟩
theorem s_X8_hasEffect {B : Nat} {t : Int32} {h : zHp} (G : zG h) (hB : zW B) : zcI M_X8_hasEffect [.ref B, .int t] h (fun r h' => r = zb (0 ≤ t ∧ t ≤ rI h B 3 - 1) ∧ h' = h) := g_X8_hasEffect hB G ⟨rfl, rfl⟩
theorem s_X8_hasRule {B : Nat} {t : Int32} {h : zHp} (G : zG h) (hB : zW B) : zcI M_X8_hasRule [.ref B, .int t] h (fun r h' => r = zb (0 ≤ t ∧ t ≤ rI h B 5 - 1) ∧ h' = h) := g_X8_hasRule hB G ⟨rfl, rfl⟩
theorem s_X8_hasWatcher {B : Nat} {t : Int32} {h : zHp} (G : zG h) (hB : zW B) : zcI M_X8_hasWatcher [.ref B, .int t] h (fun r h' => r = zb (0 ≤ t ∧ t ≤ rI h B 7 - 1) ∧ h' = h) := g_X8_hasWatcher hB G ⟨rfl, rfl⟩
theorem s_X11_isThing {t : Int32} {h : zHp} (G : zG h) : zcI M_X11_isThing [.ref 164, .int t] h (fun r h' => r = zb (0 ≤ t ∧ t ≤ rI h 165 238 - 1) ∧ h' = h) := g_X11_isThing G ⟨rfl, rfl⟩
theorem s_X11_isEffect {t : Int32} {h : zHp} (G : zG h) : zcI M_X11_isEffect [.ref 164, .int t] h (fun r h' => r = zb (0 ≤ t ∧ t ≤ rI h 165 239 - 1) ∧ h' = h) := g_X11_isEffect G ⟨rfl, rfl⟩
theorem s_X11_isRule {t : Int32} {h : zHp} (G : zG h) : zcI M_X11_isRule [.ref 164, .int t] h (fun r h' => r = zb (0 ≤ t ∧ t ≤ rI h 165 240 - 1) ∧ h' = h) := g_X11_isRule G ⟨rfl, rfl⟩
theorem s_X11_isWatcher {t : Int32} {h : zHp} (G : zG h) : zcI M_X11_isWatcher [.ref 164, .int t] h (fun r h' => r = zb (0 ≤ t ∧ t ≤ rI h 165 241 - 1) ∧ h' = h) := g_X11_isWatcher G ⟨rfl, rfl⟩
theorem s_X11_its {t k : Int32} {h : zHp} (G : zG h) (c : vp_in ((0 + (10 * t)) + k) 246) : zcI M_X11_its [.ref 164, .int t, .int k] h (fun r h' => r = rI h 165 (((0 + (10 * t)) + k).toNatClampNeg) ∧ h' = h) := g_X11_its G ⟨c, rfl, rfl⟩
theorem s_X11_effectIs {t k : Int32} {h : zHp} (G : zG h) (c : vp_in ((80 + (7 * t)) + k) 246) : zcI M_X11_effectIs [.ref 164, .int t, .int k] h (fun r h' => r = rI h 165 (((80 + (7 * t)) + k).toNatClampNeg) ∧ h' = h) := g_X11_effectIs G ⟨c, rfl, rfl⟩
theorem s_X11_ruleIs {t k : Int32} {h : zHp} (G : zG h) (c : vp_in ((150 + (4 * t)) + k) 246) : zcI M_X11_ruleIs [.ref 164, .int t, .int k] h (fun r h' => r = rI h 165 (((150 + (4 * t)) + k).toNatClampNeg) ∧ h' = h) := g_X11_ruleIs G ⟨c, rfl, rfl⟩
theorem s_X11_watcher {t k : Int32} {h : zHp} (G : zG h) (c : vp_in ((182 + (7 * t)) + k) 246) : zcI M_X11_watcher [.ref 164, .int t, .int k] h (fun r h' => r = rI h 165 (((182 + (7 * t)) + k).toNatClampNeg) ∧ h' = h) := g_X11_watcher G ⟨c, rfl, rfl⟩
theorem s_X11_isSheet {t : Int32} {h : zHp} (G : zG h) : zcI M_X11_isSheet [.int t] h (fun r h' => r = zb (0 ≤ t ∧ t ≤ 3) ∧ h' = h) := g_X11_isSheet G ⟨rfl, rfl⟩
/-- places of the row of all that is kept -/
theorem ixT {t k : Nat} (ht : t < 8) (hk : k < 10) : vp_in ((0 + (10 * nI t)) + nI k) 246 ∧ ((0 + (10 * nI t)) + nI k).toNatClampNeg = 10 * t + k := by
  have e : (0 + (10 * nI t)) + nI k = nI (10 * t + k) := by
    rw [show (0 : Int32) = nI 0 from rfl, show (10 : Int32) = nI 10 from rfl, pk_mul, nI_add, nI_add, Nat.zero_add]
  rw [e]
  exact ⟨vp_in_nI (by omega) (by omega), nI_clamp (by omega)⟩
theorem ixE {t k : Nat} (ht : t < 10) (hk : k < 7) : vp_in ((80 + (7 * nI t)) + nI k) 246 ∧ ((80 + (7 * nI t)) + nI k).toNatClampNeg = 80 + 7 * t + k := by
  have e : (80 + (7 * nI t)) + nI k = nI (80 + 7 * t + k) := by
    rw [show (80 : Int32) = nI 80 from rfl, show (7 : Int32) = nI 7 from rfl, pk_mul, nI_add, nI_add]
  rw [e]
  exact ⟨vp_in_nI (by omega) (by omega), nI_clamp (by omega)⟩
theorem ixR {t k : Nat} (ht : t < 8) (hk : k < 4) : vp_in ((150 + (4 * nI t)) + nI k) 246 ∧ ((150 + (4 * nI t)) + nI k).toNatClampNeg = 150 + 4 * t + k := by
  have e : (150 + (4 * nI t)) + nI k = nI (150 + 4 * t + k) := by
    rw [show (150 : Int32) = nI 150 from rfl, show (4 : Int32) = nI 4 from rfl, pk_mul, nI_add, nI_add]
  rw [e]
  exact ⟨vp_in_nI (by omega) (by omega), nI_clamp (by omega)⟩
theorem ixV {t k : Nat} (ht : t < 8) (hk : k < 7) : vp_in ((182 + (7 * nI t)) + nI k) 246 ∧ ((182 + (7 * nI t)) + nI k).toNatClampNeg = 182 + 7 * t + k := by
  have e : (182 + (7 * nI t)) + nI k = nI (182 + 7 * t + k) := by
    rw [show (182 : Int32) = nI 182 from rfl, show (7 : Int32) = nI 7 from rfl, pk_mul, nI_add, nI_add]
  rw [e]
  exact ⟨vp_in_nI (by omega) (by omega), nI_clamp (by omega)⟩
/-- a count: a number from 0 to N -/
def zCt (x : Int32) (N : Nat) : Prop := ∃ n : Nat, n ≤ N ∧ x = nI n
theorem zCt_n {x : Int32} {N : Nat} (h : zCt x N) (hN : N < 2 ^ 31) : x = nI x.toNatClampNeg ∧ x.toNatClampNeg ≤ N := by
  obtain ⟨n, hn, rfl⟩ := h
  rw [nI_clamp (by omega)]
  exact ⟨rfl, hn⟩
/-- a number below a count -/
theorem zsm {t : Int32} {n : Nat} (hn : n < 2 ^ 31) (h : 0 ≤ t ∧ t ≤ nI n - 1) : ∃ j : Nat, j < n ∧ t = nI j := by
  obtain ⟨h0, h1⟩ := h
  obtain ⟨j, hj, rfl⟩ := nI_of (Int32.not_lt.mpr h0)
  refine ⟨j, ?_, rfl⟩
  cases n with
  | zero =>
    have a1 := Int32.le_iff_toInt_le.mp h1
    rw [nI_toInt hj, show (nI 0 - 1 : Int32).toInt = -1 from rfl] at a1
    omega
  | succ m =>
    rw [nI_pred] at h1
    have := (nI_leI hj (by omega)).mp h1
    omega
theorem zsm2 {j n : Nat} (hn : n < 2 ^ 31) (h : j < n) : 0 ≤ nI j ∧ nI j ≤ nI n - 1 := by
  cases n with
  | zero => omega
  | succ m =>
    rw [nI_pred]
    exact ⟨nI_pos' (by omega), nI_le (by omega) (by omega)⟩
theorem zsm3 {t : Int32} {n : Nat} (hn : n < 2 ^ 31) (h1 : ¬ t < 0) (h2 : ¬ nI n ≤ t) : ∃ j : Nat, j < n ∧ t = nI j := by
  obtain ⟨j, hj, rfl⟩ := nI_of h1
  exact ⟨j, (Nat.lt_of_not_le fun q => h2 (nI_le q hj)), rfl⟩
theorem g_X11_isAlive {x1 : Int32} {h : zHp} {Q : Int32 → zHp → Prop}  (G : zG h) (F : (¬ (0 ≤ x1 ∧ x1 ≤ rI h 165 238 - 1) → (Q 0 h)) ∧ ((0 ≤ x1 ∧ x1 ≤ rI h 165 238 - 1) → (vp_in ((0 + (10 * x1)) + 5) 246 ∧ ((¬ rI h 165 ((Int32.toNatClampNeg (((0 + (10 * x1)) + 5)))) = 1 → (Q 0 h)) ∧ (rI h 165 ((Int32.toNatClampNeg (((0 + (10 * x1)) + 5)))) = 1 → (Q 1 h)))))) : zcI M_X11_isAlive [.ref 164, .int x1] h Q := by
  show zw zNT zNT M_X11_isAlive 0 [some (.ref 164), some (.int x1)] [] h _
  refine z_aload_n (pc := 0) dX11_isAlive_0 rfl rfl ?_
  refine z_iload_n (pc := 1) dX11_isAlive_1 rfl rfl ?_
  refine q_invV (pc := 2) (As := [.int x1]) (st := []) dX11_isAlive_2 ok_X11_isThing ml_RX11_88 iv_X11_isThing pa_X11_isThing ⟨Nat.le_of_ble_eq_true rfl, Nat.le_of_ble_eq_true rfl⟩ (lyc rfl) (q_pI (s_X11_isThing G) rfl ?_)
  refine z_if_eq (pc := 5) (tgt := 22) dX11_isAlive_5 (by decide) (fun k3 => ?_) (fun k3 => ?_)
  · replace F := F.1 (zb0.mp k3)
    refine z_iconst (pc := 22) (v := 0) dX11_isAlive_22 (by decide) ?_
    exact q_retB (pc := 23) dX11_isAlive_23 rfl (Or.inl rfl) F
  · replace F := F.2 (zbn.mp k3)
    refine z_aload_n (pc := 8) dX11_isAlive_8 rfl rfl ?_
    refine z_iload_n (pc := 9) dX11_isAlive_9 rfl rfl ?_
    refine z_iconst (pc := 10) (v := 5) dX11_isAlive_10 (by decide) ?_
    obtain ⟨k1, F⟩ := F
    refine q_invV (pc := 11) (As := [.int x1, .int 5]) (st := []) dX11_isAlive_11 ok_X11_its ml_RX11_92 iv_X11_its pa_X11_its ⟨Nat.le_of_ble_eq_true rfl, Nat.le_of_ble_eq_true rfl⟩ (lyc rfl) (q_pI (s_X11_its G k1) rfl ?_)
    refine z_iconst (pc := 14) (v := 1) dX11_isAlive_14 (by decide) ?_
    refine z_icmp_ne (pc := 15) (tgt := 22) dX11_isAlive_15 (by decide) (fun k2 => ?_) (fun k2 => ?_)
    · replace F := F.1 k2
      refine z_iconst (pc := 22) (v := 0) dX11_isAlive_22 (by decide) ?_
      exact q_retB (pc := 23) dX11_isAlive_23 rfl (Or.inl rfl) F
    · replace F := F.2 k2
      refine z_iconst (pc := 18) (v := 1) dX11_isAlive_18 (by decide) ?_
      refine z_goto (pc := 19) (tgt := 23) dX11_isAlive_19 (by decide) ?_
      exact q_retB (pc := 23) dX11_isAlive_23 rfl (Or.inr rfl) F
theorem g_X8_isAlive {c0 : Nat} {x1 : Int32} {h : zHp} {Q : Int32 → zHp → Prop} (hc0 : zW c0) (G : zG h) (F : (x1 < 0 → (Q 0 h)) ∧ (¬ (x1 < 0) → ((rI h c0 1 ≤ x1 → (Q 0 h)) ∧ (¬ (rI h c0 1 ≤ x1) → (vp_in x1 8 ∧ ((rI h (c0 + 6 + (Int32.toNatClampNeg x1)) 5 = 0 → (Q 0 h)) ∧ (¬ (rI h (c0 + 6 + (Int32.toNatClampNeg x1)) 5 = 0) → (Q 1 h)))))))) : zcI M_X8_isAlive [.ref c0, .int x1] h Q := by
  show zw zNT zNT M_X8_isAlive 0 [some (.ref c0), some (.int x1)] [] h _
  refine z_iload_n (pc := 0) dX8_isAlive_0 rfl rfl ?_
  refine z_if_lt (pc := 1) (tgt := 28) dX8_isAlive_1 (by decide) (fun k4 => ?_) (fun k4 => ?_)
  · replace F := F.1 k4
    refine z_iconst (pc := 28) (v := 0) dX8_isAlive_28 (by decide) ?_
    exact q_retB (pc := 29) dX8_isAlive_29 rfl (Or.inl rfl) F
  · replace F := F.2 k4
    refine z_iload_n (pc := 4) dX8_isAlive_4 rfl rfl ?_
    refine z_aload_n (pc := 5) dX8_isAlive_5 rfl rfl ?_
    refine q_getI (pc := 6) (v := rI h c0 1) dX8_isAlive_6 lk_RX8_47 (lyW0 hc0) rfl ?_
    refine z_icmp_ge (pc := 9) (tgt := 28) dX8_isAlive_9 (by decide) (fun k3 => ?_) (fun k3 => ?_)
    · replace F := F.1 k3
      refine z_iconst (pc := 28) (v := 0) dX8_isAlive_28 (by decide) ?_
      exact q_retB (pc := 29) dX8_isAlive_29 rfl (Or.inl rfl) F
    · replace F := F.2 k3
      refine z_aload_n (pc := 12) dX8_isAlive_12 rfl rfl ?_
      refine q_getR (pc := 13) (i := c0 + 1) dX8_isAlive_13 lk_RX8_11 (lyW0 hc0) (grW0 G hc0) ?_
      refine z_iload_n (pc := 16) dX8_isAlive_16 rfl rfl ?_
      obtain ⟨k1, F⟩ := F
      refine q_aald (pc := 17) (j := (Int32.toNatClampNeg x1)) (r := c0 + 6 + (Int32.toNatClampNeg x1)) (t := 0) dX8_isAlive_17 (lyW1 hc0) (zvn (lnW1 hc0) k1) rfl (grT (B := c0) G hc0 (zvi k1)) ?_
      refine q_getI (pc := 18) (v := rI h (c0 + 6 + (Int32.toNatClampNeg x1)) 5) dX8_isAlive_18 lk_RX8_79 (lyT (B := c0) hc0 (zvi k1)) rfl ?_
      refine z_if_eq (pc := 21) (tgt := 28) dX8_isAlive_21 (by decide) (fun k2 => ?_) (fun k2 => ?_)
      · replace F := F.1 k2
        refine z_iconst (pc := 28) (v := 0) dX8_isAlive_28 (by decide) ?_
        exact q_retB (pc := 29) dX8_isAlive_29 rfl (Or.inl rfl) F
      · replace F := F.2 k2
        refine z_iconst (pc := 24) (v := 1) dX8_isAlive_24 (by decide) ?_
        refine z_goto (pc := 25) (tgt := 29) dX8_isAlive_25 (by decide) ?_
        exact q_retB (pc := 29) dX8_isAlive_29 rfl (Or.inr rfl) F
theorem g_X11_layer {x0 : Int32} {h : zHp} {Q : Int32 → zHp → Prop}  (G : zG h) (F : (2 ≤ x0 → (Q (x0 - 1) h)) ∧ (¬ (2 ≤ x0) → (Q x0 h))) : zcI M_X11_layer [.int x0] h Q := by
  show zw zNT zNT M_X11_layer 0 [some (.int x0)] [] h _
  refine z_iload_n (pc := 0) dX11_layer_0 rfl rfl ?_
  refine z_iconst (pc := 1) (v := 2) dX11_layer_1 (by decide) ?_
  refine z_icmp_ge (pc := 2) (tgt := 9) dX11_layer_2 (by decide) (fun k1 => ?_) (fun k1 => ?_)
  · replace F := F.1 k1
    refine z_iload_n (pc := 9) dX11_layer_9 rfl rfl ?_
    refine z_iconst (pc := 10) (v := 1) dX11_layer_10 (by decide) ?_
    refine z_isub (pc := 11) dX11_layer_11 ?_
    exact q_retI (pc := 12) dX11_layer_12 rfl F
  · replace F := F.2 k1
    refine z_iload_n (pc := 5) dX11_layer_5 rfl rfl ?_
    refine z_goto (pc := 6) (tgt := 12) dX11_layer_6 (by decide) ?_
    exact q_retI (pc := 12) dX11_layer_12 rfl F
theorem g_X11_isScope {x0 : Int32} {x1 : Int32} {h : zHp} {Q : Int32 → zHp → Prop}  (G : zG h) (F : (x0 = 0 → (Q 1 h)) ∧ (¬ (x0 = 0) → ((¬ ((1 : Int32) ≤ x0 ∧ x0 ≤ 5) → (Q 0 h)) ∧ (((1 : Int32) ≤ x0 ∧ x0 ≤ 5) → ((¬ x0 = 1 → ((¬ x0 = 5 → ((¬ ((0 : Int32) ≤ x1 ∧ x1 ≤ 5) → (Q 0 h)) ∧ (((0 : Int32) ≤ x1 ∧ x1 ≤ 5) → (Q 1 h)))) ∧ (x0 = 5 → ((¬ ((0 : Int32) ≤ x1 ∧ x1 ≤ 7) → (Q 0 h)) ∧ (((0 : Int32) ≤ x1 ∧ x1 ≤ 7) → (Q 1 h)))))) ∧ (x0 = 1 → ((¬ ((0 : Int32) ≤ x1 ∧ x1 ≤ 1) → (Q 0 h)) ∧ (((0 : Int32) ≤ x1 ∧ x1 ≤ 1) → (Q 1 h))))))))) : zcI M_X11_isScope [.int x0, .int x1] h Q := by
  show zw zNT zNT M_X11_isScope 0 [some (.int x0), some (.int x1)] [] h _
  refine z_iload_n (pc := 0) dX11_isScope_0 rfl rfl ?_
  refine z_if_eq (pc := 1) (tgt := 41) dX11_isScope_1 (by decide) (fun k7 => ?_) (fun k7 => ?_)
  · replace F := F.1 k7
    refine z_iconst (pc := 41) (v := 1) dX11_isScope_41 (by decide) ?_
    refine z_goto (pc := 42) (tgt := 46) dX11_isScope_42 (by decide) ?_
    exact q_retB (pc := 46) dX11_isScope_46 rfl (Or.inr rfl) F
  · replace F := F.2 k7
    refine z_iload_n (pc := 4) dX11_isScope_4 rfl rfl ?_
    refine z_iconst (pc := 5) (v := 1) dX11_isScope_5 (by decide) ?_
    refine z_iconst (pc := 6) (v := 5) dX11_isScope_6 (by decide) ?_
    refine q_invS (pc := 7) (As := [.int x0, .int 1, .int 5]) (st := []) dX11_isScope_7 ok_X11_in ml_RX11_84 st_X11_in pa_X11_in ⟨Nat.le_of_ble_eq_true rfl, Nat.le_of_ble_eq_true rfl⟩ (q_pI (s_X11_in G) rfl ?_)
    refine z_if_eq (pc := 10) (tgt := 45) dX11_isScope_10 (by decide) (fun k6 => ?_) (fun k6 => ?_)
    · replace F := F.1 (zb0.mp k6)
      refine z_iconst (pc := 45) (v := 0) dX11_isScope_45 (by decide) ?_
      exact q_retB (pc := 46) dX11_isScope_46 rfl (Or.inl rfl) F
    · replace F := F.2 (zbn.mp k6)
      refine z_iload_n (pc := 13) dX11_isScope_13 rfl rfl ?_
      refine z_iconst (pc := 14) (v := 0) dX11_isScope_14 (by decide) ?_
      refine z_iload_n (pc := 15) dX11_isScope_15 rfl rfl ?_
      refine z_iconst (pc := 16) (v := 1) dX11_isScope_16 (by decide) ?_
      refine z_icmp_ne (pc := 17) (tgt := 24) dX11_isScope_17 (by decide) (fun k5 => ?_) (fun k5 => ?_)
      · replace F := F.1 k5
        refine z_iload_n (pc := 24) dX11_isScope_24 rfl rfl ?_
        refine z_iconst (pc := 25) (v := 5) dX11_isScope_25 (by decide) ?_
        refine z_icmp_ne (pc := 26) (tgt := 34) dX11_isScope_26 (by decide) (fun k3 => ?_) (fun k3 => ?_)
        · replace F := F.1 k3
          refine z_iconst (pc := 34) (v := 5) dX11_isScope_34 (by decide) ?_
          refine q_invS (pc := 35) (As := [.int x1, .int 0, .int 5]) (st := []) dX11_isScope_35 ok_X11_in ml_RX11_84 st_X11_in pa_X11_in ⟨Nat.le_of_ble_eq_true rfl, Nat.le_of_ble_eq_true rfl⟩ (q_pI (s_X11_in G) rfl ?_)
          refine z_if_eq (pc := 38) (tgt := 45) dX11_isScope_38 (by decide) (fun k1 => ?_) (fun k1 => ?_)
          · replace F := F.1 (zb0.mp k1)
            refine z_iconst (pc := 45) (v := 0) dX11_isScope_45 (by decide) ?_
            exact q_retB (pc := 46) dX11_isScope_46 rfl (Or.inl rfl) F
          · replace F := F.2 (zbn.mp k1)
            refine z_iconst (pc := 41) (v := 1) dX11_isScope_41 (by decide) ?_
            refine z_goto (pc := 42) (tgt := 46) dX11_isScope_42 (by decide) ?_
            exact q_retB (pc := 46) dX11_isScope_46 rfl (Or.inr rfl) F
        · replace F := F.2 k3
          refine z_bipush (pc := 29) (v := 7) dX11_isScope_29 (by decide) ?_
          refine z_goto (pc := 31) (tgt := 35) dX11_isScope_31 (by decide) ?_
          refine q_invS (pc := 35) (As := [.int x1, .int 0, .int 7]) (st := []) dX11_isScope_35 ok_X11_in ml_RX11_84 st_X11_in pa_X11_in ⟨Nat.le_of_ble_eq_true rfl, Nat.le_of_ble_eq_true rfl⟩ (q_pI (s_X11_in G) rfl ?_)
          refine z_if_eq (pc := 38) (tgt := 45) dX11_isScope_38 (by decide) (fun k2 => ?_) (fun k2 => ?_)
          · replace F := F.1 (zb0.mp k2)
            refine z_iconst (pc := 45) (v := 0) dX11_isScope_45 (by decide) ?_
            exact q_retB (pc := 46) dX11_isScope_46 rfl (Or.inl rfl) F
          · replace F := F.2 (zbn.mp k2)
            refine z_iconst (pc := 41) (v := 1) dX11_isScope_41 (by decide) ?_
            refine z_goto (pc := 42) (tgt := 46) dX11_isScope_42 (by decide) ?_
            exact q_retB (pc := 46) dX11_isScope_46 rfl (Or.inr rfl) F
      · replace F := F.2 k5
        refine z_iconst (pc := 20) (v := 1) dX11_isScope_20 (by decide) ?_
        refine z_goto (pc := 21) (tgt := 35) dX11_isScope_21 (by decide) ?_
        refine q_invS (pc := 35) (As := [.int x1, .int 0, .int 1]) (st := []) dX11_isScope_35 ok_X11_in ml_RX11_84 st_X11_in pa_X11_in ⟨Nat.le_of_ble_eq_true rfl, Nat.le_of_ble_eq_true rfl⟩ (q_pI (s_X11_in G) rfl ?_)
        refine z_if_eq (pc := 38) (tgt := 45) dX11_isScope_38 (by decide) (fun k4 => ?_) (fun k4 => ?_)
        · replace F := F.1 (zb0.mp k4)
          refine z_iconst (pc := 45) (v := 0) dX11_isScope_45 (by decide) ?_
          exact q_retB (pc := 46) dX11_isScope_46 rfl (Or.inl rfl) F
        · replace F := F.2 (zbn.mp k4)
          refine z_iconst (pc := 41) (v := 1) dX11_isScope_41 (by decide) ?_
          refine z_goto (pc := 42) (tgt := 46) dX11_isScope_42 (by decide) ?_
          exact q_retB (pc := 46) dX11_isScope_46 rfl (Or.inr rfl) F
theorem g_X10_isScope {x0 : Int32} {x1 : Int32} {h : zHp} {Q : Int32 → zHp → Prop}  (G : zG h) (F : (((0 : Int32) ≤ x0 ∧ x0 ≤ 5) → ((x0 = 0 → (Q 1 h)) ∧ (¬ (x0 = 0) → (vp_in x0 6 ∧ ((¬ ((0 : Int32) ≤ x1 ∧ x1 ≤ zMX (Int32.toNatClampNeg x0)) → (Q 0 h)) ∧ (((0 : Int32) ≤ x1 ∧ x1 ≤ zMX (Int32.toNatClampNeg x0)) → (Q 1 h))))))) ∧ (¬ ((0 : Int32) ≤ x0 ∧ x0 ≤ 5) → (Q 0 h))) : zcI M_X10_isScope [.int x0, .int x1] h Q := by
  show zw zNT zNT M_X10_isScope 0 [some (.int x0), some (.int x1)] [] h _
  refine z_iload_n (pc := 0) dX10_isScope_0 rfl rfl ?_
  refine z_iconst (pc := 1) (v := 0) dX10_isScope_1 (by decide) ?_
  refine z_iconst (pc := 2) (v := 5) dX10_isScope_2 (by decide) ?_
  refine q_invS (pc := 3) (As := [.int x0, .int 0, .int 5]) (st := []) dX10_isScope_3 ok_X10_within ml_RX10_82 st_X10_within pa_X10_within ⟨Nat.le_of_ble_eq_true rfl, Nat.le_of_ble_eq_true rfl⟩ (q_pI (s_X10_within G) rfl ?_)
  refine z_if_ne (pc := 6) (tgt := 11) dX10_isScope_6 (by decide) (fun k4 => ?_) (fun k4 => ?_)
  · replace F := F.1 (zbn.mp k4)
    refine z_iload_n (pc := 11) dX10_isScope_11 rfl rfl ?_
    refine z_if_eq (pc := 12) (tgt := 28) dX10_isScope_12 (by decide) (fun k3 => ?_) (fun k3 => ?_)
    · replace F := F.1 k3
      refine z_iconst (pc := 28) (v := 1) dX10_isScope_28 (by decide) ?_
      refine z_goto (pc := 29) (tgt := 33) dX10_isScope_29 (by decide) ?_
      exact q_retB (pc := 33) dX10_isScope_33 rfl (Or.inr rfl) F
    · replace F := F.2 k3
      refine z_iload_n (pc := 15) dX10_isScope_15 rfl rfl ?_
      refine z_iconst (pc := 16) (v := 0) dX10_isScope_16 (by decide) ?_
      refine z_gs (pc := 17) dX10_isScope_17 fl_RX10_380 ?_
      refine z_iload_n (pc := 20) dX10_isScope_20 rfl rfl ?_
      obtain ⟨k1, F⟩ := F
      refine z_ldMX (pc := 21) dX10_isScope_21 k1 rfl ?_
      refine q_invS (pc := 22) (As := [.int x1, .int 0, .int (zMX (Int32.toNatClampNeg x0))]) (st := []) dX10_isScope_22 ok_X10_within ml_RX10_82 st_X10_within pa_X10_within ⟨Nat.le_of_ble_eq_true rfl, Nat.le_of_ble_eq_true rfl⟩ (q_pI (s_X10_within G) rfl ?_)
      refine z_if_eq (pc := 25) (tgt := 32) dX10_isScope_25 (by decide) (fun k2 => ?_) (fun k2 => ?_)
      · replace F := F.1 (zb0.mp k2)
        refine z_iconst (pc := 32) (v := 0) dX10_isScope_32 (by decide) ?_
        exact q_retB (pc := 33) dX10_isScope_33 rfl (Or.inl rfl) F
      · replace F := F.2 (zbn.mp k2)
        refine z_iconst (pc := 28) (v := 1) dX10_isScope_28 (by decide) ?_
        refine z_goto (pc := 29) (tgt := 33) dX10_isScope_29 (by decide) ?_
        exact q_retB (pc := 33) dX10_isScope_33 rfl (Or.inr rfl) F
  · replace F := F.2 (zb0.mp k4)
    refine z_iconst (pc := 9) (v := 0) dX10_isScope_9 (by decide) ?_
    exact q_retB (pc := 10) dX10_isScope_10 rfl (Or.inl rfl) F
theorem g_X2_typeUnder {c0 : Nat} {c1 : Nat} {x2 : Int32} {h : zHp} {Q : Int32 → zHp → Prop} (hc0 : zLo c0) (hc1 : ly c1 = 2) (G : zG h) (F : (¬ rI h c1 1 = 0 → (vp_in x2 8 ∧ (Q (rI h (c0 + 1) ((Int32.toNatClampNeg x2))) h))) ∧ (rI h c1 1 = 0 → (Q (rI h c1 4) h))) : zcI M_X2_typeUnder [.ref c0, .ref c1, .int x2] h Q := by
  show zw zNT zNT M_X2_typeUnder 0 [some (.ref c0), some (.ref c1), some (.int x2)] [] h _
  refine z_aload_n (pc := 0) dX2_typeUnder_0 rfl rfl ?_
  refine q_getI (pc := 1) (v := rI h c1 1) dX2_typeUnder_1 lk_RX2_109 hc1 rfl ?_
  refine z_if_ne (pc := 4) (tgt := 14) dX2_typeUnder_4 (by decide) (fun k2 => ?_) (fun k2 => ?_)
  · replace F := F.1 k2
    refine z_aload_n (pc := 14) dX2_typeUnder_14 rfl rfl ?_
    refine q_getR (pc := 15) (i := c0 + 1) dX2_typeUnder_15 lk_RX2_9 (lyLo0 hc0) (grLo0 G hc0) ?_
    refine z_iload_n (pc := 18) dX2_typeUnder_18 rfl rfl ?_
    obtain ⟨k1, F⟩ := F
    refine q_iald (pc := 19) (j := (Int32.toNatClampNeg x2)) (v := rI h (c0 + 1) ((Int32.toNatClampNeg x2))) dX2_typeUnder_19 (lyLo1 hc0) (zvn (lnLo1 hc0) k1) rfl rfl ?_
    exact q_retI (pc := 20) dX2_typeUnder_20 rfl F
  · replace F := F.2 k2
    refine z_aload_n (pc := 7) dX2_typeUnder_7 rfl rfl ?_
    refine q_getI (pc := 8) (v := rI h c1 4) dX2_typeUnder_8 lk_RX2_112 hc1 rfl ?_
    refine z_goto (pc := 11) (tgt := 20) dX2_typeUnder_11 (by decide) ?_
    exact q_retI (pc := 20) dX2_typeUnder_20 rfl F
theorem g_X2_marksUnder {c0 : Nat} {c1 : Nat} {x2 : Int32} {h : zHp} {Q : Int32 → zHp → Prop} (hc0 : zLo c0) (hc1 : ly c1 = 2) (G : zG h) (F : (¬ rI h c1 1 = 1 → ((¬ rI h c1 1 = 2 → (vp_in x2 8 ∧ (Q (rI h (c0 + 2) ((Int32.toNatClampNeg x2))) h))) ∧ (rI h c1 1 = 2 → (vp_in x2 8 ∧ (Q ((rI h (c0 + 2) ((Int32.toNatClampNeg x2))) &&& ((1 <<< ((rI h c1 4) &&& 31)) ^^^ (-1))) h))))) ∧ (rI h c1 1 = 1 → (vp_in x2 8 ∧ (Q ((rI h (c0 + 2) ((Int32.toNatClampNeg x2))) ||| (1 <<< ((rI h c1 4) &&& 31))) h)))) : zcI M_X2_marksUnder [.ref c0, .ref c1, .int x2] h Q := by
  show zw zNT zNT M_X2_marksUnder 0 [some (.ref c0), some (.ref c1), some (.int x2)] [] h _
  refine z_aload_n (pc := 0) dX2_marksUnder_0 rfl rfl ?_
  refine q_getI (pc := 1) (v := rI h c1 1) dX2_marksUnder_1 lk_RX2_109 hc1 rfl ?_
  refine z_iconst (pc := 4) (v := 1) dX2_marksUnder_4 (by decide) ?_
  refine z_icmp_ne (pc := 5) (tgt := 22) dX2_marksUnder_5 (by decide) (fun k5 => ?_) (fun k5 => ?_)
  · replace F := F.1 k5
    refine z_aload_n (pc := 22) dX2_marksUnder_22 rfl rfl ?_
    refine q_getI (pc := 23) (v := rI h c1 1) dX2_marksUnder_23 lk_RX2_109 hc1 rfl ?_
    refine z_iconst (pc := 26) (v := 2) dX2_marksUnder_26 (by decide) ?_
    refine z_icmp_ne (pc := 27) (tgt := 48) dX2_marksUnder_27 (by decide) (fun k3 => ?_) (fun k3 => ?_)
    · replace F := F.1 k3
      refine z_aload_n (pc := 48) dX2_marksUnder_48 rfl rfl ?_
      refine q_getR (pc := 49) (i := c0 + 2) dX2_marksUnder_49 lk_RX2_15 (lyLo0 hc0) (grLo1 G hc0) ?_
      refine z_iload_n (pc := 52) dX2_marksUnder_52 rfl rfl ?_
      obtain ⟨k1, F⟩ := F
      refine q_iald (pc := 53) (j := (Int32.toNatClampNeg x2)) (v := rI h (c0 + 2) ((Int32.toNatClampNeg x2))) dX2_marksUnder_53 (lyLo2 hc0) (zvn (lnLo2 hc0) k1) rfl rfl ?_
      exact q_retI (pc := 54) dX2_marksUnder_54 rfl F
    · replace F := F.2 k3
      refine z_aload_n (pc := 30) dX2_marksUnder_30 rfl rfl ?_
      refine q_getR (pc := 31) (i := c0 + 2) dX2_marksUnder_31 lk_RX2_15 (lyLo0 hc0) (grLo1 G hc0) ?_
      refine z_iload_n (pc := 34) dX2_marksUnder_34 rfl rfl ?_
      obtain ⟨k2, F⟩ := F
      refine q_iald (pc := 35) (j := (Int32.toNatClampNeg x2)) (v := rI h (c0 + 2) ((Int32.toNatClampNeg x2))) dX2_marksUnder_35 (lyLo2 hc0) (zvn (lnLo2 hc0) k2) rfl rfl ?_
      refine z_iconst (pc := 36) (v := 1) dX2_marksUnder_36 (by decide) ?_
      refine z_aload_n (pc := 37) dX2_marksUnder_37 rfl rfl ?_
      refine q_getI (pc := 38) (v := rI h c1 4) dX2_marksUnder_38 lk_RX2_112 hc1 rfl ?_
      refine z_ishl (pc := 41) dX2_marksUnder_41 ?_
      refine z_iconst (pc := 42) (v := -1) dX2_marksUnder_42 (by decide) ?_
      refine z_ixor (pc := 43) dX2_marksUnder_43 ?_
      refine z_iand (pc := 44) dX2_marksUnder_44 ?_
      refine z_goto (pc := 45) (tgt := 54) dX2_marksUnder_45 (by decide) ?_
      exact q_retI (pc := 54) dX2_marksUnder_54 rfl F
  · replace F := F.2 k5
    refine z_aload_n (pc := 8) dX2_marksUnder_8 rfl rfl ?_
    refine q_getR (pc := 9) (i := c0 + 2) dX2_marksUnder_9 lk_RX2_15 (lyLo0 hc0) (grLo1 G hc0) ?_
    refine z_iload_n (pc := 12) dX2_marksUnder_12 rfl rfl ?_
    obtain ⟨k4, F⟩ := F
    refine q_iald (pc := 13) (j := (Int32.toNatClampNeg x2)) (v := rI h (c0 + 2) ((Int32.toNatClampNeg x2))) dX2_marksUnder_13 (lyLo2 hc0) (zvn (lnLo2 hc0) k4) rfl rfl ?_
    refine z_iconst (pc := 14) (v := 1) dX2_marksUnder_14 (by decide) ?_
    refine z_aload_n (pc := 15) dX2_marksUnder_15 rfl rfl ?_
    refine q_getI (pc := 16) (v := rI h c1 4) dX2_marksUnder_16 lk_RX2_112 hc1 rfl ?_
    refine z_ishl (pc := 19) dX2_marksUnder_19 ?_
    refine z_ior (pc := 20) dX2_marksUnder_20 ?_
    exact q_retI (pc := 21) dX2_marksUnder_21 rfl F
theorem g_X2_fits {c0 : Nat} {x1 : Int32} {x2 : Int32} {x3 : Int32} {x4 : Int32} {x5 : Int32} {h : zHp} {Q : Int32 → zHp → Prop} (hc0 : ly c0 = 7) (G : zG h) (F : (¬ rI h c0 5 = 0 → ((x2 = 0 → (Q 1 h)) ∧ (¬ x2 = 0 → ((x2 = 1 → ((¬ rI h c0 0 = x3 → (Q 0 h)) ∧ (rI h c0 0 = x3 → (Q 1 h)))) ∧ (¬ x2 = 1 → ((x2 = 2 → ((¬ x4 = x3 → (Q 0 h)) ∧ (x4 = x3 → (Q 1 h)))) ∧ (¬ x2 = 2 → ((x2 = 3 → (((x5 >>> (x3 &&& 31)) &&& 1 = 0 → (Q 0 h)) ∧ (¬ ((x5 >>> (x3 &&& 31)) &&& 1 = 0) → (Q 1 h)))) ∧ (¬ x2 = 3 → ((x2 = 4 → ((¬ (x5 >>> (x3 &&& 31)) &&& 1 = 0 → (Q 0 h)) ∧ ((x5 >>> (x3 &&& 31)) &&& 1 = 0 → (Q 1 h)))) ∧ (¬ x2 = 4 → ((¬ x1 = x3 → (Q 0 h)) ∧ (x1 = x3 → (Q 1 h)))))))))))))) ∧ (rI h c0 5 = 0 → (Q 0 h))) : zcI M_X2_fits [.ref c0, .int x1, .int x2, .int x3, .int x4, .int x5] h Q := by
  show zw zNT zNT M_X2_fits 0 [some (.ref c0), some (.int x1), some (.int x2), some (.int x3), some (.int x4), some (.int x5)] [] h _
  refine z_aload_n (pc := 0) dX2_fits_0 rfl rfl ?_
  refine q_getI (pc := 1) (v := rI h c0 5) dX2_fits_1 lk_RX2_122 hc0 rfl ?_
  refine z_if_ne (pc := 4) (tgt := 9) dX2_fits_4 (by decide) (fun k11 => ?_) (fun k11 => ?_)
  · replace F := F.1 k11
    refine z_iload_n (pc := 9) dX2_fits_9 rfl rfl ?_
    by_cases k1 : x2 = 0
    · replace F := F.1 k1
      refine z_tableIn (pc := 10) (x := x2) (tgt := 44) (off := 34) dX2_fits_10 (by rw [k1]; decide) (by rw [k1]; decide) (by rw [k1]; decide) (by decide) ?_
      refine z_iconst (pc := 44) (v := 1) dX2_fits_44 (by decide) ?_
      exact q_retB (pc := 45) dX2_fits_45 rfl (Or.inr rfl) F
    · replace F := F.2 k1
      by_cases k2 : x2 = 1
      · replace F := F.1 k2
        refine z_tableIn (pc := 10) (x := x2) (tgt := 46) (off := 36) dX2_fits_10 (by rw [k2]; decide) (by rw [k2]; decide) (by rw [k2]; decide) (by decide) ?_
        refine z_aload_n (pc := 46) dX2_fits_46 rfl rfl ?_
        refine q_getI (pc := 47) (v := rI h c0 0) dX2_fits_47 lk_RX2_126 hc0 rfl ?_
        refine z_iload_n (pc := 50) dX2_fits_50 rfl rfl ?_
        refine z_icmp_ne (pc := 51) (tgt := 58) dX2_fits_51 (by decide) (fun k3 => ?_) (fun k3 => ?_)
        · replace F := F.1 k3
          refine z_iconst (pc := 58) (v := 0) dX2_fits_58 (by decide) ?_
          exact q_retB (pc := 59) dX2_fits_59 rfl (Or.inl rfl) F
        · replace F := F.2 k3
          refine z_iconst (pc := 54) (v := 1) dX2_fits_54 (by decide) ?_
          refine z_goto (pc := 55) (tgt := 59) dX2_fits_55 (by decide) ?_
          exact q_retB (pc := 59) dX2_fits_59 rfl (Or.inr rfl) F
      · replace F := F.2 k2
        by_cases k4 : x2 = 2
        · replace F := F.1 k4
          refine z_tableIn (pc := 10) (x := x2) (tgt := 60) (off := 50) dX2_fits_10 (by rw [k4]; decide) (by rw [k4]; decide) (by rw [k4]; decide) (by decide) ?_
          refine z_iload (pc := 60) dX2_fits_60 rfl ?_
          refine z_iload_n (pc := 62) dX2_fits_62 rfl rfl ?_
          refine z_icmp_ne (pc := 63) (tgt := 70) dX2_fits_63 (by decide) (fun k5 => ?_) (fun k5 => ?_)
          · replace F := F.1 k5
            refine z_iconst (pc := 70) (v := 0) dX2_fits_70 (by decide) ?_
            exact q_retB (pc := 71) dX2_fits_71 rfl (Or.inl rfl) F
          · replace F := F.2 k5
            refine z_iconst (pc := 66) (v := 1) dX2_fits_66 (by decide) ?_
            refine z_goto (pc := 67) (tgt := 71) dX2_fits_67 (by decide) ?_
            exact q_retB (pc := 71) dX2_fits_71 rfl (Or.inr rfl) F
        · replace F := F.2 k4
          by_cases k6 : x2 = 3
          · replace F := F.1 k6
            refine z_tableIn (pc := 10) (x := x2) (tgt := 72) (off := 62) dX2_fits_10 (by rw [k6]; decide) (by rw [k6]; decide) (by rw [k6]; decide) (by decide) ?_
            refine z_iload (pc := 72) dX2_fits_72 rfl ?_
            refine z_iload_n (pc := 74) dX2_fits_74 rfl rfl ?_
            refine z_ishr (pc := 75) dX2_fits_75 ?_
            refine z_iconst (pc := 76) (v := 1) dX2_fits_76 (by decide) ?_
            refine z_iand (pc := 77) dX2_fits_77 ?_
            refine z_if_eq (pc := 78) (tgt := 85) dX2_fits_78 (by decide) (fun k7 => ?_) (fun k7 => ?_)
            · replace F := F.1 k7
              refine z_iconst (pc := 85) (v := 0) dX2_fits_85 (by decide) ?_
              exact q_retB (pc := 86) dX2_fits_86 rfl (Or.inl rfl) F
            · replace F := F.2 k7
              refine z_iconst (pc := 81) (v := 1) dX2_fits_81 (by decide) ?_
              refine z_goto (pc := 82) (tgt := 86) dX2_fits_82 (by decide) ?_
              exact q_retB (pc := 86) dX2_fits_86 rfl (Or.inr rfl) F
          · replace F := F.2 k6
            by_cases k8 : x2 = 4
            · replace F := F.1 k8
              refine z_tableIn (pc := 10) (x := x2) (tgt := 87) (off := 77) dX2_fits_10 (by rw [k8]; decide) (by rw [k8]; decide) (by rw [k8]; decide) (by decide) ?_
              refine z_iload (pc := 87) dX2_fits_87 rfl ?_
              refine z_iload_n (pc := 89) dX2_fits_89 rfl rfl ?_
              refine z_ishr (pc := 90) dX2_fits_90 ?_
              refine z_iconst (pc := 91) (v := 1) dX2_fits_91 (by decide) ?_
              refine z_iand (pc := 92) dX2_fits_92 ?_
              refine z_if_ne (pc := 93) (tgt := 100) dX2_fits_93 (by decide) (fun k9 => ?_) (fun k9 => ?_)
              · replace F := F.1 k9
                refine z_iconst (pc := 100) (v := 0) dX2_fits_100 (by decide) ?_
                exact q_retB (pc := 101) dX2_fits_101 rfl (Or.inl rfl) F
              · replace F := F.2 k9
                refine z_iconst (pc := 96) (v := 1) dX2_fits_96 (by decide) ?_
                refine z_goto (pc := 97) (tgt := 101) dX2_fits_97 (by decide) ?_
                exact q_retB (pc := 101) dX2_fits_101 rfl (Or.inr rfl) F
            · replace F := F.2 k8
              have hz0 := q_sw (0) k1 (by decide)
              have hz1 := q_sw (1) k2 (by decide)
              have hz2 := q_sw (2) k4 (by decide)
              have hz3 := q_sw (3) k6 (by decide)
              have hz4 := q_sw (4) k8 (by decide)
              refine z_tableOut (pc := 10) (tgt := 102) dX2_fits_10 (by omega) (by decide) ?_
              refine z_iload_n (pc := 102) dX2_fits_102 rfl rfl ?_
              refine z_iload_n (pc := 103) dX2_fits_103 rfl rfl ?_
              refine z_icmp_ne (pc := 104) (tgt := 111) dX2_fits_104 (by decide) (fun k10 => ?_) (fun k10 => ?_)
              · replace F := F.1 k10
                refine z_iconst (pc := 111) (v := 0) dX2_fits_111 (by decide) ?_
                exact q_retB (pc := 112) dX2_fits_112 rfl (Or.inl rfl) F
              · replace F := F.2 k10
                refine z_iconst (pc := 107) (v := 1) dX2_fits_107 (by decide) ?_
                refine z_goto (pc := 108) (tgt := 112) dX2_fits_108 (by decide) ?_
                exact q_retB (pc := 112) dX2_fits_112 rfl (Or.inr rfl) F
  · replace F := F.2 k11
    refine z_iconst (pc := 7) (v := 0) dX2_fits_7 (by decide) ?_
    exact q_retB (pc := 8) dX2_fits_8 rfl (Or.inl rfl) F
theorem g_X6_heal {c0 : Nat} {x1 : Int32} {h : zHp} {Q : zHp → Prop} (hc0 : ly c0 = 7) (G : zG h) (F : Q (wI h c0 4 (if (0 : Int32) < (rI h c0 4) - x1 then (rI h c0 4) - x1 else 0))) : zcV M_X6_heal [.ref c0, .int x1] h Q := by
  show zw zNT zNT M_X6_heal 0 [some (.ref c0), some (.int x1)] [] h _
  refine z_aload_n (pc := 0) dX6_heal_0 rfl rfl ?_
  refine z_iconst (pc := 1) (v := 0) dX6_heal_1 (by decide) ?_
  refine z_aload_n (pc := 2) dX6_heal_2 rfl rfl ?_
  refine q_getI (pc := 3) (v := rI h c0 4) dX6_heal_3 lk_RX6_24 hc0 rfl ?_
  refine z_iload_n (pc := 6) dX6_heal_6 rfl rfl ?_
  refine z_isub (pc := 7) dX6_heal_7 ?_
  refine z_max (pc := 8) dX6_heal_8 ⟨pl_RX6_43, pw_maxS, pw_Math, pw_maxC⟩ (zcat_of rfl) ⟨Nat.le_of_ble_eq_true rfl, Nat.le_of_ble_eq_true rfl⟩ ?_
  refine q_putI (pc := 11) dX6_heal_11 lk_RX6_24 hc0 ?_
  exact q_retV (pc := 14) dX6_heal_14 rfl F
theorem g_X6_raise {c0 : Nat} {x1 : Int32} {h : zHp} {Q : zHp → Prop} (hc0 : ly c0 = 7) (G : zG h) (F : Q (wI (wI h c0 2 (if (rI h c0 2) + x1 < (99 : Int32) then (rI h c0 2) + x1 else 99)) c0 3 (if (rI h c0 3) + x1 < (99 : Int32) then (rI h c0 3) + x1 else 99))) : zcV M_X6_raise [.ref c0, .int x1] h Q := by
  show zw zNT zNT M_X6_raise 0 [some (.ref c0), some (.int x1)] [] h _
  refine z_aload_n (pc := 0) dX6_raise_0 rfl rfl ?_
  refine z_bipush (pc := 1) (v := 99) dX6_raise_1 (by decide) ?_
  refine z_aload_n (pc := 3) dX6_raise_3 rfl rfl ?_
  refine q_getI (pc := 4) (v := rI h c0 2) dX6_raise_4 lk_RX6_18 hc0 rfl ?_
  refine z_iload_n (pc := 7) dX6_raise_7 rfl rfl ?_
  refine z_iadd (pc := 8) dX6_raise_8 ?_
  refine z_min (pc := 9) dX6_raise_9 ⟨pl_RX6_49, pw_minS, pw_Math, pw_minC⟩ (zcat_of rfl) ⟨Nat.le_of_ble_eq_true rfl, Nat.le_of_ble_eq_true rfl⟩ ?_
  refine q_putI (pc := 12) dX6_raise_12 lk_RX6_18 hc0 ?_
  refine z_aload_n (pc := 15) dX6_raise_15 rfl rfl ?_
  refine z_bipush (pc := 16) (v := 99) dX6_raise_16 (by decide) ?_
  refine z_aload_n (pc := 18) dX6_raise_18 rfl rfl ?_
  refine q_getI (pc := 19) (v := rI h c0 3) dX6_raise_19 lk_RX6_21 hc0 (rI_k (by decide)) ?_
  refine z_iload_n (pc := 22) dX6_raise_22 rfl rfl ?_
  refine z_iadd (pc := 23) dX6_raise_23 ?_
  refine z_min (pc := 24) dX6_raise_24 ⟨pl_RX6_49, pw_minS, pw_Math, pw_minC⟩ (zcat_of rfl) ⟨Nat.le_of_ble_eq_true rfl, Nat.le_of_ble_eq_true rfl⟩ ?_
  refine q_putI (pc := 27) dX6_raise_27 lk_RX6_21 hc0 ?_
  exact q_retV (pc := 30) dX6_raise_30 rfl F
theorem g_X6_become {c0 : Nat} {x1 : Int32} {x2 : Int32} {x3 : Int32} {x4 : Int32} {h : zHp} {Q : zHp → Prop} (hc0 : ly c0 = 7) (G : zG h) (F : Q (wI (wI (wI (wI (wI (wI (wI (wI (wI (wI h c0 0 x1) c0 1 x2) c0 2 x3) c0 3 x4) c0 4 0) c0 5 1) c0 6 0) c0 7 0) c0 8 0) c0 9 0)) : zcV M_X6_become [.ref c0, .int x1, .int x2, .int x3, .int x4] h Q := by
  show zw zNT zNT M_X6_become 0 [some (.ref c0), some (.int x1), some (.int x2), some (.int x3), some (.int x4)] [] h _
  refine z_aload_n (pc := 0) dX6_become_0 rfl rfl ?_
  refine z_iload_n (pc := 1) dX6_become_1 rfl rfl ?_
  refine q_putI (pc := 2) dX6_become_2 lk_RX6_9 hc0 ?_
  refine z_aload_n (pc := 5) dX6_become_5 rfl rfl ?_
  refine z_iload_n (pc := 6) dX6_become_6 rfl rfl ?_
  refine q_putI (pc := 7) dX6_become_7 lk_RX6_15 hc0 ?_
  refine z_aload_n (pc := 10) dX6_become_10 rfl rfl ?_
  refine z_iload_n (pc := 11) dX6_become_11 rfl rfl ?_
  refine q_putI (pc := 12) dX6_become_12 lk_RX6_18 hc0 ?_
  refine z_aload_n (pc := 15) dX6_become_15 rfl rfl ?_
  refine z_iload (pc := 16) dX6_become_16 rfl ?_
  refine q_putI (pc := 18) dX6_become_18 lk_RX6_21 hc0 ?_
  refine z_aload_n (pc := 21) dX6_become_21 rfl rfl ?_
  refine z_iconst (pc := 22) (v := 0) dX6_become_22 (by decide) ?_
  refine q_putI (pc := 23) dX6_become_23 lk_RX6_24 hc0 ?_
  refine z_aload_n (pc := 26) dX6_become_26 rfl rfl ?_
  refine z_iconst (pc := 27) (v := 1) dX6_become_27 (by decide) ?_
  refine q_putB (pc := 28) dX6_become_28 lk_RX6_27 hc0 (Or.inr rfl) ?_
  refine z_aload_n (pc := 31) dX6_become_31 rfl rfl ?_
  refine z_iconst (pc := 32) (v := 0) dX6_become_32 (by decide) ?_
  refine q_putI (pc := 33) dX6_become_33 lk_RX6_31 hc0 ?_
  refine z_aload_n (pc := 36) dX6_become_36 rfl rfl ?_
  refine z_iconst (pc := 37) (v := 0) dX6_become_37 (by decide) ?_
  refine q_putI (pc := 38) dX6_become_38 lk_RX6_34 hc0 ?_
  refine z_aload_n (pc := 41) dX6_become_41 rfl rfl ?_
  refine z_iconst (pc := 42) (v := 0) dX6_become_42 (by decide) ?_
  refine q_putI (pc := 43) dX6_become_43 lk_RX6_37 hc0 ?_
  refine z_aload_n (pc := 46) dX6_become_46 rfl rfl ?_
  refine z_iconst (pc := 47) (v := 0) dX6_become_47 (by decide) ?_
  refine q_putI (pc := 48) dX6_become_48 lk_RX6_40 hc0 ?_
  exact q_retV (pc := 51) dX6_become_51 rfl F
theorem g_X1_become {c0 : Nat} {x1 : Int32} {x2 : Int32} {x3 : Int32} {x4 : Int32} {x5 : Int32} {h : zHp} {Q : zHp → Prop} (hc0 : ly c0 = 2) (G : zG h) (F : Q (wI (wI (wI (wI (wI (wI (wI h c0 0 (-1)) c0 1 x1) c0 2 x2) c0 3 x3) c0 4 x4) c0 5 x5) c0 6 0)) : zcV M_X1_become [.ref c0, .int x1, .int x2, .int x3, .int x4, .int x5] h Q := by
  show zw zNT zNT M_X1_become 0 [some (.ref c0), some (.int x1), some (.int x2), some (.int x3), some (.int x4), some (.int x5)] [] h _
  refine z_aload_n (pc := 0) dX1_become_0 rfl rfl ?_
  refine z_iconst (pc := 1) (v := -1) dX1_become_1 (by decide) ?_
  refine q_putI (pc := 2) dX1_become_2 lk_RX1_9 hc0 ?_
  refine z_aload_n (pc := 5) dX1_become_5 rfl rfl ?_
  refine z_iload_n (pc := 6) dX1_become_6 rfl rfl ?_
  refine q_putI (pc := 7) dX1_become_7 lk_RX1_15 hc0 ?_
  refine z_aload_n (pc := 10) dX1_become_10 rfl rfl ?_
  refine z_iload_n (pc := 11) dX1_become_11 rfl rfl ?_
  refine q_putI (pc := 12) dX1_become_12 lk_RX1_18 hc0 ?_
  refine z_aload_n (pc := 15) dX1_become_15 rfl rfl ?_
  refine z_iload_n (pc := 16) dX1_become_16 rfl rfl ?_
  refine q_putI (pc := 17) dX1_become_17 lk_RX1_21 hc0 ?_
  refine z_aload_n (pc := 20) dX1_become_20 rfl rfl ?_
  refine z_iload (pc := 21) dX1_become_21 rfl ?_
  refine q_putI (pc := 23) dX1_become_23 lk_RX1_24 hc0 ?_
  refine z_aload_n (pc := 26) dX1_become_26 rfl rfl ?_
  refine z_iload (pc := 27) dX1_become_27 rfl ?_
  refine q_putI (pc := 29) dX1_become_29 lk_RX1_27 hc0 ?_
  refine z_aload_n (pc := 32) dX1_become_32 rfl rfl ?_
  refine z_iconst (pc := 33) (v := 0) dX1_become_33 (by decide) ?_
  refine q_putI (pc := 34) dX1_become_34 lk_RX1_30 hc0 ?_
  exact q_retV (pc := 37) dX1_become_37 rfl F
theorem g_X4_become {c0 : Nat} {x1 : Int32} {x2 : Int32} {x3 : Int32} {x4 : Int32} {h : zHp} {Q : zHp → Prop} (hc0 : ly c0 = 5) (G : zG h) (F : Q (wI (wI (wI (wI h c0 0 x1) c0 1 x2) c0 2 x3) c0 3 x4)) : zcV M_X4_become [.ref c0, .int x1, .int x2, .int x3, .int x4] h Q := by
  show zw zNT zNT M_X4_become 0 [some (.ref c0), some (.int x1), some (.int x2), some (.int x3), some (.int x4)] [] h _
  refine z_aload_n (pc := 0) dX4_become_0 rfl rfl ?_
  refine z_iload_n (pc := 1) dX4_become_1 rfl rfl ?_
  refine q_putI (pc := 2) dX4_become_2 lk_RX4_7 hc0 ?_
  refine z_aload_n (pc := 5) dX4_become_5 rfl rfl ?_
  refine z_iload_n (pc := 6) dX4_become_6 rfl rfl ?_
  refine q_putI (pc := 7) dX4_become_7 lk_RX4_13 hc0 ?_
  refine z_aload_n (pc := 10) dX4_become_10 rfl rfl ?_
  refine z_iload_n (pc := 11) dX4_become_11 rfl rfl ?_
  refine q_putI (pc := 12) dX4_become_12 lk_RX4_16 hc0 ?_
  refine z_aload_n (pc := 15) dX4_become_15 rfl rfl ?_
  refine z_iload (pc := 16) dX4_become_16 rfl ?_
  refine q_putI (pc := 18) dX4_become_18 lk_RX4_19 hc0 ?_
  exact q_retV (pc := 21) dX4_become_21 rfl F
theorem g_X7_become {c0 : Nat} {x1 : Int32} {x2 : Int32} {x3 : Int32} {x4 : Int32} {x5 : Int32} {h : zHp} {Q : zHp → Prop} (hc0 : ly c0 = 8) (G : zG h) (F : Q (wI (wI (wI (wI (wI (wI (wI h c0 0 x1) c0 1 x2) c0 2 x3) c0 3 x4) c0 4 x5) c0 5 0) c0 6 0)) : zcV M_X7_become [.ref c0, .int x1, .int x2, .int x3, .int x4, .int x5] h Q := by
  show zw zNT zNT M_X7_become 0 [some (.ref c0), some (.int x1), some (.int x2), some (.int x3), some (.int x4), some (.int x5)] [] h _
  refine z_aload_n (pc := 0) dX7_become_0 rfl rfl ?_
  refine z_iload_n (pc := 1) dX7_become_1 rfl rfl ?_
  refine q_putI (pc := 2) dX7_become_2 lk_RX7_9 hc0 ?_
  refine z_aload_n (pc := 5) dX7_become_5 rfl rfl ?_
  refine z_iload_n (pc := 6) dX7_become_6 rfl rfl ?_
  refine q_putI (pc := 7) dX7_become_7 lk_RX7_15 hc0 ?_
  refine z_aload_n (pc := 10) dX7_become_10 rfl rfl ?_
  refine z_iload_n (pc := 11) dX7_become_11 rfl rfl ?_
  refine q_putI (pc := 12) dX7_become_12 lk_RX7_18 hc0 ?_
  refine z_aload_n (pc := 15) dX7_become_15 rfl rfl ?_
  refine z_iload (pc := 16) dX7_become_16 rfl ?_
  refine q_putI (pc := 18) dX7_become_18 lk_RX7_21 hc0 ?_
  refine z_aload_n (pc := 21) dX7_become_21 rfl rfl ?_
  refine z_iload (pc := 22) dX7_become_22 rfl ?_
  refine q_putI (pc := 24) dX7_become_24 lk_RX7_24 hc0 ?_
  refine z_aload_n (pc := 27) dX7_become_27 rfl rfl ?_
  refine z_iconst (pc := 28) (v := 0) dX7_become_28 (by decide) ?_
  refine q_putI (pc := 29) dX7_become_29 lk_RX7_27 hc0 ?_
  refine z_aload_n (pc := 32) dX7_become_32 rfl rfl ?_
  refine z_iconst (pc := 33) (v := 0) dX7_become_33 (by decide) ?_
  refine q_putI (pc := 34) dX7_become_34 lk_RX7_30 hc0 ?_
  exact q_retV (pc := 37) dX7_become_37 rfl F
theorem s_X11_isAlive {t : Int32} {h : zHp} (G : zG h) (c : zCt (rI h 165 238) 8) : zcI M_X11_isAlive [.ref 164, .int t] h (fun r h' => r = zb (aliveM h t) ∧ h' = h) := by
  obtain ⟨n, hn, e⟩ := c
  refine g_X11_isAlive G ⟨fun k => ⟨(zb_neg (fun q => k q.1)).symm, rfl⟩, fun k => ?_⟩
  have k0 := k
  rw [e] at k
  obtain ⟨j, hj, rfl⟩ := zsm (by omega) k
  have i1 := ixT (t := j) (k := 5) (by omega) (by omega)
  rw [show nI 5 = (5 : Int32) from rfl] at i1
  refine ⟨i1.1, ?_⟩
  rw [i1.2]
  have e2 : (nI j).toNatClampNeg = j := nI_clamp (by omega)
  refine ⟨fun q => ⟨(zb_neg (fun z => q ?_)).symm, rfl⟩, fun q => ⟨(zb_pos ⟨k0, ?_⟩).symm, rfl⟩⟩
  · have := z.2
    rwa [e2] at this
  · rwa [e2]
theorem s_X8_isAlive {B : Nat} {t : Int32} {h : zHp} (G : zG h) (hB : zW B) (c : zCt (rI h B 1) 8) : zcI M_X8_isAlive [.ref B, .int t] h (fun r h' => r = zb (aliveC h B t) ∧ h' = h) := by
  obtain ⟨n, hn, e⟩ := c
  refine g_X8_isAlive hB G ⟨fun k => ⟨(zb_neg (fun q => absurd k (Int32.not_lt.mpr q.1.1))).symm, rfl⟩, fun k => ⟨fun k2 => ⟨(zb_neg (fun q => absurd q.1.2 (Int32.not_lt.mpr k2))).symm, rfl⟩, fun k2 => ?_⟩⟩
  have k3 := k2
  rw [e] at k2
  obtain ⟨j, hj, rfl⟩ := zsm3 (by omega) k k2
  refine ⟨vp_in_nI (by omega) (by omega), fun q => ⟨(zb_neg (fun z => z.2 q)).symm, rfl⟩, fun q => ⟨(zb_pos ⟨⟨Int32.not_lt.mp k, Int32.not_le.mp k3⟩, q⟩).symm, rfl⟩⟩
theorem s_X11_layer {x : Int32} {h : zHp} (G : zG h) : zcI M_X11_layer [.int x] h (fun r h' => r = layM x ∧ h' = h) :=
  g_X11_layer G ⟨fun k => ⟨(if_neg (Int32.not_lt.mpr k)).symm, rfl⟩, fun k => ⟨(if_pos (Int32.not_le.mp k)).symm, rfl⟩⟩
theorem s_X11_isScope {w x : Int32} {h : zHp} (G : zG h) : zcI M_X11_isScope [.int w, .int x] h (fun r h' => r = zb (okSc w x) ∧ h' = h) := by
  refine g_X11_isScope G ⟨fun k => ⟨(zb_pos (Or.inl k)).symm, rfl⟩, fun k => ⟨fun k2 => ⟨(zb_neg (fun q => q.elim k (fun z => k2 z.1))).symm, rfl⟩, fun k2 => ⟨fun k3 => ⟨fun k4 => ⟨fun k5 => ⟨?_, rfl⟩, fun k5 => ⟨?_, rfl⟩⟩, fun k4 => ⟨fun k5 => ⟨?_, rfl⟩, fun k5 => ⟨?_, rfl⟩⟩⟩, fun k3 => ⟨fun k5 => ⟨?_, rfl⟩, fun k5 => ⟨?_, rfl⟩⟩⟩⟩⟩
  · exact (zb_neg (fun q => q.elim k (fun z => k5 ⟨z.2.1, by have := z.2.2; rwa [if_neg k3, if_neg k4] at this⟩))).symm
  · exact (zb_pos (Or.inr ⟨k2, k5.1, by rw [if_neg k3, if_neg k4]; exact k5.2⟩)).symm
  · exact (zb_neg (fun q => q.elim k (fun z => k5 ⟨z.2.1, by have := z.2.2; rwa [if_neg k3, if_pos k4] at this⟩))).symm
  · exact (zb_pos (Or.inr ⟨k2, k5.1, by rw [if_neg k3, if_pos k4]; exact k5.2⟩)).symm
  · exact (zb_neg (fun q => q.elim k (fun z => k5 ⟨z.2.1, by have := z.2.2; rwa [if_pos k3] at this⟩))).symm
  · exact (zb_pos (Or.inr ⟨k2, k5.1, by rw [if_pos k3]; exact k5.2⟩)).symm
theorem s_X10_isScope {w x : Int32} {h : zHp} (G : zG h) : zcI M_X10_isScope [.int w, .int x] h (fun r h' => r = zb (okSc w x) ∧ h' = h) := by
  refine g_X10_isScope G ⟨fun k => ⟨fun k2 => ⟨(zb_pos (Or.inl k2)).symm, rfl⟩, fun k2 => ?_⟩, fun k => ⟨(zb_neg (fun q => q.elim (fun z => k (by rw [z]; decide)) (fun z => k ⟨Int32.le_trans (by decide) z.1.1, z.1.2⟩))).symm, rfl⟩⟩
  obtain ⟨j, hj, rfl⟩ := nI_of2 (M := 5) (n := 5) rfl (Int32.not_lt.mpr k.1) k.2
  refine ⟨vp_in_nI (by omega) (by omega), ?_⟩
  have e2 : (nI j).toNatClampNeg = j := nI_clamp (by omega)
  rw [e2]
  have h1 : 1 ≤ j := by
    rcases Nat.eq_zero_or_pos j with q | q
    · exact absurd (by rw [q]; rfl) k2
    · exact q
  have e3 : zMX j = if nI j = 1 then 1 else if nI j = 5 then 7 else 5 := (by decide : ∀ j, j < 6 → 1 ≤ j → zMX j = if nI j = 1 then 1 else if nI j = 5 then 7 else 5) j (by omega) h1
  rw [e3]
  refine ⟨fun q => ⟨(zb_neg (fun z => z.elim k2 (fun z => q z.2))).symm, rfl⟩, fun q => ⟨(zb_pos (Or.inr ⟨⟨?_, k.2⟩, q⟩)).symm, rfl⟩⟩
  exact nI_le (a := 1) h1 (by omega)
theorem s_X2_typeUnder {K c : Nat} {t : Int32} {h : zHp} (G : zG h) (hK : zLo K) (hc : ly c = 2) (k : vp_in t 8) : zcI M_X2_typeUnder [.ref K, .ref c, .int t] h (fun r h' => r = tyU (rI h c 1) (rI h c 4) (rI h (K + 1) t.toNatClampNeg) ∧ h' = h) :=
  g_X2_typeUnder hK hc G ⟨fun q => ⟨k, (if_neg q).symm, rfl⟩, fun q => ⟨(if_pos q).symm, rfl⟩⟩
theorem s_X2_marksUnder {K c : Nat} {t : Int32} {h : zHp} (G : zG h) (hK : zLo K) (hc : ly c = 2) (k : vp_in t 8) : zcI M_X2_marksUnder [.ref K, .ref c, .int t] h (fun r h' => r = mkU (rI h c 1) (rI h c 4) (rI h (K + 2) t.toNatClampNeg) ∧ h' = h) :=
  g_X2_marksUnder hK hc G ⟨fun q => ⟨fun q2 => ⟨k, by unfold mkU; rw [if_neg q, if_neg q2], rfl⟩, fun q2 => ⟨k, by unfold mkU; rw [if_neg q, if_pos q2], rfl⟩⟩, fun q => ⟨k, by unfold mkU; rw [if_pos q], rfl⟩⟩
theorem s_X2_fits {c : Nat} {t w x ty mk : Int32} {h : zHp} (G : zG h) (hc : ly c = 7) : zcI M_X2_fits [.ref c, .int t, .int w, .int x, .int ty, .int mk] h (fun r h' => r = zb (¬ rI h c 5 = 0 ∧ pIn (rI h c 0) ty mk t w x) ∧ h' = h) := by
  refine g_X2_fits hc G ?_
  rw [bi_0]
  unfold pIn
  refine ⟨fun k => ?_, fun k => ⟨(zb_neg (fun q => q.1 k)).symm, rfl⟩⟩
  repeat' (first | intro _ | refine And.intro ?_ ?_)
  all_goals first
    | rfl
    | exact (zb_pos (by simp_all)).symm
    | exact (zb_neg (by simp_all)).symm
theorem s_X6_heal {c : Nat} {x : Int32} {h : zHp} (G : zG h) (hc : ly c = 7) : zcV M_X6_heal [.ref c, .int x] h (fun h' => h' = wI h c 4 (if (0 : Int32) < (rI h c 4) - x then (rI h c 4) - x else 0)) := g_X6_heal hc G rfl
theorem s_X6_raise {c : Nat} {x : Int32} {h : zHp} (G : zG h) (hc : ly c = 7) : zcV M_X6_raise [.ref c, .int x] h (fun h' => h' = wI (wI h c 2 (if (rI h c 2) + x < (99 : Int32) then (rI h c 2) + x else 99)) c 3 (if (rI h c 3) + x < (99 : Int32) then (rI h c 3) + x else 99)) := g_X6_raise hc G rfl
theorem s_X6_become {c : Nat} {a b d e : Int32} {h : zHp} (G : zG h) (hc : ly c = 7) : zcV M_X6_become [.ref c, .int a, .int b, .int d, .int e] h (fun h' => h' = wI (wI (wI (wI (wI (wI (wI (wI (wI (wI h c 0 a) c 1 b) c 2 d) c 3 e) c 4 0) c 5 1) c 6 0) c 7 0) c 8 0) c 9 0) := g_X6_become hc G rfl
theorem s_X1_become {c : Nat} {a b d e f : Int32} {h : zHp} (G : zG h) (hc : ly c = 2) : zcV M_X1_become [.ref c, .int a, .int b, .int d, .int e, .int f] h (fun h' => h' = wI (wI (wI (wI (wI (wI (wI h c 0 (-1)) c 1 a) c 2 b) c 3 d) c 4 e) c 5 f) c 6 0) := g_X1_become hc G rfl
theorem s_X4_become {c : Nat} {a b d e : Int32} {h : zHp} (G : zG h) (hc : ly c = 5) : zcV M_X4_become [.ref c, .int a, .int b, .int d, .int e] h (fun h' => h' = wI (wI (wI (wI h c 0 a) c 1 b) c 2 d) c 3 e) := g_X4_become hc G rfl
theorem s_X7_become {c : Nat} {a b d e f : Int32} {h : zHp} (G : zG h) (hc : ly c = 8) : zcV M_X7_become [.ref c, .int a, .int b, .int d, .int e, .int f] h (fun h' => h' = wI (wI (wI (wI (wI (wI (wI h c 0 a) c 1 b) c 2 d) c 3 e) c 4 f) c 5 0) c 6 0) := g_X7_become hc G rfl

