/-! texts: tokens -/
def kd (c : Int32) : Nat := if 97 ≤ c ∧ c ≤ 122 then 1 else if 48 ≤ c ∧ c ≤ 57 then 2 else if c = 59 then 3 else if c = 45 then 4 else 5
def skp (T : zN) (L : Nat) : Nat → Nat → Nat
  | 0, p => p
  | m + 1, p => if p < L ∧ T p = 32 then skp T L m (p + 1) else p
def rnp (T : zN) (L k : Nat) : Nat → Nat → Nat
  | 0, p => p
  | m + 1, p => if p < L ∧ kd (T p) = k then rnp T L k m (p + 1) else p
def wrp (T : zN) (L : Nat) : Nat → Nat → Nat → Nat
  | 0, _, w => w
  | m + 1, p, w => if p < L ∧ kd (T p) = 2 then wrp T L m (p + 1) (if 9 < w then w else 10 * w + ((T p).toNatClampNeg - 48)) else w
def sk (T : zN) (L p : Nat) : Nat := skp T L (L - p) p
def rn (T : zN) (L k p : Nat) : Nat := rnp T L k (L - p) p
def wr (T : zN) (L p w : Nat) : Nat := wrp T L (L - p) p w
theorem sk_1 {T : zN} {L p : Nat} (h : p < L) (e : T p = 32) : sk T L p = sk T L (p + 1) := by
  unfold sk
  rw [show L - p = (L - (p + 1)) + 1 by omega, skp, if_pos ⟨h, e⟩]
theorem sk_0 {T : zN} {L p : Nat} (h : ¬ (p < L ∧ T p = 32)) : sk T L p = p := by
  unfold sk
  cases L - p with
  | zero => rfl
  | succ m => rw [skp, if_neg h]
theorem rn_1 {T : zN} {L k p : Nat} (h : p < L) (e : kd (T p) = k) : rn T L k p = rn T L k (p + 1) := by
  unfold rn
  rw [show L - p = (L - (p + 1)) + 1 by omega, rnp, if_pos ⟨h, e⟩]
theorem rn_0 {T : zN} {L k p : Nat} (h : ¬ (p < L ∧ kd (T p) = k)) : rn T L k p = p := by
  unfold rn
  cases L - p with
  | zero => rfl
  | succ m => rw [rnp, if_neg h]
theorem wr_1 {T : zN} {L p w : Nat} (h : p < L) (e : kd (T p) = 2) : wr T L p w = wr T L (p + 1) (if 9 < w then w else 10 * w + ((T p).toNatClampNeg - 48)) := by
  unfold wr
  rw [show L - p = (L - (p + 1)) + 1 by omega, wrp, if_pos ⟨h, e⟩]
theorem wr_0 {T : zN} {L p w : Nat} (h : ¬ (p < L ∧ kd (T p) = 2)) : wr T L p w = w := by
  unfold wr
  cases L - p with
  | zero => rfl
  | succ m => rw [wrp, if_neg h]
theorem sk_b {T : zN} {L : Nat} : ∀ (m p : Nat), L - p = m → p ≤ L → p ≤ sk T L p ∧ sk T L p ≤ L := by
  intro m
  induction m with
  | zero => intro p h1 h2; rw [sk_0 (by omega)]; omega
  | succ m ih =>
    intro p h1 h2
    by_cases z : p < L ∧ T p = 32
    · rw [sk_1 z.1 z.2]
      have := ih (p + 1) (by omega) (by omega)
      omega
    · rw [sk_0 z]; omega
theorem rn_b {T : zN} {L k : Nat} : ∀ (m p : Nat), L - p = m → p ≤ L → p ≤ rn T L k p ∧ rn T L k p ≤ L := by
  intro m
  induction m with
  | zero => intro p h1 h2; rw [rn_0 (by omega)]; omega
  | succ m ih =>
    intro p h1 h2
    by_cases z : p < L ∧ kd (T p) = k
    · rw [rn_1 z.1 z.2]
      have := ih (p + 1) (by omega) (by omega)
      omega
    · rw [rn_0 z]; omega
/-- the next token from place p on: where it begins, its kind, where it ends, its worth -/
def Tk (T : zN) (L p : Nat) : Nat × Nat × Nat × Nat :=
  if sk T L p < L then
    (if kd (T (sk T L p)) = 1 then (sk T L p, 1, rn T L 1 (sk T L p), 0)
     else if kd (T (sk T L p)) = 2 then (sk T L p, 2, rn T L 2 (sk T L p), wr T L (sk T L p) 0)
     else (sk T L p, kd (T (sk T L p)), sk T L p + 1, 0))
  else (sk T L p, 0, sk T L p, 0)
theorem Tk_b {T : zN} {L p : Nat} (h : p ≤ L) : (Tk T L p).1 ≤ L ∧ (Tk T L p).2.2.1 ≤ L ∧ p ≤ (Tk T L p).2.2.1 := by
  have a := sk_b (T := T) (L := L) (L - p) p rfl h
  have b := rn_b (T := T) (L := L) (k := 1) (L - sk T L p) (sk T L p) rfl a.2
  have c := rn_b (T := T) (L := L) (k := 2) (L - sk T L p) (sk T L p) rfl a.2
  unfold Tk
  split
  · split
    · exact ⟨a.2, b.2, by show p ≤ rn T L 1 _; omega⟩
    · split
      · exact ⟨a.2, c.2, by show p ≤ rn T L 2 _; omega⟩
      · rename_i z _ _
        exact ⟨a.2, by show _ + 1 ≤ L; omega, by show p ≤ _ + 1; omega⟩
  · exact ⟨a.2, a.2, a.1⟩
/-- the class's tape: bytes -/
def TpC (h : zHp) (T : zN) (L : Nat) : Prop := L ≤ 120 ∧ rI h 141 1 = nI L ∧ ∀ i, i < L → rI h 142 i = (T i).toInt8.toInt32 ∧ iv 0 255 (T i)
def fT3 (h h' : zHp) : Prop := h'.2 = h.2 ∧ (∀ a, a ≠ 141 → h'.1 a = h.1 a) ∧ ∀ k, (k < 2 ∨ 5 < k) → h'.1 141 k = h.1 141 k
theorem fT3.rf {h : zHp} : fT3 h h := ⟨rfl, fun _ _ => rfl, fun _ _ => rfl⟩
theorem fT3.tr {h h' h2 : zHp} (a : fT3 h h') (b : fT3 h' h2) : fT3 h h2 := ⟨b.1.trans a.1, fun z z1 => (b.2.1 z z1).trans (a.2.1 z z1), fun k hk => (b.2.2 k hk).trans (a.2.2 k hk)⟩
theorem fT3.w {h : zHp} {k : Nat} {v : Int32} (hk : 2 ≤ k ∧ k ≤ 5) : fT3 h (wI h 141 k v) := ⟨rfl, fun a ha => wI_ne ha, fun q hq => by show rI _ 141 q = rI h 141 q; rw [rI_k (by omega)]⟩
theorem fT3.t {h h' : zHp} {T : zN} {L : Nat} (f : fT3 h h') (t : TpC h T L) : TpC h' T L := ⟨t.1, by show h'.1 141 1 = _; rw [f.2.2 1 (by omega)]; exact t.2.1, fun i hi => by
  have : rI h' 142 i = rI h 142 i := by show h'.1 142 i = h.1 142 i; rw [f.2.1 142 (by decide)]
  rw [this]; exact t.2.2 i hi⟩
theorem g_X3_byteAt {x1 : Int32} {h : zHp} {Q : Int32 → zHp → Prop}  (G : zG h) (F : (x1 < 0 → (Q 0 h)) ∧ (¬ (x1 < 0) → ((rI h 141 1 ≤ x1 → (Q 0 h)) ∧ (¬ (rI h 141 1 ≤ x1) → ((120 ≤ x1 → (Q 0 h)) ∧ (¬ (120 ≤ x1) → (vp_in x1 120 ∧ (Q (rI h 142 ((Int32.toNatClampNeg x1))) h)))))))) : zcI M_X3_byteAt [.ref 141, .int x1] h Q := by
  show zw zNT zNT M_X3_byteAt 0 [some (.ref 141), some (.int x1)] [] h _
  refine z_iload_n (pc := 0) dX3_byteAt_0 rfl rfl ?_
  refine z_if_lt (pc := 1) (tgt := 27) dX3_byteAt_1 (by decide) (fun k4 => ?_) (fun k4 => ?_)
  · replace F := F.1 k4
    refine z_iconst (pc := 27) (v := 0) dX3_byteAt_27 (by decide) ?_
    exact q_retI (pc := 28) dX3_byteAt_28 rfl F
  · replace F := F.2 k4
    refine z_iload_n (pc := 4) dX3_byteAt_4 rfl rfl ?_
    refine z_aload_n (pc := 5) dX3_byteAt_5 rfl rfl ?_
    refine q_getI (pc := 6) (v := rI h 141 1) dX3_byteAt_6 lk_RX3_22 (lyc rfl) rfl ?_
    refine z_icmp_ge (pc := 9) (tgt := 27) dX3_byteAt_9 (by decide) (fun k3 => ?_) (fun k3 => ?_)
    · replace F := F.1 k3
      refine z_iconst (pc := 27) (v := 0) dX3_byteAt_27 (by decide) ?_
      exact q_retI (pc := 28) dX3_byteAt_28 rfl F
    · replace F := F.2 k3
      refine z_iload_n (pc := 12) dX3_byteAt_12 rfl rfl ?_
      refine z_bipush (pc := 13) (v := 120) dX3_byteAt_13 (by decide) ?_
      refine z_icmp_ge (pc := 15) (tgt := 27) dX3_byteAt_15 (by decide) (fun k2 => ?_) (fun k2 => ?_)
      · replace F := F.1 k2
        refine z_iconst (pc := 27) (v := 0) dX3_byteAt_27 (by decide) ?_
        exact q_retI (pc := 28) dX3_byteAt_28 rfl F
      · replace F := F.2 k2
        refine z_aload_n (pc := 18) dX3_byteAt_18 rfl rfl ?_
        refine q_getR (pc := 19) (i := 142) dX3_byteAt_19 lk_RX3_9 (lyc rfl) (G 141 0 142 rfl) ?_
        refine z_iload_n (pc := 22) dX3_byteAt_22 rfl rfl ?_
        obtain ⟨k1, F⟩ := F
        refine q_bald (pc := 23) (j := (Int32.toNatClampNeg x1)) (v := rI h 142 ((Int32.toNatClampNeg x1))) dX3_byteAt_23 (lyc rfl) (zvn (lnc rfl) k1) rfl rfl ?_
        refine z_goto (pc := 24) (tgt := 28) dX3_byteAt_24 (by decide) ?_
        exact q_retI (pc := 28) dX3_byteAt_28 rfl F
theorem g_X3_kindOf {x0 : Int32} {h : zHp} {Q : Int32 → zHp → Prop}  (G : zG h) (F : (x0 < 97 → ((x0 < 48 → (zlI M_X3_kindOf 28 [some (.int x0)] [] h Q)) ∧ (¬ (x0 < 48) → ((57 < x0 → (zlI M_X3_kindOf 28 [some (.int x0)] [] h Q)) ∧ (¬ (57 < x0) → (Q 2 h)))))) ∧ (¬ (x0 < 97) → ((122 < x0 → ((x0 < 48 → (zlI M_X3_kindOf 28 [some (.int x0)] [] h Q)) ∧ (¬ (x0 < 48) → ((57 < x0 → (zlI M_X3_kindOf 28 [some (.int x0)] [] h Q)) ∧ (¬ (57 < x0) → (Q 2 h)))))) ∧ (¬ (122 < x0) → (Q 1 h))))) : zcI M_X3_kindOf [.int x0] h Q := by
  show zw zNT zNT M_X3_kindOf 0 [some (.int x0)] [] h _
  refine z_iload_n (pc := 0) dX3_kindOf_0 rfl rfl ?_
  refine z_bipush (pc := 1) (v := 97) dX3_kindOf_1 (by decide) ?_
  refine z_icmp_lt (pc := 3) (tgt := 14) dX3_kindOf_3 (by decide) (fun k6 => ?_) (fun k6 => ?_)
  · replace F := F.1 k6
    refine z_iload_n (pc := 14) dX3_kindOf_14 rfl rfl ?_
    refine z_bipush (pc := 15) (v := 48) dX3_kindOf_15 (by decide) ?_
    refine z_icmp_lt (pc := 17) (tgt := 28) dX3_kindOf_17 (by decide) (fun k2 => ?_) (fun k2 => ?_)
    · replace F := F.1 k2
      exact F
    · replace F := F.2 k2
      refine z_iload_n (pc := 20) dX3_kindOf_20 rfl rfl ?_
      refine z_bipush (pc := 21) (v := 57) dX3_kindOf_21 (by decide) ?_
      refine z_icmp_gt (pc := 23) (tgt := 28) dX3_kindOf_23 (by decide) (fun k1 => ?_) (fun k1 => ?_)
      · replace F := F.1 k1
        exact F
      · replace F := F.2 k1
        refine z_iconst (pc := 26) (v := 2) dX3_kindOf_26 (by decide) ?_
        exact q_retI (pc := 27) dX3_kindOf_27 rfl F
  · replace F := F.2 k6
    refine z_iload_n (pc := 6) dX3_kindOf_6 rfl rfl ?_
    refine z_bipush (pc := 7) (v := 122) dX3_kindOf_7 (by decide) ?_
    refine z_icmp_gt (pc := 9) (tgt := 14) dX3_kindOf_9 (by decide) (fun k5 => ?_) (fun k5 => ?_)
    · replace F := F.1 k5
      refine z_iload_n (pc := 14) dX3_kindOf_14 rfl rfl ?_
      refine z_bipush (pc := 15) (v := 48) dX3_kindOf_15 (by decide) ?_
      refine z_icmp_lt (pc := 17) (tgt := 28) dX3_kindOf_17 (by decide) (fun k4 => ?_) (fun k4 => ?_)
      · replace F := F.1 k4
        exact F
      · replace F := F.2 k4
        refine z_iload_n (pc := 20) dX3_kindOf_20 rfl rfl ?_
        refine z_bipush (pc := 21) (v := 57) dX3_kindOf_21 (by decide) ?_
        refine z_icmp_gt (pc := 23) (tgt := 28) dX3_kindOf_23 (by decide) (fun k3 => ?_) (fun k3 => ?_)
        · replace F := F.1 k3
          exact F
        · replace F := F.2 k3
          refine z_iconst (pc := 26) (v := 2) dX3_kindOf_26 (by decide) ?_
          exact q_retI (pc := 27) dX3_kindOf_27 rfl F
    · replace F := F.2 k5
      refine z_iconst (pc := 12) (v := 1) dX3_kindOf_12 (by decide) ?_
      exact q_retI (pc := 13) dX3_kindOf_13 rfl F
theorem g_X3_kindOf_28 {x0 : Int32} {h : zHp} {Q : Int32 → zHp → Prop}  (G : zG h) (F : (¬ x0 = 59 → ((¬ x0 = 45 → (Q 5 h)) ∧ (x0 = 45 → (Q 4 h)))) ∧ (x0 = 59 → (Q 3 h))) : zlI M_X3_kindOf 28 [some (.int x0)] [] h Q := by
  refine z_iload_n (pc := 28) dX3_kindOf_28 rfl rfl ?_
  refine z_bipush (pc := 29) (v := 59) dX3_kindOf_29 (by decide) ?_
  refine z_icmp_ne (pc := 31) (tgt := 36) dX3_kindOf_31 (by decide) (fun k2 => ?_) (fun k2 => ?_)
  · replace F := F.1 k2
    refine z_iload_n (pc := 36) dX3_kindOf_36 rfl rfl ?_
    refine z_bipush (pc := 37) (v := 45) dX3_kindOf_37 (by decide) ?_
    refine z_icmp_ne (pc := 39) (tgt := 46) dX3_kindOf_39 (by decide) (fun k1 => ?_) (fun k1 => ?_)
    · replace F := F.1 k1
      refine z_iconst (pc := 46) (v := 5) dX3_kindOf_46 (by decide) ?_
      exact q_retI (pc := 47) dX3_kindOf_47 rfl F
    · replace F := F.2 k1
      refine z_iconst (pc := 42) (v := 4) dX3_kindOf_42 (by decide) ?_
      refine z_goto (pc := 43) (tgt := 47) dX3_kindOf_43 (by decide) ?_
      exact q_retI (pc := 47) dX3_kindOf_47 rfl F
  · replace F := F.2 k2
    refine z_iconst (pc := 34) (v := 3) dX3_kindOf_34 (by decide) ?_
    exact q_retI (pc := 35) dX3_kindOf_35 rfl F
theorem g_X3_advance  {h : zHp} {Q : zHp → Prop}  (G : zG h) (F : (rI h 141 1 ≤ rI h 141 2 → (zlV M_X3_advance 37 [some (.ref 141), none] [] h Q)) ∧ (¬ (rI h 141 1 ≤ rI h 141 2) → (zcI M_X3_byteAt [.ref 141, .int (rI h 141 2)] h (fun vh1 h1 => zG h1 ∧ ((¬ vh1 = 32 → (zlV M_X3_advance 37 [some (.ref 141), none] [] h1 Q)) ∧ (vh1 = 32 → (zlV M_X3_advance 0 [some (.ref 141), none] [] (wI h1 141 2 ((rI h1 141 2) + 1)) Q))))))) : zcV M_X3_advance [.ref 141] h Q := by
  show zw zNT zNT M_X3_advance 0 [some (.ref 141), none] [] h _
  refine z_aload_n (pc := 0) dX3_advance_0 rfl rfl ?_
  refine q_getI (pc := 1) (v := rI h 141 2) dX3_advance_1 lk_RX3_26 (lyc rfl) rfl ?_
  refine z_aload_n (pc := 4) dX3_advance_4 rfl rfl ?_
  refine q_getI (pc := 5) (v := rI h 141 1) dX3_advance_5 lk_RX3_22 (lyc rfl) rfl ?_
  refine z_icmp_ge (pc := 8) (tgt := 37) dX3_advance_8 (by decide) (fun k3 => ?_) (fun k3 => ?_)
  · replace F := F.1 k3
    exact F
  · replace F := F.2 k3
    refine z_aload_n (pc := 11) dX3_advance_11 rfl rfl ?_
    refine z_aload_n (pc := 12) dX3_advance_12 rfl rfl ?_
    refine q_getI (pc := 13) (v := rI h 141 2) dX3_advance_13 lk_RX3_26 (lyc rfl) rfl ?_
    refine q_invV (pc := 16) (As := [.int (rI h 141 2)]) (st := []) dX3_advance_16 ok_X3_byteAt ml_RX3_94 iv_X3_byteAt pa_X3_byteAt ⟨Nat.le_of_ble_eq_true rfl, Nat.le_of_ble_eq_true rfl⟩ (lyc rfl) (q_kI F (fun vh1 h1 F => ?_))
    obtain ⟨G1, F⟩ := F
    refine z_bipush (pc := 19) (v := 32) dX3_advance_19 (by decide) ?_
    refine z_icmp_ne (pc := 21) (tgt := 37) dX3_advance_21 (by decide) (fun k2 => ?_) (fun k2 => ?_)
    · replace F := F.1 k2
      exact F
    · replace F := F.2 k2
      refine z_aload_n (pc := 24) dX3_advance_24 rfl rfl ?_
      refine z_dup (pc := 25) dX3_advance_25 rfl ?_
      refine q_getI (pc := 26) (v := rI h1 141 2) dX3_advance_26 lk_RX3_26 (lyc rfl) rfl ?_
      refine z_iconst (pc := 29) (v := 1) dX3_advance_29 (by decide) ?_
      refine z_iadd (pc := 30) dX3_advance_30 ?_
      refine q_putI (pc := 31) dX3_advance_31 lk_RX3_26 (lyc rfl) ?_
      refine z_goto (pc := 34) (tgt := 0) dX3_advance_34 (by decide) ?_
      exact F
theorem g_X3_advance_37  {h : zHp} {Q : zHp → Prop}  (G : zG h) (F : (rI h 141 1 ≤ rI h 141 2 → (zlV M_X3_advance 72 [some (.ref 141), none] [.int 0, .ref 141] (wI h 141 4 (rI h 141 2)) Q)) ∧ (¬ (rI h 141 1 ≤ rI h 141 2) → (zcI M_X3_byteAt [.ref 141, .int (rI h 141 2)] (wI h 141 4 (rI h 141 2)) (fun vh1 h1 => zG h1 ∧ (zcI M_X3_kindOf [.int vh1] h1 (fun vh2 h2 => zG h2 ∧ (zlV M_X3_advance 72 [some (.ref 141), none] [.int vh2, .ref 141] h2 Q))))))) : zlV M_X3_advance 37 [some (.ref 141), none] [] h Q := by
  refine z_aload_n (pc := 37) dX3_advance_37 rfl rfl ?_
  refine z_aload_n (pc := 38) dX3_advance_38 rfl rfl ?_
  refine q_getI (pc := 39) (v := rI h 141 2) dX3_advance_39 lk_RX3_26 (lyc rfl) rfl ?_
  refine q_putI (pc := 42) dX3_advance_42 lk_RX3_45 (lyc rfl) ?_
  refine z_aload_n (pc := 45) dX3_advance_45 rfl rfl ?_
  refine z_aload_n (pc := 46) dX3_advance_46 rfl rfl ?_
  refine q_getI (pc := 47) (v := rI h 141 2) dX3_advance_47 lk_RX3_26 (lyc rfl) (rI_k (by decide)) ?_
  refine z_aload_n (pc := 50) dX3_advance_50 rfl rfl ?_
  refine q_getI (pc := 51) (v := rI h 141 1) dX3_advance_51 lk_RX3_22 (lyc rfl) (rI_k (by decide)) ?_
  refine z_icmp_ge (pc := 54) (tgt := 71) dX3_advance_54 (by decide) (fun k3 => ?_) (fun k3 => ?_)
  · replace F := F.1 k3
    refine z_iconst (pc := 71) (v := 0) dX3_advance_71 (by decide) ?_
    exact F
  · replace F := F.2 k3
    refine z_aload_n (pc := 57) dX3_advance_57 rfl rfl ?_
    refine z_aload_n (pc := 58) dX3_advance_58 rfl rfl ?_
    refine q_getI (pc := 59) (v := rI h 141 2) dX3_advance_59 lk_RX3_26 (lyc rfl) (rI_k (by decide)) ?_
    refine q_invV (pc := 62) (As := [.int (rI h 141 2)]) (st := [.ref 141]) dX3_advance_62 ok_X3_byteAt ml_RX3_94 iv_X3_byteAt pa_X3_byteAt ⟨Nat.le_of_ble_eq_true rfl, Nat.le_of_ble_eq_true rfl⟩ (lyc rfl) (q_kI F (fun vh1 h1 F => ?_))
    obtain ⟨G1, F⟩ := F
    refine q_invS (pc := 65) (As := [.int vh1]) (st := [.ref 141]) dX3_advance_65 ok_X3_kindOf ml_RX3_101 st_X3_kindOf pa_X3_kindOf ⟨Nat.le_of_ble_eq_true rfl, Nat.le_of_ble_eq_true rfl⟩ (q_kI F (fun vh2 h2 F => ?_))
    obtain ⟨G2, F⟩ := F
    refine z_goto (pc := 68) (tgt := 72) dX3_advance_68 (by decide) ?_
    exact F
theorem g_X3_advance_72 {xs1 : Int32} {h : zHp} {Q : zHp → Prop}  (G : zG h) (F : (xs1 = 0 → (zlV M_X3_advance 93 [some (.ref 141), some (.int 0)] [] (wI (wI h 141 3 xs1) 141 5 0) Q)) ∧ (¬ (xs1 = 0) → (zlV M_X3_advance 93 [some (.ref 141), some (.int 1)] [] (wI (wI h 141 3 xs1) 141 5 0) Q))) : zlV M_X3_advance 72 [some (.ref 141), none] [.int xs1, .ref 141] h Q := by
  refine q_putI (pc := 72) dX3_advance_72 lk_RX3_42 (lyc rfl) ?_
  refine z_aload_n (pc := 75) dX3_advance_75 rfl rfl ?_
  refine z_iconst (pc := 76) (v := 0) dX3_advance_76 (by decide) ?_
  refine q_putI (pc := 77) dX3_advance_77 lk_RX3_76 (lyc rfl) ?_
  refine z_aload_n (pc := 80) dX3_advance_80 rfl rfl ?_
  refine q_getI (pc := 81) (v := xs1) dX3_advance_81 lk_RX3_42 (lyc rfl) ((rI_k (by decide)).trans rI_s) ?_
  refine z_if_eq (pc := 84) (tgt := 91) dX3_advance_84 (by decide) (fun k1 => ?_) (fun k1 => ?_)
  · replace F := F.1 k1
    refine z_iconst (pc := 91) (v := 0) dX3_advance_91 (by decide) ?_
    refine z_istore_n (pc := 92) (ls' := [some (.ref 141), some (.int 0)]) dX3_advance_92 rfl (by decide) rfl ?_
    exact F
  · replace F := F.2 k1
    refine z_iconst (pc := 87) (v := 1) dX3_advance_87 (by decide) ?_
    refine z_goto (pc := 88) (tgt := 92) dX3_advance_88 (by decide) ?_
    refine z_istore_n (pc := 92) (ls' := [some (.ref 141), some (.int 1)]) dX3_advance_92 rfl (by decide) rfl ?_
    exact F
theorem g_X3_advance_93 {x1 : Int32} {h : zHp} {Q : zHp → Prop}  (G : zG h) (F : (x1 = 0 → (Q h)) ∧ (¬ (x1 = 0) → ((rI h 141 1 ≤ rI h 141 2 → (Q h)) ∧ (¬ (rI h 141 1 ≤ rI h 141 2) → ((¬ rI h 141 3 = 2 → (zlV M_X3_advance 144 [some (.ref 141), some (.int x1)] [] h Q)) ∧ (rI h 141 3 = 2 → (zcI M_X3_byteAt [.ref 141, .int (rI h 141 2)] h (fun vh1 h1 => zG h1 ∧ (zlV M_X3_advance 144 [some (.ref 141), some (.int x1)] [] (wI h1 141 5 (if (((rI h 141 5) * 10) + vh1) - 48 < (10 : Int32) then (((rI h 141 5) * 10) + vh1) - 48 else 10)) Q))))))))) : zlV M_X3_advance 93 [some (.ref 141), some (.int x1)] [] h Q := by
  refine z_iload_n (pc := 93) dX3_advance_93 rfl rfl ?_
  refine z_if_eq (pc := 94) (tgt := 197) dX3_advance_94 (by decide) (fun k4 => ?_) (fun k4 => ?_)
  · replace F := F.1 k4
    exact q_retV (pc := 197) dX3_advance_197 rfl F
  · replace F := F.2 k4
    refine z_aload_n (pc := 97) dX3_advance_97 rfl rfl ?_
    refine q_getI (pc := 98) (v := rI h 141 2) dX3_advance_98 lk_RX3_26 (lyc rfl) rfl ?_
    refine z_aload_n (pc := 101) dX3_advance_101 rfl rfl ?_
    refine q_getI (pc := 102) (v := rI h 141 1) dX3_advance_102 lk_RX3_22 (lyc rfl) rfl ?_
    refine z_icmp_ge (pc := 105) (tgt := 197) dX3_advance_105 (by decide) (fun k3 => ?_) (fun k3 => ?_)
    · replace F := F.1 k3
      exact q_retV (pc := 197) dX3_advance_197 rfl F
    · replace F := F.2 k3
      refine z_aload_n (pc := 108) dX3_advance_108 rfl rfl ?_
      refine q_getI (pc := 109) (v := rI h 141 3) dX3_advance_109 lk_RX3_42 (lyc rfl) rfl ?_
      refine z_iconst (pc := 112) (v := 2) dX3_advance_112 (by decide) ?_
      refine z_icmp_ne (pc := 113) (tgt := 144) dX3_advance_113 (by decide) (fun k2 => ?_) (fun k2 => ?_)
      · replace F := F.1 k2
        exact F
      · replace F := F.2 k2
        refine z_aload_n (pc := 116) dX3_advance_116 rfl rfl ?_
        refine z_bipush (pc := 117) (v := 10) dX3_advance_117 (by decide) ?_
        refine z_aload_n (pc := 119) dX3_advance_119 rfl rfl ?_
        refine q_getI (pc := 120) (v := rI h 141 5) dX3_advance_120 lk_RX3_76 (lyc rfl) rfl ?_
        refine z_bipush (pc := 123) (v := 10) dX3_advance_123 (by decide) ?_
        refine z_imul (pc := 125) dX3_advance_125 ?_
        refine z_aload_n (pc := 126) dX3_advance_126 rfl rfl ?_
        refine z_aload_n (pc := 127) dX3_advance_127 rfl rfl ?_
        refine q_getI (pc := 128) (v := rI h 141 2) dX3_advance_128 lk_RX3_26 (lyc rfl) rfl ?_
        refine q_invV (pc := 131) (As := [.int (rI h 141 2)]) (st := [.int ((rI h 141 5) * 10), .int 10, .ref 141]) dX3_advance_131 ok_X3_byteAt ml_RX3_94 iv_X3_byteAt pa_X3_byteAt ⟨Nat.le_of_ble_eq_true rfl, Nat.le_of_ble_eq_true rfl⟩ (lyc rfl) (q_kI F (fun vh1 h1 F => ?_))
        obtain ⟨G1, F⟩ := F
        refine z_iadd (pc := 134) dX3_advance_134 ?_
        refine z_bipush (pc := 135) (v := 48) dX3_advance_135 (by decide) ?_
        refine z_isub (pc := 137) dX3_advance_137 ?_
        refine z_min (pc := 138) dX3_advance_138 ⟨pl_RX3_104, pw_minS, pw_Math, pw_minC⟩ (zcat_of rfl) ⟨Nat.le_of_ble_eq_true rfl, Nat.le_of_ble_eq_true rfl⟩ ?_
        refine q_putI (pc := 141) dX3_advance_141 lk_RX3_76 (lyc rfl) ?_
        exact F
theorem g_X3_advance_144 {x1 : Int32} {h : zHp} {Q : zHp → Prop}  (G : zG h) (F : (rI h 141 3 = 1 → (zlV M_X3_advance 170 [some (.ref 141), some (.int x1)] [] (wI h 141 2 ((rI h 141 2) + 1)) Q)) ∧ (¬ (rI h 141 3 = 1) → ((¬ rI h 141 3 = 2 → (zlV M_X3_advance 93 [some (.ref 141), some (.int 0)] [] (wI h 141 2 ((rI h 141 2) + 1)) Q)) ∧ (rI h 141 3 = 2 → (zlV M_X3_advance 170 [some (.ref 141), some (.int x1)] [] (wI h 141 2 ((rI h 141 2) + 1)) Q))))) : zlV M_X3_advance 144 [some (.ref 141), some (.int x1)] [] h Q := by
  refine z_aload_n (pc := 144) dX3_advance_144 rfl rfl ?_
  refine z_dup (pc := 145) dX3_advance_145 rfl ?_
  refine q_getI (pc := 146) (v := rI h 141 2) dX3_advance_146 lk_RX3_26 (lyc rfl) rfl ?_
  refine z_iconst (pc := 149) (v := 1) dX3_advance_149 (by decide) ?_
  refine z_iadd (pc := 150) dX3_advance_150 ?_
  refine q_putI (pc := 151) dX3_advance_151 lk_RX3_26 (lyc rfl) ?_
  refine z_aload_n (pc := 154) dX3_advance_154 rfl rfl ?_
  refine q_getI (pc := 155) (v := rI h 141 3) dX3_advance_155 lk_RX3_42 (lyc rfl) (rI_k (by decide)) ?_
  refine z_iconst (pc := 158) (v := 1) dX3_advance_158 (by decide) ?_
  refine z_icmp_eq (pc := 159) (tgt := 170) dX3_advance_159 (by decide) (fun k2 => ?_) (fun k2 => ?_)
  · replace F := F.1 k2
    exact F
  · replace F := F.2 k2
    refine z_aload_n (pc := 162) dX3_advance_162 rfl rfl ?_
    refine q_getI (pc := 163) (v := rI h 141 3) dX3_advance_163 lk_RX3_42 (lyc rfl) (rI_k (by decide)) ?_
    refine z_iconst (pc := 166) (v := 2) dX3_advance_166 (by decide) ?_
    refine z_icmp_ne (pc := 167) (tgt := 192) dX3_advance_167 (by decide) (fun k1 => ?_) (fun k1 => ?_)
    · replace F := F.1 k1
      refine z_iconst (pc := 192) (v := 0) dX3_advance_192 (by decide) ?_
      refine z_istore_n (pc := 193) (ls' := [some (.ref 141), some (.int 0)]) dX3_advance_193 rfl (by decide) rfl ?_
      refine z_goto (pc := 194) (tgt := 93) dX3_advance_194 (by decide) ?_
      exact F
    · replace F := F.2 k1
      exact F
theorem g_X3_advance_170 {x1 : Int32} {h : zHp} {Q : zHp → Prop}  (G : zG h) (F : zcI M_X3_byteAt [.ref 141, .int (rI h 141 2)] h (fun vh1 h1 => zG h1 ∧ (zcI M_X3_kindOf [.int vh1] h1 (fun vh2 h2 => zG h2 ∧ ((¬ vh2 = rI h2 141 3 → (zlV M_X3_advance 93 [some (.ref 141), some (.int 0)] [] h2 Q)) ∧ (vh2 = rI h2 141 3 → (zlV M_X3_advance 93 [some (.ref 141), some (.int 1)] [] h2 Q))))))) : zlV M_X3_advance 170 [some (.ref 141), some (.int x1)] [] h Q := by
  refine z_aload_n (pc := 170) dX3_advance_170 rfl rfl ?_
  refine z_aload_n (pc := 171) dX3_advance_171 rfl rfl ?_
  refine q_getI (pc := 172) (v := rI h 141 2) dX3_advance_172 lk_RX3_26 (lyc rfl) rfl ?_
  refine q_invV (pc := 175) (As := [.int (rI h 141 2)]) (st := []) dX3_advance_175 ok_X3_byteAt ml_RX3_94 iv_X3_byteAt pa_X3_byteAt ⟨Nat.le_of_ble_eq_true rfl, Nat.le_of_ble_eq_true rfl⟩ (lyc rfl) (q_kI F (fun vh1 h1 F => ?_))
  obtain ⟨G1, F⟩ := F
  refine q_invS (pc := 178) (As := [.int vh1]) (st := []) dX3_advance_178 ok_X3_kindOf ml_RX3_101 st_X3_kindOf pa_X3_kindOf ⟨Nat.le_of_ble_eq_true rfl, Nat.le_of_ble_eq_true rfl⟩ (q_kI F (fun vh2 h2 F => ?_))
  obtain ⟨G2, F⟩ := F
  refine z_aload_n (pc := 181) dX3_advance_181 rfl rfl ?_
  refine q_getI (pc := 182) (v := rI h2 141 3) dX3_advance_182 lk_RX3_42 (lyc rfl) rfl ?_
  refine z_icmp_ne (pc := 185) (tgt := 192) dX3_advance_185 (by decide) (fun k3 => ?_) (fun k3 => ?_)
  · replace F := F.1 k3
    refine z_iconst (pc := 192) (v := 0) dX3_advance_192 (by decide) ?_
    refine z_istore_n (pc := 193) (ls' := [some (.ref 141), some (.int 0)]) dX3_advance_193 rfl (by decide) rfl ?_
    refine z_goto (pc := 194) (tgt := 93) dX3_advance_194 (by decide) ?_
    exact F
  · replace F := F.2 k3
    refine z_iconst (pc := 188) (v := 1) dX3_advance_188 (by decide) ?_
    refine z_goto (pc := 189) (tgt := 193) dX3_advance_189 (by decide) ?_
    refine z_istore_n (pc := 193) (ls' := [some (.ref 141), some (.int 1)]) dX3_advance_193 rfl (by decide) rfl ?_
    refine z_goto (pc := 194) (tgt := 93) dX3_advance_194 (by decide) ?_
    exact F
/-- what stands at place p, 0 behind the end -/
def bC (T : zN) (L p : Nat) : Int32 := if p < L then (T p).toInt8.toInt32 else 0
theorem s_X3_byteAt {T : zN} {L p : Nat} {h : zHp} (G : zG h) (t : TpC h T L) (hp : p < 2 ^ 31) : zcI M_X3_byteAt [.ref 141, .int (nI p)] h (fun r h' => r = bC T L p ∧ h' = h) := by
  refine g_X3_byteAt G ?_
  have := t.1
  rw [t.2.1]
  unfold bC
  refine ⟨fun z => absurd z (nI_pos hp), fun _ => ⟨fun z => ⟨?_, rfl⟩, fun z => ?_⟩⟩
  · rw [if_neg (by have := (nI_leI (by omega) hp).mp z; omega)]
  · have pl : p < L := Nat.lt_of_not_le (fun y => z (nI_le y hp))
    refine ⟨fun y => absurd ((nI_leI (a := 120) (by omega) hp).mp y) (by omega), fun _ => ⟨vp_in_nI (by omega) (by omega), ?_, rfl⟩⟩
    rw [if_pos pl, nI_clamp hp]
    exact (t.2.2 p pl).1
/-- the kind of a byte, as the class tells it -/
def kC (b : Int32) : Int32 := if 97 ≤ b ∧ b ≤ 122 then 1 else if 48 ≤ b ∧ b ≤ 57 then 2 else if b = 59 then 3 else if b = 45 then 4 else 5
theorem s_X3_kindOf {b : Int32} {h : zHp} (G : zG h) : zcI M_X3_kindOf [.int b] h (fun r h' => r = kC b ∧ h' = h) := by
  have l28 : ¬ (97 ≤ b ∧ b ≤ 122) → ¬ (48 ≤ b ∧ b ≤ 57) → zlI M_X3_kindOf 28 [some (.int b)] [] h (fun r h' => r = kC b ∧ h' = h) := by
    intro z1 z2
    refine g_X3_kindOf_28 G ⟨fun z => ⟨fun y => ⟨?_, rfl⟩, fun y => ⟨?_, rfl⟩⟩, fun z => ⟨?_, rfl⟩⟩
    · unfold kC; rw [if_neg z1, if_neg z2, if_neg z, if_neg y]
    · unfold kC; rw [if_neg z1, if_neg z2, if_neg z, if_pos y]
    · unfold kC; rw [if_neg z1, if_neg z2, if_pos z]
  have num : ¬ (97 ≤ b ∧ b ≤ 122) → ¬ b < 48 → ¬ 57 < b → 2 = kC b := fun z1 z2 z3 => by
    unfold kC
    rw [if_neg z1, if_pos ⟨Int32.not_lt.mp z2, Int32.not_lt.mp z3⟩]
  refine g_X3_kindOf G ⟨fun z => ?_, fun z => ⟨fun y => ?_, fun y => ⟨?_, rfl⟩⟩⟩
  · have n1 : ¬ (97 ≤ b ∧ b ≤ 122) := fun w => Int32.not_lt.mpr w.1 z
    exact ⟨fun x => l28 n1 (fun w => Int32.not_lt.mpr w.1 x), fun x => ⟨fun w => l28 n1 (fun u => Int32.not_lt.mpr u.2 w), fun w => ⟨num n1 x w, rfl⟩⟩⟩
  · have n1 : ¬ (97 ≤ b ∧ b ≤ 122) := fun w => Int32.not_lt.mpr w.2 y
    exact ⟨fun x => l28 n1 (fun w => Int32.not_lt.mpr w.1 x), fun x => ⟨fun w => l28 n1 (fun u => Int32.not_lt.mpr u.2 w), fun w => ⟨num n1 x w, rfl⟩⟩⟩
  · unfold kC
    rw [if_pos ⟨Int32.not_lt.mp z, Int32.not_lt.mp y⟩]
theorem byt_all : ∀ m, m < 256 → kC ((nI m).toInt8.toInt32) = nI (kd (nI m)) ∧ (((nI m).toInt8.toInt32 = 32) ↔ (nI m = 32)) ∧ (kd (nI m) = 2 → (nI m).toInt8.toInt32 = nI m ∧ 48 ≤ m ∧ m ≤ 57) ∧ 1 ≤ kd (nI m) ∧ kd (nI m) ≤ 5 := by decide +kernel
theorem byt {c : Int32} (h : iv 0 255 c) : ∃ m, m < 256 ∧ c = nI m := by
  obtain ⟨k, hk, e⟩ := iv_n (a := 255) h
  exact ⟨k, by omega, e⟩
theorem kC_at {T : zN} {L p : Nat} (ok : ∀ i, i < L → iv 0 255 (T i)) : kC (bC T L p) = if p < L then nI (kd (T p)) else 5 := by
  unfold bC
  by_cases z : p < L
  · rw [if_pos z, if_pos z]
    obtain ⟨m, hm, e⟩ := byt (ok p z)
    rw [e]
    exact (byt_all m hm).1
  · rw [if_neg z, if_neg z]
    decide
/-- the class stands behind token t -/
def TC (h : zHp) (t : Nat × Nat × Nat × Nat) : Prop := rI h 141 2 = nI t.2.2.1 ∧ rI h 141 3 = nI t.2.1 ∧ rI h 141 4 = nI t.1 ∧ rI h 141 5 = nI (min 10 t.2.2.2)
theorem s_X3_advance {T : zN} {L p : Nat} {h : zHp} (G : zG h) (t : TpC h T L) (hp : p ≤ L) (e : rI h 141 2 = nI p) : zcV M_X3_advance [.ref 141] h (fun h' => fT3 h h' ∧ TC h' (Tk T L p)) := by
  have l120 := t.1
  have ok : ∀ i, i < L → iv 0 255 (T i) := fun i hi => (t.2.2 i hi).2
  -- the run of a word, or of digits
  have run : ∀ (k : Nat), (k = 1 ∨ k = 2) → ∀ (m q w : Nat) (h' : zHp), L - q = m → q ≤ L → w ≤ 99 → fT3 h h' → rI h' 141 2 = nI q → rI h' 141 3 = nI k → rI h' 141 4 = nI (sk T L p) → rI h' 141 5 = nI (min 10 w) → (k = 1 → w = 0) → ∀ g : Int32, (g = 0 ∧ ¬ (q < L ∧ kd (T q) = k)) ∨ (¬ g = 0 ∧ q < L ∧ kd (T q) = k) → zlV M_X3_advance 93 [some (.ref 141), some (.int g)] [] h' (fun h2 => fT3 h h2 ∧ TC h2 (sk T L p, k, rn T L k q, if k = 2 then wr T L q w else 0)) := by
    intro k hk m
    induction m with
    | zero =>
      intro q w h' hm hq hw f c2 c3 c4 c5 kw g hg
      have n : ¬ (q < L ∧ kd (T q) = k) := by omega
      refine g_X3_advance_93 (zG_of f.1 G) ⟨fun _ => ?_, fun z => ?_⟩
      · refine ⟨f, ?_⟩
        rw [rn_0 n]
        refine ⟨c2, c3, c4, ?_⟩
        show rI h' 141 5 = nI (min 10 (if k = 2 then wr T L q w else 0))
        rcases hk with hk | hk
        · rw [if_neg (by omega), c5, kw hk]
        · rw [if_pos hk, wr_0 (by rw [hk] at n; exact n)]; exact c5
      · rcases hg with y | y
        · exact absurd y.1 z
        · exact absurd y.2 n
    | succ m ih =>
      intro q w h' hm hq hw f c2 c3 c4 c5 kw g hg
      have G' := zG_of f.1 G
      have t' := f.t t
      refine g_X3_advance_93 G' ⟨fun z => ?_, fun z => ?_⟩
      · have n : ¬ (q < L ∧ kd (T q) = k) := by
          rcases hg with y | y
          · exact y.2
          · exact absurd z y.1
        refine ⟨f, ?_⟩
        rw [rn_0 n]
        refine ⟨c2, c3, c4, ?_⟩
        show rI h' 141 5 = nI (min 10 (if k = 2 then wr T L q w else 0))
        rcases hk with hk | hk
        · rw [if_neg (by omega), c5, kw hk]
        · rw [if_pos hk, wr_0 (by rw [hk] at n; exact n)]; exact c5
      · obtain ⟨ql, qk⟩ : q < L ∧ kd (T q) = k := by
          rcases hg with y | y
          · exact absurd y.1 z
          · exact y.2
        rw [t'.2.1, c2, c3]
        refine ⟨fun y => absurd y (nI_ge ql (by omega)), fun _ => ?_⟩
        -- behind the number's step
        have after : ∀ (w' : Nat) (h2 : zHp), w' ≤ 99 → (k = 1 → w' = 0) → (k = 2 → w' = if 9 < w then w else 10 * w + ((T q).toNatClampNeg - 48)) → fT3 h h2 → rI h2 141 2 = nI q → rI h2 141 3 = nI k → rI h2 141 4 = nI (sk T L p) → rI h2 141 5 = nI (min 10 w') → zlV M_X3_advance 144 [some (.ref 141), some (.int g)] [] h2 (fun h2 => fT3 h h2 ∧ TC h2 (sk T L p, k, rn T L k q, if k = 2 then wr T L q w else 0)) := by
          intro w' h2 w1 w2 w3 f2 d2 d3 d4 d5
          have f3 : fT3 h (wI h2 141 2 (nI (q + 1))) := f2.tr (fT3.w (by omega))
          have fin : ∀ g' : Int32, (g' = 0 ∧ ¬ (q + 1 < L ∧ kd (T (q + 1)) = k)) ∨ (¬ g' = 0 ∧ q + 1 < L ∧ kd (T (q + 1)) = k) → zlV M_X3_advance 93 [some (.ref 141), some (.int g')] [] (wI h2 141 2 (nI (q + 1))) (fun h2 => fT3 h h2 ∧ TC h2 (sk T L p, k, rn T L k q, if k = 2 then wr T L q w else 0)) := by
            intro g' hg'
            have r := ih (q + 1) w' (wI h2 141 2 (nI (q + 1))) (by omega) (by omega) w1 f3 rI_s (by rw [rI_k (by decide)]; exact d3) (by rw [rI_k (by decide)]; exact d4) (by rw [rI_k (by decide)]; exact d5) w2 g' hg'
            rw [← rn_1 ql qk] at r
            have e1 : (if k = 2 then wr T L (q + 1) w' else 0) = (if k = 2 then wr T L q w else 0) := by
              by_cases y : k = 2
              · rw [if_pos y, if_pos y, wr_1 ql (by rw [qk, y]), w3 y]
              · rw [if_neg y, if_neg y]
            rw [e1] at r
            exact r
          have nx : zlV M_X3_advance 170 [some (.ref 141), some (.int g)] [] (wI h2 141 2 (nI (q + 1))) (fun h2 => fT3 h h2 ∧ TC h2 (sk T L p, k, rn T L k q, if k = 2 then wr T L q w else 0)) := by
            refine g_X3_advance_170 (zG_of f3.1 G) ?_
            rw [rI_s]
            refine zcI_use (s_X3_byteAt (zG_of f3.1 G) (f3.t t) (by omega)) ⟨zG_of f3.1 G, zcI_use (s_X3_kindOf (zG_of f3.1 G)) ⟨zG_of f3.1 G, ?_⟩⟩
            rw [rI_k (by decide), d3, kC_at ok]
            by_cases y : q + 1 < L
            · rw [if_pos y]
              have b5 : kd (T (q + 1)) ≤ 5 := by
                obtain ⟨mm, hm, em⟩ := byt (ok _ y)
                rw [em]; exact (byt_all mm hm).2.2.2.2
              refine ⟨fun x => fin 0 (Or.inl ⟨rfl, fun u => x (by rw [u.2])⟩), fun x => fin 1 (Or.inr ⟨by decide, y, (nI_eq (by omega) (by omega)).mp x⟩)⟩
            · rw [if_neg y]
              refine ⟨fun x => fin 0 (Or.inl ⟨rfl, fun u => y u.1⟩), fun x => ?_⟩
              rcases hk with hk | hk <;> rw [hk] at x <;> exact absurd x (by decide)
          refine g_X3_advance_144 (zG_of f2.1 G) ?_
          rw [d3, d2, nI_1]
          rcases hk with hk | hk
          · exact ⟨fun _ => nx, fun y => absurd (by rw [hk]; rfl) y⟩
          · exact ⟨fun _ => nx, fun _ => ⟨fun y => absurd (by rw [hk]; rfl) y, fun _ => nx⟩⟩
        refine ⟨fun y => after w h' hw kw (fun x => absurd (by rw [x]; rfl) y) f c2 c3 c4 c5, fun y => ?_⟩
        have k2 : k = 2 := (nI_eq (b := 2) (by rcases hk with z | z <;> omega) (by omega)).mp y
        refine zcI_use (s_X3_byteAt G' t' (by omega)) ⟨G', ?_⟩
        obtain ⟨mm, hm, em⟩ := byt (ok q ql)
        have b := byt_all mm hm
        have kk : kd (nI mm) = 2 := by rw [← em, qk, k2]
        obtain ⟨b1, b2, b3⟩ := b.2.2.1 kk
        have eb : bC T L q = nI mm := by unfold bC; rw [if_pos ql, em]; exact b1
        have et : (T q).toNatClampNeg = mm := by rw [em, nI_clamp (by omega)]
        rw [eb, c5]
        have en : nI (min 10 w) * 10 + nI mm - 48 = nI (min 10 w * 10 + (mm - 48)) := by
          rw [show (10 : Int32) = nI 10 from rfl, show (48 : Int32) = nI 48 from rfl, pk_mul, nI_add, pk_sub (by omega), show min 10 w * 10 + mm - 48 = min 10 w * 10 + (mm - 48) by omega]
        rw [en]
        refine after (if 9 < w then w else 10 * w + (mm - 48)) _ ?_ (fun x => by omega) (fun _ => by rw [et]) (f.tr (fT3.w (by omega))) (by rw [rI_k (by decide)]; exact c2) (by rw [rI_k (by decide)]; exact c3) (by rw [rI_k (by decide)]; exact c4) ?_
        · split <;> omega
        · rw [rI_s]
          by_cases x : nI (min 10 w * 10 + (mm - 48)) < 10
          · rw [if_pos x]
            have := (nI_ltI (b := 10) (by omega) (by omega)).mp x
            congr 1
            split <;> omega
          · rw [if_neg x]
            have : ¬ min 10 w * 10 + (mm - 48) < 10 := fun u => x (nI_lt (b := 10) u (by omega))
            show nI 10 = _
            congr 1
            split <;> omega
  -- behind the blanks
  have beg : ∀ h', fT3 h h' → rI h' 141 2 = nI (sk T L p) → ¬ (sk T L p < L ∧ T (sk T L p) = 32) → zlV M_X3_advance 37 [some (.ref 141), none] [] h' (fun h2 => fT3 h h2 ∧ TC h2 (Tk T L p)) := by
    intro h' f c2 nb
    have sb := (sk_b (T := T) (L - p) p rfl hp).2
    have G' := zG_of f.1 G
    refine g_X3_advance_37 G' ?_
    rw [(f.t t).2.1, c2]
    have f1 : fT3 h (wI h' 141 4 (nI (sk T L p))) := f.tr (fT3.w (by omega))
    have f3 : ∀ k : Nat, fT3 h (wI (wI (wI h' 141 4 (nI (sk T L p))) 141 3 (nI k)) 141 5 0) := fun k => (f1.tr (fT3.w (by omega))).tr (fT3.w (by omega))
    have q2 : ∀ k : Nat, rI (wI (wI (wI h' 141 4 (nI (sk T L p))) 141 3 (nI k)) 141 5 0) 141 2 = nI (sk T L p) := fun k => by rw [rI_k (by decide), rI_k (by decide), rI_k (by decide)]; exact c2
    have q3 : ∀ k : Nat, rI (wI (wI (wI h' 141 4 (nI (sk T L p))) 141 3 (nI k)) 141 5 0) 141 3 = nI k := fun k => by rw [rI_k (by decide), rI_s]
    have q4 : ∀ k : Nat, rI (wI (wI (wI h' 141 4 (nI (sk T L p))) 141 3 (nI k)) 141 5 0) 141 4 = nI (sk T L p) := fun k => by rw [rI_k (by decide), rI_k (by decide), rI_s]
    refine ⟨fun z => ?_, fun z => ?_⟩
    · have n : ¬ sk T L p < L := fun y => nI_ge y (by omega) z
      have eT : Tk T L p = (sk T L p, 0, sk T L p, 0) := by unfold Tk; rw [if_neg n]
      rw [eT]
      refine g_X3_advance_72 (zG_of f1.1 G) ⟨fun _ => ?_, fun y => absurd rfl y⟩
      refine g_X3_advance_93 (zG_of (f3 0).1 G) ⟨fun _ => ⟨f3 0, q2 0, q3 0, q4 0, rI_s⟩, fun y => absurd rfl y⟩
    · have sl : sk T L p < L := Nat.lt_of_not_le (fun y => z (nI_le y (by omega)))
      refine zcI_use (s_X3_byteAt (zG_of f1.1 G) (f1.t t) (by omega)) ⟨zG_of f1.1 G, zcI_use (s_X3_kindOf (zG_of f1.1 G)) ⟨zG_of f1.1 G, ?_⟩⟩
      rw [kC_at ok, if_pos sl]
      obtain ⟨mm, hm, em⟩ := byt (ok _ sl)
      have b := byt_all mm hm
      have k1 : 1 ≤ kd (T (sk T L p)) := by rw [em]; exact b.2.2.2.1
      have k5 : kd (T (sk T L p)) ≤ 5 := by rw [em]; exact b.2.2.2.2
      refine g_X3_advance_72 (zG_of f1.1 G) ⟨fun y => absurd y (nI_ne0 (by omega) (by omega)), fun _ => ?_⟩
      by_cases y1 : kd (T (sk T L p)) = 1
      · have eT : Tk T L p = (sk T L p, 1, rn T L 1 (sk T L p), 0) := by unfold Tk; rw [if_pos sl, if_pos y1]
        rw [eT, y1]
        have r := run 1 (Or.inl rfl) (L - sk T L p) (sk T L p) 0 _ rfl sb (by omega) (f3 1) (q2 1) (q3 1) (q4 1) rI_s (fun _ => rfl) 1 (Or.inr ⟨by decide, sl, y1⟩)
        exact r
      · by_cases y2 : kd (T (sk T L p)) = 2
        · have eT : Tk T L p = (sk T L p, 2, rn T L 2 (sk T L p), wr T L (sk T L p) 0) := by unfold Tk; rw [if_pos sl, if_neg y1, if_pos y2]
          rw [eT, y2]
          have r := run 2 (Or.inr rfl) (L - sk T L p) (sk T L p) 0 _ rfl sb (by omega) (f3 2) (q2 2) (q3 2) (q4 2) rI_s (fun _ => rfl) 1 (Or.inr ⟨by decide, sl, y2⟩)
          exact r
        · have eT : Tk T L p = (sk T L p, kd (T (sk T L p)), sk T L p + 1, 0) := by unfold Tk; rw [if_pos sl, if_neg y1, if_neg y2]
          rw [eT]
          generalize kd (T (sk T L p)) = kk at *
          refine g_X3_advance_93 (zG_of (f3 kk).1 G) ⟨fun y => absurd y (by decide), fun _ => ?_⟩
          rw [((f3 kk).t t).2.1, q2, q3]
          refine ⟨fun y => absurd y z, fun _ => ⟨fun _ => ?_, fun y => absurd ((nI_eq (b := 2) (by omega) (by omega)).mp y) y2⟩⟩
          have f4 : fT3 h (wI (wI (wI (wI h' 141 4 (nI (sk T L p))) 141 3 (nI kk)) 141 5 0) 141 2 (nI (sk T L p + 1))) := (f3 kk).tr (fT3.w (by omega))
          refine g_X3_advance_144 (zG_of (f3 kk).1 G) ?_
          rw [q2, q3, nI_1]
          refine ⟨fun y => absurd ((nI_eq (b := 1) (by omega) (by omega)).mp y) y1, fun _ => ⟨fun _ => ?_, fun y => absurd ((nI_eq (b := 2) (by omega) (by omega)).mp y) y2⟩⟩
          refine g_X3_advance_93 (zG_of f4.1 G) ⟨fun _ => ⟨f4, rI_s, ?_, ?_, ?_⟩, fun y => absurd rfl y⟩
          · rw [rI_k (by decide)]; exact q3 kk
          · rw [rI_k (by decide)]; exact q4 kk
          · rw [rI_k (by decide), rI_s]; rfl
  -- blanks
  have bl : ∀ (m q : Nat) (h' : zHp), L - q = m → q ≤ L → sk T L q = sk T L p → fT3 h h' → rI h' 141 2 = nI q → zcV M_X3_advance [.ref 141] h' (fun h2 => fT3 h h2 ∧ TC h2 (Tk T L p)) := by
    intro m
    induction m with
    | zero =>
      intro q h' hm hq es f c2
      have n : ¬ (q < L ∧ T q = 32) := by omega
      have e0 : q = sk T L p := by rw [← es, sk_0 n]
      refine g_X3_advance (zG_of f.1 G) ?_
      rw [(f.t t).2.1, c2]
      refine ⟨fun _ => beg h' f (by rw [c2, e0]) (by rw [← e0]; exact n), fun z => absurd (nI_le (by omega) (by omega)) z⟩
    | succ m ih =>
      intro q h' hm hq es f c2
      have G' := zG_of f.1 G
      refine g_X3_advance G' ?_
      rw [(f.t t).2.1, c2]
      refine ⟨fun z => absurd z (nI_ge (by omega) (by omega)), fun _ => ?_⟩
      refine zcI_use (s_X3_byteAt G' (f.t t) (by omega)) ⟨G', ?_⟩
      have eb : bC T L q = (T q).toInt8.toInt32 := by unfold bC; rw [if_pos (by omega)]
      obtain ⟨mm, hm', em⟩ := byt (ok q (by omega))
      have b := (byt_all mm hm').2.1
      rw [eb, c2]
      refine ⟨fun z => ?_, fun z => ?_⟩
      · have n : ¬ (q < L ∧ T q = 32) := fun y => z (by have := y.2; rw [em] at this ⊢; exact b.mpr this)
        have e0 : q = sk T L p := by rw [← es, sk_0 n]
        exact beg h' f (by rw [c2, e0]) (by rw [← e0]; exact n)
      · have y : T q = 32 := by rw [em] at z ⊢; exact b.mp z
        rw [nI_1]
        exact ih (q + 1) _ (by omega) (by omega) (by rw [← es, sk_1 (by omega) y]) (f.tr (fT3.w (by omega))) rI_s
  exact bl (L - p) p h rfl hp rfl fT3.rf e

