/-! the way of wounds through the rules -/
/-- where they are, how many are left, whether they heal, the rules used, what each kept off, how many rules -/
abbrev Wst : Type := Nat × Int32 × Int32 × Int32 × zN × Nat
def mnI (a b : Int32) : Int32 := if a ≤ b then a else b
noncomputable def Ws (N : zN) (r : Nat) (s : Wst) : Wst :=
  (if N (150 + 4 * r) = 3 then (N (150 + 4 * r + 3)).toNatClampNeg else s.1,
   if N (150 + 4 * r) = 0 then s.2.1 - mnI s.2.1 (N (150 + 4 * r + 3)) else if N (150 + 4 * r) = 1 then s.2.1 - s.2.1 / 2 else if N (150 + 4 * r) = 2 then (if 2 * s.2.1 ≤ 999 then 2 * s.2.1 else 999) else s.2.1,
   if N (150 + 4 * r) = 0 ∨ N (150 + 4 * r) = 1 ∨ N (150 + 4 * r) = 2 ∨ N (150 + 4 * r) = 3 then s.2.2.1 else 1,
   s.2.2.2.1 ||| ((1 : Int32) <<< (nI r &&& 31)),
   upd s.2.2.2.2.1 r (if N (150 + 4 * r) = 0 then mnI s.2.1 (N (150 + 4 * r + 3)) else 0),
   s.2.2.2.2.2 + 1)
noncomputable def Wy (N L : zN) : Nat → Wst → Wst
  | 0, s => s
  | m + 1, s => @ite _ (¬ s.2.1 ≤ 0 ∧ s.2.2.1 = 0 ∧ ¬ Pk N L s.2.2.2.1 s.1 (cR N) = -1) (Classical.propDecidable _) (Wy N L m (Ws N (Pk N L s.2.2.2.1 s.1 (cR N)).toNatClampNeg s)) s
theorem Wy_1 {N L : zN} {m : Nat} {s : Wst} (h : ¬ s.2.1 ≤ 0 ∧ s.2.2.1 = 0 ∧ ¬ Pk N L s.2.2.2.1 s.1 (cR N) = -1) : Wy N L (m + 1) s = Wy N L m (Ws N (Pk N L s.2.2.2.1 s.1 (cR N)).toNatClampNeg s) := by rw [Wy, if_pos h]
theorem Wy_0 {N L : zN} {m : Nat} {s : Wst} (h : ¬ (¬ s.2.1 ≤ 0 ∧ s.2.2.1 = 0 ∧ ¬ Pk N L s.2.2.2.1 s.1 (cR N) = -1)) : Wy N L m s = s := by
  cases m with
  | zero => rfl
  | succ m => rw [Wy, if_neg h]
theorem mnI_lt {a b : Int32} : (if a < b then a else b) = mnI a b := by
  unfold mnI
  by_cases q : a < b
  · rw [if_pos q, if_pos (Int32.le_of_lt q)]
  · rw [if_neg q]
    by_cases q2 : a ≤ b
    · rw [if_pos q2, Int32.le_antisymm q2 (Int32.not_lt.mp q)]
    · rw [if_neg q2]
theorem dbl {a : Int32} : (if a * 2 < (999 : Int32) then a * 2 else 999) = if 2 * a ≤ 999 then 2 * a else 999 := by
  rw [Int32.mul_comm a 2]
  exact mnI_lt
/-- owners are two -/
def WO (N : zN) : Prop := ∀ t, t < cT N → N (10 * t) = 0 ∨ N (10 * t) = 1
theorem AlI_ex {N : zN} {x : Int32} (hC : CN N) (h : AlI N x) : ∃ t, t < cT N ∧ x = nI t ∧ Al N t := by
  have h8 := hC.1.2
  have h1 := h.1
  rw [hC.1.1] at h1
  obtain ⟨t, a, b⟩ := zsm (by omega) h1
  refine ⟨t, a, b, ?_⟩
  subst b
  exact (AlI_n hC a).mp h
/-- where wounds are, there is a thing -/
theorem Ws_at {N L : zN} {us : Int32} {r : Nat} {s : Wst} (hC : CN N) (h : Rl N L us s.1 r) (h1 : s.1 < cT N) (h2 : Al N s.1) : (Ws N r s).1 < cT N ∧ Al N (Ws N r s).1 ∧ (N (150 + 4 * r) = 3 → N (150 + 4 * r + 3) = nI (Ws N r s).1) := by
  unfold Ws
  dsimp only
  by_cases q : N (150 + 4 * r) = 3
  · rw [if_pos q]
    obtain ⟨t, a, b, c⟩ := AlI_ex hC (h.2.2 q).2
    have h8 := hC.1.2
    rw [b, nI_clamp (by omega)]
    exact ⟨a, c, fun _ => rfl⟩
  · rw [if_neg q]
    exact ⟨h1, h2, fun z => absurd z q⟩
theorem g_X9_meet {c0 : Nat} {c1 : Nat} {x2 : Int32} {h : zHp} {Q : zHp → Prop} (hc0 : zUo c0) (hc1 : ly c1 = 5) (G : zG h) (F : vp_in x2 8 ∧ ((rI h c1 0 = 0 → (Q (wI (wI (wI h (c0 + 1) ((Int32.toNatClampNeg x2)) 0) (c0 + 1) ((Int32.toNatClampNeg x2)) (if rI h c0 1 < rI h c1 3 then rI h c0 1 else rI h c1 3)) c0 1 ((rI h c0 1) - (if rI h c0 1 < rI h c1 3 then rI h c0 1 else rI h c1 3))))) ∧ (¬ rI h c1 0 = 0 → ((rI h c1 0 = 1 → (Q (wI (wI h (c0 + 1) ((Int32.toNatClampNeg x2)) 0) c0 1 ((rI h c0 1) - ((rI h c0 1) / 2))))) ∧ (¬ rI h c1 0 = 1 → ((rI h c1 0 = 2 → (Q (wI (wI h (c0 + 1) ((Int32.toNatClampNeg x2)) 0) c0 1 (if (rI h c0 1) * 2 < (999 : Int32) then (rI h c0 1) * 2 else 999)))) ∧ (¬ rI h c1 0 = 2 → ((rI h c1 0 = 3 → (Q (wI (wI h (c0 + 1) ((Int32.toNatClampNeg x2)) 0) c0 0 (rI h c1 3)))) ∧ (¬ rI h c1 0 = 3 → (Q (wI (wI h (c0 + 1) ((Int32.toNatClampNeg x2)) 0) c0 2 1))))))))))) : zcV M_X9_meet [.ref c0, .ref c1, .int x2] h Q := by
  show zw zNT zNT M_X9_meet 0 [some (.ref c0), some (.ref c1), some (.int x2)] [] h _
  refine z_aload_n (pc := 0) dX9_meet_0 rfl rfl ?_
  refine q_getR (pc := 1) (i := c0 + 1) dX9_meet_1 lk_RX9_9 (lyUo0 hc0) (grUo4 G hc0) ?_
  refine z_iload_n (pc := 4) dX9_meet_4 rfl rfl ?_
  refine z_iconst (pc := 5) (v := 0) dX9_meet_5 (by decide) ?_
  obtain ⟨k1, F⟩ := F
  refine q_iast (pc := 6) (j := (Int32.toNatClampNeg x2)) dX9_meet_6 (lyUo1 hc0) (zvn (lnUo1 hc0) k1) rfl ?_
  refine z_aload_n (pc := 7) dX9_meet_7 rfl rfl ?_
  refine q_getI (pc := 8) (v := rI h c1 0) dX9_meet_8 lk_RX9_62 hc1 (rI_c (zne hc1 (lyUo1 hc0) (by decide))) ?_
  by_cases k2 : rI h c1 0 = 0
  · replace F := F.1 k2
    refine z_tableIn (pc := 11) (x := rI h c1 0) (tgt := 40) (off := 29) dX9_meet_11 (by rw [k2]; decide) (by rw [k2]; decide) (by rw [k2]; decide) (by decide) ?_
    refine z_aload_n (pc := 40) dX9_meet_40 rfl rfl ?_
    refine q_getR (pc := 41) (i := c0 + 1) dX9_meet_41 lk_RX9_9 (lyUo0 hc0) (grUo4 G hc0) ?_
    refine z_iload_n (pc := 44) dX9_meet_44 rfl rfl ?_
    refine z_aload_n (pc := 45) dX9_meet_45 rfl rfl ?_
    refine q_getI (pc := 46) (v := rI h c1 3) dX9_meet_46 lk_RX9_67 hc1 (rI_c (zne hc1 (lyUo1 hc0) (by decide))) ?_
    refine z_aload_n (pc := 49) dX9_meet_49 rfl rfl ?_
    refine q_getI (pc := 50) (v := rI h c0 1) dX9_meet_50 lk_RX9_19 (lyUo0 hc0) (rI_c (zne (lyUo0 hc0) (lyUo1 hc0) (by decide))) ?_
    refine z_min (pc := 53) dX9_meet_53 ⟨pl_RX9_82, pw_minS, pw_Math, pw_minC⟩ (zcat_of rfl) ⟨Nat.le_of_ble_eq_true rfl, Nat.le_of_ble_eq_true rfl⟩ ?_
    refine q_iast (pc := 56) (j := (Int32.toNatClampNeg x2)) dX9_meet_56 (lyUo1 hc0) (zvn (lnUo1 hc0) k1) rfl ?_
    refine z_aload_n (pc := 57) dX9_meet_57 rfl rfl ?_
    refine z_dup (pc := 58) dX9_meet_58 rfl ?_
    refine q_getI (pc := 59) (v := rI h c0 1) dX9_meet_59 lk_RX9_19 (lyUo0 hc0) ((rI_c (zne (lyUo0 hc0) (lyUo1 hc0) (by decide))).trans (rI_c (zne (lyUo0 hc0) (lyUo1 hc0) (by decide)))) ?_
    refine z_aload_n (pc := 62) dX9_meet_62 rfl rfl ?_
    refine q_getR (pc := 63) (i := c0 + 1) dX9_meet_63 lk_RX9_9 (lyUo0 hc0) (grUo4 G hc0) ?_
    refine z_iload_n (pc := 66) dX9_meet_66 rfl rfl ?_
    refine q_iald (pc := 67) (j := (Int32.toNatClampNeg x2)) (v := if rI h c0 1 < rI h c1 3 then rI h c0 1 else rI h c1 3) dX9_meet_67 (lyUo1 hc0) (zvn (lnUo1 hc0) k1) rfl rI_s ?_
    refine z_isub (pc := 68) dX9_meet_68 ?_
    refine q_putI (pc := 69) dX9_meet_69 lk_RX9_19 (lyUo0 hc0) ?_
    refine z_goto (pc := 72) (tgt := 128) dX9_meet_72 (by decide) ?_
    exact q_retV (pc := 128) dX9_meet_128 rfl F
  · replace F := F.2 k2
    by_cases k3 : rI h c1 0 = 1
    · replace F := F.1 k3
      refine z_tableIn (pc := 11) (x := rI h c1 0) (tgt := 75) (off := 64) dX9_meet_11 (by rw [k3]; decide) (by rw [k3]; decide) (by rw [k3]; decide) (by decide) ?_
      refine z_aload_n (pc := 75) dX9_meet_75 rfl rfl ?_
      refine z_dup (pc := 76) dX9_meet_76 rfl ?_
      refine q_getI (pc := 77) (v := rI h c0 1) dX9_meet_77 lk_RX9_19 (lyUo0 hc0) (rI_c (zne (lyUo0 hc0) (lyUo1 hc0) (by decide))) ?_
      refine z_aload_n (pc := 80) dX9_meet_80 rfl rfl ?_
      refine q_getI (pc := 81) (v := rI h c0 1) dX9_meet_81 lk_RX9_19 (lyUo0 hc0) (rI_c (zne (lyUo0 hc0) (lyUo1 hc0) (by decide))) ?_
      refine z_iconst (pc := 84) (v := 2) dX9_meet_84 (by decide) ?_
      refine z_idiv (pc := 85) dX9_meet_85 (by decide) ?_
      refine z_isub (pc := 86) dX9_meet_86 ?_
      refine q_putI (pc := 87) dX9_meet_87 lk_RX9_19 (lyUo0 hc0) ?_
      refine z_goto (pc := 90) (tgt := 128) dX9_meet_90 (by decide) ?_
      exact q_retV (pc := 128) dX9_meet_128 rfl F
    · replace F := F.2 k3
      by_cases k4 : rI h c1 0 = 2
      · replace F := F.1 k4
        refine z_tableIn (pc := 11) (x := rI h c1 0) (tgt := 93) (off := 82) dX9_meet_11 (by rw [k4]; decide) (by rw [k4]; decide) (by rw [k4]; decide) (by decide) ?_
        refine z_aload_n (pc := 93) dX9_meet_93 rfl rfl ?_
        refine z_sipush (pc := 94) (v := 999) dX9_meet_94 (by decide) ?_
        refine z_aload_n (pc := 97) dX9_meet_97 rfl rfl ?_
        refine q_getI (pc := 98) (v := rI h c0 1) dX9_meet_98 lk_RX9_19 (lyUo0 hc0) (rI_c (zne (lyUo0 hc0) (lyUo1 hc0) (by decide))) ?_
        refine z_iconst (pc := 101) (v := 2) dX9_meet_101 (by decide) ?_
        refine z_imul (pc := 102) dX9_meet_102 ?_
        refine z_min (pc := 103) dX9_meet_103 ⟨pl_RX9_82, pw_minS, pw_Math, pw_minC⟩ (zcat_of rfl) ⟨Nat.le_of_ble_eq_true rfl, Nat.le_of_ble_eq_true rfl⟩ ?_
        refine q_putI (pc := 106) dX9_meet_106 lk_RX9_19 (lyUo0 hc0) ?_
        refine z_goto (pc := 109) (tgt := 128) dX9_meet_109 (by decide) ?_
        exact q_retV (pc := 128) dX9_meet_128 rfl F
      · replace F := F.2 k4
        by_cases k5 : rI h c1 0 = 3
        · replace F := F.1 k5
          refine z_tableIn (pc := 11) (x := rI h c1 0) (tgt := 112) (off := 101) dX9_meet_11 (by rw [k5]; decide) (by rw [k5]; decide) (by rw [k5]; decide) (by decide) ?_
          refine z_aload_n (pc := 112) dX9_meet_112 rfl rfl ?_
          refine z_aload_n (pc := 113) dX9_meet_113 rfl rfl ?_
          refine q_getI (pc := 114) (v := rI h c1 3) dX9_meet_114 lk_RX9_67 hc1 (rI_c (zne hc1 (lyUo1 hc0) (by decide))) ?_
          refine q_putI (pc := 117) dX9_meet_117 lk_RX9_15 (lyUo0 hc0) ?_
          refine z_goto (pc := 120) (tgt := 128) dX9_meet_120 (by decide) ?_
          exact q_retV (pc := 128) dX9_meet_128 rfl F
        · replace F := F.2 k5
          have hz0 := q_sw (0) k2 (by decide)
          have hz1 := q_sw (1) k3 (by decide)
          have hz2 := q_sw (2) k4 (by decide)
          have hz3 := q_sw (3) k5 (by decide)
          refine z_tableOut (pc := 11) (tgt := 123) dX9_meet_11 (by omega) (by decide) ?_
          refine z_aload_n (pc := 123) dX9_meet_123 rfl rfl ?_
          refine z_iconst (pc := 124) (v := 1) dX9_meet_124 (by decide) ?_
          refine q_putB (pc := 125) dX9_meet_125 lk_RX9_22 (lyUo0 hc0) (Or.inr rfl) ?_
          exact q_retV (pc := 128) dX9_meet_128 rfl F
theorem g_X9_follow {c0 : Nat} {c1 : Nat} {c2 : Nat} {x3 : Int32} {x4 : Int32} {h : zHp} {Q : zHp → Prop} (hc0 : zUo c0) (hc1 : zW c1) (hc2 : zLo c2) (G : zG h) (F : zlV M_X9_follow 24 [some (.ref c0), some (.ref c1), some (.ref c2), some (.int x3), some (.int x4), some (.int 0), none] [] (wI (wI (wI (wI h c0 0 x3) c0 1 x4) c0 2 0) c0 3 0) Q) : zcV M_X9_follow [.ref c0, .ref c1, .ref c2, .int x3, .int x4] h Q := by
  show zw zNT zNT M_X9_follow 0 [some (.ref c0), some (.ref c1), some (.ref c2), some (.int x3), some (.int x4), none, none] [] h _
  refine z_aload_n (pc := 0) dX9_follow_0 rfl rfl ?_
  refine z_iload_n (pc := 1) dX9_follow_1 rfl rfl ?_
  refine q_putI (pc := 2) dX9_follow_2 lk_RX9_15 (lyUo0 hc0) ?_
  refine z_aload_n (pc := 5) dX9_follow_5 rfl rfl ?_
  refine z_iload (pc := 6) dX9_follow_6 rfl ?_
  refine q_putI (pc := 8) dX9_follow_8 lk_RX9_19 (lyUo0 hc0) ?_
  refine z_aload_n (pc := 11) dX9_follow_11 rfl rfl ?_
  refine z_iconst (pc := 12) (v := 0) dX9_follow_12 (by decide) ?_
  refine q_putB (pc := 13) dX9_follow_13 lk_RX9_22 (lyUo0 hc0) (Or.inl rfl) ?_
  refine z_aload_n (pc := 16) dX9_follow_16 rfl rfl ?_
  refine z_iconst (pc := 17) (v := 0) dX9_follow_17 (by decide) ?_
  refine q_putI (pc := 18) dX9_follow_18 lk_RX9_26 (lyUo0 hc0) ?_
  refine z_iconst (pc := 21) (v := 0) dX9_follow_21 (by decide) ?_
  refine z_istore (pc := 22) (ls' := [some (.ref c0), some (.ref c1), some (.ref c2), some (.int x3), some (.int x4), some (.int 0), none]) dX9_follow_22 (by decide) rfl ?_
  exact F
theorem g_X9_follow_24 {c0 : Nat} {c1 : Nat} {c2 : Nat} {x3 : Int32} {x4 : Int32} {x5 : Int32} {h : zHp} {Q : zHp → Prop} (hc0 : zUo c0) (hc1 : zW c1) (hc2 : zLo c2) (G : zG h) (F : (8 ≤ x5 → (Q h)) ∧ (¬ (8 ≤ x5) → ((rI h c0 1 ≤ 0 → (Q h)) ∧ (¬ (rI h c0 1 ≤ 0) → ((¬ rI h c0 2 = 0 → (Q h)) ∧ (rI h c0 2 = 0 → (zcI M_X9_pickRule [.ref c0, .ref c1, .ref c2] h (fun vh1 h1 => zG h1 ∧ ((¬ vh1 = -1 → (vp_in vh1 8 ∧ (zRef h1 (c1 + 3) ((Int32.toNatClampNeg vh1)) 5 ∧ (zcV M_X9_meet [.ref c0, .ref (rG h1 (c1 + 3) ((Int32.toNatClampNeg vh1))), .int vh1] (wI h1 c0 3 ((rI h1 c0 3) ||| (1 <<< (vh1 &&& 31)))) (fun h2 => zG h2 ∧ (zlV M_X9_follow 24 [some (.ref c0), some (.ref c1), some (.ref c2), some (.int x3), some (.int x4), some (.int (x5 + 1)), none] [] h2 Q)))))) ∧ (vh1 = -1 → (Q h1))))))))))) : zlV M_X9_follow 24 [some (.ref c0), some (.ref c1), some (.ref c2), some (.int x3), some (.int x4), some (.int x5), none] [] h Q := by
  refine z_iload (pc := 24) dX9_follow_24 rfl ?_
  refine z_bipush (pc := 26) (v := 8) dX9_follow_26 (by decide) ?_
  refine z_icmp_ge (pc := 28) (tgt := 92) dX9_follow_28 (by decide) (fun k8 => ?_) (fun k8 => ?_)
  · replace F := F.1 k8
    exact q_retV (pc := 92) dX9_follow_92 rfl F
  · replace F := F.2 k8
    refine z_aload_n (pc := 31) dX9_follow_31 rfl rfl ?_
    refine q_getI (pc := 32) (v := rI h c0 1) dX9_follow_32 lk_RX9_19 (lyUo0 hc0) rfl ?_
    refine z_if_le (pc := 35) (tgt := 92) dX9_follow_35 (by decide) (fun k7 => ?_) (fun k7 => ?_)
    · replace F := F.1 k7
      exact q_retV (pc := 92) dX9_follow_92 rfl F
    · replace F := F.2 k7
      refine z_aload_n (pc := 38) dX9_follow_38 rfl rfl ?_
      refine q_getI (pc := 39) (v := rI h c0 2) dX9_follow_39 lk_RX9_22 (lyUo0 hc0) rfl ?_
      refine z_if_ne (pc := 42) (tgt := 92) dX9_follow_42 (by decide) (fun k6 => ?_) (fun k6 => ?_)
      · replace F := F.1 k6
        exact q_retV (pc := 92) dX9_follow_92 rfl F
      · replace F := F.2 k6
        refine z_aload_n (pc := 45) dX9_follow_45 rfl rfl ?_
        refine z_aload_n (pc := 46) dX9_follow_46 rfl rfl ?_
        refine z_aload_n (pc := 47) dX9_follow_47 rfl rfl ?_
        refine q_invV (pc := 48) (As := [.ref c1, .ref c2]) (st := []) dX9_follow_48 ok_X9_pickRule ml_RX9_29 iv_X9_pickRule pa_X9_pickRule ⟨Nat.le_of_ble_eq_true rfl, Nat.le_of_ble_eq_true rfl⟩ (lyUo0 hc0) (q_kI F (fun vh1 h1 F => ?_))
        obtain ⟨G1, F⟩ := F
        refine z_istore (pc := 51) (ls' := [some (.ref c0), some (.ref c1), some (.ref c2), some (.int x3), some (.int x4), some (.int x5), some (.int vh1)]) dX9_follow_51 (by decide) rfl ?_
        refine z_iload (pc := 53) dX9_follow_53 rfl ?_
        refine z_iconst (pc := 55) (v := -1) dX9_follow_55 (by decide) ?_
        refine z_icmp_ne (pc := 56) (tgt := 60) dX9_follow_56 (by decide) (fun k5 => ?_) (fun k5 => ?_)
        · replace F := F.1 k5
          refine z_aload_n (pc := 60) dX9_follow_60 rfl rfl ?_
          refine z_dup (pc := 61) dX9_follow_61 rfl ?_
          refine q_getI (pc := 62) (v := rI h1 c0 3) dX9_follow_62 lk_RX9_26 (lyUo0 hc0) rfl ?_
          refine z_iconst (pc := 65) (v := 1) dX9_follow_65 (by decide) ?_
          refine z_iload (pc := 66) dX9_follow_66 rfl ?_
          refine z_ishl (pc := 68) dX9_follow_68 ?_
          refine z_ior (pc := 69) dX9_follow_69 ?_
          refine q_putI (pc := 70) dX9_follow_70 lk_RX9_26 (lyUo0 hc0) ?_
          refine z_aload_n (pc := 73) dX9_follow_73 rfl rfl ?_
          refine z_aload_n (pc := 74) dX9_follow_74 rfl rfl ?_
          refine q_getR (pc := 75) (i := c1 + 3) dX9_follow_75 lk_RX9_33 (lyW0 hc1) (grW4 G1 hc1) ?_
          refine z_iload (pc := 78) dX9_follow_78 rfl ?_
          obtain ⟨k2, F⟩ := F
          obtain ⟨k3, F⟩ := F
          refine q_aald (pc := 80) (j := (Int32.toNatClampNeg vh1)) (r := rG h1 (c1 + 3) ((Int32.toNatClampNeg vh1))) (t := 2) dX9_follow_80 (lyW3 hc1) (zvn (lnW3 hc1) k2) rfl k3.1 ?_
          refine z_iload (pc := 81) dX9_follow_81 rfl ?_
          refine q_invV (pc := 83) (As := [.ref (rG h1 (c1 + 3) ((Int32.toNatClampNeg vh1))), .int vh1]) (st := []) dX9_follow_83 ok_X9_meet ml_RX9_39 iv_X9_meet pa_X9_meet ⟨Nat.le_of_ble_eq_true rfl, Nat.le_of_ble_eq_true rfl⟩ (lyUo0 hc0) (q_kV F (fun h2 F => ?_))
          obtain ⟨G2, F⟩ := F
          refine z_iinc (pc := 86) (v := x5 + 1) (ls' := [some (.ref c0), some (.ref c1), some (.ref c2), some (.int x3), some (.int x4), some (.int (x5 + 1)), some (.int vh1)]) dX9_follow_86 (by decide) rfl rfl rfl ?_
          refine z_goto (pc := 89) (tgt := 24) dX9_follow_89 (by decide) ?_
          exact q_sub (ls' := [some (.ref c0), some (.ref c1), some (.ref c2), some (.int x3), some (.int x4), some (.int (x5 + 1)), none]) ⟨rfl, rfl, rfl, rfl, rfl, rfl, trivial⟩ F
        · replace F := F.2 k5
          exact q_retV (pc := 59) dX9_follow_59 rfl F
def fU (U : Nat) (h h' : zHp) : Prop := h'.2 = h.2 ∧ ∀ a, a ≠ U → a ≠ U + 1 → h'.1 a = h.1 a
theorem fU.rw {U B : Nat} {h h' : zHp} {N : zN} (f : fU U h h') (hU : zUo U) (hB : zW B) (hP : PW h B) (hC : CN N) (hR : RW h B N) : RW h' B N :=
  RW_of f.1 (fun a h1 h2 => f.2 a (by rcases hU with z | z <;> rcases hB with y | y | y <;> omega) (by rcases hU with z | z <;> rcases hB with y | y | y <;> omega)) hP hC hR
theorem fU.vl {U K : Nat} {h h' : zHp} (f : fU U h h') (hU : zUo U) (hK : zLo K) : VL h' K = VL h K :=
  VL_of (fun a h1 h2 => f.2 a (by rcases hU with z | z <;> rcases hK with y | y <;> omega) (by rcases hU with z | z <;> rcases hK with y | y <;> omega))
/-- the class's wound stands as s -/
def WC (h : zHp) (U : Nat) (s : Wst) : Prop := rI h U 0 = nI s.1 ∧ rI h U 1 = s.2.1 ∧ rI h U 2 = s.2.2.1 ∧ rI h U 3 = s.2.2.2.1 ∧ ∀ r, r < 8 → bi s.2.2.2.1 (nI r) → rI h (U + 1) r = s.2.2.2.2.1 r
theorem s_X9_meet {U c r : Nat} {us : Int32} {L N : zN} {h : zHp} {s : Wst} (G : zG h) (hU : zUo U) (hC : CN N) (hc : ly c = 5) (hcU : c ≠ U) (hcV : c ≠ U + 1) (hr : r < 8) (w0 : rI h c 0 = N (150 + 4 * r)) (w3 : rI h c 3 = N (150 + 4 * r + 3)) (hs : WC h U s) (ok : Rl N L us s.1 r) (h1 : s.1 < cT N) (h2 : Al N s.1) : zcV M_X9_meet [.ref U, .ref c, .int (nI r)] (wI h U 3 (s.2.2.2.1 ||| ((1 : Int32) <<< (nI r &&& 31)))) (fun h' => fU U h h' ∧ WC h' U (Ws N r s)) := by
  obtain ⟨a0, a1, a2, a3, a4⟩ := hs
  have at3 := (Ws_at hC ok h1 h2).2.2
  refine g_X9_meet hU hc (zG_of rfl G) ?_
  have x0 : rI (wI h U 3 (s.2.2.2.1 ||| ((1 : Int32) <<< (nI r &&& 31)))) c 0 = N (150 + 4 * r) := by rw [rI_c hcU, w0]
  have x3 : rI (wI h U 3 (s.2.2.2.1 ||| ((1 : Int32) <<< (nI r &&& 31)))) c 3 = N (150 + 4 * r + 3) := by rw [rI_c hcU, w3]
  have x1 : rI (wI h U 3 (s.2.2.2.1 ||| ((1 : Int32) <<< (nI r &&& 31)))) U 1 = s.2.1 := by rw [rI_k (by decide), a1]
  rw [x0, x3, x1, mnI_lt, dbl, nI_clamp (by omega)]
  have bits : ∀ q, q < 8 → bi (s.2.2.2.1 ||| ((1 : Int32) <<< (nI r &&& 31))) (nI q) → q = r ∨ bi s.2.2.2.1 (nI q) := by
    intro q hq hb
    rcases (bi_or (by omega)).mp hb with z | z
    · exact Or.inr z
    · exact Or.inl ((bi_pw (by omega) (by omega)).mp z)
  have key : ∀ (v x : Int32) (k : Nat) (h' : zHp), h'.2 = h.2 → (∀ a, a ≠ U → a ≠ U + 1 → h'.1 a = h.1 a) → (∀ j, j ≠ k → rI h' U j = rI (wI h U 3 (s.2.2.2.1 ||| ((1 : Int32) <<< (nI r &&& 31)))) U j) → rI h' U k = v → (∀ j, j ≠ r → rI h' (U + 1) j = rI h (U + 1) j) → rI h' (U + 1) r = x → k < 3 → nI (Ws N r s).1 = (if k = 0 then v else nI s.1) → (Ws N r s).2.1 = (if k = 1 then v else s.2.1) → (Ws N r s).2.2.1 = (if k = 2 then v else s.2.2.1) → x = (if N (150 + 4 * r) = 0 then mnI s.2.1 (N (150 + 4 * r + 3)) else 0) → fU U h h' ∧ WC h' U (Ws N r s) := by
    intro v x k h' f1 f2 u1 u2 u3 u4 hk g0 g1 g2 g4
    have get : ∀ j, j < 3 → rI h' U j = if k = j then v else rI h U j := by
      intro j hj
      by_cases z : k = j
      · rw [if_pos z, ← z, u2]
      · rw [if_neg z, u1 j (fun y => z y.symm), rI_k (by omega)]
    refine ⟨⟨f1, f2⟩, ?_, ?_, ?_, ?_, fun q hq hb => ?_⟩
    · rw [get 0 (by omega), g0, a0]
    · rw [get 1 (by omega), g1, a1]
    · rw [get 2 (by omega), g2, a2]
    · rw [u1 3 (by omega), rI_s]
      rfl
    · change _ = upd s.2.2.2.2.1 r _ q
      unfold upd
      by_cases z : q = r
      · rw [if_pos z, z, u4, g4]
      · rw [if_neg z, u3 q z]
        exact a4 q hq ((bits q hq hb).resolve_left z)
  have UU : U + 1 ≠ U := by omega
  have fr : ∀ (v x y : Int32) (k : Nat) (a : Nat), a ≠ U → a ≠ U + 1 → (wI (wI (wI (wI h U 3 y) (U + 1) r 0) (U + 1) r x) U k v).1 a = h.1 a := fun v x y k a z1 z2 => by rw [wI_ne z1, wI_ne z2, wI_ne z2, wI_ne z1]
  have fr1 : ∀ (v y : Int32) (k : Nat) (a : Nat), a ≠ U → a ≠ U + 1 → (wI (wI (wI h U 3 y) (U + 1) r 0) U k v).1 a = h.1 a := fun v y k a z1 z2 => by rw [wI_ne z1, wI_ne z2, wI_ne z1]
  have gen1 : ∀ (v : Int32) (k : Nat), k < 3 → nI (Ws N r s).1 = (if k = 0 then v else nI s.1) → (Ws N r s).2.1 = (if k = 1 then v else s.2.1) → (Ws N r s).2.2.1 = (if k = 2 then v else s.2.2.1) → ¬ N (150 + 4 * r) = 0 → fU U h (wI (wI (wI h U 3 (s.2.2.2.1 ||| ((1 : Int32) <<< (nI r &&& 31)))) (U + 1) r 0) U k v) ∧ WC (wI (wI (wI h U 3 (s.2.2.2.1 ||| ((1 : Int32) <<< (nI r &&& 31)))) (U + 1) r 0) U k v) U (Ws N r s) := by
    intro v k hk g0 g1 g2 n0
    refine key v 0 k _ rfl (fr1 _ _ _) (fun j hj => by rw [rI_k hj, rI_c (Ne.symm UU)]) rI_s (fun j hj => by rw [rI_c UU, rI_k hj, rI_c UU]) (by rw [rI_c UU, rI_s]) hk g0 g1 g2 (by rw [if_neg n0])
  refine ⟨vp_in_nI (by omega) (by omega), fun q => ?_, fun q => ⟨fun q1 => ?_, fun q1 => ⟨fun q2 => ?_, fun q2 => ⟨fun q3 => ?_, fun q3 => ?_⟩⟩⟩⟩
  · refine key _ _ 1 _ rfl (fr _ _ _ _) (fun j hj => by rw [rI_k hj, rI_c (Ne.symm UU), rI_c (Ne.symm UU)]) rI_s (fun j hj => by rw [rI_c UU, rI_k hj, rI_k hj, rI_c UU]) (by rw [rI_c UU, rI_s]) (by decide) ?_ ?_ ?_ (by rw [if_pos q])
    · unfold Ws; dsimp only; rw [if_neg (by rw [q]; decide), if_neg (by decide)]
    · unfold Ws; dsimp only; rw [if_pos q, if_pos rfl]
    · unfold Ws; dsimp only; rw [if_pos (Or.inl q), if_neg (by decide)]
  · refine gen1 _ 1 (by decide) ?_ ?_ ?_ q
    · unfold Ws; dsimp only; rw [if_neg (by rw [q1]; decide), if_neg (by decide)]
    · unfold Ws; dsimp only; rw [if_neg q, if_pos q1, if_pos rfl]
    · unfold Ws; dsimp only; rw [if_pos (Or.inr (Or.inl q1)), if_neg (by decide)]
  · refine gen1 _ 1 (by decide) ?_ ?_ ?_ q
    · unfold Ws; dsimp only; rw [if_neg (by rw [q2]; decide), if_neg (by decide)]
    · unfold Ws; dsimp only; rw [if_neg q, if_neg q1, if_pos q2, if_pos rfl]
    · unfold Ws; dsimp only; rw [if_pos (Or.inr (Or.inr (Or.inl q2))), if_neg (by decide)]
  · refine gen1 _ 0 (by decide) ?_ ?_ ?_ q
    · rw [← at3 q3, if_pos rfl]
    · unfold Ws; dsimp only; rw [if_neg q, if_neg q1, if_neg q2, if_neg (by decide)]
    · unfold Ws; dsimp only; rw [if_pos (Or.inr (Or.inr (Or.inr q3))), if_neg (by decide)]
  · refine gen1 _ 2 (by decide) ?_ ?_ ?_ q
    · unfold Ws; dsimp only; rw [if_neg q3, if_neg (by decide)]
    · unfold Ws; dsimp only; rw [if_neg q, if_neg q1, if_neg q2, if_neg (by decide)]
    · unfold Ws; dsimp only; rw [if_neg (fun z => z.elim q (fun z => z.elim q1 (fun z => z.elim q2 q3))), if_pos rfl]
theorem s_X9_follow {U B K : Nat} {N : zN} {t : Nat} {n : Int32} {h : zHp} (G : zG h) (hU : zUo U) (hB : zW B) (hK : zLo K) (hC : CN N) (hP : PW h B) (hR : RW h B N) (hW : WN N) (hO : WO N) (ht : t < cT N) (al : Al N t) : zcV M_X9_follow [.ref U, .ref B, .ref K, .int (nI t), .int n] h (fun h' => fU U h h' ∧ WC h' U (Wy N (VL h K) 8 (t, n, 0, 0, fun _ => 0, 0))) := by
  have r8 := hC.2.2.1.2
  have loop : ∀ (m j : Nat) (h' : zHp) (s : Wst), j + m = 8 → fU U h h' → WC h' U s → s.1 < cT N → Al N s.1 → zlV M_X9_follow 24 [some (.ref U), some (.ref B), some (.ref K), some (.int (nI t)), some (.int n), some (.int (nI j)), none] [] h' (fun h' => fU U h h' ∧ WC h' U (Wy N (VL h K) m s)) := by
    intro m
    induction m with
    | zero =>
      intro j h' s hj f c _ _
      have : j = 8 := by omega
      subst this
      exact g_X9_follow_24 hU hB hK (zG_of f.1 G) ⟨fun _ => ⟨f, c⟩, fun q => absurd (by decide) q⟩
    | succ m ih =>
      intro j h' s hj f c h1 h2
      refine g_X9_follow_24 hU hB hK (zG_of f.1 G) ⟨fun q => absurd q (nI_ge (b := 8) (by omega) (by omega)), fun _ => ?_⟩
      rw [c.2.1, c.2.2.1]
      refine ⟨fun q => ?_, fun q => ⟨fun q1 => ?_, fun q1 => ?_⟩⟩
      · rw [Wy_0 (fun z => z.1 q)]; exact ⟨f, c⟩
      · rw [Wy_0 (fun z => q1 z.2.1)]; exact ⟨f, c⟩
      have hR' := f.rw hU hB hP hC hR
      have hP' := PW_of f.1 hP
      have ev := f.vl hU hK
      have pk := s_X9_pickRule (zG_of f.1 G) hU hB hK hC hP' hR' hW h1 h2 (hO _ h1) c.1 c.2.2.2.1
      rw [ev] at pk
      refine zcI_use pk ⟨zG_of f.1 G, fun q2 => ?_, fun q2 => ?_⟩
      · rcases Pk_in (N := N) (L := VL h K) (us := s.2.2.2.1) (t := s.1) (cR N) with z | ⟨r, hr, er, ok⟩
        · exact absurd z q2
        · have w0 := hR'.2.2.2.1 r 0 hr (by omega)
          have w3 := hR'.2.2.2.1 r 3 hr (by omega)
          have lc := hP'.r hB (show r < 8 by omega)
          have pl := hP'.2.1.1 r (by omega)
          have ne : rG h' (B + 3) r ≠ U ∧ rG h' (B + 3) r ≠ U + 1 := by
            rcases hU with z | z <;> rcases hB with y | y | y <;> subst z <;> subst y <;> omega
          rw [Wy_1 ⟨q, q1, q2⟩, er, nI_clamp (by omega), c.2.2.2.1]
          refine ⟨vp_in_nI (by omega) (by omega), lc, zcV_then (s_X9_meet (zG_of f.1 G) hU hC lc.2 ne.1 ne.2 (by omega) w0 w3 c ok h1 h2) (fun h3 hh => ⟨zG_of (hh.1.1.trans f.1) G, ?_⟩)⟩
          obtain ⟨b1, b2, -⟩ := Ws_at hC ok h1 h2
          rw [nI_1]
          exact ih (j + 1) h3 _ (by omega) ⟨hh.1.1.trans f.1, fun a z1 z2 => (hh.1.2 a z1 z2).trans (f.2 a z1 z2)⟩ hh.2 b1 b2
      · rw [Wy_0 (fun z => z.2.2 q2)]; exact ⟨f, c⟩
  refine g_X9_follow hU hB hK G (loop 8 0 _ (t, n, 0, 0, fun _ => 0, 0) (by omega) ⟨rfl, fun a z1 z2 => ?_⟩ ⟨?_, ?_, ?_, ?_, fun r hr hb => absurd hb (bi_zero (by omega))⟩ ht al)
  · rw [wI_ne z1, wI_ne z1, wI_ne z1, wI_ne z1]
  · rw [rI_k (by decide), rI_k (by decide), rI_k (by decide), rI_s]
  · rw [rI_k (by decide), rI_k (by decide), rI_s]
  · rw [rI_k (by decide), rI_s]
  · rw [rI_s]

