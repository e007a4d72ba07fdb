/-! the class's looks -/
theorem g_J6_numberOfTrailingZeros_0f7a4 {x0 : Int32} {h : zHp} {Q : Int32 → zHp → Prop}  (G : zG h) (F : (0 < (x0 ^^^ (-1)) &&& (x0 - 1) → (((x0 ^^^ (-1)) &&& (x0 - 1) ≤ 65536 → (zlI M_J6_numberOfTrailingZeros_0f7a4 34 [some (.int ((x0 ^^^ (-1)) &&& (x0 - 1))), some (.int 1)] [] h Q)) ∧ (¬ ((x0 ^^^ (-1)) &&& (x0 - 1) ≤ 65536) → (zlI M_J6_numberOfTrailingZeros_0f7a4 34 [some (.int ((Int32.toUInt32 ((x0 ^^^ (-1)) &&& (x0 - 1)) >>> (Int32.toUInt32 16 &&& Int32.toUInt32 31)).toInt32)), some (.int (1 + 16))] [] h Q)))) ∧ (¬ (0 < (x0 ^^^ (-1)) &&& (x0 - 1)) → (Q (((x0 ^^^ (-1)) &&& (x0 - 1)) &&& 32) h))) : zcI M_J6_numberOfTrailingZeros_0f7a4 [.int x0] h Q := by
  show zw zNT zNT M_J6_numberOfTrailingZeros_0f7a4 0 [some (.int x0), none] [] h _
  refine z_iload_n (pc := 0) dJ6_numberOfTrailingZeros_0f7a4_0 rfl rfl ?_
  refine z_iconst (pc := 1) (v := -1) dJ6_numberOfTrailingZeros_0f7a4_1 (by decide) ?_
  refine z_ixor (pc := 2) dJ6_numberOfTrailingZeros_0f7a4_2 ?_
  refine z_iload_n (pc := 3) dJ6_numberOfTrailingZeros_0f7a4_3 rfl rfl ?_
  refine z_iconst (pc := 4) (v := 1) dJ6_numberOfTrailingZeros_0f7a4_4 (by decide) ?_
  refine z_isub (pc := 5) dJ6_numberOfTrailingZeros_0f7a4_5 ?_
  refine z_iand (pc := 6) dJ6_numberOfTrailingZeros_0f7a4_6 ?_
  refine z_istore_n (pc := 7) (ls' := [some (.int ((x0 ^^^ (-1)) &&& (x0 - 1))), none]) dJ6_numberOfTrailingZeros_0f7a4_7 rfl (by decide) rfl ?_
  refine z_iload_n (pc := 8) dJ6_numberOfTrailingZeros_0f7a4_8 rfl rfl ?_
  refine z_if_gt (pc := 9) (tgt := 17) dJ6_numberOfTrailingZeros_0f7a4_9 (by decide) (fun k2 => ?_) (fun k2 => ?_)
  · replace F := F.1 k2
    refine z_iconst (pc := 17) (v := 1) dJ6_numberOfTrailingZeros_0f7a4_17 (by decide) ?_
    refine z_istore_n (pc := 18) (ls' := [some (.int ((x0 ^^^ (-1)) &&& (x0 - 1))), some (.int 1)]) dJ6_numberOfTrailingZeros_0f7a4_18 rfl (by decide) rfl ?_
    refine z_iload_n (pc := 19) dJ6_numberOfTrailingZeros_0f7a4_19 rfl rfl ?_
    refine z_ldcw (pc := 20) (v := 65536) dJ6_numberOfTrailingZeros_0f7a4_20 cl_RJ6_264 ?_
    refine z_icmp_le (pc := 23) (tgt := 34) dJ6_numberOfTrailingZeros_0f7a4_23 (by decide) (fun k1 => ?_) (fun k1 => ?_)
    · replace F := F.1 k1
      exact F
    · replace F := F.2 k1
      refine z_iinc (pc := 26) (v := 1 + 16) (ls' := [some (.int ((x0 ^^^ (-1)) &&& (x0 - 1))), some (.int (1 + 16))]) dJ6_numberOfTrailingZeros_0f7a4_26 (by decide) rfl rfl rfl ?_
      refine z_iload_n (pc := 29) dJ6_numberOfTrailingZeros_0f7a4_29 rfl rfl ?_
      refine z_bipush (pc := 30) (v := 16) dJ6_numberOfTrailingZeros_0f7a4_30 (by decide) ?_
      refine z_iushr (pc := 32) dJ6_numberOfTrailingZeros_0f7a4_32 ?_
      refine z_istore_n (pc := 33) (ls' := [some (.int ((Int32.toUInt32 ((x0 ^^^ (-1)) &&& (x0 - 1)) >>> (Int32.toUInt32 16 &&& Int32.toUInt32 31)).toInt32)), some (.int (1 + 16))]) dJ6_numberOfTrailingZeros_0f7a4_33 rfl (by decide) rfl ?_
      exact F
  · replace F := F.2 k2
    refine z_iload_n (pc := 12) dJ6_numberOfTrailingZeros_0f7a4_12 rfl rfl ?_
    refine z_bipush (pc := 13) (v := 32) dJ6_numberOfTrailingZeros_0f7a4_13 (by decide) ?_
    refine z_iand (pc := 15) dJ6_numberOfTrailingZeros_0f7a4_15 ?_
    exact q_retI (pc := 16) dJ6_numberOfTrailingZeros_0f7a4_16 rfl F
theorem g_J6_numberOfTrailingZeros_0f7a4_34 {x0 : Int32} {x1 : Int32} {h : zHp} {Q : Int32 → zHp → Prop}  (G : zG h) (F : (x0 ≤ 256 → ((x0 ≤ 16 → (zlI M_J6_numberOfTrailingZeros_0f7a4 62 [some (.int x0), some (.int x1)] [] h Q)) ∧ (¬ (x0 ≤ 16) → (zlI M_J6_numberOfTrailingZeros_0f7a4 62 [some (.int ((Int32.toUInt32 x0 >>> (Int32.toUInt32 4 &&& Int32.toUInt32 31)).toInt32)), some (.int (x1 + 4))] [] h Q)))) ∧ (¬ (x0 ≤ 256) → (((Int32.toUInt32 x0 >>> (Int32.toUInt32 8 &&& Int32.toUInt32 31)).toInt32 ≤ 16 → (zlI M_J6_numberOfTrailingZeros_0f7a4 62 [some (.int ((Int32.toUInt32 x0 >>> (Int32.toUInt32 8 &&& Int32.toUInt32 31)).toInt32)), some (.int (x1 + 8))] [] h Q)) ∧ (¬ ((Int32.toUInt32 x0 >>> (Int32.toUInt32 8 &&& Int32.toUInt32 31)).toInt32 ≤ 16) → (zlI M_J6_numberOfTrailingZeros_0f7a4 62 [some (.int ((Int32.toUInt32 ((Int32.toUInt32 x0 >>> (Int32.toUInt32 8 &&& Int32.toUInt32 31)).toInt32) >>> (Int32.toUInt32 4 &&& Int32.toUInt32 31)).toInt32)), some (.int (x1 + 8 + 4))] [] h Q))))) : zlI M_J6_numberOfTrailingZeros_0f7a4 34 [some (.int x0), some (.int x1)] [] h Q := by
  refine z_iload_n (pc := 34) dJ6_numberOfTrailingZeros_0f7a4_34 rfl rfl ?_
  refine z_sipush (pc := 35) (v := 256) dJ6_numberOfTrailingZeros_0f7a4_35 (by decide) ?_
  refine z_icmp_le (pc := 38) (tgt := 49) dJ6_numberOfTrailingZeros_0f7a4_38 (by decide) (fun k3 => ?_) (fun k3 => ?_)
  · replace F := F.1 k3
    refine z_iload_n (pc := 49) dJ6_numberOfTrailingZeros_0f7a4_49 rfl rfl ?_
    refine z_bipush (pc := 50) (v := 16) dJ6_numberOfTrailingZeros_0f7a4_50 (by decide) ?_
    refine z_icmp_le (pc := 52) (tgt := 62) dJ6_numberOfTrailingZeros_0f7a4_52 (by decide) (fun k1 => ?_) (fun k1 => ?_)
    · replace F := F.1 k1
      exact F
    · replace F := F.2 k1
      refine z_iinc (pc := 55) (v := x1 + 4) (ls' := [some (.int x0), some (.int (x1 + 4))]) dJ6_numberOfTrailingZeros_0f7a4_55 (by decide) rfl rfl rfl ?_
      refine z_iload_n (pc := 58) dJ6_numberOfTrailingZeros_0f7a4_58 rfl rfl ?_
      refine z_iconst (pc := 59) (v := 4) dJ6_numberOfTrailingZeros_0f7a4_59 (by decide) ?_
      refine z_iushr (pc := 60) dJ6_numberOfTrailingZeros_0f7a4_60 ?_
      refine z_istore_n (pc := 61) (ls' := [some (.int ((Int32.toUInt32 x0 >>> (Int32.toUInt32 4 &&& Int32.toUInt32 31)).toInt32)), some (.int (x1 + 4))]) dJ6_numberOfTrailingZeros_0f7a4_61 rfl (by decide) rfl ?_
      exact F
  · replace F := F.2 k3
    refine z_iinc (pc := 41) (v := x1 + 8) (ls' := [some (.int x0), some (.int (x1 + 8))]) dJ6_numberOfTrailingZeros_0f7a4_41 (by decide) rfl rfl rfl ?_
    refine z_iload_n (pc := 44) dJ6_numberOfTrailingZeros_0f7a4_44 rfl rfl ?_
    refine z_bipush (pc := 45) (v := 8) dJ6_numberOfTrailingZeros_0f7a4_45 (by decide) ?_
    refine z_iushr (pc := 47) dJ6_numberOfTrailingZeros_0f7a4_47 ?_
    refine z_istore_n (pc := 48) (ls' := [some (.int ((Int32.toUInt32 x0 >>> (Int32.toUInt32 8 &&& Int32.toUInt32 31)).toInt32)), some (.int (x1 + 8))]) dJ6_numberOfTrailingZeros_0f7a4_48 rfl (by decide) rfl ?_
    refine z_iload_n (pc := 49) dJ6_numberOfTrailingZeros_0f7a4_49 rfl rfl ?_
    refine z_bipush (pc := 50) (v := 16) dJ6_numberOfTrailingZeros_0f7a4_50 (by decide) ?_
    refine z_icmp_le (pc := 52) (tgt := 62) dJ6_numberOfTrailingZeros_0f7a4_52 (by decide) (fun k2 => ?_) (fun k2 => ?_)
    · replace F := F.1 k2
      exact F
    · replace F := F.2 k2
      refine z_iinc (pc := 55) (v := x1 + 8 + 4) (ls' := [some (.int ((Int32.toUInt32 x0 >>> (Int32.toUInt32 8 &&& Int32.toUInt32 31)).toInt32)), some (.int (x1 + 8 + 4))]) dJ6_numberOfTrailingZeros_0f7a4_55 (by decide) rfl rfl rfl ?_
      refine z_iload_n (pc := 58) dJ6_numberOfTrailingZeros_0f7a4_58 rfl rfl ?_
      refine z_iconst (pc := 59) (v := 4) dJ6_numberOfTrailingZeros_0f7a4_59 (by decide) ?_
      refine z_iushr (pc := 60) dJ6_numberOfTrailingZeros_0f7a4_60 ?_
      refine z_istore_n (pc := 61) (ls' := [some (.int ((Int32.toUInt32 ((Int32.toUInt32 x0 >>> (Int32.toUInt32 8 &&& Int32.toUInt32 31)).toInt32) >>> (Int32.toUInt32 4 &&& Int32.toUInt32 31)).toInt32)), some (.int (x1 + 8 + 4))]) dJ6_numberOfTrailingZeros_0f7a4_61 rfl (by decide) rfl ?_
      exact F
theorem g_J6_numberOfTrailingZeros_0f7a4_62 {x0 : Int32} {x1 : Int32} {h : zHp} {Q : Int32 → zHp → Prop}  (G : zG h) (F : (x0 ≤ 4 → (Q (x1 + ((Int32.toUInt32 x0 >>> (Int32.toUInt32 1 &&& Int32.toUInt32 31)).toInt32)) h)) ∧ (¬ (x0 ≤ 4) → (Q ((x1 + 2) + ((Int32.toUInt32 ((Int32.toUInt32 x0 >>> (Int32.toUInt32 2 &&& Int32.toUInt32 31)).toInt32) >>> (Int32.toUInt32 1 &&& Int32.toUInt32 31)).toInt32)) h))) : zlI M_J6_numberOfTrailingZeros_0f7a4 62 [some (.int x0), some (.int x1)] [] h Q := by
  refine z_iload_n (pc := 62) dJ6_numberOfTrailingZeros_0f7a4_62 rfl rfl ?_
  refine z_iconst (pc := 63) (v := 4) dJ6_numberOfTrailingZeros_0f7a4_63 (by decide) ?_
  refine z_icmp_le (pc := 64) (tgt := 74) dJ6_numberOfTrailingZeros_0f7a4_64 (by decide) (fun k1 => ?_) (fun k1 => ?_)
  · replace F := F.1 k1
    refine z_iload_n (pc := 74) dJ6_numberOfTrailingZeros_0f7a4_74 rfl rfl ?_
    refine z_iload_n (pc := 75) dJ6_numberOfTrailingZeros_0f7a4_75 rfl rfl ?_
    refine z_iconst (pc := 76) (v := 1) dJ6_numberOfTrailingZeros_0f7a4_76 (by decide) ?_
    refine z_iushr (pc := 77) dJ6_numberOfTrailingZeros_0f7a4_77 ?_
    refine z_iadd (pc := 78) dJ6_numberOfTrailingZeros_0f7a4_78 ?_
    exact q_retI (pc := 79) dJ6_numberOfTrailingZeros_0f7a4_79 rfl F
  · replace F := F.2 k1
    refine z_iinc (pc := 67) (v := x1 + 2) (ls' := [some (.int x0), some (.int (x1 + 2))]) dJ6_numberOfTrailingZeros_0f7a4_67 (by decide) rfl rfl rfl ?_
    refine z_iload_n (pc := 70) dJ6_numberOfTrailingZeros_0f7a4_70 rfl rfl ?_
    refine z_iconst (pc := 71) (v := 2) dJ6_numberOfTrailingZeros_0f7a4_71 (by decide) ?_
    refine z_iushr (pc := 72) dJ6_numberOfTrailingZeros_0f7a4_72 ?_
    refine z_istore_n (pc := 73) (ls' := [some (.int ((Int32.toUInt32 x0 >>> (Int32.toUInt32 2 &&& Int32.toUInt32 31)).toInt32)), some (.int (x1 + 2))]) dJ6_numberOfTrailingZeros_0f7a4_73 rfl (by decide) rfl ?_
    refine z_iload_n (pc := 74) dJ6_numberOfTrailingZeros_0f7a4_74 rfl rfl ?_
    refine z_iload_n (pc := 75) dJ6_numberOfTrailingZeros_0f7a4_75 rfl rfl ?_
    refine z_iconst (pc := 76) (v := 1) dJ6_numberOfTrailingZeros_0f7a4_76 (by decide) ?_
    refine z_iushr (pc := 77) dJ6_numberOfTrailingZeros_0f7a4_77 ?_
    refine z_iadd (pc := 78) dJ6_numberOfTrailingZeros_0f7a4_78 ?_
    exact q_retI (pc := 79) dJ6_numberOfTrailingZeros_0f7a4_79 rfl F
def us (x k : Int32) : Int32 := (Int32.toUInt32 x >>> (Int32.toUInt32 k &&& Int32.toUInt32 31)).toInt32
def ntz62 (x n : Int32) : Int32 := if x ≤ 4 then n + us x 1 else (n + 2) + us (us x 2) 1
def ntz34 (x n : Int32) : Int32 := if x ≤ 256 then (if x ≤ 16 then ntz62 x n else ntz62 (us x 4) (n + 4)) else (if us x 8 ≤ 16 then ntz62 (us x 8) (n + 8) else ntz62 (us (us x 8) 4) (n + 8 + 4))
def ntz (x : Int32) : Int32 := if 0 < (x ^^^ (-1)) &&& (x - 1) then (if (x ^^^ (-1)) &&& (x - 1) ≤ 65536 then ntz34 ((x ^^^ (-1)) &&& (x - 1)) 1 else ntz34 (us ((x ^^^ (-1)) &&& (x - 1)) 16) (1 + 16)) else ((x ^^^ (-1)) &&& (x - 1)) &&& 32
theorem s_ntz {x : Int32} {h : zHp} (G : zG h) : zcI M_J6_numberOfTrailingZeros_0f7a4 [.int x] h (fun r h' => r = ntz x ∧ h' = h) := by
  have l62 : ∀ (x n : Int32) (R : Int32), ntz62 x n = R → zlI M_J6_numberOfTrailingZeros_0f7a4 62 [some (.int x), some (.int n)] [] h (fun r h' => r = R ∧ h' = h) := by
    intro x n R hR
    refine g_J6_numberOfTrailingZeros_0f7a4_62 G ⟨fun q => ⟨?_, rfl⟩, fun q => ⟨?_, rfl⟩⟩
    · rw [← hR, ntz62, if_pos q]; rfl
    · rw [← hR, ntz62, if_neg q]; rfl
  have l34 : ∀ (x n : Int32) (R : Int32), ntz34 x n = R → zlI M_J6_numberOfTrailingZeros_0f7a4 34 [some (.int x), some (.int n)] [] h (fun r h' => r = R ∧ h' = h) := by
    intro x n R hR
    refine g_J6_numberOfTrailingZeros_0f7a4_34 G ⟨fun q => ⟨fun q2 => l62 _ _ _ ?_, fun q2 => l62 _ _ _ ?_⟩, fun q => ⟨fun q2 => l62 _ _ _ ?_, fun q2 => l62 _ _ _ ?_⟩⟩
    · rw [← hR, ntz34, if_pos q, if_pos q2]
    · rw [← hR, ntz34, if_pos q, if_neg q2]; rfl
    · rw [← hR, ntz34, if_neg q, if_pos (show us x 8 ≤ 16 from q2)]; rfl
    · rw [← hR, ntz34, if_neg q, if_neg (show ¬ us x 8 ≤ 16 from q2)]; rfl
  refine g_J6_numberOfTrailingZeros_0f7a4 G ⟨fun q => ⟨fun q2 => l34 _ _ _ ?_, fun q2 => l34 _ _ _ ?_⟩, fun q => ⟨?_, rfl⟩⟩
  · rw [ntz, if_pos q, if_pos q2]
  · rw [ntz, if_pos q, if_neg q2]; rfl
  · rw [ntz, if_neg q]
theorem bt_nI {m k : Nat} (hk : k < 32) : bt (nI m) k = m.testBit k := by
  show (BitVec.ofNat 32 m).getLsbD k = _
  rw [BitVec.getLsbD_ofNat]
  simp [hk]
theorem S_nI {S : Int32} {n : Nat} (hn : n ≤ 32) (hs : ∀ k, k < 32 → bi S (nI k) → k < n) : ∃ m, m < 2 ^ n ∧ S = nI m := by
  refine ⟨S.toBitVec.toNat, Nat.lt_pow_two_of_testBit _ (fun i hi => ?_), Int32.toBitVec_inj.mp (by show _ = BitVec.ofNat 32 _; simp)⟩
  rcases Nat.lt_or_ge i 32 with q | q
  · have h1 : ¬ bi S (nI i) := fun z => by have := hs i q z; omega
    rw [bi_bt q] at h1
    have h2 : bt S i = S.toBitVec.toNat.testBit i := rfl
    rw [h2] at h1
    simpa using h1
  · exact Nat.testBit_lt_two_pow (Nat.lt_of_lt_of_le S.toBitVec.isLt (Nat.pow_le_pow_right (by decide) q))
def lowB (m : Nat) : Nat := ((List.range 10).find? (fun k => m.testBit k)).getD 10
theorem ntz_low : ∀ m, m < 1024 → 0 < m → ntz (nI m) = nI (lowB m) ∧ lowB m < 10 ∧ m.testBit (lowB m) = true ∧ ∀ k, k < lowB m → m.testBit k = false := by decide +kernel
theorem ntz_ff {S : Int32} (hs : Set10 S) (h0 : ¬ S = 0) : ntz S = nI (ffst (fun e => bi S (nI e)) 10 0) ∧ ffst (fun e => bi S (nI e)) 10 0 < 10 := by
  obtain ⟨m, hm, rfl⟩ := S_nI (n := 10) (by omega) hs
  have hp : 0 < m := by
    rcases Nat.eq_zero_or_pos m with q | q
    · exact absurd (by rw [q]; rfl) h0
    · exact q
  obtain ⟨a, b, c, d⟩ := ntz_low m hm hp
  have e : ffst (fun e => bi (nI m) (nI e)) 10 0 = lowB m := by
    refine ffst_eq (by omega) (by omega) ?_ (fun k _ hk => ?_)
    · show bi (nI m) (nI (lowB m))
      rw [bi_bt (by omega), bt_nI (by omega)]
      exact c
    · show ¬ bi (nI m) (nI k)
      rw [bi_bt (by omega), bt_nI (by omega), d k hk]
      simp
  rw [e]
  exact ⟨a, b⟩
theorem g_X2_needs {c0 : Nat} {c1 : Nat} {c2 : Nat} {c3 : Nat} {h : zHp} {Q : Int32 → zHp → Prop} (hc0 : zLo c0) (hc1 : zW c1) (hc2 : ly c2 = 2) (hc3 : ly c3 = 2) (G : zG h) (F : zlI M_X2_needs 3 [some (.ref c0), some (.ref c1), some (.ref c2), some (.ref c3), some (.int 0), none, none] [] h Q) : zcI M_X2_needs [.ref c0, .ref c1, .ref c2, .ref c3] h Q := by
  show zw zNT zNT M_X2_needs 0 [some (.ref c0), some (.ref c1), some (.ref c2), some (.ref c3), none, none, none] [] h _
  refine z_iconst (pc := 0) (v := 0) dX2_needs_0 (by decide) ?_
  refine z_istore (pc := 1) (ls' := [some (.ref c0), some (.ref c1), some (.ref c2), some (.ref c3), some (.int 0), none, none]) dX2_needs_1 (by decide) rfl ?_
  exact F
theorem g_X2_needs_3 {c0 : Nat} {c1 : Nat} {c2 : Nat} {c3 : Nat} {x4 : Int32} {h : zHp} {Q : Int32 → zHp → Prop} (hc0 : zLo c0) (hc1 : zW c1) (hc2 : ly c2 = 2) (hc3 : ly c3 = 2) (G : zG h) (F : (rI h c1 1 ≤ x4 → (Q 0 h)) ∧ (¬ (rI h c1 1 ≤ x4) → (zcI M_X2_holds [.ref c0, .ref c1, .int x4, .int (rI h c3 2), .int (rI h c3 3)] h (fun vh1 h1 => zG h1 ∧ ((vh1 = 0 → (zlI M_X2_needs 3 [some (.ref c0), some (.ref c1), some (.ref c2), some (.ref c3), some (.int (x4 + 1)), none, none] [] h1 Q)) ∧ (¬ (vh1 = 0) → (vp_in x4 8 ∧ (zcI M_X2_holds [.ref c0, .ref c1, .int x4, .int (rI h1 c2 2), .int (rI h1 c2 3)] h1 (fun vh2 h2 => zG h2 ∧ (vp_in x4 8 ∧ ((vh2 = zb (¬ rI h2 (c1 + 6 + (Int32.toNatClampNeg x4)) 5 = 0 ∧ pIn (rI h2 (c1 + 6 + (Int32.toNatClampNeg x4)) 0) (tyU (rI h1 c3 1) (rI h1 c3 4) (rI h1 (c0 + 1) (Int32.toNatClampNeg x4))) (mkU (rI h1 c3 1) (rI h1 c3 4) (rI h1 (c0 + 2) (Int32.toNatClampNeg x4))) x4 (rI h2 c2 2) (rI h2 c2 3)) → (zlI M_X2_needs 3 [some (.ref c0), some (.ref c1), some (.ref c2), some (.ref c3), some (.int (x4 + 1)), none, none] [] h2 Q)) ∧ (¬ (vh2 = zb (¬ rI h2 (c1 + 6 + (Int32.toNatClampNeg x4)) 5 = 0 ∧ pIn (rI h2 (c1 + 6 + (Int32.toNatClampNeg x4)) 0) (tyU (rI h1 c3 1) (rI h1 c3 4) (rI h1 (c0 + 1) (Int32.toNatClampNeg x4))) (mkU (rI h1 c3 1) (rI h1 c3 4) (rI h1 (c0 + 2) (Int32.toNatClampNeg x4))) x4 (rI h2 c2 2) (rI h2 c2 3))) → (Q 1 h2))))))))))))) : zlI M_X2_needs 3 [some (.ref c0), some (.ref c1), some (.ref c2), some (.ref c3), some (.int x4), none, none] [] h Q := by
  refine z_iload (pc := 3) dX2_needs_3 rfl ?_
  refine z_aload_n (pc := 5) dX2_needs_5 rfl rfl ?_
  refine q_getI (pc := 6) (v := rI h c1 1) dX2_needs_6 lk_RX2_27 (lyW0 hc1) rfl ?_
  refine z_icmp_ge (pc := 9) (tgt := 98) dX2_needs_9 (by decide) (fun k7 => ?_) (fun k7 => ?_)
  · replace F := F.1 k7
    refine z_iconst (pc := 98) (v := 0) dX2_needs_98 (by decide) ?_
    exact q_retB (pc := 99) dX2_needs_99 rfl (Or.inl rfl) F
  · replace F := F.2 k7
    refine z_aload_n (pc := 12) dX2_needs_12 rfl rfl ?_
    refine z_aload_n (pc := 13) dX2_needs_13 rfl rfl ?_
    refine z_iload (pc := 14) dX2_needs_14 rfl ?_
    refine z_aload_n (pc := 16) dX2_needs_16 rfl rfl ?_
    refine q_getI (pc := 17) (v := rI h c3 2) dX2_needs_17 lk_RX2_86 hc3 rfl ?_
    refine z_aload_n (pc := 20) dX2_needs_20 rfl rfl ?_
    refine q_getI (pc := 21) (v := rI h c3 3) dX2_needs_21 lk_RX2_91 hc3 rfl ?_
    refine q_invV (pc := 24) (As := [.ref c1, .int x4, .int (rI h c3 2), .int (rI h c3 3)]) (st := []) dX2_needs_24 ok_X2_holds ml_RX2_94 iv_X2_holds pa_X2_holds ⟨Nat.le_of_ble_eq_true rfl, Nat.le_of_ble_eq_true rfl⟩ (lyLo0 hc0) (q_kI F (fun vh1 h1 F => ?_))
    obtain ⟨G1, F⟩ := F
    refine z_if_eq (pc := 27) (tgt := 92) dX2_needs_27 (by decide) (fun k6 => ?_) (fun k6 => ?_)
    · replace F := F.1 k6
      refine z_iinc (pc := 92) (v := x4 + 1) (ls' := [some (.ref c0), some (.ref c1), some (.ref c2), some (.ref c3), some (.int (x4 + 1)), none, none]) dX2_needs_92 (by decide) rfl rfl rfl ?_
      refine z_goto (pc := 95) (tgt := 3) dX2_needs_95 (by decide) ?_
      exact F
    · replace F := F.2 k6
      refine z_aload_n (pc := 30) dX2_needs_30 rfl rfl ?_
      refine z_aload_n (pc := 31) dX2_needs_31 rfl rfl ?_
      refine z_iload (pc := 32) dX2_needs_32 rfl ?_
      obtain ⟨k2, F⟩ := F
      refine q_invV (pc := 34) (As := [.ref c3, .int x4]) (st := []) dX2_needs_34 ok_X2_typeUnder ml_RX2_98 iv_X2_typeUnder pa_X2_typeUnder ⟨Nat.le_of_ble_eq_true rfl, Nat.le_of_ble_eq_true rfl⟩ (lyLo0 hc0) (q_pI (s_X2_typeUnder G1 hc0 hc3 k2) rfl ?_)
      refine z_istore (pc := 37) (ls' := [some (.ref c0), some (.ref c1), some (.ref c2), some (.ref c3), some (.int x4), some (.int (tyU (rI h1 c3 1) (rI h1 c3 4) (rI h1 (c0 + 1) (Int32.toNatClampNeg x4)))), none]) dX2_needs_37 (by decide) rfl ?_
      refine z_aload_n (pc := 39) dX2_needs_39 rfl rfl ?_
      refine z_aload_n (pc := 40) dX2_needs_40 rfl rfl ?_
      refine z_iload (pc := 41) dX2_needs_41 rfl ?_
      refine q_invV (pc := 43) (As := [.ref c3, .int x4]) (st := []) dX2_needs_43 ok_X2_marksUnder ml_RX2_102 iv_X2_marksUnder pa_X2_marksUnder ⟨Nat.le_of_ble_eq_true rfl, Nat.le_of_ble_eq_true rfl⟩ (lyLo0 hc0) (q_pI (s_X2_marksUnder G1 hc0 hc3 k2) rfl ?_)
      refine z_istore (pc := 46) (ls' := [some (.ref c0), some (.ref c1), some (.ref c2), some (.ref c3), some (.int x4), some (.int (tyU (rI h1 c3 1) (rI h1 c3 4) (rI h1 (c0 + 1) (Int32.toNatClampNeg x4)))), some (.int (mkU (rI h1 c3 1) (rI h1 c3 4) (rI h1 (c0 + 2) (Int32.toNatClampNeg x4))))]) dX2_needs_46 (by decide) rfl ?_
      refine z_aload_n (pc := 48) dX2_needs_48 rfl rfl ?_
      refine z_aload_n (pc := 49) dX2_needs_49 rfl rfl ?_
      refine z_iload (pc := 50) dX2_needs_50 rfl ?_
      refine z_aload_n (pc := 52) dX2_needs_52 rfl rfl ?_
      refine q_getI (pc := 53) (v := rI h1 c2 2) dX2_needs_53 lk_RX2_86 hc2 rfl ?_
      refine z_aload_n (pc := 56) dX2_needs_56 rfl rfl ?_
      refine q_getI (pc := 57) (v := rI h1 c2 3) dX2_needs_57 lk_RX2_91 hc2 rfl ?_
      refine q_invV (pc := 60) (As := [.ref c1, .int x4, .int (rI h1 c2 2), .int (rI h1 c2 3)]) (st := []) dX2_needs_60 ok_X2_holds ml_RX2_94 iv_X2_holds pa_X2_holds ⟨Nat.le_of_ble_eq_true rfl, Nat.le_of_ble_eq_true rfl⟩ (lyLo0 hc0) (q_kI F (fun vh2 h2 F => ?_))
      obtain ⟨G2, F⟩ := F
      refine z_aload_n (pc := 63) dX2_needs_63 rfl rfl ?_
      refine q_getR (pc := 64) (i := c1 + 1) dX2_needs_64 lk_RX2_33 (lyW0 hc1) (grW0 G2 hc1) ?_
      refine z_iload (pc := 67) dX2_needs_67 rfl ?_
      obtain ⟨k4, F⟩ := F
      refine q_aald (pc := 69) (j := (Int32.toNatClampNeg x4)) (r := c1 + 6 + (Int32.toNatClampNeg x4)) (t := 0) dX2_needs_69 (lyW1 hc1) (zvn (lnW1 hc1) k4) rfl (grT (B := c1) G2 hc1 (zvi k4)) ?_
      refine z_iload (pc := 70) dX2_needs_70 rfl ?_
      refine z_aload_n (pc := 72) dX2_needs_72 rfl rfl ?_
      refine q_getI (pc := 73) (v := rI h2 c2 2) dX2_needs_73 lk_RX2_86 hc2 rfl ?_
      refine z_aload_n (pc := 76) dX2_needs_76 rfl rfl ?_
      refine q_getI (pc := 77) (v := rI h2 c2 3) dX2_needs_77 lk_RX2_91 hc2 rfl ?_
      refine z_iload (pc := 80) dX2_needs_80 rfl ?_
      refine z_iload (pc := 82) dX2_needs_82 rfl ?_
      refine q_invS (pc := 84) (As := [.ref (c1 + 6 + (Int32.toNatClampNeg x4)), .int x4, .int (rI h2 c2 2), .int (rI h2 c2 3), .int (tyU (rI h1 c3 1) (rI h1 c3 4) (rI h1 (c0 + 1) (Int32.toNatClampNeg x4))), .int (mkU (rI h1 c3 1) (rI h1 c3 4) (rI h1 (c0 + 2) (Int32.toNatClampNeg x4)))]) (st := [.int vh2]) dX2_needs_84 ok_X2_fits ml_RX2_105 st_X2_fits pa_X2_fits ⟨Nat.le_of_ble_eq_true rfl, Nat.le_of_ble_eq_true rfl⟩ (q_pI (s_X2_fits G2 (lyT (B := c1) hc1 (zvi k4))) rfl ?_)
      refine z_icmp_eq (pc := 87) (tgt := 92) dX2_needs_87 (by decide) (fun k5 => ?_) (fun k5 => ?_)
      · replace F := F.1 k5
        refine z_iinc (pc := 92) (v := x4 + 1) (ls' := [some (.ref c0), some (.ref c1), some (.ref c2), some (.ref c3), some (.int (x4 + 1)), some (.int (tyU (rI h1 c3 1) (rI h1 c3 4) (rI h1 (c0 + 1) (Int32.toNatClampNeg x4)))), some (.int (mkU (rI h1 c3 1) (rI h1 c3 4) (rI h1 (c0 + 2) (Int32.toNatClampNeg x4))))]) dX2_needs_92 (by decide) rfl rfl rfl ?_
        refine z_goto (pc := 95) (tgt := 3) dX2_needs_95 (by decide) ?_
        exact q_sub (ls' := [some (.ref c0), some (.ref c1), some (.ref c2), some (.ref c3), some (.int (x4 + 1)), none, none]) ⟨rfl, rfl, rfl, rfl, rfl, trivial⟩ F
      · replace F := F.2 k5
        refine z_iconst (pc := 90) (v := 1) dX2_needs_90 (by decide) ?_
        exact q_retB (pc := 91) dX2_needs_91 rfl (Or.inr rfl) F
theorem g_X2_changeStrength {c0 : Nat} {c1 : Nat} {x2 : Int32} {h : zHp} {Q : zHp → Prop} (hc0 : zLo c0) (hc1 : ly c1 = 2) (G : zG h) (F : (¬ rI h c1 1 = 3 → ((¬ rI h c1 1 = 4 → ((¬ rI h c1 1 = 5 → (Q h)) ∧ (rI h c1 1 = 5 → (vp_in x2 8 ∧ (Q (wI (wI h (c0 + 3) ((Int32.toNatClampNeg x2)) (rI h (c0 + 4) ((Int32.toNatClampNeg x2)))) (c0 + 4) ((Int32.toNatClampNeg x2)) (rI h (c0 + 3) ((Int32.toNatClampNeg x2))))))))) ∧ (rI h c1 1 = 4 → (vp_in x2 8 ∧ (Q (wI (wI h (c0 + 3) ((Int32.toNatClampNeg x2)) ((rI h (c0 + 3) ((Int32.toNatClampNeg x2))) + (rI h c1 4))) (c0 + 4) ((Int32.toNatClampNeg x2)) ((rI h (c0 + 4) ((Int32.toNatClampNeg x2))) + (rI h c1 5)))))))) ∧ (rI h c1 1 = 3 → (vp_in x2 8 ∧ (Q (wI (wI h (c0 + 3) ((Int32.toNatClampNeg x2)) (rI h c1 4)) (c0 + 4) ((Int32.toNatClampNeg x2)) (rI h c1 5)))))) : zcV M_X2_changeStrength [.ref c0, .ref c1, .int x2] h Q := by
  show zw zNT zNT M_X2_changeStrength 0 [some (.ref c0), some (.ref c1), some (.int x2), none] [] h _
  refine z_aload_n (pc := 0) dX2_changeStrength_0 rfl rfl ?_
  refine q_getI (pc := 1) (v := rI h c1 1) dX2_changeStrength_1 lk_RX2_109 hc1 rfl ?_
  refine z_iconst (pc := 4) (v := 3) dX2_changeStrength_4 (by decide) ?_
  refine z_icmp_ne (pc := 5) (tgt := 31) dX2_changeStrength_5 (by decide) (fun k6 => ?_) (fun k6 => ?_)
  · replace F := F.1 k6
    refine z_aload_n (pc := 31) dX2_changeStrength_31 rfl rfl ?_
    refine q_getI (pc := 32) (v := rI h c1 1) dX2_changeStrength_32 lk_RX2_109 hc1 rfl ?_
    refine z_iconst (pc := 35) (v := 4) dX2_changeStrength_35 (by decide) ?_
    refine z_icmp_ne (pc := 36) (tgt := 68) dX2_changeStrength_36 (by decide) (fun k4 => ?_) (fun k4 => ?_)
    · replace F := F.1 k4
      refine z_aload_n (pc := 68) dX2_changeStrength_68 rfl rfl ?_
      refine q_getI (pc := 69) (v := rI h c1 1) dX2_changeStrength_69 lk_RX2_109 hc1 rfl ?_
      refine z_iconst (pc := 72) (v := 5) dX2_changeStrength_72 (by decide) ?_
      refine z_icmp_ne (pc := 73) (tgt := 102) dX2_changeStrength_73 (by decide) (fun k2 => ?_) (fun k2 => ?_)
      · replace F := F.1 k2
        exact q_retV (pc := 102) dX2_changeStrength_102 rfl F
      · replace F := F.2 k2
        refine z_aload_n (pc := 76) dX2_changeStrength_76 rfl rfl ?_
        refine q_getR (pc := 77) (i := c0 + 3) dX2_changeStrength_77 lk_RX2_18 (lyLo0 hc0) (grLo2 G hc0) ?_
        refine z_iload_n (pc := 80) dX2_changeStrength_80 rfl rfl ?_
        obtain ⟨k1, F⟩ := F
        refine q_iald (pc := 81) (j := (Int32.toNatClampNeg x2)) (v := rI h (c0 + 3) ((Int32.toNatClampNeg x2))) dX2_changeStrength_81 (lyLo3 hc0) (zvn (lnLo3 hc0) k1) rfl rfl ?_
        refine z_istore_n (pc := 82) (ls' := [some (.ref c0), some (.ref c1), some (.int x2), some (.int (rI h (c0 + 3) ((Int32.toNatClampNeg x2))))]) dX2_changeStrength_82 rfl (by decide) rfl ?_
        refine z_aload_n (pc := 83) dX2_changeStrength_83 rfl rfl ?_
        refine q_getR (pc := 84) (i := c0 + 3) dX2_changeStrength_84 lk_RX2_18 (lyLo0 hc0) (grLo2 G hc0) ?_
        refine z_iload_n (pc := 87) dX2_changeStrength_87 rfl rfl ?_
        refine z_aload_n (pc := 88) dX2_changeStrength_88 rfl rfl ?_
        refine q_getR (pc := 89) (i := c0 + 4) dX2_changeStrength_89 lk_RX2_21 (lyLo0 hc0) (grLo3 G hc0) ?_
        refine z_iload_n (pc := 92) dX2_changeStrength_92 rfl rfl ?_
        refine q_iald (pc := 93) (j := (Int32.toNatClampNeg x2)) (v := rI h (c0 + 4) ((Int32.toNatClampNeg x2))) dX2_changeStrength_93 (lyLo4 hc0) (zvn (lnLo4 hc0) k1) rfl rfl ?_
        refine q_iast (pc := 94) (j := (Int32.toNatClampNeg x2)) dX2_changeStrength_94 (lyLo3 hc0) (zvn (lnLo3 hc0) k1) rfl ?_
        refine z_aload_n (pc := 95) dX2_changeStrength_95 rfl rfl ?_
        refine q_getR (pc := 96) (i := c0 + 4) dX2_changeStrength_96 lk_RX2_21 (lyLo0 hc0) (grLo3 G hc0) ?_
        refine z_iload_n (pc := 99) dX2_changeStrength_99 rfl rfl ?_
        refine z_iload_n (pc := 100) dX2_changeStrength_100 rfl rfl ?_
        refine q_iast (pc := 101) (j := (Int32.toNatClampNeg x2)) dX2_changeStrength_101 (lyLo4 hc0) (zvn (lnLo4 hc0) k1) rfl ?_
        exact q_retV (pc := 102) dX2_changeStrength_102 rfl F
    · replace F := F.2 k4
      refine z_aload_n (pc := 39) dX2_changeStrength_39 rfl rfl ?_
      refine q_getR (pc := 40) (i := c0 + 3) dX2_changeStrength_40 lk_RX2_18 (lyLo0 hc0) (grLo2 G hc0) ?_
      refine z_iload_n (pc := 43) dX2_changeStrength_43 rfl rfl ?_
      refine z_dup2 (pc := 44) dX2_changeStrength_44 rfl rfl ?_
      obtain ⟨k3, F⟩ := F
      refine q_iald (pc := 45) (j := (Int32.toNatClampNeg x2)) (v := rI h (c0 + 3) ((Int32.toNatClampNeg x2))) dX2_changeStrength_45 (lyLo3 hc0) (zvn (lnLo3 hc0) k3) rfl rfl ?_
      refine z_aload_n (pc := 46) dX2_changeStrength_46 rfl rfl ?_
      refine q_getI (pc := 47) (v := rI h c1 4) dX2_changeStrength_47 lk_RX2_112 hc1 rfl ?_
      refine z_iadd (pc := 50) dX2_changeStrength_50 ?_
      refine q_iast (pc := 51) (j := (Int32.toNatClampNeg x2)) dX2_changeStrength_51 (lyLo3 hc0) (zvn (lnLo3 hc0) k3) rfl ?_
      refine z_aload_n (pc := 52) dX2_changeStrength_52 rfl rfl ?_
      refine q_getR (pc := 53) (i := c0 + 4) dX2_changeStrength_53 lk_RX2_21 (lyLo0 hc0) (grLo3 G hc0) ?_
      refine z_iload_n (pc := 56) dX2_changeStrength_56 rfl rfl ?_
      refine z_dup2 (pc := 57) dX2_changeStrength_57 rfl rfl ?_
      refine q_iald (pc := 58) (j := (Int32.toNatClampNeg x2)) (v := rI h (c0 + 4) ((Int32.toNatClampNeg x2))) dX2_changeStrength_58 (lyLo4 hc0) (zvn (lnLo4 hc0) k3) rfl (rI_c (by omega)) ?_
      refine z_aload_n (pc := 59) dX2_changeStrength_59 rfl rfl ?_
      refine q_getI (pc := 60) (v := rI h c1 5) dX2_changeStrength_60 lk_RX2_119 hc1 (rI_c (zne hc1 (lyLo3 hc0) (by decide))) ?_
      refine z_iadd (pc := 63) dX2_changeStrength_63 ?_
      refine q_iast (pc := 64) (j := (Int32.toNatClampNeg x2)) dX2_changeStrength_64 (lyLo4 hc0) (zvn (lnLo4 hc0) k3) rfl ?_
      refine z_goto (pc := 65) (tgt := 102) dX2_changeStrength_65 (by decide) ?_
      exact q_retV (pc := 102) dX2_changeStrength_102 rfl F
  · replace F := F.2 k6
    refine z_aload_n (pc := 8) dX2_changeStrength_8 rfl rfl ?_
    refine q_getR (pc := 9) (i := c0 + 3) dX2_changeStrength_9 lk_RX2_18 (lyLo0 hc0) (grLo2 G hc0) ?_
    refine z_iload_n (pc := 12) dX2_changeStrength_12 rfl rfl ?_
    refine z_aload_n (pc := 13) dX2_changeStrength_13 rfl rfl ?_
    refine q_getI (pc := 14) (v := rI h c1 4) dX2_changeStrength_14 lk_RX2_112 hc1 rfl ?_
    obtain ⟨k5, F⟩ := F
    refine q_iast (pc := 17) (j := (Int32.toNatClampNeg x2)) dX2_changeStrength_17 (lyLo3 hc0) (zvn (lnLo3 hc0) k5) rfl ?_
    refine z_aload_n (pc := 18) dX2_changeStrength_18 rfl rfl ?_
    refine q_getR (pc := 19) (i := c0 + 4) dX2_changeStrength_19 lk_RX2_21 (lyLo0 hc0) (grLo3 G hc0) ?_
    refine z_iload_n (pc := 22) dX2_changeStrength_22 rfl rfl ?_
    refine z_aload_n (pc := 23) dX2_changeStrength_23 rfl rfl ?_
    refine q_getI (pc := 24) (v := rI h c1 5) dX2_changeStrength_24 lk_RX2_119 hc1 (rI_c (zne hc1 (lyLo3 hc0) (by decide))) ?_
    refine q_iast (pc := 27) (j := (Int32.toNatClampNeg x2)) dX2_changeStrength_27 (lyLo4 hc0) (zvn (lnLo4 hc0) k5) rfl ?_
    refine z_goto (pc := 28) (tgt := 102) dX2_changeStrength_28 (by decide) ?_
    exact q_retV (pc := 102) dX2_changeStrength_102 rfl F
theorem g_X2_perform {c0 : Nat} {c1 : Nat} {c2 : Nat} {h : zHp} {Q : zHp → Prop} (hc0 : zLo c0) (hc1 : zW c1) (hc2 : ly c2 = 2) (G : zG h) (F : zlV M_X2_perform 2 [some (.ref c0), some (.ref c1), some (.ref c2), some (.int 0)] [] h Q) : zcV M_X2_perform [.ref c0, .ref c1, .ref c2] h Q := by
  show zw zNT zNT M_X2_perform 0 [some (.ref c0), some (.ref c1), some (.ref c2), none] [] h _
  refine z_iconst (pc := 0) (v := 0) dX2_perform_0 (by decide) ?_
  refine z_istore_n (pc := 1) (ls' := [some (.ref c0), some (.ref c1), some (.ref c2), some (.int 0)]) dX2_perform_1 rfl (by decide) rfl ?_
  exact F
theorem g_X2_perform_2 {c0 : Nat} {c1 : Nat} {c2 : Nat} {x3 : Int32} {h : zHp} {Q : zHp → Prop} (hc0 : zLo c0) (hc1 : zW c1) (hc2 : ly c2 = 2) (G : zG h) (F : (rI h c1 1 ≤ x3 → (Q h)) ∧ (¬ (rI h c1 1 ≤ x3) → (zcI M_X2_holds [.ref c0, .ref c1, .int x3, .int (rI h c2 2), .int (rI h c2 3)] h (fun vh1 h1 => zG h1 ∧ ((vh1 = 0 → (zlV M_X2_perform 2 [some (.ref c0), some (.ref c1), some (.ref c2), some (.int (x3 + 1))] [] h1 Q)) ∧ (¬ (vh1 = 0) → (vp_in x3 8 ∧ (vp_in x3 8 ∧ (zcV M_X2_changeStrength [.ref c0, .ref c2, .int x3] (wI (wI h1 (c0 + 1) ((Int32.toNatClampNeg x3)) (tyU (rI h1 c2 1) (rI h1 c2 4) (rI h1 (c0 + 1) (Int32.toNatClampNeg x3)))) (c0 + 2) ((Int32.toNatClampNeg x3)) (mkU (rI (wI h1 (c0 + 1) ((Int32.toNatClampNeg x3)) (tyU (rI h1 c2 1) (rI h1 c2 4) (rI h1 (c0 + 1) (Int32.toNatClampNeg x3)))) c2 1) (rI (wI h1 (c0 + 1) ((Int32.toNatClampNeg x3)) (tyU (rI h1 c2 1) (rI h1 c2 4) (rI h1 (c0 + 1) (Int32.toNatClampNeg x3)))) c2 4) (rI (wI h1 (c0 + 1) ((Int32.toNatClampNeg x3)) (tyU (rI h1 c2 1) (rI h1 c2 4) (rI h1 (c0 + 1) (Int32.toNatClampNeg x3)))) (c0 + 2) (Int32.toNatClampNeg x3)))) (fun h2 => zG h2 ∧ (zlV M_X2_perform 2 [some (.ref c0), some (.ref c1), some (.ref c2), some (.int (x3 + 1))] [] h2 Q))))))))))) : zlV M_X2_perform 2 [some (.ref c0), some (.ref c1), some (.ref c2), some (.int x3)] [] h Q := by
  refine z_iload_n (pc := 2) dX2_perform_2 rfl rfl ?_
  refine z_aload_n (pc := 3) dX2_perform_3 rfl rfl ?_
  refine q_getI (pc := 4) (v := rI h c1 1) dX2_perform_4 lk_RX2_27 (lyW0 hc1) rfl ?_
  refine z_icmp_ge (pc := 7) (tgt := 63) dX2_perform_7 (by decide) (fun k6 => ?_) (fun k6 => ?_)
  · replace F := F.1 k6
    exact q_retV (pc := 63) dX2_perform_63 rfl F
  · replace F := F.2 k6
    refine z_aload_n (pc := 10) dX2_perform_10 rfl rfl ?_
    refine z_aload_n (pc := 11) dX2_perform_11 rfl rfl ?_
    refine z_iload_n (pc := 12) dX2_perform_12 rfl rfl ?_
    refine z_aload_n (pc := 13) dX2_perform_13 rfl rfl ?_
    refine q_getI (pc := 14) (v := rI h c2 2) dX2_perform_14 lk_RX2_86 hc2 rfl ?_
    refine z_aload_n (pc := 17) dX2_perform_17 rfl rfl ?_
    refine q_getI (pc := 18) (v := rI h c2 3) dX2_perform_18 lk_RX2_91 hc2 rfl ?_
    refine q_invV (pc := 21) (As := [.ref c1, .int x3, .int (rI h c2 2), .int (rI h c2 3)]) (st := []) dX2_perform_21 ok_X2_holds ml_RX2_94 iv_X2_holds pa_X2_holds ⟨Nat.le_of_ble_eq_true rfl, Nat.le_of_ble_eq_true rfl⟩ (lyLo0 hc0) (q_kI F (fun vh1 h1 F => ?_))
    obtain ⟨G1, F⟩ := F
    refine z_if_eq (pc := 24) (tgt := 57) dX2_perform_24 (by decide) (fun k5 => ?_) (fun k5 => ?_)
    · replace F := F.1 k5
      refine z_iinc (pc := 57) (v := x3 + 1) (ls' := [some (.ref c0), some (.ref c1), some (.ref c2), some (.int (x3 + 1))]) dX2_perform_57 (by decide) rfl rfl rfl ?_
      refine z_goto (pc := 60) (tgt := 2) dX2_perform_60 (by decide) ?_
      exact F
    · replace F := F.2 k5
      refine z_aload_n (pc := 27) dX2_perform_27 rfl rfl ?_
      refine q_getR (pc := 28) (i := c0 + 1) dX2_perform_28 lk_RX2_9 (lyLo0 hc0) (grLo0 G1 hc0) ?_
      refine z_iload_n (pc := 31) dX2_perform_31 rfl rfl ?_
      refine z_aload_n (pc := 32) dX2_perform_32 rfl rfl ?_
      refine z_aload_n (pc := 33) dX2_perform_33 rfl rfl ?_
      refine z_iload_n (pc := 34) dX2_perform_34 rfl rfl ?_
      obtain ⟨k2, F⟩ := F
      refine q_invV (pc := 35) (As := [.ref c2, .int x3]) (st := [.int x3, .ref (c0 + 1)]) dX2_perform_35 ok_X2_typeUnder ml_RX2_98 iv_X2_typeUnder pa_X2_typeUnder ⟨Nat.le_of_ble_eq_true rfl, Nat.le_of_ble_eq_true rfl⟩ (lyLo0 hc0) (q_pI (s_X2_typeUnder G1 hc0 hc2 k2) rfl ?_)
      obtain ⟨k3, F⟩ := F
      refine q_iast (pc := 38) (j := (Int32.toNatClampNeg x3)) dX2_perform_38 (lyLo1 hc0) (zvn (lnLo1 hc0) k3) rfl ?_
      refine z_aload_n (pc := 39) dX2_perform_39 rfl rfl ?_
      refine q_getR (pc := 40) (i := c0 + 2) dX2_perform_40 lk_RX2_15 (lyLo0 hc0) (grLo1 G1 hc0) ?_
      refine z_iload_n (pc := 43) dX2_perform_43 rfl rfl ?_
      refine z_aload_n (pc := 44) dX2_perform_44 rfl rfl ?_
      refine z_aload_n (pc := 45) dX2_perform_45 rfl rfl ?_
      refine z_iload_n (pc := 46) dX2_perform_46 rfl rfl ?_
      refine q_invV (pc := 47) (As := [.ref c2, .int x3]) (st := [.int x3, .ref (c0 + 2)]) dX2_perform_47 ok_X2_marksUnder ml_RX2_102 iv_X2_marksUnder pa_X2_marksUnder ⟨Nat.le_of_ble_eq_true rfl, Nat.le_of_ble_eq_true rfl⟩ (lyLo0 hc0) (q_pI (s_X2_marksUnder G1 hc0 hc2 k2) rfl ?_)
      refine q_iast (pc := 50) (j := (Int32.toNatClampNeg x3)) dX2_perform_50 (lyLo2 hc0) (zvn (lnLo2 hc0) k3) rfl ?_
      refine z_aload_n (pc := 51) dX2_perform_51 rfl rfl ?_
      refine z_aload_n (pc := 52) dX2_perform_52 rfl rfl ?_
      refine z_iload_n (pc := 53) dX2_perform_53 rfl rfl ?_
      refine q_invV (pc := 54) (As := [.ref c2, .int x3]) (st := []) dX2_perform_54 ok_X2_changeStrength ml_RX2_115 iv_X2_changeStrength pa_X2_changeStrength ⟨Nat.le_of_ble_eq_true rfl, Nat.le_of_ble_eq_true rfl⟩ (lyLo0 hc0) (q_kV F (fun h2 F => ?_))
      obtain ⟨G2, F⟩ := F
      refine z_iinc (pc := 57) (v := x3 + 1) (ls' := [some (.ref c0), some (.ref c1), some (.ref c2), some (.int (x3 + 1))]) dX2_perform_57 (by decide) rfl rfl rfl ?_
      refine z_goto (pc := 60) (tgt := 2) dX2_perform_60 (by decide) ?_
      exact F
theorem g_X2_record {c0 : Nat} {x1 : Int32} {h : zHp} {Q : zHp → Prop} (hc0 : zLo c0) (G : zG h) (F : (10 ≤ rI h c0 5 → (Q h)) ∧ (¬ (10 ≤ rI h c0 5) → (vp_in (rI h c0 5) 10 ∧ (Q (wI (wI h (c0 + 5) ((Int32.toNatClampNeg (rI h c0 5))) x1) c0 5 ((rI h c0 5) + 1)))))) : zcV M_X2_record [.ref c0, .int x1] h Q := by
  show zw zNT zNT M_X2_record 0 [some (.ref c0), some (.int x1)] [] h _
  refine z_aload_n (pc := 0) dX2_record_0 rfl rfl ?_
  refine q_getI (pc := 1) (v := rI h c0 5) dX2_record_1 lk_RX2_45 (lyLo0 hc0) rfl ?_
  refine z_bipush (pc := 4) (v := 10) dX2_record_4 (by decide) ?_
  refine z_icmp_ge (pc := 6) (tgt := 29) dX2_record_6 (by decide) (fun k2 => ?_) (fun k2 => ?_)
  · replace F := F.1 k2
    exact q_retV (pc := 29) dX2_record_29 rfl F
  · replace F := F.2 k2
    refine z_aload_n (pc := 9) dX2_record_9 rfl rfl ?_
    refine q_getR (pc := 10) (i := c0 + 5) dX2_record_10 lk_RX2_24 (lyLo0 hc0) (grLo4 G hc0) ?_
    refine z_aload_n (pc := 13) dX2_record_13 rfl rfl ?_
    refine q_getI (pc := 14) (v := rI h c0 5) dX2_record_14 lk_RX2_45 (lyLo0 hc0) rfl ?_
    refine z_iload_n (pc := 17) dX2_record_17 rfl rfl ?_
    obtain ⟨k1, F⟩ := F
    refine q_iast (pc := 18) (j := (Int32.toNatClampNeg (rI h c0 5))) dX2_record_18 (lyLo5 hc0) (zvn (lnLo5 hc0) k1) rfl ?_
    refine z_aload_n (pc := 19) dX2_record_19 rfl rfl ?_
    refine z_dup (pc := 20) dX2_record_20 rfl ?_
    refine q_getI (pc := 21) (v := rI h c0 5) dX2_record_21 lk_RX2_45 (lyLo0 hc0) (rI_c (zne (lyLo0 hc0) (lyLo5 hc0) (by decide))) ?_
    refine z_iconst (pc := 24) (v := 1) dX2_record_24 (by decide) ?_
    refine z_iadd (pc := 25) dX2_record_25 ?_
    refine q_putI (pc := 26) dX2_record_26 lk_RX2_45 (lyLo0 hc0) ?_
    exact q_retV (pc := 29) dX2_record_29 rfl F
theorem g_X2_pick {c0 : Nat} {c1 : Nat} {x2 : Int32} {h : zHp} {Q : Int32 → zHp → Prop} (hc0 : zLo c0) (hc1 : zW c1) (G : zG h) (F : zlI M_X2_pick 2 [some (.ref c0), some (.ref c1), some (.int x2), some (.int 0), none, none, none] [] h Q) : zcI M_X2_pick [.ref c0, .ref c1, .int x2] h Q := by
  show zw zNT zNT M_X2_pick 0 [some (.ref c0), some (.ref c1), some (.int x2), none, none, none, none] [] h _
  refine z_iconst (pc := 0) (v := 0) dX2_pick_0 (by decide) ?_
  refine z_istore_n (pc := 1) (ls' := [some (.ref c0), some (.ref c1), some (.int x2), some (.int 0), none, none, none]) dX2_pick_1 rfl (by decide) rfl ?_
  exact F
theorem g_X2_pick_2 {c0 : Nat} {c1 : Nat} {x2 : Int32} {x3 : Int32} {h : zHp} {Q : Int32 → zHp → Prop} (hc0 : zLo c0) (hc1 : zW c1) (G : zG h) (F : (rI h c1 3 ≤ x3 → (zcI M_J6_numberOfTrailingZeros_0f7a4 [.int x2] h (fun vh1 h1 => zG h1 ∧ (Q (if 9 < vh1 then 9 else vh1) h1)))) ∧ (¬ (rI h c1 3 ≤ x3) → (((x2 >>> (x3 &&& 31)) &&& 1 = 0 → (zlI M_X2_pick 28 [some (.ref c0), some (.ref c1), some (.int x2), some (.int x3), some (.int 0), some (.int 0), none] [] h Q)) ∧ (¬ ((x2 >>> (x3 &&& 31)) &&& 1 = 0) → (zlI M_X2_pick 28 [some (.ref c0), some (.ref c1), some (.int x2), some (.int x3), some (.int 1), some (.int 0), none] [] h Q))))) : zlI M_X2_pick 2 [some (.ref c0), some (.ref c1), some (.int x2), some (.int x3), none, none, none] [] h Q := by
  refine z_iload_n (pc := 2) dX2_pick_2 rfl rfl ?_
  refine z_aload_n (pc := 3) dX2_pick_3 rfl rfl ?_
  refine q_getI (pc := 4) (v := rI h c1 3) dX2_pick_4 lk_RX2_68 (lyW0 hc1) rfl ?_
  refine z_icmp_ge (pc := 7) (tgt := 116) dX2_pick_7 (by decide) (fun k3 => ?_) (fun k3 => ?_)
  · replace F := F.1 k3
    refine z_iload_n (pc := 116) dX2_pick_116 rfl rfl ?_
    refine q_invS (pc := 117) (As := [.int x2]) (st := []) dX2_pick_117 ok_J6_numberOfTrailingZeros_0f7a4 ml_RX2_75 st_J6_numberOfTrailingZeros_0f7a4 pa_J6_numberOfTrailingZeros_0f7a4 ⟨Nat.le_of_ble_eq_true rfl, Nat.le_of_ble_eq_true rfl⟩ (q_kI F (fun vh1 h1 F => ?_))
    obtain ⟨G1, F⟩ := F
    refine z_bipush (pc := 120) (v := 9) dX2_pick_120 (by decide) ?_
    refine z_min (pc := 122) dX2_pick_122 ⟨pl_RX2_80, pw_minS, pw_Math, pw_minC⟩ (zcat_of rfl) ⟨Nat.le_of_ble_eq_true rfl, Nat.le_of_ble_eq_true rfl⟩ ?_
    exact q_retI (pc := 125) dX2_pick_125 rfl F
  · replace F := F.2 k3
    refine z_iload_n (pc := 10) dX2_pick_10 rfl rfl ?_
    refine z_iload_n (pc := 11) dX2_pick_11 rfl rfl ?_
    refine z_ishr (pc := 12) dX2_pick_12 ?_
    refine z_iconst (pc := 13) (v := 1) dX2_pick_13 (by decide) ?_
    refine z_iand (pc := 14) dX2_pick_14 ?_
    refine z_if_eq (pc := 15) (tgt := 22) dX2_pick_15 (by decide) (fun k2 => ?_) (fun k2 => ?_)
    · replace F := F.1 k2
      refine z_iconst (pc := 22) (v := 0) dX2_pick_22 (by decide) ?_
      refine z_istore (pc := 23) (ls' := [some (.ref c0), some (.ref c1), some (.int x2), some (.int x3), some (.int 0), none, none]) dX2_pick_23 (by decide) rfl ?_
      refine z_iconst (pc := 25) (v := 0) dX2_pick_25 (by decide) ?_
      refine z_istore (pc := 26) (ls' := [some (.ref c0), some (.ref c1), some (.int x2), some (.int x3), some (.int 0), some (.int 0), none]) dX2_pick_26 (by decide) rfl ?_
      exact F
    · replace F := F.2 k2
      refine z_iconst (pc := 18) (v := 1) dX2_pick_18 (by decide) ?_
      refine z_goto (pc := 19) (tgt := 23) dX2_pick_19 (by decide) ?_
      refine z_istore (pc := 23) (ls' := [some (.ref c0), some (.ref c1), some (.int x2), some (.int x3), some (.int 1), none, none]) dX2_pick_23 (by decide) rfl ?_
      refine z_iconst (pc := 25) (v := 0) dX2_pick_25 (by decide) ?_
      refine z_istore (pc := 26) (ls' := [some (.ref c0), some (.ref c1), some (.int x2), some (.int x3), some (.int 1), some (.int 0), none]) dX2_pick_26 (by decide) rfl ?_
      exact F
theorem g_X2_pick_28 {c0 : Nat} {c1 : Nat} {x2 : Int32} {x3 : Int32} {x4 : Int32} {x5 : Int32} {h : zHp} {Q : Int32 → zHp → Prop} (hc0 : zLo c0) (hc1 : zW c1) (G : zG h) (F : (x4 = 0 → ((x4 = 0 → (zlI M_X2_pick 2 [some (.ref c0), some (.ref c1), some (.int x2), some (.int (x3 + 1)), none, none, none] [] h Q)) ∧ (¬ (x4 = 0) → (Q x3 h)))) ∧ (¬ (x4 = 0) → ((rI h c1 3 ≤ x5 → ((x4 = 0 → (zlI M_X2_pick 2 [some (.ref c0), some (.ref c1), some (.int x2), some (.int (x3 + 1)), none, none, none] [] h Q)) ∧ (¬ (x4 = 0) → (Q x3 h)))) ∧ (¬ (rI h c1 3 ≤ x5) → ((x5 = x3 → (zlI M_X2_pick 62 [some (.ref c0), some (.ref c1), some (.int x2), some (.int x3), some (.int x4), some (.int x5), none] [.int 0] h Q)) ∧ (¬ (x5 = x3) → (((x2 >>> (x5 &&& 31)) &&& 1 = 0 → (zlI M_X2_pick 62 [some (.ref c0), some (.ref c1), some (.int x2), some (.int x3), some (.int x4), some (.int x5), none] [.int 0] h Q)) ∧ (¬ ((x2 >>> (x5 &&& 31)) &&& 1 = 0) → (zlI M_X2_pick 62 [some (.ref c0), some (.ref c1), some (.int x2), some (.int x3), some (.int x4), some (.int x5), none] [.int 1] h Q))))))))) : zlI M_X2_pick 28 [some (.ref c0), some (.ref c1), some (.int x2), some (.int x3), some (.int x4), some (.int x5), none] [] h Q := by
  refine z_iload (pc := 28) dX2_pick_28 rfl ?_
  refine z_if_eq (pc := 30) (tgt := 103) dX2_pick_30 (by decide) (fun k6 => ?_) (fun k6 => ?_)
  · replace F := F.1 k6
    refine z_iload (pc := 103) dX2_pick_103 rfl ?_
    refine z_if_eq (pc := 105) (tgt := 110) dX2_pick_105 (by decide) (fun k1 => ?_) (fun k1 => ?_)
    · replace F := F.1 k1
      refine z_iinc (pc := 110) (v := x3 + 1) (ls' := [some (.ref c0), some (.ref c1), some (.int x2), some (.int (x3 + 1)), some (.int x4), some (.int x5), none]) dX2_pick_110 (by decide) rfl rfl rfl ?_
      refine z_goto (pc := 113) (tgt := 2) dX2_pick_113 (by decide) ?_
      exact q_sub (ls' := [some (.ref c0), some (.ref c1), some (.int x2), some (.int (x3 + 1)), none, none, none]) ⟨rfl, rfl, rfl, rfl, trivial⟩ F
    · replace F := F.2 k1
      refine z_iload_n (pc := 108) dX2_pick_108 rfl rfl ?_
      exact q_retI (pc := 109) dX2_pick_109 rfl F
  · replace F := F.2 k6
    refine z_iload (pc := 33) dX2_pick_33 rfl ?_
    refine z_aload_n (pc := 35) dX2_pick_35 rfl rfl ?_
    refine q_getI (pc := 36) (v := rI h c1 3) dX2_pick_36 lk_RX2_68 (lyW0 hc1) rfl ?_
    refine z_icmp_ge (pc := 39) (tgt := 103) dX2_pick_39 (by decide) (fun k5 => ?_) (fun k5 => ?_)
    · replace F := F.1 k5
      refine z_iload (pc := 103) dX2_pick_103 rfl ?_
      refine z_if_eq (pc := 105) (tgt := 110) dX2_pick_105 (by decide) (fun k2 => ?_) (fun k2 => ?_)
      · replace F := F.1 k2
        refine z_iinc (pc := 110) (v := x3 + 1) (ls' := [some (.ref c0), some (.ref c1), some (.int x2), some (.int (x3 + 1)), some (.int x4), some (.int x5), none]) dX2_pick_110 (by decide) rfl rfl rfl ?_
        refine z_goto (pc := 113) (tgt := 2) dX2_pick_113 (by decide) ?_
        exact q_sub (ls' := [some (.ref c0), some (.ref c1), some (.int x2), some (.int (x3 + 1)), none, none, none]) ⟨rfl, rfl, rfl, rfl, trivial⟩ F
      · replace F := F.2 k2
        refine z_iload_n (pc := 108) dX2_pick_108 rfl rfl ?_
        exact q_retI (pc := 109) dX2_pick_109 rfl F
    · replace F := F.2 k5
      refine z_iload (pc := 42) dX2_pick_42 rfl ?_
      refine z_iload_n (pc := 44) dX2_pick_44 rfl rfl ?_
      refine z_icmp_eq (pc := 45) (tgt := 61) dX2_pick_45 (by decide) (fun k4 => ?_) (fun k4 => ?_)
      · replace F := F.1 k4
        refine z_iconst (pc := 61) (v := 0) dX2_pick_61 (by decide) ?_
        exact F
      · replace F := F.2 k4
        refine z_iload_n (pc := 48) dX2_pick_48 rfl rfl ?_
        refine z_iload (pc := 49) dX2_pick_49 rfl ?_
        refine z_ishr (pc := 51) dX2_pick_51 ?_
        refine z_iconst (pc := 52) (v := 1) dX2_pick_52 (by decide) ?_
        refine z_iand (pc := 53) dX2_pick_53 ?_
        refine z_if_eq (pc := 54) (tgt := 61) dX2_pick_54 (by decide) (fun k3 => ?_) (fun k3 => ?_)
        · replace F := F.1 k3
          refine z_iconst (pc := 61) (v := 0) dX2_pick_61 (by decide) ?_
          exact F
        · replace F := F.2 k3
          refine z_iconst (pc := 57) (v := 1) dX2_pick_57 (by decide) ?_
          refine z_goto (pc := 58) (tgt := 62) dX2_pick_58 (by decide) ?_
          exact F
theorem g_X2_pick_62 {c0 : Nat} {c1 : Nat} {x2 : Int32} {x3 : Int32} {x4 : Int32} {x5 : Int32} {xs0 : Int32} {h : zHp} {Q : Int32 → zHp → Prop} (hc0 : zLo c0) (hc1 : zW c1) (G : zG h) (F : (xs0 = 0 → (zlI M_X2_pick 28 [some (.ref c0), some (.ref c1), some (.int x2), some (.int x3), some (.int 1), some (.int (x5 + 1)), none] [] h Q)) ∧ (¬ (xs0 = 0) → (vp_in x3 10 ∧ (zRef h (c1 + 2) ((Int32.toNatClampNeg x3)) 2 ∧ (vp_in x5 10 ∧ (zRef h (c1 + 2) ((Int32.toNatClampNeg x5)) 2 ∧ (zcI M_X2_needs [.ref c0, .ref c1, .ref (rG h (c1 + 2) ((Int32.toNatClampNeg x3))), .ref (rG h (c1 + 2) ((Int32.toNatClampNeg x5)))] h (fun vh1 h1 => zG h1 ∧ ((¬ vh1 = 0 → (zlI M_X2_pick 28 [some (.ref c0), some (.ref c1), some (.int x2), some (.int x3), some (.int 0), some (.int (x5 + 1)), none] [] h1 Q)) ∧ (vh1 = 0 → (zlI M_X2_pick 28 [some (.ref c0), some (.ref c1), some (.int x2), some (.int x3), some (.int 1), some (.int (x5 + 1)), none] [] h1 Q))))))))))) : zlI M_X2_pick 62 [some (.ref c0), some (.ref c1), some (.int x2), some (.int x3), some (.int x4), some (.int x5), none] [.int xs0] h Q := by
  refine z_istore (pc := 62) (ls' := [some (.ref c0), some (.ref c1), some (.int x2), some (.int x3), some (.int x4), some (.int x5), some (.int xs0)]) dX2_pick_62 (by decide) rfl ?_
  refine z_iload (pc := 64) dX2_pick_64 rfl ?_
  refine z_if_eq (pc := 66) (tgt := 90) dX2_pick_66 (by decide) (fun k7 => ?_) (fun k7 => ?_)
  · replace F := F.1 k7
    refine z_iconst (pc := 90) (v := 1) dX2_pick_90 (by decide) ?_
    refine z_goto (pc := 91) (tgt := 95) dX2_pick_91 (by decide) ?_
    refine z_istore (pc := 95) (ls' := [some (.ref c0), some (.ref c1), some (.int x2), some (.int x3), some (.int 1), some (.int x5), some (.int xs0)]) dX2_pick_95 (by decide) rfl ?_
    refine z_iinc (pc := 97) (v := x5 + 1) (ls' := [some (.ref c0), some (.ref c1), some (.int x2), some (.int x3), some (.int 1), some (.int (x5 + 1)), some (.int xs0)]) dX2_pick_97 (by decide) rfl rfl rfl ?_
    refine z_goto (pc := 100) (tgt := 28) dX2_pick_100 (by decide) ?_
    exact q_sub (ls' := [some (.ref c0), some (.ref c1), some (.int x2), some (.int x3), some (.int 1), some (.int (x5 + 1)), none]) ⟨rfl, rfl, rfl, rfl, rfl, rfl, trivial⟩ F
  · replace F := F.2 k7
    refine z_aload_n (pc := 69) dX2_pick_69 rfl rfl ?_
    refine z_aload_n (pc := 70) dX2_pick_70 rfl rfl ?_
    refine z_aload_n (pc := 71) dX2_pick_71 rfl rfl ?_
    refine q_getR (pc := 72) (i := c1 + 2) dX2_pick_72 lk_RX2_56 (lyW0 hc1) (grW2 G hc1) ?_
    refine z_iload_n (pc := 75) dX2_pick_75 rfl rfl ?_
    obtain ⟨k1, F⟩ := F
    obtain ⟨k2, F⟩ := F
    refine q_aald (pc := 76) (j := (Int32.toNatClampNeg x3)) (r := rG h (c1 + 2) ((Int32.toNatClampNeg x3))) (t := 1) dX2_pick_76 (lyW2 hc1) (zvn (lnW2 hc1) k1) rfl k2.1 ?_
    refine z_aload_n (pc := 77) dX2_pick_77 rfl rfl ?_
    refine q_getR (pc := 78) (i := c1 + 2) dX2_pick_78 lk_RX2_56 (lyW0 hc1) (grW2 G hc1) ?_
    refine z_iload (pc := 81) dX2_pick_81 rfl ?_
    obtain ⟨k3, F⟩ := F
    obtain ⟨k4, F⟩ := F
    refine q_aald (pc := 83) (j := (Int32.toNatClampNeg x5)) (r := rG h (c1 + 2) ((Int32.toNatClampNeg x5))) (t := 1) dX2_pick_83 (lyW2 hc1) (zvn (lnW2 hc1) k3) rfl k4.1 ?_
    refine q_invV (pc := 84) (As := [.ref c1, .ref (rG h (c1 + 2) ((Int32.toNatClampNeg x3))), .ref (rG h (c1 + 2) ((Int32.toNatClampNeg x5)))]) (st := []) dX2_pick_84 ok_X2_needs ml_RX2_71 iv_X2_needs pa_X2_needs ⟨Nat.le_of_ble_eq_true rfl, Nat.le_of_ble_eq_true rfl⟩ (lyLo0 hc0) (q_kI F (fun vh1 h1 F => ?_))
    obtain ⟨G1, F⟩ := F
    refine z_if_ne (pc := 87) (tgt := 94) dX2_pick_87 (by decide) (fun k6 => ?_) (fun k6 => ?_)
    · replace F := F.1 k6
      refine z_iconst (pc := 94) (v := 0) dX2_pick_94 (by decide) ?_
      refine z_istore (pc := 95) (ls' := [some (.ref c0), some (.ref c1), some (.int x2), some (.int x3), some (.int 0), some (.int x5), some (.int xs0)]) dX2_pick_95 (by decide) rfl ?_
      refine z_iinc (pc := 97) (v := x5 + 1) (ls' := [some (.ref c0), some (.ref c1), some (.int x2), some (.int x3), some (.int 0), some (.int (x5 + 1)), some (.int xs0)]) dX2_pick_97 (by decide) rfl rfl rfl ?_
      refine z_goto (pc := 100) (tgt := 28) dX2_pick_100 (by decide) ?_
      exact q_sub (ls' := [some (.ref c0), some (.ref c1), some (.int x2), some (.int x3), some (.int 0), some (.int (x5 + 1)), none]) ⟨rfl, rfl, rfl, rfl, rfl, rfl, trivial⟩ F
    · replace F := F.2 k6
      refine z_iconst (pc := 90) (v := 1) dX2_pick_90 (by decide) ?_
      refine z_goto (pc := 91) (tgt := 95) dX2_pick_91 (by decide) ?_
      refine z_istore (pc := 95) (ls' := [some (.ref c0), some (.ref c1), some (.int x2), some (.int x3), some (.int 1), some (.int x5), some (.int xs0)]) dX2_pick_95 (by decide) rfl ?_
      refine z_iinc (pc := 97) (v := x5 + 1) (ls' := [some (.ref c0), some (.ref c1), some (.int x2), some (.int x3), some (.int 1), some (.int (x5 + 1)), some (.int xs0)]) dX2_pick_97 (by decide) rfl rfl rfl ?_
      refine z_goto (pc := 100) (tgt := 28) dX2_pick_100 (by decide) ?_
      exact q_sub (ls' := [some (.ref c0), some (.ref c1), some (.int x2), some (.int x3), some (.int 1), some (.int (x5 + 1)), none]) ⟨rfl, rfl, rfl, rfl, rfl, rfl, trivial⟩ F
theorem s_X2_needs {K B e f : Nat} {N : zN} {h : zHp} (G : zG h) (hK : zLo K) (hB : zW B) (hC : CN N) (hP : PW h B) (hR : RW h B N) (hW : WN N) (he : e < cE N) (hf : f < cE N) : zcI M_X2_needs [.ref K, .ref B, .ref (rG h (B + 2) e), .ref (rG h (B + 2) f)] h (fun r h' => r = zb (Dep N (VL h K) e f) ∧ h' = h) := by
  have h8 := hC.1.2
  have h10 := hC.2.1.2
  have le := (hP.e hB (show e < 10 by omega)).2
  have lf := (hP.e hB (show f < 10 by omega)).2
  have loop : ∀ (m j : Nat), j + m = cT N → (∀ t, t < j → (SE N (VL h K) e t ↔ SE N (Do N (VL h K) f) e t)) → zlI M_X2_needs 3 [some (.ref K), some (.ref B), some (.ref (rG h (B + 2) e)), some (.ref (rG h (B + 2) f)), some (.int (nI j)), none, none] [] h (fun r h' => r = zb (Dep N (VL h K) e f) ∧ h' = h) := by
    intro m
    induction m with
    | zero =>
      intro j hj hi
      have : j = cT N := by omega
      subst this
      refine g_X2_needs_3 hK hB le lf G ⟨fun _ => ⟨(zb_neg ?_).symm, rfl⟩, fun q => absurd (by rw [hR.1.1, hC.1.1]; exact Int32.le_refl _) q⟩
      rintro ⟨t, ht, q⟩
      exact q (hi t ht)
    | succ m ih =>
      intro j hj hi
      have hjn : j < cT N := by omega
      have nx : (SE N (VL h K) e j ↔ SE N (Do N (VL h K) f) e j) → zlI M_X2_needs 3 [some (.ref K), some (.ref B), some (.ref (rG h (B + 2) e)), some (.ref (rG h (B + 2) f)), some (.int (nI j + 1)), none, none] [] h (fun r h' => r = zb (Dep N (VL h K) e f) ∧ h' = h) := by
        intro hh
        rw [nI_1]
        exact ih (j + 1) (by omega) (fun t ht => by
          rcases Nat.lt_or_ge t j with z | z
          · exact hi t z
          · rw [show t = j by omega]; exact hh)
      refine g_X2_needs_3 hK hB le lf G ⟨fun q => absurd q (by rw [hR.1.1, hC.1.1]; exact nI_ge hjn (by omega)), fun _ => ?_⟩
      refine zcI_use (s_X2_holds G hK hB hC hR hW) ⟨G, fun q => nx ?_, fun q => ⟨vp_in_nI (by omega) (by omega), zcI_use (s_X2_holds G hK hB hC hR hW) ⟨G, vp_in_nI (by omega) (by omega), ?_⟩⟩⟩
      · have q1 := zb0.mp q
        rw [ScI_n hC hjn, hR.2.2.1 f 2 hf (by omega), hR.2.2.1 f 3 hf (by omega)] at q1
        have o0 := Do_out (N := N) (L := VL h K) (e := f) (t := j) (k := 0) (fun z => q1 z.2) (by omega)
        have o1 := Do_out (N := N) (L := VL h K) (e := f) (t := j) (k := 1) (fun z => q1 z.2) (by omega)
        simp only [Nat.add_zero] at o0
        unfold SE Sc
        rw [o0, o1]
      · have q1 := zbn.mp q
        rw [ScI_n hC hjn, hR.2.2.1 f 2 hf (by omega), hR.2.2.1 f 3 hf (by omega)] at q1
        have i0 := Do_in (N := N) (L := VL h K) (e := f) (t := j) (k := 0) hjn q1 (by omega)
        have i1 := Do_in (N := N) (L := VL h K) (e := f) (t := j) (k := 1) hjn q1 (by omega)
        simp only [Nat.add_zero] at i0
        rw [nI_clamp (by omega), hR.2.2.1 e 2 he (by omega), hR.2.2.1 e 3 he (by omega), hR.2.2.1 f 1 hf (by omega), hR.2.2.1 f 4 hf (by omega), hR.2.1 j 5 hjn (by omega), hR.2.1 j 0 hjn (by omega)]
        have k1 : ScI N (VL h K) (N (80 + 7 * e + 2)) (N (80 + 7 * e + 3)) (nI j) ↔ SE N (VL h K) e j := ScI_n hC hjn
        have k2 : (¬ N (10 * j + 5) = 0 ∧ pIn (N (10 * j + 0)) (tyU (N (80 + 7 * f + 1)) (N (80 + 7 * f + 4)) (rI h (K + 1) j)) (mkU (N (80 + 7 * f + 1)) (N (80 + 7 * f + 4)) (rI h (K + 2) j)) (nI j) (N (80 + 7 * e + 2)) (N (80 + 7 * e + 3))) ↔ SE N (Do N (VL h K) f) e j := by
          unfold SE Sc Al
          rw [i0, i1, VL_0, VL_at (k := 1) (by omega)]
          constructor
          · rintro ⟨a, b⟩
            exact ⟨(hW.1 j hjn).resolve_left a, b⟩
          · rintro ⟨a, b⟩
            exact ⟨by rw [a]; decide, b⟩
        rw [zb_congr k1, zb_congr k2]
        refine ⟨fun q2 => nx ?_, fun q2 => ⟨(zb_pos ⟨j, hjn, fun z => q2 (zb_congr z)⟩).symm, rfl⟩⟩
        constructor
        · intro z; rw [zb_pos z] at q2; exact zb1.mp q2.symm
        · intro z; rw [zb_pos z] at q2; exact zb1.mp q2
  exact g_X2_needs hK hB le lf G (loop (cT N) 0 (by omega) (fun t ht => by omega))
/-- nothing but the four rows of look K has changed -/
def fK (K : Nat) (h h' : zHp) : Prop := h'.2 = h.2 ∧ ∀ a, a ≠ K + 1 → a ≠ K + 2 → a ≠ K + 3 → a ≠ K + 4 → h'.1 a = h.1 a
theorem zLo_W {K B : Nat} (hK : zLo K) (hB : zW B) : K + 6 ≤ B ∨ B + 40 ≤ K := by
  rcases hK with rfl | rfl <;> rcases hB with rfl | rfl | rfl <;> decide
theorem fK.rw {K B : Nat} {h h' : zHp} {N : zN} (f : fK K h h') (hK : zLo K) (hB : zW B) (hP : PW h B) (hC : CN N) (hR : RW h B N) : RW h' B N := by
  have := zLo_W hK hB
  exact RW_of f.1 (fun a h1 h2 => f.2 a (by omega) (by omega) (by omega) (by omega)) hP hC hR
theorem zlook_c {K B : Nat} (hK : zLo K) (hB : zW B) {c k : Nat} (hc : B ≤ c) (hc2 : c < B + 40) (hk : k < 6) : c ≠ K + k := by
  have := zLo_W hK hB
  omega
/-- the class's changeStrength: what becomes of force and guard -/
theorem s_X2_changeStrength {K c j : Nat} {h : zHp} (G : zG h) (hK : zLo K) (hc : ly c = 2) (hj : j < 8) (hs : 0 ≤ rI h c 1 ∧ rI h c 1 ≤ 5) : zcV M_X2_changeStrength [.ref K, .ref c, .int (nI j)] h (fun h' => h'.2 = h.2 ∧ (∀ a, a ≠ K + 3 → a ≠ K + 4 → h'.1 a = h.1 a) ∧ h'.1 (K + 3) = upd (h.1 (K + 3)) j (foU (rI h c 1) (rI h c 4) (rI h (K + 3) j) (rI h (K + 4) j)) ∧ h'.1 (K + 4) = upd (h.1 (K + 4)) j (guU (rI h c 1) (rI h c 5) (rI h (K + 3) j) (rI h (K + 4) j))) := by
  have uid : ∀ (f : zN) (j : Nat), upd f j (f j) = f := by
    intro f j
    funext i
    by_cases q : i = j
    · subst q; simp [upd]
    · simp [upd, q]
  have fin : ∀ v u : Int32, v = foU (rI h c 1) (rI h c 4) (rI h (K + 3) j) (rI h (K + 4) j) → u = guU (rI h c 1) (rI h c 5) (rI h (K + 3) j) (rI h (K + 4) j) → ((wI (wI h (K + 3) j v) (K + 4) j u).2 = h.2 ∧ (∀ a, a ≠ K + 3 → a ≠ K + 4 → (wI (wI h (K + 3) j v) (K + 4) j u).1 a = h.1 a) ∧ (wI (wI h (K + 3) j v) (K + 4) j u).1 (K + 3) = upd (h.1 (K + 3)) j (foU (rI h c 1) (rI h c 4) (rI h (K + 3) j) (rI h (K + 4) j)) ∧ (wI (wI h (K + 3) j v) (K + 4) j u).1 (K + 4) = upd (h.1 (K + 4)) j (guU (rI h c 1) (rI h c 5) (rI h (K + 3) j) (rI h (K + 4) j))) := by
    intro v u hv hu
    refine ⟨rfl, fun a h1 h2 => by rw [wI_ne h2, wI_ne h1], ?_, ?_⟩
    · rw [wI_ne (by omega), wI_upd, hv]
    · rw [wI_upd, wI_ne (by omega), hu]
  refine g_X2_changeStrength hK hc G ?_
  rw [nI_clamp (by omega)]
  have vj : vp_in (nI j) 8 := vp_in_nI hj (by omega)
  obtain ⟨s, hs1, es⟩ := nI_of2 (M := 5) (n := 5) rfl (Int32.not_lt.mpr hs.1) hs.2
  refine ⟨fun q3 => ⟨fun q4 => ⟨fun q5 => ?_, fun q5 => ⟨vj, fin _ _ ?_ ?_⟩⟩, fun q4 => ⟨vj, fin _ _ ?_ ?_⟩⟩, fun q3 => ⟨vj, fin _ _ ?_ ?_⟩⟩
  · have a012 : rI h c 1 = 0 ∨ rI h c 1 = 1 ∨ rI h c 1 = 2 := by
      rw [es] at q3 q4 q5 ⊢
      rcases (show s = 0 ∨ s = 1 ∨ s = 2 ∨ s = 3 ∨ s = 4 ∨ s = 5 by omega) with rfl | rfl | rfl | rfl | rfl | rfl
      · exact Or.inl rfl
      · exact Or.inr (Or.inl rfl)
      · exact Or.inr (Or.inr rfl)
      · exact absurd rfl q3
      · exact absurd rfl q4
      · exact absurd rfl q5
    refine ⟨rfl, fun a _ _ => rfl, ?_, ?_⟩
    · rw [foU, if_pos a012]; exact (uid _ _).symm
    · rw [guU, if_pos a012]; exact (uid _ _).symm
  · rw [foU, q5]; rfl
  · rw [guU, q5]; rfl
  · rw [foU, q4]; rfl
  · rw [guU, q4]; rfl
  · rw [foU, q3]; rfl
  · rw [guU, q3]; rfl

