/-! words, and what is told -/
theorem s_coder {i : Nat} {h : zHp} (hi : i < 13) : zcI M_J0_coder_7d493 [.ref (1010 + i)] h (fun r h' => r = 0 ∧ h' = h) := by
  show zw zNT zNT M_J0_coder_7d493 0 [some (.ref (1010 + i))] [] h _
  refine z_gsC (pc := 0) dJ0_coder_7d493_0 fl_RJ0_38 ?_
  refine z_if_eq (pc := 3) (tgt := 13) dJ0_coder_7d493_3 (by decide) (fun k => absurd k (by decide)) (fun _ => ?_)
  refine z_aload_n (pc := 6) dJ0_coder_7d493_6 rfl rfl ?_
  refine z_strC (pc := 7) dJ0_coder_7d493_7 fl_RJ0_15 hi ?_
  refine z_goto (pc := 10) (tgt := 14) dJ0_coder_7d493_10 (by decide) ?_
  exact z_ireturn (pc := 14) dJ0_coder_7d493_14 rfl ⟨rfl, rfl⟩ ⟨0, rfl, rfl, rfl⟩
theorem s_latin {i : Nat} {h : zHp} (hi : i < 13) : zcI M_J0_isLatin1_aae02 [.ref (1010 + i)] h (fun r h' => r = 1 ∧ h' = h) := by
  show zw zNT zNT M_J0_isLatin1_aae02 0 [some (.ref (1010 + i))] [] h _
  refine z_gsC (pc := 0) dJ0_isLatin1_aae02_0 fl_RJ0_38 ?_
  refine z_if_eq (pc := 3) (tgt := 17) dJ0_isLatin1_aae02_3 (by decide) (fun k => absurd k (by decide)) (fun _ => ?_)
  refine z_aload_n (pc := 6) dJ0_isLatin1_aae02_6 rfl rfl ?_
  refine z_strC (pc := 7) dJ0_isLatin1_aae02_7 fl_RJ0_15 hi ?_
  refine z_if_ne (pc := 10) (tgt := 17) dJ0_isLatin1_aae02_10 (by decide) (fun k => absurd rfl k) (fun _ => ?_)
  refine z_iconst (pc := 13) (v := 1) dJ0_isLatin1_aae02_13 (by decide) ?_
  refine z_goto (pc := 14) (tgt := 18) dJ0_isLatin1_aae02_14 (by decide) ?_
  exact q_retB (pc := 18) dJ0_isLatin1_aae02_18 rfl (Or.inr rfl) ⟨rfl, rfl⟩
/-- how long word i is, and its signs -/
def wl (i : Nat) : Nat := zSlen.getD i 0
def wc (i j : Nat) : Int32 := (zSbyt.getD i []).getD j 0
theorem wl_all : ∀ i, i < 13 → nI (wl i) >>> ((0 : Int32) &&& 31) = nI (wl i) ∧ wl i ≤ 7 ∧ (zSbyt.getD i []).length = wl i := by decide
theorem wc_all : ∀ i, i < 13 → ∀ j, j < 7 → ((Int32.toUInt32 (wc i j &&& 255)) % 65536).toInt32 = wc i j ∧ (Int32.toInt8 (wc i j)).toInt32 = wc i j := by decide +kernel
theorem s_len {i : Nat} {h : zHp} (hi : i < 13) : zcI M_J0_length_8abf5 [.ref (1010 + i)] h (fun r h' => r = nI (wl i) ∧ h' = h) := by
  show zw zNT zNT M_J0_length_8abf5 0 [some (.ref (1010 + i))] [] h _
  refine z_aload_n (pc := 0) dJ0_length_8abf5_0 rfl rfl ?_
  refine z_strV (pc := 1) dJ0_length_8abf5_1 fl_RJ0_9 hi ?_
  refine z_strLen (pc := 4) dJ0_length_8abf5_4 hi ?_
  refine z_aload_n (pc := 5) dJ0_length_8abf5_5 rfl rfl ?_
  refine q_invVS (pc := 6) (i := i) (As := []) (st := [.int (nI (zSlen.getD i 0))]) dJ0_length_8abf5_6 ok_J0_coder_7d493 ms_RJ0_335 iv_J0_coder_7d493 pa_J0_coder_7d493 ⟨Nat.le_of_ble_eq_true rfl, Nat.le_of_ble_eq_true rfl⟩ hi (q_pI (s_coder hi) rfl ?_)
  refine z_ishr (pc := 9) dJ0_length_8abf5_9 ?_
  exact q_retI (pc := 10) dJ0_length_8abf5_10 rfl ⟨(wl_all i hi).1, rfl⟩
theorem s_chk {x n : Nat} {h : zHp} (hx : x < n) (hn : n < 2 ^ 31) : zcI M_J3_checkIndex_8e157 [.int (nI x), .int (nI n), .ref 1002] h (fun r h' => r = nI x ∧ h' = h) := by
  show zw zNT zNT M_J3_checkIndex_8e157 0 [some (.int (nI x)), some (.int (nI n)), some (.ref 1002)] [] h _
  refine z_iload_n (pc := 0) dJ3_checkIndex_8e157_0 rfl rfl ?_
  refine z_if_lt (pc := 1) (tgt := 9) dJ3_checkIndex_8e157_1 (by decide) (fun k => absurd k (nI_pos (by omega))) (fun _ => ?_)
  refine z_iload_n (pc := 4) dJ3_checkIndex_8e157_4 rfl rfl ?_
  refine z_iload_n (pc := 5) dJ3_checkIndex_8e157_5 rfl rfl ?_
  refine z_icmp_lt (pc := 6) (tgt := 16) dJ3_checkIndex_8e157_6 (by decide) (fun _ => ?_) (fun k => absurd (nI_lt hx hn) k)
  refine z_iload_n (pc := 16) dJ3_checkIndex_8e157_16 rfl rfl ?_
  exact q_retI (pc := 17) dJ3_checkIndex_8e157_17 rfl ⟨rfl, rfl⟩
theorem s_chk0 {x n : Nat} {h : zHp} (hx : x < n) (hn : n < 2 ^ 31) : zcV M_J0_checkIndex_df160 [.int (nI x), .int (nI n)] h (fun h' => h' = h) := by
  show zw zNT zNT M_J0_checkIndex_df160 0 [some (.int (nI x)), some (.int (nI n))] [] h _
  refine z_iload_n (pc := 0) dJ0_checkIndex_df160_0 rfl rfl ?_
  refine z_iload_n (pc := 1) dJ0_checkIndex_df160_1 rfl rfl ?_
  refine z_gsF (pc := 2) dJ0_checkIndex_df160_2 fl_RJ0_1053 ?_
  refine q_invS (pc := 5) (As := [.int (nI x), .int (nI n), .ref 1002]) (st := []) dJ0_checkIndex_df160_5 ok_J3_checkIndex_8e157 ml_RJ0_1059 st_J3_checkIndex_8e157 pa_J3_checkIndex_8e157 ⟨Nat.le_of_ble_eq_true rfl, Nat.le_of_ble_eq_true rfl⟩ (q_pI (s_chk hx hn) rfl ?_)
  refine z_pop (pc := 8) dJ0_checkIndex_df160_8 rfl ?_
  exact q_retV (pc := 9) dJ0_checkIndex_df160_9 rfl rfl
theorem s_charL {i j : Nat} {h : zHp} (hi : i < 13) (hj : j < wl i) : zcI M_J1_charAt_3b067 [.ref (1030 + i), .int (nI j)] h (fun r h' => r = wc i j ∧ h' = h) := by
  have w7 := (wl_all i hi).2.1
  have e := (wc_all i hi j (by omega)).1
  have hin : vp_in (nI j) (zSlen.getD i 0) := vp_in_nI hj (by change wl i < 2 ^ 31; omega)
  show zw zNT zNT M_J1_charAt_3b067 0 [some (.ref (1030 + i)), some (.int (nI j))] [] h _
  refine z_iload_n (pc := 0) dJ1_charAt_3b067_0 rfl rfl ?_
  refine z_aload_n (pc := 1) dJ1_charAt_3b067_1 rfl rfl ?_
  refine z_strLen (pc := 2) dJ1_charAt_3b067_2 hi ?_
  refine q_invS (pc := 3) (As := [.int (nI j), .int (nI (zSlen.getD i 0))]) (st := []) dJ1_charAt_3b067_3 ok_J0_checkIndex_df160 ml_RJ1_9 st_J0_checkIndex_df160 pa_J0_checkIndex_df160 ⟨Nat.le_of_ble_eq_true rfl, Nat.le_of_ble_eq_true rfl⟩ (q_pV (s_chk0 (n := wl i) hj (by omega)) ?_)
  refine z_aload_n (pc := 6) dJ1_charAt_3b067_6 rfl rfl ?_
  refine z_iload_n (pc := 7) dJ1_charAt_3b067_7 rfl rfl ?_
  refine z_strB (pc := 8) (j := j) dJ1_charAt_3b067_8 hi hin (nI_clamp (by omega)) ?_
  refine z_sipush (pc := 9) (v := 255) dJ1_charAt_3b067_9 (by decide) ?_
  refine z_iand (pc := 12) dJ1_charAt_3b067_12 ?_
  refine z_i2c (pc := 13) dJ1_charAt_3b067_13 ?_
  exact z_ireturn (pc := 14) dJ1_charAt_3b067_14 rfl ⟨rfl, pk_nc _⟩ ⟨_, rfl, e, rfl⟩
theorem s_char {i j : Nat} {h : zHp} (hi : i < 13) (hj : j < wl i) : zcI M_J0_charAt_5068e [.ref (1010 + i), .int (nI j)] h (fun r h' => r = wc i j ∧ h' = h) := by
  have w7 := (wl_all i hi).2.1
  have e := (wc_all i hi j (by omega)).1
  show zw zNT zNT M_J0_charAt_5068e 0 [some (.ref (1010 + i)), some (.int (nI j))] [] h _
  refine z_aload_n (pc := 0) dJ0_charAt_5068e_0 rfl rfl ?_
  refine q_invVS (pc := 1) (i := i) (As := []) (st := []) dJ0_charAt_5068e_1 ok_J0_isLatin1_aae02 ms_RJ0_492 iv_J0_isLatin1_aae02 pa_J0_isLatin1_aae02 ⟨Nat.le_of_ble_eq_true rfl, Nat.le_of_ble_eq_true rfl⟩ hi (q_pI (s_latin hi) rfl ?_)
  refine z_if_eq (pc := 4) (tgt := 16) dJ0_charAt_5068e_4 (by decide) (fun k => absurd k (by decide)) (fun _ => ?_)
  refine z_aload_n (pc := 7) dJ0_charAt_5068e_7 rfl rfl ?_
  refine z_strV (pc := 8) dJ0_charAt_5068e_8 fl_RJ0_9 hi ?_
  refine z_iload_n (pc := 11) dJ0_charAt_5068e_11 rfl rfl ?_
  refine q_invS (pc := 12) (As := [.ref (1030 + i), .int (nI j)]) (st := []) dJ0_charAt_5068e_12 ok_J1_charAt_3b067 ml_RJ0_495 st_J1_charAt_3b067 pa_J1_charAt_3b067 ⟨Nat.le_of_ble_eq_true rfl, Nat.le_of_ble_eq_true rfl⟩ (q_pI (s_charL hi hj) rfl ?_)
  exact z_ireturn (pc := 15) dJ0_charAt_5068e_15 rfl ⟨rfl, by have := pk_nc (wc i j &&& 255); rw [e] at this; exact this⟩ ⟨_, rfl, rfl, rfl⟩
theorem g_X5_appendSign {c0 : Nat} {x1 : Int32} {h : zHp} {Q : zHp → Prop} (hc0 : zSh c0) (G : zG h) (F : (40 ≤ rI h c0 1 → (Q h)) ∧ (¬ (40 ≤ rI h c0 1) → (vp_in (rI h c0 1) 40 ∧ (Q (wI (wI h (c0 + 1) ((Int32.toNatClampNeg (rI h c0 1))) ((Int32.toInt8 x1).toInt32)) c0 1 ((rI h c0 1) + 1)))))) : zcV M_X5_appendSign [.ref c0, .int x1] h Q := by
  show zw zNT zNT M_X5_appendSign 0 [some (.ref c0), some (.int x1)] [] h _
  refine z_aload_n (pc := 0) dX5_appendSign_0 rfl rfl ?_
  refine q_getI (pc := 1) (v := rI h c0 1) dX5_appendSign_1 lk_RX5_19 (lySh0 hc0) rfl ?_
  refine z_bipush (pc := 4) (v := 40) dX5_appendSign_4 (by decide) ?_
  refine z_icmp_ge (pc := 6) (tgt := 30) dX5_appendSign_6 (by decide) (fun k2 => ?_) (fun k2 => ?_)
  · replace F := F.1 k2
    exact q_retV (pc := 30) dX5_appendSign_30 rfl F
  · replace F := F.2 k2
    refine z_aload_n (pc := 9) dX5_appendSign_9 rfl rfl ?_
    refine q_getR (pc := 10) (i := c0 + 1) dX5_appendSign_10 lk_RX5_15 (lySh0 hc0) (grSh2 G hc0) ?_
    refine z_aload_n (pc := 13) dX5_appendSign_13 rfl rfl ?_
    refine q_getI (pc := 14) (v := rI h c0 1) dX5_appendSign_14 lk_RX5_19 (lySh0 hc0) rfl ?_
    refine z_iload_n (pc := 17) dX5_appendSign_17 rfl rfl ?_
    refine z_i2b (pc := 18) dX5_appendSign_18 ?_
    obtain ⟨k1, F⟩ := F
    refine q_iast (pc := 19) (j := (Int32.toNatClampNeg (rI h c0 1))) dX5_appendSign_19 (lySh1 hc0) (zvn (lnSh1 hc0) k1) rfl ?_
    refine z_aload_n (pc := 20) dX5_appendSign_20 rfl rfl ?_
    refine z_dup (pc := 21) dX5_appendSign_21 rfl ?_
    refine q_getI (pc := 22) (v := rI h c0 1) dX5_appendSign_22 lk_RX5_19 (lySh0 hc0) (rI_c (zne (lySh0 hc0) (lySh1 hc0) (by decide))) ?_
    refine z_iconst (pc := 25) (v := 1) dX5_appendSign_25 (by decide) ?_
    refine z_iadd (pc := 26) dX5_appendSign_26 ?_
    refine q_putI (pc := 27) dX5_appendSign_27 lk_RX5_19 (lySh0 hc0) ?_
    exact q_retV (pc := 30) dX5_appendSign_30 rfl F
theorem g_X5_appendText {c0 : Nat} {i1 : Nat} {h : zHp} {Q : zHp → Prop} (hc0 : zSh c0) (hi1 : i1 < 13) (G : zG h) (F : zlV M_X5_appendText 2 [some (.ref c0), some (.ref (1010 + i1)), some (.int 0)] [] h Q) : zcV M_X5_appendText [.ref c0, .ref (1010 + i1)] h Q := by
  show zw zNT zNT M_X5_appendText 0 [some (.ref c0), some (.ref (1010 + i1)), none] [] h _
  refine z_iconst (pc := 0) (v := 0) dX5_appendText_0 (by decide) ?_
  refine z_istore_n (pc := 1) (ls' := [some (.ref c0), some (.ref (1010 + i1)), some (.int 0)]) dX5_appendText_1 rfl (by decide) rfl ?_
  exact F
theorem g_X5_appendText_2 {c0 : Nat} {i1 : Nat} {x2 : Int32} {h : zHp} {Q : zHp → Prop} (hc0 : zSh c0) (hi1 : i1 < 13) (G : zG h) (F : zcI M_J0_length_8abf5 [.ref (1010 + i1)] h (fun vh1 h1 => zG h1 ∧ ((vh1 ≤ x2 → (Q h1)) ∧ (¬ (vh1 ≤ x2) → (zcI M_J0_charAt_5068e [.ref (1010 + i1), .int x2] h1 (fun vh2 h2 => zG h2 ∧ (zcV M_X5_appendSign [.ref c0, .int vh2] h2 (fun h3 => zG h3 ∧ (zlV M_X5_appendText 2 [some (.ref c0), some (.ref (1010 + i1)), some (.int (x2 + 1))] [] h3 Q))))))))) : zlV M_X5_appendText 2 [some (.ref c0), some (.ref (1010 + i1)), some (.int x2)] [] h Q := by
  refine z_iload_n (pc := 2) dX5_appendText_2 rfl rfl ?_
  refine z_aload_n (pc := 3) dX5_appendText_3 rfl rfl ?_
  refine q_invVS (pc := 4) (i := i1) (As := []) (st := [.int x2]) dX5_appendText_4 ok_J0_length_8abf5 ms_RX5_26 iv_J0_length_8abf5 pa_J0_length_8abf5 ⟨Nat.le_of_ble_eq_true rfl, Nat.le_of_ble_eq_true rfl⟩ hi1 (q_kI F (fun vh1 h1 F => ?_))
  obtain ⟨G1, F⟩ := F
  refine z_icmp_ge (pc := 7) (tgt := 25) dX5_appendText_7 (by decide) (fun k4 => ?_) (fun k4 => ?_)
  · replace F := F.1 k4
    exact q_retV (pc := 25) dX5_appendText_25 rfl F
  · replace F := F.2 k4
    refine z_aload_n (pc := 10) dX5_appendText_10 rfl rfl ?_
    refine z_aload_n (pc := 11) dX5_appendText_11 rfl rfl ?_
    refine z_iload_n (pc := 12) dX5_appendText_12 rfl rfl ?_
    refine q_invVS (pc := 13) (i := i1) (As := [.int x2]) (st := [.ref c0]) dX5_appendText_13 ok_J0_charAt_5068e ms_RX5_31 iv_J0_charAt_5068e pa_J0_charAt_5068e ⟨Nat.le_of_ble_eq_true rfl, Nat.le_of_ble_eq_true rfl⟩ hi1 (q_kI F (fun vh2 h2 F => ?_))
    obtain ⟨G2, F⟩ := F
    refine q_invV (pc := 16) (As := [.int vh2]) (st := []) dX5_appendText_16 ok_X5_appendSign ml_RX5_35 iv_X5_appendSign pa_X5_appendSign ⟨Nat.le_of_ble_eq_true rfl, Nat.le_of_ble_eq_true rfl⟩ (lySh0 hc0) (q_kV F (fun h3 F => ?_))
    obtain ⟨G3, F⟩ := F
    refine z_iinc (pc := 19) (v := x2 + 1) (ls' := [some (.ref c0), some (.ref (1010 + i1)), some (.int (x2 + 1))]) dX5_appendText_19 (by decide) rfl rfl rfl ?_
    refine z_goto (pc := 22) (tgt := 2) dX5_appendText_22 (by decide) ?_
    exact F
theorem g_X5_appendValue {c0 : Nat} {x1 : Int32} {h : zHp} {Q : zHp → Prop} (hc0 : zSh c0) (G : zG h) (F : zcV M_X5_appendSign [.ref c0, .int 32] h (fun h1 => zG h1 ∧ ((0 ≤ x1 → (zcV M_X5_appendSign [.ref c0, .int ((Int32.toUInt32 (48 + (if 0 ≤ x1 then x1 else 0 - x1)) % 65536).toInt32)] h1 (fun h2 => zG h2 ∧ (Q h2)))) ∧ (¬ (0 ≤ x1) → (zcV M_X5_appendSign [.ref c0, .int 45] h1 (fun h3 => zG h3 ∧ (zcV M_X5_appendSign [.ref c0, .int ((Int32.toUInt32 (48 + (if 0 ≤ x1 then x1 else 0 - x1)) % 65536).toInt32)] h3 (fun h4 => zG h4 ∧ (Q h4))))))))) : zcV M_X5_appendValue [.ref c0, .int x1] h Q := by
  show zw zNT zNT M_X5_appendValue 0 [some (.ref c0), some (.int x1)] [] h _
  refine z_aload_n (pc := 0) dX5_appendValue_0 rfl rfl ?_
  refine z_bipush (pc := 1) (v := 32) dX5_appendValue_1 (by decide) ?_
  refine q_invV (pc := 3) (As := [.int 32]) (st := []) dX5_appendValue_3 ok_X5_appendSign ml_RX5_35 iv_X5_appendSign pa_X5_appendSign ⟨Nat.le_of_ble_eq_true rfl, Nat.le_of_ble_eq_true rfl⟩ (lySh0 hc0) (q_kV F (fun h1 F => ?_))
  obtain ⟨G1, F⟩ := F
  refine z_iload_n (pc := 6) dX5_appendValue_6 rfl rfl ?_
  refine z_if_ge (pc := 7) (tgt := 16) dX5_appendValue_7 (by decide) (fun k5 => ?_) (fun k5 => ?_)
  · replace F := F.1 k5
    refine z_aload_n (pc := 16) dX5_appendValue_16 rfl rfl ?_
    refine z_bipush (pc := 17) (v := 48) dX5_appendValue_17 (by decide) ?_
    refine z_iload_n (pc := 19) dX5_appendValue_19 rfl rfl ?_
    refine z_abs (pc := 20) dX5_appendValue_20 ⟨pl_RX5_39, pw_absS, pw_Math, pw_absC⟩ (zcat_of rfl) ⟨Nat.le_of_ble_eq_true rfl, Nat.le_of_ble_eq_true rfl⟩ ?_
    refine z_iadd (pc := 23) dX5_appendValue_23 ?_
    refine z_i2c (pc := 24) dX5_appendValue_24 ?_
    refine q_invV (pc := 25) (As := [.int ((Int32.toUInt32 (48 + (if 0 ≤ x1 then x1 else 0 - x1)) % 65536).toInt32)]) (st := []) dX5_appendValue_25 ok_X5_appendSign ml_RX5_35 iv_X5_appendSign pa_X5_appendSign ⟨Nat.le_of_ble_eq_true rfl, Nat.le_of_ble_eq_true rfl⟩ (lySh0 hc0) (q_kV F (fun h2 F => ?_))
    obtain ⟨G2, F⟩ := F
    exact q_retV (pc := 28) dX5_appendValue_28 rfl F
  · replace F := F.2 k5
    refine z_aload_n (pc := 10) dX5_appendValue_10 rfl rfl ?_
    refine z_bipush (pc := 11) (v := 45) dX5_appendValue_11 (by decide) ?_
    refine q_invV (pc := 13) (As := [.int 45]) (st := []) dX5_appendValue_13 ok_X5_appendSign ml_RX5_35 iv_X5_appendSign pa_X5_appendSign ⟨Nat.le_of_ble_eq_true rfl, Nat.le_of_ble_eq_true rfl⟩ (lySh0 hc0) (q_kV F (fun h3 F => ?_))
    obtain ⟨G3, F⟩ := F
    refine z_aload_n (pc := 16) dX5_appendValue_16 rfl rfl ?_
    refine z_bipush (pc := 17) (v := 48) dX5_appendValue_17 (by decide) ?_
    refine z_iload_n (pc := 19) dX5_appendValue_19 rfl rfl ?_
    refine z_abs (pc := 20) dX5_appendValue_20 ⟨pl_RX5_39, pw_absS, pw_Math, pw_absC⟩ (zcat_of rfl) ⟨Nat.le_of_ble_eq_true rfl, Nat.le_of_ble_eq_true rfl⟩ ?_
    refine z_iadd (pc := 23) dX5_appendValue_23 ?_
    refine z_i2c (pc := 24) dX5_appendValue_24 ?_
    refine q_invV (pc := 25) (As := [.int ((Int32.toUInt32 (48 + (if 0 ≤ x1 then x1 else 0 - x1)) % 65536).toInt32)]) (st := []) dX5_appendValue_25 ok_X5_appendSign ml_RX5_35 iv_X5_appendSign pa_X5_appendSign ⟨Nat.le_of_ble_eq_true rfl, Nat.le_of_ble_eq_true rfl⟩ (lySh0 hc0) (q_kV F (fun h4 F => ?_))
    obtain ⟨G4, F⟩ := F
    exact q_retV (pc := 28) dX5_appendValue_28 rfl F
theorem g_X10_scopeWord {x0 : Int32} {h : zHp} {Q : Nat → zHp → Prop}  (G : zG h) (F : (x0 = 0 → (Q (1010 + 0) h)) ∧ (¬ x0 = 0 → ((x0 = 1 → (Q (1010 + 1) h)) ∧ (¬ x0 = 1 → ((x0 = 2 → (Q (1010 + 2) h)) ∧ (¬ x0 = 2 → ((x0 = 3 → (Q (1010 + 3) h)) ∧ (¬ x0 = 3 → ((x0 = 4 → (Q (1010 + 4) h)) ∧ (¬ x0 = 4 → (Q (1010 + 5) h))))))))))) : zcR M_X10_scopeWord [.int x0] h Q := by
  show zw zNT zNT M_X10_scopeWord 0 [some (.int x0)] [] h _
  refine z_iload_n (pc := 0) dX10_scopeWord_0 rfl rfl ?_
  by_cases k1 : x0 = 0
  · replace F := F.1 k1
    refine z_tableIn (pc := 1) (x := x0) (tgt := 36) (off := 35) dX10_scopeWord_1 (by rw [k1]; decide) (by rw [k1]; decide) (by rw [k1]; decide) (by decide) ?_
    refine z_ldcwS (pc := 36) (i := 0) (tx := "all") dX10_scopeWord_36 (List.mem_of_getElem? (i := 0) rfl) (by decide) ?_
    exact q_retR (pc := 39) dX10_scopeWord_39 rfl F
  · replace F := F.2 k1
    by_cases k2 : x0 = 1
    · replace F := F.1 k2
      refine z_tableIn (pc := 1) (x := x0) (tgt := 40) (off := 39) dX10_scopeWord_1 (by rw [k2]; decide) (by rw [k2]; decide) (by rw [k2]; decide) (by decide) ?_
      refine z_ldcwS (pc := 40) (i := 1) (tx := "owner") dX10_scopeWord_40 (List.mem_of_getElem? (i := 1) rfl) (by decide) ?_
      exact q_retR (pc := 43) dX10_scopeWord_43 rfl F
    · replace F := F.2 k2
      by_cases k3 : x0 = 2
      · replace F := F.1 k3
        refine z_tableIn (pc := 1) (x := x0) (tgt := 44) (off := 43) dX10_scopeWord_1 (by rw [k3]; decide) (by rw [k3]; decide) (by rw [k3]; decide) (by decide) ?_
        refine z_ldcwS (pc := 44) (i := 2) (tx := "type") dX10_scopeWord_44 (List.mem_of_getElem? (i := 2) rfl) (by decide) ?_
        exact q_retR (pc := 47) dX10_scopeWord_47 rfl F
      · replace F := F.2 k3
        by_cases k4 : x0 = 3
        · replace F := F.1 k4
          refine z_tableIn (pc := 1) (x := x0) (tgt := 48) (off := 47) dX10_scopeWord_1 (by rw [k4]; decide) (by rw [k4]; decide) (by rw [k4]; decide) (by decide) ?_
          refine z_ldcwS (pc := 48) (i := 3) (tx := "with") dX10_scopeWord_48 (List.mem_of_getElem? (i := 3) rfl) (by decide) ?_
          exact q_retR (pc := 51) dX10_scopeWord_51 rfl F
        · replace F := F.2 k4
          by_cases k5 : x0 = 4
          · replace F := F.1 k5
            refine z_tableIn (pc := 1) (x := x0) (tgt := 52) (off := 51) dX10_scopeWord_1 (by rw [k5]; decide) (by rw [k5]; decide) (by rw [k5]; decide) (by decide) ?_
            refine z_ldcwS (pc := 52) (i := 4) (tx := "without") dX10_scopeWord_52 (List.mem_of_getElem? (i := 4) rfl) (by decide) ?_
            exact q_retR (pc := 55) dX10_scopeWord_55 rfl F
          · replace F := F.2 k5
            have hz0 := q_sw (0) k1 (by decide)
            have hz1 := q_sw (1) k2 (by decide)
            have hz2 := q_sw (2) k3 (by decide)
            have hz3 := q_sw (3) k4 (by decide)
            have hz4 := q_sw (4) k5 (by decide)
            refine z_tableOut (pc := 1) (tgt := 56) dX10_scopeWord_1 (by omega) (by decide) ?_
            refine z_ldcwS (pc := 56) (i := 5) (tx := "thing") dX10_scopeWord_56 (List.mem_of_getElem? (i := 5) rfl) (by decide) ?_
            exact q_retR (pc := 59) dX10_scopeWord_59 rfl F
theorem g_X10_deedWord {x0 : Int32} {h : zHp} {Q : Nat → zHp → Prop}  (G : zG h) (F : (x0 = 0 → (Q (1010 + 6) h)) ∧ (¬ x0 = 0 → ((x0 = 1 → (Q (1010 + 7) h)) ∧ (¬ x0 = 1 → ((x0 = 2 → (Q (1010 + 8) h)) ∧ (¬ x0 = 2 → ((x0 = 3 → (Q (1010 + 9) h)) ∧ (¬ x0 = 3 → ((x0 = 4 → (Q (1010 + 10) h)) ∧ (¬ x0 = 4 → (Q (1010 + 11) h))))))))))) : zcR M_X10_deedWord [.int x0] h Q := by
  show zw zNT zNT M_X10_deedWord 0 [some (.int x0)] [] h _
  refine z_iload_n (pc := 0) dX10_deedWord_0 rfl rfl ?_
  by_cases k1 : x0 = 0
  · replace F := F.1 k1
    refine z_tableIn (pc := 1) (x := x0) (tgt := 36) (off := 35) dX10_deedWord_1 (by rw [k1]; decide) (by rw [k1]; decide) (by rw [k1]; decide) (by decide) ?_
    refine z_ldcwS (pc := 36) (i := 6) (tx := "is") dX10_deedWord_36 (List.mem_of_getElem? (i := 6) rfl) (by decide) ?_
    exact q_retR (pc := 39) dX10_deedWord_39 rfl F
  · replace F := F.2 k1
    by_cases k2 : x0 = 1
    · replace F := F.1 k2
      refine z_tableIn (pc := 1) (x := x0) (tgt := 40) (off := 39) dX10_deedWord_1 (by rw [k2]; decide) (by rw [k2]; decide) (by rw [k2]; decide) (by decide) ?_
      refine z_ldcwS (pc := 40) (i := 7) (tx := "gains") dX10_deedWord_40 (List.mem_of_getElem? (i := 7) rfl) (by decide) ?_
      exact q_retR (pc := 43) dX10_deedWord_43 rfl F
    · replace F := F.2 k2
      by_cases k3 : x0 = 2
      · replace F := F.1 k3
        refine z_tableIn (pc := 1) (x := x0) (tgt := 44) (off := 43) dX10_deedWord_1 (by rw [k3]; decide) (by rw [k3]; decide) (by rw [k3]; decide) (by decide) ?_
        refine z_ldcwS (pc := 44) (i := 8) (tx := "loses") dX10_deedWord_44 (List.mem_of_getElem? (i := 8) rfl) (by decide) ?_
        exact q_retR (pc := 47) dX10_deedWord_47 rfl F
      · replace F := F.2 k3
        by_cases k4 : x0 = 3
        · replace F := F.1 k4
          refine z_tableIn (pc := 1) (x := x0) (tgt := 48) (off := 47) dX10_deedWord_1 (by rw [k4]; decide) (by rw [k4]; decide) (by rw [k4]; decide) (by decide) ?_
          refine z_ldcwS (pc := 48) (i := 9) (tx := "sets") dX10_deedWord_48 (List.mem_of_getElem? (i := 9) rfl) (by decide) ?_
          exact q_retR (pc := 51) dX10_deedWord_51 rfl F
        · replace F := F.2 k4
          by_cases k5 : x0 = 4
          · replace F := F.1 k5
            refine z_tableIn (pc := 1) (x := x0) (tgt := 52) (off := 51) dX10_deedWord_1 (by rw [k5]; decide) (by rw [k5]; decide) (by rw [k5]; decide) (by decide) ?_
            refine z_ldcwS (pc := 52) (i := 10) (tx := "gets") dX10_deedWord_52 (List.mem_of_getElem? (i := 10) rfl) (by decide) ?_
            exact q_retR (pc := 55) dX10_deedWord_55 rfl F
          · replace F := F.2 k5
            have hz0 := q_sw (0) k1 (by decide)
            have hz1 := q_sw (1) k2 (by decide)
            have hz2 := q_sw (2) k3 (by decide)
            have hz3 := q_sw (3) k4 (by decide)
            have hz4 := q_sw (4) k5 (by decide)
            refine z_tableOut (pc := 1) (tgt := 56) dX10_deedWord_1 (by omega) (by decide) ?_
            refine z_ldcwS (pc := 56) (i := 11) (tx := "swaps") dX10_deedWord_56 (List.mem_of_getElem? (i := 11) rfl) (by decide) ?_
            exact q_retR (pc := 59) dX10_deedWord_59 rfl F
theorem g_X11_says {x1 : Int32} {x2 : Int32} {h : zHp} {Q : zHp → Prop}  (G : zG h) (F : vp_in ((40 * x1) + (rI h 164 29)) 160 ∧ (Q (wI (wI h 180 ((Int32.toNatClampNeg ((40 * x1) + (rI h 164 29)))) x2) 164 29 ((rI h 164 29) + 1)))) : zcV M_X11_says [.ref 164, .int x1, .int x2] h Q := by
  show zw zNT zNT M_X11_says 0 [some (.ref 164), some (.int x1), some (.int x2)] [] h _
  refine z_aload_n (pc := 0) dX11_says_0 rfl rfl ?_
  refine q_getR (pc := 1) (i := 180) dX11_says_1 lk_RX11_81 (lyc rfl) (G 164 32 180 rfl) ?_
  refine z_bipush (pc := 4) (v := 40) dX11_says_4 (by decide) ?_
  refine z_iload_n (pc := 6) dX11_says_6 rfl rfl ?_
  refine z_imul (pc := 7) dX11_says_7 ?_
  refine z_aload_n (pc := 8) dX11_says_8 rfl rfl ?_
  refine q_getI (pc := 9) (v := rI h 164 29) dX11_says_9 lk_RX11_291 (lyc rfl) rfl ?_
  refine z_iadd (pc := 12) dX11_says_12 ?_
  refine z_iload_n (pc := 13) dX11_says_13 rfl rfl ?_
  obtain ⟨k1, F⟩ := F
  refine q_iast (pc := 14) (j := (Int32.toNatClampNeg ((40 * x1) + (rI h 164 29)))) dX11_says_14 (lyc rfl) (zvn (lnc rfl) k1) rfl ?_
  refine z_aload_n (pc := 15) dX11_says_15 rfl rfl ?_
  refine z_dup (pc := 16) dX11_says_16 rfl ?_
  refine q_getI (pc := 17) (v := rI h 164 29) dX11_says_17 lk_RX11_291 (lyc rfl) (rI_c (by decide)) ?_
  refine z_iconst (pc := 20) (v := 1) dX11_says_20 (by decide) ?_
  refine z_iadd (pc := 21) dX11_says_21 ?_
  refine q_putI (pc := 22) dX11_says_22 lk_RX11_291 (lyc rfl) ?_
  exact q_retV (pc := 25) dX11_says_25 rfl F
theorem g_X11_saysWord {x1 : Int32} {i2 : Nat} {h : zHp} {Q : zHp → Prop} (hi2 : i2 < 13) (G : zG h) (F : (rI h 164 29 ≤ 0 → (zlV M_X11_saysWord 16 [some (.ref 164), some (.int x1), some (.ref (1010 + i2)), some (.int 0)] [] h Q)) ∧ (¬ (rI h 164 29 ≤ 0) → (zcV M_X11_says [.ref 164, .int x1, .int 32] h (fun h1 => zG h1 ∧ (zlV M_X11_saysWord 16 [some (.ref 164), some (.int x1), some (.ref (1010 + i2)), some (.int 0)] [] h1 Q))))) : zcV M_X11_saysWord [.ref 164, .int x1, .ref (1010 + i2)] h Q := by
  show zw zNT zNT M_X11_saysWord 0 [some (.ref 164), some (.int x1), some (.ref (1010 + i2)), none] [] h _
  refine z_aload_n (pc := 0) dX11_saysWord_0 rfl rfl ?_
  refine q_getI (pc := 1) (v := rI h 164 29) dX11_saysWord_1 lk_RX11_291 (lyc rfl) rfl ?_
  refine z_if_le (pc := 4) (tgt := 14) dX11_saysWord_4 (by decide) (fun k2 => ?_) (fun k2 => ?_)
  · replace F := F.1 k2
    refine z_iconst (pc := 14) (v := 0) dX11_saysWord_14 (by decide) ?_
    refine z_istore_n (pc := 15) (ls' := [some (.ref 164), some (.int x1), some (.ref (1010 + i2)), some (.int 0)]) dX11_saysWord_15 rfl (by decide) rfl ?_
    exact F
  · replace F := F.2 k2
    refine z_aload_n (pc := 7) dX11_saysWord_7 rfl rfl ?_
    refine z_iload_n (pc := 8) dX11_saysWord_8 rfl rfl ?_
    refine z_bipush (pc := 9) (v := 32) dX11_saysWord_9 (by decide) ?_
    refine q_invV (pc := 11) (As := [.int x1, .int 32]) (st := []) dX11_saysWord_11 ok_X11_says ml_RX11_294 iv_X11_says pa_X11_says ⟨Nat.le_of_ble_eq_true rfl, Nat.le_of_ble_eq_true rfl⟩ (lyc rfl) (q_kV F (fun h1 F => ?_))
    obtain ⟨G1, F⟩ := F
    refine z_iconst (pc := 14) (v := 0) dX11_saysWord_14 (by decide) ?_
    refine z_istore_n (pc := 15) (ls' := [some (.ref 164), some (.int x1), some (.ref (1010 + i2)), some (.int 0)]) dX11_saysWord_15 rfl (by decide) rfl ?_
    exact F
theorem g_X11_saysWord_16 {x1 : Int32} {i2 : Nat} {x3 : Int32} {h : zHp} {Q : zHp → Prop} (hi2 : i2 < 13) (G : zG h) (F : zcI M_J0_length_8abf5 [.ref (1010 + i2)] h (fun vh1 h1 => zG h1 ∧ ((vh1 ≤ x3 → (Q h1)) ∧ (¬ (vh1 ≤ x3) → (zcI M_J0_charAt_5068e [.ref (1010 + i2), .int x3] h1 (fun vh2 h2 => zG h2 ∧ (zcV M_X11_says [.ref 164, .int x1, .int vh2] h2 (fun h3 => zG h3 ∧ (zlV M_X11_saysWord 16 [some (.ref 164), some (.int x1), some (.ref (1010 + i2)), some (.int (x3 + 1))] [] h3 Q))))))))) : zlV M_X11_saysWord 16 [some (.ref 164), some (.int x1), some (.ref (1010 + i2)), some (.int x3)] [] h Q := by
  refine z_iload_n (pc := 16) dX11_saysWord_16 rfl rfl ?_
  refine z_aload_n (pc := 17) dX11_saysWord_17 rfl rfl ?_
  refine q_invVS (pc := 18) (i := i2) (As := []) (st := [.int x3]) dX11_saysWord_18 ok_J0_length_8abf5 ms_RX11_260 iv_J0_length_8abf5 pa_J0_length_8abf5 ⟨Nat.le_of_ble_eq_true rfl, Nat.le_of_ble_eq_true rfl⟩ hi2 (q_kI F (fun vh1 h1 F => ?_))
  obtain ⟨G1, F⟩ := F
  refine z_icmp_ge (pc := 21) (tgt := 40) dX11_saysWord_21 (by decide) (fun k4 => ?_) (fun k4 => ?_)
  · replace F := F.1 k4
    exact q_retV (pc := 40) dX11_saysWord_40 rfl F
  · replace F := F.2 k4
    refine z_aload_n (pc := 24) dX11_saysWord_24 rfl rfl ?_
    refine z_iload_n (pc := 25) dX11_saysWord_25 rfl rfl ?_
    refine z_aload_n (pc := 26) dX11_saysWord_26 rfl rfl ?_
    refine z_iload_n (pc := 27) dX11_saysWord_27 rfl rfl ?_
    refine q_invVS (pc := 28) (i := i2) (As := [.int x3]) (st := [.int x1, .ref 164]) dX11_saysWord_28 ok_J0_charAt_5068e ms_RX11_263 iv_J0_charAt_5068e pa_J0_charAt_5068e ⟨Nat.le_of_ble_eq_true rfl, Nat.le_of_ble_eq_true rfl⟩ hi2 (q_kI F (fun vh2 h2 F => ?_))
    obtain ⟨G2, F⟩ := F
    refine q_invV (pc := 31) (As := [.int x1, .int vh2]) (st := []) dX11_saysWord_31 ok_X11_says ml_RX11_294 iv_X11_says pa_X11_says ⟨Nat.le_of_ble_eq_true rfl, Nat.le_of_ble_eq_true rfl⟩ (lyc rfl) (q_kV F (fun h3 F => ?_))
    obtain ⟨G3, F⟩ := F
    refine z_iinc (pc := 34) (v := x3 + 1) (ls' := [some (.ref 164), some (.int x1), some (.ref (1010 + i2)), some (.int (x3 + 1))]) dX11_saysWord_34 (by decide) rfl rfl rfl ?_
    refine z_goto (pc := 37) (tgt := 16) dX11_saysWord_37 (by decide) ?_
    exact F
theorem g_X11_saysNumber {x1 : Int32} {x2 : Int32} {h : zHp} {Q : zHp → Prop}  (G : zG h) (F : zcV M_X11_says [.ref 164, .int x1, .int 32] h (fun h1 => zG h1 ∧ ((0 ≤ x2 → (zlV M_X11_saysNumber 18 [some (.ref 164), some (.int x1), some (.int x2)] [] h1 Q)) ∧ (¬ (0 ≤ x2) → (zcV M_X11_says [.ref 164, .int x1, .int 45] h1 (fun h2 => zG h2 ∧ (zlV M_X11_saysNumber 18 [some (.ref 164), some (.int x1), some (.int x2)] [] h2 Q))))))) : zcV M_X11_saysNumber [.ref 164, .int x1, .int x2] h Q := by
  show zw zNT zNT M_X11_saysNumber 0 [some (.ref 164), some (.int x1), some (.int x2)] [] h _
  refine z_aload_n (pc := 0) dX11_saysNumber_0 rfl rfl ?_
  refine z_iload_n (pc := 1) dX11_saysNumber_1 rfl rfl ?_
  refine z_bipush (pc := 2) (v := 32) dX11_saysNumber_2 (by decide) ?_
  refine q_invV (pc := 4) (As := [.int x1, .int 32]) (st := []) dX11_saysNumber_4 ok_X11_says ml_RX11_294 iv_X11_says pa_X11_says ⟨Nat.le_of_ble_eq_true rfl, Nat.le_of_ble_eq_true rfl⟩ (lyc rfl) (q_kV F (fun h1 F => ?_))
  obtain ⟨G1, F⟩ := F
  refine z_iload_n (pc := 7) dX11_saysNumber_7 rfl rfl ?_
  refine z_if_ge (pc := 8) (tgt := 18) dX11_saysNumber_8 (by decide) (fun k3 => ?_) (fun k3 => ?_)
  · replace F := F.1 k3
    exact F
  · replace F := F.2 k3
    refine z_aload_n (pc := 11) dX11_saysNumber_11 rfl rfl ?_
    refine z_iload_n (pc := 12) dX11_saysNumber_12 rfl rfl ?_
    refine z_bipush (pc := 13) (v := 45) dX11_saysNumber_13 (by decide) ?_
    refine q_invV (pc := 15) (As := [.int x1, .int 45]) (st := []) dX11_saysNumber_15 ok_X11_says ml_RX11_294 iv_X11_says pa_X11_says ⟨Nat.le_of_ble_eq_true rfl, Nat.le_of_ble_eq_true rfl⟩ (lyc rfl) (q_kV F (fun h2 F => ?_))
    obtain ⟨G2, F⟩ := F
    exact F
theorem g_X11_saysNumber_18 {x1 : Int32} {x2 : Int32} {h : zHp} {Q : zHp → Prop}  (G : zG h) (F : (0 ≤ x2 → (zcV M_X11_says [.ref 164, .int x1, .int (48 + x2)] h (fun h1 => zG h1 ∧ (Q h1)))) ∧ (¬ (0 ≤ x2) → (zcV M_X11_says [.ref 164, .int x1, .int (48 + (-x2))] h (fun h2 => zG h2 ∧ (Q h2))))) : zlV M_X11_saysNumber 18 [some (.ref 164), some (.int x1), some (.int x2)] [] h Q := by
  refine z_aload_n (pc := 18) dX11_saysNumber_18 rfl rfl ?_
  refine z_iload_n (pc := 19) dX11_saysNumber_19 rfl rfl ?_
  refine z_bipush (pc := 20) (v := 48) dX11_saysNumber_20 (by decide) ?_
  refine z_iload_n (pc := 22) dX11_saysNumber_22 rfl rfl ?_
  refine z_if_ge (pc := 23) (tgt := 31) dX11_saysNumber_23 (by decide) (fun k3 => ?_) (fun k3 => ?_)
  · replace F := F.1 k3
    refine z_iload_n (pc := 31) dX11_saysNumber_31 rfl rfl ?_
    refine z_iadd (pc := 32) dX11_saysNumber_32 ?_
    refine q_invV (pc := 33) (As := [.int x1, .int (48 + x2)]) (st := []) dX11_saysNumber_33 ok_X11_says ml_RX11_294 iv_X11_says pa_X11_says ⟨Nat.le_of_ble_eq_true rfl, Nat.le_of_ble_eq_true rfl⟩ (lyc rfl) (q_kV F (fun h1 F => ?_))
    obtain ⟨G1, F⟩ := F
    exact q_retV (pc := 36) dX11_saysNumber_36 rfl F
  · replace F := F.2 k3
    refine z_iload_n (pc := 26) dX11_saysNumber_26 rfl rfl ?_
    refine z_ineg (pc := 27) dX11_saysNumber_27 ?_
    refine z_goto (pc := 28) (tgt := 32) dX11_saysNumber_28 (by decide) ?_
    refine z_iadd (pc := 32) dX11_saysNumber_32 ?_
    refine q_invV (pc := 33) (As := [.int x1, .int (48 + (-x2))]) (st := []) dX11_saysNumber_33 ok_X11_says ml_RX11_294 iv_X11_says pa_X11_says ⟨Nat.le_of_ble_eq_true rfl, Nat.le_of_ble_eq_true rfl⟩ (lyc rfl) (q_kV F (fun h2 F => ?_))
    obtain ⟨G2, F⟩ := F
    exact q_retV (pc := 36) dX11_saysNumber_36 rfl F
/-- sheet c of the class holds the signs l -/
def RpC (h : zHp) (c : Nat) (l : List Int32) : Prop := rI h c 0 = 0 ∧ rI h c 1 = nI l.length ∧ l.length ≤ 40 ∧ ∀ k, k < 40 → rI h (c + 1) k = l.getD k 0
def fQ (c : Nat) (h h' : zHp) : Prop := h'.2 = h.2 ∧ ∀ a, a ≠ c → a ≠ c + 1 → h'.1 a = h.1 a
theorem fQ.rf {c : Nat} {h : zHp} : fQ c h h := ⟨rfl, fun _ _ _ => rfl⟩
theorem fQ.tr {c : Nat} {h h' h2 : zHp} (a : fQ c h h') (b : fQ c h' h2) : fQ c h h2 := ⟨b.1.trans a.1, fun z z1 z2 => (b.2 z z1 z2).trans (a.2 z z1 z2)⟩
theorem snoc_at {l : List Int32} {x : Int32} {k : Nat} : (l ++ [x]).getD k 0 = if k = l.length then x else l.getD k 0 := by
  rw [List.getD_eq_getElem?_getD, List.getD_eq_getElem?_getD, List.getElem?_append]
  by_cases z : k < l.length
  · rw [if_pos z, if_neg (by omega)]
  · rw [if_neg z]
    by_cases y : k = l.length
    · rw [if_pos y, y, Nat.sub_self]
      rfl
    · rw [if_neg y, List.getElem?_eq_none (by simp; omega), List.getElem?_eq_none (by omega)]
theorem s_X5_appendSign {c : Nat} {x : Int32} {l : List Int32} {h : zHp} (G : zG h) (hc : zSh c) (r : RpC h c l) (hl : l.length < 40) : zcV M_X5_appendSign [.ref c, .int x] h (fun h' => fQ c h h' ∧ RpC h' c (l ++ [(Int32.toInt8 x).toInt32])) := by
  refine g_X5_appendSign hc G ?_
  rw [r.2.1, nI_clamp (by omega), nI_1]
  refine ⟨fun z => absurd z (nI_ge (b := 40) hl (by omega)), fun _ => ⟨vp_in_nI (by omega) (by omega), ⟨rfl, fun a z1 z2 => by rw [wI_ne z1, wI_ne z2]⟩, ?_, ?_, ?_, fun k hk => ?_⟩⟩
  · rw [rI_k (by decide), rI_c (by omega)]; exact r.1
  · rw [rI_s, List.length_append]; rfl
  · rw [List.length_append]; show l.length + 1 ≤ 40; omega
  · rw [rI_c (by omega), snoc_at]
    by_cases z : k = l.length
    · rw [if_pos z, z, rI_s]
    · rw [if_neg z, rI_k z]; exact r.2.2.2 k hk
theorem app_take {w : List Int32} {j : Nat} (hj : j < w.length) : w.take (j + 1) = w.take j ++ [w.getD j 0] := by
  rw [List.take_succ, List.getD_eq_getElem?_getD, List.getElem?_eq_getElem hj]
  rfl
theorem s_X5_appendText {c i : Nat} {l : List Int32} {h : zHp} (G : zG h) (hc : zSh c) (hi : i < 13) (r : RpC h c l) (hl : l.length + wl i ≤ 40) : zcV M_X5_appendText [.ref c, .ref (1010 + i)] h (fun h' => fQ c h h' ∧ RpC h' c (l ++ zSbyt.getD i [])) := by
  obtain ⟨-, w7, wL⟩ := wl_all i hi
  have loop : ∀ (m j : Nat) (h' : zHp), j + m = wl i → fQ c h h' → RpC h' c (l ++ (zSbyt.getD i []).take j) → zlV M_X5_appendText 2 [some (.ref c), some (.ref (1010 + i)), some (.int (nI j))] [] h' (fun h' => fQ c h h' ∧ RpC h' c (l ++ zSbyt.getD i [])) := by
    intro m
    induction m with
    | zero =>
      intro j h' hj f rr
      have : j = wl i := by omega
      subst this
      refine g_X5_appendText_2 hc hi (zG_of f.1 G) (zcI_use (s_len hi) ⟨zG_of f.1 G, fun _ => ⟨f, ?_⟩, fun z => absurd (Int32.le_refl _) z⟩)
      rw [List.take_of_length_le (by omega)] at rr
      exact rr
    | succ m ih =>
      intro j h' hj f rr
      have hj' : j < wl i := by omega
      refine g_X5_appendText_2 hc hi (zG_of f.1 G) (zcI_use (s_len hi) ⟨zG_of f.1 G, fun z => absurd z (nI_ge hj' (by omega)), fun _ => zcI_use (s_char hi hj') ⟨zG_of f.1 G, ?_⟩⟩)
      refine zcV_then (s_X5_appendSign (zG_of f.1 G) hc rr (by rw [List.length_append, List.length_take]; omega)) (fun h2 hh => ⟨zG_of (hh.1.1.trans f.1) G, ?_⟩)
      rw [nI_1]
      refine ih (j + 1) h2 (by omega) (f.tr hh.1) ?_
      have h2' := hh.2
      rw [(wc_all i hi j (by omega)).2, List.append_assoc] at h2'
      rw [app_take (by omega)]
      exact h2'
  refine g_X5_appendText hc hi G (loop (wl i) 0 h (by omega) fQ.rf ?_)
  rw [List.take_zero, List.append_nil]
  exact r
/-- a blank and a number of one digit -/
def numL (v : Int32) : List Int32 := if 0 ≤ v then [32, 48 + v] else [32, 45, 48 + (-v)]
theorem dig_all : ∀ k : Fin 19, ∀ v : Int32, v = Int32.ofInt ((k.val : Int) - 9) → (Int32.toInt8 ((Int32.toUInt32 (48 + (if 0 ≤ v then v else 0 - v)) % 65536).toInt32)).toInt32 = 48 + (if 0 ≤ v then v else -v) := by
  intro k v h
  subst h
  revert k
  decide +kernel
theorem dig_iv {v : Int32} (h : iv (-9) 9 v) : (Int32.toInt8 ((Int32.toUInt32 (48 + (if 0 ≤ v then v else 0 - v)) % 65536).toInt32)).toInt32 = 48 + (if 0 ≤ v then v else -v) := by
  refine dig_all ⟨(v.toInt + 9).toNat, by have := h.1; have := h.2; omega⟩ v ?_
  have := h.1
  have := h.2
  show v = Int32.ofInt (((v.toInt + 9).toNat : Int) - 9)
  rw [Int.toNat_of_nonneg (by omega), show v.toInt + 9 - 9 = v.toInt by omega, Int32.ofInt_toInt]
theorem numL_len {v : Int32} : (numL v).length ≤ 3 := by
  unfold numL
  split
  · show 2 ≤ 3
    omega
  · show 3 ≤ 3
    omega
theorem s_X5_appendValue {c : Nat} {v : Int32} {l : List Int32} {h : zHp} (G : zG h) (hc : zSh c) (r : RpC h c l) (hl : l.length + 3 ≤ 40) (hv : iv (-9) 9 v) : zcV M_X5_appendValue [.ref c, .int v] h (fun h' => fQ c h h' ∧ RpC h' c (l ++ numL v)) := by
  have d := dig_iv hv
  refine g_X5_appendValue hc G (zcV_then (s_X5_appendSign G hc r (by omega)) (fun h1 hh => ⟨zG_of hh.1.1 G, ?_⟩))
  obtain ⟨f1, r1⟩ := hh
  have G1 := zG_of f1.1 G
  rw [show (Int32.toInt8 32).toInt32 = 32 by decide] at r1
  unfold numL
  refine ⟨fun z => ?_, fun z => ?_⟩
  · refine zcV_then (s_X5_appendSign G1 hc r1 (by rw [List.length_append]; show l.length + 1 < 40; omega)) (fun h2 hh => ⟨zG_of hh.1.1 G1, f1.tr hh.1, ?_⟩)
    have h2' := hh.2
    rw [d, if_pos z, List.append_assoc] at h2'
    rw [if_pos z]
    exact h2'
  · refine zcV_then (s_X5_appendSign G1 hc r1 (by rw [List.length_append]; show l.length + 1 < 40; omega)) (fun h2 hh => ⟨zG_of hh.1.1 G1, ?_⟩)
    obtain ⟨f2, r2⟩ := hh
    have G2 := zG_of f2.1 G1
    rw [show (Int32.toInt8 45).toInt32 = 45 by decide] at r2
    refine zcV_then (s_X5_appendSign G2 hc r2 (by rw [List.length_append, List.length_append]; show l.length + 1 + 1 < 40; omega)) (fun h3 hh => ⟨zG_of hh.1.1 G2, (f1.tr f2).tr hh.1, ?_⟩)
    have h3' := hh.2
    rw [d, if_neg z, List.append_assoc, List.append_assoc] at h3'
    rw [if_neg z]
    exact h3'
/-- sheet s of the reference holds the signs l -/
def RpM (h : zHp) (s : Nat) (l : List Int32) : Prop := rI h 164 29 = nI l.length ∧ ∀ k, k < 40 → rI h 180 (40 * s + k) = l.getD k 0
theorem fSh.rf {s : Nat} {h : zHp} : fSh s h h := ⟨rfl, fun _ _ => rfl, fun _ _ => rfl, fun _ _ => ⟨rfl, rfl⟩, fun _ _ => rfl⟩
theorem fSh.tr {s : Nat} {h h' h2 : zHp} (a : fSh s h h') (b : fSh s h' h2) : fSh s h h2 := ⟨b.1.trans a.1, fun z hz => (b.2.1 z hz).trans (a.2.1 z hz), fun k hk => (b.2.2.1 k hk).trans (a.2.2.1 k hk), fun q hq => ⟨(b.2.2.2.1 q hq).1.trans (a.2.2.2.1 q hq).1, (b.2.2.2.1 q hq).2.trans (a.2.2.2.1 q hq).2⟩, fun i hi => (b.2.2.2.2 i hi).trans (a.2.2.2.2 i hi)⟩
theorem s_X11_says {s : Nat} {x : Int32} {l : List Int32} {h : zHp} (G : zG h) (hs : s < 4) (r : RpM h s l) (hl : l.length < 40) : zcV M_X11_says [.ref 164, .int (nI s), .int x] h (fun h' => fSh s h h' ∧ RpM h' s (l ++ [x])) := by
  have ix := ixS (s := s) (i := l.length) hs hl
  refine g_X11_says G ?_
  rw [r.1, ix.2, nI_1]
  refine ⟨ix.1, ⟨rfl, fun a ha => by rw [wI_ne (by omega), wI_ne (by omega)], fun k hk => ?_, fun q _ => ⟨by rw [rI_c (by decide), rI_c (by decide)], by rw [rI_c (by decide), rI_c (by decide)]⟩, fun i hi => by rw [rI_c (by decide), rI_k (by omega)]⟩, by rw [rI_s, List.length_append]; rfl, fun k hk => ?_⟩
  · show rI _ 164 k = rI h 164 k
    rw [rI_k hk, rI_c (by decide)]
  · rw [rI_c (by decide), snoc_at]
    by_cases z : k = l.length
    · rw [if_pos z, z, rI_s]
    · rw [if_neg z, rI_k (by omega)]; exact r.2 k hk
theorem s_saysW {s i : Nat} {l : List Int32} {h : zHp} (G : zG h) (hs : s < 4) (hi : i < 13) (r : RpM h s l) (hl : l.length + wl i ≤ 40) : zlV M_X11_saysWord 16 [some (.ref 164), some (.int (nI s)), some (.ref (1010 + i)), some (.int 0)] [] h (fun h' => fSh s h h' ∧ RpM h' s (l ++ zSbyt.getD i [])) := by
  obtain ⟨-, w7, wL⟩ := wl_all i hi
  have loop : ∀ (m j : Nat) (h' : zHp), j + m = wl i → fSh s h h' → RpM h' s (l ++ (zSbyt.getD i []).take j) → zlV M_X11_saysWord 16 [some (.ref 164), some (.int (nI s)), some (.ref (1010 + i)), some (.int (nI j))] [] h' (fun h' => fSh s h h' ∧ RpM h' s (l ++ zSbyt.getD i [])) := by
    intro m
    induction m with
    | zero =>
      intro j h' hj f rr
      have : j = wl i := by omega
      subst this
      refine g_X11_saysWord_16 hi (zG_of f.1 G) (zcI_use (s_len hi) ⟨zG_of f.1 G, fun _ => ⟨f, ?_⟩, fun z => absurd (Int32.le_refl _) z⟩)
      rw [List.take_of_length_le (by omega)] at rr
      exact rr
    | succ m ih =>
      intro j h' hj f rr
      have hj' : j < wl i := by omega
      refine g_X11_saysWord_16 hi (zG_of f.1 G) (zcI_use (s_len hi) ⟨zG_of f.1 G, fun z => absurd z (nI_ge hj' (by omega)), fun _ => zcI_use (s_char hi hj') ⟨zG_of f.1 G, ?_⟩⟩)
      refine zcV_then (s_X11_says (zG_of f.1 G) hs rr (by rw [List.length_append, List.length_take]; omega)) (fun h2 hh => ⟨zG_of (hh.1.1.trans f.1) G, ?_⟩)
      rw [nI_1]
      refine ih (j + 1) h2 (by omega) (f.tr hh.1) ?_
      have h2' := hh.2
      rw [List.append_assoc] at h2'
      rw [app_take (by omega)]
      exact h2'
  refine loop (wl i) 0 h (by omega) fSh.rf ?_
  rw [List.take_zero, List.append_nil]
  exact r
theorem s_saysWord0 {s i : Nat} {h : zHp} (G : zG h) (hs : s < 4) (hi : i < 13) (r : RpM h s []) : zcV M_X11_saysWord [.ref 164, .int (nI s), .ref (1010 + i)] h (fun h' => fSh s h h' ∧ RpM h' s ([] ++ zSbyt.getD i [])) := by
  have w7 := (wl_all i hi).2.1
  refine g_X11_saysWord hi G ?_
  rw [r.1]
  exact ⟨fun _ => s_saysW G hs hi r (by show 0 + wl i ≤ 40; omega), fun z => absurd (by decide) z⟩
theorem s_saysWord1 {s i : Nat} {l : List Int32} {h : zHp} (G : zG h) (hs : s < 4) (hi : i < 13) (r : RpM h s l) (h0 : 0 < l.length) (hl : l.length + 1 + wl i ≤ 40) : zcV M_X11_saysWord [.ref 164, .int (nI s), .ref (1010 + i)] h (fun h' => fSh s h h' ∧ RpM h' s ((l ++ [32]) ++ zSbyt.getD i [])) := by
  refine g_X11_saysWord hi G ?_
  rw [r.1]
  refine ⟨fun z => absurd z (nI_nle h0 (by omega)), fun _ => zcV_then (s_X11_says G hs r (by omega)) (fun h1 hh => ⟨zG_of hh.1.1 G, ?_⟩)⟩
  refine zw.mono (s_saysW (zG_of hh.1.1 G) hs hi hh.2 (by rw [List.length_append]; exact hl)) (fun rr h2 hr => ?_)
  obtain ⟨rfl, a, b⟩ := hr
  exact ⟨rfl, hh.1.tr a, b⟩
theorem s_X11_saysNumber {s : Nat} {v : Int32} {l : List Int32} {h : zHp} (G : zG h) (hs : s < 4) (r : RpM h s l) (hl : l.length + 3 ≤ 40) : zcV M_X11_saysNumber [.ref 164, .int (nI s), .int v] h (fun h' => fSh s h h' ∧ RpM h' s (l ++ numL v)) := by
  refine g_X11_saysNumber G (zcV_then (s_X11_says G hs r (by omega)) (fun h1 hh => ⟨zG_of hh.1.1 G, ?_⟩))
  obtain ⟨f1, r1⟩ := hh
  have G1 := zG_of f1.1 G
  unfold numL
  refine ⟨fun z => ?_, fun z => ?_⟩
  · refine g_X11_saysNumber_18 G1 ⟨fun _ => zcV_then (s_X11_says G1 hs r1 (by rw [List.length_append]; show l.length + 1 < 40; omega)) (fun h2 hh => ⟨zG_of hh.1.1 G1, f1.tr hh.1, ?_⟩), fun y => absurd z y⟩
    have h2' := hh.2
    rw [List.append_assoc] at h2'
    rw [if_pos z]
    exact h2'
  · refine zcV_then (s_X11_says G1 hs r1 (by rw [List.length_append]; show l.length + 1 < 40; omega)) (fun h2 hh => ⟨zG_of hh.1.1 G1, ?_⟩)
    obtain ⟨f2, r2⟩ := hh
    have G2 := zG_of f2.1 G1
    refine g_X11_saysNumber_18 G2 ⟨fun y => absurd y z, fun _ => zcV_then (s_X11_says G2 hs r2 (by rw [List.length_append, List.length_append]; show l.length + 1 + 1 < 40; omega)) (fun h3 hh => ⟨zG_of hh.1.1 G2, (f1.tr f2).tr hh.1, ?_⟩)⟩
    have h3' := hh.2
    rw [List.append_assoc, List.append_assoc] at h3'
    rw [if_neg z]
    exact h3'
theorem s_scopeWord {k : Nat} {h : zHp} (G : zG h) (hk : k ≤ 5) : zcR M_X10_scopeWord [.int (nI k)] h (fun c h' => c = 1010 + k ∧ h' = h) := by
  refine g_X10_scopeWord G ?_
  rcases (by omega : k = 0 ∨ k = 1 ∨ k = 2 ∨ k = 3 ∨ k = 4 ∨ k = 5) with z | z | z | z | z | z <;> subst z
  · exact ⟨fun _ => ⟨rfl, rfl⟩, fun z => absurd rfl z⟩
  · exact ⟨fun z => absurd z (by decide), fun _ => ⟨fun _ => ⟨rfl, rfl⟩, fun z => absurd rfl z⟩⟩
  · exact ⟨fun z => absurd z (by decide), fun _ => ⟨fun z => absurd z (by decide), fun _ => ⟨fun _ => ⟨rfl, rfl⟩, fun z => absurd rfl z⟩⟩⟩
  · exact ⟨fun z => absurd z (by decide), fun _ => ⟨fun z => absurd z (by decide), fun _ => ⟨fun z => absurd z (by decide), fun _ => ⟨fun _ => ⟨rfl, rfl⟩, fun z => absurd rfl z⟩⟩⟩⟩
  · exact ⟨fun z => absurd z (by decide), fun _ => ⟨fun z => absurd z (by decide), fun _ => ⟨fun z => absurd z (by decide), fun _ => ⟨fun z => absurd z (by decide), fun _ => ⟨fun _ => ⟨rfl, rfl⟩, fun z => absurd rfl z⟩⟩⟩⟩⟩
  · exact ⟨fun z => absurd z (by decide), fun _ => ⟨fun z => absurd z (by decide), fun _ => ⟨fun z => absurd z (by decide), fun _ => ⟨fun z => absurd z (by decide), fun _ => ⟨fun z => absurd z (by decide), fun _ => ⟨rfl, rfl⟩⟩⟩⟩⟩⟩
theorem s_deedWord {k : Nat} {h : zHp} (G : zG h) (hk : k ≤ 5) : zcR M_X10_deedWord [.int (nI k)] h (fun c h' => c = 1010 + (6 + k) ∧ h' = h) := by
  refine g_X10_deedWord G ?_
  rcases (by omega : k = 0 ∨ k = 1 ∨ k = 2 ∨ k = 3 ∨ k = 4 ∨ k = 5) with z | z | z | z | z | z <;> subst z
  · exact ⟨fun _ => ⟨rfl, rfl⟩, fun z => absurd rfl z⟩
  · exact ⟨fun z => absurd z (by decide), fun _ => ⟨fun _ => ⟨rfl, rfl⟩, fun z => absurd rfl z⟩⟩
  · exact ⟨fun z => absurd z (by decide), fun _ => ⟨fun z => absurd z (by decide), fun _ => ⟨fun _ => ⟨rfl, rfl⟩, fun z => absurd rfl z⟩⟩⟩
  · exact ⟨fun z => absurd z (by decide), fun _ => ⟨fun z => absurd z (by decide), fun _ => ⟨fun z => absurd z (by decide), fun _ => ⟨fun _ => ⟨rfl, rfl⟩, fun z => absurd rfl z⟩⟩⟩⟩
  · exact ⟨fun z => absurd z (by decide), fun _ => ⟨fun z => absurd z (by decide), fun _ => ⟨fun z => absurd z (by decide), fun _ => ⟨fun z => absurd z (by decide), fun _ => ⟨fun _ => ⟨rfl, rfl⟩, fun z => absurd rfl z⟩⟩⟩⟩⟩
  · exact ⟨fun z => absurd z (by decide), fun _ => ⟨fun z => absurd z (by decide), fun _ => ⟨fun z => absurd z (by decide), fun _ => ⟨fun z => absurd z (by decide), fun _ => ⟨fun z => absurd z (by decide), fun _ => ⟨rfl, rfl⟩⟩⟩⟩⟩⟩
theorem zcR_use {N : zMI} {args : List Value} {h g : zHp} {a : Nat} {Φ : Nat → zHp → Prop} (S : zcR N args h (fun r h' => r = a ∧ h' = g)) (k : Φ a g) : zcR N args h Φ := zw.mono S (fun r h' hr => by obtain ⟨v, rfl, e1, e2⟩ := hr; exact ⟨v, rfl, by rw [e1, e2]; exact k⟩)

