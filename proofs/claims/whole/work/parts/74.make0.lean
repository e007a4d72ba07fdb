/-! the constructors -/
/-- from cell n on nothing is written -/
def Bl (h : zHp) (n : Nat) : Prop := ∀ c, n ≤ c → c < 1000 → ∀ k, h.1 c k = 0 ∧ h.2 c k = none
theorem Bl.mono {h : zHp} {n m : Nat} (b : Bl h n) (hm : n ≤ m) : Bl h m := fun c h1 h2 k => b c (by omega) h2 k
theorem Bl.wR {h : zHp} {n c k : Nat} {v : Option Nat} (b : Bl h n) (hc : c < n) : Bl (wR h c k v) n := fun d h1 h2 j => ⟨(b d h1 h2 j).1, by rw [wR_ne (by omega)]; exact (b d h1 h2 j).2⟩
theorem Bl.wI {h : zHp} {n c k : Nat} {v : Int32} (b : Bl h n) (hc : c < n) : Bl (wI h c k v) n := fun d h1 h2 j => ⟨by rw [wI_ne (by omega)]; exact (b d h1 h2 j).1, (b d h1 h2 j).2⟩
/-- a row of references in order -/
def fillR (h : zHp) (c b i m : Nat) : zHp := (h.1, fun a k => if a = c ∧ i ≤ k ∧ k < m then some (b + k) else h.2 a k)
theorem fillR_end {h : zHp} {c b m : Nat} : fillR h c b m m = h := by
  refine Prod.ext rfl ?_
  funext a k
  show (if a = c ∧ m ≤ k ∧ k < m then some (b + k) else h.2 a k) = _
  rw [if_neg (by omega)]
theorem fillR_step {h : zHp} {c b i m : Nat} (hi : i < m) : fillR (wR h c i (some (b + i))) c b (i + 1) m = fillR h c b i m := by
  refine Prod.ext rfl ?_
  funext a k
  show (if a = c ∧ i + 1 ≤ k ∧ k < m then some (b + k) else if a = c ∧ k = i then some (b + i) else h.2 a k) = (if a = c ∧ i ≤ k ∧ k < m then some (b + k) else h.2 a k)
  by_cases e : k = i
  · subst e
    by_cases ea : a = c
    · rw [if_neg (by omega), if_pos ⟨ea, rfl⟩, if_pos ⟨ea, by omega, by omega⟩]
    · rw [if_neg (by omega), if_neg (by omega), if_neg (by omega)]
  · by_cases ea : a = c ∧ i + 1 ≤ k ∧ k < m
    · rw [if_pos ea, if_pos (by omega)]
    · rw [if_neg ea, if_neg (by omega), if_neg (by omega)]
theorem Bl.fill {h : zHp} {n c b i m : Nat} (q : Bl h n) (hc : c < n) : Bl (fillR h c b i m) n := fun d h1 h2 j => ⟨(q d h1 h2 j).1, by
  show (if d = c ∧ i ≤ j ∧ j < m then some (b + j) else h.2 d j) = none
  rw [if_neg (by omega)]; exact (q d h1 h2 j).2⟩
theorem rR_s {h : zHp} {c k : Nat} {v : Option Nat} : rR (wR h c k v) c k = v := by simp [rR, wR]
theorem rR_k {h : zHp} {c c' k k' : Nat} {v : Option Nat} (hk : k' ≠ k) : rR (wR h c k v) c' k' = rR h c' k' := by simp [rR, wR, hk]
theorem rR_c {h : zHp} {c c' k k' : Nat} {v : Option Nat} (hc : c' ≠ c) : rR (wR h c k v) c' k' = rR h c' k' := by simp [rR, wR, hc]
theorem rR_i {h : zHp} {c c' k k' : Nat} {v : Int32} : rR (wI h c k v) c' k' = rR h c' k' := rfl
theorem rR_f {h : zHp} {c c' b i m k' : Nat} (hc : c' ≠ c) : rR (fillR h c b i m) c' k' = rR h c' k' := by simp [rR, fillR, hc]
section ZCon
variable {nX n nY : Nat} {M N : zMI} {pc : Nat} {ls : List (Option Value)} {st : List Value} {h g : zHp} {Q : Option Value → zHp → Prop}
theorem c_obj {idx c : Nat} (hd : decode M.2.1 pc = .ok (.invokespecial idx, 3)) (hL : Cond.methodLink M.1.cls idx Lib.objectInit ∈ zT) (hc : c < 1000) (K : zw nX n M (pc + 3) ls [] h Q) (hR : 1 ≤ M.2.2.2.2.1 ∧ 12 ≤ M.2.2.2.2.2 := by exact ⟨Nat.le_of_ble_eq_true rfl, Nat.le_of_ble_eq_true rfl⟩) : zw nX n M pc ls [.ref c] h Q := z_obj hd ⟨hL, pw_objI, pw_objC⟩ hc (fun v hv => by simp at hv) ⟨hR.1, by show 0 + 12 ≤ _; omega⟩ K
theorem c_new {idx ci : Nat} (hd : decode M.2.1 pc = .ok (.new idx, 3)) (hL : zLn M.1.cls idx ci) (hly : ly n = ci + 1) (hb : Bl h n) (hX : n < nX) (K : zw nX (n + 1) M (pc + 3) ls (.ref n :: st) h Q) : zw nX n M pc ls st h Q := z_new hd hL hly (hb n (Nat.le_refl _) (Nat.lt_trans (zly_lt (by omega)) (by decide))) hX K
theorem c_newI {k : Nat} {v : Int32} (hd : decode M.2.1 pc = .ok (.newarray .int, 2)) (hly : ly n = 21) (hv : v = nI k) (hk : ln n = k) (hb : Bl h n) (hX : n < nX) (K : zw nX (n + 1) M (pc + 2) ls (.ref n :: st) h Q) : zw nX n M pc ls (.int v :: st) h Q := z_newa hd (Or.inl ⟨rfl, hly, pw_aI⟩) hv hk (by have := ln_lt n; omega) (fun k => (hb n (Nat.le_refl _) (Nat.lt_trans (zly_lt (by omega)) (by decide)) k).1) hX K
theorem c_newB {k : Nat} {v : Int32} (hd : decode M.2.1 pc = .ok (.newarray .byte, 2)) (hly : ly n = 20) (hv : v = nI k) (hk : ln n = k) (hb : Bl h n) (hX : n < nX) (K : zw nX (n + 1) M (pc + 2) ls (.ref n :: st) h Q) : zw nX n M pc ls (.int v :: st) h Q := z_newa hd (Or.inr ⟨rfl, hly, pw_aB⟩) hv hk (by have := ln_lt n; omega) (fun k => (hb n (Nat.le_refl _) (Nat.lt_trans (zly_lt (by omega)) (by decide)) k).1) hX K
theorem c_newQ {idx k t : Nat} {v : Int32} {E : String} (hd : decode M.2.1 pc = .ok (.anewarray idx, 3)) (hL : Cond.classLink M.1.cls idx E ∈ zT) (hE : E ∈ zAO) (hly : ly n = t + 22) (hty : zty (t + 22) = .object E) (hv : v = nI k) (hk : ln n = k) (hb : Bl h n) (hX : n < nX) (K : zw nX (n + 1) M (pc + 3) ls (.ref n :: st) h Q) : zw nX n M pc ls (.int v :: st) h Q := z_newq hd ⟨hL, hE⟩ (by rw [hly]; exact hty) (by omega) hv hk (by have := ln_lt n; omega) (fun k => (hb n (Nat.le_refl _) (Nat.lt_trans (zly_lt (by omega)) (by decide)) k).2) hX K
theorem c_putF {idx ci k c i : Nat} (hd : decode M.2.1 pc = .ok (.putfield idx, 3)) (hL : zLk M.1.cls idx ci k) (hc : ly c = ci + 1) (hn : c < n) (hi : i < 1000) (K : zw nX n M (pc + 3) ls st (wR h c k (some i)) Q) (hf : zrf (zfty ci k) = true := by rfl) (hfin : (vwCl[ci]?).map (fun q => ((q.2.1 k).2.2.2, q.1)) = some (true, M.1.cls) := by rfl) (hin : M.1.name = "<init>" := by rfl) : zw nX n M pc ls (.ref i :: .ref c :: st) h Q := by
  refine z_putF hd hL hf (fun q hq => ?_) hin hc hn hi K
  rw [hq] at hfin
  have e := Option.some.inj hfin
  exact ⟨congrArg Prod.fst e, congrArg Prod.snd e⟩
theorem c_putI {idx ci k c : Nat} {v : Int32} (hd : decode M.2.1 pc = .ok (.putfield idx, 3)) (hL : zLk M.1.cls idx ci k) (hc : ly c = ci + 1) (hn : c < n) (K : zw nX n M (pc + 3) ls st (wI h c k v) Q) (hty : zfty ci k = .int := by rfl) (hfin : ((vwCl[ci]?).map (fun q => (q.2.1 k).2.2.2)) = some false := by rfl) : zw nX n M pc ls (.int v :: .ref c :: st) h Q := by
  refine z_putI hd hL (by rw [hty]; rfl) (fun q hq => ?_) hc hn (by rw [hty]; rfl) (by rw [hty]; rfl) K
  rw [hq] at hfin
  exact Option.some.inj hfin
theorem c_aast {c j r t ci : Nat} {i : Int32} (hd : decode M.2.1 pc = .ok (.aastore, 1)) (hc : ly c = t + 22) (hn : c < n) (hin : vp_in i (ln c)) (hj : i.toNatClampNeg = j) (hr : ly r = ci + 1) (hrn : r < n) (K : zw nX n M (pc + 1) ls st (wR h c j (some r)) Q) (hcl : (vwCl[ci]?).map (fun q => FieldType.object q.1) = some (zty (t + 22)) := by rfl) : zw nX n M pc ls (.ref r :: .int i :: .ref c :: st) h Q := by
  have hci : ci < 12 := by
    rcases Nat.lt_or_ge ci 12 with q | q
    · exact q
    · rw [List.getElem?_eq_none (by exact q)] at hcl
      cases hcl
  refine z_aast hd (by omega) hn hin hj hr hrn hci (fun q hq => ?_) K
  rw [hq] at hcl
  rw [hc]
  exact (Option.some.inj hcl).symm
theorem c_init {idx c : Nat} (hd : decode M.2.1 pc = .ok (.invokespecial idx, 3)) (ok : zOk N) (hL : zLink M.1.cls idx N) (hI : Cond.instanceMethod N.1 ∈ zT ∧ N.1.name = "<init>" ∧ N.2.2.2.1 = none) (hpar : zPar N 0) (hR : zRm M N) (hc : c < 1000) (hY : n ≤ nY) (hYX : nY ≤ nX) (S : zcall nY n N [.ref c] h (fun r h' => r = none ∧ h' = g)) (K : zw nX nY M (pc + 3) ls st g Q) (hcat2 : st.all (fun v => v.category == 1) = true := by rfl) (hst : st.length ≤ 8 := by exact Nat.le_of_ble_eq_true rfl) (hlen : 0 + 1 ≤ N.2.2.1 := by exact Nat.le_of_ble_eq_true rfl) : zw nX n M pc ls (.ref c :: st) h Q := by
  refine z_invI (As := []) hd ok hL hI hpar hR hc (fun v hv => by simp at hv) (zcat_of hcat2) hst hY hYX hlen rfl (zw.mono S (fun r h' hr => ?_))
  obtain ⟨rfl, rfl⟩ := hr
  exact K
end ZCon
theorem lyEf {B j : Nat} (h : zW B) (hj : j < 10) : ly (B + 14 + j) = 2 := by
  rw [ly_eq]
  rcases h with rfl | rfl | rfl
  · exact (by decide +kernel : ∀ j, j < 10 → zLayL.getD (2 + 14 + j) 0 = 2) j hj
  · exact (by decide +kernel : ∀ j, j < 10 → zLayL.getD (53 + 14 + j) 0 = 2) j hj
  · exact (by decide +kernel : ∀ j, j < 10 → zLayL.getD (93 + 14 + j) 0 = 2) j hj
theorem lyRu {B j : Nat} (h : zW B) (hj : j < 8) : ly (B + 24 + j) = 5 := by
  rw [ly_eq]
  rcases h with rfl | rfl | rfl
  · exact (by decide +kernel : ∀ j, j < 8 → zLayL.getD (2 + 24 + j) 0 = 5) j hj
  · exact (by decide +kernel : ∀ j, j < 8 → zLayL.getD (53 + 24 + j) 0 = 5) j hj
  · exact (by decide +kernel : ∀ j, j < 8 → zLayL.getD (93 + 24 + j) 0 = 5) j hj
theorem lyWa {B j : Nat} (h : zW B) (hj : j < 8) : ly (B + 32 + j) = 8 := by
  rw [ly_eq]
  rcases h with rfl | rfl | rfl
  · exact (by decide +kernel : ∀ j, j < 8 → zLayL.getD (2 + 32 + j) 0 = 8) j hj
  · exact (by decide +kernel : ∀ j, j < 8 → zLayL.getD (53 + 32 + j) 0 = 8) j hj
  · exact (by decide +kernel : ∀ j, j < 8 → zLayL.getD (93 + 32 + j) 0 = 8) j hj
theorem zW_lt {B : Nat} (h : zW B) : B ≤ 93 := by rcases h with rfl | rfl | rfl <;> decide
theorem i_X1 {n c : Nat} {h : zHp} (hc : c < 1000) : zcall n n M_X1_init [.ref c] h (fun r h' => r = none ∧ h' = h) := by
  show zw n n M_X1_init 0 [some (.ref c)] [] h _
  refine z_aload_n (pc := 0) dX1_init_0 rfl rfl ?_
  refine c_obj (pc := 1) dX1_init_1 pl_RX1_3 hc ?_
  exact z_return (pc := 4) dX1_init_4 rfl trivial ⟨rfl, rfl⟩
theorem i_X4 {n c : Nat} {h : zHp} (hc : c < 1000) : zcall n n M_X4_init [.ref c] h (fun r h' => r = none ∧ h' = h) := by
  show zw n n M_X4_init 0 [some (.ref c)] [] h _
  refine z_aload_n (pc := 0) dX4_init_0 rfl rfl ?_
  refine c_obj (pc := 1) dX4_init_1 pl_RX4_1 hc ?_
  exact z_return (pc := 4) dX4_init_4 rfl trivial ⟨rfl, rfl⟩
theorem i_X6 {n c : Nat} {h : zHp} (hc : c < 1000) : zcall n n M_X6_init [.ref c] h (fun r h' => r = none ∧ h' = h) := by
  show zw n n M_X6_init 0 [some (.ref c)] [] h _
  refine z_aload_n (pc := 0) dX6_init_0 rfl rfl ?_
  refine c_obj (pc := 1) dX6_init_1 pl_RX6_3 hc ?_
  exact z_return (pc := 4) dX6_init_4 rfl trivial ⟨rfl, rfl⟩
theorem i_X7 {n c : Nat} {h : zHp} (hc : c < 1000) : zcall n n M_X7_init [.ref c] h (fun r h' => r = none ∧ h' = h) := by
  show zw n n M_X7_init 0 [some (.ref c)] [] h _
  refine z_aload_n (pc := 0) dX7_init_0 rfl rfl ?_
  refine c_obj (pc := 1) dX7_init_1 pl_RX7_3 hc ?_
  exact z_return (pc := 4) dX7_init_4 rfl trivial ⟨rfl, rfl⟩
theorem lp_T {B : Nat} {nX : Nat} {Q : Option Value → zHp → Prop} (hB : zW B) (hX : B + 6 + 8 ≤ nX) : ∀ (d i : Nat) (h : zHp), i + d = 8 → Bl h (B + 6 + i) → rR h B 0 = some (B + 1) → zw nX (B + 6 + 8) M_X8_init 79 [some (.ref B), some (.int (nI 8))] [] (fillR h (B + 1) (B + 6) i 8) Q → zw nX (B + 6 + i) M_X8_init 54 [some (.ref B), some (.int (nI i))] [] h Q := by
  intro d
  induction d with
  | zero =>
    intro i h hd hb hr K
    have : i = 8 := by omega
    subst this
    rw [fillR_end] at K
    refine z_iload_n (pc := 54) dX8_init_54 rfl rfl ?_
    refine z_bipush (pc := 55) (v := nI 8) dX8_init_55 (by decide) ?_
    exact z_icmp_ge (pc := 57) (tgt := 79) dX8_init_57 (by decide) (fun _ => K) (fun z => absurd (Int32.le_refl _) z)
  | succ d ih =>
    intro i h hd hb hr K
    refine z_iload_n (pc := 54) dX8_init_54 rfl rfl ?_
    refine z_bipush (pc := 55) (v := nI 8) dX8_init_55 (by decide) ?_
    refine z_icmp_ge (pc := 57) (tgt := 79) dX8_init_57 (by decide) (fun z => absurd z (nI_ge (by omega) (by decide))) (fun _ => ?_)
    refine z_aload_n (pc := 60) dX8_init_60 rfl rfl ?_
    refine z_getR (pc := 61) (i := B + 1) dX8_init_61 lk_RX8_11 rfl (lyW0 hB) (by omega) hr ?_
    refine z_iload_n (pc := 64) dX8_init_64 rfl rfl ?_
    refine c_new (pc := 65) (n := B + 6 + i) dX8_init_65 nl_RX8_9 (lyT hB (by omega)) hb (by omega) ?_
    refine z_dup (pc := 68) dX8_init_68 rfl ?_
    refine c_init (pc := 69) (nY := B + 6 + i + 1) dX8_init_69 ok_X6_init ml_RX8_43 ii_X6_init pa_X6_init ⟨Nat.le_of_ble_eq_true rfl, Nat.le_of_ble_eq_true rfl⟩ (Nat.lt_trans (zlt (lyT hB (by omega))) (by decide)) (Nat.le_refl _) (by omega) (i_X6 (Nat.lt_trans (zlt (lyT hB (by omega))) (by decide))) ?_
    refine c_aast (pc := 72) (j := i) (t := 0) dX8_init_72 (lyW1 hB) (by omega) (by rw [lnW1 hB]; exact nI_in (by omega) (by decide)) (nI_clamp (by omega)) (lyT hB (by omega)) (by omega) ?_
    refine z_iinc (pc := 73) (v := nI (i + 1)) (ls' := [some (.ref B), some (.int (nI (i + 1)))]) dX8_init_73 (by decide) rfl (nI_add i 1) rfl ?_
    refine z_goto (pc := 76) (tgt := 54) dX8_init_76 (by decide) ?_
    refine ih (i + 1) _ (by omega) ((hb.mono (by omega)).wR (by omega)) ((rR_c (by omega)).trans hr) ?_
    rw [fillR_step (by omega)]
    exact K
theorem lp_E {B : Nat} {nX : Nat} {Q : Option Value → zHp → Prop} (hB : zW B) (hX : B + 14 + 10 ≤ nX) : ∀ (d i : Nat) (h : zHp), i + d = 10 → Bl h (B + 14 + i) → rR h B 2 = some (B + 2) → zw nX (B + 14 + 10) M_X8_init 106 [some (.ref B), some (.int (nI 10))] [] (fillR h (B + 2) (B + 14) i 10) Q → zw nX (B + 14 + i) M_X8_init 81 [some (.ref B), some (.int (nI i))] [] h Q := by
  intro d
  induction d with
  | zero =>
    intro i h hd hb hr K
    have : i = 10 := by omega
    subst this
    rw [fillR_end] at K
    refine z_iload_n (pc := 81) dX8_init_81 rfl rfl ?_
    refine z_bipush (pc := 82) (v := nI 10) dX8_init_82 (by decide) ?_
    exact z_icmp_ge (pc := 84) (tgt := 106) dX8_init_84 (by decide) (fun _ => K) (fun z => absurd (Int32.le_refl _) z)
  | succ d ih =>
    intro i h hd hb hr K
    refine z_iload_n (pc := 81) dX8_init_81 rfl rfl ?_
    refine z_bipush (pc := 82) (v := nI 10) dX8_init_82 (by decide) ?_
    refine z_icmp_ge (pc := 84) (tgt := 106) dX8_init_84 (by decide) (fun z => absurd z (nI_ge (by omega) (by decide))) (fun _ => ?_)
    refine z_aload_n (pc := 87) dX8_init_87 rfl rfl ?_
    refine z_getR (pc := 88) (i := B + 2) dX8_init_88 lk_RX8_19 rfl (lyW0 hB) (by omega) hr ?_
    refine z_iload_n (pc := 91) dX8_init_91 rfl rfl ?_
    refine c_new (pc := 92) (n := B + 14 + i) dX8_init_92 nl_RX8_17 (lyEf hB (by omega)) hb (by omega) ?_
    refine z_dup (pc := 95) dX8_init_95 rfl ?_
    refine c_init (pc := 96) (nY := B + 14 + i + 1) dX8_init_96 ok_X1_init ml_RX8_44 ii_X1_init pa_X1_init ⟨Nat.le_of_ble_eq_true rfl, Nat.le_of_ble_eq_true rfl⟩ (Nat.lt_trans (zlt (lyEf hB (by omega))) (by decide)) (Nat.le_refl _) (by omega) (i_X1 (Nat.lt_trans (zlt (lyEf hB (by omega))) (by decide))) ?_
    refine c_aast (pc := 99) (j := i) (t := 1) dX8_init_99 (lyW2 hB) (by omega) (by rw [lnW2 hB]; exact nI_in (by omega) (by decide)) (nI_clamp (by omega)) (lyEf hB (by omega)) (by omega) ?_
    refine z_iinc (pc := 100) (v := nI (i + 1)) (ls' := [some (.ref B), some (.int (nI (i + 1)))]) dX8_init_100 (by decide) rfl (nI_add i 1) rfl ?_
    refine z_goto (pc := 103) (tgt := 81) dX8_init_103 (by decide) ?_
    refine ih (i + 1) _ (by omega) ((hb.mono (by omega)).wR (by omega)) ((rR_c (by omega)).trans hr) ?_
    rw [fillR_step (by omega)]
    exact K
theorem lp_R {B : Nat} {nX : Nat} {Q : Option Value → zHp → Prop} (hB : zW B) (hX : B + 24 + 8 ≤ nX) : ∀ (d i : Nat) (h : zHp), i + d = 8 → Bl h (B + 24 + i) → rR h B 4 = some (B + 3) → zw nX (B + 24 + 8) M_X8_init 133 [some (.ref B), some (.int (nI 8))] [] (fillR h (B + 3) (B + 24) i 8) Q → zw nX (B + 24 + i) M_X8_init 108 [some (.ref B), some (.int (nI i))] [] h Q := by
  intro d
  induction d with
  | zero =>
    intro i h hd hb hr K
    have : i = 8 := by omega
    subst this
    rw [fillR_end] at K
    refine z_iload_n (pc := 108) dX8_init_108 rfl rfl ?_
    refine z_bipush (pc := 109) (v := nI 8) dX8_init_109 (by decide) ?_
    exact z_icmp_ge (pc := 111) (tgt := 133) dX8_init_111 (by decide) (fun _ => K) (fun z => absurd (Int32.le_refl _) z)
  | succ d ih =>
    intro i h hd hb hr K
    refine z_iload_n (pc := 108) dX8_init_108 rfl rfl ?_
    refine z_bipush (pc := 109) (v := nI 8) dX8_init_109 (by decide) ?_
    refine z_icmp_ge (pc := 111) (tgt := 133) dX8_init_111 (by decide) (fun z => absurd z (nI_ge (by omega) (by decide))) (fun _ => ?_)
    refine z_aload_n (pc := 114) dX8_init_114 rfl rfl ?_
    refine z_getR (pc := 115) (i := B + 3) dX8_init_115 lk_RX8_25 rfl (lyW0 hB) (by omega) hr ?_
    refine z_iload_n (pc := 118) dX8_init_118 rfl rfl ?_
    refine c_new (pc := 119) (n := B + 24 + i) dX8_init_119 nl_RX8_23 (lyRu hB (by omega)) hb (by omega) ?_
    refine z_dup (pc := 122) dX8_init_122 rfl ?_
    refine c_init (pc := 123) (nY := B + 24 + i + 1) dX8_init_123 ok_X4_init ml_RX8_45 ii_X4_init pa_X4_init ⟨Nat.le_of_ble_eq_true rfl, Nat.le_of_ble_eq_true rfl⟩ (Nat.lt_trans (zlt (lyRu hB (by omega))) (by decide)) (Nat.le_refl _) (by omega) (i_X4 (Nat.lt_trans (zlt (lyRu hB (by omega))) (by decide))) ?_
    refine c_aast (pc := 126) (j := i) (t := 2) dX8_init_126 (lyW3 hB) (by omega) (by rw [lnW3 hB]; exact nI_in (by omega) (by decide)) (nI_clamp (by omega)) (lyRu hB (by omega)) (by omega) ?_
    refine z_iinc (pc := 127) (v := nI (i + 1)) (ls' := [some (.ref B), some (.int (nI (i + 1)))]) dX8_init_127 (by decide) rfl (nI_add i 1) rfl ?_
    refine z_goto (pc := 130) (tgt := 108) dX8_init_130 (by decide) ?_
    refine ih (i + 1) _ (by omega) ((hb.mono (by omega)).wR (by omega)) ((rR_c (by omega)).trans hr) ?_
    rw [fillR_step (by omega)]
    exact K
theorem lp_V {B : Nat} {nX : Nat} {Q : Option Value → zHp → Prop} (hB : zW B) (hX : B + 32 + 8 ≤ nX) : ∀ (d i : Nat) (h : zHp), i + d = 8 → Bl h (B + 32 + i) → rR h B 6 = some (B + 4) → zw nX (B + 32 + 8) M_X8_init 160 [some (.ref B), some (.int (nI 8))] [] (fillR h (B + 4) (B + 32) i 8) Q → zw nX (B + 32 + i) M_X8_init 135 [some (.ref B), some (.int (nI i))] [] h Q := by
  intro d
  induction d with
  | zero =>
    intro i h hd hb hr K
    have : i = 8 := by omega
    subst this
    rw [fillR_end] at K
    refine z_iload_n (pc := 135) dX8_init_135 rfl rfl ?_
    refine z_bipush (pc := 136) (v := nI 8) dX8_init_136 (by decide) ?_
    exact z_icmp_ge (pc := 138) (tgt := 160) dX8_init_138 (by decide) (fun _ => K) (fun z => absurd (Int32.le_refl _) z)
  | succ d ih =>
    intro i h hd hb hr K
    refine z_iload_n (pc := 135) dX8_init_135 rfl rfl ?_
    refine z_bipush (pc := 136) (v := nI 8) dX8_init_136 (by decide) ?_
    refine z_icmp_ge (pc := 138) (tgt := 160) dX8_init_138 (by decide) (fun z => absurd z (nI_ge (by omega) (by decide))) (fun _ => ?_)
    refine z_aload_n (pc := 141) dX8_init_141 rfl rfl ?_
    refine z_getR (pc := 142) (i := B + 4) dX8_init_142 lk_RX8_31 rfl (lyW0 hB) (by omega) hr ?_
    refine z_iload_n (pc := 145) dX8_init_145 rfl rfl ?_
    refine c_new (pc := 146) (n := B + 32 + i) dX8_init_146 nl_RX8_29 (lyWa hB (by omega)) hb (by omega) ?_
    refine z_dup (pc := 149) dX8_init_149 rfl ?_
    refine c_init (pc := 150) (nY := B + 32 + i + 1) dX8_init_150 ok_X7_init ml_RX8_46 ii_X7_init pa_X7_init ⟨Nat.le_of_ble_eq_true rfl, Nat.le_of_ble_eq_true rfl⟩ (Nat.lt_trans (zlt (lyWa hB (by omega))) (by decide)) (Nat.le_refl _) (by omega) (i_X7 (Nat.lt_trans (zlt (lyWa hB (by omega))) (by decide))) ?_
    refine c_aast (pc := 153) (j := i) (t := 3) dX8_init_153 (lyW4 hB) (by omega) (by rw [lnW4 hB]; exact nI_in (by omega) (by decide)) (nI_clamp (by omega)) (lyWa hB (by omega)) (by omega) ?_
    refine z_iinc (pc := 154) (v := nI (i + 1)) (ls' := [some (.ref B), some (.int (nI (i + 1)))]) dX8_init_154 (by decide) rfl (nI_add i 1) rfl ?_
    refine z_goto (pc := 157) (tgt := 135) dX8_init_157 (by decide) ?_
    refine ih (i + 1) _ (by omega) ((hb.mono (by omega)).wR (by omega)) ((rR_c (by omega)).trans hr) ?_
    rw [fillR_step (by omega)]
    exact K
theorem lp_P {nX : Nat} {Q : Option Value → zHp → Prop} (hX : 144 + 10 ≤ nX) : ∀ (d i : Nat) (h : zHp), i + d = 10 → Bl h (144 + i) → rR h 141 6 = some (143) → zw nX (144 + 10) M_X3_init 48 [some (.ref 141), some (.int (nI 10))] [] (fillR h (143) (144) i 10) Q → zw nX (144 + i) M_X3_init 23 [some (.ref 141), some (.int (nI i))] [] h Q := by
  intro d
  induction d with
  | zero =>
    intro i h hd hb hr K
    have : i = 10 := by omega
    subst this
    rw [fillR_end] at K
    refine z_iload_n (pc := 23) dX3_init_23 rfl rfl ?_
    refine z_bipush (pc := 24) (v := nI 10) dX3_init_24 (by decide) ?_
    exact z_icmp_ge (pc := 26) (tgt := 48) dX3_init_26 (by decide) (fun _ => K) (fun z => absurd (Int32.le_refl _) z)
  | succ d ih =>
    intro i h hd hb hr K
    refine z_iload_n (pc := 23) dX3_init_23 rfl rfl ?_
    refine z_bipush (pc := 24) (v := nI 10) dX3_init_24 (by decide) ?_
    refine z_icmp_ge (pc := 26) (tgt := 48) dX3_init_26 (by decide) (fun z => absurd z (nI_ge (by omega) (by decide))) (fun _ => ?_)
    refine z_aload_n (pc := 29) dX3_init_29 rfl rfl ?_
    refine z_getR (pc := 30) (i := 143) dX3_init_30 lk_RX3_17 rfl (lyc rfl) (by omega) hr ?_
    refine z_iload_n (pc := 33) dX3_init_33 rfl rfl ?_
    refine c_new (pc := 34) (n := 144 + i) dX3_init_34 nl_RX3_15 (lyP (by omega)) hb (by omega) ?_
    refine z_dup (pc := 37) dX3_init_37 rfl ?_
    refine c_init (pc := 38) (nY := 144 + i + 1) dX3_init_38 ok_X1_init ml_RX3_21 ii_X1_init pa_X1_init ⟨Nat.le_of_ble_eq_true rfl, Nat.le_of_ble_eq_true rfl⟩ (Nat.lt_trans (zlt (lyP (by omega))) (by decide)) (Nat.le_refl _) (by omega) (i_X1 (Nat.lt_trans (zlt (lyP (by omega))) (by decide))) ?_
    refine c_aast (pc := 41) (j := i) (t := 1) dX3_init_41 (lyc rfl) (by omega) (by rw [show ln 143 = 10 from lnc rfl]; exact nI_in (by omega) (by decide)) (nI_clamp (by omega)) (lyP (by omega)) (by omega) ?_
    refine z_iinc (pc := 42) (v := nI (i + 1)) (ls' := [some (.ref 141), some (.int (nI (i + 1)))]) dX3_init_42 (by decide) rfl (nI_add i 1) rfl ?_
    refine z_goto (pc := 45) (tgt := 23) dX3_init_45 (by decide) ?_
    refine ih (i + 1) _ (by omega) ((hb.mono (by omega)).wR (by omega)) ((rR_c (by omega)).trans hr) ?_
    rw [fillR_step (by omega)]
    exact K
def hW (h : zHp) (B : Nat) : zHp := (fillR (fillR (fillR (fillR (wI (wR (wR (wR (wR (wR h B 0 (some (B + 1))) B 2 (some (B + 2))) B 4 (some (B + 3))) B 6 (some (B + 4))) B 8 (some (B + 5))) B 10 (1)) (B + 1) (B + 6) 0 8) (B + 2) (B + 14) 0 10) (B + 3) (B + 24) 0 8) (B + 4) (B + 32) 0 8)
theorem i_X8 {B : Nat} {h : zHp} (hB : zW B) (hb : Bl h (B + 1)) : zcall (B + 40) (B + 1) M_X8_init [.ref B] h (fun r h' => r = none ∧ h' = hW h B) := by
  have hlt := zW_lt hB
  show zw _ _ M_X8_init 0 [some (.ref B), none] [] h _
  refine z_aload_n (pc := 0) dX8_init_0 rfl rfl ?_
  refine c_obj (pc := 1) dX8_init_1 pl_RX8_3 (by omega) ?_
  refine z_aload_n (pc := 4) dX8_init_4 rfl rfl ?_
  refine z_bipush (pc := 5) (v := 8) dX8_init_5 (by decide) ?_
  refine c_newQ (pc := 7) (n := B + 1) (k := 8) (t := 0) (E := "LayeredRules$Thing") dX8_init_7 ql_RX8_9 (List.mem_of_getElem? (i := 0) rfl) (lyW1 hB) rfl (by decide) (lnW1 hB) hb (by omega) ?_
  have b1 := hb.mono (m := B + 2) (by omega)
  refine c_putF (pc := 10) dX8_init_10 lk_RX8_11 (lyW0 hB) (by omega) (by omega) ?_
  have b2 := b1.wR (c := B) (k := 0) (v := some (B + 1)) (by omega)
  refine z_aload_n (pc := 13) dX8_init_13 rfl rfl ?_
  refine z_bipush (pc := 14) (v := 10) dX8_init_14 (by decide) ?_
  refine c_newQ (pc := 16) (n := B + 2) (k := 10) (t := 1) (E := "LayeredRules$Effect") dX8_init_16 ql_RX8_17 (List.mem_of_getElem? (i := 1) rfl) (lyW2 hB) rfl (by decide) (lnW2 hB) b2 (by omega) ?_
  have b3 := b2.mono (m := B + 3) (by omega)
  refine c_putF (pc := 19) dX8_init_19 lk_RX8_19 (lyW0 hB) (by omega) (by omega) ?_
  have b4 := b3.wR (c := B) (k := 2) (v := some (B + 2)) (by omega)
  refine z_aload_n (pc := 22) dX8_init_22 rfl rfl ?_
  refine z_bipush (pc := 23) (v := 8) dX8_init_23 (by decide) ?_
  refine c_newQ (pc := 25) (n := B + 3) (k := 8) (t := 2) (E := "LayeredRules$Rule") dX8_init_25 ql_RX8_23 (List.mem_of_getElem? (i := 2) rfl) (lyW3 hB) rfl (by decide) (lnW3 hB) b4 (by omega) ?_
  have b5 := b4.mono (m := B + 4) (by omega)
  refine c_putF (pc := 28) dX8_init_28 lk_RX8_25 (lyW0 hB) (by omega) (by omega) ?_
  have b6 := b5.wR (c := B) (k := 4) (v := some (B + 3)) (by omega)
  refine z_aload_n (pc := 31) dX8_init_31 rfl rfl ?_
  refine z_bipush (pc := 32) (v := 8) dX8_init_32 (by decide) ?_
  refine c_newQ (pc := 34) (n := B + 4) (k := 8) (t := 3) (E := "LayeredRules$Watcher") dX8_init_34 ql_RX8_29 (List.mem_of_getElem? (i := 3) rfl) (lyW4 hB) rfl (by decide) (lnW4 hB) b6 (by omega) ?_
  have b7 := b6.mono (m := B + 5) (by omega)
  refine c_putF (pc := 37) dX8_init_37 lk_RX8_31 (lyW0 hB) (by omega) (by omega) ?_
  have b8 := b7.wR (c := B) (k := 6) (v := some (B + 4)) (by omega)
  refine z_aload_n (pc := 40) dX8_init_40 rfl rfl ?_
  refine z_iconst (pc := 41) (v := 2) dX8_init_41 (by decide) ?_
  refine c_newI (pc := 42) (n := B + 5) (k := 2) dX8_init_42 (lyW5 hB) (by decide) (lnW5 hB) b8 (by omega) ?_
  have b9 := b8.mono (m := B + 6) (by omega)
  refine c_putF (pc := 44) dX8_init_44 lk_RX8_35 (lyW0 hB) (by omega) (by omega) ?_
  have b10 := b9.wR (c := B) (k := 8) (v := some (B + 5)) (by omega)
  refine z_aload_n (pc := 47) dX8_init_47 rfl rfl ?_
  refine z_iconst (pc := 48) (v := 1) dX8_init_48 (by decide) ?_
  refine c_putI (pc := 49) dX8_init_49 lk_RX8_39 (lyW0 hB) (by omega) ?_
  have b11 := b10.wI (c := B) (k := 10) (v := 1) (by omega)
  refine z_iconst (pc := 52) (v := 0) dX8_init_52 (by decide) ?_
  refine z_istore_n (pc := 53) (ls' := [some (.ref B), some (.int (nI 0))]) dX8_init_53 rfl (by decide) rfl ?_
  refine lp_T hB (by omega) 8 0 _ (by omega) b11 (Eq.trans (Eq.trans (Eq.trans (Eq.trans (Eq.trans rR_i (rR_k (by decide))) (rR_k (by decide))) (rR_k (by decide))) (rR_k (by decide))) rR_s) ?_
  have b12 := (b11.mono (m := B + 14) (by omega)).fill (c := B + 1) (b := B + 6) (i := 0) (m := 8) (by omega)
  refine z_iconst (pc := 79) (v := 0) dX8_init_79 (by decide) ?_
  refine z_istore_n (pc := 80) (ls' := [some (.ref B), some (.int (nI 0))]) dX8_init_80 rfl (by decide) rfl ?_
  refine lp_E hB (by omega) 10 0 _ (by omega) b12 (Eq.trans (Eq.trans (Eq.trans (Eq.trans (Eq.trans (rR_f (by omega)) rR_i) (rR_k (by decide))) (rR_k (by decide))) (rR_k (by decide))) rR_s) ?_
  have b13 := (b12.mono (m := B + 24) (by omega)).fill (c := B + 2) (b := B + 14) (i := 0) (m := 10) (by omega)
  refine z_iconst (pc := 106) (v := 0) dX8_init_106 (by decide) ?_
  refine z_istore_n (pc := 107) (ls' := [some (.ref B), some (.int (nI 0))]) dX8_init_107 rfl (by decide) rfl ?_
  refine lp_R hB (by omega) 8 0 _ (by omega) b13 (Eq.trans (Eq.trans (Eq.trans (Eq.trans (Eq.trans (rR_f (by omega)) (rR_f (by omega))) rR_i) (rR_k (by decide))) (rR_k (by decide))) rR_s) ?_
  have b14 := (b13.mono (m := B + 32) (by omega)).fill (c := B + 3) (b := B + 24) (i := 0) (m := 8) (by omega)
  refine z_iconst (pc := 133) (v := 0) dX8_init_133 (by decide) ?_
  refine z_istore_n (pc := 134) (ls' := [some (.ref B), some (.int (nI 0))]) dX8_init_134 rfl (by decide) rfl ?_
  refine lp_V hB (by omega) 8 0 _ (by omega) b14 (Eq.trans (Eq.trans (Eq.trans (Eq.trans (Eq.trans (rR_f (by omega)) (rR_f (by omega))) (rR_f (by omega))) rR_i) (rR_k (by decide))) rR_s) ?_
  have b15 := (b14.mono (m := B + 40) (by omega)).fill (c := B + 4) (b := B + 32) (i := 0) (m := 8) (by omega)
  exact z_return (pc := 160) dX8_init_160 rfl trivial ⟨rfl, rfl⟩
theorem Bl.W {h : zHp} {B : Nat} (hB : zW B) (hb : Bl h (B + 1)) : Bl (hW h B) (B + 40) := by
  have hlt := zW_lt hB
  have b1 := hb.mono (m := B + 2) (by omega)
  have b2 := b1.wR (c := B) (k := 0) (v := some (B + 1)) (by omega)
  have b3 := b2.mono (m := B + 3) (by omega)
  have b4 := b3.wR (c := B) (k := 2) (v := some (B + 2)) (by omega)
  have b5 := b4.mono (m := B + 4) (by omega)
  have b6 := b5.wR (c := B) (k := 4) (v := some (B + 3)) (by omega)
  have b7 := b6.mono (m := B + 5) (by omega)
  have b8 := b7.wR (c := B) (k := 6) (v := some (B + 4)) (by omega)
  have b9 := b8.mono (m := B + 6) (by omega)
  have b10 := b9.wR (c := B) (k := 8) (v := some (B + 5)) (by omega)
  have b11 := b10.wI (c := B) (k := 10) (v := 1) (by omega)
  have b12 := (b11.mono (m := B + 14) (by omega)).fill (c := B + 1) (b := B + 6) (i := 0) (m := 8) (by omega)
  have b13 := (b12.mono (m := B + 24) (by omega)).fill (c := B + 2) (b := B + 14) (i := 0) (m := 10) (by omega)
  have b14 := (b13.mono (m := B + 32) (by omega)).fill (c := B + 3) (b := B + 24) (i := 0) (m := 8) (by omega)
  have b15 := (b14.mono (m := B + 40) (by omega)).fill (c := B + 4) (b := B + 32) (i := 0) (m := 8) (by omega)
  exact b15
theorem hW_o {h : zHp} {B c k : Nat} (hc : c < B ∨ B + 5 ≤ c) : rR (hW h B) c k = rR h c k := by
  unfold hW
  rw [rR_f (by omega), rR_f (by omega), rR_f (by omega), rR_f (by omega)]
  simp (config := { decide := false }) only [rR, wR, wI]
  simp [show c ≠ B by omega]
def hLo (h : zHp) (K : Nat) : zHp := (wR (wR (wR (wR (wR h K 0 (some (K + 1))) K 1 (some (K + 2))) K 2 (some (K + 3))) K 3 (some (K + 4))) K 4 (some (K + 5)))
theorem i_X2 {K : Nat} {h : zHp} (hK : zLo K) (hb : Bl h (K + 1)) : zcall (K + 6) (K + 1) M_X2_init [.ref K] h (fun r h' => r = none ∧ h' = hLo h K) := by
  have hlt : K ≤ 133 := by rcases hK with rfl | rfl <;> decide
  show zw _ _ M_X2_init 0 [some (.ref K)] [] h _
  refine z_aload_n (pc := 0) dX2_init_0 rfl rfl ?_
  refine c_obj (pc := 1) dX2_init_1 pl_RX2_3 (by omega) ?_
  refine z_aload_n (pc := 4) dX2_init_4 rfl rfl ?_
  refine z_bipush (pc := 5) (v := 8) dX2_init_5 (by decide) ?_
  refine c_newI (pc := 7) (n := K + 1) (k := 8) dX2_init_7 (lyLo1 hK) (by decide) (lnLo1 hK) hb (by omega) ?_
  have b1 := hb.mono (m := K + 2) (by omega)
  refine c_putF (pc := 9) dX2_init_9 lk_RX2_9 (lyLo0 hK) (by omega) (by omega) ?_
  have b2 := b1.wR (c := K) (k := 0) (v := some (K + 1)) (by omega)
  refine z_aload_n (pc := 12) dX2_init_12 rfl rfl ?_
  refine z_bipush (pc := 13) (v := 8) dX2_init_13 (by decide) ?_
  refine c_newI (pc := 15) (n := K + 2) (k := 8) dX2_init_15 (lyLo2 hK) (by decide) (lnLo2 hK) b2 (by omega) ?_
  have b3 := b2.mono (m := K + 3) (by omega)
  refine c_putF (pc := 17) dX2_init_17 lk_RX2_15 (lyLo0 hK) (by omega) (by omega) ?_
  have b4 := b3.wR (c := K) (k := 1) (v := some (K + 2)) (by omega)
  refine z_aload_n (pc := 20) dX2_init_20 rfl rfl ?_
  refine z_bipush (pc := 21) (v := 8) dX2_init_21 (by decide) ?_
  refine c_newI (pc := 23) (n := K + 3) (k := 8) dX2_init_23 (lyLo3 hK) (by decide) (lnLo3 hK) b4 (by omega) ?_
  have b5 := b4.mono (m := K + 4) (by omega)
  refine c_putF (pc := 25) dX2_init_25 lk_RX2_18 (lyLo0 hK) (by omega) (by omega) ?_
  have b6 := b5.wR (c := K) (k := 2) (v := some (K + 3)) (by omega)
  refine z_aload_n (pc := 28) dX2_init_28 rfl rfl ?_
  refine z_bipush (pc := 29) (v := 8) dX2_init_29 (by decide) ?_
  refine c_newI (pc := 31) (n := K + 4) (k := 8) dX2_init_31 (lyLo4 hK) (by decide) (lnLo4 hK) b6 (by omega) ?_
  have b7 := b6.mono (m := K + 5) (by omega)
  refine c_putF (pc := 33) dX2_init_33 lk_RX2_21 (lyLo0 hK) (by omega) (by omega) ?_
  have b8 := b7.wR (c := K) (k := 3) (v := some (K + 4)) (by omega)
  refine z_aload_n (pc := 36) dX2_init_36 rfl rfl ?_
  refine z_bipush (pc := 37) (v := 10) dX2_init_37 (by decide) ?_
  refine c_newI (pc := 39) (n := K + 5) (k := 10) dX2_init_39 (lyLo5 hK) (by decide) (lnLo5 hK) b8 (by omega) ?_
  have b9 := b8.mono (m := K + 6) (by omega)
  refine c_putF (pc := 41) dX2_init_41 lk_RX2_24 (lyLo0 hK) (by omega) (by omega) ?_
  have b10 := b9.wR (c := K) (k := 4) (v := some (K + 5)) (by omega)
  exact z_return (pc := 44) dX2_init_44 rfl trivial ⟨rfl, rfl⟩
theorem Bl.Lo {h : zHp} {K : Nat} (hK : zLo K) (hb : Bl h (K + 1)) : Bl (hLo h K) (K + 6) := by
  have hlt : K ≤ 133 := by rcases hK with rfl | rfl <;> decide
  have b1 := hb.mono (m := K + 2) (by omega)
  have b2 := b1.wR (c := K) (k := 0) (v := some (K + 1)) (by omega)
  have b3 := b2.mono (m := K + 3) (by omega)
  have b4 := b3.wR (c := K) (k := 1) (v := some (K + 2)) (by omega)
  have b5 := b4.mono (m := K + 4) (by omega)
  have b6 := b5.wR (c := K) (k := 2) (v := some (K + 3)) (by omega)
  have b7 := b6.mono (m := K + 5) (by omega)
  have b8 := b7.wR (c := K) (k := 3) (v := some (K + 4)) (by omega)
  have b9 := b8.mono (m := K + 6) (by omega)
  have b10 := b9.wR (c := K) (k := 4) (v := some (K + 5)) (by omega)
  exact b10
theorem hLo_o {h : zHp} {K c k : Nat} (hc : c ≠ K) : rR (hLo h K) c k = rR h c k := by
  unfold hLo
  rw [rR_c hc, rR_c hc, rR_c hc, rR_c hc, rR_c hc]
def hWo (h : zHp) (U : Nat) : zHp := (wR h U 4 (some (U + 1)))
theorem i_X9 {U : Nat} {h : zHp} (hU : zUo U) (hb : Bl h (U + 1)) : zcall (U + 2) (U + 1) M_X9_init [.ref U] h (fun r h' => r = none ∧ h' = hWo h U) := by
  have hlt : U ≤ 139 := by rcases hU with rfl | rfl <;> decide
  show zw _ _ M_X9_init 0 [some (.ref U)] [] h _
  refine z_aload_n (pc := 0) dX9_init_0 rfl rfl ?_
  refine c_obj (pc := 1) dX9_init_1 pl_RX9_3 (by omega) ?_
  refine z_aload_n (pc := 4) dX9_init_4 rfl rfl ?_
  refine z_bipush (pc := 5) (v := 8) dX9_init_5 (by decide) ?_
  refine c_newI (pc := 7) (n := U + 1) (k := 8) dX9_init_7 (lyUo1 hU) (by decide) (lnUo1 hU) hb (by omega) ?_
  have b1 := hb.mono (m := U + 2) (by omega)
  refine c_putF (pc := 9) dX9_init_9 lk_RX9_9 (lyUo0 hU) (by omega) (by omega) ?_
  have b2 := b1.wR (c := U) (k := 4) (v := some (U + 1)) (by omega)
  exact z_return (pc := 12) dX9_init_12 rfl trivial ⟨rfl, rfl⟩
theorem Bl.Wo {h : zHp} {U : Nat} (hU : zUo U) (hb : Bl h (U + 1)) : Bl (hWo h U) (U + 2) := by
  have hlt : U ≤ 139 := by rcases hU with rfl | rfl <;> decide
  have b1 := hb.mono (m := U + 2) (by omega)
  have b2 := b1.wR (c := U) (k := 4) (v := some (U + 1)) (by omega)
  exact b2
def hSe (h : zHp) (S : Nat) : zHp := (wR (wI h S 0 (-1)) S 2 (some (S + 1)))
theorem i_X5 {S : Nat} {h : zHp} (hS : zSh S) (hb : Bl h (S + 1)) : zcall (S + 2) (S + 1) M_X5_init [.ref S] h (fun r h' => r = none ∧ h' = hSe h S) := by
  have hlt : S ≤ 162 := by rcases hS with rfl | rfl | rfl | rfl <;> decide
  show zw _ _ M_X5_init 0 [some (.ref S)] [] h _
  refine z_aload_n (pc := 0) dX5_init_0 rfl rfl ?_
  refine c_obj (pc := 1) dX5_init_1 pl_RX5_3 (by omega) ?_
  refine z_aload_n (pc := 4) dX5_init_4 rfl rfl ?_
  refine z_iconst (pc := 5) (v := -1) dX5_init_5 (by decide) ?_
  refine c_putI (pc := 6) dX5_init_6 lk_RX5_9 (lySh0 hS) (by omega) ?_
  have b1 := hb.wI (c := S) (k := 0) (v := -1) (by omega)
  refine z_aload_n (pc := 9) dX5_init_9 rfl rfl ?_
  refine z_bipush (pc := 10) (v := 40) dX5_init_10 (by decide) ?_
  refine c_newI (pc := 12) (n := S + 1) (k := 40) dX5_init_12 (lySh1 hS) (by decide) (lnSh1 hS) b1 (by omega) ?_
  have b2 := b1.mono (m := S + 2) (by omega)
  refine c_putF (pc := 14) dX5_init_14 lk_RX5_15 (lySh0 hS) (by omega) (by omega) ?_
  have b3 := b2.wR (c := S) (k := 2) (v := some (S + 1)) (by omega)
  exact z_return (pc := 17) dX5_init_17 rfl trivial ⟨rfl, rfl⟩
theorem Bl.Se {h : zHp} {S : Nat} (hS : zSh S) (hb : Bl h (S + 1)) : Bl (hSe h S) (S + 2) := by
  have hlt : S ≤ 162 := by rcases hS with rfl | rfl | rfl | rfl <;> decide
  have b1 := hb.wI (c := S) (k := 0) (v := -1) (by omega)
  have b2 := b1.mono (m := S + 2) (by omega)
  have b3 := b2.wR (c := S) (k := 2) (v := some (S + 1)) (by omega)
  exact b3
theorem hSe_o {h : zHp} {S c k : Nat} (hc : c ≠ S) : rR (hSe h S) c k = rR h c k := by
  unfold hSe
  rw [rR_c hc]
  rfl
def hRd (h : zHp) : zHp := (fillR (wR (wR h 141 0 (some 142)) 141 6 (some 143)) 143 144 0 10)
theorem i_X3 {h : zHp} (hb : Bl h (142)) : zcall (154) (142) M_X3_init [.ref 141] h (fun r h' => r = none ∧ h' = hRd h) := by
  show zw _ _ M_X3_init 0 [some (.ref 141), none] [] h _
  refine z_aload_n (pc := 0) dX3_init_0 rfl rfl ?_
  refine c_obj (pc := 1) dX3_init_1 pl_RX3_3 (by omega) ?_
  refine z_aload_n (pc := 4) dX3_init_4 rfl rfl ?_
  refine z_bipush (pc := 5) (v := 120) dX3_init_5 (by decide) ?_
  refine c_newB (pc := 7) (n := 142) (k := 120) dX3_init_7 (lyc rfl) (by decide) (lnc rfl) hb (by omega) ?_
  have b1 := hb.mono (m := 143) (by omega)
  refine c_putF (pc := 9) dX3_init_9 lk_RX3_9 (lyc rfl) (by omega) (by omega) ?_
  have b2 := b1.wR (c := 141) (k := 0) (v := some 142) (by omega)
  refine z_aload_n (pc := 12) dX3_init_12 rfl rfl ?_
  refine z_bipush (pc := 13) (v := 10) dX3_init_13 (by decide) ?_
  refine c_newQ (pc := 15) (n := 143) (k := 10) (t := 1) (E := "LayeredRules$Effect") dX3_init_15 ql_RX3_15 (List.mem_of_getElem? (i := 1) rfl) (lyc rfl) rfl (by decide) (lnc rfl) b2 (by omega) ?_
  have b3 := b2.mono (m := 144) (by omega)
  refine c_putF (pc := 18) dX3_init_18 lk_RX3_17 (lyc rfl) (by omega) (by omega) ?_
  have b4 := b3.wR (c := 141) (k := 6) (v := some 143) (by omega)
  refine z_iconst (pc := 21) (v := 0) dX3_init_21 (by decide) ?_
  refine z_istore_n (pc := 22) (ls' := [some (.ref 141), some (.int (nI 0))]) dX3_init_22 rfl (by decide) rfl ?_
  refine lp_P (by omega) 10 0 _ (by omega) b4 rR_s ?_
  have b5 := (b4.mono (m := 154) (by omega)).fill (c := 143) (b := 144) (i := 0) (m := 10) (by omega)
  exact z_return (pc := 48) dX3_init_48 rfl trivial ⟨rfl, rfl⟩
theorem Bl.Rd {h : zHp} (hb : Bl h (142)) : Bl (hRd h) (154) := by
  have b1 := hb.mono (m := 143) (by omega)
  have b2 := b1.wR (c := 141) (k := 0) (v := some 142) (by omega)
  have b3 := b2.mono (m := 144) (by omega)
  have b4 := b3.wR (c := 141) (k := 6) (v := some 143) (by omega)
  have b5 := (b4.mono (m := 154) (by omega)).fill (c := 143) (b := 144) (i := 0) (m := 10) (by omega)
  exact b5
theorem hRd_o {h : zHp} {c k : Nat} (hc : c < 141) : rR (hRd h) c k = rR h c k := by
  unfold hRd
  rw [rR_f (by omega), rR_c (by omega), rR_c (by omega)]
def hCo (h : zHp) : zHp := (wR (wR (wR (wR (hWo (wR (hLo (wR (hW h 2) 1 0 (some 2)) 42) 1 1 (some 42)) 48) 1 2 (some 48)) 1 3 (some 50)) 1 4 (some 51)) 1 6 (some 52))
theorem i_X0 {h : zHp} (hb : Bl h (2)) : zcall (53) (2) M_X0_init [.ref 1] h (fun r h' => r = none ∧ h' = hCo h) := by
  show zw _ _ M_X0_init 0 [some (.ref 1)] [] h _
  refine z_aload_n (pc := 0) dX0_init_0 rfl rfl ?_
  refine c_obj (pc := 1) dX0_init_1 pl_RX0_3 (by omega) ?_
  refine z_aload_n (pc := 4) dX0_init_4 rfl rfl ?_
  refine c_new (pc := 5) (n := 2) dX0_init_5 nl_RX0_9 (lyc rfl) hb (by omega) ?_
  have b1 := hb.mono (m := 3) (by omega)
  refine z_dup (pc := 8) dX0_init_8 rfl ?_
  refine c_init (pc := 9) (nY := 42) dX0_init_9 ok_X8_init ml_RX0_11 ii_X8_init pa_X8_init ⟨Nat.le_of_ble_eq_true rfl, Nat.le_of_ble_eq_true rfl⟩ (by omega) (by omega) (by omega) (i_X8 (Or.inl rfl) b1) ?_
  have b2 := b1.W (Or.inl rfl)
  refine c_putF (pc := 12) dX0_init_12 lk_RX0_12 (lyc rfl) (by omega) (by omega) ?_
  have b3 := b2.wR (c := 1) (k := 0) (v := some 2) (by omega)
  refine z_aload_n (pc := 15) dX0_init_15 rfl rfl ?_
  refine c_new (pc := 16) (n := 42) dX0_init_16 nl_RX0_18 (lyc rfl) b3 (by omega) ?_
  have b4 := b3.mono (m := 43) (by omega)
  refine z_dup (pc := 19) dX0_init_19 rfl ?_
  refine c_init (pc := 20) (nY := 48) dX0_init_20 ok_X2_init ml_RX0_20 ii_X2_init pa_X2_init ⟨Nat.le_of_ble_eq_true rfl, Nat.le_of_ble_eq_true rfl⟩ (by omega) (by omega) (by omega) (i_X2 (Or.inl rfl) b4) ?_
  have b5 := b4.Lo (Or.inl rfl)
  refine c_putF (pc := 23) dX0_init_23 lk_RX0_21 (lyc rfl) (by omega) (by omega) ?_
  have b6 := b5.wR (c := 1) (k := 1) (v := some 42) (by omega)
  refine z_aload_n (pc := 26) dX0_init_26 rfl rfl ?_
  refine c_new (pc := 27) (n := 48) dX0_init_27 nl_RX0_25 (lyc rfl) b6 (by omega) ?_
  have b7 := b6.mono (m := 49) (by omega)
  refine z_dup (pc := 30) dX0_init_30 rfl ?_
  refine c_init (pc := 31) (nY := 50) dX0_init_31 ok_X9_init ml_RX0_27 ii_X9_init pa_X9_init ⟨Nat.le_of_ble_eq_true rfl, Nat.le_of_ble_eq_true rfl⟩ (by omega) (by omega) (by omega) (i_X9 (Or.inl rfl) b7) ?_
  have b8 := b7.Wo (Or.inl rfl)
  refine c_putF (pc := 34) dX0_init_34 lk_RX0_28 (lyc rfl) (by omega) (by omega) ?_
  have b9 := b8.wR (c := 1) (k := 2) (v := some 48) (by omega)
  refine z_aload_n (pc := 37) dX0_init_37 rfl rfl ?_
  refine z_sipush (pc := 38) (v := 400) dX0_init_38 (by decide) ?_
  refine c_newI (pc := 41) (n := 50) (k := 400) dX0_init_41 (lyc rfl) (by decide) (lnc rfl) b9 (by omega) ?_
  have b10 := b9.mono (m := 51) (by omega)
  refine c_putF (pc := 43) dX0_init_43 lk_RX0_32 (lyc rfl) (by omega) (by omega) ?_
  have b11 := b10.wR (c := 1) (k := 3) (v := some 50) (by omega)
  refine z_aload_n (pc := 46) dX0_init_46 rfl rfl ?_
  refine z_sipush (pc := 47) (v := 400) dX0_init_47 (by decide) ?_
  refine c_newI (pc := 50) (n := 51) (k := 400) dX0_init_50 (lyc rfl) (by decide) (lnc rfl) b11 (by omega) ?_
  have b12 := b11.mono (m := 52) (by omega)
  refine c_putF (pc := 52) dX0_init_52 lk_RX0_36 (lyc rfl) (by omega) (by omega) ?_
  have b13 := b12.wR (c := 1) (k := 4) (v := some 51) (by omega)
  refine z_aload_n (pc := 55) dX0_init_55 rfl rfl ?_
  refine z_bipush (pc := 56) (v := 40) dX0_init_56 (by decide) ?_
  refine c_newI (pc := 58) (n := 52) (k := 40) dX0_init_58 (lyc rfl) (by decide) (lnc rfl) b13 (by omega) ?_
  have b14 := b13.mono (m := 53) (by omega)
  refine c_putF (pc := 60) dX0_init_60 lk_RX0_39 (lyc rfl) (by omega) (by omega) ?_
  have b15 := b14.wR (c := 1) (k := 6) (v := some 52) (by omega)
  exact z_return (pc := 63) dX0_init_63 rfl trivial ⟨rfl, rfl⟩
theorem Bl.Co {h : zHp} (hb : Bl h (2)) : Bl (hCo h) (53) := by
  have b1 := hb.mono (m := 3) (by omega)
  have b2 := b1.W (Or.inl rfl)
  have b3 := b2.wR (c := 1) (k := 0) (v := some 2) (by omega)
  have b4 := b3.mono (m := 43) (by omega)
  have b5 := b4.Lo (Or.inl rfl)
  have b6 := b5.wR (c := 1) (k := 1) (v := some 42) (by omega)
  have b7 := b6.mono (m := 49) (by omega)
  have b8 := b7.Wo (Or.inl rfl)
  have b9 := b8.wR (c := 1) (k := 2) (v := some 48) (by omega)
  have b10 := b9.mono (m := 51) (by omega)
  have b11 := b10.wR (c := 1) (k := 3) (v := some 50) (by omega)
  have b12 := b11.mono (m := 52) (by omega)
  have b13 := b12.wR (c := 1) (k := 4) (v := some 51) (by omega)
  have b14 := b13.mono (m := 53) (by omega)
  have b15 := b14.wR (c := 1) (k := 6) (v := some 52) (by omega)
  exact b15
theorem hCo_0 {h : zHp} : rR (hCo h) 1 0 = some 2 := (Eq.trans (Eq.trans (Eq.trans (Eq.trans (Eq.trans (Eq.trans (Eq.trans (rR_k (by decide)) (rR_k (by decide))) (rR_k (by decide))) (rR_k (by decide))) (rR_c (by omega))) (rR_k (by decide))) (hLo_o (by omega))) rR_s)
theorem hCo_1 {h : zHp} : rR (hCo h) 1 1 = some 42 := (Eq.trans (Eq.trans (Eq.trans (Eq.trans (Eq.trans (rR_k (by decide)) (rR_k (by decide))) (rR_k (by decide))) (rR_k (by decide))) (rR_c (by omega))) rR_s)
def hLR (h : zHp) : zHp := (wR (hSe (wR (hSe (wR (hSe (wR (hSe (wR (wR (wR (hRd (wR (hWo (wR (hLo (wR (hW (wR (hW (wR (wR (wR (hCo h) 0 0 (some 1)) 0 1 (some 2)) 0 2 (some 42)) 53) 0 3 (some 53)) 93) 0 4 (some 93)) 133) 0 6 (some 133)) 139) 0 7 (some 139))) 0 8 (some 141)) 0 9 (some 154)) 0 10 (some 155)) 156) 154 0 (some 156)) 158) 154 1 (some 158)) 160) 154 2 (some 160)) 162) 154 3 (some 162))
theorem i_X10 {h : zHp} (hb : Bl h (1)) : zcall (164) (1) M_X10_init [.ref 0] h (fun r h' => r = none ∧ h' = hLR h) := by
  show zw _ _ M_X10_init 0 [some (.ref 0), none] [] h _
  refine z_aload_n (pc := 0) dX10_init_0 rfl rfl ?_
  refine c_obj (pc := 1) dX10_init_1 pl_RX10_1 (by omega) ?_
  refine z_aload_n (pc := 4) dX10_init_4 rfl rfl ?_
  refine c_new (pc := 5) (n := 1) dX10_init_5 nl_RX10_7 (lyc rfl) hb (by omega) ?_
  have b1 := hb.mono (m := 2) (by omega)
  refine z_dup (pc := 8) dX10_init_8 rfl ?_
  refine c_init (pc := 9) (nY := 53) dX10_init_9 ok_X0_init ml_RX10_9 ii_X0_init pa_X0_init ⟨Nat.le_of_ble_eq_true rfl, Nat.le_of_ble_eq_true rfl⟩ (by omega) (by omega) (by omega) (i_X0 b1) ?_
  have b2 := b1.Co
  refine c_putF (pc := 12) dX10_init_12 lk_RX10_10 (lyc rfl) (by omega) (by omega) ?_
  have b3 := b2.wR (c := 0) (k := 0) (v := some 1) (by omega)
  refine z_aload_n (pc := 15) dX10_init_15 rfl rfl ?_
  refine z_aload_n (pc := 16) dX10_init_16 rfl rfl ?_
  refine z_getR (pc := 17) (i := 1) dX10_init_17 lk_RX10_10 rfl (lyc rfl) (by omega) rR_s ?_
  refine z_getR (pc := 20) (i := 2) dX10_init_20 lk_RX10_16 rfl (lyc rfl) (by omega) (Eq.trans (rR_c (by omega)) hCo_0) ?_
  refine c_putF (pc := 23) dX10_init_23 lk_RX10_20 (lyc rfl) (by omega) (by omega) ?_
  have b4 := b3.wR (c := 0) (k := 1) (v := some 2) (by omega)
  refine z_aload_n (pc := 26) dX10_init_26 rfl rfl ?_
  refine z_aload_n (pc := 27) dX10_init_27 rfl rfl ?_
  refine z_getR (pc := 28) (i := 1) dX10_init_28 lk_RX10_10 rfl (lyc rfl) (by omega) (Eq.trans (rR_k (by decide)) rR_s) ?_
  refine z_getR (pc := 31) (i := 42) dX10_init_31 lk_RX10_23 rfl (lyc rfl) (by omega) (Eq.trans (Eq.trans (rR_c (by omega)) (rR_k (by decide))) hCo_1) ?_
  refine c_putF (pc := 34) dX10_init_34 lk_RX10_27 (lyc rfl) (by omega) (by omega) ?_
  have b5 := b4.wR (c := 0) (k := 2) (v := some 42) (by omega)
  refine z_aload_n (pc := 37) dX10_init_37 rfl rfl ?_
  refine c_new (pc := 38) (n := 53) dX10_init_38 nl_RX10_28 (lyc rfl) b5 (by omega) ?_
  have b6 := b5.mono (m := 54) (by omega)
  refine z_dup (pc := 41) dX10_init_41 rfl ?_
  refine c_init (pc := 42) (nY := 93) dX10_init_42 ok_X8_init ml_RX10_30 ii_X8_init pa_X8_init ⟨Nat.le_of_ble_eq_true rfl, Nat.le_of_ble_eq_true rfl⟩ (by omega) (by omega) (by omega) (i_X8 (Or.inr (Or.inl rfl)) b6) ?_
  have b7 := b6.W (Or.inr (Or.inl rfl))
  refine c_putF (pc := 45) dX10_init_45 lk_RX10_31 (lyc rfl) (by omega) (by omega) ?_
  have b8 := b7.wR (c := 0) (k := 3) (v := some 53) (by omega)
  refine z_aload_n (pc := 48) dX10_init_48 rfl rfl ?_
  refine c_new (pc := 49) (n := 93) dX10_init_49 nl_RX10_28 (lyc rfl) b8 (by omega) ?_
  have b9 := b8.mono (m := 94) (by omega)
  refine z_dup (pc := 52) dX10_init_52 rfl ?_
  refine c_init (pc := 53) (nY := 133) dX10_init_53 ok_X8_init ml_RX10_30 ii_X8_init pa_X8_init ⟨Nat.le_of_ble_eq_true rfl, Nat.le_of_ble_eq_true rfl⟩ (by omega) (by omega) (by omega) (i_X8 (Or.inr (Or.inr rfl)) b9) ?_
  have b10 := b9.W (Or.inr (Or.inr rfl))
  refine c_putF (pc := 56) dX10_init_56 lk_RX10_34 (lyc rfl) (by omega) (by omega) ?_
  have b11 := b10.wR (c := 0) (k := 4) (v := some 93) (by omega)
  refine z_aload_n (pc := 59) dX10_init_59 rfl rfl ?_
  refine c_new (pc := 60) (n := 133) dX10_init_60 nl_RX10_37 (lyc rfl) b11 (by omega) ?_
  have b12 := b11.mono (m := 134) (by omega)
  refine z_dup (pc := 63) dX10_init_63 rfl ?_
  refine c_init (pc := 64) (nY := 139) dX10_init_64 ok_X2_init ml_RX10_39 ii_X2_init pa_X2_init ⟨Nat.le_of_ble_eq_true rfl, Nat.le_of_ble_eq_true rfl⟩ (by omega) (by omega) (by omega) (i_X2 (Or.inr rfl) b12) ?_
  have b13 := b12.Lo (Or.inr rfl)
  refine c_putF (pc := 67) dX10_init_67 lk_RX10_40 (lyc rfl) (by omega) (by omega) ?_
  have b14 := b13.wR (c := 0) (k := 6) (v := some 133) (by omega)
  refine z_aload_n (pc := 70) dX10_init_70 rfl rfl ?_
  refine c_new (pc := 71) (n := 139) dX10_init_71 nl_RX10_43 (lyc rfl) b14 (by omega) ?_
  have b15 := b14.mono (m := 140) (by omega)
  refine z_dup (pc := 74) dX10_init_74 rfl ?_
  refine c_init (pc := 75) (nY := 141) dX10_init_75 ok_X9_init ml_RX10_45 ii_X9_init pa_X9_init ⟨Nat.le_of_ble_eq_true rfl, Nat.le_of_ble_eq_true rfl⟩ (by omega) (by omega) (by omega) (i_X9 (Or.inr rfl) b15) ?_
  have b16 := b15.Wo (Or.inr rfl)
  refine c_putF (pc := 78) dX10_init_78 lk_RX10_46 (lyc rfl) (by omega) (by omega) ?_
  have b17 := b16.wR (c := 0) (k := 7) (v := some 139) (by omega)
  refine z_aload_n (pc := 81) dX10_init_81 rfl rfl ?_
  refine c_new (pc := 82) (n := 141) dX10_init_82 nl_RX10_50 (lyc rfl) b17 (by omega) ?_
  have b18 := b17.mono (m := 142) (by omega)
  refine z_dup (pc := 85) dX10_init_85 rfl ?_
  refine c_init (pc := 86) (nY := 154) dX10_init_86 ok_X3_init ml_RX10_52 ii_X3_init pa_X3_init ⟨Nat.le_of_ble_eq_true rfl, Nat.le_of_ble_eq_true rfl⟩ (by omega) (by omega) (by omega) (i_X3 b18) ?_
  have b19 := b18.Rd
  refine c_putF (pc := 89) dX10_init_89 lk_RX10_53 (lyc rfl) (by omega) (by omega) ?_
  have b20 := b19.wR (c := 0) (k := 8) (v := some 141) (by omega)
  refine z_aload_n (pc := 92) dX10_init_92 rfl rfl ?_
  refine z_iconst (pc := 93) (v := 4) dX10_init_93 (by decide) ?_
  refine c_newQ (pc := 94) (n := 154) (k := 4) (t := 4) (E := "LayeredRules$Sheet") dX10_init_94 ql_RX10_57 (List.mem_of_getElem? (i := 4) rfl) (lyc rfl) rfl (by decide) (lnc rfl) b20 (by omega) ?_
  have b21 := b20.mono (m := 155) (by omega)
  refine c_putF (pc := 97) dX10_init_97 lk_RX10_59 (lyc rfl) (by omega) (by omega) ?_
  have b22 := b21.wR (c := 0) (k := 9) (v := some 154) (by omega)
  refine z_aload_n (pc := 100) dX10_init_100 rfl rfl ?_
  refine z_bipush (pc := 101) (v := 40) dX10_init_101 (by decide) ?_
  refine c_newI (pc := 103) (n := 155) (k := 40) dX10_init_103 (lyc rfl) (by decide) (lnc rfl) b22 (by omega) ?_
  have b23 := b22.mono (m := 156) (by omega)
  refine c_putF (pc := 105) dX10_init_105 lk_RX10_63 (lyc rfl) (by omega) (by omega) ?_
  have b24 := b23.wR (c := 0) (k := 10) (v := some 155) (by omega)
  refine z_iconst (pc := 108) (v := 0) dX10_init_108 (by decide) ?_
  refine z_istore_n (pc := 109) (ls' := [some (.ref 0), some (.int (nI 0))]) dX10_init_109 rfl (by decide) rfl ?_
  refine z_iload_n (pc := 110) dX10_init_110 rfl rfl ?_
  refine z_iconst (pc := 111) (v := 4) dX10_init_111 (by decide) ?_
  refine z_icmp_ge (pc := 112) (tgt := 134) dX10_init_112 (by decide) (fun z => absurd z (by decide)) (fun _ => ?_)
  refine z_aload_n (pc := 115) dX10_init_115 rfl rfl ?_
  refine z_getR (pc := 116) (i := 154) dX10_init_116 lk_RX10_59 rfl (lyc rfl) (by omega) (Eq.trans (rR_k (by decide)) rR_s) ?_
  refine z_iload_n (pc := 119) dX10_init_119 rfl rfl ?_
  refine c_new (pc := 120) (n := 156) dX10_init_120 nl_RX10_57 (lyc rfl) b24 (by omega) ?_
  have b25 := b24.mono (m := 157) (by omega)
  refine z_dup (pc := 123) dX10_init_123 rfl ?_
  refine c_init (pc := 124) (nY := 158) dX10_init_124 ok_X5_init ml_RX10_67 ii_X5_init pa_X5_init ⟨Nat.le_of_ble_eq_true rfl, Nat.le_of_ble_eq_true rfl⟩ (by omega) (by omega) (by omega) (i_X5 (Or.inl rfl) b25) ?_
  have b26 := b25.Se (Or.inl rfl)
  refine c_aast (pc := 127) (j := 0) (t := 4) dX10_init_127 (lyc rfl) (by omega) (zvl (lnc rfl) (by decide)) (by decide) (lyc rfl) (by omega) ?_
  have b27 := b26.wR (c := 154) (k := 0) (v := some 156) (by omega)
  refine z_iinc (pc := 128) (v := nI 1) (ls' := [some (.ref 0), some (.int (nI 1))]) dX10_init_128 (by decide) rfl (by decide) rfl ?_
  refine z_goto (pc := 131) (tgt := 110) dX10_init_131 (by decide) ?_
  refine z_iload_n (pc := 110) dX10_init_110 rfl rfl ?_
  refine z_iconst (pc := 111) (v := 4) dX10_init_111 (by decide) ?_
  refine z_icmp_ge (pc := 112) (tgt := 134) dX10_init_112 (by decide) (fun z => absurd z (by decide)) (fun _ => ?_)
  refine z_aload_n (pc := 115) dX10_init_115 rfl rfl ?_
  refine z_getR (pc := 116) (i := 154) dX10_init_116 lk_RX10_59 rfl (lyc rfl) (by omega) (Eq.trans (Eq.trans (Eq.trans (rR_k (by decide)) (hSe_o (by omega))) (rR_k (by decide))) rR_s) ?_
  refine z_iload_n (pc := 119) dX10_init_119 rfl rfl ?_
  refine c_new (pc := 120) (n := 158) dX10_init_120 nl_RX10_57 (lyc rfl) b27 (by omega) ?_
  have b28 := b27.mono (m := 159) (by omega)
  refine z_dup (pc := 123) dX10_init_123 rfl ?_
  refine c_init (pc := 124) (nY := 160) dX10_init_124 ok_X5_init ml_RX10_67 ii_X5_init pa_X5_init ⟨Nat.le_of_ble_eq_true rfl, Nat.le_of_ble_eq_true rfl⟩ (by omega) (by omega) (by omega) (i_X5 (Or.inr (Or.inl rfl)) b28) ?_
  have b29 := b28.Se (Or.inr (Or.inl rfl))
  refine c_aast (pc := 127) (j := 1) (t := 4) dX10_init_127 (lyc rfl) (by omega) (zvl (lnc rfl) (by decide)) (by decide) (lyc rfl) (by omega) ?_
  have b30 := b29.wR (c := 154) (k := 1) (v := some 158) (by omega)
  refine z_iinc (pc := 128) (v := nI 2) (ls' := [some (.ref 0), some (.int (nI 2))]) dX10_init_128 (by decide) rfl (by decide) rfl ?_
  refine z_goto (pc := 131) (tgt := 110) dX10_init_131 (by decide) ?_
  refine z_iload_n (pc := 110) dX10_init_110 rfl rfl ?_
  refine z_iconst (pc := 111) (v := 4) dX10_init_111 (by decide) ?_
  refine z_icmp_ge (pc := 112) (tgt := 134) dX10_init_112 (by decide) (fun z => absurd z (by decide)) (fun _ => ?_)
  refine z_aload_n (pc := 115) dX10_init_115 rfl rfl ?_
  refine z_getR (pc := 116) (i := 154) dX10_init_116 lk_RX10_59 rfl (lyc rfl) (by omega) (Eq.trans (Eq.trans (Eq.trans (Eq.trans (Eq.trans (rR_k (by decide)) (hSe_o (by omega))) (rR_k (by decide))) (hSe_o (by omega))) (rR_k (by decide))) rR_s) ?_
  refine z_iload_n (pc := 119) dX10_init_119 rfl rfl ?_
  refine c_new (pc := 120) (n := 160) dX10_init_120 nl_RX10_57 (lyc rfl) b30 (by omega) ?_
  have b31 := b30.mono (m := 161) (by omega)
  refine z_dup (pc := 123) dX10_init_123 rfl ?_
  refine c_init (pc := 124) (nY := 162) dX10_init_124 ok_X5_init ml_RX10_67 ii_X5_init pa_X5_init ⟨Nat.le_of_ble_eq_true rfl, Nat.le_of_ble_eq_true rfl⟩ (by omega) (by omega) (by omega) (i_X5 (Or.inr (Or.inr (Or.inl rfl))) b31) ?_
  have b32 := b31.Se (Or.inr (Or.inr (Or.inl rfl)))
  refine c_aast (pc := 127) (j := 2) (t := 4) dX10_init_127 (lyc rfl) (by omega) (zvl (lnc rfl) (by decide)) (by decide) (lyc rfl) (by omega) ?_
  have b33 := b32.wR (c := 154) (k := 2) (v := some 160) (by omega)
  refine z_iinc (pc := 128) (v := nI 3) (ls' := [some (.ref 0), some (.int (nI 3))]) dX10_init_128 (by decide) rfl (by decide) rfl ?_
  refine z_goto (pc := 131) (tgt := 110) dX10_init_131 (by decide) ?_
  refine z_iload_n (pc := 110) dX10_init_110 rfl rfl ?_
  refine z_iconst (pc := 111) (v := 4) dX10_init_111 (by decide) ?_
  refine z_icmp_ge (pc := 112) (tgt := 134) dX10_init_112 (by decide) (fun z => absurd z (by decide)) (fun _ => ?_)
  refine z_aload_n (pc := 115) dX10_init_115 rfl rfl ?_
  refine z_getR (pc := 116) (i := 154) dX10_init_116 lk_RX10_59 rfl (lyc rfl) (by omega) (Eq.trans (Eq.trans (Eq.trans (Eq.trans (Eq.trans (Eq.trans (Eq.trans (rR_k (by decide)) (hSe_o (by omega))) (rR_k (by decide))) (hSe_o (by omega))) (rR_k (by decide))) (hSe_o (by omega))) (rR_k (by decide))) rR_s) ?_
  refine z_iload_n (pc := 119) dX10_init_119 rfl rfl ?_
  refine c_new (pc := 120) (n := 162) dX10_init_120 nl_RX10_57 (lyc rfl) b33 (by omega) ?_
  have b34 := b33.mono (m := 163) (by omega)
  refine z_dup (pc := 123) dX10_init_123 rfl ?_
  refine c_init (pc := 124) (nY := 164) dX10_init_124 ok_X5_init ml_RX10_67 ii_X5_init pa_X5_init ⟨Nat.le_of_ble_eq_true rfl, Nat.le_of_ble_eq_true rfl⟩ (by omega) (by omega) (by omega) (i_X5 (Or.inr (Or.inr (Or.inr rfl))) b34) ?_
  have b35 := b34.Se (Or.inr (Or.inr (Or.inr rfl)))
  refine c_aast (pc := 127) (j := 3) (t := 4) dX10_init_127 (lyc rfl) (by omega) (zvl (lnc rfl) (by decide)) (by decide) (lyc rfl) (by omega) ?_
  have b36 := b35.wR (c := 154) (k := 3) (v := some 162) (by omega)
  refine z_iinc (pc := 128) (v := nI 4) (ls' := [some (.ref 0), some (.int (nI 4))]) dX10_init_128 (by decide) rfl (by decide) rfl ?_
  refine z_goto (pc := 131) (tgt := 110) dX10_init_131 (by decide) ?_
  refine z_iload_n (pc := 110) dX10_init_110 rfl rfl ?_
  refine z_iconst (pc := 111) (v := 4) dX10_init_111 (by decide) ?_
  refine z_icmp_ge (pc := 112) (tgt := 134) dX10_init_112 (by decide) (fun _ => ?_) (fun z => absurd (by decide) z)
  exact z_return (pc := 134) dX10_init_134 rfl trivial ⟨rfl, rfl⟩
theorem Bl.LR {h : zHp} (hb : Bl h (1)) : Bl (hLR h) (164) := by
  have b1 := hb.mono (m := 2) (by omega)
  have b2 := b1.Co
  have b3 := b2.wR (c := 0) (k := 0) (v := some 1) (by omega)
  have b4 := b3.wR (c := 0) (k := 1) (v := some 2) (by omega)
  have b5 := b4.wR (c := 0) (k := 2) (v := some 42) (by omega)
  have b6 := b5.mono (m := 54) (by omega)
  have b7 := b6.W (Or.inr (Or.inl rfl))
  have b8 := b7.wR (c := 0) (k := 3) (v := some 53) (by omega)
  have b9 := b8.mono (m := 94) (by omega)
  have b10 := b9.W (Or.inr (Or.inr rfl))
  have b11 := b10.wR (c := 0) (k := 4) (v := some 93) (by omega)
  have b12 := b11.mono (m := 134) (by omega)
  have b13 := b12.Lo (Or.inr rfl)
  have b14 := b13.wR (c := 0) (k := 6) (v := some 133) (by omega)
  have b15 := b14.mono (m := 140) (by omega)
  have b16 := b15.Wo (Or.inr rfl)
  have b17 := b16.wR (c := 0) (k := 7) (v := some 139) (by omega)
  have b18 := b17.mono (m := 142) (by omega)
  have b19 := b18.Rd
  have b20 := b19.wR (c := 0) (k := 8) (v := some 141) (by omega)
  have b21 := b20.mono (m := 155) (by omega)
  have b22 := b21.wR (c := 0) (k := 9) (v := some 154) (by omega)
  have b23 := b22.mono (m := 156) (by omega)
  have b24 := b23.wR (c := 0) (k := 10) (v := some 155) (by omega)
  have b25 := b24.mono (m := 157) (by omega)
  have b26 := b25.Se (Or.inl rfl)
  have b27 := b26.wR (c := 154) (k := 0) (v := some 156) (by omega)
  have b28 := b27.mono (m := 159) (by omega)
  have b29 := b28.Se (Or.inr (Or.inl rfl))
  have b30 := b29.wR (c := 154) (k := 1) (v := some 158) (by omega)
  have b31 := b30.mono (m := 161) (by omega)
  have b32 := b31.Se (Or.inr (Or.inr (Or.inl rfl)))
  have b33 := b32.wR (c := 154) (k := 2) (v := some 160) (by omega)
  have b34 := b33.mono (m := 163) (by omega)
  have b35 := b34.Se (Or.inr (Or.inr (Or.inr rfl)))
  have b36 := b35.wR (c := 154) (k := 3) (v := some 162) (by omega)
  exact b36
def hMo (h : zHp) : zHp := (wI (wR (wR (wR (wI (wI (wI (wI (wR (wR (wR (wR (wR (wR (wR (wR (wR (wR (wR (wR (wR (wR (wR (wR (wR (wR (wR (wR (wR (wR (wR (wR (wR h 164 0 (some 165)) 164 1 (some 166)) 164 2 (some 167)) 164 4 (some 168)) 164 5 (some 169)) 164 6 (some 170)) 164 9 (some 171)) 164 17 (some 172)) 164 18 (some 173)) 164 20 (some 174)) 175 0 (some (1010 + 0))) 175 1 (some (1010 + 1))) 175 2 (some (1010 + 2))) 175 3 (some (1010 + 3))) 175 4 (some (1010 + 4))) 175 5 (some (1010 + 5))) 164 26 (some 175)) 176 0 (some (1010 + 6))) 176 1 (some (1010 + 7))) 176 2 (some (1010 + 8))) 176 3 (some (1010 + 9))) 176 4 (some (1010 + 10))) 176 5 (some (1010 + 11))) 164 27 (some 176)) 164 28 (some 177)) 178 0 (-1)) 178 1 (-1)) 178 2 (-1)) 178 3 (-1)) 164 30 (some 178)) 164 31 (some 179)) 164 32 (some 180)) 165 245 (1))
theorem i_X11 {h : zHp} (hb : Bl h (165)) : zcall (181) (165) M_X11_init [.ref 164] h (fun r h' => r = none ∧ h' = hMo h) := by
  show zw _ _ M_X11_init 0 [some (.ref 164)] [] h _
  refine z_aload_n (pc := 0) dX11_init_0 rfl rfl ?_
  refine c_obj (pc := 1) dX11_init_1 pl_RX11_1 (by omega) ?_
  refine z_aload_n (pc := 4) dX11_init_4 rfl rfl ?_
  refine z_sipush (pc := 5) (v := 246) dX11_init_5 (by decide) ?_
  refine c_newI (pc := 8) (n := 165) (k := 246) dX11_init_8 (lyc rfl) (by decide) (lnc rfl) hb (by omega) ?_
  have b1 := hb.mono (m := 166) (by omega)
  refine c_putF (pc := 10) dX11_init_10 lk_RX11_7 (lyc rfl) (by omega) (by omega) ?_
  have b2 := b1.wR (c := 164) (k := 0) (v := some 165) (by omega)
  refine z_aload_n (pc := 13) dX11_init_13 rfl rfl ?_
  refine z_sipush (pc := 14) (v := 246) dX11_init_14 (by decide) ?_
  refine c_newI (pc := 17) (n := 166) (k := 246) dX11_init_17 (lyc rfl) (by decide) (lnc rfl) b2 (by omega) ?_
  have b3 := b2.mono (m := 167) (by omega)
  refine c_putF (pc := 19) dX11_init_19 lk_RX11_13 (lyc rfl) (by omega) (by omega) ?_
  have b4 := b3.wR (c := 164) (k := 1) (v := some 166) (by omega)
  refine z_aload_n (pc := 22) dX11_init_22 rfl rfl ?_
  refine z_sipush (pc := 23) (v := 246) dX11_init_23 (by decide) ?_
  refine c_newI (pc := 26) (n := 167) (k := 246) dX11_init_26 (lyc rfl) (by decide) (lnc rfl) b4 (by omega) ?_
  have b5 := b4.mono (m := 168) (by omega)
  refine c_putF (pc := 28) dX11_init_28 lk_RX11_16 (lyc rfl) (by omega) (by omega) ?_
  have b6 := b5.wR (c := 164) (k := 2) (v := some 167) (by omega)
  refine z_aload_n (pc := 31) dX11_init_31 rfl rfl ?_
  refine z_bipush (pc := 32) (v := 32) dX11_init_32 (by decide) ?_
  refine c_newI (pc := 34) (n := 168) (k := 32) dX11_init_34 (lyc rfl) (by decide) (lnc rfl) b6 (by omega) ?_
  have b7 := b6.mono (m := 169) (by omega)
  refine c_putF (pc := 36) dX11_init_36 lk_RX11_19 (lyc rfl) (by omega) (by omega) ?_
  have b8 := b7.wR (c := 164) (k := 4) (v := some 168) (by omega)
  refine z_aload_n (pc := 39) dX11_init_39 rfl rfl ?_
  refine z_bipush (pc := 40) (v := 32) dX11_init_40 (by decide) ?_
  refine c_newI (pc := 42) (n := 169) (k := 32) dX11_init_42 (lyc rfl) (by decide) (lnc rfl) b8 (by omega) ?_
  have b9 := b8.mono (m := 170) (by omega)
  refine c_putF (pc := 44) dX11_init_44 lk_RX11_22 (lyc rfl) (by omega) (by omega) ?_
  have b10 := b9.wR (c := 164) (k := 5) (v := some 169) (by omega)
  refine z_aload_n (pc := 47) dX11_init_47 rfl rfl ?_
  refine z_bipush (pc := 48) (v := 10) dX11_init_48 (by decide) ?_
  refine c_newI (pc := 50) (n := 170) (k := 10) dX11_init_50 (lyc rfl) (by decide) (lnc rfl) b10 (by omega) ?_
  have b11 := b10.mono (m := 171) (by omega)
  refine c_putF (pc := 52) dX11_init_52 lk_RX11_25 (lyc rfl) (by omega) (by omega) ?_
  have b12 := b11.wR (c := 164) (k := 6) (v := some 170) (by omega)
  refine z_aload_n (pc := 55) dX11_init_55 rfl rfl ?_
  refine z_sipush (pc := 56) (v := 1024) dX11_init_56 (by decide) ?_
  refine c_newI (pc := 59) (n := 171) (k := 1024) dX11_init_59 (lyc rfl) (by decide) (lnc rfl) b12 (by omega) ?_
  have b13 := b12.mono (m := 172) (by omega)
  refine c_putF (pc := 61) dX11_init_61 lk_RX11_28 (lyc rfl) (by omega) (by omega) ?_
  have b14 := b13.wR (c := 164) (k := 9) (v := some 171) (by omega)
  refine z_aload_n (pc := 64) dX11_init_64 rfl rfl ?_
  refine z_bipush (pc := 65) (v := 41) dX11_init_65 (by decide) ?_
  refine c_newI (pc := 67) (n := 172) (k := 41) dX11_init_67 (lyc rfl) (by decide) (lnc rfl) b14 (by omega) ?_
  have b15 := b14.mono (m := 173) (by omega)
  refine c_putF (pc := 69) dX11_init_69 lk_RX11_31 (lyc rfl) (by omega) (by omega) ?_
  have b16 := b15.wR (c := 164) (k := 17) (v := some 172) (by omega)
  refine z_aload_n (pc := 72) dX11_init_72 rfl rfl ?_
  refine z_bipush (pc := 73) (v := 41) dX11_init_73 (by decide) ?_
  refine c_newI (pc := 75) (n := 173) (k := 41) dX11_init_75 (lyc rfl) (by decide) (lnc rfl) b16 (by omega) ?_
  have b17 := b16.mono (m := 174) (by omega)
  refine c_putF (pc := 77) dX11_init_77 lk_RX11_34 (lyc rfl) (by omega) (by omega) ?_
  have b18 := b17.wR (c := 164) (k := 18) (v := some 173) (by omega)
  refine z_aload_n (pc := 80) dX11_init_80 rfl rfl ?_
  refine z_bipush (pc := 81) (v := 120) dX11_init_81 (by decide) ?_
  refine c_newI (pc := 83) (n := 174) (k := 120) dX11_init_83 (lyc rfl) (by decide) (lnc rfl) b18 (by omega) ?_
  have b19 := b18.mono (m := 175) (by omega)
  refine c_putF (pc := 85) dX11_init_85 lk_RX11_37 (lyc rfl) (by omega) (by omega) ?_
  have b20 := b19.wR (c := 164) (k := 20) (v := some 174) (by omega)
  refine z_aload_n (pc := 88) dX11_init_88 rfl rfl ?_
  refine z_bipush (pc := 89) (v := 6) dX11_init_89 (by decide) ?_
  refine c_newQ (pc := 91) (n := 175) (k := 6) (t := 5) (E := "java/lang/String") dX11_init_91 ql_RX11_40 (List.mem_of_getElem? (i := 5) rfl) (lyc rfl) rfl (by decide) (lnc rfl) b20 (by omega) ?_
  have b21 := b20.mono (m := 176) (by omega)
  refine z_dup (pc := 94) dX11_init_94 rfl ?_
  refine z_iconst (pc := 95) (v := 0) dX11_init_95 (by decide) ?_
  refine z_ldcS (pc := 96) (i := 0) (tx := "all") dX11_init_96 (List.mem_of_getElem? (i := 13) rfl) (by decide) ?_
  refine z_aastS (pc := 98) (j := 0) (r := 0) dX11_init_98 (lyc rfl) (by omega) (zvl (lnc rfl) (by decide)) (by decide) (by decide) ?_
  have b22 := b21.wR (c := 175) (k := 0) (v := some (1010 + 0)) (by omega)
  refine z_dup (pc := 99) dX11_init_99 rfl ?_
  refine z_iconst (pc := 100) (v := 1) dX11_init_100 (by decide) ?_
  refine z_ldcS (pc := 101) (i := 1) (tx := "owner") dX11_init_101 (List.mem_of_getElem? (i := 14) rfl) (by decide) ?_
  refine z_aastS (pc := 103) (j := 1) (r := 1) dX11_init_103 (lyc rfl) (by omega) (zvl (lnc rfl) (by decide)) (by decide) (by decide) ?_
  have b23 := b22.wR (c := 175) (k := 1) (v := some (1010 + 1)) (by omega)
  refine z_dup (pc := 104) dX11_init_104 rfl ?_
  refine z_iconst (pc := 105) (v := 2) dX11_init_105 (by decide) ?_
  refine z_ldcS (pc := 106) (i := 2) (tx := "type") dX11_init_106 (List.mem_of_getElem? (i := 15) rfl) (by decide) ?_
  refine z_aastS (pc := 108) (j := 2) (r := 2) dX11_init_108 (lyc rfl) (by omega) (zvl (lnc rfl) (by decide)) (by decide) (by decide) ?_
  have b24 := b23.wR (c := 175) (k := 2) (v := some (1010 + 2)) (by omega)
  refine z_dup (pc := 109) dX11_init_109 rfl ?_
  refine z_iconst (pc := 110) (v := 3) dX11_init_110 (by decide) ?_
  refine z_ldcS (pc := 111) (i := 3) (tx := "with") dX11_init_111 (List.mem_of_getElem? (i := 16) rfl) (by decide) ?_
  refine z_aastS (pc := 113) (j := 3) (r := 3) dX11_init_113 (lyc rfl) (by omega) (zvl (lnc rfl) (by decide)) (by decide) (by decide) ?_
  have b25 := b24.wR (c := 175) (k := 3) (v := some (1010 + 3)) (by omega)
  refine z_dup (pc := 114) dX11_init_114 rfl ?_
  refine z_iconst (pc := 115) (v := 4) dX11_init_115 (by decide) ?_
  refine z_ldcS (pc := 116) (i := 4) (tx := "without") dX11_init_116 (List.mem_of_getElem? (i := 17) rfl) (by decide) ?_
  refine z_aastS (pc := 118) (j := 4) (r := 4) dX11_init_118 (lyc rfl) (by omega) (zvl (lnc rfl) (by decide)) (by decide) (by decide) ?_
  have b26 := b25.wR (c := 175) (k := 4) (v := some (1010 + 4)) (by omega)
  refine z_dup (pc := 119) dX11_init_119 rfl ?_
  refine z_iconst (pc := 120) (v := 5) dX11_init_120 (by decide) ?_
  refine z_ldcS (pc := 121) (i := 5) (tx := "thing") dX11_init_121 (List.mem_of_getElem? (i := 18) rfl) (by decide) ?_
  refine z_aastS (pc := 123) (j := 5) (r := 5) dX11_init_123 (lyc rfl) (by omega) (zvl (lnc rfl) (by decide)) (by decide) (by decide) ?_
  have b27 := b26.wR (c := 175) (k := 5) (v := some (1010 + 5)) (by omega)
  refine c_putF (pc := 124) dX11_init_124 lk_RX11_54 (lyc rfl) (by omega) (by omega) ?_
  have b28 := b27.wR (c := 164) (k := 26) (v := some 175) (by omega)
  refine z_aload_n (pc := 127) dX11_init_127 rfl rfl ?_
  refine z_bipush (pc := 128) (v := 6) dX11_init_128 (by decide) ?_
  refine c_newQ (pc := 130) (n := 176) (k := 6) (t := 5) (E := "java/lang/String") dX11_init_130 ql_RX11_40 (List.mem_of_getElem? (i := 5) rfl) (lyc rfl) rfl (by decide) (lnc rfl) b28 (by omega) ?_
  have b29 := b28.mono (m := 177) (by omega)
  refine z_dup (pc := 133) dX11_init_133 rfl ?_
  refine z_iconst (pc := 134) (v := 0) dX11_init_134 (by decide) ?_
  refine z_ldcS (pc := 135) (i := 6) (tx := "is") dX11_init_135 (List.mem_of_getElem? (i := 19) rfl) (by decide) ?_
  refine z_aastS (pc := 137) (j := 0) (r := 6) dX11_init_137 (lyc rfl) (by omega) (zvl (lnc rfl) (by decide)) (by decide) (by decide) ?_
  have b30 := b29.wR (c := 176) (k := 0) (v := some (1010 + 6)) (by omega)
  refine z_dup (pc := 138) dX11_init_138 rfl ?_
  refine z_iconst (pc := 139) (v := 1) dX11_init_139 (by decide) ?_
  refine z_ldcS (pc := 140) (i := 7) (tx := "gains") dX11_init_140 (List.mem_of_getElem? (i := 20) rfl) (by decide) ?_
  refine z_aastS (pc := 142) (j := 1) (r := 7) dX11_init_142 (lyc rfl) (by omega) (zvl (lnc rfl) (by decide)) (by decide) (by decide) ?_
  have b31 := b30.wR (c := 176) (k := 1) (v := some (1010 + 7)) (by omega)
  refine z_dup (pc := 143) dX11_init_143 rfl ?_
  refine z_iconst (pc := 144) (v := 2) dX11_init_144 (by decide) ?_
  refine z_ldcS (pc := 145) (i := 8) (tx := "loses") dX11_init_145 (List.mem_of_getElem? (i := 21) rfl) (by decide) ?_
  refine z_aastS (pc := 147) (j := 2) (r := 8) dX11_init_147 (lyc rfl) (by omega) (zvl (lnc rfl) (by decide)) (by decide) (by decide) ?_
  have b32 := b31.wR (c := 176) (k := 2) (v := some (1010 + 8)) (by omega)
  refine z_dup (pc := 148) dX11_init_148 rfl ?_
  refine z_iconst (pc := 149) (v := 3) dX11_init_149 (by decide) ?_
  refine z_ldcS (pc := 150) (i := 9) (tx := "sets") dX11_init_150 (List.mem_of_getElem? (i := 22) rfl) (by decide) ?_
  refine z_aastS (pc := 152) (j := 3) (r := 9) dX11_init_152 (lyc rfl) (by omega) (zvl (lnc rfl) (by decide)) (by decide) (by decide) ?_
  have b33 := b32.wR (c := 176) (k := 3) (v := some (1010 + 9)) (by omega)
  refine z_dup (pc := 153) dX11_init_153 rfl ?_
  refine z_iconst (pc := 154) (v := 4) dX11_init_154 (by decide) ?_
  refine z_ldcS (pc := 155) (i := 10) (tx := "gets") dX11_init_155 (List.mem_of_getElem? (i := 23) rfl) (by decide) ?_
  refine z_aastS (pc := 157) (j := 4) (r := 10) dX11_init_157 (lyc rfl) (by omega) (zvl (lnc rfl) (by decide)) (by decide) (by decide) ?_
  have b34 := b33.wR (c := 176) (k := 4) (v := some (1010 + 10)) (by omega)
  refine z_dup (pc := 158) dX11_init_158 rfl ?_
  refine z_iconst (pc := 159) (v := 5) dX11_init_159 (by decide) ?_
  refine z_ldcS (pc := 160) (i := 11) (tx := "swaps") dX11_init_160 (List.mem_of_getElem? (i := 24) rfl) (by decide) ?_
  refine z_aastS (pc := 162) (j := 5) (r := 11) dX11_init_162 (lyc rfl) (by omega) (zvl (lnc rfl) (by decide)) (by decide) (by decide) ?_
  have b35 := b34.wR (c := 176) (k := 5) (v := some (1010 + 11)) (by omega)
  refine c_putF (pc := 163) dX11_init_163 lk_RX11_69 (lyc rfl) (by omega) (by omega) ?_
  have b36 := b35.wR (c := 164) (k := 27) (v := some 176) (by omega)
  refine z_aload_n (pc := 166) dX11_init_166 rfl rfl ?_
  refine z_iconst (pc := 167) (v := 3) dX11_init_167 (by decide) ?_
  refine c_newI (pc := 168) (n := 177) (k := 3) dX11_init_168 (lyc rfl) (by decide) (lnc rfl) b36 (by omega) ?_
  have b37 := b36.mono (m := 178) (by omega)
  refine c_putF (pc := 170) dX11_init_170 lk_RX11_72 (lyc rfl) (by omega) (by omega) ?_
  have b38 := b37.wR (c := 164) (k := 28) (v := some 177) (by omega)
  refine z_aload_n (pc := 173) dX11_init_173 rfl rfl ?_
  refine z_iconst (pc := 174) (v := 4) dX11_init_174 (by decide) ?_
  refine c_newI (pc := 175) (n := 178) (k := 4) dX11_init_175 (lyc rfl) (by decide) (lnc rfl) b38 (by omega) ?_
  have b39 := b38.mono (m := 179) (by omega)
  refine z_dup (pc := 177) dX11_init_177 rfl ?_
  refine z_iconst (pc := 178) (v := 0) dX11_init_178 (by decide) ?_
  refine z_iconst (pc := 179) (v := -1) dX11_init_179 (by decide) ?_
  refine z_iast (pc := 180) (j := 0) dX11_init_180 (lyc rfl) (by omega) (zvl (lnc rfl) (by decide)) (by decide) ?_
  have b40 := b39.wI (c := 178) (k := 0) (v := -1) (by omega)
  refine z_dup (pc := 181) dX11_init_181 rfl ?_
  refine z_iconst (pc := 182) (v := 1) dX11_init_182 (by decide) ?_
  refine z_iconst (pc := 183) (v := -1) dX11_init_183 (by decide) ?_
  refine z_iast (pc := 184) (j := 1) dX11_init_184 (lyc rfl) (by omega) (zvl (lnc rfl) (by decide)) (by decide) ?_
  have b41 := b40.wI (c := 178) (k := 1) (v := -1) (by omega)
  refine z_dup (pc := 185) dX11_init_185 rfl ?_
  refine z_iconst (pc := 186) (v := 2) dX11_init_186 (by decide) ?_
  refine z_iconst (pc := 187) (v := -1) dX11_init_187 (by decide) ?_
  refine z_iast (pc := 188) (j := 2) dX11_init_188 (lyc rfl) (by omega) (zvl (lnc rfl) (by decide)) (by decide) ?_
  have b42 := b41.wI (c := 178) (k := 2) (v := -1) (by omega)
  refine z_dup (pc := 189) dX11_init_189 rfl ?_
  refine z_iconst (pc := 190) (v := 3) dX11_init_190 (by decide) ?_
  refine z_iconst (pc := 191) (v := -1) dX11_init_191 (by decide) ?_
  refine z_iast (pc := 192) (j := 3) dX11_init_192 (lyc rfl) (by omega) (zvl (lnc rfl) (by decide)) (by decide) ?_
  have b43 := b42.wI (c := 178) (k := 3) (v := -1) (by omega)
  refine c_putF (pc := 193) dX11_init_193 lk_RX11_75 (lyc rfl) (by omega) (by omega) ?_
  have b44 := b43.wR (c := 164) (k := 30) (v := some 178) (by omega)
  refine z_aload_n (pc := 196) dX11_init_196 rfl rfl ?_
  refine z_iconst (pc := 197) (v := 4) dX11_init_197 (by decide) ?_
  refine c_newI (pc := 198) (n := 179) (k := 4) dX11_init_198 (lyc rfl) (by decide) (lnc rfl) b44 (by omega) ?_
  have b45 := b44.mono (m := 180) (by omega)
  refine c_putF (pc := 200) dX11_init_200 lk_RX11_78 (lyc rfl) (by omega) (by omega) ?_
  have b46 := b45.wR (c := 164) (k := 31) (v := some 179) (by omega)
  refine z_aload_n (pc := 203) dX11_init_203 rfl rfl ?_
  refine z_sipush (pc := 204) (v := 160) dX11_init_204 (by decide) ?_
  refine c_newI (pc := 207) (n := 180) (k := 160) dX11_init_207 (lyc rfl) (by decide) (lnc rfl) b46 (by omega) ?_
  have b47 := b46.mono (m := 181) (by omega)
  refine c_putF (pc := 209) dX11_init_209 lk_RX11_81 (lyc rfl) (by omega) (by omega) ?_
  have b48 := b47.wR (c := 164) (k := 32) (v := some 180) (by omega)
  refine z_aload_n (pc := 212) dX11_init_212 rfl rfl ?_
  refine z_getR (pc := 213) (i := 165) dX11_init_213 lk_RX11_7 rfl (lyc rfl) (by omega) (Eq.trans (Eq.trans (Eq.trans (Eq.trans (Eq.trans (Eq.trans (Eq.trans (Eq.trans (Eq.trans (Eq.trans (Eq.trans (Eq.trans (Eq.trans (Eq.trans (Eq.trans (Eq.trans (Eq.trans (Eq.trans (Eq.trans (Eq.trans (Eq.trans (Eq.trans (Eq.trans (Eq.trans (Eq.trans (Eq.trans (Eq.trans (Eq.trans (Eq.trans (Eq.trans (Eq.trans (rR_k (by decide)) (rR_k (by decide))) (rR_k (by decide))) rR_i) rR_i) rR_i) rR_i) (rR_k (by decide))) (rR_k (by decide))) (rR_k (by decide))) (rR_k (by decide))) (rR_k (by decide))) (rR_k (by decide))) (rR_k (by decide))) (rR_c (by omega))) (rR_k (by decide))) (rR_k (by decide))) (rR_k (by decide))) (rR_k (by decide))) (rR_k (by decide))) (rR_k (by decide))) (rR_c (by omega))) (rR_k (by decide))) (rR_k (by decide))) (rR_k (by decide))) (rR_k (by decide))) (rR_k (by decide))) (rR_k (by decide))) (rR_k (by decide))) (rR_k (by decide))) (rR_k (by decide))) rR_s) ?_
  refine z_sipush (pc := 216) (v := 245) dX11_init_216 (by decide) ?_
  refine z_iconst (pc := 219) (v := 1) dX11_init_219 (by decide) ?_
  refine z_iast (pc := 220) (j := 245) dX11_init_220 (lyc rfl) (by omega) (zvl (lnc rfl) (by decide)) (by decide) ?_
  have b49 := b48.wI (c := 165) (k := 245) (v := 1) (by omega)
  exact z_return (pc := 221) dX11_init_221 rfl trivial ⟨rfl, rfl⟩
theorem Bl.Mo {h : zHp} (hb : Bl h (165)) : Bl (hMo h) (181) := by
  have b1 := hb.mono (m := 166) (by omega)
  have b2 := b1.wR (c := 164) (k := 0) (v := some 165) (by omega)
  have b3 := b2.mono (m := 167) (by omega)
  have b4 := b3.wR (c := 164) (k := 1) (v := some 166) (by omega)
  have b5 := b4.mono (m := 168) (by omega)
  have b6 := b5.wR (c := 164) (k := 2) (v := some 167) (by omega)
  have b7 := b6.mono (m := 169) (by omega)
  have b8 := b7.wR (c := 164) (k := 4) (v := some 168) (by omega)
  have b9 := b8.mono (m := 170) (by omega)
  have b10 := b9.wR (c := 164) (k := 5) (v := some 169) (by omega)
  have b11 := b10.mono (m := 171) (by omega)
  have b12 := b11.wR (c := 164) (k := 6) (v := some 170) (by omega)
  have b13 := b12.mono (m := 172) (by omega)
  have b14 := b13.wR (c := 164) (k := 9) (v := some 171) (by omega)
  have b15 := b14.mono (m := 173) (by omega)
  have b16 := b15.wR (c := 164) (k := 17) (v := some 172) (by omega)
  have b17 := b16.mono (m := 174) (by omega)
  have b18 := b17.wR (c := 164) (k := 18) (v := some 173) (by omega)
  have b19 := b18.mono (m := 175) (by omega)
  have b20 := b19.wR (c := 164) (k := 20) (v := some 174) (by omega)
  have b21 := b20.mono (m := 176) (by omega)
  have b22 := b21.wR (c := 175) (k := 0) (v := some (1010 + 0)) (by omega)
  have b23 := b22.wR (c := 175) (k := 1) (v := some (1010 + 1)) (by omega)
  have b24 := b23.wR (c := 175) (k := 2) (v := some (1010 + 2)) (by omega)
  have b25 := b24.wR (c := 175) (k := 3) (v := some (1010 + 3)) (by omega)
  have b26 := b25.wR (c := 175) (k := 4) (v := some (1010 + 4)) (by omega)
  have b27 := b26.wR (c := 175) (k := 5) (v := some (1010 + 5)) (by omega)
  have b28 := b27.wR (c := 164) (k := 26) (v := some 175) (by omega)
  have b29 := b28.mono (m := 177) (by omega)
  have b30 := b29.wR (c := 176) (k := 0) (v := some (1010 + 6)) (by omega)
  have b31 := b30.wR (c := 176) (k := 1) (v := some (1010 + 7)) (by omega)
  have b32 := b31.wR (c := 176) (k := 2) (v := some (1010 + 8)) (by omega)
  have b33 := b32.wR (c := 176) (k := 3) (v := some (1010 + 9)) (by omega)
  have b34 := b33.wR (c := 176) (k := 4) (v := some (1010 + 10)) (by omega)
  have b35 := b34.wR (c := 176) (k := 5) (v := some (1010 + 11)) (by omega)
  have b36 := b35.wR (c := 164) (k := 27) (v := some 176) (by omega)
  have b37 := b36.mono (m := 178) (by omega)
  have b38 := b37.wR (c := 164) (k := 28) (v := some 177) (by omega)
  have b39 := b38.mono (m := 179) (by omega)
  have b40 := b39.wI (c := 178) (k := 0) (v := -1) (by omega)
  have b41 := b40.wI (c := 178) (k := 1) (v := -1) (by omega)
  have b42 := b41.wI (c := 178) (k := 2) (v := -1) (by omega)
  have b43 := b42.wI (c := 178) (k := 3) (v := -1) (by omega)
  have b44 := b43.wR (c := 164) (k := 30) (v := some 178) (by omega)
  have b45 := b44.mono (m := 180) (by omega)
  have b46 := b45.wR (c := 164) (k := 31) (v := some 179) (by omega)
  have b47 := b46.mono (m := 181) (by omega)
  have b48 := b47.wR (c := 164) (k := 32) (v := some 180) (by omega)
  have b49 := b48.wI (c := 165) (k := 245) (v := 1) (by omega)
  exact b49

