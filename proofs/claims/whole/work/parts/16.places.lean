/-! the run's cells where they stand, and the rules as the program that lays the walks uses them -/
def zW (B : Nat) : Prop := B = 2 ∨ B = 53 ∨ B = 93
def zLo (K : Nat) : Prop := K = 42 ∨ K = 133
def zUo (U : Nat) : Prop := U = 48 ∨ U = 139
def zSh (S : Nat) : Prop := S = 156 ∨ S = 158 ∨ S = 160 ∨ S = 162
def zRow (r : Nat) : Prop := r = 168 ∨ r = 169
def zNw (r : Nat) : Prop := r = 165 ∨ r = 166 ∨ r = 167
def zWd (r : Nat) : Prop := r = 175 ∨ r = 176
/-- the references that never change are in place -/
def zG (h : zHp) : Prop := ∀ c k i, zst c k = some i → rR h c k = some i
def rG (h : zHp) (c k : Nat) : Nat := (rR h c k).getD 0
/-- at place k of cell c is a reference to a cell of kind t -/
def zRef (h : zHp) (c k t : Nat) : Prop := rR h c k = some (rG h c k) ∧ ly (rG h c k) = t
def zB (v : Int32) : Prop := v = 0 ∨ v = 1
theorem zlt {c k : Nat} (h : ly c = k + 1) : c < zNT := zly_lt (by omega)
theorem zRetB {v : Int32} (h : zB v) : zRet (some .boolean) (some (.int v)) := by
  rcases h with rfl | rfl <;> exact ⟨rfl, rfl⟩
theorem rI_s {h : zHp} {c k : Nat} {v : Int32} : rI (wI h c k v) c k = v := by simp [rI, wI]
theorem rI_k {h : zHp} {c c' k k' : Nat} {v : Int32} (hk : k' ≠ k) : rI (wI h c k v) c' k' = rI h c' k' := by simp [rI, wI, hk]
theorem rI_c {h : zHp} {c c' k k' : Nat} {v : Int32} (hc : c' ≠ c) : rI (wI h c k v) c' k' = rI h c' k' := by simp [rI, wI, hc]
theorem zne {c c' a b : Nat} (h1 : ly c = a) (h2 : ly c' = b) (h : a ≠ b) : c ≠ c' := fun e => h (by rw [← h1, ← h2, e])
theorem zG_wR {h : zHp} {c k : Nat} {v : Option Nat} (G : zG h) (hz : zst c k = none) : zG (wR h c k v) := by
  intro a b i hi
  show (if a = c ∧ b = k then v else h.2 a b) = some i
  rw [if_neg (fun q => by rw [q.1, q.2, hz] at hi; cases hi)]
  exact G a b i hi
theorem lyW0 {B : Nat} (h : zW B) : ly (B) = 9 := by rcases h with rfl | rfl | rfl <;> exact lyc rfl
theorem lyW1 {B : Nat} (h : zW B) : ly (B + 1) = 22 := by rcases h with rfl | rfl | rfl <;> exact lyc rfl
theorem lnW1 {B : Nat} (h : zW B) : ln (B + 1) = 8 := by rcases h with rfl | rfl | rfl <;> exact lnc rfl
theorem lyW2 {B : Nat} (h : zW B) : ly (B + 2) = 23 := by rcases h with rfl | rfl | rfl <;> exact lyc rfl
theorem lnW2 {B : Nat} (h : zW B) : ln (B + 2) = 10 := by rcases h with rfl | rfl | rfl <;> exact lnc rfl
theorem lyW3 {B : Nat} (h : zW B) : ly (B + 3) = 24 := by rcases h with rfl | rfl | rfl <;> exact lyc rfl
theorem lnW3 {B : Nat} (h : zW B) : ln (B + 3) = 8 := by rcases h with rfl | rfl | rfl <;> exact lnc rfl
theorem lyW4 {B : Nat} (h : zW B) : ly (B + 4) = 25 := by rcases h with rfl | rfl | rfl <;> exact lyc rfl
theorem lnW4 {B : Nat} (h : zW B) : ln (B + 4) = 8 := by rcases h with rfl | rfl | rfl <;> exact lnc rfl
theorem lyW5 {B : Nat} (h : zW B) : ly (B + 5) = 21 := by rcases h with rfl | rfl | rfl <;> exact lyc rfl
theorem lnW5 {B : Nat} (h : zW B) : ln (B + 5) = 2 := by rcases h with rfl | rfl | rfl <;> exact lnc rfl
theorem grW0 {B : Nat} {h : zHp} (G : zG h) (hB : zW B) : rR h B 0 = some (B + 1) := by rcases hB with rfl | rfl | rfl <;> exact G _ _ _ rfl
theorem grW2 {B : Nat} {h : zHp} (G : zG h) (hB : zW B) : rR h B 2 = some (B + 2) := by rcases hB with rfl | rfl | rfl <;> exact G _ _ _ rfl
theorem grW4 {B : Nat} {h : zHp} (G : zG h) (hB : zW B) : rR h B 4 = some (B + 3) := by rcases hB with rfl | rfl | rfl <;> exact G _ _ _ rfl
theorem grW6 {B : Nat} {h : zHp} (G : zG h) (hB : zW B) : rR h B 6 = some (B + 4) := by rcases hB with rfl | rfl | rfl <;> exact G _ _ _ rfl
theorem grW8 {B : Nat} {h : zHp} (G : zG h) (hB : zW B) : rR h B 8 = some (B + 5) := by rcases hB with rfl | rfl | rfl <;> exact G _ _ _ rfl
theorem lyLo0 {B : Nat} (h : zLo B) : ly (B) = 3 := by rcases h with rfl | rfl <;> exact lyc rfl
theorem lyLo1 {B : Nat} (h : zLo B) : ly (B + 1) = 21 := by rcases h with rfl | rfl <;> exact lyc rfl
theorem lnLo1 {B : Nat} (h : zLo B) : ln (B + 1) = 8 := by rcases h with rfl | rfl <;> exact lnc rfl
theorem lyLo2 {B : Nat} (h : zLo B) : ly (B + 2) = 21 := by rcases h with rfl | rfl <;> exact lyc rfl
theorem lnLo2 {B : Nat} (h : zLo B) : ln (B + 2) = 8 := by rcases h with rfl | rfl <;> exact lnc rfl
theorem lyLo3 {B : Nat} (h : zLo B) : ly (B + 3) = 21 := by rcases h with rfl | rfl <;> exact lyc rfl
theorem lnLo3 {B : Nat} (h : zLo B) : ln (B + 3) = 8 := by rcases h with rfl | rfl <;> exact lnc rfl
theorem lyLo4 {B : Nat} (h : zLo B) : ly (B + 4) = 21 := by rcases h with rfl | rfl <;> exact lyc rfl
theorem lnLo4 {B : Nat} (h : zLo B) : ln (B + 4) = 8 := by rcases h with rfl | rfl <;> exact lnc rfl
theorem lyLo5 {B : Nat} (h : zLo B) : ly (B + 5) = 21 := by rcases h with rfl | rfl <;> exact lyc rfl
theorem lnLo5 {B : Nat} (h : zLo B) : ln (B + 5) = 10 := by rcases h with rfl | rfl <;> exact lnc rfl
theorem grLo0 {B : Nat} {h : zHp} (G : zG h) (hB : zLo B) : rR h B 0 = some (B + 1) := by rcases hB with rfl | rfl <;> exact G _ _ _ rfl
theorem grLo1 {B : Nat} {h : zHp} (G : zG h) (hB : zLo B) : rR h B 1 = some (B + 2) := by rcases hB with rfl | rfl <;> exact G _ _ _ rfl
theorem grLo2 {B : Nat} {h : zHp} (G : zG h) (hB : zLo B) : rR h B 2 = some (B + 3) := by rcases hB with rfl | rfl <;> exact G _ _ _ rfl
theorem grLo3 {B : Nat} {h : zHp} (G : zG h) (hB : zLo B) : rR h B 3 = some (B + 4) := by rcases hB with rfl | rfl <;> exact G _ _ _ rfl
theorem grLo4 {B : Nat} {h : zHp} (G : zG h) (hB : zLo B) : rR h B 4 = some (B + 5) := by rcases hB with rfl | rfl <;> exact G _ _ _ rfl
theorem lyUo0 {B : Nat} (h : zUo B) : ly (B) = 10 := by rcases h with rfl | rfl <;> exact lyc rfl
theorem lyUo1 {B : Nat} (h : zUo B) : ly (B + 1) = 21 := by rcases h with rfl | rfl <;> exact lyc rfl
theorem lnUo1 {B : Nat} (h : zUo B) : ln (B + 1) = 8 := by rcases h with rfl | rfl <;> exact lnc rfl
theorem grUo4 {B : Nat} {h : zHp} (G : zG h) (hB : zUo B) : rR h B 4 = some (B + 1) := by rcases hB with rfl | rfl <;> exact G _ _ _ rfl
theorem lySh0 {B : Nat} (h : zSh B) : ly (B) = 6 := by rcases h with rfl | rfl | rfl | rfl <;> exact lyc rfl
theorem lySh1 {B : Nat} (h : zSh B) : ly (B + 1) = 21 := by rcases h with rfl | rfl | rfl | rfl <;> exact lyc rfl
theorem lnSh1 {B : Nat} (h : zSh B) : ln (B + 1) = 40 := by rcases h with rfl | rfl | rfl | rfl <;> exact lnc rfl
theorem grSh2 {B : Nat} {h : zHp} (G : zG h) (hB : zSh B) : rR h B 2 = some (B + 1) := by rcases hB with rfl | rfl | rfl | rfl <;> exact G _ _ _ rfl
theorem lyRow0 {B : Nat} (h : zRow B) : ly (B) = 21 := by rcases h with rfl | rfl <;> exact lyc rfl
theorem lnRow0 {B : Nat} (h : zRow B) : ln (B) = 32 := by rcases h with rfl | rfl <;> exact lnc rfl
theorem lyNw0 {B : Nat} (h : zNw B) : ly (B) = 21 := by rcases h with rfl | rfl | rfl <;> exact lyc rfl
theorem lnNw0 {B : Nat} (h : zNw B) : ln (B) = 246 := by rcases h with rfl | rfl | rfl <;> exact lnc rfl
theorem lyWd0 {B : Nat} (h : zWd B) : ly (B) = 27 := by rcases h with rfl | rfl <;> exact lyc rfl
theorem lnWd0 {B : Nat} (h : zWd B) : ln (B) = 6 := by rcases h with rfl | rfl <;> exact lnc rfl
theorem lyT {B j : Nat} (h : zW B) (hj : j < 8) : ly (B + 6 + j) = 7 := by
  rw [ly_eq]
  rcases h with rfl | rfl | rfl
  · exact (by decide : ∀ j, j < 8 → zLayL.getD (2 + 6 + j) 0 = 7) j hj
  · exact (by decide : ∀ j, j < 8 → zLayL.getD (53 + 6 + j) 0 = 7) j hj
  · exact (by decide : ∀ j, j < 8 → zLayL.getD (93 + 6 + j) 0 = 7) j hj
theorem grT {B j : Nat} {h : zHp} (G : zG h) (hB : zW B) (hj : j < 8) : rR h (B + 1) j = some (B + 6 + j) := by
  rcases hB with rfl | rfl | rfl
  · exact G _ _ _ ((by decide : ∀ j, j < 8 → zst (2 + 1) j = some (2 + 6 + j)) j hj)
  · exact G _ _ _ ((by decide : ∀ j, j < 8 → zst (53 + 1) j = some (53 + 6 + j)) j hj)
  · exact G _ _ _ ((by decide : ∀ j, j < 8 → zst (93 + 1) j = some (93 + 6 + j)) j hj)
theorem lyP {j : Nat} (hj : j < 10) : ly (144 + j) = 2 := by
  rw [ly_eq]
  exact (by decide : ∀ j, j < 10 → zLayL.getD (144 + j) 0 = 2) j hj
theorem grP {j : Nat} {h : zHp} (G : zG h) (hj : j < 10) : rR h 143 j = some (144 + j) := G _ _ _ ((by decide : ∀ j, j < 10 → zst 143 j = some (144 + j)) j hj)
theorem shS {j : Nat} (hj : j < 4) : zSh (156 + 2 * j) := by
  rcases (by omega : j = 0 ∨ j = 1 ∨ j = 2 ∨ j = 3) with rfl | rfl | rfl | rfl
  · exact Or.inl rfl
  · exact Or.inr (Or.inl rfl)
  · exact Or.inr (Or.inr (Or.inl rfl))
  · exact Or.inr (Or.inr (Or.inr rfl))
theorem grS {j : Nat} {h : zHp} (G : zG h) (hj : j < 4) : rR h 154 j = some (156 + 2 * j) := G _ _ _ ((by decide : ∀ j, j < 4 → zst 154 j = some (156 + 2 * j)) j hj)
theorem grD {B j : Nat} {h : zHp} (G : zG h) (hB : zWd B) (hj : j < 6) : rR h B j = some (1010 + (6 * (B - 175) + j)) := by
  rcases hB with rfl | rfl
  · exact G _ _ _ ((by decide : ∀ j, j < 6 → zst 175 j = some (1010 + (6 * (175 - 175) + j))) j hj)
  · exact G _ _ _ ((by decide : ∀ j, j < 6 → zst 176 j = some (1010 + (6 * (176 - 175) + j))) j hj)
theorem zstE {B j : Nat} (hB : zW B) : zst (B + 2) j = none ∧ zst (B + 3) j = none ∧ zst (B + 4) j = none := by
  rcases hB with rfl | rfl | rfl <;> exact ⟨rfl, rfl, rfl⟩
theorem zvi {i : Int32} {n : Nat} (h : vp_in i n) : i.toNatClampNeg < n := Nat.not_le.mp fun q => h (Or.inr q)
theorem zvn {i : Int32} {c n : Nat} (hl : ln c = n) (h : vp_in i n) : vp_in i (ln c) := by rw [hl]; exact h
theorem zvl {i : Int32} {c n : Nat} (hl : ln c = n) (h : decide (i < 0 ∨ n ≤ i.toNatClampNeg) = false) : vp_in i (ln c) := by rw [hl]; exact of_decide_eq_false h
theorem zcat_of {l : List Value} (h : l.all (fun v => v.category == 1) = true) : ∀ v ∈ l, v.category = 1 := by
  intro v hv
  simpa using List.all_eq_true.mp h v hv
def zSubs : List (Option Value) → List (Option Value) → Prop
  | [], _ => True
  | none :: t, _ :: u => zSubs t u
  | some v :: t, some w :: u => v = w ∧ zSubs t u
  | _, _ => False
theorem zSubs_at : ∀ (l l' : List (Option Value)), zSubs l l' → ∀ (i : Nat) (v : Value), l[i]? = some (some v) → l'[i]? = some (some v) := by
  intro l
  induction l with
  | nil => intro l' _ i v hv; simp at hv
  | cons o t ih =>
    intro l' h i v hv
    cases l' with
    | nil => cases o <;> exact absurd h id
    | cons o' u =>
      cases o with
      | none =>
        cases i with
        | zero => simp at hv
        | succ i =>
          rw [List.getElem?_cons_succ] at hv ⊢
          exact ih u h i v hv
      | some w =>
        cases o' with
        | none => exact absurd h id
        | some w' =>
          obtain ⟨e, h'⟩ := h
          cases i with
          | zero =>
            rw [List.getElem?_cons_zero] at hv ⊢
            rw [← e]
            exact hv
          | succ i =>
            rw [List.getElem?_cons_succ] at hv ⊢
            exact ih u h' i v hv
abbrev zcI (M : zMI) (args : List Value) (h : zHp) (Q : Int32 → zHp → Prop) : Prop := zcall zNT zNT M args h (fun r h' => ∃ v, r = some (.int v) ∧ Q v h')
abbrev zcV (M : zMI) (args : List Value) (h : zHp) (Q : zHp → Prop) : Prop := zcall zNT zNT M args h (fun r h' => r = none ∧ Q h')
abbrev zcR (M : zMI) (args : List Value) (h : zHp) (Q : Nat → zHp → Prop) : Prop := zcall zNT zNT M args h (fun r h' => ∃ c, r = some (.ref c) ∧ Q c h')
abbrev zlI (M : zMI) (pc : Nat) (ls : List (Option Value)) (st : List Value) (h : zHp) (Q : Int32 → zHp → Prop) : Prop := zw zNT zNT M pc ls st h (fun r h' => ∃ v, r = some (.int v) ∧ Q v h')
abbrev zlV (M : zMI) (pc : Nat) (ls : List (Option Value)) (st : List Value) (h : zHp) (Q : zHp → Prop) : Prop := zw zNT zNT M pc ls st h (fun r h' => r = none ∧ Q h')
abbrev zlR (M : zMI) (pc : Nat) (ls : List (Option Value)) (st : List Value) (h : zHp) (Q : Nat → zHp → Prop) : Prop := zw zNT zNT M pc ls st h (fun r h' => ∃ c, r = some (.ref c) ∧ Q c h')
section ZQ
variable {M N : zMI} {pc : Nat} {ls : List (Option Value)} {st st0 As : List Value} {h : zHp} {Q : Option Value → zHp → Prop}
theorem q_sub {ls' : List (Option Value)} (hs : zSubs ls' ls) (K : zw zNT zNT M pc ls' st h Q) : zw zNT zNT M pc ls st h Q := z_sub (zSubs_at ls' ls hs) K
theorem q_kI {Φ : Int32 → zHp → Prop} {args : List Value} {n : Nat} (F : zcI N args h Φ) (k : ∀ v h', Φ v h' → zw zNT zNT M n ls (.int v :: st) h' Q) : zcall zNT zNT N args h (fun r h' => zw zNT zNT M n ls (r.toList ++ st) h' Q) := zw.mono F (fun r h' hr => by obtain ⟨v, rfl, q⟩ := hr; exact k v h' q)
theorem q_kV {Φ : zHp → Prop} {args : List Value} {n : Nat} (F : zcV N args h Φ) (k : ∀ h', Φ h' → zw zNT zNT M n ls st h' Q) : zcall zNT zNT N args h (fun r h' => zw zNT zNT M n ls (r.toList ++ st) h' Q) := zw.mono F (fun r h' hr => by obtain ⟨rfl, q⟩ := hr; exact k h' q)
theorem q_kR {Φ : Nat → zHp → Prop} {args : List Value} {n : Nat} (F : zcR N args h Φ) (k : ∀ c h', Φ c h' → zw zNT zNT M n ls (.ref c :: st) h' Q) : zcall zNT zNT N args h (fun r h' => zw zNT zNT M n ls (r.toList ++ st) h' Q) := zw.mono F (fun r h' hr => by obtain ⟨v, rfl, q⟩ := hr; exact k v h' q)
theorem q_invV {idx c ci k : Nat} (hd : decode M.2.1 pc = .ok (.invokevirtual idx, 3)) (ok : zOk N) (hL : zLink M.1.cls idx N) (hI : Cond.instanceMethod N.1 ∈ zT ∧ Cond.selects N.1.cls N.1 N.1 ∈ zT) (hpar : zPar N k) (hR : zRm M N) (hc : ly c = ci + 1) (K : zcall zNT zNT N (.ref c :: As) h (fun r h' => zw zNT zNT M (pc + 3) ls (r.toList ++ st) h' Q)) (hk : As.length = k := by rfl) (hcl : (vwCl[ci]?).map (fun q => q.1) = some N.1.cls := by rfl) (hcat : As.all (fun v => v.category == 1) = true := by rfl) (hcat2 : st.all (fun v => v.category == 1) = true := by rfl) (hst : st.length ≤ 8 := by exact Nat.le_of_ble_eq_true rfl) (hlen : As.length + 1 ≤ N.2.2.1 := by exact Nat.le_of_ble_eq_true rfl) (hst0 : st0 = As.reverse ++ .ref c :: st := by rfl) : zw zNT zNT M pc ls st0 h Q := by
  subst hk
  have hci : ci < 12 := by
    rcases Nat.lt_or_ge ci 12 with q | q
    · exact q
    · rw [List.getElem?_eq_none (by exact q)] at hcl
      cases hcl
  refine z_invV hd ok hL hI hpar hR hc (zlt hc) (fun q hq => ?_) hci (zcat_of hcat) (zcat_of hcat2) hst (Nat.le_refl _) (Nat.le_refl _) hlen hst0 K
  rw [hq] at hcl
  exact Option.some.inj hcl
theorem q_invS {idx k : Nat} (hd : decode M.2.1 pc = .ok (.invokestatic idx, 3)) (ok : zOk N) (hL : zLink M.1.cls idx N) (hI : Cond.static N.1 ∈ zT) (hpar : zPar N k) (hR : zRm M N) (K : zcall zNT zNT N As h (fun r h' => zw zNT zNT M (pc + 3) ls (r.toList ++ st) h' Q)) (hk : As.length = k := by rfl) (hcat : As.all (fun v => v.category == 1) = true := by rfl) (hcat2 : st.all (fun v => v.category == 1) = true := by rfl) (hst : st.length ≤ 8 := by exact Nat.le_of_ble_eq_true rfl) (hlen : As.length ≤ N.2.2.1 := by exact Nat.le_of_ble_eq_true rfl) (hst0 : st0 = As.reverse ++ st := by rfl) : zw zNT zNT M pc ls st0 h Q := by
  subst hk
  exact z_invS hd ok hL hI hpar hR (zcat_of hcat) (zcat_of hcat2) hst (Nat.le_refl _) (Nat.le_refl _) hlen hst0 K
theorem q_invVS {idx i k : Nat} (hd : decode M.2.1 pc = .ok (.invokevirtual idx, 3)) (ok : zOk N) (hL : Cond.methodLink M.1.cls idx N.1 ∈ zT) (hI : Cond.instanceMethod N.1 ∈ zT ∧ Cond.selects N.1.cls N.1 N.1 ∈ zT) (hpar : zPar N k) (hR : zRm M N) (hi : i < 13) (K : zcall zNT zNT N (.ref (1010 + i) :: As) h (fun r h' => zw zNT zNT M (pc + 3) ls (r.toList ++ st) h' Q)) (hk : As.length = k := by rfl) (hcl : N.1.cls = "java/lang/String" := by rfl) (hcat : As.all (fun v => v.category == 1) = true := by rfl) (hcat2 : st.all (fun v => v.category == 1) = true := by rfl) (hst : st.length ≤ 8 := by exact Nat.le_of_ble_eq_true rfl) (hlen : As.length + 1 ≤ N.2.2.1 := by exact Nat.le_of_ble_eq_true rfl) (hst0 : st0 = As.reverse ++ .ref (1010 + i) :: st := by rfl) : zw zNT zNT M pc ls st0 h Q := by
  subst hk
  exact z_invVS hd ok hL hI hpar hR hi hcl (zcat_of hcat) (zcat_of hcat2) hst (Nat.le_refl _) hlen hst0 K
theorem q_getI {idx ci k c : Nat} {v : Int32} (hd : decode M.2.1 pc = .ok (.getfield idx, 3)) (hL : zLk M.1.cls idx ci k) (hc : ly c = ci + 1) (hv : rI h c k = v) (K : zw zNT zNT M (pc + 3) ls (.int v :: st) h Q) (hf : zrf (zfty ci k) = false := by rfl) : zw zNT zNT M pc ls (.ref c :: st) h Q := z_getI hd hL hf hc (zlt hc) (by rw [hv]; exact K)
theorem q_getR {idx ci k c i : Nat} (hd : decode M.2.1 pc = .ok (.getfield idx, 3)) (hL : zLk M.1.cls idx ci k) (hc : ly c = ci + 1) (hi : rR h c k = some i) (K : zw zNT zNT M (pc + 3) ls (.ref i :: st) h Q) (hf : zrf (zfty ci k) = true := by rfl) : zw zNT zNT M pc ls (.ref c :: st) h Q := z_getR hd hL hf hc (zlt hc) hi K
theorem q_putI {idx ci k c : Nat} {v : Int32} (hd : decode M.2.1 pc = .ok (.putfield idx, 3)) (hL : zLk M.1.cls idx ci k) (hc : ly c = ci + 1) (K : zw zNT zNT M (pc + 3) ls st (wI h c k v) Q) (hty : zfty ci k = .int := by rfl) (hfin : ((vwCl[ci]?).map (fun q => (q.2.1 k).2.2.2)) = some false := by rfl) : zw zNT zNT M pc ls (.int v :: .ref c :: st) h Q := by
  refine z_putI hd hL (by rw [hty]; rfl) (fun q hq => ?_) hc (zlt hc) (by rw [hty]; rfl) (by rw [hty]; rfl) K
  rw [hq] at hfin
  exact Option.some.inj hfin
theorem q_putB {idx ci k c : Nat} {v : Int32} (hd : decode M.2.1 pc = .ok (.putfield idx, 3)) (hL : zLk M.1.cls idx ci k) (hc : ly c = ci + 1) (hb : zB v) (K : zw zNT zNT M (pc + 3) ls st (wI h c k v) Q) (hty : zfty ci k = .boolean := by rfl) (hfin : ((vwCl[ci]?).map (fun q => (q.2.1 k).2.2.2)) = some false := by rfl) : zw zNT zNT M pc ls (.int v :: .ref c :: st) h Q := by
  refine z_putI hd hL (by rw [hty]; rfl) (fun q hq => ?_) hc (zlt hc) (by rw [hty]; rcases hb with rfl | rfl <;> rfl) (by rw [hty]; rcases hb with rfl | rfl <;> rfl) K
  rw [hq] at hfin
  exact Option.some.inj hfin
theorem q_iald {c j : Nat} {i v : Int32} (hd : decode M.2.1 pc = .ok (.iaload, 1)) (hc : ly c = 21) (hin : vp_in i (ln c)) (hj : i.toNatClampNeg = j) (hv : rI h c j = v) (K : zw zNT zNT M (pc + 1) ls (.int v :: st) h Q) : zw zNT zNT M pc ls (.int i :: .ref c :: st) h Q := z_iald hd hc (zlt hc) hin hj (by rw [hv]; exact K)
theorem q_bald {c j : Nat} {i v : Int32} (hd : decode M.2.1 pc = .ok (.baload, 1)) (hc : ly c = 20) (hin : vp_in i (ln c)) (hj : i.toNatClampNeg = j) (hv : rI h c j = v) (K : zw zNT zNT M (pc + 1) ls (.int v :: st) h Q) : zw zNT zNT M pc ls (.int i :: .ref c :: st) h Q := z_bald hd hc (zlt hc) hin hj (by rw [hv]; exact K)
theorem q_iast {c j : Nat} {i v : Int32} (hd : decode M.2.1 pc = .ok (.iastore, 1)) (hc : ly c = 21) (hin : vp_in i (ln c)) (hj : i.toNatClampNeg = j) (K : zw zNT zNT M (pc + 1) ls st (wI h c j v) Q) : zw zNT zNT M pc ls (.int v :: .int i :: .ref c :: st) h Q := z_iast hd hc (zlt hc) hin hj K
theorem q_bast {c j : Nat} {i v : Int32} (hd : decode M.2.1 pc = .ok (.bastore, 1)) (hc : ly c = 20) (hin : vp_in i (ln c)) (hj : i.toNatClampNeg = j) (K : zw zNT zNT M (pc + 1) ls st (wI h c j v.toInt8.toInt32) Q) : zw zNT zNT M pc ls (.int v :: .int i :: .ref c :: st) h Q := z_bast hd hc (zlt hc) hin hj K
theorem q_aald {c j r t : Nat} {i : Int32} (hd : decode M.2.1 pc = .ok (.aaload, 1)) (hc : ly c = t + 22) (hin : vp_in i (ln c)) (hj : i.toNatClampNeg = j) (hr : rR h c j = some r) (K : zw zNT zNT M (pc + 1) ls (.ref r :: st) h Q) : zw zNT zNT M pc ls (.int i :: .ref c :: st) h Q := z_aald hd (by omega) (zly_lt (by omega)) hin hj hr K
theorem q_aast {c j r t ci : Nat} {i : Int32} (hd : decode M.2.1 pc = .ok (.aastore, 1)) (hc : ly c = t + 22) (hin : vp_in i (ln c)) (hj : i.toNatClampNeg = j) (hr : ly r = ci + 1) (K : zw zNT zNT M (pc + 1) ls st (wR h c j (some r)) Q) (hcl : (vwCl[ci]?).map (fun q => FieldType.object q.1) = some (zty (t + 22)) := by rfl) : zw zNT zNT M pc ls (.ref r :: .int i :: .ref c :: st) h Q := by
  have hci : ci < 12 := by
    rcases Nat.lt_or_ge ci 12 with q | q
    · exact q
    · rw [List.getElem?_eq_none (by exact q)] at hcl
      cases hcl
  refine z_aast hd (by omega) (zly_lt (by omega)) hin hj hr (zlt hr) hci (fun q hq => ?_) K
  rw [hq] at hcl
  rw [hc]
  exact (Option.some.inj hcl).symm
theorem q_retI {x : Int32} {Φ : Int32 → zHp → Prop} (hd : decode M.2.1 pc = .ok (.ireturn, 1)) (hr : M.2.2.2.1 = some .int) (K : Φ x h) : zlI M pc ls [.int x] h Φ := z_ireturn hd rfl (by rw [hr]; exact ⟨rfl, rfl⟩) ⟨x, rfl, K⟩
theorem q_retB {x : Int32} {Φ : Int32 → zHp → Prop} (hd : decode M.2.1 pc = .ok (.ireturn, 1)) (hr : M.2.2.2.1 = some .boolean) (hb : zB x) (K : Φ x h) : zlI M pc ls [.int x] h Φ := z_ireturn hd rfl (by rw [hr]; exact zRetB hb) ⟨x, rfl, K⟩
theorem q_retV {Φ : zHp → Prop} (hd : decode M.2.1 pc = .ok (.return_, 1)) (hr : M.2.2.2.1 = none) (K : Φ h) : zlV M pc ls [] h Φ := z_return hd rfl (by rw [hr]; trivial) ⟨rfl, K⟩
theorem q_retR {x : Nat} {Φ : Nat → zHp → Prop} {E : String} (hd : decode M.2.1 pc = .ok (.areturn, 1)) (hr : M.2.2.2.1 = some (.object E)) (K : Φ x h) : zlR M pc ls [.ref x] h Φ := z_areturn hd rfl (by rw [hr]; rfl) ⟨x, rfl, K⟩
theorem q_sw {x n : Int32} (k : Int) (h : ¬ x = n) (e : Int32.ofInt k = n) : x.toInt ≠ k := fun q => h (by rw [← e, ← q, Int32.ofInt_toInt])
end ZQ
