/-- what System.arraycopy asks of its places -/
def zAc (sp dp k : Int32) (a b : Nat) : Prop := ¬ sp < 0 ∧ ¬ dp < 0 ∧ ¬ k < 0 ∧ sp.toNatClampNeg + k.toNatClampNeg ≤ a ∧ dp.toNatClampNeg + k.toNatClampNeg ≤ b
theorem zclamp {x : Int32} (h : ¬ x < 0) : x = nI x.toNatClampNeg := by
  obtain ⟨j, hj, rfl⟩ := nI_of h
  rw [nI_clamp hj]
theorem q_copy {M : zMI} {pc : Nat} {ls : List (Option Value)} {st : List Value} {h : zHp} {Q : Option Value → zHp → Prop} {idx c d a b : Nat} {sp dp k : Int32} (hd : decode M.2.1 pc = .ok (.invokestatic idx, 3)) (hL : Cond.methodLink M.1.cls idx arraycopyName ∈ zT ∧ Cond.native arraycopyName ∈ zT ∧ Cond.static arraycopyName ∈ zT ∧ Cond.initialized "java/lang/System" ∈ zT) (hc : ly c = 21) (hdl : ly d = 21) (hla : ln c = a) (hlb : ln d = b) (hk : zAc sp dp k a b) (K : zw zNT zNT M (pc + 3) ls st (wC h c sp.toNatClampNeg d dp.toNatClampNeg k.toNatClampNeg) Q) (hcat : st.all (fun v => v.category == 1) = true := by rfl) (hR : 1 ≤ M.2.2.2.2.1 ∧ st.length + (nativeFrameWords "java/lang/System" "arraycopy" 5 + 11) ≤ M.2.2.2.2.2 := by exact ⟨Nat.le_of_ble_eq_true rfl, Nat.le_of_ble_eq_true rfl⟩) : zw zNT zNT M pc ls (.int k :: .int dp :: .ref d :: .int sp :: .ref c :: st) h Q := by
  obtain ⟨k1, k2, k3, k4, k5⟩ := hk
  exact z_copy hd hL hc (zlt hc) hdl (zlt hdl) (zclamp k1) (zclamp k2) (zclamp k3) (by rw [hla]; exact k4) (by rw [hlb]; exact k5) (zcat_of hcat) hR K
theorem q_alen {M : zMI} {pc : Nat} {ls : List (Option Value)} {st : List Value} {h : zHp} {Q : Option Value → zHp → Prop} {c k : Nat} (hd : decode M.2.1 pc = .ok (.arraylength, 1)) (hc : ly c = 27) (hl : ln c = k) (K : zw zNT zNT M (pc + 1) ls (.int (nI k) :: st) h Q) : zw zNT zNT M pc ls (.ref c :: st) h Q := z_alen hd (by omega) (zly_lt (by omega)) (by rw [hl]; exact K)
section ZP
variable {M N : zMI} {pc n : Nat} {ls : List (Option Value)} {st : List Value} {h g : zHp} {Q : Option Value → zHp → Prop} {args : List Value}
theorem q_pI {a b : Int32} (S : zcI N args h (fun r h' => r = a ∧ h' = g)) (e : a = b) (k : zw zNT zNT M n ls (.int b :: st) g Q) : zcall zNT zNT N args h (fun r h' => zw zNT zNT M n ls (r.toList ++ st) h' Q) := zw.mono S (fun r h' hr => by obtain ⟨v, rfl, e1, e2⟩ := hr; rw [e2, e1, e]; exact k)
theorem q_pV (S : zcV N args h (fun h' => h' = g)) (k : zw zNT zNT M n ls st g Q) : zcall zNT zNT N args h (fun r h' => zw zNT zNT M n ls (r.toList ++ st) h' Q) := zw.mono S (fun r h' hr => by obtain ⟨rfl, e⟩ := hr; rw [e]; exact k)
theorem q_pR {a : Nat} (S : zcR N args h (fun r h' => r = a ∧ h' = g)) (k : zw zNT zNT M n ls (.ref a :: st) g Q) : zcall zNT zNT N args h (fun r h' => zw zNT zNT M n ls (r.toList ++ st) h' Q) := zw.mono S (fun r h' hr => by obtain ⟨v, rfl, e1, e2⟩ := hr; rw [e2, e1]; exact k)
theorem zcI_use {a : Int32} {Φ : Int32 → zHp → Prop} (S : zcI N args h (fun r h' => r = a ∧ h' = g)) (k : Φ a g) : zcI N args h Φ := zw.mono S (fun r h' hr => by obtain ⟨v, rfl, e1, e2⟩ := hr; exact ⟨v, rfl, by rw [e1, e2]; exact k⟩)
theorem zcI_then {Ψ Φ : Int32 → zHp → Prop} (S : zcI N args h Ψ) (k : ∀ v h', Ψ v h' → Φ v h') : zcI N args h Φ := zw.mono S (fun r h' hr => by obtain ⟨v, rfl, e1⟩ := hr; exact ⟨v, rfl, k v h' e1⟩)
theorem zcV_use {Φ : zHp → Prop} (S : zcV N args h (fun h' => h' = g)) (k : Φ g) : zcV N args h Φ := zw.mono S (fun r h' hr => by obtain ⟨rfl, e⟩ := hr; exact ⟨rfl, by rw [e]; exact k⟩)
theorem zcV_then {Ψ Φ : zHp → Prop} (S : zcV N args h Ψ) (k : ∀ h', Ψ h' → Φ h') : zcV N args h Φ := zw.mono S (fun r h' hr => by obtain ⟨rfl, e⟩ := hr; exact ⟨rfl, k h' e⟩)
end ZP
