/-! rules of zw for fields, arrays, what was there before, new cells -/
/-- a field's link: own class, entry; the class's number and the field's place -/
def zLk (own : String) (idx ci k : Nat) : Prop := ∃ (C : String) (T : u_T) (N : Nat), vwCl[ci]? = some (C, T, N) ∧ k < N ∧ (Cond.fieldLink own idx (T k).1 (T k).2.1 (T k).2.2.1 ∈ zT) ∧ (∀ w ∈ u_ws C T N, w ∈ zT) ∧ (∀ j, j < N → parseFieldDescriptor (T j).2.2.1 = some (zfty ci j)) ∧ (∀ a, a < N → ∀ b, b < N → a ≠ b → (T a).2.1 ≠ (T b).2.1) ∧ (∀ c, ly c = ci + 1 → ln c = N) ∧ ci < 12 ∧ (∀ j, (T j).1 = C)
section ZHeap
variable {nX n : Nat} {M : zMI} {pc : Nat} {ls : List (Option Value)} {st : List Value} {h : zHp} {Q : Option Value → zHp → Prop}
theorem z_getI {idx ci k c : Nat} (hd : decode M.2.1 pc = .ok (.getfield idx, 3)) (hL : zLk M.1.cls idx ci k) (hf : zrf (zfty ci k) = false) (hc : ly c = ci + 1) (hn : c < n) (K : zw nX n M (pc + 3) ls (.int (rI h c k) :: st) h Q) : zw nX n M pc ls (.ref c :: st) h Q := by
  intro X p l e R s m args below meth cd Z nE C hZ H locs a h1 h2 hP hSt hS hl
  obtain ⟨Cn, T, N, q1, q2, q3, q4, q5, q6, q7, q8, q9⟩ := hL
  have hc1 : c < 1000 := Nat.lt_trans (zly_lt (by omega)) (by decide)
  have hk := K X p l e R s m args below meth cd Z nE C hZ H locs a h1 h2 hP hSt hS hl
  have e9 : zfv X h c ci k = .int (rI h c k) := by unfold zfv; rw [hf]; rfl
  show W p l e R s m args below meth cd H locs _ _ Z (F0 m pc a (zcv X (.ref c) :: st.map (zcv X)))
  rw [zcv_ref hc1]
  exact va_get (D := zD X) (ci := ci) (v := .int (rI h c k)) (C := Cn) (T := T) (N := N) C.1 C.2.1 C.2.2.2.2.1 q4 C.2.2.2.1 C.2.2.2.2.2.2.2.1 hP c (by rw [zwl_at hn, zent_obj hc q8]) q1 k q2 (C.2.2.2.2.1 _ q3) (fun _ h9 => h9) (by rw [zfs_at (by rw [q7 c hc]; exact q2), e9]) hd hk
theorem z_getR {idx ci k c i : Nat} (hd : decode M.2.1 pc = .ok (.getfield idx, 3)) (hL : zLk M.1.cls idx ci k) (hf : zrf (zfty ci k) = true) (hc : ly c = ci + 1) (hn : c < n) (hi : rR h c k = some i) (K : zw nX n M (pc + 3) ls (.ref i :: st) h Q) : zw nX n M pc ls (.ref c :: st) h Q := by
  intro X p l e R s m args below meth cd Z nE C hZ H locs a h1 h2 hP hSt hS hl
  obtain ⟨Cn, T, N, q1, q2, q3, q4, q5, q6, q7, q8, q9⟩ := hL
  have hc1 : c < 1000 := Nat.lt_trans (zly_lt (by omega)) (by decide)
  have hk := K X p l e R s m args below meth cd Z nE C hZ H locs a h1 h2 hP hSt hS hl
  have e9 : zfv X h c ci k = zcv X (.ref i) := by
    unfold zfv
    rw [hf, if_pos rfl]
    change h.2 c k = some i at hi
    rw [hi]
    rfl
  show W p l e R s m args below meth cd H locs _ _ Z (F0 m pc a (zcv X (.ref c) :: st.map (zcv X)))
  rw [zcv_ref hc1]
  exact va_get (D := zD X) (ci := ci) (v := zcv X (.ref i)) (C := Cn) (T := T) (N := N) C.1 C.2.1 C.2.2.2.2.1 q4 C.2.2.2.1 C.2.2.2.2.2.2.2.1 hP c (by rw [zwl_at hn, zent_obj hc q8]) q1 k q2 (C.2.2.2.2.1 _ q3) (fun _ h9 => h9) (by rw [zfs_at (by rw [q7 c hc]; exact q2), e9]) hd hk
theorem zent_wI {X : zCx} {h : zHp} {c ci k : Nat} {v : Int32} (hc : ly c = ci + 1) (hci : ci < 12) (hk : k < ln c) (hf : zrf (zfty ci k) = false) : zent X (wI h c k v) c = .inr (ci, ((List.range (ln c)).map (zfv X h c ci)).set k (.int v)) := by
  rw [zent_obj hc hci, zfs_set (h' := wI h c k v) hk]
  · unfold zfv
    rw [hf]
    simp [wI]
  · intro j hj
    unfold zfv wI
    simp [hj]
theorem zent_wR {X : zCx} {h : zHp} {c ci k : Nat} {v : Option Nat} (hc : ly c = ci + 1) (hci : ci < 12) (hk : k < ln c) (hf : zrf (zfty ci k) = true) : zent X (wR h c k v) c = .inr (ci, ((List.range (ln c)).map (zfv X h c ci)).set k (va_rf (v.bind (zadr X)))) := by
  rw [zent_obj hc hci, zfs_set (h' := wR h c k v) hk]
  · unfold zfv
    rw [hf]
    simp [wR]
  · intro j hj
    unfold zfv wR
    simp [hj]
theorem z_putI {idx ci k c : Nat} {v : Int32} (hd : decode M.2.1 pc = .ok (.putfield idx, 3)) (hL : zLk M.1.cls idx ci k) (hf : zrf (zfty ci k) = false) (hfin : ∀ (q : vw_C), vwCl[ci]? = some q → (q.2.1 k).2.2.2 = false) (hc : ly c = ci + 1) (hn : c < n) (hv : narrow (zfty ci k) (.int v) = .int v) (hv2 : fits (zfty ci k) (.int v) = true) (K : zw nX n M (pc + 3) ls st (wI h c k v) Q) : zw nX n M pc ls (.int v :: .ref c :: st) h Q := by
  intro X p l e R s m args below meth cd Z nE C hZ H locs a h1 h2 hP hSt hS hl
  obtain ⟨Cn, T, N, q1, q2, q3, q4, q5, q6, q7, q8, q9⟩ := hL
  have hc1 : c < 1000 := Nat.lt_trans (zly_lt (by omega)) (by decide)
  have hN := q7 c hc
  show W p l e R s m args below meth cd H locs _ _ Z (F0 m pc a (.int v :: zcv X (.ref c) :: st.map (zcv X)))
  rw [zcv_ref hc1]
  refine va_put (D := zD X) (ci := ci) (v := .int v) (ty := zfty ci k) (C := Cn) (T := T) (N := N) C.1 C.2.1 C.2.2.2.2.1 q4 (zfty ci) q5 q6 C.2.2.2.1 C.2.2.2.2.2.2.2.1 hP zwl_D hS c (by rw [zwl_at hn, zent_obj hc q8]) q1 k q2 (C.2.2.2.2.1 _ q3) (fun _ h9 => h9) (hfin _ q1) (q5 k q2) hv hv2 (by simp [hN, q2]) hd (fun H1 locs1 hP1 _ hS1 => ?_)
  rw [zwl_set (h' := wI h c k v) hn (zent_wI hc q8 (by rw [hN]; exact q2) hf) (fun d hd => zent_other (wI_ne hd) rfl)] at hP1
  exact K X p l e R s m args below meth cd Z nE C hZ H1 locs1 a h1 h2 hP1 (hSt.wI hc1) hS1 hl
theorem z_putF {idx ci k c i : Nat} (hd : decode M.2.1 pc = .ok (.putfield idx, 3)) (hL : zLk M.1.cls idx ci k) (hf : zrf (zfty ci k) = true) (hfin : ∀ (q : vw_C), vwCl[ci]? = some q → (q.2.1 k).2.2.2 = true ∧ q.1 = M.1.cls) (hin : M.1.name = "<init>") (hc : ly c = ci + 1) (hn : c < n) (hi : i < 1000) (K : zw nX n M (pc + 3) ls st (wR h c k (some i)) Q) : zw nX n M pc ls (.ref i :: .ref c :: st) h Q := by
  intro X p l e R s m args below meth cd Z nE C hZ H locs a h1 h2 hP hSt hS hl
  obtain ⟨Cn, T, N, q1, q2, q3, q4, q5, q6, q7, q8, q9⟩ := hL
  have hc1 : c < 1000 := Nat.lt_trans (zly_lt (by omega)) (by decide)
  have hN := q7 c hc
  show W p l e R s m args below meth cd H locs _ _ Z (F0 m pc a (zcv X (.ref i) :: zcv X (.ref c) :: st.map (zcv X)))
  rw [zcv_ref hc1, zcv_ref hi]
  have hty : (∃ nm, zfty ci k = .object nm) ∨ ∃ t, zfty ci k = .array t := by
    cases q : zfty ci k <;> rw [q] at hf <;> first | exact Or.inl ⟨_, rfl⟩ | exact Or.inr ⟨_, rfl⟩ | cases hf
  refine va_putF (D := zD X) (ci := ci) (v := .ref (X.1 + i)) (ty := zfty ci k) (C := Cn) (T := T) (N := N) C.1 C.2.1 C.2.2.2.2.1 q4 (zfty ci) q5 q6 C.2.2.2.1 C.2.2.2.2.2.2.2.1 hP zwl_D hS c (by rw [zwl_at hn, zent_obj hc q8]) q1 k q2 (C.2.2.2.2.1 _ q3) (fun _ h9 => h9) (hfin _ q1).1 (by rw [C.2.2.2.2.2.1]; exact hin) ((q9 k).trans (hfin _ q1).2) (q5 k q2) (by rcases hty with ⟨nm, e1⟩ | ⟨t, e1⟩ <;> rw [e1] <;> rfl) (by rcases hty with ⟨nm, e1⟩ | ⟨t, e1⟩ <;> rw [e1] <;> rfl) (by simp [hN, q2]) hd (fun H1 locs1 hP1 _ hS1 => ?_)
  have e9 : zent X (wR h c k (some i)) c = .inr (ci, ((List.range (ln c)).map (zfv X h c ci)).set k (.ref (X.1 + i))) := by
    rw [zent_wR hc q8 (by rw [hN]; exact q2) hf]
    congr 3
    show va_rf (zadr X i) = _
    unfold zadr
    rw [if_pos hi]
    rfl
  rw [zwl_set (h := h) (h' := wR h c k (some i)) hn e9 (fun d hd => zent_other rfl (wR_ne hd))] at hP1
  exact K X p l e R s m args below meth cd Z nE C hZ H1 locs1 a h1 h2 hP1 hSt.wR hS1 hl
theorem z_iald {c j : Nat} {i : Int32} (hd : decode M.2.1 pc = .ok (.iaload, 1)) (hc : ly c = 21) (hn : c < n) (hin : vp_in i (ln c)) (hj : i.toNatClampNeg = j) (K : zw nX n M (pc + 1) ls (.int (rI h c j) :: st) h Q) : zw nX n M pc ls (.int i :: .ref c :: st) h Q := by
  intro X p l e R s m args below meth cd Z nE C hZ H locs a h1 h2 hP hSt hS hl
  subst hj
  have hc1 : c < 1000 := Nat.lt_trans (zly_lt (by omega)) (by decide)
  show W p l e R s m args below meth cd H locs _ _ Z (F0 m pc a (.int i :: zcv X (.ref c) :: st.map (zcv X)))
  rw [zcv_ref hc1]
  exact va_iald (f := h.1 c) (cA := X.2.2.2.2 21) C.1 C.2.1 C.2.2.2.2.2.2.2.1 hP c 1 (by rw [zwl_at hn, zent_int hc]) (by rw [ztys_at (by decide)]; rfl) hin hd (K X p l e R s m args below meth cd Z nE C hZ H locs a h1 h2 hP hSt hS hl)
theorem z_bald {c j : Nat} {i : Int32} (hd : decode M.2.1 pc = .ok (.baload, 1)) (hc : ly c = 20) (hn : c < n) (hin : vp_in i (ln c)) (hj : i.toNatClampNeg = j) (K : zw nX n M (pc + 1) ls (.int (rI h c j) :: st) h Q) : zw nX n M pc ls (.int i :: .ref c :: st) h Q := by
  intro X p l e R s m args below meth cd Z nE C hZ H locs a h1 h2 hP hSt hS hl
  subst hj
  have hc1 : c < 1000 := Nat.lt_trans (zly_lt (by omega)) (by decide)
  show W p l e R s m args below meth cd H locs _ _ Z (F0 m pc a (.int i :: zcv X (.ref c) :: st.map (zcv X)))
  rw [zcv_ref hc1]
  exact va_bald (f := h.1 c) (cA := X.2.2.2.2 20) C.1 C.2.1 C.2.2.2.2.2.2.2.1 hP c 0 (by rw [zwl_at hn, zent_byte hc]) (by rw [ztys_at (by decide)]; rfl) hin hd (K X p l e R s m args below meth cd Z nE C hZ H locs a h1 h2 hP hSt hS hl)
theorem wI_upd {h : zHp} {c k : Nat} {v : Int32} : (wI h c k v).1 c = upd (h.1 c) k v := by
  funext b
  simp [wI, upd]
theorem z_iast {c j : Nat} {i v : Int32} (hd : decode M.2.1 pc = .ok (.iastore, 1)) (hc : ly c = 21) (hn : c < n) (hin : vp_in i (ln c)) (hj : i.toNatClampNeg = j) (K : zw nX n M (pc + 1) ls st (wI h c j v) Q) : zw nX n M pc ls (.int v :: .int i :: .ref c :: st) h Q := by
  intro X p l e R s m args below meth cd Z nE C hZ H locs a h1 h2 hP hSt hS hl
  subst hj
  have hc1 : c < 1000 := Nat.lt_trans (zly_lt (by omega)) (by decide)
  show W p l e R s m args below meth cd H locs _ _ Z (F0 m pc a (.int v :: .int i :: zcv X (.ref c) :: st.map (zcv X)))
  rw [zcv_ref hc1]
  refine va_iast (f := h.1 c) (cA := X.2.2.2.2 21) C.1 C.2.1 C.2.2.2.2.2.2.2.1 hP zwl_D hS c 1 (by rw [zwl_at hn, zent_int hc]) (by rw [ztys_at (by decide)]; rfl) hin hd (fun H1 locs1 hP1 _ hS1 => ?_)
  rw [zwl_set (h' := wI h c i.toNatClampNeg v) hn (by rw [zent_int hc, wI_upd]) (fun d hd => zent_other (wI_ne hd) rfl)] at hP1
  exact K X p l e R s m args below meth cd Z nE C hZ H1 locs1 a h1 h2 hP1 (hSt.wI hc1) hS1 hl
theorem z_bast {c j : Nat} {i v : Int32} (hd : decode M.2.1 pc = .ok (.bastore, 1)) (hc : ly c = 20) (hn : c < n) (hin : vp_in i (ln c)) (hj : i.toNatClampNeg = j) (K : zw nX n M (pc + 1) ls st (wI h c j v.toInt8.toInt32) Q) : zw nX n M pc ls (.int v :: .int i :: .ref c :: st) h Q := by
  intro X p l e R s m args below meth cd Z nE C hZ H locs a h1 h2 hP hSt hS hl
  subst hj
  have hc1 : c < 1000 := Nat.lt_trans (zly_lt (by omega)) (by decide)
  show W p l e R s m args below meth cd H locs _ _ Z (F0 m pc a (.int v :: .int i :: zcv X (.ref c) :: st.map (zcv X)))
  rw [zcv_ref hc1]
  refine va_bast (f := h.1 c) (cA := X.2.2.2.2 20) C.1 C.2.1 C.2.2.2.2.2.2.2.1 hP zwl_D hS c 0 (by rw [zwl_at hn, zent_byte hc]) (by rw [ztys_at (by decide)]; rfl) hin hd (fun H1 locs1 hP1 _ hS1 => ?_)
  rw [vp_nar_byte, zwl_set (h' := wI h c i.toNatClampNeg v.toInt8.toInt32) hn (by rw [zent_byte hc, wI_upd]) (fun d hd => zent_other (wI_ne hd) rfl)] at hP1
  exact K X p l e R s m args below meth cd Z nE C hZ H1 locs1 a h1 h2 hP1 (hSt.wI hc1) hS1 hl
theorem zly_27 {c : Nat} : ly c ≤ 27 := ly_27 c
theorem zty_ref {k : Nat} (h1 : 22 ≤ k) : ∃ C, zty k = .object C := by
  unfold zty
  split <;> first | omega | exact ⟨_, rfl⟩
theorem z_aald {c j r : Nat} {i : Int32} (hd : decode M.2.1 pc = .ok (.aaload, 1)) (hc : 22 ≤ ly c) (hn : c < n) (hin : vp_in i (ln c)) (hj : i.toNatClampNeg = j) (hr : rR h c j = some r) (K : zw nX n M (pc + 1) ls (.ref r :: st) h Q) : zw nX n M pc ls (.int i :: .ref c :: st) h Q := by
  intro X p l e R s m args below meth cd Z nE C hZ H locs a h1 h2 hP hSt hS hl
  subst hj
  have hc1 : c < 1000 := Nat.lt_trans (zly_lt (by omega)) (by decide)
  have hc2 : ly c ≤ 27 := zly_27
  obtain ⟨E, hE⟩ := zty_ref hc
  change h.2 c _ = some r at hr
  have hk := K X p l e R s m args below meth cd Z nE C hZ H locs a h1 h2 hP hSt hS hl
  show W p l e R s m args below meth cd H locs _ _ Z (F0 m pc a (.int i :: zcv X (.ref c) :: st.map (zcv X)))
  rw [zcv_ref hc1]
  refine va_aldq (C := E) C.1 C.2.1 C.2.2.2.2.2.2.2.1 hP c (ly c - 20) (by rw [zwl_at hn, zent_ref hc]) (by rw [ztys_at (by omega), show 20 + (ly c - 20) = ly c by omega, hE]) hin hd ?_
  rw [hr]
  exact hk
theorem wR_upd {h : zHp} {X : zCx} {c k r : Nat} (hr : r < 1000) : (fun b => ((wR h c k (some r)).2 c b).bind (zadr X)) = va_up (fun b => (h.2 c b).bind (zadr X)) k (some (X.1 + r)) := by
  funext b
  simp only [wR, va_up]
  by_cases hb : b = k
  · simp [hb, zadr, hr]
  · simp [hb]
theorem z_aast {c j r ci : Nat} {i : Int32} (hd : decode M.2.1 pc = .ok (.aastore, 1)) (hc : 22 ≤ ly c) (hn : c < n) (hin : vp_in i (ln c)) (hj : i.toNatClampNeg = j) (hr : ly r = ci + 1) (hrn : r < n) (hci : ci < 12) (hcl : ∀ q : vw_C, vwCl[ci]? = some q → zty (ly c) = .object q.1) (K : zw nX n M (pc + 1) ls st (wR h c j (some r)) Q) : zw nX n M pc ls (.ref r :: .int i :: .ref c :: st) h Q := by
  intro X p l e R s m args below meth cd Z nE C hZ H locs a h1 h2 hP hSt hS hl
  subst hj
  have hc1 : c < 1000 := Nat.lt_trans (zly_lt (by omega)) (by decide)
  have hr1 : r < 1000 := Nat.lt_trans (zly_lt (by omega)) (by decide)
  have hc2 : ly c ≤ 27 := zly_27
  obtain ⟨q, hq⟩ : ∃ q, vwCl[ci]? = some q := ⟨vwCl[ci]'hci, List.getElem?_eq_getElem hci⟩
  show W p l e R s m args below meth cd H locs _ _ Z (F0 m pc a (zcv X (.ref r) :: .int i :: zcv X (.ref c) :: st.map (zcv X)))
  rw [zcv_ref hc1, zcv_ref hr1]
  refine va_astq (r := q) C.1 C.2.1 C.2.2.2.2.2.2.2.1 hP zwl_D hS c (ly c - 20) r ci (by rw [zwl_at hn, zent_ref hc]) (by rw [ztys_at (by omega), show 20 + (ly c - 20) = ly c by omega, hcl q hq]) (by rw [zwl_at hrn, zent_obj hr hci]) hq hin hd (fun H1 locs1 hP1 _ hS1 => ?_)
  rw [zwl_set (h := h) (h' := wR h c i.toNatClampNeg (some r)) hn (by rw [zent_ref hc, wR_upd hr1]) (fun d hd => zent_other rfl (wR_ne hd))] at hP1
  exact K X p l e R s m args below meth cd Z nE C hZ H1 locs1 a h1 h2 hP1 hSt.wR hS1 hl
theorem z_alen {c : Nat} (hd : decode M.2.1 pc = .ok (.arraylength, 1)) (hc : 22 ≤ ly c) (hn : c < n) (K : zw nX n M (pc + 1) ls (.int (nI (ln c)) :: st) h Q) : zw nX n M pc ls (.ref c :: st) h Q := by
  intro X p l e R s m args below meth cd Z nE C hZ H locs a h1 h2 hP hSt hS hl
  have hc1 : c < 1000 := Nat.lt_trans (zly_lt (by omega)) (by decide)
  have hc2 : ly c ≤ 27 := zly_27
  show W p l e R s m args below meth cd H locs _ _ Z (F0 m pc a (zcv X (.ref c) :: st.map (zcv X)))
  rw [zcv_ref hc1]
  exact va_alen (x := (ln c, .inr (.inr (.inr (.inr (fun k => (h.2 c k).bind (zadr X))))))) (cA := X.2.2.2.2 (ly c)) C.1 C.2.1 C.2.2.2.2.2.2.2.1 hP c (ly c - 20) (by rw [zwl_at hn, zent_ref hc]) (ty := zty (ly c)) (by rw [ztys_at (by omega), show 20 + (ly c - 20) = ly c by omega]) rfl hd (K X p l e R s m args below meth cd Z nE C hZ H locs a h1 h2 hP hSt hS hl)
end ZHeap
