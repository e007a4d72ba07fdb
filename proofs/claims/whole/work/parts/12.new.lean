/-! rules of zw: new cells -/
theorem zgrow {X : zCx} {h : zHp} {n : Nat} {H H1 : Heap} {s : State} {locs : List Loc} (hP : va_P (zD X) vwCl (zwl X h n) H) (hS : va_S (zA X) s.heap H locs) (hsz : H.size = X.1 + n) (o1 : ∀ q, q < X.1 + n → H1[q]? = H[q]?) (z1 : H1.size = X.1 + n + 1) (e : va_at (zD X) vwCl (X.1 + n, zent X h n) H1) : va_P (zD X) vwCl (zwl X h (n + 1)) H1 ∧ va_S (zA X) s.heap H1 locs := by
  refine ⟨?_, Nat.le_trans hS.1 (by omega), fun x g1 g2 => (o1 x (by have := hS.1; omega)).trans (hS.2.1 x g1 g2), hS.2.2⟩
  intro k q hk
  have hl : k < n + 1 := by have := (List.getElem?_eq_some_iff.mp hk).1; rwa [zwl_len] at this
  rw [zwl_at hl] at hk
  cases hk
  rcases Nat.lt_or_ge k n with g | g
  · have h1 := hP k _ (zwl_at g)
    exact h1.kept (o1 _ (by show X.1 + k < _; omega))
  · have : k = n := by omega
    subst this
    exact e
def zLn (own : String) (idx ci : Nat) : Prop := ∃ (C : String) (T : u_T) (N : Nat), vwCl[ci]? = some (C, T, N) ∧ Cond.classLink own idx C ∈ zT ∧ Cond.instantiable C N ∈ zT ∧ Cond.initialized C ∈ zT ∧ (∀ w ∈ u_ws C T N, w ∈ zT) ∧ (∀ j, j < N → parseFieldDescriptor (T j).2.2.1 = some (zfty ci j)) ∧ (∀ c, ly c = ci + 1 → ln c = N) ∧ ci < 12 ∧ ∀ j, j < N → defaultValue (zfty ci j) = if zrf (zfty ci j) = true then .null else .int 0
/-- an array class's id out of its name -/
theorem zarr_id {X : zCx} {s : State} {i : Nat} {cA : ClassId} (hK : va_K (zD X) vwCl (ztys X) s) (hi : i < 8) (hf : s.vm.findClass ("[" ++ (zty (20 + i)).toString) = some cA) : X.2.2.2.2 (20 + i) = cA := by
  have h1 := (hK.2 i _ (ztys_at hi)).2
  generalize hty : zty (20 + i) = ty at h1 hf
  cases ty with
  | object C =>
    obtain ⟨_, _, _, _, _, h4⟩ := h1
    exact Option.some.inj (h4.symm.trans hf)
  | _ => exact Option.some.inj (Eq.trans (Eq.symm h1) hf)
section ZNew
variable {nX n : Nat} {M : zMI} {pc : Nat} {ls : List (Option Value)} {st : List Value} {h : zHp} {Q : Option Value → zHp → Prop}
theorem z_new {idx ci : Nat} (hd : decode M.2.1 pc = .ok (.new idx, 3)) (hL : zLn M.1.cls idx ci) (hly : ly n = ci + 1) (hbl : ∀ k, h.1 n k = 0 ∧ h.2 n k = none) (hX : n < nX) (K : zw nX (n + 1) M (pc + 3) ls (.ref n :: st) h Q) : zw nX n M pc ls st h Q := by
  intro X p l e R s m args below meth cd Z nE C hZ H locs a h1 h2 hP hSt hS hl
  intro T hT Y
  have hsz := zsize C.2.2.2.2.2.2.1 h1 hP hS hT Y
  have hn1 : n < 1000 := Nat.lt_trans (zly_lt (by omega)) (by decide)
  obtain ⟨Cn, Tn, N, q1, q2, q3, q4, q5, q6, q7, q8, q9⟩ := hL
  have hK := C.2.2.2.2.2.2.2.1
  have hKn := hK.1 ci _ q1
  have hfit := C.2.2.2.2.2.2.2.2.2
  have z1 := zsl_mono (show n + 1 ≤ nX from hX)
  have z2 := zsl_mono h1
  have hN : ln n = N := q7 n hly
  rw [zsl_succ, hN] at z1
  suffices key : W p l e R s m args below meth cd H locs (n - nE) (zsl n - zsl nE) Z (F0 m pc a (st.map (zcv X))) from key T hT Y
  refine W.newcK C.1 C.2.1 C.2.2.2.1 (C.2.2.2.2.1 _ q2) (C.2.2.2.2.1 _ q3) (C.2.2.2.2.1 _ q4) rfl hd (by omega) (by omega) hKn.2.1 hsz (fun H1 kC hkC e1 z3 o1 => ?_)
  have e9 : va_at (zD X) vwCl (X.1 + n, zent X h n) H1 := by
    rw [zent_obj hly q8, hN]
    refine ⟨_, q1, (u_born (zfty ci) C.2.2.2.2.1 q5 hKn hkC e1 q6).to (fun j hj => ?_)⟩
    rw [q9 j hj]
    show _ = ((List.range N).map (zfv X h n ci)).getD j .null
    rw [List.getD_eq_getElem?_getD, zfs_at hj]
    unfold zfv
    rw [(hbl j).1, (hbl j).2]
    rfl
  obtain ⟨hP1, hS1⟩ := zgrow hP hS hsz o1 z3 e9
  have hk := K X p l e R s m args below meth cd Z nE C hZ H1 locs a (by omega) hX hP1 hSt hS1 hl
  rw [List.map_cons, zcv_ref hn1] at hk
  rw [show n + 1 - nE = n - nE + 1 by omega, zsl_succ, hN, show zsl n + N - zsl nE = zsl n - zsl nE + N by omega] at hk
  exact hk
theorem z_newa {k : Nat} {v : Int32} {atype : ArrayType} (hd : decode M.2.1 pc = .ok (.newarray atype, 2)) (hty : (atype = .int ∧ ly n = 21 ∧ Cond.arrayClass .int ∈ zT) ∨ (atype = .byte ∧ ly n = 20 ∧ Cond.arrayClass .byte ∈ zT)) (hv : v = nI k) (hk : ln n = k) (hk2 : k ≤ 2000) (hbl : ∀ k, h.1 n k = 0) (hX : n < nX) (K : zw nX (n + 1) M (pc + 2) ls (.ref n :: st) h Q) : zw nX n M pc ls (.int v :: st) h Q := by
  intro X p l e R s m args below meth cd Z nE C hZ H locs a h1 h2 hP hSt hS hl
  intro T hT Y
  have hsz := zsize C.2.2.2.2.2.2.1 h1 hP hS hT Y
  have hn1 : n < 1000 := Nat.lt_trans (zly_lt (by rcases hty with ⟨-, q, -⟩ | ⟨-, q, -⟩ <;> omega)) (by decide)
  have hK := C.2.2.2.2.2.2.2.1
  have hfit := C.2.2.2.2.2.2.2.2.2
  have z1 := zsl_mono (show n + 1 ≤ nX from hX)
  have z2 := zsl_mono h1
  rw [zsl_succ, hk] at z1
  have ev : v.toNatClampNeg = k := by rw [hv, nI_clamp (by omega)]
  have fin : ∀ (H1 : Heap) (cA : ClassId), H1[X.1 + n]? = some (arrV cA k (fun _ => .int 0)) → X.2.2.2.2 (ly n) = cA → (ly n = 20 ∨ ly n = 21) → H1.size = X.1 + n + 1 → (∀ q, q < X.1 + n → H1[q]? = H[q]?) → W p l e R s m args below meth cd H1 locs (n - nE + 1) (zsl n - zsl nE + k) Z (F0 m (pc + 2) a (.ref (X.1 + n) :: st.map (zcv X))) := by
    intro H1 cA e1 e2 e3 z3 o1
    have e9 : va_at (zD X) vwCl (X.1 + n, zent X h n) H1 := by
      have e4 : zent X h n = .inl (X.2.2.2.2 (ly n), ln n, .inl (h.1 n)) := by
        unfold zent
        rw [if_neg (by omega), if_pos (by omega)]
      rw [e4]
      show H1[X.1 + n]? = some (vp_cell _ _)
      rw [e1, vp_cell_i, e2, hk]
      congr 2
      funext j
      rw [hbl]
    obtain ⟨hP1, hS1⟩ := zgrow hP hS hsz o1 z3 e9
    have hq := K X p l e R s m args below meth cd Z nE C hZ H1 locs a (by omega) hX hP1 hSt hS1 hl
    rw [List.map_cons, zcv_ref hn1] at hq
    rw [show n + 1 - nE = n - nE + 1 by omega, zsl_succ, hk, show zsl n + k - zsl nE = zsl n - zsl nE + k by omega] at hq
    exact hq
  suffices key : W p l e R s m args below meth cd H locs (n - nE) (zsl n - zsl nE) Z (F0 m pc a (.int v :: st.map (zcv X))) from key T hT Y
  rcases hty with ⟨rfl, hly, hw⟩ | ⟨rfl, hly, hw⟩
  · refine va_newaK (atype := .int) C.1 C.2.1 (C.2.2.2.2.1 _ hw) rfl hd rfl (by rw [hv]; exact nI_pos (by omega)) ev (by show k * 4 ≤ _; omega) (by omega) (by omega) hsz (fun H1 cA e1 z3 o1 _ hf => ?_)
    exact fin H1 cA e1 (by rw [hly]; exact zarr_id (i := 1) hK (by decide) hf) (Or.inr hly) z3 o1
  · refine va_newaK (atype := .byte) C.1 C.2.1 (C.2.2.2.2.1 _ hw) rfl hd rfl (by rw [hv]; exact nI_pos (by omega)) ev (by show k * 1 ≤ _; omega) (by omega) (by omega) hsz (fun H1 cA e1 z3 o1 _ hf => ?_)
    exact fin H1 cA e1 (by rw [hly]; exact zarr_id (i := 0) hK (by decide) hf) (Or.inl hly) z3 o1
theorem z_newq {idx k : Nat} {v : Int32} {E : String} (hd : decode M.2.1 pc = .ok (.anewarray idx, 3)) (hL : Cond.classLink M.1.cls idx E ∈ zT ∧ E ∈ zAO) (hE : zty (ly n) = .object E) (hly : 22 ≤ ly n) (hv : v = nI k) (hk : ln n = k) (hk2 : k ≤ 2000) (hbl : ∀ k, h.2 n k = none) (hX : n < nX) (K : zw nX (n + 1) M (pc + 3) ls (.ref n :: st) h Q) : zw nX n M pc ls (.int v :: st) h Q := by
  intro X p l e R s m args below meth cd Z nE C hZ H locs a h1 h2 hP hSt hS hl
  intro T hT Y
  have hsz := zsize C.2.2.2.2.2.2.1 h1 hP hS hT Y
  have hn1 : n < 1000 := Nat.lt_trans (zly_lt (by omega)) (by decide)
  have hK := C.2.2.2.2.2.2.2.1
  have hfit := C.2.2.2.2.2.2.2.2.2
  have z1 := zsl_mono (show n + 1 ≤ nX from hX)
  have z2 := zsl_mono h1
  have hl27 : ly n ≤ 27 := zly_27
  rw [zsl_succ, hk] at z1
  have ev : v.toNatClampNeg = k := by rw [hv, nI_clamp (by omega)]
  suffices key : W p l e R s m args below meth cd H locs (n - nE) (zsl n - zsl nE) Z (F0 m pc a (.int v :: st.map (zcv X))) from key T hT Y
  refine W.anew C.1 C.2.1 C.2.2.2.1 (C.2.2.2.2.1 _ hL.1) (va_AO.use (hSt.2.2.2.2.2.2.2.2 _ hL.2)) rfl hd rfl (by rw [hv]; exact nI_pos (by omega)) (by rw [ev]; omega) (by omega) (by rw [ev]; omega) (fun cA kA comp f1 f2 f3 f4 => ?_)
  rw [ev]
  generalize hH1 : H.push ({ cls := cA, slots := Array.replicate k .null, vm := .none } : Cell) = H1
  have z3 : H1.size = X.1 + n + 1 := by rw [← hH1, Array.size_push, hsz]
  have e1 : H1[X.1 + n]? = some (arrV cA k (fun _ => .null)) := by rw [← hH1, ← hsz, Array.getElem?_push_size, ← arrV_new]
  have o1 : ∀ q : Nat, q < X.1 + n → H1[q]? = H[q]? := fun q hq => by rw [← hH1, Array.getElem?_push, if_neg (by omega)]
  have hid : X.2.2.2.2 (ly n) = cA := by
    have := zarr_id (i := ly n - 20) (cA := cA) hK (by omega) (by rw [show 20 + (ly n - 20) = ly n by omega, hE]; exact f1)
    rwa [show 20 + (ly n - 20) = ly n by omega] at this
  have e9 : va_at (zD X) vwCl (X.1 + n, zent X h n) H1 := by
    rw [zent_ref hly]
    show H1[X.1 + n]? = some (vp_cell _ _)
    rw [e1, vp_cell_q, hid, hk]
    congr 2
    funext j
    rw [hbl]
    rfl
  obtain ⟨hP1, hS1⟩ := zgrow hP hS hsz o1 z3 e9
  have hq := K X p l e R s m args below meth cd Z nE C hZ H1 locs a (by omega) hX hP1 hSt hS1 hl
  rw [List.map_cons, zcv_ref hn1] at hq
  rw [show n + 1 - nE = n - nE + 1 by omega, zsl_succ, hk, show zsl n + k - zsl nE = zsl n - zsl nE + k by omega] at hq
  rw [hsz]
  exact hq
/-- a text into a row of texts -/
theorem z_aastS {c j r : Nat} {i : Int32} (hd : decode M.2.1 pc = .ok (.aastore, 1)) (hc : ly c = 27) (hn : c < n) (hin : vp_in i (ln c)) (hj : i.toNatClampNeg = j) (hr : r < 13) (K : zw nX n M (pc + 1) ls st (wR h c j (some (1010 + r))) Q) : zw nX n M pc ls (.ref (1010 + r) :: .int i :: .ref c :: st) h Q := by
  intro X p l e R s m args below meth cd Z nE C hZ H locs a h1 h2 hP hSt hS hl
  subst hj
  have hc1 : c < 1000 := Nat.lt_trans (zly_lt (by omega)) (by decide)
  have hSt0 := hSt
  obtain ⟨-, -, -, -, ⟨adK, adV, g1, g2, -⟩, -⟩ := hSt
  have e9 : zadr X (1010 + r) = some (adK r) := by unfold zadr; rw [if_neg (by omega), (g1 r hr).1]
  have e8 : zcv X (.ref (1010 + r)) = .ref (adK r) := by show va_rf (zadr X (1010 + r)) = _; rw [e9]; rfl
  show W p l e R s m args below meth cd H locs _ _ Z (F0 m pc a (zcv X (.ref (1010 + r)) :: .int i :: zcv X (.ref c) :: st.map (zcv X)))
  rw [zcv_ref hc1, e8]
  have hAny : va_Any "java/lang/String" s H (adK r) := by
    obtain ⟨cell, k1, k2, k3⟩ := vk_recv g2 hr hS
    obtain ⟨kC, hkC, hz⟩ := Vm.findClass_spec k3
    exact ⟨cell, k1, k2, ⟨kC, hkC⟩, fun comp hcomp => by cases hcomp.symm.trans k3; exact va_asg _ _⟩
  refine va_astqM (E := "java/lang/String") C.1 C.2.1 C.2.2.2.2.2.2.2.1 hP zwl_D hS c 7 (by rw [zwl_at hn, zent_ref (by omega), hc]) (by rw [ztys_at (by decide)]; rfl) hAny hin hd (fun H1 locs1 hP1 _ hS1 => ?_)
  have e7 : (fun b => ((wR h c i.toNatClampNeg (some (1010 + r))).2 c b).bind (zadr X)) = va_up (fun b => (h.2 c b).bind (zadr X)) i.toNatClampNeg (some (adK r)) := by
    funext b
    simp only [wR, va_up]
    by_cases hb : b = i.toNatClampNeg
    · simp [hb, e9]
    · simp [hb]
  rw [zwl_set (h := h) (h' := wR h c i.toNatClampNeg (some (1010 + r))) hn (by rw [zent_ref (by omega), hc, e7]) (fun d hd => zent_other rfl (wR_ne hd))] at hP1
  exact K X p l e R s m args below meth cd Z nE C hZ H1 locs1 a h1 h2 hP1 hSt0.wR hS1 hl
end ZNew
