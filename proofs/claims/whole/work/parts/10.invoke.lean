/-! rules of zw for calls and new cells -/
theorem zsl_mono {a b : Nat} (h : a ≤ b) : zsl a ≤ zsl b := by
  obtain ⟨d, rfl⟩ := Nat.exists_eq_add_of_le h
  induction d with
  | zero => exact Nat.le_refl _
  | succ d ih =>
    have h1 := ih (by omega)
    rw [← Nat.add_assoc, zsl_succ]
    omega
theorem zsize {X : zCx} {p : Program} {l : Launch} {e : Env} {R : Room} {s : State} {m : MethodId} {args : Array Value} {below : List Frame} {meth : Method} {c : Code} {nE n : Nat} {h : zHp} {T : State} {H : Heap} {locs : List Loc} {slots : Nat} (hsz : s.heap.size = X.1 + nE) (h1 : nE ≤ n) (hP : va_P (zD X) vwCl (zwl X h n) H) (hS : va_S (zA X) s.heap H locs) (hT : T.heap = H) (Y : Stand p l e R s m args below meth c T locs (n - nE) slots) : H.size = X.1 + n := by
  have a1 := Y.heapSize
  rw [hT, hsz] at a1
  have a2 : X.1 + n ≤ H.size := by
    rcases Nat.eq_zero_or_pos n with q | q
    · have := hS.1
      omega
    · have h3 := (hP (n - 1) _ (zwl_at (by omega))).lt
      have h4 : X.1 + (n - 1) < H.size := h3
      omega
  omega
def zLink (own : String) (idx : Nat) (N : zMI) : Prop := Cond.methodLink own idx N.1 ∈ zT ∨ ∃ host, (own, idx, N.1, host) ∈ zNM
/-- how many parameters a method's descriptor has -/
def zPar (N : zMI) (k : Nat) : Prop := (parseMethodDescriptor N.1.desc).map (fun d => d.parameters.length) = some k
def zRm (M N : zMI) : Prop := N.2.2.2.2.1 + 1 ≤ M.2.2.2.2.1 ∧ 8 + (N.2.2.1 + 11) + N.2.2.2.2.2 ≤ M.2.2.2.2.2
theorem zcat_cons {c : Nat} {As : List Value} (h : ∀ v ∈ As, v.category = 1) : ∀ v ∈ (Value.ref c :: As), v.category = 1 := by
  intro v hv
  rcases List.mem_cons.mp hv with q | q
  · rw [q]
    rfl
  · exact h v q
section ZInv
variable {nX n nY : Nat} {M N : zMI} {pc : Nat} {ls : List (Option Value)} {st st0 As : List Value} {h : zHp} {Q : Option Value → zHp → Prop}
theorem z_invV {idx c ci : Nat} (hd : decode M.2.1 pc = .ok (.invokevirtual idx, 3)) (ok : zOk N) (hL : zLink M.1.cls idx N) (hI : Cond.instanceMethod N.1 ∈ zT ∧ Cond.selects N.1.cls N.1 N.1 ∈ zT) (hpar : zPar N As.length) (hR : zRm M N) (hc : ly c = ci + 1) (hcn : c < n) (hcl : ∀ q : vw_C, vwCl[ci]? = some q → q.1 = N.1.cls) (hci : ci < 12) (hcat : ∀ v ∈ As, v.category = 1) (hcat2 : ∀ v ∈ st, v.category = 1) (hst : st.length ≤ 8) (hY : n ≤ nY) (hYX : nY ≤ nX) (hlen : As.length + 1 ≤ N.2.2.1) (hst0 : st0 = As.reverse ++ .ref c :: st) (K : zcall nY n N (.ref c :: As) h (fun r h' => zw nX nY M (pc + 3) ls (r.toList ++ st) h' Q)) : zw nX n M pc ls st0 h Q := by
  intro X p l e R s m args below meth cd Z nE C hZ H locs a h1 h2 hP hSt hS hl
  intro T hT Y
  have hsz := zsize C.2.2.2.2.2.2.1 h1 hP hS hT Y
  have hc1 : c < 1000 := Nat.lt_trans (zly_lt (by omega)) (by decide)
  have hM := zMet ok hY (zcat_cons hcat) (by simpa using hlen) K l X
  obtain ⟨q, hq⟩ : ∃ q, vwCl[ci]? = some q := ⟨vwCl[ci]'hci, List.getElem?_eq_getElem hci⟩
  obtain ⟨hRf, hRl⟩ := C.2.2.2.2.2.2.2.2.1
  have hp : PreV s H N.1.cls (X.1 + c) (zPc X (.ref c :: As) h n) (As.map (zcv X)) := by
    refine ⟨zPc_blind, ?_, fun U hU hW => ⟨by rw [List.map_cons, zcv_ref hc1], by rw [hU]; exact hsz, by rw [hU]; exact hP, va_K.moved hW.alike C.2.2.2.2.2.2.2.1, hSt.move hS hU hW⟩⟩
    obtain ⟨cell, g1, g2, g3⟩ := va_recv C.2.2.2.2.2.2.2.1 hP hq (q0 := c) (by rw [zwl_at hcn, zent_obj hc hci])
    exact ⟨cell, g1, g2, by rw [← hcl q hq]; exact g3⟩
  have hst9 : st0.map (zcv X) = (As.map (zcv X)).reverse ++ .ref (X.1 + c) :: st.map (zcv X) := by
    rw [hst0, List.map_append, List.map_reverse, List.map_cons, zcv_ref hc1]
  have hfit : n - nE + (nY - n) ≤ R.cells ∧ zsl n - zsl nE + (zsl nY - zsl n) ≤ R.slots := by
    have z1 := zsl_mono h1
    have z2 := zsl_mono hY
    have z3 := zsl_mono hYX
    have := C.2.2.2.2.2.2.2.2.2
    omega
  suffices key : W p l e R s m args below meth cd H locs (n - nE) (zsl n - zsl nE) Z (F0 m pc a (st0.map (zcv X))) from key T hT Y
  refine zbehind (st := st) C hZ h1 hY hYX hS hl (zsl_mono h1) (zsl_mono hY) ?_ hSt (N := N) (av := (Value.ref (X.1 + c) :: As.map (zcv X)).toArray)
  rcases hL with hL | ⟨host, hL⟩
  · exact va_runV (C := N.1.cls) ⟨C.1, C.2.1, C.2.2.1, C.2.2.2.1, C.2.2.2.2.1⟩ hM ⟨callB_of (R := R) As.length C.2.2.2.2.1 (zgoodIn ok) rfl rfl rfl (C.2.2.2.2.1 _ ok.2.2.1) (C.2.2.2.2.1 _ hL) ⟨ok.2.2.2.1, ok.2.2.2.2, hpar⟩ ⟨Nat.le_trans hR.1 hRf, Nat.le_trans hR.2 hRl⟩, C.2.2.2.2.1 _ hI.1, C.2.2.2.2.1 _ hI.2⟩ hp rfl (by simp) hl.1 hst9 (lv_room (by rw [zcats hcat2]; exact hst)) hd hfit
  · exact va_runVN (C := N.1.cls) (host := host) ⟨C.1, C.2.1, C.2.2.1, C.2.2.2.1, C.2.2.2.2.1⟩ hM ⟨va_cnB (R := R) As.length C.2.2.2.2.1 (zgoodIn ok) rfl rfl rfl (hSt.2.2.2.2.2.2.1 _ hL) (C.2.2.2.2.1 _ ok.2.2.1) ⟨ok.2.2.2.1, ok.2.2.2.2, hpar⟩ ⟨Nat.le_trans hR.1 hRf, Nat.le_trans hR.2 hRl⟩, C.2.2.2.2.1 _ hI.1, C.2.2.2.2.1 _ hI.2⟩ hp rfl (by simp) hl.1 hst9 (lv_room (by rw [zcats hcat2]; exact hst)) hd hfit
theorem z_invS {idx : Nat} (hd : decode M.2.1 pc = .ok (.invokestatic idx, 3)) (ok : zOk N) (hL : zLink M.1.cls idx N) (hI : Cond.static N.1 ∈ zT) (hpar : zPar N As.length) (hR : zRm M N) (hcat : ∀ v ∈ As, v.category = 1) (hcat2 : ∀ v ∈ st, v.category = 1) (hst : st.length ≤ 8) (hY : n ≤ nY) (hYX : nY ≤ nX) (hlen : As.length ≤ N.2.2.1) (hst0 : st0 = As.reverse ++ st) (K : zcall nY n N As h (fun r h' => zw nX nY M (pc + 3) ls (r.toList ++ st) h' Q)) : zw nX n M pc ls st0 h Q := by
  intro X p l e R s m args below meth cd Z nE C hZ H locs a h1 h2 hP hSt hS hl
  intro T hT Y
  have hsz := zsize C.2.2.2.2.2.2.1 h1 hP hS hT Y
  have hM := zMet ok hY hcat hlen K l X
  obtain ⟨hRf, hRl⟩ := C.2.2.2.2.2.2.2.2.1
  have hp : PreS s H (zPc X As h n) (As.map (zcv X)) := by
    refine ⟨zPc_blind, fun U hU hW => ⟨rfl, by rw [hU]; exact hsz, by rw [hU]; exact hP, va_K.moved hW.alike C.2.2.2.2.2.2.2.1, hSt.move hS hU hW⟩⟩
  have hst9 : st0.map (zcv X) = (As.map (zcv X)).reverse ++ st.map (zcv X) := by
    rw [hst0, List.map_append, List.map_reverse]
  have hfit : n - nE + (nY - n) ≤ R.cells ∧ zsl n - zsl nE + (zsl nY - zsl n) ≤ R.slots := by
    have z1 := zsl_mono h1
    have z2 := zsl_mono hY
    have z3 := zsl_mono hYX
    have := C.2.2.2.2.2.2.2.2.2
    omega
  suffices key : W p l e R s m args below meth cd H locs (n - nE) (zsl n - zsl nE) Z (F0 m pc a (st0.map (zcv X))) from key T hT Y
  refine zbehind (st := st) C hZ h1 hY hYX hS hl (zsl_mono h1) (zsl_mono hY) ?_ hSt (N := N) (av := (As.map (zcv X)).toArray)
  rcases hL with hL | ⟨host, hL⟩
  · exact va_runS ⟨C.1, C.2.1, C.2.2.1, C.2.2.2.1, C.2.2.2.2.1⟩ hM ⟨callB_of (R := R) As.length C.2.2.2.2.1 (zgoodIn ok) rfl rfl rfl (C.2.2.2.2.1 _ ok.2.2.1) (C.2.2.2.2.1 _ hL) ⟨ok.2.2.2.1, ok.2.2.2.2, hpar⟩ ⟨Nat.le_trans hR.1 hRf, Nat.le_trans hR.2 hRl⟩, C.2.2.2.2.1 _ hI⟩ hp rfl (by simp) hl.1 hst9 (lv_room (by rw [zcats hcat2]; exact hst)) hd hfit
  · exact va_runSN (host := host) ⟨C.1, C.2.1, C.2.2.1, C.2.2.2.1, C.2.2.2.2.1⟩ hM ⟨va_cnB (R := R) As.length C.2.2.2.2.1 (zgoodIn ok) rfl rfl rfl (hSt.2.2.2.2.2.2.1 _ hL) (C.2.2.2.2.1 _ ok.2.2.1) ⟨ok.2.2.2.1, ok.2.2.2.2, hpar⟩ ⟨Nat.le_trans hR.1 hRf, Nat.le_trans hR.2 hRl⟩, C.2.2.2.2.1 _ hI, trivial⟩ hp rfl (by simp) hl.1 hst9 (lv_room (by rw [zcats hcat2]; exact hst)) hd hfit
theorem z_invI {idx c : Nat} (hd : decode M.2.1 pc = .ok (.invokespecial idx, 3)) (ok : zOk N) (hL : zLink M.1.cls idx N) (hI : Cond.instanceMethod N.1 ∈ zT ∧ N.1.name = "<init>" ∧ N.2.2.2.1 = none) (hpar : zPar N As.length) (hR : zRm M N) (hc : c < 1000) (hcat : ∀ v ∈ As, v.category = 1) (hcat2 : ∀ v ∈ st, v.category = 1) (hst : st.length ≤ 8) (hY : n ≤ nY) (hYX : nY ≤ nX) (hlen : As.length + 1 ≤ N.2.2.1) (hst0 : st0 = As.reverse ++ .ref c :: st) (K : zcall nY n N (.ref c :: As) h (fun r h' => zw nX nY M (pc + 3) ls (r.toList ++ st) h' Q)) : zw nX n M pc ls st0 h Q := by
  intro X p l e R s m args below meth cd Z nE C hZ H locs a h1 h2 hP hSt hS hl
  intro T hT Y
  have hsz := zsize C.2.2.2.2.2.2.1 h1 hP hS hT Y
  have hM := zMet ok hY (zcat_cons hcat) (by simpa using hlen) K l X
  obtain ⟨hRf, hRl⟩ := C.2.2.2.2.2.2.2.2.1
  have hp : PreS s H (zPc X (.ref c :: As) h n) (.ref (X.1 + c) :: As.map (zcv X)) := by
    refine ⟨zPc_blind, fun U hU hW => ⟨by rw [List.map_cons, zcv_ref hc], by rw [hU]; exact hsz, by rw [hU]; exact hP, va_K.moved hW.alike C.2.2.2.2.2.2.2.1, hSt.move hS hU hW⟩⟩
  have hst9 : st0.map (zcv X) = (As.map (zcv X)).reverse ++ .ref (X.1 + c) :: st.map (zcv X) := by
    rw [hst0, List.map_append, List.map_reverse, List.map_cons, zcv_ref hc]
  have hfit : n - nE + (nY - n) ≤ R.cells ∧ zsl n - zsl nE + (zsl nY - zsl n) ≤ R.slots := by
    have z1 := zsl_mono h1
    have z2 := zsl_mono hY
    have z3 := zsl_mono hYX
    have := C.2.2.2.2.2.2.2.2.2
    omega
  have hw : zws N = Cond.code N.1 N.2.1 N.2.2.1 none :: zT := by
    unfold zws
    rw [hI.2.2]
  suffices key : W p l e R s m args below meth cd H locs (n - nE) (zsl n - zsl nE) Z (F0 m pc a (st0.map (zcv X))) from key T hT Y
  refine zbehind (st := st) C hZ h1 hY hYX hS hl (zsl_mono h1) (zsl_mono hY) ?_ hSt (N := N) (av := (Value.ref (X.1 + c) :: As.map (zcv X)).toArray)
  rcases hL with hL | ⟨host, hL⟩
  · exact va_runI ⟨C.1, C.2.1, C.2.2.1, C.2.2.2.1, C.2.2.2.2.1⟩ hM ⟨callB_of (R := R) As.length C.2.2.2.2.1 (zgoodIn ok) hw rfl rfl (C.2.2.2.2.1 _ ok.2.2.1) (C.2.2.2.2.1 _ hL) ⟨ok.2.2.2.1, ok.2.2.2.2, hpar⟩ ⟨Nat.le_trans hR.1 hRf, Nat.le_trans hR.2 hRl⟩, hI.2.1, C.2.2.2.2.1 _ hI.1⟩ hp rfl (by simp) hl.1 hst9 (lv_room (by rw [zcats hcat2]; exact hst)) hd hfit
  · exact va_runIN (host := host) ⟨C.1, C.2.1, C.2.2.1, C.2.2.2.1, C.2.2.2.2.1⟩ hM ⟨va_cnB (R := R) As.length C.2.2.2.2.1 (zgoodIn ok) hw rfl rfl (hSt.2.2.2.2.2.2.1 _ hL) (C.2.2.2.2.1 _ ok.2.2.1) ⟨ok.2.2.2.1, ok.2.2.2.2, hpar⟩ ⟨Nat.le_trans hR.1 hRf, Nat.le_trans hR.2 hRl⟩, hI.2.1, C.2.2.2.2.1 _ hI.1⟩ hp rfl (by simp) hl.1 hst9 (lv_room (by rw [zcats hcat2]; exact hst)) hd hfit
end ZInv
