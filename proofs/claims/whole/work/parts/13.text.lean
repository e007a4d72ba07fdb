/-! rules of zw: texts -/
section ZText
variable {nX n nY : Nat} {M N : zMI} {pc : Nat} {ls : List (Option Value)} {st st0 As : List Value} {h : zHp} {Q : Option Value → zHp → Prop}
theorem zSta.texts {X : zCx} {s : State} (hSt : zSta X h s) : ∃ adK adV : Nat → Nat, (∀ i, i < 13 → zcv X (.ref (1010 + i)) = .ref (adK i) ∧ zcv X (.ref (1030 + i)) = .ref (adV i)) ∧ vk_S 13 zSlen zSbyt adK adV (zA X) s s.heap := by
  obtain ⟨-, -, -, -, ⟨adK, adV, e1, e2, -⟩, -⟩ := hSt
  refine ⟨adK, adV, fun i hi => ⟨?_, ?_⟩, e2⟩
  · show va_rf (zadr X (1010 + i)) = _
    unfold zadr
    rw [if_neg (by omega), (e1 i hi).1]
    rfl
  · show va_rf (zadr X (1030 + i)) = _
    unfold zadr
    rw [if_neg (by omega), (e1 i hi).2]
    rfl
theorem z_strV {idx i : Nat} (hd : decode M.2.1 pc = .ok (.getfield idx, 3)) (hL : Cond.fieldLink M.1.cls idx "java/lang/String" "value" "[B" ∈ zT) (hi : i < 13) (K : zw nX n M (pc + 3) ls (.ref (1030 + i) :: st) h Q) : zw nX n M pc ls (.ref (1010 + i) :: st) h Q := by
  intro X p l e R s m args below meth cd Z nE C hZ H locs a h1 h2 hP hSt hS hl
  obtain ⟨adK, adV, g1, g2⟩ := hSt.texts
  have hk := K X p l e R s m args below meth cd Z nE C hZ H locs a h1 h2 hP hSt hS hl
  rw [List.map_cons, (g1 i hi).2] at hk
  rw [List.map_cons, (g1 i hi).1]
  exact vk_getf C.1 C.2.1 (g2.1 i hi).2.2.1 hS C.2.2.2.1 (C.2.2.2.2.1 _ hL) (fun _ h9 => h9) hd hk
theorem z_strC {idx i : Nat} (hd : decode M.2.1 pc = .ok (.getfield idx, 3)) (hL : Cond.fieldLink M.1.cls idx "java/lang/String" "coder" "B" ∈ zT) (hi : i < 13) (K : zw nX n M (pc + 3) ls (.int 0 :: st) h Q) : zw nX n M pc ls (.ref (1010 + i) :: st) h Q := by
  intro X p l e R s m args below meth cd Z nE C hZ H locs a h1 h2 hP hSt hS hl
  obtain ⟨adK, adV, g1, g2⟩ := hSt.texts
  have hk := K X p l e R s m args below meth cd Z nE C hZ H locs a h1 h2 hP hSt hS hl
  rw [List.map_cons, (g1 i hi).1]
  exact vk_getf C.1 C.2.1 (g2.1 i hi).2.1 hS C.2.2.2.1 (C.2.2.2.2.1 _ hL) (fun _ h9 => h9) hd hk
theorem z_strLen {i : Nat} (hd : decode M.2.1 pc = .ok (.arraylength, 1)) (hi : i < 13) (K : zw nX n M (pc + 1) ls (.int (nI (zSlen.getD i 0)) :: st) h Q) : zw nX n M pc ls (.ref (1030 + i) :: st) h Q := by
  intro X p l e R s m args below meth cd Z nE C hZ H locs a h1 h2 hP hSt hS hl
  obtain ⟨adK, adV, g1, g2⟩ := hSt.texts
  have hk := K X p l e R s m args below meth cd Z nE C hZ H locs a h1 h2 hP hSt hS hl
  rw [List.map_cons, (g1 i hi).2]
  exact va_tlen C.1 C.2.1 (g2.1 i hi).2.2.2 hS rfl hd hk
theorem z_strB {i j : Nat} {x : Int32} (hd : decode M.2.1 pc = .ok (.baload, 1)) (hi : i < 13) (hin : vp_in x (zSlen.getD i 0)) (hj : x.toNatClampNeg = j) (K : zw nX n M (pc + 1) ls (.int ((zSbyt.getD i []).getD j 0) :: st) h Q) : zw nX n M pc ls (.int x :: .ref (1030 + i) :: st) h Q := by
  intro X p l e R s m args below meth cd Z nE C hZ H locs a h1 h2 hP hSt hS hl
  obtain ⟨adK, adV, g1, g2⟩ := hSt.texts
  have hk := K X p l e R s m args below meth cd Z nE C hZ H locs a h1 h2 hP hSt hS hl
  rw [List.map_cons, List.map_cons, (g1 i hi).2]
  exact va_tb C.1 C.2.1 (g2.1 i hi).2.2.2 hS hin (by rw [hj]; rfl) hd hk
theorem z_gsC {idx : Nat} (hd : decode M.2.1 pc = .ok (.getstatic idx, 3)) (hL : Cond.fieldLink M.1.cls idx "java/lang/String" "COMPACT_STRINGS" "Z" ∈ zT) (K : zw nX n M (pc + 3) ls (.int 1 :: st) h Q) : zw nX n M pc ls st h Q := by
  intro X p l e R s m args below meth cd Z nE C hZ H locs a h1 h2 hP hSt hS hl
  have hk := K X p l e R s m args below meth cd Z nE C hZ H locs a h1 h2 hP hSt hS hl
  exact va_gets C.1 C.2.1 hSt.2.2.2.1 hS C.2.2.2.1 (C.2.2.2.2.1 _ hL) (fun _ h9 => h9) hd hk
theorem z_gsF {idx : Nat} (hd : decode M.2.1 pc = .ok (.getstatic idx, 3)) (hL : Cond.fieldLink M.1.cls idx "jdk/internal/util/Preconditions" "SIOOBE_FORMATTER" "Ljava/util/function/BiFunction;" ∈ zT) (K : zw nX n M (pc + 3) ls (.ref 1002 :: st) h Q) : zw nX n M pc ls st h Q := by
  intro X p l e R s m args below meth cd Z nE C hZ H locs a h1 h2 hP hSt hS hl
  have hk := K X p l e R s m args below meth cd Z nE C hZ H locs a h1 h2 hP hSt hS hl
  have e9 : zcv X (.ref 1002) = va_rf (X.2.1 1002) := by show va_rf (zadr X 1002) = _; unfold zadr; rw [if_neg (by decide)]
  rw [List.map_cons, e9] at hk
  exact va_gets C.1 C.2.1 hSt.2.2.1 hS C.2.2.2.1 (C.2.2.2.2.1 _ hL) (fun _ h9 => h9) hd hk
theorem z_invVS {idx i : Nat} (hd : decode M.2.1 pc = .ok (.invokevirtual idx, 3)) (ok : zOk N) (hL : Cond.methodLink M.1.cls idx N.1 ∈ zT) (hI : Cond.instanceMethod N.1 ∈ zT ∧ Cond.selects N.1.cls N.1 N.1 ∈ zT) (hpar : zPar N As.length) (hR : zRm M N) (hi : i < 13) (hcl : N.1.cls = "java/lang/String") (hcat : ∀ v ∈ As, v.category = 1) (hcat2 : ∀ v ∈ st, v.category = 1) (hst : st.length ≤ 8) (hY : n ≤ nX) (hlen : As.length + 1 ≤ N.2.2.1) (hst0 : st0 = As.reverse ++ .ref (1010 + i) :: st) (K : zcall n n N (.ref (1010 + i) :: As) h (fun r h' => zw nX n M (pc + 3) ls (r.toList ++ st) h' Q)) : zw nX n M pc ls st0 h Q := by
  intro X p l e R s m args below meth cd Z nE C hZ H locs a h1 h2 hP hSt hS hl
  intro T hT Y
  have hsz := zsize C.2.2.2.2.2.2.1 h1 hP hS hT Y
  obtain ⟨adK, adV, g1, g2⟩ := hSt.texts
  have hM := zMet ok (Nat.le_refl n) (zcat_cons hcat) (by simpa using hlen) K l X
  obtain ⟨hRf, hRl⟩ := C.2.2.2.2.2.2.2.2.1
  have hp : PreV s H N.1.cls (adK i) (zPc X (.ref (1010 + i) :: As) h n) (As.map (zcv X)) := by
    refine ⟨zPc_blind, ?_, fun U hU hW => ⟨by rw [List.map_cons, (g1 i hi).1], by rw [hU]; exact hsz, by rw [hU]; exact hP, va_K.moved hW.alike C.2.2.2.2.2.2.2.1, hSt.move hS hU hW⟩⟩
    rw [hcl]
    exact vk_recv g2 hi hS
  have hst9 : st0.map (zcv X) = (As.map (zcv X)).reverse ++ .ref (adK i) :: st.map (zcv X) := by
    rw [hst0, List.map_append, List.map_reverse, List.map_cons, (g1 i hi).1]
  have hfit : n - nE + (n - n) ≤ R.cells ∧ zsl n - zsl nE + (zsl n - zsl n) ≤ R.slots := by
    have z1 := zsl_mono h1
    have z3 := zsl_mono h2
    have := C.2.2.2.2.2.2.2.2.2
    omega
  suffices key : W p l e R s m args below meth cd H locs (n - nE) (zsl n - zsl nE) Z (F0 m pc a (st0.map (zcv X))) from key T hT Y
  refine zbehind (st := st) C hZ h1 (Nat.le_refl n) h2 hS hl (zsl_mono h1) (Nat.le_refl _) ?_ hSt (N := N) (av := (Value.ref (adK i) :: As.map (zcv X)).toArray)
  exact va_runV (C := N.1.cls) ⟨C.1, C.2.1, C.2.2.1, C.2.2.2.1, C.2.2.2.2.1⟩ hM ⟨callB_of (R := R) As.length C.2.2.2.2.1 (zgoodIn ok) rfl rfl rfl (C.2.2.2.2.1 _ ok.2.2.1) (C.2.2.2.2.1 _ hL) ⟨ok.2.2.2.1, ok.2.2.2.2, hpar⟩ ⟨Nat.le_trans hR.1 hRf, Nat.le_trans hR.2 hRl⟩, C.2.2.2.2.1 _ hI.1, C.2.2.2.2.1 _ hI.2⟩ hp rfl (by simp) hl.1 hst9 (lv_room (by rw [zcats hcat2]; exact hst)) hd hfit
end ZText
