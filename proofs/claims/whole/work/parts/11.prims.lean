/-! rules of zw: Object's constructor, Math, arraycopy, constants, statics, the script, new cells -/
section ZPrim
variable {nX n : Nat} {M : zMI} {pc : Nat} {ls : List (Option Value)} {st : List Value} {h : zHp} {Q : Option Value → zHp → Prop}
theorem z_obj {idx c : Nat} (hd : decode M.2.1 pc = .ok (.invokespecial idx, 3)) (hL : Cond.methodLink M.1.cls idx Lib.objectInit ∈ zT ∧ Cond.instanceMethod Lib.objectInit ∈ zT ∧ Cond.code Lib.objectInit ⟨#[0xb1]⟩ 1 none ∈ zT) (hc : c < 1000) (hcat2 : ∀ v ∈ st, v.category = 1) (hR : 1 ≤ M.2.2.2.2.1 ∧ st.length + 12 ≤ M.2.2.2.2.2) (K : zw nX n M (pc + 3) ls st h Q) : zw nX n M pc ls (.ref c :: st) h Q := by
  intro X p l e R s m args below meth cd Z nE C hZ H locs a h1 h2 hP hSt hS hl
  obtain ⟨hRf, hRl⟩ := C.2.2.2.2.2.2.2.2.1
  show W p l e R s m args below meth cd H locs _ _ Z (F0 m pc a (zcv X (.ref c) :: st.map (zcv X)))
  rw [zcv_ref hc]
  refine W.objInit C.1 C.2.1 C.2.2.2.1 (C.2.2.2.2.1 _ hL.1) (C.2.2.2.2.1 _ hL.2.1) (C.2.2.2.2.1 _ hL.2.2) rfl (by rw [C.2.2.1]; exact hl.1) rfl hd (Nat.le_trans hR.1 hRf) ?_ (K X p l e R s m args below meth cd Z nE C hZ H locs a h1 h2 hP hSt hS hl)
  rw [zcats hcat2]
  exact Nat.le_trans (by show 2 * 0 + st.length + 12 ≤ _; omega) hRl
theorem z_max {idx : Nat} {x y : Int32} (hd : decode M.2.1 pc = .ok (.invokestatic idx, 3)) (hL : Cond.methodLink M.1.cls idx Lib.Math.max.name ∈ zT ∧ Cond.static Lib.Math.max.name ∈ zT ∧ Cond.initialized "java/lang/Math" ∈ zT ∧ Cond.code Lib.Math.max.name Lib.Math.max.code 2 (some .int) ∈ zT) (hcat2 : ∀ v ∈ st, v.category = 1) (hR : 1 ≤ M.2.2.2.2.1 ∧ st.length + 13 ≤ M.2.2.2.2.2) (K : zw nX n M (pc + 3) ls (.int (if x < y then y else x) :: st) h Q) : zw nX n M pc ls (.int y :: .int x :: st) h Q := by
  intro X p l e R s m args below meth cd Z nE C hZ H locs a h1 h2 hP hSt hS hl
  obtain ⟨hRf, hRl⟩ := C.2.2.2.2.2.2.2.2.1
  have hfit := C.2.2.2.2.2.2.2.2.2
  have z1 := zsl_mono h2
  exact va_mmax C.1 C.2.1 (by rw [C.2.2.1]; exact hl.1.symm) C.2.2.2.1 (C.2.2.2.2.1 _ hL.1) (C.2.2.2.2.1 _ hL.2.1) (C.2.2.2.2.1 _ hL.2.2.1) (C.2.2.2.2.1 _ hL.2.2.2) (Nat.le_trans hR.1 hRf) (by rw [zcats hcat2]; exact Nat.le_trans hR.2 hRl) (by omega) (by omega) hd (K X p l e R s m args below meth cd Z nE C hZ H locs a h1 h2 hP hSt hS hl)
theorem z_min {idx : Nat} {x y : Int32} (hd : decode M.2.1 pc = .ok (.invokestatic idx, 3)) (hL : Cond.methodLink M.1.cls idx Lib.Math.min.name ∈ zT ∧ Cond.static Lib.Math.min.name ∈ zT ∧ Cond.initialized "java/lang/Math" ∈ zT ∧ Cond.code Lib.Math.min.name Lib.Math.min.code 2 (some .int) ∈ zT) (hcat2 : ∀ v ∈ st, v.category = 1) (hR : 1 ≤ M.2.2.2.2.1 ∧ st.length + 13 ≤ M.2.2.2.2.2) (K : zw nX n M (pc + 3) ls (.int (if y < x then y else x) :: st) h Q) : zw nX n M pc ls (.int y :: .int x :: st) h Q := by
  intro X p l e R s m args below meth cd Z nE C hZ H locs a h1 h2 hP hSt hS hl
  obtain ⟨hRf, hRl⟩ := C.2.2.2.2.2.2.2.2.1
  have hfit := C.2.2.2.2.2.2.2.2.2
  have z1 := zsl_mono h2
  exact va_mmin C.1 C.2.1 (by rw [C.2.2.1]; exact hl.1.symm) C.2.2.2.1 (C.2.2.2.2.1 _ hL.1) (C.2.2.2.2.1 _ hL.2.1) (C.2.2.2.2.1 _ hL.2.2.1) (C.2.2.2.2.1 _ hL.2.2.2) (Nat.le_trans hR.1 hRf) (by rw [zcats hcat2]; exact Nat.le_trans hR.2 hRl) (by omega) (by omega) hd (K X p l e R s m args below meth cd Z nE C hZ H locs a h1 h2 hP hSt hS hl)
theorem z_abs {idx : Nat} {x : Int32} (hd : decode M.2.1 pc = .ok (.invokestatic idx, 3)) (hL : Cond.methodLink M.1.cls idx Lib.Math.abs.name ∈ zT ∧ Cond.static Lib.Math.abs.name ∈ zT ∧ Cond.initialized "java/lang/Math" ∈ zT ∧ Cond.code Lib.Math.abs.name Lib.Math.abs.code 1 (some .int) ∈ zT) (hcat2 : ∀ v ∈ st, v.category = 1) (hR : 1 ≤ M.2.2.2.2.1 ∧ st.length + 13 ≤ M.2.2.2.2.2) (K : zw nX n M (pc + 3) ls (.int (if 0 ≤ x then x else 0 - x) :: st) h Q) : zw nX n M pc ls (.int x :: st) h Q := by
  intro X p l e R s m args below meth cd Z nE C hZ H locs a h1 h2 hP hSt hS hl
  obtain ⟨hRf, hRl⟩ := C.2.2.2.2.2.2.2.2.1
  have hfit := C.2.2.2.2.2.2.2.2.2
  have z1 := zsl_mono h2
  exact va_mabs C.1 C.2.1 (by rw [C.2.2.1]; exact hl.1.symm) C.2.2.2.1 (C.2.2.2.2.1 _ hL.1) (C.2.2.2.2.1 _ hL.2.1) (C.2.2.2.2.1 _ hL.2.2.1) (C.2.2.2.2.1 _ hL.2.2.2) (Nat.le_trans hR.1 hRf) (by rw [zcats hcat2]; exact Nat.le_trans hR.2 hRl) (by omega) (by omega) hd (K X p l e R s m args below meth cd Z nE C hZ H locs a h1 h2 hP hSt hS hl)
theorem z_ldc {idx : Nat} {v : Int32} (hd : decode M.2.1 pc = .ok (.ldc idx, 2)) (hL : Cond.constant M.1.cls idx v ∈ zT) (K : zw nX n M (pc + 2) ls (.int v :: st) h Q) : zw nX n M pc ls st h Q := by
  intro X p l e R s m args below meth cd Z nE C hZ H locs a h1 h2 hP hSt hS hl
  exact lv_ldc C.1 C.2.1 C.2.2.2.1 (C.2.2.2.2.1 _ hL) hd (K X p l e R s m args below meth cd Z nE C hZ H locs a h1 h2 hP hSt hS hl)
theorem z_ldcw {idx : Nat} {v : Int32} (hd : decode M.2.1 pc = .ok (.ldc_w idx, 3)) (hL : Cond.constant M.1.cls idx v ∈ zT) (K : zw nX n M (pc + 3) ls (.int v :: st) h Q) : zw nX n M pc ls st h Q := by
  intro X p l e R s m args below meth cd Z nE C hZ H locs a h1 h2 hP hSt hS hl
  exact lv_ldcw C.1 C.2.1 C.2.2.2.1 (C.2.2.2.2.1 _ hL) hd (K X p l e R s m args below meth cd Z nE C hZ H locs a h1 h2 hP hSt hS hl)
/-- a text's reference -/
theorem zSta.str {X : zCx} {s : State} {own tx : String} {idx i : Nat} (hSt : zSta X h s) (hq : (own, idx, tx, i) ∈ zStr) (hi : i < 13) : ∃ q, zcv X (.ref (1010 + i)) = .ref q ∧ vk_R own idx tx q s := by
  obtain ⟨-, -, -, -, ⟨adK, adV, e1, -, e3⟩, -⟩ := hSt
  refine ⟨adK i, ?_, e3 _ hq⟩
  show va_rf (zadr X (1010 + i)) = _
  unfold zadr
  rw [if_neg (by omega), (e1 i hi).1]
  rfl
theorem z_ldcS {idx i : Nat} {tx : String} (hd : decode M.2.1 pc = .ok (.ldc idx, 2)) (hL : (M.1.cls, idx, tx, i) ∈ zStr) (hi : i < 13) (K : zw nX n M (pc + 2) ls (.ref (1010 + i) :: st) h Q) : zw nX n M pc ls st h Q := by
  intro X p l e R s m args below meth cd Z nE C hZ H locs a h1 h2 hP hSt hS hl
  obtain ⟨q, e9, hq⟩ := hSt.str hL hi
  have hk := K X p l e R s m args below meth cd Z nE C hZ H locs a h1 h2 hP hSt hS hl
  rw [List.map_cons, e9] at hk
  exact va_ldcS C.1 C.2.1 C.2.2.2.1 hq hd hk
theorem z_ldcwS {idx i : Nat} {tx : String} (hd : decode M.2.1 pc = .ok (.ldc_w idx, 3)) (hL : (M.1.cls, idx, tx, i) ∈ zStr) (hi : i < 13) (K : zw nX n M (pc + 3) ls (.ref (1010 + i) :: st) h Q) : zw nX n M pc ls st h Q := by
  intro X p l e R s m args below meth cd Z nE C hZ H locs a h1 h2 hP hSt hS hl
  obtain ⟨q, e9, hq⟩ := hSt.str hL hi
  have hk := K X p l e R s m args below meth cd Z nE C hZ H locs a h1 h2 hP hSt hS hl
  rw [List.map_cons, e9] at hk
  intro T hT Y
  obtain ⟨t, a1, b1⟩ := hk T hT Y
  exact ⟨t, ldcStringW Y C.1 C.2.2.2.1 (text := tx) (a := q) hq.1 hq.2 (g := F0 m pc a (st.map (zcv X))) rfl (by rw [C.2.1]; exact hd) t a1, b1⟩
/-- getstatic of LAYER_OF (1000), MOST_X (1001) -/
theorem z_gsN {idx i : Nat} {own nm host : String} (hd : decode M.2.1 pc = .ok (.getstatic idx, 3)) (hL : (own, idx, "LayeredRules", nm, "[I", host) ∈ zNF) (ho : M.1.cls = own) (hi : (nm = "LAYER_OF" ∧ i = 1000) ∨ (nm = "MOST_X" ∧ i = 1001)) (K : zw nX n M (pc + 3) ls (.ref i :: st) h Q) : zw nX n M pc ls st h Q := by
  intro X p l e R s m args below meth cd Z nE C hZ H locs a h1 h2 hP hSt hS hl
  subst ho
  have hN := va_Nw.use (A := args) rfl (hSt.2.2.2.2.2.2.2.1 _ hL)
  have hk := K X p l e R s m args below meth cd Z nE C hZ H locs a h1 h2 hP hSt hS hl
  obtain ⟨⟨t0, a1, a2, -⟩, ⟨t1, b1, b2, -⟩, -⟩ := hSt
  rcases hi with ⟨rfl, rfl⟩ | ⟨rfl, rfl⟩
  · have e9 : zcv X (.ref 1000) = .ref t0 := by show va_rf (zadr X 1000) = _; unfold zadr; rw [if_neg (by decide), a1]; rfl
    rw [List.map_cons, e9] at hk
    exact va_getsN C.1 C.2.1 a2 hS C.2.2.2.1 hN (fun _ h9 => h9) hd hk
  · have e9 : zcv X (.ref 1001) = .ref t1 := by show va_rf (zadr X 1001) = _; unfold zadr; rw [if_neg (by decide), b1]; rfl
    rw [List.map_cons, e9] at hk
    exact va_getsN C.1 C.2.1 b2 hS C.2.2.2.1 hN (fun _ h9 => h9) hd hk
theorem z_gs {idx : Nat} (hd : decode M.2.1 pc = .ok (.getstatic idx, 3)) (hL : Cond.fieldLink M.1.cls idx "LayeredRules" "MOST_X" "[I" ∈ zT) (K : zw nX n M (pc + 3) ls (.ref 1001 :: st) h Q) : zw nX n M pc ls st h Q := by
  intro X p l e R s m args below meth cd Z nE C hZ H locs a h1 h2 hP hSt hS hl
  have hk := K X p l e R s m args below meth cd Z nE C hZ H locs a h1 h2 hP hSt hS hl
  obtain ⟨-, ⟨t1, b1, b2, -⟩, -⟩ := hSt
  have e9 : zcv X (.ref 1001) = .ref t1 := by show va_rf (zadr X 1001) = _; unfold zadr; rw [if_neg (by decide), b1]; rfl
  rw [List.map_cons, e9] at hk
  exact va_gets C.1 C.2.1 b2 hS C.2.2.2.1 (C.2.2.2.2.1 _ hL) (fun _ h9 => h9) hd hk
theorem z_ldLO {i : Int32} {j : Nat} (hd : decode M.2.1 pc = .ok (.iaload, 1)) (hin : vp_in i 6) (hj : i.toNatClampNeg = j) (K : zw nX n M (pc + 1) ls (.int (zLO j) :: st) h Q) : zw nX n M pc ls (.int i :: .ref 1000 :: st) h Q := by
  intro X p l e R s m args below meth cd Z nE C hZ H locs a h1 h2 hP hSt hS hl
  have hk := K X p l e R s m args below meth cd Z nE C hZ H locs a h1 h2 hP hSt hS hl
  obtain ⟨⟨t1, b1, -, b3⟩, -⟩ := hSt
  have e9 : zcv X (.ref 1000) = .ref t1 := by show va_rf (zadr X 1000) = _; unfold zadr; rw [if_neg (by decide), b1]; rfl
  show W p l e R s m args below meth cd H locs _ _ Z (F0 m pc a (.int i :: zcv X (.ref 1000) :: st.map (zcv X)))
  rw [e9]
  exact va_ti C.1 C.2.1 b3 hS hin (by rw [hj]; rfl) hd hk
theorem z_ldMX {i : Int32} {j : Nat} (hd : decode M.2.1 pc = .ok (.iaload, 1)) (hin : vp_in i 6) (hj : i.toNatClampNeg = j) (K : zw nX n M (pc + 1) ls (.int (zMX j) :: st) h Q) : zw nX n M pc ls (.int i :: .ref 1001 :: st) h Q := by
  intro X p l e R s m args below meth cd Z nE C hZ H locs a h1 h2 hP hSt hS hl
  have hk := K X p l e R s m args below meth cd Z nE C hZ H locs a h1 h2 hP hSt hS hl
  obtain ⟨-, ⟨t1, b1, -, b3⟩, -⟩ := hSt
  have e9 : zcv X (.ref 1001) = .ref t1 := by show va_rf (zadr X 1001) = _; unfold zadr; rw [if_neg (by decide), b1]; rfl
  show W p l e R s m args below meth cd H locs _ _ Z (F0 m pc a (.int i :: zcv X (.ref 1001) :: st.map (zcv X)))
  rw [e9]
  exact va_ti C.1 C.2.1 b3 hS hin (by rw [hj]; rfl) hd hk
/-- the script: the place i is below its length L, which stands in 1004 -/
theorem z_ldSc {i : Int32} {j L : Nat} (hd : decode M.2.1 pc = .ok (.iaload, 1)) (hLn : rI h 1004 0 = nI L) (hL : L ≤ 3072) (hj : i = nI j) (hjL : j < L) (K : zw nX n M (pc + 1) ls (.int (rI h 1003 j) :: st) h Q) : zw nX n M pc ls (.int i :: .ref 1003 :: st) h Q := by
  intro X p l e R s m args below meth cd Z nE C hZ H locs a h1 h2 hP hSt hS hl
  have hk := K X p l e R s m args below meth cd Z nE C hZ H locs a h1 h2 hP hSt hS hl
  obtain ⟨-, -, -, -, -, ⟨b, L', f1, f2, f3, f4, f5, f6⟩, -⟩ := hSt
  have eL : L' = L := (nI_eq (by omega) (by omega)).mp (f2.symm.trans hLn)
  subst eL
  have e9 : zcv X (.ref 1003) = .ref b := by show va_rf (zadr X 1003) = _; unfold zadr; rw [if_neg (by decide), f1]; rfl
  show W p l e R s m args below meth cd H locs _ _ Z (F0 m pc a (.int i :: zcv X (.ref 1003) :: st.map (zcv X)))
  rw [e9]
  have ej : i.toNatClampNeg = j := by rw [hj, nI_clamp (by omega)]
  exact va_sld C.1 C.2.1 f4 f5 f6 hS (by rw [hj]; exact vp_in_nI hjL (by omega)) hd (by rw [ej]; exact hk)
theorem z_lenSc (hd : decode M.2.1 pc = .ok (.arraylength, 1)) (K : zw nX n M (pc + 1) ls (.int (rI h 1004 0) :: st) h Q) : zw nX n M pc ls (.ref 1003 :: st) h Q := by
  intro X p l e R s m args below meth cd Z nE C hZ H locs a h1 h2 hP hSt hS hl
  have hk := K X p l e R s m args below meth cd Z nE C hZ H locs a h1 h2 hP hSt hS hl
  obtain ⟨-, -, -, -, -, ⟨b, L', f1, f2, f3, f4, f5, f6⟩, -⟩ := hSt
  have e9 : zcv X (.ref 1003) = .ref b := by show va_rf (zadr X 1003) = _; unfold zadr; rw [if_neg (by decide), f1]; rfl
  show W p l e R s m args below meth cd H locs _ _ Z (F0 m pc a (zcv X (.ref 1003) :: st.map (zcv X)))
  rw [e9]
  change W p l e R s m args below meth cd H locs _ _ Z (F0 m (pc + 1) a (.int (h.1 1004 0) :: st.map (zcv X))) at hk
  rw [f2] at hk
  exact va_slen C.1 C.2.1 f4 f5 f6 hS hd hk
theorem z_copy {idx c d i j k : Nat} {sp dp m' : Int32} (hd : decode M.2.1 pc = .ok (.invokestatic idx, 3)) (hL : Cond.methodLink M.1.cls idx arraycopyName ∈ zT ∧ Cond.native arraycopyName ∈ zT ∧ Cond.static arraycopyName ∈ zT ∧ Cond.initialized "java/lang/System" ∈ zT) (hc : ly c = 21) (hcn : c < n) (hdl : ly d = 21) (hdn : d < n) (hsp : sp = nI i) (hdp : dp = nI j) (hk : m' = nI k) (h4 : i + k ≤ ln c) (h5 : j + k ≤ ln d) (hcat2 : ∀ v ∈ st, v.category = 1) (hR : 1 ≤ M.2.2.2.2.1 ∧ st.length + (nativeFrameWords "java/lang/System" "arraycopy" 5 + 11) ≤ M.2.2.2.2.2) (K : zw nX n M (pc + 3) ls st (wC h c i d j k) Q) : zw nX n M pc ls (.int m' :: .int dp :: .ref d :: .int sp :: .ref c :: st) h Q := by
  intro X p l e R s m args below meth cd Z nE C hZ H locs a h1 h2 hP hSt hS hl
  have hc1 : c < 1000 := Nat.lt_trans (zly_lt (by omega)) (by decide)
  have hd1 : d < 1000 := Nat.lt_trans (zly_lt (by omega)) (by decide)
  have hln : ∀ c, ln c ≤ 1024 := ln_lt
  have l1 := hln c
  have l2 := hln d
  obtain ⟨hRf, hRl⟩ := C.2.2.2.2.2.2.2.2.1
  show W p l e R s m args below meth cd H locs _ _ Z (F0 m pc a (.int m' :: .int dp :: zcv X (.ref d) :: .int sp :: zcv X (.ref c) :: st.map (zcv X)))
  rw [zcv_ref hc1, zcv_ref hd1]
  have e1 : sp.toNatClampNeg = i := by rw [hsp, nI_clamp (by omega)]
  have e2 : dp.toNatClampNeg = j := by rw [hdp, nI_clamp (by omega)]
  have e3 : m'.toNatClampNeg = k := by rw [hk, nI_clamp (by omega)]
  refine va_copyi (ty := .int) (f := h.1 c) (g := h.1 d) (n0 := ln c) (n1 := ln d) (c0 := X.2.2.2.2 21) (c1 := X.2.2.2.2 21) C.1 C.2.1 (by rw [C.2.2.1]; exact hl.1.symm) C.2.2.2.1 (C.2.2.2.2.1 _ hL.1) (C.2.2.2.2.1 _ hL.2.1) (C.2.2.2.2.1 _ hL.2.2.1) (C.2.2.2.2.1 _ hL.2.2.2) C.2.2.2.2.2.2.2.1 hP zwl_D hS c d 1 1 (by rw [zwl_at hcn, zent_int hc]) (by rw [zwl_at hdn, zent_int hdl]) (by rw [ztys_at (by decide)]; rfl) (by rw [ztys_at (by decide)]; rfl) rfl (by rw [hsp]; exact nI_pos (by omega)) (by rw [hdp]; exact nI_pos (by omega)) (by rw [hk]; exact nI_pos (by omega)) (by rw [e1, e3]; exact h4) (by rw [e2, e3]; exact h5) (fun _ _ => rfl) (Nat.le_trans hR.1 hRf) (by rw [zcats hcat2]; exact Nat.le_trans hR.2 hRl) hd (fun H1 locs1 hP1 _ hS1 => ?_)
  rw [e1, e2, e3] at hP1
  rw [zwl_set (h' := wC h c i d j k) hdn (by rw [zent_int hdl]; simp [wC]) (fun b hb => zent_other (wC_ne hb) rfl)] at hP1
  exact K X p l e R s m args below meth cd Z nE C hZ H1 locs1 a h1 h2 hP1 (hSt.to (wC_ne (by omega)) (wC_ne (by omega))) hS1 hl
end ZPrim
