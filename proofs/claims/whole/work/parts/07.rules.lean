section ZRules
variable {nX n : Nat} {M : zMI} {pc : Nat} {ls : List (Option Value)} {st : List Value} {h : zHp} {Q : Option Value → zHp → Prop}
theorem z_iconst {k : Int} {v : Int32} (hd : decode M.2.1 pc = .ok (.iconst k, 1)) (hv : Int32.ofInt k = v) (K : zw nX n M (pc + 1) ls (.int v :: st) h Q) : zw nX n M pc ls st h Q := by
  intro X p l e R s m args below meth c Z nE C hZ H locs a h1 h2 hP hSt hS hl
  exact lv_iconst C.1 C.2.1 hd hv (K X p l e R s m args below meth c Z nE C hZ H locs a h1 h2 hP hSt hS hl)
theorem z_bipush {k : Int} {v : Int32} (hd : decode M.2.1 pc = .ok (.bipush k, 2)) (hv : (Int8.ofInt k).toInt32 = v) (K : zw nX n M (pc + 2) ls (.int v :: st) h Q) : zw nX n M pc ls st h Q := by
  intro X p l e R s m args below meth c Z nE C hZ H locs a h1 h2 hP hSt hS hl
  exact lv_bipush C.1 C.2.1 hd hv (K X p l e R s m args below meth c Z nE C hZ H locs a h1 h2 hP hSt hS hl)
theorem z_sipush {k : Int} {v : Int32} (hd : decode M.2.1 pc = .ok (.sipush k, 3)) (hv : (Int16.ofInt k).toInt32 = v) (K : zw nX n M (pc + 3) ls (.int v :: st) h Q) : zw nX n M pc ls st h Q := by
  intro X p l e R s m args below meth c Z nE C hZ H locs a h1 h2 hP hSt hS hl
  exact lv_sipush C.1 C.2.1 hd hv (K X p l e R s m args below meth c Z nE C hZ H locs a h1 h2 hP hSt hS hl)
theorem z_iload_n {k : Fin 4} {i : Nat} {x : Int32} (hd : decode M.2.1 pc = .ok (.iload_n k, 1)) (hi : (k : Nat) = i) (hx : ls[i]? = some (some (.int x))) (K : zw nX n M (pc + 1) ls (.int x :: st) h Q) : zw nX n M pc ls st h Q := by
  intro X p l e R s m args below meth c Z nE C hZ H locs a h1 h2 hP hSt hS hl
  exact lv_iload_n C.1 C.2.1 hd hi (hl.2.2 i _ hx).1 (K X p l e R s m args below meth c Z nE C hZ H locs a h1 h2 hP hSt hS hl)
theorem z_iload {i : Nat} {x : Int32} (hd : decode M.2.1 pc = .ok (.iload i, 2)) (hx : ls[i]? = some (some (.int x))) (K : zw nX n M (pc + 2) ls (.int x :: st) h Q) : zw nX n M pc ls st h Q := by
  intro X p l e R s m args below meth c Z nE C hZ H locs a h1 h2 hP hSt hS hl
  exact lv_iload C.1 C.2.1 hd (hl.2.2 i _ hx).1 (K X p l e R s m args below meth c Z nE C hZ H locs a h1 h2 hP hSt hS hl)
theorem z_aload_n {k : Fin 4} {i : Nat} {x : Nat} (hd : decode M.2.1 pc = .ok (.aload_n k, 1)) (hi : (k : Nat) = i) (hx : ls[i]? = some (some (.ref x))) (K : zw nX n M (pc + 1) ls (.ref x :: st) h Q) : zw nX n M pc ls st h Q := by
  intro X p l e R s m args below meth c Z nE C hZ H locs a h1 h2 hP hSt hS hl
  have hk := K X p l e R s m args below meth c Z nE C hZ H locs a h1 h2 hP hSt hS hl
  have hv := (hl.2.2 i _ hx).1
  have e9 : zcv X (.ref x) = va_rf (zadr X x) := rfl
  change W p l e R s m args below meth c H locs _ _ Z (F0 m (pc + 1) a (zcv X (.ref x) :: st.map (zcv X))) at hk
  rw [e9] at hv hk
  cases q : zadr X x with
  | none => rw [q] at hv hk; exact lv_aload_nN C.1 C.2.1 hd hi hv hk
  | some b => rw [q] at hv hk; exact lv_aload_n C.1 C.2.1 hd hi hv hk
theorem z_aload {i : Nat} {x : Nat} (hd : decode M.2.1 pc = .ok (.aload i, 2)) (hx : ls[i]? = some (some (.ref x))) (K : zw nX n M (pc + 2) ls (.ref x :: st) h Q) : zw nX n M pc ls st h Q := by
  intro X p l e R s m args below meth c Z nE C hZ H locs a h1 h2 hP hSt hS hl
  have hk := K X p l e R s m args below meth c Z nE C hZ H locs a h1 h2 hP hSt hS hl
  have hv := (hl.2.2 i _ hx).1
  have e9 : zcv X (.ref x) = va_rf (zadr X x) := rfl
  change W p l e R s m args below meth c H locs _ _ Z (F0 m (pc + 2) a (zcv X (.ref x) :: st.map (zcv X))) at hk
  rw [e9] at hv hk
  cases q : zadr X x with
  | none => rw [q] at hv hk; exact lv_aloadN C.1 C.2.1 hd hv hk
  | some b => rw [q] at hv hk; exact lv_aload C.1 C.2.1 hd hv hk
theorem z_istore_n {k : Fin 4} {i : Nat} {x : Int32} {ls' : List (Option Value)} (hd : decode M.2.1 pc = .ok (.istore_n k, 1)) (hi : (k : Nat) = i) (hi2 : i < M.2.2.1) (hs : ls.set i (some (.int x)) = ls') (K : zw nX n M (pc + 1) ls' st h Q) : zw nX n M pc ls (.int x :: st) h Q := by
  intro X p l e R s m args below meth c Z nE C hZ H locs a h1 h2 hP hSt hS hl
  subst hi
  obtain ⟨a', e', h'⟩ := zlv.set (v := .int x) hl hi2 rfl
  rw [hs] at h'
  have hk := K X p l e R s m args below meth c Z nE C hZ H locs a' h1 h2 hP hSt hS h'
  intro T hT Y
  obtain ⟨t, q1, q2⟩ := hk T hT Y
  refine ⟨t, ?_, q2⟩
  change storeLocals a _ (Value.int x) = some a' at e'
  show Steps p.tables e below (T.setTop (F0 m pc a (Value.int x :: st.map (zcv X)))) t
  jvm_step Y.here [Y.here.top, ↓top_set Y.here.top, C.1, C.2.1, hd, e']
  exact q1
theorem z_istore  {i : Nat} {x : Int32} {ls' : List (Option Value)} (hd : decode M.2.1 pc = .ok (.istore i, 2)) (hi2 : i < M.2.2.1) (hs : ls.set i (some (.int x)) = ls') (K : zw nX n M (pc + 2) ls' st h Q) : zw nX n M pc ls (.int x :: st) h Q := by
  intro X p l e R s m args below meth c Z nE C hZ H locs a h1 h2 hP hSt hS hl
  obtain ⟨a', e', h'⟩ := zlv.set (v := .int x) hl hi2 rfl
  rw [hs] at h'
  have hk := K X p l e R s m args below meth c Z nE C hZ H locs a' h1 h2 hP hSt hS h'
  intro T hT Y
  obtain ⟨t, q1, q2⟩ := hk T hT Y
  refine ⟨t, ?_, q2⟩
  change storeLocals a _ (Value.int x) = some a' at e'
  show Steps p.tables e below (T.setTop (F0 m pc a (Value.int x :: st.map (zcv X)))) t
  jvm_step Y.here [Y.here.top, ↓top_set Y.here.top, C.1, C.2.1, hd, e']
  exact q1
theorem z_astore_n {k : Fin 4} {i : Nat} {x : Nat} {ls' : List (Option Value)} (hd : decode M.2.1 pc = .ok (.astore_n k, 1)) (hi : (k : Nat) = i) (hi2 : i < M.2.2.1) (hs : ls.set i (some (.ref x)) = ls') (K : zw nX n M (pc + 1) ls' st h Q) : zw nX n M pc ls (.ref x :: st) h Q := by
  intro X p l e R s m args below meth c Z nE C hZ H locs a h1 h2 hP hSt hS hl
  subst hi
  obtain ⟨a', e', h'⟩ := zlv.set (v := .ref x) hl hi2 (zrf_cat _)
  rw [hs] at h'
  have hk := K X p l e R s m args below meth c Z nE C hZ H locs a' h1 h2 hP hSt hS h'
  intro T hT Y
  obtain ⟨t, q1, q2⟩ := hk T hT Y
  refine ⟨t, ?_, q2⟩
  have e9 : zcv X (.ref x) = va_rf (zadr X x) := rfl
  change Steps p.tables e below (T.setTop (F0 m pc a (zcv X (.ref x) :: st.map (zcv X)))) t
  rw [e9] at e' ⊢
  cases q : zadr X x with
  | none => rw [q] at e'; change storeLocals a _ Value.null = some a' at e'; show Steps p.tables e below (T.setTop (F0 m pc a (Value.null :: st.map (zcv X)))) t; jvm_step Y.here [Y.here.top, ↓top_set Y.here.top, C.1, C.2.1, hd, e', Value.isRef]; exact q1
  | some b => rw [q] at e'; change storeLocals a _ (Value.ref b) = some a' at e'; show Steps p.tables e below (T.setTop (F0 m pc a (Value.ref b :: st.map (zcv X)))) t; jvm_step Y.here [Y.here.top, ↓top_set Y.here.top, C.1, C.2.1, hd, e', Value.isRef]; exact q1
theorem z_astore  {i : Nat} {x : Nat} {ls' : List (Option Value)} (hd : decode M.2.1 pc = .ok (.astore i, 2)) (hi2 : i < M.2.2.1) (hs : ls.set i (some (.ref x)) = ls') (K : zw nX n M (pc + 2) ls' st h Q) : zw nX n M pc ls (.ref x :: st) h Q := by
  intro X p l e R s m args below meth c Z nE C hZ H locs a h1 h2 hP hSt hS hl
  obtain ⟨a', e', h'⟩ := zlv.set (v := .ref x) hl hi2 (zrf_cat _)
  rw [hs] at h'
  have hk := K X p l e R s m args below meth c Z nE C hZ H locs a' h1 h2 hP hSt hS h'
  intro T hT Y
  obtain ⟨t, q1, q2⟩ := hk T hT Y
  refine ⟨t, ?_, q2⟩
  have e9 : zcv X (.ref x) = va_rf (zadr X x) := rfl
  change Steps p.tables e below (T.setTop (F0 m pc a (zcv X (.ref x) :: st.map (zcv X)))) t
  rw [e9] at e' ⊢
  cases q : zadr X x with
  | none => rw [q] at e'; change storeLocals a _ Value.null = some a' at e'; show Steps p.tables e below (T.setTop (F0 m pc a (Value.null :: st.map (zcv X)))) t; jvm_step Y.here [Y.here.top, ↓top_set Y.here.top, C.1, C.2.1, hd, e', Value.isRef]; exact q1
  | some b => rw [q] at e'; change storeLocals a _ (Value.ref b) = some a' at e'; show Steps p.tables e below (T.setTop (F0 m pc a (Value.ref b :: st.map (zcv X)))) t; jvm_step Y.here [Y.here.top, ↓top_set Y.here.top, C.1, C.2.1, hd, e', Value.isRef]; exact q1
theorem z_iinc {i : Nat} {k : Int} {x v : Int32} {ls' : List (Option Value)} (hd : decode M.2.1 pc = .ok (.iinc i k, 3)) (hi2 : i < M.2.2.1) (hx : ls[i]? = some (some (.int x))) (hv : x + Int32.ofInt k = v) (hs : ls.set i (some (.int v)) = ls') (K : zw nX n M (pc + 3) ls' st h Q) : zw nX n M pc ls st h Q := by
  intro X p l e R s m args below meth c Z nE C hZ H locs a h1 h2 hP hSt hS hl
  subst hv
  have hg := (hl.2.2 i _ hx).1
  change a[i]? = some (.val (.int x)) at hg
  obtain ⟨a', e', h'⟩ := zlv.set (v := .int (x + Int32.ofInt k)) hl hi2 rfl
  rw [hs] at h'
  have hk := K X p l e R s m args below meth c Z nE C hZ H locs a' h1 h2 hP hSt hS h'
  intro T hT Y
  obtain ⟨t, q1, q2⟩ := hk T hT Y
  refine ⟨t, ?_, q2⟩
  change storeLocals a _ (Value.int (x + Int32.ofInt k)) = some a' at e'
  jvm_step Y.here [Y.here.top, ↓top_set Y.here.top, C.1, C.2.1, hd, hg, e']
  exact q1
theorem z_iadd {x y : Int32} (hd : decode M.2.1 pc = .ok (.iadd, 1)) (K : zw nX n M (pc + 1) ls (.int (x + y) :: st) h Q) : zw nX n M pc ls (.int y :: .int x :: st) h Q := by
  intro X p l e R s m args below meth c Z nE C hZ H locs a h1 h2 hP hSt hS hl
  exact lv_iadd C.1 C.2.1 hd (K X p l e R s m args below meth c Z nE C hZ H locs a h1 h2 hP hSt hS hl)
theorem z_isub {x y : Int32} (hd : decode M.2.1 pc = .ok (.isub, 1)) (K : zw nX n M (pc + 1) ls (.int (x - y) :: st) h Q) : zw nX n M pc ls (.int y :: .int x :: st) h Q := by
  intro X p l e R s m args below meth c Z nE C hZ H locs a h1 h2 hP hSt hS hl
  exact lv_isub C.1 C.2.1 hd (K X p l e R s m args below meth c Z nE C hZ H locs a h1 h2 hP hSt hS hl)
theorem z_imul {x y : Int32} (hd : decode M.2.1 pc = .ok (.imul, 1)) (K : zw nX n M (pc + 1) ls (.int (x * y) :: st) h Q) : zw nX n M pc ls (.int y :: .int x :: st) h Q := by
  intro X p l e R s m args below meth c Z nE C hZ H locs a h1 h2 hP hSt hS hl
  exact lv_imul C.1 C.2.1 hd (K X p l e R s m args below meth c Z nE C hZ H locs a h1 h2 hP hSt hS hl)
theorem z_iand {x y : Int32} (hd : decode M.2.1 pc = .ok (.iand, 1)) (K : zw nX n M (pc + 1) ls (.int (x &&& y) :: st) h Q) : zw nX n M pc ls (.int y :: .int x :: st) h Q := by
  intro X p l e R s m args below meth c Z nE C hZ H locs a h1 h2 hP hSt hS hl
  exact lv_iand C.1 C.2.1 hd (K X p l e R s m args below meth c Z nE C hZ H locs a h1 h2 hP hSt hS hl)
theorem z_ior {x y : Int32} (hd : decode M.2.1 pc = .ok (.ior, 1)) (K : zw nX n M (pc + 1) ls (.int (x ||| y) :: st) h Q) : zw nX n M pc ls (.int y :: .int x :: st) h Q := by
  intro X p l e R s m args below meth c Z nE C hZ H locs a h1 h2 hP hSt hS hl
  exact lv_ior C.1 C.2.1 hd (K X p l e R s m args below meth c Z nE C hZ H locs a h1 h2 hP hSt hS hl)
theorem z_ixor {x y : Int32} (hd : decode M.2.1 pc = .ok (.ixor, 1)) (K : zw nX n M (pc + 1) ls (.int (x ^^^ y) :: st) h Q) : zw nX n M pc ls (.int y :: .int x :: st) h Q := by
  intro X p l e R s m args below meth c Z nE C hZ H locs a h1 h2 hP hSt hS hl
  exact lv_ixor C.1 C.2.1 hd (K X p l e R s m args below meth c Z nE C hZ H locs a h1 h2 hP hSt hS hl)
theorem z_ishl {x y : Int32} (hd : decode M.2.1 pc = .ok (.ishl, 1)) (K : zw nX n M (pc + 1) ls (.int (x <<< (y &&& 31)) :: st) h Q) : zw nX n M pc ls (.int y :: .int x :: st) h Q := by
  intro X p l e R s m args below meth c Z nE C hZ H locs a h1 h2 hP hSt hS hl
  exact lv_ishl C.1 C.2.1 hd (K X p l e R s m args below meth c Z nE C hZ H locs a h1 h2 hP hSt hS hl)
theorem z_ishr {x y : Int32} (hd : decode M.2.1 pc = .ok (.ishr, 1)) (K : zw nX n M (pc + 1) ls (.int (x >>> (y &&& 31)) :: st) h Q) : zw nX n M pc ls (.int y :: .int x :: st) h Q := by
  intro X p l e R s m args below meth c Z nE C hZ H locs a h1 h2 hP hSt hS hl
  exact lv_ishr C.1 C.2.1 hd (K X p l e R s m args below meth c Z nE C hZ H locs a h1 h2 hP hSt hS hl)
theorem z_idiv {x y : Int32} (hd : decode M.2.1 pc = .ok (.idiv, 1)) (hy : ¬ y = 0) (K : zw nX n M (pc + 1) ls (.int (x / y) :: st) h Q) : zw nX n M pc ls (.int y :: .int x :: st) h Q := by
  intro X p l e R s m args below meth c Z nE C hZ H locs a h1 h2 hP hSt hS hl
  exact lv_idiv C.1 C.2.1 hd hy (K X p l e R s m args below meth c Z nE C hZ H locs a h1 h2 hP hSt hS hl)
theorem z_irem {x y : Int32} (hd : decode M.2.1 pc = .ok (.irem, 1)) (hy : ¬ y = 0) (K : zw nX n M (pc + 1) ls (.int (x - x / y * y) :: st) h Q) : zw nX n M pc ls (.int y :: .int x :: st) h Q := by
  intro X p l e R s m args below meth c Z nE C hZ H locs a h1 h2 hP hSt hS hl
  exact lv_irem C.1 C.2.1 hd hy (K X p l e R s m args below meth c Z nE C hZ H locs a h1 h2 hP hSt hS hl)
theorem z_ineg {x : Int32} (hd : decode M.2.1 pc = .ok (.ineg, 1)) (K : zw nX n M (pc + 1) ls (.int (-x) :: st) h Q) : zw nX n M pc ls (.int x :: st) h Q := by
  intro X p l e R s m args below meth c Z nE C hZ H locs a h1 h2 hP hSt hS hl
  exact lv_ineg C.1 C.2.1 hd (K X p l e R s m args below meth c Z nE C hZ H locs a h1 h2 hP hSt hS hl)
theorem z_iushr {x y : Int32} (hd : decode M.2.1 pc = .ok (.iushr, 1)) (K : zw nX n M (pc + 1) ls (.int ((x.toUInt32 >>> (y.toUInt32 &&& Int32.toUInt32 31)).toInt32) :: st) h Q) : zw nX n M pc ls (.int y :: .int x :: st) h Q := by
  intro X p l e R s m args below meth c Z nE C hZ H locs a h1 h2 hP hSt hS hl
  exact lv_iushr C.1 C.2.1 hd rfl (K X p l e R s m args below meth c Z nE C hZ H locs a h1 h2 hP hSt hS hl)
theorem z_i2b {x : Int32} (hd : decode M.2.1 pc = .ok (.i2b, 1)) (K : zw nX n M (pc + 1) ls (.int (x.toInt8.toInt32) :: st) h Q) : zw nX n M pc ls (.int x :: st) h Q := by
  intro X p l e R s m args below meth c Z nE C hZ H locs a h1 h2 hP hSt hS hl
  exact lv_i2b C.1 C.2.1 hd rfl (K X p l e R s m args below meth c Z nE C hZ H locs a h1 h2 hP hSt hS hl)
theorem z_i2c {x : Int32} (hd : decode M.2.1 pc = .ok (.i2c, 1)) (K : zw nX n M (pc + 1) ls (.int ((x.toUInt32 % 65536).toInt32) :: st) h Q) : zw nX n M pc ls (.int x :: st) h Q := by
  intro X p l e R s m args below meth c Z nE C hZ H locs a h1 h2 hP hSt hS hl
  exact lv_i2c C.1 C.2.1 hd rfl (K X p l e R s m args below meth c Z nE C hZ H locs a h1 h2 hP hSt hS hl)
theorem zcat {X : zCx} {v : Value} (hv : v.category = 1) : (zcv X v).category = 1 := by
  cases v <;> first | exact hv | exact zrf_cat _
theorem z_dup {v : Value} (hd : decode M.2.1 pc = .ok (.dup, 1)) (hv : v.category = 1) (K : zw nX n M (pc + 1) ls (v :: v :: st) h Q) : zw nX n M pc ls (v :: st) h Q := by
  intro X p l e R s m args below meth c Z nE C hZ H locs a h1 h2 hP hSt hS hl
  exact lv_dup C.1 C.2.1 hd (zcat hv) (K X p l e R s m args below meth c Z nE C hZ H locs a h1 h2 hP hSt hS hl)
theorem z_pop {v : Value} (hd : decode M.2.1 pc = .ok (.pop, 1)) (hv : v.category = 1) (K : zw nX n M (pc + 1) ls st h Q) : zw nX n M pc ls (v :: st) h Q := by
  intro X p l e R s m args below meth c Z nE C hZ H locs a h1 h2 hP hSt hS hl
  exact lv_pop C.1 C.2.1 hd (zcat hv) (K X p l e R s m args below meth c Z nE C hZ H locs a h1 h2 hP hSt hS hl)
theorem z_dup2 {v w : Value} (hd : decode M.2.1 pc = .ok (.dup2, 1)) (hv : v.category = 1) (hw : w.category = 1) (K : zw nX n M (pc + 1) ls (v :: w :: v :: w :: st) h Q) : zw nX n M pc ls (v :: w :: st) h Q := by
  intro X p l e R s m args below meth c Z nE C hZ H locs a h1 h2 hP hSt hS hl
  exact lv_dup2_11 C.1 C.2.1 hd (zcat hv) (zcat hw) (K X p l e R s m args below meth c Z nE C hZ H locs a h1 h2 hP hSt hS hl)
theorem z_if_eq {x : Int32} {off : Int} {tgt : Nat} (hd : decode M.2.1 pc = .ok (.ifCond .eq off, 3)) (ht : (pc : Int) + off = (tgt : Int)) (kt : x = 0 → zw nX n M tgt ls st h Q) (kf : ¬ (x = 0) → zw nX n M (pc + 3) ls st h Q) : zw nX n M pc ls (.int x :: st) h Q := by
  intro X p l e R s m args below meth c Z nE C hZ H locs a h1 h2 hP hSt hS hl
  exact lv_if_eq C.1 C.2.1 hd ht (fun q => kt q X p l e R s m args below meth c Z nE C hZ H locs a h1 h2 hP hSt hS hl) (fun q => kf q X p l e R s m args below meth c Z nE C hZ H locs a h1 h2 hP hSt hS hl)
theorem z_icmp_eq {x y : Int32} {off : Int} {tgt : Nat} (hd : decode M.2.1 pc = .ok (.if_icmp .eq off, 3)) (ht : (pc : Int) + off = (tgt : Int)) (kt : x = y → zw nX n M tgt ls st h Q) (kf : ¬ (x = y) → zw nX n M (pc + 3) ls st h Q) : zw nX n M pc ls (.int y :: .int x :: st) h Q := by
  intro X p l e R s m args below meth c Z nE C hZ H locs a h1 h2 hP hSt hS hl
  exact lv_icmp_eq C.1 C.2.1 hd ht (fun q => kt q X p l e R s m args below meth c Z nE C hZ H locs a h1 h2 hP hSt hS hl) (fun q => kf q X p l e R s m args below meth c Z nE C hZ H locs a h1 h2 hP hSt hS hl)
theorem z_if_ne {x : Int32} {off : Int} {tgt : Nat} (hd : decode M.2.1 pc = .ok (.ifCond .ne off, 3)) (ht : (pc : Int) + off = (tgt : Int)) (kt : ¬ x = 0 → zw nX n M tgt ls st h Q) (kf : x = 0 → zw nX n M (pc + 3) ls st h Q) : zw nX n M pc ls (.int x :: st) h Q := by
  intro X p l e R s m args below meth c Z nE C hZ H locs a h1 h2 hP hSt hS hl
  exact lv_if_ne C.1 C.2.1 hd ht (fun q => kt q X p l e R s m args below meth c Z nE C hZ H locs a h1 h2 hP hSt hS hl) (fun q => kf q X p l e R s m args below meth c Z nE C hZ H locs a h1 h2 hP hSt hS hl)
theorem z_icmp_ne {x y : Int32} {off : Int} {tgt : Nat} (hd : decode M.2.1 pc = .ok (.if_icmp .ne off, 3)) (ht : (pc : Int) + off = (tgt : Int)) (kt : ¬ x = y → zw nX n M tgt ls st h Q) (kf : x = y → zw nX n M (pc + 3) ls st h Q) : zw nX n M pc ls (.int y :: .int x :: st) h Q := by
  intro X p l e R s m args below meth c Z nE C hZ H locs a h1 h2 hP hSt hS hl
  exact lv_icmp_ne C.1 C.2.1 hd ht (fun q => kt q X p l e R s m args below meth c Z nE C hZ H locs a h1 h2 hP hSt hS hl) (fun q => kf q X p l e R s m args below meth c Z nE C hZ H locs a h1 h2 hP hSt hS hl)
theorem z_if_lt {x : Int32} {off : Int} {tgt : Nat} (hd : decode M.2.1 pc = .ok (.ifCond .lt off, 3)) (ht : (pc : Int) + off = (tgt : Int)) (kt : x < 0 → zw nX n M tgt ls st h Q) (kf : ¬ (x < 0) → zw nX n M (pc + 3) ls st h Q) : zw nX n M pc ls (.int x :: st) h Q := by
  intro X p l e R s m args below meth c Z nE C hZ H locs a h1 h2 hP hSt hS hl
  exact lv_if_lt C.1 C.2.1 hd ht (fun q => kt q X p l e R s m args below meth c Z nE C hZ H locs a h1 h2 hP hSt hS hl) (fun q => kf q X p l e R s m args below meth c Z nE C hZ H locs a h1 h2 hP hSt hS hl)
theorem z_icmp_lt {x y : Int32} {off : Int} {tgt : Nat} (hd : decode M.2.1 pc = .ok (.if_icmp .lt off, 3)) (ht : (pc : Int) + off = (tgt : Int)) (kt : x < y → zw nX n M tgt ls st h Q) (kf : ¬ (x < y) → zw nX n M (pc + 3) ls st h Q) : zw nX n M pc ls (.int y :: .int x :: st) h Q := by
  intro X p l e R s m args below meth c Z nE C hZ H locs a h1 h2 hP hSt hS hl
  exact lv_icmp_lt C.1 C.2.1 hd ht (fun q => kt q X p l e R s m args below meth c Z nE C hZ H locs a h1 h2 hP hSt hS hl) (fun q => kf q X p l e R s m args below meth c Z nE C hZ H locs a h1 h2 hP hSt hS hl)
theorem z_if_ge {x : Int32} {off : Int} {tgt : Nat} (hd : decode M.2.1 pc = .ok (.ifCond .ge off, 3)) (ht : (pc : Int) + off = (tgt : Int)) (kt : 0 ≤ x → zw nX n M tgt ls st h Q) (kf : ¬ (0 ≤ x) → zw nX n M (pc + 3) ls st h Q) : zw nX n M pc ls (.int x :: st) h Q := by
  intro X p l e R s m args below meth c Z nE C hZ H locs a h1 h2 hP hSt hS hl
  exact lv_if_ge C.1 C.2.1 hd ht (fun q => kt q X p l e R s m args below meth c Z nE C hZ H locs a h1 h2 hP hSt hS hl) (fun q => kf q X p l e R s m args below meth c Z nE C hZ H locs a h1 h2 hP hSt hS hl)
theorem z_icmp_ge {x y : Int32} {off : Int} {tgt : Nat} (hd : decode M.2.1 pc = .ok (.if_icmp .ge off, 3)) (ht : (pc : Int) + off = (tgt : Int)) (kt : y ≤ x → zw nX n M tgt ls st h Q) (kf : ¬ (y ≤ x) → zw nX n M (pc + 3) ls st h Q) : zw nX n M pc ls (.int y :: .int x :: st) h Q := by
  intro X p l e R s m args below meth c Z nE C hZ H locs a h1 h2 hP hSt hS hl
  exact lv_icmp_ge C.1 C.2.1 hd ht (fun q => kt q X p l e R s m args below meth c Z nE C hZ H locs a h1 h2 hP hSt hS hl) (fun q => kf q X p l e R s m args below meth c Z nE C hZ H locs a h1 h2 hP hSt hS hl)
theorem z_if_gt {x : Int32} {off : Int} {tgt : Nat} (hd : decode M.2.1 pc = .ok (.ifCond .gt off, 3)) (ht : (pc : Int) + off = (tgt : Int)) (kt : 0 < x → zw nX n M tgt ls st h Q) (kf : ¬ (0 < x) → zw nX n M (pc + 3) ls st h Q) : zw nX n M pc ls (.int x :: st) h Q := by
  intro X p l e R s m args below meth c Z nE C hZ H locs a h1 h2 hP hSt hS hl
  exact lv_if_gt C.1 C.2.1 hd ht (fun q => kt q X p l e R s m args below meth c Z nE C hZ H locs a h1 h2 hP hSt hS hl) (fun q => kf q X p l e R s m args below meth c Z nE C hZ H locs a h1 h2 hP hSt hS hl)
theorem z_icmp_gt {x y : Int32} {off : Int} {tgt : Nat} (hd : decode M.2.1 pc = .ok (.if_icmp .gt off, 3)) (ht : (pc : Int) + off = (tgt : Int)) (kt : y < x → zw nX n M tgt ls st h Q) (kf : ¬ (y < x) → zw nX n M (pc + 3) ls st h Q) : zw nX n M pc ls (.int y :: .int x :: st) h Q := by
  intro X p l e R s m args below meth c Z nE C hZ H locs a h1 h2 hP hSt hS hl
  exact lv_icmp_gt C.1 C.2.1 hd ht (fun q => kt q X p l e R s m args below meth c Z nE C hZ H locs a h1 h2 hP hSt hS hl) (fun q => kf q X p l e R s m args below meth c Z nE C hZ H locs a h1 h2 hP hSt hS hl)
theorem z_if_le {x : Int32} {off : Int} {tgt : Nat} (hd : decode M.2.1 pc = .ok (.ifCond .le off, 3)) (ht : (pc : Int) + off = (tgt : Int)) (kt : x ≤ 0 → zw nX n M tgt ls st h Q) (kf : ¬ (x ≤ 0) → zw nX n M (pc + 3) ls st h Q) : zw nX n M pc ls (.int x :: st) h Q := by
  intro X p l e R s m args below meth c Z nE C hZ H locs a h1 h2 hP hSt hS hl
  exact lv_if_le C.1 C.2.1 hd ht (fun q => kt q X p l e R s m args below meth c Z nE C hZ H locs a h1 h2 hP hSt hS hl) (fun q => kf q X p l e R s m args below meth c Z nE C hZ H locs a h1 h2 hP hSt hS hl)
theorem z_icmp_le {x y : Int32} {off : Int} {tgt : Nat} (hd : decode M.2.1 pc = .ok (.if_icmp .le off, 3)) (ht : (pc : Int) + off = (tgt : Int)) (kt : x ≤ y → zw nX n M tgt ls st h Q) (kf : ¬ (x ≤ y) → zw nX n M (pc + 3) ls st h Q) : zw nX n M pc ls (.int y :: .int x :: st) h Q := by
  intro X p l e R s m args below meth c Z nE C hZ H locs a h1 h2 hP hSt hS hl
  exact lv_icmp_le C.1 C.2.1 hd ht (fun q => kt q X p l e R s m args below meth c Z nE C hZ H locs a h1 h2 hP hSt hS hl) (fun q => kf q X p l e R s m args below meth c Z nE C hZ H locs a h1 h2 hP hSt hS hl)
theorem z_goto {off : Int} {tgt : Nat} (hd : decode M.2.1 pc = .ok (.goto off, 3)) (ht : (pc : Int) + off = (tgt : Int)) (K : zw nX n M tgt ls st h Q) : zw nX n M pc ls st h Q := by
  intro X p l e R s m args below meth c Z nE C hZ H locs a h1 h2 hP hSt hS hl
  exact lv_goto C.1 C.2.1 hd ht (K X p l e R s m args below meth c Z nE C hZ H locs a h1 h2 hP hSt hS hl)
theorem z_tableIn {dflt lo hi off : Int} {offs : Array Int} {len tgt : Nat} {x : Int32} (hd : decode M.2.1 pc = .ok (.tableswitch dflt lo hi offs, len)) (hx1 : ¬ x.toInt < lo) (hx2 : ¬ hi < x.toInt) (ho : offs[(x.toInt - lo).toNat]? = some off) (ht : (pc : Int) + off = (tgt : Int)) (K : zw nX n M tgt ls st h Q) : zw nX n M pc ls (.int x :: st) h Q := by
  intro X p l e R s m args below meth c Z nE C hZ H locs a h1 h2 hP hSt hS hl
  exact lv_tableIn C.1 C.2.1 hd hx1 hx2 ho ht (K X p l e R s m args below meth c Z nE C hZ H locs a h1 h2 hP hSt hS hl)
theorem z_tableOut {dflt lo hi : Int} {offs : Array Int} {len tgt : Nat} {x : Int32} (hd : decode M.2.1 pc = .ok (.tableswitch dflt lo hi offs, len)) (hx : x.toInt < lo ∨ hi < x.toInt) (ht : (pc : Int) + dflt = (tgt : Int)) (K : zw nX n M tgt ls st h Q) : zw nX n M pc ls (.int x :: st) h Q := by
  intro X p l e R s m args below meth c Z nE C hZ H locs a h1 h2 hP hSt hS hl
  exact lv_tableOut C.1 C.2.1 hd hx ht (K X p l e R s m args below meth c Z nE C hZ H locs a h1 h2 hP hSt hS hl)
theorem z_lookup {dflt off : Int} {ps : Array (Int × Int)} {len tgt : Nat} {x : Int32} (hd : decode M.2.1 pc = .ok (.lookupswitch dflt ps, len)) (hp : (ps.toList.zip (ps.toList.drop 1)).all (fun (a, next) => a.1 < next.1) = true) (ho : Op.lookupswitch.offset ps.toList dflt x.toInt = off) (ht : (pc : Int) + off = (tgt : Int)) (K : zw nX n M tgt ls st h Q) : zw nX n M pc ls (.int x :: st) h Q := by
  intro X p l e R s m args below meth c Z nE C hZ H locs a h1 h2 hP hSt hS hl
  exact lv_lookup C.1 C.2.1 hd hp ho ht (K X p l e R s m args below meth c Z nE C hZ H locs a h1 h2 hP hSt hS hl)
theorem z_sub {ls' : List (Option Value)} (hs : ∀ (i : Nat) (v : Value), ls'[i]? = some (some v) → ls[i]? = some (some v)) (K : zw nX n M pc ls' st h Q) : zw nX n M pc ls st h Q := by
  intro X p l e R s m args below meth c Z nE C hZ H locs a h1 h2 hP hSt hS hl
  exact K X p l e R s m args below meth c Z nE C hZ H locs a h1 h2 hP hSt hS ⟨hl.1, hl.2.1, fun i v hv => hl.2.2 i v (hs i v hv)⟩
theorem z_ireturn {x : Int32} (hd : decode M.2.1 pc = .ok (.ireturn, 1)) (hn : n = nX) (hr : zRet M.2.2.2.1 (some (.int x))) (K : Q (some (.int x)) h) : zw nX n M pc ls [.int x] h Q := by
  intro X p l e R s m args below meth c Z nE C hZ H locs a h1 h2 hP hSt hS hl
  subst hn
  exact hZ (some (.int x)) h H locs a pc K hr hP hSt hS hd
theorem z_return  (hd : decode M.2.1 pc = .ok (.return_, 1)) (hn : n = nX) (hr : zRet M.2.2.2.1 (none)) (K : Q (none) h) : zw nX n M pc ls [] h Q := by
  intro X p l e R s m args below meth c Z nE C hZ H locs a h1 h2 hP hSt hS hl
  subst hn
  exact hZ (none) h H locs a pc K hr hP hSt hS hd
theorem z_areturn {x : Nat} (hd : decode M.2.1 pc = .ok (.areturn, 1)) (hn : n = nX) (hr : zRet M.2.2.2.1 (some (.ref x))) (K : Q (some (.ref x)) h) : zw nX n M pc ls [.ref x] h Q := by
  intro X p l e R s m args below meth c Z nE C hZ H locs a h1 h2 hP hSt hS hl
  subst hn
  exact hZ (some (.ref x)) h H locs a pc K hr hP hSt hS hd
end ZRules
