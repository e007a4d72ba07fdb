/-! calls: a method's contract is its judgement at its entry -/
def zEn (M : zMI) (args : List Value) : List (Option Value) := args.map some ++ List.replicate (M.2.2.1 - args.length) none
/-- the call of M with args at cells h, when n cells are made -/
def zcall (nX n : Nat) (M : zMI) (args : List Value) (h : zHp) (Q : Option Value → zHp → Prop) : Prop := zw nX n M 0 (zEn M args) [] h Q
/-- what is known of a method -/
def zOk (M : zMI) : Prop := plainName M.1.cls = true ∧ Cond.code M.1 M.2.1 M.2.2.1 M.2.2.2.1 ∈ zT ∧ Cond.initialized M.1.cls ∈ zT ∧ (M.1.cls ≠ "java/lang/invoke/MethodHandle" ∧ M.1.cls ≠ "java/lang/invoke/VarHandle")
theorem zgood : zT.all goodWord = true := List.all_eq_true.mpr (fun _ hw => (zT_in.mp hw).2)
noncomputable def zws (M : zMI) : List Cond := .code M.1 M.2.1 M.2.2.1 M.2.2.2.1 :: zT
theorem zgoodIn {M : zMI} (h : zOk M) : GoodIn zT (zws M) := by
  intro w hw
  rcases List.mem_cons.mp hw with e | e
  · subst e
    exact ⟨h.2.1, good_of_word (List.all_eq_true.mp zgood _ h.2.1)⟩
  · exact ⟨e, good_of_word (List.all_eq_true.mp zgood _ e)⟩
def zrm (M : zMI) (mc ms : Nat) : Room := { frames := M.2.2.2.2.1, cells := mc, slots := ms, locals := M.2.2.2.2.2 }
def zPc (X : zCx) (args : List Value) (h : zHp) (n : Nat) : Array Value → State → Prop := va_Pc (args.map (zcv X)) (fun U => U.heap.size = X.1 + n ∧ va_P (zD X) vwCl (zwl X h n) U.heap ∧ va_K (zD X) vwCl (ztys X) U ∧ zSta X h U)
def zQc (X : zCx) (nX : Nat) (Q : Option Value → zHp → Prop) : Array Value → State → Outcome → State → Prop := fun _ st oc t => ∃ (r : Option Value) (h' : zHp), oc = .returned (r.map (zcv X)) ∧ Q r h' ∧ va_P (zD X) vwCl (zwl X h' nX) t.heap ∧ zSta X h' st ∧ va_F (zA X) st t
theorem zEn_at {M : zMI} {args : List Value} {i : Nat} {v : Value} (h : (zEn M args)[i]? = some (some v)) : args[i]? = some v := by
  unfold zEn at h
  by_cases hi : i < args.length
  · rw [List.getElem?_append_left (by simpa using hi), List.getElem?_map] at h
    cases e : args[i]? with
    | none => rw [e] at h; cases h
    | some w => rw [e] at h; cases h; rfl
  · rw [List.getElem?_append_right (by simpa using hi), List.getElem?_replicate] at h
    split at h
    · cases h
    · cases h
theorem zargs_sl {vs : List Value} (h : ∀ v ∈ vs, v.category = 1) : (lg_sl vs) = vs.map Slot.val := by
  induction vs with
  | nil => rfl
  | cons v vs ih =>
    have h1 := h v List.mem_cons_self
    have h2 := ih (fun w hw => h w (List.mem_cons_of_mem _ hw))
    unfold lg_sl at h2 ⊢
    rw [List.flatMap_cons, h2, if_neg (by omega)]
    rfl
theorem zargs_at {vs : List Value} (h : ∀ v ∈ vs, v.category = 1) : ∀ (j i : Nat) (v : Value), vs[i]? = some v → (j + i, v) ∈ lv_args j vs := by
  induction vs with
  | nil => intro j i v hv; simp at hv
  | cons w vs ih =>
    intro j i v hv
    have h1 := h w List.mem_cons_self
    unfold lv_args
    cases i with
    | zero =>
      rw [List.getElem?_cons_zero] at hv
      cases hv
      exact List.mem_cons_self
    | succ i =>
      rw [List.getElem?_cons_succ] at hv
      refine List.mem_cons_of_mem _ ?_
      rw [if_neg (by omega)]
      have := ih (fun z hz => h z (List.mem_cons_of_mem _ hz)) (j + 1) i v hv
      rwa [show j + (i + 1) = j + 1 + i by omega]
theorem zMet {nX n : Nat} {M : zMI} {args : List Value} {h : zHp} {Q : Option Value → zHp → Prop} (ok : zOk M) (hn : n ≤ nX) (hcat : ∀ v ∈ args, v.category = 1) (hlen : args.length ≤ M.2.2.1) (K : zcall nX n M args h Q) (l : Launch) (X : zCx) :
    Met l M.1 (zws M) (zrm M (nX - n) (zsl nX - zsl n)) (zPc X args h n) (zQc X nX Q) (nX - n) (zsl nX - zsl n) (zA X) := by
  refine Met.ofW (cc := M.2.1) (maxL := M.2.2.1) (ret := M.2.2.2.1) ok.1 rfl ?_
  intro p e s m args' below meth c s₁ B hml hv
  obtain ⟨rfl, hsz, hP, hK, hSt⟩ := hv
  have hr := B.returns
  have hts := atoms_spec (ws := zws M) B.pre
  have hown : s.vm.findClass M.1.cls = some m.cls := findClass_of_methodNamed B.named
  have hlocks := B.notSynchronized
  have hnm : meth.name = M.1.name := (name_of_methodNamed B.named B.method).1
  have hC : zC X M nX n p (headSpec (zws M) (zrm M (nX - n) (zsl nX - zsl n))).room s m (args.map (zcv X)).toArray meth c :=
    ⟨B.exec, B.bytes, hml, hown, fun w hw => hts w (List.mem_cons_of_mem _ hw), hnm, hsz, hK, ⟨Nat.le_refl _, Nat.le_refl _⟩, Nat.le_refl _, Nat.le_refl _⟩
  have hcat' : ∀ v ∈ args.map (zcv X), v.category = 1 := by
    intro v hv
    obtain ⟨w, hw, rfl⟩ := List.mem_map.mp hv
    exact zcat (hcat w hw)
  have hl := lv_entry (args.map (zcv X)) (n := M.2.2.1) (by rw [zargs_sl hcat']; simpa using hlen)
  rw [lg_entry_eq]
  generalize (lg_sl (args.map (zcv X)) ++ List.replicate (M.2.2.1 - (lg_sl (args.map (zcv X))).length) Slot.unset).toArray = ls at hl ⊢
  have hlv : zlv X ls M.2.2.1 (zEn M args) := by
    refine ⟨hl.1, hl.2.1, fun i v hi => ?_⟩
    have h1 := zEn_at hi
    refine ⟨?_, zcat (hcat v (List.mem_of_getElem? h1))⟩
    have h2 : (args.map (zcv X))[i]? = some (zcv X v) := by rw [List.getElem?_map, h1]; rfl
    have h3 := hl.2.2 _ (zargs_at hcat' 0 i _ h2)
    rwa [Nat.zero_add] at h3
  have hk := K X p l e _ s m (args.map (zcv X)).toArray below meth c (MQ below (zQc X nX Q) (args.map (zcv X)).toArray s (nX - n) (zsl nX - zsl n) (zA X)) n hC ?_ s.heap [] ls (Nat.le_refl _) hn hP hSt va_S.rf hlv
  · rw [Nat.sub_self, Nat.sub_self] at hk
    exact hk
  · intro r h' H' locs' lsA pc' hQ hret hP' hSt' hS' hdec
    cases r with
    | none =>
      have hr' : meth.sig.returnType = none := by
        cases q : M.2.2.2.1 with
        | none => rw [hr, q]
        | some ty => rw [q] at hret; exact absurd hret id
      exact W.vret B.exec B.bytes hr' (fun t ht hW => ⟨none, h', rfl, hQ, by rw [ht]; exact hP', hSt', hS'.F ht⟩) hS'.2.2 hdec
    | some v =>
      cases v with
      | int v =>
        cases q : M.2.2.2.1 with
        | none => rw [q] at hret; exact absurd hret id
        | some ty =>
          rw [q] at hret
          exact W.zret (ty := ty) B.exec B.bytes (hr.trans q) hret.2 (fun t ht hW => ⟨some (.int v), h', rfl, hQ, by rw [ht]; exact hP', hSt', hS'.F ht⟩) hS'.2.2 hdec
      | ref v =>
        cases q : M.2.2.2.1 with
        | none => rw [q] at hret; exact absurd hret id
        | some ty =>
          rw [q] at hret
          have hty : (∃ nm, ty = .object nm) ∨ ∃ t, ty = .array t := by
            change zrf ty = true at hret
            cases ty <;> first | exact Or.inl ⟨_, rfl⟩ | exact Or.inr ⟨_, rfl⟩ | cases hret
          exact W.aret (v := zcv X (.ref v)) (rt := ty) B.exec B.bytes (hr.trans q) hty (by show va_rf (zadr X v) = _ ∨ ∃ a, va_rf (zadr X v) = .ref a; cases zadr X v <;> first | exact Or.inl rfl | exact Or.inr ⟨_, rfl⟩) (fun t ht hW => ⟨some (.ref v), h', rfl, hQ, by rw [ht]; exact hP', hSt', hS'.F ht⟩) hS'.2.2 hdec
      | null => exfalso; revert hret; cases M.2.2.2.1 <;> exact id
      | long v => exfalso; revert hret; cases M.2.2.2.1 <;> exact id
      | float v => exfalso; revert hret; cases M.2.2.2.1 <;> exact id
      | double v => exfalso; revert hret; cases M.2.2.2.1 <;> exact id
      | retAddr v => exfalso; revert hret; cases M.2.2.2.1 <;> exact id
section ZCalls
variable {nX n : Nat} {M : zMI} {pc : Nat} {ls : List (Option Value)} {st : List Value} {h : zHp} {Q : Option Value → zHp → Prop}
theorem zPc_blind {X : zCx} {args : List Value} {h : zHp} {n : Nat} : FrameBlind (zPc X args h n) := by
  intro a U g mk q
  obtain ⟨q0, q1, q2, q3, q4⟩ := q
  obtain ⟨⟨t0, a1, a2, a3⟩, ⟨t1, b1, b2, b3⟩, c1, d1, ⟨adK, adV, e1, e2, e3⟩, ⟨b, L, f1, f2, f3, f4, f5⟩, g1, g2, g3⟩ := q4
  have hv : U.vm.Alike (U.calling g mk a).vm := Vm.Alike.refl U.vm
  exact ⟨q0, q1, q2, va_K.moved (u := U) hv q3, ⟨t0, a1, a2.moved hv, a3.moved hv⟩, ⟨t1, b1, b2.moved hv, b3.moved hv⟩, c1.moved hv, d1.moved hv, ⟨adK, adV, e1, e2.moved hv, fun q hm => (e3 q hm).same rfl⟩, ⟨b, L, f1, f2, f3, f4.moved hv, f5⟩, fun q hm => va_Nw.same rfl rfl (g1 q hm), fun q hm => va_Nw.same rfl rfl (g2 q hm), fun C hm => (g3 C hm).moved hv⟩
theorem zcats {X : zCx} {st : List Value} (h : ∀ v ∈ st, v.category = 1) : ((st.map (zcv X)).map fun v => v.category).sum = st.length := by
  induction st with
  | nil => rfl
  | cons v st ih =>
    have h1 := zcat (X := X) (h v List.mem_cons_self)
    have h2 := ih (fun w hw => h w (List.mem_cons_of_mem _ hw))
    simp only [List.map_cons, List.sum_cons, List.length_cons]
    rw [h1, h2]
    omega
theorem zSta.back {X : zCx} {h h' : zHp} {s U : State} {H : Heap} {locs : List Loc} (hs : zSta X h s) (hu : zSta X h' U) (hS : va_S (zA X) s.heap H locs) (hU : U.heap = H) : zSta X h' s := by
  obtain ⟨a, b, c, d, e, ⟨b0, L, f1, f2, f3, ⟨scr, g1, g2, g3, g4, g5⟩, f5, f6⟩, g9⟩ := hs
  obtain ⟨-, -, -, -, -, ⟨b1, L', k1, k2, k3, ⟨scr', l1, l2, l3, l4, l5⟩, k5, k6⟩, -⟩ := hu
  have hb : b1 = b0 := Option.some.inj (k1.symm.trans f1)
  subst hb
  have hsc : scr' = scr := by
    rw [hU, hS.2.1 b1 f5 f6, g1] at l1
    exact (Option.some.inj l1).symm
  subst hsc
  exact ⟨a, b, c, d, e, ⟨b1, L', f1, k2, k3, ⟨scr', g1, g2, g3, l4, l5⟩, f5, f6⟩, g9⟩
/-- behind a call -/
theorem zbehind {X : zCx} {p : Program} {l : Launch} {e : Env} {R : Room} {s : State} {m : MethodId} {args : Array Value} {below : List Frame} {meth : Method} {c : Code} {Z : State → Prop} {nE nY : Nat} {H : Heap} {locs : List Loc} {a : Array Slot} {st0 : List Value} {N : zMI} {av : Array Value}
    (C : zC X M nX nE p R s m args meth c) (hZ : zHd X M nX nE p l e R s m args below meth c Z Q) (h1 : nE ≤ n) (hY : n ≤ nY) (hYX : nY ≤ nX) (hS : va_S (zA X) s.heap H locs) (hl : zlv X a M.2.2.1 ls) (hsl : zsl nE ≤ zsl n) (hsl2 : zsl n ≤ zsl nY)
    (hr : va_Run p l e R s m args below meth c H locs (n - nE) (zsl n - zsl nE) (nY - n) (zsl nY - zsl n) (F0 m pc a st0) (st.map (zcv X)) (zQc X nY (fun r h' => zw nX nY M (pc + 3) ls (r.toList ++ st) h' Q) av) (zA X))
    (hSt : zSta X h s) : W p l e R s m args below meth c H locs (n - nE) (zsl n - zsl nE) Z (F0 m pc a st0) := by
  intro T hT Y
  obtain ⟨v, st₀, t, T', L, e0, Y', hL, e1, e2, ⟨r, h', ev, hw, hP', hSt', hF⟩, step⟩ := hr T hT Y
  cases ev
  obtain ⟨hz, hk⟩ := hF
  rw [e0] at hz hk
  have hS' : va_S (zA X) s.heap T'.heap (locs ++ L) := by
    refine ⟨Nat.le_trans hS.1 (by rw [e1]; exact hz), fun q q1 q2 => by rw [e1, hk q (Nat.lt_of_lt_of_le q1 hS.1) q2]; exact hS.2.1 q q1 q2, fun q hq => ?_⟩
    rcases List.mem_append.mp hq with z | z
    · exact hS.2.2 q z
    · exact hL q z
  have hk2 := hw X p l e R s m args below meth c Z nE C hZ T'.heap (locs ++ L) a (Nat.le_trans h1 hY) hYX (by rw [e1]; exact hP') (hSt.back hSt' hS e0) hS' hl
  rw [show n - nE + (nY - n) = nY - nE by omega, show zsl n - zsl nE + (zsl nY - zsl n) = zsl nY - zsl nE by omega] at Y'
  obtain ⟨t2, a1, b1⟩ := hk2 T' rfl Y'
  refine ⟨t2, step t2 ?_, b1⟩
  have e9 : (r.toList ++ st).map (zcv X) = (r.map (zcv X)).toList ++ st.map (zcv X) := by cases r <;> rfl
  rw [e9] at a1
  exact a1
end ZCalls
