/-! A method's run over the cells: zw, the judgement; what was there before the run (statics, strings, the script). -/
/-- a method: its name, code, locals, answer; frames and locals that it needs -/
abbrev zMI : Type := MethodName × ByteArray × Nat × Option FieldType × Nat × Nat
def zSlen : List Nat := [3, 5, 4, 4, 7, 5, 2, 5, 5, 4, 4, 5, 1]
def zSbyt : List (List Int32) := [[97, 108, 108], [111, 119, 110, 101, 114], [116, 121, 112, 101], [119, 105, 116, 104], [119, 105, 116, 104, 111, 117, 116], [116, 104, 105, 110, 103], [105, 115], [103, 97, 105, 110, 115], [108, 111, 115, 101, 115], [115, 101, 116, 115], [103, 101, 116, 115], [115, 119, 97, 112, 115], [32]]
def zStr : List (String × Nat × String × Nat) := [("LayeredRules", 383, "all", 0), ("LayeredRules", 385, "owner", 1), ("LayeredRules", 386, "type", 2), ("LayeredRules", 387, "with", 3), ("LayeredRules", 389, "without", 4), ("LayeredRules", 391, "thing", 5), ("LayeredRules", 393, "is", 6), ("LayeredRules", 395, "gains", 7), ("LayeredRules", 397, "loses", 8), ("LayeredRules", 399, "sets", 9), ("LayeredRules", 401, "gets", 10), ("LayeredRules", 403, "swaps", 11), ("LayeredRules", 338, " ", 12), ("LayeredRulesModel", 42, "all", 0), ("LayeredRulesModel", 44, "owner", 1), ("LayeredRulesModel", 46, "type", 2), ("LayeredRulesModel", 48, "with", 3), ("LayeredRulesModel", 50, "without", 4), ("LayeredRulesModel", 52, "thing", 5), ("LayeredRulesModel", 58, "is", 6), ("LayeredRulesModel", 59, "gains", 7), ("LayeredRulesModel", 61, "loses", 8), ("LayeredRulesModel", 63, "sets", 9), ("LayeredRulesModel", 65, "gets", 10), ("LayeredRulesModel", 67, "swaps", 11)]
/-- the words of the tables that every method may ask -/
theorem zT_ex : ∃ l : List Cond, ∀ w, w ∈ l ↔ (w ∈ lw_tbl ∧ goodWord w = true) := ⟨lw_tbl.filter goodWord, fun _ => List.mem_filter⟩
noncomputable def zT : List Cond := Classical.choose zT_ex
theorem zT_in {w : Cond} : w ∈ zT ↔ (w ∈ lw_tbl ∧ goodWord w = true) := Classical.choose_spec zT_ex w
def zNM : List (String × Nat × MethodName × String) := [("LayeredRules", 9, ⟨"LayeredRules$Course", "<init>", "()V"⟩, "LayeredRules"), ("LayeredRules$World", 43, ⟨"LayeredRules$Thing", "<init>", "()V"⟩, "LayeredRules"), ("LayeredRules$World", 44, ⟨"LayeredRules$Effect", "<init>", "()V"⟩, "LayeredRules"), ("LayeredRules$World", 45, ⟨"LayeredRules$Rule", "<init>", "()V"⟩, "LayeredRules"), ("LayeredRules$World", 46, ⟨"LayeredRules$Watcher", "<init>", "()V"⟩, "LayeredRules"), ("LayeredRules$Course", 20, ⟨"LayeredRules$Look", "<init>", "()V"⟩, "LayeredRules"), ("LayeredRules$Course", 27, ⟨"LayeredRules$Wound", "<init>", "()V"⟩, "LayeredRules"), ("LayeredRules", 39, ⟨"LayeredRules$Look", "<init>", "()V"⟩, "LayeredRules"), ("LayeredRules", 45, ⟨"LayeredRules$Wound", "<init>", "()V"⟩, "LayeredRules"), ("LayeredRules$Reader", 21, ⟨"LayeredRules$Effect", "<init>", "()V"⟩, "LayeredRules"), ("LayeredRules", 67, ⟨"LayeredRules$Sheet", "<init>", "()V"⟩, "LayeredRules"), ("LayeredRules$Effect", 33, ⟨"LayeredRules", "within", "(III)Z"⟩, "LayeredRules"), ("LayeredRules$Look", 136, ⟨"LayeredRules", "within", "(III)Z"⟩, "LayeredRules"), ("LayeredRules$World", 75, ⟨"LayeredRules", "within", "(III)Z"⟩, "LayeredRules"), ("LayeredRules$Course", 177, ⟨"LayeredRules", "within", "(III)Z"⟩, "LayeredRules"), ("LayeredRules$Reader", 79, ⟨"LayeredRules", "scopeWord", "(I)Ljava/lang/String;"⟩, "LayeredRules"), ("LayeredRules$Reader", 87, ⟨"LayeredRules", "deedWord", "(I)Ljava/lang/String;"⟩, "LayeredRules"), ("LayeredRules$Sheet", 22, ⟨"LayeredRules", "within", "(III)Z"⟩, "LayeredRules")]
def zNF : List (String × Nat × String × String × String × String) := [("LayeredRules$Effect", 37, "LayeredRules", "LAYER_OF", "[I", "LayeredRules"), ("LayeredRules$Reader", 52, "LayeredRules", "MOST_X", "[I", "LayeredRules")]
def zAO : List String := ["LayeredRules$Thing", "LayeredRules$Effect", "LayeredRules$Rule", "LayeredRules$Watcher", "LayeredRules$Sheet", "java/lang/String"]
def zLO (j : Nat) : Int32 := ([0, 1, 1, 2, 3, 4] : List Int32).getD j 0
def zMX (j : Nat) : Int32 := ([0, 1, 5, 5, 5, 7] : List Int32).getD j 0
/-- what was there before: 1000 LAYER_OF, 1001 MOST_X, 1002 String's formatter, 1003 the script (its length stands in 1004), 1010 .. the texts, 1030 .. their bytes -/
def zSta (X : zCx) (h : zHp) (U : State) : Prop :=
  (∃ t, X.2.1 1000 = some t ∧ va_Z "LayeredRules" "LAYER_OF" "[I" (.ref t) (zA X) U U.heap ∧ va_T .int t 6 (fun j => .int (zLO j)) (zA X) U U.heap) ∧
  (∃ t, X.2.1 1001 = some t ∧ va_Z "LayeredRules" "MOST_X" "[I" (.ref t) (zA X) U U.heap ∧ va_T .int t 6 (fun j => .int (zMX j)) (zA X) U U.heap) ∧
  va_Z "jdk/internal/util/Preconditions" "SIOOBE_FORMATTER" "Ljava/util/function/BiFunction;" (va_rf (X.2.1 1002)) (zA X) U U.heap ∧
  va_Z "java/lang/String" "COMPACT_STRINGS" "Z" (.int 1) (zA X) U U.heap ∧
  (∃ adK adV : Nat → Nat, (∀ i, i < 13 → X.2.1 (1010 + i) = some (adK i) ∧ X.2.1 (1030 + i) = some (adV i)) ∧ vk_S 13 zSlen zSbyt adK adV (zA X) U U.heap ∧ ∀ q ∈ zStr, vk_R q.1 q.2.1 q.2.2.1 (adK q.2.2.2) U) ∧
  (∃ b L : Nat, X.2.1 1003 = some b ∧ h.1 1004 0 = nI L ∧ L ≤ 3072 ∧ va_X b L (h.1 1003) U U.heap ∧ b < U.heap.size ∧ ¬ zA X b) ∧
  (∀ q ∈ zNM, va_Nw (.methodLinkNest q.1 q.2.1 q.2.2.1 q.2.2.2) U) ∧ (∀ q ∈ zNF, va_Nw (.fieldLinkNest q.1 q.2.1 q.2.2.1 q.2.2.2.1 q.2.2.2.2.1 q.2.2.2.2.2) U) ∧ ∀ C ∈ zAO, va_AO C U
theorem zSta.move {X : zCx} {h : zHp} {s U : State} {H : Heap} {locs : List Loc} (hs : zSta X h s) (hS : va_S (zA X) s.heap H locs) (hU : U.heap = H) (hW : s.WarmedH U.vm) : zSta X h U := by
  subst hU
  obtain ⟨⟨t0, a1, a2, a3⟩, ⟨t1, b1, b2, b3⟩, c1, d1, ⟨adK, adV, e1, e2, e3⟩, ⟨b, L, f1, f2, f3, f4, f5, f6⟩, g1, g2, g3⟩ := hs
  have hq := hS.2.1
  have hv := hW.alike
  exact ⟨⟨t0, a1, (a2.kept hq).moved hv, (a3.kept hq).moved hv⟩, ⟨t1, b1, (b2.kept hq).moved hv, (b3.kept hq).moved hv⟩, (c1.kept hq).moved hv, (d1.kept hq).moved hv, ⟨adK, adV, e1, (e2.kept hq).moved hv, fun q hm => (e3 q hm).warm hW⟩, ⟨b, L, f1, f2, f3, (f4.kept (hq b f5 f6)).moved hv, Nat.lt_of_lt_of_le f5 hS.1, f6⟩, fun q hm => (g1 q hm).warmM hW, fun q hm => (g2 q hm).warmF hW, fun C hm => (g3 C hm).moved hv⟩
theorem zSta.to {X : zCx} {h h' : zHp} {s : State} (hs : zSta X h s) (h1 : h'.1 1003 = h.1 1003) (h2 : h'.1 1004 = h.1 1004) : zSta X h' s := by
  obtain ⟨a, b, c, d, e, ⟨b0, L, f1, f2, f3, f4, f5⟩, g⟩ := hs
  exact ⟨a, b, c, d, e, ⟨b0, L, f1, by rw [h2]; exact f2, f3, by rw [h1]; exact f4, f5⟩, g⟩
theorem zSta.wI {X : zCx} {h : zHp} {s : State} {c k : Nat} {v : Int32} (hs : zSta X h s) (hc : c < 1000) : zSta X (wI h c k v) s := hs.to (wI_ne (by omega)) (wI_ne (by omega))
theorem zSta.wR {X : zCx} {h : zHp} {s : State} {c k : Nat} {v : Option Nat} (hs : zSta X h s) : zSta X (wR h c k v) s := hs.to rfl rfl
/-- the context of a method's body -/
def zC (X : zCx) (M : zMI) (nX nE : Nat) (p : Program) (R : Room) (s : State) (m : MethodId) (args : Array Value) (meth : Method) (c : Code) : Prop :=
  p.tables.exec = Jvm.exec ∧ c.code = M.2.1 ∧ c.maxLocals = M.2.2.1 ∧ s.vm.findClass M.1.cls = some m.cls ∧ (∀ w ∈ zT, w.before args s = true) ∧ meth.name = M.1.name ∧ s.heap.size = X.1 + nE ∧ va_K (zD X) vwCl (ztys X) s ∧ (M.2.2.2.2.1 ≤ R.frames ∧ M.2.2.2.2.2 ≤ R.locals) ∧ nX - nE ≤ R.cells ∧ zsl nX - zsl nE ≤ R.slots
/-- what a method may answer -/
def zRet (ret : Option FieldType) (r : Option Value) : Prop := match ret, r with
  | none, none => True
  | some ty, some (.int v) => zrf ty = false ∧ narrow ty (.int v) = .int v
  | some ty, some (.ref _) => zrf ty = true
  | _, _ => False
def zri (r : Option Value) : Instr := match r with
  | none => .return_
  | some (.int _) => .ireturn
  | some _ => .areturn
/-- what is done at a method's end -/
def zHd (X : zCx) (M : zMI) (nX nE : Nat) (p : Program) (l : Launch) (e : Env) (R : Room) (s : State) (m : MethodId) (args : Array Value) (below : List Frame) (meth : Method) (c : Code) (Z : State → Prop) (Q : Option Value → zHp → Prop) : Prop :=
  ∀ (r : Option Value) (h' : zHp) (H' : Heap) (locs' : List Loc) (lsA : Array Slot) (pc' : Nat), Q r h' → zRet M.2.2.2.1 r → va_P (zD X) vwCl (zwl X h' nX) H' → zSta X h' s → va_S (zA X) s.heap H' locs' → decode M.2.1 pc' = .ok (zri r, 1) → W p l e R s m args below meth c H' locs' (nX - nE) (zsl nX - zsl nE) Z (F0 m pc' lsA ((r.map (zcv X)).toList))
/-- the locals -/
def zlv (X : zCx) (a : Array Slot) (nL : Nat) (ls : List (Option Value)) : Prop := a.size = nL ∧ lv_wf a ∧ ∀ (i : Nat) (v : Value), ls[i]? = some (some v) → a[i]? = some (.val (zcv X v)) ∧ (zcv X v).category = 1
/-- at pc, with n cells made, locals ls, stack st and cells h: the method comes to its end with Q, when nX cells are made -/
def zw (nX n : Nat) (M : zMI) (pc : Nat) (ls : List (Option Value)) (st : List Value) (h : zHp) (Q : Option Value → zHp → Prop) : Prop :=
  ∀ (X : zCx) (p : Program) (l : Launch) (e : Env) (R : Room) (s : State) (m : MethodId) (args : Array Value) (below : List Frame) (meth : Method) (c : Code) (Z : State → Prop) (nE : Nat), zC X M nX nE p R s m args meth c → zHd X M nX nE p l e R s m args below meth c Z Q →
  ∀ (H : Heap) (locs : List Loc) (a : Array Slot), nE ≤ n → n ≤ nX → va_P (zD X) vwCl (zwl X h n) H → zSta X h s → va_S (zA X) s.heap H locs → zlv X a M.2.2.1 ls → W p l e R s m args below meth c H locs (n - nE) (zsl n - zsl nE) Z (F0 m pc a (st.map (zcv X)))
theorem zw.mono {nX n : Nat} {M : zMI} {pc : Nat} {ls : List (Option Value)} {st : List Value} {h : zHp} {Q Q' : Option Value → zHp → Prop} (k : zw nX n M pc ls st h Q) (hq : ∀ r h', Q r h' → Q' r h') : zw nX n M pc ls st h Q' := by
  intro X p l e R s m args below meth c Z nE C hZ H locs a h1 h2 hP hSt hS hl
  exact k X p l e R s m args below meth c Z nE C (fun r h' H' locs' lsA pc' hQ => hZ r h' H' locs' lsA pc' (hq r h' hQ)) H locs a h1 h2 hP hSt hS hl
theorem zlv.set {X : zCx} {a : Array Slot} {nL : Nat} {ls : List (Option Value)} {i : Nat} {v : Value} (h : zlv X a nL ls) (hi : i < nL) (hc : (zcv X v).category = 1) : ∃ a', storeLocals a i (zcv X v) = some a' ∧ zlv X a' nL (ls.set i (some v)) := by
  let l : List (Nat × Value) := (List.range ls.length).filterMap (fun j => match ls[j]? with | some (some w) => some (j, zcv X w) | _ => none)
  have hm : ∀ (j : Nat) (w : Value), ls[j]? = some (some w) → (j, zcv X w) ∈ l := by
    intro j w hj
    refine List.mem_filterMap.mpr ⟨j, List.mem_range.mpr (List.getElem?_eq_some_iff.mp hj).1, ?_⟩
    rw [hj]
  have hl : lv_has a nL l := by
    refine ⟨h.1, h.2.1, fun q hq => ?_⟩
    obtain ⟨j, -, hj⟩ := List.mem_filterMap.mp hq
    cases e : ls[j]? with
    | none => rw [e] at hj; cases hj
    | some o =>
      cases o with
      | none => rw [e] at hj; cases hj
      | some w =>
        rw [e] at hj
        cases hj
        exact (h.2.2 j w e).1
  obtain ⟨a', e1, e2⟩ := lv_store1 hl hi hc
  refine ⟨a', e1, e2.1, e2.2.1, fun j w hj => ?_⟩
  by_cases hji : j = i
  · subst hji
    have hlen : j < ls.length := by
      have := (List.getElem?_eq_some_iff.mp hj).1
      rwa [List.length_set] at this
    rw [List.getElem?_set_self hlen] at hj
    cases hj
    exact ⟨e2.2.2 (j, zcv X v) List.mem_cons_self, hc⟩
  · rw [List.getElem?_set_ne (Ne.symm hji)] at hj
    have hw := h.2.2 j w hj
    refine ⟨e2.2.2 (j, zcv X w) (List.mem_cons_of_mem _ (List.mem_filter.mpr ⟨hm j w hj, ?_⟩)), hw.2⟩
    simp [hji, hw.2]
