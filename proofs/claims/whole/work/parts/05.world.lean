/-! The run's cells as two functions (whole numbers; references by the cells' numbers), and what they say of the machine's heap. -/
abbrev zHp : Type := (Nat → Nat → Int32) × (Nat → Nat → Option Nat)
/-- the first cell's address; addresses of what was there before (numbers from 1000 on); class ids; slots; array classes' ids -/
abbrev zCx : Type := Nat × (Nat → Option Nat) × (Nat → ClassId) × (Nat → Nat → Nat) × (Nat → ClassId)
def rI (h : zHp) (c k : Nat) : Int32 := h.1 c k
def rR (h : zHp) (c k : Nat) : Option Nat := h.2 c k
def wI (h : zHp) (c k : Nat) (v : Int32) : zHp := (fun a b => if a = c ∧ b = k then v else h.1 a b, h.2)
def wR (h : zHp) (c k : Nat) (v : Option Nat) : zHp := (h.1, fun a b => if a = c ∧ b = k then v else h.2 a b)
/-- a stretch of n numbers of cell c from place i on comes to cell d, from place j on -/
def wC (h : zHp) (c i d j n : Nat) : zHp := (fun a b => if a = d then va_cpy (h.1 c) (h.1 d) i j n b else h.1 a b, h.2)
def zadr (X : zCx) (i : Nat) : Option Nat := if i < 1000 then some (X.1 + i) else X.2.1 i
def zcv (X : zCx) (v : Value) : Value := match v with
  | .ref i => va_rf (zadr X i)
  | v => v
def zrf (ty : FieldType) : Bool := match ty with
  | .object _ => true
  | .array _ => true
  | _ => false
def zfty (ci k : Nat) : FieldType := match ci with
  | 0 => tyX0 k
  | 1 => tyX1 k
  | 2 => tyX2 k
  | 3 => tyX3 k
  | 4 => tyX4 k
  | 5 => tyX5 k
  | 6 => tyX6 k
  | 7 => tyX7 k
  | 8 => tyX8 k
  | 9 => tyX9 k
  | 10 => tyX10 k
  | _ => tyX11 k
def zfv (X : zCx) (h : zHp) (c ci k : Nat) : Value := if zrf (zfty ci k) = true then va_rf ((h.2 c k).bind (zadr X)) else .int (h.1 c k)
noncomputable def zent (X : zCx) (h : zHp) (c : Nat) : va_E :=
  if ly c < 20 then .inr (ly c - 1, (List.range (ln c)).map (zfv X h c (ly c - 1)))
  else if ly c < 22 then .inl (X.2.2.2.2 (ly c), ln c, .inl (h.1 c))
  else .inl (X.2.2.2.2 (ly c), ln c, .inr (.inr (.inr (.inr (fun k => (h.2 c k).bind (zadr X))))))
noncomputable def zwl (X : zCx) (h : zHp) (n : Nat) : va_W := (List.range n).map (fun c => (X.1 + c, zent X h c))
def zA (X : zCx) : Nat → Prop := fun q => X.1 ≤ q
abbrev zD (X : zCx) : va_G := (X.2.2.1, X.2.2.2.1)
def zty (k : Nat) : FieldType := match k with
  | 20 => .byte
  | 21 => .int
  | 22 => .object "LayeredRules$Thing"
  | 23 => .object "LayeredRules$Effect"
  | 24 => .object "LayeredRules$Rule"
  | 25 => .object "LayeredRules$Watcher"
  | 26 => .object "LayeredRules$Sheet"
  | _ => .object "java/lang/String"
def ztys (X : zCx) : List (ClassId × FieldType) := (List.range 8).map (fun i => (X.2.2.2.2 (20 + i), zty (20 + i)))
theorem zwl_at {X : zCx} {h : zHp} {n c : Nat} (hc : c < n) : (zwl X h n)[c]? = some (X.1 + c, zent X h c) := by
  simp [zwl, hc]
theorem zwl_len {X : zCx} {h : zHp} {n : Nat} : (zwl X h n).length = n := by simp [zwl]
theorem zwl_D {X : zCx} {h : zHp} {n : Nat} : va_D (zA X) (zwl X h n) := by
  have key : ∀ (k : Nat) (q : Nat × va_E), (zwl X h n)[k]? = some q → q.1 = X.1 + k := by
    intro k q hk
    have hl : k < n := by have := (List.getElem?_eq_some_iff.mp hk).1; rwa [zwl_len] at this
    rw [zwl_at hl] at hk
    cases hk
    rfl
  refine ⟨fun i j p q hi hj hpq => ?_, fun k q hk => ?_⟩
  · have h1 := key i p hi
    have h2 := key j q hj
    omega
  · have h1 := key k q hk
    show X.1 ≤ q.1
    omega
theorem ztys_at {X : zCx} {i : Nat} (hi : i < 8) : (ztys X)[i]? = some (X.2.2.2.2 (20 + i), zty (20 + i)) := by
  simp [ztys, hi]
theorem zly_lt {c : Nat} (h : ly c ≠ 0) : c < zNT := by
  rcases Nat.lt_or_ge c zNT with q | q
  · exact q
  · exact absurd (ly_out q) h
theorem zwl_set {X : zCx} {h h' : zHp} {n c : Nat} {E : va_E} (hc : c < n) (he : zent X h' c = E) (ho : ∀ d, d ≠ c → zent X h' d = zent X h d) : (zwl X h n).set c (X.1 + c, E) = zwl X h' n := by
  apply List.ext_getElem?
  intro i
  by_cases hi : i < n
  · rw [zwl_at hi]
    by_cases hic : i = c
    · subst hic
      rw [List.getElem?_set_self (by rw [zwl_len]; exact hi), he]
    · rw [List.getElem?_set_ne (Ne.symm hic), zwl_at hi, ho i hic]
  · rw [List.getElem?_eq_none (by rw [List.length_set, zwl_len]; omega), List.getElem?_eq_none (by rw [zwl_len]; omega)]
theorem zent_other {X : zCx} {h h' : zHp} {d : Nat} (h1 : h'.1 d = h.1 d) (h2 : h'.2 d = h.2 d) : zent X h' d = zent X h d := by
  have e : zfv X h' d (ly d - 1) = zfv X h d (ly d - 1) := by
    funext k
    unfold zfv
    rw [h1, h2]
  unfold zent
  rw [e, h1, h2]
theorem wI_ne {h : zHp} {c k d : Nat} {v : Int32} (hd : d ≠ c) : (wI h c k v).1 d = h.1 d := by
  funext b
  show (if d = c ∧ b = k then v else h.1 d b) = h.1 d b
  rw [if_neg (fun q => hd q.1)]
theorem wR_ne {h : zHp} {c k d : Nat} {v : Option Nat} (hd : d ≠ c) : (wR h c k v).2 d = h.2 d := by
  funext b
  show (if d = c ∧ b = k then v else h.2 d b) = h.2 d b
  rw [if_neg (fun q => hd q.1)]
theorem wC_ne {h : zHp} {c i a j n d : Nat} (hd : d ≠ a) : (wC h c i a j n).1 d = h.1 d := by
  funext b
  show (if d = a then _ else h.1 d b) = h.1 d b
  rw [if_neg hd]
theorem zent_obj {X : zCx} {h : zHp} {c ci : Nat} (hl : ly c = ci + 1) (hci : ci < 12) : zent X h c = .inr (ci, (List.range (ln c)).map (zfv X h c ci)) := by
  unfold zent
  rw [if_pos (by omega), hl]
  rfl
theorem zent_int {X : zCx} {h : zHp} {c : Nat} (hl : ly c = 21) : zent X h c = .inl (X.2.2.2.2 21, ln c, .inl (h.1 c)) := by
  unfold zent
  rw [if_neg (by omega), if_pos (by omega), hl]
theorem zent_byte {X : zCx} {h : zHp} {c : Nat} (hl : ly c = 20) : zent X h c = .inl (X.2.2.2.2 20, ln c, .inl (h.1 c)) := by
  unfold zent
  rw [if_neg (by omega), if_pos (by omega), hl]
theorem zent_ref {X : zCx} {h : zHp} {c : Nat} (hl : 22 ≤ ly c) : zent X h c = .inl (X.2.2.2.2 (ly c), ln c, .inr (.inr (.inr (.inr (fun k => (h.2 c k).bind (zadr X)))))) := by
  unfold zent
  rw [if_neg (by omega), if_neg (by omega)]
theorem zfs_at {X : zCx} {h : zHp} {c ci k N : Nat} (hk : k < N) : ((List.range N).map (zfv X h c ci))[k]? = some (zfv X h c ci k) := by
  simp [hk]
theorem zfs_set {X : zCx} {h h' : zHp} {c ci k N : Nat} {v : Value} (hk : k < N) (hv : zfv X h' c ci k = v) (ho : ∀ j, j ≠ k → zfv X h' c ci j = zfv X h c ci j) : ((List.range N).map (zfv X h c ci)).set k v = (List.range N).map (zfv X h' c ci) := by
  apply List.ext_getElem?
  intro i
  by_cases hi : i < N
  · rw [zfs_at hi]
    by_cases hik : i = k
    · subst hik
      rw [List.getElem?_set_self (by simpa using hi), hv]
    · rw [List.getElem?_set_ne (Ne.symm hik), zfs_at hi, ho i hik]
  · rw [List.getElem?_eq_none (by simpa using hi), List.getElem?_eq_none (by simpa using hi)]
theorem zcv_rf (X : zCx) (r : Option Nat) : zcv X (va_rf r) = va_rf (r.bind (zadr X)) := by
  cases r <;> rfl
theorem zcv_ref {X : zCx} {c : Nat} (hc : c < 1000) : zcv X (.ref c) = .ref (X.1 + c) := by
  show va_rf (zadr X c) = _
  unfold zadr
  rw [if_pos hc]
  rfl
theorem zrf_cat (r : Option Nat) : (va_rf r).category = 1 := by cases r <;> rfl
