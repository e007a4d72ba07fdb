/-! watchers that are set off lie on a stack -/
abbrev Stk : Type := zN × zN × Nat
def psh (s : Stk) (w t : Int32) : Stk := (upd s.1 s.2.2 w, upd s.2.1 s.2.2 t, s.2.2 + 1)
noncomputable def soT (p : Nat → Prop) (w : Int32) : Nat → Stk → Stk
  | 0, s => s
  | n + 1, s => @ite _ (p n) (Classical.propDecidable _) (psh (soT p w n s) w (nI n)) (soT p w n s)
noncomputable def soW (sel : Nat → Prop) (f : Nat → Stk → Stk) : Nat → Stk → Stk
  | 0, s => s
  | n + 1, s => @ite _ (sel n) (Classical.propDecidable _) (f n (soW sel f n s)) (soW sel f n s)
/-- watchers of an owner, set off by 'on' for the things of a set -/
noncomputable def SO (N L : zN) (on set ow : Int32) (s : Stk) : Stk := soW (fun w => N (182 + 7 * w) = ow ∧ N (182 + 7 * w + 1) = on) (fun w s => soT (fun t => bi set (nI t) ∧ t < cT N ∧ Sc N L (N (182 + 7 * w + 5)) (N (182 + 7 * w + 6)) t) (nI w) 8 s) (cV N) s
noncomputable def SOff (N L : zN) (on set : Int32) (s : Stk) : Stk := SO N L on set (1 - N 244) (SO N L on set (N 244) s)
noncomputable def SOn (N : zN) (s : Stk) : Stk := soW (fun w => N (182 + 7 * w) = N 244 ∧ N (182 + 7 * w + 1) = 2) (fun w s => psh s (nI w) (-1)) (cV N) s
theorem soT_1 {p : Nat → Prop} {w : Int32} {n : Nat} {s : Stk} (h : p n) : soT p w (n + 1) s = psh (soT p w n s) w (nI n) := by rw [soT, if_pos h]
theorem soT_0 {p : Nat → Prop} {w : Int32} {n : Nat} {s : Stk} (h : ¬ p n) : soT p w (n + 1) s = soT p w n s := by rw [soT, if_neg h]
theorem soW_1 {sel : Nat → Prop} {f : Nat → Stk → Stk} {n : Nat} {s : Stk} (h : sel n) : soW sel f (n + 1) s = f n (soW sel f n s) := by rw [soW, if_pos h]
theorem soW_0 {sel : Nat → Prop} {f : Nat → Stk → Stk} {n : Nat} {s : Stk} (h : ¬ sel n) : soW sel f (n + 1) s = soW sel f n s := by rw [soW, if_neg h]
theorem soT_cnt {p : Nat → Prop} {w : Int32} {s : Stk} : ∀ n, (soT p w n s).2.2 = s.2.2 + nb n p := by
  intro n
  induction n with
  | zero => rfl
  | succ n ih =>
    rcases Classical.em (p n) with q | q
    · rw [soT_1 q, nb, if_pos q]
      show (soT p w n s).2.2 + 1 = _
      omega
    · rw [soT_0 q, nb, if_neg q]
      omega
theorem soT_stop {p : Nat → Prop} {w : Int32} {s : Stk} {n : Nat} (h : ∀ t, n ≤ t → ¬ p t) : ∀ m, n ≤ m → soT p w m s = soT p w n s := by
  intro m
  induction m with
  | zero => intro hm; rw [show n = 0 by omega]
  | succ m ih =>
    intro hm
    rcases Nat.lt_or_ge m n with q | q
    · rw [show n = m + 1 by omega]
    · rw [soT_0 (h m q)]
      exact ih q
theorem soT_congr {p q : Nat → Prop} {w : Int32} {s : Stk} {n : Nat} (h : ∀ t, t < n → (p t ↔ q t)) : soT p w n s = soT q w n s := by
  induction n with
  | zero => rfl
  | succ n ih =>
    have h1 := ih (fun t ht => h t (by omega))
    rcases Classical.em (p n) with z | z
    · rw [soT_1 z, soT_1 ((h n (by omega)).mp z), h1]
    · rw [soT_0 z, soT_0 (fun y => z ((h n (by omega)).mpr y)), h1]
theorem soW_congr {sel sel' : Nat → Prop} {f g : Nat → Stk → Stk} {s : Stk} {n : Nat} (h : ∀ w, w < n → (sel w ↔ sel' w)) (hf : ∀ w s, w < n → f w s = g w s) : soW sel f n s = soW sel' g n s := by
  induction n with
  | zero => rfl
  | succ n ih =>
    have h1 := ih (fun t ht => h t (by omega)) (fun w s hw => hf w s (by omega))
    rcases Classical.em (sel n) with z | z
    · rw [soW_1 z, soW_1 ((h n (by omega)).mp z), h1, hf n _ (by omega)]
    · rw [soW_0 z, soW_0 (fun y => z ((h n (by omega)).mpr y)), h1]
theorem soW_mono {sel : Nat → Prop} {f : Nat → Stk → Stk} {s : Stk} (hf : ∀ w s, s.2.2 ≤ (f w s).2.2) : ∀ n m, n ≤ m → (soW sel f n s).2.2 ≤ (soW sel f m s).2.2 := by
  intro n m
  induction m with
  | zero => intro hm; rw [show n = 0 by omega]; exact Nat.le_refl _
  | succ m ih =>
    intro hm
    rcases Nat.lt_or_ge m n with q | q
    · rw [show n = m + 1 by omega]; exact Nat.le_refl _
    · have h1 := ih q
      rcases Classical.em (sel m) with z | z
      · rw [soW_1 z]; exact Nat.le_trans h1 (hf _ _)
      · rw [soW_0 z]; exact h1
/-- each watcher adds k at most -/
theorem soW_cnt {sel : Nat → Prop} {f : Nat → Stk → Stk} {s : Stk} {k : Nat} (hf : ∀ w s, (f w s).2.2 ≤ s.2.2 + k) : ∀ n, (soW sel f n s).2.2 ≤ s.2.2 + k * nb n sel := by
  intro n
  induction n with
  | zero => exact Nat.le_add_right _ _
  | succ n ih =>
    rcases Classical.em (sel n) with z | z
    · rw [soW_1 z, nb, if_pos z, Nat.mul_add, Nat.mul_one]
      have := hf n (soW sel f n s)
      omega
    · rw [soW_0 z, nb, if_neg z]
      exact ih
theorem neg_turn (x : Int32) : ¬ 1 - x = x := by
  intro h
  have h1 : bt (1 - x + x) 0 = bt (x + x) 0 := by rw [h]
  rw [Int32.sub_add_cancel] at h1
  have h2 : bt (x + x) 0 = false := by
    show (x.toBitVec + x.toBitVec).getLsbD 0 = false
    rw [BitVec.getLsbD_add (by decide)]
    simp
  rw [h2] at h1
  exact absurd h1 (by decide)
theorem SOff_cnt {N L : zN} {on set : Int32} {s : Stk} {k : Nat} (hC : CN N) (hk : nb 8 (fun t => bi set (nI t)) ≤ k) : (SOff N L on set s).2.2 ≤ s.2.2 + 8 * k := by
  have hf : ∀ (w : Nat) (s : Stk), (soT (fun t => bi set (nI t) ∧ t < cT N ∧ Sc N L (N (182 + 7 * w + 5)) (N (182 + 7 * w + 6)) t) (nI w) 8 s).2.2 ≤ s.2.2 + k := by
    intro w s
    rw [soT_cnt]
    have := nb_mono (n := 8) (p := fun t => bi set (nI t) ∧ t < cT N ∧ Sc N L (N (182 + 7 * w + 5)) (N (182 + 7 * w + 6)) t) (q := fun t => bi set (nI t)) (fun t _ z => z.1)
    omega
  have a := soW_cnt (sel := fun w => N (182 + 7 * w) = N 244 ∧ N (182 + 7 * w + 1) = on) (s := s) hf (cV N)
  have b := soW_cnt (sel := fun w => N (182 + 7 * w) = 1 - N 244 ∧ N (182 + 7 * w + 1) = on) (s := SO N L on set (N 244) s) hf (cV N)
  have c := nb_or (n := cV N) (p := fun w => N (182 + 7 * w) = N 244 ∧ N (182 + 7 * w + 1) = on) (q := fun w => N (182 + 7 * w) = 1 - N 244 ∧ N (182 + 7 * w + 1) = on) (fun w _ z y => neg_turn _ (y.1.symm.trans z.1))
  have d := nb_le (n := cV N) (p := fun w => (N (182 + 7 * w) = N 244 ∧ N (182 + 7 * w + 1) = on) ∨ (N (182 + 7 * w) = 1 - N 244 ∧ N (182 + 7 * w + 1) = on))
  have e := hC.2.2.2.2
  unfold SOff
  change (SO N L on set (N 244) s).2.2 ≤ _ at a
  change (SO N L on set (1 - N 244) (SO N L on set (N 244) s)).2.2 ≤ _ at b
  have f : k * (nb (cV N) (fun w => N (182 + 7 * w) = N 244 ∧ N (182 + 7 * w + 1) = on) + nb (cV N) (fun w => N (182 + 7 * w) = 1 - N 244 ∧ N (182 + 7 * w + 1) = on)) ≤ k * 8 := Nat.mul_le_mul_left k (by omega)
  rw [Nat.mul_add] at f
  omega
theorem SO_rq {N L L' : zN} {on set ow : Int32} {s : Stk} (h : rq (cT N) L L') : SO N L on set ow s = SO N L' on set ow s := by
  unfold SO
  refine soW_congr (fun _ _ => Iff.rfl) (fun w s _ => soT_congr (fun t _ => ?_))
  constructor
  · rintro ⟨a, b, c⟩; exact ⟨a, b, (Sc_rq h b).mp c⟩
  · rintro ⟨a, b, c⟩; exact ⟨a, b, (Sc_rq h b).mpr c⟩
theorem SOff_rq {N L L' : zN} {on set : Int32} {s : Stk} (h : rq (cT N) L L') : SOff N L on set s = SOff N L' on set s := by
  unfold SOff
  rw [SO_rq h, SO_rq h]
/-- the class's stack -/
def SC (h : zHp) (s : Stk) : Prop := rI h 1 5 = nI s.2.2 ∧ ∀ i, i < s.2.2 → rI h 50 i = s.1 i ∧ rI h 51 i = s.2.1 i
/-- the reference's stack -/
def SM (h : zHp) (s : Stk) : Prop := rI h 164 10 = nI s.2.2 ∧ ∀ i, i < s.2.2 → rI h 171 (2 * i) = s.1 i ∧ rI h 171 (2 * i + 1) = s.2.1 i
/-- nothing but the class's stack has changed -/
def fS (h h' : zHp) : Prop := h'.2 = h.2 ∧ (∀ a, a ≠ 1 → a ≠ 50 → a ≠ 51 → h'.1 a = h.1 a) ∧ ∀ k, k ≠ 5 → h'.1 1 k = h.1 1 k
theorem fS.rf {h : zHp} : fS h h := ⟨rfl, fun _ _ _ _ => rfl, fun _ _ => rfl⟩
theorem fS.tr {h h' h2 : zHp} (a : fS h h') (b : fS h' h2) : fS h h2 := ⟨b.1.trans a.1, fun z z1 z2 z3 => (b.2.1 z z1 z2 z3).trans (a.2.1 z z1 z2 z3), fun z hz => (b.2.2 z hz).trans (a.2.2 z hz)⟩
theorem fS.rw {h h' : zHp} {N : zN} (f : fS h h') (hP : PW h 2) (hC : CN N) (hR : RW h 2 N) : RW h' 2 N := RW_of f.1 (fun a h1 h2 => f.2.1 a (by omega) (by omega) (by omega)) hP hC hR
theorem fS.vl {h h' : zHp} (f : fS h h') : VL h' 42 = VL h 42 := by
  funext i
  unfold VL
  show h'.1 _ _ = h.1 _ _
  rw [f.2.1 _ (by omega) (by omega) (by omega)]
theorem g_X0_push {x1 : Int32} {x2 : Int32} {h : zHp} {Q : zHp → Prop}  (G : zG h) (F : (rI h 1 5 < 0 → (Q h)) ∧ (¬ (rI h 1 5 < 0) → ((400 ≤ rI h 1 5 → (Q h)) ∧ (¬ (400 ≤ rI h 1 5) → (vp_in (rI h 1 5) 400 ∧ (Q (wI (wI (wI h 50 ((Int32.toNatClampNeg (rI h 1 5))) x1) 51 ((Int32.toNatClampNeg (rI h 1 5))) x2) 1 5 ((rI h 1 5) + 1)))))))) : zcV M_X0_push [.ref 1, .int x1, .int x2] h Q := by
  show zw zNT zNT M_X0_push 0 [some (.ref 1), some (.int x1), some (.int x2)] [] h _
  refine z_aload_n (pc := 0) dX0_push_0 rfl rfl ?_
  refine q_getI (pc := 1) (v := rI h 1 5) dX0_push_1 lk_RX0_42 (lyc rfl) rfl ?_
  refine z_if_lt (pc := 4) (tgt := 47) dX0_push_4 (by decide) (fun k3 => ?_) (fun k3 => ?_)
  · replace F := F.1 k3
    exact q_retV (pc := 47) dX0_push_47 rfl F
  · replace F := F.2 k3
    refine z_aload_n (pc := 7) dX0_push_7 rfl rfl ?_
    refine q_getI (pc := 8) (v := rI h 1 5) dX0_push_8 lk_RX0_42 (lyc rfl) rfl ?_
    refine z_sipush (pc := 11) (v := 400) dX0_push_11 (by decide) ?_
    refine z_icmp_ge (pc := 14) (tgt := 47) dX0_push_14 (by decide) (fun k2 => ?_) (fun k2 => ?_)
    · replace F := F.1 k2
      exact q_retV (pc := 47) dX0_push_47 rfl F
    · replace F := F.2 k2
      refine z_aload_n (pc := 17) dX0_push_17 rfl rfl ?_
      refine q_getR (pc := 18) (i := 50) dX0_push_18 lk_RX0_32 (lyc rfl) (G 1 3 50 rfl) ?_
      refine z_aload_n (pc := 21) dX0_push_21 rfl rfl ?_
      refine q_getI (pc := 22) (v := rI h 1 5) dX0_push_22 lk_RX0_42 (lyc rfl) rfl ?_
      refine z_iload_n (pc := 25) dX0_push_25 rfl rfl ?_
      obtain ⟨k1, F⟩ := F
      refine q_iast (pc := 26) (j := (Int32.toNatClampNeg (rI h 1 5))) dX0_push_26 (lyc rfl) (zvn (lnc rfl) k1) rfl ?_
      refine z_aload_n (pc := 27) dX0_push_27 rfl rfl ?_
      refine q_getR (pc := 28) (i := 51) dX0_push_28 lk_RX0_36 (lyc rfl) (G 1 4 51 rfl) ?_
      refine z_aload_n (pc := 31) dX0_push_31 rfl rfl ?_
      refine q_getI (pc := 32) (v := rI h 1 5) dX0_push_32 lk_RX0_42 (lyc rfl) (rI_c (by decide)) ?_
      refine z_iload_n (pc := 35) dX0_push_35 rfl rfl ?_
      refine q_iast (pc := 36) (j := (Int32.toNatClampNeg (rI h 1 5))) dX0_push_36 (lyc rfl) (zvn (lnc rfl) k1) rfl ?_
      refine z_aload_n (pc := 37) dX0_push_37 rfl rfl ?_
      refine z_dup (pc := 38) dX0_push_38 rfl ?_
      refine q_getI (pc := 39) (v := rI h 1 5) dX0_push_39 lk_RX0_42 (lyc rfl) ((rI_c (by decide)).trans (rI_c (by decide))) ?_
      refine z_iconst (pc := 42) (v := 1) dX0_push_42 (by decide) ?_
      refine z_iadd (pc := 43) dX0_push_43 ?_
      refine q_putI (pc := 44) dX0_push_44 lk_RX0_42 (lyc rfl) ?_
      exact q_retV (pc := 47) dX0_push_47 rfl F
theorem g_X0_setOffOf {x1 : Int32} {x2 : Int32} {x3 : Int32} {h : zHp} {Q : zHp → Prop}  (G : zG h) (F : zlV M_X0_setOffOf 3 [some (.ref 1), some (.int x1), some (.int x2), some (.int x3), some (.int 0), none, none] [] h Q) : zcV M_X0_setOffOf [.ref 1, .int x1, .int x2, .int x3] h Q := by
  show zw zNT zNT M_X0_setOffOf 0 [some (.ref 1), some (.int x1), some (.int x2), some (.int x3), none, none, none] [] h _
  refine z_iconst (pc := 0) (v := 0) dX0_setOffOf_0 (by decide) ?_
  refine z_istore (pc := 1) (ls' := [some (.ref 1), some (.int x1), some (.int x2), some (.int x3), some (.int 0), none, none]) dX0_setOffOf_1 (by decide) rfl ?_
  exact F
theorem g_X0_setOffOf_3 {x1 : Int32} {x2 : Int32} {x3 : Int32} {x4 : Int32} {h : zHp} {Q : zHp → Prop}  (G : zG h) (F : (rI h 2 7 ≤ x4 → (Q h)) ∧ (¬ (rI h 2 7 ≤ x4) → (vp_in x4 8 ∧ (zRef h 6 ((Int32.toNatClampNeg x4)) 8 ∧ ((¬ rI h (rG h 6 ((Int32.toNatClampNeg x4))) 0 = x1 → (zlV M_X0_setOffOf 3 [some (.ref 1), some (.int x1), some (.int x2), some (.int x3), some (.int (x4 + 1)), none, none] [] h Q)) ∧ (rI h (rG h 6 ((Int32.toNatClampNeg x4))) 0 = x1 → ((¬ rI h (rG h 6 ((Int32.toNatClampNeg x4))) 1 = x2 → (zlV M_X0_setOffOf 3 [some (.ref 1), some (.int x1), some (.int x2), some (.int x3), some (.int (x4 + 1)), none, none] [] h Q)) ∧ (rI h (rG h 6 ((Int32.toNatClampNeg x4))) 1 = x2 → (zlV M_X0_setOffOf 48 [some (.ref 1), some (.int x1), some (.int x2), some (.int x3), some (.int x4), some (.ref (rG h 6 ((Int32.toNatClampNeg x4)))), some (.int 0)] [] h Q))))))))) : zlV M_X0_setOffOf 3 [some (.ref 1), some (.int x1), some (.int x2), some (.int x3), some (.int x4), none, none] [] h Q := by
  refine z_iload (pc := 3) dX0_setOffOf_3 rfl ?_
  refine z_aload_n (pc := 5) dX0_setOffOf_5 rfl rfl ?_
  refine q_getR (pc := 6) (i := 2) dX0_setOffOf_6 lk_RX0_12 (lyc rfl) (G 1 0 2 rfl) ?_
  refine q_getI (pc := 9) (v := rI h 2 7) dX0_setOffOf_9 lk_RX0_85 (lyc rfl) rfl ?_
  refine z_icmp_ge (pc := 12) (tgt := 115) dX0_setOffOf_12 (by decide) (fun k5 => ?_) (fun k5 => ?_)
  · replace F := F.1 k5
    exact q_retV (pc := 115) dX0_setOffOf_115 rfl F
  · replace F := F.2 k5
    refine z_aload_n (pc := 15) dX0_setOffOf_15 rfl rfl ?_
    refine q_getR (pc := 16) (i := 2) dX0_setOffOf_16 lk_RX0_12 (lyc rfl) (G 1 0 2 rfl) ?_
    refine q_getR (pc := 19) (i := 6) dX0_setOffOf_19 lk_RX0_88 (lyc rfl) (G 2 6 6 rfl) ?_
    refine z_iload (pc := 22) dX0_setOffOf_22 rfl ?_
    obtain ⟨k1, F⟩ := F
    obtain ⟨k2, F⟩ := F
    refine q_aald (pc := 24) (j := (Int32.toNatClampNeg x4)) (r := rG h 6 ((Int32.toNatClampNeg x4))) (t := 3) dX0_setOffOf_24 (lyc rfl) (zvn (lnc rfl) k1) rfl k2.1 ?_
    refine z_astore (pc := 25) (ls' := [some (.ref 1), some (.int x1), some (.int x2), some (.int x3), some (.int x4), some (.ref (rG h 6 ((Int32.toNatClampNeg x4)))), none]) dX0_setOffOf_25 (by decide) rfl ?_
    refine z_aload (pc := 27) dX0_setOffOf_27 rfl ?_
    refine q_getI (pc := 29) (v := rI h (rG h 6 ((Int32.toNatClampNeg x4))) 0) dX0_setOffOf_29 lk_RX0_92 k2.2 rfl ?_
    refine z_iload_n (pc := 32) dX0_setOffOf_32 rfl rfl ?_
    refine z_icmp_ne (pc := 33) (tgt := 109) dX0_setOffOf_33 (by decide) (fun k4 => ?_) (fun k4 => ?_)
    · replace F := F.1 k4
      refine z_iinc (pc := 109) (v := x4 + 1) (ls' := [some (.ref 1), some (.int x1), some (.int x2), some (.int x3), some (.int (x4 + 1)), some (.ref (rG h 6 ((Int32.toNatClampNeg x4)))), none]) dX0_setOffOf_109 (by decide) rfl rfl rfl ?_
      refine z_goto (pc := 112) (tgt := 3) dX0_setOffOf_112 (by decide) ?_
      exact q_sub (ls' := [some (.ref 1), some (.int x1), some (.int x2), some (.int x3), some (.int (x4 + 1)), none, none]) ⟨rfl, rfl, rfl, rfl, rfl, trivial⟩ F
    · replace F := F.2 k4
      refine z_aload (pc := 36) dX0_setOffOf_36 rfl ?_
      refine q_getI (pc := 38) (v := rI h (rG h 6 ((Int32.toNatClampNeg x4))) 1) dX0_setOffOf_38 lk_RX0_100 k2.2 rfl ?_
      refine z_iload_n (pc := 41) dX0_setOffOf_41 rfl rfl ?_
      refine z_icmp_ne (pc := 42) (tgt := 109) dX0_setOffOf_42 (by decide) (fun k3 => ?_) (fun k3 => ?_)
      · replace F := F.1 k3
        refine z_iinc (pc := 109) (v := x4 + 1) (ls' := [some (.ref 1), some (.int x1), some (.int x2), some (.int x3), some (.int (x4 + 1)), some (.ref (rG h 6 ((Int32.toNatClampNeg x4)))), none]) dX0_setOffOf_109 (by decide) rfl rfl rfl ?_
        refine z_goto (pc := 112) (tgt := 3) dX0_setOffOf_112 (by decide) ?_
        exact q_sub (ls' := [some (.ref 1), some (.int x1), some (.int x2), some (.int x3), some (.int (x4 + 1)), none, none]) ⟨rfl, rfl, rfl, rfl, rfl, trivial⟩ F
      · replace F := F.2 k3
        refine z_iconst (pc := 45) (v := 0) dX0_setOffOf_45 (by decide) ?_
        refine z_istore (pc := 46) (ls' := [some (.ref 1), some (.int x1), some (.int x2), some (.int x3), some (.int x4), some (.ref (rG h 6 ((Int32.toNatClampNeg x4)))), some (.int 0)]) dX0_setOffOf_46 (by decide) rfl ?_
        exact F
theorem g_X0_setOffOf_48 {x1 : Int32} {x2 : Int32} {x3 : Int32} {x4 : Int32} {c5 : Nat} {x6 : Int32} {h : zHp} {Q : zHp → Prop} (hc5 : ly c5 = 8) (G : zG h) (F : (rI h 2 1 ≤ x6 → (zlV M_X0_setOffOf 3 [some (.ref 1), some (.int x1), some (.int x2), some (.int x3), some (.int (x4 + 1)), none, none] [] h Q)) ∧ (¬ (rI h 2 1 ≤ x6) → (((x3 >>> (x6 &&& 31)) &&& 1 = 0 → (zlV M_X0_setOffOf 48 [some (.ref 1), some (.int x1), some (.int x2), some (.int x3), some (.int x4), some (.ref c5), some (.int (x6 + 1))] [] h Q)) ∧ (¬ ((x3 >>> (x6 &&& 31)) &&& 1 = 0) → (zcI M_X2_holds [.ref 42, .ref 2, .int x6, .int (rI h c5 5), .int (rI h c5 6)] h (fun vh1 h1 => zG h1 ∧ ((vh1 = 0 → (zlV M_X0_setOffOf 48 [some (.ref 1), some (.int x1), some (.int x2), some (.int x3), some (.int x4), some (.ref c5), some (.int (x6 + 1))] [] h1 Q)) ∧ (¬ (vh1 = 0) → (zcV M_X0_push [.ref 1, .int x4, .int x6] h1 (fun h2 => zG h2 ∧ (zlV M_X0_setOffOf 48 [some (.ref 1), some (.int x1), some (.int x2), some (.int x3), some (.int x4), some (.ref c5), some (.int (x6 + 1))] [] h2 Q))))))))))) : zlV M_X0_setOffOf 48 [some (.ref 1), some (.int x1), some (.int x2), some (.int x3), some (.int x4), some (.ref c5), some (.int x6)] [] h Q := by
  refine z_iload (pc := 48) dX0_setOffOf_48 rfl ?_
  refine z_aload_n (pc := 50) dX0_setOffOf_50 rfl rfl ?_
  refine q_getR (pc := 51) (i := 2) dX0_setOffOf_51 lk_RX0_12 (lyc rfl) (G 1 0 2 rfl) ?_
  refine q_getI (pc := 54) (v := rI h 2 1) dX0_setOffOf_54 lk_RX0_62 (lyc rfl) rfl ?_
  refine z_icmp_ge (pc := 57) (tgt := 109) dX0_setOffOf_57 (by decide) (fun k5 => ?_) (fun k5 => ?_)
  · replace F := F.1 k5
    refine z_iinc (pc := 109) (v := x4 + 1) (ls' := [some (.ref 1), some (.int x1), some (.int x2), some (.int x3), some (.int (x4 + 1)), some (.ref c5), some (.int x6)]) dX0_setOffOf_109 (by decide) rfl rfl rfl ?_
    refine z_goto (pc := 112) (tgt := 3) dX0_setOffOf_112 (by decide) ?_
    exact q_sub (ls' := [some (.ref 1), some (.int x1), some (.int x2), some (.int x3), some (.int (x4 + 1)), none, none]) ⟨rfl, rfl, rfl, rfl, rfl, trivial⟩ F
  · replace F := F.2 k5
    refine z_iload_n (pc := 60) dX0_setOffOf_60 rfl rfl ?_
    refine z_iload (pc := 61) dX0_setOffOf_61 rfl ?_
    refine z_ishr (pc := 63) dX0_setOffOf_63 ?_
    refine z_iconst (pc := 64) (v := 1) dX0_setOffOf_64 (by decide) ?_
    refine z_iand (pc := 65) dX0_setOffOf_65 ?_
    refine z_if_eq (pc := 66) (tgt := 103) dX0_setOffOf_66 (by decide) (fun k4 => ?_) (fun k4 => ?_)
    · replace F := F.1 k4
      refine z_iinc (pc := 103) (v := x6 + 1) (ls' := [some (.ref 1), some (.int x1), some (.int x2), some (.int x3), some (.int x4), some (.ref c5), some (.int (x6 + 1))]) dX0_setOffOf_103 (by decide) rfl rfl rfl ?_
      refine z_goto (pc := 106) (tgt := 48) dX0_setOffOf_106 (by decide) ?_
      exact F
    · replace F := F.2 k4
      refine z_aload_n (pc := 69) dX0_setOffOf_69 rfl rfl ?_
      refine q_getR (pc := 70) (i := 42) dX0_setOffOf_70 lk_RX0_21 (lyc rfl) (G 1 1 42 rfl) ?_
      refine z_aload_n (pc := 73) dX0_setOffOf_73 rfl rfl ?_
      refine q_getR (pc := 74) (i := 2) dX0_setOffOf_74 lk_RX0_12 (lyc rfl) (G 1 0 2 rfl) ?_
      refine z_iload (pc := 77) dX0_setOffOf_77 rfl ?_
      refine z_aload (pc := 79) dX0_setOffOf_79 rfl ?_
      refine q_getI (pc := 81) (v := rI h c5 5) dX0_setOffOf_81 lk_RX0_110 hc5 rfl ?_
      refine z_aload (pc := 84) dX0_setOffOf_84 rfl ?_
      refine q_getI (pc := 86) (v := rI h c5 6) dX0_setOffOf_86 lk_RX0_113 hc5 rfl ?_
      refine q_invV (pc := 89) (As := [.ref 2, .int x6, .int (rI h c5 5), .int (rI h c5 6)]) (st := []) dX0_setOffOf_89 ok_X2_holds ml_RX0_116 iv_X2_holds pa_X2_holds ⟨Nat.le_of_ble_eq_true rfl, Nat.le_of_ble_eq_true rfl⟩ (lyc rfl) (q_kI F (fun vh1 h1 F => ?_))
      obtain ⟨G1, F⟩ := F
      refine z_if_eq (pc := 92) (tgt := 103) dX0_setOffOf_92 (by decide) (fun k3 => ?_) (fun k3 => ?_)
      · replace F := F.1 k3
        refine z_iinc (pc := 103) (v := x6 + 1) (ls' := [some (.ref 1), some (.int x1), some (.int x2), some (.int x3), some (.int x4), some (.ref c5), some (.int (x6 + 1))]) dX0_setOffOf_103 (by decide) rfl rfl rfl ?_
        refine z_goto (pc := 106) (tgt := 48) dX0_setOffOf_106 (by decide) ?_
        exact F
      · replace F := F.2 k3
        refine z_aload_n (pc := 95) dX0_setOffOf_95 rfl rfl ?_
        refine z_iload (pc := 96) dX0_setOffOf_96 rfl ?_
        refine z_iload (pc := 98) dX0_setOffOf_98 rfl ?_
        refine q_invV (pc := 100) (As := [.int x4, .int x6]) (st := []) dX0_setOffOf_100 ok_X0_push ml_RX0_103 iv_X0_push pa_X0_push ⟨Nat.le_of_ble_eq_true rfl, Nat.le_of_ble_eq_true rfl⟩ (lyc rfl) (q_kV F (fun h2 F => ?_))
        obtain ⟨G2, F⟩ := F
        refine z_iinc (pc := 103) (v := x6 + 1) (ls' := [some (.ref 1), some (.int x1), some (.int x2), some (.int x3), some (.int x4), some (.ref c5), some (.int (x6 + 1))]) dX0_setOffOf_103 (by decide) rfl rfl rfl ?_
        refine z_goto (pc := 106) (tgt := 48) dX0_setOffOf_106 (by decide) ?_
        exact F
theorem g_X0_setOff {x1 : Int32} {x2 : Int32} {h : zHp} {Q : zHp → Prop}  (G : zG h) (F : zcV M_X0_setOffOf [.ref 1, .int (rI h 2 9), .int x1, .int x2] h (fun h1 => zG h1 ∧ (zcV M_X0_setOffOf [.ref 1, .int (1 - (rI h1 2 9)), .int x1, .int x2] h1 (fun h2 => zG h2 ∧ (Q h2))))) : zcV M_X0_setOff [.ref 1, .int x1, .int x2] h Q := by
  show zw zNT zNT M_X0_setOff 0 [some (.ref 1), some (.int x1), some (.int x2)] [] h _
  refine z_aload_n (pc := 0) dX0_setOff_0 rfl rfl ?_
  refine z_aload_n (pc := 1) dX0_setOff_1 rfl rfl ?_
  refine q_getR (pc := 2) (i := 2) dX0_setOff_2 lk_RX0_12 (lyc rfl) (G 1 0 2 rfl) ?_
  refine q_getI (pc := 5) (v := rI h 2 9) dX0_setOff_5 lk_RX0_97 (lyc rfl) rfl ?_
  refine z_iload_n (pc := 8) dX0_setOff_8 rfl rfl ?_
  refine z_iload_n (pc := 9) dX0_setOff_9 rfl rfl ?_
  refine q_invV (pc := 10) (As := [.int (rI h 2 9), .int x1, .int x2]) (st := []) dX0_setOff_10 ok_X0_setOffOf ml_RX0_106 iv_X0_setOffOf pa_X0_setOffOf ⟨Nat.le_of_ble_eq_true rfl, Nat.le_of_ble_eq_true rfl⟩ (lyc rfl) (q_kV F (fun h1 F => ?_))
  obtain ⟨G1, F⟩ := F
  refine z_aload_n (pc := 13) dX0_setOff_13 rfl rfl ?_
  refine z_iconst (pc := 14) (v := 1) dX0_setOff_14 (by decide) ?_
  refine z_aload_n (pc := 15) dX0_setOff_15 rfl rfl ?_
  refine q_getR (pc := 16) (i := 2) dX0_setOff_16 lk_RX0_12 (lyc rfl) (G1 1 0 2 rfl) ?_
  refine q_getI (pc := 19) (v := rI h1 2 9) dX0_setOff_19 lk_RX0_97 (lyc rfl) rfl ?_
  refine z_isub (pc := 22) dX0_setOff_22 ?_
  refine z_iload_n (pc := 23) dX0_setOff_23 rfl rfl ?_
  refine z_iload_n (pc := 24) dX0_setOff_24 rfl rfl ?_
  refine q_invV (pc := 25) (As := [.int (1 - (rI h1 2 9)), .int x1, .int x2]) (st := []) dX0_setOff_25 ok_X0_setOffOf ml_RX0_106 iv_X0_setOffOf pa_X0_setOffOf ⟨Nat.le_of_ble_eq_true rfl, Nat.le_of_ble_eq_true rfl⟩ (lyc rfl) (q_kV F (fun h2 F => ?_))
  obtain ⟨G2, F⟩ := F
  exact q_retV (pc := 28) dX0_setOff_28 rfl F
theorem g_X0_setOffByTurn  {h : zHp} {Q : zHp → Prop}  (G : zG h) (F : zlV M_X0_setOffByTurn 2 [some (.ref 1), some (.int 0)] [] h Q) : zcV M_X0_setOffByTurn [.ref 1] h Q := by
  show zw zNT zNT M_X0_setOffByTurn 0 [some (.ref 1), none] [] h _
  refine z_iconst (pc := 0) (v := 0) dX0_setOffByTurn_0 (by decide) ?_
  refine z_istore_n (pc := 1) (ls' := [some (.ref 1), some (.int 0)]) dX0_setOffByTurn_1 rfl (by decide) rfl ?_
  exact F
theorem g_X0_setOffByTurn_2 {x1 : Int32} {h : zHp} {Q : zHp → Prop}  (G : zG h) (F : (rI h 2 7 ≤ x1 → (Q h)) ∧ (¬ (rI h 2 7 ≤ x1) → (vp_in x1 8 ∧ (zRef h 6 ((Int32.toNatClampNeg x1)) 8 ∧ ((¬ rI h (rG h 6 ((Int32.toNatClampNeg x1))) 0 = rI h 2 9 → (zlV M_X0_setOffByTurn 2 [some (.ref 1), some (.int (x1 + 1))] [] h Q)) ∧ (rI h (rG h 6 ((Int32.toNatClampNeg x1))) 0 = rI h 2 9 → ((¬ rI h (rG h 6 ((Int32.toNatClampNeg x1))) 1 = 2 → (zlV M_X0_setOffByTurn 2 [some (.ref 1), some (.int (x1 + 1))] [] h Q)) ∧ (rI h (rG h 6 ((Int32.toNatClampNeg x1))) 1 = 2 → (zcV M_X0_push [.ref 1, .int x1, .int (-1)] h (fun h1 => zG h1 ∧ (zlV M_X0_setOffByTurn 2 [some (.ref 1), some (.int (x1 + 1))] [] h1 Q))))))))))) : zlV M_X0_setOffByTurn 2 [some (.ref 1), some (.int x1)] [] h Q := by
  refine z_iload_n (pc := 2) dX0_setOffByTurn_2 rfl rfl ?_
  refine z_aload_n (pc := 3) dX0_setOffByTurn_3 rfl rfl ?_
  refine q_getR (pc := 4) (i := 2) dX0_setOffByTurn_4 lk_RX0_12 (lyc rfl) (G 1 0 2 rfl) ?_
  refine q_getI (pc := 7) (v := rI h 2 7) dX0_setOffByTurn_7 lk_RX0_85 (lyc rfl) rfl ?_
  refine z_icmp_ge (pc := 10) (tgt := 63) dX0_setOffByTurn_10 (by decide) (fun k6 => ?_) (fun k6 => ?_)
  · replace F := F.1 k6
    exact q_retV (pc := 63) dX0_setOffByTurn_63 rfl F
  · replace F := F.2 k6
    refine z_aload_n (pc := 13) dX0_setOffByTurn_13 rfl rfl ?_
    refine q_getR (pc := 14) (i := 2) dX0_setOffByTurn_14 lk_RX0_12 (lyc rfl) (G 1 0 2 rfl) ?_
    refine q_getR (pc := 17) (i := 6) dX0_setOffByTurn_17 lk_RX0_88 (lyc rfl) (G 2 6 6 rfl) ?_
    refine z_iload_n (pc := 20) dX0_setOffByTurn_20 rfl rfl ?_
    obtain ⟨k1, F⟩ := F
    obtain ⟨k2, F⟩ := F
    refine q_aald (pc := 21) (j := (Int32.toNatClampNeg x1)) (r := rG h 6 ((Int32.toNatClampNeg x1))) (t := 3) dX0_setOffByTurn_21 (lyc rfl) (zvn (lnc rfl) k1) rfl k2.1 ?_
    refine q_getI (pc := 22) (v := rI h (rG h 6 ((Int32.toNatClampNeg x1))) 0) dX0_setOffByTurn_22 lk_RX0_92 k2.2 rfl ?_
    refine z_aload_n (pc := 25) dX0_setOffByTurn_25 rfl rfl ?_
    refine q_getR (pc := 26) (i := 2) dX0_setOffByTurn_26 lk_RX0_12 (lyc rfl) (G 1 0 2 rfl) ?_
    refine q_getI (pc := 29) (v := rI h 2 9) dX0_setOffByTurn_29 lk_RX0_97 (lyc rfl) rfl ?_
    refine z_icmp_ne (pc := 32) (tgt := 57) dX0_setOffByTurn_32 (by decide) (fun k5 => ?_) (fun k5 => ?_)
    · replace F := F.1 k5
      refine z_iinc (pc := 57) (v := x1 + 1) (ls' := [some (.ref 1), some (.int (x1 + 1))]) dX0_setOffByTurn_57 (by decide) rfl rfl rfl ?_
      refine z_goto (pc := 60) (tgt := 2) dX0_setOffByTurn_60 (by decide) ?_
      exact F
    · replace F := F.2 k5
      refine z_aload_n (pc := 35) dX0_setOffByTurn_35 rfl rfl ?_
      refine q_getR (pc := 36) (i := 2) dX0_setOffByTurn_36 lk_RX0_12 (lyc rfl) (G 1 0 2 rfl) ?_
      refine q_getR (pc := 39) (i := 6) dX0_setOffByTurn_39 lk_RX0_88 (lyc rfl) (G 2 6 6 rfl) ?_
      refine z_iload_n (pc := 42) dX0_setOffByTurn_42 rfl rfl ?_
      refine q_aald (pc := 43) (j := (Int32.toNatClampNeg x1)) (r := rG h 6 ((Int32.toNatClampNeg x1))) (t := 3) dX0_setOffByTurn_43 (lyc rfl) (zvn (lnc rfl) k1) rfl k2.1 ?_
      refine q_getI (pc := 44) (v := rI h (rG h 6 ((Int32.toNatClampNeg x1))) 1) dX0_setOffByTurn_44 lk_RX0_100 k2.2 rfl ?_
      refine z_iconst (pc := 47) (v := 2) dX0_setOffByTurn_47 (by decide) ?_
      refine z_icmp_ne (pc := 48) (tgt := 57) dX0_setOffByTurn_48 (by decide) (fun k4 => ?_) (fun k4 => ?_)
      · replace F := F.1 k4
        refine z_iinc (pc := 57) (v := x1 + 1) (ls' := [some (.ref 1), some (.int (x1 + 1))]) dX0_setOffByTurn_57 (by decide) rfl rfl rfl ?_
        refine z_goto (pc := 60) (tgt := 2) dX0_setOffByTurn_60 (by decide) ?_
        exact F
      · replace F := F.2 k4
        refine z_aload_n (pc := 51) dX0_setOffByTurn_51 rfl rfl ?_
        refine z_iload_n (pc := 52) dX0_setOffByTurn_52 rfl rfl ?_
        refine z_iconst (pc := 53) (v := -1) dX0_setOffByTurn_53 (by decide) ?_
        refine q_invV (pc := 54) (As := [.int x1, .int (-1)]) (st := []) dX0_setOffByTurn_54 ok_X0_push ml_RX0_103 iv_X0_push pa_X0_push ⟨Nat.le_of_ble_eq_true rfl, Nat.le_of_ble_eq_true rfl⟩ (lyc rfl) (q_kV F (fun h1 F => ?_))
        obtain ⟨G1, F⟩ := F
        refine z_iinc (pc := 57) (v := x1 + 1) (ls' := [some (.ref 1), some (.int (x1 + 1))]) dX0_setOffByTurn_57 (by decide) rfl rfl rfl ?_
        refine z_goto (pc := 60) (tgt := 2) dX0_setOffByTurn_60 (by decide) ?_
        exact F
theorem s_X0_push {w t : Int32} {s : Stk} {h : zHp} (G : zG h) (hS : SC h s) (hn : s.2.2 < 400) : zcV M_X0_push [.ref 1, .int w, .int t] h (fun h' => fS h h' ∧ SC h' (psh s w t)) := by
  refine g_X0_push G ?_
  rw [hS.1, nI_clamp (by omega), nI_1]
  refine ⟨fun q => absurd q (nI_pos (by omega)), fun _ => ⟨fun q => absurd q (nI_ge (b := 400) hn (by omega)), fun _ => ⟨vp_in_nI hn (by omega), ⟨rfl, fun a z1 z2 z3 => by rw [wI_ne z1, wI_ne z3, wI_ne z2], fun k hk => ?_⟩, rI_s, fun i hi => ⟨?_, ?_⟩⟩⟩⟩
  · show rI _ 1 k = _
    rw [rI_k hk, rI_c (by decide), rI_c (by decide)]
    rfl
  · rw [rI_c (by decide), rI_c (by decide)]
    by_cases q : i = s.2.2
    · rw [q, rI_s]; simp [psh, upd]
    · rw [rI_k q]
      simp only [psh, upd, if_neg q]
      exact (hS.2 i (by change i < s.2.2 + 1 at hi; omega)).1
  · rw [rI_c (by decide)]
    by_cases q : i = s.2.2
    · rw [q, rI_s]; simp [psh, upd]
    · rw [rI_k q, rI_c (by decide)]
      simp only [psh, upd, if_neg q]
      exact (hS.2 i (by change i < s.2.2 + 1 at hi; omega)).2
theorem s_X0_setOffOf {on set ow : Int32} {s : Stk} {N : zN} {h : zHp} (G : zG h) (hC : CN N) (hP : PW h 2) (hR : RW h 2 N) (hW : WN N) (hS : SC h s) (hn : (SO N (VL h 42) on set ow s).2.2 ≤ 400) : zcV M_X0_setOffOf [.ref 1, .int ow, .int on, .int set] h (fun h' => fS h h' ∧ SC h' (SO N (VL h 42) on set ow s)) := by
  have h8 := hC.1.2
  have v8 := hC.2.2.2.2
  have hB : zW 2 := Or.inl rfl
  have hmono : ∀ (w : Nat) (s : Stk), s.2.2 ≤ (soT (fun t => bi set (nI t) ∧ t < cT N ∧ Sc N (VL h 42) (N (182 + 7 * w + 5)) (N (182 + 7 * w + 6)) t) (nI w) 8 s).2.2 := fun w s => by rw [soT_cnt]; omega
  have loop : ∀ (m j : Nat) (h' : zHp), j + m = cV N → fS h h' → SC h' (soW (fun w => N (182 + 7 * w) = ow ∧ N (182 + 7 * w + 1) = on) (fun w s => soT (fun t => bi set (nI t) ∧ t < cT N ∧ Sc N (VL h 42) (N (182 + 7 * w + 5)) (N (182 + 7 * w + 6)) t) (nI w) 8 s) j s) → zlV M_X0_setOffOf 3 [some (.ref 1), some (.int ow), some (.int on), some (.int set), some (.int (nI j)), none, none] [] h' (fun h' => fS h h' ∧ SC h' (SO N (VL h 42) on set ow s)) := by
    intro m
    induction m with
    | zero =>
      intro j h' hj f c
      have : j = cV N := by omega
      subst this
      have hR' := f.rw hP hC hR
      exact g_X0_setOffOf_3 (zG_of f.1 G) ⟨fun _ => ⟨f, c⟩, fun q => absurd (by rw [hR'.1.2.2.2.1, hC.2.2.2.1]; exact Int32.le_refl _) q⟩
    | succ m ih =>
      intro j h' hj f c
      have hjn : j < cV N := by omega
      have hR' := f.rw hP hC hR
      have hP' := PW_of f.1 hP
      have er : rG h' 6 j = rG h 6 j := rG_of f.1 _ _
      refine g_X0_setOffOf_3 (zG_of f.1 G) ⟨fun q => absurd q (by rw [hR'.1.2.2.2.1, hC.2.2.2.1]; exact nI_ge hjn (by omega)), fun _ => ⟨vp_in_nI (by omega) (by omega), ?_⟩⟩
      rw [nI_clamp (by omega)]
      have w0 := hR'.2.2.2.2 j 0 hjn (by omega)
      have w1 := hR'.2.2.2.2 j 1 hjn (by omega)
      change rI h' (rG h' 6 j) 0 = _ at w0
      change rI h' (rG h' 6 j) 1 = _ at w1
      rw [w0, w1]
      refine ⟨hP'.v hB (by omega), fun q => ?_, fun q => ⟨fun q2 => ?_, fun q2 => ?_⟩⟩
      · rw [nI_1]; exact ih (j + 1) h' (by omega) f (by rw [soW_0 (fun z => q z.1)]; exact c)
      · rw [nI_1]; exact ih (j + 1) h' (by omega) f (by rw [soW_0 (fun z => q2 z.2)]; exact c)
      · have fin := soW_1 (sel := fun w => N (182 + 7 * w) = ow ∧ N (182 + 7 * w + 1) = on) (f := fun w s => soT (fun t => bi set (nI t) ∧ t < cT N ∧ Sc N (VL h 42) (N (182 + 7 * w + 5)) (N (182 + 7 * w + 6)) t) (nI w) 8 s) (s := s) ⟨q, q2⟩
        have top := soW_mono (sel := fun w => N (182 + 7 * w) = ow ∧ N (182 + 7 * w + 1) = on) (s := s) hmono (j + 1) (cV N) (by omega)
        rw [fin] at top
        change _ ≤ (SO N (VL h 42) on set ow s).2.2 at top
        generalize hs0 : soW (fun w => N (182 + 7 * w) = ow ∧ N (182 + 7 * w + 1) = on) (fun w s => soT (fun t => bi set (nI t) ∧ t < cT N ∧ Sc N (VL h 42) (N (182 + 7 * w + 5)) (N (182 + 7 * w + 6)) t) (nI w) 8 s) j s = s0 at c fin top
        have lc := (hP'.v hB (show j < 8 by omega)).2
        have in8 := soT_stop (p := fun t => bi set (nI t) ∧ t < cT N ∧ Sc N (VL h 42) (N (182 + 7 * j + 5)) (N (182 + 7 * j + 6)) t) (w := nI j) (s := s0) (n := cT N) (fun t ht z => by have := z.2.1; omega) 8 h8
        have l48 : ∀ (m2 t : Nat) (h2 : zHp), t + m2 = cT N → fS h h2 → SC h2 (soT (fun t => bi set (nI t) ∧ t < cT N ∧ Sc N (VL h 42) (N (182 + 7 * j + 5)) (N (182 + 7 * j + 6)) t) (nI j) t s0) → zlV M_X0_setOffOf 48 [some (.ref 1), some (.int ow), some (.int on), some (.int set), some (.int (nI j)), some (.ref (rG h 6 j)), some (.int (nI t))] [] h2 (fun h' => fS h h' ∧ SC h' (SO N (VL h 42) on set ow s)) := by
          intro m2
          rw [er] at lc
          induction m2 with
          | zero =>
            intro t h2 ht f2 c2
            have : t = cT N := by omega
            subst this
            have hR2 := f2.rw hP hC hR
            refine g_X0_setOffOf_48 lc (zG_of f2.1 G) ⟨fun _ => ?_, fun z => absurd (by rw [hR2.1.1, hC.1.1]; exact Int32.le_refl _) z⟩
            rw [nI_1]
            exact ih (j + 1) h2 (by omega) f2 (by rw [fin, in8]; exact c2)
          | succ m2 ih2 =>
            intro t h2 ht f2 c2
            have htn : t < cT N := by omega
            have hR2 := f2.rw hP hC hR
            have e2 : rG h2 6 j = rG h 6 j := rG_of f2.1 _ _
            have w5 := hR2.2.2.2.2 j 5 hjn (by omega)
            have w6 := hR2.2.2.2.2 j 6 hjn (by omega)
            change rI h2 (rG h2 6 j) 5 = _ at w5
            change rI h2 (rG h2 6 j) 6 = _ at w6
            rw [e2] at w5 w6
            refine g_X0_setOffOf_48 lc (zG_of f2.1 G) ⟨fun z => absurd z (by rw [hR2.1.1, hC.1.1]; exact nI_ge htn (by omega)), fun _ => ⟨fun z => ?_, fun z => ?_⟩⟩
            · rw [nI_1]; exact ih2 (t + 1) h2 (by omega) f2 (by rw [soT_0 (fun y => bi_0.mp z y.1)]; exact c2)
            · rw [w5, w6]
              refine zcI_use (s_X2_holds (zG_of f2.1 G) (Or.inl rfl) hB hC hR2 hW) ⟨zG_of f2.1 G, fun y => ?_, fun y => ?_⟩
              · rw [nI_1]
                exact ih2 (t + 1) h2 (by omega) f2 (by rw [soT_0 (fun x => zb0.mp y (by rw [ScI_n hC htn, f2.vl]; exact x.2.2))]; exact c2)
              · have y1 := zbn.mp y
                rw [ScI_n hC htn, f2.vl] at y1
                have p1 := soT_1 (p := fun t => bi set (nI t) ∧ t < cT N ∧ Sc N (VL h 42) (N (182 + 7 * j + 5)) (N (182 + 7 * j + 6)) t) (w := nI j) (s := s0) (n := t) ⟨bi_n0.mp z, htn, y1⟩
                have k1 := soT_cnt (p := fun t => bi set (nI t) ∧ t < cT N ∧ Sc N (VL h 42) (N (182 + 7 * j + 5)) (N (182 + 7 * j + 6)) t) (w := nI j) (s := s0) (t + 1)
                have k2 := soT_cnt (p := fun t => bi set (nI t) ∧ t < cT N ∧ Sc N (VL h 42) (N (182 + 7 * j + 5)) (N (182 + 7 * j + 6)) t) (w := nI j) (s := s0) 8
                have k4 : ∀ a b, a ≤ b → nb a (fun t => bi set (nI t) ∧ t < cT N ∧ Sc N (VL h 42) (N (182 + 7 * j + 5)) (N (182 + 7 * j + 6)) t) ≤ nb b (fun t => bi set (nI t) ∧ t < cT N ∧ Sc N (VL h 42) (N (182 + 7 * j + 5)) (N (182 + 7 * j + 6)) t) := by
                  intro a b hab
                  induction b with
                  | zero => rw [show a = 0 by omega]; exact Nat.le_refl _
                  | succ b ihb =>
                    rcases Nat.lt_or_ge b a with u | u
                    · rw [show a = b + 1 by omega]; exact Nat.le_refl _
                    · exact Nat.le_trans (ihb u) (by rw [nb]; omega)
                have k3 := k4 (t + 1) 8 (by omega)
                rw [p1] at k1
                change (soT _ (nI j) t s0).2.2 + 1 = _ at k1
                refine zcV_then (s_X0_push (zG_of f2.1 G) c2 (by omega)) (fun h3 hh => ?_)
                refine ⟨zG_of (hh.1.1.trans f2.1) G, ?_⟩
                rw [nI_1]
                exact ih2 (t + 1) h3 (by omega) (f2.tr hh.1) (by rw [p1]; exact hh.2)
        rw [er]
        exact l48 (cT N) 0 h' (by omega) f c
  exact g_X0_setOffOf G (loop (cV N) 0 h (by omega) fS.rf hS)
theorem SO_le {N L : zN} {on set ow : Int32} {s : Stk} : s.2.2 ≤ (SO N L on set ow s).2.2 := by
  unfold SO
  exact soW_mono (fun w s => by rw [soT_cnt]; omega) 0 _ (by omega)
theorem s_X0_setOff {on set : Int32} {s : Stk} {N : zN} {h : zHp} (G : zG h) (hC : CN N) (hP : PW h 2) (hR : RW h 2 N) (hW : WN N) (hS : SC h s) (hn : (SOff N (VL h 42) on set s).2.2 ≤ 400) : zcV M_X0_setOff [.ref 1, .int on, .int set] h (fun h' => fS h h' ∧ SC h' (SOff N (VL h 42) on set s)) := by
  refine g_X0_setOff G ?_
  rw [hR.1.2.2.2.2.2.2.1]
  unfold SOff at hn ⊢
  refine zcV_then (s_X0_setOffOf G hC hP hR hW hS (Nat.le_trans SO_le hn)) (fun h1 hh => ⟨zG_of hh.1.1 G, ?_⟩)
  have hR1 := hh.1.rw hP hC hR
  rw [hR1.1.2.2.2.2.2.2.1]
  have e := hh.1.vl
  refine zcV_then (s_X0_setOffOf (zG_of hh.1.1 G) hC (PW_of hh.1.1 hP) hR1 hW hh.2 (by rw [e]; exact hn)) (fun h2 h3 => ⟨zG_of (h3.1.1.trans hh.1.1) G, hh.1.tr h3.1, ?_⟩)
  rw [e] at h3
  exact h3.2

