/-! calls: set, clear -/
def fitB (k v : Int32) : Prop := (k = 1 ∧ ((0 : Int32) ≤ v ∧ v ≤ 5)) ∨ (k = 2 ∧ ((0 : Int32) ≤ v ∧ v ≤ 99)) ∨ (k = 3 ∧ ((0 : Int32) ≤ v ∧ v ≤ 99)) ∨ (k = 4 ∧ ((0 : Int32) ≤ v ∧ v ≤ 999))
theorem s_X10_fitsBase {k v : Int32} {h : zHp} (G : zG h) : zcI M_X10_fitsBase [.int k, .int v] h (fun r h' => r = zb (fitB k v) ∧ h' = h) := by
  refine g_X10_fitsBase G ?_
  unfold fitB
  refine ⟨fun z => ⟨?_, rfl⟩, fun z1 => ⟨fun z => ⟨?_, rfl⟩, fun z2 => ⟨fun z => ⟨?_, rfl⟩, fun z3 => ⟨fun z => ⟨?_, rfl⟩, fun z4 => ⟨?_, rfl⟩⟩⟩⟩⟩
  · subst z; exact zb_congr ⟨fun y => Or.inl ⟨rfl, y⟩, fun y => by rcases y with y | y | y | y; exact y.2; all_goals exact absurd y.1 (by decide)⟩
  · subst z; exact zb_congr ⟨fun y => Or.inr (Or.inl ⟨rfl, y⟩), fun y => by rcases y with y | y | y | y; exact absurd y.1 (by decide); exact y.2; all_goals exact absurd y.1 (by decide)⟩
  · subst z; exact zb_congr ⟨fun y => Or.inr (Or.inr (Or.inl ⟨rfl, y⟩)), fun y => by rcases y with y | y | y | y; exact absurd y.1 (by decide); exact absurd y.1 (by decide); exact y.2; exact absurd y.1 (by decide)⟩
  · subst z; exact zb_congr ⟨fun y => Or.inr (Or.inr (Or.inr ⟨rfl, y⟩)), fun y => by rcases y with y | y | y | y; exact absurd y.1 (by decide); exact absurd y.1 (by decide); exact absurd y.1 (by decide); exact y.2⟩
  · exact (zb_neg (fun y => by rcases y with y | y | y | y; exact z1 y.1; exact z2 y.1; exact z3 y.1; exact z4 y.1)).symm
theorem fitB_n {k v : Int32} (h : fitB k v) : ∃ n, 1 ≤ n ∧ n ≤ 4 ∧ k = nI n ∧ ((n = 2 ∨ n = 3) → iv 0 99 v) ∧ (n = 4 → iv 0 999 v) := by
  rcases h with z | z | z | z
  · exact ⟨1, by omega, by omega, z.1, fun y => by omega, fun y => by omega⟩
  · exact ⟨2, by omega, by omega, z.1, fun y => iv_of z.2 rfl rfl, fun y => by omega⟩
  · exact ⟨3, by omega, by omega, z.1, fun y => iv_of z.2 rfl rfl, fun y => by omega⟩
  · exact ⟨4, by omega, by omega, z.1, fun y => by omega, fun y => iv_of z.2 rfl rfl⟩
theorem s_X6_change {c n : Nat} {v : Int32} {h : zHp} (G : zG h) (hc : ly c = 7) (h1 : 1 ≤ n) (h4 : n ≤ 4) : zcI M_X6_change [.ref c, .int (nI n), .int v] h (fun r h' => r = rI h c n ∧ h' = wI h c n v) := by
  refine g_X6_change hc G ?_
  rcases (by omega : n = 1 ∨ n = 2 ∨ n = 3 ∨ n = 4) with z | z | z | z <;> subst z
  · exact ⟨fun _ => ⟨rfl, rfl⟩, fun z => absurd rfl z⟩
  · exact ⟨fun z => absurd z (by decide), fun _ => ⟨fun _ => ⟨rfl, rfl⟩, fun z => absurd rfl z⟩⟩
  · exact ⟨fun z => absurd z (by decide), fun _ => ⟨fun z => absurd z (by decide), fun _ => ⟨fun _ => ⟨rfl, rfl⟩, fun z => absurd rfl z⟩⟩⟩
  · exact ⟨fun z => absurd z (by decide), fun _ => ⟨fun z => absurd z (by decide), fun _ => ⟨fun z => absurd z (by decide), fun _ => ⟨rfl, rfl⟩⟩⟩⟩
theorem set_CQ {N : zN} {t n : Nat} {v : Int32} (hC : CN N) (hQ : WQ N) (ht : t < cT N) (h1 : 1 ≤ n) (h4 : n ≤ 4) (b : (n = 2 ∨ n = 3) → iv 0 99 v) (b4 : n = 4 → iv 0 999 v) : CN (upd N (10 * t + n) v) ∧ WQ (upd N (10 * t + n) v) := by
  refine upd_CQ hC hQ ht (by omega) ?_
  have q := hQ.1 t ht
  unfold QT
  rw [pk_un (show 10 * t ≠ 10 * t + n by omega), pk_un (show 10 * t + 5 ≠ 10 * t + n by omega), pk_un (show 10 * t + 8 ≠ 10 * t + n by omega)]
  rcases (by omega : n = 1 ∨ n = 2 ∨ n = 3 ∨ n = 4) with z | z | z | z <;> subst z
  · rw [pk_un (by omega), pk_un (by omega), pk_un (by omega)]
    exact q
  · rw [pk_us, pk_un (by omega), pk_un (by omega)]
    exact ⟨q.1, q.2.1, b (Or.inl rfl), q.2.2.2⟩
  · rw [pk_un (by omega), pk_us, pk_un (by omega)]
    exact ⟨q.1, q.2.1, q.2.2.1, b (Or.inr rfl), q.2.2.2.2⟩
  · rw [pk_un (by omega), pk_un (by omega), pk_us]
    exact ⟨q.1, q.2.1, q.2.2.1, q.2.2.2.1, b4 rfl, q.2.2.2.2.2⟩
noncomputable def o_set (N : zN) (t k v : Int32) : Int32 × zN := @ite _ ((0 ≤ t ∧ t ≤ N 238 - 1) ∧ fitB k v) (Classical.propDecidable _) (if N (10 * t.toNatClampNeg + 5) = 1 then (N (10 * t.toNatClampNeg + k.toNatClampNeg), RF (upd N (10 * t.toNatClampNeg + k.toNatClampNeg) v)) else (-3, N)) (-2, N)
theorem sim_set {t k v : Int32} : Sim M_X10_set M_X11_set [.int t, .int k, .int v] := by
  refine simW (ans := fun N => (o_set N t k v).1) (F := fun N => (o_set N t k v).2) (fun h N G q I => ?_) (fun h N G q e top => ?_) (fun N q => ?_)
  · obtain ⟨hC, hQ, hS⟩ := q
    obtain ⟨hP, hR, hL, ht⟩ := I
    have h8 := hC.1.2
    have bad : ¬ ((0 ≤ t ∧ t ≤ N 238 - 1) ∧ fitB k v) → (-2 = (o_set N t k v).1 ∧ fZ h h ∧ IC h (o_set N t k v).2) := fun z => by
      unfold o_set
      rw [if_neg z]
      exact ⟨rfl, fZ.rf, hP, hR, hL, ht⟩
    refine g_X10_set G ?_
    rw [hR.1.1]
    refine ⟨fun z => bad (fun y => z y.1), fun z => zcI_use (s_X10_fitsBase G) ⟨G, fun y => ?_, fun y => bad (fun x => (zb0.mp y) x.2)⟩⟩
    have fb := zbn.mp y
    have z0 := z
    rw [hC.1.1] at z
    obtain ⟨j, hj, rfl⟩ := zsm (by omega) z
    obtain ⟨n, n1, n4, rfl, b1, b2⟩ := fitB_n fb
    have w5 : rI h (8 + j) 5 = N (10 * j + 5) := hR.2.1 j 5 hj (by omega)
    have wn : rI h (8 + j) n = N (10 * j + n) := hR.2.1 j n hj (by omega)
    rw [nI_clamp (by omega), w5]
    unfold o_set
    rw [if_pos ⟨z0, fb⟩, nI_clamp (by omega), nI_clamp (by omega)]
    refine ⟨vp_in_nI (by omega) (by omega), fun x => ?_, fun x => ?_⟩
    · rw [if_pos ((hQ.n.1 j hj).resolve_left x)]
      obtain ⟨c1, c2⟩ := set_CQ (v := v) hC hQ hj n1 n4 b1 b2
      refine zcI_use (s_X6_change G (lyT (B := 2) (Or.inl rfl) (by omega)) n1 n4) ⟨zG_of rfl G, ?_⟩
      have t1 : ∃ m, rI (wI h (8 + j) n v) 1 5 = nI m := by
        obtain ⟨m, hm⟩ := ht
        exact ⟨m, by rw [rI_c (by omega)]; exact hm⟩
      have f1 : fW h (wI h (8 + j) n v) := fW.w (by omega)
      exact zcV_then (s_settleF (zG_of rfl G) c1 c2 (PW_of rfl hP) (RW_uT hP hC hR hj (by omega)) t1) (fun h2 hh => ⟨hh.1.g (zG_of rfl G), wn, f1.z.tr hh.1.z, hh.2⟩)
    · rw [if_neg (by rw [x]; decide)]
      exact ⟨rfl, fZ.rf, hP, hR, hL, ht⟩
  · obtain ⟨hC, hQ, hS⟩ := q
    have h8 := hC.1.2
    have bad : ¬ ((0 ≤ t ∧ t ≤ N 238 - 1) ∧ fitB k v) → (-2 = (o_set N t k v).1 ∧ fV h h ∧ h.1 165 = (o_set N t k v).2 ∧ ∃ n, rI h 164 10 = nI n) := fun z => by
      unfold o_set
      rw [if_neg z]
      exact ⟨rfl, fV.rf, e, top⟩
    refine g_X11_set G ?_
    rw [rdN e]
    refine ⟨fun z => bad (fun y => z y.1), fun z => ⟨fun y => bad (fun x => ?_), fun y => ?_⟩⟩
    · obtain ⟨n, n1, n4, rfl, -⟩ := fitB_n x.2
      exact y ⟨nI_le (a := 1) n1 (by omega), nI_le (b := 4) n4 (by omega)⟩
    have fin : ∀ top' : Int32, (fitB k v ↔ ((0 : Int32) ≤ v ∧ v ≤ top')) → zlI M_X11_set 41 [some (.ref 164), some (.int t), some (.int k), some (.int v), none] [.int top', .int 0, .int v] h (fun v1 h1 => v1 = (o_set N t k v).1 ∧ fV h h1 ∧ h1.1 165 = (o_set N t k v).2 ∧ ∃ n, rI h1 164 10 = nI n) := by
      intro top' ft
      refine g_X11_set_41 G ⟨fun x => ?_, fun x => bad (fun w => x (ft.mp w.2))⟩
      have fb := ft.mpr x
      have z0 := z
      rw [hC.1.1] at z
      obtain ⟨j, hj, rfl⟩ := zsm (by omega) z
      obtain ⟨n, n1, n4, rfl, b1, b2⟩ := fitB_n fb
      have i := ixT (t := j) (k := n) (by omega) (by omega)
      have e238 : rI h 165 238 = nI (cT N) := by rw [rdN e]; exact hC.1.1
      rw [i.2, rdN e (10 * j + n)]
      unfold o_set
      rw [if_pos ⟨z0, fb⟩, nI_clamp (by omega), nI_clamp (by omega)]
      refine ⟨⟨cT N, h8, e238⟩, fun w => ⟨i.1, i.1, ?_⟩, fun w => ?_⟩
      · have al : N (10 * j + 5) = 1 := by have := (aliveM_nI e238 h8 hj).mp w; rw [e] at this; exact this
        rw [if_pos al]
        obtain ⟨c1, c2⟩ := set_CQ (v := v) hC hQ hj n1 n4 b1 b2
        have e1 : (wI h 165 (10 * j + n) v).1 165 = upd N (10 * j + n) v := wI_s1 e
        have t1 : ∃ m, rI (wI h 165 (10 * j + n) v) 164 10 = nI m := by
          obtain ⟨m, hm⟩ := top
          exact ⟨m, by rw [rI_c (by decide)]; exact hm⟩
        exact zcI_then (s_X11_changed (zG_of rfl G) c1 e1 t1) (fun v1 h2 hh => ⟨zG_of hh.2.1.1 (zG_of rfl G), hh.1, fV.w.tr hh.2.1, hh.2.2⟩)
      · have al : ¬ N (10 * j + 5) = 1 := fun y => w ((aliveM_nI e238 h8 hj).mpr (by rw [e]; exact y))
        rw [if_neg al]
        exact ⟨rfl, fV.rf, e, top⟩
    refine ⟨fun x1 => ⟨fun x4 => fin 99 ?_, fun x4 => fin 999 ?_⟩, fun x1 => fin 5 ?_⟩
    · obtain ⟨n, hn, rfl⟩ := nI_of2 (M := 4) (n := 4) rfl (Int32.not_lt.mpr (Int32.le_trans (by decide) y.1)) y.2
      have h1 : 1 ≤ n := (nI_leI (a := 1) (by omega) (by omega)).mp y.1
      rcases (by omega : n = 1 ∨ n = 2 ∨ n = 3 ∨ n = 4) with z | z | z | z <;> subst z
      · exact absurd rfl x1
      · exact ⟨fun w => by rcases w with w | w | w | w; exact absurd w.1 (by decide); exact w.2; all_goals exact absurd w.1 (by decide), fun w => Or.inr (Or.inl ⟨rfl, w⟩)⟩
      · exact ⟨fun w => by rcases w with w | w | w | w; exact absurd w.1 (by decide); exact absurd w.1 (by decide); exact w.2; exact absurd w.1 (by decide), fun w => Or.inr (Or.inr (Or.inl ⟨rfl, w⟩))⟩
      · exact absurd rfl x4
    · subst x4
      exact ⟨fun w => by rcases w with w | w | w | w; exact absurd w.1 (by decide); exact absurd w.1 (by decide); exact absurd w.1 (by decide); exact w.2, fun w => Or.inr (Or.inr (Or.inr ⟨rfl, w⟩))⟩
    · subst x1
      exact ⟨fun w => by rcases w with w | w | w | w; exact w.2; all_goals exact absurd w.1 (by decide), fun w => Or.inl ⟨rfl, w⟩⟩
  · show IQ (o_set N t k v).2
    unfold o_set
    by_cases ok : (0 ≤ t ∧ t ≤ N 238 - 1) ∧ fitB k v
    · rw [if_pos ok]
      obtain ⟨z, fb⟩ := ok
      have h8 := q.1.1.2
      rw [q.1.1.1] at z
      obtain ⟨j, hj, rfl⟩ := zsm (by omega) z
      obtain ⟨n, n1, n4, rfl, b1, b2⟩ := fitB_n fb
      rw [nI_clamp (by omega), nI_clamp (by omega)]
      by_cases al : N (10 * j + 5) = 1
      · rw [if_pos al]
        obtain ⟨c1, c2⟩ := set_CQ (v := v) q.1 q.2.1 hj n1 n4 b1 b2
        exact RF_IQ c1 c2
      · rw [if_neg al]; exact q
    · rw [if_neg ok]; exact q
/-- all is cleared but the draws -/
def cl (N : zN) : zN := fun i => if i < 245 then 0 else N i
theorem cl_n {N : zN} : CN (cl N) ∧ cT (cl N) = 0 ∧ cE (cl N) = 0 ∧ cR (cl N) = 0 ∧ cV (cl N) = 0 := by
  have e : ∀ i, i < 245 → cl N i = 0 := fun i hi => by unfold cl; rw [if_pos hi]
  have a : cT (cl N) = 0 := by unfold cT; rw [e _ (by decide)]; rfl
  have b : cE (cl N) = 0 := by unfold cE; rw [e _ (by decide)]; rfl
  have c : cR (cl N) = 0 := by unfold cR; rw [e _ (by decide)]; rfl
  have d : cV (cl N) = 0 := by unfold cV; rw [e _ (by decide)]; rfl
  refine ⟨⟨?_, ?_, ?_, ?_⟩, a, b, c, d⟩
  · rw [a, e _ (by decide)]; exact ⟨rfl, by omega⟩
  · rw [b, e _ (by decide)]; exact ⟨rfl, by omega⟩
  · rw [c, e _ (by decide)]; exact ⟨rfl, by omega⟩
  · rw [d, e _ (by decide)]; exact ⟨rfl, by omega⟩
theorem cl_IQ {N : zN} : IQ (cl N) := by
  obtain ⟨a, b, c, d, e⟩ := cl_n (N := N)
  refine ⟨a, ⟨fun t ht => by omega, fun t ht => by omega, fun t ht => by omega, fun t ht => by omega⟩, ?_⟩
  unfold St Dy
  rw [b]
  rfl
theorem sim_clear : Sim M_X10_clear M_X11_clear [] := by
  intro h I
  obtain ⟨G, iq, ic, io⟩ := I
  obtain ⟨hP, hR, hL, ht⟩ := ic
  obtain ⟨c1, c2, c3, c4, c5⟩ := cl_n (N := h.1 165)
  have q1 := cl_IQ (N := h.1 165)
  have e0 : ∀ i, i < 245 → cl (h.1 165) i = 0 := fun i hi => by unfold cl; rw [if_pos hi]
  refine g_X10_clear G (g_X8_empty (Or.inl rfl) G ⟨zG_of rfl G, ?_⟩)
  have rw1 : RW (wI (wI (wI (wI (wI (wI (wI (wI h 2 1 0) 2 3 0) 2 5 0) 2 7 0) (2 + 5) 0 0) (2 + 5) 1 0) 2 9 0) 0 11 0) 2 (cl (h.1 165)) := by
    refine ⟨⟨?_, ?_, ?_, ?_, ?_, ?_, ?_, ?_⟩, fun t k h1 _ => by omega, fun t k h1 _ => by omega, fun t k h1 _ => by omega, fun t k h1 _ => by omega⟩
    · rw [e0 _ (by decide)]; simp [rI, wI]
    · rw [e0 _ (by decide)]; simp [rI, wI]
    · rw [e0 _ (by decide)]; simp [rI, wI]
    · rw [e0 _ (by decide)]; simp [rI, wI]
    · rw [e0 _ (by decide)]; simp [rI, wI]
    · rw [e0 _ (by decide)]; simp [rI, wI]
    · rw [e0 _ (by decide)]; simp [rI, wI]
    · have := hR.1.2.2.2.2.2.2.2
      rw [show cl (h.1 165) 245 = h.1 165 245 from rfl, ← this]; simp [rI, wI]
  have mk := s_X2_make (K := 42) (B := 2) (u := 5) (h := wI (wI (wI (wI (wI (wI (wI (wI h 2 1 0) 2 3 0) 2 5 0) 2 7 0) (2 + 5) 0 0) (2 + 5) 1 0) 2 9 0) 0 11 0) (zG_of rfl G) (Or.inl rfl) (Or.inl rfl) c1 (PW_of rfl hP) rw1 q1.2.1.n (by omega)
  rw [show nI 5 = (5 : Int32) from rfl] at mk
  refine zcV_then mk (fun h1 m1 => ⟨zG_of m1.1 G, zG_of m1.1 G, ?_⟩)
  have G1 : zG h1 := zG_of m1.1 G
  have fr : ∀ a, a ≠ 0 → a ≠ 2 → a ≠ 7 → (a < 42 ∨ 48 ≤ a) → h1.1 a = h.1 a := fun a z1 z2 z3 z4 => by
    rw [m1.2.1 a z4]
    funext b
    simp [wI, z1, z2, z3]
  have f0 : ∀ k, k ≠ 11 → rI h1 0 k = rI h 0 k := fun k hk => by
    show h1.1 0 k = _
    rw [m1.2.1 0 (by omega)]
    simp [rI, wI, hk]
  have f11 : rI h1 0 11 = 0 := by
    show h1.1 0 11 = _
    rw [m1.2.1 0 (by omega)]
    simp [wI]
  have e165 : h1.1 165 = h.1 165 := fr 165 (by decide) (by decide) (by decide) (by omega)
  have loop : ∀ (m j : Nat), j + m = 246 → zlI M_X11_clear 20 [some (.ref 164), some (.int (h.1 165 238)), some (.int (h.1 165 245)), some (.int (nI j))] [] (wA h1 165 (fun i => if i < j then 0 else h.1 165 i)) (fun v h2 => v = h.1 165 238 ∧ h2 = wI (wA h1 165 (cl (h.1 165))) 164 19 0) := by
    intro m
    induction m with
    | zero =>
      intro j hj
      have : j = 246 := by omega
      subst this
      refine g_X11_clear_20 (zG_of rfl G1) ⟨fun _ => ⟨rfl, ?_⟩, fun z => absurd (by decide) z⟩
      rw [wA_wI]
      congr 2
      funext i
      unfold upd cl
      dsimp only
      by_cases z : i = 245
      · rw [if_pos z, if_neg (by omega), z]
      · rw [if_neg z]
        by_cases y : i < 246
        · rw [if_pos y, if_pos (by omega)]
        · rw [if_neg y, if_neg (by omega)]
    | succ m ih =>
      intro j hj
      refine g_X11_clear_20 (zG_of rfl G1) ⟨fun z => absurd z (nI_ge (b := 246) (by omega) (by omega)), fun _ => ?_⟩
      rw [nI_clamp (by omega), nI_1, wA_wI]
      refine ⟨vp_in_nI (by omega) (by omega), ?_⟩
      have : upd (fun i => if i < j then 0 else h.1 165 i) j 0 = fun i => if i < j + 1 then 0 else h.1 165 i := by
        funext i
        unfold upd
        dsimp only
        by_cases z : i = j
        · rw [if_pos z, if_pos (by omega)]
        · rw [if_neg z]
          by_cases y : i < j
          · rw [if_pos y, if_pos (by omega)]
          · rw [if_neg y, if_neg (by omega)]
      rw [this]
      exact ih (j + 1) (by omega)
  have st := loop 246 0 (by omega)
  have e : (fun i => if i < 0 then 0 else h.1 165 i) = h.1 165 := by
    funext i
    rw [if_neg (by omega)]
  rw [e, ← e165, wA_id] at st
  refine zcI_then (g_X11_clear G1 st) (fun v h2 hh => ?_)
  obtain ⟨hv, rfl⟩ := hh
  refine ⟨zG_of rfl G1, by rw [hv, e165]; exact hR.1.1, zG_of rfl G1, ?_, ?_, ?_⟩
  · rw [wI_ne (by decide), wA_s]; exact cl_IQ
  · rw [wI_ne (by decide), wA_s, e165]
    refine IC_of (h := h1) rfl (fun a ha => by rw [wI_ne (by omega), wA_n (by omega)]) c1 ⟨PW_of m1.1 (PW_of rfl hP), m1.rw (Or.inl rfl) (Or.inl rfl) (PW_of rfl hP) c1 rw1, ⟨m1.2.2.1, m1.2.2.2.1, m1.2.2.2.2⟩, ?_⟩
    obtain ⟨n, hn⟩ := ht
    exact ⟨n, by show h1.1 1 5 = _; rw [fr 1 (by decide) (by decide) (by decide) (by omega)]; exact hn⟩
  · obtain ⟨⟨p1, p2⟩, ⟨n, hn⟩, ⟨i1, i2, i3⟩, ⟨m, s1, s2, s3, s4⟩, ⟨L, t1, t2, t3, t4⟩, sh⟩ := io
    have r : ∀ a k, a ≠ 0 → a ≠ 2 → a ≠ 7 → (a < 42 ∨ 48 ≤ a) → a ≠ 164 → a ≠ 165 → rI (wI (wA h1 165 (cl (h1.1 165))) 164 19 0) a k = rI h a k := fun a k z1 z2 z3 z4 z5 z6 => by
      rw [rI_c z5, rI_An z6]
      show h1.1 a k = _
      rw [fr a z1 z2 z3 z4]
      rfl
    have r0 : ∀ k, k ≠ 11 → rI (wI (wA h1 165 (cl (h1.1 165))) 164 19 0) 0 k = rI h 0 k := fun k hk => by
      rw [rI_c (by decide), rI_An (by decide)]; exact f0 k hk
    have r4 : ∀ k, k ≠ 19 → rI (wI (wA h1 165 (cl (h1.1 165))) 164 19 0) 164 k = rI h 164 k := fun k hk => by
      rw [rI_k hk, rI_An (by decide)]
      show h1.1 164 k = _
      rw [fr 164 (by decide) (by decide) (by decide) (by omega)]
      rfl
    have f2 : ∀ a, (wI (wA h1 165 (cl (h1.1 165))) 164 19 0).2 a = h.2 a := fun a => by
      show h1.2 a = h.2 a
      rw [m1.1]
      rfl
    refine ⟨⟨PW_of2 (fun a _ _ => f2 a) p1, PW_of2 (fun a _ _ => f2 a) p2⟩, ⟨n, by rw [r4 10 (by decide)]; exact hn⟩, ⟨by rw [r0 5 (by decide), r4 3 (by decide)]; exact i1, by rw [r0 5 (by decide)]; exact i2, fun z => ?_⟩, ⟨0, by omega, ?_, rI_s, fun i hi => by omega⟩, ⟨L, t1, by rw [r 141 1 (by decide) (by decide) (by decide) (by omega) (by decide) (by decide)]; exact t2, by rw [r4 21 (by decide)]; exact t3, fun i hi => by rw [r 142 i (by decide) (by decide) (by decide) (by omega) (by decide) (by decide), r 174 i (by decide) (by decide) (by decide) (by omega) (by decide) (by decide)]; exact t4 i hi⟩, fun s hs => ?_⟩
    · rw [r0 5 (by decide)] at z
      obtain ⟨a, b⟩ := i3 z
      have e6 : (wI (wA h1 165 (cl (h1.1 165))) 164 19 0).1 166 = h.1 166 := by rw [wI_ne (by decide), wA_n (by decide), fr 166 (by decide) (by decide) (by decide) (by omega)]
      rw [e6]
      exact ⟨a, RW_of2 (fun a _ _ => f2 a) (fun a z1 z2 => by rw [wI_ne (by omega), wA_n (by omega), fr a (by omega) (by omega) (by omega) (by omega)]) p2 a.1 b⟩
    · rw [rI_c (by decide), rI_An (by decide)]; exact f11
    · obtain ⟨a, b, c⟩ := sh s hs
      rw [r (156 + 2 * s) 0 (by omega) (by omega) (by omega) (by omega) (by omega) (by omega), r (156 + 2 * s) 1 (by omega) (by omega) (by omega) (by omega) (by omega) (by omega), r 178 s (by decide) (by decide) (by decide) (by omega) (by decide) (by decide), r 179 s (by decide) (by decide) (by decide) (by omega) (by decide) (by decide)]
      exact ⟨a, b, fun i hi => by rw [r _ i (by omega) (by omega) (by omega) (by omega) (by omega) (by omega), r 180 _ (by decide) (by decide) (by decide) (by omega) (by decide) (by decide)]; exact c i hi⟩

