/-! calls: things, both sides -/
noncomputable def o_thing (N : zN) (a b c d : Int32) : Int32 × zN := @ite _ (((0 : Int32) ≤ a ∧ a ≤ 1) ∧ ((0 : Int32) ≤ b ∧ b ≤ 5) ∧ ((0 : Int32) ≤ c ∧ c ≤ 99) ∧ ((0 : Int32) ≤ d ∧ d ≤ 99)) (Classical.propDecidable _) (if cT N < 8 then (N 238, RF (aT N a b c d)) else (-4, N)) (-2, N)
theorem two_of {a : Int32} (h : (0 : Int32) ≤ a ∧ a ≤ 1) : a = 0 ∨ a = 1 := by
  have q := iv_of (a := 0) (b := 1) h rfl rfl
  obtain ⟨q1, q2⟩ := q
  rcases (by omega : a.toInt = 0 ∨ a.toInt = 1) with z | z
  · exact Or.inl (Int32.toInt_inj.mp z)
  · exact Or.inr (Int32.toInt_inj.mp z)
theorem sim_thing {a b c d : Int32} : Sim M_X10_thing M_X11_thing [.int a, .int b, .int c, .int d] := by
  refine simW (ans := fun N => (o_thing N a b c d).1) (F := fun N => (o_thing N a b c d).2) (fun h N G q I => ?_) (fun h N G q e top => ?_) (fun N q => ?_)
  · obtain ⟨hC, hQ, hS⟩ := q
    obtain ⟨hP, hR, hL, ht⟩ := I
    have h8 := hC.1.2
    have bad : ¬ (((0 : Int32) ≤ a ∧ a ≤ 1) ∧ ((0 : Int32) ≤ b ∧ b ≤ 5) ∧ ((0 : Int32) ≤ c ∧ c ≤ 99) ∧ ((0 : Int32) ≤ d ∧ d ≤ 99)) → (-2 = (o_thing N a b c d).1 ∧ fZ h h ∧ IC h (o_thing N a b c d).2) := fun z => by
      unfold o_thing
      rw [if_neg z]
      exact ⟨rfl, fZ.rf, hP, hR, hL, ht⟩
    refine g_X10_thing G ⟨fun z => bad (fun y => z y.1), fun z1 => ⟨fun z2 => ⟨fun z => bad (fun y => z y.2.2.1), fun z3 => ⟨fun z4 => ⟨fun z => ?_, fun z => ?_⟩, fun z => bad (fun y => z y.2.2.2)⟩⟩, fun z => bad (fun y => z y.2.1)⟩⟩
    · rw [hR.1.1, hC.1.1] at z
      have t8 : cT N < 8 := (nI_ltI (a := cT N) (b := 8) (by omega) (by omega)).mp z
      unfold o_thing
      rw [if_pos ⟨z1, z2, z3, z4⟩, if_pos t8]
      obtain ⟨c1, c2⟩ := aT_CQ (b := b) hC hQ t8 (two_of z1) (iv_of z3 rfl rfl) (iv_of z4 rfl rfl)
      refine zcV_then (s_X8_addThing G hC hP hR t8) (fun h1 hh => ⟨zG_of hh.1 G, ?_⟩)
      obtain ⟨e1, e2, e3⟩ := hh
      have f1 : fW h h1 := ⟨e2, fun x _ _ _ => by rw [e1]⟩
      have t1 : ∃ n, rI h1 1 5 = nI n := by
        obtain ⟨n, hn⟩ := ht
        exact ⟨n, by show h1.1 1 5 = _; rw [e2 1 (by omega)]; exact hn⟩
      exact zcV_then (s_settleF (zG_of e1 G) c1 c2 (PW_of e1 hP) e3 t1) (fun h2 hh => ⟨hh.1.g (zG_of e1 G), hR.1.1, f1.z.tr hh.1.z, hh.2⟩)
    · have t8 : ¬ cT N < 8 := fun y => z (by rw [hR.1.1, hC.1.1]; exact nI_lt (b := 8) y (by omega))
      unfold o_thing
      rw [if_pos ⟨z1, z2, z3, z4⟩, if_neg t8]
      exact ⟨rfl, fZ.rf, hP, hR, hL, ht⟩
  · obtain ⟨hC, hQ, hS⟩ := q
    have h8 := hC.1.2
    have good : zcI M_X11_areGood [.int a, .int b, .int c, .int d] h (fun r h' => r = zb (((0 : Int32) ≤ a ∧ a ≤ 1) ∧ ((0 : Int32) ≤ b ∧ b ≤ 5) ∧ ((0 : Int32) ≤ c ∧ c ≤ 99) ∧ ((0 : Int32) ≤ d ∧ d ≤ 99)) ∧ h' = h) :=
      g_X11_areGood G ⟨fun z => ⟨(zb_neg (fun y => z y.1)).symm, rfl⟩, fun z1 => ⟨fun z => ⟨(zb_neg (fun y => z y.2.1)).symm, rfl⟩, fun z2 => ⟨fun z => ⟨(zb_neg (fun y => z y.2.2.1)).symm, rfl⟩, fun z3 => ⟨fun z => ⟨(zb_neg (fun y => z y.2.2.2)).symm, rfl⟩, fun z4 => ⟨(zb_pos ⟨z1, z2, z3, z4⟩).symm, rfl⟩⟩⟩⟩⟩
    refine g_X11_thing G (zcI_use good ⟨G, fun z => ?_, fun z => ?_⟩)
    · have ok := zbn.mp z
      rw [rdN e, hC.1.1]
      refine ⟨fun y => ?_, fun y => ?_⟩
      · have t8 : cT N < 8 := by
          rcases Nat.lt_or_ge (cT N) 8 with x | x
          · exact x
          · exact absurd (by rw [show cT N = 8 by omega]; rfl) y
        unfold o_thing
        rw [if_pos ok, if_pos t8]
        obtain ⟨c1, c2⟩ := aT_CQ (b := b) hC hQ t8 (two_of ok.1) (iv_of ok.2.2.1 rfl rfl) (iv_of ok.2.2.2 rfl rfl)
        refine zcV_use (s_X11_comes G hC e t8) ⟨zG_of rfl G, ?_⟩
        rw [rI_As, (aT_n hC).1, nI_pred, ← hC.1.1]
        have e10 : ∃ n, rI (wA h 165 (aT N a b c d)) 164 10 = nI n := by
          obtain ⟨n, hn⟩ := top
          exact ⟨n, by rw [rI_An (by decide)]; exact hn⟩
        exact zcI_then (s_X11_changed (v := N 238) (zG_of rfl G) c1 wA_s e10) (fun v h2 hh => ⟨zG_of hh.2.1.1 (zG_of rfl G), hh.1, fV.a.tr hh.2.1, hh.2.2⟩)
      · have t8 : ¬ cT N < 8 := fun x => by
          have := (nI_eq (a := cT N) (b := 8) (by omega) (by omega)).mp y
          omega
        unfold o_thing
        rw [if_pos ok, if_neg t8]
        exact ⟨rfl, fV.rf, e, top⟩
    · unfold o_thing
      rw [if_neg (zb0.mp z)]
      exact ⟨rfl, fV.rf, e, top⟩
  · show IQ (o_thing N a b c d).2
    unfold o_thing
    by_cases ok : (((0 : Int32) ≤ a ∧ a ≤ 1) ∧ ((0 : Int32) ≤ b ∧ b ≤ 5) ∧ ((0 : Int32) ≤ c ∧ c ≤ 99) ∧ ((0 : Int32) ≤ d ∧ d ≤ 99))
    · rw [if_pos ok]
      by_cases t8 : cT N < 8
      · rw [if_pos t8]
        obtain ⟨c1, c2⟩ := aT_CQ (b := b) q.1 q.2.1 t8 (two_of ok.1) (iv_of ok.2.2.1 rfl rfl) (iv_of ok.2.2.2 rfl rfl)
        exact RF_IQ c1 c2
      · rw [if_neg t8]; exact q
    · rw [if_neg ok]; exact q
/-- a call that only asks -/
theorem simQ {M1 M2 : zMI} {as : List Value} {ans : zN → Int32}
    (c : ∀ h N, zG h → IQ N → IC h N → zcI M1 (.ref 0 :: as) h (fun v h1 => v = ans N ∧ fZ h h1 ∧ IC h1 N))
    (m : ∀ h N, zG h → IQ N → h.1 165 = N → (∃ n, rI h 164 10 = nI n) → zcI M2 (.ref 164 :: as) h (fun v h1 => v = ans N ∧ fV h h1 ∧ h1.1 165 = N ∧ ∃ n, rI h1 164 10 = nI n)) : Sim M1 M2 as := simW (F := fun N => N) c m (fun _ q => q)
noncomputable def o_of (N : zN) (t k : Int32) : Int32 := @ite _ ((0 ≤ t ∧ t ≤ N 238 - 1) ∧ ((0 : Int32) ≤ k ∧ k ≤ 5)) (Classical.propDecidable _) (N (10 * t.toNatClampNeg + k.toNatClampNeg)) (-2)
theorem lit_n {k : Int32} {n : Nat} (h : k = nI n) (hn : n < 2 ^ 31) : k.toNatClampNeg = n := by rw [h, nI_clamp hn]
theorem sim_of {t k : Int32} : Sim M_X10_of M_X11_of [.int t, .int k] := by
  refine simQ (ans := fun N => o_of N t k) (fun h N G q I => ?_) (fun h N G q e top => ?_)
  · obtain ⟨hC, hQ, hS⟩ := q
    have h8 := hC.1.2
    have hR := I.2.1
    have bad : ¬ ((0 ≤ t ∧ t ≤ N 238 - 1) ∧ ((0 : Int32) ≤ k ∧ k ≤ 5)) → (-2 = o_of N t k ∧ fZ h h ∧ IC h N) := fun z => by
      unfold o_of
      rw [if_neg z]
      exact ⟨rfl, fZ.rf, I⟩
    refine g_X10_of G ?_
    rw [hR.1.1]
    refine ⟨fun z => ?_, fun z => bad (fun y => z y.1)⟩
    have z0 := z
    rw [hC.1.1] at z
    obtain ⟨j, hj, rfl⟩ := zsm (by omega) z
    rw [nI_clamp (by omega)]
    have w : ∀ q, q < 10 → rI h (8 + j) q = N (10 * j + q) := fun q hq => hR.2.1 j q hj hq
    rw [w 0 (by omega), w 1 (by omega), w 2 (by omega), w 3 (by omega), w 4 (by omega), w 5 (by omega)]
    have ok : ∀ (n : Nat), n < 6 → k = nI n → (N (10 * j + n) = o_of N (nI j) k ∧ fZ h h ∧ IC h N) := fun n hn hk => by
      unfold o_of
      subst hk
      rw [if_pos ⟨z0, nI_pos' (by omega), nI_le (b := 5) (by omega) (by omega)⟩, nI_clamp (by omega), nI_clamp (by omega)]
      exact ⟨rfl, fZ.rf, I⟩
    refine ⟨vp_in_nI (by omega) (by omega), fun y => ok 0 (by omega) y, fun y0 => ⟨fun y => ok 1 (by omega) y, fun y1 => ⟨fun y => ok 2 (by omega) y, fun y2 => ⟨fun y => ok 3 (by omega) y, fun y3 => ⟨fun y => ok 4 (by omega) y, fun y4 => ⟨fun y => ⟨fun x => ?_, fun x => ?_⟩, fun y5 => bad (fun x => ?_)⟩⟩⟩⟩⟩⟩
    · have := ok 5 (by omega) y
      rw [x] at this
      exact this
    · have := ok 5 (by omega) y
      rw [(hQ.n.1 j hj).resolve_left x] at this
      exact this
    · obtain ⟨n, hn, rfl⟩ := nI_of2 (M := 5) (n := 5) rfl (Int32.not_lt.mpr x.2.1) x.2.2
      rcases (by omega : n = 0 ∨ n = 1 ∨ n = 2 ∨ n = 3 ∨ n = 4 ∨ n = 5) with z | z | z | z | z | z <;> subst z
      · exact y0 rfl
      · exact y1 rfl
      · exact y2 rfl
      · exact y3 rfl
      · exact y4 rfl
      · exact y5 rfl
  · obtain ⟨hC, hQ, hS⟩ := q
    have h8 := hC.1.2
    refine g_X11_of G ?_
    rw [rdN e]
    refine ⟨fun z => ?_, fun z => ⟨fun y => ?_, fun y => ?_⟩⟩
    · unfold o_of
      rw [if_neg (fun x => z x.1)]
      exact ⟨rfl, fV.rf, e, top⟩
    · unfold o_of
      rw [if_neg (fun x => y x.2)]
      exact ⟨rfl, fV.rf, e, top⟩
    · have z0 := z
      rw [hC.1.1] at z
      obtain ⟨j, hj, rfl⟩ := zsm (by omega) z
      obtain ⟨n, hn, rfl⟩ := nI_of2 (M := 5) (n := 5) rfl (Int32.not_lt.mpr y.1) y.2
      have i := ixT (t := j) (k := n) (by omega) (by omega)
      unfold o_of
      rw [if_pos ⟨z0, y⟩, i.2, rdN e, nI_clamp (by omega), nI_clamp (by omega)]
      exact ⟨i.1, rfl, fV.rf, e, top⟩
noncomputable def o_now (N : zN) (t k : Int32) : Int32 := @ite _ ((0 ≤ t ∧ t ≤ N 238 - 1) ∧ ((0 : Int32) ≤ k ∧ k ≤ 3)) (Classical.propDecidable _) (isN N (Mk N 5).1 t.toNatClampNeg k.toNatClampNeg) (-2)
theorem sim_now {t k : Int32} : Sim M_X10_now M_X11_now [.int t, .int k] := by
  refine simQ (ans := fun N => o_now N t k) (fun h N G q I => ?_) (fun h N G q e top => ?_)
  · obtain ⟨hC, hQ, hS⟩ := q
    have h8 := hC.1.2
    have hR := I.2.1
    have hL := I.2.2.1
    have bad : ¬ ((0 ≤ t ∧ t ≤ N 238 - 1) ∧ ((0 : Int32) ≤ k ∧ k ≤ 3)) → (-2 = o_now N t k ∧ fZ h h ∧ IC h N) := fun z => by
      unfold o_now
      rw [if_neg z]
      exact ⟨rfl, fZ.rf, I⟩
    refine g_X10_now G ?_
    rw [hR.1.1]
    refine ⟨fun z => ?_, fun z => bad (fun y => z y.1)⟩
    have z0 := z
    rw [hC.1.1] at z
    obtain ⟨j, hj, rfl⟩ := zsm (by omega) z
    rw [nI_clamp (by omega)]
    have w : ∀ q, q < 10 → rI h (8 + j) q = N (10 * j + q) := fun q hq => hR.2.1 j q hj hq
    rw [w 5 (by omega), w 6 (by omega), w 7 (by omega), w 9 (by omega)]
    have l : ∀ q, q < 4 → rI h (43 + q) j = (Mk N 5).1 (4 * j + q) := fun q hq => by
      rw [← hL.2.1 _ (by omega), VL_at hq]
    have l0 : rI h 43 j = (Mk N 5).1 (4 * j + 0) := l 0 (by omega)
    have l1 : rI h 44 j = (Mk N 5).1 (4 * j + 1) := l 1 (by omega)
    have l3 : rI h 46 j = (Mk N 5).1 (4 * j + 3) := l 3 (by omega)
    rw [l0, l1, l3]
    have ok : ∀ (n : Nat), n < 4 → k = nI n → o_now N (nI j) k = isN N (Mk N 5).1 j n := fun n hn hk => by
      unfold o_now
      subst hk
      rw [if_pos ⟨z0, nI_pos' (by omega), nI_le (b := 3) (by omega) (by omega)⟩, nI_clamp (by omega), nI_clamp (by omega)]
    have ok2 : ∀ (n : Nat), n < 4 → k = nI n → (N (10 * j + 5) = 0 → (N (10 * j + 6 + n) = o_now N (nI j) k ∧ fZ h h ∧ IC h N)) ∧ (¬ N (10 * j + 5) = 0 → ((Mk N 5).1 (4 * j + n) = o_now N (nI j) k ∧ fZ h h ∧ IC h N)) := fun n hn hk => by
      rw [ok n hn hk]
      unfold isN
      refine ⟨fun x => ?_, fun x => ?_⟩
      · rw [if_neg (by rw [x]; decide)]; exact ⟨rfl, fZ.rf, I⟩
      · rw [if_pos ((hQ.n.1 j hj).resolve_left x)]; exact ⟨rfl, fZ.rf, I⟩
    refine ⟨vp_in_nI (by omega) (by omega), fun y => ok2 0 (by omega) y, fun y0 => ⟨fun y => ok2 1 (by omega) y, fun y1 => ⟨fun y => ?_, fun y2 => ⟨fun y => ok2 3 (by omega) y, fun y3 => bad (fun x => ?_)⟩⟩⟩⟩
    · have f := s_X2_forceOf (x := nI j) G hC hQ hR hL
      rw [fo_n hC hj] at f
      refine zcI_use f ⟨G, ?_, fZ.rf, I⟩
      rw [ok 2 (by omega) y]
    · obtain ⟨n, hn, rfl⟩ := nI_of2 (M := 3) (n := 3) rfl (Int32.not_lt.mpr x.2.1) x.2.2
      rcases (by omega : n = 0 ∨ n = 1 ∨ n = 2 ∨ n = 3) with z | z | z | z <;> subst z
      · exact y0 rfl
      · exact y1 rfl
      · exact y2 rfl
      · exact y3 rfl
  · obtain ⟨hC, hQ, hS⟩ := q
    have h8 := hC.1.2
    refine g_X11_now G ?_
    rw [rdN e]
    refine ⟨fun z => ?_, fun z => ⟨fun y => ?_, fun y => ?_⟩⟩
    · unfold o_now
      rw [if_neg (fun x => z x.1)]
      exact ⟨rfl, fV.rf, e, top⟩
    · have z0 := z
      rw [hC.1.1] at z
      obtain ⟨j, hj, rfl⟩ := zsm (by omega) z
      obtain ⟨n, hn, rfl⟩ := nI_of2 (M := 3) (n := 3) rfl (Int32.not_lt.mpr y.1) y.2
      have mk := s_X11_makes (u := 5) G (by rw [rdN e]; exact hC.t) (by rw [rdN e]; exact hC.e) (by omega)
      rw [show nI 5 = (5 : Int32) from rfl] at mk
      refine zcV_then mk (fun h1 m1 => ⟨zG_of m1.1 G, ?_⟩)
      have e1 : h1.1 165 = N := m1.n.trans e
      refine zcI_use (s_X11_isNow (zG_of m1.1 G) hC e1 hj (by omega)) ⟨zG_of m1.1 G, ?_, (fH.k m1).v, e1, ?_⟩
      · unfold o_now
        rw [if_pos ⟨z0, y⟩, nI_clamp (by omega), nI_clamp (by omega)]
        unfold isN
        have r := m1.2.2.2.2.1
        rw [e] at r
        rw [r _ (by omega)]
      · obtain ⟨n, hn⟩ := top
        exact ⟨n, by show h1.1 164 10 = _; rw [m1.2.2.1 10 (by decide)]; exact hn⟩
    · unfold o_now
      rw [if_neg (fun x => y x.2)]
      exact ⟨rfl, fV.rf, e, top⟩
noncomputable def o_scope (N : zN) (w x : Int32) : Int32 := @ite _ (okSc w x) (Classical.propDecidable _) (mask (cT N) (Sc N (Mk N 5).1 w x)) (-2)
theorem sim_scope {w x : Int32} : Sim M_X10_scope M_X11_scope [.int w, .int x] := by
  refine simQ (ans := fun N => o_scope N w x) (fun h N G q I => ?_) (fun h N G q e top => ?_)
  · obtain ⟨hC, hQ, hS⟩ := q
    have h8 := hC.1.2
    have hR := I.2.1
    have hL := I.2.2.1
    refine g_X10_scope G ⟨fun ok => ?_, fun z => ?_⟩
    · have loop : ∀ (m j : Nat), j + m = cT N → zlI M_X10_scope 16 [some (.ref 0), some (.int w), some (.int x), some (.int (mask j (Sc N (Mk N 5).1 w x))), some (.int (nI j))] [] h (fun v h1 => v = o_scope N w x ∧ fZ h h1 ∧ IC h1 N) := by
        intro m
        induction m with
        | zero =>
          intro j hj
          have : j = cT N := by omega
          subst this
          refine g_X10_scope_16 G ⟨fun _ => ⟨?_, fZ.rf, I⟩, fun z => absurd (by rw [hR.1.1, hC.1.1]; exact Int32.le_refl _) z⟩
          unfold o_scope
          rw [if_pos ok]
        | succ m ih =>
          intro j hj
          have hj' : j < cT N := by omega
          have nx := ih (j + 1) (by omega)
          rw [← nI_1] at nx
          refine g_X10_scope_16 G ⟨fun z => absurd z (by rw [hR.1.1, hC.1.1]; exact nI_ge hj' (by omega)), fun _ => ?_⟩
          have ho := s_X2_holds (K := 42) (B := 2) (t := nI j) (w := w) (x := x) G (Or.inl rfl) (Or.inl rfl) hC hR hQ.n
          refine zcI_use ho ⟨G, fun z => ?_, fun z => ?_⟩
          · have n := zb0.mp z
            rw [ScI_n hC hj', Sc_rq hL.2.1 hj'] at n
            rw [mask_s0 n, or_0] at nx
            exact nx
          · have n := zbn.mp z
            rw [ScI_n hC hj', Sc_rq hL.2.1 hj'] at n
            rw [mask_s1 n] at nx
            exact nx
      exact loop (cT N) 0 (by omega)
    · unfold o_scope
      rw [if_neg z]
      exact ⟨rfl, fZ.rf, I⟩
  · obtain ⟨hC, hQ, hS⟩ := q
    have h8 := hC.1.2
    refine g_X11_scope G ⟨fun ok => ?_, fun z => ?_⟩
    · have mk := s_X11_makes (u := 5) G (by rw [rdN e]; exact hC.t) (by rw [rdN e]; exact hC.e) (by omega)
      rw [show nI 5 = (5 : Int32) from rfl] at mk
      refine zcV_then mk (fun h1 m1 => ⟨zG_of m1.1 G, ?_⟩)
      have e1 : h1.1 165 = N := m1.n.trans e
      refine ⟨by rw [rdN e1]; exact hC.t, ?_, (fH.k m1).v, e1, ?_⟩
      · unfold o_scope
        rw [if_pos ok, e1]
        have r := m1.2.2.2.2.1
        rw [e] at r
        exact mask_congr (by omega) (fun t ht => Sc_rq r ht)
      · obtain ⟨n, hn⟩ := top
        exact ⟨n, by show h1.1 164 10 = _; rw [m1.2.2.1 10 (by decide)]; exact hn⟩
    · unfold o_scope
      rw [if_neg z]
      exact ⟨rfl, fV.rf, e, top⟩

