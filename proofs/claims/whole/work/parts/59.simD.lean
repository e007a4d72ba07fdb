/-! calls: deal, count -/
def dzn (z : Int32) : Int32 := (z * 1103515245) + 12345
def us16 (x : Int32) : Int32 := (Int32.toUInt32 x >>> (Int32.toUInt32 16 &&& Int32.toUInt32 31)).toInt32
theorem us16_n (x : Int32) : ∃ m, m < 65536 ∧ us16 x = nI m := by
  have e : (us16 x).toBitVec.toNat = x.toBitVec.toNat / 2 ^ 16 := pk_ushr x 16 16 (by decide)
  have l : x.toBitVec.toNat < 2 ^ 32 := x.toBitVec.isLt
  have m : (us16 x).toBitVec.toNat < 65536 := by omega
  refine ⟨(us16 x).toBitVec.toNat, m, Int32.toBitVec_inj.mp (BitVec.eq_of_toNat_eq ?_)⟩
  rw [pk_tn (by omega)]
/-- one number is drawn -/
def dN (N : zN) : zN := upd N 245 (dzn (N 245))
theorem dN_all {N : zN} (hC : CN N) (hQ : WQ N) : CN (dN N) ∧ WQ (dN N) ∧ cT (dN N) = cT N := by
  have h8 := hC.1.2
  have h10 := hC.2.1.2
  have r8 := hC.2.2.1.2
  have v8 := hC.2.2.2.2
  unfold dN
  refine ⟨CN_u hC (by omega), ⟨fun t ht => ?_, fun t ht => ?_, fun t ht => ?_, fun t ht => ?_⟩, cT_u (by omega)⟩
  · rw [cT_u (by omega)] at ht; exact QT_eq (hQ.1 t ht) (fun k hk => pk_un (by omega))
  · rw [cE_u (by omega)] at ht; exact QE_eq (hQ.2.1 t ht) (fun k hk => pk_un (by omega))
  · rw [cR_u (by omega)] at ht; exact QR_eq (hQ.2.2.1 t ht) (fun k hk => pk_un (by omega))
  · rw [cV_u (by omega)] at ht; exact QV_eq (hQ.2.2.2 t ht) (fun k hk => pk_un (by omega))
theorem s_X8_draw {N : zN} {h : zHp} (G : zG h) (hC : CN N) (hP : PW h 2) (hR : RW h 2 N) : zcI M_X8_draw [.ref 2] h (fun r h' => r = us16 (dzn (N 245)) ∧ h'.2 = h.2 ∧ (∀ x, (x < 2 ∨ 42 ≤ x) → h'.1 x = h.1 x) ∧ RW h' 2 (dN N)) := by
  refine g_X8_draw (Or.inl rfl) G ?_
  rw [hR.1.2.2.2.2.2.2.2]
  exact ⟨rfl, rfl, fun x hx => wI_ne (by omega), RW_uz hP hC hR⟩
theorem s_X11_draw {N : zN} {h : zHp} (G : zG h) (hN : h.1 165 = N) : zcI M_X11_draw [.ref 164] h (fun r h' => r = us16 (dzn (N 245)) ∧ h' = wA h 165 (dN N)) := by
  refine g_X11_draw G ?_
  rw [rdN hN, wI_wA, hN]
  exact ⟨rfl, rfl⟩
/-- one thing is dealt -/
noncomputable def dS (N : zN) : zN := aT (dN (dN (dN (dN N)))) (us16 (dzn (N 245)) - us16 (dzn (N 245)) / 2 * 2) (us16 (dzn (dN N 245)) - us16 (dzn (dN N 245)) / 6 * 6) ((us16 (dzn (dN (dN N) 245)) - us16 (dzn (dN (dN N) 245)) / 9 * 9) + 1) ((us16 (dzn (dN (dN (dN N)) 245)) - us16 (dzn (dN (dN (dN N)) 245)) / 9 * 9) + 1)
theorem rem_n (x : Int32) (d : Nat) (h0 : 0 < d) (hd : d < 2 ^ 31) : ∃ m, m < d ∧ us16 x - us16 x / nI d * nI d = nI m := by
  obtain ⟨m, hm, e⟩ := us16_n x
  exact ⟨m % d, Nat.mod_lt _ h0, by rw [e, pk_rem (by omega) h0 hd]⟩
theorem nI_iv {m : Nat} {a b : Int} (hm : m < 2 ^ 31) (h1 : a ≤ m) (h2 : (m : Int) ≤ b) : iv a b (nI m) := by
  unfold iv
  rw [nI_toInt hm]
  exact ⟨h1, h2⟩
theorem dS_all {N : zN} (hC : CN N) (hQ : WQ N) (ht : cT N < 8) : CN (dS N) ∧ WQ (dS N) ∧ cT (dS N) = cT N + 1 := by
  obtain ⟨a1, a2, a3⟩ := dN_all hC hQ
  obtain ⟨b1, b2, b3⟩ := dN_all a1 a2
  obtain ⟨c1, c2, c3⟩ := dN_all b1 b2
  obtain ⟨d1, d2, d3⟩ := dN_all c1 c2
  have e : cT (dN (dN (dN (dN N)))) = cT N := by rw [d3, c3, b3, a3]
  obtain ⟨m1, k1, e1⟩ := rem_n (dzn (N 245)) 2 (by omega) (by omega)
  obtain ⟨m3, k3, e3⟩ := rem_n (dzn (dN (dN N) 245)) 9 (by omega) (by omega)
  obtain ⟨m4, k4, e4⟩ := rem_n (dzn (dN (dN (dN N)) 245)) 9 (by omega) (by omega)
  rw [show nI 2 = (2 : Int32) from rfl] at e1
  rw [show nI 9 = (9 : Int32) from rfl] at e3 e4
  unfold dS
  obtain ⟨x, y⟩ := aT_CQ (b := us16 (dzn (dN N 245)) - us16 (dzn (dN N 245)) / 6 * 6) d1 d2 (by omega) (a := us16 (dzn (N 245)) - us16 (dzn (N 245)) / 2 * 2) (c := (us16 (dzn (dN (dN N) 245)) - us16 (dzn (dN (dN N) 245)) / 9 * 9) + 1) (d := (us16 (dzn (dN (dN (dN N)) 245)) - us16 (dzn (dN (dN (dN N)) 245)) / 9 * 9) + 1) (by
    rw [e1]
    rcases (by omega : m1 = 0 ∨ m1 = 1) with z | z <;> subst z
    · exact Or.inl rfl
    · exact Or.inr rfl) (by rw [e3, nI_1]; exact nI_iv (by omega) (by omega) (by omega)) (by rw [e4, nI_1]; exact nI_iv (by omega) (by omega) (by omega))
  exact ⟨x, y, by rw [(aT_n d1).2, e]⟩
noncomputable def dl : Nat → zN → zN
  | 0, N => N
  | m + 1, N => if cT N < 8 then dl m (dS N) else N
theorem dl_all : ∀ (m : Nat) (N : zN), CN N → WQ N → CN (dl m N) ∧ WQ (dl m N) := by
  intro m
  induction m with
  | zero => intro N a b; exact ⟨a, b⟩
  | succ m ih =>
    intro N a b
    rw [dl]
    by_cases z : cT N < 8
    · rw [if_pos z]
      obtain ⟨x, y, -⟩ := dS_all a b z
      exact ih _ x y
    · rw [if_neg z]; exact ⟨a, b⟩
noncomputable def o_deal (N : zN) (n : Int32) : Int32 × zN := @ite _ ((0 : Int32) ≤ n ∧ n ≤ 8) (Classical.propDecidable _) (dl n.toNatClampNeg N 238, RF (dl n.toNatClampNeg N)) (-2, N)
theorem sim_deal {n : Int32} : Sim M_X10_deal M_X11_deal [.int n] := by
  refine simW (ans := fun N => (o_deal N n).1) (F := fun N => (o_deal N n).2) (fun h N G q I => ?_) (fun h N G q e top => ?_) (fun N q => ?_)
  · obtain ⟨hC, hQ, hS⟩ := q
    obtain ⟨hP, hR, hL, ht⟩ := I
    refine g_X10_deal G ⟨fun z => ?_, fun z => ?_⟩
    · unfold o_deal
      rw [if_pos z]
      obtain ⟨k, hk, rfl⟩ := nI_of2 (M := 8) (n := 8) rfl (Int32.not_lt.mpr z.1) z.2
      rw [nI_clamp (by omega)]
      have fin : ∀ N' h', CN N' → WQ N' → h'.2 = h.2 → (∀ x, (x < 2 ∨ 42 ≤ x) → h'.1 x = h.1 x) → RW h' 2 N' → zcV M_X0_settle [.ref 1, .int 0] h' (fun h1 => zG h1 ∧ rI h1 2 1 = N' 238 ∧ fZ h h1 ∧ IC h1 (RF N')) := by
        intro N' h' c1 c2 e1 e2 r1
        have f1 : fW h h' := ⟨e2, fun a _ _ _ => by rw [e1]⟩
        have t1 : ∃ m, rI h' 1 5 = nI m := by
          obtain ⟨m, hm⟩ := ht
          exact ⟨m, by show h'.1 1 5 = _; rw [e2 1 (by omega)]; exact hm⟩
        refine zcV_then (s_settleF (zG_of e1 G) c1 c2 (PW_of e1 hP) r1 t1) (fun h2 hh => ⟨hh.1.g (zG_of e1 G), ?_, f1.z.tr hh.1.z, hh.2⟩)
        rw [hh.2.2.1.1.1, RF_hi c1 (by decide)]
      have loop : ∀ (m j : Nat) (N' : zN) (h' : zHp), j + m = k → CN N' → WQ N' → h'.2 = h.2 → (∀ x, (x < 2 ∨ 42 ≤ x) → h'.1 x = h.1 x) → RW h' 2 N' → zlI M_X10_deal 15 [some (.ref 0), some (.int (nI k)), some (.int (nI j)), none, none, none, none] [] h' (fun v h1 => v = dl m N' 238 ∧ fZ h h1 ∧ IC h1 (RF (dl m N'))) := by
        intro m
        induction m with
        | zero =>
          intro j N' h' hj c1 c2 e1 e2 r1
          have : j = k := by omega
          subst this
          exact g_X10_deal_15 (zG_of e1 G) ⟨fun _ => fin N' h' c1 c2 e1 e2 r1, fun z => absurd (Int32.le_refl _) z⟩
        | succ m ih =>
          intro j N' h' hj c1 c2 e1 e2 r1
          have h8 := c1.1.2
          refine g_X10_deal_15 (zG_of e1 G) ⟨fun z => absurd z (nI_ge (by omega) (by omega)), fun _ => ?_⟩
          rw [r1.1.1, c1.1.1, dl]
          refine ⟨fun z => ?_, fun z => ?_⟩
          · have t8 : ¬ cT N' < 8 := fun y => nI_ge (b := 8) y (by omega) z
            rw [if_neg t8]
            exact fin N' h' c1 c2 e1 e2 r1
          · have t8 : cT N' < 8 := Classical.byContradiction (fun y => z (nI_le (a := 8) (by omega) (by omega)))
            rw [if_pos t8]
            obtain ⟨d1, d2, -⟩ := dS_all c1 c2 t8
            obtain ⟨u1, u2, u3⟩ := dN_all c1 c2
            obtain ⟨v1, v2, v3⟩ := dN_all u1 u2
            obtain ⟨w1, w2, w3⟩ := dN_all v1 v2
            obtain ⟨x1, x2, x3⟩ := dN_all w1 w2
            refine zcI_then (s_X8_draw (zG_of e1 G) c1 (PW_of e1 hP) r1) (fun a1 h1 hh => ?_)
            obtain ⟨rfl, p1, p2, p3⟩ := hh
            have q1 := p1.trans e1
            refine ⟨zG_of q1 G, zcI_then (s_X8_draw (zG_of q1 G) u1 (PW_of q1 hP) p3) (fun a2 h2 hh => ?_)⟩
            obtain ⟨rfl, p1, p4, p3⟩ := hh
            have q2 := p1.trans q1
            refine ⟨zG_of q2 G, zcI_then (s_X8_draw (zG_of q2 G) v1 (PW_of q2 hP) p3) (fun a2 h3 hh => ?_)⟩
            obtain ⟨rfl, p1, p5, p3⟩ := hh
            have q3 := p1.trans q2
            refine ⟨zG_of q3 G, zcI_then (s_X8_draw (zG_of q3 G) w1 (PW_of q3 hP) p3) (fun a2 h4 hh => ?_)⟩
            obtain ⟨rfl, p1, p6, p3⟩ := hh
            have q4 := p1.trans q3
            refine ⟨zG_of q4 G, zcV_then (s_X8_addThing (zG_of q4 G) x1 (PW_of q4 hP) p3 (by rw [x3, w3, v3, u3]; exact t8)) (fun h5 hh => ?_)⟩
            obtain ⟨p1, p7, p3⟩ := hh
            have q5 := p1.trans q4
            rw [nI_1]
            exact ⟨zG_of q5 G, ih (j + 1) (dS N') h5 (by omega) d1 d2 q5 (fun x hx => (p7 x hx).trans ((p6 x hx).trans ((p5 x hx).trans ((p4 x hx).trans ((p2 x hx).trans (e2 x hx)))))) p3⟩
      exact loop k 0 N h (by omega) hC hQ rfl (fun _ _ => rfl) hR
    · unfold o_deal
      rw [if_neg z]
      exact ⟨rfl, fZ.rf, hP, hR, hL, ht⟩
  · obtain ⟨hC, hQ, hS⟩ := q
    refine g_X11_deal G ⟨fun z => ?_, fun z => ?_⟩
    · unfold o_deal
      rw [if_pos z]
      obtain ⟨k, hk, rfl⟩ := nI_of2 (M := 8) (n := 8) rfl (Int32.not_lt.mpr z.1) z.2
      rw [nI_clamp (by omega)]
      have fin : ∀ N', CN N' → zcI M_X11_changed [.ref 164, .int (N' 238)] (wA h 165 N') (fun v h1 => zG h1 ∧ v = N' 238 ∧ fV h h1 ∧ h1.1 165 = RF N' ∧ ∃ n, rI h1 164 10 = nI n) := by
        intro N' c1
        exact zcI_then (s_X11_changed (zG_of rfl G) c1 wA_s (top_a top)) (fun v h2 hh => ⟨zG_of hh.2.1.1 (zG_of rfl G), hh.1, fV.a.tr hh.2.1, hh.2.2⟩)
      have loop : ∀ (m j : Nat) (N' : zN), j + m = k → CN N' → WQ N' → zlI M_X11_deal 15 [some (.ref 164), some (.int (nI k)), some (.int (nI j)), none, none, none] [] (wA h 165 N') (fun v h1 => v = dl m N' 238 ∧ fV h h1 ∧ h1.1 165 = RF (dl m N') ∧ ∃ n, rI h1 164 10 = nI n) := by
        intro m
        induction m with
        | zero =>
          intro j N' hj c1 c2
          have : j = k := by omega
          subst this
          refine g_X11_deal_15 (zG_of rfl G) ⟨fun _ => ?_, fun z => absurd (Int32.le_refl _) z⟩
          rw [rI_As]
          exact fin N' c1
        | succ m ih =>
          intro j N' hj c1 c2
          have h8 := c1.1.2
          refine g_X11_deal_15 (zG_of rfl G) ⟨fun z => absurd z (nI_ge (by omega) (by omega)), fun _ => ?_⟩
          rw [rI_As, dl]
          refine ⟨fun z => ?_, fun z => ?_⟩
          · rw [c1.1.1] at z
            have t8 : ¬ cT N' < 8 := fun y => nI_ge (b := 8) y (by omega) z
            rw [if_neg t8]
            exact fin N' c1
          · rw [c1.1.1] at z
            have t8 : cT N' < 8 := Classical.byContradiction (fun y => z (nI_le (a := 8) (by omega) (by omega)))
            rw [if_pos t8]
            obtain ⟨d1, d2, -⟩ := dS_all c1 c2 t8
            obtain ⟨u1, u2, u3⟩ := dN_all c1 c2
            obtain ⟨v1, v2, v3⟩ := dN_all u1 u2
            obtain ⟨w1, w2, w3⟩ := dN_all v1 v2
            obtain ⟨x1, x2, x3⟩ := dN_all w1 w2
            refine zcI_use (s_X11_draw (zG_of rfl G) wA_s) ⟨zG_of rfl G, ?_⟩
            rw [wA_wA]
            refine zcI_use (s_X11_draw (zG_of rfl G) wA_s) ⟨zG_of rfl G, ?_⟩
            rw [wA_wA]
            refine zcI_use (s_X11_draw (zG_of rfl G) wA_s) ⟨zG_of rfl G, ?_⟩
            rw [wA_wA]
            refine zcI_use (s_X11_draw (zG_of rfl G) wA_s) ⟨zG_of rfl G, ?_⟩
            rw [wA_wA]
            refine zcV_use (s_X11_comes (zG_of rfl G) x1 wA_s (by rw [x3, w3, v3, u3]; exact t8)) ⟨zG_of rfl G, ?_⟩
            rw [wA_wA, nI_1]
            exact ih (j + 1) (dS N') (by omega) d1 d2
      have := loop k 0 N (by omega) hC hQ
      rw [← e, wA_id, e] at this
      exact this
    · unfold o_deal
      rw [if_neg z]
      exact ⟨rfl, fV.rf, e, top⟩
  · show IQ (o_deal N n).2
    unfold o_deal
    by_cases z : (0 : Int32) ≤ n ∧ n ≤ 8
    · rw [if_pos z]
      obtain ⟨a, b⟩ := dl_all n.toNatClampNeg N q.1 q.2.1
      exact RF_IQ a b
    · rw [if_neg z]; exact q
theorem s_X8_aliveBits {N : zN} {h : zHp} (G : zG h) (hC : CN N) (hW : WN N) (hR : RW h 2 N) : zcI M_X8_aliveBits [.ref 2] h (fun r h' => r = mask (cT N) (Al N) ∧ h' = h) := by
  have h8 := hC.1.2
  have loop : ∀ (m j : Nat), j + m = cT N → zlI M_X8_aliveBits 4 [some (.ref 2), some (.int (mask j (Al N))), some (.int (nI j))] [] h (fun r h' => r = mask (cT N) (Al N) ∧ h' = h) := by
    intro m
    induction m with
    | zero =>
      intro j hj
      have : j = cT N := by omega
      subst this
      exact g_X8_aliveBits_4 (Or.inl rfl) G ⟨fun _ => ⟨rfl, rfl⟩, fun z => absurd (by rw [hR.1.1, hC.1.1]; exact Int32.le_refl _) z⟩
    | succ m ih =>
      intro j hj
      have hj' : j < cT N := by omega
      have nx := ih (j + 1) (by omega)
      rw [← nI_1] at nx
      refine g_X8_aliveBits_4 (Or.inl rfl) G ⟨fun z => absurd z (by rw [hR.1.1, hC.1.1]; exact nI_ge hj' (by omega)), fun _ => ⟨vp_in_nI (by omega) (by omega), ?_⟩⟩
      rw [nI_clamp (by omega), hR.2.1 j 5 hj' (by omega)]
      refine ⟨fun z => ?_, fun z => ?_⟩
      · rw [mask_s0 (fun y => by unfold Al at y; rw [z] at y; exact absurd y (by decide)), or_0] at nx
        exact nx
      · rw [mask_s1 ((hW.1 j hj').resolve_left z)] at nx
        exact nx
  exact g_X8_aliveBits (Or.inl rfl) G (loop (cT N) 0 (by omega))
theorem m_count {N : zN} {x : Int32} {h : zHp} {Q : Int32 → zHp → Prop} (G : zG h) (hC : CN N) (e : h.1 165 = N) (F : (x = 0 → Q (N 238) h) ∧ (¬ x = 0 → (x = 1 → Q (mask (cT N) (Al N)) h) ∧ (¬ x = 1 → (x = 2 → Q (N 239) h) ∧ (¬ x = 2 → (x = 3 → Q (N 240) h) ∧ (¬ x = 3 → (x = 4 → Q (N 241) h) ∧ (¬ x = 4 → (x = 5 → Q (N 244) h) ∧ (¬ x = 5 → (x = 6 → Q (rI h 164 21) h) ∧ (¬ x = 6 → (x = 7 → Q (N 245) h) ∧ (¬ x = 7 → Q (-2) h))))))))) : zcI M_X11_count [.ref 164, .int x] h Q := by
  have h8 := hC.1.2
  have e238 : rI h 165 238 = nI (cT N) := by rw [rdN e]; exact hC.1.1
  have loop : ∀ (m j : Nat), j + m = cT N → zlI M_X11_count 4 [some (.ref 164), some (.int x), some (.int (mask j (Al N))), some (.int (nI j))] [] h Q := by
    intro m
    induction m with
    | zero =>
      intro j hj
      have : j = cT N := by omega
      subst this
      refine g_X11_count_4 G ?_
      rw [rdN e 238, rdN e 239, rdN e 240, rdN e 241, rdN e 244, rdN e 245]
      exact ⟨fun _ => F, fun z => absurd (by rw [hC.1.1]; exact Int32.le_refl _) z⟩
    | succ m ih =>
      intro j hj
      have hj' : j < cT N := by omega
      have nx := ih (j + 1) (by omega)
      rw [← nI_1] at nx
      refine g_X11_count_4 G ⟨fun z => absurd z (by rw [e238]; exact nI_ge hj' (by omega)), fun _ => ⟨⟨cT N, h8, e238⟩, fun z => ?_, fun z => ?_⟩⟩
      · rw [mask_s0 (fun y => z ((aliveM_nI e238 h8 hj').mpr (by rw [e]; exact y)))] at nx
        exact nx
      · have y := (aliveM_nI e238 h8 hj').mp z
        rw [e] at y
        rw [mask_s1 y] at nx
        exact nx
  exact g_X11_count G (loop (cT N) 0 (by omega))
theorem sim_count {x : Int32} : Sim M_X10_count M_X11_count [.int x] := by
  intro h I
  have I0 := I
  obtain ⟨G, iq, ic, io⟩ := I
  obtain ⟨hP, hR, hL, ht⟩ := ic
  have hC := iq.1
  obtain ⟨a1, a2, a3, a4, a5, a6, a7, a8⟩ := hR.1
  have fin : ∀ v, v = v → ((x = 0 → v = h.1 165 238) ∧ (¬ x = 0 → (x = 1 → v = mask (cT (h.1 165)) (Al (h.1 165))) ∧ (¬ x = 1 → (x = 2 → v = h.1 165 239) ∧ (¬ x = 2 → (x = 3 → v = h.1 165 240) ∧ (¬ x = 3 → (x = 4 → v = h.1 165 241) ∧ (¬ x = 4 → (x = 5 → v = h.1 165 244) ∧ (¬ x = 5 → (x = 6 → v = rI h 164 21) ∧ (¬ x = 6 → (x = 7 → v = h.1 165 245) ∧ (¬ x = 7 → v = -2))))))))) → zG h ∧ zcI M_X11_count [.ref 164, .int x] h (fun v' h2 => zG h2 ∧ v = v' ∧ INV h2) := by
    intro v _ F
    refine ⟨G, m_count G hC rfl ⟨fun z => ⟨G, F.1 z, I0⟩, fun z0 => ⟨fun z => ⟨G, (F.2 z0).1 z, I0⟩, fun z1 => ⟨fun z => ⟨G, ((F.2 z0).2 z1).1 z, I0⟩, fun z2 => ⟨fun z => ⟨G, (((F.2 z0).2 z1).2 z2).1 z, I0⟩, fun z3 => ⟨fun z => ⟨G, ((((F.2 z0).2 z1).2 z2).2 z3).1 z, I0⟩, fun z4 => ⟨fun z => ⟨G, (((((F.2 z0).2 z1).2 z2).2 z3).2 z4).1 z, I0⟩, fun z5 => ⟨fun z => ⟨G, ((((((F.2 z0).2 z1).2 z2).2 z3).2 z4).2 z5).1 z, I0⟩, fun z6 => ⟨fun z => ⟨G, (((((((F.2 z0).2 z1).2 z2).2 z3).2 z4).2 z5).2 z6).1 z, I0⟩, fun z7 => ⟨G, (((((((F.2 z0).2 z1).2 z2).2 z3).2 z4).2 z5).2 z6).2 z7, I0⟩⟩⟩⟩⟩⟩⟩⟩⟩⟩
  refine g_X10_count G ⟨fun z => fin _ rfl ?_, fun z0 => ⟨fun z => ?_, fun z1 => ⟨fun z => fin _ rfl ?_, fun z2 => ⟨fun z => fin _ rfl ?_, fun z3 => ⟨fun z => fin _ rfl ?_, fun z4 => ⟨fun z => fin _ rfl ?_, fun z5 => ⟨fun z => fin _ rfl ?_, fun z6 => ⟨fun z => fin _ rfl ?_, fun z7 => fin _ rfl ?_⟩⟩⟩⟩⟩⟩⟩⟩
  · exact ⟨fun _ => a1, fun y => absurd z y⟩
  · refine zcI_use (s_X8_aliveBits G hC iq.2.1.n hR) ⟨G, fin _ rfl ?_⟩
    exact ⟨fun y => absurd y z0, fun _ => ⟨fun _ => rfl, fun y => absurd z y⟩⟩
  · exact ⟨fun y => absurd y z0, fun _ => ⟨fun y => absurd y z1, fun _ => ⟨fun _ => a2, fun y => absurd z y⟩⟩⟩
  · exact ⟨fun y => absurd y z0, fun _ => ⟨fun y => absurd y z1, fun _ => ⟨fun y => absurd y z2, fun _ => ⟨fun _ => a3, fun y => absurd z y⟩⟩⟩⟩
  · exact ⟨fun y => absurd y z0, fun _ => ⟨fun y => absurd y z1, fun _ => ⟨fun y => absurd y z2, fun _ => ⟨fun y => absurd y z3, fun _ => ⟨fun _ => a4, fun y => absurd z y⟩⟩⟩⟩⟩
  · exact ⟨fun y => absurd y z0, fun _ => ⟨fun y => absurd y z1, fun _ => ⟨fun y => absurd y z2, fun _ => ⟨fun y => absurd y z3, fun _ => ⟨fun y => absurd y z4, fun _ => ⟨fun _ => a7, fun y => absurd z y⟩⟩⟩⟩⟩⟩
  · refine ⟨fun y => absurd y z0, fun _ => ⟨fun y => absurd y z1, fun _ => ⟨fun y => absurd y z2, fun _ => ⟨fun y => absurd y z3, fun _ => ⟨fun y => absurd y z4, fun _ => ⟨fun y => absurd y z5, fun _ => ⟨fun _ => ?_, fun y => absurd z y⟩⟩⟩⟩⟩⟩⟩
    obtain ⟨L, -, t2, t3, -⟩ := io.2.2.2.2.1
    rw [t2, t3]
  · exact ⟨fun y => absurd y z0, fun _ => ⟨fun y => absurd y z1, fun _ => ⟨fun y => absurd y z2, fun _ => ⟨fun y => absurd y z3, fun _ => ⟨fun y => absurd y z4, fun _ => ⟨fun y => absurd y z5, fun _ => ⟨fun y => absurd y z6, fun _ => ⟨fun _ => a8, fun y => absurd z y⟩⟩⟩⟩⟩⟩⟩⟩
  · exact ⟨fun y => absurd y z0, fun _ => ⟨fun y => absurd y z1, fun _ => ⟨fun y => absurd y z2, fun _ => ⟨fun y => absurd y z3, fun _ => ⟨fun y => absurd y z4, fun _ => ⟨fun y => absurd y z5, fun _ => ⟨fun y => absurd y z6, fun _ => ⟨fun y => absurd y z7, fun _ => rfl⟩⟩⟩⟩⟩⟩⟩⟩

