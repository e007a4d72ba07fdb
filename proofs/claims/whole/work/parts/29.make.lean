/-! the class's looks: perform, pick, make -/
theorem s_X2_perform {K B e : Nat} {N : zN} {h : zHp} (G : zG h) (hK : zLo K) (hB : zW B) (hC : CN N) (hP : PW h B) (hR : RW h B N) (hW : WN N) (he : e < cE N) : zcV M_X2_perform [.ref K, .ref B, .ref (rG h (B + 2) e)] h (fun h' => fK K h h' ∧ rq (cT N) (VL h' K) (Do N (VL h K) e)) := by
  have h8 := hC.1.2
  have h10 := hC.2.1.2
  obtain ⟨p1, p2, p3⟩ := hP.1.1 e (by omega)
  have lc := (hP.e hB (show e < 10 by omega)).2
  have loop : ∀ (m j : Nat) (h' : zHp), j + m = cT N → fK K h h' → (∀ i, i < 4 * cT N → VL h' K i = DoP N (VL h K) e j i) → zlV M_X2_perform 2 [some (.ref K), some (.ref B), some (.ref (rG h (B + 2) e)), some (.int (nI j))] [] h' (fun h' => fK K h h' ∧ rq (cT N) (VL h' K) (Do N (VL h K) e)) := by
    intro m
    induction m with
    | zero =>
      intro j h' hj f hi
      have : j = cT N := by omega
      subst this
      have hR' := f.rw hK hB hP hC hR
      refine g_X2_perform_2 hK hB lc (zG_of f.1 G) ⟨fun _ => ⟨f, fun i h1 => by rw [hi i h1, DoP_n]⟩, fun q => absurd (by rw [hR'.1.1, hC.1.1]; exact Int32.le_refl _) q⟩
    | succ m ih =>
      intro j h' hj f hi
      have hjn : j < cT N := by omega
      have hR' := f.rw hK hB hP hC hR
      have G' := zG_of f.1 G
      have hP' := PW_of f.1 hP
      have er : rG h' (B + 2) e = rG h (B + 2) e := rG_of f.1 _ _
      have ne1 : ∀ k, k < 6 → rG h (B + 2) e ≠ K + k := fun k hk => zlook_c hK hB (by omega) (by omega) hk
      have rc : ∀ k, k < 7 → rI h' (rG h (B + 2) e) k = N (80 + 7 * e + k) := fun k hk => by rw [← er]; exact hR'.2.2.1 e k he hk
      have at4 : ∀ k, k < 4 → rI h' (K + 1 + k) j = VL h K (4 * j + k) := fun k hk => by rw [← VL_at (h := h') hk, hi _ (by omega), DoP_at]
      have bm : ScI N (VL h' K) (N (80 + 7 * e + 2)) (N (80 + 7 * e + 3)) (nI j) ↔ SE N (VL h K) e j := by
        rw [ScI_n hC hjn]
        unfold SE Sc
        have a0 := at4 0 (by omega)
        have a1 := at4 1 (by omega)
        simp only [Nat.add_zero] at a0
        rw [VL_0 (h := h'), VL_at (h := h') (k := 1) (by omega), a0, a1]
      refine g_X2_perform_2 hK hB lc G' ⟨fun q => absurd q (by rw [hR'.1.1, hC.1.1]; exact nI_ge hjn (by omega)), fun _ => ?_⟩
      rw [rc 2 (by omega), rc 3 (by omega)]
      refine zcI_use (s_X2_holds G' hK hB hC hR' hW) ⟨G', fun q => ?_, fun q => ⟨vp_in_nI (by omega) (by omega), vp_in_nI (by omega) (by omega), ?_⟩⟩
      · have nx := ih (j + 1) h' (by omega) f (fun i h1 => by rw [DoP_s0 (fun z => zb0.mp q (bm.mpr z))]; exact hi i h1)
        rw [← nI_1] at nx
        exact nx
      · have hs := bm.mp (zbn.mp q)
        have n1 := ne1 1 (by omega)
        have n2 := ne1 2 (by omega)
        rw [nI_clamp (by omega), rI_c n1, rI_c n1, rI_c (show K + 2 ≠ K + 1 by omega), rc 1 (by omega), rc 4 (by omega)]
        generalize hg : wI (wI h' (K + 1) j (tyU (N (80 + 7 * e + 1)) (N (80 + 7 * e + 4)) (rI h' (K + 1) j))) (K + 2) j (mkU (N (80 + 7 * e + 1)) (N (80 + 7 * e + 4)) (rI h' (K + 2) j)) = g1
        have g2 : g1.2 = h.2 := by rw [← hg]; exact f.1
        have gc : ∀ k, rI g1 (rG h (B + 2) e) k = rI h' (rG h (B + 2) e) k := fun k => by rw [← hg, rI_c n2, rI_c n1]
        have go : ∀ a, a ≠ K + 1 → a ≠ K + 2 → g1.1 a = h'.1 a := fun a z1 z2 => by rw [← hg, wI_ne z2, wI_ne z1]
        have g1a : g1.1 (K + 1) = upd (h'.1 (K + 1)) j (tyU (N (80 + 7 * e + 1)) (N (80 + 7 * e + 4)) (rI h' (K + 1) j)) := by rw [← hg, wI_ne (by omega), wI_upd]
        have g1b : g1.1 (K + 2) = upd (h'.1 (K + 2)) j (mkU (N (80 + 7 * e + 1)) (N (80 + 7 * e + 4)) (rI h' (K + 2) j)) := by rw [← hg, wI_upd, wI_ne (by omega)]
        refine zcV_then (s_X2_changeStrength (j := j) (zG_of g2 G) hK lc (by omega) (by rw [gc 1, rc 1 (by omega)]; exact hW.2 e he)) (fun g3 hh => ?_)
        obtain ⟨c1, c2, c3, c4⟩ := hh
        rw [gc, gc, rc 1 (by omega), rc 4 (by omega)] at c3
        rw [gc, gc, rc 1 (by omega), rc 5 (by omega)] at c4
        have e3 : ∀ i, rI g1 (K + 3) i = rI h' (K + 3) i := fun i => by show g1.1 (K + 3) i = _; rw [go _ (by omega) (by omega)]; rfl
        have e4 : ∀ i, rI g1 (K + 4) i = rI h' (K + 4) i := fun i => by show g1.1 (K + 4) i = _; rw [go _ (by omega) (by omega)]; rfl
        rw [e3, e4, go (K + 3) (by omega) (by omega)] at c3
        rw [e3, e4, go (K + 4) (by omega) (by omega)] at c4
        refine ⟨zG_of (c1.trans g2) G, ?_⟩
        have r0 := at4 0 (by omega)
        have r1 := at4 1 (by omega)
        have r2 := at4 2 (by omega)
        have r3 := at4 3 (by omega)
        simp only [Nat.add_zero] at r0
        rw [r0] at g1a
        rw [show K + 1 + 1 = K + 2 by omega] at r1
        rw [show K + 1 + 2 = K + 3 by omega] at r2
        rw [show K + 1 + 3 = K + 4 by omega] at r3
        rw [r1] at g1b
        rw [r2, r3] at c3 c4
        have nx := ih (j + 1) g3 (by omega) ⟨c1.trans g2, fun a z1 z2 z3 z4 => by rw [c2 a z3 z4, go a z1 z2]; exact f.2 a z1 z2 z3 z4⟩ (fun i h1 => by
          have val : ∀ t k, k < 4 → VL g3 K (4 * t + k) = if t = j then doK (N (80 + 7 * e + 1)) (N (80 + 7 * e + 4)) (N (80 + 7 * e + 5)) (VL h K (4 * j)) (VL h K (4 * j + 1)) (VL h K (4 * j + 2)) (VL h K (4 * j + 3)) k else VL h' K (4 * t + k) := by
            intro t k hk
            rw [VL_at hk, VL_at hk]
            show g3.1 (K + 1 + k) t = _
            rcases (show k = 0 ∨ k = 1 ∨ k = 2 ∨ k = 3 by omega) with rfl | rfl | rfl | rfl
            · rw [Nat.add_zero, c2 (K + 1) (by omega) (by omega), g1a]; simp only [upd, doK, rI]; rfl
            · rw [show K + 1 + 1 = K + 2 by omega, c2 (K + 2) (by omega) (by omega), g1b]; simp only [upd, doK, rI]; rfl
            · rw [show K + 1 + 2 = K + 3 by omega, c3]; simp only [upd, doK, rI]; rfl
            · rw [show K + 1 + 3 = K + 4 by omega, c4]; simp only [upd, doK, rI]; rfl
          have step : (fun i => if i < 4 * cT N then VL g3 K i else DoP N (VL h K) e (j + 1) i) = DoP N (VL h K) e (j + 1) := by
            refine DoP_s1 hjn hs (fun k hk => ?_) (fun i hi2 => ?_)
            · show (if 4 * j + k < 4 * cT N then VL g3 K (4 * j + k) else _) = _
              rw [if_pos (by omega), val j k hk, if_pos rfl]
            · show (if i < 4 * cT N then VL g3 K i else DoP N (VL h K) e (j + 1) i) = _
              by_cases z : i < 4 * cT N
              · rw [if_pos z, show i = 4 * (i / 4) + i % 4 by omega, val (i / 4) (i % 4) (by omega), if_neg (by omega), hi _ (by omega)]
              · rw [if_neg z]
                unfold DoP
                rw [if_neg (by omega), if_neg (by omega)]
          have := congrFun step i
          simp only [if_pos h1] at this
          exact this)
        rw [← nI_1] at nx
        exact nx
  exact g_X2_perform hK hB lc G (loop (cT N) 0 h (by omega) ⟨rfl, fun _ _ _ _ _ => rfl⟩ (fun i hi => by rw [DoP_0]))
theorem s_X2_record {K c : Nat} {v : Int32} {h : zHp} (G : zG h) (hK : zLo K) (hc : rI h K 5 = nI c) (h10 : c < 10) : zcV M_X2_record [.ref K, .int v] h (fun h' => h' = wI (wI h (K + 5) c v) K 5 (nI (c + 1))) := by
  refine g_X2_record hK G ?_
  rw [hc, nI_clamp (by omega), nI_1]
  exact ⟨fun q => absurd q (nI_ge (b := 10) h10 (by omega)), fun _ => ⟨vp_in_nI h10 (by omega), rfl⟩⟩
theorem s_X2_pick {K B : Nat} {N : zN} {S : Int32} {h : zHp} (G : zG h) (hK : zLo K) (hB : zW B) (hC : CN N) (hP : PW h B) (hR : RW h B N) (hW : WN N) (hs : ∀ k, k < 32 → bi S (nI k) → k < cE N) (h0 : ¬ S = 0) : zcI M_X2_pick [.ref K, .ref B, .int S] h (fun r h' => r = nI (Nx N (VL h K) S) ∧ h' = h) := by
  have h10 := hC.2.1.2
  have s10 : Set10 S := fun k hk hb => by have := hs k hk hb; omega
  have l2 : ∀ (m j : Nat), j + m = cE N → (∀ i, i < j → ¬ Fre N (VL h K) S i) → zlI M_X2_pick 2 [some (.ref K), some (.ref B), some (.int S), some (.int (nI j)), none, none, none] [] h (fun r h' => r = nI (Nx N (VL h K) S) ∧ h' = h) := by
    intro m
    induction m with
    | zero =>
      intro j hj hi
      have : j = cE N := by omega
      subst this
      obtain ⟨n1, n2⟩ := ntz_ff s10 h0
      refine g_X2_pick_2 hK hB G ⟨fun _ => zcI_use (s_ntz G) ⟨G, ?_, rfl⟩, fun q => absurd (by rw [hR.1.2.1, hC.2.1.1]; exact Int32.le_refl _) q⟩
      rw [n1, if_neg (show ¬ (9 : Int32) < nI (ffst (fun e => bi S (nI e)) 10 0) from nI_nlt (a := 9) (b := ffst (fun e => bi S (nI e)) 10 0) (by omega) (by omega))]
      unfold Nx
      rw [if_neg]
      rintro ⟨e, a, b⟩
      exact hi e (hs e (by omega) b.1) b
    | succ m ih =>
      intro j hj hi
      have hjn : j < cE N := by omega
      have l28 : ∀ (m2 f : Nat) (fr : Int32), f + m2 = cE N → (¬ fr = 0 → bi S (nI j) ∧ ∀ f', f' < f → f' ≠ j → bi S (nI f') → ¬ Dep N (VL h K) j f') → (fr = 0 → ¬ Fre N (VL h K) S j) → zlI M_X2_pick 28 [some (.ref K), some (.ref B), some (.int S), some (.int (nI j)), some (.int fr), some (.int (nI f)), none] [] h (fun r h' => r = nI (Nx N (VL h K) S) ∧ h' = h) := by
        intro m2
        have go : ¬ Fre N (VL h K) S j → zlI M_X2_pick 2 [some (.ref K), some (.ref B), some (.int S), some (.int (nI j + 1)), none, none, none] [] h (fun r h' => r = nI (Nx N (VL h K) S) ∧ h' = h) := by
          intro hf
          rw [nI_1]
          exact ih (j + 1) (by omega) (fun i hi2 => by
            rcases Nat.lt_or_ge i j with z | z
            · exact hi i z
            · rw [show i = j by omega]; exact hf)
        induction m2 with
        | zero =>
          intro f fr hf a b
          have : f = cE N := by omega
          subst this
          refine g_X2_pick_28 hK hB G ⟨fun q => ⟨fun _ => go (b q), fun z => absurd q z⟩, fun q => ⟨fun _ => ⟨fun z => absurd z q, fun _ => ⟨?_, rfl⟩⟩, fun z => absurd (by rw [hR.1.2.1, hC.2.1.1]; exact Int32.le_refl _) z⟩⟩
          have hfre : Fre N (VL h K) S j := ⟨(a q).1, fun f h1 h2 h3 => (a q).2 f (hs f (by omega) h3) h2 h3⟩
          unfold Nx
          rw [if_pos ⟨j, by omega, hfre⟩, ffst_eq (j := j) (by omega) (by omega) hfre (fun k _ hk => hi k hk)]
        | succ m2 ih2 =>
          intro f fr hf a b
          refine g_X2_pick_28 hK hB G ⟨fun q => ⟨fun _ => go (b q), fun z => absurd q z⟩, fun q => ⟨fun z => absurd z (by rw [hR.1.2.1, hC.2.1.1]; exact nI_ge (by omega) (by omega)), fun _ => ?_⟩⟩
          have next : ∀ (fr' : Int32), (¬ fr' = 0 → (f ≠ j → bi S (nI f) → ¬ Dep N (VL h K) j f)) → (fr' = 0 → ¬ Fre N (VL h K) S j) → zlI M_X2_pick 28 [some (.ref K), some (.ref B), some (.int S), some (.int (nI j)), some (.int fr'), some (.int (nI f + 1)), none] [] h (fun r h' => r = nI (Nx N (VL h K) S) ∧ h' = h) := by
            intro fr' c1 c2
            rw [nI_1]
            exact ih2 (f + 1) fr' (by omega) (fun z => ⟨(a q).1, fun f' h1 h2 h3 => by
              rcases Nat.lt_or_ge f' f with y | y
              · exact (a q).2 f' y h2 h3
              · rw [show f' = f by omega] at h2 h3 ⊢; exact c1 z h2 h3⟩) c2
          have l62 : ∀ s0 : Int32, (s0 = 0 → (f = j ∨ ¬ bi S (nI f))) → (¬ s0 = 0 → f ≠ j ∧ bi S (nI f)) → zlI M_X2_pick 62 [some (.ref K), some (.ref B), some (.int S), some (.int (nI j)), some (.int fr), some (.int (nI f)), none] [.int s0] h (fun r h' => r = nI (Nx N (VL h K) S) ∧ h' = h) := by
            intro s0 c1 c2
            refine g_X2_pick_62 hK hB G ⟨fun z => next 1 (fun _ y1 y2 => ((c1 z).elim (fun x => absurd x y1) (fun x => absurd y2 x))) (fun y => absurd y (by decide)), fun z => ⟨vp_in_nI (by omega) (by omega), ?_⟩⟩
            rw [nI_clamp (by omega), nI_clamp (by omega)]
            refine ⟨hP.e hB (by omega), vp_in_nI (by omega) (by omega), hP.e hB (by omega), zcI_use (s_X2_needs G hK hB hC hP hR hW hjn (by omega)) ⟨G, fun y => next 0 (fun x => absurd rfl x) (fun _ x => x.2 f (by omega) (c2 z).1 (c2 z).2 (zbn.mp y)), fun y => next 1 (fun _ _ _ => zb0.mp y) (fun x => absurd x (by decide))⟩⟩
          refine ⟨fun z => l62 0 (fun _ => Or.inl ((nI_eq (by omega) (by omega)).mp z)) (fun y => absurd rfl y), fun z => ⟨fun y => l62 0 (fun _ => Or.inr (bi_0.mp y)) (fun x => absurd rfl x), fun y => l62 1 (fun x => absurd x (by decide)) (fun _ => ⟨fun x => z (by rw [x]), bi_n0.mp y⟩)⟩⟩
      refine g_X2_pick_2 hK hB G ⟨fun q => absurd q (by rw [hR.1.2.1, hC.2.1.1]; exact nI_ge hjn (by omega)), fun _ => ⟨fun q => ?_, fun q => ?_⟩⟩
      · exact l28 (cE N) 0 0 (by omega) (fun z => absurd rfl z) (fun _ z => bi_0.mp q z.1)
      · exact l28 (cE N) 0 1 (by omega) (fun _ => ⟨bi_n0.mp q, fun f' h1 => by omega⟩) (fun z => absurd z (by decide))
  exact g_X2_pick hK hB G (l2 (cE N) 0 (by omega) (fun i hi => by omega))
theorem g_X2_make {c0 : Nat} {c1 : Nat} {x2 : Int32} {h : zHp} {Q : zHp → Prop} (hc0 : zLo c0) (hc1 : zW c1) (G : zG h) (F : zlV M_X2_make 2 [some (.ref c0), some (.ref c1), some (.int x2), some (.int 0), none, none, none] [] h Q) : zcV M_X2_make [.ref c0, .ref c1, .int x2] h Q := by
  show zw zNT zNT M_X2_make 0 [some (.ref c0), some (.ref c1), some (.int x2), none, none, none, none] [] h _
  refine z_iconst (pc := 0) (v := 0) dX2_make_0 (by decide) ?_
  refine z_istore_n (pc := 1) (ls' := [some (.ref c0), some (.ref c1), some (.int x2), some (.int 0), none, none, none]) dX2_make_1 rfl (by decide) rfl ?_
  exact F
theorem g_X2_make_2 {c0 : Nat} {c1 : Nat} {x2 : Int32} {x3 : Int32} {h : zHp} {Q : zHp → Prop} (hc0 : zLo c0) (hc1 : zW c1) (G : zG h) (F : (rI h c1 1 ≤ x3 → (zlV M_X2_make 75 [some (.ref c0), some (.ref c1), some (.int x2), some (.int 0), none, none, none] [] (wI h c0 5 0) Q)) ∧ (¬ (rI h c1 1 ≤ x3) → (vp_in x3 8 ∧ (zlV M_X2_make 2 [some (.ref c0), some (.ref c1), some (.int x2), some (.int (x3 + 1)), none, none, none] [] (wI (wI (wI (wI h (c0 + 1) ((Int32.toNatClampNeg x3)) (rI h (c1 + 6 + (Int32.toNatClampNeg x3)) 1)) (c0 + 2) ((Int32.toNatClampNeg x3)) 0) (c0 + 3) ((Int32.toNatClampNeg x3)) (rI h (c1 + 6 + (Int32.toNatClampNeg x3)) 2)) (c0 + 4) ((Int32.toNatClampNeg x3)) (rI h (c1 + 6 + (Int32.toNatClampNeg x3)) 3)) Q)))) : zlV M_X2_make 2 [some (.ref c0), some (.ref c1), some (.int x2), some (.int x3), none, none, none] [] h Q := by
  refine z_iload_n (pc := 2) dX2_make_2 rfl rfl ?_
  refine z_aload_n (pc := 3) dX2_make_3 rfl rfl ?_
  refine q_getI (pc := 4) (v := rI h c1 1) dX2_make_4 lk_RX2_27 (lyW0 hc1) rfl ?_
  refine z_icmp_ge (pc := 7) (tgt := 68) dX2_make_7 (by decide) (fun k2 => ?_) (fun k2 => ?_)
  · replace F := F.1 k2
    refine z_aload_n (pc := 68) dX2_make_68 rfl rfl ?_
    refine z_iconst (pc := 69) (v := 0) dX2_make_69 (by decide) ?_
    refine q_putI (pc := 70) dX2_make_70 lk_RX2_45 (lyLo0 hc0) ?_
    refine z_iconst (pc := 73) (v := 0) dX2_make_73 (by decide) ?_
    refine z_istore_n (pc := 74) (ls' := [some (.ref c0), some (.ref c1), some (.int x2), some (.int 0), none, none, none]) dX2_make_74 rfl (by decide) rfl ?_
    exact F
  · replace F := F.2 k2
    refine z_aload_n (pc := 10) dX2_make_10 rfl rfl ?_
    refine q_getR (pc := 11) (i := c0 + 1) dX2_make_11 lk_RX2_9 (lyLo0 hc0) (grLo0 G hc0) ?_
    refine z_iload_n (pc := 14) dX2_make_14 rfl rfl ?_
    refine z_aload_n (pc := 15) dX2_make_15 rfl rfl ?_
    refine q_getR (pc := 16) (i := c1 + 1) dX2_make_16 lk_RX2_33 (lyW0 hc1) (grW0 G hc1) ?_
    refine z_iload_n (pc := 19) dX2_make_19 rfl rfl ?_
    obtain ⟨k1, F⟩ := F
    refine q_aald (pc := 20) (j := (Int32.toNatClampNeg x3)) (r := c1 + 6 + (Int32.toNatClampNeg x3)) (t := 0) dX2_make_20 (lyW1 hc1) (zvn (lnW1 hc1) k1) rfl (grT (B := c1) G hc1 (zvi k1)) ?_
    refine q_getI (pc := 21) (v := rI h (c1 + 6 + (Int32.toNatClampNeg x3)) 1) dX2_make_21 lk_RX2_37 (lyT (B := c1) hc1 (zvi k1)) rfl ?_
    refine q_iast (pc := 24) (j := (Int32.toNatClampNeg x3)) dX2_make_24 (lyLo1 hc0) (zvn (lnLo1 hc0) k1) rfl ?_
    refine z_aload_n (pc := 25) dX2_make_25 rfl rfl ?_
    refine q_getR (pc := 26) (i := c0 + 2) dX2_make_26 lk_RX2_15 (lyLo0 hc0) (grLo1 G hc0) ?_
    refine z_iload_n (pc := 29) dX2_make_29 rfl rfl ?_
    refine z_iconst (pc := 30) (v := 0) dX2_make_30 (by decide) ?_
    refine q_iast (pc := 31) (j := (Int32.toNatClampNeg x3)) dX2_make_31 (lyLo2 hc0) (zvn (lnLo2 hc0) k1) rfl ?_
    refine z_aload_n (pc := 32) dX2_make_32 rfl rfl ?_
    refine q_getR (pc := 33) (i := c0 + 3) dX2_make_33 lk_RX2_18 (lyLo0 hc0) (grLo2 G hc0) ?_
    refine z_iload_n (pc := 36) dX2_make_36 rfl rfl ?_
    refine z_aload_n (pc := 37) dX2_make_37 rfl rfl ?_
    refine q_getR (pc := 38) (i := c1 + 1) dX2_make_38 lk_RX2_33 (lyW0 hc1) (grW0 G hc1) ?_
    refine z_iload_n (pc := 41) dX2_make_41 rfl rfl ?_
    refine q_aald (pc := 42) (j := (Int32.toNatClampNeg x3)) (r := c1 + 6 + (Int32.toNatClampNeg x3)) (t := 0) dX2_make_42 (lyW1 hc1) (zvn (lnW1 hc1) k1) rfl (grT (B := c1) G hc1 (zvi k1)) ?_
    refine q_getI (pc := 43) (v := rI h (c1 + 6 + (Int32.toNatClampNeg x3)) 2) dX2_make_43 lk_RX2_41 (lyT (B := c1) hc1 (zvi k1)) ((rI_c (zne (lyT (B := c1) hc1 (zvi k1)) (lyLo2 hc0) (by decide))).trans (rI_c (zne (lyT (B := c1) hc1 (zvi k1)) (lyLo1 hc0) (by decide)))) ?_
    refine q_iast (pc := 46) (j := (Int32.toNatClampNeg x3)) dX2_make_46 (lyLo3 hc0) (zvn (lnLo3 hc0) k1) rfl ?_
    refine z_aload_n (pc := 47) dX2_make_47 rfl rfl ?_
    refine q_getR (pc := 48) (i := c0 + 4) dX2_make_48 lk_RX2_21 (lyLo0 hc0) (grLo3 G hc0) ?_
    refine z_iload_n (pc := 51) dX2_make_51 rfl rfl ?_
    refine z_aload_n (pc := 52) dX2_make_52 rfl rfl ?_
    refine q_getR (pc := 53) (i := c1 + 1) dX2_make_53 lk_RX2_33 (lyW0 hc1) (grW0 G hc1) ?_
    refine z_iload_n (pc := 56) dX2_make_56 rfl rfl ?_
    refine q_aald (pc := 57) (j := (Int32.toNatClampNeg x3)) (r := c1 + 6 + (Int32.toNatClampNeg x3)) (t := 0) dX2_make_57 (lyW1 hc1) (zvn (lnW1 hc1) k1) rfl (grT (B := c1) G hc1 (zvi k1)) ?_
    refine q_getI (pc := 58) (v := rI h (c1 + 6 + (Int32.toNatClampNeg x3)) 3) dX2_make_58 lk_RX2_43 (lyT (B := c1) hc1 (zvi k1)) (((rI_c (zne (lyT (B := c1) hc1 (zvi k1)) (lyLo3 hc0) (by decide))).trans (rI_c (zne (lyT (B := c1) hc1 (zvi k1)) (lyLo2 hc0) (by decide)))).trans (rI_c (zne (lyT (B := c1) hc1 (zvi k1)) (lyLo1 hc0) (by decide)))) ?_
    refine q_iast (pc := 61) (j := (Int32.toNatClampNeg x3)) dX2_make_61 (lyLo4 hc0) (zvn (lnLo4 hc0) k1) rfl ?_
    refine z_iinc (pc := 62) (v := x3 + 1) (ls' := [some (.ref c0), some (.ref c1), some (.int x2), some (.int (x3 + 1)), none, none, none]) dX2_make_62 (by decide) rfl rfl rfl ?_
    refine z_goto (pc := 65) (tgt := 2) dX2_make_65 (by decide) ?_
    exact F
theorem g_X2_make_75 {c0 : Nat} {c1 : Nat} {x2 : Int32} {x3 : Int32} {h : zHp} {Q : zHp → Prop} (hc0 : zLo c0) (hc1 : zW c1) (G : zG h) (F : (x2 ≤ x3 → (Q h)) ∧ (¬ (x2 ≤ x3) → ((5 ≤ x3 → (Q h)) ∧ (¬ (5 ≤ x3) → (zcI M_X8_workingIn [.ref c1, .int x3] h (fun vh1 h1 => zG h1 ∧ (zlV M_X2_make 95 [some (.ref c0), some (.ref c1), some (.int x2), some (.int x3), some (.int vh1), some (.int 0), none] [] h1 Q))))))) : zlV M_X2_make 75 [some (.ref c0), some (.ref c1), some (.int x2), some (.int x3), none, none, none] [] h Q := by
  refine z_iload_n (pc := 75) dX2_make_75 rfl rfl ?_
  refine z_iload_n (pc := 76) dX2_make_76 rfl rfl ?_
  refine z_icmp_ge (pc := 77) (tgt := 157) dX2_make_77 (by decide) (fun k3 => ?_) (fun k3 => ?_)
  · replace F := F.1 k3
    exact q_retV (pc := 157) dX2_make_157 rfl F
  · replace F := F.2 k3
    refine z_iload_n (pc := 80) dX2_make_80 rfl rfl ?_
    refine z_iconst (pc := 81) (v := 5) dX2_make_81 (by decide) ?_
    refine z_icmp_ge (pc := 82) (tgt := 157) dX2_make_82 (by decide) (fun k2 => ?_) (fun k2 => ?_)
    · replace F := F.1 k2
      exact q_retV (pc := 157) dX2_make_157 rfl F
    · replace F := F.2 k2
      refine z_aload_n (pc := 85) dX2_make_85 rfl rfl ?_
      refine z_iload_n (pc := 86) dX2_make_86 rfl rfl ?_
      refine q_invV (pc := 87) (As := [.int x3]) (st := []) dX2_make_87 ok_X8_workingIn ml_RX2_48 iv_X8_workingIn pa_X8_workingIn ⟨Nat.le_of_ble_eq_true rfl, Nat.le_of_ble_eq_true rfl⟩ (lyW0 hc1) (q_kI F (fun vh1 h1 F => ?_))
      obtain ⟨G1, F⟩ := F
      refine z_istore (pc := 90) (ls' := [some (.ref c0), some (.ref c1), some (.int x2), some (.int x3), some (.int vh1), none, none]) dX2_make_90 (by decide) rfl ?_
      refine z_iconst (pc := 92) (v := 0) dX2_make_92 (by decide) ?_
      refine z_istore (pc := 93) (ls' := [some (.ref c0), some (.ref c1), some (.int x2), some (.int x3), some (.int vh1), some (.int 0), none]) dX2_make_93 (by decide) rfl ?_
      exact F
theorem g_X2_make_95 {c0 : Nat} {c1 : Nat} {x2 : Int32} {x3 : Int32} {x4 : Int32} {x5 : Int32} {h : zHp} {Q : zHp → Prop} (hc0 : zLo c0) (hc1 : zW c1) (G : zG h) (F : (10 ≤ x5 → (zlV M_X2_make 75 [some (.ref c0), some (.ref c1), some (.int x2), some (.int (x3 + 1)), none, none, none] [] h Q)) ∧ (¬ (10 ≤ x5) → ((x4 = 0 → (zlV M_X2_make 75 [some (.ref c0), some (.ref c1), some (.int x2), some (.int (x3 + 1)), none, none, none] [] h Q)) ∧ (¬ (x4 = 0) → (zcI M_X2_pick [.ref c0, .ref c1, .int x4] h (fun vh1 h1 => zG h1 ∧ (vp_in vh1 10 ∧ (zRef h1 (c1 + 2) ((Int32.toNatClampNeg vh1)) 2 ∧ (zcV M_X2_perform [.ref c0, .ref c1, .ref (rG h1 (c1 + 2) ((Int32.toNatClampNeg vh1)))] h1 (fun h2 => zG h2 ∧ (zcV M_X2_record [.ref c0, .int vh1] h2 (fun h3 => zG h3 ∧ (zlV M_X2_make 95 [some (.ref c0), some (.ref c1), some (.int x2), some (.int x3), some (.int (x4 &&& ((1 <<< (vh1 &&& 31)) ^^^ (-1)))), some (.int (x5 + 1)), none] [] h3 Q))))))))))))) : zlV M_X2_make 95 [some (.ref c0), some (.ref c1), some (.int x2), some (.int x3), some (.int x4), some (.int x5), none] [] h Q := by
  refine z_iload (pc := 95) dX2_make_95 rfl ?_
  refine z_bipush (pc := 97) (v := 10) dX2_make_97 (by decide) ?_
  refine z_icmp_ge (pc := 99) (tgt := 151) dX2_make_99 (by decide) (fun k7 => ?_) (fun k7 => ?_)
  · replace F := F.1 k7
    refine z_iinc (pc := 151) (v := x3 + 1) (ls' := [some (.ref c0), some (.ref c1), some (.int x2), some (.int (x3 + 1)), some (.int x4), some (.int x5), none]) dX2_make_151 (by decide) rfl rfl rfl ?_
    refine z_goto (pc := 154) (tgt := 75) dX2_make_154 (by decide) ?_
    exact q_sub (ls' := [some (.ref c0), some (.ref c1), some (.int x2), some (.int (x3 + 1)), none, none, none]) ⟨rfl, rfl, rfl, rfl, trivial⟩ F
  · replace F := F.2 k7
    refine z_iload (pc := 102) dX2_make_102 rfl ?_
    refine z_if_eq (pc := 104) (tgt := 151) dX2_make_104 (by decide) (fun k6 => ?_) (fun k6 => ?_)
    · replace F := F.1 k6
      refine z_iinc (pc := 151) (v := x3 + 1) (ls' := [some (.ref c0), some (.ref c1), some (.int x2), some (.int (x3 + 1)), some (.int x4), some (.int x5), none]) dX2_make_151 (by decide) rfl rfl rfl ?_
      refine z_goto (pc := 154) (tgt := 75) dX2_make_154 (by decide) ?_
      exact q_sub (ls' := [some (.ref c0), some (.ref c1), some (.int x2), some (.int (x3 + 1)), none, none, none]) ⟨rfl, rfl, rfl, rfl, trivial⟩ F
    · replace F := F.2 k6
      refine z_aload_n (pc := 107) dX2_make_107 rfl rfl ?_
      refine z_aload_n (pc := 108) dX2_make_108 rfl rfl ?_
      refine z_iload (pc := 109) dX2_make_109 rfl ?_
      refine q_invV (pc := 111) (As := [.ref c1, .int x4]) (st := []) dX2_make_111 ok_X2_pick ml_RX2_52 iv_X2_pick pa_X2_pick ⟨Nat.le_of_ble_eq_true rfl, Nat.le_of_ble_eq_true rfl⟩ (lyLo0 hc0) (q_kI F (fun vh1 h1 F => ?_))
      obtain ⟨G1, F⟩ := F
      refine z_istore (pc := 114) (ls' := [some (.ref c0), some (.ref c1), some (.int x2), some (.int x3), some (.int x4), some (.int x5), some (.int vh1)]) dX2_make_114 (by decide) rfl ?_
      refine z_aload_n (pc := 116) dX2_make_116 rfl rfl ?_
      refine z_aload_n (pc := 117) dX2_make_117 rfl rfl ?_
      refine z_aload_n (pc := 118) dX2_make_118 rfl rfl ?_
      refine q_getR (pc := 119) (i := c1 + 2) dX2_make_119 lk_RX2_56 (lyW0 hc1) (grW2 G1 hc1) ?_
      refine z_iload (pc := 122) dX2_make_122 rfl ?_
      obtain ⟨k2, F⟩ := F
      obtain ⟨k3, F⟩ := F
      refine q_aald (pc := 124) (j := (Int32.toNatClampNeg vh1)) (r := rG h1 (c1 + 2) ((Int32.toNatClampNeg vh1))) (t := 1) dX2_make_124 (lyW2 hc1) (zvn (lnW2 hc1) k2) rfl k3.1 ?_
      refine q_invV (pc := 125) (As := [.ref c1, .ref (rG h1 (c1 + 2) ((Int32.toNatClampNeg vh1)))]) (st := []) dX2_make_125 ok_X2_perform ml_RX2_60 iv_X2_perform pa_X2_perform ⟨Nat.le_of_ble_eq_true rfl, Nat.le_of_ble_eq_true rfl⟩ (lyLo0 hc0) (q_kV F (fun h2 F => ?_))
      obtain ⟨G2, F⟩ := F
      refine z_aload_n (pc := 128) dX2_make_128 rfl rfl ?_
      refine z_iload (pc := 129) dX2_make_129 rfl ?_
      refine q_invV (pc := 131) (As := [.int vh1]) (st := []) dX2_make_131 ok_X2_record ml_RX2_64 iv_X2_record pa_X2_record ⟨Nat.le_of_ble_eq_true rfl, Nat.le_of_ble_eq_true rfl⟩ (lyLo0 hc0) (q_kV F (fun h3 F => ?_))
      obtain ⟨G3, F⟩ := F
      refine z_iload (pc := 134) dX2_make_134 rfl ?_
      refine z_iconst (pc := 136) (v := 1) dX2_make_136 (by decide) ?_
      refine z_iload (pc := 137) dX2_make_137 rfl ?_
      refine z_ishl (pc := 139) dX2_make_139 ?_
      refine z_iconst (pc := 140) (v := -1) dX2_make_140 (by decide) ?_
      refine z_ixor (pc := 141) dX2_make_141 ?_
      refine z_iand (pc := 142) dX2_make_142 ?_
      refine z_istore (pc := 143) (ls' := [some (.ref c0), some (.ref c1), some (.int x2), some (.int x3), some (.int (x4 &&& ((1 <<< (vh1 &&& 31)) ^^^ (-1)))), some (.int x5), some (.int vh1)]) dX2_make_143 (by decide) rfl ?_
      refine z_iinc (pc := 145) (v := x5 + 1) (ls' := [some (.ref c0), some (.ref c1), some (.int x2), some (.int x3), some (.int (x4 &&& ((1 <<< (vh1 &&& 31)) ^^^ (-1)))), some (.int (x5 + 1)), some (.int vh1)]) dX2_make_145 (by decide) rfl rfl rfl ?_
      refine z_goto (pc := 148) (tgt := 95) dX2_make_148 (by decide) ?_
      exact q_sub (ls' := [some (.ref c0), some (.ref c1), some (.int x2), some (.int x3), some (.int (x4 &&& ((1 <<< (vh1 &&& 31)) ^^^ (-1)))), some (.int (x5 + 1)), none]) ⟨rfl, rfl, rfl, rfl, rfl, rfl, trivial⟩ F
/-- the class's cells behind make: look K tells things by X, D are the effects done, c of them -/
def LkS (K : Nat) (n : Nat) (h h' : zHp) (X D : zN) (c : Nat) : Prop := h'.2 = h.2 ∧ (∀ a, (a < K ∨ K + 6 ≤ a) → h'.1 a = h.1 a) ∧ rI h' K 5 = nI c ∧ rq n (VL h' K) X ∧ ∀ i, i < c → rI h' (K + 5) i = D i
theorem LkS.rw {K B n c : Nat} {h h' : zHp} {N X D : zN} (f : LkS K n h h' X D c) (hK : zLo K) (hB : zW B) (hP : PW h B) (hC : CN N) (hR : RW h B N) : RW h' B N := by
  have := zLo_W hK hB
  exact RW_of f.1 (fun a h1 h2 => f.2.1 a (by omega)) hP hC hR
theorem Wk_in {N : zN} {l : Nat} (hC : CN N) : ∀ k, k < 32 → bi (Wk N l) (nI k) → k < cE N := fun k hk hb => ((bi_mask (by have := hC.2.1.2; omega) hk).mp hb).1
theorem s_X2_make {K B u : Nat} {N : zN} {h : zHp} (G : zG h) (hK : zLo K) (hB : zW B) (hC : CN N) (hP : PW h B) (hR : RW h B N) (hW : WN N) (hu : u ≤ 5) : zcV M_X2_make [.ref K, .ref B, .int (nI u)] h (fun h' => LkS K (cT N) h h' (Mk N u).1 (Mk N u).2.1 (Mk N u).2.2) := by
  have h8 := hC.1.2
  have h10 := hC.2.1.2
  have l95 : ∀ (m : Nat) (S : Int32) (X D : zN) (c : Nat) (h' : zHp) (l j : Nat), LkS K (cT N) h h' X D c → (∀ k, k < 32 → bi S (nI k) → k < cE N) → nb 10 (fun k => bi S (nI k)) ≤ m → j + m = 10 → nb 10 (fun k => bi S (nI k)) + c ≤ 10 → (∀ h2, LkS K (cT N) h h2 (lyr N m S X D c).1 (lyr N m S X D c).2.1 (lyr N m S X D c).2.2 → zlV M_X2_make 75 [some (.ref K), some (.ref B), some (.int (nI u)), some (.int (nI l + 1)), none, none, none] [] h2 (fun h' => LkS K (cT N) h h' (Mk N u).1 (Mk N u).2.1 (Mk N u).2.2)) → zlV M_X2_make 95 [some (.ref K), some (.ref B), some (.int (nI u)), some (.int (nI l)), some (.int S), some (.int (nI j)), none] [] h' (fun h' => LkS K (cT N) h h' (Mk N u).1 (Mk N u).2.1 (Mk N u).2.2) := by
    intro m
    induction m with
    | zero =>
      intro S X D c h' l j ms hs hm hj hr cont
      have : j = 10 := by omega
      subst this
      exact g_X2_make_95 hK hB (zG_of ms.1 G) ⟨fun _ => cont h' ms, fun q => absurd (by decide) q⟩
    | succ m ih =>
      intro S X D c h' l j ms hs hm hj hr cont
      have s10 : Set10 S := fun k hk hb => by have := hs k hk hb; omega
      have G' := zG_of ms.1 G
      have hP' := PW_of ms.1 hP
      have hR' := ms.rw hK hB hP hC hR
      refine g_X2_make_95 hK hB G' ⟨fun q => absurd q (nI_ge (b := 10) (by omega) (by omega)), fun _ => ⟨fun q => cont h' (by rw [lyr, if_pos q]; exact ms), fun q => ?_⟩⟩
      refine zcI_use (s_X2_pick G' hK hB hC hP' hR' hW hs q) ⟨G', ?_⟩
      obtain ⟨a1, a2, a3, a4, a5⟩ := ms
      rw [Nx_rq a4]
      obtain ⟨n1, n2⟩ := Nx_in (N := N) (L := X) s10 q
      have nE := hs _ (by omega) n2
      have c9 : c < 10 := by have := nb_out n1 n2; omega
      rw [nI_clamp (by omega)]
      refine ⟨vp_in_nI n1 (by omega), hP'.e hB n1, zcV_then (s_X2_perform G' hK hB hC hP' hR' hW nE) (fun g1 hg => ?_)⟩
      obtain ⟨⟨f1, f2⟩, f3⟩ := hg
      have e5 : rI g1 K 5 = nI c := by show g1.1 K 5 = _; rw [f2 K (by omega) (by omega) (by omega) (by omega)]; exact a3
      refine ⟨zG_of (f1.trans a1) G, zcV_use (s_X2_record (zG_of (f1.trans a1) G) hK e5 c9) ⟨zG_of (f1.trans a1) G, ?_⟩⟩
      have nbo := nb_out n1 n2
      have nx := ih (S &&& (((1 : Int32) <<< (nI (Nx N X S) &&& 31)) ^^^ (-1))) (Do N X (Nx N X S)) (upd D c (nI (Nx N X S))) (c + 1) (wI (wI g1 (K + 5) c (nI (Nx N X S))) K 5 (nI (c + 1))) l (j + 1) ⟨f1.trans a1, fun a ha => by rw [wI_ne (by omega), wI_ne (by omega), f2 a (by omega) (by omega) (by omega) (by omega)]; exact a2 a ha, rI_s, fun i hi => ?_, fun i hi => ?_⟩ (fun k hk hb => hs k hk ((bi_out (by omega) hk).mp hb).1) (by omega) (by omega) (by omega) (fun h2 hh => cont h2 (by rw [lyr, if_neg q]; exact hh))
      · rw [← nI_1] at nx
        exact nx
      · have e6 : VL (wI (wI g1 (K + 5) c (nI (Nx N X S))) K 5 (nI (c + 1))) K i = VL g1 K i := by
          unfold VL
          rw [rI_c (by omega), rI_c (by omega)]
        rw [e6, f3 i hi]
        exact Do_rq a4 i hi
      · rw [rI_c (by omega)]
        by_cases z : i = c
        · subst z
          rw [rI_s]
          simp [upd]
        · rw [rI_k z]
          simp only [upd, if_neg z]
          show g1.1 (K + 5) i = _
          rw [f2 (K + 5) (by omega) (by omega) (by omega) (by omega)]
          exact a5 i (by omega)
  have l75 : ∀ (m l : Nat) (h' : zHp), l + m = u → LkS K (cT N) h h' (Mk N l).1 (Mk N l).2.1 (Mk N l).2.2 → zlV M_X2_make 75 [some (.ref K), some (.ref B), some (.int (nI u)), some (.int (nI l)), none, none, none] [] h' (fun h' => LkS K (cT N) h h' (Mk N u).1 (Mk N u).2.1 (Mk N u).2.2) := by
    intro m
    induction m with
    | zero =>
      intro l h' hl ms
      have : l = u := by omega
      subst this
      exact g_X2_make_75 hK hB (zG_of ms.1 G) ⟨fun _ => ms, fun q => absurd (Int32.le_refl _) q⟩
    | succ m ih =>
      intro l h' hl ms
      have hP' := PW_of ms.1 hP
      have hR' := ms.rw hK hB hP hC hR
      refine g_X2_make_75 hK hB (zG_of ms.1 G) ⟨fun q => absurd q (nI_ge (by omega) (by omega)), fun _ => ⟨fun q => absurd q (nI_ge (b := 5) (by omega) (by omega)), fun _ => ?_⟩⟩
      refine zcI_use (s_X8_workingIn (zG_of ms.1 G) hB hC hP' hR' hW) ⟨zG_of ms.1 G, ?_⟩
      refine l95 10 (Wk N l) _ _ _ h' l 0 ms (Wk_in hC) nb_le (by omega) (Mk_room h10 (by omega)) (fun h2 hh => ?_)
      rw [nI_1]
      exact ih (l + 1) h2 (by omega) hh
  have l2 : ∀ (m j : Nat) (h' : zHp), j + m = cT N → h'.2 = h.2 → (∀ a, (a < K ∨ K + 6 ≤ a) → h'.1 a = h.1 a) → (∀ i, i < 4 * j → VL h' K i = B0 N i) → zlV M_X2_make 2 [some (.ref K), some (.ref B), some (.int (nI u)), some (.int (nI j)), none, none, none] [] h' (fun h' => LkS K (cT N) h h' (Mk N u).1 (Mk N u).2.1 (Mk N u).2.2) := by
    intro m
    induction m with
    | zero =>
      intro j h' hj a1 a2 a3
      have : j = cT N := by omega
      subst this
      have zz := zLo_W hK hB
      have hR' := RW_of a1 (fun a h1 h2 => a2 a (by omega)) hP hC hR
      refine g_X2_make_2 hK hB (zG_of a1 G) ⟨fun _ => ?_, fun q => absurd (by rw [hR'.1.1, hC.1.1]; exact Int32.le_refl _) q⟩
      refine l75 u 0 _ (by omega) ⟨a1, fun a ha => by rw [wI_ne (by omega)]; exact a2 a ha, rI_s, fun i hi => ?_, fun i hi => absurd hi (Nat.not_lt_zero i)⟩
      have e6 : VL (wI h' K 5 0) K i = VL h' K i := by
        unfold VL
        rw [rI_c (by omega)]
      rw [e6]
      exact a3 i hi
    | succ m ih =>
      intro j h' hj a1 a2 a3
      have hjn : j < cT N := by omega
      have zz := zLo_W hK hB
      have hR' := RW_of a1 (fun a h1 h2 => a2 a (by omega)) hP hC hR
      refine g_X2_make_2 hK hB (zG_of a1 G) ⟨fun q => absurd q (by rw [hR'.1.1, hC.1.1]; exact nI_ge hjn (by omega)), fun _ => ⟨vp_in_nI (by omega) (by omega), ?_⟩⟩
      rw [nI_clamp (by omega), hR'.2.1 j 1 hjn (by omega), hR'.2.1 j 2 hjn (by omega), hR'.2.1 j 3 hjn (by omega), nI_1]
      refine ih (j + 1) _ (by omega) a1 (fun a ha => by rw [wI_ne (by omega), wI_ne (by omega), wI_ne (by omega), wI_ne (by omega)]; exact a2 a ha) (fun i hi => ?_)
      by_cases q : i < 4 * j
      · have e6 : ∀ a b c d : Int32, VL (wI (wI (wI (wI h' (K + 1) j a) (K + 2) j b) (K + 3) j c) (K + 4) j d) K i = VL h' K i := by
          intro a b c d
          unfold VL
          rw [rI_k (by omega), rI_k (by omega), rI_k (by omega), rI_k (by omega)]
        rw [e6]
        exact a3 i q
      · unfold B0
        rcases (show i = 4 * j ∨ i = 4 * j + 1 ∨ i = 4 * j + 2 ∨ i = 4 * j + 3 by omega) with z | z | z | z
        · rw [z, VL_0, rI_c (by omega), rI_c (by omega), rI_c (by omega), rI_s, if_pos (by omega), show 4 * j / 4 = j by omega]
        · rw [z, VL_at (by omega), rI_c (by omega), rI_c (by omega), show K + 1 + 1 = K + 2 by omega, rI_s, if_neg (by omega), if_pos (by omega)]
        · rw [z, VL_at (by omega), rI_c (by omega), show K + 1 + 2 = K + 3 by omega, rI_s, if_neg (by omega), if_neg (by omega), if_pos (by omega), show (4 * j + 2) / 4 = j by omega]
        · rw [z, VL_at (by omega), show K + 1 + 3 = K + 4 by omega, rI_s, if_neg (by omega), if_neg (by omega), if_neg (by omega), show (4 * j + 3) / 4 = j by omega]
  exact g_X2_make hK hB G (l2 (cT N) 0 h (by omega) rfl (fun _ _ => rfl) (fun i hi => by omega))

