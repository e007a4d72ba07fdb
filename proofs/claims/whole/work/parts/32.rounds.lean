/-! who dies, round by round: pure, and the reference -/
theorem s_X11_setsOn {set : Int32} {s : Stk} {h : zHp} (G : zG h) (hC : CN (h.1 165)) (h1 : ¬ rI h 164 8 = 0) (hS : SM h s) (hn : s.2.2 + 8 ≤ 400) : zcV M_X11_setsOff [.ref 164, .int 2, .int set] h (fun h' => fM h h' ∧ SM h' (SOn (h.1 165) s)) := by
  have v8 := hC.2.2.2.2
  generalize hN : h.1 165 = N at *
  have b1 : ∀ t, t < 8 → (bi 1 (nI t) ↔ t = 0) := by
    intro t ht
    rw [bi_bt (by omega), b_1, decide_eq_true_eq]
  have l132 : ∀ (m t : Nat) (h' : zHp) (j : Nat) (s0 : Stk), t + m = 8 → 1 ≤ t → fM h h' → SM h' s0 → (∀ h2, fM h h2 → SM h2 s0 → zlV M_X11_setsOff 44 [some (.ref 164), some (.int 2), some (.int set), some (.int 0), some (.int (N 244)), some (.int (nI j + 1)), none, none] [] h2 (fun h' => fM h h' ∧ SM h' (SOn N s))) → zlV M_X11_setsOff 132 [some (.ref 164), some (.int 2), some (.int set), some (.int 0), some (.int (N 244)), some (.int (nI j)), some (.int 1), some (.int (nI t))] [] h' (fun h' => fM h h' ∧ SM h' (SOn N s)) := by
    intro m
    induction m with
    | zero =>
      intro t h' j s0 ht h0 f c cont
      have : t = 8 := by omega
      subst this
      exact g_X11_setsOff_132 (zG_of f.1 G) ⟨fun _ => cont h' f c, fun q => absurd (by decide) q⟩
    | succ m ih =>
      intro t h' j s0 ht h0 f c cont
      refine g_X11_setsOff_132 (zG_of f.1 G) ⟨fun q => absurd q (nI_ge (b := 8) (by omega) (by omega)), fun _ => ⟨fun q => absurd ((b1 t (by omega)).mp q) (by omega), fun q => ?_⟩⟩
      rw [nI_1]
      exact ih (t + 1) h' j s0 (by omega) (by omega) f c cont
  have l44 : ∀ (m j : Nat) (h' : zHp), j + m = cV N → fM h h' → SM h' (soW (fun w => N (182 + 7 * w) = N 244 ∧ N (182 + 7 * w + 1) = 2) (fun w s => psh s (nI w) (-1)) j s) → (∀ h2, fM h h2 → SM h2 (SOn N s) → zlV M_X11_setsOff 2 [some (.ref 164), some (.int 2), some (.int set), some (.int (0 + 1)), none, none, none, none] [] h2 (fun h' => fM h h' ∧ SM h' (SOn N s))) → zlV M_X11_setsOff 44 [some (.ref 164), some (.int 2), some (.int set), some (.int 0), some (.int (N 244)), some (.int (nI j)), none, none] [] h' (fun h' => fM h h' ∧ SM h' (SOn N s)) := by
    intro m
    induction m with
    | zero =>
      intro j h' hj f c cont
      have : j = cV N := by omega
      subst this
      have e1 : rI h' 165 241 = nI (cV N) := by show h'.1 165 241 = _; rw [f.2.1 165 (by decide) (by decide), hN]; exact hC.2.2.2.1
      exact g_X11_setsOff_44 (zG_of f.1 G) ⟨fun _ => cont h' f c, fun q => absurd (by rw [e1]; exact Int32.le_refl _) q⟩
    | succ m ih =>
      intro j h' hj f c cont
      have hjn : j < cV N := by omega
      have eN : h'.1 165 = N := by rw [f.2.1 165 (by decide) (by decide), hN]
      have e1 : rI h' 165 241 = nI (cV N) := by show h'.1 165 241 = _; rw [eN]; exact hC.2.2.2.1
      obtain ⟨i0, i1, -⟩ := ixV' (e := j) (by omega)
      have rN : ∀ k, rI h' 165 k = N k := fun k => by show h'.1 165 k = _; rw [eN]
      have top := soW_cnt (sel := fun w => N (182 + 7 * w) = N 244 ∧ N (182 + 7 * w + 1) = 2) (f := fun w s => psh s (nI w) (-1)) (s := s) (k := 1) (fun w s => Nat.le_refl _) j
      have top2 := nb_le (n := j) (p := fun w => N (182 + 7 * w) = N 244 ∧ N (182 + 7 * w + 1) = 2)
      refine g_X11_setsOff_44 (zG_of f.1 G) ⟨fun q => absurd q (by rw [e1]; exact nI_ge hjn (by omega)), fun _ => ?_⟩
      rw [i0.2, i1.2, rN, rN]
      refine ⟨i0.1, fun q => ?_, fun q => ⟨i1.1, fun q2 => ?_, fun q2 => ⟨fun z => absurd rfl z, fun _ => ⟨fun _ => ?_, fun z => absurd z (by decide)⟩⟩⟩⟩
      · rw [nI_1]; exact ih (j + 1) h' (by omega) f (by rw [soW_0 (fun z => q z.1)]; exact c) cont
      · rw [nI_1]; exact ih (j + 1) h' (by omega) f (by rw [soW_0 (fun z => q2 z.2)]; exact c) cont
      · refine g_X11_setsOff_93 (zG_of f.1 G) ⟨fun z => absurd rfl z, fun _ => ?_⟩
        refine g_X11_setsOff_132 (zG_of f.1 G) ⟨fun z => absurd z (by decide), fun _ => ⟨fun _ => ?_, fun z => absurd ((b1 0 (by omega)).mpr rfl) z⟩⟩
        have lt4 : (soW (fun w => N (182 + 7 * w) = N 244 ∧ N (182 + 7 * w + 1) = 2) (fun w s => psh s (nI w) (-1)) j s).2.2 < 400 := by omega
        have nx := SM_psh (w := nI j) (t := -1) c
        rw [c.1]
        have j0 := ix20 lt4
        have j1 := ix2 (k := 1) lt4 (by omega)
        rw [show nI 1 = (1 : Int32) from rfl] at j1
        rw [j0.2, j1.2, nI_1]
        refine ⟨j0.1, fun z => absurd rfl z, fun _ => ⟨j1.1, ?_⟩⟩
        refine l132 7 1 _ j _ (by omega) (by omega) (f.tr nx.1) nx.2 (fun h2 f2 c2 => ?_)
        rw [nI_1]
        exact ih (j + 1) h2 (by omega) f2 (by rw [soW_1 ⟨q, q2⟩]; exact c2) cont
  refine g_X11_setsOff G (g_X11_setsOff_2 G ⟨fun q => absurd q (by decide), fun _ => ⟨fun q => absurd q h1, fun _ => ⟨fun q => absurd rfl q, fun _ => ?_⟩⟩⟩)
  have e244 : rI h 165 244 = N 244 := by show h.1 165 244 = _; rw [hN]
  rw [e244]
  refine l44 (cV N) 0 h (by omega) fM.rf hS (fun h2' f2 c2 => ?_)
  have e8 : ¬ rI h2' 164 8 = 0 := by show ¬ h2'.1 164 8 = 0; rw [f2.2.2 8 (by decide)]; exact h1
  have eN2 : h2'.1 165 = N := by rw [f2.2.1 165 (by decide) (by decide), hN]
  refine g_X11_setsOff_2 (zG_of f2.1 G) ⟨fun q => absurd q (by decide), fun _ => ⟨fun q => absurd q e8, fun _ => ⟨fun _ => ?_, fun q => absurd q (by decide)⟩⟩⟩
  have e2 : rI h2' 165 244 = N 244 := by show h2'.1 165 244 = _; rw [eN2]
  have e1 : rI h2' 165 241 = nI (cV N) := by show h2'.1 165 241 = _; rw [eN2]; exact hC.2.2.2.1
  have rN : ∀ k, rI h2' 165 k = N k := fun k => by show h2'.1 165 k = _; rw [eN2]
  rw [e2]
  have skip : ∀ (m j : Nat), j + m = cV N → zlV M_X11_setsOff 44 [some (.ref 164), some (.int 2), some (.int set), some (.int (0 + 1)), some (.int (1 - N 244)), some (.int (nI j)), none, none] [] h2' (fun h' => fM h h' ∧ SM h' (SOn N s)) := by
    intro m
    induction m with
    | zero =>
      intro j hj
      have : j = cV N := by omega
      subst this
      refine g_X11_setsOff_44 (zG_of f2.1 G) ⟨fun _ => ?_, fun q => absurd (by rw [e1]; exact Int32.le_refl _) q⟩
      exact g_X11_setsOff_2 (zG_of f2.1 G) ⟨fun _ => ⟨f2, c2⟩, fun q => absurd (by decide) q⟩
    | succ m ih =>
      intro j hj
      have hjn : j < cV N := by omega
      obtain ⟨i0, i1, -⟩ := ixV' (e := j) (by omega)
      have nx := ih (j + 1) (by omega)
      rw [← nI_1] at nx
      refine g_X11_setsOff_44 (zG_of f2.1 G) ⟨fun q => absurd q (by rw [e1]; exact nI_ge hjn (by omega)), fun _ => ⟨i0.1, fun _ => nx, fun _ => ⟨i1.1, fun _ => nx, fun _ => ⟨fun z => absurd rfl z, fun _ => ⟨fun z => absurd (by decide) z, fun _ => nx⟩⟩⟩⟩⟩
  exact skip (cV N) 0 (by omega)
/-- who dies now, as bits -/
noncomputable def Dy (N L : zN) : Int32 := mask (cT N) (fun t => Al N t ∧ L (4 * t + 3) ≤ N (10 * t + 4))
/-- those of the set D are dead, and are kept as they last were -/
noncomputable def Bu (N L : zN) (D : Int32) : zN := fun i => @ite _ (i / 10 < cT N ∧ bi D (nI (i / 10))) (Classical.propDecidable _) (if i % 10 = 5 then 0 else if 6 ≤ i % 10 then L (4 * (i / 10) + (i % 10 - 6)) else N i) (N i)
theorem Bu_out {N L : zN} {D : Int32} {t k : Nat} (h : ¬ (t < cT N ∧ bi D (nI t))) (hk : k < 10) : Bu N L D (10 * t + k) = N (10 * t + k) := by
  unfold Bu
  rw [show (10 * t + k) / 10 = t by omega, if_neg h]
theorem Bu_in {N L : zN} {D : Int32} {t k : Nat} (ht : t < cT N) (hb : bi D (nI t)) (hk : k < 10) : Bu N L D (10 * t + k) = if k = 5 then 0 else if 6 ≤ k then L (4 * t + (k - 6)) else N (10 * t + k) := by
  unfold Bu
  rw [show (10 * t + k) / 10 = t by omega, show (10 * t + k) % 10 = k by omega, if_pos ⟨ht, hb⟩]
theorem Bu_hi {N L : zN} {D : Int32} {i : Nat} (hC : CN N) (hi : 80 ≤ i) : Bu N L D i = N i := by
  unfold Bu
  rw [if_neg (fun z => by have := hC.1.2; omega)]
theorem Bu_rq {N L L' : zN} {D : Int32} (h : rq (cT N) L L') : Bu N L D = Bu N L' D := by
  funext i
  rw [show i = 10 * (i / 10) + i % 10 by omega]
  rcases Classical.em (i / 10 < cT N ∧ bi D (nI (i / 10))) with q | q
  · rw [Bu_in q.1 q.2 (by omega), Bu_in q.1 q.2 (by omega)]
    by_cases z : 6 ≤ i % 10
    · have n5 : ¬ i % 10 = 5 := by omega
      simp only [if_neg n5, if_pos z, h _ (show 4 * (i / 10) + (i % 10 - 6) < 4 * cT N by omega)]
    · rw [if_neg z, if_neg z]
  · rw [Bu_out q (by omega), Bu_out q (by omega)]
theorem Dy_rq {N L L' : zN} (hC : CN N) (h : rq (cT N) L L') : Dy N L = Dy N L' := mask_congr (by have := hC.1.2; omega) (fun k hk => by rw [h _ (by omega)])
theorem Bu_CN {N L : zN} {D : Int32} (hC : CN N) : CN (Bu N L D) ∧ cT (Bu N L D) = cT N ∧ cE (Bu N L D) = cE N ∧ cR (Bu N L D) = cR N ∧ cV (Bu N L D) = cV N := by
  have e : ∀ i, 80 ≤ i → Bu N L D i = N i := fun i hi => Bu_hi hC hi
  have a1 : cT (Bu N L D) = cT N := by unfold cT; rw [e _ (by omega)]
  have a2 : cE (Bu N L D) = cE N := by unfold cE; rw [e _ (by omega)]
  have a3 : cR (Bu N L D) = cR N := by unfold cR; rw [e _ (by omega)]
  have a4 : cV (Bu N L D) = cV N := by unfold cV; rw [e _ (by omega)]
  refine ⟨?_, a1, a2, a3, a4⟩
  unfold CN
  rw [a1, a2, a3, a4, e _ (by omega), e _ (by omega), e _ (by omega), e _ (by omega)]
  exact hC
theorem Bu_WN {N L : zN} {D : Int32} (hC : CN N) (hW : WN N) : WN (Bu N L D) := by
  obtain ⟨-, a1, a2, -⟩ := Bu_CN (L := L) (D := D) hC
  refine ⟨fun t ht => ?_, fun e he => ?_⟩
  · rw [a1] at ht
    rcases Classical.em (bi D (nI t)) with q | q
    · rw [Bu_in ht q (by omega)]
      exact Or.inl rfl
    · rw [Bu_out (fun z => q z.2) (by omega)]
      exact hW.1 t ht
  · rw [a2] at he
    rw [Bu_hi hC (by omega)]
    exact hW.2 e he
/-- how many are alive -/
noncomputable def na (N : zN) : Nat := nb (cT N) (Al N)
theorem Bu_na {N L : zN} (hC : CN N) {D : Int32} (hD : ∀ t, t < cT N → bi D (nI t) → Al N t) : na (Bu N L D) + nb (cT N) (fun t => bi D (nI t)) = na N := by
  obtain ⟨-, a1, -⟩ := Bu_CN (L := L) (D := D) hC
  unfold na
  rw [a1, ← nb_or]
  · refine nb_congr (fun t ht => ?_)
    unfold Al
    rcases Classical.em (bi D (nI t)) with q | q
    · exact ⟨fun _ => hD t ht q, fun _ => Or.inr q⟩
    · rw [Bu_out (fun z => q z.2) (by omega)]
      exact ⟨fun z => z.elim id (fun y => absurd y q), Or.inl⟩
  · intro t ht h1 q
    unfold Al at h1
    rw [Bu_in ht q (by omega), if_pos rfl] at h1
    exact absurd h1 (by decide)
theorem Dy_al {N L : zN} (hC : CN N) {t : Nat} (ht : t < 32) (hb : bi (Dy N L) (nI t)) : t < cT N ∧ Al N t := by
  have := (bi_mask (by have := hC.1.2; omega) ht).mp hb
  exact ⟨this.1, this.2.1⟩
noncomputable def Ro (pl : Prop) : Nat → zN → Stk → zN × Stk
  | 0, N, s => (N, s)
  | m + 1, N, s => if Dy N (Mk N 5).1 = 0 then (N, s) else Ro pl m (Bu N (Mk N 5).1 (Dy N (Mk N 5).1)) (@ite _ pl (Classical.propDecidable _) (SOff N (Mk N 5).1 1 (Dy N (Mk N 5).1) s) s)
theorem Dy_pos {N L : zN} (hC : CN N) (h0 : ¬ Dy N L = 0) : 0 < nb (cT N) (fun t => bi (Dy N L) (nI t)) := by
  rcases Nat.eq_zero_or_pos (nb (cT N) (fun t => bi (Dy N L) (nI t))) with q | q
  · exact absurd (bi_all0.mpr (fun k hk hb => nb_0.mp q k (Dy_al hC hk hb).1 hb)) h0
  · exact q
theorem nb_ext8 {n : Nat} {p : Nat → Prop} (hn : n ≤ 8) (h : ∀ t, n ≤ t → t < 8 → ¬ p t) : nb 8 p = nb n p := by
  have : ∀ m, n ≤ m → m ≤ 8 → nb m p = nb n p := by
    intro m
    induction m with
    | zero => intro a _; rw [show n = 0 by omega]
    | succ m ih =>
      intro a b
      rcases Nat.lt_or_ge m n with q | q
      · rw [show n = m + 1 by omega]
      · rw [nb, if_neg (h m q (by omega)), ih q (by omega)]; omega
  exact this 8 hn (Nat.le_refl _)
theorem SOff_room {N L : zN} {s : Stk} (hC : CN N) : (SOff N L 1 (Dy N L) s).2.2 + 8 * na (Bu N L (Dy N L)) ≤ s.2.2 + 8 * na N := by
  have a := Bu_na (L := L) hC (D := Dy N L) (fun t ht hb => (Dy_al hC (by have := hC.1.2; omega) hb).2)
  have b := SOff_cnt (L := L) (on := 1) (set := Dy N L) (s := s) (k := nb (cT N) (fun t => bi (Dy N L) (nI t))) hC (by rw [nb_ext8 hC.1.2 (fun t h1 h2 hb => by have := (Dy_al hC (by omega) hb).1; omega)]; exact Nat.le_refl _)
  omega

