/-! what things are, made anew: pure, and the reference's makes -/
theorem nb_mask {n : Nat} {p : Nat → Prop} (hn : n ≤ 10) : nb 10 (fun k => bi (mask n p) (nI k)) = nb n p := by
  have h1 : nb 10 (fun k => bi (mask n p) (nI k)) = nb 10 (fun k => k < n ∧ p k) := nb_congr (fun k hk => bi_mask (by omega) (by omega))
  rw [h1]
  have h2 : ∀ m, n ≤ m → nb m (fun k => k < n ∧ p k) = nb n p := by
    intro m
    induction m with
    | zero => intro hm; rw [show n = 0 by omega]; rfl
    | succ m ih =>
      intro hm
      rcases Nat.lt_or_ge m n with q | q
      · rw [show n = m + 1 by omega]
        exact nb_congr (fun k hk => ⟨fun z => z.2, fun z => ⟨hk, z⟩⟩)
      · rw [nb, ih q, if_neg (fun z => by omega)]
        omega
  exact h2 10 hn
theorem Set10_mask {n : Nat} {p : Nat → Prop} (hn : n ≤ 10) : Set10 (mask n p) := by
  intro k hk hb
  have := ((bi_mask (by omega) hk).mp hb).1
  omega
def B0 (N : zN) : zN := fun i => if i % 4 = 0 then N (10 * (i / 4) + 1) else if i % 4 = 1 then 0 else if i % 4 = 2 then N (10 * (i / 4) + 2) else N (10 * (i / 4) + 3)
noncomputable def lyr (N : zN) : Nat → Int32 → zN → zN → Nat → zN × zN × Nat
  | 0, _, X, D, c => (X, D, c)
  | m + 1, S, X, D, c => if S = 0 then (X, D, c) else lyr N m (S &&& (((1 : Int32) <<< (nI (Nx N X S) &&& 31)) ^^^ (-1))) (Do N X (Nx N X S)) (upd D c (nI (Nx N X S))) (c + 1)
/-- the effects of layer l that do something -/
noncomputable def Wk (N : zN) (l : Nat) : Int32 := mask (cE N) (fun e => layM (N (80 + 7 * e + 1)) = nI l ∧ Wo N e)
/-- what things are by the layers below l; the effects in the order in which they are done; how many -/
noncomputable def Mk (N : zN) : Nat → zN × zN × Nat
  | 0 => (B0 N, fun _ => 0, 0)
  | l + 1 => lyr N 10 (Wk N l) (Mk N l).1 (Mk N l).2.1 (Mk N l).2.2
theorem nb_out {S : Int32} {e : Nat} (he : e < 10) (hb : bi S (nI e)) : nb 10 (fun k => bi (S &&& (((1 : Int32) <<< (nI e &&& 31)) ^^^ (-1))) (nI k)) + 1 = nb 10 (fun k => bi S (nI k)) := by
  rw [← nb_one (p := fun k => bi S (nI k)) he hb]
  congr 1
  exact nb_congr (fun k hk => bi_out (by omega) (by omega))
theorem Set10_out {S : Int32} {e : Nat} (he : e < 10) (hs : Set10 S) : Set10 (S &&& (((1 : Int32) <<< (nI e &&& 31)) ^^^ (-1))) := fun k hk hb => hs k hk ((bi_out (by omega) hk).mp hb).1
theorem S_0 {S : Int32} (hs : Set10 S) (h : nb 10 (fun k => bi S (nI k)) = 0) : S = 0 := bi_all0.mpr fun k hk hb => nb_0.mp h k (hs k hk hb) hb
theorem lyr_cnt {N : zN} : ∀ (m : Nat) (S : Int32) (X D : zN) (c : Nat), Set10 S → nb 10 (fun k => bi S (nI k)) ≤ m → (lyr N m S X D c).2.2 = c + nb 10 (fun k => bi S (nI k)) := by
  intro m
  induction m with
  | zero => intro S X D c hs hm; show c = _; omega
  | succ m ih =>
    intro S X D c hs hm
    by_cases q : S = 0
    · have : nb 10 (fun k => bi S (nI k)) = 0 := nb_0.mpr (fun k hk hb => bi_all0.mp q k (by omega) hb)
      rw [lyr, if_pos q, this]
      rfl
    · obtain ⟨a, b⟩ := Nx_in (N := N) (L := X) hs q
      have h1 := nb_out a b
      rw [lyr, if_neg q, ih _ _ _ _ (Set10_out a hs) (by omega)]
      omega
/-- which effects are done below layer l -/
def Pl (N : zN) (l e : Nat) : Prop := ∃ l', l' < l ∧ layM (N (80 + 7 * e + 1)) = nI l' ∧ Wo N e
theorem Mk_cnt {N : zN} (hE : cE N ≤ 10) : ∀ l, l ≤ 5 → (Mk N l).2.2 = nb (cE N) (Pl N l) := by
  intro l
  induction l with
  | zero =>
    intro _
    show 0 = _
    exact (nb_0.mpr (fun k hk ⟨l', a, b⟩ => by omega)).symm
  | succ l ih =>
    intro hl
    have h1 := ih (by omega)
    have h2 : nb 10 (fun k => bi (Wk N l) (nI k)) = nb (cE N) (fun e => layM (N (80 + 7 * e + 1)) = nI l ∧ Wo N e) := nb_mask hE
    rw [Mk, lyr_cnt 10 (Wk N l) _ _ _ (Set10_mask hE) nb_le, h1, h2, ← nb_or]
    · refine nb_congr (fun k hk => ⟨?_, ?_⟩)
      · rintro (⟨l', a, b⟩ | q)
        · exact ⟨l', by omega, b⟩
        · exact ⟨l, by omega, q⟩
      · rintro ⟨l', a, b⟩
        rcases Nat.lt_or_ge l' l with z | z
        · exact Or.inl ⟨l', z, b⟩
        · rw [show l' = l by omega] at b
          exact Or.inr b
    · rintro k hk ⟨l', a, b, -⟩ ⟨q, -⟩
      have := (nI_eq (by omega) (by omega)).mp (b.symm.trans q)
      omega
theorem Mk_le {N : zN} (hE : cE N ≤ 10) {l : Nat} (hl : l ≤ 5) : (Mk N l).2.2 ≤ 10 := by rw [Mk_cnt hE l hl]; exact Nat.le_trans nb_le hE
theorem Mk_room {N : zN} (hE : cE N ≤ 10) {l : Nat} (hl : l < 5) : nb 10 (fun k => bi (Wk N l) (nI k)) + (Mk N l).2.2 ≤ 10 := by
  have h1 := Mk_le hE (l := l + 1) (by omega)
  rw [Mk, lyr_cnt 10 (Wk N l) _ _ _ (Set10_mask hE) nb_le] at h1
  omega
/-- the reference's cells behind makes: things are by X, D are the effects done, c of them -/
def MkS (h h' : zHp) (X D : zN) (c : Nat) : Prop := h'.2 = h.2 ∧ (∀ a, a ≠ 164 → a ≠ 168 → a ≠ 169 → a ≠ 170 → h'.1 a = h.1 a) ∧ (∀ k, k ≠ 7 → h'.1 164 k = h.1 164 k) ∧ rI h' 164 7 = nI c ∧ rq (cT (h.1 165)) (h'.1 168) X ∧ ∀ i, i < c → h'.1 170 i = D i
theorem MkS.n {h h' : zHp} {X D : zN} {c : Nat} (m : MkS h h' X D c) : h'.1 165 = h.1 165 := m.2.1 165 (by decide) (by decide) (by decide) (by decide)
theorem MkS.g {h h' : zHp} {X D : zN} {c : Nat} {g : zN} (m : MkS h h' X D c) : MkS h (wA h' 169 g) X D c := by
  obtain ⟨a, b, d, e, f, k⟩ := m
  exact ⟨a, fun z z1 z2 z3 z4 => by rw [wA_n z3]; exact b z z1 z2 z3 z4, fun z hz => by rw [wA_n (by decide)]; exact d z hz, by rw [rI_An (by decide)]; exact e, by rw [wA_n (by decide)]; exact f, fun i hi => by rw [wA_n (by decide)]; exact k i hi⟩
theorem s_X11_makes {u : Nat} {h : zHp} (G : zG h) (k : zCt (rI h 165 238) 8) (kE : zCt (rI h 165 239) 10) (hu : u ≤ 5) : zcV M_X11_makes [.ref 164, .int (nI u)] h (fun h' => MkS h h' (Mk (h.1 165) u).1 (Mk (h.1 165) u).2.1 (Mk (h.1 165) u).2.2) := by
  obtain ⟨eT, hT⟩ := zCt_n k (by omega)
  obtain ⟨eE, hE⟩ := zCt_n kE (by omega)
  change rI h 165 238 = nI (cT (h.1 165)) at eT
  change rI h 165 239 = nI (cE (h.1 165)) at eE
  change cT (h.1 165) ≤ 8 at hT
  change cE (h.1 165) ≤ 10 at hE
  -- one layer's loop
  have l147 : ∀ (m : Nat) (S : Int32) (X D : zN) (c : Nat) (h' : zHp) (l : Nat) (x4 : Int32), MkS h h' X D c → Set10 S → nb 10 (fun k => bi S (nI k)) ≤ m → nb 10 (fun k => bi S (nI k)) + c ≤ 10 → (∀ h2, MkS h h2 (lyr (h.1 165) m S X D c).1 (lyr (h.1 165) m S X D c).2.1 (lyr (h.1 165) m S X D c).2.2 → zlV M_X11_makes 84 [some (.ref 164), some (.int (nI u)), some (.int (nI l + 1)), none, none] [] h2 (fun h' => MkS h h' (Mk (h.1 165) u).1 (Mk (h.1 165) u).2.1 (Mk (h.1 165) u).2.2)) → zlV M_X11_makes 147 [some (.ref 164), some (.int (nI u)), some (.int (nI l)), some (.int S), some (.int x4)] [] h' (fun h' => MkS h h' (Mk (h.1 165) u).1 (Mk (h.1 165) u).2.1 (Mk (h.1 165) u).2.2) := by
    intro m
    induction m with
    | zero =>
      intro S X D c h' l x4 ms hs hm hr cont
      refine g_X11_makes_147 (zG_of ms.1 G) ⟨fun _ => cont h' ms, fun q => absurd (S_0 hs (by omega)) q⟩
    | succ m ih =>
      intro S X D c h' l x4 ms hs hm hr cont
      refine g_X11_makes_147 (zG_of ms.1 G) ⟨fun q => cont h' (by rw [lyr, if_pos q]; exact ms), fun q => ?_⟩
      have kk : zCt (rI h' 165 238) 8 := by show zCt (h'.1 165 238) 8; rw [ms.n]; exact k
      refine zcI_then (s_X11_nextOf (zG_of ms.1 G) kk hs q) (fun v h1 hv => ?_)
      obtain ⟨rfl, g, rfl⟩ := hv
      have hX : rq (cT (h'.1 165)) (h'.1 168) X := by rw [ms.n]; exact ms.2.2.2.2.1
      rw [Nx_rq hX, ms.n]
      obtain ⟨n1, n2⟩ := Nx_in (N := h.1 165) (L := X) hs q
      have ms1 := ms.g (g := g)
      refine ⟨zG_of ms1.1 G, ?_⟩
      generalize wA h' 169 g = h1 at ms1 ⊢
      have kk1 : zCt (rI h1 165 238) 8 := by show zCt (h1.1 165 238) 8; rw [ms1.n]; exact k
      refine zcV_use (s_X11_does (c := 168) (zG_of ms1.1 G) (Or.inl rfl) kk1 n1) ?_
      rw [ms1.n]
      obtain ⟨a1, a2, a3, a4, a5, a6⟩ := ms1
      have c9 : c < 10 := by have := nb_out n1 n2; omega
      refine ⟨zG_of (h := h) a1 G, ?_⟩
      rw [rI_An (by decide), a4, nI_clamp (by omega), nI_1]
      refine ⟨vp_in_nI (by omega) (by omega), ?_⟩
      refine ih _ (Do (h.1 165) X (Nx (h.1 165) X S)) (upd D c (nI (Nx (h.1 165) X S))) (c + 1) _ l _ ?_ (Set10_out n1 hs) (by have := nb_out n1 n2; omega) (by have := nb_out n1 n2; omega) (fun h2 hh => cont h2 (by rw [lyr, if_neg q]; exact hh))
      refine ⟨a1, fun z z1 z2 z3 z4 => ?_, fun z hz => ?_, rI_s, ?_, fun i hi => ?_⟩
      · rw [wI_ne z1, wI_ne z4, wA_n z2]
        exact a2 z z1 z2 z3 z4
      · show rI _ 164 z = _
        rw [rI_k hz, rI_c (by decide), rI_An (by decide)]
        exact a3 z hz
      · rw [wI_ne (by decide), wI_ne (by decide), wA_s]
        exact Do_rq a5
      · show rI _ 170 i = _
        rw [rI_c (by decide)]
        by_cases z : i = c
        · subst z
          rw [rI_s]
          simp [upd]
        · rw [rI_k z, rI_An (by decide)]
          simp only [upd, if_neg z]
          exact a6 i (by omega)
  -- the layers
  have l84 : ∀ (m l : Nat) (h' : zHp), l + m = u → MkS h h' (Mk (h.1 165) l).1 (Mk (h.1 165) l).2.1 (Mk (h.1 165) l).2.2 → zlV M_X11_makes 84 [some (.ref 164), some (.int (nI u)), some (.int (nI l)), none, none] [] h' (fun h' => MkS h h' (Mk (h.1 165) u).1 (Mk (h.1 165) u).2.1 (Mk (h.1 165) u).2.2) := by
    intro m
    induction m with
    | zero =>
      intro l h' hl ms
      have : l = u := by omega
      subst this
      exact g_X11_makes_84 (zG_of ms.1 G) ⟨fun _ => ms, fun q => absurd (Int32.le_refl _) q⟩
    | succ m ih =>
      intro l h' hl ms
      have l94 : ∀ (m2 j : Nat), j + m2 = cE (h.1 165) → zlV M_X11_makes 94 [some (.ref 164), some (.int (nI u)), some (.int (nI l)), some (.int (mask j (fun e => layM (h.1 165 (80 + 7 * e + 1)) = nI l ∧ Wo (h.1 165) e))), some (.int (nI j))] [] h' (fun h' => MkS h h' (Mk (h.1 165) u).1 (Mk (h.1 165) u).2.1 (Mk (h.1 165) u).2.2) := by
        intro m2
        have e239 : rI h' 165 239 = nI (cE (h.1 165)) := by show h'.1 165 239 = _; rw [ms.n]; exact eE
        induction m2 with
        | zero =>
          intro j hj
          have : j = cE (h.1 165) := by omega
          subst this
          refine g_X11_makes_94 (zG_of ms.1 G) ⟨fun _ => ?_, fun q => absurd (by rw [e239]; exact Int32.le_refl _) q⟩
          refine l147 10 (Wk (h.1 165) l) _ _ _ h' l _ ms (Set10_mask hE) nb_le (Mk_room hE (by omega)) (fun h2 hh => ?_)
          have nx := ih (l + 1) h2 (by omega) hh
          rw [← nI_1] at nx
          exact nx
        | succ m2 ih2 =>
          intro j hj
          have nx := ih2 (j + 1) (by omega)
          rw [← nI_1] at nx
          obtain ⟨-, i1, -⟩ := ixE' (e := j) (by omega)
          have kk : zCt (rI h' 165 238) 8 := by show zCt (h'.1 165 238) 8; rw [ms.n]; exact k
          refine g_X11_makes_94 (zG_of ms.1 G) ⟨fun q => absurd q (by rw [e239]; exact nI_ge (by omega) (by omega)), fun _ => ⟨i1.1, ?_⟩⟩
          rw [i1.2]
          have e1 : rI h' 165 (80 + 7 * j + 1) = h.1 165 (80 + 7 * j + 1) := by show h'.1 165 _ = _; rw [ms.n]
          rw [e1]
          refine ⟨fun q => ?_, fun q => zcI_use (s_X11_doesSomething (zG_of ms.1 G) kk (by omega)) ⟨zG_of ms.1 G, fun q2 => ?_, fun q2 => ?_⟩⟩
          · rw [mask_s0 (fun z => q z.1)] at nx
            exact nx
          · rw [ms.n] at q2
            rw [mask_s0 (fun z => zb0.mp q2 z.2)] at nx
            exact nx
          · rw [ms.n] at q2
            rw [mask_s1 ⟨q, zbn.mp q2⟩] at nx
            exact nx
      refine g_X11_makes_84 (zG_of ms.1 G) ⟨fun q => absurd q (nI_ge (by omega) (by omega)), fun _ => ?_⟩
      exact l94 (cE (h.1 165)) 0 (by omega)
  -- the base
  have l2 : ∀ (m j : Nat), j + m = cT (h.1 165) → zlV M_X11_makes 2 [some (.ref 164), some (.int (nI u)), some (.int (nI j)), none, none] [] (wA h 168 (fun i => if i < 4 * j then B0 (h.1 165) i else h.1 168 i)) (fun h' => MkS h h' (Mk (h.1 165) u).1 (Mk (h.1 165) u).2.1 (Mk (h.1 165) u).2.2) := by
    intro m
    induction m with
    | zero =>
      intro j hj
      have : j = cT (h.1 165) := by omega
      subst this
      refine g_X11_makes_2 G ⟨fun _ => ?_, fun q => absurd (by rw [rI_An (by decide), eT]; exact Int32.le_refl _) q⟩
      refine l84 u 0 _ (by omega) ⟨rfl, fun z z1 z2 z3 z4 => ?_, fun z hz => ?_, rI_s, fun i hi => ?_, fun i hi => by exact absurd hi (Nat.not_lt_zero i)⟩
      · rw [wI_ne z1, wA_n z2]
      · show rI _ 164 z = _
        rw [rI_k hz, rI_An (by decide)]
        rfl
      · rw [wI_ne (by decide), wA_s, if_pos hi]
        rfl
    | succ m ih =>
      intro j hj
      have hj8 : j < 8 := by omega
      have nx := ih (j + 1) (by omega)
      rw [← nI_1] at nx
      have j0 := ix40 (t := j) hj8
      have j1 := ix4 (t := j) (k := 1) hj8 (by omega)
      have j2 := ix4 (t := j) (k := 2) hj8 (by omega)
      have j3 := ix4 (t := j) (k := 3) hj8 (by omega)
      have t1 := ixT (t := j) (k := 1) hj8 (by omega)
      have t2 := ixT (t := j) (k := 2) hj8 (by omega)
      have t3 := ixT (t := j) (k := 3) hj8 (by omega)
      rw [show nI 1 = (1 : Int32) from rfl] at j1 t1
      rw [show nI 2 = (2 : Int32) from rfl] at j2 t2
      rw [show nI 3 = (3 : Int32) from rfl] at j3 t3
      refine g_X11_makes_2 G ⟨fun q => absurd q (by rw [rI_An (by decide), eT]; exact nI_ge (by omega) (by omega)), fun _ => ⟨t1.1, j0.1, j1.1, t2.1, j2.1, t3.1, j3.1, ?_⟩⟩
      rw [t1.2, t2.2, t3.2, j0.2, j1.2, j2.2, j3.2]
      simp only [wA_wI]
      have e9 : ∀ a b d : Int32, a = h.1 165 (10 * j + 1) → b = h.1 165 (10 * j + 2) → d = h.1 165 (10 * j + 3) → upd (upd (upd (upd (fun i => if i < 4 * j then B0 (h.1 165) i else h.1 168 i) (4 * j) a) (4 * j + 1) 0) (4 * j + 2) b) (4 * j + 3) d = fun i => if i < 4 * (j + 1) then B0 (h.1 165) i else h.1 168 i := by
        intro a b d ha hb hd
        funext i
        simp only [upd]
        by_cases q : i < 4 * j
        · rw [if_neg (by omega), if_neg (by omega), if_neg (by omega), if_neg (by omega), if_pos q, if_pos (by omega)]
        · by_cases q2 : i < 4 * (j + 1)
          · rw [if_pos q2]
            unfold B0
            rcases (show i = 4 * j ∨ i = 4 * j + 1 ∨ i = 4 * j + 2 ∨ i = 4 * j + 3 by omega) with z | z | z | z
            · rw [z, if_neg (by omega), if_neg (by omega), if_neg (by omega), if_pos rfl, if_pos (by omega), show 4 * j / 4 = j by omega, ha]
            · rw [z, if_neg (by omega), if_neg (by omega), if_pos rfl, if_neg (by omega), if_pos (by omega)]
            · rw [z, if_neg (by omega), if_pos rfl, if_neg (by omega), if_neg (by omega), if_pos (by omega), show (4 * j + 2) / 4 = j by omega, hb]
            · rw [z, if_pos rfl, if_neg (by omega), if_neg (by omega), if_neg (by omega), show (4 * j + 3) / 4 = j by omega, hd]
          · rw [if_neg (by omega), if_neg (by omega), if_neg (by omega), if_neg (by omega), if_neg q, if_neg q2]
      rw [e9 _ _ _ (by rw [rI_An (by decide)]; rfl) (by rw [rI_An (by decide)]; rfl) (by rw [rI_An (by decide)]; rfl)]
      exact nx
  have := l2 (cT (h.1 165)) 0 (by omega)
  rw [show (fun i => if i < 4 * 0 then B0 (h.1 165) i else h.1 168 i) = h.1 168 by funext i; rw [if_neg (by omega)], wA_id] at this
  exact g_X11_makes G this

