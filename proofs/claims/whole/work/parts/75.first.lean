/-! the first cells: what holds before the first call -/
def g0 (f : Nat → Nat → Int32) : zHp := (f, fun _ _ => none)
/-- the numbers that the constructors write -/
def hI0 (h : zHp) : zHp := wI (wI (wI (wI (wI (wI (wI (wI (wI (wI (wI (wI h 2 10 1) 53 10 1) 93 10 1) 156 0 (-1)) 158 0 (-1)) 160 0 (-1)) 162 0 (-1)) 178 0 (-1)) 178 1 (-1)) 178 2 (-1)) 178 3 (-1)) 165 245 1
theorem g1_eq {h : zHp} : (hMo (hLR h)).1 = (hI0 h).1 := rfl
theorem wR_2 {h h' : zHp} {c k : Nat} {v : Option Nat} (e : h.2 = h'.2) : (wR h c k v).2 = (wR h' c k v).2 := by
  unfold wR
  rw [e]
theorem wI_2 {h h' : zHp} {c k : Nat} {v : Int32} (e : h.2 = h'.2) : (wI h c k v).2 = (wI h' c k v).2 := e
theorem fillR_2 {h h' : zHp} {c b i m : Nat} (e : h.2 = h'.2) : (fillR h c b i m).2 = (fillR h' c b i m).2 := by
  unfold fillR
  rw [e]
theorem hW_2 {h h' : zHp} {B : Nat} (e : h.2 = h'.2) : (hW h B).2 = (hW h' B).2 := by
  unfold hW
  repeat first | exact e | apply wR_2 | apply wI_2 | apply fillR_2
theorem hLo_2 {h h' : zHp} {B : Nat} (e : h.2 = h'.2) : (hLo h B).2 = (hLo h' B).2 := by
  unfold hLo
  repeat first | exact e | apply wR_2 | apply wI_2 | apply fillR_2
theorem hWo_2 {h h' : zHp} {B : Nat} (e : h.2 = h'.2) : (hWo h B).2 = (hWo h' B).2 := by
  unfold hWo
  repeat first | exact e | apply wR_2 | apply wI_2 | apply fillR_2
theorem hSe_2 {h h' : zHp} {B : Nat} (e : h.2 = h'.2) : (hSe h B).2 = (hSe h' B).2 := by
  unfold hSe
  repeat first | exact e | apply wR_2 | apply wI_2 | apply fillR_2
theorem hRd_2 {h h' : zHp} (e : h.2 = h'.2) : (hRd h).2 = (hRd h').2 := by
  unfold hRd
  repeat first | exact e | apply wR_2 | apply wI_2 | apply fillR_2
theorem hCo_2 {h h' : zHp} (e : h.2 = h'.2) : (hCo h).2 = (hCo h').2 := by
  unfold hCo
  repeat first | exact e | apply wR_2 | apply wI_2 | apply fillR_2 | apply hW_2 | apply hLo_2 | apply hWo_2
theorem hLR_2 {h h' : zHp} (e : h.2 = h'.2) : (hLR h).2 = (hLR h').2 := by
  unfold hLR
  repeat first | exact e | apply wR_2 | apply wI_2 | apply fillR_2 | apply hW_2 | apply hLo_2 | apply hWo_2 | apply hCo_2 | apply hSe_2 | apply hRd_2
theorem hMo_2 {h h' : zHp} (e : h.2 = h'.2) : (hMo h).2 = (hMo h').2 := by
  unfold hMo
  exact (wI_2 (wR_2 (wR_2 (wR_2 (wI_2 (wI_2 (wI_2 (wI_2 (wR_2 (wR_2 (wR_2 (wR_2 (wR_2 (wR_2 (wR_2 (wR_2 (wR_2 (wR_2 (wR_2 (wR_2 (wR_2 (wR_2 (wR_2 (wR_2 (wR_2 (wR_2 (wR_2 (wR_2 (wR_2 (wR_2 (wR_2 (wR_2 (wR_2 e)))))))))))))))))))))))))))))))))
theorem g2_eq {f : Nat → Nat → Int32} : (hMo (hLR (g0 f))).2 = (hMo (hLR (g0 (fun _ _ => 0)))).2 := hMo_2 (hLR_2 rfl)
theorem g2_zst : ∀ c, c < 181 → ∀ k, k < 33 → zst c k = none ∨ (hMo (hLR (g0 (fun _ _ => 0)))).2 c k = zst c k := by decide +kernel
theorem zst_len : ∀ c, c < 181 → (zStL.getD c []).length ≤ 33 := by decide +kernel
theorem zst_in {c k i : Nat} (e : zst c k = some i) : c < 181 ∧ k < 33 := by
  have hc : c < 181 := by
    rcases Nat.lt_or_ge c 181 with q | q
    · exact q
    · have : zStL.getD c [] = [] := by rw [List.getD_eq_getElem?_getD, List.getElem?_eq_none (by exact q)]; rfl
      unfold zst at e
      rw [this] at e
      cases e
  refine ⟨hc, ?_⟩
  rcases Nat.lt_or_ge k 33 with q | q
  · exact q
  · have h1 := zst_len c hc
    unfold zst at e
    rw [List.getD_eq_getElem?_getD, List.getElem?_eq_none (Nat.le_trans h1 q)] at e
    cases e
theorem g_zG {f : Nat → Nat → Int32} : zG (hMo (hLR (g0 f))) := by
  intro c k i e
  obtain ⟨h1, h2⟩ := zst_in e
  show (hMo (hLR (g0 f))).2 c k = some i
  rw [g2_eq]
  rcases g2_zst c h1 k h2 with q | q
  · rw [q] at e; cases e
  · rw [q]; exact e
theorem PR_id {h : zHp} {c a n : Nat} (e : ∀ i, i < n → rR h c i = some (a + i)) : PR h c a n := by
  have r : ∀ i, i < n → rG h c i = a + i := fun i hi => by unfold rG; rw [e i hi]; rfl
  refine ⟨fun i hi => ?_, fun i j hi hj q => ?_⟩
  · rw [r i hi]
    exact ⟨e i hi, by omega, by omega⟩
  · rw [r i hi, r j hj] at q
    omega
theorem g_PW {f : Nat → Nat → Int32} {B : Nat} (hB : zW B) : PW (hMo (hLR (g0 f))) B := by
  have e2 : ∀ c k, rR (hMo (hLR (g0 f))) c k = (hMo (hLR (g0 (fun _ _ => 0)))).2 c k := fun c k => by show (hMo (hLR (g0 f))).2 c k = _; rw [g2_eq]
  rcases hB with rfl | rfl | rfl
  · refine ⟨PR_id (fun i hi => ?_), PR_id (fun i hi => ?_), PR_id (fun i hi => ?_)⟩ <;> rw [e2]
    · exact (by decide +kernel : ∀ i, i < 10 → (hMo (hLR (g0 (fun _ _ => 0)))).2 (2 + 2) i = some (2 + 14 + i)) i hi
    · exact (by decide +kernel : ∀ i, i < 8 → (hMo (hLR (g0 (fun _ _ => 0)))).2 (2 + 3) i = some (2 + 24 + i)) i hi
    · exact (by decide +kernel : ∀ i, i < 8 → (hMo (hLR (g0 (fun _ _ => 0)))).2 (2 + 4) i = some (2 + 32 + i)) i hi
  · refine ⟨PR_id (fun i hi => ?_), PR_id (fun i hi => ?_), PR_id (fun i hi => ?_)⟩ <;> rw [e2]
    · exact (by decide +kernel : ∀ i, i < 10 → (hMo (hLR (g0 (fun _ _ => 0)))).2 (53 + 2) i = some (53 + 14 + i)) i hi
    · exact (by decide +kernel : ∀ i, i < 8 → (hMo (hLR (g0 (fun _ _ => 0)))).2 (53 + 3) i = some (53 + 24 + i)) i hi
    · exact (by decide +kernel : ∀ i, i < 8 → (hMo (hLR (g0 (fun _ _ => 0)))).2 (53 + 4) i = some (53 + 32 + i)) i hi
  · refine ⟨PR_id (fun i hi => ?_), PR_id (fun i hi => ?_), PR_id (fun i hi => ?_)⟩ <;> rw [e2]
    · exact (by decide +kernel : ∀ i, i < 10 → (hMo (hLR (g0 (fun _ _ => 0)))).2 (93 + 2) i = some (93 + 14 + i)) i hi
    · exact (by decide +kernel : ∀ i, i < 8 → (hMo (hLR (g0 (fun _ _ => 0)))).2 (93 + 3) i = some (93 + 24 + i)) i hi
    · exact (by decide +kernel : ∀ i, i < 8 → (hMo (hLR (g0 (fun _ _ => 0)))).2 (93 + 4) i = some (93 + 32 + i)) i hi
theorem rI_n {h : zHp} {c k a b : Nat} {v : Int32} (hn : ¬ (a = c ∧ b = k)) : rI (wI h c k v) a b = rI h a b := by
  show (if a = c ∧ b = k then v else h.1 a b) = h.1 a b
  rw [if_neg hn]
theorem g_r {h : zHp} {a b : Nat} : rI (hMo (hLR h)) a b = rI (hI0 h) a b := by
  show (hMo (hLR h)).1 a b = (hI0 h).1 a b
  rw [g1_eq]
theorem g_rn {h : zHp} {a b : Nat} (s1 : ¬ ((a = 2 ∨ a = 53 ∨ a = 93) ∧ b = 10)) (s2 : ¬ ((a = 156 ∨ a = 158 ∨ a = 160 ∨ a = 162) ∧ b = 0)) (s3 : ¬ (a = 178 ∧ b < 4)) (s4 : ¬ (a = 165 ∧ b = 245)) : rI (hMo (hLR h)) a b = rI h a b := by
  rw [g_r]
  unfold hI0
  rw [rI_n (by omega), rI_n (by omega), rI_n (by omega), rI_n (by omega), rI_n (by omega), rI_n (by omega), rI_n (by omega), rI_n (by omega), rI_n (by omega), rI_n (by omega), rI_n (by omega), rI_n (by omega)]
theorem g_r0 {h : zHp} (hb : Bl h 0) {a b : Nat} (ha : a < 1000) (s1 : ¬ ((a = 2 ∨ a = 53 ∨ a = 93) ∧ b = 10)) (s2 : ¬ ((a = 156 ∨ a = 158 ∨ a = 160 ∨ a = 162) ∧ b = 0)) (s3 : ¬ (a = 178 ∧ b < 4)) (s4 : ¬ (a = 165 ∧ b = 245)) : rI (hMo (hLR h)) a b = 0 := by
  rw [g_rn s1 s2 s3 s4]
  exact (hb a (by omega) ha b).1
theorem g_165 {h : zHp} : rI (hMo (hLR h)) 165 245 = 1 := by rw [g_r]; unfold hI0; exact rI_s
theorem g_2 {h : zHp} : rI (hMo (hLR h)) 2 10 = 1 := by
  rw [g_r]
  unfold hI0
  rw [rI_n (by omega), rI_n (by omega), rI_n (by omega), rI_n (by omega), rI_n (by omega), rI_n (by omega), rI_n (by omega), rI_n (by omega), rI_n (by omega), rI_n (by omega), rI_n (by omega), rI_s]
theorem g_sh {h : zHp} {s : Nat} (hs : s < 4) : rI (hMo (hLR h)) (156 + 2 * s) 0 = -1 ∧ rI (hMo (hLR h)) 178 s = -1 := by
  rw [g_r, g_r]
  rcases (by omega : s = 0 ∨ s = 1 ∨ s = 2 ∨ s = 3) with rfl | rfl | rfl | rfl <;> exact ⟨rfl, rfl⟩
theorem g_INV {f : Nat → Nat → Int32} (hb : Bl (g0 f) 0) : INV (hMo (hLR (g0 f))) := by
  have z : ∀ i, i < 245 → (hMo (hLR (g0 f))).1 165 i = 0 := fun i hi => g_r0 hb (by omega) (by omega) (by omega) (by omega) (by omega)
  have ec : cl ((hMo (hLR (g0 f))).1 165) = (hMo (hLR (g0 f))).1 165 := by
    funext i
    unfold cl
    by_cases hi : i < 245
    · rw [if_pos hi, z i hi]
    · rw [if_neg hi]
  have q := cl_IQ (N := (hMo (hLR (g0 f))).1 165)
  obtain ⟨c1, c2, c3, c4, c5⟩ := cl_n (N := (hMo (hLR (g0 f))).1 165)
  rw [ec] at q c1 c2 c3 c4 c5
  have r : ∀ a b, a < 1000 → ¬ ((a = 2 ∨ a = 53 ∨ a = 93) ∧ b = 10) → ¬ ((a = 156 ∨ a = 158 ∨ a = 160 ∨ a = 162) ∧ b = 0) → ¬ (a = 178 ∧ b < 4) → ¬ (a = 165 ∧ b = 245) → rI (hMo (hLR (g0 f))) a b = 0 := fun a b => g_r0 hb
  have mk : (Mk ((hMo (hLR (g0 f))).1 165) 5).2.2 = 0 := by
    rw [Mk_cnt (by omega) 5 (by omega), c3]
    rfl
  refine ⟨g_zG, q, ⟨g_PW (Or.inl rfl), ⟨⟨?_, ?_, ?_, ?_, ?_, ?_, ?_, ?_⟩, fun t k h1 _ => by omega, fun t k h1 _ => by omega, fun t k h1 _ => by omega, fun t k h1 _ => by omega⟩, ⟨?_, ?_, fun i hi => by omega⟩, ⟨0, ?_⟩⟩, ⟨g_PW (Or.inr (Or.inl rfl)), g_PW (Or.inr (Or.inr rfl))⟩, ⟨0, ?_⟩, ⟨?_, ?_, fun w => absurd ?_ w⟩, ⟨0, by omega, ?_, ?_, fun i hi => by omega⟩, ⟨0, by omega, ?_, ?_, fun i hi => by omega⟩, fun s hs => ⟨⟨?_, ?_⟩, ⟨0, by omega, ?_, ?_⟩, fun i hi => ?_⟩⟩
  · rw [z _ (by decide)]; exact r _ _ (by omega) (by omega) (by omega) (by omega) (by omega)
  · rw [z _ (by decide)]; exact r _ _ (by omega) (by omega) (by omega) (by omega) (by omega)
  · rw [z _ (by decide)]; exact r _ _ (by omega) (by omega) (by omega) (by omega) (by omega)
  · rw [z _ (by decide)]; exact r _ _ (by omega) (by omega) (by omega) (by omega) (by omega)
  · rw [z _ (by decide)]; exact r _ _ (by omega) (by omega) (by omega) (by omega) (by omega)
  · rw [z _ (by decide)]; exact r _ _ (by omega) (by omega) (by omega) (by omega) (by omega)
  · rw [z _ (by decide)]; exact r _ _ (by omega) (by omega) (by omega) (by omega) (by omega)
  · exact g_2.trans g_165.symm
  · rw [mk]; exact r _ _ (by omega) (by omega) (by omega) (by omega) (by omega)
  · rw [c2]; intro i hi; omega
  · exact r _ _ (by omega) (by omega) (by omega) (by omega) (by omega)
  · exact r _ _ (by omega) (by omega) (by omega) (by omega) (by omega)
  · rw [r 0 5 (by omega) (by omega) (by omega) (by omega) (by omega), r 164 3 (by omega) (by omega) (by omega) (by omega) (by omega)]
  · exact Or.inl (r 0 5 (by omega) (by omega) (by omega) (by omega) (by omega))
  · exact r 0 5 (by omega) (by omega) (by omega) (by omega) (by omega)
  · exact r _ _ (by omega) (by omega) (by omega) (by omega) (by omega)
  · exact r _ _ (by omega) (by omega) (by omega) (by omega) (by omega)
  · exact r _ _ (by omega) (by omega) (by omega) (by omega) (by omega)
  · exact r _ _ (by omega) (by omega) (by omega) (by omega) (by omega)
  · rw [(g_sh hs).1, (g_sh hs).2]
  · exact Or.inl (g_sh hs).2
  · exact r _ _ (by omega) (by omega) (by omega) (by omega) (by omega)
  · exact r _ _ (by omega) (by omega) (by omega) (by omega) (by omega)
  · rw [r _ _ (by omega) (by omega) (by omega) (by omega) (by omega), r _ _ (by omega) (by omega) (by omega) (by omega) (by omega)]
/-- the law, from its entry on -/
theorem law_all {f : Nat → Nat → Int32} {L : Nat} (hb : Bl (g0 f) 0) (hL : rI (g0 f) 1004 0 = nI L) (hL3 : L ≤ 3072) {Q : Option Value → zHp → Prop} (hQ : ∀ h, Q (some (.int 1)) h) : zw zNT 0 M_L_law 0 [some (.ref 1003), none, none, none] [] (g0 f) Q := by
  refine c_new (pc := 0) (n := 0) dL_law_0 nl_RL_7 (lyc rfl) hb (by decide) ?_
  refine z_dup (pc := 3) dL_law_3 rfl ?_
  have b1 := hb.mono (m := 1) (by omega)
  refine c_init (pc := 4) (nY := 164) dL_law_4 ok_X10_init ml_RL_9 ii_X10_init pa_X10_init ⟨Nat.le_of_ble_eq_true rfl, Nat.le_of_ble_eq_true rfl⟩ (by decide) (by decide) (by decide) (i_X10 b1) ?_
  have b2 := b1.LR
  refine z_astore_n (pc := 7) (ls' := [some (.ref 1003), some (.ref 0), none, none]) dL_law_7 rfl (by decide) rfl ?_
  refine c_new (pc := 8) (n := 164) dL_law_8 nl_RL_10 (lyc rfl) b2 (by decide) ?_
  refine z_dup (pc := 11) dL_law_11 rfl ?_
  have b3 := b2.mono (m := 165) (by omega)
  refine c_init (pc := 12) (nY := 181) dL_law_12 ok_X11_init ml_RL_12 ii_X11_init pa_X11_init ⟨Nat.le_of_ble_eq_true rfl, Nat.le_of_ble_eq_true rfl⟩ (by decide) (by decide) (by decide) (i_X11 b3) ?_
  refine z_astore_n (pc := 15) (ls' := [some (.ref 1003), some (.ref 0), some (.ref 164), none]) dL_law_15 rfl (by decide) rfl ?_
  refine z_iconst (pc := 16) (v := nI 0) dL_law_16 (by decide) ?_
  refine z_istore_n (pc := 17) (ls' := [some (.ref 1003), some (.ref 0), some (.ref 164), some (.int (nI 0))]) dL_law_17 rfl (by decide) rfl ?_
  exact law_loop hL3 hQ (L + 6) 0 _ (by omega) (by omega) (g_INV hb) ((g_rn (by omega) (by omega) (by omega) (by omega)).trans hL)

