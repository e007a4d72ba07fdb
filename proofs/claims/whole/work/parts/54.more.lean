/-! one more effect, rule, watcher -/
def adE (N N' : zN) : Prop := N' 239 = nI (cE N + 1) ∧ ∀ i, i ≠ 239 → (i < 80 + 7 * cE N ∨ 80 + 7 * cE N + 7 ≤ i) → N' i = N i
theorem adE_c {N N' : zN} (hC : CN N) (h : cE N < 10) (a : adE N N') : CN N' ∧ cE N' = cE N + 1 ∧ cT N' = cT N ∧ cR N' = cR N ∧ cV N' = cV N := by
  have e1 : cE N' = cE N + 1 := by show (N' 239).toNatClampNeg = _; rw [a.1, nI_clamp (by omega)]
  have o2 : N' 238 = N 238 := a.2 _ (by decide) (by omega)
  have o3 : N' 240 = N 240 := a.2 _ (by decide) (by omega)
  have o4 : N' 241 = N 241 := a.2 _ (by decide) (by omega)
  have e2 : cT N' = cT N := by unfold cT; rw [o2]
  have e3 : cR N' = cR N := by unfold cR; rw [o3]
  have e4 : cV N' = cV N := by unfold cV; rw [o4]
  have q : N' 239 = nI (cE N') ∧ cE N' ≤ 10 := ⟨by rw [a.1, e1], by omega⟩
  have qt : N' 238 = nI (cT N') ∧ cT N' ≤ 8 := by rw [o2, e2]; exact hC.1
  have qu : N' 240 = nI (cR N') ∧ cR N' ≤ 8 := by rw [o3, e3]; exact hC.2.2.1
  have qv : N' 241 = nI (cV N') ∧ cV N' ≤ 8 := by rw [o4, e4]; exact hC.2.2.2
  exact ⟨⟨qt, q, qu, qv⟩, e1, e2, e3, e4⟩
theorem adE_q {N N' : zN} (hC : CN N) (hQ : WQ N) (h : cE N < 10) (a : adE N N') (q : QE N' (cE N)) : CN N' ∧ WQ N' := by
  obtain ⟨c1, e1, e2, e3, e4⟩ := adE_c hC h a
  have h8 := hC.1.2
  have h10 := hC.2.1.2
  have r8 := hC.2.2.1.2
  have v8 := hC.2.2.2.2
  refine ⟨c1, fun t ht => ?_, fun t ht => ?_, fun t ht => ?_, fun t ht => ?_⟩
  · rw [e2] at ht; exact QT_eq (hQ.1 t ht) (fun k hk => a.2 _ (by omega) (by omega))
  · rw [e1] at ht
    by_cases z : t = cE N
    · rw [z]; exact q
    · exact QE_eq (hQ.2.1 t (by omega)) (fun k hk => a.2 _ (by omega) (by omega))
  · rw [e3] at ht; exact QR_eq (hQ.2.2.1 t ht) (fun k hk => a.2 _ (by omega) (by omega))
  · rw [e4] at ht; exact QV_eq (hQ.2.2.2 t ht) (fun k hk => a.2 _ (by omega) (by omega))
theorem adE_r {B : Nat} {N N' : zN} {h h' : zHp} (hC : CN N) (h0 : cE N < 10) (a : adE N N') (hP : PW h B) (hR : RW h B N) (e2' : h'.2 = h.2) (fr : ∀ x k, x ≠ rG h (B + 2) (cE N) → (x ≠ B ∨ k ≠ 3) → rI h' x k = rI h x k) (fc : rI h' B 3 = nI (cE N + 1)) (fv : ∀ k, k < 7 → rI h' (rG h (B + 2) (cE N)) k = N' (80 + 7 * cE N + k)) : RW h' B N' := by
  obtain ⟨c1, e1, e2, e3, e4⟩ := adE_c hC h0 a
  have h8 := hC.1.2
  have h10 := hC.2.1.2
  have r8 := hC.2.2.1.2
  have v8 := hC.2.2.2.2
  have pn := hP.1.1 (cE N) h0
  obtain ⟨⟨a1, a2, a3, a4, a5, a6, a7, a8⟩, bb, dd, ee, gg⟩ := hR
  refine ⟨⟨by rw [fr _ _ (by omega) (by omega), a.2 _ (by decide) (by omega)]; exact a1, by rw [fc, a.1], by rw [fr _ _ (by omega) (by omega), a.2 _ (by decide) (by omega)]; exact a3, by rw [fr _ _ (by omega) (by omega), a.2 _ (by decide) (by omega)]; exact a4, by rw [fr _ _ (by omega) (by omega), a.2 _ (by decide) (by omega)]; exact a5, by rw [fr _ _ (by omega) (by omega), a.2 _ (by decide) (by omega)]; exact a6, by rw [fr _ _ (by omega) (by omega), a.2 _ (by decide) (by omega)]; exact a7, by rw [fr _ _ (by omega) (by omega), a.2 _ (by decide) (by omega)]; exact a8⟩, fun t k h1 h2 => ?_, fun t k h1 h2 => ?_, fun t k h1 h2 => ?_, fun t k h1 h2 => ?_⟩
  · rw [e2] at h1
    rw [fr _ _ (by omega) (by omega), a.2 _ (by omega) (by omega)]; exact bb t k h1 h2
  · rw [e1] at h1
    rw [rG_of e2']
    by_cases z : t = cE N
    · rw [z]; exact fv k h2
    · have nz : rG h (B + 2) t ≠ rG h (B + 2) (cE N) := fun y => z (hP.1.2 t _ (by omega) (by omega) y)
      have q := hP.1.1 t (by omega)
      rw [fr _ _ nz (by omega), a.2 _ (by omega) (by omega)]; exact dd t k (by omega) h2
  · rw [e3] at h1
    have q := hP.2.1.1 t (by omega)
    rw [rG_of e2', fr _ _ (by omega) (by omega), a.2 _ (by omega) (by omega)]; exact ee t k h1 h2
  · rw [e4] at h1
    have q := hP.2.2.1 t (by omega)
    rw [rG_of e2', fr _ _ (by omega) (by omega), a.2 _ (by omega) (by omega)]; exact gg t k h1 h2
def adR (N N' : zN) : Prop := N' 240 = nI (cR N + 1) ∧ ∀ i, i ≠ 240 → (i < 150 + 4 * cR N ∨ 150 + 4 * cR N + 4 ≤ i) → N' i = N i
theorem adR_c {N N' : zN} (hC : CN N) (h : cR N < 8) (a : adR N N') : CN N' ∧ cR N' = cR N + 1 ∧ cT N' = cT N ∧ cE N' = cE N ∧ cV N' = cV N := by
  have e1 : cR N' = cR N + 1 := by show (N' 240).toNatClampNeg = _; rw [a.1, nI_clamp (by omega)]
  have o2 : N' 238 = N 238 := a.2 _ (by decide) (by omega)
  have o3 : N' 239 = N 239 := a.2 _ (by decide) (by omega)
  have o4 : N' 241 = N 241 := a.2 _ (by decide) (by omega)
  have e2 : cT N' = cT N := by unfold cT; rw [o2]
  have e3 : cE N' = cE N := by unfold cE; rw [o3]
  have e4 : cV N' = cV N := by unfold cV; rw [o4]
  have q : N' 240 = nI (cR N') ∧ cR N' ≤ 8 := ⟨by rw [a.1, e1], by omega⟩
  have qt : N' 238 = nI (cT N') ∧ cT N' ≤ 8 := by rw [o2, e2]; exact hC.1
  have qu : N' 239 = nI (cE N') ∧ cE N' ≤ 10 := by rw [o3, e3]; exact hC.2.1
  have qv : N' 241 = nI (cV N') ∧ cV N' ≤ 8 := by rw [o4, e4]; exact hC.2.2.2
  exact ⟨⟨qt, qu, q, qv⟩, e1, e2, e3, e4⟩
theorem adR_q {N N' : zN} (hC : CN N) (hQ : WQ N) (h : cR N < 8) (a : adR N N') (q : QR N' (cR N)) : CN N' ∧ WQ N' := by
  obtain ⟨c1, e1, e2, e3, e4⟩ := adR_c hC h a
  have h8 := hC.1.2
  have h10 := hC.2.1.2
  have r8 := hC.2.2.1.2
  have v8 := hC.2.2.2.2
  refine ⟨c1, fun t ht => ?_, fun t ht => ?_, fun t ht => ?_, fun t ht => ?_⟩
  · rw [e2] at ht; exact QT_eq (hQ.1 t ht) (fun k hk => a.2 _ (by omega) (by omega))
  · rw [e3] at ht; exact QE_eq (hQ.2.1 t ht) (fun k hk => a.2 _ (by omega) (by omega))
  · rw [e1] at ht
    by_cases z : t = cR N
    · rw [z]; exact q
    · exact QR_eq (hQ.2.2.1 t (by omega)) (fun k hk => a.2 _ (by omega) (by omega))
  · rw [e4] at ht; exact QV_eq (hQ.2.2.2 t ht) (fun k hk => a.2 _ (by omega) (by omega))
theorem adR_r {B : Nat} {N N' : zN} {h h' : zHp} (hC : CN N) (h0 : cR N < 8) (a : adR N N') (hP : PW h B) (hR : RW h B N) (e2' : h'.2 = h.2) (fr : ∀ x k, x ≠ rG h (B + 3) (cR N) → (x ≠ B ∨ k ≠ 5) → rI h' x k = rI h x k) (fc : rI h' B 5 = nI (cR N + 1)) (fv : ∀ k, k < 4 → rI h' (rG h (B + 3) (cR N)) k = N' (150 + 4 * cR N + k)) : RW h' B N' := by
  obtain ⟨c1, e1, e2, e3, e4⟩ := adR_c hC h0 a
  have h8 := hC.1.2
  have h10 := hC.2.1.2
  have r8 := hC.2.2.1.2
  have v8 := hC.2.2.2.2
  have pn := hP.2.1.1 (cR N) h0
  obtain ⟨⟨a1, a2, a3, a4, a5, a6, a7, a8⟩, bb, dd, ee, gg⟩ := hR
  refine ⟨⟨by rw [fr _ _ (by omega) (by omega), a.2 _ (by decide) (by omega)]; exact a1, by rw [fr _ _ (by omega) (by omega), a.2 _ (by decide) (by omega)]; exact a2, by rw [fc, a.1], by rw [fr _ _ (by omega) (by omega), a.2 _ (by decide) (by omega)]; exact a4, by rw [fr _ _ (by omega) (by omega), a.2 _ (by decide) (by omega)]; exact a5, by rw [fr _ _ (by omega) (by omega), a.2 _ (by decide) (by omega)]; exact a6, by rw [fr _ _ (by omega) (by omega), a.2 _ (by decide) (by omega)]; exact a7, by rw [fr _ _ (by omega) (by omega), a.2 _ (by decide) (by omega)]; exact a8⟩, fun t k h1 h2 => ?_, fun t k h1 h2 => ?_, fun t k h1 h2 => ?_, fun t k h1 h2 => ?_⟩
  · rw [e2] at h1
    rw [fr _ _ (by omega) (by omega), a.2 _ (by omega) (by omega)]; exact bb t k h1 h2
  · rw [e3] at h1
    have q := hP.1.1 t (by omega)
    rw [rG_of e2', fr _ _ (by omega) (by omega), a.2 _ (by omega) (by omega)]; exact dd t k h1 h2
  · rw [e1] at h1
    rw [rG_of e2']
    by_cases z : t = cR N
    · rw [z]; exact fv k h2
    · have nz : rG h (B + 3) t ≠ rG h (B + 3) (cR N) := fun y => z (hP.2.1.2 t _ (by omega) (by omega) y)
      have q := hP.2.1.1 t (by omega)
      rw [fr _ _ nz (by omega), a.2 _ (by omega) (by omega)]; exact ee t k (by omega) h2
  · rw [e4] at h1
    have q := hP.2.2.1 t (by omega)
    rw [rG_of e2', fr _ _ (by omega) (by omega), a.2 _ (by omega) (by omega)]; exact gg t k h1 h2
def adV (N N' : zN) : Prop := N' 241 = nI (cV N + 1) ∧ ∀ i, i ≠ 241 → (i < 182 + 7 * cV N ∨ 182 + 7 * cV N + 7 ≤ i) → N' i = N i
theorem adV_c {N N' : zN} (hC : CN N) (h : cV N < 8) (a : adV N N') : CN N' ∧ cV N' = cV N + 1 ∧ cT N' = cT N ∧ cE N' = cE N ∧ cR N' = cR N := by
  have e1 : cV N' = cV N + 1 := by show (N' 241).toNatClampNeg = _; rw [a.1, nI_clamp (by omega)]
  have o2 : N' 238 = N 238 := a.2 _ (by decide) (by omega)
  have o3 : N' 239 = N 239 := a.2 _ (by decide) (by omega)
  have o4 : N' 240 = N 240 := a.2 _ (by decide) (by omega)
  have e2 : cT N' = cT N := by unfold cT; rw [o2]
  have e3 : cE N' = cE N := by unfold cE; rw [o3]
  have e4 : cR N' = cR N := by unfold cR; rw [o4]
  have q : N' 241 = nI (cV N') ∧ cV N' ≤ 8 := ⟨by rw [a.1, e1], by omega⟩
  have qt : N' 238 = nI (cT N') ∧ cT N' ≤ 8 := by rw [o2, e2]; exact hC.1
  have qu : N' 239 = nI (cE N') ∧ cE N' ≤ 10 := by rw [o3, e3]; exact hC.2.1
  have qv : N' 240 = nI (cR N') ∧ cR N' ≤ 8 := by rw [o4, e4]; exact hC.2.2.1
  exact ⟨⟨qt, qu, qv, q⟩, e1, e2, e3, e4⟩
theorem adV_q {N N' : zN} (hC : CN N) (hQ : WQ N) (h : cV N < 8) (a : adV N N') (q : QV N' (cV N)) : CN N' ∧ WQ N' := by
  obtain ⟨c1, e1, e2, e3, e4⟩ := adV_c hC h a
  have h8 := hC.1.2
  have h10 := hC.2.1.2
  have r8 := hC.2.2.1.2
  have v8 := hC.2.2.2.2
  refine ⟨c1, fun t ht => ?_, fun t ht => ?_, fun t ht => ?_, fun t ht => ?_⟩
  · rw [e2] at ht; exact QT_eq (hQ.1 t ht) (fun k hk => a.2 _ (by omega) (by omega))
  · rw [e3] at ht; exact QE_eq (hQ.2.1 t ht) (fun k hk => a.2 _ (by omega) (by omega))
  · rw [e4] at ht; exact QR_eq (hQ.2.2.1 t ht) (fun k hk => a.2 _ (by omega) (by omega))
  · rw [e1] at ht
    by_cases z : t = cV N
    · rw [z]; exact q
    · exact QV_eq (hQ.2.2.2 t (by omega)) (fun k hk => a.2 _ (by omega) (by omega))
theorem adV_r {B : Nat} {N N' : zN} {h h' : zHp} (hC : CN N) (h0 : cV N < 8) (a : adV N N') (hP : PW h B) (hR : RW h B N) (e2' : h'.2 = h.2) (fr : ∀ x k, x ≠ rG h (B + 4) (cV N) → (x ≠ B ∨ k ≠ 7) → rI h' x k = rI h x k) (fc : rI h' B 7 = nI (cV N + 1)) (fv : ∀ k, k < 7 → rI h' (rG h (B + 4) (cV N)) k = N' (182 + 7 * cV N + k)) : RW h' B N' := by
  obtain ⟨c1, e1, e2, e3, e4⟩ := adV_c hC h0 a
  have h8 := hC.1.2
  have h10 := hC.2.1.2
  have r8 := hC.2.2.1.2
  have v8 := hC.2.2.2.2
  have pn := hP.2.2.1 (cV N) h0
  obtain ⟨⟨a1, a2, a3, a4, a5, a6, a7, a8⟩, bb, dd, ee, gg⟩ := hR
  refine ⟨⟨by rw [fr _ _ (by omega) (by omega), a.2 _ (by decide) (by omega)]; exact a1, by rw [fr _ _ (by omega) (by omega), a.2 _ (by decide) (by omega)]; exact a2, by rw [fr _ _ (by omega) (by omega), a.2 _ (by decide) (by omega)]; exact a3, by rw [fc, a.1], by rw [fr _ _ (by omega) (by omega), a.2 _ (by decide) (by omega)]; exact a5, by rw [fr _ _ (by omega) (by omega), a.2 _ (by decide) (by omega)]; exact a6, by rw [fr _ _ (by omega) (by omega), a.2 _ (by decide) (by omega)]; exact a7, by rw [fr _ _ (by omega) (by omega), a.2 _ (by decide) (by omega)]; exact a8⟩, fun t k h1 h2 => ?_, fun t k h1 h2 => ?_, fun t k h1 h2 => ?_, fun t k h1 h2 => ?_⟩
  · rw [e2] at h1
    rw [fr _ _ (by omega) (by omega), a.2 _ (by omega) (by omega)]; exact bb t k h1 h2
  · rw [e3] at h1
    have q := hP.1.1 t (by omega)
    rw [rG_of e2', fr _ _ (by omega) (by omega), a.2 _ (by omega) (by omega)]; exact dd t k h1 h2
  · rw [e4] at h1
    have q := hP.2.1.1 t (by omega)
    rw [rG_of e2', fr _ _ (by omega) (by omega), a.2 _ (by omega) (by omega)]; exact ee t k h1 h2
  · rw [e1] at h1
    rw [rG_of e2']
    by_cases z : t = cV N
    · rw [z]; exact fv k h2
    · have nz : rG h (B + 4) t ≠ rG h (B + 4) (cV N) := fun y => z (hP.2.2.2 t _ (by omega) (by omega) y)
      have q := hP.2.2.1 t (by omega)
      rw [fr _ _ nz (by omega), a.2 _ (by omega) (by omega)]; exact gg t k (by omega) h2

