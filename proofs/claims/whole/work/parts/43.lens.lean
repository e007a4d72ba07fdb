/-! one number of a world is changed -/
theorem cT_u {N : zN} {i : Nat} {v : Int32} (h : i ≠ 238) : cT (upd N i v) = cT N := by unfold cT; rw [pk_un (Ne.symm h)]
theorem cE_u {N : zN} {i : Nat} {v : Int32} (h : i ≠ 239) : cE (upd N i v) = cE N := by unfold cE; rw [pk_un (Ne.symm h)]
theorem cR_u {N : zN} {i : Nat} {v : Int32} (h : i ≠ 240) : cR (upd N i v) = cR N := by unfold cR; rw [pk_un (Ne.symm h)]
theorem cV_u {N : zN} {i : Nat} {v : Int32} (h : i ≠ 241) : cV (upd N i v) = cV N := by unfold cV; rw [pk_un (Ne.symm h)]
theorem CN_u {N : zN} {i : Nat} {v : Int32} (hC : CN N) (h : i < 238 ∨ 241 < i) : CN (upd N i v) := by
  unfold CN
  rw [cT_u (by omega), cE_u (by omega), cR_u (by omega), cV_u (by omega), pk_un (by omega), pk_un (by omega), pk_un (by omega), pk_un (by omega)]
  exact hC
theorem RW_uT {h : zHp} {B t k : Nat} {N : zN} {v : Int32} (hP : PW h B) (hC : CN N) (hR : RW h B N) (ht : t < cT N) (hk : k < 10) : RW (wI h (B + 6 + t) k v) B (upd N (10 * t + k) v) := by
  have h8 := hC.1.2
  have h10 := hC.2.1.2
  have hr8 := hC.2.2.1.2
  have hv8 := hC.2.2.2.2
  obtain ⟨⟨a1, a2, a3, a4, a5, a6, a7, a8⟩, b, d, e, g⟩ := hR
  refine ⟨⟨by rw [rI_c (by omega), pk_un (by omega)]; exact a1, by rw [rI_c (by omega), pk_un (by omega)]; exact a2, by rw [rI_c (by omega), pk_un (by omega)]; exact a3, by rw [rI_c (by omega), pk_un (by omega)]; exact a4, by rw [rI_c (by omega), pk_un (by omega)]; exact a5, by rw [rI_c (by omega), pk_un (by omega)]; exact a6, by rw [rI_c (by omega), pk_un (by omega)]; exact a7, by rw [rI_c (by omega), pk_un (by omega)]; exact a8⟩, fun u q h1 h2 => ?_, fun u q h1 h2 => ?_, fun u q h1 h2 => ?_, fun u q h1 h2 => ?_⟩
  · rw [cT_u (by omega)] at h1
    by_cases z : u = t
    · subst z
      by_cases z1 : q = k
      · subst z1
        rw [rI_s, pk_us]
      · rw [rI_k z1, pk_un (by omega)]
        exact b u q h1 h2
    · rw [rI_c (by omega), pk_un (by omega)]
      exact b u q h1 h2
  · rw [cE_u (by omega)] at h1
    have pu := hP.1.1 u (by omega)
    rw [show rG (wI h (B + 6 + t) k v) (B + 2) u = rG h (B + 2) u from rfl]
    rw [rI_c (by omega), pk_un (by omega)]
    exact d u q h1 h2
  · rw [cR_u (by omega)] at h1
    have pu := hP.2.1.1 u (by omega)
    rw [show rG (wI h (B + 6 + t) k v) (B + 3) u = rG h (B + 3) u from rfl]
    rw [rI_c (by omega), pk_un (by omega)]
    exact e u q h1 h2
  · rw [cV_u (by omega)] at h1
    have pu := hP.2.2.1 u (by omega)
    rw [show rG (wI h (B + 6 + t) k v) (B + 4) u = rG h (B + 4) u from rfl]
    rw [rI_c (by omega), pk_un (by omega)]
    exact g u q h1 h2
theorem RW_uE {h : zHp} {B t k : Nat} {N : zN} {v : Int32} (hP : PW h B) (hC : CN N) (hR : RW h B N) (ht : t < cE N) (hk : k < 7) : RW (wI h (rG h (B + 2) t) k v) B (upd N (80 + 7 * t + k) v) := by
  have h8 := hC.1.2
  have h10 := hC.2.1.2
  have hr8 := hC.2.2.1.2
  have hv8 := hC.2.2.2.2
  obtain ⟨⟨a1, a2, a3, a4, a5, a6, a7, a8⟩, b, d, e, g⟩ := hR
  have pt := hP.1.1 t (by omega)
  refine ⟨⟨by rw [rI_c (by omega), pk_un (by omega)]; exact a1, by rw [rI_c (by omega), pk_un (by omega)]; exact a2, by rw [rI_c (by omega), pk_un (by omega)]; exact a3, by rw [rI_c (by omega), pk_un (by omega)]; exact a4, by rw [rI_c (by omega), pk_un (by omega)]; exact a5, by rw [rI_c (by omega), pk_un (by omega)]; exact a6, by rw [rI_c (by omega), pk_un (by omega)]; exact a7, by rw [rI_c (by omega), pk_un (by omega)]; exact a8⟩, fun u q h1 h2 => ?_, fun u q h1 h2 => ?_, fun u q h1 h2 => ?_, fun u q h1 h2 => ?_⟩
  · rw [cT_u (by omega)] at h1
    rw [rI_c (by omega), pk_un (by omega)]
    exact b u q h1 h2
  · rw [cE_u (by omega)] at h1
    have pu := hP.1.1 u (by omega)
    rw [show rG (wI h (rG h (B + 2) t) k v) (B + 2) u = rG h (B + 2) u from rfl]
    by_cases z : u = t
    · subst z
      by_cases z1 : q = k
      · subst z1
        rw [rI_s, pk_us]
      · rw [rI_k z1, pk_un (by omega)]
        exact d u q h1 h2
    · have ne : rG h (B + 2) u ≠ rG h (B + 2) t := fun y => z (hP.1.2 u t (by omega) (by omega) y)
      rw [rI_c ne, pk_un (by omega)]
      exact d u q h1 h2
  · rw [cR_u (by omega)] at h1
    have pu := hP.2.1.1 u (by omega)
    rw [show rG (wI h (rG h (B + 2) t) k v) (B + 3) u = rG h (B + 3) u from rfl]
    rw [rI_c (by omega), pk_un (by omega)]
    exact e u q h1 h2
  · rw [cV_u (by omega)] at h1
    have pu := hP.2.2.1 u (by omega)
    rw [show rG (wI h (rG h (B + 2) t) k v) (B + 4) u = rG h (B + 4) u from rfl]
    rw [rI_c (by omega), pk_un (by omega)]
    exact g u q h1 h2
theorem RW_uR {h : zHp} {B t k : Nat} {N : zN} {v : Int32} (hP : PW h B) (hC : CN N) (hR : RW h B N) (ht : t < cR N) (hk : k < 4) : RW (wI h (rG h (B + 3) t) k v) B (upd N (150 + 4 * t + k) v) := by
  have h8 := hC.1.2
  have h10 := hC.2.1.2
  have hr8 := hC.2.2.1.2
  have hv8 := hC.2.2.2.2
  obtain ⟨⟨a1, a2, a3, a4, a5, a6, a7, a8⟩, b, d, e, g⟩ := hR
  have pt := hP.2.1.1 t (by omega)
  refine ⟨⟨by rw [rI_c (by omega), pk_un (by omega)]; exact a1, by rw [rI_c (by omega), pk_un (by omega)]; exact a2, by rw [rI_c (by omega), pk_un (by omega)]; exact a3, by rw [rI_c (by omega), pk_un (by omega)]; exact a4, by rw [rI_c (by omega), pk_un (by omega)]; exact a5, by rw [rI_c (by omega), pk_un (by omega)]; exact a6, by rw [rI_c (by omega), pk_un (by omega)]; exact a7, by rw [rI_c (by omega), pk_un (by omega)]; exact a8⟩, fun u q h1 h2 => ?_, fun u q h1 h2 => ?_, fun u q h1 h2 => ?_, fun u q h1 h2 => ?_⟩
  · rw [cT_u (by omega)] at h1
    rw [rI_c (by omega), pk_un (by omega)]
    exact b u q h1 h2
  · rw [cE_u (by omega)] at h1
    have pu := hP.1.1 u (by omega)
    rw [show rG (wI h (rG h (B + 3) t) k v) (B + 2) u = rG h (B + 2) u from rfl]
    rw [rI_c (by omega), pk_un (by omega)]
    exact d u q h1 h2
  · rw [cR_u (by omega)] at h1
    have pu := hP.2.1.1 u (by omega)
    rw [show rG (wI h (rG h (B + 3) t) k v) (B + 3) u = rG h (B + 3) u from rfl]
    by_cases z : u = t
    · subst z
      by_cases z1 : q = k
      · subst z1
        rw [rI_s, pk_us]
      · rw [rI_k z1, pk_un (by omega)]
        exact e u q h1 h2
    · have ne : rG h (B + 3) u ≠ rG h (B + 3) t := fun y => z (hP.2.1.2 u t (by omega) (by omega) y)
      rw [rI_c ne, pk_un (by omega)]
      exact e u q h1 h2
  · rw [cV_u (by omega)] at h1
    have pu := hP.2.2.1 u (by omega)
    rw [show rG (wI h (rG h (B + 3) t) k v) (B + 4) u = rG h (B + 4) u from rfl]
    rw [rI_c (by omega), pk_un (by omega)]
    exact g u q h1 h2
theorem RW_uV {h : zHp} {B t k : Nat} {N : zN} {v : Int32} (hP : PW h B) (hC : CN N) (hR : RW h B N) (ht : t < cV N) (hk : k < 7) : RW (wI h (rG h (B + 4) t) k v) B (upd N (182 + 7 * t + k) v) := by
  have h8 := hC.1.2
  have h10 := hC.2.1.2
  have hr8 := hC.2.2.1.2
  have hv8 := hC.2.2.2.2
  obtain ⟨⟨a1, a2, a3, a4, a5, a6, a7, a8⟩, b, d, e, g⟩ := hR
  have pt := hP.2.2.1 t (by omega)
  refine ⟨⟨by rw [rI_c (by omega), pk_un (by omega)]; exact a1, by rw [rI_c (by omega), pk_un (by omega)]; exact a2, by rw [rI_c (by omega), pk_un (by omega)]; exact a3, by rw [rI_c (by omega), pk_un (by omega)]; exact a4, by rw [rI_c (by omega), pk_un (by omega)]; exact a5, by rw [rI_c (by omega), pk_un (by omega)]; exact a6, by rw [rI_c (by omega), pk_un (by omega)]; exact a7, by rw [rI_c (by omega), pk_un (by omega)]; exact a8⟩, fun u q h1 h2 => ?_, fun u q h1 h2 => ?_, fun u q h1 h2 => ?_, fun u q h1 h2 => ?_⟩
  · rw [cT_u (by omega)] at h1
    rw [rI_c (by omega), pk_un (by omega)]
    exact b u q h1 h2
  · rw [cE_u (by omega)] at h1
    have pu := hP.1.1 u (by omega)
    rw [show rG (wI h (rG h (B + 4) t) k v) (B + 2) u = rG h (B + 2) u from rfl]
    rw [rI_c (by omega), pk_un (by omega)]
    exact d u q h1 h2
  · rw [cR_u (by omega)] at h1
    have pu := hP.2.1.1 u (by omega)
    rw [show rG (wI h (rG h (B + 4) t) k v) (B + 3) u = rG h (B + 3) u from rfl]
    rw [rI_c (by omega), pk_un (by omega)]
    exact e u q h1 h2
  · rw [cV_u (by omega)] at h1
    have pu := hP.2.2.1 u (by omega)
    rw [show rG (wI h (rG h (B + 4) t) k v) (B + 4) u = rG h (B + 4) u from rfl]
    by_cases z : u = t
    · subst z
      by_cases z1 : q = k
      · subst z1
        rw [rI_s, pk_us]
      · rw [rI_k z1, pk_un (by omega)]
        exact g u q h1 h2
    · have ne : rG h (B + 4) u ≠ rG h (B + 4) t := fun y => z (hP.2.2.2 u t (by omega) (by omega) y)
      rw [rI_c ne, pk_un (by omega)]
      exact g u q h1 h2
theorem RW_uc0 {h : zHp} {B : Nat} {N : zN} {v : Int32} (hP : PW h B) (hC : CN N) (hR : RW h B N) : RW (wI h (B + 5) 0 v) B (upd N 242 v) := by
  have h8 := hC.1.2
  have h10 := hC.2.1.2
  have hr8 := hC.2.2.1.2
  have hv8 := hC.2.2.2.2
  obtain ⟨⟨a1, a2, a3, a4, a5, a6, a7, a8⟩, b, d, e, g⟩ := hR
  refine ⟨⟨by rw [rI_c (by omega), pk_un (by decide)]; exact a1, by rw [rI_c (by omega), pk_un (by decide)]; exact a2, by rw [rI_c (by omega), pk_un (by decide)]; exact a3, by rw [rI_c (by omega), pk_un (by decide)]; exact a4, by rw [rI_s, pk_us], by rw [rI_k (by decide), pk_un (by decide)]; exact a6, by rw [rI_c (by omega), pk_un (by decide)]; exact a7, by rw [rI_c (by omega), pk_un (by decide)]; exact a8⟩, fun u q h1 h2 => ?_, fun u q h1 h2 => ?_, fun u q h1 h2 => ?_, fun u q h1 h2 => ?_⟩
  · rw [cT_u (by omega)] at h1
    rw [rI_c (by omega), pk_un (by omega)]
    exact b u q h1 h2
  · rw [cE_u (by omega)] at h1
    have pu := hP.1.1 u (by omega)
    rw [show rG (wI h (B + 5) 0 v) (B + 2) u = rG h (B + 2) u from rfl]
    rw [rI_c (by omega), pk_un (by omega)]
    exact d u q h1 h2
  · rw [cR_u (by omega)] at h1
    have pu := hP.2.1.1 u (by omega)
    rw [show rG (wI h (B + 5) 0 v) (B + 3) u = rG h (B + 3) u from rfl]
    rw [rI_c (by omega), pk_un (by omega)]
    exact e u q h1 h2
  · rw [cV_u (by omega)] at h1
    have pu := hP.2.2.1 u (by omega)
    rw [show rG (wI h (B + 5) 0 v) (B + 4) u = rG h (B + 4) u from rfl]
    rw [rI_c (by omega), pk_un (by omega)]
    exact g u q h1 h2
theorem RW_uc1 {h : zHp} {B : Nat} {N : zN} {v : Int32} (hP : PW h B) (hC : CN N) (hR : RW h B N) : RW (wI h (B + 5) 1 v) B (upd N 243 v) := by
  have h8 := hC.1.2
  have h10 := hC.2.1.2
  have hr8 := hC.2.2.1.2
  have hv8 := hC.2.2.2.2
  obtain ⟨⟨a1, a2, a3, a4, a5, a6, a7, a8⟩, b, d, e, g⟩ := hR
  refine ⟨⟨by rw [rI_c (by omega), pk_un (by decide)]; exact a1, by rw [rI_c (by omega), pk_un (by decide)]; exact a2, by rw [rI_c (by omega), pk_un (by decide)]; exact a3, by rw [rI_c (by omega), pk_un (by decide)]; exact a4, by rw [rI_k (by decide), pk_un (by decide)]; exact a5, by rw [rI_s, pk_us], by rw [rI_c (by omega), pk_un (by decide)]; exact a7, by rw [rI_c (by omega), pk_un (by decide)]; exact a8⟩, fun u q h1 h2 => ?_, fun u q h1 h2 => ?_, fun u q h1 h2 => ?_, fun u q h1 h2 => ?_⟩
  · rw [cT_u (by omega)] at h1
    rw [rI_c (by omega), pk_un (by omega)]
    exact b u q h1 h2
  · rw [cE_u (by omega)] at h1
    have pu := hP.1.1 u (by omega)
    rw [show rG (wI h (B + 5) 1 v) (B + 2) u = rG h (B + 2) u from rfl]
    rw [rI_c (by omega), pk_un (by omega)]
    exact d u q h1 h2
  · rw [cR_u (by omega)] at h1
    have pu := hP.2.1.1 u (by omega)
    rw [show rG (wI h (B + 5) 1 v) (B + 3) u = rG h (B + 3) u from rfl]
    rw [rI_c (by omega), pk_un (by omega)]
    exact e u q h1 h2
  · rw [cV_u (by omega)] at h1
    have pu := hP.2.2.1 u (by omega)
    rw [show rG (wI h (B + 5) 1 v) (B + 4) u = rG h (B + 4) u from rfl]
    rw [rI_c (by omega), pk_un (by omega)]
    exact g u q h1 h2
theorem RW_ut {h : zHp} {B : Nat} {N : zN} {v : Int32} (hP : PW h B) (hC : CN N) (hR : RW h B N) : RW (wI h B 9 v) B (upd N 244 v) := by
  have h8 := hC.1.2
  have h10 := hC.2.1.2
  have hr8 := hC.2.2.1.2
  have hv8 := hC.2.2.2.2
  obtain ⟨⟨a1, a2, a3, a4, a5, a6, a7, a8⟩, b, d, e, g⟩ := hR
  refine ⟨⟨by rw [rI_k (by decide), pk_un (by decide)]; exact a1, by rw [rI_k (by decide), pk_un (by decide)]; exact a2, by rw [rI_k (by decide), pk_un (by decide)]; exact a3, by rw [rI_k (by decide), pk_un (by decide)]; exact a4, by rw [rI_c (by omega), pk_un (by decide)]; exact a5, by rw [rI_c (by omega), pk_un (by decide)]; exact a6, by rw [rI_s, pk_us], by rw [rI_k (by decide), pk_un (by decide)]; exact a8⟩, fun u q h1 h2 => ?_, fun u q h1 h2 => ?_, fun u q h1 h2 => ?_, fun u q h1 h2 => ?_⟩
  · rw [cT_u (by omega)] at h1
    rw [rI_c (by omega), pk_un (by omega)]
    exact b u q h1 h2
  · rw [cE_u (by omega)] at h1
    have pu := hP.1.1 u (by omega)
    rw [show rG (wI h B 9 v) (B + 2) u = rG h (B + 2) u from rfl]
    rw [rI_c (by omega), pk_un (by omega)]
    exact d u q h1 h2
  · rw [cR_u (by omega)] at h1
    have pu := hP.2.1.1 u (by omega)
    rw [show rG (wI h B 9 v) (B + 3) u = rG h (B + 3) u from rfl]
    rw [rI_c (by omega), pk_un (by omega)]
    exact e u q h1 h2
  · rw [cV_u (by omega)] at h1
    have pu := hP.2.2.1 u (by omega)
    rw [show rG (wI h B 9 v) (B + 4) u = rG h (B + 4) u from rfl]
    rw [rI_c (by omega), pk_un (by omega)]
    exact g u q h1 h2
theorem RW_uz {h : zHp} {B : Nat} {N : zN} {v : Int32} (hP : PW h B) (hC : CN N) (hR : RW h B N) : RW (wI h B 10 v) B (upd N 245 v) := by
  have h8 := hC.1.2
  have h10 := hC.2.1.2
  have hr8 := hC.2.2.1.2
  have hv8 := hC.2.2.2.2
  obtain ⟨⟨a1, a2, a3, a4, a5, a6, a7, a8⟩, b, d, e, g⟩ := hR
  refine ⟨⟨by rw [rI_k (by decide), pk_un (by decide)]; exact a1, by rw [rI_k (by decide), pk_un (by decide)]; exact a2, by rw [rI_k (by decide), pk_un (by decide)]; exact a3, by rw [rI_k (by decide), pk_un (by decide)]; exact a4, by rw [rI_c (by omega), pk_un (by decide)]; exact a5, by rw [rI_c (by omega), pk_un (by decide)]; exact a6, by rw [rI_k (by decide), pk_un (by decide)]; exact a7, by rw [rI_s, pk_us]⟩, fun u q h1 h2 => ?_, fun u q h1 h2 => ?_, fun u q h1 h2 => ?_, fun u q h1 h2 => ?_⟩
  · rw [cT_u (by omega)] at h1
    rw [rI_c (by omega), pk_un (by omega)]
    exact b u q h1 h2
  · rw [cE_u (by omega)] at h1
    have pu := hP.1.1 u (by omega)
    rw [show rG (wI h B 10 v) (B + 2) u = rG h (B + 2) u from rfl]
    rw [rI_c (by omega), pk_un (by omega)]
    exact d u q h1 h2
  · rw [cR_u (by omega)] at h1
    have pu := hP.2.1.1 u (by omega)
    rw [show rG (wI h B 10 v) (B + 3) u = rG h (B + 3) u from rfl]
    rw [rI_c (by omega), pk_un (by omega)]
    exact e u q h1 h2
  · rw [cV_u (by omega)] at h1
    have pu := hP.2.2.1 u (by omega)
    rw [show rG (wI h B 10 v) (B + 4) u = rG h (B + 4) u from rfl]
    rw [rI_c (by omega), pk_un (by omega)]
    exact g u q h1 h2
/-- world 2 and what goes with it may have changed; what stands behind cell 51, and what isn't a row of world 2, not -/
def fX (h h' : zHp) : Prop := (∀ a, (a = 0 ∨ 52 ≤ a) → h'.1 a = h.1 a) ∧ ∀ a, a ≠ 4 → a ≠ 5 → a ≠ 6 → h'.2 a = h.2 a
theorem fX.rf {h : zHp} : fX h h := ⟨fun _ _ => rfl, fun _ _ _ _ => rfl⟩
theorem fX.tr {h h' h2 : zHp} (a : fX h h') (b : fX h' h2) : fX h h2 := ⟨fun z hz => (b.1 z hz).trans (a.1 z hz), fun z z1 z2 z3 => (b.2 z z1 z2 z3).trans (a.2 z z1 z2 z3)⟩
theorem fX.g {h h' : zHp} (f : fX h h') (G : zG h) : zG h' := by
  intro a b i hi
  have n4 : a ≠ 4 := fun z => by rw [z] at hi; exact absurd hi (by rw [(zstE (B := 2) (j := b) (Or.inl rfl)).1]; intro y; cases y)
  have n5 : a ≠ 5 := fun z => by rw [z] at hi; exact absurd hi (by rw [(zstE (B := 2) (j := b) (Or.inl rfl)).2.1]; intro y; cases y)
  have n6 : a ≠ 6 := fun z => by rw [z] at hi; exact absurd hi (by rw [(zstE (B := 2) (j := b) (Or.inl rfl)).2.2]; intro y; cases y)
  show h'.2 a b = _
  rw [f.2 a n4 n5 n6]
  exact G a b i hi
theorem fX.c {h h' : zHp} (f : fC h h') : fX h h' := ⟨fun a ha => f.2.1 a (by omega) (by omega) (by omega) (by omega) (by omega), fun a _ _ _ => by rw [f.1]⟩
theorem fX.s {h h' : zHp} (f : fS h h') : fX h h' := fX.c f.c
theorem fX.u {h h' : zHp} (f : fU 48 h h') : fX h h' := ⟨fun a ha => f.2 a (by omega) (by omega), fun a _ _ _ => by rw [f.1]⟩
theorem fX.w {h : zHp} {c k : Nat} {v : Int32} (hc : 0 < c ∧ c < 52) : fX h (wI h c k v) := ⟨fun a ha => wI_ne (by omega), fun _ _ _ _ => rfl⟩
theorem fX.d {h : zHp} {f c k n : Nat} (hc : c = 4 ∨ c = 5 ∨ c = 6) : fX h (drh h 2 f c k n) := ⟨fun a ha => drh_1 (by omega), fun a h1 h2 h3 => drh_2 (by omega)⟩

