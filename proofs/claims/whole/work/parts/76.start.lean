/-! the law's entry -/
abbrev FW : Cond := Jvm.Cond.and given_1 narrow_1
theorem lwi {w : Cond} (i : Nat) (h : tables_1[i]? = some w) : w ∈ lw_tbl := List.mem_append_right _ (List.mem_of_getElem? h)
def tmI : List Nat := [383, 385, 386, 387, 389, 391, 393, 395, 397, 399, 401, 403, 338]
def tmK : List Nat := [87, 94, 104, 114, 125, 140, 154, 166, 182, 199, 216, 234, 254]
def tmS (i : Nat) : Term := .string "LayeredRules" (tmI.getD i 0)
theorem fw_ex : ∀ i, i < 13 → (flatC FW)[tmK.getD i 0]? = some (.exactly (tmS i) "java/lang/String") := by decide +kernel
theorem fw_co : ∀ i, i < 13 → (flatC FW)[tmK.getD i 0 + 1]? = some (.eq (.field (tmS i) "java/lang/String" "coder" "B") (.int 0)) := by decide +kernel
theorem fw_ar : ∀ i, i < 13 → (flatC FW)[tmK.getD i 0 + 2]? = some (.arrayOf (.field (tmS i) "java/lang/String" "value" "[B") .byte) := by decide +kernel
theorem fw_le : ∀ i, i < 13 → (flatC FW)[tmK.getD i 0 + 3]? = some (.eq (.length (.field (tmS i) "java/lang/String" "value" "[B")) (.int (Int32.ofNat (zSlen.getD i 0)))) := by decide +kernel
theorem fw_el : ∀ i, i < 13 → ∀ j, j < zSlen.getD i 0 → (flatC FW)[tmK.getD i 0 + 4 + j]? = some (.eq (.elem (.field (tmS i) "java/lang/String" "value" "[B") (.int (Int32.ofNat j))) (.int ((zSbyt.getD i []).getD j 0))) := by decide +kernel
theorem fw_ne : ∀ j, j < 13 → ∀ i, i < j → (flatC FW)[tmK.getD j 0 + 4 + zSlen.getD j 0 + i]? = some (.not (.eq (tmS i) (tmS j))) := by decide +kernel
theorem fw_len : ∀ i, i < 13 → zSlen.getD i 0 < 2 ^ 31 := by decide +kernel
theorem fw_LAYER_OF : ∀ j, j < 6 → (flatC FW)[7 + j]? = some (.eq (.elem (.static "LayeredRules" "LAYER_OF" "[I") (.int (Int32.ofNat j))) (.int (zLO j))) := by decide +kernel
theorem st_LAYER_OF {b : Nat} {s : State} {A : Nat → Prop} (hs : ∀ w ∈ flatC FW, w.before #[Value.ref b] s = true) (hts : ∀ w ∈ lw_tbl, w.before #[Value.ref b] s = true) (hA : ∀ a : Nat, a < s.heap.size → ¬ A a) : ∃ t : Nat, va_Z "LayeredRules" "LAYER_OF" "[I" (.ref t) A s s.heap ∧ va_T .int t 6 (fun j => .int (zLO j)) A s s.heap := by
  obtain ⟨t, ht, hT⟩ := va_Tof (args := #[Value.ref b]) (s := s) (tm := .static "LayeredRules" "LAYER_OF" "[I") (ty := .int) (N := 6) (f := fun j => .int (zLO j)) (A := A) (by decide) (hs _ (List.mem_of_getElem? (i := 5) (by decide +kernel))) (va_eqt (hs _ (List.mem_of_getElem? (i := 6) (by decide +kernel)))) (fun j hj => va_eqt (hs _ (List.mem_of_getElem? (fw_LAYER_OF j hj)))) hA
  exact ⟨t, va_Zof (hts _ (lwi 485 (by decide +kernel))) (hts _ (lwi 1 (by decide +kernel))) ht hA, hT⟩
theorem fw_MOST_X : ∀ j, j < 6 → (flatC FW)[16 + j]? = some (.eq (.elem (.static "LayeredRules" "MOST_X" "[I") (.int (Int32.ofNat j))) (.int (zMX j))) := by decide +kernel
theorem st_MOST_X {b : Nat} {s : State} {A : Nat → Prop} (hs : ∀ w ∈ flatC FW, w.before #[Value.ref b] s = true) (hts : ∀ w ∈ lw_tbl, w.before #[Value.ref b] s = true) (hA : ∀ a : Nat, a < s.heap.size → ¬ A a) : ∃ t : Nat, va_Z "LayeredRules" "MOST_X" "[I" (.ref t) A s s.heap ∧ va_T .int t 6 (fun j => .int (zMX j)) A s s.heap := by
  obtain ⟨t, ht, hT⟩ := va_Tof (args := #[Value.ref b]) (s := s) (tm := .static "LayeredRules" "MOST_X" "[I") (ty := .int) (N := 6) (f := fun j => .int (zMX j)) (A := A) (by decide) (hs _ (List.mem_of_getElem? (i := 14) (by decide +kernel))) (va_eqt (hs _ (List.mem_of_getElem? (i := 15) (by decide +kernel)))) (fun j hj => va_eqt (hs _ (List.mem_of_getElem? (fw_MOST_X j hj)))) hA
  exact ⟨t, va_Zof (hts _ (lwi 617 (by decide +kernel))) (hts _ (lwi 1 (by decide +kernel))) ht hA, hT⟩
theorem st_comp {b : Nat} {s : State} {A : Nat → Prop} (hs : ∀ w ∈ flatC FW, w.before #[Value.ref b] s = true) (hts : ∀ w ∈ lw_tbl, w.before #[Value.ref b] s = true) (hA : ∀ a : Nat, a < s.heap.size → ¬ A a) : va_Z "java/lang/String" "COMPACT_STRINGS" "Z" (.int 1) A s s.heap :=
  va_Zof (hts _ (lwi 895 (by decide +kernel))) (hts _ (lwi 16 (by decide +kernel))) (va_eqi (hs _ (List.mem_of_getElem? (i := 22) (by decide +kernel)))) hA
theorem st_fmt {b : Nat} {s : State} {A : Nat → Prop} (hs : ∀ w ∈ flatC FW, w.before #[Value.ref b] s = true) (hts : ∀ w ∈ lw_tbl, w.before #[Value.ref b] s = true) (hA : ∀ a : Nat, a < s.heap.size → ¬ A a) : ∃ fm : Option Nat, va_Z "jdk/internal/util/Preconditions" "SIOOBE_FORMATTER" "Ljava/util/function/BiFunction;" (va_rf fm) A s s.heap := by
  rcases va_Zqof (args := #[Value.ref b]) (s := s) (C := "jdk/internal/util/Preconditions") (n := "SIOOBE_FORMATTER") (d := "Ljava/util/function/BiFunction;") (A := A) (hts _ (lwi 911 (by decide +kernel))) (hts _ (lwi 18 (by decide +kernel))) (hs _ (List.mem_of_getElem? (i := 23) (by decide +kernel))) hA with h | ⟨t, h⟩
  · exact ⟨none, h⟩
  · exact ⟨some t, h⟩
theorem st_str {b : Nat} {s : State} {A : Nat → Prop} (hs : ∀ w ∈ flatC FW, w.before #[Value.ref b] s = true) (hts : ∀ w ∈ lw_tbl, w.before #[Value.ref b] s = true) (hA : ∀ a : Nat, a < s.heap.size → ¬ A a) : ∃ adK adV : Nat → Nat, vk_S 13 zSlen zSbyt adK adV A s s.heap ∧ ∀ q ∈ zStr, vk_R q.1 q.2.1 q.2.2.1 (adK q.2.2.2) s := by
  obtain ⟨adK, adV, h1, h2⟩ := vk_Sof (args := #[Value.ref b]) (s := s) (N := 13) (tm := tmS) (len := zSlen) (byt := zSbyt) (A := A) fw_len (fun i hi => hs _ (List.mem_of_getElem? (fw_ex i hi))) (fun i hi => hs _ (List.mem_of_getElem? (fw_co i hi))) (fun i hi => hs _ (List.mem_of_getElem? (fw_ar i hi))) (fun i hi => hs _ (List.mem_of_getElem? (fw_le i hi))) (fun i hi j hj => hs _ (List.mem_of_getElem? (fw_el i hi j hj))) (fun i j hi hj hij => by
    rcases Nat.lt_or_ge i j with q | q
    · exact Or.inl (hs _ (List.mem_of_getElem? (fw_ne j hj i q)))
    · exact Or.inr (hs _ (List.mem_of_getElem? (fw_ne i hi j (by omega))))) hA
  refine ⟨adK, adV, h1, fun q hq => ?_⟩
  simp only [zStr, List.mem_cons, List.not_mem_nil, or_false] at hq
  rcases hq with rfl | rfl | rfl | rfl | rfl | rfl | rfl | rfl | rfl | rfl | rfl | rfl | rfl | rfl | rfl | rfl | rfl | rfl | rfl | rfl | rfl | rfl | rfl | rfl | rfl
  · exact vk_R.of (A := #[Value.ref b]) (hts _ (lwi 876 (by decide +kernel))) (h2 0 (by decide))
  · exact vk_R.of (A := #[Value.ref b]) (hts _ (lwi 877 (by decide +kernel))) (h2 1 (by decide))
  · exact vk_R.of (A := #[Value.ref b]) (hts _ (lwi 878 (by decide +kernel))) (h2 2 (by decide))
  · exact vk_R.of (A := #[Value.ref b]) (hts _ (lwi 879 (by decide +kernel))) (h2 3 (by decide))
  · exact vk_R.of (A := #[Value.ref b]) (hts _ (lwi 880 (by decide +kernel))) (h2 4 (by decide))
  · exact vk_R.of (A := #[Value.ref b]) (hts _ (lwi 881 (by decide +kernel))) (h2 5 (by decide))
  · exact vk_R.of (A := #[Value.ref b]) (hts _ (lwi 950 (by decide +kernel))) (h2 6 (by decide))
  · exact vk_R.of (A := #[Value.ref b]) (hts _ (lwi 951 (by decide +kernel))) (h2 7 (by decide))
  · exact vk_R.of (A := #[Value.ref b]) (hts _ (lwi 952 (by decide +kernel))) (h2 8 (by decide))
  · exact vk_R.of (A := #[Value.ref b]) (hts _ (lwi 953 (by decide +kernel))) (h2 9 (by decide))
  · exact vk_R.of (A := #[Value.ref b]) (hts _ (lwi 954 (by decide +kernel))) (h2 10 (by decide))
  · exact vk_R.of (A := #[Value.ref b]) (hts _ (lwi 955 (by decide +kernel))) (h2 11 (by decide))
  · exact vk_R.of (A := #[Value.ref b]) (hts _ (lwi 992 (by decide +kernel))) (h2 12 (by decide))
  · exact vk_R.of (A := #[Value.ref b]) (hts _ (lwi 1056 (by decide +kernel))) (va_eqR (t := tmS 0) (hs _ (List.mem_of_getElem? (i := 278) (by decide +kernel))) (h2 0 (by decide)))
  · exact vk_R.of (A := #[Value.ref b]) (hts _ (lwi 1057 (by decide +kernel))) (va_eqR (t := tmS 1) (hs _ (List.mem_of_getElem? (i := 301) (by decide +kernel))) (h2 1 (by decide)))
  · exact vk_R.of (A := #[Value.ref b]) (hts _ (lwi 1058 (by decide +kernel))) (va_eqR (t := tmS 2) (hs _ (List.mem_of_getElem? (i := 324) (by decide +kernel))) (h2 2 (by decide)))
  · exact vk_R.of (A := #[Value.ref b]) (hts _ (lwi 1059 (by decide +kernel))) (va_eqR (t := tmS 3) (hs _ (List.mem_of_getElem? (i := 348) (by decide +kernel))) (h2 3 (by decide)))
  · exact vk_R.of (A := #[Value.ref b]) (hts _ (lwi 1060 (by decide +kernel))) (va_eqR (t := tmS 4) (hs _ (List.mem_of_getElem? (i := 376) (by decide +kernel))) (h2 4 (by decide)))
  · exact vk_R.of (A := #[Value.ref b]) (hts _ (lwi 1061 (by decide +kernel))) (va_eqR (t := tmS 5) (hs _ (List.mem_of_getElem? (i := 403) (by decide +kernel))) (h2 5 (by decide)))
  · exact vk_R.of (A := #[Value.ref b]) (hts _ (lwi 1062 (by decide +kernel))) (va_eqR (t := tmS 6) (hs _ (List.mem_of_getElem? (i := 428) (by decide +kernel))) (h2 6 (by decide)))
  · exact vk_R.of (A := #[Value.ref b]) (hts _ (lwi 1063 (by decide +kernel))) (va_eqR (t := tmS 7) (hs _ (List.mem_of_getElem? (i := 457) (by decide +kernel))) (h2 7 (by decide)))
  · exact vk_R.of (A := #[Value.ref b]) (hts _ (lwi 1064 (by decide +kernel))) (va_eqR (t := tmS 8) (hs _ (List.mem_of_getElem? (i := 487) (by decide +kernel))) (h2 8 (by decide)))
  · exact vk_R.of (A := #[Value.ref b]) (hts _ (lwi 1065 (by decide +kernel))) (va_eqR (t := tmS 9) (hs _ (List.mem_of_getElem? (i := 517) (by decide +kernel))) (h2 9 (by decide)))
  · exact vk_R.of (A := #[Value.ref b]) (hts _ (lwi 1066 (by decide +kernel))) (va_eqR (t := tmS 10) (hs _ (List.mem_of_getElem? (i := 548) (by decide +kernel))) (h2 10 (by decide)))
  · exact vk_R.of (A := #[Value.ref b]) (hts _ (lwi 1067 (by decide +kernel))) (va_eqR (t := tmS 11) (hs _ (List.mem_of_getElem? (i := 581) (by decide +kernel))) (h2 11 (by decide)))
theorem st_nm {b : Nat} {s : State} (hts : ∀ w ∈ lw_tbl, w.before #[Value.ref b] s = true) : ∀ q ∈ zNM, va_Nw (.methodLinkNest q.1 q.2.1 q.2.2.1 q.2.2.2) s := by
  intro q hq
  simp only [zNM, List.mem_cons, List.not_mem_nil, or_false] at hq
  rcases hq with rfl | rfl | rfl | rfl | rfl | rfl | rfl | rfl | rfl | rfl | rfl | rfl | rfl | rfl | rfl | rfl | rfl | rfl
  · exact va_Nw.of rfl (hts _ (lwi 30 (by decide +kernel)))
  · exact va_Nw.of rfl (hts _ (lwi 49 (by decide +kernel)))
  · exact va_Nw.of rfl (hts _ (lwi 108 (by decide +kernel)))
  · exact va_Nw.of rfl (hts _ (lwi 149 (by decide +kernel)))
  · exact va_Nw.of rfl (hts _ (lwi 175 (by decide +kernel)))
  · exact va_Nw.of rfl (hts _ (lwi 272 (by decide +kernel)))
  · exact va_Nw.of rfl (hts _ (lwi 303 (by decide +kernel)))
  · exact va_Nw.of rfl (hts _ (lwi 360 (by decide +kernel)))
  · exact va_Nw.of rfl (hts _ (lwi 362 (by decide +kernel)))
  · exact va_Nw.of rfl (hts _ (lwi 370 (by decide +kernel)))
  · exact va_Nw.of rfl (hts _ (lwi 407 (by decide +kernel)))
  · exact va_Nw.of rfl (hts _ (lwi 481 (by decide +kernel)))
  · exact va_Nw.of rfl (hts _ (lwi 579 (by decide +kernel)))
  · exact va_Nw.of rfl (hts _ (lwi 588 (by decide +kernel)))
  · exact va_Nw.of rfl (hts _ (lwi 784 (by decide +kernel)))
  · exact va_Nw.of rfl (hts _ (lwi 873 (by decide +kernel)))
  · exact va_Nw.of rfl (hts _ (lwi 947 (by decide +kernel)))
  · exact va_Nw.of rfl (hts _ (lwi 1031 (by decide +kernel)))
theorem st_nf {b : Nat} {s : State} (hts : ∀ w ∈ lw_tbl, w.before #[Value.ref b] s = true) : ∀ q ∈ zNF, va_Nw (.fieldLinkNest q.1 q.2.1 q.2.2.1 q.2.2.2.1 q.2.2.2.2.1 q.2.2.2.2.2) s := by
  intro q hq
  simp only [zNF, List.mem_cons, List.not_mem_nil, or_false] at hq
  rcases hq with rfl | rfl
  · exact va_Nw.of rfl (hts _ (lwi 484 (by decide +kernel)))
  · exact va_Nw.of rfl (hts _ (lwi 934 (by decide +kernel)))
theorem st_ao {b : Nat} {s : State} (hts : ∀ w ∈ lw_tbl, w.before #[Value.ref b] s = true) : ∀ C ∈ zAO, va_AO C s := by
  intro q hq
  simp only [zAO, List.mem_cons, List.not_mem_nil, or_false] at hq
  rcases hq with rfl | rfl | rfl | rfl | rfl | rfl
  · exact va_AO.of (A := #[Value.ref b]) (hts _ (lwi 41 (by decide +kernel)))
  · exact va_AO.of (A := #[Value.ref b]) (hts _ (lwi 43 (by decide +kernel)))
  · exact va_AO.of (A := #[Value.ref b]) (hts _ (lwi 45 (by decide +kernel)))
  · exact va_AO.of (A := #[Value.ref b]) (hts _ (lwi 47 (by decide +kernel)))
  · exact va_AO.of (A := #[Value.ref b]) (hts _ (lwi 405 (by decide +kernel)))
  · exact va_AO.of (A := #[Value.ref b]) (hts _ (lwi 1055 (by decide +kernel)))
theorem st_kn {b : Nat} {s : State} (hz : ∀ w ∈ zT, w.before #[Value.ref b] s = true) : ∀ k : Nat, ∃ p : ClassId × (Nat → Nat), ∀ q : vw_C, vwCl[k]? = some q → u_Kn s q.1 q.2.1 q.2.2 p.1 p.2 := by
  intro k
  match k with
  | 0 =>
    obtain ⟨c, f, h⟩ := u_known (C := RX0) (T := TX0) (N := 7) (n := 7) hz zU0 (hz _ (zTi 29 (by decide +kernel) (by decide +kernel)))
    exact ⟨(c, f), fun q hq => by cases hq; exact h⟩
  | 1 =>
    obtain ⟨c, f, h⟩ := u_known (C := RX1) (T := TX1) (N := 7) (n := 7) hz zU1 (hz _ (zTi 107 (by decide +kernel) (by decide +kernel)))
    exact ⟨(c, f), fun q hq => by cases hq; exact h⟩
  | 2 =>
    obtain ⟨c, f, h⟩ := u_known (C := RX2) (T := TX2) (N := 6) (n := 6) hz zU2 (hz _ (zTi 271 (by decide +kernel) (by decide +kernel)))
    exact ⟨(c, f), fun q hq => by cases hq; exact h⟩
  | 3 =>
    obtain ⟨c, f, h⟩ := u_known (C := RX3) (T := TX3) (N := 9) (n := 9) hz zU3 (hz _ (zTi 364 (by decide +kernel) (by decide +kernel)))
    exact ⟨(c, f), fun q hq => by cases hq; exact h⟩
  | 4 =>
    obtain ⟨c, f, h⟩ := u_known (C := RX4) (T := TX4) (N := 4) (n := 4) hz zU4 (hz _ (zTi 148 (by decide +kernel) (by decide +kernel)))
    exact ⟨(c, f), fun q hq => by cases hq; exact h⟩
  | 5 =>
    obtain ⟨c, f, h⟩ := u_known (C := RX5) (T := TX5) (N := 3) (n := 3) hz zU5 (hz _ (zTi 406 (by decide +kernel) (by decide +kernel)))
    exact ⟨(c, f), fun q hq => by cases hq; exact h⟩
  | 6 =>
    obtain ⟨c, f, h⟩ := u_known (C := RX6) (T := TX6) (N := 10) (n := 10) hz zU6 (hz _ (zTi 48 (by decide +kernel) (by decide +kernel)))
    exact ⟨(c, f), fun q hq => by cases hq; exact h⟩
  | 7 =>
    obtain ⟨c, f, h⟩ := u_known (C := RX7) (T := TX7) (N := 7) (n := 7) hz zU7 (hz _ (zTi 174 (by decide +kernel) (by decide +kernel)))
    exact ⟨(c, f), fun q hq => by cases hq; exact h⟩
  | 8 =>
    obtain ⟨c, f, h⟩ := u_known (C := RX8) (T := TX8) (N := 11) (n := 11) hz zU8 (hz _ (zTi 35 (by decide +kernel) (by decide +kernel)))
    exact ⟨(c, f), fun q hq => by cases hq; exact h⟩
  | 9 =>
    obtain ⟨c, f, h⟩ := u_known (C := RX9) (T := TX9) (N := 5) (n := 5) hz zU9 (hz _ (zTi 302 (by decide +kernel) (by decide +kernel)))
    exact ⟨(c, f), fun q hq => by cases hq; exact h⟩
  | 10 =>
    obtain ⟨c, f, h⟩ := u_known (C := RX10) (T := TX10) (N := 12) (n := 12) hz zU10 (hz _ (zTi 21 (by decide +kernel) (by decide +kernel)))
    exact ⟨(c, f), fun q hq => by cases hq; exact h⟩
  | 11 =>
    obtain ⟨c, f, h⟩ := u_known (C := RX11) (T := TX11) (N := 33) (n := 33) hz zU11 (hz _ (zTi 1049 (by decide +kernel) (by decide +kernel)))
    exact ⟨(c, f), fun q hq => by cases hq; exact h⟩
  | k + 12 =>
    obtain ⟨c, f, h⟩ := u_known (C := RX0) (T := TX0) (N := 7) (n := 7) hz zU0 (hz _ (zTi 29 (by decide +kernel) (by decide +kernel)))
    exact ⟨(c, f), fun q hq => by rw [List.getElem?_eq_none (by show 12 ≤ k + 12; omega)] at hq; cases hq⟩
theorem st_arr {b : Nat} {s : State} (hz : ∀ w ∈ zT, w.before #[Value.ref b] s = true) (ho : ∀ C ∈ zAO, va_AO C s) : ∀ k, ∃ cA : ClassId, 20 ≤ k → k < 28 → ArrOfT s cA (zty k) ∧ va_RA s cA (zty k) := by
  have ob : ∀ C, C ∈ zAO → ∃ cA : ClassId, ArrOfT s cA (.object C) ∧ va_RA s cA (.object C) := by
    intro C hC
    obtain ⟨comp, c, k, h1, h2, h3, h4, h5⟩ := Cond.arrayOver_spec (va_AO.use (A := #[Value.ref b]) (ho C hC))
    exact ⟨c, fun n z => ⟨(fun k h => by cases h), k, h3, comp, h4⟩, k, comp, h3, h4, h1, h5⟩
  obtain ⟨cB, kB, mB, b1, b2, b3⟩ := Cond.arrayClass_spec (hz _ pw_aB)
  obtain ⟨cI, kI, mI, i1, i2, i3⟩ := Cond.arrayClass_spec (hz _ pw_aI)
  intro k
  by_cases h : 20 ≤ k ∧ k < 28
  · rcases (by omega : k = 20 ∨ k = 21 ∨ k = 22 ∨ k = 23 ∨ k = 24 ∨ k = 25 ∨ k = 26 ∨ k = 27) with rfl | rfl | rfl | rfl | rfl | rfl | rfl | rfl
    · exact ⟨cB, fun _ _ => ⟨fun n z => ⟨(fun k h => by cases h), kB, b2, mB, b3⟩, b1⟩⟩
    · exact ⟨cI, fun _ _ => ⟨fun n z => ⟨(fun k h => by cases h), kI, i2, mI, i3⟩, i1⟩⟩
    · obtain ⟨c, h1⟩ := ob _ (List.mem_of_getElem? (i := 0) rfl)
      exact ⟨c, fun _ _ => h1⟩
    · obtain ⟨c, h1⟩ := ob _ (List.mem_of_getElem? (i := 1) rfl)
      exact ⟨c, fun _ _ => h1⟩
    · obtain ⟨c, h1⟩ := ob _ (List.mem_of_getElem? (i := 2) rfl)
      exact ⟨c, fun _ _ => h1⟩
    · obtain ⟨c, h1⟩ := ob _ (List.mem_of_getElem? (i := 3) rfl)
      exact ⟨c, fun _ _ => h1⟩
    · obtain ⟨c, h1⟩ := ob _ (List.mem_of_getElem? (i := 4) rfl)
      exact ⟨c, fun _ _ => h1⟩
    · obtain ⟨c, h1⟩ := ob _ (List.mem_of_getElem? (i := 5) rfl)
      exact ⟨c, fun _ _ => h1⟩
  · exact ⟨cB, fun h1 h2 => absurd ⟨h1, h2⟩ h⟩
theorem zsl_le (n : Nat) : zsl n ≤ 1024 * n := by
  induction n with
  | zero => rw [zsl_0]; omega
  | succ n ih =>
    have := ln_lt n
    rw [zsl_succ]
    omega

