/-! the law's loop: each call of the class answers as the reference's -/
theorem nI_inj {a b : Nat} (ha : a ≤ 3072) (hb : b ≤ 3072) (e : nI a = nI b) : a = b := by
  have := congrArg Int32.toNatClampNeg e
  rwa [nI_clamp (by omega), nI_clamp (by omega)] at this
/-- the script stays as it is -/
theorem zsc {nX n : Nat} {M : zMI} {pc : Nat} {ls : List (Option Value)} {st : List Value} {h : zHp} {Q : Option Value → zHp → Prop} {L : Nat} (hL : rI h 1004 0 = nI L) (hL3 : L ≤ 3072) (K : zw nX n M pc ls st h Q) : zw nX n M pc ls st h (fun r h' => Q r h' ∧ rI h' 1004 0 = nI L ∧ ∀ j, j < L → rI h' 1003 j = rI h 1003 j) := by
  intro X p l e R s m args below meth cd Z nE C hZ H locs a h1 h2 hP hSt hS hl
  refine K X p l e R s m args below meth cd Z nE C (fun r h' H' locs' lsA pc' hQ hr hP' hSt' hS' hd => ?_) H locs a h1 h2 hP hSt hS hl
  refine hZ r h' H' locs' lsA pc' ⟨hQ, ?_⟩ hr hP' hSt' hS' hd
  obtain ⟨-, -, -, -, -, ⟨b0, L0, f1, f2, f3, ⟨scr, g1, g2, g3, g4, g5⟩, f5, f6⟩, -⟩ := hSt
  obtain ⟨-, -, -, -, -, ⟨b1, L1, k1, k2, k3, ⟨scr', l1, l2, l3, l4, l5⟩, k5, k6⟩, -⟩ := hSt'
  have hb : b1 = b0 := Option.some.inj (k1.symm.trans f1)
  subst hb
  have hsc : scr' = scr := Option.some.inj (l1.symm.trans g1)
  subst hsc
  have hLL : L1 = L0 := l4.symm.trans g4
  subst hLL
  have hL0 : L1 = L := nI_inj f3 hL3 (f2.symm.trans hL)
  subst hL0
  refine ⟨k2, fun j hj => ?_⟩
  have e1 := (l5 j hj).symm.trans (g5 j hj)
  injection e1 with e2
  injection e2
theorem q_ldSc {M : zMI} {pc : Nat} {ls : List (Option Value)} {st : List Value} {h : zHp} {Q : Option Value → zHp → Prop} {i v : Int32} {j L : Nat} (hd : decode M.2.1 pc = .ok (.iaload, 1)) (hLn : rI h 1004 0 = nI L) (hL : L ≤ 3072) (hj : i = nI j) (hjL : j < L) (hv : rI h 1003 j = v) (K : zw zNT zNT M (pc + 1) ls (.int v :: st) h Q) : zw zNT zNT M pc ls (.int i :: .ref 1003 :: st) h Q := z_ldSc hd hLn hL hj hjL (by rw [hv]; exact K)
theorem w_clear {i L : Nat} {h : zHp} {Q : Option Value → zHp → Prop} (hI : INV h) (hL : rI h 1004 0 = nI L) (hL3 : L ≤ 3072) (hi : i + 6 ≤ L) (K : ∀ h2, INV h2 → rI h2 1004 0 = nI L → zw zNT zNT M_L_law 1360 [some (.ref 1003), some (.ref 0), some (.ref 164), some (.int (nI i))] [] h2 Q) : zw zNT zNT M_L_law 192 [some (.ref 1003), some (.ref 0), some (.ref 164), some (.int (nI i))] [] h Q := by
  refine z_aload_n (pc := 192) dL_law_192 rfl rfl ?_
  refine q_invV (pc := 193) (As := []) (st := []) dL_law_193 ok_X10_clear ml_RL_13 iv_X10_clear pa_X10_clear ⟨Nat.le_of_ble_eq_true rfl, Nat.le_of_ble_eq_true rfl⟩ (lyc rfl) (zw.mono (zsc hL hL3 (sim_clear h hI)) (fun r h1 hr => ?_))
  obtain ⟨⟨v, rfl, G1, S⟩, hL1, hk⟩ := hr
  show zw zNT zNT M_L_law 196 [some (.ref 1003), some (.ref 0), some (.ref 164), some (.int (nI i))] [.int v] h1 Q
  refine z_aload_n (pc := 196) dL_law_196 rfl rfl ?_
  refine q_invV (pc := 197) (As := []) (st := [.int v]) dL_law_197 ok_X11_clear ml_RL_17 iv_X11_clear pa_X11_clear ⟨Nat.le_of_ble_eq_true rfl, Nat.le_of_ble_eq_true rfl⟩ (lyc rfl) (zw.mono (zsc hL1 hL3 S) (fun r h2 hr => ?_))
  obtain ⟨⟨v', rfl, G2, e, hI2⟩, hL2, hk2⟩ := hr
  show zw zNT zNT M_L_law 200 [some (.ref 1003), some (.ref 0), some (.ref 164), some (.int (nI i))] [.int v', .int v] h2 Q
  exact z_icmp_eq (pc := 200) (tgt := 1360) dL_law_200 (by decide) (fun _ => K h2 hI2 hL2) (fun z => absurd e z)
theorem w_thing {i L : Nat} {h : zHp} {Q : Option Value → zHp → Prop} (hI : INV h) (hL : rI h 1004 0 = nI L) (hL3 : L ≤ 3072) (hi : i + 6 ≤ L) (K : ∀ h2, INV h2 → rI h2 1004 0 = nI L → zw zNT zNT M_L_law 1360 [some (.ref 1003), some (.ref 0), some (.ref 164), some (.int (nI i))] [] h2 Q) : zw zNT zNT M_L_law 205 [some (.ref 1003), some (.ref 0), some (.ref 164), some (.int (nI i))] [] h Q := by
  refine z_aload_n (pc := 205) dL_law_205 rfl rfl ?_
  refine z_aload_n (pc := 206) dL_law_206 rfl rfl ?_
  refine z_iload_n (pc := 207) dL_law_207 rfl rfl ?_
  refine z_iconst (pc := 208) (v := 1) dL_law_208 (by decide) ?_
  refine z_iadd (pc := 209) dL_law_209 ?_
  refine q_ldSc (pc := 210) (j := i + 1) (v := rI h 1003 (i + 1)) dL_law_210 hL hL3 (nI_add i 1) (by omega) rfl ?_
  refine z_aload_n (pc := 211) dL_law_211 rfl rfl ?_
  refine z_iload_n (pc := 212) dL_law_212 rfl rfl ?_
  refine z_iconst (pc := 213) (v := 2) dL_law_213 (by decide) ?_
  refine z_iadd (pc := 214) dL_law_214 ?_
  refine q_ldSc (pc := 215) (j := i + 2) (v := rI h 1003 (i + 2)) dL_law_215 hL hL3 (nI_add i 2) (by omega) rfl ?_
  refine z_aload_n (pc := 216) dL_law_216 rfl rfl ?_
  refine z_iload_n (pc := 217) dL_law_217 rfl rfl ?_
  refine z_iconst (pc := 218) (v := 3) dL_law_218 (by decide) ?_
  refine z_iadd (pc := 219) dL_law_219 ?_
  refine q_ldSc (pc := 220) (j := i + 3) (v := rI h 1003 (i + 3)) dL_law_220 hL hL3 (nI_add i 3) (by omega) rfl ?_
  refine z_aload_n (pc := 221) dL_law_221 rfl rfl ?_
  refine z_iload_n (pc := 222) dL_law_222 rfl rfl ?_
  refine z_iconst (pc := 223) (v := 4) dL_law_223 (by decide) ?_
  refine z_iadd (pc := 224) dL_law_224 ?_
  refine q_ldSc (pc := 225) (j := i + 4) (v := rI h 1003 (i + 4)) dL_law_225 hL hL3 (nI_add i 4) (by omega) rfl ?_
  refine q_invV (pc := 226) (As := [.int (rI h 1003 (i + 1)), .int (rI h 1003 (i + 2)), .int (rI h 1003 (i + 3)), .int (rI h 1003 (i + 4))]) (st := []) dL_law_226 ok_X10_thing ml_RL_18 iv_X10_thing pa_X10_thing ⟨Nat.le_of_ble_eq_true rfl, Nat.le_of_ble_eq_true rfl⟩ (lyc rfl) (zw.mono (zsc hL hL3 (sim_thing h hI)) (fun r h1 hr => ?_))
  obtain ⟨⟨v, rfl, G1, S⟩, hL1, hk⟩ := hr
  show zw zNT zNT M_L_law 229 [some (.ref 1003), some (.ref 0), some (.ref 164), some (.int (nI i))] [.int v] h1 Q
  refine z_aload_n (pc := 229) dL_law_229 rfl rfl ?_
  refine z_aload_n (pc := 230) dL_law_230 rfl rfl ?_
  refine z_iload_n (pc := 231) dL_law_231 rfl rfl ?_
  refine z_iconst (pc := 232) (v := 1) dL_law_232 (by decide) ?_
  refine z_iadd (pc := 233) dL_law_233 ?_
  refine q_ldSc (pc := 234) (j := i + 1) (v := rI h 1003 (i + 1)) dL_law_234 hL1 hL3 (nI_add i 1) (by omega) (hk _ (by omega)) ?_
  refine z_aload_n (pc := 235) dL_law_235 rfl rfl ?_
  refine z_iload_n (pc := 236) dL_law_236 rfl rfl ?_
  refine z_iconst (pc := 237) (v := 2) dL_law_237 (by decide) ?_
  refine z_iadd (pc := 238) dL_law_238 ?_
  refine q_ldSc (pc := 239) (j := i + 2) (v := rI h 1003 (i + 2)) dL_law_239 hL1 hL3 (nI_add i 2) (by omega) (hk _ (by omega)) ?_
  refine z_aload_n (pc := 240) dL_law_240 rfl rfl ?_
  refine z_iload_n (pc := 241) dL_law_241 rfl rfl ?_
  refine z_iconst (pc := 242) (v := 3) dL_law_242 (by decide) ?_
  refine z_iadd (pc := 243) dL_law_243 ?_
  refine q_ldSc (pc := 244) (j := i + 3) (v := rI h 1003 (i + 3)) dL_law_244 hL1 hL3 (nI_add i 3) (by omega) (hk _ (by omega)) ?_
  refine z_aload_n (pc := 245) dL_law_245 rfl rfl ?_
  refine z_iload_n (pc := 246) dL_law_246 rfl rfl ?_
  refine z_iconst (pc := 247) (v := 4) dL_law_247 (by decide) ?_
  refine z_iadd (pc := 248) dL_law_248 ?_
  refine q_ldSc (pc := 249) (j := i + 4) (v := rI h 1003 (i + 4)) dL_law_249 hL1 hL3 (nI_add i 4) (by omega) (hk _ (by omega)) ?_
  refine q_invV (pc := 250) (As := [.int (rI h 1003 (i + 1)), .int (rI h 1003 (i + 2)), .int (rI h 1003 (i + 3)), .int (rI h 1003 (i + 4))]) (st := [.int v]) dL_law_250 ok_X11_thing ml_RL_22 iv_X11_thing pa_X11_thing ⟨Nat.le_of_ble_eq_true rfl, Nat.le_of_ble_eq_true rfl⟩ (lyc rfl) (zw.mono (zsc hL1 hL3 S) (fun r h2 hr => ?_))
  obtain ⟨⟨v', rfl, G2, e, hI2⟩, hL2, hk2⟩ := hr
  show zw zNT zNT M_L_law 253 [some (.ref 1003), some (.ref 0), some (.ref 164), some (.int (nI i))] [.int v', .int v] h2 Q
  exact z_icmp_eq (pc := 253) (tgt := 1360) dL_law_253 (by decide) (fun _ => K h2 hI2 hL2) (fun z => absurd e z)
theorem w_of {i L : Nat} {h : zHp} {Q : Option Value → zHp → Prop} (hI : INV h) (hL : rI h 1004 0 = nI L) (hL3 : L ≤ 3072) (hi : i + 6 ≤ L) (K : ∀ h2, INV h2 → rI h2 1004 0 = nI L → zw zNT zNT M_L_law 1360 [some (.ref 1003), some (.ref 0), some (.ref 164), some (.int (nI i))] [] h2 Q) : zw zNT zNT M_L_law 258 [some (.ref 1003), some (.ref 0), some (.ref 164), some (.int (nI i))] [] h Q := by
  refine z_aload_n (pc := 258) dL_law_258 rfl rfl ?_
  refine z_aload_n (pc := 259) dL_law_259 rfl rfl ?_
  refine z_iload_n (pc := 260) dL_law_260 rfl rfl ?_
  refine z_iconst (pc := 261) (v := 1) dL_law_261 (by decide) ?_
  refine z_iadd (pc := 262) dL_law_262 ?_
  refine q_ldSc (pc := 263) (j := i + 1) (v := rI h 1003 (i + 1)) dL_law_263 hL hL3 (nI_add i 1) (by omega) rfl ?_
  refine z_aload_n (pc := 264) dL_law_264 rfl rfl ?_
  refine z_iload_n (pc := 265) dL_law_265 rfl rfl ?_
  refine z_iconst (pc := 266) (v := 2) dL_law_266 (by decide) ?_
  refine z_iadd (pc := 267) dL_law_267 ?_
  refine q_ldSc (pc := 268) (j := i + 2) (v := rI h 1003 (i + 2)) dL_law_268 hL hL3 (nI_add i 2) (by omega) rfl ?_
  refine q_invV (pc := 269) (As := [.int (rI h 1003 (i + 1)), .int (rI h 1003 (i + 2))]) (st := []) dL_law_269 ok_X10_of ml_RL_23 iv_X10_of pa_X10_of ⟨Nat.le_of_ble_eq_true rfl, Nat.le_of_ble_eq_true rfl⟩ (lyc rfl) (zw.mono (zsc hL hL3 (sim_of h hI)) (fun r h1 hr => ?_))
  obtain ⟨⟨v, rfl, G1, S⟩, hL1, hk⟩ := hr
  show zw zNT zNT M_L_law 272 [some (.ref 1003), some (.ref 0), some (.ref 164), some (.int (nI i))] [.int v] h1 Q
  refine z_aload_n (pc := 272) dL_law_272 rfl rfl ?_
  refine z_aload_n (pc := 273) dL_law_273 rfl rfl ?_
  refine z_iload_n (pc := 274) dL_law_274 rfl rfl ?_
  refine z_iconst (pc := 275) (v := 1) dL_law_275 (by decide) ?_
  refine z_iadd (pc := 276) dL_law_276 ?_
  refine q_ldSc (pc := 277) (j := i + 1) (v := rI h 1003 (i + 1)) dL_law_277 hL1 hL3 (nI_add i 1) (by omega) (hk _ (by omega)) ?_
  refine z_aload_n (pc := 278) dL_law_278 rfl rfl ?_
  refine z_iload_n (pc := 279) dL_law_279 rfl rfl ?_
  refine z_iconst (pc := 280) (v := 2) dL_law_280 (by decide) ?_
  refine z_iadd (pc := 281) dL_law_281 ?_
  refine q_ldSc (pc := 282) (j := i + 2) (v := rI h 1003 (i + 2)) dL_law_282 hL1 hL3 (nI_add i 2) (by omega) (hk _ (by omega)) ?_
  refine q_invV (pc := 283) (As := [.int (rI h 1003 (i + 1)), .int (rI h 1003 (i + 2))]) (st := [.int v]) dL_law_283 ok_X11_of ml_RL_27 iv_X11_of pa_X11_of ⟨Nat.le_of_ble_eq_true rfl, Nat.le_of_ble_eq_true rfl⟩ (lyc rfl) (zw.mono (zsc hL1 hL3 S) (fun r h2 hr => ?_))
  obtain ⟨⟨v', rfl, G2, e, hI2⟩, hL2, hk2⟩ := hr
  show zw zNT zNT M_L_law 286 [some (.ref 1003), some (.ref 0), some (.ref 164), some (.int (nI i))] [.int v', .int v] h2 Q
  exact z_icmp_eq (pc := 286) (tgt := 1360) dL_law_286 (by decide) (fun _ => K h2 hI2 hL2) (fun z => absurd e z)
theorem w_now {i L : Nat} {h : zHp} {Q : Option Value → zHp → Prop} (hI : INV h) (hL : rI h 1004 0 = nI L) (hL3 : L ≤ 3072) (hi : i + 6 ≤ L) (K : ∀ h2, INV h2 → rI h2 1004 0 = nI L → zw zNT zNT M_L_law 1360 [some (.ref 1003), some (.ref 0), some (.ref 164), some (.int (nI i))] [] h2 Q) : zw zNT zNT M_L_law 291 [some (.ref 1003), some (.ref 0), some (.ref 164), some (.int (nI i))] [] h Q := by
  refine z_aload_n (pc := 291) dL_law_291 rfl rfl ?_
  refine z_aload_n (pc := 292) dL_law_292 rfl rfl ?_
  refine z_iload_n (pc := 293) dL_law_293 rfl rfl ?_
  refine z_iconst (pc := 294) (v := 1) dL_law_294 (by decide) ?_
  refine z_iadd (pc := 295) dL_law_295 ?_
  refine q_ldSc (pc := 296) (j := i + 1) (v := rI h 1003 (i + 1)) dL_law_296 hL hL3 (nI_add i 1) (by omega) rfl ?_
  refine z_aload_n (pc := 297) dL_law_297 rfl rfl ?_
  refine z_iload_n (pc := 298) dL_law_298 rfl rfl ?_
  refine z_iconst (pc := 299) (v := 2) dL_law_299 (by decide) ?_
  refine z_iadd (pc := 300) dL_law_300 ?_
  refine q_ldSc (pc := 301) (j := i + 2) (v := rI h 1003 (i + 2)) dL_law_301 hL hL3 (nI_add i 2) (by omega) rfl ?_
  refine q_invV (pc := 302) (As := [.int (rI h 1003 (i + 1)), .int (rI h 1003 (i + 2))]) (st := []) dL_law_302 ok_X10_now ml_RL_28 iv_X10_now pa_X10_now ⟨Nat.le_of_ble_eq_true rfl, Nat.le_of_ble_eq_true rfl⟩ (lyc rfl) (zw.mono (zsc hL hL3 (sim_now h hI)) (fun r h1 hr => ?_))
  obtain ⟨⟨v, rfl, G1, S⟩, hL1, hk⟩ := hr
  show zw zNT zNT M_L_law 305 [some (.ref 1003), some (.ref 0), some (.ref 164), some (.int (nI i))] [.int v] h1 Q
  refine z_aload_n (pc := 305) dL_law_305 rfl rfl ?_
  refine z_aload_n (pc := 306) dL_law_306 rfl rfl ?_
  refine z_iload_n (pc := 307) dL_law_307 rfl rfl ?_
  refine z_iconst (pc := 308) (v := 1) dL_law_308 (by decide) ?_
  refine z_iadd (pc := 309) dL_law_309 ?_
  refine q_ldSc (pc := 310) (j := i + 1) (v := rI h 1003 (i + 1)) dL_law_310 hL1 hL3 (nI_add i 1) (by omega) (hk _ (by omega)) ?_
  refine z_aload_n (pc := 311) dL_law_311 rfl rfl ?_
  refine z_iload_n (pc := 312) dL_law_312 rfl rfl ?_
  refine z_iconst (pc := 313) (v := 2) dL_law_313 (by decide) ?_
  refine z_iadd (pc := 314) dL_law_314 ?_
  refine q_ldSc (pc := 315) (j := i + 2) (v := rI h 1003 (i + 2)) dL_law_315 hL1 hL3 (nI_add i 2) (by omega) (hk _ (by omega)) ?_
  refine q_invV (pc := 316) (As := [.int (rI h 1003 (i + 1)), .int (rI h 1003 (i + 2))]) (st := [.int v]) dL_law_316 ok_X11_now ml_RL_31 iv_X11_now pa_X11_now ⟨Nat.le_of_ble_eq_true rfl, Nat.le_of_ble_eq_true rfl⟩ (lyc rfl) (zw.mono (zsc hL1 hL3 S) (fun r h2 hr => ?_))
  obtain ⟨⟨v', rfl, G2, e, hI2⟩, hL2, hk2⟩ := hr
  show zw zNT zNT M_L_law 319 [some (.ref 1003), some (.ref 0), some (.ref 164), some (.int (nI i))] [.int v', .int v] h2 Q
  exact z_icmp_eq (pc := 319) (tgt := 1360) dL_law_319 (by decide) (fun _ => K h2 hI2 hL2) (fun z => absurd e z)
theorem w_set {i L : Nat} {h : zHp} {Q : Option Value → zHp → Prop} (hI : INV h) (hL : rI h 1004 0 = nI L) (hL3 : L ≤ 3072) (hi : i + 6 ≤ L) (K : ∀ h2, INV h2 → rI h2 1004 0 = nI L → zw zNT zNT M_L_law 1360 [some (.ref 1003), some (.ref 0), some (.ref 164), some (.int (nI i))] [] h2 Q) : zw zNT zNT M_L_law 324 [some (.ref 1003), some (.ref 0), some (.ref 164), some (.int (nI i))] [] h Q := by
  refine z_aload_n (pc := 324) dL_law_324 rfl rfl ?_
  refine z_aload_n (pc := 325) dL_law_325 rfl rfl ?_
  refine z_iload_n (pc := 326) dL_law_326 rfl rfl ?_
  refine z_iconst (pc := 327) (v := 1) dL_law_327 (by decide) ?_
  refine z_iadd (pc := 328) dL_law_328 ?_
  refine q_ldSc (pc := 329) (j := i + 1) (v := rI h 1003 (i + 1)) dL_law_329 hL hL3 (nI_add i 1) (by omega) rfl ?_
  refine z_aload_n (pc := 330) dL_law_330 rfl rfl ?_
  refine z_iload_n (pc := 331) dL_law_331 rfl rfl ?_
  refine z_iconst (pc := 332) (v := 2) dL_law_332 (by decide) ?_
  refine z_iadd (pc := 333) dL_law_333 ?_
  refine q_ldSc (pc := 334) (j := i + 2) (v := rI h 1003 (i + 2)) dL_law_334 hL hL3 (nI_add i 2) (by omega) rfl ?_
  refine z_aload_n (pc := 335) dL_law_335 rfl rfl ?_
  refine z_iload_n (pc := 336) dL_law_336 rfl rfl ?_
  refine z_iconst (pc := 337) (v := 3) dL_law_337 (by decide) ?_
  refine z_iadd (pc := 338) dL_law_338 ?_
  refine q_ldSc (pc := 339) (j := i + 3) (v := rI h 1003 (i + 3)) dL_law_339 hL hL3 (nI_add i 3) (by omega) rfl ?_
  refine q_invV (pc := 340) (As := [.int (rI h 1003 (i + 1)), .int (rI h 1003 (i + 2)), .int (rI h 1003 (i + 3))]) (st := []) dL_law_340 ok_X10_set ml_RL_32 iv_X10_set pa_X10_set ⟨Nat.le_of_ble_eq_true rfl, Nat.le_of_ble_eq_true rfl⟩ (lyc rfl) (zw.mono (zsc hL hL3 (sim_set h hI)) (fun r h1 hr => ?_))
  obtain ⟨⟨v, rfl, G1, S⟩, hL1, hk⟩ := hr
  show zw zNT zNT M_L_law 343 [some (.ref 1003), some (.ref 0), some (.ref 164), some (.int (nI i))] [.int v] h1 Q
  refine z_aload_n (pc := 343) dL_law_343 rfl rfl ?_
  refine z_aload_n (pc := 344) dL_law_344 rfl rfl ?_
  refine z_iload_n (pc := 345) dL_law_345 rfl rfl ?_
  refine z_iconst (pc := 346) (v := 1) dL_law_346 (by decide) ?_
  refine z_iadd (pc := 347) dL_law_347 ?_
  refine q_ldSc (pc := 348) (j := i + 1) (v := rI h 1003 (i + 1)) dL_law_348 hL1 hL3 (nI_add i 1) (by omega) (hk _ (by omega)) ?_
  refine z_aload_n (pc := 349) dL_law_349 rfl rfl ?_
  refine z_iload_n (pc := 350) dL_law_350 rfl rfl ?_
  refine z_iconst (pc := 351) (v := 2) dL_law_351 (by decide) ?_
  refine z_iadd (pc := 352) dL_law_352 ?_
  refine q_ldSc (pc := 353) (j := i + 2) (v := rI h 1003 (i + 2)) dL_law_353 hL1 hL3 (nI_add i 2) (by omega) (hk _ (by omega)) ?_
  refine z_aload_n (pc := 354) dL_law_354 rfl rfl ?_
  refine z_iload_n (pc := 355) dL_law_355 rfl rfl ?_
  refine z_iconst (pc := 356) (v := 3) dL_law_356 (by decide) ?_
  refine z_iadd (pc := 357) dL_law_357 ?_
  refine q_ldSc (pc := 358) (j := i + 3) (v := rI h 1003 (i + 3)) dL_law_358 hL1 hL3 (nI_add i 3) (by omega) (hk _ (by omega)) ?_
  refine q_invV (pc := 359) (As := [.int (rI h 1003 (i + 1)), .int (rI h 1003 (i + 2)), .int (rI h 1003 (i + 3))]) (st := [.int v]) dL_law_359 ok_X11_set ml_RL_36 iv_X11_set pa_X11_set ⟨Nat.le_of_ble_eq_true rfl, Nat.le_of_ble_eq_true rfl⟩ (lyc rfl) (zw.mono (zsc hL1 hL3 S) (fun r h2 hr => ?_))
  obtain ⟨⟨v', rfl, G2, e, hI2⟩, hL2, hk2⟩ := hr
  show zw zNT zNT M_L_law 362 [some (.ref 1003), some (.ref 0), some (.ref 164), some (.int (nI i))] [.int v', .int v] h2 Q
  exact z_icmp_eq (pc := 362) (tgt := 1360) dL_law_362 (by decide) (fun _ => K h2 hI2 hL2) (fun z => absurd e z)
theorem w_scope {i L : Nat} {h : zHp} {Q : Option Value → zHp → Prop} (hI : INV h) (hL : rI h 1004 0 = nI L) (hL3 : L ≤ 3072) (hi : i + 6 ≤ L) (K : ∀ h2, INV h2 → rI h2 1004 0 = nI L → zw zNT zNT M_L_law 1360 [some (.ref 1003), some (.ref 0), some (.ref 164), some (.int (nI i))] [] h2 Q) : zw zNT zNT M_L_law 367 [some (.ref 1003), some (.ref 0), some (.ref 164), some (.int (nI i))] [] h Q := by
  refine z_aload_n (pc := 367) dL_law_367 rfl rfl ?_
  refine z_aload_n (pc := 368) dL_law_368 rfl rfl ?_
  refine z_iload_n (pc := 369) dL_law_369 rfl rfl ?_
  refine z_iconst (pc := 370) (v := 1) dL_law_370 (by decide) ?_
  refine z_iadd (pc := 371) dL_law_371 ?_
  refine q_ldSc (pc := 372) (j := i + 1) (v := rI h 1003 (i + 1)) dL_law_372 hL hL3 (nI_add i 1) (by omega) rfl ?_
  refine z_aload_n (pc := 373) dL_law_373 rfl rfl ?_
  refine z_iload_n (pc := 374) dL_law_374 rfl rfl ?_
  refine z_iconst (pc := 375) (v := 2) dL_law_375 (by decide) ?_
  refine z_iadd (pc := 376) dL_law_376 ?_
  refine q_ldSc (pc := 377) (j := i + 2) (v := rI h 1003 (i + 2)) dL_law_377 hL hL3 (nI_add i 2) (by omega) rfl ?_
  refine q_invV (pc := 378) (As := [.int (rI h 1003 (i + 1)), .int (rI h 1003 (i + 2))]) (st := []) dL_law_378 ok_X10_scope ml_RL_37 iv_X10_scope pa_X10_scope ⟨Nat.le_of_ble_eq_true rfl, Nat.le_of_ble_eq_true rfl⟩ (lyc rfl) (zw.mono (zsc hL hL3 (sim_scope h hI)) (fun r h1 hr => ?_))
  obtain ⟨⟨v, rfl, G1, S⟩, hL1, hk⟩ := hr
  show zw zNT zNT M_L_law 381 [some (.ref 1003), some (.ref 0), some (.ref 164), some (.int (nI i))] [.int v] h1 Q
  refine z_aload_n (pc := 381) dL_law_381 rfl rfl ?_
  refine z_aload_n (pc := 382) dL_law_382 rfl rfl ?_
  refine z_iload_n (pc := 383) dL_law_383 rfl rfl ?_
  refine z_iconst (pc := 384) (v := 1) dL_law_384 (by decide) ?_
  refine z_iadd (pc := 385) dL_law_385 ?_
  refine q_ldSc (pc := 386) (j := i + 1) (v := rI h 1003 (i + 1)) dL_law_386 hL1 hL3 (nI_add i 1) (by omega) (hk _ (by omega)) ?_
  refine z_aload_n (pc := 387) dL_law_387 rfl rfl ?_
  refine z_iload_n (pc := 388) dL_law_388 rfl rfl ?_
  refine z_iconst (pc := 389) (v := 2) dL_law_389 (by decide) ?_
  refine z_iadd (pc := 390) dL_law_390 ?_
  refine q_ldSc (pc := 391) (j := i + 2) (v := rI h 1003 (i + 2)) dL_law_391 hL1 hL3 (nI_add i 2) (by omega) (hk _ (by omega)) ?_
  refine q_invV (pc := 392) (As := [.int (rI h 1003 (i + 1)), .int (rI h 1003 (i + 2))]) (st := [.int v]) dL_law_392 ok_X11_scope ml_RL_40 iv_X11_scope pa_X11_scope ⟨Nat.le_of_ble_eq_true rfl, Nat.le_of_ble_eq_true rfl⟩ (lyc rfl) (zw.mono (zsc hL1 hL3 S) (fun r h2 hr => ?_))
  obtain ⟨⟨v', rfl, G2, e, hI2⟩, hL2, hk2⟩ := hr
  show zw zNT zNT M_L_law 395 [some (.ref 1003), some (.ref 0), some (.ref 164), some (.int (nI i))] [.int v', .int v] h2 Q
  exact z_icmp_eq (pc := 395) (tgt := 1360) dL_law_395 (by decide) (fun _ => K h2 hI2 hL2) (fun z => absurd e z)
theorem w_effect {i L : Nat} {h : zHp} {Q : Option Value → zHp → Prop} (hI : INV h) (hL : rI h 1004 0 = nI L) (hL3 : L ≤ 3072) (hi : i + 6 ≤ L) (K : ∀ h2, INV h2 → rI h2 1004 0 = nI L → zw zNT zNT M_L_law 1360 [some (.ref 1003), some (.ref 0), some (.ref 164), some (.int (nI i))] [] h2 Q) : zw zNT zNT M_L_law 400 [some (.ref 1003), some (.ref 0), some (.ref 164), some (.int (nI i))] [] h Q := by
  refine z_aload_n (pc := 400) dL_law_400 rfl rfl ?_
  refine z_aload_n (pc := 401) dL_law_401 rfl rfl ?_
  refine z_iload_n (pc := 402) dL_law_402 rfl rfl ?_
  refine z_iconst (pc := 403) (v := 1) dL_law_403 (by decide) ?_
  refine z_iadd (pc := 404) dL_law_404 ?_
  refine q_ldSc (pc := 405) (j := i + 1) (v := rI h 1003 (i + 1)) dL_law_405 hL hL3 (nI_add i 1) (by omega) rfl ?_
  refine z_aload_n (pc := 406) dL_law_406 rfl rfl ?_
  refine z_iload_n (pc := 407) dL_law_407 rfl rfl ?_
  refine z_iconst (pc := 408) (v := 2) dL_law_408 (by decide) ?_
  refine z_iadd (pc := 409) dL_law_409 ?_
  refine q_ldSc (pc := 410) (j := i + 2) (v := rI h 1003 (i + 2)) dL_law_410 hL hL3 (nI_add i 2) (by omega) rfl ?_
  refine z_aload_n (pc := 411) dL_law_411 rfl rfl ?_
  refine z_iload_n (pc := 412) dL_law_412 rfl rfl ?_
  refine z_iconst (pc := 413) (v := 3) dL_law_413 (by decide) ?_
  refine z_iadd (pc := 414) dL_law_414 ?_
  refine q_ldSc (pc := 415) (j := i + 3) (v := rI h 1003 (i + 3)) dL_law_415 hL hL3 (nI_add i 3) (by omega) rfl ?_
  refine z_aload_n (pc := 416) dL_law_416 rfl rfl ?_
  refine z_iload_n (pc := 417) dL_law_417 rfl rfl ?_
  refine z_iconst (pc := 418) (v := 4) dL_law_418 (by decide) ?_
  refine z_iadd (pc := 419) dL_law_419 ?_
  refine q_ldSc (pc := 420) (j := i + 4) (v := rI h 1003 (i + 4)) dL_law_420 hL hL3 (nI_add i 4) (by omega) rfl ?_
  refine z_aload_n (pc := 421) dL_law_421 rfl rfl ?_
  refine z_iload_n (pc := 422) dL_law_422 rfl rfl ?_
  refine z_iconst (pc := 423) (v := 5) dL_law_423 (by decide) ?_
  refine z_iadd (pc := 424) dL_law_424 ?_
  refine q_ldSc (pc := 425) (j := i + 5) (v := rI h 1003 (i + 5)) dL_law_425 hL hL3 (nI_add i 5) (by omega) rfl ?_
  refine q_invV (pc := 426) (As := [.int (rI h 1003 (i + 1)), .int (rI h 1003 (i + 2)), .int (rI h 1003 (i + 3)), .int (rI h 1003 (i + 4)), .int (rI h 1003 (i + 5))]) (st := []) dL_law_426 ok_X10_effect ml_RL_41 iv_X10_effect pa_X10_effect ⟨Nat.le_of_ble_eq_true rfl, Nat.le_of_ble_eq_true rfl⟩ (lyc rfl) (zw.mono (zsc hL hL3 (sim_effect h hI)) (fun r h1 hr => ?_))
  obtain ⟨⟨v, rfl, G1, S⟩, hL1, hk⟩ := hr
  show zw zNT zNT M_L_law 429 [some (.ref 1003), some (.ref 0), some (.ref 164), some (.int (nI i))] [.int v] h1 Q
  refine z_aload_n (pc := 429) dL_law_429 rfl rfl ?_
  refine z_aload_n (pc := 430) dL_law_430 rfl rfl ?_
  refine z_iload_n (pc := 431) dL_law_431 rfl rfl ?_
  refine z_iconst (pc := 432) (v := 1) dL_law_432 (by decide) ?_
  refine z_iadd (pc := 433) dL_law_433 ?_
  refine q_ldSc (pc := 434) (j := i + 1) (v := rI h 1003 (i + 1)) dL_law_434 hL1 hL3 (nI_add i 1) (by omega) (hk _ (by omega)) ?_
  refine z_aload_n (pc := 435) dL_law_435 rfl rfl ?_
  refine z_iload_n (pc := 436) dL_law_436 rfl rfl ?_
  refine z_iconst (pc := 437) (v := 2) dL_law_437 (by decide) ?_
  refine z_iadd (pc := 438) dL_law_438 ?_
  refine q_ldSc (pc := 439) (j := i + 2) (v := rI h 1003 (i + 2)) dL_law_439 hL1 hL3 (nI_add i 2) (by omega) (hk _ (by omega)) ?_
  refine z_aload_n (pc := 440) dL_law_440 rfl rfl ?_
  refine z_iload_n (pc := 441) dL_law_441 rfl rfl ?_
  refine z_iconst (pc := 442) (v := 3) dL_law_442 (by decide) ?_
  refine z_iadd (pc := 443) dL_law_443 ?_
  refine q_ldSc (pc := 444) (j := i + 3) (v := rI h 1003 (i + 3)) dL_law_444 hL1 hL3 (nI_add i 3) (by omega) (hk _ (by omega)) ?_
  refine z_aload_n (pc := 445) dL_law_445 rfl rfl ?_
  refine z_iload_n (pc := 446) dL_law_446 rfl rfl ?_
  refine z_iconst (pc := 447) (v := 4) dL_law_447 (by decide) ?_
  refine z_iadd (pc := 448) dL_law_448 ?_
  refine q_ldSc (pc := 449) (j := i + 4) (v := rI h 1003 (i + 4)) dL_law_449 hL1 hL3 (nI_add i 4) (by omega) (hk _ (by omega)) ?_
  refine z_aload_n (pc := 450) dL_law_450 rfl rfl ?_
  refine z_iload_n (pc := 451) dL_law_451 rfl rfl ?_
  refine z_iconst (pc := 452) (v := 5) dL_law_452 (by decide) ?_
  refine z_iadd (pc := 453) dL_law_453 ?_
  refine q_ldSc (pc := 454) (j := i + 5) (v := rI h 1003 (i + 5)) dL_law_454 hL1 hL3 (nI_add i 5) (by omega) (hk _ (by omega)) ?_
  refine q_invV (pc := 455) (As := [.int (rI h 1003 (i + 1)), .int (rI h 1003 (i + 2)), .int (rI h 1003 (i + 3)), .int (rI h 1003 (i + 4)), .int (rI h 1003 (i + 5))]) (st := [.int v]) dL_law_455 ok_X11_effect ml_RL_45 iv_X11_effect pa_X11_effect ⟨Nat.le_of_ble_eq_true rfl, Nat.le_of_ble_eq_true rfl⟩ (lyc rfl) (zw.mono (zsc hL1 hL3 S) (fun r h2 hr => ?_))
  obtain ⟨⟨v', rfl, G2, e, hI2⟩, hL2, hk2⟩ := hr
  show zw zNT zNT M_L_law 458 [some (.ref 1003), some (.ref 0), some (.ref 164), some (.int (nI i))] [.int v', .int v] h2 Q
  exact z_icmp_eq (pc := 458) (tgt := 1360) dL_law_458 (by decide) (fun _ => K h2 hI2 hL2) (fun z => absurd e z)
theorem w_source {i L : Nat} {h : zHp} {Q : Option Value → zHp → Prop} (hI : INV h) (hL : rI h 1004 0 = nI L) (hL3 : L ≤ 3072) (hi : i + 6 ≤ L) (K : ∀ h2, INV h2 → rI h2 1004 0 = nI L → zw zNT zNT M_L_law 1360 [some (.ref 1003), some (.ref 0), some (.ref 164), some (.int (nI i))] [] h2 Q) : zw zNT zNT M_L_law 463 [some (.ref 1003), some (.ref 0), some (.ref 164), some (.int (nI i))] [] h Q := by
  refine z_aload_n (pc := 463) dL_law_463 rfl rfl ?_
  refine z_aload_n (pc := 464) dL_law_464 rfl rfl ?_
  refine z_iload_n (pc := 465) dL_law_465 rfl rfl ?_
  refine z_iconst (pc := 466) (v := 1) dL_law_466 (by decide) ?_
  refine z_iadd (pc := 467) dL_law_467 ?_
  refine q_ldSc (pc := 468) (j := i + 1) (v := rI h 1003 (i + 1)) dL_law_468 hL hL3 (nI_add i 1) (by omega) rfl ?_
  refine z_aload_n (pc := 469) dL_law_469 rfl rfl ?_
  refine z_iload_n (pc := 470) dL_law_470 rfl rfl ?_
  refine z_iconst (pc := 471) (v := 2) dL_law_471 (by decide) ?_
  refine z_iadd (pc := 472) dL_law_472 ?_
  refine q_ldSc (pc := 473) (j := i + 2) (v := rI h 1003 (i + 2)) dL_law_473 hL hL3 (nI_add i 2) (by omega) rfl ?_
  refine q_invV (pc := 474) (As := [.int (rI h 1003 (i + 1)), .int (rI h 1003 (i + 2))]) (st := []) dL_law_474 ok_X10_source ml_RL_46 iv_X10_source pa_X10_source ⟨Nat.le_of_ble_eq_true rfl, Nat.le_of_ble_eq_true rfl⟩ (lyc rfl) (zw.mono (zsc hL hL3 (sim_source h hI)) (fun r h1 hr => ?_))
  obtain ⟨⟨v, rfl, G1, S⟩, hL1, hk⟩ := hr
  show zw zNT zNT M_L_law 477 [some (.ref 1003), some (.ref 0), some (.ref 164), some (.int (nI i))] [.int v] h1 Q
  refine z_aload_n (pc := 477) dL_law_477 rfl rfl ?_
  refine z_aload_n (pc := 478) dL_law_478 rfl rfl ?_
  refine z_iload_n (pc := 479) dL_law_479 rfl rfl ?_
  refine z_iconst (pc := 480) (v := 1) dL_law_480 (by decide) ?_
  refine z_iadd (pc := 481) dL_law_481 ?_
  refine q_ldSc (pc := 482) (j := i + 1) (v := rI h 1003 (i + 1)) dL_law_482 hL1 hL3 (nI_add i 1) (by omega) (hk _ (by omega)) ?_
  refine z_aload_n (pc := 483) dL_law_483 rfl rfl ?_
  refine z_iload_n (pc := 484) dL_law_484 rfl rfl ?_
  refine z_iconst (pc := 485) (v := 2) dL_law_485 (by decide) ?_
  refine z_iadd (pc := 486) dL_law_486 ?_
  refine q_ldSc (pc := 487) (j := i + 2) (v := rI h 1003 (i + 2)) dL_law_487 hL1 hL3 (nI_add i 2) (by omega) (hk _ (by omega)) ?_
  refine q_invV (pc := 488) (As := [.int (rI h 1003 (i + 1)), .int (rI h 1003 (i + 2))]) (st := [.int v]) dL_law_488 ok_X11_source ml_RL_49 iv_X11_source pa_X11_source ⟨Nat.le_of_ble_eq_true rfl, Nat.le_of_ble_eq_true rfl⟩ (lyc rfl) (zw.mono (zsc hL1 hL3 S) (fun r h2 hr => ?_))
  obtain ⟨⟨v', rfl, G2, e, hI2⟩, hL2, hk2⟩ := hr
  show zw zNT zNT M_L_law 491 [some (.ref 1003), some (.ref 0), some (.ref 164), some (.int (nI i))] [.int v', .int v] h2 Q
  exact z_icmp_eq (pc := 491) (tgt := 1360) dL_law_491 (by decide) (fun _ => K h2 hI2 hL2) (fun z => absurd e z)
theorem w_lasts {i L : Nat} {h : zHp} {Q : Option Value → zHp → Prop} (hI : INV h) (hL : rI h 1004 0 = nI L) (hL3 : L ≤ 3072) (hi : i + 6 ≤ L) (K : ∀ h2, INV h2 → rI h2 1004 0 = nI L → zw zNT zNT M_L_law 1360 [some (.ref 1003), some (.ref 0), some (.ref 164), some (.int (nI i))] [] h2 Q) : zw zNT zNT M_L_law 496 [some (.ref 1003), some (.ref 0), some (.ref 164), some (.int (nI i))] [] h Q := by
  refine z_aload_n (pc := 496) dL_law_496 rfl rfl ?_
  refine z_aload_n (pc := 497) dL_law_497 rfl rfl ?_
  refine z_iload_n (pc := 498) dL_law_498 rfl rfl ?_
  refine z_iconst (pc := 499) (v := 1) dL_law_499 (by decide) ?_
  refine z_iadd (pc := 500) dL_law_500 ?_
  refine q_ldSc (pc := 501) (j := i + 1) (v := rI h 1003 (i + 1)) dL_law_501 hL hL3 (nI_add i 1) (by omega) rfl ?_
  refine z_aload_n (pc := 502) dL_law_502 rfl rfl ?_
  refine z_iload_n (pc := 503) dL_law_503 rfl rfl ?_
  refine z_iconst (pc := 504) (v := 2) dL_law_504 (by decide) ?_
  refine z_iadd (pc := 505) dL_law_505 ?_
  refine q_ldSc (pc := 506) (j := i + 2) (v := rI h 1003 (i + 2)) dL_law_506 hL hL3 (nI_add i 2) (by omega) rfl ?_
  refine q_invV (pc := 507) (As := [.int (rI h 1003 (i + 1)), .int (rI h 1003 (i + 2))]) (st := []) dL_law_507 ok_X10_lasts ml_RL_50 iv_X10_lasts pa_X10_lasts ⟨Nat.le_of_ble_eq_true rfl, Nat.le_of_ble_eq_true rfl⟩ (lyc rfl) (zw.mono (zsc hL hL3 (sim_lasts h hI)) (fun r h1 hr => ?_))
  obtain ⟨⟨v, rfl, G1, S⟩, hL1, hk⟩ := hr
  show zw zNT zNT M_L_law 510 [some (.ref 1003), some (.ref 0), some (.ref 164), some (.int (nI i))] [.int v] h1 Q
  refine z_aload_n (pc := 510) dL_law_510 rfl rfl ?_
  refine z_aload_n (pc := 511) dL_law_511 rfl rfl ?_
  refine z_iload_n (pc := 512) dL_law_512 rfl rfl ?_
  refine z_iconst (pc := 513) (v := 1) dL_law_513 (by decide) ?_
  refine z_iadd (pc := 514) dL_law_514 ?_
  refine q_ldSc (pc := 515) (j := i + 1) (v := rI h 1003 (i + 1)) dL_law_515 hL1 hL3 (nI_add i 1) (by omega) (hk _ (by omega)) ?_
  refine z_aload_n (pc := 516) dL_law_516 rfl rfl ?_
  refine z_iload_n (pc := 517) dL_law_517 rfl rfl ?_
  refine z_iconst (pc := 518) (v := 2) dL_law_518 (by decide) ?_
  refine z_iadd (pc := 519) dL_law_519 ?_
  refine q_ldSc (pc := 520) (j := i + 2) (v := rI h 1003 (i + 2)) dL_law_520 hL1 hL3 (nI_add i 2) (by omega) (hk _ (by omega)) ?_
  refine q_invV (pc := 521) (As := [.int (rI h 1003 (i + 1)), .int (rI h 1003 (i + 2))]) (st := [.int v]) dL_law_521 ok_X11_lasts ml_RL_53 iv_X11_lasts pa_X11_lasts ⟨Nat.le_of_ble_eq_true rfl, Nat.le_of_ble_eq_true rfl⟩ (lyc rfl) (zw.mono (zsc hL1 hL3 S) (fun r h2 hr => ?_))
  obtain ⟨⟨v', rfl, G2, e, hI2⟩, hL2, hk2⟩ := hr
  show zw zNT zNT M_L_law 524 [some (.ref 1003), some (.ref 0), some (.ref 164), some (.int (nI i))] [.int v', .int v] h2 Q
  exact z_icmp_eq (pc := 524) (tgt := 1360) dL_law_524 (by decide) (fun _ => K h2 hI2 hL2) (fun z => absurd e z)
theorem w_ends {i L : Nat} {h : zHp} {Q : Option Value → zHp → Prop} (hI : INV h) (hL : rI h 1004 0 = nI L) (hL3 : L ≤ 3072) (hi : i + 6 ≤ L) (K : ∀ h2, INV h2 → rI h2 1004 0 = nI L → zw zNT zNT M_L_law 1360 [some (.ref 1003), some (.ref 0), some (.ref 164), some (.int (nI i))] [] h2 Q) : zw zNT zNT M_L_law 529 [some (.ref 1003), some (.ref 0), some (.ref 164), some (.int (nI i))] [] h Q := by
  refine z_aload_n (pc := 529) dL_law_529 rfl rfl ?_
  refine z_aload_n (pc := 530) dL_law_530 rfl rfl ?_
  refine z_iload_n (pc := 531) dL_law_531 rfl rfl ?_
  refine z_iconst (pc := 532) (v := 1) dL_law_532 (by decide) ?_
  refine z_iadd (pc := 533) dL_law_533 ?_
  refine q_ldSc (pc := 534) (j := i + 1) (v := rI h 1003 (i + 1)) dL_law_534 hL hL3 (nI_add i 1) (by omega) rfl ?_
  refine q_invV (pc := 535) (As := [.int (rI h 1003 (i + 1))]) (st := []) dL_law_535 ok_X10_ends ml_RL_54 iv_X10_ends pa_X10_ends ⟨Nat.le_of_ble_eq_true rfl, Nat.le_of_ble_eq_true rfl⟩ (lyc rfl) (zw.mono (zsc hL hL3 (sim_ends h hI)) (fun r h1 hr => ?_))
  obtain ⟨⟨v, rfl, G1, S⟩, hL1, hk⟩ := hr
  show zw zNT zNT M_L_law 538 [some (.ref 1003), some (.ref 0), some (.ref 164), some (.int (nI i))] [.int v] h1 Q
  refine z_aload_n (pc := 538) dL_law_538 rfl rfl ?_
  refine z_aload_n (pc := 539) dL_law_539 rfl rfl ?_
  refine z_iload_n (pc := 540) dL_law_540 rfl rfl ?_
  refine z_iconst (pc := 541) (v := 1) dL_law_541 (by decide) ?_
  refine z_iadd (pc := 542) dL_law_542 ?_
  refine q_ldSc (pc := 543) (j := i + 1) (v := rI h 1003 (i + 1)) dL_law_543 hL1 hL3 (nI_add i 1) (by omega) (hk _ (by omega)) ?_
  refine q_invV (pc := 544) (As := [.int (rI h 1003 (i + 1))]) (st := [.int v]) dL_law_544 ok_X11_ends ml_RL_58 iv_X11_ends pa_X11_ends ⟨Nat.le_of_ble_eq_true rfl, Nat.le_of_ble_eq_true rfl⟩ (lyc rfl) (zw.mono (zsc hL1 hL3 S) (fun r h2 hr => ?_))
  obtain ⟨⟨v', rfl, G2, e, hI2⟩, hL2, hk2⟩ := hr
  show zw zNT zNT M_L_law 547 [some (.ref 1003), some (.ref 0), some (.ref 164), some (.int (nI i))] [.int v', .int v] h2 Q
  exact z_icmp_eq (pc := 547) (tgt := 1360) dL_law_547 (by decide) (fun _ => K h2 hI2 hL2) (fun z => absurd e z)
theorem w_order {i L : Nat} {h : zHp} {Q : Option Value → zHp → Prop} (hI : INV h) (hL : rI h 1004 0 = nI L) (hL3 : L ≤ 3072) (hi : i + 6 ≤ L) (K : ∀ h2, INV h2 → rI h2 1004 0 = nI L → zw zNT zNT M_L_law 1360 [some (.ref 1003), some (.ref 0), some (.ref 164), some (.int (nI i))] [] h2 Q) : zw zNT zNT M_L_law 552 [some (.ref 1003), some (.ref 0), some (.ref 164), some (.int (nI i))] [] h Q := by
  refine z_aload_n (pc := 552) dL_law_552 rfl rfl ?_
  refine z_aload_n (pc := 553) dL_law_553 rfl rfl ?_
  refine z_iload_n (pc := 554) dL_law_554 rfl rfl ?_
  refine z_iconst (pc := 555) (v := 1) dL_law_555 (by decide) ?_
  refine z_iadd (pc := 556) dL_law_556 ?_
  refine q_ldSc (pc := 557) (j := i + 1) (v := rI h 1003 (i + 1)) dL_law_557 hL hL3 (nI_add i 1) (by omega) rfl ?_
  refine q_invV (pc := 558) (As := [.int (rI h 1003 (i + 1))]) (st := []) dL_law_558 ok_X10_order ml_RL_59 iv_X10_order pa_X10_order ⟨Nat.le_of_ble_eq_true rfl, Nat.le_of_ble_eq_true rfl⟩ (lyc rfl) (zw.mono (zsc hL hL3 (sim_order h hI)) (fun r h1 hr => ?_))
  obtain ⟨⟨v, rfl, G1, S⟩, hL1, hk⟩ := hr
  show zw zNT zNT M_L_law 561 [some (.ref 1003), some (.ref 0), some (.ref 164), some (.int (nI i))] [.int v] h1 Q
  refine z_aload_n (pc := 561) dL_law_561 rfl rfl ?_
  refine z_aload_n (pc := 562) dL_law_562 rfl rfl ?_
  refine z_iload_n (pc := 563) dL_law_563 rfl rfl ?_
  refine z_iconst (pc := 564) (v := 1) dL_law_564 (by decide) ?_
  refine z_iadd (pc := 565) dL_law_565 ?_
  refine q_ldSc (pc := 566) (j := i + 1) (v := rI h 1003 (i + 1)) dL_law_566 hL1 hL3 (nI_add i 1) (by omega) (hk _ (by omega)) ?_
  refine q_invV (pc := 567) (As := [.int (rI h 1003 (i + 1))]) (st := [.int v]) dL_law_567 ok_X11_order ml_RL_62 iv_X11_order pa_X11_order ⟨Nat.le_of_ble_eq_true rfl, Nat.le_of_ble_eq_true rfl⟩ (lyc rfl) (zw.mono (zsc hL1 hL3 S) (fun r h2 hr => ?_))
  obtain ⟨⟨v', rfl, G2, e, hI2⟩, hL2, hk2⟩ := hr
  show zw zNT zNT M_L_law 570 [some (.ref 1003), some (.ref 0), some (.ref 164), some (.int (nI i))] [.int v', .int v] h2 Q
  exact z_icmp_eq (pc := 570) (tgt := 1360) dL_law_570 (by decide) (fun _ => K h2 hI2 hL2) (fun z => absurd e z)
theorem w_depends {i L : Nat} {h : zHp} {Q : Option Value → zHp → Prop} (hI : INV h) (hL : rI h 1004 0 = nI L) (hL3 : L ≤ 3072) (hi : i + 6 ≤ L) (K : ∀ h2, INV h2 → rI h2 1004 0 = nI L → zw zNT zNT M_L_law 1360 [some (.ref 1003), some (.ref 0), some (.ref 164), some (.int (nI i))] [] h2 Q) : zw zNT zNT M_L_law 575 [some (.ref 1003), some (.ref 0), some (.ref 164), some (.int (nI i))] [] h Q := by
  refine z_aload_n (pc := 575) dL_law_575 rfl rfl ?_
  refine z_aload_n (pc := 576) dL_law_576 rfl rfl ?_
  refine z_iload_n (pc := 577) dL_law_577 rfl rfl ?_
  refine z_iconst (pc := 578) (v := 1) dL_law_578 (by decide) ?_
  refine z_iadd (pc := 579) dL_law_579 ?_
  refine q_ldSc (pc := 580) (j := i + 1) (v := rI h 1003 (i + 1)) dL_law_580 hL hL3 (nI_add i 1) (by omega) rfl ?_
  refine z_aload_n (pc := 581) dL_law_581 rfl rfl ?_
  refine z_iload_n (pc := 582) dL_law_582 rfl rfl ?_
  refine z_iconst (pc := 583) (v := 2) dL_law_583 (by decide) ?_
  refine z_iadd (pc := 584) dL_law_584 ?_
  refine q_ldSc (pc := 585) (j := i + 2) (v := rI h 1003 (i + 2)) dL_law_585 hL hL3 (nI_add i 2) (by omega) rfl ?_
  refine q_invV (pc := 586) (As := [.int (rI h 1003 (i + 1)), .int (rI h 1003 (i + 2))]) (st := []) dL_law_586 ok_X10_depends ml_RL_63 iv_X10_depends pa_X10_depends ⟨Nat.le_of_ble_eq_true rfl, Nat.le_of_ble_eq_true rfl⟩ (lyc rfl) (zw.mono (zsc hL hL3 (sim_depends h hI)) (fun r h1 hr => ?_))
  obtain ⟨⟨v, rfl, G1, S⟩, hL1, hk⟩ := hr
  show zw zNT zNT M_L_law 589 [some (.ref 1003), some (.ref 0), some (.ref 164), some (.int (nI i))] [.int v] h1 Q
  refine z_aload_n (pc := 589) dL_law_589 rfl rfl ?_
  refine z_aload_n (pc := 590) dL_law_590 rfl rfl ?_
  refine z_iload_n (pc := 591) dL_law_591 rfl rfl ?_
  refine z_iconst (pc := 592) (v := 1) dL_law_592 (by decide) ?_
  refine z_iadd (pc := 593) dL_law_593 ?_
  refine q_ldSc (pc := 594) (j := i + 1) (v := rI h 1003 (i + 1)) dL_law_594 hL1 hL3 (nI_add i 1) (by omega) (hk _ (by omega)) ?_
  refine z_aload_n (pc := 595) dL_law_595 rfl rfl ?_
  refine z_iload_n (pc := 596) dL_law_596 rfl rfl ?_
  refine z_iconst (pc := 597) (v := 2) dL_law_597 (by decide) ?_
  refine z_iadd (pc := 598) dL_law_598 ?_
  refine q_ldSc (pc := 599) (j := i + 2) (v := rI h 1003 (i + 2)) dL_law_599 hL1 hL3 (nI_add i 2) (by omega) (hk _ (by omega)) ?_
  refine q_invV (pc := 600) (As := [.int (rI h 1003 (i + 1)), .int (rI h 1003 (i + 2))]) (st := [.int v]) dL_law_600 ok_X11_depends ml_RL_66 iv_X11_depends pa_X11_depends ⟨Nat.le_of_ble_eq_true rfl, Nat.le_of_ble_eq_true rfl⟩ (lyc rfl) (zw.mono (zsc hL1 hL3 S) (fun r h2 hr => ?_))
  obtain ⟨⟨v', rfl, G2, e, hI2⟩, hL2, hk2⟩ := hr
  show zw zNT zNT M_L_law 603 [some (.ref 1003), some (.ref 0), some (.ref 164), some (.int (nI i))] [.int v', .int v] h2 Q
  exact z_icmp_eq (pc := 603) (tgt := 1360) dL_law_603 (by decide) (fun _ => K h2 hI2 hL2) (fun z => absurd e z)
theorem w_rule {i L : Nat} {h : zHp} {Q : Option Value → zHp → Prop} (hI : INV h) (hL : rI h 1004 0 = nI L) (hL3 : L ≤ 3072) (hi : i + 6 ≤ L) (K : ∀ h2, INV h2 → rI h2 1004 0 = nI L → zw zNT zNT M_L_law 1360 [some (.ref 1003), some (.ref 0), some (.ref 164), some (.int (nI i))] [] h2 Q) : zw zNT zNT M_L_law 608 [some (.ref 1003), some (.ref 0), some (.ref 164), some (.int (nI i))] [] h Q := by
  refine z_aload_n (pc := 608) dL_law_608 rfl rfl ?_
  refine z_aload_n (pc := 609) dL_law_609 rfl rfl ?_
  refine z_iload_n (pc := 610) dL_law_610 rfl rfl ?_
  refine z_iconst (pc := 611) (v := 1) dL_law_611 (by decide) ?_
  refine z_iadd (pc := 612) dL_law_612 ?_
  refine q_ldSc (pc := 613) (j := i + 1) (v := rI h 1003 (i + 1)) dL_law_613 hL hL3 (nI_add i 1) (by omega) rfl ?_
  refine z_aload_n (pc := 614) dL_law_614 rfl rfl ?_
  refine z_iload_n (pc := 615) dL_law_615 rfl rfl ?_
  refine z_iconst (pc := 616) (v := 2) dL_law_616 (by decide) ?_
  refine z_iadd (pc := 617) dL_law_617 ?_
  refine q_ldSc (pc := 618) (j := i + 2) (v := rI h 1003 (i + 2)) dL_law_618 hL hL3 (nI_add i 2) (by omega) rfl ?_
  refine z_aload_n (pc := 619) dL_law_619 rfl rfl ?_
  refine z_iload_n (pc := 620) dL_law_620 rfl rfl ?_
  refine z_iconst (pc := 621) (v := 3) dL_law_621 (by decide) ?_
  refine z_iadd (pc := 622) dL_law_622 ?_
  refine q_ldSc (pc := 623) (j := i + 3) (v := rI h 1003 (i + 3)) dL_law_623 hL hL3 (nI_add i 3) (by omega) rfl ?_
  refine z_aload_n (pc := 624) dL_law_624 rfl rfl ?_
  refine z_iload_n (pc := 625) dL_law_625 rfl rfl ?_
  refine z_iconst (pc := 626) (v := 4) dL_law_626 (by decide) ?_
  refine z_iadd (pc := 627) dL_law_627 ?_
  refine q_ldSc (pc := 628) (j := i + 4) (v := rI h 1003 (i + 4)) dL_law_628 hL hL3 (nI_add i 4) (by omega) rfl ?_
  refine q_invV (pc := 629) (As := [.int (rI h 1003 (i + 1)), .int (rI h 1003 (i + 2)), .int (rI h 1003 (i + 3)), .int (rI h 1003 (i + 4))]) (st := []) dL_law_629 ok_X10_rule ml_RL_67 iv_X10_rule pa_X10_rule ⟨Nat.le_of_ble_eq_true rfl, Nat.le_of_ble_eq_true rfl⟩ (lyc rfl) (zw.mono (zsc hL hL3 (sim_rule h hI)) (fun r h1 hr => ?_))
  obtain ⟨⟨v, rfl, G1, S⟩, hL1, hk⟩ := hr
  show zw zNT zNT M_L_law 632 [some (.ref 1003), some (.ref 0), some (.ref 164), some (.int (nI i))] [.int v] h1 Q
  refine z_aload_n (pc := 632) dL_law_632 rfl rfl ?_
  refine z_aload_n (pc := 633) dL_law_633 rfl rfl ?_
  refine z_iload_n (pc := 634) dL_law_634 rfl rfl ?_
  refine z_iconst (pc := 635) (v := 1) dL_law_635 (by decide) ?_
  refine z_iadd (pc := 636) dL_law_636 ?_
  refine q_ldSc (pc := 637) (j := i + 1) (v := rI h 1003 (i + 1)) dL_law_637 hL1 hL3 (nI_add i 1) (by omega) (hk _ (by omega)) ?_
  refine z_aload_n (pc := 638) dL_law_638 rfl rfl ?_
  refine z_iload_n (pc := 639) dL_law_639 rfl rfl ?_
  refine z_iconst (pc := 640) (v := 2) dL_law_640 (by decide) ?_
  refine z_iadd (pc := 641) dL_law_641 ?_
  refine q_ldSc (pc := 642) (j := i + 2) (v := rI h 1003 (i + 2)) dL_law_642 hL1 hL3 (nI_add i 2) (by omega) (hk _ (by omega)) ?_
  refine z_aload_n (pc := 643) dL_law_643 rfl rfl ?_
  refine z_iload_n (pc := 644) dL_law_644 rfl rfl ?_
  refine z_iconst (pc := 645) (v := 3) dL_law_645 (by decide) ?_
  refine z_iadd (pc := 646) dL_law_646 ?_
  refine q_ldSc (pc := 647) (j := i + 3) (v := rI h 1003 (i + 3)) dL_law_647 hL1 hL3 (nI_add i 3) (by omega) (hk _ (by omega)) ?_
  refine z_aload_n (pc := 648) dL_law_648 rfl rfl ?_
  refine z_iload_n (pc := 649) dL_law_649 rfl rfl ?_
  refine z_iconst (pc := 650) (v := 4) dL_law_650 (by decide) ?_
  refine z_iadd (pc := 651) dL_law_651 ?_
  refine q_ldSc (pc := 652) (j := i + 4) (v := rI h 1003 (i + 4)) dL_law_652 hL1 hL3 (nI_add i 4) (by omega) (hk _ (by omega)) ?_
  refine q_invV (pc := 653) (As := [.int (rI h 1003 (i + 1)), .int (rI h 1003 (i + 2)), .int (rI h 1003 (i + 3)), .int (rI h 1003 (i + 4))]) (st := [.int v]) dL_law_653 ok_X11_rule ml_RL_70 iv_X11_rule pa_X11_rule ⟨Nat.le_of_ble_eq_true rfl, Nat.le_of_ble_eq_true rfl⟩ (lyc rfl) (zw.mono (zsc hL1 hL3 S) (fun r h2 hr => ?_))
  obtain ⟨⟨v', rfl, G2, e, hI2⟩, hL2, hk2⟩ := hr
  show zw zNT zNT M_L_law 656 [some (.ref 1003), some (.ref 0), some (.ref 164), some (.int (nI i))] [.int v', .int v] h2 Q
  exact z_icmp_eq (pc := 656) (tgt := 1360) dL_law_656 (by decide) (fun _ => K h2 hI2 hL2) (fun z => absurd e z)
theorem w_ruleOf {i L : Nat} {h : zHp} {Q : Option Value → zHp → Prop} (hI : INV h) (hL : rI h 1004 0 = nI L) (hL3 : L ≤ 3072) (hi : i + 6 ≤ L) (K : ∀ h2, INV h2 → rI h2 1004 0 = nI L → zw zNT zNT M_L_law 1360 [some (.ref 1003), some (.ref 0), some (.ref 164), some (.int (nI i))] [] h2 Q) : zw zNT zNT M_L_law 661 [some (.ref 1003), some (.ref 0), some (.ref 164), some (.int (nI i))] [] h Q := by
  refine z_aload_n (pc := 661) dL_law_661 rfl rfl ?_
  refine z_aload_n (pc := 662) dL_law_662 rfl rfl ?_
  refine z_iload_n (pc := 663) dL_law_663 rfl rfl ?_
  refine z_iconst (pc := 664) (v := 1) dL_law_664 (by decide) ?_
  refine z_iadd (pc := 665) dL_law_665 ?_
  refine q_ldSc (pc := 666) (j := i + 1) (v := rI h 1003 (i + 1)) dL_law_666 hL hL3 (nI_add i 1) (by omega) rfl ?_
  refine z_aload_n (pc := 667) dL_law_667 rfl rfl ?_
  refine z_iload_n (pc := 668) dL_law_668 rfl rfl ?_
  refine z_iconst (pc := 669) (v := 2) dL_law_669 (by decide) ?_
  refine z_iadd (pc := 670) dL_law_670 ?_
  refine q_ldSc (pc := 671) (j := i + 2) (v := rI h 1003 (i + 2)) dL_law_671 hL hL3 (nI_add i 2) (by omega) rfl ?_
  refine q_invV (pc := 672) (As := [.int (rI h 1003 (i + 1)), .int (rI h 1003 (i + 2))]) (st := []) dL_law_672 ok_X10_ruleOf ml_RL_71 iv_X10_ruleOf pa_X10_ruleOf ⟨Nat.le_of_ble_eq_true rfl, Nat.le_of_ble_eq_true rfl⟩ (lyc rfl) (zw.mono (zsc hL hL3 (sim_ruleOf h hI)) (fun r h1 hr => ?_))
  obtain ⟨⟨v, rfl, G1, S⟩, hL1, hk⟩ := hr
  show zw zNT zNT M_L_law 675 [some (.ref 1003), some (.ref 0), some (.ref 164), some (.int (nI i))] [.int v] h1 Q
  refine z_aload_n (pc := 675) dL_law_675 rfl rfl ?_
  refine z_aload_n (pc := 676) dL_law_676 rfl rfl ?_
  refine z_iload_n (pc := 677) dL_law_677 rfl rfl ?_
  refine z_iconst (pc := 678) (v := 1) dL_law_678 (by decide) ?_
  refine z_iadd (pc := 679) dL_law_679 ?_
  refine q_ldSc (pc := 680) (j := i + 1) (v := rI h 1003 (i + 1)) dL_law_680 hL1 hL3 (nI_add i 1) (by omega) (hk _ (by omega)) ?_
  refine z_aload_n (pc := 681) dL_law_681 rfl rfl ?_
  refine z_iload_n (pc := 682) dL_law_682 rfl rfl ?_
  refine z_iconst (pc := 683) (v := 2) dL_law_683 (by decide) ?_
  refine z_iadd (pc := 684) dL_law_684 ?_
  refine q_ldSc (pc := 685) (j := i + 2) (v := rI h 1003 (i + 2)) dL_law_685 hL1 hL3 (nI_add i 2) (by omega) (hk _ (by omega)) ?_
  refine q_invV (pc := 686) (As := [.int (rI h 1003 (i + 1)), .int (rI h 1003 (i + 2))]) (st := [.int v]) dL_law_686 ok_X11_ruleOf ml_RL_74 iv_X11_ruleOf pa_X11_ruleOf ⟨Nat.le_of_ble_eq_true rfl, Nat.le_of_ble_eq_true rfl⟩ (lyc rfl) (zw.mono (zsc hL1 hL3 S) (fun r h2 hr => ?_))
  obtain ⟨⟨v', rfl, G2, e, hI2⟩, hL2, hk2⟩ := hr
  show zw zNT zNT M_L_law 689 [some (.ref 1003), some (.ref 0), some (.ref 164), some (.int (nI i))] [.int v', .int v] h2 Q
  exact z_icmp_eq (pc := 689) (tgt := 1360) dL_law_689 (by decide) (fun _ => K h2 hI2 hL2) (fun z => absurd e z)
theorem w_unrule {i L : Nat} {h : zHp} {Q : Option Value → zHp → Prop} (hI : INV h) (hL : rI h 1004 0 = nI L) (hL3 : L ≤ 3072) (hi : i + 6 ≤ L) (K : ∀ h2, INV h2 → rI h2 1004 0 = nI L → zw zNT zNT M_L_law 1360 [some (.ref 1003), some (.ref 0), some (.ref 164), some (.int (nI i))] [] h2 Q) : zw zNT zNT M_L_law 694 [some (.ref 1003), some (.ref 0), some (.ref 164), some (.int (nI i))] [] h Q := by
  refine z_aload_n (pc := 694) dL_law_694 rfl rfl ?_
  refine z_aload_n (pc := 695) dL_law_695 rfl rfl ?_
  refine z_iload_n (pc := 696) dL_law_696 rfl rfl ?_
  refine z_iconst (pc := 697) (v := 1) dL_law_697 (by decide) ?_
  refine z_iadd (pc := 698) dL_law_698 ?_
  refine q_ldSc (pc := 699) (j := i + 1) (v := rI h 1003 (i + 1)) dL_law_699 hL hL3 (nI_add i 1) (by omega) rfl ?_
  refine q_invV (pc := 700) (As := [.int (rI h 1003 (i + 1))]) (st := []) dL_law_700 ok_X10_unrule ml_RL_75 iv_X10_unrule pa_X10_unrule ⟨Nat.le_of_ble_eq_true rfl, Nat.le_of_ble_eq_true rfl⟩ (lyc rfl) (zw.mono (zsc hL hL3 (sim_unrule h hI)) (fun r h1 hr => ?_))
  obtain ⟨⟨v, rfl, G1, S⟩, hL1, hk⟩ := hr
  show zw zNT zNT M_L_law 703 [some (.ref 1003), some (.ref 0), some (.ref 164), some (.int (nI i))] [.int v] h1 Q
  refine z_aload_n (pc := 703) dL_law_703 rfl rfl ?_
  refine z_aload_n (pc := 704) dL_law_704 rfl rfl ?_
  refine z_iload_n (pc := 705) dL_law_705 rfl rfl ?_
  refine z_iconst (pc := 706) (v := 1) dL_law_706 (by decide) ?_
  refine z_iadd (pc := 707) dL_law_707 ?_
  refine q_ldSc (pc := 708) (j := i + 1) (v := rI h 1003 (i + 1)) dL_law_708 hL1 hL3 (nI_add i 1) (by omega) (hk _ (by omega)) ?_
  refine q_invV (pc := 709) (As := [.int (rI h 1003 (i + 1))]) (st := [.int v]) dL_law_709 ok_X11_unrule ml_RL_78 iv_X11_unrule pa_X11_unrule ⟨Nat.le_of_ble_eq_true rfl, Nat.le_of_ble_eq_true rfl⟩ (lyc rfl) (zw.mono (zsc hL1 hL3 S) (fun r h2 hr => ?_))
  obtain ⟨⟨v', rfl, G2, e, hI2⟩, hL2, hk2⟩ := hr
  show zw zNT zNT M_L_law 712 [some (.ref 1003), some (.ref 0), some (.ref 164), some (.int (nI i))] [.int v', .int v] h2 Q
  exact z_icmp_eq (pc := 712) (tgt := 1360) dL_law_712 (by decide) (fun _ => K h2 hI2 hL2) (fun z => absurd e z)
theorem w_choice {i L : Nat} {h : zHp} {Q : Option Value → zHp → Prop} (hI : INV h) (hL : rI h 1004 0 = nI L) (hL3 : L ≤ 3072) (hi : i + 6 ≤ L) (K : ∀ h2, INV h2 → rI h2 1004 0 = nI L → zw zNT zNT M_L_law 1360 [some (.ref 1003), some (.ref 0), some (.ref 164), some (.int (nI i))] [] h2 Q) : zw zNT zNT M_L_law 717 [some (.ref 1003), some (.ref 0), some (.ref 164), some (.int (nI i))] [] h Q := by
  refine z_aload_n (pc := 717) dL_law_717 rfl rfl ?_
  refine z_aload_n (pc := 718) dL_law_718 rfl rfl ?_
  refine z_iload_n (pc := 719) dL_law_719 rfl rfl ?_
  refine z_iconst (pc := 720) (v := 1) dL_law_720 (by decide) ?_
  refine z_iadd (pc := 721) dL_law_721 ?_
  refine q_ldSc (pc := 722) (j := i + 1) (v := rI h 1003 (i + 1)) dL_law_722 hL hL3 (nI_add i 1) (by omega) rfl ?_
  refine z_aload_n (pc := 723) dL_law_723 rfl rfl ?_
  refine z_iload_n (pc := 724) dL_law_724 rfl rfl ?_
  refine z_iconst (pc := 725) (v := 2) dL_law_725 (by decide) ?_
  refine z_iadd (pc := 726) dL_law_726 ?_
  refine q_ldSc (pc := 727) (j := i + 2) (v := rI h 1003 (i + 2)) dL_law_727 hL hL3 (nI_add i 2) (by omega) rfl ?_
  refine q_invV (pc := 728) (As := [.int (rI h 1003 (i + 1)), .int (rI h 1003 (i + 2))]) (st := []) dL_law_728 ok_X10_choice ml_RL_79 iv_X10_choice pa_X10_choice ⟨Nat.le_of_ble_eq_true rfl, Nat.le_of_ble_eq_true rfl⟩ (lyc rfl) (zw.mono (zsc hL hL3 (sim_choice h hI)) (fun r h1 hr => ?_))
  obtain ⟨⟨v, rfl, G1, S⟩, hL1, hk⟩ := hr
  show zw zNT zNT M_L_law 731 [some (.ref 1003), some (.ref 0), some (.ref 164), some (.int (nI i))] [.int v] h1 Q
  refine z_aload_n (pc := 731) dL_law_731 rfl rfl ?_
  refine z_aload_n (pc := 732) dL_law_732 rfl rfl ?_
  refine z_iload_n (pc := 733) dL_law_733 rfl rfl ?_
  refine z_iconst (pc := 734) (v := 1) dL_law_734 (by decide) ?_
  refine z_iadd (pc := 735) dL_law_735 ?_
  refine q_ldSc (pc := 736) (j := i + 1) (v := rI h 1003 (i + 1)) dL_law_736 hL1 hL3 (nI_add i 1) (by omega) (hk _ (by omega)) ?_
  refine z_aload_n (pc := 737) dL_law_737 rfl rfl ?_
  refine z_iload_n (pc := 738) dL_law_738 rfl rfl ?_
  refine z_iconst (pc := 739) (v := 2) dL_law_739 (by decide) ?_
  refine z_iadd (pc := 740) dL_law_740 ?_
  refine q_ldSc (pc := 741) (j := i + 2) (v := rI h 1003 (i + 2)) dL_law_741 hL1 hL3 (nI_add i 2) (by omega) (hk _ (by omega)) ?_
  refine q_invV (pc := 742) (As := [.int (rI h 1003 (i + 1)), .int (rI h 1003 (i + 2))]) (st := [.int v]) dL_law_742 ok_X11_choice ml_RL_82 iv_X11_choice pa_X11_choice ⟨Nat.le_of_ble_eq_true rfl, Nat.le_of_ble_eq_true rfl⟩ (lyc rfl) (zw.mono (zsc hL1 hL3 S) (fun r h2 hr => ?_))
  obtain ⟨⟨v', rfl, G2, e, hI2⟩, hL2, hk2⟩ := hr
  show zw zNT zNT M_L_law 745 [some (.ref 1003), some (.ref 0), some (.ref 164), some (.int (nI i))] [.int v', .int v] h2 Q
  exact z_icmp_eq (pc := 745) (tgt := 1360) dL_law_745 (by decide) (fun _ => K h2 hI2 hL2) (fun z => absurd e z)
theorem w_watch {i L : Nat} {h : zHp} {Q : Option Value → zHp → Prop} (hI : INV h) (hL : rI h 1004 0 = nI L) (hL3 : L ≤ 3072) (hi : i + 6 ≤ L) (K : ∀ h2, INV h2 → rI h2 1004 0 = nI L → zw zNT zNT M_L_law 1360 [some (.ref 1003), some (.ref 0), some (.ref 164), some (.int (nI i))] [] h2 Q) : zw zNT zNT M_L_law 750 [some (.ref 1003), some (.ref 0), some (.ref 164), some (.int (nI i))] [] h Q := by
  refine z_aload_n (pc := 750) dL_law_750 rfl rfl ?_
  refine z_aload_n (pc := 751) dL_law_751 rfl rfl ?_
  refine z_iload_n (pc := 752) dL_law_752 rfl rfl ?_
  refine z_iconst (pc := 753) (v := 1) dL_law_753 (by decide) ?_
  refine z_iadd (pc := 754) dL_law_754 ?_
  refine q_ldSc (pc := 755) (j := i + 1) (v := rI h 1003 (i + 1)) dL_law_755 hL hL3 (nI_add i 1) (by omega) rfl ?_
  refine z_aload_n (pc := 756) dL_law_756 rfl rfl ?_
  refine z_iload_n (pc := 757) dL_law_757 rfl rfl ?_
  refine z_iconst (pc := 758) (v := 2) dL_law_758 (by decide) ?_
  refine z_iadd (pc := 759) dL_law_759 ?_
  refine q_ldSc (pc := 760) (j := i + 2) (v := rI h 1003 (i + 2)) dL_law_760 hL hL3 (nI_add i 2) (by omega) rfl ?_
  refine z_aload_n (pc := 761) dL_law_761 rfl rfl ?_
  refine z_iload_n (pc := 762) dL_law_762 rfl rfl ?_
  refine z_iconst (pc := 763) (v := 3) dL_law_763 (by decide) ?_
  refine z_iadd (pc := 764) dL_law_764 ?_
  refine q_ldSc (pc := 765) (j := i + 3) (v := rI h 1003 (i + 3)) dL_law_765 hL hL3 (nI_add i 3) (by omega) rfl ?_
  refine z_aload_n (pc := 766) dL_law_766 rfl rfl ?_
  refine z_iload_n (pc := 767) dL_law_767 rfl rfl ?_
  refine z_iconst (pc := 768) (v := 4) dL_law_768 (by decide) ?_
  refine z_iadd (pc := 769) dL_law_769 ?_
  refine q_ldSc (pc := 770) (j := i + 4) (v := rI h 1003 (i + 4)) dL_law_770 hL hL3 (nI_add i 4) (by omega) rfl ?_
  refine z_aload_n (pc := 771) dL_law_771 rfl rfl ?_
  refine z_iload_n (pc := 772) dL_law_772 rfl rfl ?_
  refine z_iconst (pc := 773) (v := 5) dL_law_773 (by decide) ?_
  refine z_iadd (pc := 774) dL_law_774 ?_
  refine q_ldSc (pc := 775) (j := i + 5) (v := rI h 1003 (i + 5)) dL_law_775 hL hL3 (nI_add i 5) (by omega) rfl ?_
  refine q_invV (pc := 776) (As := [.int (rI h 1003 (i + 1)), .int (rI h 1003 (i + 2)), .int (rI h 1003 (i + 3)), .int (rI h 1003 (i + 4)), .int (rI h 1003 (i + 5))]) (st := []) dL_law_776 ok_X10_watch ml_RL_83 iv_X10_watch pa_X10_watch ⟨Nat.le_of_ble_eq_true rfl, Nat.le_of_ble_eq_true rfl⟩ (lyc rfl) (zw.mono (zsc hL hL3 (sim_watch h hI)) (fun r h1 hr => ?_))
  obtain ⟨⟨v, rfl, G1, S⟩, hL1, hk⟩ := hr
  show zw zNT zNT M_L_law 779 [some (.ref 1003), some (.ref 0), some (.ref 164), some (.int (nI i))] [.int v] h1 Q
  refine z_aload_n (pc := 779) dL_law_779 rfl rfl ?_
  refine z_aload_n (pc := 780) dL_law_780 rfl rfl ?_
  refine z_iload_n (pc := 781) dL_law_781 rfl rfl ?_
  refine z_iconst (pc := 782) (v := 1) dL_law_782 (by decide) ?_
  refine z_iadd (pc := 783) dL_law_783 ?_
  refine q_ldSc (pc := 784) (j := i + 1) (v := rI h 1003 (i + 1)) dL_law_784 hL1 hL3 (nI_add i 1) (by omega) (hk _ (by omega)) ?_
  refine z_aload_n (pc := 785) dL_law_785 rfl rfl ?_
  refine z_iload_n (pc := 786) dL_law_786 rfl rfl ?_
  refine z_iconst (pc := 787) (v := 2) dL_law_787 (by decide) ?_
  refine z_iadd (pc := 788) dL_law_788 ?_
  refine q_ldSc (pc := 789) (j := i + 2) (v := rI h 1003 (i + 2)) dL_law_789 hL1 hL3 (nI_add i 2) (by omega) (hk _ (by omega)) ?_
  refine z_aload_n (pc := 790) dL_law_790 rfl rfl ?_
  refine z_iload_n (pc := 791) dL_law_791 rfl rfl ?_
  refine z_iconst (pc := 792) (v := 3) dL_law_792 (by decide) ?_
  refine z_iadd (pc := 793) dL_law_793 ?_
  refine q_ldSc (pc := 794) (j := i + 3) (v := rI h 1003 (i + 3)) dL_law_794 hL1 hL3 (nI_add i 3) (by omega) (hk _ (by omega)) ?_
  refine z_aload_n (pc := 795) dL_law_795 rfl rfl ?_
  refine z_iload_n (pc := 796) dL_law_796 rfl rfl ?_
  refine z_iconst (pc := 797) (v := 4) dL_law_797 (by decide) ?_
  refine z_iadd (pc := 798) dL_law_798 ?_
  refine q_ldSc (pc := 799) (j := i + 4) (v := rI h 1003 (i + 4)) dL_law_799 hL1 hL3 (nI_add i 4) (by omega) (hk _ (by omega)) ?_
  refine z_aload_n (pc := 800) dL_law_800 rfl rfl ?_
  refine z_iload_n (pc := 801) dL_law_801 rfl rfl ?_
  refine z_iconst (pc := 802) (v := 5) dL_law_802 (by decide) ?_
  refine z_iadd (pc := 803) dL_law_803 ?_
  refine q_ldSc (pc := 804) (j := i + 5) (v := rI h 1003 (i + 5)) dL_law_804 hL1 hL3 (nI_add i 5) (by omega) (hk _ (by omega)) ?_
  refine q_invV (pc := 805) (As := [.int (rI h 1003 (i + 1)), .int (rI h 1003 (i + 2)), .int (rI h 1003 (i + 3)), .int (rI h 1003 (i + 4)), .int (rI h 1003 (i + 5))]) (st := [.int v]) dL_law_805 ok_X11_watch ml_RL_86 iv_X11_watch pa_X11_watch ⟨Nat.le_of_ble_eq_true rfl, Nat.le_of_ble_eq_true rfl⟩ (lyc rfl) (zw.mono (zsc hL1 hL3 S) (fun r h2 hr => ?_))
  obtain ⟨⟨v', rfl, G2, e, hI2⟩, hL2, hk2⟩ := hr
  show zw zNT zNT M_L_law 808 [some (.ref 1003), some (.ref 0), some (.ref 164), some (.int (nI i))] [.int v', .int v] h2 Q
  exact z_icmp_eq (pc := 808) (tgt := 1360) dL_law_808 (by decide) (fun _ => K h2 hI2 hL2) (fun z => absurd e z)
theorem w_watches {i L : Nat} {h : zHp} {Q : Option Value → zHp → Prop} (hI : INV h) (hL : rI h 1004 0 = nI L) (hL3 : L ≤ 3072) (hi : i + 6 ≤ L) (K : ∀ h2, INV h2 → rI h2 1004 0 = nI L → zw zNT zNT M_L_law 1360 [some (.ref 1003), some (.ref 0), some (.ref 164), some (.int (nI i))] [] h2 Q) : zw zNT zNT M_L_law 813 [some (.ref 1003), some (.ref 0), some (.ref 164), some (.int (nI i))] [] h Q := by
  refine z_aload_n (pc := 813) dL_law_813 rfl rfl ?_
  refine z_aload_n (pc := 814) dL_law_814 rfl rfl ?_
  refine z_iload_n (pc := 815) dL_law_815 rfl rfl ?_
  refine z_iconst (pc := 816) (v := 1) dL_law_816 (by decide) ?_
  refine z_iadd (pc := 817) dL_law_817 ?_
  refine q_ldSc (pc := 818) (j := i + 1) (v := rI h 1003 (i + 1)) dL_law_818 hL hL3 (nI_add i 1) (by omega) rfl ?_
  refine z_aload_n (pc := 819) dL_law_819 rfl rfl ?_
  refine z_iload_n (pc := 820) dL_law_820 rfl rfl ?_
  refine z_iconst (pc := 821) (v := 2) dL_law_821 (by decide) ?_
  refine z_iadd (pc := 822) dL_law_822 ?_
  refine q_ldSc (pc := 823) (j := i + 2) (v := rI h 1003 (i + 2)) dL_law_823 hL hL3 (nI_add i 2) (by omega) rfl ?_
  refine z_aload_n (pc := 824) dL_law_824 rfl rfl ?_
  refine z_iload_n (pc := 825) dL_law_825 rfl rfl ?_
  refine z_iconst (pc := 826) (v := 3) dL_law_826 (by decide) ?_
  refine z_iadd (pc := 827) dL_law_827 ?_
  refine q_ldSc (pc := 828) (j := i + 3) (v := rI h 1003 (i + 3)) dL_law_828 hL hL3 (nI_add i 3) (by omega) rfl ?_
  refine q_invV (pc := 829) (As := [.int (rI h 1003 (i + 1)), .int (rI h 1003 (i + 2)), .int (rI h 1003 (i + 3))]) (st := []) dL_law_829 ok_X10_watches ml_RL_87 iv_X10_watches pa_X10_watches ⟨Nat.le_of_ble_eq_true rfl, Nat.le_of_ble_eq_true rfl⟩ (lyc rfl) (zw.mono (zsc hL hL3 (sim_watches h hI)) (fun r h1 hr => ?_))
  obtain ⟨⟨v, rfl, G1, S⟩, hL1, hk⟩ := hr
  show zw zNT zNT M_L_law 832 [some (.ref 1003), some (.ref 0), some (.ref 164), some (.int (nI i))] [.int v] h1 Q
  refine z_aload_n (pc := 832) dL_law_832 rfl rfl ?_
  refine z_aload_n (pc := 833) dL_law_833 rfl rfl ?_
  refine z_iload_n (pc := 834) dL_law_834 rfl rfl ?_
  refine z_iconst (pc := 835) (v := 1) dL_law_835 (by decide) ?_
  refine z_iadd (pc := 836) dL_law_836 ?_
  refine q_ldSc (pc := 837) (j := i + 1) (v := rI h 1003 (i + 1)) dL_law_837 hL1 hL3 (nI_add i 1) (by omega) (hk _ (by omega)) ?_
  refine z_aload_n (pc := 838) dL_law_838 rfl rfl ?_
  refine z_iload_n (pc := 839) dL_law_839 rfl rfl ?_
  refine z_iconst (pc := 840) (v := 2) dL_law_840 (by decide) ?_
  refine z_iadd (pc := 841) dL_law_841 ?_
  refine q_ldSc (pc := 842) (j := i + 2) (v := rI h 1003 (i + 2)) dL_law_842 hL1 hL3 (nI_add i 2) (by omega) (hk _ (by omega)) ?_
  refine z_aload_n (pc := 843) dL_law_843 rfl rfl ?_
  refine z_iload_n (pc := 844) dL_law_844 rfl rfl ?_
  refine z_iconst (pc := 845) (v := 3) dL_law_845 (by decide) ?_
  refine z_iadd (pc := 846) dL_law_846 ?_
  refine q_ldSc (pc := 847) (j := i + 3) (v := rI h 1003 (i + 3)) dL_law_847 hL1 hL3 (nI_add i 3) (by omega) (hk _ (by omega)) ?_
  refine q_invV (pc := 848) (As := [.int (rI h 1003 (i + 1)), .int (rI h 1003 (i + 2)), .int (rI h 1003 (i + 3))]) (st := [.int v]) dL_law_848 ok_X11_watches ml_RL_90 iv_X11_watches pa_X11_watches ⟨Nat.le_of_ble_eq_true rfl, Nat.le_of_ble_eq_true rfl⟩ (lyc rfl) (zw.mono (zsc hL1 hL3 S) (fun r h2 hr => ?_))
  obtain ⟨⟨v', rfl, G2, e, hI2⟩, hL2, hk2⟩ := hr
  show zw zNT zNT M_L_law 851 [some (.ref 1003), some (.ref 0), some (.ref 164), some (.int (nI i))] [.int v', .int v] h2 Q
  exact z_icmp_eq (pc := 851) (tgt := 1360) dL_law_851 (by decide) (fun _ => K h2 hI2 hL2) (fun z => absurd e z)
theorem w_unwatch {i L : Nat} {h : zHp} {Q : Option Value → zHp → Prop} (hI : INV h) (hL : rI h 1004 0 = nI L) (hL3 : L ≤ 3072) (hi : i + 6 ≤ L) (K : ∀ h2, INV h2 → rI h2 1004 0 = nI L → zw zNT zNT M_L_law 1360 [some (.ref 1003), some (.ref 0), some (.ref 164), some (.int (nI i))] [] h2 Q) : zw zNT zNT M_L_law 856 [some (.ref 1003), some (.ref 0), some (.ref 164), some (.int (nI i))] [] h Q := by
  refine z_aload_n (pc := 856) dL_law_856 rfl rfl ?_
  refine z_aload_n (pc := 857) dL_law_857 rfl rfl ?_
  refine z_iload_n (pc := 858) dL_law_858 rfl rfl ?_
  refine z_iconst (pc := 859) (v := 1) dL_law_859 (by decide) ?_
  refine z_iadd (pc := 860) dL_law_860 ?_
  refine q_ldSc (pc := 861) (j := i + 1) (v := rI h 1003 (i + 1)) dL_law_861 hL hL3 (nI_add i 1) (by omega) rfl ?_
  refine q_invV (pc := 862) (As := [.int (rI h 1003 (i + 1))]) (st := []) dL_law_862 ok_X10_unwatch ml_RL_91 iv_X10_unwatch pa_X10_unwatch ⟨Nat.le_of_ble_eq_true rfl, Nat.le_of_ble_eq_true rfl⟩ (lyc rfl) (zw.mono (zsc hL hL3 (sim_unwatch h hI)) (fun r h1 hr => ?_))
  obtain ⟨⟨v, rfl, G1, S⟩, hL1, hk⟩ := hr
  show zw zNT zNT M_L_law 865 [some (.ref 1003), some (.ref 0), some (.ref 164), some (.int (nI i))] [.int v] h1 Q
  refine z_aload_n (pc := 865) dL_law_865 rfl rfl ?_
  refine z_aload_n (pc := 866) dL_law_866 rfl rfl ?_
  refine z_iload_n (pc := 867) dL_law_867 rfl rfl ?_
  refine z_iconst (pc := 868) (v := 1) dL_law_868 (by decide) ?_
  refine z_iadd (pc := 869) dL_law_869 ?_
  refine q_ldSc (pc := 870) (j := i + 1) (v := rI h 1003 (i + 1)) dL_law_870 hL1 hL3 (nI_add i 1) (by omega) (hk _ (by omega)) ?_
  refine q_invV (pc := 871) (As := [.int (rI h 1003 (i + 1))]) (st := [.int v]) dL_law_871 ok_X11_unwatch ml_RL_94 iv_X11_unwatch pa_X11_unwatch ⟨Nat.le_of_ble_eq_true rfl, Nat.le_of_ble_eq_true rfl⟩ (lyc rfl) (zw.mono (zsc hL1 hL3 S) (fun r h2 hr => ?_))
  obtain ⟨⟨v', rfl, G2, e, hI2⟩, hL2, hk2⟩ := hr
  show zw zNT zNT M_L_law 874 [some (.ref 1003), some (.ref 0), some (.ref 164), some (.int (nI i))] [.int v', .int v] h2 Q
  exact z_icmp_eq (pc := 874) (tgt := 1360) dL_law_874 (by decide) (fun _ => K h2 hI2 hL2) (fun z => absurd e z)
theorem w_hurt {i L : Nat} {h : zHp} {Q : Option Value → zHp → Prop} (hI : INV h) (hL : rI h 1004 0 = nI L) (hL3 : L ≤ 3072) (hi : i + 6 ≤ L) (K : ∀ h2, INV h2 → rI h2 1004 0 = nI L → zw zNT zNT M_L_law 1360 [some (.ref 1003), some (.ref 0), some (.ref 164), some (.int (nI i))] [] h2 Q) : zw zNT zNT M_L_law 879 [some (.ref 1003), some (.ref 0), some (.ref 164), some (.int (nI i))] [] h Q := by
  refine z_aload_n (pc := 879) dL_law_879 rfl rfl ?_
  refine z_aload_n (pc := 880) dL_law_880 rfl rfl ?_
  refine z_iload_n (pc := 881) dL_law_881 rfl rfl ?_
  refine z_iconst (pc := 882) (v := 1) dL_law_882 (by decide) ?_
  refine z_iadd (pc := 883) dL_law_883 ?_
  refine q_ldSc (pc := 884) (j := i + 1) (v := rI h 1003 (i + 1)) dL_law_884 hL hL3 (nI_add i 1) (by omega) rfl ?_
  refine z_aload_n (pc := 885) dL_law_885 rfl rfl ?_
  refine z_iload_n (pc := 886) dL_law_886 rfl rfl ?_
  refine z_iconst (pc := 887) (v := 2) dL_law_887 (by decide) ?_
  refine z_iadd (pc := 888) dL_law_888 ?_
  refine q_ldSc (pc := 889) (j := i + 2) (v := rI h 1003 (i + 2)) dL_law_889 hL hL3 (nI_add i 2) (by omega) rfl ?_
  refine q_invV (pc := 890) (As := [.int (rI h 1003 (i + 1)), .int (rI h 1003 (i + 2))]) (st := []) dL_law_890 ok_X10_hurt ml_RL_95 iv_X10_hurt pa_X10_hurt ⟨Nat.le_of_ble_eq_true rfl, Nat.le_of_ble_eq_true rfl⟩ (lyc rfl) (zw.mono (zsc hL hL3 (sim_hurt h hI)) (fun r h1 hr => ?_))
  obtain ⟨⟨v, rfl, G1, S⟩, hL1, hk⟩ := hr
  show zw zNT zNT M_L_law 893 [some (.ref 1003), some (.ref 0), some (.ref 164), some (.int (nI i))] [.int v] h1 Q
  refine z_aload_n (pc := 893) dL_law_893 rfl rfl ?_
  refine z_aload_n (pc := 894) dL_law_894 rfl rfl ?_
  refine z_iload_n (pc := 895) dL_law_895 rfl rfl ?_
  refine z_iconst (pc := 896) (v := 1) dL_law_896 (by decide) ?_
  refine z_iadd (pc := 897) dL_law_897 ?_
  refine q_ldSc (pc := 898) (j := i + 1) (v := rI h 1003 (i + 1)) dL_law_898 hL1 hL3 (nI_add i 1) (by omega) (hk _ (by omega)) ?_
  refine z_aload_n (pc := 899) dL_law_899 rfl rfl ?_
  refine z_iload_n (pc := 900) dL_law_900 rfl rfl ?_
  refine z_iconst (pc := 901) (v := 2) dL_law_901 (by decide) ?_
  refine z_iadd (pc := 902) dL_law_902 ?_
  refine q_ldSc (pc := 903) (j := i + 2) (v := rI h 1003 (i + 2)) dL_law_903 hL1 hL3 (nI_add i 2) (by omega) (hk _ (by omega)) ?_
  refine q_invV (pc := 904) (As := [.int (rI h 1003 (i + 1)), .int (rI h 1003 (i + 2))]) (st := [.int v]) dL_law_904 ok_X11_hurt ml_RL_98 iv_X11_hurt pa_X11_hurt ⟨Nat.le_of_ble_eq_true rfl, Nat.le_of_ble_eq_true rfl⟩ (lyc rfl) (zw.mono (zsc hL1 hL3 S) (fun r h2 hr => ?_))
  obtain ⟨⟨v', rfl, G2, e, hI2⟩, hL2, hk2⟩ := hr
  show zw zNT zNT M_L_law 907 [some (.ref 1003), some (.ref 0), some (.ref 164), some (.int (nI i))] [.int v', .int v] h2 Q
  exact z_icmp_eq (pc := 907) (tgt := 1360) dL_law_907 (by decide) (fun _ => K h2 hI2 hL2) (fun z => absurd e z)
theorem w_aim {i L : Nat} {h : zHp} {Q : Option Value → zHp → Prop} (hI : INV h) (hL : rI h 1004 0 = nI L) (hL3 : L ≤ 3072) (hi : i + 6 ≤ L) (K : ∀ h2, INV h2 → rI h2 1004 0 = nI L → zw zNT zNT M_L_law 1360 [some (.ref 1003), some (.ref 0), some (.ref 164), some (.int (nI i))] [] h2 Q) : zw zNT zNT M_L_law 912 [some (.ref 1003), some (.ref 0), some (.ref 164), some (.int (nI i))] [] h Q := by
  refine z_aload_n (pc := 912) dL_law_912 rfl rfl ?_
  refine z_aload_n (pc := 913) dL_law_913 rfl rfl ?_
  refine z_iload_n (pc := 914) dL_law_914 rfl rfl ?_
  refine z_iconst (pc := 915) (v := 1) dL_law_915 (by decide) ?_
  refine z_iadd (pc := 916) dL_law_916 ?_
  refine q_ldSc (pc := 917) (j := i + 1) (v := rI h 1003 (i + 1)) dL_law_917 hL hL3 (nI_add i 1) (by omega) rfl ?_
  refine z_aload_n (pc := 918) dL_law_918 rfl rfl ?_
  refine z_iload_n (pc := 919) dL_law_919 rfl rfl ?_
  refine z_iconst (pc := 920) (v := 2) dL_law_920 (by decide) ?_
  refine z_iadd (pc := 921) dL_law_921 ?_
  refine q_ldSc (pc := 922) (j := i + 2) (v := rI h 1003 (i + 2)) dL_law_922 hL hL3 (nI_add i 2) (by omega) rfl ?_
  refine z_aload_n (pc := 923) dL_law_923 rfl rfl ?_
  refine z_iload_n (pc := 924) dL_law_924 rfl rfl ?_
  refine z_iconst (pc := 925) (v := 3) dL_law_925 (by decide) ?_
  refine z_iadd (pc := 926) dL_law_926 ?_
  refine q_ldSc (pc := 927) (j := i + 3) (v := rI h 1003 (i + 3)) dL_law_927 hL hL3 (nI_add i 3) (by omega) rfl ?_
  refine q_invV (pc := 928) (As := [.int (rI h 1003 (i + 1)), .int (rI h 1003 (i + 2)), .int (rI h 1003 (i + 3))]) (st := []) dL_law_928 ok_X10_aim ml_RL_99 iv_X10_aim pa_X10_aim ⟨Nat.le_of_ble_eq_true rfl, Nat.le_of_ble_eq_true rfl⟩ (lyc rfl) (zw.mono (zsc hL hL3 (sim_aim h hI)) (fun r h1 hr => ?_))
  obtain ⟨⟨v, rfl, G1, S⟩, hL1, hk⟩ := hr
  show zw zNT zNT M_L_law 931 [some (.ref 1003), some (.ref 0), some (.ref 164), some (.int (nI i))] [.int v] h1 Q
  refine z_aload_n (pc := 931) dL_law_931 rfl rfl ?_
  refine z_aload_n (pc := 932) dL_law_932 rfl rfl ?_
  refine z_iload_n (pc := 933) dL_law_933 rfl rfl ?_
  refine z_iconst (pc := 934) (v := 1) dL_law_934 (by decide) ?_
  refine z_iadd (pc := 935) dL_law_935 ?_
  refine q_ldSc (pc := 936) (j := i + 1) (v := rI h 1003 (i + 1)) dL_law_936 hL1 hL3 (nI_add i 1) (by omega) (hk _ (by omega)) ?_
  refine z_aload_n (pc := 937) dL_law_937 rfl rfl ?_
  refine z_iload_n (pc := 938) dL_law_938 rfl rfl ?_
  refine z_iconst (pc := 939) (v := 2) dL_law_939 (by decide) ?_
  refine z_iadd (pc := 940) dL_law_940 ?_
  refine q_ldSc (pc := 941) (j := i + 2) (v := rI h 1003 (i + 2)) dL_law_941 hL1 hL3 (nI_add i 2) (by omega) (hk _ (by omega)) ?_
  refine z_aload_n (pc := 942) dL_law_942 rfl rfl ?_
  refine z_iload_n (pc := 943) dL_law_943 rfl rfl ?_
  refine z_iconst (pc := 944) (v := 3) dL_law_944 (by decide) ?_
  refine z_iadd (pc := 945) dL_law_945 ?_
  refine q_ldSc (pc := 946) (j := i + 3) (v := rI h 1003 (i + 3)) dL_law_946 hL1 hL3 (nI_add i 3) (by omega) (hk _ (by omega)) ?_
  refine q_invV (pc := 947) (As := [.int (rI h 1003 (i + 1)), .int (rI h 1003 (i + 2)), .int (rI h 1003 (i + 3))]) (st := [.int v]) dL_law_947 ok_X11_aim ml_RL_102 iv_X11_aim pa_X11_aim ⟨Nat.le_of_ble_eq_true rfl, Nat.le_of_ble_eq_true rfl⟩ (lyc rfl) (zw.mono (zsc hL1 hL3 S) (fun r h2 hr => ?_))
  obtain ⟨⟨v', rfl, G2, e, hI2⟩, hL2, hk2⟩ := hr
  show zw zNT zNT M_L_law 950 [some (.ref 1003), some (.ref 0), some (.ref 164), some (.int (nI i))] [.int v', .int v] h2 Q
  exact z_icmp_eq (pc := 950) (tgt := 1360) dL_law_950 (by decide) (fun _ => K h2 hI2 hL2) (fun z => absurd e z)
theorem w_next {i L : Nat} {h : zHp} {Q : Option Value → zHp → Prop} (hI : INV h) (hL : rI h 1004 0 = nI L) (hL3 : L ≤ 3072) (hi : i + 6 ≤ L) (K : ∀ h2, INV h2 → rI h2 1004 0 = nI L → zw zNT zNT M_L_law 1360 [some (.ref 1003), some (.ref 0), some (.ref 164), some (.int (nI i))] [] h2 Q) : zw zNT zNT M_L_law 955 [some (.ref 1003), some (.ref 0), some (.ref 164), some (.int (nI i))] [] h Q := by
  refine z_aload_n (pc := 955) dL_law_955 rfl rfl ?_
  refine q_invV (pc := 956) (As := []) (st := []) dL_law_956 ok_X10_next ml_RL_103 iv_X10_next pa_X10_next ⟨Nat.le_of_ble_eq_true rfl, Nat.le_of_ble_eq_true rfl⟩ (lyc rfl) (zw.mono (zsc hL hL3 (sim_next h hI)) (fun r h1 hr => ?_))
  obtain ⟨⟨v, rfl, G1, S⟩, hL1, hk⟩ := hr
  show zw zNT zNT M_L_law 959 [some (.ref 1003), some (.ref 0), some (.ref 164), some (.int (nI i))] [.int v] h1 Q
  refine z_aload_n (pc := 959) dL_law_959 rfl rfl ?_
  refine q_invV (pc := 960) (As := []) (st := [.int v]) dL_law_960 ok_X11_next ml_RL_106 iv_X11_next pa_X11_next ⟨Nat.le_of_ble_eq_true rfl, Nat.le_of_ble_eq_true rfl⟩ (lyc rfl) (zw.mono (zsc hL1 hL3 S) (fun r h2 hr => ?_))
  obtain ⟨⟨v', rfl, G2, e, hI2⟩, hL2, hk2⟩ := hr
  show zw zNT zNT M_L_law 963 [some (.ref 1003), some (.ref 0), some (.ref 164), some (.int (nI i))] [.int v', .int v] h2 Q
  exact z_icmp_eq (pc := 963) (tgt := 1360) dL_law_963 (by decide) (fun _ => K h2 hI2 hL2) (fun z => absurd e z)
theorem w_shown {i L : Nat} {h : zHp} {Q : Option Value → zHp → Prop} (hI : INV h) (hL : rI h 1004 0 = nI L) (hL3 : L ≤ 3072) (hi : i + 6 ≤ L) (K : ∀ h2, INV h2 → rI h2 1004 0 = nI L → zw zNT zNT M_L_law 1360 [some (.ref 1003), some (.ref 0), some (.ref 164), some (.int (nI i))] [] h2 Q) : zw zNT zNT M_L_law 968 [some (.ref 1003), some (.ref 0), some (.ref 164), some (.int (nI i))] [] h Q := by
  refine z_aload_n (pc := 968) dL_law_968 rfl rfl ?_
  refine z_aload_n (pc := 969) dL_law_969 rfl rfl ?_
  refine z_iload_n (pc := 970) dL_law_970 rfl rfl ?_
  refine z_iconst (pc := 971) (v := 1) dL_law_971 (by decide) ?_
  refine z_iadd (pc := 972) dL_law_972 ?_
  refine q_ldSc (pc := 973) (j := i + 1) (v := rI h 1003 (i + 1)) dL_law_973 hL hL3 (nI_add i 1) (by omega) rfl ?_
  refine q_invV (pc := 974) (As := [.int (rI h 1003 (i + 1))]) (st := []) dL_law_974 ok_X10_shown ml_RL_107 iv_X10_shown pa_X10_shown ⟨Nat.le_of_ble_eq_true rfl, Nat.le_of_ble_eq_true rfl⟩ (lyc rfl) (zw.mono (zsc hL hL3 (sim_shown h hI)) (fun r h1 hr => ?_))
  obtain ⟨⟨v, rfl, G1, S⟩, hL1, hk⟩ := hr
  show zw zNT zNT M_L_law 977 [some (.ref 1003), some (.ref 0), some (.ref 164), some (.int (nI i))] [.int v] h1 Q
  refine z_aload_n (pc := 977) dL_law_977 rfl rfl ?_
  refine z_aload_n (pc := 978) dL_law_978 rfl rfl ?_
  refine z_iload_n (pc := 979) dL_law_979 rfl rfl ?_
  refine z_iconst (pc := 980) (v := 1) dL_law_980 (by decide) ?_
  refine z_iadd (pc := 981) dL_law_981 ?_
  refine q_ldSc (pc := 982) (j := i + 1) (v := rI h 1003 (i + 1)) dL_law_982 hL1 hL3 (nI_add i 1) (by omega) (hk _ (by omega)) ?_
  refine q_invV (pc := 983) (As := [.int (rI h 1003 (i + 1))]) (st := [.int v]) dL_law_983 ok_X11_shown ml_RL_110 iv_X11_shown pa_X11_shown ⟨Nat.le_of_ble_eq_true rfl, Nat.le_of_ble_eq_true rfl⟩ (lyc rfl) (zw.mono (zsc hL1 hL3 S) (fun r h2 hr => ?_))
  obtain ⟨⟨v', rfl, G2, e, hI2⟩, hL2, hk2⟩ := hr
  show zw zNT zNT M_L_law 986 [some (.ref 1003), some (.ref 0), some (.ref 164), some (.int (nI i))] [.int v', .int v] h2 Q
  exact z_icmp_eq (pc := 986) (tgt := 1360) dL_law_986 (by decide) (fun _ => K h2 hI2 hL2) (fun z => absurd e z)
theorem w_feed {i L : Nat} {h : zHp} {Q : Option Value → zHp → Prop} (hI : INV h) (hL : rI h 1004 0 = nI L) (hL3 : L ≤ 3072) (hi : i + 6 ≤ L) (K : ∀ h2, INV h2 → rI h2 1004 0 = nI L → zw zNT zNT M_L_law 1360 [some (.ref 1003), some (.ref 0), some (.ref 164), some (.int (nI i))] [] h2 Q) : zw zNT zNT M_L_law 991 [some (.ref 1003), some (.ref 0), some (.ref 164), some (.int (nI i))] [] h Q := by
  refine z_aload_n (pc := 991) dL_law_991 rfl rfl ?_
  refine z_aload_n (pc := 992) dL_law_992 rfl rfl ?_
  refine z_iload_n (pc := 993) dL_law_993 rfl rfl ?_
  refine z_iconst (pc := 994) (v := 1) dL_law_994 (by decide) ?_
  refine z_iadd (pc := 995) dL_law_995 ?_
  refine q_ldSc (pc := 996) (j := i + 1) (v := rI h 1003 (i + 1)) dL_law_996 hL hL3 (nI_add i 1) (by omega) rfl ?_
  refine z_aload_n (pc := 997) dL_law_997 rfl rfl ?_
  refine z_iload_n (pc := 998) dL_law_998 rfl rfl ?_
  refine z_iconst (pc := 999) (v := 2) dL_law_999 (by decide) ?_
  refine z_iadd (pc := 1000) dL_law_1000 ?_
  refine q_ldSc (pc := 1001) (j := i + 2) (v := rI h 1003 (i + 2)) dL_law_1001 hL hL3 (nI_add i 2) (by omega) rfl ?_
  refine q_invV (pc := 1002) (As := [.int (rI h 1003 (i + 1)), .int (rI h 1003 (i + 2))]) (st := []) dL_law_1002 ok_X10_feed ml_RL_111 iv_X10_feed pa_X10_feed ⟨Nat.le_of_ble_eq_true rfl, Nat.le_of_ble_eq_true rfl⟩ (lyc rfl) (zw.mono (zsc hL hL3 (sim_feed h hI)) (fun r h1 hr => ?_))
  obtain ⟨⟨v, rfl, G1, S⟩, hL1, hk⟩ := hr
  show zw zNT zNT M_L_law 1005 [some (.ref 1003), some (.ref 0), some (.ref 164), some (.int (nI i))] [.int v] h1 Q
  refine z_aload_n (pc := 1005) dL_law_1005 rfl rfl ?_
  refine z_aload_n (pc := 1006) dL_law_1006 rfl rfl ?_
  refine z_iload_n (pc := 1007) dL_law_1007 rfl rfl ?_
  refine z_iconst (pc := 1008) (v := 1) dL_law_1008 (by decide) ?_
  refine z_iadd (pc := 1009) dL_law_1009 ?_
  refine q_ldSc (pc := 1010) (j := i + 1) (v := rI h 1003 (i + 1)) dL_law_1010 hL1 hL3 (nI_add i 1) (by omega) (hk _ (by omega)) ?_
  refine z_aload_n (pc := 1011) dL_law_1011 rfl rfl ?_
  refine z_iload_n (pc := 1012) dL_law_1012 rfl rfl ?_
  refine z_iconst (pc := 1013) (v := 2) dL_law_1013 (by decide) ?_
  refine z_iadd (pc := 1014) dL_law_1014 ?_
  refine q_ldSc (pc := 1015) (j := i + 2) (v := rI h 1003 (i + 2)) dL_law_1015 hL1 hL3 (nI_add i 2) (by omega) (hk _ (by omega)) ?_
  refine q_invV (pc := 1016) (As := [.int (rI h 1003 (i + 1)), .int (rI h 1003 (i + 2))]) (st := [.int v]) dL_law_1016 ok_X11_feed ml_RL_114 iv_X11_feed pa_X11_feed ⟨Nat.le_of_ble_eq_true rfl, Nat.le_of_ble_eq_true rfl⟩ (lyc rfl) (zw.mono (zsc hL1 hL3 S) (fun r h2 hr => ?_))
  obtain ⟨⟨v', rfl, G2, e, hI2⟩, hL2, hk2⟩ := hr
  show zw zNT zNT M_L_law 1019 [some (.ref 1003), some (.ref 0), some (.ref 164), some (.int (nI i))] [.int v', .int v] h2 Q
  exact z_icmp_eq (pc := 1019) (tgt := 1360) dL_law_1019 (by decide) (fun _ => K h2 hI2 hL2) (fun z => absurd e z)
theorem w_wipe {i L : Nat} {h : zHp} {Q : Option Value → zHp → Prop} (hI : INV h) (hL : rI h 1004 0 = nI L) (hL3 : L ≤ 3072) (hi : i + 6 ≤ L) (K : ∀ h2, INV h2 → rI h2 1004 0 = nI L → zw zNT zNT M_L_law 1360 [some (.ref 1003), some (.ref 0), some (.ref 164), some (.int (nI i))] [] h2 Q) : zw zNT zNT M_L_law 1024 [some (.ref 1003), some (.ref 0), some (.ref 164), some (.int (nI i))] [] h Q := by
  refine z_aload_n (pc := 1024) dL_law_1024 rfl rfl ?_
  refine q_invV (pc := 1025) (As := []) (st := []) dL_law_1025 ok_X10_wipe ml_RL_115 iv_X10_wipe pa_X10_wipe ⟨Nat.le_of_ble_eq_true rfl, Nat.le_of_ble_eq_true rfl⟩ (lyc rfl) (zw.mono (zsc hL hL3 (sim_wipe h hI)) (fun r h1 hr => ?_))
  obtain ⟨⟨v, rfl, G1, S⟩, hL1, hk⟩ := hr
  show zw zNT zNT M_L_law 1028 [some (.ref 1003), some (.ref 0), some (.ref 164), some (.int (nI i))] [.int v] h1 Q
  refine z_aload_n (pc := 1028) dL_law_1028 rfl rfl ?_
  refine q_invV (pc := 1029) (As := []) (st := [.int v]) dL_law_1029 ok_X11_wipe ml_RL_118 iv_X11_wipe pa_X11_wipe ⟨Nat.le_of_ble_eq_true rfl, Nat.le_of_ble_eq_true rfl⟩ (lyc rfl) (zw.mono (zsc hL1 hL3 S) (fun r h2 hr => ?_))
  obtain ⟨⟨v', rfl, G2, e, hI2⟩, hL2, hk2⟩ := hr
  show zw zNT zNT M_L_law 1032 [some (.ref 1003), some (.ref 0), some (.ref 164), some (.int (nI i))] [.int v', .int v] h2 Q
  exact z_icmp_eq (pc := 1032) (tgt := 1360) dL_law_1032 (by decide) (fun _ => K h2 hI2 hL2) (fun z => absurd e z)
theorem w_text {i L : Nat} {h : zHp} {Q : Option Value → zHp → Prop} (hI : INV h) (hL : rI h 1004 0 = nI L) (hL3 : L ≤ 3072) (hi : i + 6 ≤ L) (K : ∀ h2, INV h2 → rI h2 1004 0 = nI L → zw zNT zNT M_L_law 1360 [some (.ref 1003), some (.ref 0), some (.ref 164), some (.int (nI i))] [] h2 Q) : zw zNT zNT M_L_law 1037 [some (.ref 1003), some (.ref 0), some (.ref 164), some (.int (nI i))] [] h Q := by
  refine z_aload_n (pc := 1037) dL_law_1037 rfl rfl ?_
  refine q_invV (pc := 1038) (As := []) (st := []) dL_law_1038 ok_X10_text ml_RL_119 iv_X10_text pa_X10_text ⟨Nat.le_of_ble_eq_true rfl, Nat.le_of_ble_eq_true rfl⟩ (lyc rfl) (zw.mono (zsc hL hL3 (sim_text h hI)) (fun r h1 hr => ?_))
  obtain ⟨⟨v, rfl, G1, S⟩, hL1, hk⟩ := hr
  show zw zNT zNT M_L_law 1041 [some (.ref 1003), some (.ref 0), some (.ref 164), some (.int (nI i))] [.int v] h1 Q
  refine z_aload_n (pc := 1041) dL_law_1041 rfl rfl ?_
  refine q_invV (pc := 1042) (As := []) (st := [.int v]) dL_law_1042 ok_X11_text ml_RL_122 iv_X11_text pa_X11_text ⟨Nat.le_of_ble_eq_true rfl, Nat.le_of_ble_eq_true rfl⟩ (lyc rfl) (zw.mono (zsc hL1 hL3 S) (fun r h2 hr => ?_))
  obtain ⟨⟨v', rfl, G2, e, hI2⟩, hL2, hk2⟩ := hr
  show zw zNT zNT M_L_law 1045 [some (.ref 1003), some (.ref 0), some (.ref 164), some (.int (nI i))] [.int v', .int v] h2 Q
  exact z_icmp_eq (pc := 1045) (tgt := 1360) dL_law_1045 (by decide) (fun _ => K h2 hI2 hL2) (fun z => absurd e z)
theorem w_tell {i L : Nat} {h : zHp} {Q : Option Value → zHp → Prop} (hI : INV h) (hL : rI h 1004 0 = nI L) (hL3 : L ≤ 3072) (hi : i + 6 ≤ L) (K : ∀ h2, INV h2 → rI h2 1004 0 = nI L → zw zNT zNT M_L_law 1360 [some (.ref 1003), some (.ref 0), some (.ref 164), some (.int (nI i))] [] h2 Q) : zw zNT zNT M_L_law 1050 [some (.ref 1003), some (.ref 0), some (.ref 164), some (.int (nI i))] [] h Q := by
  refine z_aload_n (pc := 1050) dL_law_1050 rfl rfl ?_
  refine z_aload_n (pc := 1051) dL_law_1051 rfl rfl ?_
  refine z_iload_n (pc := 1052) dL_law_1052 rfl rfl ?_
  refine z_iconst (pc := 1053) (v := 1) dL_law_1053 (by decide) ?_
  refine z_iadd (pc := 1054) dL_law_1054 ?_
  refine q_ldSc (pc := 1055) (j := i + 1) (v := rI h 1003 (i + 1)) dL_law_1055 hL hL3 (nI_add i 1) (by omega) rfl ?_
  refine z_aload_n (pc := 1056) dL_law_1056 rfl rfl ?_
  refine z_iload_n (pc := 1057) dL_law_1057 rfl rfl ?_
  refine z_iconst (pc := 1058) (v := 2) dL_law_1058 (by decide) ?_
  refine z_iadd (pc := 1059) dL_law_1059 ?_
  refine q_ldSc (pc := 1060) (j := i + 2) (v := rI h 1003 (i + 2)) dL_law_1060 hL hL3 (nI_add i 2) (by omega) rfl ?_
  refine q_invV (pc := 1061) (As := [.int (rI h 1003 (i + 1)), .int (rI h 1003 (i + 2))]) (st := []) dL_law_1061 ok_X10_tell ml_RL_123 iv_X10_tell pa_X10_tell ⟨Nat.le_of_ble_eq_true rfl, Nat.le_of_ble_eq_true rfl⟩ (lyc rfl) (zw.mono (zsc hL hL3 (sim_tell h hI)) (fun r h1 hr => ?_))
  obtain ⟨⟨v, rfl, G1, S⟩, hL1, hk⟩ := hr
  show zw zNT zNT M_L_law 1064 [some (.ref 1003), some (.ref 0), some (.ref 164), some (.int (nI i))] [.int v] h1 Q
  refine z_aload_n (pc := 1064) dL_law_1064 rfl rfl ?_
  refine z_aload_n (pc := 1065) dL_law_1065 rfl rfl ?_
  refine z_iload_n (pc := 1066) dL_law_1066 rfl rfl ?_
  refine z_iconst (pc := 1067) (v := 1) dL_law_1067 (by decide) ?_
  refine z_iadd (pc := 1068) dL_law_1068 ?_
  refine q_ldSc (pc := 1069) (j := i + 1) (v := rI h 1003 (i + 1)) dL_law_1069 hL1 hL3 (nI_add i 1) (by omega) (hk _ (by omega)) ?_
  refine z_aload_n (pc := 1070) dL_law_1070 rfl rfl ?_
  refine z_iload_n (pc := 1071) dL_law_1071 rfl rfl ?_
  refine z_iconst (pc := 1072) (v := 2) dL_law_1072 (by decide) ?_
  refine z_iadd (pc := 1073) dL_law_1073 ?_
  refine q_ldSc (pc := 1074) (j := i + 2) (v := rI h 1003 (i + 2)) dL_law_1074 hL1 hL3 (nI_add i 2) (by omega) (hk _ (by omega)) ?_
  refine q_invV (pc := 1075) (As := [.int (rI h 1003 (i + 1)), .int (rI h 1003 (i + 2))]) (st := [.int v]) dL_law_1075 ok_X11_tell ml_RL_126 iv_X11_tell pa_X11_tell ⟨Nat.le_of_ble_eq_true rfl, Nat.le_of_ble_eq_true rfl⟩ (lyc rfl) (zw.mono (zsc hL1 hL3 S) (fun r h2 hr => ?_))
  obtain ⟨⟨v', rfl, G2, e, hI2⟩, hL2, hk2⟩ := hr
  show zw zNT zNT M_L_law 1078 [some (.ref 1003), some (.ref 0), some (.ref 164), some (.int (nI i))] [.int v', .int v] h2 Q
  exact z_icmp_eq (pc := 1078) (tgt := 1360) dL_law_1078 (by decide) (fun _ => K h2 hI2 hL2) (fun z => absurd e z)
theorem w_seed {i L : Nat} {h : zHp} {Q : Option Value → zHp → Prop} (hI : INV h) (hL : rI h 1004 0 = nI L) (hL3 : L ≤ 3072) (hi : i + 6 ≤ L) (K : ∀ h2, INV h2 → rI h2 1004 0 = nI L → zw zNT zNT M_L_law 1360 [some (.ref 1003), some (.ref 0), some (.ref 164), some (.int (nI i))] [] h2 Q) : zw zNT zNT M_L_law 1083 [some (.ref 1003), some (.ref 0), some (.ref 164), some (.int (nI i))] [] h Q := by
  refine z_aload_n (pc := 1083) dL_law_1083 rfl rfl ?_
  refine z_aload_n (pc := 1084) dL_law_1084 rfl rfl ?_
  refine z_iload_n (pc := 1085) dL_law_1085 rfl rfl ?_
  refine z_iconst (pc := 1086) (v := 1) dL_law_1086 (by decide) ?_
  refine z_iadd (pc := 1087) dL_law_1087 ?_
  refine q_ldSc (pc := 1088) (j := i + 1) (v := rI h 1003 (i + 1)) dL_law_1088 hL hL3 (nI_add i 1) (by omega) rfl ?_
  refine q_invV (pc := 1089) (As := [.int (rI h 1003 (i + 1))]) (st := []) dL_law_1089 ok_X10_seed ml_RL_127 iv_X10_seed pa_X10_seed ⟨Nat.le_of_ble_eq_true rfl, Nat.le_of_ble_eq_true rfl⟩ (lyc rfl) (zw.mono (zsc hL hL3 (sim_seed h hI)) (fun r h1 hr => ?_))
  obtain ⟨⟨v, rfl, G1, S⟩, hL1, hk⟩ := hr
  show zw zNT zNT M_L_law 1092 [some (.ref 1003), some (.ref 0), some (.ref 164), some (.int (nI i))] [.int v] h1 Q
  refine z_aload_n (pc := 1092) dL_law_1092 rfl rfl ?_
  refine z_aload_n (pc := 1093) dL_law_1093 rfl rfl ?_
  refine z_iload_n (pc := 1094) dL_law_1094 rfl rfl ?_
  refine z_iconst (pc := 1095) (v := 1) dL_law_1095 (by decide) ?_
  refine z_iadd (pc := 1096) dL_law_1096 ?_
  refine q_ldSc (pc := 1097) (j := i + 1) (v := rI h 1003 (i + 1)) dL_law_1097 hL1 hL3 (nI_add i 1) (by omega) (hk _ (by omega)) ?_
  refine q_invV (pc := 1098) (As := [.int (rI h 1003 (i + 1))]) (st := [.int v]) dL_law_1098 ok_X11_seed ml_RL_130 iv_X11_seed pa_X11_seed ⟨Nat.le_of_ble_eq_true rfl, Nat.le_of_ble_eq_true rfl⟩ (lyc rfl) (zw.mono (zsc hL1 hL3 S) (fun r h2 hr => ?_))
  obtain ⟨⟨v', rfl, G2, e, hI2⟩, hL2, hk2⟩ := hr
  show zw zNT zNT M_L_law 1101 [some (.ref 1003), some (.ref 0), some (.ref 164), some (.int (nI i))] [.int v', .int v] h2 Q
  exact z_icmp_eq (pc := 1101) (tgt := 1360) dL_law_1101 (by decide) (fun _ => K h2 hI2 hL2) (fun z => absurd e z)
theorem w_deal {i L : Nat} {h : zHp} {Q : Option Value → zHp → Prop} (hI : INV h) (hL : rI h 1004 0 = nI L) (hL3 : L ≤ 3072) (hi : i + 6 ≤ L) (K : ∀ h2, INV h2 → rI h2 1004 0 = nI L → zw zNT zNT M_L_law 1360 [some (.ref 1003), some (.ref 0), some (.ref 164), some (.int (nI i))] [] h2 Q) : zw zNT zNT M_L_law 1106 [some (.ref 1003), some (.ref 0), some (.ref 164), some (.int (nI i))] [] h Q := by
  refine z_aload_n (pc := 1106) dL_law_1106 rfl rfl ?_
  refine z_aload_n (pc := 1107) dL_law_1107 rfl rfl ?_
  refine z_iload_n (pc := 1108) dL_law_1108 rfl rfl ?_
  refine z_iconst (pc := 1109) (v := 1) dL_law_1109 (by decide) ?_
  refine z_iadd (pc := 1110) dL_law_1110 ?_
  refine q_ldSc (pc := 1111) (j := i + 1) (v := rI h 1003 (i + 1)) dL_law_1111 hL hL3 (nI_add i 1) (by omega) rfl ?_
  refine q_invV (pc := 1112) (As := [.int (rI h 1003 (i + 1))]) (st := []) dL_law_1112 ok_X10_deal ml_RL_131 iv_X10_deal pa_X10_deal ⟨Nat.le_of_ble_eq_true rfl, Nat.le_of_ble_eq_true rfl⟩ (lyc rfl) (zw.mono (zsc hL hL3 (sim_deal h hI)) (fun r h1 hr => ?_))
  obtain ⟨⟨v, rfl, G1, S⟩, hL1, hk⟩ := hr
  show zw zNT zNT M_L_law 1115 [some (.ref 1003), some (.ref 0), some (.ref 164), some (.int (nI i))] [.int v] h1 Q
  refine z_aload_n (pc := 1115) dL_law_1115 rfl rfl ?_
  refine z_aload_n (pc := 1116) dL_law_1116 rfl rfl ?_
  refine z_iload_n (pc := 1117) dL_law_1117 rfl rfl ?_
  refine z_iconst (pc := 1118) (v := 1) dL_law_1118 (by decide) ?_
  refine z_iadd (pc := 1119) dL_law_1119 ?_
  refine q_ldSc (pc := 1120) (j := i + 1) (v := rI h 1003 (i + 1)) dL_law_1120 hL1 hL3 (nI_add i 1) (by omega) (hk _ (by omega)) ?_
  refine q_invV (pc := 1121) (As := [.int (rI h 1003 (i + 1))]) (st := [.int v]) dL_law_1121 ok_X11_deal ml_RL_134 iv_X11_deal pa_X11_deal ⟨Nat.le_of_ble_eq_true rfl, Nat.le_of_ble_eq_true rfl⟩ (lyc rfl) (zw.mono (zsc hL1 hL3 S) (fun r h2 hr => ?_))
  obtain ⟨⟨v', rfl, G2, e, hI2⟩, hL2, hk2⟩ := hr
  show zw zNT zNT M_L_law 1124 [some (.ref 1003), some (.ref 0), some (.ref 164), some (.int (nI i))] [.int v', .int v] h2 Q
  exact z_icmp_eq (pc := 1124) (tgt := 1360) dL_law_1124 (by decide) (fun _ => K h2 hI2 hL2) (fun z => absurd e z)
theorem w_sheet {i L : Nat} {h : zHp} {Q : Option Value → zHp → Prop} (hI : INV h) (hL : rI h 1004 0 = nI L) (hL3 : L ≤ 3072) (hi : i + 6 ≤ L) (K : ∀ h2, INV h2 → rI h2 1004 0 = nI L → zw zNT zNT M_L_law 1360 [some (.ref 1003), some (.ref 0), some (.ref 164), some (.int (nI i))] [] h2 Q) : zw zNT zNT M_L_law 1129 [some (.ref 1003), some (.ref 0), some (.ref 164), some (.int (nI i))] [] h Q := by
  refine z_aload_n (pc := 1129) dL_law_1129 rfl rfl ?_
  refine z_aload_n (pc := 1130) dL_law_1130 rfl rfl ?_
  refine z_iload_n (pc := 1131) dL_law_1131 rfl rfl ?_
  refine z_iconst (pc := 1132) (v := 1) dL_law_1132 (by decide) ?_
  refine z_iadd (pc := 1133) dL_law_1133 ?_
  refine q_ldSc (pc := 1134) (j := i + 1) (v := rI h 1003 (i + 1)) dL_law_1134 hL hL3 (nI_add i 1) (by omega) rfl ?_
  refine z_aload_n (pc := 1135) dL_law_1135 rfl rfl ?_
  refine z_iload_n (pc := 1136) dL_law_1136 rfl rfl ?_
  refine z_iconst (pc := 1137) (v := 2) dL_law_1137 (by decide) ?_
  refine z_iadd (pc := 1138) dL_law_1138 ?_
  refine q_ldSc (pc := 1139) (j := i + 2) (v := rI h 1003 (i + 2)) dL_law_1139 hL hL3 (nI_add i 2) (by omega) rfl ?_
  refine z_aload_n (pc := 1140) dL_law_1140 rfl rfl ?_
  refine z_iload_n (pc := 1141) dL_law_1141 rfl rfl ?_
  refine z_iconst (pc := 1142) (v := 3) dL_law_1142 (by decide) ?_
  refine z_iadd (pc := 1143) dL_law_1143 ?_
  refine q_ldSc (pc := 1144) (j := i + 3) (v := rI h 1003 (i + 3)) dL_law_1144 hL hL3 (nI_add i 3) (by omega) rfl ?_
  refine q_invV (pc := 1145) (As := [.int (rI h 1003 (i + 1)), .int (rI h 1003 (i + 2)), .int (rI h 1003 (i + 3))]) (st := []) dL_law_1145 ok_X10_sheet ml_RL_135 iv_X10_sheet pa_X10_sheet ⟨Nat.le_of_ble_eq_true rfl, Nat.le_of_ble_eq_true rfl⟩ (lyc rfl) (zw.mono (zsc hL hL3 (sim_sheet h hI)) (fun r h1 hr => ?_))
  obtain ⟨⟨v, rfl, G1, S⟩, hL1, hk⟩ := hr
  show zw zNT zNT M_L_law 1148 [some (.ref 1003), some (.ref 0), some (.ref 164), some (.int (nI i))] [.int v] h1 Q
  refine z_aload_n (pc := 1148) dL_law_1148 rfl rfl ?_
  refine z_aload_n (pc := 1149) dL_law_1149 rfl rfl ?_
  refine z_iload_n (pc := 1150) dL_law_1150 rfl rfl ?_
  refine z_iconst (pc := 1151) (v := 1) dL_law_1151 (by decide) ?_
  refine z_iadd (pc := 1152) dL_law_1152 ?_
  refine q_ldSc (pc := 1153) (j := i + 1) (v := rI h 1003 (i + 1)) dL_law_1153 hL1 hL3 (nI_add i 1) (by omega) (hk _ (by omega)) ?_
  refine z_aload_n (pc := 1154) dL_law_1154 rfl rfl ?_
  refine z_iload_n (pc := 1155) dL_law_1155 rfl rfl ?_
  refine z_iconst (pc := 1156) (v := 2) dL_law_1156 (by decide) ?_
  refine z_iadd (pc := 1157) dL_law_1157 ?_
  refine q_ldSc (pc := 1158) (j := i + 2) (v := rI h 1003 (i + 2)) dL_law_1158 hL1 hL3 (nI_add i 2) (by omega) (hk _ (by omega)) ?_
  refine z_aload_n (pc := 1159) dL_law_1159 rfl rfl ?_
  refine z_iload_n (pc := 1160) dL_law_1160 rfl rfl ?_
  refine z_iconst (pc := 1161) (v := 3) dL_law_1161 (by decide) ?_
  refine z_iadd (pc := 1162) dL_law_1162 ?_
  refine q_ldSc (pc := 1163) (j := i + 3) (v := rI h 1003 (i + 3)) dL_law_1163 hL1 hL3 (nI_add i 3) (by omega) (hk _ (by omega)) ?_
  refine q_invV (pc := 1164) (As := [.int (rI h 1003 (i + 1)), .int (rI h 1003 (i + 2)), .int (rI h 1003 (i + 3))]) (st := [.int v]) dL_law_1164 ok_X11_sheet ml_RL_138 iv_X11_sheet pa_X11_sheet ⟨Nat.le_of_ble_eq_true rfl, Nat.le_of_ble_eq_true rfl⟩ (lyc rfl) (zw.mono (zsc hL1 hL3 S) (fun r h2 hr => ?_))
  obtain ⟨⟨v', rfl, G2, e, hI2⟩, hL2, hk2⟩ := hr
  show zw zNT zNT M_L_law 1167 [some (.ref 1003), some (.ref 0), some (.ref 164), some (.int (nI i))] [.int v', .int v] h2 Q
  exact z_icmp_eq (pc := 1167) (tgt := 1360) dL_law_1167 (by decide) (fun _ => K h2 hI2 hL2) (fun z => absurd e z)
theorem w_write {i L : Nat} {h : zHp} {Q : Option Value → zHp → Prop} (hI : INV h) (hL : rI h 1004 0 = nI L) (hL3 : L ≤ 3072) (hi : i + 6 ≤ L) (K : ∀ h2, INV h2 → rI h2 1004 0 = nI L → zw zNT zNT M_L_law 1360 [some (.ref 1003), some (.ref 0), some (.ref 164), some (.int (nI i))] [] h2 Q) : zw zNT zNT M_L_law 1172 [some (.ref 1003), some (.ref 0), some (.ref 164), some (.int (nI i))] [] h Q := by
  refine z_aload_n (pc := 1172) dL_law_1172 rfl rfl ?_
  refine z_aload_n (pc := 1173) dL_law_1173 rfl rfl ?_
  refine z_iload_n (pc := 1174) dL_law_1174 rfl rfl ?_
  refine z_iconst (pc := 1175) (v := 1) dL_law_1175 (by decide) ?_
  refine z_iadd (pc := 1176) dL_law_1176 ?_
  refine q_ldSc (pc := 1177) (j := i + 1) (v := rI h 1003 (i + 1)) dL_law_1177 hL hL3 (nI_add i 1) (by omega) rfl ?_
  refine z_aload_n (pc := 1178) dL_law_1178 rfl rfl ?_
  refine z_iload_n (pc := 1179) dL_law_1179 rfl rfl ?_
  refine z_iconst (pc := 1180) (v := 2) dL_law_1180 (by decide) ?_
  refine z_iadd (pc := 1181) dL_law_1181 ?_
  refine q_ldSc (pc := 1182) (j := i + 2) (v := rI h 1003 (i + 2)) dL_law_1182 hL hL3 (nI_add i 2) (by omega) rfl ?_
  refine z_aload_n (pc := 1183) dL_law_1183 rfl rfl ?_
  refine z_iload_n (pc := 1184) dL_law_1184 rfl rfl ?_
  refine z_iconst (pc := 1185) (v := 3) dL_law_1185 (by decide) ?_
  refine z_iadd (pc := 1186) dL_law_1186 ?_
  refine q_ldSc (pc := 1187) (j := i + 3) (v := rI h 1003 (i + 3)) dL_law_1187 hL hL3 (nI_add i 3) (by omega) rfl ?_
  refine q_invV (pc := 1188) (As := [.int (rI h 1003 (i + 1)), .int (rI h 1003 (i + 2)), .int (rI h 1003 (i + 3))]) (st := []) dL_law_1188 ok_X10_write ml_RL_139 iv_X10_write pa_X10_write ⟨Nat.le_of_ble_eq_true rfl, Nat.le_of_ble_eq_true rfl⟩ (lyc rfl) (zw.mono (zsc hL hL3 (sim_write h hI)) (fun r h1 hr => ?_))
  obtain ⟨⟨v, rfl, G1, S⟩, hL1, hk⟩ := hr
  show zw zNT zNT M_L_law 1191 [some (.ref 1003), some (.ref 0), some (.ref 164), some (.int (nI i))] [.int v] h1 Q
  refine z_aload_n (pc := 1191) dL_law_1191 rfl rfl ?_
  refine z_aload_n (pc := 1192) dL_law_1192 rfl rfl ?_
  refine z_iload_n (pc := 1193) dL_law_1193 rfl rfl ?_
  refine z_iconst (pc := 1194) (v := 1) dL_law_1194 (by decide) ?_
  refine z_iadd (pc := 1195) dL_law_1195 ?_
  refine q_ldSc (pc := 1196) (j := i + 1) (v := rI h 1003 (i + 1)) dL_law_1196 hL1 hL3 (nI_add i 1) (by omega) (hk _ (by omega)) ?_
  refine z_aload_n (pc := 1197) dL_law_1197 rfl rfl ?_
  refine z_iload_n (pc := 1198) dL_law_1198 rfl rfl ?_
  refine z_iconst (pc := 1199) (v := 2) dL_law_1199 (by decide) ?_
  refine z_iadd (pc := 1200) dL_law_1200 ?_
  refine q_ldSc (pc := 1201) (j := i + 2) (v := rI h 1003 (i + 2)) dL_law_1201 hL1 hL3 (nI_add i 2) (by omega) (hk _ (by omega)) ?_
  refine z_aload_n (pc := 1202) dL_law_1202 rfl rfl ?_
  refine z_iload_n (pc := 1203) dL_law_1203 rfl rfl ?_
  refine z_iconst (pc := 1204) (v := 3) dL_law_1204 (by decide) ?_
  refine z_iadd (pc := 1205) dL_law_1205 ?_
  refine q_ldSc (pc := 1206) (j := i + 3) (v := rI h 1003 (i + 3)) dL_law_1206 hL1 hL3 (nI_add i 3) (by omega) (hk _ (by omega)) ?_
  refine q_invV (pc := 1207) (As := [.int (rI h 1003 (i + 1)), .int (rI h 1003 (i + 2)), .int (rI h 1003 (i + 3))]) (st := [.int v]) dL_law_1207 ok_X11_write ml_RL_142 iv_X11_write pa_X11_write ⟨Nat.le_of_ble_eq_true rfl, Nat.le_of_ble_eq_true rfl⟩ (lyc rfl) (zw.mono (zsc hL1 hL3 S) (fun r h2 hr => ?_))
  obtain ⟨⟨v', rfl, G2, e, hI2⟩, hL2, hk2⟩ := hr
  show zw zNT zNT M_L_law 1210 [some (.ref 1003), some (.ref 0), some (.ref 164), some (.int (nI i))] [.int v', .int v] h2 Q
  exact z_icmp_eq (pc := 1210) (tgt := 1360) dL_law_1210 (by decide) (fun _ => K h2 hI2 hL2) (fun z => absurd e z)
theorem w_item {i L : Nat} {h : zHp} {Q : Option Value → zHp → Prop} (hI : INV h) (hL : rI h 1004 0 = nI L) (hL3 : L ≤ 3072) (hi : i + 6 ≤ L) (K : ∀ h2, INV h2 → rI h2 1004 0 = nI L → zw zNT zNT M_L_law 1360 [some (.ref 1003), some (.ref 0), some (.ref 164), some (.int (nI i))] [] h2 Q) : zw zNT zNT M_L_law 1215 [some (.ref 1003), some (.ref 0), some (.ref 164), some (.int (nI i))] [] h Q := by
  refine z_aload_n (pc := 1215) dL_law_1215 rfl rfl ?_
  refine z_aload_n (pc := 1216) dL_law_1216 rfl rfl ?_
  refine z_iload_n (pc := 1217) dL_law_1217 rfl rfl ?_
  refine z_iconst (pc := 1218) (v := 1) dL_law_1218 (by decide) ?_
  refine z_iadd (pc := 1219) dL_law_1219 ?_
  refine q_ldSc (pc := 1220) (j := i + 1) (v := rI h 1003 (i + 1)) dL_law_1220 hL hL3 (nI_add i 1) (by omega) rfl ?_
  refine z_aload_n (pc := 1221) dL_law_1221 rfl rfl ?_
  refine z_iload_n (pc := 1222) dL_law_1222 rfl rfl ?_
  refine z_iconst (pc := 1223) (v := 2) dL_law_1223 (by decide) ?_
  refine z_iadd (pc := 1224) dL_law_1224 ?_
  refine q_ldSc (pc := 1225) (j := i + 2) (v := rI h 1003 (i + 2)) dL_law_1225 hL hL3 (nI_add i 2) (by omega) rfl ?_
  refine q_invV (pc := 1226) (As := [.int (rI h 1003 (i + 1)), .int (rI h 1003 (i + 2))]) (st := []) dL_law_1226 ok_X10_item ml_RL_143 iv_X10_item pa_X10_item ⟨Nat.le_of_ble_eq_true rfl, Nat.le_of_ble_eq_true rfl⟩ (lyc rfl) (zw.mono (zsc hL hL3 (sim_item h hI)) (fun r h1 hr => ?_))
  obtain ⟨⟨v, rfl, G1, S⟩, hL1, hk⟩ := hr
  show zw zNT zNT M_L_law 1229 [some (.ref 1003), some (.ref 0), some (.ref 164), some (.int (nI i))] [.int v] h1 Q
  refine z_aload_n (pc := 1229) dL_law_1229 rfl rfl ?_
  refine z_aload_n (pc := 1230) dL_law_1230 rfl rfl ?_
  refine z_iload_n (pc := 1231) dL_law_1231 rfl rfl ?_
  refine z_iconst (pc := 1232) (v := 1) dL_law_1232 (by decide) ?_
  refine z_iadd (pc := 1233) dL_law_1233 ?_
  refine q_ldSc (pc := 1234) (j := i + 1) (v := rI h 1003 (i + 1)) dL_law_1234 hL1 hL3 (nI_add i 1) (by omega) (hk _ (by omega)) ?_
  refine z_aload_n (pc := 1235) dL_law_1235 rfl rfl ?_
  refine z_iload_n (pc := 1236) dL_law_1236 rfl rfl ?_
  refine z_iconst (pc := 1237) (v := 2) dL_law_1237 (by decide) ?_
  refine z_iadd (pc := 1238) dL_law_1238 ?_
  refine q_ldSc (pc := 1239) (j := i + 2) (v := rI h 1003 (i + 2)) dL_law_1239 hL1 hL3 (nI_add i 2) (by omega) (hk _ (by omega)) ?_
  refine q_invV (pc := 1240) (As := [.int (rI h 1003 (i + 1)), .int (rI h 1003 (i + 2))]) (st := [.int v]) dL_law_1240 ok_X11_item ml_RL_146 iv_X11_item pa_X11_item ⟨Nat.le_of_ble_eq_true rfl, Nat.le_of_ble_eq_true rfl⟩ (lyc rfl) (zw.mono (zsc hL1 hL3 S) (fun r h2 hr => ?_))
  obtain ⟨⟨v', rfl, G2, e, hI2⟩, hL2, hk2⟩ := hr
  show zw zNT zNT M_L_law 1243 [some (.ref 1003), some (.ref 0), some (.ref 164), some (.int (nI i))] [.int v', .int v] h2 Q
  exact z_icmp_eq (pc := 1243) (tgt := 1360) dL_law_1243 (by decide) (fun _ => K h2 hI2 hL2) (fun z => absurd e z)
theorem w_copy {i L : Nat} {h : zHp} {Q : Option Value → zHp → Prop} (hI : INV h) (hL : rI h 1004 0 = nI L) (hL3 : L ≤ 3072) (hi : i + 6 ≤ L) (K : ∀ h2, INV h2 → rI h2 1004 0 = nI L → zw zNT zNT M_L_law 1360 [some (.ref 1003), some (.ref 0), some (.ref 164), some (.int (nI i))] [] h2 Q) : zw zNT zNT M_L_law 1248 [some (.ref 1003), some (.ref 0), some (.ref 164), some (.int (nI i))] [] h Q := by
  refine z_aload_n (pc := 1248) dL_law_1248 rfl rfl ?_
  refine z_aload_n (pc := 1249) dL_law_1249 rfl rfl ?_
  refine z_iload_n (pc := 1250) dL_law_1250 rfl rfl ?_
  refine z_iconst (pc := 1251) (v := 1) dL_law_1251 (by decide) ?_
  refine z_iadd (pc := 1252) dL_law_1252 ?_
  refine q_ldSc (pc := 1253) (j := i + 1) (v := rI h 1003 (i + 1)) dL_law_1253 hL hL3 (nI_add i 1) (by omega) rfl ?_
  refine z_aload_n (pc := 1254) dL_law_1254 rfl rfl ?_
  refine z_iload_n (pc := 1255) dL_law_1255 rfl rfl ?_
  refine z_iconst (pc := 1256) (v := 2) dL_law_1256 (by decide) ?_
  refine z_iadd (pc := 1257) dL_law_1257 ?_
  refine q_ldSc (pc := 1258) (j := i + 2) (v := rI h 1003 (i + 2)) dL_law_1258 hL hL3 (nI_add i 2) (by omega) rfl ?_
  refine z_aload_n (pc := 1259) dL_law_1259 rfl rfl ?_
  refine z_iload_n (pc := 1260) dL_law_1260 rfl rfl ?_
  refine z_iconst (pc := 1261) (v := 3) dL_law_1261 (by decide) ?_
  refine z_iadd (pc := 1262) dL_law_1262 ?_
  refine q_ldSc (pc := 1263) (j := i + 3) (v := rI h 1003 (i + 3)) dL_law_1263 hL hL3 (nI_add i 3) (by omega) rfl ?_
  refine z_aload_n (pc := 1264) dL_law_1264 rfl rfl ?_
  refine z_iload_n (pc := 1265) dL_law_1265 rfl rfl ?_
  refine z_iconst (pc := 1266) (v := 4) dL_law_1266 (by decide) ?_
  refine z_iadd (pc := 1267) dL_law_1267 ?_
  refine q_ldSc (pc := 1268) (j := i + 4) (v := rI h 1003 (i + 4)) dL_law_1268 hL hL3 (nI_add i 4) (by omega) rfl ?_
  refine z_aload_n (pc := 1269) dL_law_1269 rfl rfl ?_
  refine z_iload_n (pc := 1270) dL_law_1270 rfl rfl ?_
  refine z_iconst (pc := 1271) (v := 5) dL_law_1271 (by decide) ?_
  refine z_iadd (pc := 1272) dL_law_1272 ?_
  refine q_ldSc (pc := 1273) (j := i + 5) (v := rI h 1003 (i + 5)) dL_law_1273 hL hL3 (nI_add i 5) (by omega) rfl ?_
  refine q_invV (pc := 1274) (As := [.int (rI h 1003 (i + 1)), .int (rI h 1003 (i + 2)), .int (rI h 1003 (i + 3)), .int (rI h 1003 (i + 4)), .int (rI h 1003 (i + 5))]) (st := []) dL_law_1274 ok_X10_copy ml_RL_147 iv_X10_copy pa_X10_copy ⟨Nat.le_of_ble_eq_true rfl, Nat.le_of_ble_eq_true rfl⟩ (lyc rfl) (zw.mono (zsc hL hL3 (sim_copy h hI)) (fun r h1 hr => ?_))
  obtain ⟨⟨v, rfl, G1, S⟩, hL1, hk⟩ := hr
  show zw zNT zNT M_L_law 1277 [some (.ref 1003), some (.ref 0), some (.ref 164), some (.int (nI i))] [.int v] h1 Q
  refine z_aload_n (pc := 1277) dL_law_1277 rfl rfl ?_
  refine z_aload_n (pc := 1278) dL_law_1278 rfl rfl ?_
  refine z_iload_n (pc := 1279) dL_law_1279 rfl rfl ?_
  refine z_iconst (pc := 1280) (v := 1) dL_law_1280 (by decide) ?_
  refine z_iadd (pc := 1281) dL_law_1281 ?_
  refine q_ldSc (pc := 1282) (j := i + 1) (v := rI h 1003 (i + 1)) dL_law_1282 hL1 hL3 (nI_add i 1) (by omega) (hk _ (by omega)) ?_
  refine z_aload_n (pc := 1283) dL_law_1283 rfl rfl ?_
  refine z_iload_n (pc := 1284) dL_law_1284 rfl rfl ?_
  refine z_iconst (pc := 1285) (v := 2) dL_law_1285 (by decide) ?_
  refine z_iadd (pc := 1286) dL_law_1286 ?_
  refine q_ldSc (pc := 1287) (j := i + 2) (v := rI h 1003 (i + 2)) dL_law_1287 hL1 hL3 (nI_add i 2) (by omega) (hk _ (by omega)) ?_
  refine z_aload_n (pc := 1288) dL_law_1288 rfl rfl ?_
  refine z_iload_n (pc := 1289) dL_law_1289 rfl rfl ?_
  refine z_iconst (pc := 1290) (v := 3) dL_law_1290 (by decide) ?_
  refine z_iadd (pc := 1291) dL_law_1291 ?_
  refine q_ldSc (pc := 1292) (j := i + 3) (v := rI h 1003 (i + 3)) dL_law_1292 hL1 hL3 (nI_add i 3) (by omega) (hk _ (by omega)) ?_
  refine z_aload_n (pc := 1293) dL_law_1293 rfl rfl ?_
  refine z_iload_n (pc := 1294) dL_law_1294 rfl rfl ?_
  refine z_iconst (pc := 1295) (v := 4) dL_law_1295 (by decide) ?_
  refine z_iadd (pc := 1296) dL_law_1296 ?_
  refine q_ldSc (pc := 1297) (j := i + 4) (v := rI h 1003 (i + 4)) dL_law_1297 hL1 hL3 (nI_add i 4) (by omega) (hk _ (by omega)) ?_
  refine z_aload_n (pc := 1298) dL_law_1298 rfl rfl ?_
  refine z_iload_n (pc := 1299) dL_law_1299 rfl rfl ?_
  refine z_iconst (pc := 1300) (v := 5) dL_law_1300 (by decide) ?_
  refine z_iadd (pc := 1301) dL_law_1301 ?_
  refine q_ldSc (pc := 1302) (j := i + 5) (v := rI h 1003 (i + 5)) dL_law_1302 hL1 hL3 (nI_add i 5) (by omega) (hk _ (by omega)) ?_
  refine q_invV (pc := 1303) (As := [.int (rI h 1003 (i + 1)), .int (rI h 1003 (i + 2)), .int (rI h 1003 (i + 3)), .int (rI h 1003 (i + 4)), .int (rI h 1003 (i + 5))]) (st := [.int v]) dL_law_1303 ok_X11_copy ml_RL_150 iv_X11_copy pa_X11_copy ⟨Nat.le_of_ble_eq_true rfl, Nat.le_of_ble_eq_true rfl⟩ (lyc rfl) (zw.mono (zsc hL1 hL3 S) (fun r h2 hr => ?_))
  obtain ⟨⟨v', rfl, G2, e, hI2⟩, hL2, hk2⟩ := hr
  show zw zNT zNT M_L_law 1306 [some (.ref 1003), some (.ref 0), some (.ref 164), some (.int (nI i))] [.int v', .int v] h2 Q
  exact z_icmp_eq (pc := 1306) (tgt := 1360) dL_law_1306 (by decide) (fun _ => K h2 hI2 hL2) (fun z => absurd e z)
theorem w_image {i L : Nat} {h : zHp} {Q : Option Value → zHp → Prop} (hI : INV h) (hL : rI h 1004 0 = nI L) (hL3 : L ≤ 3072) (hi : i + 6 ≤ L) (K : ∀ h2, INV h2 → rI h2 1004 0 = nI L → zw zNT zNT M_L_law 1360 [some (.ref 1003), some (.ref 0), some (.ref 164), some (.int (nI i))] [] h2 Q) : zw zNT zNT M_L_law 1311 [some (.ref 1003), some (.ref 0), some (.ref 164), some (.int (nI i))] [] h Q := by
  refine z_aload_n (pc := 1311) dL_law_1311 rfl rfl ?_
  refine q_invV (pc := 1312) (As := []) (st := []) dL_law_1312 ok_X10_image ml_RL_151 iv_X10_image pa_X10_image ⟨Nat.le_of_ble_eq_true rfl, Nat.le_of_ble_eq_true rfl⟩ (lyc rfl) (zw.mono (zsc hL hL3 (sim_image h hI)) (fun r h1 hr => ?_))
  obtain ⟨⟨v, rfl, G1, S⟩, hL1, hk⟩ := hr
  show zw zNT zNT M_L_law 1315 [some (.ref 1003), some (.ref 0), some (.ref 164), some (.int (nI i))] [.int v] h1 Q
  refine z_aload_n (pc := 1315) dL_law_1315 rfl rfl ?_
  refine q_invV (pc := 1316) (As := []) (st := [.int v]) dL_law_1316 ok_X11_image ml_RL_154 iv_X11_image pa_X11_image ⟨Nat.le_of_ble_eq_true rfl, Nat.le_of_ble_eq_true rfl⟩ (lyc rfl) (zw.mono (zsc hL1 hL3 S) (fun r h2 hr => ?_))
  obtain ⟨⟨v', rfl, G2, e, hI2⟩, hL2, hk2⟩ := hr
  show zw zNT zNT M_L_law 1319 [some (.ref 1003), some (.ref 0), some (.ref 164), some (.int (nI i))] [.int v', .int v] h2 Q
  exact z_icmp_eq (pc := 1319) (tgt := 1360) dL_law_1319 (by decide) (fun _ => K h2 hI2 hL2) (fun z => absurd e z)
theorem w_back {i L : Nat} {h : zHp} {Q : Option Value → zHp → Prop} (hI : INV h) (hL : rI h 1004 0 = nI L) (hL3 : L ≤ 3072) (hi : i + 6 ≤ L) (K : ∀ h2, INV h2 → rI h2 1004 0 = nI L → zw zNT zNT M_L_law 1360 [some (.ref 1003), some (.ref 0), some (.ref 164), some (.int (nI i))] [] h2 Q) : zw zNT zNT M_L_law 1324 [some (.ref 1003), some (.ref 0), some (.ref 164), some (.int (nI i))] [] h Q := by
  refine z_aload_n (pc := 1324) dL_law_1324 rfl rfl ?_
  refine q_invV (pc := 1325) (As := []) (st := []) dL_law_1325 ok_X10_back ml_RL_155 iv_X10_back pa_X10_back ⟨Nat.le_of_ble_eq_true rfl, Nat.le_of_ble_eq_true rfl⟩ (lyc rfl) (zw.mono (zsc hL hL3 (sim_back h hI)) (fun r h1 hr => ?_))
  obtain ⟨⟨v, rfl, G1, S⟩, hL1, hk⟩ := hr
  show zw zNT zNT M_L_law 1328 [some (.ref 1003), some (.ref 0), some (.ref 164), some (.int (nI i))] [.int v] h1 Q
  refine z_aload_n (pc := 1328) dL_law_1328 rfl rfl ?_
  refine q_invV (pc := 1329) (As := []) (st := [.int v]) dL_law_1329 ok_X11_back ml_RL_158 iv_X11_back pa_X11_back ⟨Nat.le_of_ble_eq_true rfl, Nat.le_of_ble_eq_true rfl⟩ (lyc rfl) (zw.mono (zsc hL1 hL3 S) (fun r h2 hr => ?_))
  obtain ⟨⟨v', rfl, G2, e, hI2⟩, hL2, hk2⟩ := hr
  show zw zNT zNT M_L_law 1332 [some (.ref 1003), some (.ref 0), some (.ref 164), some (.int (nI i))] [.int v', .int v] h2 Q
  exact z_icmp_eq (pc := 1332) (tgt := 1360) dL_law_1332 (by decide) (fun _ => K h2 hI2 hL2) (fun z => absurd e z)
theorem w_count {i L : Nat} {h : zHp} {Q : Option Value → zHp → Prop} (hI : INV h) (hL : rI h 1004 0 = nI L) (hL3 : L ≤ 3072) (hi : i + 6 ≤ L) (K : ∀ h2, INV h2 → rI h2 1004 0 = nI L → zw zNT zNT M_L_law 1360 [some (.ref 1003), some (.ref 0), some (.ref 164), some (.int (nI i))] [] h2 Q) : zw zNT zNT M_L_law 1337 [some (.ref 1003), some (.ref 0), some (.ref 164), some (.int (nI i))] [] h Q := by
  refine z_aload_n (pc := 1337) dL_law_1337 rfl rfl ?_
  refine z_aload_n (pc := 1338) dL_law_1338 rfl rfl ?_
  refine z_iload_n (pc := 1339) dL_law_1339 rfl rfl ?_
  refine z_iconst (pc := 1340) (v := 1) dL_law_1340 (by decide) ?_
  refine z_iadd (pc := 1341) dL_law_1341 ?_
  refine q_ldSc (pc := 1342) (j := i + 1) (v := rI h 1003 (i + 1)) dL_law_1342 hL hL3 (nI_add i 1) (by omega) rfl ?_
  refine q_invV (pc := 1343) (As := [.int (rI h 1003 (i + 1))]) (st := []) dL_law_1343 ok_X10_count ml_RL_159 iv_X10_count pa_X10_count ⟨Nat.le_of_ble_eq_true rfl, Nat.le_of_ble_eq_true rfl⟩ (lyc rfl) (zw.mono (zsc hL hL3 (sim_count h hI)) (fun r h1 hr => ?_))
  obtain ⟨⟨v, rfl, G1, S⟩, hL1, hk⟩ := hr
  show zw zNT zNT M_L_law 1346 [some (.ref 1003), some (.ref 0), some (.ref 164), some (.int (nI i))] [.int v] h1 Q
  refine z_aload_n (pc := 1346) dL_law_1346 rfl rfl ?_
  refine z_aload_n (pc := 1347) dL_law_1347 rfl rfl ?_
  refine z_iload_n (pc := 1348) dL_law_1348 rfl rfl ?_
  refine z_iconst (pc := 1349) (v := 1) dL_law_1349 (by decide) ?_
  refine z_iadd (pc := 1350) dL_law_1350 ?_
  refine q_ldSc (pc := 1351) (j := i + 1) (v := rI h 1003 (i + 1)) dL_law_1351 hL1 hL3 (nI_add i 1) (by omega) (hk _ (by omega)) ?_
  refine q_invV (pc := 1352) (As := [.int (rI h 1003 (i + 1))]) (st := [.int v]) dL_law_1352 ok_X11_count ml_RL_162 iv_X11_count pa_X11_count ⟨Nat.le_of_ble_eq_true rfl, Nat.le_of_ble_eq_true rfl⟩ (lyc rfl) (zw.mono (zsc hL1 hL3 S) (fun r h2 hr => ?_))
  obtain ⟨⟨v', rfl, G2, e, hI2⟩, hL2, hk2⟩ := hr
  show zw zNT zNT M_L_law 1355 [some (.ref 1003), some (.ref 0), some (.ref 164), some (.int (nI i))] [.int v', .int v] h2 Q
  exact z_icmp_eq (pc := 1355) (tgt := 1360) dL_law_1355 (by decide) (fun _ => K h2 hI2 hL2) (fun z => absurd e z)
theorem law_sw {i L : Nat} {h : zHp} {x : Int32} {Q : Option Value → zHp → Prop} (hI : INV h) (hL : rI h 1004 0 = nI L) (hL3 : L ≤ 3072) (hi : i + 6 ≤ L) (K : ∀ h2, INV h2 → rI h2 1004 0 = nI L → zw zNT zNT M_L_law 1360 [some (.ref 1003), some (.ref 0), some (.ref 164), some (.int (nI i))] [] h2 Q) : zw zNT zNT M_L_law 33 [some (.ref 1003), some (.ref 0), some (.ref 164), some (.int (nI i))] [.int x] h Q := by
  by_cases hx : x.toInt < 0 ∨ 35 < x.toInt
  · exact z_tableOut (pc := 33) (tgt := 1360) dL_law_33 hx (by decide) (K h hI hL)
  · obtain ⟨n, hn, rfl⟩ : ∃ n : Nat, n < 36 ∧ x = nI n := by
      refine ⟨x.toInt.toNat, by omega, Int32.toInt_inj.mp ?_⟩
      rw [nI_toInt (by omega)]
      omega
    clear hx
    rcases (show n = 0 ∨ n = 1 ∨ n = 2 ∨ n = 3 ∨ n = 4 ∨ n = 5 ∨ n = 6 ∨ n = 7 ∨ n = 8 ∨ n = 9 ∨ n = 10 ∨ n = 11 ∨ n = 12 ∨ n = 13 ∨ n = 14 ∨ n = 15 ∨ n = 16 ∨ n = 17 ∨ n = 18 ∨ n = 19 ∨ n = 20 ∨ n = 21 ∨ n = 22 ∨ n = 23 ∨ n = 24 ∨ n = 25 ∨ n = 26 ∨ n = 27 ∨ n = 28 ∨ n = 29 ∨ n = 30 ∨ n = 31 ∨ n = 32 ∨ n = 33 ∨ n = 34 ∨ n = 35 by omega) with rfl | rfl | rfl | rfl | rfl | rfl | rfl | rfl | rfl | rfl | rfl | rfl | rfl | rfl | rfl | rfl | rfl | rfl | rfl | rfl | rfl | rfl | rfl | rfl | rfl | rfl | rfl | rfl | rfl | rfl | rfl | rfl | rfl | rfl | rfl | rfl
    · exact z_tableIn (pc := 33) (x := nI 0) (tgt := 192) (off := 159) dL_law_33 (by decide) (by decide) (by decide) (by decide) (w_clear hI hL hL3 hi K)
    · exact z_tableIn (pc := 33) (x := nI 1) (tgt := 205) (off := 172) dL_law_33 (by decide) (by decide) (by decide) (by decide) (w_thing hI hL hL3 hi K)
    · exact z_tableIn (pc := 33) (x := nI 2) (tgt := 258) (off := 225) dL_law_33 (by decide) (by decide) (by decide) (by decide) (w_of hI hL hL3 hi K)
    · exact z_tableIn (pc := 33) (x := nI 3) (tgt := 291) (off := 258) dL_law_33 (by decide) (by decide) (by decide) (by decide) (w_now hI hL hL3 hi K)
    · exact z_tableIn (pc := 33) (x := nI 4) (tgt := 324) (off := 291) dL_law_33 (by decide) (by decide) (by decide) (by decide) (w_set hI hL hL3 hi K)
    · exact z_tableIn (pc := 33) (x := nI 5) (tgt := 367) (off := 334) dL_law_33 (by decide) (by decide) (by decide) (by decide) (w_scope hI hL hL3 hi K)
    · exact z_tableIn (pc := 33) (x := nI 6) (tgt := 400) (off := 367) dL_law_33 (by decide) (by decide) (by decide) (by decide) (w_effect hI hL hL3 hi K)
    · exact z_tableIn (pc := 33) (x := nI 7) (tgt := 463) (off := 430) dL_law_33 (by decide) (by decide) (by decide) (by decide) (w_source hI hL hL3 hi K)
    · exact z_tableIn (pc := 33) (x := nI 8) (tgt := 496) (off := 463) dL_law_33 (by decide) (by decide) (by decide) (by decide) (w_lasts hI hL hL3 hi K)
    · exact z_tableIn (pc := 33) (x := nI 9) (tgt := 529) (off := 496) dL_law_33 (by decide) (by decide) (by decide) (by decide) (w_ends hI hL hL3 hi K)
    · exact z_tableIn (pc := 33) (x := nI 10) (tgt := 552) (off := 519) dL_law_33 (by decide) (by decide) (by decide) (by decide) (w_order hI hL hL3 hi K)
    · exact z_tableIn (pc := 33) (x := nI 11) (tgt := 575) (off := 542) dL_law_33 (by decide) (by decide) (by decide) (by decide) (w_depends hI hL hL3 hi K)
    · exact z_tableIn (pc := 33) (x := nI 12) (tgt := 608) (off := 575) dL_law_33 (by decide) (by decide) (by decide) (by decide) (w_rule hI hL hL3 hi K)
    · exact z_tableIn (pc := 33) (x := nI 13) (tgt := 661) (off := 628) dL_law_33 (by decide) (by decide) (by decide) (by decide) (w_ruleOf hI hL hL3 hi K)
    · exact z_tableIn (pc := 33) (x := nI 14) (tgt := 694) (off := 661) dL_law_33 (by decide) (by decide) (by decide) (by decide) (w_unrule hI hL hL3 hi K)
    · exact z_tableIn (pc := 33) (x := nI 15) (tgt := 717) (off := 684) dL_law_33 (by decide) (by decide) (by decide) (by decide) (w_choice hI hL hL3 hi K)
    · exact z_tableIn (pc := 33) (x := nI 16) (tgt := 750) (off := 717) dL_law_33 (by decide) (by decide) (by decide) (by decide) (w_watch hI hL hL3 hi K)
    · exact z_tableIn (pc := 33) (x := nI 17) (tgt := 813) (off := 780) dL_law_33 (by decide) (by decide) (by decide) (by decide) (w_watches hI hL hL3 hi K)
    · exact z_tableIn (pc := 33) (x := nI 18) (tgt := 856) (off := 823) dL_law_33 (by decide) (by decide) (by decide) (by decide) (w_unwatch hI hL hL3 hi K)
    · exact z_tableIn (pc := 33) (x := nI 19) (tgt := 879) (off := 846) dL_law_33 (by decide) (by decide) (by decide) (by decide) (w_hurt hI hL hL3 hi K)
    · exact z_tableIn (pc := 33) (x := nI 20) (tgt := 912) (off := 879) dL_law_33 (by decide) (by decide) (by decide) (by decide) (w_aim hI hL hL3 hi K)
    · exact z_tableIn (pc := 33) (x := nI 21) (tgt := 955) (off := 922) dL_law_33 (by decide) (by decide) (by decide) (by decide) (w_next hI hL hL3 hi K)
    · exact z_tableIn (pc := 33) (x := nI 22) (tgt := 968) (off := 935) dL_law_33 (by decide) (by decide) (by decide) (by decide) (w_shown hI hL hL3 hi K)
    · exact z_tableIn (pc := 33) (x := nI 23) (tgt := 991) (off := 958) dL_law_33 (by decide) (by decide) (by decide) (by decide) (w_feed hI hL hL3 hi K)
    · exact z_tableIn (pc := 33) (x := nI 24) (tgt := 1024) (off := 991) dL_law_33 (by decide) (by decide) (by decide) (by decide) (w_wipe hI hL hL3 hi K)
    · exact z_tableIn (pc := 33) (x := nI 25) (tgt := 1037) (off := 1004) dL_law_33 (by decide) (by decide) (by decide) (by decide) (w_text hI hL hL3 hi K)
    · exact z_tableIn (pc := 33) (x := nI 26) (tgt := 1050) (off := 1017) dL_law_33 (by decide) (by decide) (by decide) (by decide) (w_tell hI hL hL3 hi K)
    · exact z_tableIn (pc := 33) (x := nI 27) (tgt := 1083) (off := 1050) dL_law_33 (by decide) (by decide) (by decide) (by decide) (w_seed hI hL hL3 hi K)
    · exact z_tableIn (pc := 33) (x := nI 28) (tgt := 1106) (off := 1073) dL_law_33 (by decide) (by decide) (by decide) (by decide) (w_deal hI hL hL3 hi K)
    · exact z_tableIn (pc := 33) (x := nI 29) (tgt := 1129) (off := 1096) dL_law_33 (by decide) (by decide) (by decide) (by decide) (w_sheet hI hL hL3 hi K)
    · exact z_tableIn (pc := 33) (x := nI 30) (tgt := 1172) (off := 1139) dL_law_33 (by decide) (by decide) (by decide) (by decide) (w_write hI hL hL3 hi K)
    · exact z_tableIn (pc := 33) (x := nI 31) (tgt := 1215) (off := 1182) dL_law_33 (by decide) (by decide) (by decide) (by decide) (w_item hI hL hL3 hi K)
    · exact z_tableIn (pc := 33) (x := nI 32) (tgt := 1248) (off := 1215) dL_law_33 (by decide) (by decide) (by decide) (by decide) (w_copy hI hL hL3 hi K)
    · exact z_tableIn (pc := 33) (x := nI 33) (tgt := 1311) (off := 1278) dL_law_33 (by decide) (by decide) (by decide) (by decide) (w_image hI hL hL3 hi K)
    · exact z_tableIn (pc := 33) (x := nI 34) (tgt := 1324) (off := 1291) dL_law_33 (by decide) (by decide) (by decide) (by decide) (w_back hI hL hL3 hi K)
    · exact z_tableIn (pc := 33) (x := nI 35) (tgt := 1337) (off := 1304) dL_law_33 (by decide) (by decide) (by decide) (by decide) (w_count hI hL hL3 hi K)
theorem law_loop {L : Nat} (hL3 : L ≤ 3072) {Q : Option Value → zHp → Prop} (hQ : ∀ h, Q (some (.int 1)) h) : ∀ (d i : Nat) (h : zHp), L + 6 - i ≤ d → i ≤ L + 5 → INV h → rI h 1004 0 = nI L → zw zNT zNT M_L_law 18 [some (.ref 1003), some (.ref 0), some (.ref 164), some (.int (nI i))] [] h Q := by
  intro d
  induction d with
  | zero => intro i h hd hi; omega
  | succ d ih =>
    intro i h hd hi hI hL
    refine z_iload_n (pc := 18) dL_law_18 rfl rfl ?_
    refine z_aload_n (pc := 19) dL_law_19 rfl rfl ?_
    refine z_lenSc (pc := 20) dL_law_20 ?_
    rw [hL]
    refine z_bipush (pc := 21) (v := 6) dL_law_21 (by decide) ?_
    refine z_isub (pc := 23) dL_law_23 ?_
    have e6 : (nI L - 6).toInt = (L : Int) - 6 := by
      have h6 : (6 : Int32).toInt = 6 := by decide
      have hl := nI_toInt (n := L) (by omega)
      rw [ti_sub (by omega) (by omega), h6, hl]
    have ei := nI_toInt (n := i) (by omega)
    refine z_icmp_gt (pc := 24) (tgt := 1366) dL_law_24 (by decide) (fun k => ?_) (fun k => ?_)
    · refine z_iconst (pc := 1366) (v := 1) dL_law_1366 (by decide) ?_
      exact z_ireturn (pc := 1367) dL_law_1367 rfl (zRetB (Or.inr rfl)) (hQ h)
    · have hi6 : i + 6 ≤ L := by
        rw [Int32.lt_iff_toInt_lt] at k
        omega
      refine z_aload_n (pc := 27) dL_law_27 rfl rfl ?_
      refine z_iload_n (pc := 28) dL_law_28 rfl rfl ?_
      refine q_ldSc (pc := 29) (j := i) (v := rI h 1003 i) dL_law_29 hL hL3 rfl (by omega) rfl ?_
      refine z_bipush (pc := 30) (v := 63) dL_law_30 (by decide) ?_
      refine z_iand (pc := 32) dL_law_32 ?_
      refine law_sw hI hL hL3 hi6 (fun h2 hI2 hL2 => ?_)
      refine z_iinc (pc := 1360) (v := nI (i + 6)) (ls' := [some (.ref 1003), some (.ref 0), some (.ref 164), some (.int (nI (i + 6)))]) dL_law_1360 (by decide) rfl (nI_add i 6) rfl ?_
      refine z_goto (pc := 1363) (tgt := 18) dL_law_1363 (by decide) ?_
      exact ih (i + 6) h2 (by omega) (by omega) hI2 hL2

