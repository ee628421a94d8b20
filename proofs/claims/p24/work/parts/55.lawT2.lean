/-! the law: told, whole -/
section TOLD
variable {G : mG} {S : mS} {N : mN} {t b q kc ks : Nat} {x1 x2 x3 x6 x7 : Int32} {Q : Option Int32 → mS → Prop} {f : Nat → Int32}
theorem lp_told2 (hN : NI N b) (hS : LI S N) (ht : t < cnt N) (hf : ∀ h, h < 5 → f h = mkm (fun i => knB (N.2 t) i && ((N.2 t).2.1 i == nI h)) 16) (hx : Lt G 8 240 5 25 M_L_told Q 249 [(0, rv G 0), (1, .int x1), (2, .int x2), (3, .int x3), (4, .int (nI t)), (5, .ref q), (6, .int x6), (7, .int x7)] [] (S, [(q, 5, f)], kc, ks)) : ∀ n k, n + k = 5 → Lt G 8 240 5 25 M_L_told Q 217 [(0, rv G 0), (1, .int x1), (2, .int x2), (3, .int x3), (4, .int (nI t)), (5, .ref q), (6, .int x6), (7, .int x7), (8, .int (nI k))] [] (S, [(q, 5, f)], kc, ks) := by
  have hW := hN.1
  have hWT := (hN.2.1 t ht).1
  intro n
  induction n with
  | zero =>
    intro k hk
    obtain rfl : k = 5 := by omega
    refine z_iload dL_told_217 8 rfl ?_
    refine z_iconst dL_told_219 (v := 5) rfl ?_
    refine z_icmp_ge dL_told_220 (tgt := 249) (by decide) (fun h220 => ?_) (fun h220 => by first | exact absurd (show (5 : Int32) ≤ nI 5 by decide) h220 | exact absurd h220 (show (5 : Int32) ≤ nI 5 by decide))
    exact z_sub [0, 1, 2, 3, 4, 5, 6, 7] rfl hx
  | succ n ih =>
    intro k hk
    have hk5 : k < 5 := by omega
    have b220 : ¬ (5 : Int32) ≤ nI k := nI_ge (b := 5) hk5 (by decide)
    obtain ⟨-, -, -, -, -, o5, o6, o7, o8, o9, -⟩ := oft hW ht
    have cq : Call G 7 M_X4_ofTroop [rv G 0, .int (nI t), .int (5 + nI k)] S (fun v u => v = some (f k) ∧ u = S) := by
      refine q_t hW hS ?_
      rw [hf k hk5]
      rcases (by omega : k = 0 ∨ k = 1 ∨ k = 2 ∨ k = 3 ∨ k = 4) with rfl | rfl | rfl | rfl | rfl
      · rw [(f_sets hWT).1]; exact o5
      · rw [(f_sets hWT).2 1 (by omega) (by omega)]; exact o6
      · rw [(f_sets hWT).2 2 (by omega) (by omega)]; exact o7
      · rw [(f_sets hWT).2 3 (by omega) (by omega)]; exact o8
      · rw [(f_sets hWT).2 4 (by omega) (by omega)]; exact o9
    refine z_iload dL_told_217 8 rfl ?_
    refine z_iconst dL_told_219 (v := 5) rfl ?_
    refine z_icmp_ge dL_told_220 (tgt := 249) (by decide) (fun h220 => by first | exact absurd (b220) h220 | exact absurd h220 (b220)) (fun h220 => ?_)
    refine z_aload_n dL_told_223 0 rfl ?_
    refine z_iload dL_told_224 4 rfl ?_
    refine z_iconst dL_told_226 (v := 5) rfl ?_
    refine z_iload dL_told_227 8 rfl ?_
    refine z_iadd dL_told_229 ?_
    refine z_callVF (d := 7) (As := [_, _]) c_X4_ofTroop rfl l_L_19 rfl rfl rfl (Nat.le_of_ble_eq_true rfl) ⟨Nat.le_of_ble_eq_true rfl, Nat.le_of_ble_eq_true rfl⟩ dL_told_230 cq ?_
    refine z_aloadr dL_told_233 5 rfl ?_
    refine z_iload dL_told_235 8 rfl ?_
    refine z_iald (j := k) (j0 := 0) rfl rfl hk5 (by decide) dL_told_237 ?_
    refine z_icmp_eq dL_told_238 (tgt := 243) (by decide) (fun h238 => ?_) (fun h238 => by first | exact absurd (rfl) h238 | exact absurd h238 (rfl))
    refine z_iinc (lo2 := [(0, _), (1, _), (2, _), (3, _), (4, _), (5, _), (6, _), (7, _), (8, _)]) dL_told_243 8 rfl (w := 1) rfl (Nat.le_of_ble_eq_true rfl) [1, 2, 3, 4, 5, 6, 7, 8, 0] rfl ?_
    refine z_goto dL_told_246 (tgt := 217) (by decide) ?_
    rw [nI_1]
    exact ih (k + 1) (by omega)
theorem lp_told3 (hN : NI N b) (hb : b ≤ 1000) (hS : LI S N) (hx : Q (some 1) S) : ∀ n t, n + t = cnt N → Lt G 8 240 5 25 M_L_told Q 9 [(0, rv G 0), (1, .int (sumN (fun T => T.1 3) N t)), (2, .int (sumN (fun T => szF (hm T 3) 16) N t)), (3, .int (sumN (fun T => szF (hm T 4) 16) N t)), (4, .int (nI t))] [] (S, [], t, 5 * t) := by
  have hW := hN.1
  obtain ⟨hc, hc5⟩ := hW.cn
  have q1 : Call G 7 M_X4_count [rv G 0, .int 1] S (fun v u => v = some (nI (cnt N)) ∧ u = S) := q_cnt hW hS (fun n => hc)
  intro n
  induction n with
  | zero =>
    intro t ht
    obtain rfl : t = cnt N := by omega
    have q2 : Call G 7 M_X4_count [rv G 0, .int 2] S (fun v u => v = some (sumN (fun T => T.1 3) N (cnt N)) ∧ u = S) := q_cnt hW hS (fun n => rfl)
    have q3 : Call G 7 M_X4_count [rv G 0, .int 3] S (fun v u => v = some (sumN (fun T => szF (hm T 3) 16) N (cnt N)) ∧ u = S) := q_cnt hW hS (fun n => rfl)
    have q4 : Call G 7 M_X4_count [rv G 0, .int 4] S (fun v u => v = some (sumN (fun T => szF (hm T 4) 16) N (cnt N)) ∧ u = S) := q_cnt hW hS (fun n => rfl)
    have qn := q_wain (G := G) hW hS
    rw [hc] at qn
    refine z_iload dL_told_9 4 rfl ?_
    refine z_aload_n dL_told_11 0 rfl ?_
    refine z_iconst dL_told_12 (v := 1) rfl ?_
    refine z_callVF (d := 7) (As := [_]) c_X4_count rfl l_L_9 rfl rfl rfl (Nat.le_of_ble_eq_true rfl) ⟨Nat.le_of_ble_eq_true rfl, Nat.le_of_ble_eq_true rfl⟩ dL_told_13 q1 ?_
    refine z_icmp_ge dL_told_16 (tgt := 344) (by decide) (fun h16 => ?_) (fun h16 => by first | exact absurd (Int32.le_refl _) h16 | exact absurd h16 (Int32.le_refl _))
    refine z_aload_n dL_told_344 0 rfl ?_
    refine z_iconst dL_told_345 (v := 2) rfl ?_
    refine z_callVF (d := 7) (As := [_]) c_X4_count rfl l_L_9 rfl rfl rfl (Nat.le_of_ble_eq_true rfl) ⟨Nat.le_of_ble_eq_true rfl, Nat.le_of_ble_eq_true rfl⟩ dL_told_346 q2 ?_
    refine z_iload_n dL_told_349 1 rfl ?_
    refine z_icmp_ne dL_told_350 (tgt := 388) (by decide) (fun h350 => by first | exact absurd (rfl) h350 | exact absurd h350 (rfl)) (fun h350 => ?_)
    refine z_aload_n dL_told_353 0 rfl ?_
    refine z_iconst dL_told_354 (v := 3) rfl ?_
    refine z_callVF (d := 7) (As := [_]) c_X4_count rfl l_L_9 rfl rfl rfl (Nat.le_of_ble_eq_true rfl) ⟨Nat.le_of_ble_eq_true rfl, Nat.le_of_ble_eq_true rfl⟩ dL_told_355 q3 ?_
    refine z_iload_n dL_told_358 2 rfl ?_
    refine z_icmp_ne dL_told_359 (tgt := 388) (by decide) (fun h359 => by first | exact absurd (rfl) h359 | exact absurd h359 (rfl)) (fun h359 => ?_)
    refine z_aload_n dL_told_362 0 rfl ?_
    refine z_iconst dL_told_363 (v := 4) rfl ?_
    refine z_callVF (d := 7) (As := [_]) c_X4_count rfl l_L_9 rfl rfl rfl (Nat.le_of_ble_eq_true rfl) ⟨Nat.le_of_ble_eq_true rfl, Nat.le_of_ble_eq_true rfl⟩ dL_told_364 q4 ?_
    refine z_iload_n dL_told_367 3 rfl ?_
    refine z_icmp_ne dL_told_368 (tgt := 388) (by decide) (fun h368 => by first | exact absurd (rfl) h368 | exact absurd h368 (rfl)) (fun h368 => ?_)
    refine z_aload_n dL_told_371 0 rfl ?_
    refine z_aload_n dL_told_372 0 rfl ?_
    refine z_iconst dL_told_373 (v := 1) rfl ?_
    refine z_callVF (d := 7) (As := [_]) c_X4_count rfl l_L_9 rfl rfl rfl (Nat.le_of_ble_eq_true rfl) ⟨Nat.le_of_ble_eq_true rfl, Nat.le_of_ble_eq_true rfl⟩ dL_told_374 q1 ?_
    refine z_callVF (d := 7) (As := [_]) c_X4_waitsFor rfl l_L_23 rfl rfl rfl (Nat.le_of_ble_eq_true rfl) ⟨Nat.le_of_ble_eq_true rfl, Nat.le_of_ble_eq_true rfl⟩ dL_told_377 qn ?_
    refine z_iconst dL_told_380 (v := -1) rfl ?_
    refine z_icmp_ne dL_told_381 (tgt := 388) (by decide) (fun h381 => by first | exact absurd (rfl) h381 | exact absurd h381 (rfl)) (fun h381 => ?_)
    refine z_iconst dL_told_384 (v := 1) rfl ?_
    refine z_goto dL_told_385 (tgt := 389) (by decide) ?_
    refine z_zret rfl (by first | rfl | decide) dL_told_389 ?_
    exact hx
  | succ n ih =>
    intro t ht
    have htc : t < cnt N := by omega
    have b16 : ¬ nI (cnt N) ≤ nI t := nI_ge htc (by omega)
    have hT := hN.2.1 t htc
    have hWT := hT.1
    obtain ⟨o0, o1, o2, o3, o4, -, -, -, -, -, o10, o11⟩ := oft hW htc
    have c3 := q_t (G := G) hW hS o3
    have c4 := q_t (G := G) hW hS o4
    have c10 := q_t (G := G) hW hS o10
    have c11 := q_t (G := G) hW hS o11
    have cw := q_wai (G := G) hW hS htc
    have b303 : (N.2 t).1 3 ≤ (N.2 t).1 4 := by
      obtain ⟨-, -, -, x, y, e3, e4, h1, h2, h3⟩ := hT
      rw [e3, e4]; exact nI_le h1 (by omega)
    have st2 : ∀ (f : Nat → Int32) q, f 3 = hm (N.2 t) 3 → f 4 = hm (N.2 t) 4 → Lt G 8 240 5 25 M_L_told Q 249 [(0, rv G 0), (1, .int (sumN (fun T => T.1 3) N t)), (2, .int (sumN (fun T => szF (hm T 3) 16) N t)), (3, .int (sumN (fun T => szF (hm T 4) 16) N t)), (4, .int (nI t)), (5, .ref q), (6, .int ((N.2 t).1 5)), (7, .int (awM (N.2 t)))] [] (S, [(q, 5, f)], t + 1, 5 * t + 5) := by
      intro f q f3 f4
      refine z_aload_n dL_told_249 0 rfl ?_
      refine z_iload dL_told_250 4 rfl ?_
      refine z_callVF (d := 7) (As := [_]) c_X4_waitsFor rfl l_L_23 rfl rfl rfl (Nat.le_of_ble_eq_true rfl) ⟨Nat.le_of_ble_eq_true rfl, Nat.le_of_ble_eq_true rfl⟩ dL_told_252 cw ?_
      refine z_iload dL_told_255 7 rfl ?_
      refine z_icmp_ne dL_told_257 (tgt := 306) (by decide) (fun h257 => by first | exact absurd (rfl) h257 | exact absurd h257 (rfl)) (fun h257 => ?_)
      refine z_aload_n dL_told_260 0 rfl ?_
      refine z_iload dL_told_261 4 rfl ?_
      refine z_iconst dL_told_263 (v := 3) rfl ?_
      refine z_callVF (d := 7) (As := [_, _]) c_X4_ofTroop rfl l_L_19 rfl rfl rfl (Nat.le_of_ble_eq_true rfl) ⟨Nat.le_of_ble_eq_true rfl, Nat.le_of_ble_eq_true rfl⟩ dL_told_264 c3 ?_
      refine z_iload dL_told_267 7 rfl ?_
      refine z_callSF (d := 7) (As := [_]) c_L_size l_L_26 rfl rfl rfl (Nat.le_of_ble_eq_true rfl) ⟨Nat.le_of_ble_eq_true rfl, Nat.le_of_ble_eq_true rfl⟩ dL_told_269 t_L_size ?_
      refine z_icmp_ne dL_told_272 (tgt := 306) (by decide) (fun h272 => by first | exact absurd (rfl) h272 | exact absurd h272 (rfl)) (fun h272 => ?_)
      refine z_aload_n dL_told_275 0 rfl ?_
      refine z_iload dL_told_276 4 rfl ?_
      refine z_bipush dL_told_278 (v := 10) (by decide +kernel) ?_
      refine z_callVF (d := 7) (As := [_, _]) c_X4_ofTroop rfl l_L_19 rfl rfl rfl (Nat.le_of_ble_eq_true rfl) ⟨Nat.le_of_ble_eq_true rfl, Nat.le_of_ble_eq_true rfl⟩ dL_told_280 c10 ?_
      refine z_iload dL_told_283 6 rfl ?_
      refine z_icmp_ne dL_told_285 (tgt := 306) (by decide) (fun h285 => by first | exact absurd (rfl) h285 | exact absurd h285 (rfl)) (fun h285 => ?_)
      refine z_aload_n dL_told_288 0 rfl ?_
      refine z_iload dL_told_289 4 rfl ?_
      refine z_bipush dL_told_291 (v := 11) (by decide +kernel) ?_
      refine z_callVF (d := 7) (As := [_, _]) c_X4_ofTroop rfl l_L_19 rfl rfl rfl (Nat.le_of_ble_eq_true rfl) ⟨Nat.le_of_ble_eq_true rfl, Nat.le_of_ble_eq_true rfl⟩ dL_told_293 c11 ?_
      refine z_aload_n dL_told_296 0 rfl ?_
      refine z_iload dL_told_297 4 rfl ?_
      refine z_iconst dL_told_299 (v := 4) rfl ?_
      refine z_callVF (d := 7) (As := [_, _]) c_X4_ofTroop rfl l_L_19 rfl rfl rfl (Nat.le_of_ble_eq_true rfl) ⟨Nat.le_of_ble_eq_true rfl, Nat.le_of_ble_eq_true rfl⟩ dL_told_300 c4 ?_
      refine z_icmp_ge dL_told_303 (tgt := 308) (by decide) (fun h303 => ?_) (fun h303 => by first | exact absurd (b303) h303 | exact absurd h303 (b303))
      refine z_iload_n dL_told_308 1 rfl ?_
      refine z_aload_n dL_told_309 0 rfl ?_
      refine z_iload dL_told_310 4 rfl ?_
      refine z_iconst dL_told_312 (v := 4) rfl ?_
      refine z_callVF (d := 7) (As := [_, _]) c_X4_ofTroop rfl l_L_19 rfl rfl rfl (Nat.le_of_ble_eq_true rfl) ⟨Nat.le_of_ble_eq_true rfl, Nat.le_of_ble_eq_true rfl⟩ dL_told_313 c4 ?_
      refine z_iadd dL_told_316 ?_
      refine z_istore_n (lo2 := [(0, _), (1, _), (2, _), (3, _), (4, _), (5, _), (6, _), (7, _)]) dL_told_317 rfl (Nat.le_of_ble_eq_true rfl) [1, 0, 2, 3, 4, 5, 6, 7] rfl ?_
      refine z_iload_n dL_told_318 2 rfl ?_
      refine z_aloadr dL_told_319 5 rfl ?_
      refine z_iconst dL_told_321 (v := 3) rfl ?_
      refine z_iald (j := 3) (j0 := 0) rfl rfl (by decide) (by decide) dL_told_322 ?_
      refine z_callSF (d := 7) (As := [_]) c_L_size l_L_26 rfl rfl rfl (Nat.le_of_ble_eq_true rfl) ⟨Nat.le_of_ble_eq_true rfl, Nat.le_of_ble_eq_true rfl⟩ dL_told_323 t_L_size ?_
      refine z_iadd dL_told_326 ?_
      refine z_istore_n (lo2 := [(0, _), (1, _), (2, _), (3, _), (4, _), (5, _), (6, _), (7, _)]) dL_told_327 rfl (Nat.le_of_ble_eq_true rfl) [1, 2, 0, 3, 4, 5, 6, 7] rfl ?_
      refine z_iload_n dL_told_328 3 rfl ?_
      refine z_aloadr dL_told_329 5 rfl ?_
      refine z_iconst dL_told_331 (v := 4) rfl ?_
      refine z_iald (j := 4) (j0 := 0) rfl rfl (by decide) (by decide) dL_told_332 ?_
      refine z_callSF (d := 7) (As := [_]) c_L_size l_L_26 rfl rfl rfl (Nat.le_of_ble_eq_true rfl) ⟨Nat.le_of_ble_eq_true rfl, Nat.le_of_ble_eq_true rfl⟩ dL_told_333 t_L_size ?_
      refine z_iadd dL_told_336 ?_
      refine z_istore_n (lo2 := [(0, _), (1, _), (2, _), (3, _), (4, _), (5, _), (6, _), (7, _)]) dL_told_337 rfl (Nat.le_of_ble_eq_true rfl) [1, 2, 3, 0, 4, 5, 6, 7] rfl ?_
      refine z_iinc (lo2 := [(0, _), (1, _), (2, _), (3, _), (4, _), (5, _), (6, _), (7, _)]) dL_told_338 4 rfl (w := 1) rfl (Nat.le_of_ble_eq_true rfl) [1, 2, 3, 4, 0, 5, 6, 7] rfl ?_
      refine z_goto dL_told_341 (tgt := 9) (by decide) ?_
      rw [nI_1, f3, f4]
      exact z_drop (z_sub [0, 1, 2, 3, 4] rfl (ih (t + 1) (by omega)))
    refine z_iload dL_told_9 4 rfl ?_
    refine z_aload_n dL_told_11 0 rfl ?_
    refine z_iconst dL_told_12 (v := 1) rfl ?_
    refine z_callVF (d := 7) (As := [_]) c_X4_count rfl l_L_9 rfl rfl rfl (Nat.le_of_ble_eq_true rfl) ⟨Nat.le_of_ble_eq_true rfl, Nat.le_of_ble_eq_true rfl⟩ dL_told_13 q1 ?_
    refine z_icmp_ge dL_told_16 (tgt := 344) (by decide) (fun h16 => by first | exact absurd (b16) h16 | exact absurd h16 (b16)) (fun h16 => ?_)
    refine z_iconst dL_told_19 (v := 5) rfl ?_
    refine z_newa (N := 5) rfl (by decide) a_int (show t + 1 ≤ 5 by omega) (show 5 * t + 5 ≤ 25 by omega) dL_told_20 ?_
    intro q
    refine z_astorer (lo2 := [(0, _), (1, _), (2, _), (3, _), (4, _), (5, _)]) dL_told_22 (Nat.le_of_ble_eq_true rfl) [1, 2, 3, 4, 5, 0] rfl ?_
    refine z_iconst dL_told_24 (v := 0) rfl ?_
    refine z_istore (lo2 := [(0, _), (1, _), (2, _), (3, _), (4, _), (5, _), (6, _)]) dL_told_25 (Nat.le_of_ble_eq_true rfl) [1, 2, 3, 4, 5, 6, 0] rfl ?_
    refine z_iconst dL_told_27 (v := 0) rfl ?_
    refine z_istore (lo2 := [(0, _), (1, _), (2, _), (3, _), (4, _), (5, _), (6, _), (7, _)]) dL_told_28 (Nat.le_of_ble_eq_true rfl) [1, 2, 3, 4, 5, 6, 7, 0] rfl ?_
    refine z_iconst dL_told_30 (v := 0) rfl ?_
    refine z_istore (lo2 := [(0, _), (1, _), (2, _), (3, _), (4, _), (5, _), (6, _), (7, _), (8, _)]) dL_told_31 (Nat.le_of_ble_eq_true rfl) [1, 2, 3, 4, 5, 6, 7, 8, 0] rfl ?_
    refine lp_told1 hN hS htc (fun f hf => ?_) 16 0 (fun _ => 0) 0 0 (by omega) (fun h _ => rfl) rfl rfl
    have f3 : f 3 = hm (N.2 t) 3 := (hf 3 (by omega)).trans ((f_sets hWT).2 3 (by omega) (by omega))
    have f4 : f 4 = hm (N.2 t) 4 := (hf 4 (by omega)).trans ((f_sets hWT).2 4 (by omega) (by omega))
    refine z_iconst dL_told_214 (v := 0) rfl ?_
    refine z_istore (lo2 := [(0, _), (1, _), (2, _), (3, _), (4, _), (5, _), (6, _), (7, _), (8, _)]) dL_told_215 (Nat.le_of_ble_eq_true rfl) [1, 2, 3, 4, 5, 6, 7, 8, 0] rfl ?_
    refine lp_told2 hN hS htc hf ?_ 5 0 (by omega)
    exact st2 f q f3 f4
theorem t_L_told (hN : NI N b) (hb : b ≤ 1000) (hS : LI S N) : CallL G 8 240 5 25 M_L_told [rv G 0] S (fun v u => v = some 1 ∧ u = S) := by
  refine callL_of (lo := [(0, rv G 0)]) (by decide +kernel) (Nat.le_of_ble_eq_true rfl) rfl ?_
  refine z_iconst dL_told_0 (v := 0) rfl ?_
  refine z_istore_n (lo2 := [(0, _), (1, _)]) dL_told_1 rfl (Nat.le_of_ble_eq_true rfl) [1, 0] rfl ?_
  refine z_iconst dL_told_2 (v := 0) rfl ?_
  refine z_istore_n (lo2 := [(0, _), (1, _), (2, _)]) dL_told_3 rfl (Nat.le_of_ble_eq_true rfl) [1, 2, 0] rfl ?_
  refine z_iconst dL_told_4 (v := 0) rfl ?_
  refine z_istore_n (lo2 := [(0, _), (1, _), (2, _), (3, _)]) dL_told_5 rfl (Nat.le_of_ble_eq_true rfl) [1, 2, 3, 0] rfl ?_
  refine z_iconst dL_told_6 (v := 0) rfl ?_
  refine z_istore (lo2 := [(0, _), (1, _), (2, _), (3, _), (4, _)]) dL_told_7 (Nat.le_of_ble_eq_true rfl) [1, 2, 3, 4, 0] rfl ?_
  exact lp_told3 hN hb hS ⟨rfl, rfl⟩ (cnt N) 0 (by omega)
end TOLD
