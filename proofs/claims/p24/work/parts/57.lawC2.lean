/-! the law: comes, its walk -/
section COMES
variable {G : mG} {S u : mS} {N N' : mN} {t k b n : Nat} {c x9 x12 x14 m8 : Int32} {Q : Option Int32 → mS → Prop}
theorem lp_comes (hW' : WN N') (hS' : LI u N') (ht' : t < cnt N') (h14 : x14 = nI (x14.toNatClampNeg) ∧ x14.toNatClampNeg ≤ 16) (hn3 : n ≤ 3)
    (F1 : ∀ x, x < 16 → bt m8 x = true → (N'.2 t).2.1 x = 3 ∧ (N'.2 t).2.2.1 x = N'.1 1 ∧ 1 ≤ (N'.2 t).2.2.2 x)
    (F2 : n = 1 → ∀ x, x < 16 → x < x14.toNatClampNeg → bt x9 x = true → (N'.2 t).2.1 x = 1)
    (F3 : ¬ (N'.2 t).1 4 < x12 + szF m8 16) (hQ : Q (some 1) u) : ∀ r x, r + x = 16 → Lt G 8 240 0 0 M_L_comes Q 419 [(0, rv G 0), (1, .int (nI t)), (8, .int m8), (9, .int x9), (12, .int x12), (14, .int x14), (16, .int (nI n)), (17, .int (nI x))] [] (u, [], 0, 0) := by
  have hWT := hW'.2 t ht'
  have c11 := q_t (G := G) hW' hS' (oft hW' ht').2.2.2.2.2.2.2.2.2.2.2
  have c7 : Call G 7 M_X4_count [rv G 0, .int 7] u (fun v w => v = some (N'.1 1) ∧ w = u) := q_cnt hW' hS' (fun n => rfl)
  intro r
  induction r with
  | zero =>
    intro x hx
    obtain rfl : x = 16 := by omega
    refine z_iload dL_comes_419 7 rfl ?_
    refine z_bipush dL_comes_421 (v := 16) (by decide +kernel) ?_
    refine z_icmp_ge dL_comes_423 (tgt := 524) (by decide) (fun h423 => ?_) (fun h423 => by first | exact absurd (show (16 : Int32) ≤ nI 16 by decide) h423 | exact absurd h423 (show (16 : Int32) ≤ nI 16 by decide))
    refine z_aload_n dL_comes_524 0 rfl ?_
    refine z_iload_n dL_comes_525 1 rfl ?_
    refine z_bipush dL_comes_526 (v := 11) (by decide +kernel) ?_
    refine z_callVF (d := 7) (As := [_, _]) c_X4_ofTroop rfl l_L_19 rfl rfl rfl (Nat.le_of_ble_eq_true rfl) ⟨Nat.le_of_ble_eq_true rfl, Nat.le_of_ble_eq_true rfl⟩ dL_comes_528 c11 ?_
    refine z_iload dL_comes_531 4 rfl ?_
    refine z_iload dL_comes_533 2 rfl ?_
    refine z_callSF (d := 7) (As := [_]) c_L_size l_L_26 rfl rfl rfl (Nat.le_of_ble_eq_true rfl) ⟨Nat.le_of_ble_eq_true rfl, Nat.le_of_ble_eq_true rfl⟩ dL_comes_535 t_L_size ?_
    refine z_iadd dL_comes_538 ?_
    refine z_icmp_lt dL_comes_539 (tgt := 546) (by decide) (fun h539 => by first | exact absurd (F3) h539 | exact absurd h539 (F3)) (fun h539 => ?_)
    refine z_iconst dL_comes_542 (v := 1) rfl ?_
    refine z_goto dL_comes_543 (tgt := 547) (by decide) ?_
    refine z_zret rfl (by first | rfl | decide) dL_comes_547 ?_
    exact hQ
  | succ r ih =>
    intro x hx
    have hx16 : x < 16 := by omega
    have b423 : ¬ ((16 : Int32) ≤ nI x) := c16 hx16
    refine z_iload dL_comes_419 7 rfl ?_
    refine z_bipush dL_comes_421 (v := 16) (by decide +kernel) ?_
    refine z_icmp_ge dL_comes_423 (tgt := 524) (by decide) (fun h423 => by first | exact absurd (b423) h423 | exact absurd h423 (b423)) (fun h423 => ?_)
    refine z_iload dL_comes_426 2 rfl ?_
    refine z_iload dL_comes_428 7 rfl ?_
    refine z_ishr dL_comes_430 ?_
    refine z_iconst dL_comes_431 (v := 1) rfl ?_
    refine z_iand dL_comes_432 ?_
    rw [bt_and1 _ (show x < 32 by omega)]
    refine z_iconst dL_comes_433 (v := 1) rfl ?_
    refine z_icmp_ne dL_comes_434 (tgt := 480) (by decide) (fun h434 => ?_) (fun h434 => ?_)
    · --t
      refine z_iload dL_comes_480 6 rfl ?_
      refine z_iconst dL_comes_482 (v := 1) rfl ?_
      refine z_icmp_ne dL_comes_483 (tgt := 518) (by decide) (fun h483 => ?_) (fun h483 => ?_)
      · --t
        refine z_iinc (lo2 := [(0, _), (1, _), (8, _), (9, _), (12, _), (14, _), (16, _), (17, _)]) dL_comes_518 7 rfl (w := 1) rfl (Nat.le_of_ble_eq_true rfl) [1, 2, 3, 4, 5, 6, 7, 0] rfl ?_
        refine z_goto dL_comes_521 (tgt := 419) (by decide) ?_
        rw [nI_1]
        exact ih (x + 1) (by omega)
      · --f
        refine z_iload dL_comes_486 7 rfl ?_
        refine z_iload dL_comes_488 5 rfl ?_
        refine z_icmp_ge dL_comes_490 (tgt := 518) (by decide) (fun h490 => ?_) (fun h490 => ?_)
        · --t
          refine z_iinc (lo2 := [(0, _), (1, _), (8, _), (9, _), (12, _), (14, _), (16, _), (17, _)]) dL_comes_518 7 rfl (w := 1) rfl (Nat.le_of_ble_eq_true rfl) [1, 2, 3, 4, 5, 6, 7, 0] rfl ?_
          refine z_goto dL_comes_521 (tgt := 419) (by decide) ?_
          rw [nI_1]
          exact ih (x + 1) (by omega)
        · --f
          refine z_iload dL_comes_493 3 rfl ?_
          refine z_iload dL_comes_495 7 rfl ?_
          refine z_ishr dL_comes_497 ?_
          refine z_iconst dL_comes_498 (v := 1) rfl ?_
          refine z_iand dL_comes_499 ?_
          rw [bt_and1 _ (show x < 32 by omega)]
          refine z_iconst dL_comes_500 (v := 1) rfl ?_
          refine z_icmp_ne dL_comes_501 (tgt := 518) (by decide) (fun h501 => ?_) (fun h501 => ?_)
          · --t
            refine z_iinc (lo2 := [(0, _), (1, _), (8, _), (9, _), (12, _), (14, _), (16, _), (17, _)]) dL_comes_518 7 rfl (w := 1) rfl (Nat.le_of_ble_eq_true rfl) [1, 2, 3, 4, 5, 6, 7, 0] rfl ?_
            refine z_goto dL_comes_521 (tgt := 419) (by decide) ?_
            rw [nI_1]
            exact ih (x + 1) (by omega)
          · --f
            have hn1 : n = 1 := (nI_eq (b := 1) (by omega) (by omega)).mp h483
            have hxn : x < x14.toNatClampNeg := by rw [h14.1, nI_leI (by omega) (by omega)] at h490; omega
            have g4 := F2 hn1 x hx16 hxn ((bI_1 _).mp h501)
            have d0 := q_of0 (G := G) hW' hS' ht' hx16 (kn_of hWT hx16 (show ¬ (N'.2 t).2.1 x = 0 by rw [g4]; decide))
            rw [g4] at d0
            refine z_aload_n dL_comes_504 0 rfl ?_
            refine z_iload_n dL_comes_505 1 rfl ?_
            refine z_iload dL_comes_506 7 rfl ?_
            refine z_iconst dL_comes_508 (v := 0) rfl ?_
            refine z_callVF (d := 7) (As := [_, _, _]) c_X4_of rfl l_L_15 rfl rfl rfl (Nat.le_of_ble_eq_true rfl) ⟨Nat.le_of_ble_eq_true rfl, Nat.le_of_ble_eq_true rfl⟩ dL_comes_509 d0 ?_
            refine z_iconst dL_comes_512 (v := 1) rfl ?_
            refine z_icmp_eq dL_comes_513 (tgt := 518) (by decide) (fun h513 => ?_) (fun h513 => by first | exact absurd (rfl) h513 | exact absurd h513 (rfl))
            refine z_iinc (lo2 := [(0, _), (1, _), (8, _), (9, _), (12, _), (14, _), (16, _), (17, _)]) dL_comes_518 7 rfl (w := 1) rfl (Nat.le_of_ble_eq_true rfl) [1, 2, 3, 4, 5, 6, 7, 0] rfl ?_
            refine z_goto dL_comes_521 (tgt := 419) (by decide) ?_
            rw [nI_1]
            exact ih (x + 1) (by omega)
    · --f
      obtain ⟨g1, g2, g3⟩ := F1 x hx16 ((bI_1 _).mp h434)
      have kk := kn_of hWT hx16 (show ¬ (N'.2 t).2.1 x = 0 by rw [g1]; decide)
      have c0 := q_of0 (G := G) hW' hS' ht' hx16 kk
      have c1 := q_of1 (G := G) hW' hS' ht' hx16 kk
      have c2 := q_of2 (G := G) hW' hS' ht' hx16 kk
      rw [g1] at c0
      rw [g2] at c1
      refine z_aload_n dL_comes_437 0 rfl ?_
      refine z_iload_n dL_comes_438 1 rfl ?_
      refine z_iload dL_comes_439 7 rfl ?_
      refine z_iconst dL_comes_441 (v := 0) rfl ?_
      refine z_callVF (d := 7) (As := [_, _, _]) c_X4_of rfl l_L_15 rfl rfl rfl (Nat.le_of_ble_eq_true rfl) ⟨Nat.le_of_ble_eq_true rfl, Nat.le_of_ble_eq_true rfl⟩ dL_comes_442 c0 ?_
      refine z_iconst dL_comes_445 (v := 3) rfl ?_
      refine z_icmp_ne dL_comes_446 (tgt := 478) (by decide) (fun h446 => by first | exact absurd (rfl) h446 | exact absurd h446 (rfl)) (fun h446 => ?_)
      refine z_aload_n dL_comes_449 0 rfl ?_
      refine z_iload_n dL_comes_450 1 rfl ?_
      refine z_iload dL_comes_451 7 rfl ?_
      refine z_iconst dL_comes_453 (v := 1) rfl ?_
      refine z_callVF (d := 7) (As := [_, _, _]) c_X4_of rfl l_L_15 rfl rfl rfl (Nat.le_of_ble_eq_true rfl) ⟨Nat.le_of_ble_eq_true rfl, Nat.le_of_ble_eq_true rfl⟩ dL_comes_454 c1 ?_
      refine z_aload_n dL_comes_457 0 rfl ?_
      refine z_bipush dL_comes_458 (v := 7) (by decide +kernel) ?_
      refine z_callVF (d := 7) (As := [_]) c_X4_count rfl l_L_9 rfl rfl rfl (Nat.le_of_ble_eq_true rfl) ⟨Nat.le_of_ble_eq_true rfl, Nat.le_of_ble_eq_true rfl⟩ dL_comes_460 c7 ?_
      refine z_icmp_ne dL_comes_463 (tgt := 478) (by decide) (fun h463 => by first | exact absurd (rfl) h463 | exact absurd h463 (rfl)) (fun h463 => ?_)
      refine z_aload_n dL_comes_466 0 rfl ?_
      refine z_iload_n dL_comes_467 1 rfl ?_
      refine z_iload dL_comes_468 7 rfl ?_
      refine z_iconst dL_comes_470 (v := 2) rfl ?_
      refine z_callVF (d := 7) (As := [_, _, _]) c_X4_of rfl l_L_15 rfl rfl rfl (Nat.le_of_ble_eq_true rfl) ⟨Nat.le_of_ble_eq_true rfl, Nat.le_of_ble_eq_true rfl⟩ dL_comes_471 c2 ?_
      refine z_iconst dL_comes_474 (v := 1) rfl ?_
      refine z_icmp_ge dL_comes_475 (tgt := 480) (by decide) (fun h475 => ?_) (fun h475 => by first | exact absurd (g3) h475 | exact absurd h475 (g3))
      refine z_iload dL_comes_480 6 rfl ?_
      refine z_iconst dL_comes_482 (v := 1) rfl ?_
      refine z_icmp_ne dL_comes_483 (tgt := 518) (by decide) (fun h483 => ?_) (fun h483 => ?_)
      · --t
        refine z_iinc (lo2 := [(0, _), (1, _), (8, _), (9, _), (12, _), (14, _), (16, _), (17, _)]) dL_comes_518 7 rfl (w := 1) rfl (Nat.le_of_ble_eq_true rfl) [1, 2, 3, 4, 5, 6, 7, 0] rfl ?_
        refine z_goto dL_comes_521 (tgt := 419) (by decide) ?_
        rw [nI_1]
        exact ih (x + 1) (by omega)
      · --f
        refine z_iload dL_comes_486 7 rfl ?_
        refine z_iload dL_comes_488 5 rfl ?_
        refine z_icmp_ge dL_comes_490 (tgt := 518) (by decide) (fun h490 => ?_) (fun h490 => ?_)
        · --t
          refine z_iinc (lo2 := [(0, _), (1, _), (8, _), (9, _), (12, _), (14, _), (16, _), (17, _)]) dL_comes_518 7 rfl (w := 1) rfl (Nat.le_of_ble_eq_true rfl) [1, 2, 3, 4, 5, 6, 7, 0] rfl ?_
          refine z_goto dL_comes_521 (tgt := 419) (by decide) ?_
          rw [nI_1]
          exact ih (x + 1) (by omega)
        · --f
          refine z_iload dL_comes_493 3 rfl ?_
          refine z_iload dL_comes_495 7 rfl ?_
          refine z_ishr dL_comes_497 ?_
          refine z_iconst dL_comes_498 (v := 1) rfl ?_
          refine z_iand dL_comes_499 ?_
          rw [bt_and1 _ (show x < 32 by omega)]
          refine z_iconst dL_comes_500 (v := 1) rfl ?_
          refine z_icmp_ne dL_comes_501 (tgt := 518) (by decide) (fun h501 => ?_) (fun h501 => ?_)
          · --t
            refine z_iinc (lo2 := [(0, _), (1, _), (8, _), (9, _), (12, _), (14, _), (16, _), (17, _)]) dL_comes_518 7 rfl (w := 1) rfl (Nat.le_of_ble_eq_true rfl) [1, 2, 3, 4, 5, 6, 7, 0] rfl ?_
            refine z_goto dL_comes_521 (tgt := 419) (by decide) ?_
            rw [nI_1]
            exact ih (x + 1) (by omega)
          · --f
            have hn1 : n = 1 := (nI_eq (b := 1) (by omega) (by omega)).mp h483
            have hxn : x < x14.toNatClampNeg := by rw [h14.1, nI_leI (by omega) (by omega)] at h490; omega
            have g4 := F2 hn1 x hx16 hxn ((bI_1 _).mp h501)
            have d0 := q_of0 (G := G) hW' hS' ht' hx16 (kn_of hWT hx16 (show ¬ (N'.2 t).2.1 x = 0 by rw [g4]; decide))
            rw [g4] at d0
            refine z_aload_n dL_comes_504 0 rfl ?_
            refine z_iload_n dL_comes_505 1 rfl ?_
            refine z_iload dL_comes_506 7 rfl ?_
            refine z_iconst dL_comes_508 (v := 0) rfl ?_
            refine z_callVF (d := 7) (As := [_, _, _]) c_X4_of rfl l_L_15 rfl rfl rfl (Nat.le_of_ble_eq_true rfl) ⟨Nat.le_of_ble_eq_true rfl, Nat.le_of_ble_eq_true rfl⟩ dL_comes_509 d0 ?_
            refine z_iconst dL_comes_512 (v := 1) rfl ?_
            refine z_icmp_eq dL_comes_513 (tgt := 518) (by decide) (fun h513 => ?_) (fun h513 => by first | exact absurd (rfl) h513 | exact absurd h513 (rfl))
            refine z_iinc (lo2 := [(0, _), (1, _), (8, _), (9, _), (12, _), (14, _), (16, _), (17, _)]) dL_comes_518 7 rfl (w := 1) rfl (Nat.le_of_ble_eq_true rfl) [1, 2, 3, 4, 5, 6, 7, 0] rfl ?_
            refine z_goto dL_comes_521 (tgt := 419) (by decide) ?_
            rw [nI_1]
            exact ih (x + 1) (by omega)
/-- not one of them -/
theorem t_comes_n (hN : NI N b) (hS : LI S N) (ht : t < cnt N) (hk : k < 16) (hns : ¬ k < tsz (N.2 t)) : CallL G 8 240 0 0 M_L_comes [rv G 0, .int (nI t), .int (nI k), .int c] S (fun v u => v = some 1 ∧ ∃ N', NI N' (b + 3) ∧ LI u N') := by
  refine callL_of (lo := [(0, rv G 0), (1, .int (nI t)), (2, .int (nI k)), (3, .int c)]) (by decide +kernel) (Nat.le_of_ble_eq_true rfl) rfl ?_
  have hW := hN.1
  have hT := hN.2.1 t ht
  have hWT := hT.1
  have hc5 := hW.cn.2
  obtain ⟨s, e1, e2, e3, e4⟩ := hWT.sz
  obtain ⟨o0, o1, o2, -, o4, -, o6, o7, -, -, o10, o11⟩ := oft hW ht
  have q0 := q_t (G := G) hW hS o0
  rw [e2] at q0
  have q1 := q_t (G := G) hW hS o1
  have q2 := q_t (G := G) hW hS o2
  have q4 := q_t (G := G) hW hS o4
  have q6 := q_t (G := G) hW hS o6
  have q7 := q_t (G := G) hW hS o7
  have q11 := q_t (G := G) hW hS o11
  have qw := q_wai (G := G) hW hS ht
  have q5 : Call G 7 M_X4_count [rv G 0, .int 5] S (fun v u => v = some (N.1 4) ∧ u = S) := q_cnt hW hS (fun n => rfl)
  have kc := k_come (G := G) hW hS (x := nI t) (y := nI k) (c := c)
  have kw := q_why (G := G) hW hS (x := nI t) (y := nI k) (c := c)
  have b25 : nI s ≤ nI k := nI_le (by omega) (by omega)
  have hw := why_no hW ht hk hns c
  rw [hw] at kw
  rw [com_n hw] at kc
  have c0 := t_X4_of (G := G) (d := 4) (t := nI t) (k := nI k) (w := 0) hW hS.1
  refine z_aload_n dL_comes_0 0 rfl ?_
  refine z_iload_n dL_comes_1 1 rfl ?_
  refine z_iload_n dL_comes_2 2 rfl ?_
  refine z_iload_n dL_comes_3 3 rfl ?_
  refine z_callVF (d := 7) (As := [_, _, _]) c_X4_why rfl l_L_31 rfl rfl rfl (Nat.le_of_ble_eq_true rfl) ⟨Nat.le_of_ble_eq_true rfl, Nat.le_of_ble_eq_true rfl⟩ dL_comes_4 kw ?_
  refine z_istore (lo2 := [(0, _), (1, _), (2, _), (3, _), (4, _)]) dL_comes_7 (Nat.le_of_ble_eq_true rfl) [1, 2, 3, 4, 0] rfl ?_
  refine z_aload_n dL_comes_9 0 rfl ?_
  refine z_iload_n dL_comes_10 1 rfl ?_
  refine z_iload_n dL_comes_11 2 rfl ?_
  refine z_iconst dL_comes_12 (v := 0) rfl ?_
  refine z_callVF (d := 7) (As := [_, _, _]) c_X4_of rfl l_L_15 rfl rfl rfl (Nat.le_of_ble_eq_true rfl) ⟨Nat.le_of_ble_eq_true rfl, Nat.le_of_ble_eq_true rfl⟩ dL_comes_13 c0 ?_
  refine z_istore (lo2 := [(0, _), (1, _), (2, _), (3, _), (4, _), (5, _)]) dL_comes_16 (Nat.le_of_ble_eq_true rfl) [1, 2, 3, 4, 5, 0] rfl ?_
  refine z_iload_n dL_comes_18 2 rfl ?_
  refine z_aload_n dL_comes_19 0 rfl ?_
  refine z_iload_n dL_comes_20 1 rfl ?_
  refine z_iconst dL_comes_21 (v := 0) rfl ?_
  refine z_callVF (d := 7) (As := [_, _]) c_X4_ofTroop rfl l_L_19 rfl rfl rfl (Nat.le_of_ble_eq_true rfl) ⟨Nat.le_of_ble_eq_true rfl, Nat.le_of_ble_eq_true rfl⟩ dL_comes_22 q0 ?_
  refine z_icmp_ge dL_comes_25 (tgt := 32) (by decide) (fun h25 => ?_) (fun h25 => by first | exact absurd (b25) h25 | exact absurd h25 (b25))
  refine z_iconst dL_comes_32 (v := 0) rfl ?_
  refine z_istore (lo2 := [(0, _), (1, _), (2, _), (3, _), (4, _), (5, _), (6, _)]) dL_comes_33 (Nat.le_of_ble_eq_true rfl) [1, 2, 3, 4, 5, 6, 0] rfl ?_
  refine z_iload dL_comes_35 6 rfl ?_
  refine z_if_ne dL_comes_37 (tgt := 44) (by decide) (fun h37 => by first | exact absurd (rfl) h37 | exact absurd h37 (rfl)) (fun h37 => ?_)
  refine z_iconst dL_comes_40 (v := -1) rfl ?_
  refine z_goto dL_comes_41 (tgt := 89) (by decide) ?_
  refine z_istore (lo2 := [(0, _), (1, _), (2, _), (3, _), (4, _), (5, _), (6, _), (7, _)]) dL_comes_89 (Nat.le_of_ble_eq_true rfl) [1, 2, 3, 4, 5, 6, 7, 0] rfl ?_
  refine z_iload dL_comes_91 4 rfl ?_
  refine z_iload dL_comes_93 7 rfl ?_
  refine z_icmp_eq dL_comes_95 (tgt := 100) (by decide) (fun h95 => ?_) (fun h95 => by first | exact absurd (rfl) h95 | exact absurd h95 (rfl))
  refine z_aload_n dL_comes_100 0 rfl ?_
  refine z_iload_n dL_comes_101 1 rfl ?_
  refine z_bipush dL_comes_102 (v := 6) (by decide +kernel) ?_
  refine z_callVF (d := 7) (As := [_, _]) c_X4_ofTroop rfl l_L_19 rfl rfl rfl (Nat.le_of_ble_eq_true rfl) ⟨Nat.le_of_ble_eq_true rfl, Nat.le_of_ble_eq_true rfl⟩ dL_comes_104 q6 ?_
  refine z_istore (lo2 := [(0, _), (1, _), (2, _), (3, _), (4, _), (5, _), (6, _), (7, _), (8, _)]) dL_comes_107 (Nat.le_of_ble_eq_true rfl) [1, 2, 3, 4, 5, 6, 7, 8, 0] rfl ?_
  refine z_aload_n dL_comes_109 0 rfl ?_
  refine z_iload_n dL_comes_110 1 rfl ?_
  refine z_bipush dL_comes_111 (v := 7) (by decide +kernel) ?_
  refine z_callVF (d := 7) (As := [_, _]) c_X4_ofTroop rfl l_L_19 rfl rfl rfl (Nat.le_of_ble_eq_true rfl) ⟨Nat.le_of_ble_eq_true rfl, Nat.le_of_ble_eq_true rfl⟩ dL_comes_113 q7 ?_
  refine z_istore (lo2 := [(0, _), (1, _), (2, _), (3, _), (4, _), (5, _), (6, _), (7, _), (8, _), (9, _)]) dL_comes_116 (Nat.le_of_ble_eq_true rfl) [1, 2, 3, 4, 5, 6, 7, 8, 9, 0] rfl ?_
  refine z_aload_n dL_comes_118 0 rfl ?_
  refine z_iload_n dL_comes_119 1 rfl ?_
  refine z_callVF (d := 7) (As := [_]) c_X4_waitsFor rfl l_L_23 rfl rfl rfl (Nat.le_of_ble_eq_true rfl) ⟨Nat.le_of_ble_eq_true rfl, Nat.le_of_ble_eq_true rfl⟩ dL_comes_120 qw ?_
  refine z_istore (lo2 := [(0, _), (1, _), (2, _), (3, _), (4, _), (5, _), (6, _), (7, _), (8, _), (9, _), (10, _)]) dL_comes_123 (Nat.le_of_ble_eq_true rfl) [1, 2, 3, 4, 5, 6, 7, 8, 9, 10, 0] rfl ?_
  refine z_aload_n dL_comes_125 0 rfl ?_
  refine z_iload_n dL_comes_126 1 rfl ?_
  refine z_iconst dL_comes_127 (v := 4) rfl ?_
  refine z_callVF (d := 7) (As := [_, _]) c_X4_ofTroop rfl l_L_19 rfl rfl rfl (Nat.le_of_ble_eq_true rfl) ⟨Nat.le_of_ble_eq_true rfl, Nat.le_of_ble_eq_true rfl⟩ dL_comes_128 q4 ?_
  refine z_istore (lo2 := [(0, _), (1, _), (2, _), (3, _), (4, _), (5, _), (6, _), (7, _), (8, _), (9, _), (10, _), (11, _)]) dL_comes_131 (Nat.le_of_ble_eq_true rfl) [1, 2, 3, 4, 5, 6, 7, 8, 9, 10, 11, 0] rfl ?_
  refine z_aload_n dL_comes_133 0 rfl ?_
  refine z_iload_n dL_comes_134 1 rfl ?_
  refine z_bipush dL_comes_135 (v := 11) (by decide +kernel) ?_
  refine z_callVF (d := 7) (As := [_, _]) c_X4_ofTroop rfl l_L_19 rfl rfl rfl (Nat.le_of_ble_eq_true rfl) ⟨Nat.le_of_ble_eq_true rfl, Nat.le_of_ble_eq_true rfl⟩ dL_comes_137 q11 ?_
  refine z_istore (lo2 := [(0, _), (1, _), (2, _), (3, _), (4, _), (5, _), (6, _), (7, _), (8, _), (9, _), (10, _), (11, _), (12, _)]) dL_comes_140 (Nat.le_of_ble_eq_true rfl) [1, 2, 3, 4, 5, 6, 7, 8, 9, 10, 11, 12, 0] rfl ?_
  refine z_aload_n dL_comes_142 0 rfl ?_
  refine z_iload_n dL_comes_143 1 rfl ?_
  refine z_iconst dL_comes_144 (v := 1) rfl ?_
  refine z_callVF (d := 7) (As := [_, _]) c_X4_ofTroop rfl l_L_19 rfl rfl rfl (Nat.le_of_ble_eq_true rfl) ⟨Nat.le_of_ble_eq_true rfl, Nat.le_of_ble_eq_true rfl⟩ dL_comes_145 q1 ?_
  refine z_istore (lo2 := [(0, _), (1, _), (2, _), (3, _), (4, _), (5, _), (6, _), (7, _), (8, _), (9, _), (10, _), (11, _), (12, _), (13, _)]) dL_comes_148 (Nat.le_of_ble_eq_true rfl) [1, 2, 3, 4, 5, 6, 7, 8, 9, 10, 11, 12, 13, 0] rfl ?_
  refine z_aload_n dL_comes_150 0 rfl ?_
  refine z_iload_n dL_comes_151 1 rfl ?_
  refine z_iconst dL_comes_152 (v := 2) rfl ?_
  refine z_callVF (d := 7) (As := [_, _]) c_X4_ofTroop rfl l_L_19 rfl rfl rfl (Nat.le_of_ble_eq_true rfl) ⟨Nat.le_of_ble_eq_true rfl, Nat.le_of_ble_eq_true rfl⟩ dL_comes_153 q2 ?_
  refine z_istore (lo2 := [(0, _), (1, _), (2, _), (3, _), (4, _), (5, _), (6, _), (7, _), (8, _), (9, _), (10, _), (11, _), (12, _), (13, _), (14, _)]) dL_comes_156 (Nat.le_of_ble_eq_true rfl) [1, 2, 3, 4, 5, 6, 7, 8, 9, 10, 11, 12, 13, 14, 0] rfl ?_
  refine z_aload_n dL_comes_158 0 rfl ?_
  refine z_iconst dL_comes_159 (v := 5) rfl ?_
  refine z_callVF (d := 7) (As := [_]) c_X4_count rfl l_L_9 rfl rfl rfl (Nat.le_of_ble_eq_true rfl) ⟨Nat.le_of_ble_eq_true rfl, Nat.le_of_ble_eq_true rfl⟩ dL_comes_160 q5 ?_
  refine z_istore (lo2 := [(0, _), (1, _), (2, _), (3, _), (4, _), (5, _), (6, _), (7, _), (8, _), (9, _), (10, _), (11, _), (12, _), (13, _), (14, _), (15, _)]) dL_comes_163 (Nat.le_of_ble_eq_true rfl) [1, 2, 3, 4, 5, 6, 7, 8, 9, 10, 11, 12, 13, 14, 15, 0] rfl ?_
  refine z_aload_n dL_comes_165 0 rfl ?_
  refine z_iload_n dL_comes_166 1 rfl ?_
  refine z_iload_n dL_comes_167 2 rfl ?_
  refine z_iload_n dL_comes_168 3 rfl ?_
  refine z_callV (d := 7) (As := [_, _, _]) c_X4_come rfl l_L_34 rfl rfl rfl (Nat.le_of_ble_eq_true rfl) ⟨Nat.le_of_ble_eq_true rfl, Nat.le_of_ble_eq_true rfl⟩ dL_comes_169 kc (fun r169 u169 q169 => ?_)
  obtain ⟨z, hS'⟩ := q169
  cases z
  have r6 := q_t (G := G) hW hS' o6
  have r4 := q_t (G := G) hW hS' o4
  refine z_istore (lo2 := [(0, _), (1, _), (2, _), (3, _), (4, _), (5, _), (6, _), (7, _), (8, _), (9, _), (10, _), (11, _), (12, _), (13, _), (14, _), (15, _), (16, _)]) dL_comes_172 (Nat.le_of_ble_eq_true rfl) [1, 2, 3, 4, 5, 6, 7, 8, 9, 10, 11, 12, 13, 14, 15, 16, 0] rfl ?_
  refine z_iload dL_comes_174 4 rfl ?_
  refine z_if_lt dL_comes_176 (tgt := 190) (by decide) (fun h176 => ?_) (fun h176 => by first | exact absurd (by decide) h176 | exact absurd h176 (by decide))
  refine z_iload dL_comes_190 16 rfl ?_
  refine z_iload dL_comes_192 4 rfl ?_
  refine z_if_ge dL_comes_194 (tgt := 201) (by decide) (fun h194 => by first | exact absurd (by decide) h194 | exact absurd h194 (by decide)) (fun h194 => ?_)
  refine z_iconst dL_comes_197 (v := -1) rfl ?_
  refine z_goto dL_comes_198 (tgt := 203) (by decide) ?_
  refine z_icmp_ne dL_comes_203 (tgt := 233) (by decide) (fun h203 => by first | exact absurd (rfl) h203 | exact absurd h203 (rfl)) (fun h203 => ?_)
  refine z_aload_n dL_comes_206 0 rfl ?_
  refine z_iload_n dL_comes_207 1 rfl ?_
  refine z_bipush dL_comes_208 (v := 6) (by decide +kernel) ?_
  refine z_callVF (d := 7) (As := [_, _]) c_X4_ofTroop rfl l_L_19 rfl rfl rfl (Nat.le_of_ble_eq_true rfl) ⟨Nat.le_of_ble_eq_true rfl, Nat.le_of_ble_eq_true rfl⟩ dL_comes_210 r6 ?_
  refine z_iload dL_comes_213 8 rfl ?_
  refine z_icmp_ne dL_comes_215 (tgt := 233) (by decide) (fun h215 => by first | exact absurd (rfl) h215 | exact absurd h215 (rfl)) (fun h215 => ?_)
  refine z_aload_n dL_comes_218 0 rfl ?_
  refine z_iload_n dL_comes_219 1 rfl ?_
  refine z_iconst dL_comes_220 (v := 4) rfl ?_
  refine z_callVF (d := 7) (As := [_, _]) c_X4_ofTroop rfl l_L_19 rfl rfl rfl (Nat.le_of_ble_eq_true rfl) ⟨Nat.le_of_ble_eq_true rfl, Nat.le_of_ble_eq_true rfl⟩ dL_comes_221 r4 ?_
  refine z_iload dL_comes_224 11 rfl ?_
  refine z_icmp_ne dL_comes_226 (tgt := 233) (by decide) (fun h226 => by first | exact absurd (rfl) h226 | exact absurd h226 (rfl)) (fun h226 => ?_)
  refine z_iconst dL_comes_229 (v := 1) rfl ?_
  refine z_goto dL_comes_230 (tgt := 234) (by decide) ?_
  refine z_zret rfl (by first | rfl | decide) dL_comes_234 ?_
  exact ⟨rfl, N, hN.mono (by omega), hS'⟩
theorem t_comes_3 (hN : NI N b) (hS : LI S N) (ht : t < cnt N) (hk : k < 16) (hc : c = 0 ∨ c = 1) (hlt : k < tsz (N.2 t)) (hv : (N.2 t).2.1 k = 3) : CallL G 8 240 0 0 M_L_comes [rv G 0, .int (nI t), .int (nI k), .int c] S (fun v u => v = some 1 ∧ ∃ N', NI N' (b + 3) ∧ LI u N') := by
  refine callL_of (lo := [(0, rv G 0), (1, .int (nI t)), (2, .int (nI k)), (3, .int c)]) (by decide +kernel) (Nat.le_of_ble_eq_true rfl) rfl ?_
  have hW := hN.1
  have hT := hN.2.1 t ht
  have hWT := hT.1
  have hc5 := hW.cn.2
  obtain ⟨s, e1, e2, e3, e4⟩ := hWT.sz
  obtain ⟨o0, o1, o2, -, o4, -, o6, o7, -, -, o10, o11⟩ := oft hW ht
  have q0 := q_t (G := G) hW hS o0
  rw [e2] at q0
  have q1 := q_t (G := G) hW hS o1
  have q2 := q_t (G := G) hW hS o2
  have q4 := q_t (G := G) hW hS o4
  have q6 := q_t (G := G) hW hS o6
  have q7 := q_t (G := G) hW hS o7
  have q11 := q_t (G := G) hW hS o11
  have qw := q_wai (G := G) hW hS ht
  have q5 : Call G 7 M_X4_count [rv G 0, .int 5] S (fun v u => v = some (N.1 4) ∧ u = S) := q_cnt hW hS (fun n => rfl)
  have kc := k_come (G := G) hW hS (x := nI t) (y := nI k) (c := c)
  have kw := q_why (G := G) hW hS (x := nI t) (y := nI k) (c := c)
  have b25 : ¬ nI s ≤ nI k := nI_ge (by omega) (by omega)
  have hw : whyA N (nI t) (nI k) c = 1 := by rw [why_ok hW ht hk hlt hc]; unfold whyT; rw [hv]; rfl
  rw [hw] at kw
  rw [com_5 (by simp [hw])] at kc
  have c0 := q_of0 (G := G) hW hS ht hk (kn_lt hlt)
  rw [hv] at c0
  refine z_aload_n dL_comes_0 0 rfl ?_
  refine z_iload_n dL_comes_1 1 rfl ?_
  refine z_iload_n dL_comes_2 2 rfl ?_
  refine z_iload_n dL_comes_3 3 rfl ?_
  refine z_callVF (d := 7) (As := [_, _, _]) c_X4_why rfl l_L_31 rfl rfl rfl (Nat.le_of_ble_eq_true rfl) ⟨Nat.le_of_ble_eq_true rfl, Nat.le_of_ble_eq_true rfl⟩ dL_comes_4 kw ?_
  refine z_istore (lo2 := [(0, _), (1, _), (2, _), (3, _), (4, _)]) dL_comes_7 (Nat.le_of_ble_eq_true rfl) [1, 2, 3, 4, 0] rfl ?_
  refine z_aload_n dL_comes_9 0 rfl ?_
  refine z_iload_n dL_comes_10 1 rfl ?_
  refine z_iload_n dL_comes_11 2 rfl ?_
  refine z_iconst dL_comes_12 (v := 0) rfl ?_
  refine z_callVF (d := 7) (As := [_, _, _]) c_X4_of rfl l_L_15 rfl rfl rfl (Nat.le_of_ble_eq_true rfl) ⟨Nat.le_of_ble_eq_true rfl, Nat.le_of_ble_eq_true rfl⟩ dL_comes_13 c0 ?_
  refine z_istore (lo2 := [(0, _), (1, _), (2, _), (3, _), (4, _), (5, _)]) dL_comes_16 (Nat.le_of_ble_eq_true rfl) [1, 2, 3, 4, 5, 0] rfl ?_
  refine z_iload_n dL_comes_18 2 rfl ?_
  refine z_aload_n dL_comes_19 0 rfl ?_
  refine z_iload_n dL_comes_20 1 rfl ?_
  refine z_iconst dL_comes_21 (v := 0) rfl ?_
  refine z_callVF (d := 7) (As := [_, _]) c_X4_ofTroop rfl l_L_19 rfl rfl rfl (Nat.le_of_ble_eq_true rfl) ⟨Nat.le_of_ble_eq_true rfl, Nat.le_of_ble_eq_true rfl⟩ dL_comes_22 q0 ?_
  refine z_icmp_ge dL_comes_25 (tgt := 32) (by decide) (fun h25 => by first | exact absurd (b25) h25 | exact absurd h25 (b25)) (fun h25 => ?_)
  refine z_iconst dL_comes_28 (v := 1) rfl ?_
  refine z_goto dL_comes_29 (tgt := 33) (by decide) ?_
  refine z_istore (lo2 := [(0, _), (1, _), (2, _), (3, _), (4, _), (5, _), (6, _)]) dL_comes_33 (Nat.le_of_ble_eq_true rfl) [1, 2, 3, 4, 5, 6, 0] rfl ?_
  refine z_iload dL_comes_35 6 rfl ?_
  refine z_if_ne dL_comes_37 (tgt := 44) (by decide) (fun h37 => ?_) (fun h37 => by first | exact absurd (by decide) h37 | exact absurd h37 (by decide))
  refine z_iload dL_comes_44 5 rfl ?_
  refine z_iconst dL_comes_46 (v := 3) rfl ?_
  refine z_icmp_ne dL_comes_47 (tgt := 54) (by decide) (fun h47 => by first | exact absurd (rfl) h47 | exact absurd h47 (rfl)) (fun h47 => ?_)
  refine z_iconst dL_comes_50 (v := 1) rfl ?_
  refine z_goto dL_comes_51 (tgt := 89) (by decide) ?_
  refine z_istore (lo2 := [(0, _), (1, _), (2, _), (3, _), (4, _), (5, _), (6, _), (7, _)]) dL_comes_89 (Nat.le_of_ble_eq_true rfl) [1, 2, 3, 4, 5, 6, 7, 0] rfl ?_
  refine z_iload dL_comes_91 4 rfl ?_
  refine z_iload dL_comes_93 7 rfl ?_
  refine z_icmp_eq dL_comes_95 (tgt := 100) (by decide) (fun h95 => ?_) (fun h95 => by first | exact absurd (rfl) h95 | exact absurd h95 (rfl))
  refine z_aload_n dL_comes_100 0 rfl ?_
  refine z_iload_n dL_comes_101 1 rfl ?_
  refine z_bipush dL_comes_102 (v := 6) (by decide +kernel) ?_
  refine z_callVF (d := 7) (As := [_, _]) c_X4_ofTroop rfl l_L_19 rfl rfl rfl (Nat.le_of_ble_eq_true rfl) ⟨Nat.le_of_ble_eq_true rfl, Nat.le_of_ble_eq_true rfl⟩ dL_comes_104 q6 ?_
  refine z_istore (lo2 := [(0, _), (1, _), (2, _), (3, _), (4, _), (5, _), (6, _), (7, _), (8, _)]) dL_comes_107 (Nat.le_of_ble_eq_true rfl) [1, 2, 3, 4, 5, 6, 7, 8, 0] rfl ?_
  refine z_aload_n dL_comes_109 0 rfl ?_
  refine z_iload_n dL_comes_110 1 rfl ?_
  refine z_bipush dL_comes_111 (v := 7) (by decide +kernel) ?_
  refine z_callVF (d := 7) (As := [_, _]) c_X4_ofTroop rfl l_L_19 rfl rfl rfl (Nat.le_of_ble_eq_true rfl) ⟨Nat.le_of_ble_eq_true rfl, Nat.le_of_ble_eq_true rfl⟩ dL_comes_113 q7 ?_
  refine z_istore (lo2 := [(0, _), (1, _), (2, _), (3, _), (4, _), (5, _), (6, _), (7, _), (8, _), (9, _)]) dL_comes_116 (Nat.le_of_ble_eq_true rfl) [1, 2, 3, 4, 5, 6, 7, 8, 9, 0] rfl ?_
  refine z_aload_n dL_comes_118 0 rfl ?_
  refine z_iload_n dL_comes_119 1 rfl ?_
  refine z_callVF (d := 7) (As := [_]) c_X4_waitsFor rfl l_L_23 rfl rfl rfl (Nat.le_of_ble_eq_true rfl) ⟨Nat.le_of_ble_eq_true rfl, Nat.le_of_ble_eq_true rfl⟩ dL_comes_120 qw ?_
  refine z_istore (lo2 := [(0, _), (1, _), (2, _), (3, _), (4, _), (5, _), (6, _), (7, _), (8, _), (9, _), (10, _)]) dL_comes_123 (Nat.le_of_ble_eq_true rfl) [1, 2, 3, 4, 5, 6, 7, 8, 9, 10, 0] rfl ?_
  refine z_aload_n dL_comes_125 0 rfl ?_
  refine z_iload_n dL_comes_126 1 rfl ?_
  refine z_iconst dL_comes_127 (v := 4) rfl ?_
  refine z_callVF (d := 7) (As := [_, _]) c_X4_ofTroop rfl l_L_19 rfl rfl rfl (Nat.le_of_ble_eq_true rfl) ⟨Nat.le_of_ble_eq_true rfl, Nat.le_of_ble_eq_true rfl⟩ dL_comes_128 q4 ?_
  refine z_istore (lo2 := [(0, _), (1, _), (2, _), (3, _), (4, _), (5, _), (6, _), (7, _), (8, _), (9, _), (10, _), (11, _)]) dL_comes_131 (Nat.le_of_ble_eq_true rfl) [1, 2, 3, 4, 5, 6, 7, 8, 9, 10, 11, 0] rfl ?_
  refine z_aload_n dL_comes_133 0 rfl ?_
  refine z_iload_n dL_comes_134 1 rfl ?_
  refine z_bipush dL_comes_135 (v := 11) (by decide +kernel) ?_
  refine z_callVF (d := 7) (As := [_, _]) c_X4_ofTroop rfl l_L_19 rfl rfl rfl (Nat.le_of_ble_eq_true rfl) ⟨Nat.le_of_ble_eq_true rfl, Nat.le_of_ble_eq_true rfl⟩ dL_comes_137 q11 ?_
  refine z_istore (lo2 := [(0, _), (1, _), (2, _), (3, _), (4, _), (5, _), (6, _), (7, _), (8, _), (9, _), (10, _), (11, _), (12, _)]) dL_comes_140 (Nat.le_of_ble_eq_true rfl) [1, 2, 3, 4, 5, 6, 7, 8, 9, 10, 11, 12, 0] rfl ?_
  refine z_aload_n dL_comes_142 0 rfl ?_
  refine z_iload_n dL_comes_143 1 rfl ?_
  refine z_iconst dL_comes_144 (v := 1) rfl ?_
  refine z_callVF (d := 7) (As := [_, _]) c_X4_ofTroop rfl l_L_19 rfl rfl rfl (Nat.le_of_ble_eq_true rfl) ⟨Nat.le_of_ble_eq_true rfl, Nat.le_of_ble_eq_true rfl⟩ dL_comes_145 q1 ?_
  refine z_istore (lo2 := [(0, _), (1, _), (2, _), (3, _), (4, _), (5, _), (6, _), (7, _), (8, _), (9, _), (10, _), (11, _), (12, _), (13, _)]) dL_comes_148 (Nat.le_of_ble_eq_true rfl) [1, 2, 3, 4, 5, 6, 7, 8, 9, 10, 11, 12, 13, 0] rfl ?_
  refine z_aload_n dL_comes_150 0 rfl ?_
  refine z_iload_n dL_comes_151 1 rfl ?_
  refine z_iconst dL_comes_152 (v := 2) rfl ?_
  refine z_callVF (d := 7) (As := [_, _]) c_X4_ofTroop rfl l_L_19 rfl rfl rfl (Nat.le_of_ble_eq_true rfl) ⟨Nat.le_of_ble_eq_true rfl, Nat.le_of_ble_eq_true rfl⟩ dL_comes_153 q2 ?_
  refine z_istore (lo2 := [(0, _), (1, _), (2, _), (3, _), (4, _), (5, _), (6, _), (7, _), (8, _), (9, _), (10, _), (11, _), (12, _), (13, _), (14, _)]) dL_comes_156 (Nat.le_of_ble_eq_true rfl) [1, 2, 3, 4, 5, 6, 7, 8, 9, 10, 11, 12, 13, 14, 0] rfl ?_
  refine z_aload_n dL_comes_158 0 rfl ?_
  refine z_iconst dL_comes_159 (v := 5) rfl ?_
  refine z_callVF (d := 7) (As := [_]) c_X4_count rfl l_L_9 rfl rfl rfl (Nat.le_of_ble_eq_true rfl) ⟨Nat.le_of_ble_eq_true rfl, Nat.le_of_ble_eq_true rfl⟩ dL_comes_160 q5 ?_
  refine z_istore (lo2 := [(0, _), (1, _), (2, _), (3, _), (4, _), (5, _), (6, _), (7, _), (8, _), (9, _), (10, _), (11, _), (12, _), (13, _), (14, _), (15, _)]) dL_comes_163 (Nat.le_of_ble_eq_true rfl) [1, 2, 3, 4, 5, 6, 7, 8, 9, 10, 11, 12, 13, 14, 15, 0] rfl ?_
  refine z_aload_n dL_comes_165 0 rfl ?_
  refine z_iload_n dL_comes_166 1 rfl ?_
  refine z_iload_n dL_comes_167 2 rfl ?_
  refine z_iload_n dL_comes_168 3 rfl ?_
  refine z_callV (d := 7) (As := [_, _, _]) c_X4_come rfl l_L_34 rfl rfl rfl (Nat.le_of_ble_eq_true rfl) ⟨Nat.le_of_ble_eq_true rfl, Nat.le_of_ble_eq_true rfl⟩ dL_comes_169 kc (fun r169 u169 q169 => ?_)
  obtain ⟨z, hS'⟩ := q169
  cases z
  have r6 := q_t (G := G) hW hS' o6
  have r4 := q_t (G := G) hW hS' o4
  refine z_istore (lo2 := [(0, _), (1, _), (2, _), (3, _), (4, _), (5, _), (6, _), (7, _), (8, _), (9, _), (10, _), (11, _), (12, _), (13, _), (14, _), (15, _), (16, _)]) dL_comes_172 (Nat.le_of_ble_eq_true rfl) [1, 2, 3, 4, 5, 6, 7, 8, 9, 10, 11, 12, 13, 14, 15, 16, 0] rfl ?_
  refine z_iload dL_comes_174 4 rfl ?_
  refine z_if_lt dL_comes_176 (tgt := 190) (by decide) (fun h176 => by first | exact absurd (by decide) h176 | exact absurd h176 (by decide)) (fun h176 => ?_)
  refine z_iload dL_comes_179 4 rfl ?_
  refine z_if_le dL_comes_181 (tgt := 235) (by decide) (fun h181 => by first | exact absurd (by decide) h181 | exact absurd h181 (by decide)) (fun h181 => ?_)
  refine z_iload dL_comes_184 4 rfl ?_
  refine z_iconst dL_comes_186 (v := 4) rfl ?_
  refine z_icmp_ge dL_comes_187 (tgt := 235) (by decide) (fun h187 => by first | exact absurd (by decide) h187 | exact absurd h187 (by decide)) (fun h187 => ?_)
  refine z_iload dL_comes_190 16 rfl ?_
  refine z_iload dL_comes_192 4 rfl ?_
  refine z_if_ge dL_comes_194 (tgt := 201) (by decide) (fun h194 => ?_) (fun h194 => by first | exact absurd (by decide) h194 | exact absurd h194 (by decide))
  refine z_bipush dL_comes_201 (v := -5) (by decide +kernel) ?_
  refine z_icmp_ne dL_comes_203 (tgt := 233) (by decide) (fun h203 => by first | exact absurd (rfl) h203 | exact absurd h203 (rfl)) (fun h203 => ?_)
  refine z_aload_n dL_comes_206 0 rfl ?_
  refine z_iload_n dL_comes_207 1 rfl ?_
  refine z_bipush dL_comes_208 (v := 6) (by decide +kernel) ?_
  refine z_callVF (d := 7) (As := [_, _]) c_X4_ofTroop rfl l_L_19 rfl rfl rfl (Nat.le_of_ble_eq_true rfl) ⟨Nat.le_of_ble_eq_true rfl, Nat.le_of_ble_eq_true rfl⟩ dL_comes_210 r6 ?_
  refine z_iload dL_comes_213 8 rfl ?_
  refine z_icmp_ne dL_comes_215 (tgt := 233) (by decide) (fun h215 => by first | exact absurd (rfl) h215 | exact absurd h215 (rfl)) (fun h215 => ?_)
  refine z_aload_n dL_comes_218 0 rfl ?_
  refine z_iload_n dL_comes_219 1 rfl ?_
  refine z_iconst dL_comes_220 (v := 4) rfl ?_
  refine z_callVF (d := 7) (As := [_, _]) c_X4_ofTroop rfl l_L_19 rfl rfl rfl (Nat.le_of_ble_eq_true rfl) ⟨Nat.le_of_ble_eq_true rfl, Nat.le_of_ble_eq_true rfl⟩ dL_comes_221 r4 ?_
  refine z_iload dL_comes_224 11 rfl ?_
  refine z_icmp_ne dL_comes_226 (tgt := 233) (by decide) (fun h226 => by first | exact absurd (rfl) h226 | exact absurd h226 (rfl)) (fun h226 => ?_)
  refine z_iconst dL_comes_229 (v := 1) rfl ?_
  refine z_goto dL_comes_230 (tgt := 234) (by decide) ?_
  refine z_zret rfl (by first | rfl | decide) dL_comes_234 ?_
  exact ⟨rfl, N, hN.mono (by omega), hS'⟩
theorem t_comes_1 (hN : NI N b) (hS : LI S N) (ht : t < cnt N) (hk : k < 16) (hc : c = 0 ∨ c = 1) (hlt : k < tsz (N.2 t)) (hv : (N.2 t).2.1 k = 1) : CallL G 8 240 0 0 M_L_comes [rv G 0, .int (nI t), .int (nI k), .int c] S (fun v u => v = some 1 ∧ ∃ N', NI N' (b + 3) ∧ LI u N') := by
  refine callL_of (lo := [(0, rv G 0), (1, .int (nI t)), (2, .int (nI k)), (3, .int c)]) (by decide +kernel) (Nat.le_of_ble_eq_true rfl) rfl ?_
  have hW := hN.1
  have hT := hN.2.1 t ht
  have hWT := hT.1
  have hc5 := hW.cn.2
  obtain ⟨s, e1, e2, e3, e4⟩ := hWT.sz
  obtain ⟨o0, o1, o2, -, o4, -, o6, o7, -, -, o10, o11⟩ := oft hW ht
  have q0 := q_t (G := G) hW hS o0
  rw [e2] at q0
  have q1 := q_t (G := G) hW hS o1
  have q2 := q_t (G := G) hW hS o2
  have q4 := q_t (G := G) hW hS o4
  have q6 := q_t (G := G) hW hS o6
  have q7 := q_t (G := G) hW hS o7
  have q11 := q_t (G := G) hW hS o11
  have qw := q_wai (G := G) hW hS ht
  have q5 : Call G 7 M_X4_count [rv G 0, .int 5] S (fun v u => v = some (N.1 4) ∧ u = S) := q_cnt hW hS (fun n => rfl)
  have kc := k_come (G := G) hW hS (x := nI t) (y := nI k) (c := c)
  have kw := q_why (G := G) hW hS (x := nI t) (y := nI k) (c := c)
  have b25 : ¬ nI s ≤ nI k := nI_ge (by omega) (by omega)
  have hw : whyA N (nI t) (nI k) c = 2 := by rw [why_ok hW ht hk hlt hc]; unfold whyT; rw [hv]; rfl
  rw [hw] at kw
  rw [com_5 (by simp [hw])] at kc
  have c0 := q_of0 (G := G) hW hS ht hk (kn_lt hlt)
  rw [hv] at c0
  refine z_aload_n dL_comes_0 0 rfl ?_
  refine z_iload_n dL_comes_1 1 rfl ?_
  refine z_iload_n dL_comes_2 2 rfl ?_
  refine z_iload_n dL_comes_3 3 rfl ?_
  refine z_callVF (d := 7) (As := [_, _, _]) c_X4_why rfl l_L_31 rfl rfl rfl (Nat.le_of_ble_eq_true rfl) ⟨Nat.le_of_ble_eq_true rfl, Nat.le_of_ble_eq_true rfl⟩ dL_comes_4 kw ?_
  refine z_istore (lo2 := [(0, _), (1, _), (2, _), (3, _), (4, _)]) dL_comes_7 (Nat.le_of_ble_eq_true rfl) [1, 2, 3, 4, 0] rfl ?_
  refine z_aload_n dL_comes_9 0 rfl ?_
  refine z_iload_n dL_comes_10 1 rfl ?_
  refine z_iload_n dL_comes_11 2 rfl ?_
  refine z_iconst dL_comes_12 (v := 0) rfl ?_
  refine z_callVF (d := 7) (As := [_, _, _]) c_X4_of rfl l_L_15 rfl rfl rfl (Nat.le_of_ble_eq_true rfl) ⟨Nat.le_of_ble_eq_true rfl, Nat.le_of_ble_eq_true rfl⟩ dL_comes_13 c0 ?_
  refine z_istore (lo2 := [(0, _), (1, _), (2, _), (3, _), (4, _), (5, _)]) dL_comes_16 (Nat.le_of_ble_eq_true rfl) [1, 2, 3, 4, 5, 0] rfl ?_
  refine z_iload_n dL_comes_18 2 rfl ?_
  refine z_aload_n dL_comes_19 0 rfl ?_
  refine z_iload_n dL_comes_20 1 rfl ?_
  refine z_iconst dL_comes_21 (v := 0) rfl ?_
  refine z_callVF (d := 7) (As := [_, _]) c_X4_ofTroop rfl l_L_19 rfl rfl rfl (Nat.le_of_ble_eq_true rfl) ⟨Nat.le_of_ble_eq_true rfl, Nat.le_of_ble_eq_true rfl⟩ dL_comes_22 q0 ?_
  refine z_icmp_ge dL_comes_25 (tgt := 32) (by decide) (fun h25 => by first | exact absurd (b25) h25 | exact absurd h25 (b25)) (fun h25 => ?_)
  refine z_iconst dL_comes_28 (v := 1) rfl ?_
  refine z_goto dL_comes_29 (tgt := 33) (by decide) ?_
  refine z_istore (lo2 := [(0, _), (1, _), (2, _), (3, _), (4, _), (5, _), (6, _)]) dL_comes_33 (Nat.le_of_ble_eq_true rfl) [1, 2, 3, 4, 5, 6, 0] rfl ?_
  refine z_iload dL_comes_35 6 rfl ?_
  refine z_if_ne dL_comes_37 (tgt := 44) (by decide) (fun h37 => ?_) (fun h37 => by first | exact absurd (by decide) h37 | exact absurd h37 (by decide))
  refine z_iload dL_comes_44 5 rfl ?_
  refine z_iconst dL_comes_46 (v := 3) rfl ?_
  refine z_icmp_ne dL_comes_47 (tgt := 54) (by decide) (fun h47 => ?_) (fun h47 => by first | exact absurd (by decide) h47 | exact absurd h47 (by decide))
  refine z_iload dL_comes_54 5 rfl ?_
  refine z_iconst dL_comes_56 (v := 1) rfl ?_
  refine z_icmp_ne dL_comes_57 (tgt := 64) (by decide) (fun h57 => by first | exact absurd (rfl) h57 | exact absurd h57 (rfl)) (fun h57 => ?_)
  refine z_iconst dL_comes_60 (v := 2) rfl ?_
  refine z_goto dL_comes_61 (tgt := 89) (by decide) ?_
  refine z_istore (lo2 := [(0, _), (1, _), (2, _), (3, _), (4, _), (5, _), (6, _), (7, _)]) dL_comes_89 (Nat.le_of_ble_eq_true rfl) [1, 2, 3, 4, 5, 6, 7, 0] rfl ?_
  refine z_iload dL_comes_91 4 rfl ?_
  refine z_iload dL_comes_93 7 rfl ?_
  refine z_icmp_eq dL_comes_95 (tgt := 100) (by decide) (fun h95 => ?_) (fun h95 => by first | exact absurd (rfl) h95 | exact absurd h95 (rfl))
  refine z_aload_n dL_comes_100 0 rfl ?_
  refine z_iload_n dL_comes_101 1 rfl ?_
  refine z_bipush dL_comes_102 (v := 6) (by decide +kernel) ?_
  refine z_callVF (d := 7) (As := [_, _]) c_X4_ofTroop rfl l_L_19 rfl rfl rfl (Nat.le_of_ble_eq_true rfl) ⟨Nat.le_of_ble_eq_true rfl, Nat.le_of_ble_eq_true rfl⟩ dL_comes_104 q6 ?_
  refine z_istore (lo2 := [(0, _), (1, _), (2, _), (3, _), (4, _), (5, _), (6, _), (7, _), (8, _)]) dL_comes_107 (Nat.le_of_ble_eq_true rfl) [1, 2, 3, 4, 5, 6, 7, 8, 0] rfl ?_
  refine z_aload_n dL_comes_109 0 rfl ?_
  refine z_iload_n dL_comes_110 1 rfl ?_
  refine z_bipush dL_comes_111 (v := 7) (by decide +kernel) ?_
  refine z_callVF (d := 7) (As := [_, _]) c_X4_ofTroop rfl l_L_19 rfl rfl rfl (Nat.le_of_ble_eq_true rfl) ⟨Nat.le_of_ble_eq_true rfl, Nat.le_of_ble_eq_true rfl⟩ dL_comes_113 q7 ?_
  refine z_istore (lo2 := [(0, _), (1, _), (2, _), (3, _), (4, _), (5, _), (6, _), (7, _), (8, _), (9, _)]) dL_comes_116 (Nat.le_of_ble_eq_true rfl) [1, 2, 3, 4, 5, 6, 7, 8, 9, 0] rfl ?_
  refine z_aload_n dL_comes_118 0 rfl ?_
  refine z_iload_n dL_comes_119 1 rfl ?_
  refine z_callVF (d := 7) (As := [_]) c_X4_waitsFor rfl l_L_23 rfl rfl rfl (Nat.le_of_ble_eq_true rfl) ⟨Nat.le_of_ble_eq_true rfl, Nat.le_of_ble_eq_true rfl⟩ dL_comes_120 qw ?_
  refine z_istore (lo2 := [(0, _), (1, _), (2, _), (3, _), (4, _), (5, _), (6, _), (7, _), (8, _), (9, _), (10, _)]) dL_comes_123 (Nat.le_of_ble_eq_true rfl) [1, 2, 3, 4, 5, 6, 7, 8, 9, 10, 0] rfl ?_
  refine z_aload_n dL_comes_125 0 rfl ?_
  refine z_iload_n dL_comes_126 1 rfl ?_
  refine z_iconst dL_comes_127 (v := 4) rfl ?_
  refine z_callVF (d := 7) (As := [_, _]) c_X4_ofTroop rfl l_L_19 rfl rfl rfl (Nat.le_of_ble_eq_true rfl) ⟨Nat.le_of_ble_eq_true rfl, Nat.le_of_ble_eq_true rfl⟩ dL_comes_128 q4 ?_
  refine z_istore (lo2 := [(0, _), (1, _), (2, _), (3, _), (4, _), (5, _), (6, _), (7, _), (8, _), (9, _), (10, _), (11, _)]) dL_comes_131 (Nat.le_of_ble_eq_true rfl) [1, 2, 3, 4, 5, 6, 7, 8, 9, 10, 11, 0] rfl ?_
  refine z_aload_n dL_comes_133 0 rfl ?_
  refine z_iload_n dL_comes_134 1 rfl ?_
  refine z_bipush dL_comes_135 (v := 11) (by decide +kernel) ?_
  refine z_callVF (d := 7) (As := [_, _]) c_X4_ofTroop rfl l_L_19 rfl rfl rfl (Nat.le_of_ble_eq_true rfl) ⟨Nat.le_of_ble_eq_true rfl, Nat.le_of_ble_eq_true rfl⟩ dL_comes_137 q11 ?_
  refine z_istore (lo2 := [(0, _), (1, _), (2, _), (3, _), (4, _), (5, _), (6, _), (7, _), (8, _), (9, _), (10, _), (11, _), (12, _)]) dL_comes_140 (Nat.le_of_ble_eq_true rfl) [1, 2, 3, 4, 5, 6, 7, 8, 9, 10, 11, 12, 0] rfl ?_
  refine z_aload_n dL_comes_142 0 rfl ?_
  refine z_iload_n dL_comes_143 1 rfl ?_
  refine z_iconst dL_comes_144 (v := 1) rfl ?_
  refine z_callVF (d := 7) (As := [_, _]) c_X4_ofTroop rfl l_L_19 rfl rfl rfl (Nat.le_of_ble_eq_true rfl) ⟨Nat.le_of_ble_eq_true rfl, Nat.le_of_ble_eq_true rfl⟩ dL_comes_145 q1 ?_
  refine z_istore (lo2 := [(0, _), (1, _), (2, _), (3, _), (4, _), (5, _), (6, _), (7, _), (8, _), (9, _), (10, _), (11, _), (12, _), (13, _)]) dL_comes_148 (Nat.le_of_ble_eq_true rfl) [1, 2, 3, 4, 5, 6, 7, 8, 9, 10, 11, 12, 13, 0] rfl ?_
  refine z_aload_n dL_comes_150 0 rfl ?_
  refine z_iload_n dL_comes_151 1 rfl ?_
  refine z_iconst dL_comes_152 (v := 2) rfl ?_
  refine z_callVF (d := 7) (As := [_, _]) c_X4_ofTroop rfl l_L_19 rfl rfl rfl (Nat.le_of_ble_eq_true rfl) ⟨Nat.le_of_ble_eq_true rfl, Nat.le_of_ble_eq_true rfl⟩ dL_comes_153 q2 ?_
  refine z_istore (lo2 := [(0, _), (1, _), (2, _), (3, _), (4, _), (5, _), (6, _), (7, _), (8, _), (9, _), (10, _), (11, _), (12, _), (13, _), (14, _)]) dL_comes_156 (Nat.le_of_ble_eq_true rfl) [1, 2, 3, 4, 5, 6, 7, 8, 9, 10, 11, 12, 13, 14, 0] rfl ?_
  refine z_aload_n dL_comes_158 0 rfl ?_
  refine z_iconst dL_comes_159 (v := 5) rfl ?_
  refine z_callVF (d := 7) (As := [_]) c_X4_count rfl l_L_9 rfl rfl rfl (Nat.le_of_ble_eq_true rfl) ⟨Nat.le_of_ble_eq_true rfl, Nat.le_of_ble_eq_true rfl⟩ dL_comes_160 q5 ?_
  refine z_istore (lo2 := [(0, _), (1, _), (2, _), (3, _), (4, _), (5, _), (6, _), (7, _), (8, _), (9, _), (10, _), (11, _), (12, _), (13, _), (14, _), (15, _)]) dL_comes_163 (Nat.le_of_ble_eq_true rfl) [1, 2, 3, 4, 5, 6, 7, 8, 9, 10, 11, 12, 13, 14, 15, 0] rfl ?_
  refine z_aload_n dL_comes_165 0 rfl ?_
  refine z_iload_n dL_comes_166 1 rfl ?_
  refine z_iload_n dL_comes_167 2 rfl ?_
  refine z_iload_n dL_comes_168 3 rfl ?_
  refine z_callV (d := 7) (As := [_, _, _]) c_X4_come rfl l_L_34 rfl rfl rfl (Nat.le_of_ble_eq_true rfl) ⟨Nat.le_of_ble_eq_true rfl, Nat.le_of_ble_eq_true rfl⟩ dL_comes_169 kc (fun r169 u169 q169 => ?_)
  obtain ⟨z, hS'⟩ := q169
  cases z
  have r6 := q_t (G := G) hW hS' o6
  have r4 := q_t (G := G) hW hS' o4
  refine z_istore (lo2 := [(0, _), (1, _), (2, _), (3, _), (4, _), (5, _), (6, _), (7, _), (8, _), (9, _), (10, _), (11, _), (12, _), (13, _), (14, _), (15, _), (16, _)]) dL_comes_172 (Nat.le_of_ble_eq_true rfl) [1, 2, 3, 4, 5, 6, 7, 8, 9, 10, 11, 12, 13, 14, 15, 16, 0] rfl ?_
  refine z_iload dL_comes_174 4 rfl ?_
  refine z_if_lt dL_comes_176 (tgt := 190) (by decide) (fun h176 => by first | exact absurd (by decide) h176 | exact absurd h176 (by decide)) (fun h176 => ?_)
  refine z_iload dL_comes_179 4 rfl ?_
  refine z_if_le dL_comes_181 (tgt := 235) (by decide) (fun h181 => by first | exact absurd (by decide) h181 | exact absurd h181 (by decide)) (fun h181 => ?_)
  refine z_iload dL_comes_184 4 rfl ?_
  refine z_iconst dL_comes_186 (v := 4) rfl ?_
  refine z_icmp_ge dL_comes_187 (tgt := 235) (by decide) (fun h187 => by first | exact absurd (by decide) h187 | exact absurd h187 (by decide)) (fun h187 => ?_)
  refine z_iload dL_comes_190 16 rfl ?_
  refine z_iload dL_comes_192 4 rfl ?_
  refine z_if_ge dL_comes_194 (tgt := 201) (by decide) (fun h194 => ?_) (fun h194 => by first | exact absurd (by decide) h194 | exact absurd h194 (by decide))
  refine z_bipush dL_comes_201 (v := -5) (by decide +kernel) ?_
  refine z_icmp_ne dL_comes_203 (tgt := 233) (by decide) (fun h203 => by first | exact absurd (rfl) h203 | exact absurd h203 (rfl)) (fun h203 => ?_)
  refine z_aload_n dL_comes_206 0 rfl ?_
  refine z_iload_n dL_comes_207 1 rfl ?_
  refine z_bipush dL_comes_208 (v := 6) (by decide +kernel) ?_
  refine z_callVF (d := 7) (As := [_, _]) c_X4_ofTroop rfl l_L_19 rfl rfl rfl (Nat.le_of_ble_eq_true rfl) ⟨Nat.le_of_ble_eq_true rfl, Nat.le_of_ble_eq_true rfl⟩ dL_comes_210 r6 ?_
  refine z_iload dL_comes_213 8 rfl ?_
  refine z_icmp_ne dL_comes_215 (tgt := 233) (by decide) (fun h215 => by first | exact absurd (rfl) h215 | exact absurd h215 (rfl)) (fun h215 => ?_)
  refine z_aload_n dL_comes_218 0 rfl ?_
  refine z_iload_n dL_comes_219 1 rfl ?_
  refine z_iconst dL_comes_220 (v := 4) rfl ?_
  refine z_callVF (d := 7) (As := [_, _]) c_X4_ofTroop rfl l_L_19 rfl rfl rfl (Nat.le_of_ble_eq_true rfl) ⟨Nat.le_of_ble_eq_true rfl, Nat.le_of_ble_eq_true rfl⟩ dL_comes_221 r4 ?_
  refine z_iload dL_comes_224 11 rfl ?_
  refine z_icmp_ne dL_comes_226 (tgt := 233) (by decide) (fun h226 => by first | exact absurd (rfl) h226 | exact absurd h226 (rfl)) (fun h226 => ?_)
  refine z_iconst dL_comes_229 (v := 1) rfl ?_
  refine z_goto dL_comes_230 (tgt := 234) (by decide) ?_
  refine z_zret rfl (by first | rfl | decide) dL_comes_234 ?_
  exact ⟨rfl, N, hN.mono (by omega), hS'⟩
theorem t_comes_2 (hN : NI N b) (hS : LI S N) (ht : t < cnt N) (hk : k < 16) (hc : c = 0 ∨ c = 1) (hlt : k < tsz (N.2 t)) (hv : (N.2 t).2.1 k = 2) : CallL G 8 240 0 0 M_L_comes [rv G 0, .int (nI t), .int (nI k), .int c] S (fun v u => v = some 1 ∧ ∃ N', NI N' (b + 3) ∧ LI u N') := by
  refine callL_of (lo := [(0, rv G 0), (1, .int (nI t)), (2, .int (nI k)), (3, .int c)]) (by decide +kernel) (Nat.le_of_ble_eq_true rfl) rfl ?_
  have hW := hN.1
  have hT := hN.2.1 t ht
  have hWT := hT.1
  have hc5 := hW.cn.2
  obtain ⟨s, e1, e2, e3, e4⟩ := hWT.sz
  obtain ⟨o0, o1, o2, -, o4, -, o6, o7, -, -, o10, o11⟩ := oft hW ht
  have q0 := q_t (G := G) hW hS o0
  rw [e2] at q0
  have q1 := q_t (G := G) hW hS o1
  have q2 := q_t (G := G) hW hS o2
  have q4 := q_t (G := G) hW hS o4
  have q6 := q_t (G := G) hW hS o6
  have q7 := q_t (G := G) hW hS o7
  have q11 := q_t (G := G) hW hS o11
  have qw := q_wai (G := G) hW hS ht
  have q5 : Call G 7 M_X4_count [rv G 0, .int 5] S (fun v u => v = some (N.1 4) ∧ u = S) := q_cnt hW hS (fun n => rfl)
  have kc := k_come (G := G) hW hS (x := nI t) (y := nI k) (c := c)
  have kw := q_why (G := G) hW hS (x := nI t) (y := nI k) (c := c)
  have b25 : ¬ nI s ≤ nI k := nI_ge (by omega) (by omega)
  have hw : whyA N (nI t) (nI k) c = 3 := by rw [why_ok hW ht hk hlt hc]; unfold whyT; rw [hv]; rfl
  rw [hw] at kw
  rw [com_5 (by simp [hw])] at kc
  have c0 := q_of0 (G := G) hW hS ht hk (kn_lt hlt)
  rw [hv] at c0
  refine z_aload_n dL_comes_0 0 rfl ?_
  refine z_iload_n dL_comes_1 1 rfl ?_
  refine z_iload_n dL_comes_2 2 rfl ?_
  refine z_iload_n dL_comes_3 3 rfl ?_
  refine z_callVF (d := 7) (As := [_, _, _]) c_X4_why rfl l_L_31 rfl rfl rfl (Nat.le_of_ble_eq_true rfl) ⟨Nat.le_of_ble_eq_true rfl, Nat.le_of_ble_eq_true rfl⟩ dL_comes_4 kw ?_
  refine z_istore (lo2 := [(0, _), (1, _), (2, _), (3, _), (4, _)]) dL_comes_7 (Nat.le_of_ble_eq_true rfl) [1, 2, 3, 4, 0] rfl ?_
  refine z_aload_n dL_comes_9 0 rfl ?_
  refine z_iload_n dL_comes_10 1 rfl ?_
  refine z_iload_n dL_comes_11 2 rfl ?_
  refine z_iconst dL_comes_12 (v := 0) rfl ?_
  refine z_callVF (d := 7) (As := [_, _, _]) c_X4_of rfl l_L_15 rfl rfl rfl (Nat.le_of_ble_eq_true rfl) ⟨Nat.le_of_ble_eq_true rfl, Nat.le_of_ble_eq_true rfl⟩ dL_comes_13 c0 ?_
  refine z_istore (lo2 := [(0, _), (1, _), (2, _), (3, _), (4, _), (5, _)]) dL_comes_16 (Nat.le_of_ble_eq_true rfl) [1, 2, 3, 4, 5, 0] rfl ?_
  refine z_iload_n dL_comes_18 2 rfl ?_
  refine z_aload_n dL_comes_19 0 rfl ?_
  refine z_iload_n dL_comes_20 1 rfl ?_
  refine z_iconst dL_comes_21 (v := 0) rfl ?_
  refine z_callVF (d := 7) (As := [_, _]) c_X4_ofTroop rfl l_L_19 rfl rfl rfl (Nat.le_of_ble_eq_true rfl) ⟨Nat.le_of_ble_eq_true rfl, Nat.le_of_ble_eq_true rfl⟩ dL_comes_22 q0 ?_
  refine z_icmp_ge dL_comes_25 (tgt := 32) (by decide) (fun h25 => by first | exact absurd (b25) h25 | exact absurd h25 (b25)) (fun h25 => ?_)
  refine z_iconst dL_comes_28 (v := 1) rfl ?_
  refine z_goto dL_comes_29 (tgt := 33) (by decide) ?_
  refine z_istore (lo2 := [(0, _), (1, _), (2, _), (3, _), (4, _), (5, _), (6, _)]) dL_comes_33 (Nat.le_of_ble_eq_true rfl) [1, 2, 3, 4, 5, 6, 0] rfl ?_
  refine z_iload dL_comes_35 6 rfl ?_
  refine z_if_ne dL_comes_37 (tgt := 44) (by decide) (fun h37 => ?_) (fun h37 => by first | exact absurd (by decide) h37 | exact absurd h37 (by decide))
  refine z_iload dL_comes_44 5 rfl ?_
  refine z_iconst dL_comes_46 (v := 3) rfl ?_
  refine z_icmp_ne dL_comes_47 (tgt := 54) (by decide) (fun h47 => ?_) (fun h47 => by first | exact absurd (by decide) h47 | exact absurd h47 (by decide))
  refine z_iload dL_comes_54 5 rfl ?_
  refine z_iconst dL_comes_56 (v := 1) rfl ?_
  refine z_icmp_ne dL_comes_57 (tgt := 64) (by decide) (fun h57 => ?_) (fun h57 => by first | exact absurd (by decide) h57 | exact absurd h57 (by decide))
  refine z_iload dL_comes_64 5 rfl ?_
  refine z_iconst dL_comes_66 (v := 2) rfl ?_
  refine z_icmp_ne dL_comes_67 (tgt := 74) (by decide) (fun h67 => by first | exact absurd (rfl) h67 | exact absurd h67 (rfl)) (fun h67 => ?_)
  refine z_iconst dL_comes_70 (v := 3) rfl ?_
  refine z_goto dL_comes_71 (tgt := 89) (by decide) ?_
  refine z_istore (lo2 := [(0, _), (1, _), (2, _), (3, _), (4, _), (5, _), (6, _), (7, _)]) dL_comes_89 (Nat.le_of_ble_eq_true rfl) [1, 2, 3, 4, 5, 6, 7, 0] rfl ?_
  refine z_iload dL_comes_91 4 rfl ?_
  refine z_iload dL_comes_93 7 rfl ?_
  refine z_icmp_eq dL_comes_95 (tgt := 100) (by decide) (fun h95 => ?_) (fun h95 => by first | exact absurd (rfl) h95 | exact absurd h95 (rfl))
  refine z_aload_n dL_comes_100 0 rfl ?_
  refine z_iload_n dL_comes_101 1 rfl ?_
  refine z_bipush dL_comes_102 (v := 6) (by decide +kernel) ?_
  refine z_callVF (d := 7) (As := [_, _]) c_X4_ofTroop rfl l_L_19 rfl rfl rfl (Nat.le_of_ble_eq_true rfl) ⟨Nat.le_of_ble_eq_true rfl, Nat.le_of_ble_eq_true rfl⟩ dL_comes_104 q6 ?_
  refine z_istore (lo2 := [(0, _), (1, _), (2, _), (3, _), (4, _), (5, _), (6, _), (7, _), (8, _)]) dL_comes_107 (Nat.le_of_ble_eq_true rfl) [1, 2, 3, 4, 5, 6, 7, 8, 0] rfl ?_
  refine z_aload_n dL_comes_109 0 rfl ?_
  refine z_iload_n dL_comes_110 1 rfl ?_
  refine z_bipush dL_comes_111 (v := 7) (by decide +kernel) ?_
  refine z_callVF (d := 7) (As := [_, _]) c_X4_ofTroop rfl l_L_19 rfl rfl rfl (Nat.le_of_ble_eq_true rfl) ⟨Nat.le_of_ble_eq_true rfl, Nat.le_of_ble_eq_true rfl⟩ dL_comes_113 q7 ?_
  refine z_istore (lo2 := [(0, _), (1, _), (2, _), (3, _), (4, _), (5, _), (6, _), (7, _), (8, _), (9, _)]) dL_comes_116 (Nat.le_of_ble_eq_true rfl) [1, 2, 3, 4, 5, 6, 7, 8, 9, 0] rfl ?_
  refine z_aload_n dL_comes_118 0 rfl ?_
  refine z_iload_n dL_comes_119 1 rfl ?_
  refine z_callVF (d := 7) (As := [_]) c_X4_waitsFor rfl l_L_23 rfl rfl rfl (Nat.le_of_ble_eq_true rfl) ⟨Nat.le_of_ble_eq_true rfl, Nat.le_of_ble_eq_true rfl⟩ dL_comes_120 qw ?_
  refine z_istore (lo2 := [(0, _), (1, _), (2, _), (3, _), (4, _), (5, _), (6, _), (7, _), (8, _), (9, _), (10, _)]) dL_comes_123 (Nat.le_of_ble_eq_true rfl) [1, 2, 3, 4, 5, 6, 7, 8, 9, 10, 0] rfl ?_
  refine z_aload_n dL_comes_125 0 rfl ?_
  refine z_iload_n dL_comes_126 1 rfl ?_
  refine z_iconst dL_comes_127 (v := 4) rfl ?_
  refine z_callVF (d := 7) (As := [_, _]) c_X4_ofTroop rfl l_L_19 rfl rfl rfl (Nat.le_of_ble_eq_true rfl) ⟨Nat.le_of_ble_eq_true rfl, Nat.le_of_ble_eq_true rfl⟩ dL_comes_128 q4 ?_
  refine z_istore (lo2 := [(0, _), (1, _), (2, _), (3, _), (4, _), (5, _), (6, _), (7, _), (8, _), (9, _), (10, _), (11, _)]) dL_comes_131 (Nat.le_of_ble_eq_true rfl) [1, 2, 3, 4, 5, 6, 7, 8, 9, 10, 11, 0] rfl ?_
  refine z_aload_n dL_comes_133 0 rfl ?_
  refine z_iload_n dL_comes_134 1 rfl ?_
  refine z_bipush dL_comes_135 (v := 11) (by decide +kernel) ?_
  refine z_callVF (d := 7) (As := [_, _]) c_X4_ofTroop rfl l_L_19 rfl rfl rfl (Nat.le_of_ble_eq_true rfl) ⟨Nat.le_of_ble_eq_true rfl, Nat.le_of_ble_eq_true rfl⟩ dL_comes_137 q11 ?_
  refine z_istore (lo2 := [(0, _), (1, _), (2, _), (3, _), (4, _), (5, _), (6, _), (7, _), (8, _), (9, _), (10, _), (11, _), (12, _)]) dL_comes_140 (Nat.le_of_ble_eq_true rfl) [1, 2, 3, 4, 5, 6, 7, 8, 9, 10, 11, 12, 0] rfl ?_
  refine z_aload_n dL_comes_142 0 rfl ?_
  refine z_iload_n dL_comes_143 1 rfl ?_
  refine z_iconst dL_comes_144 (v := 1) rfl ?_
  refine z_callVF (d := 7) (As := [_, _]) c_X4_ofTroop rfl l_L_19 rfl rfl rfl (Nat.le_of_ble_eq_true rfl) ⟨Nat.le_of_ble_eq_true rfl, Nat.le_of_ble_eq_true rfl⟩ dL_comes_145 q1 ?_
  refine z_istore (lo2 := [(0, _), (1, _), (2, _), (3, _), (4, _), (5, _), (6, _), (7, _), (8, _), (9, _), (10, _), (11, _), (12, _), (13, _)]) dL_comes_148 (Nat.le_of_ble_eq_true rfl) [1, 2, 3, 4, 5, 6, 7, 8, 9, 10, 11, 12, 13, 0] rfl ?_
  refine z_aload_n dL_comes_150 0 rfl ?_
  refine z_iload_n dL_comes_151 1 rfl ?_
  refine z_iconst dL_comes_152 (v := 2) rfl ?_
  refine z_callVF (d := 7) (As := [_, _]) c_X4_ofTroop rfl l_L_19 rfl rfl rfl (Nat.le_of_ble_eq_true rfl) ⟨Nat.le_of_ble_eq_true rfl, Nat.le_of_ble_eq_true rfl⟩ dL_comes_153 q2 ?_
  refine z_istore (lo2 := [(0, _), (1, _), (2, _), (3, _), (4, _), (5, _), (6, _), (7, _), (8, _), (9, _), (10, _), (11, _), (12, _), (13, _), (14, _)]) dL_comes_156 (Nat.le_of_ble_eq_true rfl) [1, 2, 3, 4, 5, 6, 7, 8, 9, 10, 11, 12, 13, 14, 0] rfl ?_
  refine z_aload_n dL_comes_158 0 rfl ?_
  refine z_iconst dL_comes_159 (v := 5) rfl ?_
  refine z_callVF (d := 7) (As := [_]) c_X4_count rfl l_L_9 rfl rfl rfl (Nat.le_of_ble_eq_true rfl) ⟨Nat.le_of_ble_eq_true rfl, Nat.le_of_ble_eq_true rfl⟩ dL_comes_160 q5 ?_
  refine z_istore (lo2 := [(0, _), (1, _), (2, _), (3, _), (4, _), (5, _), (6, _), (7, _), (8, _), (9, _), (10, _), (11, _), (12, _), (13, _), (14, _), (15, _)]) dL_comes_163 (Nat.le_of_ble_eq_true rfl) [1, 2, 3, 4, 5, 6, 7, 8, 9, 10, 11, 12, 13, 14, 15, 0] rfl ?_
  refine z_aload_n dL_comes_165 0 rfl ?_
  refine z_iload_n dL_comes_166 1 rfl ?_
  refine z_iload_n dL_comes_167 2 rfl ?_
  refine z_iload_n dL_comes_168 3 rfl ?_
  refine z_callV (d := 7) (As := [_, _, _]) c_X4_come rfl l_L_34 rfl rfl rfl (Nat.le_of_ble_eq_true rfl) ⟨Nat.le_of_ble_eq_true rfl, Nat.le_of_ble_eq_true rfl⟩ dL_comes_169 kc (fun r169 u169 q169 => ?_)
  obtain ⟨z, hS'⟩ := q169
  cases z
  have r6 := q_t (G := G) hW hS' o6
  have r4 := q_t (G := G) hW hS' o4
  refine z_istore (lo2 := [(0, _), (1, _), (2, _), (3, _), (4, _), (5, _), (6, _), (7, _), (8, _), (9, _), (10, _), (11, _), (12, _), (13, _), (14, _), (15, _), (16, _)]) dL_comes_172 (Nat.le_of_ble_eq_true rfl) [1, 2, 3, 4, 5, 6, 7, 8, 9, 10, 11, 12, 13, 14, 15, 16, 0] rfl ?_
  refine z_iload dL_comes_174 4 rfl ?_
  refine z_if_lt dL_comes_176 (tgt := 190) (by decide) (fun h176 => by first | exact absurd (by decide) h176 | exact absurd h176 (by decide)) (fun h176 => ?_)
  refine z_iload dL_comes_179 4 rfl ?_
  refine z_if_le dL_comes_181 (tgt := 235) (by decide) (fun h181 => by first | exact absurd (by decide) h181 | exact absurd h181 (by decide)) (fun h181 => ?_)
  refine z_iload dL_comes_184 4 rfl ?_
  refine z_iconst dL_comes_186 (v := 4) rfl ?_
  refine z_icmp_ge dL_comes_187 (tgt := 235) (by decide) (fun h187 => by first | exact absurd (by decide) h187 | exact absurd h187 (by decide)) (fun h187 => ?_)
  refine z_iload dL_comes_190 16 rfl ?_
  refine z_iload dL_comes_192 4 rfl ?_
  refine z_if_ge dL_comes_194 (tgt := 201) (by decide) (fun h194 => ?_) (fun h194 => by first | exact absurd (by decide) h194 | exact absurd h194 (by decide))
  refine z_bipush dL_comes_201 (v := -5) (by decide +kernel) ?_
  refine z_icmp_ne dL_comes_203 (tgt := 233) (by decide) (fun h203 => by first | exact absurd (rfl) h203 | exact absurd h203 (rfl)) (fun h203 => ?_)
  refine z_aload_n dL_comes_206 0 rfl ?_
  refine z_iload_n dL_comes_207 1 rfl ?_
  refine z_bipush dL_comes_208 (v := 6) (by decide +kernel) ?_
  refine z_callVF (d := 7) (As := [_, _]) c_X4_ofTroop rfl l_L_19 rfl rfl rfl (Nat.le_of_ble_eq_true rfl) ⟨Nat.le_of_ble_eq_true rfl, Nat.le_of_ble_eq_true rfl⟩ dL_comes_210 r6 ?_
  refine z_iload dL_comes_213 8 rfl ?_
  refine z_icmp_ne dL_comes_215 (tgt := 233) (by decide) (fun h215 => by first | exact absurd (rfl) h215 | exact absurd h215 (rfl)) (fun h215 => ?_)
  refine z_aload_n dL_comes_218 0 rfl ?_
  refine z_iload_n dL_comes_219 1 rfl ?_
  refine z_iconst dL_comes_220 (v := 4) rfl ?_
  refine z_callVF (d := 7) (As := [_, _]) c_X4_ofTroop rfl l_L_19 rfl rfl rfl (Nat.le_of_ble_eq_true rfl) ⟨Nat.le_of_ble_eq_true rfl, Nat.le_of_ble_eq_true rfl⟩ dL_comes_221 r4 ?_
  refine z_iload dL_comes_224 11 rfl ?_
  refine z_icmp_ne dL_comes_226 (tgt := 233) (by decide) (fun h226 => by first | exact absurd (rfl) h226 | exact absurd h226 (rfl)) (fun h226 => ?_)
  refine z_iconst dL_comes_229 (v := 1) rfl ?_
  refine z_goto dL_comes_230 (tgt := 234) (by decide) ?_
  refine z_zret rfl (by first | rfl | decide) dL_comes_234 ?_
  exact ⟨rfl, N, hN.mono (by omega), hS'⟩
theorem t_comes_w0 (hN : NI N b) (hb : b ≤ 900) (hS : LI S N) (ht : t < cnt N) (hk : k < 16) (hc : c = 0 ∨ c = 1) (hlt : k < tsz (N.2 t)) (hv3 : ¬ (N.2 t).2.1 k = 3) (hv1 : ¬ (N.2 t).2.1 k = 1) (hv2 : ¬ (N.2 t).2.1 k = 2) (hcc : c = (N.2 t).1 1) : CallL G 8 240 0 0 M_L_comes [rv G 0, .int (nI t), .int (nI k), .int c] S (fun v u => v = some 1 ∧ ∃ N', NI N' (b + 3) ∧ LI u N') := by
  refine callL_of (lo := [(0, rv G 0), (1, .int (nI t)), (2, .int (nI k)), (3, .int c)]) (by decide +kernel) (Nat.le_of_ble_eq_true rfl) rfl ?_
  have hW := hN.1
  have hT := hN.2.1 t ht
  have hWT := hT.1
  have hc5 := hW.cn.2
  obtain ⟨s, e1, e2, e3, e4⟩ := hWT.sz
  obtain ⟨o0, o1, o2, -, o4, -, o6, o7, -, -, o10, o11⟩ := oft hW ht
  have q0 := q_t (G := G) hW hS o0
  rw [e2] at q0
  have q1 := q_t (G := G) hW hS o1
  have q2 := q_t (G := G) hW hS o2
  have q4 := q_t (G := G) hW hS o4
  have q6 := q_t (G := G) hW hS o6
  have q7 := q_t (G := G) hW hS o7
  have q11 := q_t (G := G) hW hS o11
  have qw := q_wai (G := G) hW hS ht
  have q5 : Call G 7 M_X4_count [rv G 0, .int 5] S (fun v u => v = some (N.1 4) ∧ u = S) := q_cnt hW hS (fun n => rfl)
  have kc := k_come (G := G) hW hS (x := nI t) (y := nI k) (c := c)
  have kw := q_why (G := G) hW hS (x := nI t) (y := nI k) (c := c)
  have b25 : ¬ nI s ≤ nI k := nI_ge (by omega) (by omega)
  have hw : whyA N (nI t) (nI k) c = 0 := by rw [why_ok hW ht hk hlt hc]; unfold whyT; rw [if_neg hv3, if_neg hv1, if_neg hv2, if_pos hcc]
  rw [hw] at kw
  rw [com_0 (by omega) hk hw] at kc
  have c0 := q_of0 (G := G) hW hS ht hk (kn_lt hlt)
  obtain ⟨f0, f1, f2, f3, f4, f5⟩ := com_f (h := 1) hT hN.2.2.2.1 hlt (by simp) hv2 hb
  have hN' : NI (setTr N t (opnN 3 (setH (N.2 t) k 1) (N.1 1)).2) (b + 3) := ni_tr hN (by omega) f0
  generalize eN : setTr N t (opnN 3 (setH (N.2 t) k 1) (N.1 1)).2 = N' at kc hN'
  have eT : N'.2 t = (opnN 3 (setH (N.2 t) k 1) (N.1 1)).2 := by rw [← eN]; exact tr_at
  have eA : N'.1 1 = N.1 1 := by rw [← eN]; rfl
  have eE : N'.1 4 = N.1 4 + 0 := by rw [← eN]; exact (Int32.add_zero _).symm
  have ht' : t < cnt N' := by rw [← eN]; exact ht
  clear eN
  generalize eK : opK 3 (setH (N.2 t) k 1) (N.1 1) = n at f1 f2 f3 f4 f5 kc
  rw [← eT] at f0 f2 f3 f4 f5
  rw [← eA] at f5
  clear eA eK
  have hW' := hN'.1
  have hWT' := f0.1
  have g0 : ¬ nI n < 0 := nI_pos (by omega)
  have g3 : ¬ (3 : Int32) < nI n := nI_nlt (a := 3) f1 (by omega)
  obtain ⟨p0, p1, -, -, p4, -, -, -, -, -, p10, p11⟩ := oft hW' ht'
  have st169 : ∀ (u : mS) (x5 x6 x7 x15 x13 : Int32), LI u N' → Lt G 8 240 0 0 M_L_comes (fun v u => v = some 1 ∧ ∃ N', NI N' (b + 3) ∧ LI u N') 300 [(0, rv G 0), (1, .int (nI t)), (2, .int (nI k)), (3, .int c), (4, .int 0), (5, .int x5), (6, .int x6), (7, .int x7), (8, .int (hm (N.2 t) 1)), (9, .int (hm (N.2 t) 2)), (10, .int (awM (N.2 t))), (11, .int ((N.2 t).1 3)), (12, .int ((N.2 t).1 4)), (13, .int x13), (14, .int ((N.2 t).1 2)), (15, .int x15), (16, .int (nI n))] [] (u, [], 0, 0) := by
    intro u x5 x6 x7 x15 x13 hS'
    have r0 := q_t (G := G) hW' hS' p0
    have r10 := q_t (G := G) hW' hS' p10
    have r11 := q_t (G := G) hW' hS' p11
    rcases Nat.eq_zero_or_pos n with hz | hz
    · obtain ⟨y1, y2⟩ := f4 hz
      have hn0 : nI n = 0 := by rw [hz]; rfl
      have e5 : (N'.2 t).2.1 k = 1 := by rw [y1]; show upd (N.2 t).2.1 k 1 k = 1; rw [upd, if_pos rfl]
      have d0 := q_of0 (G := G) hW' hS' ht' hk (kn_of hWT' hk (by rw [e5]; decide))
      rw [e5] at d0
      have e11 : (N'.2 t).1 4 = (N.2 t).1 4 := by rw [y1]; rfl
      rw [e11] at r11
      have haw : ¬ (awM (N.2 t) &&& (((1 : Int32) <<< (nI k &&& 31)) ^^^ (-1))) = 0 := by rw [aw_set hk]; exact ca_no hk y2
      refine z_iload dL_comes_300 16 rfl ?_
      refine z_if_ne dL_comes_302 (tgt := 360) (by decide) (fun h302 => by first | exact absurd (hn0) h302 | exact absurd h302 (hn0)) (fun h302 => ?_)
      refine z_aload_n dL_comes_305 0 rfl ?_
      refine z_iload_n dL_comes_306 1 rfl ?_
      refine z_iload_n dL_comes_307 2 rfl ?_
      refine z_iconst dL_comes_308 (v := 0) rfl ?_
      refine z_callVF (d := 7) (As := [_, _, _]) c_X4_of rfl l_L_15 rfl rfl rfl (Nat.le_of_ble_eq_true rfl) ⟨Nat.le_of_ble_eq_true rfl, Nat.le_of_ble_eq_true rfl⟩ dL_comes_309 d0 ?_
      refine z_iload dL_comes_312 4 rfl ?_
      refine z_if_ne dL_comes_314 (tgt := 321) (by decide) (fun h314 => by first | exact absurd (rfl) h314 | exact absurd h314 (rfl)) (fun h314 => ?_)
      refine z_iconst dL_comes_317 (v := 1) rfl ?_
      refine z_goto dL_comes_318 (tgt := 322) (by decide) ?_
      refine z_icmp_ne dL_comes_322 (tgt := 358) (by decide) (fun h322 => by first | exact absurd (rfl) h322 | exact absurd h322 (rfl)) (fun h322 => ?_)
      refine z_aload_n dL_comes_325 0 rfl ?_
      refine z_iload_n dL_comes_326 1 rfl ?_
      refine z_bipush dL_comes_327 (v := 11) (by decide +kernel) ?_
      refine z_callVF (d := 7) (As := [_, _]) c_X4_ofTroop rfl l_L_19 rfl rfl rfl (Nat.le_of_ble_eq_true rfl) ⟨Nat.le_of_ble_eq_true rfl, Nat.le_of_ble_eq_true rfl⟩ dL_comes_329 r11 ?_
      refine z_iload dL_comes_332 12 rfl ?_
      refine z_icmp_ne dL_comes_334 (tgt := 358) (by decide) (fun h334 => by first | exact absurd (rfl) h334 | exact absurd h334 (rfl)) (fun h334 => ?_)
      refine z_iload dL_comes_337 4 rfl ?_
      refine z_iconst dL_comes_339 (v := 4) rfl ?_
      refine z_icmp_eq dL_comes_340 (tgt := 354) (by decide) (fun h340 => by first | exact absurd (by decide) h340 | exact absurd h340 (by decide)) (fun h340 => ?_)
      refine z_iload dL_comes_343 10 rfl ?_
      refine z_iconst dL_comes_345 (v := 1) rfl ?_
      refine z_iload_n dL_comes_346 2 rfl ?_
      refine z_ishl dL_comes_347 ?_
      refine z_iconst dL_comes_348 (v := -1) rfl ?_
      refine z_ixor dL_comes_349 ?_
      refine z_iand dL_comes_350 ?_
      refine z_if_eq dL_comes_351 (tgt := 358) (by decide) (fun h351 => by first | exact absurd (haw) h351 | exact absurd h351 (haw)) (fun h351 => ?_)
      refine z_iconst dL_comes_354 (v := 1) rfl ?_
      refine z_goto dL_comes_355 (tgt := 359) (by decide) ?_
      refine z_zret rfl (by first | rfl | decide) dL_comes_359 ?_
      exact ⟨rfl, N', hN', hS'⟩
    · obtain ⟨y1, y2, y3, y4, y5, y6⟩ := f5 hz
      have hn1 : nI n ≠ 0 := nI_ne0 hz (by omega)
      obtain ⟨ns, z1, z2, z3, z4⟩ := hWT.nx
      have f10 : (N'.2 t).1 5 = 0 := y3
      have haw : (awM (N.2 t) &&& (((1 : Int32) <<< (nI k &&& 31)) ^^^ (-1))) = 0 := by rw [aw_set hk]; exact y1
      have fin := @lp_comes G u N' t n (hm (N.2 t) 2) ((N.2 t).1 4) ((N.2 t).1 2) (hm (setH (N.2 t) k 1) 1) (fun v u => v = some 1 ∧ ∃ N', NI N' (b + 3) ∧ LI u N') hW' hS' ht' ⟨by rw [z1]; exact z2, by omega⟩ f1 y4 y5 y6 ⟨rfl, N', hN', hS'⟩ 16 0 (by omega)
      refine z_iload dL_comes_300 16 rfl ?_
      refine z_if_ne dL_comes_302 (tgt := 360) (by decide) (fun h302 => ?_) (fun h302 => by first | exact absurd (hn1) h302 | exact absurd h302 (hn1))
      refine z_iload dL_comes_360 4 rfl ?_
      refine z_if_ne dL_comes_362 (tgt := 376) (by decide) (fun h362 => by first | exact absurd (rfl) h362 | exact absurd h362 (rfl)) (fun h362 => ?_)
      refine z_iload dL_comes_365 10 rfl ?_
      refine z_iconst dL_comes_367 (v := 1) rfl ?_
      refine z_iload_n dL_comes_368 2 rfl ?_
      refine z_ishl dL_comes_369 ?_
      refine z_iconst dL_comes_370 (v := -1) rfl ?_
      refine z_ixor dL_comes_371 ?_
      refine z_iand dL_comes_372 ?_
      refine z_if_ne dL_comes_373 (tgt := 397) (by decide) (fun h373 => by first | exact absurd (haw) h373 | exact absurd h373 (haw)) (fun h373 => ?_)
      refine z_aload_n dL_comes_376 0 rfl ?_
      refine z_iload_n dL_comes_377 1 rfl ?_
      refine z_iconst dL_comes_378 (v := 0) rfl ?_
      refine z_callVF (d := 7) (As := [_, _]) c_X4_ofTroop rfl l_L_19 rfl rfl rfl (Nat.le_of_ble_eq_true rfl) ⟨Nat.le_of_ble_eq_true rfl, Nat.le_of_ble_eq_true rfl⟩ dL_comes_379 r0 ?_
      refine z_iload dL_comes_382 14 rfl ?_
      refine z_icmp_ne dL_comes_384 (tgt := 397) (by decide) (fun h384 => by first | exact absurd (y2) h384 | exact absurd h384 (y2)) (fun h384 => ?_)
      refine z_aload_n dL_comes_387 0 rfl ?_
      refine z_iload_n dL_comes_388 1 rfl ?_
      refine z_bipush dL_comes_389 (v := 10) (by decide +kernel) ?_
      refine z_callVF (d := 7) (As := [_, _]) c_X4_ofTroop rfl l_L_19 rfl rfl rfl (Nat.le_of_ble_eq_true rfl) ⟨Nat.le_of_ble_eq_true rfl, Nat.le_of_ble_eq_true rfl⟩ dL_comes_391 r10 ?_
      refine z_if_eq dL_comes_394 (tgt := 399) (by decide) (fun h394 => ?_) (fun h394 => by first | exact absurd (f10) h394 | exact absurd h394 (f10))
      refine z_iload dL_comes_399 8 rfl ?_
      refine z_iload dL_comes_401 4 rfl ?_
      refine z_if_ne dL_comes_403 (tgt := 412) (by decide) (fun h403 => by first | exact absurd (rfl) h403 | exact absurd h403 (rfl)) (fun h403 => ?_)
      refine z_iconst dL_comes_406 (v := 1) rfl ?_
      refine z_iload_n dL_comes_407 2 rfl ?_
      refine z_ishl dL_comes_408 ?_
      refine z_goto dL_comes_409 (tgt := 413) (by decide) ?_
      refine z_ior dL_comes_413 ?_
      refine z_istore (lo2 := [(0, _), (1, _), (2, _), (3, _), (4, _), (5, _), (6, _), (7, _), (8, _), (9, _), (10, _), (11, _), (12, _), (13, _), (14, _), (15, _), (16, _)]) dL_comes_414 (Nat.le_of_ble_eq_true rfl) [1, 2, 3, 4, 5, 6, 7, 8, 0, 9, 10, 11, 12, 13, 14, 15, 16] rfl ?_
      refine z_iconst dL_comes_416 (v := 0) rfl ?_
      refine z_istore (lo2 := [(0, _), (1, _), (2, _), (3, _), (4, _), (5, _), (6, _), (7, _), (8, _), (9, _), (10, _), (11, _), (12, _), (13, _), (14, _), (15, _), (16, _), (17, _)]) dL_comes_417 (Nat.le_of_ble_eq_true rfl) [1, 2, 3, 4, 5, 6, 7, 8, 9, 10, 11, 12, 13, 14, 15, 16, 17, 0] rfl ?_
      rw [hm_in hk]
      exact z_sub [0, 1, 8, 9, 12, 14, 16, 17] rfl fin
  refine z_aload_n dL_comes_0 0 rfl ?_
  refine z_iload_n dL_comes_1 1 rfl ?_
  refine z_iload_n dL_comes_2 2 rfl ?_
  refine z_iload_n dL_comes_3 3 rfl ?_
  refine z_callVF (d := 7) (As := [_, _, _]) c_X4_why rfl l_L_31 rfl rfl rfl (Nat.le_of_ble_eq_true rfl) ⟨Nat.le_of_ble_eq_true rfl, Nat.le_of_ble_eq_true rfl⟩ dL_comes_4 kw ?_
  refine z_istore (lo2 := [(0, _), (1, _), (2, _), (3, _), (4, _)]) dL_comes_7 (Nat.le_of_ble_eq_true rfl) [1, 2, 3, 4, 0] rfl ?_
  refine z_aload_n dL_comes_9 0 rfl ?_
  refine z_iload_n dL_comes_10 1 rfl ?_
  refine z_iload_n dL_comes_11 2 rfl ?_
  refine z_iconst dL_comes_12 (v := 0) rfl ?_
  refine z_callVF (d := 7) (As := [_, _, _]) c_X4_of rfl l_L_15 rfl rfl rfl (Nat.le_of_ble_eq_true rfl) ⟨Nat.le_of_ble_eq_true rfl, Nat.le_of_ble_eq_true rfl⟩ dL_comes_13 c0 ?_
  refine z_istore (lo2 := [(0, _), (1, _), (2, _), (3, _), (4, _), (5, _)]) dL_comes_16 (Nat.le_of_ble_eq_true rfl) [1, 2, 3, 4, 5, 0] rfl ?_
  refine z_iload_n dL_comes_18 2 rfl ?_
  refine z_aload_n dL_comes_19 0 rfl ?_
  refine z_iload_n dL_comes_20 1 rfl ?_
  refine z_iconst dL_comes_21 (v := 0) rfl ?_
  refine z_callVF (d := 7) (As := [_, _]) c_X4_ofTroop rfl l_L_19 rfl rfl rfl (Nat.le_of_ble_eq_true rfl) ⟨Nat.le_of_ble_eq_true rfl, Nat.le_of_ble_eq_true rfl⟩ dL_comes_22 q0 ?_
  refine z_icmp_ge dL_comes_25 (tgt := 32) (by decide) (fun h25 => by first | exact absurd (b25) h25 | exact absurd h25 (b25)) (fun h25 => ?_)
  refine z_iconst dL_comes_28 (v := 1) rfl ?_
  refine z_goto dL_comes_29 (tgt := 33) (by decide) ?_
  refine z_istore (lo2 := [(0, _), (1, _), (2, _), (3, _), (4, _), (5, _), (6, _)]) dL_comes_33 (Nat.le_of_ble_eq_true rfl) [1, 2, 3, 4, 5, 6, 0] rfl ?_
  refine z_iload dL_comes_35 6 rfl ?_
  refine z_if_ne dL_comes_37 (tgt := 44) (by decide) (fun h37 => ?_) (fun h37 => by first | exact absurd (by decide) h37 | exact absurd h37 (by decide))
  refine z_iload dL_comes_44 5 rfl ?_
  refine z_iconst dL_comes_46 (v := 3) rfl ?_
  refine z_icmp_ne dL_comes_47 (tgt := 54) (by decide) (fun h47 => ?_) (fun h47 => by first | exact absurd (hv3) h47 | exact absurd h47 (hv3))
  refine z_iload dL_comes_54 5 rfl ?_
  refine z_iconst dL_comes_56 (v := 1) rfl ?_
  refine z_icmp_ne dL_comes_57 (tgt := 64) (by decide) (fun h57 => ?_) (fun h57 => by first | exact absurd (hv1) h57 | exact absurd h57 (hv1))
  refine z_iload dL_comes_64 5 rfl ?_
  refine z_iconst dL_comes_66 (v := 2) rfl ?_
  refine z_icmp_ne dL_comes_67 (tgt := 74) (by decide) (fun h67 => ?_) (fun h67 => by first | exact absurd (hv2) h67 | exact absurd h67 (hv2))
  refine z_iload_n dL_comes_74 3 rfl ?_
  refine z_aload_n dL_comes_75 0 rfl ?_
  refine z_iload_n dL_comes_76 1 rfl ?_
  refine z_iconst dL_comes_77 (v := 1) rfl ?_
  refine z_callVF (d := 7) (As := [_, _]) c_X4_ofTroop rfl l_L_19 rfl rfl rfl (Nat.le_of_ble_eq_true rfl) ⟨Nat.le_of_ble_eq_true rfl, Nat.le_of_ble_eq_true rfl⟩ dL_comes_78 q1 ?_
  refine z_icmp_ne dL_comes_81 (tgt := 88) (by decide) (fun h81 => by first | exact absurd (hcc) h81 | exact absurd h81 (hcc)) (fun h81 => ?_)
  refine z_iconst dL_comes_84 (v := 0) rfl ?_
  refine z_goto dL_comes_85 (tgt := 89) (by decide) ?_
  refine z_istore (lo2 := [(0, _), (1, _), (2, _), (3, _), (4, _), (5, _), (6, _), (7, _)]) dL_comes_89 (Nat.le_of_ble_eq_true rfl) [1, 2, 3, 4, 5, 6, 7, 0] rfl ?_
  refine z_iload dL_comes_91 4 rfl ?_
  refine z_iload dL_comes_93 7 rfl ?_
  refine z_icmp_eq dL_comes_95 (tgt := 100) (by decide) (fun h95 => ?_) (fun h95 => by first | exact absurd (rfl) h95 | exact absurd h95 (rfl))
  refine z_aload_n dL_comes_100 0 rfl ?_
  refine z_iload_n dL_comes_101 1 rfl ?_
  refine z_bipush dL_comes_102 (v := 6) (by decide +kernel) ?_
  refine z_callVF (d := 7) (As := [_, _]) c_X4_ofTroop rfl l_L_19 rfl rfl rfl (Nat.le_of_ble_eq_true rfl) ⟨Nat.le_of_ble_eq_true rfl, Nat.le_of_ble_eq_true rfl⟩ dL_comes_104 q6 ?_
  refine z_istore (lo2 := [(0, _), (1, _), (2, _), (3, _), (4, _), (5, _), (6, _), (7, _), (8, _)]) dL_comes_107 (Nat.le_of_ble_eq_true rfl) [1, 2, 3, 4, 5, 6, 7, 8, 0] rfl ?_
  refine z_aload_n dL_comes_109 0 rfl ?_
  refine z_iload_n dL_comes_110 1 rfl ?_
  refine z_bipush dL_comes_111 (v := 7) (by decide +kernel) ?_
  refine z_callVF (d := 7) (As := [_, _]) c_X4_ofTroop rfl l_L_19 rfl rfl rfl (Nat.le_of_ble_eq_true rfl) ⟨Nat.le_of_ble_eq_true rfl, Nat.le_of_ble_eq_true rfl⟩ dL_comes_113 q7 ?_
  refine z_istore (lo2 := [(0, _), (1, _), (2, _), (3, _), (4, _), (5, _), (6, _), (7, _), (8, _), (9, _)]) dL_comes_116 (Nat.le_of_ble_eq_true rfl) [1, 2, 3, 4, 5, 6, 7, 8, 9, 0] rfl ?_
  refine z_aload_n dL_comes_118 0 rfl ?_
  refine z_iload_n dL_comes_119 1 rfl ?_
  refine z_callVF (d := 7) (As := [_]) c_X4_waitsFor rfl l_L_23 rfl rfl rfl (Nat.le_of_ble_eq_true rfl) ⟨Nat.le_of_ble_eq_true rfl, Nat.le_of_ble_eq_true rfl⟩ dL_comes_120 qw ?_
  refine z_istore (lo2 := [(0, _), (1, _), (2, _), (3, _), (4, _), (5, _), (6, _), (7, _), (8, _), (9, _), (10, _)]) dL_comes_123 (Nat.le_of_ble_eq_true rfl) [1, 2, 3, 4, 5, 6, 7, 8, 9, 10, 0] rfl ?_
  refine z_aload_n dL_comes_125 0 rfl ?_
  refine z_iload_n dL_comes_126 1 rfl ?_
  refine z_iconst dL_comes_127 (v := 4) rfl ?_
  refine z_callVF (d := 7) (As := [_, _]) c_X4_ofTroop rfl l_L_19 rfl rfl rfl (Nat.le_of_ble_eq_true rfl) ⟨Nat.le_of_ble_eq_true rfl, Nat.le_of_ble_eq_true rfl⟩ dL_comes_128 q4 ?_
  refine z_istore (lo2 := [(0, _), (1, _), (2, _), (3, _), (4, _), (5, _), (6, _), (7, _), (8, _), (9, _), (10, _), (11, _)]) dL_comes_131 (Nat.le_of_ble_eq_true rfl) [1, 2, 3, 4, 5, 6, 7, 8, 9, 10, 11, 0] rfl ?_
  refine z_aload_n dL_comes_133 0 rfl ?_
  refine z_iload_n dL_comes_134 1 rfl ?_
  refine z_bipush dL_comes_135 (v := 11) (by decide +kernel) ?_
  refine z_callVF (d := 7) (As := [_, _]) c_X4_ofTroop rfl l_L_19 rfl rfl rfl (Nat.le_of_ble_eq_true rfl) ⟨Nat.le_of_ble_eq_true rfl, Nat.le_of_ble_eq_true rfl⟩ dL_comes_137 q11 ?_
  refine z_istore (lo2 := [(0, _), (1, _), (2, _), (3, _), (4, _), (5, _), (6, _), (7, _), (8, _), (9, _), (10, _), (11, _), (12, _)]) dL_comes_140 (Nat.le_of_ble_eq_true rfl) [1, 2, 3, 4, 5, 6, 7, 8, 9, 10, 11, 12, 0] rfl ?_
  refine z_aload_n dL_comes_142 0 rfl ?_
  refine z_iload_n dL_comes_143 1 rfl ?_
  refine z_iconst dL_comes_144 (v := 1) rfl ?_
  refine z_callVF (d := 7) (As := [_, _]) c_X4_ofTroop rfl l_L_19 rfl rfl rfl (Nat.le_of_ble_eq_true rfl) ⟨Nat.le_of_ble_eq_true rfl, Nat.le_of_ble_eq_true rfl⟩ dL_comes_145 q1 ?_
  refine z_istore (lo2 := [(0, _), (1, _), (2, _), (3, _), (4, _), (5, _), (6, _), (7, _), (8, _), (9, _), (10, _), (11, _), (12, _), (13, _)]) dL_comes_148 (Nat.le_of_ble_eq_true rfl) [1, 2, 3, 4, 5, 6, 7, 8, 9, 10, 11, 12, 13, 0] rfl ?_
  refine z_aload_n dL_comes_150 0 rfl ?_
  refine z_iload_n dL_comes_151 1 rfl ?_
  refine z_iconst dL_comes_152 (v := 2) rfl ?_
  refine z_callVF (d := 7) (As := [_, _]) c_X4_ofTroop rfl l_L_19 rfl rfl rfl (Nat.le_of_ble_eq_true rfl) ⟨Nat.le_of_ble_eq_true rfl, Nat.le_of_ble_eq_true rfl⟩ dL_comes_153 q2 ?_
  refine z_istore (lo2 := [(0, _), (1, _), (2, _), (3, _), (4, _), (5, _), (6, _), (7, _), (8, _), (9, _), (10, _), (11, _), (12, _), (13, _), (14, _)]) dL_comes_156 (Nat.le_of_ble_eq_true rfl) [1, 2, 3, 4, 5, 6, 7, 8, 9, 10, 11, 12, 13, 14, 0] rfl ?_
  refine z_aload_n dL_comes_158 0 rfl ?_
  refine z_iconst dL_comes_159 (v := 5) rfl ?_
  refine z_callVF (d := 7) (As := [_]) c_X4_count rfl l_L_9 rfl rfl rfl (Nat.le_of_ble_eq_true rfl) ⟨Nat.le_of_ble_eq_true rfl, Nat.le_of_ble_eq_true rfl⟩ dL_comes_160 q5 ?_
  refine z_istore (lo2 := [(0, _), (1, _), (2, _), (3, _), (4, _), (5, _), (6, _), (7, _), (8, _), (9, _), (10, _), (11, _), (12, _), (13, _), (14, _), (15, _)]) dL_comes_163 (Nat.le_of_ble_eq_true rfl) [1, 2, 3, 4, 5, 6, 7, 8, 9, 10, 11, 12, 13, 14, 15, 0] rfl ?_
  refine z_aload_n dL_comes_165 0 rfl ?_
  refine z_iload_n dL_comes_166 1 rfl ?_
  refine z_iload_n dL_comes_167 2 rfl ?_
  refine z_iload_n dL_comes_168 3 rfl ?_
  refine z_callV (d := 7) (As := [_, _, _]) c_X4_come rfl l_L_34 rfl rfl rfl (Nat.le_of_ble_eq_true rfl) ⟨Nat.le_of_ble_eq_true rfl, Nat.le_of_ble_eq_true rfl⟩ dL_comes_169 kc (fun r169 u169 q169 => ?_)
  obtain ⟨z, hS'⟩ := q169
  cases z
  have r4 := q_t (G := G) hW' hS' p4
  have r1 := q_t (G := G) hW' hS' p1
  have r0 := q_t (G := G) hW' hS' p0
  have r10 := q_t (G := G) hW' hS' p10
  have r11 := q_t (G := G) hW' hS' p11
  have r5 : Call G 7 M_X4_count [rv G 0, .int 5] u169 (fun v w => v = some (N'.1 4) ∧ w = u169) := q_cnt hW' hS' (fun n => rfl)
  refine z_istore (lo2 := [(0, _), (1, _), (2, _), (3, _), (4, _), (5, _), (6, _), (7, _), (8, _), (9, _), (10, _), (11, _), (12, _), (13, _), (14, _), (15, _), (16, _)]) dL_comes_172 (Nat.le_of_ble_eq_true rfl) [1, 2, 3, 4, 5, 6, 7, 8, 9, 10, 11, 12, 13, 14, 15, 16, 0] rfl ?_
  refine z_iload dL_comes_174 4 rfl ?_
  refine z_if_lt dL_comes_176 (tgt := 190) (by decide) (fun h176 => by first | exact absurd (by decide) h176 | exact absurd h176 (by decide)) (fun h176 => ?_)
  refine z_iload dL_comes_179 4 rfl ?_
  refine z_if_le dL_comes_181 (tgt := 235) (by decide) (fun h181 => ?_) (fun h181 => by first | exact absurd (by decide) h181 | exact absurd h181 (by decide))
  refine z_iload dL_comes_235 16 rfl ?_
  refine z_if_lt dL_comes_237 (tgt := 298) (by decide) (fun h237 => by first | exact absurd (g0) h237 | exact absurd h237 (g0)) (fun h237 => ?_)
  refine z_iload dL_comes_240 16 rfl ?_
  refine z_iconst dL_comes_242 (v := 3) rfl ?_
  refine z_icmp_gt dL_comes_243 (tgt := 298) (by decide) (fun h243 => by first | exact absurd (g3) h243 | exact absurd h243 (g3)) (fun h243 => ?_)
  refine z_aload_n dL_comes_246 0 rfl ?_
  refine z_iload_n dL_comes_247 1 rfl ?_
  refine z_iconst dL_comes_248 (v := 4) rfl ?_
  refine z_callVF (d := 7) (As := [_, _]) c_X4_ofTroop rfl l_L_19 rfl rfl rfl (Nat.le_of_ble_eq_true rfl) ⟨Nat.le_of_ble_eq_true rfl, Nat.le_of_ble_eq_true rfl⟩ dL_comes_249 r4 ?_
  refine z_iload dL_comes_252 11 rfl ?_
  refine z_iload dL_comes_254 16 rfl ?_
  refine z_iadd dL_comes_256 ?_
  refine z_icmp_ne dL_comes_257 (tgt := 298) (by decide) (fun h257 => by first | exact absurd (f2) h257 | exact absurd h257 (f2)) (fun h257 => ?_)
  refine z_aload_n dL_comes_260 0 rfl ?_
  refine z_iload_n dL_comes_261 1 rfl ?_
  refine z_iconst dL_comes_262 (v := 1) rfl ?_
  refine z_callVF (d := 7) (As := [_, _]) c_X4_ofTroop rfl l_L_19 rfl rfl rfl (Nat.le_of_ble_eq_true rfl) ⟨Nat.le_of_ble_eq_true rfl, Nat.le_of_ble_eq_true rfl⟩ dL_comes_263 r1 ?_
  refine z_iload dL_comes_266 13 rfl ?_
  refine z_iload dL_comes_268 16 rfl ?_
  refine z_iadd dL_comes_270 ?_
  refine z_iconst dL_comes_271 (v := 2) rfl ?_
  refine z_irem dL_comes_272 (by decide) ?_
  refine z_icmp_ne dL_comes_273 (tgt := 298) (by decide) (fun h273 => by first | exact absurd (f3) h273 | exact absurd h273 (f3)) (fun h273 => ?_)
  refine z_aload_n dL_comes_276 0 rfl ?_
  refine z_iconst dL_comes_277 (v := 5) rfl ?_
  refine z_callVF (d := 7) (As := [_]) c_X4_count rfl l_L_9 rfl rfl rfl (Nat.le_of_ble_eq_true rfl) ⟨Nat.le_of_ble_eq_true rfl, Nat.le_of_ble_eq_true rfl⟩ dL_comes_278 r5 ?_
  refine z_iload dL_comes_281 15 rfl ?_
  refine z_iload dL_comes_283 4 rfl ?_
  refine z_iconst dL_comes_285 (v := 4) rfl ?_
  refine z_icmp_ne dL_comes_286 (tgt := 293) (by decide) (fun h286 => ?_) (fun h286 => by first | exact absurd (by decide) h286 | exact absurd h286 (by decide))
  refine z_iconst dL_comes_293 (v := 0) rfl ?_
  refine z_iadd dL_comes_294 ?_
  refine z_icmp_eq dL_comes_295 (tgt := 300) (by decide) (fun h295 => ?_) (fun h295 => by first | exact absurd (eE) h295 | exact absurd h295 (eE))
  exact st169 _ _ _ _ _ _ hS'
theorem t_comes_w4 (hN : NI N b) (hb : b ≤ 900) (hS : LI S N) (ht : t < cnt N) (hk : k < 16) (hc : c = 0 ∨ c = 1) (hlt : k < tsz (N.2 t)) (hv3 : ¬ (N.2 t).2.1 k = 3) (hv1 : ¬ (N.2 t).2.1 k = 1) (hv2 : ¬ (N.2 t).2.1 k = 2) (hcc : ¬ c = (N.2 t).1 1) : CallL G 8 240 0 0 M_L_comes [rv G 0, .int (nI t), .int (nI k), .int c] S (fun v u => v = some 1 ∧ ∃ N', NI N' (b + 3) ∧ LI u N') := by
  refine callL_of (lo := [(0, rv G 0), (1, .int (nI t)), (2, .int (nI k)), (3, .int c)]) (by decide +kernel) (Nat.le_of_ble_eq_true rfl) rfl ?_
  have hW := hN.1
  have hT := hN.2.1 t ht
  have hWT := hT.1
  have hc5 := hW.cn.2
  obtain ⟨s, e1, e2, e3, e4⟩ := hWT.sz
  obtain ⟨o0, o1, o2, -, o4, -, o6, o7, -, -, o10, o11⟩ := oft hW ht
  have q0 := q_t (G := G) hW hS o0
  rw [e2] at q0
  have q1 := q_t (G := G) hW hS o1
  have q2 := q_t (G := G) hW hS o2
  have q4 := q_t (G := G) hW hS o4
  have q6 := q_t (G := G) hW hS o6
  have q7 := q_t (G := G) hW hS o7
  have q11 := q_t (G := G) hW hS o11
  have qw := q_wai (G := G) hW hS ht
  have q5 : Call G 7 M_X4_count [rv G 0, .int 5] S (fun v u => v = some (N.1 4) ∧ u = S) := q_cnt hW hS (fun n => rfl)
  have kc := k_come (G := G) hW hS (x := nI t) (y := nI k) (c := c)
  have kw := q_why (G := G) hW hS (x := nI t) (y := nI k) (c := c)
  have b25 : ¬ nI s ≤ nI k := nI_ge (by omega) (by omega)
  have hw : whyA N (nI t) (nI k) c = 4 := by rw [why_ok hW ht hk hlt hc]; unfold whyT; rw [if_neg hv3, if_neg hv1, if_neg hv2, if_neg hcc]
  rw [hw] at kw
  rw [com_4 (by omega) hk hw] at kc
  have c0 := q_of0 (G := G) hW hS ht hk (kn_lt hlt)
  obtain ⟨f0, f1, f2, f3, f4, f5⟩ := com_f (h := 2) hT hN.2.2.2.1 hlt (by simp) hv2 hb
  have hN' : NI (setTr (eryN N) t (opnN 3 (setH (N.2 t) k 2) (N.1 1)).2) (b + 3) := ni_tr (ni_ery hN) (by omega) f0
  generalize eN : setTr (eryN N) t (opnN 3 (setH (N.2 t) k 2) (N.1 1)).2 = N' at kc hN'
  have eT : N'.2 t = (opnN 3 (setH (N.2 t) k 2) (N.1 1)).2 := by rw [← eN]; exact tr_at
  have eA : N'.1 1 = N.1 1 := by rw [← eN]; rfl
  have eE : N'.1 4 = N.1 4 + 1 := by rw [← eN]; rfl
  have ht' : t < cnt N' := by rw [← eN]; exact ht
  clear eN
  generalize eK : opK 3 (setH (N.2 t) k 2) (N.1 1) = n at f1 f2 f3 f4 f5 kc
  rw [← eT] at f0 f2 f3 f4 f5
  rw [← eA] at f5
  clear eA eK
  have hW' := hN'.1
  have hWT' := f0.1
  have g0 : ¬ nI n < 0 := nI_pos (by omega)
  have g3 : ¬ (3 : Int32) < nI n := nI_nlt (a := 3) f1 (by omega)
  obtain ⟨p0, p1, -, -, p4, -, -, -, -, -, p10, p11⟩ := oft hW' ht'
  have st169 : ∀ (u : mS) (x5 x6 x7 x15 x13 : Int32), LI u N' → Lt G 8 240 0 0 M_L_comes (fun v u => v = some 1 ∧ ∃ N', NI N' (b + 3) ∧ LI u N') 300 [(0, rv G 0), (1, .int (nI t)), (2, .int (nI k)), (3, .int c), (4, .int 4), (5, .int x5), (6, .int x6), (7, .int x7), (8, .int (hm (N.2 t) 1)), (9, .int (hm (N.2 t) 2)), (10, .int (awM (N.2 t))), (11, .int ((N.2 t).1 3)), (12, .int ((N.2 t).1 4)), (13, .int x13), (14, .int ((N.2 t).1 2)), (15, .int x15), (16, .int (nI n))] [] (u, [], 0, 0) := by
    intro u x5 x6 x7 x15 x13 hS'
    have r0 := q_t (G := G) hW' hS' p0
    have r10 := q_t (G := G) hW' hS' p10
    have r11 := q_t (G := G) hW' hS' p11
    rcases Nat.eq_zero_or_pos n with hz | hz
    · obtain ⟨y1, y2⟩ := f4 hz
      have hn0 : nI n = 0 := by rw [hz]; rfl
      have e5 : (N'.2 t).2.1 k = 2 := by rw [y1]; show upd (N.2 t).2.1 k 2 k = 2; rw [upd, if_pos rfl]
      have d0 := q_of0 (G := G) hW' hS' ht' hk (kn_of hWT' hk (by rw [e5]; decide))
      rw [e5] at d0
      have e11 : (N'.2 t).1 4 = (N.2 t).1 4 := by rw [y1]; rfl
      rw [e11] at r11
      refine z_iload dL_comes_300 16 rfl ?_
      refine z_if_ne dL_comes_302 (tgt := 360) (by decide) (fun h302 => by first | exact absurd (hn0) h302 | exact absurd h302 (hn0)) (fun h302 => ?_)
      refine z_aload_n dL_comes_305 0 rfl ?_
      refine z_iload_n dL_comes_306 1 rfl ?_
      refine z_iload_n dL_comes_307 2 rfl ?_
      refine z_iconst dL_comes_308 (v := 0) rfl ?_
      refine z_callVF (d := 7) (As := [_, _, _]) c_X4_of rfl l_L_15 rfl rfl rfl (Nat.le_of_ble_eq_true rfl) ⟨Nat.le_of_ble_eq_true rfl, Nat.le_of_ble_eq_true rfl⟩ dL_comes_309 d0 ?_
      refine z_iload dL_comes_312 4 rfl ?_
      refine z_if_ne dL_comes_314 (tgt := 321) (by decide) (fun h314 => ?_) (fun h314 => by first | exact absurd (by decide) h314 | exact absurd h314 (by decide))
      refine z_iconst dL_comes_321 (v := 2) rfl ?_
      refine z_icmp_ne dL_comes_322 (tgt := 358) (by decide) (fun h322 => by first | exact absurd (rfl) h322 | exact absurd h322 (rfl)) (fun h322 => ?_)
      refine z_aload_n dL_comes_325 0 rfl ?_
      refine z_iload_n dL_comes_326 1 rfl ?_
      refine z_bipush dL_comes_327 (v := 11) (by decide +kernel) ?_
      refine z_callVF (d := 7) (As := [_, _]) c_X4_ofTroop rfl l_L_19 rfl rfl rfl (Nat.le_of_ble_eq_true rfl) ⟨Nat.le_of_ble_eq_true rfl, Nat.le_of_ble_eq_true rfl⟩ dL_comes_329 r11 ?_
      refine z_iload dL_comes_332 12 rfl ?_
      refine z_icmp_ne dL_comes_334 (tgt := 358) (by decide) (fun h334 => by first | exact absurd (rfl) h334 | exact absurd h334 (rfl)) (fun h334 => ?_)
      refine z_iload dL_comes_337 4 rfl ?_
      refine z_iconst dL_comes_339 (v := 4) rfl ?_
      refine z_icmp_eq dL_comes_340 (tgt := 354) (by decide) (fun h340 => ?_) (fun h340 => by first | exact absurd (rfl) h340 | exact absurd h340 (rfl))
      refine z_iconst dL_comes_354 (v := 1) rfl ?_
      refine z_goto dL_comes_355 (tgt := 359) (by decide) ?_
      refine z_zret rfl (by first | rfl | decide) dL_comes_359 ?_
      exact ⟨rfl, N', hN', hS'⟩
    · obtain ⟨y1, y2, y3, y4, y5, y6⟩ := f5 hz
      have hn1 : nI n ≠ 0 := nI_ne0 hz (by omega)
      obtain ⟨ns, z1, z2, z3, z4⟩ := hWT.nx
      have f10 : (N'.2 t).1 5 = 0 := y3
      have fin := @lp_comes G u N' t n (hm (N.2 t) 2) ((N.2 t).1 4) ((N.2 t).1 2) (hm (setH (N.2 t) k 2) 1) (fun v u => v = some 1 ∧ ∃ N', NI N' (b + 3) ∧ LI u N') hW' hS' ht' ⟨by rw [z1]; exact z2, by omega⟩ f1 y4 y5 y6 ⟨rfl, N', hN', hS'⟩ 16 0 (by omega)
      refine z_iload dL_comes_300 16 rfl ?_
      refine z_if_ne dL_comes_302 (tgt := 360) (by decide) (fun h302 => ?_) (fun h302 => by first | exact absurd (hn1) h302 | exact absurd h302 (hn1))
      refine z_iload dL_comes_360 4 rfl ?_
      refine z_if_ne dL_comes_362 (tgt := 376) (by decide) (fun h362 => ?_) (fun h362 => by first | exact absurd (by decide) h362 | exact absurd h362 (by decide))
      refine z_aload_n dL_comes_376 0 rfl ?_
      refine z_iload_n dL_comes_377 1 rfl ?_
      refine z_iconst dL_comes_378 (v := 0) rfl ?_
      refine z_callVF (d := 7) (As := [_, _]) c_X4_ofTroop rfl l_L_19 rfl rfl rfl (Nat.le_of_ble_eq_true rfl) ⟨Nat.le_of_ble_eq_true rfl, Nat.le_of_ble_eq_true rfl⟩ dL_comes_379 r0 ?_
      refine z_iload dL_comes_382 14 rfl ?_
      refine z_icmp_ne dL_comes_384 (tgt := 397) (by decide) (fun h384 => by first | exact absurd (y2) h384 | exact absurd h384 (y2)) (fun h384 => ?_)
      refine z_aload_n dL_comes_387 0 rfl ?_
      refine z_iload_n dL_comes_388 1 rfl ?_
      refine z_bipush dL_comes_389 (v := 10) (by decide +kernel) ?_
      refine z_callVF (d := 7) (As := [_, _]) c_X4_ofTroop rfl l_L_19 rfl rfl rfl (Nat.le_of_ble_eq_true rfl) ⟨Nat.le_of_ble_eq_true rfl, Nat.le_of_ble_eq_true rfl⟩ dL_comes_391 r10 ?_
      refine z_if_eq dL_comes_394 (tgt := 399) (by decide) (fun h394 => ?_) (fun h394 => by first | exact absurd (f10) h394 | exact absurd h394 (f10))
      refine z_iload dL_comes_399 8 rfl ?_
      refine z_iload dL_comes_401 4 rfl ?_
      refine z_if_ne dL_comes_403 (tgt := 412) (by decide) (fun h403 => ?_) (fun h403 => by first | exact absurd (by decide) h403 | exact absurd h403 (by decide))
      refine z_iconst dL_comes_412 (v := 0) rfl ?_
      refine z_ior dL_comes_413 ?_
      refine z_istore (lo2 := [(0, _), (1, _), (2, _), (3, _), (4, _), (5, _), (6, _), (7, _), (8, _), (9, _), (10, _), (11, _), (12, _), (13, _), (14, _), (15, _), (16, _)]) dL_comes_414 (Nat.le_of_ble_eq_true rfl) [1, 2, 3, 4, 5, 6, 7, 8, 0, 9, 10, 11, 12, 13, 14, 15, 16] rfl ?_
      refine z_iconst dL_comes_416 (v := 0) rfl ?_
      refine z_istore (lo2 := [(0, _), (1, _), (2, _), (3, _), (4, _), (5, _), (6, _), (7, _), (8, _), (9, _), (10, _), (11, _), (12, _), (13, _), (14, _), (15, _), (16, _), (17, _)]) dL_comes_417 (Nat.le_of_ble_eq_true rfl) [1, 2, 3, 4, 5, 6, 7, 8, 9, 10, 11, 12, 13, 14, 15, 16, 17, 0] rfl ?_
      rw [hm_ou hv1]
      exact z_sub [0, 1, 8, 9, 12, 14, 16, 17] rfl fin
  refine z_aload_n dL_comes_0 0 rfl ?_
  refine z_iload_n dL_comes_1 1 rfl ?_
  refine z_iload_n dL_comes_2 2 rfl ?_
  refine z_iload_n dL_comes_3 3 rfl ?_
  refine z_callVF (d := 7) (As := [_, _, _]) c_X4_why rfl l_L_31 rfl rfl rfl (Nat.le_of_ble_eq_true rfl) ⟨Nat.le_of_ble_eq_true rfl, Nat.le_of_ble_eq_true rfl⟩ dL_comes_4 kw ?_
  refine z_istore (lo2 := [(0, _), (1, _), (2, _), (3, _), (4, _)]) dL_comes_7 (Nat.le_of_ble_eq_true rfl) [1, 2, 3, 4, 0] rfl ?_
  refine z_aload_n dL_comes_9 0 rfl ?_
  refine z_iload_n dL_comes_10 1 rfl ?_
  refine z_iload_n dL_comes_11 2 rfl ?_
  refine z_iconst dL_comes_12 (v := 0) rfl ?_
  refine z_callVF (d := 7) (As := [_, _, _]) c_X4_of rfl l_L_15 rfl rfl rfl (Nat.le_of_ble_eq_true rfl) ⟨Nat.le_of_ble_eq_true rfl, Nat.le_of_ble_eq_true rfl⟩ dL_comes_13 c0 ?_
  refine z_istore (lo2 := [(0, _), (1, _), (2, _), (3, _), (4, _), (5, _)]) dL_comes_16 (Nat.le_of_ble_eq_true rfl) [1, 2, 3, 4, 5, 0] rfl ?_
  refine z_iload_n dL_comes_18 2 rfl ?_
  refine z_aload_n dL_comes_19 0 rfl ?_
  refine z_iload_n dL_comes_20 1 rfl ?_
  refine z_iconst dL_comes_21 (v := 0) rfl ?_
  refine z_callVF (d := 7) (As := [_, _]) c_X4_ofTroop rfl l_L_19 rfl rfl rfl (Nat.le_of_ble_eq_true rfl) ⟨Nat.le_of_ble_eq_true rfl, Nat.le_of_ble_eq_true rfl⟩ dL_comes_22 q0 ?_
  refine z_icmp_ge dL_comes_25 (tgt := 32) (by decide) (fun h25 => by first | exact absurd (b25) h25 | exact absurd h25 (b25)) (fun h25 => ?_)
  refine z_iconst dL_comes_28 (v := 1) rfl ?_
  refine z_goto dL_comes_29 (tgt := 33) (by decide) ?_
  refine z_istore (lo2 := [(0, _), (1, _), (2, _), (3, _), (4, _), (5, _), (6, _)]) dL_comes_33 (Nat.le_of_ble_eq_true rfl) [1, 2, 3, 4, 5, 6, 0] rfl ?_
  refine z_iload dL_comes_35 6 rfl ?_
  refine z_if_ne dL_comes_37 (tgt := 44) (by decide) (fun h37 => ?_) (fun h37 => by first | exact absurd (by decide) h37 | exact absurd h37 (by decide))
  refine z_iload dL_comes_44 5 rfl ?_
  refine z_iconst dL_comes_46 (v := 3) rfl ?_
  refine z_icmp_ne dL_comes_47 (tgt := 54) (by decide) (fun h47 => ?_) (fun h47 => by first | exact absurd (hv3) h47 | exact absurd h47 (hv3))
  refine z_iload dL_comes_54 5 rfl ?_
  refine z_iconst dL_comes_56 (v := 1) rfl ?_
  refine z_icmp_ne dL_comes_57 (tgt := 64) (by decide) (fun h57 => ?_) (fun h57 => by first | exact absurd (hv1) h57 | exact absurd h57 (hv1))
  refine z_iload dL_comes_64 5 rfl ?_
  refine z_iconst dL_comes_66 (v := 2) rfl ?_
  refine z_icmp_ne dL_comes_67 (tgt := 74) (by decide) (fun h67 => ?_) (fun h67 => by first | exact absurd (hv2) h67 | exact absurd h67 (hv2))
  refine z_iload_n dL_comes_74 3 rfl ?_
  refine z_aload_n dL_comes_75 0 rfl ?_
  refine z_iload_n dL_comes_76 1 rfl ?_
  refine z_iconst dL_comes_77 (v := 1) rfl ?_
  refine z_callVF (d := 7) (As := [_, _]) c_X4_ofTroop rfl l_L_19 rfl rfl rfl (Nat.le_of_ble_eq_true rfl) ⟨Nat.le_of_ble_eq_true rfl, Nat.le_of_ble_eq_true rfl⟩ dL_comes_78 q1 ?_
  refine z_icmp_ne dL_comes_81 (tgt := 88) (by decide) (fun h81 => ?_) (fun h81 => by first | exact absurd (hcc) h81 | exact absurd h81 (hcc))
  refine z_iconst dL_comes_88 (v := 4) rfl ?_
  refine z_istore (lo2 := [(0, _), (1, _), (2, _), (3, _), (4, _), (5, _), (6, _), (7, _)]) dL_comes_89 (Nat.le_of_ble_eq_true rfl) [1, 2, 3, 4, 5, 6, 7, 0] rfl ?_
  refine z_iload dL_comes_91 4 rfl ?_
  refine z_iload dL_comes_93 7 rfl ?_
  refine z_icmp_eq dL_comes_95 (tgt := 100) (by decide) (fun h95 => ?_) (fun h95 => by first | exact absurd (rfl) h95 | exact absurd h95 (rfl))
  refine z_aload_n dL_comes_100 0 rfl ?_
  refine z_iload_n dL_comes_101 1 rfl ?_
  refine z_bipush dL_comes_102 (v := 6) (by decide +kernel) ?_
  refine z_callVF (d := 7) (As := [_, _]) c_X4_ofTroop rfl l_L_19 rfl rfl rfl (Nat.le_of_ble_eq_true rfl) ⟨Nat.le_of_ble_eq_true rfl, Nat.le_of_ble_eq_true rfl⟩ dL_comes_104 q6 ?_
  refine z_istore (lo2 := [(0, _), (1, _), (2, _), (3, _), (4, _), (5, _), (6, _), (7, _), (8, _)]) dL_comes_107 (Nat.le_of_ble_eq_true rfl) [1, 2, 3, 4, 5, 6, 7, 8, 0] rfl ?_
  refine z_aload_n dL_comes_109 0 rfl ?_
  refine z_iload_n dL_comes_110 1 rfl ?_
  refine z_bipush dL_comes_111 (v := 7) (by decide +kernel) ?_
  refine z_callVF (d := 7) (As := [_, _]) c_X4_ofTroop rfl l_L_19 rfl rfl rfl (Nat.le_of_ble_eq_true rfl) ⟨Nat.le_of_ble_eq_true rfl, Nat.le_of_ble_eq_true rfl⟩ dL_comes_113 q7 ?_
  refine z_istore (lo2 := [(0, _), (1, _), (2, _), (3, _), (4, _), (5, _), (6, _), (7, _), (8, _), (9, _)]) dL_comes_116 (Nat.le_of_ble_eq_true rfl) [1, 2, 3, 4, 5, 6, 7, 8, 9, 0] rfl ?_
  refine z_aload_n dL_comes_118 0 rfl ?_
  refine z_iload_n dL_comes_119 1 rfl ?_
  refine z_callVF (d := 7) (As := [_]) c_X4_waitsFor rfl l_L_23 rfl rfl rfl (Nat.le_of_ble_eq_true rfl) ⟨Nat.le_of_ble_eq_true rfl, Nat.le_of_ble_eq_true rfl⟩ dL_comes_120 qw ?_
  refine z_istore (lo2 := [(0, _), (1, _), (2, _), (3, _), (4, _), (5, _), (6, _), (7, _), (8, _), (9, _), (10, _)]) dL_comes_123 (Nat.le_of_ble_eq_true rfl) [1, 2, 3, 4, 5, 6, 7, 8, 9, 10, 0] rfl ?_
  refine z_aload_n dL_comes_125 0 rfl ?_
  refine z_iload_n dL_comes_126 1 rfl ?_
  refine z_iconst dL_comes_127 (v := 4) rfl ?_
  refine z_callVF (d := 7) (As := [_, _]) c_X4_ofTroop rfl l_L_19 rfl rfl rfl (Nat.le_of_ble_eq_true rfl) ⟨Nat.le_of_ble_eq_true rfl, Nat.le_of_ble_eq_true rfl⟩ dL_comes_128 q4 ?_
  refine z_istore (lo2 := [(0, _), (1, _), (2, _), (3, _), (4, _), (5, _), (6, _), (7, _), (8, _), (9, _), (10, _), (11, _)]) dL_comes_131 (Nat.le_of_ble_eq_true rfl) [1, 2, 3, 4, 5, 6, 7, 8, 9, 10, 11, 0] rfl ?_
  refine z_aload_n dL_comes_133 0 rfl ?_
  refine z_iload_n dL_comes_134 1 rfl ?_
  refine z_bipush dL_comes_135 (v := 11) (by decide +kernel) ?_
  refine z_callVF (d := 7) (As := [_, _]) c_X4_ofTroop rfl l_L_19 rfl rfl rfl (Nat.le_of_ble_eq_true rfl) ⟨Nat.le_of_ble_eq_true rfl, Nat.le_of_ble_eq_true rfl⟩ dL_comes_137 q11 ?_
  refine z_istore (lo2 := [(0, _), (1, _), (2, _), (3, _), (4, _), (5, _), (6, _), (7, _), (8, _), (9, _), (10, _), (11, _), (12, _)]) dL_comes_140 (Nat.le_of_ble_eq_true rfl) [1, 2, 3, 4, 5, 6, 7, 8, 9, 10, 11, 12, 0] rfl ?_
  refine z_aload_n dL_comes_142 0 rfl ?_
  refine z_iload_n dL_comes_143 1 rfl ?_
  refine z_iconst dL_comes_144 (v := 1) rfl ?_
  refine z_callVF (d := 7) (As := [_, _]) c_X4_ofTroop rfl l_L_19 rfl rfl rfl (Nat.le_of_ble_eq_true rfl) ⟨Nat.le_of_ble_eq_true rfl, Nat.le_of_ble_eq_true rfl⟩ dL_comes_145 q1 ?_
  refine z_istore (lo2 := [(0, _), (1, _), (2, _), (3, _), (4, _), (5, _), (6, _), (7, _), (8, _), (9, _), (10, _), (11, _), (12, _), (13, _)]) dL_comes_148 (Nat.le_of_ble_eq_true rfl) [1, 2, 3, 4, 5, 6, 7, 8, 9, 10, 11, 12, 13, 0] rfl ?_
  refine z_aload_n dL_comes_150 0 rfl ?_
  refine z_iload_n dL_comes_151 1 rfl ?_
  refine z_iconst dL_comes_152 (v := 2) rfl ?_
  refine z_callVF (d := 7) (As := [_, _]) c_X4_ofTroop rfl l_L_19 rfl rfl rfl (Nat.le_of_ble_eq_true rfl) ⟨Nat.le_of_ble_eq_true rfl, Nat.le_of_ble_eq_true rfl⟩ dL_comes_153 q2 ?_
  refine z_istore (lo2 := [(0, _), (1, _), (2, _), (3, _), (4, _), (5, _), (6, _), (7, _), (8, _), (9, _), (10, _), (11, _), (12, _), (13, _), (14, _)]) dL_comes_156 (Nat.le_of_ble_eq_true rfl) [1, 2, 3, 4, 5, 6, 7, 8, 9, 10, 11, 12, 13, 14, 0] rfl ?_
  refine z_aload_n dL_comes_158 0 rfl ?_
  refine z_iconst dL_comes_159 (v := 5) rfl ?_
  refine z_callVF (d := 7) (As := [_]) c_X4_count rfl l_L_9 rfl rfl rfl (Nat.le_of_ble_eq_true rfl) ⟨Nat.le_of_ble_eq_true rfl, Nat.le_of_ble_eq_true rfl⟩ dL_comes_160 q5 ?_
  refine z_istore (lo2 := [(0, _), (1, _), (2, _), (3, _), (4, _), (5, _), (6, _), (7, _), (8, _), (9, _), (10, _), (11, _), (12, _), (13, _), (14, _), (15, _)]) dL_comes_163 (Nat.le_of_ble_eq_true rfl) [1, 2, 3, 4, 5, 6, 7, 8, 9, 10, 11, 12, 13, 14, 15, 0] rfl ?_
  refine z_aload_n dL_comes_165 0 rfl ?_
  refine z_iload_n dL_comes_166 1 rfl ?_
  refine z_iload_n dL_comes_167 2 rfl ?_
  refine z_iload_n dL_comes_168 3 rfl ?_
  refine z_callV (d := 7) (As := [_, _, _]) c_X4_come rfl l_L_34 rfl rfl rfl (Nat.le_of_ble_eq_true rfl) ⟨Nat.le_of_ble_eq_true rfl, Nat.le_of_ble_eq_true rfl⟩ dL_comes_169 kc (fun r169 u169 q169 => ?_)
  obtain ⟨z, hS'⟩ := q169
  cases z
  have r4 := q_t (G := G) hW' hS' p4
  have r1 := q_t (G := G) hW' hS' p1
  have r0 := q_t (G := G) hW' hS' p0
  have r10 := q_t (G := G) hW' hS' p10
  have r11 := q_t (G := G) hW' hS' p11
  have r5 : Call G 7 M_X4_count [rv G 0, .int 5] u169 (fun v w => v = some (N'.1 4) ∧ w = u169) := q_cnt hW' hS' (fun n => rfl)
  refine z_istore (lo2 := [(0, _), (1, _), (2, _), (3, _), (4, _), (5, _), (6, _), (7, _), (8, _), (9, _), (10, _), (11, _), (12, _), (13, _), (14, _), (15, _), (16, _)]) dL_comes_172 (Nat.le_of_ble_eq_true rfl) [1, 2, 3, 4, 5, 6, 7, 8, 9, 10, 11, 12, 13, 14, 15, 16, 0] rfl ?_
  refine z_iload dL_comes_174 4 rfl ?_
  refine z_if_lt dL_comes_176 (tgt := 190) (by decide) (fun h176 => by first | exact absurd (by decide) h176 | exact absurd h176 (by decide)) (fun h176 => ?_)
  refine z_iload dL_comes_179 4 rfl ?_
  refine z_if_le dL_comes_181 (tgt := 235) (by decide) (fun h181 => by first | exact absurd (by decide) h181 | exact absurd h181 (by decide)) (fun h181 => ?_)
  refine z_iload dL_comes_184 4 rfl ?_
  refine z_iconst dL_comes_186 (v := 4) rfl ?_
  refine z_icmp_ge dL_comes_187 (tgt := 235) (by decide) (fun h187 => ?_) (fun h187 => by first | exact absurd (by decide) h187 | exact absurd h187 (by decide))
  refine z_iload dL_comes_235 16 rfl ?_
  refine z_if_lt dL_comes_237 (tgt := 298) (by decide) (fun h237 => by first | exact absurd (g0) h237 | exact absurd h237 (g0)) (fun h237 => ?_)
  refine z_iload dL_comes_240 16 rfl ?_
  refine z_iconst dL_comes_242 (v := 3) rfl ?_
  refine z_icmp_gt dL_comes_243 (tgt := 298) (by decide) (fun h243 => by first | exact absurd (g3) h243 | exact absurd h243 (g3)) (fun h243 => ?_)
  refine z_aload_n dL_comes_246 0 rfl ?_
  refine z_iload_n dL_comes_247 1 rfl ?_
  refine z_iconst dL_comes_248 (v := 4) rfl ?_
  refine z_callVF (d := 7) (As := [_, _]) c_X4_ofTroop rfl l_L_19 rfl rfl rfl (Nat.le_of_ble_eq_true rfl) ⟨Nat.le_of_ble_eq_true rfl, Nat.le_of_ble_eq_true rfl⟩ dL_comes_249 r4 ?_
  refine z_iload dL_comes_252 11 rfl ?_
  refine z_iload dL_comes_254 16 rfl ?_
  refine z_iadd dL_comes_256 ?_
  refine z_icmp_ne dL_comes_257 (tgt := 298) (by decide) (fun h257 => by first | exact absurd (f2) h257 | exact absurd h257 (f2)) (fun h257 => ?_)
  refine z_aload_n dL_comes_260 0 rfl ?_
  refine z_iload_n dL_comes_261 1 rfl ?_
  refine z_iconst dL_comes_262 (v := 1) rfl ?_
  refine z_callVF (d := 7) (As := [_, _]) c_X4_ofTroop rfl l_L_19 rfl rfl rfl (Nat.le_of_ble_eq_true rfl) ⟨Nat.le_of_ble_eq_true rfl, Nat.le_of_ble_eq_true rfl⟩ dL_comes_263 r1 ?_
  refine z_iload dL_comes_266 13 rfl ?_
  refine z_iload dL_comes_268 16 rfl ?_
  refine z_iadd dL_comes_270 ?_
  refine z_iconst dL_comes_271 (v := 2) rfl ?_
  refine z_irem dL_comes_272 (by decide) ?_
  refine z_icmp_ne dL_comes_273 (tgt := 298) (by decide) (fun h273 => by first | exact absurd (f3) h273 | exact absurd h273 (f3)) (fun h273 => ?_)
  refine z_aload_n dL_comes_276 0 rfl ?_
  refine z_iconst dL_comes_277 (v := 5) rfl ?_
  refine z_callVF (d := 7) (As := [_]) c_X4_count rfl l_L_9 rfl rfl rfl (Nat.le_of_ble_eq_true rfl) ⟨Nat.le_of_ble_eq_true rfl, Nat.le_of_ble_eq_true rfl⟩ dL_comes_278 r5 ?_
  refine z_iload dL_comes_281 15 rfl ?_
  refine z_iload dL_comes_283 4 rfl ?_
  refine z_iconst dL_comes_285 (v := 4) rfl ?_
  refine z_icmp_ne dL_comes_286 (tgt := 293) (by decide) (fun h286 => by first | exact absurd (rfl) h286 | exact absurd h286 (rfl)) (fun h286 => ?_)
  refine z_iconst dL_comes_289 (v := 1) rfl ?_
  refine z_goto dL_comes_290 (tgt := 294) (by decide) ?_
  refine z_iadd dL_comes_294 ?_
  refine z_icmp_eq dL_comes_295 (tgt := 300) (by decide) (fun h295 => ?_) (fun h295 => by first | exact absurd (eE) h295 | exact absurd h295 (eE))
  exact st169 _ _ _ _ _ _ hS'
theorem t_L_comes (hN : NI N b) (hb : b ≤ 900) (hS : LI S N) (ht : t < cnt N) (hk : k < 16) (hc : c = 0 ∨ c = 1) : CallL G 8 240 0 0 M_L_comes [rv G 0, .int (nI t), .int (nI k), .int c] S (fun v u => v = some 1 ∧ ∃ N', NI N' (b + 3) ∧ LI u N') := by
  by_cases hlt : k < tsz (N.2 t)
  · by_cases hv3 : (N.2 t).2.1 k = 3
    · exact t_comes_3 hN hS ht hk hc hlt hv3
    · by_cases hv1 : (N.2 t).2.1 k = 1
      · exact t_comes_1 hN hS ht hk hc hlt hv1
      · by_cases hv2 : (N.2 t).2.1 k = 2
        · exact t_comes_2 hN hS ht hk hc hlt hv2
        · by_cases hcc : c = (N.2 t).1 1
          · exact t_comes_w0 hN hb hS ht hk hc hlt hv3 hv1 hv2 hcc
          · exact t_comes_w4 hN hb hS ht hk hc hlt hv3 hv1 hv2 hcc
  · exact t_comes_n hN hS ht hk hlt
end COMES
