/-! the reference: undo, save, restore, set -/
section MODEL
variable {G : mG} {d : Nat} {S S0 : mS} {Q : Option Int32 → mS → Prop} {N : mN} {n : Nat} {h : Nat → mN} {sv : Nat → Bool} {sl : Nat → mN} {t k c s v m : Int32}
theorem lp_X5_undo {st : Nat} (hst : S0 190 6 = nI st) (h6 : st < 6) (hx : Q (some (nI st)) (up1 S0 191 (va_cpy (S0 192) (S0 191) (275 * st) 0 275))) : ∀ n k, n + k = 275 → At G d M_X5_undo Q 22 [(0, rv G 190), (1, .int (nI k))] [] (up1 S0 191 (va_cpy (S0 192) (S0 191) (275 * st) 0 k)) := by
  intro n
  induction n with
  | zero =>
    intro k hk
    obtain rfl : k = 275 := by omega
    have e6 : up1 S0 191 (va_cpy (S0 192) (S0 191) (275 * st) 0 275) 190 6 = nI st := by rw [up1_n (by omega)]; exact hst
    refine r_iload_n dX5_undo_22 1 rfl ?_
    refine r_sipush dX5_undo_23 (v := 275) (by decide +kernel) ?_
    refine r_icmp_ge dX5_undo_26 (tgt := 56) (by decide) (fun h26 => ?_) (fun h26 => ?_)
    · --t
      refine r_aload_n dX5_undo_56 0 rfl ?_
      refine r_getI (by first | assumption | rfl) f_X5_55 rfl rfl dX5_undo_57 ?_
      refine r_iret rfl dX5_undo_60 ?_
      rw [e6]; exact hx
    · --f
      exact absurd (show (275 : Int32) ≤ nI 275 by decide) h26
  | succ n ih =>
    intro k hk
    have hk2 : k < 275 := by omega
    have e6 : up1 S0 191 (va_cpy (S0 192) (S0 191) (275 * st) 0 k) 190 6 = nI st := by rw [up1_n (by omega)]; exact hst
    refine r_iload_n dX5_undo_22 1 rfl ?_
    refine r_sipush dX5_undo_23 (v := 275) (by decide +kernel) ?_
    refine r_icmp_ge dX5_undo_26 (tgt := 56) (by decide) (fun h26 => ?_) (fun h26 => ?_)
    · --t
      exact absurd h26 (nI_ge (b := 275) hk2 (by decide))
    · --f
      refine r_aload_n dX5_undo_29 0 rfl ?_
      refine r_getR (b := 191) (by first | assumption | rfl) f_X5_7 rfl rfl dX5_undo_30 rfl ?_
      refine r_iload_n dX5_undo_33 1 rfl ?_
      refine r_aload_n dX5_undo_34 0 rfl ?_
      refine r_getR (b := 192) (by first | assumption | rfl) f_X5_13 rfl rfl dX5_undo_35 rfl ?_
      refine r_sipush dX5_undo_38 (v := 275) (by decide +kernel) ?_
      refine r_aload_n dX5_undo_41 0 rfl ?_
      refine r_getI (by first | assumption | rfl) f_X5_55 rfl rfl dX5_undo_42 ?_
      refine r_imul dX5_undo_45 ?_
      refine r_iload_n dX5_undo_46 1 rfl ?_
      refine r_iadd dX5_undo_47 ?_
      refine r_iald (j := (275 * st + k)) (by first | assumption | rfl) (ix275 e6 rfl) (show 275 * st + k < ln 192 by show 275 * st + k < 1650; omega) dX5_undo_48 ?_
      refine r_iast (j := (0 + k)) (by first | assumption | rfl) (by rw [Nat.zero_add]) (show 0 + k < ln 191 by show 0 + k < 275; omega) dX5_undo_49 ?_
      refine r_iinc (lo2 := [(0, _), (1, _)]) dX5_undo_50 1 rfl (w := 1) rfl (Nat.le_of_ble_eq_true rfl) [1, 0] rfl ?_
      refine r_goto dX5_undo_53 (tgt := 22) (by decide) ?_
      rw [nI_1, up1_s, up1_up1, cpy_s (by rw [up1_n (by omega)])]
      exact ih (k + 1) (by omega)
theorem t_X5_undo (hW : WN N) (hS : RP (S 191) N) (hH : HM S n h) : Call G (d + 7) M_X5_undo [rv G 190] S (fun r u => r = some (undA n) ∧ RP (u 191) (undN n h N) ∧ WN (undN n h N) ∧ HM u (n - 1) h ∧ FY S u) := by
  refine call_of (lo := [(0, rv G 190)]) (by decide +kernel) (Nat.le_of_ble_eq_true rfl) rfl ?_
  obtain ⟨⟨en, hn6⟩, hh⟩ := id hH
  unfold undA undN
  by_cases hn : n = 0
  · subst hn
    rw [if_pos rfl, if_pos rfl]
    refine r_aload_n dX5_undo_0 0 rfl ?_
    refine r_getI (by first | assumption | rfl) f_X5_55 rfl rfl dX5_undo_1 ?_
    refine r_if_ne dX5_undo_4 (tgt := 10) (by decide) (fun h4 => ?_) (fun h4 => ?_)
    · --t
      exact absurd en h4
    · --f
      refine r_bipush dX5_undo_7 (v := -5) (by decide +kernel) ?_
      refine r_iret rfl dX5_undo_9 ?_
      exact ⟨rfl, hS, hW, hH, FY.rf⟩
  · rw [if_neg hn, if_neg hn]
    have e6 : (up1 S 190 (upd (S 190) 6 (S 190 6 - 1))) 190 6 = nI (n - 1) := by rw [up1_s, upd, if_pos rfl, en]; exact pk_sub (b := 1) (by omega)
    refine r_aload_n dX5_undo_0 0 rfl ?_
    refine r_getI (by first | assumption | rfl) f_X5_55 rfl rfl dX5_undo_1 ?_
    refine r_if_ne dX5_undo_4 (tgt := 10) (by decide) (fun h4 => ?_) (fun h4 => ?_)
    · --t
      refine r_aload_n dX5_undo_10 0 rfl ?_
      refine r_dup dX5_undo_11 rfl ?_
      refine r_getI (by first | assumption | rfl) f_X5_55 rfl rfl dX5_undo_12 ?_
      refine r_iconst dX5_undo_15 (v := 1) rfl ?_
      refine r_isub dX5_undo_16 ?_
      refine r_putI (by first | assumption | rfl) f_X5_55 rfl rfl rfl rfl dX5_undo_17 ?_
      refine r_iconst dX5_undo_20 (v := 0) rfl ?_
      refine r_istore_n (lo2 := [(0, _), (1, _)]) dX5_undo_21 rfl (Nat.le_of_ble_eq_true rfl) [1, 0] rfl ?_
      have z := @lp_X5_undo G (d + 7) (up1 S 190 (upd (S 190) 6 (S 190 6 - 1))) (fun r u => r = some (nI (n - 1)) ∧ RP (u 191) (h (n - 1)) ∧ WN (h (n - 1)) ∧ HM u (n - 1) h ∧ FY S u) (n - 1) e6 (by omega) ⟨rfl, ?_, (hh (n - 1) (by omega)).1, ⟨⟨?_, by omega⟩, fun i hi => ⟨(hh i (by omega)).1, ?_⟩⟩, fun b b1 b2 b3 b4 => ?_, fun k hk => ?_⟩ 275 0 (by omega)
      · rw [cpy_0, up1_id] at z
        exact z
      · rw [up1_s]
        refine (hh (n - 1) (by omega)).2.off (hh (n - 1) (by omega)).1.cn.2 (fun i hi => ?_)
        rw [pk_cpy_in (by omega) (by omega), up1_n (by omega), show 275 * (n - 1) + (i - 0) = 275 * (n - 1) + i by omega]
      · rw [up1_n (by omega)]; exact e6
      · rw [up1_n (by omega), up1_n (by omega)]; exact (hh i (by omega)).2
      · rw [up1_n b2, up1_n b1]
      · rw [up1_n (by omega), up1_s, upd, if_neg hk]
    · --f
      rw [en] at h4
      exact absurd h4 (nI_ne0 (by omega) (by omega))
theorem lp_X5_save {j : Nat} (hj : j < 2) (hx : At G d M_X5_save Q 46 [(0, rv G 190), (1, .int (nI j))] [] (up1 S0 195 (va_cpy (S0 191) (S0 195) 0 (275 * j) 275))) : ∀ n k, n + k = 275 → At G d M_X5_save Q 15 [(0, rv G 190), (1, .int (nI j)), (2, .int (nI k))] [] (up1 S0 195 (va_cpy (S0 191) (S0 195) 0 (275 * j) k)) := by
  intro n
  induction n with
  | zero =>
    intro k hk
    obtain rfl : k = 275 := by omega
    refine r_iload_n dX5_save_15 2 rfl ?_
    refine r_sipush dX5_save_16 (v := 275) (by decide +kernel) ?_
    refine r_icmp_ge dX5_save_19 (tgt := 46) (by decide) (fun h19 => ?_) (fun h19 => ?_)
    · --t
      exact r_sub [0, 1] rfl hx
    · --f
      exact absurd (show (275 : Int32) ≤ nI 275 by decide) h19
  | succ n ih =>
    intro k hk
    have hk2 : k < 275 := by omega
    refine r_iload_n dX5_save_15 2 rfl ?_
    refine r_sipush dX5_save_16 (v := 275) (by decide +kernel) ?_
    refine r_icmp_ge dX5_save_19 (tgt := 46) (by decide) (fun h19 => ?_) (fun h19 => ?_)
    · --t
      exact absurd h19 (nI_ge (b := 275) hk2 (by decide))
    · --f
      refine r_aload_n dX5_save_22 0 rfl ?_
      refine r_getR (b := 195) (by first | assumption | rfl) f_X5_22 rfl rfl dX5_save_23 rfl ?_
      refine r_sipush dX5_save_26 (v := 275) (by decide +kernel) ?_
      refine r_iload_n dX5_save_29 1 rfl ?_
      refine r_imul dX5_save_30 ?_
      refine r_iload_n dX5_save_31 2 rfl ?_
      refine r_iadd dX5_save_32 ?_
      refine r_aload_n dX5_save_33 0 rfl ?_
      refine r_getR (b := 191) (by first | assumption | rfl) f_X5_7 rfl rfl dX5_save_34 rfl ?_
      refine r_iload_n dX5_save_37 2 rfl ?_
      refine r_iald (j := k) (by first | assumption | rfl) rfl (show k < ln 191 from hk2) dX5_save_38 ?_
      refine r_iast (j := (275 * j + k)) (by first | assumption | rfl) (ix275 rfl rfl) (show 275 * j + k < ln 195 by show 275 * j + k < 550; omega) dX5_save_39 ?_
      refine r_iinc (lo2 := [(0, _), (1, _), (2, _)]) dX5_save_40 2 rfl (w := 1) rfl (Nat.le_of_ble_eq_true rfl) [1, 2, 0] rfl ?_
      refine r_goto dX5_save_43 (tgt := 15) (by decide) ?_
      rw [nI_1, up1_s, up1_up1, cpy_s (by rw [up1_n (by omega), Nat.zero_add])]
      exact ih (k + 1) (by omega)
theorem t_X5_save (hW : WN N) (hS : RP (S 191) N) (hL : SM S sv sl) : Call G (d + 6) M_X5_save [rv G 190, .int s] S (fun r u => r = some (savA N s) ∧ SM u (svB s sv) (svL s N sl) ∧ ∀ c, c ≠ 195 → c ≠ 196 → u c = S c) := by
  refine call_of (lo := [(0, rv G 190), (1, .int s)]) (by decide +kernel) (Nat.le_of_ble_eq_true rfl) rfl ?_
  unfold savA svB svL
  rcases sl_cases s with g | ⟨j, hj, rfl, ej, g⟩
  · rw [if_pos g, if_pos g, if_pos g]
    refine r_iload_n dX5_save_0 1 rfl ?_
    refine r_i2l dX5_save_1 ?_
    refine r_iconst dX5_save_2 (v := 0) rfl ?_
    refine r_iconst dX5_save_3 (v := 1) rfl ?_
    refine r_callSiF (As := [_, _, _]) c_X5_in l_X5_35 rfl rfl rfl (Nat.le_of_ble_eq_true rfl) dX5_save_4 in_i ?_
    refine r_if_ne dX5_save_7 (tgt := 13) (by decide) (fun h7 => ?_) (fun h7 => ?_)
    · --t
      rw [bI_n0, decide_eq_true_iff] at h7
      exact (g.elim (Int32.not_lt.mpr h7.1) (Int32.not_lt.mpr h7.2)).elim
    · --f
      refine r_bipush dX5_save_10 (v := -2) (by decide +kernel) ?_
      refine r_iret rfl dX5_save_12 ?_
      exact ⟨rfl, hL, fun _ _ _ => rfl⟩
  · rw [if_neg g, if_neg g, if_neg g, ej]
    have hl2 : j < ln 196 := hj
    have fin : At G (d + 6) M_X5_save (fun r u => r = some (N.1 3) ∧ SM u (fun i => if i = j then true else sv i) (fun i => if i = j then N else sl i) ∧ ∀ c, c ≠ 195 → c ≠ 196 → u c = S c) 46 [(0, rv G 190), (1, .int (nI j))] [] (up1 S 195 (va_cpy (S 191) (S 195) 0 (275 * j) 275)) := by
      refine r_aload_n dX5_save_46 0 rfl ?_
      refine r_getR (b := 196) (by first | assumption | rfl) f_X5_25 rfl rfl dX5_save_47 rfl ?_
      refine r_iload_n dX5_save_50 1 rfl ?_
      refine r_iconst dX5_save_51 (v := 1) rfl ?_
      refine r_zast (j := j) (by first | assumption | rfl) (by first | assumption | rfl) (by first | assumption | decide) dX5_save_52 ?_
      refine r_aload_n dX5_save_53 0 rfl ?_
      refine r_getR (b := 191) (by first | assumption | rfl) f_X5_7 rfl rfl dX5_save_54 rfl ?_
      refine r_iconst dX5_save_57 (v := 3) rfl ?_
      refine r_iald (j := 3) (by first | assumption | rfl) (by first | assumption | rfl) (show 3 < ln 191 by decide) dX5_save_58 ?_
      refine r_iret rfl dX5_save_59 ?_
      have e1 : up1 (up1 S 195 (va_cpy (S 191) (S 195) 0 (275 * j) 275)) 196 (upd ((up1 S 195 (va_cpy (S 191) (S 195) 0 (275 * j) 275)) 196) j (vp_nar .boolean 1)) 191 3 = N.1 3 := by rw [up1_n (by omega), up1_n (by omega)]; exact hS.1 3 (by decide)
      rw [e1]
      refine ⟨rfl, fun i hi => ?_, fun c h1 h2 => (up1_n h2).trans (up1_n h1)⟩
      dsimp only
      by_cases e : i = j
      · subst e
        rw [if_pos rfl, if_pos rfl]
        refine ⟨by rw [up1_s, upd, if_pos rfl]; rfl, fun _ => ⟨hW, hS.off hW.cn.2 (fun q hq => ?_)⟩⟩
        rw [up1_n (by omega), up1_s, pk_cpy_in (by omega) (by omega), show 0 + (275 * i + q - 275 * i) = q by omega]
      · rw [if_neg e, if_neg e]
        refine ⟨by rw [up1_s, upd, if_neg e, up1_n (by omega)]; exact (hL i hi).1, fun z => ⟨((hL i hi).2 z).1, ((hL i hi).2 z).2.off ((hL i hi).2 z).1.cn.2 (fun q hq => ?_)⟩⟩
        rw [up1_n (by omega), up1_s, pk_cpy_out (by omega)]
    refine r_iload_n dX5_save_0 1 rfl ?_
    refine r_i2l dX5_save_1 ?_
    refine r_iconst dX5_save_2 (v := 0) rfl ?_
    refine r_iconst dX5_save_3 (v := 1) rfl ?_
    refine r_callSiF (As := [_, _, _]) c_X5_in l_X5_35 rfl rfl rfl (Nat.le_of_ble_eq_true rfl) dX5_save_4 in_i ?_
    refine r_if_ne dX5_save_7 (tgt := 13) (by decide) (fun h7 => ?_) (fun h7 => ?_)
    · --t
      refine r_iconst dX5_save_13 (v := 0) rfl ?_
      refine r_istore_n (lo2 := [(0, _), (1, _), (2, _)]) dX5_save_14 rfl (Nat.le_of_ble_eq_true rfl) [1, 2, 0] rfl ?_
      have z := lp_X5_save hj fin 275 0 (by omega)
      rw [cpy_0, up1_id] at z
      exact z
    · --f
      rw [bI_0, decide_eq_false_iff_not] at h7
      exact absurd ⟨Int32.not_lt.mp (fun z => g (Or.inl z)), Int32.not_lt.mp (fun z => g (Or.inr z))⟩ h7
theorem lp_X5_restore {j : Nat} (hj : j < 2) (hx : At G d M_X5_restore Q 62 [(0, rv G 190), (1, .int (nI j))] [] (up1 S0 191 (va_cpy (S0 195) (S0 191) (275 * j) 0 275))) : ∀ n k, n + k = 275 → At G d M_X5_restore Q 31 [(0, rv G 190), (1, .int (nI j)), (2, .int (nI k))] [] (up1 S0 191 (va_cpy (S0 195) (S0 191) (275 * j) 0 k)) := by
  intro n
  induction n with
  | zero =>
    intro k hk
    obtain rfl : k = 275 := by omega
    refine r_iload_n dX5_restore_31 2 rfl ?_
    refine r_sipush dX5_restore_32 (v := 275) (by decide +kernel) ?_
    refine r_icmp_ge dX5_restore_35 (tgt := 62) (by decide) (fun h35 => ?_) (fun h35 => ?_)
    · --t
      exact r_sub [0, 1] rfl hx
    · --f
      exact absurd (show (275 : Int32) ≤ nI 275 by decide) h35
  | succ n ih =>
    intro k hk
    have hk2 : k < 275 := by omega
    refine r_iload_n dX5_restore_31 2 rfl ?_
    refine r_sipush dX5_restore_32 (v := 275) (by decide +kernel) ?_
    refine r_icmp_ge dX5_restore_35 (tgt := 62) (by decide) (fun h35 => ?_) (fun h35 => ?_)
    · --t
      exact absurd h35 (nI_ge (b := 275) hk2 (by decide))
    · --f
      refine r_aload_n dX5_restore_38 0 rfl ?_
      refine r_getR (b := 191) (by first | assumption | rfl) f_X5_7 rfl rfl dX5_restore_39 rfl ?_
      refine r_iload_n dX5_restore_42 2 rfl ?_
      refine r_aload_n dX5_restore_43 0 rfl ?_
      refine r_getR (b := 195) (by first | assumption | rfl) f_X5_22 rfl rfl dX5_restore_44 rfl ?_
      refine r_sipush dX5_restore_47 (v := 275) (by decide +kernel) ?_
      refine r_iload_n dX5_restore_50 1 rfl ?_
      refine r_imul dX5_restore_51 ?_
      refine r_iload_n dX5_restore_52 2 rfl ?_
      refine r_iadd dX5_restore_53 ?_
      refine r_iald (j := (275 * j + k)) (by first | assumption | rfl) (ix275 rfl rfl) (show 275 * j + k < ln 195 by show 275 * j + k < 550; omega) dX5_restore_54 ?_
      refine r_iast (j := (0 + k)) (by first | assumption | rfl) (by rw [Nat.zero_add]) (show 0 + k < ln 191 by show 0 + k < 275; omega) dX5_restore_55 ?_
      refine r_iinc (lo2 := [(0, _), (1, _), (2, _)]) dX5_restore_56 2 rfl (w := 1) rfl (Nat.le_of_ble_eq_true rfl) [1, 2, 0] rfl ?_
      refine r_goto dX5_restore_59 (tgt := 31) (by decide) ?_
      rw [nI_1, up1_s, up1_up1, cpy_s (by rw [up1_n (by omega)])]
      exact ih (k + 1) (by omega)
theorem t_X5_restore (hW : WN N) (hS : RP (S 191) N) (hH : HM S n h) (hL : SM S sv sl) : Call G (d + 7) M_X5_restore [rv G 190, .int s] S (fun r u => r = some (resO N sv sl s).1 ∧ RP (u 191) (resO N sv sl s).2 ∧ WN (resO N sv sl s).2 ∧ HM u (rcN (resO N sv sl s).1 n) (rcH (resO N sv sl s).1 n h N) ∧ FY S u) := by
  refine call_of (lo := [(0, rv G 190), (1, .int s)]) (by decide +kernel) (Nat.le_of_ble_eq_true rfl) rfl ?_
  unfold resO
  rcases sl_cases s with g | ⟨j, hj, rfl, ej, g⟩
  · rw [if_pos g]
    refine r_iload_n dX5_restore_0 1 rfl ?_
    refine r_i2l dX5_restore_1 ?_
    refine r_iconst dX5_restore_2 (v := 0) rfl ?_
    refine r_iconst dX5_restore_3 (v := 1) rfl ?_
    refine r_callSiF (As := [_, _, _]) c_X5_in l_X5_35 rfl rfl rfl (Nat.le_of_ble_eq_true rfl) dX5_restore_4 in_i ?_
    refine r_if_ne dX5_restore_7 (tgt := 13) (by decide) (fun h7 => ?_) (fun h7 => ?_)
    · --t
      rw [bI_n0, decide_eq_true_iff] at h7
      exact (g.elim (Int32.not_lt.mpr h7.1) (Int32.not_lt.mpr h7.2)).elim
    · --f
      refine r_bipush dX5_restore_10 (v := -2) (by decide +kernel) ?_
      refine r_iret rfl dX5_restore_12 ?_
      exact ⟨rfl, hS, hW, hH, FY.rf⟩
  · rw [if_neg g, ej]
    have hl2 : j < ln 196 := hj
    have es := (hL j hj).1
    have hin : (0 : Int32) ≤ nI j ∧ nI j ≤ 1 := ⟨Int32.not_lt.mp (fun z => g (Or.inl z)), Int32.not_lt.mp (fun z => g (Or.inr z))⟩
    cases esv : sv j
    · rw [if_neg (by decide)]
      rw [esv] at es
      refine r_iload_n dX5_restore_0 1 rfl ?_
      refine r_i2l dX5_restore_1 ?_
      refine r_iconst dX5_restore_2 (v := 0) rfl ?_
      refine r_iconst dX5_restore_3 (v := 1) rfl ?_
      refine r_callSiF (As := [_, _, _]) c_X5_in l_X5_35 rfl rfl rfl (Nat.le_of_ble_eq_true rfl) dX5_restore_4 in_i ?_
      refine r_if_ne dX5_restore_7 (tgt := 13) (by decide) (fun h7 => ?_) (fun h7 => ?_)
      · --t
        refine r_aload_n dX5_restore_13 0 rfl ?_
        refine r_getR (b := 196) (by first | assumption | rfl) f_X5_25 rfl rfl dX5_restore_14 rfl ?_
        refine r_iload_n dX5_restore_17 1 rfl ?_
        refine r_zald (j := j) (by first | assumption | rfl) (by first | assumption | rfl) (by first | assumption | decide) dX5_restore_18 ?_
        refine r_if_ne dX5_restore_19 (tgt := 25) (by decide) (fun h19 => ?_) (fun h19 => ?_)
        · --t
          exact absurd es h19
        · --f
          refine r_bipush dX5_restore_22 (v := -5) (by decide +kernel) ?_
          refine r_iret rfl dX5_restore_24 ?_
          exact ⟨rfl, hS, hW, hH, FY.rf⟩
      · --f
        rw [bI_0, decide_eq_false_iff_not] at h7
        exact absurd hin h7
    · rw [if_pos rfl]
      rw [esv] at es
      obtain ⟨wl, pl'⟩ := (hL j hj).2 esv
      have gR : RP ((up1 (up1 S 193 (va_cpy (S 191) (S 193) 0 0 275)) 191 (va_cpy ((up1 S 193 (va_cpy (S 191) (S 193) 0 0 275)) 195) ((up1 S 193 (va_cpy (S 191) (S 193) 0 0 275)) 191) (275 * j) 0 275)) 191) (sl j) := by
        rw [up1_s]
        refine pl'.off wl.cn.2 (fun i hi => ?_)
        rw [pk_cpy_in (by omega) (by omega), up1_n (by omega), show 275 * j + (i - 0) = 275 * j + i by omega]
      have gF : F1 (up1 S 193 (va_cpy (S 191) (S 193) 0 0 275)) (up1 (up1 S 193 (va_cpy (S 191) (S 193) 0 0 275)) 191 (va_cpy ((up1 S 193 (va_cpy (S 191) (S 193) 0 0 275)) 195) ((up1 S 193 (va_cpy (S 191) (S 193) 0 0 275)) 191) (275 * j) 0 275)) := F1.rf.up
      have fin : At G (d + 7) M_X5_restore (fun r u => r = some ((sl j).1 3) ∧ RP (u 191) (sl j) ∧ WN (sl j) ∧ HM u (rcN ((sl j).1 3) n) (rcH ((sl j).1 3) n h N) ∧ FY S u) 62 [(0, rv G 190), (1, .int (nI j))] [] (up1 (up1 S 193 (va_cpy (S 191) (S 193) 0 0 275)) 191 (va_cpy ((up1 S 193 (va_cpy (S 191) (S 193) 0 0 275)) 195) ((up1 S 193 (va_cpy (S 191) (S 193) 0 0 275)) 191) (275 * j) 0 275)) := by
        revert gR gF
        generalize (up1 (up1 S 193 (va_cpy (S 191) (S 193) 0 0 275)) 191 (va_cpy ((up1 S 193 (va_cpy (S 191) (S 193) 0 0 275)) 195) ((up1 S 193 (va_cpy (S 191) (S 193) 0 0 275)) 191) (275 * j) 0 275)) = w
        intro gR gF
        have e3 : w 191 3 = (sl j).1 3 := gR.1 3 (by decide)
        refine r_aload_n dX5_restore_62 0 rfl ?_
        refine r_aload_n dX5_restore_63 0 rfl ?_
        refine r_getR (b := 191) (by first | assumption | rfl) f_X5_7 rfl rfl dX5_restore_64 rfl ?_
        refine r_iconst dX5_restore_67 (v := 3) rfl ?_
        refine r_iald (j := 3) (by first | assumption | rfl) (by first | assumption | rfl) (show 3 < ln 191 by decide) dX5_restore_68 ?_
        refine r_callVi (As := [_]) c_X5_record (by first | assumption | rfl) l_X5_62 rfl rfl rfl (Nat.le_of_ble_eq_true rfl) dX5_restore_69 (t_X5_record (hH.rem.f1 gF) hW (rem_B1 hS hW.cn.2 gF)) (fun r69 u69 q69 => ?_)
        rw [e3] at q69
        obtain ⟨e4, g3, f3, f4⟩ := q69
        cases e4
        refine r_iret rfl dX5_restore_72 ?_
        exact ⟨rfl, by rw [f3 191 (by omega) (by omega)]; exact gR, wl, g3, FY.mk3 gF f3 f4⟩
      refine r_iload_n dX5_restore_0 1 rfl ?_
      refine r_i2l dX5_restore_1 ?_
      refine r_iconst dX5_restore_2 (v := 0) rfl ?_
      refine r_iconst dX5_restore_3 (v := 1) rfl ?_
      refine r_callSiF (As := [_, _, _]) c_X5_in l_X5_35 rfl rfl rfl (Nat.le_of_ble_eq_true rfl) dX5_restore_4 in_i ?_
      refine r_if_ne dX5_restore_7 (tgt := 13) (by decide) (fun h7 => ?_) (fun h7 => ?_)
      · --t
        refine r_aload_n dX5_restore_13 0 rfl ?_
        refine r_getR (b := 196) (by first | assumption | rfl) f_X5_25 rfl rfl dX5_restore_14 rfl ?_
        refine r_iload_n dX5_restore_17 1 rfl ?_
        refine r_zald (j := j) (by first | assumption | rfl) (by first | assumption | rfl) (by first | assumption | decide) dX5_restore_18 ?_
        refine r_if_ne dX5_restore_19 (tgt := 25) (by decide) (fun h19 => ?_) (fun h19 => ?_)
        · --t
          refine r_aload_n dX5_restore_25 0 rfl ?_
          refine r_callVvF (As := []) c_X5_remember (by first | assumption | rfl) l_X5_59 rfl rfl rfl (Nat.le_of_ble_eq_true rfl) dX5_restore_26 t_X5_remember ?_
          refine r_iconst dX5_restore_29 (v := 0) rfl ?_
          refine r_istore_n (lo2 := [(0, _), (1, _), (2, _)]) dX5_restore_30 rfl (Nat.le_of_ble_eq_true rfl) [1, 2, 0] rfl ?_
          have z := lp_X5_restore hj fin 275 0 (by omega)
          rw [cpy_0, up1_id] at z
          exact z
        · --f
          exact absurd (es.symm.trans h19) (by decide)
      · --f
        rw [bI_0, decide_eq_false_iff_not] at h7
        exact absurd hin h7
theorem t_X5_set (hW : WN N) (hS : RP (S 191) N) (hH : HM S n h) : Call G (d + 7) M_X5_set [rv G 190, .int s, .int v] S (fun r u => r = some (setO N s v).1 ∧ RP (u 191) (setO N s v).2 ∧ HM u (rcN (setO N s v).1 n) (rcH (setO N s v).1 n h N) ∧ FY S u) := by
  refine call_of (lo := [(0, rv G 190), (1, .int s), (2, .int v)]) (by decide +kernel) (Nat.le_of_ble_eq_true rfl) rfl ?_
  unfold setO
  by_cases hc : (s = 0 ∧ 0 ≤ v ∧ v ≤ 99) ∨ (s = 1 ∧ 1 ≤ v ∧ v ≤ 99)
  · rw [if_pos hc]
    obtain ⟨i, hi, rfl, ei⟩ : ∃ i, i < 2 ∧ s = nI i ∧ s.toNatClampNeg = i := by
      rcases hc with ⟨rfl, -⟩ | ⟨rfl, -⟩
      · exact ⟨0, by omega, rfl, rfl⟩
      · exact ⟨1, by omega, rfl, rfl⟩
    have hl : i < ln 191 := Nat.lt_of_lt_of_le hi (by decide)
    rw [ei]
    have e1 : up1 S 193 (va_cpy (S 191) (S 193) 0 0 275) 191 i = N.1 i := by rw [up1_n (by omega)]; exact hS.1 i (by omega)
    have gR := (rem_R hS).gl (i := i) (by omega) (by omega) v
    have fin : At G (d + 7) M_X5_set (fun r u => r = some (N.1 i) ∧ RP (u 191) (upd N.1 i v, N.2) ∧ HM u (rcN (N.1 i) n) (rcH (N.1 i) n h N) ∧ FY S u) 37 [(0, rv G 190), (1, .int (nI i)), (2, .int v)] [] S := by
      refine r_aload_n dX5_set_37 0 rfl ?_
      refine r_callVvF (As := []) c_X5_remember (by first | assumption | rfl) l_X5_59 rfl rfl rfl (Nat.le_of_ble_eq_true rfl) dX5_set_38 t_X5_remember ?_
      refine r_aload_n dX5_set_41 0 rfl ?_
      refine r_getR (b := 191) (by first | assumption | rfl) f_X5_7 rfl rfl dX5_set_42 rfl ?_
      refine r_iload_n dX5_set_45 1 rfl ?_
      refine r_iald (j := i) (by first | assumption | rfl) (by first | assumption | rfl) (by first | assumption | decide) dX5_set_46 ?_
      refine r_istore_n (lo2 := [(0, _), (1, _), (2, _), (3, _)]) dX5_set_47 rfl (Nat.le_of_ble_eq_true rfl) [1, 2, 3, 0] rfl ?_
      refine r_aload_n dX5_set_48 0 rfl ?_
      refine r_getR (b := 191) (by first | assumption | rfl) f_X5_7 rfl rfl dX5_set_49 rfl ?_
      refine r_iload_n dX5_set_52 1 rfl ?_
      refine r_iload_n dX5_set_53 2 rfl ?_
      refine r_iast (j := i) (by first | assumption | rfl) (by first | assumption | rfl) (by first | assumption | decide) dX5_set_54 ?_
      refine r_aload_n dX5_set_55 0 rfl ?_
      refine r_iload_n dX5_set_56 3 rfl ?_
      refine r_callVi (As := [_]) c_X5_record (by first | assumption | rfl) l_X5_62 rfl rfl rfl (Nat.le_of_ble_eq_true rfl) dX5_set_57 (t_X5_record (N := N) (hH.rem.f1 F1.rf.up) hW (rem_B1 hS hW.cn.2 F1.rf.up)) (fun r57 u57 q57 => ?_)
      rw [e1] at q57
      obtain ⟨e3, g3, f3, f4⟩ := q57
      cases e3
      refine r_iret rfl dX5_set_60 ?_
      exact ⟨rfl, by rw [f3 191 (by omega) (by omega), up1_s]; exact gR, g3, FY.mk3 F1.rf.up f3 f4⟩
    refine r_iload_n dX5_set_0 1 rfl ?_
    refine r_if_ne dX5_set_1 (tgt := 18) (by decide) (fun h1 => ?_) (fun h1 => ?_)
    · --t
      refine r_iload_n dX5_set_18 1 rfl ?_
      refine r_iconst dX5_set_19 (v := 1) rfl ?_
      refine r_icmp_ne dX5_set_20 (tgt := 34) (by decide) (fun h20 => ?_) (fun h20 => ?_)
      · --t
        rcases hc with ⟨z, -⟩ | ⟨z, -⟩
        · exact absurd z h1
        · exact absurd z h20
      · --f
        refine r_iload_n dX5_set_23 2 rfl ?_
        refine r_i2l dX5_set_24 ?_
        refine r_iconst dX5_set_25 (v := 1) rfl ?_
        refine r_bipush dX5_set_26 (v := 99) (by decide +kernel) ?_
        refine r_callSiF (As := [_, _, _]) c_X5_in l_X5_35 rfl rfl rfl (Nat.le_of_ble_eq_true rfl) dX5_set_28 in_i ?_
        refine r_if_ne dX5_set_31 (tgt := 37) (by decide) (fun h31 => ?_) (fun h31 => ?_)
        · --t
          exact fin
        · --f
          rw [bI_0, decide_eq_false_iff_not] at h31
          rcases hc with ⟨z, -⟩ | ⟨-, z⟩
          · exact absurd z h1
          · exact absurd z h31
    · --f
      refine r_iload_n dX5_set_4 2 rfl ?_
      refine r_i2l dX5_set_5 ?_
      refine r_iconst dX5_set_6 (v := 0) rfl ?_
      refine r_bipush dX5_set_7 (v := 99) (by decide +kernel) ?_
      refine r_callSiF (As := [_, _, _]) c_X5_in l_X5_35 rfl rfl rfl (Nat.le_of_ble_eq_true rfl) dX5_set_9 in_i ?_
      refine r_if_ne dX5_set_12 (tgt := 37) (by decide) (fun h12 => ?_) (fun h12 => ?_)
      · --t
        exact fin
      · --f
        rw [bI_0, decide_eq_false_iff_not] at h12
        rcases hc with ⟨-, z⟩ | ⟨z, -⟩
        · exact absurd z h12
        · rw [z] at h1; exact absurd h1 (by decide)
  · rw [if_neg hc]
    refine r_iload_n dX5_set_0 1 rfl ?_
    refine r_if_ne dX5_set_1 (tgt := 18) (by decide) (fun h1 => ?_) (fun h1 => ?_)
    · --t
      refine r_iload_n dX5_set_18 1 rfl ?_
      refine r_iconst dX5_set_19 (v := 1) rfl ?_
      refine r_icmp_ne dX5_set_20 (tgt := 34) (by decide) (fun h20 => ?_) (fun h20 => ?_)
      · --t
        refine r_bipush dX5_set_34 (v := -2) (by decide +kernel) ?_
        refine r_iret rfl dX5_set_36 ?_
        exact ⟨rfl, hS, hH, FY.rf⟩
      · --f
        refine r_iload_n dX5_set_23 2 rfl ?_
        refine r_i2l dX5_set_24 ?_
        refine r_iconst dX5_set_25 (v := 1) rfl ?_
        refine r_bipush dX5_set_26 (v := 99) (by decide +kernel) ?_
        refine r_callSiF (As := [_, _, _]) c_X5_in l_X5_35 rfl rfl rfl (Nat.le_of_ble_eq_true rfl) dX5_set_28 in_i ?_
        refine r_if_ne dX5_set_31 (tgt := 37) (by decide) (fun h31 => ?_) (fun h31 => ?_)
        · --t
          rw [bI_n0, decide_eq_true_iff] at h31
          exact absurd (Or.inr ⟨h20, h31.1, h31.2⟩) hc
        · --f
          refine r_bipush dX5_set_34 (v := -2) (by decide +kernel) ?_
          refine r_iret rfl dX5_set_36 ?_
          exact ⟨rfl, hS, hH, FY.rf⟩
    · --f
      refine r_iload_n dX5_set_4 2 rfl ?_
      refine r_i2l dX5_set_5 ?_
      refine r_iconst dX5_set_6 (v := 0) rfl ?_
      refine r_bipush dX5_set_7 (v := 99) (by decide +kernel) ?_
      refine r_callSiF (As := [_, _, _]) c_X5_in l_X5_35 rfl rfl rfl (Nat.le_of_ble_eq_true rfl) dX5_set_9 in_i ?_
      refine r_if_ne dX5_set_12 (tgt := 37) (by decide) (fun h12 => ?_) (fun h12 => ?_)
      · --t
        rw [bI_n0, decide_eq_true_iff] at h12
        exact absurd (Or.inl ⟨h1, h12.1, h12.2⟩) hc
      · --f
        refine r_goto dX5_set_15 (tgt := 34) (by decide) ?_
        refine r_bipush dX5_set_34 (v := -2) (by decide +kernel) ?_
        refine r_iret rfl dX5_set_36 ?_
        exact ⟨rfl, hS, hH, FY.rf⟩
end MODEL
