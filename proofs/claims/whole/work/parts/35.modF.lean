/-! the reference: its copies -/
theorem cpy_0 {f g : Nat → Int32} {sp dp : Nat} : va_cpy f g sp dp 0 = g := by funext j; unfold va_cpy; rw [if_neg (by omega)]
theorem cpy_s {f g : Nat → Int32} {sp dp k : Nat} {x : Int32} (hx : x = f (sp + k)) : upd (va_cpy f g sp dp k) (dp + k) x = va_cpy f g sp dp (k + 1) := by
  funext j
  simp only [upd, va_cpy]
  by_cases e : j = dp + k
  · subst e
    rw [if_pos rfl, if_pos ⟨by omega, by omega⟩, hx]
    congr 1
    omega
  · rw [if_neg e]
    by_cases e2 : dp ≤ j ∧ j < dp + k
    · rw [if_pos e2, if_pos ⟨by omega, by omega⟩]
    · rw [if_neg e2, if_neg (by omega)]
theorem up1_up1 (S : mS) (a : Nat) (f g : Nat → Int32) : up1 (up1 S a f) a g = up1 S a g := by funext b; simp only [up1]; split <;> rfl
theorem up1_id (S : mS) (a : Nat) : up1 S a (S a) = S := by
  funext b; simp only [up1]; split
  · rename_i h; rw [h]
  · rfl
theorem ix275 {x y : Int32} {a b : Nat} (hx : x = nI a) (hy : y = nI b) : 275 * x + y = nI (275 * a + b) := by
  rw [hx, hy, show (275 : Int32) = nI 275 from rfl, pk_mul, nI_add]
theorem RP.off {r r' : Nat → Int32} {N : mN} (h : RP r N) (hc : cnt N ≤ 5) (g : ∀ i, i < 275 → r' i = r i) : RP r' N :=
  ⟨fun j hj => (g j (by omega)).trans (h.1 j hj), fun t ht => (h.2 t ht).off (fun i h1 h2 => g i (by omega))⟩
def HM (S : mS) (n : Nat) (h : Nat → mN) : Prop := (S 190 6 = nI n ∧ n ≤ 6) ∧ ∀ i, i < n → WN (h i) ∧ RP (fun j => S 192 (275 * i + j)) (h i)
section MODEL
variable {G : mG} {d : Nat} {S0 : mS} {Q : Option Int32 → mS → Prop}
theorem lp_X5_remember (hx : Q none (up1 S0 193 (va_cpy (S0 191) (S0 193) 0 0 275))) : ∀ n k, n + k = 275 → At G d M_X5_remember Q 2 [(0, rv G 190), (1, .int (nI k))] [] (up1 S0 193 (va_cpy (S0 191) (S0 193) 0 0 k)) := by
  intro n
  induction n with
  | zero =>
    intro k hk
    obtain rfl : k = 275 := by omega
    refine r_iload_n dX5_remember_2 1 rfl ?_
    refine r_sipush dX5_remember_3 (v := 275) (by decide +kernel) ?_
    refine r_icmp_ge dX5_remember_6 (tgt := 27) (by decide) (fun h6 => ?_) (fun h6 => ?_)
    · --t
      refine r_vret rfl dX5_remember_27 ?_
      exact hx
    · --f
      exact absurd (show (275 : Int32) ≤ nI 275 by decide) h6
  | succ n ih =>
    intro k hk
    have hk2 : k < 275 := by omega
    refine r_iload_n dX5_remember_2 1 rfl ?_
    refine r_sipush dX5_remember_3 (v := 275) (by decide +kernel) ?_
    refine r_icmp_ge dX5_remember_6 (tgt := 27) (by decide) (fun h6 => ?_) (fun h6 => ?_)
    · --t
      exact absurd h6 (nI_ge (b := 275) hk2 (by decide))
    · --f
      refine r_aload_n dX5_remember_9 0 rfl ?_
      refine r_getR (b := 193) (by first | assumption | rfl) f_X5_16 rfl rfl dX5_remember_10 rfl ?_
      refine r_iload_n dX5_remember_13 1 rfl ?_
      refine r_aload_n dX5_remember_14 0 rfl ?_
      refine r_getR (b := 191) (by first | assumption | rfl) f_X5_7 rfl rfl dX5_remember_15 rfl ?_
      refine r_iload_n dX5_remember_18 1 rfl ?_
      refine r_iald (j := k) (by first | assumption | rfl) rfl (show k < ln 191 from hk2) dX5_remember_19 ?_
      refine r_iast (j := (0 + k)) (by first | assumption | rfl) (by rw [Nat.zero_add]) (show 0 + k < ln 193 by show 0 + k < 275; omega) dX5_remember_20 ?_
      refine r_iinc (lo2 := [(0, _), (1, _)]) dX5_remember_21 1 rfl (w := 1) rfl (Nat.le_of_ble_eq_true rfl) [1, 0] rfl ?_
      refine r_goto dX5_remember_24 (tgt := 2) (by decide) ?_
      rw [nI_1, up1_s, up1_up1, cpy_s (by rw [up1_n (by omega), Nat.zero_add])]
      exact ih (k + 1) (by omega)
theorem t_X5_remember : Call G d M_X5_remember [rv G 190] S0 (fun v u => v = none ∧ u = up1 S0 193 (va_cpy (S0 191) (S0 193) 0 0 275)) := by
  refine call_of (lo := [(0, rv G 190)]) (by decide +kernel) (Nat.le_of_ble_eq_true rfl) rfl ?_
  refine r_iconst dX5_remember_0 (v := 0) rfl ?_
  refine r_istore_n (lo2 := [(0, _), (1, _)]) dX5_remember_1 rfl (Nat.le_of_ble_eq_true rfl) [1, 0] rfl ?_
  have z := @lp_X5_remember G d S0 (fun v u => v = none ∧ u = up1 S0 193 (va_cpy (S0 191) (S0 193) 0 0 275)) ⟨rfl, rfl⟩ 275 0 (by omega)
  rw [cpy_0, up1_id] at z
  exact z
theorem lp_X5_layAside (hx : Q none (up1 S0 194 (va_cpy (S0 191) (S0 194) 0 0 275))) : ∀ n k, n + k = 275 → At G d M_X5_layAside Q 2 [(0, rv G 190), (1, .int (nI k))] [] (up1 S0 194 (va_cpy (S0 191) (S0 194) 0 0 k)) := by
  intro n
  induction n with
  | zero =>
    intro k hk
    obtain rfl : k = 275 := by omega
    refine r_iload_n dX5_layAside_2 1 rfl ?_
    refine r_sipush dX5_layAside_3 (v := 275) (by decide +kernel) ?_
    refine r_icmp_ge dX5_layAside_6 (tgt := 27) (by decide) (fun h6 => ?_) (fun h6 => ?_)
    · --t
      refine r_vret rfl dX5_layAside_27 ?_
      exact hx
    · --f
      exact absurd (show (275 : Int32) ≤ nI 275 by decide) h6
  | succ n ih =>
    intro k hk
    have hk2 : k < 275 := by omega
    refine r_iload_n dX5_layAside_2 1 rfl ?_
    refine r_sipush dX5_layAside_3 (v := 275) (by decide +kernel) ?_
    refine r_icmp_ge dX5_layAside_6 (tgt := 27) (by decide) (fun h6 => ?_) (fun h6 => ?_)
    · --t
      exact absurd h6 (nI_ge (b := 275) hk2 (by decide))
    · --f
      refine r_aload_n dX5_layAside_9 0 rfl ?_
      refine r_getR (b := 194) (by first | assumption | rfl) f_X5_19 rfl rfl dX5_layAside_10 rfl ?_
      refine r_iload_n dX5_layAside_13 1 rfl ?_
      refine r_aload_n dX5_layAside_14 0 rfl ?_
      refine r_getR (b := 191) (by first | assumption | rfl) f_X5_7 rfl rfl dX5_layAside_15 rfl ?_
      refine r_iload_n dX5_layAside_18 1 rfl ?_
      refine r_iald (j := k) (by first | assumption | rfl) rfl (show k < ln 191 from hk2) dX5_layAside_19 ?_
      refine r_iast (j := (0 + k)) (by first | assumption | rfl) (by rw [Nat.zero_add]) (show 0 + k < ln 194 by show 0 + k < 275; omega) dX5_layAside_20 ?_
      refine r_iinc (lo2 := [(0, _), (1, _)]) dX5_layAside_21 1 rfl (w := 1) rfl (Nat.le_of_ble_eq_true rfl) [1, 0] rfl ?_
      refine r_goto dX5_layAside_24 (tgt := 2) (by decide) ?_
      rw [nI_1, up1_s, up1_up1, cpy_s (by rw [up1_n (by omega), Nat.zero_add])]
      exact ih (k + 1) (by omega)
theorem t_X5_layAside : Call G d M_X5_layAside [rv G 190] S0 (fun v u => v = none ∧ u = up1 S0 194 (va_cpy (S0 191) (S0 194) 0 0 275)) := by
  refine call_of (lo := [(0, rv G 190)]) (by decide +kernel) (Nat.le_of_ble_eq_true rfl) rfl ?_
  refine r_iconst dX5_layAside_0 (v := 0) rfl ?_
  refine r_istore_n (lo2 := [(0, _), (1, _)]) dX5_layAside_1 rfl (Nat.le_of_ble_eq_true rfl) [1, 0] rfl ?_
  have z := @lp_X5_layAside G d S0 (fun v u => v = none ∧ u = up1 S0 194 (va_cpy (S0 191) (S0 194) 0 0 275)) ⟨rfl, rfl⟩ 275 0 (by omega)
  rw [cpy_0, up1_id] at z
  exact z
theorem lp_X5_putBack (hx : Q none (up1 S0 191 (va_cpy (S0 194) (S0 191) 0 0 275))) : ∀ n k, n + k = 275 → At G d M_X5_putBack Q 2 [(0, rv G 190), (1, .int (nI k))] [] (up1 S0 191 (va_cpy (S0 194) (S0 191) 0 0 k)) := by
  intro n
  induction n with
  | zero =>
    intro k hk
    obtain rfl : k = 275 := by omega
    refine r_iload_n dX5_putBack_2 1 rfl ?_
    refine r_sipush dX5_putBack_3 (v := 275) (by decide +kernel) ?_
    refine r_icmp_ge dX5_putBack_6 (tgt := 27) (by decide) (fun h6 => ?_) (fun h6 => ?_)
    · --t
      refine r_vret rfl dX5_putBack_27 ?_
      exact hx
    · --f
      exact absurd (show (275 : Int32) ≤ nI 275 by decide) h6
  | succ n ih =>
    intro k hk
    have hk2 : k < 275 := by omega
    refine r_iload_n dX5_putBack_2 1 rfl ?_
    refine r_sipush dX5_putBack_3 (v := 275) (by decide +kernel) ?_
    refine r_icmp_ge dX5_putBack_6 (tgt := 27) (by decide) (fun h6 => ?_) (fun h6 => ?_)
    · --t
      exact absurd h6 (nI_ge (b := 275) hk2 (by decide))
    · --f
      refine r_aload_n dX5_putBack_9 0 rfl ?_
      refine r_getR (b := 191) (by first | assumption | rfl) f_X5_7 rfl rfl dX5_putBack_10 rfl ?_
      refine r_iload_n dX5_putBack_13 1 rfl ?_
      refine r_aload_n dX5_putBack_14 0 rfl ?_
      refine r_getR (b := 194) (by first | assumption | rfl) f_X5_19 rfl rfl dX5_putBack_15 rfl ?_
      refine r_iload_n dX5_putBack_18 1 rfl ?_
      refine r_iald (j := k) (by first | assumption | rfl) rfl (show k < ln 194 from hk2) dX5_putBack_19 ?_
      refine r_iast (j := (0 + k)) (by first | assumption | rfl) (by rw [Nat.zero_add]) (show 0 + k < ln 191 by show 0 + k < 275; omega) dX5_putBack_20 ?_
      refine r_iinc (lo2 := [(0, _), (1, _)]) dX5_putBack_21 1 rfl (w := 1) rfl (Nat.le_of_ble_eq_true rfl) [1, 0] rfl ?_
      refine r_goto dX5_putBack_24 (tgt := 2) (by decide) ?_
      rw [nI_1, up1_s, up1_up1, cpy_s (by rw [up1_n (by omega), Nat.zero_add])]
      exact ih (k + 1) (by omega)
theorem t_X5_putBack : Call G d M_X5_putBack [rv G 190] S0 (fun v u => v = none ∧ u = up1 S0 191 (va_cpy (S0 194) (S0 191) 0 0 275)) := by
  refine call_of (lo := [(0, rv G 190)]) (by decide +kernel) (Nat.le_of_ble_eq_true rfl) rfl ?_
  refine r_iconst dX5_putBack_0 (v := 0) rfl ?_
  refine r_istore_n (lo2 := [(0, _), (1, _)]) dX5_putBack_1 rfl (Nat.le_of_ble_eq_true rfl) [1, 0] rfl ?_
  have z := @lp_X5_putBack G d S0 (fun v u => v = none ∧ u = up1 S0 191 (va_cpy (S0 194) (S0 191) 0 0 275)) ⟨rfl, rfl⟩ 275 0 (by omega)
  rw [cpy_0, up1_id] at z
  exact z
theorem lp_X5_record1 {x : Int32} (hx : At G d M_X5_record Q 46 [(0, rv G 190), (1, .int x)] [] (up1 S0 192 (va_cpy (S0 192) (S0 192) 275 0 1375))) : ∀ n k, n + k = 1375 → At G d M_X5_record Q 17 [(0, rv G 190), (1, .int x), (2, .int (nI k))] [] (up1 S0 192 (va_cpy (S0 192) (S0 192) 275 0 k)) := by
  intro n
  induction n with
  | zero =>
    intro k hk
    obtain rfl : k = 1375 := by omega
    refine r_iload_n dX5_record_17 2 rfl ?_
    refine r_sipush dX5_record_18 (v := 1375) (by decide +kernel) ?_
    refine r_icmp_ge dX5_record_21 (tgt := 46) (by decide) (fun h21 => ?_) (fun h21 => ?_)
    · --t
      exact r_sub [0, 1] rfl hx
    · --f
      exact absurd (show (1375 : Int32) ≤ nI 1375 by decide) h21
  | succ n ih =>
    intro k hk
    have hk2 : k < 1375 := by omega
    refine r_iload_n dX5_record_17 2 rfl ?_
    refine r_sipush dX5_record_18 (v := 1375) (by decide +kernel) ?_
    refine r_icmp_ge dX5_record_21 (tgt := 46) (by decide) (fun h21 => ?_) (fun h21 => ?_)
    · --t
      exact absurd h21 (nI_ge (b := 1375) hk2 (by decide))
    · --f
      refine r_aload_n dX5_record_24 0 rfl ?_
      refine r_getR (b := 192) (by first | assumption | rfl) f_X5_13 rfl rfl dX5_record_25 rfl ?_
      refine r_iload_n dX5_record_28 2 rfl ?_
      refine r_aload_n dX5_record_29 0 rfl ?_
      refine r_getR (b := 192) (by first | assumption | rfl) f_X5_13 rfl rfl dX5_record_30 rfl ?_
      refine r_sipush dX5_record_33 (v := 275) (by decide +kernel) ?_
      refine r_iload_n dX5_record_36 2 rfl ?_
      refine r_iadd dX5_record_37 ?_
      refine r_iald (j := (275 + k)) (by first | assumption | rfl) (by rw [show (275 : Int32) = nI 275 from rfl, nI_add]) (show 275 + k < ln 192 by show 275 + k < 1650; omega) dX5_record_38 ?_
      refine r_iast (j := (0 + k)) (by first | assumption | rfl) (by rw [Nat.zero_add]) (show 0 + k < ln 192 by show 0 + k < 1650; omega) dX5_record_39 ?_
      refine r_iinc (lo2 := [(0, _), (1, _), (2, _)]) dX5_record_40 2 rfl (w := 1) rfl (Nat.le_of_ble_eq_true rfl) [1, 2, 0] rfl ?_
      refine r_goto dX5_record_43 (tgt := 17) (by decide) ?_
      rw [nI_1, up1_s, up1_up1, cpy_s (by rw [pk_cpy_out (Or.inr (by omega))])]
      exact ih (k + 1) (by omega)
theorem lp_X5_record2 {x : Int32} {st : Nat} (hst : S0 190 6 = nI st) (h6 : st < 6) (hx : At G d M_X5_record Q 92 [(0, rv G 190), (1, .int x)] [] (up1 S0 192 (va_cpy (S0 193) (S0 192) 0 (275 * st) 275))) : ∀ n k, n + k = 275 → At G d M_X5_record Q 58 [(0, rv G 190), (1, .int x), (2, .int (nI k))] [] (up1 S0 192 (va_cpy (S0 193) (S0 192) 0 (275 * st) k)) := by
  intro n
  induction n with
  | zero =>
    intro k hk
    obtain rfl : k = 275 := by omega
    refine r_iload_n dX5_record_58 2 rfl ?_
    refine r_sipush dX5_record_59 (v := 275) (by decide +kernel) ?_
    refine r_icmp_ge dX5_record_62 (tgt := 92) (by decide) (fun h62 => ?_) (fun h62 => ?_)
    · --t
      exact r_sub [0, 1] rfl hx
    · --f
      exact absurd (show (275 : Int32) ≤ nI 275 by decide) h62
  | succ n ih =>
    intro k hk
    have hk2 : k < 275 := by omega
    have e6 : up1 S0 192 (va_cpy (S0 193) (S0 192) 0 (275 * st) k) 190 6 = nI st := by rw [up1_n (by omega)]; exact hst
    refine r_iload_n dX5_record_58 2 rfl ?_
    refine r_sipush dX5_record_59 (v := 275) (by decide +kernel) ?_
    refine r_icmp_ge dX5_record_62 (tgt := 92) (by decide) (fun h62 => ?_) (fun h62 => ?_)
    · --t
      exact absurd h62 (nI_ge (b := 275) hk2 (by decide))
    · --f
      refine r_aload_n dX5_record_65 0 rfl ?_
      refine r_getR (b := 192) (by first | assumption | rfl) f_X5_13 rfl rfl dX5_record_66 rfl ?_
      refine r_sipush dX5_record_69 (v := 275) (by decide +kernel) ?_
      refine r_aload_n dX5_record_72 0 rfl ?_
      refine r_getI (by first | assumption | rfl) f_X5_55 rfl rfl dX5_record_73 ?_
      refine r_imul dX5_record_76 ?_
      refine r_iload_n dX5_record_77 2 rfl ?_
      refine r_iadd dX5_record_78 ?_
      refine r_aload_n dX5_record_79 0 rfl ?_
      refine r_getR (b := 193) (by first | assumption | rfl) f_X5_16 rfl rfl dX5_record_80 rfl ?_
      refine r_iload_n dX5_record_83 2 rfl ?_
      refine r_iald (j := k) (by first | assumption | rfl) rfl (show k < ln 193 from hk2) dX5_record_84 ?_
      refine r_iast (j := (275 * st + k)) (by first | assumption | rfl) (ix275 e6 rfl) (show 275 * st + k < ln 192 by show 275 * st + k < 1650; omega) dX5_record_85 ?_
      refine r_iinc (lo2 := [(0, _), (1, _), (2, _)]) dX5_record_86 2 rfl (w := 1) rfl (Nat.le_of_ble_eq_true rfl) [1, 2, 0] rfl ?_
      refine r_goto dX5_record_89 (tgt := 58) (by decide) ?_
      rw [nI_1, up1_s, up1_up1, cpy_s (by rw [up1_n (by omega), Nat.zero_add])]
      exact ih (k + 1) (by omega)
theorem t_X5_record {S : mS} {x : Int32} {n : Nat} {h : Nat → mN} {N : mN} (hH : HM S n h) (hW : WN N) (hB : RP (S 193) N) : Call G d M_X5_record [rv G 190, .int x] S (fun v u => v = some x ∧ HM u (rcN x n) (rcH x n h N) ∧ (∀ b, b ≠ 190 → b ≠ 192 → u b = S b) ∧ ∀ k, k ≠ 6 → u 190 k = S 190 k) := by
  refine call_of (lo := [(0, rv G 190), (1, .int x)]) (by decide +kernel) (Nat.le_of_ble_eq_true rfl) rfl ?_
  obtain ⟨⟨en, hn6⟩, hh⟩ := id hH
  unfold rcN rcH
  by_cases hx : x < 0
  · rw [if_pos hx, if_pos hx]
    refine r_iload_n dX5_record_0 1 rfl ?_
    refine r_if_ge dX5_record_1 (tgt := 6) (by decide) (fun h1 => ?_) (fun h1 => ?_)
    · --t
      exact absurd hx (Int32.not_lt.mpr h1)
    · --f
      refine r_iload_n dX5_record_4 1 rfl ?_
      refine r_iret rfl dX5_record_5 ?_
      exact ⟨rfl, hH, fun _ _ _ => rfl, fun _ _ => rfl⟩
  · rw [if_neg hx, if_neg hx]
    unfold psN psH
    by_cases h6 : n < 6
    · rw [if_pos h6, if_pos h6]
      have fin : At G d M_X5_record (fun v u => v = some x ∧ HM u (n + 1) (fun i => if i = n then N else h i) ∧ (∀ b, b ≠ 190 → b ≠ 192 → u b = S b) ∧ ∀ k, k ≠ 6 → u 190 k = S 190 k) 92 [(0, rv G 190), (1, .int x)] [] (up1 S 192 (va_cpy (S 193) (S 192) 0 (275 * n) 275)) := by
        refine r_aload_n dX5_record_92 0 rfl ?_
        refine r_dup dX5_record_93 rfl ?_
        refine r_getI (by first | assumption | rfl) f_X5_55 rfl rfl dX5_record_94 ?_
        refine r_iconst dX5_record_97 (v := 1) rfl ?_
        refine r_iadd dX5_record_98 ?_
        refine r_putI (by first | assumption | rfl) f_X5_55 rfl rfl rfl rfl dX5_record_99 ?_
        refine r_iload_n dX5_record_102 1 rfl ?_
        refine r_iret rfl dX5_record_103 ?_
        refine ⟨rfl, ⟨⟨?_, by omega⟩, fun i hi => ?_⟩, fun b b1 b2 => ?_, fun k hk => ?_⟩
        · rw [up1_s, upd, if_pos rfl, up1_n (by omega), en, nI_1]
        · by_cases e : i = n
          · subst e
            simp only [reduceIte]
            refine ⟨hW, hB.off hW.cn.2 (fun j hj => ?_)⟩
            rw [up1_n (by omega), up1_s, pk_cpy_in (by omega) (by omega)]
            congr 1; omega
          · simp only [e, reduceIte]
            refine ⟨(hh i (by omega)).1, (hh i (by omega)).2.off (hh i (by omega)).1.cn.2 (fun j hj => ?_)⟩
            rw [up1_n (by omega), up1_s, pk_cpy_out (Or.inl (by omega))]
        · rw [up1_n b1, up1_n b2]
        · rw [up1_s, upd, if_neg hk, up1_n (by omega)]
      refine r_iload_n dX5_record_0 1 rfl ?_
      refine r_if_ge dX5_record_1 (tgt := 6) (by decide) (fun h1 => ?_) (fun h1 => ?_)
      · --t
        refine r_aload_n dX5_record_6 0 rfl ?_
        refine r_getI (by first | assumption | rfl) f_X5_55 rfl rfl dX5_record_7 ?_
        refine r_bipush dX5_record_10 (v := 6) (by decide +kernel) ?_
        refine r_icmp_ne dX5_record_12 (tgt := 56) (by decide) (fun h12 => ?_) (fun h12 => ?_)
        · --t
          refine r_iconst dX5_record_56 (v := 0) rfl ?_
          refine r_istore_n (lo2 := [(0, _), (1, _), (2, _)]) dX5_record_57 rfl (Nat.le_of_ble_eq_true rfl) [1, 2, 0] rfl ?_
          have z := lp_X5_record2 (d := d) (x := x) (st := n) en h6 fin 275 0 (by omega)
          rw [cpy_0, up1_id] at z
          exact z
        · --f
          rw [en] at h12
          exact absurd ((nI_eq (b := 6) (by omega) (by omega)).mp h12) (by omega)
      · --f
        exact absurd (Int32.not_le.mp h1) hx
    · rw [if_neg h6, if_neg h6]
      have h66 : n = 6 := by omega
      subst h66
      have e5 : (up1 (up1 S 192 (va_cpy (S 192) (S 192) 275 0 1375)) 190 (upd (S 190) 6 (S 190 6 - 1))) 190 6 = nI 5 := by rw [up1_s, upd, if_pos rfl, en]; decide
      have fin : At G d M_X5_record (fun v u => v = some x ∧ HM u 6 (fun i => if i < 5 then h (i + 1) else N) ∧ (∀ b, b ≠ 190 → b ≠ 192 → u b = S b) ∧ ∀ k, k ≠ 6 → u 190 k = S 190 k) 92 [(0, rv G 190), (1, .int x)] [] (up1 (up1 (up1 S 192 (va_cpy (S 192) (S 192) 275 0 1375)) 190 (upd (S 190) 6 (S 190 6 - 1))) 192 (va_cpy ((up1 (up1 S 192 (va_cpy (S 192) (S 192) 275 0 1375)) 190 (upd (S 190) 6 (S 190 6 - 1))) 193) ((up1 (up1 S 192 (va_cpy (S 192) (S 192) 275 0 1375)) 190 (upd (S 190) 6 (S 190 6 - 1))) 192) 0 (275 * 5) 275)) := by
        have w193 : (up1 (up1 S 192 (va_cpy (S 192) (S 192) 275 0 1375)) 190 (upd (S 190) 6 (S 190 6 - 1))) 193 = S 193 := by rw [up1_n (by omega), up1_n (by omega)]
        have w192 : (up1 (up1 S 192 (va_cpy (S 192) (S 192) 275 0 1375)) 190 (upd (S 190) 6 (S 190 6 - 1))) 192 = va_cpy (S 192) (S 192) 275 0 1375 := by rw [up1_n (by omega), up1_s]
        rw [w193, w192]
        refine r_aload_n dX5_record_92 0 rfl ?_
        refine r_dup dX5_record_93 rfl ?_
        refine r_getI (by first | assumption | rfl) f_X5_55 rfl rfl dX5_record_94 ?_
        refine r_iconst dX5_record_97 (v := 1) rfl ?_
        refine r_iadd dX5_record_98 ?_
        refine r_putI (by first | assumption | rfl) f_X5_55 rfl rfl rfl rfl dX5_record_99 ?_
        refine r_iload_n dX5_record_102 1 rfl ?_
        refine r_iret rfl dX5_record_103 ?_
        refine ⟨rfl, ⟨⟨?_, by omega⟩, fun i hi => ?_⟩, fun b b1 b2 => ?_, fun k hk => ?_⟩
        · rw [up1_s, upd, if_pos rfl, up1_n (show 190 ≠ 192 by omega), e5]; rfl
        · by_cases e : i < 5
          · simp only [e, reduceIte]
            refine ⟨(hh (i + 1) (by omega)).1, (hh (i + 1) (by omega)).2.off (hh (i + 1) (by omega)).1.cn.2 (fun j hj => ?_)⟩
            rw [up1_n (by omega), up1_s, pk_cpy_out (Or.inl (by omega)), pk_cpy_in (by omega) (by omega), show 275 + (275 * i + j - 0) = 275 * (i + 1) + j by omega]
          · obtain rfl : i = 5 := by omega
            simp only [e, reduceIte]
            refine ⟨hW, hB.off hW.cn.2 (fun j hj => ?_)⟩
            rw [up1_n (by omega), up1_s, pk_cpy_in (by omega) (by omega), show 0 + (275 * 5 + j - 275 * 5) = j by omega]
        · rw [up1_n b1, up1_n b2, up1_n b1, up1_n b2]
        · rw [up1_s, upd, if_neg hk, up1_n (by omega), up1_s, upd, if_neg hk]
      refine r_iload_n dX5_record_0 1 rfl ?_
      refine r_if_ge dX5_record_1 (tgt := 6) (by decide) (fun h1 => ?_) (fun h1 => ?_)
      · --t
        refine r_aload_n dX5_record_6 0 rfl ?_
        refine r_getI (by first | assumption | rfl) f_X5_55 rfl rfl dX5_record_7 ?_
        refine r_bipush dX5_record_10 (v := 6) (by decide +kernel) ?_
        refine r_icmp_ne dX5_record_12 (tgt := 56) (by decide) (fun h12 => ?_) (fun h12 => ?_)
        · --t
          exact absurd (by rw [en]; rfl) h12
        · --f
          refine r_iconst dX5_record_15 (v := 0) rfl ?_
          refine r_istore_n (lo2 := [(0, _), (1, _), (2, _)]) dX5_record_16 rfl (Nat.le_of_ble_eq_true rfl) [1, 2, 0] rfl ?_
          have mid : At G d M_X5_record (fun v u => v = some x ∧ HM u 6 (fun i => if i < 5 then h (i + 1) else N) ∧ (∀ b, b ≠ 190 → b ≠ 192 → u b = S b) ∧ ∀ k, k ≠ 6 → u 190 k = S 190 k) 46 [(0, rv G 190), (1, .int x)] [] (up1 S 192 (va_cpy (S 192) (S 192) 275 0 1375)) := by
            refine r_aload_n dX5_record_46 0 rfl ?_
            refine r_dup dX5_record_47 rfl ?_
            refine r_getI (by first | assumption | rfl) f_X5_55 rfl rfl dX5_record_48 ?_
            refine r_iconst dX5_record_51 (v := 1) rfl ?_
            refine r_isub dX5_record_52 ?_
            refine r_putI (by first | assumption | rfl) f_X5_55 rfl rfl rfl rfl dX5_record_53 ?_
            refine r_iconst dX5_record_56 (v := 0) rfl ?_
            refine r_istore_n (lo2 := [(0, _), (1, _), (2, _)]) dX5_record_57 rfl (Nat.le_of_ble_eq_true rfl) [1, 2, 0] rfl ?_
            rw [up1_n (show 190 ≠ 192 by omega)]
            have z := lp_X5_record2 (d := d) (x := x) (st := 5) e5 (by omega) fin 275 0 (by omega)
            rw [cpy_0, up1_id] at z
            exact z
          have z := lp_X5_record1 (x := x) mid 1375 0 (by omega)
          rw [cpy_0, up1_id] at z
          exact z
      · --f
        exact absurd (Int32.not_le.mp h1) hx
end MODEL
