/-! the pad: orders and faults -/
theorem i98 : (98 : Int32) = nI 98 := rfl
section PADR
variable {G : mG} {d : Nat} {S : mS} {P : Nat → Int32} {len i : Nat}
theorem t_X1_readColour (h : PD S P len i) : Call G (d + 1) M_X1_readColour [rv G 185] S (fun v u => v = some (bI (decide (sg P len i = 114 ∨ sg P len i = 98))) ∧ PD u P len (if sg P len i = 114 ∨ sg P len i = 98 then i + 1 else i) ∧ FP S u ∧ (∀ k, k ≠ 2 → k ≠ 6 → u 185 k = S 185 k) ∧ (sg P len i = 114 ∨ sg P len i = 98 → u 185 6 = if sg P len i = 98 then 1 else 0)) := by
  refine call_of (lo := [(0, rv G 185)]) (by decide +kernel) (Nat.le_of_ble_eq_true rfl) rfl ?_
  by_cases e : sg P len i = 114 ∨ sg P len i = 98
  · have hi : i < len := sg_lt (P := P) (fun z => by rw [z] at e; exact absurd e (by decide))
    rw [if_pos e, decide_eq_true e]
    by_cases e7 : sg P len i = 114
    · have g0 := @PD.fld S P len i 6 0 h (by decide) (by decide)
      have e2 : up1 S 185 (upd (S 185) 6 0) 185 2 + 1 = nI (i + 1) := by rw [g0.1.2.2.1, nI_1]
      refine r_aload_n dX1_readColour_0 0 rfl ?_
      refine r_callViF (As := []) c_X1_sign (by first | assumption | rfl) l_X1_32 rfl rfl rfl (Nat.le_of_ble_eq_true rfl) dX1_readColour_1 (t_X1_sign h) ?_
      refine r_bipush dX1_readColour_4 (v := 114) (by decide +kernel) ?_
      refine r_icmp_eq dX1_readColour_6 (tgt := 20) (by decide) (fun h6 => ?_) (fun h6 => ?_)
      · --t
        refine r_aload_n dX1_readColour_20 0 rfl ?_
        refine r_aload_n dX1_readColour_21 0 rfl ?_
        refine r_callViF (As := []) c_X1_sign (by first | assumption | rfl) l_X1_32 rfl rfl rfl (Nat.le_of_ble_eq_true rfl) dX1_readColour_22 (t_X1_sign h) ?_
        refine r_bipush dX1_readColour_25 (v := 114) (by decide +kernel) ?_
        refine r_icmp_ne dX1_readColour_27 (tgt := 34) (by decide) (fun h27 => ?_) (fun h27 => ?_)
        · --t
          exact absurd e7 h27
        · --f
          refine r_iconst dX1_readColour_30 (v := 0) rfl ?_
          refine r_goto dX1_readColour_31 (tgt := 35) (by decide) ?_
          refine r_putI (by first | assumption | rfl) f_X1_58 rfl rfl rfl rfl dX1_readColour_35 ?_
          refine r_aload_n dX1_readColour_38 0 rfl ?_
          refine r_dup dX1_readColour_39 rfl ?_
          refine r_getI (by first | assumption | rfl) f_X1_21 rfl rfl dX1_readColour_40 ?_
          refine r_iconst dX1_readColour_43 (v := 1) rfl ?_
          refine r_iadd dX1_readColour_44 ?_
          refine r_putI (by first | assumption | rfl) f_X1_21 rfl rfl rfl rfl dX1_readColour_45 ?_
          refine r_iconst dX1_readColour_48 (v := 1) rfl ?_
          refine r_zret rfl (by first | rfl | decide) dX1_readColour_49 ?_
          exact ⟨rfl, g0.at (m := i + 1) e2 (by omega), FP.rf.up.up, fun k k1 k2 => by simp only [up1_s, upd, if_neg k1, if_neg k2], fun _ => by simp only [up1_s, upd, reduceIte, Nat.reduceEqDiff]; rw [e7]; rfl⟩
      · --f
        exact absurd e7 h6
    · have g0 := @PD.fld S P len i 6 1 h (by decide) (by decide)
      have e2 : up1 S 185 (upd (S 185) 6 1) 185 2 + 1 = nI (i + 1) := by rw [g0.1.2.2.1, nI_1]
      refine r_aload_n dX1_readColour_0 0 rfl ?_
      refine r_callViF (As := []) c_X1_sign (by first | assumption | rfl) l_X1_32 rfl rfl rfl (Nat.le_of_ble_eq_true rfl) dX1_readColour_1 (t_X1_sign h) ?_
      refine r_bipush dX1_readColour_4 (v := 114) (by decide +kernel) ?_
      refine r_icmp_eq dX1_readColour_6 (tgt := 20) (by decide) (fun h6 => ?_) (fun h6 => ?_)
      · --t
        exact absurd h6 e7
      · --f
        refine r_aload_n dX1_readColour_9 0 rfl ?_
        refine r_callViF (As := []) c_X1_sign (by first | assumption | rfl) l_X1_32 rfl rfl rfl (Nat.le_of_ble_eq_true rfl) dX1_readColour_10 (t_X1_sign h) ?_
        refine r_bipush dX1_readColour_13 (v := 98) (by decide +kernel) ?_
        refine r_icmp_eq dX1_readColour_15 (tgt := 20) (by decide) (fun h15 => ?_) (fun h15 => ?_)
        · --t
          refine r_aload_n dX1_readColour_20 0 rfl ?_
          refine r_aload_n dX1_readColour_21 0 rfl ?_
          refine r_callViF (As := []) c_X1_sign (by first | assumption | rfl) l_X1_32 rfl rfl rfl (Nat.le_of_ble_eq_true rfl) dX1_readColour_22 (t_X1_sign h) ?_
          refine r_bipush dX1_readColour_25 (v := 114) (by decide +kernel) ?_
          refine r_icmp_ne dX1_readColour_27 (tgt := 34) (by decide) (fun h27 => ?_) (fun h27 => ?_)
          · --t
            refine r_iconst dX1_readColour_34 (v := 1) rfl ?_
            refine r_putI (by first | assumption | rfl) f_X1_58 rfl rfl rfl rfl dX1_readColour_35 ?_
            refine r_aload_n dX1_readColour_38 0 rfl ?_
            refine r_dup dX1_readColour_39 rfl ?_
            refine r_getI (by first | assumption | rfl) f_X1_21 rfl rfl dX1_readColour_40 ?_
            refine r_iconst dX1_readColour_43 (v := 1) rfl ?_
            refine r_iadd dX1_readColour_44 ?_
            refine r_putI (by first | assumption | rfl) f_X1_21 rfl rfl rfl rfl dX1_readColour_45 ?_
            refine r_iconst dX1_readColour_48 (v := 1) rfl ?_
            refine r_zret rfl (by first | rfl | decide) dX1_readColour_49 ?_
            exact ⟨rfl, g0.at (m := i + 1) e2 (by omega), FP.rf.up.up, fun k k1 k2 => by simp only [up1_s, upd, if_neg k1, if_neg k2], fun _ => by simp only [up1_s, upd, reduceIte, Nat.reduceEqDiff]; rw [if_pos (e.resolve_left e7)]⟩
          · --f
            exact absurd h27 e7
        · --f
          exact absurd (e.resolve_left e7) h15
  · rw [if_neg e, decide_eq_false e]
    refine r_aload_n dX1_readColour_0 0 rfl ?_
    refine r_callViF (As := []) c_X1_sign (by first | assumption | rfl) l_X1_32 rfl rfl rfl (Nat.le_of_ble_eq_true rfl) dX1_readColour_1 (t_X1_sign h) ?_
    refine r_bipush dX1_readColour_4 (v := 114) (by decide +kernel) ?_
    refine r_icmp_eq dX1_readColour_6 (tgt := 20) (by decide) (fun h6 => ?_) (fun h6 => ?_)
    · --t
      exact absurd (Or.inl h6) e
    · --f
      refine r_aload_n dX1_readColour_9 0 rfl ?_
      refine r_callViF (As := []) c_X1_sign (by first | assumption | rfl) l_X1_32 rfl rfl rfl (Nat.le_of_ble_eq_true rfl) dX1_readColour_10 (t_X1_sign h) ?_
      refine r_bipush dX1_readColour_13 (v := 98) (by decide +kernel) ?_
      refine r_icmp_eq dX1_readColour_15 (tgt := 20) (by decide) (fun h15 => ?_) (fun h15 => ?_)
      · --t
        exact absurd (Or.inr h15) e
      · --f
        refine r_iconst dX1_readColour_18 (v := 0) rfl ?_
        refine r_zret rfl (by first | rfl | decide) dX1_readColour_19 ?_
        exact ⟨rfl, h, FP.rf, fun _ _ _ => rfl, fun z => absurd z e⟩
/-- a digit, a sign, a number, as the class reads them -/
theorem rB_le {c : Int32} {i : Nat} (h : i ≤ len) (hc : c ≠ 0) : (rB P len i c).2.1 ≤ len ∧ i ≤ (rB P len i c).2.1 := by
  unfold rB
  by_cases e : dgt (sg P len i) = true
  · rw [if_pos e]
    have := dgt_lt e
    by_cases e2 : sg P len (i + 1) = c
    · rw [if_pos e2]
      have h2 : i + 1 < len := sg_lt (P := P) (by rw [e2]; exact hc)
      have h3 := @rN_le P len (i + 2) (by omega)
      exact ⟨h3.1, by show i ≤ (rN P len (i + 2)).2.1; omega⟩
    · rw [if_neg e2]; exact ⟨by show i + 1 ≤ len; omega, by show i ≤ i + 1; omega⟩
  · rw [if_neg e]; exact ⟨h, Nat.le_refl _⟩
theorem rO_le {i : Nat} (h : i ≤ len) : (rO P len i).2.1 ≤ len ∧ ((rO P len i).1 = true → i + 2 ≤ (rO P len i).2.1) := by
  have rn : ∀ j, j ≤ len → (rN P len j).1 = true → j + 1 ≤ (rN P len j).2.1 := by
    intro j hj
    unfold rN
    by_cases e : dgt (sg P len j) = true
    · rw [if_pos e]
      by_cases e2 : 0 < sg P len j - 48 ∧ dgt (sg P len (j + 1)) = true
      · rw [if_pos e2]; intro _; show j + 1 ≤ j + 2; omega
      · rw [if_neg e2]; intro _; exact Nat.le_refl _
    · rw [if_neg e]; intro z; exact absurd (show false = true from z) (by decide)
  have rb : ∀ j c, j ≤ len → c ≠ 0 → (rB P len j c).1 = true → j + 3 ≤ (rB P len j c).2.1 := by
    intro j c hj hc
    unfold rB
    by_cases e : dgt (sg P len j) = true
    · rw [if_pos e]
      by_cases e2 : sg P len (j + 1) = c
      · rw [if_pos e2]
        have h2 : j + 1 < len := sg_lt (P := P) (by rw [e2]; exact hc)
        intro z
        have := rn (j + 2) (by omega) z
        show j + 3 ≤ (rN P len (j + 2)).2.1
        omega
      · rw [if_neg e2]; intro z; exact absurd (show false = true from z) (by decide)
    · rw [if_neg e]; intro z; exact absurd (show false = true from z) (by decide)
  unfold rO
  by_cases e1 : sg P len i = 110 ∨ sg P len i = 116
  · rw [if_pos e1]
    have hi : i < len := sg_lt (P := P) (fun z => by rw [z] at e1; exact absurd e1 (by decide))
    have h3 := @rN_le P len (i + 1) (by omega)
    exact ⟨h3.1, fun z => rn (i + 1) (by omega) z⟩
  · rw [if_neg e1]
    by_cases e2 : sg P len i = 99
    · rw [if_pos e2]
      have hi : i < len := sg_lt (P := P) (fun z => by rw [z] at e2; exact absurd e2 (by decide))
      have h3 := @rB_le P len 46 (i + 1) (by omega) (by decide)
      by_cases e3 : (rB P len (i + 1) 46).1 = true
      · rw [if_pos e3]
        have h4 := rb (i + 1) 46 (by omega) (by decide) e3
        by_cases e4 : sg P len (rB P len (i + 1) 46).2.1 = 114 ∨ sg P len (rB P len (i + 1) 46).2.1 = 98
        · rw [if_pos e4]
          have h5 : (rB P len (i + 1) 46).2.1 < len := sg_lt (P := P) (fun z => by rw [z] at e4; exact absurd e4 (by decide))
          exact ⟨by show (rB P len (i + 1) 46).2.1 + 1 ≤ len; omega, fun _ => by show i + 2 ≤ (rB P len (i + 1) 46).2.1 + 1; omega⟩
        · rw [if_neg e4]; exact ⟨h3.1, fun z => absurd (show false = true from z) (by decide)⟩
      · rw [if_neg e3]; exact ⟨h3.1, fun z => absurd (show false = true from z) (by decide)⟩
    · rw [if_neg e2]
      by_cases e3 : sg P len i = 108
      · rw [if_pos e3]
        have hi : i < len := sg_lt (P := P) (fun z => by rw [z] at e3; exact absurd e3 (by decide))
        exact ⟨(@rB_le P len 46 (i + 1) (by omega) (by decide)).1, fun z => by have := rb (i + 1) 46 (by omega) (by decide) z; show i + 2 ≤ (rB P len (i + 1) 46).2.1; omega⟩
      · rw [if_neg e3]
        by_cases e4 : sg P len i = 115
        · rw [if_pos e4]
          have hi : i < len := sg_lt (P := P) (fun z => by rw [z] at e4; exact absurd e4 (by decide))
          exact ⟨(@rB_le P len 61 (i + 1) (by omega) (by decide)).1, fun z => by have := rb (i + 1) 61 (by omega) (by decide) z; show i + 2 ≤ (rB P len (i + 1) 61).2.1; omega⟩
        · rw [if_neg e4]; exact ⟨h, fun z => absurd (show false = true from z) (by decide)⟩
end PADR
