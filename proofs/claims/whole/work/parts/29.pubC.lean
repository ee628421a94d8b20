/-! the class's public methods: the pad and its orders -/
def putA (x : Int64) (len : Nat) : Int32 := if chN x 8 0 = 0 then -2 else if 80 < len + chN x 8 0 then -4 else nI (len + chN x 8 0)
def putL (x : Int64) (len : Nat) : Nat := if chN x 8 0 = 0 then len else if 80 < len + chN x 8 0 then len else len + chN x 8 0
def putP (x : Int64) (len : Nat) (P : Nat → Int32) : Nat → Int32 := if chN x 8 0 = 0 then P else if 80 < len + chN x 8 0 then P else apP P len (chN x 8 0) x
/-- carryOut: its answer, whether anything is done -/
def carOk (P : Nat → Int32) (len : Nat) : Bool := (fl P len 80 0).1
section PUB
variable {G : mG} {d : Nat} {S : mS} {N : mN} {n : Nat} {h : Nat → mN} {P : Nat → Int32} {len : Nat}
theorem t_X4_put {x : Int64} (hP : PB S P len) : Call G (d + 1) M_X4_put [rv G 0, .long x] S (fun r u => r = some (putA x len) ∧ PB u (putP x len P) (putL x len) ∧ ∀ b, b ≠ 185 → b ≠ 186 → u b = S b) := by
  refine call_of (lo := [(0, rv G 0), (1, .long x)]) (by decide +kernel) (Nat.le_of_ble_eq_true rfl) rfl ?_
  have h8 := chN_le x 8 0
  have hok := chN_ok x 8 0 (fun j hj => absurd hj (by omega))
  unfold putA putP putL
  by_cases h0 : chN x 8 0 = 0
  · rw [if_pos h0, if_pos h0, if_pos h0]
    refine r_lload_n dX4_put_0 1 rfl ?_
    refine r_callSiF (As := [_]) c_X1_charactersIn l_X4_193 rfl rfl rfl (Nat.le_of_ble_eq_true rfl) dX4_put_1 t_X1_charactersIn ?_
    refine r_istore_n (lo2 := [(0, _), (1, _), (3, _)]) dX4_put_4 rfl (Nat.le_of_ble_eq_true rfl) [1, 2, 0] rfl ?_
    refine r_iload_n dX4_put_5 2 rfl ?_
    refine r_if_ne dX4_put_6 (tgt := 12) (by decide) (fun h6 => ?_) (fun h6 => ?_)
    · --t
      exact absurd (by rw [h0]; rfl) h6
    · --f
      refine r_bipush dX4_put_9 (v := -2) (by decide +kernel) ?_
      refine r_iret rfl dX4_put_11 ?_
      exact ⟨rfl, hP, fun _ _ _ => rfl⟩
  · rw [if_neg h0, if_neg h0, if_neg h0]
    have hne : ¬ nI (chN x 8 0) = 0 := nI_ne0 (by omega) (by omega)
    have e1 : S 185 1 + nI (chN x 8 0) = nI (len + chN x 8 0) := by rw [hP.1.1, nI_add]
    have h80 := hP.1.2
    by_cases hb : 80 < len + chN x 8 0
    · rw [if_pos hb, if_pos hb, if_pos hb]
      refine r_lload_n dX4_put_0 1 rfl ?_
      refine r_callSiF (As := [_]) c_X1_charactersIn l_X4_193 rfl rfl rfl (Nat.le_of_ble_eq_true rfl) dX4_put_1 t_X1_charactersIn ?_
      refine r_istore_n (lo2 := [(0, _), (1, _), (3, _)]) dX4_put_4 rfl (Nat.le_of_ble_eq_true rfl) [1, 2, 0] rfl ?_
      refine r_iload_n dX4_put_5 2 rfl ?_
      refine r_if_ne dX4_put_6 (tgt := 12) (by decide) (fun h6 => ?_) (fun h6 => ?_)
      · --t
        refine r_aload_n dX4_put_12 0 rfl ?_
        refine r_getR (b := 185) (by first | assumption | rfl) f_X4_34 rfl rfl dX4_put_13 rfl ?_
        refine r_getI (by first | assumption | rfl) f_X4_177 rfl rfl dX4_put_16 ?_
        refine r_iload_n dX4_put_19 2 rfl ?_
        refine r_iadd dX4_put_20 ?_
        refine r_bipush dX4_put_21 (v := 80) (by decide +kernel) ?_
        refine r_icmp_le dX4_put_23 (tgt := 29) (by decide) (fun h23 => ?_) (fun h23 => ?_)
        · --t
          exact absurd (by rw [e1] at h23; exact h23) (Int32.not_le.mpr (nI_lt (a := 80) hb (by omega)))
        · --f
          refine r_bipush dX4_put_26 (v := -4) (by decide +kernel) ?_
          refine r_iret rfl dX4_put_28 ?_
          exact ⟨rfl, hP, fun _ _ _ => rfl⟩
      · --f
        exact absurd h6 hne
    · rw [if_neg hb, if_neg hb, if_neg hb]
      refine r_lload_n dX4_put_0 1 rfl ?_
      refine r_callSiF (As := [_]) c_X1_charactersIn l_X4_193 rfl rfl rfl (Nat.le_of_ble_eq_true rfl) dX4_put_1 t_X1_charactersIn ?_
      refine r_istore_n (lo2 := [(0, _), (1, _), (3, _)]) dX4_put_4 rfl (Nat.le_of_ble_eq_true rfl) [1, 2, 0] rfl ?_
      refine r_iload_n dX4_put_5 2 rfl ?_
      refine r_if_ne dX4_put_6 (tgt := 12) (by decide) (fun h6 => ?_) (fun h6 => ?_)
      · --t
        refine r_aload_n dX4_put_12 0 rfl ?_
        refine r_getR (b := 185) (by first | assumption | rfl) f_X4_34 rfl rfl dX4_put_13 rfl ?_
        refine r_getI (by first | assumption | rfl) f_X4_177 rfl rfl dX4_put_16 ?_
        refine r_iload_n dX4_put_19 2 rfl ?_
        refine r_iadd dX4_put_20 ?_
        refine r_bipush dX4_put_21 (v := 80) (by decide +kernel) ?_
        refine r_icmp_le dX4_put_23 (tgt := 29) (by decide) (fun h23 => ?_) (fun h23 => ?_)
        · --t
          refine r_aload_n dX4_put_29 0 rfl ?_
          refine r_getR (b := 185) (by first | assumption | rfl) f_X4_34 rfl rfl dX4_put_30 rfl ?_
          refine r_lload_n dX4_put_33 1 rfl ?_
          refine r_iload_n dX4_put_34 2 rfl ?_
          refine r_callVv (As := [_, _]) c_X1_addCharacters (by first | assumption | rfl) l_X4_197 rfl rfl rfl (Nat.le_of_ble_eq_true rfl) dX4_put_35 (t_X1_addCharacters hP (by omega) (fun j hj => chr_of (hok j hj))) (fun u35 q35 => ?_)
          obtain ⟨-, g1, f1⟩ := q35
          refine r_aload_n dX4_put_38 0 rfl ?_
          refine r_getR (b := 185) (by first | assumption | rfl) f_X4_34 rfl rfl dX4_put_39 rfl ?_
          refine r_getI (by first | assumption | rfl) f_X4_177 rfl rfl dX4_put_42 ?_
          refine r_iret rfl dX4_put_45 ?_
          rw [g1.1.1]
          exact ⟨rfl, g1, f1⟩
        · --f
          exact absurd (by rw [e1]; exact nI_le (b := 80) (Nat.not_lt.mp hb) (by decide)) h23
      · --f
        exact absurd h6 hne
theorem t_X4_wipe (hP : PB S P len) : Call G d M_X4_wipe [rv G 0] S (fun r u => r = some (nI len) ∧ PB u P 0 ∧ ∀ b, b ≠ 185 → u b = S b) := by
  refine call_of (lo := [(0, rv G 0)]) (by decide +kernel) (Nat.le_of_ble_eq_true rfl) rfl ?_
  refine r_aload_n dX4_wipe_0 0 rfl ?_
  refine r_getR (b := 185) (by first | assumption | rfl) f_X4_34 rfl rfl dX4_wipe_1 rfl ?_
  refine r_getI (by first | assumption | rfl) f_X4_177 rfl rfl dX4_wipe_4 ?_
  refine r_istore_n (lo2 := [(0, _), (1, _)]) dX4_wipe_7 rfl (Nat.le_of_ble_eq_true rfl) [1, 0] rfl ?_
  refine r_aload_n dX4_wipe_8 0 rfl ?_
  refine r_getR (b := 185) (by first | assumption | rfl) f_X4_34 rfl rfl dX4_wipe_9 rfl ?_
  refine r_iconst dX4_wipe_12 (v := 0) rfl ?_
  refine r_putI (by first | assumption | rfl) f_X4_177 rfl rfl rfl rfl dX4_wipe_13 ?_
  refine r_iload_n dX4_wipe_16 1 rfl ?_
  refine r_iret rfl dX4_wipe_17 ?_
  rw [hP.1.1]
  exact ⟨rfl, ⟨⟨by rw [up1_s, upd, if_pos rfl]; rfl, by omega⟩, fun j hj => absurd hj (by omega)⟩, fun b hb => up1_n hb⟩
theorem t_X4_fault (hP : PB S P len) : Call G (d + 6) M_X4_fault [rv G 0] S (fun r u => r = some (fauA P len) ∧ PB u P len ∧ ∀ b, b ≠ 185 → u b = S b) := by
  refine call_of (lo := [(0, rv G 0)]) (by decide +kernel) (Nat.le_of_ble_eq_true rfl) rfl ?_
  refine r_aload_n dX4_fault_0 0 rfl ?_
  refine r_getR (b := 185) (by first | assumption | rfl) f_X4_34 rfl rfl dX4_fault_1 rfl ?_
  refine r_callVi (As := []) c_X1_faultAt (by first | assumption | rfl) l_X4_201 rfl rfl rfl (Nat.le_of_ble_eq_true rfl) dX4_fault_4 (t_X1_faultAt hP) (fun r4 u4 q4 => ?_)
  obtain ⟨hr, g1, f1⟩ := q4
  cases hr
  refine r_iret rfl dX4_fault_7 ?_
  exact ⟨rfl, g1, f1⟩
theorem rO_kind {i : Nat} (h : (rO P len i).1 = true) : (rO P len i).2.2.1 = 110 ∨ (rO P len i).2.2.1 = 116 ∨ (rO P len i).2.2.1 = 99 ∨ (rO P len i).2.2.1 = 108 ∨ (rO P len i).2.2.1 = 115 := by
  unfold rO at h ⊢
  by_cases e1 : sg P len i = 110 ∨ sg P len i = 116
  · rw [if_pos e1]; exact e1.elim Or.inl (fun z => Or.inr (Or.inl z))
  · rw [if_neg e1] at h ⊢
    by_cases e2 : sg P len i = 99
    · rw [if_pos e2] at h ⊢
      by_cases e3 : (rB P len (i + 1) 46).1 = true
      · rw [if_pos e3] at h ⊢
        by_cases e4 : sg P len (rB P len (i + 1) 46).2.1 = 114 ∨ sg P len (rB P len (i + 1) 46).2.1 = 98
        · rw [if_pos e4]; exact Or.inr (Or.inr (Or.inl rfl))
        · rw [if_neg e4] at h; exact absurd (show false = true from h) (by decide)
      · rw [if_neg e3] at h; exact absurd (show false = true from h) (by decide)
    · rw [if_neg e2] at h ⊢
      by_cases e3 : sg P len i = 108
      · rw [if_pos e3]; exact Or.inr (Or.inr (Or.inr (Or.inl rfl)))
      · rw [if_neg e3] at h ⊢
        by_cases e4 : sg P len i = 115
        · rw [if_pos e4]; exact Or.inr (Or.inr (Or.inr (Or.inr rfl)))
        · rw [if_neg e4] at h; exact absurd (show false = true from h) (by decide)
theorem t_X4_carryOrder {k t m c : Int32} (hW : WN N) (hS : SP S 1 N) (hk : k = 110 ∨ k = 116 ∨ k = 99 ∨ k = 108 ∨ k = 115) (e3 : S 185 3 = k) (e4 : ¬ (k = 110 ∨ k = 116) → S 185 4 = t) (e5 : S 185 5 = m) (e6 : k = 99 → S 185 6 = c) : Call G (d + 5) M_X4_carryOrder [rv G 0] S (fun r u => r = some (exO N k t m c).1 ∧ SP u 1 (exO N k t m c).2 ∧ FS 1 S u) := by
  refine call_of (lo := [(0, rv G 0)]) (by decide +kernel) (Nat.le_of_ble_eq_true rfl) rfl ?_
  unfold exO
  subst e5
  refine r_aload_n dX4_carryOrder_0 0 rfl ?_
  refine r_getR (b := 185) (by first | assumption | rfl) f_X4_34 rfl rfl dX4_carryOrder_1 rfl ?_
  refine r_getI (by first | assumption | rfl) f_X4_218 rfl rfl dX4_carryOrder_4 ?_
  rw [e3]
  by_cases hk7_0 : k = 99
  · --key 99
    rw [hk7_0]
    have ek : k = _ := hk7_0
    clear hk7_0 hk
    refine r_lookup (off := 61) (tgt := 68) dX4_carryOrder_7 (by decide) (by decide) (by decide) ?_
    refine r_aload_n dX4_carryOrder_68 0 rfl ?_
    refine r_aload_n dX4_carryOrder_69 0 rfl ?_
    refine r_getR (b := 185) (by first | assumption | rfl) f_X4_34 rfl rfl dX4_carryOrder_70 rfl ?_
    refine r_getI (by first | assumption | rfl) f_X4_225 rfl rfl dX4_carryOrder_73 ?_
    refine r_aload_n dX4_carryOrder_76 0 rfl ?_
    refine r_getR (b := 185) (by first | assumption | rfl) f_X4_34 rfl rfl dX4_carryOrder_77 rfl ?_
    refine r_getI (by first | assumption | rfl) f_X4_222 rfl rfl dX4_carryOrder_80 ?_
    refine r_aload_n dX4_carryOrder_83 0 rfl ?_
    refine r_getR (b := 185) (by first | assumption | rfl) f_X4_34 rfl rfl dX4_carryOrder_84 rfl ?_
    refine r_getI (by first | assumption | rfl) f_X4_228 rfl rfl dX4_carryOrder_87 ?_
    refine r_callVi (As := [_, _, _]) c_X4_letCome (by first | assumption | rfl) l_X4_64 rfl rfl rfl (Nat.le_of_ble_eq_true rfl) dX4_carryOrder_90 (t_X4_letCome hW hS) (fun r90 u90 q90 => ?_)
    obtain ⟨hr, g1, f1⟩ := q90
    cases hr
    refine r_iret rfl dX4_carryOrder_93 ?_
    subst ek
    rw [e4 (by decide), e6 rfl] at g1 ⊢
    exact ⟨rfl, g1, f1⟩
  by_cases hk7_1 : k = 108
  · --key 108
    rw [hk7_1]
    have ek : k = _ := hk7_1
    clear hk7_1 hk
    refine r_lookup (off := 87) (tgt := 94) dX4_carryOrder_7 (by decide) (by decide) (by decide) ?_
    refine r_aload_n dX4_carryOrder_94 0 rfl ?_
    refine r_aload_n dX4_carryOrder_95 0 rfl ?_
    refine r_getR (b := 185) (by first | assumption | rfl) f_X4_34 rfl rfl dX4_carryOrder_96 rfl ?_
    refine r_getI (by first | assumption | rfl) f_X4_225 rfl rfl dX4_carryOrder_99 ?_
    refine r_aload_n dX4_carryOrder_102 0 rfl ?_
    refine r_getR (b := 185) (by first | assumption | rfl) f_X4_34 rfl rfl dX4_carryOrder_103 rfl ?_
    refine r_getI (by first | assumption | rfl) f_X4_222 rfl rfl dX4_carryOrder_106 ?_
    refine r_callVi (As := [_, _]) c_X4_loseScout (by first | assumption | rfl) l_X4_68 rfl rfl rfl (Nat.le_of_ble_eq_true rfl) dX4_carryOrder_109 (t_X4_loseScout hW hS) (fun r109 u109 q109 => ?_)
    obtain ⟨hr, g1, f1⟩ := q109
    cases hr
    refine r_iret rfl dX4_carryOrder_112 ?_
    subst ek
    rw [e4 (by decide)] at g1 ⊢
    exact ⟨rfl, g1, f1⟩
  by_cases hk7_2 : k = 110
  · --key 110
    rw [hk7_2]
    have ek : k = _ := hk7_2
    clear hk7_2 hk
    refine r_lookup (off := 49) (tgt := 56) dX4_carryOrder_7 (by decide) (by decide) (by decide) ?_
    refine r_aload_n dX4_carryOrder_56 0 rfl ?_
    refine r_aload_n dX4_carryOrder_57 0 rfl ?_
    refine r_getR (b := 185) (by first | assumption | rfl) f_X4_34 rfl rfl dX4_carryOrder_58 rfl ?_
    refine r_getI (by first | assumption | rfl) f_X4_222 rfl rfl dX4_carryOrder_61 ?_
    refine r_callVi (As := [_]) c_X4_addTroop (by first | assumption | rfl) l_X4_57 rfl rfl rfl (Nat.le_of_ble_eq_true rfl) dX4_carryOrder_64 (t_X4_addTroop hW hS) (fun r64 u64 q64 => ?_)
    obtain ⟨hr, g1, f1⟩ := q64
    cases hr
    refine r_iret rfl dX4_carryOrder_67 ?_
    subst ek
    exact ⟨rfl, g1, f1⟩
  by_cases hk7_3 : k = 115
  · --key 115
    rw [hk7_3]
    have ek : k = _ := hk7_3
    clear hk7_3 hk
    refine r_lookup (off := 106) (tgt := 113) dX4_carryOrder_7 (by decide) (by decide) (by decide) ?_
    refine r_aload_n dX4_carryOrder_113 0 rfl ?_
    refine r_aload_n dX4_carryOrder_114 0 rfl ?_
    refine r_getR (b := 185) (by first | assumption | rfl) f_X4_34 rfl rfl dX4_carryOrder_115 rfl ?_
    refine r_getI (by first | assumption | rfl) f_X4_225 rfl rfl dX4_carryOrder_118 ?_
    refine r_aload_n dX4_carryOrder_121 0 rfl ?_
    refine r_getR (b := 185) (by first | assumption | rfl) f_X4_34 rfl rfl dX4_carryOrder_122 rfl ?_
    refine r_getI (by first | assumption | rfl) f_X4_222 rfl rfl dX4_carryOrder_125 ?_
    refine r_callVi (As := [_, _]) c_X4_changeSize (by first | assumption | rfl) l_X4_60 rfl rfl rfl (Nat.le_of_ble_eq_true rfl) dX4_carryOrder_128 (t_X4_changeSize hW hS) (fun r128 u128 q128 => ?_)
    obtain ⟨hr, g1, f1⟩ := q128
    cases hr
    refine r_iret rfl dX4_carryOrder_131 ?_
    subst ek
    rw [e4 (by decide)] at g1 ⊢
    exact ⟨rfl, g1, f1⟩
  by_cases hk7_4 : k = 116
  · --key 116
    rw [hk7_4]
    have ek : k = _ := hk7_4
    clear hk7_4 hk
    refine r_lookup (off := 125) (tgt := 132) dX4_carryOrder_7 (by decide) (by decide) (by decide) ?_
    refine r_aload_n dX4_carryOrder_132 0 rfl ?_
    refine r_aload_n dX4_carryOrder_133 0 rfl ?_
    refine r_getR (b := 185) (by first | assumption | rfl) f_X4_34 rfl rfl dX4_carryOrder_134 rfl ?_
    refine r_getI (by first | assumption | rfl) f_X4_222 rfl rfl dX4_carryOrder_137 ?_
    refine r_callVi (As := [_]) c_X4_passMinutes (by first | assumption | rfl) l_X4_89 rfl rfl rfl (Nat.le_of_ble_eq_true rfl) dX4_carryOrder_140 (t_X4_passMinutes hW hS) (fun r140 u140 q140 => ?_)
    obtain ⟨hr, g1, f1⟩ := q140
    cases hr
    refine r_iret rfl dX4_carryOrder_143 ?_
    subst ek
    exact ⟨rfl, g1, f1⟩
  refine r_lookup (off := 137) (tgt := 144) dX4_carryOrder_7 (by decide) (show Op.lookupswitch.offset [(99, 61), (108, 87), (110, 49), (115, 106), (116, 125)] 137 _ = 137 by rw [lv_osw hk7_0 (by decide), lv_osw hk7_1 (by decide), lv_osw hk7_2 (by decide), lv_osw hk7_3 (by decide), lv_osw hk7_4 (by decide)]; rfl) (by decide) ?_
  refine r_bipush dX4_carryOrder_144 (v := -3) (by decide +kernel) ?_
  refine r_iret rfl dX4_carryOrder_146 ?_
  exact (hk.elim hk7_2 (fun z => z.elim hk7_4 (fun z => z.elim hk7_0 (fun z => z.elim hk7_1 hk7_3)))).elim
/-- the cells of the current state and of the pad alone may have changed -/
def FQ (S u : mS) : Prop := ∀ b, (b < 1 ∨ 19 ≤ b) → b ≠ 185 → u b = S b
theorem rO_end : (rO P len len).1 = false := by
  have e : sg P len len = 0 := by unfold sg; rw [if_neg (by omega)]
  unfold rO
  rw [e]
  rfl
theorem lp_X4_carry0 {S0 : mS} {Q : Option Int32 → mS → Prop} {o : Nat} (ho : o ≤ 80) (hP : PD S P len len) (hF : FQ S0 S) (hx : ∀ u, (∀ b, b ≠ 185 → u b = S b) → PB u P len → FQ S0 u → At G (d + 6) M_X4_carryOut Q 75 [(0, rv G 0), (1, .int (nI o))] [] u) : At G (d + 6) M_X4_carryOut Q 36 [(0, rv G 0), (1, .int (nI o))] [] S := by
  have hro := @t_X1_readOrder G (d + 1) S P len len hP
  rw [rO_end] at hro
  refine r_iload_n dX4_carryOut_36 1 rfl ?_
  refine r_bipush dX4_carryOut_37 (v := 80) (by decide +kernel) ?_
  refine r_icmp_ge dX4_carryOut_39 (tgt := 75) (by decide) (fun h39 => ?_) (fun h39 => ?_)
  · --t
    first | exact hx S (fun _ _ => rfl) hP.pb hF | exact hx _ f1 g1.pb (fun b h1 h2 => (f1 b h2).trans (hF b h1 h2))
  · --f
    refine r_aload_n dX4_carryOut_42 0 rfl ?_
    refine r_getR (b := 185) (by first | assumption | rfl) f_X4_34 rfl rfl dX4_carryOut_43 rfl ?_
    refine r_callVi (As := []) c_X1_readOrder (by first | assumption | rfl) l_X4_207 rfl rfl rfl (Nat.le_of_ble_eq_true rfl) dX4_carryOut_46 hro (fun r46 u46 q46 => ?_)
    obtain ⟨hr, g1, f1, -⟩ := q46
    cases hr
    refine r_if_eq dX4_carryOut_49 (tgt := 75) (by decide) (fun h49 => ?_) (fun h49 => ?_)
    · --t
      first | exact hx S (fun _ _ => rfl) hP.pb hF | exact hx _ f1 g1.pb (fun b h1 h2 => (f1 b h2).trans (hF b h1 h2))
    · --f
      exact absurd rfl h49
theorem lp_X4_carry {S0 : mS} {Q : Option Int32 → mS → Prop} : ∀ f o i (N : mN) S, f + o = 80 → (fl P len f i).1 = true → PD S P len i → SP S 1 N → WN N → FQ S0 S → (∀ u, SP u 1 (cyN P len f i N).2 → PB u P len → FQ S0 u → At G (d + 6) M_X4_carryOut Q 75 [(0, rv G 0), (1, .int (nI (o + (cyN P len f i N).1)))] [] u) → At G (d + 6) M_X4_carryOut Q 36 [(0, rv G 0), (1, .int (nI o))] [] S := by
  intro f
  induction f with
  | zero => intro o i N S ho hf; exact absurd (show false = true from hf) (by decide)
  | succ f ih =>
    intro o i N S ho hf hP hS hW hF hx
    have ho80 : o < 80 := by omega
    have hro := rO_le (P := P) hP.1.2.2.2
    unfold fl at hf
    cases e1 : (rO P len i).1
    · rw [e1] at hf; exact absurd (show false = true from hf) (by decide)
    · rw [e1, if_pos rfl] at hf
      have hkd := rO_kind e1
      have hread := @t_X1_readOrder G (d + 1) S P len i hP
      rw [e1] at hread
      unfold cyN at hx
      rw [if_pos e1] at hx
      have hWe : WN (exR N (rO P len i)).2 := wn_ex hW _ _ _ _
      refine r_iload_n dX4_carryOut_36 1 rfl ?_
      refine r_bipush dX4_carryOut_37 (v := 80) (by decide +kernel) ?_
      refine r_icmp_ge dX4_carryOut_39 (tgt := 75) (by decide) (fun h39 => ?_) (fun h39 => ?_)
      · --t
        exact absurd h39 (nI_ge (b := 80) ho80 (by decide))
      · --f
        refine r_aload_n dX4_carryOut_42 0 rfl ?_
        refine r_getR (b := 185) (by first | assumption | rfl) f_X4_34 rfl rfl dX4_carryOut_43 rfl ?_
        refine r_callVi (As := []) c_X1_readOrder (by first | assumption | rfl) l_X4_207 rfl rfl rfl (Nat.le_of_ble_eq_true rfl) dX4_carryOut_46 hread (fun r46 u46 q46 => ?_)
        obtain ⟨hr, g1, f1, k1⟩ := q46
        cases hr
        refine r_if_eq dX4_carryOut_49 (tgt := 75) (by decide) (fun h49 => ?_) (fun h49 => ?_)
        · --t
          exact absurd h49 (by decide)
        · --f
          refine r_aload_n dX4_carryOut_52 0 rfl ?_
          refine r_callVi (As := []) c_X4_carryOrder (by first | assumption | rfl) l_X4_211 rfl rfl rfl (Nat.le_of_ble_eq_true rfl) dX4_carryOut_53 (t_X4_carryOrder (t := (rO P len i).2.2.2.1) (c := (rO P len i).2.2.2.2.2) hW (hS.fp hW.cn.2 f1) hkd (k1 rfl).1 (k1 rfl).2.1 (k1 rfl).2.2.1 (k1 rfl).2.2.2) (fun r53 u53 q53 => ?_)
          obtain ⟨hr, g2, f2⟩ := q53
          cases hr
          replace g2 : SP u53 1 (exR N (rO P len i)).2 := g2
          have g3 : PD u53 P len (rO P len i).2.1 := ⟨by rw [f2 185 (by omega)]; exact g1.1, fun j hj => by rw [f2 186 (by omega)]; exact g1.2 j hj⟩
          have f3 : FQ S0 u53 := fun b b1 b2 => (f2 b (by omega)).trans ((f1 b b2).trans (hF b b1 b2))
          refine r_if_lt dX4_carryOut_56 (tgt := 75) (by decide) (fun h56 => ?_) (fun h56 => ?_)
          · --t
            replace h56 : (exR N (rO P len i)).1 < 0 := h56
            rw [if_pos h56] at hx
            exact hx _ g2 g3.pb f3
          · --f
            refine r_iinc (lo2 := [(0, _), (1, _)]) dX4_carryOut_59 1 rfl (w := 1) rfl (Nat.le_of_ble_eq_true rfl) [1, 0] rfl ?_
            refine r_aload_n dX4_carryOut_62 0 rfl ?_
            refine r_getR (b := 185) (by first | assumption | rfl) f_X4_34 rfl rfl dX4_carryOut_63 rfl ?_
            refine r_bipush dX4_carryOut_66 (v := 59) (by decide +kernel) ?_
            refine r_callVi (As := [_]) c_X1_readSign (by first | assumption | rfl) l_X4_214 rfl rfl rfl (Nat.le_of_ble_eq_true rfl) dX4_carryOut_68 (t_X1_readSign (c := 59) (by decide) g3) (fun r68 u68 q68 => ?_)
            obtain ⟨hr, g4, f4, -⟩ := q68
            refine r_pop dX4_carryOut_71 rfl ?_
            refine r_goto dX4_carryOut_72 (tgt := 36) (by decide) ?_
            replace h56 : ¬ (exR N (rO P len i)).1 < 0 := h56
            rw [if_neg h56] at hx
            rw [nI_1]
            have f5 : FQ S0 u68 := fun b b1 b2 => (f4 b b2).trans (f3 b b1 b2)
            have g5 : SP u68 1 (exR N (rO P len i)).2 := g2.fp hWe.cn.2 f4
            by_cases e2 : len ≤ (rO P len i).2.1
            · rw [if_pos e2] at hx
              have e3 : (rO P len i).2.1 = len := by have := hro.1; omega
              have e4 : ¬ sg P len len = 59 := by unfold sg; rw [if_neg (by omega)]; decide
              rw [e3, if_neg e4] at g4
              exact lp_X4_carry0 (by omega) g4 f5 (fun u z1 z2 z3 => hx u (g5.fp hWe.cn.2 z1) z2 z3)
            · rw [if_neg e2] at hf hx
              by_cases e3 : sg P len (rO P len i).2.1 = 59
              · rw [if_pos e3] at hf
                rw [if_pos e3] at g4
                refine ih (o + 1) _ _ u68 (by omega) hf g4 g5 hWe f5 (fun u z1 z2 z3 => ?_)
                rw [show o + 1 + (cyN P len f ((rO P len i).2.1 + 1) (exR N (rO P len i)).2).1 = o + ((cyN P len f ((rO P len i).2.1 + 1) (exR N (rO P len i)).2).1 + 1) by omega]
                exact hx u z1 z2 z3
              · rw [if_neg e3] at hf
                exact absurd (show false = true from hf) (by decide)
theorem fl_le : ∀ f i, i ≤ len → (fl P len f i).2 ≤ len := by
  intro f
  induction f with
  | zero => intro i hi; exact hi
  | succ f ih =>
    intro i hi
    have h1 := (@rO_le P len i hi).1
    unfold fl
    split
    · split
      · exact h1
      · split
        · rename_i h2 _
          exact ih _ (by omega)
        · exact h1
    · exact h1
theorem fl_ne (hl : len ≤ 80) : ¬ nI (fl P len 80 0).2 = -6 := by
  have h1 := @fl_le P len 80 0 (Nat.zero_le _)
  intro z
  have h2 := nI_pos (n := (fl P len 80 0).2) (by omega)
  rw [z] at h2
  exact h2 (by decide)
theorem t_X4_carryOut (hW : WN N) (hS : SP S 1 N) (hH : HP S n h) (hP : PB S P len) : Call G (d + 7) M_X4_carryOut [rv G 0] S (fun r u => r = some (if carOk P len = true then nI (cyN P len 80 0 N).1 else -3) ∧ SP u 1 (if carOk P len = true then (cyN P len 80 0 N).2 else N) ∧ HP u (if carOk P len = true then psN n else n) (if carOk P len = true then psH n h N else h) ∧ PB u P (if carOk P len = true then 0 else len) ∧ ∀ c, (c < 1 ∨ 147 ≤ c) → c ≠ 185 → u c = S c) := by
  refine call_of (lo := [(0, rv G 0)]) (by decide +kernel) (Nat.le_of_ble_eq_true rfl) rfl ?_
  cases e : carOk P len
  · have ef : fauA P len = nI (fl P len 80 0).2 := by unfold fauA; unfold carOk at e; rw [e]; rfl
    have hpos : ¬ nI (fl P len 80 0).2 = -6 := by
      intro z
      exact absurd z (fl_ne hP.1.2)
    refine r_aload_n dX4_carryOut_0 0 rfl ?_
    refine r_getR (b := 185) (by first | assumption | rfl) f_X4_34 rfl rfl dX4_carryOut_1 rfl ?_
    refine r_callVi (As := []) c_X1_faultAt (by first | assumption | rfl) l_X4_201 rfl rfl rfl (Nat.le_of_ble_eq_true rfl) dX4_carryOut_4 (t_X1_faultAt hP) (fun r4 u4 q4 => ?_)
    obtain ⟨hr, g1, f1⟩ := q4
    cases hr
    refine r_bipush dX4_carryOut_7 (v := -6) (by decide +kernel) ?_
    refine r_icmp_eq dX4_carryOut_9 (tgt := 15) (by decide) (fun h9 => ?_) (fun h9 => ?_)
    · --t
      exact absurd (by rw [ef] at h9; exact h9) hpos
    · --f
      refine r_bipush dX4_carryOut_12 (v := -3) (by decide +kernel) ?_
      refine r_iret rfl dX4_carryOut_14 ?_
      exact ⟨rfl, hS.fp hW.cn.2 f1, hH.off (fun c c1 c2 => f1 c (by omega)), g1, fun c c1 c2 => f1 c c2⟩
  · have ef : fauA P len = -6 := by unfold fauA; unfold carOk at e; rw [e]; rfl
    have hW2 : WN (cyN P len 80 0 N).2 := wn_cy 80 0 N hW
    rw [if_pos rfl, if_pos rfl, if_pos rfl, if_pos rfl, if_pos rfl]
    refine r_aload_n dX4_carryOut_0 0 rfl ?_
    refine r_getR (b := 185) (by first | assumption | rfl) f_X4_34 rfl rfl dX4_carryOut_1 rfl ?_
    refine r_callVi (As := []) c_X1_faultAt (by first | assumption | rfl) l_X4_201 rfl rfl rfl (Nat.le_of_ble_eq_true rfl) dX4_carryOut_4 (t_X1_faultAt hP) (fun r4 u4 q4 => ?_)
    obtain ⟨hr, g1, f1⟩ := q4
    cases hr
    refine r_bipush dX4_carryOut_7 (v := -6) (by decide +kernel) ?_
    refine r_icmp_eq dX4_carryOut_9 (tgt := 15) (by decide) (fun h9 => ?_) (fun h9 => ?_)
    · --t
      refine r_aload_n dX4_carryOut_15 0 rfl ?_
      refine r_getR (b := 19) (by first | assumption | rfl) f_X4_19 rfl rfl dX4_carryOut_16 rfl ?_
      refine r_aload_n dX4_carryOut_19 0 rfl ?_
      refine r_getR (b := 1) (by first | assumption | rfl) f_X4_10 rfl rfl dX4_carryOut_20 rfl ?_
      refine r_callVv (As := [_]) c_X0_note (by first | assumption | rfl) l_X4_45 rfl rfl rfl (Nat.le_of_ble_eq_true rfl) dX4_carryOut_23 (t_X0_note (hH.off (fun c c1 c2 => f1 c (by omega))) hW (hS.fp hW.cn.2 f1)) (fun u23 q23 => ?_)
      obtain ⟨-, g2, f2⟩ := q23
      refine r_iconst dX4_carryOut_26 (v := 0) rfl ?_
      refine r_istore_n (lo2 := [(0, _), (1, _)]) dX4_carryOut_27 rfl (Nat.le_of_ble_eq_true rfl) [1, 0] rfl ?_
      refine r_aload_n dX4_carryOut_28 0 rfl ?_
      refine r_getR (b := 185) (by first | assumption | rfl) f_X4_34 rfl rfl dX4_carryOut_29 rfl ?_
      refine r_iconst dX4_carryOut_32 (v := 0) rfl ?_
      refine r_putI (by first | assumption | rfl) f_X4_204 rfl rfl rfl rfl dX4_carryOut_33 ?_
      have g3 : PB u23 P len := g1.off (f2 185 (by omega)) (f2 186 (by omega))
      refine lp_X4_carry (S0 := u23) (P := P) (len := len) (d := d + 1) 80 0 0 N _ (by omega) e g3.pd (((hS.fp hW.cn.2 f1).fh hW.cn.2 f2).off hW.cn.2 (fun c c1 c2 => up1_n (by omega))) hW (fun b b1 b2 => up1_n b2) (fun u z1 z2 z3 => ?_)
      rw [Nat.zero_add]
      have hN : HN (up1 u 185 (upd (u 185) 1 0)) n h N := g2.off (fun c c1 c2 => (up1_n (by omega)).trans (z3 c (by omega) (by omega)))
      have hcn : ¬ nI (cyN P len 80 0 N).1 < 0 := nI_pos (by have := @cy_le P len 80 0 N; omega)
      refine r_aload_n dX4_carryOut_75 0 rfl ?_
      refine r_getR (b := 185) (by first | assumption | rfl) f_X4_34 rfl rfl dX4_carryOut_76 rfl ?_
      refine r_iconst dX4_carryOut_79 (v := 0) rfl ?_
      refine r_putI (by first | assumption | rfl) f_X4_177 rfl rfl rfl rfl dX4_carryOut_80 ?_
      refine r_aload_n dX4_carryOut_83 0 rfl ?_
      refine r_iload_n dX4_carryOut_84 1 rfl ?_
      refine r_callVi (As := [_]) c_X4_recorded (by first | assumption | rfl) l_X4_53 rfl rfl rfl (Nat.le_of_ble_eq_true rfl) dX4_carryOut_85 (t_X4_recorded hN) (fun r85 u85 q85 => ?_)
      obtain ⟨hr, g4, f4⟩ := q85
      cases hr
      refine r_iret rfl dX4_carryOut_88 ?_
      unfold rcN rcH at g4
      rw [if_neg hcn, if_neg hcn] at g4
      refine ⟨rfl, (z1.off hW2.cn.2 (fun c c1 c2 => up1_n (by omega))).fh hW2.cn.2 f4, g4, ⟨⟨?_, by omega⟩, fun j hj => absurd hj (by omega)⟩, fun c c1 c2 => ?_⟩
      · rw [f4 185 (by omega), up1_s, upd, if_pos rfl]; rfl
      · rw [f4 c (by omega), up1_n c2, z3 c (by omega) c2, f2 c (by omega), f1 c c2]
    · --f
      exact absurd ef h9
end PUB
