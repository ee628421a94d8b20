/-! the reference's pad: signs and numbers -/
def PM (S : mS) (P : Nat → Int32) (len : Nat) : Prop := (S 190 8 = nI len ∧ len ≤ 80) ∧ ∀ j, j < len → S 197 j = P j ∧ chr (P j)
def PE (S : mS) (P : Nat → Int32) (len i : Nat) : Prop := PM S P len ∧ S 190 9 = nI i ∧ i ≤ len
def FE (S u : mS) : Prop := (∀ b, b ≠ 190 → u b = S b) ∧ ∀ k, k ≠ 9 → u 190 k = S 190 k
theorem FE.rf {S : mS} : FE S S := ⟨fun _ _ => rfl, fun _ _ => rfl⟩
theorem FE.tr {S u w : mS} (h : FE S u) (g : FE u w) : FE S w := ⟨fun b hb => (g.1 b hb).trans (h.1 b hb), fun k hk => (g.2 k hk).trans (h.2 k hk)⟩
theorem FE.up {S u : mS} {x : Int32} (h : FE S u) : FE S (up1 u 190 (upd (u 190) 9 x)) := ⟨fun b hb => (up1_n hb).trans (h.1 b hb), fun k hk => by rw [up1_s, upd, if_neg hk]; exact h.2 k hk⟩
theorem PM.fe {S u : mS} {P : Nat → Int32} {len : Nat} (h : PM S P len) (g : FE S u) : PM u P len := ⟨⟨(g.2 8 (by omega)).trans h.1.1, h.1.2⟩, fun j hj => by rw [g.1 197 (by omega)]; exact h.2 j hj⟩
theorem PM.at {S : mS} {P : Nat → Int32} {len m : Nat} {x : Int32} (h : PM S P len) (hx : x = nI m) (hm : m ≤ len) : PE (up1 S 190 (upd (S 190) 9 x)) P len m :=
  ⟨h.fe FE.rf.up, by rw [up1_s, upd, if_pos rfl]; exact hx, hm⟩
theorem PE.sgn {S : mS} {P : Nat → Int32} {len i j : Nat} (h : PE S P len i) (hj : j < len) : S 197 j = sg P len j := by unfold sg; rw [if_pos hj]; exact (h.1.2 j hj).1
theorem PE.l197 {S : mS} {P : Nat → Int32} {len i j : Nat} (h : PE S P len i) (hj : j < len) : j < ln 197 := by have := h.1.1.2; show j < 80; omega
theorem rN_nn {P : Nat → Int32} {len i : Nat} (h : (rN P len i).1 = true) : ¬ (rN P len i).2.2 < 0 := by
  unfold rN at h ⊢
  by_cases e : dgt (sg P len i) = true
  · rw [if_pos e] at h ⊢
    obtain ⟨a1, a2⟩ := of_decide_eq_true e
    obtain ⟨a, ha, ea⟩ := nI_of (Int32.not_lt.mpr (Int32.le_trans (show (0 : Int32) ≤ 48 by decide) a1))
    rw [ea] at a1 a2 ⊢
    rw [show (48 : Int32) = nI 48 from rfl, nI_leI (by omega) ha] at a1
    rw [show (57 : Int32) = nI 57 from rfl, nI_leI ha (by omega)] at a2
    have e1 : nI a - 48 = nI (a - 48) := pk_sub (b := 48) a1
    by_cases e2 : 0 < nI a - 48 ∧ dgt (sg P len (i + 1)) = true
    · rw [if_pos e2]
      obtain ⟨b1, b2⟩ := of_decide_eq_true e2.2
      obtain ⟨b, hb, eb⟩ := nI_of (Int32.not_lt.mpr (Int32.le_trans (show (0 : Int32) ≤ 48 by decide) b1))
      show ¬ (nI a - 48) * 10 + sg P len (i + 1) - 48 < 0
      rw [eb] at b1 b2 ⊢
      rw [show (48 : Int32) = nI 48 from rfl, nI_leI (by omega) hb] at b1
      rw [show (57 : Int32) = nI 57 from rfl, nI_leI hb (by omega)] at b2
      rw [e1, show (10 : Int32) = nI 10 from rfl, pk_mul, nI_add, show (48 : Int32) = nI 48 from rfl, pk_sub (by omega)]
      exact nI_pos (by omega)
    · rw [if_neg e2]
      show ¬ nI a - 48 < 0
      rw [e1]
      exact nI_pos (by omega)
  · rw [if_neg e] at h; exact absurd (show false = true from h) (by decide)
section MODP
variable {G : mG} {d : Nat} {S S0 : mS} {Q : Option Int32 → mS → Prop} {P : Nat → Int32} {len i : Nat}
theorem t_X5_sees {a b : Int32} (h : PE S P len i) : Call G (d + 1) M_X5_sees [rv G 190, .int a, .int b] S (fun v u => v = some (bI (decide (i < len ∧ a ≤ sg P len i ∧ sg P len i ≤ b))) ∧ u = S) := by
  refine call_of (lo := [(0, rv G 190), (1, .int a), (2, .int b)]) (by decide +kernel) (Nat.le_of_ble_eq_true rfl) rfl ?_
  have hl80 := h.1.1.2
  have hil := h.2.2
  have e9 := h.2.1
  have e8 := h.1.1.1
  by_cases hi : i < len
  · have hl : i < ln 197 := h.l197 hi
    have es := h.sgn hi
    have e1 : decide (i < len ∧ a ≤ sg P len i ∧ sg P len i ≤ b) = decide (a ≤ S 197 i ∧ S 197 i ≤ b) := by rw [es]; congr 1; apply propext; exact ⟨fun z => z.2, fun z => ⟨hi, z⟩⟩
    rw [e1]
    refine r_aload_n dX5_sees_0 0 rfl ?_
    refine r_getI (by first | assumption | rfl) f_X5_131 rfl rfl dX5_sees_1 ?_
    refine r_aload_n dX5_sees_4 0 rfl ?_
    refine r_getI (by first | assumption | rfl) f_X5_120 rfl rfl dX5_sees_5 ?_
    refine r_icmp_ge dX5_sees_8 (tgt := 33) (by decide) (fun h8 => ?_) (fun h8 => ?_)
    · --t
      rw [e9, e8] at h8
      exact absurd h8 (nI_ge hi (by omega))
    · --f
      refine r_aload_n dX5_sees_11 0 rfl ?_
      refine r_getR (b := 197) (by first | assumption | rfl) f_X5_29 rfl rfl dX5_sees_12 rfl ?_
      refine r_aload_n dX5_sees_15 0 rfl ?_
      refine r_getI (by first | assumption | rfl) f_X5_131 rfl rfl dX5_sees_16 ?_
      refine r_iald (j := i) (by first | assumption | rfl) (by first | assumption | rfl) (by first | assumption | decide) dX5_sees_19 ?_
      refine r_i2l dX5_sees_20 ?_
      refine r_iload_n dX5_sees_21 1 rfl ?_
      refine r_iload_n dX5_sees_22 2 rfl ?_
      refine r_callSiF (As := [_, _, _]) c_X5_in l_X5_35 rfl rfl rfl (Nat.le_of_ble_eq_true rfl) dX5_sees_23 in_i ?_
      refine r_if_eq dX5_sees_26 (tgt := 33) (by decide) (fun h26 => ?_) (fun h26 => ?_)
      · --t
        refine r_iconst dX5_sees_33 (v := 0) rfl ?_
        refine r_zret rfl (by first | rfl | decide) dX5_sees_34 ?_
        first
        | (rw [bI_0] at h26; rw [h26]; exact ⟨rfl, rfl⟩)
        | (rw [← ne_eq, bI_n0] at h26; rw [h26]; exact ⟨rfl, rfl⟩)
      · --f
        refine r_iconst dX5_sees_29 (v := 1) rfl ?_
        refine r_goto dX5_sees_30 (tgt := 34) (by decide) ?_
        refine r_zret rfl (by first | rfl | decide) dX5_sees_34 ?_
        first
        | (rw [bI_0] at h26; rw [h26]; exact ⟨rfl, rfl⟩)
        | (rw [← ne_eq, bI_n0] at h26; rw [h26]; exact ⟨rfl, rfl⟩)
  · have e1 : decide (i < len ∧ a ≤ sg P len i ∧ sg P len i ≤ b) = false := decide_eq_false (fun z => hi z.1)
    rw [e1]
    refine r_aload_n dX5_sees_0 0 rfl ?_
    refine r_getI (by first | assumption | rfl) f_X5_131 rfl rfl dX5_sees_1 ?_
    refine r_aload_n dX5_sees_4 0 rfl ?_
    refine r_getI (by first | assumption | rfl) f_X5_120 rfl rfl dX5_sees_5 ?_
    refine r_icmp_ge dX5_sees_8 (tgt := 33) (by decide) (fun h8 => ?_) (fun h8 => ?_)
    · --t
      refine r_iconst dX5_sees_33 (v := 0) rfl ?_
      refine r_zret rfl (by first | rfl | decide) dX5_sees_34 ?_
      exact ⟨rfl, rfl⟩
    · --f
      rw [e9, e8] at h8
      exact absurd (nI_le (Nat.not_lt.mp hi) (by omega)) h8
theorem t_X5_seesD (h : PE S P len i) : Call G (d + 1) M_X5_sees [rv G 190, .int 48, .int 57] S (fun v u => v = some (bI (dgt (sg P len i))) ∧ u = S) := by
  have z := @t_X5_sees G d S P len i 48 57 h
  have e : decide (i < len ∧ (48 : Int32) ≤ sg P len i ∧ sg P len i ≤ 57) = dgt (sg P len i) := by
    unfold dgt
    congr 1
    apply propext
    refine ⟨fun y => y.2, fun y => ⟨dgt_lt (decide_eq_true y), y⟩⟩
  rw [e] at z
  exact z
theorem t_X5_seesC {c : Int32} (hc : c ≠ 0) (h : PE S P len i) : Call G (d + 1) M_X5_sees [rv G 190, .int c, .int c] S (fun v u => v = some (bI (decide (sg P len i = c))) ∧ u = S) := by
  have z := @t_X5_sees G d S P len i c c h
  have e : decide (i < len ∧ c ≤ sg P len i ∧ sg P len i ≤ c) = decide (sg P len i = c) := by
    congr 1
    apply propext
    refine ⟨fun y => Int32.le_antisymm y.2.2 y.2.1, fun y => ⟨sg_lt (by rw [y]; exact hc), by rw [y]; exact ⟨Int32.le_refl _, Int32.le_refl _⟩⟩⟩
  rw [e] at z
  exact z
theorem t_X5_number (h : PE S P len i) : Call G (d + 2) M_X5_number [rv G 190] S (fun v u => v = some (if (rN P len i).1 = true then (rN P len i).2.2 else -3) ∧ PE u P len (rN P len i).2.1 ∧ FE S u) := by
  refine call_of (lo := [(0, rv G 190)]) (by decide +kernel) (Nat.le_of_ble_eq_true rfl) rfl ?_
  have hdg := @t_X5_seesD G d S P len i h
  cases e : dgt (sg P len i)
  · rw [e] at hdg
    have er : rN P len i = (false, i, 0) := by unfold rN; rw [e]; rfl
    rw [er]
    refine r_aload_n dX5_number_0 0 rfl ?_
    refine r_bipush dX5_number_1 (v := 48) (by decide +kernel) ?_
    refine r_bipush dX5_number_3 (v := 57) (by decide +kernel) ?_
    refine r_callViF (As := [_, _]) c_X5_sees (by first | assumption | rfl) l_X5_134 rfl rfl rfl (Nat.le_of_ble_eq_true rfl) dX5_number_5 hdg ?_
    refine r_if_ne dX5_number_8 (tgt := 14) (by decide) (fun h8 => ?_) (fun h8 => ?_)
    · --t
      exact absurd rfl h8
    · --f
      refine r_bipush dX5_number_11 (v := -3) (by decide +kernel) ?_
      refine r_iret rfl dX5_number_13 ?_
      exact ⟨rfl, h, FE.rf⟩
  · rw [e] at hdg
    have hi := dgt_lt e
    have e9 := h.2.1
    have hl := h.l197 hi
    have es := h.sgn hi
    refine r_aload_n dX5_number_0 0 rfl ?_
    refine r_bipush dX5_number_1 (v := 48) (by decide +kernel) ?_
    refine r_bipush dX5_number_3 (v := 57) (by decide +kernel) ?_
    refine r_callViF (As := [_, _]) c_X5_sees (by first | assumption | rfl) l_X5_134 rfl rfl rfl (Nat.le_of_ble_eq_true rfl) dX5_number_5 hdg ?_
    refine r_if_ne dX5_number_8 (tgt := 14) (by decide) (fun h8 => ?_) (fun h8 => ?_)
    · --t
      refine r_aload_n dX5_number_14 0 rfl ?_
      refine r_getR (b := 197) (by first | assumption | rfl) f_X5_29 rfl rfl dX5_number_15 rfl ?_
      refine r_aload_n dX5_number_18 0 rfl ?_
      refine r_getI (by first | assumption | rfl) f_X5_131 rfl rfl dX5_number_19 ?_
      refine r_iald (j := i) (by first | assumption | rfl) (by first | assumption | rfl) (by first | assumption | decide) dX5_number_22 ?_
      refine r_bipush dX5_number_23 (v := 48) (by decide +kernel) ?_
      refine r_isub dX5_number_25 ?_
      refine r_istore_n (lo2 := [(0, _), (1, _)]) dX5_number_26 rfl (Nat.le_of_ble_eq_true rfl) [1, 0] rfl ?_
      refine r_aload_n dX5_number_27 0 rfl ?_
      refine r_dup dX5_number_28 rfl ?_
      refine r_getI (by first | assumption | rfl) f_X5_131 rfl rfl dX5_number_29 ?_
      refine r_iconst dX5_number_32 (v := 1) rfl ?_
      refine r_iadd dX5_number_33 ?_
      refine r_putI (by first | assumption | rfl) f_X5_131 rfl rfl rfl rfl dX5_number_34 ?_
      rw [es]
      have h1 := h.1.at (m := i + 1) (x := S 190 9 + 1) (by rw [e9, nI_1]) (by omega)
      have f1 : FE S (up1 S 190 (upd (S 190) 9 (S 190 9 + 1))) := FE.rf.up
      revert h1 f1
      generalize up1 S 190 (upd (S 190) 9 (S 190 9 + 1)) = w
      intro h1 f1
      have hdg2 := @t_X5_seesD G d w P len (i + 1) h1
      have e92 := h1.2.1
      by_cases e3 : 0 < sg P len i - 48
      · cases e4 : dgt (sg P len (i + 1))
        · have er : rN P len i = (true, i + 1, sg P len i - 48) := by unfold rN; rw [e, if_pos rfl, e4, if_neg (fun z => absurd (show false = true from z.2) (by decide))]
          rw [er]
          rw [e4] at hdg2
          refine r_iload_n dX5_number_37 1 rfl ?_
          refine r_if_le dX5_number_38 (tgt := 80) (by decide) (fun h38 => absurd e3 (by first | exact Int32.not_lt.mpr h38 | exact h38)) (fun h38 => ?_)
          refine r_aload_n dX5_number_41 0 rfl ?_
          refine r_bipush dX5_number_42 (v := 48) (by decide +kernel) ?_
          refine r_bipush dX5_number_44 (v := 57) (by decide +kernel) ?_
          refine r_callViF (As := [_, _]) c_X5_sees (by first | assumption | rfl) l_X5_134 rfl rfl rfl (Nat.le_of_ble_eq_true rfl) dX5_number_46 hdg2 ?_
          refine r_if_eq dX5_number_49 (tgt := 80) (by decide) (fun h49 => ?_) (fun h49 => absurd rfl h49)
          refine r_iload_n dX5_number_80 1 rfl ?_
          refine r_iret rfl dX5_number_81 ?_
          exact ⟨rfl, h1, f1⟩
        · have er : rN P len i = (true, i + 2, (sg P len i - 48) * 10 + sg P len (i + 1) - 48) := by unfold rN; rw [e, if_pos rfl, e4, if_pos ⟨e3, rfl⟩]
          rw [er]
          rw [e4] at hdg2
          have hi2 := dgt_lt e4
          have hl2 := h1.l197 hi2
          have es2 := h1.sgn hi2
          refine r_iload_n dX5_number_37 1 rfl ?_
          refine r_if_le dX5_number_38 (tgt := 80) (by decide) (fun h38 => absurd e3 (by first | exact Int32.not_lt.mpr h38 | exact h38)) (fun h38 => ?_)
          refine r_aload_n dX5_number_41 0 rfl ?_
          refine r_bipush dX5_number_42 (v := 48) (by decide +kernel) ?_
          refine r_bipush dX5_number_44 (v := 57) (by decide +kernel) ?_
          refine r_callViF (As := [_, _]) c_X5_sees (by first | assumption | rfl) l_X5_134 rfl rfl rfl (Nat.le_of_ble_eq_true rfl) dX5_number_46 hdg2 ?_
          refine r_if_eq dX5_number_49 (tgt := 80) (by decide) (fun h49 => absurd h49 (by decide)) (fun h49 => ?_)
          refine r_bipush dX5_number_52 (v := 10) (by decide +kernel) ?_
          refine r_iload_n dX5_number_54 1 rfl ?_
          refine r_imul dX5_number_55 ?_
          refine r_aload_n dX5_number_56 0 rfl ?_
          refine r_getR (b := 197) (by first | assumption | rfl) f_X5_29 rfl rfl dX5_number_57 rfl ?_
          refine r_aload_n dX5_number_60 0 rfl ?_
          refine r_getI (by first | assumption | rfl) f_X5_131 rfl rfl dX5_number_61 ?_
          refine r_iald (j := i + 1) (by first | assumption | rfl) (by first | assumption | rfl) hl2 dX5_number_64 ?_
          refine r_iadd dX5_number_65 ?_
          refine r_bipush dX5_number_66 (v := 48) (by decide +kernel) ?_
          refine r_isub dX5_number_68 ?_
          refine r_istore_n (lo2 := [(0, _), (1, _)]) dX5_number_69 rfl (Nat.le_of_ble_eq_true rfl) [1, 0] rfl ?_
          refine r_aload_n dX5_number_70 0 rfl ?_
          refine r_dup dX5_number_71 rfl ?_
          refine r_getI (by first | assumption | rfl) f_X5_131 rfl rfl dX5_number_72 ?_
          refine r_iconst dX5_number_75 (v := 1) rfl ?_
          refine r_iadd dX5_number_76 ?_
          refine r_putI (by first | assumption | rfl) f_X5_131 rfl rfl rfl rfl dX5_number_77 ?_
          refine r_iload_n dX5_number_80 1 rfl ?_
          refine r_iret rfl dX5_number_81 ?_
          rw [es2, Int32.mul_comm]
          exact ⟨rfl, h1.1.at (m := i + 2) (by rw [e92, nI_1]) (by omega), f1.up⟩
      · have er : rN P len i = (true, i + 1, sg P len i - 48) := by unfold rN; rw [e, if_pos rfl, if_neg (fun z => e3 z.1)]
        rw [er]
        refine r_iload_n dX5_number_37 1 rfl ?_
        refine r_if_le dX5_number_38 (tgt := 80) (by decide) (fun h38 => ?_) (fun h38 => absurd (by first | exact Int32.not_le.mp h38 | exact h38) e3)
        refine r_iload_n dX5_number_80 1 rfl ?_
        refine r_iret rfl dX5_number_81 ?_
        exact ⟨rfl, h1, f1⟩
    · --f
      exact absurd h8 (by decide)
theorem t_X5_behind {c : Int32} (hc : c ≠ 0) (h : PE S P len i) : Call G (d + 3) M_X5_behind [rv G 190, .int c] S (fun v u => v = some (if sg P len i = c then (if (rN P len (i + 1)).1 = true then (rN P len (i + 1)).2.2 else -3) else -3) ∧ PE u P len (if sg P len i = c then (rN P len (i + 1)).2.1 else i) ∧ FE S u) := by
  refine call_of (lo := [(0, rv G 190), (1, .int c)]) (by decide +kernel) (Nat.le_of_ble_eq_true rfl) rfl ?_
  have e9 := h.2.1
  by_cases e : sg P len i = c
  · rw [if_pos e, if_pos e]
    have hi : i < len := sg_lt (by rw [e]; exact hc)
    have h1 := h.1.at (m := i + 1) (x := S 190 9 + 1) (by rw [e9, nI_1]) (by omega)
    refine r_aload_n dX5_behind_0 0 rfl ?_
    refine r_iload_n dX5_behind_1 1 rfl ?_
    refine r_iload_n dX5_behind_2 1 rfl ?_
    refine r_callViF (As := [_, _]) c_X5_sees (by first | assumption | rfl) l_X5_134 rfl rfl rfl (Nat.le_of_ble_eq_true rfl) dX5_behind_3 (t_X5_seesC hc h) ?_
    refine r_if_ne dX5_behind_6 (tgt := 12) (by decide) (fun h6 => ?_) (fun h6 => ?_)
    · --t
      refine r_aload_n dX5_behind_12 0 rfl ?_
      refine r_dup dX5_behind_13 rfl ?_
      refine r_getI (by first | assumption | rfl) f_X5_131 rfl rfl dX5_behind_14 ?_
      refine r_iconst dX5_behind_17 (v := 1) rfl ?_
      refine r_iadd dX5_behind_18 ?_
      refine r_putI (by first | assumption | rfl) f_X5_131 rfl rfl rfl rfl dX5_behind_19 ?_
      refine r_aload_n dX5_behind_22 0 rfl ?_
      refine r_callVi (As := []) c_X5_number (by first | assumption | rfl) l_X5_137 rfl rfl rfl (Nat.le_of_ble_eq_true rfl) dX5_behind_23 (t_X5_number h1) (fun r23 u23 q23 => ?_)
      obtain ⟨hr, g1, f1⟩ := q23
      cases hr
      refine r_iret rfl dX5_behind_26 ?_
      exact ⟨rfl, g1, FE.rf.up.tr f1⟩
    · --f
      rw [bI_0, decide_eq_false_iff_not] at h6
      exact absurd e h6
  · rw [if_neg e, if_neg e]
    refine r_aload_n dX5_behind_0 0 rfl ?_
    refine r_iload_n dX5_behind_1 1 rfl ?_
    refine r_iload_n dX5_behind_2 1 rfl ?_
    refine r_callViF (As := [_, _]) c_X5_sees (by first | assumption | rfl) l_X5_134 rfl rfl rfl (Nat.le_of_ble_eq_true rfl) dX5_behind_3 (t_X5_seesC hc h) ?_
    refine r_if_ne dX5_behind_6 (tgt := 12) (by decide) (fun h6 => ?_) (fun h6 => ?_)
    · --t
      rw [bI_n0, decide_eq_true_iff] at h6
      exact absurd h6 e
    · --f
      refine r_bipush dX5_behind_9 (v := -3) (by decide +kernel) ?_
      refine r_iret rfl dX5_behind_11 ?_
      exact ⟨rfl, h, FE.rf⟩
end MODP
