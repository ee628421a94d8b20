/-! the class's public methods: set -/
theorem le1_of {s : Int32} (h : s < 2) : s ≤ 1 := by
  rw [Int32.lt_iff_toInt_lt] at h
  rw [Int32.le_iff_toInt_le]
  have e1 : (1 : Int32).toInt = 1 := by decide
  have e2 : (2 : Int32).toInt = 2 := by decide
  omega
section PUB
variable {G : mG} {d : Nat} {S : mS} {N : mN} {n : Nat} {h : Nat → mN} {t k c s v x : Int32}
theorem SP.stn {S : mS} {N : mN} (hS : SP S 1 N) {i : Nat} (hi : i < 2) {y : Int32} : SP (up1 S 2 (upd (S 2) i y)) 1 (upd N.1 i y, N.2) := by
  refine ⟨?_, fun t ht => ?_⟩
  · rw [up1_s, up1_n (show 1 ≠ 2 by omega)]
    refine ⟨?_, ?_, hS.1.2.2.1.trans ?_, hS.1.2.2.2.1.trans ?_, hS.1.2.2.2.2.trans ?_⟩
    · show upd (S 2) i y 0 = upd N.1 i y 0
      have e := hS.1.1
      simp only [upd]; split
      · rfl
      · exact e
    · show upd (S 2) i y 1 = upd N.1 i y 1
      have e := hS.1.2.1
      simp only [upd]; split
      · rfl
      · exact e
    · simp only [upd]; rw [if_neg (by omega)]
    · simp only [upd]; rw [if_neg (by omega)]
    · simp only [upd]; rw [if_neg (by omega)]
  · have e : cnt (upd N.1 i y, N.2) = cnt N := cnt_g (by simp only [upd]; rw [if_neg (by omega)])
    rw [e] at ht
    exact (hS.2 t ht).off (fun x hx => up1_n (by omega))
theorem t_X4_set (hW : WN N) (hS : SP S 1 N) (hH : HP S n h) : Call G (d + 7) M_X4_set [rv G 0, .int s, .int v] S (fun r u => r = some (setO N s v).1 ∧ SP u 1 (setO N s v).2 ∧ HP u (rcN (setO N s v).1 n) (rcH (setO N s v).1 n h N) ∧ FC S u) := by
  refine call_of (lo := [(0, rv G 0), (1, .int s), (2, .int v)]) (by decide +kernel) (Nat.le_of_ble_eq_true rfl) rfl ?_
  unfold setO
  by_cases hc : (s = 0 ∧ 0 ≤ v ∧ v ≤ 99) ∨ (s = 1 ∧ 1 ≤ v ∧ v ≤ 99)
  · rw [if_pos hc]
    obtain ⟨i, hi, rfl, ei⟩ : ∃ i, i < 2 ∧ s = nI i ∧ s.toNatClampNeg = i := by
      rcases hc with ⟨rfl, -⟩ | ⟨rfl, -⟩
      · exact ⟨0, by omega, rfl, rfl⟩
      · exact ⟨1, by omega, rfl, rfl⟩
    have hl : i < ln 2 := hi
    have hs0 : ¬ nI i < 0 := nI_pos (by omega)
    have hs2 : nI i < 2 := nI_lt (b := 2) hi (by decide)
    rw [ei]
    have hv99 : v ≤ 99 := by rcases hc with ⟨-, -, z⟩ | ⟨-, -, z⟩ <;> exact z
    have hW2 : WN (upd N.1 i v, N.2) := hW.glob (by simp only [upd]; rw [if_neg (by omega)])
    have hlow : (nI i = 1 → 1 ≤ v) ∧ (¬ nI i = 1 → 0 ≤ v) := by
      rcases hc with ⟨z, y, -⟩ | ⟨z, y, -⟩
      · rw [z]; exact ⟨fun y => absurd y (by decide), fun _ => y⟩
      · exact ⟨fun _ => y, fun y => absurd z y⟩
    refine r_iload_n dX4_set_0 1 rfl ?_
    refine r_if_lt dX4_set_1 (tgt := 9) (by decide) (fun h1 => ?_) (fun h1 => ?_)
    · --t
      exact absurd h1 hs0
    · --f
      refine r_iload_n dX4_set_4 1 rfl ?_
      refine r_iconst dX4_set_5 (v := 2) rfl ?_
      refine r_icmp_lt dX4_set_6 (tgt := 12) (by decide) (fun h6 => ?_) (fun h6 => ?_)
      · --t
        refine r_iload_n dX4_set_12 1 rfl ?_
        refine r_iconst dX4_set_13 (v := 1) rfl ?_
        refine r_icmp_ne dX4_set_14 (tgt := 21) (by decide) (fun h14 => ?_) (fun h14 => ?_)
        · --t
          refine r_iconst dX4_set_21 (v := 0) rfl ?_
          refine r_istore_n (lo2 := [(0, _), (1, _), (2, _), (3, _)]) dX4_set_22 rfl (Nat.le_of_ble_eq_true rfl) [1, 2, 3, 0] rfl ?_
          refine r_iload_n dX4_set_23 2 rfl ?_
          refine r_iload_n dX4_set_24 3 rfl ?_
          refine r_icmp_lt dX4_set_25 (tgt := 34) (by decide) (fun h25 => ?_) (fun h25 => ?_)
          · --t
            exact (by first | exact absurd (hlow.1 h14) (Int32.not_le.mpr h25) | exact absurd (hlow.2 h14) (Int32.not_le.mpr h25))
          · --f
            refine r_iload_n dX4_set_28 2 rfl ?_
            refine r_bipush dX4_set_29 (v := 99) (by decide +kernel) ?_
            refine r_icmp_le dX4_set_31 (tgt := 37) (by decide) (fun h31 => ?_) (fun h31 => ?_)
            · --t
              refine r_aload_n dX4_set_37 0 rfl ?_
              refine r_getR (b := 19) (by first | assumption | rfl) f_X4_19 rfl rfl dX4_set_38 rfl ?_
              refine r_aload_n dX4_set_41 0 rfl ?_
              refine r_getR (b := 1) (by first | assumption | rfl) f_X4_10 rfl rfl dX4_set_42 rfl ?_
              refine r_callVv (As := [_]) c_X0_note (by first | assumption | rfl) l_X4_45 rfl rfl rfl (Nat.le_of_ble_eq_true rfl) dX4_set_45 (t_X0_note hH hW hS) (fun u45 q45 => ?_)
              obtain ⟨-, g1, f1⟩ := q45
              have hS1 := hS.fh hW.cn.2 f1
              refine r_aload_n dX4_set_48 0 rfl ?_
              refine r_getR (b := 1) (by first | assumption | rfl) f_X4_10 rfl rfl dX4_set_49 rfl ?_
              refine r_getR (b := 2) (by first | assumption | rfl) f_X4_49 rfl rfl dX4_set_52 rfl ?_
              refine r_iload_n dX4_set_55 1 rfl ?_
              refine r_iald (j := i) (by first | assumption | rfl) (by first | assumption | rfl) (by first | assumption | decide) dX4_set_56 ?_
              refine r_istore (lo2 := [(0, _), (1, _), (2, _), (3, _), (4, _)]) dX4_set_57 (Nat.le_of_ble_eq_true rfl) [1, 2, 3, 4, 0] rfl ?_
              refine r_aload_n dX4_set_59 0 rfl ?_
              refine r_getR (b := 1) (by first | assumption | rfl) f_X4_10 rfl rfl dX4_set_60 rfl ?_
              refine r_getR (b := 2) (by first | assumption | rfl) f_X4_49 rfl rfl dX4_set_63 rfl ?_
              refine r_iload_n dX4_set_66 1 rfl ?_
              refine r_iload_n dX4_set_67 2 rfl ?_
              refine r_iast (j := i) (by first | assumption | rfl) (by first | assumption | rfl) (by first | assumption | decide) dX4_set_68 ?_
              refine r_aload_n dX4_set_69 0 rfl ?_
              refine r_iload dX4_set_70 4 rfl ?_
              refine r_callVi (As := [_]) c_X4_recorded (by first | assumption | rfl) l_X4_53 rfl rfl rfl (Nat.le_of_ble_eq_true rfl) dX4_set_72 (t_X4_recorded (N := N) (g1.off (fun c c1 c2 => up1_n (by omega)))) (fun r72 u72 q72 => ?_)
              obtain ⟨e3, g3, f3⟩ := q72
              cases e3
              refine r_iret rfl dX4_set_75 ?_
              have e1 : u45 2 i = N.1 i := by
                have z0 : u45 2 0 = N.1 0 := hS1.1.1
                have z1 : u45 2 1 = N.1 1 := hS1.1.2.1
                rcases (by omega : i = 0 ∨ i = 1) with rfl | rfl
                · exact z0
                · exact z1
              rw [e1] at g3 ⊢
              exact ⟨rfl, (hS1.stn hi).fh hW2.cn.2 f3, g3, fun b hb => (f3 b (by omega)).trans ((up1_n (by omega)).trans (f1 b (by omega)))⟩
            · --f
              exact absurd hv99 h31
        · --f
          refine r_iconst dX4_set_17 (v := 1) rfl ?_
          refine r_goto dX4_set_18 (tgt := 22) (by decide) ?_
          refine r_istore_n (lo2 := [(0, _), (1, _), (2, _), (3, _)]) dX4_set_22 rfl (Nat.le_of_ble_eq_true rfl) [1, 2, 3, 0] rfl ?_
          refine r_iload_n dX4_set_23 2 rfl ?_
          refine r_iload_n dX4_set_24 3 rfl ?_
          refine r_icmp_lt dX4_set_25 (tgt := 34) (by decide) (fun h25 => ?_) (fun h25 => ?_)
          · --t
            exact (by first | exact absurd (hlow.1 h14) (Int32.not_le.mpr h25) | exact absurd (hlow.2 h14) (Int32.not_le.mpr h25))
          · --f
            refine r_iload_n dX4_set_28 2 rfl ?_
            refine r_bipush dX4_set_29 (v := 99) (by decide +kernel) ?_
            refine r_icmp_le dX4_set_31 (tgt := 37) (by decide) (fun h31 => ?_) (fun h31 => ?_)
            · --t
              refine r_aload_n dX4_set_37 0 rfl ?_
              refine r_getR (b := 19) (by first | assumption | rfl) f_X4_19 rfl rfl dX4_set_38 rfl ?_
              refine r_aload_n dX4_set_41 0 rfl ?_
              refine r_getR (b := 1) (by first | assumption | rfl) f_X4_10 rfl rfl dX4_set_42 rfl ?_
              refine r_callVv (As := [_]) c_X0_note (by first | assumption | rfl) l_X4_45 rfl rfl rfl (Nat.le_of_ble_eq_true rfl) dX4_set_45 (t_X0_note hH hW hS) (fun u45 q45 => ?_)
              obtain ⟨-, g1, f1⟩ := q45
              have hS1 := hS.fh hW.cn.2 f1
              refine r_aload_n dX4_set_48 0 rfl ?_
              refine r_getR (b := 1) (by first | assumption | rfl) f_X4_10 rfl rfl dX4_set_49 rfl ?_
              refine r_getR (b := 2) (by first | assumption | rfl) f_X4_49 rfl rfl dX4_set_52 rfl ?_
              refine r_iload_n dX4_set_55 1 rfl ?_
              refine r_iald (j := i) (by first | assumption | rfl) (by first | assumption | rfl) (by first | assumption | decide) dX4_set_56 ?_
              refine r_istore (lo2 := [(0, _), (1, _), (2, _), (3, _), (4, _)]) dX4_set_57 (Nat.le_of_ble_eq_true rfl) [1, 2, 3, 4, 0] rfl ?_
              refine r_aload_n dX4_set_59 0 rfl ?_
              refine r_getR (b := 1) (by first | assumption | rfl) f_X4_10 rfl rfl dX4_set_60 rfl ?_
              refine r_getR (b := 2) (by first | assumption | rfl) f_X4_49 rfl rfl dX4_set_63 rfl ?_
              refine r_iload_n dX4_set_66 1 rfl ?_
              refine r_iload_n dX4_set_67 2 rfl ?_
              refine r_iast (j := i) (by first | assumption | rfl) (by first | assumption | rfl) (by first | assumption | decide) dX4_set_68 ?_
              refine r_aload_n dX4_set_69 0 rfl ?_
              refine r_iload dX4_set_70 4 rfl ?_
              refine r_callVi (As := [_]) c_X4_recorded (by first | assumption | rfl) l_X4_53 rfl rfl rfl (Nat.le_of_ble_eq_true rfl) dX4_set_72 (t_X4_recorded (N := N) (g1.off (fun c c1 c2 => up1_n (by omega)))) (fun r72 u72 q72 => ?_)
              obtain ⟨e3, g3, f3⟩ := q72
              cases e3
              refine r_iret rfl dX4_set_75 ?_
              have e1 : u45 2 i = N.1 i := by
                have z0 : u45 2 0 = N.1 0 := hS1.1.1
                have z1 : u45 2 1 = N.1 1 := hS1.1.2.1
                rcases (by omega : i = 0 ∨ i = 1) with rfl | rfl
                · exact z0
                · exact z1
              rw [e1] at g3 ⊢
              exact ⟨rfl, (hS1.stn hi).fh hW2.cn.2 f3, g3, fun b hb => (f3 b (by omega)).trans ((up1_n (by omega)).trans (f1 b (by omega)))⟩
            · --f
              exact absurd hv99 h31
      · --f
        exact absurd hs2 h6
  · rw [if_neg hc]
    have big : s < 0 ∨ ¬ s < 2 ∨ (s = 1 ∧ (v < 1 ∨ ¬ v ≤ 99)) ∨ (¬ s = 1 ∧ (v < 0 ∨ ¬ v ≤ 99)) := by
      by_cases a1 : s < 0
      · exact Or.inl a1
      · by_cases a2 : s < 2
        · right; right
          by_cases a3 : s = 1
          · left
            refine ⟨a3, ?_⟩
            by_cases a4 : v < 1
            · exact Or.inl a4
            · exact Or.inr (fun z => hc (Or.inr ⟨a3, Int32.not_lt.mp a4, z⟩))
          · right
            refine ⟨a3, ?_⟩
            have a0 : s = 0 := by
              obtain ⟨j, hj, rfl⟩ := nI_of a1
              rw [show (2 : Int32) = nI 2 from rfl, nI_ltI hj (by omega)] at a2
              rw [show (1 : Int32) = nI 1 from rfl, nI_eq hj (by omega)] at a3
              rw [show j = 0 by omega]; rfl
            by_cases a4 : v < 0
            · exact Or.inl a4
            · exact Or.inr (fun z => hc (Or.inl ⟨a0, Int32.not_lt.mp a4, z⟩))
        · exact Or.inr (Or.inl a2)
    refine r_iload_n dX4_set_0 1 rfl ?_
    refine r_if_lt dX4_set_1 (tgt := 9) (by decide) (fun h1 => ?_) (fun h1 => ?_)
    · --t
      refine r_bipush dX4_set_9 (v := -2) (by decide +kernel) ?_
      refine r_iret rfl dX4_set_11 ?_
      exact ⟨rfl, hS, hH, fun _ _ => rfl⟩
    · --f
      refine r_iload_n dX4_set_4 1 rfl ?_
      refine r_iconst dX4_set_5 (v := 2) rfl ?_
      refine r_icmp_lt dX4_set_6 (tgt := 12) (by decide) (fun h6 => ?_) (fun h6 => ?_)
      · --t
        refine r_iload_n dX4_set_12 1 rfl ?_
        refine r_iconst dX4_set_13 (v := 1) rfl ?_
        refine r_icmp_ne dX4_set_14 (tgt := 21) (by decide) (fun h14 => ?_) (fun h14 => ?_)
        · --t
          refine r_iconst dX4_set_21 (v := 0) rfl ?_
          refine r_istore_n (lo2 := [(0, _), (1, _), (2, _), (3, _)]) dX4_set_22 rfl (Nat.le_of_ble_eq_true rfl) [1, 2, 3, 0] rfl ?_
          refine r_iload_n dX4_set_23 2 rfl ?_
          refine r_iload_n dX4_set_24 3 rfl ?_
          refine r_icmp_lt dX4_set_25 (tgt := 34) (by decide) (fun h25 => ?_) (fun h25 => ?_)
          · --t
            refine r_bipush dX4_set_34 (v := -2) (by decide +kernel) ?_
            refine r_iret rfl dX4_set_36 ?_
            exact ⟨rfl, hS, hH, fun _ _ => rfl⟩
          · --f
            refine r_iload_n dX4_set_28 2 rfl ?_
            refine r_bipush dX4_set_29 (v := 99) (by decide +kernel) ?_
            refine r_icmp_le dX4_set_31 (tgt := 37) (by decide) (fun h31 => ?_) (fun h31 => ?_)
            · --t
              rcases big with z | z | ⟨z, y⟩ | ⟨z, y⟩
              · exact absurd z h1
              · exact absurd h6 z
              · first | exact absurd z h14 | exact (y.elim h25 (fun w => w h31)).elim
              · first | exact absurd h14 z | exact (y.elim h25 (fun w => w h31)).elim
            · --f
              refine r_bipush dX4_set_34 (v := -2) (by decide +kernel) ?_
              refine r_iret rfl dX4_set_36 ?_
              exact ⟨rfl, hS, hH, fun _ _ => rfl⟩
        · --f
          refine r_iconst dX4_set_17 (v := 1) rfl ?_
          refine r_goto dX4_set_18 (tgt := 22) (by decide) ?_
          refine r_istore_n (lo2 := [(0, _), (1, _), (2, _), (3, _)]) dX4_set_22 rfl (Nat.le_of_ble_eq_true rfl) [1, 2, 3, 0] rfl ?_
          refine r_iload_n dX4_set_23 2 rfl ?_
          refine r_iload_n dX4_set_24 3 rfl ?_
          refine r_icmp_lt dX4_set_25 (tgt := 34) (by decide) (fun h25 => ?_) (fun h25 => ?_)
          · --t
            refine r_bipush dX4_set_34 (v := -2) (by decide +kernel) ?_
            refine r_iret rfl dX4_set_36 ?_
            exact ⟨rfl, hS, hH, fun _ _ => rfl⟩
          · --f
            refine r_iload_n dX4_set_28 2 rfl ?_
            refine r_bipush dX4_set_29 (v := 99) (by decide +kernel) ?_
            refine r_icmp_le dX4_set_31 (tgt := 37) (by decide) (fun h31 => ?_) (fun h31 => ?_)
            · --t
              rcases big with z | z | ⟨z, y⟩ | ⟨z, y⟩
              · exact absurd z h1
              · exact absurd h6 z
              · first | exact absurd z h14 | exact (y.elim h25 (fun w => w h31)).elim
              · first | exact absurd h14 z | exact (y.elim h25 (fun w => w h31)).elim
            · --f
              refine r_bipush dX4_set_34 (v := -2) (by decide +kernel) ?_
              refine r_iret rfl dX4_set_36 ?_
              exact ⟨rfl, hS, hH, fun _ _ => rfl⟩
      · --f
        refine r_bipush dX4_set_9 (v := -2) (by decide +kernel) ?_
        refine r_iret rfl dX4_set_11 ?_
        exact ⟨rfl, hS, hH, fun _ _ => rfl⟩
end PUB
