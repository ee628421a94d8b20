/-! the pad: an order, as the class reads it -/
section PADO
variable {G : mG} {d : Nat} {S : mS} {P : Nat → Int32} {len i : Nat}
theorem t_X1_readOrder (h : PD S P len i) : Call G (d + 4) M_X1_readOrder [rv G 185] S (fun v u => v = some (bI (rO P len i).1) ∧ PD u P len (rO P len i).2.1 ∧ FP S u ∧ ((rO P len i).1 = true → u 185 3 = (rO P len i).2.2.1 ∧ (¬ ((rO P len i).2.2.1 = 110 ∨ (rO P len i).2.2.1 = 116) → u 185 4 = (rO P len i).2.2.2.1) ∧ u 185 5 = (rO P len i).2.2.2.2.1 ∧ ((rO P len i).2.2.1 = 99 → u 185 6 = (rO P len i).2.2.2.2.2))) := by
  refine call_of (lo := [(0, rv G 185)]) (by decide +kernel) (Nat.le_of_ble_eq_true rfl) rfl ?_
  refine r_aload_n dX1_readOrder_0 0 rfl ?_
  refine r_aload_n dX1_readOrder_1 0 rfl ?_
  refine r_callViF (As := []) c_X1_sign (by first | assumption | rfl) l_X1_32 rfl rfl rfl (Nat.le_of_ble_eq_true rfl) dX1_readOrder_2 (t_X1_sign h) ?_
  refine r_putT (ty := .char) (by first | assumption | rfl) f_X1_36 rfl rfl rfl rfl (chr_nar (sg_chr h i)).1 (chr_nar (sg_chr h i)).2 dX1_readOrder_5 ?_
  refine at_gen (fun w hw => ?_)
  have g1 : PD w P len i := by rw [hw]; exact h.fld (by decide) (by decide)
  have gF : FP S w := by rw [hw]; exact FP.rf.up
  have gk : w 185 3 = sg P len i := by rw [hw]; simp only [up1_s, upd, reduceIte]
  clear hw
  refine r_aload_n dX1_readOrder_8 0 rfl ?_
  refine r_getI (by first | assumption | rfl) f_X1_36 rfl rfl dX1_readOrder_9 ?_
  rw [gk]
  by_cases hk12_0 : sg P len i = 99
  · --key 99
    rw [hk12_0]
    refine r_lookup (off := 67) (tgt := 79) dX1_readOrder_12 (by decide) (by decide) (by decide) ?_
    refine r_aload_n dX1_readOrder_79 0 rfl ?_
    refine r_dup dX1_readOrder_80 rfl ?_
    refine r_getI (by first | assumption | rfl) f_X1_21 rfl rfl dX1_readOrder_81 ?_
    refine r_iconst dX1_readOrder_84 (v := 1) rfl ?_
    refine r_iadd dX1_readOrder_85 ?_
    refine r_putI (by first | assumption | rfl) f_X1_21 rfl rfl rfl rfl dX1_readOrder_86 ?_
    refine at_gen (fun w2 hw2 => ?_)
    have g2 : PD w2 P len (i + 1) := by rw [hw2]; exact g1.at (m := i + 1) (by rw [g1.1.2.2.1, nI_1]) (sg_lt (P := P) (by rw [hk12_0]; decide))
    have g3 : FP S w2 := by rw [hw2]; exact gF.up
    have g4 : w2 185 3 = 99 := by rw [hw2]; simp only [up1_s, upd, Nat.reduceEqDiff, reduceIte]; rw [gk, hk12_0]
    clear hw2
    have hrt := @t_X1_readTroop G (d + 1) w2 P len (i + 1) g2
    cases e1 : dgt (sg P len (i + 1))
    · rw [e1, if_neg (by decide)] at hrt
      have er : rO P len i = (false, i + 1, 0, 0, 0, 0) := by unfold rO; rw [if_neg (show ¬ (sg P len i = 110 ∨ sg P len i = 116) by rw [hk12_0]; decide), if_pos hk12_0, (show rB P len (i + 1) 46 = (false, i + 1, 0, 0) by unfold rB; rw [e1]; rfl), if_neg (fun z => absurd (show false = true from z) (by decide))]
      rw [er]
      refine r_aload_n dX1_readOrder_89 0 rfl ?_
      refine r_callVi (As := []) c_X1_readTroop (by first | assumption | rfl) l_X1_43 rfl rfl rfl (Nat.le_of_ble_eq_true rfl) dX1_readOrder_90 hrt (fun r90 u90 q90 => ?_)
      obtain ⟨hr1, p1, f1, k1, v1⟩ := q90
      cases hr1
      refine r_if_eq dX1_readOrder_93 (tgt := 123) (by decide) (fun h93 => ?_) (fun h93 => ?_)
      · --t
        refine r_iconst dX1_readOrder_123 (v := 0) rfl ?_
        refine r_zret rfl (by first | rfl | decide) dX1_readOrder_124 ?_
        exact ⟨rfl, p1, g3.tr f1, fun z => absurd (show false = true from z) (by decide)⟩
      · --f
        exact absurd rfl h93
    · rw [e1, if_pos rfl] at hrt
      by_cases e2 : sg P len (i + 1 + 1) = 46
      · have hrs : ∀ u, PD u P len (i + 1 + 1) → _ := fun u hu => @t_X1_readSign G (d + 2) u P len (i + 1 + 1) 46 (by decide) hu
        rw [if_pos e2, decide_eq_true e2] at hrs
        have hrn : ∀ u, PD u P len (i + 1 + 2) → _ := fun u hu => @t_X1_readNumber G (d + 1) u P len (i + 1 + 2) hu
        cases e3 : (rN P len (i + 1 + 2)).1
        · rw [e3] at hrn
          have er : rO P len i = (false, (rN P len (i + 1 + 2)).2.1, 0, 0, 0, 0) := by unfold rO; rw [if_neg (show ¬ (sg P len i = 110 ∨ sg P len i = 116) by rw [hk12_0]; decide), if_pos hk12_0, (show rB P len (i + 1) 46 = ((rN P len (i + 1 + 2)).1, (rN P len (i + 1 + 2)).2.1, sg P len (i + 1) - 48, (rN P len (i + 1 + 2)).2.2) by unfold rB; rw [e1, if_pos rfl, if_pos e2]), e3, if_neg (by decide)]
          rw [er]
          refine r_aload_n dX1_readOrder_89 0 rfl ?_
          refine r_callVi (As := []) c_X1_readTroop (by first | assumption | rfl) l_X1_43 rfl rfl rfl (Nat.le_of_ble_eq_true rfl) dX1_readOrder_90 hrt (fun r90 u90 q90 => ?_)
          obtain ⟨hr1, p1, f1, k1, v1⟩ := q90
          cases hr1
          refine r_if_eq dX1_readOrder_93 (tgt := 123) (by decide) (fun h93 => ?_) (fun h93 => ?_)
          · --t
            exact absurd h93 (by decide)
          · --f
            refine r_aload_n dX1_readOrder_96 0 rfl ?_
            refine r_bipush dX1_readOrder_97 (v := 46) (by decide +kernel) ?_
            refine r_callVi (As := [_]) c_X1_readSign (by first | assumption | rfl) l_X1_28 rfl rfl rfl (Nat.le_of_ble_eq_true rfl) dX1_readOrder_99 (hrs _ p1) (fun r99 u99 q99 => ?_)
            obtain ⟨hr2, p2, f2, k2⟩ := q99
            cases hr2
            refine r_if_eq dX1_readOrder_102 (tgt := 123) (by decide) (fun h102 => ?_) (fun h102 => ?_)
            · --t
              exact absurd h102 (by decide)
            · --f
              refine r_aload_n dX1_readOrder_105 0 rfl ?_
              refine r_callVi (As := []) c_X1_readNumber (by first | assumption | rfl) l_X1_40 rfl rfl rfl (Nat.le_of_ble_eq_true rfl) dX1_readOrder_106 (hrn _ p2) (fun r106 u106 q106 => ?_)
              obtain ⟨hr3, p3, f3, k3, v3⟩ := q106
              cases hr3
              refine r_if_eq dX1_readOrder_109 (tgt := 123) (by decide) (fun h109 => ?_) (fun h109 => ?_)
              · --t
                refine r_iconst dX1_readOrder_123 (v := 0) rfl ?_
                refine r_zret rfl (by first | rfl | decide) dX1_readOrder_124 ?_
                exact ⟨rfl, p3, ((g3.tr f1).tr f2).tr f3, fun z => absurd (show false = true from z) (by decide)⟩
              · --f
                exact absurd rfl h109
        · rw [e3] at hrn
          have hrc : ∀ u, PD u P len (rN P len (i + 1 + 2)).2.1 → _ := fun u hu => @t_X1_readColour G (d + 2) u P len (rN P len (i + 1 + 2)).2.1 hu
          by_cases e4 : sg P len (rN P len (i + 1 + 2)).2.1 = 114 ∨ sg P len (rN P len (i + 1 + 2)).2.1 = 98
          · rw [if_pos e4, decide_eq_true e4] at hrc
            have er : rO P len i = (true, (rN P len (i + 1 + 2)).2.1 + 1, 99, sg P len (i + 1) - 48, (rN P len (i + 1 + 2)).2.2, if sg P len (rN P len (i + 1 + 2)).2.1 = 98 then 1 else 0) := by unfold rO; rw [if_neg (show ¬ (sg P len i = 110 ∨ sg P len i = 116) by rw [hk12_0]; decide), if_pos hk12_0, (show rB P len (i + 1) 46 = ((rN P len (i + 1 + 2)).1, (rN P len (i + 1 + 2)).2.1, sg P len (i + 1) - 48, (rN P len (i + 1 + 2)).2.2) by unfold rB; rw [e1, if_pos rfl, if_pos e2]), e3, if_pos rfl, if_pos e4]
            rw [er]
            refine r_aload_n dX1_readOrder_89 0 rfl ?_
            refine r_callVi (As := []) c_X1_readTroop (by first | assumption | rfl) l_X1_43 rfl rfl rfl (Nat.le_of_ble_eq_true rfl) dX1_readOrder_90 hrt (fun r90 u90 q90 => ?_)
            obtain ⟨hr1, p1, f1, k1, v1⟩ := q90
            cases hr1
            refine r_if_eq dX1_readOrder_93 (tgt := 123) (by decide) (fun h93 => ?_) (fun h93 => ?_)
            · --t
              exact absurd h93 (by decide)
            · --f
              refine r_aload_n dX1_readOrder_96 0 rfl ?_
              refine r_bipush dX1_readOrder_97 (v := 46) (by decide +kernel) ?_
              refine r_callVi (As := [_]) c_X1_readSign (by first | assumption | rfl) l_X1_28 rfl rfl rfl (Nat.le_of_ble_eq_true rfl) dX1_readOrder_99 (hrs _ p1) (fun r99 u99 q99 => ?_)
              obtain ⟨hr2, p2, f2, k2⟩ := q99
              cases hr2
              refine r_if_eq dX1_readOrder_102 (tgt := 123) (by decide) (fun h102 => ?_) (fun h102 => ?_)
              · --t
                exact absurd h102 (by decide)
              · --f
                refine r_aload_n dX1_readOrder_105 0 rfl ?_
                refine r_callVi (As := []) c_X1_readNumber (by first | assumption | rfl) l_X1_40 rfl rfl rfl (Nat.le_of_ble_eq_true rfl) dX1_readOrder_106 (hrn _ p2) (fun r106 u106 q106 => ?_)
                obtain ⟨hr3, p3, f3, k3, v3⟩ := q106
                cases hr3
                refine r_if_eq dX1_readOrder_109 (tgt := 123) (by decide) (fun h109 => ?_) (fun h109 => ?_)
                · --t
                  exact absurd h109 (by decide)
                · --f
                  refine r_aload_n dX1_readOrder_112 0 rfl ?_
                  refine r_callVi (As := []) c_X1_readColour (by first | assumption | rfl) l_X1_46 rfl rfl rfl (Nat.le_of_ble_eq_true rfl) dX1_readOrder_113 (hrc _ p3) (fun r113 u113 q113 => ?_)
                  obtain ⟨hr4, p4, f4, k4, v4⟩ := q113
                  cases hr4
                  refine r_if_eq dX1_readOrder_116 (tgt := 123) (by decide) (fun h116 => ?_) (fun h116 => ?_)
                  · --t
                    exact absurd h116 (by decide)
                  · --f
                    refine r_iconst dX1_readOrder_119 (v := 1) rfl ?_
                    refine r_goto dX1_readOrder_120 (tgt := 124) (by decide) ?_
                    refine r_zret rfl (by first | rfl | decide) dX1_readOrder_124 ?_
                    refine ⟨rfl, p4, (((g3.tr f1).tr f2).tr f3).tr f4, fun _ => ⟨?_, fun _ => ?_, ?_, fun _ => v4 e4⟩⟩
                    · rw [k4 3 (by decide) (by decide), k3 3 (by decide) (by decide), k2 3 (by decide), k1 3 (by decide) (by decide)]; exact g4
                    · rw [k4 4 (by decide) (by decide), k3 4 (by decide) (by decide), k2 4 (by decide)]; exact v1 rfl
                    · rw [k4 5 (by decide) (by decide)]; exact v3 rfl
          · rw [if_neg e4, decide_eq_false e4] at hrc
            have er : rO P len i = (false, (rN P len (i + 1 + 2)).2.1, 0, 0, 0, 0) := by unfold rO; rw [if_neg (show ¬ (sg P len i = 110 ∨ sg P len i = 116) by rw [hk12_0]; decide), if_pos hk12_0, (show rB P len (i + 1) 46 = ((rN P len (i + 1 + 2)).1, (rN P len (i + 1 + 2)).2.1, sg P len (i + 1) - 48, (rN P len (i + 1 + 2)).2.2) by unfold rB; rw [e1, if_pos rfl, if_pos e2]), e3, if_pos rfl, if_neg e4]
            rw [er]
            refine r_aload_n dX1_readOrder_89 0 rfl ?_
            refine r_callVi (As := []) c_X1_readTroop (by first | assumption | rfl) l_X1_43 rfl rfl rfl (Nat.le_of_ble_eq_true rfl) dX1_readOrder_90 hrt (fun r90 u90 q90 => ?_)
            obtain ⟨hr1, p1, f1, k1, v1⟩ := q90
            cases hr1
            refine r_if_eq dX1_readOrder_93 (tgt := 123) (by decide) (fun h93 => ?_) (fun h93 => ?_)
            · --t
              exact absurd h93 (by decide)
            · --f
              refine r_aload_n dX1_readOrder_96 0 rfl ?_
              refine r_bipush dX1_readOrder_97 (v := 46) (by decide +kernel) ?_
              refine r_callVi (As := [_]) c_X1_readSign (by first | assumption | rfl) l_X1_28 rfl rfl rfl (Nat.le_of_ble_eq_true rfl) dX1_readOrder_99 (hrs _ p1) (fun r99 u99 q99 => ?_)
              obtain ⟨hr2, p2, f2, k2⟩ := q99
              cases hr2
              refine r_if_eq dX1_readOrder_102 (tgt := 123) (by decide) (fun h102 => ?_) (fun h102 => ?_)
              · --t
                exact absurd h102 (by decide)
              · --f
                refine r_aload_n dX1_readOrder_105 0 rfl ?_
                refine r_callVi (As := []) c_X1_readNumber (by first | assumption | rfl) l_X1_40 rfl rfl rfl (Nat.le_of_ble_eq_true rfl) dX1_readOrder_106 (hrn _ p2) (fun r106 u106 q106 => ?_)
                obtain ⟨hr3, p3, f3, k3, v3⟩ := q106
                cases hr3
                refine r_if_eq dX1_readOrder_109 (tgt := 123) (by decide) (fun h109 => ?_) (fun h109 => ?_)
                · --t
                  exact absurd h109 (by decide)
                · --f
                  refine r_aload_n dX1_readOrder_112 0 rfl ?_
                  refine r_callVi (As := []) c_X1_readColour (by first | assumption | rfl) l_X1_46 rfl rfl rfl (Nat.le_of_ble_eq_true rfl) dX1_readOrder_113 (hrc _ p3) (fun r113 u113 q113 => ?_)
                  obtain ⟨hr4, p4, f4, k4, v4⟩ := q113
                  cases hr4
                  refine r_if_eq dX1_readOrder_116 (tgt := 123) (by decide) (fun h116 => ?_) (fun h116 => ?_)
                  · --t
                    refine r_iconst dX1_readOrder_123 (v := 0) rfl ?_
                    refine r_zret rfl (by first | rfl | decide) dX1_readOrder_124 ?_
                    exact ⟨rfl, p4, (((g3.tr f1).tr f2).tr f3).tr f4, fun z => absurd (show false = true from z) (by decide)⟩
                  · --f
                    exact absurd rfl h116
      · have hrs : ∀ u, PD u P len (i + 1 + 1) → _ := fun u hu => @t_X1_readSign G (d + 2) u P len (i + 1 + 1) 46 (by decide) hu
        rw [if_neg e2, decide_eq_false e2] at hrs
        have er : rO P len i = (false, i + 1 + 1, 0, 0, 0, 0) := by unfold rO; rw [if_neg (show ¬ (sg P len i = 110 ∨ sg P len i = 116) by rw [hk12_0]; decide), if_pos hk12_0, (show rB P len (i + 1) 46 = (false, i + 1 + 1, 0, 0) by unfold rB; rw [e1, if_pos rfl, if_neg e2]), if_neg (fun z => absurd (show false = true from z) (by decide))]
        rw [er]
        refine r_aload_n dX1_readOrder_89 0 rfl ?_
        refine r_callVi (As := []) c_X1_readTroop (by first | assumption | rfl) l_X1_43 rfl rfl rfl (Nat.le_of_ble_eq_true rfl) dX1_readOrder_90 hrt (fun r90 u90 q90 => ?_)
        obtain ⟨hr1, p1, f1, k1, v1⟩ := q90
        cases hr1
        refine r_if_eq dX1_readOrder_93 (tgt := 123) (by decide) (fun h93 => ?_) (fun h93 => ?_)
        · --t
          exact absurd h93 (by decide)
        · --f
          refine r_aload_n dX1_readOrder_96 0 rfl ?_
          refine r_bipush dX1_readOrder_97 (v := 46) (by decide +kernel) ?_
          refine r_callVi (As := [_]) c_X1_readSign (by first | assumption | rfl) l_X1_28 rfl rfl rfl (Nat.le_of_ble_eq_true rfl) dX1_readOrder_99 (hrs _ p1) (fun r99 u99 q99 => ?_)
          obtain ⟨hr2, p2, f2, k2⟩ := q99
          cases hr2
          refine r_if_eq dX1_readOrder_102 (tgt := 123) (by decide) (fun h102 => ?_) (fun h102 => ?_)
          · --t
            refine r_iconst dX1_readOrder_123 (v := 0) rfl ?_
            refine r_zret rfl (by first | rfl | decide) dX1_readOrder_124 ?_
            exact ⟨rfl, p2, (g3.tr f1).tr f2, fun z => absurd (show false = true from z) (by decide)⟩
          · --f
            exact absurd rfl h102
  by_cases hk12_1 : sg P len i = 108
  · --key 108
    rw [hk12_1]
    refine r_lookup (off := 113) (tgt := 125) dX1_readOrder_12 (by decide) (by decide) (by decide) ?_
    refine r_aload_n dX1_readOrder_125 0 rfl ?_
    refine r_dup dX1_readOrder_126 rfl ?_
    refine r_getI (by first | assumption | rfl) f_X1_21 rfl rfl dX1_readOrder_127 ?_
    refine r_iconst dX1_readOrder_130 (v := 1) rfl ?_
    refine r_iadd dX1_readOrder_131 ?_
    refine r_putI (by first | assumption | rfl) f_X1_21 rfl rfl rfl rfl dX1_readOrder_132 ?_
    refine at_gen (fun w2 hw2 => ?_)
    have g2 : PD w2 P len (i + 1) := by rw [hw2]; exact g1.at (m := i + 1) (by rw [g1.1.2.2.1, nI_1]) (sg_lt (P := P) (by rw [hk12_1]; decide))
    have g3 : FP S w2 := by rw [hw2]; exact gF.up
    have g4 : w2 185 3 = 108 := by rw [hw2]; simp only [up1_s, upd, Nat.reduceEqDiff, reduceIte]; rw [gk, hk12_1]
    clear hw2
    have hrt := @t_X1_readTroop G (d + 1) w2 P len (i + 1) g2
    cases e1 : dgt (sg P len (i + 1))
    · rw [e1, if_neg (by decide)] at hrt
      have er : rO P len i = (false, i + 1, 108, 0, 0, 0) := by unfold rO; rw [if_neg (show ¬ (sg P len i = 110 ∨ sg P len i = 116) by rw [hk12_1]; decide), if_neg (show ¬ sg P len i = 99 by rw [hk12_1]; decide), if_pos hk12_1, (show rB P len (i + 1) 46 = (false, i + 1, 0, 0) by unfold rB; rw [e1]; rfl)]
      rw [er]
      refine r_aload_n dX1_readOrder_135 0 rfl ?_
      refine r_callVi (As := []) c_X1_readTroop (by first | assumption | rfl) l_X1_43 rfl rfl rfl (Nat.le_of_ble_eq_true rfl) dX1_readOrder_136 hrt (fun r136 u136 q136 => ?_)
      obtain ⟨hr1, p1, f1, k1, v1⟩ := q136
      cases hr1
      refine r_if_eq dX1_readOrder_139 (tgt := 162) (by decide) (fun h139 => ?_) (fun h139 => ?_)
      · --t
        refine r_iconst dX1_readOrder_162 (v := 0) rfl ?_
        refine r_zret rfl (by first | rfl | decide) dX1_readOrder_163 ?_
        exact ⟨rfl, p1, g3.tr f1, fun z => absurd (show false = true from z) (by decide)⟩
      · --f
        exact absurd rfl h139
    · rw [e1, if_pos rfl] at hrt
      by_cases e2 : sg P len (i + 1 + 1) = 46
      · have hrs : ∀ u, PD u P len (i + 1 + 1) → _ := fun u hu => @t_X1_readSign G (d + 2) u P len (i + 1 + 1) 46 (by decide) hu
        rw [if_pos e2, decide_eq_true e2] at hrs
        have hrn : ∀ u, PD u P len (i + 1 + 2) → _ := fun u hu => @t_X1_readNumber G (d + 1) u P len (i + 1 + 2) hu
        cases e3 : (rN P len (i + 1 + 2)).1
        · rw [e3] at hrn
          have er : rO P len i = (false, (rN P len (i + 1 + 2)).2.1, 108, sg P len (i + 1) - 48, (rN P len (i + 1 + 2)).2.2, 0) := by unfold rO; rw [if_neg (show ¬ (sg P len i = 110 ∨ sg P len i = 116) by rw [hk12_1]; decide), if_neg (show ¬ sg P len i = 99 by rw [hk12_1]; decide), if_pos hk12_1, (show rB P len (i + 1) 46 = ((rN P len (i + 1 + 2)).1, (rN P len (i + 1 + 2)).2.1, sg P len (i + 1) - 48, (rN P len (i + 1 + 2)).2.2) by unfold rB; rw [e1, if_pos rfl, if_pos e2]), e3]
          rw [er]
          refine r_aload_n dX1_readOrder_135 0 rfl ?_
          refine r_callVi (As := []) c_X1_readTroop (by first | assumption | rfl) l_X1_43 rfl rfl rfl (Nat.le_of_ble_eq_true rfl) dX1_readOrder_136 hrt (fun r136 u136 q136 => ?_)
          obtain ⟨hr1, p1, f1, k1, v1⟩ := q136
          cases hr1
          refine r_if_eq dX1_readOrder_139 (tgt := 162) (by decide) (fun h139 => ?_) (fun h139 => ?_)
          · --t
            exact absurd h139 (by decide)
          · --f
            refine r_aload_n dX1_readOrder_142 0 rfl ?_
            refine r_bipush dX1_readOrder_143 (v := 46) (by decide +kernel) ?_
            refine r_callVi (As := [_]) c_X1_readSign (by first | assumption | rfl) l_X1_28 rfl rfl rfl (Nat.le_of_ble_eq_true rfl) dX1_readOrder_145 (hrs _ p1) (fun r145 u145 q145 => ?_)
            obtain ⟨hr2, p2, f2, k2⟩ := q145
            cases hr2
            refine r_if_eq dX1_readOrder_148 (tgt := 162) (by decide) (fun h148 => ?_) (fun h148 => ?_)
            · --t
              exact absurd h148 (by decide)
            · --f
              refine r_aload_n dX1_readOrder_151 0 rfl ?_
              refine r_callVi (As := []) c_X1_readNumber (by first | assumption | rfl) l_X1_40 rfl rfl rfl (Nat.le_of_ble_eq_true rfl) dX1_readOrder_152 (hrn _ p2) (fun r152 u152 q152 => ?_)
              obtain ⟨hr3, p3, f3, k3, v3⟩ := q152
              cases hr3
              refine r_if_eq dX1_readOrder_155 (tgt := 162) (by decide) (fun h155 => ?_) (fun h155 => ?_)
              · --t
                refine r_iconst dX1_readOrder_162 (v := 0) rfl ?_
                refine r_zret rfl (by first | rfl | decide) dX1_readOrder_163 ?_
                exact ⟨rfl, p3, ((g3.tr f1).tr f2).tr f3, fun z => absurd (show false = true from z) (by decide)⟩
              · --f
                exact absurd rfl h155
        · rw [e3] at hrn
          have er : rO P len i = (true, (rN P len (i + 1 + 2)).2.1, 108, sg P len (i + 1) - 48, (rN P len (i + 1 + 2)).2.2, 0) := by unfold rO; rw [if_neg (show ¬ (sg P len i = 110 ∨ sg P len i = 116) by rw [hk12_1]; decide), if_neg (show ¬ sg P len i = 99 by rw [hk12_1]; decide), if_pos hk12_1, (show rB P len (i + 1) 46 = ((rN P len (i + 1 + 2)).1, (rN P len (i + 1 + 2)).2.1, sg P len (i + 1) - 48, (rN P len (i + 1 + 2)).2.2) by unfold rB; rw [e1, if_pos rfl, if_pos e2]), e3]
          rw [er]
          refine r_aload_n dX1_readOrder_135 0 rfl ?_
          refine r_callVi (As := []) c_X1_readTroop (by first | assumption | rfl) l_X1_43 rfl rfl rfl (Nat.le_of_ble_eq_true rfl) dX1_readOrder_136 hrt (fun r136 u136 q136 => ?_)
          obtain ⟨hr1, p1, f1, k1, v1⟩ := q136
          cases hr1
          refine r_if_eq dX1_readOrder_139 (tgt := 162) (by decide) (fun h139 => ?_) (fun h139 => ?_)
          · --t
            exact absurd h139 (by decide)
          · --f
            refine r_aload_n dX1_readOrder_142 0 rfl ?_
            refine r_bipush dX1_readOrder_143 (v := 46) (by decide +kernel) ?_
            refine r_callVi (As := [_]) c_X1_readSign (by first | assumption | rfl) l_X1_28 rfl rfl rfl (Nat.le_of_ble_eq_true rfl) dX1_readOrder_145 (hrs _ p1) (fun r145 u145 q145 => ?_)
            obtain ⟨hr2, p2, f2, k2⟩ := q145
            cases hr2
            refine r_if_eq dX1_readOrder_148 (tgt := 162) (by decide) (fun h148 => ?_) (fun h148 => ?_)
            · --t
              exact absurd h148 (by decide)
            · --f
              refine r_aload_n dX1_readOrder_151 0 rfl ?_
              refine r_callVi (As := []) c_X1_readNumber (by first | assumption | rfl) l_X1_40 rfl rfl rfl (Nat.le_of_ble_eq_true rfl) dX1_readOrder_152 (hrn _ p2) (fun r152 u152 q152 => ?_)
              obtain ⟨hr3, p3, f3, k3, v3⟩ := q152
              cases hr3
              refine r_if_eq dX1_readOrder_155 (tgt := 162) (by decide) (fun h155 => ?_) (fun h155 => ?_)
              · --t
                exact absurd h155 (by decide)
              · --f
                refine r_iconst dX1_readOrder_158 (v := 1) rfl ?_
                refine r_goto dX1_readOrder_159 (tgt := 163) (by decide) ?_
                refine r_zret rfl (by first | rfl | decide) dX1_readOrder_163 ?_
                refine ⟨rfl, p3, ((g3.tr f1).tr f2).tr f3, fun _ => ⟨?_, fun _ => ?_, v3 rfl, fun z => absurd (show (108 : Int32) = 99 from z) (by decide)⟩⟩
                · rw [k3 3 (by decide) (by decide), k2 3 (by decide), k1 3 (by decide) (by decide)]; exact g4
                · rw [k3 4 (by decide) (by decide), k2 4 (by decide)]; exact v1 rfl
      · have hrs : ∀ u, PD u P len (i + 1 + 1) → _ := fun u hu => @t_X1_readSign G (d + 2) u P len (i + 1 + 1) 46 (by decide) hu
        rw [if_neg e2, decide_eq_false e2] at hrs
        have er : rO P len i = (false, i + 1 + 1, 108, 0, 0, 0) := by unfold rO; rw [if_neg (show ¬ (sg P len i = 110 ∨ sg P len i = 116) by rw [hk12_1]; decide), if_neg (show ¬ sg P len i = 99 by rw [hk12_1]; decide), if_pos hk12_1, (show rB P len (i + 1) 46 = (false, i + 1 + 1, 0, 0) by unfold rB; rw [e1, if_pos rfl, if_neg e2])]
        rw [er]
        refine r_aload_n dX1_readOrder_135 0 rfl ?_
        refine r_callVi (As := []) c_X1_readTroop (by first | assumption | rfl) l_X1_43 rfl rfl rfl (Nat.le_of_ble_eq_true rfl) dX1_readOrder_136 hrt (fun r136 u136 q136 => ?_)
        obtain ⟨hr1, p1, f1, k1, v1⟩ := q136
        cases hr1
        refine r_if_eq dX1_readOrder_139 (tgt := 162) (by decide) (fun h139 => ?_) (fun h139 => ?_)
        · --t
          exact absurd h139 (by decide)
        · --f
          refine r_aload_n dX1_readOrder_142 0 rfl ?_
          refine r_bipush dX1_readOrder_143 (v := 46) (by decide +kernel) ?_
          refine r_callVi (As := [_]) c_X1_readSign (by first | assumption | rfl) l_X1_28 rfl rfl rfl (Nat.le_of_ble_eq_true rfl) dX1_readOrder_145 (hrs _ p1) (fun r145 u145 q145 => ?_)
          obtain ⟨hr2, p2, f2, k2⟩ := q145
          cases hr2
          refine r_if_eq dX1_readOrder_148 (tgt := 162) (by decide) (fun h148 => ?_) (fun h148 => ?_)
          · --t
            refine r_iconst dX1_readOrder_162 (v := 0) rfl ?_
            refine r_zret rfl (by first | rfl | decide) dX1_readOrder_163 ?_
            exact ⟨rfl, p2, (g3.tr f1).tr f2, fun z => absurd (show false = true from z) (by decide)⟩
          · --f
            exact absurd rfl h148
  by_cases hk12_2 : sg P len i = 110
  · --key 110
    rw [hk12_2]
    refine r_lookup (off := 52) (tgt := 64) dX1_readOrder_12 (by decide) (by decide) (by decide) ?_
    refine r_aload_n dX1_readOrder_64 0 rfl ?_
    refine r_dup dX1_readOrder_65 rfl ?_
    refine r_getI (by first | assumption | rfl) f_X1_21 rfl rfl dX1_readOrder_66 ?_
    refine r_iconst dX1_readOrder_69 (v := 1) rfl ?_
    refine r_iadd dX1_readOrder_70 ?_
    refine r_putI (by first | assumption | rfl) f_X1_21 rfl rfl rfl rfl dX1_readOrder_71 ?_
    refine at_gen (fun w2 hw2 => ?_)
    have g2 : PD w2 P len (i + 1) := by rw [hw2]; exact g1.at (m := i + 1) (by rw [g1.1.2.2.1, nI_1]) (sg_lt (P := P) (by rw [hk12_2]; decide))
    have g3 : FP S w2 := by rw [hw2]; exact gF.up
    have g4 : w2 185 3 = 110 := by rw [hw2]; simp only [up1_s, upd, Nat.reduceEqDiff, reduceIte]; rw [gk, hk12_2]
    clear hw2
    have hor : sg P len i = 110 ∨ sg P len i = 116 := by rw [hk12_2]; decide
    have hrn := @t_X1_readNumber G (d + 1) w2 P len (i + 1) g2
    have er : rO P len i = ((rN P len (i + 1)).1, (rN P len (i + 1)).2.1, sg P len i, 0, (rN P len (i + 1)).2.2, 0) := by unfold rO; rw [if_pos hor]
    rw [er]
    refine r_aload_n dX1_readOrder_74 0 rfl ?_
    refine r_callVi (As := []) c_X1_readNumber (by first | assumption | rfl) l_X1_40 rfl rfl rfl (Nat.le_of_ble_eq_true rfl) dX1_readOrder_75 hrn (fun r75 u75 q75 => ?_)
    obtain ⟨hr3, p3, f3, k3, v3⟩ := q75
    cases hr3
    refine r_zret rfl (bI_nar _) dX1_readOrder_78 ?_
    refine ⟨rfl, p3, g3.tr f3, fun z => ⟨?_, fun y => absurd (show sg P len i = 110 ∨ sg P len i = 116 from hor) y, v3 z, fun y => absurd (show sg P len i = 99 from y) (by rw [hk12_2]; decide)⟩⟩
    rw [k3 3 (by decide) (by decide)]; exact g4.trans hk12_2.symm
  by_cases hk12_3 : sg P len i = 115
  · --key 115
    rw [hk12_3]
    refine r_lookup (off := 152) (tgt := 164) dX1_readOrder_12 (by decide) (by decide) (by decide) ?_
    refine r_aload_n dX1_readOrder_164 0 rfl ?_
    refine r_dup dX1_readOrder_165 rfl ?_
    refine r_getI (by first | assumption | rfl) f_X1_21 rfl rfl dX1_readOrder_166 ?_
    refine r_iconst dX1_readOrder_169 (v := 1) rfl ?_
    refine r_iadd dX1_readOrder_170 ?_
    refine r_putI (by first | assumption | rfl) f_X1_21 rfl rfl rfl rfl dX1_readOrder_171 ?_
    refine at_gen (fun w2 hw2 => ?_)
    have g2 : PD w2 P len (i + 1) := by rw [hw2]; exact g1.at (m := i + 1) (by rw [g1.1.2.2.1, nI_1]) (sg_lt (P := P) (by rw [hk12_3]; decide))
    have g3 : FP S w2 := by rw [hw2]; exact gF.up
    have g4 : w2 185 3 = 115 := by rw [hw2]; simp only [up1_s, upd, Nat.reduceEqDiff, reduceIte]; rw [gk, hk12_3]
    clear hw2
    have hrt := @t_X1_readTroop G (d + 1) w2 P len (i + 1) g2
    cases e1 : dgt (sg P len (i + 1))
    · rw [e1, if_neg (by decide)] at hrt
      have er : rO P len i = (false, i + 1, 115, 0, 0, 0) := by unfold rO; rw [if_neg (show ¬ (sg P len i = 110 ∨ sg P len i = 116) by rw [hk12_3]; decide), if_neg (show ¬ sg P len i = 99 by rw [hk12_3]; decide), if_neg (show ¬ sg P len i = 108 by rw [hk12_3]; decide), if_pos hk12_3, (show rB P len (i + 1) 61 = (false, i + 1, 0, 0) by unfold rB; rw [e1]; rfl)]
      rw [er]
      refine r_aload_n dX1_readOrder_174 0 rfl ?_
      refine r_callVi (As := []) c_X1_readTroop (by first | assumption | rfl) l_X1_43 rfl rfl rfl (Nat.le_of_ble_eq_true rfl) dX1_readOrder_175 hrt (fun r175 u175 q175 => ?_)
      obtain ⟨hr1, p1, f1, k1, v1⟩ := q175
      cases hr1
      refine r_if_eq dX1_readOrder_178 (tgt := 201) (by decide) (fun h178 => ?_) (fun h178 => ?_)
      · --t
        refine r_iconst dX1_readOrder_201 (v := 0) rfl ?_
        refine r_zret rfl (by first | rfl | decide) dX1_readOrder_202 ?_
        exact ⟨rfl, p1, g3.tr f1, fun z => absurd (show false = true from z) (by decide)⟩
      · --f
        exact absurd rfl h178
    · rw [e1, if_pos rfl] at hrt
      by_cases e2 : sg P len (i + 1 + 1) = 61
      · have hrs : ∀ u, PD u P len (i + 1 + 1) → _ := fun u hu => @t_X1_readSign G (d + 2) u P len (i + 1 + 1) 61 (by decide) hu
        rw [if_pos e2, decide_eq_true e2] at hrs
        have hrn : ∀ u, PD u P len (i + 1 + 2) → _ := fun u hu => @t_X1_readNumber G (d + 1) u P len (i + 1 + 2) hu
        cases e3 : (rN P len (i + 1 + 2)).1
        · rw [e3] at hrn
          have er : rO P len i = (false, (rN P len (i + 1 + 2)).2.1, 115, sg P len (i + 1) - 48, (rN P len (i + 1 + 2)).2.2, 0) := by unfold rO; rw [if_neg (show ¬ (sg P len i = 110 ∨ sg P len i = 116) by rw [hk12_3]; decide), if_neg (show ¬ sg P len i = 99 by rw [hk12_3]; decide), if_neg (show ¬ sg P len i = 108 by rw [hk12_3]; decide), if_pos hk12_3, (show rB P len (i + 1) 61 = ((rN P len (i + 1 + 2)).1, (rN P len (i + 1 + 2)).2.1, sg P len (i + 1) - 48, (rN P len (i + 1 + 2)).2.2) by unfold rB; rw [e1, if_pos rfl, if_pos e2]), e3]
          rw [er]
          refine r_aload_n dX1_readOrder_174 0 rfl ?_
          refine r_callVi (As := []) c_X1_readTroop (by first | assumption | rfl) l_X1_43 rfl rfl rfl (Nat.le_of_ble_eq_true rfl) dX1_readOrder_175 hrt (fun r175 u175 q175 => ?_)
          obtain ⟨hr1, p1, f1, k1, v1⟩ := q175
          cases hr1
          refine r_if_eq dX1_readOrder_178 (tgt := 201) (by decide) (fun h178 => ?_) (fun h178 => ?_)
          · --t
            exact absurd h178 (by decide)
          · --f
            refine r_aload_n dX1_readOrder_181 0 rfl ?_
            refine r_bipush dX1_readOrder_182 (v := 61) (by decide +kernel) ?_
            refine r_callVi (As := [_]) c_X1_readSign (by first | assumption | rfl) l_X1_28 rfl rfl rfl (Nat.le_of_ble_eq_true rfl) dX1_readOrder_184 (hrs _ p1) (fun r184 u184 q184 => ?_)
            obtain ⟨hr2, p2, f2, k2⟩ := q184
            cases hr2
            refine r_if_eq dX1_readOrder_187 (tgt := 201) (by decide) (fun h187 => ?_) (fun h187 => ?_)
            · --t
              exact absurd h187 (by decide)
            · --f
              refine r_aload_n dX1_readOrder_190 0 rfl ?_
              refine r_callVi (As := []) c_X1_readNumber (by first | assumption | rfl) l_X1_40 rfl rfl rfl (Nat.le_of_ble_eq_true rfl) dX1_readOrder_191 (hrn _ p2) (fun r191 u191 q191 => ?_)
              obtain ⟨hr3, p3, f3, k3, v3⟩ := q191
              cases hr3
              refine r_if_eq dX1_readOrder_194 (tgt := 201) (by decide) (fun h194 => ?_) (fun h194 => ?_)
              · --t
                refine r_iconst dX1_readOrder_201 (v := 0) rfl ?_
                refine r_zret rfl (by first | rfl | decide) dX1_readOrder_202 ?_
                exact ⟨rfl, p3, ((g3.tr f1).tr f2).tr f3, fun z => absurd (show false = true from z) (by decide)⟩
              · --f
                exact absurd rfl h194
        · rw [e3] at hrn
          have er : rO P len i = (true, (rN P len (i + 1 + 2)).2.1, 115, sg P len (i + 1) - 48, (rN P len (i + 1 + 2)).2.2, 0) := by unfold rO; rw [if_neg (show ¬ (sg P len i = 110 ∨ sg P len i = 116) by rw [hk12_3]; decide), if_neg (show ¬ sg P len i = 99 by rw [hk12_3]; decide), if_neg (show ¬ sg P len i = 108 by rw [hk12_3]; decide), if_pos hk12_3, (show rB P len (i + 1) 61 = ((rN P len (i + 1 + 2)).1, (rN P len (i + 1 + 2)).2.1, sg P len (i + 1) - 48, (rN P len (i + 1 + 2)).2.2) by unfold rB; rw [e1, if_pos rfl, if_pos e2]), e3]
          rw [er]
          refine r_aload_n dX1_readOrder_174 0 rfl ?_
          refine r_callVi (As := []) c_X1_readTroop (by first | assumption | rfl) l_X1_43 rfl rfl rfl (Nat.le_of_ble_eq_true rfl) dX1_readOrder_175 hrt (fun r175 u175 q175 => ?_)
          obtain ⟨hr1, p1, f1, k1, v1⟩ := q175
          cases hr1
          refine r_if_eq dX1_readOrder_178 (tgt := 201) (by decide) (fun h178 => ?_) (fun h178 => ?_)
          · --t
            exact absurd h178 (by decide)
          · --f
            refine r_aload_n dX1_readOrder_181 0 rfl ?_
            refine r_bipush dX1_readOrder_182 (v := 61) (by decide +kernel) ?_
            refine r_callVi (As := [_]) c_X1_readSign (by first | assumption | rfl) l_X1_28 rfl rfl rfl (Nat.le_of_ble_eq_true rfl) dX1_readOrder_184 (hrs _ p1) (fun r184 u184 q184 => ?_)
            obtain ⟨hr2, p2, f2, k2⟩ := q184
            cases hr2
            refine r_if_eq dX1_readOrder_187 (tgt := 201) (by decide) (fun h187 => ?_) (fun h187 => ?_)
            · --t
              exact absurd h187 (by decide)
            · --f
              refine r_aload_n dX1_readOrder_190 0 rfl ?_
              refine r_callVi (As := []) c_X1_readNumber (by first | assumption | rfl) l_X1_40 rfl rfl rfl (Nat.le_of_ble_eq_true rfl) dX1_readOrder_191 (hrn _ p2) (fun r191 u191 q191 => ?_)
              obtain ⟨hr3, p3, f3, k3, v3⟩ := q191
              cases hr3
              refine r_if_eq dX1_readOrder_194 (tgt := 201) (by decide) (fun h194 => ?_) (fun h194 => ?_)
              · --t
                exact absurd h194 (by decide)
              · --f
                refine r_iconst dX1_readOrder_197 (v := 1) rfl ?_
                refine r_goto dX1_readOrder_198 (tgt := 202) (by decide) ?_
                refine r_zret rfl (by first | rfl | decide) dX1_readOrder_202 ?_
                refine ⟨rfl, p3, ((g3.tr f1).tr f2).tr f3, fun _ => ⟨?_, fun _ => ?_, v3 rfl, fun z => absurd (show (115 : Int32) = 99 from z) (by decide)⟩⟩
                · rw [k3 3 (by decide) (by decide), k2 3 (by decide), k1 3 (by decide) (by decide)]; exact g4
                · rw [k3 4 (by decide) (by decide), k2 4 (by decide)]; exact v1 rfl
      · have hrs : ∀ u, PD u P len (i + 1 + 1) → _ := fun u hu => @t_X1_readSign G (d + 2) u P len (i + 1 + 1) 61 (by decide) hu
        rw [if_neg e2, decide_eq_false e2] at hrs
        have er : rO P len i = (false, i + 1 + 1, 115, 0, 0, 0) := by unfold rO; rw [if_neg (show ¬ (sg P len i = 110 ∨ sg P len i = 116) by rw [hk12_3]; decide), if_neg (show ¬ sg P len i = 99 by rw [hk12_3]; decide), if_neg (show ¬ sg P len i = 108 by rw [hk12_3]; decide), if_pos hk12_3, (show rB P len (i + 1) 61 = (false, i + 1 + 1, 0, 0) by unfold rB; rw [e1, if_pos rfl, if_neg e2])]
        rw [er]
        refine r_aload_n dX1_readOrder_174 0 rfl ?_
        refine r_callVi (As := []) c_X1_readTroop (by first | assumption | rfl) l_X1_43 rfl rfl rfl (Nat.le_of_ble_eq_true rfl) dX1_readOrder_175 hrt (fun r175 u175 q175 => ?_)
        obtain ⟨hr1, p1, f1, k1, v1⟩ := q175
        cases hr1
        refine r_if_eq dX1_readOrder_178 (tgt := 201) (by decide) (fun h178 => ?_) (fun h178 => ?_)
        · --t
          exact absurd h178 (by decide)
        · --f
          refine r_aload_n dX1_readOrder_181 0 rfl ?_
          refine r_bipush dX1_readOrder_182 (v := 61) (by decide +kernel) ?_
          refine r_callVi (As := [_]) c_X1_readSign (by first | assumption | rfl) l_X1_28 rfl rfl rfl (Nat.le_of_ble_eq_true rfl) dX1_readOrder_184 (hrs _ p1) (fun r184 u184 q184 => ?_)
          obtain ⟨hr2, p2, f2, k2⟩ := q184
          cases hr2
          refine r_if_eq dX1_readOrder_187 (tgt := 201) (by decide) (fun h187 => ?_) (fun h187 => ?_)
          · --t
            refine r_iconst dX1_readOrder_201 (v := 0) rfl ?_
            refine r_zret rfl (by first | rfl | decide) dX1_readOrder_202 ?_
            exact ⟨rfl, p2, (g3.tr f1).tr f2, fun z => absurd (show false = true from z) (by decide)⟩
          · --f
            exact absurd rfl h187
  by_cases hk12_4 : sg P len i = 116
  · --key 116
    rw [hk12_4]
    refine r_lookup (off := 52) (tgt := 64) dX1_readOrder_12 (by decide) (by decide) (by decide) ?_
    refine r_aload_n dX1_readOrder_64 0 rfl ?_
    refine r_dup dX1_readOrder_65 rfl ?_
    refine r_getI (by first | assumption | rfl) f_X1_21 rfl rfl dX1_readOrder_66 ?_
    refine r_iconst dX1_readOrder_69 (v := 1) rfl ?_
    refine r_iadd dX1_readOrder_70 ?_
    refine r_putI (by first | assumption | rfl) f_X1_21 rfl rfl rfl rfl dX1_readOrder_71 ?_
    refine at_gen (fun w2 hw2 => ?_)
    have g2 : PD w2 P len (i + 1) := by rw [hw2]; exact g1.at (m := i + 1) (by rw [g1.1.2.2.1, nI_1]) (sg_lt (P := P) (by rw [hk12_4]; decide))
    have g3 : FP S w2 := by rw [hw2]; exact gF.up
    have g4 : w2 185 3 = 116 := by rw [hw2]; simp only [up1_s, upd, Nat.reduceEqDiff, reduceIte]; rw [gk, hk12_4]
    clear hw2
    have hor : sg P len i = 110 ∨ sg P len i = 116 := by rw [hk12_4]; decide
    have hrn := @t_X1_readNumber G (d + 1) w2 P len (i + 1) g2
    have er : rO P len i = ((rN P len (i + 1)).1, (rN P len (i + 1)).2.1, sg P len i, 0, (rN P len (i + 1)).2.2, 0) := by unfold rO; rw [if_pos hor]
    rw [er]
    refine r_aload_n dX1_readOrder_74 0 rfl ?_
    refine r_callVi (As := []) c_X1_readNumber (by first | assumption | rfl) l_X1_40 rfl rfl rfl (Nat.le_of_ble_eq_true rfl) dX1_readOrder_75 hrn (fun r75 u75 q75 => ?_)
    obtain ⟨hr3, p3, f3, k3, v3⟩ := q75
    cases hr3
    refine r_zret rfl (bI_nar _) dX1_readOrder_78 ?_
    refine ⟨rfl, p3, g3.tr f3, fun z => ⟨?_, fun y => absurd (show sg P len i = 110 ∨ sg P len i = 116 from hor) y, v3 z, fun y => absurd (show sg P len i = 99 from y) (by rw [hk12_4]; decide)⟩⟩
    rw [k3 3 (by decide) (by decide)]; exact g4.trans hk12_4.symm
  refine r_lookup (off := 191) (tgt := 203) dX1_readOrder_12 (by decide) (show Op.lookupswitch.offset [(99, 67), (108, 113), (110, 52), (115, 152), (116, 52)] 191 _ = 191 by rw [lv_osw hk12_0 (by decide), lv_osw hk12_1 (by decide), lv_osw hk12_2 (by decide), lv_osw hk12_3 (by decide), lv_osw hk12_4 (by decide)]; rfl) (by decide) ?_
  refine r_iconst dX1_readOrder_203 (v := 0) rfl ?_
  refine r_zret rfl (by first | rfl | decide) dX1_readOrder_204 ?_
  have er : rO P len i = (false, i, 0, 0, 0, 0) := by unfold rO; rw [if_neg (show ¬ (sg P len i = 110 ∨ sg P len i = 116) from fun z => z.elim hk12_2 hk12_4), if_neg hk12_0, if_neg hk12_1, if_neg hk12_3]
  rw [er]
  exact ⟨rfl, g1, gF, fun z => absurd (show false = true from z) (by decide)⟩
end PADO
