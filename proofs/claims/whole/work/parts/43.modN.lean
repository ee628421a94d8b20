/-! the reference: a text carried out -/
section MODR
variable {G : mG} {d : Nat} {S S0 : mS} {Q : Option Int32 → mS → Prop} {P : Nat → Int32} {len i : Nat} {N : mN} {n : Nat} {h : Nat → mN}
theorem FG.up {S u : mS} {x : Int32} (h : FG S u) : FG S (up1 u 190 (upd (u 190) 9 x)) := h.tr FE.rf.up.fl
theorem lp_X5_carry : ∀ f o i (N : mN) S, f + o = 80 → i < len → (fl P len f i).1 = true → PE S P len i → RP (S 191) N → WN N → FG S0 S → (∀ u, RP (u 191) (cyN P len f i N).2 → PM u P len → FG S0 u → At G (d + 8) M_X5_carryOut Q 77 [(0, rv G 190), (1, .int (nI (o + (cyN P len f i N).1)))] [] u) → At G (d + 8) M_X5_carryOut Q 23 [(0, rv G 190), (1, .int (nI o)), (2, .int 1)] [] S := by
  intro f
  induction f with
  | zero => intro o i N S ho _ hf; exact absurd (show false = true from hf) (by decide)
  | succ f ih =>
    intro o i N S ho hi hf hP hR hW hF hx
    have hro := rO_le (P := P) hP.2.2
    have hl80 := hP.1.1.2
    have e8 := hP.1.1.1
    have e9 := hP.2.1
    unfold fl at hf
    cases e1 : (rO P len i).1
    · rw [e1] at hf; exact absurd (show false = true from hf) (by decide)
    · rw [e1, if_pos rfl] at hf
      unfold cyN at hx
      rw [if_pos e1] at hx
      have hWe : WN (exR N (rO P len i)).2 := wn_ex hW _ _ _ _
      by_cases en : (exR N (rO P len i)).1 < 0
      · rw [if_pos en] at hx
        refine r_iload_n dX5_carryOut_23 2 rfl ?_
        refine r_if_eq dX5_carryOut_24 (tgt := 77) (by decide) (fun h24 => ?_) (fun h24 => ?_)
        · --t
          exact absurd h24 (by decide)
        · --f
          refine r_aload_n dX5_carryOut_27 0 rfl ?_
          refine r_getI (by first | assumption | rfl) f_X5_131 rfl rfl dX5_carryOut_28 ?_
          refine r_aload_n dX5_carryOut_31 0 rfl ?_
          refine r_getI (by first | assumption | rfl) f_X5_120 rfl rfl dX5_carryOut_32 ?_
          refine r_icmp_ge dX5_carryOut_35 (tgt := 77) (by decide) (fun h35 => ?_) (fun h35 => ?_)
          · --t
            rw [e9, e8] at h35
            exact absurd h35 (nI_ge hi (by omega))
          · --f
            refine r_aload_n dX5_carryOut_38 0 rfl ?_
            refine r_iconst dX5_carryOut_39 (v := 1) rfl ?_
            refine r_callVi (As := [_]) c_X5_order (by first | assumption | rfl) l_X5_144 rfl rfl rfl (Nat.le_of_ble_eq_true rfl) dX5_carryOut_40 (t_X5_order1 e1 hW hR hP) (fun r40 u40 q40 => ?_)
            obtain ⟨hr, g1, g2, f1⟩ := q40
            cases hr
            refine r_if_lt dX5_carryOut_43 (tgt := 50) (by decide) (fun h43 => ?_) (fun h43 => ?_)
            · --t
              refine r_iconst dX5_carryOut_50 (v := 0) rfl ?_
              refine r_istore_n (lo2 := [(0, _), (1, _), (2, _)]) dX5_carryOut_51 rfl (Nat.le_of_ble_eq_true rfl) [1, 2, 0] rfl ?_
              refine r_iload_n dX5_carryOut_52 1 rfl ?_
              refine r_iload_n dX5_carryOut_53 2 rfl ?_
              refine r_if_eq dX5_carryOut_54 (tgt := 61) (by decide) (fun h54 => ?_) (fun h54 => ?_)
              · --t
                refine r_iconst dX5_carryOut_61 (v := 0) rfl ?_
                refine r_iadd dX5_carryOut_62 ?_
                refine r_istore_n (lo2 := [(0, _), (1, _), (2, _)]) dX5_carryOut_63 rfl (Nat.le_of_ble_eq_true rfl) [1, 0, 2] rfl ?_
                refine r_aload_n dX5_carryOut_64 0 rfl ?_
                refine r_dup dX5_carryOut_65 rfl ?_
                refine r_getI (by first | assumption | rfl) f_X5_131 rfl rfl dX5_carryOut_66 ?_
                refine r_iconst dX5_carryOut_69 (v := 1) rfl ?_
                refine r_iadd dX5_carryOut_70 ?_
                refine r_putI (by first | assumption | rfl) f_X5_131 rfl rfl rfl rfl dX5_carryOut_71 ?_
                refine r_goto dX5_carryOut_74 (tgt := 23) (by decide) ?_
                refine r_iload_n dX5_carryOut_23 2 rfl ?_
                refine r_if_eq dX5_carryOut_24 (tgt := 77) (by decide) (fun h24 => ?_) (fun h24 => absurd rfl h24)
                rw [Int32.add_zero]
                exact r_sub [0, 1] rfl (hx _ (by rw [up1_n (by omega)]; exact g1) (g2.1.fe FE.rf.up) ((hF.tr f1).up))
              · --f
                exact absurd rfl h54
            · --f
              exact absurd en (by first | exact h43 | exact Int32.not_lt.mpr h43)
      · rw [if_neg en] at hx
        refine r_iload_n dX5_carryOut_23 2 rfl ?_
        refine r_if_eq dX5_carryOut_24 (tgt := 77) (by decide) (fun h24 => ?_) (fun h24 => ?_)
        · --t
          exact absurd h24 (by decide)
        · --f
          refine r_aload_n dX5_carryOut_27 0 rfl ?_
          refine r_getI (by first | assumption | rfl) f_X5_131 rfl rfl dX5_carryOut_28 ?_
          refine r_aload_n dX5_carryOut_31 0 rfl ?_
          refine r_getI (by first | assumption | rfl) f_X5_120 rfl rfl dX5_carryOut_32 ?_
          refine r_icmp_ge dX5_carryOut_35 (tgt := 77) (by decide) (fun h35 => ?_) (fun h35 => ?_)
          · --t
            rw [e9, e8] at h35
            exact absurd h35 (nI_ge hi (by omega))
          · --f
            refine r_aload_n dX5_carryOut_38 0 rfl ?_
            refine r_iconst dX5_carryOut_39 (v := 1) rfl ?_
            refine r_callVi (As := [_]) c_X5_order (by first | assumption | rfl) l_X5_144 rfl rfl rfl (Nat.le_of_ble_eq_true rfl) dX5_carryOut_40 (t_X5_order1 e1 hW hR hP) (fun r40 u40 q40 => ?_)
            obtain ⟨hr, g1, g2, f1⟩ := q40
            cases hr
            refine r_if_lt dX5_carryOut_43 (tgt := 50) (by decide) (fun h43 => ?_) (fun h43 => ?_)
            · --t
              exact absurd (by first | exact h43 | exact Int32.not_le.mp h43) en
            · --f
              refine r_iconst dX5_carryOut_46 (v := 1) rfl ?_
              refine r_goto dX5_carryOut_47 (tgt := 51) (by decide) ?_
              refine r_istore_n (lo2 := [(0, _), (1, _), (2, _)]) dX5_carryOut_51 rfl (Nat.le_of_ble_eq_true rfl) [1, 2, 0] rfl ?_
              refine r_iload_n dX5_carryOut_52 1 rfl ?_
              refine r_iload_n dX5_carryOut_53 2 rfl ?_
              refine r_if_eq dX5_carryOut_54 (tgt := 61) (by decide) (fun h54 => ?_) (fun h54 => ?_)
              · --t
                exact absurd h54 (by decide)
              · --f
                refine r_iconst dX5_carryOut_57 (v := 1) rfl ?_
                refine r_goto dX5_carryOut_58 (tgt := 62) (by decide) ?_
                refine r_iadd dX5_carryOut_62 ?_
                refine r_istore_n (lo2 := [(0, _), (1, _), (2, _)]) dX5_carryOut_63 rfl (Nat.le_of_ble_eq_true rfl) [1, 0, 2] rfl ?_
                refine r_aload_n dX5_carryOut_64 0 rfl ?_
                refine r_dup dX5_carryOut_65 rfl ?_
                refine r_getI (by first | assumption | rfl) f_X5_131 rfl rfl dX5_carryOut_66 ?_
                refine r_iconst dX5_carryOut_69 (v := 1) rfl ?_
                refine r_iadd dX5_carryOut_70 ?_
                refine r_putI (by first | assumption | rfl) f_X5_131 rfl rfl rfl rfl dX5_carryOut_71 ?_
                refine r_goto dX5_carryOut_74 (tgt := 23) (by decide) ?_
                rw [nI_1]
                have g9 := g2.2.1
                have gR : RP ((up1 u40 190 (upd (u40 190) 9 (u40 190 9 + 1))) 191) (exR N (rO P len i)).2 := by rw [up1_n (by omega)]; exact g1
                have gM : PM (up1 u40 190 (upd (u40 190) 9 (u40 190 9 + 1))) P len := g2.1.fe FE.rf.up
                have gF : FG S0 (up1 u40 190 (upd (u40 190) 9 (u40 190 9 + 1))) := (hF.tr f1).up
                have gA : (up1 u40 190 (upd (u40 190) 9 (u40 190 9 + 1))) 190 9 = nI ((rO P len i).2.1 + 1) := by rw [up1_s, upd, if_pos rfl, g9, nI_1]
                by_cases e2 : len ≤ (rO P len i).2.1
                · rw [if_pos e2] at hx
                  refine r_iload_n dX5_carryOut_23 2 rfl ?_
                  refine r_if_eq dX5_carryOut_24 (tgt := 77) (by decide) (fun h24 => absurd h24 (by decide)) (fun h24 => ?_)
                  refine r_aload_n dX5_carryOut_27 0 rfl ?_
                  refine r_getI (by first | assumption | rfl) f_X5_131 rfl rfl dX5_carryOut_28 ?_
                  refine r_aload_n dX5_carryOut_31 0 rfl ?_
                  refine r_getI (by first | assumption | rfl) f_X5_120 rfl rfl dX5_carryOut_32 ?_
                  rw [gA, gM.1.1]
                  refine r_icmp_ge dX5_carryOut_35 (tgt := 77) (by decide) (fun h35 => ?_) (fun h35 => absurd (nI_le (a := len) (b := (rO P len i).2.1 + 1) (by omega) (by omega)) h35)
                  exact r_sub [0, 1] rfl (hx _ gR gM gF)
                · rw [if_neg e2] at hf hx
                  by_cases e3 : sg P len (rO P len i).2.1 = 59
                  · rw [if_pos e3] at hf
                    by_cases e4 : (rO P len i).2.1 + 1 < len
                    · refine ih (o + 1) _ _ _ (by omega) e4 hf ⟨gM, gA, by omega⟩ gR hWe gF (fun u z1 z2 z3 => ?_)
                      rw [show o + 1 + (cyN P len f ((rO P len i).2.1 + 1) (exR N (rO P len i)).2).1 = o + ((cyN P len f ((rO P len i).2.1 + 1) (exR N (rO P len i)).2).1 + 1) by omega]
                      exact hx u z1 z2 z3
                    · exfalso
                      have e5 : (rO P len i).2.1 + 1 = len := by omega
                      rw [e5] at hf
                      cases f with
                      | zero => exact absurd (show false = true from hf) (by decide)
                      | succ f => unfold fl at hf; rw [rO_end] at hf; exact absurd (show false = true from hf) (by decide)
                  · rw [if_neg e3] at hf
                    exact absurd (show false = true from hf) (by decide)
theorem t_X5_carryOut (hW : WN N) (hS : RP (S 191) N) (hH : HM S n h) (hP : PM S P len) : Call G (d + 9) M_X5_carryOut [rv G 190] S (fun r u => r = some (if carOk P len = true then nI (cyN P len 80 0 N).1 else -3) ∧ RP (u 191) (if carOk P len = true then (cyN P len 80 0 N).2 else N) ∧ HM u (if carOk P len = true then psN n else n) (if carOk P len = true then psH n h N else h) ∧ PM u P (if carOk P len = true then 0 else len) ∧ ∀ b, b ≠ 190 → b ≠ 191 → b ≠ 192 → b ≠ 193 → u b = S b) := by
  refine call_of (lo := [(0, rv G 190)]) (by decide +kernel) (Nat.le_of_ble_eq_true rfl) rfl ?_
  have hw := @t_X5_isWell G d S P len hP
  cases e : carOk P len
  · have ef : (fl P len 80 0).1 = false := e
    rw [ef] at hw
    refine r_aload_n dX5_carryOut_0 0 rfl ?_
    refine r_callVi (As := []) c_X5_isWell (by first | assumption | rfl) l_X5_148 rfl rfl rfl (Nat.le_of_ble_eq_true rfl) dX5_carryOut_1 hw (fun r1 u1 q1 => ?_)
    obtain ⟨hr, g1, f1⟩ := q1
    cases hr
    refine r_if_ne dX5_carryOut_4 (tgt := 10) (by decide) (fun h4 => ?_) (fun h4 => ?_)
    · --t
      exact absurd rfl h4
    · --f
      refine r_bipush dX5_carryOut_7 (v := -3) (by decide +kernel) ?_
      refine r_iret rfl dX5_carryOut_9 ?_
      exact ⟨rfl, by rw [f1.1 191 (by omega)]; exact hS, hH.same (f1.2 6 (by omega)) (f1.1 192 (by omega)), g1.1, fun b b1 _ _ _ => f1.1 b b1⟩
  · have ef : (fl P len 80 0).1 = true := e
    rw [ef] at hw
    have hW2 : WN (cyN P len 80 0 N).2 := wn_cy 80 0 N hW
    have hlen : 0 < len := by
      rcases Nat.eq_zero_or_pos len with z | z
      · subst z
        rw [show fl P 0 80 0 = (if (rO P 0 0).1 = true then (if 0 ≤ (rO P 0 0).2.1 then (true, (rO P 0 0).2.1) else if sg P 0 (rO P 0 0).2.1 = 59 then fl P 0 79 ((rO P 0 0).2.1 + 1) else (false, (rO P 0 0).2.1)) else (false, (rO P 0 0).2.1)) from rfl, rO_end] at ef
        exact absurd (show false = true from ef) (by decide)
      · exact z
    rw [if_pos rfl, if_pos rfl, if_pos rfl, if_pos rfl, if_pos rfl]
    refine r_aload_n dX5_carryOut_0 0 rfl ?_
    refine r_callVi (As := []) c_X5_isWell (by first | assumption | rfl) l_X5_148 rfl rfl rfl (Nat.le_of_ble_eq_true rfl) dX5_carryOut_1 hw (fun r1 u1 q1 => ?_)
    obtain ⟨hr, g1, f1⟩ := q1
    cases hr
    refine r_if_ne dX5_carryOut_4 (tgt := 10) (by decide) (fun h4 => ?_) (fun h4 => ?_)
    · --t
      refine r_aload_n dX5_carryOut_10 0 rfl ?_
      refine r_callVvF (As := []) c_X5_remember (by first | assumption | rfl) l_X5_59 rfl rfl rfl (Nat.le_of_ble_eq_true rfl) dX5_carryOut_11 t_X5_remember ?_
      refine r_aload_n dX5_carryOut_14 0 rfl ?_
      refine r_iconst dX5_carryOut_15 (v := 0) rfl ?_
      refine r_putI (by first | assumption | rfl) f_X5_131 rfl rfl rfl rfl dX5_carryOut_16 ?_
      refine r_iconst dX5_carryOut_19 (v := 0) rfl ?_
      refine r_istore_n (lo2 := [(0, _), (1, _)]) dX5_carryOut_20 rfl (Nat.le_of_ble_eq_true rfl) [1, 0] rfl ?_
      refine r_iconst dX5_carryOut_21 (v := 1) rfl ?_
      refine r_istore_n (lo2 := [(0, _), (1, _), (2, _)]) dX5_carryOut_22 rfl (Nat.le_of_ble_eq_true rfl) [1, 2, 0] rfl ?_
      have a1 : RP (u1 191) N := by rw [f1.1 191 (by omega)]; exact hS
      have aH : HM u1 n h := hH.same (f1.2 6 (by omega)) (f1.1 192 (by omega))
      have b1 := rem_R a1
      have b2 := rem_B a1 hW.cn.2
      have b3 := aH.rem
      have b4 : PM (up1 u1 193 (va_cpy (u1 191) (u1 193) 0 0 275)) P len := ⟨by rw [up1_n (by omega)]; exact g1.1.1, fun j hj => by rw [up1_n (by omega)]; exact g1.1.2 j hj⟩
      have b5 : ∀ b, b ≠ 190 → b ≠ 193 → (up1 u1 193 (va_cpy (u1 191) (u1 193) 0 0 275)) b = S b := fun b h1 h2 => (up1_n h2).trans (f1.1 b h1)
      revert b1 b2 b3 b4 b5
      generalize (up1 u1 193 (va_cpy (u1 191) (u1 193) 0 0 275)) = w
      intro b1 b2 b3 b4 b5
      refine lp_X5_carry (S0 := w) (P := P) (len := len) (d := d + 1) 80 0 0 N _ (by omega) hlen ef (b4.at rfl (Nat.zero_le _)) (by rw [up1_n (by omega)]; exact b1) hW (FG.rf.up) (fun u z1 z2 z3 => ?_)
      rw [Nat.zero_add]
      have hcn : ¬ nI (cyN P len 80 0 N).1 < 0 := nI_pos (by have := @cy_le P len 80 0 N; omega)
      have cH : HM (up1 u 190 (upd (u 190) 8 0)) n h := b3.same (by rw [up1_s, upd, if_neg (by omega)]; exact z3.2 6 (by omega)) (by rw [up1_n (by omega)]; exact z3.1 192 (by omega) (by omega))
      have cB : RP ((up1 u 190 (upd (u 190) 8 0)) 193) N := by rw [up1_n (by omega), z3.1 193 (by omega) (by omega)]; exact b2
      refine r_aload_n dX5_carryOut_77 0 rfl ?_
      refine r_iconst dX5_carryOut_78 (v := 0) rfl ?_
      refine r_putI (by first | assumption | rfl) f_X5_120 rfl rfl rfl rfl dX5_carryOut_79 ?_
      refine r_aload_n dX5_carryOut_82 0 rfl ?_
      refine r_iload_n dX5_carryOut_83 1 rfl ?_
      refine r_callVi (As := [_]) c_X5_record (by first | assumption | rfl) l_X5_62 rfl rfl rfl (Nat.le_of_ble_eq_true rfl) dX5_carryOut_84 (t_X5_record cH hW cB) (fun r84 u84 q84 => ?_)
      obtain ⟨hr, g4, f4, f5⟩ := q84
      cases hr
      refine r_iret rfl dX5_carryOut_87 ?_
      unfold rcN rcH at g4
      rw [if_neg hcn, if_neg hcn] at g4
      refine ⟨rfl, by rw [f4 191 (by omega) (by omega), up1_n (by omega)]; exact z1, g4, ⟨⟨?_, by omega⟩, fun j hj => absurd hj (by omega)⟩, fun b h1 h2 h3 h4 => ?_⟩
      · rw [f5 8 (by omega), up1_s, upd, if_pos rfl]; rfl
      · rw [f4 b h1 h3, up1_n h1, z3.1 b h1 h2, b5 b h1 h4]
    · --f
      exact absurd h4 (by decide)
end MODR
