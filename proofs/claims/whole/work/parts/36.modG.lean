/-! the reference's public changes -/
def FY (S u : mS) : Prop := (∀ b, b ≠ 190 → b ≠ 191 → b ≠ 192 → b ≠ 193 → u b = S b) ∧ ∀ k, k ≠ 6 → u 190 k = S 190 k
theorem FY.rf {S : mS} : FY S S := ⟨fun _ _ _ _ _ => rfl, fun _ _ => rfl⟩
theorem HM.same {S u : mS} {n : Nat} {h : Nat → mN} (g : HM S n h) (e1 : u 190 6 = S 190 6) (e2 : u 192 = S 192) : HM u n h := by
  refine ⟨⟨e1.trans g.1.1, g.1.2⟩, fun i hi => ⟨(g.2 i hi).1, ?_⟩⟩
  rw [e2]; exact (g.2 i hi).2
theorem HM.f1 {S u : mS} {n : Nat} {h : Nat → mN} (g : HM S n h) (k : F1 S u) : HM u n h := g.same (by rw [k 190 (by omega)]) (k 192 (by omega))
theorem HM.rem {S : mS} {n : Nat} {h : Nat → mN} (g : HM S n h) : HM (up1 S 193 (va_cpy (S 191) (S 193) 0 0 275)) n h := g.same (by rw [up1_n (by omega)]) (up1_n (by omega))
theorem rem_R {S : mS} {N : mN} (h : RP (S 191) N) : RP ((up1 S 193 (va_cpy (S 191) (S 193) 0 0 275)) 191) N := by rw [up1_n (by omega)]; exact h
theorem rem_B {S : mS} {N : mN} (h : RP (S 191) N) (hc : cnt N ≤ 5) : RP ((up1 S 193 (va_cpy (S 191) (S 193) 0 0 275)) 193) N := by
  rw [up1_s]
  refine h.off hc (fun i hi => ?_)
  rw [pk_cpy_in (by omega) (by omega), show 0 + (i - 0) = i by omega]
theorem rem_B1 {S u : mS} {N : mN} (h : RP (S 191) N) (hc : cnt N ≤ 5) (k : F1 (up1 S 193 (va_cpy (S 191) (S 193) 0 0 275)) u) : RP (u 193) N := by
  rw [k 193 (by omega)]; exact rem_B h hc
theorem FY.mk3 {S u w : mS} (k : F1 (up1 S 193 (va_cpy (S 191) (S 193) 0 0 275)) u) (f3 : ∀ b, b ≠ 190 → b ≠ 192 → w b = u b) (f4 : ∀ k, k ≠ 6 → w 190 k = u 190 k) : FY S w := by
  refine ⟨fun b b1 b2 b3 b4 => ?_, fun j hj => ?_⟩
  · rw [f3 b b1 b3, k b b2, up1_n b4]
  · rw [f4 j hj, k 190 (by omega), up1_n (by omega)]
/-- slots, laid flat -/
def SM (S : mS) (sv : Nat → Bool) (sl : Nat → mN) : Prop := ∀ j, j < 2 → S 196 j = bI (sv j) ∧ (sv j = true → WN (sl j) ∧ RP (fun i => S 195 (275 * j + i)) (sl j))
theorem SM.same {S u : mS} {sv : Nat → Bool} {sl : Nat → mN} (g : SM S sv sl) (e1 : u 196 = S 196) (e2 : u 195 = S 195) : SM u sv sl := by
  intro j hj; rw [e1, e2]; exact g j hj
section MODEL
variable {G : mG} {d : Nat} {S : mS} {N : mN} {n : Nat} {h : Nat → mN} {t k c s v m : Int32}
theorem t_X5_troop (hW : WN N) (hS : RP (S 191) N) (hH : HM S n h) : Call G (d + 7) M_X5_troop [rv G 190, .int s] S (fun v u => v = some (addO N s).1 ∧ RP (u 191) (addO N s).2 ∧ HM u (rcN (addO N s).1 n) (rcH (addO N s).1 n h N) ∧ FY S u) := by
  refine call_of (lo := [(0, rv G 190), (1, .int s)]) (by decide +kernel) (Nat.le_of_ble_eq_true rfl) rfl ?_
  refine r_aload_n dX5_troop_0 0 rfl ?_
  refine r_callVvF (As := []) c_X5_remember (by first | assumption | rfl) l_X5_59 rfl rfl rfl (Nat.le_of_ble_eq_true rfl) dX5_troop_1 t_X5_remember ?_
  refine r_aload_n dX5_troop_4 0 rfl ?_
  refine r_aload_n dX5_troop_5 0 rfl ?_
  refine r_iload_n dX5_troop_6 1 rfl ?_
  refine r_callVi (As := [_]) c_X5_begins (by first | assumption | rfl) l_X5_102 rfl rfl rfl (Nat.le_of_ble_eq_true rfl) dX5_troop_7 (t_X5_begins hW (rem_R hS)) (fun r7 u7 q7 => ?_)
  obtain ⟨e2, g2, f2⟩ := q7
  cases e2
  refine r_callVi (As := [_]) c_X5_record (by first | assumption | rfl) l_X5_62 rfl rfl rfl (Nat.le_of_ble_eq_true rfl) dX5_troop_10 (t_X5_record (hH.rem.f1 f2) hW (rem_B1 hS hW.cn.2 f2)) (fun r10 u10 q10 => ?_)
  obtain ⟨e3, g3, f3, f4⟩ := q10
  cases e3
  refine r_iret rfl dX5_troop_13 ?_
  exact ⟨rfl, by rw [f3 191 (by omega) (by omega)]; exact g2, g3, FY.mk3 f2 f3 f4⟩
theorem t_X5_resize (hW : WN N) (hS : RP (S 191) N) (hH : HM S n h) : Call G (d + 7) M_X5_resize [rv G 190, .int t, .int s] S (fun v u => v = some (rszO N t s).1 ∧ RP (u 191) (rszO N t s).2 ∧ HM u (rcN (rszO N t s).1 n) (rcH (rszO N t s).1 n h N) ∧ FY S u) := by
  refine call_of (lo := [(0, rv G 190), (1, .int t), (2, .int s)]) (by decide +kernel) (Nat.le_of_ble_eq_true rfl) rfl ?_
  refine r_aload_n dX5_resize_0 0 rfl ?_
  refine r_callVvF (As := []) c_X5_remember (by first | assumption | rfl) l_X5_59 rfl rfl rfl (Nat.le_of_ble_eq_true rfl) dX5_resize_1 t_X5_remember ?_
  refine r_aload_n dX5_resize_4 0 rfl ?_
  refine r_aload_n dX5_resize_5 0 rfl ?_
  refine r_iload_n dX5_resize_6 1 rfl ?_
  refine r_iload_n dX5_resize_7 2 rfl ?_
  refine r_callVi (As := [_, _]) c_X5_sizes (by first | assumption | rfl) l_X5_105 rfl rfl rfl (Nat.le_of_ble_eq_true rfl) dX5_resize_8 (t_X5_sizes hW (rem_R hS)) (fun r8 u8 q8 => ?_)
  obtain ⟨e2, g2, f2⟩ := q8
  cases e2
  refine r_callVi (As := [_]) c_X5_record (by first | assumption | rfl) l_X5_62 rfl rfl rfl (Nat.le_of_ble_eq_true rfl) dX5_resize_11 (t_X5_record (hH.rem.f1 f2) hW (rem_B1 hS hW.cn.2 f2)) (fun r11 u11 q11 => ?_)
  obtain ⟨e3, g3, f3, f4⟩ := q11
  cases e3
  refine r_iret rfl dX5_resize_14 ?_
  exact ⟨rfl, by rw [f3 191 (by omega) (by omega)]; exact g2, g3, FY.mk3 f2 f3 f4⟩
theorem t_X5_come (hW : WN N) (hS : RP (S 191) N) (hH : HM S n h) : Call G (d + 7) M_X5_come [rv G 190, .int t, .int k, .int c] S (fun v u => v = some (comO N t k c).1 ∧ RP (u 191) (comO N t k c).2 ∧ HM u (rcN (comO N t k c).1 n) (rcH (comO N t k c).1 n h N) ∧ FY S u) := by
  refine call_of (lo := [(0, rv G 190), (1, .int t), (2, .int k), (3, .int c)]) (by decide +kernel) (Nat.le_of_ble_eq_true rfl) rfl ?_
  refine r_aload_n dX5_come_0 0 rfl ?_
  refine r_callVvF (As := []) c_X5_remember (by first | assumption | rfl) l_X5_59 rfl rfl rfl (Nat.le_of_ble_eq_true rfl) dX5_come_1 t_X5_remember ?_
  refine r_aload_n dX5_come_4 0 rfl ?_
  refine r_aload_n dX5_come_5 0 rfl ?_
  refine r_iload_n dX5_come_6 1 rfl ?_
  refine r_iload_n dX5_come_7 2 rfl ?_
  refine r_iload_n dX5_come_8 3 rfl ?_
  refine r_callVi (As := [_, _, _]) c_X5_comes (by first | assumption | rfl) l_X5_108 rfl rfl rfl (Nat.le_of_ble_eq_true rfl) dX5_come_9 (t_X5_comes hW (rem_R hS)) (fun r9 u9 q9 => ?_)
  obtain ⟨e2, g2, f2⟩ := q9
  cases e2
  refine r_callVi (As := [_]) c_X5_record (by first | assumption | rfl) l_X5_62 rfl rfl rfl (Nat.le_of_ble_eq_true rfl) dX5_come_12 (t_X5_record (hH.rem.f1 f2) hW (rem_B1 hS hW.cn.2 f2)) (fun r12 u12 q12 => ?_)
  obtain ⟨e3, g3, f3, f4⟩ := q12
  cases e3
  refine r_iret rfl dX5_come_15 ?_
  exact ⟨rfl, by rw [f3 191 (by omega) (by omega)]; exact g2, g3, FY.mk3 f2 f3 f4⟩
theorem t_X5_lose (hW : WN N) (hS : RP (S 191) N) (hH : HM S n h) : Call G (d + 7) M_X5_lose [rv G 190, .int t, .int k] S (fun v u => v = some (losO N t k).1 ∧ RP (u 191) (losO N t k).2 ∧ HM u (rcN (losO N t k).1 n) (rcH (losO N t k).1 n h N) ∧ FY S u) := by
  refine call_of (lo := [(0, rv G 190), (1, .int t), (2, .int k)]) (by decide +kernel) (Nat.le_of_ble_eq_true rfl) rfl ?_
  refine r_aload_n dX5_lose_0 0 rfl ?_
  refine r_callVvF (As := []) c_X5_remember (by first | assumption | rfl) l_X5_59 rfl rfl rfl (Nat.le_of_ble_eq_true rfl) dX5_lose_1 t_X5_remember ?_
  refine r_aload_n dX5_lose_4 0 rfl ?_
  refine r_aload_n dX5_lose_5 0 rfl ?_
  refine r_iload_n dX5_lose_6 1 rfl ?_
  refine r_iload_n dX5_lose_7 2 rfl ?_
  refine r_callVi (As := [_, _]) c_X5_loses (by first | assumption | rfl) l_X5_111 rfl rfl rfl (Nat.le_of_ble_eq_true rfl) dX5_lose_8 (t_X5_loses hW (rem_R hS)) (fun r8 u8 q8 => ?_)
  obtain ⟨e2, g2, f2⟩ := q8
  cases e2
  refine r_callVi (As := [_]) c_X5_record (by first | assumption | rfl) l_X5_62 rfl rfl rfl (Nat.le_of_ble_eq_true rfl) dX5_lose_11 (t_X5_record (hH.rem.f1 f2) hW (rem_B1 hS hW.cn.2 f2)) (fun r11 u11 q11 => ?_)
  obtain ⟨e3, g3, f3, f4⟩ := q11
  cases e3
  refine r_iret rfl dX5_lose_14 ?_
  exact ⟨rfl, by rw [f3 191 (by omega) (by omega)]; exact g2, g3, FY.mk3 f2 f3 f4⟩
theorem t_X5_pass (hW : WN N) (hS : RP (S 191) N) (hH : HM S n h) : Call G (d + 7) M_X5_pass [rv G 190, .int t] S (fun v u => v = some (pasO N t).1 ∧ RP (u 191) (pasO N t).2 ∧ HM u (rcN (pasO N t).1 n) (rcH (pasO N t).1 n h N) ∧ FY S u) := by
  refine call_of (lo := [(0, rv G 190), (1, .int t)]) (by decide +kernel) (Nat.le_of_ble_eq_true rfl) rfl ?_
  refine r_aload_n dX5_pass_0 0 rfl ?_
  refine r_callVvF (As := []) c_X5_remember (by first | assumption | rfl) l_X5_59 rfl rfl rfl (Nat.le_of_ble_eq_true rfl) dX5_pass_1 t_X5_remember ?_
  refine r_aload_n dX5_pass_4 0 rfl ?_
  refine r_aload_n dX5_pass_5 0 rfl ?_
  refine r_iload_n dX5_pass_6 1 rfl ?_
  refine r_callVi (As := [_]) c_X5_waits (by first | assumption | rfl) l_X5_114 rfl rfl rfl (Nat.le_of_ble_eq_true rfl) dX5_pass_7 (t_X5_waits hW (rem_R hS)) (fun r7 u7 q7 => ?_)
  obtain ⟨e2, g2, f2⟩ := q7
  cases e2
  refine r_callVi (As := [_]) c_X5_record (by first | assumption | rfl) l_X5_62 rfl rfl rfl (Nat.le_of_ble_eq_true rfl) dX5_pass_10 (t_X5_record (hH.rem.f1 f2) hW (rem_B1 hS hW.cn.2 f2)) (fun r10 u10 q10 => ?_)
  obtain ⟨e3, g3, f3, f4⟩ := q10
  cases e3
  refine r_iret rfl dX5_pass_13 ?_
  exact ⟨rfl, by rw [f3 191 (by omega) (by omega)]; exact g2, g3, FY.mk3 f2 f3 f4⟩
theorem t_X5_find (hW : WN N) (hS : RP (S 191) N) (hH : HM S n h) : Call G (d + 7) M_X5_find [rv G 190, .int t, .int k] S (fun v u => v = some (finO N t k).1 ∧ RP (u 191) (finO N t k).2 ∧ HM u (rcN (finO N t k).1 n) (rcH (finO N t k).1 n h N) ∧ FY S u) := by
  refine call_of (lo := [(0, rv G 190), (1, .int t), (2, .int k)]) (by decide +kernel) (Nat.le_of_ble_eq_true rfl) rfl ?_
  unfold finO
  rcases sc_cases hW t k with g | ⟨T, K, g, -, rfl, hT, hT5, eT, rfl, hK, hK16, eK⟩
  · rw [g, if_neg (show ¬ false = true by decide)]
    refine r_aload_n dX5_find_0 0 rfl ?_
    refine r_iload_n dX5_find_1 1 rfl ?_
    refine r_iload_n dX5_find_2 2 rfl ?_
    refine r_callViF (As := [_, _]) c_X5_isScout (by first | assumption | rfl) l_X5_93 rfl rfl rfl (Nat.le_of_ble_eq_true rfl) dX5_find_3 (t_X5_isScout hW hS) ?_
    refine r_if_ne dX5_find_6 (tgt := 11) (by decide) (fun h6 => ?_) (fun h6 => ?_)
    · --t
      exact absurd (bI_not g) h6
    · --f
      refine r_iconst dX5_find_9 (v := -1) rfl ?_
      refine r_iret rfl dX5_find_10 ?_
      exact ⟨rfl, hS, hH, FY.rf⟩
  · have hTT := hS.2 T hT
    have hT2 := (rem_R hS).2 T hT
    rw [g, if_pos rfl, eT, eK]
    by_cases h4 : (N.2 T).2.1 K = 4
    · rw [if_pos h4]
      refine r_aload_n dX5_find_0 0 rfl ?_
      refine r_iload_n dX5_find_1 1 rfl ?_
      refine r_iload_n dX5_find_2 2 rfl ?_
      refine r_callViF (As := [_, _]) c_X5_isScout (by first | assumption | rfl) l_X5_93 rfl rfl rfl (Nat.le_of_ble_eq_true rfl) dX5_find_3 (t_X5_isScout hW hS) ?_
      refine r_if_ne dX5_find_6 (tgt := 11) (by decide) (fun h6 => ?_) (fun h6 => ?_)
      · --t
        refine r_aload_n dX5_find_11 0 rfl ?_
        refine r_iload_n dX5_find_12 1 rfl ?_
        refine r_iload_n dX5_find_13 2 rfl ?_
        refine r_iconst dX5_find_14 (v := 0) rfl ?_
        refine r_callViF (As := [_, _, _]) c_X5_scout (by first | assumption | rfl) l_X5_47 rfl rfl rfl (Nat.le_of_ble_eq_true rfl) dX5_find_15 (t_X5_scout0 hK16 hT5 hTT) ?_
        refine r_iconst dX5_find_18 (v := 4) rfl ?_
        refine r_icmp_eq dX5_find_19 (tgt := 25) (by decide) (fun h19 => ?_) (fun h19 => ?_)
        · --t
          refine r_aload_n dX5_find_25 0 rfl ?_
          refine r_callVvF (As := []) c_X5_remember (by first | assumption | rfl) l_X5_59 rfl rfl rfl (Nat.le_of_ble_eq_true rfl) dX5_find_26 t_X5_remember ?_
          refine r_aload_n dX5_find_29 0 rfl ?_
          refine r_iload_n dX5_find_30 1 rfl ?_
          refine r_iload_n dX5_find_31 2 rfl ?_
          refine r_iconst dX5_find_32 (v := 1) rfl ?_
          refine r_callViF (As := [_, _, _]) c_X5_scout (by first | assumption | rfl) l_X5_47 rfl rfl rfl (Nat.le_of_ble_eq_true rfl) dX5_find_33 (t_X5_scout1 hK16 hT5 hT2) ?_
          refine r_istore_n (lo2 := [(0, _), (1, _), (2, _), (3, _)]) dX5_find_36 rfl (Nat.le_of_ble_eq_true rfl) [1, 2, 3, 0] rfl ?_
          refine r_aload_n dX5_find_37 0 rfl ?_
          refine r_iload_n dX5_find_38 1 rfl ?_
          refine r_iload_n dX5_find_39 2 rfl ?_
          refine r_iconst dX5_find_40 (v := 0) rfl ?_
          refine r_iconst dX5_find_41 (v := 0) rfl ?_
          refine r_callVv (As := [_, _, _, _]) c_X5_layScout (by first | assumption | rfl) l_X5_66 rfl rfl rfl (Nat.le_of_ble_eq_true rfl) dX5_find_42 (t_X5_layScout hK16 hT5 hT2) (fun u42 q42 => ?_)
          obtain ⟨-, g2, f2⟩ := q42
          refine r_aload_n dX5_find_45 0 rfl ?_
          refine r_iload_n dX5_find_46 3 rfl ?_
          refine r_callVi (As := [_]) c_X5_record (by first | assumption | rfl) l_X5_62 rfl rfl rfl (Nat.le_of_ble_eq_true rfl) dX5_find_47 (t_X5_record (hH.rem.f1 f2.f1) hW (rem_B1 hS hW.cn.2 f2.f1)) (fun r47 u47 q47 => ?_)
          obtain ⟨e3, g3, f3, f4⟩ := q47
          cases e3
          refine r_iret rfl dX5_find_50 ?_
          exact ⟨rfl, by rw [f3 191 (by omega) (by omega)]; exact (rem_R hS).tr g2 f2, g3, FY.mk3 f2.f1 f3 f4⟩
        · --f
          exact absurd h4 h19
      · --f
        exact absurd (bI_yes g) (by rw [h6]; decide)
    · rw [if_neg h4]
      refine r_aload_n dX5_find_0 0 rfl ?_
      refine r_iload_n dX5_find_1 1 rfl ?_
      refine r_iload_n dX5_find_2 2 rfl ?_
      refine r_callViF (As := [_, _]) c_X5_isScout (by first | assumption | rfl) l_X5_93 rfl rfl rfl (Nat.le_of_ble_eq_true rfl) dX5_find_3 (t_X5_isScout hW hS) ?_
      refine r_if_ne dX5_find_6 (tgt := 11) (by decide) (fun h6 => ?_) (fun h6 => ?_)
      · --t
        refine r_aload_n dX5_find_11 0 rfl ?_
        refine r_iload_n dX5_find_12 1 rfl ?_
        refine r_iload_n dX5_find_13 2 rfl ?_
        refine r_iconst dX5_find_14 (v := 0) rfl ?_
        refine r_callViF (As := [_, _, _]) c_X5_scout (by first | assumption | rfl) l_X5_47 rfl rfl rfl (Nat.le_of_ble_eq_true rfl) dX5_find_15 (t_X5_scout0 hK16 hT5 hTT) ?_
        refine r_iconst dX5_find_18 (v := 4) rfl ?_
        refine r_icmp_eq dX5_find_19 (tgt := 25) (by decide) (fun h19 => ?_) (fun h19 => ?_)
        · --t
          exact absurd h19 h4
        · --f
          refine r_bipush dX5_find_22 (v := -5) (by decide +kernel) ?_
          refine r_iret rfl dX5_find_24 ?_
          exact ⟨rfl, hS, hH, FY.rf⟩
      · --f
        exact absurd (bI_yes g) (by rw [h6]; decide)
end MODEL
