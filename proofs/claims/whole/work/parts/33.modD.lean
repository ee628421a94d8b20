/-! the reference: orders over its row -/
def RP (r : Nat → Int32) (N : mN) : Prop := (∀ j, j < 5 → r j = N.1 j) ∧ ∀ t, t < cnt N → MP r t (N.2 t)
def F1 (S u : mS) : Prop := ∀ b, b ≠ 191 → u b = S b
theorem F1.rf {S : mS} : F1 S S := fun _ _ => rfl
theorem F1.tr {S u w : mS} (h : F1 S u) (g : F1 u w) : F1 S w := fun b hb => (g b hb).trans (h b hb)
theorem F1.up {S u : mS} {f : Nat → Int32} (h : F1 S u) : F1 S (up1 u 191 f) := fun b hb => (up1_n hb).trans (h b hb)
theorem FM.f1 {t : Nat} {S u : mS} (h : FM t S u) : F1 S u := h.1
theorem RP.tr {S u : mS} {N : mN} {t : Nat} {T : mT} (h : RP (S 191) N) (hT : MP (u 191) t T) (hF : FM t S u) : RP (u 191) (setTr N t T) := by
  refine ⟨fun j hj => (hF.2 j (by omega)).trans (h.1 j hj), fun i hi => ?_⟩
  show MP (u 191) i (if i = t then T else N.2 i)
  by_cases e : i = t
  · subst e; rw [if_pos rfl]; exact hT
  · rw [if_neg e]; exact (h.2 i hi).off (fun x h1 h2 => hF.2 x (by omega))
theorem RP.gl {r : Nat → Int32} {N : mN} (h : RP r N) {i : Nat} (hi : i < 5) (h3 : i ≠ 3) (x : Int32) : RP (upd r i x) (upd N.1 i x, N.2) := by
  refine ⟨fun j hj => ?_, fun t ht => ?_⟩
  · show upd r i x j = upd N.1 i x j
    simp only [upd]; split
    · rfl
    · exact h.1 j hj
  · have e : cnt (upd N.1 i x, N.2) = cnt N := cnt_g (by simp only [upd]; rw [if_neg (fun z => h3 z.symm)])
    rw [e] at ht
    exact (h.2 t ht).off (fun y h1 h2 => by simp only [upd]; rw [if_neg (by omega)])
theorem isTr_le {N : mN} (hW : WN N) (t : Int32) : decide (0 ≤ t ∧ t ≤ N.1 3 - 1) = isTr N t := by
  obtain ⟨hc, hc5⟩ := hW.cn
  unfold isTr
  congr 1
  have e : (N.1 3 - 1).toInt = (cnt N : Int) - 1 := by rw [hc, show (1 : Int32) = nI 1 from rfl, pk_sub_toInt (by omega) (by omega)]; rfl
  have e2 : (N.1 3).toInt = (cnt N : Int) := by rw [hc, nI_toInt (by omega)]
  simp only [Int32.le_iff_toInt_le, Int32.lt_iff_toInt_lt, e, e2]
  apply propext
  omega
theorem sz_le {x : Int32} {n : Nat} (h1 : x = nI n) (hn : n < 1000) (k : Int32) : decide (0 ≤ k ∧ k ≤ x - 1) = decide (0 ≤ k ∧ k < x) := by
  congr 1
  have e : (x - 1).toInt = (n : Int) - 1 := by rw [h1, show (1 : Int32) = nI 1 from rfl, pk_sub_toInt (by omega) (by omega)]; rfl
  have e2 : x.toInt = (n : Int) := by rw [h1, nI_toInt (by omega)]
  simp only [Int32.le_iff_toInt_le, Int32.lt_iff_toInt_lt, e, e2]
  apply propext
  omega
section MODEL
variable {G : mG} {d : Nat} {S : mS} {N : mN} {t k c s m : Int32}
theorem t_X5_isTroop (hW : WN N) (hR : RP (S 191) N) : Call G (d + 1) M_X5_isTroop [rv G 190, .int t] S (fun v u => v = some (bI (isTr N t)) ∧ u = S) := by
  refine call_of (lo := [(0, rv G 190), (1, .int t)]) (by decide +kernel) (Nat.le_of_ble_eq_true rfl) rfl ?_
  refine r_iload_n dX5_isTroop_0 1 rfl ?_
  refine r_i2l dX5_isTroop_1 ?_
  refine r_iconst dX5_isTroop_2 (v := 0) rfl ?_
  refine r_aload_n dX5_isTroop_3 0 rfl ?_
  refine r_getR (b := 191) (by first | assumption | rfl) f_X5_7 rfl rfl dX5_isTroop_4 rfl ?_
  refine r_iconst dX5_isTroop_7 (v := 3) rfl ?_
  refine r_iald (j := 3) (by first | assumption | rfl) (by first | assumption | rfl) (show 3 < ln 191 by decide) dX5_isTroop_8 ?_
  refine r_iconst dX5_isTroop_9 (v := 1) rfl ?_
  refine r_isub dX5_isTroop_10 ?_
  refine r_callSiF (As := [_, _, _]) c_X5_in l_X5_35 rfl rfl rfl (Nat.le_of_ble_eq_true rfl) dX5_isTroop_11 in_i ?_
  refine r_zret rfl (bI_nar _) dX5_isTroop_14 ?_
  exact ⟨by rw [hR.1 3 (by decide), isTr_le hW], rfl⟩
theorem t_X5_isScout (hW : WN N) (hR : RP (S 191) N) : Call G (d + 2) M_X5_isScout [rv G 190, .int t, .int k] S (fun v u => v = some (bI (isSc N t k)) ∧ u = S) := by
  refine call_of (lo := [(0, rv G 190), (1, .int t), (2, .int k)]) (by decide +kernel) (Nat.le_of_ble_eq_true rfl) rfl ?_
  rcases tr_cases hW t with h | ⟨T, h, rfl, hT, hT5, eT⟩
  ·
    refine r_aload_n dX5_isScout_0 0 rfl ?_
    refine r_iload_n dX5_isScout_1 1 rfl ?_
    refine r_callViF (As := [_]) c_X5_isTroop (by first | assumption | rfl) l_X5_39 rfl rfl rfl (Nat.le_of_ble_eq_true rfl) dX5_isScout_2 (t_X5_isTroop hW hR) ?_
    refine r_if_eq dX5_isScout_5 (tgt := 29) (by decide) (fun h5 => ?_) (fun h5 => ?_)
    · --t
      refine r_iconst dX5_isScout_29 (v := 0) rfl ?_
      refine r_zret rfl (by first | rfl | decide) dX5_isScout_30 ?_
      exact ⟨by unfold isSc; rw [h]; rfl, rfl⟩
    · --f
      exact absurd (bI_not h) h5
  · have hTT := hR.2 T hT
    obtain ⟨s, e1, e2, e3, e4⟩ := (hW.2 T hT).sz
    have e5 : isSc N (nI T) k = decide (0 ≤ k ∧ k ≤ (N.2 T).1 0 - 1) := by unfold isSc; rw [h, eT, sz_le e2 (by omega)]; rfl
    refine r_aload_n dX5_isScout_0 0 rfl ?_
    refine r_iload_n dX5_isScout_1 1 rfl ?_
    refine r_callViF (As := [_]) c_X5_isTroop (by first | assumption | rfl) l_X5_39 rfl rfl rfl (Nat.le_of_ble_eq_true rfl) dX5_isScout_2 (t_X5_isTroop hW hR) ?_
    refine r_if_eq dX5_isScout_5 (tgt := 29) (by decide) (fun h5 => ?_) (fun h5 => ?_)
    · --t
      exact absurd (bI_yes h) (by rw [h5]; decide)
    · --f
      refine r_iload_n dX5_isScout_8 2 rfl ?_
      refine r_i2l dX5_isScout_9 ?_
      refine r_iconst dX5_isScout_10 (v := 0) rfl ?_
      refine r_aload_n dX5_isScout_11 0 rfl ?_
      refine r_iload_n dX5_isScout_12 1 rfl ?_
      refine r_iconst dX5_isScout_13 (v := 0) rfl ?_
      refine r_callViF (As := [_, _]) c_X5_its (by first | assumption | rfl) l_X5_43 rfl rfl rfl (Nat.le_of_ble_eq_true rfl) dX5_isScout_14 (t_X5_its (W := 0) rfl (by decide) hT5 hTT) ?_
      refine r_iconst dX5_isScout_17 (v := 1) rfl ?_
      refine r_isub dX5_isScout_18 ?_
      refine r_callSiF (As := [_, _, _]) c_X5_in l_X5_35 rfl rfl rfl (Nat.le_of_ble_eq_true rfl) dX5_isScout_19 in_i ?_
      refine r_if_eq dX5_isScout_22 (tgt := 29) (by decide) (fun h22 => ?_) (fun h22 => ?_)
      · --t
        refine r_iconst dX5_isScout_29 (v := 0) rfl ?_
        refine r_zret rfl (by first | rfl | decide) dX5_isScout_30 ?_
        rw [e5]
        exact ⟨by first | (rw [bI_0] at h22; rw [h22]; rfl) | (rw [bI_0, Bool.not_eq_false] at h22; rw [h22]; rfl), rfl⟩
      · --f
        refine r_iconst dX5_isScout_25 (v := 1) rfl ?_
        refine r_goto dX5_isScout_26 (tgt := 30) (by decide) ?_
        refine r_zret rfl (by first | rfl | decide) dX5_isScout_30 ?_
        rw [e5]
        exact ⟨by first | (rw [bI_0] at h22; rw [h22]; rfl) | (rw [bI_0, Bool.not_eq_false] at h22; rw [h22]; rfl), rfl⟩
theorem bI_nf {b : Bool} (h : ¬ bI b = 0) : b = true := by cases b; exact absurd rfl h; rfl
theorem t_X5_why (hW : WN N) (hR : RP (S 191) N) : Call G (d + 3) M_X5_why [rv G 190, .int t, .int k, .int c] S (fun v u => v = some (whyA N t k c) ∧ u = S) := by
  refine call_of (lo := [(0, rv G 190), (1, .int t), (2, .int k), (3, .int c)]) (by decide +kernel) (Nat.le_of_ble_eq_true rfl) rfl ?_
  rcases sc_cases hW t k with h | ⟨T, K, h, -, rfl, hT, hT5, eT, rfl, hK, hK16, eK⟩
  ·
    refine r_aload_n dX5_why_0 0 rfl ?_
    refine r_iload_n dX5_why_1 1 rfl ?_
    refine r_iload_n dX5_why_2 2 rfl ?_
    refine r_callViF (As := [_, _]) c_X5_isScout (by first | assumption | rfl) l_X5_93 rfl rfl rfl (Nat.le_of_ble_eq_true rfl) dX5_why_3 (t_X5_isScout hW hR) ?_
    refine r_if_ne dX5_why_6 (tgt := 11) (by decide) (fun h6 => ?_) (fun h6 => ?_)
    · --t
      exact absurd (bI_not h) h6
    · --f
      refine r_iconst dX5_why_9 (v := -1) rfl ?_
      refine r_iret rfl dX5_why_10 ?_
      exact ⟨by unfold whyA; rw [h]; rfl, rfl⟩
  · have hTT := hR.2 T hT
    refine r_aload_n dX5_why_0 0 rfl ?_
    refine r_iload_n dX5_why_1 1 rfl ?_
    refine r_iload_n dX5_why_2 2 rfl ?_
    refine r_callViF (As := [_, _]) c_X5_isScout (by first | assumption | rfl) l_X5_93 rfl rfl rfl (Nat.le_of_ble_eq_true rfl) dX5_why_3 (t_X5_isScout hW hR) ?_
    refine r_if_ne dX5_why_6 (tgt := 11) (by decide) (fun h6 => ?_) (fun h6 => ?_)
    · --t
      refine r_iload_n dX5_why_11 3 rfl ?_
      refine r_i2l dX5_why_12 ?_
      refine r_iconst dX5_why_13 (v := 0) rfl ?_
      refine r_iconst dX5_why_14 (v := 1) rfl ?_
      refine r_callSiF (As := [_, _, _]) c_X5_in l_X5_35 rfl rfl rfl (Nat.le_of_ble_eq_true rfl) dX5_why_15 in_i ?_
      refine r_if_ne dX5_why_18 (tgt := 24) (by decide) (fun h18 => ?_) (fun h18 => ?_)
      · --t
        refine r_aload_n dX5_why_24 0 rfl ?_
        refine r_iload_n dX5_why_25 1 rfl ?_
        refine r_iload_n dX5_why_26 2 rfl ?_
        refine r_iconst dX5_why_27 (v := 0) rfl ?_
        refine r_callViF (As := [_, _, _]) c_X5_scout (by first | assumption | rfl) l_X5_47 rfl rfl rfl (Nat.le_of_ble_eq_true rfl) dX5_why_28 (t_X5_scout0 hK16 hT5 hTT) ?_
        refine r_istore (lo2 := [(0, _), (1, _), (2, _), (3, _), (4, _)]) dX5_why_31 (Nat.le_of_ble_eq_true rfl) [1, 2, 3, 4, 0] rfl ?_
        refine r_iload dX5_why_33 4 rfl ?_
        refine r_iconst dX5_why_35 (v := 3) rfl ?_
        refine r_icmp_ne dX5_why_36 (tgt := 43) (by decide) (fun h36 => ?_) (fun h36 => ?_)
        · --t
          refine r_iload dX5_why_43 4 rfl ?_
          refine r_iconst dX5_why_45 (v := 1) rfl ?_
          refine r_icmp_ne dX5_why_46 (tgt := 53) (by decide) (fun h46 => ?_) (fun h46 => ?_)
          · --t
            refine r_iload dX5_why_53 4 rfl ?_
            refine r_iconst dX5_why_55 (v := 2) rfl ?_
            refine r_icmp_ne dX5_why_56 (tgt := 63) (by decide) (fun h56 => ?_) (fun h56 => ?_)
            · --t
              refine r_iload_n dX5_why_63 3 rfl ?_
              refine r_aload_n dX5_why_64 0 rfl ?_
              refine r_iload_n dX5_why_65 1 rfl ?_
              refine r_iconst dX5_why_66 (v := 1) rfl ?_
              refine r_callViF (As := [_, _]) c_X5_its (by first | assumption | rfl) l_X5_43 rfl rfl rfl (Nat.le_of_ble_eq_true rfl) dX5_why_67 (t_X5_its (W := 1) rfl (by decide) hT5 hTT) ?_
              refine r_icmp_ne dX5_why_70 (tgt := 77) (by decide) (fun h70 => ?_) (fun h70 => ?_)
              · --t
                refine r_iconst dX5_why_77 (v := 4) rfl ?_
                refine r_iret rfl dX5_why_78 ?_
                rw [bI_n0, decide_eq_true_iff] at h18
                refine ⟨?_, rfl⟩
                unfold whyA
                rw [h, if_pos rfl, if_neg (fun z => z.elim (Int32.not_lt.mpr h18.1) (Int32.not_lt.mpr h18.2)), eT, eK]
                unfold whyT
                simp_all
              · --f
                refine r_iconst dX5_why_73 (v := 0) rfl ?_
                refine r_goto dX5_why_74 (tgt := 78) (by decide) ?_
                refine r_iret rfl dX5_why_78 ?_
                rw [bI_n0, decide_eq_true_iff] at h18
                refine ⟨?_, rfl⟩
                unfold whyA
                rw [h, if_pos rfl, if_neg (fun z => z.elim (Int32.not_lt.mpr h18.1) (Int32.not_lt.mpr h18.2)), eT, eK]
                unfold whyT
                simp_all
            · --f
              refine r_iconst dX5_why_59 (v := 3) rfl ?_
              refine r_goto dX5_why_60 (tgt := 78) (by decide) ?_
              refine r_iret rfl dX5_why_78 ?_
              rw [bI_n0, decide_eq_true_iff] at h18
              refine ⟨?_, rfl⟩
              unfold whyA
              rw [h, if_pos rfl, if_neg (fun z => z.elim (Int32.not_lt.mpr h18.1) (Int32.not_lt.mpr h18.2)), eT, eK]
              unfold whyT
              simp_all
          · --f
            refine r_iconst dX5_why_49 (v := 2) rfl ?_
            refine r_goto dX5_why_50 (tgt := 78) (by decide) ?_
            refine r_iret rfl dX5_why_78 ?_
            rw [bI_n0, decide_eq_true_iff] at h18
            refine ⟨?_, rfl⟩
            unfold whyA
            rw [h, if_pos rfl, if_neg (fun z => z.elim (Int32.not_lt.mpr h18.1) (Int32.not_lt.mpr h18.2)), eT, eK]
            unfold whyT
            simp_all
        · --f
          refine r_iconst dX5_why_39 (v := 1) rfl ?_
          refine r_goto dX5_why_40 (tgt := 78) (by decide) ?_
          refine r_iret rfl dX5_why_78 ?_
          rw [bI_n0, decide_eq_true_iff] at h18
          refine ⟨?_, rfl⟩
          unfold whyA
          rw [h, if_pos rfl, if_neg (fun z => z.elim (Int32.not_lt.mpr h18.1) (Int32.not_lt.mpr h18.2)), eT, eK]
          unfold whyT
          simp_all
      · --f
        refine r_bipush dX5_why_21 (v := -2) (by decide +kernel) ?_
        refine r_iret rfl dX5_why_23 ?_
        rw [bI_0, decide_eq_false_iff_not] at h18
        refine ⟨?_, rfl⟩
        unfold whyA
        rw [h, if_pos rfl, if_pos]
        by_cases z : c < 0
        · exact Or.inl z
        · exact Or.inr (Int32.not_le.mp (fun y => h18 ⟨Int32.not_lt.mp z, y⟩))
    · --f
      exact absurd (bI_yes h) (by rw [h6]; decide)
theorem t_X5_layR {T W : Nat} {w x : Int32} (hT : T < 5) (hw : w = nI W) (hW : W < 54) : Call G d M_X5_lay [rv G 190, .int (nI T), .int w, .int x] S (fun v u => v = none ∧ u = up1 S 191 (upd (S 191) (5 + 54 * T + W) x)) := by
  refine call_of (lo := [(0, rv G 190), (1, .int (nI T)), (2, .int w), (3, .int x)]) (by decide +kernel) (Nat.le_of_ble_eq_true rfl) rfl ?_
  have hj : 5 + 54 * T + W < ln 191 := show 5 + 54 * T + W < 275 by omega
  refine r_aload_n dX5_lay_0 0 rfl ?_
  refine r_getR (b := 191) (by first | assumption | rfl) f_X5_7 rfl rfl dX5_lay_1 rfl ?_
  refine r_iconst dX5_lay_4 (v := 5) rfl ?_
  refine r_bipush dX5_lay_5 (v := 54) (by decide +kernel) ?_
  refine r_iload_n dX5_lay_7 1 rfl ?_
  refine r_imul dX5_lay_8 ?_
  refine r_iadd dX5_lay_9 ?_
  refine r_iload_n dX5_lay_10 2 rfl ?_
  refine r_iadd dX5_lay_11 ?_
  refine r_iload_n dX5_lay_12 3 rfl ?_
  refine r_iast (j := _) (by first | assumption | rfl) (ix1 rfl hw) hj dX5_lay_13 ?_
  refine r_vret rfl dX5_lay_14 ?_
  exact ⟨rfl, rfl⟩
theorem lp_X5_begins {S0 : mS} {T : Nat} {x : Int32} {Q : Option Int32 → mS → Prop} (hT : T < 5) (hx : ∀ u, (∀ i, i < 54 → u 191 (5 + 54 * T + i) = 0) → (∀ i, (i < 5 + 54 * T ∨ 59 + 54 * T ≤ i) → u 191 i = S0 191 i) → F1 S0 u → At G (d + 1) M_X5_begins Q 50 [(0, rv G 190), (1, .int x), (2, .int (nI T))] [] u) : ∀ n k S, n + k = 54 → (∀ i, i < k → S 191 (5 + 54 * T + i) = 0) → (∀ i, (i < 5 + 54 * T ∨ 59 + 54 * T ≤ i) → S 191 i = S0 191 i) → F1 S0 S → At G (d + 1) M_X5_begins Q 31 [(0, rv G 190), (1, .int x), (2, .int (nI T)), (3, .int (nI k))] [] S := by
  intro n
  induction n with
  | zero =>
    intro k S hk h1 h2 hF
    obtain rfl : k = 54 := by omega
    refine r_iload_n dX5_begins_31 3 rfl ?_
    refine r_bipush dX5_begins_32 (v := 54) (by decide +kernel) ?_
    refine r_icmp_ge dX5_begins_34 (tgt := 50) (by decide) (fun h34 => ?_) (fun h34 => ?_)
    · --t
      exact r_sub [0, 1, 2] rfl (hx _ h1 h2 hF)
    · --f
      exact absurd (show (54 : Int32) ≤ nI 54 by decide) h34
  | succ n ih =>
    intro k S hk h1 h2 hF
    have hk54 : k < 54 := by omega
    refine r_iload_n dX5_begins_31 3 rfl ?_
    refine r_bipush dX5_begins_32 (v := 54) (by decide +kernel) ?_
    refine r_icmp_ge dX5_begins_34 (tgt := 50) (by decide) (fun h34 => ?_) (fun h34 => ?_)
    · --t
      exact absurd h34 (nI_ge (b := 54) hk54 (by decide))
    · --f
      refine r_aload_n dX5_begins_37 0 rfl ?_
      refine r_iload_n dX5_begins_38 2 rfl ?_
      refine r_iload_n dX5_begins_39 3 rfl ?_
      refine r_iconst dX5_begins_40 (v := 0) rfl ?_
      refine r_callVvF (As := [_, _, _]) c_X5_lay (by first | assumption | rfl) l_X5_76 rfl rfl rfl (Nat.le_of_ble_eq_true rfl) dX5_begins_41 (t_X5_layR hT rfl hk54) ?_
      refine r_iinc (lo2 := [(0, _), (1, _), (2, _), (3, _)]) dX5_begins_44 3 rfl (w := 1) rfl (Nat.le_of_ble_eq_true rfl) [1, 2, 3, 0] rfl ?_
      refine r_goto dX5_begins_47 (tgt := 31) (by decide) ?_
      rw [nI_1]
      refine ih (k + 1) _ (by omega) (fun i hi => ?_) (fun i hi => ?_) hF.up
      · rw [up1_s, upd]
        by_cases e : i = k
        · subst e; rw [if_pos rfl]
        · rw [if_neg (by omega)]; exact h1 i (by omega)
      · rw [up1_s, upd, if_neg (by omega)]; exact h2 i hi
theorem isSz_in (s : Int32) : decide (1 ≤ s ∧ s ≤ 16) = isSz s := rfl
theorem t_X5_begins (hW : WN N) (hR : RP (S 191) N) : Call G (d + 1) M_X5_begins [rv G 190, .int s] S (fun v u => v = some (addO N s).1 ∧ RP (u 191) (addO N s).2 ∧ F1 S u) := by
  refine call_of (lo := [(0, rv G 190), (1, .int s)]) (by decide +kernel) (Nat.le_of_ble_eq_true rfl) rfl ?_
  obtain ⟨hc, hc5⟩ := hW.cn
  have e3 : S 191 3 = nI (cnt N) := (hR.1 3 (by decide)).trans hc
  unfold addO
  rcases sz_cases s with h | ⟨n, h, rfl, hn1, hn2⟩
  · rw [h, if_neg (show ¬ false = true by decide)]
    refine r_iload_n dX5_begins_0 1 rfl ?_
    refine r_i2l dX5_begins_1 ?_
    refine r_iconst dX5_begins_2 (v := 1) rfl ?_
    refine r_bipush dX5_begins_3 (v := 16) (by decide +kernel) ?_
    refine r_callSiF (As := [_, _, _]) c_X5_in l_X5_35 rfl rfl rfl (Nat.le_of_ble_eq_true rfl) dX5_begins_5 in_i ?_
    refine r_if_ne dX5_begins_8 (tgt := 14) (by decide) (fun h8 => ?_) (fun h8 => ?_)
    · --t
      exact absurd (bI_not ((isSz_in s).trans h)) h8
    · --f
      refine r_bipush dX5_begins_11 (v := -2) (by decide +kernel) ?_
      refine r_iret rfl dX5_begins_13 ?_
      exact ⟨rfl, hR, F1.rf⟩
  · rw [h, if_pos rfl]
    by_cases h5 : cnt N < 5
    · have n5 : ¬ 5 ≤ N.1 3 := by rw [hc]; exact nI_ge (b := 5) h5 (by decide)
      rw [if_neg n5, hc]
      refine r_iload_n dX5_begins_0 1 rfl ?_
      refine r_i2l dX5_begins_1 ?_
      refine r_iconst dX5_begins_2 (v := 1) rfl ?_
      refine r_bipush dX5_begins_3 (v := 16) (by decide +kernel) ?_
      refine r_callSiF (As := [_, _, _]) c_X5_in l_X5_35 rfl rfl rfl (Nat.le_of_ble_eq_true rfl) dX5_begins_5 in_i ?_
      refine r_if_ne dX5_begins_8 (tgt := 14) (by decide) (fun h8 => ?_) (fun h8 => ?_)
      · --t
        refine r_aload_n dX5_begins_14 0 rfl ?_
        refine r_getR (b := 191) (by first | assumption | rfl) f_X5_7 rfl rfl dX5_begins_15 rfl ?_
        refine r_iconst dX5_begins_18 (v := 3) rfl ?_
        refine r_iald (j := 3) (by first | assumption | rfl) (by first | assumption | rfl) (show 3 < ln 191 by decide) dX5_begins_19 ?_
        rw [e3]
        refine r_istore_n (lo2 := [(0, _), (1, _), (2, _)]) dX5_begins_20 rfl (Nat.le_of_ble_eq_true rfl) [1, 2, 0] rfl ?_
        refine r_iload_n dX5_begins_21 2 rfl ?_
        refine r_iconst dX5_begins_22 (v := 5) rfl ?_
        refine r_icmp_ne dX5_begins_23 (tgt := 29) (by decide) (fun h23 => ?_) (fun h23 => ?_)
        · --t
          refine r_iconst dX5_begins_29 (v := 0) rfl ?_
          refine r_istore_n (lo2 := [(0, _), (1, _), (2, _), (3, _)]) dX5_begins_30 rfl (Nat.le_of_ble_eq_true rfl) [1, 2, 3, 0] rfl ?_
          refine lp_X5_begins (S0 := S) h5 (fun u h1 h2 hFu => ?_) 54 0 S (by omega) (fun i hi => absurd hi (by omega)) (fun _ _ => rfl) F1.rf
          refine r_aload_n dX5_begins_50 0 rfl ?_
          refine r_iload_n dX5_begins_51 2 rfl ?_
          refine r_iconst dX5_begins_52 (v := 0) rfl ?_
          refine r_iload_n dX5_begins_53 1 rfl ?_
          refine r_callVvF (As := [_, _, _]) c_X5_lay (by first | assumption | rfl) l_X5_76 rfl rfl rfl (Nat.le_of_ble_eq_true rfl) dX5_begins_54 (t_X5_layR h5 (W := 0) rfl (by decide)) ?_
          refine r_aload_n dX5_begins_57 0 rfl ?_
          refine r_iload_n dX5_begins_58 2 rfl ?_
          refine r_iconst dX5_begins_59 (v := 2) rfl ?_
          refine r_iload_n dX5_begins_60 1 rfl ?_
          refine r_callVvF (As := [_, _, _]) c_X5_lay (by first | assumption | rfl) l_X5_76 rfl rfl rfl (Nat.le_of_ble_eq_true rfl) dX5_begins_61 (t_X5_layR h5 (W := 2) rfl (by decide)) ?_
          refine r_aload_n dX5_begins_64 0 rfl ?_
          refine r_getR (b := 191) (by first | assumption | rfl) f_X5_7 rfl rfl dX5_begins_65 rfl ?_
          refine r_iconst dX5_begins_68 (v := 3) rfl ?_
          refine r_dup2 dX5_begins_69 rfl rfl ?_
          refine r_iald (j := 3) (by first | assumption | rfl) (by first | assumption | rfl) (show 3 < ln 191 by decide) dX5_begins_70 ?_
          refine r_iconst dX5_begins_71 (v := 1) rfl ?_
          refine r_iadd dX5_begins_72 ?_
          refine r_iast (j := 3) (by first | assumption | rfl) (by first | assumption | rfl) (show 3 < ln 191 by decide) dX5_begins_73 ?_
          refine r_iload_n dX5_begins_74 2 rfl ?_
          refine r_iret rfl dX5_begins_75 ?_
          refine ⟨rfl, ?_, hFu.up.up.up⟩
          simp only [up1_s]
          obtain ⟨-, w2⟩ := wn_add hW h5 hn1 hn2
          refine ⟨fun j hj => ?_, fun i hi => ?_⟩
          · show upd _ 3 _ j = upd N.1 3 (N.1 3 + 1) j
            simp only [upd]
            by_cases e : j = 3
            · subst e
              rw [if_pos rfl, if_pos rfl, if_neg (by omega), if_neg (by omega), h2 3 (by omega), hR.1 3 (by decide)]
            · rw [if_neg e, if_neg e, if_neg (by omega), if_neg (by omega), h2 j (by omega)]; exact hR.1 j hj
          · rw [w2] at hi
            show MP _ i (if i = cnt N then newT (nI n) else N.2 i)
            by_cases e : i = cnt N
            · subst e
              rw [if_pos rfl]
              refine ⟨fun j hj => ?_, fun k hk => ⟨?_, ?_, ?_⟩⟩
              · simp only [upd, newT]
                rw [if_neg (by omega)]
                rcases (by omega : j = 0 ∨ j = 2 ∨ (j ≠ 0 ∧ j ≠ 2)) with rfl | rfl | ⟨z1, z2⟩
                · rw [if_neg (by omega), if_pos rfl, if_pos rfl]
                · rw [if_pos rfl, if_neg (by omega), if_pos rfl]
                · rw [if_neg (by omega), if_neg (by omega), if_neg z1, if_neg z2]; exact h1 j (by omega)
              · simp only [upd, newT]
                rw [if_neg (by omega), if_neg (by omega), if_neg (by omega)]
                have := h1 (6 + 3 * k) (by omega)
                rw [show 5 + 54 * cnt N + (6 + 3 * k) = 11 + 54 * cnt N + 3 * k by omega] at this
                exact this
              · simp only [upd, newT]
                rw [if_neg (by omega), if_neg (by omega), if_neg (by omega)]
                have := h1 (7 + 3 * k) (by omega)
                rw [show 5 + 54 * cnt N + (7 + 3 * k) = 12 + 54 * cnt N + 3 * k by omega] at this
                exact this
              · simp only [upd, newT]
                rw [if_neg (by omega), if_neg (by omega), if_neg (by omega)]
                have := h1 (8 + 3 * k) (by omega)
                rw [show 5 + 54 * cnt N + (8 + 3 * k) = 13 + 54 * cnt N + 3 * k by omega] at this
                exact this
            · rw [if_neg e]
              refine (hR.2 i (by omega)).off (fun x z1 z2 => ?_)
              simp only [upd]
              rw [if_neg (by omega), if_neg (by omega), if_neg (by omega)]
              exact h2 x (by omega)
        · --f
          exact absurd ((nI_eq (b := 5) (by omega) (by omega)).mp h23) (by omega)
      · --f
        exact absurd (bI_yes ((isSz_in (nI n)).trans h)) (by rw [h8]; decide)
    · have h55 : cnt N = 5 := by omega
      have y5 : 5 ≤ N.1 3 := by rw [hc, h55]; decide
      rw [if_pos y5]
      rw [h55] at e3
      refine r_iload_n dX5_begins_0 1 rfl ?_
      refine r_i2l dX5_begins_1 ?_
      refine r_iconst dX5_begins_2 (v := 1) rfl ?_
      refine r_bipush dX5_begins_3 (v := 16) (by decide +kernel) ?_
      refine r_callSiF (As := [_, _, _]) c_X5_in l_X5_35 rfl rfl rfl (Nat.le_of_ble_eq_true rfl) dX5_begins_5 in_i ?_
      refine r_if_ne dX5_begins_8 (tgt := 14) (by decide) (fun h8 => ?_) (fun h8 => ?_)
      · --t
        refine r_aload_n dX5_begins_14 0 rfl ?_
        refine r_getR (b := 191) (by first | assumption | rfl) f_X5_7 rfl rfl dX5_begins_15 rfl ?_
        refine r_iconst dX5_begins_18 (v := 3) rfl ?_
        refine r_iald (j := 3) (by first | assumption | rfl) (by first | assumption | rfl) (show 3 < ln 191 by decide) dX5_begins_19 ?_
        refine r_istore_n (lo2 := [(0, _), (1, _), (2, _)]) dX5_begins_20 rfl (Nat.le_of_ble_eq_true rfl) [1, 2, 0] rfl ?_
        refine r_iload_n dX5_begins_21 2 rfl ?_
        refine r_iconst dX5_begins_22 (v := 5) rfl ?_
        refine r_icmp_ne dX5_begins_23 (tgt := 29) (by decide) (fun h23 => ?_) (fun h23 => ?_)
        · --t
          exact absurd e3 h23
        · --f
          refine r_bipush dX5_begins_26 (v := -4) (by decide +kernel) ?_
          refine r_iret rfl dX5_begins_28 ?_
          exact ⟨rfl, hR, F1.rf⟩
      · --f
        exact absurd (bI_yes ((isSz_in (nI n)).trans h)) (by rw [h8]; decide)
theorem t_X5_sizes (hW : WN N) (hR : RP (S 191) N) : Call G (d + 2) M_X5_sizes [rv G 190, .int t, .int s] S (fun v u => v = some (rszO N t s).1 ∧ RP (u 191) (rszO N t s).2 ∧ F1 S u) := by
  refine call_of (lo := [(0, rv G 190), (1, .int t), (2, .int s)]) (by decide +kernel) (Nat.le_of_ble_eq_true rfl) rfl ?_
  unfold rszO
  rcases tr_cases hW t with h | ⟨T, h, rfl, hT, hT5, eT⟩
  · rw [h, if_neg (show ¬ false = true by decide)]
    refine r_aload_n dX5_sizes_0 0 rfl ?_
    refine r_iload_n dX5_sizes_1 1 rfl ?_
    refine r_callViF (As := [_]) c_X5_isTroop (by first | assumption | rfl) l_X5_39 rfl rfl rfl (Nat.le_of_ble_eq_true rfl) dX5_sizes_2 (t_X5_isTroop hW hR) ?_
    refine r_if_ne dX5_sizes_5 (tgt := 10) (by decide) (fun h5 => ?_) (fun h5 => ?_)
    · --t
      exact absurd (bI_not h) h5
    · --f
      refine r_iconst dX5_sizes_8 (v := -1) rfl ?_
      refine r_iret rfl dX5_sizes_9 ?_
      exact ⟨rfl, hR, F1.rf⟩
  · rw [h, if_pos rfl, eT]
    rcases sz_cases s with h2 | ⟨n, h2, rfl, hn1, hn2⟩
    · rw [h2, if_neg (show ¬ false = true by decide)]
      refine r_aload_n dX5_sizes_0 0 rfl ?_
      refine r_iload_n dX5_sizes_1 1 rfl ?_
      refine r_callViF (As := [_]) c_X5_isTroop (by first | assumption | rfl) l_X5_39 rfl rfl rfl (Nat.le_of_ble_eq_true rfl) dX5_sizes_2 (t_X5_isTroop hW hR) ?_
      refine r_if_ne dX5_sizes_5 (tgt := 10) (by decide) (fun h5 => ?_) (fun h5 => ?_)
      · --t
        refine r_iload_n dX5_sizes_10 2 rfl ?_
        refine r_i2l dX5_sizes_11 ?_
        refine r_iconst dX5_sizes_12 (v := 1) rfl ?_
        refine r_bipush dX5_sizes_13 (v := 16) (by decide +kernel) ?_
        refine r_callSiF (As := [_, _, _]) c_X5_in l_X5_35 rfl rfl rfl (Nat.le_of_ble_eq_true rfl) dX5_sizes_15 in_i ?_
        refine r_if_ne dX5_sizes_18 (tgt := 24) (by decide) (fun h18 => ?_) (fun h18 => ?_)
        · --t
          exact absurd (bI_not ((isSz_in s).trans h2)) h18
        · --f
          refine r_bipush dX5_sizes_21 (v := -2) (by decide +kernel) ?_
          refine r_iret rfl dX5_sizes_23 ?_
          exact ⟨rfl, hR, F1.rf⟩
      · --f
        exact absurd (bI_yes h) (by rw [h5]; decide)
    · rw [h2, if_pos rfl]
      have hTT := hR.2 T hT
      refine r_aload_n dX5_sizes_0 0 rfl ?_
      refine r_iload_n dX5_sizes_1 1 rfl ?_
      refine r_callViF (As := [_]) c_X5_isTroop (by first | assumption | rfl) l_X5_39 rfl rfl rfl (Nat.le_of_ble_eq_true rfl) dX5_sizes_2 (t_X5_isTroop hW hR) ?_
      refine r_if_ne dX5_sizes_5 (tgt := 10) (by decide) (fun h5 => ?_) (fun h5 => ?_)
      · --t
        refine r_iload_n dX5_sizes_10 2 rfl ?_
        refine r_i2l dX5_sizes_11 ?_
        refine r_iconst dX5_sizes_12 (v := 1) rfl ?_
        refine r_bipush dX5_sizes_13 (v := 16) (by decide +kernel) ?_
        refine r_callSiF (As := [_, _, _]) c_X5_in l_X5_35 rfl rfl rfl (Nat.le_of_ble_eq_true rfl) dX5_sizes_15 in_i ?_
        refine r_if_ne dX5_sizes_18 (tgt := 24) (by decide) (fun h18 => ?_) (fun h18 => ?_)
        · --t
          refine r_aload_n dX5_sizes_24 0 rfl ?_
          refine r_iload_n dX5_sizes_25 1 rfl ?_
          refine r_iconst dX5_sizes_26 (v := 2) rfl ?_
          refine r_callViF (As := [_, _]) c_X5_its (by first | assumption | rfl) l_X5_43 rfl rfl rfl (Nat.le_of_ble_eq_true rfl) dX5_sizes_27 (t_X5_its (W := 2) rfl (by decide) hT5 hTT) ?_
          refine r_istore_n (lo2 := [(0, _), (1, _), (2, _), (3, _)]) dX5_sizes_30 rfl (Nat.le_of_ble_eq_true rfl) [1, 2, 3, 0] rfl ?_
          refine r_aload_n dX5_sizes_31 0 rfl ?_
          refine r_iload_n dX5_sizes_32 1 rfl ?_
          refine r_iconst dX5_sizes_33 (v := 2) rfl ?_
          refine r_iload_n dX5_sizes_34 2 rfl ?_
          refine r_callVv (As := [_, _, _]) c_X5_lay (by first | assumption | rfl) l_X5_76 rfl rfl rfl (Nat.le_of_ble_eq_true rfl) dX5_sizes_35 (t_X5_lay (W := 2) rfl (by decide) hT5 hTT) (fun u35 q35 => ?_)
          obtain ⟨-, g1, f1⟩ := q35
          refine r_iload_n dX5_sizes_38 3 rfl ?_
          refine r_iret rfl dX5_sizes_39 ?_
          exact ⟨rfl, hR.tr g1 f1, f1.f1⟩
        · --f
          exact absurd (bI_yes ((isSz_in (nI n)).trans h2)) (by rw [h18]; decide)
      · --f
        exact absurd (bI_yes h) (by rw [h5]; decide)
theorem RP.ery {S : mS} (hR : RP (S 191) N) : RP (upd (S 191) 4 (S 191 4 + 1)) (eryN N) := by
  have h := hR.gl (i := 4) (by decide) (by decide) (S 191 4 + 1)
  rw [hR.1 4 (by decide)] at h
  rw [hR.1 4 (by decide)]
  exact h
theorem RP.ery0 {S : mS} (hR : RP (S 191) N) : RP (upd (S 191) 4 (S 191 4 + 0)) N := by
  have e : upd (S 191) 4 (S 191 4 + 0) = S 191 := by
    funext j
    simp only [upd, Int32.add_zero]; split
    · rename_i h; rw [h]
    · rfl
  rw [e]; exact hR
theorem why_le (N : mN) (t k c : Int32) : whyA N t k c ≤ 4 := by
  unfold whyA whyT
  split
  · split
    · decide
    · split
      · decide
      · split
        · decide
        · split
          · decide
          · split <;> decide
  · decide
theorem t_X5_comes (hW : WN N) (hR : RP (S 191) N) : Call G (d + 5) M_X5_comes [rv G 190, .int t, .int k, .int c] S (fun v u => v = some (comO N t k c).1 ∧ RP (u 191) (comO N t k c).2 ∧ F1 S u) := by
  refine call_of (lo := [(0, rv G 190), (1, .int t), (2, .int k), (3, .int c)]) (by decide +kernel) (Nat.le_of_ble_eq_true rfl) rfl ?_
  have hwhy := @t_X5_why G (d + 1) S N t k c hW hR
  unfold comO
  by_cases hn : whyA N t k c < 0
  · rw [if_pos hn]
    refine r_aload_n dX5_comes_0 0 rfl ?_
    refine r_iload_n dX5_comes_1 1 rfl ?_
    refine r_iload_n dX5_comes_2 2 rfl ?_
    refine r_iload_n dX5_comes_3 3 rfl ?_
    refine r_callViF (As := [_, _, _]) c_X5_why (by first | assumption | rfl) l_X5_90 rfl rfl rfl (Nat.le_of_ble_eq_true rfl) dX5_comes_4 hwhy ?_
    refine r_istore (lo2 := [(0, _), (1, _), (2, _), (3, _), (4, _)]) dX5_comes_7 (Nat.le_of_ble_eq_true rfl) [1, 2, 3, 4, 0] rfl ?_
    refine r_iload dX5_comes_9 4 rfl ?_
    refine r_if_ge dX5_comes_11 (tgt := 17) (by decide) (fun h11 => ?_) (fun h11 => ?_)
    · --t
      exact absurd hn (Int32.not_lt.mpr h11)
    · --f
      refine r_iload dX5_comes_14 4 rfl ?_
      refine r_iret rfl dX5_comes_16 ?_
      exact ⟨rfl, hR, F1.rf⟩
  · rw [if_neg hn]
    by_cases h4 : whyA N t k c = 4
    · obtain ⟨T, K, rfl, hT, hT5, eT, rfl, hK, hK16, eK, hcol⟩ := why_in hW (Or.inr h4)
      rw [if_pos h4, eT, eK]
      have hWs : WF (setH (N.2 T) K 2) := wf_set (hW.2 T hT) hK (by simp)
      have hRe := hR.ery
      have hTT : MP (up1 S 191 (upd (S 191) 4 (S 191 4 + 1)) 191) T (N.2 T) := by rw [up1_s]; exact hRe.2 T hT
      have ea : up1 S 191 (upd (S 191) 4 (S 191 4 + 1)) 191 1 = N.1 1 := by rw [up1_s]; exact hRe.1 1 (by decide)
      rw [h4] at hwhy
      refine r_aload_n dX5_comes_0 0 rfl ?_
      refine r_iload_n dX5_comes_1 1 rfl ?_
      refine r_iload_n dX5_comes_2 2 rfl ?_
      refine r_iload_n dX5_comes_3 3 rfl ?_
      refine r_callViF (As := [_, _, _]) c_X5_why (by first | assumption | rfl) l_X5_90 rfl rfl rfl (Nat.le_of_ble_eq_true rfl) dX5_comes_4 hwhy ?_
      refine r_istore (lo2 := [(0, _), (1, _), (2, _), (3, _), (4, _)]) dX5_comes_7 (Nat.le_of_ble_eq_true rfl) [1, 2, 3, 4, 0] rfl ?_
      refine r_iload dX5_comes_9 4 rfl ?_
      refine r_if_ge dX5_comes_11 (tgt := 17) (by decide) (fun h11 => ?_) (fun h11 => ?_)
      · --t
        refine r_iload dX5_comes_17 4 rfl ?_
        refine r_if_le dX5_comes_19 (tgt := 31) (by decide) (fun h19 => ?_) (fun h19 => ?_)
        · --t
          exact absurd h19 (by decide)
        · --f
          refine r_iload dX5_comes_22 4 rfl ?_
          refine r_iconst dX5_comes_24 (v := 4) rfl ?_
          refine r_icmp_ge dX5_comes_25 (tgt := 31) (by decide) (fun h25 => ?_) (fun h25 => ?_)
          · --t
            refine r_aload_n dX5_comes_31 0 rfl ?_
            refine r_getR (b := 191) (by first | assumption | rfl) f_X5_7 rfl rfl dX5_comes_32 rfl ?_
            refine r_iconst dX5_comes_35 (v := 4) rfl ?_
            refine r_dup2 dX5_comes_36 rfl rfl ?_
            refine r_iald (j := 4) (by first | assumption | rfl) (by first | assumption | rfl) (show 4 < ln 191 by decide) dX5_comes_37 ?_
            refine r_iload dX5_comes_38 4 rfl ?_
            refine r_iconst dX5_comes_40 (v := 4) rfl ?_
            refine r_icmp_ne dX5_comes_41 (tgt := 48) (by decide) (fun h41 => ?_) (fun h41 => ?_)
            · --t
              exact absurd rfl h41
            · --f
              refine r_iconst dX5_comes_44 (v := 1) rfl ?_
              refine r_goto dX5_comes_45 (tgt := 49) (by decide) ?_
              refine r_iadd dX5_comes_49 ?_
              refine r_iast (j := 4) (by first | assumption | rfl) (by first | assumption | rfl) (show 4 < ln 191 by decide) dX5_comes_50 ?_
              refine r_aload_n dX5_comes_51 0 rfl ?_
              refine r_iload_n dX5_comes_52 1 rfl ?_
              refine r_iload_n dX5_comes_53 2 rfl ?_
              refine r_iload dX5_comes_54 4 rfl ?_
              refine r_iconst dX5_comes_56 (v := 4) rfl ?_
              refine r_icmp_ne dX5_comes_57 (tgt := 64) (by decide) (fun h57 => ?_) (fun h57 => ?_)
              · --t
                exact absurd rfl h57
              · --f
                refine r_iconst dX5_comes_60 (v := 2) rfl ?_
                refine r_goto dX5_comes_61 (tgt := 65) (by decide) ?_
                refine r_iconst dX5_comes_65 (v := 0) rfl ?_
                refine r_callVv (As := [_, _, _, _]) c_X5_layScout (by first | assumption | rfl) l_X5_66 rfl rfl rfl (Nat.le_of_ble_eq_true rfl) dX5_comes_66 (t_X5_layScout hK16 hT5 hTT) (fun u66 q66 => ?_)
                obtain ⟨-, g1, f1⟩ := q66
                refine r_aload_n dX5_comes_69 0 rfl ?_
                refine r_iload_n dX5_comes_70 1 rfl ?_
                refine r_callVi (As := [_]) c_X5_opens (by first | assumption | rfl) l_X5_87 rfl rfl rfl (Nat.le_of_ble_eq_true rfl) dX5_comes_71 (t_X5_opens hT5 hWs (((f1.2 1 (by omega)).trans ea)) g1) (fun r71 u71 q71 => ?_)
                obtain ⟨hr, g2, f2⟩ := q71
                cases hr
                refine r_iret rfl dX5_comes_74 ?_
                refine ⟨rfl, ?_, (F1.rf.up.tr f1.f1).tr f2.f1⟩
                have z := RP.tr (S := up1 S 191 (upd (S 191) 4 (S 191 4 + 1))) (u := u71) (by rw [up1_s]; exact hRe) g2 (f1.tr f2)
                exact z
          · --f
            exact absurd (show (4 : Int32) ≤ 4 by decide) h25
      · --f
        exact absurd h11 (by decide)
    · rw [if_neg h4]
      by_cases h0 : whyA N t k c = 0
      · obtain ⟨T, K, rfl, hT, hT5, eT, rfl, hK, hK16, eK, hcol⟩ := why_in hW (Or.inl h0)
        rw [if_pos h0, eT, eK]
        have hWs : WF (setH (N.2 T) K 1) := wf_set (hW.2 T hT) hK (by simp)
        have hRe := hR.ery0
        have hTT : MP (up1 S 191 (upd (S 191) 4 (S 191 4 + 0)) 191) T (N.2 T) := by rw [up1_s]; exact hRe.2 T hT
        have ea : up1 S 191 (upd (S 191) 4 (S 191 4 + 0)) 191 1 = N.1 1 := by rw [up1_s]; exact hRe.1 1 (by decide)
        rw [h0] at hwhy
        refine r_aload_n dX5_comes_0 0 rfl ?_
        refine r_iload_n dX5_comes_1 1 rfl ?_
        refine r_iload_n dX5_comes_2 2 rfl ?_
        refine r_iload_n dX5_comes_3 3 rfl ?_
        refine r_callViF (As := [_, _, _]) c_X5_why (by first | assumption | rfl) l_X5_90 rfl rfl rfl (Nat.le_of_ble_eq_true rfl) dX5_comes_4 hwhy ?_
        refine r_istore (lo2 := [(0, _), (1, _), (2, _), (3, _), (4, _)]) dX5_comes_7 (Nat.le_of_ble_eq_true rfl) [1, 2, 3, 4, 0] rfl ?_
        refine r_iload dX5_comes_9 4 rfl ?_
        refine r_if_ge dX5_comes_11 (tgt := 17) (by decide) (fun h11 => ?_) (fun h11 => ?_)
        · --t
          refine r_iload dX5_comes_17 4 rfl ?_
          refine r_if_le dX5_comes_19 (tgt := 31) (by decide) (fun h19 => ?_) (fun h19 => ?_)
          · --t
            refine r_aload_n dX5_comes_31 0 rfl ?_
            refine r_getR (b := 191) (by first | assumption | rfl) f_X5_7 rfl rfl dX5_comes_32 rfl ?_
            refine r_iconst dX5_comes_35 (v := 4) rfl ?_
            refine r_dup2 dX5_comes_36 rfl rfl ?_
            refine r_iald (j := 4) (by first | assumption | rfl) (by first | assumption | rfl) (show 4 < ln 191 by decide) dX5_comes_37 ?_
            refine r_iload dX5_comes_38 4 rfl ?_
            refine r_iconst dX5_comes_40 (v := 4) rfl ?_
            refine r_icmp_ne dX5_comes_41 (tgt := 48) (by decide) (fun h41 => ?_) (fun h41 => ?_)
            · --t
              refine r_iconst dX5_comes_48 (v := 0) rfl ?_
              refine r_iadd dX5_comes_49 ?_
              refine r_iast (j := 4) (by first | assumption | rfl) (by first | assumption | rfl) (show 4 < ln 191 by decide) dX5_comes_50 ?_
              refine r_aload_n dX5_comes_51 0 rfl ?_
              refine r_iload_n dX5_comes_52 1 rfl ?_
              refine r_iload_n dX5_comes_53 2 rfl ?_
              refine r_iload dX5_comes_54 4 rfl ?_
              refine r_iconst dX5_comes_56 (v := 4) rfl ?_
              refine r_icmp_ne dX5_comes_57 (tgt := 64) (by decide) (fun h57 => ?_) (fun h57 => ?_)
              · --t
                refine r_iconst dX5_comes_64 (v := 1) rfl ?_
                refine r_iconst dX5_comes_65 (v := 0) rfl ?_
                refine r_callVv (As := [_, _, _, _]) c_X5_layScout (by first | assumption | rfl) l_X5_66 rfl rfl rfl (Nat.le_of_ble_eq_true rfl) dX5_comes_66 (t_X5_layScout hK16 hT5 hTT) (fun u66 q66 => ?_)
                obtain ⟨-, g1, f1⟩ := q66
                refine r_aload_n dX5_comes_69 0 rfl ?_
                refine r_iload_n dX5_comes_70 1 rfl ?_
                refine r_callVi (As := [_]) c_X5_opens (by first | assumption | rfl) l_X5_87 rfl rfl rfl (Nat.le_of_ble_eq_true rfl) dX5_comes_71 (t_X5_opens hT5 hWs (((f1.2 1 (by omega)).trans ea)) g1) (fun r71 u71 q71 => ?_)
                obtain ⟨hr, g2, f2⟩ := q71
                cases hr
                refine r_iret rfl dX5_comes_74 ?_
                refine ⟨rfl, ?_, (F1.rf.up.tr f1.f1).tr f2.f1⟩
                have z := RP.tr (S := up1 S 191 (upd (S 191) 4 (S 191 4 + 0))) (u := u71) (by rw [up1_s]; exact hRe) g2 (f1.tr f2)
                exact z
              · --f
                exact absurd h57 (by decide)
            · --f
              exact absurd h41 (by decide)
          · --f
            exact absurd (show (0 : Int32) ≤ 0 by decide) h19
        · --f
          exact absurd h11 (by decide)
      · rw [if_neg h0]
        have hr : ∀ x : Int32, ¬ x < 0 → ¬ x = 4 → ¬ x = 0 → (x = 1 ∨ x = 2 ∨ x = 3) ∨ 4 < x := fun x a b c => by
          obtain ⟨j, hj, rfl⟩ := nI_of a
          rw [show (4 : Int32) = nI 4 from rfl, nI_eq hj (by omega)] at b
          rw [show (0 : Int32) = nI 0 from rfl, nI_eq hj (by omega)] at c
          by_cases z : 4 < j
          · exact Or.inr (by rw [show (4 : Int32) = nI 4 from rfl, nI_ltI (by omega) hj]; exact z)
          · rcases (by omega : j = 1 ∨ j = 2 ∨ j = 3) with rfl | rfl | rfl
            · exact Or.inl (Or.inl rfl)
            · exact Or.inl (Or.inr (Or.inl rfl))
            · exact Or.inl (Or.inr (Or.inr rfl))
        have h13 : whyA N t k c = 1 ∨ whyA N t k c = 2 ∨ whyA N t k c = 3 := by
          rcases hr _ hn h4 h0 with z | z
          · exact z
          · exact absurd z (Int32.not_lt.mpr (why_le N t k c))
        have h4' : ¬ 4 ≤ whyA N t k c := by rcases h13 with z | z | z <;> rw [z] <;> decide
        refine r_aload_n dX5_comes_0 0 rfl ?_
        refine r_iload_n dX5_comes_1 1 rfl ?_
        refine r_iload_n dX5_comes_2 2 rfl ?_
        refine r_iload_n dX5_comes_3 3 rfl ?_
        refine r_callViF (As := [_, _, _]) c_X5_why (by first | assumption | rfl) l_X5_90 rfl rfl rfl (Nat.le_of_ble_eq_true rfl) dX5_comes_4 hwhy ?_
        refine r_istore (lo2 := [(0, _), (1, _), (2, _), (3, _), (4, _)]) dX5_comes_7 (Nat.le_of_ble_eq_true rfl) [1, 2, 3, 4, 0] rfl ?_
        refine r_iload dX5_comes_9 4 rfl ?_
        refine r_if_ge dX5_comes_11 (tgt := 17) (by decide) (fun h11 => ?_) (fun h11 => ?_)
        · --t
          refine r_iload dX5_comes_17 4 rfl ?_
          refine r_if_le dX5_comes_19 (tgt := 31) (by decide) (fun h19 => ?_) (fun h19 => ?_)
          · --t
            exact absurd (Int32.not_lt.mp hn) (fun z => h0 (Int32.le_antisymm h19 z))
          · --f
            refine r_iload dX5_comes_22 4 rfl ?_
            refine r_iconst dX5_comes_24 (v := 4) rfl ?_
            refine r_icmp_ge dX5_comes_25 (tgt := 31) (by decide) (fun h25 => ?_) (fun h25 => ?_)
            · --t
              exact absurd h25 h4'
            · --f
              refine r_bipush dX5_comes_28 (v := -5) (by decide +kernel) ?_
              refine r_iret rfl dX5_comes_30 ?_
              exact ⟨rfl, hR, F1.rf⟩
        · --f
          exact absurd (Int32.not_le.mp h11) hn
end MODEL
