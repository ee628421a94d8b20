/-! the class's own methods over its State at cell 1 -/
theorem tab_split (x : Int32) (lw n : Nat) (h : lw + n < 1000) : (x.toInt < (lw : Int) ∨ (lw : Int) + n ≤ x.toInt) ∨ ∃ j, j < n ∧ x = nI (lw + j) := by
  by_cases h1 : x.toInt < (lw : Int)
  · exact Or.inl (Or.inl h1)
  · by_cases h2 : (lw : Int) + n ≤ x.toInt
    · exact Or.inl (Or.inr h2)
    · right
      refine ⟨(x.toInt - lw).toNat, by omega, ?_⟩
      apply Int32.toInt_inj.mp
      rw [nI_toInt (by omega)]
      omega
theorem tab_out {x lw hi : Int} {n : Nat} (h : x < lw ∨ lw + n ≤ x) (hn : hi < lw + n) : x < lw ∨ hi < x := by omega
theorem i1 : (1 : Int32).toInt = 1 := by decide
theorem tab_no {x y : Int32} {lw n : Int} (h : x.toInt < lw ∨ lw + n ≤ x.toInt) (h1 : lw ≤ y.toInt) (h2 : y.toInt < lw + n) : ¬ x = y := by rintro rfl; omega
theorem bI_not {b : Bool} (h : b = false) : bI b = 0 := by rw [h]; rfl
theorem bI_yes {b : Bool} (h : b = true) : bI b = 1 := by rw [h]; rfl
section GATES
variable {G : mG} {d : Nat} {S : mS} {N : mN} {t k c s w : Int32}
theorem t_X4_isSize : Call G d M_X4_isSize [.int s] S (fun v u => v = some (bI (isSz s)) ∧ u = S) := by
  refine call_of (lo := [(0, .int s)]) (by decide +kernel) (Nat.le_of_ble_eq_true rfl) rfl ?_
  refine r_iload_n dX4_isSize_0 0 rfl ?_
  refine r_iconst dX4_isSize_1 (v := 1) rfl ?_
  refine r_icmp_lt dX4_isSize_2 (tgt := 15) (by decide) (fun h2 => ?_) (fun h2 => ?_)
  · --t
    refine r_iconst dX4_isSize_15 (v := 0) rfl ?_
    refine r_zret rfl (by first | rfl | decide) dX4_isSize_16 ?_
    exact ⟨by first | (congr 1; simp_all [bI, isSz]; done) | (congr 1; simp_all [bI, isSz, Int32.le_iff_toInt_le, Int32.lt_iff_toInt_lt, i16, i1]; omega), rfl⟩
  · --f
    refine r_iload_n dX4_isSize_5 0 rfl ?_
    refine r_bipush dX4_isSize_6 (v := 16) (by decide +kernel) ?_
    refine r_icmp_gt dX4_isSize_8 (tgt := 15) (by decide) (fun h8 => ?_) (fun h8 => ?_)
    · --t
      refine r_iconst dX4_isSize_15 (v := 0) rfl ?_
      refine r_zret rfl (by first | rfl | decide) dX4_isSize_16 ?_
      exact ⟨by first | (congr 1; simp_all [bI, isSz]; done) | (congr 1; simp_all [bI, isSz, Int32.le_iff_toInt_le, Int32.lt_iff_toInt_lt, i16, i1]; omega), rfl⟩
    · --f
      refine r_iconst dX4_isSize_11 (v := 1) rfl ?_
      refine r_goto dX4_isSize_12 (tgt := 16) (by decide) ?_
      refine r_zret rfl (by first | rfl | decide) dX4_isSize_16 ?_
      exact ⟨by first | (congr 1; simp_all [bI, isSz]; done) | (congr 1; simp_all [bI, isSz, Int32.le_iff_toInt_le, Int32.lt_iff_toInt_lt, i16, i1]; omega), rfl⟩
theorem t_X4_isTroop (hP : SP S 1 N) : Call G d M_X4_isTroop [rv G 0, .int t] S (fun v u => v = some (bI (isTr N t)) ∧ u = S) := by
  refine call_of (lo := [(0, rv G 0), (1, .int t)]) (by decide +kernel) (Nat.le_of_ble_eq_true rfl) rfl ?_
  have e := hP.1.2.2.1
  refine r_iload_n dX4_isTroop_0 1 rfl ?_
  refine r_if_lt dX4_isTroop_1 (tgt := 19) (by decide) (fun h1 => ?_) (fun h1 => ?_)
  · --t
    refine r_iconst dX4_isTroop_19 (v := 0) rfl ?_
    refine r_zret rfl (by first | rfl | decide) dX4_isTroop_20 ?_
    exact ⟨by first | (congr 1; simp_all [bI, isTr]; done) | (congr 1; simp_all [bI, isTr, Int32.le_iff_toInt_le, Int32.lt_iff_toInt_lt]; omega), rfl⟩
  · --f
    refine r_iload_n dX4_isTroop_4 1 rfl ?_
    refine r_aload_n dX4_isTroop_5 0 rfl ?_
    refine r_getR (b := 1) (by first | assumption | rfl) f_X4_10 rfl rfl dX4_isTroop_6 rfl ?_
    refine r_getI (by first | assumption | rfl) f_X4_99 rfl rfl dX4_isTroop_9 ?_
    refine r_icmp_ge dX4_isTroop_12 (tgt := 19) (by decide) (fun h12 => ?_) (fun h12 => ?_)
    · --t
      refine r_iconst dX4_isTroop_19 (v := 0) rfl ?_
      refine r_zret rfl (by first | rfl | decide) dX4_isTroop_20 ?_
      exact ⟨by first | (congr 1; simp_all [bI, isTr]; done) | (congr 1; simp_all [bI, isTr, Int32.le_iff_toInt_le, Int32.lt_iff_toInt_lt]; omega), rfl⟩
    · --f
      refine r_iconst dX4_isTroop_15 (v := 1) rfl ?_
      refine r_goto dX4_isTroop_16 (tgt := 20) (by decide) ?_
      refine r_zret rfl (by first | rfl | decide) dX4_isTroop_20 ?_
      exact ⟨by first | (congr 1; simp_all [bI, isTr]; done) | (congr 1; simp_all [bI, isTr, Int32.le_iff_toInt_le, Int32.lt_iff_toInt_lt]; omega), rfl⟩
theorem t_X4_isScout (hW : WN N) (hP : SP S 1 N) : Call G (d + 1) M_X4_isScout [rv G 0, .int t, .int k] S (fun v u => v = some (bI (isSc N t k)) ∧ u = S) := by
  refine call_of (lo := [(0, rv G 0), (1, .int t), (2, .int k)]) (by decide +kernel) (Nat.le_of_ble_eq_true rfl) rfl ?_
  rcases tr_cases hW t with h | ⟨T, h, rfl, hT, hT5, eT⟩
  ·
    refine r_aload_n dX4_isScout_0 0 rfl ?_
    refine r_iload_n dX4_isScout_1 1 rfl ?_
    refine r_callViF (As := [_]) c_X4_isTroop (by first | assumption | rfl) l_X4_106 rfl rfl rfl (Nat.le_of_ble_eq_true rfl) dX4_isScout_2 (t_X4_isTroop hP) ?_
    refine r_if_eq dX4_isScout_5 (tgt := 28) (by decide) (fun h5 => ?_) (fun h5 => ?_)
    · --t
      refine r_iconst dX4_isScout_28 (v := 0) rfl ?_
      refine r_zret rfl (by first | rfl | decide) dX4_isScout_29 ?_
      exact ⟨by unfold isSc; rw [h]; rfl, rfl⟩
    · --f
      exact absurd (bI_not h) h5
  · have ha := kd4 hT5
    have e := (hP.2 T hT).1.1
    have e2 : S (4 + 3 * T) 0 = (N.2 T).1 0 := e
    refine r_aload_n dX4_isScout_0 0 rfl ?_
    refine r_iload_n dX4_isScout_1 1 rfl ?_
    refine r_callViF (As := [_]) c_X4_isTroop (by first | assumption | rfl) l_X4_106 rfl rfl rfl (Nat.le_of_ble_eq_true rfl) dX4_isScout_2 (t_X4_isTroop hP) ?_
    refine r_if_eq dX4_isScout_5 (tgt := 28) (by decide) (fun h5 => ?_) (fun h5 => ?_)
    · --t
      exact absurd (bI_yes h) (by rw [h5]; decide)
    · --f
      refine r_aload_n dX4_isScout_8 0 rfl ?_
      refine r_getR (b := 1) (by first | assumption | rfl) f_X4_10 rfl rfl dX4_isScout_9 rfl ?_
      refine r_getR (b := 3) (by first | assumption | rfl) f_X4_75 rfl rfl dX4_isScout_12 rfl ?_
      refine r_iload_n dX4_isScout_15 1 rfl ?_
      refine r_aald10 (j := _) (by first | assumption | rfl) (by first | assumption | rfl) (by first | assumption | decide) (rf3 _) dX4_isScout_16 ?_
      refine r_iload_n dX4_isScout_17 2 rfl ?_
      refine r_callViF (As := [_]) c_X3_hasScout (by first | assumption | rfl) l_X4_234 rfl rfl rfl (Nat.le_of_ble_eq_true rfl) dX4_isScout_18 (t_X3_hasScout ha) ?_
      refine r_if_eq dX4_isScout_21 (tgt := 28) (by decide) (fun h21 => ?_) (fun h21 => ?_)
      · --t
        refine r_iconst dX4_isScout_28 (v := 0) rfl ?_
        refine r_zret rfl (by first | rfl | decide) dX4_isScout_29 ?_
        exact ⟨by unfold isSc; rw [h, eT]; simp_all [bI], rfl⟩
      · --f
        refine r_iconst dX4_isScout_24 (v := 1) rfl ?_
        refine r_goto dX4_isScout_25 (tgt := 29) (by decide) ?_
        refine r_zret rfl (by first | rfl | decide) dX4_isScout_29 ?_
        exact ⟨by unfold isSc; rw [h, eT]; simp_all [bI], rfl⟩
theorem t_X4_why (hW : WN N) (hP : SP S 1 N) : Call G (d + 2) M_X4_why [rv G 0, .int t, .int k, .int c] S (fun v u => v = some (whyA N t k c) ∧ u = S) := by
  refine call_of (lo := [(0, rv G 0), (1, .int t), (2, .int k), (3, .int c)]) (by decide +kernel) (Nat.le_of_ble_eq_true rfl) rfl ?_
  rcases sc_cases hW t k with h | ⟨T, K, h, -, rfl, hT, hT5, eT, rfl, hK, hK16, eK⟩
  ·
    refine r_aload_n dX4_why_0 0 rfl ?_
    refine r_iload_n dX4_why_1 1 rfl ?_
    refine r_iload_n dX4_why_2 2 rfl ?_
    refine r_callViF (As := [_, _]) c_X4_isScout (by first | assumption | rfl) l_X4_71 rfl rfl rfl (Nat.le_of_ble_eq_true rfl) dX4_why_3 (t_X4_isScout hW hP) ?_
    refine r_if_ne dX4_why_6 (tgt := 11) (by decide) (fun h6 => ?_) (fun h6 => ?_)
    · --t
      exact absurd (bI_not h) h6
    · --f
      refine r_iconst dX4_why_9 (v := -1) rfl ?_
      refine r_iret rfl dX4_why_10 ?_
      exact ⟨by unfold whyA; rw [h]; rfl, rfl⟩
  · have ha := kd4 hT5
    have hTT : TP S (4 + 3 * T) (N.2 T) := hP.2 T hT
    have hWT := hW.2 T hT
    have e2 : S (4 + 3 * T) 2 = (N.2 T).1 1 := hTT.1.2.2.1
    refine r_aload_n dX4_why_0 0 rfl ?_
    refine r_iload_n dX4_why_1 1 rfl ?_
    refine r_iload_n dX4_why_2 2 rfl ?_
    refine r_callViF (As := [_, _]) c_X4_isScout (by first | assumption | rfl) l_X4_71 rfl rfl rfl (Nat.le_of_ble_eq_true rfl) dX4_why_3 (t_X4_isScout hW hP) ?_
    refine r_if_ne dX4_why_6 (tgt := 11) (by decide) (fun h6 => ?_) (fun h6 => ?_)
    · --t
      refine r_iload_n dX4_why_11 3 rfl ?_
      refine r_if_lt dX4_why_12 (tgt := 20) (by decide) (fun h12 => ?_) (fun h12 => ?_)
      · --t
        refine r_bipush dX4_why_20 (v := -2) (by decide +kernel) ?_
        refine r_iret rfl dX4_why_22 ?_
        refine ⟨?_, rfl⟩
        unfold whyA
        rw [h, if_pos rfl, eT, eK]
        first
          | (rw [if_neg (by intro z; rcases z with z | z; exact h12 z; exact absurd h17 (Int32.not_le.mpr z))]; unfold whyT; first | (rw [hv40]; rfl) | (have n1 := tab_no hsw40 (y := 1) (by decide) (by decide); have n2 := tab_no hsw40 (y := 2) (by decide) (by decide); have n3 := tab_no hsw40 (y := 3) (by decide) (by decide); rw [e2] at h80; simp_all))
          | (rw [if_pos (by first | exact Or.inl h12 | exact Or.inr (Int32.not_le.mp h17))])
      · --f
        refine r_iload_n dX4_why_15 3 rfl ?_
        refine r_iconst dX4_why_16 (v := 1) rfl ?_
        refine r_icmp_le dX4_why_17 (tgt := 23) (by decide) (fun h17 => ?_) (fun h17 => ?_)
        · --t
          refine r_aload_n dX4_why_23 0 rfl ?_
          refine r_getR (b := 1) (by first | assumption | rfl) f_X4_10 rfl rfl dX4_why_24 rfl ?_
          refine r_getR (b := 3) (by first | assumption | rfl) f_X4_75 rfl rfl dX4_why_27 rfl ?_
          refine r_iload_n dX4_why_30 1 rfl ?_
          refine r_aald10 (j := _) (by first | assumption | rfl) (by first | assumption | rfl) (by first | assumption | decide) (rf3 _) dX4_why_31 ?_
          refine r_astore (lo2 := [(0, _), (1, _), (2, _), (3, _), (4, _)]) dX4_why_32 (Nat.le_of_ble_eq_true rfl) [1, 2, 3, 4, 0] rfl ?_
          refine r_aload dX4_why_34 4 rfl ?_
          refine r_iload_n dX4_why_36 2 rfl ?_
          refine r_callViF (As := [_]) c_X3_howIs (by first | assumption | rfl) l_X4_79 rfl rfl rfl (Nat.le_of_ble_eq_true rfl) dX4_why_37 (t_X3_howIs ha hK16 hTT hWT) ?_
          rcases tab_split ((N.2 T).2.1 K) 1 3 (by decide) with hsw40 | ⟨j40, hj40, hsw40⟩
          · --default
            refine r_tabOut (tgt := 74) dX4_why_40 (tab_out hsw40 (by decide)) (by decide) ?_
            refine r_iload_n dX4_why_74 3 rfl ?_
            refine r_aload dX4_why_75 4 rfl ?_
            refine r_getI (by first | assumption | rfl) f_X4_136 rfl rfl dX4_why_77 ?_
            refine r_icmp_ne dX4_why_80 (tgt := 87) (by decide) (fun h80 => ?_) (fun h80 => ?_)
            · --t
              refine r_iconst dX4_why_87 (v := 4) rfl ?_
              refine r_iret rfl dX4_why_88 ?_
              refine ⟨?_, rfl⟩
              unfold whyA
              rw [h, if_pos rfl, eT, eK]
              first
                | (rw [if_neg (by intro z; rcases z with z | z; exact h12 z; exact absurd h17 (Int32.not_le.mpr z))]; unfold whyT; first | (rw [hv40]; rfl) | (have n1 := tab_no hsw40 (y := 1) (by decide) (by decide); have n2 := tab_no hsw40 (y := 2) (by decide) (by decide); have n3 := tab_no hsw40 (y := 3) (by decide) (by decide); rw [e2] at h80; simp_all))
                | (rw [if_pos (by first | exact Or.inl h12 | exact Or.inr (Int32.not_le.mp h17))])
            · --f
              refine r_iconst dX4_why_83 (v := 0) rfl ?_
              refine r_goto dX4_why_84 (tgt := 88) (by decide) ?_
              refine r_iret rfl dX4_why_88 ?_
              refine ⟨?_, rfl⟩
              unfold whyA
              rw [h, if_pos rfl, eT, eK]
              first
                | (rw [if_neg (by intro z; rcases z with z | z; exact h12 z; exact absurd h17 (Int32.not_le.mpr z))]; unfold whyT; first | (rw [hv40]; rfl) | (have n1 := tab_no hsw40 (y := 1) (by decide) (by decide); have n2 := tab_no hsw40 (y := 2) (by decide) (by decide); have n3 := tab_no hsw40 (y := 3) (by decide) (by decide); rw [e2] at h80; simp_all))
                | (rw [if_pos (by first | exact Or.inl h12 | exact Or.inr (Int32.not_le.mp h17))])
          · --in
            match j40, hj40, hsw40 with
            | 0, _, hsw40 =>
              have hv40 : ((N.2 T).2.1 K) = 1 := hsw40
              clear hsw40
              rw [hv40]
              refine r_tabIn (off := 30) (tgt := 70) dX4_why_40 (by decide) (by decide) rfl (by decide) ?_
              refine r_iconst dX4_why_70 (v := 2) rfl ?_
              refine r_iret rfl dX4_why_71 ?_
              refine ⟨?_, rfl⟩
              unfold whyA
              rw [h, if_pos rfl, eT, eK]
              first
                | (rw [if_neg (by intro z; rcases z with z | z; exact h12 z; exact absurd h17 (Int32.not_le.mpr z))]; unfold whyT; first | (rw [hv40]; rfl) | (have n1 := tab_no hsw40 (y := 1) (by decide) (by decide); have n2 := tab_no hsw40 (y := 2) (by decide) (by decide); have n3 := tab_no hsw40 (y := 3) (by decide) (by decide); rw [e2] at h80; simp_all))
                | (rw [if_pos (by first | exact Or.inl h12 | exact Or.inr (Int32.not_le.mp h17))])
            | 1, _, hsw40 =>
              have hv40 : ((N.2 T).2.1 K) = 2 := hsw40
              clear hsw40
              rw [hv40]
              refine r_tabIn (off := 32) (tgt := 72) dX4_why_40 (by decide) (by decide) rfl (by decide) ?_
              refine r_iconst dX4_why_72 (v := 3) rfl ?_
              refine r_iret rfl dX4_why_73 ?_
              refine ⟨?_, rfl⟩
              unfold whyA
              rw [h, if_pos rfl, eT, eK]
              first
                | (rw [if_neg (by intro z; rcases z with z | z; exact h12 z; exact absurd h17 (Int32.not_le.mpr z))]; unfold whyT; first | (rw [hv40]; rfl) | (have n1 := tab_no hsw40 (y := 1) (by decide) (by decide); have n2 := tab_no hsw40 (y := 2) (by decide) (by decide); have n3 := tab_no hsw40 (y := 3) (by decide) (by decide); rw [e2] at h80; simp_all))
                | (rw [if_pos (by first | exact Or.inl h12 | exact Or.inr (Int32.not_le.mp h17))])
            | 2, _, hsw40 =>
              have hv40 : ((N.2 T).2.1 K) = 3 := hsw40
              clear hsw40
              rw [hv40]
              refine r_tabIn (off := 28) (tgt := 68) dX4_why_40 (by decide) (by decide) rfl (by decide) ?_
              refine r_iconst dX4_why_68 (v := 1) rfl ?_
              refine r_iret rfl dX4_why_69 ?_
              refine ⟨?_, rfl⟩
              unfold whyA
              rw [h, if_pos rfl, eT, eK]
              first
                | (rw [if_neg (by intro z; rcases z with z | z; exact h12 z; exact absurd h17 (Int32.not_le.mpr z))]; unfold whyT; first | (rw [hv40]; rfl) | (have n1 := tab_no hsw40 (y := 1) (by decide) (by decide); have n2 := tab_no hsw40 (y := 2) (by decide) (by decide); have n3 := tab_no hsw40 (y := 3) (by decide) (by decide); rw [e2] at h80; simp_all))
                | (rw [if_pos (by first | exact Or.inl h12 | exact Or.inr (Int32.not_le.mp h17))])
            | (j + 3), hj, _ => exact absurd hj (by omega)
        · --f
          refine r_bipush dX4_why_20 (v := -2) (by decide +kernel) ?_
          refine r_iret rfl dX4_why_22 ?_
          refine ⟨?_, rfl⟩
          unfold whyA
          rw [h, if_pos rfl, eT, eK]
          first
            | (rw [if_neg (by intro z; rcases z with z | z; exact h12 z; exact absurd h17 (Int32.not_le.mpr z))]; unfold whyT; first | (rw [hv40]; rfl) | (have n1 := tab_no hsw40 (y := 1) (by decide) (by decide); have n2 := tab_no hsw40 (y := 2) (by decide) (by decide); have n3 := tab_no hsw40 (y := 3) (by decide) (by decide); rw [e2] at h80; simp_all))
            | (rw [if_pos (by first | exact Or.inl h12 | exact Or.inr (Int32.not_le.mp h17))])
    · --f
      exact absurd (bI_yes h) (by rw [h6]; decide)
theorem t_X4_addTroop (hW : WN N) (hP : SP S 1 N) : Call G (d + 1) M_X4_addTroop [rv G 0, .int s] S (fun v u => v = some (addO N s).1 ∧ SP u 1 (addO N s).2 ∧ FS 1 S u) := by
  refine call_of (lo := [(0, rv G 0), (1, .int s)]) (by decide +kernel) (Nat.le_of_ble_eq_true rfl) rfl ?_
  obtain ⟨hc, hc5⟩ := hW.cn
  have ec := hP.1.2.2.1
  rcases sz_cases s with h | ⟨n, h, rfl, hn1, hn2⟩
  ·
    refine r_iload_n dX4_addTroop_0 1 rfl ?_
    refine r_callSiF (As := [_]) c_X4_isSize l_X4_95 rfl rfl rfl (Nat.le_of_ble_eq_true rfl) dX4_addTroop_1 (t_X4_isSize) ?_
    refine r_if_ne dX4_addTroop_4 (tgt := 10) (by decide) (fun h4 => ?_) (fun h4 => ?_)
    · --t
      exact absurd (bI_not h) h4
    · --f
      refine r_bipush dX4_addTroop_7 (v := -2) (by decide +kernel) ?_
      refine r_iret rfl dX4_addTroop_9 ?_
      unfold addO; rw [h]; exact ⟨rfl, hP, FS.rf⟩
  · have h5 : cnt N < 5 → ¬ 5 ≤ N.1 3 := fun z => by rw [hc]; exact nI_ge (b := 5) z (by decide)
    by_cases hlt : cnt N < 5
    · have hl : cnt N < ln 3 := hlt
      have ha := kd4 hlt
      refine r_iload_n dX4_addTroop_0 1 rfl ?_
      refine r_callSiF (As := [_]) c_X4_isSize l_X4_95 rfl rfl rfl (Nat.le_of_ble_eq_true rfl) dX4_addTroop_1 (t_X4_isSize) ?_
      refine r_if_ne dX4_addTroop_4 (tgt := 10) (by decide) (fun h4 => ?_) (fun h4 => ?_)
      · --t
        refine r_aload_n dX4_addTroop_10 0 rfl ?_
        refine r_getR (b := 1) (by first | assumption | rfl) f_X4_10 rfl rfl dX4_addTroop_11 rfl ?_
        refine r_getI (by first | assumption | rfl) f_X4_99 rfl rfl dX4_addTroop_14 ?_
        refine r_iconst dX4_addTroop_17 (v := 5) rfl ?_
        refine r_icmp_lt dX4_addTroop_18 (tgt := 24) (by decide) (fun h18 => ?_) (fun h18 => ?_)
        · --t
          refine r_aload_n dX4_addTroop_24 0 rfl ?_
          refine r_getR (b := 1) (by first | assumption | rfl) f_X4_10 rfl rfl dX4_addTroop_25 rfl ?_
          refine r_getI (by first | assumption | rfl) f_X4_99 rfl rfl dX4_addTroop_28 ?_
          refine r_istore_n (lo2 := [(0, _), (1, _), (2, _)]) dX4_addTroop_31 rfl (Nat.le_of_ble_eq_true rfl) [1, 2, 0] rfl ?_
          refine r_aload_n dX4_addTroop_32 0 rfl ?_
          refine r_getR (b := 1) (by first | assumption | rfl) f_X4_10 rfl rfl dX4_addTroop_33 rfl ?_
          refine r_getR (b := 3) (by first | assumption | rfl) f_X4_75 rfl rfl dX4_addTroop_36 rfl ?_
          refine r_iload_n dX4_addTroop_39 2 rfl ?_
          refine r_aald10 (j := (cnt N)) (by first | assumption | rfl) (by rw [ec, hc]) (by first | assumption | decide) (rf3 _) dX4_addTroop_40 ?_
          refine r_iload_n dX4_addTroop_41 1 rfl ?_
          refine r_callVv (As := [_]) c_X3_begin (by first | assumption | rfl) l_X4_103 rfl rfl rfl (Nat.le_of_ble_eq_true rfl) dX4_addTroop_42 (t_X3_begin ha) (fun u42 q42 => ?_)
          obtain ⟨-, hT2, hF2⟩ := q42
          refine r_aload_n dX4_addTroop_45 0 rfl ?_
          refine r_getR (b := 1) (by first | assumption | rfl) f_X4_10 rfl rfl dX4_addTroop_46 rfl ?_
          refine r_dup dX4_addTroop_49 rfl ?_
          refine r_getI (by first | assumption | rfl) f_X4_99 rfl rfl dX4_addTroop_50 ?_
          refine r_iconst dX4_addTroop_53 (v := 1) rfl ?_
          refine r_iadd dX4_addTroop_54 ?_
          refine r_putI (by first | assumption | rfl) f_X4_99 rfl rfl rfl rfl dX4_addTroop_55 ?_
          refine r_iload_n dX4_addTroop_58 2 rfl ?_
          refine r_iret rfl dX4_addTroop_59 ?_
          unfold addO
          rw [h, if_pos rfl, if_neg (h5 hlt)]
          have w1 : u42 1 = S 1 := hF2 1 (by omega) (by omega) (by omega)
          refine ⟨by rw [ec], ⟨?_, fun i hi => ?_⟩, fun x hx => ?_⟩
          · have e4 : up1 u42 1 (upd (u42 1) 2 (u42 1 2 + 1)) (1 + 1) = S 2 := (up1_n (by omega)).trans (hF2 2 (by omega) (by omega) (by omega))
            rw [e4, up1_s, w1]
            refine ⟨hP.1.1, hP.1.2.1, ?_, hP.1.2.2.2.1, hP.1.2.2.2.2⟩
            show upd (S 1) 2 (S 1 2 + 1) 2 = upd N.1 3 (N.1 3 + 1) 3
            simp only [upd, reduceIte, ec]
          · show TP _ (1 + 3 + 3 * i) (if i = cnt N then newT (nI n) else N.2 i)
            have hi2 : i < cnt N + 1 := by rw [← (wn_add hW hlt hn1 hn2).2]; exact hi
            have z : TP u42 (1 + 3 + 3 * i) (if i = cnt N then newT (nI n) else N.2 i) := by
              by_cases e : i = cnt N
              · subst e; rw [if_pos rfl]; exact hT2
              · rw [if_neg e]; exact (hP.2 i (by omega)).off (fun x hx => hF2 x (by omega) (by omega) (by omega))
            exact z.off (fun x hx => up1_n (by omega))
          · rw [up1_n (by omega)]; exact fs_fr hF2 hlt x hx
        · --f
          exact absurd (by rw [← ec]; exact Int32.not_lt.mp h18) (h5 hlt)
      · --f
        exact absurd (bI_yes h) (by rw [h4]; decide)
    · have hge : 5 ≤ N.1 3 := by rw [hc]; exact nI_le (a := 5) (by omega) (by omega)
      refine r_iload_n dX4_addTroop_0 1 rfl ?_
      refine r_callSiF (As := [_]) c_X4_isSize l_X4_95 rfl rfl rfl (Nat.le_of_ble_eq_true rfl) dX4_addTroop_1 (t_X4_isSize) ?_
      refine r_if_ne dX4_addTroop_4 (tgt := 10) (by decide) (fun h4 => ?_) (fun h4 => ?_)
      · --t
        refine r_aload_n dX4_addTroop_10 0 rfl ?_
        refine r_getR (b := 1) (by first | assumption | rfl) f_X4_10 rfl rfl dX4_addTroop_11 rfl ?_
        refine r_getI (by first | assumption | rfl) f_X4_99 rfl rfl dX4_addTroop_14 ?_
        refine r_iconst dX4_addTroop_17 (v := 5) rfl ?_
        refine r_icmp_lt dX4_addTroop_18 (tgt := 24) (by decide) (fun h18 => ?_) (fun h18 => ?_)
        · --t
          exact absurd (by rw [← ec] at hge; exact hge) (Int32.not_le.mpr h18)
        · --f
          refine r_bipush dX4_addTroop_21 (v := -4) (by decide +kernel) ?_
          refine r_iret rfl dX4_addTroop_23 ?_
          unfold addO; rw [h, if_pos rfl, if_pos hge]; exact ⟨rfl, hP, FS.rf⟩
      · --f
        exact absurd (bI_yes h) (by rw [h4]; decide)
theorem SP.nx {u : mS} {T : Nat} {x : Int32} (h : SP S 1 N) (hT : T < cnt N) (hc : cnt N ≤ 5) (hu : u = up1 S (4 + 3 * T) (upd (S (4 + 3 * T)) 1 x)) : SP u 1 (setTr N T (rszT (N.2 T) x)) ∧ FS 1 S u := by
  have hF : FR (4 + 3 * T) S u := by rw [hu]; exact FR.rf.up0
  refine ⟨h.tr hT hc ?_ hF, fs_fr hF (by omega)⟩
  have g : TP S (4 + 3 * T) (N.2 T) := h.2 T hT
  obtain ⟨⟨a1, a2, a3, a4, a5, a6⟩, ⟨b1, b2, b3, b4⟩, c⟩ := id g
  rw [hu]
  refine TP.sc g ?_ ?_ ?_ ?_ ?_ ?_ ?_ ?_ ?_ ?_ ?_ ?_ rfl <;> simp only [up1, upd, reduceIte, Nat.reduceEqDiff, ap3, ap4]
  · exact a1
  · rfl
  · exact a3
  · exact a4
  · exact a5
  · exact a6
  · exact b1
  · exact b2
  · exact b3
  · exact b4
theorem t_X4_changeSize (hW : WN N) (hP : SP S 1 N) : Call G (d + 1) M_X4_changeSize [rv G 0, .int t, .int s] S (fun v u => v = some (rszO N t s).1 ∧ SP u 1 (rszO N t s).2 ∧ FS 1 S u) := by
  refine call_of (lo := [(0, rv G 0), (1, .int t), (2, .int s)]) (by decide +kernel) (Nat.le_of_ble_eq_true rfl) rfl ?_
  obtain ⟨hc, hc5⟩ := hW.cn
  rcases tr_cases hW t with h | ⟨T, h, rfl, hT, hT5, eT⟩
  ·
    refine r_aload_n dX4_changeSize_0 0 rfl ?_
    refine r_iload_n dX4_changeSize_1 1 rfl ?_
    refine r_callViF (As := [_]) c_X4_isTroop (by first | assumption | rfl) l_X4_106 rfl rfl rfl (Nat.le_of_ble_eq_true rfl) dX4_changeSize_2 (t_X4_isTroop hP) ?_
    refine r_if_ne dX4_changeSize_5 (tgt := 10) (by decide) (fun h5 => ?_) (fun h5 => ?_)
    · --t
      exact absurd (bI_not h) h5
    · --f
      refine r_iconst dX4_changeSize_8 (v := -1) rfl ?_
      refine r_iret rfl dX4_changeSize_9 ?_
      unfold rszO; rw [h]; exact ⟨rfl, hP, FS.rf⟩
  · have ha := kd4 hT5
    have hl : T < ln 3 := hT5
    rcases sz_cases s with h2 | ⟨n, h2, rfl, hn1, hn2⟩
    ·
      refine r_aload_n dX4_changeSize_0 0 rfl ?_
      refine r_iload_n dX4_changeSize_1 1 rfl ?_
      refine r_callViF (As := [_]) c_X4_isTroop (by first | assumption | rfl) l_X4_106 rfl rfl rfl (Nat.le_of_ble_eq_true rfl) dX4_changeSize_2 (t_X4_isTroop hP) ?_
      refine r_if_ne dX4_changeSize_5 (tgt := 10) (by decide) (fun h5 => ?_) (fun h5 => ?_)
      · --t
        refine r_iload_n dX4_changeSize_10 2 rfl ?_
        refine r_callSiF (As := [_]) c_X4_isSize l_X4_95 rfl rfl rfl (Nat.le_of_ble_eq_true rfl) dX4_changeSize_11 (t_X4_isSize) ?_
        refine r_if_ne dX4_changeSize_14 (tgt := 20) (by decide) (fun h14 => ?_) (fun h14 => ?_)
        · --t
          exact absurd (bI_not h2) h14
        · --f
          refine r_bipush dX4_changeSize_17 (v := -2) (by decide +kernel) ?_
          refine r_iret rfl dX4_changeSize_19 ?_
          unfold rszO; rw [h, h2]; exact ⟨rfl, hP, FS.rf⟩
      · --f
        exact absurd (bI_yes h) (by rw [h5]; decide)
    · have hTT : TP S (4 + 3 * T) (N.2 T) := hP.2 T hT
      refine r_aload_n dX4_changeSize_0 0 rfl ?_
      refine r_iload_n dX4_changeSize_1 1 rfl ?_
      refine r_callViF (As := [_]) c_X4_isTroop (by first | assumption | rfl) l_X4_106 rfl rfl rfl (Nat.le_of_ble_eq_true rfl) dX4_changeSize_2 (t_X4_isTroop hP) ?_
      refine r_if_ne dX4_changeSize_5 (tgt := 10) (by decide) (fun h5 => ?_) (fun h5 => ?_)
      · --t
        refine r_iload_n dX4_changeSize_10 2 rfl ?_
        refine r_callSiF (As := [_]) c_X4_isSize l_X4_95 rfl rfl rfl (Nat.le_of_ble_eq_true rfl) dX4_changeSize_11 (t_X4_isSize) ?_
        refine r_if_ne dX4_changeSize_14 (tgt := 20) (by decide) (fun h14 => ?_) (fun h14 => ?_)
        · --t
          refine r_aload_n dX4_changeSize_20 0 rfl ?_
          refine r_getR (b := 1) (by first | assumption | rfl) f_X4_10 rfl rfl dX4_changeSize_21 rfl ?_
          refine r_getR (b := 3) (by first | assumption | rfl) f_X4_75 rfl rfl dX4_changeSize_24 rfl ?_
          refine r_iload_n dX4_changeSize_27 1 rfl ?_
          refine r_aald10 (j := _) (by first | assumption | rfl) (by first | assumption | rfl) (by first | assumption | decide) (rf3 _) dX4_changeSize_28 ?_
          refine r_astore_n (lo2 := [(0, _), (1, _), (2, _), (3, _)]) dX4_changeSize_29 rfl (Nat.le_of_ble_eq_true rfl) [1, 2, 3, 0] rfl ?_
          refine r_aload_n dX4_changeSize_30 3 rfl ?_
          refine r_getI (by first | assumption | rfl) f_X4_109 rfl rfl dX4_changeSize_31 ?_
          refine r_istore (lo2 := [(0, _), (1, _), (2, _), (3, _), (4, _)]) dX4_changeSize_34 (Nat.le_of_ble_eq_true rfl) [1, 2, 3, 4, 0] rfl ?_
          refine r_aload_n dX4_changeSize_36 3 rfl ?_
          refine r_iload_n dX4_changeSize_37 2 rfl ?_
          refine r_putI (by first | assumption | rfl) f_X4_109 rfl rfl rfl rfl dX4_changeSize_38 ?_
          refine r_iload dX4_changeSize_41 4 rfl ?_
          refine r_iret rfl dX4_changeSize_43 ?_
          unfold rszO; rw [h, h2, if_pos rfl, if_pos rfl, eT]
          obtain ⟨z1, z2⟩ := SP.nx hP hT hc5 rfl
          exact ⟨by rw [hTT.1.2.1], z1, z2⟩
        · --f
          exact absurd (bI_yes h2) (by rw [h14]; decide)
      · --f
        exact absurd (bI_yes h) (by rw [h5]; decide)
end GATES
