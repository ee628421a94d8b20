/-! the class's own methods: what is asked -/
theorem knw_eq {T : mT} (k : Int32) : (decide (0 ≤ k ∧ k < T.1 0) || (decide (0 ≤ k ∧ k < 16) && bt (hm T 3) k.toNatClampNeg)) = knwT T k := by
  unfold knwT
  by_cases h : 0 ≤ k ∧ k < 16
  · obtain ⟨j, hj, rfl⟩ := nI_of (Int32.not_lt.mpr h.1)
    have h2 := h.2
    rw [show (16 : Int32) = nI 16 from rfl, nI_ltI hj (by omega)] at h2
    rw [nI_clamp hj, bt_hm T 3 h2]
  · rw [decide_eq_false h]; rfl
theorem knw_in {T : mT} {k : Int32} (hW : WF T) (h : knwT T k = true) : ∃ K, k = nI K ∧ K < 16 ∧ k.toNatClampNeg = K := by
  unfold knwT at h
  rw [Bool.or_eq_true, Bool.and_eq_true] at h
  obtain ⟨s, e1, e2, e3, e4⟩ := hW.sz
  rcases h with h | ⟨h, -⟩
  · obtain ⟨h1, h2⟩ := of_decide_eq_true h
    obtain ⟨j, hj, rfl⟩ := nI_of (Int32.not_lt.mpr h1)
    rw [e2, nI_ltI hj (by omega)] at h2
    exact ⟨j, rfl, by omega, nI_clamp hj⟩
  · obtain ⟨h1, h2⟩ := of_decide_eq_true h
    obtain ⟨j, hj, rfl⟩ := nI_of (Int32.not_lt.mpr h1)
    rw [show (16 : Int32) = nI 16 from rfl, nI_ltI hj (by omega)] at h2
    exact ⟨j, rfl, h2, nI_clamp hj⟩
section GATES
variable {G : mG} {d : Nat} {S : mS} {N : mN} {t k c s w : Int32}
theorem t_X4_ofTroop (hW : WN N) (hP : SP S 1 N) : Call G (d + 3) M_X4_ofTroop [rv G 0, .int t, .int w] S (fun v u => v = some (ofTA N t w) ∧ u = S) := by
  refine call_of (lo := [(0, rv G 0), (1, .int t), (2, .int w)]) (by decide +kernel) (Nat.le_of_ble_eq_true rfl) rfl ?_
  unfold ofTA
  rcases tr_cases hW t with h | ⟨T, h, rfl, hT, hT5, eT⟩
  ·
    refine r_aload_n dX4_ofTroop_0 0 rfl ?_
    refine r_iload_n dX4_ofTroop_1 1 rfl ?_
    refine r_callViF (As := [_]) c_X4_isTroop (by first | assumption | rfl) l_X4_106 rfl rfl rfl (Nat.le_of_ble_eq_true rfl) dX4_ofTroop_2 (t_X4_isTroop hP) ?_
    refine r_if_ne dX4_ofTroop_5 (tgt := 10) (by decide) (fun h5 => ?_) (fun h5 => ?_)
    · --t
      exact absurd (bI_not h) h5
    · --f
      refine r_iconst dX4_ofTroop_8 (v := -1) rfl ?_
      refine r_iret rfl dX4_ofTroop_9 ?_
      rw [h]; exact ⟨rfl, rfl⟩
  · have ha := kd4 hT5
    have hl : T < ln 3 := hT5
    have hTT : TP S (4 + 3 * T) (N.2 T) := hP.2 T hT
    have hWT := hW.2 T hT
    obtain ⟨⟨a1, a2, a3, a4, a5, a6⟩, ⟨b1, b2, b3, b4⟩, -⟩ := id hTT
    rw [h, if_pos rfl, eT]
    refine r_aload_n dX4_ofTroop_0 0 rfl ?_
    refine r_iload_n dX4_ofTroop_1 1 rfl ?_
    refine r_callViF (As := [_]) c_X4_isTroop (by first | assumption | rfl) l_X4_106 rfl rfl rfl (Nat.le_of_ble_eq_true rfl) dX4_ofTroop_2 (t_X4_isTroop hP) ?_
    refine r_if_ne dX4_ofTroop_5 (tgt := 10) (by decide) (fun h5 => ?_) (fun h5 => ?_)
    · --t
      refine r_aload_n dX4_ofTroop_10 0 rfl ?_
      refine r_getR (b := 1) (by first | assumption | rfl) f_X4_10 rfl rfl dX4_ofTroop_11 rfl ?_
      refine r_getR (b := 3) (by first | assumption | rfl) f_X4_75 rfl rfl dX4_ofTroop_14 rfl ?_
      refine r_iload_n dX4_ofTroop_17 1 rfl ?_
      refine r_aald10 (j := _) (by first | assumption | rfl) (by first | assumption | rfl) (by first | assumption | decide) (rf3 _) dX4_ofTroop_18 ?_
      refine r_astore_n (lo2 := [(0, _), (1, _), (2, _), (3, _)]) dX4_ofTroop_19 rfl (Nat.le_of_ble_eq_true rfl) [1, 2, 3, 0] rfl ?_
      refine r_iload_n dX4_ofTroop_20 2 rfl ?_
      rcases tab_split w 0 12 (by decide) with hsw21 | ⟨j21, hj21, hsw21⟩
      · --default
        refine r_tabOut (tgt := 144) dX4_ofTroop_21 (tab_out hsw21 (by decide)) (by decide) ?_
        refine r_bipush dX4_ofTroop_144 (v := -2) (by decide +kernel) ?_
        refine r_iret rfl dX4_ofTroop_146 ?_
        rw [if_neg (tab_no hsw21 (y := 0) (by decide) (by decide)), if_neg (tab_no hsw21 (y := 1) (by decide) (by decide)), if_neg (tab_no hsw21 (y := 2) (by decide) (by decide)), if_neg (tab_no hsw21 (y := 3) (by decide) (by decide)), if_neg (tab_no hsw21 (y := 4) (by decide) (by decide)), if_neg (tab_no hsw21 (y := 5) (by decide) (by decide)), if_neg (tab_no hsw21 (y := 6) (by decide) (by decide)), if_neg (tab_no hsw21 (y := 7) (by decide) (by decide)), if_neg (tab_no hsw21 (y := 8) (by decide) (by decide)), if_neg (tab_no hsw21 (y := 9) (by decide) (by decide)), if_neg (tab_no hsw21 (y := 10) (by decide) (by decide)), if_neg (tab_no hsw21 (y := 11) (by decide) (by decide))]; exact ⟨rfl, rfl⟩
      · --in
        match j21, hj21, hsw21 with
        | 0, _, hsw21 =>
          have hv21 : w = 0 := hsw21
          clear hsw21
          subst hv21
          refine r_tabIn (off := 63) (tgt := 84) dX4_ofTroop_21 (by decide) (by decide) rfl (by decide) ?_
          refine r_aload_n dX4_ofTroop_84 3 rfl ?_
          refine r_getI (by first | assumption | rfl) f_X4_133 rfl rfl dX4_ofTroop_85 ?_
          refine r_iret rfl dX4_ofTroop_88 ?_
          exact ⟨by first | rfl | (rw [a1]; rfl) | (rw [a2]; rfl) | (rw [a3]; rfl) | (rw [a4]; rfl) | (rw [a5]; rfl) | (rw [a6]; rfl) | (rw [b1]; rfl) | (rw [b2]; rfl) | (rw [b3]; rfl) | (rw [b4]; rfl), rfl⟩
        | 1, _, hsw21 =>
          have hv21 : w = 1 := hsw21
          clear hsw21
          subst hv21
          refine r_tabIn (off := 68) (tgt := 89) dX4_ofTroop_21 (by decide) (by decide) rfl (by decide) ?_
          refine r_aload_n dX4_ofTroop_89 3 rfl ?_
          refine r_getI (by first | assumption | rfl) f_X4_136 rfl rfl dX4_ofTroop_90 ?_
          refine r_iret rfl dX4_ofTroop_93 ?_
          exact ⟨by first | rfl | (rw [a1]; rfl) | (rw [a2]; rfl) | (rw [a3]; rfl) | (rw [a4]; rfl) | (rw [a5]; rfl) | (rw [a6]; rfl) | (rw [b1]; rfl) | (rw [b2]; rfl) | (rw [b3]; rfl) | (rw [b4]; rfl), rfl⟩
        | 2, _, hsw21 =>
          have hv21 : w = 2 := hsw21
          clear hsw21
          subst hv21
          refine r_tabIn (off := 73) (tgt := 94) dX4_ofTroop_21 (by decide) (by decide) rfl (by decide) ?_
          refine r_aload_n dX4_ofTroop_94 3 rfl ?_
          refine r_getI (by first | assumption | rfl) f_X4_109 rfl rfl dX4_ofTroop_95 ?_
          refine r_iret rfl dX4_ofTroop_98 ?_
          exact ⟨by first | rfl | (rw [a1]; rfl) | (rw [a2]; rfl) | (rw [a3]; rfl) | (rw [a4]; rfl) | (rw [a5]; rfl) | (rw [a6]; rfl) | (rw [b1]; rfl) | (rw [b2]; rfl) | (rw [b3]; rfl) | (rw [b4]; rfl), rfl⟩
        | 3, _, hsw21 =>
          have hv21 : w = 3 := hsw21
          clear hsw21
          subst hv21
          refine r_tabIn (off := 78) (tgt := 99) dX4_ofTroop_21 (by decide) (by decide) rfl (by decide) ?_
          refine r_aload_n dX4_ofTroop_99 3 rfl ?_
          refine r_callViF (As := []) c_X3_countDown (by first | assumption | rfl) l_X4_124 rfl rfl rfl (Nat.le_of_ble_eq_true rfl) dX4_ofTroop_100 (t_X3_countDown ha hTT hWT) ?_
          refine r_iret rfl dX4_ofTroop_103 ?_
          exact ⟨by first | rfl | (rw [a1]; rfl) | (rw [a2]; rfl) | (rw [a3]; rfl) | (rw [a4]; rfl) | (rw [a5]; rfl) | (rw [a6]; rfl) | (rw [b1]; rfl) | (rw [b2]; rfl) | (rw [b3]; rfl) | (rw [b4]; rfl), rfl⟩
        | 4, _, hsw21 =>
          have hv21 : w = 4 := hsw21
          clear hsw21
          subst hv21
          refine r_tabIn (off := 83) (tgt := 104) dX4_ofTroop_21 (by decide) (by decide) rfl (by decide) ?_
          refine r_aload_n dX4_ofTroop_104 3 rfl ?_
          refine r_getI (by first | assumption | rfl) f_X4_139 rfl rfl dX4_ofTroop_105 ?_
          refine r_iret rfl dX4_ofTroop_108 ?_
          exact ⟨by first | rfl | (rw [a1]; rfl) | (rw [a2]; rfl) | (rw [a3]; rfl) | (rw [a4]; rfl) | (rw [a5]; rfl) | (rw [a6]; rfl) | (rw [b1]; rfl) | (rw [b2]; rfl) | (rw [b3]; rfl) | (rw [b4]; rfl), rfl⟩
        | 5, _, hsw21 =>
          have hv21 : w = 5 := hsw21
          clear hsw21
          subst hv21
          refine r_tabIn (off := 88) (tgt := 109) dX4_ofTroop_21 (by decide) (by decide) rfl (by decide) ?_
          refine r_aload_n dX4_ofTroop_109 3 rfl ?_
          refine r_callViF (As := []) c_X3_atHome (by first | assumption | rfl) l_X4_142 rfl rfl rfl (Nat.le_of_ble_eq_true rfl) dX4_ofTroop_110 (t_X3_atHome ha hTT hWT) ?_
          refine r_iret rfl dX4_ofTroop_113 ?_
          exact ⟨by first | rfl | (rw [a1]; rfl) | (rw [a2]; rfl) | (rw [a3]; rfl) | (rw [a4]; rfl) | (rw [a5]; rfl) | (rw [a6]; rfl) | (rw [b1]; rfl) | (rw [b2]; rfl) | (rw [b3]; rfl) | (rw [b4]; rfl), rfl⟩
        | 6, _, hsw21 =>
          have hv21 : w = 6 := hsw21
          clear hsw21
          subst hv21
          refine r_tabIn (off := 93) (tgt := 114) dX4_ofTroop_21 (by decide) (by decide) rfl (by decide) ?_
          refine r_aload_n dX4_ofTroop_114 3 rfl ?_
          refine r_getI (by first | assumption | rfl) f_X4_145 rfl rfl dX4_ofTroop_115 ?_
          refine r_iret rfl dX4_ofTroop_118 ?_
          exact ⟨by first | rfl | (rw [a1]; rfl) | (rw [a2]; rfl) | (rw [a3]; rfl) | (rw [a4]; rfl) | (rw [a5]; rfl) | (rw [a6]; rfl) | (rw [b1]; rfl) | (rw [b2]; rfl) | (rw [b3]; rfl) | (rw [b4]; rfl), rfl⟩
        | 7, _, hsw21 =>
          have hv21 : w = 7 := hsw21
          clear hsw21
          subst hv21
          refine r_tabIn (off := 98) (tgt := 119) dX4_ofTroop_21 (by decide) (by decide) rfl (by decide) ?_
          refine r_aload_n dX4_ofTroop_119 3 rfl ?_
          refine r_getI (by first | assumption | rfl) f_X4_148 rfl rfl dX4_ofTroop_120 ?_
          refine r_iret rfl dX4_ofTroop_123 ?_
          exact ⟨by first | rfl | (rw [a1]; rfl) | (rw [a2]; rfl) | (rw [a3]; rfl) | (rw [a4]; rfl) | (rw [a5]; rfl) | (rw [a6]; rfl) | (rw [b1]; rfl) | (rw [b2]; rfl) | (rw [b3]; rfl) | (rw [b4]; rfl), rfl⟩
        | 8, _, hsw21 =>
          have hv21 : w = 8 := hsw21
          clear hsw21
          subst hv21
          refine r_tabIn (off := 103) (tgt := 124) dX4_ofTroop_21 (by decide) (by decide) rfl (by decide) ?_
          refine r_aload_n dX4_ofTroop_124 3 rfl ?_
          refine r_getI (by first | assumption | rfl) f_X4_151 rfl rfl dX4_ofTroop_125 ?_
          refine r_iret rfl dX4_ofTroop_128 ?_
          exact ⟨by first | rfl | (rw [a1]; rfl) | (rw [a2]; rfl) | (rw [a3]; rfl) | (rw [a4]; rfl) | (rw [a5]; rfl) | (rw [a6]; rfl) | (rw [b1]; rfl) | (rw [b2]; rfl) | (rw [b3]; rfl) | (rw [b4]; rfl), rfl⟩
        | 9, _, hsw21 =>
          have hv21 : w = 9 := hsw21
          clear hsw21
          subst hv21
          refine r_tabIn (off := 108) (tgt := 129) dX4_ofTroop_21 (by decide) (by decide) rfl (by decide) ?_
          refine r_aload_n dX4_ofTroop_129 3 rfl ?_
          refine r_getI (by first | assumption | rfl) f_X4_154 rfl rfl dX4_ofTroop_130 ?_
          refine r_iret rfl dX4_ofTroop_133 ?_
          exact ⟨by first | rfl | (rw [a1]; rfl) | (rw [a2]; rfl) | (rw [a3]; rfl) | (rw [a4]; rfl) | (rw [a5]; rfl) | (rw [a6]; rfl) | (rw [b1]; rfl) | (rw [b2]; rfl) | (rw [b3]; rfl) | (rw [b4]; rfl), rfl⟩
        | 10, _, hsw21 =>
          have hv21 : w = 10 := hsw21
          clear hsw21
          subst hv21
          refine r_tabIn (off := 113) (tgt := 134) dX4_ofTroop_21 (by decide) (by decide) rfl (by decide) ?_
          refine r_aload_n dX4_ofTroop_134 3 rfl ?_
          refine r_getI (by first | assumption | rfl) f_X4_157 rfl rfl dX4_ofTroop_135 ?_
          refine r_iret rfl dX4_ofTroop_138 ?_
          exact ⟨by first | rfl | (rw [a1]; rfl) | (rw [a2]; rfl) | (rw [a3]; rfl) | (rw [a4]; rfl) | (rw [a5]; rfl) | (rw [a6]; rfl) | (rw [b1]; rfl) | (rw [b2]; rfl) | (rw [b3]; rfl) | (rw [b4]; rfl), rfl⟩
        | 11, _, hsw21 =>
          have hv21 : w = 11 := hsw21
          clear hsw21
          subst hv21
          refine r_tabIn (off := 118) (tgt := 139) dX4_ofTroop_21 (by decide) (by decide) rfl (by decide) ?_
          refine r_aload_n dX4_ofTroop_139 3 rfl ?_
          refine r_getI (by first | assumption | rfl) f_X4_160 rfl rfl dX4_ofTroop_140 ?_
          refine r_iret rfl dX4_ofTroop_143 ?_
          exact ⟨by first | rfl | (rw [a1]; rfl) | (rw [a2]; rfl) | (rw [a3]; rfl) | (rw [a4]; rfl) | (rw [a5]; rfl) | (rw [a6]; rfl) | (rw [b1]; rfl) | (rw [b2]; rfl) | (rw [b3]; rfl) | (rw [b4]; rfl), rfl⟩
        | (j + 12), hj, _ => exact absurd hj (by omega)
    · --f
      exact absurd (bI_yes h) (by rw [h5]; decide)
theorem t_X4_of (hW : WN N) (hP : SP S 1 N) : Call G (d + 3) M_X4_of [rv G 0, .int t, .int k, .int w] S (fun v u => v = some (ofA N t k w) ∧ u = S) := by
  refine call_of (lo := [(0, rv G 0), (1, .int t), (2, .int k), (3, .int w)]) (by decide +kernel) (Nat.le_of_ble_eq_true rfl) rfl ?_
  unfold ofA
  rcases tr_cases hW t with h | ⟨T, h, rfl, hT, hT5, eT⟩
  ·
    refine r_aload_n dX4_of_0 0 rfl ?_
    refine r_iload_n dX4_of_1 1 rfl ?_
    refine r_callViF (As := [_]) c_X4_isTroop (by first | assumption | rfl) l_X4_106 rfl rfl rfl (Nat.le_of_ble_eq_true rfl) dX4_of_2 (t_X4_isTroop hP) ?_
    refine r_if_ne dX4_of_5 (tgt := 10) (by decide) (fun h5 => ?_) (fun h5 => ?_)
    · --t
      exact absurd (bI_not h) h5
    · --f
      refine r_iconst dX4_of_8 (v := -1) rfl ?_
      refine r_iret rfl dX4_of_9 ?_
      rw [h]; exact ⟨rfl, rfl⟩
  · have ha := kd4 hT5
    have hl : T < ln 3 := hT5
    obtain ⟨k1, k2, l1, l2, f1, f2⟩ := kdT ha
    have hTT : TP S (4 + 3 * T) (N.2 T) := hP.2 T hT
    have hWT := hW.2 T hT
    have hkn := @t_X3_knows G (d + 1) S (4 + 3 * T) k ha
    rw [hTT.1.1, hTT.2.1.2.2.1, knw_eq] at hkn
    rw [h, if_pos rfl, eT]
    cases hk : knwT (N.2 T) k
    · rw [hk] at hkn
      refine r_aload_n dX4_of_0 0 rfl ?_
      refine r_iload_n dX4_of_1 1 rfl ?_
      refine r_callViF (As := [_]) c_X4_isTroop (by first | assumption | rfl) l_X4_106 rfl rfl rfl (Nat.le_of_ble_eq_true rfl) dX4_of_2 (t_X4_isTroop hP) ?_
      refine r_if_ne dX4_of_5 (tgt := 10) (by decide) (fun h5 => ?_) (fun h5 => ?_)
      · --t
        refine r_aload_n dX4_of_10 0 rfl ?_
        refine r_getR (b := 1) (by first | assumption | rfl) f_X4_10 rfl rfl dX4_of_11 rfl ?_
        refine r_getR (b := 3) (by first | assumption | rfl) f_X4_75 rfl rfl dX4_of_14 rfl ?_
        refine r_iload_n dX4_of_17 1 rfl ?_
        refine r_aald10 (j := _) (by first | assumption | rfl) (by first | assumption | rfl) (by first | assumption | decide) (rf3 _) dX4_of_18 ?_
        refine r_astore (lo2 := [(0, _), (1, _), (2, _), (3, _), (4, _)]) dX4_of_19 (Nat.le_of_ble_eq_true rfl) [1, 2, 3, 4, 0] rfl ?_
        refine r_aload dX4_of_21 4 rfl ?_
        refine r_iload_n dX4_of_23 2 rfl ?_
        refine r_callViF (As := [_]) c_X3_knows (by first | assumption | rfl) l_X4_163 rfl rfl rfl (Nat.le_of_ble_eq_true rfl) dX4_of_24 hkn ?_
        refine r_if_ne dX4_of_27 (tgt := 32) (by decide) (fun h27 => ?_) (fun h27 => ?_)
        · --t
          exact absurd rfl h27
        · --f
          refine r_iconst dX4_of_30 (v := -1) rfl ?_
          refine r_iret rfl dX4_of_31 ?_
          exact ⟨rfl, rfl⟩
      · --f
        exact absurd (bI_yes h) (by rw [h5]; decide)
    · obtain ⟨K, rfl, hK, eK⟩ := knw_in hWT hk
      rw [hk] at hkn
      rw [if_pos rfl, eK]
      have hl1 : K < ln (4 + 3 * T + 1) := by rw [l1]; exact hK
      have hl2 : K < ln (4 + 3 * T + 2) := by rw [l2]; exact hK
      refine r_aload_n dX4_of_0 0 rfl ?_
      refine r_iload_n dX4_of_1 1 rfl ?_
      refine r_callViF (As := [_]) c_X4_isTroop (by first | assumption | rfl) l_X4_106 rfl rfl rfl (Nat.le_of_ble_eq_true rfl) dX4_of_2 (t_X4_isTroop hP) ?_
      refine r_if_ne dX4_of_5 (tgt := 10) (by decide) (fun h5 => ?_) (fun h5 => ?_)
      · --t
        refine r_aload_n dX4_of_10 0 rfl ?_
        refine r_getR (b := 1) (by first | assumption | rfl) f_X4_10 rfl rfl dX4_of_11 rfl ?_
        refine r_getR (b := 3) (by first | assumption | rfl) f_X4_75 rfl rfl dX4_of_14 rfl ?_
        refine r_iload_n dX4_of_17 1 rfl ?_
        refine r_aald10 (j := _) (by first | assumption | rfl) (by first | assumption | rfl) (by first | assumption | decide) (rf3 _) dX4_of_18 ?_
        refine r_astore (lo2 := [(0, _), (1, _), (2, _), (3, _), (4, _)]) dX4_of_19 (Nat.le_of_ble_eq_true rfl) [1, 2, 3, 4, 0] rfl ?_
        refine r_aload dX4_of_21 4 rfl ?_
        refine r_iload_n dX4_of_23 2 rfl ?_
        refine r_callViF (As := [_]) c_X3_knows (by first | assumption | rfl) l_X4_163 rfl rfl rfl (Nat.le_of_ble_eq_true rfl) dX4_of_24 hkn ?_
        refine r_if_ne dX4_of_27 (tgt := 32) (by decide) (fun h27 => ?_) (fun h27 => ?_)
        · --t
          refine r_iload_n dX4_of_32 3 rfl ?_
          rcases tab_split w 0 4 (by decide) with hsw33 | ⟨j33, hj33, hsw33⟩
          · --default
            refine r_tabOut (tgt := 97) dX4_of_33 (tab_out hsw33 (by decide)) (by decide) ?_
            refine r_bipush dX4_of_97 (v := -2) (by decide +kernel) ?_
            refine r_iret rfl dX4_of_99 ?_
            rw [if_neg (tab_no hsw33 (y := 0) (by decide) (by decide)), if_neg (tab_no hsw33 (y := 1) (by decide) (by decide)), if_neg (tab_no hsw33 (y := 2) (by decide) (by decide)), if_neg (tab_no hsw33 (y := 3) (by decide) (by decide))]; exact ⟨rfl, rfl⟩
          · --in
            match j33, hj33, hsw33 with
            | 0, _, hsw33 =>
              have hv33 : w = 0 := hsw33
              clear hsw33
              subst hv33
              refine r_tabIn (off := 31) (tgt := 64) dX4_of_33 (by decide) (by decide) rfl (by decide) ?_
              refine r_aload dX4_of_64 4 rfl ?_
              refine r_iload_n dX4_of_66 2 rfl ?_
              refine r_callViF (As := [_]) c_X3_howIs (by first | assumption | rfl) l_X4_79 rfl rfl rfl (Nat.le_of_ble_eq_true rfl) dX4_of_67 (t_X3_howIs ha hK hTT hWT) ?_
              refine r_iret rfl dX4_of_70 ?_
              exact ⟨by first | rfl | (rw [(hTT.2.2 K hK).1]; rfl) | (rw [(hTT.2.2 K hK).2]; rfl) | (rw [hTT.1.2.2.2.1]; rfl), rfl⟩
            | 1, _, hsw33 =>
              have hv33 : w = 1 := hsw33
              clear hsw33
              subst hv33
              refine r_tabIn (off := 38) (tgt := 71) dX4_of_33 (by decide) (by decide) rfl (by decide) ?_
              refine r_aload dX4_of_71 4 rfl ?_
              refine r_getR (by first | assumption | rfl) f_X4_82 rfl rfl dX4_of_73 (by first | assumption | rfl) ?_
              refine r_iload_n dX4_of_76 2 rfl ?_
              refine r_iald (j := _) (by first | assumption | rfl) (by first | assumption | rfl) (by first | assumption | decide) dX4_of_77 ?_
              refine r_iret rfl dX4_of_78 ?_
              exact ⟨by first | rfl | (rw [(hTT.2.2 K hK).1]; rfl) | (rw [(hTT.2.2 K hK).2]; rfl) | (rw [hTT.1.2.2.2.1]; rfl), rfl⟩
            | 2, _, hsw33 =>
              have hv33 : w = 2 := hsw33
              clear hsw33
              subst hv33
              refine r_tabIn (off := 46) (tgt := 79) dX4_of_33 (by decide) (by decide) rfl (by decide) ?_
              refine r_aload dX4_of_79 4 rfl ?_
              refine r_getR (by first | assumption | rfl) f_X4_166 rfl rfl dX4_of_81 (by first | assumption | rfl) ?_
              refine r_iload_n dX4_of_84 2 rfl ?_
              refine r_iald (j := _) (by first | assumption | rfl) (by first | assumption | rfl) (by first | assumption | decide) dX4_of_85 ?_
              refine r_iret rfl dX4_of_86 ?_
              exact ⟨by first | rfl | (rw [(hTT.2.2 K hK).1]; rfl) | (rw [(hTT.2.2 K hK).2]; rfl) | (rw [hTT.1.2.2.2.1]; rfl), rfl⟩
            | 3, _, hsw33 =>
              have hv33 : w = 3 := hsw33
              clear hsw33
              subst hv33
              refine r_tabIn (off := 54) (tgt := 87) dX4_of_33 (by decide) (by decide) rfl (by decide) ?_
              refine r_aload dX4_of_87 4 rfl ?_
              refine r_getI (by first | assumption | rfl) f_X4_157 rfl rfl dX4_of_89 ?_
              refine r_iload_n dX4_of_92 2 rfl ?_
              refine r_ishr dX4_of_93 ?_
              refine r_iconst dX4_of_94 (v := 1) rfl ?_
              refine r_iand dX4_of_95 ?_
              refine r_iret rfl dX4_of_96 ?_
              exact ⟨by first | rfl | (rw [(hTT.2.2 K hK).1]; rfl) | (rw [(hTT.2.2 K hK).2]; rfl) | (rw [hTT.1.2.2.2.1]; rfl), rfl⟩
            | (j + 4), hj, _ => exact absurd hj (by omega)
        · --f
          exact absurd h27 (by decide)
      · --f
        exact absurd (bI_yes h) (by rw [h5]; decide)
theorem t_X4_count {n len : Nat} (hW : WN N) (hP : SP S 1 N) (hn : S 19 2 = nI n) (hl : S 185 1 = nI len) : Call G (d + 2) M_X4_count [rv G 0, .int w] S (fun v u => v = some (cntA N len n w) ∧ u = S) := by
  refine call_of (lo := [(0, rv G 0), (1, .int w)]) (by decide +kernel) (Nat.le_of_ble_eq_true rfl) rfl ?_
  obtain ⟨a1, a2, a3, a4, a5⟩ := id hP.1
  have h1 : kd 1 = 2 := rfl
  unfold cntA
  refine r_iload_n dX4_count_0 1 rfl ?_
  rcases tab_split w 0 10 (by decide) with hsw1 | ⟨j1, hj1, hsw1⟩
  · --default
    refine r_tabOut (tgt := 140) dX4_count_1 (tab_out hsw1 (by decide)) (by decide) ?_
    refine r_bipush dX4_count_140 (v := -2) (by decide +kernel) ?_
    refine r_iret rfl dX4_count_142 ?_
    rw [if_neg (tab_no hsw1 (y := 0) (by decide) (by decide)), if_neg (tab_no hsw1 (y := 1) (by decide) (by decide)), if_neg (tab_no hsw1 (y := 2) (by decide) (by decide)), if_neg (tab_no hsw1 (y := 3) (by decide) (by decide)), if_neg (tab_no hsw1 (y := 4) (by decide) (by decide)), if_neg (tab_no hsw1 (y := 5) (by decide) (by decide)), if_neg (tab_no hsw1 (y := 6) (by decide) (by decide)), if_neg (tab_no hsw1 (y := 7) (by decide) (by decide)), if_neg (tab_no hsw1 (y := 8) (by decide) (by decide)), if_neg (tab_no hsw1 (y := 9) (by decide) (by decide))]; exact ⟨rfl, rfl⟩
  · --in
    match j1, hj1, hsw1 with
    | 0, _, hsw1 =>
      have hv1 : w = 0 := hsw1
      clear hsw1
      subst hv1
      refine r_tabIn (off := 55) (tgt := 56) dX4_count_1 (by decide) (by decide) rfl (by decide) ?_
      refine r_aload_n dX4_count_56 0 rfl ?_
      refine r_getR (b := 1) (by first | assumption | rfl) f_X4_10 rfl rfl dX4_count_57 rfl ?_
      refine r_getI (by first | assumption | rfl) f_X4_128 rfl rfl dX4_count_60 ?_
      refine r_iret rfl dX4_count_63 ?_
      exact ⟨by first | rfl | (rw [hn]; rfl) | (rw [hl]; rfl) | exact congrArg some a1 | exact congrArg some a2 | exact congrArg some a3 | exact congrArg some a4 | exact congrArg some a5, rfl⟩
    | 1, _, hsw1 =>
      have hv1 : w = 1 := hsw1
      clear hsw1
      subst hv1
      refine r_tabIn (off := 63) (tgt := 64) dX4_count_1 (by decide) (by decide) rfl (by decide) ?_
      refine r_aload_n dX4_count_64 0 rfl ?_
      refine r_getR (b := 1) (by first | assumption | rfl) f_X4_10 rfl rfl dX4_count_65 rfl ?_
      refine r_getI (by first | assumption | rfl) f_X4_99 rfl rfl dX4_count_68 ?_
      refine r_iret rfl dX4_count_71 ?_
      exact ⟨by first | rfl | (rw [hn]; rfl) | (rw [hl]; rfl) | exact congrArg some a1 | exact congrArg some a2 | exact congrArg some a3 | exact congrArg some a4 | exact congrArg some a5, rfl⟩
    | 2, _, hsw1 =>
      have hv1 : w = 2 := hsw1
      clear hsw1
      subst hv1
      refine r_tabIn (off := 71) (tgt := 72) dX4_count_1 (by decide) (by decide) rfl (by decide) ?_
      refine r_aload_n dX4_count_72 0 rfl ?_
      refine r_getR (b := 1) (by first | assumption | rfl) f_X4_10 rfl rfl dX4_count_73 rfl ?_
      refine r_callViF (As := []) c_X2_hikes (by first | assumption | rfl) l_X4_169 rfl rfl rfl (Nat.le_of_ble_eq_true rfl) dX4_count_76 (t_X2_hikes h1 hW hP) ?_
      refine r_iret rfl dX4_count_79 ?_
      exact ⟨by first | rfl | (rw [hn]; rfl) | (rw [hl]; rfl) | exact congrArg some a1 | exact congrArg some a2 | exact congrArg some a3 | exact congrArg some a4 | exact congrArg some a5, rfl⟩
    | 3, _, hsw1 =>
      have hv1 : w = 3 := hsw1
      clear hsw1
      subst hv1
      refine r_tabIn (off := 79) (tgt := 80) dX4_count_1 (by decide) (by decide) rfl (by decide) ?_
      refine r_aload_n dX4_count_80 0 rfl ?_
      refine r_getR (b := 1) (by first | assumption | rfl) f_X4_10 rfl rfl dX4_count_81 rfl ?_
      refine r_callViF (As := []) c_X2_scoutsOnHikes (by first | assumption | rfl) l_X4_171 rfl rfl rfl (Nat.le_of_ble_eq_true rfl) dX4_count_84 (t_X2_scoutsOnHikes h1 hW hP) ?_
      refine r_iret rfl dX4_count_87 ?_
      exact ⟨by first | rfl | (rw [hn]; rfl) | (rw [hl]; rfl) | exact congrArg some a1 | exact congrArg some a2 | exact congrArg some a3 | exact congrArg some a4 | exact congrArg some a5, rfl⟩
    | 4, _, hsw1 =>
      have hv1 : w = 4 := hsw1
      clear hsw1
      subst hv1
      refine r_tabIn (off := 87) (tgt := 88) dX4_count_1 (by decide) (by decide) rfl (by decide) ?_
      refine r_aload_n dX4_count_88 0 rfl ?_
      refine r_getR (b := 1) (by first | assumption | rfl) f_X4_10 rfl rfl dX4_count_89 rfl ?_
      refine r_callViF (As := []) c_X2_scoutsLost (by first | assumption | rfl) l_X4_174 rfl rfl rfl (Nat.le_of_ble_eq_true rfl) dX4_count_92 (t_X2_scoutsLost h1 hW hP) ?_
      refine r_iret rfl dX4_count_95 ?_
      exact ⟨by first | rfl | (rw [hn]; rfl) | (rw [hl]; rfl) | exact congrArg some a1 | exact congrArg some a2 | exact congrArg some a3 | exact congrArg some a4 | exact congrArg some a5, rfl⟩
    | 5, _, hsw1 =>
      have hv1 : w = 5 := hsw1
      clear hsw1
      subst hv1
      refine r_tabIn (off := 95) (tgt := 96) dX4_count_1 (by decide) (by decide) rfl (by decide) ?_
      refine r_aload_n dX4_count_96 0 rfl ?_
      refine r_getR (b := 1) (by first | assumption | rfl) f_X4_10 rfl rfl dX4_count_97 rfl ?_
      refine r_getI (by first | assumption | rfl) f_X4_115 rfl rfl dX4_count_100 ?_
      refine r_iret rfl dX4_count_103 ?_
      exact ⟨by first | rfl | (rw [hn]; rfl) | (rw [hl]; rfl) | exact congrArg some a1 | exact congrArg some a2 | exact congrArg some a3 | exact congrArg some a4 | exact congrArg some a5, rfl⟩
    | 6, _, hsw1 =>
      have hv1 : w = 6 := hsw1
      clear hsw1
      subst hv1
      refine r_tabIn (off := 103) (tgt := 104) dX4_count_1 (by decide) (by decide) rfl (by decide) ?_
      refine r_aload_n dX4_count_104 0 rfl ?_
      refine r_getR (b := 1) (by first | assumption | rfl) f_X4_10 rfl rfl dX4_count_105 rfl ?_
      refine r_getR (b := 2) (by first | assumption | rfl) f_X4_49 rfl rfl dX4_count_108 rfl ?_
      refine r_iconst dX4_count_111 (v := 0) rfl ?_
      refine r_iald (j := 0) (by first | assumption | rfl) (by first | assumption | rfl) (show 0 < ln 2 by decide) dX4_count_112 ?_
      refine r_iret rfl dX4_count_113 ?_
      exact ⟨by first | rfl | (rw [hn]; rfl) | (rw [hl]; rfl) | exact congrArg some a1 | exact congrArg some a2 | exact congrArg some a3 | exact congrArg some a4 | exact congrArg some a5, rfl⟩
    | 7, _, hsw1 =>
      have hv1 : w = 7 := hsw1
      clear hsw1
      subst hv1
      refine r_tabIn (off := 113) (tgt := 114) dX4_count_1 (by decide) (by decide) rfl (by decide) ?_
      refine r_aload_n dX4_count_114 0 rfl ?_
      refine r_getR (b := 1) (by first | assumption | rfl) f_X4_10 rfl rfl dX4_count_115 rfl ?_
      refine r_getR (b := 2) (by first | assumption | rfl) f_X4_49 rfl rfl dX4_count_118 rfl ?_
      refine r_iconst dX4_count_121 (v := 1) rfl ?_
      refine r_iald (j := 1) (by first | assumption | rfl) (by first | assumption | rfl) (show 1 < ln 2 by decide) dX4_count_122 ?_
      refine r_iret rfl dX4_count_123 ?_
      exact ⟨by first | rfl | (rw [hn]; rfl) | (rw [hl]; rfl) | exact congrArg some a1 | exact congrArg some a2 | exact congrArg some a3 | exact congrArg some a4 | exact congrArg some a5, rfl⟩
    | 8, _, hsw1 =>
      have hv1 : w = 8 := hsw1
      clear hsw1
      subst hv1
      refine r_tabIn (off := 123) (tgt := 124) dX4_count_1 (by decide) (by decide) rfl (by decide) ?_
      refine r_aload_n dX4_count_124 0 rfl ?_
      refine r_getR (b := 185) (by first | assumption | rfl) f_X4_34 rfl rfl dX4_count_125 rfl ?_
      refine r_getI (by first | assumption | rfl) f_X4_177 rfl rfl dX4_count_128 ?_
      refine r_iret rfl dX4_count_131 ?_
      exact ⟨by first | rfl | (rw [hn]; rfl) | (rw [hl]; rfl) | exact congrArg some a1 | exact congrArg some a2 | exact congrArg some a3 | exact congrArg some a4 | exact congrArg some a5, rfl⟩
    | 9, _, hsw1 =>
      have hv1 : w = 9 := hsw1
      clear hsw1
      subst hv1
      refine r_tabIn (off := 131) (tgt := 132) dX4_count_1 (by decide) (by decide) rfl (by decide) ?_
      refine r_aload_n dX4_count_132 0 rfl ?_
      refine r_getR (b := 19) (by first | assumption | rfl) f_X4_19 rfl rfl dX4_count_133 rfl ?_
      refine r_getI (by first | assumption | rfl) f_X4_180 rfl rfl dX4_count_136 ?_
      refine r_iret rfl dX4_count_139 ?_
      exact ⟨by first | rfl | (rw [hn]; rfl) | (rw [hl]; rfl) | exact congrArg some a1 | exact congrArg some a2 | exact congrArg some a3 | exact congrArg some a4 | exact congrArg some a5, rfl⟩
    | (j + 10), hj, _ => exact absurd hj (by omega)
end GATES
