/-! the class's own methods: what is asked -/
theorem knw_eq {T : mT} (k : Int32) : (decide (0 ≤ k ∧ k < T.1 0) || (decide (0 ≤ k ∧ k < 16) && bt (hm T 3) k.toNatClampNeg)) = knwT T k := by
  unfold knwT
  by_cases h : 0 ≤ k ∧ k < 16
  · obtain ⟨j, hj, rfl⟩ := nI_of (Int32.not_lt.mpr h.1)
    have h2 := h.2
    rw [show (16 : Int32) = nI 16 from rfl, nI_ltI hj (by omega)] at h2
    rw [nI_clamp hj, bt_hm T 3 h2]
  · rw [decide_eq_false h]; rfl
theorem knw_in {T : mT} {k : Int32} (hW : WF T) (h : knwT T k = true) : ∃ K, k = nI K ∧ K < 16 ∧ k.toNatClampNeg = K := by
  unfold knwT at h
  rw [Bool.or_eq_true, Bool.and_eq_true] at h
  obtain ⟨s, e1, e2, e3, e4⟩ := hW.sz
  rcases h with h | ⟨h, -⟩
  · obtain ⟨h1, h2⟩ := of_decide_eq_true h
    obtain ⟨j, hj, rfl⟩ := nI_of (Int32.not_lt.mpr h1)
    rw [e2, nI_ltI hj (by omega)] at h2
    exact ⟨j, rfl, by omega, nI_clamp hj⟩
  · obtain ⟨h1, h2⟩ := of_decide_eq_true h
    obtain ⟨j, hj, rfl⟩ := nI_of (Int32.not_lt.mpr h1)
    rw [show (16 : Int32) = nI 16 from rfl, nI_ltI hj (by omega)] at h2
    exact ⟨j, rfl, h2, nI_clamp hj⟩
section GATES
variable {G : mG} {d : Nat} {S : mS} {N : mN} {t k c s w : Int32}
theorem t_X4_ofTroop (hW : WN N) (hP : SP S 1 N) : Call G (d + 3) M_X4_ofTroop [rv G 0, .int t, .int w] S (fun v u => v = some (ofTA N t w) ∧ u = S) := by
  refine call_of (lo := [(0, rv G 0), (1, .int t), (2, .int w)]) (by decide +kernel) (Nat.le_of_ble_eq_true rfl) rfl ?_
  unfold ofTA
  rcases tr_cases hW t with h | ⟨T, h, rfl, hT, hT5, eT⟩
  ·
    refine r_aload_n dX4_ofTroop_0 0 rfl ?_
    refine r_iload_n dX4_ofTroop_1 1 rfl ?_
    refine r_callViF (As := [_]) c_X4_isTroop (by first | assumption | rfl) l_X4_106 rfl rfl rfl (Nat.le_of_ble_eq_true rfl) dX4_ofTroop_2 (t_X4_isTroop hP) ?_
    refine r_if_ne dX4_ofTroop_5 (tgt := 10) (by decide) (fun h5 => ?_) (fun h5 => ?_)
    · --t
      exact absurd (bI_not h) h5
    · --f
      refine r_iconst dX4_ofTroop_8 (v := -1) rfl ?_
      refine r_iret rfl dX4_ofTroop_9 ?_
      rw [h]; exact ⟨rfl, rfl⟩
  · have ha := kd4 hT5
    have hl : T < ln 3 := hT5
    have hTT : TP S (4 + 3 * T) (N.2 T) := hP.2 T hT
    have hWT := hW.2 T hT
    obtain ⟨⟨a1, a2, a3, a4, a5, a6⟩, ⟨b1, b2, b3, b4⟩, -⟩ := id hTT
    rw [h, if_pos rfl, eT]
    refine r_aload_n dX4_ofTroop_0 0 rfl ?_
    refine r_iload_n dX4_ofTroop_1 1 rfl ?_
    refine r_callViF (As := [_]) c_X4_isTroop (by first | assumption | rfl) l_X4_106 rfl rfl rfl (Nat.le_of_ble_eq_true rfl) dX4_ofTroop_2 (t_X4_isTroop hP) ?_
    refine r_if_ne dX4_ofTroop_5 (tgt := 10) (by decide) (fun h5 => ?_) (fun h5 => ?_)
    · --t
      refine r_aload_n dX4_ofTroop_10 0 rfl ?_
      refine r_getR (b := 1) (by first | assumption | rfl) f_X4_10 rfl rfl dX4_ofTroop_11 rfl ?_
      refine r_getR (b := 3) (by first | assumption | rfl) f_X4_75 rfl rfl dX4_ofTroop_14 rfl ?_
      refine r_iload_n dX4_ofTroop_17 1 rfl ?_
      refine r_aald10 (j := _) (by first | assumption | rfl) (by first | assumption | rfl) (by first | assumption | decide) (rf3 _) dX4_ofTroop_18 ?_
      refine r_astore_n (lo2 := [(0, _), (1, _), (2, _), (3, _)]) dX4_ofTroop_19 rfl (Nat.le_of_ble_eq_true rfl) [1, 2, 3, 0] rfl ?_
      refine r_iload_n dX4_ofTroop_20 2 rfl ?_
      rcases tab_split w 0 12 (by decide) with hsw21 | ⟨j21, hj21, hsw21⟩
      · --default
        refine r_tabOut (tgt := 144) dX4_ofTroop_21 (tab_out hsw21 (by decide)) (by decide) ?_
        refine r_bipush dX4_ofTroop_144 (v := -2) (by decide +kernel) ?_
        refine r_iret rfl dX4_ofTroop_146 ?_
        rw [if_neg (tab_no hsw21 (y := 0) (by decide) (by decide)), if_neg (tab_no hsw21 (y := 1) (by decide) (by decide)), if_neg (tab_no hsw21 (y := 2) (by decide) (by decide)), if_neg (tab_no hsw21 (y := 3) (by decide) (by decide)), if_neg (tab_no hsw21 (y := 4) (by decide) (by decide)), if_neg (tab_no hsw21 (y := 5) (by decide) (by decide)), if_neg (tab_no hsw21 (y := 6) (by decide) (by decide)), if_neg (tab_no hsw21 (y := 7) (by decide) (by decide)), if_neg (tab_no hsw21 (y := 8) (by decide) (by decide)), if_neg (tab_no hsw21 (y := 9) (by decide) (by decide)), if_neg (tab_no hsw21 (y := 10) (by decide) (by decide)), if_neg (tab_no hsw21 (y := 11) (by decide) (by decide))]; exact ⟨rfl, rfl⟩
      · --in
        match j21, hj21, hsw21 with
        | 0, _, hsw21 =>
          have hv21 : w = 0 := hsw21
          clear hsw21
          subst hv21
          refine r_tabIn (off := 63) (tgt := 84) dX4_ofTroop_21 (by decide) (by decide) rfl (by decide) ?_
          refine r_aload_n dX4_ofTroop_84 3 rfl ?_
          refine r_getI (by first | assumption | rfl) f_X4_133 rfl rfl dX4_ofTroop_85 ?_
          refine r_iret rfl dX4_ofTroop_88 ?_
          exact ⟨by first | rfl | (rw [a1]; rfl) | (rw [a2]; rfl) | (rw [a3]; rfl) | (rw [a4]; rfl) | (rw [a5]; rfl) | (rw [a6]; rfl) | (rw [b1]; rfl) | (rw [b2]; rfl) | (rw [b3]; rfl) | (rw [b4]; rfl), rfl⟩
        | 1, _, hsw21 =>
          have hv21 : w = 1 := hsw21
          clear hsw21
          subst hv21
          refine r_tabIn (off := 68) (tgt := 89) dX4_ofTroop_21 (by decide) (by decide) rfl (by decide) ?_
          refine r_aload_n dX4_ofTroop_89 3 rfl ?_
          refine r_getI (by first | assumption | rfl) f_X4_136 rfl rfl dX4_ofTroop_90 ?_
          refine r_iret rfl dX4_ofTroop_93 ?_
          exact ⟨by first | rfl | (rw [a1]; rfl) | (rw [a2]; rfl) | (rw [a3]; rfl) | (rw [a4]; rfl) | (rw [a5]; rfl) | (rw [a6]; rfl) | (rw [b1]; rfl) | (rw [b2]; rfl) | (rw [b3]; rfl) | (rw [b4]; rfl), rfl⟩
        | 2, _, hsw21 =>
          have hv21 : w = 2 := hsw21
          clear hsw21
          subst hv21
          refine r_tabIn (off := 73) (tgt := 94) dX4_ofTroop_21 (by decide) (by decide) rfl (by decide) ?_
          refine r_aload_n dX4_ofTroop_94 3 rfl ?_
          refine r_getI (by first | assumption | rfl) f_X4_109 rfl rfl dX4_ofTroop_95 ?_
          refine r_iret rfl dX4_ofTroop_98 ?_
          exact ⟨by first | rfl | (rw [a1]; rfl) | (rw [a2]; rfl) | (rw [a3]; rfl) | (rw [a4]; rfl) | (rw [a5]; rfl) | (rw [a6]; rfl) | (rw [b1]; rfl) | (rw [b2]; rfl) | (rw [b3]; rfl) | (rw [b4]; rfl), rfl⟩
        | 3, _, hsw21 =>
          have hv21 : w = 3 := hsw21
          clear hsw21
          subst hv21
          refine r_tabIn (off := 78) (tgt := 99) dX4_ofTroop_21 (by decide) (by decide) rfl (by decide) ?_
          refine r_aload_n dX4_ofTroop_99 3 rfl ?_
          refine r_callViF (As := []) c_X3_countDown (by first | assumption | rfl) l_X4_124 rfl rfl rfl (Nat.le_of_ble_eq_true rfl) dX4_ofTroop_100 (t_X3_countDown ha hTT hWT) ?_
          refine r_iret rfl dX4_ofTroop_103 ?_
          exact ⟨by first | rfl | (rw [a1]; rfl) | (rw [a2]; rfl) | (rw [a3]; rfl) | (rw [a4]; rfl) | (rw [a5]; rfl) | (rw [a6]; rfl) | (rw [b1]; rfl) | (rw [b2]; rfl) | (rw [b3]; rfl) | (rw [b4]; rfl), rfl⟩
        | 4, _, hsw21 =>
          have hv21 : w = 4 := hsw21
          clear hsw21
          subst hv21
          refine r_tabIn (off := 83) (tgt := 104) dX4_ofTroop_21 (by decide) (by decide) rfl (by decide) ?_
          refine r_aload_n dX4_ofTroop_104 3 rfl ?_
          refine r_getI (by first | assumption | rfl) f_X4_139 rfl rfl dX4_ofTroop_105 ?_
          refine r_iret rfl dX4_ofTroop_108 ?_
          exact ⟨by first | rfl | (rw [a1]; rfl) | (rw [a2]; rfl) | (rw [a3]; rfl) | (rw [a4]; rfl) | (rw [a5]; rfl) | (rw [a6]; rfl) | (rw [b1]; rfl) | (rw [b2]; rfl) | (rw [b3]; rfl) | (rw [b4]; rfl), rfl⟩
        | 5, _, hsw21 =>
          have hv21 : w = 5 := hsw21
          clear hsw21
          subst hv21
          refine r_tabIn (off := 88) (tgt := 109) dX4_ofTroop_21 (by decide) (by decide) rfl (by decide) ?_
          refine r_aload_n dX4_ofTroop_109 3 rfl ?_
          refine r_callViF (As := []) c_X3_atHome (by first | assumption | rfl) l_X4_142 rfl rfl rfl (Nat.le_of_ble_eq_true rfl) dX4_ofTroop_110 (t_X3_atHome ha hTT hWT) ?_
          refine r_iret rfl dX4_ofTroop_113 ?_
          exact ⟨by first | rfl | (rw [a1]; rfl) | (rw [a2]; rfl) | (rw [a3]; rfl) | (rw [a4]; rfl) | (rw [a5]; rfl) | (rw [a6]; rfl) | (rw [b1]; rfl) | (rw [b2]; rfl) | (rw [b3]; rfl) | (rw [b4]; rfl), rfl⟩
        | 6, _, hsw21 =>
          have hv21 : w = 6 := hsw21
          clear hsw21
          subst hv21
          refine r_tabIn (off := 93) (tgt := 114) dX4_ofTroop_21 (by decide) (by decide) rfl (by decide) ?_
          refine r_aload_n dX4_ofTroop_114 3 rfl ?_
          refine r_getI (by first | assumption | rfl) f_X4_145 rfl rfl dX4_ofTroop_115 ?_
          refine r_iret rfl dX4_ofTroop_118 ?_
          exact ⟨by first | rfl | (rw [a1]; rfl) | (rw [a2]; rfl) | (rw [a3]; rfl) | (rw [a4]; rfl) | (rw [a5]; rfl) | (rw [a6]; rfl) | (rw [b1]; rfl) | (rw [b2]; rfl) | (rw [b3]; rfl) | (rw [b4]; rfl), rfl⟩
        | 7, _, hsw21 =>
          have hv21 : w = 7 := hsw21
          clear hsw21
          subst hv21
          refine r_tabIn (off := 98) (tgt := 119) dX4_ofTroop_21 (by decide) (by decide) rfl (by decide) ?_
          refine r_aload_n dX4_ofTroop_119 3 rfl ?_
          refine r_getI (by first | assumption | rfl) f_X4_148 rfl rfl dX4_ofTroop_120 ?_
          refine r_iret rfl dX4_ofTroop_123 ?_
          exact ⟨by first | rfl | (rw [a1]; rfl) | (rw [a2]; rfl) | (rw [a3]; rfl) | (rw [a4]; rfl) | (rw [a5]; rfl) | (rw [a6]; rfl) | (rw [b1]; rfl) | (rw [b2]; rfl) | (rw [b3]; rfl) | (rw [b4]; rfl), rfl⟩
        | 8, _, hsw21 =>
          have hv21 : w = 8 := hsw21
          clear hsw21
          subst hv21
          refine r_tabIn (off := 103) (tgt := 124) dX4_ofTroop_21 (by decide) (by decide) rfl (by decide) ?_
          refine r_aload_n dX4_ofTroop_124 3 rfl ?_
          refine r_getI (by first | assumption | rfl) f_X4_151 rfl rfl dX4_ofTroop_125 ?_
          refine r_iret rfl dX4_ofTroop_128 ?_
          exact ⟨by first | rfl | (rw [a1]; rfl) | (rw [a2]; rfl) | (rw [a3]; rfl) | (rw [a4]; rfl) | (rw [a5]; rfl) | (rw [a6]; rfl) | (rw [b1]; rfl) | (rw [b2]; rfl) | (rw [b3]; rfl) | (rw [b4]; rfl), rfl⟩
        | 9, _, hsw21 =>
          have hv21 : w = 9 := hsw21
          clear hsw21
          subst hv21
          refine r_tabIn (off := 108) (tgt := 129) dX4_ofTroop_21 (by decide) (by decide) rfl (by decide) ?_
          refine r_aload_n dX4_ofTroop_129 3 rfl ?_
          refine r_getI (by first | assumption | rfl) f_X4_154 rfl rfl dX4_ofTroop_130 ?_
          refine r_iret rfl dX4_ofTroop_133 ?_
          exact ⟨by first | rfl | (rw [a1]; rfl) | (rw [a2]; rfl) | (rw [a3]; rfl) | (rw [a4]; rfl) | (rw [a5]; rfl) | (rw [a6]; rfl) | (rw [b1]; rfl) | (rw [b2]; rfl) | (rw [b3]; rfl) | (rw [b4]; rfl), rfl⟩
        | 10, _, hsw21 =>
          have hv21 : w = 10 := hsw21
          clear hsw21
          subst hv21
          refine r_tabIn (off := 113) (tgt := 134) dX4_ofTroop_21 (by decide) (by decide) rfl (by decide) ?_
          refine r_aload_n dX4_ofTroop_134 3 rfl ?_
          refine r_getI (by first | assumption | rfl) f_X4_157 rfl rfl dX4_ofTroop_135 ?_
          refine r_iret rfl dX4_ofTroop_138 ?_
          exact ⟨by first | rfl | (rw [a1]; rfl) | (rw [a2]; rfl) | (rw [a3]; rfl) | (rw [a4]; rfl) | (rw [a5]; rfl) | (rw [a6]; rfl) | (rw [b1]; rfl) | (rw [b2]; rfl) | (rw [b3]; rfl) | (rw [b4]; rfl), rfl⟩
        | 11, _, hsw21 =>
          have hv21 : w = 11 := hsw21
          clear hsw21
          subst hv21
          refine r_tabIn (off := 118) (tgt := 139) dX4_ofTroop_21 (by decide) (by decide) rfl (by decide) ?_
          refine r_aload_n dX4_ofTroop_139 3 rfl ?_
          refine r_getI (by first | assumption | rfl) f_X4_160 rfl rfl dX4_ofTroop_140 ?_
          refine r_iret rfl dX4_ofTroop_143 ?_
          exact ⟨by first | rfl | (rw [a1]; rfl) | (rw [a2]; rfl) | (rw [a3]; rfl) | (rw [a4]; rfl) | (rw [a5]; rfl) | (rw [a6]; rfl) | (rw [b1]; rfl) | (rw [b2]; rfl) | (rw [b3]; rfl) | (rw [b4]; rfl), rfl⟩
        | (j + 12), hj, _ => exact absurd hj (by omega)
    · --f
      exact absurd (bI_yes h) (by rw [h5]; decide)
theorem t_X4_of (hW : WN N) (hP : SP S 1 N) : Call G (d + 3) M_X4_of [rv G 0, .int t, .int k, .int w] S (fun v u => v = some (ofA N t k w) ∧ u = S) := by
  refine call_of (lo := [(0, rv G 0), (1, .int t), (2, .int k), (3, .int w)]) (by decide +kernel) (Nat.le_of_ble_eq_true rfl) rfl ?_
  unfold ofA
  rcases tr_cases hW t with h | ⟨T, h, rfl, hT, hT5, eT⟩
  ·
    refine r_aload_n dX4_of_0 0 rfl ?_
    refine r_iload_n dX4_of_1 1 rfl ?_
    refine r_callViF (As := [_]) c_X4_isTroop (by first | assumption | rfl) l_X4_106 rfl rfl rfl (Nat.le_of_ble_eq_true rfl) dX4_of_2 (t_X4_isTroop hP) ?_
    refine r_if_ne dX4_of_5 (tgt := 10) (by decide) (fun h5 => ?_) (fun h5 => ?_)
    · --t
      exact absurd (bI_not h) h5
    · --f
      refine r_iconst dX4_of_8 (v := -1) rfl ?_
      refine r_iret rfl dX4_of_9 ?_
      rw [h]; exact ⟨rfl, rfl⟩
  · have ha := kd4 hT5
    have hl : T < ln 3 := hT5
    obtain ⟨k1, k2, l1, l2, f1, f2⟩ := kdT ha
    have hTT : TP S (4 + 3 * T) (N.2 T) := hP.2 T hT
    have hWT := hW.2 T hT
    have hkn := @t_X3_knows G (d + 1) S (4 + 3 * T) k ha
    rw [hTT.1.1, hTT.2.1.2.2.1, knw_eq] at hkn
    rw [h, if_pos rfl, eT]
    cases hk : knwT (N.2 T) k
    · rw [hk] at hkn
      refine r_aload_n dX4_of_0 0 rfl ?_
      refine r_iload_n dX4_of_1 1 rfl ?_
      refine r_callViF (As := [_]) c_X4_isTroop (by first | assumption | rfl) l_X4_106 rfl rfl rfl (Nat.le_of_ble_eq_true rfl) dX4_of_2 (t_X4_isTroop hP) ?_
      refine r_if_ne dX4_of_5 (tgt := 10) (by decide) (fun h5 => ?_) (fun h5 => ?_)
      · --t
        refine r_aload_n dX4_of_10 0 rfl ?_
        refine r_getR (b := 1) (by first | assumption | rfl) f_X4_10 rfl rfl dX4_of_11 rfl ?_
        refine r_getR (b := 3) (by first | assumption | rfl) f_X4_75 rfl rfl dX4_of_14 rfl ?_
        refine r_iload_n dX4_of_17 1 rfl ?_
        refine r_aald10 (j := _) (by first | assumption | rfl) (by first | assumption | rfl) (by first | assumption | decide) (rf3 _) dX4_of_18 ?_
        refine r_astore (lo2 := [(0, _), (1, _), (2, _), (3, _), (4, _)]) dX4_of_19 (Nat.le_of_ble_eq_true rfl) [1, 2, 3, 4, 0] rfl ?_
        refine r_aload dX4_of_21 4 rfl ?_
        refine r_iload_n dX4_of_23 2 rfl ?_
        refine r_callViF (As := [_]) c_X3_knows (by first | assumption | rfl) l_X4_163 rfl rfl rfl (Nat.le_of_ble_eq_true rfl) dX4_of_24 hkn ?_
        refine r_if_ne dX4_of_27 (tgt := 32) (by decide) (fun h27 => ?_) (fun h27 => ?_)
        · --t
          exact absurd rfl h27
        · --f
          refine r_iconst dX4_of_30 (v := -1) rfl ?_
          refine r_iret rfl dX4_of_31 ?_
          exact ⟨rfl, rfl⟩
      · --f
        exact absurd (bI_yes h) (by rw [h5]; decide)
    · obtain ⟨K, rfl, hK, eK⟩ := knw_in hWT hk
      rw [hk] at hkn
      rw [if_pos rfl, eK]
      have hl1 : K < ln (4 + 3 * T + 1) := by rw [l1]; exact hK
      have hl2 : K < ln (4 + 3 * T + 2) := by rw [l2]; exact hK
      refine r_aload_n dX4_of_0 0 rfl ?_
      refine r_iload_n dX4_of_1 1 rfl ?_
      refine r_callViF (As := [_]) c_X4_isTroop (by first | assumption | rfl) l_X4_106 rfl rfl rfl (Nat.le_of_ble_eq_true rfl) dX4_of_2 (t_X4_isTroop hP) ?_
      refine r_if_ne dX4_of_5 (tgt := 10) (by decide) (fun h5 => ?_) (fun h5 => ?_)
      · --t
        refine r_aload_n dX4_of_10 0 rfl ?_
        refine r_getR (b := 1) (by first | assumption | rfl) f_X4_10 rfl rfl dX4_of_11 rfl ?_
        refine r_getR (b := 3) (by first | assumption | rfl) f_X4_75 rfl rfl dX4_of_14 rfl ?_
        refine r_iload_n dX4_of_17 1 rfl ?_
        refine r_aald10 (j := _) (by first | assumption | rfl) (by first | assumption | rfl) (by first | assumption | decide) (rf3 _) dX4_of_18 ?_
        refine r_astore (lo2 := [(0, _), (1, _), (2, _), (3, _), (4, _)]) dX4_of_19 (Nat.le_of_ble_eq_true rfl) [1, 2, 3, 4, 0] rfl ?_
        refine r_aload dX4_of_21 4 rfl ?_
        refine r_iload_n dX4_of_23 2 rfl ?_
        refine r_callViF (As := [_]) c_X3_knows (by first | assumption | rfl) l_X4_163 rfl rfl rfl (Nat.le_of_ble_eq_true rfl) dX4_of_24 hkn ?_
        refine r_if_ne dX4_of_27 (tgt := 32) (by decide) (fun h27 => ?_) (fun h27 => ?_)
        · --t
          refine r_iload_n dX4_of_32 3 rfl ?_
          rcases tab_split w 0 4 (by decide) with hsw33 | ⟨j33, hj33, hsw33⟩
          · --default
            refine r_tabOut (tgt := 97) dX4_of_33 (tab_out hsw33 (by decide)) (by decide) ?_
            refine r_bipush dX4_of_97 (v := -2) (by decide +kernel) ?_
            refine r_iret rfl dX4_of_99 ?_
            rw [if_neg (tab_no hsw33 (y := 0) (by decide) (by decide)), if_neg (tab_no hsw33 (y := 1) (by decide) (by decide)), if_neg (tab_no hsw33 (y := 2) (by decide) (by decide)), if_neg (tab_no hsw33 (y := 3) (by decide) (by decide))]; exact ⟨rfl, rfl⟩
          · --in
            match j33, hj33, hsw33 with
            | 0, _, hsw33 =>
              have hv33 : w = 0 := hsw33
              clear hsw33
              subst hv33
              refine r_tabIn (off := 31) (tgt := 64) dX4_of_33 (by decide) (by decide) rfl (by decide) ?_
              refine r_aload dX4_of_64 4 rfl ?_
              refine r_iload_n dX4_of_66 2 rfl ?_
              refine r_callViF (As := [_]) c_X3_howIs (by first | assumption | rfl) l_X4_79 rfl rfl rfl (Nat.le_of_ble_eq_true rfl) dX4_of_67 (t_X3_howIs ha hK hTT hWT) ?_
              refine r_iret rfl dX4_of_70 ?_
              exact ⟨by first | rfl | (rw [(hTT.2.2 K hK).1]; rfl) | (rw [(hTT.2.2 K hK).2]; rfl) | (rw [hTT.1.2.2.2.1]; rfl), rfl⟩
            | 1, _, hsw33 =>
              have hv33 : w = 1 := hsw33
              clear hsw33
              subst hv33
              refine r_tabIn (off := 38) (tgt := 71) dX4_of_33 (by decide) (by decide) rfl (by decide) ?_
              refine r_aload dX4_of_71 4 rfl ?_
              refine r_getR (by first | assumption | rfl) f_X4_82 rfl rfl dX4_of_73 (by first | assumption | rfl) ?_
              refine r_iload_n dX4_of_76 2 rfl ?_
              refine r_iald (j := _) (by first | assumption | rfl) (by first | assumption | rfl) (by first | assumption | decide) dX4_of_77 ?_
              refine r_iret rfl dX4_of_78 ?_
              exact ⟨by first | rfl | (rw [(hTT.2.2 K hK).1]; rfl) | (rw [(hTT.2.2 K hK).2]; rfl) | (rw [hTT.1.2.2.2.1]; rfl), rfl⟩
            | 2, _, hsw33 =>
              have hv33 : w = 2 := hsw33
              clear hsw33
              subst hv33
              refine r_tabIn (off := 46) (tgt := 79) dX4_of_33 (by decide) (by decide) rfl (by decide) ?_
              refine r_aload dX4_of_79 4 rfl ?_
              refine r_getR (by first | assumption | rfl) f_X4_166 rfl rfl dX4_of_81 (by first | assumption | rfl) ?_
              refine r_iload_n dX4_of_84 2 rfl ?_
              refine r_iald (j := _) (by first | assumption | rfl) (by first | assumption | rfl) (by first | assumption | decide) dX4_of_85 ?_
              refine r_iret rfl dX4_of_86 ?_
              exact ⟨by first | rfl | (rw [(hTT.2.2 K hK).1]; rfl) | (rw [(hTT.2.2 K hK).2]; rfl) | (rw [hTT.1.2.2.2.1]; rfl), rfl⟩
            | 3, _, hsw33 =>
              have hv33 : w = 3 := hsw33
              clear hsw33
              subst hv33
              refine r_tabIn (off := 54) (tgt := 87) dX4_of_33 (by decide) (by decide) rfl (by decide) ?_
              refine r_aload dX4_of_87 4 rfl ?_
              refine r_getI (by first | assumption | rfl) f_X4_157 rfl rfl dX4_of_89 ?_
              refine r_iload_n dX4_of_92 2 rfl ?_
              refine r_ishr dX4_of_93 ?_
              refine r_iconst dX4_of_94 (v := 1) rfl ?_
              refine r_iand dX4_of_95 ?_
              refine r_iret rfl dX4_of_96 ?_
              exact ⟨by first | rfl | (rw [(hTT.2.2 K hK).1]; rfl) | (rw [(hTT.2.2 K hK).2]; rfl) | (rw [hTT.1.2.2.2.1]; rfl), rfl⟩
            | (j + 4), hj, _ => exact absurd hj (by omega)
        · --f
          exact absurd h27 (by decide)
      · --f
        exact absurd (bI_yes h) (by rw [h5]; decide)
theorem t_X4_count {n len : Nat} (hW : WN N) (hP : SP S 1 N) (hn : S 19 2 = nI n) (hl : S 185 1 = nI len) : Call G (d + 2) M_X4_count [rv G 0, .int w] S (fun v u => v = some (cntA N len n w) ∧ u = S) := by
  refine call_of (lo := [(0, rv G 0), (1, .int w)]) (by decide +kernel) (Nat.le_of_ble_eq_true rfl) rfl ?_
  obtain ⟨a1, a2, a3, a4, a5⟩ := id hP.1
  have h1 : kd 1 = 2 := rfl
  unfold cntA
  refine r_iload_n dX4_count_0 1 rfl ?_
  rcases tab_split w 0 10 (by decide) with hsw1 | ⟨j1, hj1, hsw1⟩
  · --default
    refine r_tabOut (tgt := 140) dX4_count_1 (tab_out hsw1 (by decide)) (by decide) ?_
    refine r_bipush dX4_count_140 (v := -2) (by decide +kernel) ?_
    refine r_iret rfl dX4_count_142 ?_
    rw [if_neg (tab_no hsw1 (y := 0) (by decide) (by decide)), if_neg (tab_no hsw1 (y := 1) (by decide) (by decide)), if_neg (tab_no hsw1 (y := 2) (by decide) (by decide)), if_neg (tab_no hsw1 (y := 3) (by decide) (by decide)), if_neg (tab_no hsw1 (y := 4) (by decide) (by decide)), if_neg (tab_no hsw1 (y := 5) (by decide) (by decide)), if_neg (tab_no hsw1 (y := 6) (by decide) (by decide)), if_neg (tab_no hsw1 (y := 7) (by decide) (by decide)), if_neg (tab_no hsw1 (y := 8) (by decide) (by decide)), if_neg (tab_no hsw1 (y := 9) (by decide) (by decide))]; exact ⟨rfl, rfl⟩
  · --in
    match j1, hj1, hsw1 with
    | 0, _, hsw1 =>
      have hv1 : w = 0 := hsw1
      clear hsw1
      subst hv1
      refine r_tabIn (off := 55) (tgt := 56) dX4_count_1 (by decide) (by decide) rfl (by decide) ?_
      refine r_aload_n dX4_count_56 0 rfl ?_
      refine r_getR (b := 1) (by first | assumption | rfl) f_X4_10 rfl rfl dX4_count_57 rfl ?_
      refine r_getI (by first | assumption | rfl) f_X4_128 rfl rfl dX4_count_60 ?_
      refine r_iret rfl dX4_count_63 ?_
      exact ⟨by first | rfl | (rw [hn]; rfl) | (rw [hl]; rfl) | exact congrArg some a1 | exact congrArg some a2 | exact congrArg some a3 | exact congrArg some a4 | exact congrArg some a5, rfl⟩
    | 1, _, hsw1 =>
      have hv1 : w = 1 := hsw1
      clear hsw1
      subst hv1
      refine r_tabIn (off := 63) (tgt := 64) dX4_count_1 (by decide) (by decide) rfl (by decide) ?_
      refine r_aload_n dX4_count_64 0 rfl ?_
      refine r_getR (b := 1) (by first | assumption | rfl) f_X4_10 rfl rfl dX4_count_65 rfl ?_
      refine r_getI (by first | assumption | rfl) f_X4_99 rfl rfl dX4_count_68 ?_
      refine r_iret rfl dX4_count_71 ?_
      exact ⟨by first | rfl | (rw [hn]; rfl) | (rw [hl]; rfl) | exact congrArg some a1 | exact congrArg some a2 | exact congrArg some a3 | exact congrArg some a4 | exact congrArg some a5, rfl⟩
    | 2, _, hsw1 =>
      have hv1 : w = 2 := hsw1
      clear hsw1
      subst hv1
      refine r_tabIn (off := 71) (tgt := 72) dX4_count_1 (by decide) (by decide) rfl (by decide) ?_
      refine r_aload_n dX4_count_72 0 rfl ?_
      refine r_getR (b := 1) (by first | assumption | rfl) f_X4_10 rfl rfl dX4_count_73 rfl ?_
      refine r_callViF (As := []) c_X2_hikes (by first | assumption | rfl) l_X4_169 rfl rfl rfl (Nat.le_of_ble_eq_true rfl) dX4_count_76 (t_X2_hikes h1 hW hP) ?_
      refine r_iret rfl dX4_count_79 ?_
      exact ⟨by first | rfl | (rw [hn]; rfl) | (rw [hl]; rfl) | exact congrArg some a1 | exact congrArg some a2 | exact congrArg some a3 | exact congrArg some a4 | exact congrArg some a5, rfl⟩
    | 3, _, hsw1 =>
      have hv1 : w = 3 := hsw1
      clear hsw1
      subst hv1
      refine r_tabIn (off := 79) (tgt := 80) dX4_count_1 (by decide) (by decide) rfl (by decide) ?_
      refine r_aload_n dX4_count_80 0 rfl ?_
      refine r_getR (b := 1) (by first | assumption | rfl) f_X4_10 rfl rfl dX4_count_81 rfl ?_
      refine r_callViF (As := []) c_X2_scoutsOnHikes (by first | assumption | rfl) l_X4_171 rfl rfl rfl (Nat.le_of_ble_eq_true rfl) dX4_count_84 (t_X2_scoutsOnHikes h1 hW hP) ?_
      refine r_iret rfl dX4_count_87 ?_
      exact ⟨by first | rfl | (rw [hn]; rfl) | (rw [hl]; rfl) | exact congrArg some a1 | exact congrArg some a2 | exact congrArg some a3 | exact congrArg some a4 | exact congrArg some a5, rfl⟩
    | 4, _, hsw1 =>
      have hv1 : w = 4 := hsw1
      clear hsw1
      subst hv1
      refine r_tabIn (off := 87) (tgt := 88) dX4_count_1 (by decide) (by decide) rfl (by decide) ?_
      refine r_aload_n dX4_count_88 0 rfl ?_
      refine r_getR (b := 1) (by first | assumption | rfl) f_X4_10 rfl rfl dX4_count_89 rfl ?_
      refine r_callViF (As := []) c_X2_scoutsLost (by first | assumption | rfl) l_X4_174 rfl rfl rfl (Nat.le_of_ble_eq_true rfl) dX4_count_92 (t_X2_scoutsLost h1 hW hP) ?_
      refine r_iret rfl dX4_count_95 ?_
      exact ⟨by first | rfl | (rw [hn]; rfl) | (rw [hl]; rfl) | exact congrArg some a1 | exact congrArg some a2 | exact congrArg some a3 | exact congrArg some a4 | exact congrArg some a5, rfl⟩
    | 5, _, hsw1 =>
      have hv1 : w = 5 := hsw1
      clear hsw1
      subst hv1
      refine r_tabIn (off := 95) (tgt := 96) dX4_count_1 (by decide) (by decide) rfl (by decide) ?_
      refine r_aload_n dX4_count_96 0 rfl ?_
      refine r_getR (b := 1) (by first | assumption | rfl) f_X4_10 rfl rfl dX4_count_97 rfl ?_
      refine r_getI (by first | assumption | rfl) f_X4_115 rfl rfl dX4_count_100 ?_
      refine r_iret rfl dX4_count_103 ?_
      exact ⟨by first | rfl | (rw [hn]; rfl) | (rw [hl]; rfl) | exact congrArg some a1 | exact congrArg some a2 | exact congrArg some a3 | exact congrArg some a4 | exact congrArg some a5, rfl⟩
    | 6, _, hsw1 =>
      have hv1 : w = 6 := hsw1
      clear hsw1
      subst hv1
      refine r_tabIn (off := 103) (tgt := 104) dX4_count_1 (by decide) (by decide) rfl (by decide) ?_
      refine r_aload_n dX4_count_104 0 rfl ?_
      refine r_getR (b := 1) (by first | assumption | rfl) f_X4_10 rfl rfl dX4_count_105 rfl ?_
      refine r_getR (b := 2) (by first | assumption | rfl) f_X4_49 rfl rfl dX4_count_108 rfl ?_
      refine r_iconst dX4_count_111 (v := 0) rfl ?_
      refine r_iald (j := 0) (by first | assumption | rfl) (by first | assumption | rfl) (show 0 < ln 2 by decide) dX4_count_112 ?_
      refine r_iret rfl dX4_count_113 ?_
      exact ⟨by first | rfl | (rw [hn]; rfl) | (rw [hl]; rfl) | exact congrArg some a1 | exact congrArg some a2 | exact congrArg some a3 | exact congrArg some a4 | exact congrArg some a5, rfl⟩
    | 7, _, hsw1 =>
      have hv1 : w = 7 := hsw1
      clear hsw1
      subst hv1
      refine r_tabIn (off := 113) (tgt := 114) dX4_count_1 (by decide) (by decide) rfl (by decide) ?_
      refine r_aload_n dX4_count_114 0 rfl ?_
      refine r_getR (b := 1) (by first | assumption | rfl) f_X4_10 rfl rfl dX4_count_115 rfl ?_
      refine r_getR (b := 2) (by first | assumption | rfl) f_X4_49 rfl rfl dX4_count_118 rfl ?_
      refine r_iconst dX4_count_121 (v := 1) rfl ?_
      refine r_iald (j := 1) (by first | assumption | rfl) (by first | assumption | rfl) (show 1 < ln 2 by decide) dX4_count_122 ?_
      refine r_iret rfl dX4_count_123 ?_
      exact ⟨by first | rfl | (rw [hn]; rfl) | (rw [hl]; rfl) | exact congrArg some a1 | exact congrArg some a2 | exact congrArg some a3 | exact congrArg some a4 | exact congrArg some a5, rfl⟩
    | 8, _, hsw1 =>
      have hv1 : w = 8 := hsw1
      clear hsw1
      subst hv1
      refine r_tabIn (off := 123) (tgt := 124) dX4_count_1 (by decide) (by decide) rfl (by decide) ?_
      refine r_aload_n dX4_count_124 0 rfl ?_
      refine r_getR (b := 185) (by first | assumption | rfl) f_X4_34 rfl rfl dX4_count_125 rfl ?_
      refine r_getI (by first | assumption | rfl) f_X4_177 rfl rfl dX4_count_128 ?_
      refine r_iret rfl dX4_count_131 ?_
      exact ⟨by first | rfl | (rw [hn]; rfl) | (rw [hl]; rfl) | exact congrArg some a1 | exact congrArg some a2 | exact congrArg some a3 | exact congrArg some a4 | exact congrArg some a5, rfl⟩
    | 9, _, hsw1 =>
      have hv1 : w = 9 := hsw1
      clear hsw1
      subst hv1
      refine r_tabIn (off := 131) (tgt := 132) dX4_count_1 (by decide) (by decide) rfl (by decide) ?_
      refine r_aload_n dX4_count_132 0 rfl ?_
      refine r_getR (b := 19) (by first | assumption | rfl) f_X4_19 rfl rfl dX4_count_133 rfl ?_
      refine r_getI (by first | assumption | rfl) f_X4_180 rfl rfl dX4_count_136 ?_
      refine r_iret rfl dX4_count_139 ?_
      exact ⟨by first | rfl | (rw [hn]; rfl) | (rw [hl]; rfl) | exact congrArg some a1 | exact congrArg some a2 | exact congrArg some a3 | exact congrArg some a4 | exact congrArg some a5, rfl⟩
    | (j + 10), hj, _ => exact absurd hj (by omega)
theorem lp_X4_opensIn {S0 : mS} {Q : Option Int32 → mS → Prop} {x : Int32} (hP : SP S0 1 N) : ∀ f m S (T : mT), f + m = 201 → TP S 187 T → WF T → FR 187 S0 S → (∀ u, FR 187 S0 u → Q (some (opIn f m T (N.1 0) (N.1 1))) u) → At G (d + 4) M_X4_opensIn Q 28 [(0, rv G 0), (1, .int x), (2, .int (nI m))] [] S := by
  have h1 : kd 187 = 3 := rfl
  intro f
  induction f with
  | zero =>
    intro m S T hm hT hW hF hQ
    obtain rfl : m = 201 := by omega
    refine r_iload_n dX4_opensIn_28 2 rfl ?_
    refine r_sipush dX4_opensIn_29 (v := 200) (by decide +kernel) ?_
    refine r_icmp_gt dX4_opensIn_32 (tgt := 71) (by decide) (fun h32 => ?_) (fun h32 => ?_)
    · --t
      refine r_bipush dX4_opensIn_71 (v := -6) (by decide +kernel) ?_
      refine r_iret rfl dX4_opensIn_73 ?_
      exact hQ _ hF
    · --f
      exact absurd (show nI 201 ≤ 200 from by first | exact h32 | exact Int32.not_lt.mp h32) (by decide)
  | succ f ih =>
    intro m S T hm hT hW hF hQ
    have hm2 : m ≤ 200 := by omega
    have e0 : S 2 0 = N.1 0 := by rw [hF 2 (by omega) (by omega) (by omega)]; exact hP.1.1
    have e1 : S 2 1 = N.1 1 := by rw [hF 2 (by omega) (by omega) (by omega)]; exact hP.1.2.1
    refine r_iload_n dX4_opensIn_28 2 rfl ?_
    refine r_sipush dX4_opensIn_29 (v := 200) (by decide +kernel) ?_
    refine r_icmp_gt dX4_opensIn_32 (tgt := 71) (by decide) (fun h32 => ?_) (fun h32 => ?_)
    · --t
      exact absurd h32 (Int32.not_lt.mpr (nI_le (b := 200) hm2 (by decide)))
    · --f
      refine r_aload_n dX4_opensIn_35 0 rfl ?_
      refine r_getR (b := 187) (by first | assumption | rfl) f_X4_41 rfl rfl dX4_opensIn_36 rfl ?_
      refine r_aload_n dX4_opensIn_39 0 rfl ?_
      refine r_getR (b := 1) (by first | assumption | rfl) f_X4_10 rfl rfl dX4_opensIn_40 rfl ?_
      refine r_getR (b := 2) (by first | assumption | rfl) f_X4_49 rfl rfl dX4_opensIn_43 rfl ?_
      refine r_iconst dX4_opensIn_46 (v := 0) rfl ?_
      refine r_iald (j := 0) (by first | assumption | rfl) (by first | assumption | rfl) (show 0 < ln 2 by decide) dX4_opensIn_47 ?_
      refine r_aload_n dX4_opensIn_48 0 rfl ?_
      refine r_getR (b := 1) (by first | assumption | rfl) f_X4_10 rfl rfl dX4_opensIn_49 rfl ?_
      refine r_getR (b := 2) (by first | assumption | rfl) f_X4_49 rfl rfl dX4_opensIn_52 rfl ?_
      refine r_iconst dX4_opensIn_55 (v := 1) rfl ?_
      refine r_iald (j := 1) (by first | assumption | rfl) (by first | assumption | rfl) (show 1 < ln 2 by decide) dX4_opensIn_56 ?_
      refine r_callVi (As := [_, _]) c_X3_passMinute (by first | assumption | rfl) l_X4_130 rfl rfl rfl (Nat.le_of_ble_eq_true rfl) dX4_opensIn_57 (t_X3_passMinute h1 hT hW) (fun r57 u57 q57 => ?_)
      obtain ⟨h3, hT3, hF3⟩ := q57
      cases h3
      rw [e0, e1] at hT3 ⊢
      refine r_if_le dX4_opensIn_60 (tgt := 65) (by decide) (fun h60 => ?_) (fun h60 => ?_)
      · --t
        refine r_iinc (lo2 := [(0, _), (1, _), (2, _)]) dX4_opensIn_65 2 rfl (w := 1) rfl (Nat.le_of_ble_eq_true rfl) [1, 2, 0] rfl ?_
        refine r_goto dX4_opensIn_68 (tgt := 28) (by decide) ?_
        rw [nI_1]
        refine ih (m + 1) _ _ (by omega) hT3 (wf_min hW _ _) (hF.tr hF3) (fun u hu => ?_)
        have z := hQ u hu
        unfold opIn at z
        rw [if_neg (by first | exact Int32.not_lt.mpr h60 | exact h60)] at z
        exact z
      · --f
        refine r_iload_n dX4_opensIn_63 2 rfl ?_
        refine r_iret rfl dX4_opensIn_64 ?_
        have z := hQ _ (hF.tr hF3)
        unfold opIn at z
        rw [if_pos (by first | exact Int32.not_le.mp h60 | exact h60)] at z
        exact z
theorem t_X4_opensIn (hW : WN N) (hP : SP S 1 N) : Call G (d + 5) M_X4_opensIn [rv G 0, .int t] S (fun v u => v = some (opIA N t) ∧ FR 187 S u) := by
  refine call_of (lo := [(0, rv G 0), (1, .int t)]) (by decide +kernel) (Nat.le_of_ble_eq_true rfl) rfl ?_
  have h1 : kd 187 = 3 := rfl
  unfold opIA
  rcases tr_cases hW t with h | ⟨T, h, rfl, hT, hT5, eT⟩
  ·
    refine r_aload_n dX4_opensIn_0 0 rfl ?_
    refine r_iload_n dX4_opensIn_1 1 rfl ?_
    refine r_callViF (As := [_]) c_X4_isTroop (by first | assumption | rfl) l_X4_106 rfl rfl rfl (Nat.le_of_ble_eq_true rfl) dX4_opensIn_2 (t_X4_isTroop hP) ?_
    refine r_if_ne dX4_opensIn_5 (tgt := 10) (by decide) (fun h5 => ?_) (fun h5 => ?_)
    · --t
      exact absurd (bI_not h) h5
    · --f
      refine r_iconst dX4_opensIn_8 (v := -1) rfl ?_
      refine r_iret rfl dX4_opensIn_9 ?_
      rw [h]; exact ⟨rfl, FR.rf⟩
  · have ha := kd4 hT5
    have hl : T < ln 3 := hT5
    have hTT : TP S (4 + 3 * T) (N.2 T) := hP.2 T hT
    have hWT := hW.2 T hT
    rw [h, if_pos rfl, eT]
    refine r_aload_n dX4_opensIn_0 0 rfl ?_
    refine r_iload_n dX4_opensIn_1 1 rfl ?_
    refine r_callViF (As := [_]) c_X4_isTroop (by first | assumption | rfl) l_X4_106 rfl rfl rfl (Nat.le_of_ble_eq_true rfl) dX4_opensIn_2 (t_X4_isTroop hP) ?_
    refine r_if_ne dX4_opensIn_5 (tgt := 10) (by decide) (fun h5 => ?_) (fun h5 => ?_)
    · --t
      refine r_aload_n dX4_opensIn_10 0 rfl ?_
      refine r_getR (b := 187) (by first | assumption | rfl) f_X4_41 rfl rfl dX4_opensIn_11 rfl ?_
      refine r_aload_n dX4_opensIn_14 0 rfl ?_
      refine r_getR (b := 1) (by first | assumption | rfl) f_X4_10 rfl rfl dX4_opensIn_15 rfl ?_
      refine r_getR (b := 3) (by first | assumption | rfl) f_X4_75 rfl rfl dX4_opensIn_18 rfl ?_
      refine r_iload_n dX4_opensIn_21 1 rfl ?_
      refine r_aald10 (j := _) (by first | assumption | rfl) (by first | assumption | rfl) (by first | assumption | decide) (rf3 _) dX4_opensIn_22 ?_
      refine r_callVv (As := [_]) c_X3_copyFrom (by first | assumption | rfl) l_X4_186 rfl rfl rfl (Nat.le_of_ble_eq_true rfl) dX4_opensIn_23 (t_X3_copyFrom h1 ha (by omega) hTT) (fun u23 q23 => ?_)
      obtain ⟨-, hT2, hF2⟩ := q23
      refine r_iconst dX4_opensIn_26 (v := 1) rfl ?_
      refine r_istore_n (lo2 := [(0, _), (1, _), (2, _)]) dX4_opensIn_27 rfl (Nat.le_of_ble_eq_true rfl) [1, 2, 0] rfl ?_
      exact lp_X4_opensIn (S0 := S) (d := d + 1) hP 200 1 _ _ (by omega) hT2 hWT hF2 (fun u hu => ⟨rfl, hu⟩)
    · --f
      exact absurd (bI_yes h) (by rw [h5]; decide)
theorem cHs_wf {T : mT} {a : Int32} (hW : WF T) : ∀ i, WF (cHs T a i).2 := by
  intro i
  induction i with
  | zero => exact hW
  | succ i ih =>
    unfold cHs
    split
    · rename_i h
      refine wf_opn a 3 _ (wf_set ih ?_ (by simp))
      unfold cnC at h
      simp only [Bool.and_eq_true, decide_eq_true_eq] at h
      exact h.1.1.1
    · exact ih
theorem cnC_eq {S : mS} {a j : Nat} {T : mT} (hT : TP S a T) (hW : WF T) (hj : j < 16) : (decide (nI j < S a 0) && !(bt (S a 3 ||| S a 4 ||| S a 5) j)) = cnC T j := by
  obtain ⟨s, e1, e2, e3, e4⟩ := hW.sz
  unfold cnC
  rw [hT.1.1, e2, e1, b_or, b_or, hT.2.1.1, hT.2.1.2.1, hT.2.1.2.2.1, bt_hm _ _ hj, bt_hm _ _ hj, bt_hm _ _ hj]
  have : decide (nI j < nI s) = decide (j < s) := by simp only [nI_ltI (show j < 2 ^ 31 by omega) (show s < 2 ^ 31 by omega)]
  rw [this, Bool.not_or, Bool.not_or, Bool.and_assoc, Bool.and_assoc, Bool.and_assoc]
theorem lp_X4_could1 {S0 : mS} {Q : Option Int32 → mS → Prop} {x : Int32} {T : mT} {r : Nat} (hP : SP S0 1 N) (hW : WF T) (hx : ∀ u, TP u 187 (cHs T (N.1 1) (16 * r + 16)).2 → FR 187 S0 u → At G (d + 4) M_X4_couldHike Q 91 [(0, rv G 0), (1, .int x), (2, .int (cHs T (N.1 1) (16 * r + 16)).1), (3, .int (nI r))] [] u) : ∀ n j S, n + j = 16 → TP S 187 (cHs T (N.1 1) (16 * r + j)).2 → FR 187 S0 S → At G (d + 4) M_X4_couldHike Q 38 [(0, rv G 0), (1, .int x), (2, .int (cHs T (N.1 1) (16 * r + j)).1), (3, .int (nI r)), (4, .int (nI j))] [] S := by
  have h1 : kd 187 = 3 := rfl
  intro n
  induction n with
  | zero =>
    intro j S hj hT hF
    obtain rfl : j = 16 := by omega
    refine r_iload dX4_couldHike_38 4 rfl ?_
    refine r_bipush dX4_couldHike_40 (v := 16) (by decide +kernel) ?_
    refine r_icmp_ge dX4_couldHike_42 (tgt := 91) (by decide) (fun h42 => ?_) (fun h42 => ?_)
    · --t
      exact r_sub [0, 1, 2, 3] rfl (hx _ hT hF)
    · --f
      exact absurd (show (16 : Int32) ≤ nI 16 by decide) h42
  | succ n ih =>
    intro j S hj hT hF
    have hj16 : j < 16 := by omega
    have em : (16 * r + j) % 16 = j := by omega
    have hWj := cHs_wf hW (a := N.1 1) (16 * r + j)
    have e1 : S 2 1 = N.1 1 := by rw [hF 2 (by omega) (by omega) (by omega)]; exact hP.1.2.1
    have hcn := @t_X3_canCome G (d + 2) S 187 j h1 hj16
    rw [cnC_eq hT hWj hj16] at hcn
    cases hc : cnC (cHs T (N.1 1) (16 * r + j)).2 j
    · rw [hc] at hcn
      have es : cHs T (N.1 1) (16 * r + (j + 1)) = cHs T (N.1 1) (16 * r + j) := by rw [show 16 * r + (j + 1) = (16 * r + j) + 1 by omega, cHs, em, hc, if_neg (by decide)]
      refine r_iload dX4_couldHike_38 4 rfl ?_
      refine r_bipush dX4_couldHike_40 (v := 16) (by decide +kernel) ?_
      refine r_icmp_ge dX4_couldHike_42 (tgt := 91) (by decide) (fun h42 => ?_) (fun h42 => ?_)
      · --t
        exact absurd h42 (c16 hj16)
      · --f
        refine r_aload_n dX4_couldHike_45 0 rfl ?_
        refine r_getR (b := 187) (by first | assumption | rfl) f_X4_41 rfl rfl dX4_couldHike_46 rfl ?_
        refine r_iload dX4_couldHike_49 4 rfl ?_
        refine r_callViF (As := [_]) c_X3_canCome (by first | assumption | rfl) l_X4_190 rfl rfl rfl (Nat.le_of_ble_eq_true rfl) dX4_couldHike_51 hcn ?_
        refine r_if_eq dX4_couldHike_54 (tgt := 85) (by decide) (fun h54 => ?_) (fun h54 => ?_)
        · --t
          refine r_iinc (lo2 := [(0, _), (1, _), (2, _), (3, _), (4, _)]) dX4_couldHike_85 4 rfl (w := 1) rfl (Nat.le_of_ble_eq_true rfl) [1, 2, 3, 4, 0] rfl ?_
          refine r_goto dX4_couldHike_88 (tgt := 38) (by decide) ?_
          rw [nI_1, ← es]
          exact ih (j + 1) _ (by omega) (by rw [es]; exact hT) hF
        · --f
          exact absurd rfl h54
    · rw [hc] at hcn
      have hjs : j < tsz (cHs T (N.1 1) (16 * r + j)).2 := by
        unfold cnC at hc
        simp only [Bool.and_eq_true, decide_eq_true_eq] at hc
        exact hc.1.1.1
      have es : cHs T (N.1 1) (16 * r + (j + 1)) = ((cHs T (N.1 1) (16 * r + j)).1 + (opnN 3 (setH (cHs T (N.1 1) (16 * r + j)).2 j 1) (N.1 1)).1, (opnN 3 (setH (cHs T (N.1 1) (16 * r + j)).2 j 1) (N.1 1)).2) := by rw [show 16 * r + (j + 1) = (16 * r + j) + 1 by omega, cHs, em, hc, if_pos rfl]
      have htk := fun co aw => @t_X3_takeIn G d S 187 j _ co aw h1 hjs hT hWj
      have ec := hT.1.2.2.1
      refine r_iload dX4_couldHike_38 4 rfl ?_
      refine r_bipush dX4_couldHike_40 (v := 16) (by decide +kernel) ?_
      refine r_icmp_ge dX4_couldHike_42 (tgt := 91) (by decide) (fun h42 => ?_) (fun h42 => ?_)
      · --t
        exact absurd h42 (c16 hj16)
      · --f
        refine r_aload_n dX4_couldHike_45 0 rfl ?_
        refine r_getR (b := 187) (by first | assumption | rfl) f_X4_41 rfl rfl dX4_couldHike_46 rfl ?_
        refine r_iload dX4_couldHike_49 4 rfl ?_
        refine r_callViF (As := [_]) c_X3_canCome (by first | assumption | rfl) l_X4_190 rfl rfl rfl (Nat.le_of_ble_eq_true rfl) dX4_couldHike_51 hcn ?_
        refine r_if_eq dX4_couldHike_54 (tgt := 85) (by decide) (fun h54 => ?_) (fun h54 => ?_)
        · --t
          exact absurd h54 (by decide)
        · --f
          refine r_iload_n dX4_couldHike_57 2 rfl ?_
          refine r_aload_n dX4_couldHike_58 0 rfl ?_
          refine r_getR (b := 187) (by first | assumption | rfl) f_X4_41 rfl rfl dX4_couldHike_59 rfl ?_
          refine r_iload dX4_couldHike_62 4 rfl ?_
          refine r_aload_n dX4_couldHike_64 0 rfl ?_
          refine r_getR (b := 187) (by first | assumption | rfl) f_X4_41 rfl rfl dX4_couldHike_65 rfl ?_
          refine r_getI (by first | assumption | rfl) f_X4_136 rfl rfl dX4_couldHike_68 ?_
          refine r_aload_n dX4_couldHike_71 0 rfl ?_
          refine r_getR (b := 1) (by first | assumption | rfl) f_X4_10 rfl rfl dX4_couldHike_72 rfl ?_
          refine r_getR (b := 2) (by first | assumption | rfl) f_X4_49 rfl rfl dX4_couldHike_75 rfl ?_
          refine r_iconst dX4_couldHike_78 (v := 1) rfl ?_
          refine r_iald (j := 1) (by first | assumption | rfl) (by first | assumption | rfl) (show 1 < ln 2 by decide) dX4_couldHike_79 ?_
          refine r_callVi (As := [_, _, _]) c_X3_takeIn (by first | assumption | rfl) l_X4_118 rfl rfl rfl (Nat.le_of_ble_eq_true rfl) dX4_couldHike_80 (htk _ _) (fun r80 u80 q80 => ?_)
          obtain ⟨h3, hT3, hF3⟩ := q80
          cases h3
          rw [if_pos ec, e1] at hT3 ⊢
          refine r_iadd dX4_couldHike_83 ?_
          refine r_istore_n (lo2 := [(0, _), (1, _), (2, _), (3, _), (4, _)]) dX4_couldHike_84 rfl (Nat.le_of_ble_eq_true rfl) [1, 2, 0, 3, 4] rfl ?_
          refine r_iinc (lo2 := [(0, _), (1, _), (2, _), (3, _), (4, _)]) dX4_couldHike_85 4 rfl (w := 1) rfl (Nat.le_of_ble_eq_true rfl) [1, 2, 3, 4, 0] rfl ?_
          refine r_goto dX4_couldHike_88 (tgt := 38) (by decide) ?_
          have z := ih (j + 1) _ (by omega) (by rw [es]; exact hT3) (hF.tr hF3)
          rw [es] at z
          rw [nI_1]
          exact z
theorem lp_X4_could2 {S0 : mS} {Q : Option Int32 → mS → Prop} {x : Int32} {T : mT} (hP : SP S0 1 N) (hW : WF T) (hx : ∀ u, FR 187 S0 u → Q (some (cHs T (N.1 1) 48).1) u) : ∀ n r S, n + r = 3 → TP S 187 (cHs T (N.1 1) (16 * r)).2 → FR 187 S0 S → At G (d + 4) M_X4_couldHike Q 30 [(0, rv G 0), (1, .int x), (2, .int (cHs T (N.1 1) (16 * r)).1), (3, .int (nI r))] [] S := by
  intro n
  induction n with
  | zero =>
    intro r S hr hT hF
    obtain rfl : r = 3 := by omega
    refine r_iload_n dX4_couldHike_30 3 rfl ?_
    refine r_iconst dX4_couldHike_31 (v := 3) rfl ?_
    refine r_icmp_ge dX4_couldHike_32 (tgt := 97) (by decide) (fun h32 => ?_) (fun h32 => ?_)
    · --t
      refine r_iload_n dX4_couldHike_97 2 rfl ?_
      refine r_iret rfl dX4_couldHike_98 ?_
      exact hx _ hF
    · --f
      exact absurd (show (3 : Int32) ≤ nI 3 by decide) h32
  | succ n ih =>
    intro r S hr hT hF
    have hr3 : r < 3 := by omega
    refine r_iload_n dX4_couldHike_30 3 rfl ?_
    refine r_iconst dX4_couldHike_31 (v := 3) rfl ?_
    refine r_icmp_ge dX4_couldHike_32 (tgt := 97) (by decide) (fun h32 => ?_) (fun h32 => ?_)
    · --t
      exact absurd h32 (nI_ge (b := 3) hr3 (by decide))
    · --f
      refine r_iconst dX4_couldHike_35 (v := 0) rfl ?_
      refine r_istore (lo2 := [(0, _), (1, _), (2, _), (3, _), (4, _)]) dX4_couldHike_36 (Nat.le_of_ble_eq_true rfl) [1, 2, 3, 4, 0] rfl ?_
      refine lp_X4_could1 (r := r) hP hW (fun u hTu hFu => ?_) 16 0 S (by omega) hT hF
      refine r_iinc (lo2 := [(0, _), (1, _), (2, _), (3, _)]) dX4_couldHike_91 3 rfl (w := 1) rfl (Nat.le_of_ble_eq_true rfl) [1, 2, 3, 0] rfl ?_
      refine r_goto dX4_couldHike_94 (tgt := 30) (by decide) ?_
      rw [nI_1]
      exact ih (r + 1) u (by omega) hTu hFu
theorem t_X4_couldHike (hW : WN N) (hP : SP S 1 N) : Call G (d + 5) M_X4_couldHike [rv G 0, .int t] S (fun v u => v = some (couA N t) ∧ FR 187 S u) := by
  refine call_of (lo := [(0, rv G 0), (1, .int t)]) (by decide +kernel) (Nat.le_of_ble_eq_true rfl) rfl ?_
  have h1 : kd 187 = 3 := rfl
  unfold couA
  rcases tr_cases hW t with h | ⟨T, h, rfl, hT, hT5, eT⟩
  ·
    refine r_aload_n dX4_couldHike_0 0 rfl ?_
    refine r_iload_n dX4_couldHike_1 1 rfl ?_
    refine r_callViF (As := [_]) c_X4_isTroop (by first | assumption | rfl) l_X4_106 rfl rfl rfl (Nat.le_of_ble_eq_true rfl) dX4_couldHike_2 (t_X4_isTroop hP) ?_
    refine r_if_ne dX4_couldHike_5 (tgt := 10) (by decide) (fun h5 => ?_) (fun h5 => ?_)
    · --t
      exact absurd (bI_not h) h5
    · --f
      refine r_iconst dX4_couldHike_8 (v := -1) rfl ?_
      refine r_iret rfl dX4_couldHike_9 ?_
      rw [h]; exact ⟨rfl, FR.rf⟩
  · have ha := kd4 hT5
    have hl : T < ln 3 := hT5
    have hTT : TP S (4 + 3 * T) (N.2 T) := hP.2 T hT
    have hWT := hW.2 T hT
    rw [h, if_pos rfl, eT]
    refine r_aload_n dX4_couldHike_0 0 rfl ?_
    refine r_iload_n dX4_couldHike_1 1 rfl ?_
    refine r_callViF (As := [_]) c_X4_isTroop (by first | assumption | rfl) l_X4_106 rfl rfl rfl (Nat.le_of_ble_eq_true rfl) dX4_couldHike_2 (t_X4_isTroop hP) ?_
    refine r_if_ne dX4_couldHike_5 (tgt := 10) (by decide) (fun h5 => ?_) (fun h5 => ?_)
    · --t
      refine r_aload_n dX4_couldHike_10 0 rfl ?_
      refine r_getR (b := 187) (by first | assumption | rfl) f_X4_41 rfl rfl dX4_couldHike_11 rfl ?_
      refine r_aload_n dX4_couldHike_14 0 rfl ?_
      refine r_getR (b := 1) (by first | assumption | rfl) f_X4_10 rfl rfl dX4_couldHike_15 rfl ?_
      refine r_getR (b := 3) (by first | assumption | rfl) f_X4_75 rfl rfl dX4_couldHike_18 rfl ?_
      refine r_iload_n dX4_couldHike_21 1 rfl ?_
      refine r_aald10 (j := _) (by first | assumption | rfl) (by first | assumption | rfl) (by first | assumption | decide) (rf3 _) dX4_couldHike_22 ?_
      refine r_callVv (As := [_]) c_X3_copyFrom (by first | assumption | rfl) l_X4_186 rfl rfl rfl (Nat.le_of_ble_eq_true rfl) dX4_couldHike_23 (t_X3_copyFrom h1 ha (by omega) hTT) (fun u23 q23 => ?_)
      obtain ⟨-, hT2, hF2⟩ := q23
      refine r_iconst dX4_couldHike_26 (v := 0) rfl ?_
      refine r_istore_n (lo2 := [(0, _), (1, _), (2, _)]) dX4_couldHike_27 rfl (Nat.le_of_ble_eq_true rfl) [1, 2, 0] rfl ?_
      refine r_iconst dX4_couldHike_28 (v := 0) rfl ?_
      refine r_istore_n (lo2 := [(0, _), (1, _), (2, _), (3, _)]) dX4_couldHike_29 rfl (Nat.le_of_ble_eq_true rfl) [1, 2, 3, 0] rfl ?_
      exact lp_X4_could2 (S0 := S) (d := d + 1) hP hWT (fun u hu => ⟨rfl, hu⟩) 3 0 _ (by omega) hT2 hF2
    · --f
      exact absurd (bI_yes h) (by rw [h5]; decide)
end GATES
