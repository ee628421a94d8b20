/-! the reference: what is asked -/
theorem opn_nn {a : Int32} : ∀ n (T : mT), n ≤ 3 → ∃ j, j ≤ n ∧ (opnN n T a).1 = nI j := by
  intro n
  induction n with
  | zero => intro T _; exact ⟨0, by omega, rfl⟩
  | succ n ih =>
    intro T hn
    unfold opnN
    split
    · obtain ⟨j, hj, e⟩ := ih (begT T a) (by omega)
      exact ⟨j + 1, by omega, by rw [e, nI_1]⟩
    · exact ⟨0, by omega, rfl⟩
theorem setTr2 {N : mN} {t : Nat} {A B : mT} : setTr (setTr N t A) t B = setTr N t B := by
  unfold setTr
  congr 1
  funext i
  dsimp only
  split <;> rfl
theorem setTr_id {N : mN} {t : Nat} : setTr N t (N.2 t) = N := by
  unfold setTr
  have : (fun i => if i = t then N.2 t else N.2 i) = N.2 := by
    funext i; split
    · rename_i h; rw [h]
    · rfl
  rw [this]
theorem whyT_0 {T : mT} {K : Nat} : whyT T K (T.1 1) = if T.2.1 K = 3 then 1 else if T.2.1 K = 1 then 2 else if T.2.1 K = 2 then 3 else 0 := by
  unfold whyT; rw [if_pos rfl]
/-- one who comes with the colour of the troop -/
theorem com_cn {N : mN} (hW : WN N) {T K : Nat} (hT : T < cnt N) (hK : K < 16) : (cnC (N.2 T) K = true ∧ comO N (nI T) (nI K) ((N.2 T).1 1) = comN N T K 1) ∨ (cnC (N.2 T) K = false ∧ (comO N (nI T) (nI K) ((N.2 T).1 1)).1 ≤ 0 ∧ (comO N (nI T) (nI K) ((N.2 T).1 1)).2 = N) := by
  obtain ⟨hc, hc5⟩ := hW.cn
  have hWT := hW.2 T hT
  obtain ⟨s, e1, e2, e3, e4⟩ := hWT.sz
  have hT2 : (nI T).toNatClampNeg = T := nI_clamp (by omega)
  have hK2 : (nI K).toNatClampNeg = K := nI_clamp (by omega)
  have htr : isTr N (nI T) = true := by
    unfold isTr
    rw [hc, decide_eq_true_iff]
    exact ⟨Int32.not_lt.mp (nI_pos (by omega)), (nI_ltI (by omega) (by omega)).mpr hT⟩
  have hcol : ¬ ((N.2 T).1 1 < 0 ∨ 1 < (N.2 T).1 1) := by rcases hWT.2.1 with z | z <;> rw [z] <;> decide
  have hsc : isSc N (nI T) (nI K) = decide (K < tsz (N.2 T)) := by
    unfold isSc
    rw [htr, hT2, e2, e1, Bool.true_and]
    congr 1
    apply propext
    rw [nI_ltI (by omega) (by omega)]
    exact ⟨fun z => z.2, fun z => ⟨Int32.not_lt.mp (nI_pos (by omega)), z⟩⟩
  have hw : whyA N (nI T) (nI K) ((N.2 T).1 1) = if K < tsz (N.2 T) then (if (N.2 T).2.1 K = 3 then 1 else if (N.2 T).2.1 K = 1 then 2 else if (N.2 T).2.1 K = 2 then 3 else 0) else -1 := by
    unfold whyA
    rw [hsc, hT2, hK2, if_neg hcol, whyT_0]
    by_cases z : K < tsz (N.2 T)
    · rw [if_pos z, decide_eq_true z, if_pos rfl]
    · rw [if_neg z, decide_eq_false z, if_neg (by decide)]
  unfold comO
  rw [hw, hT2, hK2]
  unfold cnC
  by_cases z : K < tsz (N.2 T)
  · rw [if_pos z, decide_eq_true z]
    by_cases z3 : (N.2 T).2.1 K = 3
    · right; rw [z3]; exact ⟨by decide, (show (-5 : Int32) ≤ 0 by decide), rfl⟩
    · rw [if_neg z3]
      by_cases z1 : (N.2 T).2.1 K = 1
      · right; rw [z1]; exact ⟨by decide, (show (-5 : Int32) ≤ 0 by decide), rfl⟩
      · rw [if_neg z1]
        by_cases z2 : (N.2 T).2.1 K = 2
        · right; rw [z2]; exact ⟨by decide, (show (-5 : Int32) ≤ 0 by decide), rfl⟩
        · left
          rw [if_neg z2, if_neg (by decide), if_neg (by decide), if_pos rfl]
          refine ⟨?_, rfl⟩
          simp [z1, z2, z3]
  · right
    rw [if_neg z, decide_eq_false z, if_pos (by decide)]
    exact ⟨rfl, by show (-1 : Int32) ≤ 0; decide, rfl⟩
section MODEL
variable {G : mG} {d : Nat} {S S0 : mS} {Q : Option Int32 → mS → Prop} {N : mN} {n : Nat} {h : Nat → mN} {t k c s v m w : Int32}
theorem t_X5_waitsFor (hW : WN N) (hR : RP (S 191) N) : Call G (d + 3) M_X5_waitsFor [rv G 190, .int t] S (fun v u => v = some (waiA N t) ∧ u = S) := by
  refine call_of (lo := [(0, rv G 190), (1, .int t)]) (by decide +kernel) (Nat.le_of_ble_eq_true rfl) rfl ?_
  unfold waiA
  rcases tr_cases hW t with h | ⟨T, h, rfl, hT, hT5, eT⟩
  · rw [h]
    refine r_aload_n dX5_waitsFor_0 0 rfl ?_
    refine r_iload_n dX5_waitsFor_1 1 rfl ?_
    refine r_callViF (As := [_]) c_X5_isTroop (by first | assumption | rfl) l_X5_39 rfl rfl rfl (Nat.le_of_ble_eq_true rfl) dX5_waitsFor_2 (t_X5_isTroop hW hR) ?_
    refine r_if_eq dX5_waitsFor_5 (tgt := 16) (by decide) (fun h5 => ?_) (fun h5 => ?_)
    · --t
      refine r_iconst dX5_waitsFor_16 (v := -1) rfl ?_
      refine r_iret rfl dX5_waitsFor_17 ?_
      exact ⟨rfl, rfl⟩
    · --f
      exact absurd (bI_not h) h5
  · rw [h, if_pos rfl, eT]
    refine r_aload_n dX5_waitsFor_0 0 rfl ?_
    refine r_iload_n dX5_waitsFor_1 1 rfl ?_
    refine r_callViF (As := [_]) c_X5_isTroop (by first | assumption | rfl) l_X5_39 rfl rfl rfl (Nat.le_of_ble_eq_true rfl) dX5_waitsFor_2 (t_X5_isTroop hW hR) ?_
    refine r_if_eq dX5_waitsFor_5 (tgt := 16) (by decide) (fun h5 => ?_) (fun h5 => ?_)
    · --t
      exact absurd (bI_yes h) (by rw [h5]; decide)
    · --f
      refine r_aload_n dX5_waitsFor_8 0 rfl ?_
      refine r_iload_n dX5_waitsFor_9 1 rfl ?_
      refine r_callViF (As := [_]) c_X5_awaited (by first | assumption | rfl) l_X5_70 rfl rfl rfl (Nat.le_of_ble_eq_true rfl) dX5_waitsFor_10 (t_X5_awaited hT5 (hW.2 T hT) (hR.2 T hT)) ?_
      refine r_goto dX5_waitsFor_13 (tgt := 17) (by decide) ?_
      refine r_iret rfl dX5_waitsFor_17 ?_
      exact ⟨rfl, rfl⟩
theorem t_X5_ofTroop (hW : WN N) (hR : RP (S 191) N) : Call G (d + 3) M_X5_ofTroop [rv G 190, .int t, .int w] S (fun v u => v = some (ofTA N t w) ∧ u = S) := by
  refine call_of (lo := [(0, rv G 190), (1, .int t), (2, .int w)]) (by decide +kernel) (Nat.le_of_ble_eq_true rfl) rfl ?_
  unfold ofTA
  rcases tr_cases hW t with h | ⟨T, h, rfl, hT, hT5, eT⟩
  ·
    refine r_aload_n dX5_ofTroop_0 0 rfl ?_
    refine r_iload_n dX5_ofTroop_1 1 rfl ?_
    refine r_callViF (As := [_]) c_X5_isTroop (by first | assumption | rfl) l_X5_39 rfl rfl rfl (Nat.le_of_ble_eq_true rfl) dX5_ofTroop_2 (t_X5_isTroop hW hR) ?_
    refine r_if_ne dX5_ofTroop_5 (tgt := 10) (by decide) (fun h5 => ?_) (fun h5 => ?_)
    · --t
      exact absurd (bI_not h) h5
    · --f
      refine r_iconst dX5_ofTroop_8 (v := -1) rfl ?_
      refine r_iret rfl dX5_ofTroop_9 ?_
      rw [h]; exact ⟨rfl, rfl⟩
  · have hTT := hR.2 T hT
    have hWT := hW.2 T hT
    have a0 := fun d => @t_X5_its G d S T (N.2 T) 0 0 rfl (by decide) hT5 hTT
    have a1 := fun d => @t_X5_its G d S T (N.2 T) 1 1 rfl (by decide) hT5 hTT
    have a2 := fun d => @t_X5_its G d S T (N.2 T) 2 2 rfl (by decide) hT5 hTT
    have a3 := fun d => @t_X5_its G d S T (N.2 T) 3 3 rfl (by decide) hT5 hTT
    have a4 := fun d => @t_X5_its G d S T (N.2 T) 4 4 rfl (by decide) hT5 hTT
    have a5 := fun d => @t_X5_its G d S T (N.2 T) 5 5 rfl (by decide) hT5 hTT
    rw [h, if_pos rfl, eT]
    by_cases h59 : (5 : Int32) ≤ w ∧ w ≤ 9
    · have hv : w = 5 ∨ w = 6 ∨ w = 7 ∨ w = 8 ∨ w = 9 := by
        obtain ⟨j, hj, rfl⟩ := nI_of (Int32.not_lt.mpr (Int32.le_trans (show (0 : Int32) ≤ 5 by decide) h59.1))
        have b1 := h59.1
        have b2 := h59.2
        rw [show (5 : Int32) = nI 5 from rfl, nI_leI (by omega) hj] at b1
        rw [show (9 : Int32) = nI 9 from rfl, nI_leI hj (by omega)] at b2
        rcases (by omega : j = 5 ∨ j = 6 ∨ j = 7 ∨ j = 8 ∨ j = 9) with rfl | rfl | rfl | rfl | rfl
        · exact Or.inl rfl
        · exact Or.inr (Or.inl rfl)
        · exact Or.inr (Or.inr (Or.inl rfl))
        · exact Or.inr (Or.inr (Or.inr (Or.inl rfl)))
        · exact Or.inr (Or.inr (Or.inr (Or.inr rfl)))
      have hth := fun x => @t_X5_those G d S T (N.2 T) x hT5 hWT hTT
      refine r_aload_n dX5_ofTroop_0 0 rfl ?_
      refine r_iload_n dX5_ofTroop_1 1 rfl ?_
      refine r_callViF (As := [_]) c_X5_isTroop (by first | assumption | rfl) l_X5_39 rfl rfl rfl (Nat.le_of_ble_eq_true rfl) dX5_ofTroop_2 (t_X5_isTroop hW hR) ?_
      refine r_if_ne dX5_ofTroop_5 (tgt := 10) (by decide) (fun h5 => ?_) (fun h5 => ?_)
      · --t
        refine r_iload_n dX5_ofTroop_10 2 rfl ?_
        refine r_i2l dX5_ofTroop_11 ?_
        refine r_iconst dX5_ofTroop_12 (v := 5) rfl ?_
        refine r_bipush dX5_ofTroop_13 (v := 9) (by decide +kernel) ?_
        refine r_callSiF (As := [_, _, _]) c_X5_in l_X5_35 rfl rfl rfl (Nat.le_of_ble_eq_true rfl) dX5_ofTroop_15 in_i ?_
        refine r_if_eq dX5_ofTroop_18 (tgt := 30) (by decide) (fun h18 => ?_) (fun h18 => ?_)
        · --t
          rw [bI_0, decide_eq_false_iff_not] at h18
          exact absurd h59 h18
        · --f
          refine r_aload_n dX5_ofTroop_21 0 rfl ?_
          refine r_iload_n dX5_ofTroop_22 1 rfl ?_
          refine r_iload_n dX5_ofTroop_23 2 rfl ?_
          refine r_iconst dX5_ofTroop_24 (v := 5) rfl ?_
          refine r_isub dX5_ofTroop_25 ?_
          refine r_callViF (As := [_, _]) c_X5_those (by first | assumption | rfl) l_X5_73 rfl rfl rfl (Nat.le_of_ble_eq_true rfl) dX5_ofTroop_26 (t_X5_those hT5 hWT hTT) ?_
          refine r_iret rfl dX5_ofTroop_29 ?_
          clear h59 h18 hth a0 a1 a2 a3 a4 a5
          rcases hv with rfl | rfl | rfl | rfl | rfl
          · refine ⟨?_, rfl⟩; rw [show (5 : Int32) - 5 = 0 by decide, thM_0]; rfl
          · refine ⟨?_, rfl⟩; rw [show (6 : Int32) - 5 = 1 by decide, thM_hm hWT (by decide)]; rfl
          · refine ⟨?_, rfl⟩; rw [show (7 : Int32) - 5 = 2 by decide, thM_hm hWT (by decide)]; rfl
          · refine ⟨?_, rfl⟩; rw [show (8 : Int32) - 5 = 3 by decide, thM_hm hWT (by decide)]; rfl
          · refine ⟨?_, rfl⟩; rw [show (9 : Int32) - 5 = 4 by decide, thM_hm hWT (by decide)]; rfl
      · --f
        exact absurd (bI_yes h) (by rw [h5]; decide)
    ·
      refine r_aload_n dX5_ofTroop_0 0 rfl ?_
      refine r_iload_n dX5_ofTroop_1 1 rfl ?_
      refine r_callViF (As := [_]) c_X5_isTroop (by first | assumption | rfl) l_X5_39 rfl rfl rfl (Nat.le_of_ble_eq_true rfl) dX5_ofTroop_2 (t_X5_isTroop hW hR) ?_
      refine r_if_ne dX5_ofTroop_5 (tgt := 10) (by decide) (fun h5 => ?_) (fun h5 => ?_)
      · --t
        refine r_iload_n dX5_ofTroop_10 2 rfl ?_
        refine r_i2l dX5_ofTroop_11 ?_
        refine r_iconst dX5_ofTroop_12 (v := 5) rfl ?_
        refine r_bipush dX5_ofTroop_13 (v := 9) (by decide +kernel) ?_
        refine r_callSiF (As := [_, _, _]) c_X5_in l_X5_35 rfl rfl rfl (Nat.le_of_ble_eq_true rfl) dX5_ofTroop_15 in_i ?_
        refine r_if_eq dX5_ofTroop_18 (tgt := 30) (by decide) (fun h18 => ?_) (fun h18 => ?_)
        · --t
          refine r_iload_n dX5_ofTroop_30 2 rfl ?_
          rcases tab_split w 0 12 (by decide) with hsw31 | ⟨j31, hj31, hsw31⟩
          · --default
            refine r_tabOut (tgt := 143) dX5_ofTroop_31 (tab_out hsw31 (by decide)) (by decide) ?_
            refine r_bipush dX5_ofTroop_143 (v := -2) (by decide +kernel) ?_
            refine r_iret rfl dX5_ofTroop_145 ?_
            first
            | exact absurd (by decide) h59
            | (rw [if_neg (tab_no hsw31 (y := 0) (by decide) (by decide)), if_neg (tab_no hsw31 (y := 1) (by decide) (by decide)), if_neg (tab_no hsw31 (y := 2) (by decide) (by decide)), if_neg (tab_no hsw31 (y := 3) (by decide) (by decide)), if_neg (tab_no hsw31 (y := 4) (by decide) (by decide)), if_neg (tab_no hsw31 (y := 5) (by decide) (by decide)), if_neg (tab_no hsw31 (y := 6) (by decide) (by decide)), if_neg (tab_no hsw31 (y := 7) (by decide) (by decide)), if_neg (tab_no hsw31 (y := 8) (by decide) (by decide)), if_neg (tab_no hsw31 (y := 9) (by decide) (by decide)), if_neg (tab_no hsw31 (y := 10) (by decide) (by decide)), if_neg (tab_no hsw31 (y := 11) (by decide) (by decide))]; exact ⟨rfl, rfl⟩)
          · --in
            match j31, hj31, hsw31 with
            | 0, _, hsw31 =>
              have hv31 : w = 0 := hsw31
              clear hsw31
              subst hv31
              refine r_tabIn (off := 61) (tgt := 92) dX5_ofTroop_31 (by decide) (by decide) rfl (by decide) ?_
              refine r_aload_n dX5_ofTroop_92 0 rfl ?_
              refine r_iload_n dX5_ofTroop_93 1 rfl ?_
              refine r_iconst dX5_ofTroop_94 (v := 0) rfl ?_
              refine r_callViF (As := [_, _]) c_X5_its (by first | assumption | rfl) l_X5_43 rfl rfl rfl (Nat.le_of_ble_eq_true rfl) dX5_ofTroop_95 (a0 _) ?_
              refine r_iret rfl dX5_ofTroop_98 ?_
              exact ⟨rfl, rfl⟩
            | 1, _, hsw31 =>
              have hv31 : w = 1 := hsw31
              clear hsw31
              subst hv31
              refine r_tabIn (off := 68) (tgt := 99) dX5_ofTroop_31 (by decide) (by decide) rfl (by decide) ?_
              refine r_aload_n dX5_ofTroop_99 0 rfl ?_
              refine r_iload_n dX5_ofTroop_100 1 rfl ?_
              refine r_iconst dX5_ofTroop_101 (v := 1) rfl ?_
              refine r_callViF (As := [_, _]) c_X5_its (by first | assumption | rfl) l_X5_43 rfl rfl rfl (Nat.le_of_ble_eq_true rfl) dX5_ofTroop_102 (a1 _) ?_
              refine r_iret rfl dX5_ofTroop_105 ?_
              exact ⟨rfl, rfl⟩
            | 2, _, hsw31 =>
              have hv31 : w = 2 := hsw31
              clear hsw31
              subst hv31
              refine r_tabIn (off := 75) (tgt := 106) dX5_ofTroop_31 (by decide) (by decide) rfl (by decide) ?_
              refine r_aload_n dX5_ofTroop_106 0 rfl ?_
              refine r_iload_n dX5_ofTroop_107 1 rfl ?_
              refine r_iconst dX5_ofTroop_108 (v := 2) rfl ?_
              refine r_callViF (As := [_, _]) c_X5_its (by first | assumption | rfl) l_X5_43 rfl rfl rfl (Nat.le_of_ble_eq_true rfl) dX5_ofTroop_109 (a2 _) ?_
              refine r_iret rfl dX5_ofTroop_112 ?_
              exact ⟨rfl, rfl⟩
            | 3, _, hsw31 =>
              have hv31 : w = 3 := hsw31
              clear hsw31
              subst hv31
              refine r_tabIn (off := 82) (tgt := 113) dX5_ofTroop_31 (by decide) (by decide) rfl (by decide) ?_
              refine r_aload_n dX5_ofTroop_113 0 rfl ?_
              refine r_iload_n dX5_ofTroop_114 1 rfl ?_
              refine r_callViF (As := [_]) c_X5_awaited (by first | assumption | rfl) l_X5_70 rfl rfl rfl (Nat.le_of_ble_eq_true rfl) dX5_ofTroop_115 (t_X5_awaited hT5 hWT hTT) ?_
              refine r_callSiF (As := [_]) c_X5_size l_X5_96 rfl rfl rfl (Nat.le_of_ble_eq_true rfl) dX5_ofTroop_118 t_X5_size ?_
              refine r_iret rfl dX5_ofTroop_121 ?_
              exact ⟨rfl, rfl⟩
            | 4, _, hsw31 =>
              have hv31 : w = 4 := hsw31
              clear hsw31
              subst hv31
              refine r_tabIn (off := 91) (tgt := 122) dX5_ofTroop_31 (by decide) (by decide) rfl (by decide) ?_
              refine r_aload_n dX5_ofTroop_122 0 rfl ?_
              refine r_iload_n dX5_ofTroop_123 1 rfl ?_
              refine r_iconst dX5_ofTroop_124 (v := 3) rfl ?_
              refine r_callViF (As := [_, _]) c_X5_its (by first | assumption | rfl) l_X5_43 rfl rfl rfl (Nat.le_of_ble_eq_true rfl) dX5_ofTroop_125 (a3 _) ?_
              refine r_iret rfl dX5_ofTroop_128 ?_
              exact ⟨rfl, rfl⟩
            | 5, _, hsw31 =>
              have hv31 : w = 5 := hsw31
              clear hsw31
              subst hv31
              refine r_tabIn (off := 112) (tgt := 143) dX5_ofTroop_31 (by decide) (by decide) rfl (by decide) ?_
              refine r_bipush dX5_ofTroop_143 (v := -2) (by decide +kernel) ?_
              refine r_iret rfl dX5_ofTroop_145 ?_
              first
              | exact absurd (by decide) h59
              | (rw [if_neg (tab_no hsw31 (y := 0) (by decide) (by decide)), if_neg (tab_no hsw31 (y := 1) (by decide) (by decide)), if_neg (tab_no hsw31 (y := 2) (by decide) (by decide)), if_neg (tab_no hsw31 (y := 3) (by decide) (by decide)), if_neg (tab_no hsw31 (y := 4) (by decide) (by decide)), if_neg (tab_no hsw31 (y := 5) (by decide) (by decide)), if_neg (tab_no hsw31 (y := 6) (by decide) (by decide)), if_neg (tab_no hsw31 (y := 7) (by decide) (by decide)), if_neg (tab_no hsw31 (y := 8) (by decide) (by decide)), if_neg (tab_no hsw31 (y := 9) (by decide) (by decide)), if_neg (tab_no hsw31 (y := 10) (by decide) (by decide)), if_neg (tab_no hsw31 (y := 11) (by decide) (by decide))]; exact ⟨rfl, rfl⟩)
            | 6, _, hsw31 =>
              have hv31 : w = 6 := hsw31
              clear hsw31
              subst hv31
              refine r_tabIn (off := 112) (tgt := 143) dX5_ofTroop_31 (by decide) (by decide) rfl (by decide) ?_
              refine r_bipush dX5_ofTroop_143 (v := -2) (by decide +kernel) ?_
              refine r_iret rfl dX5_ofTroop_145 ?_
              first
              | exact absurd (by decide) h59
              | (rw [if_neg (tab_no hsw31 (y := 0) (by decide) (by decide)), if_neg (tab_no hsw31 (y := 1) (by decide) (by decide)), if_neg (tab_no hsw31 (y := 2) (by decide) (by decide)), if_neg (tab_no hsw31 (y := 3) (by decide) (by decide)), if_neg (tab_no hsw31 (y := 4) (by decide) (by decide)), if_neg (tab_no hsw31 (y := 5) (by decide) (by decide)), if_neg (tab_no hsw31 (y := 6) (by decide) (by decide)), if_neg (tab_no hsw31 (y := 7) (by decide) (by decide)), if_neg (tab_no hsw31 (y := 8) (by decide) (by decide)), if_neg (tab_no hsw31 (y := 9) (by decide) (by decide)), if_neg (tab_no hsw31 (y := 10) (by decide) (by decide)), if_neg (tab_no hsw31 (y := 11) (by decide) (by decide))]; exact ⟨rfl, rfl⟩)
            | 7, _, hsw31 =>
              have hv31 : w = 7 := hsw31
              clear hsw31
              subst hv31
              refine r_tabIn (off := 112) (tgt := 143) dX5_ofTroop_31 (by decide) (by decide) rfl (by decide) ?_
              refine r_bipush dX5_ofTroop_143 (v := -2) (by decide +kernel) ?_
              refine r_iret rfl dX5_ofTroop_145 ?_
              first
              | exact absurd (by decide) h59
              | (rw [if_neg (tab_no hsw31 (y := 0) (by decide) (by decide)), if_neg (tab_no hsw31 (y := 1) (by decide) (by decide)), if_neg (tab_no hsw31 (y := 2) (by decide) (by decide)), if_neg (tab_no hsw31 (y := 3) (by decide) (by decide)), if_neg (tab_no hsw31 (y := 4) (by decide) (by decide)), if_neg (tab_no hsw31 (y := 5) (by decide) (by decide)), if_neg (tab_no hsw31 (y := 6) (by decide) (by decide)), if_neg (tab_no hsw31 (y := 7) (by decide) (by decide)), if_neg (tab_no hsw31 (y := 8) (by decide) (by decide)), if_neg (tab_no hsw31 (y := 9) (by decide) (by decide)), if_neg (tab_no hsw31 (y := 10) (by decide) (by decide)), if_neg (tab_no hsw31 (y := 11) (by decide) (by decide))]; exact ⟨rfl, rfl⟩)
            | 8, _, hsw31 =>
              have hv31 : w = 8 := hsw31
              clear hsw31
              subst hv31
              refine r_tabIn (off := 112) (tgt := 143) dX5_ofTroop_31 (by decide) (by decide) rfl (by decide) ?_
              refine r_bipush dX5_ofTroop_143 (v := -2) (by decide +kernel) ?_
              refine r_iret rfl dX5_ofTroop_145 ?_
              first
              | exact absurd (by decide) h59
              | (rw [if_neg (tab_no hsw31 (y := 0) (by decide) (by decide)), if_neg (tab_no hsw31 (y := 1) (by decide) (by decide)), if_neg (tab_no hsw31 (y := 2) (by decide) (by decide)), if_neg (tab_no hsw31 (y := 3) (by decide) (by decide)), if_neg (tab_no hsw31 (y := 4) (by decide) (by decide)), if_neg (tab_no hsw31 (y := 5) (by decide) (by decide)), if_neg (tab_no hsw31 (y := 6) (by decide) (by decide)), if_neg (tab_no hsw31 (y := 7) (by decide) (by decide)), if_neg (tab_no hsw31 (y := 8) (by decide) (by decide)), if_neg (tab_no hsw31 (y := 9) (by decide) (by decide)), if_neg (tab_no hsw31 (y := 10) (by decide) (by decide)), if_neg (tab_no hsw31 (y := 11) (by decide) (by decide))]; exact ⟨rfl, rfl⟩)
            | 9, _, hsw31 =>
              have hv31 : w = 9 := hsw31
              clear hsw31
              subst hv31
              refine r_tabIn (off := 112) (tgt := 143) dX5_ofTroop_31 (by decide) (by decide) rfl (by decide) ?_
              refine r_bipush dX5_ofTroop_143 (v := -2) (by decide +kernel) ?_
              refine r_iret rfl dX5_ofTroop_145 ?_
              first
              | exact absurd (by decide) h59
              | (rw [if_neg (tab_no hsw31 (y := 0) (by decide) (by decide)), if_neg (tab_no hsw31 (y := 1) (by decide) (by decide)), if_neg (tab_no hsw31 (y := 2) (by decide) (by decide)), if_neg (tab_no hsw31 (y := 3) (by decide) (by decide)), if_neg (tab_no hsw31 (y := 4) (by decide) (by decide)), if_neg (tab_no hsw31 (y := 5) (by decide) (by decide)), if_neg (tab_no hsw31 (y := 6) (by decide) (by decide)), if_neg (tab_no hsw31 (y := 7) (by decide) (by decide)), if_neg (tab_no hsw31 (y := 8) (by decide) (by decide)), if_neg (tab_no hsw31 (y := 9) (by decide) (by decide)), if_neg (tab_no hsw31 (y := 10) (by decide) (by decide)), if_neg (tab_no hsw31 (y := 11) (by decide) (by decide))]; exact ⟨rfl, rfl⟩)
            | 10, _, hsw31 =>
              have hv31 : w = 10 := hsw31
              clear hsw31
              subst hv31
              refine r_tabIn (off := 98) (tgt := 129) dX5_ofTroop_31 (by decide) (by decide) rfl (by decide) ?_
              refine r_aload_n dX5_ofTroop_129 0 rfl ?_
              refine r_iload_n dX5_ofTroop_130 1 rfl ?_
              refine r_iconst dX5_ofTroop_131 (v := 5) rfl ?_
              refine r_callViF (As := [_, _]) c_X5_its (by first | assumption | rfl) l_X5_43 rfl rfl rfl (Nat.le_of_ble_eq_true rfl) dX5_ofTroop_132 (a5 _) ?_
              refine r_iret rfl dX5_ofTroop_135 ?_
              exact ⟨rfl, rfl⟩
            | 11, _, hsw31 =>
              have hv31 : w = 11 := hsw31
              clear hsw31
              subst hv31
              refine r_tabIn (off := 105) (tgt := 136) dX5_ofTroop_31 (by decide) (by decide) rfl (by decide) ?_
              refine r_aload_n dX5_ofTroop_136 0 rfl ?_
              refine r_iload_n dX5_ofTroop_137 1 rfl ?_
              refine r_iconst dX5_ofTroop_138 (v := 4) rfl ?_
              refine r_callViF (As := [_, _]) c_X5_its (by first | assumption | rfl) l_X5_43 rfl rfl rfl (Nat.le_of_ble_eq_true rfl) dX5_ofTroop_139 (a4 _) ?_
              refine r_iret rfl dX5_ofTroop_142 ?_
              exact ⟨rfl, rfl⟩
            | (j + 12), hj, _ => exact absurd hj (by omega)
        · --f
          rw [← ne_eq, bI_n0, decide_eq_true_iff] at h18
          exact absurd h18 h59
      · --f
        exact absurd (bI_yes h) (by rw [h5]; decide)
theorem t_X5_of (hW : WN N) (hR : RP (S 191) N) : Call G (d + 3) M_X5_of [rv G 190, .int t, .int k, .int w] S (fun v u => v = some (ofA N t k w) ∧ u = S) := by
  refine call_of (lo := [(0, rv G 190), (1, .int t), (2, .int k), (3, .int w)]) (by decide +kernel) (Nat.le_of_ble_eq_true rfl) rfl ?_
  unfold ofA
  rcases tr_cases hW t with h | ⟨T, h, rfl, hT, hT5, eT⟩
  ·
    refine r_aload_n dX5_of_0 0 rfl ?_
    refine r_iload_n dX5_of_1 1 rfl ?_
    refine r_callViF (As := [_]) c_X5_isTroop (by first | assumption | rfl) l_X5_39 rfl rfl rfl (Nat.le_of_ble_eq_true rfl) dX5_of_2 (t_X5_isTroop hW hR) ?_
    refine r_if_eq dX5_of_5 (tgt := 40) (by decide) (fun h5 => ?_) (fun h5 => ?_)
    · --t
      refine r_iconst dX5_of_40 (v := -1) rfl ?_
      refine r_iret rfl dX5_of_41 ?_
      rw [h]; exact ⟨rfl, rfl⟩
    · --f
      exact absurd (bI_not h) h5
  · have hTT := hR.2 T hT
    have hWT := hW.2 T hT
    obtain ⟨sz, z1, z2, z3, z4⟩ := hWT.sz
    have a0 := fun d => @t_X5_its G d S T (N.2 T) 0 0 rfl (by decide) hT5 hTT
    have a5 := fun d => @t_X5_its G d S T (N.2 T) 5 5 rfl (by decide) hT5 hTT
    rw [h, if_pos rfl, eT]
    by_cases hk : (0 : Int32) ≤ k ∧ k ≤ 15
    · obtain ⟨K, hK, rfl⟩ : ∃ j, j < 16 ∧ k = nI j := by
        obtain ⟨j, hj, rfl⟩ := nI_of (Int32.not_lt.mpr hk.1)
        have b2 := hk.2
        rw [show (15 : Int32) = nI 15 from rfl, nI_leI hj (by omega)] at b2
        exact ⟨j, by omega, rfl⟩
      have eK : (nI K).toNatClampNeg = K := nI_clamp (by omega)
      have s0 := fun d => @t_X5_scout0 G d S T K (N.2 T) hK hT5 hTT
      have s1 := fun d => @t_X5_scout1 G d S T K (N.2 T) hK hT5 hTT
      have s2 := fun d => @t_X5_scout2 G d S T K (N.2 T) hK hT5 hTT
      have kn : knwT (N.2 T) (nI K) = (decide (nI K < (N.2 T).1 0) || ((N.2 T).2.1 K == 3)) := by
        unfold knwT
        have e1 : decide (0 ≤ nI K ∧ nI K < (N.2 T).1 0) = decide (nI K < (N.2 T).1 0) := by congr 1; apply propext; exact ⟨fun z => z.2, fun z => ⟨hk.1, z⟩⟩
        have e2 : decide (0 ≤ nI K ∧ nI K < 16) = true := decide_eq_true ⟨hk.1, (nI_ltI (b := 16) (by omega) (by omega)).mpr hK⟩
        rw [e1, e2, eK, Bool.true_and]
      rw [kn, eK]
      have tail : At G (d + 3) M_X5_of (fun v u => v = some (if w = 0 then (N.2 T).2.1 K else if w = 1 then (N.2 T).2.2.1 K else if w = 2 then (N.2 T).2.2.2 K else if w = 3 then ((N.2 T).1 5 >>> (nI K &&& 31)) &&& 1 else -2) ∧ u = S) 42 [(0, rv G 190), (1, .int (nI T)), (2, .int (nI K)), (3, .int w)] [] S := by
        by_cases hw : (0 : Int32) ≤ w ∧ w ≤ 2
        · obtain ⟨j, hj, rfl⟩ := nI_of (Int32.not_lt.mpr hw.1)
          have b2 := hw.2
          rw [show (2 : Int32) = nI 2 from rfl, nI_leI hj (by omega)] at b2
          rcases (by omega : j = 0 ∨ j = 1 ∨ j = 2) with rfl | rfl | rfl
          ·
            refine r_iload_n dX5_of_42 3 rfl ?_
            refine r_i2l dX5_of_43 ?_
            refine r_iconst dX5_of_44 (v := 0) rfl ?_
            refine r_iconst dX5_of_45 (v := 2) rfl ?_
            refine r_callSiF (As := [_, _, _]) c_X5_in l_X5_35 rfl rfl rfl (Nat.le_of_ble_eq_true rfl) dX5_of_46 in_i ?_
            refine r_if_eq dX5_of_49 (tgt := 62) (by decide) (fun h49 => ?_) (fun h49 => ?_)
            · --t
              rw [bI_0, decide_eq_false_iff_not] at h49
              exact absurd hw h49
            · --f
              refine r_aload_n dX5_of_52 0 rfl ?_
              refine r_iload_n dX5_of_53 1 rfl ?_
              refine r_iload_n dX5_of_54 2 rfl ?_
              refine r_iload_n dX5_of_55 3 rfl ?_
              refine r_callViF (As := [_, _, _]) c_X5_scout (by first | assumption | rfl) l_X5_47 rfl rfl rfl (Nat.le_of_ble_eq_true rfl) dX5_of_56 (s0 _) ?_
              refine r_goto dX5_of_59 (tgt := 82) (by decide) ?_
              refine r_iret rfl dX5_of_82 ?_
              exact ⟨rfl, rfl⟩
          ·
            refine r_iload_n dX5_of_42 3 rfl ?_
            refine r_i2l dX5_of_43 ?_
            refine r_iconst dX5_of_44 (v := 0) rfl ?_
            refine r_iconst dX5_of_45 (v := 2) rfl ?_
            refine r_callSiF (As := [_, _, _]) c_X5_in l_X5_35 rfl rfl rfl (Nat.le_of_ble_eq_true rfl) dX5_of_46 in_i ?_
            refine r_if_eq dX5_of_49 (tgt := 62) (by decide) (fun h49 => ?_) (fun h49 => ?_)
            · --t
              rw [bI_0, decide_eq_false_iff_not] at h49
              exact absurd hw h49
            · --f
              refine r_aload_n dX5_of_52 0 rfl ?_
              refine r_iload_n dX5_of_53 1 rfl ?_
              refine r_iload_n dX5_of_54 2 rfl ?_
              refine r_iload_n dX5_of_55 3 rfl ?_
              refine r_callViF (As := [_, _, _]) c_X5_scout (by first | assumption | rfl) l_X5_47 rfl rfl rfl (Nat.le_of_ble_eq_true rfl) dX5_of_56 (s1 _) ?_
              refine r_goto dX5_of_59 (tgt := 82) (by decide) ?_
              refine r_iret rfl dX5_of_82 ?_
              exact ⟨rfl, rfl⟩
          ·
            refine r_iload_n dX5_of_42 3 rfl ?_
            refine r_i2l dX5_of_43 ?_
            refine r_iconst dX5_of_44 (v := 0) rfl ?_
            refine r_iconst dX5_of_45 (v := 2) rfl ?_
            refine r_callSiF (As := [_, _, _]) c_X5_in l_X5_35 rfl rfl rfl (Nat.le_of_ble_eq_true rfl) dX5_of_46 in_i ?_
            refine r_if_eq dX5_of_49 (tgt := 62) (by decide) (fun h49 => ?_) (fun h49 => ?_)
            · --t
              rw [bI_0, decide_eq_false_iff_not] at h49
              exact absurd hw h49
            · --f
              refine r_aload_n dX5_of_52 0 rfl ?_
              refine r_iload_n dX5_of_53 1 rfl ?_
              refine r_iload_n dX5_of_54 2 rfl ?_
              refine r_iload_n dX5_of_55 3 rfl ?_
              refine r_callViF (As := [_, _, _]) c_X5_scout (by first | assumption | rfl) l_X5_47 rfl rfl rfl (Nat.le_of_ble_eq_true rfl) dX5_of_56 (s2 _) ?_
              refine r_goto dX5_of_59 (tgt := 82) (by decide) ?_
              refine r_iret rfl dX5_of_82 ?_
              exact ⟨rfl, rfl⟩
        · have w0 : ¬ w = 0 := fun z => hw (by rw [z]; decide)
          have w1 : ¬ w = 1 := fun z => hw (by rw [z]; decide)
          have w2 : ¬ w = 2 := fun z => hw (by rw [z]; decide)
          rw [if_neg w0, if_neg w1, if_neg w2]
          refine r_iload_n dX5_of_42 3 rfl ?_
          refine r_i2l dX5_of_43 ?_
          refine r_iconst dX5_of_44 (v := 0) rfl ?_
          refine r_iconst dX5_of_45 (v := 2) rfl ?_
          refine r_callSiF (As := [_, _, _]) c_X5_in l_X5_35 rfl rfl rfl (Nat.le_of_ble_eq_true rfl) dX5_of_46 in_i ?_
          refine r_if_eq dX5_of_49 (tgt := 62) (by decide) (fun h49 => ?_) (fun h49 => ?_)
          · --t
            refine r_iload_n dX5_of_62 3 rfl ?_
            refine r_iconst dX5_of_63 (v := 3) rfl ?_
            refine r_icmp_ne dX5_of_64 (tgt := 80) (by decide) (fun h64 => ?_) (fun h64 => ?_)
            · --t
              refine r_bipush dX5_of_80 (v := -2) (by decide +kernel) ?_
              refine r_iret rfl dX5_of_82 ?_
              first
              | exact ⟨by rw [if_pos h64], rfl⟩
              | exact ⟨by rw [if_neg h64], rfl⟩
            · --f
              refine r_aload_n dX5_of_67 0 rfl ?_
              refine r_iload_n dX5_of_68 1 rfl ?_
              refine r_iconst dX5_of_69 (v := 5) rfl ?_
              refine r_callViF (As := [_, _]) c_X5_its (by first | assumption | rfl) l_X5_43 rfl rfl rfl (Nat.le_of_ble_eq_true rfl) dX5_of_70 (a5 _) ?_
              refine r_iload_n dX5_of_73 2 rfl ?_
              refine r_ishr dX5_of_74 ?_
              refine r_iconst dX5_of_75 (v := 1) rfl ?_
              refine r_iand dX5_of_76 ?_
              refine r_goto dX5_of_77 (tgt := 82) (by decide) ?_
              refine r_iret rfl dX5_of_82 ?_
              first
              | exact ⟨by rw [if_pos h64], rfl⟩
              | exact ⟨by rw [if_neg h64], rfl⟩
          · --f
            rw [← ne_eq, bI_n0, decide_eq_true_iff] at h49
            exact absurd h49 hw
      refine r_aload_n dX5_of_0 0 rfl ?_
      refine r_iload_n dX5_of_1 1 rfl ?_
      refine r_callViF (As := [_]) c_X5_isTroop (by first | assumption | rfl) l_X5_39 rfl rfl rfl (Nat.le_of_ble_eq_true rfl) dX5_of_2 (t_X5_isTroop hW hR) ?_
      refine r_if_eq dX5_of_5 (tgt := 40) (by decide) (fun h5 => ?_) (fun h5 => ?_)
      · --t
        exact absurd (bI_yes h) (by rw [h5]; decide)
      · --f
        refine r_iload_n dX5_of_8 2 rfl ?_
        refine r_i2l dX5_of_9 ?_
        refine r_iconst dX5_of_10 (v := 0) rfl ?_
        refine r_bipush dX5_of_11 (v := 15) (by decide +kernel) ?_
        refine r_callSiF (As := [_, _, _]) c_X5_in l_X5_35 rfl rfl rfl (Nat.le_of_ble_eq_true rfl) dX5_of_13 in_i ?_
        refine r_if_eq dX5_of_16 (tgt := 40) (by decide) (fun h16 => ?_) (fun h16 => ?_)
        · --t
          rw [bI_0, decide_eq_false_iff_not] at h16
          exact absurd hk h16
        · --f
          refine r_iload_n dX5_of_19 2 rfl ?_
          refine r_aload_n dX5_of_20 0 rfl ?_
          refine r_iload_n dX5_of_21 1 rfl ?_
          refine r_iconst dX5_of_22 (v := 0) rfl ?_
          refine r_callViF (As := [_, _]) c_X5_its (by first | assumption | rfl) l_X5_43 rfl rfl rfl (Nat.le_of_ble_eq_true rfl) dX5_of_23 (a0 _) ?_
          refine r_icmp_lt dX5_of_26 (tgt := 42) (by decide) (fun h26 => ?_) (fun h26 => ?_)
          · --t
            have e9 : (decide (nI K < (N.2 T).1 0) || ((N.2 T).2.1 K == 3)) = true := by first | (rw [decide_eq_true h26]; rfl) | (rw [h37, Bool.or_eq_true]; right; rfl)
            rw [e9, if_pos rfl]
            exact tail
          · --f
            refine r_aload_n dX5_of_29 0 rfl ?_
            refine r_iload_n dX5_of_30 1 rfl ?_
            refine r_iload_n dX5_of_31 2 rfl ?_
            refine r_iconst dX5_of_32 (v := 0) rfl ?_
            refine r_callViF (As := [_, _, _]) c_X5_scout (by first | assumption | rfl) l_X5_47 rfl rfl rfl (Nat.le_of_ble_eq_true rfl) dX5_of_33 (s0 _) ?_
            refine r_iconst dX5_of_36 (v := 3) rfl ?_
            refine r_icmp_eq dX5_of_37 (tgt := 42) (by decide) (fun h37 => ?_) (fun h37 => ?_)
            · --t
              have e9 : (decide (nI K < (N.2 T).1 0) || ((N.2 T).2.1 K == 3)) = true := by first | (rw [decide_eq_true h26]; rfl) | (rw [h37, Bool.or_eq_true]; right; rfl)
              rw [e9, if_pos rfl]
              exact tail
            · --f
              refine r_iconst dX5_of_40 (v := -1) rfl ?_
              refine r_iret rfl dX5_of_41 ?_
              have e9 : (decide (nI K < (N.2 T).1 0) || ((N.2 T).2.1 K == 3)) = false := by rw [Bool.or_eq_false_iff]; exact ⟨decide_eq_false (by first | exact h26 | exact Int32.not_lt.mpr h26), by rw [beq_eq_false_iff_ne]; exact h37⟩
              rw [e9, if_neg (by decide)]
              exact ⟨rfl, rfl⟩
    · have kn : knwT (N.2 T) k = false := by
        cases z : knwT (N.2 T) k
        · rfl
        · obtain ⟨K, rfl, hK, -⟩ := knw_in hWT z
          exact absurd ⟨Int32.not_lt.mp (nI_pos (by omega)), nI_le (b := 15) (by omega) (by decide)⟩ hk
      rw [kn, if_neg (show ¬ false = true by decide)]
      refine r_aload_n dX5_of_0 0 rfl ?_
      refine r_iload_n dX5_of_1 1 rfl ?_
      refine r_callViF (As := [_]) c_X5_isTroop (by first | assumption | rfl) l_X5_39 rfl rfl rfl (Nat.le_of_ble_eq_true rfl) dX5_of_2 (t_X5_isTroop hW hR) ?_
      refine r_if_eq dX5_of_5 (tgt := 40) (by decide) (fun h5 => ?_) (fun h5 => ?_)
      · --t
        exact absurd (bI_yes h) (by rw [h5]; decide)
      · --f
        refine r_iload_n dX5_of_8 2 rfl ?_
        refine r_i2l dX5_of_9 ?_
        refine r_iconst dX5_of_10 (v := 0) rfl ?_
        refine r_bipush dX5_of_11 (v := 15) (by decide +kernel) ?_
        refine r_callSiF (As := [_, _, _]) c_X5_in l_X5_35 rfl rfl rfl (Nat.le_of_ble_eq_true rfl) dX5_of_13 in_i ?_
        refine r_if_eq dX5_of_16 (tgt := 40) (by decide) (fun h16 => ?_) (fun h16 => ?_)
        · --t
          refine r_iconst dX5_of_40 (v := -1) rfl ?_
          refine r_iret rfl dX5_of_41 ?_
          exact ⟨rfl, rfl⟩
        · --f
          rw [← ne_eq, bI_n0, decide_eq_true_iff] at h16
          exact absurd h16 hk
theorem t_X5_count {len : Nat} (hW : WN N) (hR : RP (S 191) N) (hn : S 190 6 = nI n) (hl : S 190 8 = nI len) : Call G (d + 3) M_X5_count [rv G 190, .int w] S (fun v u => v = some (cntA N len n w) ∧ u = S) := by
  refine call_of (lo := [(0, rv G 190), (1, .int w)]) (by decide +kernel) (Nat.le_of_ble_eq_true rfl) rfl ?_
  have a0 : S 191 0 = N.1 0 := hR.1 0 (by decide)
  have a1 : S 191 1 = N.1 1 := hR.1 1 (by decide)
  have a2 : S 191 2 = N.1 2 := hR.1 2 (by decide)
  have a3 : S 191 3 = N.1 3 := hR.1 3 (by decide)
  have a4 : S 191 4 = N.1 4 := hR.1 4 (by decide)
  have s2 := @t_X5_sum G d S N 2 _ hW hR (Or.inl ⟨rfl, rfl⟩)
  have s3 := @t_X5_sum G d S N 3 _ hW hR (Or.inr (Or.inl ⟨rfl, rfl⟩))
  have s4 := @t_X5_sum G d S N 4 _ hW hR (Or.inr (Or.inr ⟨rfl, rfl⟩))
  unfold cntA
  refine r_iload_n dX5_count_0 1 rfl ?_
  rcases tab_split w 0 10 (by decide) with hsw1 | ⟨j1, hj1, hsw1⟩
  · --default
    refine r_tabOut (tgt := 103) dX5_count_1 (tab_out hsw1 (by decide)) (by decide) ?_
    refine r_bipush dX5_count_103 (v := -2) (by decide +kernel) ?_
    refine r_iret rfl dX5_count_105 ?_
    rw [if_neg (tab_no hsw1 (y := 0) (by decide) (by decide)), if_neg (tab_no hsw1 (y := 1) (by decide) (by decide)), if_neg (tab_no hsw1 (y := 2) (by decide) (by decide)), if_neg (tab_no hsw1 (y := 3) (by decide) (by decide)), if_neg (tab_no hsw1 (y := 4) (by decide) (by decide)), if_neg (tab_no hsw1 (y := 5) (by decide) (by decide)), if_neg (tab_no hsw1 (y := 6) (by decide) (by decide)), if_neg (tab_no hsw1 (y := 7) (by decide) (by decide)), if_neg (tab_no hsw1 (y := 8) (by decide) (by decide)), if_neg (tab_no hsw1 (y := 9) (by decide) (by decide))]; exact ⟨rfl, rfl⟩
  · --in
    match j1, hj1, hsw1 with
    | 0, _, hsw1 =>
      have hv1 : w = 0 := hsw1
      clear hsw1
      subst hv1
      refine r_tabIn (off := 55) (tgt := 56) dX5_count_1 (by decide) (by decide) rfl (by decide) ?_
      refine r_aload_n dX5_count_56 0 rfl ?_
      refine r_getR (b := 191) (by first | assumption | rfl) f_X5_7 rfl rfl dX5_count_57 rfl ?_
      refine r_iconst dX5_count_60 (v := 2) rfl ?_
      refine r_iald (j := 2) (by first | assumption | rfl) (by first | assumption | rfl) (show 2 < ln 191 by decide) dX5_count_61 ?_
      refine r_iret rfl dX5_count_62 ?_
      exact ⟨by first | rfl | (rw [hn]; rfl) | (rw [hl]; rfl) | exact congrArg some a0 | exact congrArg some a1 | exact congrArg some a2 | exact congrArg some a3 | exact congrArg some a4, rfl⟩
    | 1, _, hsw1 =>
      have hv1 : w = 1 := hsw1
      clear hsw1
      subst hv1
      refine r_tabIn (off := 62) (tgt := 63) dX5_count_1 (by decide) (by decide) rfl (by decide) ?_
      refine r_aload_n dX5_count_63 0 rfl ?_
      refine r_getR (b := 191) (by first | assumption | rfl) f_X5_7 rfl rfl dX5_count_64 rfl ?_
      refine r_iconst dX5_count_67 (v := 3) rfl ?_
      refine r_iald (j := 3) (by first | assumption | rfl) (by first | assumption | rfl) (show 3 < ln 191 by decide) dX5_count_68 ?_
      refine r_iret rfl dX5_count_69 ?_
      exact ⟨by first | rfl | (rw [hn]; rfl) | (rw [hl]; rfl) | exact congrArg some a0 | exact congrArg some a1 | exact congrArg some a2 | exact congrArg some a3 | exact congrArg some a4, rfl⟩
    | 2, _, hsw1 =>
      have hv1 : w = 2 := hsw1
      clear hsw1
      subst hv1
      refine r_tabIn (off := 69) (tgt := 70) dX5_count_1 (by decide) (by decide) rfl (by decide) ?_
      refine r_aload_n dX5_count_70 0 rfl ?_
      refine r_iload_n dX5_count_71 1 rfl ?_
      refine r_callViF (As := [_]) c_X5_sum (by first | assumption | rfl) l_X5_117 rfl rfl rfl (Nat.le_of_ble_eq_true rfl) dX5_count_72 (by first | exact s2 | exact s3 | exact s4) ?_
      refine r_iret rfl dX5_count_75 ?_
      exact ⟨by first | rfl | (rw [hn]; rfl) | (rw [hl]; rfl) | exact congrArg some a0 | exact congrArg some a1 | exact congrArg some a2 | exact congrArg some a3 | exact congrArg some a4, rfl⟩
    | 3, _, hsw1 =>
      have hv1 : w = 3 := hsw1
      clear hsw1
      subst hv1
      refine r_tabIn (off := 69) (tgt := 70) dX5_count_1 (by decide) (by decide) rfl (by decide) ?_
      refine r_aload_n dX5_count_70 0 rfl ?_
      refine r_iload_n dX5_count_71 1 rfl ?_
      refine r_callViF (As := [_]) c_X5_sum (by first | assumption | rfl) l_X5_117 rfl rfl rfl (Nat.le_of_ble_eq_true rfl) dX5_count_72 (by first | exact s2 | exact s3 | exact s4) ?_
      refine r_iret rfl dX5_count_75 ?_
      exact ⟨by first | rfl | (rw [hn]; rfl) | (rw [hl]; rfl) | exact congrArg some a0 | exact congrArg some a1 | exact congrArg some a2 | exact congrArg some a3 | exact congrArg some a4, rfl⟩
    | 4, _, hsw1 =>
      have hv1 : w = 4 := hsw1
      clear hsw1
      subst hv1
      refine r_tabIn (off := 69) (tgt := 70) dX5_count_1 (by decide) (by decide) rfl (by decide) ?_
      refine r_aload_n dX5_count_70 0 rfl ?_
      refine r_iload_n dX5_count_71 1 rfl ?_
      refine r_callViF (As := [_]) c_X5_sum (by first | assumption | rfl) l_X5_117 rfl rfl rfl (Nat.le_of_ble_eq_true rfl) dX5_count_72 (by first | exact s2 | exact s3 | exact s4) ?_
      refine r_iret rfl dX5_count_75 ?_
      exact ⟨by first | rfl | (rw [hn]; rfl) | (rw [hl]; rfl) | exact congrArg some a0 | exact congrArg some a1 | exact congrArg some a2 | exact congrArg some a3 | exact congrArg some a4, rfl⟩
    | 5, _, hsw1 =>
      have hv1 : w = 5 := hsw1
      clear hsw1
      subst hv1
      refine r_tabIn (off := 75) (tgt := 76) dX5_count_1 (by decide) (by decide) rfl (by decide) ?_
      refine r_aload_n dX5_count_76 0 rfl ?_
      refine r_getR (b := 191) (by first | assumption | rfl) f_X5_7 rfl rfl dX5_count_77 rfl ?_
      refine r_iconst dX5_count_80 (v := 4) rfl ?_
      refine r_iald (j := 4) (by first | assumption | rfl) (by first | assumption | rfl) (show 4 < ln 191 by decide) dX5_count_81 ?_
      refine r_iret rfl dX5_count_82 ?_
      exact ⟨by first | rfl | (rw [hn]; rfl) | (rw [hl]; rfl) | exact congrArg some a0 | exact congrArg some a1 | exact congrArg some a2 | exact congrArg some a3 | exact congrArg some a4, rfl⟩
    | 6, _, hsw1 =>
      have hv1 : w = 6 := hsw1
      clear hsw1
      subst hv1
      refine r_tabIn (off := 82) (tgt := 83) dX5_count_1 (by decide) (by decide) rfl (by decide) ?_
      refine r_aload_n dX5_count_83 0 rfl ?_
      refine r_getR (b := 191) (by first | assumption | rfl) f_X5_7 rfl rfl dX5_count_84 rfl ?_
      refine r_iload_n dX5_count_87 1 rfl ?_
      refine r_bipush dX5_count_88 (v := 6) (by decide +kernel) ?_
      refine r_isub dX5_count_90 ?_
      refine r_iald (j := _) (by first | assumption | rfl) (by first | exact (show (6 : Int32) - 6 = nI 0 by decide) | exact (show (7 : Int32) - 6 = nI 1 by decide)) (by first | exact (show 0 < ln 191 by decide) | exact (show 1 < ln 191 by decide)) dX5_count_91 ?_
      refine r_iret rfl dX5_count_92 ?_
      exact ⟨by first | rfl | (rw [hn]; rfl) | (rw [hl]; rfl) | exact congrArg some a0 | exact congrArg some a1 | exact congrArg some a2 | exact congrArg some a3 | exact congrArg some a4, rfl⟩
    | 7, _, hsw1 =>
      have hv1 : w = 7 := hsw1
      clear hsw1
      subst hv1
      refine r_tabIn (off := 82) (tgt := 83) dX5_count_1 (by decide) (by decide) rfl (by decide) ?_
      refine r_aload_n dX5_count_83 0 rfl ?_
      refine r_getR (b := 191) (by first | assumption | rfl) f_X5_7 rfl rfl dX5_count_84 rfl ?_
      refine r_iload_n dX5_count_87 1 rfl ?_
      refine r_bipush dX5_count_88 (v := 6) (by decide +kernel) ?_
      refine r_isub dX5_count_90 ?_
      refine r_iald (j := _) (by first | assumption | rfl) (by first | exact (show (6 : Int32) - 6 = nI 0 by decide) | exact (show (7 : Int32) - 6 = nI 1 by decide)) (by first | exact (show 0 < ln 191 by decide) | exact (show 1 < ln 191 by decide)) dX5_count_91 ?_
      refine r_iret rfl dX5_count_92 ?_
      exact ⟨by first | rfl | (rw [hn]; rfl) | (rw [hl]; rfl) | exact congrArg some a0 | exact congrArg some a1 | exact congrArg some a2 | exact congrArg some a3 | exact congrArg some a4, rfl⟩
    | 8, _, hsw1 =>
      have hv1 : w = 8 := hsw1
      clear hsw1
      subst hv1
      refine r_tabIn (off := 92) (tgt := 93) dX5_count_1 (by decide) (by decide) rfl (by decide) ?_
      refine r_aload_n dX5_count_93 0 rfl ?_
      refine r_getI (by first | assumption | rfl) f_X5_120 rfl rfl dX5_count_94 ?_
      refine r_iret rfl dX5_count_97 ?_
      exact ⟨by first | rfl | (rw [hn]; rfl) | (rw [hl]; rfl) | exact congrArg some a0 | exact congrArg some a1 | exact congrArg some a2 | exact congrArg some a3 | exact congrArg some a4, rfl⟩
    | 9, _, hsw1 =>
      have hv1 : w = 9 := hsw1
      clear hsw1
      subst hv1
      refine r_tabIn (off := 97) (tgt := 98) dX5_count_1 (by decide) (by decide) rfl (by decide) ?_
      refine r_aload_n dX5_count_98 0 rfl ?_
      refine r_getI (by first | assumption | rfl) f_X5_55 rfl rfl dX5_count_99 ?_
      refine r_iret rfl dX5_count_102 ?_
      exact ⟨by first | rfl | (rw [hn]; rfl) | (rw [hl]; rfl) | exact congrArg some a0 | exact congrArg some a1 | exact congrArg some a2 | exact congrArg some a3 | exact congrArg some a4, rfl⟩
    | (j + 10), hj, _ => exact absurd hj (by omega)
end MODEL
