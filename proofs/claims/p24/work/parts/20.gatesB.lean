/-! the class's own methods: coming, losing, minutes, and what is asked -/
theorem why_in {N : mN} (hW : WN N) {t k c : Int32} (h : whyA N t k c = 0 ∨ whyA N t k c = 4) : ∃ T K, t = nI T ∧ T < cnt N ∧ T < 5 ∧ t.toNatClampNeg = T ∧ k = nI K ∧ K < tsz (N.2 T) ∧ K < 16 ∧ k.toNatClampNeg = K ∧ (whyA N t k c = 0 ↔ c = (N.2 T).1 1) := by
  rcases sc_cases hW t k with z | ⟨T, K, z, -, rfl, hT, hT5, eT, rfl, hK, hK16, eK⟩
  · unfold whyA at h; rw [z, if_neg (by decide)] at h; exact absurd h (by decide)
  · refine ⟨T, K, rfl, hT, hT5, eT, rfl, hK, hK16, eK, ?_⟩
    unfold whyA at h ⊢
    rw [z, if_pos rfl] at h ⊢
    by_cases y : c < 0 ∨ 1 < c
    · rw [if_pos y] at h; exact absurd h (by decide)
    · rw [if_neg y, eT, eK] at h ⊢
      unfold whyT at h ⊢
      by_cases h3 : (N.2 T).2.1 K = 3
      · rw [if_pos h3] at h; exact absurd h (by decide)
      · by_cases h1 : (N.2 T).2.1 K = 1
        · rw [if_neg h3, if_pos h1] at h; exact absurd h (by decide)
        · by_cases h2 : (N.2 T).2.1 K = 2
          · rw [if_neg h3, if_neg h1, if_pos h2] at h; exact absurd h (by decide)
          · rw [if_neg h3, if_neg h1, if_neg h2]
            by_cases hc : c = (N.2 T).1 1
            · simp [hc]
            · simp [hc]
theorem SP.ery {S : mS} {N : mN} (h : SP S 1 N) : SP (up1 S 1 (upd (S 1) 4 (S 1 4 + 1))) 1 (eryN N) ∧ FS 1 S (up1 S 1 (upd (S 1) 4 (S 1 4 + 1))) := by
  refine ⟨⟨?_, fun t ht => ?_⟩, FS.rf.up (by omega) (by omega)⟩
  · rw [up1_n (show 1 + 1 ≠ 1 by omega), up1_s]
    refine ⟨h.1.1, h.1.2.1, h.1.2.2.1, h.1.2.2.2.1, ?_⟩
    show upd (S 1) 4 (S 1 4 + 1) 4 = upd N.1 4 (N.1 4 + 1) 4
    rw [upd, upd, if_pos rfl, if_pos rfl, h.1.2.2.2.2]
  · have e : cnt (eryN N) = cnt N := rfl
    rw [e] at ht
    exact (h.2 t ht).off (fun x hx => up1_n (by omega))
theorem wn_ery {N : mN} (h : WN N) : WN (eryN N) := h.glob rfl
section GATES
variable {G : mG} {d : Nat} {S : mS} {N : mN} {t k c s w : Int32}
theorem t_X4_letCome (hW : WN N) (hP : SP S 1 N) : Call G (d + 4) M_X4_letCome [rv G 0, .int t, .int k, .int c] S (fun v u => v = some (comO N t k c).1 ∧ SP u 1 (comO N t k c).2 ∧ FS 1 S u) := by
  refine call_of (lo := [(0, rv G 0), (1, .int t), (2, .int k), (3, .int c)]) (by decide +kernel) (Nat.le_of_ble_eq_true rfl) rfl ?_
  have hwhy := @t_X4_why G (d + 1) S N t k c hW hP
  unfold comO
  by_cases hn : whyA N t k c < 0
  · rw [if_pos hn]
    refine r_aload_n dX4_letCome_0 0 rfl ?_
    refine r_iload_n dX4_letCome_1 1 rfl ?_
    refine r_iload_n dX4_letCome_2 2 rfl ?_
    refine r_iload_n dX4_letCome_3 3 rfl ?_
    refine r_callViF (As := [_, _, _]) c_X4_why (by first | assumption | rfl) l_X4_112 rfl rfl rfl (Nat.le_of_ble_eq_true rfl) dX4_letCome_4 hwhy ?_
    refine r_istore (lo2 := [(0, _), (1, _), (2, _), (3, _), (4, _)]) dX4_letCome_7 (Nat.le_of_ble_eq_true rfl) [1, 2, 3, 4, 0] rfl ?_
    refine r_iload dX4_letCome_9 4 rfl ?_
    refine r_if_ge dX4_letCome_11 (tgt := 17) (by decide) (fun h11 => ?_) (fun h11 => ?_)
    · --t
      exact absurd hn (Int32.not_lt.mpr h11)
    · --f
      refine r_iload dX4_letCome_14 4 rfl ?_
      refine r_iret rfl dX4_letCome_16 ?_
      exact ⟨rfl, hP, FS.rf⟩
  · rw [if_neg hn]
    by_cases h4 : whyA N t k c = 4
    · obtain ⟨T, K, rfl, hT, hT5, eT, rfl, hK, hK16, eK, hcol⟩ := why_in hW (Or.inr h4)
      have hcol2 : ¬ c = (N.2 T).1 1 := fun z => by rw [hcol.mpr z] at h4; exact absurd h4 (by decide)
      rw [if_pos h4, eT, eK]
      obtain ⟨hP2, hF2⟩ := SP.ery hP
      have ha := kd4 hT5
      have hl : T < ln 3 := hT5
      have hWT := hW.2 T hT
      have e5 : up1 S 1 (upd (S 1) 4 (S 1 4 + 1)) 2 1 = N.1 1 := hP2.1.2.1
      have hTT : TP (up1 S 1 (upd (S 1) 4 (S 1 4 + 1))) (4 + 3 * T) (N.2 T) := hP2.2 T hT
      have htk := fun aw => @t_X3_takeIn G d (up1 S 1 (upd (S 1) 4 (S 1 4 + 1))) (4 + 3 * T) K (N.2 T) c aw ha hK hTT hWT
      rw [if_neg hcol2] at htk
      refine r_aload_n dX4_letCome_0 0 rfl ?_
      refine r_iload_n dX4_letCome_1 1 rfl ?_
      refine r_iload_n dX4_letCome_2 2 rfl ?_
      refine r_iload_n dX4_letCome_3 3 rfl ?_
      refine r_callViF (As := [_, _, _]) c_X4_why (by first | assumption | rfl) l_X4_112 rfl rfl rfl (Nat.le_of_ble_eq_true rfl) dX4_letCome_4 hwhy ?_
      refine r_istore (lo2 := [(0, _), (1, _), (2, _), (3, _), (4, _)]) dX4_letCome_7 (Nat.le_of_ble_eq_true rfl) [1, 2, 3, 4, 0] rfl ?_
      refine r_iload dX4_letCome_9 4 rfl ?_
      refine r_if_ge dX4_letCome_11 (tgt := 17) (by decide) (fun h11 => ?_) (fun h11 => ?_)
      · --t
        refine r_iload dX4_letCome_17 4 rfl ?_
        refine r_iconst dX4_letCome_19 (v := 4) rfl ?_
        refine r_icmp_ne dX4_letCome_20 (tgt := 39) (by decide) (fun h20 => ?_) (fun h20 => ?_)
        · --t
          exact absurd h4 h20
        · --f
          refine r_aload_n dX4_letCome_23 0 rfl ?_
          refine r_getR (b := 1) (by first | assumption | rfl) f_X4_10 rfl rfl dX4_letCome_24 rfl ?_
          refine r_dup dX4_letCome_27 rfl ?_
          refine r_getI (by first | assumption | rfl) f_X4_115 rfl rfl dX4_letCome_28 ?_
          refine r_iconst dX4_letCome_31 (v := 1) rfl ?_
          refine r_iadd dX4_letCome_32 ?_
          refine r_putI (by first | assumption | rfl) f_X4_115 rfl rfl rfl rfl dX4_letCome_33 ?_
          refine r_goto dX4_letCome_36 (tgt := 47) (by decide) ?_
          refine r_aload_n dX4_letCome_47 0 rfl ?_
          refine r_getR (b := 1) (by first | assumption | rfl) f_X4_10 rfl rfl dX4_letCome_48 rfl ?_
          refine r_getR (b := 3) (by first | assumption | rfl) f_X4_75 rfl rfl dX4_letCome_51 rfl ?_
          refine r_iload_n dX4_letCome_54 1 rfl ?_
          refine r_aald10 (j := _) (by first | assumption | rfl) (by first | assumption | rfl) (by first | assumption | decide) (rf3 _) dX4_letCome_55 ?_
          refine r_iload_n dX4_letCome_56 2 rfl ?_
          refine r_iload_n dX4_letCome_57 3 rfl ?_
          refine r_aload_n dX4_letCome_58 0 rfl ?_
          refine r_getR (b := 1) (by first | assumption | rfl) f_X4_10 rfl rfl dX4_letCome_59 rfl ?_
          refine r_getR (b := 2) (by first | assumption | rfl) f_X4_49 rfl rfl dX4_letCome_62 rfl ?_
          refine r_iconst dX4_letCome_65 (v := 1) rfl ?_
          refine r_iald (j := 1) (by first | assumption | rfl) (by first | assumption | rfl) (show 1 < ln 2 by decide) dX4_letCome_66 ?_
          refine r_callVi (As := [_, _, _]) c_X3_takeIn (by first | assumption | rfl) l_X4_118 rfl rfl rfl (Nat.le_of_ble_eq_true rfl) dX4_letCome_67 (htk _) (fun r67 u67 q67 => ?_)
          obtain ⟨h3, hT3, hF3⟩ := q67
          cases h3
          refine r_iret rfl dX4_letCome_70 ?_
          rw [e5] at hT3 ⊢
          exact ⟨rfl, hP2.tr hT (hW.cn.2) hT3 hF3, hF2.tr (fs_fr hF3 hT5)⟩
      · --f
        exact absurd h11 (by rw [h4]; decide)
    · rw [if_neg h4]
      by_cases h0 : whyA N t k c = 0
      · obtain ⟨T, K, rfl, hT, hT5, eT, rfl, hK, hK16, eK, hcol⟩ := why_in hW (Or.inl h0)
        rw [if_pos h0, eT, eK]
        have ha := kd4 hT5
        have hl : T < ln 3 := hT5
        have hWT := hW.2 T hT
        have e5 : S 2 1 = N.1 1 := hP.1.2.1
        have hTT : TP S (4 + 3 * T) (N.2 T) := hP.2 T hT
        have htk := fun aw => @t_X3_takeIn G d S (4 + 3 * T) K (N.2 T) c aw ha hK hTT hWT
        rw [if_pos (hcol.mp h0)] at htk
        refine r_aload_n dX4_letCome_0 0 rfl ?_
        refine r_iload_n dX4_letCome_1 1 rfl ?_
        refine r_iload_n dX4_letCome_2 2 rfl ?_
        refine r_iload_n dX4_letCome_3 3 rfl ?_
        refine r_callViF (As := [_, _, _]) c_X4_why (by first | assumption | rfl) l_X4_112 rfl rfl rfl (Nat.le_of_ble_eq_true rfl) dX4_letCome_4 hwhy ?_
        refine r_istore (lo2 := [(0, _), (1, _), (2, _), (3, _), (4, _)]) dX4_letCome_7 (Nat.le_of_ble_eq_true rfl) [1, 2, 3, 4, 0] rfl ?_
        refine r_iload dX4_letCome_9 4 rfl ?_
        refine r_if_ge dX4_letCome_11 (tgt := 17) (by decide) (fun h11 => ?_) (fun h11 => ?_)
        · --t
          refine r_iload dX4_letCome_17 4 rfl ?_
          refine r_iconst dX4_letCome_19 (v := 4) rfl ?_
          refine r_icmp_ne dX4_letCome_20 (tgt := 39) (by decide) (fun h20 => ?_) (fun h20 => ?_)
          · --t
            refine r_iload dX4_letCome_39 4 rfl ?_
            refine r_if_eq dX4_letCome_41 (tgt := 47) (by decide) (fun h41 => ?_) (fun h41 => ?_)
            · --t
              refine r_aload_n dX4_letCome_47 0 rfl ?_
              refine r_getR (b := 1) (by first | assumption | rfl) f_X4_10 rfl rfl dX4_letCome_48 rfl ?_
              refine r_getR (b := 3) (by first | assumption | rfl) f_X4_75 rfl rfl dX4_letCome_51 rfl ?_
              refine r_iload_n dX4_letCome_54 1 rfl ?_
              refine r_aald10 (j := _) (by first | assumption | rfl) (by first | assumption | rfl) (by first | assumption | decide) (rf3 _) dX4_letCome_55 ?_
              refine r_iload_n dX4_letCome_56 2 rfl ?_
              refine r_iload_n dX4_letCome_57 3 rfl ?_
              refine r_aload_n dX4_letCome_58 0 rfl ?_
              refine r_getR (b := 1) (by first | assumption | rfl) f_X4_10 rfl rfl dX4_letCome_59 rfl ?_
              refine r_getR (b := 2) (by first | assumption | rfl) f_X4_49 rfl rfl dX4_letCome_62 rfl ?_
              refine r_iconst dX4_letCome_65 (v := 1) rfl ?_
              refine r_iald (j := 1) (by first | assumption | rfl) (by first | assumption | rfl) (show 1 < ln 2 by decide) dX4_letCome_66 ?_
              refine r_callVi (As := [_, _, _]) c_X3_takeIn (by first | assumption | rfl) l_X4_118 rfl rfl rfl (Nat.le_of_ble_eq_true rfl) dX4_letCome_67 (htk _) (fun r67 u67 q67 => ?_)
              obtain ⟨h3, hT3, hF3⟩ := q67
              cases h3
              refine r_iret rfl dX4_letCome_70 ?_
              rw [e5] at hT3 ⊢
              exact ⟨rfl, hP.tr hT (hW.cn.2) hT3 hF3, fs_fr hF3 hT5⟩
            · --f
              exact absurd h0 h41
          · --f
            exact absurd h20 h4
        · --f
          exact absurd h11 (by rw [h0]; decide)
      · rw [if_neg h0]
        refine r_aload_n dX4_letCome_0 0 rfl ?_
        refine r_iload_n dX4_letCome_1 1 rfl ?_
        refine r_iload_n dX4_letCome_2 2 rfl ?_
        refine r_iload_n dX4_letCome_3 3 rfl ?_
        refine r_callViF (As := [_, _, _]) c_X4_why (by first | assumption | rfl) l_X4_112 rfl rfl rfl (Nat.le_of_ble_eq_true rfl) dX4_letCome_4 hwhy ?_
        refine r_istore (lo2 := [(0, _), (1, _), (2, _), (3, _), (4, _)]) dX4_letCome_7 (Nat.le_of_ble_eq_true rfl) [1, 2, 3, 4, 0] rfl ?_
        refine r_iload dX4_letCome_9 4 rfl ?_
        refine r_if_ge dX4_letCome_11 (tgt := 17) (by decide) (fun h11 => ?_) (fun h11 => ?_)
        · --t
          refine r_iload dX4_letCome_17 4 rfl ?_
          refine r_iconst dX4_letCome_19 (v := 4) rfl ?_
          refine r_icmp_ne dX4_letCome_20 (tgt := 39) (by decide) (fun h20 => ?_) (fun h20 => ?_)
          · --t
            refine r_iload dX4_letCome_39 4 rfl ?_
            refine r_if_eq dX4_letCome_41 (tgt := 47) (by decide) (fun h41 => ?_) (fun h41 => ?_)
            · --t
              exact absurd h41 h0
            · --f
              refine r_bipush dX4_letCome_44 (v := -5) (by decide +kernel) ?_
              refine r_iret rfl dX4_letCome_46 ?_
              exact ⟨rfl, hP, FS.rf⟩
          · --f
            exact absurd h20 h4
        · --f
          exact absurd (Int32.not_le.mp h11) hn
theorem t_X4_loseScout (hW : WN N) (hP : SP S 1 N) : Call G (d + 3) M_X4_loseScout [rv G 0, .int t, .int k] S (fun v u => v = some (losO N t k).1 ∧ SP u 1 (losO N t k).2 ∧ FS 1 S u) := by
  refine call_of (lo := [(0, rv G 0), (1, .int t), (2, .int k)]) (by decide +kernel) (Nat.le_of_ble_eq_true rfl) rfl ?_
  unfold losO
  rcases sc_cases hW t k with h | ⟨T, K, h, -, rfl, hT, hT5, eT, rfl, hK, hK16, eK⟩
  ·
    refine r_aload_n dX4_loseScout_0 0 rfl ?_
    refine r_iload_n dX4_loseScout_1 1 rfl ?_
    refine r_iload_n dX4_loseScout_2 2 rfl ?_
    refine r_callViF (As := [_, _]) c_X4_isScout (by first | assumption | rfl) l_X4_71 rfl rfl rfl (Nat.le_of_ble_eq_true rfl) dX4_loseScout_3 (t_X4_isScout hW hP) ?_
    refine r_if_ne dX4_loseScout_6 (tgt := 11) (by decide) (fun h6 => ?_) (fun h6 => ?_)
    · --t
      exact absurd (bI_not h) h6
    · --f
      refine r_iconst dX4_loseScout_9 (v := -1) rfl ?_
      refine r_iret rfl dX4_loseScout_10 ?_
      rw [h]; exact ⟨rfl, hP, FS.rf⟩
  · have ha := kd4 hT5
    have hl : T < ln 3 := hT5
    have hTT : TP S (4 + 3 * T) (N.2 T) := hP.2 T hT
    have hWT := hW.2 T hT
    have hWs : WF (setH (N.2 T) K 4) := wf_set hWT hK (by simp)
    rw [h, if_pos rfl, eT, eK]
    refine r_aload_n dX4_loseScout_0 0 rfl ?_
    refine r_iload_n dX4_loseScout_1 1 rfl ?_
    refine r_iload_n dX4_loseScout_2 2 rfl ?_
    refine r_callViF (As := [_, _]) c_X4_isScout (by first | assumption | rfl) l_X4_71 rfl rfl rfl (Nat.le_of_ble_eq_true rfl) dX4_loseScout_3 (t_X4_isScout hW hP) ?_
    refine r_if_ne dX4_loseScout_6 (tgt := 11) (by decide) (fun h6 => ?_) (fun h6 => ?_)
    · --t
      refine r_aload_n dX4_loseScout_11 0 rfl ?_
      refine r_getR (b := 1) (by first | assumption | rfl) f_X4_10 rfl rfl dX4_loseScout_12 rfl ?_
      refine r_getR (b := 3) (by first | assumption | rfl) f_X4_75 rfl rfl dX4_loseScout_15 rfl ?_
      refine r_iload_n dX4_loseScout_18 1 rfl ?_
      refine r_aald10 (j := _) (by first | assumption | rfl) (by first | assumption | rfl) (by first | assumption | decide) (rf3 _) dX4_loseScout_19 ?_
      refine r_astore_n (lo2 := [(0, _), (1, _), (2, _), (3, _)]) dX4_loseScout_20 rfl (Nat.le_of_ble_eq_true rfl) [1, 2, 3, 0] rfl ?_
      refine r_aload_n dX4_loseScout_21 3 rfl ?_
      refine r_iload_n dX4_loseScout_22 2 rfl ?_
      refine r_callViF (As := [_]) c_X3_howIs (by first | assumption | rfl) l_X4_79 rfl rfl rfl (Nat.le_of_ble_eq_true rfl) dX4_loseScout_23 (t_X3_howIs ha hK16 hTT hWT) ?_
      refine r_istore (lo2 := [(0, _), (1, _), (2, _), (3, _), (4, _)]) dX4_loseScout_26 (Nat.le_of_ble_eq_true rfl) [1, 2, 3, 4, 0] rfl ?_
      refine r_iload dX4_loseScout_28 4 rfl ?_
      refine r_iconst dX4_loseScout_30 (v := 3) rfl ?_
      refine r_icmp_eq dX4_loseScout_31 (tgt := 40) (by decide) (fun h31 => ?_) (fun h31 => ?_)
      · --t
        refine r_bipush dX4_loseScout_40 (v := -5) (by decide +kernel) ?_
        refine r_iret rfl dX4_loseScout_42 ?_
        rw [if_pos (by first | exact Or.inl h31 | exact Or.inr h37)]; exact ⟨rfl, hP, FS.rf⟩
      · --f
        refine r_iload dX4_loseScout_34 4 rfl ?_
        refine r_iconst dX4_loseScout_36 (v := 4) rfl ?_
        refine r_icmp_ne dX4_loseScout_37 (tgt := 43) (by decide) (fun h37 => ?_) (fun h37 => ?_)
        · --t
          refine r_aload_n dX4_loseScout_43 3 rfl ?_
          refine r_iload_n dX4_loseScout_44 2 rfl ?_
          refine r_callVv (As := [_]) c_X3_missScout (by first | assumption | rfl) l_X4_121 rfl rfl rfl (Nat.le_of_ble_eq_true rfl) dX4_loseScout_45 (t_X3_missScout ha hK16 hTT) (fun u45 q45 => ?_)
          obtain ⟨-, hT2, hF2⟩ := q45
          refine r_aload_n dX4_loseScout_48 3 rfl ?_
          refine r_callViF (As := []) c_X3_countDown (by first | assumption | rfl) l_X4_124 rfl rfl rfl (Nat.le_of_ble_eq_true rfl) dX4_loseScout_49 (t_X3_countDown ha hT2 hWs) ?_
          refine r_iret rfl dX4_loseScout_52 ?_
          rw [if_neg (by intro z; rcases z with z | z; exact h31 z; exact absurd z h37)]
          exact ⟨rfl, hP.tr hT hW.cn.2 hT2 hF2, fs_fr hF2 hT5⟩
        · --f
          refine r_bipush dX4_loseScout_40 (v := -5) (by decide +kernel) ?_
          refine r_iret rfl dX4_loseScout_42 ?_
          rw [if_pos (by first | exact Or.inl h31 | exact Or.inr h37)]; exact ⟨rfl, hP, FS.rf⟩
    · --f
      exact absurd (bI_yes h) (by rw [h6]; decide)
end GATES
