/-! the class's Troop: a minute, beginning, copying -/
theorem or0_l {x y : Int32} (h : x ||| y = 0) : x = 0 := by
  refine b_ext fun i hi => ?_
  have := b_or x y i
  rw [h, b_0] at this
  rw [b_0]
  cases hx : bt x i
  · rfl
  · rw [hx] at this; simp at this
theorem or0_r {x y : Int32} (h : x ||| y = 0) : y = 0 := by
  rw [Int32.or_comm] at h
  exact or0_l h
theorem lp_X3_passMinute {G : mG} {d : Nat} {S0 : mS} {a : Nat} {T : mT} {pat away : Int32} {Q : Option Int32 → mS → Prop} (ha : kd a = 3) (hW : WF T) (hx : ∀ u, TP u a (wlkT T pat 16) → FR a S0 u → At G (d + 3) M_X3_passMinute Q 88 [(0, rv G a), (1, .int pat), (2, .int away)] [] u) : ∀ n k S, n + k = 16 → TP S a (wlkT T pat k) → FR a S0 S → At G (d + 3) M_X3_passMinute Q 14 [(0, rv G a), (1, .int pat), (2, .int away), (3, .int (nI k))] [] S := by
  obtain ⟨k1, k2, l1, l2, f1, f2⟩ := kdT ha
  intro n
  induction n with
  | zero =>
    intro k S hk hT hF
    obtain rfl : k = 16 := by omega
    refine r_iload_n dX3_passMinute_14 3 rfl ?_
    refine r_bipush dX3_passMinute_15 (v := 16) (by decide +kernel) ?_
    refine r_icmp_ge dX3_passMinute_17 (tgt := 88) (by decide) (fun h17 => ?_) (fun h17 => ?_)
    · --t
      exact r_sub [0, 1, 2] rfl (hx _ hT hF)
    · --f
      exact absurd (show (16 : Int32) ≤ nI 16 by decide) h17
  | succ n ih =>
    intro k S hk hT hF
    have hk16 : k < 16 := by omega
    have hk32 : k < 32 := by omega
    have hl1 : k < ln (a + 1) := by rw [l1]; exact hk16
    have hl2 : k < ln (a + 2) := by rw [l2]; exact hk16
    have hWk : WF (wlkT T pat k) := wf_wlk hW pat
    have eb3 : bt (S a 5) k = (T.2.1 k == 3) := by rw [hT.2.1.2.2.1, bt_hm _ _ hk16, wlk_hw]
    have eb4 : bt (S a 6) k = (T.2.1 k == 4) := by rw [hT.2.1.2.2.2, bt_hm _ _ hk16, wlk_hw]
    have e1 : S (a + 1) k = T.2.2.1 k := by rw [(hT.2.2 k hk16).1, wlk_fr]
    have e2 : up1 S (a + 1) (upd (S (a + 1)) k (S (a + 1) k + 1)) (a + 1) k = T.2.2.1 k + 1 := by rw [up1_s, upd, if_pos rfl, e1]
    refine r_iload_n dX3_passMinute_14 3 rfl ?_
    refine r_bipush dX3_passMinute_15 (v := 16) (by decide +kernel) ?_
    refine r_icmp_ge dX3_passMinute_17 (tgt := 88) (by decide) (fun h17 => ?_) (fun h17 => ?_)
    · --t
      exact absurd h17 (c16 hk16)
    · --f
      refine r_aload_n dX3_passMinute_20 0 rfl ?_
      refine r_getI (by first | assumption | rfl) f_X3_34 rfl rfl dX3_passMinute_21 ?_
      refine r_iload_n dX3_passMinute_24 3 rfl ?_
      refine r_callSiF (As := [_, _]) c_X3_isIn l_X3_59 rfl rfl rfl (Nat.le_of_ble_eq_true rfl) dX3_passMinute_25 (t_X3_isIn rfl hk32) ?_
      refine r_if_eq dX3_passMinute_28 (tgt := 39) (by decide) (fun h28 => ?_) (fun h28 => ?_)
      · --t
        refine r_aload_n dX3_passMinute_39 0 rfl ?_
        refine r_getI (by first | assumption | rfl) f_X3_37 rfl rfl dX3_passMinute_40 ?_
        refine r_iload_n dX3_passMinute_43 3 rfl ?_
        refine r_callSiF (As := [_, _]) c_X3_isIn l_X3_59 rfl rfl rfl (Nat.le_of_ble_eq_true rfl) dX3_passMinute_44 (t_X3_isIn rfl hk32) ?_
        refine r_if_eq dX3_passMinute_47 (tgt := 82) (by decide) (fun h47 => ?_) (fun h47 => ?_)
        · --t
          refine r_iinc (lo2 := [(0, _), (1, _), (2, _), (3, _)]) dX3_passMinute_82 3 rfl (w := 1) rfl (Nat.le_of_ble_eq_true rfl) [1, 2, 3, 0] rfl ?_
          refine r_goto dX3_passMinute_85 (tgt := 14) (by decide) ?_
          rw [nI_1]
          refine ih (k + 1) _ (by omega) ?_ ?_
          · first
              | (rw [eb3, bI_0, beq_eq_false_iff_ne, ne_eq, Classical.not_not] at h28; exact hT2.te (wlk_3 h28))
              | (rw [eb3, bI_0, beq_eq_false_iff_ne] at h28; rw [eb4, bI_0, beq_eq_false_iff_ne] at h47; exact hT.te (wlk_n h28 h47))
              | (rw [eb4, bI_0, beq_eq_false_iff_ne, ne_eq, Classical.not_not] at h47; rw [e2] at h67
                 have h1 := hT.fr (j := k) (S (a + 1) k + 1)
                 refine h1.te ?_
                 have h2 := wlk_4 (pat := pat) h47
                 rw [if_neg (Int32.not_lt.mpr h67)] at h2
                 rw [e1]
                 exact h2)
              | (rw [eb4, bI_0, beq_eq_false_iff_ne, ne_eq, Classical.not_not] at h47; rw [e2] at h67
                 have h1 := (hT.fr (j := k) (S (a + 1) k + 1)).struck (up1 S (a + 1) (upd (S (a + 1)) k (S (a + 1) k + 1)) a 7 ||| ((1 : Int32) <<< (nI k &&& 31)))
                 have h3 : up1 S (a + 1) (upd (S (a + 1)) k (S (a + 1) k + 1)) a 7 = (wlkT T pat k).1 5 := by rw [up1_n (by omega)]; exact hT.1.2.2.2.1
                 refine h1.te ?_
                 have h2 := wlk_4 (pat := pat) h47
                 rw [if_pos (Int32.not_le.mp h67)] at h2
                 rw [h3, e1]
                 exact h2)
          · first | exact hF.tr hF2 | exact hF.up1'.up0 | exact hF.up1' | exact hF
        · --f
          refine r_aload_n dX3_passMinute_50 0 rfl ?_
          refine r_getR (by first | assumption | rfl) f_X3_9 rfl rfl dX3_passMinute_51 (by first | assumption | rfl) ?_
          refine r_iload_n dX3_passMinute_54 3 rfl ?_
          refine r_dup2 dX3_passMinute_55 rfl rfl ?_
          refine r_iald (j := _) (by first | assumption | rfl) (by first | assumption | rfl) (by first | assumption | decide) dX3_passMinute_56 ?_
          refine r_iconst dX3_passMinute_57 (v := 1) rfl ?_
          refine r_iadd dX3_passMinute_58 ?_
          refine r_iast (j := _) (by first | assumption | rfl) (by first | assumption | rfl) (by first | assumption | decide) dX3_passMinute_59 ?_
          refine r_aload_n dX3_passMinute_60 0 rfl ?_
          refine r_getR (by first | assumption | rfl) f_X3_9 rfl rfl dX3_passMinute_61 (by first | assumption | rfl) ?_
          refine r_iload_n dX3_passMinute_64 3 rfl ?_
          refine r_iald (j := _) (by first | assumption | rfl) (by first | assumption | rfl) (by first | assumption | decide) dX3_passMinute_65 ?_
          refine r_iload_n dX3_passMinute_66 1 rfl ?_
          refine r_icmp_le dX3_passMinute_67 (tgt := 82) (by decide) (fun h67 => ?_) (fun h67 => ?_)
          · --t
            refine r_iinc (lo2 := [(0, _), (1, _), (2, _), (3, _)]) dX3_passMinute_82 3 rfl (w := 1) rfl (Nat.le_of_ble_eq_true rfl) [1, 2, 3, 0] rfl ?_
            refine r_goto dX3_passMinute_85 (tgt := 14) (by decide) ?_
            rw [nI_1]
            refine ih (k + 1) _ (by omega) ?_ ?_
            · first
                | (rw [eb3, bI_0, beq_eq_false_iff_ne, ne_eq, Classical.not_not] at h28; exact hT2.te (wlk_3 h28))
                | (rw [eb3, bI_0, beq_eq_false_iff_ne] at h28; rw [eb4, bI_0, beq_eq_false_iff_ne] at h47; exact hT.te (wlk_n h28 h47))
                | (rw [eb4, bI_0, beq_eq_false_iff_ne, ne_eq, Classical.not_not] at h47; rw [e2] at h67
                   have h1 := hT.fr (j := k) (S (a + 1) k + 1)
                   refine h1.te ?_
                   have h2 := wlk_4 (pat := pat) h47
                   rw [if_neg (Int32.not_lt.mpr h67)] at h2
                   rw [e1]
                   exact h2)
                | (rw [eb4, bI_0, beq_eq_false_iff_ne, ne_eq, Classical.not_not] at h47; rw [e2] at h67
                   have h1 := (hT.fr (j := k) (S (a + 1) k + 1)).struck (up1 S (a + 1) (upd (S (a + 1)) k (S (a + 1) k + 1)) a 7 ||| ((1 : Int32) <<< (nI k &&& 31)))
                   have h3 : up1 S (a + 1) (upd (S (a + 1)) k (S (a + 1) k + 1)) a 7 = (wlkT T pat k).1 5 := by rw [up1_n (by omega)]; exact hT.1.2.2.2.1
                   refine h1.te ?_
                   have h2 := wlk_4 (pat := pat) h47
                   rw [if_pos (Int32.not_le.mp h67)] at h2
                   rw [h3, e1]
                   exact h2)
            · first | exact hF.tr hF2 | exact hF.up1'.up0 | exact hF.up1' | exact hF
          · --f
            refine r_aload_n dX3_passMinute_70 0 rfl ?_
            refine r_dup dX3_passMinute_71 rfl ?_
            refine r_getI (by first | assumption | rfl) f_X3_40 rfl rfl dX3_passMinute_72 ?_
            refine r_iconst dX3_passMinute_75 (v := 1) rfl ?_
            refine r_iload_n dX3_passMinute_76 3 rfl ?_
            refine r_ishl dX3_passMinute_77 ?_
            refine r_ior dX3_passMinute_78 ?_
            refine r_putI (by first | assumption | rfl) f_X3_40 rfl rfl rfl rfl dX3_passMinute_79 ?_
            refine r_iinc (lo2 := [(0, _), (1, _), (2, _), (3, _)]) dX3_passMinute_82 3 rfl (w := 1) rfl (Nat.le_of_ble_eq_true rfl) [1, 2, 3, 0] rfl ?_
            refine r_goto dX3_passMinute_85 (tgt := 14) (by decide) ?_
            rw [nI_1]
            refine ih (k + 1) _ (by omega) ?_ ?_
            · first
                | (rw [eb3, bI_0, beq_eq_false_iff_ne, ne_eq, Classical.not_not] at h28; exact hT2.te (wlk_3 h28))
                | (rw [eb3, bI_0, beq_eq_false_iff_ne] at h28; rw [eb4, bI_0, beq_eq_false_iff_ne] at h47; exact hT.te (wlk_n h28 h47))
                | (rw [eb4, bI_0, beq_eq_false_iff_ne, ne_eq, Classical.not_not] at h47; rw [e2] at h67
                   have h1 := hT.fr (j := k) (S (a + 1) k + 1)
                   refine h1.te ?_
                   have h2 := wlk_4 (pat := pat) h47
                   rw [if_neg (Int32.not_lt.mpr h67)] at h2
                   rw [e1]
                   exact h2)
                | (rw [eb4, bI_0, beq_eq_false_iff_ne, ne_eq, Classical.not_not] at h47; rw [e2] at h67
                   have h1 := (hT.fr (j := k) (S (a + 1) k + 1)).struck (up1 S (a + 1) (upd (S (a + 1)) k (S (a + 1) k + 1)) a 7 ||| ((1 : Int32) <<< (nI k &&& 31)))
                   have h3 : up1 S (a + 1) (upd (S (a + 1)) k (S (a + 1) k + 1)) a 7 = (wlkT T pat k).1 5 := by rw [up1_n (by omega)]; exact hT.1.2.2.2.1
                   refine h1.te ?_
                   have h2 := wlk_4 (pat := pat) h47
                   rw [if_pos (Int32.not_le.mp h67)] at h2
                   rw [h3, e1]
                   exact h2)
            · first | exact hF.tr hF2 | exact hF.up1'.up0 | exact hF.up1' | exact hF
      · --f
        refine r_aload_n dX3_passMinute_31 0 rfl ?_
        refine r_iload_n dX3_passMinute_32 3 rfl ?_
        refine r_callVv (As := [_]) c_X3_walkOn (by first | assumption | rfl) l_X3_83 rfl rfl rfl (Nat.le_of_ble_eq_true rfl) dX3_passMinute_33 (t_X3_walkOn ha hk16 hT hWk) (fun u33 q33 => ?_)
        obtain ⟨-, hT2, hF2⟩ := q33
        refine r_goto dX3_passMinute_36 (tgt := 82) (by decide) ?_
        refine r_iinc (lo2 := [(0, _), (1, _), (2, _), (3, _)]) dX3_passMinute_82 3 rfl (w := 1) rfl (Nat.le_of_ble_eq_true rfl) [1, 2, 3, 0] rfl ?_
        refine r_goto dX3_passMinute_85 (tgt := 14) (by decide) ?_
        rw [nI_1]
        refine ih (k + 1) _ (by omega) ?_ ?_
        · first
            | (rw [eb3, bI_0, beq_eq_false_iff_ne, ne_eq, Classical.not_not] at h28; exact hT2.te (wlk_3 h28))
            | (rw [eb3, bI_0, beq_eq_false_iff_ne] at h28; rw [eb4, bI_0, beq_eq_false_iff_ne] at h47; exact hT.te (wlk_n h28 h47))
            | (rw [eb4, bI_0, beq_eq_false_iff_ne, ne_eq, Classical.not_not] at h47; rw [e2] at h67
               have h1 := hT.fr (j := k) (S (a + 1) k + 1)
               refine h1.te ?_
               have h2 := wlk_4 (pat := pat) h47
               rw [if_neg (Int32.not_lt.mpr h67)] at h2
               rw [e1]
               exact h2)
            | (rw [eb4, bI_0, beq_eq_false_iff_ne, ne_eq, Classical.not_not] at h47; rw [e2] at h67
               have h1 := (hT.fr (j := k) (S (a + 1) k + 1)).struck (up1 S (a + 1) (upd (S (a + 1)) k (S (a + 1) k + 1)) a 7 ||| ((1 : Int32) <<< (nI k &&& 31)))
               have h3 : up1 S (a + 1) (upd (S (a + 1)) k (S (a + 1) k + 1)) a 7 = (wlkT T pat k).1 5 := by rw [up1_n (by omega)]; exact hT.1.2.2.2.1
               refine h1.te ?_
               have h2 := wlk_4 (pat := pat) h47
               rw [if_pos (Int32.not_le.mp h67)] at h2
               rw [h3, e1]
               exact h2)
        · first | exact hF.tr hF2 | exact hF.up1'.up0 | exact hF.up1' | exact hF
theorem t_X3_passMinute {G : mG} {d : Nat} {S : mS} {a : Nat} {T : mT} {pat away : Int32} (ha : kd a = 3) (hT : TP S a T) (hW : WF T) : Call G (d + 3) M_X3_passMinute [rv G a, .int pat, .int away] S (fun v u => v = some (minT T pat away).1 ∧ TP u a (minT T pat away).2 ∧ FR a S u) := by
  refine call_of (lo := [(0, rv G a), (1, .int pat), (2, .int away)]) (by decide +kernel) (Nat.le_of_ble_eq_true rfl) rfl ?_
  have fin : ∀ u, TP u a (wlkT T pat 16) → FR a S u → At G (d + 3) M_X3_passMinute (fun v u => v = some (minT T pat away).1 ∧ TP u a (minT T pat away).2 ∧ FR a S u) 88 [(0, rv G a), (1, .int pat), (2, .int away)] [] u := by
    intro u hTu hFu
    have hWu : WF (wlkT T pat 16) := wf_wlk hW pat
    refine r_aload_n dX3_passMinute_88 0 rfl ?_
    refine r_iload_n dX3_passMinute_89 2 rfl ?_
    refine r_callVi (As := [_]) c_X3_openGate (by first | assumption | rfl) l_X3_80 rfl rfl rfl (Nat.le_of_ble_eq_true rfl) dX3_passMinute_90 (t_X3_openGate ha hTu hWu) (fun r90 u90 q90 => ?_)
    obtain ⟨h3, hT3, hF3⟩ := q90
    cases h3
    refine r_iret rfl dX3_passMinute_93 ?_
    exact ⟨rfl, hT3, hFu.tr hF3⟩
  refine r_aload_n dX3_passMinute_0 0 rfl ?_
  refine r_getI (by first | assumption | rfl) f_X3_34 rfl rfl dX3_passMinute_1 ?_
  refine r_aload_n dX3_passMinute_4 0 rfl ?_
  refine r_getI (by first | assumption | rfl) f_X3_37 rfl rfl dX3_passMinute_5 ?_
  refine r_ior dX3_passMinute_8 ?_
  refine r_if_eq dX3_passMinute_9 (tgt := 88) (by decide) (fun h9 => ?_) (fun h9 => ?_)
  · --t
    rw [hT.2.1.2.2.1, hT.2.1.2.2.2] at h9
    have h3 : hm T 3 = 0 := or0_l h9
    have h4 : hm T 4 = 0 := or0_r h9
    exact fin S (hT.te (wlk_no h3 h4 16 (Nat.le_refl _))) FR.rf
  · --f
    refine r_iconst dX3_passMinute_12 (v := 0) rfl ?_
    refine r_istore_n (lo2 := [(0, _), (1, _), (2, _), (3, _)]) dX3_passMinute_13 rfl (Nat.le_of_ble_eq_true rfl) [1, 2, 3, 0] rfl ?_
    exact lp_X3_passMinute (T := T) ha hW fin 16 0 S (by omega) (hT.te wlk_0) FR.rf

theorem lp_X3_begin {G : mG} {d : Nat} {S0 : mS} {a : Nat} {x : Int32} {Q : Option Int32 → mS → Prop} (ha : kd a = 3) (hx : ∀ u, TP u a (newT x) → FR a S0 u → Q none u) : ∀ n k S, n + k = 16 → (S a 0 = x ∧ S a 1 = x ∧ S a 2 = 0 ∧ S a 7 = 0 ∧ S a 8 = 0 ∧ S a 9 = 0) → (S a 3 = 0 ∧ S a 4 = 0 ∧ S a 5 = 0 ∧ S a 6 = 0) → (∀ i, i < k → S (a + 1) i = 0 ∧ S (a + 2) i = 0) → FR a S0 S → At G d M_X3_begin Q 52 [(0, rv G a), (1, .int x), (2, .int (nI k))] [] S := by
  obtain ⟨k1, k2, l1, l2, f1, f2⟩ := kdT ha
  intro n
  induction n with
  | zero =>
    intro k S hk h1 h2 h3 hF
    obtain rfl : k = 16 := by omega
    refine r_iload_n dX3_begin_52 2 rfl ?_
    refine r_bipush dX3_begin_53 (v := 16) (by decide +kernel) ?_
    refine r_icmp_ge dX3_begin_55 (tgt := 78) (by decide) (fun h55 => ?_) (fun h55 => ?_)
    · --t
      refine r_vret rfl dX3_begin_78 ?_
      refine hx _ ⟨h1, ?_, fun i hi => h3 i hi⟩ hF
      refine ⟨h2.1.trans ?_, h2.2.1.trans ?_, h2.2.2.1.trans ?_, h2.2.2.2.trans ?_⟩ <;> exact ((mkm_0 _).mpr (fun k hk => by simp [newT])).symm
    · --f
      exact absurd (show (16 : Int32) ≤ nI 16 by decide) h55
  | succ n ih =>
    intro k S hk h1 h2 h3 hF
    have hk16 : k < 16 := by omega
    have hl1 : k < ln (a + 1) := by rw [l1]; exact hk16
    have hl2 : k < ln (a + 2) := by rw [l2]; exact hk16
    refine r_iload_n dX3_begin_52 2 rfl ?_
    refine r_bipush dX3_begin_53 (v := 16) (by decide +kernel) ?_
    refine r_icmp_ge dX3_begin_55 (tgt := 78) (by decide) (fun h55 => ?_) (fun h55 => ?_)
    · --t
      exact absurd h55 (c16 hk16)
    · --f
      refine r_aload_n dX3_begin_58 0 rfl ?_
      refine r_getR (by first | assumption | rfl) f_X3_9 rfl rfl dX3_begin_59 (by first | assumption | rfl) ?_
      refine r_iload_n dX3_begin_62 2 rfl ?_
      refine r_iconst dX3_begin_63 (v := 0) rfl ?_
      refine r_iast (j := _) (by first | assumption | rfl) (by first | assumption | rfl) (by first | assumption | decide) dX3_begin_64 ?_
      refine r_aload_n dX3_begin_65 0 rfl ?_
      refine r_getR (by first | assumption | rfl) f_X3_15 rfl rfl dX3_begin_66 (by first | assumption | rfl) ?_
      refine r_iload_n dX3_begin_69 2 rfl ?_
      refine r_iconst dX3_begin_70 (v := 0) rfl ?_
      refine r_iast (j := _) (by first | assumption | rfl) (by first | assumption | rfl) (by first | assumption | decide) dX3_begin_71 ?_
      refine r_iinc (lo2 := [(0, _), (1, _), (2, _)]) dX3_begin_72 2 rfl (w := 1) rfl (Nat.le_of_ble_eq_true rfl) [1, 2, 0] rfl ?_
      refine r_goto dX3_begin_75 (tgt := 52) (by decide) ?_
      rw [nI_1]
      refine ih (k + 1) _ (by omega) ?_ ?_ (fun i hi => ?_) hF.up1'.up2
      · simp only [up1, ap1, ap2, reduceIte]; exact h1
      · simp only [up1, ap1, ap2, reduceIte]; exact h2
      · simp only [up1, upd, ap5, ap6, reduceIte]
        by_cases e : i = k
        · subst e; simp
        · simp only [e, reduceIte]; exact h3 i (by omega)
theorem t_X3_begin {G : mG} {d : Nat} {S : mS} {a : Nat} {x : Int32} (ha : kd a = 3) : Call G d M_X3_begin [rv G a, .int x] S (fun v u => v = none ∧ TP u a (newT x) ∧ FR a S u) := by
  refine call_of (lo := [(0, rv G a), (1, .int x)]) (by decide +kernel) (Nat.le_of_ble_eq_true rfl) rfl ?_
  refine r_aload_n dX3_begin_0 0 rfl ?_
  refine r_iload_n dX3_begin_1 1 rfl ?_
  refine r_putI (by first | assumption | rfl) f_X3_18 rfl rfl rfl rfl dX3_begin_2 ?_
  refine r_aload_n dX3_begin_5 0 rfl ?_
  refine r_iload_n dX3_begin_6 1 rfl ?_
  refine r_putI (by first | assumption | rfl) f_X3_22 rfl rfl rfl rfl dX3_begin_7 ?_
  refine r_aload_n dX3_begin_10 0 rfl ?_
  refine r_iconst dX3_begin_11 (v := 0) rfl ?_
  refine r_putI (by first | assumption | rfl) f_X3_25 rfl rfl rfl rfl dX3_begin_12 ?_
  refine r_aload_n dX3_begin_15 0 rfl ?_
  refine r_iconst dX3_begin_16 (v := 0) rfl ?_
  refine r_putI (by first | assumption | rfl) f_X3_28 rfl rfl rfl rfl dX3_begin_17 ?_
  refine r_aload_n dX3_begin_20 0 rfl ?_
  refine r_iconst dX3_begin_21 (v := 0) rfl ?_
  refine r_putI (by first | assumption | rfl) f_X3_31 rfl rfl rfl rfl dX3_begin_22 ?_
  refine r_aload_n dX3_begin_25 0 rfl ?_
  refine r_iconst dX3_begin_26 (v := 0) rfl ?_
  refine r_putI (by first | assumption | rfl) f_X3_34 rfl rfl rfl rfl dX3_begin_27 ?_
  refine r_aload_n dX3_begin_30 0 rfl ?_
  refine r_iconst dX3_begin_31 (v := 0) rfl ?_
  refine r_putI (by first | assumption | rfl) f_X3_37 rfl rfl rfl rfl dX3_begin_32 ?_
  refine r_aload_n dX3_begin_35 0 rfl ?_
  refine r_iconst dX3_begin_36 (v := 0) rfl ?_
  refine r_putI (by first | assumption | rfl) f_X3_40 rfl rfl rfl rfl dX3_begin_37 ?_
  refine r_aload_n dX3_begin_40 0 rfl ?_
  refine r_iconst dX3_begin_41 (v := 0) rfl ?_
  refine r_putI (by first | assumption | rfl) f_X3_43 rfl rfl rfl rfl dX3_begin_42 ?_
  refine r_aload_n dX3_begin_45 0 rfl ?_
  refine r_iconst dX3_begin_46 (v := 0) rfl ?_
  refine r_putI (by first | assumption | rfl) f_X3_46 rfl rfl rfl rfl dX3_begin_47 ?_
  refine r_iconst dX3_begin_50 (v := 0) rfl ?_
  refine r_istore_n (lo2 := [(0, _), (1, _), (2, _)]) dX3_begin_51 rfl (Nat.le_of_ble_eq_true rfl) [1, 2, 0] rfl ?_
  refine at_gen (fun w hw => ?_)
  refine lp_X3_begin (S0 := S) ha (fun u h1 h2 => ⟨rfl, h1, h2⟩) 16 0 w (by omega) ?_ ?_ (fun i hi => absurd hi (by omega)) ?_
  · rw [hw]; simp only [up1, upd, reduceIte, Nat.reduceEqDiff]; exact ⟨trivial, trivial, trivial, trivial, trivial, trivial⟩
  · rw [hw]; simp only [up1, upd, reduceIte, Nat.reduceEqDiff]; exact ⟨trivial, trivial, trivial, trivial⟩
  · rw [hw]; exact FR.rf.up0.up0.up0.up0.up0.up0.up0.up0.up0.up0
theorem kdT2 {a b : Nat} (ha : kd a = 3) (hb : kd b = 3) (h : b ≠ a) : b ≠ a + 1 ∧ b ≠ a + 2 ∧ b + 1 ≠ a ∧ b + 1 ≠ a + 1 ∧ b + 1 ≠ a + 2 ∧ b + 2 ≠ a ∧ b + 2 ≠ a + 1 ∧ b + 2 ≠ a + 2 := by
  obtain ⟨k1, k2, -⟩ := kdT ha
  obtain ⟨g1, g2, -⟩ := kdT hb
  refine ⟨?_, ?_, ?_, ?_, ?_, ?_, ?_, ?_⟩ <;> intro e
  · rw [e] at hb; omega
  · rw [e] at hb; omega
  · rw [e] at g1; omega
  · omega
  · have : b = a + 1 := by omega
    rw [this] at hb; omega
  · rw [e] at g2; omega
  · have : a = b + 1 := by omega
    rw [this] at ha; omega
  · omega
theorem cpy16 {f g : Nat → Int32} {k : Nat} (h : k < 16) : va_cpy f g 0 0 16 k = f k := by rw [pk_cpy_in (Nat.zero_le _) (by omega)]; simp
theorem t_X3_copyFrom {G : mG} {d : Nat} {S : mS} {a b : Nat} {T : mT} (ha : kd a = 3) (hb : kd b = 3) (hab : b ≠ a) (hT : TP S b T) : Call G (d + 4) M_X3_copyFrom [rv G a, rv G b] S (fun v u => v = none ∧ TP u a T ∧ FR a S u) := by
  refine call_of (lo := [(0, rv G a), (1, rv G b)]) (by decide +kernel) (Nat.le_of_ble_eq_true rfl) rfl ?_
  obtain ⟨k1, k2, l1, l2, f1, f2⟩ := kdT ha
  obtain ⟨g1, g2, m1, m2, n1, n2⟩ := kdT hb
  obtain ⟨z1, z2, z3, z4, z5, z6, z7, z8⟩ := kdT2 ha hb hab
  obtain ⟨⟨a1, a2, a3, a4, a5, a6⟩, ⟨b1, b2, b3, b4⟩, c⟩ := hT
  refine r_aload_n dX3_copyFrom_0 0 rfl ?_
  refine r_aload_n dX3_copyFrom_1 1 rfl ?_
  refine r_getI (by first | assumption | rfl) f_X3_18 rfl rfl dX3_copyFrom_2 ?_
  refine r_putI (by first | assumption | rfl) f_X3_18 rfl rfl rfl rfl dX3_copyFrom_5 ?_
  refine r_aload_n dX3_copyFrom_8 0 rfl ?_
  refine r_aload_n dX3_copyFrom_9 1 rfl ?_
  refine r_getI (by first | assumption | rfl) f_X3_22 rfl rfl dX3_copyFrom_10 ?_
  refine r_putI (by first | assumption | rfl) f_X3_22 rfl rfl rfl rfl dX3_copyFrom_13 ?_
  refine r_aload_n dX3_copyFrom_16 0 rfl ?_
  refine r_aload_n dX3_copyFrom_17 1 rfl ?_
  refine r_getI (by first | assumption | rfl) f_X3_25 rfl rfl dX3_copyFrom_18 ?_
  refine r_putI (by first | assumption | rfl) f_X3_25 rfl rfl rfl rfl dX3_copyFrom_21 ?_
  refine r_aload_n dX3_copyFrom_24 0 rfl ?_
  refine r_aload_n dX3_copyFrom_25 1 rfl ?_
  refine r_getI (by first | assumption | rfl) f_X3_28 rfl rfl dX3_copyFrom_26 ?_
  refine r_putI (by first | assumption | rfl) f_X3_28 rfl rfl rfl rfl dX3_copyFrom_29 ?_
  refine r_aload_n dX3_copyFrom_32 0 rfl ?_
  refine r_aload_n dX3_copyFrom_33 1 rfl ?_
  refine r_getI (by first | assumption | rfl) f_X3_31 rfl rfl dX3_copyFrom_34 ?_
  refine r_putI (by first | assumption | rfl) f_X3_31 rfl rfl rfl rfl dX3_copyFrom_37 ?_
  refine r_aload_n dX3_copyFrom_40 0 rfl ?_
  refine r_aload_n dX3_copyFrom_41 1 rfl ?_
  refine r_getI (by first | assumption | rfl) f_X3_34 rfl rfl dX3_copyFrom_42 ?_
  refine r_putI (by first | assumption | rfl) f_X3_34 rfl rfl rfl rfl dX3_copyFrom_45 ?_
  refine r_aload_n dX3_copyFrom_48 0 rfl ?_
  refine r_aload_n dX3_copyFrom_49 1 rfl ?_
  refine r_getI (by first | assumption | rfl) f_X3_37 rfl rfl dX3_copyFrom_50 ?_
  refine r_putI (by first | assumption | rfl) f_X3_37 rfl rfl rfl rfl dX3_copyFrom_53 ?_
  refine r_aload_n dX3_copyFrom_56 0 rfl ?_
  refine r_aload_n dX3_copyFrom_57 1 rfl ?_
  refine r_getI (by first | assumption | rfl) f_X3_40 rfl rfl dX3_copyFrom_58 ?_
  refine r_putI (by first | assumption | rfl) f_X3_40 rfl rfl rfl rfl dX3_copyFrom_61 ?_
  refine r_aload_n dX3_copyFrom_64 0 rfl ?_
  refine r_aload_n dX3_copyFrom_65 1 rfl ?_
  refine r_getI (by first | assumption | rfl) f_X3_43 rfl rfl dX3_copyFrom_66 ?_
  refine r_putI (by first | assumption | rfl) f_X3_43 rfl rfl rfl rfl dX3_copyFrom_69 ?_
  refine r_aload_n dX3_copyFrom_72 0 rfl ?_
  refine r_aload_n dX3_copyFrom_73 1 rfl ?_
  refine r_getI (by first | assumption | rfl) f_X3_46 rfl rfl dX3_copyFrom_74 ?_
  refine r_putI (by first | assumption | rfl) f_X3_46 rfl rfl rfl rfl dX3_copyFrom_77 ?_
  refine r_aload_n dX3_copyFrom_80 1 rfl ?_
  refine r_getR (by first | assumption | rfl) f_X3_9 rfl rfl dX3_copyFrom_81 (by first | assumption | rfl) ?_
  refine r_iconst dX3_copyFrom_84 (v := 0) rfl ?_
  refine r_aload_n dX3_copyFrom_85 0 rfl ?_
  refine r_getR (by first | assumption | rfl) f_X3_9 rfl rfl dX3_copyFrom_86 (by first | assumption | rfl) ?_
  refine r_iconst dX3_copyFrom_89 (v := 0) rfl ?_
  refine r_bipush dX3_copyFrom_90 (v := 16) (by decide +kernel) ?_
  refine r_copy (sp := 0) (dp := 0) (n := 16) (by first | assumption | rfl) (by first | assumption | rfl) rfl rfl rfl (by rw [m1]; decide) (by rw [l1]; decide) l_X3_49 rfl (by omega) dX3_copyFrom_92 ?_
  refine r_aload_n dX3_copyFrom_95 1 rfl ?_
  refine r_getR (by first | assumption | rfl) f_X3_15 rfl rfl dX3_copyFrom_96 (by first | assumption | rfl) ?_
  refine r_iconst dX3_copyFrom_99 (v := 0) rfl ?_
  refine r_aload_n dX3_copyFrom_100 0 rfl ?_
  refine r_getR (by first | assumption | rfl) f_X3_15 rfl rfl dX3_copyFrom_101 (by first | assumption | rfl) ?_
  refine r_iconst dX3_copyFrom_104 (v := 0) rfl ?_
  refine r_bipush dX3_copyFrom_105 (v := 16) (by decide +kernel) ?_
  refine r_copy (sp := 0) (dp := 0) (n := 16) (by first | assumption | rfl) (by first | assumption | rfl) rfl rfl rfl (by rw [m2]; decide) (by rw [l2]; decide) l_X3_49 rfl (by omega) dX3_copyFrom_107 ?_
  refine r_vret rfl dX3_copyFrom_110 ?_
  refine ⟨rfl, ⟨?_, ?_, fun k hk => ?_⟩, FR.rf.up0.up0.up0.up0.up0.up0.up0.up0.up0.up0.up1'.up2⟩
  · simp only [up1, upd, reduceIte, Nat.reduceEqDiff, ap1, ap2, hab]; exact ⟨a1, a2, a3, a4, a5, a6⟩
  · simp only [up1, upd, reduceIte, Nat.reduceEqDiff, ap1, ap2, hab]; exact ⟨b1, b2, b3, b4⟩
  · simp only [up1, ap3, ap4, ap5, ap6, reduceIte, z3, z4, z5, z6, z7, z8, cpy16 hk]; exact c k hk
