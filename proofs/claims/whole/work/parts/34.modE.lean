/-! the reference: losing, minutes, sums -/
section MODEL
variable {G : mG} {d : Nat} {S : mS} {N : mN} {t k c s m : Int32}
theorem t_X5_loses (hW : WN N) (hR : RP (S 191) N) : Call G (d + 3) M_X5_loses [rv G 190, .int t, .int k] S (fun v u => v = some (losO N t k).1 ∧ RP (u 191) (losO N t k).2 ∧ F1 S u) := by
  refine call_of (lo := [(0, rv G 190), (1, .int t), (2, .int k)]) (by decide +kernel) (Nat.le_of_ble_eq_true rfl) rfl ?_
  unfold losO
  rcases sc_cases hW t k with h | ⟨T, K, h, -, rfl, hT, hT5, eT, rfl, hK, hK16, eK⟩
  · rw [h, if_neg (show ¬ false = true by decide)]
    refine r_aload_n dX5_loses_0 0 rfl ?_
    refine r_iload_n dX5_loses_1 1 rfl ?_
    refine r_iload_n dX5_loses_2 2 rfl ?_
    refine r_callViF (As := [_, _]) c_X5_isScout (by first | assumption | rfl) l_X5_93 rfl rfl rfl (Nat.le_of_ble_eq_true rfl) dX5_loses_3 (t_X5_isScout hW hR) ?_
    refine r_if_ne dX5_loses_6 (tgt := 11) (by decide) (fun h6 => ?_) (fun h6 => ?_)
    · --t
      exact absurd (bI_not h) h6
    · --f
      refine r_iconst dX5_loses_9 (v := -1) rfl ?_
      refine r_iret rfl dX5_loses_10 ?_
      exact ⟨rfl, hR, F1.rf⟩
  · have hTT := hR.2 T hT
    have hv := ((hW.2 T hT).2.2 K hK16).1
    have hWs : WF (setH (N.2 T) K 4) := wf_set (hW.2 T hT) hK (by simp)
    rw [h, if_pos rfl, eT, eK]
    by_cases h34 : (N.2 T).2.1 K = 3 ∨ (N.2 T).2.1 K = 4
    · rw [if_pos h34]
      refine r_aload_n dX5_loses_0 0 rfl ?_
      refine r_iload_n dX5_loses_1 1 rfl ?_
      refine r_iload_n dX5_loses_2 2 rfl ?_
      refine r_callViF (As := [_, _]) c_X5_isScout (by first | assumption | rfl) l_X5_93 rfl rfl rfl (Nat.le_of_ble_eq_true rfl) dX5_loses_3 (t_X5_isScout hW hR) ?_
      refine r_if_ne dX5_loses_6 (tgt := 11) (by decide) (fun h6 => ?_) (fun h6 => ?_)
      · --t
        refine r_aload_n dX5_loses_11 0 rfl ?_
        refine r_iload_n dX5_loses_12 1 rfl ?_
        refine r_iload_n dX5_loses_13 2 rfl ?_
        refine r_iconst dX5_loses_14 (v := 0) rfl ?_
        refine r_callViF (As := [_, _, _]) c_X5_scout (by first | assumption | rfl) l_X5_47 rfl rfl rfl (Nat.le_of_ble_eq_true rfl) dX5_loses_15 (t_X5_scout0 hK16 hT5 hTT) ?_
        refine r_iconst dX5_loses_18 (v := 2) rfl ?_
        refine r_icmp_le dX5_loses_19 (tgt := 25) (by decide) (fun h19 => ?_) (fun h19 => ?_)
        · --t
          exact (by rcases h34 with z | z <;> (rw [z] at h19; exact absurd h19 (by decide)))
        · --f
          refine r_bipush dX5_loses_22 (v := -5) (by decide +kernel) ?_
          refine r_iret rfl dX5_loses_24 ?_
          exact ⟨rfl, hR, F1.rf⟩
      · --f
        exact absurd (bI_yes h) (by rw [h6]; decide)
    · rw [if_neg h34]
      refine r_aload_n dX5_loses_0 0 rfl ?_
      refine r_iload_n dX5_loses_1 1 rfl ?_
      refine r_iload_n dX5_loses_2 2 rfl ?_
      refine r_callViF (As := [_, _]) c_X5_isScout (by first | assumption | rfl) l_X5_93 rfl rfl rfl (Nat.le_of_ble_eq_true rfl) dX5_loses_3 (t_X5_isScout hW hR) ?_
      refine r_if_ne dX5_loses_6 (tgt := 11) (by decide) (fun h6 => ?_) (fun h6 => ?_)
      · --t
        refine r_aload_n dX5_loses_11 0 rfl ?_
        refine r_iload_n dX5_loses_12 1 rfl ?_
        refine r_iload_n dX5_loses_13 2 rfl ?_
        refine r_iconst dX5_loses_14 (v := 0) rfl ?_
        refine r_callViF (As := [_, _, _]) c_X5_scout (by first | assumption | rfl) l_X5_47 rfl rfl rfl (Nat.le_of_ble_eq_true rfl) dX5_loses_15 (t_X5_scout0 hK16 hT5 hTT) ?_
        refine r_iconst dX5_loses_18 (v := 2) rfl ?_
        refine r_icmp_le dX5_loses_19 (tgt := 25) (by decide) (fun h19 => ?_) (fun h19 => ?_)
        · --t
          refine r_aload_n dX5_loses_25 0 rfl ?_
          refine r_iload_n dX5_loses_26 1 rfl ?_
          refine r_iload_n dX5_loses_27 2 rfl ?_
          refine r_iconst dX5_loses_28 (v := 4) rfl ?_
          refine r_iconst dX5_loses_29 (v := 0) rfl ?_
          refine r_callVv (As := [_, _, _, _]) c_X5_layScout (by first | assumption | rfl) l_X5_66 rfl rfl rfl (Nat.le_of_ble_eq_true rfl) dX5_loses_30 (t_X5_layScout hK16 hT5 hTT) (fun u30 q30 => ?_)
          obtain ⟨-, g1, f1⟩ := q30
          refine r_aload_n dX5_loses_33 0 rfl ?_
          refine r_iload_n dX5_loses_34 1 rfl ?_
          refine r_callViF (As := [_]) c_X5_awaited (by first | assumption | rfl) l_X5_70 rfl rfl rfl (Nat.le_of_ble_eq_true rfl) dX5_loses_35 (t_X5_awaited hT5 hWs g1) ?_
          refine r_callSiF (As := [_]) c_X5_size l_X5_96 rfl rfl rfl (Nat.le_of_ble_eq_true rfl) dX5_loses_38 t_X5_size ?_
          refine r_iret rfl dX5_loses_41 ?_
          exact ⟨rfl, hR.tr g1 f1, f1.f1⟩
        · --f
          exact absurd (by rcases hv with z | z | z | z | z <;> first | (rw [z]; decide) | exact absurd (Or.inl z) h34 | exact absurd (Or.inr z) h34) h19
      · --f
        exact absurd (bI_yes h) (by rw [h6]; decide)
theorem addM_g {N : mN} {x : Int32} : (addM N x).1 0 = N.1 0 ∧ (addM N x).1 1 = N.1 1 ∧ (addM N x).1 3 = N.1 3 ∧ cnt (addM N x) = cnt N := ⟨rfl, rfl, rfl, rfl⟩
theorem wn_addM {N : mN} (h : WN N) (x : Int32) : WN (addM N x) := h.glob rfl
theorem RP.tM {S u : mS} {x : Int32} {T : Nat} (h : RP (S 191) (addM (trM N T) x)) (hT : MP (u 191) T (minT (N.2 T) (N.1 0) (N.1 1)).2) (hF : FM T S u) : RP (u 191) (addM (trM N (T + 1)) x) := by
  refine ⟨fun j hj => (hF.2 j (by omega)).trans (h.1 j hj), fun i hi => ?_⟩
  show MP (u 191) i (if i < T + 1 then (minT (N.2 i) (N.1 0) (N.1 1)).2 else N.2 i)
  by_cases e : i = T
  · subst e; rw [if_pos (by omega)]; exact hT
  · have h2 : MP (S 191) i (if i < T then (minT (N.2 i) (N.1 0) (N.1 1)).2 else N.2 i) := h.2 i hi
    have e2 : i < T + 1 ↔ i < T := by omega
    simp only [e2]
    exact h2.off (fun x h1 h2 => hF.2 x (by omega))
theorem lp_X5_waits1 {S0 : mS} {Q : Option Int32 → mS → Prop} {x i y : Int32} (hW : WN N) (hx : ∀ u, RP (u 191) (addM (trM N (cnt N)) y) → F1 S0 u → At G (d + 6) M_X5_waits Q 79 [(0, rv G 190), (1, .int m), (2, .int (x + ansM N (cnt N))), (3, .int i)] [] u) : ∀ n T S, n + T = cnt N → RP (S 191) (addM (trM N T) y) → F1 S0 S → At G (d + 6) M_X5_waits Q 53 [(0, rv G 190), (1, .int m), (2, .int (x + ansM N T)), (3, .int i), (4, .int (nI T))] [] S := by
  obtain ⟨hc, hc5⟩ := hW.cn
  intro n
  induction n with
  | zero =>
    intro T S hT hR hF
    obtain rfl : T = cnt N := by omega
    have e3 : S 191 3 = nI (cnt N) := (hR.1 3 (by decide)).trans hc
    refine r_iload dX5_waits_53 4 rfl ?_
    refine r_aload_n dX5_waits_55 0 rfl ?_
    refine r_getR (b := 191) (by first | assumption | rfl) f_X5_7 rfl rfl dX5_waits_56 rfl ?_
    refine r_iconst dX5_waits_59 (v := 3) rfl ?_
    refine r_iald (j := 3) (by first | assumption | rfl) (by first | assumption | rfl) (show 3 < ln 191 by decide) dX5_waits_60 ?_
    refine r_icmp_ge dX5_waits_61 (tgt := 79) (by decide) (fun h61 => ?_) (fun h61 => ?_)
    · --t
      exact r_sub [0, 1, 2, 3] rfl (hx _ hR hF)
    · --f
      exact absurd (by rw [e3]; exact Int32.le_refl _) h61
  | succ n ih =>
    intro T S hT hR hF
    have hTc : T < cnt N := by omega
    have e3 : S 191 3 = nI (cnt N) := (hR.1 3 (by decide)).trans hc
    have e0 : S 191 0 = N.1 0 := hR.1 0 (by decide)
    have e1 : S 191 1 = N.1 1 := hR.1 1 (by decide)
    have hTT : MP (S 191) T (N.2 T) := by
      have z : MP (S 191) T (if T < T then (minT (N.2 T) (N.1 0) (N.1 1)).2 else N.2 T) := hR.2 T hTc
      rw [if_neg (by omega)] at z
      exact z
    refine r_iload dX5_waits_53 4 rfl ?_
    refine r_aload_n dX5_waits_55 0 rfl ?_
    refine r_getR (b := 191) (by first | assumption | rfl) f_X5_7 rfl rfl dX5_waits_56 rfl ?_
    refine r_iconst dX5_waits_59 (v := 3) rfl ?_
    refine r_iald (j := 3) (by first | assumption | rfl) (by first | assumption | rfl) (show 3 < ln 191 by decide) dX5_waits_60 ?_
    refine r_icmp_ge dX5_waits_61 (tgt := 79) (by decide) (fun h61 => ?_) (fun h61 => ?_)
    · --t
      exact absurd (by rw [e3] at h61; exact h61) (nI_ge hTc (by omega))
    · --f
      refine r_iload_n dX5_waits_64 2 rfl ?_
      refine r_aload_n dX5_waits_65 0 rfl ?_
      refine r_iload dX5_waits_66 4 rfl ?_
      refine r_callVi (As := [_]) c_X5_minute (by first | assumption | rfl) l_X5_99 rfl rfl rfl (Nat.le_of_ble_eq_true rfl) dX5_waits_68 (t_X5_minute (by omega) (hW.2 T hTc) e1 e0 hTT) (fun r68 u68 q68 => ?_)
      obtain ⟨hr, g1, f1⟩ := q68
      cases hr
      refine r_iadd dX5_waits_71 ?_
      refine r_istore_n (lo2 := [(0, _), (1, _), (2, _), (3, _), (4, _)]) dX5_waits_72 rfl (Nat.le_of_ble_eq_true rfl) [1, 2, 0, 3, 4] rfl ?_
      refine r_iinc (lo2 := [(0, _), (1, _), (2, _), (3, _), (4, _)]) dX5_waits_73 4 rfl (w := 1) rfl (Nat.le_of_ble_eq_true rfl) [1, 2, 3, 4, 0] rfl ?_
      refine r_goto dX5_waits_76 (tgt := 53) (by decide) ?_
      rw [nI_1, Int32.add_assoc]
      exact ih (T + 1) _ (by omega) (hR.tM g1 f1) (hF.tr f1.f1)
theorem lp_X5_waits2 {S0 : mS} {Q : Option Int32 → mS → Prop} {mm : Nat} (hm : m = nI mm) (hmm : mm < 1000) : ∀ n i (N : mN) x S, n + i = mm → WN N → RP (S 191) (addM N (nI i)) → F1 S0 S → (∀ u, RP (u 191) (addM (itM n N).2 m) → F1 S0 u → Q (some (x + (itM n N).1)) u) → At G (d + 6) M_X5_waits Q 35 [(0, rv G 190), (1, .int m), (2, .int x), (3, .int (nI i))] [] S := by
  subst hm
  intro n
  induction n with
  | zero =>
    intro i N x S hi hW hR hF hx
    obtain rfl : i = mm := by omega
    refine r_iload_n dX5_waits_35 3 rfl ?_
    refine r_iload_n dX5_waits_36 1 rfl ?_
    refine r_icmp_ge dX5_waits_37 (tgt := 85) (by decide) (fun h37 => ?_) (fun h37 => ?_)
    · --t
      refine r_iload_n dX5_waits_85 2 rfl ?_
      refine r_iret rfl dX5_waits_86 ?_
      have z := hx S hR hF
      rw [show x + (itM 0 N).1 = x from Int32.add_zero x] at z
      exact z
    · --f
      exact absurd (Int32.le_refl _) h37
  | succ n ih =>
    intro i N x S hi hW hR hF hx
    have him : i < mm := by omega
    have hR2 : RP (upd (S 191) 2 (S 191 2 + 1)) (addM N (nI (i + 1))) := by
      have z := hR.gl (i := 2) (by decide) (by decide) (S 191 2 + 1)
      have e : (upd (addM N (nI i)).1 2 (S 191 2 + 1), (addM N (nI i)).2) = addM N (nI (i + 1)) := by
        rw [hR.1 2 (by decide)]
        show (upd (upd N.1 2 (N.1 2 + nI i)) 2 (upd N.1 2 (N.1 2 + nI i) 2 + 1), N.2) = (upd N.1 2 (N.1 2 + nI (i + 1)), N.2)
        rw [upd_upd]
        have : upd N.1 2 (N.1 2 + nI i) 2 + 1 = N.1 2 + nI (i + 1) := by rw [upd, if_pos rfl, Int32.add_assoc, nI_1]
        rw [this]
      rw [← e]; exact z
    refine r_iload_n dX5_waits_35 3 rfl ?_
    refine r_iload_n dX5_waits_36 1 rfl ?_
    refine r_icmp_ge dX5_waits_37 (tgt := 85) (by decide) (fun h37 => ?_) (fun h37 => ?_)
    · --t
      exact absurd h37 (nI_ge him (by omega))
    · --f
      refine r_aload_n dX5_waits_40 0 rfl ?_
      refine r_getR (b := 191) (by first | assumption | rfl) f_X5_7 rfl rfl dX5_waits_41 rfl ?_
      refine r_iconst dX5_waits_44 (v := 2) rfl ?_
      refine r_dup2 dX5_waits_45 rfl rfl ?_
      refine r_iald (j := 2) (by first | assumption | rfl) (by first | assumption | rfl) (show 2 < ln 191 by decide) dX5_waits_46 ?_
      refine r_iconst dX5_waits_47 (v := 1) rfl ?_
      refine r_iadd dX5_waits_48 ?_
      refine r_iast (j := 2) (by first | assumption | rfl) (by first | assumption | rfl) (show 2 < ln 191 by decide) dX5_waits_49 ?_
      refine r_iconst dX5_waits_50 (v := 0) rfl ?_
      refine r_istore (lo2 := [(0, _), (1, _), (2, _), (3, _), (4, _)]) dX5_waits_51 (Nat.le_of_ble_eq_true rfl) [1, 2, 3, 4, 0] rfl ?_
      have key := @lp_X5_waits1 G d N (nI mm) S0 Q x (nI i) (nI (i + 1)) hW (fun u hRu hFu => ?_) (cnt N) 0 (up1 S 191 (upd (S 191) 2 (S 191 2 + 1))) (by omega) (by rw [trM_0, up1_s]; exact hR2) hF.up
      · rw [show x + ansM N 0 = x from Int32.add_zero x] at key
        exact key
      · refine r_iinc (lo2 := [(0, _), (1, _), (2, _), (3, _)]) dX5_waits_79 3 rfl (w := 1) rfl (Nat.le_of_ble_eq_true rfl) [1, 2, 3, 0] rfl ?_
        refine r_goto dX5_waits_82 (tgt := 35) (by decide) ?_
        rw [nI_1]
        refine ih (i + 1) (trM N (cnt N)) _ u (by omega) (wn_trM hW _) hRu hFu (fun w hRw hFw => ?_)
        rw [Int32.add_assoc]
        exact hx w hRw hFw
theorem t_X5_waits (hW : WN N) (hR : RP (S 191) N) : Call G (d + 6) M_X5_waits [rv G 190, .int m] S (fun v u => v = some (pasO N m).1 ∧ RP (u 191) (pasO N m).2 ∧ F1 S u) := by
  refine call_of (lo := [(0, rv G 190), (1, .int m)]) (by decide +kernel) (Nat.le_of_ble_eq_true rfl) rfl ?_
  have em : S 191 2 = N.1 2 := hR.1 2 (by decide)
  unfold pasO
  by_cases h1 : m < 1 ∨ 99 < m
  · rw [if_pos h1]
    refine r_iload_n dX5_waits_0 1 rfl ?_
    refine r_i2l dX5_waits_1 ?_
    refine r_iconst dX5_waits_2 (v := 1) rfl ?_
    refine r_bipush dX5_waits_3 (v := 99) (by decide +kernel) ?_
    refine r_callSiF (As := [_, _, _]) c_X5_in l_X5_35 rfl rfl rfl (Nat.le_of_ble_eq_true rfl) dX5_waits_5 in_i ?_
    refine r_if_ne dX5_waits_8 (tgt := 14) (by decide) (fun h8 => ?_) (fun h8 => ?_)
    · --t
      rw [bI_n0, decide_eq_true_iff] at h8
      exact (h1.elim (Int32.not_lt.mpr h8.1) (Int32.not_lt.mpr h8.2)).elim
    · --f
      refine r_bipush dX5_waits_11 (v := -2) (by decide +kernel) ?_
      refine r_iret rfl dX5_waits_13 ?_
      exact ⟨rfl, hR, F1.rf⟩
  · rw [if_neg h1]
    have hin : 1 ≤ m ∧ m ≤ 99 := ⟨Int32.not_lt.mp (fun z => h1 (Or.inl z)), Int32.not_lt.mp (fun z => h1 (Or.inr z))⟩
    obtain ⟨mm, hmm, rfl⟩ : ∃ j, j < 100 ∧ m = nI j := by
      have a0 : ¬ m < 0 := by
        intro z
        have a1 := hin.1
        rw [Int32.lt_iff_toInt_lt] at z
        rw [Int32.le_iff_toInt_le, i1] at a1
        have e0 : (0 : Int32).toInt = 0 := by decide
        omega
      obtain ⟨j, hj, rfl⟩ := nI_of a0
      have a2 := hin.2
      rw [show (99 : Int32) = nI 99 from rfl, nI_leI hj (by omega)] at a2
      exact ⟨j, by omega, rfl⟩
    have hR0 : RP (S 191) (addM N (nI 0)) := by
      have e : addM N (nI 0) = N := by
        unfold addM
        have : upd N.1 2 (N.1 2 + nI 0) = N.1 := by
          funext j
          simp only [upd]; split
          · rename_i h; rw [h, nI_0, Int32.add_zero]
          · rfl
        rw [this]
      rw [e]; exact hR
    by_cases h9 : 9999 < N.1 2 + nI mm
    · rw [if_pos h9]
      refine r_iload_n dX5_waits_0 1 rfl ?_
      refine r_i2l dX5_waits_1 ?_
      refine r_iconst dX5_waits_2 (v := 1) rfl ?_
      refine r_bipush dX5_waits_3 (v := 99) (by decide +kernel) ?_
      refine r_callSiF (As := [_, _, _]) c_X5_in l_X5_35 rfl rfl rfl (Nat.le_of_ble_eq_true rfl) dX5_waits_5 in_i ?_
      refine r_if_ne dX5_waits_8 (tgt := 14) (by decide) (fun h8 => ?_) (fun h8 => ?_)
      · --t
        refine r_aload_n dX5_waits_14 0 rfl ?_
        refine r_getR (b := 191) (by first | assumption | rfl) f_X5_7 rfl rfl dX5_waits_15 rfl ?_
        refine r_iconst dX5_waits_18 (v := 2) rfl ?_
        refine r_iald (j := 2) (by first | assumption | rfl) (by first | assumption | rfl) (show 2 < ln 191 by decide) dX5_waits_19 ?_
        refine r_iload_n dX5_waits_20 1 rfl ?_
        refine r_iadd dX5_waits_21 ?_
        refine r_sipush dX5_waits_22 (v := 9999) (by decide +kernel) ?_
        refine r_icmp_le dX5_waits_25 (tgt := 31) (by decide) (fun h25 => ?_) (fun h25 => ?_)
        · --t
          exact absurd (by rw [← em] at h9; exact h9) (Int32.not_lt.mpr h25)
        · --f
          refine r_bipush dX5_waits_28 (v := -5) (by decide +kernel) ?_
          refine r_iret rfl dX5_waits_30 ?_
          exact ⟨rfl, hR, F1.rf⟩
      · --f
        exact absurd hin (by rw [bI_0, decide_eq_false_iff_not] at h8; exact h8)
    · rw [if_neg h9, nI_clamp (n := mm) (by omega)]
      refine r_iload_n dX5_waits_0 1 rfl ?_
      refine r_i2l dX5_waits_1 ?_
      refine r_iconst dX5_waits_2 (v := 1) rfl ?_
      refine r_bipush dX5_waits_3 (v := 99) (by decide +kernel) ?_
      refine r_callSiF (As := [_, _, _]) c_X5_in l_X5_35 rfl rfl rfl (Nat.le_of_ble_eq_true rfl) dX5_waits_5 in_i ?_
      refine r_if_ne dX5_waits_8 (tgt := 14) (by decide) (fun h8 => ?_) (fun h8 => ?_)
      · --t
        refine r_aload_n dX5_waits_14 0 rfl ?_
        refine r_getR (b := 191) (by first | assumption | rfl) f_X5_7 rfl rfl dX5_waits_15 rfl ?_
        refine r_iconst dX5_waits_18 (v := 2) rfl ?_
        refine r_iald (j := 2) (by first | assumption | rfl) (by first | assumption | rfl) (show 2 < ln 191 by decide) dX5_waits_19 ?_
        refine r_iload_n dX5_waits_20 1 rfl ?_
        refine r_iadd dX5_waits_21 ?_
        refine r_sipush dX5_waits_22 (v := 9999) (by decide +kernel) ?_
        refine r_icmp_le dX5_waits_25 (tgt := 31) (by decide) (fun h25 => ?_) (fun h25 => ?_)
        · --t
          refine r_iconst dX5_waits_31 (v := 0) rfl ?_
          refine r_istore_n (lo2 := [(0, _), (1, _), (2, _)]) dX5_waits_32 rfl (Nat.le_of_ble_eq_true rfl) [1, 2, 0] rfl ?_
          refine r_iconst dX5_waits_33 (v := 0) rfl ?_
          refine r_istore_n (lo2 := [(0, _), (1, _), (2, _), (3, _)]) dX5_waits_34 rfl (Nat.le_of_ble_eq_true rfl) [1, 2, 3, 0] rfl ?_
          refine lp_X5_waits2 (S0 := S) (mm := mm) rfl (by omega) mm 0 N 0 S (by omega) hW hR0 F1.rf (fun u hRu hFu => ⟨?_, hRu, hFu⟩)
          rw [show (0 : Int32) + (itM mm N).1 = (itM mm N).1 from Int32.zero_add _]
        · --f
          exact absurd (by rw [em] at h25; exact Int32.not_le.mp h25) h9
      · --f
        exact absurd hin (by rw [bI_0, decide_eq_false_iff_not] at h8; exact h8)
theorem lp_X5_sum {Q : Option Int32 → mS → Prop} {w : Int32} {f : mT → Int32} (hW : WN N) (hR : RP (S 191) N) (hf : (w = 2 ∧ f = fun T => T.1 3) ∨ (w = 3 ∧ f = fun T => szF (hm T 3) 16) ∨ (w = 4 ∧ f = fun T => szF (hm T 4) 16)) (hx : Q (some (sumN f N (cnt N))) S) : ∀ n T, n + T = cnt N → At G (d + 2) M_X5_sum Q 4 [(0, rv G 190), (1, .int w), (2, .int (sumN f N T)), (3, .int (nI T))] [] S := by
  obtain ⟨hc, hc5⟩ := hW.cn
  have e3 : S 191 3 = nI (cnt N) := (hR.1 3 (by decide)).trans hc
  intro n
  induction n with
  | zero =>
    intro T hT
    obtain rfl : T = cnt N := by omega
    refine r_iload_n dX5_sum_4 3 rfl ?_
    refine r_aload_n dX5_sum_5 0 rfl ?_
    refine r_getR (b := 191) (by first | assumption | rfl) f_X5_7 rfl rfl dX5_sum_6 rfl ?_
    refine r_iconst dX5_sum_9 (v := 3) rfl ?_
    refine r_iald (j := 3) (by first | assumption | rfl) (by first | assumption | rfl) (show 3 < ln 191 by decide) dX5_sum_10 ?_
    refine r_icmp_ge dX5_sum_11 (tgt := 46) (by decide) (fun h11 => ?_) (fun h11 => ?_)
    · --t
      refine r_iload_n dX5_sum_46 2 rfl ?_
      refine r_iret rfl dX5_sum_47 ?_
      exact hx
    · --f
      exact absurd (by rw [e3]; exact Int32.le_refl _) h11
  | succ n ih =>
    intro T hT
    have hTc : T < cnt N := by omega
    have hT5 : T < 5 := by omega
    have hTT := hR.2 T hTc
    have hWT := hW.2 T hTc
    refine r_iload_n dX5_sum_4 3 rfl ?_
    refine r_aload_n dX5_sum_5 0 rfl ?_
    refine r_getR (b := 191) (by first | assumption | rfl) f_X5_7 rfl rfl dX5_sum_6 rfl ?_
    refine r_iconst dX5_sum_9 (v := 3) rfl ?_
    refine r_iald (j := 3) (by first | assumption | rfl) (by first | assumption | rfl) (show 3 < ln 191 by decide) dX5_sum_10 ?_
    refine r_icmp_ge dX5_sum_11 (tgt := 46) (by decide) (fun h11 => ?_) (fun h11 => ?_)
    · --t
      exact absurd (by rw [e3] at h11; exact h11) (nI_ge hTc (by omega))
    · --f
      refine r_iload_n dX5_sum_14 2 rfl ?_
      refine r_iload_n dX5_sum_15 1 rfl ?_
      refine r_iconst dX5_sum_16 (v := 2) rfl ?_
      refine r_icmp_ne dX5_sum_17 (tgt := 29) (by decide) (fun h17 => ?_) (fun h17 => ?_)
      · --t
        refine r_aload_n dX5_sum_29 0 rfl ?_
        refine r_iload_n dX5_sum_30 3 rfl ?_
        refine r_iload_n dX5_sum_31 1 rfl ?_
        refine r_callViF (As := [_, _]) c_X5_those (by first | assumption | rfl) l_X5_73 rfl rfl rfl (Nat.le_of_ble_eq_true rfl) dX5_sum_32 (t_X5_those hT5 hWT hTT) ?_
        refine r_callSiF (As := [_]) c_X5_size l_X5_96 rfl rfl rfl (Nat.le_of_ble_eq_true rfl) dX5_sum_35 t_X5_size ?_
        refine r_iadd dX5_sum_38 ?_
        refine r_istore_n (lo2 := [(0, _), (1, _), (2, _), (3, _)]) dX5_sum_39 rfl (Nat.le_of_ble_eq_true rfl) [1, 2, 0, 3] rfl ?_
        refine r_iinc (lo2 := [(0, _), (1, _), (2, _), (3, _)]) dX5_sum_40 3 rfl (w := 1) rfl (Nat.le_of_ble_eq_true rfl) [1, 2, 3, 0] rfl ?_
        refine r_goto dX5_sum_43 (tgt := 4) (by decide) ?_
        rw [nI_1]
        rcases hf with ⟨rfl, rfl⟩ | ⟨rfl, rfl⟩ | ⟨rfl, rfl⟩
        · first
            | exact absurd rfl h17
            | exact ih (T + 1) (by omega)
        · first
            | exact absurd h17 (by decide)
            | (rw [thM_hm hWT (by decide)]; exact ih (T + 1) (by omega))
        · first
            | exact absurd h17 (by decide)
            | (rw [thM_hm hWT (by decide)]; exact ih (T + 1) (by omega))
      · --f
        refine r_aload_n dX5_sum_20 0 rfl ?_
        refine r_iload_n dX5_sum_21 3 rfl ?_
        refine r_iconst dX5_sum_22 (v := 3) rfl ?_
        refine r_callViF (As := [_, _]) c_X5_its (by first | assumption | rfl) l_X5_43 rfl rfl rfl (Nat.le_of_ble_eq_true rfl) dX5_sum_23 (t_X5_its (W := 3) rfl (by decide) hT5 hTT) ?_
        refine r_goto dX5_sum_26 (tgt := 38) (by decide) ?_
        refine r_iadd dX5_sum_38 ?_
        refine r_istore_n (lo2 := [(0, _), (1, _), (2, _), (3, _)]) dX5_sum_39 rfl (Nat.le_of_ble_eq_true rfl) [1, 2, 0, 3] rfl ?_
        refine r_iinc (lo2 := [(0, _), (1, _), (2, _), (3, _)]) dX5_sum_40 3 rfl (w := 1) rfl (Nat.le_of_ble_eq_true rfl) [1, 2, 3, 0] rfl ?_
        refine r_goto dX5_sum_43 (tgt := 4) (by decide) ?_
        rw [nI_1]
        rcases hf with ⟨rfl, rfl⟩ | ⟨rfl, rfl⟩ | ⟨rfl, rfl⟩
        · first
            | exact absurd rfl h17
            | exact ih (T + 1) (by omega)
        · first
            | exact absurd h17 (by decide)
            | (rw [thM_hm hWT (by decide)]; exact ih (T + 1) (by omega))
        · first
            | exact absurd h17 (by decide)
            | (rw [thM_hm hWT (by decide)]; exact ih (T + 1) (by omega))
theorem t_X5_sum {w : Int32} {f : mT → Int32} (hW : WN N) (hR : RP (S 191) N) (hf : (w = 2 ∧ f = fun T => T.1 3) ∨ (w = 3 ∧ f = fun T => szF (hm T 3) 16) ∨ (w = 4 ∧ f = fun T => szF (hm T 4) 16)) : Call G (d + 2) M_X5_sum [rv G 190, .int w] S (fun v u => v = some (sumN f N (cnt N)) ∧ u = S) := by
  refine call_of (lo := [(0, rv G 190), (1, .int w)]) (by decide +kernel) (Nat.le_of_ble_eq_true rfl) rfl ?_
  refine r_iconst dX5_sum_0 (v := 0) rfl ?_
  refine r_istore_n (lo2 := [(0, _), (1, _), (2, _)]) dX5_sum_1 rfl (Nat.le_of_ble_eq_true rfl) [1, 2, 0] rfl ?_
  refine r_iconst dX5_sum_2 (v := 0) rfl ?_
  refine r_istore_n (lo2 := [(0, _), (1, _), (2, _), (3, _)]) dX5_sum_3 rfl (Nat.le_of_ble_eq_true rfl) [1, 2, 3, 0] rfl ?_
  exact lp_X5_sum hW hR hf ⟨rfl, rfl⟩ (cnt N) 0 (by omega)
end MODEL
