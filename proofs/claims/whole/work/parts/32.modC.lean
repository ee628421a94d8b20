/-! the reference: the gate up to three times, a minute -/
theorem beg_aw {S : mS} {t : Nat} {S0 : mS} (h : FM t S0 S) : S 191 1 = S0 191 1 ∧ S 191 0 = S0 191 0 := ⟨h.2 1 (by omega), h.2 0 (by omega)⟩
/-- minute's first loop, the scouts below k are through -/
def mw1 (T : mT) (k : Nat) : mT := (T.1, fun j => if j < k ∧ T.2.1 j = 3 ∧ T.2.2.1 j - 1 ≤ 0 then 0 else T.2.1 j, fun j => if j < k ∧ T.2.1 j = 3 then (if T.2.2.1 j - 1 ≤ 0 then 0 else T.2.2.1 j - 1) else T.2.2.1 j, fun j => if j < k ∧ T.2.1 j = 3 ∧ T.2.2.1 j - 1 ≤ 0 ∧ ¬ j < tsz T then 0 else T.2.2.2 j)
/-- its second loop -/
def mw2 (T : mT) (pat : Int32) (k : Nat) : mT := (fun j => if j = 5 then T.1 5 ||| mkm (fun k => decide (T.2.1 k = 4) && decide (pat < T.2.2.1 k + 1)) k else T.1 j, (mw1 T 16).2.1, fun j => if j < k ∧ T.2.1 j = 4 then T.2.2.1 j + 1 else (mw1 T 16).2.2.1 j, (mw1 T 16).2.2.2)
theorem mw1_0 {T : mT} : TE T (mw1 T 0) := by refine ⟨fun _ _ => rfl, fun j _ => ⟨?_, ?_, ?_⟩⟩ <;> simp [mw1]
theorem mw1_n {T : mT} {k : Nat} (h : ¬ T.2.1 k = 3) : TE (mw1 T k) (mw1 T (k + 1)) := by
  refine ⟨fun _ _ => rfl, fun i _ => ⟨?_, ?_, ?_⟩⟩
  all_goals
    simp only [mw1]
    by_cases e : i = k
    · subst e; simp [h]
    · have : i < k + 1 ↔ i < k := by omega
      simp [this]
theorem mw1_g {T : mT} {k : Nat} (h : T.2.1 k = 3) (h2 : ¬ T.2.2.1 k - 1 ≤ 0) : TE ((mw1 T k).1, upd (mw1 T k).2.1 k 3, upd (mw1 T k).2.2.1 k (T.2.2.1 k - 1), (mw1 T k).2.2.2) (mw1 T (k + 1)) := by
  refine ⟨fun _ _ => rfl, fun i _ => ⟨?_, ?_, ?_⟩⟩
  all_goals
    simp only [mw1, upd]
    by_cases e : i = k
    · subst e; simp [h, h2]
    · have : i < k + 1 ↔ i < k := by omega
      simp [e, this]
theorem mw1_h {T : mT} {k : Nat} (h : T.2.1 k = 3) (h2 : T.2.2.1 k - 1 ≤ 0) (h3 : k < tsz T) {x y : Int32} : TE ((mw1 T k).1, upd (upd (mw1 T k).2.1 k x) k 0, upd (upd (mw1 T k).2.2.1 k y) k 0, (mw1 T k).2.2.2) (mw1 T (k + 1)) := by
  refine ⟨fun _ _ => rfl, fun i _ => ⟨?_, ?_, ?_⟩⟩
  all_goals
    simp only [mw1, upd]
    by_cases e : i = k
    · subst e
      have : ¬ tsz T ≤ i := by omega
      simp [h, h2, this]
    · have : i < k + 1 ↔ i < k := by omega
      simp [e, this]
theorem mw1_c {T : mT} {k : Nat} (h : T.2.1 k = 3) (h2 : T.2.2.1 k - 1 ≤ 0) (h3 : ¬ k < tsz T) {x y : Int32} : TE ((mw1 T k).1, upd (upd (upd (mw1 T k).2.1 k x) k 0) k 0, upd (upd (upd (mw1 T k).2.2.1 k y) k 0) k 0, upd (mw1 T k).2.2.2 k 0) (mw1 T (k + 1)) := by
  refine ⟨fun _ _ => rfl, fun i _ => ⟨?_, ?_, ?_⟩⟩
  all_goals
    simp only [mw1, upd]
    by_cases e : i = k
    · subst e
      have : tsz T ≤ i := by omega
      simp [h, h2, this]
    · have : i < k + 1 ↔ i < k := by omega
      simp [e, this]
theorem mw2_0 {T : mT} {pat : Int32} : TE (mw1 T 16) (mw2 T pat 0) := by
  refine ⟨fun j _ => ?_, fun j _ => ⟨rfl, ?_, rfl⟩⟩
  · simp only [mw1, mw2, mkm, Int32.or_zero]; split
    · rename_i h; rw [h]
    · rfl
  · simp [mw2]
theorem mw2_n {T : mT} {pat : Int32} {k : Nat} (h : ¬ T.2.1 k = 4) : TE (mw2 T pat k) (mw2 T pat (k + 1)) := by
  refine ⟨fun j _ => ?_, fun i _ => ⟨rfl, ?_, rfl⟩⟩
  · simp [mw2, mkm, h]
  · simp only [mw2]
    by_cases e : i = k
    · subst e; simp [h]
    · have : i < k + 1 ↔ i < k := by omega
      simp [this]
theorem mw2_y {T : mT} {pat x : Int32} {k : Nat} (h : T.2.1 k = 4) (hx : x = if pat < T.2.2.1 k + 1 then (1 : Int32) <<< (nI k &&& 31) else 0) : TE (upd (mw2 T pat k).1 5 ((mw2 T pat k).1 5 ||| x), upd (mw2 T pat k).2.1 k 4, upd (mw2 T pat k).2.2.1 k (T.2.2.1 k + 1), (mw2 T pat k).2.2.2) (mw2 T pat (k + 1)) := by
  have h3 : ¬ T.2.1 k = 3 := by rw [h]; decide
  refine ⟨fun j _ => ?_, fun i _ => ⟨?_, ?_, rfl⟩⟩
  · simp only [mw2, upd]
    by_cases e : j = 5
    · subst e
      rw [hx]
      by_cases h2 : pat < T.2.2.1 k + 1
      · simp [mkm, h, h2, Int32.or_assoc]
      · simp [mkm, h2]
    · simp [e]
  · simp only [mw2, mw1, upd]
    by_cases e : i = k
    · subst e; simp [h]
    · simp [e]
  · simp only [mw2, upd]
    by_cases e : i = k
    · subst e; simp [h]
    · have : i < k + 1 ↔ i < k := by omega
      simp [e, this]
theorem mw2_e {T : mT} {pat : Int32} (hW : WF T) : TE (mw2 T pat (tsz T)) (wlkT T pat 16) := by
  obtain ⟨s, es, e2, e3, e4⟩ := hW.sz
  have n4 : ∀ k, k < 16 → ¬ k < s → ¬ T.2.1 k = 4 := fun k hk hs z => by
    have := (hW.2.2 k hk).2.1 (by omega)
    rw [z] at this
    exact absurd this (by decide)
  have em : mkm (fun k => decide (T.2.1 k = 4) && decide (pat < T.2.2.1 k + 1)) s = mkm (fun k => decide (T.2.1 k = 4) && decide (pat < T.2.2.1 k + 1)) 16 := by
    refine b_ext fun i hi => ?_
    rw [bt_mkm _ s (by omega) i hi, bt_mkm _ 16 (by omega) i hi]
    by_cases e : i < s
    · have : i < 16 := by omega
      simp [e, this]
    · by_cases e5 : i < 16
      · simp [e, n4 i e5 e]
      · simp [e, e5]
  refine ⟨fun j _ => ?_, fun i hi => ⟨?_, ?_, ?_⟩⟩
  · simp only [mw2, wlkT, es, em]
  · simp only [mw2, mw1, wlkT, hi, true_and]
  · simp only [mw2, mw1, wlkT, hi, true_and, es, reduceIte]
    by_cases h3 : T.2.1 i = 3
    · have h4 : ¬ T.2.1 i = 4 := by rw [h3]; decide
      simp [h3]
    · by_cases h4 : T.2.1 i = 4
      · have hs : i < s := Nat.not_le.mp (fun z => n4 i hi (by omega) h4)
        simp [h4, hs]
      · simp [h3, h4]
  · simp only [mw2, mw1, wlkT, hi, true_and]
section MODEL
variable {G : mG} {d : Nat} {S0 : mS} {t : Nat} {away pat : Int32} {Q : Option Int32 → mS → Prop}
theorem lp_X5_opens (ht : t < 5) (ha0 : S0 191 1 = away) : ∀ n i S (T : mT), n + i = 3 → MP (S 191) t T → WF T → FM t S0 S → (∀ u, MP (u 191) t (opnN n T away).2 → FM t S0 u → Q (some (nI i + (opnN n T away).1)) u) → At G (d + 4) M_X5_opens Q 2 [(0, rv G 190), (1, .int (nI t)), (2, .int (nI i))] [] S := by
  intro n
  induction n with
  | zero =>
    intro i S T hi hT hW hF hQ
    obtain rfl : i = 3 := by omega
    refine r_iload_n dX5_opens_2 2 rfl ?_
    refine r_iconst dX5_opens_3 (v := 3) rfl ?_
    refine r_icmp_ge dX5_opens_4 (tgt := 21) (by decide) (fun h4 => ?_) (fun h4 => ?_)
    · --t
      refine r_iload_n dX5_opens_21 2 rfl ?_
      refine r_iret rfl dX5_opens_22 ?_
      have h1 := hQ _ hT hF
      rw [show nI 3 + (opnN 0 T away).1 = nI 3 by show nI 3 + 0 = nI 3; decide] at h1
      exact h1
    · --f
      exact absurd (show (3 : Int32) ≤ nI 3 by decide) h4
  | succ n ih =>
    intro i S T hi hT hW hF hQ
    have hi3 : i < 3 := by omega
    have ha : S 191 1 = away := (beg_aw hF).1.trans ha0
    have hoo := @t_X5_opensOnce G d t T away S ht hW ha hT
    cases hc : canO T
    · rw [hc] at hoo
      have stop : ∀ u, MP (u 191) t T → FM t S0 u → Q (some (nI i)) u := fun u hu hFu => by
        have h1 := hQ u (by rw [opn_f (by rw [hc]; decide)]; exact hu) hFu
        rw [opn_f (by rw [hc]; decide), show nI i + (0 : Int32) = nI i from Int32.add_zero _] at h1
        exact h1
      refine r_iload_n dX5_opens_2 2 rfl ?_
      refine r_iconst dX5_opens_3 (v := 3) rfl ?_
      refine r_icmp_ge dX5_opens_4 (tgt := 21) (by decide) (fun h4 => ?_) (fun h4 => ?_)
      · --t
        exact absurd h4 (nI_ge (b := 3) hi3 (by decide))
      · --f
        refine r_aload_n dX5_opens_7 0 rfl ?_
        refine r_iload_n dX5_opens_8 1 rfl ?_
        refine r_callVi (As := [_]) c_X5_opensOnce (by first | assumption | rfl) l_X5_84 rfl rfl rfl (Nat.le_of_ble_eq_true rfl) dX5_opens_9 hoo (fun r9 u9 q9 => ?_)
        obtain ⟨hr, g1, f1⟩ := q9
        cases hr
        refine r_if_eq dX5_opens_12 (tgt := 21) (by decide) (fun h12 => ?_) (fun h12 => ?_)
        · --t
          refine r_iload_n dX5_opens_21 2 rfl ?_
          refine r_iret rfl dX5_opens_22 ?_
          exact stop _ g1 (hF.tr f1)
        · --f
          exact absurd rfl h12
    · rw [hc] at hoo
      have e1 : opnN (n + 1) T away = ((opnN n (begT T away) away).1 + 1, (opnN n (begT T away) away).2) := by rw [opnN, if_pos hc]
      refine r_iload_n dX5_opens_2 2 rfl ?_
      refine r_iconst dX5_opens_3 (v := 3) rfl ?_
      refine r_icmp_ge dX5_opens_4 (tgt := 21) (by decide) (fun h4 => ?_) (fun h4 => ?_)
      · --t
        exact absurd h4 (nI_ge (b := 3) hi3 (by decide))
      · --f
        refine r_aload_n dX5_opens_7 0 rfl ?_
        refine r_iload_n dX5_opens_8 1 rfl ?_
        refine r_callVi (As := [_]) c_X5_opensOnce (by first | assumption | rfl) l_X5_84 rfl rfl rfl (Nat.le_of_ble_eq_true rfl) dX5_opens_9 hoo (fun r9 u9 q9 => ?_)
        obtain ⟨hr, g1, f1⟩ := q9
        cases hr
        refine r_if_eq dX5_opens_12 (tgt := 21) (by decide) (fun h12 => ?_) (fun h12 => ?_)
        · --t
          exact absurd h12 (by decide)
        · --f
          refine r_iinc (lo2 := [(0, _), (1, _), (2, _)]) dX5_opens_15 2 rfl (w := 1) rfl (Nat.le_of_ble_eq_true rfl) [1, 2, 0] rfl ?_
          refine r_goto dX5_opens_18 (tgt := 2) (by decide) ?_
          rw [nI_1]
          refine ih (i + 1) _ (begT T away) (by omega) g1 (wf_beg hW away) (hF.tr f1) (fun u hTu hFu => ?_)
          have h1 := hQ u (by rw [e1]; exact hTu) hFu
          rw [e1] at h1
          rw [show nI i + ((opnN n (begT T away) away).1 + 1) = nI (i + 1) + (opnN n (begT T away) away).1 by rw [← nI_1, Int32.add_assoc, Int32.add_comm 1]] at h1
          exact h1
theorem t_X5_opens {S : mS} {T : mT} (ht : t < 5) (hW : WF T) (ha : S 191 1 = away) (hT : MP (S 191) t T) : Call G (d + 4) M_X5_opens [rv G 190, .int (nI t)] S (fun v u => v = some (opnN 3 T away).1 ∧ MP (u 191) t (opnN 3 T away).2 ∧ FM t S u) := by
  refine call_of (lo := [(0, rv G 190), (1, .int (nI t))]) (by decide +kernel) (Nat.le_of_ble_eq_true rfl) rfl ?_
  refine r_iconst dX5_opens_0 (v := 0) rfl ?_
  refine r_istore_n (lo2 := [(0, _), (1, _), (2, _)]) dX5_opens_1 rfl (Nat.le_of_ble_eq_true rfl) [1, 2, 0] rfl ?_
  refine lp_X5_opens ht ha 3 0 S T (by omega) hT hW FM.rf (fun u hTu hFu => ⟨?_, hTu, hFu⟩)
  rw [show nI 0 + (opnN 3 T away).1 = (opnN 3 T away).1 from Int32.zero_add _]
variable {T : mT}
theorem lp_X5_min1 (ht : t < 5) (hW : WF T) (hx : ∀ u, MP (u 191) t (mw1 T 16) → FM t S0 u → At G (d + 5) M_X5_minute Q 75 [(0, rv G 190), (1, .int (nI t))] [] u) : ∀ n k S, n + k = 16 → MP (S 191) t (mw1 T k) → FM t S0 S → At G (d + 5) M_X5_minute Q 2 [(0, rv G 190), (1, .int (nI t)), (2, .int (nI k))] [] S := by
  obtain ⟨s, es, e2, e3, e4⟩ := hW.sz
  intro n
  induction n with
  | zero =>
    intro k S hk hT hF
    obtain rfl : k = 16 := by omega
    refine r_iload_n dX5_minute_2 2 rfl ?_
    refine r_bipush dX5_minute_3 (v := 16) (by decide +kernel) ?_
    refine r_icmp_ge dX5_minute_5 (tgt := 75) (by decide) (fun h5 => ?_) (fun h5 => ?_)
    · --t
      exact r_sub [0, 1] rfl (hx _ hT hF)
    · --f
      exact absurd (show (16 : Int32) ≤ nI 16 by decide) h5
  | succ n ih =>
    intro k S hk hT hF
    have hk16 : k < 16 := by omega
    have eh : (mw1 T k).2.1 k = T.2.1 k := by simp [mw1]
    have ef : (mw1 T k).2.2.1 k = T.2.2.1 k := by simp [mw1]
    have e60 : nI k < T.1 0 ↔ k < tsz T := by rw [e2, es, nI_ltI (by omega) (by omega)]
    refine r_iload_n dX5_minute_2 2 rfl ?_
    refine r_bipush dX5_minute_3 (v := 16) (by decide +kernel) ?_
    refine r_icmp_ge dX5_minute_5 (tgt := 75) (by decide) (fun h5 => ?_) (fun h5 => ?_)
    · --t
      exact absurd h5 (c16 hk16)
    · --f
      refine r_aload_n dX5_minute_8 0 rfl ?_
      refine r_iload_n dX5_minute_9 1 rfl ?_
      refine r_iload_n dX5_minute_10 2 rfl ?_
      refine r_iconst dX5_minute_11 (v := 0) rfl ?_
      refine r_callViF (As := [_, _, _]) c_X5_scout (by first | assumption | rfl) l_X5_47 rfl rfl rfl (Nat.le_of_ble_eq_true rfl) dX5_minute_12 (t_X5_scout0 hk16 ht hT) ?_
      refine r_iconst dX5_minute_15 (v := 3) rfl ?_
      refine r_icmp_ne dX5_minute_16 (tgt := 69) (by decide) (fun h16 => ?_) (fun h16 => ?_)
      · --t
        refine r_iinc (lo2 := [(0, _), (1, _), (2, _)]) dX5_minute_69 2 rfl (w := 1) rfl (Nat.le_of_ble_eq_true rfl) [1, 2, 0] rfl ?_
        refine r_goto dX5_minute_72 (tgt := 2) (by decide) ?_
        rw [nI_1]
        rw [eh] at h16
        first
          | exact ih (k + 1) _ (by omega) (hT.te (mw1_n h16)) hF
          | (dsimp only at h42; rw [z1] at h42
             exact ih (k + 1) _ (by omega) (g1.te (mw1_g h16 (Int32.not_le.mpr h42))) (hF.tr f1))
          | (dsimp only at h42; rw [z1] at h42
             replace h60 := e60.mp h60
             exact ih (k + 1) _ (by omega) (g2.te (mw1_h h16 (Int32.not_lt.mp h42) h60)) ((hF.tr f1).tr f2))
          | (dsimp only at h42; rw [z1] at h42
             replace h60 := fun z => h60 (e60.mpr z)
             exact ih (k + 1) _ (by omega) (g3.te (mw1_c h16 (Int32.not_lt.mp h42) h60)) (((hF.tr f1).tr f2).tr f3))
      · --f
        refine r_aload_n dX5_minute_19 0 rfl ?_
        refine r_iload_n dX5_minute_20 1 rfl ?_
        refine r_iload_n dX5_minute_21 2 rfl ?_
        refine r_iconst dX5_minute_22 (v := 3) rfl ?_
        refine r_aload_n dX5_minute_23 0 rfl ?_
        refine r_iload_n dX5_minute_24 1 rfl ?_
        refine r_iload_n dX5_minute_25 2 rfl ?_
        refine r_iconst dX5_minute_26 (v := 1) rfl ?_
        refine r_callViF (As := [_, _, _]) c_X5_scout (by first | assumption | rfl) l_X5_47 rfl rfl rfl (Nat.le_of_ble_eq_true rfl) dX5_minute_27 (t_X5_scout1 hk16 ht hT) ?_
        refine r_iconst dX5_minute_30 (v := 1) rfl ?_
        refine r_isub dX5_minute_31 ?_
        refine r_callVv (As := [_, _, _, _]) c_X5_layScout (by first | assumption | rfl) l_X5_66 rfl rfl rfl (Nat.le_of_ble_eq_true rfl) dX5_minute_32 (t_X5_layScout hk16 ht hT) (fun u32 q32 => ?_)
        obtain ⟨-, g1, f1⟩ := q32
        rw [ef] at g1
        have z1 : upd (mw1 T k).2.2.1 k (T.2.2.1 k - 1) k = T.2.2.1 k - 1 := by rw [upd, if_pos rfl]
        refine r_aload_n dX5_minute_35 0 rfl ?_
        refine r_iload_n dX5_minute_36 1 rfl ?_
        refine r_iload_n dX5_minute_37 2 rfl ?_
        refine r_iconst dX5_minute_38 (v := 1) rfl ?_
        refine r_callViF (As := [_, _, _]) c_X5_scout (by first | assumption | rfl) l_X5_47 rfl rfl rfl (Nat.le_of_ble_eq_true rfl) dX5_minute_39 (t_X5_scout1 hk16 ht g1) ?_
        refine r_if_gt dX5_minute_42 (tgt := 69) (by decide) (fun h42 => ?_) (fun h42 => ?_)
        · --t
          refine r_iinc (lo2 := [(0, _), (1, _), (2, _)]) dX5_minute_69 2 rfl (w := 1) rfl (Nat.le_of_ble_eq_true rfl) [1, 2, 0] rfl ?_
          refine r_goto dX5_minute_72 (tgt := 2) (by decide) ?_
          rw [nI_1]
          rw [eh] at h16
          first
            | exact ih (k + 1) _ (by omega) (hT.te (mw1_n h16)) hF
            | (dsimp only at h42; rw [z1] at h42
               exact ih (k + 1) _ (by omega) (g1.te (mw1_g h16 (Int32.not_le.mpr h42))) (hF.tr f1))
            | (dsimp only at h42; rw [z1] at h42
               replace h60 := e60.mp h60
               exact ih (k + 1) _ (by omega) (g2.te (mw1_h h16 (Int32.not_lt.mp h42) h60)) ((hF.tr f1).tr f2))
            | (dsimp only at h42; rw [z1] at h42
               replace h60 := fun z => h60 (e60.mpr z)
               exact ih (k + 1) _ (by omega) (g3.te (mw1_c h16 (Int32.not_lt.mp h42) h60)) (((hF.tr f1).tr f2).tr f3))
        · --f
          refine r_aload_n dX5_minute_45 0 rfl ?_
          refine r_iload_n dX5_minute_46 1 rfl ?_
          refine r_iload_n dX5_minute_47 2 rfl ?_
          refine r_iconst dX5_minute_48 (v := 0) rfl ?_
          refine r_iconst dX5_minute_49 (v := 0) rfl ?_
          refine r_callVv (As := [_, _, _, _]) c_X5_layScout (by first | assumption | rfl) l_X5_66 rfl rfl rfl (Nat.le_of_ble_eq_true rfl) dX5_minute_50 (t_X5_layScout hk16 ht g1) (fun u50 q50 => ?_)
          obtain ⟨-, g2, f2⟩ := q50
          refine r_iload_n dX5_minute_53 2 rfl ?_
          refine r_aload_n dX5_minute_54 0 rfl ?_
          refine r_iload_n dX5_minute_55 1 rfl ?_
          refine r_iconst dX5_minute_56 (v := 0) rfl ?_
          refine r_callViF (As := [_, _]) c_X5_its (by first | assumption | rfl) l_X5_43 rfl rfl rfl (Nat.le_of_ble_eq_true rfl) dX5_minute_57 (t_X5_its (W := 0) rfl (by decide) ht g2) ?_
          refine r_icmp_lt dX5_minute_60 (tgt := 69) (by decide) (fun h60 => ?_) (fun h60 => ?_)
          · --t
            refine r_iinc (lo2 := [(0, _), (1, _), (2, _)]) dX5_minute_69 2 rfl (w := 1) rfl (Nat.le_of_ble_eq_true rfl) [1, 2, 0] rfl ?_
            refine r_goto dX5_minute_72 (tgt := 2) (by decide) ?_
            rw [nI_1]
            rw [eh] at h16
            first
              | exact ih (k + 1) _ (by omega) (hT.te (mw1_n h16)) hF
              | (dsimp only at h42; rw [z1] at h42
                 exact ih (k + 1) _ (by omega) (g1.te (mw1_g h16 (Int32.not_le.mpr h42))) (hF.tr f1))
              | (dsimp only at h42; rw [z1] at h42
                 replace h60 := e60.mp h60
                 exact ih (k + 1) _ (by omega) (g2.te (mw1_h h16 (Int32.not_lt.mp h42) h60)) ((hF.tr f1).tr f2))
              | (dsimp only at h42; rw [z1] at h42
                 replace h60 := fun z => h60 (e60.mpr z)
                 exact ih (k + 1) _ (by omega) (g3.te (mw1_c h16 (Int32.not_lt.mp h42) h60)) (((hF.tr f1).tr f2).tr f3))
          · --f
            refine r_aload_n dX5_minute_63 0 rfl ?_
            refine r_iload_n dX5_minute_64 1 rfl ?_
            refine r_iload_n dX5_minute_65 2 rfl ?_
            refine r_callVv (As := [_, _]) c_X5_clear (by first | assumption | rfl) l_X5_80 rfl rfl rfl (Nat.le_of_ble_eq_true rfl) dX5_minute_66 (t_X5_clear hk16 ht g2) (fun u66 q66 => ?_)
            obtain ⟨-, g3, f3⟩ := q66
            refine r_iinc (lo2 := [(0, _), (1, _), (2, _)]) dX5_minute_69 2 rfl (w := 1) rfl (Nat.le_of_ble_eq_true rfl) [1, 2, 0] rfl ?_
            refine r_goto dX5_minute_72 (tgt := 2) (by decide) ?_
            rw [nI_1]
            rw [eh] at h16
            first
              | exact ih (k + 1) _ (by omega) (hT.te (mw1_n h16)) hF
              | (dsimp only at h42; rw [z1] at h42
                 exact ih (k + 1) _ (by omega) (g1.te (mw1_g h16 (Int32.not_le.mpr h42))) (hF.tr f1))
              | (dsimp only at h42; rw [z1] at h42
                 replace h60 := e60.mp h60
                 exact ih (k + 1) _ (by omega) (g2.te (mw1_h h16 (Int32.not_lt.mp h42) h60)) ((hF.tr f1).tr f2))
              | (dsimp only at h42; rw [z1] at h42
                 replace h60 := fun z => h60 (e60.mpr z)
                 exact ih (k + 1) _ (by omega) (g3.te (mw1_c h16 (Int32.not_lt.mp h42) h60)) (((hF.tr f1).tr f2).tr f3))
theorem lp_X5_min2 (ht : t < 5) (hW : WF T) (hp0 : S0 191 0 = pat) (hx : ∀ u, MP (u 191) t (wlkT T pat 16) → FM t S0 u → At G (d + 5) M_X5_minute Q 156 [(0, rv G 190), (1, .int (nI t))] [] u) : ∀ n k S, n + k = tsz T → MP (S 191) t (mw2 T pat k) → FM t S0 S → At G (d + 5) M_X5_minute Q 77 [(0, rv G 190), (1, .int (nI t)), (2, .int (nI k))] [] S := by
  obtain ⟨s, es, e2, e3, e4⟩ := hW.sz
  intro n
  induction n with
  | zero =>
    intro k S hk hT hF
    obtain rfl : k = tsz T := by omega
    refine r_iload_n dX5_minute_77 2 rfl ?_
    refine r_aload_n dX5_minute_78 0 rfl ?_
    refine r_iload_n dX5_minute_79 1 rfl ?_
    refine r_iconst dX5_minute_80 (v := 0) rfl ?_
    refine r_callViF (As := [_, _]) c_X5_its (by first | assumption | rfl) l_X5_43 rfl rfl rfl (Nat.le_of_ble_eq_true rfl) dX5_minute_81 (t_X5_its (W := 0) rfl (by decide) ht hT) ?_
    refine r_icmp_ge dX5_minute_84 (tgt := 156) (by decide) (fun h84 => ?_) (fun h84 => ?_)
    · --t
      exact r_sub [0, 1] rfl (hx _ (hT.te (mw2_e hW)) hF)
    · --f
      exact absurd (by rw [show (mw2 T pat (tsz T)).1 0 = T.1 0 from rfl, e2, es]; exact Int32.le_refl _) h84
  | succ n ih =>
    intro k S hk hT hF
    have hk16 : k < 16 := by omega
    have hks : k < s := by omega
    have eh : (mw2 T pat k).2.1 k = (mw1 T 16).2.1 k := rfl
    have eh2 : (mw1 T 16).2.1 k = 4 → T.2.1 k = 4 := by
      intro z
      simp only [mw1, hk16, true_and] at z
      by_cases y : T.2.1 k = 3 ∧ T.2.2.1 k - 1 ≤ 0
      · rw [if_pos y] at z; exact absurd z (by decide)
      · rw [if_neg y] at z; exact z
    have eh3 : T.2.1 k = 4 → (mw1 T 16).2.1 k = 4 ∧ (mw2 T pat k).2.2.1 k = T.2.2.1 k := by
      intro z
      have n3 : ¬ T.2.1 k = 3 := by rw [z]; decide
      simp [mw1, mw2, n3, z]
    refine r_iload_n dX5_minute_77 2 rfl ?_
    refine r_aload_n dX5_minute_78 0 rfl ?_
    refine r_iload_n dX5_minute_79 1 rfl ?_
    refine r_iconst dX5_minute_80 (v := 0) rfl ?_
    refine r_callViF (As := [_, _]) c_X5_its (by first | assumption | rfl) l_X5_43 rfl rfl rfl (Nat.le_of_ble_eq_true rfl) dX5_minute_81 (t_X5_its (W := 0) rfl (by decide) ht hT) ?_
    refine r_icmp_ge dX5_minute_84 (tgt := 156) (by decide) (fun h84 => ?_) (fun h84 => ?_)
    · --t
      exact absurd (by rw [show (mw2 T pat k).1 0 = T.1 0 from rfl, e2] at h84; exact h84) (nI_ge hks (by omega))
    · --f
      refine r_aload_n dX5_minute_87 0 rfl ?_
      refine r_iload_n dX5_minute_88 1 rfl ?_
      refine r_iload_n dX5_minute_89 2 rfl ?_
      refine r_iconst dX5_minute_90 (v := 0) rfl ?_
      refine r_callViF (As := [_, _, _]) c_X5_scout (by first | assumption | rfl) l_X5_47 rfl rfl rfl (Nat.le_of_ble_eq_true rfl) dX5_minute_91 (t_X5_scout0 hk16 ht hT) ?_
      refine r_iconst dX5_minute_94 (v := 4) rfl ?_
      refine r_icmp_ne dX5_minute_95 (tgt := 150) (by decide) (fun h95 => ?_) (fun h95 => ?_)
      · --t
        refine r_iinc (lo2 := [(0, _), (1, _), (2, _)]) dX5_minute_150 2 rfl (w := 1) rfl (Nat.le_of_ble_eq_true rfl) [1, 2, 0] rfl ?_
        refine r_goto dX5_minute_153 (tgt := 77) (by decide) ?_
        rw [nI_1]
        first
          | (rw [eh] at h95
             exact ih (k + 1) _ (by omega) (hT.te (mw2_n (fun z => h95 (eh3 z).1))) hF)
          | (refine ih (k + 1) _ (by omega) (g3.te (mw2_y h4 ?_)) ((hF.tr f1).tr f3)
             first | rw [if_neg (Int32.not_lt.mpr h136)] | rw [if_pos (Int32.not_le.mp h136)])
      · --f
        refine r_aload_n dX5_minute_98 0 rfl ?_
        refine r_iload_n dX5_minute_99 1 rfl ?_
        refine r_iload_n dX5_minute_100 2 rfl ?_
        refine r_iconst dX5_minute_101 (v := 4) rfl ?_
        refine r_aload_n dX5_minute_102 0 rfl ?_
        refine r_iload_n dX5_minute_103 1 rfl ?_
        refine r_iload_n dX5_minute_104 2 rfl ?_
        refine r_iconst dX5_minute_105 (v := 1) rfl ?_
        refine r_callViF (As := [_, _, _]) c_X5_scout (by first | assumption | rfl) l_X5_47 rfl rfl rfl (Nat.le_of_ble_eq_true rfl) dX5_minute_106 (t_X5_scout1 hk16 ht hT) ?_
        refine r_iconst dX5_minute_109 (v := 1) rfl ?_
        refine r_iadd dX5_minute_110 ?_
        refine r_callVv (As := [_, _, _, _]) c_X5_layScout (by first | assumption | rfl) l_X5_66 rfl rfl rfl (Nat.le_of_ble_eq_true rfl) dX5_minute_111 (t_X5_layScout hk16 ht hT) (fun u111 q111 => ?_)
        rw [eh] at h95
        obtain ⟨-, g1, f1⟩ := q111
        have h4 := eh2 (by first | exact h95 | exact Classical.not_not.mp h95)
        rw [(eh3 h4).2] at g1
        have z1 : upd (mw2 T pat k).2.2.1 k (T.2.2.1 k + 1) k = T.2.2.1 k + 1 := by rw [upd, if_pos rfl]
        have zp : u111 191 0 = pat := ((f1.2 0 (by omega)).trans (hF.2 0 (by omega))).trans hp0
        refine r_aload_n dX5_minute_114 0 rfl ?_
        refine r_iload_n dX5_minute_115 1 rfl ?_
        refine r_iconst dX5_minute_116 (v := 5) rfl ?_
        refine r_aload_n dX5_minute_117 0 rfl ?_
        refine r_iload_n dX5_minute_118 1 rfl ?_
        refine r_iconst dX5_minute_119 (v := 5) rfl ?_
        refine r_callViF (As := [_, _]) c_X5_its (by first | assumption | rfl) l_X5_43 rfl rfl rfl (Nat.le_of_ble_eq_true rfl) dX5_minute_120 (t_X5_its (W := 5) rfl (by decide) ht g1) ?_
        refine r_aload_n dX5_minute_123 0 rfl ?_
        refine r_iload_n dX5_minute_124 1 rfl ?_
        refine r_iload_n dX5_minute_125 2 rfl ?_
        refine r_iconst dX5_minute_126 (v := 1) rfl ?_
        refine r_callViF (As := [_, _, _]) c_X5_scout (by first | assumption | rfl) l_X5_47 rfl rfl rfl (Nat.le_of_ble_eq_true rfl) dX5_minute_127 (t_X5_scout1 hk16 ht g1) ?_
        refine r_aload_n dX5_minute_130 0 rfl ?_
        refine r_getR (b := 191) (by first | assumption | rfl) f_X5_7 rfl rfl dX5_minute_131 rfl ?_
        refine r_iconst dX5_minute_134 (v := 0) rfl ?_
        refine r_iald (j := 0) (by first | assumption | rfl) (by first | assumption | rfl) (show 0 < ln 191 by decide) dX5_minute_135 ?_
        refine r_icmp_le dX5_minute_136 (tgt := 145) (by decide) (fun h136 => ?_) (fun h136 => ?_)
        · --t
          refine r_iconst dX5_minute_145 (v := 0) rfl ?_
          refine r_ior dX5_minute_146 ?_
          refine r_callVv (As := [_, _, _]) c_X5_lay (by first | assumption | rfl) l_X5_76 rfl rfl rfl (Nat.le_of_ble_eq_true rfl) dX5_minute_147 (t_X5_lay (W := 5) rfl (by decide) ht g1) (fun u147 q147 => ?_)
          obtain ⟨-, g3, f3⟩ := q147
          dsimp only at h136
          rw [z1, zp] at h136
          refine r_iinc (lo2 := [(0, _), (1, _), (2, _)]) dX5_minute_150 2 rfl (w := 1) rfl (Nat.le_of_ble_eq_true rfl) [1, 2, 0] rfl ?_
          refine r_goto dX5_minute_153 (tgt := 77) (by decide) ?_
          rw [nI_1]
          first
            | (rw [eh] at h95
               exact ih (k + 1) _ (by omega) (hT.te (mw2_n (fun z => h95 (eh3 z).1))) hF)
            | (refine ih (k + 1) _ (by omega) (g3.te (mw2_y h4 ?_)) ((hF.tr f1).tr f3)
               first | rw [if_neg (Int32.not_lt.mpr h136)] | rw [if_pos (Int32.not_le.mp h136)])
        · --f
          refine r_iconst dX5_minute_139 (v := 1) rfl ?_
          refine r_iload_n dX5_minute_140 2 rfl ?_
          refine r_ishl dX5_minute_141 ?_
          refine r_goto dX5_minute_142 (tgt := 146) (by decide) ?_
          refine r_ior dX5_minute_146 ?_
          refine r_callVv (As := [_, _, _]) c_X5_lay (by first | assumption | rfl) l_X5_76 rfl rfl rfl (Nat.le_of_ble_eq_true rfl) dX5_minute_147 (t_X5_lay (W := 5) rfl (by decide) ht g1) (fun u147 q147 => ?_)
          obtain ⟨-, g3, f3⟩ := q147
          dsimp only at h136
          rw [z1, zp] at h136
          refine r_iinc (lo2 := [(0, _), (1, _), (2, _)]) dX5_minute_150 2 rfl (w := 1) rfl (Nat.le_of_ble_eq_true rfl) [1, 2, 0] rfl ?_
          refine r_goto dX5_minute_153 (tgt := 77) (by decide) ?_
          rw [nI_1]
          first
            | (rw [eh] at h95
               exact ih (k + 1) _ (by omega) (hT.te (mw2_n (fun z => h95 (eh3 z).1))) hF)
            | (refine ih (k + 1) _ (by omega) (g3.te (mw2_y h4 ?_)) ((hF.tr f1).tr f3)
               first | rw [if_neg (Int32.not_lt.mpr h136)] | rw [if_pos (Int32.not_le.mp h136)])
theorem t_X5_minute {S : mS} (ht : t < 5) (hW : WF T) (ha : S 191 1 = away) (hp : S 191 0 = pat) (hT : MP (S 191) t T) : Call G (d + 5) M_X5_minute [rv G 190, .int (nI t)] S (fun v u => v = some (minT T pat away).1 ∧ MP (u 191) t (minT T pat away).2 ∧ FM t S u) := by
  refine call_of (lo := [(0, rv G 190), (1, .int (nI t))]) (by decide +kernel) (Nat.le_of_ble_eq_true rfl) rfl ?_
  have fin : ∀ u, MP (u 191) t (wlkT T pat 16) → FM t S u → At G (d + 5) M_X5_minute (fun v u => v = some (minT T pat away).1 ∧ MP (u 191) t (minT T pat away).2 ∧ FM t S u) 156 [(0, rv G 190), (1, .int (nI t))] [] u := by
    intro u hTu hFu
    have hau := (beg_aw hFu).1.trans ha
    have hWu : WF (wlkT T pat 16) := wf_wlk hW pat
    refine r_aload_n dX5_minute_156 0 rfl ?_
    refine r_iload_n dX5_minute_157 1 rfl ?_
    refine r_callVi (As := [_]) c_X5_opens (by first | assumption | rfl) l_X5_87 rfl rfl rfl (Nat.le_of_ble_eq_true rfl) dX5_minute_158 (t_X5_opens ht hWu hau hTu) (fun r158 u158 q158 => ?_)
    obtain ⟨hr, g1, f1⟩ := q158
    cases hr
    refine r_iret rfl dX5_minute_161 ?_
    exact ⟨rfl, g1, hFu.tr f1⟩
  have fin2 : ∀ u, MP (u 191) t (mw1 T 16) → FM t S u → At G (d + 5) M_X5_minute (fun v u => v = some (minT T pat away).1 ∧ MP (u 191) t (minT T pat away).2 ∧ FM t S u) 75 [(0, rv G 190), (1, .int (nI t))] [] u := by
    intro u hTu hFu
    refine r_iconst dX5_minute_75 (v := 0) rfl ?_
    refine r_istore_n (lo2 := [(0, _), (1, _), (2, _)]) dX5_minute_76 rfl (Nat.le_of_ble_eq_true rfl) [1, 2, 0] rfl ?_
    exact lp_X5_min2 (T := T) ht hW hp fin (tsz T) 0 _ (by omega) (hTu.te mw2_0) hFu
  refine r_iconst dX5_minute_0 (v := 0) rfl ?_
  refine r_istore_n (lo2 := [(0, _), (1, _), (2, _)]) dX5_minute_1 rfl (Nat.le_of_ble_eq_true rfl) [1, 2, 0] rfl ?_
  exact lp_X5_min1 (T := T) ht hW fin2 16 0 S (by omega) (hT.te mw1_0) FM.rf
end MODEL
