/-! the reference: a gate, a minute -/
/-- opensOnce's first loop: the scouts below k are through -/
def mb1 (T : mT) (away : Int32) (k : Nat) : mT := (upd T.1 4 (T.1 4 + szF (hm T 1) k), fun j => if j < k ∧ T.2.1 j = 1 then 3 else T.2.1 j, fun j => if j < k ∧ T.2.1 j = 1 then away else T.2.2.1 j, fun j => if j < k ∧ T.2.1 j = 1 then T.2.2.2 j + 1 else T.2.2.2 j)
/-- behind the straight part -/
def mb2 (T : mT) (away : Int32) : mT := ((begT T away).1, (mb1 T away 16).2)
/-- the second loop: those from the new size on, below k -/
def mb3 (T : mT) (away : Int32) (k : Nat) : mT := ((begT T away).1, fun j => if (T.1 2).toNatClampNeg ≤ j ∧ j < k ∧ ¬ (mb1 T away 16).2.1 j = 3 then 0 else (mb1 T away 16).2.1 j, fun j => if (T.1 2).toNatClampNeg ≤ j ∧ j < k ∧ ¬ (mb1 T away 16).2.1 j = 3 then 0 else (mb1 T away 16).2.2.1 j, fun j => if (T.1 2).toNatClampNeg ≤ j ∧ j < k ∧ ¬ (mb1 T away 16).2.1 j = 3 then 0 else (mb1 T away 16).2.2.2 j)
/-- the third loop: those outside come in -/
def mb4 (T : mT) (away : Int32) (k : Nat) : mT := ((begT T away).1, fun j => if j < k ∧ (mb3 T away 16).2.1 j = 2 then 1 else (mb3 T away 16).2.1 j, fun j => if j < k ∧ (mb3 T away 16).2.1 j = 2 then 0 else (mb3 T away 16).2.2.1 j, (mb3 T away 16).2.2.2)
theorem mb1_0 {T : mT} {away : Int32} : TE T (mb1 T away 0) := by
  refine ⟨fun j _ => ?_, fun j _ => ⟨?_, ?_, ?_⟩⟩
  · show T.1 j = upd T.1 4 (T.1 4 + 0) j
    simp only [upd, Int32.add_zero]; split
    · rename_i h; rw [h]
    · rfl
  · simp [mb1]
  · simp [mb1]
  · simp [mb1]
theorem szF_y {T : mT} {k : Nat} (hk : k < 16) (h : T.2.1 k = 1) : szF (hm T 1) (k + 1) = szF (hm T 1) k + 1 := by
  rw [szF, bt_and1 _ (show k < 32 by omega), bt_hm _ _ hk, h]; rfl
theorem szF_n {T : mT} {k : Nat} (hk : k < 16) (h : ¬ T.2.1 k = 1) : szF (hm T 1) (k + 1) = szF (hm T 1) k := by
  rw [szF, bt_and1 _ (show k < 32 by omega), bt_hm _ _ hk, beq_eq_false_iff_ne.mpr h]; exact Int32.add_zero _
theorem mb1_y {T : mT} {away : Int32} {k : Nat} (hk : k < 16) (h : T.2.1 k = 1) : TE (upd (mb1 T away k).1 4 ((mb1 T away k).1 4 + 1), upd (mb1 T away k).2.1 k 3, upd (mb1 T away k).2.2.1 k away, upd (mb1 T away k).2.2.2 k (T.2.2.2 k + 1)) (mb1 T away (k + 1)) := by
  refine ⟨fun j _ => ?_, fun i _ => ⟨?_, ?_, ?_⟩⟩
  · simp only [mb1, upd]
    by_cases e : j = 4
    · subst e; simp only [reduceIte]; rw [szF_y hk h, Int32.add_assoc]
    · simp [e]
  · simp only [mb1, upd]
    by_cases e : i = k
    · subst e; simp [h]
    · have : i < k + 1 ↔ i < k := by omega
      simp [e, this]
  · simp only [mb1, upd]
    by_cases e : i = k
    · subst e; simp [h]
    · have : i < k + 1 ↔ i < k := by omega
      simp [e, this]
  · simp only [mb1, upd]
    by_cases e : i = k
    · subst e; simp [h]
    · have : i < k + 1 ↔ i < k := by omega
      simp [e, this]
theorem mb1_n {T : mT} {away : Int32} {k : Nat} (hk : k < 16) (h : ¬ T.2.1 k = 1) : TE (mb1 T away k) (mb1 T away (k + 1)) := by
  refine ⟨fun j _ => ?_, fun i _ => ⟨?_, ?_, ?_⟩⟩
  · simp only [mb1, szF_n hk h]
  · simp only [mb1]
    by_cases e : i = k
    · subst e; simp [h]
    · have : i < k + 1 ↔ i < k := by omega
      simp [this]
  · simp only [mb1]
    by_cases e : i = k
    · subst e; simp [h]
    · have : i < k + 1 ↔ i < k := by omega
      simp [this]
  · simp only [mb1]
    by_cases e : i = k
    · subst e; simp [h]
    · have : i < k + 1 ↔ i < k := by omega
      simp [this]
theorem mb1_up {T : mT} {away : Int32} (hW : WF T) : ∀ n, tsz T + n ≤ 16 → TE (mb1 T away (tsz T)) (mb1 T away (tsz T + n)) := by
  intro n
  induction n with
  | zero => intro _; exact TE.rf
  | succ n ih =>
    intro hn
    refine (ih (by omega)).tr (mb1_n (by omega) (fun z => ?_))
    have := (hW.2.2 (tsz T + n) (by omega)).2.1 (by omega)
    rw [z] at this
    exact absurd this (by decide)
theorem mb3_0 {T : mT} {away : Int32} {n : Nat} (hn : n = (T.1 2).toNatClampNeg) : TE (mb2 T away) (mb3 T away n) := by
  have key : ∀ j, ¬ ((T.1 2).toNatClampNeg ≤ j ∧ j < n ∧ ¬ (mb1 T away 16).2.1 j = 3) := fun j => by omega
  refine ⟨fun _ _ => rfl, fun j _ => ⟨?_, ?_, ?_⟩⟩ <;> simp only [mb2, mb3, if_neg (key j)]
theorem mb3_y {T : mT} {away : Int32} {k : Nat} (hn : (T.1 2).toNatClampNeg ≤ k) (h : ¬ (mb1 T away 16).2.1 k = 3) : TE ((mb3 T away k).1, upd (mb3 T away k).2.1 k 0, upd (mb3 T away k).2.2.1 k 0, upd (mb3 T away k).2.2.2 k 0) (mb3 T away (k + 1)) := by
  refine ⟨fun _ _ => rfl, fun i _ => ⟨?_, ?_, ?_⟩⟩
  all_goals
    simp only [mb3, upd]
    by_cases e : i = k
    · subst e; simp [h, hn]
    · have : i < k + 1 ↔ i < k := by omega
      simp [e, this]
theorem mb3_n {T : mT} {away : Int32} {k : Nat} (h : (mb1 T away 16).2.1 k = 3) : TE (mb3 T away k) (mb3 T away (k + 1)) := by
  refine ⟨fun _ _ => rfl, fun i _ => ⟨?_, ?_, ?_⟩⟩
  all_goals
    simp only [mb3]
    by_cases e : i = k
    · subst e; simp [h]
    · have : i < k + 1 ↔ i < k := by omega
      simp [this]
theorem mb4_0 {T : mT} {away : Int32} : TE (mb3 T away 16) (mb4 T away 0) := by
  refine ⟨fun _ _ => rfl, fun j _ => ⟨?_, ?_, ?_⟩⟩ <;> simp [mb4]
theorem mb4_y {T : mT} {away : Int32} {k : Nat} (h : (mb3 T away 16).2.1 k = 2) : TE ((mb4 T away k).1, upd (mb4 T away k).2.1 k 1, upd (mb4 T away k).2.2.1 k 0, (mb4 T away k).2.2.2) (mb4 T away (k + 1)) := by
  refine ⟨fun _ _ => rfl, fun i _ => ⟨?_, ?_, rfl⟩⟩
  all_goals
    simp only [mb4, upd]
    by_cases e : i = k
    · subst e; simp [h]
    · have : i < k + 1 ↔ i < k := by omega
      simp [e, this]
theorem mb4_n {T : mT} {away : Int32} {k : Nat} (h : ¬ (mb3 T away 16).2.1 k = 2) : TE (mb4 T away k) (mb4 T away (k + 1)) := by
  refine ⟨fun _ _ => rfl, fun i _ => ⟨?_, ?_, rfl⟩⟩
  all_goals
    simp only [mb4]
    by_cases e : i = k
    · subst e; simp [h]
    · have : i < k + 1 ↔ i < k := by omega
      simp [this]
theorem mb4_e {T : mT} {away : Int32} (hW : WF T) : TE (mb4 T away (T.1 2).toNatClampNeg) (begT T away) := by
  refine ⟨fun _ _ => rfl, fun k hk => ?_⟩
  obtain ⟨hv, -, h20⟩ := hW.2.2 k hk
  have d31 : ¬ (3 : Int32) = 2 := by decide
  by_cases hn : k < (T.1 2).toNatClampNeg
  · have hn2 : ¬ (T.1 2).toNatClampNeg ≤ k := by omega
    rcases hv with h | h | h | h | h <;> simp [mb4, mb3, mb1, begT, h, hn, hn2, hk]
    exact (h20 h).symm
  · have hn2 : (T.1 2).toNatClampNeg ≤ k := by omega
    rcases hv with h | h | h | h | h <;> simp [mb4, mb3, mb1, begT, h, hn, hn2, hk]
theorem at_sz {G : mG} {d : Nat} {M : mM} {Q : Option Int32 → mS → Prop} {pc : Nat} {v0 v1 : Value} {x y : Int32} {S : mS} (h : x = y) (k : At G d M Q pc [(0, v0), (1, v1), (2, .int y)] [] S) : At G d M Q pc [(0, v0), (1, v1), (2, .int x)] [] S := by rw [h]; exact k
section MODEL
variable {G : mG} {d : Nat} {S0 : mS} {t : Nat} {T : mT} {away : Int32} {Q : Option Int32 → mS → Prop}
theorem lp_X5_oo1 (ht : t < 5) (hW : WF T) (hx : ∀ u, MP (u 191) t (mb1 T away (tsz T)) → FM t S0 u → At G (d + 3) M_X5_opensOnce Q 99 [(0, rv G 190), (1, .int (nI t))] [] u) : ∀ n k S, n + k = tsz T → S 191 1 = away → MP (S 191) t (mb1 T away k) → FM t S0 S → At G (d + 3) M_X5_opensOnce Q 21 [(0, rv G 190), (1, .int (nI t)), (2, .int (nI k))] [] S := by
  obtain ⟨s, es, e2, e3, e4⟩ := hW.sz
  intro n
  induction n with
  | zero =>
    intro k S hk ha hT hF
    obtain rfl : k = tsz T := by omega
    refine r_iload_n dX5_opensOnce_21 2 rfl ?_
    refine r_aload_n dX5_opensOnce_22 0 rfl ?_
    refine r_iload_n dX5_opensOnce_23 1 rfl ?_
    refine r_iconst dX5_opensOnce_24 (v := 0) rfl ?_
    refine r_callViF (As := [_, _]) c_X5_its (by first | assumption | rfl) l_X5_43 rfl rfl rfl (Nat.le_of_ble_eq_true rfl) dX5_opensOnce_25 (t_X5_its (W := 0) rfl (by decide) ht hT) ?_
    refine r_icmp_ge dX5_opensOnce_28 (tgt := 99) (by decide) (fun h28 => ?_) (fun h28 => ?_)
    · --t
      exact r_sub [0, 1] rfl (hx _ hT hF)
    · --f
      exact absurd (by show (mb1 T away (tsz T)).1 0 ≤ _; rw [show (mb1 T away (tsz T)).1 0 = T.1 0 from rfl, e2, es]; exact Int32.le_refl _) h28
  | succ n ih =>
    intro k S hk ha hT hF
    have hk16 : k < 16 := by omega
    have hks : k < s := by omega
    have eh : (mb1 T away k).2.1 k = T.2.1 k := by simp [mb1]
    have em : (mb1 T away k).2.2.2 k = T.2.2.2 k := by simp [mb1]
    have hj : 11 + 2 + 54 * t + 3 * k < ln 191 := show 11 + 2 + 54 * t + 3 * k < 275 by omega
    refine r_iload_n dX5_opensOnce_21 2 rfl ?_
    refine r_aload_n dX5_opensOnce_22 0 rfl ?_
    refine r_iload_n dX5_opensOnce_23 1 rfl ?_
    refine r_iconst dX5_opensOnce_24 (v := 0) rfl ?_
    refine r_callViF (As := [_, _]) c_X5_its (by first | assumption | rfl) l_X5_43 rfl rfl rfl (Nat.le_of_ble_eq_true rfl) dX5_opensOnce_25 (t_X5_its (W := 0) rfl (by decide) ht hT) ?_
    refine r_icmp_ge dX5_opensOnce_28 (tgt := 99) (by decide) (fun h28 => ?_) (fun h28 => ?_)
    · --t
      exact absurd (by rw [show (mb1 T away k).1 0 = T.1 0 from rfl, e2] at h28; exact h28) (nI_ge hks (by omega))
    · --f
      refine r_aload_n dX5_opensOnce_31 0 rfl ?_
      refine r_iload_n dX5_opensOnce_32 1 rfl ?_
      refine r_iload_n dX5_opensOnce_33 2 rfl ?_
      refine r_iconst dX5_opensOnce_34 (v := 0) rfl ?_
      refine r_callViF (As := [_, _, _]) c_X5_scout (by first | assumption | rfl) l_X5_47 rfl rfl rfl (Nat.le_of_ble_eq_true rfl) dX5_opensOnce_35 (t_X5_scout0 hk16 ht hT) ?_
      refine r_iconst dX5_opensOnce_38 (v := 1) rfl ?_
      refine r_icmp_ne dX5_opensOnce_39 (tgt := 93) (by decide) (fun h39 => ?_) (fun h39 => ?_)
      · --t
        refine r_iinc (lo2 := [(0, _), (1, _), (2, _)]) dX5_opensOnce_93 2 rfl (w := 1) rfl (Nat.le_of_ble_eq_true rfl) [1, 2, 0] rfl ?_
        refine r_goto dX5_opensOnce_96 (tgt := 21) (by decide) ?_
        rw [nI_1]
        rw [eh] at h39
        first
          | exact ih (k + 1) _ (by omega) ha (hT.te (mb1_n hk16 h39)) hF
          | exact ih (k + 1) _ (by omega) (((f2.tr f3).2 1 (by omega)).trans ((hF.2 1 (by omega)).symm.trans ha)) (g3.te (mb1_y hk16 h39)) (f2.tr f3)
      · --f
        refine r_aload_n dX5_opensOnce_42 0 rfl ?_
        refine r_iload_n dX5_opensOnce_43 1 rfl ?_
        refine r_iload_n dX5_opensOnce_44 2 rfl ?_
        refine r_iconst dX5_opensOnce_45 (v := 3) rfl ?_
        refine r_aload_n dX5_opensOnce_46 0 rfl ?_
        refine r_getR (b := 191) (by first | assumption | rfl) f_X5_7 rfl rfl dX5_opensOnce_47 rfl ?_
        refine r_iconst dX5_opensOnce_50 (v := 1) rfl ?_
        refine r_iald (j := 1) (by first | assumption | rfl) (by first | assumption | rfl) (show 1 < ln 191 by decide) dX5_opensOnce_51 ?_
        refine r_callVv (As := [_, _, _, _]) c_X5_layScout (by first | assumption | rfl) l_X5_66 rfl rfl rfl (Nat.le_of_ble_eq_true rfl) dX5_opensOnce_52 (t_X5_layScout hk16 ht hT) (fun u52 q52 => ?_)
        obtain ⟨-, g1, f1⟩ := q52
        rw [ha] at g1
        refine r_aload_n dX5_opensOnce_55 0 rfl ?_
        refine r_getR (b := 191) (by first | assumption | rfl) f_X5_7 rfl rfl dX5_opensOnce_56 rfl ?_
        refine r_iconst dX5_opensOnce_59 (v := 5) rfl ?_
        refine r_bipush dX5_opensOnce_60 (v := 54) (by decide +kernel) ?_
        refine r_iload_n dX5_opensOnce_62 1 rfl ?_
        refine r_imul dX5_opensOnce_63 ?_
        refine r_iadd dX5_opensOnce_64 ?_
        refine r_bipush dX5_opensOnce_65 (v := 6) (by decide +kernel) ?_
        refine r_iadd dX5_opensOnce_67 ?_
        refine r_iconst dX5_opensOnce_68 (v := 3) rfl ?_
        refine r_iload_n dX5_opensOnce_69 2 rfl ?_
        refine r_imul dX5_opensOnce_70 ?_
        refine r_iadd dX5_opensOnce_71 ?_
        refine r_iconst dX5_opensOnce_72 (v := 2) rfl ?_
        refine r_iadd dX5_opensOnce_73 ?_
        refine r_dup2 dX5_opensOnce_74 rfl rfl ?_
        refine r_iald (j := (11 + 2 + 54 * t + 3 * k)) (by first | assumption | rfl) (ix2 (W := 2) rfl rfl rfl) hj dX5_opensOnce_75 ?_
        refine r_iconst dX5_opensOnce_76 (v := 1) rfl ?_
        refine r_iadd dX5_opensOnce_77 ?_
        refine r_iast (j := (11 + 2 + 54 * t + 3 * k)) (by first | assumption | rfl) (ix2 (W := 2) rfl rfl rfl) hj dX5_opensOnce_78 ?_
        refine at_gen (fun w hw => ?_)
        have g2 : MP (w 191) t ((mb1 T away k).1, upd (mb1 T away k).2.1 k 3, upd (mb1 T away k).2.2.1 k away, upd (mb1 T away k).2.2.2 k (T.2.2.2 k + 1)) := by
          have e9 : u52 191 (11 + 2 + 54 * t + 3 * k) = T.2.2.2 k := (g1.2 k hk16).2.2.trans em
          rw [hw, up1_s, e9]
          exact g1.tm hk16 _
        have f2 : FM t S0 w := by rw [hw]; exact (hF.tr f1).up (by omega) (by omega)
        clear hw
        refine r_aload_n dX5_opensOnce_79 0 rfl ?_
        refine r_iload_n dX5_opensOnce_80 1 rfl ?_
        refine r_iconst dX5_opensOnce_81 (v := 4) rfl ?_
        refine r_aload_n dX5_opensOnce_82 0 rfl ?_
        refine r_iload_n dX5_opensOnce_83 1 rfl ?_
        refine r_iconst dX5_opensOnce_84 (v := 4) rfl ?_
        refine r_callViF (As := [_, _]) c_X5_its (by first | assumption | rfl) l_X5_43 rfl rfl rfl (Nat.le_of_ble_eq_true rfl) dX5_opensOnce_85 (t_X5_its (W := 4) rfl (by decide) ht g2) ?_
        refine r_iconst dX5_opensOnce_88 (v := 1) rfl ?_
        refine r_iadd dX5_opensOnce_89 ?_
        refine r_callVv (As := [_, _, _]) c_X5_lay (by first | assumption | rfl) l_X5_76 rfl rfl rfl (Nat.le_of_ble_eq_true rfl) dX5_opensOnce_90 (t_X5_lay (W := 4) rfl (by decide) ht g2) (fun u90 q90 => ?_)
        obtain ⟨-, g3, f3⟩ := q90
        refine r_iinc (lo2 := [(0, _), (1, _), (2, _)]) dX5_opensOnce_93 2 rfl (w := 1) rfl (Nat.le_of_ble_eq_true rfl) [1, 2, 0] rfl ?_
        refine r_goto dX5_opensOnce_96 (tgt := 21) (by decide) ?_
        rw [nI_1]
        rw [eh] at h39
        first
          | exact ih (k + 1) _ (by omega) ha (hT.te (mb1_n hk16 h39)) hF
          | exact ih (k + 1) _ (by omega) (((f2.tr f3).2 1 (by omega)).trans ((hF.2 1 (by omega)).symm.trans ha)) (g3.te (mb1_y hk16 h39)) (f2.tr f3)
theorem lp_X5_oo3 (ht : t < 5) (hW : WF T) (hx : ∀ u, MP (u 191) t (begT T away) → FM t S0 u → Q (some 1) u) : ∀ n k S, n + k = (T.1 2).toNatClampNeg → MP (S 191) t (mb4 T away k) → FM t S0 S → At G (d + 3) M_X5_opensOnce Q 184 [(0, rv G 190), (1, .int (nI t)), (2, .int (nI k))] [] S := by
  obtain ⟨s, es, e2, e3, e4⟩ := hW.nx
  intro n
  induction n with
  | zero =>
    intro k S hk hT hF
    obtain rfl : k = (T.1 2).toNatClampNeg := by omega
    refine r_iload_n dX5_opensOnce_184 2 rfl ?_
    refine r_aload_n dX5_opensOnce_185 0 rfl ?_
    refine r_iload_n dX5_opensOnce_186 1 rfl ?_
    refine r_iconst dX5_opensOnce_187 (v := 0) rfl ?_
    refine r_callViF (As := [_, _]) c_X5_its (by first | assumption | rfl) l_X5_43 rfl rfl rfl (Nat.le_of_ble_eq_true rfl) dX5_opensOnce_188 (t_X5_its (W := 0) rfl (by decide) ht hT) ?_
    refine r_icmp_ge dX5_opensOnce_191 (tgt := 219) (by decide) (fun h191 => ?_) (fun h191 => ?_)
    · --t
      refine r_iconst dX5_opensOnce_219 (v := 1) rfl ?_
      refine r_zret rfl (by first | rfl | decide) dX5_opensOnce_220 ?_
      exact hx _ (hT.te (mb4_e hW)) hF
    · --f
      exact absurd (by rw [show (mb4 T away (T.1 2).toNatClampNeg).1 0 = T.1 2 from rfl, es, e2]; exact Int32.le_refl _) h191
  | succ n ih =>
    intro k S hk hT hF
    have hk16 : k < 16 := by omega
    have hks : k < s := by omega
    have eh : (mb4 T away k).2.1 k = (mb3 T away 16).2.1 k := by simp [mb4]
    refine r_iload_n dX5_opensOnce_184 2 rfl ?_
    refine r_aload_n dX5_opensOnce_185 0 rfl ?_
    refine r_iload_n dX5_opensOnce_186 1 rfl ?_
    refine r_iconst dX5_opensOnce_187 (v := 0) rfl ?_
    refine r_callViF (As := [_, _]) c_X5_its (by first | assumption | rfl) l_X5_43 rfl rfl rfl (Nat.le_of_ble_eq_true rfl) dX5_opensOnce_188 (t_X5_its (W := 0) rfl (by decide) ht hT) ?_
    refine r_icmp_ge dX5_opensOnce_191 (tgt := 219) (by decide) (fun h191 => ?_) (fun h191 => ?_)
    · --t
      exact absurd (by rw [show (mb4 T away k).1 0 = T.1 2 from rfl, e2] at h191; exact h191) (nI_ge hks (by omega))
    · --f
      refine r_aload_n dX5_opensOnce_194 0 rfl ?_
      refine r_iload_n dX5_opensOnce_195 1 rfl ?_
      refine r_iload_n dX5_opensOnce_196 2 rfl ?_
      refine r_iconst dX5_opensOnce_197 (v := 0) rfl ?_
      refine r_callViF (As := [_, _, _]) c_X5_scout (by first | assumption | rfl) l_X5_47 rfl rfl rfl (Nat.le_of_ble_eq_true rfl) dX5_opensOnce_198 (t_X5_scout0 hk16 ht hT) ?_
      refine r_iconst dX5_opensOnce_201 (v := 2) rfl ?_
      refine r_icmp_ne dX5_opensOnce_202 (tgt := 213) (by decide) (fun h202 => ?_) (fun h202 => ?_)
      · --t
        refine r_iinc (lo2 := [(0, _), (1, _), (2, _)]) dX5_opensOnce_213 2 rfl (w := 1) rfl (Nat.le_of_ble_eq_true rfl) [1, 2, 0] rfl ?_
        refine r_goto dX5_opensOnce_216 (tgt := 184) (by decide) ?_
        rw [nI_1]
        rw [eh] at h202
        first
          | exact ih (k + 1) _ (by omega) (hT.te (mb4_n h202)) hF
          | exact ih (k + 1) _ (by omega) (g1.te (mb4_y h202)) (hF.tr f1)
      · --f
        refine r_aload_n dX5_opensOnce_205 0 rfl ?_
        refine r_iload_n dX5_opensOnce_206 1 rfl ?_
        refine r_iload_n dX5_opensOnce_207 2 rfl ?_
        refine r_iconst dX5_opensOnce_208 (v := 1) rfl ?_
        refine r_iconst dX5_opensOnce_209 (v := 0) rfl ?_
        refine r_callVv (As := [_, _, _, _]) c_X5_layScout (by first | assumption | rfl) l_X5_66 rfl rfl rfl (Nat.le_of_ble_eq_true rfl) dX5_opensOnce_210 (t_X5_layScout hk16 ht hT) (fun u210 q210 => ?_)
        obtain ⟨-, g1, f1⟩ := q210
        refine r_iinc (lo2 := [(0, _), (1, _), (2, _)]) dX5_opensOnce_213 2 rfl (w := 1) rfl (Nat.le_of_ble_eq_true rfl) [1, 2, 0] rfl ?_
        refine r_goto dX5_opensOnce_216 (tgt := 184) (by decide) ?_
        rw [nI_1]
        rw [eh] at h202
        first
          | exact ih (k + 1) _ (by omega) (hT.te (mb4_n h202)) hF
          | exact ih (k + 1) _ (by omega) (g1.te (mb4_y h202)) (hF.tr f1)
theorem lp_X5_oo2 (ht : t < 5) (hW : WF T) (hx : ∀ u, MP (u 191) t (begT T away) → FM t S0 u → Q (some 1) u) : ∀ n k S, n + k = 16 → (T.1 2).toNatClampNeg ≤ k → MP (S 191) t (mb3 T away k) → FM t S0 S → At G (d + 3) M_X5_opensOnce Q 153 [(0, rv G 190), (1, .int (nI t)), (2, .int (nI k))] [] S := by
  intro n
  induction n with
  | zero =>
    intro k S hk hn hT hF
    obtain rfl : k = 16 := by omega
    refine r_iload_n dX5_opensOnce_153 2 rfl ?_
    refine r_bipush dX5_opensOnce_154 (v := 16) (by decide +kernel) ?_
    refine r_icmp_ge dX5_opensOnce_156 (tgt := 182) (by decide) (fun h156 => ?_) (fun h156 => ?_)
    · --t
      refine r_iconst dX5_opensOnce_182 (v := 0) rfl ?_
      refine r_istore_n (lo2 := [(0, _), (1, _), (2, _)]) dX5_opensOnce_183 rfl (Nat.le_of_ble_eq_true rfl) [1, 2, 0] rfl ?_
      exact lp_X5_oo3 ht hW hx (T.1 2).toNatClampNeg 0 _ (by omega) (hT.te mb4_0) hF
    · --f
      exact absurd (show (16 : Int32) ≤ nI 16 by decide) h156
  | succ n ih =>
    intro k S hk hn hT hF
    have hk16 : k < 16 := by omega
    have eh : (mb3 T away k).2.1 k = (mb1 T away 16).2.1 k := by simp [mb3]
    refine r_iload_n dX5_opensOnce_153 2 rfl ?_
    refine r_bipush dX5_opensOnce_154 (v := 16) (by decide +kernel) ?_
    refine r_icmp_ge dX5_opensOnce_156 (tgt := 182) (by decide) (fun h156 => ?_) (fun h156 => ?_)
    · --t
      exact absurd h156 (c16 hk16)
    · --f
      refine r_aload_n dX5_opensOnce_159 0 rfl ?_
      refine r_iload_n dX5_opensOnce_160 1 rfl ?_
      refine r_iload_n dX5_opensOnce_161 2 rfl ?_
      refine r_iconst dX5_opensOnce_162 (v := 0) rfl ?_
      refine r_callViF (As := [_, _, _]) c_X5_scout (by first | assumption | rfl) l_X5_47 rfl rfl rfl (Nat.le_of_ble_eq_true rfl) dX5_opensOnce_163 (t_X5_scout0 hk16 ht hT) ?_
      refine r_iconst dX5_opensOnce_166 (v := 3) rfl ?_
      refine r_icmp_eq dX5_opensOnce_167 (tgt := 176) (by decide) (fun h167 => ?_) (fun h167 => ?_)
      · --t
        refine r_iinc (lo2 := [(0, _), (1, _), (2, _)]) dX5_opensOnce_176 2 rfl (w := 1) rfl (Nat.le_of_ble_eq_true rfl) [1, 2, 0] rfl ?_
        refine r_goto dX5_opensOnce_179 (tgt := 153) (by decide) ?_
        rw [nI_1]
        rw [eh] at h167
        first
          | exact ih (k + 1) _ (by omega) (by omega) (hT.te (mb3_n h167)) hF
          | exact ih (k + 1) _ (by omega) (by omega) (g1.te (mb3_y hn h167)) (hF.tr f1)
      · --f
        refine r_aload_n dX5_opensOnce_170 0 rfl ?_
        refine r_iload_n dX5_opensOnce_171 1 rfl ?_
        refine r_iload_n dX5_opensOnce_172 2 rfl ?_
        refine r_callVv (As := [_, _]) c_X5_clear (by first | assumption | rfl) l_X5_80 rfl rfl rfl (Nat.le_of_ble_eq_true rfl) dX5_opensOnce_173 (t_X5_clear hk16 ht hT) (fun u173 q173 => ?_)
        obtain ⟨-, g1, f1⟩ := q173
        refine r_iinc (lo2 := [(0, _), (1, _), (2, _)]) dX5_opensOnce_176 2 rfl (w := 1) rfl (Nat.le_of_ble_eq_true rfl) [1, 2, 0] rfl ?_
        refine r_goto dX5_opensOnce_179 (tgt := 153) (by decide) ?_
        rw [nI_1]
        rw [eh] at h167
        first
          | exact ih (k + 1) _ (by omega) (by omega) (hT.te (mb3_n h167)) hF
          | exact ih (k + 1) _ (by omega) (by omega) (g1.te (mb3_y hn h167)) (hF.tr f1)
theorem t_X5_opensOnce {S : mS} (ht : t < 5) (hW : WF T) (ha : S 191 1 = away) (hT : MP (S 191) t T) : Call G (d + 3) M_X5_opensOnce [rv G 190, .int (nI t)] S (fun v u => v = some (bI (canO T)) ∧ MP (u 191) t (if canO T = true then begT T away else T) ∧ FM t S u) := by
  refine call_of (lo := [(0, rv G 190), (1, .int (nI t))]) (by decide +kernel) (Nat.le_of_ble_eq_true rfl) rfl ?_
  have hth := @t_X5_those G (d + 1) S t T 1 ht hW hT
  rw [thM_hm hW (by decide)] at hth
  cases hc : canO T
  · unfold canO at hc
    refine r_aload_n dX5_opensOnce_0 0 rfl ?_
    refine r_iload_n dX5_opensOnce_1 1 rfl ?_
    refine r_callViF (As := [_]) c_X5_awaited (by first | assumption | rfl) l_X5_70 rfl rfl rfl (Nat.le_of_ble_eq_true rfl) dX5_opensOnce_2 (t_X5_awaited ht hW hT) ?_
    refine r_if_ne dX5_opensOnce_5 (tgt := 17) (by decide) (fun h5 => ?_) (fun h5 => ?_)
    · --t
      refine r_iconst dX5_opensOnce_17 (v := 0) rfl ?_
      refine r_zret rfl (by first | rfl | decide) dX5_opensOnce_18 ?_
      exact ⟨rfl, hT, FM.rf⟩
    · --f
      refine r_aload_n dX5_opensOnce_8 0 rfl ?_
      refine r_iload_n dX5_opensOnce_9 1 rfl ?_
      refine r_iconst dX5_opensOnce_10 (v := 1) rfl ?_
      refine r_callViF (As := [_, _]) c_X5_those (by first | assumption | rfl) l_X5_73 rfl rfl rfl (Nat.le_of_ble_eq_true rfl) dX5_opensOnce_11 hth ?_
      refine r_if_ne dX5_opensOnce_14 (tgt := 19) (by decide) (fun h14 => ?_) (fun h14 => ?_)
      · --t
        exact absurd hc (by simp [h5, h14])
      · --f
        refine r_iconst dX5_opensOnce_17 (v := 0) rfl ?_
        refine r_zret rfl (by first | rfl | decide) dX5_opensOnce_18 ?_
        exact ⟨rfl, hT, FM.rf⟩
  · have hc2 : awM T = 0 ∧ ¬ hm T 1 = 0 := by
      unfold canO at hc
      simp only [Bool.and_eq_true, decide_eq_true_eq, Bool.not_eq_true', decide_eq_false_iff_not] at hc
      exact hc
    rw [if_pos rfl]
    obtain ⟨n, hn, e2, hn1, hn2⟩ := hW.nx
    refine r_aload_n dX5_opensOnce_0 0 rfl ?_
    refine r_iload_n dX5_opensOnce_1 1 rfl ?_
    refine r_callViF (As := [_]) c_X5_awaited (by first | assumption | rfl) l_X5_70 rfl rfl rfl (Nat.le_of_ble_eq_true rfl) dX5_opensOnce_2 (t_X5_awaited ht hW hT) ?_
    refine r_if_ne dX5_opensOnce_5 (tgt := 17) (by decide) (fun h5 => ?_) (fun h5 => ?_)
    · --t
      exact absurd hc2.1 h5
    · --f
      refine r_aload_n dX5_opensOnce_8 0 rfl ?_
      refine r_iload_n dX5_opensOnce_9 1 rfl ?_
      refine r_iconst dX5_opensOnce_10 (v := 1) rfl ?_
      refine r_callViF (As := [_, _]) c_X5_those (by first | assumption | rfl) l_X5_73 rfl rfl rfl (Nat.le_of_ble_eq_true rfl) dX5_opensOnce_11 hth ?_
      refine r_if_ne dX5_opensOnce_14 (tgt := 19) (by decide) (fun h14 => ?_) (fun h14 => ?_)
      · --t
        refine r_iconst dX5_opensOnce_19 (v := 0) rfl ?_
        refine r_istore_n (lo2 := [(0, _), (1, _), (2, _)]) dX5_opensOnce_20 rfl (Nat.le_of_ble_eq_true rfl) [1, 2, 0] rfl ?_
        refine lp_X5_oo1 (T := T) (away := away) ht hW (fun u hTu hFu => ?_) (tsz T) 0 S (by omega) ha (hT.te mb1_0) FM.rf
        have h16 : tsz T + (16 - tsz T) = 16 := by obtain ⟨s, es, -, -, e4⟩ := hW.sz; omega
        have hT1 : MP (u 191) t (mb1 T away 16) := by
          have z := mb1_up (away := away) hW (16 - tsz T) (by omega)
          rw [h16] at z
          exact hTu.te z
        refine r_aload_n dX5_opensOnce_99 0 rfl ?_
        refine r_iload_n dX5_opensOnce_100 1 rfl ?_
        refine r_iconst dX5_opensOnce_101 (v := 3) rfl ?_
        refine r_aload_n dX5_opensOnce_102 0 rfl ?_
        refine r_iload_n dX5_opensOnce_103 1 rfl ?_
        refine r_iconst dX5_opensOnce_104 (v := 3) rfl ?_
        refine r_callViF (As := [_, _]) c_X5_its (by first | assumption | rfl) l_X5_43 rfl rfl rfl (Nat.le_of_ble_eq_true rfl) dX5_opensOnce_105 (t_X5_its (W := 3) rfl (by decide) ht hT1) ?_
        refine r_iconst dX5_opensOnce_108 (v := 1) rfl ?_
        refine r_iadd dX5_opensOnce_109 ?_
        refine r_callVv (As := [_, _, _]) c_X5_lay (by first | assumption | rfl) l_X5_76 rfl rfl rfl (Nat.le_of_ble_eq_true rfl) dX5_opensOnce_110 (t_X5_lay (W := 3) rfl (by decide) ht hT1) (fun u110 q110 => ?_)
        obtain ⟨-, a1, b1⟩ := q110
        refine r_aload_n dX5_opensOnce_113 0 rfl ?_
        refine r_iload_n dX5_opensOnce_114 1 rfl ?_
        refine r_iconst dX5_opensOnce_115 (v := 1) rfl ?_
        refine r_iconst dX5_opensOnce_116 (v := 1) rfl ?_
        refine r_aload_n dX5_opensOnce_117 0 rfl ?_
        refine r_iload_n dX5_opensOnce_118 1 rfl ?_
        refine r_iconst dX5_opensOnce_119 (v := 1) rfl ?_
        refine r_callViF (As := [_, _]) c_X5_its (by first | assumption | rfl) l_X5_43 rfl rfl rfl (Nat.le_of_ble_eq_true rfl) dX5_opensOnce_120 (t_X5_its (W := 1) rfl (by decide) ht a1) ?_
        refine r_isub dX5_opensOnce_123 ?_
        refine r_callVv (As := [_, _, _]) c_X5_lay (by first | assumption | rfl) l_X5_76 rfl rfl rfl (Nat.le_of_ble_eq_true rfl) dX5_opensOnce_124 (t_X5_lay (W := 1) rfl (by decide) ht a1) (fun u124 q124 => ?_)
        obtain ⟨-, a2, b2⟩ := q124
        refine r_aload_n dX5_opensOnce_127 0 rfl ?_
        refine r_iload_n dX5_opensOnce_128 1 rfl ?_
        refine r_iconst dX5_opensOnce_129 (v := 0) rfl ?_
        refine r_aload_n dX5_opensOnce_130 0 rfl ?_
        refine r_iload_n dX5_opensOnce_131 1 rfl ?_
        refine r_iconst dX5_opensOnce_132 (v := 2) rfl ?_
        refine r_callViF (As := [_, _]) c_X5_its (by first | assumption | rfl) l_X5_43 rfl rfl rfl (Nat.le_of_ble_eq_true rfl) dX5_opensOnce_133 (t_X5_its (W := 2) rfl (by decide) ht a2) ?_
        refine r_callVv (As := [_, _, _]) c_X5_lay (by first | assumption | rfl) l_X5_76 rfl rfl rfl (Nat.le_of_ble_eq_true rfl) dX5_opensOnce_136 (t_X5_lay (W := 0) rfl (by decide) ht a2) (fun u136 q136 => ?_)
        obtain ⟨-, a3, b3⟩ := q136
        refine r_aload_n dX5_opensOnce_139 0 rfl ?_
        refine r_iload_n dX5_opensOnce_140 1 rfl ?_
        refine r_iconst dX5_opensOnce_141 (v := 5) rfl ?_
        refine r_iconst dX5_opensOnce_142 (v := 0) rfl ?_
        refine r_callVv (As := [_, _, _]) c_X5_lay (by first | assumption | rfl) l_X5_76 rfl rfl rfl (Nat.le_of_ble_eq_true rfl) dX5_opensOnce_143 (t_X5_lay (W := 5) rfl (by decide) ht a3) (fun u143 q143 => ?_)
        obtain ⟨-, a4, b4⟩ := q143
        refine r_aload_n dX5_opensOnce_146 0 rfl ?_
        refine r_iload_n dX5_opensOnce_147 1 rfl ?_
        refine r_iconst dX5_opensOnce_148 (v := 0) rfl ?_
        refine r_callViF (As := [_, _]) c_X5_its (by first | assumption | rfl) l_X5_43 rfl rfl rfl (Nat.le_of_ble_eq_true rfl) dX5_opensOnce_149 (t_X5_its (W := 0) rfl (by decide) ht a4) ?_
        refine r_istore_n (lo2 := [(0, _), (1, _), (2, _)]) dX5_opensOnce_152 rfl (Nat.le_of_ble_eq_true rfl) [1, 2, 0] rfl ?_
        have a5 : MP (u143 191) t (mb2 T away) := by
          refine a4.te ⟨fun j hj => ?_, fun k hk => ⟨rfl, rfl, rfl⟩⟩
          rcases (by omega : j = 0 ∨ j = 1 ∨ j = 2 ∨ j = 3 ∨ j = 4 ∨ j = 5) with rfl | rfl | rfl | rfl | rfl | rfl <;> rfl
        refine at_sz (show _ = nI n from e2) ?_
        refine lp_X5_oo2 (T := T) (away := away) ht hW (fun u hTu hFu => ⟨rfl, hTu, hFu⟩) (16 - n) n _ (by omega) (by omega) (a5.te (mb3_0 hn.symm)) ((((hFu.tr b1).tr b2).tr b3).tr b4)
      · --f
        exact absurd h14 hc2.2
end MODEL
