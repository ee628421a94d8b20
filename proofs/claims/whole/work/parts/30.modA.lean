/-! the reference: its row, cell by cell -/
def FM (t : Nat) (S u : mS) : Prop := (∀ b, b ≠ 191 → u b = S b) ∧ ∀ i, (i < 5 + 54 * t ∨ 59 + 54 * t ≤ i) → u 191 i = S 191 i
theorem FM.rf {t : Nat} {S : mS} : FM t S S := ⟨fun _ _ => rfl, fun _ _ => rfl⟩
theorem FM.tr {t : Nat} {S u w : mS} (h : FM t S u) (g : FM t u w) : FM t S w := ⟨fun b hb => (g.1 b hb).trans (h.1 b hb), fun i hi => (g.2 i hi).trans (h.2 i hi)⟩
theorem FM.up {t i : Nat} {x : Int32} {S u : mS} (h : FM t S u) (h1 : 5 + 54 * t ≤ i) (h2 : i < 59 + 54 * t) : FM t S (up1 u 191 (upd (u 191) i x)) := ⟨fun b hb => (up1_n hb).trans (h.1 b hb), fun j hj => by rw [up1_s, upd, if_neg (by omega)]; exact h.2 j hj⟩
theorem MP.te {r : Nat → Int32} {t : Nat} {T T' : mT} (h : MP r t T) (e : TE T T') : MP r t T' :=
  ⟨fun j hj => (h.1 j hj).trans (e.1 j hj), fun k hk => ⟨(h.2 k hk).1.trans (e.2 k hk).1, (h.2 k hk).2.1.trans (e.2 k hk).2.1, (h.2 k hk).2.2.trans (e.2 k hk).2.2⟩⟩
theorem MP.off {r r' : Nat → Int32} {t : Nat} {T : mT} (h : MP r t T) (g : ∀ i, 5 + 54 * t ≤ i → i < 59 + 54 * t → r' i = r i) : MP r' t T := by
  refine ⟨fun j hj => ?_, fun k hk => ⟨?_, ?_, ?_⟩⟩
  · rw [g _ (by omega) (by omega)]; exact h.1 j hj
  · rw [g _ (by omega) (by omega)]; exact (h.2 k hk).1
  · rw [g _ (by omega) (by omega)]; exact (h.2 k hk).2.1
  · rw [g _ (by omega) (by omega)]; exact (h.2 k hk).2.2
theorem MP.lay {r : Nat → Int32} {t : Nat} {T : mT} (h : MP r t T) {W : Nat} (hW : W < 6) (x : Int32) : MP (upd r (5 + 54 * t + W) x) t (upd T.1 W x, T.2) := by
  refine ⟨fun j hj => ?_, fun k hk => ⟨?_, ?_, ?_⟩⟩
  · show upd r _ x _ = upd T.1 W x j
    simp only [upd]
    by_cases e : j = W
    · subst e; rw [if_pos rfl, if_pos rfl]
    · rw [if_neg (by omega), if_neg e]; exact h.1 j hj
  · simp only [upd]; rw [if_neg (by omega)]; exact (h.2 k hk).1
  · simp only [upd]; rw [if_neg (by omega)]; exact (h.2 k hk).2.1
  · simp only [upd]; rw [if_neg (by omega)]; exact (h.2 k hk).2.2
theorem MP.hw {r : Nat → Int32} {t : Nat} {T : mT} (h : MP r t T) {k : Nat} (hk : k < 16) (x : Int32) : MP (upd r (11 + 54 * t + 3 * k) x) t (T.1, upd T.2.1 k x, T.2.2) := by
  refine ⟨fun j hj => ?_, fun i hi => ⟨?_, ?_, ?_⟩⟩
  · simp only [upd]; rw [if_neg (by omega)]; exact h.1 j hj
  · show upd r _ x _ = upd T.2.1 k x i
    simp only [upd]
    by_cases e : i = k
    · subst e; rw [if_pos rfl, if_pos rfl]
    · rw [if_neg (by omega), if_neg e]; exact (h.2 i hi).1
  · simp only [upd]; rw [if_neg (by omega)]; exact (h.2 i hi).2.1
  · simp only [upd]; rw [if_neg (by omega)]; exact (h.2 i hi).2.2
theorem MP.fr {r : Nat → Int32} {t : Nat} {T : mT} (h : MP r t T) {k : Nat} (hk : k < 16) (x : Int32) : MP (upd r (12 + 54 * t + 3 * k) x) t (T.1, T.2.1, upd T.2.2.1 k x, T.2.2.2) := by
  refine ⟨fun j hj => ?_, fun i hi => ⟨?_, ?_, ?_⟩⟩
  · simp only [upd]; rw [if_neg (by omega)]; exact h.1 j hj
  · simp only [upd]; rw [if_neg (by omega)]; exact (h.2 i hi).1
  · show upd r _ x _ = upd T.2.2.1 k x i
    simp only [upd]
    by_cases e : i = k
    · subst e; rw [if_pos rfl, if_pos rfl]
    · rw [if_neg (by omega), if_neg e]; exact (h.2 i hi).2.1
  · simp only [upd]; rw [if_neg (by omega)]; exact (h.2 i hi).2.2
theorem MP.tm {r : Nat → Int32} {t : Nat} {T : mT} (h : MP r t T) {k : Nat} (hk : k < 16) (x : Int32) : MP (upd r (13 + 54 * t + 3 * k) x) t (T.1, T.2.1, T.2.2.1, upd T.2.2.2 k x) := by
  refine ⟨fun j hj => ?_, fun i hi => ⟨?_, ?_, ?_⟩⟩
  · simp only [upd]; rw [if_neg (by omega)]; exact h.1 j hj
  · simp only [upd]; rw [if_neg (by omega)]; exact (h.2 i hi).1
  · simp only [upd]; rw [if_neg (by omega)]; exact (h.2 i hi).2.1
  · show upd r _ x _ = upd T.2.2.2 k x i
    simp only [upd]
    by_cases e : i = k
    · subst e; rw [if_pos rfl, if_pos rfl]
    · rw [if_neg (by omega), if_neg e]; exact (h.2 i hi).2.2
theorem ix1 {x w : Int32} {t W : Nat} (hx : x = nI t) (hw : w = nI W) : 5 + 54 * x + w = nI (5 + 54 * t + W) := by
  rw [hx, hw, show (5 : Int32) = nI 5 from rfl, show (54 : Int32) = nI 54 from rfl, pk_mul, nI_add, nI_add]
theorem ix2 {x y w : Int32} {t k W : Nat} (hx : x = nI t) (hy : y = nI k) (hw : w = nI W) : 5 + 54 * x + 6 + 3 * y + w = nI (11 + W + 54 * t + 3 * k) := by
  rw [hx, hy, hw, show (5 : Int32) = nI 5 from rfl, show (54 : Int32) = nI 54 from rfl, show (6 : Int32) = nI 6 from rfl, show (3 : Int32) = nI 3 from rfl, pk_mul, pk_mul, nI_add, nI_add, nI_add, nI_add]
  congr 1
  omega
theorem lg_lt (x y : Int64) : lg_cmp x y < 0 ↔ x < y := by
  have h := lg_cmp_ge x y
  rw [← Int32.not_le, h, Int64.not_le]
theorem lg_gt (x y : Int64) : 0 < lg_cmp x y ↔ y < x := by
  unfold lg_cmp
  by_cases h : x > y
  · rw [if_pos h]; exact ⟨fun _ => h, fun _ => by decide⟩
  · rw [if_neg h]
    by_cases h2 : x = y
    · rw [if_pos h2]; exact ⟨fun z => absurd z (by decide), fun z => absurd z h⟩
    · rw [if_neg h2]; exact ⟨fun z => absurd z (by decide), fun z => absurd z h⟩
theorem wid_le (a b : Int32) : a.toInt64 ≤ b.toInt64 ↔ a ≤ b := by
  rw [Int64.le_iff_toInt_le, Int32.le_iff_toInt_le, Int32.toInt_toInt64, Int32.toInt_toInt64]
section MODEL
variable {G : mG} {d : Nat} {S : mS}
theorem t_X5_in {x : Int64} {a b : Int32} : Call G d M_X5_in [.long x, .int a, .int b] S (fun v u => v = some (bI (decide (a.toInt64 ≤ x ∧ x ≤ b.toInt64))) ∧ u = S) := by
  refine call_of (lo := [(0, .long x), (2, .int a), (3, .int b)]) (by decide +kernel) (Nat.le_of_ble_eq_true rfl) rfl ?_
  refine r_lload_n dX5_in_0 0 rfl ?_
  refine r_iload_n dX5_in_1 1 rfl ?_
  refine r_i2l dX5_in_2 ?_
  refine r_lcmp dX5_in_3 ?_
  refine r_if_lt dX5_in_4 (tgt := 18) (by decide) (fun h4 => ?_) (fun h4 => ?_)
  · --t
    refine r_iconst dX5_in_18 (v := 0) rfl ?_
    refine r_zret rfl (by first | rfl | decide) dX5_in_19 ?_
    refine ⟨?_, rfl⟩
    congr 1
    rw [lg_lt] at h4
    first
      | (rw [lg_gt] at h11; rw [decide_eq_false (fun z => absurd z.2 (Int64.not_le.mpr h11))]; rfl)
      | (rw [lg_gt] at h11; rw [decide_eq_true ⟨Int64.not_lt.mp h4, Int64.not_lt.mp h11⟩]; rfl)
      | (rw [decide_eq_false (fun z => absurd z.1 (Int64.not_le.mpr h4))]; rfl)
  · --f
    refine r_lload_n dX5_in_7 0 rfl ?_
    refine r_iload_n dX5_in_8 2 rfl ?_
    refine r_i2l dX5_in_9 ?_
    refine r_lcmp dX5_in_10 ?_
    refine r_if_gt dX5_in_11 (tgt := 18) (by decide) (fun h11 => ?_) (fun h11 => ?_)
    · --t
      refine r_iconst dX5_in_18 (v := 0) rfl ?_
      refine r_zret rfl (by first | rfl | decide) dX5_in_19 ?_
      refine ⟨?_, rfl⟩
      congr 1
      rw [lg_lt] at h4
      first
        | (rw [lg_gt] at h11; rw [decide_eq_false (fun z => absurd z.2 (Int64.not_le.mpr h11))]; rfl)
        | (rw [lg_gt] at h11; rw [decide_eq_true ⟨Int64.not_lt.mp h4, Int64.not_lt.mp h11⟩]; rfl)
        | (rw [decide_eq_false (fun z => absurd z.1 (Int64.not_le.mpr h4))]; rfl)
    · --f
      refine r_iconst dX5_in_14 (v := 1) rfl ?_
      refine r_goto dX5_in_15 (tgt := 19) (by decide) ?_
      refine r_zret rfl (by first | rfl | decide) dX5_in_19 ?_
      refine ⟨?_, rfl⟩
      congr 1
      rw [lg_lt] at h4
      first
        | (rw [lg_gt] at h11; rw [decide_eq_false (fun z => absurd z.2 (Int64.not_le.mpr h11))]; rfl)
        | (rw [lg_gt] at h11; rw [decide_eq_true ⟨Int64.not_lt.mp h4, Int64.not_lt.mp h11⟩]; rfl)
        | (rw [decide_eq_false (fun z => absurd z.1 (Int64.not_le.mpr h4))]; rfl)
theorem in_i {x : Int32} {a b : Int32} : Call G d M_X5_in [.long x.toInt64, .int a, .int b] S (fun v u => v = some (bI (decide (a ≤ x ∧ x ≤ b))) ∧ u = S) := by
  have h := @t_X5_in G d S x.toInt64 a b
  simp only [wid_le] at h
  exact h
variable {t k : Nat} {T : mT}
theorem t_X5_its {w : Int32} {W : Nat} (hw : w = nI W) (hW : W < 6) (ht : t < 5) (hT : MP (S 191) t T) : Call G d M_X5_its [rv G 190, .int (nI t), .int w] S (fun v u => v = some (T.1 W) ∧ u = S) := by
  refine call_of (lo := [(0, rv G 190), (1, .int (nI t)), (2, .int w)]) (by decide +kernel) (Nat.le_of_ble_eq_true rfl) rfl ?_
  have hj : 5 + 54 * t + W < ln 191 := show 5 + 54 * t + W < 275 by omega
  refine r_aload_n dX5_its_0 0 rfl ?_
  refine r_getR (b := 191) (by first | assumption | rfl) f_X5_7 rfl rfl dX5_its_1 rfl ?_
  refine r_iconst dX5_its_4 (v := 5) rfl ?_
  refine r_bipush dX5_its_5 (v := 54) (by decide +kernel) ?_
  refine r_iload_n dX5_its_7 1 rfl ?_
  refine r_imul dX5_its_8 ?_
  refine r_iadd dX5_its_9 ?_
  refine r_iload_n dX5_its_10 2 rfl ?_
  refine r_iadd dX5_its_11 ?_
  refine r_iald (j := _) (by first | assumption | rfl) (ix1 rfl hw) hj dX5_its_12 ?_
  refine r_iret rfl dX5_its_13 ?_
  exact ⟨by rw [hT.1 W hW], rfl⟩
theorem t_X5_lay {w x : Int32} {W : Nat} (hw : w = nI W) (hW : W < 6) (ht : t < 5) (hT : MP (S 191) t T) : Call G d M_X5_lay [rv G 190, .int (nI t), .int w, .int x] S (fun v u => v = none ∧ MP (u 191) t (upd T.1 W x, T.2) ∧ FM t S u) := by
  refine call_of (lo := [(0, rv G 190), (1, .int (nI t)), (2, .int w), (3, .int x)]) (by decide +kernel) (Nat.le_of_ble_eq_true rfl) rfl ?_
  have hj : 5 + 54 * t + W < ln 191 := show 5 + 54 * t + W < 275 by omega
  refine r_aload_n dX5_lay_0 0 rfl ?_
  refine r_getR (b := 191) (by first | assumption | rfl) f_X5_7 rfl rfl dX5_lay_1 rfl ?_
  refine r_iconst dX5_lay_4 (v := 5) rfl ?_
  refine r_bipush dX5_lay_5 (v := 54) (by decide +kernel) ?_
  refine r_iload_n dX5_lay_7 1 rfl ?_
  refine r_imul dX5_lay_8 ?_
  refine r_iadd dX5_lay_9 ?_
  refine r_iload_n dX5_lay_10 2 rfl ?_
  refine r_iadd dX5_lay_11 ?_
  refine r_iload_n dX5_lay_12 3 rfl ?_
  refine r_iast (j := _) (by first | assumption | rfl) (ix1 rfl hw) hj dX5_lay_13 ?_
  refine r_vret rfl dX5_lay_14 ?_
  exact ⟨rfl, by rw [up1_s]; exact hT.lay hW x, FM.rf.up (by omega) (by omega)⟩
theorem t_X5_scout0 (hk : k < 16) (ht : t < 5) (hT : MP (S 191) t T) : Call G d M_X5_scout [rv G 190, .int (nI t), .int (nI k), .int 0] S (fun v u => v = some (T.2.1 k) ∧ u = S) := by
  refine call_of (lo := [(0, rv G 190), (1, .int (nI t)), (2, .int (nI k)), (3, .int 0)]) (by decide +kernel) (Nat.le_of_ble_eq_true rfl) rfl ?_
  have hj : 11 + 0 + 54 * t + 3 * k < ln 191 := show 11 + 0 + 54 * t + 3 * k < 275 by omega
  refine r_aload_n dX5_scout_0 0 rfl ?_
  refine r_getR (b := 191) (by first | assumption | rfl) f_X5_7 rfl rfl dX5_scout_1 rfl ?_
  refine r_iconst dX5_scout_4 (v := 5) rfl ?_
  refine r_bipush dX5_scout_5 (v := 54) (by decide +kernel) ?_
  refine r_iload_n dX5_scout_7 1 rfl ?_
  refine r_imul dX5_scout_8 ?_
  refine r_iadd dX5_scout_9 ?_
  refine r_bipush dX5_scout_10 (v := 6) (by decide +kernel) ?_
  refine r_iadd dX5_scout_12 ?_
  refine r_iconst dX5_scout_13 (v := 3) rfl ?_
  refine r_iload_n dX5_scout_14 2 rfl ?_
  refine r_imul dX5_scout_15 ?_
  refine r_iadd dX5_scout_16 ?_
  refine r_iload_n dX5_scout_17 3 rfl ?_
  refine r_iadd dX5_scout_18 ?_
  refine r_iald (j := _) (by first | assumption | rfl) (ix2 (W := 0) rfl rfl rfl) hj dX5_scout_19 ?_
  refine r_iret rfl dX5_scout_20 ?_
  exact ⟨congrArg some (hT.2 k hk).1, rfl⟩
theorem t_X5_scout1 (hk : k < 16) (ht : t < 5) (hT : MP (S 191) t T) : Call G d M_X5_scout [rv G 190, .int (nI t), .int (nI k), .int 1] S (fun v u => v = some (T.2.2.1 k) ∧ u = S) := by
  refine call_of (lo := [(0, rv G 190), (1, .int (nI t)), (2, .int (nI k)), (3, .int 1)]) (by decide +kernel) (Nat.le_of_ble_eq_true rfl) rfl ?_
  have hj : 11 + 1 + 54 * t + 3 * k < ln 191 := show 11 + 1 + 54 * t + 3 * k < 275 by omega
  refine r_aload_n dX5_scout_0 0 rfl ?_
  refine r_getR (b := 191) (by first | assumption | rfl) f_X5_7 rfl rfl dX5_scout_1 rfl ?_
  refine r_iconst dX5_scout_4 (v := 5) rfl ?_
  refine r_bipush dX5_scout_5 (v := 54) (by decide +kernel) ?_
  refine r_iload_n dX5_scout_7 1 rfl ?_
  refine r_imul dX5_scout_8 ?_
  refine r_iadd dX5_scout_9 ?_
  refine r_bipush dX5_scout_10 (v := 6) (by decide +kernel) ?_
  refine r_iadd dX5_scout_12 ?_
  refine r_iconst dX5_scout_13 (v := 3) rfl ?_
  refine r_iload_n dX5_scout_14 2 rfl ?_
  refine r_imul dX5_scout_15 ?_
  refine r_iadd dX5_scout_16 ?_
  refine r_iload_n dX5_scout_17 3 rfl ?_
  refine r_iadd dX5_scout_18 ?_
  refine r_iald (j := _) (by first | assumption | rfl) (ix2 (W := 1) rfl rfl rfl) hj dX5_scout_19 ?_
  refine r_iret rfl dX5_scout_20 ?_
  exact ⟨congrArg some (hT.2 k hk).2.1, rfl⟩
theorem t_X5_scout2 (hk : k < 16) (ht : t < 5) (hT : MP (S 191) t T) : Call G d M_X5_scout [rv G 190, .int (nI t), .int (nI k), .int 2] S (fun v u => v = some (T.2.2.2 k) ∧ u = S) := by
  refine call_of (lo := [(0, rv G 190), (1, .int (nI t)), (2, .int (nI k)), (3, .int 2)]) (by decide +kernel) (Nat.le_of_ble_eq_true rfl) rfl ?_
  have hj : 11 + 2 + 54 * t + 3 * k < ln 191 := show 11 + 2 + 54 * t + 3 * k < 275 by omega
  refine r_aload_n dX5_scout_0 0 rfl ?_
  refine r_getR (b := 191) (by first | assumption | rfl) f_X5_7 rfl rfl dX5_scout_1 rfl ?_
  refine r_iconst dX5_scout_4 (v := 5) rfl ?_
  refine r_bipush dX5_scout_5 (v := 54) (by decide +kernel) ?_
  refine r_iload_n dX5_scout_7 1 rfl ?_
  refine r_imul dX5_scout_8 ?_
  refine r_iadd dX5_scout_9 ?_
  refine r_bipush dX5_scout_10 (v := 6) (by decide +kernel) ?_
  refine r_iadd dX5_scout_12 ?_
  refine r_iconst dX5_scout_13 (v := 3) rfl ?_
  refine r_iload_n dX5_scout_14 2 rfl ?_
  refine r_imul dX5_scout_15 ?_
  refine r_iadd dX5_scout_16 ?_
  refine r_iload_n dX5_scout_17 3 rfl ?_
  refine r_iadd dX5_scout_18 ?_
  refine r_iald (j := _) (by first | assumption | rfl) (ix2 (W := 2) rfl rfl rfl) hj dX5_scout_19 ?_
  refine r_iret rfl dX5_scout_20 ?_
  exact ⟨congrArg some (hT.2 k hk).2.2, rfl⟩
theorem t_X5_layScout {x m : Int32} (hk : k < 16) (ht : t < 5) (hT : MP (S 191) t T) : Call G d M_X5_layScout [rv G 190, .int (nI t), .int (nI k), .int x, .int m] S (fun v u => v = none ∧ MP (u 191) t (T.1, upd T.2.1 k x, upd T.2.2.1 k m, T.2.2.2) ∧ FM t S u) := by
  refine call_of (lo := [(0, rv G 190), (1, .int (nI t)), (2, .int (nI k)), (3, .int x), (4, .int m)]) (by decide +kernel) (Nat.le_of_ble_eq_true rfl) rfl ?_
  have hj0 : 11 + 0 + 54 * t + 3 * k < ln 191 := show 11 + 0 + 54 * t + 3 * k < 275 by omega
  have hj1 : 11 + 1 + 54 * t + 3 * k < ln 191 := show 11 + 1 + 54 * t + 3 * k < 275 by omega
  refine r_aload_n dX5_layScout_0 0 rfl ?_
  refine r_getR (b := 191) (by first | assumption | rfl) f_X5_7 rfl rfl dX5_layScout_1 rfl ?_
  refine r_iconst dX5_layScout_4 (v := 5) rfl ?_
  refine r_bipush dX5_layScout_5 (v := 54) (by decide +kernel) ?_
  refine r_iload_n dX5_layScout_7 1 rfl ?_
  refine r_imul dX5_layScout_8 ?_
  refine r_iadd dX5_layScout_9 ?_
  refine r_bipush dX5_layScout_10 (v := 6) (by decide +kernel) ?_
  refine r_iadd dX5_layScout_12 ?_
  refine r_iconst dX5_layScout_13 (v := 3) rfl ?_
  refine r_iload_n dX5_layScout_14 2 rfl ?_
  refine r_imul dX5_layScout_15 ?_
  refine r_iadd dX5_layScout_16 ?_
  refine r_iconst dX5_layScout_17 (v := 0) rfl ?_
  refine r_iadd dX5_layScout_18 ?_
  refine r_iload_n dX5_layScout_19 3 rfl ?_
  refine r_iast (j := _) (by first | assumption | rfl) (ix2 (W := 0) rfl rfl rfl) hj0 dX5_layScout_20 ?_
  refine r_aload_n dX5_layScout_21 0 rfl ?_
  refine r_getR (b := 191) (by first | assumption | rfl) f_X5_7 rfl rfl dX5_layScout_22 rfl ?_
  refine r_iconst dX5_layScout_25 (v := 5) rfl ?_
  refine r_bipush dX5_layScout_26 (v := 54) (by decide +kernel) ?_
  refine r_iload_n dX5_layScout_28 1 rfl ?_
  refine r_imul dX5_layScout_29 ?_
  refine r_iadd dX5_layScout_30 ?_
  refine r_bipush dX5_layScout_31 (v := 6) (by decide +kernel) ?_
  refine r_iadd dX5_layScout_33 ?_
  refine r_iconst dX5_layScout_34 (v := 3) rfl ?_
  refine r_iload_n dX5_layScout_35 2 rfl ?_
  refine r_imul dX5_layScout_36 ?_
  refine r_iadd dX5_layScout_37 ?_
  refine r_iconst dX5_layScout_38 (v := 1) rfl ?_
  refine r_iadd dX5_layScout_39 ?_
  refine r_iload dX5_layScout_40 4 rfl ?_
  refine r_iast (j := _) (by first | assumption | rfl) (ix2 (W := 1) rfl rfl rfl) hj1 dX5_layScout_42 ?_
  refine r_vret rfl dX5_layScout_43 ?_
  exact ⟨rfl, by rw [up1_s, up1_s]; exact (hT.hw hk x).fr hk m, (FM.rf.up (by omega) (by omega)).up (by omega) (by omega)⟩
theorem t_X5_clear (hk : k < 16) (ht : t < 5) (hT : MP (S 191) t T) : Call G (d + 1) M_X5_clear [rv G 190, .int (nI t), .int (nI k)] S (fun v u => v = none ∧ MP (u 191) t (T.1, upd T.2.1 k 0, upd T.2.2.1 k 0, upd T.2.2.2 k 0) ∧ FM t S u) := by
  refine call_of (lo := [(0, rv G 190), (1, .int (nI t)), (2, .int (nI k))]) (by decide +kernel) (Nat.le_of_ble_eq_true rfl) rfl ?_
  have hj : 11 + 2 + 54 * t + 3 * k < ln 191 := show 11 + 2 + 54 * t + 3 * k < 275 by omega
  refine r_aload_n dX5_clear_0 0 rfl ?_
  refine r_iload_n dX5_clear_1 1 rfl ?_
  refine r_iload_n dX5_clear_2 2 rfl ?_
  refine r_iconst dX5_clear_3 (v := 0) rfl ?_
  refine r_iconst dX5_clear_4 (v := 0) rfl ?_
  refine r_callVv (As := [_, _, _, _]) c_X5_layScout (by first | assumption | rfl) l_X5_66 rfl rfl rfl (Nat.le_of_ble_eq_true rfl) dX5_clear_5 (t_X5_layScout hk ht hT) (fun u5 q5 => ?_)
  obtain ⟨-, g1, f1⟩ := q5
  refine r_aload_n dX5_clear_8 0 rfl ?_
  refine r_getR (b := 191) (by first | assumption | rfl) f_X5_7 rfl rfl dX5_clear_9 rfl ?_
  refine r_iconst dX5_clear_12 (v := 5) rfl ?_
  refine r_bipush dX5_clear_13 (v := 54) (by decide +kernel) ?_
  refine r_iload_n dX5_clear_15 1 rfl ?_
  refine r_imul dX5_clear_16 ?_
  refine r_iadd dX5_clear_17 ?_
  refine r_bipush dX5_clear_18 (v := 6) (by decide +kernel) ?_
  refine r_iadd dX5_clear_20 ?_
  refine r_iconst dX5_clear_21 (v := 3) rfl ?_
  refine r_iload_n dX5_clear_22 2 rfl ?_
  refine r_imul dX5_clear_23 ?_
  refine r_iadd dX5_clear_24 ?_
  refine r_iconst dX5_clear_25 (v := 2) rfl ?_
  refine r_iadd dX5_clear_26 ?_
  refine r_iconst dX5_clear_27 (v := 0) rfl ?_
  refine r_iast (j := _) (by first | assumption | rfl) (ix2 (W := 2) rfl rfl rfl) hj dX5_clear_28 ?_
  refine r_vret rfl dX5_clear_29 ?_
  exact ⟨rfl, by rw [up1_s]; exact g1.tm hk 0, f1.up (by omega) (by omega)⟩
theorem t_X5_isStruck (hk : k < 16) (ht : t < 5) (hT : MP (S 191) t T) : Call G (d + 1) M_X5_isStruck [rv G 190, .int (nI t), .int (nI k)] S (fun v u => v = some (bI (bt (T.1 5) k)) ∧ u = S) := by
  refine call_of (lo := [(0, rv G 190), (1, .int (nI t)), (2, .int (nI k))]) (by decide +kernel) (Nat.le_of_ble_eq_true rfl) rfl ?_
  refine r_aload_n dX5_isStruck_0 0 rfl ?_
  refine r_iload_n dX5_isStruck_1 1 rfl ?_
  refine r_iconst dX5_isStruck_2 (v := 5) rfl ?_
  refine r_callViF (As := [_, _]) c_X5_its (by first | assumption | rfl) l_X5_43 rfl rfl rfl (Nat.le_of_ble_eq_true rfl) dX5_isStruck_3 (t_X5_its (W := 5) rfl (by decide) ht hT) ?_
  refine r_iload_n dX5_isStruck_6 2 rfl ?_
  refine r_ishr dX5_isStruck_7 ?_
  refine r_iconst dX5_isStruck_8 (v := 1) rfl ?_
  refine r_iand dX5_isStruck_9 ?_
  refine r_iconst dX5_isStruck_10 (v := 1) rfl ?_
  refine r_icmp_ne dX5_isStruck_11 (tgt := 18) (by decide) (fun h11 => ?_) (fun h11 => ?_)
  · --t
    refine r_iconst dX5_isStruck_18 (v := 0) rfl ?_
    refine r_zret rfl (by first | rfl | decide) dX5_isStruck_19 ?_
    rw [bt_and1 _ (show k < 32 by omega)] at h11
    cases e : bt (T.1 5) k <;> rw [e] at h11
    · exact ⟨by first | rfl | exact absurd h11 (by decide), rfl⟩
    · exact ⟨by first | rfl | exact absurd rfl h11, rfl⟩
  · --f
    refine r_iconst dX5_isStruck_14 (v := 1) rfl ?_
    refine r_goto dX5_isStruck_15 (tgt := 19) (by decide) ?_
    refine r_zret rfl (by first | rfl | decide) dX5_isStruck_19 ?_
    rw [bt_and1 _ (show k < 32 by omega)] at h11
    cases e : bt (T.1 5) k <;> rw [e] at h11
    · exact ⟨by first | rfl | exact absurd h11 (by decide), rfl⟩
    · exact ⟨by first | rfl | exact absurd rfl h11, rfl⟩
/-- those who are so, as the reference tells them -/
def thM (T : mT) (h : Int32) : Int32 := mkm (fun k => (decide (k < tsz T) || h == 3) && (T.2.1 k == h)) 16
theorem thM_hm {T : mT} (hW : WF T) {h : Int32} (hh : h ≠ 0) : thM T h = hm T h := by
  refine mkm_congr 16 fun k hk => ?_
  by_cases e : T.2.1 k = h
  · by_cases e2 : k < tsz T
    · simp [e2, e]
    · have := (hW.2.2 k hk).2.1 (by omega)
      rw [e] at this
      rcases this with z | z
      · exact absurd z hh
      · simp [z, e]
  · simp [e]
theorem thM_0 {T : mT} : thM T 0 = mkm (fun k => decide (k < tsz T) && (T.2.1 k == 0)) 16 := by
  refine mkm_congr 16 fun k hk => ?_
  have : ((0 : Int32) == 3) = false := by decide
  simp [this]
theorem lp_X5_those {h : Int32} {Q : Option Int32 → mS → Prop} (ht : t < 5) (hW : WF T) (hT : MP (S 191) t T) (hx : Q (some (thM T h)) S) : ∀ n k (lo5 : List (Nat × Value)), (lo5 = [] ∨ ∃ y, lo5 = [(5, .int y)]) → n + k = 16 → At G (d + 1) M_X5_those Q 5 ([(0, rv G 190), (1, .int (nI t)), (2, .int h), (3, .int (mkm (fun k => (decide (k < tsz T) || h == 3) && (T.2.1 k == h)) k)), (4, .int (nI k))] ++ lo5) [] S := by
  obtain ⟨s, es, e2, e3, e4⟩ := hW.sz
  intro n
  induction n with
  | zero =>
    intro k lo5 h5 hk
    obtain rfl : k = 16 := by omega
    refine r_sub [0, 1, 2, 3, 4] (lo2 := [(0, _), (1, _), (2, _), (3, _), (4, _)]) rfl ?_
    refine r_iload dX5_those_5 4 rfl ?_
    refine r_bipush dX5_those_7 (v := 16) (by decide +kernel) ?_
    refine r_icmp_ge dX5_those_9 (tgt := 69) (by decide) (fun h9 => ?_) (fun h9 => ?_)
    · --t
      refine r_iload_n dX5_those_69 3 rfl ?_
      refine r_iret rfl dX5_those_70 ?_
      exact hx
    · --f
      exact absurd (show (16 : Int32) ≤ nI 16 by decide) h9
  | succ n ih =>
    intro k lo5 h5 hk
    have hk16 : k < 16 := by omega
    refine r_sub [0, 1, 2, 3, 4] (lo2 := [(0, _), (1, _), (2, _), (3, _), (4, _)]) rfl ?_
    have hlt : nI k < T.1 0 ↔ k < tsz T := by rw [e2, es, nI_ltI (by omega) (by omega)]
    refine r_iload dX5_those_5 4 rfl ?_
    refine r_bipush dX5_those_7 (v := 16) (by decide +kernel) ?_
    refine r_icmp_ge dX5_those_9 (tgt := 69) (by decide) (fun h9 => ?_) (fun h9 => ?_)
    · --t
      exact absurd h9 (c16 hk16)
    · --f
      refine r_iload dX5_those_12 4 rfl ?_
      refine r_aload_n dX5_those_14 0 rfl ?_
      refine r_iload_n dX5_those_15 1 rfl ?_
      refine r_iconst dX5_those_16 (v := 0) rfl ?_
      refine r_callViF (As := [_, _]) c_X5_its (by first | assumption | rfl) l_X5_43 rfl rfl rfl (Nat.le_of_ble_eq_true rfl) dX5_those_17 (t_X5_its (W := 0) rfl (by decide) ht hT) ?_
      refine r_icmp_lt dX5_those_20 (tgt := 28) (by decide) (fun h20 => ?_) (fun h20 => ?_)
      · --t
        refine r_aload_n dX5_those_28 0 rfl ?_
        refine r_iload_n dX5_those_29 1 rfl ?_
        refine r_iload dX5_those_30 4 rfl ?_
        refine r_iconst dX5_those_32 (v := 0) rfl ?_
        refine r_callViF (As := [_, _, _]) c_X5_scout (by first | assumption | rfl) l_X5_47 rfl rfl rfl (Nat.le_of_ble_eq_true rfl) dX5_those_33 (t_X5_scout0 hk16 ht hT) ?_
        refine r_iload_n dX5_those_36 2 rfl ?_
        refine r_icmp_ne dX5_those_37 (tgt := 44) (by decide) (fun h37 => ?_) (fun h37 => ?_)
        · --t
          refine r_iconst dX5_those_44 (v := 0) rfl ?_
          refine r_istore (lo2 := [(0, _), (1, _), (2, _), (3, _), (4, _), (5, _)]) dX5_those_45 (Nat.le_of_ble_eq_true rfl) [1, 2, 3, 4, 5, 0] rfl ?_
          refine r_iload_n dX5_those_47 3 rfl ?_
          refine r_iload dX5_those_48 5 rfl ?_
          refine r_if_eq dX5_those_50 (tgt := 60) (by decide) (fun h50 => ?_) (fun h50 => ?_)
          · --t
            refine r_iconst dX5_those_60 (v := 0) rfl ?_
            refine r_ior dX5_those_61 ?_
            refine r_istore_n (lo2 := [(0, _), (1, _), (2, _), (3, _), (4, _), (5, _)]) dX5_those_62 rfl (Nat.le_of_ble_eq_true rfl) [1, 2, 3, 0, 4, 5] rfl ?_
            refine r_iinc (lo2 := [(0, _), (1, _), (2, _), (3, _), (4, _), (5, _)]) dX5_those_63 4 rfl (w := 1) rfl (Nat.le_of_ble_eq_true rfl) [1, 2, 3, 4, 0, 5] rfl ?_
            refine r_goto dX5_those_66 (tgt := 5) (by decide) ?_
            rw [nI_1]
            have zt : ((decide (k < tsz T) || h == 3) && (T.2.1 k == h)) = true → _ := fun hp => by
              have z := ih (k + 1) [(5, .int 1)] (Or.inr ⟨_, rfl⟩) (by omega)
              rw [mkm, if_pos hp] at z
              exact z
            have zf : ((decide (k < tsz T) || h == 3) && (T.2.1 k == h)) = false → _ := fun hp => by
              have z := ih (k + 1) [(5, .int 0)] (Or.inr ⟨_, rfl⟩) (by omega)
              rw [mkm, if_neg (by rw [hp]; decide)] at z
              exact z
            rw [hlt] at h20
            clear ih hx
            first
              | exact absurd h50 (by decide)
              | exact absurd rfl h50
              | (refine zt ?_; clear zt zf; simp_all; done)
              | (refine zf ?_; clear zt zf; simp_all; done)
              | (refine zf ?_; clear zt zf; simp_all; intro z; omega)
          · --f
            refine r_iconst dX5_those_53 (v := 1) rfl ?_
            refine r_iload dX5_those_54 4 rfl ?_
            refine r_ishl dX5_those_56 ?_
            refine r_goto dX5_those_57 (tgt := 61) (by decide) ?_
            refine r_ior dX5_those_61 ?_
            refine r_istore_n (lo2 := [(0, _), (1, _), (2, _), (3, _), (4, _), (5, _)]) dX5_those_62 rfl (Nat.le_of_ble_eq_true rfl) [1, 2, 3, 0, 4, 5] rfl ?_
            refine r_iinc (lo2 := [(0, _), (1, _), (2, _), (3, _), (4, _), (5, _)]) dX5_those_63 4 rfl (w := 1) rfl (Nat.le_of_ble_eq_true rfl) [1, 2, 3, 4, 0, 5] rfl ?_
            refine r_goto dX5_those_66 (tgt := 5) (by decide) ?_
            rw [nI_1]
            have zt : ((decide (k < tsz T) || h == 3) && (T.2.1 k == h)) = true → _ := fun hp => by
              have z := ih (k + 1) [(5, .int 1)] (Or.inr ⟨_, rfl⟩) (by omega)
              rw [mkm, if_pos hp] at z
              exact z
            have zf : ((decide (k < tsz T) || h == 3) && (T.2.1 k == h)) = false → _ := fun hp => by
              have z := ih (k + 1) [(5, .int 0)] (Or.inr ⟨_, rfl⟩) (by omega)
              rw [mkm, if_neg (by rw [hp]; decide)] at z
              exact z
            rw [hlt] at h20
            clear ih hx
            first
              | exact absurd h50 (by decide)
              | exact absurd rfl h50
              | (refine zt ?_; clear zt zf; simp_all; done)
              | (refine zf ?_; clear zt zf; simp_all; done)
              | (refine zf ?_; clear zt zf; simp_all; intro z; omega)
        · --f
          refine r_iconst dX5_those_40 (v := 1) rfl ?_
          refine r_goto dX5_those_41 (tgt := 45) (by decide) ?_
          refine r_istore (lo2 := [(0, _), (1, _), (2, _), (3, _), (4, _), (5, _)]) dX5_those_45 (Nat.le_of_ble_eq_true rfl) [1, 2, 3, 4, 5, 0] rfl ?_
          refine r_iload_n dX5_those_47 3 rfl ?_
          refine r_iload dX5_those_48 5 rfl ?_
          refine r_if_eq dX5_those_50 (tgt := 60) (by decide) (fun h50 => ?_) (fun h50 => ?_)
          · --t
            refine r_iconst dX5_those_60 (v := 0) rfl ?_
            refine r_ior dX5_those_61 ?_
            refine r_istore_n (lo2 := [(0, _), (1, _), (2, _), (3, _), (4, _), (5, _)]) dX5_those_62 rfl (Nat.le_of_ble_eq_true rfl) [1, 2, 3, 0, 4, 5] rfl ?_
            refine r_iinc (lo2 := [(0, _), (1, _), (2, _), (3, _), (4, _), (5, _)]) dX5_those_63 4 rfl (w := 1) rfl (Nat.le_of_ble_eq_true rfl) [1, 2, 3, 4, 0, 5] rfl ?_
            refine r_goto dX5_those_66 (tgt := 5) (by decide) ?_
            rw [nI_1]
            have zt : ((decide (k < tsz T) || h == 3) && (T.2.1 k == h)) = true → _ := fun hp => by
              have z := ih (k + 1) [(5, .int 1)] (Or.inr ⟨_, rfl⟩) (by omega)
              rw [mkm, if_pos hp] at z
              exact z
            have zf : ((decide (k < tsz T) || h == 3) && (T.2.1 k == h)) = false → _ := fun hp => by
              have z := ih (k + 1) [(5, .int 0)] (Or.inr ⟨_, rfl⟩) (by omega)
              rw [mkm, if_neg (by rw [hp]; decide)] at z
              exact z
            rw [hlt] at h20
            clear ih hx
            first
              | exact absurd h50 (by decide)
              | exact absurd rfl h50
              | (refine zt ?_; clear zt zf; simp_all; done)
              | (refine zf ?_; clear zt zf; simp_all; done)
              | (refine zf ?_; clear zt zf; simp_all; intro z; omega)
          · --f
            refine r_iconst dX5_those_53 (v := 1) rfl ?_
            refine r_iload dX5_those_54 4 rfl ?_
            refine r_ishl dX5_those_56 ?_
            refine r_goto dX5_those_57 (tgt := 61) (by decide) ?_
            refine r_ior dX5_those_61 ?_
            refine r_istore_n (lo2 := [(0, _), (1, _), (2, _), (3, _), (4, _), (5, _)]) dX5_those_62 rfl (Nat.le_of_ble_eq_true rfl) [1, 2, 3, 0, 4, 5] rfl ?_
            refine r_iinc (lo2 := [(0, _), (1, _), (2, _), (3, _), (4, _), (5, _)]) dX5_those_63 4 rfl (w := 1) rfl (Nat.le_of_ble_eq_true rfl) [1, 2, 3, 4, 0, 5] rfl ?_
            refine r_goto dX5_those_66 (tgt := 5) (by decide) ?_
            rw [nI_1]
            have zt : ((decide (k < tsz T) || h == 3) && (T.2.1 k == h)) = true → _ := fun hp => by
              have z := ih (k + 1) [(5, .int 1)] (Or.inr ⟨_, rfl⟩) (by omega)
              rw [mkm, if_pos hp] at z
              exact z
            have zf : ((decide (k < tsz T) || h == 3) && (T.2.1 k == h)) = false → _ := fun hp => by
              have z := ih (k + 1) [(5, .int 0)] (Or.inr ⟨_, rfl⟩) (by omega)
              rw [mkm, if_neg (by rw [hp]; decide)] at z
              exact z
            rw [hlt] at h20
            clear ih hx
            first
              | exact absurd h50 (by decide)
              | exact absurd rfl h50
              | (refine zt ?_; clear zt zf; simp_all; done)
              | (refine zf ?_; clear zt zf; simp_all; done)
              | (refine zf ?_; clear zt zf; simp_all; intro z; omega)
      · --f
        refine r_iload_n dX5_those_23 2 rfl ?_
        refine r_iconst dX5_those_24 (v := 3) rfl ?_
        refine r_icmp_ne dX5_those_25 (tgt := 44) (by decide) (fun h25 => ?_) (fun h25 => ?_)
        · --t
          refine r_iconst dX5_those_44 (v := 0) rfl ?_
          refine r_istore (lo2 := [(0, _), (1, _), (2, _), (3, _), (4, _), (5, _)]) dX5_those_45 (Nat.le_of_ble_eq_true rfl) [1, 2, 3, 4, 5, 0] rfl ?_
          refine r_iload_n dX5_those_47 3 rfl ?_
          refine r_iload dX5_those_48 5 rfl ?_
          refine r_if_eq dX5_those_50 (tgt := 60) (by decide) (fun h50 => ?_) (fun h50 => ?_)
          · --t
            refine r_iconst dX5_those_60 (v := 0) rfl ?_
            refine r_ior dX5_those_61 ?_
            refine r_istore_n (lo2 := [(0, _), (1, _), (2, _), (3, _), (4, _), (5, _)]) dX5_those_62 rfl (Nat.le_of_ble_eq_true rfl) [1, 2, 3, 0, 4, 5] rfl ?_
            refine r_iinc (lo2 := [(0, _), (1, _), (2, _), (3, _), (4, _), (5, _)]) dX5_those_63 4 rfl (w := 1) rfl (Nat.le_of_ble_eq_true rfl) [1, 2, 3, 4, 0, 5] rfl ?_
            refine r_goto dX5_those_66 (tgt := 5) (by decide) ?_
            rw [nI_1]
            have zt : ((decide (k < tsz T) || h == 3) && (T.2.1 k == h)) = true → _ := fun hp => by
              have z := ih (k + 1) [(5, .int 1)] (Or.inr ⟨_, rfl⟩) (by omega)
              rw [mkm, if_pos hp] at z
              exact z
            have zf : ((decide (k < tsz T) || h == 3) && (T.2.1 k == h)) = false → _ := fun hp => by
              have z := ih (k + 1) [(5, .int 0)] (Or.inr ⟨_, rfl⟩) (by omega)
              rw [mkm, if_neg (by rw [hp]; decide)] at z
              exact z
            rw [hlt] at h20
            clear ih hx
            first
              | exact absurd h50 (by decide)
              | exact absurd rfl h50
              | (refine zt ?_; clear zt zf; simp_all; done)
              | (refine zf ?_; clear zt zf; simp_all; done)
              | (refine zf ?_; clear zt zf; simp_all; intro z; omega)
          · --f
            refine r_iconst dX5_those_53 (v := 1) rfl ?_
            refine r_iload dX5_those_54 4 rfl ?_
            refine r_ishl dX5_those_56 ?_
            refine r_goto dX5_those_57 (tgt := 61) (by decide) ?_
            refine r_ior dX5_those_61 ?_
            refine r_istore_n (lo2 := [(0, _), (1, _), (2, _), (3, _), (4, _), (5, _)]) dX5_those_62 rfl (Nat.le_of_ble_eq_true rfl) [1, 2, 3, 0, 4, 5] rfl ?_
            refine r_iinc (lo2 := [(0, _), (1, _), (2, _), (3, _), (4, _), (5, _)]) dX5_those_63 4 rfl (w := 1) rfl (Nat.le_of_ble_eq_true rfl) [1, 2, 3, 4, 0, 5] rfl ?_
            refine r_goto dX5_those_66 (tgt := 5) (by decide) ?_
            rw [nI_1]
            have zt : ((decide (k < tsz T) || h == 3) && (T.2.1 k == h)) = true → _ := fun hp => by
              have z := ih (k + 1) [(5, .int 1)] (Or.inr ⟨_, rfl⟩) (by omega)
              rw [mkm, if_pos hp] at z
              exact z
            have zf : ((decide (k < tsz T) || h == 3) && (T.2.1 k == h)) = false → _ := fun hp => by
              have z := ih (k + 1) [(5, .int 0)] (Or.inr ⟨_, rfl⟩) (by omega)
              rw [mkm, if_neg (by rw [hp]; decide)] at z
              exact z
            rw [hlt] at h20
            clear ih hx
            first
              | exact absurd h50 (by decide)
              | exact absurd rfl h50
              | (refine zt ?_; clear zt zf; simp_all; done)
              | (refine zf ?_; clear zt zf; simp_all; done)
              | (refine zf ?_; clear zt zf; simp_all; intro z; omega)
        · --f
          refine r_aload_n dX5_those_28 0 rfl ?_
          refine r_iload_n dX5_those_29 1 rfl ?_
          refine r_iload dX5_those_30 4 rfl ?_
          refine r_iconst dX5_those_32 (v := 0) rfl ?_
          refine r_callViF (As := [_, _, _]) c_X5_scout (by first | assumption | rfl) l_X5_47 rfl rfl rfl (Nat.le_of_ble_eq_true rfl) dX5_those_33 (t_X5_scout0 hk16 ht hT) ?_
          refine r_iload_n dX5_those_36 2 rfl ?_
          refine r_icmp_ne dX5_those_37 (tgt := 44) (by decide) (fun h37 => ?_) (fun h37 => ?_)
          · --t
            refine r_iconst dX5_those_44 (v := 0) rfl ?_
            refine r_istore (lo2 := [(0, _), (1, _), (2, _), (3, _), (4, _), (5, _)]) dX5_those_45 (Nat.le_of_ble_eq_true rfl) [1, 2, 3, 4, 5, 0] rfl ?_
            refine r_iload_n dX5_those_47 3 rfl ?_
            refine r_iload dX5_those_48 5 rfl ?_
            refine r_if_eq dX5_those_50 (tgt := 60) (by decide) (fun h50 => ?_) (fun h50 => ?_)
            · --t
              refine r_iconst dX5_those_60 (v := 0) rfl ?_
              refine r_ior dX5_those_61 ?_
              refine r_istore_n (lo2 := [(0, _), (1, _), (2, _), (3, _), (4, _), (5, _)]) dX5_those_62 rfl (Nat.le_of_ble_eq_true rfl) [1, 2, 3, 0, 4, 5] rfl ?_
              refine r_iinc (lo2 := [(0, _), (1, _), (2, _), (3, _), (4, _), (5, _)]) dX5_those_63 4 rfl (w := 1) rfl (Nat.le_of_ble_eq_true rfl) [1, 2, 3, 4, 0, 5] rfl ?_
              refine r_goto dX5_those_66 (tgt := 5) (by decide) ?_
              rw [nI_1]
              have zt : ((decide (k < tsz T) || h == 3) && (T.2.1 k == h)) = true → _ := fun hp => by
                have z := ih (k + 1) [(5, .int 1)] (Or.inr ⟨_, rfl⟩) (by omega)
                rw [mkm, if_pos hp] at z
                exact z
              have zf : ((decide (k < tsz T) || h == 3) && (T.2.1 k == h)) = false → _ := fun hp => by
                have z := ih (k + 1) [(5, .int 0)] (Or.inr ⟨_, rfl⟩) (by omega)
                rw [mkm, if_neg (by rw [hp]; decide)] at z
                exact z
              rw [hlt] at h20
              clear ih hx
              first
                | exact absurd h50 (by decide)
                | exact absurd rfl h50
                | (refine zt ?_; clear zt zf; simp_all; done)
                | (refine zf ?_; clear zt zf; simp_all; done)
                | (refine zf ?_; clear zt zf; simp_all; intro z; omega)
            · --f
              refine r_iconst dX5_those_53 (v := 1) rfl ?_
              refine r_iload dX5_those_54 4 rfl ?_
              refine r_ishl dX5_those_56 ?_
              refine r_goto dX5_those_57 (tgt := 61) (by decide) ?_
              refine r_ior dX5_those_61 ?_
              refine r_istore_n (lo2 := [(0, _), (1, _), (2, _), (3, _), (4, _), (5, _)]) dX5_those_62 rfl (Nat.le_of_ble_eq_true rfl) [1, 2, 3, 0, 4, 5] rfl ?_
              refine r_iinc (lo2 := [(0, _), (1, _), (2, _), (3, _), (4, _), (5, _)]) dX5_those_63 4 rfl (w := 1) rfl (Nat.le_of_ble_eq_true rfl) [1, 2, 3, 4, 0, 5] rfl ?_
              refine r_goto dX5_those_66 (tgt := 5) (by decide) ?_
              rw [nI_1]
              have zt : ((decide (k < tsz T) || h == 3) && (T.2.1 k == h)) = true → _ := fun hp => by
                have z := ih (k + 1) [(5, .int 1)] (Or.inr ⟨_, rfl⟩) (by omega)
                rw [mkm, if_pos hp] at z
                exact z
              have zf : ((decide (k < tsz T) || h == 3) && (T.2.1 k == h)) = false → _ := fun hp => by
                have z := ih (k + 1) [(5, .int 0)] (Or.inr ⟨_, rfl⟩) (by omega)
                rw [mkm, if_neg (by rw [hp]; decide)] at z
                exact z
              rw [hlt] at h20
              clear ih hx
              first
                | exact absurd h50 (by decide)
                | exact absurd rfl h50
                | (refine zt ?_; clear zt zf; simp_all; done)
                | (refine zf ?_; clear zt zf; simp_all; done)
                | (refine zf ?_; clear zt zf; simp_all; intro z; omega)
          · --f
            refine r_iconst dX5_those_40 (v := 1) rfl ?_
            refine r_goto dX5_those_41 (tgt := 45) (by decide) ?_
            refine r_istore (lo2 := [(0, _), (1, _), (2, _), (3, _), (4, _), (5, _)]) dX5_those_45 (Nat.le_of_ble_eq_true rfl) [1, 2, 3, 4, 5, 0] rfl ?_
            refine r_iload_n dX5_those_47 3 rfl ?_
            refine r_iload dX5_those_48 5 rfl ?_
            refine r_if_eq dX5_those_50 (tgt := 60) (by decide) (fun h50 => ?_) (fun h50 => ?_)
            · --t
              refine r_iconst dX5_those_60 (v := 0) rfl ?_
              refine r_ior dX5_those_61 ?_
              refine r_istore_n (lo2 := [(0, _), (1, _), (2, _), (3, _), (4, _), (5, _)]) dX5_those_62 rfl (Nat.le_of_ble_eq_true rfl) [1, 2, 3, 0, 4, 5] rfl ?_
              refine r_iinc (lo2 := [(0, _), (1, _), (2, _), (3, _), (4, _), (5, _)]) dX5_those_63 4 rfl (w := 1) rfl (Nat.le_of_ble_eq_true rfl) [1, 2, 3, 4, 0, 5] rfl ?_
              refine r_goto dX5_those_66 (tgt := 5) (by decide) ?_
              rw [nI_1]
              have zt : ((decide (k < tsz T) || h == 3) && (T.2.1 k == h)) = true → _ := fun hp => by
                have z := ih (k + 1) [(5, .int 1)] (Or.inr ⟨_, rfl⟩) (by omega)
                rw [mkm, if_pos hp] at z
                exact z
              have zf : ((decide (k < tsz T) || h == 3) && (T.2.1 k == h)) = false → _ := fun hp => by
                have z := ih (k + 1) [(5, .int 0)] (Or.inr ⟨_, rfl⟩) (by omega)
                rw [mkm, if_neg (by rw [hp]; decide)] at z
                exact z
              rw [hlt] at h20
              clear ih hx
              first
                | exact absurd h50 (by decide)
                | exact absurd rfl h50
                | (refine zt ?_; clear zt zf; simp_all; done)
                | (refine zf ?_; clear zt zf; simp_all; done)
                | (refine zf ?_; clear zt zf; simp_all; intro z; omega)
            · --f
              refine r_iconst dX5_those_53 (v := 1) rfl ?_
              refine r_iload dX5_those_54 4 rfl ?_
              refine r_ishl dX5_those_56 ?_
              refine r_goto dX5_those_57 (tgt := 61) (by decide) ?_
              refine r_ior dX5_those_61 ?_
              refine r_istore_n (lo2 := [(0, _), (1, _), (2, _), (3, _), (4, _), (5, _)]) dX5_those_62 rfl (Nat.le_of_ble_eq_true rfl) [1, 2, 3, 0, 4, 5] rfl ?_
              refine r_iinc (lo2 := [(0, _), (1, _), (2, _), (3, _), (4, _), (5, _)]) dX5_those_63 4 rfl (w := 1) rfl (Nat.le_of_ble_eq_true rfl) [1, 2, 3, 4, 0, 5] rfl ?_
              refine r_goto dX5_those_66 (tgt := 5) (by decide) ?_
              rw [nI_1]
              have zt : ((decide (k < tsz T) || h == 3) && (T.2.1 k == h)) = true → _ := fun hp => by
                have z := ih (k + 1) [(5, .int 1)] (Or.inr ⟨_, rfl⟩) (by omega)
                rw [mkm, if_pos hp] at z
                exact z
              have zf : ((decide (k < tsz T) || h == 3) && (T.2.1 k == h)) = false → _ := fun hp => by
                have z := ih (k + 1) [(5, .int 0)] (Or.inr ⟨_, rfl⟩) (by omega)
                rw [mkm, if_neg (by rw [hp]; decide)] at z
                exact z
              rw [hlt] at h20
              clear ih hx
              first
                | exact absurd h50 (by decide)
                | exact absurd rfl h50
                | (refine zt ?_; clear zt zf; simp_all; done)
                | (refine zf ?_; clear zt zf; simp_all; done)
                | (refine zf ?_; clear zt zf; simp_all; intro z; omega)
theorem t_X5_those {h : Int32} (ht : t < 5) (hW : WF T) (hT : MP (S 191) t T) : Call G (d + 1) M_X5_those [rv G 190, .int (nI t), .int h] S (fun v u => v = some (thM T h) ∧ u = S) := by
  refine call_of (lo := [(0, rv G 190), (1, .int (nI t)), (2, .int h)]) (by decide +kernel) (Nat.le_of_ble_eq_true rfl) rfl ?_
  refine r_iconst dX5_those_0 (v := 0) rfl ?_
  refine r_istore_n (lo2 := [(0, _), (1, _), (2, _), (3, _)]) dX5_those_1 rfl (Nat.le_of_ble_eq_true rfl) [1, 2, 3, 0] rfl ?_
  refine r_iconst dX5_those_2 (v := 0) rfl ?_
  refine r_istore (lo2 := [(0, _), (1, _), (2, _), (3, _), (4, _)]) dX5_those_3 (Nat.le_of_ble_eq_true rfl) [1, 2, 3, 4, 0] rfl ?_
  exact lp_X5_those ht hW hT ⟨rfl, rfl⟩ 16 0 [] (Or.inl rfl) (by omega)
theorem lp_X5_size {m : Int32} {Q : Option Int32 → mS → Prop} (hx : Q (some (szF m 16)) S) : ∀ n k, n + k = 16 → At G d M_X5_size Q 4 [(0, .int m), (1, .int (szF m k)), (2, .int (nI k))] [] S := by
  intro n
  induction n with
  | zero =>
    intro k hk
    obtain rfl : k = 16 := by omega
    refine r_iload_n dX5_size_4 2 rfl ?_
    refine r_bipush dX5_size_5 (v := 16) (by decide +kernel) ?_
    refine r_icmp_ge dX5_size_7 (tgt := 24) (by decide) (fun h7 => ?_) (fun h7 => ?_)
    · --t
      refine r_iload_n dX5_size_24 1 rfl ?_
      refine r_iret rfl dX5_size_25 ?_
      exact hx
    · --f
      exact absurd (show (16 : Int32) ≤ nI 16 by decide) h7
  | succ n ih =>
    intro k hk
    have hk16 : k < 16 := by omega
    refine r_iload_n dX5_size_4 2 rfl ?_
    refine r_bipush dX5_size_5 (v := 16) (by decide +kernel) ?_
    refine r_icmp_ge dX5_size_7 (tgt := 24) (by decide) (fun h7 => ?_) (fun h7 => ?_)
    · --t
      exact absurd h7 (c16 hk16)
    · --f
      refine r_iload_n dX5_size_10 1 rfl ?_
      refine r_iload_n dX5_size_11 0 rfl ?_
      refine r_iload_n dX5_size_12 2 rfl ?_
      refine r_ishr dX5_size_13 ?_
      refine r_iconst dX5_size_14 (v := 1) rfl ?_
      refine r_iand dX5_size_15 ?_
      refine r_iadd dX5_size_16 ?_
      refine r_istore_n (lo2 := [(0, _), (1, _), (2, _)]) dX5_size_17 rfl (Nat.le_of_ble_eq_true rfl) [1, 0, 2] rfl ?_
      refine r_iinc (lo2 := [(0, _), (1, _), (2, _)]) dX5_size_18 2 rfl (w := 1) rfl (Nat.le_of_ble_eq_true rfl) [1, 2, 0] rfl ?_
      refine r_goto dX5_size_21 (tgt := 4) (by decide) ?_
      rw [nI_1]
      exact ih (k + 1) (by omega)
theorem t_X5_size {m : Int32} : Call G d M_X5_size [.int m] S (fun v u => v = some (szF m 16) ∧ u = S) := by
  refine call_of (lo := [(0, .int m)]) (by decide +kernel) (Nat.le_of_ble_eq_true rfl) rfl ?_
  refine r_iconst dX5_size_0 (v := 0) rfl ?_
  refine r_istore_n (lo2 := [(0, _), (1, _)]) dX5_size_1 rfl (Nat.le_of_ble_eq_true rfl) [1, 0] rfl ?_
  refine r_iconst dX5_size_2 (v := 0) rfl ?_
  refine r_istore_n (lo2 := [(0, _), (1, _), (2, _)]) dX5_size_3 rfl (Nat.le_of_ble_eq_true rfl) [1, 2, 0] rfl ?_
  exact lp_X5_size ⟨rfl, rfl⟩ 16 0 (by omega)
def awq (T : mT) (k : Nat) : Bool := !(T.2.1 k == 1) && !(bt (T.1 5) k)
theorem awq_aw {T : mT} {s : Nat} (h : tsz T = s) (h16 : s ≤ 16) : mkm (awq T) s = awM T := by
  refine b_ext fun i hi => ?_
  rw [bt_mkm _ s (by omega) i hi, awM, bt_mkm _ 16 (by omega) i hi]
  unfold awp awq
  rw [h]
  by_cases e : i < s
  · have : i < 16 := by omega
    simp [e, this]
  · simp [e]
theorem lp_X5_awaited {Q : Option Int32 → mS → Prop} (ht : t < 5) (hW : WF T) (hT : MP (S 191) t T) (hx : Q (some (awM T)) S) : ∀ n k, n + k = tsz T → At G (d + 2) M_X5_awaited Q 4 [(0, rv G 190), (1, .int (nI t)), (2, .int (mkm (awq T) k)), (3, .int (nI k))] [] S := by
  obtain ⟨s, es, e2, e3, e4⟩ := hW.sz
  intro n
  induction n with
  | zero =>
    intro k hk
    obtain rfl : k = s := by omega
    refine r_iload_n dX5_awaited_4 3 rfl ?_
    refine r_aload_n dX5_awaited_5 0 rfl ?_
    refine r_iload_n dX5_awaited_6 1 rfl ?_
    refine r_iconst dX5_awaited_7 (v := 0) rfl ?_
    refine r_callViF (As := [_, _]) c_X5_its (by first | assumption | rfl) l_X5_43 rfl rfl rfl (Nat.le_of_ble_eq_true rfl) dX5_awaited_8 (t_X5_its (W := 0) rfl (by decide) ht hT) ?_
    refine r_icmp_ge dX5_awaited_11 (tgt := 50) (by decide) (fun h11 => ?_) (fun h11 => ?_)
    · --t
      refine r_iload_n dX5_awaited_50 2 rfl ?_
      refine r_iret rfl dX5_awaited_51 ?_
      rw [awq_aw es e4]; exact hx
    · --f
      exact absurd (by rw [e2]; exact Int32.le_refl _) h11
  | succ n ih =>
    intro k hk
    have hk16 : k < 16 := by omega
    have hks : k < s := by omega
    refine r_iload_n dX5_awaited_4 3 rfl ?_
    refine r_aload_n dX5_awaited_5 0 rfl ?_
    refine r_iload_n dX5_awaited_6 1 rfl ?_
    refine r_iconst dX5_awaited_7 (v := 0) rfl ?_
    refine r_callViF (As := [_, _]) c_X5_its (by first | assumption | rfl) l_X5_43 rfl rfl rfl (Nat.le_of_ble_eq_true rfl) dX5_awaited_8 (t_X5_its (W := 0) rfl (by decide) ht hT) ?_
    refine r_icmp_ge dX5_awaited_11 (tgt := 50) (by decide) (fun h11 => ?_) (fun h11 => ?_)
    · --t
      exact absurd (by rw [e2] at h11; exact h11) (nI_ge hks (by omega))
    · --f
      refine r_iload_n dX5_awaited_14 2 rfl ?_
      refine r_aload_n dX5_awaited_15 0 rfl ?_
      refine r_iload_n dX5_awaited_16 1 rfl ?_
      refine r_iload_n dX5_awaited_17 3 rfl ?_
      refine r_iconst dX5_awaited_18 (v := 0) rfl ?_
      refine r_callViF (As := [_, _, _]) c_X5_scout (by first | assumption | rfl) l_X5_47 rfl rfl rfl (Nat.le_of_ble_eq_true rfl) dX5_awaited_19 (t_X5_scout0 hk16 ht hT) ?_
      refine r_iconst dX5_awaited_22 (v := 1) rfl ?_
      refine r_icmp_eq dX5_awaited_23 (tgt := 41) (by decide) (fun h23 => ?_) (fun h23 => ?_)
      · --t
        refine r_iconst dX5_awaited_41 (v := 0) rfl ?_
        refine r_ior dX5_awaited_42 ?_
        refine r_istore_n (lo2 := [(0, _), (1, _), (2, _), (3, _)]) dX5_awaited_43 rfl (Nat.le_of_ble_eq_true rfl) [1, 2, 0, 3] rfl ?_
        refine r_iinc (lo2 := [(0, _), (1, _), (2, _), (3, _)]) dX5_awaited_44 3 rfl (w := 1) rfl (Nat.le_of_ble_eq_true rfl) [1, 2, 3, 0] rfl ?_
        refine r_goto dX5_awaited_47 (tgt := 4) (by decide) ?_
        rw [nI_1]
        have z := ih (k + 1) (by omega)
        rw [mkm] at z
        have zt : awq T k = true → _ := fun hp => by
          rw [if_pos hp] at z
          exact z
        have zf : awq T k = false → _ := fun hp => by
          rw [if_neg (by rw [hp]; decide)] at z
          exact z
        clear ih hx z
        first
          | (refine zf ?_; unfold awq; simp [h23]; done)
          | (refine zf ?_; rw [bI_n0] at h32; unfold awq; simp [h32]; done)
          | (refine zt ?_; rw [bI_0] at h32; unfold awq; simp [h23, h32]; done)
      · --f
        refine r_aload_n dX5_awaited_26 0 rfl ?_
        refine r_iload_n dX5_awaited_27 1 rfl ?_
        refine r_iload_n dX5_awaited_28 3 rfl ?_
        refine r_callViF (As := [_, _]) c_X5_isStruck (by first | assumption | rfl) l_X5_51 rfl rfl rfl (Nat.le_of_ble_eq_true rfl) dX5_awaited_29 (t_X5_isStruck hk16 ht hT) ?_
        refine r_if_ne dX5_awaited_32 (tgt := 41) (by decide) (fun h32 => ?_) (fun h32 => ?_)
        · --t
          refine r_iconst dX5_awaited_41 (v := 0) rfl ?_
          refine r_ior dX5_awaited_42 ?_
          refine r_istore_n (lo2 := [(0, _), (1, _), (2, _), (3, _)]) dX5_awaited_43 rfl (Nat.le_of_ble_eq_true rfl) [1, 2, 0, 3] rfl ?_
          refine r_iinc (lo2 := [(0, _), (1, _), (2, _), (3, _)]) dX5_awaited_44 3 rfl (w := 1) rfl (Nat.le_of_ble_eq_true rfl) [1, 2, 3, 0] rfl ?_
          refine r_goto dX5_awaited_47 (tgt := 4) (by decide) ?_
          rw [nI_1]
          have z := ih (k + 1) (by omega)
          rw [mkm] at z
          have zt : awq T k = true → _ := fun hp => by
            rw [if_pos hp] at z
            exact z
          have zf : awq T k = false → _ := fun hp => by
            rw [if_neg (by rw [hp]; decide)] at z
            exact z
          clear ih hx z
          first
            | (refine zf ?_; unfold awq; simp [h23]; done)
            | (refine zf ?_; rw [bI_n0] at h32; unfold awq; simp [h32]; done)
            | (refine zt ?_; rw [bI_0] at h32; unfold awq; simp [h23, h32]; done)
        · --f
          refine r_iconst dX5_awaited_35 (v := 1) rfl ?_
          refine r_iload_n dX5_awaited_36 3 rfl ?_
          refine r_ishl dX5_awaited_37 ?_
          refine r_goto dX5_awaited_38 (tgt := 42) (by decide) ?_
          refine r_ior dX5_awaited_42 ?_
          refine r_istore_n (lo2 := [(0, _), (1, _), (2, _), (3, _)]) dX5_awaited_43 rfl (Nat.le_of_ble_eq_true rfl) [1, 2, 0, 3] rfl ?_
          refine r_iinc (lo2 := [(0, _), (1, _), (2, _), (3, _)]) dX5_awaited_44 3 rfl (w := 1) rfl (Nat.le_of_ble_eq_true rfl) [1, 2, 3, 0] rfl ?_
          refine r_goto dX5_awaited_47 (tgt := 4) (by decide) ?_
          rw [nI_1]
          have z := ih (k + 1) (by omega)
          rw [mkm] at z
          have zt : awq T k = true → _ := fun hp => by
            rw [if_pos hp] at z
            exact z
          have zf : awq T k = false → _ := fun hp => by
            rw [if_neg (by rw [hp]; decide)] at z
            exact z
          clear ih hx z
          first
            | (refine zf ?_; unfold awq; simp [h23]; done)
            | (refine zf ?_; rw [bI_n0] at h32; unfold awq; simp [h32]; done)
            | (refine zt ?_; rw [bI_0] at h32; unfold awq; simp [h23, h32]; done)
theorem t_X5_awaited (ht : t < 5) (hW : WF T) (hT : MP (S 191) t T) : Call G (d + 2) M_X5_awaited [rv G 190, .int (nI t)] S (fun v u => v = some (awM T) ∧ u = S) := by
  refine call_of (lo := [(0, rv G 190), (1, .int (nI t))]) (by decide +kernel) (Nat.le_of_ble_eq_true rfl) rfl ?_
  refine r_iconst dX5_awaited_0 (v := 0) rfl ?_
  refine r_istore_n (lo2 := [(0, _), (1, _), (2, _)]) dX5_awaited_1 rfl (Nat.le_of_ble_eq_true rfl) [1, 2, 0] rfl ?_
  refine r_iconst dX5_awaited_2 (v := 0) rfl ?_
  refine r_istore_n (lo2 := [(0, _), (1, _), (2, _), (3, _)]) dX5_awaited_3 rfl (Nat.le_of_ble_eq_true rfl) [1, 2, 3, 0] rfl ?_
  exact lp_X5_awaited ht hW hT ⟨rfl, rfl⟩ (tsz T) 0 (by omega)
end MODEL
