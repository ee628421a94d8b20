/-! the class's Troop, method by method, over its picture -/
theorem i16 : (16 : Int32).toInt = 16 := by decide
theorem t_J6_bitCount_0f7a4 {G : mG} {d : Nat} {S : mS} {x : Int32} : Call G d M_J6_bitCount_0f7a4 [.int x] S (fun v u => v = some (bcF x) ∧ u = S) := by
  refine call_of (lo := [(0, .int x)]) (by decide +kernel) (Nat.le_of_ble_eq_true rfl) rfl ?_
  refine r_iload_n dJ6_bitCount_0f7a4_0 0 rfl ?_
  refine r_iload_n dJ6_bitCount_0f7a4_1 0 rfl ?_
  refine r_iconst dJ6_bitCount_0f7a4_2 (v := 1) rfl ?_
  refine r_iushr dJ6_bitCount_0f7a4_3 ?_
  refine r_ldcw k_J6_265 dJ6_bitCount_0f7a4_4 ?_
  refine r_iand dJ6_bitCount_0f7a4_7 ?_
  refine r_isub dJ6_bitCount_0f7a4_8 ?_
  refine r_istore_n (lo2 := [(0, _)]) dJ6_bitCount_0f7a4_9 rfl (Nat.le_of_ble_eq_true rfl) [0] rfl ?_
  refine r_iload_n dJ6_bitCount_0f7a4_10 0 rfl ?_
  refine r_ldcw k_J6_266 dJ6_bitCount_0f7a4_11 ?_
  refine r_iand dJ6_bitCount_0f7a4_14 ?_
  refine r_iload_n dJ6_bitCount_0f7a4_15 0 rfl ?_
  refine r_iconst dJ6_bitCount_0f7a4_16 (v := 2) rfl ?_
  refine r_iushr dJ6_bitCount_0f7a4_17 ?_
  refine r_ldcw k_J6_266 dJ6_bitCount_0f7a4_18 ?_
  refine r_iand dJ6_bitCount_0f7a4_21 ?_
  refine r_iadd dJ6_bitCount_0f7a4_22 ?_
  refine r_istore_n (lo2 := [(0, _)]) dJ6_bitCount_0f7a4_23 rfl (Nat.le_of_ble_eq_true rfl) [0] rfl ?_
  refine r_iload_n dJ6_bitCount_0f7a4_24 0 rfl ?_
  refine r_iload_n dJ6_bitCount_0f7a4_25 0 rfl ?_
  refine r_iconst dJ6_bitCount_0f7a4_26 (v := 4) rfl ?_
  refine r_iushr dJ6_bitCount_0f7a4_27 ?_
  refine r_iadd dJ6_bitCount_0f7a4_28 ?_
  refine r_ldcw k_J6_267 dJ6_bitCount_0f7a4_29 ?_
  refine r_iand dJ6_bitCount_0f7a4_32 ?_
  refine r_istore_n (lo2 := [(0, _)]) dJ6_bitCount_0f7a4_33 rfl (Nat.le_of_ble_eq_true rfl) [0] rfl ?_
  refine r_iload_n dJ6_bitCount_0f7a4_34 0 rfl ?_
  refine r_iload_n dJ6_bitCount_0f7a4_35 0 rfl ?_
  refine r_bipush dJ6_bitCount_0f7a4_36 (v := 8) (by decide +kernel) ?_
  refine r_iushr dJ6_bitCount_0f7a4_38 ?_
  refine r_iadd dJ6_bitCount_0f7a4_39 ?_
  refine r_istore_n (lo2 := [(0, _)]) dJ6_bitCount_0f7a4_40 rfl (Nat.le_of_ble_eq_true rfl) [0] rfl ?_
  refine r_iload_n dJ6_bitCount_0f7a4_41 0 rfl ?_
  refine r_iload_n dJ6_bitCount_0f7a4_42 0 rfl ?_
  refine r_bipush dJ6_bitCount_0f7a4_43 (v := 16) (by decide +kernel) ?_
  refine r_iushr dJ6_bitCount_0f7a4_45 ?_
  refine r_iadd dJ6_bitCount_0f7a4_46 ?_
  refine r_istore_n (lo2 := [(0, _)]) dJ6_bitCount_0f7a4_47 rfl (Nat.le_of_ble_eq_true rfl) [0] rfl ?_
  refine r_iload_n dJ6_bitCount_0f7a4_48 0 rfl ?_
  refine r_bipush dJ6_bitCount_0f7a4_49 (v := 63) (by decide +kernel) ?_
  refine r_iand dJ6_bitCount_0f7a4_51 ?_
  refine r_iret rfl dJ6_bitCount_0f7a4_52 ?_
  exact ⟨rfl, rfl⟩
theorem t_X3_isIn {G : mG} {d : Nat} {S : mS} {x y : Int32} {j : Nat} (hy : y = nI j) (hj : j < 32) : Call G d M_X3_isIn [.int x, .int y] S (fun v u => v = some (bI (bt x j)) ∧ u = S) := by
  refine call_of (lo := [(0, .int x), (1, .int y)]) (by decide +kernel) (Nat.le_of_ble_eq_true rfl) rfl ?_
  subst hy
  refine r_iload_n dX3_isIn_0 0 rfl ?_
  refine r_iload_n dX3_isIn_1 1 rfl ?_
  refine r_ishr dX3_isIn_2 ?_
  refine r_iconst dX3_isIn_3 (v := 1) rfl ?_
  refine r_iand dX3_isIn_4 ?_
  refine r_if_eq dX3_isIn_5 (tgt := 12) (by decide) (fun h5 => ?_) (fun h5 => ?_)
  · --t
    refine r_iconst dX3_isIn_12 (v := 0) rfl ?_
    refine r_zret rfl (by first | rfl | decide) dX3_isIn_13 ?_
    rw [bt_and1 x hj, bI_0] at h5
    exact ⟨by first | rw [h5]; rfl | (rw [Bool.not_eq_false] at h5; rw [h5]; rfl), rfl⟩
  · --f
    refine r_iconst dX3_isIn_8 (v := 1) rfl ?_
    refine r_goto dX3_isIn_9 (tgt := 13) (by decide) ?_
    refine r_zret rfl (by first | rfl | decide) dX3_isIn_13 ?_
    rw [bt_and1 x hj, bI_0] at h5
    exact ⟨by first | rw [h5]; rfl | (rw [Bool.not_eq_false] at h5; rw [h5]; rfl), rfl⟩
theorem t_X3_hasScout {G : mG} {d : Nat} {S : mS} {a : Nat} {k : Int32} (ha : kd a = 3) : Call G d M_X3_hasScout [rv G a, .int k] S (fun v u => v = some (bI (decide (0 ≤ k ∧ k < S a 0))) ∧ u = S) := by
  refine call_of (lo := [(0, rv G a), (1, .int k)]) (by decide +kernel) (Nat.le_of_ble_eq_true rfl) rfl ?_
  refine r_iload_n dX3_hasScout_0 1 rfl ?_
  refine r_if_lt dX3_hasScout_1 (tgt := 16) (by decide) (fun h1 => ?_) (fun h1 => ?_)
  · --t
    refine r_iconst dX3_hasScout_16 (v := 0) rfl ?_
    refine r_zret rfl (by first | rfl | decide) dX3_hasScout_17 ?_
    exact ⟨by first | (congr 1; simp_all [bI]; done) | (congr 1; simp_all [bI, Int32.le_iff_toInt_le, Int32.lt_iff_toInt_lt, i16]; (first | omega | (intros; omega))), rfl⟩
  · --f
    refine r_iload_n dX3_hasScout_4 1 rfl ?_
    refine r_aload_n dX3_hasScout_5 0 rfl ?_
    refine r_getI (by first | assumption | rfl) f_X3_18 rfl rfl dX3_hasScout_6 ?_
    refine r_icmp_ge dX3_hasScout_9 (tgt := 16) (by decide) (fun h9 => ?_) (fun h9 => ?_)
    · --t
      refine r_iconst dX3_hasScout_16 (v := 0) rfl ?_
      refine r_zret rfl (by first | rfl | decide) dX3_hasScout_17 ?_
      exact ⟨by first | (congr 1; simp_all [bI]; done) | (congr 1; simp_all [bI, Int32.le_iff_toInt_le, Int32.lt_iff_toInt_lt, i16]; (first | omega | (intros; omega))), rfl⟩
    · --f
      refine r_iconst dX3_hasScout_12 (v := 1) rfl ?_
      refine r_goto dX3_hasScout_13 (tgt := 17) (by decide) ?_
      refine r_zret rfl (by first | rfl | decide) dX3_hasScout_17 ?_
      exact ⟨by first | (congr 1; simp_all [bI]; done) | (congr 1; simp_all [bI, Int32.le_iff_toInt_le, Int32.lt_iff_toInt_lt, i16]; (first | omega | (intros; omega))), rfl⟩
theorem t_X3_everyone {G : mG} {d : Nat} {S : mS} {a : Nat} (ha : kd a = 3) : Call G d M_X3_everyone [rv G a] S (fun v u => v = some (((1 : Int32) <<< (S a 0 &&& 31)) - 1) ∧ u = S) := by
  refine call_of (lo := [(0, rv G a)]) (by decide +kernel) (Nat.le_of_ble_eq_true rfl) rfl ?_
  refine r_iconst dX3_everyone_0 (v := 1) rfl ?_
  refine r_aload_n dX3_everyone_1 0 rfl ?_
  refine r_getI (by first | assumption | rfl) f_X3_18 rfl rfl dX3_everyone_2 ?_
  refine r_ishl dX3_everyone_5 ?_
  refine r_iconst dX3_everyone_6 (v := 1) rfl ?_
  refine r_isub dX3_everyone_7 ?_
  refine r_iret rfl dX3_everyone_8 ?_
  exact ⟨rfl, rfl⟩
theorem t_X3_knows {G : mG} {d : Nat} {S : mS} {a : Nat} {k : Int32} (ha : kd a = 3) : Call G (d + 1) M_X3_knows [rv G a, .int k] S (fun v u => v = some (bI (decide (0 ≤ k ∧ k < S a 0) || (decide (0 ≤ k ∧ k < 16) && bt (S a 5) k.toNatClampNeg))) ∧ u = S) := by
  refine call_of (lo := [(0, rv G a), (1, .int k)]) (by decide +kernel) (Nat.le_of_ble_eq_true rfl) rfl ?_
  by_cases hk : 0 ≤ k ∧ k < 16
  · obtain ⟨j, hj, rfl⟩ : ∃ j, j < 16 ∧ k = nI j := by
      obtain ⟨j, h1, h2⟩ := nI_of (Int32.not_lt.mpr hk.1)
      exact ⟨j, by have := hk.2; rw [h2, show (16 : Int32) = nI 16 from rfl, nI_ltI h1 (by omega)] at this; exact this, h2⟩
    have hj32 : j < 32 := by omega
    have e : (nI j).toNatClampNeg = j := nI_clamp (by omega)
    refine r_aload_n dX3_knows_0 0 rfl ?_
    refine r_iload_n dX3_knows_1 1 rfl ?_
    refine r_callViF (As := [_]) c_X3_hasScout (by first | assumption | rfl) l_X3_55 rfl rfl rfl (Nat.le_of_ble_eq_true rfl) dX3_knows_2 (t_X3_hasScout ha) ?_
    refine r_if_ne dX3_knows_5 (tgt := 29) (by decide) (fun h5 => ?_) (fun h5 => ?_)
    · --t
      refine r_iconst dX3_knows_29 (v := 1) rfl ?_
      refine r_goto dX3_knows_30 (tgt := 34) (by decide) ?_
      refine r_zret rfl (by first | rfl | decide) dX3_knows_34 ?_
      exact ⟨by first | (congr 1; simp_all [bI]; done) | (congr 1; simp_all [bI, Int32.le_iff_toInt_le, Int32.lt_iff_toInt_lt, i16]; (first | omega | (intros; omega))), rfl⟩
    · --f
      refine r_iload_n dX3_knows_8 1 rfl ?_
      refine r_if_lt dX3_knows_9 (tgt := 33) (by decide) (fun h9 => ?_) (fun h9 => ?_)
      · --t
        refine r_iconst dX3_knows_33 (v := 0) rfl ?_
        refine r_zret rfl (by first | rfl | decide) dX3_knows_34 ?_
        exact ⟨by first | (congr 1; simp_all [bI]; done) | (congr 1; simp_all [bI, Int32.le_iff_toInt_le, Int32.lt_iff_toInt_lt, i16]; (first | omega | (intros; omega))), rfl⟩
      · --f
        refine r_iload_n dX3_knows_12 1 rfl ?_
        refine r_bipush dX3_knows_13 (v := 16) (by decide +kernel) ?_
        refine r_icmp_ge dX3_knows_15 (tgt := 33) (by decide) (fun h15 => ?_) (fun h15 => ?_)
        · --t
          refine r_iconst dX3_knows_33 (v := 0) rfl ?_
          refine r_zret rfl (by first | rfl | decide) dX3_knows_34 ?_
          exact ⟨by first | (congr 1; simp_all [bI]; done) | (congr 1; simp_all [bI, Int32.le_iff_toInt_le, Int32.lt_iff_toInt_lt, i16]; (first | omega | (intros; omega))), rfl⟩
        · --f
          refine r_aload_n dX3_knows_18 0 rfl ?_
          refine r_getI (by first | assumption | rfl) f_X3_34 rfl rfl dX3_knows_19 ?_
          refine r_iload_n dX3_knows_22 1 rfl ?_
          refine r_callSiF (As := [_, _]) c_X3_isIn l_X3_59 rfl rfl rfl (Nat.le_of_ble_eq_true rfl) dX3_knows_23 (t_X3_isIn rfl hj32) ?_
          refine r_if_eq dX3_knows_26 (tgt := 33) (by decide) (fun h26 => ?_) (fun h26 => ?_)
          · --t
            refine r_iconst dX3_knows_33 (v := 0) rfl ?_
            refine r_zret rfl (by first | rfl | decide) dX3_knows_34 ?_
            exact ⟨by first | (congr 1; simp_all [bI]; done) | (congr 1; simp_all [bI, Int32.le_iff_toInt_le, Int32.lt_iff_toInt_lt, i16]; (first | omega | (intros; omega))), rfl⟩
          · --f
            refine r_iconst dX3_knows_29 (v := 1) rfl ?_
            refine r_goto dX3_knows_30 (tgt := 34) (by decide) ?_
            refine r_zret rfl (by first | rfl | decide) dX3_knows_34 ?_
            exact ⟨by first | (congr 1; simp_all [bI]; done) | (congr 1; simp_all [bI, Int32.le_iff_toInt_le, Int32.lt_iff_toInt_lt, i16]; (first | omega | (intros; omega))), rfl⟩
  · have e : decide (0 ≤ k ∧ k < 16) = false := decide_eq_false hk
    rw [e]
    simp only [Bool.false_and, Bool.or_false]
    clear e
    refine r_aload_n dX3_knows_0 0 rfl ?_
    refine r_iload_n dX3_knows_1 1 rfl ?_
    refine r_callViF (As := [_]) c_X3_hasScout (by first | assumption | rfl) l_X3_55 rfl rfl rfl (Nat.le_of_ble_eq_true rfl) dX3_knows_2 (t_X3_hasScout ha) ?_
    refine r_if_ne dX3_knows_5 (tgt := 29) (by decide) (fun h5 => ?_) (fun h5 => ?_)
    · --t
      refine r_iconst dX3_knows_29 (v := 1) rfl ?_
      refine r_goto dX3_knows_30 (tgt := 34) (by decide) ?_
      refine r_zret rfl (by first | rfl | decide) dX3_knows_34 ?_
      exact ⟨by first | (congr 1; simp_all [bI]; done) | (congr 1; simp_all [bI, Int32.le_iff_toInt_le, Int32.lt_iff_toInt_lt, i16]; (first | omega | (intros; omega))), rfl⟩
    · --f
      refine r_iload_n dX3_knows_8 1 rfl ?_
      refine r_if_lt dX3_knows_9 (tgt := 33) (by decide) (fun h9 => ?_) (fun h9 => ?_)
      · --t
        refine r_iconst dX3_knows_33 (v := 0) rfl ?_
        refine r_zret rfl (by first | rfl | decide) dX3_knows_34 ?_
        exact ⟨by first | (congr 1; simp_all [bI]; done) | (congr 1; simp_all [bI, Int32.le_iff_toInt_le, Int32.lt_iff_toInt_lt, i16]; (first | omega | (intros; omega))), rfl⟩
      · --f
        refine r_iload_n dX3_knows_12 1 rfl ?_
        refine r_bipush dX3_knows_13 (v := 16) (by decide +kernel) ?_
        refine r_icmp_ge dX3_knows_15 (tgt := 33) (by decide) (fun h15 => ?_) (fun h15 => ?_)
        · --t
          refine r_iconst dX3_knows_33 (v := 0) rfl ?_
          refine r_zret rfl (by first | rfl | decide) dX3_knows_34 ?_
          exact ⟨by first | (congr 1; simp_all [bI]; done) | (congr 1; simp_all [bI, Int32.le_iff_toInt_le, Int32.lt_iff_toInt_lt, i16]; (first | omega | (intros; omega))), rfl⟩
        · --f
          exact absurd ⟨Int32.not_lt.mp h9, Int32.not_le.mp h15⟩ hk
theorem bt_hm (T : mT) (h : Int32) {j : Nat} (hj : j < 16) : bt (hm T h) j = (T.2.1 j == h) := mkm_bt _ j hj
theorem t_X3_howIs {G : mG} {d : Nat} {S : mS} {a j : Nat} {T : mT} (ha : kd a = 3) (hj : j < 16) (hT : TP S a T) (hW : WF T) : Call G (d + 1) M_X3_howIs [rv G a, .int (nI j)] S (fun v u => v = some (T.2.1 j) ∧ u = S) := by
  refine call_of (lo := [(0, rv G a), (1, .int (nI j))]) (by decide +kernel) (Nat.le_of_ble_eq_true rfl) rfl ?_
  have hj32 : j < 32 := by omega
  have e3 := hT.2.1.1
  have e4 := hT.2.1.2.1
  have e5 := hT.2.1.2.2.1
  have e6 := hT.2.1.2.2.2
  have hv := (hW.2.2 j hj).1
  refine r_aload_n dX3_howIs_0 0 rfl ?_
  refine r_getI (by first | assumption | rfl) f_X3_28 rfl rfl dX3_howIs_1 ?_
  refine r_iload_n dX3_howIs_4 1 rfl ?_
  refine r_callSiF (As := [_, _]) c_X3_isIn l_X3_59 rfl rfl rfl (Nat.le_of_ble_eq_true rfl) dX3_howIs_5 (t_X3_isIn rfl hj32) ?_
  refine r_if_eq dX3_howIs_8 (tgt := 13) (by decide) (fun h8 => ?_) (fun h8 => ?_)
  · --t
    refine r_aload_n dX3_howIs_13 0 rfl ?_
    refine r_getI (by first | assumption | rfl) f_X3_31 rfl rfl dX3_howIs_14 ?_
    refine r_iload_n dX3_howIs_17 1 rfl ?_
    refine r_callSiF (As := [_, _]) c_X3_isIn l_X3_59 rfl rfl rfl (Nat.le_of_ble_eq_true rfl) dX3_howIs_18 (t_X3_isIn rfl hj32) ?_
    refine r_if_eq dX3_howIs_21 (tgt := 26) (by decide) (fun h21 => ?_) (fun h21 => ?_)
    · --t
      refine r_aload_n dX3_howIs_26 0 rfl ?_
      refine r_getI (by first | assumption | rfl) f_X3_34 rfl rfl dX3_howIs_27 ?_
      refine r_iload_n dX3_howIs_30 1 rfl ?_
      refine r_callSiF (As := [_, _]) c_X3_isIn l_X3_59 rfl rfl rfl (Nat.le_of_ble_eq_true rfl) dX3_howIs_31 (t_X3_isIn rfl hj32) ?_
      refine r_if_eq dX3_howIs_34 (tgt := 39) (by decide) (fun h34 => ?_) (fun h34 => ?_)
      · --t
        refine r_aload_n dX3_howIs_39 0 rfl ?_
        refine r_getI (by first | assumption | rfl) f_X3_37 rfl rfl dX3_howIs_40 ?_
        refine r_iload_n dX3_howIs_43 1 rfl ?_
        refine r_callSiF (As := [_, _]) c_X3_isIn l_X3_59 rfl rfl rfl (Nat.le_of_ble_eq_true rfl) dX3_howIs_44 (t_X3_isIn rfl hj32) ?_
        refine r_if_eq dX3_howIs_47 (tgt := 54) (by decide) (fun h47 => ?_) (fun h47 => ?_)
        · --t
          refine r_iconst dX3_howIs_54 (v := 0) rfl ?_
          refine r_iret rfl dX3_howIs_55 ?_
          refine ⟨?_, rfl⟩
          simp only [bI_0, e3, e4, e5, e6, bt_hm T _ hj, beq_eq_false_iff_ne, beq_iff_eq, ne_eq] at *
          congr 1; simp_all
        · --f
          refine r_iconst dX3_howIs_50 (v := 4) rfl ?_
          refine r_goto dX3_howIs_51 (tgt := 55) (by decide) ?_
          refine r_iret rfl dX3_howIs_55 ?_
          refine ⟨?_, rfl⟩
          simp only [bI_0, e3, e4, e5, e6, bt_hm T _ hj, beq_eq_false_iff_ne, beq_iff_eq, ne_eq] at *
          congr 1; simp_all
      · --f
        refine r_iconst dX3_howIs_37 (v := 3) rfl ?_
        refine r_iret rfl dX3_howIs_38 ?_
        refine ⟨?_, rfl⟩
        simp only [bI_0, e3, e4, e5, e6, bt_hm T _ hj, beq_eq_false_iff_ne, beq_iff_eq, ne_eq] at *
        congr 1; simp_all
    · --f
      refine r_iconst dX3_howIs_24 (v := 2) rfl ?_
      refine r_iret rfl dX3_howIs_25 ?_
      refine ⟨?_, rfl⟩
      simp only [bI_0, e3, e4, e5, e6, bt_hm T _ hj, beq_eq_false_iff_ne, beq_iff_eq, ne_eq] at *
      congr 1; simp_all
  · --f
    refine r_iconst dX3_howIs_11 (v := 1) rfl ?_
    refine r_iret rfl dX3_howIs_12 ?_
    refine ⟨?_, rfl⟩
    simp only [bI_0, e3, e4, e5, e6, bt_hm T _ hj, beq_eq_false_iff_ne, beq_iff_eq, ne_eq] at *
    congr 1; simp_all
theorem t_X3_atHome {G : mG} {d : Nat} {S : mS} {a : Nat} {T : mT} (ha : kd a = 3) (hT : TP S a T) (hW : WF T) : Call G (d + 1) M_X3_atHome [rv G a] S (fun v u => v = some (mkm (fun k => decide (k < tsz T) && (T.2.1 k == 0)) 16) ∧ u = S) := by
  refine call_of (lo := [(0, rv G a)]) (by decide +kernel) (Nat.le_of_ble_eq_true rfl) rfl ?_
  obtain ⟨s, hs, hs2, hs3, hs4⟩ := hW.sz
  refine r_aload_n dX3_atHome_0 0 rfl ?_
  refine r_callViF (As := []) c_X3_everyone (by first | assumption | rfl) l_X3_63 rfl rfl rfl (Nat.le_of_ble_eq_true rfl) dX3_atHome_1 (t_X3_everyone ha) ?_
  refine r_aload_n dX3_atHome_4 0 rfl ?_
  refine r_getI (by first | assumption | rfl) f_X3_28 rfl rfl dX3_atHome_5 ?_
  refine r_aload_n dX3_atHome_8 0 rfl ?_
  refine r_getI (by first | assumption | rfl) f_X3_31 rfl rfl dX3_atHome_9 ?_
  refine r_ior dX3_atHome_12 ?_
  refine r_aload_n dX3_atHome_13 0 rfl ?_
  refine r_getI (by first | assumption | rfl) f_X3_34 rfl rfl dX3_atHome_14 ?_
  refine r_ior dX3_atHome_17 ?_
  refine r_aload_n dX3_atHome_18 0 rfl ?_
  refine r_getI (by first | assumption | rfl) f_X3_37 rfl rfl dX3_atHome_19 ?_
  refine r_ior dX3_atHome_22 ?_
  refine r_iconst dX3_atHome_23 (v := -1) rfl ?_
  refine r_ixor dX3_atHome_24 ?_
  refine r_iand dX3_atHome_25 ?_
  refine r_iret rfl dX3_atHome_26 ?_
  refine ⟨?_, rfl⟩
  congr 1
  rw [hT.1.1, hs2, hT.2.1.1, hT.2.1.2.1, hT.2.1.2.2.1, hT.2.1.2.2.2, hs]
  refine mkm_eq (fun i hi => ?_) (fun i h1 h2 => ?_)
  · have hv := (hW.2.2 i hi).1
    rw [b_and, bt_every s hs4 i (by omega), bt_not _ (by omega), b_or, b_or, b_or, bt_hm T _ hi, bt_hm T _ hi, bt_hm T _ hi, bt_hm T _ hi]
    rcases hv with h | h | h | h | h <;> simp [h]
  · rw [b_and, bt_every s hs4 i (by omega)]
    have : ¬ i < s := by omega
    simp [this]
theorem t_X3_waitedFor {G : mG} {d : Nat} {S : mS} {a : Nat} {T : mT} (ha : kd a = 3) (hT : TP S a T) (hW : WF T) : Call G (d + 1) M_X3_waitedFor [rv G a] S (fun v u => v = some (awM T) ∧ u = S) := by
  refine call_of (lo := [(0, rv G a)]) (by decide +kernel) (Nat.le_of_ble_eq_true rfl) rfl ?_
  obtain ⟨s, hs, hs2, hs3, hs4⟩ := hW.sz
  refine r_aload_n dX3_waitedFor_0 0 rfl ?_
  refine r_callViF (As := []) c_X3_everyone (by first | assumption | rfl) l_X3_63 rfl rfl rfl (Nat.le_of_ble_eq_true rfl) dX3_waitedFor_1 (t_X3_everyone ha) ?_
  refine r_aload_n dX3_waitedFor_4 0 rfl ?_
  refine r_getI (by first | assumption | rfl) f_X3_28 rfl rfl dX3_waitedFor_5 ?_
  refine r_aload_n dX3_waitedFor_8 0 rfl ?_
  refine r_getI (by first | assumption | rfl) f_X3_40 rfl rfl dX3_waitedFor_9 ?_
  refine r_ior dX3_waitedFor_12 ?_
  refine r_iconst dX3_waitedFor_13 (v := -1) rfl ?_
  refine r_ixor dX3_waitedFor_14 ?_
  refine r_iand dX3_waitedFor_15 ?_
  refine r_iret rfl dX3_waitedFor_16 ?_
  refine ⟨?_, rfl⟩
  congr 1
  rw [hT.1.1, hs2, hT.2.1.1, hT.1.2.2.2.1]
  refine mkm_eq (fun i hi => ?_) (fun i h1 h2 => ?_)
  · rw [b_and, bt_every s hs4 i (by omega), bt_not _ (by omega), b_or, bt_hm T _ hi]
    unfold awp
    rw [hs, Bool.not_or, Bool.and_assoc]
  · rw [b_and, bt_every s hs4 i (by omega)]
    have : ¬ i < s := by omega
    simp [this]
theorem t_X3_countDown {G : mG} {d : Nat} {S : mS} {a : Nat} {T : mT} (ha : kd a = 3) (hT : TP S a T) (hW : WF T) : Call G (d + 2) M_X3_countDown [rv G a] S (fun v u => v = some (szF (awM T) 16) ∧ u = S) := by
  refine call_of (lo := [(0, rv G a)]) (by decide +kernel) (Nat.le_of_ble_eq_true rfl) rfl ?_
  refine r_aload_n dX3_countDown_0 0 rfl ?_
  refine r_callViF (As := []) c_X3_waitedFor (by first | assumption | rfl) l_X3_67 rfl rfl rfl (Nat.le_of_ble_eq_true rfl) dX3_countDown_1 (t_X3_waitedFor ha hT hW) ?_
  refine r_callSiF (As := [_]) c_J6_bitCount_0f7a4 l_X3_70 rfl rfl rfl (Nat.le_of_ble_eq_true rfl) dX3_countDown_4 t_J6_bitCount_0f7a4 ?_
  refine r_iret rfl dX3_countDown_7 ?_
  exact ⟨by rw [bc_ok (m := awM T) (mkm_hi _)], rfl⟩
