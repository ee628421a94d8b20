theorem t_J6_bitCount_0f7a4 {G : mG} {d : Nat} {S : mS} (x : Int32) : Call G d M_J6_bitCount_0f7a4 [.int x] S (fun v u => v = some x ∧ u = S) := by
  refine call_of (lo := [(0, .int x)]) (by decide +kernel) (Nat.le_of_ble_eq_true rfl) rfl ?_
  refine r_iload_n dJ6_bitCount_0f7a4_0 0 rfl ?_
  refine r_iload_n dJ6_bitCount_0f7a4_1 0 rfl ?_
  refine r_iconst dJ6_bitCount_0f7a4_2 (v := 1) rfl ?_
  refine r_iushr dJ6_bitCount_0f7a4_3 ?_
  refine r_ldcw k_J6_265 dJ6_bitCount_0f7a4_4 ?_
  refine r_iand dJ6_bitCount_0f7a4_7 ?_
  refine r_isub dJ6_bitCount_0f7a4_8 ?_
  refine r_istore_n (lo2 := [(0, _)]) dJ6_bitCount_0f7a4_9 rfl (Nat.le_of_ble_eq_true rfl) [0] rfl ?_
  refine r_iload_n dJ6_bitCount_0f7a4_10 0 rfl ?_
  refine r_ldcw k_J6_266 dJ6_bitCount_0f7a4_11 ?_
  refine r_iand dJ6_bitCount_0f7a4_14 ?_
  refine r_iload_n dJ6_bitCount_0f7a4_15 0 rfl ?_
  refine r_iconst dJ6_bitCount_0f7a4_16 (v := 2) rfl ?_
  refine r_iushr dJ6_bitCount_0f7a4_17 ?_
  refine r_ldcw k_J6_266 dJ6_bitCount_0f7a4_18 ?_
  refine r_iand dJ6_bitCount_0f7a4_21 ?_
  refine r_iadd dJ6_bitCount_0f7a4_22 ?_
  refine r_istore_n (lo2 := [(0, _)]) dJ6_bitCount_0f7a4_23 rfl (Nat.le_of_ble_eq_true rfl) [0] rfl ?_
  refine r_iload_n dJ6_bitCount_0f7a4_24 0 rfl ?_
  refine r_iload_n dJ6_bitCount_0f7a4_25 0 rfl ?_
  refine r_iconst dJ6_bitCount_0f7a4_26 (v := 4) rfl ?_
  refine r_iushr dJ6_bitCount_0f7a4_27 ?_
  refine r_iadd dJ6_bitCount_0f7a4_28 ?_
  refine r_ldcw k_J6_267 dJ6_bitCount_0f7a4_29 ?_
  refine r_iand dJ6_bitCount_0f7a4_32 ?_
  refine r_istore_n (lo2 := [(0, _)]) dJ6_bitCount_0f7a4_33 rfl (Nat.le_of_ble_eq_true rfl) [0] rfl ?_
  refine r_iload_n dJ6_bitCount_0f7a4_34 0 rfl ?_
  refine r_iload_n dJ6_bitCount_0f7a4_35 0 rfl ?_
  refine r_bipush dJ6_bitCount_0f7a4_36 (v := 8) (by decide +kernel) ?_
  refine r_iushr dJ6_bitCount_0f7a4_38 ?_
  refine r_iadd dJ6_bitCount_0f7a4_39 ?_
  refine r_istore_n (lo2 := [(0, _)]) dJ6_bitCount_0f7a4_40 rfl (Nat.le_of_ble_eq_true rfl) [0] rfl ?_
  refine r_iload_n dJ6_bitCount_0f7a4_41 0 rfl ?_
  refine r_iload_n dJ6_bitCount_0f7a4_42 0 rfl ?_
  refine r_bipush dJ6_bitCount_0f7a4_43 (v := 16) (by decide +kernel) ?_
  refine r_iushr dJ6_bitCount_0f7a4_45 ?_
  refine r_iadd dJ6_bitCount_0f7a4_46 ?_
  refine r_istore_n (lo2 := [(0, _)]) dJ6_bitCount_0f7a4_47 rfl (Nat.le_of_ble_eq_true rfl) [0] rfl ?_
  refine r_iload_n dJ6_bitCount_0f7a4_48 0 rfl ?_
  refine r_bipush dJ6_bitCount_0f7a4_49 (v := 63) (by decide +kernel) ?_
  refine r_iand dJ6_bitCount_0f7a4_51 ?_
  refine r_iret rfl dJ6_bitCount_0f7a4_52 ?_
  sorry
theorem t_X3_isIn {G : mG} {d : Nat} {S : mS} (x y : Int32) : Call G d M_X3_isIn [.int x, .int y] S (fun v u => v = some (if ((x >>> (y &&& 31)) &&& 1) = 0 then 0 else 1) ∧ u = S) := by
  refine call_of (lo := [(0, .int x), (1, .int y)]) (by decide +kernel) (Nat.le_of_ble_eq_true rfl) rfl ?_
  refine r_iload_n dX3_isIn_0 0 rfl ?_
  refine r_iload_n dX3_isIn_1 1 rfl ?_
  refine r_ishr dX3_isIn_2 ?_
  refine r_iconst dX3_isIn_3 (v := 1) rfl ?_
  refine r_iand dX3_isIn_4 ?_
  refine r_if_eq dX3_isIn_5 (tgt := 12) (by decide) (fun h5 => ?_) (fun h5 => ?_)
  · --t
    refine r_iconst dX3_isIn_12 (v := 0) rfl ?_
    refine r_zret rfl (by first | rfl | decide) dX3_isIn_13 ?_
    exact ⟨by simp [*], rfl⟩
  · --f
    refine r_iconst dX3_isIn_8 (v := 1) rfl ?_
    refine r_goto dX3_isIn_9 (tgt := 13) (by decide) ?_
    refine r_zret rfl (by first | rfl | decide) dX3_isIn_13 ?_
    exact ⟨by simp [*], rfl⟩
theorem t_X3_howIs {G : mG} {d : Nat} {S : mS} {a : Nat} (ha : kd a = 3) (k : Int32) : Call G (d+1) M_X3_howIs [rv G a, .int k] S (fun v u => v = some 0 ∧ u = S) := by
  refine call_of (lo := [(0, rv G a), (1, .int k)]) (by decide +kernel) (Nat.le_of_ble_eq_true rfl) rfl ?_
  refine r_aload_n dX3_howIs_0 0 rfl ?_
  refine r_getI (by first | assumption | rfl) f_X3_28 rfl rfl dX3_howIs_1 ?_
  refine r_iload_n dX3_howIs_4 1 rfl ?_
  refine r_callSiF (As := [_, _]) c_X3_isIn l_X3_59 rfl rfl rfl (Nat.le_of_ble_eq_true rfl) dX3_howIs_5 (t_X3_isIn _ _) ?_
  refine r_if_eq dX3_howIs_8 (tgt := 13) (by decide) (fun h8 => ?_) (fun h8 => ?_)
  · --t
    refine r_aload_n dX3_howIs_13 0 rfl ?_
    refine r_getI (by first | assumption | rfl) f_X3_31 rfl rfl dX3_howIs_14 ?_
    refine r_iload_n dX3_howIs_17 1 rfl ?_
    refine r_callSiF (As := [_, _]) c_X3_isIn l_X3_59 rfl rfl rfl (Nat.le_of_ble_eq_true rfl) dX3_howIs_18 (t_X3_isIn _ _) ?_
    refine r_if_eq dX3_howIs_21 (tgt := 26) (by decide) (fun h21 => ?_) (fun h21 => ?_)
    · --t
      refine r_aload_n dX3_howIs_26 0 rfl ?_
      refine r_getI (by first | assumption | rfl) f_X3_34 rfl rfl dX3_howIs_27 ?_
      refine r_iload_n dX3_howIs_30 1 rfl ?_
      refine r_callSiF (As := [_, _]) c_X3_isIn l_X3_59 rfl rfl rfl (Nat.le_of_ble_eq_true rfl) dX3_howIs_31 (t_X3_isIn _ _) ?_
      refine r_if_eq dX3_howIs_34 (tgt := 39) (by decide) (fun h34 => ?_) (fun h34 => ?_)
      · --t
        refine r_aload_n dX3_howIs_39 0 rfl ?_
        refine r_getI (by first | assumption | rfl) f_X3_37 rfl rfl dX3_howIs_40 ?_
        refine r_iload_n dX3_howIs_43 1 rfl ?_
        refine r_callSiF (As := [_, _]) c_X3_isIn l_X3_59 rfl rfl rfl (Nat.le_of_ble_eq_true rfl) dX3_howIs_44 (t_X3_isIn _ _) ?_
        refine r_if_eq dX3_howIs_47 (tgt := 54) (by decide) (fun h47 => ?_) (fun h47 => ?_)
        · --t
          refine r_iconst dX3_howIs_54 (v := 0) rfl ?_
          refine r_iret rfl dX3_howIs_55 ?_
          sorry
        · --f
          refine r_iconst dX3_howIs_50 (v := 4) rfl ?_
          refine r_goto dX3_howIs_51 (tgt := 55) (by decide) ?_
          refine r_iret rfl dX3_howIs_55 ?_
          sorry
      · --f
        refine r_iconst dX3_howIs_37 (v := 3) rfl ?_
        refine r_iret rfl dX3_howIs_38 ?_
        sorry
    · --f
      refine r_iconst dX3_howIs_24 (v := 2) rfl ?_
      refine r_iret rfl dX3_howIs_25 ?_
      sorry
  · --f
    refine r_iconst dX3_howIs_11 (v := 1) rfl ?_
    refine r_iret rfl dX3_howIs_12 ?_
    sorry
