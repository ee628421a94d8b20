/-! the reference: what would be -/
section MODEL
variable {G : mG} {d : Nat} {S S0 : mS} {Q : Option Int32 → mS → Prop} {N : mN} {n : Nat} {h : Nat → mN} {t k c s v m w : Int32}
/-- laid aside and put back -/
theorem asd_back {S u : mS} {T : Nat} (k : FM T (up1 S 194 (va_cpy (S 191) (S 194) 0 0 275)) u) {N : mN} (hR : RP (S 191) N) (hc : cnt N ≤ 5) : RP ((up1 u 191 (va_cpy (u 194) (u 191) 0 0 275)) 191) N ∧ ∀ b, b ≠ 191 → b ≠ 194 → (up1 u 191 (va_cpy (u 194) (u 191) 0 0 275)) b = S b := by
  constructor
  · rw [up1_s]
    refine hR.off hc (fun i hi => ?_)
    rw [pk_cpy_in (by omega) (by omega), k.1 194 (by omega), up1_s, pk_cpy_in (by omega) (by omega)]
    congr 1
    omega
  · intro b b1 b2
    rw [up1_n b1, k.1 b b1, up1_n b2]
theorem asd_back1 {S u : mS} (k : F1 (up1 S 194 (va_cpy (S 191) (S 194) 0 0 275)) u) {N : mN} (hR : RP (S 191) N) (hc : cnt N ≤ 5) : RP ((up1 u 191 (va_cpy (u 194) (u 191) 0 0 275)) 191) N ∧ ∀ b, b ≠ 191 → b ≠ 194 → (up1 u 191 (va_cpy (u 194) (u 191) 0 0 275)) b = S b := by
  constructor
  · rw [up1_s]
    refine hR.off hc (fun i hi => ?_)
    rw [pk_cpy_in (by omega) (by omega), k 194 (by omega), up1_s, pk_cpy_in (by omega) (by omega)]
    congr 1
    omega
  · intro b b1 b2
    rw [up1_n b1, k b b1, up1_n b2]
theorem op_X5_end {T mm : Nat} {y : Int32} (hm : mm ≤ 200) (hx : At G d M_X5_opensIn Q 53 [(0, rv G 190), (1, .int (nI T)), (2, .int (nI mm))] [] S) : At G d M_X5_opensIn Q 19 [(0, rv G 190), (1, .int (nI T)), (2, .int (nI mm)), (3, .int y)] [] S := by
  refine r_iload_n dX5_opensIn_19 3 rfl ?_
  refine r_sipush dX5_opensIn_20 (v := 200) (by decide +kernel) ?_
  refine r_icmp_gt dX5_opensIn_23 (tgt := 53) (by decide) (fun h23 => ?_) (fun h23 => ?_)
  · --t
    exact r_sub [0, 1, 2] rfl hx
  · --f
    refine r_iload_n dX5_opensIn_26 2 rfl ?_
    refine r_bipush dX5_opensIn_27 (v := -6) (by decide +kernel) ?_
    refine r_icmp_ne dX5_opensIn_29 (tgt := 53) (by decide) (fun h29 => ?_) (fun h29 => ?_)
    · --t
      exact r_sub [0, 1, 2] rfl hx
    · --f
      exact absurd (by rw [h29]; decide) (nI_pos (show mm < 2 ^ 31 by omega))
theorem lp_X5_opensIn {T : Nat} {p a : Int32} (hT5 : T < 5) (hp : S0 191 0 = p) (ha : S0 191 1 = a) : ∀ f m S (T0 : mT), f + m = 201 → WF T0 → MP (S 191) T T0 → FM T S0 S → (∀ u, FM T S0 u → At G (d + 6) M_X5_opensIn Q 53 [(0, rv G 190), (1, .int (nI T)), (2, .int (opIn f m T0 p a))] [] u) → At G (d + 6) M_X5_opensIn Q 19 [(0, rv G 190), (1, .int (nI T)), (2, .int (-6)), (3, .int (nI m))] [] S := by
  intro f
  induction f with
  | zero =>
    intro m S T0 hm hW hT hF hx
    obtain rfl : m = 201 := by omega
    refine r_iload_n dX5_opensIn_19 3 rfl ?_
    refine r_sipush dX5_opensIn_20 (v := 200) (by decide +kernel) ?_
    refine r_icmp_gt dX5_opensIn_23 (tgt := 53) (by decide) (fun h23 => ?_) (fun h23 => ?_)
    · --t
      exact r_sub [0, 1, 2] rfl (hx _ hF)
    · --f
      exact absurd (show nI 201 ≤ 200 from by first | exact h23 | exact Int32.not_lt.mp h23) (by decide)
  | succ f ih =>
    intro m S T0 hm hW hT hF hx
    have hm2 : m ≤ 200 := by omega
    have ep : S 191 0 = p := by rw [hF.2 0 (by omega)]; exact hp
    have ea : S 191 1 = a := by rw [hF.2 1 (by omega)]; exact ha
    unfold opIn at hx
    refine r_iload_n dX5_opensIn_19 3 rfl ?_
    refine r_sipush dX5_opensIn_20 (v := 200) (by decide +kernel) ?_
    refine r_icmp_gt dX5_opensIn_23 (tgt := 53) (by decide) (fun h23 => ?_) (fun h23 => ?_)
    · --t
      exact absurd h23 (Int32.not_lt.mpr (nI_le (b := 200) hm2 (by decide)))
    · --f
      refine r_iload_n dX5_opensIn_26 2 rfl ?_
      refine r_bipush dX5_opensIn_27 (v := -6) (by decide +kernel) ?_
      refine r_icmp_ne dX5_opensIn_29 (tgt := 53) (by decide) (fun h29 => ?_) (fun h29 => ?_)
      · --t
        exact absurd rfl h29
      · --f
        refine r_aload_n dX5_opensIn_32 0 rfl ?_
        refine r_iload_n dX5_opensIn_33 1 rfl ?_
        refine r_callVi (As := [_]) c_X5_minute (by first | assumption | rfl) l_X5_99 rfl rfl rfl (Nat.le_of_ble_eq_true rfl) dX5_opensIn_34 (t_X5_minute hT5 hW ea ep hT) (fun r34 u34 q34 => ?_)
        obtain ⟨hr, g1, f1⟩ := q34
        cases hr
        refine r_if_le dX5_opensIn_37 (tgt := 44) (by decide) (fun h37 => ?_) (fun h37 => ?_)
        · --t
          refine r_bipush dX5_opensIn_44 (v := -6) (by decide +kernel) ?_
          refine r_istore_n (lo2 := [(0, _), (1, _), (2, _), (3, _)]) dX5_opensIn_46 rfl (Nat.le_of_ble_eq_true rfl) [1, 2, 0, 3] rfl ?_
          refine r_iinc (lo2 := [(0, _), (1, _), (2, _), (3, _)]) dX5_opensIn_47 3 rfl (w := 1) rfl (Nat.le_of_ble_eq_true rfl) [1, 2, 3, 0] rfl ?_
          refine r_goto dX5_opensIn_50 (tgt := 19) (by decide) ?_
          first
          | exact op_X5_end hm2 (by
              have z := hx _ (hF.tr f1)
              rw [if_pos (by first | exact Int32.not_le.mp h37 | exact h37)] at z
              exact z)
          | (rw [nI_1]
             refine ih (m + 1) _ _ (by omega) (wf_min hW _ _) g1 (hF.tr f1) (fun u hu => ?_)
             have z := hx u hu
             rw [if_neg (by first | exact Int32.not_lt.mpr h37 | exact h37)] at z
             exact z)
        · --f
          refine r_iload_n dX5_opensIn_40 3 rfl ?_
          refine r_goto dX5_opensIn_41 (tgt := 46) (by decide) ?_
          refine r_istore_n (lo2 := [(0, _), (1, _), (2, _), (3, _)]) dX5_opensIn_46 rfl (Nat.le_of_ble_eq_true rfl) [1, 2, 0, 3] rfl ?_
          refine r_iinc (lo2 := [(0, _), (1, _), (2, _), (3, _)]) dX5_opensIn_47 3 rfl (w := 1) rfl (Nat.le_of_ble_eq_true rfl) [1, 2, 3, 0] rfl ?_
          refine r_goto dX5_opensIn_50 (tgt := 19) (by decide) ?_
          first
          | exact op_X5_end hm2 (by
              have z := hx _ (hF.tr f1)
              rw [if_pos (by first | exact Int32.not_le.mp h37 | exact h37)] at z
              exact z)
          | (rw [nI_1]
             refine ih (m + 1) _ _ (by omega) (wf_min hW _ _) g1 (hF.tr f1) (fun u hu => ?_)
             have z := hx u hu
             rw [if_neg (by first | exact Int32.not_lt.mpr h37 | exact h37)] at z
             exact z)
theorem t_X5_opensIn (hW : WN N) (hR : RP (S 191) N) : Call G (d + 6) M_X5_opensIn [rv G 190, .int t] S (fun v u => v = some (opIA N t) ∧ RP (u 191) N ∧ ∀ b, b ≠ 191 → b ≠ 194 → u b = S b) := by
  refine call_of (lo := [(0, rv G 190), (1, .int t)]) (by decide +kernel) (Nat.le_of_ble_eq_true rfl) rfl ?_
  unfold opIA
  rcases tr_cases hW t with h | ⟨T, h, rfl, hT, hT5, eT⟩
  · rw [h, if_neg (show ¬ false = true by decide)]
    refine r_aload_n dX5_opensIn_0 0 rfl ?_
    refine r_iload_n dX5_opensIn_1 1 rfl ?_
    refine r_callViF (As := [_]) c_X5_isTroop (by first | assumption | rfl) l_X5_39 rfl rfl rfl (Nat.le_of_ble_eq_true rfl) dX5_opensIn_2 (t_X5_isTroop hW hR) ?_
    refine r_if_ne dX5_opensIn_5 (tgt := 10) (by decide) (fun h5 => ?_) (fun h5 => ?_)
    · --t
      exact absurd (bI_not h) h5
    · --f
      refine r_iconst dX5_opensIn_8 (v := -1) rfl ?_
      refine r_iret rfl dX5_opensIn_9 ?_
      exact ⟨rfl, hR, fun _ _ _ => rfl⟩
  · rw [h, if_pos rfl, eT]
    have h1 : (up1 S 194 (va_cpy (S 191) (S 194) 0 0 275)) 191 = S 191 := up1_n (by omega)
    refine r_aload_n dX5_opensIn_0 0 rfl ?_
    refine r_iload_n dX5_opensIn_1 1 rfl ?_
    refine r_callViF (As := [_]) c_X5_isTroop (by first | assumption | rfl) l_X5_39 rfl rfl rfl (Nat.le_of_ble_eq_true rfl) dX5_opensIn_2 (t_X5_isTroop hW hR) ?_
    refine r_if_ne dX5_opensIn_5 (tgt := 10) (by decide) (fun h5 => ?_) (fun h5 => ?_)
    · --t
      refine r_aload_n dX5_opensIn_10 0 rfl ?_
      refine r_callVvF (As := []) c_X5_layAside (by first | assumption | rfl) l_X5_123 rfl rfl rfl (Nat.le_of_ble_eq_true rfl) dX5_opensIn_11 t_X5_layAside ?_
      refine r_bipush dX5_opensIn_14 (v := -6) (by decide +kernel) ?_
      refine r_istore_n (lo2 := [(0, _), (1, _), (2, _)]) dX5_opensIn_16 rfl (Nat.le_of_ble_eq_true rfl) [1, 2, 0] rfl ?_
      refine r_iconst dX5_opensIn_17 (v := 1) rfl ?_
      refine r_istore_n (lo2 := [(0, _), (1, _), (2, _), (3, _)]) dX5_opensIn_18 rfl (Nat.le_of_ble_eq_true rfl) [1, 2, 3, 0] rfl ?_
      refine lp_X5_opensIn (S0 := up1 S 194 (va_cpy (S 191) (S 194) 0 0 275)) (d := d) (p := N.1 0) (a := N.1 1) hT5 (by rw [h1]; exact hR.1 0 (by decide)) (by rw [h1]; exact hR.1 1 (by decide)) 200 1 _ (N.2 T) (by omega) (hW.2 T hT) (by rw [h1]; exact hR.2 T hT) FM.rf (fun u hu => ?_)
      refine r_aload_n dX5_opensIn_53 0 rfl ?_
      refine r_callVvF (As := []) c_X5_putBack (by first | assumption | rfl) l_X5_126 rfl rfl rfl (Nat.le_of_ble_eq_true rfl) dX5_opensIn_54 t_X5_putBack ?_
      refine r_iload_n dX5_opensIn_57 2 rfl ?_
      refine r_iret rfl dX5_opensIn_58 ?_
      exact ⟨rfl, asd_back hu hR hW.cn.2⟩
    · --f
      exact absurd (bI_yes h) (by rw [h5]; decide)
theorem lp_X5_couldHike {T : Nat} {T0 : mT} (hW : WN N) (hT : T < cnt N) (e0 : T0 = N.2 T) (hx : ∀ u, F1 S0 u → At G (d + 6) M_X5_couldHike Q 61 [(0, rv G 190), (1, .int (nI T)), (2, .int (cHs T0 (N.1 1) 48).1)] [] u) : ∀ n i S, n + i = 48 → RP (S 191) (setTr N T (cHs T0 (N.1 1) i).2) → F1 S0 S → At G (d + 6) M_X5_couldHike Q 18 [(0, rv G 190), (1, .int (nI T)), (2, .int (cHs T0 (N.1 1) i).1), (3, .int (nI i))] [] S := by
  obtain ⟨hc, hc5⟩ := hW.cn
  have hT5 : T < 5 := by omega
  subst e0
  intro n
  induction n with
  | zero =>
    intro i S hi hR hF
    obtain rfl : i = 48 := by omega
    refine r_iload_n dX5_couldHike_18 3 rfl ?_
    refine r_bipush dX5_couldHike_19 (v := 48) (by decide +kernel) ?_
    refine r_icmp_ge dX5_couldHike_21 (tgt := 61) (by decide) (fun h21 => ?_) (fun h21 => ?_)
    · --t
      exact r_sub [0, 1, 2] rfl (hx _ hF)
    · --f
      exact absurd (show (48 : Int32) ≤ nI 48 by decide) h21
  | succ n ih =>
    intro i S hi hR hF
    have hi48 : i < 48 := by omega
    have hWi := cHs_wf (hW.2 T hT) (a := N.1 1) i
    have hWN : WN (setTr N T (cHs (N.2 T) (N.1 1) i).2) := hW.tr hWi
    have eT : (setTr N T (cHs (N.2 T) (N.1 1) i).2).2 T = (cHs (N.2 T) (N.1 1) i).2 := if_pos rfl
    have hTT : MP (S 191) T (cHs (N.2 T) (N.1 1) i).2 := by have z := hR.2 T hT; rw [eT] at z; exact z
    have er : nI i - nI i / 16 * 16 = nI (i % 16) := pk_rem (d := 16) (by omega) (by omega) (by omega)
    have hcn := com_cn hWN (T := T) (K := i % 16) hT (Nat.mod_lt _ (by omega))
    rw [eT] at hcn
    have hco := @t_X5_comes G d S (setTr N T (cHs (N.2 T) (N.1 1) i).2) (nI T) (nI (i % 16)) ((cHs (N.2 T) (N.1 1) i).2.1 1) hWN hR
    rw [← er] at hco
    rw [← er] at hcn
    rcases hcn with ⟨hcc, hcn⟩ | ⟨hcc, hc1, hc2⟩
    · obtain ⟨j, hj, ej⟩ := opn_nn (a := N.1 1) 3 (setH (cHs (N.2 T) (N.1 1) i).2 (i % 16) 1) (by omega)
      have es : cHs (N.2 T) (N.1 1) (i + 1) = ((cHs (N.2 T) (N.1 1) i).1 + (opnN 3 (setH (cHs (N.2 T) (N.1 1) i).2 (i % 16) 1) (N.1 1)).1, (opnN 3 (setH (cHs (N.2 T) (N.1 1) i).2 (i % 16) 1) (N.1 1)).2) := by rw [cHs, hcc, if_pos rfl]
      have e2 : (comN (setTr N T (cHs (N.2 T) (N.1 1) i).2) T (i % 16) 1) = (nI j, setTr N T (cHs (N.2 T) (N.1 1) (i + 1)).2) := by
        unfold comN
        rw [eT, setTr2, es, ← ej]
        rfl
      have e3 : (cHs (N.2 T) (N.1 1) (i + 1)).1 = (cHs (N.2 T) (N.1 1) i).1 + nI j := by rw [es, ← ej]
      rw [hcn, e2] at hco
      refine r_iload_n dX5_couldHike_18 3 rfl ?_
      refine r_bipush dX5_couldHike_19 (v := 48) (by decide +kernel) ?_
      refine r_icmp_ge dX5_couldHike_21 (tgt := 61) (by decide) (fun h21 => ?_) (fun h21 => ?_)
      · --t
        exact absurd h21 (nI_ge (b := 48) hi48 (by decide))
      · --f
        refine r_aload_n dX5_couldHike_24 0 rfl ?_
        refine r_iload_n dX5_couldHike_25 1 rfl ?_
        refine r_iload_n dX5_couldHike_26 3 rfl ?_
        refine r_bipush dX5_couldHike_27 (v := 16) (by decide +kernel) ?_
        refine r_irem dX5_couldHike_29 (by decide) ?_
        refine r_aload_n dX5_couldHike_30 0 rfl ?_
        refine r_iload_n dX5_couldHike_31 1 rfl ?_
        refine r_iconst dX5_couldHike_32 (v := 1) rfl ?_
        refine r_callViF (As := [_, _]) c_X5_its (by first | assumption | rfl) l_X5_43 rfl rfl rfl (Nat.le_of_ble_eq_true rfl) dX5_couldHike_33 (t_X5_its (W := 1) rfl (by decide) hT5 hTT) ?_
        refine r_callVi (As := [_, _, _]) c_X5_comes (by first | assumption | rfl) l_X5_108 rfl rfl rfl (Nat.le_of_ble_eq_true rfl) dX5_couldHike_36 hco (fun r36 u36 q36 => ?_)
        obtain ⟨hr, g1, f1⟩ := q36
        cases hr
        refine r_istore (lo2 := [(0, _), (1, _), (2, _), (3, _), (4, _)]) dX5_couldHike_39 (Nat.le_of_ble_eq_true rfl) [1, 2, 3, 4, 0] rfl ?_
        refine r_iload_n dX5_couldHike_41 2 rfl ?_
        refine r_iload dX5_couldHike_42 4 rfl ?_
        refine r_if_le dX5_couldHike_44 (tgt := 52) (by decide) (fun h44 => ?_) (fun h44 => ?_)
        · --t
          refine r_iconst dX5_couldHike_52 (v := 0) rfl ?_
          refine r_iadd dX5_couldHike_53 ?_
          refine r_istore_n (lo2 := [(0, _), (1, _), (2, _), (3, _), (4, _)]) dX5_couldHike_54 rfl (Nat.le_of_ble_eq_true rfl) [1, 2, 0, 3, 4] rfl ?_
          refine r_iinc (lo2 := [(0, _), (1, _), (2, _), (3, _), (4, _)]) dX5_couldHike_55 3 rfl (w := 1) rfl (Nat.le_of_ble_eq_true rfl) [1, 2, 3, 0, 4] rfl ?_
          refine r_goto dX5_couldHike_58 (tgt := 18) (by decide) ?_
          rw [nI_1]
          have z := ih (i + 1) _ (by omega) g1 (hF.tr f1)
          rw [e3] at z
          first
          | exact r_sub [0, 1, 2, 3] rfl z
          | (have j0 : nI j = 0 := by
               rcases (by omega : j = 0 ∨ 0 < j) with y | y
               · rw [y]; rfl
               · exact absurd h44 (by first | exact Int32.not_le.mpr ((nI_ltI (a := 0) (by omega) (by omega)).mpr y) | exact not_not.mpr ((nI_ltI (a := 0) (by omega) (by omega)).mpr y))
             rw [j0] at z
             exact r_sub [0, 1, 2, 3] rfl z)
        · --f
          refine r_iload dX5_couldHike_47 4 rfl ?_
          refine r_goto dX5_couldHike_49 (tgt := 53) (by decide) ?_
          refine r_iadd dX5_couldHike_53 ?_
          refine r_istore_n (lo2 := [(0, _), (1, _), (2, _), (3, _), (4, _)]) dX5_couldHike_54 rfl (Nat.le_of_ble_eq_true rfl) [1, 2, 0, 3, 4] rfl ?_
          refine r_iinc (lo2 := [(0, _), (1, _), (2, _), (3, _), (4, _)]) dX5_couldHike_55 3 rfl (w := 1) rfl (Nat.le_of_ble_eq_true rfl) [1, 2, 3, 0, 4] rfl ?_
          refine r_goto dX5_couldHike_58 (tgt := 18) (by decide) ?_
          rw [nI_1]
          have z := ih (i + 1) _ (by omega) g1 (hF.tr f1)
          rw [e3] at z
          first
          | exact r_sub [0, 1, 2, 3] rfl z
          | (have j0 : nI j = 0 := by
               rcases (by omega : j = 0 ∨ 0 < j) with y | y
               · rw [y]; rfl
               · exact absurd h44 (by first | exact Int32.not_le.mpr ((nI_ltI (a := 0) (by omega) (by omega)).mpr y) | exact not_not.mpr ((nI_ltI (a := 0) (by omega) (by omega)).mpr y))
             rw [j0] at z
             exact r_sub [0, 1, 2, 3] rfl z)
    · have es : cHs (N.2 T) (N.1 1) (i + 1) = cHs (N.2 T) (N.1 1) i := by rw [cHs, hcc, if_neg (by decide)]
      rw [hc2] at hco
      refine r_iload_n dX5_couldHike_18 3 rfl ?_
      refine r_bipush dX5_couldHike_19 (v := 48) (by decide +kernel) ?_
      refine r_icmp_ge dX5_couldHike_21 (tgt := 61) (by decide) (fun h21 => ?_) (fun h21 => ?_)
      · --t
        exact absurd h21 (nI_ge (b := 48) hi48 (by decide))
      · --f
        refine r_aload_n dX5_couldHike_24 0 rfl ?_
        refine r_iload_n dX5_couldHike_25 1 rfl ?_
        refine r_iload_n dX5_couldHike_26 3 rfl ?_
        refine r_bipush dX5_couldHike_27 (v := 16) (by decide +kernel) ?_
        refine r_irem dX5_couldHike_29 (by decide) ?_
        refine r_aload_n dX5_couldHike_30 0 rfl ?_
        refine r_iload_n dX5_couldHike_31 1 rfl ?_
        refine r_iconst dX5_couldHike_32 (v := 1) rfl ?_
        refine r_callViF (As := [_, _]) c_X5_its (by first | assumption | rfl) l_X5_43 rfl rfl rfl (Nat.le_of_ble_eq_true rfl) dX5_couldHike_33 (t_X5_its (W := 1) rfl (by decide) hT5 hTT) ?_
        refine r_callVi (As := [_, _, _]) c_X5_comes (by first | assumption | rfl) l_X5_108 rfl rfl rfl (Nat.le_of_ble_eq_true rfl) dX5_couldHike_36 hco (fun r36 u36 q36 => ?_)
        obtain ⟨hr, g1, f1⟩ := q36
        cases hr
        refine r_istore (lo2 := [(0, _), (1, _), (2, _), (3, _), (4, _)]) dX5_couldHike_39 (Nat.le_of_ble_eq_true rfl) [1, 2, 3, 4, 0] rfl ?_
        refine r_iload_n dX5_couldHike_41 2 rfl ?_
        refine r_iload dX5_couldHike_42 4 rfl ?_
        refine r_if_le dX5_couldHike_44 (tgt := 52) (by decide) (fun h44 => ?_) (fun h44 => ?_)
        · --t
          refine r_iconst dX5_couldHike_52 (v := 0) rfl ?_
          refine r_iadd dX5_couldHike_53 ?_
          refine r_istore_n (lo2 := [(0, _), (1, _), (2, _), (3, _), (4, _)]) dX5_couldHike_54 rfl (Nat.le_of_ble_eq_true rfl) [1, 2, 0, 3, 4] rfl ?_
          refine r_iinc (lo2 := [(0, _), (1, _), (2, _), (3, _), (4, _)]) dX5_couldHike_55 3 rfl (w := 1) rfl (Nat.le_of_ble_eq_true rfl) [1, 2, 3, 0, 4] rfl ?_
          refine r_goto dX5_couldHike_58 (tgt := 18) (by decide) ?_
          rw [nI_1]
          have z := ih (i + 1) _ (by omega) (by rw [es]; exact g1) (hF.tr f1)
          rw [es] at z
          rw [Int32.add_zero]
          exact r_sub [0, 1, 2, 3] rfl z
        · --f
          exact absurd hc1 (by first | exact h44 | exact Int32.not_le.mpr h44)
theorem t_X5_couldHike (hW : WN N) (hR : RP (S 191) N) : Call G (d + 6) M_X5_couldHike [rv G 190, .int t] S (fun v u => v = some (couA N t) ∧ RP (u 191) N ∧ ∀ b, b ≠ 191 → b ≠ 194 → u b = S b) := by
  refine call_of (lo := [(0, rv G 190), (1, .int t)]) (by decide +kernel) (Nat.le_of_ble_eq_true rfl) rfl ?_
  unfold couA
  rcases tr_cases hW t with h | ⟨T, h, rfl, hT, hT5, eT⟩
  · rw [h, if_neg (show ¬ false = true by decide)]
    refine r_aload_n dX5_couldHike_0 0 rfl ?_
    refine r_iload_n dX5_couldHike_1 1 rfl ?_
    refine r_callViF (As := [_]) c_X5_isTroop (by first | assumption | rfl) l_X5_39 rfl rfl rfl (Nat.le_of_ble_eq_true rfl) dX5_couldHike_2 (t_X5_isTroop hW hR) ?_
    refine r_if_ne dX5_couldHike_5 (tgt := 10) (by decide) (fun h5 => ?_) (fun h5 => ?_)
    · --t
      exact absurd (bI_not h) h5
    · --f
      refine r_iconst dX5_couldHike_8 (v := -1) rfl ?_
      refine r_iret rfl dX5_couldHike_9 ?_
      exact ⟨rfl, hR, fun _ _ _ => rfl⟩
  · rw [h, if_pos rfl, eT]
    have h1 : (up1 S 194 (va_cpy (S 191) (S 194) 0 0 275)) 191 = S 191 := up1_n (by omega)
    refine r_aload_n dX5_couldHike_0 0 rfl ?_
    refine r_iload_n dX5_couldHike_1 1 rfl ?_
    refine r_callViF (As := [_]) c_X5_isTroop (by first | assumption | rfl) l_X5_39 rfl rfl rfl (Nat.le_of_ble_eq_true rfl) dX5_couldHike_2 (t_X5_isTroop hW hR) ?_
    refine r_if_ne dX5_couldHike_5 (tgt := 10) (by decide) (fun h5 => ?_) (fun h5 => ?_)
    · --t
      refine r_aload_n dX5_couldHike_10 0 rfl ?_
      refine r_callVvF (As := []) c_X5_layAside (by first | assumption | rfl) l_X5_123 rfl rfl rfl (Nat.le_of_ble_eq_true rfl) dX5_couldHike_11 t_X5_layAside ?_
      refine r_iconst dX5_couldHike_14 (v := 0) rfl ?_
      refine r_istore_n (lo2 := [(0, _), (1, _), (2, _)]) dX5_couldHike_15 rfl (Nat.le_of_ble_eq_true rfl) [1, 2, 0] rfl ?_
      refine r_iconst dX5_couldHike_16 (v := 0) rfl ?_
      refine r_istore_n (lo2 := [(0, _), (1, _), (2, _), (3, _)]) dX5_couldHike_17 rfl (Nat.le_of_ble_eq_true rfl) [1, 2, 3, 0] rfl ?_
      refine lp_X5_couldHike (S0 := up1 S 194 (va_cpy (S 191) (S 194) 0 0 275)) (d := d) hW hT rfl (fun u hu => ?_) 48 0 _ (by omega) ?_ F1.rf
      · refine r_aload_n dX5_couldHike_61 0 rfl ?_
        refine r_callVvF (As := []) c_X5_putBack (by first | assumption | rfl) l_X5_126 rfl rfl rfl (Nat.le_of_ble_eq_true rfl) dX5_couldHike_62 t_X5_putBack ?_
        refine r_iload_n dX5_couldHike_65 2 rfl ?_
        refine r_iret rfl dX5_couldHike_66 ?_
        exact ⟨rfl, asd_back1 hu hR hW.cn.2⟩
      · rw [h1, show (cHs (N.2 T) (N.1 1) 0).2 = N.2 T from rfl, setTr_id]; exact hR
    · --f
      exact absurd (bI_yes h) (by rw [h5]; decide)
end MODEL
