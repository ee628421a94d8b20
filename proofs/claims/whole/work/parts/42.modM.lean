/-! the reference's pad: its public methods -/
section MODQ
variable {G : mG} {d : Nat} {S S0 : mS} {Q : Option Int32 → mS → Prop} {P : Nat → Int32} {len i : Nat} {x : Int64} {N : mN} {n : Nat} {h : Nat → mN}
theorem lp_X5_put1 (hb : chN x 8 0 = 0 → ∀ u, (∀ b, b ≠ 198 → u b = S0 b) → Q (some (-2)) u)
    (hx : ∀ u m, chN x 8 0 = m → m ≤ 8 → (∀ j, j < m → u 198 j = cdN x j) → (∀ b, b ≠ 198 → u b = S0 b) → At G (d + 1) M_X5_put Q 63 [(0, rv G 190), (5, .int (nI m))] [] u) :
    ∀ f k S, f + k = 8 → chN x 8 0 = chN x f k → (∀ j, j < k → S 198 j = cdN x j) → (∀ b, b ≠ 198 → S b = S0 b) → At G (d + 1) M_X5_put Q 5 [(0, rv G 190), (1, .long x), (3, .long (shN x k)), (5, .int (nI k))] [] S := by
  intro f
  induction f with
  | zero =>
    intro k S hk he h1 h2
    obtain rfl : k = 8 := by omega
    refine r_lload_n dX5_put_5 2 rfl ?_
    refine r_lconst dX5_put_6 (v := 0) rfl ?_
    refine r_lcmp dX5_put_7 ?_
    refine r_if_eq dX5_put_8 (tgt := 63) (by decide) (fun h8 => ?_) (fun h8 => ?_)
    · --t
      exact r_sub [0, 3] rfl (hx S 8 (he.trans rfl) (by omega) h1 h2)
    · --f
      refine r_iload dX5_put_11 3 rfl ?_
      refine r_bipush dX5_put_13 (v := 8) (by decide +kernel) ?_
      refine r_icmp_ge dX5_put_15 (tgt := 63) (by decide) (fun h15 => ?_) (fun h15 => ?_)
      · --t
        exact r_sub [0, 3] rfl (hx S 8 (he.trans rfl) (by omega) h1 h2)
      · --f
        exact absurd (show (8 : Int32) ≤ nI 8 by decide) h15
  | succ f ih =>
    intro k S hk he h1 h2
    have hk8 : k < 8 := by omega
    have hl : k < ln 198 := hk8
    rw [show chN x (f + 1) k = if shN x k = 0 then k else if cdN x k < 33 ∨ 126 < cdN x k then 0 else chN x f (k + 1) from rfl] at he
    refine r_lload_n dX5_put_5 2 rfl ?_
    refine r_lconst dX5_put_6 (v := 0) rfl ?_
    refine r_lcmp dX5_put_7 ?_
    refine r_if_eq dX5_put_8 (tgt := 63) (by decide) (fun h8 => ?_) (fun h8 => ?_)
    · --t
      rw [lcmp0] at h8
      rw [if_pos h8] at he
      exact r_sub [0, 3] rfl (hx S k he (by omega) h1 h2)
    · --f
      refine r_iload dX5_put_11 3 rfl ?_
      refine r_bipush dX5_put_13 (v := 8) (by decide +kernel) ?_
      refine r_icmp_ge dX5_put_15 (tgt := 63) (by decide) (fun h15 => ?_) (fun h15 => ?_)
      · --t
        exact absurd h15 (nI_ge (b := 8) hk8 (by decide))
      · --f
        refine r_aload_n dX5_put_18 0 rfl ?_
        refine r_getR (b := 198) (by first | assumption | rfl) f_X5_32 rfl rfl dX5_put_19 rfl ?_
        refine r_iload dX5_put_22 3 rfl ?_
        refine r_lload_n dX5_put_24 2 rfl ?_
        refine r_ldc2 k_X5_129 dX5_put_25 ?_
        refine r_land dX5_put_28 ?_
        refine r_l2i dX5_put_29 ?_
        refine r_iast (j := k) (by first | assumption | rfl) (by first | assumption | rfl) (by first | assumption | decide) dX5_put_30 ?_
        refine r_aload_n dX5_put_31 0 rfl ?_
        refine r_getR (b := 198) (by first | assumption | rfl) f_X5_32 rfl rfl dX5_put_32 rfl ?_
        refine r_iload dX5_put_35 3 rfl ?_
        refine r_iald (j := k) (by first | assumption | rfl) (by first | assumption | rfl) (by first | assumption | decide) dX5_put_37 ?_
        refine r_i2l dX5_put_38 ?_
        refine r_bipush dX5_put_39 (v := 33) (by decide +kernel) ?_
        refine r_bipush dX5_put_41 (v := 126) (by decide +kernel) ?_
        refine r_callSiF (As := [_, _, _]) c_X5_in l_X5_35 rfl rfl rfl (Nat.le_of_ble_eq_true rfl) dX5_put_43 in_i ?_
        refine r_if_ne dX5_put_46 (tgt := 52) (by decide) (fun h46 => ?_) (fun h46 => ?_)
        · --t
          refine r_lload_n dX5_put_52 2 rfl ?_
          refine r_bipush dX5_put_53 (v := 8) (by decide +kernel) ?_
          refine r_lushr dX5_put_55 ?_
          refine r_lstore_n (lo2 := [(0, _), (1, _), (3, _), (5, _)]) dX5_put_56 rfl (Nat.le_of_ble_eq_true rfl) [1, 2, 0, 3] rfl ?_
          refine r_iinc (lo2 := [(0, _), (1, _), (3, _), (5, _)]) dX5_put_57 3 rfl (w := 1) rfl (Nat.le_of_ble_eq_true rfl) [1, 2, 3, 0] rfl ?_
          refine r_goto dX5_put_60 (tgt := 5) (by decide) ?_
          rw [lcmp0] at h8
          rw [bI_n0, decide_eq_true_iff, up1_s, upd, if_pos rfl] at h46
          replace h46 : 33 ≤ cdN x k ∧ cdN x k ≤ 126 := h46
          rw [if_neg h8, if_neg (fun z => z.elim (Int32.not_lt.mpr h46.1) (Int32.not_lt.mpr h46.2))] at he
          rw [nI_1]
          refine ih (k + 1) _ (by omega) he (fun j hj => ?_) (fun b b1 => (up1_n b1).trans (h2 b b1))
          rw [up1_s, upd]
          by_cases e : j = k
          · subst e; rw [if_pos rfl]; rfl
          · rw [if_neg e]; exact h1 j (by omega)
        · --f
          refine r_bipush dX5_put_49 (v := -2) (by decide +kernel) ?_
          refine r_iret rfl dX5_put_51 ?_
          rw [lcmp0] at h8
          rw [bI_0, decide_eq_false_iff_not, up1_s, upd, if_pos rfl] at h46
          replace h46 : ¬ (33 ≤ cdN x k ∧ cdN x k ≤ 126) := h46
          have h47 : cdN x k < 33 ∨ 126 < cdN x k := by
            by_cases z : cdN x k < 33
            · exact Or.inl z
            · exact Or.inr (Int32.not_le.mp (fun y => h46 ⟨Int32.not_lt.mp z, y⟩))
          rw [if_neg h8, if_pos h47] at he
          exact hb he _ (fun b b1 => (up1_n b1).trans (h2 b b1))
theorem lp_X5_put2 {m : Nat} (hm : len + m ≤ 80) (hm8 : m ≤ 8) (hx : ∀ u, u 190 8 = nI (len + m) → (∀ j, j < len → u 197 j = S0 197 j) → (∀ j, len ≤ j → j < len + m → u 197 j = cdN x (len + m - 1 - j)) → (∀ b, b ≠ 190 → b ≠ 197 → u b = S0 b) → (∀ k, k ≠ 8 → u 190 k = S0 190 k) → Q (some (nI (len + m))) u) (hc : ∀ j, j < m → S0 198 j = cdN x j) :
    ∀ r S, r ≤ m → S 190 8 = nI (len + (m - r)) → (∀ j, j < len → S 197 j = S0 197 j) → (∀ j, len ≤ j → j < len + (m - r) → S 197 j = cdN x (len + m - 1 - j)) → (∀ b, b ≠ 190 → b ≠ 197 → S b = S0 b) → (∀ k, k ≠ 8 → S 190 k = S0 190 k) → At G (d + 1) M_X5_put Q 92 [(0, rv G 190), (5, .int (nI m)), (6, .int (nI r - 1))] [] S := by
  intro r
  induction r with
  | zero =>
    intro S hr h8 h1 h2 h3 h4
    rw [Nat.sub_zero] at h8 h2
    refine r_iload dX5_put_92 2 rfl ?_
    refine r_if_lt dX5_put_94 (tgt := 129) (by decide) (fun h94 => ?_) (fun h94 => ?_)
    · --t
      refine r_aload_n dX5_put_129 0 rfl ?_
      refine r_getI (by first | assumption | rfl) f_X5_120 rfl rfl dX5_put_130 ?_
      refine r_iret rfl dX5_put_133 ?_
      rw [h8]
      exact hx S h8 h1 h2 h3 h4
    · --f
      exact absurd (show nI 0 - 1 < 0 by decide) (by first | exact h94 | exact Int32.not_lt.mpr h94)
  | succ r ih =>
    intro S hr h8 h1 h2 h3 h4
    have e2 : nI (r + 1) - 1 = nI r := pk_sub (a := r + 1) (b := 1) (by omega)
    have hl : len + (m - (r + 1)) < ln 197 := show len + (m - (r + 1)) < 80 by omega
    have hl2 : r < ln 198 := show r < 8 by omega
    have ec : S 198 r = cdN x r := by rw [h3 198 (by omega) (by omega)]; exact hc r (by omega)
    rw [e2]
    refine r_iload dX5_put_92 2 rfl ?_
    refine r_if_lt dX5_put_94 (tgt := 129) (by decide) (fun h94 => ?_) (fun h94 => ?_)
    · --t
      exact absurd h94 (nI_pos (by omega))
    · --f
      refine r_aload_n dX5_put_97 0 rfl ?_
      refine r_getR (b := 197) (by first | assumption | rfl) f_X5_29 rfl rfl dX5_put_98 rfl ?_
      refine r_aload_n dX5_put_101 0 rfl ?_
      refine r_getI (by first | assumption | rfl) f_X5_120 rfl rfl dX5_put_102 ?_
      refine r_aload_n dX5_put_105 0 rfl ?_
      refine r_getR (b := 198) (by first | assumption | rfl) f_X5_32 rfl rfl dX5_put_106 rfl ?_
      refine r_iload dX5_put_109 2 rfl ?_
      refine r_iald (j := r) (by first | assumption | rfl) (by first | assumption | rfl) (by first | assumption | decide) dX5_put_111 ?_
      refine r_iast (j := (len + (m - (r + 1)))) (by first | assumption | rfl) (by first | assumption | rfl) (by first | assumption | decide) dX5_put_112 ?_
      refine r_aload_n dX5_put_113 0 rfl ?_
      refine r_dup dX5_put_114 rfl ?_
      refine r_getI (by first | assumption | rfl) f_X5_120 rfl rfl dX5_put_115 ?_
      refine r_iconst dX5_put_118 (v := 1) rfl ?_
      refine r_iadd dX5_put_119 ?_
      refine r_putI (by first | assumption | rfl) f_X5_120 rfl rfl rfl rfl dX5_put_120 ?_
      refine r_iinc (lo2 := [(0, _), (5, _), (6, _)]) dX5_put_123 2 rfl (w := -1) rfl (Nat.le_of_ble_eq_true rfl) [1, 2, 0] rfl ?_
      refine r_goto dX5_put_126 (tgt := 92) (by decide) ?_
      rw [← Int32.sub_eq_add_neg, ec]
      refine ih _ (by omega) ?_ (fun j hj => ?_) (fun j ha hb => ?_) (fun b b1 b2 => ?_) (fun k hk => ?_)
      · rw [up1_s, upd, if_pos rfl, up1_n (by omega), h8, nI_1]; congr 1; omega
      · rw [up1_n (by omega), up1_s, upd, if_neg (by omega)]; exact h1 j hj
      · rw [up1_n (by omega), up1_s, upd]
        by_cases e : j = len + (m - (r + 1))
        · subst e; rw [if_pos rfl]; congr 1; omega
        · rw [if_neg e]; exact h2 j ha (by omega)
      · rw [up1_n b1, up1_n b2]; exact h3 b b1 b2
      · rw [up1_s, upd, if_neg hk, up1_n (by omega)]; exact h4 k hk
theorem t_X5_put (hP : PM S P len) : Call G (d + 1) M_X5_put [rv G 190, .long x] S (fun r u => r = some (putA x len) ∧ PM u (putP x len P) (putL x len) ∧ (∀ b, b ≠ 190 → b ≠ 197 → b ≠ 198 → u b = S b) ∧ ∀ k, k ≠ 8 → u 190 k = S 190 k) := by
  refine call_of (lo := [(0, rv G 190), (1, .long x)]) (by decide +kernel) (Nat.le_of_ble_eq_true rfl) rfl ?_
  have hok := chN_ok x 8 0 (fun j hj => absurd hj (by omega))
  have h80 := hP.1.2
  have keep : ∀ u, (∀ b, b ≠ 198 → u b = S b) → PM u P len := fun u hu => ⟨by rw [hu 190 (by omega)]; exact hP.1, fun j hj => by rw [hu 197 (by omega)]; exact hP.2 j hj⟩
  unfold putA putP putL
  refine r_lload_n dX5_put_0 1 rfl ?_
  refine r_lstore_n (lo2 := [(0, _), (1, _), (3, _)]) dX5_put_1 rfl (Nat.le_of_ble_eq_true rfl) [1, 2, 0] rfl ?_
  refine r_iconst dX5_put_2 (v := 0) rfl ?_
  refine r_istore (lo2 := [(0, _), (1, _), (3, _), (5, _)]) dX5_put_3 (Nat.le_of_ble_eq_true rfl) [1, 2, 3, 0] rfl ?_
  refine lp_X5_put1 (S0 := S) (fun h0 u hu => ?_) (fun u m hm hm8 hc hu => ?_) 8 0 S (by omega) rfl (fun j hj => absurd hj (by omega)) (fun _ _ => rfl)
  · rw [if_pos h0, if_pos h0, if_pos h0]
    exact ⟨rfl, keep u hu, fun b _ _ b3 => hu b b3, fun k _ => by rw [hu 190 (by omega)]⟩
  · rw [hm]
    rw [hm] at hok
    have e8 : u 190 8 = nI len := by rw [hu 190 (by omega)]; exact hP.1.1
    by_cases h0 : m = 0
    · subst h0
      rw [if_pos rfl, if_pos rfl, if_pos rfl]
      refine r_iload dX5_put_63 1 rfl ?_
      refine r_if_ne dX5_put_65 (tgt := 71) (by decide) (fun h65 => absurd rfl h65) (fun h65 => ?_)
      refine r_bipush dX5_put_68 (v := -2) (by decide +kernel) ?_
      refine r_iret rfl dX5_put_70 ?_
      exact ⟨rfl, keep u hu, fun b _ _ b3 => hu b b3, fun k _ => by rw [hu 190 (by omega)]⟩
    · rw [if_neg h0, if_neg h0, if_neg h0]
      have e9 : u 190 8 + nI m = nI (len + m) := by rw [e8, nI_add]
      refine r_iload dX5_put_63 1 rfl ?_
      refine r_if_ne dX5_put_65 (tgt := 71) (by decide) (fun h65 => ?_) (fun h65 => absurd h65 (nI_ne0 (by omega) (by omega)))
      refine r_aload_n dX5_put_71 0 rfl ?_
      refine r_getI (by first | assumption | rfl) f_X5_120 rfl rfl dX5_put_72 ?_
      refine r_iload dX5_put_75 1 rfl ?_
      refine r_iadd dX5_put_77 ?_
      refine r_bipush dX5_put_78 (v := 80) (by decide +kernel) ?_
      rw [e9]
      by_cases hb : 80 < len + m
      · rw [if_pos hb, if_pos hb, if_pos hb]
        refine r_icmp_le dX5_put_80 (tgt := 86) (by decide) (fun h80 => absurd h80 (Int32.not_le.mpr (nI_lt (a := 80) hb (by omega)))) (fun h80 => ?_)
        refine r_bipush dX5_put_83 (v := -4) (by decide +kernel) ?_
        refine r_iret rfl dX5_put_85 ?_
        exact ⟨rfl, keep u hu, fun b _ _ b3 => hu b b3, fun k _ => by rw [hu 190 (by omega)]⟩
      · rw [if_neg hb, if_neg hb, if_neg hb]
        refine r_icmp_le dX5_put_80 (tgt := 86) (by decide) (fun h80 => ?_) (fun h80 => absurd (nI_le (b := 80) (Nat.not_lt.mp hb) (by decide)) h80)
        refine r_iload dX5_put_86 1 rfl ?_
        refine r_iconst dX5_put_88 (v := 1) rfl ?_
        refine r_isub dX5_put_89 ?_
        refine r_istore (lo2 := [(0, _), (5, _), (6, _)]) dX5_put_90 (Nat.le_of_ble_eq_true rfl) [1, 2, 0] rfl ?_
        refine lp_X5_put2 (S0 := u) (x := x) (len := len) (m := m) (by omega) hm8 (fun w w8 w1 w2 w3 w4 => ?_) hc m u (Nat.le_refl _) (by rw [Nat.sub_self]; exact e8) (fun _ _ => rfl) (fun j a b => absurd b (by omega)) (fun _ _ _ => rfl) (fun _ _ => rfl)
        refine ⟨rfl, ⟨⟨w8, by omega⟩, fun j hj => ?_⟩, fun b b1 b2 b3 => (w3 b b1 b2).trans (hu b b3), fun k hk => by rw [w4 k hk, hu 190 (by omega)]⟩
        unfold apP
        by_cases hj2 : j < len
        · rw [if_pos hj2, w1 j hj2, hu 197 (by omega)]; exact hP.2 j hj2
        · rw [if_neg hj2, w2 j (by omega) hj]
          exact ⟨rfl, chr_of (hok _ (by omega))⟩
theorem t_X5_wipe (hP : PM S P len) : Call G d M_X5_wipe [rv G 190] S (fun r u => r = some (nI len) ∧ PM u P 0 ∧ (∀ b, b ≠ 190 → u b = S b) ∧ ∀ k, k ≠ 8 → u 190 k = S 190 k) := by
  refine call_of (lo := [(0, rv G 190)]) (by decide +kernel) (Nat.le_of_ble_eq_true rfl) rfl ?_
  refine r_aload_n dX5_wipe_0 0 rfl ?_
  refine r_getI (by first | assumption | rfl) f_X5_120 rfl rfl dX5_wipe_1 ?_
  refine r_istore_n (lo2 := [(0, _), (1, _)]) dX5_wipe_4 rfl (Nat.le_of_ble_eq_true rfl) [1, 0] rfl ?_
  refine r_aload_n dX5_wipe_5 0 rfl ?_
  refine r_iconst dX5_wipe_6 (v := 0) rfl ?_
  refine r_putI (by first | assumption | rfl) f_X5_120 rfl rfl rfl rfl dX5_wipe_7 ?_
  refine r_iload_n dX5_wipe_10 1 rfl ?_
  refine r_iret rfl dX5_wipe_11 ?_
  rw [hP.1.1]
  exact ⟨rfl, ⟨⟨by rw [up1_s, upd, if_pos rfl]; rfl, by omega⟩, fun j hj => absurd hj (by omega)⟩, fun b hb => up1_n hb, fun k hk => by rw [up1_s, upd, if_neg hk]⟩
theorem iw_end0 (hx : Q (some 0) S) : At G (d + 8) M_X5_isWell Q 19 [(0, rv G 190), (1, .int 0)] [] S := by
  refine r_iload_n dX5_isWell_19 1 rfl ?_
  refine r_if_eq dX5_isWell_20 (tgt := 82) (by decide) (fun h20 => ?_) (fun h20 => ?_)
  · --t
    refine r_iload_n dX5_isWell_82 1 rfl ?_
    refine r_zret rfl (by first | rfl | decide) dX5_isWell_83 ?_
    exact hx
  · --f
    exact absurd rfl h20
theorem lp_X5_isWell : ∀ f o i S, f + o = 79 → 3 * o ≤ i → i ≤ len → PE S P len (rO P len i).2.1 → FE S0 S → (∀ u, PE u P len (fl P len (f + 1) i).2 → FE S0 u → Q (some (bI (fl P len (f + 1) i).1)) u) → At G (d + 8) M_X5_isWell Q 19 [(0, rv G 190), (1, .int (bI (rO P len i).1))] [] S := by
  intro f
  induction f with
  | zero =>
    intro o i S ho hi hl hP hF hx
    have := hP.1.1.2
    omega
  | succ f ih =>
    intro o i S ho hi hl hP hF hx
    have hro := rO_le (P := P) hl
    have hl80 := hP.1.1.2
    have e8 := hP.1.1.1
    have e9 := hP.2.1
    unfold fl at hx
    cases e1 : (rO P len i).1
    · rw [e1, if_neg (by decide)] at hx
      exact iw_end0 (hx S hP hF)
    · rw [e1, if_pos rfl] at hx
      have hro2 := hro.2 e1
      by_cases e2 : len ≤ (rO P len i).2.1
      · rw [if_pos e2] at hx
        refine r_iload_n dX5_isWell_19 1 rfl ?_
        refine r_if_eq dX5_isWell_20 (tgt := 82) (by decide) (fun h20 => ?_) (fun h20 => ?_)
        · --t
          exact absurd h20 (by decide)
        · --f
          refine r_aload_n dX5_isWell_23 0 rfl ?_
          refine r_getI (by first | assumption | rfl) f_X5_131 rfl rfl dX5_isWell_24 ?_
          refine r_aload_n dX5_isWell_27 0 rfl ?_
          refine r_getI (by first | assumption | rfl) f_X5_120 rfl rfl dX5_isWell_28 ?_
          refine r_icmp_ge dX5_isWell_31 (tgt := 82) (by decide) (fun h31 => ?_) (fun h31 => ?_)
          · --t
            refine r_iload_n dX5_isWell_82 1 rfl ?_
            refine r_zret rfl (by first | rfl | decide) dX5_isWell_83 ?_
            exact hx S hP hF
          · --f
            rw [e9, e8] at h31
            exact absurd (nI_le e2 (by omega)) h31
      · rw [if_neg e2] at hx
        have hs := @t_X5_seesC G (d + 6) S P len _ 59 (by decide) hP
        by_cases e3 : sg P len (rO P len i).2.1 = 59
        · rw [if_pos e3] at hx
          rw [decide_eq_true e3] at hs
          have h1 := hP.1.at (m := (rO P len i).2.1 + 1) (x := S 190 9 + 1) (by rw [e9, nI_1]) (by omega)
          refine r_iload_n dX5_isWell_19 1 rfl ?_
          refine r_if_eq dX5_isWell_20 (tgt := 82) (by decide) (fun h20 => ?_) (fun h20 => ?_)
          · --t
            exact absurd h20 (by decide)
          · --f
            refine r_aload_n dX5_isWell_23 0 rfl ?_
            refine r_getI (by first | assumption | rfl) f_X5_131 rfl rfl dX5_isWell_24 ?_
            refine r_aload_n dX5_isWell_27 0 rfl ?_
            refine r_getI (by first | assumption | rfl) f_X5_120 rfl rfl dX5_isWell_28 ?_
            refine r_icmp_ge dX5_isWell_31 (tgt := 82) (by decide) (fun h31 => ?_) (fun h31 => ?_)
            · --t
              rw [e9, e8] at h31
              exact absurd h31 (nI_ge (Nat.not_le.mp e2) (by omega))
            · --f
              refine r_aload_n dX5_isWell_34 0 rfl ?_
              refine r_bipush dX5_isWell_35 (v := 59) (by decide +kernel) ?_
              refine r_bipush dX5_isWell_37 (v := 59) (by decide +kernel) ?_
              refine r_callViF (As := [_, _]) c_X5_sees (by first | assumption | rfl) l_X5_134 rfl rfl rfl (Nat.le_of_ble_eq_true rfl) dX5_isWell_39 hs ?_
              refine r_istore_n (lo2 := [(0, _), (1, _)]) dX5_isWell_42 rfl (Nat.le_of_ble_eq_true rfl) [1, 0] rfl ?_
              refine r_aload_n dX5_isWell_43 0 rfl ?_
              refine r_dup dX5_isWell_44 rfl ?_
              refine r_getI (by first | assumption | rfl) f_X5_131 rfl rfl dX5_isWell_45 ?_
              refine r_iload_n dX5_isWell_48 1 rfl ?_
              refine r_if_eq dX5_isWell_49 (tgt := 56) (by decide) (fun h49 => ?_) (fun h49 => ?_)
              · --t
                exact absurd h49 (by decide)
              · --f
                refine r_iconst dX5_isWell_52 (v := 1) rfl ?_
                refine r_goto dX5_isWell_53 (tgt := 57) (by decide) ?_
                refine r_iadd dX5_isWell_57 ?_
                refine r_putI (by first | assumption | rfl) f_X5_131 rfl rfl rfl rfl dX5_isWell_58 ?_
                refine r_iload_n dX5_isWell_61 1 rfl ?_
                refine r_if_eq dX5_isWell_62 (tgt := 77) (by decide) (fun h62 => ?_) (fun h62 => ?_)
                · --t
                  exact absurd h62 (by decide)
                · --f
                  refine r_aload_n dX5_isWell_65 0 rfl ?_
                  refine r_iconst dX5_isWell_66 (v := 0) rfl ?_
                  refine r_callVi (As := [_]) c_X5_order (by first | assumption | rfl) l_X5_144 rfl rfl rfl (Nat.le_of_ble_eq_true rfl) dX5_isWell_67 (t_X5_order0 h1) (fun r67 u67 q67 => ?_)
                  obtain ⟨hr, g1, f1⟩ := q67
                  cases hr
                  refine r_if_ne dX5_isWell_70 (tgt := 77) (by decide) (fun h70 => ?_) (fun h70 => ?_)
                  · --t
                    refine r_iconst dX5_isWell_77 (v := 0) rfl ?_
                    refine r_istore_n (lo2 := [(0, _), (1, _)]) dX5_isWell_78 rfl (Nat.le_of_ble_eq_true rfl) [1, 0] rfl ?_
                    refine r_goto dX5_isWell_79 (tgt := 19) (by decide) ?_
                    have z := ih (o + 1) _ _ (by omega) (by omega) (by omega) g1 ((hF.up).tr f1) hx
                    cases e4 : (rO P len ((rO P len i).2.1 + 1)).1
                    · rw [e4] at z h70
                      first | exact z | exact absurd h70 (by decide)
                    · rw [e4] at z h70
                      first | exact z | exact absurd rfl h70
                  · --f
                    refine r_iconst dX5_isWell_73 (v := 1) rfl ?_
                    refine r_goto dX5_isWell_74 (tgt := 78) (by decide) ?_
                    refine r_istore_n (lo2 := [(0, _), (1, _)]) dX5_isWell_78 rfl (Nat.le_of_ble_eq_true rfl) [1, 0] rfl ?_
                    refine r_goto dX5_isWell_79 (tgt := 19) (by decide) ?_
                    have z := ih (o + 1) _ _ (by omega) (by omega) (by omega) g1 ((hF.up).tr f1) hx
                    cases e4 : (rO P len ((rO P len i).2.1 + 1)).1
                    · rw [e4] at z h70
                      first | exact z | exact absurd h70 (by decide)
                    · rw [e4] at z h70
                      first | exact z | exact absurd rfl h70
        · rw [if_neg e3] at hx
          rw [decide_eq_false e3] at hs
          have h1 := hP.1.at (m := (rO P len i).2.1) (x := S 190 9 + 0) (by rw [e9, Int32.add_zero]) hP.2.2
          refine r_iload_n dX5_isWell_19 1 rfl ?_
          refine r_if_eq dX5_isWell_20 (tgt := 82) (by decide) (fun h20 => ?_) (fun h20 => ?_)
          · --t
            exact absurd h20 (by decide)
          · --f
            refine r_aload_n dX5_isWell_23 0 rfl ?_
            refine r_getI (by first | assumption | rfl) f_X5_131 rfl rfl dX5_isWell_24 ?_
            refine r_aload_n dX5_isWell_27 0 rfl ?_
            refine r_getI (by first | assumption | rfl) f_X5_120 rfl rfl dX5_isWell_28 ?_
            refine r_icmp_ge dX5_isWell_31 (tgt := 82) (by decide) (fun h31 => ?_) (fun h31 => ?_)
            · --t
              rw [e9, e8] at h31
              exact absurd h31 (nI_ge (Nat.not_le.mp e2) (by omega))
            · --f
              refine r_aload_n dX5_isWell_34 0 rfl ?_
              refine r_bipush dX5_isWell_35 (v := 59) (by decide +kernel) ?_
              refine r_bipush dX5_isWell_37 (v := 59) (by decide +kernel) ?_
              refine r_callViF (As := [_, _]) c_X5_sees (by first | assumption | rfl) l_X5_134 rfl rfl rfl (Nat.le_of_ble_eq_true rfl) dX5_isWell_39 hs ?_
              refine r_istore_n (lo2 := [(0, _), (1, _)]) dX5_isWell_42 rfl (Nat.le_of_ble_eq_true rfl) [1, 0] rfl ?_
              refine r_aload_n dX5_isWell_43 0 rfl ?_
              refine r_dup dX5_isWell_44 rfl ?_
              refine r_getI (by first | assumption | rfl) f_X5_131 rfl rfl dX5_isWell_45 ?_
              refine r_iload_n dX5_isWell_48 1 rfl ?_
              refine r_if_eq dX5_isWell_49 (tgt := 56) (by decide) (fun h49 => ?_) (fun h49 => ?_)
              · --t
                refine r_iconst dX5_isWell_56 (v := 0) rfl ?_
                refine r_iadd dX5_isWell_57 ?_
                refine r_putI (by first | assumption | rfl) f_X5_131 rfl rfl rfl rfl dX5_isWell_58 ?_
                refine r_iload_n dX5_isWell_61 1 rfl ?_
                refine r_if_eq dX5_isWell_62 (tgt := 77) (by decide) (fun h62 => ?_) (fun h62 => ?_)
                · --t
                  refine r_iconst dX5_isWell_77 (v := 0) rfl ?_
                  refine r_istore_n (lo2 := [(0, _), (1, _)]) dX5_isWell_78 rfl (Nat.le_of_ble_eq_true rfl) [1, 0] rfl ?_
                  refine r_goto dX5_isWell_79 (tgt := 19) (by decide) ?_
                  exact iw_end0 (hx _ h1 hF.up)
                · --f
                  exact absurd rfl h62
              · --f
                exact absurd rfl h49
theorem t_X5_isWell (hP : PM S P len) : Call G (d + 8) M_X5_isWell [rv G 190] S (fun v u => v = some (bI (fl P len 80 0).1) ∧ PE u P len (fl P len 80 0).2 ∧ FE S u) := by
  refine call_of (lo := [(0, rv G 190)]) (by decide +kernel) (Nat.le_of_ble_eq_true rfl) rfl ?_
  have h1 := hP.at (m := 0) (x := 0) rfl (Nat.zero_le _)
  refine r_aload_n dX5_isWell_0 0 rfl ?_
  refine r_iconst dX5_isWell_1 (v := 0) rfl ?_
  refine r_putI (by first | assumption | rfl) f_X5_131 rfl rfl rfl rfl dX5_isWell_2 ?_
  refine r_aload_n dX5_isWell_5 0 rfl ?_
  refine r_iconst dX5_isWell_6 (v := 0) rfl ?_
  refine r_callVi (As := [_]) c_X5_order (by first | assumption | rfl) l_X5_144 rfl rfl rfl (Nat.le_of_ble_eq_true rfl) dX5_isWell_7 (t_X5_order0 h1) (fun r7 u7 q7 => ?_)
  obtain ⟨hr, g1, f1⟩ := q7
  cases hr
  refine r_if_ne dX5_isWell_10 (tgt := 17) (by decide) (fun h10 => ?_) (fun h10 => ?_)
  · --t
    refine r_iconst dX5_isWell_17 (v := 0) rfl ?_
    refine r_istore_n (lo2 := [(0, _), (1, _)]) dX5_isWell_18 rfl (Nat.le_of_ble_eq_true rfl) [1, 0] rfl ?_
    have z := @lp_X5_isWell G d S (fun v u => v = some (bI (fl P len 80 0).1) ∧ PE u P len (fl P len 80 0).2 ∧ FE S u) P len 79 0 0 _ (by omega) (by omega) (Nat.zero_le _) g1 ((FE.rf.up).tr f1) (fun u a1 a2 => ⟨rfl, a1, a2⟩)
    cases e4 : (rO P len 0).1
    · rw [e4] at z h10
      first | exact z | exact absurd h10 (by decide)
    · rw [e4] at z h10
      first | exact z | exact absurd rfl h10
  · --f
    refine r_iconst dX5_isWell_13 (v := 1) rfl ?_
    refine r_goto dX5_isWell_14 (tgt := 18) (by decide) ?_
    refine r_istore_n (lo2 := [(0, _), (1, _)]) dX5_isWell_18 rfl (Nat.le_of_ble_eq_true rfl) [1, 0] rfl ?_
    have z := @lp_X5_isWell G d S (fun v u => v = some (bI (fl P len 80 0).1) ∧ PE u P len (fl P len 80 0).2 ∧ FE S u) P len 79 0 0 _ (by omega) (by omega) (Nat.zero_le _) g1 ((FE.rf.up).tr f1) (fun u a1 a2 => ⟨rfl, a1, a2⟩)
    cases e4 : (rO P len 0).1
    · rw [e4] at z h10
      first | exact z | exact absurd h10 (by decide)
    · rw [e4] at z h10
      first | exact z | exact absurd rfl h10
theorem t_X5_fault (hP : PM S P len) : Call G (d + 9) M_X5_fault [rv G 190] S (fun v u => v = some (fauA P len) ∧ PM u P len ∧ FE S u) := by
  refine call_of (lo := [(0, rv G 190)]) (by decide +kernel) (Nat.le_of_ble_eq_true rfl) rfl ?_
  unfold fauA
  refine r_aload_n dX5_fault_0 0 rfl ?_
  refine r_callVi (As := []) c_X5_isWell (by first | assumption | rfl) l_X5_148 rfl rfl rfl (Nat.le_of_ble_eq_true rfl) dX5_fault_1 (t_X5_isWell hP) (fun r1 u1 q1 => ?_)
  obtain ⟨hr, g1, f1⟩ := q1
  cases hr
  refine r_if_eq dX5_fault_4 (tgt := 12) (by decide) (fun h4 => ?_) (fun h4 => ?_)
  · --t
    refine r_aload_n dX5_fault_12 0 rfl ?_
    refine r_getI (by first | assumption | rfl) f_X5_131 rfl rfl dX5_fault_13 ?_
    refine r_iret rfl dX5_fault_16 ?_
    first
    | (rw [bI_0] at h4
       rw [h4, g1.2.1]
       exact ⟨rfl, g1.1, f1⟩)
    | (rw [← ne_eq, bI_n0] at h4
       rw [h4]
       exact ⟨rfl, g1.1, f1⟩)
  · --f
    refine r_bipush dX5_fault_7 (v := -6) (by decide +kernel) ?_
    refine r_goto dX5_fault_9 (tgt := 16) (by decide) ?_
    refine r_iret rfl dX5_fault_16 ?_
    first
    | (rw [bI_0] at h4
       rw [h4, g1.2.1]
       exact ⟨rfl, g1.1, f1⟩)
    | (rw [← ne_eq, bI_n0] at h4
       rw [h4]
       exact ⟨rfl, g1.1, f1⟩)
end MODQ
