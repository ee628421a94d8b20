/-! the pad: faults, characters -/
def fl (P : Nat → Int32) (len : Nat) : Nat → Nat → Bool × Nat
  | 0, i => (false, i)
  | f + 1, i => if (rO P len i).1 = true then (if len ≤ (rO P len i).2.1 then (true, (rO P len i).2.1) else if sg P len (rO P len i).2.1 = 59 then fl P len f ((rO P len i).2.1 + 1) else (false, (rO P len i).2.1)) else (false, (rO P len i).2.1)
def fauA (P : Nat → Int32) (len : Nat) : Int32 := if (fl P len 80 0).1 = true then -6 else nI (fl P len 80 0).2
/-- the pad as it lies between calls -/
def PB (S : mS) (P : Nat → Int32) (len : Nat) : Prop := (S 185 1 = nI len ∧ len ≤ 80) ∧ ∀ j, j < len → S 186 j = P j ∧ chr (P j)
theorem PD.pb {S : mS} {P : Nat → Int32} {len i : Nat} (h : PD S P len i) : PB S P len := ⟨⟨h.1.1, h.1.2.1⟩, h.2⟩
theorem PB.pd {S : mS} {P : Nat → Int32} {len : Nat} (h : PB S P len) : PD (up1 S 185 (upd (S 185) 2 0)) P len 0 := by
  refine ⟨?_, fun j hj => ?_⟩
  · rw [up1_s, upd, upd, if_neg (by omega), if_pos rfl]; exact ⟨h.1.1, h.1.2, rfl, Nat.zero_le _⟩
  · rw [up1_n (by omega)]; exact h.2 j hj
theorem PB.off {S u : mS} {P : Nat → Int32} {len : Nat} (h : PB S P len) (h1 : u 185 = S 185) (h2 : u 186 = S 186) : PB u P len := by
  unfold PB; rw [h1, h2]; exact h
def shN (x : Int64) : Nat → Int64
  | 0 => x
  | k + 1 => ((shN x k).toUInt64 >>> ((8 : Int32).toInt64.toUInt64 &&& Int64.toUInt64 63)).toInt64
def cdN (x : Int64) (k : Nat) : Int32 := (shN x k &&& 255).toInt32
def chN (x : Int64) : Nat → Nat → Nat
  | 0, k => k
  | f + 1, k => if shN x k = 0 then k else if cdN x k < 33 ∨ 126 < cdN x k then 0 else chN x f (k + 1)
theorem chN_le (x : Int64) : ∀ f k, chN x f k ≤ f + k := by
  intro f
  induction f with
  | zero => intro k; exact Nat.le_of_eq (by simp [chN])
  | succ f ih =>
    intro k
    unfold chN
    split
    · omega
    · split
      · omega
      · have := ih (k + 1); omega
theorem chN_ok (x : Int64) : ∀ f k, (∀ j, j < k → ¬ (cdN x j < 33 ∨ 126 < cdN x j)) → ∀ j, j < chN x f k → ¬ (cdN x j < 33 ∨ 126 < cdN x j) := by
  intro f
  induction f with
  | zero => intro k h; exact h
  | succ f ih =>
    intro k h
    unfold chN
    split
    · exact h
    · split
      · intro j hj; exact absurd hj (by omega)
      · rename_i h2
        refine ih (k + 1) (fun j hj => ?_)
        by_cases e : j = k
        · subst e; exact h2
        · exact h j (by omega)
theorem chr_of {x : Int32} (h : ¬ (x < 33 ∨ 126 < x)) : chr x := by
  have a1 : ¬ x < 33 := fun z => h (Or.inl z)
  have a2 : ¬ 126 < x := fun z => h (Or.inr z)
  have a0 : ¬ x < 0 := by
    intro z
    rw [Int32.lt_iff_toInt_lt] at z a1
    have e0 : (0 : Int32).toInt = 0 := by decide
    have e3 : (33 : Int32).toInt = 33 := by decide
    omega
  obtain ⟨j, hj, rfl⟩ := nI_of a0
  rw [show (33 : Int32) = nI 33 from rfl, nI_ltI hj (by omega)] at a1
  rw [show (126 : Int32) = nI 126 from rfl, nI_ltI (by omega) hj] at a2
  exact ⟨j, rfl, by omega, by omega⟩
theorem chr_cast {x : Int32} (h : chr x) : (x.toUInt32 % 65536).toInt32 = x ∧ vp_nar .char x = x := by
  obtain ⟨c, rfl, h1, h2⟩ := h
  refine ⟨?_, ?_⟩
  · rw [pk_char]
    have e : (nI c).toBitVec.toNat = c := pk_tn (by omega)
    rw [e, Nat.mod_eq_of_lt (by omega)]
  · unfold vp_nar
    rw [(pk_charN (q := c) (by omega)).1]
def apP (P : Nat → Int32) (len m : Nat) (x : Int64) : Nat → Int32 := fun j => if j < len then P j else cdN x (len + m - 1 - j)
theorem lcmp0 (x : Int64) : lg_cmp x 0 = 0 ↔ x = 0 := by
  unfold lg_cmp
  by_cases h : x = 0
  · subst h; decide
  · by_cases h2 : x > 0
    · rw [if_pos h2]; exact ⟨fun z => absurd z (by decide), fun z => absurd z h⟩
    · rw [if_neg h2, if_neg h]; exact ⟨fun z => absurd z (by decide), fun z => absurd z h⟩
section PADC
variable {G : mG} {d : Nat} {S : mS} {P : Nat → Int32} {len i : Nat}
theorem lp_X1_faultAt {S0 : mS} {Q : Option Int32 → mS → Prop} : ∀ f o i S, f + o = 80 → 3 * o ≤ i → PD S P len i → FP S0 S → (∀ u, PB u P len → FP S0 u → Q (some (if (fl P len f i).1 = true then -6 else nI (fl P len f i).2)) u) → At G (d + 5) M_X1_faultAt Q 7 [(0, rv G 185), (1, .int (nI o))] [] S := by
  intro f
  induction f with
  | zero =>
    intro o i S ho hi hP hF hQ
    have := hP.1.2.1
    have := hP.1.2.2.2
    omega
  | succ f ih =>
    intro o i S ho hi hP hF hQ
    have ho80 : o < 80 := by omega
    have hro := rO_le (P := P) hP.1.2.2.2
    refine r_iload_n dX1_faultAt_7 1 rfl ?_
    refine r_bipush dX1_faultAt_8 (v := 80) (by decide +kernel) ?_
    refine r_icmp_ge dX1_faultAt_10 (tgt := 59) (by decide) (fun h10 => ?_) (fun h10 => ?_)
    · --t
      exact absurd h10 (nI_ge (b := 80) ho80 (by decide))
    · --f
      refine r_aload_n dX1_faultAt_13 0 rfl ?_
      refine r_callVi (As := []) c_X1_readOrder (by first | assumption | rfl) l_X1_24 rfl rfl rfl (Nat.le_of_ble_eq_true rfl) dX1_faultAt_14 (t_X1_readOrder hP) (fun r14 u14 q14 => ?_)
      obtain ⟨hr, hP2, hF2, -⟩ := q14
      cases hr
      refine r_if_ne dX1_faultAt_17 (tgt := 25) (by decide) (fun h17 => ?_) (fun h17 => ?_)
      · --t
        refine r_aload_n dX1_faultAt_25 0 rfl ?_
        refine r_getI (by first | assumption | rfl) f_X1_21 rfl rfl dX1_faultAt_26 ?_
        refine r_aload_n dX1_faultAt_29 0 rfl ?_
        refine r_getI (by first | assumption | rfl) f_X1_17 rfl rfl dX1_faultAt_30 ?_
        refine r_icmp_lt dX1_faultAt_33 (tgt := 39) (by decide) (fun h33 => ?_) (fun h33 => ?_)
        · --t
          refine r_aload_n dX1_faultAt_39 0 rfl ?_
          refine r_bipush dX1_faultAt_40 (v := 59) (by decide +kernel) ?_
          refine r_callVi (As := [_]) c_X1_readSign (by first | assumption | rfl) l_X1_28 rfl rfl rfl (Nat.le_of_ble_eq_true rfl) dX1_faultAt_42 (t_X1_readSign (by decide) hP2) (fun r42 u42 q42 => ?_)
          obtain ⟨hr, hP3, hF3, -⟩ := q42
          cases hr
          refine r_if_ne dX1_faultAt_45 (tgt := 53) (by decide) (fun h45 => ?_) (fun h45 => ?_)
          · --t
            refine r_iinc (lo2 := [(0, _), (1, _)]) dX1_faultAt_53 1 rfl (w := 1) rfl (Nat.le_of_ble_eq_true rfl) [1, 0] rfl ?_
            refine r_goto dX1_faultAt_56 (tgt := 7) (by decide) ?_
            rw [bI_n0] at h17
            rw [hP2.1.2.2.1, hP2.1.1] at h33
            have hlt : ¬ len ≤ (rO P len i).2.1 := by
              have := hP2.1.2.1
              have h9 := hP2.1.2.2.2
              rw [nI_ltI (by omega) (by omega)] at h33
              omega
            rw [bI_n0, decide_eq_true_iff] at h45
            rw [if_pos h45] at hP3
            rw [nI_1]
            refine ih (o + 1) _ _ (by omega) (by have := hro.2 h17; omega) hP3 ((hF.tr hF2).tr hF3) (fun u hu hFu => ?_)
            have z := hQ u hu hFu
            unfold fl at z
            rw [h17, if_pos rfl, if_neg hlt, if_pos h45] at z
            exact z
          · --f
            refine r_aload_n dX1_faultAt_48 0 rfl ?_
            refine r_getI (by first | assumption | rfl) f_X1_21 rfl rfl dX1_faultAt_49 ?_
            refine r_iret rfl dX1_faultAt_52 ?_
            rw [bI_n0] at h17
            rw [hP2.1.2.2.1, hP2.1.1] at h33
            have hlt : ¬ len ≤ (rO P len i).2.1 := by
              have := hP2.1.2.1
              have h9 := hP2.1.2.2.2
              rw [nI_ltI (by omega) (by omega)] at h33
              omega
            rw [bI_0, decide_eq_false_iff_not] at h45
            rw [if_neg h45] at hP3
            have z := hQ _ hP3.pb ((hF.tr hF2).tr hF3)
            unfold fl at z
            rw [h17, if_pos rfl, if_neg hlt, if_neg h45] at z
            rw [hP3.1.2.2.1]
            exact z
        · --f
          refine r_bipush dX1_faultAt_36 (v := -6) (by decide +kernel) ?_
          refine r_iret rfl dX1_faultAt_38 ?_
          rw [bI_n0] at h17
          rw [hP2.1.2.2.1, hP2.1.1] at h33
          have hge : len ≤ (rO P len i).2.1 := by
            have := hP2.1.2.1
            have h9 := hP2.1.2.2.2
            rw [nI_ltI (by omega) (by omega)] at h33
            omega
          have z := hQ _ hP2.pb (hF.tr hF2)
          unfold fl at z
          rw [h17, if_pos rfl, if_pos hge] at z
          exact z
      · --f
        refine r_aload_n dX1_faultAt_20 0 rfl ?_
        refine r_getI (by first | assumption | rfl) f_X1_21 rfl rfl dX1_faultAt_21 ?_
        refine r_iret rfl dX1_faultAt_24 ?_
        rw [bI_0] at h17
        have z := hQ _ hP2.pb (hF.tr hF2)
        unfold fl at z
        rw [h17] at z
        rw [hP2.1.2.2.1]
        exact z
theorem t_X1_faultAt (h : PB S P len) : Call G (d + 5) M_X1_faultAt [rv G 185] S (fun v u => v = some (fauA P len) ∧ PB u P len ∧ FP S u) := by
  refine call_of (lo := [(0, rv G 185)]) (by decide +kernel) (Nat.le_of_ble_eq_true rfl) rfl ?_
  refine r_aload_n dX1_faultAt_0 0 rfl ?_
  refine r_iconst dX1_faultAt_1 (v := 0) rfl ?_
  refine r_putI (by first | assumption | rfl) f_X1_21 rfl rfl rfl rfl dX1_faultAt_2 ?_
  refine r_iconst dX1_faultAt_5 (v := 0) rfl ?_
  refine r_istore_n (lo2 := [(0, _), (1, _)]) dX1_faultAt_6 rfl (Nat.le_of_ble_eq_true rfl) [1, 0] rfl ?_
  exact lp_X1_faultAt (S0 := S) 80 0 0 _ (by omega) (by omega) h.pd FP.rf.up (fun u h1 h2 => ⟨rfl, h1, h2⟩)
theorem lp_X1_charactersIn {Q : Option Int32 → mS → Prop} {x : Int64} : ∀ f k (lo5 : List (Nat × Value)), (lo5 = [] ∨ ∃ y, lo5 = [(5, .int y)]) → f + k = 8 → Q (some (nI (chN x f k))) S → At G d M_X1_charactersIn Q 5 ([(0, .long x), (2, .long (shN x k)), (4, .int (nI k))] ++ lo5) [] S := by
  intro f
  induction f with
  | zero =>
    intro k lo5 h5 hk hQ
    obtain rfl : k = 8 := by omega
    refine r_sub [0, 1, 2] (lo2 := [(0, _), (2, _), (4, _)]) rfl ?_
    refine r_iload dX1_charactersIn_5 2 rfl ?_
    refine r_bipush dX1_charactersIn_7 (v := 8) (by decide +kernel) ?_
    refine r_icmp_ge dX1_charactersIn_9 (tgt := 53) (by decide) (fun h9 => ?_) (fun h9 => ?_)
    · --t
      refine r_iload dX1_charactersIn_53 2 rfl ?_
      refine r_iret rfl dX1_charactersIn_55 ?_
      exact hQ
    · --f
      exact absurd (show (8 : Int32) ≤ nI 8 by decide) h9
  | succ f ih =>
    intro k lo5 h5 hk hQ
    have hk8 : k < 8 := by omega
    refine r_sub [0, 1, 2] (lo2 := [(0, _), (2, _), (4, _)]) rfl ?_
    refine r_iload dX1_charactersIn_5 2 rfl ?_
    refine r_bipush dX1_charactersIn_7 (v := 8) (by decide +kernel) ?_
    refine r_icmp_ge dX1_charactersIn_9 (tgt := 53) (by decide) (fun h9 => ?_) (fun h9 => ?_)
    · --t
      exact absurd h9 (nI_ge (b := 8) hk8 (by decide))
    · --f
      refine r_lload_n dX1_charactersIn_12 1 rfl ?_
      refine r_lconst dX1_charactersIn_13 (v := 0) rfl ?_
      refine r_lcmp dX1_charactersIn_14 ?_
      refine r_if_eq dX1_charactersIn_15 (tgt := 53) (by decide) (fun h15 => ?_) (fun h15 => ?_)
      · --t
        refine r_iload dX1_charactersIn_53 2 rfl ?_
        refine r_iret rfl dX1_charactersIn_55 ?_
        rw [lcmp0] at h15
        unfold chN at hQ
        rw [if_pos h15] at hQ
        exact hQ
      · --f
        refine r_lload_n dX1_charactersIn_18 1 rfl ?_
        refine r_ldc2 k_X1_15 dX1_charactersIn_19 ?_
        refine r_land dX1_charactersIn_22 ?_
        refine r_l2i dX1_charactersIn_23 ?_
        refine r_istore (lo2 := [(0, _), (2, _), (4, _), (5, _)]) dX1_charactersIn_24 (Nat.le_of_ble_eq_true rfl) [1, 2, 3, 0] rfl ?_
        refine r_iload dX1_charactersIn_26 3 rfl ?_
        refine r_bipush dX1_charactersIn_28 (v := 33) (by decide +kernel) ?_
        refine r_icmp_lt dX1_charactersIn_30 (tgt := 40) (by decide) (fun h30 => ?_) (fun h30 => ?_)
        · --t
          refine r_iconst dX1_charactersIn_40 (v := 0) rfl ?_
          refine r_iret rfl dX1_charactersIn_41 ?_
          rw [lcmp0] at h15
          unfold chN at hQ
          rw [if_neg h15, if_pos (by first | exact Or.inl h30 | exact Or.inr (Int32.not_le.mp h37))] at hQ
          exact hQ
        · --f
          refine r_iload dX1_charactersIn_33 3 rfl ?_
          refine r_bipush dX1_charactersIn_35 (v := 126) (by decide +kernel) ?_
          refine r_icmp_le dX1_charactersIn_37 (tgt := 42) (by decide) (fun h37 => ?_) (fun h37 => ?_)
          · --t
            refine r_lload_n dX1_charactersIn_42 1 rfl ?_
            refine r_bipush dX1_charactersIn_43 (v := 8) (by decide +kernel) ?_
            refine r_lushr dX1_charactersIn_45 ?_
            refine r_lstore_n (lo2 := [(0, _), (2, _), (4, _), (5, _)]) dX1_charactersIn_46 rfl (Nat.le_of_ble_eq_true rfl) [1, 0, 2, 3] rfl ?_
            refine r_iinc (lo2 := [(0, _), (2, _), (4, _), (5, _)]) dX1_charactersIn_47 2 rfl (w := 1) rfl (Nat.le_of_ble_eq_true rfl) [1, 2, 0, 3] rfl ?_
            refine r_goto dX1_charactersIn_50 (tgt := 5) (by decide) ?_
            rw [lcmp0] at h15
            unfold chN at hQ
            rw [if_neg h15, if_neg (fun z => z.elim h30 (Int32.not_lt.mpr h37))] at hQ
            rw [nI_1]
            exact ih (k + 1) [(5, .int (cdN x k))] (Or.inr ⟨_, rfl⟩) (by omega) hQ
          · --f
            refine r_iconst dX1_charactersIn_40 (v := 0) rfl ?_
            refine r_iret rfl dX1_charactersIn_41 ?_
            rw [lcmp0] at h15
            unfold chN at hQ
            rw [if_neg h15, if_pos (by first | exact Or.inl h30 | exact Or.inr (Int32.not_le.mp h37))] at hQ
            exact hQ
theorem t_X1_charactersIn {x : Int64} : Call G d M_X1_charactersIn [.long x] S (fun v u => v = some (nI (chN x 8 0)) ∧ u = S) := by
  refine call_of (lo := [(0, .long x)]) (by decide +kernel) (Nat.le_of_ble_eq_true rfl) rfl ?_
  refine r_lload_n dX1_charactersIn_0 0 rfl ?_
  refine r_lstore_n (lo2 := [(0, _), (2, _)]) dX1_charactersIn_1 rfl (Nat.le_of_ble_eq_true rfl) [1, 0] rfl ?_
  refine r_iconst dX1_charactersIn_2 (v := 0) rfl ?_
  refine r_istore (lo2 := [(0, _), (2, _), (4, _)]) dX1_charactersIn_3 (Nat.le_of_ble_eq_true rfl) [1, 2, 0] rfl ?_
  exact lp_X1_charactersIn 8 0 [] (Or.inl rfl) (by omega) ⟨rfl, rfl⟩
theorem lp_X1_addCharacters {S0 : mS} {Q : Option Int32 → mS → Prop} {x : Int64} {m : Nat} (hl : S0 185 1 = nI len) (hm : len + m ≤ 80) (hc : ∀ j, j < m → chr (cdN x j)) (hx : ∀ u, (∀ j, j < len → u 186 j = S0 186 j) → (∀ j, len ≤ j → j < len + m → u 186 j = cdN x (len + m - 1 - j)) → (∀ b, b ≠ 186 → u b = S0 b) → At G d M_X1_addCharacters Q 50 [(0, rv G 185), (3, .int (nI m))] [] u) :
    ∀ r S, r ≤ m → (∀ j, j < len → S 186 j = S0 186 j) → (∀ j, len + r ≤ j → j < len + m → S 186 j = cdN x (len + m - 1 - j)) → (∀ b, b ≠ 186 → S b = S0 b) → At G d M_X1_addCharacters Q 13 [(0, rv G 185), (1, .long x), (3, .int (nI m)), (4, .long (shN x (m - r))), (6, .int (nI (len + r) - 1))] [] S := by
  intro r
  induction r with
  | zero =>
    intro S hr h1 h2 h3
    have e1 : S 185 1 = nI len := by rw [h3 185 (by omega)]; exact hl
    have e2 : nI (len + 0) - 1 < nI len := by
      rw [Int32.lt_iff_toInt_lt, show (1 : Int32) = nI 1 from rfl, pk_sub_toInt (by omega) (by omega), nI_toInt (by omega)]
      omega
    refine r_iload dX1_addCharacters_13 4 rfl ?_
    refine r_aload_n dX1_addCharacters_15 0 rfl ?_
    refine r_getI (by first | assumption | rfl) f_X1_17 rfl rfl dX1_addCharacters_16 ?_
    refine r_icmp_lt dX1_addCharacters_19 (tgt := 50) (by decide) (fun h19 => ?_) (fun h19 => ?_)
    · --t
      exact r_sub [0, 2] rfl (hx S h1 (fun j a b => h2 j (by omega) b) h3)
    · --f
      exact absurd (by rw [e1]; exact e2) h19
  | succ r ih =>
    intro S hr h1 h2 h3
    have e1 : S 185 1 = nI len := by rw [h3 185 (by omega)]; exact hl
    have e2 : nI (len + (r + 1)) - 1 = nI (len + r) := pk_sub (b := 1) (by omega)
    have hj : len + r < ln 186 := show len + r < 80 by omega
    have hch := hc (m - (r + 1)) (by omega)
    have hca := chr_cast hch
    have es : shN x (m - r) = ((shN x (m - (r + 1))).toUInt64 >>> ((8 : Int32).toInt64.toUInt64 &&& Int64.toUInt64 63)).toInt64 := by
      rw [show m - r = (m - (r + 1)) + 1 by omega]; rfl
    rw [e2]
    refine r_iload dX1_addCharacters_13 4 rfl ?_
    refine r_aload_n dX1_addCharacters_15 0 rfl ?_
    refine r_getI (by first | assumption | rfl) f_X1_17 rfl rfl dX1_addCharacters_16 ?_
    refine r_icmp_lt dX1_addCharacters_19 (tgt := 50) (by decide) (fun h19 => ?_) (fun h19 => ?_)
    · --t
      exact absurd (by rw [e1] at h19; exact h19) (Int32.not_lt.mpr (nI_le (by omega) (by omega)))
    · --f
      refine r_aload_n dX1_addCharacters_22 0 rfl ?_
      refine r_getR (b := 186) (by first | assumption | rfl) f_X1_9 rfl rfl dX1_addCharacters_23 rfl ?_
      refine r_iload dX1_addCharacters_26 4 rfl ?_
      refine r_lload dX1_addCharacters_28 3 rfl ?_
      refine r_ldc2 k_X1_15 dX1_addCharacters_30 ?_
      refine r_land dX1_addCharacters_33 ?_
      refine r_l2i dX1_addCharacters_34 ?_
      refine r_i2c dX1_addCharacters_35 ?_
      refine r_cast (j := (len + r)) (by first | assumption | rfl) rfl hj dX1_addCharacters_36 ?_
      refine r_lload dX1_addCharacters_37 3 rfl ?_
      refine r_bipush dX1_addCharacters_39 (v := 8) (by decide +kernel) ?_
      refine r_lushr dX1_addCharacters_41 ?_
      refine r_lstore (lo2 := [(0, _), (1, _), (3, _), (4, _), (6, _)]) dX1_addCharacters_42 (Nat.le_of_ble_eq_true rfl) [1, 2, 3, 0, 4] rfl ?_
      refine r_iinc (lo2 := [(0, _), (1, _), (3, _), (4, _), (6, _)]) dX1_addCharacters_44 4 rfl (w := -1) rfl (Nat.le_of_ble_eq_true rfl) [1, 2, 3, 4, 0] rfl ?_
      refine r_goto dX1_addCharacters_47 (tgt := 13) (by decide) ?_
      rw [← Int32.sub_eq_add_neg, ← es]
      have ev : vp_nar .char ((shN x (m - (r + 1)) &&& 255).toInt32.toUInt32 % 65536).toInt32 = cdN x (m - (r + 1)) := by
        show vp_nar .char ((cdN x (m - (r + 1))).toUInt32 % 65536).toInt32 = _
        rw [hca.1, hca.2]
      rw [ev]
      refine ih _ (by omega) (fun j hj => ?_) (fun j ha hb => ?_) (fun b hb => ?_)
      · rw [up1_s, upd, if_neg (by omega)]; exact h1 j hj
      · rw [up1_s, upd]
        by_cases e : j = len + r
        · subst e; rw [if_pos rfl]; congr 1; omega
        · rw [if_neg e]; exact h2 j (by omega) hb
      · rw [up1_n hb]; exact h3 b hb
theorem t_X1_addCharacters {x : Int64} {m : Nat} (h : PB S P len) (hm : len + m ≤ 80) (hc : ∀ j, j < m → chr (cdN x j)) : Call G d M_X1_addCharacters [rv G 185, .long x, .int (nI m)] S (fun v u => v = none ∧ PB u (apP P len m x) (len + m) ∧ ∀ b, b ≠ 185 → b ≠ 186 → u b = S b) := by
  refine call_of (lo := [(0, rv G 185), (1, .long x), (3, .int (nI m))]) (by decide +kernel) (Nat.le_of_ble_eq_true rfl) rfl ?_
  refine r_lload_n dX1_addCharacters_0 1 rfl ?_
  refine r_lstore (lo2 := [(0, _), (1, _), (3, _), (4, _)]) dX1_addCharacters_1 (Nat.le_of_ble_eq_true rfl) [1, 2, 3, 0] rfl ?_
  refine r_aload_n dX1_addCharacters_3 0 rfl ?_
  refine r_getI (by first | assumption | rfl) f_X1_17 rfl rfl dX1_addCharacters_4 ?_
  refine r_iload_n dX1_addCharacters_7 2 rfl ?_
  refine r_iadd dX1_addCharacters_8 ?_
  refine r_iconst dX1_addCharacters_9 (v := 1) rfl ?_
  refine r_isub dX1_addCharacters_10 ?_
  refine r_istore (lo2 := [(0, _), (1, _), (3, _), (4, _), (6, _)]) dX1_addCharacters_11 (Nat.le_of_ble_eq_true rfl) [1, 2, 3, 4, 0] rfl ?_
  rw [h.1.1, nI_add]
  have key := @lp_X1_addCharacters G d len S (fun v u => v = none ∧ PB u (apP P len m x) (len + m) ∧ ∀ b, b ≠ 185 → b ≠ 186 → u b = S b) x m h.1.1 hm hc (fun u h1 h2 h3 => ?_) m S (Nat.le_refl _) (fun _ _ => rfl) (fun j a b => absurd b (by omega)) (fun _ _ => rfl)
  · rw [Nat.sub_self] at key; exact key
  · refine r_aload_n dX1_addCharacters_50 0 rfl ?_
    refine r_dup dX1_addCharacters_51 rfl ?_
    refine r_getI (by first | assumption | rfl) f_X1_17 rfl rfl dX1_addCharacters_52 ?_
    refine r_iload_n dX1_addCharacters_55 1 rfl ?_
    refine r_iadd dX1_addCharacters_56 ?_
    refine r_putI (by first | assumption | rfl) f_X1_17 rfl rfl rfl rfl dX1_addCharacters_57 ?_
    refine r_vret rfl dX1_addCharacters_60 ?_
    refine ⟨rfl, ⟨⟨?_, hm⟩, fun j hj => ?_⟩, fun b b1 b2 => ?_⟩
    · rw [up1_s, upd, if_pos rfl, h3 185 (by omega), h.1.1, nI_add]
    · rw [up1_n (by omega)]
      unfold apP
      by_cases e : j < len
      · rw [if_pos e, h1 j e]; exact h.2 j e
      · rw [if_neg e]; exact ⟨h2 j (by omega) hj, hc _ (by omega)⟩
    · rw [up1_n b1]; exact h3 b b2
end PADC
