/-! the class's own methods: minutes, and what is asked -/
theorem trM_0 (N : mN) : trM N 0 = N := by
  unfold trM
  show (N.1, fun t => if t < 0 then _ else N.2 t) = N
  simp
theorem SP.tM {S u : mS} {N : mN} {t : Nat} (h : SP S 1 (trM N t)) (ht : t < cnt N) (hc : cnt N ≤ 5) (hT : TP u (4 + 3 * t) (minT (N.2 t) (N.1 0) (N.1 1)).2) (hF : FR (4 + 3 * t) S u) : SP u 1 (trM N (t + 1)) := by
  refine ⟨?_, fun i hi => ?_⟩
  · rw [hF (1 + 1) (by omega) (by omega) (by omega), hF 1 (by omega) (by omega) (by omega)]; exact h.1
  · show TP u (1 + 3 + 3 * i) (if i < t + 1 then (minT (N.2 i) (N.1 0) (N.1 1)).2 else N.2 i)
    by_cases e : i = t
    · subst e; rw [if_pos (by omega)]; exact hT
    · have h2 : TP S (1 + 3 + 3 * i) (if i < t then (minT (N.2 i) (N.1 0) (N.1 1)).2 else N.2 i) := h.2 i hi
      have e2 : i < t + 1 ↔ i < t := by omega
      simp only [e2]
      exact h2.off (fun x hx => hF x (by omega) (by omega) (by omega))
section GATES
variable {G : mG} {d : Nat} {S0 : mS} {Q : Option Int32 → mS → Prop}
theorem lp_X4_pass1 {N : mN} {m i x : Int32} (hW : WN N) (hx : ∀ u, SP u 1 (trM N (cnt N)) → FS 1 S0 u → At G (d + 4) M_X4_passMinutes Q 96 [(0, rv G 0), (1, .int m), (2, .int (x + ansM N (cnt N))), (3, .int i)] [] u) : ∀ n t S, n + t = cnt N → SP S 1 (trM N t) → FS 1 S0 S → At G (d + 4) M_X4_passMinutes Q 44 [(0, rv G 0), (1, .int m), (2, .int (x + ansM N t)), (3, .int i), (4, .int (nI t))] [] S := by
  obtain ⟨hc, hc5⟩ := hW.cn
  intro n
  induction n with
  | zero =>
    intro t S ht hP hF
    obtain rfl : t = cnt N := by omega
    have ec : S 1 2 = nI (cnt N) := hP.1.2.2.1.trans hc
    refine r_iload dX4_passMinutes_44 4 rfl ?_
    refine r_aload_n dX4_passMinutes_46 0 rfl ?_
    refine r_getR (b := 1) (by first | assumption | rfl) f_X4_10 rfl rfl dX4_passMinutes_47 rfl ?_
    refine r_getI (by first | assumption | rfl) f_X4_99 rfl rfl dX4_passMinutes_50 ?_
    refine r_icmp_ge dX4_passMinutes_53 (tgt := 96) (by decide) (fun h53 => ?_) (fun h53 => ?_)
    · --t
      exact r_sub [0, 1, 2, 3] rfl (hx _ hP hF)
    · --f
      exact absurd (by rw [ec]; exact Int32.le_refl _) h53
  | succ n ih =>
    intro t S ht hP hF
    have htc : t < cnt N := by omega
    have ht5 : t < 5 := by omega
    have ec : S 1 2 = nI (cnt N) := hP.1.2.2.1.trans hc
    have hl : t < ln 3 := ht5
    have ha := kd4 ht5
    have e0 : S 2 0 = N.1 0 := hP.1.1
    have e1 : S 2 1 = N.1 1 := hP.1.2.1
    have hTT : TP S (4 + 3 * t) (N.2 t) := by
      have z : TP S (1 + 3 + 3 * t) (if t < t then (minT (N.2 t) (N.1 0) (N.1 1)).2 else N.2 t) := hP.2 t htc
      rw [if_neg (by omega)] at z
      exact z
    have hWT := hW.2 t htc
    refine r_iload dX4_passMinutes_44 4 rfl ?_
    refine r_aload_n dX4_passMinutes_46 0 rfl ?_
    refine r_getR (b := 1) (by first | assumption | rfl) f_X4_10 rfl rfl dX4_passMinutes_47 rfl ?_
    refine r_getI (by first | assumption | rfl) f_X4_99 rfl rfl dX4_passMinutes_50 ?_
    refine r_icmp_ge dX4_passMinutes_53 (tgt := 96) (by decide) (fun h53 => ?_) (fun h53 => ?_)
    · --t
      exact absurd (by rw [ec] at h53; exact h53) (nI_ge htc (by omega))
    · --f
      refine r_iload_n dX4_passMinutes_56 2 rfl ?_
      refine r_aload_n dX4_passMinutes_57 0 rfl ?_
      refine r_getR (b := 1) (by first | assumption | rfl) f_X4_10 rfl rfl dX4_passMinutes_58 rfl ?_
      refine r_getR (b := 3) (by first | assumption | rfl) f_X4_75 rfl rfl dX4_passMinutes_61 rfl ?_
      refine r_iload dX4_passMinutes_64 4 rfl ?_
      refine r_aald10 (j := _) (by first | assumption | rfl) (by first | assumption | rfl) (by first | assumption | decide) (rf3 _) dX4_passMinutes_66 ?_
      refine r_aload_n dX4_passMinutes_67 0 rfl ?_
      refine r_getR (b := 1) (by first | assumption | rfl) f_X4_10 rfl rfl dX4_passMinutes_68 rfl ?_
      refine r_getR (b := 2) (by first | assumption | rfl) f_X4_49 rfl rfl dX4_passMinutes_71 rfl ?_
      refine r_iconst dX4_passMinutes_74 (v := 0) rfl ?_
      refine r_iald (j := 0) (by first | assumption | rfl) (by first | assumption | rfl) (show 0 < ln 2 by decide) dX4_passMinutes_75 ?_
      refine r_aload_n dX4_passMinutes_76 0 rfl ?_
      refine r_getR (b := 1) (by first | assumption | rfl) f_X4_10 rfl rfl dX4_passMinutes_77 rfl ?_
      refine r_getR (b := 2) (by first | assumption | rfl) f_X4_49 rfl rfl dX4_passMinutes_80 rfl ?_
      refine r_iconst dX4_passMinutes_83 (v := 1) rfl ?_
      refine r_iald (j := 1) (by first | assumption | rfl) (by first | assumption | rfl) (show 1 < ln 2 by decide) dX4_passMinutes_84 ?_
      refine r_callVi (As := [_, _]) c_X3_passMinute (by first | assumption | rfl) l_X4_130 rfl rfl rfl (Nat.le_of_ble_eq_true rfl) dX4_passMinutes_85 (t_X3_passMinute ha hTT hWT) (fun r85 u85 q85 => ?_)
      obtain ⟨h3, hT3, hF3⟩ := q85
      cases h3
      rw [e0, e1] at hT3 ⊢
      refine r_iadd dX4_passMinutes_88 ?_
      refine r_istore_n (lo2 := [(0, _), (1, _), (2, _), (3, _), (4, _)]) dX4_passMinutes_89 rfl (Nat.le_of_ble_eq_true rfl) [1, 2, 0, 3, 4] rfl ?_
      refine r_iinc (lo2 := [(0, _), (1, _), (2, _), (3, _), (4, _)]) dX4_passMinutes_90 4 rfl (w := 1) rfl (Nat.le_of_ble_eq_true rfl) [1, 2, 3, 4, 0] rfl ?_
      refine r_goto dX4_passMinutes_93 (tgt := 44) (by decide) ?_
      rw [nI_1, Int32.add_assoc]
      exact ih (t + 1) _ (by omega) (hP.tM htc hc5 hT3 hF3) (hF.tr (fs_fr hF3 ht5))
theorem lp_X4_pass2 {m : Int32} {mm : Nat} (hm : m = nI mm) (hmm : mm < 1000) : ∀ n i (N : mN) x S, n + i = mm → WN N → SP S 1 N → FS 1 S0 S → (∀ u, SP u 1 (itM n N).2 → FS 1 S0 u → At G (d + 4) M_X4_passMinutes Q 102 [(0, rv G 0), (1, .int m), (2, .int (x + (itM n N).1))] [] u) → At G (d + 4) M_X4_passMinutes Q 36 [(0, rv G 0), (1, .int m), (2, .int x), (3, .int (nI i))] [] S := by
  subst hm
  intro n
  induction n with
  | zero =>
    intro i N x S hi hW hP hF hx
    obtain rfl : i = mm := by omega
    refine r_iload_n dX4_passMinutes_36 3 rfl ?_
    refine r_iload_n dX4_passMinutes_37 1 rfl ?_
    refine r_icmp_ge dX4_passMinutes_38 (tgt := 102) (by decide) (fun h38 => ?_) (fun h38 => ?_)
    · --t
      have z := hx S hP hF
      rw [show x + (itM 0 N).1 = x from Int32.add_zero x] at z
      exact r_sub [0, 1, 2] rfl z
    · --f
      exact absurd (Int32.le_refl _) h38
  | succ n ih =>
    intro i N x S hi hW hP hF hx
    have him : i < mm := by omega
    refine r_iload_n dX4_passMinutes_36 3 rfl ?_
    refine r_iload_n dX4_passMinutes_37 1 rfl ?_
    refine r_icmp_ge dX4_passMinutes_38 (tgt := 102) (by decide) (fun h38 => ?_) (fun h38 => ?_)
    · --t
      exact absurd h38 (nI_ge him (by omega))
    · --f
      refine r_iconst dX4_passMinutes_41 (v := 0) rfl ?_
      refine r_istore (lo2 := [(0, _), (1, _), (2, _), (3, _), (4, _)]) dX4_passMinutes_42 (Nat.le_of_ble_eq_true rfl) [1, 2, 3, 4, 0] rfl ?_
      have key := @lp_X4_pass1 G d S0 Q N (nI mm) (nI i) x hW (fun u hPu hFu => ?_) (cnt N) 0 S (by omega) (by rw [trM_0]; exact hP) hF
      · rw [show x + ansM N 0 = x from Int32.add_zero x] at key
        exact key
      · refine r_iinc (lo2 := [(0, _), (1, _), (2, _), (3, _)]) dX4_passMinutes_96 3 rfl (w := 1) rfl (Nat.le_of_ble_eq_true rfl) [1, 2, 3, 0] rfl ?_
        refine r_goto dX4_passMinutes_99 (tgt := 36) (by decide) ?_
        rw [nI_1]
        refine ih (i + 1) (trM N (cnt N)) _ u (by omega) (wn_trM hW _) hPu hFu (fun w hPw hFw => ?_)
        rw [Int32.add_assoc]
        exact hx w hPw hFw
variable {S : mS} {N : mN} {t k c s w : Int32}
theorem SP.adM {m : Int32} (h : SP S 1 N) : SP (up1 S 1 (upd (S 1) 3 (S 1 3 + m))) 1 (addM N m) ∧ FS 1 S (up1 S 1 (upd (S 1) 3 (S 1 3 + m))) := by
  refine ⟨⟨?_, fun t ht => ?_⟩, FS.rf.up (by omega) (by omega)⟩
  · rw [up1_n (show 1 + 1 ≠ 1 by omega), up1_s]
    refine ⟨h.1.1, h.1.2.1, h.1.2.2.1, ?_, h.1.2.2.2.2⟩
    show upd (S 1) 3 (S 1 3 + m) 3 = upd N.1 2 (N.1 2 + m) 2
    rw [upd, upd, if_pos rfl, if_pos rfl, h.1.2.2.2.1]
  · have e : cnt (addM N m) = cnt N := rfl
    rw [e] at ht
    exact (h.2 t ht).off (fun x hx => up1_n (by omega))
theorem i99 : (99 : Int32).toInt = 99 := by decide
theorem t_X4_passMinutes {m : Int32} (hW : WN N) (hP : SP S 1 N) : Call G (d + 4) M_X4_passMinutes [rv G 0, .int m] S (fun v u => v = some (pasO N m).1 ∧ SP u 1 (pasO N m).2 ∧ FS 1 S u) := by
  refine call_of (lo := [(0, rv G 0), (1, .int m)]) (by decide +kernel) (Nat.le_of_ble_eq_true rfl) rfl ?_
  have em : S 1 3 = N.1 2 := hP.1.2.2.2.1
  unfold pasO
  by_cases h1 : m < 1 ∨ 99 < m
  · rw [if_pos h1]
    refine r_iload_n dX4_passMinutes_0 1 rfl ?_
    refine r_iconst dX4_passMinutes_1 (v := 1) rfl ?_
    refine r_icmp_lt dX4_passMinutes_2 (tgt := 11) (by decide) (fun h2 => ?_) (fun h2 => ?_)
    · --t
      refine r_bipush dX4_passMinutes_11 (v := -2) (by decide +kernel) ?_
      refine r_iret rfl dX4_passMinutes_13 ?_
      exact ⟨rfl, hP, FS.rf⟩
    · --f
      refine r_iload_n dX4_passMinutes_5 1 rfl ?_
      refine r_bipush dX4_passMinutes_6 (v := 99) (by decide +kernel) ?_
      refine r_icmp_le dX4_passMinutes_8 (tgt := 14) (by decide) (fun h8 => ?_) (fun h8 => ?_)
      · --t
        exact (h1.elim h2 (Int32.not_lt.mpr h8)).elim
      · --f
        refine r_bipush dX4_passMinutes_11 (v := -2) (by decide +kernel) ?_
        refine r_iret rfl dX4_passMinutes_13 ?_
        exact ⟨rfl, hP, FS.rf⟩
  · rw [if_neg h1]
    obtain ⟨mm, hmm, rfl⟩ : ∃ j, j < 100 ∧ m = nI j := by
      have a1 : ¬ m < 1 := fun z => h1 (Or.inl z)
      have a2 : ¬ 99 < m := fun z => h1 (Or.inr z)
      have a0 : ¬ m < 0 := by
        intro z
        rw [Int32.lt_iff_toInt_lt] at z a1
        rw [i1] at a1
        have e0 : (0 : Int32).toInt = 0 := by decide
        omega
      obtain ⟨j, hj, rfl⟩ := nI_of a0
      rw [show (99 : Int32) = nI 99 from rfl, nI_ltI (by omega) hj] at a2
      exact ⟨j, by omega, rfl⟩
    by_cases h9 : 9999 < N.1 2 + nI mm
    · rw [if_pos h9]
      refine r_iload_n dX4_passMinutes_0 1 rfl ?_
      refine r_iconst dX4_passMinutes_1 (v := 1) rfl ?_
      refine r_icmp_lt dX4_passMinutes_2 (tgt := 11) (by decide) (fun h2 => ?_) (fun h2 => ?_)
      · --t
        exact absurd (Or.inl h2) h1
      · --f
        refine r_iload_n dX4_passMinutes_5 1 rfl ?_
        refine r_bipush dX4_passMinutes_6 (v := 99) (by decide +kernel) ?_
        refine r_icmp_le dX4_passMinutes_8 (tgt := 14) (by decide) (fun h8 => ?_) (fun h8 => ?_)
        · --t
          refine r_aload_n dX4_passMinutes_14 0 rfl ?_
          refine r_getR (b := 1) (by first | assumption | rfl) f_X4_10 rfl rfl dX4_passMinutes_15 rfl ?_
          refine r_getI (by first | assumption | rfl) f_X4_128 rfl rfl dX4_passMinutes_18 ?_
          refine r_iload_n dX4_passMinutes_21 1 rfl ?_
          refine r_iadd dX4_passMinutes_22 ?_
          refine r_sipush dX4_passMinutes_23 (v := 9999) (by decide +kernel) ?_
          refine r_icmp_le dX4_passMinutes_26 (tgt := 32) (by decide) (fun h26 => ?_) (fun h26 => ?_)
          · --t
            exact absurd (by rw [← em] at h9; exact h9) (Int32.not_lt.mpr h26)
          · --f
            refine r_bipush dX4_passMinutes_29 (v := -5) (by decide +kernel) ?_
            refine r_iret rfl dX4_passMinutes_31 ?_
            exact ⟨rfl, hP, FS.rf⟩
        · --f
          exact absurd (Or.inr (Int32.not_le.mp h8)) h1
    · rw [if_neg h9, nI_clamp (n := mm) (by omega)]
      refine r_iload_n dX4_passMinutes_0 1 rfl ?_
      refine r_iconst dX4_passMinutes_1 (v := 1) rfl ?_
      refine r_icmp_lt dX4_passMinutes_2 (tgt := 11) (by decide) (fun h2 => ?_) (fun h2 => ?_)
      · --t
        exact absurd (Or.inl h2) h1
      · --f
        refine r_iload_n dX4_passMinutes_5 1 rfl ?_
        refine r_bipush dX4_passMinutes_6 (v := 99) (by decide +kernel) ?_
        refine r_icmp_le dX4_passMinutes_8 (tgt := 14) (by decide) (fun h8 => ?_) (fun h8 => ?_)
        · --t
          refine r_aload_n dX4_passMinutes_14 0 rfl ?_
          refine r_getR (b := 1) (by first | assumption | rfl) f_X4_10 rfl rfl dX4_passMinutes_15 rfl ?_
          refine r_getI (by first | assumption | rfl) f_X4_128 rfl rfl dX4_passMinutes_18 ?_
          refine r_iload_n dX4_passMinutes_21 1 rfl ?_
          refine r_iadd dX4_passMinutes_22 ?_
          refine r_sipush dX4_passMinutes_23 (v := 9999) (by decide +kernel) ?_
          refine r_icmp_le dX4_passMinutes_26 (tgt := 32) (by decide) (fun h26 => ?_) (fun h26 => ?_)
          · --t
            refine r_iconst dX4_passMinutes_32 (v := 0) rfl ?_
            refine r_istore_n (lo2 := [(0, _), (1, _), (2, _)]) dX4_passMinutes_33 rfl (Nat.le_of_ble_eq_true rfl) [1, 2, 0] rfl ?_
            refine r_iconst dX4_passMinutes_34 (v := 0) rfl ?_
            refine r_istore_n (lo2 := [(0, _), (1, _), (2, _), (3, _)]) dX4_passMinutes_35 rfl (Nat.le_of_ble_eq_true rfl) [1, 2, 3, 0] rfl ?_
            refine lp_X4_pass2 (S0 := S) (mm := mm) rfl (by omega) mm 0 N 0 S (by omega) hW hP FS.rf (fun u hPu hFu => ?_)
            rw [show (0 : Int32) + (itM mm N).1 = (itM mm N).1 from Int32.zero_add _]
            obtain ⟨z1, z2⟩ := hPu.adM (m := nI mm)
            refine r_aload_n dX4_passMinutes_102 0 rfl ?_
            refine r_getR (b := 1) rfl f_X4_10 rfl rfl dX4_passMinutes_103 rfl ?_
            refine r_dup dX4_passMinutes_106 rfl ?_
            refine r_getI rfl f_X4_128 rfl rfl dX4_passMinutes_107 ?_
            refine r_iload_n dX4_passMinutes_110 1 rfl ?_
            refine r_iadd dX4_passMinutes_111 ?_
            refine r_putI rfl f_X4_128 rfl rfl rfl rfl dX4_passMinutes_112 ?_
            refine r_iload_n dX4_passMinutes_115 2 rfl ?_
            refine r_iret rfl dX4_passMinutes_116 ?_
            exact ⟨rfl, z1, hFu.tr z2⟩
          · --f
            exact absurd (by rw [em] at h26; exact Int32.not_le.mp h26) h9
        · --f
          exact absurd (Or.inr (Int32.not_le.mp h8)) h1
theorem t_X4_waitsFor (hW : WN N) (hP : SP S 1 N) : Call G (d + 2) M_X4_waitsFor [rv G 0, .int t] S (fun v u => v = some (waiA N t) ∧ u = S) := by
  refine call_of (lo := [(0, rv G 0), (1, .int t)]) (by decide +kernel) (Nat.le_of_ble_eq_true rfl) rfl ?_
  unfold waiA
  rcases tr_cases hW t with h | ⟨T, h, rfl, hT, hT5, eT⟩
  ·
    refine r_aload_n dX4_waitsFor_0 0 rfl ?_
    refine r_iload_n dX4_waitsFor_1 1 rfl ?_
    refine r_callViF (As := [_]) c_X4_isTroop (by first | assumption | rfl) l_X4_106 rfl rfl rfl (Nat.le_of_ble_eq_true rfl) dX4_waitsFor_2 (t_X4_isTroop hP) ?_
    refine r_if_ne dX4_waitsFor_5 (tgt := 10) (by decide) (fun h5 => ?_) (fun h5 => ?_)
    · --t
      exact absurd (bI_not h) h5
    · --f
      refine r_iconst dX4_waitsFor_8 (v := -1) rfl ?_
      refine r_iret rfl dX4_waitsFor_9 ?_
      rw [h]; exact ⟨rfl, rfl⟩
  · have ha := kd4 hT5
    have hl : T < ln 3 := hT5
    have hTT : TP S (4 + 3 * T) (N.2 T) := hP.2 T hT
    have hWT := hW.2 T hT
    refine r_aload_n dX4_waitsFor_0 0 rfl ?_
    refine r_iload_n dX4_waitsFor_1 1 rfl ?_
    refine r_callViF (As := [_]) c_X4_isTroop (by first | assumption | rfl) l_X4_106 rfl rfl rfl (Nat.le_of_ble_eq_true rfl) dX4_waitsFor_2 (t_X4_isTroop hP) ?_
    refine r_if_ne dX4_waitsFor_5 (tgt := 10) (by decide) (fun h5 => ?_) (fun h5 => ?_)
    · --t
      refine r_aload_n dX4_waitsFor_10 0 rfl ?_
      refine r_getR (b := 1) (by first | assumption | rfl) f_X4_10 rfl rfl dX4_waitsFor_11 rfl ?_
      refine r_getR (b := 3) (by first | assumption | rfl) f_X4_75 rfl rfl dX4_waitsFor_14 rfl ?_
      refine r_iload_n dX4_waitsFor_17 1 rfl ?_
      refine r_aald10 (j := _) (by first | assumption | rfl) (by first | assumption | rfl) (by first | assumption | decide) (rf3 _) dX4_waitsFor_18 ?_
      refine r_callViF (As := []) c_X3_waitedFor (by first | assumption | rfl) l_X4_183 rfl rfl rfl (Nat.le_of_ble_eq_true rfl) dX4_waitsFor_19 (t_X3_waitedFor ha hTT hWT) ?_
      refine r_iret rfl dX4_waitsFor_22 ?_
      rw [h, if_pos rfl, eT]; exact ⟨rfl, rfl⟩
    · --f
      exact absurd (bI_yes h) (by rw [h5]; decide)
end GATES
