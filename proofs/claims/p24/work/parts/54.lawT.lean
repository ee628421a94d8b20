/-! the law: told, what is told of each scout, and sums -/
theorem mk_s {p : Nat → Bool} {k : Nat} {v : Int32} (h : v = if p k = true then (1 : Int32) <<< (nI k &&& 31) else 0) : mkm p k ||| v = mkm p (k + 1) := by rw [h]; rfl
theorem mk_n {p : Nat → Bool} {k : Nat} (h : p k = false) : mkm p (k + 1) = mkm p k := by
  show mkm p k ||| (if p k = true then _ else 0) = _
  rw [h, if_neg (by decide), Int32.or_zero]
theorem bI_sh (b : Bool) {k : Nat} (hk : k < 16) : bI b <<< (nI k &&& 31) = if b = true then (1 : Int32) <<< (nI k &&& 31) else 0 := by
  cases b
  · rw [bI_f, if_neg (by decide)]
    refine b_ext fun i hi => ?_
    rw [b_shl k (by omega) 0 hi, b_0, b_0, Bool.and_false]
  · rw [bI_t, if_pos rfl]
theorem f_up {T : mT} {k v : Nat} {f : Nat → Int32} (hkn : knB T k = true) (hv : T.2.1 k = nI v) (hv5 : v < 5) (hf : ∀ h, h < 5 → f h = mkm (fun i => knB T i && (T.2.1 i == nI h)) k) : ∀ h, h < 5 → upd f v (f v ||| ((1 : Int32) <<< (nI k &&& 31))) h = mkm (fun i => knB T i && (T.2.1 i == nI h)) (k + 1) := by
  intro h h5
  unfold upd
  by_cases e : h = v
  · subst e
    rw [if_pos rfl, hf h h5]
    exact mk_s (by rw [hkn, hv]; simp)
  · rw [if_neg e, hf h h5]
    refine (mk_n ?_).symm
    have : ¬ nI v = nI h := fun z => e ((nI_eq (by omega) (by omega)).mp z).symm
    rw [hv, beq_eq_false_iff_ne.mpr this, Bool.and_false]
theorem f_no {T : mT} {k : Nat} {f : Nat → Int32} (hkn : knB T k = false) (hf : ∀ h, h < 5 → f h = mkm (fun i => knB T i && (T.2.1 i == nI h)) k) : ∀ h, h < 5 → f h = mkm (fun i => knB T i && (T.2.1 i == nI h)) (k + 1) := fun h h5 => by
  rw [hf h h5]
  exact (mk_n (by rw [hkn, Bool.false_and])).symm
theorem f_sets {T : mT} (hW : WF T) : mkm (fun i => knB T i && (T.2.1 i == nI 0)) 16 = mkm (fun k => decide (k < tsz T) && (T.2.1 k == 0)) 16 ∧ ∀ h, 1 ≤ h → h < 5 → mkm (fun i => knB T i && (T.2.1 i == nI h)) 16 = hm T (nI h) := by
  refine ⟨mkm_congr 16 fun k hk => ?_, fun h h1 h5 => mkm_congr 16 fun k hk => ?_⟩
  · unfold knB
    show ((decide (k < tsz T) || T.2.1 k == 3) && (T.2.1 k == 0)) = (decide (k < tsz T) && (T.2.1 k == 0))
    by_cases e : T.2.1 k = 0
    · rw [e]; simp
    · rw [beq_eq_false_iff_ne.mpr e]; simp
  · by_cases e : T.2.1 k = nI h
    · have hz := (hW.2.2 k hk).2.1
      have : knB T k = true := by
        unfold knB
        rw [Bool.or_eq_true, decide_eq_true_iff]
        rcases Nat.lt_or_ge k (tsz T) with z | z
        · exact Or.inl z
        · right
          rcases hz z with y | y
          · rw [e, show (0 : Int32) = nI 0 from rfl, nI_eq (by omega) (by omega)] at y
            omega
          · rw [y]; rfl
      rw [this, e]; simp
    · rw [beq_eq_false_iff_ne.mpr e]; simp
theorem aw_no {T : mT} {k : Nat} (h : (¬ k < tsz T) ∨ T.2.1 k = 1 ∨ bt (T.1 5) k = true) : awp T k = false := by
  unfold awp
  rcases h with h | h | h
  · rw [decide_eq_false h]; simp
  · rw [h]; simp
  · rw [h]; simp
theorem aw_yes {T : mT} {k : Nat} (h1 : k < tsz T) (h2 : ¬ T.2.1 k = 1) (h3 : bt (T.1 5) k = false) : awp T k = true := by
  unfold awp
  rw [decide_eq_true h1, beq_eq_false_iff_ne.mpr h2, h3]; rfl
theorem s_struck {T : mT} {b : Nat} (h : TI T b) : mkm (fun i => knB T i && bt (T.1 5) i) 16 = T.1 5 := by
  have hW := h.1
  obtain ⟨s, e1, e2, e3, e4⟩ := hW.sz
  refine (mkm_eq (fun i hi => ?_) (fun i h1 h2 => ?_)).symm
  · cases hb : bt (T.1 5) i
    · simp
    · have := h.2.2.1 i (by omega) hb
      unfold knB
      rw [decide_eq_true this]; rfl
  · cases hb : bt (T.1 5) i
    · rfl
    · have := h.2.2.1 i h2 hb
      omega
section TOLD
variable {G : mG} {S : mS} {N : mN} {t b q kc ks : Nat} {x1 x2 x3 : Int32} {Q : Option Int32 → mS → Prop}
theorem lp_told1 (hN : NI N b) (hS : LI S N) (ht : t < cnt N) (hx : ∀ f : Nat → Int32, (∀ h, h < 5 → f h = mkm (fun i => knB (N.2 t) i && ((N.2 t).2.1 i == nI h)) 16) → Lt G 8 240 5 25 M_L_told Q 214 [(0, rv G 0), (1, .int x1), (2, .int x2), (3, .int x3), (4, .int (nI t)), (5, .ref q), (6, .int ((N.2 t).1 5)), (7, .int (awM (N.2 t)))] [] (S, [(q, 5, f)], kc, ks)) : ∀ n k (f : Nat → Int32) m6 m7, n + k = 16 → (∀ h, h < 5 → f h = mkm (fun i => knB (N.2 t) i && ((N.2 t).2.1 i == nI h)) k) → m6 = mkm (fun i => knB (N.2 t) i && bt ((N.2 t).1 5) i) k → m7 = mkm (awp (N.2 t)) k → Lt G 8 240 5 25 M_L_told Q 33 [(0, rv G 0), (1, .int x1), (2, .int x2), (3, .int x3), (4, .int (nI t)), (5, .ref q), (6, .int m6), (7, .int m7), (8, .int (nI k))] [] (S, [(q, 5, f)], kc, ks) := by
  have hW := hN.1
  have hT := hN.2.1 t ht
  have hWT := hT.1
  obtain ⟨s, e1, e2, e3, e4⟩ := hWT.sz
  intro n
  induction n with
  | zero =>
    intro k f m6 m7 hk hf h6 h7
    obtain rfl : k = 16 := by omega
    obtain rfl : m6 = (N.2 t).1 5 := h6.trans (s_struck hT)
    obtain rfl : m7 = awM (N.2 t) := h7
    refine z_iload dL_told_33 8 rfl ?_
    refine z_bipush dL_told_35 (v := 16) (by decide +kernel) ?_
    refine z_icmp_ge dL_told_37 (tgt := 214) (by decide) (fun h37 => ?_) (fun h37 => by first | exact absurd (show (16 : Int32) ≤ nI 16 by decide) h37 | exact absurd h37 (show (16 : Int32) ≤ nI 16 by decide))
    exact z_sub [0, 1, 2, 3, 4, 5, 6, 7] rfl (hx f hf)
  | succ n ih =>
    intro k f m6 m7 hk hf h6 h7
    have hk16 : k < 16 := by omega
    have b37 : ¬ ((16 : Int32) ≤ nI k) := c16 hk16
    have cs := q_t (G := G) (t := t) hW hS (oft hW ht).1
    rw [e2] at cs
    cases hkn : knB (N.2 t) k
    · have c0 := q_ofn (G := G) hW hS ht hk16 hkn 0
      have hns : ¬ k < tsz (N.2 t) := fun z => by unfold knB at hkn; rw [decide_eq_true z] at hkn; cases hkn
      have b60 : nI s ≤ nI k := nI_le (by omega) (by omega)
      have h6' : m6 = mkm (fun i => knB (N.2 t) i && bt ((N.2 t).1 5) i) (k + 1) := by rw [h6]; exact (mk_n (by rw [hkn, Bool.false_and])).symm
      have h7' : m7 = mkm (awp (N.2 t)) (k + 1) := by rw [h7]; exact (mk_n (aw_no (Or.inl hns))).symm
      refine z_iload dL_told_33 8 rfl ?_
      refine z_bipush dL_told_35 (v := 16) (by decide +kernel) ?_
      refine z_icmp_ge dL_told_37 (tgt := 214) (by decide) (fun h37 => by first | exact absurd (b37) h37 | exact absurd h37 (b37)) (fun h37 => ?_)
      refine z_aload_n dL_told_40 0 rfl ?_
      refine z_iload dL_told_41 4 rfl ?_
      refine z_iload dL_told_43 8 rfl ?_
      refine z_iconst dL_told_45 (v := 0) rfl ?_
      refine z_callVF (d := 7) (As := [_, _, _]) c_X4_of rfl l_L_15 rfl rfl rfl (Nat.le_of_ble_eq_true rfl) ⟨Nat.le_of_ble_eq_true rfl, Nat.le_of_ble_eq_true rfl⟩ dL_told_46 c0 ?_
      refine z_istore (lo2 := [(0, _), (1, _), (2, _), (3, _), (4, _), (5, _), (6, _), (7, _), (8, _), (9, _)]) dL_told_49 (Nat.le_of_ble_eq_true rfl) [1, 2, 3, 4, 5, 6, 7, 8, 9, 0] rfl ?_
      refine z_iload dL_told_51 8 rfl ?_
      refine z_aload_n dL_told_53 0 rfl ?_
      refine z_iload dL_told_54 4 rfl ?_
      refine z_iconst dL_told_56 (v := 0) rfl ?_
      refine z_callVF (d := 7) (As := [_, _]) c_X4_ofTroop rfl l_L_19 rfl rfl rfl (Nat.le_of_ble_eq_true rfl) ⟨Nat.le_of_ble_eq_true rfl, Nat.le_of_ble_eq_true rfl⟩ dL_told_57 cs ?_
      refine z_icmp_ge dL_told_60 (tgt := 67) (by decide) (fun h60 => ?_) (fun h60 => by first | exact absurd (b60) h60 | exact absurd h60 (b60))
      refine z_iconst dL_told_67 (v := 0) rfl ?_
      refine z_istore (lo2 := [(0, _), (1, _), (2, _), (3, _), (4, _), (5, _), (6, _), (7, _), (8, _), (9, _), (10, _)]) dL_told_68 (Nat.le_of_ble_eq_true rfl) [1, 2, 3, 4, 5, 6, 7, 8, 9, 10, 0] rfl ?_
      refine z_iload dL_told_70 9 rfl ?_
      refine z_if_ge dL_told_72 (tgt := 83) (by decide) (fun h72 => by first | exact absurd (by decide) h72 | exact absurd h72 (by decide)) (fun h72 => ?_)
      refine z_iload dL_told_75 10 rfl ?_
      refine z_if_eq dL_told_77 (tgt := 96) (by decide) (fun h77 => ?_) (fun h77 => by first | exact absurd (rfl) h77 | exact absurd h77 (rfl))
      refine z_iload dL_told_96 9 rfl ?_
      refine z_if_ge dL_told_98 (tgt := 104) (by decide) (fun h98 => by first | exact absurd (by decide) h98 | exact absurd h98 (by decide)) (fun h98 => ?_)
      refine z_goto dL_told_101 (tgt := 208) (by decide) ?_
      refine z_iinc (lo2 := [(0, _), (1, _), (2, _), (3, _), (4, _), (5, _), (6, _), (7, _), (8, _), (9, _), (10, _)]) dL_told_208 8 rfl (w := 1) rfl (Nat.le_of_ble_eq_true rfl) [1, 2, 3, 4, 5, 6, 7, 8, 0, 9, 10] rfl ?_
      refine z_goto dL_told_211 (tgt := 33) (by decide) ?_
      rw [nI_1]
      exact z_sub [0, 1, 2, 3, 4, 5, 6, 7, 8] rfl (ih (k + 1) _ _ _ (by omega) (f_no hkn hf) (h6') (h7'))
    · have c0 := q_of0 (G := G) hW hS ht hk16 hkn
      have c1 := q_of1 (G := G) hW hS ht hk16 hkn
      have c3 := q_of3 (G := G) hW hS ht hk16 hkn
      obtain ⟨p1, p2, -⟩ := hT.2.1 k hk16
      have h6' : m6 ||| (bI (bt ((N.2 t).1 5) k) <<< (nI k &&& 31)) = mkm (fun i => knB (N.2 t) i && bt ((N.2 t).1 5) i) (k + 1) := by
        rw [h6]; exact mk_s (by rw [bI_sh _ hk16, hkn, Bool.true_and])
      by_cases hlt : k < tsz (N.2 t)
      · have b60 : ¬ nI s ≤ nI k := nI_ge (by omega) (by omega)
        have a0 : bI (bt ((N.2 t).1 5) k) ≠ 0 → m7 ||| 0 = mkm (awp (N.2 t)) (k + 1) := fun z => by
          rw [bI_n0] at z
          rw [h7, Int32.or_zero]; exact (mk_n (aw_no (Or.inr (Or.inr z)))).symm
        have a1 : ¬ (N.2 t).2.1 k = 1 → bI (bt ((N.2 t).1 5) k) = 0 → m7 ||| ((1 : Int32) <<< (nI k &&& 31)) = mkm (awp (N.2 t)) (k + 1) := fun y z => by
          rw [bI_0] at z
          rw [h7]; exact mk_s (by rw [aw_yes hlt y z]; rfl)
        rcases (hWT.2.2 k hk16).1 with hv | hv | hv | hv | hv
        ·
          rw [hv] at c0
          rw [p2 (by simp [hv])] at c1
          refine z_iload dL_told_33 8 rfl ?_
          refine z_bipush dL_told_35 (v := 16) (by decide +kernel) ?_
          refine z_icmp_ge dL_told_37 (tgt := 214) (by decide) (fun h37 => by first | exact absurd (b37) h37 | exact absurd h37 (b37)) (fun h37 => ?_)
          refine z_aload_n dL_told_40 0 rfl ?_
          refine z_iload dL_told_41 4 rfl ?_
          refine z_iload dL_told_43 8 rfl ?_
          refine z_iconst dL_told_45 (v := 0) rfl ?_
          refine z_callVF (d := 7) (As := [_, _, _]) c_X4_of rfl l_L_15 rfl rfl rfl (Nat.le_of_ble_eq_true rfl) ⟨Nat.le_of_ble_eq_true rfl, Nat.le_of_ble_eq_true rfl⟩ dL_told_46 c0 ?_
          refine z_istore (lo2 := [(0, _), (1, _), (2, _), (3, _), (4, _), (5, _), (6, _), (7, _), (8, _), (9, _)]) dL_told_49 (Nat.le_of_ble_eq_true rfl) [1, 2, 3, 4, 5, 6, 7, 8, 9, 0] rfl ?_
          refine z_iload dL_told_51 8 rfl ?_
          refine z_aload_n dL_told_53 0 rfl ?_
          refine z_iload dL_told_54 4 rfl ?_
          refine z_iconst dL_told_56 (v := 0) rfl ?_
          refine z_callVF (d := 7) (As := [_, _]) c_X4_ofTroop rfl l_L_19 rfl rfl rfl (Nat.le_of_ble_eq_true rfl) ⟨Nat.le_of_ble_eq_true rfl, Nat.le_of_ble_eq_true rfl⟩ dL_told_57 cs ?_
          refine z_icmp_ge dL_told_60 (tgt := 67) (by decide) (fun h60 => by first | exact absurd (b60) h60 | exact absurd h60 (b60)) (fun h60 => ?_)
          refine z_iconst dL_told_63 (v := 1) rfl ?_
          refine z_goto dL_told_64 (tgt := 68) (by decide) ?_
          refine z_istore (lo2 := [(0, _), (1, _), (2, _), (3, _), (4, _), (5, _), (6, _), (7, _), (8, _), (9, _), (10, _)]) dL_told_68 (Nat.le_of_ble_eq_true rfl) [1, 2, 3, 4, 5, 6, 7, 8, 9, 10, 0] rfl ?_
          refine z_iload dL_told_70 9 rfl ?_
          refine z_if_ge dL_told_72 (tgt := 83) (by decide) (fun h72 => ?_) (fun h72 => by first | exact absurd (by decide) h72 | exact absurd h72 (by decide))
          refine z_iload dL_told_83 10 rfl ?_
          refine z_if_ne dL_told_85 (tgt := 96) (by decide) (fun h85 => ?_) (fun h85 => by first | exact absurd (by decide) h85 | exact absurd h85 (by decide))
          refine z_iload dL_told_96 9 rfl ?_
          refine z_if_ge dL_told_98 (tgt := 104) (by decide) (fun h98 => ?_) (fun h98 => by first | exact absurd (by decide) h98 | exact absurd h98 (by decide))
          refine z_aloadr dL_told_104 5 rfl ?_
          refine z_iload dL_told_106 9 rfl ?_
          refine z_dup2 dL_told_108 rfl rfl ?_
          refine z_iald (j := 0) (j0 := 0) rfl rfl (by decide) (by decide) dL_told_109 ?_
          refine z_iconst dL_told_110 (v := 1) rfl ?_
          refine z_iload dL_told_111 8 rfl ?_
          refine z_ishl dL_told_113 ?_
          refine z_ior dL_told_114 ?_
          refine z_iast (j := 0) (j0 := 0) rfl rfl (by decide) (by decide) dL_told_115 ?_
          refine z_iload dL_told_116 6 rfl ?_
          refine z_aload_n dL_told_118 0 rfl ?_
          refine z_iload dL_told_119 4 rfl ?_
          refine z_iload dL_told_121 8 rfl ?_
          refine z_iconst dL_told_123 (v := 3) rfl ?_
          refine z_callVF (d := 7) (As := [_, _, _]) c_X4_of rfl l_L_15 rfl rfl rfl (Nat.le_of_ble_eq_true rfl) ⟨Nat.le_of_ble_eq_true rfl, Nat.le_of_ble_eq_true rfl⟩ dL_told_124 c3 ?_
          refine z_iload dL_told_127 8 rfl ?_
          refine z_ishl dL_told_129 ?_
          refine z_ior dL_told_130 ?_
          refine z_istore (lo2 := [(0, _), (1, _), (2, _), (3, _), (4, _), (5, _), (6, _), (7, _), (8, _), (9, _), (10, _)]) dL_told_131 (Nat.le_of_ble_eq_true rfl) [1, 2, 3, 4, 5, 6, 0, 7, 8, 9, 10] rfl ?_
          refine z_iload dL_told_133 7 rfl ?_
          refine z_iload dL_told_135 10 rfl ?_
          refine z_if_eq dL_told_137 (tgt := 165) (by decide) (fun h137 => by first | exact absurd (by decide) h137 | exact absurd h137 (by decide)) (fun h137 => ?_)
          refine z_iload dL_told_140 9 rfl ?_
          refine z_iconst dL_told_142 (v := 1) rfl ?_
          refine z_icmp_eq dL_told_143 (tgt := 165) (by decide) (fun h143 => by first | exact absurd (by decide) h143 | exact absurd h143 (by decide)) (fun h143 => ?_)
          refine z_aload_n dL_told_146 0 rfl ?_
          refine z_iload dL_told_147 4 rfl ?_
          refine z_iload dL_told_149 8 rfl ?_
          refine z_iconst dL_told_151 (v := 3) rfl ?_
          refine z_callVF (d := 7) (As := [_, _, _]) c_X4_of rfl l_L_15 rfl rfl rfl (Nat.le_of_ble_eq_true rfl) ⟨Nat.le_of_ble_eq_true rfl, Nat.le_of_ble_eq_true rfl⟩ dL_told_152 c3 ?_
          refine z_if_ne dL_told_155 (tgt := 165) (by decide) (fun h155 => ?_) (fun h155 => ?_)
          · --t
            refine z_iconst dL_told_165 (v := 0) rfl ?_
            refine z_ior dL_told_166 ?_
            refine z_istore (lo2 := [(0, _), (1, _), (2, _), (3, _), (4, _), (5, _), (6, _), (7, _), (8, _), (9, _), (10, _)]) dL_told_167 (Nat.le_of_ble_eq_true rfl) [1, 2, 3, 4, 5, 6, 7, 0, 8, 9, 10] rfl ?_
            refine z_iload dL_told_169 9 rfl ?_
            refine z_iconst dL_told_171 (v := 3) rfl ?_
            refine z_icmp_ge dL_told_172 (tgt := 187) (by decide) (fun h172 => by first | exact absurd (by decide) h172 | exact absurd h172 (by decide)) (fun h172 => ?_)
            refine z_aload_n dL_told_175 0 rfl ?_
            refine z_iload dL_told_176 4 rfl ?_
            refine z_iload dL_told_178 8 rfl ?_
            refine z_iconst dL_told_180 (v := 1) rfl ?_
            refine z_callVF (d := 7) (As := [_, _, _]) c_X4_of rfl l_L_15 rfl rfl rfl (Nat.le_of_ble_eq_true rfl) ⟨Nat.le_of_ble_eq_true rfl, Nat.le_of_ble_eq_true rfl⟩ dL_told_181 c1 ?_
            refine z_if_ne dL_told_184 (tgt := 206) (by decide) (fun h184 => by first | exact absurd (rfl) h184 | exact absurd h184 (rfl)) (fun h184 => ?_)
            refine z_iload dL_told_187 9 rfl ?_
            refine z_iconst dL_told_189 (v := 3) rfl ?_
            refine z_icmp_ne dL_told_190 (tgt := 208) (by decide) (fun h190 => ?_) (fun h190 => by first | exact absurd (by decide) h190 | exact absurd h190 (by decide))
            refine z_iinc (lo2 := [(0, _), (1, _), (2, _), (3, _), (4, _), (5, _), (6, _), (7, _), (8, _), (9, _), (10, _)]) dL_told_208 8 rfl (w := 1) rfl (Nat.le_of_ble_eq_true rfl) [1, 2, 3, 4, 5, 6, 7, 8, 0, 9, 10] rfl ?_
            refine z_goto dL_told_211 (tgt := 33) (by decide) ?_
            rw [nI_1]
            exact z_sub [0, 1, 2, 3, 4, 5, 6, 7, 8] rfl (ih (k + 1) _ _ _ (by omega) (f_up (v := 0) hkn hv (by omega) hf) (h6') ((by first | exact a0 h155 | exact a1 (by rw [hv]; decide) h155)))
          · --f
            refine z_iconst dL_told_158 (v := 1) rfl ?_
            refine z_iload dL_told_159 8 rfl ?_
            refine z_ishl dL_told_161 ?_
            refine z_goto dL_told_162 (tgt := 166) (by decide) ?_
            refine z_ior dL_told_166 ?_
            refine z_istore (lo2 := [(0, _), (1, _), (2, _), (3, _), (4, _), (5, _), (6, _), (7, _), (8, _), (9, _), (10, _)]) dL_told_167 (Nat.le_of_ble_eq_true rfl) [1, 2, 3, 4, 5, 6, 7, 0, 8, 9, 10] rfl ?_
            refine z_iload dL_told_169 9 rfl ?_
            refine z_iconst dL_told_171 (v := 3) rfl ?_
            refine z_icmp_ge dL_told_172 (tgt := 187) (by decide) (fun h172 => by first | exact absurd (by decide) h172 | exact absurd h172 (by decide)) (fun h172 => ?_)
            refine z_aload_n dL_told_175 0 rfl ?_
            refine z_iload dL_told_176 4 rfl ?_
            refine z_iload dL_told_178 8 rfl ?_
            refine z_iconst dL_told_180 (v := 1) rfl ?_
            refine z_callVF (d := 7) (As := [_, _, _]) c_X4_of rfl l_L_15 rfl rfl rfl (Nat.le_of_ble_eq_true rfl) ⟨Nat.le_of_ble_eq_true rfl, Nat.le_of_ble_eq_true rfl⟩ dL_told_181 c1 ?_
            refine z_if_ne dL_told_184 (tgt := 206) (by decide) (fun h184 => by first | exact absurd (rfl) h184 | exact absurd h184 (rfl)) (fun h184 => ?_)
            refine z_iload dL_told_187 9 rfl ?_
            refine z_iconst dL_told_189 (v := 3) rfl ?_
            refine z_icmp_ne dL_told_190 (tgt := 208) (by decide) (fun h190 => ?_) (fun h190 => by first | exact absurd (by decide) h190 | exact absurd h190 (by decide))
            refine z_iinc (lo2 := [(0, _), (1, _), (2, _), (3, _), (4, _), (5, _), (6, _), (7, _), (8, _), (9, _), (10, _)]) dL_told_208 8 rfl (w := 1) rfl (Nat.le_of_ble_eq_true rfl) [1, 2, 3, 4, 5, 6, 7, 8, 0, 9, 10] rfl ?_
            refine z_goto dL_told_211 (tgt := 33) (by decide) ?_
            rw [nI_1]
            exact z_sub [0, 1, 2, 3, 4, 5, 6, 7, 8] rfl (ih (k + 1) _ _ _ (by omega) (f_up (v := 0) hkn hv (by omega) hf) (h6') ((by first | exact a0 h155 | exact a1 (by rw [hv]; decide) h155)))
        ·
          rw [hv] at c0
          rw [p2 (by simp [hv])] at c1
          refine z_iload dL_told_33 8 rfl ?_
          refine z_bipush dL_told_35 (v := 16) (by decide +kernel) ?_
          refine z_icmp_ge dL_told_37 (tgt := 214) (by decide) (fun h37 => by first | exact absurd (b37) h37 | exact absurd h37 (b37)) (fun h37 => ?_)
          refine z_aload_n dL_told_40 0 rfl ?_
          refine z_iload dL_told_41 4 rfl ?_
          refine z_iload dL_told_43 8 rfl ?_
          refine z_iconst dL_told_45 (v := 0) rfl ?_
          refine z_callVF (d := 7) (As := [_, _, _]) c_X4_of rfl l_L_15 rfl rfl rfl (Nat.le_of_ble_eq_true rfl) ⟨Nat.le_of_ble_eq_true rfl, Nat.le_of_ble_eq_true rfl⟩ dL_told_46 c0 ?_
          refine z_istore (lo2 := [(0, _), (1, _), (2, _), (3, _), (4, _), (5, _), (6, _), (7, _), (8, _), (9, _)]) dL_told_49 (Nat.le_of_ble_eq_true rfl) [1, 2, 3, 4, 5, 6, 7, 8, 9, 0] rfl ?_
          refine z_iload dL_told_51 8 rfl ?_
          refine z_aload_n dL_told_53 0 rfl ?_
          refine z_iload dL_told_54 4 rfl ?_
          refine z_iconst dL_told_56 (v := 0) rfl ?_
          refine z_callVF (d := 7) (As := [_, _]) c_X4_ofTroop rfl l_L_19 rfl rfl rfl (Nat.le_of_ble_eq_true rfl) ⟨Nat.le_of_ble_eq_true rfl, Nat.le_of_ble_eq_true rfl⟩ dL_told_57 cs ?_
          refine z_icmp_ge dL_told_60 (tgt := 67) (by decide) (fun h60 => by first | exact absurd (b60) h60 | exact absurd h60 (b60)) (fun h60 => ?_)
          refine z_iconst dL_told_63 (v := 1) rfl ?_
          refine z_goto dL_told_64 (tgt := 68) (by decide) ?_
          refine z_istore (lo2 := [(0, _), (1, _), (2, _), (3, _), (4, _), (5, _), (6, _), (7, _), (8, _), (9, _), (10, _)]) dL_told_68 (Nat.le_of_ble_eq_true rfl) [1, 2, 3, 4, 5, 6, 7, 8, 9, 10, 0] rfl ?_
          refine z_iload dL_told_70 9 rfl ?_
          refine z_if_ge dL_told_72 (tgt := 83) (by decide) (fun h72 => ?_) (fun h72 => by first | exact absurd (by decide) h72 | exact absurd h72 (by decide))
          refine z_iload dL_told_83 10 rfl ?_
          refine z_if_ne dL_told_85 (tgt := 96) (by decide) (fun h85 => ?_) (fun h85 => by first | exact absurd (by decide) h85 | exact absurd h85 (by decide))
          refine z_iload dL_told_96 9 rfl ?_
          refine z_if_ge dL_told_98 (tgt := 104) (by decide) (fun h98 => ?_) (fun h98 => by first | exact absurd (by decide) h98 | exact absurd h98 (by decide))
          refine z_aloadr dL_told_104 5 rfl ?_
          refine z_iload dL_told_106 9 rfl ?_
          refine z_dup2 dL_told_108 rfl rfl ?_
          refine z_iald (j := 1) (j0 := 0) rfl rfl (by decide) (by decide) dL_told_109 ?_
          refine z_iconst dL_told_110 (v := 1) rfl ?_
          refine z_iload dL_told_111 8 rfl ?_
          refine z_ishl dL_told_113 ?_
          refine z_ior dL_told_114 ?_
          refine z_iast (j := 1) (j0 := 0) rfl rfl (by decide) (by decide) dL_told_115 ?_
          refine z_iload dL_told_116 6 rfl ?_
          refine z_aload_n dL_told_118 0 rfl ?_
          refine z_iload dL_told_119 4 rfl ?_
          refine z_iload dL_told_121 8 rfl ?_
          refine z_iconst dL_told_123 (v := 3) rfl ?_
          refine z_callVF (d := 7) (As := [_, _, _]) c_X4_of rfl l_L_15 rfl rfl rfl (Nat.le_of_ble_eq_true rfl) ⟨Nat.le_of_ble_eq_true rfl, Nat.le_of_ble_eq_true rfl⟩ dL_told_124 c3 ?_
          refine z_iload dL_told_127 8 rfl ?_
          refine z_ishl dL_told_129 ?_
          refine z_ior dL_told_130 ?_
          refine z_istore (lo2 := [(0, _), (1, _), (2, _), (3, _), (4, _), (5, _), (6, _), (7, _), (8, _), (9, _), (10, _)]) dL_told_131 (Nat.le_of_ble_eq_true rfl) [1, 2, 3, 4, 5, 6, 0, 7, 8, 9, 10] rfl ?_
          refine z_iload dL_told_133 7 rfl ?_
          refine z_iload dL_told_135 10 rfl ?_
          refine z_if_eq dL_told_137 (tgt := 165) (by decide) (fun h137 => by first | exact absurd (by decide) h137 | exact absurd h137 (by decide)) (fun h137 => ?_)
          refine z_iload dL_told_140 9 rfl ?_
          refine z_iconst dL_told_142 (v := 1) rfl ?_
          refine z_icmp_eq dL_told_143 (tgt := 165) (by decide) (fun h143 => ?_) (fun h143 => by first | exact absurd (rfl) h143 | exact absurd h143 (rfl))
          refine z_iconst dL_told_165 (v := 0) rfl ?_
          refine z_ior dL_told_166 ?_
          refine z_istore (lo2 := [(0, _), (1, _), (2, _), (3, _), (4, _), (5, _), (6, _), (7, _), (8, _), (9, _), (10, _)]) dL_told_167 (Nat.le_of_ble_eq_true rfl) [1, 2, 3, 4, 5, 6, 7, 0, 8, 9, 10] rfl ?_
          refine z_iload dL_told_169 9 rfl ?_
          refine z_iconst dL_told_171 (v := 3) rfl ?_
          refine z_icmp_ge dL_told_172 (tgt := 187) (by decide) (fun h172 => by first | exact absurd (by decide) h172 | exact absurd h172 (by decide)) (fun h172 => ?_)
          refine z_aload_n dL_told_175 0 rfl ?_
          refine z_iload dL_told_176 4 rfl ?_
          refine z_iload dL_told_178 8 rfl ?_
          refine z_iconst dL_told_180 (v := 1) rfl ?_
          refine z_callVF (d := 7) (As := [_, _, _]) c_X4_of rfl l_L_15 rfl rfl rfl (Nat.le_of_ble_eq_true rfl) ⟨Nat.le_of_ble_eq_true rfl, Nat.le_of_ble_eq_true rfl⟩ dL_told_181 c1 ?_
          refine z_if_ne dL_told_184 (tgt := 206) (by decide) (fun h184 => by first | exact absurd (rfl) h184 | exact absurd h184 (rfl)) (fun h184 => ?_)
          refine z_iload dL_told_187 9 rfl ?_
          refine z_iconst dL_told_189 (v := 3) rfl ?_
          refine z_icmp_ne dL_told_190 (tgt := 208) (by decide) (fun h190 => ?_) (fun h190 => by first | exact absurd (by decide) h190 | exact absurd h190 (by decide))
          refine z_iinc (lo2 := [(0, _), (1, _), (2, _), (3, _), (4, _), (5, _), (6, _), (7, _), (8, _), (9, _), (10, _)]) dL_told_208 8 rfl (w := 1) rfl (Nat.le_of_ble_eq_true rfl) [1, 2, 3, 4, 5, 6, 7, 8, 0, 9, 10] rfl ?_
          refine z_goto dL_told_211 (tgt := 33) (by decide) ?_
          rw [nI_1]
          exact z_sub [0, 1, 2, 3, 4, 5, 6, 7, 8] rfl (ih (k + 1) _ _ _ (by omega) (f_up (v := 1) hkn hv (by omega) hf) (h6') ((by rw [h7, Int32.or_zero]; exact (mk_n (aw_no (Or.inr (Or.inl hv)))).symm)))
        ·
          rw [hv] at c0
          rw [p2 (by simp [hv])] at c1
          refine z_iload dL_told_33 8 rfl ?_
          refine z_bipush dL_told_35 (v := 16) (by decide +kernel) ?_
          refine z_icmp_ge dL_told_37 (tgt := 214) (by decide) (fun h37 => by first | exact absurd (b37) h37 | exact absurd h37 (b37)) (fun h37 => ?_)
          refine z_aload_n dL_told_40 0 rfl ?_
          refine z_iload dL_told_41 4 rfl ?_
          refine z_iload dL_told_43 8 rfl ?_
          refine z_iconst dL_told_45 (v := 0) rfl ?_
          refine z_callVF (d := 7) (As := [_, _, _]) c_X4_of rfl l_L_15 rfl rfl rfl (Nat.le_of_ble_eq_true rfl) ⟨Nat.le_of_ble_eq_true rfl, Nat.le_of_ble_eq_true rfl⟩ dL_told_46 c0 ?_
          refine z_istore (lo2 := [(0, _), (1, _), (2, _), (3, _), (4, _), (5, _), (6, _), (7, _), (8, _), (9, _)]) dL_told_49 (Nat.le_of_ble_eq_true rfl) [1, 2, 3, 4, 5, 6, 7, 8, 9, 0] rfl ?_
          refine z_iload dL_told_51 8 rfl ?_
          refine z_aload_n dL_told_53 0 rfl ?_
          refine z_iload dL_told_54 4 rfl ?_
          refine z_iconst dL_told_56 (v := 0) rfl ?_
          refine z_callVF (d := 7) (As := [_, _]) c_X4_ofTroop rfl l_L_19 rfl rfl rfl (Nat.le_of_ble_eq_true rfl) ⟨Nat.le_of_ble_eq_true rfl, Nat.le_of_ble_eq_true rfl⟩ dL_told_57 cs ?_
          refine z_icmp_ge dL_told_60 (tgt := 67) (by decide) (fun h60 => by first | exact absurd (b60) h60 | exact absurd h60 (b60)) (fun h60 => ?_)
          refine z_iconst dL_told_63 (v := 1) rfl ?_
          refine z_goto dL_told_64 (tgt := 68) (by decide) ?_
          refine z_istore (lo2 := [(0, _), (1, _), (2, _), (3, _), (4, _), (5, _), (6, _), (7, _), (8, _), (9, _), (10, _)]) dL_told_68 (Nat.le_of_ble_eq_true rfl) [1, 2, 3, 4, 5, 6, 7, 8, 9, 10, 0] rfl ?_
          refine z_iload dL_told_70 9 rfl ?_
          refine z_if_ge dL_told_72 (tgt := 83) (by decide) (fun h72 => ?_) (fun h72 => by first | exact absurd (by decide) h72 | exact absurd h72 (by decide))
          refine z_iload dL_told_83 10 rfl ?_
          refine z_if_ne dL_told_85 (tgt := 96) (by decide) (fun h85 => ?_) (fun h85 => by first | exact absurd (by decide) h85 | exact absurd h85 (by decide))
          refine z_iload dL_told_96 9 rfl ?_
          refine z_if_ge dL_told_98 (tgt := 104) (by decide) (fun h98 => ?_) (fun h98 => by first | exact absurd (by decide) h98 | exact absurd h98 (by decide))
          refine z_aloadr dL_told_104 5 rfl ?_
          refine z_iload dL_told_106 9 rfl ?_
          refine z_dup2 dL_told_108 rfl rfl ?_
          refine z_iald (j := 2) (j0 := 0) rfl rfl (by decide) (by decide) dL_told_109 ?_
          refine z_iconst dL_told_110 (v := 1) rfl ?_
          refine z_iload dL_told_111 8 rfl ?_
          refine z_ishl dL_told_113 ?_
          refine z_ior dL_told_114 ?_
          refine z_iast (j := 2) (j0 := 0) rfl rfl (by decide) (by decide) dL_told_115 ?_
          refine z_iload dL_told_116 6 rfl ?_
          refine z_aload_n dL_told_118 0 rfl ?_
          refine z_iload dL_told_119 4 rfl ?_
          refine z_iload dL_told_121 8 rfl ?_
          refine z_iconst dL_told_123 (v := 3) rfl ?_
          refine z_callVF (d := 7) (As := [_, _, _]) c_X4_of rfl l_L_15 rfl rfl rfl (Nat.le_of_ble_eq_true rfl) ⟨Nat.le_of_ble_eq_true rfl, Nat.le_of_ble_eq_true rfl⟩ dL_told_124 c3 ?_
          refine z_iload dL_told_127 8 rfl ?_
          refine z_ishl dL_told_129 ?_
          refine z_ior dL_told_130 ?_
          refine z_istore (lo2 := [(0, _), (1, _), (2, _), (3, _), (4, _), (5, _), (6, _), (7, _), (8, _), (9, _), (10, _)]) dL_told_131 (Nat.le_of_ble_eq_true rfl) [1, 2, 3, 4, 5, 6, 0, 7, 8, 9, 10] rfl ?_
          refine z_iload dL_told_133 7 rfl ?_
          refine z_iload dL_told_135 10 rfl ?_
          refine z_if_eq dL_told_137 (tgt := 165) (by decide) (fun h137 => by first | exact absurd (by decide) h137 | exact absurd h137 (by decide)) (fun h137 => ?_)
          refine z_iload dL_told_140 9 rfl ?_
          refine z_iconst dL_told_142 (v := 1) rfl ?_
          refine z_icmp_eq dL_told_143 (tgt := 165) (by decide) (fun h143 => by first | exact absurd (by decide) h143 | exact absurd h143 (by decide)) (fun h143 => ?_)
          refine z_aload_n dL_told_146 0 rfl ?_
          refine z_iload dL_told_147 4 rfl ?_
          refine z_iload dL_told_149 8 rfl ?_
          refine z_iconst dL_told_151 (v := 3) rfl ?_
          refine z_callVF (d := 7) (As := [_, _, _]) c_X4_of rfl l_L_15 rfl rfl rfl (Nat.le_of_ble_eq_true rfl) ⟨Nat.le_of_ble_eq_true rfl, Nat.le_of_ble_eq_true rfl⟩ dL_told_152 c3 ?_
          refine z_if_ne dL_told_155 (tgt := 165) (by decide) (fun h155 => ?_) (fun h155 => ?_)
          · --t
            refine z_iconst dL_told_165 (v := 0) rfl ?_
            refine z_ior dL_told_166 ?_
            refine z_istore (lo2 := [(0, _), (1, _), (2, _), (3, _), (4, _), (5, _), (6, _), (7, _), (8, _), (9, _), (10, _)]) dL_told_167 (Nat.le_of_ble_eq_true rfl) [1, 2, 3, 4, 5, 6, 7, 0, 8, 9, 10] rfl ?_
            refine z_iload dL_told_169 9 rfl ?_
            refine z_iconst dL_told_171 (v := 3) rfl ?_
            refine z_icmp_ge dL_told_172 (tgt := 187) (by decide) (fun h172 => by first | exact absurd (by decide) h172 | exact absurd h172 (by decide)) (fun h172 => ?_)
            refine z_aload_n dL_told_175 0 rfl ?_
            refine z_iload dL_told_176 4 rfl ?_
            refine z_iload dL_told_178 8 rfl ?_
            refine z_iconst dL_told_180 (v := 1) rfl ?_
            refine z_callVF (d := 7) (As := [_, _, _]) c_X4_of rfl l_L_15 rfl rfl rfl (Nat.le_of_ble_eq_true rfl) ⟨Nat.le_of_ble_eq_true rfl, Nat.le_of_ble_eq_true rfl⟩ dL_told_181 c1 ?_
            refine z_if_ne dL_told_184 (tgt := 206) (by decide) (fun h184 => by first | exact absurd (rfl) h184 | exact absurd h184 (rfl)) (fun h184 => ?_)
            refine z_iload dL_told_187 9 rfl ?_
            refine z_iconst dL_told_189 (v := 3) rfl ?_
            refine z_icmp_ne dL_told_190 (tgt := 208) (by decide) (fun h190 => ?_) (fun h190 => by first | exact absurd (by decide) h190 | exact absurd h190 (by decide))
            refine z_iinc (lo2 := [(0, _), (1, _), (2, _), (3, _), (4, _), (5, _), (6, _), (7, _), (8, _), (9, _), (10, _)]) dL_told_208 8 rfl (w := 1) rfl (Nat.le_of_ble_eq_true rfl) [1, 2, 3, 4, 5, 6, 7, 8, 0, 9, 10] rfl ?_
            refine z_goto dL_told_211 (tgt := 33) (by decide) ?_
            rw [nI_1]
            exact z_sub [0, 1, 2, 3, 4, 5, 6, 7, 8] rfl (ih (k + 1) _ _ _ (by omega) (f_up (v := 2) hkn hv (by omega) hf) (h6') ((by first | exact a0 h155 | exact a1 (by rw [hv]; decide) h155)))
          · --f
            refine z_iconst dL_told_158 (v := 1) rfl ?_
            refine z_iload dL_told_159 8 rfl ?_
            refine z_ishl dL_told_161 ?_
            refine z_goto dL_told_162 (tgt := 166) (by decide) ?_
            refine z_ior dL_told_166 ?_
            refine z_istore (lo2 := [(0, _), (1, _), (2, _), (3, _), (4, _), (5, _), (6, _), (7, _), (8, _), (9, _), (10, _)]) dL_told_167 (Nat.le_of_ble_eq_true rfl) [1, 2, 3, 4, 5, 6, 7, 0, 8, 9, 10] rfl ?_
            refine z_iload dL_told_169 9 rfl ?_
            refine z_iconst dL_told_171 (v := 3) rfl ?_
            refine z_icmp_ge dL_told_172 (tgt := 187) (by decide) (fun h172 => by first | exact absurd (by decide) h172 | exact absurd h172 (by decide)) (fun h172 => ?_)
            refine z_aload_n dL_told_175 0 rfl ?_
            refine z_iload dL_told_176 4 rfl ?_
            refine z_iload dL_told_178 8 rfl ?_
            refine z_iconst dL_told_180 (v := 1) rfl ?_
            refine z_callVF (d := 7) (As := [_, _, _]) c_X4_of rfl l_L_15 rfl rfl rfl (Nat.le_of_ble_eq_true rfl) ⟨Nat.le_of_ble_eq_true rfl, Nat.le_of_ble_eq_true rfl⟩ dL_told_181 c1 ?_
            refine z_if_ne dL_told_184 (tgt := 206) (by decide) (fun h184 => by first | exact absurd (rfl) h184 | exact absurd h184 (rfl)) (fun h184 => ?_)
            refine z_iload dL_told_187 9 rfl ?_
            refine z_iconst dL_told_189 (v := 3) rfl ?_
            refine z_icmp_ne dL_told_190 (tgt := 208) (by decide) (fun h190 => ?_) (fun h190 => by first | exact absurd (by decide) h190 | exact absurd h190 (by decide))
            refine z_iinc (lo2 := [(0, _), (1, _), (2, _), (3, _), (4, _), (5, _), (6, _), (7, _), (8, _), (9, _), (10, _)]) dL_told_208 8 rfl (w := 1) rfl (Nat.le_of_ble_eq_true rfl) [1, 2, 3, 4, 5, 6, 7, 8, 0, 9, 10] rfl ?_
            refine z_goto dL_told_211 (tgt := 33) (by decide) ?_
            rw [nI_1]
            exact z_sub [0, 1, 2, 3, 4, 5, 6, 7, 8] rfl (ih (k + 1) _ _ _ (by omega) (f_up (v := 2) hkn hv (by omega) hf) (h6') ((by first | exact a0 h155 | exact a1 (by rw [hv]; decide) h155)))
        ·
          rw [hv] at c0
          refine z_iload dL_told_33 8 rfl ?_
          refine z_bipush dL_told_35 (v := 16) (by decide +kernel) ?_
          refine z_icmp_ge dL_told_37 (tgt := 214) (by decide) (fun h37 => by first | exact absurd (b37) h37 | exact absurd h37 (b37)) (fun h37 => ?_)
          refine z_aload_n dL_told_40 0 rfl ?_
          refine z_iload dL_told_41 4 rfl ?_
          refine z_iload dL_told_43 8 rfl ?_
          refine z_iconst dL_told_45 (v := 0) rfl ?_
          refine z_callVF (d := 7) (As := [_, _, _]) c_X4_of rfl l_L_15 rfl rfl rfl (Nat.le_of_ble_eq_true rfl) ⟨Nat.le_of_ble_eq_true rfl, Nat.le_of_ble_eq_true rfl⟩ dL_told_46 c0 ?_
          refine z_istore (lo2 := [(0, _), (1, _), (2, _), (3, _), (4, _), (5, _), (6, _), (7, _), (8, _), (9, _)]) dL_told_49 (Nat.le_of_ble_eq_true rfl) [1, 2, 3, 4, 5, 6, 7, 8, 9, 0] rfl ?_
          refine z_iload dL_told_51 8 rfl ?_
          refine z_aload_n dL_told_53 0 rfl ?_
          refine z_iload dL_told_54 4 rfl ?_
          refine z_iconst dL_told_56 (v := 0) rfl ?_
          refine z_callVF (d := 7) (As := [_, _]) c_X4_ofTroop rfl l_L_19 rfl rfl rfl (Nat.le_of_ble_eq_true rfl) ⟨Nat.le_of_ble_eq_true rfl, Nat.le_of_ble_eq_true rfl⟩ dL_told_57 cs ?_
          refine z_icmp_ge dL_told_60 (tgt := 67) (by decide) (fun h60 => by first | exact absurd (b60) h60 | exact absurd h60 (b60)) (fun h60 => ?_)
          refine z_iconst dL_told_63 (v := 1) rfl ?_
          refine z_goto dL_told_64 (tgt := 68) (by decide) ?_
          refine z_istore (lo2 := [(0, _), (1, _), (2, _), (3, _), (4, _), (5, _), (6, _), (7, _), (8, _), (9, _), (10, _)]) dL_told_68 (Nat.le_of_ble_eq_true rfl) [1, 2, 3, 4, 5, 6, 7, 8, 9, 10, 0] rfl ?_
          refine z_iload dL_told_70 9 rfl ?_
          refine z_if_ge dL_told_72 (tgt := 83) (by decide) (fun h72 => ?_) (fun h72 => by first | exact absurd (by decide) h72 | exact absurd h72 (by decide))
          refine z_iload dL_told_83 10 rfl ?_
          refine z_if_ne dL_told_85 (tgt := 96) (by decide) (fun h85 => ?_) (fun h85 => by first | exact absurd (by decide) h85 | exact absurd h85 (by decide))
          refine z_iload dL_told_96 9 rfl ?_
          refine z_if_ge dL_told_98 (tgt := 104) (by decide) (fun h98 => ?_) (fun h98 => by first | exact absurd (by decide) h98 | exact absurd h98 (by decide))
          refine z_aloadr dL_told_104 5 rfl ?_
          refine z_iload dL_told_106 9 rfl ?_
          refine z_dup2 dL_told_108 rfl rfl ?_
          refine z_iald (j := 3) (j0 := 0) rfl rfl (by decide) (by decide) dL_told_109 ?_
          refine z_iconst dL_told_110 (v := 1) rfl ?_
          refine z_iload dL_told_111 8 rfl ?_
          refine z_ishl dL_told_113 ?_
          refine z_ior dL_told_114 ?_
          refine z_iast (j := 3) (j0 := 0) rfl rfl (by decide) (by decide) dL_told_115 ?_
          refine z_iload dL_told_116 6 rfl ?_
          refine z_aload_n dL_told_118 0 rfl ?_
          refine z_iload dL_told_119 4 rfl ?_
          refine z_iload dL_told_121 8 rfl ?_
          refine z_iconst dL_told_123 (v := 3) rfl ?_
          refine z_callVF (d := 7) (As := [_, _, _]) c_X4_of rfl l_L_15 rfl rfl rfl (Nat.le_of_ble_eq_true rfl) ⟨Nat.le_of_ble_eq_true rfl, Nat.le_of_ble_eq_true rfl⟩ dL_told_124 c3 ?_
          refine z_iload dL_told_127 8 rfl ?_
          refine z_ishl dL_told_129 ?_
          refine z_ior dL_told_130 ?_
          refine z_istore (lo2 := [(0, _), (1, _), (2, _), (3, _), (4, _), (5, _), (6, _), (7, _), (8, _), (9, _), (10, _)]) dL_told_131 (Nat.le_of_ble_eq_true rfl) [1, 2, 3, 4, 5, 6, 0, 7, 8, 9, 10] rfl ?_
          refine z_iload dL_told_133 7 rfl ?_
          refine z_iload dL_told_135 10 rfl ?_
          refine z_if_eq dL_told_137 (tgt := 165) (by decide) (fun h137 => by first | exact absurd (by decide) h137 | exact absurd h137 (by decide)) (fun h137 => ?_)
          refine z_iload dL_told_140 9 rfl ?_
          refine z_iconst dL_told_142 (v := 1) rfl ?_
          refine z_icmp_eq dL_told_143 (tgt := 165) (by decide) (fun h143 => by first | exact absurd (by decide) h143 | exact absurd h143 (by decide)) (fun h143 => ?_)
          refine z_aload_n dL_told_146 0 rfl ?_
          refine z_iload dL_told_147 4 rfl ?_
          refine z_iload dL_told_149 8 rfl ?_
          refine z_iconst dL_told_151 (v := 3) rfl ?_
          refine z_callVF (d := 7) (As := [_, _, _]) c_X4_of rfl l_L_15 rfl rfl rfl (Nat.le_of_ble_eq_true rfl) ⟨Nat.le_of_ble_eq_true rfl, Nat.le_of_ble_eq_true rfl⟩ dL_told_152 c3 ?_
          refine z_if_ne dL_told_155 (tgt := 165) (by decide) (fun h155 => ?_) (fun h155 => ?_)
          · --t
            refine z_iconst dL_told_165 (v := 0) rfl ?_
            refine z_ior dL_told_166 ?_
            refine z_istore (lo2 := [(0, _), (1, _), (2, _), (3, _), (4, _), (5, _), (6, _), (7, _), (8, _), (9, _), (10, _)]) dL_told_167 (Nat.le_of_ble_eq_true rfl) [1, 2, 3, 4, 5, 6, 7, 0, 8, 9, 10] rfl ?_
            refine z_iload dL_told_169 9 rfl ?_
            refine z_iconst dL_told_171 (v := 3) rfl ?_
            refine z_icmp_ge dL_told_172 (tgt := 187) (by decide) (fun h172 => ?_) (fun h172 => by first | exact absurd (by decide) h172 | exact absurd h172 (by decide))
            refine z_iload dL_told_187 9 rfl ?_
            refine z_iconst dL_told_189 (v := 3) rfl ?_
            refine z_icmp_ne dL_told_190 (tgt := 208) (by decide) (fun h190 => by first | exact absurd (rfl) h190 | exact absurd h190 (rfl)) (fun h190 => ?_)
            refine z_aload_n dL_told_193 0 rfl ?_
            refine z_iload dL_told_194 4 rfl ?_
            refine z_iload dL_told_196 8 rfl ?_
            refine z_iconst dL_told_198 (v := 1) rfl ?_
            refine z_callVF (d := 7) (As := [_, _, _]) c_X4_of rfl l_L_15 rfl rfl rfl (Nat.le_of_ble_eq_true rfl) ⟨Nat.le_of_ble_eq_true rfl, Nat.le_of_ble_eq_true rfl⟩ dL_told_199 c1 ?_
            refine z_iconst dL_told_202 (v := 1) rfl ?_
            refine z_icmp_ge dL_told_203 (tgt := 208) (by decide) (fun h203 => ?_) (fun h203 => by first | exact absurd (p1 hv) h203 | exact absurd h203 (p1 hv))
            refine z_iinc (lo2 := [(0, _), (1, _), (2, _), (3, _), (4, _), (5, _), (6, _), (7, _), (8, _), (9, _), (10, _)]) dL_told_208 8 rfl (w := 1) rfl (Nat.le_of_ble_eq_true rfl) [1, 2, 3, 4, 5, 6, 7, 8, 0, 9, 10] rfl ?_
            refine z_goto dL_told_211 (tgt := 33) (by decide) ?_
            rw [nI_1]
            exact z_sub [0, 1, 2, 3, 4, 5, 6, 7, 8] rfl (ih (k + 1) _ _ _ (by omega) (f_up (v := 3) hkn hv (by omega) hf) (h6') ((by first | exact a0 h155 | exact a1 (by rw [hv]; decide) h155)))
          · --f
            refine z_iconst dL_told_158 (v := 1) rfl ?_
            refine z_iload dL_told_159 8 rfl ?_
            refine z_ishl dL_told_161 ?_
            refine z_goto dL_told_162 (tgt := 166) (by decide) ?_
            refine z_ior dL_told_166 ?_
            refine z_istore (lo2 := [(0, _), (1, _), (2, _), (3, _), (4, _), (5, _), (6, _), (7, _), (8, _), (9, _), (10, _)]) dL_told_167 (Nat.le_of_ble_eq_true rfl) [1, 2, 3, 4, 5, 6, 7, 0, 8, 9, 10] rfl ?_
            refine z_iload dL_told_169 9 rfl ?_
            refine z_iconst dL_told_171 (v := 3) rfl ?_
            refine z_icmp_ge dL_told_172 (tgt := 187) (by decide) (fun h172 => ?_) (fun h172 => by first | exact absurd (by decide) h172 | exact absurd h172 (by decide))
            refine z_iload dL_told_187 9 rfl ?_
            refine z_iconst dL_told_189 (v := 3) rfl ?_
            refine z_icmp_ne dL_told_190 (tgt := 208) (by decide) (fun h190 => by first | exact absurd (rfl) h190 | exact absurd h190 (rfl)) (fun h190 => ?_)
            refine z_aload_n dL_told_193 0 rfl ?_
            refine z_iload dL_told_194 4 rfl ?_
            refine z_iload dL_told_196 8 rfl ?_
            refine z_iconst dL_told_198 (v := 1) rfl ?_
            refine z_callVF (d := 7) (As := [_, _, _]) c_X4_of rfl l_L_15 rfl rfl rfl (Nat.le_of_ble_eq_true rfl) ⟨Nat.le_of_ble_eq_true rfl, Nat.le_of_ble_eq_true rfl⟩ dL_told_199 c1 ?_
            refine z_iconst dL_told_202 (v := 1) rfl ?_
            refine z_icmp_ge dL_told_203 (tgt := 208) (by decide) (fun h203 => ?_) (fun h203 => by first | exact absurd (p1 hv) h203 | exact absurd h203 (p1 hv))
            refine z_iinc (lo2 := [(0, _), (1, _), (2, _), (3, _), (4, _), (5, _), (6, _), (7, _), (8, _), (9, _), (10, _)]) dL_told_208 8 rfl (w := 1) rfl (Nat.le_of_ble_eq_true rfl) [1, 2, 3, 4, 5, 6, 7, 8, 0, 9, 10] rfl ?_
            refine z_goto dL_told_211 (tgt := 33) (by decide) ?_
            rw [nI_1]
            exact z_sub [0, 1, 2, 3, 4, 5, 6, 7, 8] rfl (ih (k + 1) _ _ _ (by omega) (f_up (v := 3) hkn hv (by omega) hf) (h6') ((by first | exact a0 h155 | exact a1 (by rw [hv]; decide) h155)))
        ·
          rw [hv] at c0
          refine z_iload dL_told_33 8 rfl ?_
          refine z_bipush dL_told_35 (v := 16) (by decide +kernel) ?_
          refine z_icmp_ge dL_told_37 (tgt := 214) (by decide) (fun h37 => by first | exact absurd (b37) h37 | exact absurd h37 (b37)) (fun h37 => ?_)
          refine z_aload_n dL_told_40 0 rfl ?_
          refine z_iload dL_told_41 4 rfl ?_
          refine z_iload dL_told_43 8 rfl ?_
          refine z_iconst dL_told_45 (v := 0) rfl ?_
          refine z_callVF (d := 7) (As := [_, _, _]) c_X4_of rfl l_L_15 rfl rfl rfl (Nat.le_of_ble_eq_true rfl) ⟨Nat.le_of_ble_eq_true rfl, Nat.le_of_ble_eq_true rfl⟩ dL_told_46 c0 ?_
          refine z_istore (lo2 := [(0, _), (1, _), (2, _), (3, _), (4, _), (5, _), (6, _), (7, _), (8, _), (9, _)]) dL_told_49 (Nat.le_of_ble_eq_true rfl) [1, 2, 3, 4, 5, 6, 7, 8, 9, 0] rfl ?_
          refine z_iload dL_told_51 8 rfl ?_
          refine z_aload_n dL_told_53 0 rfl ?_
          refine z_iload dL_told_54 4 rfl ?_
          refine z_iconst dL_told_56 (v := 0) rfl ?_
          refine z_callVF (d := 7) (As := [_, _]) c_X4_ofTroop rfl l_L_19 rfl rfl rfl (Nat.le_of_ble_eq_true rfl) ⟨Nat.le_of_ble_eq_true rfl, Nat.le_of_ble_eq_true rfl⟩ dL_told_57 cs ?_
          refine z_icmp_ge dL_told_60 (tgt := 67) (by decide) (fun h60 => by first | exact absurd (b60) h60 | exact absurd h60 (b60)) (fun h60 => ?_)
          refine z_iconst dL_told_63 (v := 1) rfl ?_
          refine z_goto dL_told_64 (tgt := 68) (by decide) ?_
          refine z_istore (lo2 := [(0, _), (1, _), (2, _), (3, _), (4, _), (5, _), (6, _), (7, _), (8, _), (9, _), (10, _)]) dL_told_68 (Nat.le_of_ble_eq_true rfl) [1, 2, 3, 4, 5, 6, 7, 8, 9, 10, 0] rfl ?_
          refine z_iload dL_told_70 9 rfl ?_
          refine z_if_ge dL_told_72 (tgt := 83) (by decide) (fun h72 => ?_) (fun h72 => by first | exact absurd (by decide) h72 | exact absurd h72 (by decide))
          refine z_iload dL_told_83 10 rfl ?_
          refine z_if_ne dL_told_85 (tgt := 96) (by decide) (fun h85 => ?_) (fun h85 => by first | exact absurd (by decide) h85 | exact absurd h85 (by decide))
          refine z_iload dL_told_96 9 rfl ?_
          refine z_if_ge dL_told_98 (tgt := 104) (by decide) (fun h98 => ?_) (fun h98 => by first | exact absurd (by decide) h98 | exact absurd h98 (by decide))
          refine z_aloadr dL_told_104 5 rfl ?_
          refine z_iload dL_told_106 9 rfl ?_
          refine z_dup2 dL_told_108 rfl rfl ?_
          refine z_iald (j := 4) (j0 := 0) rfl rfl (by decide) (by decide) dL_told_109 ?_
          refine z_iconst dL_told_110 (v := 1) rfl ?_
          refine z_iload dL_told_111 8 rfl ?_
          refine z_ishl dL_told_113 ?_
          refine z_ior dL_told_114 ?_
          refine z_iast (j := 4) (j0 := 0) rfl rfl (by decide) (by decide) dL_told_115 ?_
          refine z_iload dL_told_116 6 rfl ?_
          refine z_aload_n dL_told_118 0 rfl ?_
          refine z_iload dL_told_119 4 rfl ?_
          refine z_iload dL_told_121 8 rfl ?_
          refine z_iconst dL_told_123 (v := 3) rfl ?_
          refine z_callVF (d := 7) (As := [_, _, _]) c_X4_of rfl l_L_15 rfl rfl rfl (Nat.le_of_ble_eq_true rfl) ⟨Nat.le_of_ble_eq_true rfl, Nat.le_of_ble_eq_true rfl⟩ dL_told_124 c3 ?_
          refine z_iload dL_told_127 8 rfl ?_
          refine z_ishl dL_told_129 ?_
          refine z_ior dL_told_130 ?_
          refine z_istore (lo2 := [(0, _), (1, _), (2, _), (3, _), (4, _), (5, _), (6, _), (7, _), (8, _), (9, _), (10, _)]) dL_told_131 (Nat.le_of_ble_eq_true rfl) [1, 2, 3, 4, 5, 6, 0, 7, 8, 9, 10] rfl ?_
          refine z_iload dL_told_133 7 rfl ?_
          refine z_iload dL_told_135 10 rfl ?_
          refine z_if_eq dL_told_137 (tgt := 165) (by decide) (fun h137 => by first | exact absurd (by decide) h137 | exact absurd h137 (by decide)) (fun h137 => ?_)
          refine z_iload dL_told_140 9 rfl ?_
          refine z_iconst dL_told_142 (v := 1) rfl ?_
          refine z_icmp_eq dL_told_143 (tgt := 165) (by decide) (fun h143 => by first | exact absurd (by decide) h143 | exact absurd h143 (by decide)) (fun h143 => ?_)
          refine z_aload_n dL_told_146 0 rfl ?_
          refine z_iload dL_told_147 4 rfl ?_
          refine z_iload dL_told_149 8 rfl ?_
          refine z_iconst dL_told_151 (v := 3) rfl ?_
          refine z_callVF (d := 7) (As := [_, _, _]) c_X4_of rfl l_L_15 rfl rfl rfl (Nat.le_of_ble_eq_true rfl) ⟨Nat.le_of_ble_eq_true rfl, Nat.le_of_ble_eq_true rfl⟩ dL_told_152 c3 ?_
          refine z_if_ne dL_told_155 (tgt := 165) (by decide) (fun h155 => ?_) (fun h155 => ?_)
          · --t
            refine z_iconst dL_told_165 (v := 0) rfl ?_
            refine z_ior dL_told_166 ?_
            refine z_istore (lo2 := [(0, _), (1, _), (2, _), (3, _), (4, _), (5, _), (6, _), (7, _), (8, _), (9, _), (10, _)]) dL_told_167 (Nat.le_of_ble_eq_true rfl) [1, 2, 3, 4, 5, 6, 7, 0, 8, 9, 10] rfl ?_
            refine z_iload dL_told_169 9 rfl ?_
            refine z_iconst dL_told_171 (v := 3) rfl ?_
            refine z_icmp_ge dL_told_172 (tgt := 187) (by decide) (fun h172 => ?_) (fun h172 => by first | exact absurd (by decide) h172 | exact absurd h172 (by decide))
            refine z_iload dL_told_187 9 rfl ?_
            refine z_iconst dL_told_189 (v := 3) rfl ?_
            refine z_icmp_ne dL_told_190 (tgt := 208) (by decide) (fun h190 => ?_) (fun h190 => by first | exact absurd (by decide) h190 | exact absurd h190 (by decide))
            refine z_iinc (lo2 := [(0, _), (1, _), (2, _), (3, _), (4, _), (5, _), (6, _), (7, _), (8, _), (9, _), (10, _)]) dL_told_208 8 rfl (w := 1) rfl (Nat.le_of_ble_eq_true rfl) [1, 2, 3, 4, 5, 6, 7, 8, 0, 9, 10] rfl ?_
            refine z_goto dL_told_211 (tgt := 33) (by decide) ?_
            rw [nI_1]
            exact z_sub [0, 1, 2, 3, 4, 5, 6, 7, 8] rfl (ih (k + 1) _ _ _ (by omega) (f_up (v := 4) hkn hv (by omega) hf) (h6') ((by first | exact a0 h155 | exact a1 (by rw [hv]; decide) h155)))
          · --f
            refine z_iconst dL_told_158 (v := 1) rfl ?_
            refine z_iload dL_told_159 8 rfl ?_
            refine z_ishl dL_told_161 ?_
            refine z_goto dL_told_162 (tgt := 166) (by decide) ?_
            refine z_ior dL_told_166 ?_
            refine z_istore (lo2 := [(0, _), (1, _), (2, _), (3, _), (4, _), (5, _), (6, _), (7, _), (8, _), (9, _), (10, _)]) dL_told_167 (Nat.le_of_ble_eq_true rfl) [1, 2, 3, 4, 5, 6, 7, 0, 8, 9, 10] rfl ?_
            refine z_iload dL_told_169 9 rfl ?_
            refine z_iconst dL_told_171 (v := 3) rfl ?_
            refine z_icmp_ge dL_told_172 (tgt := 187) (by decide) (fun h172 => ?_) (fun h172 => by first | exact absurd (by decide) h172 | exact absurd h172 (by decide))
            refine z_iload dL_told_187 9 rfl ?_
            refine z_iconst dL_told_189 (v := 3) rfl ?_
            refine z_icmp_ne dL_told_190 (tgt := 208) (by decide) (fun h190 => ?_) (fun h190 => by first | exact absurd (by decide) h190 | exact absurd h190 (by decide))
            refine z_iinc (lo2 := [(0, _), (1, _), (2, _), (3, _), (4, _), (5, _), (6, _), (7, _), (8, _), (9, _), (10, _)]) dL_told_208 8 rfl (w := 1) rfl (Nat.le_of_ble_eq_true rfl) [1, 2, 3, 4, 5, 6, 7, 8, 0, 9, 10] rfl ?_
            refine z_goto dL_told_211 (tgt := 33) (by decide) ?_
            rw [nI_1]
            exact z_sub [0, 1, 2, 3, 4, 5, 6, 7, 8] rfl (ih (k + 1) _ _ _ (by omega) (f_up (v := 4) hkn hv (by omega) hf) (h6') ((by first | exact a0 h155 | exact a1 (by rw [hv]; decide) h155)))
      · have b60 : nI s ≤ nI k := nI_le (by omega) (by omega)
        have hv : (N.2 t).2.1 k = 3 := by
          unfold knB at hkn
          rw [decide_eq_false hlt, Bool.false_or, beq_iff_eq] at hkn
          exact hkn
        have h7' : m7 ||| 0 = mkm (awp (N.2 t)) (k + 1) := by rw [h7, Int32.or_zero]; exact (mk_n (aw_no (Or.inl hlt))).symm
        rw [hv] at c0
        refine z_iload dL_told_33 8 rfl ?_
        refine z_bipush dL_told_35 (v := 16) (by decide +kernel) ?_
        refine z_icmp_ge dL_told_37 (tgt := 214) (by decide) (fun h37 => by first | exact absurd (b37) h37 | exact absurd h37 (b37)) (fun h37 => ?_)
        refine z_aload_n dL_told_40 0 rfl ?_
        refine z_iload dL_told_41 4 rfl ?_
        refine z_iload dL_told_43 8 rfl ?_
        refine z_iconst dL_told_45 (v := 0) rfl ?_
        refine z_callVF (d := 7) (As := [_, _, _]) c_X4_of rfl l_L_15 rfl rfl rfl (Nat.le_of_ble_eq_true rfl) ⟨Nat.le_of_ble_eq_true rfl, Nat.le_of_ble_eq_true rfl⟩ dL_told_46 c0 ?_
        refine z_istore (lo2 := [(0, _), (1, _), (2, _), (3, _), (4, _), (5, _), (6, _), (7, _), (8, _), (9, _)]) dL_told_49 (Nat.le_of_ble_eq_true rfl) [1, 2, 3, 4, 5, 6, 7, 8, 9, 0] rfl ?_
        refine z_iload dL_told_51 8 rfl ?_
        refine z_aload_n dL_told_53 0 rfl ?_
        refine z_iload dL_told_54 4 rfl ?_
        refine z_iconst dL_told_56 (v := 0) rfl ?_
        refine z_callVF (d := 7) (As := [_, _]) c_X4_ofTroop rfl l_L_19 rfl rfl rfl (Nat.le_of_ble_eq_true rfl) ⟨Nat.le_of_ble_eq_true rfl, Nat.le_of_ble_eq_true rfl⟩ dL_told_57 cs ?_
        refine z_icmp_ge dL_told_60 (tgt := 67) (by decide) (fun h60 => ?_) (fun h60 => by first | exact absurd (b60) h60 | exact absurd h60 (b60))
        refine z_iconst dL_told_67 (v := 0) rfl ?_
        refine z_istore (lo2 := [(0, _), (1, _), (2, _), (3, _), (4, _), (5, _), (6, _), (7, _), (8, _), (9, _), (10, _)]) dL_told_68 (Nat.le_of_ble_eq_true rfl) [1, 2, 3, 4, 5, 6, 7, 8, 9, 10, 0] rfl ?_
        refine z_iload dL_told_70 9 rfl ?_
        refine z_if_ge dL_told_72 (tgt := 83) (by decide) (fun h72 => ?_) (fun h72 => by first | exact absurd (by decide) h72 | exact absurd h72 (by decide))
        refine z_iload dL_told_83 10 rfl ?_
        refine z_if_ne dL_told_85 (tgt := 96) (by decide) (fun h85 => by first | exact absurd (rfl) h85 | exact absurd h85 (rfl)) (fun h85 => ?_)
        refine z_iload dL_told_88 9 rfl ?_
        refine z_iconst dL_told_90 (v := 3) rfl ?_
        refine z_icmp_eq dL_told_91 (tgt := 96) (by decide) (fun h91 => ?_) (fun h91 => by first | exact absurd (rfl) h91 | exact absurd h91 (rfl))
        refine z_iload dL_told_96 9 rfl ?_
        refine z_if_ge dL_told_98 (tgt := 104) (by decide) (fun h98 => ?_) (fun h98 => by first | exact absurd (by decide) h98 | exact absurd h98 (by decide))
        refine z_aloadr dL_told_104 5 rfl ?_
        refine z_iload dL_told_106 9 rfl ?_
        refine z_dup2 dL_told_108 rfl rfl ?_
        refine z_iald (j := 3) (j0 := 0) rfl rfl (by decide) (by decide) dL_told_109 ?_
        refine z_iconst dL_told_110 (v := 1) rfl ?_
        refine z_iload dL_told_111 8 rfl ?_
        refine z_ishl dL_told_113 ?_
        refine z_ior dL_told_114 ?_
        refine z_iast (j := 3) (j0 := 0) rfl rfl (by decide) (by decide) dL_told_115 ?_
        refine z_iload dL_told_116 6 rfl ?_
        refine z_aload_n dL_told_118 0 rfl ?_
        refine z_iload dL_told_119 4 rfl ?_
        refine z_iload dL_told_121 8 rfl ?_
        refine z_iconst dL_told_123 (v := 3) rfl ?_
        refine z_callVF (d := 7) (As := [_, _, _]) c_X4_of rfl l_L_15 rfl rfl rfl (Nat.le_of_ble_eq_true rfl) ⟨Nat.le_of_ble_eq_true rfl, Nat.le_of_ble_eq_true rfl⟩ dL_told_124 c3 ?_
        refine z_iload dL_told_127 8 rfl ?_
        refine z_ishl dL_told_129 ?_
        refine z_ior dL_told_130 ?_
        refine z_istore (lo2 := [(0, _), (1, _), (2, _), (3, _), (4, _), (5, _), (6, _), (7, _), (8, _), (9, _), (10, _)]) dL_told_131 (Nat.le_of_ble_eq_true rfl) [1, 2, 3, 4, 5, 6, 0, 7, 8, 9, 10] rfl ?_
        refine z_iload dL_told_133 7 rfl ?_
        refine z_iload dL_told_135 10 rfl ?_
        refine z_if_eq dL_told_137 (tgt := 165) (by decide) (fun h137 => ?_) (fun h137 => by first | exact absurd (rfl) h137 | exact absurd h137 (rfl))
        refine z_iconst dL_told_165 (v := 0) rfl ?_
        refine z_ior dL_told_166 ?_
        refine z_istore (lo2 := [(0, _), (1, _), (2, _), (3, _), (4, _), (5, _), (6, _), (7, _), (8, _), (9, _), (10, _)]) dL_told_167 (Nat.le_of_ble_eq_true rfl) [1, 2, 3, 4, 5, 6, 7, 0, 8, 9, 10] rfl ?_
        refine z_iload dL_told_169 9 rfl ?_
        refine z_iconst dL_told_171 (v := 3) rfl ?_
        refine z_icmp_ge dL_told_172 (tgt := 187) (by decide) (fun h172 => ?_) (fun h172 => by first | exact absurd (by decide) h172 | exact absurd h172 (by decide))
        refine z_iload dL_told_187 9 rfl ?_
        refine z_iconst dL_told_189 (v := 3) rfl ?_
        refine z_icmp_ne dL_told_190 (tgt := 208) (by decide) (fun h190 => by first | exact absurd (rfl) h190 | exact absurd h190 (rfl)) (fun h190 => ?_)
        refine z_aload_n dL_told_193 0 rfl ?_
        refine z_iload dL_told_194 4 rfl ?_
        refine z_iload dL_told_196 8 rfl ?_
        refine z_iconst dL_told_198 (v := 1) rfl ?_
        refine z_callVF (d := 7) (As := [_, _, _]) c_X4_of rfl l_L_15 rfl rfl rfl (Nat.le_of_ble_eq_true rfl) ⟨Nat.le_of_ble_eq_true rfl, Nat.le_of_ble_eq_true rfl⟩ dL_told_199 c1 ?_
        refine z_iconst dL_told_202 (v := 1) rfl ?_
        refine z_icmp_ge dL_told_203 (tgt := 208) (by decide) (fun h203 => ?_) (fun h203 => by first | exact absurd (p1 hv) h203 | exact absurd h203 (p1 hv))
        refine z_iinc (lo2 := [(0, _), (1, _), (2, _), (3, _), (4, _), (5, _), (6, _), (7, _), (8, _), (9, _), (10, _)]) dL_told_208 8 rfl (w := 1) rfl (Nat.le_of_ble_eq_true rfl) [1, 2, 3, 4, 5, 6, 7, 8, 0, 9, 10] rfl ?_
        refine z_goto dL_told_211 (tgt := 33) (by decide) ?_
        rw [nI_1]
        exact z_sub [0, 1, 2, 3, 4, 5, 6, 7, 8] rfl (ih (k + 1) _ _ _ (by omega) (f_up (v := 3) hkn hv (by omega) hf) (h6') (h7'))
end TOLD
