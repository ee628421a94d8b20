/-! the reference's pad: an order -/
section MODO
variable {G : mG} {d : Nat} {S S0 : mS} {Q : Option Int32 → mS → Prop} {P : Nat → Int32} {len i : Nat} {K b c y z : Int32}
theorem od_153n {w : Int32} (hx : Q (some (-3)) S) : At G (d + 7) M_X5_order Q 153 [(0, rv G 190), (1, .int b), (2, .int K), (3, .int w), (4, .int y), (5, .int (-3))] [] S := by
  refine r_iload dX5_order_153 5 rfl ?_
  refine r_if_ge dX5_order_155 (tgt := 161) (by decide) (fun h155 => ?_) (fun h155 => ?_)
  · --t
    exact absurd h155 (by decide)
  · --f
    refine r_bipush dX5_order_158 (v := -3) (by decide +kernel) ?_
    refine r_iret rfl dX5_order_160 ?_
    exact hx
theorem od_153p {w : Int32} (hz : ¬ z < 0) (hx : At G (d + 7) M_X5_order Q 161 [(0, rv G 190), (1, .int b), (2, .int K), (4, .int y), (5, .int z)] [] S) : At G (d + 7) M_X5_order Q 153 [(0, rv G 190), (1, .int b), (2, .int K), (3, .int w), (4, .int y), (5, .int z)] [] S := by
  refine r_iload dX5_order_153 5 rfl ?_
  refine r_if_ge dX5_order_155 (tgt := 161) (by decide) (fun h155 => ?_) (fun h155 => ?_)
  · --t
    exact r_sub [0, 1, 2, 4, 5] rfl hx
  · --f
    exact absurd (by first | exact h155 | exact Int32.not_le.mp h155) hz
theorem od_mid (e : dgt (sg P len i) = true) (hF : FE S0 S) (hu : PE S P len (if sg P len (i + 1) = c then (rN P len (i + 1 + 1)).2.1 else i + 1))
    (hx : ∀ u, (rB P len i c).1 = true → PE u P len (rB P len i c).2.1 → FE S0 u → At G (d + 7) M_X5_order Q 161 [(0, rv G 190), (1, .int b), (2, .int K), (4, .int (rB P len i c).2.2.1), (5, .int (rB P len i c).2.2.2)] [] u)
    (hn : ∀ u, (rB P len i c).1 = false → PE u P len (rB P len i c).2.1 → FE S0 u → Q (some (-3)) u) :
    At G (d + 7) M_X5_order Q 153 [(0, rv G 190), (1, .int b), (2, .int K), (3, .int 1), (4, .int (sg P len i - 48)), (5, .int (if sg P len (i + 1) = c then (if (rN P len (i + 1 + 1)).1 = true then (rN P len (i + 1 + 1)).2.2 else -3) else -3))] [] S := by
  by_cases e2 : sg P len (i + 1) = c
  · have er : rB P len i c = ((rN P len (i + 2)).1, (rN P len (i + 2)).2.1, sg P len i - 48, (rN P len (i + 2)).2.2) := by unfold rB; rw [e, if_pos rfl, if_pos e2]
    rw [if_pos e2] at hu ⊢
    rw [show i + 1 + 1 = i + 2 from rfl] at hu ⊢
    rw [er] at hx hn
    cases e3 : (rN P len (i + 2)).1
    · rw [if_neg (show ¬ false = true by decide)]
      exact od_153n (hn _ e3 hu hF)
    · rw [if_pos rfl]
      exact od_153p (rN_nn e3) (hx _ e3 hu hF)
  · have er : rB P len i c = (false, i + 1, 0, 0) := by unfold rB; rw [e, if_pos rfl, if_neg e2]
    rw [if_neg e2] at hu ⊢
    rw [er] at hn
    exact od_153n (hn _ rfl hu hF)
theorem od_told (hc : (c = 46 ∧ K ≠ 115) ∨ (c = 61 ∧ K = 115)) (h : PE S P len i) (hF : FE S0 S)
    (hx : ∀ u, (rB P len i c).1 = true → PE u P len (rB P len i c).2.1 → FE S0 u → At G (d + 7) M_X5_order Q 161 [(0, rv G 190), (1, .int b), (2, .int K), (4, .int (rB P len i c).2.2.1), (5, .int (rB P len i c).2.2.2)] [] u)
    (hn : ∀ u, (rB P len i c).1 = false → PE u P len (rB P len i c).2.1 → FE S0 u → Q (some (-3)) u) :
    At G (d + 7) M_X5_order Q 81 [(0, rv G 190), (1, .int b), (2, .int K), (3, .int 1), (4, .int 0)] [] S := by
  have hdg := @t_X5_seesD G (d + 5) S P len i h
  have e9 := h.2.1
  cases e : dgt (sg P len i)
  · rw [e] at hdg
    have er : rB P len i c = (false, i, 0, 0) := by unfold rB; rw [e]; rfl
    rw [er] at hn
    refine r_iload_n dX5_order_81 3 rfl ?_
    refine r_if_eq dX5_order_82 (tgt := 123) (by decide) (fun h82 => ?_) (fun h82 => ?_)
    · --t
      exact absurd h82 (by decide)
    · --f
      refine r_aload_n dX5_order_85 0 rfl ?_
      refine r_bipush dX5_order_86 (v := 48) (by decide +kernel) ?_
      refine r_bipush dX5_order_88 (v := 57) (by decide +kernel) ?_
      refine r_callViF (As := [_, _]) c_X5_sees (by first | assumption | rfl) l_X5_134 rfl rfl rfl (Nat.le_of_ble_eq_true rfl) dX5_order_90 hdg ?_
      refine r_if_ne dX5_order_93 (tgt := 99) (by decide) (fun h93 => ?_) (fun h93 => ?_)
      · --t
        exact absurd rfl h93
      · --f
        refine r_bipush dX5_order_96 (v := -3) (by decide +kernel) ?_
        refine r_iret rfl dX5_order_98 ?_
        exact hn _ rfl h hF
  · rw [e] at hdg
    have hi := dgt_lt e
    have hl := h.l197 hi
    have es := h.sgn hi
    have h1 := h.1.at (m := i + 1) (x := S 190 9 + 1) (by rw [h.2.1, nI_1]) (by omega)
    rcases hc with ⟨rfl, hK⟩ | ⟨rfl, hK⟩
    ·
      refine r_iload_n dX5_order_81 3 rfl ?_
      refine r_if_eq dX5_order_82 (tgt := 123) (by decide) (fun h82 => ?_) (fun h82 => ?_)
      · --t
        exact absurd h82 (by decide)
      · --f
        refine r_aload_n dX5_order_85 0 rfl ?_
        refine r_bipush dX5_order_86 (v := 48) (by decide +kernel) ?_
        refine r_bipush dX5_order_88 (v := 57) (by decide +kernel) ?_
        refine r_callViF (As := [_, _]) c_X5_sees (by first | assumption | rfl) l_X5_134 rfl rfl rfl (Nat.le_of_ble_eq_true rfl) dX5_order_90 hdg ?_
        refine r_if_ne dX5_order_93 (tgt := 99) (by decide) (fun h93 => ?_) (fun h93 => ?_)
        · --t
          refine r_aload_n dX5_order_99 0 rfl ?_
          refine r_getR (b := 197) (by first | assumption | rfl) f_X5_29 rfl rfl dX5_order_100 rfl ?_
          refine r_aload_n dX5_order_103 0 rfl ?_
          refine r_getI (by first | assumption | rfl) f_X5_131 rfl rfl dX5_order_104 ?_
          refine r_iald (j := i) (by first | assumption | rfl) (by first | assumption | rfl) (by first | assumption | decide) dX5_order_107 ?_
          refine r_bipush dX5_order_108 (v := 48) (by decide +kernel) ?_
          refine r_isub dX5_order_110 ?_
          refine r_istore (lo2 := [(0, _), (1, _), (2, _), (3, _), (4, _)]) dX5_order_111 (Nat.le_of_ble_eq_true rfl) [1, 2, 3, 4, 0] rfl ?_
          refine r_aload_n dX5_order_113 0 rfl ?_
          refine r_dup dX5_order_114 rfl ?_
          refine r_getI (by first | assumption | rfl) f_X5_131 rfl rfl dX5_order_115 ?_
          refine r_iconst dX5_order_118 (v := 1) rfl ?_
          refine r_iadd dX5_order_119 ?_
          refine r_putI (by first | assumption | rfl) f_X5_131 rfl rfl rfl rfl dX5_order_120 ?_
          refine r_iload_n dX5_order_123 3 rfl ?_
          refine r_if_eq dX5_order_124 (tgt := 147) (by decide) (fun h124 => ?_) (fun h124 => ?_)
          · --t
            exact absurd h124 (by decide)
          · --f
            refine r_aload_n dX5_order_127 0 rfl ?_
            refine r_iload_n dX5_order_128 2 rfl ?_
            refine r_bipush dX5_order_129 (v := 115) (by decide +kernel) ?_
            refine r_icmp_ne dX5_order_131 (tgt := 139) (by decide) (fun h131 => ?_) (fun h131 => ?_)
            · --t
              refine r_bipush dX5_order_139 (v := 46) (by decide +kernel) ?_
              refine r_callVi (As := [_]) c_X5_behind (by first | assumption | rfl) l_X5_141 rfl rfl rfl (Nat.le_of_ble_eq_true rfl) dX5_order_141 (t_X5_behind (c := 46) (by decide) h1) (fun r141 u141 q141 => ?_)
              obtain ⟨hr, g1, f1⟩ := q141
              cases hr
              refine r_goto dX5_order_144 (tgt := 151) (by decide) ?_
              refine r_istore (lo2 := [(0, _), (1, _), (2, _), (3, _), (4, _), (5, _)]) dX5_order_151 (Nat.le_of_ble_eq_true rfl) [1, 2, 3, 4, 5, 0] rfl ?_
              rw [es]
              exact od_mid e ((hF.up).tr f1) g1 hx hn
            · --f
              exact absurd h131 hK
        · --f
          exact absurd h93 (by decide)
    ·
      refine r_iload_n dX5_order_81 3 rfl ?_
      refine r_if_eq dX5_order_82 (tgt := 123) (by decide) (fun h82 => ?_) (fun h82 => ?_)
      · --t
        exact absurd h82 (by decide)
      · --f
        refine r_aload_n dX5_order_85 0 rfl ?_
        refine r_bipush dX5_order_86 (v := 48) (by decide +kernel) ?_
        refine r_bipush dX5_order_88 (v := 57) (by decide +kernel) ?_
        refine r_callViF (As := [_, _]) c_X5_sees (by first | assumption | rfl) l_X5_134 rfl rfl rfl (Nat.le_of_ble_eq_true rfl) dX5_order_90 hdg ?_
        refine r_if_ne dX5_order_93 (tgt := 99) (by decide) (fun h93 => ?_) (fun h93 => ?_)
        · --t
          refine r_aload_n dX5_order_99 0 rfl ?_
          refine r_getR (b := 197) (by first | assumption | rfl) f_X5_29 rfl rfl dX5_order_100 rfl ?_
          refine r_aload_n dX5_order_103 0 rfl ?_
          refine r_getI (by first | assumption | rfl) f_X5_131 rfl rfl dX5_order_104 ?_
          refine r_iald (j := i) (by first | assumption | rfl) (by first | assumption | rfl) (by first | assumption | decide) dX5_order_107 ?_
          refine r_bipush dX5_order_108 (v := 48) (by decide +kernel) ?_
          refine r_isub dX5_order_110 ?_
          refine r_istore (lo2 := [(0, _), (1, _), (2, _), (3, _), (4, _)]) dX5_order_111 (Nat.le_of_ble_eq_true rfl) [1, 2, 3, 4, 0] rfl ?_
          refine r_aload_n dX5_order_113 0 rfl ?_
          refine r_dup dX5_order_114 rfl ?_
          refine r_getI (by first | assumption | rfl) f_X5_131 rfl rfl dX5_order_115 ?_
          refine r_iconst dX5_order_118 (v := 1) rfl ?_
          refine r_iadd dX5_order_119 ?_
          refine r_putI (by first | assumption | rfl) f_X5_131 rfl rfl rfl rfl dX5_order_120 ?_
          refine r_iload_n dX5_order_123 3 rfl ?_
          refine r_if_eq dX5_order_124 (tgt := 147) (by decide) (fun h124 => ?_) (fun h124 => ?_)
          · --t
            exact absurd h124 (by decide)
          · --f
            refine r_aload_n dX5_order_127 0 rfl ?_
            refine r_iload_n dX5_order_128 2 rfl ?_
            refine r_bipush dX5_order_129 (v := 115) (by decide +kernel) ?_
            refine r_icmp_ne dX5_order_131 (tgt := 139) (by decide) (fun h131 => ?_) (fun h131 => ?_)
            · --t
              exact absurd hK h131
            · --f
              refine r_bipush dX5_order_134 (v := 61) (by decide +kernel) ?_
              refine r_goto dX5_order_136 (tgt := 141) (by decide) ?_
              refine r_callVi (As := [_]) c_X5_behind (by first | assumption | rfl) l_X5_141 rfl rfl rfl (Nat.le_of_ble_eq_true rfl) dX5_order_141 (t_X5_behind (c := 61) (by decide) h1) (fun r141 u141 q141 => ?_)
              obtain ⟨hr, g1, f1⟩ := q141
              cases hr
              refine r_goto dX5_order_144 (tgt := 151) (by decide) ?_
              refine r_istore (lo2 := [(0, _), (1, _), (2, _), (3, _), (4, _), (5, _)]) dX5_order_151 (Nat.le_of_ble_eq_true rfl) [1, 2, 3, 4, 5, 0] rfl ?_
              rw [es]
              exact od_mid e ((hF.up).tr f1) g1 hx hn
        · --f
          exact absurd h93 (by decide)
theorem od_plain (h : PE S P len i) (hF : FE S0 S)
    (hx : ∀ u, (rN P len i).1 = true → PE u P len (rN P len i).2.1 → FE S0 u → At G (d + 7) M_X5_order Q 161 [(0, rv G 190), (1, .int b), (2, .int K), (4, .int 0), (5, .int (rN P len i).2.2)] [] u)
    (hn : ∀ u, (rN P len i).1 = false → PE u P len (rN P len i).2.1 → FE S0 u → Q (some (-3)) u) :
    At G (d + 7) M_X5_order Q 81 [(0, rv G 190), (1, .int b), (2, .int K), (3, .int 0), (4, .int 0)] [] S := by
  refine r_iload_n dX5_order_81 3 rfl ?_
  refine r_if_eq dX5_order_82 (tgt := 123) (by decide) (fun h82 => ?_) (fun h82 => ?_)
  · --t
    refine r_iload_n dX5_order_123 3 rfl ?_
    refine r_if_eq dX5_order_124 (tgt := 147) (by decide) (fun h124 => ?_) (fun h124 => ?_)
    · --t
      refine r_aload_n dX5_order_147 0 rfl ?_
      refine r_callVi (As := []) c_X5_number (by first | assumption | rfl) l_X5_137 rfl rfl rfl (Nat.le_of_ble_eq_true rfl) dX5_order_148 (t_X5_number h) (fun r148 u148 q148 => ?_)
      obtain ⟨hr, g1, f1⟩ := q148
      cases hr
      refine r_istore (lo2 := [(0, _), (1, _), (2, _), (3, _), (4, _), (5, _)]) dX5_order_151 (Nat.le_of_ble_eq_true rfl) [1, 2, 3, 4, 5, 0] rfl ?_
      cases e3 : (rN P len i).1
      · rw [if_neg (show ¬ false = true by decide)]
        exact od_153n (hn _ e3 g1 (hF.tr f1))
      · rw [if_pos rfl]
        exact od_153p (rN_nn e3) (hx _ e3 g1 (hF.tr f1))
    · --f
      exact absurd rfl h124
  · --f
    exact absurd rfl h82
/-- behind the number: no colour is told -/
theorem od_161 (hK : K ≠ 99) (hx : At G (d + 7) M_X5_order Q 226 [(0, rv G 190), (1, .int b), (2, .int K), (4, .int y), (5, .int z), (6, .int 0)] [] S) : At G (d + 7) M_X5_order Q 161 [(0, rv G 190), (1, .int b), (2, .int K), (4, .int y), (5, .int z)] [] S := by
  refine r_iconst dX5_order_161 (v := 0) rfl ?_
  refine r_istore (lo2 := [(0, _), (1, _), (2, _), (4, _), (5, _), (6, _)]) dX5_order_162 (Nat.le_of_ble_eq_true rfl) [1, 2, 3, 4, 5, 0] rfl ?_
  refine r_iload_n dX5_order_164 2 rfl ?_
  refine r_bipush dX5_order_165 (v := 99) (by decide +kernel) ?_
  refine r_icmp_ne dX5_order_167 (tgt := 226) (by decide) (fun h167 => ?_) (fun h167 => ?_)
  · --t
    exact r_sub [0, 1, 2, 3, 4, 5] rfl hx
  · --f
    exact absurd h167 hK
theorem od_161c (h : PE S P len i) (hF : FE S0 S) (hx : ∀ u, (sg P len i = 114 ∨ sg P len i = 98) → PE u P len (i + 1) → FE S0 u → At G (d + 7) M_X5_order Q 226 [(0, rv G 190), (1, .int b), (2, .int 99), (4, .int y), (5, .int z), (6, .int (if sg P len i = 98 then 1 else 0))] [] u)
    (hn : ¬ (sg P len i = 114 ∨ sg P len i = 98) → Q (some (-3)) S) : At G (d + 7) M_X5_order Q 161 [(0, rv G 190), (1, .int b), (2, .int 99), (4, .int y), (5, .int z)] [] S := by
  have e9 := h.2.1
  have s98 := @t_X5_seesC G (d + 5) S P len i 98 (by decide) h
  have s114 := @t_X5_seesC G (d + 5) S P len i 114 (by decide) h
  by_cases e1 : sg P len i = 98
  · have hi : i < len := sg_lt (by rw [e1]; decide)
    have hl := h.l197 hi
    have es := h.sgn hi
    rw [if_pos e1] at hx
    rw [decide_eq_true e1] at s98
    refine r_iconst dX5_order_161 (v := 0) rfl ?_
    refine r_istore (lo2 := [(0, _), (1, _), (2, _), (4, _), (5, _), (6, _)]) dX5_order_162 (Nat.le_of_ble_eq_true rfl) [1, 2, 3, 4, 5, 0] rfl ?_
    refine r_iload_n dX5_order_164 2 rfl ?_
    refine r_bipush dX5_order_165 (v := 99) (by decide +kernel) ?_
    refine r_icmp_ne dX5_order_167 (tgt := 226) (by decide) (fun h167 => ?_) (fun h167 => ?_)
    · --t
      exact absurd rfl h167
    · --f
      refine r_aload_n dX5_order_170 0 rfl ?_
      refine r_bipush dX5_order_171 (v := 98) (by decide +kernel) ?_
      refine r_bipush dX5_order_173 (v := 98) (by decide +kernel) ?_
      refine r_callViF (As := [_, _]) c_X5_sees (by first | assumption | rfl) l_X5_134 rfl rfl rfl (Nat.le_of_ble_eq_true rfl) dX5_order_175 s98 ?_
      refine r_if_ne dX5_order_178 (tgt := 195) (by decide) (fun h178 => ?_) (fun h178 => ?_)
      · --t
        refine r_aload_n dX5_order_195 0 rfl ?_
        refine r_getR (b := 197) (by first | assumption | rfl) f_X5_29 rfl rfl dX5_order_196 rfl ?_
        refine r_aload_n dX5_order_199 0 rfl ?_
        refine r_getI (by first | assumption | rfl) f_X5_131 rfl rfl dX5_order_200 ?_
        refine r_iald (j := i) (by first | assumption | rfl) (by first | assumption | rfl) (by first | assumption | decide) dX5_order_203 ?_
        refine r_bipush dX5_order_204 (v := 98) (by decide +kernel) ?_
        refine r_icmp_ne dX5_order_206 (tgt := 213) (by decide) (fun h206 => ?_) (fun h206 => ?_)
        · --t
          exact absurd (es.trans e1) h206
        · --f
          refine r_iconst dX5_order_209 (v := 1) rfl ?_
          refine r_goto dX5_order_210 (tgt := 214) (by decide) ?_
          refine r_istore (lo2 := [(0, _), (1, _), (2, _), (4, _), (5, _), (6, _)]) dX5_order_214 (Nat.le_of_ble_eq_true rfl) [1, 2, 3, 4, 5, 0] rfl ?_
          refine r_aload_n dX5_order_216 0 rfl ?_
          refine r_dup dX5_order_217 rfl ?_
          refine r_getI (by first | assumption | rfl) f_X5_131 rfl rfl dX5_order_218 ?_
          refine r_iconst dX5_order_221 (v := 1) rfl ?_
          refine r_iadd dX5_order_222 ?_
          refine r_putI (by first | assumption | rfl) f_X5_131 rfl rfl rfl rfl dX5_order_223 ?_
          exact hx _ (Or.inr e1) (h.1.at (m := i + 1) (by rw [h.2.1, nI_1]) (by omega)) hF.up
      · --f
        exact absurd h178 (by decide)
  · rw [if_neg e1] at hx
    rw [decide_eq_false e1] at s98
    by_cases e2 : sg P len i = 114
    · have hi : i < len := sg_lt (by rw [e2]; decide)
      have hl := h.l197 hi
      have es := h.sgn hi
      rw [decide_eq_true e2] at s114
      refine r_iconst dX5_order_161 (v := 0) rfl ?_
      refine r_istore (lo2 := [(0, _), (1, _), (2, _), (4, _), (5, _), (6, _)]) dX5_order_162 (Nat.le_of_ble_eq_true rfl) [1, 2, 3, 4, 5, 0] rfl ?_
      refine r_iload_n dX5_order_164 2 rfl ?_
      refine r_bipush dX5_order_165 (v := 99) (by decide +kernel) ?_
      refine r_icmp_ne dX5_order_167 (tgt := 226) (by decide) (fun h167 => ?_) (fun h167 => ?_)
      · --t
        exact absurd rfl h167
      · --f
        refine r_aload_n dX5_order_170 0 rfl ?_
        refine r_bipush dX5_order_171 (v := 98) (by decide +kernel) ?_
        refine r_bipush dX5_order_173 (v := 98) (by decide +kernel) ?_
        refine r_callViF (As := [_, _]) c_X5_sees (by first | assumption | rfl) l_X5_134 rfl rfl rfl (Nat.le_of_ble_eq_true rfl) dX5_order_175 s98 ?_
        refine r_if_ne dX5_order_178 (tgt := 195) (by decide) (fun h178 => ?_) (fun h178 => ?_)
        · --t
          exact absurd rfl h178
        · --f
          refine r_aload_n dX5_order_181 0 rfl ?_
          refine r_bipush dX5_order_182 (v := 114) (by decide +kernel) ?_
          refine r_bipush dX5_order_184 (v := 114) (by decide +kernel) ?_
          refine r_callViF (As := [_, _]) c_X5_sees (by first | assumption | rfl) l_X5_134 rfl rfl rfl (Nat.le_of_ble_eq_true rfl) dX5_order_186 s114 ?_
          refine r_if_ne dX5_order_189 (tgt := 195) (by decide) (fun h189 => ?_) (fun h189 => ?_)
          · --t
            refine r_aload_n dX5_order_195 0 rfl ?_
            refine r_getR (b := 197) (by first | assumption | rfl) f_X5_29 rfl rfl dX5_order_196 rfl ?_
            refine r_aload_n dX5_order_199 0 rfl ?_
            refine r_getI (by first | assumption | rfl) f_X5_131 rfl rfl dX5_order_200 ?_
            refine r_iald (j := i) (by first | assumption | rfl) (by first | assumption | rfl) (by first | assumption | decide) dX5_order_203 ?_
            refine r_bipush dX5_order_204 (v := 98) (by decide +kernel) ?_
            refine r_icmp_ne dX5_order_206 (tgt := 213) (by decide) (fun h206 => ?_) (fun h206 => ?_)
            · --t
              refine r_iconst dX5_order_213 (v := 0) rfl ?_
              refine r_istore (lo2 := [(0, _), (1, _), (2, _), (4, _), (5, _), (6, _)]) dX5_order_214 (Nat.le_of_ble_eq_true rfl) [1, 2, 3, 4, 5, 0] rfl ?_
              refine r_aload_n dX5_order_216 0 rfl ?_
              refine r_dup dX5_order_217 rfl ?_
              refine r_getI (by first | assumption | rfl) f_X5_131 rfl rfl dX5_order_218 ?_
              refine r_iconst dX5_order_221 (v := 1) rfl ?_
              refine r_iadd dX5_order_222 ?_
              refine r_putI (by first | assumption | rfl) f_X5_131 rfl rfl rfl rfl dX5_order_223 ?_
              exact hx _ (Or.inl e2) (h.1.at (m := i + 1) (by rw [h.2.1, nI_1]) (by omega)) hF.up
            · --f
              exact absurd (es.symm.trans h206) e1
          · --f
            exact absurd h189 (by decide)
    · rw [decide_eq_false e2] at s114
      refine r_iconst dX5_order_161 (v := 0) rfl ?_
      refine r_istore (lo2 := [(0, _), (1, _), (2, _), (4, _), (5, _), (6, _)]) dX5_order_162 (Nat.le_of_ble_eq_true rfl) [1, 2, 3, 4, 5, 0] rfl ?_
      refine r_iload_n dX5_order_164 2 rfl ?_
      refine r_bipush dX5_order_165 (v := 99) (by decide +kernel) ?_
      refine r_icmp_ne dX5_order_167 (tgt := 226) (by decide) (fun h167 => ?_) (fun h167 => ?_)
      · --t
        exact absurd rfl h167
      · --f
        refine r_aload_n dX5_order_170 0 rfl ?_
        refine r_bipush dX5_order_171 (v := 98) (by decide +kernel) ?_
        refine r_bipush dX5_order_173 (v := 98) (by decide +kernel) ?_
        refine r_callViF (As := [_, _]) c_X5_sees (by first | assumption | rfl) l_X5_134 rfl rfl rfl (Nat.le_of_ble_eq_true rfl) dX5_order_175 s98 ?_
        refine r_if_ne dX5_order_178 (tgt := 195) (by decide) (fun h178 => ?_) (fun h178 => ?_)
        · --t
          exact absurd rfl h178
        · --f
          refine r_aload_n dX5_order_181 0 rfl ?_
          refine r_bipush dX5_order_182 (v := 114) (by decide +kernel) ?_
          refine r_bipush dX5_order_184 (v := 114) (by decide +kernel) ?_
          refine r_callViF (As := [_, _]) c_X5_sees (by first | assumption | rfl) l_X5_134 rfl rfl rfl (Nat.le_of_ble_eq_true rfl) dX5_order_186 s114 ?_
          refine r_if_ne dX5_order_189 (tgt := 195) (by decide) (fun h189 => ?_) (fun h189 => ?_)
          · --t
            exact absurd rfl h189
          · --f
            refine r_bipush dX5_order_192 (v := -3) (by decide +kernel) ?_
            refine r_iret rfl dX5_order_194 ?_
            exact hn (fun w => w.elim e2 e1)
theorem od_read (h : PE S P len i) 
    (hx : ∀ u, (rO P len i).1 = true → PE u P len (rO P len i).2.1 → FE S u → At G (d + 7) M_X5_order Q 226 [(0, rv G 190), (1, .int b), (2, .int (rO P len i).2.2.1), (4, .int (rO P len i).2.2.2.1), (5, .int (rO P len i).2.2.2.2.1), (6, .int (rO P len i).2.2.2.2.2)] [] u)
    (hn : ∀ u, (rO P len i).1 = false → PE u P len (rO P len i).2.1 → FE S u → Q (some (-3)) u) :
    At G (d + 7) M_X5_order Q 0 [(0, rv G 190), (1, .int b)] [] S := by
  have key : At G (d + 7) M_X5_order Q 25 [(0, rv G 190), (1, .int b), (2, .int (sg P len i))] [] S := by
    have h1 : sg P len i ≠ 0 → PE (up1 S 190 (upd (S 190) 9 (S 190 9 + 1))) P len (i + 1) := fun e => by have := sg_lt e; exact h.1.at (m := i + 1) (by rw [h.2.1, nI_1]) (by omega)
    have hF : FE S (up1 S 190 (upd (S 190) 9 (S 190 9 + 1))) := FE.rf.up
    by_cases k1 : sg P len i = 110
    · have er : rO P len i = ((rN P len (i + 1)).1, (rN P len (i + 1)).2.1, 110, 0, (rN P len (i + 1)).2.2, 0) := by unfold rO; rw [if_pos (Or.inl k1), k1]
      rw [er] at hx hn
      have h2 := h1 (by rw [k1]; decide)
      rw [k1]
      refine r_iload_n dX5_order_25 2 rfl ?_
      refine r_bipush dX5_order_26 (v := 99) (by decide +kernel) ?_
      refine r_icmp_eq dX5_order_28 (tgt := 43) (by decide) (fun h28 => ?_) (fun h28 => ?_)
      · --t
        exact absurd h28 (by decide)
      · --f
        refine r_iload_n dX5_order_31 2 rfl ?_
        refine r_bipush dX5_order_32 (v := 108) (by decide +kernel) ?_
        refine r_icmp_eq dX5_order_34 (tgt := 43) (by decide) (fun h34 => ?_) (fun h34 => ?_)
        · --t
          exact absurd h34 (by decide)
        · --f
          refine r_iload_n dX5_order_37 2 rfl ?_
          refine r_bipush dX5_order_38 (v := 115) (by decide +kernel) ?_
          refine r_icmp_ne dX5_order_40 (tgt := 47) (by decide) (fun h40 => ?_) (fun h40 => ?_)
          · --t
            refine r_iconst dX5_order_47 (v := 0) rfl ?_
            refine r_istore_n (lo2 := [(0, _), (1, _), (2, _), (3, _)]) dX5_order_48 rfl (Nat.le_of_ble_eq_true rfl) [1, 2, 3, 0] rfl ?_
            refine r_iload_n dX5_order_49 3 rfl ?_
            refine r_if_ne dX5_order_50 (tgt := 68) (by decide) (fun h50 => ?_) (fun h50 => ?_)
            · --t
              exact absurd rfl h50
            · --f
              refine r_iload_n dX5_order_53 2 rfl ?_
              refine r_bipush dX5_order_54 (v := 110) (by decide +kernel) ?_
              refine r_icmp_eq dX5_order_56 (tgt := 68) (by decide) (fun h56 => ?_) (fun h56 => ?_)
              · --t
                refine r_aload_n dX5_order_68 0 rfl ?_
                refine r_dup dX5_order_69 rfl ?_
                refine r_getI (by first | assumption | rfl) f_X5_131 rfl rfl dX5_order_70 ?_
                refine r_iconst dX5_order_73 (v := 1) rfl ?_
                refine r_iadd dX5_order_74 ?_
                refine r_putI (by first | assumption | rfl) f_X5_131 rfl rfl rfl rfl dX5_order_75 ?_
                refine r_iconst dX5_order_78 (v := 0) rfl ?_
                refine r_istore (lo2 := [(0, _), (1, _), (2, _), (3, _), (4, _)]) dX5_order_79 (Nat.le_of_ble_eq_true rfl) [1, 2, 3, 4, 0] rfl ?_
                exact od_plain h2 hF (fun u a1 a2 a3 => od_161 (by decide) (hx u a1 a2 a3)) hn
              · --f
                exact absurd rfl h56
          · --f
            exact absurd h40 (by decide)
    · by_cases k2 : sg P len i = 116
      · have er : rO P len i = ((rN P len (i + 1)).1, (rN P len (i + 1)).2.1, 116, 0, (rN P len (i + 1)).2.2, 0) := by unfold rO; rw [if_pos (Or.inr k2), k2]
        rw [er] at hx hn
        have h2 := h1 (by rw [k2]; decide)
        rw [k2]
        refine r_iload_n dX5_order_25 2 rfl ?_
        refine r_bipush dX5_order_26 (v := 99) (by decide +kernel) ?_
        refine r_icmp_eq dX5_order_28 (tgt := 43) (by decide) (fun h28 => ?_) (fun h28 => ?_)
        · --t
          exact absurd h28 (by decide)
        · --f
          refine r_iload_n dX5_order_31 2 rfl ?_
          refine r_bipush dX5_order_32 (v := 108) (by decide +kernel) ?_
          refine r_icmp_eq dX5_order_34 (tgt := 43) (by decide) (fun h34 => ?_) (fun h34 => ?_)
          · --t
            exact absurd h34 (by decide)
          · --f
            refine r_iload_n dX5_order_37 2 rfl ?_
            refine r_bipush dX5_order_38 (v := 115) (by decide +kernel) ?_
            refine r_icmp_ne dX5_order_40 (tgt := 47) (by decide) (fun h40 => ?_) (fun h40 => ?_)
            · --t
              refine r_iconst dX5_order_47 (v := 0) rfl ?_
              refine r_istore_n (lo2 := [(0, _), (1, _), (2, _), (3, _)]) dX5_order_48 rfl (Nat.le_of_ble_eq_true rfl) [1, 2, 3, 0] rfl ?_
              refine r_iload_n dX5_order_49 3 rfl ?_
              refine r_if_ne dX5_order_50 (tgt := 68) (by decide) (fun h50 => ?_) (fun h50 => ?_)
              · --t
                exact absurd rfl h50
              · --f
                refine r_iload_n dX5_order_53 2 rfl ?_
                refine r_bipush dX5_order_54 (v := 110) (by decide +kernel) ?_
                refine r_icmp_eq dX5_order_56 (tgt := 68) (by decide) (fun h56 => ?_) (fun h56 => ?_)
                · --t
                  exact absurd h56 (by decide)
                · --f
                  refine r_iload_n dX5_order_59 2 rfl ?_
                  refine r_bipush dX5_order_60 (v := 116) (by decide +kernel) ?_
                  refine r_icmp_eq dX5_order_62 (tgt := 68) (by decide) (fun h62 => ?_) (fun h62 => ?_)
                  · --t
                    refine r_aload_n dX5_order_68 0 rfl ?_
                    refine r_dup dX5_order_69 rfl ?_
                    refine r_getI (by first | assumption | rfl) f_X5_131 rfl rfl dX5_order_70 ?_
                    refine r_iconst dX5_order_73 (v := 1) rfl ?_
                    refine r_iadd dX5_order_74 ?_
                    refine r_putI (by first | assumption | rfl) f_X5_131 rfl rfl rfl rfl dX5_order_75 ?_
                    refine r_iconst dX5_order_78 (v := 0) rfl ?_
                    refine r_istore (lo2 := [(0, _), (1, _), (2, _), (3, _), (4, _)]) dX5_order_79 (Nat.le_of_ble_eq_true rfl) [1, 2, 3, 4, 0] rfl ?_
                    exact od_plain h2 hF (fun u a1 a2 a3 => od_161 (by decide) (hx u a1 a2 a3)) hn
                  · --f
                    exact absurd rfl h62
            · --f
              exact absurd h40 (by decide)
      · have n12 : ¬ (sg P len i = 110 ∨ sg P len i = 116) := fun w => w.elim k1 k2
        by_cases k3 : sg P len i = 99
        · have h2 := h1 (by rw [k3]; decide)
          have er0 : ∀ x : Bool, (rB P len (i + 1) 46).1 = x → rO P len i = (if x = true then (if sg P len (rB P len (i + 1) 46).2.1 = 114 ∨ sg P len (rB P len (i + 1) 46).2.1 = 98
              then (true, (rB P len (i + 1) 46).2.1 + 1, 99, (rB P len (i + 1) 46).2.2.1, (rB P len (i + 1) 46).2.2.2, if sg P len (rB P len (i + 1) 46).2.1 = 98 then 1 else 0)
              else (false, (rB P len (i + 1) 46).2.1, 0, 0, 0, 0)) else (false, (rB P len (i + 1) 46).2.1, 0, 0, 0, 0)) := fun x hx => by unfold rO; rw [if_neg n12, if_pos k3, hx]
          rw [k3]
          refine r_iload_n dX5_order_25 2 rfl ?_
          refine r_bipush dX5_order_26 (v := 99) (by decide +kernel) ?_
          refine r_icmp_eq dX5_order_28 (tgt := 43) (by decide) (fun h28 => ?_) (fun h28 => ?_)
          · --t
            refine r_iconst dX5_order_43 (v := 1) rfl ?_
            refine r_goto dX5_order_44 (tgt := 48) (by decide) ?_
            refine r_istore_n (lo2 := [(0, _), (1, _), (2, _), (3, _)]) dX5_order_48 rfl (Nat.le_of_ble_eq_true rfl) [1, 2, 3, 0] rfl ?_
            refine r_iload_n dX5_order_49 3 rfl ?_
            refine r_if_ne dX5_order_50 (tgt := 68) (by decide) (fun h50 => ?_) (fun h50 => ?_)
            · --t
              refine r_aload_n dX5_order_68 0 rfl ?_
              refine r_dup dX5_order_69 rfl ?_
              refine r_getI (by first | assumption | rfl) f_X5_131 rfl rfl dX5_order_70 ?_
              refine r_iconst dX5_order_73 (v := 1) rfl ?_
              refine r_iadd dX5_order_74 ?_
              refine r_putI (by first | assumption | rfl) f_X5_131 rfl rfl rfl rfl dX5_order_75 ?_
              refine r_iconst dX5_order_78 (v := 0) rfl ?_
              refine r_istore (lo2 := [(0, _), (1, _), (2, _), (3, _), (4, _)]) dX5_order_79 (Nat.le_of_ble_eq_true rfl) [1, 2, 3, 4, 0] rfl ?_
              refine od_told (c := 46) (Or.inl ⟨rfl, by decide⟩) h2 hF (fun u a1 a2 a3 => ?_) (fun u a1 a2 a3 => ?_)
              · have er := er0 _ a1
                rw [if_pos rfl] at er
                refine od_161c a2 a3 (fun w b1 b2 b3 => ?_) (fun b1 => ?_)
                · rw [if_pos b1] at er
                  rw [er] at hx
                  exact hx w rfl b2 b3
                · rw [if_neg b1] at er
                  rw [er] at hn
                  exact hn u rfl a2 a3
              · have er := er0 _ a1
                rw [if_neg (by decide)] at er
                rw [er] at hn
                exact hn u rfl a2 a3
            · --f
              exact absurd h50 (by decide)
          · --f
            exact absurd rfl h28
        · by_cases k4 : sg P len i = 108
          · have h2 := h1 (by rw [k4]; decide)
            have er : rO P len i = ((rB P len (i + 1) 46).1, (rB P len (i + 1) 46).2.1, 108, (rB P len (i + 1) 46).2.2.1, (rB P len (i + 1) 46).2.2.2, 0) := by unfold rO; rw [if_neg n12, if_neg k3, if_pos k4]
            rw [er] at hx hn
            rw [k4]
            refine r_iload_n dX5_order_25 2 rfl ?_
            refine r_bipush dX5_order_26 (v := 99) (by decide +kernel) ?_
            refine r_icmp_eq dX5_order_28 (tgt := 43) (by decide) (fun h28 => ?_) (fun h28 => ?_)
            · --t
              exact absurd h28 (by decide)
            · --f
              refine r_iload_n dX5_order_31 2 rfl ?_
              refine r_bipush dX5_order_32 (v := 108) (by decide +kernel) ?_
              refine r_icmp_eq dX5_order_34 (tgt := 43) (by decide) (fun h34 => ?_) (fun h34 => ?_)
              · --t
                refine r_iconst dX5_order_43 (v := 1) rfl ?_
                refine r_goto dX5_order_44 (tgt := 48) (by decide) ?_
                refine r_istore_n (lo2 := [(0, _), (1, _), (2, _), (3, _)]) dX5_order_48 rfl (Nat.le_of_ble_eq_true rfl) [1, 2, 3, 0] rfl ?_
                refine r_iload_n dX5_order_49 3 rfl ?_
                refine r_if_ne dX5_order_50 (tgt := 68) (by decide) (fun h50 => ?_) (fun h50 => ?_)
                · --t
                  refine r_aload_n dX5_order_68 0 rfl ?_
                  refine r_dup dX5_order_69 rfl ?_
                  refine r_getI (by first | assumption | rfl) f_X5_131 rfl rfl dX5_order_70 ?_
                  refine r_iconst dX5_order_73 (v := 1) rfl ?_
                  refine r_iadd dX5_order_74 ?_
                  refine r_putI (by first | assumption | rfl) f_X5_131 rfl rfl rfl rfl dX5_order_75 ?_
                  refine r_iconst dX5_order_78 (v := 0) rfl ?_
                  refine r_istore (lo2 := [(0, _), (1, _), (2, _), (3, _), (4, _)]) dX5_order_79 (Nat.le_of_ble_eq_true rfl) [1, 2, 3, 4, 0] rfl ?_
                  exact od_told (c := 46) (Or.inl ⟨rfl, by decide⟩) h2 hF (fun u a1 a2 a3 => od_161 (by decide) (hx u a1 a2 a3)) hn
                · --f
                  exact absurd h50 (by decide)
              · --f
                exact absurd rfl h34
          · by_cases k5 : sg P len i = 115
            · have h2 := h1 (by rw [k5]; decide)
              have er : rO P len i = ((rB P len (i + 1) 61).1, (rB P len (i + 1) 61).2.1, 115, (rB P len (i + 1) 61).2.2.1, (rB P len (i + 1) 61).2.2.2, 0) := by unfold rO; rw [if_neg n12, if_neg k3, if_neg k4, if_pos k5]
              rw [er] at hx hn
              rw [k5]
              refine r_iload_n dX5_order_25 2 rfl ?_
              refine r_bipush dX5_order_26 (v := 99) (by decide +kernel) ?_
              refine r_icmp_eq dX5_order_28 (tgt := 43) (by decide) (fun h28 => ?_) (fun h28 => ?_)
              · --t
                exact absurd h28 (by decide)
              · --f
                refine r_iload_n dX5_order_31 2 rfl ?_
                refine r_bipush dX5_order_32 (v := 108) (by decide +kernel) ?_
                refine r_icmp_eq dX5_order_34 (tgt := 43) (by decide) (fun h34 => ?_) (fun h34 => ?_)
                · --t
                  exact absurd h34 (by decide)
                · --f
                  refine r_iload_n dX5_order_37 2 rfl ?_
                  refine r_bipush dX5_order_38 (v := 115) (by decide +kernel) ?_
                  refine r_icmp_ne dX5_order_40 (tgt := 47) (by decide) (fun h40 => ?_) (fun h40 => ?_)
                  · --t
                    exact absurd rfl h40
                  · --f
                    refine r_iconst dX5_order_43 (v := 1) rfl ?_
                    refine r_goto dX5_order_44 (tgt := 48) (by decide) ?_
                    refine r_istore_n (lo2 := [(0, _), (1, _), (2, _), (3, _)]) dX5_order_48 rfl (Nat.le_of_ble_eq_true rfl) [1, 2, 3, 0] rfl ?_
                    refine r_iload_n dX5_order_49 3 rfl ?_
                    refine r_if_ne dX5_order_50 (tgt := 68) (by decide) (fun h50 => ?_) (fun h50 => ?_)
                    · --t
                      refine r_aload_n dX5_order_68 0 rfl ?_
                      refine r_dup dX5_order_69 rfl ?_
                      refine r_getI (by first | assumption | rfl) f_X5_131 rfl rfl dX5_order_70 ?_
                      refine r_iconst dX5_order_73 (v := 1) rfl ?_
                      refine r_iadd dX5_order_74 ?_
                      refine r_putI (by first | assumption | rfl) f_X5_131 rfl rfl rfl rfl dX5_order_75 ?_
                      refine r_iconst dX5_order_78 (v := 0) rfl ?_
                      refine r_istore (lo2 := [(0, _), (1, _), (2, _), (3, _), (4, _)]) dX5_order_79 (Nat.le_of_ble_eq_true rfl) [1, 2, 3, 4, 0] rfl ?_
                      exact od_told (c := 61) (Or.inr ⟨rfl, rfl⟩) h2 hF (fun u a1 a2 a3 => od_161 (by decide) (hx u a1 a2 a3)) hn
                    · --f
                      exact absurd h50 (by decide)
            · have er : rO P len i = (false, i, 0, 0, 0, 0) := by unfold rO; rw [if_neg n12, if_neg k3, if_neg k4, if_neg k5]
              rw [er] at hn
              refine r_iload_n dX5_order_25 2 rfl ?_
              refine r_bipush dX5_order_26 (v := 99) (by decide +kernel) ?_
              refine r_icmp_eq dX5_order_28 (tgt := 43) (by decide) (fun h28 => ?_) (fun h28 => ?_)
              · --t
                exact absurd h28 k3
              · --f
                refine r_iload_n dX5_order_31 2 rfl ?_
                refine r_bipush dX5_order_32 (v := 108) (by decide +kernel) ?_
                refine r_icmp_eq dX5_order_34 (tgt := 43) (by decide) (fun h34 => ?_) (fun h34 => ?_)
                · --t
                  exact absurd h34 k4
                · --f
                  refine r_iload_n dX5_order_37 2 rfl ?_
                  refine r_bipush dX5_order_38 (v := 115) (by decide +kernel) ?_
                  refine r_icmp_ne dX5_order_40 (tgt := 47) (by decide) (fun h40 => ?_) (fun h40 => ?_)
                  · --t
                    refine r_iconst dX5_order_47 (v := 0) rfl ?_
                    refine r_istore_n (lo2 := [(0, _), (1, _), (2, _), (3, _)]) dX5_order_48 rfl (Nat.le_of_ble_eq_true rfl) [1, 2, 3, 0] rfl ?_
                    refine r_iload_n dX5_order_49 3 rfl ?_
                    refine r_if_ne dX5_order_50 (tgt := 68) (by decide) (fun h50 => ?_) (fun h50 => ?_)
                    · --t
                      exact absurd rfl h50
                    · --f
                      refine r_iload_n dX5_order_53 2 rfl ?_
                      refine r_bipush dX5_order_54 (v := 110) (by decide +kernel) ?_
                      refine r_icmp_eq dX5_order_56 (tgt := 68) (by decide) (fun h56 => ?_) (fun h56 => ?_)
                      · --t
                        exact absurd h56 k1
                      · --f
                        refine r_iload_n dX5_order_59 2 rfl ?_
                        refine r_bipush dX5_order_60 (v := 116) (by decide +kernel) ?_
                        refine r_icmp_eq dX5_order_62 (tgt := 68) (by decide) (fun h62 => ?_) (fun h62 => ?_)
                        · --t
                          exact absurd h62 k2
                        · --f
                          refine r_bipush dX5_order_65 (v := -3) (by decide +kernel) ?_
                          refine r_iret rfl dX5_order_67 ?_
                          exact hn _ rfl h FE.rf
                  · --f
                    exact absurd h40 k5
  have hl80 := h.1.1.2
  have hil := h.2.2
  have e9 := h.2.1
  have e8 := h.1.1.1
  by_cases hi : i < len
  · have hl : i < ln 197 := h.l197 hi
    have es := h.sgn hi
    refine r_aload_n dX5_order_0 0 rfl ?_
    refine r_getI (by first | assumption | rfl) f_X5_131 rfl rfl dX5_order_1 ?_
    refine r_aload_n dX5_order_4 0 rfl ?_
    refine r_getI (by first | assumption | rfl) f_X5_120 rfl rfl dX5_order_5 ?_
    refine r_icmp_ge dX5_order_8 (tgt := 23) (by decide) (fun h8 => ?_) (fun h8 => ?_)
    · --t
      rw [e9, e8] at h8
      exact absurd h8 (nI_ge hi (by omega))
    · --f
      refine r_aload_n dX5_order_11 0 rfl ?_
      refine r_getR (b := 197) (by first | assumption | rfl) f_X5_29 rfl rfl dX5_order_12 rfl ?_
      refine r_aload_n dX5_order_15 0 rfl ?_
      refine r_getI (by first | assumption | rfl) f_X5_131 rfl rfl dX5_order_16 ?_
      refine r_iald (j := i) (by first | assumption | rfl) (by first | assumption | rfl) (by first | assumption | decide) dX5_order_19 ?_
      refine r_goto dX5_order_20 (tgt := 24) (by decide) ?_
      refine r_istore_n (lo2 := [(0, _), (1, _), (2, _)]) dX5_order_24 rfl (Nat.le_of_ble_eq_true rfl) [1, 2, 0] rfl ?_
      rw [es]
      exact key
  · have es : sg P len i = 0 := by unfold sg; rw [if_neg hi]
    rw [es] at key
    refine r_aload_n dX5_order_0 0 rfl ?_
    refine r_getI (by first | assumption | rfl) f_X5_131 rfl rfl dX5_order_1 ?_
    refine r_aload_n dX5_order_4 0 rfl ?_
    refine r_getI (by first | assumption | rfl) f_X5_120 rfl rfl dX5_order_5 ?_
    refine r_icmp_ge dX5_order_8 (tgt := 23) (by decide) (fun h8 => ?_) (fun h8 => ?_)
    · --t
      refine r_iconst dX5_order_23 (v := 0) rfl ?_
      refine r_istore_n (lo2 := [(0, _), (1, _), (2, _)]) dX5_order_24 rfl (Nat.le_of_ble_eq_true rfl) [1, 2, 0] rfl ?_
      exact key
    · --f
      rw [e9, e8] at h8
      exact absurd (nI_le (Nat.not_lt.mp hi) (by omega)) h8
theorem t_X5_order0 (h : PE S P len i) : Call G (d + 7) M_X5_order [rv G 190, .int 0] S (fun v u => v = some (if (rO P len i).1 = true then 0 else -3) ∧ PE u P len (rO P len i).2.1 ∧ FE S u) := by
  refine call_of (lo := [(0, rv G 190), (1, .int 0)]) (by decide +kernel) (Nat.le_of_ble_eq_true rfl) rfl ?_
  refine od_read h (fun u a1 a2 a3 => ?_) (fun u a1 a2 a3 => ?_)
  ·
    refine r_iload_n dX5_order_226 1 rfl ?_
    refine r_if_ne dX5_order_227 (tgt := 232) (by decide) (fun h227 => ?_) (fun h227 => ?_)
    · --t
      exact absurd rfl h227
    · --f
      refine r_iconst dX5_order_230 (v := 0) rfl ?_
      refine r_iret rfl dX5_order_231 ?_
      exact ⟨by rw [a1, if_pos rfl], a2, a3⟩
  · exact ⟨by rw [a1, if_neg (by decide)], a2, a3⟩
/-- what an order that is carried out may change -/
def FG (S u : mS) : Prop := (∀ b, b ≠ 190 → b ≠ 191 → u b = S b) ∧ ∀ k, k ≠ 9 → u 190 k = S 190 k
theorem FG.rf {S : mS} : FG S S := ⟨fun _ _ _ => rfl, fun _ _ => rfl⟩
theorem FG.tr {S u w : mS} (h : FG S u) (g : FG u w) : FG S w := ⟨fun b b1 b2 => (g.1 b b1 b2).trans (h.1 b b1 b2), fun k hk => (g.2 k hk).trans (h.2 k hk)⟩
theorem FE.fl {S u : mS} (h : FE S u) : FG S u := ⟨fun b b1 _ => h.1 b b1, h.2⟩
theorem F1.fl {S u : mS} (h : F1 S u) : FG S u := ⟨fun b _ b2 => h b b2, fun k _ => by rw [h 190 (by omega)]⟩
theorem PM.fl {S u : mS} (h : PM S P len) (g : FG S u) : PM u P len := ⟨⟨(g.2 8 (by omega)).trans h.1.1, h.1.2⟩, fun j hj => by rw [g.1 197 (by omega) (by omega)]; exact h.2 j hj⟩
theorem PE.f1 {S u : mS} (h : PE S P len i) (g : F1 S u) : PE u P len i := ⟨h.1.fl g.fl, by rw [g 190 (by omega)]; exact h.2.1, h.2.2⟩
theorem t_X5_order1 {N : mN} (hO : (rO P len i).1 = true) (hW : WN N) (hR : RP (S 191) N) (h : PE S P len i) : Call G (d + 7) M_X5_order [rv G 190, .int 1] S (fun v u => v = some (exR N (rO P len i)).1 ∧ RP (u 191) (exR N (rO P len i)).2 ∧ PE u P len (rO P len i).2.1 ∧ FG S u) := by
  refine call_of (lo := [(0, rv G 190), (1, .int 1)]) (by decide +kernel) (Nat.le_of_ble_eq_true rfl) rfl ?_
  refine od_read h (fun u a1 a2 a3 => ?_) (fun u a1 a2 a3 => absurd (a1.symm.trans hO) (by decide))
  have hRu : RP (u 191) N := by rw [a3.1 191 (by omega)]; exact hR
  have hk := rO_kind hO
  unfold exR exO
  revert hk a2
  generalize (rO P len i).2.2.1 = K
  generalize (rO P len i).2.2.2.1 = t
  generalize (rO P len i).2.2.2.2.1 = n
  generalize (rO P len i).2.2.2.2.2 = c
  generalize (rO P len i).2.1 = j
  intro a2 hk
  refine r_iload_n dX5_order_226 1 rfl ?_
  refine r_if_ne dX5_order_227 (tgt := 232) (by decide) (fun h227 => ?_) (fun h227 => ?_)
  · --t
    refine r_iload_n dX5_order_232 2 rfl ?_
    refine r_bipush dX5_order_233 (v := 110) (by decide +kernel) ?_
    refine r_icmp_ne dX5_order_235 (tgt := 247) (by decide) (fun h235 => ?_) (fun h235 => ?_)
    · --t
      refine r_iload_n dX5_order_247 2 rfl ?_
      refine r_bipush dX5_order_248 (v := 99) (by decide +kernel) ?_
      refine r_icmp_ne dX5_order_250 (tgt := 266) (by decide) (fun h250 => ?_) (fun h250 => ?_)
      · --t
        refine r_iload_n dX5_order_266 2 rfl ?_
        refine r_bipush dX5_order_267 (v := 108) (by decide +kernel) ?_
        refine r_icmp_ne dX5_order_269 (tgt := 283) (by decide) (fun h269 => ?_) (fun h269 => ?_)
        · --t
          refine r_iload_n dX5_order_283 2 rfl ?_
          refine r_bipush dX5_order_284 (v := 115) (by decide +kernel) ?_
          refine r_icmp_ne dX5_order_286 (tgt := 300) (by decide) (fun h286 => ?_) (fun h286 => ?_)
          · --t
            refine r_aload_n dX5_order_300 0 rfl ?_
            refine r_iload dX5_order_301 4 rfl ?_
            refine r_callVi (As := [_]) c_X5_waits (by first | assumption | rfl) l_X5_114 rfl rfl rfl (Nat.le_of_ble_eq_true rfl) dX5_order_303 (t_X5_waits hW hRu) (fun r303 u303 q303 => ?_)
            obtain ⟨hr, g1, f1⟩ := q303
            cases hr
            have ek : K = 116 := hk.elim (fun z => absurd z h235) (fun z => z.elim id (fun z => z.elim (fun z => absurd z h250) (fun z => z.elim (fun z => absurd z h269) (fun z => absurd z h286))))
            subst ek
            refine r_iret rfl dX5_order_306 ?_
            exact ⟨rfl, g1, a2.f1 f1, a3.fl.tr f1.fl⟩
          · --f
            refine r_aload_n dX5_order_289 0 rfl ?_
            refine r_iload dX5_order_290 3 rfl ?_
            refine r_iload dX5_order_292 4 rfl ?_
            refine r_callVi (As := [_, _]) c_X5_sizes (by first | assumption | rfl) l_X5_105 rfl rfl rfl (Nat.le_of_ble_eq_true rfl) dX5_order_294 (t_X5_sizes hW hRu) (fun r294 u294 q294 => ?_)
            obtain ⟨hr, g1, f1⟩ := q294
            cases hr
            subst h286
            refine r_goto dX5_order_297 (tgt := 306) (by decide) ?_
            refine r_iret rfl dX5_order_306 ?_
            exact ⟨rfl, g1, a2.f1 f1, a3.fl.tr f1.fl⟩
        · --f
          refine r_aload_n dX5_order_272 0 rfl ?_
          refine r_iload dX5_order_273 3 rfl ?_
          refine r_iload dX5_order_275 4 rfl ?_
          refine r_callVi (As := [_, _]) c_X5_loses (by first | assumption | rfl) l_X5_111 rfl rfl rfl (Nat.le_of_ble_eq_true rfl) dX5_order_277 (t_X5_loses hW hRu) (fun r277 u277 q277 => ?_)
          obtain ⟨hr, g1, f1⟩ := q277
          cases hr
          subst h269
          refine r_goto dX5_order_280 (tgt := 306) (by decide) ?_
          refine r_iret rfl dX5_order_306 ?_
          exact ⟨rfl, g1, a2.f1 f1, a3.fl.tr f1.fl⟩
      · --f
        refine r_aload_n dX5_order_253 0 rfl ?_
        refine r_iload dX5_order_254 3 rfl ?_
        refine r_iload dX5_order_256 4 rfl ?_
        refine r_iload dX5_order_258 5 rfl ?_
        refine r_callVi (As := [_, _, _]) c_X5_comes (by first | assumption | rfl) l_X5_108 rfl rfl rfl (Nat.le_of_ble_eq_true rfl) dX5_order_260 (t_X5_comes hW hRu) (fun r260 u260 q260 => ?_)
        obtain ⟨hr, g1, f1⟩ := q260
        cases hr
        subst h250
        refine r_goto dX5_order_263 (tgt := 306) (by decide) ?_
        refine r_iret rfl dX5_order_306 ?_
        exact ⟨rfl, g1, a2.f1 f1, a3.fl.tr f1.fl⟩
    · --f
      refine r_aload_n dX5_order_238 0 rfl ?_
      refine r_iload dX5_order_239 4 rfl ?_
      refine r_callVi (As := [_]) c_X5_begins (by first | assumption | rfl) l_X5_102 rfl rfl rfl (Nat.le_of_ble_eq_true rfl) dX5_order_241 (t_X5_begins hW hRu) (fun r241 u241 q241 => ?_)
      obtain ⟨hr, g1, f1⟩ := q241
      cases hr
      subst h235
      refine r_goto dX5_order_244 (tgt := 306) (by decide) ?_
      refine r_iret rfl dX5_order_306 ?_
      exact ⟨rfl, g1, a2.f1 f1, a3.fl.tr f1.fl⟩
  · --f
    exact absurd h227 (by decide)
end MODO
