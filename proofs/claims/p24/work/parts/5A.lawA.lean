/-! the law: act -/
theorem los_n {N : mN} (hW : WN N) {t k : Nat} (ht : t < cnt N) (hk : k < 16) (h : ¬ k < tsz (N.2 t)) : losO N (nI t) (nI k) = (-1, N) := by
  unfold losO; rw [sc_ok hW ht hk, decide_eq_false h]; rfl
theorem los_5 {N : mN} (hW : WN N) {t k : Nat} (ht : t < cnt N) (hk : k < 16) (h : k < tsz (N.2 t)) (hv : (N.2 t).2.1 k = 3 ∨ (N.2 t).2.1 k = 4) : losO N (nI t) (nI k) = (-5, N) := by
  have hc5 := hW.cn.2
  unfold losO; rw [sc_ok hW ht hk, decide_eq_true h, if_pos rfl, nI_clamp (by omega), nI_clamp (by omega), if_pos hv]
theorem los_ok {N : mN} (hW : WN N) {t k : Nat} (ht : t < cnt N) (hk : k < 16) (h : k < tsz (N.2 t)) (hv : ¬ ((N.2 t).2.1 k = 3 ∨ (N.2 t).2.1 k = 4)) : losO N (nI t) (nI k) = (szF (awM (setH (N.2 t) k 4)) 16, setTr N t (setH (N.2 t) k 4)) := by
  have hc5 := hW.cn.2
  unfold losO; rw [sc_ok hW ht hk, decide_eq_true h, if_pos rfl, nI_clamp (by omega), nI_clamp (by omega), if_neg hv]
theorem fin_n {N : mN} (hW : WN N) {t k : Nat} (ht : t < cnt N) (hk : k < 16) (h : ¬ k < tsz (N.2 t)) : finO N (nI t) (nI k) = (-1, N) := by
  unfold finO; rw [sc_ok hW ht hk, decide_eq_false h]; rfl
theorem fin_5 {N : mN} (hW : WN N) {t k : Nat} (ht : t < cnt N) (hk : k < 16) (h : k < tsz (N.2 t)) (hv : ¬ (N.2 t).2.1 k = 4) : finO N (nI t) (nI k) = (-5, N) := by
  have hc5 := hW.cn.2
  unfold finO; rw [sc_ok hW ht hk, decide_eq_true h, if_pos rfl, nI_clamp (by omega), nI_clamp (by omega), if_neg hv]
theorem fin_ok {N : mN} (hW : WN N) {t k : Nat} (ht : t < cnt N) (hk : k < 16) (h : k < tsz (N.2 t)) (hv : (N.2 t).2.1 k = 4) : finO N (nI t) (nI k) = ((N.2 t).2.2.1 k, setTr N t (setH (N.2 t) k 0)) := by
  have hc5 := hW.cn.2
  unfold finO; rw [sc_ok hW ht hk, decide_eq_true h, if_pos rfl, nI_clamp (by omega), nI_clamp (by omega), if_pos hv]
theorem sz_ok {n : Nat} (h1 : 1 ≤ n) (h2 : n ≤ 16) : isSz (nI n) = true := decide_eq_true ⟨nI_le (a := 1) h1 (by omega), nI_le (b := 16) h2 (by decide)⟩
theorem rsz_ok {N : mN} (hW : WN N) {t n : Nat} (ht : t < cnt N) (h1 : 1 ≤ n) (h2 : n ≤ 16) : rszO N (nI t) (nI n) = ((N.2 t).1 2, setTr N t (rszT (N.2 t) (nI n))) := by
  have hc5 := hW.cn.2
  unfold rszO; rw [if_pos (tr_ok hW ht), if_pos (sz_ok h1 h2), nI_clamp (show t < 2 ^ 31 by omega)]
theorem add_5 {N : mN} (hW : WN N) {n : Nat} (h1 : 1 ≤ n) (h2 : n ≤ 16) (hc : cnt N = 5) : addO N (nI n) = (-4, N) := by
  unfold addO; rw [if_pos (sz_ok h1 h2), hW.cn.1, hc]; rfl
theorem add_ok {N : mN} (hW : WN N) {n : Nat} (h1 : 1 ≤ n) (h2 : n ≤ 16) (hc : cnt N < 5) : addO N (nI n) = (nI (cnt N), addN N (nI n)) := by
  have h5 : ¬ 5 ≤ N.1 3 := by rw [hW.cn.1]; exact nI_ge (b := 5) hc (by decide)
  unfold addO; rw [if_pos (sz_ok h1 h2), if_neg h5, ← hW.cn.1]
theorem cnt_add {N : mN} (hW : WN N) {s : Int32} (hc : cnt N < 5) : cnt (addN N s) = cnt N + 1 := by
  show (upd N.1 3 (N.1 3 + 1) 3).toNatClampNeg = _
  rw [upd, if_pos rfl, hW.cn.1, nI_1, nI_clamp (by omega)]
theorem new_sz : ∀ s, s < 6 → szF (awM (newT (nI s))) 16 = nI s := by decide +kernel
/-- what holds from the start on, also ahead of the second troop -/
def NJ (N : mN) (b : Nat) : Prop := WN N ∧ (∀ t, t < cnt N → TI (N.2 t) b) ∧ (∃ m : Nat, m ≤ b ∧ N.1 2 = nI m) ∧ 1 ≤ N.1 1
theorem nj_add {N : mN} {b n : Nat} (h : NJ N b) (h1 : 1 ≤ n) (h2 : n ≤ 16) (hc : cnt N < 5) : NJ (addN N (nI n)) b := by
  obtain ⟨hW, hk, hm, ha⟩ := h
  have hW2 := hW.add0 (nI n)
  rw [add_ok hW h1 h2 hc] at hW2
  refine ⟨hW2, fun t ht => ?_, hm, ha⟩
  rw [cnt_add hW hc] at ht
  show TI (if t = cnt N then newT (nI n) else N.2 t) b
  by_cases e : t = cnt N
  · rw [if_pos e]; exact ti_new h1 h2
  · rw [if_neg e]; exact hk t (by omega)
theorem NI.nj {N : mN} {b : Nat} (h : NI N b) : NJ N b := ⟨h.1, h.2.1, h.2.2.1, h.2.2.2.1⟩
theorem NJ.ni {N : mN} {b : Nat} (h : NJ N b) (hc : 2 ≤ cnt N) : NI N b := ⟨h.1, h.2.1, h.2.2.1, h.2.2.2, hc⟩
section ACT
variable {G : mG} {S : mS} {N : mN} {b t k w : Nat} {g : Int32}
theorem act_comes (hN : NI N b) (hb : b ≤ 900) (hS : LI S N) (ht : t < cnt N) (hk : k < 16) (hw : w < 6) : Lt G 9 280 2 128 M_L_act (fun v u => v = some 1 ∧ ∃ N', NI N' (b + 3) ∧ LI u N') 53 [(0, rv G 0), (1, .int g), (2, .int (nI (cnt N))), (3, .int (nI t)), (4, .int (nI k)), (5, .int (nI w))] [] (S, [], 0, 0) := by
  have hW := hN.1
  have hT := hN.2.1 t ht
  have hWT := hT.1
  obtain ⟨hc, hc5⟩ := hW.cn
  obtain ⟨s, e1, e2, e3, e4⟩ := hWT.sz
  obtain ⟨o0, o1, o2, -⟩ := oft hW ht
  have q0 := q_t (G := G) hW hS o0
  rw [e2] at q0
  have q1 := q_t (G := G) hW hS o1
  have q2 := q_t (G := G) hW hS o2
  have b57 : ¬ 6 ≤ nI w := nI_ge (b := 6) hw (by decide)
  have hcol := hWT.2.1
  have kB := t_L_comes (G := G) (c := (N.2 t).1 1) hN hb hS ht hk hcol
  have kA := t_L_comes (G := G) (c := 1 - (N.2 t).1 1) hN hb hS ht hk (by rcases hcol with z | z <;> rw [z] <;> decide)
  by_cases h11 : nI (lowN (g >>> ((11 : Int32) &&& 31)) 3) = 0
  ·
    refine z_iload dL_act_53 5 rfl ?_
    refine z_bipush dL_act_55 (v := 6) (by decide +kernel) ?_
    refine z_icmp_ge dL_act_57 (tgt := 96) (by decide) (fun h57 => by first | exact absurd (b57) h57 | exact absurd h57 (b57)) (fun h57 => ?_)
    refine z_aload_n dL_act_60 0 rfl ?_
    refine z_iload_n dL_act_61 3 rfl ?_
    refine z_iload dL_act_62 4 rfl ?_
    refine z_iload_n dL_act_64 1 rfl ?_
    refine z_bipush dL_act_65 (v := 11) (by decide +kernel) ?_
    refine z_ishr dL_act_67 ?_
    refine z_iconst dL_act_68 (v := 3) rfl ?_
    refine z_callSF (d := 7) (As := [_, _]) c_L_low l_L_40 rfl rfl rfl (Nat.le_of_ble_eq_true rfl) ⟨Nat.le_of_ble_eq_true rfl, Nat.le_of_ble_eq_true rfl⟩ dL_act_69 (t_L_low (n := 3) (by decide) (by decide)) ?_
    refine z_if_ne dL_act_72 (tgt := 86) (by decide) (fun h72 => by first | exact absurd (h11) h72 | exact absurd h72 (h11)) (fun h72 => ?_)
    refine z_iconst dL_act_75 (v := 1) rfl ?_
    refine z_aload_n dL_act_76 0 rfl ?_
    refine z_iload_n dL_act_77 3 rfl ?_
    refine z_iconst dL_act_78 (v := 1) rfl ?_
    refine z_callVF (d := 7) (As := [_, _]) c_X4_ofTroop rfl l_L_19 rfl rfl rfl (Nat.le_of_ble_eq_true rfl) ⟨Nat.le_of_ble_eq_true rfl, Nat.le_of_ble_eq_true rfl⟩ dL_act_79 q1 ?_
    refine z_isub dL_act_82 ?_
    refine z_goto dL_act_83 (tgt := 92) (by decide) ?_
    refine z_callL (As := [_, _, _, _]) cl_L_comes l_L_43 rfl rfl rfl (Nat.le_of_ble_eq_true rfl) ⟨Nat.le_of_ble_eq_true rfl, Nat.le_of_ble_eq_true rfl⟩ ⟨Nat.le_of_ble_eq_true rfl, Nat.le_of_ble_eq_true rfl⟩ dL_act_92 kA (fun r92 u92 q92 => ?_)
    obtain ⟨z, N', hN', hS'⟩ := q92
    cases z
    refine z_zret rfl (by first | rfl | decide) dL_act_95 ?_
    exact ⟨rfl, _, hN', hS'⟩
  ·
    refine z_iload dL_act_53 5 rfl ?_
    refine z_bipush dL_act_55 (v := 6) (by decide +kernel) ?_
    refine z_icmp_ge dL_act_57 (tgt := 96) (by decide) (fun h57 => by first | exact absurd (b57) h57 | exact absurd h57 (b57)) (fun h57 => ?_)
    refine z_aload_n dL_act_60 0 rfl ?_
    refine z_iload_n dL_act_61 3 rfl ?_
    refine z_iload dL_act_62 4 rfl ?_
    refine z_iload_n dL_act_64 1 rfl ?_
    refine z_bipush dL_act_65 (v := 11) (by decide +kernel) ?_
    refine z_ishr dL_act_67 ?_
    refine z_iconst dL_act_68 (v := 3) rfl ?_
    refine z_callSF (d := 7) (As := [_, _]) c_L_low l_L_40 rfl rfl rfl (Nat.le_of_ble_eq_true rfl) ⟨Nat.le_of_ble_eq_true rfl, Nat.le_of_ble_eq_true rfl⟩ dL_act_69 (t_L_low (n := 3) (by decide) (by decide)) ?_
    refine z_if_ne dL_act_72 (tgt := 86) (by decide) (fun h72 => ?_) (fun h72 => by first | exact absurd (h11) h72 | exact absurd h72 (h11))
    refine z_aload_n dL_act_86 0 rfl ?_
    refine z_iload_n dL_act_87 3 rfl ?_
    refine z_iconst dL_act_88 (v := 1) rfl ?_
    refine z_callVF (d := 7) (As := [_, _]) c_X4_ofTroop rfl l_L_19 rfl rfl rfl (Nat.le_of_ble_eq_true rfl) ⟨Nat.le_of_ble_eq_true rfl, Nat.le_of_ble_eq_true rfl⟩ dL_act_89 q1 ?_
    refine z_callL (As := [_, _, _, _]) cl_L_comes l_L_43 rfl rfl rfl (Nat.le_of_ble_eq_true rfl) ⟨Nat.le_of_ble_eq_true rfl, Nat.le_of_ble_eq_true rfl⟩ ⟨Nat.le_of_ble_eq_true rfl, Nat.le_of_ble_eq_true rfl⟩ dL_act_92 kB (fun r92 u92 q92 => ?_)
    obtain ⟨z, N', hN', hS'⟩ := q92
    cases z
    refine z_zret rfl (by first | rfl | decide) dL_act_95 ?_
    exact ⟨rfl, _, hN', hS'⟩
theorem act_passes (hN : NI N b) (hb : b ≤ 900) (hS : LI S N) (ht : t < cnt N) (hk : k < 16) (hw : 6 ≤ w) (hw2 : w < 8) : Lt G 9 280 2 128 M_L_act (fun v u => v = some 1 ∧ ∃ N', NI N' (b + 3) ∧ LI u N') 53 [(0, rv G 0), (1, .int g), (2, .int (nI (cnt N))), (3, .int (nI t)), (4, .int (nI k)), (5, .int (nI w))] [] (S, [], 0, 0) := by
  have b57 : 6 ≤ nI w := nI_le (a := 6) hw (by omega)
  have b100 : ¬ 8 ≤ nI w := nI_ge (b := 8) hw2 (by decide)
  refine z_iload dL_act_53 5 rfl ?_
  refine z_bipush dL_act_55 (v := 6) (by decide +kernel) ?_
  refine z_icmp_ge dL_act_57 (tgt := 96) (by decide) (fun h57 => ?_) (fun h57 => by first | exact absurd (b57) h57 | exact absurd h57 (b57))
  refine z_iload dL_act_96 5 rfl ?_
  refine z_bipush dL_act_98 (v := 8) (by decide +kernel) ?_
  refine z_icmp_ge dL_act_100 (tgt := 108) (by decide) (fun h100 => by first | exact absurd (b100) h100 | exact absurd h100 (b100)) (fun h100 => ?_)
  refine z_aload_n dL_act_103 0 rfl ?_
  refine z_callL (As := [_]) cl_L_passes l_L_47 rfl rfl rfl (Nat.le_of_ble_eq_true rfl) ⟨Nat.le_of_ble_eq_true rfl, Nat.le_of_ble_eq_true rfl⟩ ⟨Nat.le_of_ble_eq_true rfl, Nat.le_of_ble_eq_true rfl⟩ dL_act_104 (t_L_passes hN hb hS) (fun r104 u104 q104 => ?_)
  obtain ⟨z, N', hN', hS'⟩ := q104
  cases z
  refine z_zret rfl (by first | rfl | decide) dL_act_107 ?_
  exact ⟨rfl, _, hN', hS'⟩
theorem act_lose (hN : NI N b) (hb : b ≤ 900) (hS : LI S N) (ht : t < cnt N) (hk : k < 16) : Lt G 9 280 2 128 M_L_act (fun v u => v = some 1 ∧ ∃ N', NI N' (b + 3) ∧ LI u N') 53 [(0, rv G 0), (1, .int g), (2, .int (nI (cnt N))), (3, .int (nI t)), (4, .int (nI k)), (5, .int (nI 8))] [] (S, [], 0, 0) := by
  have hW := hN.1
  have hT := hN.2.1 t ht
  have hWT := hT.1
  obtain ⟨hc, hc5⟩ := hW.cn
  obtain ⟨s, e1, e2, e3, e4⟩ := hWT.sz
  obtain ⟨o0, o1, o2, -⟩ := oft hW ht
  have q0 := q_t (G := G) hW hS o0
  rw [e2] at q0
  have q1 := q_t (G := G) hW hS o1
  have q2 := q_t (G := G) hW hS o2
  have kl := k_lose (G := G) hW hS (x := nI t) (y := nI k)
  by_cases hlt : k < tsz (N.2 t)
  · have b133 : ¬ nI s ≤ nI k := nI_ge (by omega) (by omega)
    have c0 := q_of0 (G := G) hW hS ht hk (kn_lt hlt)
    by_cases hv : (N.2 t).2.1 k = 3 ∨ (N.2 t).2.1 k = 4
    · rw [los_5 hW ht hk hlt hv] at kl
      have b174 : ¬ (N.2 t).2.1 k ≤ 2 := by rcases hv with z | z <;> rw [z] <;> decide
      refine z_iload dL_act_53 5 rfl ?_
      refine z_bipush dL_act_55 (v := 6) (by decide +kernel) ?_
      refine z_icmp_ge dL_act_57 (tgt := 96) (by decide) (fun h57 => ?_) (fun h57 => by first | exact absurd (by decide) h57 | exact absurd h57 (by decide))
      refine z_iload dL_act_96 5 rfl ?_
      refine z_bipush dL_act_98 (v := 8) (by decide +kernel) ?_
      refine z_icmp_ge dL_act_100 (tgt := 108) (by decide) (fun h100 => ?_) (fun h100 => by first | exact absurd (by decide) h100 | exact absurd h100 (by decide))
      refine z_iload dL_act_108 5 rfl ?_
      refine z_bipush dL_act_110 (v := 8) (by decide +kernel) ?_
      refine z_icmp_ne dL_act_112 (tgt := 232) (by decide) (fun h112 => by first | exact absurd (rfl) h112 | exact absurd h112 (rfl)) (fun h112 => ?_)
      refine z_aload_n dL_act_115 0 rfl ?_
      refine z_iload_n dL_act_116 3 rfl ?_
      refine z_iload dL_act_117 4 rfl ?_
      refine z_iconst dL_act_119 (v := 0) rfl ?_
      refine z_callVF (d := 7) (As := [_, _, _]) c_X4_of rfl l_L_15 rfl rfl rfl (Nat.le_of_ble_eq_true rfl) ⟨Nat.le_of_ble_eq_true rfl, Nat.le_of_ble_eq_true rfl⟩ dL_act_120 c0 ?_
      refine z_istore (lo2 := [(0, _), (1, _), (2, _), (3, _), (4, _), (5, _), (6, _)]) dL_act_123 (Nat.le_of_ble_eq_true rfl) [1, 2, 3, 4, 5, 6, 0] rfl ?_
      refine z_iload dL_act_125 4 rfl ?_
      refine z_aload_n dL_act_127 0 rfl ?_
      refine z_iload_n dL_act_128 3 rfl ?_
      refine z_iconst dL_act_129 (v := 0) rfl ?_
      refine z_callVF (d := 7) (As := [_, _]) c_X4_ofTroop rfl l_L_19 rfl rfl rfl (Nat.le_of_ble_eq_true rfl) ⟨Nat.le_of_ble_eq_true rfl, Nat.le_of_ble_eq_true rfl⟩ dL_act_130 q0 ?_
      refine z_icmp_ge dL_act_133 (tgt := 140) (by decide) (fun h133 => by first | exact absurd (b133) h133 | exact absurd h133 (b133)) (fun h133 => ?_)
      refine z_iconst dL_act_136 (v := 1) rfl ?_
      refine z_goto dL_act_137 (tgt := 141) (by decide) ?_
      refine z_istore (lo2 := [(0, _), (1, _), (2, _), (3, _), (4, _), (5, _), (6, _), (7, _)]) dL_act_141 (Nat.le_of_ble_eq_true rfl) [1, 2, 3, 4, 5, 6, 7, 0] rfl ?_
      refine z_aload_n dL_act_143 0 rfl ?_
      refine z_iload_n dL_act_144 3 rfl ?_
      refine z_iload dL_act_145 4 rfl ?_
      refine z_callV (d := 7) (As := [_, _]) c_X4_lose rfl l_L_51 rfl rfl rfl (Nat.le_of_ble_eq_true rfl) ⟨Nat.le_of_ble_eq_true rfl, Nat.le_of_ble_eq_true rfl⟩ dL_act_147 kl (fun r147 u147 q147 => ?_)
      obtain ⟨z, hS'⟩ := q147
      cases z
      refine z_istore (lo2 := [(0, _), (1, _), (2, _), (3, _), (4, _), (5, _), (6, _), (7, _), (8, _)]) dL_act_150 (Nat.le_of_ble_eq_true rfl) [1, 2, 3, 4, 5, 6, 7, 8, 0] rfl ?_
      refine z_iload dL_act_152 7 rfl ?_
      refine z_if_ne dL_act_154 (tgt := 171) (by decide) (fun h154 => ?_) (fun h154 => by first | exact absurd (by decide) h154 | exact absurd h154 (by decide))
      refine z_iload dL_act_171 6 rfl ?_
      refine z_iconst dL_act_173 (v := 2) rfl ?_
      refine z_icmp_le dL_act_174 (tgt := 192) (by decide) (fun h174 => by first | exact absurd (b174) h174 | exact absurd h174 (b174)) (fun h174 => ?_)
      refine z_iload dL_act_177 8 rfl ?_
      refine z_bipush dL_act_179 (v := -5) (by decide +kernel) ?_
      refine z_icmp_ne dL_act_181 (tgt := 188) (by decide) (fun h181 => by first | exact absurd (rfl) h181 | exact absurd h181 (rfl)) (fun h181 => ?_)
      refine z_iconst dL_act_184 (v := 1) rfl ?_
      refine z_goto dL_act_185 (tgt := 231) (by decide) ?_
      refine z_zret rfl (by first | rfl | decide) dL_act_231 ?_
      exact ⟨rfl, _, hN.mono (by omega), hS'⟩
    · rw [los_ok hW ht hk hlt hv] at kl
      have b174 : (N.2 t).2.1 k ≤ 2 := by
        rcases (hWT.2.2 k hk).1 with z | z | z | z | z
        · rw [z]; decide
        · rw [z]; decide
        · rw [z]; decide
        · exact absurd (Or.inl z) hv
        · exact absurd (Or.inr z) hv
      have hN' : NI (setTr N t (setH (N.2 t) k 4)) (b + 3) := ni_tr hN (by omega) ((ti_set hT hlt (by simp)).mono (by omega))
      have eT : (setTr N t (setH (N.2 t) k 4)).2 t = setH (N.2 t) k 4 := tr_at
      have ht' : t < cnt (setTr N t (setH (N.2 t) k 4)) := ht
      generalize setTr N t (setH (N.2 t) k 4) = N' at kl hN' eT ht'
      have p3 : ofTA N' (nI t) 3 = szF (awM (setH (N.2 t) k 4)) 16 := by rw [(oft hN'.1 ht').2.2.2.1, eT]
      have v4 : (N'.2 t).2.1 k = 4 := by rw [eT]; show upd (N.2 t).2.1 k 4 k = 4; rw [upd, if_pos rfl]
      have vf : (N'.2 t).2.2.1 k = 0 := by rw [eT]; show upd (N.2 t).2.2.1 k 0 k = 0; rw [upd, if_pos rfl]
      have kk : knB (N'.2 t) k = true := kn_of (hN'.2.1 t ht').1 hk (by rw [v4]; decide)
      refine z_iload dL_act_53 5 rfl ?_
      refine z_bipush dL_act_55 (v := 6) (by decide +kernel) ?_
      refine z_icmp_ge dL_act_57 (tgt := 96) (by decide) (fun h57 => ?_) (fun h57 => by first | exact absurd (by decide) h57 | exact absurd h57 (by decide))
      refine z_iload dL_act_96 5 rfl ?_
      refine z_bipush dL_act_98 (v := 8) (by decide +kernel) ?_
      refine z_icmp_ge dL_act_100 (tgt := 108) (by decide) (fun h100 => ?_) (fun h100 => by first | exact absurd (by decide) h100 | exact absurd h100 (by decide))
      refine z_iload dL_act_108 5 rfl ?_
      refine z_bipush dL_act_110 (v := 8) (by decide +kernel) ?_
      refine z_icmp_ne dL_act_112 (tgt := 232) (by decide) (fun h112 => by first | exact absurd (rfl) h112 | exact absurd h112 (rfl)) (fun h112 => ?_)
      refine z_aload_n dL_act_115 0 rfl ?_
      refine z_iload_n dL_act_116 3 rfl ?_
      refine z_iload dL_act_117 4 rfl ?_
      refine z_iconst dL_act_119 (v := 0) rfl ?_
      refine z_callVF (d := 7) (As := [_, _, _]) c_X4_of rfl l_L_15 rfl rfl rfl (Nat.le_of_ble_eq_true rfl) ⟨Nat.le_of_ble_eq_true rfl, Nat.le_of_ble_eq_true rfl⟩ dL_act_120 c0 ?_
      refine z_istore (lo2 := [(0, _), (1, _), (2, _), (3, _), (4, _), (5, _), (6, _)]) dL_act_123 (Nat.le_of_ble_eq_true rfl) [1, 2, 3, 4, 5, 6, 0] rfl ?_
      refine z_iload dL_act_125 4 rfl ?_
      refine z_aload_n dL_act_127 0 rfl ?_
      refine z_iload_n dL_act_128 3 rfl ?_
      refine z_iconst dL_act_129 (v := 0) rfl ?_
      refine z_callVF (d := 7) (As := [_, _]) c_X4_ofTroop rfl l_L_19 rfl rfl rfl (Nat.le_of_ble_eq_true rfl) ⟨Nat.le_of_ble_eq_true rfl, Nat.le_of_ble_eq_true rfl⟩ dL_act_130 q0 ?_
      refine z_icmp_ge dL_act_133 (tgt := 140) (by decide) (fun h133 => by first | exact absurd (b133) h133 | exact absurd h133 (b133)) (fun h133 => ?_)
      refine z_iconst dL_act_136 (v := 1) rfl ?_
      refine z_goto dL_act_137 (tgt := 141) (by decide) ?_
      refine z_istore (lo2 := [(0, _), (1, _), (2, _), (3, _), (4, _), (5, _), (6, _), (7, _)]) dL_act_141 (Nat.le_of_ble_eq_true rfl) [1, 2, 3, 4, 5, 6, 7, 0] rfl ?_
      refine z_aload_n dL_act_143 0 rfl ?_
      refine z_iload_n dL_act_144 3 rfl ?_
      refine z_iload dL_act_145 4 rfl ?_
      refine z_callV (d := 7) (As := [_, _]) c_X4_lose rfl l_L_51 rfl rfl rfl (Nat.le_of_ble_eq_true rfl) ⟨Nat.le_of_ble_eq_true rfl, Nat.le_of_ble_eq_true rfl⟩ dL_act_147 kl (fun r147 u147 q147 => ?_)
      obtain ⟨z, hS'⟩ := q147
      cases z
      have d3 := q_t (G := G) hN'.1 hS' p3
      have d0 := q_of0 (G := G) hN'.1 hS' ht' hk kk
      have d1 := q_of1 (G := G) hN'.1 hS' ht' hk kk
      rw [v4] at d0
      rw [vf] at d1
      refine z_istore (lo2 := [(0, _), (1, _), (2, _), (3, _), (4, _), (5, _), (6, _), (7, _), (8, _)]) dL_act_150 (Nat.le_of_ble_eq_true rfl) [1, 2, 3, 4, 5, 6, 7, 8, 0] rfl ?_
      refine z_iload dL_act_152 7 rfl ?_
      refine z_if_ne dL_act_154 (tgt := 171) (by decide) (fun h154 => ?_) (fun h154 => by first | exact absurd (by decide) h154 | exact absurd h154 (by decide))
      refine z_iload dL_act_171 6 rfl ?_
      refine z_iconst dL_act_173 (v := 2) rfl ?_
      refine z_icmp_le dL_act_174 (tgt := 192) (by decide) (fun h174 => ?_) (fun h174 => by first | exact absurd (b174) h174 | exact absurd h174 (b174))
      refine z_iload dL_act_192 8 rfl ?_
      refine z_aload_n dL_act_194 0 rfl ?_
      refine z_iload_n dL_act_195 3 rfl ?_
      refine z_iconst dL_act_196 (v := 3) rfl ?_
      refine z_callVF (d := 7) (As := [_, _]) c_X4_ofTroop rfl l_L_19 rfl rfl rfl (Nat.le_of_ble_eq_true rfl) ⟨Nat.le_of_ble_eq_true rfl, Nat.le_of_ble_eq_true rfl⟩ dL_act_197 d3 ?_
      refine z_icmp_ne dL_act_200 (tgt := 230) (by decide) (fun h200 => by first | exact absurd (rfl) h200 | exact absurd h200 (rfl)) (fun h200 => ?_)
      refine z_aload_n dL_act_203 0 rfl ?_
      refine z_iload_n dL_act_204 3 rfl ?_
      refine z_iload dL_act_205 4 rfl ?_
      refine z_iconst dL_act_207 (v := 0) rfl ?_
      refine z_callVF (d := 7) (As := [_, _, _]) c_X4_of rfl l_L_15 rfl rfl rfl (Nat.le_of_ble_eq_true rfl) ⟨Nat.le_of_ble_eq_true rfl, Nat.le_of_ble_eq_true rfl⟩ dL_act_208 d0 ?_
      refine z_iconst dL_act_211 (v := 4) rfl ?_
      refine z_icmp_ne dL_act_212 (tgt := 230) (by decide) (fun h212 => by first | exact absurd (rfl) h212 | exact absurd h212 (rfl)) (fun h212 => ?_)
      refine z_aload_n dL_act_215 0 rfl ?_
      refine z_iload_n dL_act_216 3 rfl ?_
      refine z_iload dL_act_217 4 rfl ?_
      refine z_iconst dL_act_219 (v := 1) rfl ?_
      refine z_callVF (d := 7) (As := [_, _, _]) c_X4_of rfl l_L_15 rfl rfl rfl (Nat.le_of_ble_eq_true rfl) ⟨Nat.le_of_ble_eq_true rfl, Nat.le_of_ble_eq_true rfl⟩ dL_act_220 d1 ?_
      refine z_if_ne dL_act_223 (tgt := 230) (by decide) (fun h223 => by first | exact absurd (rfl) h223 | exact absurd h223 (rfl)) (fun h223 => ?_)
      refine z_iconst dL_act_226 (v := 1) rfl ?_
      refine z_goto dL_act_227 (tgt := 231) (by decide) ?_
      refine z_zret rfl (by first | rfl | decide) dL_act_231 ?_
      exact ⟨rfl, _, hN', hS'⟩
  · have b133 : nI s ≤ nI k := nI_le (by omega) (by omega)
    have c0 := t_X4_of (G := G) (d := 4) (t := nI t) (k := nI k) (w := 0) hW hS.1
    rw [los_n hW ht hk hlt] at kl
    refine z_iload dL_act_53 5 rfl ?_
    refine z_bipush dL_act_55 (v := 6) (by decide +kernel) ?_
    refine z_icmp_ge dL_act_57 (tgt := 96) (by decide) (fun h57 => ?_) (fun h57 => by first | exact absurd (by decide) h57 | exact absurd h57 (by decide))
    refine z_iload dL_act_96 5 rfl ?_
    refine z_bipush dL_act_98 (v := 8) (by decide +kernel) ?_
    refine z_icmp_ge dL_act_100 (tgt := 108) (by decide) (fun h100 => ?_) (fun h100 => by first | exact absurd (by decide) h100 | exact absurd h100 (by decide))
    refine z_iload dL_act_108 5 rfl ?_
    refine z_bipush dL_act_110 (v := 8) (by decide +kernel) ?_
    refine z_icmp_ne dL_act_112 (tgt := 232) (by decide) (fun h112 => by first | exact absurd (rfl) h112 | exact absurd h112 (rfl)) (fun h112 => ?_)
    refine z_aload_n dL_act_115 0 rfl ?_
    refine z_iload_n dL_act_116 3 rfl ?_
    refine z_iload dL_act_117 4 rfl ?_
    refine z_iconst dL_act_119 (v := 0) rfl ?_
    refine z_callVF (d := 7) (As := [_, _, _]) c_X4_of rfl l_L_15 rfl rfl rfl (Nat.le_of_ble_eq_true rfl) ⟨Nat.le_of_ble_eq_true rfl, Nat.le_of_ble_eq_true rfl⟩ dL_act_120 c0 ?_
    refine z_istore (lo2 := [(0, _), (1, _), (2, _), (3, _), (4, _), (5, _), (6, _)]) dL_act_123 (Nat.le_of_ble_eq_true rfl) [1, 2, 3, 4, 5, 6, 0] rfl ?_
    refine z_iload dL_act_125 4 rfl ?_
    refine z_aload_n dL_act_127 0 rfl ?_
    refine z_iload_n dL_act_128 3 rfl ?_
    refine z_iconst dL_act_129 (v := 0) rfl ?_
    refine z_callVF (d := 7) (As := [_, _]) c_X4_ofTroop rfl l_L_19 rfl rfl rfl (Nat.le_of_ble_eq_true rfl) ⟨Nat.le_of_ble_eq_true rfl, Nat.le_of_ble_eq_true rfl⟩ dL_act_130 q0 ?_
    refine z_icmp_ge dL_act_133 (tgt := 140) (by decide) (fun h133 => ?_) (fun h133 => by first | exact absurd (b133) h133 | exact absurd h133 (b133))
    refine z_iconst dL_act_140 (v := 0) rfl ?_
    refine z_istore (lo2 := [(0, _), (1, _), (2, _), (3, _), (4, _), (5, _), (6, _), (7, _)]) dL_act_141 (Nat.le_of_ble_eq_true rfl) [1, 2, 3, 4, 5, 6, 7, 0] rfl ?_
    refine z_aload_n dL_act_143 0 rfl ?_
    refine z_iload_n dL_act_144 3 rfl ?_
    refine z_iload dL_act_145 4 rfl ?_
    refine z_callV (d := 7) (As := [_, _]) c_X4_lose rfl l_L_51 rfl rfl rfl (Nat.le_of_ble_eq_true rfl) ⟨Nat.le_of_ble_eq_true rfl, Nat.le_of_ble_eq_true rfl⟩ dL_act_147 kl (fun r147 u147 q147 => ?_)
    obtain ⟨z, hS'⟩ := q147
    cases z
    refine z_istore (lo2 := [(0, _), (1, _), (2, _), (3, _), (4, _), (5, _), (6, _), (7, _), (8, _)]) dL_act_150 (Nat.le_of_ble_eq_true rfl) [1, 2, 3, 4, 5, 6, 7, 8, 0] rfl ?_
    refine z_iload dL_act_152 7 rfl ?_
    refine z_if_ne dL_act_154 (tgt := 171) (by decide) (fun h154 => by first | exact absurd (rfl) h154 | exact absurd h154 (rfl)) (fun h154 => ?_)
    refine z_iload dL_act_157 8 rfl ?_
    refine z_iconst dL_act_159 (v := -1) rfl ?_
    refine z_icmp_ne dL_act_160 (tgt := 167) (by decide) (fun h160 => by first | exact absurd (rfl) h160 | exact absurd h160 (rfl)) (fun h160 => ?_)
    refine z_iconst dL_act_163 (v := 1) rfl ?_
    refine z_goto dL_act_164 (tgt := 231) (by decide) ?_
    refine z_zret rfl (by first | rfl | decide) dL_act_231 ?_
    exact ⟨rfl, _, hN.mono (by omega), hS'⟩
theorem act_find (hN : NI N b) (hb : b ≤ 900) (hS : LI S N) (ht : t < cnt N) (hk : k < 16) : Lt G 9 280 2 128 M_L_act (fun v u => v = some 1 ∧ ∃ N', NI N' (b + 3) ∧ LI u N') 53 [(0, rv G 0), (1, .int g), (2, .int (nI (cnt N))), (3, .int (nI t)), (4, .int (nI k)), (5, .int (nI 9))] [] (S, [], 0, 0) := by
  have hW := hN.1
  have hT := hN.2.1 t ht
  have hWT := hT.1
  obtain ⟨hc, hc5⟩ := hW.cn
  obtain ⟨s, e1, e2, e3, e4⟩ := hWT.sz
  obtain ⟨o0, o1, o2, -⟩ := oft hW ht
  have q0 := q_t (G := G) hW hS o0
  rw [e2] at q0
  have q1 := q_t (G := G) hW hS o1
  have q2 := q_t (G := G) hW hS o2
  have kl := k_find (G := G) hW hS (x := nI t) (y := nI k)
  by_cases hlt : k < tsz (N.2 t)
  · have b267 : ¬ nI s ≤ nI k := nI_ge (by omega) (by omega)
    have c0 := q_of0 (G := G) hW hS ht hk (kn_lt hlt)
    have c1 := q_of1 (G := G) hW hS ht hk (kn_lt hlt)
    by_cases hv : (N.2 t).2.1 k = 4
    · rw [fin_ok hW ht hk hlt hv] at kl
      rw [hv] at c0
      have hN' : NI (setTr N t (setH (N.2 t) k 0)) (b + 3) := ni_tr hN (by omega) ((ti_set hT hlt (by simp)).mono (by omega))
      have eT : (setTr N t (setH (N.2 t) k 0)).2 t = setH (N.2 t) k 0 := tr_at
      have ht' : t < cnt (setTr N t (setH (N.2 t) k 0)) := ht
      generalize setTr N t (setH (N.2 t) k 0) = N' at kl hN' eT ht'
      have v4 : (N'.2 t).2.1 k = 0 := by rw [eT]; show upd (N.2 t).2.1 k 0 k = 0; rw [upd, if_pos rfl]
      have kk : knB (N'.2 t) k = true := kn_lt (by rw [eT]; exact hlt)
      refine z_iload dL_act_53 5 rfl ?_
      refine z_bipush dL_act_55 (v := 6) (by decide +kernel) ?_
      refine z_icmp_ge dL_act_57 (tgt := 96) (by decide) (fun h57 => ?_) (fun h57 => by first | exact absurd (by decide) h57 | exact absurd h57 (by decide))
      refine z_iload dL_act_96 5 rfl ?_
      refine z_bipush dL_act_98 (v := 8) (by decide +kernel) ?_
      refine z_icmp_ge dL_act_100 (tgt := 108) (by decide) (fun h100 => ?_) (fun h100 => by first | exact absurd (by decide) h100 | exact absurd h100 (by decide))
      refine z_iload dL_act_108 5 rfl ?_
      refine z_bipush dL_act_110 (v := 8) (by decide +kernel) ?_
      refine z_icmp_ne dL_act_112 (tgt := 232) (by decide) (fun h112 => ?_) (fun h112 => by first | exact absurd (by decide) h112 | exact absurd h112 (by decide))
      refine z_iload dL_act_232 5 rfl ?_
      refine z_bipush dL_act_234 (v := 9) (by decide +kernel) ?_
      refine z_icmp_ne dL_act_236 (tgt := 350) (by decide) (fun h236 => by first | exact absurd (rfl) h236 | exact absurd h236 (rfl)) (fun h236 => ?_)
      refine z_aload_n dL_act_239 0 rfl ?_
      refine z_iload_n dL_act_240 3 rfl ?_
      refine z_iload dL_act_241 4 rfl ?_
      refine z_iconst dL_act_243 (v := 0) rfl ?_
      refine z_callVF (d := 7) (As := [_, _, _]) c_X4_of rfl l_L_15 rfl rfl rfl (Nat.le_of_ble_eq_true rfl) ⟨Nat.le_of_ble_eq_true rfl, Nat.le_of_ble_eq_true rfl⟩ dL_act_244 c0 ?_
      refine z_istore (lo2 := [(0, _), (1, _), (2, _), (3, _), (4, _), (5, _), (6, _)]) dL_act_247 (Nat.le_of_ble_eq_true rfl) [1, 2, 3, 4, 5, 6, 0] rfl ?_
      refine z_aload_n dL_act_249 0 rfl ?_
      refine z_iload_n dL_act_250 3 rfl ?_
      refine z_iload dL_act_251 4 rfl ?_
      refine z_iconst dL_act_253 (v := 1) rfl ?_
      refine z_callVF (d := 7) (As := [_, _, _]) c_X4_of rfl l_L_15 rfl rfl rfl (Nat.le_of_ble_eq_true rfl) ⟨Nat.le_of_ble_eq_true rfl, Nat.le_of_ble_eq_true rfl⟩ dL_act_254 c1 ?_
      refine z_istore (lo2 := [(0, _), (1, _), (2, _), (3, _), (4, _), (5, _), (6, _), (7, _)]) dL_act_257 (Nat.le_of_ble_eq_true rfl) [1, 2, 3, 4, 5, 6, 7, 0] rfl ?_
      refine z_iload dL_act_259 4 rfl ?_
      refine z_aload_n dL_act_261 0 rfl ?_
      refine z_iload_n dL_act_262 3 rfl ?_
      refine z_iconst dL_act_263 (v := 0) rfl ?_
      refine z_callVF (d := 7) (As := [_, _]) c_X4_ofTroop rfl l_L_19 rfl rfl rfl (Nat.le_of_ble_eq_true rfl) ⟨Nat.le_of_ble_eq_true rfl, Nat.le_of_ble_eq_true rfl⟩ dL_act_264 q0 ?_
      refine z_icmp_ge dL_act_267 (tgt := 274) (by decide) (fun h267 => by first | exact absurd (b267) h267 | exact absurd h267 (b267)) (fun h267 => ?_)
      refine z_iconst dL_act_270 (v := 1) rfl ?_
      refine z_goto dL_act_271 (tgt := 275) (by decide) ?_
      refine z_istore (lo2 := [(0, _), (1, _), (2, _), (3, _), (4, _), (5, _), (6, _), (7, _), (8, _)]) dL_act_275 (Nat.le_of_ble_eq_true rfl) [1, 2, 3, 4, 5, 6, 7, 8, 0] rfl ?_
      refine z_aload_n dL_act_277 0 rfl ?_
      refine z_iload_n dL_act_278 3 rfl ?_
      refine z_iload dL_act_279 4 rfl ?_
      refine z_callV (d := 7) (As := [_, _]) c_X4_find rfl l_L_54 rfl rfl rfl (Nat.le_of_ble_eq_true rfl) ⟨Nat.le_of_ble_eq_true rfl, Nat.le_of_ble_eq_true rfl⟩ dL_act_281 kl (fun r281 u281 q281 => ?_)
      obtain ⟨z, hS'⟩ := q281
      cases z
      have d0 := q_of0 (G := G) hN'.1 hS' ht' hk kk
      rw [v4] at d0
      refine z_istore (lo2 := [(0, _), (1, _), (2, _), (3, _), (4, _), (5, _), (6, _), (7, _), (8, _), (9, _)]) dL_act_284 (Nat.le_of_ble_eq_true rfl) [1, 2, 3, 4, 5, 6, 7, 8, 9, 0] rfl ?_
      refine z_iload dL_act_286 8 rfl ?_
      refine z_if_ne dL_act_288 (tgt := 305) (by decide) (fun h288 => ?_) (fun h288 => by first | exact absurd (by decide) h288 | exact absurd h288 (by decide))
      refine z_iload dL_act_305 6 rfl ?_
      refine z_iconst dL_act_307 (v := 4) rfl ?_
      refine z_icmp_eq dL_act_308 (tgt := 326) (by decide) (fun h308 => ?_) (fun h308 => by first | exact absurd (rfl) h308 | exact absurd h308 (rfl))
      refine z_iload dL_act_326 9 rfl ?_
      refine z_iload dL_act_328 7 rfl ?_
      refine z_icmp_ne dL_act_330 (tgt := 348) (by decide) (fun h330 => by first | exact absurd (rfl) h330 | exact absurd h330 (rfl)) (fun h330 => ?_)
      refine z_aload_n dL_act_333 0 rfl ?_
      refine z_iload_n dL_act_334 3 rfl ?_
      refine z_iload dL_act_335 4 rfl ?_
      refine z_iconst dL_act_337 (v := 0) rfl ?_
      refine z_callVF (d := 7) (As := [_, _, _]) c_X4_of rfl l_L_15 rfl rfl rfl (Nat.le_of_ble_eq_true rfl) ⟨Nat.le_of_ble_eq_true rfl, Nat.le_of_ble_eq_true rfl⟩ dL_act_338 d0 ?_
      refine z_if_ne dL_act_341 (tgt := 348) (by decide) (fun h341 => by first | exact absurd (rfl) h341 | exact absurd h341 (rfl)) (fun h341 => ?_)
      refine z_iconst dL_act_344 (v := 1) rfl ?_
      refine z_goto dL_act_345 (tgt := 349) (by decide) ?_
      refine z_zret rfl (by first | rfl | decide) dL_act_349 ?_
      exact ⟨rfl, _, hN', hS'⟩
    · rw [fin_5 hW ht hk hlt hv] at kl
      refine z_iload dL_act_53 5 rfl ?_
      refine z_bipush dL_act_55 (v := 6) (by decide +kernel) ?_
      refine z_icmp_ge dL_act_57 (tgt := 96) (by decide) (fun h57 => ?_) (fun h57 => by first | exact absurd (by decide) h57 | exact absurd h57 (by decide))
      refine z_iload dL_act_96 5 rfl ?_
      refine z_bipush dL_act_98 (v := 8) (by decide +kernel) ?_
      refine z_icmp_ge dL_act_100 (tgt := 108) (by decide) (fun h100 => ?_) (fun h100 => by first | exact absurd (by decide) h100 | exact absurd h100 (by decide))
      refine z_iload dL_act_108 5 rfl ?_
      refine z_bipush dL_act_110 (v := 8) (by decide +kernel) ?_
      refine z_icmp_ne dL_act_112 (tgt := 232) (by decide) (fun h112 => ?_) (fun h112 => by first | exact absurd (by decide) h112 | exact absurd h112 (by decide))
      refine z_iload dL_act_232 5 rfl ?_
      refine z_bipush dL_act_234 (v := 9) (by decide +kernel) ?_
      refine z_icmp_ne dL_act_236 (tgt := 350) (by decide) (fun h236 => by first | exact absurd (rfl) h236 | exact absurd h236 (rfl)) (fun h236 => ?_)
      refine z_aload_n dL_act_239 0 rfl ?_
      refine z_iload_n dL_act_240 3 rfl ?_
      refine z_iload dL_act_241 4 rfl ?_
      refine z_iconst dL_act_243 (v := 0) rfl ?_
      refine z_callVF (d := 7) (As := [_, _, _]) c_X4_of rfl l_L_15 rfl rfl rfl (Nat.le_of_ble_eq_true rfl) ⟨Nat.le_of_ble_eq_true rfl, Nat.le_of_ble_eq_true rfl⟩ dL_act_244 c0 ?_
      refine z_istore (lo2 := [(0, _), (1, _), (2, _), (3, _), (4, _), (5, _), (6, _)]) dL_act_247 (Nat.le_of_ble_eq_true rfl) [1, 2, 3, 4, 5, 6, 0] rfl ?_
      refine z_aload_n dL_act_249 0 rfl ?_
      refine z_iload_n dL_act_250 3 rfl ?_
      refine z_iload dL_act_251 4 rfl ?_
      refine z_iconst dL_act_253 (v := 1) rfl ?_
      refine z_callVF (d := 7) (As := [_, _, _]) c_X4_of rfl l_L_15 rfl rfl rfl (Nat.le_of_ble_eq_true rfl) ⟨Nat.le_of_ble_eq_true rfl, Nat.le_of_ble_eq_true rfl⟩ dL_act_254 c1 ?_
      refine z_istore (lo2 := [(0, _), (1, _), (2, _), (3, _), (4, _), (5, _), (6, _), (7, _)]) dL_act_257 (Nat.le_of_ble_eq_true rfl) [1, 2, 3, 4, 5, 6, 7, 0] rfl ?_
      refine z_iload dL_act_259 4 rfl ?_
      refine z_aload_n dL_act_261 0 rfl ?_
      refine z_iload_n dL_act_262 3 rfl ?_
      refine z_iconst dL_act_263 (v := 0) rfl ?_
      refine z_callVF (d := 7) (As := [_, _]) c_X4_ofTroop rfl l_L_19 rfl rfl rfl (Nat.le_of_ble_eq_true rfl) ⟨Nat.le_of_ble_eq_true rfl, Nat.le_of_ble_eq_true rfl⟩ dL_act_264 q0 ?_
      refine z_icmp_ge dL_act_267 (tgt := 274) (by decide) (fun h267 => by first | exact absurd (b267) h267 | exact absurd h267 (b267)) (fun h267 => ?_)
      refine z_iconst dL_act_270 (v := 1) rfl ?_
      refine z_goto dL_act_271 (tgt := 275) (by decide) ?_
      refine z_istore (lo2 := [(0, _), (1, _), (2, _), (3, _), (4, _), (5, _), (6, _), (7, _), (8, _)]) dL_act_275 (Nat.le_of_ble_eq_true rfl) [1, 2, 3, 4, 5, 6, 7, 8, 0] rfl ?_
      refine z_aload_n dL_act_277 0 rfl ?_
      refine z_iload_n dL_act_278 3 rfl ?_
      refine z_iload dL_act_279 4 rfl ?_
      refine z_callV (d := 7) (As := [_, _]) c_X4_find rfl l_L_54 rfl rfl rfl (Nat.le_of_ble_eq_true rfl) ⟨Nat.le_of_ble_eq_true rfl, Nat.le_of_ble_eq_true rfl⟩ dL_act_281 kl (fun r281 u281 q281 => ?_)
      obtain ⟨z, hS'⟩ := q281
      cases z
      refine z_istore (lo2 := [(0, _), (1, _), (2, _), (3, _), (4, _), (5, _), (6, _), (7, _), (8, _), (9, _)]) dL_act_284 (Nat.le_of_ble_eq_true rfl) [1, 2, 3, 4, 5, 6, 7, 8, 9, 0] rfl ?_
      refine z_iload dL_act_286 8 rfl ?_
      refine z_if_ne dL_act_288 (tgt := 305) (by decide) (fun h288 => ?_) (fun h288 => by first | exact absurd (by decide) h288 | exact absurd h288 (by decide))
      refine z_iload dL_act_305 6 rfl ?_
      refine z_iconst dL_act_307 (v := 4) rfl ?_
      refine z_icmp_eq dL_act_308 (tgt := 326) (by decide) (fun h308 => by first | exact absurd (hv) h308 | exact absurd h308 (hv)) (fun h308 => ?_)
      refine z_iload dL_act_311 9 rfl ?_
      refine z_bipush dL_act_313 (v := -5) (by decide +kernel) ?_
      refine z_icmp_ne dL_act_315 (tgt := 322) (by decide) (fun h315 => by first | exact absurd (rfl) h315 | exact absurd h315 (rfl)) (fun h315 => ?_)
      refine z_iconst dL_act_318 (v := 1) rfl ?_
      refine z_goto dL_act_319 (tgt := 349) (by decide) ?_
      refine z_zret rfl (by first | rfl | decide) dL_act_349 ?_
      exact ⟨rfl, _, hN.mono (by omega), hS'⟩
  · have b267 : nI s ≤ nI k := nI_le (by omega) (by omega)
    have c0 := t_X4_of (G := G) (d := 4) (t := nI t) (k := nI k) (w := 0) hW hS.1
    have c1 := t_X4_of (G := G) (d := 4) (t := nI t) (k := nI k) (w := 1) hW hS.1
    rw [fin_n hW ht hk hlt] at kl
    refine z_iload dL_act_53 5 rfl ?_
    refine z_bipush dL_act_55 (v := 6) (by decide +kernel) ?_
    refine z_icmp_ge dL_act_57 (tgt := 96) (by decide) (fun h57 => ?_) (fun h57 => by first | exact absurd (by decide) h57 | exact absurd h57 (by decide))
    refine z_iload dL_act_96 5 rfl ?_
    refine z_bipush dL_act_98 (v := 8) (by decide +kernel) ?_
    refine z_icmp_ge dL_act_100 (tgt := 108) (by decide) (fun h100 => ?_) (fun h100 => by first | exact absurd (by decide) h100 | exact absurd h100 (by decide))
    refine z_iload dL_act_108 5 rfl ?_
    refine z_bipush dL_act_110 (v := 8) (by decide +kernel) ?_
    refine z_icmp_ne dL_act_112 (tgt := 232) (by decide) (fun h112 => ?_) (fun h112 => by first | exact absurd (by decide) h112 | exact absurd h112 (by decide))
    refine z_iload dL_act_232 5 rfl ?_
    refine z_bipush dL_act_234 (v := 9) (by decide +kernel) ?_
    refine z_icmp_ne dL_act_236 (tgt := 350) (by decide) (fun h236 => by first | exact absurd (rfl) h236 | exact absurd h236 (rfl)) (fun h236 => ?_)
    refine z_aload_n dL_act_239 0 rfl ?_
    refine z_iload_n dL_act_240 3 rfl ?_
    refine z_iload dL_act_241 4 rfl ?_
    refine z_iconst dL_act_243 (v := 0) rfl ?_
    refine z_callVF (d := 7) (As := [_, _, _]) c_X4_of rfl l_L_15 rfl rfl rfl (Nat.le_of_ble_eq_true rfl) ⟨Nat.le_of_ble_eq_true rfl, Nat.le_of_ble_eq_true rfl⟩ dL_act_244 c0 ?_
    refine z_istore (lo2 := [(0, _), (1, _), (2, _), (3, _), (4, _), (5, _), (6, _)]) dL_act_247 (Nat.le_of_ble_eq_true rfl) [1, 2, 3, 4, 5, 6, 0] rfl ?_
    refine z_aload_n dL_act_249 0 rfl ?_
    refine z_iload_n dL_act_250 3 rfl ?_
    refine z_iload dL_act_251 4 rfl ?_
    refine z_iconst dL_act_253 (v := 1) rfl ?_
    refine z_callVF (d := 7) (As := [_, _, _]) c_X4_of rfl l_L_15 rfl rfl rfl (Nat.le_of_ble_eq_true rfl) ⟨Nat.le_of_ble_eq_true rfl, Nat.le_of_ble_eq_true rfl⟩ dL_act_254 c1 ?_
    refine z_istore (lo2 := [(0, _), (1, _), (2, _), (3, _), (4, _), (5, _), (6, _), (7, _)]) dL_act_257 (Nat.le_of_ble_eq_true rfl) [1, 2, 3, 4, 5, 6, 7, 0] rfl ?_
    refine z_iload dL_act_259 4 rfl ?_
    refine z_aload_n dL_act_261 0 rfl ?_
    refine z_iload_n dL_act_262 3 rfl ?_
    refine z_iconst dL_act_263 (v := 0) rfl ?_
    refine z_callVF (d := 7) (As := [_, _]) c_X4_ofTroop rfl l_L_19 rfl rfl rfl (Nat.le_of_ble_eq_true rfl) ⟨Nat.le_of_ble_eq_true rfl, Nat.le_of_ble_eq_true rfl⟩ dL_act_264 q0 ?_
    refine z_icmp_ge dL_act_267 (tgt := 274) (by decide) (fun h267 => ?_) (fun h267 => by first | exact absurd (b267) h267 | exact absurd h267 (b267))
    refine z_iconst dL_act_274 (v := 0) rfl ?_
    refine z_istore (lo2 := [(0, _), (1, _), (2, _), (3, _), (4, _), (5, _), (6, _), (7, _), (8, _)]) dL_act_275 (Nat.le_of_ble_eq_true rfl) [1, 2, 3, 4, 5, 6, 7, 8, 0] rfl ?_
    refine z_aload_n dL_act_277 0 rfl ?_
    refine z_iload_n dL_act_278 3 rfl ?_
    refine z_iload dL_act_279 4 rfl ?_
    refine z_callV (d := 7) (As := [_, _]) c_X4_find rfl l_L_54 rfl rfl rfl (Nat.le_of_ble_eq_true rfl) ⟨Nat.le_of_ble_eq_true rfl, Nat.le_of_ble_eq_true rfl⟩ dL_act_281 kl (fun r281 u281 q281 => ?_)
    obtain ⟨z, hS'⟩ := q281
    cases z
    refine z_istore (lo2 := [(0, _), (1, _), (2, _), (3, _), (4, _), (5, _), (6, _), (7, _), (8, _), (9, _)]) dL_act_284 (Nat.le_of_ble_eq_true rfl) [1, 2, 3, 4, 5, 6, 7, 8, 9, 0] rfl ?_
    refine z_iload dL_act_286 8 rfl ?_
    refine z_if_ne dL_act_288 (tgt := 305) (by decide) (fun h288 => by first | exact absurd (rfl) h288 | exact absurd h288 (rfl)) (fun h288 => ?_)
    refine z_iload dL_act_291 9 rfl ?_
    refine z_iconst dL_act_293 (v := -1) rfl ?_
    refine z_icmp_ne dL_act_294 (tgt := 301) (by decide) (fun h294 => by first | exact absurd (rfl) h294 | exact absurd h294 (rfl)) (fun h294 => ?_)
    refine z_iconst dL_act_297 (v := 1) rfl ?_
    refine z_goto dL_act_298 (tgt := 349) (by decide) ?_
    refine z_zret rfl (by first | rfl | decide) dL_act_349 ?_
    exact ⟨rfl, _, hN.mono (by omega), hS'⟩
theorem act_resize (hN : NI N b) (hb : b ≤ 900) (hS : LI S N) (ht : t < cnt N) (hk : k < 16) : Lt G 9 280 2 128 M_L_act (fun v u => v = some 1 ∧ ∃ N', NI N' (b + 3) ∧ LI u N') 53 [(0, rv G 0), (1, .int g), (2, .int (nI (cnt N))), (3, .int (nI t)), (4, .int (nI k)), (5, .int (nI 10))] [] (S, [], 0, 0) := by
  have hW := hN.1
  have hT := hN.2.1 t ht
  have hWT := hT.1
  obtain ⟨hc, hc5⟩ := hW.cn
  obtain ⟨s, e1, e2, e3, e4⟩ := hWT.sz
  obtain ⟨o0, o1, o2, -⟩ := oft hW ht
  have q0 := q_t (G := G) hW hS o0
  rw [e2] at q0
  have q1 := q_t (G := G) hW hS o1
  have q2 := q_t (G := G) hW hS o2
  have hz := lowN_lt (x := g >>> ((12 : Int32) &&& 31)) (n := 6) (by decide)
  have cl := fun (u : mS) => t_L_low (G := G) (d := 7) (S := u) (x := g >>> ((12 : Int32) &&& 31)) (n := 6) (by decide) (by decide)
  generalize lowN (g >>> ((12 : Int32) &&& 31)) 6 = z at hz cl
  have e1z : 1 + nI z = nI (z + 1) := by rw [Int32.add_comm, nI_1]
  have kl := k_resize (G := G) hW hS (x := nI t) (y := nI (z + 1))
  rw [rsz_ok hW ht (by omega) (by omega)] at kl
  have hN' : NI (setTr N t (rszT (N.2 t) (nI (z + 1)))) (b + 3) := ni_tr hN (by omega) ((ti_rsz hT (by omega) (by omega)).mono (by omega))
  have eT : (setTr N t (rszT (N.2 t) (nI (z + 1)))).2 t = rszT (N.2 t) (nI (z + 1)) := tr_at
  have ht' : t < cnt (setTr N t (rszT (N.2 t) (nI (z + 1)))) := ht
  generalize setTr N t (rszT (N.2 t) (nI (z + 1))) = N' at kl hN' eT ht'
  have p2 : ofTA N' (nI t) 2 = nI (z + 1) := by rw [(oft hN'.1 ht').2.2.1, eT]; show upd (N.2 t).1 2 (nI (z + 1)) 2 = _; rw [upd, if_pos rfl]
  refine z_iload dL_act_53 5 rfl ?_
  refine z_bipush dL_act_55 (v := 6) (by decide +kernel) ?_
  refine z_icmp_ge dL_act_57 (tgt := 96) (by decide) (fun h57 => ?_) (fun h57 => by first | exact absurd (by decide) h57 | exact absurd h57 (by decide))
  refine z_iload dL_act_96 5 rfl ?_
  refine z_bipush dL_act_98 (v := 8) (by decide +kernel) ?_
  refine z_icmp_ge dL_act_100 (tgt := 108) (by decide) (fun h100 => ?_) (fun h100 => by first | exact absurd (by decide) h100 | exact absurd h100 (by decide))
  refine z_iload dL_act_108 5 rfl ?_
  refine z_bipush dL_act_110 (v := 8) (by decide +kernel) ?_
  refine z_icmp_ne dL_act_112 (tgt := 232) (by decide) (fun h112 => ?_) (fun h112 => by first | exact absurd (by decide) h112 | exact absurd h112 (by decide))
  refine z_iload dL_act_232 5 rfl ?_
  refine z_bipush dL_act_234 (v := 9) (by decide +kernel) ?_
  refine z_icmp_ne dL_act_236 (tgt := 350) (by decide) (fun h236 => ?_) (fun h236 => by first | exact absurd (by decide) h236 | exact absurd h236 (by decide))
  refine z_iload dL_act_350 5 rfl ?_
  refine z_bipush dL_act_352 (v := 10) (by decide +kernel) ?_
  refine z_icmp_ne dL_act_354 (tgt := 412) (by decide) (fun h354 => by first | exact absurd (rfl) h354 | exact absurd h354 (rfl)) (fun h354 => ?_)
  refine z_aload_n dL_act_357 0 rfl ?_
  refine z_iload_n dL_act_358 3 rfl ?_
  refine z_iconst dL_act_359 (v := 2) rfl ?_
  refine z_callVF (d := 7) (As := [_, _]) c_X4_ofTroop rfl l_L_19 rfl rfl rfl (Nat.le_of_ble_eq_true rfl) ⟨Nat.le_of_ble_eq_true rfl, Nat.le_of_ble_eq_true rfl⟩ dL_act_360 q2 ?_
  refine z_istore (lo2 := [(0, _), (1, _), (2, _), (3, _), (4, _), (5, _), (6, _)]) dL_act_363 (Nat.le_of_ble_eq_true rfl) [1, 2, 3, 4, 5, 6, 0] rfl ?_
  refine z_aload_n dL_act_365 0 rfl ?_
  refine z_iload_n dL_act_366 3 rfl ?_
  refine z_iconst dL_act_367 (v := 1) rfl ?_
  refine z_iload_n dL_act_368 1 rfl ?_
  refine z_bipush dL_act_369 (v := 12) (by decide +kernel) ?_
  refine z_ishr dL_act_371 ?_
  refine z_bipush dL_act_372 (v := 6) (by decide +kernel) ?_
  refine z_callSF (d := 7) (As := [_, _]) c_L_low l_L_40 rfl rfl rfl (Nat.le_of_ble_eq_true rfl) ⟨Nat.le_of_ble_eq_true rfl, Nat.le_of_ble_eq_true rfl⟩ dL_act_374 (cl _) ?_
  refine z_iadd dL_act_377 ?_
  rw [e1z]
  refine z_callV (d := 7) (As := [_, _]) c_X4_resize rfl l_L_57 rfl rfl rfl (Nat.le_of_ble_eq_true rfl) ⟨Nat.le_of_ble_eq_true rfl, Nat.le_of_ble_eq_true rfl⟩ dL_act_378 kl (fun r378 u378 q378 => ?_)
  obtain ⟨z, hS'⟩ := q378
  cases z
  have d2 := q_t (G := G) hN'.1 hS' p2
  refine z_iload dL_act_381 6 rfl ?_
  refine z_icmp_ne dL_act_383 (tgt := 410) (by decide) (fun h383 => by first | exact absurd (rfl) h383 | exact absurd h383 (rfl)) (fun h383 => ?_)
  refine z_aload_n dL_act_386 0 rfl ?_
  refine z_iload_n dL_act_387 3 rfl ?_
  refine z_iconst dL_act_388 (v := 2) rfl ?_
  refine z_callVF (d := 7) (As := [_, _]) c_X4_ofTroop rfl l_L_19 rfl rfl rfl (Nat.le_of_ble_eq_true rfl) ⟨Nat.le_of_ble_eq_true rfl, Nat.le_of_ble_eq_true rfl⟩ dL_act_389 d2 ?_
  refine z_iconst dL_act_392 (v := 1) rfl ?_
  refine z_iload_n dL_act_393 1 rfl ?_
  refine z_bipush dL_act_394 (v := 12) (by decide +kernel) ?_
  refine z_ishr dL_act_396 ?_
  refine z_bipush dL_act_397 (v := 6) (by decide +kernel) ?_
  refine z_callSF (d := 7) (As := [_, _]) c_L_low l_L_40 rfl rfl rfl (Nat.le_of_ble_eq_true rfl) ⟨Nat.le_of_ble_eq_true rfl, Nat.le_of_ble_eq_true rfl⟩ dL_act_399 (cl _) ?_
  refine z_iadd dL_act_402 ?_
  rw [e1z]
  refine z_icmp_ne dL_act_403 (tgt := 410) (by decide) (fun h403 => by first | exact absurd (rfl) h403 | exact absurd h403 (rfl)) (fun h403 => ?_)
  refine z_iconst dL_act_406 (v := 1) rfl ?_
  refine z_goto dL_act_407 (tgt := 411) (by decide) ?_
  refine z_zret rfl (by first | rfl | decide) dL_act_411 ?_
  exact ⟨rfl, _, hN', hS'⟩
theorem act_troop (hN : NI N b) (hb : b ≤ 900) (hS : LI S N) (ht : t < cnt N) (hk : k < 16) : Lt G 9 280 2 128 M_L_act (fun v u => v = some 1 ∧ ∃ N', NI N' (b + 3) ∧ LI u N') 53 [(0, rv G 0), (1, .int g), (2, .int (nI (cnt N))), (3, .int (nI t)), (4, .int (nI k)), (5, .int (nI 11))] [] (S, [], 0, 0) := by
  have hW := hN.1
  have hT := hN.2.1 t ht
  have hWT := hT.1
  obtain ⟨hc, hc5⟩ := hW.cn
  obtain ⟨s, e1, e2, e3, e4⟩ := hWT.sz
  obtain ⟨o0, o1, o2, -⟩ := oft hW ht
  have q0 := q_t (G := G) hW hS o0
  rw [e2] at q0
  have q1 := q_t (G := G) hW hS o1
  have q2 := q_t (G := G) hW hS o2
  have hz := lowN_lt (x := g >>> ((12 : Int32) &&& 31)) (n := 5) (by decide)
  have cl := fun (u : mS) => t_L_low (G := G) (d := 7) (S := u) (x := g >>> ((12 : Int32) &&& 31)) (n := 5) (by decide) (by decide)
  generalize lowN (g >>> ((12 : Int32) &&& 31)) 5 = z at hz cl
  have e1z : 1 + nI z = nI (z + 1) := by rw [Int32.add_comm, nI_1]
  have kl := k_troop (G := G) hW hS (x := nI (z + 1))
  by_cases h5 : cnt N = 5
  · rw [add_5 hW (by omega) (by omega) h5] at kl
    have b430 : nI (cnt N) = 5 := by rw [h5]; rfl
    refine z_iload dL_act_53 5 rfl ?_
    refine z_bipush dL_act_55 (v := 6) (by decide +kernel) ?_
    refine z_icmp_ge dL_act_57 (tgt := 96) (by decide) (fun h57 => ?_) (fun h57 => by first | exact absurd (by decide) h57 | exact absurd h57 (by decide))
    refine z_iload dL_act_96 5 rfl ?_
    refine z_bipush dL_act_98 (v := 8) (by decide +kernel) ?_
    refine z_icmp_ge dL_act_100 (tgt := 108) (by decide) (fun h100 => ?_) (fun h100 => by first | exact absurd (by decide) h100 | exact absurd h100 (by decide))
    refine z_iload dL_act_108 5 rfl ?_
    refine z_bipush dL_act_110 (v := 8) (by decide +kernel) ?_
    refine z_icmp_ne dL_act_112 (tgt := 232) (by decide) (fun h112 => ?_) (fun h112 => by first | exact absurd (by decide) h112 | exact absurd h112 (by decide))
    refine z_iload dL_act_232 5 rfl ?_
    refine z_bipush dL_act_234 (v := 9) (by decide +kernel) ?_
    refine z_icmp_ne dL_act_236 (tgt := 350) (by decide) (fun h236 => ?_) (fun h236 => by first | exact absurd (by decide) h236 | exact absurd h236 (by decide))
    refine z_iload dL_act_350 5 rfl ?_
    refine z_bipush dL_act_352 (v := 10) (by decide +kernel) ?_
    refine z_icmp_ne dL_act_354 (tgt := 412) (by decide) (fun h354 => ?_) (fun h354 => by first | exact absurd (by decide) h354 | exact absurd h354 (by decide))
    refine z_aload_n dL_act_412 0 rfl ?_
    refine z_iconst dL_act_413 (v := 1) rfl ?_
    refine z_iload_n dL_act_414 1 rfl ?_
    refine z_bipush dL_act_415 (v := 12) (by decide +kernel) ?_
    refine z_ishr dL_act_417 ?_
    refine z_iconst dL_act_418 (v := 5) rfl ?_
    refine z_callSF (d := 7) (As := [_, _]) c_L_low l_L_40 rfl rfl rfl (Nat.le_of_ble_eq_true rfl) ⟨Nat.le_of_ble_eq_true rfl, Nat.le_of_ble_eq_true rfl⟩ dL_act_419 (cl _) ?_
    refine z_iadd dL_act_422 ?_
    rw [e1z]
    refine z_callV (d := 7) (As := [_]) c_X4_troop rfl l_L_60 rfl rfl rfl (Nat.le_of_ble_eq_true rfl) ⟨Nat.le_of_ble_eq_true rfl, Nat.le_of_ble_eq_true rfl⟩ dL_act_423 kl (fun r423 u423 q423 => ?_)
    obtain ⟨z, hS'⟩ := q423
    cases z
    refine z_istore (lo2 := [(0, _), (1, _), (2, _), (3, _), (4, _), (5, _), (6, _)]) dL_act_426 (Nat.le_of_ble_eq_true rfl) [1, 2, 3, 4, 5, 6, 0] rfl ?_
    refine z_iload_n dL_act_428 2 rfl ?_
    refine z_iconst dL_act_429 (v := 5) rfl ?_
    refine z_icmp_ne dL_act_430 (tgt := 448) (by decide) (fun h430 => by first | exact absurd (b430) h430 | exact absurd h430 (b430)) (fun h430 => ?_)
    refine z_iload dL_act_433 6 rfl ?_
    refine z_bipush dL_act_435 (v := -4) (by decide +kernel) ?_
    refine z_icmp_ne dL_act_437 (tgt := 444) (by decide) (fun h437 => by first | exact absurd (rfl) h437 | exact absurd h437 (rfl)) (fun h437 => ?_)
    refine z_iconst dL_act_440 (v := 1) rfl ?_
    refine z_goto dL_act_441 (tgt := 478) (by decide) ?_
    refine z_zret rfl (by first | rfl | decide) dL_act_478 ?_
    exact ⟨rfl, _, hN.mono (by omega), hS'⟩
  · have hlt5 : cnt N < 5 := by omega
    have b430 : nI (cnt N) ≠ 5 := fun z => h5 ((nI_eq (b := 5) (by omega) (by decide)).mp z)
    rw [add_ok hW (by omega) (by omega) hlt5] at kl
    have ec := cnt_add (s := nI (z + 1)) hW hlt5
    have hN' : NI (addN N (nI (z + 1))) (b + 3) := ((nj_add hN.nj (by omega) (by omega) hlt5).ni (by rw [ec]; omega)).mono (by omega)
    have eT : (addN N (nI (z + 1))).2 (cnt N) = newT (nI (z + 1)) := if_pos rfl
    have ht' : cnt N < cnt (addN N (nI (z + 1))) := by rw [ec]; omega
    generalize addN N (nI (z + 1)) = N' at kl hN' eT ht'
    have p3 : ofTA N' (nI (cnt N)) 3 = nI (z + 1) := by rw [(oft hN'.1 ht').2.2.2.1, eT]; exact new_sz (z + 1) (by omega)
    refine z_iload dL_act_53 5 rfl ?_
    refine z_bipush dL_act_55 (v := 6) (by decide +kernel) ?_
    refine z_icmp_ge dL_act_57 (tgt := 96) (by decide) (fun h57 => ?_) (fun h57 => by first | exact absurd (by decide) h57 | exact absurd h57 (by decide))
    refine z_iload dL_act_96 5 rfl ?_
    refine z_bipush dL_act_98 (v := 8) (by decide +kernel) ?_
    refine z_icmp_ge dL_act_100 (tgt := 108) (by decide) (fun h100 => ?_) (fun h100 => by first | exact absurd (by decide) h100 | exact absurd h100 (by decide))
    refine z_iload dL_act_108 5 rfl ?_
    refine z_bipush dL_act_110 (v := 8) (by decide +kernel) ?_
    refine z_icmp_ne dL_act_112 (tgt := 232) (by decide) (fun h112 => ?_) (fun h112 => by first | exact absurd (by decide) h112 | exact absurd h112 (by decide))
    refine z_iload dL_act_232 5 rfl ?_
    refine z_bipush dL_act_234 (v := 9) (by decide +kernel) ?_
    refine z_icmp_ne dL_act_236 (tgt := 350) (by decide) (fun h236 => ?_) (fun h236 => by first | exact absurd (by decide) h236 | exact absurd h236 (by decide))
    refine z_iload dL_act_350 5 rfl ?_
    refine z_bipush dL_act_352 (v := 10) (by decide +kernel) ?_
    refine z_icmp_ne dL_act_354 (tgt := 412) (by decide) (fun h354 => ?_) (fun h354 => by first | exact absurd (by decide) h354 | exact absurd h354 (by decide))
    refine z_aload_n dL_act_412 0 rfl ?_
    refine z_iconst dL_act_413 (v := 1) rfl ?_
    refine z_iload_n dL_act_414 1 rfl ?_
    refine z_bipush dL_act_415 (v := 12) (by decide +kernel) ?_
    refine z_ishr dL_act_417 ?_
    refine z_iconst dL_act_418 (v := 5) rfl ?_
    refine z_callSF (d := 7) (As := [_, _]) c_L_low l_L_40 rfl rfl rfl (Nat.le_of_ble_eq_true rfl) ⟨Nat.le_of_ble_eq_true rfl, Nat.le_of_ble_eq_true rfl⟩ dL_act_419 (cl _) ?_
    refine z_iadd dL_act_422 ?_
    rw [e1z]
    refine z_callV (d := 7) (As := [_]) c_X4_troop rfl l_L_60 rfl rfl rfl (Nat.le_of_ble_eq_true rfl) ⟨Nat.le_of_ble_eq_true rfl, Nat.le_of_ble_eq_true rfl⟩ dL_act_423 kl (fun r423 u423 q423 => ?_)
    obtain ⟨z, hS'⟩ := q423
    cases z
    have d3 := q_t (G := G) hN'.1 hS' p3
    refine z_istore (lo2 := [(0, _), (1, _), (2, _), (3, _), (4, _), (5, _), (6, _)]) dL_act_426 (Nat.le_of_ble_eq_true rfl) [1, 2, 3, 4, 5, 6, 0] rfl ?_
    refine z_iload_n dL_act_428 2 rfl ?_
    refine z_iconst dL_act_429 (v := 5) rfl ?_
    refine z_icmp_ne dL_act_430 (tgt := 448) (by decide) (fun h430 => ?_) (fun h430 => by first | exact absurd (b430) h430 | exact absurd h430 (b430))
    refine z_iload dL_act_448 6 rfl ?_
    refine z_iload_n dL_act_450 2 rfl ?_
    refine z_icmp_ne dL_act_451 (tgt := 477) (by decide) (fun h451 => by first | exact absurd (rfl) h451 | exact absurd h451 (rfl)) (fun h451 => ?_)
    refine z_aload_n dL_act_454 0 rfl ?_
    refine z_iload_n dL_act_455 2 rfl ?_
    refine z_iconst dL_act_456 (v := 3) rfl ?_
    refine z_callVF (d := 7) (As := [_, _]) c_X4_ofTroop rfl l_L_19 rfl rfl rfl (Nat.le_of_ble_eq_true rfl) ⟨Nat.le_of_ble_eq_true rfl, Nat.le_of_ble_eq_true rfl⟩ dL_act_457 d3 ?_
    refine z_iconst dL_act_460 (v := 1) rfl ?_
    refine z_iload_n dL_act_461 1 rfl ?_
    refine z_bipush dL_act_462 (v := 12) (by decide +kernel) ?_
    refine z_ishr dL_act_464 ?_
    refine z_iconst dL_act_465 (v := 5) rfl ?_
    refine z_callSF (d := 7) (As := [_, _]) c_L_low l_L_40 rfl rfl rfl (Nat.le_of_ble_eq_true rfl) ⟨Nat.le_of_ble_eq_true rfl, Nat.le_of_ble_eq_true rfl⟩ dL_act_466 (cl _) ?_
    refine z_iadd dL_act_469 ?_
    rw [e1z]
    refine z_icmp_ne dL_act_470 (tgt := 477) (by decide) (fun h470 => by first | exact absurd (rfl) h470 | exact absurd h470 (rfl)) (fun h470 => ?_)
    refine z_iconst dL_act_473 (v := 1) rfl ?_
    refine z_goto dL_act_474 (tgt := 478) (by decide) ?_
    refine z_zret rfl (by first | rfl | decide) dL_act_478 ?_
    exact ⟨rfl, _, hN', hS'⟩
theorem t_L_act (hN : NI N b) (hb : b ≤ 900) (hS : LI S N) : CallL G 9 280 2 128 M_L_act [rv G 0, .int g] S (fun v u => v = some 1 ∧ ∃ N', NI N' (b + 3) ∧ LI u N') := by
  refine callL_of (lo := [(0, rv G 0), (1, .int g)]) (by decide +kernel) (Nat.le_of_ble_eq_true rfl) rfl ?_
  have hW := hN.1
  obtain ⟨hc, hc5⟩ := hW.cn
  have hc2 := hN.2.2.2.2
  have c1 : Call G 7 M_X4_count [rv G 0, .int 1] S (fun v u => v = some (nI (cnt N)) ∧ u = S) := q_cnt hW hS (fun n => hc)
  have ct := fun (u : mS) => t_L_low (G := G) (d := 7) (S := u) (x := g >>> ((4 : Int32) &&& 31)) (n := cnt N) (by omega) (by omega)
  have ht := lowN_lt (x := g >>> ((4 : Int32) &&& 31)) (n := cnt N) (by omega)
  generalize lowN (g >>> ((4 : Int32) &&& 31)) (cnt N) = t at ct ht
  have hWT := (hN.2.1 t ht).1
  obtain ⟨s, e1, e2, e3, e4⟩ := hWT.sz
  have q0 := q_t (G := G) hW hS (oft hW ht).1
  rw [e2] at q0
  have rest : ∀ k, k < 16 → Lt G 9 280 2 128 M_L_act (fun v u => v = some 1 ∧ ∃ N', NI N' (b + 3) ∧ LI u N') 43 [(0, rv G 0), (1, .int g), (2, .int (nI (cnt N))), (3, .int (nI t))] [.int (nI k)] (S, [], 0, 0) := by
    intro k hk
    have hw := lowN_lt (x := g) (n := 12) (by decide)
    have cw := fun (u : mS) => t_L_low (G := G) (d := 7) (S := u) (x := g) (n := 12) (by decide) (by decide)
    generalize lowN g 12 = w at hw cw
    have fin : Lt G 9 280 2 128 M_L_act (fun v u => v = some 1 ∧ ∃ N', NI N' (b + 3) ∧ LI u N') 53 [(0, rv G 0), (1, .int g), (2, .int (nI (cnt N))), (3, .int (nI t)), (4, .int (nI k)), (5, .int (nI w))] [] (S, [], 0, 0) := by
      rcases (by omega : w < 6 ∨ (6 ≤ w ∧ w < 8) ∨ w = 8 ∨ w = 9 ∨ w = 10 ∨ w = 11) with h | ⟨h, h2⟩ | rfl | rfl | rfl | rfl
      · exact act_comes hN hb hS ht hk h
      · exact act_passes hN hb hS ht hk h h2
      · exact act_lose hN hb hS ht hk
      · exact act_find hN hb hS ht hk
      · exact act_resize hN hb hS ht hk
      · exact act_troop hN hb hS ht hk
    refine z_istore (lo2 := [(0, _), (1, _), (2, _), (3, _), (4, _)]) dL_act_43 (Nat.le_of_ble_eq_true rfl) [1, 2, 3, 4, 0] rfl ?_
    refine z_iload_n dL_act_45 1 rfl ?_
    refine z_bipush dL_act_46 (v := 12) (by decide +kernel) ?_
    refine z_callSF (d := 7) (As := [_, _]) c_L_low l_L_40 rfl rfl rfl (Nat.le_of_ble_eq_true rfl) ⟨Nat.le_of_ble_eq_true rfl, Nat.le_of_ble_eq_true rfl⟩ dL_act_48 (cw _) ?_
    refine z_istore (lo2 := [(0, _), (1, _), (2, _), (3, _), (4, _), (5, _)]) dL_act_51 (Nat.le_of_ble_eq_true rfl) [1, 2, 3, 4, 5, 0] rfl ?_
    exact fin
  by_cases h20 : nI (lowN (g >>> ((20 : Int32) &&& 31)) 3) = 0
  ·
    refine z_aload_n dL_act_0 0 rfl ?_
    refine z_iconst dL_act_1 (v := 1) rfl ?_
    refine z_callVF (d := 7) (As := [_]) c_X4_count rfl l_L_9 rfl rfl rfl (Nat.le_of_ble_eq_true rfl) ⟨Nat.le_of_ble_eq_true rfl, Nat.le_of_ble_eq_true rfl⟩ dL_act_2 c1 ?_
    refine z_istore_n (lo2 := [(0, _), (1, _), (2, _)]) dL_act_5 rfl (Nat.le_of_ble_eq_true rfl) [1, 2, 0] rfl ?_
    refine z_iload_n dL_act_6 1 rfl ?_
    refine z_iconst dL_act_7 (v := 4) rfl ?_
    refine z_ishr dL_act_8 ?_
    refine z_iload_n dL_act_9 2 rfl ?_
    refine z_callSF (d := 7) (As := [_, _]) c_L_low l_L_40 rfl rfl rfl (Nat.le_of_ble_eq_true rfl) ⟨Nat.le_of_ble_eq_true rfl, Nat.le_of_ble_eq_true rfl⟩ dL_act_10 (ct _) ?_
    refine z_istore_n (lo2 := [(0, _), (1, _), (2, _), (3, _)]) dL_act_13 rfl (Nat.le_of_ble_eq_true rfl) [1, 2, 3, 0] rfl ?_
    refine z_iload_n dL_act_14 1 rfl ?_
    refine z_bipush dL_act_15 (v := 7) (by decide +kernel) ?_
    refine z_ishr dL_act_17 ?_
    refine z_iload_n dL_act_18 1 rfl ?_
    refine z_bipush dL_act_19 (v := 20) (by decide +kernel) ?_
    refine z_ishr dL_act_21 ?_
    refine z_iconst dL_act_22 (v := 3) rfl ?_
    refine z_callSF (d := 7) (As := [_, _]) c_L_low l_L_40 rfl rfl rfl (Nat.le_of_ble_eq_true rfl) ⟨Nat.le_of_ble_eq_true rfl, Nat.le_of_ble_eq_true rfl⟩ dL_act_23 (t_L_low (n := 3) (by decide) (by decide)) ?_
    refine z_if_ne dL_act_26 (tgt := 34) (by decide) (fun h26 => by first | exact absurd (h20) h26 | exact absurd h26 (h20)) (fun h26 => ?_)
    refine z_bipush dL_act_29 (v := 16) (by decide +kernel) ?_
    refine z_goto dL_act_31 (tgt := 40) (by decide) ?_
    refine z_callSF (d := 7) (As := [_, _]) c_L_low l_L_40 rfl rfl rfl (Nat.le_of_ble_eq_true rfl) ⟨Nat.le_of_ble_eq_true rfl, Nat.le_of_ble_eq_true rfl⟩ dL_act_40 (t_L_low (n := 16) (by decide) (by decide)) ?_
    exact rest _ (lowN_lt (by decide))
  ·
    refine z_aload_n dL_act_0 0 rfl ?_
    refine z_iconst dL_act_1 (v := 1) rfl ?_
    refine z_callVF (d := 7) (As := [_]) c_X4_count rfl l_L_9 rfl rfl rfl (Nat.le_of_ble_eq_true rfl) ⟨Nat.le_of_ble_eq_true rfl, Nat.le_of_ble_eq_true rfl⟩ dL_act_2 c1 ?_
    refine z_istore_n (lo2 := [(0, _), (1, _), (2, _)]) dL_act_5 rfl (Nat.le_of_ble_eq_true rfl) [1, 2, 0] rfl ?_
    refine z_iload_n dL_act_6 1 rfl ?_
    refine z_iconst dL_act_7 (v := 4) rfl ?_
    refine z_ishr dL_act_8 ?_
    refine z_iload_n dL_act_9 2 rfl ?_
    refine z_callSF (d := 7) (As := [_, _]) c_L_low l_L_40 rfl rfl rfl (Nat.le_of_ble_eq_true rfl) ⟨Nat.le_of_ble_eq_true rfl, Nat.le_of_ble_eq_true rfl⟩ dL_act_10 (ct _) ?_
    refine z_istore_n (lo2 := [(0, _), (1, _), (2, _), (3, _)]) dL_act_13 rfl (Nat.le_of_ble_eq_true rfl) [1, 2, 3, 0] rfl ?_
    refine z_iload_n dL_act_14 1 rfl ?_
    refine z_bipush dL_act_15 (v := 7) (by decide +kernel) ?_
    refine z_ishr dL_act_17 ?_
    refine z_iload_n dL_act_18 1 rfl ?_
    refine z_bipush dL_act_19 (v := 20) (by decide +kernel) ?_
    refine z_ishr dL_act_21 ?_
    refine z_iconst dL_act_22 (v := 3) rfl ?_
    refine z_callSF (d := 7) (As := [_, _]) c_L_low l_L_40 rfl rfl rfl (Nat.le_of_ble_eq_true rfl) ⟨Nat.le_of_ble_eq_true rfl, Nat.le_of_ble_eq_true rfl⟩ dL_act_23 (t_L_low (n := 3) (by decide) (by decide)) ?_
    refine z_if_ne dL_act_26 (tgt := 34) (by decide) (fun h26 => ?_) (fun h26 => by first | exact absurd (h20) h26 | exact absurd h26 (h20))
    refine z_aload_n dL_act_34 0 rfl ?_
    refine z_iload_n dL_act_35 3 rfl ?_
    refine z_iconst dL_act_36 (v := 0) rfl ?_
    refine z_callVF (d := 7) (As := [_, _]) c_X4_ofTroop rfl l_L_19 rfl rfl rfl (Nat.le_of_ble_eq_true rfl) ⟨Nat.le_of_ble_eq_true rfl, Nat.le_of_ble_eq_true rfl⟩ dL_act_37 q0 ?_
    refine z_callSF (d := 7) (As := [_, _]) c_L_low l_L_40 rfl rfl rfl (Nat.le_of_ble_eq_true rfl) ⟨Nat.le_of_ble_eq_true rfl, Nat.le_of_ble_eq_true rfl⟩ dL_act_40 (t_L_low (n := s) (by omega) (by omega)) ?_
    exact rest _ (Nat.lt_of_lt_of_le (lowN_lt (by omega)) e4)
end ACT
