/-! the law: passes, its walk -/
section PASSES
variable {G : mG} {S u : mS} {N N' : mN} {b q1 q2 many : Nat} {m0 : Int32} {Q : Option Int32 → mS → Prop} {f1 f2 : Nat → Int32}
theorem dv16 {x : Nat} (hx : x < 1000) : nI x / 16 = nI (x / 16) ∧ nI x - nI x / 16 * 16 = nI (x % 16) := ⟨pk_div (d := 16) (by omega) (by omega) (by omega), pk_rem (d := 16) (by omega) (by omega) (by omega)⟩
theorem lp_pas1 (hN : NI N b) (hS : LI S N) (hm : many ≤ cnt N) (hm4 : many ≤ 4) (hx : ∀ f1 f2 : Nat → Int32, (∀ y, y < 16 * many → f1 y = howB (N.2 (y / 16)) (y % 16) ∧ f2 y = minB (N.2 (y / 16)) (y % 16)) → Lt G 8 240 2 128 M_L_passes Q 93 [(0, rv G 0), (1, .ref q1), (2, .ref q2), (3, .int m0), (4, .int (nI many))] [] (S, [(q1, 64, f1), (q2, 64, f2)], 2, 128)) :
    ∀ r x (f1 f2 : Nat → Int32), r + x = 16 * many → (∀ y, y < x → f1 y = howB (N.2 (y / 16)) (y % 16) ∧ f2 y = minB (N.2 (y / 16)) (y % 16)) → Lt G 8 240 2 128 M_L_passes Q 39 [(0, rv G 0), (1, .ref q1), (2, .ref q2), (3, .int m0), (4, .int (nI many)), (5, .int (nI x))] [] (S, [(q1, 64, f1), (q2, 64, f2)], 2, 128) := by
  have hW := hN.1
  have hc5 := hW.cn.2
  have em : 16 * nI many = nI (16 * many) := pk_mul 16 many
  intro r
  induction r with
  | zero =>
    intro x f1 f2 hr hf
    obtain rfl : x = 16 * many := by omega
    refine z_iload dL_passes_39 5 rfl ?_
    refine z_bipush dL_passes_41 (v := 16) (by decide +kernel) ?_
    refine z_iload dL_passes_43 4 rfl ?_
    refine z_imul dL_passes_45 ?_
    rw [em]
    refine z_icmp_ge dL_passes_46 (tgt := 93) (by decide) (fun h46 => ?_) (fun h46 => by first | exact absurd (Int32.le_refl _) h46 | exact absurd h46 (Int32.le_refl _))
    exact z_sub [0, 1, 2, 3, 4] rfl (hx f1 f2 hf)
  | succ r ih =>
    intro x f1 f2 hr hf
    have hxm : x < 16 * many := by omega
    have b46 : ¬ nI (16 * many) ≤ nI x := nI_ge hxm (by omega)
    have ht : x / 16 < cnt N := by omega
    have hk : x % 16 < 16 := Nat.mod_lt _ (by decide)
    have hx64 : x < 64 := by omega
    obtain ⟨ed, er⟩ := dv16 (show x < 1000 by omega)
    have cA : Call G 7 M_X4_of [rv G 0, .int (nI (x / 16)), .int (nI (x % 16)), .int 0] S (fun v u => v = some (howB (N.2 (x / 16)) (x % 16)) ∧ u = S) := by
      unfold howB
      cases h : knB (N.2 (x / 16)) (x % 16)
      · exact q_ofn hW hS ht hk h 0
      · exact q_of0 hW hS ht hk h
    have cB : Call G 7 M_X4_of [rv G 0, .int (nI (x / 16)), .int (nI (x % 16)), .int 1] S (fun v u => v = some (minB (N.2 (x / 16)) (x % 16)) ∧ u = S) := by
      unfold minB
      cases h : knB (N.2 (x / 16)) (x % 16)
      · exact q_ofn hW hS ht hk h 1
      · exact q_of1 hW hS ht hk h
    refine z_iload dL_passes_39 5 rfl ?_
    refine z_bipush dL_passes_41 (v := 16) (by decide +kernel) ?_
    refine z_iload dL_passes_43 4 rfl ?_
    refine z_imul dL_passes_45 ?_
    rw [em]
    refine z_icmp_ge dL_passes_46 (tgt := 93) (by decide) (fun h46 => by first | exact absurd (b46) h46 | exact absurd h46 (b46)) (fun h46 => ?_)
    refine z_aloadr_n dL_passes_49 1 rfl ?_
    refine z_iload dL_passes_50 5 rfl ?_
    refine z_aload_n dL_passes_52 0 rfl ?_
    refine z_iload dL_passes_53 5 rfl ?_
    refine z_bipush dL_passes_55 (v := 16) (by decide +kernel) ?_
    refine z_idiv dL_passes_57 (by decide) ?_
    refine z_iload dL_passes_58 5 rfl ?_
    refine z_bipush dL_passes_60 (v := 16) (by decide +kernel) ?_
    refine z_irem dL_passes_62 (by decide) ?_
    refine z_iconst dL_passes_63 (v := 0) rfl ?_
    rw [er, ed]
    refine z_callVF (d := 7) (As := [_, _, _]) c_X4_of rfl l_L_15 rfl rfl rfl (Nat.le_of_ble_eq_true rfl) ⟨Nat.le_of_ble_eq_true rfl, Nat.le_of_ble_eq_true rfl⟩ dL_passes_64 cA ?_
    refine z_iast (j := x) (j0 := 0) rfl rfl hx64 (by decide) dL_passes_67 ?_
    refine z_aloadr_n dL_passes_68 2 rfl ?_
    refine z_iload dL_passes_69 5 rfl ?_
    refine z_aload_n dL_passes_71 0 rfl ?_
    refine z_iload dL_passes_72 5 rfl ?_
    refine z_bipush dL_passes_74 (v := 16) (by decide +kernel) ?_
    refine z_idiv dL_passes_76 (by decide) ?_
    refine z_iload dL_passes_77 5 rfl ?_
    refine z_bipush dL_passes_79 (v := 16) (by decide +kernel) ?_
    refine z_irem dL_passes_81 (by decide) ?_
    refine z_iconst dL_passes_82 (v := 1) rfl ?_
    rw [er, ed]
    refine z_callVF (d := 7) (As := [_, _, _]) c_X4_of rfl l_L_15 rfl rfl rfl (Nat.le_of_ble_eq_true rfl) ⟨Nat.le_of_ble_eq_true rfl, Nat.le_of_ble_eq_true rfl⟩ dL_passes_83 cB ?_
    refine z_iast (j := x) (j0 := 1) rfl rfl hx64 (by decide) dL_passes_86 ?_
    refine z_iinc (lo2 := [(0, _), (1, _), (2, _), (3, _), (4, _), (5, _)]) dL_passes_87 5 rfl (w := 1) rfl (Nat.le_of_ble_eq_true rfl) [1, 2, 3, 4, 5, 0] rfl ?_
    refine z_goto dL_passes_90 (tgt := 39) (by decide) ?_
    rw [nI_1]
    refine ih (x + 1) _ _ (by omega) (fun y hy => ?_)
    by_cases e : y = x
    · subst e; simp only [upd, if_true]; exact ⟨trivial, trivial⟩
    · simp only [upd, if_neg e]; exact hf y (by omega)
theorem lp_pas2 (hN : NI N b) (hW' : WN N') (hS' : LI u N') (hc' : cnt N' = cnt N) (hm : many ≤ cnt N) (hm4 : many ≤ 4) (hT' : ∀ t, t < cnt N → N'.2 t = wlkT (N.2 t) (N.1 0) 16) (hp : N'.1 0 = N.1 0) (hf : ∀ y, y < 16 * many → f1 y = howB (N.2 (y / 16)) (y % 16) ∧ f2 y = minB (N.2 (y / 16)) (y % 16)) (hQ : Q (some 1) u) :
    ∀ r x, r + x = 16 * many → Lt G 8 240 2 128 M_L_passes Q 141 [(0, rv G 0), (1, .ref q1), (2, .ref q2), (4, .int (nI many)), (6, .int 0), (7, .int (nI x))] [] (u, [(q1, 64, f1), (q2, 64, f2)], 2, 128) := by
  have hW := hN.1
  have hc5 := hW.cn.2
  have em : 16 * nI many = nI (16 * many) := pk_mul 16 many
  intro r
  induction r with
  | zero =>
    intro x hr
    obtain rfl : x = 16 * many := by omega
    refine z_iload dL_passes_141 5 rfl ?_
    refine z_bipush dL_passes_143 (v := 16) (by decide +kernel) ?_
    refine z_iload dL_passes_145 3 rfl ?_
    refine z_imul dL_passes_147 ?_
    rw [em]
    refine z_icmp_ge dL_passes_148 (tgt := 337) (by decide) (fun h148 => ?_) (fun h148 => by first | exact absurd (Int32.le_refl _) h148 | exact absurd h148 (Int32.le_refl _))
    refine z_iconst dL_passes_337 (v := 1) rfl ?_
    refine z_zret rfl (by first | rfl | decide) dL_passes_338 ?_
    exact hQ
  | succ r ih =>
    intro x hr
    have hxm : x < 16 * many := by omega
    have b148 : ¬ nI (16 * many) ≤ nI x := nI_ge hxm (by omega)
    have hx64 : x < 64 := by omega
    obtain ⟨ed, er⟩ := dv16 (show x < 1000 by omega)
    obtain ⟨g1, g2⟩ := hf x hxm
    have ht : x / 16 < cnt N := by omega
    have hk : x % 16 < 16 := Nat.mod_lt _ (by decide)
    generalize x / 16 = t at ed g1 g2 ht
    generalize x % 16 = k at er g1 g2 hk
    have hT := hN.2.1 t ht
    have hWT := hT.1
    have ht' : t < cnt N' := by rw [hc']; exact ht
    have eT := hT' t ht
    have hsz : tsz (N'.2 t) = tsz (N.2 t) := by rw [eT]; exact wk_sz
    obtain ⟨s, e1, e2, e3, e4⟩ := hWT.sz
    have e2' : (N'.2 t).1 0 = nI s := by rw [eT, wk_g (by decide)]; exact e2
    have cs := q_t (G := G) hW' hS' (oft hW' ht').1
    rw [e2'] at cs
    have cp : Call G 7 M_X4_count [rv G 0, .int 6] u (fun v w => v = some (N.1 0) ∧ w = u) := q_cnt hW' hS' (fun n => hp)
    obtain ⟨w1, w2, -⟩ := hT.2.1 k hk
    unfold howB at g1
    unfold minB at g2
    have nx : ∀ (x8 x9 x10 x11 x12 : Int32), Lt G 8 240 2 128 M_L_passes Q 331 [(0, rv G 0), (1, .ref q1), (2, .ref q2), (4, .int (nI many)), (6, .int 0), (7, .int (nI x)), (8, .int x8), (9, .int x9), (10, .int x10), (11, .int x11), (12, .int x12)] [] (u, [(q1, 64, f1), (q2, 64, f2)], 2, 128) := by
      intro x8 x9 x10 x11 x12
      refine z_iinc (lo2 := [(0, _), (1, _), (2, _), (4, _), (6, _), (7, _), (8, _), (9, _), (10, _), (11, _), (12, _)]) dL_passes_331 5 rfl (w := 1) rfl (Nat.le_of_ble_eq_true rfl) [1, 2, 3, 4, 5, 0, 6, 7, 8, 9, 10] rfl ?_
      refine z_goto dL_passes_334 (tgt := 141) (by decide) ?_
      rw [nI_1]
      exact z_sub [0, 1, 2, 3, 4, 5] rfl (ih (x + 1) (by omega))
    cases hkn : knB (N.2 t) k
    · rw [hkn, if_neg (by decide)] at g1 g2
      have hns : ¬ k < tsz (N.2 t) := fun z => by rw [kn_lt z] at hkn; cases hkn
      have h0 : (N.2 t).2.1 k = 0 := by
        rcases (hWT.2.2 k hk).2.1 (by omega) with z | z
        · exact z
        · rw [kn_of hWT hk (by rw [z]; decide)] at hkn; cases hkn
      have hkn' : knB (N'.2 t) k = false := by
        unfold knB
        rw [hsz, decide_eq_false hns, eT, (wk_o hk (by rw [h0]; decide) (by rw [h0]; decide)).1, h0]; rfl
      have d0 := q_ofn (G := G) hW' hS' ht' hk hkn' 0
      refine z_iload dL_passes_141 5 rfl ?_
      refine z_bipush dL_passes_143 (v := 16) (by decide +kernel) ?_
      refine z_iload dL_passes_145 3 rfl ?_
      refine z_imul dL_passes_147 ?_
      rw [em]
      refine z_icmp_ge dL_passes_148 (tgt := 337) (by decide) (fun h148 => by first | exact absurd (b148) h148 | exact absurd h148 (b148)) (fun h148 => ?_)
      refine z_iload dL_passes_151 4 rfl ?_
      refine z_if_ne dL_passes_153 (tgt := 337) (by decide) (fun h153 => by first | exact absurd (rfl) h153 | exact absurd h153 (rfl)) (fun h153 => ?_)
      refine z_iload dL_passes_156 5 rfl ?_
      refine z_bipush dL_passes_158 (v := 16) (by decide +kernel) ?_
      refine z_idiv dL_passes_160 (by decide) ?_
      rw [ed]
      refine z_istore (lo2 := [(0, _), (1, _), (2, _), (4, _), (6, _), (7, _), (8, _)]) dL_passes_161 (Nat.le_of_ble_eq_true rfl) [1, 2, 3, 4, 5, 6, 0] rfl ?_
      refine z_iload dL_passes_163 5 rfl ?_
      refine z_bipush dL_passes_165 (v := 16) (by decide +kernel) ?_
      refine z_irem dL_passes_167 (by decide) ?_
      rw [er]
      refine z_istore (lo2 := [(0, _), (1, _), (2, _), (4, _), (6, _), (7, _), (8, _), (9, _)]) dL_passes_168 (Nat.le_of_ble_eq_true rfl) [1, 2, 3, 4, 5, 6, 7, 0] rfl ?_
      refine z_aloadr_n dL_passes_170 1 rfl ?_
      refine z_iload dL_passes_171 5 rfl ?_
      refine z_iald (j := x) (j0 := 0) rfl rfl hx64 (by decide) dL_passes_173 ?_
      rw [g1]
      refine z_iconst dL_passes_174 (v := 3) rfl ?_
      refine z_icmp_ne dL_passes_175 (tgt := 190) (by decide) (fun h175 => ?_) (fun h175 => by first | exact absurd (by decide) h175 | exact absurd h175 (by decide))
      refine z_iconst dL_passes_190 (v := 0) rfl ?_
      refine z_istore (lo2 := [(0, _), (1, _), (2, _), (4, _), (6, _), (7, _), (8, _), (9, _), (10, _)]) dL_passes_191 (Nat.le_of_ble_eq_true rfl) [1, 2, 3, 4, 5, 6, 7, 8, 0] rfl ?_
      refine z_iload dL_passes_193 8 rfl ?_
      refine z_if_eq dL_passes_195 (tgt := 218) (by decide) (fun h195 => ?_) (fun h195 => by first | exact absurd (rfl) h195 | exact absurd h195 (rfl))
      refine z_aloadr_n dL_passes_218 1 rfl ?_
      refine z_iload dL_passes_219 5 rfl ?_
      refine z_iald (j := x) (j0 := 0) rfl rfl hx64 (by decide) dL_passes_221 ?_
      rw [g1]
      refine z_istore (lo2 := [(0, _), (1, _), (2, _), (4, _), (6, _), (7, _), (8, _), (9, _), (10, _), (11, _)]) dL_passes_222 (Nat.le_of_ble_eq_true rfl) [1, 2, 3, 4, 5, 6, 7, 8, 9, 0] rfl ?_
      refine z_aloadr_n dL_passes_224 1 rfl ?_
      refine z_iload dL_passes_225 5 rfl ?_
      refine z_iald (j := x) (j0 := 0) rfl rfl hx64 (by decide) dL_passes_227 ?_
      rw [g1]
      refine z_iconst dL_passes_228 (v := 3) rfl ?_
      refine z_icmp_ne dL_passes_229 (tgt := 246) (by decide) (fun h229 => ?_) (fun h229 => by first | exact absurd (by decide) h229 | exact absurd h229 (by decide))
      refine z_aloadr_n dL_passes_246 1 rfl ?_
      refine z_iload dL_passes_247 5 rfl ?_
      refine z_iald (j := x) (j0 := 0) rfl rfl hx64 (by decide) dL_passes_249 ?_
      rw [g1]
      refine z_iconst dL_passes_250 (v := 4) rfl ?_
      refine z_icmp_ne dL_passes_251 (tgt := 263) (by decide) (fun h251 => ?_) (fun h251 => by first | exact absurd (by decide) h251 | exact absurd h251 (by decide))
      refine z_iconst dL_passes_263 (v := 0) rfl ?_
      refine z_istore (lo2 := [(0, _), (1, _), (2, _), (4, _), (6, _), (7, _), (8, _), (9, _), (10, _), (11, _), (12, _)]) dL_passes_264 (Nat.le_of_ble_eq_true rfl) [1, 2, 3, 4, 5, 6, 7, 8, 9, 10, 0] rfl ?_
      refine z_aload_n dL_passes_266 0 rfl ?_
      refine z_iload dL_passes_267 6 rfl ?_
      refine z_iload dL_passes_269 7 rfl ?_
      refine z_iconst dL_passes_271 (v := 0) rfl ?_
      refine z_callVF (d := 7) (As := [_, _, _]) c_X4_of rfl l_L_15 rfl rfl rfl (Nat.le_of_ble_eq_true rfl) ⟨Nat.le_of_ble_eq_true rfl, Nat.le_of_ble_eq_true rfl⟩ dL_passes_272 d0 ?_
      refine z_iload dL_passes_275 9 rfl ?_
      refine z_icmp_ne dL_passes_277 (tgt := 329) (by decide) (fun h277 => by first | exact absurd (rfl) h277 | exact absurd h277 (rfl)) (fun h277 => ?_)
      refine z_iload dL_passes_280 9 rfl ?_
      refine z_if_lt dL_passes_282 (tgt := 299) (by decide) (fun h282 => ?_) (fun h282 => by first | exact absurd (by decide) h282 | exact absurd h282 (by decide))
      refine z_iload dL_passes_299 9 rfl ?_
      refine z_iconst dL_passes_301 (v := 4) rfl ?_
      refine z_icmp_ne dL_passes_302 (tgt := 331) (by decide) (fun h302 => ?_) (fun h302 => by first | exact absurd (by decide) h302 | exact absurd h302 (by decide))
      exact nx _ _ _ _ _
    · rw [hkn, if_pos rfl] at g1 g2
      by_cases h3 : (N.2 t).2.1 k = 3
      · rw [h3] at g1
        obtain ⟨v1, v2⟩ := le1_3 (w1 h3)
        by_cases hfr : (N.2 t).2.2.1 k - 1 ≤ 0
        · rw [v1 hfr] at g2
          obtain ⟨y1, y2, y3⟩ := wk_3e (p := N.1 0) hk h3 hfr
          rw [← eT] at y1 y2
          by_cases hlt : k < tsz (N.2 t)
          · have b207 : ¬ nI s ≤ nI k := nI_ge (by omega) (by omega)
            have hkn' : knB (N'.2 t) k = true := kn_lt (by rw [hsz]; exact hlt)
            have d0 := q_of0 (G := G) hW' hS' ht' hk hkn'
            have d1 := q_of1 (G := G) hW' hS' ht' hk hkn'
            rw [y1] at d0
            rw [y2] at d1
            refine z_iload dL_passes_141 5 rfl ?_
            refine z_bipush dL_passes_143 (v := 16) (by decide +kernel) ?_
            refine z_iload dL_passes_145 3 rfl ?_
            refine z_imul dL_passes_147 ?_
            rw [em]
            refine z_icmp_ge dL_passes_148 (tgt := 337) (by decide) (fun h148 => by first | exact absurd (b148) h148 | exact absurd h148 (b148)) (fun h148 => ?_)
            refine z_iload dL_passes_151 4 rfl ?_
            refine z_if_ne dL_passes_153 (tgt := 337) (by decide) (fun h153 => by first | exact absurd (rfl) h153 | exact absurd h153 (rfl)) (fun h153 => ?_)
            refine z_iload dL_passes_156 5 rfl ?_
            refine z_bipush dL_passes_158 (v := 16) (by decide +kernel) ?_
            refine z_idiv dL_passes_160 (by decide) ?_
            rw [ed]
            refine z_istore (lo2 := [(0, _), (1, _), (2, _), (4, _), (6, _), (7, _), (8, _)]) dL_passes_161 (Nat.le_of_ble_eq_true rfl) [1, 2, 3, 4, 5, 6, 0] rfl ?_
            refine z_iload dL_passes_163 5 rfl ?_
            refine z_bipush dL_passes_165 (v := 16) (by decide +kernel) ?_
            refine z_irem dL_passes_167 (by decide) ?_
            rw [er]
            refine z_istore (lo2 := [(0, _), (1, _), (2, _), (4, _), (6, _), (7, _), (8, _), (9, _)]) dL_passes_168 (Nat.le_of_ble_eq_true rfl) [1, 2, 3, 4, 5, 6, 7, 0] rfl ?_
            refine z_aloadr_n dL_passes_170 1 rfl ?_
            refine z_iload dL_passes_171 5 rfl ?_
            refine z_iald (j := x) (j0 := 0) rfl rfl hx64 (by decide) dL_passes_173 ?_
            rw [g1]
            refine z_iconst dL_passes_174 (v := 3) rfl ?_
            refine z_icmp_ne dL_passes_175 (tgt := 190) (by decide) (fun h175 => by first | exact absurd (rfl) h175 | exact absurd h175 (rfl)) (fun h175 => ?_)
            refine z_aloadr_n dL_passes_178 2 rfl ?_
            refine z_iload dL_passes_179 5 rfl ?_
            refine z_iald (j := x) (j0 := 1) rfl rfl hx64 (by decide) dL_passes_181 ?_
            rw [g2]
            refine z_iconst dL_passes_182 (v := 1) rfl ?_
            refine z_icmp_ne dL_passes_183 (tgt := 190) (by decide) (fun h183 => by first | exact absurd (rfl) h183 | exact absurd h183 (rfl)) (fun h183 => ?_)
            refine z_iconst dL_passes_186 (v := 1) rfl ?_
            refine z_goto dL_passes_187 (tgt := 191) (by decide) ?_
            refine z_istore (lo2 := [(0, _), (1, _), (2, _), (4, _), (6, _), (7, _), (8, _), (9, _), (10, _)]) dL_passes_191 (Nat.le_of_ble_eq_true rfl) [1, 2, 3, 4, 5, 6, 7, 8, 0] rfl ?_
            refine z_iload dL_passes_193 8 rfl ?_
            refine z_if_eq dL_passes_195 (tgt := 218) (by decide) (fun h195 => by first | exact absurd (by decide) h195 | exact absurd h195 (by decide)) (fun h195 => ?_)
            refine z_iload dL_passes_198 7 rfl ?_
            refine z_aload_n dL_passes_200 0 rfl ?_
            refine z_iload dL_passes_201 6 rfl ?_
            refine z_iconst dL_passes_203 (v := 0) rfl ?_
            refine z_callVF (d := 7) (As := [_, _]) c_X4_ofTroop rfl l_L_19 rfl rfl rfl (Nat.le_of_ble_eq_true rfl) ⟨Nat.le_of_ble_eq_true rfl, Nat.le_of_ble_eq_true rfl⟩ dL_passes_204 cs ?_
            refine z_icmp_ge dL_passes_207 (tgt := 214) (by decide) (fun h207 => by first | exact absurd (b207) h207 | exact absurd h207 (b207)) (fun h207 => ?_)
            refine z_iconst dL_passes_210 (v := 0) rfl ?_
            refine z_goto dL_passes_211 (tgt := 222) (by decide) ?_
            refine z_istore (lo2 := [(0, _), (1, _), (2, _), (4, _), (6, _), (7, _), (8, _), (9, _), (10, _), (11, _)]) dL_passes_222 (Nat.le_of_ble_eq_true rfl) [1, 2, 3, 4, 5, 6, 7, 8, 9, 0] rfl ?_
            refine z_aloadr_n dL_passes_224 1 rfl ?_
            refine z_iload dL_passes_225 5 rfl ?_
            refine z_iald (j := x) (j0 := 0) rfl rfl hx64 (by decide) dL_passes_227 ?_
            rw [g1]
            refine z_iconst dL_passes_228 (v := 3) rfl ?_
            refine z_icmp_ne dL_passes_229 (tgt := 246) (by decide) (fun h229 => by first | exact absurd (rfl) h229 | exact absurd h229 (rfl)) (fun h229 => ?_)
            refine z_iload dL_passes_232 8 rfl ?_
            refine z_if_ne dL_passes_234 (tgt := 246) (by decide) (fun h234 => ?_) (fun h234 => by first | exact absurd (by decide) h234 | exact absurd h234 (by decide))
            refine z_aloadr_n dL_passes_246 1 rfl ?_
            refine z_iload dL_passes_247 5 rfl ?_
            refine z_iald (j := x) (j0 := 0) rfl rfl hx64 (by decide) dL_passes_249 ?_
            rw [g1]
            refine z_iconst dL_passes_250 (v := 4) rfl ?_
            refine z_icmp_ne dL_passes_251 (tgt := 263) (by decide) (fun h251 => ?_) (fun h251 => by first | exact absurd (by decide) h251 | exact absurd h251 (by decide))
            refine z_iconst dL_passes_263 (v := 0) rfl ?_
            refine z_istore (lo2 := [(0, _), (1, _), (2, _), (4, _), (6, _), (7, _), (8, _), (9, _), (10, _), (11, _), (12, _)]) dL_passes_264 (Nat.le_of_ble_eq_true rfl) [1, 2, 3, 4, 5, 6, 7, 8, 9, 10, 0] rfl ?_
            refine z_aload_n dL_passes_266 0 rfl ?_
            refine z_iload dL_passes_267 6 rfl ?_
            refine z_iload dL_passes_269 7 rfl ?_
            refine z_iconst dL_passes_271 (v := 0) rfl ?_
            refine z_callVF (d := 7) (As := [_, _, _]) c_X4_of rfl l_L_15 rfl rfl rfl (Nat.le_of_ble_eq_true rfl) ⟨Nat.le_of_ble_eq_true rfl, Nat.le_of_ble_eq_true rfl⟩ dL_passes_272 d0 ?_
            refine z_iload dL_passes_275 9 rfl ?_
            refine z_icmp_ne dL_passes_277 (tgt := 329) (by decide) (fun h277 => by first | exact absurd (rfl) h277 | exact absurd h277 (rfl)) (fun h277 => ?_)
            refine z_iload dL_passes_280 9 rfl ?_
            refine z_if_lt dL_passes_282 (tgt := 299) (by decide) (fun h282 => by first | exact absurd (by decide) h282 | exact absurd h282 (by decide)) (fun h282 => ?_)
            refine z_aload_n dL_passes_285 0 rfl ?_
            refine z_iload dL_passes_286 6 rfl ?_
            refine z_iload dL_passes_288 7 rfl ?_
            refine z_iconst dL_passes_290 (v := 1) rfl ?_
            refine z_callVF (d := 7) (As := [_, _, _]) c_X4_of rfl l_L_15 rfl rfl rfl (Nat.le_of_ble_eq_true rfl) ⟨Nat.le_of_ble_eq_true rfl, Nat.le_of_ble_eq_true rfl⟩ dL_passes_291 d1 ?_
            refine z_iload dL_passes_294 10 rfl ?_
            refine z_icmp_ne dL_passes_296 (tgt := 329) (by decide) (fun h296 => by first | exact absurd (rfl) h296 | exact absurd h296 (rfl)) (fun h296 => ?_)
            refine z_iload dL_passes_299 9 rfl ?_
            refine z_iconst dL_passes_301 (v := 4) rfl ?_
            refine z_icmp_ne dL_passes_302 (tgt := 331) (by decide) (fun h302 => ?_) (fun h302 => by first | exact absurd (by decide) h302 | exact absurd h302 (by decide))
            exact nx _ _ _ _ _
          · have b207 : nI s ≤ nI k := nI_le (by omega) (by omega)
            have hkn' : knB (N'.2 t) k = false := by
              unfold knB
              rw [hsz, decide_eq_false hlt, y1]; rfl
            have d0 := q_ofn (G := G) hW' hS' ht' hk hkn' 0
            refine z_iload dL_passes_141 5 rfl ?_
            refine z_bipush dL_passes_143 (v := 16) (by decide +kernel) ?_
            refine z_iload dL_passes_145 3 rfl ?_
            refine z_imul dL_passes_147 ?_
            rw [em]
            refine z_icmp_ge dL_passes_148 (tgt := 337) (by decide) (fun h148 => by first | exact absurd (b148) h148 | exact absurd h148 (b148)) (fun h148 => ?_)
            refine z_iload dL_passes_151 4 rfl ?_
            refine z_if_ne dL_passes_153 (tgt := 337) (by decide) (fun h153 => by first | exact absurd (rfl) h153 | exact absurd h153 (rfl)) (fun h153 => ?_)
            refine z_iload dL_passes_156 5 rfl ?_
            refine z_bipush dL_passes_158 (v := 16) (by decide +kernel) ?_
            refine z_idiv dL_passes_160 (by decide) ?_
            rw [ed]
            refine z_istore (lo2 := [(0, _), (1, _), (2, _), (4, _), (6, _), (7, _), (8, _)]) dL_passes_161 (Nat.le_of_ble_eq_true rfl) [1, 2, 3, 4, 5, 6, 0] rfl ?_
            refine z_iload dL_passes_163 5 rfl ?_
            refine z_bipush dL_passes_165 (v := 16) (by decide +kernel) ?_
            refine z_irem dL_passes_167 (by decide) ?_
            rw [er]
            refine z_istore (lo2 := [(0, _), (1, _), (2, _), (4, _), (6, _), (7, _), (8, _), (9, _)]) dL_passes_168 (Nat.le_of_ble_eq_true rfl) [1, 2, 3, 4, 5, 6, 7, 0] rfl ?_
            refine z_aloadr_n dL_passes_170 1 rfl ?_
            refine z_iload dL_passes_171 5 rfl ?_
            refine z_iald (j := x) (j0 := 0) rfl rfl hx64 (by decide) dL_passes_173 ?_
            rw [g1]
            refine z_iconst dL_passes_174 (v := 3) rfl ?_
            refine z_icmp_ne dL_passes_175 (tgt := 190) (by decide) (fun h175 => by first | exact absurd (rfl) h175 | exact absurd h175 (rfl)) (fun h175 => ?_)
            refine z_aloadr_n dL_passes_178 2 rfl ?_
            refine z_iload dL_passes_179 5 rfl ?_
            refine z_iald (j := x) (j0 := 1) rfl rfl hx64 (by decide) dL_passes_181 ?_
            rw [g2]
            refine z_iconst dL_passes_182 (v := 1) rfl ?_
            refine z_icmp_ne dL_passes_183 (tgt := 190) (by decide) (fun h183 => by first | exact absurd (rfl) h183 | exact absurd h183 (rfl)) (fun h183 => ?_)
            refine z_iconst dL_passes_186 (v := 1) rfl ?_
            refine z_goto dL_passes_187 (tgt := 191) (by decide) ?_
            refine z_istore (lo2 := [(0, _), (1, _), (2, _), (4, _), (6, _), (7, _), (8, _), (9, _), (10, _)]) dL_passes_191 (Nat.le_of_ble_eq_true rfl) [1, 2, 3, 4, 5, 6, 7, 8, 0] rfl ?_
            refine z_iload dL_passes_193 8 rfl ?_
            refine z_if_eq dL_passes_195 (tgt := 218) (by decide) (fun h195 => by first | exact absurd (by decide) h195 | exact absurd h195 (by decide)) (fun h195 => ?_)
            refine z_iload dL_passes_198 7 rfl ?_
            refine z_aload_n dL_passes_200 0 rfl ?_
            refine z_iload dL_passes_201 6 rfl ?_
            refine z_iconst dL_passes_203 (v := 0) rfl ?_
            refine z_callVF (d := 7) (As := [_, _]) c_X4_ofTroop rfl l_L_19 rfl rfl rfl (Nat.le_of_ble_eq_true rfl) ⟨Nat.le_of_ble_eq_true rfl, Nat.le_of_ble_eq_true rfl⟩ dL_passes_204 cs ?_
            refine z_icmp_ge dL_passes_207 (tgt := 214) (by decide) (fun h207 => ?_) (fun h207 => by first | exact absurd (b207) h207 | exact absurd h207 (b207))
            refine z_iconst dL_passes_214 (v := -1) rfl ?_
            refine z_goto dL_passes_215 (tgt := 222) (by decide) ?_
            refine z_istore (lo2 := [(0, _), (1, _), (2, _), (4, _), (6, _), (7, _), (8, _), (9, _), (10, _), (11, _)]) dL_passes_222 (Nat.le_of_ble_eq_true rfl) [1, 2, 3, 4, 5, 6, 7, 8, 9, 0] rfl ?_
            refine z_aloadr_n dL_passes_224 1 rfl ?_
            refine z_iload dL_passes_225 5 rfl ?_
            refine z_iald (j := x) (j0 := 0) rfl rfl hx64 (by decide) dL_passes_227 ?_
            rw [g1]
            refine z_iconst dL_passes_228 (v := 3) rfl ?_
            refine z_icmp_ne dL_passes_229 (tgt := 246) (by decide) (fun h229 => by first | exact absurd (rfl) h229 | exact absurd h229 (rfl)) (fun h229 => ?_)
            refine z_iload dL_passes_232 8 rfl ?_
            refine z_if_ne dL_passes_234 (tgt := 246) (by decide) (fun h234 => ?_) (fun h234 => by first | exact absurd (by decide) h234 | exact absurd h234 (by decide))
            refine z_aloadr_n dL_passes_246 1 rfl ?_
            refine z_iload dL_passes_247 5 rfl ?_
            refine z_iald (j := x) (j0 := 0) rfl rfl hx64 (by decide) dL_passes_249 ?_
            rw [g1]
            refine z_iconst dL_passes_250 (v := 4) rfl ?_
            refine z_icmp_ne dL_passes_251 (tgt := 263) (by decide) (fun h251 => ?_) (fun h251 => by first | exact absurd (by decide) h251 | exact absurd h251 (by decide))
            refine z_iconst dL_passes_263 (v := 0) rfl ?_
            refine z_istore (lo2 := [(0, _), (1, _), (2, _), (4, _), (6, _), (7, _), (8, _), (9, _), (10, _), (11, _), (12, _)]) dL_passes_264 (Nat.le_of_ble_eq_true rfl) [1, 2, 3, 4, 5, 6, 7, 8, 9, 10, 0] rfl ?_
            refine z_aload_n dL_passes_266 0 rfl ?_
            refine z_iload dL_passes_267 6 rfl ?_
            refine z_iload dL_passes_269 7 rfl ?_
            refine z_iconst dL_passes_271 (v := 0) rfl ?_
            refine z_callVF (d := 7) (As := [_, _, _]) c_X4_of rfl l_L_15 rfl rfl rfl (Nat.le_of_ble_eq_true rfl) ⟨Nat.le_of_ble_eq_true rfl, Nat.le_of_ble_eq_true rfl⟩ dL_passes_272 d0 ?_
            refine z_iload dL_passes_275 9 rfl ?_
            refine z_icmp_ne dL_passes_277 (tgt := 329) (by decide) (fun h277 => by first | exact absurd (rfl) h277 | exact absurd h277 (rfl)) (fun h277 => ?_)
            refine z_iload dL_passes_280 9 rfl ?_
            refine z_if_lt dL_passes_282 (tgt := 299) (by decide) (fun h282 => ?_) (fun h282 => by first | exact absurd (by decide) h282 | exact absurd h282 (by decide))
            refine z_iload dL_passes_299 9 rfl ?_
            refine z_iconst dL_passes_301 (v := 4) rfl ?_
            refine z_icmp_ne dL_passes_302 (tgt := 331) (by decide) (fun h302 => ?_) (fun h302 => by first | exact absurd (by decide) h302 | exact absurd h302 (by decide))
            exact nx _ _ _ _ _
        · obtain ⟨y1, y2, y3⟩ := wk_3 (p := N.1 0) hk h3 hfr
          rw [← eT] at y1 y2
          have hne := v2 hfr
          rw [← g2] at hne y2
          have hkn' : knB (N'.2 t) k = true := kn_of (hW'.2 t ht') hk (by rw [y1]; decide)
          have d0 := q_of0 (G := G) hW' hS' ht' hk hkn'
          have d1 := q_of1 (G := G) hW' hS' ht' hk hkn'
          rw [y1] at d0
          rw [y2] at d1
          refine z_iload dL_passes_141 5 rfl ?_
          refine z_bipush dL_passes_143 (v := 16) (by decide +kernel) ?_
          refine z_iload dL_passes_145 3 rfl ?_
          refine z_imul dL_passes_147 ?_
          rw [em]
          refine z_icmp_ge dL_passes_148 (tgt := 337) (by decide) (fun h148 => by first | exact absurd (b148) h148 | exact absurd h148 (b148)) (fun h148 => ?_)
          refine z_iload dL_passes_151 4 rfl ?_
          refine z_if_ne dL_passes_153 (tgt := 337) (by decide) (fun h153 => by first | exact absurd (rfl) h153 | exact absurd h153 (rfl)) (fun h153 => ?_)
          refine z_iload dL_passes_156 5 rfl ?_
          refine z_bipush dL_passes_158 (v := 16) (by decide +kernel) ?_
          refine z_idiv dL_passes_160 (by decide) ?_
          rw [ed]
          refine z_istore (lo2 := [(0, _), (1, _), (2, _), (4, _), (6, _), (7, _), (8, _)]) dL_passes_161 (Nat.le_of_ble_eq_true rfl) [1, 2, 3, 4, 5, 6, 0] rfl ?_
          refine z_iload dL_passes_163 5 rfl ?_
          refine z_bipush dL_passes_165 (v := 16) (by decide +kernel) ?_
          refine z_irem dL_passes_167 (by decide) ?_
          rw [er]
          refine z_istore (lo2 := [(0, _), (1, _), (2, _), (4, _), (6, _), (7, _), (8, _), (9, _)]) dL_passes_168 (Nat.le_of_ble_eq_true rfl) [1, 2, 3, 4, 5, 6, 7, 0] rfl ?_
          refine z_aloadr_n dL_passes_170 1 rfl ?_
          refine z_iload dL_passes_171 5 rfl ?_
          refine z_iald (j := x) (j0 := 0) rfl rfl hx64 (by decide) dL_passes_173 ?_
          rw [g1]
          refine z_iconst dL_passes_174 (v := 3) rfl ?_
          refine z_icmp_ne dL_passes_175 (tgt := 190) (by decide) (fun h175 => by first | exact absurd (rfl) h175 | exact absurd h175 (rfl)) (fun h175 => ?_)
          refine z_aloadr_n dL_passes_178 2 rfl ?_
          refine z_iload dL_passes_179 5 rfl ?_
          refine z_iald (j := x) (j0 := 1) rfl rfl hx64 (by decide) dL_passes_181 ?_
          refine z_iconst dL_passes_182 (v := 1) rfl ?_
          refine z_icmp_ne dL_passes_183 (tgt := 190) (by decide) (fun h183 => ?_) (fun h183 => by first | exact absurd (hne) h183 | exact absurd h183 (hne))
          refine z_iconst dL_passes_190 (v := 0) rfl ?_
          refine z_istore (lo2 := [(0, _), (1, _), (2, _), (4, _), (6, _), (7, _), (8, _), (9, _), (10, _)]) dL_passes_191 (Nat.le_of_ble_eq_true rfl) [1, 2, 3, 4, 5, 6, 7, 8, 0] rfl ?_
          refine z_iload dL_passes_193 8 rfl ?_
          refine z_if_eq dL_passes_195 (tgt := 218) (by decide) (fun h195 => ?_) (fun h195 => by first | exact absurd (rfl) h195 | exact absurd h195 (rfl))
          refine z_aloadr_n dL_passes_218 1 rfl ?_
          refine z_iload dL_passes_219 5 rfl ?_
          refine z_iald (j := x) (j0 := 0) rfl rfl hx64 (by decide) dL_passes_221 ?_
          rw [g1]
          refine z_istore (lo2 := [(0, _), (1, _), (2, _), (4, _), (6, _), (7, _), (8, _), (9, _), (10, _), (11, _)]) dL_passes_222 (Nat.le_of_ble_eq_true rfl) [1, 2, 3, 4, 5, 6, 7, 8, 9, 0] rfl ?_
          refine z_aloadr_n dL_passes_224 1 rfl ?_
          refine z_iload dL_passes_225 5 rfl ?_
          refine z_iald (j := x) (j0 := 0) rfl rfl hx64 (by decide) dL_passes_227 ?_
          rw [g1]
          refine z_iconst dL_passes_228 (v := 3) rfl ?_
          refine z_icmp_ne dL_passes_229 (tgt := 246) (by decide) (fun h229 => by first | exact absurd (rfl) h229 | exact absurd h229 (rfl)) (fun h229 => ?_)
          refine z_iload dL_passes_232 8 rfl ?_
          refine z_if_ne dL_passes_234 (tgt := 246) (by decide) (fun h234 => by first | exact absurd (rfl) h234 | exact absurd h234 (rfl)) (fun h234 => ?_)
          refine z_aloadr_n dL_passes_237 2 rfl ?_
          refine z_iload dL_passes_238 5 rfl ?_
          refine z_iald (j := x) (j0 := 1) rfl rfl hx64 (by decide) dL_passes_240 ?_
          refine z_iconst dL_passes_241 (v := 1) rfl ?_
          refine z_isub dL_passes_242 ?_
          refine z_goto dL_passes_243 (tgt := 264) (by decide) ?_
          refine z_istore (lo2 := [(0, _), (1, _), (2, _), (4, _), (6, _), (7, _), (8, _), (9, _), (10, _), (11, _), (12, _)]) dL_passes_264 (Nat.le_of_ble_eq_true rfl) [1, 2, 3, 4, 5, 6, 7, 8, 9, 10, 0] rfl ?_
          refine z_aload_n dL_passes_266 0 rfl ?_
          refine z_iload dL_passes_267 6 rfl ?_
          refine z_iload dL_passes_269 7 rfl ?_
          refine z_iconst dL_passes_271 (v := 0) rfl ?_
          refine z_callVF (d := 7) (As := [_, _, _]) c_X4_of rfl l_L_15 rfl rfl rfl (Nat.le_of_ble_eq_true rfl) ⟨Nat.le_of_ble_eq_true rfl, Nat.le_of_ble_eq_true rfl⟩ dL_passes_272 d0 ?_
          refine z_iload dL_passes_275 9 rfl ?_
          refine z_icmp_ne dL_passes_277 (tgt := 329) (by decide) (fun h277 => by first | exact absurd (rfl) h277 | exact absurd h277 (rfl)) (fun h277 => ?_)
          refine z_iload dL_passes_280 9 rfl ?_
          refine z_if_lt dL_passes_282 (tgt := 299) (by decide) (fun h282 => by first | exact absurd (by decide) h282 | exact absurd h282 (by decide)) (fun h282 => ?_)
          refine z_aload_n dL_passes_285 0 rfl ?_
          refine z_iload dL_passes_286 6 rfl ?_
          refine z_iload dL_passes_288 7 rfl ?_
          refine z_iconst dL_passes_290 (v := 1) rfl ?_
          refine z_callVF (d := 7) (As := [_, _, _]) c_X4_of rfl l_L_15 rfl rfl rfl (Nat.le_of_ble_eq_true rfl) ⟨Nat.le_of_ble_eq_true rfl, Nat.le_of_ble_eq_true rfl⟩ dL_passes_291 d1 ?_
          refine z_iload dL_passes_294 10 rfl ?_
          refine z_icmp_ne dL_passes_296 (tgt := 329) (by decide) (fun h296 => by first | exact absurd (rfl) h296 | exact absurd h296 (rfl)) (fun h296 => ?_)
          refine z_iload dL_passes_299 9 rfl ?_
          refine z_iconst dL_passes_301 (v := 4) rfl ?_
          refine z_icmp_ne dL_passes_302 (tgt := 331) (by decide) (fun h302 => ?_) (fun h302 => by first | exact absurd (by decide) h302 | exact absurd h302 (by decide))
          exact nx _ _ _ _ _
      · by_cases h4 : (N.2 t).2.1 k = 4
        · rw [h4] at g1
          obtain ⟨y1, y2, y3⟩ := wk_4 (p := N.1 0) hk h4
          rw [← eT] at y1 y2
          rw [← g2] at y2
          have hkn' : knB (N'.2 t) k = true := kn_of (hW'.2 t ht') hk (by rw [y1]; decide)
          have d0 := q_of0 (G := G) hW' hS' ht' hk hkn'
          have d1 := q_of1 (G := G) hW' hS' ht' hk hkn'
          have d3 := q_of3 (G := G) hW' hS' ht' hk hkn'
          rw [y1] at d0
          rw [y2] at d1
          have hst : ¬ f2 x + 1 ≤ N.1 0 → bI (bt ((N'.2 t).1 5) k) = 1 := fun z => by
            rw [bI_1, eT, wk_5, b_or, mkm_bt _ k hk, h4, decide_eq_true rfl, Bool.true_and, ← g2, decide_eq_true (Int32.not_le.mp z), Bool.or_true]
          refine z_iload dL_passes_141 5 rfl ?_
          refine z_bipush dL_passes_143 (v := 16) (by decide +kernel) ?_
          refine z_iload dL_passes_145 3 rfl ?_
          refine z_imul dL_passes_147 ?_
          rw [em]
          refine z_icmp_ge dL_passes_148 (tgt := 337) (by decide) (fun h148 => by first | exact absurd (b148) h148 | exact absurd h148 (b148)) (fun h148 => ?_)
          refine z_iload dL_passes_151 4 rfl ?_
          refine z_if_ne dL_passes_153 (tgt := 337) (by decide) (fun h153 => by first | exact absurd (rfl) h153 | exact absurd h153 (rfl)) (fun h153 => ?_)
          refine z_iload dL_passes_156 5 rfl ?_
          refine z_bipush dL_passes_158 (v := 16) (by decide +kernel) ?_
          refine z_idiv dL_passes_160 (by decide) ?_
          rw [ed]
          refine z_istore (lo2 := [(0, _), (1, _), (2, _), (4, _), (6, _), (7, _), (8, _)]) dL_passes_161 (Nat.le_of_ble_eq_true rfl) [1, 2, 3, 4, 5, 6, 0] rfl ?_
          refine z_iload dL_passes_163 5 rfl ?_
          refine z_bipush dL_passes_165 (v := 16) (by decide +kernel) ?_
          refine z_irem dL_passes_167 (by decide) ?_
          rw [er]
          refine z_istore (lo2 := [(0, _), (1, _), (2, _), (4, _), (6, _), (7, _), (8, _), (9, _)]) dL_passes_168 (Nat.le_of_ble_eq_true rfl) [1, 2, 3, 4, 5, 6, 7, 0] rfl ?_
          refine z_aloadr_n dL_passes_170 1 rfl ?_
          refine z_iload dL_passes_171 5 rfl ?_
          refine z_iald (j := x) (j0 := 0) rfl rfl hx64 (by decide) dL_passes_173 ?_
          rw [g1]
          refine z_iconst dL_passes_174 (v := 3) rfl ?_
          refine z_icmp_ne dL_passes_175 (tgt := 190) (by decide) (fun h175 => ?_) (fun h175 => by first | exact absurd (by decide) h175 | exact absurd h175 (by decide))
          refine z_iconst dL_passes_190 (v := 0) rfl ?_
          refine z_istore (lo2 := [(0, _), (1, _), (2, _), (4, _), (6, _), (7, _), (8, _), (9, _), (10, _)]) dL_passes_191 (Nat.le_of_ble_eq_true rfl) [1, 2, 3, 4, 5, 6, 7, 8, 0] rfl ?_
          refine z_iload dL_passes_193 8 rfl ?_
          refine z_if_eq dL_passes_195 (tgt := 218) (by decide) (fun h195 => ?_) (fun h195 => by first | exact absurd (rfl) h195 | exact absurd h195 (rfl))
          refine z_aloadr_n dL_passes_218 1 rfl ?_
          refine z_iload dL_passes_219 5 rfl ?_
          refine z_iald (j := x) (j0 := 0) rfl rfl hx64 (by decide) dL_passes_221 ?_
          rw [g1]
          refine z_istore (lo2 := [(0, _), (1, _), (2, _), (4, _), (6, _), (7, _), (8, _), (9, _), (10, _), (11, _)]) dL_passes_222 (Nat.le_of_ble_eq_true rfl) [1, 2, 3, 4, 5, 6, 7, 8, 9, 0] rfl ?_
          refine z_aloadr_n dL_passes_224 1 rfl ?_
          refine z_iload dL_passes_225 5 rfl ?_
          refine z_iald (j := x) (j0 := 0) rfl rfl hx64 (by decide) dL_passes_227 ?_
          rw [g1]
          refine z_iconst dL_passes_228 (v := 3) rfl ?_
          refine z_icmp_ne dL_passes_229 (tgt := 246) (by decide) (fun h229 => ?_) (fun h229 => by first | exact absurd (by decide) h229 | exact absurd h229 (by decide))
          refine z_aloadr_n dL_passes_246 1 rfl ?_
          refine z_iload dL_passes_247 5 rfl ?_
          refine z_iald (j := x) (j0 := 0) rfl rfl hx64 (by decide) dL_passes_249 ?_
          rw [g1]
          refine z_iconst dL_passes_250 (v := 4) rfl ?_
          refine z_icmp_ne dL_passes_251 (tgt := 263) (by decide) (fun h251 => by first | exact absurd (rfl) h251 | exact absurd h251 (rfl)) (fun h251 => ?_)
          refine z_aloadr_n dL_passes_254 2 rfl ?_
          refine z_iload dL_passes_255 5 rfl ?_
          refine z_iald (j := x) (j0 := 1) rfl rfl hx64 (by decide) dL_passes_257 ?_
          refine z_iconst dL_passes_258 (v := 1) rfl ?_
          refine z_iadd dL_passes_259 ?_
          refine z_goto dL_passes_260 (tgt := 264) (by decide) ?_
          refine z_istore (lo2 := [(0, _), (1, _), (2, _), (4, _), (6, _), (7, _), (8, _), (9, _), (10, _), (11, _), (12, _)]) dL_passes_264 (Nat.le_of_ble_eq_true rfl) [1, 2, 3, 4, 5, 6, 7, 8, 9, 10, 0] rfl ?_
          refine z_aload_n dL_passes_266 0 rfl ?_
          refine z_iload dL_passes_267 6 rfl ?_
          refine z_iload dL_passes_269 7 rfl ?_
          refine z_iconst dL_passes_271 (v := 0) rfl ?_
          refine z_callVF (d := 7) (As := [_, _, _]) c_X4_of rfl l_L_15 rfl rfl rfl (Nat.le_of_ble_eq_true rfl) ⟨Nat.le_of_ble_eq_true rfl, Nat.le_of_ble_eq_true rfl⟩ dL_passes_272 d0 ?_
          refine z_iload dL_passes_275 9 rfl ?_
          refine z_icmp_ne dL_passes_277 (tgt := 329) (by decide) (fun h277 => by first | exact absurd (rfl) h277 | exact absurd h277 (rfl)) (fun h277 => ?_)
          refine z_iload dL_passes_280 9 rfl ?_
          refine z_if_lt dL_passes_282 (tgt := 299) (by decide) (fun h282 => by first | exact absurd (by decide) h282 | exact absurd h282 (by decide)) (fun h282 => ?_)
          refine z_aload_n dL_passes_285 0 rfl ?_
          refine z_iload dL_passes_286 6 rfl ?_
          refine z_iload dL_passes_288 7 rfl ?_
          refine z_iconst dL_passes_290 (v := 1) rfl ?_
          refine z_callVF (d := 7) (As := [_, _, _]) c_X4_of rfl l_L_15 rfl rfl rfl (Nat.le_of_ble_eq_true rfl) ⟨Nat.le_of_ble_eq_true rfl, Nat.le_of_ble_eq_true rfl⟩ dL_passes_291 d1 ?_
          refine z_iload dL_passes_294 10 rfl ?_
          refine z_icmp_ne dL_passes_296 (tgt := 329) (by decide) (fun h296 => by first | exact absurd (rfl) h296 | exact absurd h296 (rfl)) (fun h296 => ?_)
          refine z_iload dL_passes_299 9 rfl ?_
          refine z_iconst dL_passes_301 (v := 4) rfl ?_
          refine z_icmp_ne dL_passes_302 (tgt := 331) (by decide) (fun h302 => by first | exact absurd (rfl) h302 | exact absurd h302 (rfl)) (fun h302 => ?_)
          refine z_iload dL_passes_305 10 rfl ?_
          refine z_aload_n dL_passes_307 0 rfl ?_
          refine z_bipush dL_passes_308 (v := 6) (by decide +kernel) ?_
          refine z_callVF (d := 7) (As := [_]) c_X4_count rfl l_L_9 rfl rfl rfl (Nat.le_of_ble_eq_true rfl) ⟨Nat.le_of_ble_eq_true rfl, Nat.le_of_ble_eq_true rfl⟩ dL_passes_310 cp ?_
          refine z_icmp_le dL_passes_313 (tgt := 331) (by decide) (fun h313 => ?_) (fun h313 => ?_)
          · --t
            exact nx _ _ _ _ _
          · --f
            refine z_aload_n dL_passes_316 0 rfl ?_
            refine z_iload dL_passes_317 6 rfl ?_
            refine z_iload dL_passes_319 7 rfl ?_
            refine z_iconst dL_passes_321 (v := 3) rfl ?_
            refine z_callVF (d := 7) (As := [_, _, _]) c_X4_of rfl l_L_15 rfl rfl rfl (Nat.le_of_ble_eq_true rfl) ⟨Nat.le_of_ble_eq_true rfl, Nat.le_of_ble_eq_true rfl⟩ dL_passes_322 d3 ?_
            refine z_iconst dL_passes_325 (v := 1) rfl ?_
            refine z_icmp_eq dL_passes_326 (tgt := 331) (by decide) (fun h326 => ?_) (fun h326 => by first | exact absurd (hst h313) h326 | exact absurd h326 (hst h313))
            exact nx _ _ _ _ _
        · have hv : (N.2 t).2.1 k = 0 ∨ (N.2 t).2.1 k = 1 ∨ (N.2 t).2.1 k = 2 := by
            rcases (hWT.2.2 k hk).1 with z | z | z | z | z
            · exact Or.inl z
            · exact Or.inr (Or.inl z)
            · exact Or.inr (Or.inr z)
            · exact absurd z h3
            · exact absurd z h4
          have hlt : k < tsz (N.2 t) := by
            unfold knB at hkn
            rw [beq_eq_false_iff_ne.mpr h3, Bool.or_false, decide_eq_true_iff] at hkn
            exact hkn
          obtain ⟨y1, y2, y3⟩ := wk_o (p := N.1 0) hk h3 h4
          rw [← eT] at y1 y2
          have hkn' : knB (N'.2 t) k = true := kn_lt (by rw [hsz]; exact hlt)
          have d0 := q_of0 (G := G) hW' hS' ht' hk hkn'
          have d1 := q_of1 (G := G) hW' hS' ht' hk hkn'
          rw [y1] at d0
          rw [y2, w2 hv] at d1
          rw [w2 hv] at g2
          have hge : ¬ (N.2 t).2.1 k < 0 := by rcases hv with z | z | z <;> rw [z] <;> decide
          refine z_iload dL_passes_141 5 rfl ?_
          refine z_bipush dL_passes_143 (v := 16) (by decide +kernel) ?_
          refine z_iload dL_passes_145 3 rfl ?_
          refine z_imul dL_passes_147 ?_
          rw [em]
          refine z_icmp_ge dL_passes_148 (tgt := 337) (by decide) (fun h148 => by first | exact absurd (b148) h148 | exact absurd h148 (b148)) (fun h148 => ?_)
          refine z_iload dL_passes_151 4 rfl ?_
          refine z_if_ne dL_passes_153 (tgt := 337) (by decide) (fun h153 => by first | exact absurd (rfl) h153 | exact absurd h153 (rfl)) (fun h153 => ?_)
          refine z_iload dL_passes_156 5 rfl ?_
          refine z_bipush dL_passes_158 (v := 16) (by decide +kernel) ?_
          refine z_idiv dL_passes_160 (by decide) ?_
          rw [ed]
          refine z_istore (lo2 := [(0, _), (1, _), (2, _), (4, _), (6, _), (7, _), (8, _)]) dL_passes_161 (Nat.le_of_ble_eq_true rfl) [1, 2, 3, 4, 5, 6, 0] rfl ?_
          refine z_iload dL_passes_163 5 rfl ?_
          refine z_bipush dL_passes_165 (v := 16) (by decide +kernel) ?_
          refine z_irem dL_passes_167 (by decide) ?_
          rw [er]
          refine z_istore (lo2 := [(0, _), (1, _), (2, _), (4, _), (6, _), (7, _), (8, _), (9, _)]) dL_passes_168 (Nat.le_of_ble_eq_true rfl) [1, 2, 3, 4, 5, 6, 7, 0] rfl ?_
          refine z_aloadr_n dL_passes_170 1 rfl ?_
          refine z_iload dL_passes_171 5 rfl ?_
          refine z_iald (j := x) (j0 := 0) rfl rfl hx64 (by decide) dL_passes_173 ?_
          rw [g1]
          refine z_iconst dL_passes_174 (v := 3) rfl ?_
          refine z_icmp_ne dL_passes_175 (tgt := 190) (by decide) (fun h175 => ?_) (fun h175 => by first | exact absurd (h3) h175 | exact absurd h175 (h3))
          refine z_iconst dL_passes_190 (v := 0) rfl ?_
          refine z_istore (lo2 := [(0, _), (1, _), (2, _), (4, _), (6, _), (7, _), (8, _), (9, _), (10, _)]) dL_passes_191 (Nat.le_of_ble_eq_true rfl) [1, 2, 3, 4, 5, 6, 7, 8, 0] rfl ?_
          refine z_iload dL_passes_193 8 rfl ?_
          refine z_if_eq dL_passes_195 (tgt := 218) (by decide) (fun h195 => ?_) (fun h195 => by first | exact absurd (rfl) h195 | exact absurd h195 (rfl))
          refine z_aloadr_n dL_passes_218 1 rfl ?_
          refine z_iload dL_passes_219 5 rfl ?_
          refine z_iald (j := x) (j0 := 0) rfl rfl hx64 (by decide) dL_passes_221 ?_
          rw [g1]
          refine z_istore (lo2 := [(0, _), (1, _), (2, _), (4, _), (6, _), (7, _), (8, _), (9, _), (10, _), (11, _)]) dL_passes_222 (Nat.le_of_ble_eq_true rfl) [1, 2, 3, 4, 5, 6, 7, 8, 9, 0] rfl ?_
          refine z_aloadr_n dL_passes_224 1 rfl ?_
          refine z_iload dL_passes_225 5 rfl ?_
          refine z_iald (j := x) (j0 := 0) rfl rfl hx64 (by decide) dL_passes_227 ?_
          rw [g1]
          refine z_iconst dL_passes_228 (v := 3) rfl ?_
          refine z_icmp_ne dL_passes_229 (tgt := 246) (by decide) (fun h229 => ?_) (fun h229 => by first | exact absurd (h3) h229 | exact absurd h229 (h3))
          refine z_aloadr_n dL_passes_246 1 rfl ?_
          refine z_iload dL_passes_247 5 rfl ?_
          refine z_iald (j := x) (j0 := 0) rfl rfl hx64 (by decide) dL_passes_249 ?_
          rw [g1]
          refine z_iconst dL_passes_250 (v := 4) rfl ?_
          refine z_icmp_ne dL_passes_251 (tgt := 263) (by decide) (fun h251 => ?_) (fun h251 => by first | exact absurd (h4) h251 | exact absurd h251 (h4))
          refine z_iconst dL_passes_263 (v := 0) rfl ?_
          refine z_istore (lo2 := [(0, _), (1, _), (2, _), (4, _), (6, _), (7, _), (8, _), (9, _), (10, _), (11, _), (12, _)]) dL_passes_264 (Nat.le_of_ble_eq_true rfl) [1, 2, 3, 4, 5, 6, 7, 8, 9, 10, 0] rfl ?_
          refine z_aload_n dL_passes_266 0 rfl ?_
          refine z_iload dL_passes_267 6 rfl ?_
          refine z_iload dL_passes_269 7 rfl ?_
          refine z_iconst dL_passes_271 (v := 0) rfl ?_
          refine z_callVF (d := 7) (As := [_, _, _]) c_X4_of rfl l_L_15 rfl rfl rfl (Nat.le_of_ble_eq_true rfl) ⟨Nat.le_of_ble_eq_true rfl, Nat.le_of_ble_eq_true rfl⟩ dL_passes_272 d0 ?_
          refine z_iload dL_passes_275 9 rfl ?_
          refine z_icmp_ne dL_passes_277 (tgt := 329) (by decide) (fun h277 => by first | exact absurd (rfl) h277 | exact absurd h277 (rfl)) (fun h277 => ?_)
          refine z_iload dL_passes_280 9 rfl ?_
          refine z_if_lt dL_passes_282 (tgt := 299) (by decide) (fun h282 => by first | exact absurd (hge) h282 | exact absurd h282 (hge)) (fun h282 => ?_)
          refine z_aload_n dL_passes_285 0 rfl ?_
          refine z_iload dL_passes_286 6 rfl ?_
          refine z_iload dL_passes_288 7 rfl ?_
          refine z_iconst dL_passes_290 (v := 1) rfl ?_
          refine z_callVF (d := 7) (As := [_, _, _]) c_X4_of rfl l_L_15 rfl rfl rfl (Nat.le_of_ble_eq_true rfl) ⟨Nat.le_of_ble_eq_true rfl, Nat.le_of_ble_eq_true rfl⟩ dL_passes_291 d1 ?_
          refine z_iload dL_passes_294 10 rfl ?_
          refine z_icmp_ne dL_passes_296 (tgt := 329) (by decide) (fun h296 => by first | exact absurd (rfl) h296 | exact absurd h296 (rfl)) (fun h296 => ?_)
          refine z_iload dL_passes_299 9 rfl ?_
          refine z_iconst dL_passes_301 (v := 4) rfl ?_
          refine z_icmp_ne dL_passes_302 (tgt := 331) (by decide) (fun h302 => ?_) (fun h302 => by first | exact absurd (h4) h302 | exact absurd h302 (h4))
          exact nx _ _ _ _ _
theorem t_L_passes (hN : NI N b) (hb : b ≤ 900) (hS : LI S N) : CallL G 8 240 2 128 M_L_passes [rv G 0] S (fun v u => v = some 1 ∧ ∃ N', NI N' (b + 3) ∧ LI u N') := by
  refine callL_of (lo := [(0, rv G 0)]) (by decide +kernel) (Nat.le_of_ble_eq_true rfl) rfl ?_
  have hW := hN.1
  obtain ⟨hc, hc5⟩ := hW.cn
  have c0 : Call G 7 M_X4_count [rv G 0, .int 0] S (fun v u => v = some (N.1 2) ∧ u = S) := q_cnt hW hS (fun n => rfl)
  have c1 : Call G 7 M_X4_count [rv G 0, .int 1] S (fun v u => v = some (nI (cnt N)) ∧ u = S) := q_cnt hW hS (fun n => hc)
  have c2 : Call G 7 M_X4_count [rv G 0, .int 2] S (fun v u => v = some (sumN (fun T => T.1 3) N (cnt N)) ∧ u = S) := q_cnt hW hS (fun n => rfl)
  have cp := k_pass (G := G) hW hS (x := 1)
  have hN' := ni_pas hN hb
  rw [pas_1 hN hb] at cp
  obtain ⟨j, hj, ej, hz⟩ := ans_j (N := N) (cnt N)
  have esum : sumN (fun T => T.1 3) (addM (trM N (cnt N)) 1) (cnt N) = sumN (fun T => T.1 3) N (cnt N) + nI j := by rw [sum_m _ (Nat.le_refl _), ej]
  have eT : ∀ t, t < cnt N → (addM (trM N (cnt N)) 1).2 t = (minT (N.2 t) (N.1 0) (N.1 1)).2 := fun t ht => if_pos ht
  have e2 : (addM (trM N (cnt N)) 1).1 2 = N.1 2 + 1 := by show upd N.1 2 (N.1 2 + 1) 2 = _; rw [upd, if_pos rfl]
  have e0 : (addM (trM N (cnt N)) 1).1 0 = N.1 0 := rfl
  have ec : cnt (addM (trM N (cnt N)) 1) = cnt N := rfl
  rw [ej] at cp
  generalize addM (trM N (cnt N)) 1 = N' at cp hN' esum eT e2 e0 ec
  have hW' := hN'.1
  have b109 : ¬ nI j < 0 := nI_pos (by omega)
  have main : ∀ (many q1 q2 : Nat) (f1 f2 : Nat → Int32), many ≤ cnt N → many ≤ 4 → Lt G 8 240 2 128 M_L_passes (fun v u => v = some 1 ∧ ∃ N', NI N' (b + 3) ∧ LI u N') 39 [(0, rv G 0), (1, .ref q1), (2, .ref q2), (3, .int (N.1 2)), (4, .int (nI many)), (5, .int (nI 0))] [] (S, [(q1, 64, f1), (q2, 64, f2)], 2, 128) := by
    intro many q1 q2 f1 f2 hm hm4
    refine lp_pas1 hN hS hm hm4 (fun f1 f2 hf => ?_) (16 * many) 0 f1 f2 (by omega) (fun y hy => absurd hy (by omega))
    have em : 16 * nI many = nI (16 * many) := pk_mul 16 many
    have st : ∀ (u : mS), LI u N' → Lt G 8 240 2 128 M_L_passes (fun v u => v = some 1 ∧ ∃ N', NI N' (b + 3) ∧ LI u N') 141 [(0, rv G 0), (1, .ref q1), (2, .ref q2), (4, .int (nI many)), (6, .int (nI j)), (7, .int (nI 0))] [] (u, [(q1, 64, f1), (q2, 64, f2)], 2, 128) := by
      intro u hS'
      rcases Nat.eq_zero_or_pos j with z | z
      · subst z
        exact lp_pas2 hN hW' hS' ec hm hm4 (fun t ht => (eT t ht).trans (hz rfl t ht)) e0 hf ⟨rfl, N', hN', hS'⟩ (16 * many) 0 (by omega)
      · have hne : nI j ≠ 0 := nI_ne0 z (by omega)
        refine z_iload dL_passes_141 5 rfl ?_
        refine z_bipush dL_passes_143 (v := 16) (by decide +kernel) ?_
        refine z_iload dL_passes_145 3 rfl ?_
        refine z_imul dL_passes_147 ?_
        refine z_icmp_ge dL_passes_148 (tgt := 337) (by decide) (fun h148 => ?_) (fun h148 => ?_)
        · --t
          refine z_iconst dL_passes_337 (v := 1) rfl ?_
          refine z_zret rfl (by first | rfl | decide) dL_passes_338 ?_
          exact ⟨rfl, N', hN', hS'⟩
        · --f
          refine z_iload dL_passes_151 4 rfl ?_
          refine z_if_ne dL_passes_153 (tgt := 337) (by decide) (fun h153 => ?_) (fun h153 => by first | exact absurd (hne) h153 | exact absurd h153 (hne))
          refine z_iconst dL_passes_337 (v := 1) rfl ?_
          refine z_zret rfl (by first | rfl | decide) dL_passes_338 ?_
          exact ⟨rfl, N', hN', hS'⟩
    refine z_aload_n dL_passes_93 0 rfl ?_
    refine z_iconst dL_passes_94 (v := 2) rfl ?_
    refine z_callVF (d := 7) (As := [_]) c_X4_count rfl l_L_9 rfl rfl rfl (Nat.le_of_ble_eq_true rfl) ⟨Nat.le_of_ble_eq_true rfl, Nat.le_of_ble_eq_true rfl⟩ dL_passes_95 c2 ?_
    refine z_istore (lo2 := [(0, _), (1, _), (2, _), (3, _), (4, _), (5, _)]) dL_passes_98 (Nat.le_of_ble_eq_true rfl) [1, 2, 3, 4, 5, 0] rfl ?_
    refine z_aload_n dL_passes_100 0 rfl ?_
    refine z_iconst dL_passes_101 (v := 1) rfl ?_
    refine z_callV (d := 7) (As := [_]) c_X4_pass rfl l_L_37 rfl rfl rfl (Nat.le_of_ble_eq_true rfl) ⟨Nat.le_of_ble_eq_true rfl, Nat.le_of_ble_eq_true rfl⟩ dL_passes_102 cp (fun r102 u102 q102 => ?_)
    obtain ⟨z, hS'⟩ := q102
    cases z
    have d2 : Call G 7 M_X4_count [rv G 0, .int 2] u102 (fun v w => v = some (sumN (fun T => T.1 3) N (cnt N) + nI j) ∧ w = u102) := q_cnt hW' hS' (fun n => by show sumN (fun T => T.1 3) N' (cnt N') = _; rw [ec]; exact esum)
    have d0 : Call G 7 M_X4_count [rv G 0, .int 0] u102 (fun v w => v = some (N'.1 2) ∧ w = u102) := q_cnt hW' hS' (fun n => rfl)
    refine z_istore (lo2 := [(0, _), (1, _), (2, _), (3, _), (4, _), (5, _), (6, _)]) dL_passes_105 (Nat.le_of_ble_eq_true rfl) [1, 2, 3, 4, 5, 6, 0] rfl ?_
    refine z_iload dL_passes_107 6 rfl ?_
    refine z_if_lt dL_passes_109 (tgt := 136) (by decide) (fun h109 => by first | exact absurd (b109) h109 | exact absurd h109 (b109)) (fun h109 => ?_)
    refine z_aload_n dL_passes_112 0 rfl ?_
    refine z_iconst dL_passes_113 (v := 2) rfl ?_
    refine z_callVF (d := 7) (As := [_]) c_X4_count rfl l_L_9 rfl rfl rfl (Nat.le_of_ble_eq_true rfl) ⟨Nat.le_of_ble_eq_true rfl, Nat.le_of_ble_eq_true rfl⟩ dL_passes_114 d2 ?_
    refine z_iload dL_passes_117 5 rfl ?_
    refine z_iload dL_passes_119 6 rfl ?_
    refine z_iadd dL_passes_121 ?_
    refine z_icmp_ne dL_passes_122 (tgt := 136) (by decide) (fun h122 => by first | exact absurd (rfl) h122 | exact absurd h122 (rfl)) (fun h122 => ?_)
    refine z_aload_n dL_passes_125 0 rfl ?_
    refine z_iconst dL_passes_126 (v := 0) rfl ?_
    refine z_callVF (d := 7) (As := [_]) c_X4_count rfl l_L_9 rfl rfl rfl (Nat.le_of_ble_eq_true rfl) ⟨Nat.le_of_ble_eq_true rfl, Nat.le_of_ble_eq_true rfl⟩ dL_passes_127 d0 ?_
    refine z_iload_n dL_passes_130 3 rfl ?_
    refine z_iconst dL_passes_131 (v := 1) rfl ?_
    refine z_iadd dL_passes_132 ?_
    refine z_icmp_eq dL_passes_133 (tgt := 138) (by decide) (fun h133 => ?_) (fun h133 => by first | exact absurd (e2) h133 | exact absurd h133 (e2))
    refine z_iconst dL_passes_138 (v := 0) rfl ?_
    refine z_istore (lo2 := [(0, _), (1, _), (2, _), (3, _), (4, _), (5, _), (6, _), (7, _)]) dL_passes_139 (Nat.le_of_ble_eq_true rfl) [1, 2, 3, 4, 5, 6, 7, 0] rfl ?_
    exact z_sub [0, 1, 2, 4, 6, 7] rfl (st _ hS')
  refine z_bipush dL_passes_0 (v := 64) (by decide +kernel) ?_
  refine z_newa (N := 64) rfl (by decide) a_int (show 0 + 1 ≤ 2 by omega) (show 0 + 64 ≤ 128 by omega) dL_passes_2 ?_
  intro q1
  refine z_astorer_n (lo2 := [(0, _), (1, _)]) dL_passes_4 rfl (Nat.le_of_ble_eq_true rfl) [1, 0] rfl ?_
  refine z_bipush dL_passes_5 (v := 64) (by decide +kernel) ?_
  refine z_newa (N := 64) rfl (by decide) a_int (show 0 + 1 + 1 ≤ 2 by omega) (show 0 + 64 + 64 ≤ 128 by omega) dL_passes_7 ?_
  intro q2
  refine z_astorer_n (lo2 := [(0, _), (1, _), (2, _)]) dL_passes_9 rfl (Nat.le_of_ble_eq_true rfl) [1, 2, 0] rfl ?_
  refine z_aload_n dL_passes_10 0 rfl ?_
  refine z_iconst dL_passes_11 (v := 0) rfl ?_
  refine z_callVF (d := 7) (As := [_]) c_X4_count rfl l_L_9 rfl rfl rfl (Nat.le_of_ble_eq_true rfl) ⟨Nat.le_of_ble_eq_true rfl, Nat.le_of_ble_eq_true rfl⟩ dL_passes_12 c0 ?_
  refine z_istore_n (lo2 := [(0, _), (1, _), (2, _), (3, _)]) dL_passes_15 rfl (Nat.le_of_ble_eq_true rfl) [1, 2, 3, 0] rfl ?_
  refine z_aload_n dL_passes_16 0 rfl ?_
  refine z_iconst dL_passes_17 (v := 1) rfl ?_
  refine z_callVF (d := 7) (As := [_]) c_X4_count rfl l_L_9 rfl rfl rfl (Nat.le_of_ble_eq_true rfl) ⟨Nat.le_of_ble_eq_true rfl, Nat.le_of_ble_eq_true rfl⟩ dL_passes_18 c1 ?_
  refine z_iconst dL_passes_21 (v := 4) rfl ?_
  refine z_icmp_ge dL_passes_22 (tgt := 33) (by decide) (fun h22 => ?_) (fun h22 => ?_)
  · --t
    refine z_iconst dL_passes_33 (v := 4) rfl ?_
    refine z_istore (lo2 := [(0, _), (1, _), (2, _), (3, _), (4, _)]) dL_passes_34 (Nat.le_of_ble_eq_true rfl) [1, 2, 3, 4, 0] rfl ?_
    refine z_iconst dL_passes_36 (v := 0) rfl ?_
    refine z_istore (lo2 := [(0, _), (1, _), (2, _), (3, _), (4, _), (5, _)]) dL_passes_37 (Nat.le_of_ble_eq_true rfl) [1, 2, 3, 4, 5, 0] rfl ?_
    first
      | exact main 4 q1 q2 _ _ (by rw [show (4 : Int32) = nI 4 from rfl, nI_leI (by omega) (by omega)] at h22; exact h22) (by omega)
      | exact main (cnt N) q1 q2 _ _ (Nat.le_refl _) (by rw [show (4 : Int32) = nI 4 from rfl, nI_leI (by omega) (by omega)] at h22; omega)
  · --f
    refine z_aload_n dL_passes_25 0 rfl ?_
    refine z_iconst dL_passes_26 (v := 1) rfl ?_
    refine z_callVF (d := 7) (As := [_]) c_X4_count rfl l_L_9 rfl rfl rfl (Nat.le_of_ble_eq_true rfl) ⟨Nat.le_of_ble_eq_true rfl, Nat.le_of_ble_eq_true rfl⟩ dL_passes_27 c1 ?_
    refine z_goto dL_passes_30 (tgt := 34) (by decide) ?_
    refine z_istore (lo2 := [(0, _), (1, _), (2, _), (3, _), (4, _)]) dL_passes_34 (Nat.le_of_ble_eq_true rfl) [1, 2, 3, 4, 0] rfl ?_
    refine z_iconst dL_passes_36 (v := 0) rfl ?_
    refine z_istore (lo2 := [(0, _), (1, _), (2, _), (3, _), (4, _), (5, _)]) dL_passes_37 (Nat.le_of_ble_eq_true rfl) [1, 2, 3, 4, 5, 0] rfl ?_
    first
      | exact main 4 q1 q2 _ _ (by rw [show (4 : Int32) = nI 4 from rfl, nI_leI (by omega) (by omega)] at h22; exact h22) (by omega)
      | exact main (cnt N) q1 q2 _ _ (Nat.le_refl _) (by rw [show (4 : Int32) = nI 4 from rfl, nI_leI (by omega) (by omega)] at h22; omega)
end PASSES
