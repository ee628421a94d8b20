/-! the law: one who comes, in numbers -/
theorem ni_tr {N : mN} {b c : Nat} (h : NI N b) (hbc : b ≤ c) {t : Nat} {T : mT} (hT : TI T c) : NI (setTr N t T) c := by
  obtain ⟨hW, hk, ⟨m, hm1, hm2⟩, ha, h2⟩ := h
  refine ⟨hW.tr hT.1, fun i hi => ?_, ⟨m, by omega, hm2⟩, ha, h2⟩
  show TI (if i = t then T else N.2 i) c
  by_cases e : i = t
  · rw [if_pos e]; exact hT
  · rw [if_neg e]; exact (hk i hi).mono hbc
theorem NI.mono {N : mN} {b c : Nat} (h : NI N b) (hbc : b ≤ c) : NI N c := by
  obtain ⟨hW, hk, ⟨m, hm1, hm2⟩, ha, h2⟩ := h
  exact ⟨hW, fun i hi => (hk i hi).mono hbc, ⟨m, by omega, hm2⟩, ha, h2⟩
theorem ni_ery {N : mN} {b : Nat} (h : NI N b) : NI (eryN N) b := by
  obtain ⟨hW, hk, hm, ha, h2⟩ := h
  exact ⟨wn_ery hW, hk, hm, ha, h2⟩
theorem tr_at {N : mN} {t : Nat} {T : mT} : (setTr N t T).2 t = T := by unfold setTr; exact if_pos rfl
theorem why_no {N : mN} (hW : WN N) {t k : Nat} (ht : t < cnt N) (hk : k < 16) (h : ¬ k < tsz (N.2 t)) (c : Int32) : whyA N (nI t) (nI k) c = -1 := by
  unfold whyA; rw [sc_ok hW ht hk, decide_eq_false h]; rfl
theorem why_ok {N : mN} (hW : WN N) {t k : Nat} (ht : t < cnt N) (hk : k < 16) (h : k < tsz (N.2 t)) {c : Int32} (hc : c = 0 ∨ c = 1) : whyA N (nI t) (nI k) c = whyT (N.2 t) k c := by
  have hc5 := hW.cn.2
  have hcc : ¬ (c < 0 ∨ 1 < c) := by rcases hc with rfl | rfl <;> decide
  unfold whyA
  rw [sc_ok hW ht hk, decide_eq_true h, if_pos rfl, if_neg hcc, nI_clamp (by omega), nI_clamp (by omega)]
theorem com_n {N : mN} {x y c : Int32} (h : whyA N x y c = -1) : comO N x y c = (-1, N) := by unfold comO; rw [h]; rfl
theorem com_5 {N : mN} {x y c : Int32} (h : whyA N x y c = 1 ∨ whyA N x y c = 2 ∨ whyA N x y c = 3) : comO N x y c = (-5, N) := by
  unfold comO
  rcases h with h | h | h <;> rw [h] <;> rfl
theorem com_0 {N : mN} {t k : Nat} {c : Int32} (ht : t < 5) (hk : k < 16) (h : whyA N (nI t) (nI k) c = 0) : comO N (nI t) (nI k) c = (nI (opK 3 (setH (N.2 t) k 1) (N.1 1)), setTr N t (opnN 3 (setH (N.2 t) k 1) (N.1 1)).2) := by
  unfold comO
  rw [h, if_neg (by decide), if_neg (by decide), if_pos rfl, nI_clamp (by omega), nI_clamp (by omega)]
  unfold comN
  rw [(op_all 3 _ _).1]
theorem com_4 {N : mN} {t k : Nat} {c : Int32} (ht : t < 5) (hk : k < 16) (h : whyA N (nI t) (nI k) c = 4) : comO N (nI t) (nI k) c = (nI (opK 3 (setH (N.2 t) k 2) (N.1 1)), setTr (eryN N) t (opnN 3 (setH (N.2 t) k 2) (N.1 1)).2) := by
  unfold comO
  rw [h, if_neg (by decide), if_pos rfl, nI_clamp (by omega), nI_clamp (by omega)]
  unfold comN
  rw [(op_all 3 _ _).1]
  rfl
theorem aw_set {T : mT} {k : Nat} (hk : k < 16) : awM T &&& (((1 : Int32) <<< (nI k &&& 31)) ^^^ (-1)) = awM (setH T k 1) := by
  refine mkm_eq (fun i hi => ?_) (fun i h1 h2 => ?_)
  · rw [b_and, awM, mkm_bt _ i hi, bt_not _ (by omega), bt_one k (by omega) i (by omega)]
    have e : tsz (setH T k 1) = tsz T := rfl
    unfold awp
    rw [e]
    by_cases e : i = k
    · subst e
      simp [setH, upd]
    · simp [setH, upd, e]
  · rw [b_and, awM, mkm_hi _ i h1 h2, Bool.false_and]
theorem hm_in {T : mT} {k : Nat} (hk : k < 16) : hm T 1 ||| ((1 : Int32) <<< (nI k &&& 31)) = hm (setH T k 1) 1 := hmk_in T.2.1 1 hk
theorem hm_ou {T : mT} {k : Nat} (h : ¬ T.2.1 k = 1) : hm T 1 ||| 0 = hm (setH T k 2) 1 := by
  rw [Int32.or_zero]; exact (hmk_no (hw := T.2.1) (x := 2) (h := 1) h (by decide)).symm
theorem ca_no {T : mT} {k : Nat} (hk : k < 16) (h : canO (setH T k 1) = false) : ¬ awM (setH T k 1) = 0 := by
  intro z
  unfold canO at h
  rw [decide_eq_true z, Bool.true_and, Bool.not_eq_false', decide_eq_true_eq] at h
  have := (mkm_0 _).mp h k hk
  simp [setH, upd] at this
theorem kn_of {T : mT} (hW : WF T) {k : Nat} (hk : k < 16) (h : ¬ T.2.1 k = 0) : knB T k = true := by
  unfold knB
  rw [Bool.or_eq_true, decide_eq_true_iff]
  rcases Nat.lt_or_ge k (tsz T) with z | z
  · exact Or.inl z
  · right
    rcases (hW.2.2 k hk).2.1 z with y | y
    · exact absurd y h
    · rw [y]; rfl
theorem kn_lt {T : mT} {k : Nat} (h : k < tsz T) : knB T k = true := by unfold knB; rw [decide_eq_true h]; rfl
theorem com_f {T : mT} {b k : Nat} {a h : Int32} (hT : TI T b) (ha : 1 ≤ a) (hk : k < tsz T) (hh : h = 1 ∨ h = 2) (hk2 : ¬ T.2.1 k = 2) (hb : b ≤ 900) :
    TI (opnN 3 (setH T k h) a).2 (b + 3) ∧ opK 3 (setH T k h) a ≤ 3 ∧ (opnN 3 (setH T k h) a).2.1 3 = T.1 3 + nI (opK 3 (setH T k h) a) ∧
    (opnN 3 (setH T k h) a).2.1 1 = (T.1 1 + nI (opK 3 (setH T k h) a)) - (T.1 1 + nI (opK 3 (setH T k h) a)) / 2 * 2 ∧
    (opK 3 (setH T k h) a = 0 → (opnN 3 (setH T k h) a).2 = setH T k h ∧ canO (setH T k h) = false) ∧
    (1 ≤ opK 3 (setH T k h) a → awM (setH T k h) = 0 ∧ (opnN 3 (setH T k h) a).2.1 0 = T.1 2 ∧ (opnN 3 (setH T k h) a).2.1 5 = 0 ∧
      (∀ x, x < 16 → bt (hm (setH T k h) 1) x = true → (opnN 3 (setH T k h) a).2.2.1 x = 3 ∧ (opnN 3 (setH T k h) a).2.2.2.1 x = a ∧ 1 ≤ (opnN 3 (setH T k h) a).2.2.2.2 x) ∧
      (opK 3 (setH T k h) a = 1 → ∀ x, x < 16 → x < (T.1 2).toNatClampNeg → bt (hm T 2) x = true → (opnN 3 (setH T k h) a).2.2.1 x = 1) ∧
      ¬ (opnN 3 (setH T k h) a).2.1 4 < T.1 4 + szF (hm (setH T k h) 1) 16) := by
  have hT1 : TI (setH T k h) b := ti_set hT hk (by rcases hh with z | z <;> simp [z])
  generalize eT : setH T k h = T1 at hT1 ⊢
  have g1 : ∀ j, T1.1 j = T.1 j := fun j => by rw [← eT]; rfl
  obtain ⟨a1, a2, a3, a4, a5⟩ := op_all 3 T1 a
  have hle := opK_le 3 T1 a
  refine ⟨(op_ti 3 T1 a b (by omega) hT1 ha).1, hle, by rw [a2, g1], ?_, fun hn => ?_, fun hn => ?_⟩
  · obtain ⟨c0, hc0, ec⟩ : ∃ c0, c0 < 2 ∧ T.1 1 = nI c0 := by
      rcases hT.1.2.1 with z | z
      · exact ⟨0, by omega, z⟩
      · exact ⟨1, by omega, z⟩
    rw [a3 c0 hc0 ((g1 1).trans ec), ec, nI_add]
    exact (pk_rem (d := 2) (by omega) (by omega) (by omega)).symm
  · by_cases hc : canO T1 = true
    · rw [(op_t (n := 2) (a := a) hc).2] at hn; omega
    · rw [(op_f (n := 2) (a := a) hc).1]
      exact ⟨rfl, by simpa using hc⟩
  · by_cases hc : canO T1 = true
    · obtain ⟨e1, e2⟩ := op_t (n := 2) (a := a) hc
      rw [e1, e2]
      obtain ⟨b1, b2, b3, b4, b5⟩ := op_all 2 (begT T1 a) a
      obtain ⟨c1, c2⟩ := b5 rfl rfl
      obtain ⟨k1, y, y', k2, k3, k4, k5⟩ := op_ti 2 (begT T1 a) a (b + 1) (by omega) (ti_beg hT1 ha hc).1 ha
      refine ⟨(can_in hc).1, c1.trans (g1 2), c2, fun x hx hbx => ?_, fun hn1 x hx hxn hbx => ?_, ?_⟩
      · rw [bt_hm T1 1 hx, beq_iff_eq] at hbx
        obtain ⟨q1, q2, q3⟩ := beg_1 (a := a) hbx
        obtain ⟨r1, r2, r3⟩ := b4 x q1
        obtain ⟨j, hj, ej⟩ := (hT1.2.1 x hx).2.2
        refine ⟨r1, r2.trans q2, ?_⟩
        show 1 ≤ (opnN 2 (begT T1 a) a).2.2.2.2 x
        rw [r3, q3, ej, nI_1]
        exact nI_le (a := 1) (by omega) (by omega)
      · have hz : opK 2 (begT T1 a) a = 0 := by omega
        have hc2 : ¬ canO (begT T1 a) = true := fun z => by rw [(op_t (n := 1) (a := a) z).2] at hz; omega
        show (opnN 2 (begT T1 a) a).2.2.1 x = 1
        rw [(op_f (n := 1) (a := a) hc2).1]
        rw [bt_hm T 2 hx, beq_iff_eq] at hbx
        have hxk : x ≠ k := fun z => hk2 (by rw [← z]; exact hbx)
        have hx2 : T1.2.1 x = 2 := by rw [← eT]; show upd T.2.1 k h x = 2; rw [upd, if_neg hxk]; exact hbx
        exact (beg_2 (a := a) hx2 (by rw [g1]; exact hxn)).1
      · show ¬ (opnN 2 (begT T1 a) a).2.1 4 < T.1 4 + szF (hm T1 1) 16
        have e4 : (begT T1 a).1 4 = T.1 4 + szF (hm T1 1) 16 := by show T1.1 4 + _ = _; rw [g1]
        rw [← e4, k2, k3]
        exact nI_nlt k4 (by omega)
    · rw [(op_f (n := 2) (a := a) hc).2] at hn; omega
