/-! the law: what holds of a troop on its runs -/
theorem beg_1 {T : mT} {a : Int32} {k : Nat} (h : T.2.1 k = 1) : (begT T a).2.1 k = 3 ∧ (begT T a).2.2.1 k = a ∧ (begT T a).2.2.2 k = T.2.2.2 k + 1 := by simp [begT, h]
theorem beg_3 {T : mT} {a : Int32} {k : Nat} (h : T.2.1 k = 3) : (begT T a).2.1 k = 3 ∧ (begT T a).2.2.1 k = T.2.2.1 k ∧ (begT T a).2.2.2 k = T.2.2.2 k := by simp [begT, h]
theorem beg_out {T : mT} {a : Int32} {k : Nat} (h1 : ¬ T.2.1 k = 1) (h3 : ¬ T.2.1 k = 3) (hn : ¬ k < (T.1 2).toNatClampNeg) : (begT T a).2.1 k = 0 ∧ (begT T a).2.2.1 k = 0 ∧ (begT T a).2.2.2 k = 0 := by simp [begT, h1, h3, hn]
theorem beg_2 {T : mT} {a : Int32} {k : Nat} (h : T.2.1 k = 2) (hn : k < (T.1 2).toNatClampNeg) : (begT T a).2.1 k = 1 ∧ (begT T a).2.2.1 k = T.2.2.1 k ∧ (begT T a).2.2.2 k = T.2.2.2 k := by simp [begT, h, hn, Nat.not_le.mpr hn]
theorem beg_o {T : mT} {a : Int32} {k : Nat} (h1 : ¬ T.2.1 k = 1) (h2 : ¬ T.2.1 k = 2) (h3 : ¬ T.2.1 k = 3) (hn : k < (T.1 2).toNatClampNeg) : (begT T a).2.1 k = T.2.1 k ∧ (begT T a).2.2.1 k = T.2.2.1 k ∧ (begT T a).2.2.2 k = T.2.2.2 k := by simp [begT, h1, h2, h3, hn, Nat.not_le.mpr hn]
theorem wk_3e {T : mT} {p : Int32} {k : Nat} (hk : k < 16) (h : T.2.1 k = 3) (hf : T.2.2.1 k - 1 ≤ 0) : (wlkT T p 16).2.1 k = 0 ∧ (wlkT T p 16).2.2.1 k = 0 ∧ (wlkT T p 16).2.2.2 k = (if k < tsz T then T.2.2.2 k else 0) := by
  by_cases h2 : k < tsz T
  · simp [wlkT, h, hf, hk, h2, Nat.not_le.mpr h2]
  · simp [wlkT, h, hf, hk, h2]
theorem wk_3 {T : mT} {p : Int32} {k : Nat} (hk : k < 16) (h : T.2.1 k = 3) (hf : ¬ T.2.2.1 k - 1 ≤ 0) : (wlkT T p 16).2.1 k = 3 ∧ (wlkT T p 16).2.2.1 k = T.2.2.1 k - 1 ∧ (wlkT T p 16).2.2.2 k = T.2.2.2 k := by simp [wlkT, h, hf, hk]
theorem wk_4 {T : mT} {p : Int32} {k : Nat} (hk : k < 16) (h : T.2.1 k = 4) : (wlkT T p 16).2.1 k = 4 ∧ (wlkT T p 16).2.2.1 k = T.2.2.1 k + 1 ∧ (wlkT T p 16).2.2.2 k = T.2.2.2 k := by simp [wlkT, h, hk]
theorem wk_o {T : mT} {p : Int32} {k : Nat} (hk : k < 16) (h3 : ¬ T.2.1 k = 3) (h4 : ¬ T.2.1 k = 4) : (wlkT T p 16).2.1 k = T.2.1 k ∧ (wlkT T p 16).2.2.1 k = T.2.2.1 k ∧ (wlkT T p 16).2.2.2 k = T.2.2.2 k := by simp [wlkT, h3, h4, hk]
theorem wk_g {T : mT} {p : Int32} {j : Nat} (hj : j ≠ 5) : (wlkT T p 16).1 j = T.1 j := by simp [wlkT, hj]
theorem wk_5 {T : mT} {p : Int32} : (wlkT T p 16).1 5 = T.1 5 ||| mkm (fun k => decide (T.2.1 k = 4) && decide (p < T.2.2.1 k + 1)) 16 := by simp [wlkT]
theorem wk_sz {T : mT} {p : Int32} : tsz (wlkT T p 16) = tsz T := by unfold tsz; rw [wk_g (by decide)]
def TI (T : mT) (b : Nat) : Prop := WF T ∧ (∀ k, k < 16 → (T.2.1 k = 3 → 1 ≤ T.2.2.1 k) ∧ (T.2.1 k = 0 ∨ T.2.1 k = 1 ∨ T.2.1 k = 2 → T.2.2.1 k = 0) ∧ ∃ j : Nat, j ≤ b ∧ T.2.2.2 k = nI j) ∧ (∀ i, i < 32 → bt (T.1 5) i = true → i < tsz T) ∧ ∃ x y : Nat, T.1 3 = nI x ∧ T.1 4 = nI y ∧ x ≤ y ∧ x ≤ b ∧ y ≤ 16 * b
theorem TI.mono {T : mT} {b c : Nat} (h : TI T b) (hb : b ≤ c) : TI T c := by
  obtain ⟨hW, hk, hs, x, y, e3, e4, h1, h2, h3⟩ := h
  refine ⟨hW, fun k hk16 => ?_, hs, x, y, e3, e4, h1, by omega, by omega⟩
  obtain ⟨p1, p2, j, hj, ej⟩ := hk k hk16
  exact ⟨p1, p2, j, by omega, ej⟩
theorem szF_j (m : Int32) : ∀ n, n ≤ 32 → ∃ j, j ≤ n ∧ szF m n = nI j ∧ ∀ i, i < n → bt m i = true → 1 ≤ j := by
  intro n
  induction n with
  | zero => intro _; exact ⟨0, Nat.le_refl _, rfl, fun i hi => absurd hi (by omega)⟩
  | succ n ih =>
    intro hn
    obtain ⟨j, h1, h2, h3⟩ := ih (by omega)
    rw [szF, h2, bt_and1 m (show n < 32 by omega)]
    cases hb : bt m n
    · refine ⟨j, by omega, by rw [bI_f, Int32.add_zero], fun i hi hbi => ?_⟩
      by_cases e : i = n
      · subst e; rw [hb] at hbi; cases hbi
      · exact h3 i (by omega) hbi
    · exact ⟨j + 1, by omega, by rw [bI_t, nI_1], fun i hi hbi => by omega⟩
theorem can_in {T : mT} (h : canO T = true) : awM T = 0 ∧ ∃ i, i < 16 ∧ bt (hm T 1) i = true := by
  unfold canO at h
  rw [Bool.and_eq_true, decide_eq_true_eq, Bool.not_eq_true', decide_eq_false_iff_not] at h
  refine ⟨h.1, Classical.byContradiction fun z => h.2 ((mkm_0 _).mpr fun k hk => ?_)⟩
  cases hb : (T.2.1 k == 1)
  · rfl
  · exact absurd ⟨k, hk, by rw [bt_hm T 1 hk]; exact hb⟩ z
theorem ti_beg {T : mT} {b : Nat} {a : Int32} (h : TI T b) (ha : 1 ≤ a) (hc : canO T = true) : TI (begT T a) (b + 1) ∧ ∃ y y' : Nat, T.1 4 = nI y ∧ (begT T a).1 4 = nI y' ∧ y ≤ y' ∧ y' ≤ 16 * (b + 1) := by
  obtain ⟨hW, hk, hs, x, y, e3, e4, hxy, hxb, hyb⟩ := h
  obtain ⟨j0, j1, j2, j3⟩ := szF_j (hm T 1) 16 (by omega)
  obtain ⟨-, i, hi, hbi⟩ := can_in hc
  have hj := j3 i hi hbi
  have e4' : (begT T a).1 4 = nI (y + j0) := by
    show T.1 4 + szF (hm T 1) 16 = _
    rw [e4, j2, nI_add]
  refine ⟨⟨wf_beg hW a, fun k hk16 => ?_, fun i hi h => ?_, x + 1, y + j0, ?_, e4', by omega, by omega, by omega⟩, y, y + j0, e4, e4', by omega, by omega⟩
  · obtain ⟨p1, p2, j, hj, ej⟩ := hk k hk16
    have hv := (hW.2.2 k hk16).1
    by_cases h1 : T.2.1 k = 1
    · obtain ⟨q1, q2, q3⟩ := beg_1 (a := a) h1
      rw [q1, q2, q3]
      exact ⟨fun _ => ha, fun z => absurd z (by decide), j + 1, by omega, by rw [ej, nI_1]⟩
    · by_cases h3 : T.2.1 k = 3
      · obtain ⟨q1, q2, q3⟩ := beg_3 (a := a) h3
        rw [q1, q2, q3]
        exact ⟨fun _ => p1 h3, fun z => absurd z (by decide), j, by omega, ej⟩
      · by_cases hn : k < (T.1 2).toNatClampNeg
        · by_cases h2 : T.2.1 k = 2
          · obtain ⟨q1, q2, q3⟩ := beg_2 (a := a) h2 hn
            rw [q1, q2, q3]
            exact ⟨fun z => absurd z (by decide), fun _ => p2 (by simp [h2]), j, by omega, ej⟩
          · obtain ⟨q1, q2, q3⟩ := beg_o (a := a) h1 h2 h3 hn
            rw [q1, q2, q3]
            exact ⟨p1, p2, j, by omega, ej⟩
        · obtain ⟨q1, q2, q3⟩ := beg_out (a := a) h1 h3 hn
          rw [q1, q2, q3]
          exact ⟨fun z => absurd z (by decide), fun _ => rfl, 0, by omega, rfl⟩
  · have z : (begT T a).1 5 = 0 := rfl
    rw [z, b_0] at h
    cases h
  · show T.1 3 + 1 = _
    rw [e3, nI_1]
theorem ti_wlk {T : mT} {b : Nat} {p : Int32} (h : TI T b) : TI (wlkT T p 16) b := by
  obtain ⟨hW, hk, hs, x, y, e3, e4, hxy, hxb, hyb⟩ := h
  refine ⟨wf_wlk hW p, fun k hk16 => ?_, fun i hi h => ?_, x, y, by rw [wk_g (by decide)]; exact e3, by rw [wk_g (by decide)]; exact e4, hxy, hxb, hyb⟩
  · obtain ⟨p1, p2, j, hj, ej⟩ := hk k hk16
    by_cases h3 : T.2.1 k = 3
    · by_cases hf : T.2.2.1 k - 1 ≤ 0
      · obtain ⟨q1, q2, q3⟩ := wk_3e (p := p) hk16 h3 hf
        rw [q1, q2, q3]
        refine ⟨fun z => absurd z (by decide), fun _ => rfl, ?_⟩
        split
        · exact ⟨j, hj, ej⟩
        · exact ⟨0, by omega, rfl⟩
      · obtain ⟨q1, q2, q3⟩ := wk_3 (p := p) hk16 h3 hf
        rw [q1, q2, q3]
        refine ⟨fun _ => ?_, fun z => absurd z (by decide), j, hj, ej⟩
        rw [Int32.not_le, Int32.lt_iff_toInt_lt] at hf
        rw [Int32.le_iff_toInt_le]
        have z0 : (0 : Int32).toInt = 0 := by decide
        have z1 : (1 : Int32).toInt = 1 := by decide
        omega
    · by_cases h4 : T.2.1 k = 4
      · obtain ⟨q1, q2, q3⟩ := wk_4 (p := p) hk16 h4
        rw [q1, q2, q3]
        exact ⟨fun z => absurd z (by decide), fun z => absurd z (by decide), j, hj, ej⟩
      · obtain ⟨q1, q2, q3⟩ := wk_o (p := p) hk16 h3 h4
        rw [q1, q2, q3]
        exact ⟨p1, p2, j, hj, ej⟩
  · rw [wk_sz]
    rw [wk_5, b_or, Bool.or_eq_true] at h
    rcases h with h | h
    · exact hs i hi h
    · rw [bt_mkm _ 16 (by omega) i hi, Bool.and_eq_true, Bool.and_eq_true, decide_eq_true_eq, decide_eq_true_eq] at h
      have h16 := h.1
      have h4 := h.2.1
      rcases Nat.lt_or_ge i (tsz T) with z | z
      · exact z
      · have := (hW.2.2 i h16).2.1 z
        rw [h4] at this
        exact absurd this (by decide)
theorem ti_set {T : mT} {b k : Nat} {x : Int32} (h : TI T b) (hk : k < tsz T) (hx : x = 0 ∨ x = 1 ∨ x = 2 ∨ x = 4) : TI (setH T k x) b := by
  obtain ⟨hW, hk2, hs, e⟩ := h
  refine ⟨wf_set hW hk hx, fun i hi => ?_, hs, e⟩
  obtain ⟨p1, p2, p3⟩ := hk2 i hi
  unfold setH
  dsimp only
  by_cases e : i = k
  · subst e
    simp only [upd, if_true]
    exact ⟨fun z => absurd z (by rcases hx with h | h | h | h <;> rw [h] <;> decide), fun _ => trivial, p3⟩
  · simp only [upd, if_neg e]
    exact ⟨p1, p2, p3⟩
theorem ti_rsz {T : mT} {b n : Nat} (h : TI T b) (h1 : 1 ≤ n) (h2 : n ≤ 16) : TI (rszT T (nI n)) b := by
  obtain ⟨hW, hk2, hs, x, y, e3, e4, z⟩ := h
  exact ⟨wf_rsz hW h1 h2, hk2, hs, x, y, e3, e4, z⟩
theorem ti_new {n b : Nat} (h1 : 1 ≤ n) (h2 : n ≤ 16) : TI (newT (nI n)) b :=
  ⟨wf_new h1 h2, fun k _ => ⟨fun z => absurd z (show ¬ ((0 : Int32) = 3) by decide), fun _ => rfl, 0, Nat.zero_le _, rfl⟩, fun i _ h => absurd h (by show ¬ bt 0 i = true; rw [b_0]; decide), 0, 0, rfl, rfl, Nat.le_refl _, Nat.zero_le _, Nat.zero_le _⟩
/-! openings, counted -/
def opK : Nat → mT → Int32 → Nat
  | 0, _, _ => 0
  | n + 1, T, a => if canO T = true then opK n (begT T a) a + 1 else 0
theorem opK_le : ∀ n T a, opK n T a ≤ n := by
  intro n
  induction n with
  | zero => intro T a; exact Nat.le_refl _
  | succ n ih =>
    intro T a
    unfold opK
    split
    · have := ih (begT T a) a; omega
    · omega
theorem op_t {n : Nat} {T : mT} {a : Int32} (h : canO T = true) : opnN (n + 1) T a = ((opnN n (begT T a) a).1 + 1, (opnN n (begT T a) a).2) ∧ opK (n + 1) T a = opK n (begT T a) a + 1 :=
  ⟨by show (if canO T = true then ((opnN n (begT T a) a).1 + 1, (opnN n (begT T a) a).2) else (0, T)) = _; rw [if_pos h], by show (if canO T = true then opK n (begT T a) a + 1 else 0) = _; rw [if_pos h]⟩
theorem op_f {n : Nat} {T : mT} {a : Int32} (h : ¬ canO T = true) : opnN (n + 1) T a = (0, T) ∧ opK (n + 1) T a = 0 :=
  ⟨by show (if canO T = true then ((opnN n (begT T a) a).1 + 1, (opnN n (begT T a) a).2) else (0, T)) = _; rw [if_neg h], by show (if canO T = true then opK n (begT T a) a + 1 else 0) = _; rw [if_neg h]⟩
theorem op_all : ∀ n (T : mT) (a : Int32), (opnN n T a).1 = nI (opK n T a) ∧ (opnN n T a).2.1 3 = T.1 3 + nI (opK n T a) ∧ (∀ c, c < 2 → T.1 1 = nI c → (opnN n T a).2.1 1 = nI ((c + opK n T a) % 2)) ∧ (∀ k, T.2.1 k = 3 → (opnN n T a).2.2.1 k = 3 ∧ (opnN n T a).2.2.2.1 k = T.2.2.1 k ∧ (opnN n T a).2.2.2.2 k = T.2.2.2 k) ∧ (T.1 0 = T.1 2 → T.1 5 = 0 → (opnN n T a).2.1 0 = T.1 2 ∧ (opnN n T a).2.1 5 = 0) := by
  intro n
  induction n with
  | zero => intro T a; exact ⟨rfl, (Int32.add_zero _).symm, fun c hc h => by show T.1 1 = _; rw [h]; congr 1; show c = (c + 0) % 2; omega, fun k h => ⟨h, rfl, rfl⟩, fun h1 h2 => ⟨h1, h2⟩⟩
  | succ n ih =>
    intro T a
    by_cases h : canO T = true
    · obtain ⟨e1, e2⟩ := op_t (n := n) (a := a) h
      rw [e1, e2]
      obtain ⟨i1, i2, i3, i4, i5⟩ := ih (begT T a) a
      refine ⟨by show (opnN n (begT T a) a).1 + 1 = _; rw [i1, nI_1], ?_, fun c hc hcc => ?_, fun k hk => ?_, fun h1 h2 => ?_⟩
      · show (opnN n (begT T a) a).2.1 3 = _
        rw [i2]
        show T.1 3 + 1 + nI (opK n (begT T a) a) = T.1 3 + nI (opK n (begT T a) a + 1)
        rw [← nI_1, Int32.add_assoc, Int32.add_comm 1]
      · have hb : (begT T a).1 1 = nI ((c + 1) % 2) := by
          show 1 - T.1 1 = _
          rw [hcc]
          rcases (by omega : c = 0 ∨ c = 1) with rfl | rfl <;> rfl
        have z := i3 ((c + 1) % 2) (by omega) hb
        show (opnN n (begT T a) a).2.1 1 = _
        rw [z]
        congr 1
        omega
      · obtain ⟨b1, b2, b3⟩ := beg_3 (a := a) hk
        obtain ⟨c1, c2, c3⟩ := i4 k b1
        exact ⟨c1, c2.trans b2, c3.trans b3⟩
      · exact i5 rfl rfl
    · obtain ⟨e1, e2⟩ := op_f (n := n) (a := a) h
      rw [e1, e2]
      exact ⟨rfl, (Int32.add_zero _).symm, fun c hc h => by show T.1 1 = _; rw [h]; congr 1; omega, fun k h => ⟨h, rfl, rfl⟩, fun h1 h2 => ⟨h1, h2⟩⟩
theorem op_ti : ∀ n (T : mT) (a : Int32) (b : Nat), b + n ≤ 1000 → TI T b → 1 ≤ a → TI (opnN n T a).2 (b + n) ∧ ∃ y y' : Nat, T.1 4 = nI y ∧ (opnN n T a).2.1 4 = nI y' ∧ y ≤ y' ∧ y' ≤ 16 * (b + n) := by
  intro n
  induction n with
  | zero =>
    intro T a b hb h ha
    refine ⟨h, ?_⟩
    obtain ⟨-, -, -, x, y, -, e4, -, -, hy⟩ := h
    exact ⟨y, y, e4, e4, Nat.le_refl _, hy⟩
  | succ n ih =>
    intro T a b hb h ha
    by_cases hc : canO T = true
    · obtain ⟨g1, y, y', g2, g3, g4, g5⟩ := ti_beg h ha hc
      obtain ⟨k1, z, z', k2, k3, k4, k5⟩ := ih (begT T a) a (b + 1) (by omega) g1 ha
      rw [(op_t (n := n) (a := a) hc).1]
      have ez : z = y' := by
        rw [g3] at k2
        exact ((nI_eq (by omega) (by omega)).mp k2).symm
      subst ez
      exact ⟨by rw [show b + (n + 1) = b + 1 + n by omega]; exact k1, y, z', g2, k3, by omega, by omega⟩
    · rw [(op_f (n := n) (a := a) hc).1]
      have h2 := h.mono (show b ≤ b + (n + 1) by omega)
      refine ⟨h2, ?_⟩
      obtain ⟨-, -, -, x, y, -, e4, -, -, hy⟩ := h2
      exact ⟨y, y, e4, e4, Nat.le_refl _, hy⟩
/-! the law: what holds of the gates on its runs -/
def knB (T : mT) (k : Nat) : Bool := decide (k < tsz T) || (T.2.1 k == 3)
theorem tr_ok {N : mN} (hW : WN N) {t : Nat} (ht : t < cnt N) : isTr N (nI t) = true := by
  obtain ⟨hc, hc5⟩ := hW.cn
  unfold isTr
  rw [hc, decide_eq_true_iff]
  exact ⟨nI_pos' (by omega), (nI_ltI (by omega) (by omega)).mpr ht⟩
theorem tr_no {N : mN} (hW : WN N) : isTr N (N.1 3) = false := by
  unfold isTr
  rw [decide_eq_false_iff_not]
  exact fun h => Int32.lt_irrefl h.2
theorem kn_ok {T : mT} (hW : WF T) {k : Nat} (hk : k < 16) : knwT T (nI k) = knB T k := by
  unfold knwT knB
  have h1 : decide (0 ≤ nI k ∧ nI k < T.1 0) = decide (k < tsz T) := decide_eq_decide.mpr (sz_lt hW hk)
  have h2 : decide (0 ≤ nI k ∧ nI k < 16) = true := decide_eq_true ⟨nI_pos' (by omega), nI_lt (b := 16) hk (by decide)⟩
  rw [nI_clamp (by omega), h1, h2, Bool.true_and]
theorem sc_ok {N : mN} (hW : WN N) {t k : Nat} (ht : t < cnt N) (hk : k < 16) : isSc N (nI t) (nI k) = decide (k < tsz (N.2 t)) := by
  unfold isSc
  have hc5 := hW.cn.2
  rw [tr_ok hW ht, nI_clamp (by omega), Bool.true_and]
  exact decide_eq_decide.mpr (sz_lt (hW.2 t ht) hk)
theorem of_no {N : mN} (hW : WN N) {t k : Nat} (ht : t < cnt N) (hk : k < 16) (h : knB (N.2 t) k = false) (w : Int32) : ofA N (nI t) (nI k) w = -1 := by
  have hc5 := hW.cn.2
  unfold ofA
  rw [if_pos (tr_ok hW ht), nI_clamp (by omega), kn_ok (hW.2 t ht) hk, h]
  rfl
theorem of_0 {N : mN} (hW : WN N) {t k : Nat} (ht : t < cnt N) (hk : k < 16) (h : knB (N.2 t) k = true) : ofA N (nI t) (nI k) 0 = (N.2 t).2.1 k := by
  have hc5 := hW.cn.2
  unfold ofA
  rw [if_pos (tr_ok hW ht), nI_clamp (show t < 2 ^ 31 by omega), kn_ok (hW.2 t ht) hk, if_pos h, nI_clamp (by omega)]
  rfl
theorem of_1 {N : mN} (hW : WN N) {t k : Nat} (ht : t < cnt N) (hk : k < 16) (h : knB (N.2 t) k = true) : ofA N (nI t) (nI k) 1 = (N.2 t).2.2.1 k := by
  have hc5 := hW.cn.2
  unfold ofA
  rw [if_pos (tr_ok hW ht), nI_clamp (show t < 2 ^ 31 by omega), kn_ok (hW.2 t ht) hk, if_pos h, nI_clamp (by omega)]
  rfl
theorem of_2 {N : mN} (hW : WN N) {t k : Nat} (ht : t < cnt N) (hk : k < 16) (h : knB (N.2 t) k = true) : ofA N (nI t) (nI k) 2 = (N.2 t).2.2.2 k := by
  have hc5 := hW.cn.2
  unfold ofA
  rw [if_pos (tr_ok hW ht), nI_clamp (show t < 2 ^ 31 by omega), kn_ok (hW.2 t ht) hk, if_pos h, nI_clamp (by omega)]
  rfl
theorem of_3 {N : mN} (hW : WN N) {t k : Nat} (ht : t < cnt N) (hk : k < 16) (h : knB (N.2 t) k = true) : ofA N (nI t) (nI k) 3 = bI (bt ((N.2 t).1 5) k) := by
  have hc5 := hW.cn.2
  unfold ofA
  rw [if_pos (tr_ok hW ht), nI_clamp (show t < 2 ^ 31 by omega), kn_ok (hW.2 t ht) hk, if_pos h, ← bt_and1 _ (show k < 32 by omega)]
  rfl
theorem oft {N : mN} (hW : WN N) {t : Nat} (ht : t < cnt N) : ofTA N (nI t) 0 = (N.2 t).1 0 ∧ ofTA N (nI t) 1 = (N.2 t).1 1 ∧ ofTA N (nI t) 2 = (N.2 t).1 2 ∧ ofTA N (nI t) 3 = szF (awM (N.2 t)) 16 ∧ ofTA N (nI t) 4 = (N.2 t).1 3 ∧ ofTA N (nI t) 5 = mkm (fun k => decide (k < tsz (N.2 t)) && ((N.2 t).2.1 k == 0)) 16 ∧ ofTA N (nI t) 6 = hm (N.2 t) 1 ∧ ofTA N (nI t) 7 = hm (N.2 t) 2 ∧ ofTA N (nI t) 8 = hm (N.2 t) 3 ∧ ofTA N (nI t) 9 = hm (N.2 t) 4 ∧ ofTA N (nI t) 10 = (N.2 t).1 5 ∧ ofTA N (nI t) 11 = (N.2 t).1 4 := by
  have hc5 := hW.cn.2
  refine ⟨?_, ?_, ?_, ?_, ?_, ?_, ?_, ?_, ?_, ?_, ?_, ?_⟩ <;> (unfold ofTA; rw [if_pos (tr_ok hW ht), nI_clamp (show t < 2 ^ 31 by omega)]; rfl)
def NI (N : mN) (b : Nat) : Prop := WN N ∧ (∀ t, t < cnt N → TI (N.2 t) b) ∧ (∃ m : Nat, m ≤ b ∧ N.1 2 = nI m) ∧ 1 ≤ N.1 1 ∧ 2 ≤ cnt N
/-- the class's cells say N, between the law's calls -/
def LI (S : mS) (N : mN) : Prop := SP S 1 N ∧ (∃ n h, HP S n h) ∧ S 185 1 = nI 0
