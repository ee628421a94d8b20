/-! what both sides compute: a troop as four rows of numbers: sc (0 size, 1 colour, 2 next size, 3 hikes, 4 hikers, 5 struck), hw (how a scout is), fr (minutes), tm (hikes) -/
abbrev mT : Type := (Nat → Int32) × (Nat → Int32) × (Nat → Int32) × (Nat → Int32)
def tsz (T : mT) : Nat := (T.1 0).toNatClampNeg
/-- those who are so -/
def hm (T : mT) (h : Int32) : Int32 := mkm (fun k => T.2.1 k == h) 16
def awp (T : mT) (k : Nat) : Bool := decide (k < tsz T) && !(T.2.1 k == 1) && !(bt (T.1 5) k)
/-- who is waited for -/
def awM (T : mT) : Int32 := mkm (awp T) 16
def canO (T : mT) : Bool := decide (awM T = 0) && !(decide (hm T 1 = 0))
/-- the gate opens -/
def begT (T : mT) (away : Int32) : mT :=
  let ns := (T.1 2).toNatClampNeg
  (fun j => match j with | 0 => T.1 2 | 1 => 1 - T.1 1 | 2 => T.1 2 | 3 => T.1 3 + 1 | 4 => T.1 4 + szF (hm T 1) 16 | _ => 0,
   fun k => if T.2.1 k = 1 then 3 else if T.2.1 k = 3 then 3 else if ¬ k < ns then 0 else if T.2.1 k = 2 then 1 else T.2.1 k,
   fun k => if T.2.1 k = 1 then away else if T.2.1 k = 3 then T.2.2.1 k else if ¬ k < ns then 0 else T.2.2.1 k,
   fun k => if T.2.1 k = 1 then T.2.2.2 k + 1 else if T.2.1 k = 3 then T.2.2.2 k else if ¬ k < ns then 0 else T.2.2.2 k)
def opnN : Nat → mT → Int32 → Int32 × mT
  | 0, T, _ => (0, T)
  | n + 1, T, away => if canO T = true then ((opnN n (begT T away) away).1 + 1, (opnN n (begT T away) away).2) else (0, T)
/-- scouts walk on, lost ones are longer lost: those below n -/
def wlkT (T : mT) (pat : Int32) (n : Nat) : mT :=
  (fun j => if j = 5 then T.1 5 ||| mkm (fun k => decide (T.2.1 k = 4) && decide (pat < T.2.2.1 k + 1)) n else T.1 j,
   fun k => if k < n ∧ T.2.1 k = 3 ∧ T.2.2.1 k - 1 ≤ 0 then 0 else T.2.1 k,
   fun k => if k < n then (if T.2.1 k = 3 then (if T.2.2.1 k - 1 ≤ 0 then 0 else T.2.2.1 k - 1) else if T.2.1 k = 4 then T.2.2.1 k + 1 else T.2.2.1 k) else T.2.2.1 k,
   fun k => if k < n ∧ T.2.1 k = 3 ∧ T.2.2.1 k - 1 ≤ 0 ∧ ¬ k < tsz T then 0 else T.2.2.2 k)
def minT (T : mT) (pat away : Int32) : Int32 × mT := opnN 3 (wlkT T pat 16) away
def setH (T : mT) (k : Nat) (h : Int32) : mT := (T.1, upd T.2.1 k h, upd T.2.2.1 k 0, T.2.2.2)
def newT (size : Int32) : mT := (fun j => if j = 0 then size else if j = 2 then size else 0, fun _ => 0, fun _ => 0, fun _ => 0)
def rszT (T : mT) (size : Int32) : mT := (upd T.1 2 size, T.2.1, T.2.2.1, T.2.2.2)
/-- a troop as it can be -/
def WF (T : mT) : Prop := (∃ s n : Nat, T.1 0 = nI s ∧ 1 ≤ s ∧ s ≤ 16 ∧ T.1 2 = nI n ∧ 1 ≤ n ∧ n ≤ 16) ∧ (T.1 1 = 0 ∨ T.1 1 = 1) ∧
  ∀ k, k < 16 → (T.2.1 k = 0 ∨ T.2.1 k = 1 ∨ T.2.1 k = 2 ∨ T.2.1 k = 3 ∨ T.2.1 k = 4) ∧ (tsz T ≤ k → T.2.1 k = 0 ∨ T.2.1 k = 3) ∧ (T.2.1 k = 2 → T.2.2.1 k = 0)
theorem nI_cl {n : Nat} (h : n ≤ 16) : (nI n).toNatClampNeg = n := nI_clamp (by omega)
theorem WF.sz {T : mT} (h : WF T) : ∃ s, tsz T = s ∧ T.1 0 = nI s ∧ 1 ≤ s ∧ s ≤ 16 := by
  obtain ⟨⟨s, n, h1, h2, h3, -⟩, -⟩ := h
  exact ⟨s, by unfold tsz; rw [h1, nI_cl h3], h1, h2, h3⟩
theorem WF.nx {T : mT} (h : WF T) : ∃ n, (T.1 2).toNatClampNeg = n ∧ T.1 2 = nI n ∧ 1 ≤ n ∧ n ≤ 16 := by
  obtain ⟨⟨s, n, h1, h2, h3, h4, h5, h6⟩, -⟩ := h
  exact ⟨n, by rw [h4, nI_cl h6], h4, h5, h6⟩
theorem wf_set {T : mT} (h : WF T) {k : Nat} {x : Int32} (hk : k < tsz T) (hx : x = 0 ∨ x = 1 ∨ x = 2 ∨ x = 4) : WF (setH T k x) := by
  refine ⟨h.1, h.2.1, fun j hj => ?_⟩
  have hj3 := h.2.2 j hj
  have e : tsz (setH T k x) = tsz T := rfl
  rw [e]
  unfold setH
  dsimp only
  by_cases e : j = k
  · subst e
    simp only [upd, if_true]
    refine ⟨by rcases hx with h | h | h | h <;> simp [h], fun h => absurd hk (by omega), fun _ => trivial⟩
  · simp only [upd, if_neg e]
    exact hj3
theorem wf_rsz {T : mT} (h : WF T) {n : Nat} (h1 : 1 ≤ n) (h2 : n ≤ 16) : WF (rszT T (nI n)) := by
  obtain ⟨⟨s, n0, a1, a2, a3, -⟩, b, c⟩ := h
  refine ⟨⟨s, n, ?_, a2, a3, ?_, h1, h2⟩, ?_, fun k hk => ?_⟩
  · simp [rszT, upd, a1]
  · simp [rszT, upd]
  · simpa [rszT, upd] using b
  · have := c k hk
    have e : tsz (rszT T (nI n)) = tsz T := by simp [tsz, rszT, upd]
    rw [e]
    exact this
theorem wf_new {n : Nat} (h1 : 1 ≤ n) (h2 : n ≤ 16) : WF (newT (nI n)) :=
  ⟨⟨n, n, rfl, h1, h2, rfl, h1, h2⟩, Or.inl rfl, fun k _ => ⟨Or.inl rfl, fun _ => Or.inl rfl, fun _ => rfl⟩⟩
theorem wf_beg {T : mT} (h : WF T) (away : Int32) : WF (begT T away) := by
  obtain ⟨n, e1, e2, e3, e4⟩ := h.nx
  refine ⟨⟨n, n, e2, e3, e4, e2, e3, e4⟩, ?_, fun k hk => ?_⟩
  · rcases h.2.1 with z | z
    · right; show 1 - T.1 1 = 1; rw [z]; decide
    · left; show 1 - T.1 1 = 0; rw [z]; decide
  · obtain ⟨a1, a2, a3⟩ := h.2.2 k hk
    have et : tsz (begT T away) = n := e1
    rw [et]
    unfold begT
    dsimp only
    rw [e1]
    by_cases h1 : T.2.1 k = 1
    · simp [h1]
    · by_cases h3 : T.2.1 k = 3
      · simp [h3]
      · by_cases hn : k < n
        · by_cases h2 : T.2.1 k = 2
          · simp [h2, hn]
          · simp only [h1, h2, h3, hn, if_false, if_true, not_true_eq_false, not_false_eq_true, false_implies, and_true, true_and, false_or, or_false] at a1 ⊢
            exact ⟨a1, fun h => absurd hn (by omega)⟩
        · simp [h1, h3, hn]
theorem wf_wlk {T : mT} (h : WF T) (pat : Int32) {n : Nat} : WF (wlkT T pat n) := by
  have e0 : ∀ j, j ≠ 5 → (wlkT T pat n).1 j = T.1 j := fun j hj => by simp [wlkT, hj]
  have et : tsz (wlkT T pat n) = tsz T := by unfold tsz; rw [e0 0 (by decide)]
  refine ⟨?_, ?_, fun k hk => ?_⟩
  · rw [e0 0 (by decide), e0 2 (by decide)]; exact h.1
  · rw [e0 1 (by decide)]; exact h.2.1
  · obtain ⟨a1, a2, a3⟩ := h.2.2 k hk
    rw [et]
    unfold wlkT
    dsimp only
    by_cases h3 : k < n ∧ T.2.1 k = 3 ∧ T.2.2.1 k - 1 ≤ 0
    · rw [if_pos h3]; simp
    · rw [if_neg h3]
      refine ⟨a1, a2, fun z => ?_⟩
      have := a3 z
      simp [z, this]
theorem wf_opn (away : Int32) : ∀ n (T : mT), WF T → WF (opnN n T away).2 := by
  intro n
  induction n with
  | zero => intro T h; exact h
  | succ n ih =>
    intro T h
    unfold opnN
    split
    · exact ih _ (wf_beg h away)
    · exact h
theorem wf_min {T : mT} (h : WF T) (pat away : Int32) : WF (minT T pat away).2 := wf_opn away 3 _ (wf_wlk h pat)
/-- the class's picture of a troop: cells a, a+1, a+2 -/
def TP (S : mS) (a : Nat) (T : mT) : Prop :=
  (S a 0 = T.1 0 ∧ S a 1 = T.1 2 ∧ S a 2 = T.1 1 ∧ S a 7 = T.1 5 ∧ S a 8 = T.1 3 ∧ S a 9 = T.1 4) ∧
  (S a 3 = hm T 1 ∧ S a 4 = hm T 2 ∧ S a 5 = hm T 3 ∧ S a 6 = hm T 4) ∧
  ∀ k, k < 16 → S (a + 1) k = T.2.2.1 k ∧ S (a + 2) k = T.2.2.2 k
/-- the reference's picture of a troop: a stretch of its row -/
def MP (r : Nat → Int32) (t : Nat) (T : mT) : Prop :=
  (∀ j, j < 6 → r (5 + 54 * t + j) = T.1 j) ∧ ∀ k, k < 16 → r (11 + 54 * t + 3 * k) = T.2.1 k ∧ r (12 + 54 * t + 3 * k) = T.2.2.1 k ∧ r (13 + 54 * t + 3 * k) = T.2.2.2 k
theorem kdT {a : Nat} (h : kd a = 3) : kd (a + 1) = 6 ∧ kd (a + 2) = 6 ∧ ln (a + 1) = 16 ∧ ln (a + 2) = 16 ∧ rf a 10 = a + 1 ∧ rf a 11 = a + 2 := by
  have h2 := (by decide +kernel : ∀ a, a < 190 → kd a = 3 → kd (a + 1) = 6 ∧ kd (a + 2) = 6 ∧ ln (a + 1) = 16 ∧ ln (a + 2) = 16) a (kd_lt (by omega)) h
  refine ⟨h2.1, h2.2.1, h2.2.2.1, h2.2.2.2, ?_, ?_⟩
  · unfold rf; rw [h]; show a + 10 - 9 = a + 1; omega
  · unfold rf; rw [h]; show a + 11 - 9 = a + 2; omega
theorem TP.off {S u : mS} {a : Nat} {T : mT} (h : TP S a T) (h2 : ∀ b, b = a ∨ b = a + 1 ∨ b = a + 2 → u b = S b) : TP u a T := by
  unfold TP
  rw [h2 a (by omega), h2 (a + 1) (by omega), h2 (a + 2) (by omega)]
  exact h
