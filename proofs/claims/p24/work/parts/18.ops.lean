/-! what the calls answer and make of N: both sides compute this -/
def isTr (N : mN) (t : Int32) : Bool := decide (0 ≤ t ∧ t < N.1 3)
def isSc (N : mN) (t k : Int32) : Bool := isTr N t && decide (0 ≤ k ∧ k < (N.2 t.toNatClampNeg).1 0)
def setTr (N : mN) (t : Nat) (T : mT) : mN := (N.1, fun i => if i = t then T else N.2 i)
def isSz (s : Int32) : Bool := decide (1 ≤ s ∧ s ≤ 16)
def addN (N : mN) (s : Int32) : mN := (upd N.1 3 (N.1 3 + 1), fun t => if t = cnt N then newT s else N.2 t)
def addO (N : mN) (s : Int32) : Int32 × mN := if isSz s = true then (if 5 ≤ N.1 3 then (-4, N) else (N.1 3, addN N s)) else (-2, N)
def rszO (N : mN) (t s : Int32) : Int32 × mN := if isTr N t = true then (if isSz s = true then ((N.2 t.toNatClampNeg).1 2, setTr N t.toNatClampNeg (rszT (N.2 t.toNatClampNeg) s)) else (-2, N)) else (-1, N)
def whyT (T : mT) (k : Nat) (c : Int32) : Int32 := if T.2.1 k = 3 then 1 else if T.2.1 k = 1 then 2 else if T.2.1 k = 2 then 3 else if c = T.1 1 then 0 else 4
def whyA (N : mN) (t k c : Int32) : Int32 := if isSc N t k = true then (if c < 0 ∨ 1 < c then -2 else whyT (N.2 t.toNatClampNeg) k.toNatClampNeg c) else -1
def comN (N : mN) (t k : Nat) (h : Int32) : Int32 × mN := ((opnN 3 (setH (N.2 t) k h) (N.1 1)).1, setTr N t (opnN 3 (setH (N.2 t) k h) (N.1 1)).2)
def eryN (N : mN) : mN := (upd N.1 4 (N.1 4 + 1), N.2)
def comO (N : mN) (t k c : Int32) : Int32 × mN :=
  if whyA N t k c < 0 then (whyA N t k c, N) else if whyA N t k c = 4 then comN (eryN N) t.toNatClampNeg k.toNatClampNeg 2 else if whyA N t k c = 0 then comN N t.toNatClampNeg k.toNatClampNeg 1 else (-5, N)
def losO (N : mN) (t k : Int32) : Int32 × mN := if isSc N t k = true then (if (N.2 t.toNatClampNeg).2.1 k.toNatClampNeg = 3 ∨ (N.2 t.toNatClampNeg).2.1 k.toNatClampNeg = 4 then (-5, N) else (szF (awM (setH (N.2 t.toNatClampNeg) k.toNatClampNeg 4)) 16, setTr N t.toNatClampNeg (setH (N.2 t.toNatClampNeg) k.toNatClampNeg 4))) else (-1, N)
def finO (N : mN) (t k : Int32) : Int32 × mN := if isSc N t k = true then (if (N.2 t.toNatClampNeg).2.1 k.toNatClampNeg = 4 then ((N.2 t.toNatClampNeg).2.2.1 k.toNatClampNeg, setTr N t.toNatClampNeg (setH (N.2 t.toNatClampNeg) k.toNatClampNeg 0)) else (-5, N)) else (-1, N)
/-- a minute: the troops below n are through -/
def trM (N : mN) (n : Nat) : mN := (N.1, fun t => if t < n then (minT (N.2 t) (N.1 0) (N.1 1)).2 else N.2 t)
def ansM (N : mN) (n : Nat) : Int32 := sumN (fun T => (minT T (N.1 0) (N.1 1)).1) N n
def itM : Nat → mN → Int32 × mN
  | 0, N => (0, N)
  | i + 1, N => (ansM N (cnt N) + (itM i (trM N (cnt N))).1, (itM i (trM N (cnt N))).2)
def addM (N : mN) (m : Int32) : mN := (upd N.1 2 (N.1 2 + m), N.2)
def pasO (N : mN) (m : Int32) : Int32 × mN := if m < 1 ∨ 99 < m then (-2, N) else if 9999 < N.1 2 + m then (-5, N) else ((itM m.toNatClampNeg N).1, addM (itM m.toNatClampNeg N).2 m)
def setO (N : mN) (s v : Int32) : Int32 × mN := if (s = 0 ∧ 0 ≤ v ∧ v ≤ 99) ∨ (s = 1 ∧ 1 ≤ v ∧ v ≤ 99) then (N.1 s.toNatClampNeg, (upd N.1 s.toNatClampNeg v, N.2)) else (-2, N)
def ofTA (N : mN) (t w : Int32) : Int32 := if isTr N t = true then
    (if w = 0 then (N.2 t.toNatClampNeg).1 0 else if w = 1 then (N.2 t.toNatClampNeg).1 1 else if w = 2 then (N.2 t.toNatClampNeg).1 2 else if w = 3 then szF (awM (N.2 t.toNatClampNeg)) 16
      else if w = 4 then (N.2 t.toNatClampNeg).1 3 else if w = 5 then mkm (fun k => decide (k < tsz (N.2 t.toNatClampNeg)) && ((N.2 t.toNatClampNeg).2.1 k == 0)) 16
      else if w = 6 then hm (N.2 t.toNatClampNeg) 1 else if w = 7 then hm (N.2 t.toNatClampNeg) 2 else if w = 8 then hm (N.2 t.toNatClampNeg) 3 else if w = 9 then hm (N.2 t.toNatClampNeg) 4
      else if w = 10 then (N.2 t.toNatClampNeg).1 5 else if w = 11 then (N.2 t.toNatClampNeg).1 4 else -2) else -1
def knwT (T : mT) (k : Int32) : Bool := decide (0 ≤ k ∧ k < T.1 0) || (decide (0 ≤ k ∧ k < 16) && (T.2.1 k.toNatClampNeg == 3))
def ofA (N : mN) (t k w : Int32) : Int32 := if isTr N t = true then (if knwT (N.2 t.toNatClampNeg) k = true then
    (if w = 0 then (N.2 t.toNatClampNeg).2.1 k.toNatClampNeg else if w = 1 then (N.2 t.toNatClampNeg).2.2.1 k.toNatClampNeg else if w = 2 then (N.2 t.toNatClampNeg).2.2.2 k.toNatClampNeg
      else if w = 3 then ((N.2 t.toNatClampNeg).1 5 >>> (k &&& 31)) &&& 1 else -2) else -1) else -1
def cntA (N : mN) (len n : Nat) (w : Int32) : Int32 := if w = 0 then N.1 2 else if w = 1 then N.1 3 else if w = 2 then sumN (fun T => T.1 3) N (cnt N) else if w = 3 then sumN (fun T => szF (hm T 3) 16) N (cnt N)
    else if w = 4 then sumN (fun T => szF (hm T 4) 16) N (cnt N) else if w = 5 then N.1 4 else if w = 6 then N.1 0 else if w = 7 then N.1 1 else if w = 8 then nI len else if w = 9 then nI n else -2
def waiA (N : mN) (t : Int32) : Int32 := if isTr N t = true then awM (N.2 t.toNatClampNeg) else -1
def opIn : Nat → Nat → mT → Int32 → Int32 → Int32
  | 0, _, _, _, _ => -6
  | f + 1, m, T, p, a => if 0 < (minT T p a).1 then nI m else opIn f (m + 1) (minT T p a).2 p a
def opIA (N : mN) (t : Int32) : Int32 := if isTr N t = true then opIn 200 1 (N.2 t.toNatClampNeg) (N.1 0) (N.1 1) else -1
def cnC (T : mT) (k : Nat) : Bool := decide (k < tsz T) && !(T.2.1 k == 1) && !(T.2.1 k == 2) && !(T.2.1 k == 3)
def cHs (T : mT) (a : Int32) : Nat → Int32 × mT
  | 0 => (0, T)
  | i + 1 => if cnC (cHs T a i).2 (i % 16) = true then ((cHs T a i).1 + (opnN 3 (setH (cHs T a i).2 (i % 16) 1) a).1, (opnN 3 (setH (cHs T a i).2 (i % 16) 1) a).2) else cHs T a i
def couA (N : mN) (t : Int32) : Int32 := if isTr N t = true then (cHs (N.2 t.toNatClampNeg) (N.1 1) 48).1 else -1
theorem tr_cases {N : mN} (hW : WN N) (t : Int32) : isTr N t = false ∨ ∃ T, isTr N t = true ∧ t = nI T ∧ T < cnt N ∧ T < 5 ∧ t.toNatClampNeg = T := by
  cases h : isTr N t
  · exact Or.inl rfl
  · right
    obtain ⟨hc, hc5⟩ := hW.cn
    obtain ⟨h1, h2⟩ := of_decide_eq_true h
    obtain ⟨j, hj, rfl⟩ := nI_of (Int32.not_lt.mpr h1)
    rw [hc, nI_ltI hj (by omega)] at h2
    exact ⟨j, rfl, rfl, h2, by omega, nI_clamp hj⟩
theorem sc_cases {N : mN} (hW : WN N) (t k : Int32) : isSc N t k = false ∨ ∃ T K, isSc N t k = true ∧ isTr N t = true ∧ t = nI T ∧ T < cnt N ∧ T < 5 ∧ t.toNatClampNeg = T ∧ k = nI K ∧ K < tsz (N.2 T) ∧ K < 16 ∧ k.toNatClampNeg = K := by
  cases h : isSc N t k
  · exact Or.inl rfl
  · right
    unfold isSc at h
    rw [Bool.and_eq_true] at h
    obtain ⟨h0, h⟩ := h
    rcases tr_cases hW t with z | ⟨T, -, rfl, hT, hT5, eT⟩
    · rw [h0] at z; cases z
    · obtain ⟨h1, h2⟩ := of_decide_eq_true h
      rw [eT] at h2
      obtain ⟨s, e1, e2, e3, e4⟩ := (hW.2 T hT).sz
      obtain ⟨j, hj, rfl⟩ := nI_of (Int32.not_lt.mpr h1)
      rw [e2, nI_ltI hj (by omega)] at h2
      exact ⟨T, j, rfl, h0, rfl, hT, hT5, eT, rfl, by omega, by omega, nI_clamp hj⟩
theorem WN.tr {N : mN} (h : WN N) {t : Nat} {T : mT} (hT : WF T) : WN (setTr N t T) := by
  refine ⟨h.1, fun i hi => ?_⟩
  show WF (if i = t then T else N.2 i)
  by_cases e : i = t
  · rw [if_pos e]; exact hT
  · rw [if_neg e]; exact h.2 i hi
theorem WN.glob {N : mN} (h : WN N) {g : Nat → Int32} (hg : g 3 = N.1 3) : WN (g, N.2) := by
  refine ⟨?_, fun i hi => h.2 i ?_⟩
  · obtain ⟨c, h1, h2⟩ := h.1
    exact ⟨c, by show g 3 = nI c; rw [hg]; exact h1, h2⟩
  · unfold cnt at hi ⊢; rw [← hg]; exact hi
theorem cnt_g {N : mN} {g : Nat → Int32} (hg : g 3 = N.1 3) : cnt (g, N.2) = cnt N := by unfold cnt; rw [← hg]
theorem sz_cases (s : Int32) : isSz s = false ∨ ∃ n, isSz s = true ∧ s = nI n ∧ 1 ≤ n ∧ n ≤ 16 := by
  cases h : isSz s
  · exact Or.inl rfl
  · right
    obtain ⟨h1, h2⟩ := of_decide_eq_true h
    have h0 : ¬ s < 0 := by
      intro z
      rw [Int32.lt_iff_toInt_lt] at z
      rw [Int32.le_iff_toInt_le] at h1
      have e1 : (1 : Int32).toInt = 1 := by decide
      have e0 : (0 : Int32).toInt = 0 := by decide
      omega
    obtain ⟨j, hj, rfl⟩ := nI_of h0
    rw [show (1 : Int32) = nI 1 from rfl, nI_leI (by omega) hj] at h1
    rw [show (16 : Int32) = nI 16 from rfl, nI_leI hj (by omega)] at h2
    exact ⟨j, rfl, rfl, h1, h2⟩
theorem wn_add {N : mN} (hW : WN N) (h : cnt N < 5) {n : Nat} (h1 : 1 ≤ n) (h2 : n ≤ 16) : WN (addN N (nI n)) ∧ cnt (addN N (nI n)) = cnt N + 1 := by
  obtain ⟨hc, hc5⟩ := hW.cn
  have e : (addN N (nI n)).1 3 = nI (cnt N + 1) := by show upd N.1 3 (N.1 3 + 1) 3 = _; rw [upd, if_pos rfl, hc, nI_1]
  have e2 : cnt (addN N (nI n)) = cnt N + 1 := by unfold cnt at e ⊢; rw [e]; exact nI_clamp (by unfold cnt at h; omega)
  refine ⟨⟨⟨cnt N + 1, e, by omega⟩, fun t ht => ?_⟩, e2⟩
  rw [e2] at ht
  show WF (if t = cnt N then newT (nI n) else N.2 t)
  by_cases z : t = cnt N
  · rw [if_pos z]; exact wf_new h1 h2
  · rw [if_neg z]; exact hW.2 t (by omega)
theorem wn_trM {N : mN} (hW : WN N) (n : Nat) : WN (trM N n) := by
  refine ⟨hW.1, fun t ht => ?_⟩
  show WF (if t < n then _ else N.2 t)
  by_cases z : t < n
  · rw [if_pos z]; exact wf_min (hW.2 t ht) _ _
  · rw [if_neg z]; exact hW.2 t ht
theorem wn_itM : ∀ n (N : mN), WN N → WN (itM n N).2 ∧ cnt (itM n N).2 = cnt N ∧ (itM n N).2.1 = N.1 := by
  intro n
  induction n with
  | zero => intro N h; exact ⟨h, rfl, rfl⟩
  | succ n ih =>
    intro N h
    obtain ⟨a, b, c⟩ := ih (trM N (cnt N)) (wn_trM h _)
    exact ⟨a, b.trans rfl, c.trans rfl⟩
theorem WN.add0 {N : mN} (hW : WN N) (s : Int32) : WN (addO N s).2 := by
  unfold addO
  rcases sz_cases s with h | ⟨n, h, rfl, h1, h2⟩
  · rw [h]; exact hW
  · rw [h, if_pos rfl]
    obtain ⟨hc, hc5⟩ := hW.cn
    by_cases h5 : 5 ≤ N.1 3
    · rw [if_pos h5]; exact hW
    · rw [if_neg h5]
      refine (wn_add hW ?_ h1 h2).1
      rw [hc, show (5 : Int32) = nI 5 from rfl, nI_leI (by omega) (by omega)] at h5
      omega
theorem SP.tr {S u : mS} {N : mN} {t : Nat} {T : mT} (h : SP S 1 N) (ht : t < cnt N) (hc : cnt N ≤ 5) (hT : TP u (4 + 3 * t) T) (hF : FR (4 + 3 * t) S u) : SP u 1 (setTr N t T) := by
  refine ⟨?_, fun i hi => ?_⟩
  · rw [hF (1 + 1) (by omega) (by omega) (by omega), hF 1 (by omega) (by omega) (by omega)]; exact h.1
  · show TP u (1 + 3 + 3 * i) (if i = t then T else N.2 i)
    by_cases e : i = t
    · subst e; rw [if_pos rfl]; exact hT
    · rw [if_neg e]; exact (h.2 i hi).off (fun x hx => hF x (by omega) (by omega) (by omega))
theorem fs_fr {S u : mS} {t : Nat} (h : FR (4 + 3 * t) S u) (ht : t < 5) : FS 1 S u := fun c hc => h c (by omega) (by omega) (by omega)
theorem kd4 {t : Nat} (h : t < 5) : kd (4 + 3 * t) = 3 := (by decide +kernel : ∀ t, t < 5 → kd (4 + 3 * t) = 3) t h
theorem rf3 (t : Nat) : rf 3 t = 4 + 3 * t := rfl
