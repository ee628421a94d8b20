/-! bits of an Int32, masks, counting: (the rows up to b_sshr8 are the kit's, pasted) -/
/-! ===== Int32 by its bits: bt x i ===== -/
def bt (x : Int32) (i : Nat) : Bool := x.toBitVec.getLsbD i
theorem b_ext {x y : Int32} (h : ∀ i, i < 32 → bt x i = bt y i) : x = y := Int32.toBitVec_inj.mp (BitVec.eq_of_getLsbD_eq (fun i hi => h i hi))
theorem b_or (x y : Int32) (i : Nat) : bt (x ||| y) i = (bt x i || bt y i) := by unfold bt; rw [Int32.toBitVec_or, BitVec.getLsbD_or]
theorem b_and (x y : Int32) (i : Nat) : bt (x &&& y) i = (bt x i && bt y i) := by unfold bt; rw [Int32.toBitVec_and, BitVec.getLsbD_and]
theorem b_xor (x y : Int32) (i : Nat) : bt (x ^^^ y) i = (bt x i ^^ bt y i) := by unfold bt; rw [Int32.toBitVec_xor, BitVec.getLsbD_xor]
theorem b_big {x : Int32} {i : Nat} (h : 32 ≤ i) : bt x i = false := BitVec.getLsbD_of_ge _ _ h
theorem b_255 (i : Nat) : bt 255 i = decide (i < 8) := by
  rcases Nat.lt_or_ge i 32 with h | h
  · exact (by decide +kernel : ∀ i, i < 32 → bt 255 i = decide (i < 8)) i h
  · rw [b_big h, decide_eq_false (by omega)]
theorem b_65535 (i : Nat) : bt 65535 i = decide (i < 16) := by
  rcases Nat.lt_or_ge i 32 with h | h
  · exact (by decide +kernel : ∀ i, i < 32 → bt 65535 i = decide (i < 16)) i h
  · rw [b_big h, decide_eq_false (by omega)]
theorem b_m1 : ∀ i, i < 32 → bt (-1) i = true := by decide +kernel
theorem b_0 (i : Nat) : bt 0 i = false := BitVec.getLsbD_zero
theorem s_l : ∀ n, n < 32 → ((nI n &&& 31).toBitVec.smod 32).toNat = n := by decide +kernel
theorem s_u : ∀ n, n < 32 → (((nI n).toUInt32 &&& Int32.toUInt32 31).toBitVec % 32).toNat = n := by decide +kernel
theorem b_shl (n : Nat) (hn : n < 32) (x : Int32) {i : Nat} (hi : i < 32) : bt (x <<< (nI n &&& 31)) i = (decide (n ≤ i) && bt x (i - n)) := by
  unfold bt
  rw [Int32.toBitVec_shiftLeft]
  show (x.toBitVec <<< ((nI n &&& 31).toBitVec.smod 32).toNat).getLsbD i = _
  rw [s_l n hn, BitVec.getLsbD_shiftLeft]
  rcases Nat.lt_or_ge i n with h | h
  · simp [h, Nat.not_le.mpr h]
  · simp [hi, h, Nat.not_lt.mpr h]
theorem b_ushr (n : Nat) (hn : n < 32) (x : Int32) (i : Nat) : bt ((x.toUInt32 >>> ((nI n).toUInt32 &&& Int32.toUInt32 31)).toInt32) i = bt x (n + i) := by
  show (x.toUInt32 >>> ((nI n).toUInt32 &&& Int32.toUInt32 31)).toBitVec.getLsbD i = x.toUInt32.toBitVec.getLsbD (n + i)
  rw [UInt32.toBitVec_shiftRight]
  show (x.toUInt32.toBitVec >>> (((nI n).toUInt32 &&& Int32.toUInt32 31).toBitVec % 32).toNat).getLsbD i = _
  rw [s_u n hn, BitVec.getLsbD_ushiftRight]
theorem b_sshr (n : Nat) (hn : n < 32) (x : Int32) {i : Nat} (hi : i < 32) : bt (x >>> (nI n &&& 31)) i = if n + i < 32 then bt x (n + i) else bt x 31 := by
  unfold bt
  rw [Int32.toBitVec_shiftRight]
  show (x.toBitVec.sshiftRight ((nI n &&& 31).toBitVec.smod 32).toNat).getLsbD i = _
  rw [s_l n hn, BitVec.getLsbD_sshiftRight, BitVec.msb_eq_getLsbD_last]
  simp [hi]
theorem b_shl8 (x : Int32) {i : Nat} (hi : i < 32) : bt (x <<< ((8 : Int32) &&& 31)) i = (decide (8 ≤ i) && bt x (i - 8)) := b_shl 8 (by omega) x hi
theorem b_shl16 (x : Int32) {i : Nat} (hi : i < 32) : bt (x <<< ((16 : Int32) &&& 31)) i = (decide (16 ≤ i) && bt x (i - 16)) := b_shl 16 (by omega) x hi
theorem b_shl24 (x : Int32) {i : Nat} (hi : i < 32) : bt (x <<< ((24 : Int32) &&& 31)) i = (decide (24 ≤ i) && bt x (i - 24)) := b_shl 24 (by omega) x hi
theorem b_sshr8 (x : Int32) {i : Nat} (hi : i < 32) : bt (x >>> ((8 : Int32) &&& 31)) i = if 8 + i < 32 then bt x (8 + i) else bt x 31 := b_sshr 8 (by omega) x hi
def bI (b : Bool) : Int32 := if b = true then 1 else 0
theorem bI_t : bI true = 1 := rfl
theorem bI_f : bI false = 0 := rfl
theorem bI_0 (b : Bool) : bI b = 0 ↔ b = false := by cases b <;> decide
theorem bI_1 (b : Bool) : bI b = 1 ↔ b = true := by cases b <;> decide
theorem bI_nar (b : Bool) : narrow .boolean (.int (bI b)) = .int (bI b) := by cases b <;> rfl
theorem bt_lit1 : ∀ i, i < 32 → bt 1 i = decide (i = 0) := by decide +kernel
theorem bt_and1 (x : Int32) {j : Nat} (hj : j < 32) : ((x >>> (nI j &&& 31)) &&& 1) = bI (bt x j) := by
  refine b_ext fun i hi => ?_
  rw [b_and, b_sshr j hj x hi, bt_lit1 i hi]
  by_cases h : i = 0
  · subst h
    simp only [Nat.add_zero, hj, if_true, decide_true, Bool.and_true]
    cases bt x j <;> decide
  · simp only [h, decide_false, Bool.and_false]
    cases bt x j
    · exact (b_0 i).symm
    · rw [bI_t, bt_lit1 i hi]; simp [h]
theorem bt_one : ∀ n, n < 32 → ∀ i, i < 32 → bt ((1 : Int32) <<< (nI n &&& 31)) i = decide (i = n) := by
  intro n hn i hi
  rw [b_shl n hn _ hi, bt_lit1 _ (by omega)]
  by_cases h : i = n
  · subst h; simp
  · by_cases h2 : n ≤ i
    · have : ¬ i - n = 0 := by omega
      simp [h, h2, this]
    · simp [h, h2]
theorem bt_every : ∀ s, s ≤ 16 → ∀ i, i < 32 → bt (((1 : Int32) <<< (nI s &&& 31)) - 1) i = decide (i < s) := by
  intro s hs i hi
  exact (by decide +kernel : ∀ s, s < 17 → ∀ i, i < 32 → bt (((1 : Int32) <<< (nI s &&& 31)) - 1) i = decide (i < s)) s (by omega) i hi
theorem bt_not (x : Int32) {i : Nat} (hi : i < 32) : bt (x ^^^ (-1)) i = !(bt x i) := by rw [b_xor, b_m1 i hi, Bool.xor_true]
/-- the mask of the numbers below n that have it -/
def mkm (p : Nat → Bool) : Nat → Int32
  | 0 => 0
  | n + 1 => mkm p n ||| (if p n = true then (1 : Int32) <<< (nI n &&& 31) else 0)
theorem bt_mkm (p : Nat → Bool) : ∀ n, n ≤ 32 → ∀ i, i < 32 → bt (mkm p n) i = (decide (i < n) && p i) := by
  intro n
  induction n with
  | zero => intro _ i _; rw [mkm, b_0]; simp
  | succ n ih =>
    intro hn i hi
    rw [mkm, b_or, ih (by omega) i hi]
    by_cases hp : p n = true
    · rw [if_pos hp, bt_one n (by omega) i hi]
      by_cases h : i = n
      · subst h; simp [hp]
      · have : (i < n + 1) ↔ i < n := by omega
        simp [h, this]
    · rw [if_neg hp, b_0]
      by_cases h : i = n
      · subst h; simp [Bool.not_eq_true] at hp; simp [hp]
      · have : (i < n + 1) ↔ i < n := by omega
        simp [this]
theorem mkm_congr {p q : Nat → Bool} : ∀ n, (∀ k, k < n → p k = q k) → mkm p n = mkm q n := by
  intro n
  induction n with
  | zero => intro _; rfl
  | succ n ih => intro h; rw [mkm, mkm, ih (fun k hk => h k (by omega)), h n (by omega)]
theorem mkm_eq {p : Nat → Bool} {x : Int32} (h : ∀ i, i < 16 → bt x i = p i) (h2 : ∀ i, 16 ≤ i → i < 32 → bt x i = false) : x = mkm p 16 := by
  refine b_ext fun i hi => ?_
  rw [bt_mkm p 16 (by omega) i hi]
  by_cases h3 : i < 16
  · rw [h i h3]; simp [h3]
  · rw [h2 i (by omega) hi]; simp [h3]
theorem mkm_hi (p : Nat → Bool) : ∀ i, 16 ≤ i → i < 32 → bt (mkm p 16) i = false := fun i h hi => by rw [bt_mkm p 16 (by omega) i hi]; simp; omega
theorem mkm_bt (p : Nat → Bool) : ∀ i, i < 16 → bt (mkm p 16) i = p i := fun i h => by rw [bt_mkm p 16 (by omega) i (by omega)]; simp [h]
theorem mkm_0 (p : Nat → Bool) : mkm p 16 = 0 ↔ ∀ k, k < 16 → p k = false := by
  constructor
  · intro h k hk
    rw [← mkm_bt p k hk, h, b_0]
  · intro h
    refine b_ext fun i hi => ?_
    rw [b_0, bt_mkm p 16 (by omega) i hi]
    by_cases h3 : i < 16
    · simp [h i h3]
    · simp [h3]
theorem nI_lit (n : Nat) : (OfNat.ofNat n : Int32) = nI n := rfl
theorem bt_nI (n i : Nat) (hi : i < 32) : bt (nI n) i = n.testBit i := by
  show (BitVec.ofNat 32 n).getLsbD i = _
  rw [BitVec.getLsbD_ofNat]
  simp [hi]
/-- the sum of the bits below n -/
def szF (m : Int32) : Nat → Int32
  | 0 => 0
  | n + 1 => szF m n + ((m >>> (nI n &&& 31)) &&& 1)
/-- what the JDK's bitCount computes -/
def bcF (x : Int32) : Int32 :=
  let a := x - (((x.toUInt32 >>> ((1 : Int32).toUInt32 &&& Int32.toUInt32 31)).toInt32) &&& 1431655765)
  let b := (a &&& 858993459) + (((a.toUInt32 >>> ((2 : Int32).toUInt32 &&& Int32.toUInt32 31)).toInt32) &&& 858993459)
  let c := (b + ((b.toUInt32 >>> ((4 : Int32).toUInt32 &&& Int32.toUInt32 31)).toInt32)) &&& 252645135
  let e := c + ((c.toUInt32 >>> ((8 : Int32).toUInt32 &&& Int32.toUInt32 31)).toInt32)
  let f := e + ((e.toUInt32 >>> ((16 : Int32).toUInt32 &&& Int32.toUInt32 31)).toInt32)
  f &&& 63
def bcN1 (n : Nat) : Nat := Nat.sub n (Nat.land (Nat.div n 2) 1431655765)
def bcN2 (a : Nat) : Nat := Nat.add (Nat.land a 858993459) (Nat.land (Nat.div a 4) 858993459)
def bcN3 (b : Nat) : Nat := Nat.land (Nat.add b (Nat.div b 16)) 252645135
def bcN4 (c : Nat) : Nat := Nat.add c (Nat.div c 256)
def bcN5 (e : Nat) : Nat := Nat.land (Nat.add e (Nat.div e 65536)) 63
def bcN (n : Nat) : Nat := bcN5 (bcN4 (bcN3 (bcN2 (bcN1 n))))
def szN (n : Nat) : Nat → Nat
  | 0 => 0
  | k + 1 => Nat.add (szN n k) (Nat.mod (Nat.div n (Nat.pow 2 k)) 2)
def bcK (lo : Nat) : Nat → Bool
  | 0 => Nat.beq (bcN lo) (szN lo 16)
  | k + 1 => bcK lo k && bcK (Nat.add lo (Nat.pow 2 k)) k
theorem bcK_spec : ∀ k lo, bcK lo k = true → ∀ n, lo ≤ n → n < lo + 2 ^ k → bcN n = szN n 16 := by
  intro k
  induction k with
  | zero =>
    intro lo h n h1 h2
    have : n = lo := by simp at h2; omega
    subst this
    exact Nat.eq_of_beq_eq_true h
  | succ k ih =>
    intro lo h n h1 h2
    have hh : bcK lo k = true ∧ bcK (lo + 2 ^ k) k = true := by
      have : bcK lo (k + 1) = (bcK lo k && bcK (lo + 2 ^ k) k) := rfl
      rw [this, Bool.and_eq_true] at h
      exact h
    rw [Nat.pow_succ] at h2
    by_cases h3 : n < lo + 2 ^ k
    · exact ih lo hh.1 n h1 h3
    · exact ih _ hh.2 n (by omega) (by omega)
theorem bcK_ok : bcK 0 16 = true := by decide +kernel
theorem bcN_ok {n : Nat} (h : n < 65536) : bcN n = szN n 16 := bcK_spec 16 0 bcK_ok n (Nat.zero_le n) (by simpa using h)
theorem bc_and (a b : Nat) : nI a &&& nI b = nI (Nat.land a b) := by
  apply Int32.toBitVec_inj.mp
  rw [Int32.toBitVec_and]
  show BitVec.ofNat 32 a &&& BitVec.ofNat 32 b = BitVec.ofNat 32 (a &&& b)
  rw [BitVec.ofNat_and]
theorem bcF_N {n : Nat} (h : n < 65536) : bcF (nI n) = nI (bcN n) := by
  have u1 : ∀ k, k < 2 ^ 32 → ((nI k).toUInt32 >>> ((1 : Int32).toUInt32 &&& Int32.toUInt32 31)).toInt32 = nI (Nat.div k 2) := fun k hk => pk_ushrN hk 1 1 (by decide +kernel)
  have u2 : ∀ k, k < 2 ^ 32 → ((nI k).toUInt32 >>> ((2 : Int32).toUInt32 &&& Int32.toUInt32 31)).toInt32 = nI (Nat.div k 4) := fun k hk => pk_ushrN hk 2 2 (by decide +kernel)
  have u4 : ∀ k, k < 2 ^ 32 → ((nI k).toUInt32 >>> ((4 : Int32).toUInt32 &&& Int32.toUInt32 31)).toInt32 = nI (Nat.div k 16) := fun k hk => pk_ushrN hk 4 4 (by decide +kernel)
  have u8 : ∀ k, k < 2 ^ 32 → ((nI k).toUInt32 >>> ((8 : Int32).toUInt32 &&& Int32.toUInt32 31)).toInt32 = nI (Nat.div k 256) := fun k hk => pk_ushrN hk 8 8 (by decide +kernel)
  have u16 : ∀ k, k < 2 ^ 32 → ((nI k).toUInt32 >>> ((16 : Int32).toUInt32 &&& Int32.toUInt32 31)).toInt32 = nI (Nat.div k 65536) := fun k hk => pk_ushrN hk 16 16 (by decide +kernel)
  have le1 : Nat.land (Nat.div n 2) 1431655765 ≤ n := Nat.le_trans (Nat.and_le_left (n := Nat.div n 2) (m := 1431655765)) (Nat.div_le_self n 2)
  have b1 : bcN1 n < 65536 := Nat.lt_of_le_of_lt (Nat.sub_le _ _) h
  have b2 : bcN2 (bcN1 n) < 131072 := by
    have h1 : Nat.land (bcN1 n) 858993459 ≤ bcN1 n := Nat.and_le_left (n := bcN1 n) (m := 858993459)
    have h2 : Nat.land (Nat.div (bcN1 n) 4) 858993459 ≤ bcN1 n := Nat.le_trans (Nat.and_le_left (n := Nat.div (bcN1 n) 4) (m := 858993459)) (Nat.div_le_self _ _)
    show Nat.land (bcN1 n) 858993459 + Nat.land (Nat.div (bcN1 n) 4) 858993459 < 131072
    omega
  have b3 : bcN3 (bcN2 (bcN1 n)) < 2 ^ 31 := Nat.lt_of_le_of_lt (Nat.and_le_right (n := _) (m := 252645135)) (by decide)
  have b4 : bcN4 (bcN3 (bcN2 (bcN1 n))) < 2 ^ 32 := by
    have h1 : bcN3 (bcN2 (bcN1 n)) ≤ 252645135 := Nat.and_le_right (n := _) (m := 252645135)
    have h2 : Nat.div (bcN3 (bcN2 (bcN1 n))) 256 ≤ bcN3 (bcN2 (bcN1 n)) := Nat.div_le_self _ _
    show bcN3 (bcN2 (bcN1 n)) + Nat.div (bcN3 (bcN2 (bcN1 n))) 256 < 2 ^ 32
    omega
  have e1 : nI n - (((nI n).toUInt32 >>> ((1 : Int32).toUInt32 &&& Int32.toUInt32 31)).toInt32 &&& 1431655765) = nI (bcN1 n) := by
    rw [u1 n (by omega), show (1431655765 : Int32) = nI 1431655765 from rfl, bc_and, pk_sub le1]; rfl
  have e2 : ∀ a, a < 65536 → (nI a &&& 858993459) + (((nI a).toUInt32 >>> ((2 : Int32).toUInt32 &&& Int32.toUInt32 31)).toInt32 &&& 858993459) = nI (bcN2 a) := fun a ha => by
    rw [u2 a (by omega), show (858993459 : Int32) = nI 858993459 from rfl, bc_and, bc_and, nI_add]; rfl
  have e3 : ∀ a, a < 131072 → (nI a + ((nI a).toUInt32 >>> ((4 : Int32).toUInt32 &&& Int32.toUInt32 31)).toInt32) &&& 252645135 = nI (bcN3 a) := fun a ha => by
    rw [u4 a (by omega), show (252645135 : Int32) = nI 252645135 from rfl, nI_add, bc_and]; rfl
  have e4 : ∀ a, a < 2 ^ 31 → nI a + ((nI a).toUInt32 >>> ((8 : Int32).toUInt32 &&& Int32.toUInt32 31)).toInt32 = nI (bcN4 a) := fun a ha => by
    rw [u8 a (by omega), nI_add]; rfl
  have e5 : ∀ a, a < 2 ^ 32 → (nI a + ((nI a).toUInt32 >>> ((16 : Int32).toUInt32 &&& Int32.toUInt32 31)).toInt32) &&& 63 = nI (bcN5 a) := fun a ha => by
    rw [u16 a ha, show (63 : Int32) = nI 63 from rfl, nI_add, bc_and]; rfl
  unfold bcF
  simp only [e1, e2 _ b1, e3 _ b2, e4 _ b3, e5 _ b4]
  rfl
theorem szF_N (n : Nat) : ∀ k, k ≤ 16 → szF (nI n) k = nI (szN n k) := by
  intro k
  induction k with
  | zero => intro _; rfl
  | succ k ih =>
    intro h
    rw [szF, ih (by omega), bt_and1 _ (by omega), bt_nI n k (by omega)]
    have e : bI (n.testBit k) = nI (n / 2 ^ k % 2) := by
      have h1 : n.testBit k = decide (n / 2 ^ k % 2 = 1) := Nat.testBit_eq_decide_div_mod_eq
      rw [h1]
      rcases Nat.mod_two_eq_zero_or_one (n / 2 ^ k) with h2 | h2 <;> rw [h2] <;> decide
    rw [e, nI_add]; rfl
theorem bc_ok {m : Int32} (h : ∀ i, 16 ≤ i → i < 32 → bt m i = false) : bcF m = szF m 16 := by
  have hm : m = nI m.toBitVec.toNat := by
    apply Int32.toBitVec_inj.mp
    show m.toBitVec = BitVec.ofNat 32 m.toBitVec.toNat
    simp
  have hlt : m.toBitVec.toNat < 2 ^ 16 := by
    refine Nat.lt_pow_two_of_testBit _ fun i hi => ?_
    by_cases h2 : i < 32
    · exact h i hi h2
    · have : m.toBitVec.getLsbD i = false := BitVec.getLsbD_of_ge _ _ (by omega)
      exact this
  rw [hm, bcF_N (by simpa using hlt), szF_N _ 16 (Nat.le_refl _), bcN_ok (by simpa using hlt)]
