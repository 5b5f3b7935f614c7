/-! places in a range, masks, updates, the common divisor -/
def hasB (p : Int32) (n : Nat) : Bool := decide (0 ≤ p.toInt) && decide (p.toInt < n)
theorem hasB_t {p : Int32} {n : Nat} (hn : n < 1000) (h1 : ¬ p < 0) (h2 : ¬ nI n ≤ p) : bI (hasB p n) = 1 := by
  rw [Int32.lt_iff_toInt_lt, Int32.toInt_zero] at h1
  rw [Int32.le_iff_toInt_le, nI_toInt (by omega)] at h2
  rw [bI_o, hasB, decide_eq_true (by omega), decide_eq_true (by omega)]; rfl
theorem hasB_f1 {p : Int32} {n : Nat} (h1 : p < 0) : bI (hasB p n) = 0 := by
  rw [Int32.lt_iff_toInt_lt, Int32.toInt_zero] at h1
  rw [bI_z, hasB, decide_eq_false (by omega)]; rfl
theorem hasB_f2 {p : Int32} {n : Nat} (hn : n < 1000) (h2 : nI n ≤ p) : bI (hasB p n) = 0 := by
  rw [Int32.le_iff_toInt_le, nI_toInt (by omega)] at h2
  rw [bI_z, hasB, decide_eq_false (p := p.toInt < n) (by omega), Bool.and_false]
theorem hasB_iff {p : Int32} {n : Nat} : hasB p n = true ↔ 0 ≤ p.toInt ∧ p.toInt < n := by
  unfold hasB; rw [Bool.and_eq_true, decide_eq_true_eq, decide_eq_true_eq]
theorem hasB_ex {p : Int32} {n : Nat} (h : hasB p n = true) : ∃ k : Nat, k < n ∧ p = nI k := by
  have h1 := hasB_iff.mp h
  exact ⟨p.toInt.toNat, by omega, by rw [zI_nat, Int.toNat_of_nonneg h1.1, zI_as]⟩
theorem hasB_nI {k n : Nat} (hk : k < n) (hn : n < 1000) : hasB (nI k) n = true := by
  rw [hasB_iff, nI_toInt (by omega)]; omega
def updN (f : Nat → Nat) (k v : Nat) : Nat → Nat := fun j => if j = k then v else f j
theorem upd_nI {f : Nat → Nat} {k v : Nat} : upd (fun i => nI (f i)) k (nI v) = fun i => nI (updN f k v i) := by
  funext j
  by_cases h : j = k
  · subst h; simp [upd, updN]
  · simp [upd, updN, h]
def nsum (f : Nat → Nat) : Nat → Nat
  | 0 => 0
  | k + 1 => nsum f k + f k
/-- masks -/
theorem nI_bv (n : Nat) : (nI n).toBitVec = BitVec.ofNat 32 n := rfl
theorem nI_and (a b : Nat) : nI a &&& nI b = nI (a &&& b) := by
  apply Int32.toBitVec_inj.mp
  rw [Int32.toBitVec_and, nI_bv, nI_bv, nI_bv]
  apply BitVec.eq_of_getLsbD_eq
  intro i hi
  simp [BitVec.getLsbD_and, BitVec.getLsbD_ofNat, Nat.testBit_and, hi]
theorem nI_or (a b : Nat) : nI a ||| nI b = nI (a ||| b) := by
  apply Int32.toBitVec_inj.mp
  rw [Int32.toBitVec_or, nI_bv, nI_bv, nI_bv]
  apply BitVec.eq_of_getLsbD_eq
  intro i hi
  simp [BitVec.getLsbD_or, BitVec.getLsbD_ofNat, Nat.testBit_or, hi]
theorem nI_xor (a b : Nat) : nI a ^^^ nI b = nI (a ^^^ b) := by
  apply Int32.toBitVec_inj.mp
  rw [Int32.toBitVec_xor, nI_bv, nI_bv, nI_bv]
  apply BitVec.eq_of_getLsbD_eq
  intro i hi
  simp [BitVec.getLsbD_xor, BitVec.getLsbD_ofNat, Nat.testBit_xor, hi]
theorem sh_am : ∀ n, n < 32 → ((nI n &&& 31).toBitVec.smod 32).toNat = n := by decide
theorem sh_1 : ∀ n, n < 12 → (1 : Int32) <<< (nI n &&& 31) = nI (2 ^ n) := by decide
theorem sh_bit {M k : Nat} (hM : M < 4096) (hk : k < 32) : ((nI M >>> (nI k &&& 31)) &&& 1) = bI (M.testBit k) := by
  rw [pk_shrN (by omega) _ k (sh_am k hk)]
  have h1 : M / 2 ^ k ≤ M := Nat.div_le_self _ _
  rw [pk_andN (by omega) 1 (by decide), Nat.testBit_eq_decide_div_mod_eq]
  rcases Nat.mod_two_eq_zero_or_one (M / 2 ^ k) with q | q
  · rw [Nat.pow_one, q]; rfl
  · rw [Nat.pow_one, q]; rfl
def mclr (M k : Nat) : Nat := M ^^^ (M &&& 2 ^ k)
def mset (M k : Nat) (b : Bool) : Nat := if b then M ||| 2 ^ k else mclr M k
theorem mclr_bit (M k i : Nat) : (mclr M k).testBit i = (M.testBit i && !decide (k = i)) := by
  unfold mclr
  rw [Nat.testBit_xor, Nat.testBit_and, Nat.testBit_two_pow]
  cases M.testBit i <;> cases decide (k = i) <;> rfl
theorem mset_bit (M k i : Nat) (b : Bool) : (mset M k b).testBit i = if k = i then b else M.testBit i := by
  unfold mset
  cases b
  · rw [if_neg (by simp), mclr_bit]
    by_cases h : k = i <;> simp [h]
  · rw [if_pos rfl, Nat.testBit_or, Nat.testBit_two_pow]
    by_cases h : k = i <;> simp [h]
theorem lt_pow_bits {x n : Nat} (h : ∀ i, n ≤ i → x.testBit i = false) : x < 2 ^ n := Nat.lt_pow_two_of_testBit x h
theorem mset_lt {M k n : Nat} {b : Bool} (hM : M < 2 ^ n) (hk : k < n) : mset M k b < 2 ^ n := by
  apply lt_pow_bits
  intro i hi
  rw [mset_bit, if_neg (by omega)]
  exact Nat.testBit_lt_two_pow (Nat.lt_of_lt_of_le hM (Nat.pow_le_pow_right (by omega) hi))
theorem ms_or {M k : Nat} (hk : k < 12) : nI M ||| ((1 : Int32) <<< (nI k &&& 31)) = nI (mset M k true) := by
  rw [sh_1 k hk, nI_or]; rfl
theorem ms_clr {M k : Nat} (hM : M < 4096) (hk : k < 12) : nI M &&& (((1 : Int32) <<< (nI k &&& 31)) ^^^ (-1)) = nI (mset M k false) := by
  rw [sh_1 k hk, show (-1 : Int32) = nI (2 ^ 32 - 1) from rfl, nI_xor, nI_and]
  congr 1
  show _ = mclr M k
  apply Nat.eq_of_testBit_eq
  intro i
  rw [mclr_bit, Nat.testBit_and, Nat.testBit_xor, Nat.testBit_two_pow, Nat.testBit_two_pow_sub_one]
  by_cases hi : i < 32
  · simp only [hi, decide_true]
    cases M.testBit i <;> cases decide (k = i) <;> rfl
  · rw [Nat.testBit_lt_two_pow (Nat.lt_of_lt_of_le hM (by
      have : 2 ^ 12 ≤ 2 ^ i := Nat.pow_le_pow_right (by omega) (by omega)
      omega))]
    simp
/-- the common divisor -/
def dG (a b : Int64) : Int64 := lN (Nat.gcd a.toInt.natAbs b.toInt.natAbs)
theorem lN_toI {n : Nat} (h : n < 2 ^ 63) : (lN n).toInt = (n : Int) := pk_lT h
theorem abs_lN {a : Int64} (ha : -9223372036854775808 < a.toInt) : (if 0 < a then a else -a) = lN a.toInt.natAbs := by
  have h := i64_rng a
  rw [← Int64.toInt_inj, lN_toI (by omega)]
  by_cases q : 0 < a
  · rw [if_pos q]
    rw [Int64.lt_iff_toInt_lt, Int64.toInt_zero] at q
    omega
  · rw [if_neg q]
    rw [Int64.lt_iff_toInt_lt, Int64.toInt_zero] at q
    rw [← zL_as a, zL_neg, zL_toInt (by omega) (by omega), zL_as]
    omega
theorem pos_lN {b : Int64} (hb : 0 ≤ b.toInt) : b = lN b.toInt.natAbs := by
  have h := i64_rng b
  rw [← Int64.toInt_inj, lN_toI (by omega)]
  omega
theorem dG_pos {a b : Int64} (hb : 0 < b.toInt) : ¬ dG a b = 0 ∧ 1 ≤ dG a b := by
  have h := i64_rng b
  have h1 : 0 < Nat.gcd a.toInt.natAbs b.toInt.natAbs := Nat.gcd_pos_of_pos_right _ (by omega)
  have h2 : Nat.gcd a.toInt.natAbs b.toInt.natAbs ≤ b.toInt.natAbs := Nat.gcd_le_right _ (by omega)
  unfold dG
  rw [← Int64.toInt_inj, Int64.le_iff_toInt_le, lN_toI (by omega), Int64.toInt_zero, show (1 : Int64).toInt = 1 from rfl]
  omega
/-- Euclid's way: the product of the two halves at each step but the first -/
def EI (i x y : Nat) : Prop := x < 2 ^ 63 ∧ y < 2 ^ 63 ∧ (i = 0 ∨ (y < x ∧ x * y * 2 ^ i < 2 ^ 128))
theorem EI_step {i x y : Nat} (h : EI i x y) (hy : y ≠ 0) : EI (i + 1) y (x % y) := by
  obtain ⟨h1, h2, h3⟩ := h
  have hr : x % y < y := Nat.mod_lt _ (by omega)
  refine ⟨h2, by omega, Or.inr ⟨hr, ?_⟩⟩
  rcases h3 with rfl | ⟨h3, h4⟩
  · have a1 : y * (x % y) ≤ 2 ^ 63 * 2 ^ 63 := Nat.mul_le_mul (by omega) (by omega)
    omega
  · have hq : 1 ≤ x / y := Nat.div_pos (by omega) (by omega)
    have e := Nat.div_add_mod x y
    have a0 : y * 1 ≤ y * (x / y) := Nat.mul_le_mul_left _ hq
    have a1 : 2 * (x % y) ≤ x := by omega
    have a2 : y * (x % y) * 2 ≤ x * y := by
      calc y * (x % y) * 2 = y * (2 * (x % y)) := by rw [Nat.mul_assoc, Nat.mul_comm (x % y) 2]
        _ ≤ y * x := Nat.mul_le_mul_left _ a1
        _ = x * y := Nat.mul_comm _ _
    calc y * (x % y) * 2 ^ (i + 1) = y * (x % y) * 2 * 2 ^ i := by rw [Nat.pow_succ, Nat.mul_comm (2 ^ i) 2, Nat.mul_assoc, Nat.mul_assoc, Nat.mul_assoc]
      _ ≤ x * y * 2 ^ i := Nat.mul_le_mul_right _ a2
      _ < 2 ^ 128 := h4
theorem EI_end {i x y : Nat} (h : EI i x y) (hi : 200 ≤ i) : y = 0 := by
  obtain ⟨h1, h2, h3⟩ := h
  rcases h3 with rfl | ⟨h3, h4⟩
  · omega
  · rcases Nat.eq_zero_or_pos y with q | q
    · exact q
    · exfalso
      have a1 : 1 * 1 ≤ x * y := Nat.mul_le_mul (by omega) q
      have a2 : 2 ^ 200 ≤ 2 ^ i := Nat.pow_le_pow_right (by omega) hi
      have a3 : 1 * 2 ^ 200 ≤ x * y * 2 ^ i := Nat.mul_le_mul a1 a2
      have : (2 : Nat) ^ 128 < 2 ^ 200 := by decide
      omega
