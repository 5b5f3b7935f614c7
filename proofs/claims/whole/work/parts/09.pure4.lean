/-! compare, bits -/
def popc (M : Nat) : Nat := nsum (fun k => if M.testBit k then 1 else 0) 12
def cmpL (x y : Int64) : Int32 := if x < y then -1 else if x = y then 0 else 1
def cmpF (a b c d : Nat) : Int32 := if a * d < c * b then -1 else if a * d = c * b then 0 else 1
theorem cmpL_lN {a b : Nat} (ha : a < 2 ^ 63) (hb : b < 2 ^ 63) : cmpL (lN a) (lN b) = if a < b then -1 else if a = b then 0 else 1 := by
  unfold cmpL
  simp only [pk_lLT ha hb, pk_lEQ ha hb]
theorem frac_lt {a b q : Nat} (hb : 0 < b) (h : a / b < q) : a < q * b := (Nat.div_lt_iff_lt_mul hb).mp h
theorem cmpF_lt {a b c d : Nat} (hb : 0 < b) (hd : 0 < d) (h : a / b < c / d) : cmpF a b c d = -1 := by
  unfold cmpF
  have h1 : a < (c / d) * b := frac_lt hb h
  have h2 : (c / d) * d ≤ c := Nat.div_mul_le_self c d
  have h3 : a * d < c * b := by
    calc a * d < (c / d) * b * d := Nat.mul_lt_mul_of_pos_right h1 hd
      _ = (c / d) * d * b := by rw [Nat.mul_right_comm]
      _ ≤ c * b := Nat.mul_le_mul_right _ h2
  rw [if_pos h3]
theorem cmpF_gt {a b c d : Nat} (hb : 0 < b) (hd : 0 < d) (h : c / d < a / b) : cmpF a b c d = 1 := by
  unfold cmpF
  have h1 : c < (a / b) * d := frac_lt hd h
  have h2 : (a / b) * b ≤ a := Nat.div_mul_le_self a b
  have h3 : c * b < a * d := by
    calc c * b < (a / b) * d * b := Nat.mul_lt_mul_of_pos_right h1 hb
      _ = (a / b) * b * d := by rw [Nat.mul_right_comm]
      _ ≤ a * d := Nat.mul_le_mul_right _ h2
  rw [if_neg (by omega), if_neg (by omega)]
theorem frac_split {a b c d : Nat} (h : a / b = c / d) : a * d = (a / b) * (b * d) + (a % b) * d ∧ c * b = (a / b) * (b * d) + (c % d) * b := by
  have e1 := Nat.div_add_mod a b
  have e2 := Nat.div_add_mod c d
  constructor
  · calc a * d = (b * (a / b) + a % b) * d := by rw [e1]
      _ = (a / b) * (b * d) + (a % b) * d := by rw [Nat.add_mul, Nat.mul_comm b (a / b), Nat.mul_assoc]
  · calc c * b = (d * (c / d) + c % d) * b := by rw [e2]
      _ = (a / b) * (b * d) + (c % d) * b := by rw [Nat.add_mul, ← h, Nat.mul_comm d (a / b), Nat.mul_assoc, Nat.mul_comm d b]
theorem cmpF_rest {a b c d : Nat} (h : a / b = c / d) : cmpF a b c d = cmpF (a % b) b (c % d) d := by
  obtain ⟨e1, e2⟩ := frac_split h
  unfold cmpF
  rw [e1, e2]
  by_cases q : (a % b) * d < (c % d) * b
  · rw [if_pos (by omega), if_pos q]
  · rw [if_neg (by omega), if_neg q]
    by_cases q2 : (a % b) * d = (c % d) * b
    · rw [if_pos (by omega), if_pos q2]
    · rw [if_neg (by omega), if_neg q2]
theorem cmpF_turn {r b u d : Nat} : cmpF r b u d = cmpF d u b r := by
  unfold cmpF
  rw [Nat.mul_comm d r, Nat.mul_comm b u]
theorem cmpF_z {r b u d : Nat} (hb : 0 < b) (hd : 0 < d) (h : r = 0 ∨ u = 0) : cmpF r b u d = if r < u then -1 else if r = u then 0 else 1 := by
  unfold cmpF
  rcases h with h | h
  · subst h
    rw [Nat.zero_mul]
    rcases Nat.eq_zero_or_pos u with q | q
    · subst q; simp
    · have : 0 < u * b := Nat.mul_pos q hb
      rw [if_pos this, if_pos q]
  · subst h
    rw [Nat.zero_mul]
    rcases Nat.eq_zero_or_pos r with q | q
    · subst q; simp
    · have : 0 < r * d := Nat.mul_pos q hd
      rw [if_neg (by omega), if_neg (by omega), if_neg (by omega), if_neg (by omega)]
theorem cmpF_neg {a b c d : Nat} : cmpF a b c d < 0 ↔ a * d < c * b := by
  unfold cmpF
  by_cases h : a * d < c * b
  · rw [if_pos h]; exact ⟨fun _ => h, fun _ => by decide⟩
  · rw [if_neg h]
    by_cases h2 : a * d = c * b
    · rw [if_pos h2]; exact ⟨fun z => absurd z (by decide), fun z => absurd z h⟩
    · rw [if_neg h2]; exact ⟨fun z => absurd z (by decide), fun z => absurd z h⟩
def us32 (x : Int32) (k : Int32) : Int32 := (x.toUInt32 >>> (k.toUInt32 &&& Int32.toUInt32 31)).toInt32
def bc1 (x : Int32) : Int32 := x - (us32 x 1 &&& 1431655765)
def bc2 (x : Int32) : Int32 := (x &&& 858993459) + (us32 x 2 &&& 858993459)
def bc3 (x : Int32) : Int32 := (x + us32 x 4) &&& 252645135
def bc4 (x : Int32) : Int32 := x + us32 x 8
def bc5 (x : Int32) : Int32 := x + us32 x 16
def bcI (x : Int32) : Int32 := bc5 (bc4 (bc3 (bc2 (bc1 x)))) &&& 63
set_option maxRecDepth 100000 in
theorem bc_all : (List.range 4096).all (fun M => decide (bcI (nI M) = nI (popc M))) = true := by decide +kernel
theorem bc_ok {M : Nat} (h : M < 4096) : bcI (nI M) = nI (popc M) := by
  have := List.all_eq_true.mp bc_all M (List.mem_range.mpr h)
  simpa using this
theorem cq_eq {p q : Nat} (h : (if p < q then (-1 : Int32) else if p = q then 0 else 1) = 0) : p = q := by
  by_cases h1 : p < q
  · rw [if_pos h1] at h; exact absurd h (by decide)
  · rw [if_neg h1] at h
    by_cases h2 : p = q
    · exact h2
    · rw [if_neg h2] at h; exact absurd h (by decide)
theorem cq_ne {a b c d : Nat} (hb : 0 < b) (hd : 0 < d) (h : ¬ a / b = c / d) : cmpF a b c d = (if a / b < c / d then (-1 : Int32) else if a / b = c / d then 0 else 1) := by
  by_cases h1 : a / b < c / d
  · rw [if_pos h1, cmpF_lt hb hd h1]
  · rw [if_neg h1, if_neg h, cmpF_gt hb hd (by omega)]
