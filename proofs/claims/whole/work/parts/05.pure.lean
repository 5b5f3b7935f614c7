/-! numbers: Int32 and Int64 as Int; the ground's words -/
abbrev TY (cI cJ cZ : ClassId) : List (ClassId × FieldType) := [(cI, .int), (cJ, .long), (cZ, .boolean)]
def zI (z : Int) : Int32 := Int32.ofInt z
def zL (z : Int) : Int64 := Int64.ofInt z
def bI (b : Bool) : Int32 := match b with
  | true => 1
  | false => 0
theorem bI_z {b : Bool} : bI b = 0 ↔ b = false := by cases b <;> decide
theorem bI_nz {b : Bool} : ¬ bI b = 0 ↔ b = true := by cases b <;> decide
theorem bI_o {b : Bool} : bI b = 1 ↔ b = true := by cases b <;> decide
theorem bI_no {b : Bool} : ¬ bI b = 1 ↔ b = false := by cases b <;> decide
theorem bI_nar (b : Bool) : narrow .boolean (.int (bI b)) = .int (bI b) := by cases b <;> rfl
theorem zI_bmod {z : Int} (h1 : -2147483648 ≤ z) (h2 : z < 2147483648) : z.bmod (2 ^ 32) = z := by rw [Int.bmod_eq_of_le (by omega) (by omega)]
theorem zI_toInt {z : Int} (h1 : -2147483648 ≤ z) (h2 : z < 2147483648) : (zI z).toInt = z := by
  unfold zI
  rw [Int32.toInt_ofInt]
  exact zI_bmod h1 h2
theorem zI_as (x : Int32) : zI x.toInt = x := by unfold zI; exact Int32.ofInt_toInt x
theorem zI_add (a b : Int) : zI a + zI b = zI (a + b) := (Int32.ofInt_add a b).symm
theorem zI_sub (a b : Int) : zI a - zI b = zI (a - b) := (Int32.ofInt_sub a b).symm
theorem zI_mul (a b : Int) : zI a * zI b = zI (a * b) := (Int32.ofInt_mul a b).symm
theorem zI_neg (a : Int) : -zI a = zI (-a) := (Int32.ofInt_neg a).symm
theorem zI_nat (n : Nat) : nI n = zI n := by unfold nI zI; exact (Int32.ofInt_eq_ofNat).symm
theorem i32_rng (x : Int32) : -2147483648 ≤ x.toInt ∧ x.toInt < 2147483648 := ⟨Int32.le_toInt x, Int32.toInt_lt x⟩
theorem i64_rng (x : Int64) : -9223372036854775808 ≤ x.toInt ∧ x.toInt < 9223372036854775808 := ⟨Int64.le_toInt x, Int64.toInt_lt x⟩
theorem zI_lt {a b : Int} (h1 : -2147483648 ≤ a) (h2 : a < 2147483648) (h3 : -2147483648 ≤ b) (h4 : b < 2147483648) : zI a < zI b ↔ a < b := by rw [Int32.lt_iff_toInt_lt, zI_toInt h1 h2, zI_toInt h3 h4]
theorem zI_le {a b : Int} (h1 : -2147483648 ≤ a) (h2 : a < 2147483648) (h3 : -2147483648 ≤ b) (h4 : b < 2147483648) : zI a ≤ zI b ↔ a ≤ b := by rw [Int32.le_iff_toInt_le, zI_toInt h1 h2, zI_toInt h3 h4]
theorem zI_eq {a b : Int} (h1 : -2147483648 ≤ a) (h2 : a < 2147483648) (h3 : -2147483648 ≤ b) (h4 : b < 2147483648) : zI a = zI b ↔ a = b := by rw [← Int32.toInt_inj, zI_toInt h1 h2, zI_toInt h3 h4]
theorem zL_toInt {z : Int} (h1 : -9223372036854775808 ≤ z) (h2 : z < 9223372036854775808) : (zL z).toInt = z := by
  unfold zL
  rw [Int64.toInt_ofInt]
  show z.bmod (2 ^ 64) = z
  rw [Int.bmod_eq_of_le (by omega) (by omega)]
theorem zL_as (x : Int64) : zL x.toInt = x := by unfold zL; exact Int64.ofInt_toInt x
theorem zL_add (a b : Int) : zL a + zL b = zL (a + b) := (Int64.ofInt_add a b).symm
theorem zL_sub (a b : Int) : zL a - zL b = zL (a - b) := (Int64.ofInt_sub a b).symm
theorem zL_mul (a b : Int) : zL a * zL b = zL (a * b) := (Int64.ofInt_mul a b).symm
theorem zL_neg (a : Int) : -zL a = zL (-a) := (Int64.ofInt_neg a).symm
theorem zL_lt {a b : Int} (h1 : -9223372036854775808 ≤ a) (h2 : a < 9223372036854775808) (h3 : -9223372036854775808 ≤ b) (h4 : b < 9223372036854775808) : zL a < zL b ↔ a < b := by rw [Int64.lt_iff_toInt_lt, zL_toInt h1 h2, zL_toInt h3 h4]
theorem zL_le {a b : Int} (h1 : -9223372036854775808 ≤ a) (h2 : a < 9223372036854775808) (h3 : -9223372036854775808 ≤ b) (h4 : b < 9223372036854775808) : zL a ≤ zL b ↔ a ≤ b := by rw [Int64.le_iff_toInt_le, zL_toInt h1 h2, zL_toInt h3 h4]
theorem zL_eq {a b : Int} (h1 : -9223372036854775808 ≤ a) (h2 : a < 9223372036854775808) (h3 : -9223372036854775808 ≤ b) (h4 : b < 9223372036854775808) : zL a = zL b ↔ a = b := by rw [← Int64.toInt_inj, zL_toInt h1 h2, zL_toInt h3 h4]
theorem i2l_as (x : Int32) : x.toInt64 = zL x.toInt := by
  rw [← Int64.toInt_inj, Int32.toInt_toInt64, zL_toInt (by have := i32_rng x; omega) (by have := i32_rng x; omega)]
theorem zI_i2l {z : Int} (h1 : -2147483648 ≤ z) (h2 : z < 2147483648) : (zI z).toInt64 = zL z := by rw [i2l_as, zI_toInt h1 h2]
def inR (v a b : Int32) : Bool := decide (a ≤ v) && decide (v ≤ b)
theorem inR_t {v a b : Int32} (h1 : ¬ v < a) (h2 : ¬ b < v) : bI (inR v a b) = 1 := by
  rw [bI_o, inR, decide_eq_true (i32_nlt.mp h1), decide_eq_true (i32_nlt.mp h2)]; rfl
theorem inR_f1 {v a b : Int32} (h1 : v < a) : bI (inR v a b) = 0 := by
  rw [bI_z, inR, decide_eq_false (fun h => i32_nlt.mpr h h1)]; rfl
theorem inR_f2 {v a b : Int32} (h1 : b < v) : bI (inR v a b) = 0 := by
  rw [bI_z, inR, decide_eq_false (p := v ≤ b) (fun h => i32_nlt.mpr h h1), Bool.and_false]
theorem inR_iff {v a b : Int32} : inR v a b = true ↔ a.toInt ≤ v.toInt ∧ v.toInt ≤ b.toInt := by
  unfold inR
  rw [Bool.and_eq_true, decide_eq_true_eq, decide_eq_true_eq, Int32.le_iff_toInt_le, Int32.le_iff_toInt_le]
theorem inR_no {v a b : Int32} : inR v a b = false ↔ ¬ (a.toInt ≤ v.toInt ∧ v.toInt ≤ b.toInt) := by rw [← inR_iff, Bool.not_eq_true]
/-- the ground: bottoms of the layers, the layer of a unit, the side of a unit, pull, tip -/
def gB (th : Nat → Int32) : Nat → Int
  | 0 => 0
  | k + 1 => gB th k + (th k).toInt
def gLf (th : Nat → Int32) (u : Int) : Nat → Nat → Nat
  | 0, k => k
  | d + 1, k => if u < gB th (k + 1) then k else gLf th u d (k + 1)
def gL (th : Nat → Int32) (n : Nat) (u : Int) : Nat := min (gLf th u n 0) (n - 1)
def gLI (th : Nat → Int32) (n : Nat) (u : Int) : Int := if n = 0 then -1 else gL th n u
def gSD (th sd : Nat → Int32) (n : Nat) (sc : Int32) (u : Nat) : Int := if n = 0 ∨ (u : Int) < sc.toInt then 0 else (sd (gL th n u)).toInt
def gTI (th tp : Nat → Int32) (n : Nat) (u : Nat) : Int := if n = 0 then 0 else (tp (gL th n u)).toInt
def gPU (th sd : Nat → Int32) (n : Nat) (sc : Int32) : Nat → Int
  | 0 => 0
  | k + 1 => gPU th sd n sc k + gSD th sd n sc k
def gBE (th sd tp : Nat → Int32) (n : Nat) (sc : Int32) (u : Nat) : Int := gPU th sd n sc u + gTI th tp n u
def GOK (th sd tp : Nat → Int32) (n : Nat) (sc : Int32) : Prop := n ≤ 6 ∧ (∀ i, i < n → 1 ≤ (th i).toInt ∧ (th i).toInt ≤ 50) ∧ (∀ i, i < n → 0 ≤ (sd i).toInt ∧ (sd i).toInt ≤ 50) ∧ (∀ i, i < n → 0 ≤ (tp i).toInt ∧ (tp i).toInt ≤ 1000) ∧ 0 ≤ sc.toInt ∧ sc.toInt ≤ 20
theorem gB_rng {th : Nat → Int32} {n : Nat} (h : ∀ i, i < n → 1 ≤ (th i).toInt ∧ (th i).toInt ≤ 50) : ∀ k, k ≤ n → (k : Int) ≤ gB th k ∧ gB th k ≤ 50 * k
  | 0, _ => by simp [gB]
  | k + 1, hk => by
    have h1 := gB_rng h k (by omega)
    have h2 := h k (by omega)
    simp only [gB]
    omega
theorem gB_step {th : Nat → Int32} {k : Nat} : zI (gB th k) + th k = zI (gB th (k + 1)) := by
  rw [← zI_as (th k), zI_add]
  simp only [gB, zI_as]
theorem gLf_rng {th : Nat → Int32} {u : Int} : ∀ d k, k ≤ gLf th u d k ∧ gLf th u d k ≤ k + d
  | 0, k => by simp [gLf]
  | d + 1, k => by
    have h := gLf_rng (th := th) (u := u) d (k + 1)
    simp only [gLf]
    split <;> omega
theorem gL_lt {th : Nat → Int32} {n : Nat} {u : Int} (h : 0 < n) : gL th n u < n := by unfold gL; omega
theorem gL_at {th : Nat → Int32} {n k : Nat} {u : Int} (hk : k < n) (h : gLf th u n 0 = k) : zI (gLI th n u) = nI k := by
  unfold gLI gL
  rw [if_neg (by omega), h, zI_nat, Nat.min_eq_left (by omega)]
theorem gL_out {th : Nat → Int32} {n : Nat} {u : Int} (h : gLf th u n 0 = n) : nI n - 1 = zI (gLI th n u) := by
  unfold gLI gL
  rw [h, zI_nat, show (1 : Int32) = zI 1 from rfl, zI_sub]
  by_cases hn : n = 0
  · subst hn; rfl
  · rw [if_neg hn]
    congr 1
    omega
theorem gSD_rng {th sd tp : Nat → Int32} {n : Nat} {sc : Int32} (G : GOK th sd tp n sc) (u : Nat) : 0 ≤ gSD th sd n sc u ∧ gSD th sd n sc u ≤ 50 := by
  unfold gSD
  split
  · omega
  · rename_i h
    exact G.2.2.1 _ (gL_lt (by omega))
theorem gTI_rng {th sd tp : Nat → Int32} {n : Nat} {sc : Int32} (G : GOK th sd tp n sc) (u : Nat) : 0 ≤ gTI th tp n u ∧ gTI th tp n u ≤ 1000 := by
  unfold gTI
  split
  · omega
  · rename_i h
    exact G.2.2.2.1 _ (gL_lt (by omega))
theorem gPU_rng {th sd tp : Nat → Int32} {n : Nat} {sc : Int32} (G : GOK th sd tp n sc) : ∀ u, 0 ≤ gPU th sd n sc u ∧ gPU th sd n sc u ≤ 50 * u
  | 0 => by simp [gPU]
  | u + 1 => by
    have h1 := gPU_rng G u
    have h2 := gSD_rng G u
    simp only [gPU]
    omega
theorem gLI_neg {th : Nat → Int32} {n : Nat} {u : Int} (hn : n ≤ 6) : zI (gLI th n u) < 0 ↔ n = 0 := by
  unfold gLI
  by_cases h : n = 0
  · rw [if_pos h]
    exact ⟨fun _ => h, fun _ => by decide⟩
  · have h1 : gL th n u < n := gL_lt (by omega)
    rw [if_neg h, show (0 : Int32) = zI 0 from rfl, zI_lt (by omega) (by omega) (by omega) (by omega)]
    exact ⟨fun z => by omega, fun z => absurd z h⟩
theorem gLI_pos {th : Nat → Int32} {n : Nat} {u : Int} (h : n ≠ 0) : zI (gLI th n u) = nI (gL th n u) := by
  unfold gLI
  rw [if_neg h, zI_nat]
theorem gSD_0 {th sd : Nat → Int32} {n u : Nat} {sc : Int32} (h : n = 0) : (0 : Int32) = zI (gSD th sd n sc u) := by
  unfold gSD; rw [if_pos (Or.inl h)]; rfl
theorem gSD_s {th sd : Nat → Int32} {n u : Nat} {sc : Int32} (hu : u ≤ 1000) (h : ¬ sc ≤ nI u) : (0 : Int32) = zI (gSD th sd n sc u) := by
  unfold gSD
  rw [Int32.le_iff_toInt_le, nI_toInt (by omega)] at h
  rw [if_pos (Or.inr (by omega))]; rfl
theorem gSD_n {th sd : Nat → Int32} {n u : Nat} {sc : Int32} (hu : u ≤ 1000) (hn : n ≠ 0) (h : sc ≤ nI u) : sd (gL th n u) = zI (gSD th sd n sc u) := by
  unfold gSD
  rw [Int32.le_iff_toInt_le, nI_toInt (by omega)] at h
  rw [if_neg (by omega), zI_as]
theorem gTI_0 {th tp : Nat → Int32} {n u : Nat} (h : n = 0) : (0 : Int32) = zI (gTI th tp n u) := by
  unfold gTI; rw [if_pos h]; rfl
theorem gTI_n {th tp : Nat → Int32} {n u : Nat} (hn : n ≠ 0) : tp (gL th n u) = zI (gTI th tp n u) := by
  unfold gTI; rw [if_neg hn, zI_as]
/-- pull by layers -/
def cZ_ (th : Nat → Int32) (n : Nat) (sc : Int32) (len : Int) (i : Nat) : Int :=
  max 0 ((if i + 1 = n then len else min len (gB th (i + 1))) - max (gB th i) sc.toInt)
def cPU (th sd : Nat → Int32) (n : Nat) (sc : Int32) (len : Int) : Nat → Int
  | 0 => 0
  | k + 1 => cPU th sd n sc len k + cZ_ th n sc len k * (sd k).toInt
theorem gLf_is {th : Nat → Int32} {n : Nat} {u : Int} (h : ∀ i, i < n → 1 ≤ (th i).toInt ∧ (th i).toInt ≤ 50) : ∀ d k, k + d = n → (∀ j, j < k → gB th (j + 1) ≤ u) → ∀ i, i < n → (gLf th u d k = i ↔ (gB th i ≤ u ∧ u < gB th (i + 1)) ∨ (i < k ∧ False) ∨ (i = k ∧ u < gB th (i + 1) ∧ k = 0)) := by
  intro d
  induction d with
  | zero =>
    intro k hk hj i hi
    simp only [gLf]
    have := hj i (by omega)
    refine ⟨fun e => by omega, fun e => ?_⟩
    rcases e with e | ⟨_, e⟩ | ⟨e, _⟩
    · omega
    · exact e.elim
    · omega
  | succ d ih =>
    intro k hk hj i hi
    simp only [gLf]
    have hmono : ∀ j, j < k → gB th (j + 1) ≤ u := hj
    by_cases hu : u < gB th (k + 1)
    · rw [if_pos hu]
      by_cases hik : i = k
      · subst hik
        refine ⟨fun _ => ?_, fun _ => rfl⟩
        by_cases h0 : i = 0
        · exact Or.inr (Or.inr ⟨rfl, hu, h0⟩)
        · have := hj (i - 1) (by omega)
          rw [show i - 1 + 1 = i by omega] at this
          exact Or.inl ⟨this, hu⟩
      · refine ⟨fun e => absurd e.symm hik, fun e => ?_⟩
        rcases e with ⟨e1, e2⟩ | ⟨_, e⟩ | ⟨e, _⟩
        · rcases Nat.lt_or_gt_of_ne hik with q | q
          · have := hj i q
            omega
          · have hm : ∀ j, k + 1 + j ≤ n → gB th (k + 1) ≤ gB th (k + 1 + j) := by
              intro j
              induction j with
              | zero => intro _; exact Int.le_refl _
              | succ j ihj =>
                intro hjn
                have a1 := ihj (by omega)
                have a2 := h (k + 1 + j) (by omega)
                rw [show k + 1 + (j + 1) = (k + 1 + j) + 1 by omega]
                simp only [gB] at *
                omega
            have := hm (i - (k + 1)) (by omega)
            rw [show k + 1 + (i - (k + 1)) = i by omega] at this
            omega
        · exact e.elim
        · exact absurd e hik
    · rw [if_neg hu]
      have := ih (k + 1) (by omega) (fun j hj2 => by
        rcases Nat.lt_or_ge j k with q | q
        · exact hj j q
        · rw [show j = k by omega]; omega) i hi
      rw [this]
      refine ⟨fun e => ?_, fun e => ?_⟩
      · rcases e with e | ⟨_, e⟩ | ⟨_, _, e⟩
        · exact Or.inl e
        · exact e.elim
        · omega
      · rcases e with e | ⟨_, e⟩ | ⟨e1, e2, e3⟩
        · exact Or.inl e
        · exact e.elim
        · subst e1
          exact absurd e2 hu
theorem gB_nn {th : Nat → Int32} {n : Nat} (h : ∀ i, i < n → 1 ≤ (th i).toInt ∧ (th i).toInt ≤ 50) {k : Nat} (hk : k ≤ n) : 0 ≤ gB th k := by
  have := (gB_rng h k hk).1
  omega
/-- the layer of a unit is the one in which it lies, the last one without end -/
theorem gL_is {th : Nat → Int32} {n : Nat} {u : Int} (h : ∀ i, i < n → 1 ≤ (th i).toInt ∧ (th i).toInt ≤ 50) (hu : 0 ≤ u) {i : Nat} (hi : i < n) : gL th n u = i ↔ gB th i ≤ u ∧ (i + 1 = n ∨ u < gB th (i + 1)) := by
  have hr := gLf_rng (th := th) (u := u) n 0
  have hall := gLf_is (u := u) h n 0 (by omega) (fun j hj => absurd hj (Nat.not_lt_zero _))
  have hnone : gLf th u n 0 = n → gB th n ≤ u := by
    intro e
    rcases Nat.eq_zero_or_pos n with q | q
    · omega
    · refine Int.not_lt.mp fun hlt => ?_
      have hx : ∀ m, m ≤ n → u < gB th m → ∃ j, j < m ∧ gB th j ≤ u ∧ u < gB th (j + 1) := by
        intro m
        induction m with
        | zero => intro _ hm; simp [gB] at hm; omega
        | succ m ihm =>
          intro hm1 hm2
          by_cases hc : u < gB th m
          · obtain ⟨j, h1, h2⟩ := ihm (by omega) hc
            exact ⟨j, by omega, h2⟩
          · exact ⟨m, by omega, by omega, hm2⟩
      obtain ⟨j, h1, h2⟩ := hx n (by omega) hlt
      have := (hall j h1).mpr (Or.inl h2)
      omega
  have hsome : ∀ j, gLf th u n 0 = j → j < n → gB th j ≤ u ∧ u < gB th (j + 1) := by
    intro j e hj
    rcases (hall j hj).mp e with q | ⟨_, q⟩ | ⟨q1, q2, _⟩
    · exact q
    · exact q.elim
    · subst q1
      exact ⟨by simp [gB]; exact hu, q2⟩
  unfold gL
  constructor
  · intro e
    by_cases hn : gLf th u n 0 = n
    · have h1 := hnone hn
      have h2 := h i hi
      have : i + 1 = n := by omega
      subst this
      simp only [gB] at h1
      exact ⟨by omega, Or.inl rfl⟩
    · have h1 := hsome i (by omega) hi
      exact ⟨h1.1, Or.inr h1.2⟩
  · intro ⟨e1, e2⟩
    by_cases hn : gLf th u n 0 = n
    · have h1 := hnone hn
      rcases e2 with e2 | e2
      · omega
      · exfalso
        have hm : ∀ j, i + 1 + j ≤ n → gB th (i + 1) ≤ gB th (i + 1 + j) := by
          intro j
          induction j with
          | zero => intro _; exact Int.le_refl _
          | succ j ihj =>
            intro hjn
            have a1 := ihj (by omega)
            have a2 := h (i + 1 + j) (by omega)
            rw [show i + 1 + (j + 1) = (i + 1 + j) + 1 by omega]
            simp only [gB] at *
            omega
        have := hm (n - (i + 1)) (by omega)
        rw [show i + 1 + (n - (i + 1)) = n by omega] at this
        omega
    · have h0 := hsome (gLf th u n 0) rfl (by omega)
      rcases e2 with e2 | e2
      · by_cases hq : gLf th u n 0 = i
        · omega
        · exfalso
          have hlt : gLf th u n 0 < i := by omega
          have hm : ∀ j, gLf th u n 0 + 1 + j ≤ n → gB th (gLf th u n 0 + 1) ≤ gB th (gLf th u n 0 + 1 + j) := by
            intro j
            induction j with
            | zero => intro _; exact Int.le_refl _
            | succ j ihj =>
              intro hjn
              have a1 := ihj (by omega)
              have a2 := h (gLf th u n 0 + 1 + j) (by omega)
              rw [show gLf th u n 0 + 1 + (j + 1) = (gLf th u n 0 + 1 + j) + 1 by omega]
              simp only [gB] at *
              omega
          have := hm (i - (gLf th u n 0 + 1)) (by omega)
          rw [show gLf th u n 0 + 1 + (i - (gLf th u n 0 + 1)) = i by omega] at this
          omega
      · have := (hall i hi).mpr (Or.inl ⟨e1, e2⟩)
        omega
theorem cZ_step {th : Nat → Int32} {n : Nat} {sc : Int32} {i u : Nat} (h : ∀ i, i < n → 1 ≤ (th i).toInt ∧ (th i).toInt ≤ 50) (hs : 0 ≤ sc.toInt) (hi : i < n) : cZ_ th n sc ((u + 1 : Nat) : Int) i = cZ_ th n sc (u : Int) i + (if gL th n u = i ∧ ¬ (u : Int) < sc.toInt then 1 else 0) := by
  have h1 := gB_nn h (k := i) (by omega)
  have h2 := h i hi
  have h3 : gB th (i + 1) = gB th i + (th i).toInt := rfl
  have h4 := gL_is (u := (u : Int)) h (by omega) hi
  unfold cZ_
  by_cases hc : gL th n u = i ∧ ¬ (u : Int) < sc.toInt
  · rw [if_pos hc]
    have h5 := h4.mp hc.1
    split <;> omega
  · rw [if_neg hc]
    have h5 : ¬ (gB th i ≤ u ∧ (i + 1 = n ∨ u < gB th (i + 1)) ∧ sc.toInt ≤ u) := fun z => hc ⟨h4.mpr ⟨z.1, z.2.1⟩, by omega⟩
    split <;> omega
theorem cPU_step {th sd : Nat → Int32} {n : Nat} {sc : Int32} {u : Nat} (h : ∀ i, i < n → 1 ≤ (th i).toInt ∧ (th i).toInt ≤ 50) (hs : 0 ≤ sc.toInt) : ∀ k, k ≤ n → cPU th sd n sc ((u + 1 : Nat) : Int) k = cPU th sd n sc (u : Int) k + (if gL th n u < k ∧ ¬ (u : Int) < sc.toInt then (sd (gL th n u)).toInt else 0)
  | 0, _ => by simp [cPU]
  | k + 1, hk => by
    have ih := cPU_step (sd := sd) (u := u) h hs k (by omega)
    have h1 := cZ_step (u := u) (sc := sc) h hs (i := k) (by omega)
    simp only [cPU]
    rw [ih, h1]
    by_cases hc : gL th n u = k
    · by_cases hs2 : (u : Int) < sc.toInt
      · rw [if_neg (by omega), if_neg (by omega), if_neg (by omega)]
        simp
      · rw [if_neg (by omega), if_pos ⟨hc, hs2⟩, if_pos ⟨by omega, hs2⟩, hc, Int.add_mul]
        omega
    · rw [if_neg (c := gL th n u = k ∧ _) (fun z => hc z.1)]
      by_cases hlt : gL th n u < k ∧ ¬ (u : Int) < sc.toInt
      · rw [if_pos hlt, if_pos ⟨by omega, hlt.2⟩]
        simp [Int.add_right_comm]
      · rw [if_neg hlt, if_neg (fun z => hlt ⟨by omega, z.2⟩)]
        simp
theorem cPU_is {th sd : Nat → Int32} {n : Nat} {sc : Int32} (h : ∀ i, i < n → 1 ≤ (th i).toInt ∧ (th i).toInt ≤ 50) (hs : 0 ≤ sc.toInt) : ∀ len : Nat, cPU th sd n sc (len : Int) n = gPU th sd n sc len
  | 0 => by
    have : ∀ k, k ≤ n → cPU th sd n sc ((0 : Nat) : Int) k = 0 := by
      intro k
      induction k with
      | zero => intro _; rfl
      | succ k ih =>
        intro hk
        have h1 := gB_nn h (k := k) (by omega)
        have h2 := h k (by omega)
        have h3 : gB th (k + 1) = gB th k + (th k).toInt := rfl
        simp only [cPU, ih (by omega)]
        have : cZ_ th n sc ((0 : Nat) : Int) k = 0 := by
          unfold cZ_
          split <;> omega
        rw [this]; simp
    exact this n (Nat.le_refl _)
  | u + 1 => by
    rw [cPU_step h hs n (Nat.le_refl _), cPU_is h hs u]
    simp only [gPU, gSD]
    by_cases hn : n = 0
    · subst hn
      simp
    · have := gL_lt (th := th) (n := n) (u := u) (by omega)
      by_cases hs2 : (u : Int) < sc.toInt
      · rw [if_neg (by omega), if_pos (Or.inr hs2)]
      · rw [if_pos ⟨this, hs2⟩, if_neg (by omega)]
theorem pu_bt1 {n k u : Nat} {x : Int} (h : k + 1 = n) : nI u = zI (if k + 1 = n then (u : Int) else x) := by rw [if_pos h, zI_nat]
theorem pu_bt2 {th : Nat → Int32} {n k u : Nat} (h : ¬ k + 1 = n) (hu : u ≤ 1000) (h1 : 0 ≤ gB th (k + 1)) (h2 : gB th (k + 1) ≤ 1000) : (if zI (gB th k) + th k < nI u then zI (gB th k) + th k else nI u) = zI (if k + 1 = n then (u : Int) else min u (gB th (k + 1))) := by
  rw [gB_step, if_neg h, zI_nat]
  by_cases q : gB th (k + 1) < u
  · rw [if_pos ((zI_lt (by omega) (by omega) (by omega) (by omega)).mpr q), Int.min_eq_right (by omega)]
  · rw [if_neg (fun z => q ((zI_lt (by omega) (by omega) (by omega) (by omega)).mp z)), Int.min_eq_left (by omega)]
theorem pu_z {th : Nat → Int32} {n k u : Nat} {sc : Int32} (hu : u ≤ 1000) (h1 : 0 ≤ gB th k ∧ gB th k ≤ 1000) (h2 : 0 ≤ gB th (k + 1) ∧ gB th (k + 1) ≤ 1000) (h3 : 0 ≤ sc.toInt) (h4 : sc.toInt ≤ 20) :
    (if 0 < zI (if k + 1 = n then (u : Int) else min u (gB th (k + 1))) - (if zI (gB th k) < sc then sc else zI (gB th k)) then zI (if k + 1 = n then (u : Int) else min u (gB th (k + 1))) - (if zI (gB th k) < sc then sc else zI (gB th k)) else 0) = zI (cZ_ th n sc u k) := by
  have e1 : (if zI (gB th k) < sc then sc else zI (gB th k)) = zI (max (gB th k) sc.toInt) := by
    rw [← zI_as sc]
    by_cases q : gB th k < sc.toInt
    · rw [if_pos ((zI_lt (by omega) (by omega) (by omega) (by omega)).mpr q), Int.max_eq_right (by rw [zI_as]; omega), zI_as, zI_as]
    · rw [if_neg (fun z => q ((zI_lt (by omega) (by omega) (by omega) (by omega)).mp z)), Int.max_eq_left (by rw [zI_as]; omega)]
  rw [e1, zI_sub]
  unfold cZ_
  generalize hb : (if k + 1 = n then (u : Int) else min u (gB th (k + 1))) = b
  have hb1 : 0 ≤ b ∧ b ≤ 1000 := by
    rw [← hb]
    split <;> omega
  have hm : max (gB th k) sc.toInt ≤ 1000 ∧ 0 ≤ max (gB th k) sc.toInt := by omega
  generalize max (gB th k) sc.toInt = mx at hm ⊢
  by_cases q : 0 < b - mx
  · rw [if_pos (by rw [show (0 : Int32) = zI 0 from rfl, zI_lt (by omega) (by omega) (by omega) (by omega)]; exact q), Int.max_eq_right (by omega)]
  · rw [if_neg (by rw [show (0 : Int32) = zI 0 from rfl, zI_lt (by omega) (by omega) (by omega) (by omega)]; exact q), Int.max_eq_left (by omega)]; rfl
theorem pu_step {th sd : Nat → Int32} {n k u : Nat} {sc : Int32} : zI (cPU th sd n sc u k) + zI (cZ_ th n sc u k) * sd k = zI (cPU th sd n sc u (k + 1)) := by
  rw [← zI_as (sd k), zI_mul, zI_add]
  simp only [cPU, zI_as]
