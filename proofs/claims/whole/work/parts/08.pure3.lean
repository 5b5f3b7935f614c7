/-! sums over a set, the cap's numbers, limits, driving -/
def updZ (f : Nat → Int) (k : Nat) (v : Int) : Nat → Int := fun j => if j = k then v else f j
theorem upd_zL {f : Nat → Int} {k : Nat} {v : Int} : vp_updL (fun i => zL (f i)) k (zL v) = fun i => zL (updZ f k v i) := by
  funext j
  by_cases h : j = k
  · subst h; simp [vp_updL, updZ]
  · simp [vp_updL, updZ, h]
def sm (B : Nat) (f : Nat → Int) : Nat → Int
  | 0 => 0
  | k + 1 => if B.testBit k then sm B f k + f k else sm B f k
theorem sm_t {B k : Nat} {f : Nat → Int} (h : B.testBit k = true) : sm B f (k + 1) = sm B f k + f k := by simp only [sm]; rw [if_pos h]
theorem sm_f {B k : Nat} {f : Nat → Int} (h : B.testBit k = false) : sm B f (k + 1) = sm B f k := by simp only [sm]; rw [if_neg (by rw [h]; simp)]
theorem sm_rng {B : Nat} {f : Nat → Int} {c : Int} (hc : 0 ≤ c) : ∀ {n : Nat}, (∀ i, i < n → -c ≤ f i ∧ f i ≤ c) → -(c * n) ≤ sm B f n ∧ sm B f n ≤ c * n
  | 0, _ => by simp [sm]
  | n + 1, h => by
    have h1 := sm_rng (B := B) hc (n := n) (fun i hi => h i (by omega))
    have h2 := h n (by omega)
    have e : c * ((n + 1 : Nat) : Int) = c * n + c := by rw [Int.natCast_add, Int.mul_add]; simp
    rw [e]
    simp only [sm]
    split <;> omega
abbrev fK (pk : Nat → Int32) : Nat → Int := fun i => (pk i).toInt
abbrev fKX (pk px : Nat → Int32) : Nat → Int := fun i => (pk i).toInt * (px i).toInt
abbrev fKXX (pk px py : Nat → Int32) : Nat → Int := fun i => (pk i).toInt * (px i).toInt * (py i).toInt
def POK (px py : Nat → Int32) (pl : Nat → Nat) (pk : Nat → Int32) (N : Nat) : Prop := N ≤ 12 ∧ (∀ i, i < N → -20 ≤ (px i).toInt ∧ (px i).toInt ≤ 20) ∧ (∀ i, i < N → -20 ≤ (py i).toInt ∧ (py i).toInt ≤ 20) ∧ (∀ i, i < N → 1 ≤ pl i ∧ pl i ≤ 100) ∧ (∀ i, i < N → 1 ≤ (pk i).toInt ∧ (pk i).toInt ≤ 20)
def kS (pk px py : Nat → Int32) (B N : Nat) : Int := sm B (fK pk) N
def kX (pk px py : Nat → Int32) (B N : Nat) : Int := sm B (fKX pk px) N
def kY (pk px py : Nat → Int32) (B N : Nat) : Int := sm B (fKX pk py) N
def kXX (pk px py : Nat → Int32) (B N : Nat) : Int := sm B (fKXX pk px px) N
def kXY (pk px py : Nat → Int32) (B N : Nat) : Int := sm B (fKXX pk px py) N
def kYY (pk px py : Nat → Int32) (B N : Nat) : Int := sm B (fKXX pk py py) N
def dWW (pk px py : Nat → Int32) (B N : Nat) : Int := kXX pk px py B N * kYY pk px py B N - kXY pk px py B N * kXY pk px py B N
def dWP (pk px py : Nat → Int32) (B N : Nat) : Int := kY pk px py B N * kXY pk px py B N - kX pk px py B N * kYY pk px py B N
def dWQ (pk px py : Nat → Int32) (B N : Nat) : Int := kX pk px py B N * kXY pk px py B N - kY pk px py B N * kXX pk px py B N
def dPP (pk px py : Nat → Int32) (B N : Nat) : Int := kS pk px py B N * kYY pk px py B N - kY pk px py B N * kY pk px py B N
def dPQ (pk px py : Nat → Int32) (B N : Nat) : Int := kX pk px py B N * kY pk px py B N - kS pk px py B N * kXY pk px py B N
def dQQ (pk px py : Nat → Int32) (B N : Nat) : Int := kS pk px py B N * kXX pk px py B N - kX pk px py B N * kX pk px py B N
def dDE (pk px py : Nat → Int32) (B N : Nat) : Int := kS pk px py B N * dWW pk px py B N + kX pk px py B N * dWP pk px py B N + kY pk px py B N * dWQ pk px py B N
theorem mul_rng {a b A B : Int} (ha : -A ≤ a ∧ a ≤ A) (hb : -B ≤ b ∧ b ≤ B) : -(A * B) ≤ a * b ∧ a * b ≤ A * B := by
  have hA : 0 ≤ A := by omega
  have hB : 0 ≤ B := by omega
  have h1 : a.natAbs ≤ A.natAbs := by omega
  have h2 : b.natAbs ≤ B.natAbs := by omega
  have h3 := Nat.mul_le_mul h1 h2
  rw [← Int.natAbs_mul, ← Int.natAbs_mul] at h3
  have h4 : 0 ≤ A * B := Int.mul_nonneg hA hB
  omega
theorem k_rng {px py : Nat → Int32} {pl : Nat → Nat} {pk : Nat → Int32} {N : Nat} (P : POK px py pl pk N) (B : Nat) : (-240 ≤ kS pk px py B N ∧ kS pk px py B N ≤ 240) ∧ (-4800 ≤ kX pk px py B N ∧ kX pk px py B N ≤ 4800) ∧ (-4800 ≤ kY pk px py B N ∧ kY pk px py B N ≤ 4800) ∧ (-96000 ≤ kXX pk px py B N ∧ kXX pk px py B N ≤ 96000) ∧ (-96000 ≤ kXY pk px py B N ∧ kXY pk px py B N ≤ 96000) ∧ (-96000 ≤ kYY pk px py B N ∧ kYY pk px py B N ≤ 96000) := by
  obtain ⟨h0, hx, hy, hl, hk⟩ := P
  have hk2 : ∀ i, i < N → -20 ≤ (pk i).toInt ∧ (pk i).toInt ≤ 20 := fun i hi => by have := hk i hi; omega
  have a1 := sm_rng (B := B) (f := fK pk) (c := 20) (by omega) (n := N) hk2
  have a2 := sm_rng (B := B) (f := fKX pk px) (c := 400) (by omega) (n := N) (fun i hi => mul_rng (hk2 i hi) (hx i hi))
  have a3 := sm_rng (B := B) (f := fKX pk py) (c := 400) (by omega) (n := N) (fun i hi => mul_rng (hk2 i hi) (hy i hi))
  have a4 := sm_rng (B := B) (f := fKXX pk px px) (c := 8000) (by omega) (n := N) (fun i hi => mul_rng (A := 400) (mul_rng (hk2 i hi) (hx i hi)) (hx i hi))
  have a5 := sm_rng (B := B) (f := fKXX pk px py) (c := 8000) (by omega) (n := N) (fun i hi => mul_rng (A := 400) (mul_rng (hk2 i hi) (hx i hi)) (hy i hi))
  have a6 := sm_rng (B := B) (f := fKXX pk py py) (c := 8000) (by omega) (n := N) (fun i hi => mul_rng (A := 400) (mul_rng (hk2 i hi) (hy i hi)) (hy i hi))
  have hN : (N : Int) ≤ 12 := by omega
  unfold kS kX kY kXX kXY kYY
  omega
theorem sub_rng {a b A B : Int} (ha : -A ≤ a ∧ a ≤ A) (hb : -B ≤ b ∧ b ≤ B) : -(A + B) ≤ a - b ∧ a - b ≤ A + B := by omega
theorem add_rng {a b A B : Int} (ha : -A ≤ a ∧ a ≤ A) (hb : -B ≤ b ∧ b ≤ B) : -(A + B) ≤ a + b ∧ a + b ≤ A + B := by omega
theorem d_rng {px py : Nat → Int32} {pl : Nat → Nat} {pk : Nat → Int32} {N : Nat} (P : POK px py pl pk N) (B : Nat) : (-18432000000 ≤ dWW pk px py B N ∧ dWW pk px py B N ≤ 18432000000) ∧ (-921600000 ≤ dWP pk px py B N ∧ dWP pk px py B N ≤ 921600000) ∧ (-921600000 ≤ dWQ pk px py B N ∧ dWQ pk px py B N ≤ 921600000) ∧ (-46080000 ≤ dPP pk px py B N ∧ dPP pk px py B N ≤ 46080000) ∧ (-46080000 ≤ dPQ pk px py B N ∧ dPQ pk px py B N ≤ 46080000) ∧ (-46080000 ≤ dQQ pk px py B N ∧ dQQ pk px py B N ≤ 46080000) ∧ (-13271040000000 ≤ dDE pk px py B N ∧ dDE pk px py B N ≤ 13271040000000) := by
  obtain ⟨h1, h2, h3, h4, h5, h6⟩ := k_rng P B
  have b1 : -18432000000 ≤ dWW pk px py B N ∧ dWW pk px py B N ≤ 18432000000 := sub_rng (mul_rng h4 h6) (mul_rng h5 h5)
  have b2 : -921600000 ≤ dWP pk px py B N ∧ dWP pk px py B N ≤ 921600000 := sub_rng (mul_rng h3 h5) (mul_rng h2 h6)
  have b3 : -921600000 ≤ dWQ pk px py B N ∧ dWQ pk px py B N ≤ 921600000 := sub_rng (mul_rng h2 h5) (mul_rng h3 h4)
  have b4 : -46080000 ≤ dPP pk px py B N ∧ dPP pk px py B N ≤ 46080000 := sub_rng (mul_rng h1 h6) (mul_rng h3 h3)
  have b5 : -46080000 ≤ dPQ pk px py B N ∧ dPQ pk px py B N ≤ 46080000 := by
    have := sub_rng (mul_rng h2 h3) (mul_rng h1 h5)
    exact this
  have b6 : -46080000 ≤ dQQ pk px py B N ∧ dQQ pk px py B N ≤ 46080000 := sub_rng (mul_rng h1 h4) (mul_rng h2 h2)
  have b7 : -13271040000000 ≤ dDE pk px py B N ∧ dDE pk px py B N ≤ 13271040000000 := add_rng (add_rng (mul_rng h1 b1) (mul_rng h2 b2)) (mul_rng h3 b3)
  exact ⟨b1, b2, b3, b4, b5, b6, b7⟩
theorem i2l_mul {x y : Int32} {A B : Int} (hx : -A ≤ x.toInt ∧ x.toInt ≤ A) (hy : -B ≤ y.toInt ∧ y.toInt ≤ B) (h : A * B < 2147483648) : (x * y).toInt64 = zL (x.toInt * y.toInt) ∧ (x * y).toInt = x.toInt * y.toInt := by
  have h1 := mul_rng hx hy
  have e : (x * y).toInt = x.toInt * y.toInt := by
    rw [← zI_as x, ← zI_as y, zI_mul, zI_toInt (by omega) (by omega), zI_as, zI_as]
  exact ⟨by rw [i2l_as, e], e⟩
theorem pk2 {px py : Nat → Int32} {pl : Nat → Nat} {pk : Nat → Int32} {N : Nat} (P : POK px py pl pk N) {k : Nat} (hk : k < N) : -20 ≤ (pk k).toInt ∧ (pk k).toInt ≤ 20 := by have := P.2.2.2.2 k hk; omega
theorem st_1 {x y : Int32} {a : Int} (hx : -20 ≤ x.toInt ∧ x.toInt ≤ 20) (hy : -20 ≤ y.toInt ∧ y.toInt ≤ 20) : zL a + (x * y).toInt64 = zL (a + x.toInt * y.toInt) := by
  rw [(i2l_mul hx hy (by omega)).1, zL_add]
theorem st_2 {x y z : Int32} {a : Int} (hx : -20 ≤ x.toInt ∧ x.toInt ≤ 20) (hy : -20 ≤ y.toInt ∧ y.toInt ≤ 20) (hz : -20 ≤ z.toInt ∧ z.toInt ≤ 20) : zL a + (x * y * z).toInt64 = zL (a + x.toInt * y.toInt * z.toInt) := by
  have h1 := i2l_mul hx hy (by omega)
  have h2 := mul_rng hx hy
  have h3 := i2l_mul (x := x * y) (y := z) (A := 400) (B := 20) (by rw [h1.2]; exact h2) hz (by omega)
  rw [h3.1, h1.2, zL_add]
theorem st_0 {x : Int32} {a : Int} : zL a + x.toInt64 = zL (a + x.toInt) := by rw [i2l_as, zL_add]
def shI (pk px py : Nat → Int32) (w p q : Int) (k : Nat) : Int := (pk k).toInt * (w + p * (px k).toInt + q * (py k).toInt)
def fil (g f : Nat → Int32) (k : Nat) : Nat → Int32 := fun i => if i < k then g i else f i
theorem fil_0 (g f : Nat → Int32) : fil g f 0 = f := by funext i; simp [fil]
theorem fil_s (g f : Nat → Int32) (k : Nat) : upd (fil g f k) k (g k) = fil g f (k + 1) := by
  funext i
  by_cases h : i = k
  · subst h; simp [upd, fil]
  · simp only [upd, fil, if_neg h]
    by_cases h2 : i < k
    · rw [if_pos h2, if_pos (by omega)]
    · rw [if_neg h2, if_neg (by omega)]
theorem fil_in {g f : Nat → Int32} {k i : Nat} (h : i < k) : fil g f k i = g i := by simp [fil, h]
def tooNear (px py : Nat → Int32) (sp : Int32) (i j : Nat) : Bool := decide (i ≠ j) && decide (((px i).toInt - (px j).toInt) * ((px i).toInt - (px j).toInt) + ((py i).toInt - (py j).toInt) * ((py i).toInt - (py j).toInt) < sp.toInt * sp.toInt)
def nrM (px py : Nat → Int32) (sp : Int32) (i : Nat) : Nat → Nat
  | 0 => 0
  | j + 1 => if tooNear px py sp i j then nrM px py sp i j ||| 2 ^ j else nrM px py sp i j
theorem nrM_t {px py : Nat → Int32} {sp : Int32} {i j : Nat} (h : tooNear px py sp i j = true) : nrM px py sp i (j + 1) = nrM px py sp i j ||| 2 ^ j := by simp only [nrM]; rw [if_pos h]
theorem nrM_f {px py : Nat → Int32} {sp : Int32} {i j : Nat} (h : tooNear px py sp i j = false) : nrM px py sp i (j + 1) = nrM px py sp i j := by simp only [nrM]; rw [if_neg (by rw [h]; simp)]
theorem i32_sub {x y : Int32} (hx : -1000 ≤ x.toInt ∧ x.toInt ≤ 1000) (hy : -1000 ≤ y.toInt ∧ y.toInt ≤ 1000) : (x - y).toInt = x.toInt - y.toInt := by
  rw [← zI_as x, ← zI_as y, zI_sub, zI_toInt (by omega) (by omega), zI_as, zI_as]
theorem near_iff {px py : Nat → Int32} {pl : Nat → Nat} {pk : Nat → Int32} {N : Nat} (P : POK px py pl pk N) {sp : Int32} (hs : 0 ≤ sp.toInt ∧ sp.toInt ≤ 40) {i j : Nat} (hi : i < N) (hj : j < N) (hij : i ≠ j) : (sp * sp ≤ (px i - px j) * (px i - px j) + (py i - py j) * (py i - py j)) ↔ tooNear px py sp i j = false := by
  have x1 := P.2.1 i hi
  have x2 := P.2.1 j hj
  have y1 := P.2.2.1 i hi
  have y2 := P.2.2.1 j hj
  have e1 := i32_sub (x := px i) (y := px j) (by omega) (by omega)
  have e2 := i32_sub (x := py i) (y := py j) (by omega) (by omega)
  have m1 := i2l_mul (x := px i - px j) (y := px i - px j) (A := 40) (B := 40) (by omega) (by omega) (by omega)
  have m2 := i2l_mul (x := py i - py j) (y := py i - py j) (A := 40) (B := 40) (by omega) (by omega) (by omega)
  have m3 := i2l_mul (x := sp) (y := sp) (A := 40) (B := 40) (by omega) (by omega) (by omega)
  have r1 := mul_rng (a := (px i).toInt - (px j).toInt) (b := (px i).toInt - (px j).toInt) (A := 40) (B := 40) (by omega) (by omega)
  have r2 := mul_rng (a := (py i).toInt - (py j).toInt) (b := (py i).toInt - (py j).toInt) (A := 40) (B := 40) (by omega) (by omega)
  have e3 : ((px i - px j) * (px i - px j) + (py i - py j) * (py i - py j)).toInt = ((px i).toInt - (px j).toInt) * ((px i).toInt - (px j).toInt) + ((py i).toInt - (py j).toInt) * ((py i).toInt - (py j).toInt) := by
    rw [← zI_as ((px i - px j) * (px i - px j)), ← zI_as ((py i - py j) * (py i - py j)), zI_add, m1.2, m2.2, e1, e2, zI_toInt (by omega) (by omega)]
  rw [Int32.le_iff_toInt_le, e3, m3.2]
  unfold tooNear
  rw [decide_eq_true hij, Bool.true_and, decide_eq_false_iff_not]
  omega
theorem near_same {px py : Nat → Int32} {sp : Int32} {i j : Nat} (h : i = j) : tooNear px py sp i j = false := by
  unfold tooNear; rw [decide_eq_false (fun z => z h)]; rfl
def spB (B : Nat) (nm : Nat → Nat) : Bool := (List.range 12).all (fun k => !B.testBit k || decide (B &&& nm k = 0))
theorem spB_iff {B : Nat} {nm : Nat → Nat} : spB B nm = true ↔ ∀ k, k < 12 → B.testBit k = true → B &&& nm k = 0 := by
  unfold spB
  rw [List.all_eq_true]
  constructor
  · intro h k hk hb
    have := h k (List.mem_range.mpr hk)
    rw [hb] at this
    simpa using this
  · intro h k hk
    have := h k (List.mem_range.mp hk)
    cases hb : B.testBit k
    · rfl
    · simpa using this hb
theorem spB_f {B : Nat} {nm : Nat → Nat} {k : Nat} (hk : k < 12) (hb : B.testBit k = true) (h : ¬ B &&& nm k = 0) : bI (spB B nm) = 0 := by
  rw [bI_z, ← Bool.not_eq_true, spB_iff]
  exact fun z => h (z k hk hb)
/-- driving -/
def dvF (be e : Int) : Nat → Nat → Int → Nat × Int
  | 0, k, lf => (k, lf)
  | d + 1, k, lf => if lf < be then dvF be e d (k + 1) (lf + e) else (k, lf)
theorem dvF_rng {be e : Int} (he : 1 ≤ e ∧ e ≤ 10000) (hb : 0 ≤ be ∧ be ≤ 6000) : ∀ d k lf, 0 ≤ lf → lf ≤ 16000 → k ≤ (dvF be e d k lf).1 ∧ (dvF be e d k lf).1 ≤ k + d ∧ 0 ≤ (dvF be e d k lf).2 ∧ (dvF be e d k lf).2 ≤ 16000
  | 0, k, lf, h1, h2 => by simp [dvF]; omega
  | d + 1, k, lf, h1, h2 => by
    simp only [dvF]
    split
    · have := dvF_rng he hb d (k + 1) (lf + e) (by omega) (by omega)
      omega
    · exact ⟨Nat.le_refl _, by omega, h1, h2⟩
theorem dvF_low {be e : Int} (he : 1 ≤ e ∧ e ≤ 10000) (hb : 0 ≤ be ∧ be ≤ 6000) : ∀ d k lf, 0 ≤ lf → lf ≤ 10000 + be → (dvF be e d k lf).2 ≤ 10000 + be
  | 0, k, lf, h1, h2 => by simp [dvF]; omega
  | d + 1, k, lf, h1, h2 => by
    simp only [dvF]
    split
    · exact dvF_low he hb d (k + 1) (lf + e) (by omega) (by omega)
    · exact h2
/-- a unit: does it go on, blows, left, most, used -/
def dvU (be e : Int) (m : Nat) (s : Int × Int × Int × Int) : Bool × Int × Int × Int × Int :=
  let r := dvF be e m 0 s.2.1
  if r.2 < be then (false, s.1 + r.1, r.2, max s.2.2.1 r.1, s.2.2.2) else (true, s.1 + r.1, r.2 - be, max s.2.2.1 r.1, s.2.2.2 + be)
def dvR (bq : Nat → Int) (e : Int) (m : Nat) : Nat → Nat → Int × Int × Int × Int → Nat × Int × Int × Int × Int
  | 0, u, s => (u, s)
  | d + 1, u, s => if (dvU (bq (u + 1)) e m s).1 then dvR bq e m d (u + 1) (dvU (bq (u + 1)) e m s).2 else (u, (dvU (bq (u + 1)) e m s).2)
def dvOK (u : Nat) (s : Int × Int × Int × Int) : Prop := 0 ≤ s.1 ∧ s.1 ≤ 200 * u ∧ 0 ≤ s.2.1 ∧ s.2.1 ≤ 10000 ∧ 0 ≤ s.2.2.1 ∧ s.2.2.1 ≤ 200 ∧ 0 ≤ s.2.2.2 ∧ s.2.2.2 ≤ 6000 * u
theorem dvU_ok {be e : Int} {m u : Nat} {s : Int × Int × Int × Int} (he : 1 ≤ e ∧ e ≤ 10000) (hb : 0 ≤ be ∧ be ≤ 6000) (hm : m ≤ 200) (h : dvOK u s) : dvOK (u + 1) (dvU be e m s).2 := by
  obtain ⟨h1, h2, h3, h4, h5, h6, h7, h8⟩ := h
  have r := dvF_rng he hb m 0 s.2.1 h3 (by omega)
  have r2 := dvF_low he hb m 0 s.2.1 h3 (by omega)
  unfold dvOK dvU
  dsimp only
  split <;> (dsimp only; omega)
theorem dde_t {px py : Nat → Int32} {pl : Nat → Nat} {pk : Nat → Int32} {N B : Nat} (P : POK px py pl pk N) (h : ¬ zL (dDE pk px py B N) ≤ 0) : decide (0 < dDE pk px py B N) = true := by
  have := (d_rng P B).2.2.2.2.2.2
  rw [show (0 : Int64) = zL 0 from rfl, zL_le (by omega) (by omega) (by omega) (by omega)] at h
  exact decide_eq_true (by omega)
theorem dde_f {px py : Nat → Int32} {pl : Nat → Nat} {pk : Nat → Int32} {N B : Nat} (P : POK px py pl pk N) (h : zL (dDE pk px py B N) ≤ 0) : decide (0 < dDE pk px py B N) = false := by
  have := (d_rng P B).2.2.2.2.2.2
  rw [show (0 : Int64) = zL 0 from rfl, zL_le (by omega) (by omega) (by omega) (by omega)] at h
  exact decide_eq_false (by omega)
theorem upd2 (f : Nat → Int32) (k : Nat) (x y : Int32) : upd (upd f k x) k y = upd f k y := by
  funext j
  by_cases h : j = k <;> simp [upd, h]
theorem mx_k {mo : Int} {k : Nat} (h : 0 ≤ mo ∧ mo ≤ 200) (hk : k ≤ 1000) : (if zI mo < nI k then nI k else zI mo) = zI (max mo (k : Nat)) := by
  rw [zI_nat]
  by_cases q : mo < (k : Nat)
  · rw [if_pos ((zI_lt (by omega) (by omega) (by omega) (by omega)).mpr q), Int.max_eq_right (by omega)]
  · rw [if_neg (fun z => q ((zI_lt (by omega) (by omega) (by omega) (by omega)).mp z)), Int.max_eq_left (by omega)]
theorem dvU_t {be e : Int} {m k : Nat} {b lf mo us l2 : Int} (hf : dvF be e m 0 lf = (k, l2)) (h : ¬ l2 < be) : dvU be e m (b, lf, mo, us) = (true, b + (k : Nat), l2 - be, max mo (k : Nat), us + be) := by
  unfold dvU
  dsimp only
  rw [hf]
  dsimp only
  rw [if_neg h]
theorem dvU_f {be e : Int} {m k : Nat} {b lf mo us l2 : Int} (hf : dvF be e m 0 lf = (k, l2)) (h : l2 < be) : dvU be e m (b, lf, mo, us) = (false, b + (k : Nat), l2, max mo (k : Nat), us) := by
  unfold dvU
  dsimp only
  rw [hf]
  dsimp only
  rw [if_pos h]
