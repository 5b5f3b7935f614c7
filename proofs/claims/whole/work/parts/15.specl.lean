/-! rows about the state's words -/
theorem len_ex {L : Int32} (h : inR L 1 100 = true) : ∃ k : Nat, 1 ≤ k ∧ k ≤ 100 ∧ L = nI k := by
  have h1 := inR_iff.mp h
  rw [show (100 : Int32).toInt = 100 from rfl, show (1 : Int32).toInt = 1 from rfl] at h1
  exact ⟨L.toInt.toNat, by omega, by omega, by rw [zI_nat, Int.toNat_of_nonneg (by omega), zI_as]⟩
theorem case_ex {c : Int32} (h : inR c 0 2 = true) : ∃ k : Nat, k < 3 ∧ c = nI k := by
  have h1 := inR_iff.mp h
  rw [show (2 : Int32).toInt = 2 from rfl, show (0 : Int32).toInt = 0 from rfl] at h1
  exact ⟨c.toInt.toNat, by omega, by rw [zI_nat, Int.toNat_of_nonneg h1.1, zI_as]⟩
theorem num_ex {i : Int32} {n : Nat} (hn : n < 1000) (h1 : ¬ i < 0) (h2 : i < nI n) : ∃ k : Nat, k < n ∧ i = nI k := by
  rw [Int32.lt_iff_toInt_lt, Int32.toInt_zero] at h1
  rw [Int32.lt_iff_toInt_lt, nI_toInt (by omega)] at h2
  exact ⟨i.toInt.toNat, by omega, by rw [zI_nat, Int.toNat_of_nonneg (by omega), zI_as]⟩
theorem out_ne {x k : Int32} {lo hi : Int} (h : x.toInt < lo ∨ hi < x.toInt) (hk : lo ≤ k.toInt ∧ k.toInt ≤ hi) : x ≠ k := by
  intro e
  subst e
  omega
theorem ab_no {x : Int32} (h : x.toInt < 0 ∨ 6 < x.toInt) : x ≠ 0 ∧ x ≠ 1 ∧ x ≠ 2 ∧ x ≠ 3 ∧ x ≠ 4 ∧ x ≠ 5 ∧ x ≠ 6 := ⟨out_ne h (by decide), out_ne h (by decide), out_ne h (by decide), out_ne h (by decide), out_ne h (by decide), out_ne h (by decide), out_ne h (by decide)⟩
theorem ct_no {x : Int32} (h : x.toInt < 0 ∨ 3 < x.toInt) : x ≠ 0 ∧ x ≠ 1 ∧ x ≠ 2 ∧ x ≠ 3 := ⟨out_ne h (by decide), out_ne h (by decide), out_ne h (by decide), out_ne h (by decide)⟩
theorem isum_cong {f g : Nat → Int} : ∀ {n : Nat}, (∀ i, i < n → f i = g i) → isum f n = isum g n
  | 0, _ => rfl
  | n + 1, h => by
    simp only [isum]
    rw [isum_cong (fun i hi => h i (by omega)), h n (by omega)]
theorem fs_gen (ls : Nat → Nat) (hls : ∀ i, ls i ≤ 6) {k : Nat} (hk : ¬ ls k = 6) (f g : Nat → Int) (v : Int) (hn : g (6 * k + ls k) = v) (ho : ∀ j, j ≠ 6 * k + ls k → g j = f j) : updZ (fun c => isum (fun j => f (6 * c + j)) (ls c)) k (isum (fun j => f (6 * k + j)) (ls k) + v) = fun c => isum (fun j => g (6 * c + j)) (updN ls k (ls k + 1) c) := by
  funext c
  by_cases h : c = k
  · subst h
    simp only [updZ, updN, if_true, isum]
    rw [hn, isum_cong (fun i hi => (ho (6 * c + i) (by omega)).symm)]
  · simp only [updZ, updN, if_neg h]
    refine isum_cong (fun i hi => (ho (6 * c + i) ?_).symm)
    have h1 := hls c
    have h2 := hls k
    omega
theorem fs_add {ls : Nat → Nat} (hls : ∀ i, ls i ≤ 6) {k : Nat} (hk : ¬ ls k = 6) {lv : Nat → Int32} {v : Int32} : updZ (fsum ls lv) k (fsum ls lv k + v.toInt) = fsum (updN ls k (ls k + 1)) (upd lv (6 * k + ls k) v) :=
  fs_gen ls hls hk (fun j => (lv j).toInt) (fun j => (upd lv (6 * k + ls k) v j).toInt) v.toInt (by simp [upd]) (fun j hj => by simp [upd, hj])
theorem fs_add2 {ls : Nat → Nat} (hls : ∀ i, ls i ≤ 6) {k : Nat} (hk : ¬ ls k = 6) {lv lx : Nat → Int32} {v x : Int32} : updZ (fsum2 ls lv lx) k (fsum2 ls lv lx k + v.toInt * x.toInt) = fsum2 (updN ls k (ls k + 1)) (upd lv (6 * k + ls k) v) (upd lx (6 * k + ls k) x) :=
  fs_gen ls hls hk (fun j => (lv j).toInt * (lx j).toInt) (fun j => (upd lv (6 * k + ls k) v j).toInt * (upd lx (6 * k + ls k) x j).toInt) (v.toInt * x.toInt) (by simp [upd]) (fun j hj => by simp [upd, hj])
theorem fs_clr {ls : Nat → Nat} {k : Nat} {lv : Nat → Int32} : updZ (fsum ls lv) k 0 = fsum (updN ls k 0) lv := by
  funext c
  by_cases h : c = k <;> simp [updZ, updN, fsum, isum, h]
theorem fs_clr2 {ls : Nat → Nat} {k : Nat} {lv lx : Nat → Int32} : updZ (fsum2 ls lv lx) k 0 = fsum2 (updN ls k 0) lv lx := by
  funext c
  by_cases h : c = k <;> simp [updZ, updN, fsum2, isum, h]
