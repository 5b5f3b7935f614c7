/-! the invariant is kept by every call -/
theorem rg_upd {f : Nat → Int32} {n : Nat} {v : Int32} {a b : Int} (h : ∀ i, i < n → a ≤ (f i).toInt ∧ (f i).toInt ≤ b) (hv : a ≤ v.toInt ∧ v.toInt ≤ b) : ∀ i, i < n + 1 → a ≤ (upd f n v i).toInt ∧ (upd f n v i).toInt ≤ b := by
  intro i hi
  by_cases e : i = n
  · subst e; simp only [upd, if_true]; exact hv
  · simp only [upd, if_neg e]; exact h i (by omega)
theorem rg_upd2 {f : Nat → Int32} {n k : Nat} {v : Int32} {a b : Int} (h : ∀ i, i < n → a ≤ (f i).toInt ∧ (f i).toInt ≤ b) (hv : a ≤ v.toInt ∧ v.toInt ≤ b) : ∀ i, i < n → a ≤ (upd f k v i).toInt ∧ (upd f k v i).toInt ≤ b := by
  intro i hi
  by_cases e : i = k
  · subst e; simp only [upd, if_true]; exact hv
  · simp only [upd, if_neg e]; exact h i hi
theorem rg_updA {f : Nat → Int32} {k : Nat} {v : Int32} {a b : Int} (h : ∀ i, a ≤ (f i).toInt ∧ (f i).toInt ≤ b) (hv : a ≤ v.toInt ∧ v.toInt ≤ b) : ∀ i, a ≤ (upd f k v i).toInt ∧ (upd f k v i).toInt ≤ b := by
  intro i
  by_cases e : i = k
  · subst e; simp only [upd, if_true]; exact hv
  · simp only [upd, if_neg e]; exact h i
theorem rgN_upd {f : Nat → Nat} {n v a b : Nat} (h : ∀ i, i < n → a ≤ f i ∧ f i ≤ b) (hv : a ≤ v ∧ v ≤ b) : ∀ i, i < n + 1 → a ≤ updN f n v i ∧ updN f n v i ≤ b := by
  intro i hi
  by_cases e : i = n
  · subst e; simp only [updN, if_true]; exact hv
  · simp only [updN, if_neg e]; exact h i (by omega)
theorem rgN_updA {f : Nat → Nat} {k v b : Nat} (h : ∀ i, f i ≤ b) (hv : v ≤ b) : ∀ i, updN f k v i ≤ b := by
  intro i
  by_cases e : i = k
  · subst e; simp only [updN, if_true]; exact hv
  · simp only [updN, if_neg e]; exact h i
theorem and3 {a b c : Bool} (h : (a && b && c) = true) : a = true ∧ b = true ∧ c = true := by
  cases a <;> cases b <;> cases c <;> simp_all
theorem inv_layer {t s p : Int32} {S : STy} (h : INV S) : INV (fLayer t s p S).2 := by
  obtain ⟨th, sd, tp, n, sc, sp, px, py, pl, pk, N, M, ls, lv, lx, ly, ab, bl, tn⟩ := S
  simp only [fLayer]
  split
  · rename_i c
    obtain ⟨c1, c2, c3⟩ := and3 c
    split
    · exact h
    · obtain ⟨G, hsp, P, hM, hls, hlv, hlx, hly, htn⟩ := h
      refine ⟨⟨by have := G.1; omega, rg_upd G.2.1 (inR_iff.mp c1), rg_upd G.2.2.1 (inR_iff.mp c2), rg_upd G.2.2.2.1 (inR_iff.mp c3), G.2.2.2.2⟩, hsp, P, hM, hls, hlv, hlx, hly, htn⟩
  · exact h
theorem inv_change {p w v : Int32} {S : STy} (h : INV S) : INV (fChange p w v S).2 := by
  obtain ⟨th, sd, tp, n, sc, sp, px, py, pl, pk, N, M, ls, lv, lx, ly, ab, bl, tn⟩ := S
  simp only [fChange]
  split
  · split
    · rename_i c
      obtain ⟨G, hsp, P, hM, hls, hlv, hlx, hly, htn⟩ := h
      exact ⟨⟨G.1, G.2.1, rg_upd2 G.2.2.1 (inR_iff.mp c.2), G.2.2.2.1, G.2.2.2.2⟩, hsp, P, hM, hls, hlv, hlx, hly, htn⟩
    · split
      · rename_i c
        obtain ⟨G, hsp, P, hM, hls, hlv, hlx, hly, htn⟩ := h
        exact ⟨⟨G.1, G.2.1, G.2.2.1, rg_upd2 G.2.2.2.1 (inR_iff.mp c.2), G.2.2.2.2⟩, hsp, P, hM, hls, hlv, hlx, hly, htn⟩
      · exact h
  · exact h
theorem inv_rule {w v : Int32} {S : STy} (h : INV S) : INV (fRule w v S).2 := by
  obtain ⟨th, sd, tp, n, sc, sp, px, py, pl, pk, N, M, ls, lv, lx, ly, ab, bl, tn⟩ := S
  simp only [fRule]
  split
  · rename_i c
    obtain ⟨G, hsp, P, hM, hls, hlv, hlx, hly, htn⟩ := h
    exact ⟨⟨G.1, G.2.1, G.2.2.1, G.2.2.2.1, inR_iff.mp c.2⟩, hsp, P, hM, hls, hlv, hlx, hly, htn⟩
  · split
    · rename_i c
      obtain ⟨G, hsp, P, hM, hls, hlv, hlx, hly, htn⟩ := h
      exact ⟨G, inR_iff.mp c.2, P, hM, hls, hlv, hlx, hly, htn⟩
    · exact h
theorem inv_pile {x y L k : Int32} {S : STy} (h : INV S) : INV (fPile x y L k S).2 := by
  obtain ⟨th, sd, tp, n, sc, sp, px, py, pl, pk, N, M, ls, lv, lx, ly, ab, bl, tn⟩ := S
  simp only [fPile]
  split
  · rename_i c
    obtain ⟨c1, c2, c3⟩ := and3 c
    rw [Bool.and_eq_true] at c1
    split
    · exact h
    · obtain ⟨G, hsp, P, hM, hls, hlv, hlx, hly, htn⟩ := h
      obtain ⟨kL, hk1, hk2, rfl⟩ := len_ex c2
      rw [pN_nI (by omega)]
      refine ⟨G, hsp, ⟨by have := P.1; omega, rg_upd P.2.1 (inR_iff.mp c1.1), rg_upd P.2.2.1 (inR_iff.mp c1.2), rgN_upd P.2.2.2.1 ⟨hk1, hk2⟩, rg_upd P.2.2.2.2 (inR_iff.mp c3)⟩, mset_lt (Nat.lt_of_lt_of_le hM (Nat.pow_le_pow_right (by omega) (Nat.le_succ _))) (Nat.lt_succ_self _), hls, hlv, hlx, hly, htn⟩
  · exact h
theorem inv_shift {p x y : Int32} {S : STy} (h : INV S) : INV (fShift p x y S).2 := by
  obtain ⟨th, sd, tp, n, sc, sp, px, py, pl, pk, N, M, ls, lv, lx, ly, ab, bl, tn⟩ := S
  simp only [fShift]
  split
  · rename_i c
    obtain ⟨G, hsp, P, hM, hls, hlv, hlx, hly, htn⟩ := h
    have c2 := c.2
    rw [Bool.and_eq_true] at c2
    exact ⟨G, hsp, ⟨P.1, rg_upd2 P.2.1 (inR_iff.mp c2.1), rg_upd2 P.2.2.1 (inR_iff.mp c2.2), P.2.2.2⟩, hM, hls, hlv, hlx, hly, htn⟩
  · exact h
theorem inv_whole {p : Int32} {v : Bool} {S : STy} (h : INV S) : INV (fWhole p v S).2 := by
  obtain ⟨th, sd, tp, n, sc, sp, px, py, pl, pk, N, M, ls, lv, lx, ly, ab, bl, tn⟩ := S
  simp only [fWhole]
  split
  · rename_i c
    obtain ⟨G, hsp, P, hM, hls, hlv, hlx, hly, htn⟩ := h
    obtain ⟨k, hk, rfl⟩ := hasB_ex c
    have := P.1
    rw [pN_nI (by omega)]
    exact ⟨G, hsp, P, mset_lt hM hk, hls, hlv, hlx, hly, htn⟩
  · exact h
theorem inv_about {p w : Int32} {S : STy} (h : INV S) : INV (fAbout p w S).2 := by
  obtain ⟨th, sd, tp, n, sc, sp, px, py, pl, pk, N, M, ls, lv, lx, ly, ab, bl, tn⟩ := S
  simp only [fAbout]
  first | exact h | (repeat' split) <;> exact h
theorem inv_load {c v x y : Int32} {S : STy} (h : INV S) : INV (fLoad c v x y S).2 := by
  obtain ⟨th, sd, tp, n, sc, sp, px, py, pl, pk, N, M, ls, lv, lx, ly, ab, bl, tn⟩ := S
  simp only [fLoad]
  split
  · rename_i c9
    obtain ⟨c1, c2, c3⟩ := and3 c9
    rw [Bool.and_eq_true] at c3
    split
    · exact h
    · obtain ⟨G, hsp, P, hM, hls, hlv, hlx, hly, htn⟩ := h
      have := hls (pN c)
      exact ⟨G, hsp, P, hM, rgN_updA hls (by omega), rg_updA hlv (inR_iff.mp c2), rg_updA hlx (inR_iff.mp c3.1), rg_updA hly (inR_iff.mp c3.2), htn⟩
  · exact h
theorem inv_noLoads {c : Int32} {S : STy} (h : INV S) : INV (fNoLoads c S).2 := by
  obtain ⟨th, sd, tp, n, sc, sp, px, py, pl, pk, N, M, ls, lv, lx, ly, ab, bl, tn⟩ := S
  simp only [fNoLoads]
  split
  · obtain ⟨G, hsp, P, hM, hls, hlv, hlx, hly, htn⟩ := h
    exact ⟨G, hsp, P, hM, rgN_updA hls (by omega), hlv, hlx, hly, htn⟩
  · exact h
theorem inv_shares {c : Int32} {S : STy} (h : INV S) : INV (fShares c S).2 := by
  obtain ⟨th, sd, tp, n, sc, sp, px, py, pl, pk, N, M, ls, lv, lx, ly, ab, bl, tn⟩ := S
  simp only [fShares]
  split
  · split
    · obtain ⟨G, hsp, P, hM, hls, hlv, hlx, hly, htn⟩ := h
      have := P.1
      exact ⟨G, hsp, P, hM, hls, hlv, hlx, hly, by omega⟩
    · exact h
  · exact h
theorem inv_over {c : Int32} {S : STy} (h : INV S) : INV (fOver c S).2 := by
  obtain ⟨th, sd, tp, n, sc, sp, px, py, pl, pk, N, M, ls, lv, lx, ly, ab, bl, tn⟩ := S
  simp only [fOver]
  first | exact h | (repeat' split) <;> exact h
theorem inv_end {c : Int32} {S : STy} (h : INV S) : INV (fEnd c S).2 := by
  obtain ⟨th, sd, tp, n, sc, sp, px, py, pl, pk, N, M, ls, lv, lx, ly, ab, bl, tn⟩ := S
  simp only [fEnd]
  split
  · split
    · split
      · exact h
      · obtain ⟨G, hsp, P, hM, hls, hlv, hlx, hly, htn⟩ := h
        exact ⟨G, hsp, P, hM, hls, hlv, hlx, hly, by omega⟩
    · exact h
  · exact h
theorem inv_least {S : STy} (h : INV S) : INV (fLeast S).2 := by
  obtain ⟨th, sd, tp, n, sc, sp, px, py, pl, pk, N, M, ls, lv, lx, ly, ab, bl, tn⟩ := S
  simp only [fLeast]
  first | exact h | (repeat' split) <;> exact h
theorem inv_drive {p e m : Int32} {S : STy} (h : INV S) : INV (fDrive p e m S).2 := by
  obtain ⟨th, sd, tp, n, sc, sp, px, py, pl, pk, N, M, ls, lv, lx, ly, ab, bl, tn⟩ := S
  simp only [fDrive]
  split
  · obtain ⟨G, hsp, P, hM, hls, hlv, hlx, hly, htn⟩ := h
    exact ⟨G, hsp, P, hM, hls, hlv, hlx, hly, by omega⟩
  · exact h
theorem inv_drag {p g : Int32} {S : STy} (h : INV S) : INV (fDrag p g S).2 := by
  obtain ⟨th, sd, tp, n, sc, sp, px, py, pl, pk, N, M, ls, lv, lx, ly, ab, bl, tn⟩ := S
  simp only [fDrag]
  split
  · split
    · exact h
    · obtain ⟨G, hsp, P, hM, hls, hlv, hlx, hly, htn⟩ := h
      split <;> exact ⟨G, hsp, P, hM, hls, hlv, hlx, hly, by omega⟩
  · exact h
theorem inv_number {i w : Int32} {S : STy} (h : INV S) : INV (fNumber i w S).2 := by
  obtain ⟨th, sd, tp, n, sc, sp, px, py, pl, pk, N, M, ls, lv, lx, ly, ab, bl, tn⟩ := S
  simp only [fNumber]
  first | exact h | (repeat' split) <;> exact h
theorem inv_count {w : Int32} {S : STy} (h : INV S) : INV (fCount w S).2 := by
  obtain ⟨th, sd, tp, n, sc, sp, px, py, pl, pk, N, M, ls, lv, lx, ly, ab, bl, tn⟩ := S
  simp only [fCount]
  first | exact h | (repeat' split) <;> exact h
def S0 : STy := (fun _ => 0, fun _ => 0, fun _ => 0, 0, 0, 0, fun _ => 0, fun _ => 0, fun _ => 0, fun _ => 0, 0, 0, fun _ => 0, fun _ => 0, fun _ => 0, fun _ => 0, fun _ => 0, fun _ => 0, 0)
theorem inv_0 : INV S0 := by
  refine ⟨⟨by omega, fun i hi => absurd hi (Nat.not_lt_zero _), fun i hi => absurd hi (Nat.not_lt_zero _), fun i hi => absurd hi (Nat.not_lt_zero _), by decide⟩, by decide, ⟨by omega, fun i hi => absurd hi (Nat.not_lt_zero _), fun i hi => absurd hi (Nat.not_lt_zero _), fun i hi => absurd hi (Nat.not_lt_zero _), fun i hi => absurd hi (Nat.not_lt_zero _)⟩, by decide, fun _ => Nat.zero_le _, fun _ => (by decide : -500 ≤ (0 : Int32).toInt ∧ (0 : Int32).toInt ≤ 500), fun _ => (by decide : -20 ≤ (0 : Int32).toInt ∧ (0 : Int32).toInt ≤ 20), fun _ => (by decide : -20 ≤ (0 : Int32).toInt ∧ (0 : Int32).toInt ≤ 20), by omega⟩
