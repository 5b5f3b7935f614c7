/-! driving's bounds, empty cases, the subsets of a mask in their order -/
theorem dvR_ok {bq : Nat → Int} {e : Int} {m : Nat} (he : 1 ≤ e ∧ e ≤ 10000) (hb : ∀ u, u ≤ 100 → 0 ≤ bq u ∧ bq u ≤ 6000) (hm : m ≤ 200) : ∀ d u s, dvOK u s → u + d ≤ 100 → ∃ w, w ≤ 100 ∧ dvOK w (dvR bq e m d u s).2
  | 0, u, s, h, hu => ⟨u, by omega, h⟩
  | d + 1, u, s, h, hu => by
    have h1 := dvU_ok (be := bq (u + 1)) he (hb (u + 1) (by omega)) hm h
    simp only [dvR]
    split
    · exact dvR_ok he hb hm d (u + 1) _ h1 (by omega)
    · exact ⟨u + 1, by omega, h1⟩
theorem dvR_rng {bq : Nat → Int} {e : Int} {m len : Nat} (he : 1 ≤ e ∧ e ≤ 10000) (hb : ∀ u, u ≤ 100 → 0 ≤ bq u ∧ bq u ≤ 6000) (hm : m ≤ 200) (hl : len ≤ 100) : (0 ≤ (dvR bq e m len 0 (0, 0, 0, 0)).2.1 ∧ (dvR bq e m len 0 (0, 0, 0, 0)).2.1 ≤ 1000000) ∧ (0 ≤ (dvR bq e m len 0 (0, 0, 0, 0)).2.2.1 ∧ (dvR bq e m len 0 (0, 0, 0, 0)).2.2.1 ≤ 1000000) ∧ (0 ≤ (dvR bq e m len 0 (0, 0, 0, 0)).2.2.2.1 ∧ (dvR bq e m len 0 (0, 0, 0, 0)).2.2.2.1 ≤ 1000000) ∧ (0 ≤ (dvR bq e m len 0 (0, 0, 0, 0)).2.2.2.2 ∧ (dvR bq e m len 0 (0, 0, 0, 0)).2.2.2.2 ≤ 1000000) := by
  obtain ⟨w, hw, h1, h2, h3, h4, h5, h6, h7, h8⟩ := dvR_ok he hb hm len 0 (0, 0, 0, 0) (by unfold dvOK; simp) (by omega)
  omega
theorem gBE_rng {th sd tp : Nat → Int32} {n : Nat} {sc : Int32} (G : GOK th sd tp n sc) : ∀ u, u ≤ 100 → 0 ≤ gBE th sd tp n sc u ∧ gBE th sd tp n sc u ≤ 6000 := by
  intro u hu
  have q1 := gPU_rng G u
  have q2 := gTI_rng G u
  unfold gBE; omega
theorem ovM_lt {B : Nat} {q : Nat → Bool} : ∀ k, ovM B q k < 2 ^ k
  | 0 => by simp [ovM]
  | k + 1 => by
    have h := ovM_lt (B := B) (q := q) k
    have h2 : 2 ^ k < 2 ^ (k + 1) := by rw [Nat.pow_succ]; omega
    simp only [ovM]
    split
    · exact Nat.or_lt_two_pow (by omega) h2
    · omega
theorem ovM_0 {B : Nat} {q : Nat → Bool} : ∀ {N : Nat}, (∀ k, k < N → q k = false) → ovM B q N = 0
  | 0, _ => rfl
  | N + 1, h => by rw [ovM_f2 (h N (by omega)), ovM_0 (fun k hk => h k (by omega))]
theorem ho_empty {th sd tp : Nat → Int32} {n : Nat} {sc : Int32} (G : GOK th sd tp n sc) {px py : Nat → Int32} {pl : Nat → Nat} {pk : Nat → Int32} {N : Nat} (P : POK px py pl pk N) {ls : Nat → Nat} {lv lx ly : Nat → Int32} {B c : Nat} (hd : 0 < dDE pk px py B N) (h : ls c = 0) : hoC th sd tp n sc pl pk px py N ls lv lx ly B c = true := by
  unfold hoC
  refine decide_eq_true (ovM_0 (fun k hk => ?_))
  have e : shB pk px py B N ls lv lx ly c k = 0 := by
    unfold shB cWi cPi cQi fsum fsum2 shI
    rw [h]
    simp [isum]
  unfold ovK
  rw [e]
  have h1 := li_rng G P hk 0
  have h2 : 0 ≤ liI th sd tp n sc pl 0 k * dDE pk px py B N := Int.mul_nonneg h1.1 (Int.le_of_lt hd)
  exact decide_eq_false (by simp; omega)
/-- a mask's subsets, by their rank -/
def pe : Nat → Nat → Nat → Nat
  | 0, _, _ => 0
  | f + 1, M, s => if M % 2 = 1 then 2 * pe f (M / 2) (s / 2) + s % 2 else pe f (M / 2) (s / 2)
def nx : Nat → Nat → Nat → Nat
  | 0, _, _ => 0
  | f + 1, M, s => if M % 2 = 1 ∧ s % 2 = 0 then s + 1 else 2 * nx f (M / 2) (s / 2)
def pcr : Nat → Nat → Nat
  | 0, _ => 0
  | f + 1, M => M % 2 + pcr f (M / 2)
def sub2 (s M : Nat) : Prop := s &&& M = s
theorem sub2_half {s M : Nat} (h : sub2 s M) : sub2 (s / 2) (M / 2) ∧ (M % 2 = 0 → s % 2 = 0) := by
  unfold sub2 at *
  constructor
  · rw [← Nat.and_div_two, h]
  · intro hm
    have h2 : (s &&& M) % 2 ≠ 1 := by
      rw [Ne, Nat.and_mod_two_eq_one]
      omega
    rw [h] at h2
    omega
theorem pe_mono : ∀ {f M s t : Nat}, M < 2 ^ f → sub2 s M → sub2 t M → s < t → pe f M s < pe f M t
  | 0, M, s, t, hM, hs, ht, h => by
    have : M = 0 := by simpa using hM
    subst this
    unfold sub2 at hs ht
    simp at hs ht
    omega
  | f + 1, M, s, t, hM, hs, ht, h => by
    have h1 := sub2_half hs
    have h2 := sub2_half ht
    have hM2 : M / 2 < 2 ^ f := by rw [Nat.pow_succ] at hM; omega
    simp only [pe]
    rcases Nat.lt_or_ge (s / 2) (t / 2) with q | q
    · have := pe_mono hM2 h1.1 h2.1 q
      split <;> omega
    · have e : s / 2 = t / 2 := by omega
      rw [e]
      split
      · omega
      · rename_i hm
        have := h1.2 (by omega)
        have := h2.2 (by omega)
        omega
theorem pe_full : ∀ {f M : Nat}, M < 2 ^ f → pe f M M + 1 = 2 ^ pcr f M
  | 0, M, _ => rfl
  | f + 1, M, hM => by
    have ih := pe_full (f := f) (M := M / 2) (by rw [Nat.pow_succ] at hM; omega)
    simp only [pe, pcr]
    split
    · rename_i h
      rw [h, Nat.pow_add, ← ih]
      omega
    · rw [show M % 2 = 0 by omega, Nat.zero_add, ih]
theorem sub2_0 (M : Nat) : sub2 0 M := by unfold sub2; simp
theorem sub2_self (M : Nat) : sub2 M M := by unfold sub2; simp
theorem pe_0 : ∀ (f M : Nat), pe f M 0 = 0
  | 0, _ => rfl
  | f + 1, M => by simp only [pe]; rw [Nat.zero_div, pe_0 f]; simp
theorem sub2_mk {a M : Nat} {b m : Nat} (hb : b < 2) (hm : m < 2) (h : sub2 a M) (hbm : b ≤ m) : sub2 (2 * a + b) (2 * M + m) := by
  unfold sub2 at *
  apply Nat.eq_of_testBit_eq
  intro i
  have hi := congrArg (fun z => z.testBit (i - 1)) h
  rw [Nat.testBit_and]
  cases i with
  | zero =>
    simp only [Nat.testBit_zero, Nat.mul_add_mod, Nat.mod_eq_of_lt hb, Nat.mod_eq_of_lt hm]
    rcases (show b = 0 ∨ b = 1 by omega) with rfl | rfl
    · simp
    · have : m = 1 := by omega
      subst this; rfl
  | succ i =>
    simp only [Nat.add_sub_cancel, Nat.testBit_and] at hi
    rw [Nat.testBit_succ, Nat.testBit_succ, show (2 * a + b) / 2 = a by omega, show (2 * M + m) / 2 = M by omega]
    exact hi
theorem nx_ok : ∀ {f M s : Nat}, M < 2 ^ f → sub2 s M → s ≠ M → sub2 (nx f M s) M ∧ pe f M (nx f M s) = pe f M s + 1
  | 0, M, s, hM, hs, h => by
    have : M = 0 := by simpa using hM
    subst this
    unfold sub2 at hs
    simp at hs
    omega
  | f + 1, M, s, hM, hs, h => by
    have h1 := sub2_half hs
    have hM2 : M / 2 < 2 ^ f := by rw [Nat.pow_succ] at hM; omega
    simp only [nx]
    by_cases hc : M % 2 = 1 ∧ s % 2 = 0
    · rw [if_pos hc]
      constructor
      · have := sub2_mk (b := 1) (m := 1) (by omega) (by omega) h1.1 (by omega)
        rw [show 2 * (s / 2) + 1 = s + 1 by omega, show 2 * (M / 2) + 1 = M by omega] at this
        exact this
      · simp only [pe, if_pos hc.1]
        rw [show (s + 1) / 2 = s / 2 by omega]
        omega
    · rw [if_neg hc]
      have hne : s / 2 ≠ M / 2 := by
        intro e
        by_cases hm : M % 2 = 1
        · exact h (by omega)
        · have := h1.2 (by omega)
          exact h (by omega)
      obtain ⟨i1, i2⟩ := nx_ok hM2 h1.1 hne
      constructor
      · have := sub2_mk (b := 0) (m := M % 2) (by omega) (by omega) i1 (by omega)
        rw [show 2 * (M / 2) + M % 2 = M by omega] at this
        exact this
      · simp only [pe]
        rw [show (2 * nx f (M / 2) (s / 2)) / 2 = nx f (M / 2) (s / 2) by omega, i2]
        split <;> omega
theorem and_two (a b x y : Nat) (hx : x < 2) (hy : y < 2) : (2 * a + x) &&& (2 * b + y) = 2 * (a &&& b) + (x &&& y) := by
  have hxy : x &&& y < 2 := by
    rcases (show x = 0 ∨ x = 1 by omega) with rfl | rfl <;> rcases (show y = 0 ∨ y = 1 by omega) with rfl | rfl <;> decide
  apply Nat.eq_of_testBit_eq
  intro i
  rw [Nat.testBit_and]
  cases i with
  | zero =>
    rcases (show x = 0 ∨ x = 1 by omega) with rfl | rfl <;> rcases (show y = 0 ∨ y = 1 by omega) with rfl | rfl <;> simp [Nat.testBit_zero, Nat.mul_add_mod]
  | succ i =>
    rw [Nat.testBit_succ, Nat.testBit_succ, Nat.testBit_succ, show (2 * a + x) / 2 = a by omega, show (2 * b + y) / 2 = b by omega, show (2 * (a &&& b) + (x &&& y)) / 2 = a &&& b by omega, Nat.testBit_and]
theorem low_ok : ∀ {f M s : Nat}, M < 2 ^ f → sub2 s M → (s + (2 ^ f - 1 - M)) &&& M = s
  | 0, M, s, hM, hs => by
    have : M = 0 := by simpa using hM
    subst this
    unfold sub2 at hs
    simp at hs ⊢
    omega
  | f + 1, M, s, hM, hs => by
    have h1 := sub2_half hs
    have hM2 : M / 2 < 2 ^ f := by rw [Nat.pow_succ] at hM; omega
    have ih := low_ok hM2 h1.1
    have e1 : s + (2 ^ (f + 1) - 1 - M) = 2 * (s / 2 + (2 ^ f - 1 - M / 2)) + (s % 2 + (1 - M % 2)) := by rw [Nat.pow_succ] at *; omega
    have hm0 : M % 2 = 0 → s % 2 = 0 := h1.2
    have e2 : (2 * (s / 2 + (2 ^ f - 1 - M / 2)) + (s % 2 + (1 - M % 2))) &&& (2 * (M / 2) + M % 2) = 2 * (s / 2) + s % 2 := by
      rw [and_two _ _ _ _ (by omega) (by omega), ih]
      rcases Nat.mod_two_eq_zero_or_one M with q | q
      · rw [q, hm0 q]; rfl
      · rw [q]; simp
    rw [e1]
    have e3 : 2 * (M / 2) + M % 2 = M := by omega
    have e4 : 2 * (s / 2) + s % 2 = s := by omega
    rw [e3, e4] at e2
    exact e2
theorem nx_and : ∀ {f M s : Nat}, M < 2 ^ f → sub2 s M → s ≠ M → (s + (2 ^ f - 1 - M) + 1) &&& M = nx f M s
  | 0, M, s, hM, hs, h => by
    have : M = 0 := by simpa using hM
    subst this
    unfold sub2 at hs
    simp at hs
    omega
  | f + 1, M, s, hM, hs, h => by
    have h1 := sub2_half hs
    have hM2 : M / 2 < 2 ^ f := by rw [Nat.pow_succ] at hM; omega
    have e3 : 2 * (M / 2) + M % 2 = M := by omega
    simp only [nx]
    by_cases hc : M % 2 = 1 ∧ s % 2 = 0
    · rw [if_pos hc]
      have e1 : s + (2 ^ (f + 1) - 1 - M) + 1 = 2 * (s / 2 + (2 ^ f - 1 - M / 2)) + 1 := by rw [Nat.pow_succ] at *; omega
      have e2 : (2 * (s / 2 + (2 ^ f - 1 - M / 2)) + 1) &&& (2 * (M / 2) + M % 2) = 2 * (s / 2) + 1 := by
        rw [and_two _ _ _ _ (by omega) (by omega), low_ok hM2 h1.1, hc.1]
        rfl
      rw [e1]
      rw [e3] at e2
      rw [e2]
      omega
    · rw [if_neg hc]
      have hm0 : M % 2 = 0 → s % 2 = 0 := h1.2
      have hne : s / 2 ≠ M / 2 := by
        intro e
        by_cases hm : M % 2 = 1
        · exact h (by omega)
        · have := h1.2 (by omega)
          exact h (by omega)
      have e1 : s + (2 ^ (f + 1) - 1 - M) + 1 = 2 * (s / 2 + (2 ^ f - 1 - M / 2) + 1) + 0 := by rw [Nat.pow_succ] at *; omega
      have e2 : (2 * (s / 2 + (2 ^ f - 1 - M / 2) + 1) + 0) &&& (2 * (M / 2) + M % 2) = 2 * nx f (M / 2) (s / 2) + (0 &&& M % 2) := by
        rw [and_two _ _ _ _ (by omega) (by omega), nx_and hM2 h1.1 hne]
      rw [e1]
      rw [e3] at e2
      rw [e2, Nat.zero_and, Nat.add_zero]
theorem pcr_all : (List.range 4096).all (fun M => decide (pcr 32 M = popc M)) = true := by decide +kernel
theorem pcr_ok {M : Nat} (h : M < 4096) : pcr 32 M = popc M := by
  have := List.all_eq_true.mp pcr_all M (List.mem_range.mpr h)
  simpa using this
theorem next_I {M s : Nat} (hM : M < 4096) (hs : sub2 s M) (h : s ≠ M) : (nI s - nI M) &&& nI M = nI (nx 32 M s) := by
  have hp : (4096 : Nat) < 2 ^ 32 := by decide
  have e : nI s - nI M = nI (s + (2 ^ 32 - 1 - M) + 1) := by
    rw [zI_nat, zI_nat, zI_nat, zI_sub]
    unfold zI
    rw [← Int32.toInt_inj, Int32.toInt_ofInt, Int32.toInt_ofInt]
    have : ((s + (2 ^ 32 - 1 - M) + 1 : Nat) : Int) = (s : Int) - M + 4294967296 := by omega
    rw [this]
    show ((s : Int) - M).bmod (2 ^ 32) = ((s : Int) - M + 4294967296).bmod (2 ^ 32)
    first | exact (Int.add_bmod_right _ _).symm | exact Int.bmod_add_cancel.symm | simp
  rw [e, nI_and, nx_and (by omega) hs h]
theorem leF_skip {M : Nat} {ho : Nat → Bool} {a : Nat} : ∀ d, (∀ s, a ≤ s → s < a + d → ¬ s &&& M = s) → leF M ho (a + d) = leF M ho a
  | 0, _ => rfl
  | d + 1, h => by
    show leF M ho (a + d + 1) = _
    simp only [leF]
    rw [decide_eq_false (h (a + d) (by omega) (by omega)), Bool.false_and, Bool.false_and]
    rw [if_neg (by simp)]
    exact leF_skip d (fun s h1 h2 => h s h1 (by omega))
theorem leF_next {M s : Nat} {ho : Nat → Bool} (hM : M < 4096) (hs : sub2 s M) (h : s ≠ M) : leF M ho (nx 32 M s) = leF M ho (s + 1) := by
  have hM32 : M < 2 ^ 32 := by have : (4096 : Nat) < 2 ^ 32 := by decide
                               omega
  obtain ⟨h1, h2⟩ := nx_ok hM32 hs h
  have hgt : s < nx 32 M s := by
    rcases Nat.lt_or_ge s (nx 32 M s) with q | q
    · exact q
    · rcases Nat.lt_or_ge (nx 32 M s) s with q2 | q2
      · have := pe_mono hM32 h1 hs q2
        omega
      · have e : nx 32 M s = s := by omega
        rw [e] at h2
        omega
  have e := leF_skip (M := M) (ho := ho) (a := s + 1) (nx 32 M s - (s + 1)) (fun t h3 h4 ht => by
    have a1 := pe_mono hM32 hs (t := t) ht (by omega)
    have a2 := pe_mono hM32 (s := t) ht h1 (by omega)
    omega)
  rw [show s + 1 + (nx 32 M s - (s + 1)) = nx 32 M s by omega] at e
  exact e
theorem sub2_le {s M : Nat} (h : sub2 s M) : s ≤ M := by
  unfold sub2 at h
  rw [← h]; exact Nat.and_le_right
theorem leF_t {M s : Nat} {ho : Nat → Bool} (hs : sub2 s M) (h1 : leT s (leF M ho s) = true) (h2 : ho s = true) : leF M ho (s + 1) = some s := by
  simp only [leF]; rw [decide_eq_true (p := s &&& M = s) hs, h1, h2]; rfl
theorem leF_f1 {M s : Nat} {ho : Nat → Bool} (h1 : leT s (leF M ho s) = false) : leF M ho (s + 1) = leF M ho s := by
  simp only [leF]; rw [h1, Bool.and_false, Bool.false_and]; rfl
theorem leF_f2 {M s : Nat} {ho : Nat → Bool} (h2 : ho s = false) : leF M ho (s + 1) = leF M ho s := by
  simp only [leF]; rw [h2, Bool.and_false]; rfl
def leW : Option Nat → Nat
  | none => 13
  | some b => popc b
theorem popc_le (s : Nat) : popc s ≤ 12 := by
  unfold popc
  have : ∀ k, nsum (fun j => if s.testBit j then 1 else 0) k ≤ k := by
    intro k
    induction k with
    | zero => exact Nat.le_refl _
    | succ k ih => simp only [nsum]; split <;> omega
  exact this 12
theorem leT_iff {s : Nat} {o : Option Nat} : leT s o = true ↔ popc s < leW o := by
  cases o with
  | none => exact ⟨fun _ => by have := popc_le s; show popc s < 13; omega, fun _ => rfl⟩
  | some b => simp [leT, leW]
theorem leF_ho {M : Nat} {ho : Nat → Bool} : ∀ {s b : Nat}, leF M ho s = some b → b < s ∧ sub2 b M
  | 0, b, h => by simp [leF] at h
  | s + 1, b, h => by
    simp only [leF] at h
    by_cases c : (decide (s &&& M = s) && leT s (leF M ho s) && ho s) = true
    · rw [if_pos c] at h
      cases h
      simp only [Bool.and_eq_true, decide_eq_true_eq] at c
      exact ⟨by omega, c.1.1⟩
    · rw [if_neg c] at h
      have := leF_ho h
      exact ⟨by omega, this.2⟩
theorem sm_0 {f : Nat → Int} : ∀ n, sm 0 f n = 0
  | 0 => rfl
  | n + 1 => by rw [sm_f (by simp), sm_0]
theorem ho_0 {th sd tp : Nat → Int32} {n : Nat} {sc : Int32} {pl : Nat → Nat} {pk px py : Nat → Int32} {N : Nat} {ls : Nat → Nat} {lv lx ly : Nat → Int32} {sp : Int32} : hoB th sd tp n sc pl pk px py N ls lv lx ly sp 0 = false := by
  unfold hoB
  have : dDE pk px py 0 N = 0 := by simp [dDE, dWW, dWP, dWQ, kS, kX, kY, kXX, kXY, kYY, sm_0]
  rw [this, decide_eq_false (by omega), Bool.and_false, Bool.false_and]
theorem m_ex {m : Int32} (h : inR m 1 200 = true) : pN m ≤ 200 ∧ m = nI (pN m) := by
  have h1 := inR_iff.mp h
  rw [show (200 : Int32).toInt = 200 from rfl, show (1 : Int32).toInt = 1 from rfl] at h1
  unfold pN
  exact ⟨by omega, by rw [zI_nat, Int.toNat_of_nonneg (by omega), zI_as]⟩
theorem ho_no {th sd tp : Nat → Int32} {n : Nat} {sc : Int32} {pl : Nat → Nat} {pk px py : Nat → Int32} {N : Nat} {ls : Nat → Nat} {lv lx ly : Nat → Int32} {sp : Int32} {B k : Nat} (hk : k < 3) (h : hoC th sd tp n sc pl pk px py N ls lv lx ly B k = false) : hoB th sd tp n sc pl pk px py N ls lv lx ly sp B = false := by
  unfold hoB
  rcases (show k = 0 ∨ k = 1 ∨ k = 2 by omega) with rfl | rfl | rfl <;> rw [h] <;> simp
theorem leW_le (o : Option Nat) : leW o ≤ 13 := by
  cases o with
  | none => exact Nat.le_refl _
  | some b => have := popc_le b; show popc b ≤ 13; omega
theorem sub2_bit {s M k : Nat} (h : sub2 s M) (hb : s.testBit k = true) : M.testBit k = true := by
  unfold sub2 at h
  rw [← h, Nat.testBit_and, Bool.and_eq_true] at hb
  exact hb.2
theorem bit_lt {M N k : Nat} (h : M < 2 ^ N) (hb : M.testBit k = true) : k < N := by
  rcases Nat.lt_or_ge k N with q | q
  · exact q
  · rw [Nat.testBit_lt_two_pow (Nat.lt_of_lt_of_le h (Nat.pow_le_pow_right (by omega) q))] at hb
    cases hb
theorem leF_t0 {M : Nat} {ho : Nat → Bool} (h : ho 0 = false) : leF M ho (0 + 1) = none := by
  rw [leF_f2 h]; rfl
