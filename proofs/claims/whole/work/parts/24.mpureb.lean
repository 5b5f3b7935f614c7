theorem ap_f {X : Prop} {Q : Nat → Prop} {b : Bool} {j : Nat} (h : b = false) (hb : b = true ↔ X ∧ ∀ q, q < j → Q q) : (false = true ↔ X ∧ ∀ q, q < j + 1 → Q q) :=
  ⟨fun z => (by cases z), fun z => absurd (hb.mpr ⟨z.1, fun q hq => z.2 q (by omega)⟩) (by rw [h]; simp)⟩
theorem ap_t {X : Prop} {Q : Nat → Prop} {b : Bool} {j : Nat} (h : b = true) (hb : b = true ↔ X ∧ ∀ q, q < j → Q q) (hok : Q j) : (true = true ↔ X ∧ ∀ q, q < j + 1 → Q q) :=
  ⟨fun _ => ⟨(hb.mp h).1, lt_s (hb.mp h).2 hok⟩, fun _ => rfl⟩
theorem ap_n {X : Prop} {Q : Nat → Prop} {j : Nat} (hok : ¬ Q j) : (false = true ↔ X ∧ ∀ q, q < j + 1 → Q q) :=
  ⟨fun z => (by cases z), fun z => absurd (z.2 j (by omega)) hok⟩
theorem ap_out {ok : Nat → Nat → Prop} {b : Bool} {j k : Nat} (h : k = j) (hb : b = true ↔ (∀ p q, q < p → p < k → ok p q) ∧ ∀ q, q < j → ok k q) : (b = true ↔ ∀ p q, q < p → p < k + 1 → ok p q) := by
  rw [hb]
  constructor
  · intro z p q hq hp
    rcases Nat.lt_or_ge p k with h2 | h2
    · exact z.1 p q hq h2
    · have : p = k := by omega
      subst this
      exact z.2 q (by omega)
  · intro z
    exact ⟨fun p q hq hp => z p q hq (by omega), fun q hq => z k q (by omega) (by omega)⟩
theorem ovM_iff {B : Nat} {q : Nat → Bool} : ∀ {N : Nat}, ovM B q N = 0 ↔ ∀ k, k < N → B.testBit k = true → q k = false
  | 0 => ⟨fun _ k hk => absurd hk (Nat.not_lt_zero _), fun _ => rfl⟩
  | N + 1 => by
    have ih := ovM_iff (B := B) (q := q) (N := N)
    cases hb : B.testBit N
    · rw [ovM_f hb, ih]
      refine ⟨fun z k hk h => ?_, fun z k hk => z k (by omega)⟩
      rcases Nat.lt_or_ge k N with h2 | h2
      · exact z k h2 h
      · rw [show k = N by omega, hb] at h; cases h
    · cases hq : q N
      · rw [ovM_f2 hq, ih]
        refine ⟨fun z k hk h => ?_, fun z k hk => z k (by omega)⟩
        rcases Nat.lt_or_ge k N with h2 | h2
        · exact z k h2 h
        · rw [show k = N by omega]; exact hq
      · rw [ovM_t hb hq]
        refine ⟨fun z => ?_, fun z => ?_⟩
        · exfalso
          have h1 := congrArg (fun y => y.testBit N) z
          simp [Nat.testBit_or, Nat.testBit_two_pow] at h1
        · have := z N (by omega) hb
          rw [hq] at this; cases this
def HPk (sb : Bool) (de : Int) (hc : Nat → Bool) (k : Nat) : Prop := (sb = true ∧ (0 < k → 0 < de)) ∧ ∀ j, j < k → hc j = true
theorem HP_no {b sb : Bool} {de : Int} {hc : Nat → Bool} {k : Nat} (h : ¬ 0 < de) : (false = true ↔ HPk sb de hc (k + 1)) := ⟨fun z => (by cases z), fun z => absurd (z.1.2 (by omega)) h⟩
theorem HP_s {b b2 sb : Bool} {de : Int} {hc : Nat → Bool} {k : Nat} (hb : b = true ↔ HPk sb de hc k) (h1 : b = true) (hd : 0 < de) (h2 : b2 = true ↔ hc k = true) : (b2 = true ↔ HPk sb de hc (k + 1)) := by
  have h3 := hb.mp h1
  constructor
  · intro z
    exact ⟨⟨h3.1.1, fun _ => hd⟩, lt_s h3.2 (h2.mp z)⟩
  · intro z
    exact h2.mpr (z.2 k (by omega))
theorem ho_b {th sd tp : Nat → Int32} {n : Nat} {sc : Int32} {pl : Nat → Nat} {pk px py : Nat → Int32} {N : Nat} {ls : Nat → Nat} {lv lx ly : Nat → Int32} {sp : Int32} {B : Nat} {b : Bool} (h : b = true ↔ HPk (spB B (fun i => nrM px py sp i N)) (dDE pk px py B N) (hoC th sd tp n sc pl pk px py N ls lv lx ly B) 3) : b = hoB th sd tp n sc pl pk px py N ls lv lx ly sp B := by
  rw [Bool.eq_iff_iff, h]
  unfold hoB HPk
  simp only [Bool.and_eq_true, decide_eq_true_eq]
  constructor
  · intro z
    exact ⟨⟨z.1.1, z.1.2 (by omega)⟩, ⟨z.2 0 (by omega), z.2 1 (by omega)⟩, z.2 2 (by omega)⟩
  · intro z
    refine ⟨⟨z.1.1, fun _ => z.1.2⟩, fun j hj => ?_⟩
    rcases (show j = 0 ∨ j = 1 ∨ j = 2 by omega) with rfl | rfl | rfl
    · exact z.2.1.1
    · exact z.2.1.2
    · exact z.2.2
theorem ho_bf {th sd tp : Nat → Int32} {n : Nat} {sc : Int32} {pl : Nat → Nat} {pk px py : Nat → Int32} {N : Nat} {ls : Nat → Nat} {lv lx ly : Nat → Int32} {sp : Int32} {B k : Nat} {b : Bool} (hk : k ≤ 3) (h : b = true ↔ HPk (spB B (fun i => nrM px py sp i N)) (dDE pk px py B N) (hoC th sd tp n sc pl pk px py N ls lv lx ly B) k) (hb : b = false) : b = hoB th sd tp n sc pl pk px py N ls lv lx ly sp B := by
  rw [hb]
  symm
  rw [← Bool.not_eq_true]
  intro z
  have h3 := (ho_b (b := true) (th := th) (sd := sd) (tp := tp) (n := n) (sc := sc) (pl := pl) (pk := pk) (px := px) (py := py) (N := N) (ls := ls) (lv := lv) (lx := lx) (ly := ly) (sp := sp) (B := B))
  unfold hoB at z
  simp only [Bool.and_eq_true, decide_eq_true_eq] at z
  have : b = true := h.mpr ⟨⟨z.1.1, fun _ => z.1.2⟩, fun j hj => by
    rcases (show j = 0 ∨ j = 1 ∨ j = 2 by omega) with rfl | rfl | rfl
    · exact z.2.1.1
    · exact z.2.1.2
    · exact z.2.2⟩
  rw [hb] at this; cases this
theorem leF_f0 {M s : Nat} {ho : Nat → Bool} (h : ¬ s &&& M = s) : leF M ho (s + 1) = leF M ho s := by
  simp only [leF]; rw [decide_eq_false h, Bool.false_and, Bool.false_and]; rfl
theorem hp_t {Q : Nat → Prop} {b : Bool} {j : Nat} (h : b = true) (hb : b = true ↔ ∀ p, p < j → Q p) (hok : Q j) : (true = true ↔ ∀ p, p < j + 1 → Q p) := ⟨fun _ => lt_s (hb.mp h) hok, fun _ => rfl⟩
theorem hp_n {B j : Nat} {q : Nat → Bool} (h : B.testBit j = true) (h2 : q j = true) : (false = true ↔ ∀ p, p < j + 1 → B.testBit p = true → q p = false) := ⟨fun z => (by cases z), fun z => by have := z j (by omega) h; rw [h2] at this; cases this⟩
theorem nI_nm4b {k : Nat} (h : k < 1000000) : ¬ nI k = -4 := by
  intro e
  have := congrArg Int32.toInt e
  rw [nI_toInt (by omega), show ((-4 : Int32)).toInt = -4 from rfl] at this
  omega
