/-! rows for the reference's methods -/
theorem mo_last {n k : Nat} (hn : n ≤ 6) (hk : n = 0 ∧ k = 0 ∨ k < n) (h : nI n - 1 ≤ nI k) : n = 0 ∨ k + 1 = n := by
  rw [zI_nat, zI_nat, show (1 : Int32) = zI 1 from rfl, zI_sub, zI_le (by omega) (by omega) (by omega) (by omega)] at h
  omega
theorem mo_more {n k : Nat} (hn : n ≤ 6) (hk : n = 0 ∧ k = 0 ∨ k < n) (h : ¬ nI n - 1 ≤ nI k) : k + 1 < n := by
  rw [zI_nat, zI_nat, show (1 : Int32) = zI 1 from rfl, zI_sub, zI_le (by omega) (by omega) (by omega) (by omega)] at h
  omega
theorem mo_end {th : Nat → Int32} {n k d : Nat} {u : Int} (h : k + 1 = n) (hk : k + d = n) (hf : gLf th u n 0 = gLf th u d k) : zI (gLI th n u) = nI k := by
  have hd : d = 1 := by omega
  subst hd
  simp only [gLf] at hf
  unfold gLI gL
  rw [if_neg (by omega), zI_nat, hf]
  congr 2
  split <;> omega
theorem inR_has {p : Int32} {n : Nat} (hn : n ≤ 12) : inR p 0 (nI n - 1) = hasB p n := by
  rw [Bool.eq_iff_iff, inR_iff, hasB_iff, zI_nat, show (1 : Int32) = zI 1 from rfl, zI_sub, zI_toInt (by omega) (by omega), Int32.toInt_zero]
  omega
theorem ab_neg {a : Int64} (ha : -9223372036854775808 < a.toInt) (h : ¬ 0 ≤ a) : -a = lN a.toInt.natAbs := by
  have := abs_lN ha
  rw [if_neg (fun z => h (Int64.le_of_lt z))] at this
  exact this
theorem ab_pos {a : Int64} (h : 0 ≤ a) : a = lN a.toInt.natAbs := by
  rw [Int64.le_iff_toInt_le, Int64.toInt_zero] at h
  exact pos_lN h
theorem ws_t {M k : Nat} (hk : k < 12) (h : M.testBit k = true) : nI (M % 2 ^ k) ||| ((1 : Int32) <<< (nI k &&& 31)) = nI (M % 2 ^ (k + 1)) := by
  rw [sh_1 k hk, nI_or]
  congr 1
  apply Nat.eq_of_testBit_eq
  intro i
  rw [Nat.testBit_or, Nat.testBit_mod_two_pow, Nat.testBit_mod_two_pow, Nat.testBit_two_pow]
  by_cases h1 : i = k
  · subst h1; simp [h]
  · by_cases h2 : i < k
    · simp [h2, Nat.lt_succ_of_lt h2, Ne.symm h1]
    · simp [h2, show ¬ i < k + 1 by omega, Ne.symm h1]
theorem ws_f {M k : Nat} (h : M.testBit k = false) : nI (M % 2 ^ k) ||| 0 = nI (M % 2 ^ (k + 1)) := by
  rw [show (0 : Int32) = nI 0 from rfl, nI_or]
  congr 1
  apply Nat.eq_of_testBit_eq
  intro i
  rw [Nat.testBit_or, Nat.testBit_mod_two_pow, Nat.testBit_mod_two_pow]
  by_cases h1 : i = k
  · subst h1; simp [h]
  · by_cases h2 : i < k
    · simp [h2, Nat.lt_succ_of_lt h2]
    · simp [h2, show ¬ i < k + 1 by omega]
theorem bi_s {B k : Nat} : nI (nsum (fun j => if B.testBit j then 1 else 0) k) + bI (B.testBit k) = nI (nsum (fun j => if B.testBit j then 1 else 0) (k + 1)) := by
  simp only [nsum]
  cases B.testBit k
  · show _ + nI 0 = _
    rw [nI_add]; rfl
  · show _ + nI 1 = _
    rw [nI_add]; rfl
theorem ct_t {M k : Nat} (h : M.testBit k = true) : nI (nsum (fun j => if M.testBit j then 1 else 0) k) + 1 = nI (nsum (fun j => if M.testBit j then 1 else 0) (k + 1)) := by
  have := bi_s (B := M) (k := k); rw [h] at this; exact this
theorem ct_f {M k : Nat} (h : M.testBit k = false) : nI (nsum (fun j => if M.testBit j then 1 else 0) k) + 0 = nI (nsum (fun j => if M.testBit j then 1 else 0) (k + 1)) := by
  have := bi_s (B := M) (k := k); rw [h] at this; exact this
theorem popc_N {M N : Nat} (hM : M < 2 ^ N) (hN : N ≤ 12) : nI (popc M) = nI (nsum (fun j => if M.testBit j then 1 else 0) N) := by
  congr 1
  unfold popc
  have : ∀ d, N + d ≤ 12 → nsum (fun j => if M.testBit j then 1 else 0) (N + d) = nsum (fun j => if M.testBit j then 1 else 0) N := by
    intro d
    induction d with
    | zero => intro _; rfl
    | succ d ih =>
      intro h
      rw [← Nat.add_assoc]
      simp only [nsum]
      rw [ih (by omega), Nat.testBit_lt_two_pow (Nat.lt_of_lt_of_le hM (Nat.pow_le_pow_right (by omega) (by omega)))]
      rfl
  have h2 := this (12 - N) (by omega)
  rw [show N + (12 - N) = 12 by omega] at h2
  exact h2
theorem upd_self {f : Nat → Int32} {k : Nat} : upd f k (f k) = f := by
  funext j
  by_cases h : j = k
  · subst h; simp [upd]
  · simp [upd, h]
theorem wh_1 {w : Int32} (h : inR w 0 1 = true) (h0 : ¬ w = 0) : w = 1 := by
  have h1 := inR_iff.mp h
  rw [show (1 : Int32).toInt = 1 from rfl, Int32.toInt_zero] at h1
  have h2 : ¬ w.toInt = 0 := fun q => h0 (Int32.toInt_inj.mp (by rw [q]; rfl))
  exact Int32.toInt_inj.mp (by rw [show (1 : Int32).toInt = 1 from rfl]; omega)
theorem wh_set {M k : Nat} {v : Bool} : upd (fun i => bI (M.testBit i)) k (bI v) = fun i => bI ((mset M k v).testBit i) := by
  funext j
  rw [mset_bit]
  by_cases h : j = k
  · subst h; simp [upd]
  · simp [upd, h, Ne.symm h]
theorem bI_narv (b : Bool) : vp_nar .boolean (bI b) = bI b := by cases b <;> rfl
theorem ix6 {k i : Nat} : 6 * nI k + nI i = nI (6 * k + i) := by rw [show (6 : Int32) = nI 6 from rfl, pk_mul, nI_add]
theorem nr6 {w : Int32} (h : inR w 0 6 = false) : w.toInt < 0 ∨ 6 < w.toInt := by
  have h1 := inR_no.mp h
  rw [show (6 : Int32).toInt = 6 from rfl, Int32.toInt_zero] at h1
  omega
theorem is6 {w : Int32} (h : inR w 0 6 = true) (h2 : w.toInt < 0 ∨ 5 < w.toInt) : w = 6 := by
  have h1 := inR_iff.mp h
  rw [show (6 : Int32).toInt = 6 from rfl, Int32.toInt_zero] at h1
  exact Int32.toInt_inj.mp (by rw [show (6 : Int32).toInt = 6 from rfl]; omega)
theorem ts_5 (x : Int32) : x = 0 ∨ x = 1 ∨ x = 2 ∨ x = 3 ∨ x = 4 ∨ x = 5 ∨ (x.toInt < 0 ∨ 5 < x.toInt) := by
  rcases ts_6 x with q | q | q | q | q | q | q | q
  · simp [q]
  · simp [q]
  · simp [q]
  · simp [q]
  · simp [q]
  · simp [q]
  · subst q; right; right; right; right; right; right; right; decide
  · right; right; right; right; right; right; omega
theorem fChange_bad {p what v : Int32} {th sd tp : Nat → Int32} {n : Nat} {sc sp : Int32} {px py : Nat → Int32} {pl : Nat → Nat} {pk : Nat → Int32} {N M : Nat} {ls : Nat → Nat} {lv lx ly : Nat → Int32} {ab bl : Nat → Int64} {tn : Nat} (h : hasB p n = false ∨ inR what 0 1 = false ∨ ((what = 0 ∧ inR v 0 50 = false) ∨ (¬ what = 0 ∧ inR v 0 1000 = false))) :
    fChange p what v (th, sd, tp, n, sc, sp, px, py, pl, pk, N, M, ls, lv, lx, ly, ab, bl, tn) = (-1, (th, sd, tp, n, sc, sp, px, py, pl, pk, N, M, ls, lv, lx, ly, ab, bl, tn)) := by
  have w0 : inR 0 0 1 = true := by decide
  have w1 : inR 1 0 1 = true := by decide
  simp only [fChange]
  rcases h with h | h | ⟨h1, h2⟩ | ⟨h1, h2⟩
  · rw [if_neg (by simp [h])]
  · split
    · rw [if_neg (fun z => by rw [z.1, w0] at h; cases h), if_neg (fun z => by rw [z.1, w1] at h; cases h)]
    · rfl
  · split
    · rw [if_neg (fun z => by rw [z.2] at h2; cases h2), if_neg (fun z => absurd (h1.symm.trans z.1) (by decide))]
    · rfl
  · split
    · rw [if_neg (fun z => h1 z.1), if_neg (fun z => by rw [z.2] at h2; cases h2)]
    · rfl
theorem fRule_bad {what v : Int32} {th sd tp : Nat → Int32} {n : Nat} {sc sp : Int32} {px py : Nat → Int32} {pl : Nat → Nat} {pk : Nat → Int32} {N M : Nat} {ls : Nat → Nat} {lv lx ly : Nat → Int32} {ab bl : Nat → Int64} {tn : Nat} (h : inR what 0 1 = false ∨ ((what = 0 ∧ inR v 0 20 = false) ∨ (¬ what = 0 ∧ inR v 0 40 = false))) :
    fRule what v (th, sd, tp, n, sc, sp, px, py, pl, pk, N, M, ls, lv, lx, ly, ab, bl, tn) = (-1, (th, sd, tp, n, sc, sp, px, py, pl, pk, N, M, ls, lv, lx, ly, ab, bl, tn)) := by
  have w0 : inR 0 0 1 = true := by decide
  have w1 : inR 1 0 1 = true := by decide
  simp only [fRule]
  rcases h with h | ⟨h1, h2⟩ | ⟨h1, h2⟩
  · rw [if_neg (fun z => by rw [z.1, w0] at h; cases h), if_neg (fun z => by rw [z.1, w1] at h; cases h)]
  · rw [if_neg (fun z => by rw [z.2] at h2; cases h2), if_neg (fun z => absurd (h1.symm.trans z.1) (by decide))]
  · rw [if_neg (fun z => h1 z.1), if_neg (fun z => by rw [z.2] at h2; cases h2)]
theorem so_de (k x y xx xy yy : Int) : k * (xx * yy - xy * xy) - x * (x * yy - xy * y) + y * (x * xy - xx * y) = k * (xx * yy - xy * xy) + x * (y * xy - x * yy) + y * (x * xy - y * xx) := by grind
theorem so_w (a b d k x y xx xy yy : Int) : a * (xx * yy - xy * xy) - x * (b * yy - xy * d) + y * (b * xy - xx * d) = (xx * yy - xy * xy) * a + (y * xy - x * yy) * b + (x * xy - y * xx) * d := by grind
theorem so_p (a b d k x y xx xy yy : Int) : k * (b * yy - xy * d) - a * (x * yy - xy * y) + y * (x * d - b * y) = (y * xy - x * yy) * a + (k * yy - y * y) * b + (x * y - k * xy) * d := by grind
theorem so_q (a b d k x y xx xy yy : Int) : k * (xx * d - b * xy) - x * (x * d - b * y) + a * (x * xy - xx * y) = (x * xy - y * xx) * a + (x * y - k * xy) * b + (k * xx - x * x) * d := by grind
/-- the sums' determinant is never below 0: the quadratic forms of the matrix and of its adjoint aren't -/
def Qf (k x y xx xy yy a b c : Int) : Int := a * (a * k + b * x + c * y) + b * (a * x + b * xx + c * xy) + c * (a * y + b * xy + c * yy)
def Rf (k x y xx xy yy a b c : Int) : Int := a * (a * (xx * yy - xy * xy) + b * (y * xy - x * yy) + c * (x * xy - y * xx)) + b * (a * (y * xy - x * yy) + b * (k * yy - y * y) + c * (x * y - k * xy)) + c * (a * (x * xy - y * xx) + b * (x * y - k * xy) + c * (k * xx - x * x))
def Df (k x y xx xy yy : Int) : Int := k * (xx * yy - xy * xy) + x * (y * xy - x * yy) + y * (x * xy - y * xx)
theorem Qf_add (k x y xx xy yy a b c w p q : Int) : Qf (k + w) (x + w * p) (y + w * q) (xx + w * p * p) (xy + w * p * q) (yy + w * q * q) a b c = Qf k x y xx xy yy a b c + w * ((a + b * p + c * q) * (a + b * p + c * q)) := by unfold Qf; grind
theorem Rf_add (k x y xx xy yy a b c w p q : Int) : Rf (k + w) (x + w * p) (y + w * q) (xx + w * p * p) (xy + w * p * q) (yy + w * q * q) a b c = Rf k x y xx xy yy a b c + w * Qf k x y xx xy yy (p * c - q * b) (q * a - c) (b - p * a) := by unfold Rf Qf; grind
theorem Df_add (k x y xx xy yy w p q : Int) : Df (k + w) (x + w * p) (y + w * q) (xx + w * p * p) (xy + w * p * q) (yy + w * q * q) = Df k x y xx xy yy + w * Rf k x y xx xy yy 1 p q := by unfold Df Rf; grind
theorem sq_nn (x : Int) : 0 ≤ x * x := by
  rcases Int.le_total 0 x with h | h
  · exact Int.mul_nonneg h h
  · have h2 := Int.mul_nonneg (a := -x) (b := -x) (by omega) (by omega)
    rw [Int.neg_mul_neg] at h2
    exact h2
theorem psd {pk px py : Nat → Int32} {B : Nat} : ∀ {n : Nat}, (∀ i, i < n → 0 ≤ (pk i).toInt) →
    (∀ a b c, 0 ≤ Qf (sm B (fK pk) n) (sm B (fKX pk px) n) (sm B (fKX pk py) n) (sm B (fKXX pk px px) n) (sm B (fKXX pk px py) n) (sm B (fKXX pk py py) n) a b c) ∧
    (∀ a b c, 0 ≤ Rf (sm B (fK pk) n) (sm B (fKX pk px) n) (sm B (fKX pk py) n) (sm B (fKXX pk px px) n) (sm B (fKXX pk px py) n) (sm B (fKXX pk py py) n) a b c) ∧
    0 ≤ Df (sm B (fK pk) n) (sm B (fKX pk px) n) (sm B (fKX pk py) n) (sm B (fKXX pk px px) n) (sm B (fKXX pk px py) n) (sm B (fKXX pk py py) n)
  | 0, _ => by
    refine ⟨fun a b c => ?_, fun a b c => ?_, ?_⟩ <;> simp [Qf, Rf, Df, sm]
  | n + 1, h => by
    obtain ⟨h1, h2, h3⟩ := psd (pk := pk) (px := px) (py := py) (B := B) (n := n) (fun i hi => h i (by omega))
    have hw := h n (by omega)
    cases hb : B.testBit n
    · simp only [sm_f hb]
      exact ⟨h1, h2, h3⟩
    · simp only [sm_t hb]
      refine ⟨fun a b c => ?_, fun a b c => ?_, ?_⟩
      · rw [show (fK pk n) = (pk n).toInt from rfl, show fKX pk px n = (pk n).toInt * (px n).toInt from rfl, show fKX pk py n = (pk n).toInt * (py n).toInt from rfl, show fKXX pk px px n = (pk n).toInt * (px n).toInt * (px n).toInt from rfl, show fKXX pk px py n = (pk n).toInt * (px n).toInt * (py n).toInt from rfl, show fKXX pk py py n = (pk n).toInt * (py n).toInt * (py n).toInt from rfl, Qf_add]
        exact Int.add_nonneg (h1 a b c) (Int.mul_nonneg hw (sq_nn _))
      · rw [show (fK pk n) = (pk n).toInt from rfl, show fKX pk px n = (pk n).toInt * (px n).toInt from rfl, show fKX pk py n = (pk n).toInt * (py n).toInt from rfl, show fKXX pk px px n = (pk n).toInt * (px n).toInt * (px n).toInt from rfl, show fKXX pk px py n = (pk n).toInt * (px n).toInt * (py n).toInt from rfl, show fKXX pk py py n = (pk n).toInt * (py n).toInt * (py n).toInt from rfl, Rf_add]
        exact Int.add_nonneg (h2 a b c) (Int.mul_nonneg hw (h1 _ _ _))
      · rw [show (fK pk n) = (pk n).toInt from rfl, show fKX pk px n = (pk n).toInt * (px n).toInt from rfl, show fKX pk py n = (pk n).toInt * (py n).toInt from rfl, show fKXX pk px px n = (pk n).toInt * (px n).toInt * (px n).toInt from rfl, show fKXX pk px py n = (pk n).toInt * (px n).toInt * (py n).toInt from rfl, show fKXX pk py py n = (pk n).toInt * (py n).toInt * (py n).toInt from rfl, Df_add]
        exact Int.add_nonneg h3 (Int.mul_nonneg hw (h2 _ _ _))
theorem dDE_nn {px py : Nat → Int32} {pl : Nat → Nat} {pk : Nat → Int32} {N : Nat} (P : POK px py pl pk N) (B : Nat) : 0 ≤ dDE pk px py B N :=
  (psd (pk := pk) (px := px) (py := py) (B := B) (n := N) (fun i hi => by have := P.2.2.2.2 i hi; omega)).2.2
theorem ovK_iff {th sd tp : Nat → Int32} {n : Nat} {sc : Int32} {pl : Nat → Nat} {de s : Int} {k : Nat} (h1 : 0 ≤ gBE th sd tp n sc (pl k)) (h2 : 0 ≤ gPU th sd n sc (pl k)) (hd : 0 ≤ de) : ovK th sd tp n sc pl de s k = true ↔ (gBE th sd tp n sc (pl k) * de < s ∨ s < -gPU th sd n sc (pl k) * de) := by
  have a1 := Int.mul_nonneg h1 hd
  have a2 := Int.mul_nonneg h2 hd
  unfold ovK liI
  rw [decide_eq_true_eq, Int.neg_mul]
  split <;> omega
theorem or_0 {x : Nat} : nI x ||| 0 = nI x := by rw [show (0 : Int32) = nI 0 from rfl, nI_or, Nat.or_zero]
theorem lt_of_cmp {a b c d : Nat} {v : Int32} (h : cmpF a b c d = v) : bI (decide (a * d < c * b)) = bI (decide (v < 0)) := by
  subst h
  congr 1
  exact decide_eq_decide.mpr cmpF_neg.symm
theorem sgn_lt {r u : Nat} : decide ((if r < u then (-1 : Int32) else if r = u then 0 else 1) < 0) = decide (r < u) := by
  by_cases h : r < u
  · rw [if_pos h, decide_eq_true h]; rfl
  · rw [if_neg h, decide_eq_false h]
    by_cases h2 : r = u
    · rw [if_pos h2]; rfl
    · rw [if_neg h2]; rfl
theorem lN_rem {x y : Nat} : lN x - lN (x / y) * lN y = lN (x % y) := by
  rw [lN_mul, lN_sub (Nat.div_mul_le_self x y)]
  congr 1
  have := Nat.div_add_mod x y
  rw [Nat.mul_comm] at this
  omega
theorem lz_eq {x : Nat} (hx : x < 2 ^ 63) (h : lN x = 0) : x = 0 := (pk_lEQ (b := 0) hx (by omega)).mp h
theorem lz_ne {x : Nat} (h : ¬ lN x = 0) : x ≠ 0 := fun q => h (by rw [q]; rfl)
def enMo (sh : Nat → Int) (li : Int → Nat → Int) : Option Nat → Nat
  | none => 1
  | some j => (li (sh j) j).toNat
def enGe (sh : Nat → Int) : Option Nat → Nat
  | none => 1
  | some j => (sh j).natAbs
theorem li_b {th sd tp : Nat → Int32} {n : Nat} {sc : Int32} (G : GOK th sd tp n sc) {px py : Nat → Int32} {pl : Nat → Nat} {pk : Nat → Int32} {N : Nat} (P : POK px py pl pk N) {k : Nat} (hk : k < N) {s : Int} (h : 0 < s) : (zI (gBE th sd tp n sc (pl k))).toInt64 = lN (liI th sd tp n sc pl s k).toNat := by
  have h1 := li_rng G P hk s
  have h2 := gBE_rng G (pl k) (P.2.2.2.1 k hk).2
  rw [← zL_lN h1.1, zI_i2l (by omega) (by omega)]
  unfold liI
  rw [if_pos h]
theorem li_p {th sd tp : Nat → Int32} {n : Nat} {sc : Int32} (G : GOK th sd tp n sc) {px py : Nat → Int32} {pl : Nat → Nat} {pk : Nat → Int32} {N : Nat} (P : POK px py pl pk N) {k : Nat} (hk : k < N) {s : Int} (h : ¬ 0 < s) : (zI (gPU th sd n sc (pl k))).toInt64 = lN (liI th sd tp n sc pl s k).toNat := by
  have h1 := li_rng G P hk s
  have h2 := gPU_rng G (pl k)
  have h3 := P.2.2.2.1 k hk
  rw [← zL_lN h1.1, zI_i2l (by omega) (by omega)]
  unfold liI
  rw [if_neg h]
theorem ab_n {s : Int} (h : ¬ 0 ≤ s) : -zL s = lN s.natAbs := by rw [zL_neg, ← zL_lN2]; congr 1; omega
theorem ab_p {s : Int} (h : 0 ≤ s) : zL s = lN s.natAbs := by rw [← zL_lN2]; congr 1; omega
theorem en_dec {a b : Int} {c d : Nat} (ha : 0 ≤ a) (hb : 0 ≤ b) : decide (a.toNat * d < b.toNat * c) = decide (a * (d : Int) < b * (c : Int)) := by
  apply decide_eq_decide.mpr
  rw [← cmpF_neg]
  exact en_cmp ha hb
theorem dvF_stop {be e : Int} {d k : Nat} {lf : Int} (h : ¬ lf < be) : dvF be e d k lf = (k, lf) := by
  cases d with
  | zero => rfl
  | succ d => simp only [dvF]; rw [if_neg h]
theorem and_not {s M : Nat} (hs : s < 4096) (hM : M < 4096) : nI s &&& (nI M ^^^ (-1)) = 0 ↔ s &&& M = s := by
  rw [show (-1 : Int32) = nI (2 ^ 32 - 1) from rfl, nI_xor, nI_and, show (0 : Int32) = nI 0 from rfl]
  have hle : s &&& (M ^^^ (2 ^ 32 - 1)) ≤ s := Nat.and_le_left
  rw [nI_eq (by omega) (by omega)]
  have hbit : ∀ i, (s &&& (M ^^^ (2 ^ 32 - 1))).testBit i = (s.testBit i && !M.testBit i) := by
    intro i
    rw [Nat.testBit_and, Nat.testBit_xor, Nat.testBit_two_pow_sub_one]
    by_cases hi : i < 32
    · simp [hi]
    · have : s.testBit i = false := Nat.testBit_lt_two_pow (Nat.lt_of_lt_of_le hs (by
        have : 2 ^ 12 ≤ 2 ^ i := Nat.pow_le_pow_right (by omega) (by omega)
        omega))
      simp [this]
  constructor
  · intro h
    apply Nat.eq_of_testBit_eq
    intro i
    have h1 := hbit i
    rw [h, Nat.zero_testBit] at h1
    rw [Nat.testBit_and]
    revert h1
    cases s.testBit i <;> cases M.testBit i <;> simp
  · intro h
    apply Nat.eq_of_testBit_eq
    intro i
    rw [hbit, Nat.zero_testBit]
    have h1 := congrArg (fun z => z.testBit i) h
    simp only [Nat.testBit_and] at h1
    revert h1
    cases s.testBit i <;> cases M.testBit i <;> simp
def okP (px py : Nat → Int32) (sp : Int32) (B p q : Nat) : Bool := !(B.testBit p && (B.testBit q && tooNear px py sp p q))
theorem tooNear_sym {px py : Nat → Int32} {sp : Int32} {i j : Nat} : tooNear px py sp i j = tooNear px py sp j i := by
  unfold tooNear
  congr 1
  · exact decide_eq_decide.mpr ⟨fun h q => h q.symm, fun h q => h q.symm⟩
  · refine decide_eq_decide.mpr ?_
    have e1 : ((px i).toInt - (px j).toInt) * ((px i).toInt - (px j).toInt) = ((px j).toInt - (px i).toInt) * ((px j).toInt - (px i).toInt) := by grind
    have e2 : ((py i).toInt - (py j).toInt) * ((py i).toInt - (py j).toInt) = ((py j).toInt - (py i).toInt) * ((py j).toInt - (py i).toInt) := by grind
    rw [e1, e2]
theorem nrM_bit {px py : Nat → Int32} {sp : Int32} {i : Nat} : ∀ n j, (nrM px py sp i n).testBit j = (decide (j < n) && tooNear px py sp i j)
  | 0, j => by simp [nrM]
  | n + 1, j => by
    have ih := nrM_bit (px := px) (py := py) (sp := sp) (i := i) n j
    cases h : tooNear px py sp i n
    · rw [nrM_f h, ih]
      by_cases hj : j = n
      · subst hj; simp [h]
      · by_cases h2 : j < n
        · simp [h2, Nat.lt_succ_of_lt h2]
        · simp [h2, show ¬ j < n + 1 by omega]
    · rw [nrM_t h, Nat.testBit_or, ih, Nat.testBit_two_pow]
      by_cases hj : j = n
      · subst hj; simp [h]
      · by_cases h2 : j < n
        · simp [h2, Nat.lt_succ_of_lt h2, Ne.symm hj]
        · simp [h2, show ¬ j < n + 1 by omega, Ne.symm hj]
theorem spB_ok {px py : Nat → Int32} {sp : Int32} {B N : Nat} (hB : B < 2 ^ N) (hN : N ≤ 12) : spB B (fun i => nrM px py sp i N) = true ↔ ∀ p q, q < p → p < N → okP px py sp B p q = true := by
  rw [spB_iff]
  constructor
  · intro h p q hqp hpN
    unfold okP
    cases hp : B.testBit p
    · rfl
    · cases hq : B.testBit q
      · rfl
      · have h1 := congrArg (fun z => z.testBit q) (h p (by omega) hp)
        simp only [Nat.testBit_and, nrM_bit, hq, Nat.zero_testBit, Bool.true_and, decide_eq_true (show q < N by omega)] at h1
        rw [h1]; rfl
  · intro h k hk hb
    apply Nat.eq_of_testBit_eq
    intro j
    rw [Nat.testBit_and, nrM_bit, Nat.zero_testBit]
    cases hj : B.testBit j
    · rfl
    · have hjN := bit_lt hB hj
      have hkN := bit_lt hB hb
      rw [decide_eq_true hjN, Bool.true_and, Bool.true_and]
      rcases Nat.lt_trichotomy j k with q | q | q
      · have := h k j q hkN
        unfold okP at this
        rw [hb, hj] at this
        simpa using this
      · exact near_same q.symm
      · have := h j k q hjN
        unfold okP at this
        rw [hb, hj] at this
        rw [tooNear_sym]
        simpa using this
