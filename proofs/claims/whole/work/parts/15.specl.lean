/-! rows about the state's words -/
theorem len_ex {L : Int32} (h : inR L 1 100 = true) : ∃ k : Nat, 1 ≤ k ∧ k ≤ 100 ∧ L = nI k := by
  have h1 := inR_iff.mp h
  rw [show (100 : Int32).toInt = 100 from rfl, show (1 : Int32).toInt = 1 from rfl] at h1
  exact ⟨L.toInt.toNat, by omega, by omega, by rw [zI_nat, Int.toNat_of_nonneg (by omega), zI_as]⟩
theorem case_ex {c : Int32} (h : inR c 0 2 = true) : ∃ k : Nat, k < 3 ∧ c = nI k := by
  have h1 := inR_iff.mp h
  rw [show (2 : Int32).toInt = 2 from rfl, show (0 : Int32).toInt = 0 from rfl] at h1
  exact ⟨c.toInt.toNat, by omega, by rw [zI_nat, Int.toNat_of_nonneg h1.1, zI_as]⟩
theorem num_ex {i : Int32} {n : Nat} (hn : n < 1000) (h1 : ¬ i < 0) (h2 : i < nI n) : ∃ k : Nat, k < n ∧ i = nI k := by
  rw [Int32.lt_iff_toInt_lt, Int32.toInt_zero] at h1
  rw [Int32.lt_iff_toInt_lt, nI_toInt (by omega)] at h2
  exact ⟨i.toInt.toNat, by omega, by rw [zI_nat, Int.toNat_of_nonneg (by omega), zI_as]⟩
theorem out_ne {x k : Int32} {lo hi : Int} (h : x.toInt < lo ∨ hi < x.toInt) (hk : lo ≤ k.toInt ∧ k.toInt ≤ hi) : x ≠ k := by
  intro e
  subst e
  omega
theorem ab_no {x : Int32} (h : x.toInt < 0 ∨ 6 < x.toInt) : x ≠ 0 ∧ x ≠ 1 ∧ x ≠ 2 ∧ x ≠ 3 ∧ x ≠ 4 ∧ x ≠ 5 ∧ x ≠ 6 := ⟨out_ne h (by decide), out_ne h (by decide), out_ne h (by decide), out_ne h (by decide), out_ne h (by decide), out_ne h (by decide), out_ne h (by decide)⟩
theorem ct_no {x : Int32} (h : x.toInt < 0 ∨ 3 < x.toInt) : x ≠ 0 ∧ x ≠ 1 ∧ x ≠ 2 ∧ x ≠ 3 := ⟨out_ne h (by decide), out_ne h (by decide), out_ne h (by decide), out_ne h (by decide)⟩
theorem isum_cong {f g : Nat → Int} : ∀ {n : Nat}, (∀ i, i < n → f i = g i) → isum f n = isum g n
  | 0, _ => rfl
  | n + 1, h => by
    simp only [isum]
    rw [isum_cong (fun i hi => h i (by omega)), h n (by omega)]
theorem fs_gen (ls : Nat → Nat) (hls : ∀ i, ls i ≤ 6) {k : Nat} (hk : ¬ ls k = 6) (f g : Nat → Int) (v : Int) (hn : g (6 * k + ls k) = v) (ho : ∀ j, j ≠ 6 * k + ls k → g j = f j) : updZ (fun c => isum (fun j => f (6 * c + j)) (ls c)) k (isum (fun j => f (6 * k + j)) (ls k) + v) = fun c => isum (fun j => g (6 * c + j)) (updN ls k (ls k + 1) c) := by
  funext c
  by_cases h : c = k
  · subst h
    simp only [updZ, updN, if_true, isum]
    rw [hn, isum_cong (fun i hi => (ho (6 * c + i) (by omega)).symm)]
  · simp only [updZ, updN, if_neg h]
    refine isum_cong (fun i hi => (ho (6 * c + i) ?_).symm)
    have h1 := hls c
    have h2 := hls k
    omega
theorem fs_add {ls : Nat → Nat} (hls : ∀ i, ls i ≤ 6) {k : Nat} (hk : ¬ ls k = 6) {lv : Nat → Int32} {v : Int32} : updZ (fsum ls lv) k (fsum ls lv k + v.toInt) = fsum (updN ls k (ls k + 1)) (upd lv (6 * k + ls k) v) :=
  fs_gen ls hls hk (fun j => (lv j).toInt) (fun j => (upd lv (6 * k + ls k) v j).toInt) v.toInt (by simp [upd]) (fun j hj => by simp [upd, hj])
theorem fs_add2 {ls : Nat → Nat} (hls : ∀ i, ls i ≤ 6) {k : Nat} (hk : ¬ ls k = 6) {lv lx : Nat → Int32} {v x : Int32} : updZ (fsum2 ls lv lx) k (fsum2 ls lv lx k + v.toInt * x.toInt) = fsum2 (updN ls k (ls k + 1)) (upd lv (6 * k + ls k) v) (upd lx (6 * k + ls k) x) :=
  fs_gen ls hls hk (fun j => (lv j).toInt * (lx j).toInt) (fun j => (upd lv (6 * k + ls k) v j).toInt * (upd lx (6 * k + ls k) x j).toInt) (v.toInt * x.toInt) (by simp [upd]) (fun j hj => by simp [upd, hj])
theorem fs_clr {ls : Nat → Nat} {k : Nat} {lv : Nat → Int32} : updZ (fsum ls lv) k 0 = fsum (updN ls k 0) lv := by
  funext c
  by_cases h : c = k <;> simp [updZ, updN, fsum, isum, h]
theorem fs_clr2 {ls : Nat → Nat} {k : Nat} {lv lx : Nat → Int32} : updZ (fsum2 ls lv lx) k 0 = fsum2 (updN ls k 0) lv lx := by
  funext c
  by_cases h : c = k <;> simp [updZ, updN, fsum2, isum, h]
theorem isum_rng {f : Nat → Int} {c : Int} (hc : 0 ≤ c) : ∀ {n : Nat}, (∀ i, i < n → -c ≤ f i ∧ f i ≤ c) → -(c * n) ≤ isum f n ∧ isum f n ≤ c * n
  | 0, _ => by simp [isum]
  | n + 1, h => by
    have h1 := isum_rng hc (n := n) (fun i hi => h i (by omega))
    have h2 := h n (by omega)
    have e : c * ((n + 1 : Nat) : Int) = c * n + c := by rw [Int.natCast_add, Int.mul_add]; simp
    rw [e]
    simp only [isum]
    omega
theorem fs_rng {ls : Nat → Nat} {lv lx : Nat → Int32} (hls : ∀ i, ls i ≤ 6) (hv : ∀ i, -500 ≤ (lv i).toInt ∧ (lv i).toInt ≤ 500) (hx : ∀ i, -20 ≤ (lx i).toInt ∧ (lx i).toInt ≤ 20) (c : Nat) : (-3000 ≤ fsum ls lv c ∧ fsum ls lv c ≤ 3000) ∧ (-60000 ≤ fsum2 ls lv lx c ∧ fsum2 ls lv lx c ≤ 60000) := by
  have h1 := isum_rng (f := fun j => (lv (6 * c + j)).toInt) (c := 500) (by omega) (n := ls c) (fun i _ => hv _)
  have h2 := isum_rng (f := fun j => (lv (6 * c + j)).toInt * (lx (6 * c + j)).toInt) (c := 10000) (by omega) (n := ls c) (fun i _ => mul_rng (A := 500) (B := 20) (hv _) (hx _))
  have h3 := hls c
  unfold fsum fsum2
  omega
theorem shB_rng {px py : Nat → Int32} {pl : Nat → Nat} {pk : Nat → Int32} {N : Nat} (P : POK px py pl pk N) {ls : Nat → Nat} {lv lx ly : Nat → Int32} (hls : ∀ i, ls i ≤ 6) (hv : ∀ i, -500 ≤ (lv i).toInt ∧ (lv i).toInt ≤ 500) (hx : ∀ i, -20 ≤ (lx i).toInt ∧ (lx i).toInt ≤ 20) (hy : ∀ i, -20 ≤ (ly i).toInt ∧ (ly i).toInt ≤ 20) (B c : Nat) :
    (-200000000000000 ≤ cWi pk px py B N ls lv lx ly c ∧ cWi pk px py B N ls lv lx ly c ≤ 200000000000000) ∧ (-10000000000000 ≤ cPi pk px py B N ls lv lx ly c ∧ cPi pk px py B N ls lv lx ly c ≤ 10000000000000) ∧ (-10000000000000 ≤ cQi pk px py B N ls lv lx ly c ∧ cQi pk px py B N ls lv lx ly c ≤ 10000000000000) ∧ (∀ k, k < N → -100000000000000000 ≤ shB pk px py B N ls lv lx ly c k ∧ shB pk px py B N ls lv lx ly c k ≤ 100000000000000000) := by
  obtain ⟨d1, d2, d3, d4, d5, d6, -⟩ := d_rng P B
  have f1 := fs_rng hls hv hx c
  have f2 := fs_rng hls hv hy c
  have e1 : -200000000000000 ≤ cWi pk px py B N ls lv lx ly c ∧ cWi pk px py B N ls lv lx ly c ≤ 200000000000000 := by
    have := add_rng (add_rng (mul_rng d1 f1.1) (mul_rng d2 f1.2)) (mul_rng d3 f2.2)
    unfold cWi; omega
  have e2 : -10000000000000 ≤ cPi pk px py B N ls lv lx ly c ∧ cPi pk px py B N ls lv lx ly c ≤ 10000000000000 := by
    have := add_rng (add_rng (mul_rng d2 f1.1) (mul_rng d4 f1.2)) (mul_rng d5 f2.2)
    unfold cPi; omega
  have e3 : -10000000000000 ≤ cQi pk px py B N ls lv lx ly c ∧ cQi pk px py B N ls lv lx ly c ≤ 10000000000000 := by
    have := add_rng (add_rng (mul_rng d3 f1.1) (mul_rng d5 f1.2)) (mul_rng d6 f2.2)
    unfold cQi; omega
  refine ⟨e1, e2, e3, fun k hk => ?_⟩
  have h9 := mul_rng (pk2 P hk) (add_rng (add_rng e1 (mul_rng e2 (P.2.1 k hk))) (mul_rng e3 (P.2.2.1 k hk)))
  exact ⟨Int.le_trans (by decide) h9.1, Int.le_trans h9.2 (by decide)⟩
theorem li_rng {th sd tp : Nat → Int32} {n : Nat} {sc : Int32} (G : GOK th sd tp n sc) {px py : Nat → Int32} {pl : Nat → Nat} {pk : Nat → Int32} {N : Nat} (P : POK px py pl pk N) {k : Nat} (hk : k < N) (s : Int) : 0 ≤ liI th sd tp n sc pl s k ∧ liI th sd tp n sc pl s k ≤ 6000 := by
  have h1 := gPU_rng G (pl k)
  have h2 := gTI_rng G (pl k)
  have h3 := P.2.2.2.1 k hk
  unfold liI gBE
  split <;> omega
theorem abs_zL {s : Int} (h1 : -1000000000000000000 ≤ s) (h2 : s ≤ 1000000000000000000) : (if 0 < zL s then zL s else -zL s) = zL (s.natAbs : Int) := by
  by_cases q : 0 < s
  · rw [if_pos (by rw [show (0 : Int64) = zL 0 from rfl, zL_lt (by omega) (by omega) (by omega) (by omega)]; exact q)]
    congr 1; omega
  · rw [if_neg (by rw [show (0 : Int64) = zL 0 from rfl, zL_lt (by omega) (by omega) (by omega) (by omega)]; exact q), zL_neg]
    congr 1; omega
theorem li_zL {th sd tp : Nat → Int32} {n : Nat} {sc : Int32} (G : GOK th sd tp n sc) {px py : Nat → Int32} {pl : Nat → Nat} {pk : Nat → Int32} {N : Nat} (P : POK px py pl pk N) {k : Nat} (hk : k < N) {s : Int} (h1 : -1000000000000000000 ≤ s) (h2 : s ≤ 1000000000000000000) {b p : Int32} (hb : b = zI (gBE th sd tp n sc (pl k))) (hp : p = zI (gPU th sd n sc (pl k))) : (if 0 < zL s then b else p).toInt64 = zL (liI th sd tp n sc pl s k) := by
  have h3 := gPU_rng G (pl k)
  have h4 := gTI_rng G (pl k)
  have h5 := P.2.2.2.1 k hk
  unfold liI
  by_cases q : 0 < s
  · rw [if_pos (by rw [show (0 : Int64) = zL 0 from rfl, zL_lt (by omega) (by omega) (by omega) (by omega)]; exact q), if_pos q, hb, zI_i2l (by unfold gBE; omega) (by unfold gBE; omega)]
  · rw [if_neg (by rw [show (0 : Int64) = zL 0 from rfl, zL_lt (by omega) (by omega) (by omega) (by omega)]; exact q), if_neg q, hp, zI_i2l (by omega) (by omega)]
theorem zL_lN {z : Int} (h : 0 ≤ z) : zL z = lN z.toNat := by
  unfold zL lN
  rw [← Int64.ofInt_eq_ofNat, Int.toNat_of_nonneg h]
theorem zL_lN2 (n : Nat) : zL (n : Int) = lN n := by rw [zL_lN (by omega)]; rfl
theorem ovM_t {B k : Nat} {q : Nat → Bool} (h : B.testBit k = true) (h2 : q k = true) : ovM B q (k + 1) = ovM B q k ||| 2 ^ k := by simp only [ovM]; rw [h, h2]; rfl
theorem ovM_f {B k : Nat} {q : Nat → Bool} (h : B.testBit k = false) : ovM B q (k + 1) = ovM B q k := by simp only [ovM]; rw [h]; rfl
theorem ovM_f2 {B k : Nat} {q : Nat → Bool} (h2 : q k = false) : ovM B q (k + 1) = ovM B q k := by simp only [ovM]; rw [h2, Bool.and_false]; rfl
def enI : Option Nat → Int32
  | none => -4
  | some i => nI i
theorem en_cmp {a b : Int} {c d : Nat} (ha : 0 ≤ a) (hb : 0 ≤ b) : cmpF a.toNat c b.toNat d < 0 ↔ a * (d : Int) < b * (c : Int) := by
  rw [cmpF_neg]
  constructor
  · intro h
    have h2 : ((a.toNat * d : Nat) : Int) < ((b.toNat * c : Nat) : Int) := by omega
    rw [Int.natCast_mul, Int.natCast_mul, Int.toNat_of_nonneg ha, Int.toNat_of_nonneg hb] at h2
    exact h2
  · intro h
    have h2 : ((a.toNat * d : Nat) : Int) < ((b.toNat * c : Nat) : Int) := by
      rw [Int.natCast_mul, Int.natCast_mul, Int.toNat_of_nonneg ha, Int.toNat_of_nonneg hb]; exact h
    omega
theorem enF_lt {M : Nat} {sh : Nat → Int} {li : Int → Nat → Int} : ∀ {k i : Nat}, enF M sh li k = some i → i < k ∧ M.testBit i = true ∧ sh i ≠ 0
  | 0, i, h => by simp [enF] at h
  | k + 1, i, h => by
    simp only [enF] at h
    by_cases c : (M.testBit k && decide (sh k ≠ 0) && enT sh li k (enF M sh li k)) = true
    · rw [if_pos c] at h
      cases h
      simp only [Bool.and_eq_true, decide_eq_true_eq] at c
      exact ⟨by omega, c.1.1, c.1.2⟩
    · rw [if_neg c] at h
      have := enF_lt h
      exact ⟨by omega, this.2⟩
theorem enF_t {M k : Nat} {sh : Nat → Int} {li : Int → Nat → Int} (h1 : M.testBit k = true) (h2 : sh k ≠ 0) (h3 : enT sh li k (enF M sh li k) = true) : enF M sh li (k + 1) = some k := by
  simp only [enF]; rw [h1, h3, decide_eq_true h2]; rfl
theorem enF_f1 {M k : Nat} {sh : Nat → Int} {li : Int → Nat → Int} (h1 : M.testBit k = false) : enF M sh li (k + 1) = enF M sh li k := by
  simp only [enF]; rw [h1]; rfl
theorem enF_f2 {M k : Nat} {sh : Nat → Int} {li : Int → Nat → Int} (h2 : sh k = 0) : enF M sh li (k + 1) = enF M sh li k := by
  simp only [enF]; rw [decide_eq_false (by simp [h2]), Bool.and_false]; rfl
theorem enF_f3 {M k : Nat} {sh : Nat → Int} {li : Int → Nat → Int} (h3 : enT sh li k (enF M sh li k) = false) : enF M sh li (k + 1) = enF M sh li k := by
  simp only [enF]; rw [h3, Bool.and_false]; rfl
theorem shE_k {pk px py : Nat → Int32} {M N : Nat} {ls : Nat → Nat} {lv lx ly : Nat → Int32} {c k : Nat} : shE pk px py M N ls lv lx ly c (3 + k) = if M.testBit k then zL (shB pk px py M N ls lv lx ly c k) else 0 := by
  unfold shE
  rw [if_neg (by omega), if_neg (by omega), if_neg (by omega), show 3 + k - 3 = k by omega]
theorem tdA_s {ab en eb : Nat → Int64} {k : Nat} : tdA ab en eb (3 + (k + 1)) = vp_updL (tdA ab en eb (3 + k)) (3 + k) (en (3 + k) / dG (en (3 + k)) (eb (3 + k))) := rfl
theorem tdB_s {bl en eb : Nat → Int64} {k : Nat} : tdB bl en eb (3 + (k + 1)) = vp_updL (tdB bl en eb (3 + k)) (3 + k) (eb (3 + k) / dG (en (3 + k)) (eb (3 + k))) := rfl
theorem fil_P {th sd : Nat → Int32} {n : Nat} {sc : Int32} {pl : Nat → Nat} {f : Nat → Int32} {N : Nat} : ∀ k, k < N → fil (fun i => zI (gPU th sd n sc (pl i))) f N k = zI (gPU th sd n sc (pl k)) := fun k hk => fil_in hk
theorem fil_B {th sd tp : Nat → Int32} {n : Nat} {sc : Int32} {pl : Nat → Nat} {f : Nat → Int32} {N : Nat} : ∀ k, k < N → fil (fun i => zI (gBE th sd tp n sc (pl i))) f N k = zI (gBE th sd tp n sc (pl k)) := fun k hk => fil_in hk
theorem nI_nm4 {k : Nat} (h : k < 1000) : ¬ nI k = -4 := by
  intro e
  have := congrArg Int32.toInt e
  rw [nI_toInt (by omega), show ((-4 : Int32)).toInt = -4 from rfl] at this
  omega
theorem nd24 : decide ([0, 1, 2, 3, 4, 5, 6, 7, 8, 9, 10, 11, 12, 13, 14, 15, 16, 17, 18, 19, 20, 21, 22, 23] : List Nat).Nodup = true := by decide +kernel
theorem vnd24 : va_nd [0, 1, 2, 3, 4, 5, 6, 7, 8, 9, 10, 11, 12, 13, 14, 15, 16, 17, 18, 19, 20, 21, 22, 23] = true := by decide +kernel
theorem nd15 : decide ([0, 1, 2, 3, 4, 5, 6, 7, 8, 9, 10, 11, 12, 13, 14] : List Nat).Nodup = true := by decide +kernel
theorem vnd15 : va_nd [0, 1, 2, 3, 4, 5, 6, 7, 8, 9, 10, 11, 12, 13, 14] = true := by decide +kernel
theorem nd13 : decide ([16, 17, 18, 19, 1, 2, 3, 4, 5, 6, 7, 8, 9] : List Nat).Nodup = true := by decide +kernel
theorem vnd13 : va_nd [16, 17, 18, 19, 1, 2, 3, 4, 5, 6, 7, 8, 9] = true := by decide +kernel
def wlook : List Nat → va_W → Nat → Option (Nat × va_E)
  | i :: is, x :: xs, k => match Nat.beq i k with
    | true => some x
    | false => wlook is xs k
  | _, _, _ => none
def wgo (is : List Nat) (xs : va_W) : Nat → va_W → va_W
  | _, [] => []
  | k, y :: ys => (match wlook is xs k with
    | some x => x
    | none => y) :: wgo is xs (k + 1) ys
theorem wlook_none : ∀ {is : List Nat} {xs : va_W} {k : Nat}, k ∉ is → wlook is xs k = none
  | [], [], _, _ => rfl
  | [], _ :: _, _, _ => rfl
  | _ :: _, [], _, _ => rfl
  | i :: is, x :: xs, k, h => by
    have h1 : Nat.beq i k = false := by
      apply Bool.eq_false_iff.mpr
      intro q
      exact h (by rw [Nat.eq_of_beq_eq_true q]; exact List.mem_cons_self)
    simp only [wlook, h1]
    exact wlook_none (fun q => h (List.mem_cons_of_mem _ q))
theorem wgo_nil : ∀ (ws : va_W) (k : Nat), wgo [] [] k ws = ws
  | [], _ => rfl
  | y :: ys, k => by simp only [wgo, wlook, wgo_nil ys (k + 1)]
theorem wgo_set {is : List Nat} {xs : va_W} {x : Nat × va_E} : ∀ (ws : va_W) (k i : Nat), wlook is xs (k + i) = none → wgo is xs k (ws.set i x) = wgo ((k + i) :: is) (x :: xs) k ws
  | [], _, _, _ => by simp [wgo]
  | y :: ys, k, 0, h => by
    have gen : ∀ (zs : va_W) (j : Nat), k < j → wgo is xs j zs = wgo ((k + 0) :: is) (x :: xs) j zs := by
      intro zs
      induction zs with
      | nil => intro j _; rfl
      | cons z zs ih =>
        intro j hj
        have h1 : Nat.beq (k + 0) j = false := by
          apply Bool.eq_false_iff.mpr
          intro q
          have := Nat.eq_of_beq_eq_true q
          omega
        simp only [wgo, wlook, h1, ih (j + 1) (by omega)]
    have h2 : Nat.beq (k + 0) k = true := Nat.beq_refl k
    have h : wlook is xs k = none := h
    show wgo is xs k (x :: ys) = _
    simp only [wgo, wlook, h2, h]
    rw [gen ys (k + 1) (by omega)]
  | y :: ys, k, i + 1, h => by
    have ih := wgo_set (is := is) (xs := xs) (x := x) ys (k + 1) i (by rw [show k + 1 + i = k + (i + 1) by omega]; exact h)
    have h1 : Nat.beq (k + (i + 1)) k = false := by
      apply Bool.eq_false_iff.mpr
      intro q
      have := Nat.eq_of_beq_eq_true q
      omega
    show (match wlook is xs k with
      | some x => x
      | none => y) :: wgo is xs (k + 1) (ys.set i x) = _
    rw [ih, show k + 1 + i = k + (i + 1) by omega]
    simp only [wgo, wlook, h1]
theorem wset_wgo : ∀ {is : List Nat} {xs ws : va_W}, is.Nodup → is.length = xs.length → wset ws is xs = wgo is xs 0 ws
  | [], [], ws, _, _ => by rw [wgo_nil]; simp [wset]
  | [], _ :: _, _, _, h => by simp at h
  | _ :: _, [], _, _, h => by simp at h
  | i :: is, x :: xs, ws, hn, h => by
    have hn2 := List.nodup_cons.mp hn
    show wset (ws.set i x) is xs = _
    rw [wset_wgo hn2.2 (by simpa using h), wgo_set ws 0 i (by rw [Nat.zero_add]; exact wlook_none hn2.1), Nat.zero_add]
