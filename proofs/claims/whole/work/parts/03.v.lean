/-! The judgement V: a method at a place of its code, its locals listed, its stack, its world; one contract form Ct for all methods; all over one word list. -/
def nestW : Cond → Bool
  | .fieldLinkNest _ _ _ _ _ _ => true
  | .methodLinkNest _ _ _ _ => true
  | _ => false
def ALL : List Cond := lw_tbl.filter goodWord
def NW (U : State) : Prop := ∀ w ∈ lw_tbl, nestW w = true → va_Nw w U
theorem NW.warm {s U : State} (hW : s.WarmedH U.vm) (h : NW s) : NW U := by
  intro w hw hn
  have h1 := h w hw hn
  cases w <;> first | exact va_Nw.warmF hW h1 | exact va_Nw.warmM hW h1 | (simp [nestW] at hn; done)
theorem NW.same {u U : State} (e : u.vm = U.vm) (h : NW u) : NW U := by
  intro w hw hn
  have h1 := h w hw hn
  cases w <;> first | exact va_Nw.same rfl e h1 | (simp [nestW] at hn; done)
theorem ALL_at {w : Cond} (i : Nat) (h : lw_tbl[i]? = some w) (hg : goodWord w = true) : w ∈ ALL := List.mem_filter.mpr ⟨List.mem_of_getElem? h, hg⟩
theorem NWL_at {w : Cond} (i : Nat) (h : lw_tbl[i]? = some w) : w ∈ lw_tbl := List.mem_of_getElem? h
theorem good_ALL {y : MethodName} {cc : ByteArray} {n : Nat} {ret : Option FieldType} (h : Cond.code y cc n ret ∈ ALL) : GoodIn ALL (.code y cc n ret :: ALL) := by
  intro w hw
  rcases List.mem_cons.mp hw with e | e
  · subst e
    exact ⟨h, good_of_word (List.mem_filter.mp h).2⟩
  · exact ⟨e, good_of_word (List.mem_filter.mp e).2⟩
/-- a call's cells put back at their places; what is new behind all -/
def wset : va_W → List Nat → va_W → va_W
  | ws, i :: is, x :: xs => wset (ws.set i x) is xs
  | ws, [], xs => ws ++ xs
  | ws, _ :: _, [] => ws
theorem wset_get : ∀ (is : List Nat) (ws xs : va_W), is.Nodup → is.length ≤ xs.length → ∀ (k : Nat) (q : Nat × va_E), (wset ws is xs)[k]? = some q → (∃ j : Nat, is[j]? = some k ∧ xs[j]? = some q) ∨ (k ∉ is ∧ ws[k]? = some q) ∨ (∃ j : Nat, k = ws.length + j ∧ xs[is.length + j]? = some q) := by
  intro is
  induction is with
  | nil =>
    intro ws xs _ _ k q h
    have h : (ws ++ xs)[k]? = some q := by cases xs <;> exact h
    rcases Nat.lt_or_ge k ws.length with hk | hk
    · rw [List.getElem?_append_left hk] at h
      exact Or.inr (Or.inl ⟨by simp, h⟩)
    · rw [List.getElem?_append_right hk] at h
      exact Or.inr (Or.inr ⟨k - ws.length, by omega, by simpa using h⟩)
  | cons i is ih =>
    intro ws xs hn hl k q h
    cases xs with
    | nil => simp at hl
    | cons x xs =>
      have hn2 := List.nodup_cons.mp hn
      rcases ih (ws.set i x) xs hn2.2 (by simpa using hl) k q h with ⟨j, h1, h2⟩ | ⟨h1, h2⟩ | ⟨j, h1, h2⟩
      · exact Or.inl ⟨j + 1, by simpa using h1, by simpa using h2⟩
      · by_cases hki : k = i
        · subst hki
          have hlt : k < (ws.set k x).length := (List.getElem?_eq_some_iff.mp h2).1
          rw [List.length_set] at hlt
          rw [List.getElem?_set_self hlt] at h2
          exact Or.inl ⟨0, rfl, by simpa using h2⟩
        · rw [List.getElem?_set_ne (fun e => hki e.symm)] at h2
          exact Or.inr (Or.inl ⟨by simp [hki, h1], h2⟩)
      · refine Or.inr (Or.inr ⟨j, by simpa using h1, ?_⟩)
        rw [show (i :: is).length + j = (is.length + j) + 1 by simp; omega]
        simpa using h2
def QW (D : va_G) (w0 : va_W) (sz : Nat) (Q : Option Value → va_W → Prop) : Array Value → State → Outcome → State → Prop := fun _ st oc t => (∃ (r : Option Value) (w1 : va_W), oc = .returned r ∧ Q r w1 ∧ va_P D vwCl w1 t.heap ∧ va_D (va_A w0 sz) w1 ∧ w0.length ≤ w1.length) ∧ va_F (va_A w0 sz) st t
def PW (D : va_G) (tys : List (ClassId × FieldType)) (av : List Value) (w0 : va_W) (sz : Nat) : Array Value → State → Prop := va_Pc av (fun U => U.heap.size = sz ∧ va_P D vwCl w0 U.heap ∧ va_K D vwCl tys U ∧ va_D (fun _ => True) w0 ∧ NW U)
def Ct (l : Launch) (D : va_G) (tys : List (ClassId × FieldType)) (y : MethodName) (cc : ByteArray) (maxL : Nat) (ret : Option FieldType) (fr lo mc ms : Nat) (av : List Value) (w0 : va_W) (Q : Option Value → va_W → Prop) : Prop :=
  ∀ sz : Nat, Met l y (.code y cc maxL ret :: ALL) ({ frames := fr, cells := mc, slots := ms, locals := lo }) (PW D tys av w0 sz) (QW D w0 sz Q) mc ms (va_A w0 sz)
def Fx (p : Program) (s : State) (m : MethodId) (args : Array Value) (c : Code) (cc : ByteArray) (own : String) (D : va_G) (tys : List (ClassId × FieldType)) (A : Nat → Prop) (nL fr lo : Nat) (R : Room) : Prop :=
  p.tables.exec = Jvm.exec ∧ c.code = cc ∧ c.maxLocals = nL ∧ s.vm.findClass own = some m.cls ∧ (∀ w ∈ ALL, w.before args s = true) ∧ NW s ∧ va_K D vwCl tys s ∧ (∀ q, s.heap.size ≤ q → A q) ∧ fr ≤ R.frames ∧ lo ≤ R.locals
def V (p : Program) (l : Launch) (e : Env) (R : Room) (s : State) (m : MethodId) (args : Array Value) (below : List Frame) (meth : Method) (c : Code) (D : va_G) (A : Nat → Prop) (nL cells slots : Nat) (Q : State → Prop) (pc : Nat) (lv : List (Nat × Value)) (st : List Value) (ws : va_W) : Prop :=
  ∀ (H : Heap) (locs : List Loc) (ls : Array Slot), va_P D vwCl ws H → va_D A ws → va_S A s.heap H locs → lv_has ls nL lv → W p l e R s m args below meth c H locs cells slots Q (F0 m pc ls st)
section VS
variable {p : Program} {l : Launch} {e : Env} {R : Room} {s : State} {m : MethodId} {args : Array Value} {below : List Frame} {meth : Method} {c : Code} {D : va_G} {A : Nat → Prop} {nL cells slots : Nat} {Q : State → Prop}
variable {cc : ByteArray} {own : String} {tys : List (ClassId × FieldType)} {fr lo : Nat} {pc q n : Nat} {lv lv' : List (Nat × Value)} {st rest : List Value} {ws ws' : va_W}
theorem v_ws (h : ws = ws') (k : V p l e R s m args below meth c D A nL cells slots Q pc lv st ws') : V p l e R s m args below meth c D A nL cells slots Q pc lv st ws := h ▸ k
theorem v_st {st' : List Value} (h : st = st') (k : V p l e R s m args below meth c D A nL cells slots Q pc lv st' ws) : V p l e R s m args below meth c D A nL cells slots Q pc lv st ws := h ▸ k
theorem v_lv (ks : List Nat) (h : lv_pick lv ks = lv') (k : V p l e R s m args below meth c D A nL cells slots Q pc lv' st ws) : V p l e R s m args below meth c D A nL cells slots Q pc lv st ws := fun H locs ls hP hD hS hl => k H locs ls hP hD hS (lv_sub hl ks h)
theorem v_int {x y : Int32} (h : x = y) (k : V p l e R s m args below meth c D A nL cells slots Q pc lv (.int y :: rest) ws) : V p l e R s m args below meth c D A nL cells slots Q pc lv (.int x :: rest) ws := h ▸ k
theorem v_long {x y : Int64} (h : x = y) (k : V p l e R s m args below meth c D A nL cells slots Q pc lv (.long y :: rest) ws) : V p l e R s m args below meth c D A nL cells slots Q pc lv (.long x :: rest) ws := h ▸ k
theorem v_wide {k2 n2 : Nat} (h1 : cells ≤ k2) (h2 : slots ≤ n2) (k : V p l e R s m args below meth c D A nL k2 n2 Q pc lv st ws) : V p l e R s m args below meth c D A nL cells slots Q pc lv st ws := fun H locs ls hP hD hS hl => W.widen h1 h2 (k H locs ls hP hD hS hl)
--GEN1
theorem v_iconst (F : Fx p s m args c cc own D tys A nL fr lo R) {n : Int} {v : Int32} (hd : decode cc pc = .ok (.iconst n, 1)) (hv : Int32.ofInt n = v) (hq : pc + 1 = q) (k : V p l e R s m args below meth c D A nL cells slots Q q lv (.int v :: st) ws) : V p l e R s m args below meth c D A nL cells slots Q pc lv st ws := by
  subst hq
  exact fun H locs ls hP hD hS hl => lv_iconst F.1 F.2.1 hd hv (k H locs ls hP hD hS hl)
theorem v_bipush (F : Fx p s m args c cc own D tys A nL fr lo R) {n : Int} {v : Int32} (hd : decode cc pc = .ok (.bipush n, 2)) (hv : (Int8.ofInt n).toInt32 = v) (hq : pc + 2 = q) (k : V p l e R s m args below meth c D A nL cells slots Q q lv (.int v :: st) ws) : V p l e R s m args below meth c D A nL cells slots Q pc lv st ws := by
  subst hq
  exact fun H locs ls hP hD hS hl => lv_bipush F.1 F.2.1 hd hv (k H locs ls hP hD hS hl)
theorem v_sipush (F : Fx p s m args c cc own D tys A nL fr lo R) {n : Int} {v : Int32} (hd : decode cc pc = .ok (.sipush n, 3)) (hv : (Int16.ofInt n).toInt32 = v) (hq : pc + 3 = q) (k : V p l e R s m args below meth c D A nL cells slots Q q lv (.int v :: st) ws) : V p l e R s m args below meth c D A nL cells slots Q pc lv st ws := by
  subst hq
  exact fun H locs ls hP hD hS hl => lv_sipush F.1 F.2.1 hd hv (k H locs ls hP hD hS hl)
theorem v_iload_n (F : Fx p s m args c cc own D tys A nL fr lo R) {k0 : Fin 4} {i : Nat} {x : Int32} (hd : decode cc pc = .ok (.iload_n k0, 1)) (hi : (k0 : Nat) = i) (j : Nat) (hj : lv[j]? = some (i, .int x)) (hq : pc + 1 = q) (k : V p l e R s m args below meth c D A nL cells slots Q q lv (.int x :: st) ws) : V p l e R s m args below meth c D A nL cells slots Q pc lv st ws := by
  subst hq
  exact fun H locs ls hP hD hS hl => lv_iload_n F.1 F.2.1 hd hi (lv_at hl j hj) (k H locs ls hP hD hS hl)
theorem v_iload (F : Fx p s m args c cc own D tys A nL fr lo R) {i : Nat} {x : Int32} (hd : decode cc pc = .ok (.iload i, 2)) (j : Nat) (hj : lv[j]? = some (i, .int x)) (hq : pc + 2 = q) (k : V p l e R s m args below meth c D A nL cells slots Q q lv (.int x :: st) ws) : V p l e R s m args below meth c D A nL cells slots Q pc lv st ws := by
  subst hq
  exact fun H locs ls hP hD hS hl => lv_iload F.1 F.2.1 hd (lv_at hl j hj) (k H locs ls hP hD hS hl)
theorem v_lload_n (F : Fx p s m args c cc own D tys A nL fr lo R) {k0 : Fin 4} {i : Nat} {x : Int64} (hd : decode cc pc = .ok (.lload_n k0, 1)) (hi : (k0 : Nat) = i) (j : Nat) (hj : lv[j]? = some (i, .long x)) (hq : pc + 1 = q) (k : V p l e R s m args below meth c D A nL cells slots Q q lv (.long x :: st) ws) : V p l e R s m args below meth c D A nL cells slots Q pc lv st ws := by
  subst hq
  exact fun H locs ls hP hD hS hl => lv_lload_n F.1 F.2.1 hd hi (lv_at hl j hj) (k H locs ls hP hD hS hl)
theorem v_lload (F : Fx p s m args c cc own D tys A nL fr lo R) {i : Nat} {x : Int64} (hd : decode cc pc = .ok (.lload i, 2)) (j : Nat) (hj : lv[j]? = some (i, .long x)) (hq : pc + 2 = q) (k : V p l e R s m args below meth c D A nL cells slots Q q lv (.long x :: st) ws) : V p l e R s m args below meth c D A nL cells slots Q pc lv st ws := by
  subst hq
  exact fun H locs ls hP hD hS hl => lv_lload F.1 F.2.1 hd (lv_at hl j hj) (k H locs ls hP hD hS hl)
theorem v_aload_n (F : Fx p s m args c cc own D tys A nL fr lo R) {k0 : Fin 4} {i : Nat} {x : Nat} (hd : decode cc pc = .ok (.aload_n k0, 1)) (hi : (k0 : Nat) = i) (j : Nat) (hj : lv[j]? = some (i, .ref x)) (hq : pc + 1 = q) (k : V p l e R s m args below meth c D A nL cells slots Q q lv (.ref x :: st) ws) : V p l e R s m args below meth c D A nL cells slots Q pc lv st ws := by
  subst hq
  exact fun H locs ls hP hD hS hl => lv_aload_n F.1 F.2.1 hd hi (lv_at hl j hj) (k H locs ls hP hD hS hl)
theorem v_aload (F : Fx p s m args c cc own D tys A nL fr lo R) {i : Nat} {x : Nat} (hd : decode cc pc = .ok (.aload i, 2)) (j : Nat) (hj : lv[j]? = some (i, .ref x)) (hq : pc + 2 = q) (k : V p l e R s m args below meth c D A nL cells slots Q q lv (.ref x :: st) ws) : V p l e R s m args below meth c D A nL cells slots Q pc lv st ws := by
  subst hq
  exact fun H locs ls hP hD hS hl => lv_aload F.1 F.2.1 hd (lv_at hl j hj) (k H locs ls hP hD hS hl)
theorem v_istore_n (F : Fx p s m args c cc own D tys A nL fr lo R) {k0 : Fin 4} {i : Nat} {x : Int32} (hd : decode cc pc = .ok (.istore_n k0, 1)) (hi : (k0 : Nat) = i) (hn : i < nL) (hl : (i, Value.int x) :: lv.filter (fun q => !(q.1 == i) && !(q.1 + 1 == i && q.2.category == 2)) = lv') (hq : pc + 1 = q) (k : V p l e R s m args below meth c D A nL cells slots Q q lv' st ws) : V p l e R s m args below meth c D A nL cells slots Q pc lv (.int x :: st) ws := by
  subst hq
  exact fun H locs ls hP hD hS h => lv_istore_n F.1 F.2.1 hd hi h hn hl (fun ls' h' => k H locs ls' hP hD hS h')
theorem v_istore (F : Fx p s m args c cc own D tys A nL fr lo R) {i : Nat} {x : Int32} (hd : decode cc pc = .ok (.istore i, 2)) (hn : i < nL) (hl : (i, Value.int x) :: lv.filter (fun q => !(q.1 == i) && !(q.1 + 1 == i && q.2.category == 2)) = lv') (hq : pc + 2 = q) (k : V p l e R s m args below meth c D A nL cells slots Q q lv' st ws) : V p l e R s m args below meth c D A nL cells slots Q pc lv (.int x :: st) ws := by
  subst hq
  exact fun H locs ls hP hD hS h => lv_istore F.1 F.2.1 hd h hn hl (fun ls' h' => k H locs ls' hP hD hS h')
theorem v_lstore_n (F : Fx p s m args c cc own D tys A nL fr lo R) {k0 : Fin 4} {i : Nat} {x : Int64} (hd : decode cc pc = .ok (.lstore_n k0, 1)) (hi : (k0 : Nat) = i) (hn : i + 1 < nL) (hl : (i, Value.long x) :: lv.filter (fun q => !(q.1 == i) && (!(q.1 == i + 1) && !(q.1 + 1 == i && q.2.category == 2))) = lv') (hq : pc + 1 = q) (k : V p l e R s m args below meth c D A nL cells slots Q q lv' st ws) : V p l e R s m args below meth c D A nL cells slots Q pc lv (.long x :: st) ws := by
  subst hq
  exact fun H locs ls hP hD hS h => lv_lstore_n F.1 F.2.1 hd hi h hn hl (fun ls' h' => k H locs ls' hP hD hS h')
theorem v_lstore (F : Fx p s m args c cc own D tys A nL fr lo R) {i : Nat} {x : Int64} (hd : decode cc pc = .ok (.lstore i, 2)) (hn : i + 1 < nL) (hl : (i, Value.long x) :: lv.filter (fun q => !(q.1 == i) && (!(q.1 == i + 1) && !(q.1 + 1 == i && q.2.category == 2))) = lv') (hq : pc + 2 = q) (k : V p l e R s m args below meth c D A nL cells slots Q q lv' st ws) : V p l e R s m args below meth c D A nL cells slots Q pc lv (.long x :: st) ws := by
  subst hq
  exact fun H locs ls hP hD hS h => lv_lstore F.1 F.2.1 hd h hn hl (fun ls' h' => k H locs ls' hP hD hS h')
theorem v_astore_n (F : Fx p s m args c cc own D tys A nL fr lo R) {k0 : Fin 4} {i : Nat} {x : Nat} (hd : decode cc pc = .ok (.astore_n k0, 1)) (hi : (k0 : Nat) = i) (hn : i < nL) (hl : (i, Value.ref x) :: lv.filter (fun q => !(q.1 == i) && !(q.1 + 1 == i && q.2.category == 2)) = lv') (hq : pc + 1 = q) (k : V p l e R s m args below meth c D A nL cells slots Q q lv' st ws) : V p l e R s m args below meth c D A nL cells slots Q pc lv (.ref x :: st) ws := by
  subst hq
  exact fun H locs ls hP hD hS h => lv_astore_n F.1 F.2.1 hd hi h hn hl (fun ls' h' => k H locs ls' hP hD hS h')
theorem v_astore (F : Fx p s m args c cc own D tys A nL fr lo R) {i : Nat} {x : Nat} (hd : decode cc pc = .ok (.astore i, 2)) (hn : i < nL) (hl : (i, Value.ref x) :: lv.filter (fun q => !(q.1 == i) && !(q.1 + 1 == i && q.2.category == 2)) = lv') (hq : pc + 2 = q) (k : V p l e R s m args below meth c D A nL cells slots Q q lv' st ws) : V p l e R s m args below meth c D A nL cells slots Q pc lv (.ref x :: st) ws := by
  subst hq
  exact fun H locs ls hP hD hS h => lv_astore F.1 F.2.1 hd h hn hl (fun ls' h' => k H locs ls' hP hD hS h')
theorem v_iinc (F : Fx p s m args c cc own D tys A nL fr lo R) {i : Nat} {n : Int} {x v : Int32} (hd : decode cc pc = .ok (.iinc i n, 3)) (j : Nat) (hj : lv[j]? = some (i, .int x)) (hv : x + Int32.ofInt n = v) (hn : i < nL) (hl : (i, Value.int v) :: lv.filter (fun q => !(q.1 == i) && !(q.1 + 1 == i && q.2.category == 2)) = lv') (hq : pc + 3 = q) (k : V p l e R s m args below meth c D A nL cells slots Q q lv' st ws) : V p l e R s m args below meth c D A nL cells slots Q pc lv st ws := by
  subst hq
  exact fun H locs ls hP hD hS h => lv_iinc F.1 F.2.1 hd h hj hv hn hl (fun ls' h' => k H locs ls' hP hD hS h')
theorem v_iadd (F : Fx p s m args c cc own D tys A nL fr lo R) {x y : Int32} (hd : decode cc pc = .ok (.iadd, 1)) (hq : pc + 1 = q) (k : V p l e R s m args below meth c D A nL cells slots Q q lv (.int (x + y) :: st) ws) : V p l e R s m args below meth c D A nL cells slots Q pc lv (.int y :: .int x :: st) ws := by
  subst hq
  exact fun H locs ls hP hD hS hl => lv_iadd F.1 F.2.1 hd (k H locs ls hP hD hS hl)
theorem v_isub (F : Fx p s m args c cc own D tys A nL fr lo R) {x y : Int32} (hd : decode cc pc = .ok (.isub, 1)) (hq : pc + 1 = q) (k : V p l e R s m args below meth c D A nL cells slots Q q lv (.int (x - y) :: st) ws) : V p l e R s m args below meth c D A nL cells slots Q pc lv (.int y :: .int x :: st) ws := by
  subst hq
  exact fun H locs ls hP hD hS hl => lv_isub F.1 F.2.1 hd (k H locs ls hP hD hS hl)
theorem v_imul (F : Fx p s m args c cc own D tys A nL fr lo R) {x y : Int32} (hd : decode cc pc = .ok (.imul, 1)) (hq : pc + 1 = q) (k : V p l e R s m args below meth c D A nL cells slots Q q lv (.int (x * y) :: st) ws) : V p l e R s m args below meth c D A nL cells slots Q pc lv (.int y :: .int x :: st) ws := by
  subst hq
  exact fun H locs ls hP hD hS hl => lv_imul F.1 F.2.1 hd (k H locs ls hP hD hS hl)
theorem v_iand (F : Fx p s m args c cc own D tys A nL fr lo R) {x y : Int32} (hd : decode cc pc = .ok (.iand, 1)) (hq : pc + 1 = q) (k : V p l e R s m args below meth c D A nL cells slots Q q lv (.int (x &&& y) :: st) ws) : V p l e R s m args below meth c D A nL cells slots Q pc lv (.int y :: .int x :: st) ws := by
  subst hq
  exact fun H locs ls hP hD hS hl => lv_iand F.1 F.2.1 hd (k H locs ls hP hD hS hl)
theorem v_ior (F : Fx p s m args c cc own D tys A nL fr lo R) {x y : Int32} (hd : decode cc pc = .ok (.ior, 1)) (hq : pc + 1 = q) (k : V p l e R s m args below meth c D A nL cells slots Q q lv (.int (x ||| y) :: st) ws) : V p l e R s m args below meth c D A nL cells slots Q pc lv (.int y :: .int x :: st) ws := by
  subst hq
  exact fun H locs ls hP hD hS hl => lv_ior F.1 F.2.1 hd (k H locs ls hP hD hS hl)
theorem v_ixor (F : Fx p s m args c cc own D tys A nL fr lo R) {x y : Int32} (hd : decode cc pc = .ok (.ixor, 1)) (hq : pc + 1 = q) (k : V p l e R s m args below meth c D A nL cells slots Q q lv (.int (x ^^^ y) :: st) ws) : V p l e R s m args below meth c D A nL cells slots Q pc lv (.int y :: .int x :: st) ws := by
  subst hq
  exact fun H locs ls hP hD hS hl => lv_ixor F.1 F.2.1 hd (k H locs ls hP hD hS hl)
theorem v_ishl (F : Fx p s m args c cc own D tys A nL fr lo R) {x y : Int32} (hd : decode cc pc = .ok (.ishl, 1)) (hq : pc + 1 = q) (k : V p l e R s m args below meth c D A nL cells slots Q q lv (.int (x <<< (y &&& 31)) :: st) ws) : V p l e R s m args below meth c D A nL cells slots Q pc lv (.int y :: .int x :: st) ws := by
  subst hq
  exact fun H locs ls hP hD hS hl => lv_ishl F.1 F.2.1 hd (k H locs ls hP hD hS hl)
theorem v_ishr (F : Fx p s m args c cc own D tys A nL fr lo R) {x y : Int32} (hd : decode cc pc = .ok (.ishr, 1)) (hq : pc + 1 = q) (k : V p l e R s m args below meth c D A nL cells slots Q q lv (.int (x >>> (y &&& 31)) :: st) ws) : V p l e R s m args below meth c D A nL cells slots Q pc lv (.int y :: .int x :: st) ws := by
  subst hq
  exact fun H locs ls hP hD hS hl => lv_ishr F.1 F.2.1 hd (k H locs ls hP hD hS hl)
theorem v_ladd (F : Fx p s m args c cc own D tys A nL fr lo R) {x y : Int64} (hd : decode cc pc = .ok (.ladd, 1)) (hq : pc + 1 = q) (k : V p l e R s m args below meth c D A nL cells slots Q q lv (.long (x + y) :: st) ws) : V p l e R s m args below meth c D A nL cells slots Q pc lv (.long y :: .long x :: st) ws := by
  subst hq
  exact fun H locs ls hP hD hS hl => lv_ladd F.1 F.2.1 hd (k H locs ls hP hD hS hl)
theorem v_lsub (F : Fx p s m args c cc own D tys A nL fr lo R) {x y : Int64} (hd : decode cc pc = .ok (.lsub, 1)) (hq : pc + 1 = q) (k : V p l e R s m args below meth c D A nL cells slots Q q lv (.long (x - y) :: st) ws) : V p l e R s m args below meth c D A nL cells slots Q pc lv (.long y :: .long x :: st) ws := by
  subst hq
  exact fun H locs ls hP hD hS hl => lv_lsub F.1 F.2.1 hd (k H locs ls hP hD hS hl)
theorem v_lmul (F : Fx p s m args c cc own D tys A nL fr lo R) {x y : Int64} (hd : decode cc pc = .ok (.lmul, 1)) (hq : pc + 1 = q) (k : V p l e R s m args below meth c D A nL cells slots Q q lv (.long (x * y) :: st) ws) : V p l e R s m args below meth c D A nL cells slots Q pc lv (.long y :: .long x :: st) ws := by
  subst hq
  exact fun H locs ls hP hD hS hl => lv_lmul F.1 F.2.1 hd (k H locs ls hP hD hS hl)
theorem v_ineg (F : Fx p s m args c cc own D tys A nL fr lo R) {x : Int32} (hd : decode cc pc = .ok (.ineg, 1)) (hq : pc + 1 = q) (k : V p l e R s m args below meth c D A nL cells slots Q q lv (.int (-x) :: st) ws) : V p l e R s m args below meth c D A nL cells slots Q pc lv (.int x :: st) ws := by
  subst hq
  exact fun H locs ls hP hD hS hl => lv_ineg F.1 F.2.1 hd (k H locs ls hP hD hS hl)
theorem v_lneg (F : Fx p s m args c cc own D tys A nL fr lo R) {x : Int64} (hd : decode cc pc = .ok (.lneg, 1)) (hq : pc + 1 = q) (k : V p l e R s m args below meth c D A nL cells slots Q q lv (.long (-x) :: st) ws) : V p l e R s m args below meth c D A nL cells slots Q pc lv (.long x :: st) ws := by
  subst hq
  exact fun H locs ls hP hD hS hl => lv_lneg F.1 F.2.1 hd (k H locs ls hP hD hS hl)
theorem v_i2l (F : Fx p s m args c cc own D tys A nL fr lo R) {x : Int32} (hd : decode cc pc = .ok (.i2l, 1)) (hq : pc + 1 = q) (k : V p l e R s m args below meth c D A nL cells slots Q q lv (.long x.toInt64 :: st) ws) : V p l e R s m args below meth c D A nL cells slots Q pc lv (.int x :: st) ws := by
  subst hq
  exact fun H locs ls hP hD hS hl => lv_i2l F.1 F.2.1 hd rfl (k H locs ls hP hD hS hl)
theorem v_iushr (F : Fx p s m args c cc own D tys A nL fr lo R) {x y v : Int32} (hd : decode cc pc = .ok (.iushr, 1)) (hv : (x.toUInt32 >>> (y.toUInt32 &&& Int32.toUInt32 31)).toInt32 = v) (hq : pc + 1 = q) (k : V p l e R s m args below meth c D A nL cells slots Q q lv (.int v :: st) ws) : V p l e R s m args below meth c D A nL cells slots Q pc lv (.int y :: .int x :: st) ws := by
  subst hq
  exact fun H locs ls hP hD hS hl => lv_iushr F.1 F.2.1 hd hv (k H locs ls hP hD hS hl)
theorem v_lconst (F : Fx p s m args c cc own D tys A nL fr lo R) {n : Fin 2} {v : Int64} (hd : decode cc pc = .ok (.lconst n, 1)) (hv : Int64.ofNat (n : Nat) = v) (hq : pc + 1 = q) (k : V p l e R s m args below meth c D A nL cells slots Q q lv (.long v :: st) ws) : V p l e R s m args below meth c D A nL cells slots Q pc lv st ws := by
  subst hq
  exact fun H locs ls hP hD hS hl => lv_lconst F.1 F.2.1 hd hv (k H locs ls hP hD hS hl)
theorem v_dup (F : Fx p s m args c cc own D tys A nL fr lo R) {va : Value} (hd : decode cc pc = .ok (.dup, 1)) (hc : va.category = 1) (hq : pc + 1 = q) (k : V p l e R s m args below meth c D A nL cells slots Q q lv (va :: va :: st) ws) : V p l e R s m args below meth c D A nL cells slots Q pc lv (va :: st) ws := by
  subst hq
  exact fun H locs ls hP hD hS hl => lv_dup F.1 F.2.1 hd hc (k H locs ls hP hD hS hl)
theorem v_pop (F : Fx p s m args c cc own D tys A nL fr lo R) {va : Value} (hd : decode cc pc = .ok (.pop, 1)) (hc : va.category = 1) (hq : pc + 1 = q) (k : V p l e R s m args below meth c D A nL cells slots Q q lv st ws) : V p l e R s m args below meth c D A nL cells slots Q pc lv (va :: st) ws := by
  subst hq
  exact fun H locs ls hP hD hS hl => lv_pop F.1 F.2.1 hd hc (k H locs ls hP hD hS hl)
theorem v_dup2_11 (F : Fx p s m args c cc own D tys A nL fr lo R) {va vb : Value} (hd : decode cc pc = .ok (.dup2, 1)) (hc : va.category = 1) (hc2 : vb.category = 1) (hq : pc + 1 = q) (k : V p l e R s m args below meth c D A nL cells slots Q q lv (va :: vb :: va :: vb :: st) ws) : V p l e R s m args below meth c D A nL cells slots Q pc lv (va :: vb :: st) ws := by
  subst hq
  exact fun H locs ls hP hD hS hl => lv_dup2_11 F.1 F.2.1 hd hc hc2 (k H locs ls hP hD hS hl)
theorem v_dup_x1 (F : Fx p s m args c cc own D tys A nL fr lo R) {va vb : Value} (hd : decode cc pc = .ok (.dup_x1, 1)) (hc : va.category = 1) (hc2 : vb.category = 1) (hq : pc + 1 = q) (k : V p l e R s m args below meth c D A nL cells slots Q q lv (va :: vb :: va :: st) ws) : V p l e R s m args below meth c D A nL cells slots Q pc lv (va :: vb :: st) ws := by
  subst hq
  exact fun H locs ls hP hD hS hl => lv_dup_x1 F.1 F.2.1 hd hc hc2 (k H locs ls hP hD hS hl)
theorem v_lcmp (F : Fx p s m args c cc own D tys A nL fr lo R) {x y : Int64} (hd : decode cc pc = .ok (.lcmp, 1)) (hq : pc + 1 = q) (k : V p l e R s m args below meth c D A nL cells slots Q q lv (.int (lg_cmp x y) :: st) ws) : V p l e R s m args below meth c D A nL cells slots Q pc lv (.long y :: .long x :: st) ws := by
  subst hq
  exact fun H locs ls hP hD hS hl => W.lcmp F.1 F.2.1 hd (k H locs ls hP hD hS hl)
theorem v_if_eq (F : Fx p s m args c cc own D tys A nL fr lo R) {x : Int32} {off : Int} {tgt : Nat} (hd : decode cc pc = .ok (.ifCond .eq off, 3)) (ht : (pc : Int) + off = (tgt : Int)) (hq : pc + 3 = q) (kt : x = 0 → V p l e R s m args below meth c D A nL cells slots Q tgt lv st ws) (kf : ¬ x = 0 → V p l e R s m args below meth c D A nL cells slots Q q lv st ws) : V p l e R s m args below meth c D A nL cells slots Q pc lv (.int x :: st) ws := by
  subst hq
  exact fun H locs ls hP hD hS hl => lv_if_eq F.1 F.2.1 hd ht (fun z => kt z H locs ls hP hD hS hl) (fun z => kf z H locs ls hP hD hS hl)
theorem v_icmp_eq (F : Fx p s m args c cc own D tys A nL fr lo R) {x y : Int32} {off : Int} {tgt : Nat} (hd : decode cc pc = .ok (.if_icmp .eq off, 3)) (ht : (pc : Int) + off = (tgt : Int)) (hq : pc + 3 = q) (kt : x = y → V p l e R s m args below meth c D A nL cells slots Q tgt lv st ws) (kf : ¬ x = y → V p l e R s m args below meth c D A nL cells slots Q q lv st ws) : V p l e R s m args below meth c D A nL cells slots Q pc lv (.int y :: .int x :: st) ws := by
  subst hq
  exact fun H locs ls hP hD hS hl => lv_icmp_eq F.1 F.2.1 hd ht (fun z => kt z H locs ls hP hD hS hl) (fun z => kf z H locs ls hP hD hS hl)
theorem v_if_ne (F : Fx p s m args c cc own D tys A nL fr lo R) {x : Int32} {off : Int} {tgt : Nat} (hd : decode cc pc = .ok (.ifCond .ne off, 3)) (ht : (pc : Int) + off = (tgt : Int)) (hq : pc + 3 = q) (kt : ¬ x = 0 → V p l e R s m args below meth c D A nL cells slots Q tgt lv st ws) (kf : x = 0 → V p l e R s m args below meth c D A nL cells slots Q q lv st ws) : V p l e R s m args below meth c D A nL cells slots Q pc lv (.int x :: st) ws := by
  subst hq
  exact fun H locs ls hP hD hS hl => lv_if_ne F.1 F.2.1 hd ht (fun z => kt z H locs ls hP hD hS hl) (fun z => kf z H locs ls hP hD hS hl)
theorem v_icmp_ne (F : Fx p s m args c cc own D tys A nL fr lo R) {x y : Int32} {off : Int} {tgt : Nat} (hd : decode cc pc = .ok (.if_icmp .ne off, 3)) (ht : (pc : Int) + off = (tgt : Int)) (hq : pc + 3 = q) (kt : ¬ x = y → V p l e R s m args below meth c D A nL cells slots Q tgt lv st ws) (kf : x = y → V p l e R s m args below meth c D A nL cells slots Q q lv st ws) : V p l e R s m args below meth c D A nL cells slots Q pc lv (.int y :: .int x :: st) ws := by
  subst hq
  exact fun H locs ls hP hD hS hl => lv_icmp_ne F.1 F.2.1 hd ht (fun z => kt z H locs ls hP hD hS hl) (fun z => kf z H locs ls hP hD hS hl)
theorem v_if_lt (F : Fx p s m args c cc own D tys A nL fr lo R) {x : Int32} {off : Int} {tgt : Nat} (hd : decode cc pc = .ok (.ifCond .lt off, 3)) (ht : (pc : Int) + off = (tgt : Int)) (hq : pc + 3 = q) (kt : x < 0 → V p l e R s m args below meth c D A nL cells slots Q tgt lv st ws) (kf : ¬ x < 0 → V p l e R s m args below meth c D A nL cells slots Q q lv st ws) : V p l e R s m args below meth c D A nL cells slots Q pc lv (.int x :: st) ws := by
  subst hq
  exact fun H locs ls hP hD hS hl => lv_if_lt F.1 F.2.1 hd ht (fun z => kt z H locs ls hP hD hS hl) (fun z => kf z H locs ls hP hD hS hl)
theorem v_icmp_lt (F : Fx p s m args c cc own D tys A nL fr lo R) {x y : Int32} {off : Int} {tgt : Nat} (hd : decode cc pc = .ok (.if_icmp .lt off, 3)) (ht : (pc : Int) + off = (tgt : Int)) (hq : pc + 3 = q) (kt : x < y → V p l e R s m args below meth c D A nL cells slots Q tgt lv st ws) (kf : ¬ x < y → V p l e R s m args below meth c D A nL cells slots Q q lv st ws) : V p l e R s m args below meth c D A nL cells slots Q pc lv (.int y :: .int x :: st) ws := by
  subst hq
  exact fun H locs ls hP hD hS hl => lv_icmp_lt F.1 F.2.1 hd ht (fun z => kt z H locs ls hP hD hS hl) (fun z => kf z H locs ls hP hD hS hl)
theorem v_if_ge (F : Fx p s m args c cc own D tys A nL fr lo R) {x : Int32} {off : Int} {tgt : Nat} (hd : decode cc pc = .ok (.ifCond .ge off, 3)) (ht : (pc : Int) + off = (tgt : Int)) (hq : pc + 3 = q) (kt : 0 ≤ x → V p l e R s m args below meth c D A nL cells slots Q tgt lv st ws) (kf : ¬ 0 ≤ x → V p l e R s m args below meth c D A nL cells slots Q q lv st ws) : V p l e R s m args below meth c D A nL cells slots Q pc lv (.int x :: st) ws := by
  subst hq
  exact fun H locs ls hP hD hS hl => lv_if_ge F.1 F.2.1 hd ht (fun z => kt z H locs ls hP hD hS hl) (fun z => kf z H locs ls hP hD hS hl)
theorem v_icmp_ge (F : Fx p s m args c cc own D tys A nL fr lo R) {x y : Int32} {off : Int} {tgt : Nat} (hd : decode cc pc = .ok (.if_icmp .ge off, 3)) (ht : (pc : Int) + off = (tgt : Int)) (hq : pc + 3 = q) (kt : y ≤ x → V p l e R s m args below meth c D A nL cells slots Q tgt lv st ws) (kf : ¬ y ≤ x → V p l e R s m args below meth c D A nL cells slots Q q lv st ws) : V p l e R s m args below meth c D A nL cells slots Q pc lv (.int y :: .int x :: st) ws := by
  subst hq
  exact fun H locs ls hP hD hS hl => lv_icmp_ge F.1 F.2.1 hd ht (fun z => kt z H locs ls hP hD hS hl) (fun z => kf z H locs ls hP hD hS hl)
theorem v_if_gt (F : Fx p s m args c cc own D tys A nL fr lo R) {x : Int32} {off : Int} {tgt : Nat} (hd : decode cc pc = .ok (.ifCond .gt off, 3)) (ht : (pc : Int) + off = (tgt : Int)) (hq : pc + 3 = q) (kt : 0 < x → V p l e R s m args below meth c D A nL cells slots Q tgt lv st ws) (kf : ¬ 0 < x → V p l e R s m args below meth c D A nL cells slots Q q lv st ws) : V p l e R s m args below meth c D A nL cells slots Q pc lv (.int x :: st) ws := by
  subst hq
  exact fun H locs ls hP hD hS hl => lv_if_gt F.1 F.2.1 hd ht (fun z => kt z H locs ls hP hD hS hl) (fun z => kf z H locs ls hP hD hS hl)
theorem v_icmp_gt (F : Fx p s m args c cc own D tys A nL fr lo R) {x y : Int32} {off : Int} {tgt : Nat} (hd : decode cc pc = .ok (.if_icmp .gt off, 3)) (ht : (pc : Int) + off = (tgt : Int)) (hq : pc + 3 = q) (kt : y < x → V p l e R s m args below meth c D A nL cells slots Q tgt lv st ws) (kf : ¬ y < x → V p l e R s m args below meth c D A nL cells slots Q q lv st ws) : V p l e R s m args below meth c D A nL cells slots Q pc lv (.int y :: .int x :: st) ws := by
  subst hq
  exact fun H locs ls hP hD hS hl => lv_icmp_gt F.1 F.2.1 hd ht (fun z => kt z H locs ls hP hD hS hl) (fun z => kf z H locs ls hP hD hS hl)
theorem v_if_le (F : Fx p s m args c cc own D tys A nL fr lo R) {x : Int32} {off : Int} {tgt : Nat} (hd : decode cc pc = .ok (.ifCond .le off, 3)) (ht : (pc : Int) + off = (tgt : Int)) (hq : pc + 3 = q) (kt : x ≤ 0 → V p l e R s m args below meth c D A nL cells slots Q tgt lv st ws) (kf : ¬ x ≤ 0 → V p l e R s m args below meth c D A nL cells slots Q q lv st ws) : V p l e R s m args below meth c D A nL cells slots Q pc lv (.int x :: st) ws := by
  subst hq
  exact fun H locs ls hP hD hS hl => lv_if_le F.1 F.2.1 hd ht (fun z => kt z H locs ls hP hD hS hl) (fun z => kf z H locs ls hP hD hS hl)
theorem v_icmp_le (F : Fx p s m args c cc own D tys A nL fr lo R) {x y : Int32} {off : Int} {tgt : Nat} (hd : decode cc pc = .ok (.if_icmp .le off, 3)) (ht : (pc : Int) + off = (tgt : Int)) (hq : pc + 3 = q) (kt : x ≤ y → V p l e R s m args below meth c D A nL cells slots Q tgt lv st ws) (kf : ¬ x ≤ y → V p l e R s m args below meth c D A nL cells slots Q q lv st ws) : V p l e R s m args below meth c D A nL cells slots Q pc lv (.int y :: .int x :: st) ws := by
  subst hq
  exact fun H locs ls hP hD hS hl => lv_icmp_le F.1 F.2.1 hd ht (fun z => kt z H locs ls hP hD hS hl) (fun z => kf z H locs ls hP hD hS hl)
theorem lgc_eq (x y : Int64) : lg_cmp x y = 0 ↔ x = y := by
  unfold lg_cmp
  by_cases h : x > y
  · rw [if_pos h]; exact ⟨fun z => absurd z (by decide), fun z => by subst z; exact absurd h (by simp [Int64.lt_irrefl])⟩
  · rw [if_neg h]
    by_cases h2 : x = y
    · rw [if_pos h2]; simp [h2]
    · rw [if_neg h2]; exact ⟨fun z => absurd z (by decide), fun z => absurd z h2⟩
theorem lgc_lt (x y : Int64) : lg_cmp x y < 0 ↔ x < y := by
  unfold lg_cmp
  by_cases h : x > y
  · rw [if_pos h]; exact ⟨fun z => absurd z (by decide), fun z => absurd z (by rw [Int64.lt_iff_toInt_lt] at *; have h3 : y.toInt < x.toInt := Int64.lt_iff_toInt_lt.mp h; omega)⟩
  · rw [if_neg h]
    by_cases h2 : x = y
    · rw [if_pos h2]; subst h2; exact ⟨fun z => absurd z (by decide), fun z => absurd z h⟩
    · rw [if_neg h2]; refine ⟨fun _ => ?_, fun _ => by decide⟩
      have h3 : ¬ y.toInt < x.toInt := fun z => h (Int64.lt_iff_toInt_lt.mpr z)
      have h4 : ¬ x.toInt = y.toInt := fun z => h2 (Int64.toInt_inj.mp z)
      exact Int64.lt_iff_toInt_lt.mpr (by omega)
theorem lgc_gt (x y : Int64) : 0 < lg_cmp x y ↔ y < x := by
  unfold lg_cmp
  by_cases h : x > y
  · rw [if_pos h]; exact ⟨fun _ => h, fun _ => by decide⟩
  · rw [if_neg h]
    by_cases h2 : x = y
    · rw [if_pos h2]; exact ⟨fun z => absurd z (by decide), fun z => absurd z h⟩
    · rw [if_neg h2]; exact ⟨fun z => absurd z (by decide), fun z => absurd z h⟩
theorem i32_nlt {a b : Int32} : ¬ a < b ↔ b ≤ a := by rw [Int32.lt_iff_toInt_lt, Int32.le_iff_toInt_le]; omega
theorem i32_nle {a b : Int32} : ¬ a ≤ b ↔ b < a := by rw [Int32.lt_iff_toInt_lt, Int32.le_iff_toInt_le]; omega
theorem i64_nlt {a b : Int64} : ¬ a < b ↔ b ≤ a := by rw [Int64.lt_iff_toInt_lt, Int64.le_iff_toInt_le]; omega
theorem i64_nle {a b : Int64} : ¬ a ≤ b ↔ b < a := by rw [Int64.lt_iff_toInt_lt, Int64.le_iff_toInt_le]; omega
theorem v_lcmp_eq (F : Fx p s m args c cc own D tys A nL fr lo R) {x y : Int64} {off : Int} {tgt : Nat} (hd : decode cc pc = .ok (.lcmp, 1)) (hd2 : decode cc (pc + 1) = .ok (.ifCond .eq off, 3)) (ht : ((pc + 1 : Nat) : Int) + off = (tgt : Int)) (hq : pc + 4 = q) (kt : x = y → V p l e R s m args below meth c D A nL cells slots Q tgt lv st ws) (kf : ¬ x = y → V p l e R s m args below meth c D A nL cells slots Q q lv st ws) : V p l e R s m args below meth c D A nL cells slots Q pc lv (.long y :: .long x :: st) ws := by
  subst hq
  exact fun H locs ls hP hD hS hl => W.lcmp F.1 F.2.1 hd (lv_if_eq F.1 F.2.1 hd2 ht (fun z => kt ((lgc_eq x y).mp z) H locs ls hP hD hS hl) (fun z => kf (fun w => z ((lgc_eq x y).mpr w)) H locs ls hP hD hS hl))
theorem v_lcmp_ne (F : Fx p s m args c cc own D tys A nL fr lo R) {x y : Int64} {off : Int} {tgt : Nat} (hd : decode cc pc = .ok (.lcmp, 1)) (hd2 : decode cc (pc + 1) = .ok (.ifCond .ne off, 3)) (ht : ((pc + 1 : Nat) : Int) + off = (tgt : Int)) (hq : pc + 4 = q) (kt : ¬ x = y → V p l e R s m args below meth c D A nL cells slots Q tgt lv st ws) (kf : x = y → V p l e R s m args below meth c D A nL cells slots Q q lv st ws) : V p l e R s m args below meth c D A nL cells slots Q pc lv (.long y :: .long x :: st) ws := by
  subst hq
  exact fun H locs ls hP hD hS hl => W.lcmp F.1 F.2.1 hd (lv_if_ne F.1 F.2.1 hd2 ht (fun z => kt (fun w => z ((lgc_eq x y).mpr w)) H locs ls hP hD hS hl) (fun z => kf ((lgc_eq x y).mp z) H locs ls hP hD hS hl))
theorem v_lcmp_lt (F : Fx p s m args c cc own D tys A nL fr lo R) {x y : Int64} {off : Int} {tgt : Nat} (hd : decode cc pc = .ok (.lcmp, 1)) (hd2 : decode cc (pc + 1) = .ok (.ifCond .lt off, 3)) (ht : ((pc + 1 : Nat) : Int) + off = (tgt : Int)) (hq : pc + 4 = q) (kt : x < y → V p l e R s m args below meth c D A nL cells slots Q tgt lv st ws) (kf : ¬ x < y → V p l e R s m args below meth c D A nL cells slots Q q lv st ws) : V p l e R s m args below meth c D A nL cells slots Q pc lv (.long y :: .long x :: st) ws := by
  subst hq
  exact fun H locs ls hP hD hS hl => W.lcmp F.1 F.2.1 hd (lv_if_lt F.1 F.2.1 hd2 ht (fun z => kt ((lgc_lt x y).mp z) H locs ls hP hD hS hl) (fun z => kf (fun w => z ((lgc_lt x y).mpr w)) H locs ls hP hD hS hl))
theorem v_lcmp_ge (F : Fx p s m args c cc own D tys A nL fr lo R) {x y : Int64} {off : Int} {tgt : Nat} (hd : decode cc pc = .ok (.lcmp, 1)) (hd2 : decode cc (pc + 1) = .ok (.ifCond .ge off, 3)) (ht : ((pc + 1 : Nat) : Int) + off = (tgt : Int)) (hq : pc + 4 = q) (kt : y ≤ x → V p l e R s m args below meth c D A nL cells slots Q tgt lv st ws) (kf : ¬ y ≤ x → V p l e R s m args below meth c D A nL cells slots Q q lv st ws) : V p l e R s m args below meth c D A nL cells slots Q pc lv (.long y :: .long x :: st) ws := by
  subst hq
  exact fun H locs ls hP hD hS hl => W.lcmp F.1 F.2.1 hd (lv_if_ge F.1 F.2.1 hd2 ht (fun z => kt (i64_nlt.mp (fun w => (i32_nle.mpr ((lgc_lt x y).mpr w)) z)) H locs ls hP hD hS hl) (fun z => kf (fun w => z (i32_nlt.mp (fun w2 => (i64_nlt.mpr w) ((lgc_lt x y).mp w2)))) H locs ls hP hD hS hl))
theorem v_lcmp_gt (F : Fx p s m args c cc own D tys A nL fr lo R) {x y : Int64} {off : Int} {tgt : Nat} (hd : decode cc pc = .ok (.lcmp, 1)) (hd2 : decode cc (pc + 1) = .ok (.ifCond .gt off, 3)) (ht : ((pc + 1 : Nat) : Int) + off = (tgt : Int)) (hq : pc + 4 = q) (kt : y < x → V p l e R s m args below meth c D A nL cells slots Q tgt lv st ws) (kf : ¬ y < x → V p l e R s m args below meth c D A nL cells slots Q q lv st ws) : V p l e R s m args below meth c D A nL cells slots Q pc lv (.long y :: .long x :: st) ws := by
  subst hq
  exact fun H locs ls hP hD hS hl => W.lcmp F.1 F.2.1 hd (lv_if_gt F.1 F.2.1 hd2 ht (fun z => kt ((lgc_gt x y).mp z) H locs ls hP hD hS hl) (fun z => kf (fun w => z ((lgc_gt x y).mpr w)) H locs ls hP hD hS hl))
theorem v_lcmp_le (F : Fx p s m args c cc own D tys A nL fr lo R) {x y : Int64} {off : Int} {tgt : Nat} (hd : decode cc pc = .ok (.lcmp, 1)) (hd2 : decode cc (pc + 1) = .ok (.ifCond .le off, 3)) (ht : ((pc + 1 : Nat) : Int) + off = (tgt : Int)) (hq : pc + 4 = q) (kt : x ≤ y → V p l e R s m args below meth c D A nL cells slots Q tgt lv st ws) (kf : ¬ x ≤ y → V p l e R s m args below meth c D A nL cells slots Q q lv st ws) : V p l e R s m args below meth c D A nL cells slots Q pc lv (.long y :: .long x :: st) ws := by
  subst hq
  exact fun H locs ls hP hD hS hl => W.lcmp F.1 F.2.1 hd (lv_if_le F.1 F.2.1 hd2 ht (fun z => kt (i64_nlt.mp (fun w => (i32_nle.mpr ((lgc_gt x y).mpr w)) z)) H locs ls hP hD hS hl) (fun z => kf (fun w => z (i32_nlt.mp (fun w2 => (i64_nlt.mpr w) ((lgc_gt x y).mp w2)))) H locs ls hP hD hS hl))
theorem v_idiv (F : Fx p s m args c cc own D tys A nL fr lo R) {x y : Int32} (hd : decode cc pc = .ok (.idiv, 1)) (hne : ¬ y = 0) (hq : pc + 1 = q) (k : V p l e R s m args below meth c D A nL cells slots Q q lv (.int (x / y) :: st) ws) : V p l e R s m args below meth c D A nL cells slots Q pc lv (.int y :: .int x :: st) ws := by
  subst hq
  exact fun H locs ls hP hD hS hl => lv_idiv F.1 F.2.1 hd hne (k H locs ls hP hD hS hl)
theorem v_ldiv (F : Fx p s m args c cc own D tys A nL fr lo R) {x y : Int64} (hd : decode cc pc = .ok (.ldiv, 1)) (hne : ¬ y = 0) (hq : pc + 1 = q) (k : V p l e R s m args below meth c D A nL cells slots Q q lv (.long (x / y) :: st) ws) : V p l e R s m args below meth c D A nL cells slots Q pc lv (.long y :: .long x :: st) ws := by
  subst hq
  exact fun H locs ls hP hD hS hl => lv_ldiv F.1 F.2.1 hd hne (k H locs ls hP hD hS hl)
theorem v_irem (F : Fx p s m args c cc own D tys A nL fr lo R) {x y : Int32} (hd : decode cc pc = .ok (.irem, 1)) (hne : ¬ y = 0) (hq : pc + 1 = q) (k : V p l e R s m args below meth c D A nL cells slots Q q lv (.int (x - x / y * y) :: st) ws) : V p l e R s m args below meth c D A nL cells slots Q pc lv (.int y :: .int x :: st) ws := by
  subst hq
  exact fun H locs ls hP hD hS hl => lv_irem F.1 F.2.1 hd hne (k H locs ls hP hD hS hl)
theorem v_lrem (F : Fx p s m args c cc own D tys A nL fr lo R) {x y : Int64} (hd : decode cc pc = .ok (.lrem, 1)) (hne : ¬ y = 0) (hq : pc + 1 = q) (k : V p l e R s m args below meth c D A nL cells slots Q q lv (.long (x - x / y * y) :: st) ws) : V p l e R s m args below meth c D A nL cells slots Q pc lv (.long y :: .long x :: st) ws := by
  subst hq
  exact fun H locs ls hP hD hS hl => lv_lrem F.1 F.2.1 hd hne (k H locs ls hP hD hS hl)
theorem v_goto (F : Fx p s m args c cc own D tys A nL fr lo R) {off : Int} {tgt : Nat} (hd : decode cc pc = .ok (.goto off, 3)) (ht : (pc : Int) + off = (tgt : Int)) (k : V p l e R s m args below meth c D A nL cells slots Q tgt lv st ws) : V p l e R s m args below meth c D A nL cells slots Q pc lv st ws := fun H locs ls hP hD hS hl => lv_goto F.1 F.2.1 hd ht (k H locs ls hP hD hS hl)
theorem v_iald (F : Fx p s m args c cc own D tys A nL fr lo R) (q0 t0 : Nat) {a : Nat} {cA : ClassId} {n : Nat} {f : Nat → Int32} (ha : ws[q0]? = some (a, .inl (cA, n, .inl f))) (ht : tys[t0]? = some (cA, .int)) {i : Int32} (hin : vp_in i n) (hd : decode cc pc = .ok (.iaload, 1)) (hq : pc + 1 = q) (k : V p l e R s m args below meth c D A nL cells slots Q q lv (.int (f i.toNatClampNeg) :: st) ws) : V p l e R s m args below meth c D A nL cells slots Q pc lv (.int i :: .ref a :: st) ws := by
  subst hq
  exact fun H locs ls hP hD hS hl => va_iald F.1 F.2.1 F.2.2.2.2.2.2.1 hP q0 t0 ha ht hin hd (k H locs ls hP hD hS hl)
theorem v_ialdN (F : Fx p s m args c cc own D tys A nL fr lo R) (q0 t0 : Nat) {a : Nat} {cA : ClassId} {n j : Nat} {f : Nat → Int32} (ha : ws[q0]? = some (a, .inl (cA, n, .inl f))) (ht : tys[t0]? = some (cA, .int)) (hj : j < n) (hn : n < 2 ^ 31) (hd : decode cc pc = .ok (.iaload, 1)) (hq : pc + 1 = q) (k : V p l e R s m args below meth c D A nL cells slots Q q lv (.int (f j) :: st) ws) : V p l e R s m args below meth c D A nL cells slots Q pc lv (.int (nI j) :: .ref a :: st) ws := v_iald F q0 t0 ha ht (vp_in_nI hj hn) hd hq (by rw [nI_clamp (by omega)]; exact k)
theorem v_lald (F : Fx p s m args c cc own D tys A nL fr lo R) (q0 t0 : Nat) {a : Nat} {cA : ClassId} {n : Nat} {f : Nat → Int64} (ha : ws[q0]? = some (a, .inl (cA, n, .inr (.inl f)))) (ht : tys[t0]? = some (cA, .long)) {i : Int32} (hin : vp_in i n) (hd : decode cc pc = .ok (.laload, 1)) (hq : pc + 1 = q) (k : V p l e R s m args below meth c D A nL cells slots Q q lv (.long (f i.toNatClampNeg) :: st) ws) : V p l e R s m args below meth c D A nL cells slots Q pc lv (.int i :: .ref a :: st) ws := by
  subst hq
  exact fun H locs ls hP hD hS hl => va_lald F.1 F.2.1 F.2.2.2.2.2.2.1 hP q0 t0 ha ht hin hd (k H locs ls hP hD hS hl)
theorem v_laldN (F : Fx p s m args c cc own D tys A nL fr lo R) (q0 t0 : Nat) {a : Nat} {cA : ClassId} {n j : Nat} {f : Nat → Int64} (ha : ws[q0]? = some (a, .inl (cA, n, .inr (.inl f)))) (ht : tys[t0]? = some (cA, .long)) (hj : j < n) (hn : n < 2 ^ 31) (hd : decode cc pc = .ok (.laload, 1)) (hq : pc + 1 = q) (k : V p l e R s m args below meth c D A nL cells slots Q q lv (.long (f j) :: st) ws) : V p l e R s m args below meth c D A nL cells slots Q pc lv (.int (nI j) :: .ref a :: st) ws := v_lald F q0 t0 ha ht (vp_in_nI hj hn) hd hq (by rw [nI_clamp (by omega)]; exact k)
theorem v_zald (F : Fx p s m args c cc own D tys A nL fr lo R) (q0 t0 : Nat) {a : Nat} {cA : ClassId} {n : Nat} {f : Nat → Int32} (ha : ws[q0]? = some (a, .inl (cA, n, .inl f))) (ht : tys[t0]? = some (cA, .boolean)) {i : Int32} (hin : vp_in i n) (hd : decode cc pc = .ok (.baload, 1)) (hq : pc + 1 = q) (k : V p l e R s m args below meth c D A nL cells slots Q q lv (.int (f i.toNatClampNeg) :: st) ws) : V p l e R s m args below meth c D A nL cells slots Q pc lv (.int i :: .ref a :: st) ws := by
  subst hq
  exact fun H locs ls hP hD hS hl => va_zald F.1 F.2.1 F.2.2.2.2.2.2.1 hP q0 t0 ha ht hin hd (k H locs ls hP hD hS hl)
theorem v_zaldN (F : Fx p s m args c cc own D tys A nL fr lo R) (q0 t0 : Nat) {a : Nat} {cA : ClassId} {n j : Nat} {f : Nat → Int32} (ha : ws[q0]? = some (a, .inl (cA, n, .inl f))) (ht : tys[t0]? = some (cA, .boolean)) (hj : j < n) (hn : n < 2 ^ 31) (hd : decode cc pc = .ok (.baload, 1)) (hq : pc + 1 = q) (k : V p l e R s m args below meth c D A nL cells slots Q q lv (.int (f j) :: st) ws) : V p l e R s m args below meth c D A nL cells slots Q pc lv (.int (nI j) :: .ref a :: st) ws := v_zald F q0 t0 ha ht (vp_in_nI hj hn) hd hq (by rw [nI_clamp (by omega)]; exact k)
theorem v_iast (F : Fx p s m args c cc own D tys A nL fr lo R) (q0 t0 : Nat) {a : Nat} {cA : ClassId} {n : Nat} {f : Nat → Int32} (ha : ws[q0]? = some (a, .inl (cA, n, .inl f))) (ht : tys[t0]? = some (cA, .int)) {i : Int32} {x : Int32} (hin : vp_in i n) (hd : decode cc pc = .ok (.iastore, 1)) (hq : pc + 1 = q) (k : V p l e R s m args below meth c D A nL cells slots Q q lv st (ws.set q0 (a, .inl (cA, n, .inl (upd f i.toNatClampNeg x))))) : V p l e R s m args below meth c D A nL cells slots Q pc lv (.int x :: .int i :: .ref a :: st) ws := by
  subst hq
  exact fun H locs ls hP hD hS hl => va_iast F.1 F.2.1 F.2.2.2.2.2.2.1 hP hD hS q0 t0 ha ht hin hd (fun H1 locs1 hP hD hS => k H1 locs1 ls hP hD hS hl)
theorem v_iastN (F : Fx p s m args c cc own D tys A nL fr lo R) (q0 t0 : Nat) {a : Nat} {cA : ClassId} {n j : Nat} {f : Nat → Int32} (ha : ws[q0]? = some (a, .inl (cA, n, .inl f))) (ht : tys[t0]? = some (cA, .int)) {x : Int32} (hj : j < n) (hn : n < 2 ^ 31) (hd : decode cc pc = .ok (.iastore, 1)) (hq : pc + 1 = q) (k : V p l e R s m args below meth c D A nL cells slots Q q lv st (ws.set q0 (a, .inl (cA, n, .inl (upd f j x))))) : V p l e R s m args below meth c D A nL cells slots Q pc lv (.int x :: .int (nI j) :: .ref a :: st) ws := v_iast F q0 t0 ha ht (vp_in_nI hj hn) hd hq (by rw [nI_clamp (by omega)]; exact k)
theorem v_last (F : Fx p s m args c cc own D tys A nL fr lo R) (q0 t0 : Nat) {a : Nat} {cA : ClassId} {n : Nat} {f : Nat → Int64} (ha : ws[q0]? = some (a, .inl (cA, n, .inr (.inl f)))) (ht : tys[t0]? = some (cA, .long)) {i : Int32} {x : Int64} (hin : vp_in i n) (hd : decode cc pc = .ok (.lastore, 1)) (hq : pc + 1 = q) (k : V p l e R s m args below meth c D A nL cells slots Q q lv st (ws.set q0 (a, .inl (cA, n, .inr (.inl (vp_updL f i.toNatClampNeg x)))))) : V p l e R s m args below meth c D A nL cells slots Q pc lv (.long x :: .int i :: .ref a :: st) ws := by
  subst hq
  exact fun H locs ls hP hD hS hl => va_last F.1 F.2.1 F.2.2.2.2.2.2.1 hP hD hS q0 t0 ha ht hin hd (fun H1 locs1 hP hD hS => k H1 locs1 ls hP hD hS hl)
theorem v_lastN (F : Fx p s m args c cc own D tys A nL fr lo R) (q0 t0 : Nat) {a : Nat} {cA : ClassId} {n j : Nat} {f : Nat → Int64} (ha : ws[q0]? = some (a, .inl (cA, n, .inr (.inl f)))) (ht : tys[t0]? = some (cA, .long)) {x : Int64} (hj : j < n) (hn : n < 2 ^ 31) (hd : decode cc pc = .ok (.lastore, 1)) (hq : pc + 1 = q) (k : V p l e R s m args below meth c D A nL cells slots Q q lv st (ws.set q0 (a, .inl (cA, n, .inr (.inl (vp_updL f j x)))))) : V p l e R s m args below meth c D A nL cells slots Q pc lv (.long x :: .int (nI j) :: .ref a :: st) ws := v_last F q0 t0 ha ht (vp_in_nI hj hn) hd hq (by rw [nI_clamp (by omega)]; exact k)
theorem v_zast (F : Fx p s m args c cc own D tys A nL fr lo R) (q0 t0 : Nat) {a : Nat} {cA : ClassId} {n : Nat} {f : Nat → Int32} (ha : ws[q0]? = some (a, .inl (cA, n, .inl f))) (ht : tys[t0]? = some (cA, .boolean)) {i : Int32} {x : Int32} (hin : vp_in i n) (hd : decode cc pc = .ok (.bastore, 1)) (hq : pc + 1 = q) (k : V p l e R s m args below meth c D A nL cells slots Q q lv st (ws.set q0 (a, .inl (cA, n, .inl (upd f i.toNatClampNeg (vp_nar .boolean x)))))) : V p l e R s m args below meth c D A nL cells slots Q pc lv (.int x :: .int i :: .ref a :: st) ws := by
  subst hq
  exact fun H locs ls hP hD hS hl => va_zast F.1 F.2.1 F.2.2.2.2.2.2.1 hP hD hS q0 t0 ha ht hin hd (fun H1 locs1 hP hD hS => k H1 locs1 ls hP hD hS hl)
theorem v_zastN (F : Fx p s m args c cc own D tys A nL fr lo R) (q0 t0 : Nat) {a : Nat} {cA : ClassId} {n j : Nat} {f : Nat → Int32} (ha : ws[q0]? = some (a, .inl (cA, n, .inl f))) (ht : tys[t0]? = some (cA, .boolean)) {x : Int32} (hx : vp_nar .boolean x = x) (hj : j < n) (hn : n < 2 ^ 31) (hd : decode cc pc = .ok (.bastore, 1)) (hq : pc + 1 = q) (k : V p l e R s m args below meth c D A nL cells slots Q q lv st (ws.set q0 (a, .inl (cA, n, .inl (upd f j x))))) : V p l e R s m args below meth c D A nL cells slots Q pc lv (.int x :: .int (nI j) :: .ref a :: st) ws := v_zast F q0 t0 ha ht (vp_in_nI hj hn) hd hq (by rw [nI_clamp (by omega), hx]; exact k)
theorem v_get (F : Fx p s m args c cc own D tys A nL fr lo R) {C : String} {T : u_T} {N ci index : Nat} (hin : ∀ w ∈ u_ws C T N, w ∈ ALL) (hc : vwCl[ci]? = some (C, T, N)) (k : Nat) (hk : k < N) (hlink : (Cond.fieldLink own index (T k).1 (T k).2.1 (T k).2.2.1) ∈ ALL) (hd : decode cc pc = .ok (.getfield index, 3)) (q0 : Nat) {a : Nat} {fs : List Value} (he : ws[q0]? = some (a, .inr (ci, fs))) {v : Value} (hv : fs[k]? = some v) (hq : pc + 3 = q) (kk : V p l e R s m args below meth c D A nL cells slots Q q lv (v :: st) ws) : V p l e R s m args below meth c D A nL cells slots Q pc lv (.ref a :: st) ws := by
  subst hq
  exact fun H locs ls hP hD hS hl => va_get F.1 F.2.1 F.2.2.2.2.1 hin F.2.2.2.1 F.2.2.2.2.2.2.1 hP q0 he hc k hk (F.2.2.2.2.1 _ hlink) (fun _ h => h) hv hd (kk H locs ls hP hD hS hl)
theorem v_put (F : Fx p s m args c cc own D tys A nL fr lo R) {C : String} {T : u_T} {N ci index : Nat} (hin : ∀ w ∈ u_ws C T N, w ∈ ALL) (hc : vwCl[ci]? = some (C, T, N)) (ty0 : Nat → FieldType) (hty : ∀ k, k < N → parseFieldDescriptor (T k).2.2.1 = some (ty0 k)) (hnm : ∀ a, a < N → ∀ b, b < N → a ≠ b → (T a).2.1 ≠ (T b).2.1) (k : Nat) (hk : k < N) (hlink : (Cond.fieldLink own index (T k).1 (T k).2.1 (T k).2.2.1) ∈ ALL) (hfin : (T k).2.2.2 = false) (hd : decode cc pc = .ok (.putfield index, 3)) (q0 : Nat) {a : Nat} {fs : List Value} (he : ws[q0]? = some (a, .inr (ci, fs))) {v : Value} (hn : narrow (ty0 k) v = v) (hfit : fits (ty0 k) v = true) (hl0 : k < fs.length) (hq : pc + 3 = q) (kk : V p l e R s m args below meth c D A nL cells slots Q q lv st (ws.set q0 (a, .inr (ci, fs.set k v)))) : V p l e R s m args below meth c D A nL cells slots Q pc lv (v :: .ref a :: st) ws := by
  subst hq
  exact fun H locs ls hP hD hS hl => va_put F.1 F.2.1 F.2.2.2.2.1 hin ty0 hty hnm F.2.2.2.1 F.2.2.2.2.2.2.1 hP hD hS q0 he hc k hk (F.2.2.2.2.1 _ hlink) (fun _ h => h) hfin (hty k hk) hn hfit hl0 hd (fun H1 locs1 hP hD hS => kk H1 locs1 ls hP hD hS hl)
theorem v_getN (F : Fx p s m args c cc own D tys A nL fr lo R) {host : String} {C : String} {T : u_T} {N ci index : Nat} (hin : ∀ w ∈ u_ws C T N, w ∈ ALL) (hc : vwCl[ci]? = some (C, T, N)) (k : Nat) (hk : k < N) (hlink : (Cond.fieldLinkNest own index (T k).1 (T k).2.1 (T k).2.2.1 host) ∈ lw_tbl) (hd : decode cc pc = .ok (.getfield index, 3)) (q0 : Nat) {a : Nat} {fs : List Value} (he : ws[q0]? = some (a, .inr (ci, fs))) {v : Value} (hv : fs[k]? = some v) (hq : pc + 3 = q) (kk : V p l e R s m args below meth c D A nL cells slots Q q lv (v :: st) ws) : V p l e R s m args below meth c D A nL cells slots Q pc lv (.ref a :: st) ws := by
  subst hq
  exact fun H locs ls hP hD hS hl => va_getN F.1 F.2.1 F.2.2.2.2.1 hin F.2.2.2.1 F.2.2.2.2.2.2.1 hP q0 he hc k hk (va_Nw.use rfl (F.2.2.2.2.2.1 _ hlink rfl)) (fun _ h => h) hv hd (kk H locs ls hP hD hS hl)
theorem v_putN (F : Fx p s m args c cc own D tys A nL fr lo R) {host : String} {C : String} {T : u_T} {N ci index : Nat} (hin : ∀ w ∈ u_ws C T N, w ∈ ALL) (hc : vwCl[ci]? = some (C, T, N)) (ty0 : Nat → FieldType) (hty : ∀ k, k < N → parseFieldDescriptor (T k).2.2.1 = some (ty0 k)) (hnm : ∀ a, a < N → ∀ b, b < N → a ≠ b → (T a).2.1 ≠ (T b).2.1) (k : Nat) (hk : k < N) (hlink : (Cond.fieldLinkNest own index (T k).1 (T k).2.1 (T k).2.2.1 host) ∈ lw_tbl) (hfin : (T k).2.2.2 = false) (hd : decode cc pc = .ok (.putfield index, 3)) (q0 : Nat) {a : Nat} {fs : List Value} (he : ws[q0]? = some (a, .inr (ci, fs))) {v : Value} (hn : narrow (ty0 k) v = v) (hfit : fits (ty0 k) v = true) (hl0 : k < fs.length) (hq : pc + 3 = q) (kk : V p l e R s m args below meth c D A nL cells slots Q q lv st (ws.set q0 (a, .inr (ci, fs.set k v)))) : V p l e R s m args below meth c D A nL cells slots Q pc lv (v :: .ref a :: st) ws := by
  subst hq
  exact fun H locs ls hP hD hS hl => va_putN F.1 F.2.1 F.2.2.2.2.1 hin ty0 hty hnm F.2.2.2.1 F.2.2.2.2.2.2.1 hP hD hS q0 he hc k hk (va_Nw.use rfl (F.2.2.2.2.2.1 _ hlink rfl)) (fun _ h => h) hfin (hty k hk) hn hfit hl0 hd (fun H1 locs1 hP hD hS => kk H1 locs1 ls hP hD hS hl)
theorem v_putF (F : Fx p s m args c cc own D tys A nL fr lo R) {C : String} {T : u_T} {N ci index : Nat} (hin : ∀ w ∈ u_ws C T N, w ∈ ALL) (hc : vwCl[ci]? = some (C, T, N)) (ty0 : Nat → FieldType) (hty : ∀ k, k < N → parseFieldDescriptor (T k).2.2.1 = some (ty0 k)) (hnm : ∀ a, a < N → ∀ b, b < N → a ≠ b → (T a).2.1 ≠ (T b).2.1) (k : Nat) (hk : k < N) (hlink : (Cond.fieldLink own index (T k).1 (T k).2.1 (T k).2.2.1) ∈ ALL) (hfin : (T k).2.2.2 = true) (hin2 : meth.name = "<init>") (hdecl : (T k).1 = own) (hd : decode cc pc = .ok (.putfield index, 3)) (q0 : Nat) {a : Nat} {fs : List Value} (he : ws[q0]? = some (a, .inr (ci, fs))) {v : Value} (hn : narrow (ty0 k) v = v) (hfit : fits (ty0 k) v = true) (hl0 : k < fs.length) (hq : pc + 3 = q) (kk : V p l e R s m args below meth c D A nL cells slots Q q lv st (ws.set q0 (a, .inr (ci, fs.set k v)))) : V p l e R s m args below meth c D A nL cells slots Q pc lv (v :: .ref a :: st) ws := by
  subst hq
  exact fun H locs ls hP hD hS hl => va_putF F.1 F.2.1 F.2.2.2.2.1 hin ty0 hty hnm F.2.2.2.1 F.2.2.2.2.2.2.1 hP hD hS q0 he hc k hk (F.2.2.2.2.1 _ hlink) (fun _ h => h) hfin hin2 hdecl (hty k hk) hn hfit hl0 hd (fun H1 locs1 hP hD hS => kk H1 locs1 ls hP hD hS hl)
theorem v_ldc2 (F : Fx p s m args c cc own D tys A nL fr lo R) {index : Nat} {v : Int64} (hw : Cond.constantLong own index v ∈ ALL) (hd : decode cc pc = .ok (.ldc2_w index, 3)) (hq : pc + 3 = q) (k : V p l e R s m args below meth c D A nL cells slots Q q lv (.long v :: st) ws) : V p l e R s m args below meth c D A nL cells slots Q pc lv st ws := by
  subst hq
  exact fun H locs ls hP hD hS hl => lv_ldc2 F.1 F.2.1 F.2.2.2.1 (F.2.2.2.2.1 _ hw) hd (k H locs ls hP hD hS hl)
theorem v_ldc (F : Fx p s m args c cc own D tys A nL fr lo R) {index : Nat} {v : Int32} (hw : Cond.constant own index v ∈ ALL) (hd : decode cc pc = .ok (.ldc index, 2)) (hq : pc + 2 = q) (k : V p l e R s m args below meth c D A nL cells slots Q q lv (.int v :: st) ws) : V p l e R s m args below meth c D A nL cells slots Q pc lv st ws := by
  subst hq
  exact fun H locs ls hP hD hS hl => lv_ldc F.1 F.2.1 F.2.2.2.1 (F.2.2.2.2.1 _ hw) hd (k H locs ls hP hD hS hl)
theorem v_ldcw (F : Fx p s m args c cc own D tys A nL fr lo R) {index : Nat} {v : Int32} (hw : Cond.constant own index v ∈ ALL) (hd : decode cc pc = .ok (.ldc_w index, 3)) (hq : pc + 3 = q) (k : V p l e R s m args below meth c D A nL cells slots Q q lv (.int v :: st) ws) : V p l e R s m args below meth c D A nL cells slots Q pc lv st ws := by
  subst hq
  exact fun H locs ls hP hD hS hl => lv_ldcw F.1 F.2.1 F.2.2.2.1 (F.2.2.2.2.1 _ hw) hd (k H locs ls hP hD hS hl)
theorem v_mmax (F : Fx p s m args c cc own D tys A nL fr lo R) {index : Nat} (h1 : Cond.methodLink own index Lib.Math.max.name ∈ ALL) (h2 : Cond.static Lib.Math.max.name ∈ ALL) (h3 : Cond.initialized "java/lang/Math" ∈ ALL) (h4 : Cond.code Lib.Math.max.name Lib.Math.max.code 2 (some .int) ∈ ALL) (hcs : cells ≤ R.cells ∧ slots ≤ R.slots) {x y : Int32} (hd : decode cc pc = .ok (.invokestatic index, 3)) (hf : 1 ≤ fr) (ho : (st.map fun v => v.category).sum + 13 ≤ lo) (hq : pc + 3 = q) (k : V p l e R s m args below meth c D A nL cells slots Q q lv (.int (if x < y then y else x) :: st) ws) : V p l e R s m args below meth c D A nL cells slots Q pc lv (.int y :: .int x :: st) ws := by
  subst hq
  exact fun H locs ls hP hD hS hl => va_mmax F.1 F.2.1 (F.2.2.1.trans hl.1.symm) F.2.2.2.1 (F.2.2.2.2.1 _ h1) (F.2.2.2.2.1 _ h2) (F.2.2.2.2.1 _ h3) (F.2.2.2.2.1 _ h4) (Nat.le_trans hf F.2.2.2.2.2.2.2.2.1) (Nat.le_trans ho F.2.2.2.2.2.2.2.2.2) hcs.1 hcs.2 hd (k H locs ls hP hD hS hl)
theorem v_mmin (F : Fx p s m args c cc own D tys A nL fr lo R) {index : Nat} (h1 : Cond.methodLink own index Lib.Math.min.name ∈ ALL) (h2 : Cond.static Lib.Math.min.name ∈ ALL) (h3 : Cond.initialized "java/lang/Math" ∈ ALL) (h4 : Cond.code Lib.Math.min.name Lib.Math.min.code 2 (some .int) ∈ ALL) (hcs : cells ≤ R.cells ∧ slots ≤ R.slots) {x y : Int32} (hd : decode cc pc = .ok (.invokestatic index, 3)) (hf : 1 ≤ fr) (ho : (st.map fun v => v.category).sum + 13 ≤ lo) (hq : pc + 3 = q) (k : V p l e R s m args below meth c D A nL cells slots Q q lv (.int (if y < x then y else x) :: st) ws) : V p l e R s m args below meth c D A nL cells slots Q pc lv (.int y :: .int x :: st) ws := by
  subst hq
  exact fun H locs ls hP hD hS hl => va_mmin F.1 F.2.1 (F.2.2.1.trans hl.1.symm) F.2.2.2.1 (F.2.2.2.2.1 _ h1) (F.2.2.2.2.1 _ h2) (F.2.2.2.2.1 _ h3) (F.2.2.2.2.1 _ h4) (Nat.le_trans hf F.2.2.2.2.2.2.2.2.1) (Nat.le_trans ho F.2.2.2.2.2.2.2.2.2) hcs.1 hcs.2 hd (k H locs ls hP hD hS hl)
theorem v_mabsl (F : Fx p s m args c cc own D tys A nL fr lo R) {index : Nat} (h1 : Cond.methodLink own index Lib.MathLoose.abs_long.x ∈ ALL) (h2 : Cond.static Lib.MathLoose.abs_long.x ∈ ALL) (h3 : Cond.initialized "java/lang/Math" ∈ ALL) (h4 : Cond.code Lib.MathLoose.abs_long.x Lib.MathLoose.abs_long.code 2 (some .long) ∈ ALL) (hcs : cells ≤ R.cells ∧ slots ≤ R.slots) {x : Int64} (hd : decode cc pc = .ok (.invokestatic index, 3)) (hf : 1 ≤ fr) (ho : (st.map fun v => v.category).sum + 13 ≤ lo) (hq : pc + 3 = q) (k : V p l e R s m args below meth c D A nL cells slots Q q lv (.long (if 0 < x then x else -x) :: st) ws) : V p l e R s m args below meth c D A nL cells slots Q pc lv (.long x :: st) ws := by
  subst hq
  exact fun H locs ls hP hD hS hl => va_mabs_long F.1 F.2.1 (F.2.2.1.trans hl.1.symm) F.2.2.2.1 (F.2.2.2.2.1 _ h1) (F.2.2.2.2.1 _ h2) (F.2.2.2.2.1 _ h3) (F.2.2.2.2.1 _ h4) (Nat.le_trans hf F.2.2.2.2.2.2.2.2.1) (Nat.le_trans ho F.2.2.2.2.2.2.2.2.2) hcs.1 hcs.2 hd (k H locs ls hP hD hS hl)

theorem w_join {H H1 : Heap} {w0 w1 : va_W} {isC : List Nat} (hP : va_P D vwCl ws H) (hD : va_D A ws) (hC : isC.map (fun i => ws[i]?) = w0.map some) (hn : isC.Nodup) (hlen : w0.length ≤ w1.length)
    (hk : ∀ q : Nat, q < H.size → ¬ va_A w0 H.size q → H1[q]? = H[q]?) (hF : ∀ q, va_A w0 H.size q → A q) (hP1 : va_P D vwCl w1 H1) (hD1 : va_D (va_A w0 H.size) w1) : va_P D vwCl (wset ws isC w1) H1 ∧ va_D A (wset ws isC w1) := by
  have hle : isC.length ≤ w1.length := by
    have h1 := congrArg List.length hC
    simp at h1
    omega
  have apart : ∀ (k : Nat) (q : Nat × va_E), k ∉ isC → ws[k]? = some q → q.1 < H.size ∧ ¬ va_A w0 H.size q.1 := by
    intro k q hki hq
    have hl := (hP k q hq).lt
    refine ⟨hl, fun h => ?_⟩
    rcases h with ⟨k2, e, h⟩ | h
    · have h1 : (isC.map (fun i => ws[i]?))[k2]? = some (some (q.1, e)) := by rw [hC, List.getElem?_map, h]; rfl
      rw [List.getElem?_map] at h1
      cases hi : isC[k2]? with
      | none => rw [hi] at h1; cases h1
      | some i =>
        rw [hi] at h1
        have h4 : ws[i]? = some (q.1, e) := Option.some.inj h1
        have hij := hD.1 k i q (q.1, e) hq h4 rfl
        subst hij
        exact hki (List.mem_of_getElem? hi)
    · omega
  have G := wset_get isC ws w1 hn hle
  refine ⟨fun k q hq => ?_, fun i j x y hx hy hxy => ?_, fun k q hq => ?_⟩
  · rcases G k q hq with ⟨j, h1, h2⟩ | ⟨h1, h2⟩ | ⟨j, h1, h2⟩
    · exact hP1 j q h2
    · obtain ⟨g1, g2⟩ := apart k q h1 h2
      exact (hP k q h2).kept (hk q.1 g1 g2)
    · exact hP1 _ q h2
  · rcases G i x hx with ⟨a, h1, h2⟩ | ⟨h1, h2⟩ | ⟨a, h1, h2⟩ <;> rcases G j y hy with ⟨b, g1, g2⟩ | ⟨g1, g2⟩ | ⟨b, g1, g2⟩
    · have := hD1.1 a b x y h2 g2 hxy
      subst this
      exact Option.some.inj (h1.symm.trans g1)
    · exact absurd (hxy ▸ hD1.2 a x h2) (apart j y g1 g2).2
    · have := hD1.1 a _ x y h2 g2 hxy
      have hb : a < isC.length := (List.getElem?_eq_some_iff.mp h1).1
      omega
    · exact absurd (hxy.symm ▸ hD1.2 b y g2) (apart i x h1 h2).2
    · exact hD.1 i j x y h2 g2 hxy
    · exact absurd (hxy.symm ▸ hD1.2 _ y g2) (apart i x h1 h2).2
    · have := hD1.1 _ b x y h2 g2 hxy
      have hb : b < isC.length := (List.getElem?_eq_some_iff.mp g1).1
      omega
    · exact absurd (hxy ▸ hD1.2 _ x h2) (apart j y g1 g2).2
    · have := hD1.1 _ _ x y h2 g2 hxy
      omega
  · rcases G k q hq with ⟨j, h1, h2⟩ | ⟨h1, h2⟩ | ⟨j, h1, h2⟩
    · exact hF _ (hD1.2 j q h2)
    · exact hD.2 k q h2
    · exact hF _ (hD1.2 _ q h2)
theorem v_ret0 {H : Heap} {locs : List Loc} {ls : Array Slot} (hP : va_P D vwCl ws H) (hD : va_D A ws) (hS : va_S A s.heap H locs) (hA : ∀ q, s.heap.size ≤ q → A q) {isC : List Nat} {w0 : va_W} (hC : isC.map (fun i => ws[i]?) = w0.map some) (hn : isC.Nodup) {a : Array Value} {st0 : List Value} {mc ms : Nat} {Q' : Option Value → va_W → Prop}
    (hr : va_Run p l e R s m args below meth c H locs cells slots mc ms (F0 m pc ls st0) rest (QW D w0 H.size Q' a) (va_A w0 H.size))
    (kk : ∀ (r : Option Value) (w1 : va_W), Q' r w1 → ∀ (H1 : Heap) (locs1 : List Loc), va_P D vwCl (wset ws isC w1) H1 → va_D A (wset ws isC w1) → va_S A s.heap H1 locs1 → W p l e R s m args below meth c H1 locs1 (cells + mc) (slots + ms) Q (F0 m (pc + 3) ls (r.toList ++ rest))) : W p l e R s m args below meth c H locs cells slots Q (F0 m pc ls st0) := by
  have hf := va_free hD hS hA isC hC
  intro T hT X
  obtain ⟨v, st₀, t, T', L, h0, X', hL, e1, e2, ⟨⟨r, w1, hv, hq, hP1, hD1, hlen⟩, hz, hk⟩, st⟩ := hr T hT X
  cases hv
  rw [h0] at hz hk
  obtain ⟨hPn, hDn⟩ := w_join hP hD hC hn hlen hk hf hP1 hD1
  obtain ⟨t2, a1, b1⟩ := kk v w1 hq T'.heap (locs ++ L) (by rw [e1]; exact hPn) hDn
    ⟨Nat.le_trans hS.1 (by rw [e1]; exact hz), fun q h1 h2 => by rw [e1, hk q (Nat.lt_of_lt_of_le h1 hS.1) (fun z => h2 (hf q z))]; exact hS.2.1 q h1 h2, fun q hq => by
      rcases List.mem_append.mp hq with h | h
      · exact hS.2.2 q h
      · exact hf _ (hL q h)⟩ T' rfl X'
  exact ⟨t2, st t2 a1, b1⟩
theorem pw_blind {av : List Value} {w0 : va_W} {sz : Nat} : FrameBlind (PW D tys av w0 sz) := by
  intro a U g mk q
  obtain ⟨h1, h2, h3, h4, h5, h6⟩ := q
  exact ⟨h1, h2, h3, va_K.moved (u := U) (U := U.calling g mk a) (Vm.Alike.refl U.vm) h4, h5, NW.same (u := U) (U := U.calling g mk a) rfl h6⟩
theorem pw_at {H : Heap} {av : List Value} {isC : List Nat} {w0 : va_W} (hK : va_K D vwCl tys s) (hN : NW s) (hP : va_P D vwCl ws H) (hD : va_D A ws) (hC : isC.map (fun i => ws[i]?) = w0.map some) (hn : va_nd isC = true) : ∀ U : State, U.heap = H → s.WarmedH U.vm → PW D tys av w0 H.size av.toArray U := by
  intro U hU hW
  have hP0 : va_P D vwCl w0 H := by
    intro k q hk
    have h1 : (isC.map (fun i => ws[i]?))[k]? = some (some q) := by rw [hC, List.getElem?_map, hk]; rfl
    rw [List.getElem?_map] at h1
    cases hi : isC[k]? with
    | none => rw [hi] at h1; cases h1
    | some i => rw [hi] at h1; exact hP i q (Option.some.inj h1)
  exact ⟨rfl, by rw [hU], by rw [hU]; exact hP0, va_K.moved hW.alike hK, (hD.sub isC hn hC).weaken (fun _ _ _ _ => trivial), NW.warm hW hN⟩
theorem nodup_of {l : List Nat} (h : decide l.Nodup = true) : l.Nodup := of_decide_eq_true h

theorem v_callV (F : Fx p s m args c cc own D tys A nL fr lo R) {y : MethodName} {cc' : ByteArray} {maxL fr' lo' mc ms np : Nat} {ret : Option FieldType} {av : List Value} {w0 : va_W} {Q' : Option Value → va_W → Prop} {index : Nat} (k1 : Cond.methodLink own index y ∈ ALL) (k2 : Cond.instanceMethod y ∈ ALL) (k3 : Cond.selects y.cls y y ∈ ALL) (k4 : Cond.initialized y.cls ∈ ALL) (k5 : Cond.code y cc' maxL ret ∈ ALL) (hy : y.cls ≠ "java/lang/invoke/MethodHandle" ∧ y.cls ≠ "java/lang/invoke/VarHandle" ∧ (parseMethodDescriptor y.desc).map (fun d => d.parameters.length) = some np) (hM : Ct l D tys y cc' maxL ret fr' lo' mc ms av w0 Q') (hcs : cells + mc ≤ R.cells ∧ slots + ms ≤ R.slots) (hfr : fr' + 1 ≤ fr) (hlo : 8 + (maxL + 11) + lo' ≤ lo) (q0 : Nat) {b ci : Nat} {As : List Value} {cq : vw_C} {fs : List Value} (hav : av = .ref b :: As) (hnp : As.length = np) (he : ws[q0]? = some (b, .inr (ci, fs))) (hc : vwCl[ci]? = some cq) (hcn : cq.1 = y.cls) (isC : List Nat) (hC : isC.map (fun i => ws[i]?) = w0.map some) (hn : decide isC.Nodup = true) (hn2 : va_nd isC = true) (hst : st = As.reverse ++ .ref b :: rest) (hW : (rest.map fun v => v.category).sum ≤ 8) (hd : decode cc pc = .ok (.invokevirtual index, 3)) (hq : pc + 3 = q) (kk : ∀ (r : Option Value) (w1 : va_W), Q' r w1 → V p l e R s m args below meth c D A nL (cells + mc) (slots + ms) Q q lv (r.toList ++ rest) (wset ws isC w1)) : V p l e R s m args below meth c D A nL cells slots Q pc lv st ws := by
  subst hq
  subst hav
  intro H locs ls hP hD hS hl
  refine v_ret0 hP hD hS F.2.2.2.2.2.2.2.1 hC (nodup_of hn) (va_runV (C := y.cls) (As := As) (b := b) ⟨F.1, F.2.1, F.2.2.1, F.2.2.2.1, F.2.2.2.2.1⟩ (hM H.size) ⟨callB_of np F.2.2.2.2.1 (good_ALL k5) rfl rfl rfl (F.2.2.2.2.1 _ k4) (F.2.2.2.2.1 _ k1) hy ⟨Nat.le_trans hfr F.2.2.2.2.2.2.2.2.1, Nat.le_trans hlo F.2.2.2.2.2.2.2.2.2⟩, F.2.2.2.2.1 _ k2, F.2.2.2.2.1 _ k3⟩ ⟨pw_blind, ?_, pw_at F.2.2.2.2.2.2.1 F.2.2.2.2.2.1 hP hD hC hn2⟩ rfl hnp hl.1 hst (lv_room hW) hd hcs) (fun r w1 hq H1 locs1 hP hD hS => kk r w1 hq H1 locs1 ls hP hD hS hl)
  rw [← hcn]
  exact va_recv F.2.2.2.2.2.2.1 hP hc he
theorem v_callVN (F : Fx p s m args c cc own D tys A nL fr lo R) {y : MethodName} {cc' : ByteArray} {maxL fr' lo' mc ms np : Nat} {ret : Option FieldType} {av : List Value} {w0 : va_W} {Q' : Option Value → va_W → Prop} {index : Nat} {host : String} (k1 : Cond.methodLinkNest own index y host ∈ lw_tbl) (k2 : Cond.instanceMethod y ∈ ALL) (k3 : Cond.selects y.cls y y ∈ ALL) (k4 : Cond.initialized y.cls ∈ ALL) (k5 : Cond.code y cc' maxL ret ∈ ALL) (hy : y.cls ≠ "java/lang/invoke/MethodHandle" ∧ y.cls ≠ "java/lang/invoke/VarHandle" ∧ (parseMethodDescriptor y.desc).map (fun d => d.parameters.length) = some np) (hM : Ct l D tys y cc' maxL ret fr' lo' mc ms av w0 Q') (hcs : cells + mc ≤ R.cells ∧ slots + ms ≤ R.slots) (hfr : fr' + 1 ≤ fr) (hlo : 8 + (maxL + 11) + lo' ≤ lo) (q0 : Nat) {b ci : Nat} {As : List Value} {cq : vw_C} {fs : List Value} (hav : av = .ref b :: As) (hnp : As.length = np) (he : ws[q0]? = some (b, .inr (ci, fs))) (hc : vwCl[ci]? = some cq) (hcn : cq.1 = y.cls) (isC : List Nat) (hC : isC.map (fun i => ws[i]?) = w0.map some) (hn : decide isC.Nodup = true) (hn2 : va_nd isC = true) (hst : st = As.reverse ++ .ref b :: rest) (hW : (rest.map fun v => v.category).sum ≤ 8) (hd : decode cc pc = .ok (.invokevirtual index, 3)) (hq : pc + 3 = q) (kk : ∀ (r : Option Value) (w1 : va_W), Q' r w1 → V p l e R s m args below meth c D A nL (cells + mc) (slots + ms) Q q lv (r.toList ++ rest) (wset ws isC w1)) : V p l e R s m args below meth c D A nL cells slots Q pc lv st ws := by
  subst hq
  subst hav
  intro H locs ls hP hD hS hl
  refine v_ret0 hP hD hS F.2.2.2.2.2.2.2.1 hC (nodup_of hn) (va_runVN (C := y.cls) (As := As) (b := b) ⟨F.1, F.2.1, F.2.2.1, F.2.2.2.1, F.2.2.2.2.1⟩ (hM H.size) ⟨va_cnB np F.2.2.2.2.1 (good_ALL k5) rfl rfl rfl (F.2.2.2.2.2.1 _ k1 rfl) (F.2.2.2.2.1 _ k4) hy ⟨Nat.le_trans hfr F.2.2.2.2.2.2.2.2.1, Nat.le_trans hlo F.2.2.2.2.2.2.2.2.2⟩, F.2.2.2.2.1 _ k2, F.2.2.2.2.1 _ k3⟩ ⟨pw_blind, ?_, pw_at F.2.2.2.2.2.2.1 F.2.2.2.2.2.1 hP hD hC hn2⟩ rfl hnp hl.1 hst (lv_room hW) hd hcs) (fun r w1 hq H1 locs1 hP hD hS => kk r w1 hq H1 locs1 ls hP hD hS hl)
  rw [← hcn]
  exact va_recv F.2.2.2.2.2.2.1 hP hc he
theorem v_callS (F : Fx p s m args c cc own D tys A nL fr lo R) {y : MethodName} {cc' : ByteArray} {maxL fr' lo' mc ms np : Nat} {ret : Option FieldType} {av : List Value} {w0 : va_W} {Q' : Option Value → va_W → Prop} {index : Nat} (k1 : Cond.methodLink own index y ∈ ALL) (k2 : Cond.static y ∈ ALL) (k4 : Cond.initialized y.cls ∈ ALL) (k5 : Cond.code y cc' maxL ret ∈ ALL) (hy : y.cls ≠ "java/lang/invoke/MethodHandle" ∧ y.cls ≠ "java/lang/invoke/VarHandle" ∧ (parseMethodDescriptor y.desc).map (fun d => d.parameters.length) = some np) (hM : Ct l D tys y cc' maxL ret fr' lo' mc ms av w0 Q') (hcs : cells + mc ≤ R.cells ∧ slots + ms ≤ R.slots) (hfr : fr' + 1 ≤ fr) (hlo : 8 + (maxL + 11) + lo' ≤ lo) (hnp : av.length = np) (isC : List Nat) (hC : isC.map (fun i => ws[i]?) = w0.map some) (hn : decide isC.Nodup = true) (hn2 : va_nd isC = true) (hst : st = av.reverse ++ rest) (hW : (rest.map fun v => v.category).sum ≤ 8) (hd : decode cc pc = .ok (.invokestatic index, 3)) (hq : pc + 3 = q) (kk : ∀ (r : Option Value) (w1 : va_W), Q' r w1 → V p l e R s m args below meth c D A nL (cells + mc) (slots + ms) Q q lv (r.toList ++ rest) (wset ws isC w1)) : V p l e R s m args below meth c D A nL cells slots Q pc lv st ws := by
  subst hq
  intro H locs ls hP hD hS hl
  exact v_ret0 hP hD hS F.2.2.2.2.2.2.2.1 hC (nodup_of hn) (va_runS (As := av) ⟨F.1, F.2.1, F.2.2.1, F.2.2.2.1, F.2.2.2.2.1⟩ (hM H.size) ⟨callB_of np F.2.2.2.2.1 (good_ALL k5) rfl rfl rfl (F.2.2.2.2.1 _ k4) (F.2.2.2.2.1 _ k1) hy ⟨Nat.le_trans hfr F.2.2.2.2.2.2.2.2.1, Nat.le_trans hlo F.2.2.2.2.2.2.2.2.2⟩, F.2.2.2.2.1 _ k2⟩ ⟨pw_blind, pw_at F.2.2.2.2.2.2.1 F.2.2.2.2.2.1 hP hD hC hn2⟩ rfl hnp hl.1 hst (lv_room hW) hd hcs) (fun r w1 hq H1 locs1 hP hD hS => kk r w1 hq H1 locs1 ls hP hD hS hl)
theorem v_callI (F : Fx p s m args c cc own D tys A nL fr lo R) {y : MethodName} {cc' : ByteArray} {maxL fr' lo' mc ms np : Nat} {av : List Value} {w0 : va_W} {Q' : Option Value → va_W → Prop} {index : Nat} (k1 : Cond.methodLink own index y ∈ ALL) (k2 : Cond.instanceMethod y ∈ ALL) (k4 : Cond.initialized y.cls ∈ ALL) (k5 : Cond.code y cc' maxL none ∈ ALL) (hyn : y.name = "<init>") (hy : y.cls ≠ "java/lang/invoke/MethodHandle" ∧ y.cls ≠ "java/lang/invoke/VarHandle" ∧ (parseMethodDescriptor y.desc).map (fun d => d.parameters.length) = some np) (hM : Ct l D tys y cc' maxL none fr' lo' mc ms av w0 Q') (hcs : cells + mc ≤ R.cells ∧ slots + ms ≤ R.slots) (hfr : fr' + 1 ≤ fr) (hlo : 8 + (maxL + 11) + lo' ≤ lo) {b : Nat} {As : List Value} (hav : av = .ref b :: As) (hnp : As.length = np) (isC : List Nat) (hC : isC.map (fun i => ws[i]?) = w0.map some) (hn : decide isC.Nodup = true) (hn2 : va_nd isC = true) (hst : st = As.reverse ++ .ref b :: rest) (hW : (rest.map fun v => v.category).sum ≤ 8) (hd : decode cc pc = .ok (.invokespecial index, 3)) (hq : pc + 3 = q) (kk : ∀ (r : Option Value) (w1 : va_W), Q' r w1 → V p l e R s m args below meth c D A nL (cells + mc) (slots + ms) Q q lv (r.toList ++ rest) (wset ws isC w1)) : V p l e R s m args below meth c D A nL cells slots Q pc lv st ws := by
  subst hq
  subst hav
  intro H locs ls hP hD hS hl
  exact v_ret0 hP hD hS F.2.2.2.2.2.2.2.1 hC (nodup_of hn) (va_runI (As := As) (b := b) ⟨F.1, F.2.1, F.2.2.1, F.2.2.2.1, F.2.2.2.2.1⟩ (hM H.size) ⟨callB_of np F.2.2.2.2.1 (good_ALL k5) rfl rfl rfl (F.2.2.2.2.1 _ k4) (F.2.2.2.2.1 _ k1) hy ⟨Nat.le_trans hfr F.2.2.2.2.2.2.2.2.1, Nat.le_trans hlo F.2.2.2.2.2.2.2.2.2⟩, hyn, F.2.2.2.2.1 _ k2⟩ ⟨pw_blind, pw_at F.2.2.2.2.2.2.1 F.2.2.2.2.2.1 hP hD hC hn2⟩ rfl hnp hl.1 hst (lv_room hW) hd hcs) (fun r w1 hq H1 locs1 hP hD hS => kk r w1 hq H1 locs1 ls hP hD hS hl)
theorem v_callIN (F : Fx p s m args c cc own D tys A nL fr lo R) {y : MethodName} {cc' : ByteArray} {maxL fr' lo' mc ms np : Nat} {av : List Value} {w0 : va_W} {Q' : Option Value → va_W → Prop} {index : Nat} {host : String} (k1 : Cond.methodLinkNest own index y host ∈ lw_tbl) (k2 : Cond.instanceMethod y ∈ ALL) (k4 : Cond.initialized y.cls ∈ ALL) (k5 : Cond.code y cc' maxL none ∈ ALL) (hyn : y.name = "<init>") (hy : y.cls ≠ "java/lang/invoke/MethodHandle" ∧ y.cls ≠ "java/lang/invoke/VarHandle" ∧ (parseMethodDescriptor y.desc).map (fun d => d.parameters.length) = some np) (hM : Ct l D tys y cc' maxL none fr' lo' mc ms av w0 Q') (hcs : cells + mc ≤ R.cells ∧ slots + ms ≤ R.slots) (hfr : fr' + 1 ≤ fr) (hlo : 8 + (maxL + 11) + lo' ≤ lo) {b : Nat} {As : List Value} (hav : av = .ref b :: As) (hnp : As.length = np) (isC : List Nat) (hC : isC.map (fun i => ws[i]?) = w0.map some) (hn : decide isC.Nodup = true) (hn2 : va_nd isC = true) (hst : st = As.reverse ++ .ref b :: rest) (hW : (rest.map fun v => v.category).sum ≤ 8) (hd : decode cc pc = .ok (.invokespecial index, 3)) (hq : pc + 3 = q) (kk : ∀ (r : Option Value) (w1 : va_W), Q' r w1 → V p l e R s m args below meth c D A nL (cells + mc) (slots + ms) Q q lv (r.toList ++ rest) (wset ws isC w1)) : V p l e R s m args below meth c D A nL cells slots Q pc lv st ws := by
  subst hq
  subst hav
  intro H locs ls hP hD hS hl
  exact v_ret0 hP hD hS F.2.2.2.2.2.2.2.1 hC (nodup_of hn) (va_runIN (As := As) (b := b) ⟨F.1, F.2.1, F.2.2.1, F.2.2.2.1, F.2.2.2.2.1⟩ (hM H.size) ⟨va_cnB np F.2.2.2.2.1 (good_ALL k5) rfl rfl rfl (F.2.2.2.2.2.1 _ k1 rfl) (F.2.2.2.2.1 _ k4) hy ⟨Nat.le_trans hfr F.2.2.2.2.2.2.2.2.1, Nat.le_trans hlo F.2.2.2.2.2.2.2.2.2⟩, hyn, F.2.2.2.2.1 _ k2⟩ ⟨pw_blind, pw_at F.2.2.2.2.2.2.1 F.2.2.2.2.2.1 hP hD hC hn2⟩ rfl hnp hl.1 hst (lv_room hW) hd hcs) (fun r w1 hq H1 locs1 hP hD hS => kk r w1 hq H1 locs1 ls hP hD hS hl)
theorem Ct.ofI {ty : FieldType} {y : MethodName} {cc : ByteArray} {maxL fr lo mc ms : Nat} {av : List Value} {w0 : va_W} {Q' : Option Value → va_W → Prop} (hy : plainName y.cls = true) (hlen : (lg_sl av).length ≤ maxL)
    (body : ∀ (p : Program) (e : Env) (s : State) (m : MethodId) (args : Array Value) (below : List Frame) (meth : Method) (c : Code) (A : Nat → Prop) (R : Room) (Q : State → Prop), Fx p s m args c cc y.cls D tys A maxL fr lo R → meth.name = y.name → (mc ≤ R.cells ∧ ms ≤ R.slots) →
      (∀ {v : Int32}, ∀ {pc : Nat} {lv : List (Nat × Value)} {w : va_W} {k n : Nat}, (hnv : narrow ty (.int v) = .int v) → decode cc pc = .ok (.ireturn, 1) → k ≤ mc → n ≤ ms → (Q' (some (.int v)) w ∧ w0.length ≤ w.length) → V p l e R s m args below meth c D A maxL k n Q pc lv [.int v] w) →
      V p l e R s m args below meth c D A maxL 0 0 Q 0 (lv_args 0 av) [] w0) : Ct l D tys y cc maxL (some ty) fr lo mc ms av w0 Q' := by
  intro sz
  refine Met.ofW (cc := cc) (maxL := maxL) (ret := (some ty)) hy rfl ?_
  intro p e s m args below meth c s₁ B hml hv
  obtain ⟨rfl, hsz, hP, hK, hD0, hN⟩ := hv
  have h1 := B.exec
  have h2 := B.bytes
  have hr := B.returns
  have hts := atoms_spec (ws := .code y cc maxL (some ty) :: ALL) B.pre
  have hown : s.vm.findClass y.cls = some m.cls := findClass_of_methodNamed B.named
  have hlocks := B.notSynchronized
  subst hsz
  have hD := hD0.self (sz := s.heap.size)
  have hS : va_S (va_A w0 s.heap.size) s.heap s.heap [] := va_S.rf
  have hl := lv_entry av (n := maxL) hlen
  rw [lg_entry_eq]
  refine body p e s m _ below meth c (va_A w0 s.heap.size) ({ frames := fr, cells := mc, slots := ms, locals := lo }) _ ⟨h1, h2, hml, hown, fun w hw => hts w (List.mem_cons_of_mem _ hw), hN, hK, fun q h => Or.inr h, Nat.le_refl _, Nat.le_refl _⟩ (name_of_methodNamed B.named B.method).1 ⟨Nat.le_refl _, Nat.le_refl _⟩ ?_ s.heap [] _ hP hD hS hl
  intro v pc lv w k n hnv hdg hk hn hq H locs ls hP hD hS hl
  refine W.widen hk hn ?_
  exact W.zret (ty := ty) h1 h2 hr hnv (fun t ht hW => ⟨⟨_, w, rfl, hq.1, by rw [ht]; exact hP, hD, hq.2⟩, hS.F ht⟩) hS.2.2 hdg
theorem Ct.ofL {y : MethodName} {cc : ByteArray} {maxL fr lo mc ms : Nat} {av : List Value} {w0 : va_W} {Q' : Option Value → va_W → Prop} (hy : plainName y.cls = true) (hlen : (lg_sl av).length ≤ maxL)
    (body : ∀ (p : Program) (e : Env) (s : State) (m : MethodId) (args : Array Value) (below : List Frame) (meth : Method) (c : Code) (A : Nat → Prop) (R : Room) (Q : State → Prop), Fx p s m args c cc y.cls D tys A maxL fr lo R → meth.name = y.name → (mc ≤ R.cells ∧ ms ≤ R.slots) →
      (∀ {v : Int64}, ∀ {pc : Nat} {lv : List (Nat × Value)} {w : va_W} {k n : Nat}, decode cc pc = .ok (.lreturn, 1) → k ≤ mc → n ≤ ms → (Q' (some (.long v)) w ∧ w0.length ≤ w.length) → V p l e R s m args below meth c D A maxL k n Q pc lv [.long v] w) →
      V p l e R s m args below meth c D A maxL 0 0 Q 0 (lv_args 0 av) [] w0) : Ct l D tys y cc maxL (some .long) fr lo mc ms av w0 Q' := by
  intro sz
  refine Met.ofW (cc := cc) (maxL := maxL) (ret := (some .long)) hy rfl ?_
  intro p e s m args below meth c s₁ B hml hv
  obtain ⟨rfl, hsz, hP, hK, hD0, hN⟩ := hv
  have h1 := B.exec
  have h2 := B.bytes
  have hr := B.returns
  have hts := atoms_spec (ws := .code y cc maxL (some .long) :: ALL) B.pre
  have hown : s.vm.findClass y.cls = some m.cls := findClass_of_methodNamed B.named
  have hlocks := B.notSynchronized
  subst hsz
  have hD := hD0.self (sz := s.heap.size)
  have hS : va_S (va_A w0 s.heap.size) s.heap s.heap [] := va_S.rf
  have hl := lv_entry av (n := maxL) hlen
  rw [lg_entry_eq]
  refine body p e s m _ below meth c (va_A w0 s.heap.size) ({ frames := fr, cells := mc, slots := ms, locals := lo }) _ ⟨h1, h2, hml, hown, fun w hw => hts w (List.mem_cons_of_mem _ hw), hN, hK, fun q h => Or.inr h, Nat.le_refl _, Nat.le_refl _⟩ (name_of_methodNamed B.named B.method).1 ⟨Nat.le_refl _, Nat.le_refl _⟩ ?_ s.heap [] _ hP hD hS hl
  intro v pc lv w k n hdg hk hn hq H locs ls hP hD hS hl
  refine W.widen hk hn ?_
  exact W.lret h1 h2 hr (fun t ht hW => ⟨⟨_, w, rfl, hq.1, by rw [ht]; exact hP, hD, hq.2⟩, hS.F ht⟩) hS.2.2 hdg
theorem Ct.ofV {y : MethodName} {cc : ByteArray} {maxL fr lo mc ms : Nat} {av : List Value} {w0 : va_W} {Q' : Option Value → va_W → Prop} (hy : plainName y.cls = true) (hlen : (lg_sl av).length ≤ maxL)
    (body : ∀ (p : Program) (e : Env) (s : State) (m : MethodId) (args : Array Value) (below : List Frame) (meth : Method) (c : Code) (A : Nat → Prop) (R : Room) (Q : State → Prop), Fx p s m args c cc y.cls D tys A maxL fr lo R → meth.name = y.name → (mc ≤ R.cells ∧ ms ≤ R.slots) →
      (∀ {pc : Nat} {lv : List (Nat × Value)} {w : va_W} {k n : Nat}, decode cc pc = .ok (.return_, 1) → k ≤ mc → n ≤ ms → (Q' none w ∧ w0.length ≤ w.length) → V p l e R s m args below meth c D A maxL k n Q pc lv [] w) →
      V p l e R s m args below meth c D A maxL 0 0 Q 0 (lv_args 0 av) [] w0) : Ct l D tys y cc maxL none fr lo mc ms av w0 Q' := by
  intro sz
  refine Met.ofW (cc := cc) (maxL := maxL) (ret := none) hy rfl ?_
  intro p e s m args below meth c s₁ B hml hv
  obtain ⟨rfl, hsz, hP, hK, hD0, hN⟩ := hv
  have h1 := B.exec
  have h2 := B.bytes
  have hr := B.returns
  have hts := atoms_spec (ws := .code y cc maxL none :: ALL) B.pre
  have hown : s.vm.findClass y.cls = some m.cls := findClass_of_methodNamed B.named
  have hlocks := B.notSynchronized
  subst hsz
  have hD := hD0.self (sz := s.heap.size)
  have hS : va_S (va_A w0 s.heap.size) s.heap s.heap [] := va_S.rf
  have hl := lv_entry av (n := maxL) hlen
  rw [lg_entry_eq]
  refine body p e s m _ below meth c (va_A w0 s.heap.size) ({ frames := fr, cells := mc, slots := ms, locals := lo }) _ ⟨h1, h2, hml, hown, fun w hw => hts w (List.mem_cons_of_mem _ hw), hN, hK, fun q h => Or.inr h, Nat.le_refl _, Nat.le_refl _⟩ (name_of_methodNamed B.named B.method).1 ⟨Nat.le_refl _, Nat.le_refl _⟩ ?_ s.heap [] _ hP hD hS hl
  intro pc lv w k n hdg hk hn hq H locs ls hP hD hS hl
  refine W.widen hk hn ?_
  exact W.vret h1 h2 hr (fun t ht hW => ⟨⟨_, w, rfl, hq.1, by rw [ht]; exact hP, hD, hq.2⟩, hS.F ht⟩) hS.2.2 hdg
--GEN4
end VS
