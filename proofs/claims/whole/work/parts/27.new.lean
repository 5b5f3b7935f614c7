/-! the rows for what is made: objects, arrays; the constructors -/
section VN
variable {p : Program} {l : Launch} {e : Env} {R : Room} {s : State} {m : MethodId} {args : Array Value} {below : List Frame} {meth : Method} {c : Code} {D : va_G} {A : Nat → Prop} {nL cells slots : Nat} {Q : State → Prop}
variable {cc : ByteArray} {own : String} {tys : List (ClassId × FieldType)} {fr lo : Nat} {pc q : Nat} {lv : List (Nat × Value)} {st : List Value} {ws : va_W}
theorem v_new (F : Fx p s m args c cc own D tys A nL fr lo R) {C : String} {T : u_T} {N ci index : Nat} (hin : ∀ w ∈ u_ws C T N, w ∈ ALL) (ty : Nat → FieldType) (hty : ∀ k, k < N → parseFieldDescriptor (T k).2.2.1 = some (ty k)) (hcl : Cond.classLink own index C ∈ ALL) (hinst : Cond.instantiable C N ∈ ALL) (hini : Cond.initialized C ∈ ALL) (hc : vwCl[ci]? = some (C, T, N)) {fs : List Value} (hfs : ∀ j, j < N → defaultValue (ty j) = vp_V fs j) (hcells : cells + 1 ≤ R.cells) (hslots : slots + N ≤ R.slots) (hd : decode cc pc = .ok (.new index, 3)) (hq : pc + 3 = q)
    (k : ∀ a : Nat, V p l e R s m args below meth c D A nL (cells + 1) (slots + N) Q q lv (.ref a :: st) (ws ++ [(a, .inr (ci, fs))])) : V p l e R s m args below meth c D A nL cells slots Q pc lv st ws := by
  subst hq
  intro H locs ls hP hD hS hl
  exact va_new F.1 F.2.1 F.2.2.2.2.1 hin ty hty F.2.2.2.1 (F.2.2.2.2.1 _ hcl) (F.2.2.2.2.1 _ hinst) (F.2.2.2.2.1 _ hini) F.2.2.2.2.2.2.1 hP hD hS F.2.2.2.2.2.2.2.1 hc hfs hcells hslots hd (fun a H1 hP1 hD1 hS1 => k a H1 locs ls hP1 hD1 hS1 hl)
variable {cI cJ cZ : ClassId}
theorem v_newI (F : Fx p s m args c cc own D (TY cI cJ cZ) A nL fr lo R) {n : Int32} {N' : Nat} (hn : ¬ n < 0) (hN : n.toNatClampNeg = N') (hbytes : N' * componentBytes .int ≤ 536870912) (hcells : cells + 1 ≤ R.cells) (hslots : slots + N' ≤ R.slots) (hd : decode cc pc = .ok (.newarray .int, 2)) (hq : pc + 2 = q)
    (k : ∀ a : Nat, V p l e R s m args below meth c D A nL (cells + 1) (slots + N') Q q lv (.ref a :: st) (ws ++ [(a, .inl (cI, N', .inl (fun _ => 0)))])) : V p l e R s m args below meth c D A nL cells slots Q pc lv (.int n :: st) ws := by
  subst hq
  intro H locs ls hP hD hS hl
  refine va_newa (ty := .int) (atype := .int) F.1 F.2.1 (F.2.2.2.2.1 _ ac_int) rfl F.2.2.2.2.2.2.1 hP hD hS F.2.2.2.2.2.2.2.1 (a0 := (N', .inl (fun _ => 0))) (fun cA => rfl) hn hN hbytes hcells hslots hd (fun a cA H1 hK1 hP1 hD1 hS1 => ?_)
  have h1 := va_nm_int (F.2.2.2.2.2.2.1.2 0 _ rfl).2
  have h2 := va_nm_int (hK1.2 3 _ rfl).2
  have h3 : cI = cA := Option.some.inj (h1.symm.trans h2)
  subst h3
  exact k a H1 locs ls hP1 hD1 hS1 hl
theorem v_newJ (F : Fx p s m args c cc own D (TY cI cJ cZ) A nL fr lo R) {n : Int32} {N' : Nat} (hn : ¬ n < 0) (hN : n.toNatClampNeg = N') (hbytes : N' * componentBytes .long ≤ 536870912) (hcells : cells + 1 ≤ R.cells) (hslots : slots + N' ≤ R.slots) (hd : decode cc pc = .ok (.newarray .long, 2)) (hq : pc + 2 = q)
    (k : ∀ a : Nat, V p l e R s m args below meth c D A nL (cells + 1) (slots + N') Q q lv (.ref a :: st) (ws ++ [(a, .inl (cJ, N', .inr (.inl (fun _ => 0))))])) : V p l e R s m args below meth c D A nL cells slots Q pc lv (.int n :: st) ws := by
  subst hq
  intro H locs ls hP hD hS hl
  refine va_newa (ty := .long) (atype := .long) F.1 F.2.1 (F.2.2.2.2.1 _ ac_long) rfl F.2.2.2.2.2.2.1 hP hD hS F.2.2.2.2.2.2.2.1 (a0 := (N', .inr (.inl (fun _ => 0)))) (fun cA => rfl) hn hN hbytes hcells hslots hd (fun a cA H1 hK1 hP1 hD1 hS1 => ?_)
  have h1 := va_nm_long (F.2.2.2.2.2.2.1.2 1 _ rfl).2
  have h2 := va_nm_long (hK1.2 3 _ rfl).2
  have h3 : cJ = cA := Option.some.inj (h1.symm.trans h2)
  subst h3
  exact k a H1 locs ls hP1 hD1 hS1 hl
theorem v_newZ (F : Fx p s m args c cc own D (TY cI cJ cZ) A nL fr lo R) {n : Int32} {N' : Nat} (hn : ¬ n < 0) (hN : n.toNatClampNeg = N') (hbytes : N' * componentBytes .boolean ≤ 536870912) (hcells : cells + 1 ≤ R.cells) (hslots : slots + N' ≤ R.slots) (hd : decode cc pc = .ok (.newarray .boolean, 2)) (hq : pc + 2 = q)
    (k : ∀ a : Nat, V p l e R s m args below meth c D A nL (cells + 1) (slots + N') Q q lv (.ref a :: st) (ws ++ [(a, .inl (cZ, N', .inl (fun _ => 0)))])) : V p l e R s m args below meth c D A nL cells slots Q pc lv (.int n :: st) ws := by
  subst hq
  intro H locs ls hP hD hS hl
  refine va_newa (ty := .boolean) (atype := .boolean) F.1 F.2.1 (F.2.2.2.2.1 _ ac_boolean) rfl F.2.2.2.2.2.2.1 hP hD hS F.2.2.2.2.2.2.2.1 (a0 := (N', .inl (fun _ => 0))) (fun cA => rfl) hn hN hbytes hcells hslots hd (fun a cA H1 hK1 hP1 hD1 hS1 => ?_)
  have h1 := va_nm_boolean (F.2.2.2.2.2.2.1.2 2 _ rfl).2
  have h2 := va_nm_boolean (hK1.2 3 _ rfl).2
  have h3 : cZ = cA := Option.some.inj (h1.symm.trans h2)
  subst h3
  exact k a H1 locs ls hP1 hD1 hS1 hl
end VN
