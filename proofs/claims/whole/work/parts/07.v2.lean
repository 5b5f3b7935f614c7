section V2
variable {p : Program} {l : Launch} {e : Env} {R : Room} {s : State} {m : MethodId} {args : Array Value} {below : List Frame} {meth : Method} {c : Code} {D : va_G} {A : Nat → Prop} {nL cells slots : Nat} {Q : State → Prop}
variable {cc : ByteArray} {own : String} {tys : List (ClassId × FieldType)} {fr lo : Nat} {pc q n : Nat} {lv lv' : List (Nat × Value)} {st rest : List Value} {ws ws' : va_W}
theorem v_callSN (F : Fx p s m args c cc own D tys A nL fr lo R) {y : MethodName} {cc' : ByteArray} {maxL fr' lo' mc ms np : Nat} {ret : Option FieldType} {av : List Value} {w0 : va_W} {Q' : Option Value → va_W → Prop} {index : Nat} {host : String} (k1 : Cond.methodLinkNest own index y host ∈ lw_tbl) (k2 : Cond.static y ∈ ALL) (k4 : Cond.initialized y.cls ∈ ALL) (k5 : Cond.code y cc' maxL ret ∈ ALL) (hy : y.cls ≠ "java/lang/invoke/MethodHandle" ∧ y.cls ≠ "java/lang/invoke/VarHandle" ∧ (parseMethodDescriptor y.desc).map (fun d => d.parameters.length) = some np) (hM : Ct l D tys y cc' maxL ret fr' lo' mc ms av w0 Q') (hcs : cells + mc ≤ R.cells ∧ slots + ms ≤ R.slots) (hfr : fr' + 1 ≤ fr) (hlo : 8 + (maxL + 11) + lo' ≤ lo) (hnp : av.length = np) (isC : List Nat) (hC : isC.map (fun i => ws[i]?) = w0.map some) (hn : decide isC.Nodup = true) (hn2 : va_nd isC = true) (hst : st = av.reverse ++ rest) (hW : (rest.map fun v => v.category).sum ≤ 8) (hd : decode cc pc = .ok (.invokestatic index, 3)) (hq : pc + 3 = q) (kk : ∀ (r : Option Value) (w1 : va_W), Q' r w1 → V p l e R s m args below meth c D A nL (cells + mc) (slots + ms) Q q lv (r.toList ++ rest) (wset ws isC w1)) : V p l e R s m args below meth c D A nL cells slots Q pc lv st ws := by
  subst hq
  intro H locs ls hP hD hS hl
  exact v_ret0 hP hD hS F.2.2.2.2.2.2.2.1 hC (nodup_of hn) (va_runSN (As := av) ⟨F.1, F.2.1, F.2.2.1, F.2.2.2.1, F.2.2.2.2.1⟩ (hM H.size) ⟨va_cnB np F.2.2.2.2.1 (good_ALL k5) rfl rfl rfl (F.2.2.2.2.2.1 _ k1 rfl) (F.2.2.2.2.1 _ k4) hy ⟨Nat.le_trans hfr F.2.2.2.2.2.2.2.2.1, Nat.le_trans hlo F.2.2.2.2.2.2.2.2.2⟩, ⟨F.2.2.2.2.1 _ k2, trivial⟩⟩ ⟨pw_blind, pw_at F.2.2.2.2.2.2.1 F.2.2.2.2.2.1 hP hD hC hn2⟩ rfl hnp hl.1 hst (lv_room hW) hd hcs) (fun r w1 hq H1 locs1 hP hD hS => kk r w1 hq H1 locs1 ls hP hD hS hl)
theorem v_objInit (F : Fx p s m args c cc own D tys A nL fr lo R) {index : Nat} {a : Nat} (k1 : Cond.methodLink own index objectInit ∈ ALL) (hd : decode cc pc = .ok (.invokespecial index, 3)) (hf : 1 ≤ fr) (hlo : (st.map fun v => v.category).sum + 12 ≤ lo) (hq : pc + 3 = q) (k : V p l e R s m args below meth c D A nL cells slots Q q lv st ws) : V p l e R s m args below meth c D A nL cells slots Q pc lv (.ref a :: st) ws := by
  subst hq
  exact fun H locs ls hP hD hS hl => W.objInit F.1 F.2.1 F.2.2.2.1 (F.2.2.2.2.1 _ k1) (F.2.2.2.2.1 _ im_obj) (F.2.2.2.2.1 _ co_obj) rfl (hl.1.trans F.2.2.1.symm) rfl hd (Nat.le_trans hf F.2.2.2.2.2.2.2.2.1) (by show 2 * 0 + _ + 12 ≤ _; have := F.2.2.2.2.2.2.2.2.2; omega) (k H locs ls hP hD hS hl)
theorem v_tableIn (F : Fx p s m args c cc own D tys A nL fr lo R) {dflt lw hw : Int} {offs : Array Int} {len : Nat} {x : Int32} {off : Int} {tgt : Nat} (hd : decode cc pc = .ok (.tableswitch dflt lw hw offs, len)) (h1 : ¬ x.toInt < lw) (h2 : ¬ hw < x.toInt) (ho : offs[(x.toInt - lw).toNat]? = some off) (ht : (pc : Int) + off = (tgt : Int)) (k : V p l e R s m args below meth c D A nL cells slots Q tgt lv st ws) : V p l e R s m args below meth c D A nL cells slots Q pc lv (.int x :: st) ws := fun H locs ls hP hD hS hl => lv_tableIn F.1 F.2.1 hd h1 h2 ho ht (k H locs ls hP hD hS hl)
theorem v_tableOut (F : Fx p s m args c cc own D tys A nL fr lo R) {dflt lw hw : Int} {offs : Array Int} {len : Nat} {x : Int32} {tgt : Nat} (hd : decode cc pc = .ok (.tableswitch dflt lw hw offs, len)) (h : x.toInt < lw ∨ hw < x.toInt) (ht : (pc : Int) + dflt = (tgt : Int)) (k : V p l e R s m args below meth c D A nL cells slots Q tgt lv st ws) : V p l e R s m args below meth c D A nL cells slots Q pc lv (.int x :: st) ws := fun H locs ls hP hD hS hl => lv_tableOut F.1 F.2.1 hd h ht (k H locs ls hP hD hS hl)
theorem ts_x {x : Int32} {k : Int32} {z : Int} (h : x.toInt = z) (hk : k.toInt = z) : x = k := Int32.toInt_inj.mp (h.trans hk.symm)
theorem ts_6 (x : Int32) : x = 0 ∨ x = 1 ∨ x = 2 ∨ x = 3 ∨ x = 4 ∨ x = 5 ∨ x = 6 ∨ (x.toInt < 0 ∨ 6 < x.toInt) := by
  by_cases h : x.toInt < 0 ∨ 6 < x.toInt
  · simp [h]
  · rcases (show x.toInt = 0 ∨ x.toInt = 1 ∨ x.toInt = 2 ∨ x.toInt = 3 ∨ x.toInt = 4 ∨ x.toInt = 5 ∨ x.toInt = 6 by omega) with q | q | q | q | q | q | q
    · exact Or.inl (ts_x q rfl)
    · exact Or.inr (Or.inl (ts_x q rfl))
    · exact Or.inr (Or.inr (Or.inl (ts_x q rfl)))
    · exact Or.inr (Or.inr (Or.inr (Or.inl (ts_x q rfl))))
    · exact Or.inr (Or.inr (Or.inr (Or.inr (Or.inl (ts_x q rfl)))))
    · exact Or.inr (Or.inr (Or.inr (Or.inr (Or.inr (Or.inl (ts_x q rfl))))))
    · exact Or.inr (Or.inr (Or.inr (Or.inr (Or.inr (Or.inr (Or.inl (ts_x q rfl)))))))
theorem ts_3 (x : Int32) : x = 0 ∨ x = 1 ∨ x = 2 ∨ x = 3 ∨ (x.toInt < 0 ∨ 3 < x.toInt) := by
  by_cases h : x.toInt < 0 ∨ 3 < x.toInt
  · simp [h]
  · rcases (show x.toInt = 0 ∨ x.toInt = 1 ∨ x.toInt = 2 ∨ x.toInt = 3 by omega) with q | q | q | q
    · exact Or.inl (ts_x q rfl)
    · exact Or.inr (Or.inl (ts_x q rfl))
    · exact Or.inr (Or.inr (Or.inl (ts_x q rfl)))
    · exact Or.inr (Or.inr (Or.inr (Or.inl (ts_x q rfl))))
end V2
