set_option maxHeartbeats 4000000 in
set_option maxRecDepth 100000 in
theorem whole_start {p : Program} {e : Env} {s : State} {m : MethodId} {below : List Frame} {meth : Method} {c : Code} (l : Launch) (hflags : l.flags = flags0) {b L : Nat} {xs : Nat → Int32} (hL : L ≤ 2560) (C0 : lw_At p s m meth c b L xs) : W p l e room_1 s m #[Value.ref b] below meth c s.heap [] 0 0 (lw_Z below #[Value.ref b] s) (entryFrame m ([Value.ref b] : List Value).toArray 4) := by
  obtain ⟨hx, hb, hr, hml, hown, hts, hX, hbl, hlocks, hgv⟩ := C0
  have hA : ∀ w ∈ ALL, w.before #[Value.ref b] s = true := fun w hw => hts w (List.mem_filter.mp hw).1
  have hN : NW s := by
    intro w hw hn
    have h1 := hts w hw
    cases w <;> first | exact va_Nw.of rfl h1 | (simp [nestW] at hn; done)
  obtain ⟨c0, i0, hK0⟩ := u_known (C := RX0) (T := TX0) (N := 11) (n := 11) hA iw_X0 (hA _ it_X0)
  obtain ⟨c1, i1, hK1⟩ := u_known (C := RX1) (T := TX1) (N := 5) (n := 5) hA iw_X1 (hA _ it_X1)
  obtain ⟨c2, i2, hK2⟩ := u_known (C := RX2) (T := TX2) (N := 5) (n := 5) hA iw_X2 (hA _ it_X2)
  obtain ⟨c3, i3, hK3⟩ := u_known (C := RX3) (T := TX3) (N := 3) (n := 3) hA iw_X3 (hA _ it_X3)
  obtain ⟨c4, i4, hK4⟩ := u_known (C := RX4) (T := TX4) (N := 4) (n := 4) hA iw_X4 (hA _ it_X4)
  obtain ⟨c5, i5, hK5⟩ := u_known (C := RX5) (T := TX5) (N := 6) (n := 6) hA iw_X5 (hA _ it_X5)
  obtain ⟨c6, i6, hK6⟩ := u_known (C := RX6) (T := TX6) (N := 3) (n := 3) hA iw_X6 (hA _ it_X6)
  obtain ⟨c7, i7, hK7⟩ := u_known (C := RX7) (T := TX7) (N := 8) (n := 8) hA iw_X7 (hA _ it_X7)
  obtain ⟨c8, i8, hK8⟩ := u_known (C := RX8) (T := TX8) (N := 23) (n := 23) hA iw_X8 (hA _ it_X8)
  obtain ⟨D, hKc⟩ : ∃ D : va_G, ∀ (k : Nat) (q : vw_C), vwCl[k]? = some q → u_Kn s q.1 q.2.1 q.2.2 (D.1 k) (D.2 k) := by
    refine ⟨(fun k => if k = 0 then c0 else if k = 1 then c1 else if k = 2 then c2 else if k = 3 then c3 else if k = 4 then c4 else if k = 5 then c5 else if k = 6 then c6 else if k = 7 then c7 else c8, fun k => if k = 0 then i0 else if k = 1 then i1 else if k = 2 then i2 else if k = 3 then i3 else if k = 4 then i4 else if k = 5 then i5 else if k = 6 then i6 else if k = 7 then i7 else i8), ?_⟩
    intro k q hq
    match k, hq with
    | 0, hq => cases hq; exact hK0
    | 1, hq => cases hq; exact hK1
    | 2, hq => cases hq; exact hK2
    | 3, hq => cases hq; exact hK3
    | 4, hq => cases hq; exact hK4
    | 5, hq => cases hq; exact hK5
    | 6, hq => cases hq; exact hK6
    | 7, hq => cases hq; exact hK7
    | 8, hq => cases hq; exact hK8
    | k + 9, hq => simp [vwCl] at hq
  obtain ⟨cI, hI⟩ : ∃ cI : ClassId, ArrOfT s cI .int ∧ va_RA s cI .int := by
    obtain ⟨cA, kA, comp, h1, h2, h3⟩ := Cond.arrayClass_spec (hA _ ac_int)
    exact ⟨cA, fun n z => ⟨fun k h => (by cases h), kA, h2, comp, h3⟩, h1⟩
  obtain ⟨cJ, hJ⟩ : ∃ cJ : ClassId, ArrOfT s cJ .long ∧ va_RA s cJ .long := by
    obtain ⟨cA, kA, comp, h1, h2, h3⟩ := Cond.arrayClass_spec (hA _ ac_long)
    exact ⟨cA, fun n z => ⟨fun k h => (by cases h), kA, h2, comp, h3⟩, h1⟩
  obtain ⟨cZ, hZ⟩ : ∃ cZ : ClassId, ArrOfT s cZ .boolean ∧ va_RA s cZ .boolean := by
    obtain ⟨cA, kA, comp, h1, h2, h3⟩ := Cond.arrayClass_spec (hA _ ac_boolean)
    exact ⟨cA, fun n z => ⟨fun k h => (by cases h), kA, h2, comp, h3⟩, h1⟩
  have hK : va_K D vwCl (TY cI cJ cZ) s := by
    refine ⟨hKc, fun k q hq => ?_⟩
    match k, hq with
    | 0, hq => cases hq; exact hI
    | 1, hq => cases hq; exact hJ
    | 2, hq => cases hq; exact hZ
    | k + 3, hq => simp at hq
  have F : Fx p s m #[Value.ref b] c cL_law RL D (TY cI cJ cZ) (fun q => s.heap.size ≤ q) 4 9 318 room_1 := ⟨hx, hb, hml, hown, hA, hN, hK, fun _ h => h, Nat.le_refl _, Nat.le_refl _⟩
  have hcs0 : 39 ≤ room_1.cells ∧ 377 ≤ room_1.slots := ⟨Nat.le_refl _, Nat.le_refl _⟩
  have hM0 : (fun i => bI ((0 : Nat).testBit i)) = (fun _ => (0 : Int32)) := by
    funext i
    rw [Nat.zero_testBit]
    rfl
  have K : V p l e room_1 s m #[Value.ref b] below meth c D (fun q => s.heap.size ≤ q) 4 0 0 (lw_Z below #[Value.ref b] s) 0 [(0, .ref b)] [] [] := by
    refine v_new F iw_X7 tyX7 tyX7_ok cl_L_7 it_X7 in_X7 (ci := 7) (fs := [.null, .null, .null, .null, .null, .null, .null, .int 0]) rfl (fun j hj => by rcases (show j = 0 ∨ j = 1 ∨ j = 2 ∨ j = 3 ∨ j = 4 ∨ j = 5 ∨ j = 6 ∨ j = 7 by omega) with rfl | rfl | rfl | rfl | rfl | rfl | rfl | rfl <;> rfl) (Nat.le_trans (Nat.le_of_ble_eq_true rfl) hcs0.1) (Nat.le_trans (Nat.le_of_ble_eq_true rfl) hcs0.2) dL_law_0 (q := 3) rfl (fun z => ?_)
    refine v_ws (ws' := [(z, .inr (7, [.null, .null, .null, .null, .null, .null, .null, .int 0]))]) rfl ?_
    refine v_dup F dL_law_3 rfl (q := 4) rfl ?_
    refine v_callI F ml_L_9 im_X7_init in_X7 co_X7_init rfl sd_X7_init (c_X7_init z) ⟨Nat.le_trans (Nat.le_of_ble_eq_true rfl) hcs0.1, Nat.le_trans (Nat.le_of_ble_eq_true rfl) hcs0.2⟩ (Nat.le_of_ble_eq_true rfl) (Nat.le_of_ble_eq_true rfl) (As := []) rfl rfl [0] rfl rfl rfl (rest := [.ref z]) rfl (Nat.le_of_ble_eq_true rfl) dL_law_4 (q := 7) rfl (fun r w hr => ?_)
    obtain ⟨g, ga, gb, gc, h, ha, hb, hc, hd, o, oa, ob, oc, od, ca, m0, ma, mb, mc, v0, t, ta, tb, rfl, rfl⟩ := hr
    refine v_ws (ws' := [(z, .inr (7, [.ref g, .ref h, .ref o, .ref ca, .ref m0, .ref v0, .ref t, .int 0])), (g, .inr (2, [.ref ga, .ref gb, .ref gc, .int 0, .int 0])), (ga, .inl (cI, 6, .inl (fun _ => 0))), (gb, .inl (cI, 6, .inl (fun _ => 0))), (gc, .inl (cI, 6, .inl (fun _ => 0))), (h, .inr (5, [.ref ha, .ref hb, .ref hc, .ref hd, .int 0, .int 0])), (ha, .inl (cI, 12, .inl (fun _ => 0))), (hb, .inl (cI, 12, .inl (fun _ => 0))), (hc, .inl (cI, 12, .inl (fun _ => 0))), (hd, .inl (cI, 12, .inl (fun _ => 0))), (o, .inr (4, [.ref oa, .ref ob, .ref oc, .ref od])), (oa, .inl (cI, 3, .inl (fun _ => 0))), (ob, .inl (cJ, 3, .inr (.inl (fun _ => 0)))), (oc, .inl (cJ, 3, .inr (.inl (fun _ => 0)))), (od, .inl (cJ, 3, .inr (.inl (fun _ => 0)))), (ca, .inr (0, [.ref h, .long 0, .long 0, .long 0, .long 0, .long 0, .long 0, .long 1, .long 0, .long 0, .long 0])), (m0, .inr (3, [.ref ma, .ref mb, .ref mc])), (ma, .inl (cI, 12, .inl (fun _ => 0))), (mb, .inl (cI, 12, .inl (fun _ => 0))), (mc, .inl (cI, 12, .inl (fun _ => 0))), (v0, .inr (1, [.int 0, .int 0, .int 0, .int 0, .int 0])), (t, .inr (6, [.ref ta, .ref tb, .int 0])), (ta, .inl (cJ, 15, .inr (.inl (fun _ => 0)))), (tb, .inl (cJ, 15, .inr (.inl (fun _ => 0))))]) rfl ?_
    refine v_st (st' := [.ref z]) rfl ?_
    refine v_astore_n F dL_law_7 (i := 1) (lv' := [(1, .ref z), (0, .ref b)]) rfl (Nat.le_of_ble_eq_true rfl) rfl (q := 8) rfl ?_
    refine v_new F iw_X8 tyX8 tyX8_ok cl_L_10 it_X8 in_X8 (ci := 8) (fs := [.int 0, .null, .null, .null, .int 0, .int 0, .int 0, .null, .null, .null, .null, .null, .null, .null, .null, .null, .int 0, .null, .null, .long 0, .long 0, .long 0, .long 0]) rfl (fun j hj => by rcases (show j = 0 ∨ j = 1 ∨ j = 2 ∨ j = 3 ∨ j = 4 ∨ j = 5 ∨ j = 6 ∨ j = 7 ∨ j = 8 ∨ j = 9 ∨ j = 10 ∨ j = 11 ∨ j = 12 ∨ j = 13 ∨ j = 14 ∨ j = 15 ∨ j = 16 ∨ j = 17 ∨ j = 18 ∨ j = 19 ∨ j = 20 ∨ j = 21 ∨ j = 22 by omega) with rfl | rfl | rfl | rfl | rfl | rfl | rfl | rfl | rfl | rfl | rfl | rfl | rfl | rfl | rfl | rfl | rfl | rfl | rfl | rfl | rfl | rfl | rfl <;> rfl) (Nat.le_trans (Nat.le_of_ble_eq_true rfl) hcs0.1) (Nat.le_trans (Nat.le_of_ble_eq_true rfl) hcs0.2) dL_law_8 (q := 11) rfl (fun y0 => ?_)
    refine v_ws (ws' := [(z, .inr (7, [.ref g, .ref h, .ref o, .ref ca, .ref m0, .ref v0, .ref t, .int 0])), (g, .inr (2, [.ref ga, .ref gb, .ref gc, .int 0, .int 0])), (ga, .inl (cI, 6, .inl (fun _ => 0))), (gb, .inl (cI, 6, .inl (fun _ => 0))), (gc, .inl (cI, 6, .inl (fun _ => 0))), (h, .inr (5, [.ref ha, .ref hb, .ref hc, .ref hd, .int 0, .int 0])), (ha, .inl (cI, 12, .inl (fun _ => 0))), (hb, .inl (cI, 12, .inl (fun _ => 0))), (hc, .inl (cI, 12, .inl (fun _ => 0))), (hd, .inl (cI, 12, .inl (fun _ => 0))), (o, .inr (4, [.ref oa, .ref ob, .ref oc, .ref od])), (oa, .inl (cI, 3, .inl (fun _ => 0))), (ob, .inl (cJ, 3, .inr (.inl (fun _ => 0)))), (oc, .inl (cJ, 3, .inr (.inl (fun _ => 0)))), (od, .inl (cJ, 3, .inr (.inl (fun _ => 0)))), (ca, .inr (0, [.ref h, .long 0, .long 0, .long 0, .long 0, .long 0, .long 0, .long 1, .long 0, .long 0, .long 0])), (m0, .inr (3, [.ref ma, .ref mb, .ref mc])), (ma, .inl (cI, 12, .inl (fun _ => 0))), (mb, .inl (cI, 12, .inl (fun _ => 0))), (mc, .inl (cI, 12, .inl (fun _ => 0))), (v0, .inr (1, [.int 0, .int 0, .int 0, .int 0, .int 0])), (t, .inr (6, [.ref ta, .ref tb, .int 0])), (ta, .inl (cJ, 15, .inr (.inl (fun _ => 0)))), (tb, .inl (cJ, 15, .inr (.inl (fun _ => 0)))), (y0, .inr (8, [.int 0, .null, .null, .null, .int 0, .int 0, .int 0, .null, .null, .null, .null, .null, .null, .null, .null, .null, .int 0, .null, .null, .long 0, .long 0, .long 0, .long 0]))]) rfl ?_
    refine v_dup F dL_law_11 rfl (q := 12) rfl ?_
    refine v_callI F ml_L_12 im_X8_init in_X8 co_X8_init rfl sd_X8_init (c_X8_init y0) ⟨Nat.le_trans (Nat.le_of_ble_eq_true rfl) hcs0.1, Nat.le_trans (Nat.le_of_ble_eq_true rfl) hcs0.2⟩ (Nat.le_of_ble_eq_true rfl) (Nat.le_of_ble_eq_true rfl) (As := []) rfl rfl [24] rfl rfl rfl (rest := [.ref y0]) rfl (Nat.le_of_ble_eq_true rfl) dL_law_12 (q := 15) rfl (fun r w hr => ?_)
    obtain ⟨y1, y2, y3, y4, y5, y6, y7, y8, y9, y10, y11, y12, y13, y14, rfl, rfl⟩ := hr
    refine v_ws (ws' := [(z, .inr (7, [.ref g, .ref h, .ref o, .ref ca, .ref m0, .ref v0, .ref t, .int 0])), (g, .inr (2, [.ref ga, .ref gb, .ref gc, .int 0, .int 0])), (ga, .inl (cI, 6, .inl (fun _ => 0))), (gb, .inl (cI, 6, .inl (fun _ => 0))), (gc, .inl (cI, 6, .inl (fun _ => 0))), (h, .inr (5, [.ref ha, .ref hb, .ref hc, .ref hd, .int 0, .int 0])), (ha, .inl (cI, 12, .inl (fun _ => 0))), (hb, .inl (cI, 12, .inl (fun _ => 0))), (hc, .inl (cI, 12, .inl (fun _ => 0))), (hd, .inl (cI, 12, .inl (fun _ => 0))), (o, .inr (4, [.ref oa, .ref ob, .ref oc, .ref od])), (oa, .inl (cI, 3, .inl (fun _ => 0))), (ob, .inl (cJ, 3, .inr (.inl (fun _ => 0)))), (oc, .inl (cJ, 3, .inr (.inl (fun _ => 0)))), (od, .inl (cJ, 3, .inr (.inl (fun _ => 0)))), (ca, .inr (0, [.ref h, .long 0, .long 0, .long 0, .long 0, .long 0, .long 0, .long 1, .long 0, .long 0, .long 0])), (m0, .inr (3, [.ref ma, .ref mb, .ref mc])), (ma, .inl (cI, 12, .inl (fun _ => 0))), (mb, .inl (cI, 12, .inl (fun _ => 0))), (mc, .inl (cI, 12, .inl (fun _ => 0))), (v0, .inr (1, [.int 0, .int 0, .int 0, .int 0, .int 0])), (t, .inr (6, [.ref ta, .ref tb, .int 0])), (ta, .inl (cJ, 15, .inr (.inl (fun _ => 0)))), (tb, .inl (cJ, 15, .inr (.inl (fun _ => 0)))), (y0, .inr (8, [.int 0, .ref y1, .ref y2, .ref y3, .int 0, .int 0, .int 0, .ref y4, .ref y5, .ref y6, .ref y7, .ref y8, .ref y9, .ref y10, .ref y11, .ref y12, .int 0, .ref y13, .ref y14, .long 0, .long 0, .long 0, .long 0])), (y1, .inl (cI, 6, .inl (fun _ => 0))), (y2, .inl (cI, 6, .inl (fun _ => 0))), (y3, .inl (cI, 6, .inl (fun _ => 0))), (y4, .inl (cI, 12, .inl (fun _ => 0))), (y5, .inl (cI, 12, .inl (fun _ => 0))), (y6, .inl (cI, 12, .inl (fun _ => 0))), (y7, .inl (cI, 12, .inl (fun _ => 0))), (y8, .inl (cZ, 12, .inl (fun _ => 0))), (y9, .inl (cI, 3, .inl (fun _ => 0))), (y10, .inl (cI, 18, .inl (fun _ => 0))), (y11, .inl (cI, 18, .inl (fun _ => 0))), (y12, .inl (cI, 18, .inl (fun _ => 0))), (y13, .inl (cJ, 15, .inr (.inl (fun _ => 0)))), (y14, .inl (cJ, 15, .inr (.inl (fun _ => 0))))]) rfl ?_
    refine v_ws (ws' := [(z, .inr (7, [.ref g, .ref h, .ref o, .ref ca, .ref m0, .ref v0, .ref t, .int 0])), (g, .inr (2, [.ref ga, .ref gb, .ref gc, .int 0, .int 0])), (ga, .inl (cI, 6, .inl (fun _ => 0))), (gb, .inl (cI, 6, .inl (fun _ => 0))), (gc, .inl (cI, 6, .inl (fun _ => 0))), (h, .inr (5, [.ref ha, .ref hb, .ref hc, .ref hd, .int 0, .int 0])), (ha, .inl (cI, 12, .inl (fun _ => 0))), (hb, .inl (cI, 12, .inl (fun _ => 0))), (hc, .inl (cI, 12, .inl (fun _ => 0))), (hd, .inl (cI, 12, .inl (fun _ => 0))), (o, .inr (4, [.ref oa, .ref ob, .ref oc, .ref od])), (oa, .inl (cI, 3, .inl (fun _ => 0))), (ob, .inl (cJ, 3, .inr (.inl (fun _ => 0)))), (oc, .inl (cJ, 3, .inr (.inl (fun _ => 0)))), (od, .inl (cJ, 3, .inr (.inl (fun _ => 0)))), (ca, .inr (0, [.ref h, .long 0, .long 0, .long 0, .long 0, .long 0, .long 0, .long 1, .long 0, .long 0, .long 0])), (m0, .inr (3, [.ref ma, .ref mb, .ref mc])), (ma, .inl (cI, 12, .inl (fun _ => 0))), (mb, .inl (cI, 12, .inl (fun _ => 0))), (mc, .inl (cI, 12, .inl (fun _ => 0))), (v0, .inr (1, [.int 0, .int 0, .int 0, .int 0, .int 0])), (t, .inr (6, [.ref ta, .ref tb, .int 0])), (ta, .inl (cJ, 15, .inr (.inl (fun _ => 0)))), (tb, .inl (cJ, 15, .inr (.inl (fun _ => 0)))), (y0, .inr (8, [.int 0, .ref y1, .ref y2, .ref y3, .int 0, .int 0, .int 0, .ref y4, .ref y5, .ref y6, .ref y7, .ref y8, .ref y9, .ref y10, .ref y11, .ref y12, .int 0, .ref y13, .ref y14, .long 0, .long 0, .long 0, .long 0])), (y1, .inl (cI, 6, .inl (fun _ => 0))), (y2, .inl (cI, 6, .inl (fun _ => 0))), (y3, .inl (cI, 6, .inl (fun _ => 0))), (y4, .inl (cI, 12, .inl (fun _ => 0))), (y5, .inl (cI, 12, .inl (fun _ => 0))), (y6, .inl (cI, 12, .inl (fun _ => 0))), (y7, .inl (cI, 12, .inl (fun _ => 0))), (y8, .inl (cZ, 12, .inl (fun i => bI ((0 : Nat).testBit i)))), (y9, .inl (cI, 3, .inl (fun _ => 0))), (y10, .inl (cI, 18, .inl (fun _ => 0))), (y11, .inl (cI, 18, .inl (fun _ => 0))), (y12, .inl (cI, 18, .inl (fun _ => 0))), (y13, .inl (cJ, 15, .inr (.inl (fun _ => 0)))), (y14, .inl (cJ, 15, .inr (.inl (fun _ => 0))))]) (by rw [hM0]) ?_
    refine v_ws (ws' := (WC cI cJ z g ga gb gc h ha hb hc hd o oa ob oc od ca m0 ma mb mc v0 t ta tb S0 (0, 0, 0, 0, 0, 0, 1, 0, 0, 0, fun _ => 0, fun _ => 0, fun _ => 0, 0, 0, 0, 0, 0)) ++ (WM cI cJ cZ y0 y1 y2 y3 y4 y5 y6 y7 y8 y9 y10 y11 y12 y13 y14 S0 (0, 0, 0, 0))) rfl ?_
    refine v_st (st' := [.ref y0]) rfl ?_
    refine v_astore_n F dL_law_15 (i := 2) (lv' := [(2, .ref y0), (1, .ref z), (0, .ref b)]) rfl (Nat.le_of_ble_eq_true rfl) rfl (q := 16) rfl ?_
    refine v_iconst F dL_law_16 (v := nI 0) (q := 17) rfl rfl ?_
    refine v_istore_n F dL_law_17 (i := 3) (lv' := [(3, .int (nI 0)), (2, .ref y0), (1, .ref z), (0, .ref b)]) rfl (Nat.le_of_ble_eq_true rfl) rfl (q := 18) rfl ?_
    refine v_lv (lv' := [(0, .ref b), (1, .ref z), (2, .ref y0), (3, .int (nI 0))]) [3, 2, 1, 0] rfl ?_
    refine v_wide (k2 := 39) (n2 := 377) (Nat.le_of_ble_eq_true rfl) (Nat.le_of_ble_eq_true rfl) ?_
    exact law_loop l hL F hX hbl hr hlocks (L + 5) 0 S0 _ _ (by omega) inv_0
  have hl := lv_entry ([.ref b]) (n := 4) (Nat.le_of_ble_eq_true rfl)
  rw [lg_entry_eq]
  generalize (lg_sl ([.ref b]) ++ List.replicate (4 - (lg_sl ([.ref b])).length) Slot.unset).toArray = ls at hl ⊢
  have hl : lv_has ls 4 [(0, .ref b)] := hl
  exact K s.heap [] ls (fun k q h => by simp at h) ⟨fun i j p q h => by simp at h, fun k q h => by simp at h⟩ va_S.rf hl
