section TP
variable {l : Launch} {D : va_G} {cI cJ cZ : ClassId}
set_option maxHeartbeats 4000000 in
set_option maxRecDepth 100000 in
theorem c_X7_settle (z g ga gb gc h ha hb hc hd o oa ob oc od ca m0 ma mb mc v0 t ta tb : Nat) (th : Nat → Int32) (sd : Nat → Int32) (tp : Nat → Int32) (n : Nat) (sc : Int32) (sp : Int32) (px : Nat → Int32) (py : Nat → Int32) (pl : Nat → Nat) (pk : Nat → Int32) (N : Nat) (M : Nat) (ls : Nat → Nat) (lv : Nat → Int32) (lx : Nat → Int32) (ly : Nat → Int32) (ab : Nat → Int64) (bl : Nat → Int64) (tn : Nat) (w1 : Int) (w2 : Int) (w3 : Int) (w4 : Int) (w5 : Int) (w6 : Int) (de : Int) (cw : Int) (cp : Int) (cq : Int) (pu : Nat → Int32) (be : Nat → Int32) (nr : Nat → Int32) (dp0 : Int32) (b0 : Int32) (lf0 : Int32) (mo0 : Int32) (us0 : Int32) (c1 : Int32) (VI : INV (th, sd, tp, n, sc, sp, px, py, pl, pk, N, M, ls, lv, lx, ly, ab, bl, tn))  : Ct l D (TY cI cJ cZ) yX7_settle cX7_settle 2 (some .int) 2 42 0 0 [.ref z, .int c1] [(z, .inr (7, [.ref g, .ref h, .ref o, .ref ca, .ref m0, .ref v0, .ref t, .int sp])), (g, .inr (2, [.ref ga, .ref gb, .ref gc, .int (nI n), .int sc])), (ga, .inl (cI, 6, .inl th)), (gb, .inl (cI, 6, .inl sd)), (gc, .inl (cI, 6, .inl tp)), (h, .inr (5, [.ref ha, .ref hb, .ref hc, .ref hd, .int (nI M), .int (nI N)])), (ha, .inl (cI, 12, .inl px)), (hb, .inl (cI, 12, .inl py)), (hc, .inl (cI, 12, .inl (fun i => nI (pl i)))), (hd, .inl (cI, 12, .inl pk)), (o, .inr (4, [.ref oa, .ref ob, .ref oc, .ref od])), (oa, .inl (cI, 3, .inl (fun i => nI (ls i)))), (ob, .inl (cJ, 3, .inr (.inl (fun i => zL (fsum ls lv i))))), (oc, .inl (cJ, 3, .inr (.inl (fun i => zL (fsum2 ls lv lx i))))), (od, .inl (cJ, 3, .inr (.inl (fun i => zL (fsum2 ls lv ly i))))), (ca, .inr (0, [.ref h, .long (zL w1), .long (zL w2), .long (zL w3), .long (zL w4), .long (zL w5), .long (zL w6), .long (zL de), .long (zL cw), .long (zL cp), .long (zL cq)])), (m0, .inr (3, [.ref ma, .ref mb, .ref mc])), (ma, .inl (cI, 12, .inl pu)), (mb, .inl (cI, 12, .inl be)), (mc, .inl (cI, 12, .inl nr)), (v0, .inr (1, [.int dp0, .int b0, .int lf0, .int mo0, .int us0])), (t, .inr (6, [.ref ta, .ref tb, .int (nI tn)])), (ta, .inl (cJ, 15, .inr (.inl ab))), (tb, .inl (cJ, 15, .inr (.inl bl)))] (fun r w => (inR c1 0 2 = false ∧ r = some (.int (-1)) ∧ w = [(z, .inr (7, [.ref g, .ref h, .ref o, .ref ca, .ref m0, .ref v0, .ref t, .int sp])), (g, .inr (2, [.ref ga, .ref gb, .ref gc, .int (nI n), .int sc])), (ga, .inl (cI, 6, .inl th)), (gb, .inl (cI, 6, .inl sd)), (gc, .inl (cI, 6, .inl tp)), (h, .inr (5, [.ref ha, .ref hb, .ref hc, .ref hd, .int (nI M), .int (nI N)])), (ha, .inl (cI, 12, .inl px)), (hb, .inl (cI, 12, .inl py)), (hc, .inl (cI, 12, .inl (fun i => nI (pl i)))), (hd, .inl (cI, 12, .inl pk)), (o, .inr (4, [.ref oa, .ref ob, .ref oc, .ref od])), (oa, .inl (cI, 3, .inl (fun i => nI (ls i)))), (ob, .inl (cJ, 3, .inr (.inl (fun i => zL (fsum ls lv i))))), (oc, .inl (cJ, 3, .inr (.inl (fun i => zL (fsum2 ls lv lx i))))), (od, .inl (cJ, 3, .inr (.inl (fun i => zL (fsum2 ls lv ly i))))), (ca, .inr (0, [.ref h, .long (zL w1), .long (zL w2), .long (zL w3), .long (zL w4), .long (zL w5), .long (zL w6), .long (zL de), .long (zL cw), .long (zL cp), .long (zL cq)])), (m0, .inr (3, [.ref ma, .ref mb, .ref mc])), (ma, .inl (cI, 12, .inl pu)), (mb, .inl (cI, 12, .inl be)), (mc, .inl (cI, 12, .inl nr)), (v0, .inr (1, [.int dp0, .int b0, .int lf0, .int mo0, .int us0])), (t, .inr (6, [.ref ta, .ref tb, .int (nI tn)])), (ta, .inl (cJ, 15, .inr (.inl ab))), (tb, .inl (cJ, 15, .inr (.inl bl)))]) ∨ (inR c1 0 2 = true ∧ ¬ 0 < dDE pk px py M N ∧ r = some (.int (-2)) ∧ w = [(z, .inr (7, [.ref g, .ref h, .ref o, .ref ca, .ref m0, .ref v0, .ref t, .int sp])), (g, .inr (2, [.ref ga, .ref gb, .ref gc, .int (nI n), .int sc])), (ga, .inl (cI, 6, .inl th)), (gb, .inl (cI, 6, .inl sd)), (gc, .inl (cI, 6, .inl tp)), (h, .inr (5, [.ref ha, .ref hb, .ref hc, .ref hd, .int (nI M), .int (nI N)])), (ha, .inl (cI, 12, .inl px)), (hb, .inl (cI, 12, .inl py)), (hc, .inl (cI, 12, .inl (fun i => nI (pl i)))), (hd, .inl (cI, 12, .inl pk)), (o, .inr (4, [.ref oa, .ref ob, .ref oc, .ref od])), (oa, .inl (cI, 3, .inl (fun i => nI (ls i)))), (ob, .inl (cJ, 3, .inr (.inl (fun i => zL (fsum ls lv i))))), (oc, .inl (cJ, 3, .inr (.inl (fun i => zL (fsum2 ls lv lx i))))), (od, .inl (cJ, 3, .inr (.inl (fun i => zL (fsum2 ls lv ly i))))), (ca, .inr (0, [.ref h, .long (zL (dWW pk px py M N)), .long (zL (dWP pk px py M N)), .long (zL (dWQ pk px py M N)), .long (zL (dPP pk px py M N)), .long (zL (dPQ pk px py M N)), .long (zL (dQQ pk px py M N)), .long (zL (dDE pk px py M N)), .long (zL cw), .long (zL cp), .long (zL cq)])), (m0, .inr (3, [.ref ma, .ref mb, .ref mc])), (ma, .inl (cI, 12, .inl pu)), (mb, .inl (cI, 12, .inl be)), (mc, .inl (cI, 12, .inl nr)), (v0, .inr (1, [.int dp0, .int b0, .int lf0, .int mo0, .int us0])), (t, .inr (6, [.ref ta, .ref tb, .int (nI tn)])), (ta, .inl (cJ, 15, .inr (.inl ab))), (tb, .inl (cJ, 15, .inr (.inl bl)))]) ∨ (inR c1 0 2 = true ∧ 0 < dDE pk px py M N ∧ r = some (.int 0) ∧ w = [(z, .inr (7, [.ref g, .ref h, .ref o, .ref ca, .ref m0, .ref v0, .ref t, .int sp])), (g, .inr (2, [.ref ga, .ref gb, .ref gc, .int (nI n), .int sc])), (ga, .inl (cI, 6, .inl th)), (gb, .inl (cI, 6, .inl sd)), (gc, .inl (cI, 6, .inl tp)), (h, .inr (5, [.ref ha, .ref hb, .ref hc, .ref hd, .int (nI M), .int (nI N)])), (ha, .inl (cI, 12, .inl px)), (hb, .inl (cI, 12, .inl py)), (hc, .inl (cI, 12, .inl (fun i => nI (pl i)))), (hd, .inl (cI, 12, .inl pk)), (o, .inr (4, [.ref oa, .ref ob, .ref oc, .ref od])), (oa, .inl (cI, 3, .inl (fun i => nI (ls i)))), (ob, .inl (cJ, 3, .inr (.inl (fun i => zL (fsum ls lv i))))), (oc, .inl (cJ, 3, .inr (.inl (fun i => zL (fsum2 ls lv lx i))))), (od, .inl (cJ, 3, .inr (.inl (fun i => zL (fsum2 ls lv ly i))))), (ca, .inr (0, [.ref h, .long (zL (dWW pk px py M N)), .long (zL (dWP pk px py M N)), .long (zL (dWQ pk px py M N)), .long (zL (dPP pk px py M N)), .long (zL (dPQ pk px py M N)), .long (zL (dQQ pk px py M N)), .long (zL (dDE pk px py M N)), .long (zL (cWi pk px py M N ls lv lx ly (pN c1))), .long (zL (cPi pk px py M N ls lv lx ly (pN c1))), .long (zL (cQi pk px py M N ls lv lx ly (pN c1)))])), (m0, .inr (3, [.ref ma, .ref mb, .ref mc])), (ma, .inl (cI, 12, .inl pu)), (mb, .inl (cI, 12, .inl be)), (mc, .inl (cI, 12, .inl nr)), (v0, .inr (1, [.int dp0, .int b0, .int lf0, .int mo0, .int us0])), (t, .inr (6, [.ref ta, .ref tb, .int (nI tn)])), (ta, .inl (cJ, 15, .inr (.inl ab))), (tb, .inl (cJ, 15, .inr (.inl bl)))])) := by
  refine Ct.ofI (ty := .int) (by decide) (Nat.le_of_ble_eq_true rfl) ?_
  intro p e s m args below meth c A R Q F hnm hcs0 hE
  refine v_lv (lv' := [(0, .ref z), (1, .int c1)]) [0, 1] rfl ?_
  obtain ⟨G, hsp, P, hM, hls, hlv, hlx, hly, htn⟩ := id VI
  have hn6 := G.1
  have hN12 := P.1
  have hM4 : M < 4096 := Nat.lt_of_lt_of_le hM (Nat.pow_le_pow_right (by omega) hN12)
  refine v_iload_n F dX7_settle_0 (i := 1) rfl 1 rfl (q := 1) rfl ?_
  refine v_callS F ml_X7_135 sm_X7_isCase in_X7 co_X7_isCase sd_X7_isCase (c_X7_isCase c1) ⟨Nat.zero_le _, Nat.zero_le _⟩ (Nat.le_of_ble_eq_true rfl) (Nat.le_of_ble_eq_true rfl) rfl [] rfl rfl rfl (rest := []) rfl (Nat.le_of_ble_eq_true rfl) dX7_settle_1 (q := 4) rfl (fun r w hr => ?_)
  obtain ⟨rfl, rfl⟩ := hr
  refine v_ws (ws' := [(z, .inr (7, [.ref g, .ref h, .ref o, .ref ca, .ref m0, .ref v0, .ref t, .int sp])), (g, .inr (2, [.ref ga, .ref gb, .ref gc, .int (nI n), .int sc])), (ga, .inl (cI, 6, .inl th)), (gb, .inl (cI, 6, .inl sd)), (gc, .inl (cI, 6, .inl tp)), (h, .inr (5, [.ref ha, .ref hb, .ref hc, .ref hd, .int (nI M), .int (nI N)])), (ha, .inl (cI, 12, .inl px)), (hb, .inl (cI, 12, .inl py)), (hc, .inl (cI, 12, .inl (fun i => nI (pl i)))), (hd, .inl (cI, 12, .inl pk)), (o, .inr (4, [.ref oa, .ref ob, .ref oc, .ref od])), (oa, .inl (cI, 3, .inl (fun i => nI (ls i)))), (ob, .inl (cJ, 3, .inr (.inl (fun i => zL (fsum ls lv i))))), (oc, .inl (cJ, 3, .inr (.inl (fun i => zL (fsum2 ls lv lx i))))), (od, .inl (cJ, 3, .inr (.inl (fun i => zL (fsum2 ls lv ly i))))), (ca, .inr (0, [.ref h, .long (zL w1), .long (zL w2), .long (zL w3), .long (zL w4), .long (zL w5), .long (zL w6), .long (zL de), .long (zL cw), .long (zL cp), .long (zL cq)])), (m0, .inr (3, [.ref ma, .ref mb, .ref mc])), (ma, .inl (cI, 12, .inl pu)), (mb, .inl (cI, 12, .inl be)), (mc, .inl (cI, 12, .inl nr)), (v0, .inr (1, [.int dp0, .int b0, .int lf0, .int mo0, .int us0])), (t, .inr (6, [.ref ta, .ref tb, .int (nI tn)])), (ta, .inl (cJ, 15, .inr (.inl ab))), (tb, .inl (cJ, 15, .inr (.inl bl)))]) rfl ?_
  refine v_st (st' := [.int (bI (inR c1 0 2))]) rfl ?_
  refine v_if_ne F dX7_settle_4 (tgt := 9) rfl (q := 7) rfl (fun c4 => ?_) (fun c4 => ?_)
  · skip
    rw [bI_nz] at c4
    refine v_aload_n F dX7_settle_9 (i := 0) rfl 0 rfl (q := 10) rfl ?_
    refine gt_X7_35 F dX7_settle_10 0 rfl rfl (q := 13) rfl ?_
    refine v_aload_n F dX7_settle_13 (i := 0) rfl 0 rfl (q := 14) rfl ?_
    refine gt_X7_19 F dX7_settle_14 0 rfl rfl (q := 17) rfl ?_
    refine gt_X7_173 F dX7_settle_17 5 rfl rfl (q := 20) rfl ?_
    refine v_callVN F ml_X7_248 im_X0_standOn se_X0_standOn in_X0 co_X0_standOn sd_X0_standOn (c_X0_standOn ca h ha hb hc hd px py pl pk N M w1 w2 w3 w4 w5 w6 de cw cp cq M P (by omega)) ⟨Nat.zero_le _, Nat.zero_le _⟩ (Nat.le_of_ble_eq_true rfl) (Nat.le_of_ble_eq_true rfl) 15 (As := [.int (nI M)]) rfl rfl rfl rfl rfl [15, 5, 6, 7, 8, 9] rfl rfl rfl (rest := []) rfl (Nat.le_of_ble_eq_true rfl) dX7_settle_20 (q := 23) rfl (fun r w hr => ?_)
    obtain ⟨rfl, rfl⟩ := hr
    refine v_ws (ws' := [(z, .inr (7, [.ref g, .ref h, .ref o, .ref ca, .ref m0, .ref v0, .ref t, .int sp])), (g, .inr (2, [.ref ga, .ref gb, .ref gc, .int (nI n), .int sc])), (ga, .inl (cI, 6, .inl th)), (gb, .inl (cI, 6, .inl sd)), (gc, .inl (cI, 6, .inl tp)), (h, .inr (5, [.ref ha, .ref hb, .ref hc, .ref hd, .int (nI M), .int (nI N)])), (ha, .inl (cI, 12, .inl px)), (hb, .inl (cI, 12, .inl py)), (hc, .inl (cI, 12, .inl (fun i => nI (pl i)))), (hd, .inl (cI, 12, .inl pk)), (o, .inr (4, [.ref oa, .ref ob, .ref oc, .ref od])), (oa, .inl (cI, 3, .inl (fun i => nI (ls i)))), (ob, .inl (cJ, 3, .inr (.inl (fun i => zL (fsum ls lv i))))), (oc, .inl (cJ, 3, .inr (.inl (fun i => zL (fsum2 ls lv lx i))))), (od, .inl (cJ, 3, .inr (.inl (fun i => zL (fsum2 ls lv ly i))))), (ca, .inr (0, [.ref h, .long (zL (dWW pk px py M N)), .long (zL (dWP pk px py M N)), .long (zL (dWQ pk px py M N)), .long (zL (dPP pk px py M N)), .long (zL (dPQ pk px py M N)), .long (zL (dQQ pk px py M N)), .long (zL (dDE pk px py M N)), .long (zL cw), .long (zL cp), .long (zL cq)])), (m0, .inr (3, [.ref ma, .ref mb, .ref mc])), (ma, .inl (cI, 12, .inl pu)), (mb, .inl (cI, 12, .inl be)), (mc, .inl (cI, 12, .inl nr)), (v0, .inr (1, [.int dp0, .int b0, .int lf0, .int mo0, .int us0])), (t, .inr (6, [.ref ta, .ref tb, .int (nI tn)])), (ta, .inl (cJ, 15, .inr (.inl ab))), (tb, .inl (cJ, 15, .inr (.inl bl)))]) ((wset_wgo (nodup_of rfl) rfl).trans rfl) ?_
    refine v_st (st' := [.int (bI (decide (0 < dDE pk px py M N)))]) rfl ?_
    refine v_if_ne F dX7_settle_23 (tgt := 29) rfl (q := 26) rfl (fun c23 => ?_) (fun c23 => ?_)
    · skip
      rw [bI_nz] at c23
      obtain ⟨k, hk, rfl⟩ := case_ex c4
      have hpk := pN_nI (k := k) (by omega)
      refine v_aload_n F dX7_settle_29 (i := 0) rfl 0 rfl (q := 30) rfl ?_
      refine gt_X7_35 F dX7_settle_30 0 rfl rfl (q := 33) rfl ?_
      refine v_aload_n F dX7_settle_33 (i := 0) rfl 0 rfl (q := 34) rfl ?_
      refine gt_X7_26 F dX7_settle_34 0 rfl rfl (q := 37) rfl ?_
      refine v_iload_n F dX7_settle_37 (i := 1) rfl 1 rfl (q := 38) rfl ?_
      refine v_callVN F ml_X7_251 im_X0_take se_X0_take in_X0 co_X0_take sd_X0_take (c_X0_take ca h o oa ob oc od ls (fsum ls lv) (fsum2 ls lv lx) (fsum2 ls lv ly) (dWW pk px py M N) (dWP pk px py M N) (dWQ pk px py M N) (dPP pk px py M N) (dPQ pk px py M N) (dQQ pk px py M N) (dDE pk px py M N) cw cp cq k (by omega)) ⟨Nat.zero_le _, Nat.zero_le _⟩ (Nat.le_of_ble_eq_true rfl) (Nat.le_of_ble_eq_true rfl) 15 (As := [.ref o, .int (nI k)]) rfl rfl rfl rfl rfl [15, 10, 11, 12, 13, 14] rfl rfl rfl (rest := []) rfl (Nat.le_of_ble_eq_true rfl) dX7_settle_38 (q := 41) rfl (fun r w hr => ?_)
      obtain ⟨rfl, rfl⟩ := hr
      refine v_ws (ws' := [(z, .inr (7, [.ref g, .ref h, .ref o, .ref ca, .ref m0, .ref v0, .ref t, .int sp])), (g, .inr (2, [.ref ga, .ref gb, .ref gc, .int (nI n), .int sc])), (ga, .inl (cI, 6, .inl th)), (gb, .inl (cI, 6, .inl sd)), (gc, .inl (cI, 6, .inl tp)), (h, .inr (5, [.ref ha, .ref hb, .ref hc, .ref hd, .int (nI M), .int (nI N)])), (ha, .inl (cI, 12, .inl px)), (hb, .inl (cI, 12, .inl py)), (hc, .inl (cI, 12, .inl (fun i => nI (pl i)))), (hd, .inl (cI, 12, .inl pk)), (o, .inr (4, [.ref oa, .ref ob, .ref oc, .ref od])), (oa, .inl (cI, 3, .inl (fun i => nI (ls i)))), (ob, .inl (cJ, 3, .inr (.inl (fun i => zL (fsum ls lv i))))), (oc, .inl (cJ, 3, .inr (.inl (fun i => zL (fsum2 ls lv lx i))))), (od, .inl (cJ, 3, .inr (.inl (fun i => zL (fsum2 ls lv ly i))))), (ca, .inr (0, [.ref h, .long (zL (dWW pk px py M N)), .long (zL (dWP pk px py M N)), .long (zL (dWQ pk px py M N)), .long (zL (dPP pk px py M N)), .long (zL (dPQ pk px py M N)), .long (zL (dQQ pk px py M N)), .long (zL (dDE pk px py M N)), .long (zL ((dWW pk px py M N) * fsum ls lv k + (dWP pk px py M N) * fsum2 ls lv lx k + (dWQ pk px py M N) * fsum2 ls lv ly k)), .long (zL ((dWP pk px py M N) * fsum ls lv k + (dPP pk px py M N) * fsum2 ls lv lx k + (dPQ pk px py M N) * fsum2 ls lv ly k)), .long (zL ((dWQ pk px py M N) * fsum ls lv k + (dPQ pk px py M N) * fsum2 ls lv lx k + (dQQ pk px py M N) * fsum2 ls lv ly k))])), (m0, .inr (3, [.ref ma, .ref mb, .ref mc])), (ma, .inl (cI, 12, .inl pu)), (mb, .inl (cI, 12, .inl be)), (mc, .inl (cI, 12, .inl nr)), (v0, .inr (1, [.int dp0, .int b0, .int lf0, .int mo0, .int us0])), (t, .inr (6, [.ref ta, .ref tb, .int (nI tn)])), (ta, .inl (cJ, 15, .inr (.inl ab))), (tb, .inl (cJ, 15, .inr (.inl bl)))]) ((wset_wgo (nodup_of rfl) rfl).trans rfl) ?_
      refine v_st (st' := []) rfl ?_
      refine v_iconst F dX7_settle_41 (v := 0) (q := 42) rfl rfl ?_
      exact hE rfl dX7_settle_42 (Nat.zero_le _) (Nat.zero_le _) ⟨Or.inr (Or.inr ⟨c4, of_decide_eq_true c23, rfl, by rw [hpk]; rfl⟩), Nat.le_of_ble_eq_true rfl⟩
    · skip
      rw [bI_z] at c23
      refine v_bipush F dX7_settle_26 (v := (-2)) (q := 28) rfl rfl ?_
      exact hE rfl dX7_settle_28 (Nat.zero_le _) (Nat.zero_le _) ⟨Or.inr (Or.inl ⟨c4, of_decide_eq_false c23, rfl, rfl⟩), Nat.le_of_ble_eq_true rfl⟩
  · skip
    rw [bI_z] at c4
    refine v_iconst F dX7_settle_7 (v := (-1)) (q := 8) rfl rfl ?_
    exact hE rfl dX7_settle_8 (Nat.zero_le _) (Nat.zero_le _) ⟨Or.inl ⟨c4, rfl, rfl⟩, Nat.le_of_ble_eq_true rfl⟩

set_option maxHeartbeats 4000000 in
set_option maxRecDepth 100000 in
theorem c_X7_overloaded (z g ga gb gc h ha hb hc hd o oa ob oc od ca m0 ma mb mc v0 t ta tb : Nat) (th : Nat → Int32) (sd : Nat → Int32) (tp : Nat → Int32) (n : Nat) (sc : Int32) (sp : Int32) (px : Nat → Int32) (py : Nat → Int32) (pl : Nat → Nat) (pk : Nat → Int32) (N : Nat) (M : Nat) (ls : Nat → Nat) (lv : Nat → Int32) (lx : Nat → Int32) (ly : Nat → Int32) (ab : Nat → Int64) (bl : Nat → Int64) (tn : Nat) (w1 : Int) (w2 : Int) (w3 : Int) (w4 : Int) (w5 : Int) (w6 : Int) (de : Int) (cw : Int) (cp : Int) (cq : Int) (pu : Nat → Int32) (be : Nat → Int32) (nr : Nat → Int32) (dp0 : Int32) (b0 : Int32) (lf0 : Int32) (mo0 : Int32) (us0 : Int32) (B : Nat) (VI : INV (th, sd, tp, n, sc, sp, px, py, pl, pk, N, M, ls, lv, lx, ly, ab, bl, tn)) (hB : B < 4096) (hpu : ∀ k, k < N → pu k = zI (gPU th sd n sc (pl k))) (hbe : ∀ k, k < N → be k = zI (gBE th sd tp n sc (pl k))) (hsr : ∀ k, k < N → -100000000000000000 ≤ shI pk px py cw cp cq k ∧ shI pk px py cw cp cq k ≤ 100000000000000000) (hde : -13271040000000 ≤ de ∧ de ≤ 13271040000000) : Ct l D (TY cI cJ cZ) yX7_overloaded cX7_overloaded 6 (some .int) 1 23 0 0 [.ref z, .int (nI B)] [(z, .inr (7, [.ref g, .ref h, .ref o, .ref ca, .ref m0, .ref v0, .ref t, .int sp])), (g, .inr (2, [.ref ga, .ref gb, .ref gc, .int (nI n), .int sc])), (ga, .inl (cI, 6, .inl th)), (gb, .inl (cI, 6, .inl sd)), (gc, .inl (cI, 6, .inl tp)), (h, .inr (5, [.ref ha, .ref hb, .ref hc, .ref hd, .int (nI M), .int (nI N)])), (ha, .inl (cI, 12, .inl px)), (hb, .inl (cI, 12, .inl py)), (hc, .inl (cI, 12, .inl (fun i => nI (pl i)))), (hd, .inl (cI, 12, .inl pk)), (o, .inr (4, [.ref oa, .ref ob, .ref oc, .ref od])), (oa, .inl (cI, 3, .inl (fun i => nI (ls i)))), (ob, .inl (cJ, 3, .inr (.inl (fun i => zL (fsum ls lv i))))), (oc, .inl (cJ, 3, .inr (.inl (fun i => zL (fsum2 ls lv lx i))))), (od, .inl (cJ, 3, .inr (.inl (fun i => zL (fsum2 ls lv ly i))))), (ca, .inr (0, [.ref h, .long (zL w1), .long (zL w2), .long (zL w3), .long (zL w4), .long (zL w5), .long (zL w6), .long (zL de), .long (zL cw), .long (zL cp), .long (zL cq)])), (m0, .inr (3, [.ref ma, .ref mb, .ref mc])), (ma, .inl (cI, 12, .inl pu)), (mb, .inl (cI, 12, .inl be)), (mc, .inl (cI, 12, .inl nr)), (v0, .inr (1, [.int dp0, .int b0, .int lf0, .int mo0, .int us0])), (t, .inr (6, [.ref ta, .ref tb, .int (nI tn)])), (ta, .inl (cJ, 15, .inr (.inl ab))), (tb, .inl (cJ, 15, .inr (.inl bl)))] (fun r w => r = some (.int (nI (ovM B (fun k => ovK th sd tp n sc pl de (shI pk px py cw cp cq k) k) N))) ∧ w = [(z, .inr (7, [.ref g, .ref h, .ref o, .ref ca, .ref m0, .ref v0, .ref t, .int sp])), (g, .inr (2, [.ref ga, .ref gb, .ref gc, .int (nI n), .int sc])), (ga, .inl (cI, 6, .inl th)), (gb, .inl (cI, 6, .inl sd)), (gc, .inl (cI, 6, .inl tp)), (h, .inr (5, [.ref ha, .ref hb, .ref hc, .ref hd, .int (nI M), .int (nI N)])), (ha, .inl (cI, 12, .inl px)), (hb, .inl (cI, 12, .inl py)), (hc, .inl (cI, 12, .inl (fun i => nI (pl i)))), (hd, .inl (cI, 12, .inl pk)), (o, .inr (4, [.ref oa, .ref ob, .ref oc, .ref od])), (oa, .inl (cI, 3, .inl (fun i => nI (ls i)))), (ob, .inl (cJ, 3, .inr (.inl (fun i => zL (fsum ls lv i))))), (oc, .inl (cJ, 3, .inr (.inl (fun i => zL (fsum2 ls lv lx i))))), (od, .inl (cJ, 3, .inr (.inl (fun i => zL (fsum2 ls lv ly i))))), (ca, .inr (0, [.ref h, .long (zL w1), .long (zL w2), .long (zL w3), .long (zL w4), .long (zL w5), .long (zL w6), .long (zL de), .long (zL cw), .long (zL cp), .long (zL cq)])), (m0, .inr (3, [.ref ma, .ref mb, .ref mc])), (ma, .inl (cI, 12, .inl pu)), (mb, .inl (cI, 12, .inl be)), (mc, .inl (cI, 12, .inl nr)), (v0, .inr (1, [.int dp0, .int b0, .int lf0, .int mo0, .int us0])), (t, .inr (6, [.ref ta, .ref tb, .int (nI tn)])), (ta, .inl (cJ, 15, .inr (.inl ab))), (tb, .inl (cJ, 15, .inr (.inl bl)))]) := by
  refine Ct.ofI (ty := .int) (by decide) (Nat.le_of_ble_eq_true rfl) ?_
  intro p e s m args below meth c A R Q F hnm hcs0 hE
  refine v_lv (lv' := [(0, .ref z), (1, .int (nI B))]) [0, 1] rfl ?_
  obtain ⟨G, hsp, P, hM, hls, hlv, hlx, hly, htn⟩ := id VI
  have hn6 := G.1
  have hN12 := P.1
  have hM4 : M < 4096 := Nat.lt_of_lt_of_le hM (Nat.pow_le_pow_right (by omega) hN12)
  have L4 : ∀ (d k : Nat), k + d = N → V p l e R s m args below meth c D A 6 0 0 Q 4 [(0, .ref z), (1, .int (nI B)), (2, .int (nI (ovM B (fun k => ovK th sd tp n sc pl de (shI pk px py cw cp cq k) k) k))), (3, .int (nI k))] [] [(z, .inr (7, [.ref g, .ref h, .ref o, .ref ca, .ref m0, .ref v0, .ref t, .int sp])), (g, .inr (2, [.ref ga, .ref gb, .ref gc, .int (nI n), .int sc])), (ga, .inl (cI, 6, .inl th)), (gb, .inl (cI, 6, .inl sd)), (gc, .inl (cI, 6, .inl tp)), (h, .inr (5, [.ref ha, .ref hb, .ref hc, .ref hd, .int (nI M), .int (nI N)])), (ha, .inl (cI, 12, .inl px)), (hb, .inl (cI, 12, .inl py)), (hc, .inl (cI, 12, .inl (fun i => nI (pl i)))), (hd, .inl (cI, 12, .inl pk)), (o, .inr (4, [.ref oa, .ref ob, .ref oc, .ref od])), (oa, .inl (cI, 3, .inl (fun i => nI (ls i)))), (ob, .inl (cJ, 3, .inr (.inl (fun i => zL (fsum ls lv i))))), (oc, .inl (cJ, 3, .inr (.inl (fun i => zL (fsum2 ls lv lx i))))), (od, .inl (cJ, 3, .inr (.inl (fun i => zL (fsum2 ls lv ly i))))), (ca, .inr (0, [.ref h, .long (zL w1), .long (zL w2), .long (zL w3), .long (zL w4), .long (zL w5), .long (zL w6), .long (zL de), .long (zL cw), .long (zL cp), .long (zL cq)])), (m0, .inr (3, [.ref ma, .ref mb, .ref mc])), (ma, .inl (cI, 12, .inl pu)), (mb, .inl (cI, 12, .inl be)), (mc, .inl (cI, 12, .inl nr)), (v0, .inr (1, [.int dp0, .int b0, .int lf0, .int mo0, .int us0])), (t, .inr (6, [.ref ta, .ref tb, .int (nI tn)])), (ta, .inl (cJ, 15, .inr (.inl ab))), (tb, .inl (cJ, 15, .inr (.inl bl)))] := by
    intro d
    induction d using Nat.strongRecOn with
    | _ d ih => ?_
    intro k hk
    refine v_iload_n F dX7_overloaded_4 (i := 3) rfl 3 rfl (q := 5) rfl ?_
    refine v_aload_n F dX7_overloaded_5 (i := 0) rfl 0 rfl (q := 6) rfl ?_
    refine gt_X7_19 F dX7_overloaded_6 0 rfl rfl (q := 9) rfl ?_
    refine gt_X7_100 F dX7_overloaded_9 5 rfl rfl (q := 12) rfl ?_
    refine v_icmp_ge F dX7_overloaded_12 (tgt := 72) rfl (q := 15) rfl (fun c12 => ?_) (fun c12 => ?_)
    · skip
      rw [nI_leI (by omega) (by omega)] at c12
      have hkn : k = N := by omega
      subst hkn
      refine v_iload_n F dX7_overloaded_72 (i := 2) rfl 2 rfl (q := 73) rfl ?_
      exact hE rfl dX7_overloaded_73 (Nat.zero_le _) (Nat.zero_le _) ⟨⟨rfl, rfl⟩, Nat.le_of_ble_eq_true rfl⟩
    · skip
      rw [nI_leI (by omega) (by omega)] at c12
      obtain ⟨d, rfl⟩ : ∃ d2, d = d2 + 1 := ⟨d - 1, by omega⟩
      have hkn : k < N := by omega
      have hsk := hsr k hkn
      have hlk := li_rng G P hkn (shI pk px py cw cp cq k)
      have hmk := mul_rng (a := (liI th sd tp n sc pl (shI pk px py cw cp cq k) k)) (A := 6000) ⟨by omega, hlk.2⟩ hde
      refine v_iload_n F dX7_overloaded_15 (i := 1) rfl 1 rfl (q := 16) rfl ?_
      refine v_iload_n F dX7_overloaded_16 (i := 3) rfl 3 rfl (q := 17) rfl ?_
      refine v_ishr F dX7_overloaded_17 (q := 18) rfl ?_
      refine v_iconst F dX7_overloaded_18 (v := 1) (q := 19) rfl rfl ?_
      refine v_iand F dX7_overloaded_19 (q := 20) rfl ?_
      refine v_int (y := bI (B.testBit k)) (sh_bit hB (by omega)) ?_
      refine v_if_eq F dX7_overloaded_20 (tgt := 66) rfl (q := 23) rfl (fun c20 => ?_) (fun c20 => ?_)
      · skip
        rw [bI_z] at c20
        refine v_iinc F dX7_overloaded_66 3 rfl (v := nI (k + 1)) (lv' := [(3, .int (nI (k + 1))), (0, .ref z), (1, .int (nI B)), (2, .int (nI (ovM B (fun k => ovK th sd tp n sc pl de (shI pk px py cw cp cq k) k) k)))]) (nI_1 k) (Nat.le_of_ble_eq_true rfl) rfl (q := 69) rfl ?_
        refine v_goto F dX7_overloaded_69 (tgt := 4) rfl ?_
        refine v_lv (lv' := [(0, .ref z), (1, .int (nI B)), (2, .int (nI (ovM B (fun k => ovK th sd tp n sc pl de (shI pk px py cw cp cq k) k) k))), (3, .int (nI (k + 1)))]) [1, 2, 3, 0] rfl ?_
        have hV := ih d (by omega) (k + 1) (by omega)
        first | rw [ovM_f c20] at hV | rw [ovM_f2 (q := (fun k => ovK th sd tp n sc pl de (shI pk px py cw cp cq k) k)) hq] at hV
        exact hV
      · skip
        rw [bI_nz] at c20
        refine v_aload_n F dX7_overloaded_23 (i := 0) rfl 0 rfl (q := 24) rfl ?_
        refine gt_X7_35 F dX7_overloaded_24 0 rfl rfl (q := 27) rfl ?_
        refine v_iload_n F dX7_overloaded_27 (i := 3) rfl 3 rfl (q := 28) rfl ?_
        refine v_callVN F ml_X7_165 im_X0_share se_X0_share in_X0 co_X0_share sd_X0_share (c_X0_share ca h ha hb hc hd px py pl pk N M w1 w2 w3 w4 w5 w6 de cw cp cq k (by omega)) ⟨Nat.zero_le _, Nat.zero_le _⟩ (Nat.le_of_ble_eq_true rfl) (Nat.le_of_ble_eq_true rfl) 15 (As := [.int (nI k)]) rfl rfl rfl rfl rfl [15, 5, 6, 7, 8, 9] rfl rfl rfl (rest := []) rfl (Nat.le_of_ble_eq_true rfl) dX7_overloaded_28 (q := 31) rfl (fun r w hr => ?_)
        obtain ⟨rfl, rfl⟩ := hr
        refine v_ws (ws' := [(z, .inr (7, [.ref g, .ref h, .ref o, .ref ca, .ref m0, .ref v0, .ref t, .int sp])), (g, .inr (2, [.ref ga, .ref gb, .ref gc, .int (nI n), .int sc])), (ga, .inl (cI, 6, .inl th)), (gb, .inl (cI, 6, .inl sd)), (gc, .inl (cI, 6, .inl tp)), (h, .inr (5, [.ref ha, .ref hb, .ref hc, .ref hd, .int (nI M), .int (nI N)])), (ha, .inl (cI, 12, .inl px)), (hb, .inl (cI, 12, .inl py)), (hc, .inl (cI, 12, .inl (fun i => nI (pl i)))), (hd, .inl (cI, 12, .inl pk)), (o, .inr (4, [.ref oa, .ref ob, .ref oc, .ref od])), (oa, .inl (cI, 3, .inl (fun i => nI (ls i)))), (ob, .inl (cJ, 3, .inr (.inl (fun i => zL (fsum ls lv i))))), (oc, .inl (cJ, 3, .inr (.inl (fun i => zL (fsum2 ls lv lx i))))), (od, .inl (cJ, 3, .inr (.inl (fun i => zL (fsum2 ls lv ly i))))), (ca, .inr (0, [.ref h, .long (zL w1), .long (zL w2), .long (zL w3), .long (zL w4), .long (zL w5), .long (zL w6), .long (zL de), .long (zL cw), .long (zL cp), .long (zL cq)])), (m0, .inr (3, [.ref ma, .ref mb, .ref mc])), (ma, .inl (cI, 12, .inl pu)), (mb, .inl (cI, 12, .inl be)), (mc, .inl (cI, 12, .inl nr)), (v0, .inr (1, [.int dp0, .int b0, .int lf0, .int mo0, .int us0])), (t, .inr (6, [.ref ta, .ref tb, .int (nI tn)])), (ta, .inl (cJ, 15, .inr (.inl ab))), (tb, .inl (cJ, 15, .inr (.inl bl)))]) ((wset_wgo (nodup_of rfl) rfl).trans rfl) ?_
        refine v_st (st' := [.long (zL (shI pk px py cw cp cq k))]) rfl ?_
        refine v_lstore F dX7_overloaded_31 (lv' := [(4, .long (zL (shI pk px py cw cp cq k))), (0, .ref z), (1, .int (nI B)), (2, .int (nI (ovM B (fun k => ovK th sd tp n sc pl de (shI pk px py cw cp cq k) k) k))), (3, .int (nI k))]) (Nat.le_of_ble_eq_true rfl) rfl (q := 33) rfl ?_
        refine v_lload F dX7_overloaded_33 0 rfl (q := 35) rfl ?_
        refine v_mabsl F ml_X7_186 sm_Mabs inS_J9 co_Mabs ⟨Nat.zero_le _, Nat.zero_le _⟩ dX7_overloaded_35 (Nat.le_of_ble_eq_true rfl) (Nat.le_of_ble_eq_true rfl) (q := 38) rfl ?_
        refine v_long (y := zL (((shI pk px py cw cp cq k).natAbs : Nat) : Int)) (abs_zL (by omega) (by omega)) ?_
        refine v_aload_n F dX7_overloaded_38 (i := 0) rfl 1 rfl (q := 39) rfl ?_
        refine gt_X7_42 F dX7_overloaded_39 0 rfl rfl (q := 42) rfl ?_
        refine v_iload_n F dX7_overloaded_42 (i := 3) rfl 4 rfl (q := 43) rfl ?_
        refine v_lload F dX7_overloaded_43 0 rfl (q := 45) rfl ?_
        refine v_callVN F ml_X7_182 im_X3_against se_X3_against in_X3 co_X3_against sd_X3_against (c_X3_against m0 ma mb mc pu be nr k (zL (shI pk px py cw cp cq k)) (by omega)) ⟨Nat.zero_le _, Nat.zero_le _⟩ (Nat.le_of_ble_eq_true rfl) (Nat.le_of_ble_eq_true rfl) 16 (As := [.int (nI k), .long (zL (shI pk px py cw cp cq k))]) rfl rfl rfl rfl rfl [16, 17, 18, 19] rfl rfl rfl (rest := [.long (zL (((shI pk px py cw cp cq k).natAbs : Nat) : Int))]) rfl (Nat.le_of_ble_eq_true rfl) dX7_overloaded_45 (q := 48) rfl (fun r w hr => ?_)
        obtain ⟨rfl, rfl⟩ := hr
        refine v_ws (ws' := [(z, .inr (7, [.ref g, .ref h, .ref o, .ref ca, .ref m0, .ref v0, .ref t, .int sp])), (g, .inr (2, [.ref ga, .ref gb, .ref gc, .int (nI n), .int sc])), (ga, .inl (cI, 6, .inl th)), (gb, .inl (cI, 6, .inl sd)), (gc, .inl (cI, 6, .inl tp)), (h, .inr (5, [.ref ha, .ref hb, .ref hc, .ref hd, .int (nI M), .int (nI N)])), (ha, .inl (cI, 12, .inl px)), (hb, .inl (cI, 12, .inl py)), (hc, .inl (cI, 12, .inl (fun i => nI (pl i)))), (hd, .inl (cI, 12, .inl pk)), (o, .inr (4, [.ref oa, .ref ob, .ref oc, .ref od])), (oa, .inl (cI, 3, .inl (fun i => nI (ls i)))), (ob, .inl (cJ, 3, .inr (.inl (fun i => zL (fsum ls lv i))))), (oc, .inl (cJ, 3, .inr (.inl (fun i => zL (fsum2 ls lv lx i))))), (od, .inl (cJ, 3, .inr (.inl (fun i => zL (fsum2 ls lv ly i))))), (ca, .inr (0, [.ref h, .long (zL w1), .long (zL w2), .long (zL w3), .long (zL w4), .long (zL w5), .long (zL w6), .long (zL de), .long (zL cw), .long (zL cp), .long (zL cq)])), (m0, .inr (3, [.ref ma, .ref mb, .ref mc])), (ma, .inl (cI, 12, .inl pu)), (mb, .inl (cI, 12, .inl be)), (mc, .inl (cI, 12, .inl nr)), (v0, .inr (1, [.int dp0, .int b0, .int lf0, .int mo0, .int us0])), (t, .inr (6, [.ref ta, .ref tb, .int (nI tn)])), (ta, .inl (cJ, 15, .inr (.inl ab))), (tb, .inl (cJ, 15, .inr (.inl bl)))]) ((wset_wgo (nodup_of rfl) rfl).trans rfl) ?_
        refine v_st (st' := [.long ((if 0 < (zL (shI pk px py cw cp cq k)) then be k else pu k).toInt64), .long (zL (((shI pk px py cw cp cq k).natAbs : Nat) : Int))]) rfl ?_
        refine v_long (y := zL (liI th sd tp n sc pl (shI pk px py cw cp cq k) k)) (li_zL G P hkn (by omega) (by omega) (hbe k hkn) (hpu k hkn)) ?_
        refine v_aload_n F dX7_overloaded_48 (i := 0) rfl 1 rfl (q := 49) rfl ?_
        refine gt_X7_35 F dX7_overloaded_49 0 rfl rfl (q := 52) rfl ?_
        refine gt_X7_153 F dX7_overloaded_52 15 rfl rfl (q := 55) rfl ?_
        refine v_lmul F dX7_overloaded_55 (q := 56) rfl ?_
        refine v_long (y := zL ((liI th sd tp n sc pl (shI pk px py cw cp cq k) k) * de)) (zL_mul _ _) ?_
        refine v_lcmp_le F dX7_overloaded_56 dX7_overloaded_57 (tgt := 66) rfl (q := 60) rfl (fun c56 => ?_) (fun c56 => ?_)
        · skip
          rw [zL_le (by omega) (by omega) (by omega) (by omega)] at c56
          have hq : (fun k => ovK th sd tp n sc pl de (shI pk px py cw cp cq k) k) k = false := decide_eq_false (by omega)
          refine v_iinc F dX7_overloaded_66 4 rfl (v := nI (k + 1)) (lv' := [(3, .int (nI (k + 1))), (4, .long (zL (shI pk px py cw cp cq k))), (0, .ref z), (1, .int (nI B)), (2, .int (nI (ovM B (fun k => ovK th sd tp n sc pl de (shI pk px py cw cp cq k) k) k)))]) (nI_1 k) (Nat.le_of_ble_eq_true rfl) rfl (q := 69) rfl ?_
          refine v_goto F dX7_overloaded_69 (tgt := 4) rfl ?_
          refine v_lv (lv' := [(0, .ref z), (1, .int (nI B)), (2, .int (nI (ovM B (fun k => ovK th sd tp n sc pl de (shI pk px py cw cp cq k) k) k))), (3, .int (nI (k + 1)))]) [2, 3, 4, 0] rfl ?_
          have hV := ih d (by omega) (k + 1) (by omega)
          first | rw [ovM_f c20] at hV | rw [ovM_f2 (q := (fun k => ovK th sd tp n sc pl de (shI pk px py cw cp cq k) k)) hq] at hV
          exact hV
        · skip
          rw [zL_le (by omega) (by omega) (by omega) (by omega)] at c56
          have hq : (fun k => ovK th sd tp n sc pl de (shI pk px py cw cp cq k) k) k = true := decide_eq_true (by omega)
          refine v_iload_n F dX7_overloaded_60 (i := 2) rfl 3 rfl (q := 61) rfl ?_
          refine v_iconst F dX7_overloaded_61 (v := 1) (q := 62) rfl rfl ?_
          refine v_iload_n F dX7_overloaded_62 (i := 3) rfl 4 rfl (q := 63) rfl ?_
          refine v_ishl F dX7_overloaded_63 (q := 64) rfl ?_
          refine v_ior F dX7_overloaded_64 (q := 65) rfl ?_
          refine v_int (y := nI (ovM B (fun k => ovK th sd tp n sc pl de (shI pk px py cw cp cq k) k) k ||| 2 ^ k)) (ms_or (by omega)) ?_
          refine v_istore_n F dX7_overloaded_65 (i := 2) (lv' := [(2, .int (nI (ovM B (fun k => ovK th sd tp n sc pl de (shI pk px py cw cp cq k) k) k ||| 2 ^ k))), (4, .long (zL (shI pk px py cw cp cq k))), (0, .ref z), (1, .int (nI B)), (3, .int (nI k))]) rfl (Nat.le_of_ble_eq_true rfl) rfl (q := 66) rfl ?_
          refine v_iinc F dX7_overloaded_66 4 rfl (v := nI (k + 1)) (lv' := [(3, .int (nI (k + 1))), (2, .int (nI (ovM B (fun k => ovK th sd tp n sc pl de (shI pk px py cw cp cq k) k) k ||| 2 ^ k))), (4, .long (zL (shI pk px py cw cp cq k))), (0, .ref z), (1, .int (nI B))]) (nI_1 k) (Nat.le_of_ble_eq_true rfl) rfl (q := 69) rfl ?_
          refine v_goto F dX7_overloaded_69 (tgt := 4) rfl ?_
          refine v_lv (lv' := [(0, .ref z), (1, .int (nI B)), (2, .int (nI (ovM B (fun k => ovK th sd tp n sc pl de (shI pk px py cw cp cq k) k) k ||| 2 ^ k))), (3, .int (nI (k + 1)))]) [3, 4, 1, 0] rfl ?_
          have hV := ih d (by omega) (k + 1) (by omega)
          rw [ovM_t (q := (fun k => ovK th sd tp n sc pl de (shI pk px py cw cp cq k) k)) c20 hq] at hV
          exact hV
  refine v_iconst F dX7_overloaded_0 (v := 0) (q := 1) rfl rfl ?_
  refine v_istore_n F dX7_overloaded_1 (i := 2) (lv' := [(2, .int 0), (0, .ref z), (1, .int (nI B))]) rfl (Nat.le_of_ble_eq_true rfl) rfl (q := 2) rfl ?_
  refine v_iconst F dX7_overloaded_2 (v := 0) (q := 3) rfl rfl ?_
  refine v_istore_n F dX7_overloaded_3 (i := 3) (lv' := [(3, .int 0), (2, .int 0), (0, .ref z), (1, .int (nI B))]) rfl (Nat.le_of_ble_eq_true rfl) rfl (q := 4) rfl ?_
  refine v_lv (lv' := [(0, .ref z), (1, .int (nI B)), (2, .int 0), (3, .int 0)]) [2, 3, 1, 0] rfl ?_
  exact L4 N 0 (by omega)

end TP
