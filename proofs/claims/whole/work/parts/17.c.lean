section TP
variable {l : Launch} {D : va_G} {cI cJ cZ : ClassId}
set_option maxHeartbeats 4000000 in
set_option maxRecDepth 100000 in
theorem c_X7_end (z g ga gb gc h ha hb hc hd o oa ob oc od ca m0 ma mb mc v0 t ta tb : Nat) (th : Nat → Int32) (sd : Nat → Int32) (tp : Nat → Int32) (n : Nat) (sc : Int32) (sp : Int32) (px : Nat → Int32) (py : Nat → Int32) (pl : Nat → Nat) (pk : Nat → Int32) (N : Nat) (M : Nat) (ls : Nat → Nat) (lv : Nat → Int32) (lx : Nat → Int32) (ly : Nat → Int32) (ab : Nat → Int64) (bl : Nat → Int64) (tn : Nat) (w1 : Int) (w2 : Int) (w3 : Int) (w4 : Int) (w5 : Int) (w6 : Int) (de : Int) (cw : Int) (cp : Int) (cq : Int) (pu : Nat → Int32) (be : Nat → Int32) (nr : Nat → Int32) (dp0 : Int32) (b0 : Int32) (lf0 : Int32) (mo0 : Int32) (us0 : Int32) (c1 : Int32) (VI : INV (th, sd, tp, n, sc, sp, px, py, pl, pk, N, M, ls, lv, lx, ly, ab, bl, tn)) : Ct l D (TY cI cJ cZ) yX7_end cX7_end 6 (some .int) 4 89 0 0 [.ref z, .int c1] [(z, .inr (7, [.ref g, .ref h, .ref o, .ref ca, .ref m0, .ref v0, .ref t, .int sp])), (g, .inr (2, [.ref ga, .ref gb, .ref gc, .int (nI n), .int sc])), (ga, .inl (cI, 6, .inl th)), (gb, .inl (cI, 6, .inl sd)), (gc, .inl (cI, 6, .inl tp)), (h, .inr (5, [.ref ha, .ref hb, .ref hc, .ref hd, .int (nI M), .int (nI N)])), (ha, .inl (cI, 12, .inl px)), (hb, .inl (cI, 12, .inl py)), (hc, .inl (cI, 12, .inl (fun i => nI (pl i)))), (hd, .inl (cI, 12, .inl pk)), (o, .inr (4, [.ref oa, .ref ob, .ref oc, .ref od])), (oa, .inl (cI, 3, .inl (fun i => nI (ls i)))), (ob, .inl (cJ, 3, .inr (.inl (fun i => zL (fsum ls lv i))))), (oc, .inl (cJ, 3, .inr (.inl (fun i => zL (fsum2 ls lv lx i))))), (od, .inl (cJ, 3, .inr (.inl (fun i => zL (fsum2 ls lv ly i))))), (ca, .inr (0, [.ref h, .long (zL w1), .long (zL w2), .long (zL w3), .long (zL w4), .long (zL w5), .long (zL w6), .long (zL de), .long (zL cw), .long (zL cp), .long (zL cq)])), (m0, .inr (3, [.ref ma, .ref mb, .ref mc])), (ma, .inl (cI, 12, .inl pu)), (mb, .inl (cI, 12, .inl be)), (mc, .inl (cI, 12, .inl nr)), (v0, .inr (1, [.int dp0, .int b0, .int lf0, .int mo0, .int us0])), (t, .inr (6, [.ref ta, .ref tb, .int (nI tn)])), (ta, .inl (cJ, 15, .inr (.inl ab))), (tb, .inl (cJ, 15, .inr (.inl bl)))] (fun r w => ∃ X : SXy, r = some (.int (fEnd c1 (th, sd, tp, n, sc, sp, px, py, pl, pk, N, M, ls, lv, lx, ly, ab, bl, tn)).1) ∧ w = WC cI cJ z g ga gb gc h ha hb hc hd o oa ob oc od ca m0 ma mb mc v0 t ta tb (fEnd c1 (th, sd, tp, n, sc, sp, px, py, pl, pk, N, M, ls, lv, lx, ly, ab, bl, tn)).2 X) := by
  refine Ct.ofI (ty := .int) (by decide) (Nat.le_of_ble_eq_true rfl) ?_
  intro p e s m args below meth c A R Q F hnm hcs0 hE
  refine v_lv (lv' := [(0, .ref z), (1, .int c1)]) [0, 1] rfl ?_
  obtain ⟨G, hsp, P, hM, hls, hlv, hlx, hly, htn⟩ := id VI
  have hn6 := G.1
  have hN12 := P.1
  have hM4 : M < 4096 := Nat.lt_of_lt_of_le hM (Nat.pow_le_pow_right (by omega) hN12)
  refine v_aload_n F dX7_end_0 (i := 0) rfl 0 rfl (q := 1) rfl ?_
  refine v_iload_n F dX7_end_1 (i := 1) rfl 1 rfl (q := 2) rfl ?_
  refine v_callV F ml_X7_144 im_X7_settle se_X7_settle in_X7 co_X7_settle sd_X7_settle (c_X7_settle z g ga gb gc h ha hb hc hd o oa ob oc od ca m0 ma mb mc v0 t ta tb th sd tp n sc sp px py pl pk N M ls lv lx ly ab bl tn w1 w2 w3 w4 w5 w6 de cw cp cq pu be nr dp0 b0 lf0 mo0 us0 c1 VI) ⟨Nat.zero_le _, Nat.zero_le _⟩ (Nat.le_of_ble_eq_true rfl) (Nat.le_of_ble_eq_true rfl) 0 (As := [.int c1]) rfl rfl rfl rfl rfl [0, 1, 2, 3, 4, 5, 6, 7, 8, 9, 10, 11, 12, 13, 14, 15, 16, 17, 18, 19, 20, 21, 22, 23] rfl nd24 vnd24 (rest := []) rfl (Nat.le_of_ble_eq_true rfl) dX7_end_2 (q := 5) rfl (fun r w hr => ?_)
  rcases hr with ⟨hs1, rfl, rfl⟩ | ⟨hs1, hs2, rfl, rfl⟩ | ⟨hs1, hs2, rfl, rfl⟩
  · skip
    refine v_ws (ws' := [(z, .inr (7, [.ref g, .ref h, .ref o, .ref ca, .ref m0, .ref v0, .ref t, .int sp])), (g, .inr (2, [.ref ga, .ref gb, .ref gc, .int (nI n), .int sc])), (ga, .inl (cI, 6, .inl th)), (gb, .inl (cI, 6, .inl sd)), (gc, .inl (cI, 6, .inl tp)), (h, .inr (5, [.ref ha, .ref hb, .ref hc, .ref hd, .int (nI M), .int (nI N)])), (ha, .inl (cI, 12, .inl px)), (hb, .inl (cI, 12, .inl py)), (hc, .inl (cI, 12, .inl (fun i => nI (pl i)))), (hd, .inl (cI, 12, .inl pk)), (o, .inr (4, [.ref oa, .ref ob, .ref oc, .ref od])), (oa, .inl (cI, 3, .inl (fun i => nI (ls i)))), (ob, .inl (cJ, 3, .inr (.inl (fun i => zL (fsum ls lv i))))), (oc, .inl (cJ, 3, .inr (.inl (fun i => zL (fsum2 ls lv lx i))))), (od, .inl (cJ, 3, .inr (.inl (fun i => zL (fsum2 ls lv ly i))))), (ca, .inr (0, [.ref h, .long (zL w1), .long (zL w2), .long (zL w3), .long (zL w4), .long (zL w5), .long (zL w6), .long (zL de), .long (zL cw), .long (zL cp), .long (zL cq)])), (m0, .inr (3, [.ref ma, .ref mb, .ref mc])), (ma, .inl (cI, 12, .inl pu)), (mb, .inl (cI, 12, .inl be)), (mc, .inl (cI, 12, .inl nr)), (v0, .inr (1, [.int dp0, .int b0, .int lf0, .int mo0, .int us0])), (t, .inr (6, [.ref ta, .ref tb, .int (nI tn)])), (ta, .inl (cJ, 15, .inr (.inl ab))), (tb, .inl (cJ, 15, .inr (.inl bl)))]) ((wset_wgo (nodup_of nd24) rfl).trans rfl) ?_
    refine v_st (st' := [.int (-1)]) rfl ?_
    refine v_istore_n F dX7_end_5 (i := 2) (lv' := [(2, .int (-1)), (0, .ref z), (1, .int c1)]) rfl (Nat.le_of_ble_eq_true rfl) rfl (q := 6) rfl ?_
    refine v_iload_n F dX7_end_6 (i := 2) rfl 0 rfl (q := 7) rfl ?_
    refine v_if_eq F dX7_end_7 (tgt := 12) rfl (q := 10) rfl (fun c7 => ?_) (fun c7 => ?_)
    · exact absurd c7 (by decide)
    · skip
      refine v_iload_n F dX7_end_10 (i := 2) rfl 0 rfl (q := 11) rfl ?_
      exact hE rfl dX7_end_11 (Nat.zero_le _) (Nat.zero_le _) ⟨(by have hf : fEnd c1 (th, sd, tp, n, sc, sp, px, py, pl, pk, N, M, ls, lv, lx, ly, ab, bl, tn) = (-1, (th, sd, tp, n, sc, sp, px, py, pl, pk, N, M, ls, lv, lx, ly, ab, bl, tn)) := (by simp [fEnd, hs1]); exact ⟨(w1, w2, w3, w4, w5, w6, de, cw, cp, cq, pu, be, nr, dp0, b0, lf0, mo0, us0), by rw [hf], by rw [hf]; rfl⟩), Nat.le_of_ble_eq_true rfl⟩
  · skip
    refine v_ws (ws' := [(z, .inr (7, [.ref g, .ref h, .ref o, .ref ca, .ref m0, .ref v0, .ref t, .int sp])), (g, .inr (2, [.ref ga, .ref gb, .ref gc, .int (nI n), .int sc])), (ga, .inl (cI, 6, .inl th)), (gb, .inl (cI, 6, .inl sd)), (gc, .inl (cI, 6, .inl tp)), (h, .inr (5, [.ref ha, .ref hb, .ref hc, .ref hd, .int (nI M), .int (nI N)])), (ha, .inl (cI, 12, .inl px)), (hb, .inl (cI, 12, .inl py)), (hc, .inl (cI, 12, .inl (fun i => nI (pl i)))), (hd, .inl (cI, 12, .inl pk)), (o, .inr (4, [.ref oa, .ref ob, .ref oc, .ref od])), (oa, .inl (cI, 3, .inl (fun i => nI (ls i)))), (ob, .inl (cJ, 3, .inr (.inl (fun i => zL (fsum ls lv i))))), (oc, .inl (cJ, 3, .inr (.inl (fun i => zL (fsum2 ls lv lx i))))), (od, .inl (cJ, 3, .inr (.inl (fun i => zL (fsum2 ls lv ly i))))), (ca, .inr (0, [.ref h, .long (zL (dWW pk px py M N)), .long (zL (dWP pk px py M N)), .long (zL (dWQ pk px py M N)), .long (zL (dPP pk px py M N)), .long (zL (dPQ pk px py M N)), .long (zL (dQQ pk px py M N)), .long (zL (dDE pk px py M N)), .long (zL cw), .long (zL cp), .long (zL cq)])), (m0, .inr (3, [.ref ma, .ref mb, .ref mc])), (ma, .inl (cI, 12, .inl pu)), (mb, .inl (cI, 12, .inl be)), (mc, .inl (cI, 12, .inl nr)), (v0, .inr (1, [.int dp0, .int b0, .int lf0, .int mo0, .int us0])), (t, .inr (6, [.ref ta, .ref tb, .int (nI tn)])), (ta, .inl (cJ, 15, .inr (.inl ab))), (tb, .inl (cJ, 15, .inr (.inl bl)))]) ((wset_wgo (nodup_of nd24) rfl).trans rfl) ?_
    refine v_st (st' := [.int (-2)]) rfl ?_
    refine v_istore_n F dX7_end_5 (i := 2) (lv' := [(2, .int (-2)), (0, .ref z), (1, .int c1)]) rfl (Nat.le_of_ble_eq_true rfl) rfl (q := 6) rfl ?_
    refine v_iload_n F dX7_end_6 (i := 2) rfl 0 rfl (q := 7) rfl ?_
    refine v_if_eq F dX7_end_7 (tgt := 12) rfl (q := 10) rfl (fun c7 => ?_) (fun c7 => ?_)
    · exact absurd c7 (by decide)
    · skip
      refine v_iload_n F dX7_end_10 (i := 2) rfl 0 rfl (q := 11) rfl ?_
      exact hE rfl dX7_end_11 (Nat.zero_le _) (Nat.zero_le _) ⟨(by have hf : fEnd c1 (th, sd, tp, n, sc, sp, px, py, pl, pk, N, M, ls, lv, lx, ly, ab, bl, tn) = (-2, (th, sd, tp, n, sc, sp, px, py, pl, pk, N, M, ls, lv, lx, ly, ab, bl, tn)) := (by simp [fEnd, hs1, hs2]); exact ⟨((dWW pk px py M N), (dWP pk px py M N), (dWQ pk px py M N), (dPP pk px py M N), (dPQ pk px py M N), (dQQ pk px py M N), (dDE pk px py M N), cw, cp, cq, pu, be, nr, dp0, b0, lf0, mo0, us0), by rw [hf], by rw [hf]; rfl⟩), Nat.le_of_ble_eq_true rfl⟩
  · skip
    refine v_ws (ws' := [(z, .inr (7, [.ref g, .ref h, .ref o, .ref ca, .ref m0, .ref v0, .ref t, .int sp])), (g, .inr (2, [.ref ga, .ref gb, .ref gc, .int (nI n), .int sc])), (ga, .inl (cI, 6, .inl th)), (gb, .inl (cI, 6, .inl sd)), (gc, .inl (cI, 6, .inl tp)), (h, .inr (5, [.ref ha, .ref hb, .ref hc, .ref hd, .int (nI M), .int (nI N)])), (ha, .inl (cI, 12, .inl px)), (hb, .inl (cI, 12, .inl py)), (hc, .inl (cI, 12, .inl (fun i => nI (pl i)))), (hd, .inl (cI, 12, .inl pk)), (o, .inr (4, [.ref oa, .ref ob, .ref oc, .ref od])), (oa, .inl (cI, 3, .inl (fun i => nI (ls i)))), (ob, .inl (cJ, 3, .inr (.inl (fun i => zL (fsum ls lv i))))), (oc, .inl (cJ, 3, .inr (.inl (fun i => zL (fsum2 ls lv lx i))))), (od, .inl (cJ, 3, .inr (.inl (fun i => zL (fsum2 ls lv ly i))))), (ca, .inr (0, [.ref h, .long (zL (dWW pk px py M N)), .long (zL (dWP pk px py M N)), .long (zL (dWQ pk px py M N)), .long (zL (dPP pk px py M N)), .long (zL (dPQ pk px py M N)), .long (zL (dQQ pk px py M N)), .long (zL (dDE pk px py M N)), .long (zL (cWi pk px py M N ls lv lx ly (pN c1))), .long (zL (cPi pk px py M N ls lv lx ly (pN c1))), .long (zL (cQi pk px py M N ls lv lx ly (pN c1)))])), (m0, .inr (3, [.ref ma, .ref mb, .ref mc])), (ma, .inl (cI, 12, .inl pu)), (mb, .inl (cI, 12, .inl be)), (mc, .inl (cI, 12, .inl nr)), (v0, .inr (1, [.int dp0, .int b0, .int lf0, .int mo0, .int us0])), (t, .inr (6, [.ref ta, .ref tb, .int (nI tn)])), (ta, .inl (cJ, 15, .inr (.inl ab))), (tb, .inl (cJ, 15, .inr (.inl bl)))]) ((wset_wgo (nodup_of nd24) rfl).trans rfl) ?_
    refine v_st (st' := [.int 0]) rfl ?_
    obtain ⟨kc, hkc, hkc2⟩ := case_ex hs1
    have hR := shB_rng P hls hlv hlx hly M (pN c1)
    have hDR := (d_rng P M).2.2.2.2.2.2
    refine v_istore_n F dX7_end_5 (i := 2) (lv' := [(2, .int 0), (0, .ref z), (1, .int c1)]) rfl (Nat.le_of_ble_eq_true rfl) rfl (q := 6) rfl ?_
    refine v_iload_n F dX7_end_6 (i := 2) rfl 0 rfl (q := 7) rfl ?_
    refine v_if_eq F dX7_end_7 (tgt := 12) rfl (q := 10) rfl (fun c7 => ?_) (fun c7 => ?_)
    · skip
      refine v_aload_n F dX7_end_12 (i := 0) rfl 1 rfl (q := 13) rfl ?_
      refine gt_X7_42 F dX7_end_13 0 rfl rfl (q := 16) rfl ?_
      refine v_aload_n F dX7_end_16 (i := 0) rfl 1 rfl (q := 17) rfl ?_
      refine gt_X7_12 F dX7_end_17 0 rfl rfl (q := 20) rfl ?_
      refine v_aload_n F dX7_end_20 (i := 0) rfl 1 rfl (q := 21) rfl ?_
      refine gt_X7_19 F dX7_end_21 0 rfl rfl (q := 24) rfl ?_
      refine v_callVN F ml_X7_169 im_X3_measure se_X3_measure in_X3 co_X3_measure sd_X3_measure (c_X3_measure m0 ma mb mc pu be nr g ga gb gc th sd tp n sc h ha hb hc hd px py pl pk N M G P) ⟨Nat.zero_le _, Nat.zero_le _⟩ (Nat.le_of_ble_eq_true rfl) (Nat.le_of_ble_eq_true rfl) 16 (As := [.ref g, .ref h]) rfl rfl rfl rfl rfl [16, 17, 18, 19, 1, 2, 3, 4, 5, 6, 7, 8, 9] rfl nd13 vnd13 (rest := []) rfl (Nat.le_of_ble_eq_true rfl) dX7_end_24 (q := 27) rfl (fun r w hr => ?_)
      obtain ⟨rfl, rfl⟩ := hr
      refine v_ws (ws' := [(z, .inr (7, [.ref g, .ref h, .ref o, .ref ca, .ref m0, .ref v0, .ref t, .int sp])), (g, .inr (2, [.ref ga, .ref gb, .ref gc, .int (nI n), .int sc])), (ga, .inl (cI, 6, .inl th)), (gb, .inl (cI, 6, .inl sd)), (gc, .inl (cI, 6, .inl tp)), (h, .inr (5, [.ref ha, .ref hb, .ref hc, .ref hd, .int (nI M), .int (nI N)])), (ha, .inl (cI, 12, .inl px)), (hb, .inl (cI, 12, .inl py)), (hc, .inl (cI, 12, .inl (fun i => nI (pl i)))), (hd, .inl (cI, 12, .inl pk)), (o, .inr (4, [.ref oa, .ref ob, .ref oc, .ref od])), (oa, .inl (cI, 3, .inl (fun i => nI (ls i)))), (ob, .inl (cJ, 3, .inr (.inl (fun i => zL (fsum ls lv i))))), (oc, .inl (cJ, 3, .inr (.inl (fun i => zL (fsum2 ls lv lx i))))), (od, .inl (cJ, 3, .inr (.inl (fun i => zL (fsum2 ls lv ly i))))), (ca, .inr (0, [.ref h, .long (zL (dWW pk px py M N)), .long (zL (dWP pk px py M N)), .long (zL (dWQ pk px py M N)), .long (zL (dPP pk px py M N)), .long (zL (dPQ pk px py M N)), .long (zL (dQQ pk px py M N)), .long (zL (dDE pk px py M N)), .long (zL (cWi pk px py M N ls lv lx ly (pN c1))), .long (zL (cPi pk px py M N ls lv lx ly (pN c1))), .long (zL (cQi pk px py M N ls lv lx ly (pN c1)))])), (m0, .inr (3, [.ref ma, .ref mb, .ref mc])), (ma, .inl (cI, 12, .inl (fil (fun i => zI (gPU th sd n sc (pl i))) pu N))), (mb, .inl (cI, 12, .inl (fil (fun i => zI (gBE th sd tp n sc (pl i))) be N))), (mc, .inl (cI, 12, .inl nr)), (v0, .inr (1, [.int dp0, .int b0, .int lf0, .int mo0, .int us0])), (t, .inr (6, [.ref ta, .ref tb, .int (nI tn)])), (ta, .inl (cJ, 15, .inr (.inl ab))), (tb, .inl (cJ, 15, .inr (.inl bl)))]) ((wset_wgo (nodup_of nd13) rfl).trans rfl) ?_
      refine v_st (st' := []) rfl ?_
      have hsr := hR.2.2.2
      have hde := hDR
      refine v_bipush F dX7_end_27 (v := (-4)) (q := 29) rfl rfl ?_
      refine v_istore_n F dX7_end_29 (i := 3) (lv' := [(3, .int (-4)), (2, .int 0), (0, .ref z), (1, .int c1)]) rfl (Nat.le_of_ble_eq_true rfl) rfl (q := 30) rfl ?_
      refine v_iconst F dX7_end_30 (v := 0) (q := 31) rfl rfl ?_
      refine v_istore F dX7_end_31 (lv' := [(4, .int 0), (3, .int (-4)), (2, .int 0), (0, .ref z), (1, .int c1)]) (Nat.le_of_ble_eq_true rfl) rfl (q := 33) rfl ?_
      have L33 : ∀ (d k : Nat), k + d = N → V p l e R s m args below meth c D A 6 0 0 Q 33 [(0, .ref z), (3, .int (enI (enF M (shB pk px py M N ls lv lx ly (pN c1)) (liI th sd tp n sc pl) k))), (4, .int (nI k))] [] [(z, .inr (7, [.ref g, .ref h, .ref o, .ref ca, .ref m0, .ref v0, .ref t, .int sp])), (g, .inr (2, [.ref ga, .ref gb, .ref gc, .int (nI n), .int sc])), (ga, .inl (cI, 6, .inl th)), (gb, .inl (cI, 6, .inl sd)), (gc, .inl (cI, 6, .inl tp)), (h, .inr (5, [.ref ha, .ref hb, .ref hc, .ref hd, .int (nI M), .int (nI N)])), (ha, .inl (cI, 12, .inl px)), (hb, .inl (cI, 12, .inl py)), (hc, .inl (cI, 12, .inl (fun i => nI (pl i)))), (hd, .inl (cI, 12, .inl pk)), (o, .inr (4, [.ref oa, .ref ob, .ref oc, .ref od])), (oa, .inl (cI, 3, .inl (fun i => nI (ls i)))), (ob, .inl (cJ, 3, .inr (.inl (fun i => zL (fsum ls lv i))))), (oc, .inl (cJ, 3, .inr (.inl (fun i => zL (fsum2 ls lv lx i))))), (od, .inl (cJ, 3, .inr (.inl (fun i => zL (fsum2 ls lv ly i))))), (ca, .inr (0, [.ref h, .long (zL (dWW pk px py M N)), .long (zL (dWP pk px py M N)), .long (zL (dWQ pk px py M N)), .long (zL (dPP pk px py M N)), .long (zL (dPQ pk px py M N)), .long (zL (dQQ pk px py M N)), .long (zL (dDE pk px py M N)), .long (zL (cWi pk px py M N ls lv lx ly (pN c1))), .long (zL (cPi pk px py M N ls lv lx ly (pN c1))), .long (zL (cQi pk px py M N ls lv lx ly (pN c1)))])), (m0, .inr (3, [.ref ma, .ref mb, .ref mc])), (ma, .inl (cI, 12, .inl (fil (fun i => zI (gPU th sd n sc (pl i))) pu N))), (mb, .inl (cI, 12, .inl (fil (fun i => zI (gBE th sd tp n sc (pl i))) be N))), (mc, .inl (cI, 12, .inl nr)), (v0, .inr (1, [.int dp0, .int b0, .int lf0, .int mo0, .int us0])), (t, .inr (6, [.ref ta, .ref tb, .int (nI tn)])), (ta, .inl (cJ, 15, .inr (.inl ab))), (tb, .inl (cJ, 15, .inr (.inl bl)))] := by
        intro d
        induction d using Nat.strongRecOn with
        | _ d ih => ?_
        intro k hk
        refine v_iload F dX7_end_33 2 rfl (q := 35) rfl ?_
        refine v_aload_n F dX7_end_35 (i := 0) rfl 0 rfl (q := 36) rfl ?_
        refine gt_X7_19 F dX7_end_36 0 rfl rfl (q := 39) rfl ?_
        refine gt_X7_100 F dX7_end_39 5 rfl rfl (q := 42) rfl ?_
        refine v_icmp_ge F dX7_end_42 (tgt := 96) rfl (q := 45) rfl (fun c42 => ?_) (fun c42 => ?_)
        · skip
          rw [nI_leI (by omega) (by omega)] at c42
          have hkn : N = k := by omega
          subst hkn
          rcases ho : (enF M (shB pk px py M N ls lv lx ly (pN c1)) (liI th sd tp n sc pl) N) with _ | i
          · skip
            refine v_iload_n F dX7_end_96 (i := 3) rfl 1 rfl (q := 97) rfl ?_
            refine v_bipush F dX7_end_97 (v := (-4)) (q := 99) rfl rfl ?_
            refine v_icmp_ne F dX7_end_99 (tgt := 105) rfl (q := 102) rfl (fun c99 => ?_) (fun c99 => ?_)
            · exact absurd rfl c99
            · skip
              refine v_bipush F dX7_end_102 (v := (-4)) (q := 104) rfl rfl ?_
              exact hE rfl dX7_end_104 (Nat.zero_le _) (Nat.zero_le _) ⟨(by have hf : fEnd c1 (th, sd, tp, n, sc, sp, px, py, pl, pk, N, M, ls, lv, lx, ly, ab, bl, tn) = (-4, (th, sd, tp, n, sc, sp, px, py, pl, pk, N, M, ls, lv, lx, ly, ab, bl, tn)) := (by simp only [fEnd]; rw [if_pos hs1, if_pos hs2, ho]); exact ⟨((dWW pk px py M N), (dWP pk px py M N), (dWQ pk px py M N), (dPP pk px py M N), (dPQ pk px py M N), (dQQ pk px py M N), (dDE pk px py M N), (cWi pk px py M N ls lv lx ly (pN c1)), (cPi pk px py M N ls lv lx ly (pN c1)), (cQi pk px py M N ls lv lx ly (pN c1)), fil (fun i => zI (gPU th sd n sc (pl i))) pu N, fil (fun i => zI (gBE th sd tp n sc (pl i))) be N, nr, dp0, b0, lf0, mo0, us0), by rw [hf], by rw [hf]; rfl⟩), Nat.le_of_ble_eq_true rfl⟩
          · skip
            have hi := enF_lt ho
            have hin : i < N := hi.1
            have hRi := hsr i hin
            have hli := li_rng G P hin ((shB pk px py M N ls lv lx ly (pN c1)) i)
            have hmi := mul_rng (a := (liI th sd tp n sc pl) ((shB pk px py M N ls lv lx ly (pN c1)) i) i) (A := 6000) ⟨by omega, hli.2⟩ hDR
            have hsB : ∀ i, shB pk px py M N ls lv lx ly (pN c1) i = shI pk px py (cWi pk px py M N ls lv lx ly (pN c1)) (cPi pk px py M N ls lv lx ly (pN c1)) (cQi pk px py M N ls lv lx ly (pN c1)) i := fun _ => rfl
            refine v_iload_n F dX7_end_96 (i := 3) rfl 1 rfl (q := 97) rfl ?_
            refine v_bipush F dX7_end_97 (v := (-4)) (q := 99) rfl rfl ?_
            refine v_icmp_ne F dX7_end_99 (tgt := 105) rfl (q := 102) rfl (fun c99 => ?_) (fun c99 => ?_)
            · skip
              refine v_aload_n F dX7_end_105 (i := 0) rfl 0 rfl (q := 106) rfl ?_
              refine gt_X7_35 F dX7_end_106 0 rfl rfl (q := 109) rfl ?_
              refine v_iload_n F dX7_end_109 (i := 3) rfl 1 rfl (q := 110) rfl ?_
              refine v_callVN F ml_X7_165 im_X0_share se_X0_share in_X0 co_X0_share sd_X0_share (c_X0_share ca h ha hb hc hd px py pl pk N M (dWW pk px py M N) (dWP pk px py M N) (dWQ pk px py M N) (dPP pk px py M N) (dPQ pk px py M N) (dQQ pk px py M N) (dDE pk px py M N) (cWi pk px py M N ls lv lx ly (pN c1)) (cPi pk px py M N ls lv lx ly (pN c1)) (cQi pk px py M N ls lv lx ly (pN c1)) i (by omega)) ⟨Nat.zero_le _, Nat.zero_le _⟩ (Nat.le_of_ble_eq_true rfl) (Nat.le_of_ble_eq_true rfl) 15 (As := [.int (nI i)]) rfl rfl rfl rfl rfl [15, 5, 6, 7, 8, 9] rfl rfl rfl (rest := []) rfl (Nat.le_of_ble_eq_true rfl) dX7_end_110 (q := 113) rfl (fun r w hr => ?_)
              obtain ⟨rfl, rfl⟩ := hr
              refine v_ws (ws' := [(z, .inr (7, [.ref g, .ref h, .ref o, .ref ca, .ref m0, .ref v0, .ref t, .int sp])), (g, .inr (2, [.ref ga, .ref gb, .ref gc, .int (nI n), .int sc])), (ga, .inl (cI, 6, .inl th)), (gb, .inl (cI, 6, .inl sd)), (gc, .inl (cI, 6, .inl tp)), (h, .inr (5, [.ref ha, .ref hb, .ref hc, .ref hd, .int (nI M), .int (nI N)])), (ha, .inl (cI, 12, .inl px)), (hb, .inl (cI, 12, .inl py)), (hc, .inl (cI, 12, .inl (fun i => nI (pl i)))), (hd, .inl (cI, 12, .inl pk)), (o, .inr (4, [.ref oa, .ref ob, .ref oc, .ref od])), (oa, .inl (cI, 3, .inl (fun i => nI (ls i)))), (ob, .inl (cJ, 3, .inr (.inl (fun i => zL (fsum ls lv i))))), (oc, .inl (cJ, 3, .inr (.inl (fun i => zL (fsum2 ls lv lx i))))), (od, .inl (cJ, 3, .inr (.inl (fun i => zL (fsum2 ls lv ly i))))), (ca, .inr (0, [.ref h, .long (zL (dWW pk px py M N)), .long (zL (dWP pk px py M N)), .long (zL (dWQ pk px py M N)), .long (zL (dPP pk px py M N)), .long (zL (dPQ pk px py M N)), .long (zL (dQQ pk px py M N)), .long (zL (dDE pk px py M N)), .long (zL (cWi pk px py M N ls lv lx ly (pN c1))), .long (zL (cPi pk px py M N ls lv lx ly (pN c1))), .long (zL (cQi pk px py M N ls lv lx ly (pN c1)))])), (m0, .inr (3, [.ref ma, .ref mb, .ref mc])), (ma, .inl (cI, 12, .inl (fil (fun i => zI (gPU th sd n sc (pl i))) pu N))), (mb, .inl (cI, 12, .inl (fil (fun i => zI (gBE th sd tp n sc (pl i))) be N))), (mc, .inl (cI, 12, .inl nr)), (v0, .inr (1, [.int dp0, .int b0, .int lf0, .int mo0, .int us0])), (t, .inr (6, [.ref ta, .ref tb, .int (nI tn)])), (ta, .inl (cJ, 15, .inr (.inl ab))), (tb, .inl (cJ, 15, .inr (.inl bl)))]) ((wset_wgo (nodup_of rfl) rfl).trans rfl) ?_
              refine v_st (st' := [.long (zL (shI pk px py (cWi pk px py M N ls lv lx ly (pN c1)) (cPi pk px py M N ls lv lx ly (pN c1)) (cQi pk px py M N ls lv lx ly (pN c1)) i))]) rfl ?_
              refine v_long (y := zL (((shB pk px py M N ls lv lx ly (pN c1))) i)) (rfl) ?_
              refine v_lstore F dX7_end_113 (lv' := [(4, .long (zL (((shB pk px py M N ls lv lx ly (pN c1))) i))), (0, .ref z), (3, .int (nI i))]) (Nat.le_of_ble_eq_true rfl) rfl (q := 115) rfl ?_
              refine v_aload_n F dX7_end_115 (i := 0) rfl 1 rfl (q := 116) rfl ?_
              refine gt_X7_56 F dX7_end_116 0 rfl rfl (q := 119) rfl ?_
              refine v_callVN F ml_X7_147 im_X6_clear se_X6_clear in_X6 co_X6_clear sd_X6_clear (c_X6_clear t ta tb ab bl tn) ⟨Nat.zero_le _, Nat.zero_le _⟩ (Nat.le_of_ble_eq_true rfl) (Nat.le_of_ble_eq_true rfl) 21 (As := []) rfl rfl rfl rfl rfl [21, 22, 23] rfl rfl rfl (rest := []) rfl (Nat.le_of_ble_eq_true rfl) dX7_end_119 (q := 122) rfl (fun r w hr => ?_)
              obtain ⟨rfl, rfl⟩ := hr
              refine v_ws (ws' := [(z, .inr (7, [.ref g, .ref h, .ref o, .ref ca, .ref m0, .ref v0, .ref t, .int sp])), (g, .inr (2, [.ref ga, .ref gb, .ref gc, .int (nI n), .int sc])), (ga, .inl (cI, 6, .inl th)), (gb, .inl (cI, 6, .inl sd)), (gc, .inl (cI, 6, .inl tp)), (h, .inr (5, [.ref ha, .ref hb, .ref hc, .ref hd, .int (nI M), .int (nI N)])), (ha, .inl (cI, 12, .inl px)), (hb, .inl (cI, 12, .inl py)), (hc, .inl (cI, 12, .inl (fun i => nI (pl i)))), (hd, .inl (cI, 12, .inl pk)), (o, .inr (4, [.ref oa, .ref ob, .ref oc, .ref od])), (oa, .inl (cI, 3, .inl (fun i => nI (ls i)))), (ob, .inl (cJ, 3, .inr (.inl (fun i => zL (fsum ls lv i))))), (oc, .inl (cJ, 3, .inr (.inl (fun i => zL (fsum2 ls lv lx i))))), (od, .inl (cJ, 3, .inr (.inl (fun i => zL (fsum2 ls lv ly i))))), (ca, .inr (0, [.ref h, .long (zL (dWW pk px py M N)), .long (zL (dWP pk px py M N)), .long (zL (dWQ pk px py M N)), .long (zL (dPP pk px py M N)), .long (zL (dPQ pk px py M N)), .long (zL (dQQ pk px py M N)), .long (zL (dDE pk px py M N)), .long (zL (cWi pk px py M N ls lv lx ly (pN c1))), .long (zL (cPi pk px py M N ls lv lx ly (pN c1))), .long (zL (cQi pk px py M N ls lv lx ly (pN c1)))])), (m0, .inr (3, [.ref ma, .ref mb, .ref mc])), (ma, .inl (cI, 12, .inl (fil (fun i => zI (gPU th sd n sc (pl i))) pu N))), (mb, .inl (cI, 12, .inl (fil (fun i => zI (gBE th sd tp n sc (pl i))) be N))), (mc, .inl (cI, 12, .inl nr)), (v0, .inr (1, [.int dp0, .int b0, .int lf0, .int mo0, .int us0])), (t, .inr (6, [.ref ta, .ref tb, .int 0])), (ta, .inl (cJ, 15, .inr (.inl ab))), (tb, .inl (cJ, 15, .inr (.inl bl)))]) ((wset_wgo (nodup_of rfl) rfl).trans rfl) ?_
              refine v_st (st' := []) rfl ?_
              refine v_aload_n F dX7_end_122 (i := 0) rfl 1 rfl (q := 123) rfl ?_
              refine gt_X7_56 F dX7_end_123 0 rfl rfl (q := 126) rfl ?_
              refine v_aload_n F dX7_end_126 (i := 0) rfl 1 rfl (q := 127) rfl ?_
              refine gt_X7_42 F dX7_end_127 0 rfl rfl (q := 130) rfl ?_
              refine v_iload_n F dX7_end_130 (i := 3) rfl 2 rfl (q := 131) rfl ?_
              refine v_lload F dX7_end_131 0 rfl (q := 133) rfl ?_
              refine v_callVN F ml_X7_182 im_X3_against se_X3_against in_X3 co_X3_against sd_X3_against (c_X3_against m0 ma mb mc (fil (fun i => zI (gPU th sd n sc (pl i))) pu N) (fil (fun i => zI (gBE th sd tp n sc (pl i))) be N) nr i (zL (((shB pk px py M N ls lv lx ly (pN c1))) i)) (by omega)) ⟨Nat.zero_le _, Nat.zero_le _⟩ (Nat.le_of_ble_eq_true rfl) (Nat.le_of_ble_eq_true rfl) 16 (As := [.int (nI i), .long (zL (((shB pk px py M N ls lv lx ly (pN c1))) i))]) rfl rfl rfl rfl rfl [16, 17, 18, 19] rfl rfl rfl (rest := [.ref t]) rfl (Nat.le_of_ble_eq_true rfl) dX7_end_133 (q := 136) rfl (fun r w hr => ?_)
              obtain ⟨rfl, rfl⟩ := hr
              refine v_ws (ws' := [(z, .inr (7, [.ref g, .ref h, .ref o, .ref ca, .ref m0, .ref v0, .ref t, .int sp])), (g, .inr (2, [.ref ga, .ref gb, .ref gc, .int (nI n), .int sc])), (ga, .inl (cI, 6, .inl th)), (gb, .inl (cI, 6, .inl sd)), (gc, .inl (cI, 6, .inl tp)), (h, .inr (5, [.ref ha, .ref hb, .ref hc, .ref hd, .int (nI M), .int (nI N)])), (ha, .inl (cI, 12, .inl px)), (hb, .inl (cI, 12, .inl py)), (hc, .inl (cI, 12, .inl (fun i => nI (pl i)))), (hd, .inl (cI, 12, .inl pk)), (o, .inr (4, [.ref oa, .ref ob, .ref oc, .ref od])), (oa, .inl (cI, 3, .inl (fun i => nI (ls i)))), (ob, .inl (cJ, 3, .inr (.inl (fun i => zL (fsum ls lv i))))), (oc, .inl (cJ, 3, .inr (.inl (fun i => zL (fsum2 ls lv lx i))))), (od, .inl (cJ, 3, .inr (.inl (fun i => zL (fsum2 ls lv ly i))))), (ca, .inr (0, [.ref h, .long (zL (dWW pk px py M N)), .long (zL (dWP pk px py M N)), .long (zL (dWQ pk px py M N)), .long (zL (dPP pk px py M N)), .long (zL (dPQ pk px py M N)), .long (zL (dQQ pk px py M N)), .long (zL (dDE pk px py M N)), .long (zL (cWi pk px py M N ls lv lx ly (pN c1))), .long (zL (cPi pk px py M N ls lv lx ly (pN c1))), .long (zL (cQi pk px py M N ls lv lx ly (pN c1)))])), (m0, .inr (3, [.ref ma, .ref mb, .ref mc])), (ma, .inl (cI, 12, .inl (fil (fun i => zI (gPU th sd n sc (pl i))) pu N))), (mb, .inl (cI, 12, .inl (fil (fun i => zI (gBE th sd tp n sc (pl i))) be N))), (mc, .inl (cI, 12, .inl nr)), (v0, .inr (1, [.int dp0, .int b0, .int lf0, .int mo0, .int us0])), (t, .inr (6, [.ref ta, .ref tb, .int 0])), (ta, .inl (cJ, 15, .inr (.inl ab))), (tb, .inl (cJ, 15, .inr (.inl bl)))]) ((wset_wgo (nodup_of rfl) rfl).trans rfl) ?_
              refine v_st (st' := [.long ((if 0 < (zL (((shB pk px py M N ls lv lx ly (pN c1))) i)) then (fil (fun i => zI (gBE th sd tp n sc (pl i))) be N) i else (fil (fun i => zI (gPU th sd n sc (pl i))) pu N) i).toInt64), .ref t]) rfl ?_
              refine v_long (y := zL ((liI th sd tp n sc pl) ((shB pk px py M N ls lv lx ly (pN c1)) i) i)) (li_zL G P hin (by omega) (by omega) (fil_B i hin) (fil_P i hin)) ?_
              refine v_aload_n F dX7_end_136 (i := 0) rfl 1 rfl (q := 137) rfl ?_
              refine gt_X7_35 F dX7_end_137 0 rfl rfl (q := 140) rfl ?_
              refine gt_X7_153 F dX7_end_140 15 rfl rfl (q := 143) rfl ?_
              refine v_lmul F dX7_end_143 (q := 144) rfl ?_
              refine v_long (y := zL ((liI th sd tp n sc pl) ((shB pk px py M N ls lv lx ly (pN c1)) i) i * dDE pk px py M N)) (zL_mul _ _) ?_
              refine v_lload F dX7_end_144 0 rfl (q := 146) rfl ?_
              refine v_mabsl F ml_X7_186 sm_Mabs inS_J9 co_Mabs ⟨Nat.zero_le _, Nat.zero_le _⟩ dX7_end_146 (Nat.le_of_ble_eq_true rfl) (Nat.le_of_ble_eq_true rfl) (q := 149) rfl ?_
              refine v_long (y := zL ((((shB pk px py M N ls lv lx ly (pN c1)) i).natAbs : Nat) : Int)) (abs_zL (by omega) (by omega)) ?_
              refine v_callVN F ml_X7_156 im_X6_add se_X6_add in_X6 co_X6_add sd_X6_add (c_X6_add t ta tb ab bl 0 (zL ((liI th sd tp n sc pl) ((shB pk px py M N ls lv lx ly (pN c1)) i) i * dDE pk px py M N)) (zL ((((shB pk px py M N ls lv lx ly (pN c1)) i).natAbs : Nat) : Int)) (by omega) (by rw [zL_toInt (by omega) (by omega)]; omega) (by rw [zL_toInt (by omega) (by omega)]; have := hi.2.2; omega)) ⟨Nat.zero_le _, Nat.zero_le _⟩ (Nat.le_of_ble_eq_true rfl) (Nat.le_of_ble_eq_true rfl) 21 (As := [.long (zL ((liI th sd tp n sc pl) ((shB pk px py M N ls lv lx ly (pN c1)) i) i * dDE pk px py M N)), .long (zL ((((shB pk px py M N ls lv lx ly (pN c1)) i).natAbs : Nat) : Int))]) rfl rfl rfl rfl rfl [21, 22, 23] rfl rfl rfl (rest := []) rfl (Nat.le_of_ble_eq_true rfl) dX7_end_149 (q := 152) rfl (fun r w hr => ?_)
              obtain ⟨rfl, rfl⟩ := hr
              refine v_ws (ws' := [(z, .inr (7, [.ref g, .ref h, .ref o, .ref ca, .ref m0, .ref v0, .ref t, .int sp])), (g, .inr (2, [.ref ga, .ref gb, .ref gc, .int (nI n), .int sc])), (ga, .inl (cI, 6, .inl th)), (gb, .inl (cI, 6, .inl sd)), (gc, .inl (cI, 6, .inl tp)), (h, .inr (5, [.ref ha, .ref hb, .ref hc, .ref hd, .int (nI M), .int (nI N)])), (ha, .inl (cI, 12, .inl px)), (hb, .inl (cI, 12, .inl py)), (hc, .inl (cI, 12, .inl (fun i => nI (pl i)))), (hd, .inl (cI, 12, .inl pk)), (o, .inr (4, [.ref oa, .ref ob, .ref oc, .ref od])), (oa, .inl (cI, 3, .inl (fun i => nI (ls i)))), (ob, .inl (cJ, 3, .inr (.inl (fun i => zL (fsum ls lv i))))), (oc, .inl (cJ, 3, .inr (.inl (fun i => zL (fsum2 ls lv lx i))))), (od, .inl (cJ, 3, .inr (.inl (fun i => zL (fsum2 ls lv ly i))))), (ca, .inr (0, [.ref h, .long (zL (dWW pk px py M N)), .long (zL (dWP pk px py M N)), .long (zL (dWQ pk px py M N)), .long (zL (dPP pk px py M N)), .long (zL (dPQ pk px py M N)), .long (zL (dQQ pk px py M N)), .long (zL (dDE pk px py M N)), .long (zL (cWi pk px py M N ls lv lx ly (pN c1))), .long (zL (cPi pk px py M N ls lv lx ly (pN c1))), .long (zL (cQi pk px py M N ls lv lx ly (pN c1)))])), (m0, .inr (3, [.ref ma, .ref mb, .ref mc])), (ma, .inl (cI, 12, .inl (fil (fun i => zI (gPU th sd n sc (pl i))) pu N))), (mb, .inl (cI, 12, .inl (fil (fun i => zI (gBE th sd tp n sc (pl i))) be N))), (mc, .inl (cI, 12, .inl nr)), (v0, .inr (1, [.int dp0, .int b0, .int lf0, .int mo0, .int us0])), (t, .inr (6, [.ref ta, .ref tb, .int (nI 1)])), (ta, .inl (cJ, 15, .inr (.inl (vp_updL ab 0 ((zL ((liI th sd tp n sc pl) ((shB pk px py M N ls lv lx ly (pN c1)) i) i * dDE pk px py M N)) / dG (zL ((liI th sd tp n sc pl) ((shB pk px py M N ls lv lx ly (pN c1)) i) i * dDE pk px py M N)) (zL ((((shB pk px py M N ls lv lx ly (pN c1)) i).natAbs : Nat) : Int))))))), (tb, .inl (cJ, 15, .inr (.inl (vp_updL bl 0 ((zL ((((shB pk px py M N ls lv lx ly (pN c1)) i).natAbs : Nat) : Int)) / dG (zL ((liI th sd tp n sc pl) ((shB pk px py M N ls lv lx ly (pN c1)) i) i * dDE pk px py M N)) (zL ((((shB pk px py M N ls lv lx ly (pN c1)) i).natAbs : Nat) : Int)))))))]) ((wset_wgo (nodup_of rfl) rfl).trans rfl) ?_
              refine v_st (st' := []) rfl ?_
              refine v_iload_n F dX7_end_152 (i := 3) rfl 2 rfl (q := 153) rfl ?_
              exact hE rfl dX7_end_153 (Nat.zero_le _) (Nat.zero_le _) ⟨(by have hf : fEnd c1 (th, sd, tp, n, sc, sp, px, py, pl, pk, N, M, ls, lv, lx, ly, ab, bl, tn) = (nI i, (th, sd, tp, n, sc, sp, px, py, pl, pk, N, M, ls, lv, lx, ly, vp_updL ab 0 ((zL ((liI th sd tp n sc pl) ((shB pk px py M N ls lv lx ly (pN c1)) i) i * dDE pk px py M N)) / dG (zL ((liI th sd tp n sc pl) ((shB pk px py M N ls lv lx ly (pN c1)) i) i * dDE pk px py M N)) (zL (((shB pk px py M N ls lv lx ly (pN c1)) i).natAbs : Int))), vp_updL bl 0 ((zL (((shB pk px py M N ls lv lx ly (pN c1)) i).natAbs : Int)) / dG (zL ((liI th sd tp n sc pl) ((shB pk px py M N ls lv lx ly (pN c1)) i) i * dDE pk px py M N)) (zL (((shB pk px py M N ls lv lx ly (pN c1)) i).natAbs : Int))), 1)) := (by simp only [fEnd]; rw [if_pos hs1, if_pos hs2, ho]); exact ⟨((dWW pk px py M N), (dWP pk px py M N), (dWQ pk px py M N), (dPP pk px py M N), (dPQ pk px py M N), (dQQ pk px py M N), (dDE pk px py M N), (cWi pk px py M N ls lv lx ly (pN c1)), (cPi pk px py M N ls lv lx ly (pN c1)), (cQi pk px py M N ls lv lx ly (pN c1)), fil (fun i => zI (gPU th sd n sc (pl i))) pu N, fil (fun i => zI (gBE th sd tp n sc (pl i))) be N, nr, dp0, b0, lf0, mo0, us0), by rw [hf], by rw [hf]; rfl⟩), Nat.le_of_ble_eq_true rfl⟩
            · exact absurd c99 (nI_nm4 (by omega))
        · skip
          rw [nI_leI (by omega) (by omega)] at c42
          obtain ⟨d, rfl⟩ : ∃ d2, d = d2 + 1 := ⟨d - 1, by omega⟩
          have hkn : k < N := by omega
          have hRk := hsr k hkn
          have hsB : ∀ i, shB pk px py M N ls lv lx ly (pN c1) i = (shI pk px py (cWi pk px py M N ls lv lx ly (pN c1)) (cPi pk px py M N ls lv lx ly (pN c1)) (cQi pk px py M N ls lv lx ly (pN c1)) i) := fun _ => rfl
          refine v_aload_n F dX7_end_45 (i := 0) rfl 0 rfl (q := 46) rfl ?_
          refine gt_X7_19 F dX7_end_46 0 rfl rfl (q := 49) rfl ?_
          refine v_iload F dX7_end_49 2 rfl (q := 51) rfl ?_
          refine v_callVN F ml_X7_109 im_X5_isWhole se_X5_isWhole in_X5 co_X5_isWhole sd_X5_isWhole (c_X5_isWhole h ha hb hc hd px py pl pk N M k (by omega) (by omega)) ⟨Nat.zero_le _, Nat.zero_le _⟩ (Nat.le_of_ble_eq_true rfl) (Nat.le_of_ble_eq_true rfl) 5 (As := [.int (nI k)]) rfl rfl rfl rfl rfl [5, 6, 7, 8, 9] rfl rfl rfl (rest := []) rfl (Nat.le_of_ble_eq_true rfl) dX7_end_51 (q := 54) rfl (fun r w hr => ?_)
          obtain ⟨rfl, rfl⟩ := hr
          refine v_ws (ws' := [(z, .inr (7, [.ref g, .ref h, .ref o, .ref ca, .ref m0, .ref v0, .ref t, .int sp])), (g, .inr (2, [.ref ga, .ref gb, .ref gc, .int (nI n), .int sc])), (ga, .inl (cI, 6, .inl th)), (gb, .inl (cI, 6, .inl sd)), (gc, .inl (cI, 6, .inl tp)), (h, .inr (5, [.ref ha, .ref hb, .ref hc, .ref hd, .int (nI M), .int (nI N)])), (ha, .inl (cI, 12, .inl px)), (hb, .inl (cI, 12, .inl py)), (hc, .inl (cI, 12, .inl (fun i => nI (pl i)))), (hd, .inl (cI, 12, .inl pk)), (o, .inr (4, [.ref oa, .ref ob, .ref oc, .ref od])), (oa, .inl (cI, 3, .inl (fun i => nI (ls i)))), (ob, .inl (cJ, 3, .inr (.inl (fun i => zL (fsum ls lv i))))), (oc, .inl (cJ, 3, .inr (.inl (fun i => zL (fsum2 ls lv lx i))))), (od, .inl (cJ, 3, .inr (.inl (fun i => zL (fsum2 ls lv ly i))))), (ca, .inr (0, [.ref h, .long (zL (dWW pk px py M N)), .long (zL (dWP pk px py M N)), .long (zL (dWQ pk px py M N)), .long (zL (dPP pk px py M N)), .long (zL (dPQ pk px py M N)), .long (zL (dQQ pk px py M N)), .long (zL (dDE pk px py M N)), .long (zL (cWi pk px py M N ls lv lx ly (pN c1))), .long (zL (cPi pk px py M N ls lv lx ly (pN c1))), .long (zL (cQi pk px py M N ls lv lx ly (pN c1)))])), (m0, .inr (3, [.ref ma, .ref mb, .ref mc])), (ma, .inl (cI, 12, .inl (fil (fun i => zI (gPU th sd n sc (pl i))) pu N))), (mb, .inl (cI, 12, .inl (fil (fun i => zI (gBE th sd tp n sc (pl i))) be N))), (mc, .inl (cI, 12, .inl nr)), (v0, .inr (1, [.int dp0, .int b0, .int lf0, .int mo0, .int us0])), (t, .inr (6, [.ref ta, .ref tb, .int (nI tn)])), (ta, .inl (cJ, 15, .inr (.inl ab))), (tb, .inl (cJ, 15, .inr (.inl bl)))]) ((wset_wgo (nodup_of rfl) rfl).trans rfl) ?_
          refine v_st (st' := [.int (bI (M.testBit k))]) rfl ?_
          refine v_if_eq F dX7_end_54 (tgt := 90) rfl (q := 57) rfl (fun c54 => ?_) (fun c54 => ?_)
          · skip
            rw [bI_z] at c54
            refine v_iinc F dX7_end_90 2 rfl (v := nI (k + 1)) (lv' := [(4, .int (nI (k + 1))), (0, .ref z), (3, .int (enI (enF M (shB pk px py M N ls lv lx ly (pN c1)) (liI th sd tp n sc pl) k)))]) (nI_1 k) (Nat.le_of_ble_eq_true rfl) rfl (q := 93) rfl ?_
            refine v_goto F dX7_end_93 (tgt := 33) rfl ?_
            refine v_lv (lv' := [(0, .ref z), (3, .int (enI (enF M (shB pk px py M N ls lv lx ly (pN c1)) (liI th sd tp n sc pl) k))), (4, .int (nI (k + 1)))]) [1, 2, 0] rfl ?_
            have hV := ih d (by omega) (k + 1) (by omega)
            first | rw [enF_f1 c54] at hV | rw [enF_f2 hs0] at hV
            exact hV
          · skip
            rw [bI_nz] at c54
            refine v_aload_n F dX7_end_57 (i := 0) rfl 0 rfl (q := 58) rfl ?_
            refine gt_X7_35 F dX7_end_58 0 rfl rfl (q := 61) rfl ?_
            refine v_iload F dX7_end_61 2 rfl (q := 63) rfl ?_
            refine v_callVN F ml_X7_165 im_X0_share se_X0_share in_X0 co_X0_share sd_X0_share (c_X0_share ca h ha hb hc hd px py pl pk N M (dWW pk px py M N) (dWP pk px py M N) (dWQ pk px py M N) (dPP pk px py M N) (dPQ pk px py M N) (dQQ pk px py M N) (dDE pk px py M N) (cWi pk px py M N ls lv lx ly (pN c1)) (cPi pk px py M N ls lv lx ly (pN c1)) (cQi pk px py M N ls lv lx ly (pN c1)) k (by omega)) ⟨Nat.zero_le _, Nat.zero_le _⟩ (Nat.le_of_ble_eq_true rfl) (Nat.le_of_ble_eq_true rfl) 15 (As := [.int (nI k)]) rfl rfl rfl rfl rfl [15, 5, 6, 7, 8, 9] rfl rfl rfl (rest := []) rfl (Nat.le_of_ble_eq_true rfl) dX7_end_63 (q := 66) rfl (fun r w hr => ?_)
            obtain ⟨rfl, rfl⟩ := hr
            refine v_ws (ws' := [(z, .inr (7, [.ref g, .ref h, .ref o, .ref ca, .ref m0, .ref v0, .ref t, .int sp])), (g, .inr (2, [.ref ga, .ref gb, .ref gc, .int (nI n), .int sc])), (ga, .inl (cI, 6, .inl th)), (gb, .inl (cI, 6, .inl sd)), (gc, .inl (cI, 6, .inl tp)), (h, .inr (5, [.ref ha, .ref hb, .ref hc, .ref hd, .int (nI M), .int (nI N)])), (ha, .inl (cI, 12, .inl px)), (hb, .inl (cI, 12, .inl py)), (hc, .inl (cI, 12, .inl (fun i => nI (pl i)))), (hd, .inl (cI, 12, .inl pk)), (o, .inr (4, [.ref oa, .ref ob, .ref oc, .ref od])), (oa, .inl (cI, 3, .inl (fun i => nI (ls i)))), (ob, .inl (cJ, 3, .inr (.inl (fun i => zL (fsum ls lv i))))), (oc, .inl (cJ, 3, .inr (.inl (fun i => zL (fsum2 ls lv lx i))))), (od, .inl (cJ, 3, .inr (.inl (fun i => zL (fsum2 ls lv ly i))))), (ca, .inr (0, [.ref h, .long (zL (dWW pk px py M N)), .long (zL (dWP pk px py M N)), .long (zL (dWQ pk px py M N)), .long (zL (dPP pk px py M N)), .long (zL (dPQ pk px py M N)), .long (zL (dQQ pk px py M N)), .long (zL (dDE pk px py M N)), .long (zL (cWi pk px py M N ls lv lx ly (pN c1))), .long (zL (cPi pk px py M N ls lv lx ly (pN c1))), .long (zL (cQi pk px py M N ls lv lx ly (pN c1)))])), (m0, .inr (3, [.ref ma, .ref mb, .ref mc])), (ma, .inl (cI, 12, .inl (fil (fun i => zI (gPU th sd n sc (pl i))) pu N))), (mb, .inl (cI, 12, .inl (fil (fun i => zI (gBE th sd tp n sc (pl i))) be N))), (mc, .inl (cI, 12, .inl nr)), (v0, .inr (1, [.int dp0, .int b0, .int lf0, .int mo0, .int us0])), (t, .inr (6, [.ref ta, .ref tb, .int (nI tn)])), (ta, .inl (cJ, 15, .inr (.inl ab))), (tb, .inl (cJ, 15, .inr (.inl bl)))]) ((wset_wgo (nodup_of rfl) rfl).trans rfl) ?_
            refine v_st (st' := [.long (zL (shI pk px py (cWi pk px py M N ls lv lx ly (pN c1)) (cPi pk px py M N ls lv lx ly (pN c1)) (cQi pk px py M N ls lv lx ly (pN c1)) k))]) rfl ?_
            refine v_lconst F dX7_end_66 (v := 0) (q := 67) rfl rfl ?_
            refine v_lcmp_eq F dX7_end_67 dX7_end_68 (tgt := 90) rfl (q := 71) rfl (fun c67 => ?_) (fun c67 => ?_)
            · skip
              rw [show (0 : Int64) = zL 0 from rfl, zL_eq (by rw [← hsB]; omega) (by rw [← hsB]; omega) (by omega) (by omega)] at c67
              have hs0 : (shB pk px py M N ls lv lx ly (pN c1)) k = 0 := c67
              refine v_iinc F dX7_end_90 2 rfl (v := nI (k + 1)) (lv' := [(4, .int (nI (k + 1))), (0, .ref z), (3, .int (enI (enF M (shB pk px py M N ls lv lx ly (pN c1)) (liI th sd tp n sc pl) k)))]) (nI_1 k) (Nat.le_of_ble_eq_true rfl) rfl (q := 93) rfl ?_
              refine v_goto F dX7_end_93 (tgt := 33) rfl ?_
              refine v_lv (lv' := [(0, .ref z), (3, .int (enI (enF M (shB pk px py M N ls lv lx ly (pN c1)) (liI th sd tp n sc pl) k))), (4, .int (nI (k + 1)))]) [1, 2, 0] rfl ?_
              have hV := ih d (by omega) (k + 1) (by omega)
              first | rw [enF_f1 c54] at hV | rw [enF_f2 hs0] at hV
              exact hV
            · skip
              rw [show (0 : Int64) = zL 0 from rfl, zL_eq (by rw [← hsB]; omega) (by rw [← hsB]; omega) (by omega) (by omega)] at c67
              have hs0 : (shB pk px py M N ls lv lx ly (pN c1)) k ≠ 0 := c67
              rcases ho : (enF M (shB pk px py M N ls lv lx ly (pN c1)) (liI th sd tp n sc pl) k) with _ | j
              · skip
                refine v_iload_n F dX7_end_71 (i := 3) rfl 1 rfl (q := 72) rfl ?_
                refine v_bipush F dX7_end_72 (v := (-4)) (q := 74) rfl rfl ?_
                refine v_icmp_eq F dX7_end_74 (tgt := 87) rfl (q := 77) rfl (fun c74 => ?_) (fun c74 => ?_)
                · skip
                  have hT : enT (shB pk px py M N ls lv lx ly (pN c1)) (liI th sd tp n sc pl) k (enF M (shB pk px py M N ls lv lx ly (pN c1)) (liI th sd tp n sc pl) k) = true := by rw [ho]; rfl
                  refine v_iload F dX7_end_87 2 rfl (q := 89) rfl ?_
                  refine v_istore_n F dX7_end_89 (i := 3) (lv' := [(3, .int (nI k)), (0, .ref z), (4, .int (nI k))]) rfl (Nat.le_of_ble_eq_true rfl) rfl (q := 90) rfl ?_
                  refine v_iinc F dX7_end_90 2 rfl (v := nI (k + 1)) (lv' := [(4, .int (nI (k + 1))), (3, .int (nI k)), (0, .ref z)]) (nI_1 k) (Nat.le_of_ble_eq_true rfl) rfl (q := 93) rfl ?_
                  refine v_goto F dX7_end_93 (tgt := 33) rfl ?_
                  refine v_lv (lv' := [(0, .ref z), (3, .int (nI k)), (4, .int (nI (k + 1)))]) [2, 1, 0] rfl ?_
                  have hV := ih d (by omega) (k + 1) (by omega)
                  rw [enF_t c54 hs0 hT] at hV
                  exact hV
                · exact absurd rfl c74
              · skip
                have hj := enF_lt ho
                have hjn : j < N := by omega
                have hj0 := hj.2.2
                refine v_iload_n F dX7_end_71 (i := 3) rfl 1 rfl (q := 72) rfl ?_
                refine v_bipush F dX7_end_72 (v := (-4)) (q := 74) rfl rfl ?_
                refine v_icmp_eq F dX7_end_74 (tgt := 87) rfl (q := 77) rfl (fun c74 => ?_) (fun c74 => ?_)
                · exact absurd c74 (nI_nm4 (by omega))
                · skip
                  refine v_aload_n F dX7_end_77 (i := 0) rfl 0 rfl (q := 78) rfl ?_
                  refine v_iload F dX7_end_78 2 rfl (q := 80) rfl ?_
                  refine v_iload_n F dX7_end_80 (i := 3) rfl 1 rfl (q := 81) rfl ?_
                  refine v_callV F ml_X7_179 im_X7_endsBefore se_X7_endsBefore in_X7 co_X7_endsBefore sd_X7_endsBefore (c_X7_endsBefore z g ga gb gc h ha hb hc hd o oa ob oc od ca m0 ma mb mc v0 t ta tb th sd tp n sc sp px py pl pk N M ls lv lx ly ab bl tn (dWW pk px py M N) (dWP pk px py M N) (dWQ pk px py M N) (dPP pk px py M N) (dPQ pk px py M N) (dQQ pk px py M N) (dDE pk px py M N) (cWi pk px py M N ls lv lx ly (pN c1)) (cPi pk px py M N ls lv lx ly (pN c1)) (cQi pk px py M N ls lv lx ly (pN c1)) (fil (fun i => zI (gPU th sd n sc (pl i))) pu N) (fil (fun i => zI (gBE th sd tp n sc (pl i))) be N) nr dp0 b0 lf0 mo0 us0 k j VI hkn hjn hs0 hj0 fil_P fil_B hsr hde) ⟨Nat.zero_le _, Nat.zero_le _⟩ (Nat.le_of_ble_eq_true rfl) (Nat.le_of_ble_eq_true rfl) 0 (As := [.int (nI k), .int (nI j)]) rfl rfl rfl rfl rfl [0, 1, 2, 3, 4, 5, 6, 7, 8, 9, 10, 11, 12, 13, 14, 15, 16, 17, 18, 19, 20, 21, 22, 23] rfl nd24 vnd24 (rest := []) rfl (Nat.le_of_ble_eq_true rfl) dX7_end_81 (q := 84) rfl (fun r w hr => ?_)
                  obtain ⟨rfl, rfl⟩ := hr
                  refine v_ws (ws' := [(z, .inr (7, [.ref g, .ref h, .ref o, .ref ca, .ref m0, .ref v0, .ref t, .int sp])), (g, .inr (2, [.ref ga, .ref gb, .ref gc, .int (nI n), .int sc])), (ga, .inl (cI, 6, .inl th)), (gb, .inl (cI, 6, .inl sd)), (gc, .inl (cI, 6, .inl tp)), (h, .inr (5, [.ref ha, .ref hb, .ref hc, .ref hd, .int (nI M), .int (nI N)])), (ha, .inl (cI, 12, .inl px)), (hb, .inl (cI, 12, .inl py)), (hc, .inl (cI, 12, .inl (fun i => nI (pl i)))), (hd, .inl (cI, 12, .inl pk)), (o, .inr (4, [.ref oa, .ref ob, .ref oc, .ref od])), (oa, .inl (cI, 3, .inl (fun i => nI (ls i)))), (ob, .inl (cJ, 3, .inr (.inl (fun i => zL (fsum ls lv i))))), (oc, .inl (cJ, 3, .inr (.inl (fun i => zL (fsum2 ls lv lx i))))), (od, .inl (cJ, 3, .inr (.inl (fun i => zL (fsum2 ls lv ly i))))), (ca, .inr (0, [.ref h, .long (zL (dWW pk px py M N)), .long (zL (dWP pk px py M N)), .long (zL (dWQ pk px py M N)), .long (zL (dPP pk px py M N)), .long (zL (dPQ pk px py M N)), .long (zL (dQQ pk px py M N)), .long (zL (dDE pk px py M N)), .long (zL (cWi pk px py M N ls lv lx ly (pN c1))), .long (zL (cPi pk px py M N ls lv lx ly (pN c1))), .long (zL (cQi pk px py M N ls lv lx ly (pN c1)))])), (m0, .inr (3, [.ref ma, .ref mb, .ref mc])), (ma, .inl (cI, 12, .inl (fil (fun i => zI (gPU th sd n sc (pl i))) pu N))), (mb, .inl (cI, 12, .inl (fil (fun i => zI (gBE th sd tp n sc (pl i))) be N))), (mc, .inl (cI, 12, .inl nr)), (v0, .inr (1, [.int dp0, .int b0, .int lf0, .int mo0, .int us0])), (t, .inr (6, [.ref ta, .ref tb, .int (nI tn)])), (ta, .inl (cJ, 15, .inr (.inl ab))), (tb, .inl (cJ, 15, .inr (.inl bl)))]) ((wset_wgo (nodup_of nd24) rfl).trans rfl) ?_
                  refine v_st (st' := [.int (bI (enT (shI pk px py (cWi pk px py M N ls lv lx ly (pN c1)) (cPi pk px py M N ls lv lx ly (pN c1)) (cQi pk px py M N ls lv lx ly (pN c1))) (liI th sd tp n sc pl) k (some j)))]) rfl ?_
                  refine v_if_eq F dX7_end_84 (tgt := 90) rfl (q := 87) rfl (fun c84 => ?_) (fun c84 => ?_)
                  · skip
                    rw [bI_z] at c84
                    have hT : enT (shB pk px py M N ls lv lx ly (pN c1)) (liI th sd tp n sc pl) k (enF M (shB pk px py M N ls lv lx ly (pN c1)) (liI th sd tp n sc pl) k) = false := by rw [ho]; exact c84
                    refine v_iinc F dX7_end_90 2 rfl (v := nI (k + 1)) (lv' := [(4, .int (nI (k + 1))), (0, .ref z), (3, .int (nI j))]) (nI_1 k) (Nat.le_of_ble_eq_true rfl) rfl (q := 93) rfl ?_
                    refine v_goto F dX7_end_93 (tgt := 33) rfl ?_
                    refine v_lv (lv' := [(0, .ref z), (3, .int (nI j)), (4, .int (nI (k + 1)))]) [1, 2, 0] rfl ?_
                    have hV := ih d (by omega) (k + 1) (by omega)
                    rw [enF_f3 hT, ho] at hV
                    exact hV
                  · skip
                    rw [bI_nz] at c84
                    have hT : enT (shB pk px py M N ls lv lx ly (pN c1)) (liI th sd tp n sc pl) k (enF M (shB pk px py M N ls lv lx ly (pN c1)) (liI th sd tp n sc pl) k) = true := by rw [ho]; exact c84
                    refine v_iload F dX7_end_87 2 rfl (q := 89) rfl ?_
                    refine v_istore_n F dX7_end_89 (i := 3) (lv' := [(3, .int (nI k)), (0, .ref z), (4, .int (nI k))]) rfl (Nat.le_of_ble_eq_true rfl) rfl (q := 90) rfl ?_
                    refine v_iinc F dX7_end_90 2 rfl (v := nI (k + 1)) (lv' := [(4, .int (nI (k + 1))), (3, .int (nI k)), (0, .ref z)]) (nI_1 k) (Nat.le_of_ble_eq_true rfl) rfl (q := 93) rfl ?_
                    refine v_goto F dX7_end_93 (tgt := 33) rfl ?_
                    refine v_lv (lv' := [(0, .ref z), (3, .int (nI k)), (4, .int (nI (k + 1)))]) [2, 1, 0] rfl ?_
                    have hV := ih d (by omega) (k + 1) (by omega)
                    rw [enF_t c54 hs0 hT] at hV
                    exact hV
      refine v_lv (lv' := [(0, .ref z), (3, .int (-4)), (4, .int 0)]) [3, 1, 0] rfl ?_
      exact L33 N 0 (by omega)
    · exact absurd rfl c7

end TP
