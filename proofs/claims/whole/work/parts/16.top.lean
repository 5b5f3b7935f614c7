section TO
variable {l : Launch} {D : va_G} {cI cJ cZ : ClassId}
set_option maxHeartbeats 4000000 in
set_option maxRecDepth 100000 in
theorem c_X7_layer (z g ga gb gc h ha hb hc hd o oa ob oc od ca m0 ma mb mc v0 t ta tb : Nat) (th : Nat → Int32) (sd : Nat → Int32) (tp : Nat → Int32) (n : Nat) (sc : Int32) (sp : Int32) (px : Nat → Int32) (py : Nat → Int32) (pl : Nat → Nat) (pk : Nat → Int32) (N : Nat) (M : Nat) (ls : Nat → Nat) (lv : Nat → Int32) (lx : Nat → Int32) (ly : Nat → Int32) (ab : Nat → Int64) (bl : Nat → Int64) (tn : Nat) (w1 : Int) (w2 : Int) (w3 : Int) (w4 : Int) (w5 : Int) (w6 : Int) (de : Int) (cw : Int) (cp : Int) (cq : Int) (pu : Nat → Int32) (be : Nat → Int32) (nr : Nat → Int32) (dp0 : Int32) (b0 : Int32) (lf0 : Int32) (mo0 : Int32) (us0 : Int32) (t0 s0 p0 : Int32) (VI : INV (th, sd, tp, n, sc, sp, px, py, pl, pk, N, M, ls, lv, lx, ly, ab, bl, tn)) : Ct l D (TY cI cJ cZ) yX7_layer cX7_layer 4 (some .int) 2 42 0 0 [.ref z, .int t0, .int s0, .int p0] [(z, .inr (7, [.ref g, .ref h, .ref o, .ref ca, .ref m0, .ref v0, .ref t, .int sp])), (g, .inr (2, [.ref ga, .ref gb, .ref gc, .int (nI n), .int sc])), (ga, .inl (cI, 6, .inl th)), (gb, .inl (cI, 6, .inl sd)), (gc, .inl (cI, 6, .inl tp)), (h, .inr (5, [.ref ha, .ref hb, .ref hc, .ref hd, .int (nI M), .int (nI N)])), (ha, .inl (cI, 12, .inl px)), (hb, .inl (cI, 12, .inl py)), (hc, .inl (cI, 12, .inl (fun i => nI (pl i)))), (hd, .inl (cI, 12, .inl pk)), (o, .inr (4, [.ref oa, .ref ob, .ref oc, .ref od])), (oa, .inl (cI, 3, .inl (fun i => nI (ls i)))), (ob, .inl (cJ, 3, .inr (.inl (fun i => zL (fsum ls lv i))))), (oc, .inl (cJ, 3, .inr (.inl (fun i => zL (fsum2 ls lv lx i))))), (od, .inl (cJ, 3, .inr (.inl (fun i => zL (fsum2 ls lv ly i))))), (ca, .inr (0, [.ref h, .long (zL w1), .long (zL w2), .long (zL w3), .long (zL w4), .long (zL w5), .long (zL w6), .long (zL de), .long (zL cw), .long (zL cp), .long (zL cq)])), (m0, .inr (3, [.ref ma, .ref mb, .ref mc])), (ma, .inl (cI, 12, .inl pu)), (mb, .inl (cI, 12, .inl be)), (mc, .inl (cI, 12, .inl nr)), (v0, .inr (1, [.int dp0, .int b0, .int lf0, .int mo0, .int us0])), (t, .inr (6, [.ref ta, .ref tb, .int (nI tn)])), (ta, .inl (cJ, 15, .inr (.inl ab))), (tb, .inl (cJ, 15, .inr (.inl bl)))] (fun r w => ∃ X : SXy, r = some (.int (fLayer t0 s0 p0 (th, sd, tp, n, sc, sp, px, py, pl, pk, N, M, ls, lv, lx, ly, ab, bl, tn)).1) ∧ w = WC cI cJ z g ga gb gc h ha hb hc hd o oa ob oc od ca m0 ma mb mc v0 t ta tb (fLayer t0 s0 p0 (th, sd, tp, n, sc, sp, px, py, pl, pk, N, M, ls, lv, lx, ly, ab, bl, tn)).2 X) := by
  refine Ct.ofI (ty := .int) (by decide) (Nat.le_of_ble_eq_true rfl) ?_
  intro p e s m args below meth c A R Q F hnm hcs0 hE
  refine v_lv (lv' := [(0, .ref z), (1, .int t0), (2, .int s0), (3, .int p0)]) [0, 1, 2, 3] rfl ?_
  obtain ⟨G, hsp, P, hM, hls, hlv, hlx, hly, htn⟩ := id VI
  have hn6 := G.1
  have hN12 := P.1
  have hM4 : M < 4096 := Nat.lt_of_lt_of_le hM (Nat.pow_le_pow_right (by omega) hN12)
  refine v_iload_n F dX7_layer_0 (i := 1) rfl 1 rfl (q := 1) rfl ?_
  refine v_iconst F dX7_layer_1 (v := 1) (q := 2) rfl rfl ?_
  refine v_bipush F dX7_layer_2 (v := 50) (q := 4) rfl rfl ?_
  refine v_callS F ml_X7_64 sm_X7_within in_X7 co_X7_within sd_X7_within (c_X7_within t0 1 50) ⟨Nat.zero_le _, Nat.zero_le _⟩ (Nat.le_of_ble_eq_true rfl) (Nat.le_of_ble_eq_true rfl) rfl [] rfl rfl rfl (rest := []) rfl (Nat.le_of_ble_eq_true rfl) dX7_layer_4 (q := 7) rfl (fun r w hr => ?_)
  obtain ⟨rfl, rfl⟩ := hr
  refine v_ws (ws' := [(z, .inr (7, [.ref g, .ref h, .ref o, .ref ca, .ref m0, .ref v0, .ref t, .int sp])), (g, .inr (2, [.ref ga, .ref gb, .ref gc, .int (nI n), .int sc])), (ga, .inl (cI, 6, .inl th)), (gb, .inl (cI, 6, .inl sd)), (gc, .inl (cI, 6, .inl tp)), (h, .inr (5, [.ref ha, .ref hb, .ref hc, .ref hd, .int (nI M), .int (nI N)])), (ha, .inl (cI, 12, .inl px)), (hb, .inl (cI, 12, .inl py)), (hc, .inl (cI, 12, .inl (fun i => nI (pl i)))), (hd, .inl (cI, 12, .inl pk)), (o, .inr (4, [.ref oa, .ref ob, .ref oc, .ref od])), (oa, .inl (cI, 3, .inl (fun i => nI (ls i)))), (ob, .inl (cJ, 3, .inr (.inl (fun i => zL (fsum ls lv i))))), (oc, .inl (cJ, 3, .inr (.inl (fun i => zL (fsum2 ls lv lx i))))), (od, .inl (cJ, 3, .inr (.inl (fun i => zL (fsum2 ls lv ly i))))), (ca, .inr (0, [.ref h, .long (zL w1), .long (zL w2), .long (zL w3), .long (zL w4), .long (zL w5), .long (zL w6), .long (zL de), .long (zL cw), .long (zL cp), .long (zL cq)])), (m0, .inr (3, [.ref ma, .ref mb, .ref mc])), (ma, .inl (cI, 12, .inl pu)), (mb, .inl (cI, 12, .inl be)), (mc, .inl (cI, 12, .inl nr)), (v0, .inr (1, [.int dp0, .int b0, .int lf0, .int mo0, .int us0])), (t, .inr (6, [.ref ta, .ref tb, .int (nI tn)])), (ta, .inl (cJ, 15, .inr (.inl ab))), (tb, .inl (cJ, 15, .inr (.inl bl)))]) rfl ?_
  refine v_st (st' := [.int (bI (inR t0 1 50))]) rfl ?_
  refine v_if_eq F dX7_layer_7 (tgt := 24) rfl (q := 10) rfl (fun c7 => ?_) (fun c7 => ?_)
  · skip
    rw [bI_z] at c7
    refine v_iconst F dX7_layer_24 (v := (-1)) (q := 25) rfl rfl ?_
    exact hE rfl dX7_layer_25 (Nat.zero_le _) (Nat.zero_le _) ⟨(by have hf : fLayer t0 s0 p0 (th, sd, tp, n, sc, sp, px, py, pl, pk, N, M, ls, lv, lx, ly, ab, bl, tn) = (-1, (th, sd, tp, n, sc, sp, px, py, pl, pk, N, M, ls, lv, lx, ly, ab, bl, tn)) := (by simp [fLayer, c7]); exact ⟨(w1, w2, w3, w4, w5, w6, de, cw, cp, cq, pu, be, nr, dp0, b0, lf0, mo0, us0), by rw [hf], by rw [hf]; rfl⟩), Nat.le_of_ble_eq_true rfl⟩
  · skip
    rw [bI_nz] at c7
    refine v_iload_n F dX7_layer_10 (i := 2) rfl 2 rfl (q := 11) rfl ?_
    refine v_callS F ml_X7_68 sm_X7_isSide in_X7 co_X7_isSide sd_X7_isSide (c_X7_isSide s0) ⟨Nat.zero_le _, Nat.zero_le _⟩ (Nat.le_of_ble_eq_true rfl) (Nat.le_of_ble_eq_true rfl) rfl [] rfl rfl rfl (rest := []) rfl (Nat.le_of_ble_eq_true rfl) dX7_layer_11 (q := 14) rfl (fun r w hr => ?_)
    obtain ⟨rfl, rfl⟩ := hr
    refine v_ws (ws' := [(z, .inr (7, [.ref g, .ref h, .ref o, .ref ca, .ref m0, .ref v0, .ref t, .int sp])), (g, .inr (2, [.ref ga, .ref gb, .ref gc, .int (nI n), .int sc])), (ga, .inl (cI, 6, .inl th)), (gb, .inl (cI, 6, .inl sd)), (gc, .inl (cI, 6, .inl tp)), (h, .inr (5, [.ref ha, .ref hb, .ref hc, .ref hd, .int (nI M), .int (nI N)])), (ha, .inl (cI, 12, .inl px)), (hb, .inl (cI, 12, .inl py)), (hc, .inl (cI, 12, .inl (fun i => nI (pl i)))), (hd, .inl (cI, 12, .inl pk)), (o, .inr (4, [.ref oa, .ref ob, .ref oc, .ref od])), (oa, .inl (cI, 3, .inl (fun i => nI (ls i)))), (ob, .inl (cJ, 3, .inr (.inl (fun i => zL (fsum ls lv i))))), (oc, .inl (cJ, 3, .inr (.inl (fun i => zL (fsum2 ls lv lx i))))), (od, .inl (cJ, 3, .inr (.inl (fun i => zL (fsum2 ls lv ly i))))), (ca, .inr (0, [.ref h, .long (zL w1), .long (zL w2), .long (zL w3), .long (zL w4), .long (zL w5), .long (zL w6), .long (zL de), .long (zL cw), .long (zL cp), .long (zL cq)])), (m0, .inr (3, [.ref ma, .ref mb, .ref mc])), (ma, .inl (cI, 12, .inl pu)), (mb, .inl (cI, 12, .inl be)), (mc, .inl (cI, 12, .inl nr)), (v0, .inr (1, [.int dp0, .int b0, .int lf0, .int mo0, .int us0])), (t, .inr (6, [.ref ta, .ref tb, .int (nI tn)])), (ta, .inl (cJ, 15, .inr (.inl ab))), (tb, .inl (cJ, 15, .inr (.inl bl)))]) rfl ?_
    refine v_st (st' := [.int (bI (inR s0 0 50))]) rfl ?_
    refine v_if_eq F dX7_layer_14 (tgt := 24) rfl (q := 17) rfl (fun c14 => ?_) (fun c14 => ?_)
    · skip
      rw [bI_z] at c14
      refine v_iconst F dX7_layer_24 (v := (-1)) (q := 25) rfl rfl ?_
      exact hE rfl dX7_layer_25 (Nat.zero_le _) (Nat.zero_le _) ⟨(by have hf : fLayer t0 s0 p0 (th, sd, tp, n, sc, sp, px, py, pl, pk, N, M, ls, lv, lx, ly, ab, bl, tn) = (-1, (th, sd, tp, n, sc, sp, px, py, pl, pk, N, M, ls, lv, lx, ly, ab, bl, tn)) := (by simp [fLayer, c7, c14]); exact ⟨(w1, w2, w3, w4, w5, w6, de, cw, cp, cq, pu, be, nr, dp0, b0, lf0, mo0, us0), by rw [hf], by rw [hf]; rfl⟩), Nat.le_of_ble_eq_true rfl⟩
    · skip
      rw [bI_nz] at c14
      refine v_iload_n F dX7_layer_17 (i := 3) rfl 3 rfl (q := 18) rfl ?_
      refine v_callS F ml_X7_72 sm_X7_isTip in_X7 co_X7_isTip sd_X7_isTip (c_X7_isTip p0) ⟨Nat.zero_le _, Nat.zero_le _⟩ (Nat.le_of_ble_eq_true rfl) (Nat.le_of_ble_eq_true rfl) rfl [] rfl rfl rfl (rest := []) rfl (Nat.le_of_ble_eq_true rfl) dX7_layer_18 (q := 21) rfl (fun r w hr => ?_)
      obtain ⟨rfl, rfl⟩ := hr
      refine v_ws (ws' := [(z, .inr (7, [.ref g, .ref h, .ref o, .ref ca, .ref m0, .ref v0, .ref t, .int sp])), (g, .inr (2, [.ref ga, .ref gb, .ref gc, .int (nI n), .int sc])), (ga, .inl (cI, 6, .inl th)), (gb, .inl (cI, 6, .inl sd)), (gc, .inl (cI, 6, .inl tp)), (h, .inr (5, [.ref ha, .ref hb, .ref hc, .ref hd, .int (nI M), .int (nI N)])), (ha, .inl (cI, 12, .inl px)), (hb, .inl (cI, 12, .inl py)), (hc, .inl (cI, 12, .inl (fun i => nI (pl i)))), (hd, .inl (cI, 12, .inl pk)), (o, .inr (4, [.ref oa, .ref ob, .ref oc, .ref od])), (oa, .inl (cI, 3, .inl (fun i => nI (ls i)))), (ob, .inl (cJ, 3, .inr (.inl (fun i => zL (fsum ls lv i))))), (oc, .inl (cJ, 3, .inr (.inl (fun i => zL (fsum2 ls lv lx i))))), (od, .inl (cJ, 3, .inr (.inl (fun i => zL (fsum2 ls lv ly i))))), (ca, .inr (0, [.ref h, .long (zL w1), .long (zL w2), .long (zL w3), .long (zL w4), .long (zL w5), .long (zL w6), .long (zL de), .long (zL cw), .long (zL cp), .long (zL cq)])), (m0, .inr (3, [.ref ma, .ref mb, .ref mc])), (ma, .inl (cI, 12, .inl pu)), (mb, .inl (cI, 12, .inl be)), (mc, .inl (cI, 12, .inl nr)), (v0, .inr (1, [.int dp0, .int b0, .int lf0, .int mo0, .int us0])), (t, .inr (6, [.ref ta, .ref tb, .int (nI tn)])), (ta, .inl (cJ, 15, .inr (.inl ab))), (tb, .inl (cJ, 15, .inr (.inl bl)))]) rfl ?_
      refine v_st (st' := [.int (bI (inR p0 0 1000))]) rfl ?_
      refine v_if_ne F dX7_layer_21 (tgt := 26) rfl (q := 24) rfl (fun c21 => ?_) (fun c21 => ?_)
      · skip
        rw [bI_nz] at c21
        refine v_aload_n F dX7_layer_26 (i := 0) rfl 0 rfl (q := 27) rfl ?_
        refine gt_X7_12 F dX7_layer_27 0 rfl rfl (q := 30) rfl ?_
        refine gt_X7_75 F dX7_layer_30 1 rfl rfl (q := 33) rfl ?_
        refine v_bipush F dX7_layer_33 (v := 6) (q := 35) rfl rfl ?_
        refine v_icmp_lt F dX7_layer_35 (tgt := 41) rfl (q := 38) rfl (fun c35 => ?_) (fun c35 => ?_)
        · skip
          rw [show (6 : Int32) = nI 6 from rfl, nI_ltI (by omega) (by omega)] at c35
          have c35 : ¬ n = 6 := by omega
          refine v_aload_n F dX7_layer_41 (i := 0) rfl 0 rfl (q := 42) rfl ?_
          refine gt_X7_12 F dX7_layer_42 0 rfl rfl (q := 45) rfl ?_
          refine v_iload_n F dX7_layer_45 (i := 1) rfl 1 rfl (q := 46) rfl ?_
          refine v_iload_n F dX7_layer_46 (i := 2) rfl 2 rfl (q := 47) rfl ?_
          refine v_iload_n F dX7_layer_47 (i := 3) rfl 3 rfl (q := 48) rfl ?_
          refine v_callVN F ml_X7_78 im_X2_add se_X2_add in_X2 co_X2_add sd_X2_add (c_X2_add g ga gb gc th sd tp n sc t0 s0 p0 (by omega)) ⟨Nat.zero_le _, Nat.zero_le _⟩ (Nat.le_of_ble_eq_true rfl) (Nat.le_of_ble_eq_true rfl) 1 (As := [.int t0, .int s0, .int p0]) rfl rfl rfl rfl rfl [1, 2, 3, 4] rfl rfl rfl (rest := []) rfl (Nat.le_of_ble_eq_true rfl) dX7_layer_48 (q := 51) rfl (fun r w hr => ?_)
          obtain ⟨rfl, rfl⟩ := hr
          refine v_ws (ws' := [(z, .inr (7, [.ref g, .ref h, .ref o, .ref ca, .ref m0, .ref v0, .ref t, .int sp])), (g, .inr (2, [.ref ga, .ref gb, .ref gc, .int (nI (n + 1)), .int sc])), (ga, .inl (cI, 6, .inl (upd th n t0))), (gb, .inl (cI, 6, .inl (upd sd n s0))), (gc, .inl (cI, 6, .inl (upd tp n p0))), (h, .inr (5, [.ref ha, .ref hb, .ref hc, .ref hd, .int (nI M), .int (nI N)])), (ha, .inl (cI, 12, .inl px)), (hb, .inl (cI, 12, .inl py)), (hc, .inl (cI, 12, .inl (fun i => nI (pl i)))), (hd, .inl (cI, 12, .inl pk)), (o, .inr (4, [.ref oa, .ref ob, .ref oc, .ref od])), (oa, .inl (cI, 3, .inl (fun i => nI (ls i)))), (ob, .inl (cJ, 3, .inr (.inl (fun i => zL (fsum ls lv i))))), (oc, .inl (cJ, 3, .inr (.inl (fun i => zL (fsum2 ls lv lx i))))), (od, .inl (cJ, 3, .inr (.inl (fun i => zL (fsum2 ls lv ly i))))), (ca, .inr (0, [.ref h, .long (zL w1), .long (zL w2), .long (zL w3), .long (zL w4), .long (zL w5), .long (zL w6), .long (zL de), .long (zL cw), .long (zL cp), .long (zL cq)])), (m0, .inr (3, [.ref ma, .ref mb, .ref mc])), (ma, .inl (cI, 12, .inl pu)), (mb, .inl (cI, 12, .inl be)), (mc, .inl (cI, 12, .inl nr)), (v0, .inr (1, [.int dp0, .int b0, .int lf0, .int mo0, .int us0])), (t, .inr (6, [.ref ta, .ref tb, .int (nI tn)])), (ta, .inl (cJ, 15, .inr (.inl ab))), (tb, .inl (cJ, 15, .inr (.inl bl)))]) ((wset_wgo (nodup_of rfl) rfl).trans rfl) ?_
          refine v_st (st' := [.int (nI n)]) rfl ?_
          exact hE rfl dX7_layer_51 (Nat.zero_le _) (Nat.zero_le _) ⟨(by have hf : fLayer t0 s0 p0 (th, sd, tp, n, sc, sp, px, py, pl, pk, N, M, ls, lv, lx, ly, ab, bl, tn) = (nI n, (upd th n t0, upd sd n s0, upd tp n p0, n + 1, sc, sp, px, py, pl, pk, N, M, ls, lv, lx, ly, ab, bl, tn)) := (by simp [fLayer, c7, c14, c21, c35]); exact ⟨(w1, w2, w3, w4, w5, w6, de, cw, cp, cq, pu, be, nr, dp0, b0, lf0, mo0, us0), by rw [hf], by rw [hf]; rfl⟩), Nat.le_of_ble_eq_true rfl⟩
        · skip
          rw [show (6 : Int32) = nI 6 from rfl, nI_ltI (by omega) (by omega)] at c35
          have c35 : n = 6 := by omega
          refine v_bipush F dX7_layer_38 (v := (-3)) (q := 40) rfl rfl ?_
          exact hE rfl dX7_layer_40 (Nat.zero_le _) (Nat.zero_le _) ⟨(by have hf : fLayer t0 s0 p0 (th, sd, tp, n, sc, sp, px, py, pl, pk, N, M, ls, lv, lx, ly, ab, bl, tn) = (-3, (th, sd, tp, n, sc, sp, px, py, pl, pk, N, M, ls, lv, lx, ly, ab, bl, tn)) := (by simp [fLayer, c7, c14, c21, c35]); exact ⟨(w1, w2, w3, w4, w5, w6, de, cw, cp, cq, pu, be, nr, dp0, b0, lf0, mo0, us0), by rw [hf], by rw [hf]; rfl⟩), Nat.le_of_ble_eq_true rfl⟩
      · skip
        rw [bI_z] at c21
        refine v_iconst F dX7_layer_24 (v := (-1)) (q := 25) rfl rfl ?_
        exact hE rfl dX7_layer_25 (Nat.zero_le _) (Nat.zero_le _) ⟨(by have hf : fLayer t0 s0 p0 (th, sd, tp, n, sc, sp, px, py, pl, pk, N, M, ls, lv, lx, ly, ab, bl, tn) = (-1, (th, sd, tp, n, sc, sp, px, py, pl, pk, N, M, ls, lv, lx, ly, ab, bl, tn)) := (by simp [fLayer, c7, c14, c21]); exact ⟨(w1, w2, w3, w4, w5, w6, de, cw, cp, cq, pu, be, nr, dp0, b0, lf0, mo0, us0), by rw [hf], by rw [hf]; rfl⟩), Nat.le_of_ble_eq_true rfl⟩

set_option maxHeartbeats 4000000 in
set_option maxRecDepth 100000 in
theorem c_X7_change (z g ga gb gc h ha hb hc hd o oa ob oc od ca m0 ma mb mc v0 t ta tb : Nat) (th : Nat → Int32) (sd : Nat → Int32) (tp : Nat → Int32) (n : Nat) (sc : Int32) (sp : Int32) (px : Nat → Int32) (py : Nat → Int32) (pl : Nat → Nat) (pk : Nat → Int32) (N : Nat) (M : Nat) (ls : Nat → Nat) (lv : Nat → Int32) (lx : Nat → Int32) (ly : Nat → Int32) (ab : Nat → Int64) (bl : Nat → Int64) (tn : Nat) (w1 : Int) (w2 : Int) (w3 : Int) (w4 : Int) (w5 : Int) (w6 : Int) (de : Int) (cw : Int) (cp : Int) (cq : Int) (pu : Nat → Int32) (be : Nat → Int32) (nr : Nat → Int32) (dp0 : Int32) (b0 : Int32) (lf0 : Int32) (mo0 : Int32) (us0 : Int32) (p0 what v : Int32) (VI : INV (th, sd, tp, n, sc, sp, px, py, pl, pk, N, M, ls, lv, lx, ly, ab, bl, tn)) : Ct l D (TY cI cJ cZ) yX7_change cX7_change 4 (some .int) 2 42 0 0 [.ref z, .int p0, .int what, .int v] [(z, .inr (7, [.ref g, .ref h, .ref o, .ref ca, .ref m0, .ref v0, .ref t, .int sp])), (g, .inr (2, [.ref ga, .ref gb, .ref gc, .int (nI n), .int sc])), (ga, .inl (cI, 6, .inl th)), (gb, .inl (cI, 6, .inl sd)), (gc, .inl (cI, 6, .inl tp)), (h, .inr (5, [.ref ha, .ref hb, .ref hc, .ref hd, .int (nI M), .int (nI N)])), (ha, .inl (cI, 12, .inl px)), (hb, .inl (cI, 12, .inl py)), (hc, .inl (cI, 12, .inl (fun i => nI (pl i)))), (hd, .inl (cI, 12, .inl pk)), (o, .inr (4, [.ref oa, .ref ob, .ref oc, .ref od])), (oa, .inl (cI, 3, .inl (fun i => nI (ls i)))), (ob, .inl (cJ, 3, .inr (.inl (fun i => zL (fsum ls lv i))))), (oc, .inl (cJ, 3, .inr (.inl (fun i => zL (fsum2 ls lv lx i))))), (od, .inl (cJ, 3, .inr (.inl (fun i => zL (fsum2 ls lv ly i))))), (ca, .inr (0, [.ref h, .long (zL w1), .long (zL w2), .long (zL w3), .long (zL w4), .long (zL w5), .long (zL w6), .long (zL de), .long (zL cw), .long (zL cp), .long (zL cq)])), (m0, .inr (3, [.ref ma, .ref mb, .ref mc])), (ma, .inl (cI, 12, .inl pu)), (mb, .inl (cI, 12, .inl be)), (mc, .inl (cI, 12, .inl nr)), (v0, .inr (1, [.int dp0, .int b0, .int lf0, .int mo0, .int us0])), (t, .inr (6, [.ref ta, .ref tb, .int (nI tn)])), (ta, .inl (cJ, 15, .inr (.inl ab))), (tb, .inl (cJ, 15, .inr (.inl bl)))] (fun r w => ∃ X : SXy, r = some (.int (fChange p0 what v (th, sd, tp, n, sc, sp, px, py, pl, pk, N, M, ls, lv, lx, ly, ab, bl, tn)).1) ∧ w = WC cI cJ z g ga gb gc h ha hb hc hd o oa ob oc od ca m0 ma mb mc v0 t ta tb (fChange p0 what v (th, sd, tp, n, sc, sp, px, py, pl, pk, N, M, ls, lv, lx, ly, ab, bl, tn)).2 X) := by
  refine Ct.ofI (ty := .int) (by decide) (Nat.le_of_ble_eq_true rfl) ?_
  intro p e s m args below meth c A R Q F hnm hcs0 hE
  refine v_lv (lv' := [(0, .ref z), (1, .int p0), (2, .int what), (3, .int v)]) [0, 1, 2, 3] rfl ?_
  obtain ⟨G, hsp, P, hM, hls, hlv, hlx, hly, htn⟩ := id VI
  have hn6 := G.1
  have hN12 := P.1
  have hM4 : M < 4096 := Nat.lt_of_lt_of_le hM (Nat.pow_le_pow_right (by omega) hN12)
  refine v_aload_n F dX7_change_0 (i := 0) rfl 0 rfl (q := 1) rfl ?_
  refine gt_X7_12 F dX7_change_1 0 rfl rfl (q := 4) rfl ?_
  refine v_iload_n F dX7_change_4 (i := 1) rfl 1 rfl (q := 5) rfl ?_
  refine v_callVN F ml_X7_82 im_X2_has se_X2_has in_X2 co_X2_has sd_X2_has (c_X2_has g ga gb gc th sd tp n sc p0 (by omega)) ⟨Nat.zero_le _, Nat.zero_le _⟩ (Nat.le_of_ble_eq_true rfl) (Nat.le_of_ble_eq_true rfl) 1 (As := [.int p0]) rfl rfl rfl rfl rfl [1, 2, 3, 4] rfl rfl rfl (rest := []) rfl (Nat.le_of_ble_eq_true rfl) dX7_change_5 (q := 8) rfl (fun r w hr => ?_)
  obtain ⟨rfl, rfl⟩ := hr
  refine v_ws (ws' := [(z, .inr (7, [.ref g, .ref h, .ref o, .ref ca, .ref m0, .ref v0, .ref t, .int sp])), (g, .inr (2, [.ref ga, .ref gb, .ref gc, .int (nI n), .int sc])), (ga, .inl (cI, 6, .inl th)), (gb, .inl (cI, 6, .inl sd)), (gc, .inl (cI, 6, .inl tp)), (h, .inr (5, [.ref ha, .ref hb, .ref hc, .ref hd, .int (nI M), .int (nI N)])), (ha, .inl (cI, 12, .inl px)), (hb, .inl (cI, 12, .inl py)), (hc, .inl (cI, 12, .inl (fun i => nI (pl i)))), (hd, .inl (cI, 12, .inl pk)), (o, .inr (4, [.ref oa, .ref ob, .ref oc, .ref od])), (oa, .inl (cI, 3, .inl (fun i => nI (ls i)))), (ob, .inl (cJ, 3, .inr (.inl (fun i => zL (fsum ls lv i))))), (oc, .inl (cJ, 3, .inr (.inl (fun i => zL (fsum2 ls lv lx i))))), (od, .inl (cJ, 3, .inr (.inl (fun i => zL (fsum2 ls lv ly i))))), (ca, .inr (0, [.ref h, .long (zL w1), .long (zL w2), .long (zL w3), .long (zL w4), .long (zL w5), .long (zL w6), .long (zL de), .long (zL cw), .long (zL cp), .long (zL cq)])), (m0, .inr (3, [.ref ma, .ref mb, .ref mc])), (ma, .inl (cI, 12, .inl pu)), (mb, .inl (cI, 12, .inl be)), (mc, .inl (cI, 12, .inl nr)), (v0, .inr (1, [.int dp0, .int b0, .int lf0, .int mo0, .int us0])), (t, .inr (6, [.ref ta, .ref tb, .int (nI tn)])), (ta, .inl (cJ, 15, .inr (.inl ab))), (tb, .inl (cJ, 15, .inr (.inl bl)))]) ((wset_wgo (nodup_of rfl) rfl).trans rfl) ?_
  refine v_st (st' := [.int (bI (hasB p0 n))]) rfl ?_
  refine v_if_ne F dX7_change_8 (tgt := 13) rfl (q := 11) rfl (fun c8 => ?_) (fun c8 => ?_)
  · skip
    rw [bI_nz] at c8
    obtain ⟨k, hk, rfl⟩ := hasB_ex c8
    have hpk := pN_nI (k := k) (by omega)
    refine v_iload_n F dX7_change_13 (i := 2) rfl 2 rfl (q := 14) rfl ?_
    refine v_if_ne F dX7_change_14 (tgt := 34) rfl (q := 17) rfl (fun c14 => ?_) (fun c14 => ?_)
    · skip
      refine v_iload_n F dX7_change_34 (i := 2) rfl 2 rfl (q := 35) rfl ?_
      refine v_iconst F dX7_change_35 (v := 1) (q := 36) rfl rfl ?_
      refine v_icmp_ne F dX7_change_36 (tgt := 56) rfl (q := 39) rfl (fun c36 => ?_) (fun c36 => ?_)
      · skip
        refine v_iconst F dX7_change_56 (v := (-1)) (q := 57) rfl rfl ?_
        exact hE rfl dX7_change_57 (Nat.zero_le _) (Nat.zero_le _) ⟨(by have hf : fChange (nI k) what v (th, sd, tp, n, sc, sp, px, py, pl, pk, N, M, ls, lv, lx, ly, ab, bl, tn) = (-1, (th, sd, tp, n, sc, sp, px, py, pl, pk, N, M, ls, lv, lx, ly, ab, bl, tn)) := (by simp [fChange, c8, c14, c36, hpk]); exact ⟨(w1, w2, w3, w4, w5, w6, de, cw, cp, cq, pu, be, nr, dp0, b0, lf0, mo0, us0), by rw [hf], by rw [hf]; rfl⟩), Nat.le_of_ble_eq_true rfl⟩
      · skip
        refine v_iload_n F dX7_change_39 (i := 3) rfl 3 rfl (q := 40) rfl ?_
        refine v_callS F ml_X7_72 sm_X7_isTip in_X7 co_X7_isTip sd_X7_isTip (c_X7_isTip v) ⟨Nat.zero_le _, Nat.zero_le _⟩ (Nat.le_of_ble_eq_true rfl) (Nat.le_of_ble_eq_true rfl) rfl [] rfl rfl rfl (rest := []) rfl (Nat.le_of_ble_eq_true rfl) dX7_change_40 (q := 43) rfl (fun r w hr => ?_)
        obtain ⟨rfl, rfl⟩ := hr
        refine v_ws (ws' := [(z, .inr (7, [.ref g, .ref h, .ref o, .ref ca, .ref m0, .ref v0, .ref t, .int sp])), (g, .inr (2, [.ref ga, .ref gb, .ref gc, .int (nI n), .int sc])), (ga, .inl (cI, 6, .inl th)), (gb, .inl (cI, 6, .inl sd)), (gc, .inl (cI, 6, .inl tp)), (h, .inr (5, [.ref ha, .ref hb, .ref hc, .ref hd, .int (nI M), .int (nI N)])), (ha, .inl (cI, 12, .inl px)), (hb, .inl (cI, 12, .inl py)), (hc, .inl (cI, 12, .inl (fun i => nI (pl i)))), (hd, .inl (cI, 12, .inl pk)), (o, .inr (4, [.ref oa, .ref ob, .ref oc, .ref od])), (oa, .inl (cI, 3, .inl (fun i => nI (ls i)))), (ob, .inl (cJ, 3, .inr (.inl (fun i => zL (fsum ls lv i))))), (oc, .inl (cJ, 3, .inr (.inl (fun i => zL (fsum2 ls lv lx i))))), (od, .inl (cJ, 3, .inr (.inl (fun i => zL (fsum2 ls lv ly i))))), (ca, .inr (0, [.ref h, .long (zL w1), .long (zL w2), .long (zL w3), .long (zL w4), .long (zL w5), .long (zL w6), .long (zL de), .long (zL cw), .long (zL cp), .long (zL cq)])), (m0, .inr (3, [.ref ma, .ref mb, .ref mc])), (ma, .inl (cI, 12, .inl pu)), (mb, .inl (cI, 12, .inl be)), (mc, .inl (cI, 12, .inl nr)), (v0, .inr (1, [.int dp0, .int b0, .int lf0, .int mo0, .int us0])), (t, .inr (6, [.ref ta, .ref tb, .int (nI tn)])), (ta, .inl (cJ, 15, .inr (.inl ab))), (tb, .inl (cJ, 15, .inr (.inl bl)))]) rfl ?_
        refine v_st (st' := [.int (bI (inR v 0 1000))]) rfl ?_
        refine v_if_eq F dX7_change_43 (tgt := 56) rfl (q := 46) rfl (fun c43 => ?_) (fun c43 => ?_)
        · skip
          rw [bI_z] at c43
          refine v_iconst F dX7_change_56 (v := (-1)) (q := 57) rfl rfl ?_
          exact hE rfl dX7_change_57 (Nat.zero_le _) (Nat.zero_le _) ⟨(by have hf : fChange (nI k) what v (th, sd, tp, n, sc, sp, px, py, pl, pk, N, M, ls, lv, lx, ly, ab, bl, tn) = (-1, (th, sd, tp, n, sc, sp, px, py, pl, pk, N, M, ls, lv, lx, ly, ab, bl, tn)) := (by simp [fChange, c8, c14, c36, c43, hpk]); exact ⟨(w1, w2, w3, w4, w5, w6, de, cw, cp, cq, pu, be, nr, dp0, b0, lf0, mo0, us0), by rw [hf], by rw [hf]; rfl⟩), Nat.le_of_ble_eq_true rfl⟩
        · skip
          rw [bI_nz] at c43
          refine v_aload_n F dX7_change_46 (i := 0) rfl 0 rfl (q := 47) rfl ?_
          refine gt_X7_12 F dX7_change_47 0 rfl rfl (q := 50) rfl ?_
          refine v_iload_n F dX7_change_50 (i := 1) rfl 1 rfl (q := 51) rfl ?_
          refine v_iload_n F dX7_change_51 (i := 3) rfl 3 rfl (q := 52) rfl ?_
          refine v_callVN F ml_X7_89 im_X2_setTip se_X2_setTip in_X2 co_X2_setTip sd_X2_setTip (c_X2_setTip g ga gb gc th sd tp n sc k v (by omega)) ⟨Nat.zero_le _, Nat.zero_le _⟩ (Nat.le_of_ble_eq_true rfl) (Nat.le_of_ble_eq_true rfl) 1 (As := [.int (nI k), .int v]) rfl rfl rfl rfl rfl [1, 2, 3, 4] rfl rfl rfl (rest := []) rfl (Nat.le_of_ble_eq_true rfl) dX7_change_52 (q := 55) rfl (fun r w hr => ?_)
          obtain ⟨rfl, rfl⟩ := hr
          refine v_ws (ws' := [(z, .inr (7, [.ref g, .ref h, .ref o, .ref ca, .ref m0, .ref v0, .ref t, .int sp])), (g, .inr (2, [.ref ga, .ref gb, .ref gc, .int (nI n), .int sc])), (ga, .inl (cI, 6, .inl th)), (gb, .inl (cI, 6, .inl sd)), (gc, .inl (cI, 6, .inl (upd tp k v))), (h, .inr (5, [.ref ha, .ref hb, .ref hc, .ref hd, .int (nI M), .int (nI N)])), (ha, .inl (cI, 12, .inl px)), (hb, .inl (cI, 12, .inl py)), (hc, .inl (cI, 12, .inl (fun i => nI (pl i)))), (hd, .inl (cI, 12, .inl pk)), (o, .inr (4, [.ref oa, .ref ob, .ref oc, .ref od])), (oa, .inl (cI, 3, .inl (fun i => nI (ls i)))), (ob, .inl (cJ, 3, .inr (.inl (fun i => zL (fsum ls lv i))))), (oc, .inl (cJ, 3, .inr (.inl (fun i => zL (fsum2 ls lv lx i))))), (od, .inl (cJ, 3, .inr (.inl (fun i => zL (fsum2 ls lv ly i))))), (ca, .inr (0, [.ref h, .long (zL w1), .long (zL w2), .long (zL w3), .long (zL w4), .long (zL w5), .long (zL w6), .long (zL de), .long (zL cw), .long (zL cp), .long (zL cq)])), (m0, .inr (3, [.ref ma, .ref mb, .ref mc])), (ma, .inl (cI, 12, .inl pu)), (mb, .inl (cI, 12, .inl be)), (mc, .inl (cI, 12, .inl nr)), (v0, .inr (1, [.int dp0, .int b0, .int lf0, .int mo0, .int us0])), (t, .inr (6, [.ref ta, .ref tb, .int (nI tn)])), (ta, .inl (cJ, 15, .inr (.inl ab))), (tb, .inl (cJ, 15, .inr (.inl bl)))]) ((wset_wgo (nodup_of rfl) rfl).trans rfl) ?_
          refine v_st (st' := [.int (tp k)]) rfl ?_
          exact hE rfl dX7_change_55 (Nat.zero_le _) (Nat.zero_le _) ⟨(by have hf : fChange (nI k) what v (th, sd, tp, n, sc, sp, px, py, pl, pk, N, M, ls, lv, lx, ly, ab, bl, tn) = (tp k, (th, sd, upd tp k v, n, sc, sp, px, py, pl, pk, N, M, ls, lv, lx, ly, ab, bl, tn)) := (by simp [fChange, c8, c14, c36, c43, hpk]); exact ⟨(w1, w2, w3, w4, w5, w6, de, cw, cp, cq, pu, be, nr, dp0, b0, lf0, mo0, us0), by rw [hf], by rw [hf]; rfl⟩), Nat.le_of_ble_eq_true rfl⟩
    · skip
      refine v_iload_n F dX7_change_17 (i := 3) rfl 3 rfl (q := 18) rfl ?_
      refine v_callS F ml_X7_68 sm_X7_isSide in_X7 co_X7_isSide sd_X7_isSide (c_X7_isSide v) ⟨Nat.zero_le _, Nat.zero_le _⟩ (Nat.le_of_ble_eq_true rfl) (Nat.le_of_ble_eq_true rfl) rfl [] rfl rfl rfl (rest := []) rfl (Nat.le_of_ble_eq_true rfl) dX7_change_18 (q := 21) rfl (fun r w hr => ?_)
      obtain ⟨rfl, rfl⟩ := hr
      refine v_ws (ws' := [(z, .inr (7, [.ref g, .ref h, .ref o, .ref ca, .ref m0, .ref v0, .ref t, .int sp])), (g, .inr (2, [.ref ga, .ref gb, .ref gc, .int (nI n), .int sc])), (ga, .inl (cI, 6, .inl th)), (gb, .inl (cI, 6, .inl sd)), (gc, .inl (cI, 6, .inl tp)), (h, .inr (5, [.ref ha, .ref hb, .ref hc, .ref hd, .int (nI M), .int (nI N)])), (ha, .inl (cI, 12, .inl px)), (hb, .inl (cI, 12, .inl py)), (hc, .inl (cI, 12, .inl (fun i => nI (pl i)))), (hd, .inl (cI, 12, .inl pk)), (o, .inr (4, [.ref oa, .ref ob, .ref oc, .ref od])), (oa, .inl (cI, 3, .inl (fun i => nI (ls i)))), (ob, .inl (cJ, 3, .inr (.inl (fun i => zL (fsum ls lv i))))), (oc, .inl (cJ, 3, .inr (.inl (fun i => zL (fsum2 ls lv lx i))))), (od, .inl (cJ, 3, .inr (.inl (fun i => zL (fsum2 ls lv ly i))))), (ca, .inr (0, [.ref h, .long (zL w1), .long (zL w2), .long (zL w3), .long (zL w4), .long (zL w5), .long (zL w6), .long (zL de), .long (zL cw), .long (zL cp), .long (zL cq)])), (m0, .inr (3, [.ref ma, .ref mb, .ref mc])), (ma, .inl (cI, 12, .inl pu)), (mb, .inl (cI, 12, .inl be)), (mc, .inl (cI, 12, .inl nr)), (v0, .inr (1, [.int dp0, .int b0, .int lf0, .int mo0, .int us0])), (t, .inr (6, [.ref ta, .ref tb, .int (nI tn)])), (ta, .inl (cJ, 15, .inr (.inl ab))), (tb, .inl (cJ, 15, .inr (.inl bl)))]) rfl ?_
      refine v_st (st' := [.int (bI (inR v 0 50))]) rfl ?_
      refine v_if_eq F dX7_change_21 (tgt := 34) rfl (q := 24) rfl (fun c21 => ?_) (fun c21 => ?_)
      · skip
        rw [bI_z] at c21
        refine v_iload_n F dX7_change_34 (i := 2) rfl 2 rfl (q := 35) rfl ?_
        refine v_iconst F dX7_change_35 (v := 1) (q := 36) rfl rfl ?_
        refine v_icmp_ne F dX7_change_36 (tgt := 56) rfl (q := 39) rfl (fun c36 => ?_) (fun c36 => ?_)
        · skip
          refine v_iconst F dX7_change_56 (v := (-1)) (q := 57) rfl rfl ?_
          exact hE rfl dX7_change_57 (Nat.zero_le _) (Nat.zero_le _) ⟨(by have hf : fChange (nI k) what v (th, sd, tp, n, sc, sp, px, py, pl, pk, N, M, ls, lv, lx, ly, ab, bl, tn) = (-1, (th, sd, tp, n, sc, sp, px, py, pl, pk, N, M, ls, lv, lx, ly, ab, bl, tn)) := (by simp [fChange, c8, c14, c21, c36, hpk]); exact ⟨(w1, w2, w3, w4, w5, w6, de, cw, cp, cq, pu, be, nr, dp0, b0, lf0, mo0, us0), by rw [hf], by rw [hf]; rfl⟩), Nat.le_of_ble_eq_true rfl⟩
        · exact absurd (c14.symm.trans c36) (by decide)
      · skip
        rw [bI_nz] at c21
        refine v_aload_n F dX7_change_24 (i := 0) rfl 0 rfl (q := 25) rfl ?_
        refine gt_X7_12 F dX7_change_25 0 rfl rfl (q := 28) rfl ?_
        refine v_iload_n F dX7_change_28 (i := 1) rfl 1 rfl (q := 29) rfl ?_
        refine v_iload_n F dX7_change_29 (i := 3) rfl 3 rfl (q := 30) rfl ?_
        refine v_callVN F ml_X7_85 im_X2_setSide se_X2_setSide in_X2 co_X2_setSide sd_X2_setSide (c_X2_setSide g ga gb gc th sd tp n sc k v (by omega)) ⟨Nat.zero_le _, Nat.zero_le _⟩ (Nat.le_of_ble_eq_true rfl) (Nat.le_of_ble_eq_true rfl) 1 (As := [.int (nI k), .int v]) rfl rfl rfl rfl rfl [1, 2, 3, 4] rfl rfl rfl (rest := []) rfl (Nat.le_of_ble_eq_true rfl) dX7_change_30 (q := 33) rfl (fun r w hr => ?_)
        obtain ⟨rfl, rfl⟩ := hr
        refine v_ws (ws' := [(z, .inr (7, [.ref g, .ref h, .ref o, .ref ca, .ref m0, .ref v0, .ref t, .int sp])), (g, .inr (2, [.ref ga, .ref gb, .ref gc, .int (nI n), .int sc])), (ga, .inl (cI, 6, .inl th)), (gb, .inl (cI, 6, .inl (upd sd k v))), (gc, .inl (cI, 6, .inl tp)), (h, .inr (5, [.ref ha, .ref hb, .ref hc, .ref hd, .int (nI M), .int (nI N)])), (ha, .inl (cI, 12, .inl px)), (hb, .inl (cI, 12, .inl py)), (hc, .inl (cI, 12, .inl (fun i => nI (pl i)))), (hd, .inl (cI, 12, .inl pk)), (o, .inr (4, [.ref oa, .ref ob, .ref oc, .ref od])), (oa, .inl (cI, 3, .inl (fun i => nI (ls i)))), (ob, .inl (cJ, 3, .inr (.inl (fun i => zL (fsum ls lv i))))), (oc, .inl (cJ, 3, .inr (.inl (fun i => zL (fsum2 ls lv lx i))))), (od, .inl (cJ, 3, .inr (.inl (fun i => zL (fsum2 ls lv ly i))))), (ca, .inr (0, [.ref h, .long (zL w1), .long (zL w2), .long (zL w3), .long (zL w4), .long (zL w5), .long (zL w6), .long (zL de), .long (zL cw), .long (zL cp), .long (zL cq)])), (m0, .inr (3, [.ref ma, .ref mb, .ref mc])), (ma, .inl (cI, 12, .inl pu)), (mb, .inl (cI, 12, .inl be)), (mc, .inl (cI, 12, .inl nr)), (v0, .inr (1, [.int dp0, .int b0, .int lf0, .int mo0, .int us0])), (t, .inr (6, [.ref ta, .ref tb, .int (nI tn)])), (ta, .inl (cJ, 15, .inr (.inl ab))), (tb, .inl (cJ, 15, .inr (.inl bl)))]) ((wset_wgo (nodup_of rfl) rfl).trans rfl) ?_
        refine v_st (st' := [.int (sd k)]) rfl ?_
        exact hE rfl dX7_change_33 (Nat.zero_le _) (Nat.zero_le _) ⟨(by have hf : fChange (nI k) what v (th, sd, tp, n, sc, sp, px, py, pl, pk, N, M, ls, lv, lx, ly, ab, bl, tn) = (sd k, (th, upd sd k v, tp, n, sc, sp, px, py, pl, pk, N, M, ls, lv, lx, ly, ab, bl, tn)) := (by simp [fChange, c8, c14, c21, hpk]); exact ⟨(w1, w2, w3, w4, w5, w6, de, cw, cp, cq, pu, be, nr, dp0, b0, lf0, mo0, us0), by rw [hf], by rw [hf]; rfl⟩), Nat.le_of_ble_eq_true rfl⟩
  · skip
    rw [bI_z] at c8
    refine v_iconst F dX7_change_11 (v := (-1)) (q := 12) rfl rfl ?_
    exact hE rfl dX7_change_12 (Nat.zero_le _) (Nat.zero_le _) ⟨(by have hf : fChange p0 what v (th, sd, tp, n, sc, sp, px, py, pl, pk, N, M, ls, lv, lx, ly, ab, bl, tn) = (-1, (th, sd, tp, n, sc, sp, px, py, pl, pk, N, M, ls, lv, lx, ly, ab, bl, tn)) := (by simp [fChange, c8]); exact ⟨(w1, w2, w3, w4, w5, w6, de, cw, cp, cq, pu, be, nr, dp0, b0, lf0, mo0, us0), by rw [hf], by rw [hf]; rfl⟩), Nat.le_of_ble_eq_true rfl⟩

set_option maxHeartbeats 4000000 in
set_option maxRecDepth 100000 in
theorem c_X7_rule (z g ga gb gc h ha hb hc hd o oa ob oc od ca m0 ma mb mc v0 t ta tb : Nat) (th : Nat → Int32) (sd : Nat → Int32) (tp : Nat → Int32) (n : Nat) (sc : Int32) (sp : Int32) (px : Nat → Int32) (py : Nat → Int32) (pl : Nat → Nat) (pk : Nat → Int32) (N : Nat) (M : Nat) (ls : Nat → Nat) (lv : Nat → Int32) (lx : Nat → Int32) (ly : Nat → Int32) (ab : Nat → Int64) (bl : Nat → Int64) (tn : Nat) (w1 : Int) (w2 : Int) (w3 : Int) (w4 : Int) (w5 : Int) (w6 : Int) (de : Int) (cw : Int) (cp : Int) (cq : Int) (pu : Nat → Int32) (be : Nat → Int32) (nr : Nat → Int32) (dp0 : Int32) (b0 : Int32) (lf0 : Int32) (mo0 : Int32) (us0 : Int32) (what v : Int32) (VI : INV (th, sd, tp, n, sc, sp, px, py, pl, pk, N, M, ls, lv, lx, ly, ab, bl, tn)) : Ct l D (TY cI cJ cZ) yX7_rule cX7_rule 4 (some .int) 1 22 0 0 [.ref z, .int what, .int v] [(z, .inr (7, [.ref g, .ref h, .ref o, .ref ca, .ref m0, .ref v0, .ref t, .int sp])), (g, .inr (2, [.ref ga, .ref gb, .ref gc, .int (nI n), .int sc])), (ga, .inl (cI, 6, .inl th)), (gb, .inl (cI, 6, .inl sd)), (gc, .inl (cI, 6, .inl tp)), (h, .inr (5, [.ref ha, .ref hb, .ref hc, .ref hd, .int (nI M), .int (nI N)])), (ha, .inl (cI, 12, .inl px)), (hb, .inl (cI, 12, .inl py)), (hc, .inl (cI, 12, .inl (fun i => nI (pl i)))), (hd, .inl (cI, 12, .inl pk)), (o, .inr (4, [.ref oa, .ref ob, .ref oc, .ref od])), (oa, .inl (cI, 3, .inl (fun i => nI (ls i)))), (ob, .inl (cJ, 3, .inr (.inl (fun i => zL (fsum ls lv i))))), (oc, .inl (cJ, 3, .inr (.inl (fun i => zL (fsum2 ls lv lx i))))), (od, .inl (cJ, 3, .inr (.inl (fun i => zL (fsum2 ls lv ly i))))), (ca, .inr (0, [.ref h, .long (zL w1), .long (zL w2), .long (zL w3), .long (zL w4), .long (zL w5), .long (zL w6), .long (zL de), .long (zL cw), .long (zL cp), .long (zL cq)])), (m0, .inr (3, [.ref ma, .ref mb, .ref mc])), (ma, .inl (cI, 12, .inl pu)), (mb, .inl (cI, 12, .inl be)), (mc, .inl (cI, 12, .inl nr)), (v0, .inr (1, [.int dp0, .int b0, .int lf0, .int mo0, .int us0])), (t, .inr (6, [.ref ta, .ref tb, .int (nI tn)])), (ta, .inl (cJ, 15, .inr (.inl ab))), (tb, .inl (cJ, 15, .inr (.inl bl)))] (fun r w => ∃ X : SXy, r = some (.int (fRule what v (th, sd, tp, n, sc, sp, px, py, pl, pk, N, M, ls, lv, lx, ly, ab, bl, tn)).1) ∧ w = WC cI cJ z g ga gb gc h ha hb hc hd o oa ob oc od ca m0 ma mb mc v0 t ta tb (fRule what v (th, sd, tp, n, sc, sp, px, py, pl, pk, N, M, ls, lv, lx, ly, ab, bl, tn)).2 X) := by
  refine Ct.ofI (ty := .int) (by decide) (Nat.le_of_ble_eq_true rfl) ?_
  intro p e s m args below meth c A R Q F hnm hcs0 hE
  refine v_lv (lv' := [(0, .ref z), (1, .int what), (2, .int v)]) [0, 1, 2] rfl ?_
  obtain ⟨G, hsp, P, hM, hls, hlv, hlx, hly, htn⟩ := id VI
  have hn6 := G.1
  have hN12 := P.1
  have hM4 : M < 4096 := Nat.lt_of_lt_of_le hM (Nat.pow_le_pow_right (by omega) hN12)
  refine v_iload_n F dX7_rule_0 (i := 1) rfl 1 rfl (q := 1) rfl ?_
  refine v_if_ne F dX7_rule_1 (tgt := 23) rfl (q := 4) rfl (fun c1 => ?_) (fun c1 => ?_)
  · skip
    refine v_iload_n F dX7_rule_23 (i := 1) rfl 1 rfl (q := 24) rfl ?_
    refine v_iconst F dX7_rule_24 (v := 1) (q := 25) rfl rfl ?_
    refine v_icmp_ne F dX7_rule_25 (tgt := 50) rfl (q := 28) rfl (fun c25 => ?_) (fun c25 => ?_)
    · skip
      refine v_iconst F dX7_rule_50 (v := (-1)) (q := 51) rfl rfl ?_
      exact hE rfl dX7_rule_51 (Nat.zero_le _) (Nat.zero_le _) ⟨(by have hf : fRule what v (th, sd, tp, n, sc, sp, px, py, pl, pk, N, M, ls, lv, lx, ly, ab, bl, tn) = (-1, (th, sd, tp, n, sc, sp, px, py, pl, pk, N, M, ls, lv, lx, ly, ab, bl, tn)) := (by simp [fRule, c1, c25]); exact ⟨(w1, w2, w3, w4, w5, w6, de, cw, cp, cq, pu, be, nr, dp0, b0, lf0, mo0, us0), by rw [hf], by rw [hf]; rfl⟩), Nat.le_of_ble_eq_true rfl⟩
    · skip
      refine v_iload_n F dX7_rule_28 (i := 2) rfl 2 rfl (q := 29) rfl ?_
      refine v_iconst F dX7_rule_29 (v := 0) (q := 30) rfl rfl ?_
      refine v_bipush F dX7_rule_30 (v := 40) (q := 32) rfl rfl ?_
      refine v_callS F ml_X7_64 sm_X7_within in_X7 co_X7_within sd_X7_within (c_X7_within v 0 40) ⟨Nat.zero_le _, Nat.zero_le _⟩ (Nat.le_of_ble_eq_true rfl) (Nat.le_of_ble_eq_true rfl) rfl [] rfl rfl rfl (rest := []) rfl (Nat.le_of_ble_eq_true rfl) dX7_rule_32 (q := 35) rfl (fun r w hr => ?_)
      obtain ⟨rfl, rfl⟩ := hr
      refine v_ws (ws' := [(z, .inr (7, [.ref g, .ref h, .ref o, .ref ca, .ref m0, .ref v0, .ref t, .int sp])), (g, .inr (2, [.ref ga, .ref gb, .ref gc, .int (nI n), .int sc])), (ga, .inl (cI, 6, .inl th)), (gb, .inl (cI, 6, .inl sd)), (gc, .inl (cI, 6, .inl tp)), (h, .inr (5, [.ref ha, .ref hb, .ref hc, .ref hd, .int (nI M), .int (nI N)])), (ha, .inl (cI, 12, .inl px)), (hb, .inl (cI, 12, .inl py)), (hc, .inl (cI, 12, .inl (fun i => nI (pl i)))), (hd, .inl (cI, 12, .inl pk)), (o, .inr (4, [.ref oa, .ref ob, .ref oc, .ref od])), (oa, .inl (cI, 3, .inl (fun i => nI (ls i)))), (ob, .inl (cJ, 3, .inr (.inl (fun i => zL (fsum ls lv i))))), (oc, .inl (cJ, 3, .inr (.inl (fun i => zL (fsum2 ls lv lx i))))), (od, .inl (cJ, 3, .inr (.inl (fun i => zL (fsum2 ls lv ly i))))), (ca, .inr (0, [.ref h, .long (zL w1), .long (zL w2), .long (zL w3), .long (zL w4), .long (zL w5), .long (zL w6), .long (zL de), .long (zL cw), .long (zL cp), .long (zL cq)])), (m0, .inr (3, [.ref ma, .ref mb, .ref mc])), (ma, .inl (cI, 12, .inl pu)), (mb, .inl (cI, 12, .inl be)), (mc, .inl (cI, 12, .inl nr)), (v0, .inr (1, [.int dp0, .int b0, .int lf0, .int mo0, .int us0])), (t, .inr (6, [.ref ta, .ref tb, .int (nI tn)])), (ta, .inl (cJ, 15, .inr (.inl ab))), (tb, .inl (cJ, 15, .inr (.inl bl)))]) rfl ?_
      refine v_st (st' := [.int (bI (inR v 0 40))]) rfl ?_
      refine v_if_eq F dX7_rule_35 (tgt := 50) rfl (q := 38) rfl (fun c35 => ?_) (fun c35 => ?_)
      · skip
        rw [bI_z] at c35
        refine v_iconst F dX7_rule_50 (v := (-1)) (q := 51) rfl rfl ?_
        exact hE rfl dX7_rule_51 (Nat.zero_le _) (Nat.zero_le _) ⟨(by have hf : fRule what v (th, sd, tp, n, sc, sp, px, py, pl, pk, N, M, ls, lv, lx, ly, ab, bl, tn) = (-1, (th, sd, tp, n, sc, sp, px, py, pl, pk, N, M, ls, lv, lx, ly, ab, bl, tn)) := (by simp [fRule, c1, c25, c35]); exact ⟨(w1, w2, w3, w4, w5, w6, de, cw, cp, cq, pu, be, nr, dp0, b0, lf0, mo0, us0), by rw [hf], by rw [hf]; rfl⟩), Nat.le_of_ble_eq_true rfl⟩
      · skip
        rw [bI_nz] at c35
        refine v_aload_n F dX7_rule_38 (i := 0) rfl 0 rfl (q := 39) rfl ?_
        refine gt_X7_60 F dX7_rule_39 0 rfl rfl (q := 42) rfl ?_
        refine v_istore_n F dX7_rule_42 (i := 3) (lv' := [(3, .int sp), (0, .ref z), (1, .int what), (2, .int v)]) rfl (Nat.le_of_ble_eq_true rfl) rfl (q := 43) rfl ?_
        refine v_aload_n F dX7_rule_43 (i := 0) rfl 1 rfl (q := 44) rfl ?_
        refine v_iload_n F dX7_rule_44 (i := 2) rfl 3 rfl (q := 45) rfl ?_
        refine pt_X7_60 F dX7_rule_45 0 rfl (Nat.le_of_ble_eq_true rfl) (q := 48) rfl ?_
        refine v_ws (ws' := [(z, .inr (7, [.ref g, .ref h, .ref o, .ref ca, .ref m0, .ref v0, .ref t, .int v])), (g, .inr (2, [.ref ga, .ref gb, .ref gc, .int (nI n), .int sc])), (ga, .inl (cI, 6, .inl th)), (gb, .inl (cI, 6, .inl sd)), (gc, .inl (cI, 6, .inl tp)), (h, .inr (5, [.ref ha, .ref hb, .ref hc, .ref hd, .int (nI M), .int (nI N)])), (ha, .inl (cI, 12, .inl px)), (hb, .inl (cI, 12, .inl py)), (hc, .inl (cI, 12, .inl (fun i => nI (pl i)))), (hd, .inl (cI, 12, .inl pk)), (o, .inr (4, [.ref oa, .ref ob, .ref oc, .ref od])), (oa, .inl (cI, 3, .inl (fun i => nI (ls i)))), (ob, .inl (cJ, 3, .inr (.inl (fun i => zL (fsum ls lv i))))), (oc, .inl (cJ, 3, .inr (.inl (fun i => zL (fsum2 ls lv lx i))))), (od, .inl (cJ, 3, .inr (.inl (fun i => zL (fsum2 ls lv ly i))))), (ca, .inr (0, [.ref h, .long (zL w1), .long (zL w2), .long (zL w3), .long (zL w4), .long (zL w5), .long (zL w6), .long (zL de), .long (zL cw), .long (zL cp), .long (zL cq)])), (m0, .inr (3, [.ref ma, .ref mb, .ref mc])), (ma, .inl (cI, 12, .inl pu)), (mb, .inl (cI, 12, .inl be)), (mc, .inl (cI, 12, .inl nr)), (v0, .inr (1, [.int dp0, .int b0, .int lf0, .int mo0, .int us0])), (t, .inr (6, [.ref ta, .ref tb, .int (nI tn)])), (ta, .inl (cJ, 15, .inr (.inl ab))), (tb, .inl (cJ, 15, .inr (.inl bl)))]) rfl ?_
        refine v_iload_n F dX7_rule_48 (i := 3) rfl 0 rfl (q := 49) rfl ?_
        exact hE rfl dX7_rule_49 (Nat.zero_le _) (Nat.zero_le _) ⟨(by have hf : fRule what v (th, sd, tp, n, sc, sp, px, py, pl, pk, N, M, ls, lv, lx, ly, ab, bl, tn) = (sp, (th, sd, tp, n, sc, v, px, py, pl, pk, N, M, ls, lv, lx, ly, ab, bl, tn)) := (by simp [fRule, c1, c25, c35]); exact ⟨(w1, w2, w3, w4, w5, w6, de, cw, cp, cq, pu, be, nr, dp0, b0, lf0, mo0, us0), by rw [hf], by rw [hf]; rfl⟩), Nat.le_of_ble_eq_true rfl⟩
  · skip
    refine v_iload_n F dX7_rule_4 (i := 2) rfl 2 rfl (q := 5) rfl ?_
    refine v_iconst F dX7_rule_5 (v := 0) (q := 6) rfl rfl ?_
    refine v_bipush F dX7_rule_6 (v := 20) (q := 8) rfl rfl ?_
    refine v_callS F ml_X7_64 sm_X7_within in_X7 co_X7_within sd_X7_within (c_X7_within v 0 20) ⟨Nat.zero_le _, Nat.zero_le _⟩ (Nat.le_of_ble_eq_true rfl) (Nat.le_of_ble_eq_true rfl) rfl [] rfl rfl rfl (rest := []) rfl (Nat.le_of_ble_eq_true rfl) dX7_rule_8 (q := 11) rfl (fun r w hr => ?_)
    obtain ⟨rfl, rfl⟩ := hr
    refine v_ws (ws' := [(z, .inr (7, [.ref g, .ref h, .ref o, .ref ca, .ref m0, .ref v0, .ref t, .int sp])), (g, .inr (2, [.ref ga, .ref gb, .ref gc, .int (nI n), .int sc])), (ga, .inl (cI, 6, .inl th)), (gb, .inl (cI, 6, .inl sd)), (gc, .inl (cI, 6, .inl tp)), (h, .inr (5, [.ref ha, .ref hb, .ref hc, .ref hd, .int (nI M), .int (nI N)])), (ha, .inl (cI, 12, .inl px)), (hb, .inl (cI, 12, .inl py)), (hc, .inl (cI, 12, .inl (fun i => nI (pl i)))), (hd, .inl (cI, 12, .inl pk)), (o, .inr (4, [.ref oa, .ref ob, .ref oc, .ref od])), (oa, .inl (cI, 3, .inl (fun i => nI (ls i)))), (ob, .inl (cJ, 3, .inr (.inl (fun i => zL (fsum ls lv i))))), (oc, .inl (cJ, 3, .inr (.inl (fun i => zL (fsum2 ls lv lx i))))), (od, .inl (cJ, 3, .inr (.inl (fun i => zL (fsum2 ls lv ly i))))), (ca, .inr (0, [.ref h, .long (zL w1), .long (zL w2), .long (zL w3), .long (zL w4), .long (zL w5), .long (zL w6), .long (zL de), .long (zL cw), .long (zL cp), .long (zL cq)])), (m0, .inr (3, [.ref ma, .ref mb, .ref mc])), (ma, .inl (cI, 12, .inl pu)), (mb, .inl (cI, 12, .inl be)), (mc, .inl (cI, 12, .inl nr)), (v0, .inr (1, [.int dp0, .int b0, .int lf0, .int mo0, .int us0])), (t, .inr (6, [.ref ta, .ref tb, .int (nI tn)])), (ta, .inl (cJ, 15, .inr (.inl ab))), (tb, .inl (cJ, 15, .inr (.inl bl)))]) rfl ?_
    refine v_st (st' := [.int (bI (inR v 0 20))]) rfl ?_
    refine v_if_eq F dX7_rule_11 (tgt := 23) rfl (q := 14) rfl (fun c11 => ?_) (fun c11 => ?_)
    · skip
      rw [bI_z] at c11
      refine v_iload_n F dX7_rule_23 (i := 1) rfl 1 rfl (q := 24) rfl ?_
      refine v_iconst F dX7_rule_24 (v := 1) (q := 25) rfl rfl ?_
      refine v_icmp_ne F dX7_rule_25 (tgt := 50) rfl (q := 28) rfl (fun c25 => ?_) (fun c25 => ?_)
      · skip
        refine v_iconst F dX7_rule_50 (v := (-1)) (q := 51) rfl rfl ?_
        exact hE rfl dX7_rule_51 (Nat.zero_le _) (Nat.zero_le _) ⟨(by have hf : fRule what v (th, sd, tp, n, sc, sp, px, py, pl, pk, N, M, ls, lv, lx, ly, ab, bl, tn) = (-1, (th, sd, tp, n, sc, sp, px, py, pl, pk, N, M, ls, lv, lx, ly, ab, bl, tn)) := (by simp [fRule, c1, c11, c25]); exact ⟨(w1, w2, w3, w4, w5, w6, de, cw, cp, cq, pu, be, nr, dp0, b0, lf0, mo0, us0), by rw [hf], by rw [hf]; rfl⟩), Nat.le_of_ble_eq_true rfl⟩
      · exact absurd (c1.symm.trans c25) (by decide)
    · skip
      rw [bI_nz] at c11
      refine v_aload_n F dX7_rule_14 (i := 0) rfl 0 rfl (q := 15) rfl ?_
      refine gt_X7_12 F dX7_rule_15 0 rfl rfl (q := 18) rfl ?_
      refine v_iload_n F dX7_rule_18 (i := 2) rfl 2 rfl (q := 19) rfl ?_
      refine v_callVN F ml_X7_92 im_X2_setScour se_X2_setScour in_X2 co_X2_setScour sd_X2_setScour (c_X2_setScour g ga gb gc th sd tp n sc v ) ⟨Nat.zero_le _, Nat.zero_le _⟩ (Nat.le_of_ble_eq_true rfl) (Nat.le_of_ble_eq_true rfl) 1 (As := [.int v]) rfl rfl rfl rfl rfl [1, 2, 3, 4] rfl rfl rfl (rest := []) rfl (Nat.le_of_ble_eq_true rfl) dX7_rule_19 (q := 22) rfl (fun r w hr => ?_)
      obtain ⟨rfl, rfl⟩ := hr
      refine v_ws (ws' := [(z, .inr (7, [.ref g, .ref h, .ref o, .ref ca, .ref m0, .ref v0, .ref t, .int sp])), (g, .inr (2, [.ref ga, .ref gb, .ref gc, .int (nI n), .int v])), (ga, .inl (cI, 6, .inl th)), (gb, .inl (cI, 6, .inl sd)), (gc, .inl (cI, 6, .inl tp)), (h, .inr (5, [.ref ha, .ref hb, .ref hc, .ref hd, .int (nI M), .int (nI N)])), (ha, .inl (cI, 12, .inl px)), (hb, .inl (cI, 12, .inl py)), (hc, .inl (cI, 12, .inl (fun i => nI (pl i)))), (hd, .inl (cI, 12, .inl pk)), (o, .inr (4, [.ref oa, .ref ob, .ref oc, .ref od])), (oa, .inl (cI, 3, .inl (fun i => nI (ls i)))), (ob, .inl (cJ, 3, .inr (.inl (fun i => zL (fsum ls lv i))))), (oc, .inl (cJ, 3, .inr (.inl (fun i => zL (fsum2 ls lv lx i))))), (od, .inl (cJ, 3, .inr (.inl (fun i => zL (fsum2 ls lv ly i))))), (ca, .inr (0, [.ref h, .long (zL w1), .long (zL w2), .long (zL w3), .long (zL w4), .long (zL w5), .long (zL w6), .long (zL de), .long (zL cw), .long (zL cp), .long (zL cq)])), (m0, .inr (3, [.ref ma, .ref mb, .ref mc])), (ma, .inl (cI, 12, .inl pu)), (mb, .inl (cI, 12, .inl be)), (mc, .inl (cI, 12, .inl nr)), (v0, .inr (1, [.int dp0, .int b0, .int lf0, .int mo0, .int us0])), (t, .inr (6, [.ref ta, .ref tb, .int (nI tn)])), (ta, .inl (cJ, 15, .inr (.inl ab))), (tb, .inl (cJ, 15, .inr (.inl bl)))]) ((wset_wgo (nodup_of rfl) rfl).trans rfl) ?_
      refine v_st (st' := [.int sc]) rfl ?_
      exact hE rfl dX7_rule_22 (Nat.zero_le _) (Nat.zero_le _) ⟨(by have hf : fRule what v (th, sd, tp, n, sc, sp, px, py, pl, pk, N, M, ls, lv, lx, ly, ab, bl, tn) = (sc, (th, sd, tp, n, v, sp, px, py, pl, pk, N, M, ls, lv, lx, ly, ab, bl, tn)) := (by simp [fRule, c1, c11]); exact ⟨(w1, w2, w3, w4, w5, w6, de, cw, cp, cq, pu, be, nr, dp0, b0, lf0, mo0, us0), by rw [hf], by rw [hf]; rfl⟩), Nat.le_of_ble_eq_true rfl⟩

set_option maxHeartbeats 4000000 in
set_option maxRecDepth 100000 in
theorem c_X7_pile (z g ga gb gc h ha hb hc hd o oa ob oc od ca m0 ma mb mc v0 t ta tb : Nat) (th : Nat → Int32) (sd : Nat → Int32) (tp : Nat → Int32) (n : Nat) (sc : Int32) (sp : Int32) (px : Nat → Int32) (py : Nat → Int32) (pl : Nat → Nat) (pk : Nat → Int32) (N : Nat) (M : Nat) (ls : Nat → Nat) (lv : Nat → Int32) (lx : Nat → Int32) (ly : Nat → Int32) (ab : Nat → Int64) (bl : Nat → Int64) (tn : Nat) (w1 : Int) (w2 : Int) (w3 : Int) (w4 : Int) (w5 : Int) (w6 : Int) (de : Int) (cw : Int) (cp : Int) (cq : Int) (pu : Nat → Int32) (be : Nat → Int32) (nr : Nat → Int32) (dp0 : Int32) (b0 : Int32) (lf0 : Int32) (mo0 : Int32) (us0 : Int32) (x1 y1 L1 k1 : Int32) (VI : INV (th, sd, tp, n, sc, sp, px, py, pl, pk, N, M, ls, lv, lx, ly, ab, bl, tn)) : Ct l D (TY cI cJ cZ) yX7_pile cX7_pile 5 (some .int) 2 48 0 0 [.ref z, .int x1, .int y1, .int L1, .int k1] [(z, .inr (7, [.ref g, .ref h, .ref o, .ref ca, .ref m0, .ref v0, .ref t, .int sp])), (g, .inr (2, [.ref ga, .ref gb, .ref gc, .int (nI n), .int sc])), (ga, .inl (cI, 6, .inl th)), (gb, .inl (cI, 6, .inl sd)), (gc, .inl (cI, 6, .inl tp)), (h, .inr (5, [.ref ha, .ref hb, .ref hc, .ref hd, .int (nI M), .int (nI N)])), (ha, .inl (cI, 12, .inl px)), (hb, .inl (cI, 12, .inl py)), (hc, .inl (cI, 12, .inl (fun i => nI (pl i)))), (hd, .inl (cI, 12, .inl pk)), (o, .inr (4, [.ref oa, .ref ob, .ref oc, .ref od])), (oa, .inl (cI, 3, .inl (fun i => nI (ls i)))), (ob, .inl (cJ, 3, .inr (.inl (fun i => zL (fsum ls lv i))))), (oc, .inl (cJ, 3, .inr (.inl (fun i => zL (fsum2 ls lv lx i))))), (od, .inl (cJ, 3, .inr (.inl (fun i => zL (fsum2 ls lv ly i))))), (ca, .inr (0, [.ref h, .long (zL w1), .long (zL w2), .long (zL w3), .long (zL w4), .long (zL w5), .long (zL w6), .long (zL de), .long (zL cw), .long (zL cp), .long (zL cq)])), (m0, .inr (3, [.ref ma, .ref mb, .ref mc])), (ma, .inl (cI, 12, .inl pu)), (mb, .inl (cI, 12, .inl be)), (mc, .inl (cI, 12, .inl nr)), (v0, .inr (1, [.int dp0, .int b0, .int lf0, .int mo0, .int us0])), (t, .inr (6, [.ref ta, .ref tb, .int (nI tn)])), (ta, .inl (cJ, 15, .inr (.inl ab))), (tb, .inl (cJ, 15, .inr (.inl bl)))] (fun r w => ∃ X : SXy, r = some (.int (fPile x1 y1 L1 k1 (th, sd, tp, n, sc, sp, px, py, pl, pk, N, M, ls, lv, lx, ly, ab, bl, tn)).1) ∧ w = WC cI cJ z g ga gb gc h ha hb hc hd o oa ob oc od ca m0 ma mb mc v0 t ta tb (fPile x1 y1 L1 k1 (th, sd, tp, n, sc, sp, px, py, pl, pk, N, M, ls, lv, lx, ly, ab, bl, tn)).2 X) := by
  refine Ct.ofI (ty := .int) (by decide) (Nat.le_of_ble_eq_true rfl) ?_
  intro p e s m args below meth c A R Q F hnm hcs0 hE
  refine v_lv (lv' := [(0, .ref z), (1, .int x1), (2, .int y1), (3, .int L1), (4, .int k1)]) [0, 1, 2, 3, 4] rfl ?_
  obtain ⟨G, hsp, P, hM, hls, hlv, hlx, hly, htn⟩ := id VI
  have hn6 := G.1
  have hN12 := P.1
  have hM4 : M < 4096 := Nat.lt_of_lt_of_le hM (Nat.pow_le_pow_right (by omega) hN12)
  refine v_iload_n F dX7_pile_0 (i := 1) rfl 1 rfl (q := 1) rfl ?_
  refine v_iload_n F dX7_pile_1 (i := 2) rfl 2 rfl (q := 2) rfl ?_
  refine v_callS F ml_X7_96 sm_X7_isPlace in_X7 co_X7_isPlace sd_X7_isPlace (c_X7_isPlace x1 y1) ⟨Nat.zero_le _, Nat.zero_le _⟩ (Nat.le_of_ble_eq_true rfl) (Nat.le_of_ble_eq_true rfl) rfl [] rfl rfl rfl (rest := []) rfl (Nat.le_of_ble_eq_true rfl) dX7_pile_2 (q := 5) rfl (fun r w hr => ?_)
  obtain ⟨rfl, rfl⟩ := hr
  refine v_ws (ws' := [(z, .inr (7, [.ref g, .ref h, .ref o, .ref ca, .ref m0, .ref v0, .ref t, .int sp])), (g, .inr (2, [.ref ga, .ref gb, .ref gc, .int (nI n), .int sc])), (ga, .inl (cI, 6, .inl th)), (gb, .inl (cI, 6, .inl sd)), (gc, .inl (cI, 6, .inl tp)), (h, .inr (5, [.ref ha, .ref hb, .ref hc, .ref hd, .int (nI M), .int (nI N)])), (ha, .inl (cI, 12, .inl px)), (hb, .inl (cI, 12, .inl py)), (hc, .inl (cI, 12, .inl (fun i => nI (pl i)))), (hd, .inl (cI, 12, .inl pk)), (o, .inr (4, [.ref oa, .ref ob, .ref oc, .ref od])), (oa, .inl (cI, 3, .inl (fun i => nI (ls i)))), (ob, .inl (cJ, 3, .inr (.inl (fun i => zL (fsum ls lv i))))), (oc, .inl (cJ, 3, .inr (.inl (fun i => zL (fsum2 ls lv lx i))))), (od, .inl (cJ, 3, .inr (.inl (fun i => zL (fsum2 ls lv ly i))))), (ca, .inr (0, [.ref h, .long (zL w1), .long (zL w2), .long (zL w3), .long (zL w4), .long (zL w5), .long (zL w6), .long (zL de), .long (zL cw), .long (zL cp), .long (zL cq)])), (m0, .inr (3, [.ref ma, .ref mb, .ref mc])), (ma, .inl (cI, 12, .inl pu)), (mb, .inl (cI, 12, .inl be)), (mc, .inl (cI, 12, .inl nr)), (v0, .inr (1, [.int dp0, .int b0, .int lf0, .int mo0, .int us0])), (t, .inr (6, [.ref ta, .ref tb, .int (nI tn)])), (ta, .inl (cJ, 15, .inr (.inl ab))), (tb, .inl (cJ, 15, .inr (.inl bl)))]) rfl ?_
  refine v_st (st' := [.int (bI (inR x1 (-20) 20 && inR y1 (-20) 20))]) rfl ?_
  refine v_if_eq F dX7_pile_5 (tgt := 29) rfl (q := 8) rfl (fun c5 => ?_) (fun c5 => ?_)
  · skip
    rw [bI_z] at c5
    refine v_iconst F dX7_pile_29 (v := (-1)) (q := 30) rfl rfl ?_
    exact hE rfl dX7_pile_30 (Nat.zero_le _) (Nat.zero_le _) ⟨(by have hf : fPile x1 y1 L1 k1 (th, sd, tp, n, sc, sp, px, py, pl, pk, N, M, ls, lv, lx, ly, ab, bl, tn) = (-1, (th, sd, tp, n, sc, sp, px, py, pl, pk, N, M, ls, lv, lx, ly, ab, bl, tn)) := (by simp [fPile, c5]); exact ⟨(w1, w2, w3, w4, w5, w6, de, cw, cp, cq, pu, be, nr, dp0, b0, lf0, mo0, us0), by rw [hf], by rw [hf]; rfl⟩), Nat.le_of_ble_eq_true rfl⟩
  · skip
    rw [bI_nz] at c5
    refine v_iload_n F dX7_pile_8 (i := 3) rfl 3 rfl (q := 9) rfl ?_
    refine v_iconst F dX7_pile_9 (v := 1) (q := 10) rfl rfl ?_
    refine v_bipush F dX7_pile_10 (v := 100) (q := 12) rfl rfl ?_
    refine v_callS F ml_X7_64 sm_X7_within in_X7 co_X7_within sd_X7_within (c_X7_within L1 1 100) ⟨Nat.zero_le _, Nat.zero_le _⟩ (Nat.le_of_ble_eq_true rfl) (Nat.le_of_ble_eq_true rfl) rfl [] rfl rfl rfl (rest := []) rfl (Nat.le_of_ble_eq_true rfl) dX7_pile_12 (q := 15) rfl (fun r w hr => ?_)
    obtain ⟨rfl, rfl⟩ := hr
    refine v_ws (ws' := [(z, .inr (7, [.ref g, .ref h, .ref o, .ref ca, .ref m0, .ref v0, .ref t, .int sp])), (g, .inr (2, [.ref ga, .ref gb, .ref gc, .int (nI n), .int sc])), (ga, .inl (cI, 6, .inl th)), (gb, .inl (cI, 6, .inl sd)), (gc, .inl (cI, 6, .inl tp)), (h, .inr (5, [.ref ha, .ref hb, .ref hc, .ref hd, .int (nI M), .int (nI N)])), (ha, .inl (cI, 12, .inl px)), (hb, .inl (cI, 12, .inl py)), (hc, .inl (cI, 12, .inl (fun i => nI (pl i)))), (hd, .inl (cI, 12, .inl pk)), (o, .inr (4, [.ref oa, .ref ob, .ref oc, .ref od])), (oa, .inl (cI, 3, .inl (fun i => nI (ls i)))), (ob, .inl (cJ, 3, .inr (.inl (fun i => zL (fsum ls lv i))))), (oc, .inl (cJ, 3, .inr (.inl (fun i => zL (fsum2 ls lv lx i))))), (od, .inl (cJ, 3, .inr (.inl (fun i => zL (fsum2 ls lv ly i))))), (ca, .inr (0, [.ref h, .long (zL w1), .long (zL w2), .long (zL w3), .long (zL w4), .long (zL w5), .long (zL w6), .long (zL de), .long (zL cw), .long (zL cp), .long (zL cq)])), (m0, .inr (3, [.ref ma, .ref mb, .ref mc])), (ma, .inl (cI, 12, .inl pu)), (mb, .inl (cI, 12, .inl be)), (mc, .inl (cI, 12, .inl nr)), (v0, .inr (1, [.int dp0, .int b0, .int lf0, .int mo0, .int us0])), (t, .inr (6, [.ref ta, .ref tb, .int (nI tn)])), (ta, .inl (cJ, 15, .inr (.inl ab))), (tb, .inl (cJ, 15, .inr (.inl bl)))]) rfl ?_
    refine v_st (st' := [.int (bI (inR L1 1 100))]) rfl ?_
    refine v_if_eq F dX7_pile_15 (tgt := 29) rfl (q := 18) rfl (fun c15 => ?_) (fun c15 => ?_)
    · skip
      rw [bI_z] at c15
      refine v_iconst F dX7_pile_29 (v := (-1)) (q := 30) rfl rfl ?_
      exact hE rfl dX7_pile_30 (Nat.zero_le _) (Nat.zero_le _) ⟨(by have hf : fPile x1 y1 L1 k1 (th, sd, tp, n, sc, sp, px, py, pl, pk, N, M, ls, lv, lx, ly, ab, bl, tn) = (-1, (th, sd, tp, n, sc, sp, px, py, pl, pk, N, M, ls, lv, lx, ly, ab, bl, tn)) := (by simp [fPile, c5, c15]); exact ⟨(w1, w2, w3, w4, w5, w6, de, cw, cp, cq, pu, be, nr, dp0, b0, lf0, mo0, us0), by rw [hf], by rw [hf]; rfl⟩), Nat.le_of_ble_eq_true rfl⟩
    · skip
      rw [bI_nz] at c15
      refine v_iload F dX7_pile_18 4 rfl (q := 20) rfl ?_
      refine v_iconst F dX7_pile_20 (v := 1) (q := 21) rfl rfl ?_
      refine v_bipush F dX7_pile_21 (v := 20) (q := 23) rfl rfl ?_
      refine v_callS F ml_X7_64 sm_X7_within in_X7 co_X7_within sd_X7_within (c_X7_within k1 1 20) ⟨Nat.zero_le _, Nat.zero_le _⟩ (Nat.le_of_ble_eq_true rfl) (Nat.le_of_ble_eq_true rfl) rfl [] rfl rfl rfl (rest := []) rfl (Nat.le_of_ble_eq_true rfl) dX7_pile_23 (q := 26) rfl (fun r w hr => ?_)
      obtain ⟨rfl, rfl⟩ := hr
      refine v_ws (ws' := [(z, .inr (7, [.ref g, .ref h, .ref o, .ref ca, .ref m0, .ref v0, .ref t, .int sp])), (g, .inr (2, [.ref ga, .ref gb, .ref gc, .int (nI n), .int sc])), (ga, .inl (cI, 6, .inl th)), (gb, .inl (cI, 6, .inl sd)), (gc, .inl (cI, 6, .inl tp)), (h, .inr (5, [.ref ha, .ref hb, .ref hc, .ref hd, .int (nI M), .int (nI N)])), (ha, .inl (cI, 12, .inl px)), (hb, .inl (cI, 12, .inl py)), (hc, .inl (cI, 12, .inl (fun i => nI (pl i)))), (hd, .inl (cI, 12, .inl pk)), (o, .inr (4, [.ref oa, .ref ob, .ref oc, .ref od])), (oa, .inl (cI, 3, .inl (fun i => nI (ls i)))), (ob, .inl (cJ, 3, .inr (.inl (fun i => zL (fsum ls lv i))))), (oc, .inl (cJ, 3, .inr (.inl (fun i => zL (fsum2 ls lv lx i))))), (od, .inl (cJ, 3, .inr (.inl (fun i => zL (fsum2 ls lv ly i))))), (ca, .inr (0, [.ref h, .long (zL w1), .long (zL w2), .long (zL w3), .long (zL w4), .long (zL w5), .long (zL w6), .long (zL de), .long (zL cw), .long (zL cp), .long (zL cq)])), (m0, .inr (3, [.ref ma, .ref mb, .ref mc])), (ma, .inl (cI, 12, .inl pu)), (mb, .inl (cI, 12, .inl be)), (mc, .inl (cI, 12, .inl nr)), (v0, .inr (1, [.int dp0, .int b0, .int lf0, .int mo0, .int us0])), (t, .inr (6, [.ref ta, .ref tb, .int (nI tn)])), (ta, .inl (cJ, 15, .inr (.inl ab))), (tb, .inl (cJ, 15, .inr (.inl bl)))]) rfl ?_
      refine v_st (st' := [.int (bI (inR k1 1 20))]) rfl ?_
      refine v_if_ne F dX7_pile_26 (tgt := 31) rfl (q := 29) rfl (fun c26 => ?_) (fun c26 => ?_)
      · skip
        rw [bI_nz] at c26
        refine v_aload_n F dX7_pile_31 (i := 0) rfl 0 rfl (q := 32) rfl ?_
        refine gt_X7_19 F dX7_pile_32 0 rfl rfl (q := 35) rfl ?_
        refine gt_X7_100 F dX7_pile_35 5 rfl rfl (q := 38) rfl ?_
        refine v_bipush F dX7_pile_38 (v := 12) (q := 40) rfl rfl ?_
        refine v_icmp_lt F dX7_pile_40 (tgt := 46) rfl (q := 43) rfl (fun c40 => ?_) (fun c40 => ?_)
        · skip
          rw [show (12 : Int32) = nI 12 from rfl, nI_ltI (by omega) (by omega)] at c40
          have c40 : ¬ N = 12 := by omega
          obtain ⟨kL, hkL1, hkL2, rfl⟩ := len_ex c15
          have hpk : pN (nI kL) = kL := pN_nI (by omega)
          refine v_aload_n F dX7_pile_46 (i := 0) rfl 0 rfl (q := 47) rfl ?_
          refine gt_X7_19 F dX7_pile_47 0 rfl rfl (q := 50) rfl ?_
          refine v_iload_n F dX7_pile_50 (i := 1) rfl 1 rfl (q := 51) rfl ?_
          refine v_iload_n F dX7_pile_51 (i := 2) rfl 2 rfl (q := 52) rfl ?_
          refine v_iload_n F dX7_pile_52 (i := 3) rfl 3 rfl (q := 53) rfl ?_
          refine v_iload F dX7_pile_53 4 rfl (q := 55) rfl ?_
          refine v_callVN F ml_X7_101 im_X5_add se_X5_add in_X5 co_X5_add sd_X5_add (c_X5_add h ha hb hc hd px py pl pk N M x1 y1 kL k1 hM4 (by omega)) ⟨Nat.zero_le _, Nat.zero_le _⟩ (Nat.le_of_ble_eq_true rfl) (Nat.le_of_ble_eq_true rfl) 5 (As := [.int x1, .int y1, .int (nI kL), .int k1]) rfl rfl rfl rfl rfl [5, 6, 7, 8, 9] rfl rfl rfl (rest := []) rfl (Nat.le_of_ble_eq_true rfl) dX7_pile_55 (q := 58) rfl (fun r w hr => ?_)
          obtain ⟨rfl, rfl⟩ := hr
          refine v_ws (ws' := [(z, .inr (7, [.ref g, .ref h, .ref o, .ref ca, .ref m0, .ref v0, .ref t, .int sp])), (g, .inr (2, [.ref ga, .ref gb, .ref gc, .int (nI n), .int sc])), (ga, .inl (cI, 6, .inl th)), (gb, .inl (cI, 6, .inl sd)), (gc, .inl (cI, 6, .inl tp)), (h, .inr (5, [.ref ha, .ref hb, .ref hc, .ref hd, .int (nI (mset M N true)), .int (nI (N + 1))])), (ha, .inl (cI, 12, .inl (upd px N x1))), (hb, .inl (cI, 12, .inl (upd py N y1))), (hc, .inl (cI, 12, .inl (fun i => nI (updN pl N kL i)))), (hd, .inl (cI, 12, .inl (upd pk N k1))), (o, .inr (4, [.ref oa, .ref ob, .ref oc, .ref od])), (oa, .inl (cI, 3, .inl (fun i => nI (ls i)))), (ob, .inl (cJ, 3, .inr (.inl (fun i => zL (fsum ls lv i))))), (oc, .inl (cJ, 3, .inr (.inl (fun i => zL (fsum2 ls lv lx i))))), (od, .inl (cJ, 3, .inr (.inl (fun i => zL (fsum2 ls lv ly i))))), (ca, .inr (0, [.ref h, .long (zL w1), .long (zL w2), .long (zL w3), .long (zL w4), .long (zL w5), .long (zL w6), .long (zL de), .long (zL cw), .long (zL cp), .long (zL cq)])), (m0, .inr (3, [.ref ma, .ref mb, .ref mc])), (ma, .inl (cI, 12, .inl pu)), (mb, .inl (cI, 12, .inl be)), (mc, .inl (cI, 12, .inl nr)), (v0, .inr (1, [.int dp0, .int b0, .int lf0, .int mo0, .int us0])), (t, .inr (6, [.ref ta, .ref tb, .int (nI tn)])), (ta, .inl (cJ, 15, .inr (.inl ab))), (tb, .inl (cJ, 15, .inr (.inl bl)))]) ((wset_wgo (nodup_of rfl) rfl).trans rfl) ?_
          refine v_st (st' := [.int (nI N)]) rfl ?_
          exact hE rfl dX7_pile_58 (Nat.zero_le _) (Nat.zero_le _) ⟨(by have hf : fPile x1 y1 (nI kL) k1 (th, sd, tp, n, sc, sp, px, py, pl, pk, N, M, ls, lv, lx, ly, ab, bl, tn) = (nI N, (th, sd, tp, n, sc, sp, upd px N x1, upd py N y1, updN pl N kL, upd pk N k1, N + 1, mset M N true, ls, lv, lx, ly, ab, bl, tn)) := (by simp [fPile, c5, c15, c26, c40, hpk]); exact ⟨(w1, w2, w3, w4, w5, w6, de, cw, cp, cq, pu, be, nr, dp0, b0, lf0, mo0, us0), by rw [hf], by rw [hf]; rfl⟩), Nat.le_of_ble_eq_true rfl⟩
        · skip
          rw [show (12 : Int32) = nI 12 from rfl, nI_ltI (by omega) (by omega)] at c40
          have c40 : N = 12 := by omega
          refine v_bipush F dX7_pile_43 (v := (-3)) (q := 45) rfl rfl ?_
          exact hE rfl dX7_pile_45 (Nat.zero_le _) (Nat.zero_le _) ⟨(by have hf : fPile x1 y1 L1 k1 (th, sd, tp, n, sc, sp, px, py, pl, pk, N, M, ls, lv, lx, ly, ab, bl, tn) = (-3, (th, sd, tp, n, sc, sp, px, py, pl, pk, N, M, ls, lv, lx, ly, ab, bl, tn)) := (by simp [fPile, c5, c15, c26, c40]); exact ⟨(w1, w2, w3, w4, w5, w6, de, cw, cp, cq, pu, be, nr, dp0, b0, lf0, mo0, us0), by rw [hf], by rw [hf]; rfl⟩), Nat.le_of_ble_eq_true rfl⟩
      · skip
        rw [bI_z] at c26
        refine v_iconst F dX7_pile_29 (v := (-1)) (q := 30) rfl rfl ?_
        exact hE rfl dX7_pile_30 (Nat.zero_le _) (Nat.zero_le _) ⟨(by have hf : fPile x1 y1 L1 k1 (th, sd, tp, n, sc, sp, px, py, pl, pk, N, M, ls, lv, lx, ly, ab, bl, tn) = (-1, (th, sd, tp, n, sc, sp, px, py, pl, pk, N, M, ls, lv, lx, ly, ab, bl, tn)) := (by simp [fPile, c5, c15, c26]); exact ⟨(w1, w2, w3, w4, w5, w6, de, cw, cp, cq, pu, be, nr, dp0, b0, lf0, mo0, us0), by rw [hf], by rw [hf]; rfl⟩), Nat.le_of_ble_eq_true rfl⟩

set_option maxHeartbeats 4000000 in
set_option maxRecDepth 100000 in
theorem c_X7_shift (z g ga gb gc h ha hb hc hd o oa ob oc od ca m0 ma mb mc v0 t ta tb : Nat) (th : Nat → Int32) (sd : Nat → Int32) (tp : Nat → Int32) (n : Nat) (sc : Int32) (sp : Int32) (px : Nat → Int32) (py : Nat → Int32) (pl : Nat → Nat) (pk : Nat → Int32) (N : Nat) (M : Nat) (ls : Nat → Nat) (lv : Nat → Int32) (lx : Nat → Int32) (ly : Nat → Int32) (ab : Nat → Int64) (bl : Nat → Int64) (tn : Nat) (w1 : Int) (w2 : Int) (w3 : Int) (w4 : Int) (w5 : Int) (w6 : Int) (de : Int) (cw : Int) (cp : Int) (cq : Int) (pu : Nat → Int32) (be : Nat → Int32) (nr : Nat → Int32) (dp0 : Int32) (b0 : Int32) (lf0 : Int32) (mo0 : Int32) (us0 : Int32) (p0 x1 y1 : Int32) (VI : INV (th, sd, tp, n, sc, sp, px, py, pl, pk, N, M, ls, lv, lx, ly, ab, bl, tn)) : Ct l D (TY cI cJ cZ) yX7_shift cX7_shift 4 (some .int) 2 43 0 0 [.ref z, .int p0, .int x1, .int y1] [(z, .inr (7, [.ref g, .ref h, .ref o, .ref ca, .ref m0, .ref v0, .ref t, .int sp])), (g, .inr (2, [.ref ga, .ref gb, .ref gc, .int (nI n), .int sc])), (ga, .inl (cI, 6, .inl th)), (gb, .inl (cI, 6, .inl sd)), (gc, .inl (cI, 6, .inl tp)), (h, .inr (5, [.ref ha, .ref hb, .ref hc, .ref hd, .int (nI M), .int (nI N)])), (ha, .inl (cI, 12, .inl px)), (hb, .inl (cI, 12, .inl py)), (hc, .inl (cI, 12, .inl (fun i => nI (pl i)))), (hd, .inl (cI, 12, .inl pk)), (o, .inr (4, [.ref oa, .ref ob, .ref oc, .ref od])), (oa, .inl (cI, 3, .inl (fun i => nI (ls i)))), (ob, .inl (cJ, 3, .inr (.inl (fun i => zL (fsum ls lv i))))), (oc, .inl (cJ, 3, .inr (.inl (fun i => zL (fsum2 ls lv lx i))))), (od, .inl (cJ, 3, .inr (.inl (fun i => zL (fsum2 ls lv ly i))))), (ca, .inr (0, [.ref h, .long (zL w1), .long (zL w2), .long (zL w3), .long (zL w4), .long (zL w5), .long (zL w6), .long (zL de), .long (zL cw), .long (zL cp), .long (zL cq)])), (m0, .inr (3, [.ref ma, .ref mb, .ref mc])), (ma, .inl (cI, 12, .inl pu)), (mb, .inl (cI, 12, .inl be)), (mc, .inl (cI, 12, .inl nr)), (v0, .inr (1, [.int dp0, .int b0, .int lf0, .int mo0, .int us0])), (t, .inr (6, [.ref ta, .ref tb, .int (nI tn)])), (ta, .inl (cJ, 15, .inr (.inl ab))), (tb, .inl (cJ, 15, .inr (.inl bl)))] (fun r w => ∃ X : SXy, r = some (.int (fShift p0 x1 y1 (th, sd, tp, n, sc, sp, px, py, pl, pk, N, M, ls, lv, lx, ly, ab, bl, tn)).1) ∧ w = WC cI cJ z g ga gb gc h ha hb hc hd o oa ob oc od ca m0 ma mb mc v0 t ta tb (fShift p0 x1 y1 (th, sd, tp, n, sc, sp, px, py, pl, pk, N, M, ls, lv, lx, ly, ab, bl, tn)).2 X) := by
  refine Ct.ofI (ty := .int) (by decide) (Nat.le_of_ble_eq_true rfl) ?_
  intro p e s m args below meth c A R Q F hnm hcs0 hE
  refine v_lv (lv' := [(0, .ref z), (1, .int p0), (2, .int x1), (3, .int y1)]) [0, 1, 2, 3] rfl ?_
  obtain ⟨G, hsp, P, hM, hls, hlv, hlx, hly, htn⟩ := id VI
  have hn6 := G.1
  have hN12 := P.1
  have hM4 : M < 4096 := Nat.lt_of_lt_of_le hM (Nat.pow_le_pow_right (by omega) hN12)
  refine v_aload_n F dX7_shift_0 (i := 0) rfl 0 rfl (q := 1) rfl ?_
  refine gt_X7_19 F dX7_shift_1 0 rfl rfl (q := 4) rfl ?_
  refine v_iload_n F dX7_shift_4 (i := 1) rfl 1 rfl (q := 5) rfl ?_
  refine v_callVN F ml_X7_104 im_X5_has se_X5_has in_X5 co_X5_has sd_X5_has (c_X5_has h ha hb hc hd px py pl pk N M p0 (by omega)) ⟨Nat.zero_le _, Nat.zero_le _⟩ (Nat.le_of_ble_eq_true rfl) (Nat.le_of_ble_eq_true rfl) 5 (As := [.int p0]) rfl rfl rfl rfl rfl [5, 6, 7, 8, 9] rfl rfl rfl (rest := []) rfl (Nat.le_of_ble_eq_true rfl) dX7_shift_5 (q := 8) rfl (fun r w hr => ?_)
  obtain ⟨rfl, rfl⟩ := hr
  refine v_ws (ws' := [(z, .inr (7, [.ref g, .ref h, .ref o, .ref ca, .ref m0, .ref v0, .ref t, .int sp])), (g, .inr (2, [.ref ga, .ref gb, .ref gc, .int (nI n), .int sc])), (ga, .inl (cI, 6, .inl th)), (gb, .inl (cI, 6, .inl sd)), (gc, .inl (cI, 6, .inl tp)), (h, .inr (5, [.ref ha, .ref hb, .ref hc, .ref hd, .int (nI M), .int (nI N)])), (ha, .inl (cI, 12, .inl px)), (hb, .inl (cI, 12, .inl py)), (hc, .inl (cI, 12, .inl (fun i => nI (pl i)))), (hd, .inl (cI, 12, .inl pk)), (o, .inr (4, [.ref oa, .ref ob, .ref oc, .ref od])), (oa, .inl (cI, 3, .inl (fun i => nI (ls i)))), (ob, .inl (cJ, 3, .inr (.inl (fun i => zL (fsum ls lv i))))), (oc, .inl (cJ, 3, .inr (.inl (fun i => zL (fsum2 ls lv lx i))))), (od, .inl (cJ, 3, .inr (.inl (fun i => zL (fsum2 ls lv ly i))))), (ca, .inr (0, [.ref h, .long (zL w1), .long (zL w2), .long (zL w3), .long (zL w4), .long (zL w5), .long (zL w6), .long (zL de), .long (zL cw), .long (zL cp), .long (zL cq)])), (m0, .inr (3, [.ref ma, .ref mb, .ref mc])), (ma, .inl (cI, 12, .inl pu)), (mb, .inl (cI, 12, .inl be)), (mc, .inl (cI, 12, .inl nr)), (v0, .inr (1, [.int dp0, .int b0, .int lf0, .int mo0, .int us0])), (t, .inr (6, [.ref ta, .ref tb, .int (nI tn)])), (ta, .inl (cJ, 15, .inr (.inl ab))), (tb, .inl (cJ, 15, .inr (.inl bl)))]) ((wset_wgo (nodup_of rfl) rfl).trans rfl) ?_
  refine v_st (st' := [.int (bI (hasB p0 N))]) rfl ?_
  refine v_if_eq F dX7_shift_8 (tgt := 19) rfl (q := 11) rfl (fun c8 => ?_) (fun c8 => ?_)
  · skip
    rw [bI_z] at c8
    refine v_iconst F dX7_shift_19 (v := (-1)) (q := 20) rfl rfl ?_
    exact hE rfl dX7_shift_20 (Nat.zero_le _) (Nat.zero_le _) ⟨(by have hf : fShift p0 x1 y1 (th, sd, tp, n, sc, sp, px, py, pl, pk, N, M, ls, lv, lx, ly, ab, bl, tn) = (-1, (th, sd, tp, n, sc, sp, px, py, pl, pk, N, M, ls, lv, lx, ly, ab, bl, tn)) := (by simp [fShift, c8]); exact ⟨(w1, w2, w3, w4, w5, w6, de, cw, cp, cq, pu, be, nr, dp0, b0, lf0, mo0, us0), by rw [hf], by rw [hf]; rfl⟩), Nat.le_of_ble_eq_true rfl⟩
  · skip
    rw [bI_nz] at c8
    obtain ⟨k, hk, rfl⟩ := hasB_ex c8
    have hpk := pN_nI (k := k) (by omega)
    refine v_iload_n F dX7_shift_11 (i := 2) rfl 2 rfl (q := 12) rfl ?_
    refine v_iload_n F dX7_shift_12 (i := 3) rfl 3 rfl (q := 13) rfl ?_
    refine v_callS F ml_X7_96 sm_X7_isPlace in_X7 co_X7_isPlace sd_X7_isPlace (c_X7_isPlace x1 y1) ⟨Nat.zero_le _, Nat.zero_le _⟩ (Nat.le_of_ble_eq_true rfl) (Nat.le_of_ble_eq_true rfl) rfl [] rfl rfl rfl (rest := []) rfl (Nat.le_of_ble_eq_true rfl) dX7_shift_13 (q := 16) rfl (fun r w hr => ?_)
    obtain ⟨rfl, rfl⟩ := hr
    refine v_ws (ws' := [(z, .inr (7, [.ref g, .ref h, .ref o, .ref ca, .ref m0, .ref v0, .ref t, .int sp])), (g, .inr (2, [.ref ga, .ref gb, .ref gc, .int (nI n), .int sc])), (ga, .inl (cI, 6, .inl th)), (gb, .inl (cI, 6, .inl sd)), (gc, .inl (cI, 6, .inl tp)), (h, .inr (5, [.ref ha, .ref hb, .ref hc, .ref hd, .int (nI M), .int (nI N)])), (ha, .inl (cI, 12, .inl px)), (hb, .inl (cI, 12, .inl py)), (hc, .inl (cI, 12, .inl (fun i => nI (pl i)))), (hd, .inl (cI, 12, .inl pk)), (o, .inr (4, [.ref oa, .ref ob, .ref oc, .ref od])), (oa, .inl (cI, 3, .inl (fun i => nI (ls i)))), (ob, .inl (cJ, 3, .inr (.inl (fun i => zL (fsum ls lv i))))), (oc, .inl (cJ, 3, .inr (.inl (fun i => zL (fsum2 ls lv lx i))))), (od, .inl (cJ, 3, .inr (.inl (fun i => zL (fsum2 ls lv ly i))))), (ca, .inr (0, [.ref h, .long (zL w1), .long (zL w2), .long (zL w3), .long (zL w4), .long (zL w5), .long (zL w6), .long (zL de), .long (zL cw), .long (zL cp), .long (zL cq)])), (m0, .inr (3, [.ref ma, .ref mb, .ref mc])), (ma, .inl (cI, 12, .inl pu)), (mb, .inl (cI, 12, .inl be)), (mc, .inl (cI, 12, .inl nr)), (v0, .inr (1, [.int dp0, .int b0, .int lf0, .int mo0, .int us0])), (t, .inr (6, [.ref ta, .ref tb, .int (nI tn)])), (ta, .inl (cJ, 15, .inr (.inl ab))), (tb, .inl (cJ, 15, .inr (.inl bl)))]) rfl ?_
    refine v_st (st' := [.int (bI (inR x1 (-20) 20 && inR y1 (-20) 20))]) rfl ?_
    refine v_if_ne F dX7_shift_16 (tgt := 21) rfl (q := 19) rfl (fun c16 => ?_) (fun c16 => ?_)
    · skip
      rw [bI_nz] at c16
      refine v_aload_n F dX7_shift_21 (i := 0) rfl 0 rfl (q := 22) rfl ?_
      refine gt_X7_19 F dX7_shift_22 0 rfl rfl (q := 25) rfl ?_
      refine v_iload_n F dX7_shift_25 (i := 1) rfl 1 rfl (q := 26) rfl ?_
      refine v_iload_n F dX7_shift_26 (i := 2) rfl 2 rfl (q := 27) rfl ?_
      refine v_iload_n F dX7_shift_27 (i := 3) rfl 3 rfl (q := 28) rfl ?_
      refine v_callVN F ml_X7_105 im_X5_place se_X5_place in_X5 co_X5_place sd_X5_place (c_X5_place h ha hb hc hd px py pl pk N M k x1 y1 (by omega)) ⟨Nat.zero_le _, Nat.zero_le _⟩ (Nat.le_of_ble_eq_true rfl) (Nat.le_of_ble_eq_true rfl) 5 (As := [.int (nI k), .int x1, .int y1]) rfl rfl rfl rfl rfl [5, 6, 7, 8, 9] rfl rfl rfl (rest := []) rfl (Nat.le_of_ble_eq_true rfl) dX7_shift_28 (q := 31) rfl (fun r w hr => ?_)
      obtain ⟨rfl, rfl⟩ := hr
      refine v_ws (ws' := [(z, .inr (7, [.ref g, .ref h, .ref o, .ref ca, .ref m0, .ref v0, .ref t, .int sp])), (g, .inr (2, [.ref ga, .ref gb, .ref gc, .int (nI n), .int sc])), (ga, .inl (cI, 6, .inl th)), (gb, .inl (cI, 6, .inl sd)), (gc, .inl (cI, 6, .inl tp)), (h, .inr (5, [.ref ha, .ref hb, .ref hc, .ref hd, .int (nI M), .int (nI N)])), (ha, .inl (cI, 12, .inl (upd px k x1))), (hb, .inl (cI, 12, .inl (upd py k y1))), (hc, .inl (cI, 12, .inl (fun i => nI (pl i)))), (hd, .inl (cI, 12, .inl pk)), (o, .inr (4, [.ref oa, .ref ob, .ref oc, .ref od])), (oa, .inl (cI, 3, .inl (fun i => nI (ls i)))), (ob, .inl (cJ, 3, .inr (.inl (fun i => zL (fsum ls lv i))))), (oc, .inl (cJ, 3, .inr (.inl (fun i => zL (fsum2 ls lv lx i))))), (od, .inl (cJ, 3, .inr (.inl (fun i => zL (fsum2 ls lv ly i))))), (ca, .inr (0, [.ref h, .long (zL w1), .long (zL w2), .long (zL w3), .long (zL w4), .long (zL w5), .long (zL w6), .long (zL de), .long (zL cw), .long (zL cp), .long (zL cq)])), (m0, .inr (3, [.ref ma, .ref mb, .ref mc])), (ma, .inl (cI, 12, .inl pu)), (mb, .inl (cI, 12, .inl be)), (mc, .inl (cI, 12, .inl nr)), (v0, .inr (1, [.int dp0, .int b0, .int lf0, .int mo0, .int us0])), (t, .inr (6, [.ref ta, .ref tb, .int (nI tn)])), (ta, .inl (cJ, 15, .inr (.inl ab))), (tb, .inl (cJ, 15, .inr (.inl bl)))]) ((wset_wgo (nodup_of rfl) rfl).trans rfl) ?_
      refine v_st (st' := []) rfl ?_
      refine v_iconst F dX7_shift_31 (v := 0) (q := 32) rfl rfl ?_
      exact hE rfl dX7_shift_32 (Nat.zero_le _) (Nat.zero_le _) ⟨(by have hf : fShift (nI k) x1 y1 (th, sd, tp, n, sc, sp, px, py, pl, pk, N, M, ls, lv, lx, ly, ab, bl, tn) = (0, (th, sd, tp, n, sc, sp, upd px k x1, upd py k y1, pl, pk, N, M, ls, lv, lx, ly, ab, bl, tn)) := (by simp [fShift, c8, c16, hpk]); exact ⟨(w1, w2, w3, w4, w5, w6, de, cw, cp, cq, pu, be, nr, dp0, b0, lf0, mo0, us0), by rw [hf], by rw [hf]; rfl⟩), Nat.le_of_ble_eq_true rfl⟩
    · skip
      rw [bI_z] at c16
      refine v_iconst F dX7_shift_19 (v := (-1)) (q := 20) rfl rfl ?_
      exact hE rfl dX7_shift_20 (Nat.zero_le _) (Nat.zero_le _) ⟨(by have hf : fShift (nI k) x1 y1 (th, sd, tp, n, sc, sp, px, py, pl, pk, N, M, ls, lv, lx, ly, ab, bl, tn) = (-1, (th, sd, tp, n, sc, sp, px, py, pl, pk, N, M, ls, lv, lx, ly, ab, bl, tn)) := (by simp [fShift, c8, c16, hpk]); exact ⟨(w1, w2, w3, w4, w5, w6, de, cw, cp, cq, pu, be, nr, dp0, b0, lf0, mo0, us0), by rw [hf], by rw [hf]; rfl⟩), Nat.le_of_ble_eq_true rfl⟩

set_option maxHeartbeats 4000000 in
set_option maxRecDepth 100000 in
theorem c_X7_whole (z g ga gb gc h ha hb hc hd o oa ob oc od ca m0 ma mb mc v0 t ta tb : Nat) (th : Nat → Int32) (sd : Nat → Int32) (tp : Nat → Int32) (n : Nat) (sc : Int32) (sp : Int32) (px : Nat → Int32) (py : Nat → Int32) (pl : Nat → Nat) (pk : Nat → Int32) (N : Nat) (M : Nat) (ls : Nat → Nat) (lv : Nat → Int32) (lx : Nat → Int32) (ly : Nat → Int32) (ab : Nat → Int64) (bl : Nat → Int64) (tn : Nat) (w1 : Int) (w2 : Int) (w3 : Int) (w4 : Int) (w5 : Int) (w6 : Int) (de : Int) (cw : Int) (cp : Int) (cq : Int) (pu : Nat → Int32) (be : Nat → Int32) (nr : Nat → Int32) (dp0 : Int32) (b0 : Int32) (lf0 : Int32) (mo0 : Int32) (us0 : Int32) (p0 : Int32) (vb : Bool) (VI : INV (th, sd, tp, n, sc, sp, px, py, pl, pk, N, M, ls, lv, lx, ly, ab, bl, tn)) : Ct l D (TY cI cJ cZ) yX7_whole cX7_whole 4 (some .int) 1 22 0 0 [.ref z, .int p0, .int (bI vb)] [(z, .inr (7, [.ref g, .ref h, .ref o, .ref ca, .ref m0, .ref v0, .ref t, .int sp])), (g, .inr (2, [.ref ga, .ref gb, .ref gc, .int (nI n), .int sc])), (ga, .inl (cI, 6, .inl th)), (gb, .inl (cI, 6, .inl sd)), (gc, .inl (cI, 6, .inl tp)), (h, .inr (5, [.ref ha, .ref hb, .ref hc, .ref hd, .int (nI M), .int (nI N)])), (ha, .inl (cI, 12, .inl px)), (hb, .inl (cI, 12, .inl py)), (hc, .inl (cI, 12, .inl (fun i => nI (pl i)))), (hd, .inl (cI, 12, .inl pk)), (o, .inr (4, [.ref oa, .ref ob, .ref oc, .ref od])), (oa, .inl (cI, 3, .inl (fun i => nI (ls i)))), (ob, .inl (cJ, 3, .inr (.inl (fun i => zL (fsum ls lv i))))), (oc, .inl (cJ, 3, .inr (.inl (fun i => zL (fsum2 ls lv lx i))))), (od, .inl (cJ, 3, .inr (.inl (fun i => zL (fsum2 ls lv ly i))))), (ca, .inr (0, [.ref h, .long (zL w1), .long (zL w2), .long (zL w3), .long (zL w4), .long (zL w5), .long (zL w6), .long (zL de), .long (zL cw), .long (zL cp), .long (zL cq)])), (m0, .inr (3, [.ref ma, .ref mb, .ref mc])), (ma, .inl (cI, 12, .inl pu)), (mb, .inl (cI, 12, .inl be)), (mc, .inl (cI, 12, .inl nr)), (v0, .inr (1, [.int dp0, .int b0, .int lf0, .int mo0, .int us0])), (t, .inr (6, [.ref ta, .ref tb, .int (nI tn)])), (ta, .inl (cJ, 15, .inr (.inl ab))), (tb, .inl (cJ, 15, .inr (.inl bl)))] (fun r w => ∃ X : SXy, r = some (.int (fWhole p0 vb (th, sd, tp, n, sc, sp, px, py, pl, pk, N, M, ls, lv, lx, ly, ab, bl, tn)).1) ∧ w = WC cI cJ z g ga gb gc h ha hb hc hd o oa ob oc od ca m0 ma mb mc v0 t ta tb (fWhole p0 vb (th, sd, tp, n, sc, sp, px, py, pl, pk, N, M, ls, lv, lx, ly, ab, bl, tn)).2 X) := by
  refine Ct.ofI (ty := .int) (by decide) (Nat.le_of_ble_eq_true rfl) ?_
  intro p e s m args below meth c A R Q F hnm hcs0 hE
  refine v_lv (lv' := [(0, .ref z), (1, .int p0), (2, .int (bI vb))]) [0, 1, 2] rfl ?_
  obtain ⟨G, hsp, P, hM, hls, hlv, hlx, hly, htn⟩ := id VI
  have hn6 := G.1
  have hN12 := P.1
  have hM4 : M < 4096 := Nat.lt_of_lt_of_le hM (Nat.pow_le_pow_right (by omega) hN12)
  refine v_aload_n F dX7_whole_0 (i := 0) rfl 0 rfl (q := 1) rfl ?_
  refine gt_X7_19 F dX7_whole_1 0 rfl rfl (q := 4) rfl ?_
  refine v_iload_n F dX7_whole_4 (i := 1) rfl 1 rfl (q := 5) rfl ?_
  refine v_callVN F ml_X7_104 im_X5_has se_X5_has in_X5 co_X5_has sd_X5_has (c_X5_has h ha hb hc hd px py pl pk N M p0 (by omega)) ⟨Nat.zero_le _, Nat.zero_le _⟩ (Nat.le_of_ble_eq_true rfl) (Nat.le_of_ble_eq_true rfl) 5 (As := [.int p0]) rfl rfl rfl rfl rfl [5, 6, 7, 8, 9] rfl rfl rfl (rest := []) rfl (Nat.le_of_ble_eq_true rfl) dX7_whole_5 (q := 8) rfl (fun r w hr => ?_)
  obtain ⟨rfl, rfl⟩ := hr
  refine v_ws (ws' := [(z, .inr (7, [.ref g, .ref h, .ref o, .ref ca, .ref m0, .ref v0, .ref t, .int sp])), (g, .inr (2, [.ref ga, .ref gb, .ref gc, .int (nI n), .int sc])), (ga, .inl (cI, 6, .inl th)), (gb, .inl (cI, 6, .inl sd)), (gc, .inl (cI, 6, .inl tp)), (h, .inr (5, [.ref ha, .ref hb, .ref hc, .ref hd, .int (nI M), .int (nI N)])), (ha, .inl (cI, 12, .inl px)), (hb, .inl (cI, 12, .inl py)), (hc, .inl (cI, 12, .inl (fun i => nI (pl i)))), (hd, .inl (cI, 12, .inl pk)), (o, .inr (4, [.ref oa, .ref ob, .ref oc, .ref od])), (oa, .inl (cI, 3, .inl (fun i => nI (ls i)))), (ob, .inl (cJ, 3, .inr (.inl (fun i => zL (fsum ls lv i))))), (oc, .inl (cJ, 3, .inr (.inl (fun i => zL (fsum2 ls lv lx i))))), (od, .inl (cJ, 3, .inr (.inl (fun i => zL (fsum2 ls lv ly i))))), (ca, .inr (0, [.ref h, .long (zL w1), .long (zL w2), .long (zL w3), .long (zL w4), .long (zL w5), .long (zL w6), .long (zL de), .long (zL cw), .long (zL cp), .long (zL cq)])), (m0, .inr (3, [.ref ma, .ref mb, .ref mc])), (ma, .inl (cI, 12, .inl pu)), (mb, .inl (cI, 12, .inl be)), (mc, .inl (cI, 12, .inl nr)), (v0, .inr (1, [.int dp0, .int b0, .int lf0, .int mo0, .int us0])), (t, .inr (6, [.ref ta, .ref tb, .int (nI tn)])), (ta, .inl (cJ, 15, .inr (.inl ab))), (tb, .inl (cJ, 15, .inr (.inl bl)))]) ((wset_wgo (nodup_of rfl) rfl).trans rfl) ?_
  refine v_st (st' := [.int (bI (hasB p0 N))]) rfl ?_
  refine v_if_ne F dX7_whole_8 (tgt := 13) rfl (q := 11) rfl (fun c8 => ?_) (fun c8 => ?_)
  · skip
    rw [bI_nz] at c8
    obtain ⟨k, hk, rfl⟩ := hasB_ex c8
    have hpk := pN_nI (k := k) (by omega)
    refine v_aload_n F dX7_whole_13 (i := 0) rfl 0 rfl (q := 14) rfl ?_
    refine gt_X7_19 F dX7_whole_14 0 rfl rfl (q := 17) rfl ?_
    refine v_iload_n F dX7_whole_17 (i := 1) rfl 1 rfl (q := 18) rfl ?_
    refine v_callVN F ml_X7_109 im_X5_isWhole se_X5_isWhole in_X5 co_X5_isWhole sd_X5_isWhole (c_X5_isWhole h ha hb hc hd px py pl pk N M k (by omega) (by omega)) ⟨Nat.zero_le _, Nat.zero_le _⟩ (Nat.le_of_ble_eq_true rfl) (Nat.le_of_ble_eq_true rfl) 5 (As := [.int (nI k)]) rfl rfl rfl rfl rfl [5, 6, 7, 8, 9] rfl rfl rfl (rest := []) rfl (Nat.le_of_ble_eq_true rfl) dX7_whole_18 (q := 21) rfl (fun r w hr => ?_)
    obtain ⟨rfl, rfl⟩ := hr
    refine v_ws (ws' := [(z, .inr (7, [.ref g, .ref h, .ref o, .ref ca, .ref m0, .ref v0, .ref t, .int sp])), (g, .inr (2, [.ref ga, .ref gb, .ref gc, .int (nI n), .int sc])), (ga, .inl (cI, 6, .inl th)), (gb, .inl (cI, 6, .inl sd)), (gc, .inl (cI, 6, .inl tp)), (h, .inr (5, [.ref ha, .ref hb, .ref hc, .ref hd, .int (nI M), .int (nI N)])), (ha, .inl (cI, 12, .inl px)), (hb, .inl (cI, 12, .inl py)), (hc, .inl (cI, 12, .inl (fun i => nI (pl i)))), (hd, .inl (cI, 12, .inl pk)), (o, .inr (4, [.ref oa, .ref ob, .ref oc, .ref od])), (oa, .inl (cI, 3, .inl (fun i => nI (ls i)))), (ob, .inl (cJ, 3, .inr (.inl (fun i => zL (fsum ls lv i))))), (oc, .inl (cJ, 3, .inr (.inl (fun i => zL (fsum2 ls lv lx i))))), (od, .inl (cJ, 3, .inr (.inl (fun i => zL (fsum2 ls lv ly i))))), (ca, .inr (0, [.ref h, .long (zL w1), .long (zL w2), .long (zL w3), .long (zL w4), .long (zL w5), .long (zL w6), .long (zL de), .long (zL cw), .long (zL cp), .long (zL cq)])), (m0, .inr (3, [.ref ma, .ref mb, .ref mc])), (ma, .inl (cI, 12, .inl pu)), (mb, .inl (cI, 12, .inl be)), (mc, .inl (cI, 12, .inl nr)), (v0, .inr (1, [.int dp0, .int b0, .int lf0, .int mo0, .int us0])), (t, .inr (6, [.ref ta, .ref tb, .int (nI tn)])), (ta, .inl (cJ, 15, .inr (.inl ab))), (tb, .inl (cJ, 15, .inr (.inl bl)))]) ((wset_wgo (nodup_of rfl) rfl).trans rfl) ?_
    refine v_st (st' := [.int (bI (M.testBit k))]) rfl ?_
    refine v_if_eq F dX7_whole_21 (tgt := 28) rfl (q := 24) rfl (fun c21 => ?_) (fun c21 => ?_)
    · skip
      rw [bI_z] at c21
      refine v_iconst F dX7_whole_28 (v := 0) (q := 29) rfl rfl ?_
      refine v_istore_n F dX7_whole_29 (i := 3) (lv' := [(3, .int 0), (0, .ref z), (1, .int (nI k)), (2, .int (bI vb))]) rfl (Nat.le_of_ble_eq_true rfl) rfl (q := 30) rfl ?_
      refine v_aload_n F dX7_whole_30 (i := 0) rfl 1 rfl (q := 31) rfl ?_
      refine gt_X7_19 F dX7_whole_31 0 rfl rfl (q := 34) rfl ?_
      refine v_iload_n F dX7_whole_34 (i := 1) rfl 2 rfl (q := 35) rfl ?_
      refine v_iload_n F dX7_whole_35 (i := 2) rfl 3 rfl (q := 36) rfl ?_
      refine v_callVN F ml_X7_112 im_X5_setWhole se_X5_setWhole in_X5 co_X5_setWhole sd_X5_setWhole (c_X5_setWhole h ha hb hc hd px py pl pk N M k vb (by omega) (by omega)) ⟨Nat.zero_le _, Nat.zero_le _⟩ (Nat.le_of_ble_eq_true rfl) (Nat.le_of_ble_eq_true rfl) 5 (As := [.int (nI k), .int (bI vb)]) rfl rfl rfl rfl rfl [5, 6, 7, 8, 9] rfl rfl rfl (rest := []) rfl (Nat.le_of_ble_eq_true rfl) dX7_whole_36 (q := 39) rfl (fun r w hr => ?_)
      obtain ⟨rfl, rfl⟩ := hr
      refine v_ws (ws' := [(z, .inr (7, [.ref g, .ref h, .ref o, .ref ca, .ref m0, .ref v0, .ref t, .int sp])), (g, .inr (2, [.ref ga, .ref gb, .ref gc, .int (nI n), .int sc])), (ga, .inl (cI, 6, .inl th)), (gb, .inl (cI, 6, .inl sd)), (gc, .inl (cI, 6, .inl tp)), (h, .inr (5, [.ref ha, .ref hb, .ref hc, .ref hd, .int (nI (mset M k vb)), .int (nI N)])), (ha, .inl (cI, 12, .inl px)), (hb, .inl (cI, 12, .inl py)), (hc, .inl (cI, 12, .inl (fun i => nI (pl i)))), (hd, .inl (cI, 12, .inl pk)), (o, .inr (4, [.ref oa, .ref ob, .ref oc, .ref od])), (oa, .inl (cI, 3, .inl (fun i => nI (ls i)))), (ob, .inl (cJ, 3, .inr (.inl (fun i => zL (fsum ls lv i))))), (oc, .inl (cJ, 3, .inr (.inl (fun i => zL (fsum2 ls lv lx i))))), (od, .inl (cJ, 3, .inr (.inl (fun i => zL (fsum2 ls lv ly i))))), (ca, .inr (0, [.ref h, .long (zL w1), .long (zL w2), .long (zL w3), .long (zL w4), .long (zL w5), .long (zL w6), .long (zL de), .long (zL cw), .long (zL cp), .long (zL cq)])), (m0, .inr (3, [.ref ma, .ref mb, .ref mc])), (ma, .inl (cI, 12, .inl pu)), (mb, .inl (cI, 12, .inl be)), (mc, .inl (cI, 12, .inl nr)), (v0, .inr (1, [.int dp0, .int b0, .int lf0, .int mo0, .int us0])), (t, .inr (6, [.ref ta, .ref tb, .int (nI tn)])), (ta, .inl (cJ, 15, .inr (.inl ab))), (tb, .inl (cJ, 15, .inr (.inl bl)))]) ((wset_wgo (nodup_of rfl) rfl).trans rfl) ?_
      refine v_st (st' := []) rfl ?_
      refine v_iload_n F dX7_whole_39 (i := 3) rfl 0 rfl (q := 40) rfl ?_
      exact hE rfl dX7_whole_40 (Nat.zero_le _) (Nat.zero_le _) ⟨(by have hf : fWhole (nI k) vb (th, sd, tp, n, sc, sp, px, py, pl, pk, N, M, ls, lv, lx, ly, ab, bl, tn) = (bI (M.testBit k), (th, sd, tp, n, sc, sp, px, py, pl, pk, N, mset M k vb, ls, lv, lx, ly, ab, bl, tn)) := (by simp [fWhole, c8, c21, hpk]); exact ⟨(w1, w2, w3, w4, w5, w6, de, cw, cp, cq, pu, be, nr, dp0, b0, lf0, mo0, us0), by rw [hf]; simp [bI, c21], by rw [hf]; rfl⟩), Nat.le_of_ble_eq_true rfl⟩
    · skip
      rw [bI_nz] at c21
      refine v_iconst F dX7_whole_24 (v := 1) (q := 25) rfl rfl ?_
      refine v_goto F dX7_whole_25 (tgt := 29) rfl ?_
      refine v_istore_n F dX7_whole_29 (i := 3) (lv' := [(3, .int 1), (0, .ref z), (1, .int (nI k)), (2, .int (bI vb))]) rfl (Nat.le_of_ble_eq_true rfl) rfl (q := 30) rfl ?_
      refine v_aload_n F dX7_whole_30 (i := 0) rfl 1 rfl (q := 31) rfl ?_
      refine gt_X7_19 F dX7_whole_31 0 rfl rfl (q := 34) rfl ?_
      refine v_iload_n F dX7_whole_34 (i := 1) rfl 2 rfl (q := 35) rfl ?_
      refine v_iload_n F dX7_whole_35 (i := 2) rfl 3 rfl (q := 36) rfl ?_
      refine v_callVN F ml_X7_112 im_X5_setWhole se_X5_setWhole in_X5 co_X5_setWhole sd_X5_setWhole (c_X5_setWhole h ha hb hc hd px py pl pk N M k vb (by omega) (by omega)) ⟨Nat.zero_le _, Nat.zero_le _⟩ (Nat.le_of_ble_eq_true rfl) (Nat.le_of_ble_eq_true rfl) 5 (As := [.int (nI k), .int (bI vb)]) rfl rfl rfl rfl rfl [5, 6, 7, 8, 9] rfl rfl rfl (rest := []) rfl (Nat.le_of_ble_eq_true rfl) dX7_whole_36 (q := 39) rfl (fun r w hr => ?_)
      obtain ⟨rfl, rfl⟩ := hr
      refine v_ws (ws' := [(z, .inr (7, [.ref g, .ref h, .ref o, .ref ca, .ref m0, .ref v0, .ref t, .int sp])), (g, .inr (2, [.ref ga, .ref gb, .ref gc, .int (nI n), .int sc])), (ga, .inl (cI, 6, .inl th)), (gb, .inl (cI, 6, .inl sd)), (gc, .inl (cI, 6, .inl tp)), (h, .inr (5, [.ref ha, .ref hb, .ref hc, .ref hd, .int (nI (mset M k vb)), .int (nI N)])), (ha, .inl (cI, 12, .inl px)), (hb, .inl (cI, 12, .inl py)), (hc, .inl (cI, 12, .inl (fun i => nI (pl i)))), (hd, .inl (cI, 12, .inl pk)), (o, .inr (4, [.ref oa, .ref ob, .ref oc, .ref od])), (oa, .inl (cI, 3, .inl (fun i => nI (ls i)))), (ob, .inl (cJ, 3, .inr (.inl (fun i => zL (fsum ls lv i))))), (oc, .inl (cJ, 3, .inr (.inl (fun i => zL (fsum2 ls lv lx i))))), (od, .inl (cJ, 3, .inr (.inl (fun i => zL (fsum2 ls lv ly i))))), (ca, .inr (0, [.ref h, .long (zL w1), .long (zL w2), .long (zL w3), .long (zL w4), .long (zL w5), .long (zL w6), .long (zL de), .long (zL cw), .long (zL cp), .long (zL cq)])), (m0, .inr (3, [.ref ma, .ref mb, .ref mc])), (ma, .inl (cI, 12, .inl pu)), (mb, .inl (cI, 12, .inl be)), (mc, .inl (cI, 12, .inl nr)), (v0, .inr (1, [.int dp0, .int b0, .int lf0, .int mo0, .int us0])), (t, .inr (6, [.ref ta, .ref tb, .int (nI tn)])), (ta, .inl (cJ, 15, .inr (.inl ab))), (tb, .inl (cJ, 15, .inr (.inl bl)))]) ((wset_wgo (nodup_of rfl) rfl).trans rfl) ?_
      refine v_st (st' := []) rfl ?_
      refine v_iload_n F dX7_whole_39 (i := 3) rfl 0 rfl (q := 40) rfl ?_
      exact hE rfl dX7_whole_40 (Nat.zero_le _) (Nat.zero_le _) ⟨(by have hf : fWhole (nI k) vb (th, sd, tp, n, sc, sp, px, py, pl, pk, N, M, ls, lv, lx, ly, ab, bl, tn) = (bI (M.testBit k), (th, sd, tp, n, sc, sp, px, py, pl, pk, N, mset M k vb, ls, lv, lx, ly, ab, bl, tn)) := (by simp [fWhole, c8, c21, hpk]); exact ⟨(w1, w2, w3, w4, w5, w6, de, cw, cp, cq, pu, be, nr, dp0, b0, lf0, mo0, us0), by rw [hf]; simp [bI, c21], by rw [hf]; rfl⟩), Nat.le_of_ble_eq_true rfl⟩
  · skip
    rw [bI_z] at c8
    refine v_iconst F dX7_whole_11 (v := (-1)) (q := 12) rfl rfl ?_
    exact hE rfl dX7_whole_12 (Nat.zero_le _) (Nat.zero_le _) ⟨(by have hf : fWhole p0 vb (th, sd, tp, n, sc, sp, px, py, pl, pk, N, M, ls, lv, lx, ly, ab, bl, tn) = (-1, (th, sd, tp, n, sc, sp, px, py, pl, pk, N, M, ls, lv, lx, ly, ab, bl, tn)) := (by simp [fWhole, c8]); exact ⟨(w1, w2, w3, w4, w5, w6, de, cw, cp, cq, pu, be, nr, dp0, b0, lf0, mo0, us0), by rw [hf], by rw [hf]; rfl⟩), Nat.le_of_ble_eq_true rfl⟩

set_option maxHeartbeats 4000000 in
set_option maxRecDepth 100000 in
theorem c_X7_about (z g ga gb gc h ha hb hc hd o oa ob oc od ca m0 ma mb mc v0 t ta tb : Nat) (th : Nat → Int32) (sd : Nat → Int32) (tp : Nat → Int32) (n : Nat) (sc : Int32) (sp : Int32) (px : Nat → Int32) (py : Nat → Int32) (pl : Nat → Nat) (pk : Nat → Int32) (N : Nat) (M : Nat) (ls : Nat → Nat) (lv : Nat → Int32) (lx : Nat → Int32) (ly : Nat → Int32) (ab : Nat → Int64) (bl : Nat → Int64) (tn : Nat) (w1 : Int) (w2 : Int) (w3 : Int) (w4 : Int) (w5 : Int) (w6 : Int) (de : Int) (cw : Int) (cp : Int) (cq : Int) (pu : Nat → Int32) (be : Nat → Int32) (nr : Nat → Int32) (dp0 : Int32) (b0 : Int32) (lf0 : Int32) (mo0 : Int32) (us0 : Int32) (p0 what : Int32) (VI : INV (th, sd, tp, n, sc, sp, px, py, pl, pk, N, M, ls, lv, lx, ly, ab, bl, tn)) : Ct l D (TY cI cJ cZ) yX7_about cX7_about 3 (some .int) 3 66 0 0 [.ref z, .int p0, .int what] [(z, .inr (7, [.ref g, .ref h, .ref o, .ref ca, .ref m0, .ref v0, .ref t, .int sp])), (g, .inr (2, [.ref ga, .ref gb, .ref gc, .int (nI n), .int sc])), (ga, .inl (cI, 6, .inl th)), (gb, .inl (cI, 6, .inl sd)), (gc, .inl (cI, 6, .inl tp)), (h, .inr (5, [.ref ha, .ref hb, .ref hc, .ref hd, .int (nI M), .int (nI N)])), (ha, .inl (cI, 12, .inl px)), (hb, .inl (cI, 12, .inl py)), (hc, .inl (cI, 12, .inl (fun i => nI (pl i)))), (hd, .inl (cI, 12, .inl pk)), (o, .inr (4, [.ref oa, .ref ob, .ref oc, .ref od])), (oa, .inl (cI, 3, .inl (fun i => nI (ls i)))), (ob, .inl (cJ, 3, .inr (.inl (fun i => zL (fsum ls lv i))))), (oc, .inl (cJ, 3, .inr (.inl (fun i => zL (fsum2 ls lv lx i))))), (od, .inl (cJ, 3, .inr (.inl (fun i => zL (fsum2 ls lv ly i))))), (ca, .inr (0, [.ref h, .long (zL w1), .long (zL w2), .long (zL w3), .long (zL w4), .long (zL w5), .long (zL w6), .long (zL de), .long (zL cw), .long (zL cp), .long (zL cq)])), (m0, .inr (3, [.ref ma, .ref mb, .ref mc])), (ma, .inl (cI, 12, .inl pu)), (mb, .inl (cI, 12, .inl be)), (mc, .inl (cI, 12, .inl nr)), (v0, .inr (1, [.int dp0, .int b0, .int lf0, .int mo0, .int us0])), (t, .inr (6, [.ref ta, .ref tb, .int (nI tn)])), (ta, .inl (cJ, 15, .inr (.inl ab))), (tb, .inl (cJ, 15, .inr (.inl bl)))] (fun r w => ∃ X : SXy, r = some (.int (fAbout p0 what (th, sd, tp, n, sc, sp, px, py, pl, pk, N, M, ls, lv, lx, ly, ab, bl, tn)).1) ∧ w = WC cI cJ z g ga gb gc h ha hb hc hd o oa ob oc od ca m0 ma mb mc v0 t ta tb (fAbout p0 what (th, sd, tp, n, sc, sp, px, py, pl, pk, N, M, ls, lv, lx, ly, ab, bl, tn)).2 X) := by
  refine Ct.ofI (ty := .int) (by decide) (Nat.le_of_ble_eq_true rfl) ?_
  intro p e s m args below meth c A R Q F hnm hcs0 hE
  refine v_lv (lv' := [(0, .ref z), (1, .int p0), (2, .int what)]) [0, 1, 2] rfl ?_
  obtain ⟨G, hsp, P, hM, hls, hlv, hlx, hly, htn⟩ := id VI
  have hn6 := G.1
  have hN12 := P.1
  have hM4 : M < 4096 := Nat.lt_of_lt_of_le hM (Nat.pow_le_pow_right (by omega) hN12)
  refine v_aload_n F dX7_about_0 (i := 0) rfl 0 rfl (q := 1) rfl ?_
  refine gt_X7_19 F dX7_about_1 0 rfl rfl (q := 4) rfl ?_
  refine v_iload_n F dX7_about_4 (i := 1) rfl 1 rfl (q := 5) rfl ?_
  refine v_callVN F ml_X7_104 im_X5_has se_X5_has in_X5 co_X5_has sd_X5_has (c_X5_has h ha hb hc hd px py pl pk N M p0 (by omega)) ⟨Nat.zero_le _, Nat.zero_le _⟩ (Nat.le_of_ble_eq_true rfl) (Nat.le_of_ble_eq_true rfl) 5 (As := [.int p0]) rfl rfl rfl rfl rfl [5, 6, 7, 8, 9] rfl rfl rfl (rest := []) rfl (Nat.le_of_ble_eq_true rfl) dX7_about_5 (q := 8) rfl (fun r w hr => ?_)
  obtain ⟨rfl, rfl⟩ := hr
  refine v_ws (ws' := [(z, .inr (7, [.ref g, .ref h, .ref o, .ref ca, .ref m0, .ref v0, .ref t, .int sp])), (g, .inr (2, [.ref ga, .ref gb, .ref gc, .int (nI n), .int sc])), (ga, .inl (cI, 6, .inl th)), (gb, .inl (cI, 6, .inl sd)), (gc, .inl (cI, 6, .inl tp)), (h, .inr (5, [.ref ha, .ref hb, .ref hc, .ref hd, .int (nI M), .int (nI N)])), (ha, .inl (cI, 12, .inl px)), (hb, .inl (cI, 12, .inl py)), (hc, .inl (cI, 12, .inl (fun i => nI (pl i)))), (hd, .inl (cI, 12, .inl pk)), (o, .inr (4, [.ref oa, .ref ob, .ref oc, .ref od])), (oa, .inl (cI, 3, .inl (fun i => nI (ls i)))), (ob, .inl (cJ, 3, .inr (.inl (fun i => zL (fsum ls lv i))))), (oc, .inl (cJ, 3, .inr (.inl (fun i => zL (fsum2 ls lv lx i))))), (od, .inl (cJ, 3, .inr (.inl (fun i => zL (fsum2 ls lv ly i))))), (ca, .inr (0, [.ref h, .long (zL w1), .long (zL w2), .long (zL w3), .long (zL w4), .long (zL w5), .long (zL w6), .long (zL de), .long (zL cw), .long (zL cp), .long (zL cq)])), (m0, .inr (3, [.ref ma, .ref mb, .ref mc])), (ma, .inl (cI, 12, .inl pu)), (mb, .inl (cI, 12, .inl be)), (mc, .inl (cI, 12, .inl nr)), (v0, .inr (1, [.int dp0, .int b0, .int lf0, .int mo0, .int us0])), (t, .inr (6, [.ref ta, .ref tb, .int (nI tn)])), (ta, .inl (cJ, 15, .inr (.inl ab))), (tb, .inl (cJ, 15, .inr (.inl bl)))]) ((wset_wgo (nodup_of rfl) rfl).trans rfl) ?_
  refine v_st (st' := [.int (bI (hasB p0 N))]) rfl ?_
  refine v_if_ne F dX7_about_8 (tgt := 15) rfl (q := 11) rfl (fun c8 => ?_) (fun c8 => ?_)
  · skip
    rw [bI_nz] at c8
    obtain ⟨k, hk, rfl⟩ := hasB_ex c8
    have hpk := pN_nI (k := k) (by omega)
    have hpl := P.2.2.2.1 k hk
    refine v_iload_n F dX7_about_15 (i := 2) rfl 2 rfl (q := 16) rfl ?_
    rcases ts_6 what with c16 | c16 | c16 | c16 | c16 | c16 | c16 | c16
    · skip
      refine v_tableIn F dX7_about_16 (by rw [c16]; decide) (by rw [c16]; decide) (off := 44) (by rw [c16]; rfl) (tgt := 60) rfl ?_
      refine v_aload_n F dX7_about_60 (i := 0) rfl 0 rfl (q := 61) rfl ?_
      refine gt_X7_19 F dX7_about_61 0 rfl rfl (q := 64) rfl ?_
      refine gt_X7_116 F dX7_about_64 5 rfl rfl (q := 67) rfl ?_
      refine v_iload_n F dX7_about_67 (i := 1) rfl 1 rfl (q := 68) rfl ?_
      refine v_ialdN F 6 0 rfl rfl (j := k) (by omega) (by decide) dX7_about_68 (q := 69) rfl ?_
      exact hE rfl dX7_about_69 (Nat.zero_le _) (Nat.zero_le _) ⟨(by have hf : fAbout (nI k) what (th, sd, tp, n, sc, sp, px, py, pl, pk, N, M, ls, lv, lx, ly, ab, bl, tn) = (px k, (th, sd, tp, n, sc, sp, px, py, pl, pk, N, M, ls, lv, lx, ly, ab, bl, tn)) := (by simp [fAbout, c8, c16, hpk]); exact ⟨(w1, w2, w3, w4, w5, w6, de, cw, cp, cq, pu, be, nr, dp0, b0, lf0, mo0, us0), by rw [hf], by rw [hf]; rfl⟩), Nat.le_of_ble_eq_true rfl⟩
    · skip
      refine v_tableIn F dX7_about_16 (by rw [c16]; decide) (by rw [c16]; decide) (off := 54) (by rw [c16]; rfl) (tgt := 70) rfl ?_
      refine v_aload_n F dX7_about_70 (i := 0) rfl 0 rfl (q := 71) rfl ?_
      refine gt_X7_19 F dX7_about_71 0 rfl rfl (q := 74) rfl ?_
      refine gt_X7_120 F dX7_about_74 5 rfl rfl (q := 77) rfl ?_
      refine v_iload_n F dX7_about_77 (i := 1) rfl 1 rfl (q := 78) rfl ?_
      refine v_ialdN F 7 0 rfl rfl (j := k) (by omega) (by decide) dX7_about_78 (q := 79) rfl ?_
      exact hE rfl dX7_about_79 (Nat.zero_le _) (Nat.zero_le _) ⟨(by have hf : fAbout (nI k) what (th, sd, tp, n, sc, sp, px, py, pl, pk, N, M, ls, lv, lx, ly, ab, bl, tn) = (py k, (th, sd, tp, n, sc, sp, px, py, pl, pk, N, M, ls, lv, lx, ly, ab, bl, tn)) := (by simp [fAbout, c8, c16, hpk]); exact ⟨(w1, w2, w3, w4, w5, w6, de, cw, cp, cq, pu, be, nr, dp0, b0, lf0, mo0, us0), by rw [hf], by rw [hf]; rfl⟩), Nat.le_of_ble_eq_true rfl⟩
    · skip
      refine v_tableIn F dX7_about_16 (by rw [c16]; decide) (by rw [c16]; decide) (off := 64) (by rw [c16]; rfl) (tgt := 80) rfl ?_
      refine v_aload_n F dX7_about_80 (i := 0) rfl 0 rfl (q := 81) rfl ?_
      refine gt_X7_19 F dX7_about_81 0 rfl rfl (q := 84) rfl ?_
      refine gt_X7_123 F dX7_about_84 5 rfl rfl (q := 87) rfl ?_
      refine v_iload_n F dX7_about_87 (i := 1) rfl 1 rfl (q := 88) rfl ?_
      refine v_ialdN F 8 0 rfl rfl (j := k) (by omega) (by decide) dX7_about_88 (q := 89) rfl ?_
      refine v_st (st' := [.int (nI (pl k))]) rfl ?_
      exact hE rfl dX7_about_89 (Nat.zero_le _) (Nat.zero_le _) ⟨(by have hf : fAbout (nI k) what (th, sd, tp, n, sc, sp, px, py, pl, pk, N, M, ls, lv, lx, ly, ab, bl, tn) = (nI (pl k), (th, sd, tp, n, sc, sp, px, py, pl, pk, N, M, ls, lv, lx, ly, ab, bl, tn)) := (by simp [fAbout, c8, c16, hpk]); exact ⟨(w1, w2, w3, w4, w5, w6, de, cw, cp, cq, pu, be, nr, dp0, b0, lf0, mo0, us0), by rw [hf], by rw [hf]; rfl⟩), Nat.le_of_ble_eq_true rfl⟩
    · skip
      refine v_tableIn F dX7_about_16 (by rw [c16]; decide) (by rw [c16]; decide) (off := 74) (by rw [c16]; rfl) (tgt := 90) rfl ?_
      refine v_aload_n F dX7_about_90 (i := 0) rfl 0 rfl (q := 91) rfl ?_
      refine gt_X7_19 F dX7_about_91 0 rfl rfl (q := 94) rfl ?_
      refine gt_X7_126 F dX7_about_94 5 rfl rfl (q := 97) rfl ?_
      refine v_iload_n F dX7_about_97 (i := 1) rfl 1 rfl (q := 98) rfl ?_
      refine v_ialdN F 9 0 rfl rfl (j := k) (by omega) (by decide) dX7_about_98 (q := 99) rfl ?_
      exact hE rfl dX7_about_99 (Nat.zero_le _) (Nat.zero_le _) ⟨(by have hf : fAbout (nI k) what (th, sd, tp, n, sc, sp, px, py, pl, pk, N, M, ls, lv, lx, ly, ab, bl, tn) = (pk k, (th, sd, tp, n, sc, sp, px, py, pl, pk, N, M, ls, lv, lx, ly, ab, bl, tn)) := (by simp [fAbout, c8, c16, hpk]); exact ⟨(w1, w2, w3, w4, w5, w6, de, cw, cp, cq, pu, be, nr, dp0, b0, lf0, mo0, us0), by rw [hf], by rw [hf]; rfl⟩), Nat.le_of_ble_eq_true rfl⟩
    · skip
      refine v_tableIn F dX7_about_16 (by rw [c16]; decide) (by rw [c16]; decide) (off := 84) (by rw [c16]; rfl) (tgt := 100) rfl ?_
      refine v_aload_n F dX7_about_100 (i := 0) rfl 0 rfl (q := 101) rfl ?_
      refine gt_X7_19 F dX7_about_101 0 rfl rfl (q := 104) rfl ?_
      refine v_iload_n F dX7_about_104 (i := 1) rfl 1 rfl (q := 105) rfl ?_
      refine v_callVN F ml_X7_109 im_X5_isWhole se_X5_isWhole in_X5 co_X5_isWhole sd_X5_isWhole (c_X5_isWhole h ha hb hc hd px py pl pk N M k (by omega) (by omega)) ⟨Nat.zero_le _, Nat.zero_le _⟩ (Nat.le_of_ble_eq_true rfl) (Nat.le_of_ble_eq_true rfl) 5 (As := [.int (nI k)]) rfl rfl rfl rfl rfl [5, 6, 7, 8, 9] rfl rfl rfl (rest := []) rfl (Nat.le_of_ble_eq_true rfl) dX7_about_105 (q := 108) rfl (fun r w hr => ?_)
      obtain ⟨rfl, rfl⟩ := hr
      refine v_ws (ws' := [(z, .inr (7, [.ref g, .ref h, .ref o, .ref ca, .ref m0, .ref v0, .ref t, .int sp])), (g, .inr (2, [.ref ga, .ref gb, .ref gc, .int (nI n), .int sc])), (ga, .inl (cI, 6, .inl th)), (gb, .inl (cI, 6, .inl sd)), (gc, .inl (cI, 6, .inl tp)), (h, .inr (5, [.ref ha, .ref hb, .ref hc, .ref hd, .int (nI M), .int (nI N)])), (ha, .inl (cI, 12, .inl px)), (hb, .inl (cI, 12, .inl py)), (hc, .inl (cI, 12, .inl (fun i => nI (pl i)))), (hd, .inl (cI, 12, .inl pk)), (o, .inr (4, [.ref oa, .ref ob, .ref oc, .ref od])), (oa, .inl (cI, 3, .inl (fun i => nI (ls i)))), (ob, .inl (cJ, 3, .inr (.inl (fun i => zL (fsum ls lv i))))), (oc, .inl (cJ, 3, .inr (.inl (fun i => zL (fsum2 ls lv lx i))))), (od, .inl (cJ, 3, .inr (.inl (fun i => zL (fsum2 ls lv ly i))))), (ca, .inr (0, [.ref h, .long (zL w1), .long (zL w2), .long (zL w3), .long (zL w4), .long (zL w5), .long (zL w6), .long (zL de), .long (zL cw), .long (zL cp), .long (zL cq)])), (m0, .inr (3, [.ref ma, .ref mb, .ref mc])), (ma, .inl (cI, 12, .inl pu)), (mb, .inl (cI, 12, .inl be)), (mc, .inl (cI, 12, .inl nr)), (v0, .inr (1, [.int dp0, .int b0, .int lf0, .int mo0, .int us0])), (t, .inr (6, [.ref ta, .ref tb, .int (nI tn)])), (ta, .inl (cJ, 15, .inr (.inl ab))), (tb, .inl (cJ, 15, .inr (.inl bl)))]) ((wset_wgo (nodup_of rfl) rfl).trans rfl) ?_
      refine v_st (st' := [.int (bI (M.testBit k))]) rfl ?_
      refine v_if_eq F dX7_about_108 (tgt := 115) rfl (q := 111) rfl (fun c108 => ?_) (fun c108 => ?_)
      · skip
        rw [bI_z] at c108
        refine v_iconst F dX7_about_115 (v := 0) (q := 116) rfl rfl ?_
        exact hE rfl dX7_about_116 (Nat.zero_le _) (Nat.zero_le _) ⟨(by have hf : fAbout (nI k) what (th, sd, tp, n, sc, sp, px, py, pl, pk, N, M, ls, lv, lx, ly, ab, bl, tn) = (bI (M.testBit k), (th, sd, tp, n, sc, sp, px, py, pl, pk, N, M, ls, lv, lx, ly, ab, bl, tn)) := (by simp [fAbout, c8, c16, c108, hpk]); exact ⟨(w1, w2, w3, w4, w5, w6, de, cw, cp, cq, pu, be, nr, dp0, b0, lf0, mo0, us0), by rw [hf]; simp [bI, c108], by rw [hf]; rfl⟩), Nat.le_of_ble_eq_true rfl⟩
      · skip
        rw [bI_nz] at c108
        refine v_iconst F dX7_about_111 (v := 1) (q := 112) rfl rfl ?_
        refine v_goto F dX7_about_112 (tgt := 116) rfl ?_
        exact hE rfl dX7_about_116 (Nat.zero_le _) (Nat.zero_le _) ⟨(by have hf : fAbout (nI k) what (th, sd, tp, n, sc, sp, px, py, pl, pk, N, M, ls, lv, lx, ly, ab, bl, tn) = (bI (M.testBit k), (th, sd, tp, n, sc, sp, px, py, pl, pk, N, M, ls, lv, lx, ly, ab, bl, tn)) := (by simp [fAbout, c8, c16, c108, hpk]); exact ⟨(w1, w2, w3, w4, w5, w6, de, cw, cp, cq, pu, be, nr, dp0, b0, lf0, mo0, us0), by rw [hf]; simp [bI, c108], by rw [hf]; rfl⟩), Nat.le_of_ble_eq_true rfl⟩
    · skip
      refine v_tableIn F dX7_about_16 (by rw [c16]; decide) (by rw [c16]; decide) (off := 101) (by rw [c16]; rfl) (tgt := 117) rfl ?_
      refine v_aload_n F dX7_about_117 (i := 0) rfl 0 rfl (q := 118) rfl ?_
      refine gt_X7_12 F dX7_about_118 0 rfl rfl (q := 121) rfl ?_
      refine v_aload_n F dX7_about_121 (i := 0) rfl 0 rfl (q := 122) rfl ?_
      refine gt_X7_19 F dX7_about_122 0 rfl rfl (q := 125) rfl ?_
      refine gt_X7_123 F dX7_about_125 5 rfl rfl (q := 128) rfl ?_
      refine v_iload_n F dX7_about_128 (i := 1) rfl 1 rfl (q := 129) rfl ?_
      refine v_ialdN F 8 0 rfl rfl (j := k) (by omega) (by decide) dX7_about_129 (q := 130) rfl ?_
      refine v_st (st' := [.int (nI (pl k)), .ref g]) rfl ?_
      refine v_callVN F ml_X7_129 im_X2_pullOf se_X2_pullOf in_X2 co_X2_pullOf sd_X2_pullOf (c_X2_pullOf g ga gb gc th sd tp n sc (pl k) G (by omega)) ⟨Nat.zero_le _, Nat.zero_le _⟩ (Nat.le_of_ble_eq_true rfl) (Nat.le_of_ble_eq_true rfl) 1 (As := [.int (nI (pl k))]) rfl rfl rfl rfl rfl [1, 2, 3, 4] rfl rfl rfl (rest := []) rfl (Nat.le_of_ble_eq_true rfl) dX7_about_130 (q := 133) rfl (fun r w hr => ?_)
      obtain ⟨rfl, rfl⟩ := hr
      refine v_ws (ws' := [(z, .inr (7, [.ref g, .ref h, .ref o, .ref ca, .ref m0, .ref v0, .ref t, .int sp])), (g, .inr (2, [.ref ga, .ref gb, .ref gc, .int (nI n), .int sc])), (ga, .inl (cI, 6, .inl th)), (gb, .inl (cI, 6, .inl sd)), (gc, .inl (cI, 6, .inl tp)), (h, .inr (5, [.ref ha, .ref hb, .ref hc, .ref hd, .int (nI M), .int (nI N)])), (ha, .inl (cI, 12, .inl px)), (hb, .inl (cI, 12, .inl py)), (hc, .inl (cI, 12, .inl (fun i => nI (pl i)))), (hd, .inl (cI, 12, .inl pk)), (o, .inr (4, [.ref oa, .ref ob, .ref oc, .ref od])), (oa, .inl (cI, 3, .inl (fun i => nI (ls i)))), (ob, .inl (cJ, 3, .inr (.inl (fun i => zL (fsum ls lv i))))), (oc, .inl (cJ, 3, .inr (.inl (fun i => zL (fsum2 ls lv lx i))))), (od, .inl (cJ, 3, .inr (.inl (fun i => zL (fsum2 ls lv ly i))))), (ca, .inr (0, [.ref h, .long (zL w1), .long (zL w2), .long (zL w3), .long (zL w4), .long (zL w5), .long (zL w6), .long (zL de), .long (zL cw), .long (zL cp), .long (zL cq)])), (m0, .inr (3, [.ref ma, .ref mb, .ref mc])), (ma, .inl (cI, 12, .inl pu)), (mb, .inl (cI, 12, .inl be)), (mc, .inl (cI, 12, .inl nr)), (v0, .inr (1, [.int dp0, .int b0, .int lf0, .int mo0, .int us0])), (t, .inr (6, [.ref ta, .ref tb, .int (nI tn)])), (ta, .inl (cJ, 15, .inr (.inl ab))), (tb, .inl (cJ, 15, .inr (.inl bl)))]) ((wset_wgo (nodup_of rfl) rfl).trans rfl) ?_
      refine v_st (st' := [.int (zI (gPU th sd n sc (pl k)))]) rfl ?_
      exact hE rfl dX7_about_133 (Nat.zero_le _) (Nat.zero_le _) ⟨(by have hf : fAbout (nI k) what (th, sd, tp, n, sc, sp, px, py, pl, pk, N, M, ls, lv, lx, ly, ab, bl, tn) = (zI (gPU th sd n sc (pl k)), (th, sd, tp, n, sc, sp, px, py, pl, pk, N, M, ls, lv, lx, ly, ab, bl, tn)) := (by simp [fAbout, c8, c16, hpk]); exact ⟨(w1, w2, w3, w4, w5, w6, de, cw, cp, cq, pu, be, nr, dp0, b0, lf0, mo0, us0), by rw [hf], by rw [hf]; rfl⟩), Nat.le_of_ble_eq_true rfl⟩
    · skip
      refine v_tableIn F dX7_about_16 (by rw [c16]; decide) (by rw [c16]; decide) (off := 118) (by rw [c16]; rfl) (tgt := 134) rfl ?_
      refine v_aload_n F dX7_about_134 (i := 0) rfl 0 rfl (q := 135) rfl ?_
      refine gt_X7_12 F dX7_about_135 0 rfl rfl (q := 138) rfl ?_
      refine v_aload_n F dX7_about_138 (i := 0) rfl 0 rfl (q := 139) rfl ?_
      refine gt_X7_19 F dX7_about_139 0 rfl rfl (q := 142) rfl ?_
      refine gt_X7_123 F dX7_about_142 5 rfl rfl (q := 145) rfl ?_
      refine v_iload_n F dX7_about_145 (i := 1) rfl 1 rfl (q := 146) rfl ?_
      refine v_ialdN F 8 0 rfl rfl (j := k) (by omega) (by decide) dX7_about_146 (q := 147) rfl ?_
      refine v_st (st' := [.int (nI (pl k)), .ref g]) rfl ?_
      refine v_callVN F ml_X7_132 im_X2_bearingOf se_X2_bearingOf in_X2 co_X2_bearingOf sd_X2_bearingOf (c_X2_bearingOf g ga gb gc th sd tp n sc (pl k) G (by omega)) ⟨Nat.zero_le _, Nat.zero_le _⟩ (Nat.le_of_ble_eq_true rfl) (Nat.le_of_ble_eq_true rfl) 1 (As := [.int (nI (pl k))]) rfl rfl rfl rfl rfl [1, 2, 3, 4] rfl rfl rfl (rest := []) rfl (Nat.le_of_ble_eq_true rfl) dX7_about_147 (q := 150) rfl (fun r w hr => ?_)
      obtain ⟨rfl, rfl⟩ := hr
      refine v_ws (ws' := [(z, .inr (7, [.ref g, .ref h, .ref o, .ref ca, .ref m0, .ref v0, .ref t, .int sp])), (g, .inr (2, [.ref ga, .ref gb, .ref gc, .int (nI n), .int sc])), (ga, .inl (cI, 6, .inl th)), (gb, .inl (cI, 6, .inl sd)), (gc, .inl (cI, 6, .inl tp)), (h, .inr (5, [.ref ha, .ref hb, .ref hc, .ref hd, .int (nI M), .int (nI N)])), (ha, .inl (cI, 12, .inl px)), (hb, .inl (cI, 12, .inl py)), (hc, .inl (cI, 12, .inl (fun i => nI (pl i)))), (hd, .inl (cI, 12, .inl pk)), (o, .inr (4, [.ref oa, .ref ob, .ref oc, .ref od])), (oa, .inl (cI, 3, .inl (fun i => nI (ls i)))), (ob, .inl (cJ, 3, .inr (.inl (fun i => zL (fsum ls lv i))))), (oc, .inl (cJ, 3, .inr (.inl (fun i => zL (fsum2 ls lv lx i))))), (od, .inl (cJ, 3, .inr (.inl (fun i => zL (fsum2 ls lv ly i))))), (ca, .inr (0, [.ref h, .long (zL w1), .long (zL w2), .long (zL w3), .long (zL w4), .long (zL w5), .long (zL w6), .long (zL de), .long (zL cw), .long (zL cp), .long (zL cq)])), (m0, .inr (3, [.ref ma, .ref mb, .ref mc])), (ma, .inl (cI, 12, .inl pu)), (mb, .inl (cI, 12, .inl be)), (mc, .inl (cI, 12, .inl nr)), (v0, .inr (1, [.int dp0, .int b0, .int lf0, .int mo0, .int us0])), (t, .inr (6, [.ref ta, .ref tb, .int (nI tn)])), (ta, .inl (cJ, 15, .inr (.inl ab))), (tb, .inl (cJ, 15, .inr (.inl bl)))]) ((wset_wgo (nodup_of rfl) rfl).trans rfl) ?_
      refine v_st (st' := [.int (zI (gBE th sd tp n sc (pl k)))]) rfl ?_
      exact hE rfl dX7_about_150 (Nat.zero_le _) (Nat.zero_le _) ⟨(by have hf : fAbout (nI k) what (th, sd, tp, n, sc, sp, px, py, pl, pk, N, M, ls, lv, lx, ly, ab, bl, tn) = (zI (gBE th sd tp n sc (pl k)), (th, sd, tp, n, sc, sp, px, py, pl, pk, N, M, ls, lv, lx, ly, ab, bl, tn)) := (by simp [fAbout, c8, c16, hpk]); exact ⟨(w1, w2, w3, w4, w5, w6, de, cw, cp, cq, pu, be, nr, dp0, b0, lf0, mo0, us0), by rw [hf], by rw [hf]; rfl⟩), Nat.le_of_ble_eq_true rfl⟩
    · skip
      refine v_tableOut F dX7_about_16 (by omega) (tgt := 151) rfl ?_
      refine v_sipush F dX7_about_151 (v := (-1000)) (q := 154) rfl rfl ?_
      exact hE rfl dX7_about_154 (Nat.zero_le _) (Nat.zero_le _) ⟨(by have hf : fAbout (nI k) what (th, sd, tp, n, sc, sp, px, py, pl, pk, N, M, ls, lv, lx, ly, ab, bl, tn) = (-1000, (th, sd, tp, n, sc, sp, px, py, pl, pk, N, M, ls, lv, lx, ly, ab, bl, tn)) := (by simp [fAbout, ab_no c16, c8, hpk]); exact ⟨(w1, w2, w3, w4, w5, w6, de, cw, cp, cq, pu, be, nr, dp0, b0, lf0, mo0, us0), by rw [hf], by rw [hf]; rfl⟩), Nat.le_of_ble_eq_true rfl⟩
  · skip
    rw [bI_z] at c8
    refine v_sipush F dX7_about_11 (v := (-1000)) (q := 14) rfl rfl ?_
    exact hE rfl dX7_about_14 (Nat.zero_le _) (Nat.zero_le _) ⟨(by have hf : fAbout p0 what (th, sd, tp, n, sc, sp, px, py, pl, pk, N, M, ls, lv, lx, ly, ab, bl, tn) = (-1000, (th, sd, tp, n, sc, sp, px, py, pl, pk, N, M, ls, lv, lx, ly, ab, bl, tn)) := (by simp [fAbout, c8]); exact ⟨(w1, w2, w3, w4, w5, w6, de, cw, cp, cq, pu, be, nr, dp0, b0, lf0, mo0, us0), by rw [hf], by rw [hf]; rfl⟩), Nat.le_of_ble_eq_true rfl⟩

set_option maxHeartbeats 4000000 in
set_option maxRecDepth 100000 in
theorem c_X7_load (z g ga gb gc h ha hb hc hd o oa ob oc od ca m0 ma mb mc v0 t ta tb : Nat) (th : Nat → Int32) (sd : Nat → Int32) (tp : Nat → Int32) (n : Nat) (sc : Int32) (sp : Int32) (px : Nat → Int32) (py : Nat → Int32) (pl : Nat → Nat) (pk : Nat → Int32) (N : Nat) (M : Nat) (ls : Nat → Nat) (lv : Nat → Int32) (lx : Nat → Int32) (ly : Nat → Int32) (ab : Nat → Int64) (bl : Nat → Int64) (tn : Nat) (w1 : Int) (w2 : Int) (w3 : Int) (w4 : Int) (w5 : Int) (w6 : Int) (de : Int) (cw : Int) (cp : Int) (cq : Int) (pu : Nat → Int32) (be : Nat → Int32) (nr : Nat → Int32) (dp0 : Int32) (b0 : Int32) (lf0 : Int32) (mo0 : Int32) (us0 : Int32) (c0 v1 x1 y1 : Int32) (VI : INV (th, sd, tp, n, sc, sp, px, py, pl, pk, N, M, ls, lv, lx, ly, ab, bl, tn)) : Ct l D (TY cI cJ cZ) yX7_load cX7_load 5 (some .int) 2 43 0 0 [.ref z, .int c0, .int v1, .int x1, .int y1] [(z, .inr (7, [.ref g, .ref h, .ref o, .ref ca, .ref m0, .ref v0, .ref t, .int sp])), (g, .inr (2, [.ref ga, .ref gb, .ref gc, .int (nI n), .int sc])), (ga, .inl (cI, 6, .inl th)), (gb, .inl (cI, 6, .inl sd)), (gc, .inl (cI, 6, .inl tp)), (h, .inr (5, [.ref ha, .ref hb, .ref hc, .ref hd, .int (nI M), .int (nI N)])), (ha, .inl (cI, 12, .inl px)), (hb, .inl (cI, 12, .inl py)), (hc, .inl (cI, 12, .inl (fun i => nI (pl i)))), (hd, .inl (cI, 12, .inl pk)), (o, .inr (4, [.ref oa, .ref ob, .ref oc, .ref od])), (oa, .inl (cI, 3, .inl (fun i => nI (ls i)))), (ob, .inl (cJ, 3, .inr (.inl (fun i => zL (fsum ls lv i))))), (oc, .inl (cJ, 3, .inr (.inl (fun i => zL (fsum2 ls lv lx i))))), (od, .inl (cJ, 3, .inr (.inl (fun i => zL (fsum2 ls lv ly i))))), (ca, .inr (0, [.ref h, .long (zL w1), .long (zL w2), .long (zL w3), .long (zL w4), .long (zL w5), .long (zL w6), .long (zL de), .long (zL cw), .long (zL cp), .long (zL cq)])), (m0, .inr (3, [.ref ma, .ref mb, .ref mc])), (ma, .inl (cI, 12, .inl pu)), (mb, .inl (cI, 12, .inl be)), (mc, .inl (cI, 12, .inl nr)), (v0, .inr (1, [.int dp0, .int b0, .int lf0, .int mo0, .int us0])), (t, .inr (6, [.ref ta, .ref tb, .int (nI tn)])), (ta, .inl (cJ, 15, .inr (.inl ab))), (tb, .inl (cJ, 15, .inr (.inl bl)))] (fun r w => ∃ X : SXy, r = some (.int (fLoad c0 v1 x1 y1 (th, sd, tp, n, sc, sp, px, py, pl, pk, N, M, ls, lv, lx, ly, ab, bl, tn)).1) ∧ w = WC cI cJ z g ga gb gc h ha hb hc hd o oa ob oc od ca m0 ma mb mc v0 t ta tb (fLoad c0 v1 x1 y1 (th, sd, tp, n, sc, sp, px, py, pl, pk, N, M, ls, lv, lx, ly, ab, bl, tn)).2 X) := by
  refine Ct.ofI (ty := .int) (by decide) (Nat.le_of_ble_eq_true rfl) ?_
  intro p e s m args below meth c A R Q F hnm hcs0 hE
  refine v_lv (lv' := [(0, .ref z), (1, .int c0), (2, .int v1), (3, .int x1), (4, .int y1)]) [0, 1, 2, 3, 4] rfl ?_
  obtain ⟨G, hsp, P, hM, hls, hlv, hlx, hly, htn⟩ := id VI
  have hn6 := G.1
  have hN12 := P.1
  have hM4 : M < 4096 := Nat.lt_of_lt_of_le hM (Nat.pow_le_pow_right (by omega) hN12)
  refine v_iload_n F dX7_load_0 (i := 1) rfl 1 rfl (q := 1) rfl ?_
  refine v_callS F ml_X7_135 sm_X7_isCase in_X7 co_X7_isCase sd_X7_isCase (c_X7_isCase c0) ⟨Nat.zero_le _, Nat.zero_le _⟩ (Nat.le_of_ble_eq_true rfl) (Nat.le_of_ble_eq_true rfl) rfl [] rfl rfl rfl (rest := []) rfl (Nat.le_of_ble_eq_true rfl) dX7_load_1 (q := 4) rfl (fun r w hr => ?_)
  obtain ⟨rfl, rfl⟩ := hr
  refine v_ws (ws' := [(z, .inr (7, [.ref g, .ref h, .ref o, .ref ca, .ref m0, .ref v0, .ref t, .int sp])), (g, .inr (2, [.ref ga, .ref gb, .ref gc, .int (nI n), .int sc])), (ga, .inl (cI, 6, .inl th)), (gb, .inl (cI, 6, .inl sd)), (gc, .inl (cI, 6, .inl tp)), (h, .inr (5, [.ref ha, .ref hb, .ref hc, .ref hd, .int (nI M), .int (nI N)])), (ha, .inl (cI, 12, .inl px)), (hb, .inl (cI, 12, .inl py)), (hc, .inl (cI, 12, .inl (fun i => nI (pl i)))), (hd, .inl (cI, 12, .inl pk)), (o, .inr (4, [.ref oa, .ref ob, .ref oc, .ref od])), (oa, .inl (cI, 3, .inl (fun i => nI (ls i)))), (ob, .inl (cJ, 3, .inr (.inl (fun i => zL (fsum ls lv i))))), (oc, .inl (cJ, 3, .inr (.inl (fun i => zL (fsum2 ls lv lx i))))), (od, .inl (cJ, 3, .inr (.inl (fun i => zL (fsum2 ls lv ly i))))), (ca, .inr (0, [.ref h, .long (zL w1), .long (zL w2), .long (zL w3), .long (zL w4), .long (zL w5), .long (zL w6), .long (zL de), .long (zL cw), .long (zL cp), .long (zL cq)])), (m0, .inr (3, [.ref ma, .ref mb, .ref mc])), (ma, .inl (cI, 12, .inl pu)), (mb, .inl (cI, 12, .inl be)), (mc, .inl (cI, 12, .inl nr)), (v0, .inr (1, [.int dp0, .int b0, .int lf0, .int mo0, .int us0])), (t, .inr (6, [.ref ta, .ref tb, .int (nI tn)])), (ta, .inl (cJ, 15, .inr (.inl ab))), (tb, .inl (cJ, 15, .inr (.inl bl)))]) rfl ?_
  refine v_st (st' := [.int (bI (inR c0 0 2))]) rfl ?_
  refine v_if_eq F dX7_load_4 (tgt := 29) rfl (q := 7) rfl (fun c4 => ?_) (fun c4 => ?_)
  · skip
    rw [bI_z] at c4
    refine v_iconst F dX7_load_29 (v := (-1)) (q := 30) rfl rfl ?_
    exact hE rfl dX7_load_30 (Nat.zero_le _) (Nat.zero_le _) ⟨(by have hf : fLoad c0 v1 x1 y1 (th, sd, tp, n, sc, sp, px, py, pl, pk, N, M, ls, lv, lx, ly, ab, bl, tn) = (-1, (th, sd, tp, n, sc, sp, px, py, pl, pk, N, M, ls, lv, lx, ly, ab, bl, tn)) := (by simp [fLoad, c4]); exact ⟨(w1, w2, w3, w4, w5, w6, de, cw, cp, cq, pu, be, nr, dp0, b0, lf0, mo0, us0), by rw [hf], by rw [hf]; rfl⟩), Nat.le_of_ble_eq_true rfl⟩
  · skip
    rw [bI_nz] at c4
    refine v_iload_n F dX7_load_7 (i := 2) rfl 2 rfl (q := 8) rfl ?_
    refine v_sipush F dX7_load_8 (v := (-500)) (q := 11) rfl rfl ?_
    refine v_sipush F dX7_load_11 (v := 500) (q := 14) rfl rfl ?_
    refine v_callS F ml_X7_64 sm_X7_within in_X7 co_X7_within sd_X7_within (c_X7_within v1 (-500) 500) ⟨Nat.zero_le _, Nat.zero_le _⟩ (Nat.le_of_ble_eq_true rfl) (Nat.le_of_ble_eq_true rfl) rfl [] rfl rfl rfl (rest := []) rfl (Nat.le_of_ble_eq_true rfl) dX7_load_14 (q := 17) rfl (fun r w hr => ?_)
    obtain ⟨rfl, rfl⟩ := hr
    refine v_ws (ws' := [(z, .inr (7, [.ref g, .ref h, .ref o, .ref ca, .ref m0, .ref v0, .ref t, .int sp])), (g, .inr (2, [.ref ga, .ref gb, .ref gc, .int (nI n), .int sc])), (ga, .inl (cI, 6, .inl th)), (gb, .inl (cI, 6, .inl sd)), (gc, .inl (cI, 6, .inl tp)), (h, .inr (5, [.ref ha, .ref hb, .ref hc, .ref hd, .int (nI M), .int (nI N)])), (ha, .inl (cI, 12, .inl px)), (hb, .inl (cI, 12, .inl py)), (hc, .inl (cI, 12, .inl (fun i => nI (pl i)))), (hd, .inl (cI, 12, .inl pk)), (o, .inr (4, [.ref oa, .ref ob, .ref oc, .ref od])), (oa, .inl (cI, 3, .inl (fun i => nI (ls i)))), (ob, .inl (cJ, 3, .inr (.inl (fun i => zL (fsum ls lv i))))), (oc, .inl (cJ, 3, .inr (.inl (fun i => zL (fsum2 ls lv lx i))))), (od, .inl (cJ, 3, .inr (.inl (fun i => zL (fsum2 ls lv ly i))))), (ca, .inr (0, [.ref h, .long (zL w1), .long (zL w2), .long (zL w3), .long (zL w4), .long (zL w5), .long (zL w6), .long (zL de), .long (zL cw), .long (zL cp), .long (zL cq)])), (m0, .inr (3, [.ref ma, .ref mb, .ref mc])), (ma, .inl (cI, 12, .inl pu)), (mb, .inl (cI, 12, .inl be)), (mc, .inl (cI, 12, .inl nr)), (v0, .inr (1, [.int dp0, .int b0, .int lf0, .int mo0, .int us0])), (t, .inr (6, [.ref ta, .ref tb, .int (nI tn)])), (ta, .inl (cJ, 15, .inr (.inl ab))), (tb, .inl (cJ, 15, .inr (.inl bl)))]) rfl ?_
    refine v_st (st' := [.int (bI (inR v1 (-500) 500))]) rfl ?_
    refine v_if_eq F dX7_load_17 (tgt := 29) rfl (q := 20) rfl (fun c17 => ?_) (fun c17 => ?_)
    · skip
      rw [bI_z] at c17
      refine v_iconst F dX7_load_29 (v := (-1)) (q := 30) rfl rfl ?_
      exact hE rfl dX7_load_30 (Nat.zero_le _) (Nat.zero_le _) ⟨(by have hf : fLoad c0 v1 x1 y1 (th, sd, tp, n, sc, sp, px, py, pl, pk, N, M, ls, lv, lx, ly, ab, bl, tn) = (-1, (th, sd, tp, n, sc, sp, px, py, pl, pk, N, M, ls, lv, lx, ly, ab, bl, tn)) := (by simp [fLoad, c4, c17]); exact ⟨(w1, w2, w3, w4, w5, w6, de, cw, cp, cq, pu, be, nr, dp0, b0, lf0, mo0, us0), by rw [hf], by rw [hf]; rfl⟩), Nat.le_of_ble_eq_true rfl⟩
    · skip
      rw [bI_nz] at c17
      refine v_iload_n F dX7_load_20 (i := 3) rfl 3 rfl (q := 21) rfl ?_
      refine v_iload F dX7_load_21 4 rfl (q := 23) rfl ?_
      refine v_callS F ml_X7_96 sm_X7_isPlace in_X7 co_X7_isPlace sd_X7_isPlace (c_X7_isPlace x1 y1) ⟨Nat.zero_le _, Nat.zero_le _⟩ (Nat.le_of_ble_eq_true rfl) (Nat.le_of_ble_eq_true rfl) rfl [] rfl rfl rfl (rest := []) rfl (Nat.le_of_ble_eq_true rfl) dX7_load_23 (q := 26) rfl (fun r w hr => ?_)
      obtain ⟨rfl, rfl⟩ := hr
      refine v_ws (ws' := [(z, .inr (7, [.ref g, .ref h, .ref o, .ref ca, .ref m0, .ref v0, .ref t, .int sp])), (g, .inr (2, [.ref ga, .ref gb, .ref gc, .int (nI n), .int sc])), (ga, .inl (cI, 6, .inl th)), (gb, .inl (cI, 6, .inl sd)), (gc, .inl (cI, 6, .inl tp)), (h, .inr (5, [.ref ha, .ref hb, .ref hc, .ref hd, .int (nI M), .int (nI N)])), (ha, .inl (cI, 12, .inl px)), (hb, .inl (cI, 12, .inl py)), (hc, .inl (cI, 12, .inl (fun i => nI (pl i)))), (hd, .inl (cI, 12, .inl pk)), (o, .inr (4, [.ref oa, .ref ob, .ref oc, .ref od])), (oa, .inl (cI, 3, .inl (fun i => nI (ls i)))), (ob, .inl (cJ, 3, .inr (.inl (fun i => zL (fsum ls lv i))))), (oc, .inl (cJ, 3, .inr (.inl (fun i => zL (fsum2 ls lv lx i))))), (od, .inl (cJ, 3, .inr (.inl (fun i => zL (fsum2 ls lv ly i))))), (ca, .inr (0, [.ref h, .long (zL w1), .long (zL w2), .long (zL w3), .long (zL w4), .long (zL w5), .long (zL w6), .long (zL de), .long (zL cw), .long (zL cp), .long (zL cq)])), (m0, .inr (3, [.ref ma, .ref mb, .ref mc])), (ma, .inl (cI, 12, .inl pu)), (mb, .inl (cI, 12, .inl be)), (mc, .inl (cI, 12, .inl nr)), (v0, .inr (1, [.int dp0, .int b0, .int lf0, .int mo0, .int us0])), (t, .inr (6, [.ref ta, .ref tb, .int (nI tn)])), (ta, .inl (cJ, 15, .inr (.inl ab))), (tb, .inl (cJ, 15, .inr (.inl bl)))]) rfl ?_
      refine v_st (st' := [.int (bI (inR x1 (-20) 20 && inR y1 (-20) 20))]) rfl ?_
      refine v_if_ne F dX7_load_26 (tgt := 31) rfl (q := 29) rfl (fun c26 => ?_) (fun c26 => ?_)
      · skip
        rw [bI_nz] at c26
        obtain ⟨k, hk, rfl⟩ : ∃ k : Nat, k < 3 ∧ c0 = nI k := case_ex c4
        have hpk := pN_nI (k := k) (by omega)
        have hlk := hls k
        have hv1 := inR_iff.mp c17
        rw [Bool.and_eq_true] at c26
        have hx1 := inR_iff.mp c26.1
        have hy1 := inR_iff.mp c26.2
        refine v_aload_n F dX7_load_31 (i := 0) rfl 0 rfl (q := 32) rfl ?_
        refine gt_X7_26 F dX7_load_32 0 rfl rfl (q := 35) rfl ?_
        refine gt_X7_138 F dX7_load_35 10 rfl rfl (q := 38) rfl ?_
        refine v_iload_n F dX7_load_38 (i := 1) rfl 1 rfl (q := 39) rfl ?_
        refine v_ialdN F 11 0 rfl rfl (j := k) (by omega) (by decide) dX7_load_39 (q := 40) rfl ?_
        refine v_st (st' := [.int (nI (ls k))]) rfl ?_
        refine v_bipush F dX7_load_40 (v := 6) (q := 42) rfl rfl ?_
        refine v_icmp_lt F dX7_load_42 (tgt := 48) rfl (q := 45) rfl (fun c42 => ?_) (fun c42 => ?_)
        · skip
          rw [show (6 : Int32) = nI 6 from rfl, nI_ltI (by omega) (by omega)] at c42
          have c42 : ¬ ls k = 6 := by omega
          refine v_aload_n F dX7_load_48 (i := 0) rfl 0 rfl (q := 49) rfl ?_
          refine gt_X7_26 F dX7_load_49 0 rfl rfl (q := 52) rfl ?_
          refine v_iload_n F dX7_load_52 (i := 1) rfl 1 rfl (q := 53) rfl ?_
          refine v_iload_n F dX7_load_53 (i := 2) rfl 2 rfl (q := 54) rfl ?_
          refine v_iload_n F dX7_load_54 (i := 3) rfl 3 rfl (q := 55) rfl ?_
          refine v_iload F dX7_load_55 4 rfl (q := 57) rfl ?_
          refine v_callVN F ml_X7_140 im_X4_add se_X4_add in_X4 co_X4_add sd_X4_add (c_X4_add o oa ob oc od ls (fsum ls lv) (fsum2 ls lv lx) (fsum2 ls lv ly) k v1 x1 y1 (by omega) hv1 hx1 hy1) ⟨Nat.zero_le _, Nat.zero_le _⟩ (Nat.le_of_ble_eq_true rfl) (Nat.le_of_ble_eq_true rfl) 10 (As := [.int (nI k), .int v1, .int x1, .int y1]) rfl rfl rfl rfl rfl [10, 11, 12, 13, 14] rfl rfl rfl (rest := []) rfl (Nat.le_of_ble_eq_true rfl) dX7_load_57 (q := 60) rfl (fun r w hr => ?_)
          obtain ⟨rfl, rfl⟩ := hr
          refine v_ws (ws' := [(z, .inr (7, [.ref g, .ref h, .ref o, .ref ca, .ref m0, .ref v0, .ref t, .int sp])), (g, .inr (2, [.ref ga, .ref gb, .ref gc, .int (nI n), .int sc])), (ga, .inl (cI, 6, .inl th)), (gb, .inl (cI, 6, .inl sd)), (gc, .inl (cI, 6, .inl tp)), (h, .inr (5, [.ref ha, .ref hb, .ref hc, .ref hd, .int (nI M), .int (nI N)])), (ha, .inl (cI, 12, .inl px)), (hb, .inl (cI, 12, .inl py)), (hc, .inl (cI, 12, .inl (fun i => nI (pl i)))), (hd, .inl (cI, 12, .inl pk)), (o, .inr (4, [.ref oa, .ref ob, .ref oc, .ref od])), (oa, .inl (cI, 3, .inl (fun i => nI (updN ls k (ls k + 1) i)))), (ob, .inl (cJ, 3, .inr (.inl (fun i => zL (updZ (fsum ls lv) k (fsum ls lv k + v1.toInt) i))))), (oc, .inl (cJ, 3, .inr (.inl (fun i => zL (updZ (fsum2 ls lv lx) k (fsum2 ls lv lx k + v1.toInt * x1.toInt) i))))), (od, .inl (cJ, 3, .inr (.inl (fun i => zL (updZ (fsum2 ls lv ly) k (fsum2 ls lv ly k + v1.toInt * y1.toInt) i))))), (ca, .inr (0, [.ref h, .long (zL w1), .long (zL w2), .long (zL w3), .long (zL w4), .long (zL w5), .long (zL w6), .long (zL de), .long (zL cw), .long (zL cp), .long (zL cq)])), (m0, .inr (3, [.ref ma, .ref mb, .ref mc])), (ma, .inl (cI, 12, .inl pu)), (mb, .inl (cI, 12, .inl be)), (mc, .inl (cI, 12, .inl nr)), (v0, .inr (1, [.int dp0, .int b0, .int lf0, .int mo0, .int us0])), (t, .inr (6, [.ref ta, .ref tb, .int (nI tn)])), (ta, .inl (cJ, 15, .inr (.inl ab))), (tb, .inl (cJ, 15, .inr (.inl bl)))]) ((wset_wgo (nodup_of rfl) rfl).trans rfl) ?_
          refine v_st (st' := [.int (nI (ls k + 1))]) rfl ?_
          exact hE rfl dX7_load_60 (Nat.zero_le _) (Nat.zero_le _) ⟨(by have hf : fLoad (nI k) v1 x1 y1 (th, sd, tp, n, sc, sp, px, py, pl, pk, N, M, ls, lv, lx, ly, ab, bl, tn) = (nI (ls k + 1), (th, sd, tp, n, sc, sp, px, py, pl, pk, N, M, updN ls k (ls k + 1), upd lv (6 * k + ls k) v1, upd lx (6 * k + ls k) x1, upd ly (6 * k + ls k) y1, ab, bl, tn)) := (by simp [fLoad, c4, c17, c26, c42, hpk]); exact ⟨(w1, w2, w3, w4, w5, w6, de, cw, cp, cq, pu, be, nr, dp0, b0, lf0, mo0, us0), by rw [hf], by rw [hf, fs_add hls c42, fs_add2 hls c42, fs_add2 hls c42]; rfl⟩), Nat.le_of_ble_eq_true rfl⟩
        · skip
          rw [show (6 : Int32) = nI 6 from rfl, nI_ltI (by omega) (by omega)] at c42
          have c42 : ls k = 6 := by omega
          refine v_bipush F dX7_load_45 (v := (-3)) (q := 47) rfl rfl ?_
          exact hE rfl dX7_load_47 (Nat.zero_le _) (Nat.zero_le _) ⟨(by have hf : fLoad (nI k) v1 x1 y1 (th, sd, tp, n, sc, sp, px, py, pl, pk, N, M, ls, lv, lx, ly, ab, bl, tn) = (-3, (th, sd, tp, n, sc, sp, px, py, pl, pk, N, M, ls, lv, lx, ly, ab, bl, tn)) := (by simp [fLoad, c4, c17, c26, c42, hpk]); exact ⟨(w1, w2, w3, w4, w5, w6, de, cw, cp, cq, pu, be, nr, dp0, b0, lf0, mo0, us0), by rw [hf], by rw [hf]; rfl⟩), Nat.le_of_ble_eq_true rfl⟩
      · skip
        rw [bI_z] at c26
        refine v_iconst F dX7_load_29 (v := (-1)) (q := 30) rfl rfl ?_
        exact hE rfl dX7_load_30 (Nat.zero_le _) (Nat.zero_le _) ⟨(by have hf : fLoad c0 v1 x1 y1 (th, sd, tp, n, sc, sp, px, py, pl, pk, N, M, ls, lv, lx, ly, ab, bl, tn) = (-1, (th, sd, tp, n, sc, sp, px, py, pl, pk, N, M, ls, lv, lx, ly, ab, bl, tn)) := (by simp [fLoad, c4, c17, c26]); exact ⟨(w1, w2, w3, w4, w5, w6, de, cw, cp, cq, pu, be, nr, dp0, b0, lf0, mo0, us0), by rw [hf], by rw [hf]; rfl⟩), Nat.le_of_ble_eq_true rfl⟩

set_option maxHeartbeats 4000000 in
set_option maxRecDepth 100000 in
theorem c_X7_noLoads (z g ga gb gc h ha hb hc hd o oa ob oc od ca m0 ma mb mc v0 t ta tb : Nat) (th : Nat → Int32) (sd : Nat → Int32) (tp : Nat → Int32) (n : Nat) (sc : Int32) (sp : Int32) (px : Nat → Int32) (py : Nat → Int32) (pl : Nat → Nat) (pk : Nat → Int32) (N : Nat) (M : Nat) (ls : Nat → Nat) (lv : Nat → Int32) (lx : Nat → Int32) (ly : Nat → Int32) (ab : Nat → Int64) (bl : Nat → Int64) (tn : Nat) (w1 : Int) (w2 : Int) (w3 : Int) (w4 : Int) (w5 : Int) (w6 : Int) (de : Int) (cw : Int) (cp : Int) (cq : Int) (pu : Nat → Int32) (be : Nat → Int32) (nr : Nat → Int32) (dp0 : Int32) (b0 : Int32) (lf0 : Int32) (mo0 : Int32) (us0 : Int32) (c0 : Int32) (VI : INV (th, sd, tp, n, sc, sp, px, py, pl, pk, N, M, ls, lv, lx, ly, ab, bl, tn)) : Ct l D (TY cI cJ cZ) yX7_noLoads cX7_noLoads 2 (some .int) 2 42 0 0 [.ref z, .int c0] [(z, .inr (7, [.ref g, .ref h, .ref o, .ref ca, .ref m0, .ref v0, .ref t, .int sp])), (g, .inr (2, [.ref ga, .ref gb, .ref gc, .int (nI n), .int sc])), (ga, .inl (cI, 6, .inl th)), (gb, .inl (cI, 6, .inl sd)), (gc, .inl (cI, 6, .inl tp)), (h, .inr (5, [.ref ha, .ref hb, .ref hc, .ref hd, .int (nI M), .int (nI N)])), (ha, .inl (cI, 12, .inl px)), (hb, .inl (cI, 12, .inl py)), (hc, .inl (cI, 12, .inl (fun i => nI (pl i)))), (hd, .inl (cI, 12, .inl pk)), (o, .inr (4, [.ref oa, .ref ob, .ref oc, .ref od])), (oa, .inl (cI, 3, .inl (fun i => nI (ls i)))), (ob, .inl (cJ, 3, .inr (.inl (fun i => zL (fsum ls lv i))))), (oc, .inl (cJ, 3, .inr (.inl (fun i => zL (fsum2 ls lv lx i))))), (od, .inl (cJ, 3, .inr (.inl (fun i => zL (fsum2 ls lv ly i))))), (ca, .inr (0, [.ref h, .long (zL w1), .long (zL w2), .long (zL w3), .long (zL w4), .long (zL w5), .long (zL w6), .long (zL de), .long (zL cw), .long (zL cp), .long (zL cq)])), (m0, .inr (3, [.ref ma, .ref mb, .ref mc])), (ma, .inl (cI, 12, .inl pu)), (mb, .inl (cI, 12, .inl be)), (mc, .inl (cI, 12, .inl nr)), (v0, .inr (1, [.int dp0, .int b0, .int lf0, .int mo0, .int us0])), (t, .inr (6, [.ref ta, .ref tb, .int (nI tn)])), (ta, .inl (cJ, 15, .inr (.inl ab))), (tb, .inl (cJ, 15, .inr (.inl bl)))] (fun r w => ∃ X : SXy, r = some (.int (fNoLoads c0 (th, sd, tp, n, sc, sp, px, py, pl, pk, N, M, ls, lv, lx, ly, ab, bl, tn)).1) ∧ w = WC cI cJ z g ga gb gc h ha hb hc hd o oa ob oc od ca m0 ma mb mc v0 t ta tb (fNoLoads c0 (th, sd, tp, n, sc, sp, px, py, pl, pk, N, M, ls, lv, lx, ly, ab, bl, tn)).2 X) := by
  refine Ct.ofI (ty := .int) (by decide) (Nat.le_of_ble_eq_true rfl) ?_
  intro p e s m args below meth c A R Q F hnm hcs0 hE
  refine v_lv (lv' := [(0, .ref z), (1, .int c0)]) [0, 1] rfl ?_
  obtain ⟨G, hsp, P, hM, hls, hlv, hlx, hly, htn⟩ := id VI
  have hn6 := G.1
  have hN12 := P.1
  have hM4 : M < 4096 := Nat.lt_of_lt_of_le hM (Nat.pow_le_pow_right (by omega) hN12)
  refine v_iload_n F dX7_noLoads_0 (i := 1) rfl 1 rfl (q := 1) rfl ?_
  refine v_callS F ml_X7_135 sm_X7_isCase in_X7 co_X7_isCase sd_X7_isCase (c_X7_isCase c0) ⟨Nat.zero_le _, Nat.zero_le _⟩ (Nat.le_of_ble_eq_true rfl) (Nat.le_of_ble_eq_true rfl) rfl [] rfl rfl rfl (rest := []) rfl (Nat.le_of_ble_eq_true rfl) dX7_noLoads_1 (q := 4) rfl (fun r w hr => ?_)
  obtain ⟨rfl, rfl⟩ := hr
  refine v_ws (ws' := [(z, .inr (7, [.ref g, .ref h, .ref o, .ref ca, .ref m0, .ref v0, .ref t, .int sp])), (g, .inr (2, [.ref ga, .ref gb, .ref gc, .int (nI n), .int sc])), (ga, .inl (cI, 6, .inl th)), (gb, .inl (cI, 6, .inl sd)), (gc, .inl (cI, 6, .inl tp)), (h, .inr (5, [.ref ha, .ref hb, .ref hc, .ref hd, .int (nI M), .int (nI N)])), (ha, .inl (cI, 12, .inl px)), (hb, .inl (cI, 12, .inl py)), (hc, .inl (cI, 12, .inl (fun i => nI (pl i)))), (hd, .inl (cI, 12, .inl pk)), (o, .inr (4, [.ref oa, .ref ob, .ref oc, .ref od])), (oa, .inl (cI, 3, .inl (fun i => nI (ls i)))), (ob, .inl (cJ, 3, .inr (.inl (fun i => zL (fsum ls lv i))))), (oc, .inl (cJ, 3, .inr (.inl (fun i => zL (fsum2 ls lv lx i))))), (od, .inl (cJ, 3, .inr (.inl (fun i => zL (fsum2 ls lv ly i))))), (ca, .inr (0, [.ref h, .long (zL w1), .long (zL w2), .long (zL w3), .long (zL w4), .long (zL w5), .long (zL w6), .long (zL de), .long (zL cw), .long (zL cp), .long (zL cq)])), (m0, .inr (3, [.ref ma, .ref mb, .ref mc])), (ma, .inl (cI, 12, .inl pu)), (mb, .inl (cI, 12, .inl be)), (mc, .inl (cI, 12, .inl nr)), (v0, .inr (1, [.int dp0, .int b0, .int lf0, .int mo0, .int us0])), (t, .inr (6, [.ref ta, .ref tb, .int (nI tn)])), (ta, .inl (cJ, 15, .inr (.inl ab))), (tb, .inl (cJ, 15, .inr (.inl bl)))]) rfl ?_
  refine v_st (st' := [.int (bI (inR c0 0 2))]) rfl ?_
  refine v_if_ne F dX7_noLoads_4 (tgt := 9) rfl (q := 7) rfl (fun c4 => ?_) (fun c4 => ?_)
  · skip
    rw [bI_nz] at c4
    obtain ⟨k, hk, rfl⟩ : ∃ k : Nat, k < 3 ∧ c0 = nI k := case_ex c4
    have hpk := pN_nI (k := k) (by omega)
    have hlk := hls k
    refine v_aload_n F dX7_noLoads_9 (i := 0) rfl 0 rfl (q := 10) rfl ?_
    refine gt_X7_26 F dX7_noLoads_10 0 rfl rfl (q := 13) rfl ?_
    refine v_iload_n F dX7_noLoads_13 (i := 1) rfl 1 rfl (q := 14) rfl ?_
    refine v_callVN F ml_X7_141 im_X4_clear se_X4_clear in_X4 co_X4_clear sd_X4_clear (c_X4_clear o oa ob oc od ls (fsum ls lv) (fsum2 ls lv lx) (fsum2 ls lv ly) k (by omega)) ⟨Nat.zero_le _, Nat.zero_le _⟩ (Nat.le_of_ble_eq_true rfl) (Nat.le_of_ble_eq_true rfl) 10 (As := [.int (nI k)]) rfl rfl rfl rfl rfl [10, 11, 12, 13, 14] rfl rfl rfl (rest := []) rfl (Nat.le_of_ble_eq_true rfl) dX7_noLoads_14 (q := 17) rfl (fun r w hr => ?_)
    obtain ⟨rfl, rfl⟩ := hr
    refine v_ws (ws' := [(z, .inr (7, [.ref g, .ref h, .ref o, .ref ca, .ref m0, .ref v0, .ref t, .int sp])), (g, .inr (2, [.ref ga, .ref gb, .ref gc, .int (nI n), .int sc])), (ga, .inl (cI, 6, .inl th)), (gb, .inl (cI, 6, .inl sd)), (gc, .inl (cI, 6, .inl tp)), (h, .inr (5, [.ref ha, .ref hb, .ref hc, .ref hd, .int (nI M), .int (nI N)])), (ha, .inl (cI, 12, .inl px)), (hb, .inl (cI, 12, .inl py)), (hc, .inl (cI, 12, .inl (fun i => nI (pl i)))), (hd, .inl (cI, 12, .inl pk)), (o, .inr (4, [.ref oa, .ref ob, .ref oc, .ref od])), (oa, .inl (cI, 3, .inl (fun i => nI (updN ls k 0 i)))), (ob, .inl (cJ, 3, .inr (.inl (fun i => zL (updZ (fsum ls lv) k 0 i))))), (oc, .inl (cJ, 3, .inr (.inl (fun i => zL (updZ (fsum2 ls lv lx) k 0 i))))), (od, .inl (cJ, 3, .inr (.inl (fun i => zL (updZ (fsum2 ls lv ly) k 0 i))))), (ca, .inr (0, [.ref h, .long (zL w1), .long (zL w2), .long (zL w3), .long (zL w4), .long (zL w5), .long (zL w6), .long (zL de), .long (zL cw), .long (zL cp), .long (zL cq)])), (m0, .inr (3, [.ref ma, .ref mb, .ref mc])), (ma, .inl (cI, 12, .inl pu)), (mb, .inl (cI, 12, .inl be)), (mc, .inl (cI, 12, .inl nr)), (v0, .inr (1, [.int dp0, .int b0, .int lf0, .int mo0, .int us0])), (t, .inr (6, [.ref ta, .ref tb, .int (nI tn)])), (ta, .inl (cJ, 15, .inr (.inl ab))), (tb, .inl (cJ, 15, .inr (.inl bl)))]) ((wset_wgo (nodup_of rfl) rfl).trans rfl) ?_
    refine v_st (st' := [.int (nI (ls k))]) rfl ?_
    exact hE rfl dX7_noLoads_17 (Nat.zero_le _) (Nat.zero_le _) ⟨(by have hf : fNoLoads (nI k) (th, sd, tp, n, sc, sp, px, py, pl, pk, N, M, ls, lv, lx, ly, ab, bl, tn) = (nI (ls k), (th, sd, tp, n, sc, sp, px, py, pl, pk, N, M, updN ls k 0, lv, lx, ly, ab, bl, tn)) := (by simp [fNoLoads, c4, hpk]); exact ⟨(w1, w2, w3, w4, w5, w6, de, cw, cp, cq, pu, be, nr, dp0, b0, lf0, mo0, us0), by rw [hf], by rw [hf, fs_clr, fs_clr2, fs_clr2]; rfl⟩), Nat.le_of_ble_eq_true rfl⟩
  · skip
    rw [bI_z] at c4
    refine v_iconst F dX7_noLoads_7 (v := (-1)) (q := 8) rfl rfl ?_
    exact hE rfl dX7_noLoads_8 (Nat.zero_le _) (Nat.zero_le _) ⟨(by have hf : fNoLoads c0 (th, sd, tp, n, sc, sp, px, py, pl, pk, N, M, ls, lv, lx, ly, ab, bl, tn) = (-1, (th, sd, tp, n, sc, sp, px, py, pl, pk, N, M, ls, lv, lx, ly, ab, bl, tn)) := (by simp [fNoLoads, c4]); exact ⟨(w1, w2, w3, w4, w5, w6, de, cw, cp, cq, pu, be, nr, dp0, b0, lf0, mo0, us0), by rw [hf], by rw [hf]; rfl⟩), Nat.le_of_ble_eq_true rfl⟩

set_option maxHeartbeats 4000000 in
set_option maxRecDepth 100000 in
theorem c_X7_number (z g ga gb gc h ha hb hc hd o oa ob oc od ca m0 ma mb mc v0 t ta tb : Nat) (th : Nat → Int32) (sd : Nat → Int32) (tp : Nat → Int32) (n : Nat) (sc : Int32) (sp : Int32) (px : Nat → Int32) (py : Nat → Int32) (pl : Nat → Nat) (pk : Nat → Int32) (N : Nat) (M : Nat) (ls : Nat → Nat) (lv : Nat → Int32) (lx : Nat → Int32) (ly : Nat → Int32) (ab : Nat → Int64) (bl : Nat → Int64) (tn : Nat) (w1 : Int) (w2 : Int) (w3 : Int) (w4 : Int) (w5 : Int) (w6 : Int) (de : Int) (cw : Int) (cp : Int) (cq : Int) (pu : Nat → Int32) (be : Nat → Int32) (nr : Nat → Int32) (dp0 : Int32) (b0 : Int32) (lf0 : Int32) (mo0 : Int32) (us0 : Int32) (i1 what : Int32) (VI : INV (th, sd, tp, n, sc, sp, px, py, pl, pk, N, M, ls, lv, lx, ly, ab, bl, tn)) : Ct l D (TY cI cJ cZ) yX7_number cX7_number 3 (some .long) 1 22 0 0 [.ref z, .int i1, .int what] [(z, .inr (7, [.ref g, .ref h, .ref o, .ref ca, .ref m0, .ref v0, .ref t, .int sp])), (g, .inr (2, [.ref ga, .ref gb, .ref gc, .int (nI n), .int sc])), (ga, .inl (cI, 6, .inl th)), (gb, .inl (cI, 6, .inl sd)), (gc, .inl (cI, 6, .inl tp)), (h, .inr (5, [.ref ha, .ref hb, .ref hc, .ref hd, .int (nI M), .int (nI N)])), (ha, .inl (cI, 12, .inl px)), (hb, .inl (cI, 12, .inl py)), (hc, .inl (cI, 12, .inl (fun i => nI (pl i)))), (hd, .inl (cI, 12, .inl pk)), (o, .inr (4, [.ref oa, .ref ob, .ref oc, .ref od])), (oa, .inl (cI, 3, .inl (fun i => nI (ls i)))), (ob, .inl (cJ, 3, .inr (.inl (fun i => zL (fsum ls lv i))))), (oc, .inl (cJ, 3, .inr (.inl (fun i => zL (fsum2 ls lv lx i))))), (od, .inl (cJ, 3, .inr (.inl (fun i => zL (fsum2 ls lv ly i))))), (ca, .inr (0, [.ref h, .long (zL w1), .long (zL w2), .long (zL w3), .long (zL w4), .long (zL w5), .long (zL w6), .long (zL de), .long (zL cw), .long (zL cp), .long (zL cq)])), (m0, .inr (3, [.ref ma, .ref mb, .ref mc])), (ma, .inl (cI, 12, .inl pu)), (mb, .inl (cI, 12, .inl be)), (mc, .inl (cI, 12, .inl nr)), (v0, .inr (1, [.int dp0, .int b0, .int lf0, .int mo0, .int us0])), (t, .inr (6, [.ref ta, .ref tb, .int (nI tn)])), (ta, .inl (cJ, 15, .inr (.inl ab))), (tb, .inl (cJ, 15, .inr (.inl bl)))] (fun r w => ∃ X : SXy, r = some (.long (fNumber i1 what (th, sd, tp, n, sc, sp, px, py, pl, pk, N, M, ls, lv, lx, ly, ab, bl, tn)).1) ∧ w = WC cI cJ z g ga gb gc h ha hb hc hd o oa ob oc od ca m0 ma mb mc v0 t ta tb (fNumber i1 what (th, sd, tp, n, sc, sp, px, py, pl, pk, N, M, ls, lv, lx, ly, ab, bl, tn)).2 X) := by
  refine Ct.ofL (by decide) (Nat.le_of_ble_eq_true rfl) ?_
  intro p e s m args below meth c A R Q F hnm hcs0 hE
  refine v_lv (lv' := [(0, .ref z), (1, .int i1), (2, .int what)]) [0, 1, 2] rfl ?_
  obtain ⟨G, hsp, P, hM, hls, hlv, hlx, hly, htn⟩ := id VI
  have hn6 := G.1
  have hN12 := P.1
  have hM4 : M < 4096 := Nat.lt_of_lt_of_le hM (Nat.pow_le_pow_right (by omega) hN12)
  refine v_iload_n F dX7_number_0 (i := 1) rfl 1 rfl (q := 1) rfl ?_
  refine v_if_lt F dX7_number_1 (tgt := 13) rfl (q := 4) rfl (fun c1 => ?_) (fun c1 => ?_)
  · skip
    refine v_ldc2 F kc_X7_233 dX7_number_13 (q := 16) rfl ?_
    exact hE dX7_number_16 (Nat.zero_le _) (Nat.zero_le _) ⟨(by have hf : fNumber i1 what (th, sd, tp, n, sc, sp, px, py, pl, pk, N, M, ls, lv, lx, ly, ab, bl, tn) = (-1, (th, sd, tp, n, sc, sp, px, py, pl, pk, N, M, ls, lv, lx, ly, ab, bl, tn)) := (by simp only [fNumber]; rw [if_pos (Or.inl (by rw [Int32.lt_iff_toInt_lt] at c1; exact c1))]); exact ⟨(w1, w2, w3, w4, w5, w6, de, cw, cp, cq, pu, be, nr, dp0, b0, lf0, mo0, us0), by rw [hf], by rw [hf]; rfl⟩), Nat.le_of_ble_eq_true rfl⟩
  · skip
    refine v_iload_n F dX7_number_4 (i := 2) rfl 2 rfl (q := 5) rfl ?_
    refine v_iconst F dX7_number_5 (v := 0) (q := 6) rfl rfl ?_
    refine v_iconst F dX7_number_6 (v := 1) (q := 7) rfl rfl ?_
    refine v_callS F ml_X7_64 sm_X7_within in_X7 co_X7_within sd_X7_within (c_X7_within what 0 1) ⟨Nat.zero_le _, Nat.zero_le _⟩ (Nat.le_of_ble_eq_true rfl) (Nat.le_of_ble_eq_true rfl) rfl [] rfl rfl rfl (rest := []) rfl (Nat.le_of_ble_eq_true rfl) dX7_number_7 (q := 10) rfl (fun r w hr => ?_)
    obtain ⟨rfl, rfl⟩ := hr
    refine v_ws (ws' := [(z, .inr (7, [.ref g, .ref h, .ref o, .ref ca, .ref m0, .ref v0, .ref t, .int sp])), (g, .inr (2, [.ref ga, .ref gb, .ref gc, .int (nI n), .int sc])), (ga, .inl (cI, 6, .inl th)), (gb, .inl (cI, 6, .inl sd)), (gc, .inl (cI, 6, .inl tp)), (h, .inr (5, [.ref ha, .ref hb, .ref hc, .ref hd, .int (nI M), .int (nI N)])), (ha, .inl (cI, 12, .inl px)), (hb, .inl (cI, 12, .inl py)), (hc, .inl (cI, 12, .inl (fun i => nI (pl i)))), (hd, .inl (cI, 12, .inl pk)), (o, .inr (4, [.ref oa, .ref ob, .ref oc, .ref od])), (oa, .inl (cI, 3, .inl (fun i => nI (ls i)))), (ob, .inl (cJ, 3, .inr (.inl (fun i => zL (fsum ls lv i))))), (oc, .inl (cJ, 3, .inr (.inl (fun i => zL (fsum2 ls lv lx i))))), (od, .inl (cJ, 3, .inr (.inl (fun i => zL (fsum2 ls lv ly i))))), (ca, .inr (0, [.ref h, .long (zL w1), .long (zL w2), .long (zL w3), .long (zL w4), .long (zL w5), .long (zL w6), .long (zL de), .long (zL cw), .long (zL cp), .long (zL cq)])), (m0, .inr (3, [.ref ma, .ref mb, .ref mc])), (ma, .inl (cI, 12, .inl pu)), (mb, .inl (cI, 12, .inl be)), (mc, .inl (cI, 12, .inl nr)), (v0, .inr (1, [.int dp0, .int b0, .int lf0, .int mo0, .int us0])), (t, .inr (6, [.ref ta, .ref tb, .int (nI tn)])), (ta, .inl (cJ, 15, .inr (.inl ab))), (tb, .inl (cJ, 15, .inr (.inl bl)))]) rfl ?_
    refine v_st (st' := [.int (bI (inR what 0 1))]) rfl ?_
    refine v_if_ne F dX7_number_10 (tgt := 17) rfl (q := 13) rfl (fun c10 => ?_) (fun c10 => ?_)
    · skip
      rw [bI_nz] at c10
      refine v_iload_n F dX7_number_17 (i := 1) rfl 1 rfl (q := 18) rfl ?_
      refine v_aload_n F dX7_number_18 (i := 0) rfl 0 rfl (q := 19) rfl ?_
      refine gt_X7_56 F dX7_number_19 0 rfl rfl (q := 22) rfl ?_
      refine gt_X7_235 F dX7_number_22 21 rfl rfl (q := 25) rfl ?_
      refine v_icmp_lt F dX7_number_25 (tgt := 32) rfl (q := 28) rfl (fun c25 => ?_) (fun c25 => ?_)
      · skip
        obtain ⟨k, hk, rfl⟩ : ∃ k : Nat, k < tn ∧ i1 = nI k := num_ex (by omega) c1 c25
        have hpk := pN_nI (k := k) (by omega)
        refine v_iload_n F dX7_number_32 (i := 2) rfl 2 rfl (q := 33) rfl ?_
        refine v_if_ne F dX7_number_33 (tgt := 48) rfl (q := 36) rfl (fun c33 => ?_) (fun c33 => ?_)
        · skip
          refine v_aload_n F dX7_number_48 (i := 0) rfl 0 rfl (q := 49) rfl ?_
          refine gt_X7_56 F dX7_number_49 0 rfl rfl (q := 52) rfl ?_
          refine gt_X7_242 F dX7_number_52 21 rfl rfl (q := 55) rfl ?_
          refine v_iload_n F dX7_number_55 (i := 1) rfl 1 rfl (q := 56) rfl ?_
          refine v_laldN F 23 1 rfl rfl (j := k) (by omega) (by decide) dX7_number_56 (q := 57) rfl ?_
          exact hE dX7_number_57 (Nat.zero_le _) (Nat.zero_le _) ⟨(by have hf : fNumber (nI k) what (th, sd, tp, n, sc, sp, px, py, pl, pk, N, M, ls, lv, lx, ly, ab, bl, tn) = (bl k, (th, sd, tp, n, sc, sp, px, py, pl, pk, N, M, ls, lv, lx, ly, ab, bl, tn)) := (by simp only [fNumber]; rw [if_neg (fun z => z.elim (fun q => c1 (by rw [Int32.lt_iff_toInt_lt]; exact q)) (fun q => by rw [c10] at q; cases q)), if_neg (by rw [nI_toInt (by omega)]; omega), hpk, if_neg c33]); exact ⟨(w1, w2, w3, w4, w5, w6, de, cw, cp, cq, pu, be, nr, dp0, b0, lf0, mo0, us0), by rw [hf], by rw [hf]; rfl⟩), Nat.le_of_ble_eq_true rfl⟩
        · skip
          refine v_aload_n F dX7_number_36 (i := 0) rfl 0 rfl (q := 37) rfl ?_
          refine gt_X7_56 F dX7_number_37 0 rfl rfl (q := 40) rfl ?_
          refine gt_X7_238 F dX7_number_40 21 rfl rfl (q := 43) rfl ?_
          refine v_iload_n F dX7_number_43 (i := 1) rfl 1 rfl (q := 44) rfl ?_
          refine v_laldN F 22 1 rfl rfl (j := k) (by omega) (by decide) dX7_number_44 (q := 45) rfl ?_
          refine v_goto F dX7_number_45 (tgt := 57) rfl ?_
          exact hE dX7_number_57 (Nat.zero_le _) (Nat.zero_le _) ⟨(by have hf : fNumber (nI k) what (th, sd, tp, n, sc, sp, px, py, pl, pk, N, M, ls, lv, lx, ly, ab, bl, tn) = (ab k, (th, sd, tp, n, sc, sp, px, py, pl, pk, N, M, ls, lv, lx, ly, ab, bl, tn)) := (by simp only [fNumber]; rw [if_neg (fun z => z.elim (fun q => c1 (by rw [Int32.lt_iff_toInt_lt]; exact q)) (fun q => by rw [c10] at q; cases q)), if_neg (by rw [nI_toInt (by omega)]; omega), hpk, if_pos c33]); exact ⟨(w1, w2, w3, w4, w5, w6, de, cw, cp, cq, pu, be, nr, dp0, b0, lf0, mo0, us0), by rw [hf], by rw [hf]; rfl⟩), Nat.le_of_ble_eq_true rfl⟩
      · skip
        refine v_ldc2 F kc_X7_236 dX7_number_28 (q := 31) rfl ?_
        exact hE dX7_number_31 (Nat.zero_le _) (Nat.zero_le _) ⟨(by have hf : fNumber i1 what (th, sd, tp, n, sc, sp, px, py, pl, pk, N, M, ls, lv, lx, ly, ab, bl, tn) = (-4, (th, sd, tp, n, sc, sp, px, py, pl, pk, N, M, ls, lv, lx, ly, ab, bl, tn)) := (by simp only [fNumber]; rw [if_neg (fun z => z.elim (fun q => c1 (by rw [Int32.lt_iff_toInt_lt]; exact q)) (fun q => by rw [c10] at q; cases q)), if_pos (by rw [Int32.lt_iff_toInt_lt, nI_toInt (by omega)] at c25; omega)]); exact ⟨(w1, w2, w3, w4, w5, w6, de, cw, cp, cq, pu, be, nr, dp0, b0, lf0, mo0, us0), by rw [hf], by rw [hf]; rfl⟩), Nat.le_of_ble_eq_true rfl⟩
    · skip
      rw [bI_z] at c10
      refine v_ldc2 F kc_X7_233 dX7_number_13 (q := 16) rfl ?_
      exact hE dX7_number_16 (Nat.zero_le _) (Nat.zero_le _) ⟨(by have hf : fNumber i1 what (th, sd, tp, n, sc, sp, px, py, pl, pk, N, M, ls, lv, lx, ly, ab, bl, tn) = (-1, (th, sd, tp, n, sc, sp, px, py, pl, pk, N, M, ls, lv, lx, ly, ab, bl, tn)) := (by simp only [fNumber]; rw [if_pos (Or.inr c10)]); exact ⟨(w1, w2, w3, w4, w5, w6, de, cw, cp, cq, pu, be, nr, dp0, b0, lf0, mo0, us0), by rw [hf], by rw [hf]; rfl⟩), Nat.le_of_ble_eq_true rfl⟩

set_option maxHeartbeats 4000000 in
set_option maxRecDepth 100000 in
theorem c_X7_count (z g ga gb gc h ha hb hc hd o oa ob oc od ca m0 ma mb mc v0 t ta tb : Nat) (th : Nat → Int32) (sd : Nat → Int32) (tp : Nat → Int32) (n : Nat) (sc : Int32) (sp : Int32) (px : Nat → Int32) (py : Nat → Int32) (pl : Nat → Nat) (pk : Nat → Int32) (N : Nat) (M : Nat) (ls : Nat → Nat) (lv : Nat → Int32) (lx : Nat → Int32) (ly : Nat → Int32) (ab : Nat → Int64) (bl : Nat → Int64) (tn : Nat) (w1 : Int) (w2 : Int) (w3 : Int) (w4 : Int) (w5 : Int) (w6 : Int) (de : Int) (cw : Int) (cp : Int) (cq : Int) (pu : Nat → Int32) (be : Nat → Int32) (nr : Nat → Int32) (dp0 : Int32) (b0 : Int32) (lf0 : Int32) (mo0 : Int32) (us0 : Int32) (what : Int32) (VI : INV (th, sd, tp, n, sc, sp, px, py, pl, pk, N, M, ls, lv, lx, ly, ab, bl, tn)) : Ct l D (TY cI cJ cZ) yX7_count cX7_count 2 (some .int) 1 22 0 0 [.ref z, .int what] [(z, .inr (7, [.ref g, .ref h, .ref o, .ref ca, .ref m0, .ref v0, .ref t, .int sp])), (g, .inr (2, [.ref ga, .ref gb, .ref gc, .int (nI n), .int sc])), (ga, .inl (cI, 6, .inl th)), (gb, .inl (cI, 6, .inl sd)), (gc, .inl (cI, 6, .inl tp)), (h, .inr (5, [.ref ha, .ref hb, .ref hc, .ref hd, .int (nI M), .int (nI N)])), (ha, .inl (cI, 12, .inl px)), (hb, .inl (cI, 12, .inl py)), (hc, .inl (cI, 12, .inl (fun i => nI (pl i)))), (hd, .inl (cI, 12, .inl pk)), (o, .inr (4, [.ref oa, .ref ob, .ref oc, .ref od])), (oa, .inl (cI, 3, .inl (fun i => nI (ls i)))), (ob, .inl (cJ, 3, .inr (.inl (fun i => zL (fsum ls lv i))))), (oc, .inl (cJ, 3, .inr (.inl (fun i => zL (fsum2 ls lv lx i))))), (od, .inl (cJ, 3, .inr (.inl (fun i => zL (fsum2 ls lv ly i))))), (ca, .inr (0, [.ref h, .long (zL w1), .long (zL w2), .long (zL w3), .long (zL w4), .long (zL w5), .long (zL w6), .long (zL de), .long (zL cw), .long (zL cp), .long (zL cq)])), (m0, .inr (3, [.ref ma, .ref mb, .ref mc])), (ma, .inl (cI, 12, .inl pu)), (mb, .inl (cI, 12, .inl be)), (mc, .inl (cI, 12, .inl nr)), (v0, .inr (1, [.int dp0, .int b0, .int lf0, .int mo0, .int us0])), (t, .inr (6, [.ref ta, .ref tb, .int (nI tn)])), (ta, .inl (cJ, 15, .inr (.inl ab))), (tb, .inl (cJ, 15, .inr (.inl bl)))] (fun r w => ∃ X : SXy, r = some (.int (fCount what (th, sd, tp, n, sc, sp, px, py, pl, pk, N, M, ls, lv, lx, ly, ab, bl, tn)).1) ∧ w = WC cI cJ z g ga gb gc h ha hb hc hd o oa ob oc od ca m0 ma mb mc v0 t ta tb (fCount what (th, sd, tp, n, sc, sp, px, py, pl, pk, N, M, ls, lv, lx, ly, ab, bl, tn)).2 X) := by
  refine Ct.ofI (ty := .int) (by decide) (Nat.le_of_ble_eq_true rfl) ?_
  intro p e s m args below meth c A R Q F hnm hcs0 hE
  refine v_lv (lv' := [(0, .ref z), (1, .int what)]) [0, 1] rfl ?_
  obtain ⟨G, hsp, P, hM, hls, hlv, hlx, hly, htn⟩ := id VI
  have hn6 := G.1
  have hN12 := P.1
  have hM4 : M < 4096 := Nat.lt_of_lt_of_le hM (Nat.pow_le_pow_right (by omega) hN12)
  refine v_iload_n F dX7_count_0 (i := 1) rfl 1 rfl (q := 1) rfl ?_
  rcases ts_3 what with c1 | c1 | c1 | c1 | c1
  · skip
    refine v_tableIn F dX7_count_1 (by rw [c1]; decide) (by rw [c1]; decide) (off := 31) (by rw [c1]; rfl) (tgt := 32) rfl ?_
    refine v_aload_n F dX7_count_32 (i := 0) rfl 0 rfl (q := 33) rfl ?_
    refine gt_X7_12 F dX7_count_33 0 rfl rfl (q := 36) rfl ?_
    refine gt_X7_75 F dX7_count_36 1 rfl rfl (q := 39) rfl ?_
    exact hE rfl dX7_count_39 (Nat.zero_le _) (Nat.zero_le _) ⟨(by have hf : fCount what (th, sd, tp, n, sc, sp, px, py, pl, pk, N, M, ls, lv, lx, ly, ab, bl, tn) = (nI n, (th, sd, tp, n, sc, sp, px, py, pl, pk, N, M, ls, lv, lx, ly, ab, bl, tn)) := (by simp [fCount, c1]); exact ⟨(w1, w2, w3, w4, w5, w6, de, cw, cp, cq, pu, be, nr, dp0, b0, lf0, mo0, us0), by rw [hf], by rw [hf]; rfl⟩), Nat.le_of_ble_eq_true rfl⟩
  · skip
    refine v_tableIn F dX7_count_1 (by rw [c1]; decide) (by rw [c1]; decide) (off := 39) (by rw [c1]; rfl) (tgt := 40) rfl ?_
    refine v_aload_n F dX7_count_40 (i := 0) rfl 0 rfl (q := 41) rfl ?_
    refine gt_X7_19 F dX7_count_41 0 rfl rfl (q := 44) rfl ?_
    refine gt_X7_100 F dX7_count_44 5 rfl rfl (q := 47) rfl ?_
    exact hE rfl dX7_count_47 (Nat.zero_le _) (Nat.zero_le _) ⟨(by have hf : fCount what (th, sd, tp, n, sc, sp, px, py, pl, pk, N, M, ls, lv, lx, ly, ab, bl, tn) = (nI N, (th, sd, tp, n, sc, sp, px, py, pl, pk, N, M, ls, lv, lx, ly, ab, bl, tn)) := (by simp [fCount, c1]); exact ⟨(w1, w2, w3, w4, w5, w6, de, cw, cp, cq, pu, be, nr, dp0, b0, lf0, mo0, us0), by rw [hf], by rw [hf]; rfl⟩), Nat.le_of_ble_eq_true rfl⟩
  · skip
    refine v_tableIn F dX7_count_1 (by rw [c1]; decide) (by rw [c1]; decide) (off := 47) (by rw [c1]; rfl) (tgt := 48) rfl ?_
    refine v_aload_n F dX7_count_48 (i := 0) rfl 0 rfl (q := 49) rfl ?_
    refine gt_X7_19 F dX7_count_49 0 rfl rfl (q := 52) rfl ?_
    refine gt_X7_173 F dX7_count_52 5 rfl rfl (q := 55) rfl ?_
    refine v_callS F ml_X7_192 sm_J6_bitCount_0f7a4 in_J6 co_J6_bitCount_0f7a4 sd_J6_bitCount_0f7a4 (c_J6_bitCount_0f7a4 (nI M)) ⟨Nat.zero_le _, Nat.zero_le _⟩ (Nat.le_of_ble_eq_true rfl) (Nat.le_of_ble_eq_true rfl) rfl [] rfl rfl rfl (rest := []) rfl (Nat.le_of_ble_eq_true rfl) dX7_count_55 (q := 58) rfl (fun r w hr => ?_)
    obtain ⟨rfl, rfl⟩ := hr
    refine v_ws (ws' := [(z, .inr (7, [.ref g, .ref h, .ref o, .ref ca, .ref m0, .ref v0, .ref t, .int sp])), (g, .inr (2, [.ref ga, .ref gb, .ref gc, .int (nI n), .int sc])), (ga, .inl (cI, 6, .inl th)), (gb, .inl (cI, 6, .inl sd)), (gc, .inl (cI, 6, .inl tp)), (h, .inr (5, [.ref ha, .ref hb, .ref hc, .ref hd, .int (nI M), .int (nI N)])), (ha, .inl (cI, 12, .inl px)), (hb, .inl (cI, 12, .inl py)), (hc, .inl (cI, 12, .inl (fun i => nI (pl i)))), (hd, .inl (cI, 12, .inl pk)), (o, .inr (4, [.ref oa, .ref ob, .ref oc, .ref od])), (oa, .inl (cI, 3, .inl (fun i => nI (ls i)))), (ob, .inl (cJ, 3, .inr (.inl (fun i => zL (fsum ls lv i))))), (oc, .inl (cJ, 3, .inr (.inl (fun i => zL (fsum2 ls lv lx i))))), (od, .inl (cJ, 3, .inr (.inl (fun i => zL (fsum2 ls lv ly i))))), (ca, .inr (0, [.ref h, .long (zL w1), .long (zL w2), .long (zL w3), .long (zL w4), .long (zL w5), .long (zL w6), .long (zL de), .long (zL cw), .long (zL cp), .long (zL cq)])), (m0, .inr (3, [.ref ma, .ref mb, .ref mc])), (ma, .inl (cI, 12, .inl pu)), (mb, .inl (cI, 12, .inl be)), (mc, .inl (cI, 12, .inl nr)), (v0, .inr (1, [.int dp0, .int b0, .int lf0, .int mo0, .int us0])), (t, .inr (6, [.ref ta, .ref tb, .int (nI tn)])), (ta, .inl (cJ, 15, .inr (.inl ab))), (tb, .inl (cJ, 15, .inr (.inl bl)))]) rfl ?_
    refine v_st (st' := [.int (bcI (nI M))]) rfl ?_
    refine v_int (y := nI (popc M)) (bc_ok hM4) ?_
    exact hE rfl dX7_count_58 (Nat.zero_le _) (Nat.zero_le _) ⟨(by have hf : fCount what (th, sd, tp, n, sc, sp, px, py, pl, pk, N, M, ls, lv, lx, ly, ab, bl, tn) = (nI (popc M), (th, sd, tp, n, sc, sp, px, py, pl, pk, N, M, ls, lv, lx, ly, ab, bl, tn)) := (by simp [fCount, c1]); exact ⟨(w1, w2, w3, w4, w5, w6, de, cw, cp, cq, pu, be, nr, dp0, b0, lf0, mo0, us0), by rw [hf], by rw [hf]; rfl⟩), Nat.le_of_ble_eq_true rfl⟩
  · skip
    refine v_tableIn F dX7_count_1 (by rw [c1]; decide) (by rw [c1]; decide) (off := 58) (by rw [c1]; rfl) (tgt := 59) rfl ?_
    refine v_aload_n F dX7_count_59 (i := 0) rfl 0 rfl (q := 60) rfl ?_
    refine gt_X7_26 F dX7_count_60 0 rfl rfl (q := 63) rfl ?_
    refine v_callVN F ml_X7_244 im_X4_all se_X4_all in_X4 co_X4_all sd_X4_all (c_X4_all o oa ob oc od ls (fsum ls lv) (fsum2 ls lv lx) (fsum2 ls lv ly)) ⟨Nat.zero_le _, Nat.zero_le _⟩ (Nat.le_of_ble_eq_true rfl) (Nat.le_of_ble_eq_true rfl) 10 (As := []) rfl rfl rfl rfl rfl [10, 11, 12, 13, 14] rfl rfl rfl (rest := []) rfl (Nat.le_of_ble_eq_true rfl) dX7_count_63 (q := 66) rfl (fun r w hr => ?_)
    obtain ⟨rfl, rfl⟩ := hr
    refine v_ws (ws' := [(z, .inr (7, [.ref g, .ref h, .ref o, .ref ca, .ref m0, .ref v0, .ref t, .int sp])), (g, .inr (2, [.ref ga, .ref gb, .ref gc, .int (nI n), .int sc])), (ga, .inl (cI, 6, .inl th)), (gb, .inl (cI, 6, .inl sd)), (gc, .inl (cI, 6, .inl tp)), (h, .inr (5, [.ref ha, .ref hb, .ref hc, .ref hd, .int (nI M), .int (nI N)])), (ha, .inl (cI, 12, .inl px)), (hb, .inl (cI, 12, .inl py)), (hc, .inl (cI, 12, .inl (fun i => nI (pl i)))), (hd, .inl (cI, 12, .inl pk)), (o, .inr (4, [.ref oa, .ref ob, .ref oc, .ref od])), (oa, .inl (cI, 3, .inl (fun i => nI (ls i)))), (ob, .inl (cJ, 3, .inr (.inl (fun i => zL (fsum ls lv i))))), (oc, .inl (cJ, 3, .inr (.inl (fun i => zL (fsum2 ls lv lx i))))), (od, .inl (cJ, 3, .inr (.inl (fun i => zL (fsum2 ls lv ly i))))), (ca, .inr (0, [.ref h, .long (zL w1), .long (zL w2), .long (zL w3), .long (zL w4), .long (zL w5), .long (zL w6), .long (zL de), .long (zL cw), .long (zL cp), .long (zL cq)])), (m0, .inr (3, [.ref ma, .ref mb, .ref mc])), (ma, .inl (cI, 12, .inl pu)), (mb, .inl (cI, 12, .inl be)), (mc, .inl (cI, 12, .inl nr)), (v0, .inr (1, [.int dp0, .int b0, .int lf0, .int mo0, .int us0])), (t, .inr (6, [.ref ta, .ref tb, .int (nI tn)])), (ta, .inl (cJ, 15, .inr (.inl ab))), (tb, .inl (cJ, 15, .inr (.inl bl)))]) ((wset_wgo (nodup_of rfl) rfl).trans rfl) ?_
    refine v_st (st' := [.int (nI (nsum ls 3))]) rfl ?_
    exact hE rfl dX7_count_66 (Nat.zero_le _) (Nat.zero_le _) ⟨(by have hf : fCount what (th, sd, tp, n, sc, sp, px, py, pl, pk, N, M, ls, lv, lx, ly, ab, bl, tn) = (nI (nsum ls 3), (th, sd, tp, n, sc, sp, px, py, pl, pk, N, M, ls, lv, lx, ly, ab, bl, tn)) := (by simp [fCount, c1]); exact ⟨(w1, w2, w3, w4, w5, w6, de, cw, cp, cq, pu, be, nr, dp0, b0, lf0, mo0, us0), by rw [hf], by rw [hf]; rfl⟩), Nat.le_of_ble_eq_true rfl⟩
  · skip
    refine v_tableOut F dX7_count_1 (by omega) (tgt := 67) rfl ?_
    refine v_iconst F dX7_count_67 (v := (-1)) (q := 68) rfl rfl ?_
    exact hE rfl dX7_count_68 (Nat.zero_le _) (Nat.zero_le _) ⟨(by have hf : fCount what (th, sd, tp, n, sc, sp, px, py, pl, pk, N, M, ls, lv, lx, ly, ab, bl, tn) = (-1, (th, sd, tp, n, sc, sp, px, py, pl, pk, N, M, ls, lv, lx, ly, ab, bl, tn)) := (by simp [fCount, ct_no c1]); exact ⟨(w1, w2, w3, w4, w5, w6, de, cw, cp, cq, pu, be, nr, dp0, b0, lf0, mo0, us0), by rw [hf], by rw [hf]; rfl⟩), Nat.le_of_ble_eq_true rfl⟩

end TO