section TP
variable {l : Launch} {D : va_G} {cI cJ cZ : ClassId}
set_option maxHeartbeats 4000000 in
set_option maxRecDepth 100000 in
theorem c_X7_holds (z g ga gb gc h ha hb hc hd o oa ob oc od ca m0 ma mb mc v0 t ta tb : Nat) (th : Nat → Int32) (sd : Nat → Int32) (tp : Nat → Int32) (n : Nat) (sc : Int32) (sp : Int32) (px : Nat → Int32) (py : Nat → Int32) (pl : Nat → Nat) (pk : Nat → Int32) (N : Nat) (M : Nat) (ls : Nat → Nat) (lv : Nat → Int32) (lx : Nat → Int32) (ly : Nat → Int32) (ab : Nat → Int64) (bl : Nat → Int64) (tn : Nat) (w1 : Int) (w2 : Int) (w3 : Int) (w4 : Int) (w5 : Int) (w6 : Int) (de : Int) (cw : Int) (cp : Int) (cq : Int) (pu : Nat → Int32) (be : Nat → Int32) (nr : Nat → Int32) (dp0 : Int32) (b0 : Int32) (lf0 : Int32) (mo0 : Int32) (us0 : Int32) (B : Nat) (VI : INV (th, sd, tp, n, sc, sp, px, py, pl, pk, N, M, ls, lv, lx, ly, ab, bl, tn)) (hB : B < 4096) (hpu : ∀ k, k < N → pu k = zI (gPU th sd n sc (pl k))) (hbe : ∀ k, k < N → be k = zI (gBE th sd tp n sc (pl k))) (hnr : ∀ k, B.testBit k = true → nr k = nI (nrM px py sp k N)) : Ct l D (TY cI cJ cZ) yX7_holds cX7_holds 3 (some .boolean) 2 48 0 0 [.ref z, .int (nI B)] [(z, .inr (7, [.ref g, .ref h, .ref o, .ref ca, .ref m0, .ref v0, .ref t, .int sp])), (g, .inr (2, [.ref ga, .ref gb, .ref gc, .int (nI n), .int sc])), (ga, .inl (cI, 6, .inl th)), (gb, .inl (cI, 6, .inl sd)), (gc, .inl (cI, 6, .inl tp)), (h, .inr (5, [.ref ha, .ref hb, .ref hc, .ref hd, .int (nI M), .int (nI N)])), (ha, .inl (cI, 12, .inl px)), (hb, .inl (cI, 12, .inl py)), (hc, .inl (cI, 12, .inl (fun i => nI (pl i)))), (hd, .inl (cI, 12, .inl pk)), (o, .inr (4, [.ref oa, .ref ob, .ref oc, .ref od])), (oa, .inl (cI, 3, .inl (fun i => nI (ls i)))), (ob, .inl (cJ, 3, .inr (.inl (fun i => zL (fsum ls lv i))))), (oc, .inl (cJ, 3, .inr (.inl (fun i => zL (fsum2 ls lv lx i))))), (od, .inl (cJ, 3, .inr (.inl (fun i => zL (fsum2 ls lv ly i))))), (ca, .inr (0, [.ref h, .long (zL w1), .long (zL w2), .long (zL w3), .long (zL w4), .long (zL w5), .long (zL w6), .long (zL de), .long (zL cw), .long (zL cp), .long (zL cq)])), (m0, .inr (3, [.ref ma, .ref mb, .ref mc])), (ma, .inl (cI, 12, .inl pu)), (mb, .inl (cI, 12, .inl be)), (mc, .inl (cI, 12, .inl nr)), (v0, .inr (1, [.int dp0, .int b0, .int lf0, .int mo0, .int us0])), (t, .inr (6, [.ref ta, .ref tb, .int (nI tn)])), (ta, .inl (cJ, 15, .inr (.inl ab))), (tb, .inl (cJ, 15, .inr (.inl bl)))] (fun r w => ∃ (v1 v2 v3 v4 v5 v6 v7 v8 v9 v10 : Int), r = some (.int (bI (hoB th sd tp n sc pl pk px py N ls lv lx ly sp B))) ∧ w = [(z, .inr (7, [.ref g, .ref h, .ref o, .ref ca, .ref m0, .ref v0, .ref t, .int sp])), (g, .inr (2, [.ref ga, .ref gb, .ref gc, .int (nI n), .int sc])), (ga, .inl (cI, 6, .inl th)), (gb, .inl (cI, 6, .inl sd)), (gc, .inl (cI, 6, .inl tp)), (h, .inr (5, [.ref ha, .ref hb, .ref hc, .ref hd, .int (nI M), .int (nI N)])), (ha, .inl (cI, 12, .inl px)), (hb, .inl (cI, 12, .inl py)), (hc, .inl (cI, 12, .inl (fun i => nI (pl i)))), (hd, .inl (cI, 12, .inl pk)), (o, .inr (4, [.ref oa, .ref ob, .ref oc, .ref od])), (oa, .inl (cI, 3, .inl (fun i => nI (ls i)))), (ob, .inl (cJ, 3, .inr (.inl (fun i => zL (fsum ls lv i))))), (oc, .inl (cJ, 3, .inr (.inl (fun i => zL (fsum2 ls lv lx i))))), (od, .inl (cJ, 3, .inr (.inl (fun i => zL (fsum2 ls lv ly i))))), (ca, .inr (0, [.ref h, .long (zL v1), .long (zL v2), .long (zL v3), .long (zL v4), .long (zL v5), .long (zL v6), .long (zL v7), .long (zL v8), .long (zL v9), .long (zL v10)])), (m0, .inr (3, [.ref ma, .ref mb, .ref mc])), (ma, .inl (cI, 12, .inl pu)), (mb, .inl (cI, 12, .inl be)), (mc, .inl (cI, 12, .inl nr)), (v0, .inr (1, [.int dp0, .int b0, .int lf0, .int mo0, .int us0])), (t, .inr (6, [.ref ta, .ref tb, .int (nI tn)])), (ta, .inl (cJ, 15, .inr (.inl ab))), (tb, .inl (cJ, 15, .inr (.inl bl)))]) := by
  refine Ct.ofI (ty := .boolean) (by decide) (Nat.le_of_ble_eq_true rfl) ?_
  intro p e s m args below meth c A R Q F hnm hcs0 hE
  refine v_lv (lv' := [(0, .ref z), (1, .int (nI B))]) [0, 1] rfl ?_
  obtain ⟨G, hsp, P, hM, hls, hlv, hlx, hly, htn⟩ := id VI
  have hn6 := G.1
  have hN12 := P.1
  have hM4 : M < 4096 := Nat.lt_of_lt_of_le hM (Nat.pow_le_pow_right (by omega) hN12)
  refine v_aload_n F dX7_holds_0 (i := 0) rfl 0 rfl (q := 1) rfl ?_
  refine gt_X7_42 F dX7_holds_1 0 rfl rfl (q := 4) rfl ?_
  refine v_iload_n F dX7_holds_4 (i := 1) rfl 1 rfl (q := 5) rfl ?_
  refine v_callVN F ml_X7_259 im_X3_spaced se_X3_spaced in_X3 co_X3_spaced sd_X3_spaced (c_X3_spaced m0 ma mb mc pu be nr (fun i => nrM px py sp i N) B hB hnr) ⟨Nat.zero_le _, Nat.zero_le _⟩ (Nat.le_of_ble_eq_true rfl) (Nat.le_of_ble_eq_true rfl) 16 (As := [.int (nI B)]) rfl rfl rfl rfl rfl [16, 17, 18, 19] rfl rfl rfl (rest := []) rfl (Nat.le_of_ble_eq_true rfl) dX7_holds_5 (q := 8) rfl (fun r w hr => ?_)
  obtain ⟨rfl, rfl⟩ := hr
  refine v_ws (ws' := [(z, .inr (7, [.ref g, .ref h, .ref o, .ref ca, .ref m0, .ref v0, .ref t, .int sp])), (g, .inr (2, [.ref ga, .ref gb, .ref gc, .int (nI n), .int sc])), (ga, .inl (cI, 6, .inl th)), (gb, .inl (cI, 6, .inl sd)), (gc, .inl (cI, 6, .inl tp)), (h, .inr (5, [.ref ha, .ref hb, .ref hc, .ref hd, .int (nI M), .int (nI N)])), (ha, .inl (cI, 12, .inl px)), (hb, .inl (cI, 12, .inl py)), (hc, .inl (cI, 12, .inl (fun i => nI (pl i)))), (hd, .inl (cI, 12, .inl pk)), (o, .inr (4, [.ref oa, .ref ob, .ref oc, .ref od])), (oa, .inl (cI, 3, .inl (fun i => nI (ls i)))), (ob, .inl (cJ, 3, .inr (.inl (fun i => zL (fsum ls lv i))))), (oc, .inl (cJ, 3, .inr (.inl (fun i => zL (fsum2 ls lv lx i))))), (od, .inl (cJ, 3, .inr (.inl (fun i => zL (fsum2 ls lv ly i))))), (ca, .inr (0, [.ref h, .long (zL w1), .long (zL w2), .long (zL w3), .long (zL w4), .long (zL w5), .long (zL w6), .long (zL de), .long (zL cw), .long (zL cp), .long (zL cq)])), (m0, .inr (3, [.ref ma, .ref mb, .ref mc])), (ma, .inl (cI, 12, .inl pu)), (mb, .inl (cI, 12, .inl be)), (mc, .inl (cI, 12, .inl nr)), (v0, .inr (1, [.int dp0, .int b0, .int lf0, .int mo0, .int us0])), (t, .inr (6, [.ref ta, .ref tb, .int (nI tn)])), (ta, .inl (cJ, 15, .inr (.inl ab))), (tb, .inl (cJ, 15, .inr (.inl bl)))]) ((wset_wgo (nodup_of rfl) rfl).trans rfl) ?_
  refine v_st (st' := [.int (bI (spB B (fun i => nrM px py sp i N)))]) rfl ?_
  refine v_if_eq F dX7_holds_8 (tgt := 22) rfl (q := 11) rfl (fun c8 => ?_) (fun c8 => ?_)
  · skip
    rw [bI_z] at c8
    refine v_iconst F dX7_holds_22 (v := 0) (q := 23) rfl rfl ?_
    exact hE (by first | rfl | exact bI_nar _) dX7_holds_23 (Nat.zero_le _) (Nat.zero_le _) ⟨⟨w1, w2, w3, w4, w5, w6, de, cw, cp, cq, by rw [show hoB th sd tp n sc pl pk px py N ls lv lx ly sp B = false from by unfold hoB; rw [c8]; rfl]; rfl, rfl⟩, Nat.le_of_ble_eq_true rfl⟩
  · skip
    rw [bI_nz] at c8
    refine v_aload_n F dX7_holds_11 (i := 0) rfl 0 rfl (q := 12) rfl ?_
    refine gt_X7_35 F dX7_holds_12 0 rfl rfl (q := 15) rfl ?_
    refine v_iload_n F dX7_holds_15 (i := 1) rfl 1 rfl (q := 16) rfl ?_
    refine v_callVN F ml_X7_248 im_X0_standOn se_X0_standOn in_X0 co_X0_standOn sd_X0_standOn (c_X0_standOn ca h ha hb hc hd px py pl pk N M w1 w2 w3 w4 w5 w6 de cw cp cq B P (by omega)) ⟨Nat.zero_le _, Nat.zero_le _⟩ (Nat.le_of_ble_eq_true rfl) (Nat.le_of_ble_eq_true rfl) 15 (As := [.int (nI B)]) rfl rfl rfl rfl rfl [15, 5, 6, 7, 8, 9] rfl rfl rfl (rest := []) rfl (Nat.le_of_ble_eq_true rfl) dX7_holds_16 (q := 19) rfl (fun r w hr => ?_)
    obtain ⟨rfl, rfl⟩ := hr
    refine v_ws (ws' := [(z, .inr (7, [.ref g, .ref h, .ref o, .ref ca, .ref m0, .ref v0, .ref t, .int sp])), (g, .inr (2, [.ref ga, .ref gb, .ref gc, .int (nI n), .int sc])), (ga, .inl (cI, 6, .inl th)), (gb, .inl (cI, 6, .inl sd)), (gc, .inl (cI, 6, .inl tp)), (h, .inr (5, [.ref ha, .ref hb, .ref hc, .ref hd, .int (nI M), .int (nI N)])), (ha, .inl (cI, 12, .inl px)), (hb, .inl (cI, 12, .inl py)), (hc, .inl (cI, 12, .inl (fun i => nI (pl i)))), (hd, .inl (cI, 12, .inl pk)), (o, .inr (4, [.ref oa, .ref ob, .ref oc, .ref od])), (oa, .inl (cI, 3, .inl (fun i => nI (ls i)))), (ob, .inl (cJ, 3, .inr (.inl (fun i => zL (fsum ls lv i))))), (oc, .inl (cJ, 3, .inr (.inl (fun i => zL (fsum2 ls lv lx i))))), (od, .inl (cJ, 3, .inr (.inl (fun i => zL (fsum2 ls lv ly i))))), (ca, .inr (0, [.ref h, .long (zL (dWW pk px py B N)), .long (zL (dWP pk px py B N)), .long (zL (dWQ pk px py B N)), .long (zL (dPP pk px py B N)), .long (zL (dPQ pk px py B N)), .long (zL (dQQ pk px py B N)), .long (zL (dDE pk px py B N)), .long (zL cw), .long (zL cp), .long (zL cq)])), (m0, .inr (3, [.ref ma, .ref mb, .ref mc])), (ma, .inl (cI, 12, .inl pu)), (mb, .inl (cI, 12, .inl be)), (mc, .inl (cI, 12, .inl nr)), (v0, .inr (1, [.int dp0, .int b0, .int lf0, .int mo0, .int us0])), (t, .inr (6, [.ref ta, .ref tb, .int (nI tn)])), (ta, .inl (cJ, 15, .inr (.inl ab))), (tb, .inl (cJ, 15, .inr (.inl bl)))]) ((wset_wgo (nodup_of rfl) rfl).trans rfl) ?_
    refine v_st (st' := [.int (bI (decide (0 < dDE pk px py B N)))]) rfl ?_
    refine v_if_ne F dX7_holds_19 (tgt := 24) rfl (q := 22) rfl (fun c19 => ?_) (fun c19 => ?_)
    · skip
      rw [bI_nz] at c19
      have hs2 := of_decide_eq_true c19
      have hde := (d_rng P B).2.2.2.2.2.2
      refine v_iconst F dX7_holds_24 (v := 0) (q := 25) rfl rfl ?_
      refine v_istore_n F dX7_holds_25 (i := 2) (lv' := [(2, .int 0), (0, .ref z), (1, .int (nI B))]) rfl (Nat.le_of_ble_eq_true rfl) rfl (q := 26) rfl ?_
      have L26 : ∀ (d k : Nat) (x1 x2 x3 : Int), k + d = 3 → (∀ j, j < k → hoC th sd tp n sc pl pk px py N ls lv lx ly B j = true) → V p l e R s m args below meth c D A 3 0 0 Q 26 [(0, .ref z), (1, .int (nI B)), (2, .int (nI k))] [] [(z, .inr (7, [.ref g, .ref h, .ref o, .ref ca, .ref m0, .ref v0, .ref t, .int sp])), (g, .inr (2, [.ref ga, .ref gb, .ref gc, .int (nI n), .int sc])), (ga, .inl (cI, 6, .inl th)), (gb, .inl (cI, 6, .inl sd)), (gc, .inl (cI, 6, .inl tp)), (h, .inr (5, [.ref ha, .ref hb, .ref hc, .ref hd, .int (nI M), .int (nI N)])), (ha, .inl (cI, 12, .inl px)), (hb, .inl (cI, 12, .inl py)), (hc, .inl (cI, 12, .inl (fun i => nI (pl i)))), (hd, .inl (cI, 12, .inl pk)), (o, .inr (4, [.ref oa, .ref ob, .ref oc, .ref od])), (oa, .inl (cI, 3, .inl (fun i => nI (ls i)))), (ob, .inl (cJ, 3, .inr (.inl (fun i => zL (fsum ls lv i))))), (oc, .inl (cJ, 3, .inr (.inl (fun i => zL (fsum2 ls lv lx i))))), (od, .inl (cJ, 3, .inr (.inl (fun i => zL (fsum2 ls lv ly i))))), (ca, .inr (0, [.ref h, .long (zL (dWW pk px py B N)), .long (zL (dWP pk px py B N)), .long (zL (dWQ pk px py B N)), .long (zL (dPP pk px py B N)), .long (zL (dPQ pk px py B N)), .long (zL (dQQ pk px py B N)), .long (zL (dDE pk px py B N)), .long (zL x1), .long (zL x2), .long (zL x3)])), (m0, .inr (3, [.ref ma, .ref mb, .ref mc])), (ma, .inl (cI, 12, .inl pu)), (mb, .inl (cI, 12, .inl be)), (mc, .inl (cI, 12, .inl nr)), (v0, .inr (1, [.int dp0, .int b0, .int lf0, .int mo0, .int us0])), (t, .inr (6, [.ref ta, .ref tb, .int (nI tn)])), (ta, .inl (cJ, 15, .inr (.inl ab))), (tb, .inl (cJ, 15, .inr (.inl bl)))] := by
        intro d
        induction d using Nat.strongRecOn with
        | _ d ih => ?_
        intro k x1 x2 x3 hk hI
        refine v_iload_n F dX7_holds_26 (i := 2) rfl 2 rfl (q := 27) rfl ?_
        refine v_iconst F dX7_holds_27 (v := 3) (q := 28) rfl rfl ?_
        refine v_icmp_ge F dX7_holds_28 (tgt := 71) rfl (q := 31) rfl (fun c28 => ?_) (fun c28 => ?_)
        · skip
          rw [show (3 : Int32) = nI 3 from rfl, nI_leI (by omega) (by omega)] at c28
          have hk3 : k = 3 := by omega
          subst hk3
          refine v_iconst F dX7_holds_71 (v := 1) (q := 72) rfl rfl ?_
          exact hE (by first | rfl | exact bI_nar _) dX7_holds_72 (Nat.zero_le _) (Nat.zero_le _) ⟨⟨(dWW pk px py B N), (dWP pk px py B N), (dWQ pk px py B N), (dPP pk px py B N), (dPQ pk px py B N), (dQQ pk px py B N), (dDE pk px py B N), x1, x2, x3, by rw [show hoB th sd tp n sc pl pk px py N ls lv lx ly sp B = true from by unfold hoB; rw [c8, decide_eq_true hs2, hI 0 (by omega), hI 1 (by omega), hI 2 (by omega)]; rfl]; rfl, rfl⟩, Nat.le_of_ble_eq_true rfl⟩
        · skip
          rw [show (3 : Int32) = nI 3 from rfl, nI_leI (by omega) (by omega)] at c28
          obtain ⟨d, rfl⟩ : ∃ d2, d = d2 + 1 := ⟨d - 1, by omega⟩
          have hk3 : k < 3 := by omega
          have hlk := hls k
          refine v_aload_n F dX7_holds_31 (i := 0) rfl 0 rfl (q := 32) rfl ?_
          refine gt_X7_26 F dX7_holds_32 0 rfl rfl (q := 35) rfl ?_
          refine gt_X7_138 F dX7_holds_35 10 rfl rfl (q := 38) rfl ?_
          refine v_iload_n F dX7_holds_38 (i := 2) rfl 2 rfl (q := 39) rfl ?_
          refine v_ialdN F 11 0 rfl rfl (j := k) (by omega) (by decide) dX7_holds_39 (q := 40) rfl ?_
          refine v_st (st' := [.int (nI (ls k))]) rfl ?_
          refine v_if_le F dX7_holds_40 (tgt := 65) rfl (q := 43) rfl (fun c40 => ?_) (fun c40 => ?_)
          · skip
            rw [show (0 : Int32) = nI 0 from rfl, nI_leI (by omega) (by omega)] at c40
            have hot : hoC th sd tp n sc pl pk px py N ls lv lx ly B k = true := ho_empty G P hs2 (by omega)
            refine v_iinc F dX7_holds_65 2 rfl (v := nI (k + 1)) (lv' := [(2, .int (nI (k + 1))), (0, .ref z), (1, .int (nI B))]) (nI_1 k) (Nat.le_of_ble_eq_true rfl) rfl (q := 68) rfl ?_
            refine v_goto F dX7_holds_68 (tgt := 26) rfl ?_
            refine v_lv (lv' := [(0, .ref z), (1, .int (nI B)), (2, .int (nI (k + 1)))]) [1, 2, 0] rfl ?_
            exact ih d (by omega) (k + 1) x1 x2 x3 (by omega) (lt_s hI hot)
          · skip
            have hsr := (shB_rng P hls hlv hlx hly B k).2.2.2
            refine v_aload_n F dX7_holds_43 (i := 0) rfl 0 rfl (q := 44) rfl ?_
            refine gt_X7_35 F dX7_holds_44 0 rfl rfl (q := 47) rfl ?_
            refine v_aload_n F dX7_holds_47 (i := 0) rfl 0 rfl (q := 48) rfl ?_
            refine gt_X7_26 F dX7_holds_48 0 rfl rfl (q := 51) rfl ?_
            refine v_iload_n F dX7_holds_51 (i := 2) rfl 2 rfl (q := 52) rfl ?_
            refine v_callVN F ml_X7_251 im_X0_take se_X0_take in_X0 co_X0_take sd_X0_take (c_X0_take ca h o oa ob oc od ls (fsum ls lv) (fsum2 ls lv lx) (fsum2 ls lv ly) (dWW pk px py B N) (dWP pk px py B N) (dWQ pk px py B N) (dPP pk px py B N) (dPQ pk px py B N) (dQQ pk px py B N) (dDE pk px py B N) x1 x2 x3 k (by omega)) ⟨Nat.zero_le _, Nat.zero_le _⟩ (Nat.le_of_ble_eq_true rfl) (Nat.le_of_ble_eq_true rfl) 15 (As := [.ref o, .int (nI k)]) rfl rfl rfl rfl rfl [15, 10, 11, 12, 13, 14] rfl rfl rfl (rest := []) rfl (Nat.le_of_ble_eq_true rfl) dX7_holds_52 (q := 55) rfl (fun r w hr => ?_)
            obtain ⟨rfl, rfl⟩ := hr
            refine v_ws (ws' := [(z, .inr (7, [.ref g, .ref h, .ref o, .ref ca, .ref m0, .ref v0, .ref t, .int sp])), (g, .inr (2, [.ref ga, .ref gb, .ref gc, .int (nI n), .int sc])), (ga, .inl (cI, 6, .inl th)), (gb, .inl (cI, 6, .inl sd)), (gc, .inl (cI, 6, .inl tp)), (h, .inr (5, [.ref ha, .ref hb, .ref hc, .ref hd, .int (nI M), .int (nI N)])), (ha, .inl (cI, 12, .inl px)), (hb, .inl (cI, 12, .inl py)), (hc, .inl (cI, 12, .inl (fun i => nI (pl i)))), (hd, .inl (cI, 12, .inl pk)), (o, .inr (4, [.ref oa, .ref ob, .ref oc, .ref od])), (oa, .inl (cI, 3, .inl (fun i => nI (ls i)))), (ob, .inl (cJ, 3, .inr (.inl (fun i => zL (fsum ls lv i))))), (oc, .inl (cJ, 3, .inr (.inl (fun i => zL (fsum2 ls lv lx i))))), (od, .inl (cJ, 3, .inr (.inl (fun i => zL (fsum2 ls lv ly i))))), (ca, .inr (0, [.ref h, .long (zL (dWW pk px py B N)), .long (zL (dWP pk px py B N)), .long (zL (dWQ pk px py B N)), .long (zL (dPP pk px py B N)), .long (zL (dPQ pk px py B N)), .long (zL (dQQ pk px py B N)), .long (zL (dDE pk px py B N)), .long (zL ((dWW pk px py B N) * fsum ls lv k + (dWP pk px py B N) * fsum2 ls lv lx k + (dWQ pk px py B N) * fsum2 ls lv ly k)), .long (zL ((dWP pk px py B N) * fsum ls lv k + (dPP pk px py B N) * fsum2 ls lv lx k + (dPQ pk px py B N) * fsum2 ls lv ly k)), .long (zL ((dWQ pk px py B N) * fsum ls lv k + (dPQ pk px py B N) * fsum2 ls lv lx k + (dQQ pk px py B N) * fsum2 ls lv ly k))])), (m0, .inr (3, [.ref ma, .ref mb, .ref mc])), (ma, .inl (cI, 12, .inl pu)), (mb, .inl (cI, 12, .inl be)), (mc, .inl (cI, 12, .inl nr)), (v0, .inr (1, [.int dp0, .int b0, .int lf0, .int mo0, .int us0])), (t, .inr (6, [.ref ta, .ref tb, .int (nI tn)])), (ta, .inl (cJ, 15, .inr (.inl ab))), (tb, .inl (cJ, 15, .inr (.inl bl)))]) ((wset_wgo (nodup_of rfl) rfl).trans rfl) ?_
            refine v_st (st' := []) rfl ?_
            refine v_aload_n F dX7_holds_55 (i := 0) rfl 0 rfl (q := 56) rfl ?_
            refine v_iload_n F dX7_holds_56 (i := 1) rfl 1 rfl (q := 57) rfl ?_
            refine v_callV F ml_X7_176 im_X7_overloaded se_X7_overloaded in_X7 co_X7_overloaded sd_X7_overloaded (c_X7_overloaded z g ga gb gc h ha hb hc hd o oa ob oc od ca m0 ma mb mc v0 t ta tb th sd tp n sc sp px py pl pk N M ls lv lx ly ab bl tn (dWW pk px py B N) (dWP pk px py B N) (dWQ pk px py B N) (dPP pk px py B N) (dPQ pk px py B N) (dQQ pk px py B N) (dDE pk px py B N) ((dWW pk px py B N) * fsum ls lv k + (dWP pk px py B N) * fsum2 ls lv lx k + (dWQ pk px py B N) * fsum2 ls lv ly k) ((dWP pk px py B N) * fsum ls lv k + (dPP pk px py B N) * fsum2 ls lv lx k + (dPQ pk px py B N) * fsum2 ls lv ly k) ((dWQ pk px py B N) * fsum ls lv k + (dPQ pk px py B N) * fsum2 ls lv lx k + (dQQ pk px py B N) * fsum2 ls lv ly k) pu be nr dp0 b0 lf0 mo0 us0 B VI hB hpu hbe hsr hde) ⟨Nat.zero_le _, Nat.zero_le _⟩ (Nat.le_of_ble_eq_true rfl) (Nat.le_of_ble_eq_true rfl) 0 (As := [.int (nI B)]) rfl rfl rfl rfl rfl [0, 1, 2, 3, 4, 5, 6, 7, 8, 9, 10, 11, 12, 13, 14, 15, 16, 17, 18, 19, 20, 21, 22, 23] rfl nd24 vnd24 (rest := []) rfl (Nat.le_of_ble_eq_true rfl) dX7_holds_57 (q := 60) rfl (fun r w hr => ?_)
            obtain ⟨rfl, rfl⟩ := hr
            refine v_ws (ws' := [(z, .inr (7, [.ref g, .ref h, .ref o, .ref ca, .ref m0, .ref v0, .ref t, .int sp])), (g, .inr (2, [.ref ga, .ref gb, .ref gc, .int (nI n), .int sc])), (ga, .inl (cI, 6, .inl th)), (gb, .inl (cI, 6, .inl sd)), (gc, .inl (cI, 6, .inl tp)), (h, .inr (5, [.ref ha, .ref hb, .ref hc, .ref hd, .int (nI M), .int (nI N)])), (ha, .inl (cI, 12, .inl px)), (hb, .inl (cI, 12, .inl py)), (hc, .inl (cI, 12, .inl (fun i => nI (pl i)))), (hd, .inl (cI, 12, .inl pk)), (o, .inr (4, [.ref oa, .ref ob, .ref oc, .ref od])), (oa, .inl (cI, 3, .inl (fun i => nI (ls i)))), (ob, .inl (cJ, 3, .inr (.inl (fun i => zL (fsum ls lv i))))), (oc, .inl (cJ, 3, .inr (.inl (fun i => zL (fsum2 ls lv lx i))))), (od, .inl (cJ, 3, .inr (.inl (fun i => zL (fsum2 ls lv ly i))))), (ca, .inr (0, [.ref h, .long (zL (dWW pk px py B N)), .long (zL (dWP pk px py B N)), .long (zL (dWQ pk px py B N)), .long (zL (dPP pk px py B N)), .long (zL (dPQ pk px py B N)), .long (zL (dQQ pk px py B N)), .long (zL (dDE pk px py B N)), .long (zL ((dWW pk px py B N) * fsum ls lv k + (dWP pk px py B N) * fsum2 ls lv lx k + (dWQ pk px py B N) * fsum2 ls lv ly k)), .long (zL ((dWP pk px py B N) * fsum ls lv k + (dPP pk px py B N) * fsum2 ls lv lx k + (dPQ pk px py B N) * fsum2 ls lv ly k)), .long (zL ((dWQ pk px py B N) * fsum ls lv k + (dPQ pk px py B N) * fsum2 ls lv lx k + (dQQ pk px py B N) * fsum2 ls lv ly k))])), (m0, .inr (3, [.ref ma, .ref mb, .ref mc])), (ma, .inl (cI, 12, .inl pu)), (mb, .inl (cI, 12, .inl be)), (mc, .inl (cI, 12, .inl nr)), (v0, .inr (1, [.int dp0, .int b0, .int lf0, .int mo0, .int us0])), (t, .inr (6, [.ref ta, .ref tb, .int (nI tn)])), (ta, .inl (cJ, 15, .inr (.inl ab))), (tb, .inl (cJ, 15, .inr (.inl bl)))]) ((wset_wgo (nodup_of nd24) rfl).trans rfl) ?_
            refine v_st (st' := [.int (nI (ovM B (fun kk => ovK th sd tp n sc pl (dDE pk px py B N) (shI pk px py ((dWW pk px py B N) * fsum ls lv k + (dWP pk px py B N) * fsum2 ls lv lx k + (dWQ pk px py B N) * fsum2 ls lv ly k) ((dWP pk px py B N) * fsum ls lv k + (dPP pk px py B N) * fsum2 ls lv lx k + (dPQ pk px py B N) * fsum2 ls lv ly k) ((dWQ pk px py B N) * fsum ls lv k + (dPQ pk px py B N) * fsum2 ls lv lx k + (dQQ pk px py B N) * fsum2 ls lv ly k) kk) kk) N))]) rfl ?_
            refine v_if_eq F dX7_holds_60 (tgt := 65) rfl (q := 63) rfl (fun c60 => ?_) (fun c60 => ?_)
            · skip
              rw [show (0 : Int32) = nI 0 from rfl, nI_eq (Nat.lt_of_lt_of_le (ovM_lt N) (Nat.le_trans (Nat.pow_le_pow_right (by omega) hN12) (by decide))) (by omega)] at c60
              have hot : hoC th sd tp n sc pl pk px py N ls lv lx ly B k = true := decide_eq_true c60
              refine v_iinc F dX7_holds_65 2 rfl (v := nI (k + 1)) (lv' := [(2, .int (nI (k + 1))), (0, .ref z), (1, .int (nI B))]) (nI_1 k) (Nat.le_of_ble_eq_true rfl) rfl (q := 68) rfl ?_
              refine v_goto F dX7_holds_68 (tgt := 26) rfl ?_
              refine v_lv (lv' := [(0, .ref z), (1, .int (nI B)), (2, .int (nI (k + 1)))]) [1, 2, 0] rfl ?_
              exact ih d (by omega) (k + 1) ((dWW pk px py B N) * fsum ls lv k + (dWP pk px py B N) * fsum2 ls lv lx k + (dWQ pk px py B N) * fsum2 ls lv ly k) ((dWP pk px py B N) * fsum ls lv k + (dPP pk px py B N) * fsum2 ls lv lx k + (dPQ pk px py B N) * fsum2 ls lv ly k) ((dWQ pk px py B N) * fsum ls lv k + (dPQ pk px py B N) * fsum2 ls lv lx k + (dQQ pk px py B N) * fsum2 ls lv ly k) (by omega) (lt_s hI hot)
            · skip
              rw [show (0 : Int32) = nI 0 from rfl, nI_eq (Nat.lt_of_lt_of_le (ovM_lt N) (Nat.le_trans (Nat.pow_le_pow_right (by omega) hN12) (by decide))) (by omega)] at c60
              have hof : hoC th sd tp n sc pl pk px py N ls lv lx ly B k = false := decide_eq_false c60
              refine v_iconst F dX7_holds_63 (v := 0) (q := 64) rfl rfl ?_
              exact hE (by first | rfl | exact bI_nar _) dX7_holds_64 (Nat.zero_le _) (Nat.zero_le _) ⟨⟨(dWW pk px py B N), (dWP pk px py B N), (dWQ pk px py B N), (dPP pk px py B N), (dPQ pk px py B N), (dQQ pk px py B N), (dDE pk px py B N), ((dWW pk px py B N) * fsum ls lv k + (dWP pk px py B N) * fsum2 ls lv lx k + (dWQ pk px py B N) * fsum2 ls lv ly k), ((dWP pk px py B N) * fsum ls lv k + (dPP pk px py B N) * fsum2 ls lv lx k + (dPQ pk px py B N) * fsum2 ls lv ly k), ((dWQ pk px py B N) * fsum ls lv k + (dPQ pk px py B N) * fsum2 ls lv lx k + (dQQ pk px py B N) * fsum2 ls lv ly k), by rw [ho_no hk3 hof]; rfl, rfl⟩, Nat.le_of_ble_eq_true rfl⟩
      refine v_lv (lv' := [(0, .ref z), (1, .int (nI B)), (2, .int 0)]) [1, 2, 0] rfl ?_
      exact L26 3 0 cw cp cq (by omega) (fun j hj => absurd hj (Nat.not_lt_zero _))
    · skip
      rw [bI_z] at c19
      refine v_iconst F dX7_holds_22 (v := 0) (q := 23) rfl rfl ?_
      exact hE (by first | rfl | exact bI_nar _) dX7_holds_23 (Nat.zero_le _) (Nat.zero_le _) ⟨⟨(dWW pk px py B N), (dWP pk px py B N), (dWQ pk px py B N), (dPP pk px py B N), (dPQ pk px py B N), (dQQ pk px py B N), (dDE pk px py B N), cw, cp, cq, by rw [show hoB th sd tp n sc pl pk px py N ls lv lx ly sp B = false from by unfold hoB; rw [c19, Bool.and_false, Bool.false_and]]; rfl, rfl⟩, Nat.le_of_ble_eq_true rfl⟩

set_option maxHeartbeats 4000000 in
set_option maxRecDepth 100000 in
theorem c_X7_least (z g ga gb gc h ha hb hc hd o oa ob oc od ca m0 ma mb mc v0 t ta tb : Nat) (th : Nat → Int32) (sd : Nat → Int32) (tp : Nat → Int32) (n : Nat) (sc : Int32) (sp : Int32) (px : Nat → Int32) (py : Nat → Int32) (pl : Nat → Nat) (pk : Nat → Int32) (N : Nat) (M : Nat) (ls : Nat → Nat) (lv : Nat → Int32) (lx : Nat → Int32) (ly : Nat → Int32) (ab : Nat → Int64) (bl : Nat → Int64) (tn : Nat) (w1 : Int) (w2 : Int) (w3 : Int) (w4 : Int) (w5 : Int) (w6 : Int) (de : Int) (cw : Int) (cp : Int) (cq : Int) (pu : Nat → Int32) (be : Nat → Int32) (nr : Nat → Int32) (dp0 : Int32) (b0 : Int32) (lf0 : Int32) (mo0 : Int32) (us0 : Int32)  (VI : INV (th, sd, tp, n, sc, sp, px, py, pl, pk, N, M, ls, lv, lx, ly, ab, bl, tn)) : Ct l D (TY cI cJ cZ) yX7_least cX7_least 8 (some .int) 4 89 0 0 [.ref z] [(z, .inr (7, [.ref g, .ref h, .ref o, .ref ca, .ref m0, .ref v0, .ref t, .int sp])), (g, .inr (2, [.ref ga, .ref gb, .ref gc, .int (nI n), .int sc])), (ga, .inl (cI, 6, .inl th)), (gb, .inl (cI, 6, .inl sd)), (gc, .inl (cI, 6, .inl tp)), (h, .inr (5, [.ref ha, .ref hb, .ref hc, .ref hd, .int (nI M), .int (nI N)])), (ha, .inl (cI, 12, .inl px)), (hb, .inl (cI, 12, .inl py)), (hc, .inl (cI, 12, .inl (fun i => nI (pl i)))), (hd, .inl (cI, 12, .inl pk)), (o, .inr (4, [.ref oa, .ref ob, .ref oc, .ref od])), (oa, .inl (cI, 3, .inl (fun i => nI (ls i)))), (ob, .inl (cJ, 3, .inr (.inl (fun i => zL (fsum ls lv i))))), (oc, .inl (cJ, 3, .inr (.inl (fun i => zL (fsum2 ls lv lx i))))), (od, .inl (cJ, 3, .inr (.inl (fun i => zL (fsum2 ls lv ly i))))), (ca, .inr (0, [.ref h, .long (zL w1), .long (zL w2), .long (zL w3), .long (zL w4), .long (zL w5), .long (zL w6), .long (zL de), .long (zL cw), .long (zL cp), .long (zL cq)])), (m0, .inr (3, [.ref ma, .ref mb, .ref mc])), (ma, .inl (cI, 12, .inl pu)), (mb, .inl (cI, 12, .inl be)), (mc, .inl (cI, 12, .inl nr)), (v0, .inr (1, [.int dp0, .int b0, .int lf0, .int mo0, .int us0])), (t, .inr (6, [.ref ta, .ref tb, .int (nI tn)])), (ta, .inl (cJ, 15, .inr (.inl ab))), (tb, .inl (cJ, 15, .inr (.inl bl)))] (fun r w => ∃ X : SXy, r = some (.int (fLeast (th, sd, tp, n, sc, sp, px, py, pl, pk, N, M, ls, lv, lx, ly, ab, bl, tn)).1) ∧ w = WC cI cJ z g ga gb gc h ha hb hc hd o oa ob oc od ca m0 ma mb mc v0 t ta tb (fLeast (th, sd, tp, n, sc, sp, px, py, pl, pk, N, M, ls, lv, lx, ly, ab, bl, tn)).2 X) := by
  refine Ct.ofI (ty := .int) (by decide) (Nat.le_of_ble_eq_true rfl) ?_
  intro p e s m args below meth c A R Q F hnm hcs0 hE
  refine v_lv (lv' := [(0, .ref z)]) [0] rfl ?_
  obtain ⟨G, hsp, P, hM, hls, hlv, hlx, hly, htn⟩ := id VI
  have hn6 := G.1
  have hN12 := P.1
  have hM4 : M < 4096 := Nat.lt_of_lt_of_le hM (Nat.pow_le_pow_right (by omega) hN12)
  have hM32 : M < 2 ^ 32 := Nat.lt_trans hM4 (by decide)
  have hpc := pcr_ok hM4
  have hpl := pe_full hM32
  have hp12 := popc_le M
  refine v_aload_n F dX7_least_0 (i := 0) rfl 0 rfl (q := 1) rfl ?_
  refine gt_X7_19 F dX7_least_1 0 rfl rfl (q := 4) rfl ?_
  refine gt_X7_173 F dX7_least_4 5 rfl rfl (q := 7) rfl ?_
  refine v_istore_n F dX7_least_7 (i := 1) (lv' := [(1, .int (nI M)), (0, .ref z)]) rfl (Nat.le_of_ble_eq_true rfl) rfl (q := 8) rfl ?_
  refine v_iload_n F dX7_least_8 (i := 1) rfl 0 rfl (q := 9) rfl ?_
  refine v_callS F ml_X7_192 sm_J6_bitCount_0f7a4 in_J6 co_J6_bitCount_0f7a4 sd_J6_bitCount_0f7a4 (c_J6_bitCount_0f7a4 (nI M)) ⟨Nat.zero_le _, Nat.zero_le _⟩ (Nat.le_of_ble_eq_true rfl) (Nat.le_of_ble_eq_true rfl) rfl [] rfl rfl rfl (rest := []) rfl (Nat.le_of_ble_eq_true rfl) dX7_least_9 (q := 12) rfl (fun r w hr => ?_)
  obtain ⟨rfl, rfl⟩ := hr
  refine v_ws (ws' := [(z, .inr (7, [.ref g, .ref h, .ref o, .ref ca, .ref m0, .ref v0, .ref t, .int sp])), (g, .inr (2, [.ref ga, .ref gb, .ref gc, .int (nI n), .int sc])), (ga, .inl (cI, 6, .inl th)), (gb, .inl (cI, 6, .inl sd)), (gc, .inl (cI, 6, .inl tp)), (h, .inr (5, [.ref ha, .ref hb, .ref hc, .ref hd, .int (nI M), .int (nI N)])), (ha, .inl (cI, 12, .inl px)), (hb, .inl (cI, 12, .inl py)), (hc, .inl (cI, 12, .inl (fun i => nI (pl i)))), (hd, .inl (cI, 12, .inl pk)), (o, .inr (4, [.ref oa, .ref ob, .ref oc, .ref od])), (oa, .inl (cI, 3, .inl (fun i => nI (ls i)))), (ob, .inl (cJ, 3, .inr (.inl (fun i => zL (fsum ls lv i))))), (oc, .inl (cJ, 3, .inr (.inl (fun i => zL (fsum2 ls lv lx i))))), (od, .inl (cJ, 3, .inr (.inl (fun i => zL (fsum2 ls lv ly i))))), (ca, .inr (0, [.ref h, .long (zL w1), .long (zL w2), .long (zL w3), .long (zL w4), .long (zL w5), .long (zL w6), .long (zL de), .long (zL cw), .long (zL cp), .long (zL cq)])), (m0, .inr (3, [.ref ma, .ref mb, .ref mc])), (ma, .inl (cI, 12, .inl pu)), (mb, .inl (cI, 12, .inl be)), (mc, .inl (cI, 12, .inl nr)), (v0, .inr (1, [.int dp0, .int b0, .int lf0, .int mo0, .int us0])), (t, .inr (6, [.ref ta, .ref tb, .int (nI tn)])), (ta, .inl (cJ, 15, .inr (.inl ab))), (tb, .inl (cJ, 15, .inr (.inl bl)))]) rfl ?_
  refine v_st (st' := [.int (bcI (nI M))]) rfl ?_
  refine v_int (y := nI (popc M)) (bc_ok hM4) ?_
  refine v_bipush F dX7_least_12 (v := 10) (q := 14) rfl rfl ?_
  refine v_icmp_le F dX7_least_14 (tgt := 20) rfl (q := 17) rfl (fun c14 => ?_) (fun c14 => ?_)
  · skip
    rw [show (10 : Int32) = nI 10 from rfl, nI_leI (by omega) (by omega)] at c14
    have hpw : 2 ^ popc M ≤ 2 ^ 10 := Nat.pow_le_pow_right (by omega) c14
    refine v_aload_n F dX7_least_20 (i := 0) rfl 1 rfl (q := 21) rfl ?_
    refine gt_X7_42 F dX7_least_21 0 rfl rfl (q := 24) rfl ?_
    refine v_aload_n F dX7_least_24 (i := 0) rfl 1 rfl (q := 25) rfl ?_
    refine gt_X7_12 F dX7_least_25 0 rfl rfl (q := 28) rfl ?_
    refine v_aload_n F dX7_least_28 (i := 0) rfl 1 rfl (q := 29) rfl ?_
    refine gt_X7_19 F dX7_least_29 0 rfl rfl (q := 32) rfl ?_
    refine v_callVN F ml_X7_169 im_X3_measure se_X3_measure in_X3 co_X3_measure sd_X3_measure (c_X3_measure m0 ma mb mc pu be nr g ga gb gc th sd tp n sc h ha hb hc hd px py pl pk N M G P) ⟨Nat.zero_le _, Nat.zero_le _⟩ (Nat.le_of_ble_eq_true rfl) (Nat.le_of_ble_eq_true rfl) 16 (As := [.ref g, .ref h]) rfl rfl rfl rfl rfl [16, 17, 18, 19, 1, 2, 3, 4, 5, 6, 7, 8, 9] rfl nd13 vnd13 (rest := []) rfl (Nat.le_of_ble_eq_true rfl) dX7_least_32 (q := 35) rfl (fun r w hr => ?_)
    obtain ⟨rfl, rfl⟩ := hr
    refine v_ws (ws' := [(z, .inr (7, [.ref g, .ref h, .ref o, .ref ca, .ref m0, .ref v0, .ref t, .int sp])), (g, .inr (2, [.ref ga, .ref gb, .ref gc, .int (nI n), .int sc])), (ga, .inl (cI, 6, .inl th)), (gb, .inl (cI, 6, .inl sd)), (gc, .inl (cI, 6, .inl tp)), (h, .inr (5, [.ref ha, .ref hb, .ref hc, .ref hd, .int (nI M), .int (nI N)])), (ha, .inl (cI, 12, .inl px)), (hb, .inl (cI, 12, .inl py)), (hc, .inl (cI, 12, .inl (fun i => nI (pl i)))), (hd, .inl (cI, 12, .inl pk)), (o, .inr (4, [.ref oa, .ref ob, .ref oc, .ref od])), (oa, .inl (cI, 3, .inl (fun i => nI (ls i)))), (ob, .inl (cJ, 3, .inr (.inl (fun i => zL (fsum ls lv i))))), (oc, .inl (cJ, 3, .inr (.inl (fun i => zL (fsum2 ls lv lx i))))), (od, .inl (cJ, 3, .inr (.inl (fun i => zL (fsum2 ls lv ly i))))), (ca, .inr (0, [.ref h, .long (zL w1), .long (zL w2), .long (zL w3), .long (zL w4), .long (zL w5), .long (zL w6), .long (zL de), .long (zL cw), .long (zL cp), .long (zL cq)])), (m0, .inr (3, [.ref ma, .ref mb, .ref mc])), (ma, .inl (cI, 12, .inl (fil (fun i => zI (gPU th sd n sc (pl i))) pu N))), (mb, .inl (cI, 12, .inl (fil (fun i => zI (gBE th sd tp n sc (pl i))) be N))), (mc, .inl (cI, 12, .inl nr)), (v0, .inr (1, [.int dp0, .int b0, .int lf0, .int mo0, .int us0])), (t, .inr (6, [.ref ta, .ref tb, .int (nI tn)])), (ta, .inl (cJ, 15, .inr (.inl ab))), (tb, .inl (cJ, 15, .inr (.inl bl)))]) ((wset_wgo (nodup_of nd13) rfl).trans rfl) ?_
    refine v_st (st' := []) rfl ?_
    refine v_aload_n F dX7_least_35 (i := 0) rfl 1 rfl (q := 36) rfl ?_
    refine gt_X7_42 F dX7_least_36 0 rfl rfl (q := 39) rfl ?_
    refine v_aload_n F dX7_least_39 (i := 0) rfl 1 rfl (q := 40) rfl ?_
    refine gt_X7_19 F dX7_least_40 0 rfl rfl (q := 43) rfl ?_
    refine v_aload_n F dX7_least_43 (i := 0) rfl 1 rfl (q := 44) rfl ?_
    refine gt_X7_60 F dX7_least_44 0 rfl rfl (q := 47) rfl ?_
    refine v_callVN F ml_X7_197 im_X3_measureSpacing se_X3_measureSpacing in_X3 co_X3_measureSpacing sd_X3_measureSpacing (c_X3_measureSpacing m0 ma mb mc (fil (fun i => zI (gPU th sd n sc (pl i))) pu N) (fil (fun i => zI (gBE th sd tp n sc (pl i))) be N) nr h ha hb hc hd px py pl pk N M sp P hsp) ⟨Nat.zero_le _, Nat.zero_le _⟩ (Nat.le_of_ble_eq_true rfl) (Nat.le_of_ble_eq_true rfl) 16 (As := [.ref h, .int sp]) rfl rfl rfl rfl rfl [16, 17, 18, 19, 5, 6, 7, 8, 9] rfl rfl rfl (rest := []) rfl (Nat.le_of_ble_eq_true rfl) dX7_least_47 (q := 50) rfl (fun r w hr => ?_)
    obtain ⟨rfl, rfl⟩ := hr
    refine v_ws (ws' := [(z, .inr (7, [.ref g, .ref h, .ref o, .ref ca, .ref m0, .ref v0, .ref t, .int sp])), (g, .inr (2, [.ref ga, .ref gb, .ref gc, .int (nI n), .int sc])), (ga, .inl (cI, 6, .inl th)), (gb, .inl (cI, 6, .inl sd)), (gc, .inl (cI, 6, .inl tp)), (h, .inr (5, [.ref ha, .ref hb, .ref hc, .ref hd, .int (nI M), .int (nI N)])), (ha, .inl (cI, 12, .inl px)), (hb, .inl (cI, 12, .inl py)), (hc, .inl (cI, 12, .inl (fun i => nI (pl i)))), (hd, .inl (cI, 12, .inl pk)), (o, .inr (4, [.ref oa, .ref ob, .ref oc, .ref od])), (oa, .inl (cI, 3, .inl (fun i => nI (ls i)))), (ob, .inl (cJ, 3, .inr (.inl (fun i => zL (fsum ls lv i))))), (oc, .inl (cJ, 3, .inr (.inl (fun i => zL (fsum2 ls lv lx i))))), (od, .inl (cJ, 3, .inr (.inl (fun i => zL (fsum2 ls lv ly i))))), (ca, .inr (0, [.ref h, .long (zL w1), .long (zL w2), .long (zL w3), .long (zL w4), .long (zL w5), .long (zL w6), .long (zL de), .long (zL cw), .long (zL cp), .long (zL cq)])), (m0, .inr (3, [.ref ma, .ref mb, .ref mc])), (ma, .inl (cI, 12, .inl (fil (fun i => zI (gPU th sd n sc (pl i))) pu N))), (mb, .inl (cI, 12, .inl (fil (fun i => zI (gBE th sd tp n sc (pl i))) be N))), (mc, .inl (cI, 12, .inl (fil (fun i => nI (nrM px py sp i N)) nr N))), (v0, .inr (1, [.int dp0, .int b0, .int lf0, .int mo0, .int us0])), (t, .inr (6, [.ref ta, .ref tb, .int (nI tn)])), (ta, .inl (cJ, 15, .inr (.inl ab))), (tb, .inl (cJ, 15, .inr (.inl bl)))]) ((wset_wgo (nodup_of rfl) rfl).trans rfl) ?_
    refine v_st (st' := []) rfl ?_
    refine v_iconst F dX7_least_50 (v := 1) (q := 51) rfl rfl ?_
    refine v_iload_n F dX7_least_51 (i := 1) rfl 0 rfl (q := 52) rfl ?_
    refine v_callS F ml_X7_192 sm_J6_bitCount_0f7a4 in_J6 co_J6_bitCount_0f7a4 sd_J6_bitCount_0f7a4 (c_J6_bitCount_0f7a4 (nI M)) ⟨Nat.zero_le _, Nat.zero_le _⟩ (Nat.le_of_ble_eq_true rfl) (Nat.le_of_ble_eq_true rfl) rfl [] rfl rfl rfl (rest := [.int 1]) rfl (Nat.le_of_ble_eq_true rfl) dX7_least_52 (q := 55) rfl (fun r w hr => ?_)
    obtain ⟨rfl, rfl⟩ := hr
    refine v_ws (ws' := [(z, .inr (7, [.ref g, .ref h, .ref o, .ref ca, .ref m0, .ref v0, .ref t, .int sp])), (g, .inr (2, [.ref ga, .ref gb, .ref gc, .int (nI n), .int sc])), (ga, .inl (cI, 6, .inl th)), (gb, .inl (cI, 6, .inl sd)), (gc, .inl (cI, 6, .inl tp)), (h, .inr (5, [.ref ha, .ref hb, .ref hc, .ref hd, .int (nI M), .int (nI N)])), (ha, .inl (cI, 12, .inl px)), (hb, .inl (cI, 12, .inl py)), (hc, .inl (cI, 12, .inl (fun i => nI (pl i)))), (hd, .inl (cI, 12, .inl pk)), (o, .inr (4, [.ref oa, .ref ob, .ref oc, .ref od])), (oa, .inl (cI, 3, .inl (fun i => nI (ls i)))), (ob, .inl (cJ, 3, .inr (.inl (fun i => zL (fsum ls lv i))))), (oc, .inl (cJ, 3, .inr (.inl (fun i => zL (fsum2 ls lv lx i))))), (od, .inl (cJ, 3, .inr (.inl (fun i => zL (fsum2 ls lv ly i))))), (ca, .inr (0, [.ref h, .long (zL w1), .long (zL w2), .long (zL w3), .long (zL w4), .long (zL w5), .long (zL w6), .long (zL de), .long (zL cw), .long (zL cp), .long (zL cq)])), (m0, .inr (3, [.ref ma, .ref mb, .ref mc])), (ma, .inl (cI, 12, .inl (fil (fun i => zI (gPU th sd n sc (pl i))) pu N))), (mb, .inl (cI, 12, .inl (fil (fun i => zI (gBE th sd tp n sc (pl i))) be N))), (mc, .inl (cI, 12, .inl (fil (fun i => nI (nrM px py sp i N)) nr N))), (v0, .inr (1, [.int dp0, .int b0, .int lf0, .int mo0, .int us0])), (t, .inr (6, [.ref ta, .ref tb, .int (nI tn)])), (ta, .inl (cJ, 15, .inr (.inl ab))), (tb, .inl (cJ, 15, .inr (.inl bl)))]) rfl ?_
    refine v_st (st' := [.int (bcI (nI M)), .int 1]) rfl ?_
    refine v_int (y := nI (popc M)) (bc_ok hM4) ?_
    refine v_ishl F dX7_least_55 (q := 56) rfl ?_
    refine v_int (y := nI (2 ^ popc M)) (sh_1 _ (by omega)) ?_
    refine v_istore_n F dX7_least_56 (i := 2) (lv' := [(2, .int (nI (2 ^ popc M))), (1, .int (nI M)), (0, .ref z)]) rfl (Nat.le_of_ble_eq_true rfl) rfl (q := 57) rfl ?_
    refine v_bipush F dX7_least_57 (v := (-4)) (q := 59) rfl rfl ?_
    refine v_istore_n F dX7_least_59 (i := 3) (lv' := [(3, .int (-4)), (2, .int (nI (2 ^ popc M))), (1, .int (nI M)), (0, .ref z)]) rfl (Nat.le_of_ble_eq_true rfl) rfl (q := 60) rfl ?_
    refine v_bipush F dX7_least_60 (v := 13) (q := 62) rfl rfl ?_
    refine v_istore F dX7_least_62 (lv' := [(4, .int 13), (3, .int (-4)), (2, .int (nI (2 ^ popc M))), (1, .int (nI M)), (0, .ref z)]) (Nat.le_of_ble_eq_true rfl) rfl (q := 64) rfl ?_
    refine v_iconst F dX7_least_64 (v := 0) (q := 65) rfl rfl ?_
    refine v_istore F dX7_least_65 (lv' := [(5, .int 0), (4, .int 13), (3, .int (-4)), (2, .int (nI (2 ^ popc M))), (1, .int (nI M)), (0, .ref z)]) (Nat.le_of_ble_eq_true rfl) rfl (q := 67) rfl ?_
    refine v_iconst F dX7_least_67 (v := 1) (q := 68) rfl rfl ?_
    refine v_istore F dX7_least_68 (lv' := [(6, .int 1), (5, .int 0), (4, .int 13), (3, .int (-4)), (2, .int (nI (2 ^ popc M))), (1, .int (nI M)), (0, .ref z)]) (Nat.le_of_ble_eq_true rfl) rfl (q := 70) rfl ?_
    have L70 : ∀ (d j S : Nat) (a1 a2 a3 a4 a5 a6 a7 a8 a9 a10 : Int), j + d = 2 ^ popc M → sub2 S M → pe 32 M S + 1 = j → V p l e R s m args below meth c D A 8 0 0 Q 70 [(0, .ref z), (1, .int (nI M)), (2, .int (nI (2 ^ popc M))), (3, .int (enI (leF M (hoB th sd tp n sc pl pk px py N ls lv lx ly sp) (S + 1)))), (4, .int (nI (leW (leF M (hoB th sd tp n sc pl pk px py N ls lv lx ly sp) (S + 1))))), (5, .int (nI S)), (6, .int (nI j))] [] [(z, .inr (7, [.ref g, .ref h, .ref o, .ref ca, .ref m0, .ref v0, .ref t, .int sp])), (g, .inr (2, [.ref ga, .ref gb, .ref gc, .int (nI n), .int sc])), (ga, .inl (cI, 6, .inl th)), (gb, .inl (cI, 6, .inl sd)), (gc, .inl (cI, 6, .inl tp)), (h, .inr (5, [.ref ha, .ref hb, .ref hc, .ref hd, .int (nI M), .int (nI N)])), (ha, .inl (cI, 12, .inl px)), (hb, .inl (cI, 12, .inl py)), (hc, .inl (cI, 12, .inl (fun i => nI (pl i)))), (hd, .inl (cI, 12, .inl pk)), (o, .inr (4, [.ref oa, .ref ob, .ref oc, .ref od])), (oa, .inl (cI, 3, .inl (fun i => nI (ls i)))), (ob, .inl (cJ, 3, .inr (.inl (fun i => zL (fsum ls lv i))))), (oc, .inl (cJ, 3, .inr (.inl (fun i => zL (fsum2 ls lv lx i))))), (od, .inl (cJ, 3, .inr (.inl (fun i => zL (fsum2 ls lv ly i))))), (ca, .inr (0, [.ref h, .long (zL a1), .long (zL a2), .long (zL a3), .long (zL a4), .long (zL a5), .long (zL a6), .long (zL a7), .long (zL a8), .long (zL a9), .long (zL a10)])), (m0, .inr (3, [.ref ma, .ref mb, .ref mc])), (ma, .inl (cI, 12, .inl (fil (fun i => zI (gPU th sd n sc (pl i))) pu N))), (mb, .inl (cI, 12, .inl (fil (fun i => zI (gBE th sd tp n sc (pl i))) be N))), (mc, .inl (cI, 12, .inl (fil (fun i => nI (nrM px py sp i N)) nr N))), (v0, .inr (1, [.int dp0, .int b0, .int lf0, .int mo0, .int us0])), (t, .inr (6, [.ref ta, .ref tb, .int (nI tn)])), (ta, .inl (cJ, 15, .inr (.inl ab))), (tb, .inl (cJ, 15, .inr (.inl bl)))] := by
      intro d
      induction d using Nat.strongRecOn with
      | _ d ih => ?_
      intro j S a1 a2 a3 a4 a5 a6 a7 a8 a9 a10 hj hS hpS
      have hSle := sub2_le hS
      refine v_iload F dX7_least_70 6 rfl (q := 72) rfl ?_
      refine v_iload_n F dX7_least_72 (i := 2) rfl 2 rfl (q := 73) rfl ?_
      refine v_icmp_ge F dX7_least_73 (tgt := 120) rfl (q := 76) rfl (fun c73 => ?_) (fun c73 => ?_)
      · skip
        rw [nI_leI (by omega) (by omega)] at c73
        rw [hpc] at hpl
        have hSM : M = S := by
          rcases Nat.lt_or_ge S M with q | q
          · have := pe_mono hM32 hS (sub2_self M) q
            omega
          · omega
        subst hSM
        refine v_iload_n F dX7_least_120 (i := 3) rfl 3 rfl (q := 121) rfl ?_
        exact hE rfl dX7_least_121 (Nat.zero_le _) (Nat.zero_le _) ⟨(by have hf : fLeast (th, sd, tp, n, sc, sp, px, py, pl, pk, N, M, ls, lv, lx, ly, ab, bl, tn) = (enI (leF M (hoB th sd tp n sc pl pk px py N ls lv lx ly sp) (M + 1)), (th, sd, tp, n, sc, sp, px, py, pl, pk, N, M, ls, lv, lx, ly, ab, bl, tn)) := (by simp only [fLeast]; rw [if_neg (by omega)]; cases leF M (hoB th sd tp n sc pl pk px py N ls lv lx ly sp) (M + 1) <;> rfl); exact ⟨(a1, a2, a3, a4, a5, a6, a7, a8, a9, a10, fil (fun i => zI (gPU th sd n sc (pl i))) pu N, fil (fun i => zI (gBE th sd tp n sc (pl i))) be N, fil (fun i => nI (nrM px py sp i N)) nr N, dp0, b0, lf0, mo0, us0), by rw [hf], by rw [hf]; rfl⟩), Nat.le_of_ble_eq_true rfl⟩
      · skip
        rw [nI_leI (by omega) (by omega)] at c73
        obtain ⟨d, rfl⟩ : ∃ d2, d = d2 + 1 := ⟨d - 1, by omega⟩
        have hSM : S ≠ M := fun q => by rw [q, hpl, hpc] at hpS; omega
        obtain ⟨hn1, hn2⟩ := nx_ok hM32 hS hSM
        have hnle := sub2_le hn1
        have hB : nx 32 M S < 4096 := by omega
        have hnx := leF_next (ho := (hoB th sd tp n sc pl pk px py N ls lv lx ly sp)) hM4 hS hSM
        have hw13 := leW_le (leF M (hoB th sd tp n sc pl pk px py N ls lv lx ly sp) (S + 1))
        have hnr : ∀ k, (nx 32 M S).testBit k = true → (fil (fun i => nI (nrM px py sp i N)) nr N) k = nI (nrM px py sp k N) := fun k hb => fil_in (bit_lt hM (sub2_bit hn1 hb))
        refine v_iload F dX7_least_76 5 rfl (q := 78) rfl ?_
        refine v_iload_n F dX7_least_78 (i := 1) rfl 1 rfl (q := 79) rfl ?_
        refine v_isub F dX7_least_79 (q := 80) rfl ?_
        refine v_iload_n F dX7_least_80 (i := 1) rfl 1 rfl (q := 81) rfl ?_
        refine v_iand F dX7_least_81 (q := 82) rfl ?_
        refine v_int (y := nI (nx 32 M S)) (next_I hM4 hS hSM) ?_
        refine v_istore F dX7_least_82 (lv' := [(5, .int (nI (nx 32 M S))), (0, .ref z), (1, .int (nI M)), (2, .int (nI (2 ^ popc M))), (3, .int (enI (leF M (hoB th sd tp n sc pl pk px py N ls lv lx ly sp) (S + 1)))), (4, .int (nI (leW (leF M (hoB th sd tp n sc pl pk px py N ls lv lx ly sp) (S + 1))))), (6, .int (nI j))]) (Nat.le_of_ble_eq_true rfl) rfl (q := 84) rfl ?_
        refine v_iload F dX7_least_84 0 rfl (q := 86) rfl ?_
        refine v_callS F ml_X7_192 sm_J6_bitCount_0f7a4 in_J6 co_J6_bitCount_0f7a4 sd_J6_bitCount_0f7a4 (c_J6_bitCount_0f7a4 (nI (nx 32 M S))) ⟨Nat.zero_le _, Nat.zero_le _⟩ (Nat.le_of_ble_eq_true rfl) (Nat.le_of_ble_eq_true rfl) rfl [] rfl rfl rfl (rest := []) rfl (Nat.le_of_ble_eq_true rfl) dX7_least_86 (q := 89) rfl (fun r w hr => ?_)
        obtain ⟨rfl, rfl⟩ := hr
        refine v_ws (ws' := [(z, .inr (7, [.ref g, .ref h, .ref o, .ref ca, .ref m0, .ref v0, .ref t, .int sp])), (g, .inr (2, [.ref ga, .ref gb, .ref gc, .int (nI n), .int sc])), (ga, .inl (cI, 6, .inl th)), (gb, .inl (cI, 6, .inl sd)), (gc, .inl (cI, 6, .inl tp)), (h, .inr (5, [.ref ha, .ref hb, .ref hc, .ref hd, .int (nI M), .int (nI N)])), (ha, .inl (cI, 12, .inl px)), (hb, .inl (cI, 12, .inl py)), (hc, .inl (cI, 12, .inl (fun i => nI (pl i)))), (hd, .inl (cI, 12, .inl pk)), (o, .inr (4, [.ref oa, .ref ob, .ref oc, .ref od])), (oa, .inl (cI, 3, .inl (fun i => nI (ls i)))), (ob, .inl (cJ, 3, .inr (.inl (fun i => zL (fsum ls lv i))))), (oc, .inl (cJ, 3, .inr (.inl (fun i => zL (fsum2 ls lv lx i))))), (od, .inl (cJ, 3, .inr (.inl (fun i => zL (fsum2 ls lv ly i))))), (ca, .inr (0, [.ref h, .long (zL a1), .long (zL a2), .long (zL a3), .long (zL a4), .long (zL a5), .long (zL a6), .long (zL a7), .long (zL a8), .long (zL a9), .long (zL a10)])), (m0, .inr (3, [.ref ma, .ref mb, .ref mc])), (ma, .inl (cI, 12, .inl (fil (fun i => zI (gPU th sd n sc (pl i))) pu N))), (mb, .inl (cI, 12, .inl (fil (fun i => zI (gBE th sd tp n sc (pl i))) be N))), (mc, .inl (cI, 12, .inl (fil (fun i => nI (nrM px py sp i N)) nr N))), (v0, .inr (1, [.int dp0, .int b0, .int lf0, .int mo0, .int us0])), (t, .inr (6, [.ref ta, .ref tb, .int (nI tn)])), (ta, .inl (cJ, 15, .inr (.inl ab))), (tb, .inl (cJ, 15, .inr (.inl bl)))]) rfl ?_
        refine v_st (st' := [.int (bcI (nI (nx 32 M S)))]) rfl ?_
        refine v_int (y := nI (popc (nx 32 M S))) (bc_ok (by omega)) ?_
        refine v_istore F dX7_least_89 (lv' := [(7, .int (nI (popc (nx 32 M S)))), (5, .int (nI (nx 32 M S))), (0, .ref z), (1, .int (nI M)), (2, .int (nI (2 ^ popc M))), (3, .int (enI (leF M (hoB th sd tp n sc pl pk px py N ls lv lx ly sp) (S + 1)))), (4, .int (nI (leW (leF M (hoB th sd tp n sc pl pk px py N ls lv lx ly sp) (S + 1))))), (6, .int (nI j))]) (Nat.le_of_ble_eq_true rfl) rfl (q := 91) rfl ?_
        refine v_iload F dX7_least_91 0 rfl (q := 93) rfl ?_
        refine v_iload F dX7_least_93 6 rfl (q := 95) rfl ?_
        refine v_icmp_ge F dX7_least_95 (tgt := 114) rfl (q := 98) rfl (fun c95 => ?_) (fun c95 => ?_)
        · skip
          have hpn := popc_le (nx 32 M S)
          rw [nI_leI (by omega) (by omega)] at c95
          have hT : leT (nx 32 M S) (leF M (hoB th sd tp n sc pl pk px py N ls lv lx ly sp) (nx 32 M S)) = false := by rw [hnx, ← Bool.not_eq_true, leT_iff]; omega
          refine v_iinc F dX7_least_114 7 rfl (v := nI (j + 1)) (lv' := [(6, .int (nI (j + 1))), (7, .int (nI (popc (nx 32 M S)))), (5, .int (nI (nx 32 M S))), (0, .ref z), (1, .int (nI M)), (2, .int (nI (2 ^ popc M))), (3, .int (enI (leF M (hoB th sd tp n sc pl pk px py N ls lv lx ly sp) (S + 1)))), (4, .int (nI (leW (leF M (hoB th sd tp n sc pl pk px py N ls lv lx ly sp) (S + 1)))))]) (nI_1 j) (Nat.le_of_ble_eq_true rfl) rfl (q := 117) rfl ?_
          refine v_goto F dX7_least_117 (tgt := 70) rfl ?_
          refine v_lv (lv' := [(0, .ref z), (1, .int (nI M)), (2, .int (nI (2 ^ popc M))), (3, .int (enI (leF M (hoB th sd tp n sc pl pk px py N ls lv lx ly sp) (S + 1)))), (4, .int (nI (leW (leF M (hoB th sd tp n sc pl pk px py N ls lv lx ly sp) (S + 1))))), (5, .int (nI (nx 32 M S))), (6, .int (nI (j + 1)))]) [3, 4, 5, 6, 7, 2, 0] rfl ?_
          have hV := ih d (by omega) (j + 1) (nx 32 M S) a1 a2 a3 a4 a5 a6 a7 a8 a9 a10 (by omega) hn1 (by omega)
          first | rw [leF_f1 hT, hnx] at hV | rw [leF_f2 hH, hnx] at hV
          exact hV
        · skip
          have hpn := popc_le (nx 32 M S)
          rw [nI_leI (by omega) (by omega)] at c95
          have hT : leT (nx 32 M S) (leF M (hoB th sd tp n sc pl pk px py N ls lv lx ly sp) (nx 32 M S)) = true := by rw [hnx, leT_iff]; omega
          refine v_aload_n F dX7_least_98 (i := 0) rfl 2 rfl (q := 99) rfl ?_
          refine v_iload F dX7_least_99 1 rfl (q := 101) rfl ?_
          refine v_callV F ml_X7_201 im_X7_holds se_X7_holds in_X7 co_X7_holds sd_X7_holds (c_X7_holds z g ga gb gc h ha hb hc hd o oa ob oc od ca m0 ma mb mc v0 t ta tb th sd tp n sc sp px py pl pk N M ls lv lx ly ab bl tn a1 a2 a3 a4 a5 a6 a7 a8 a9 a10 (fil (fun i => zI (gPU th sd n sc (pl i))) pu N) (fil (fun i => zI (gBE th sd tp n sc (pl i))) be N) (fil (fun i => nI (nrM px py sp i N)) nr N) dp0 b0 lf0 mo0 us0 (nx 32 M S) VI hB fil_P fil_B hnr) ⟨Nat.zero_le _, Nat.zero_le _⟩ (Nat.le_of_ble_eq_true rfl) (Nat.le_of_ble_eq_true rfl) 0 (As := [.int (nI (nx 32 M S))]) rfl rfl rfl rfl rfl [0, 1, 2, 3, 4, 5, 6, 7, 8, 9, 10, 11, 12, 13, 14, 15, 16, 17, 18, 19, 20, 21, 22, 23] rfl nd24 vnd24 (rest := []) rfl (Nat.le_of_ble_eq_true rfl) dX7_least_101 (q := 104) rfl (fun r w hr => ?_)
          obtain ⟨u1, u2, u3, u4, u5, u6, u7, u8, u9, u10, rfl, rfl⟩ := hr
          refine v_ws (ws' := [(z, .inr (7, [.ref g, .ref h, .ref o, .ref ca, .ref m0, .ref v0, .ref t, .int sp])), (g, .inr (2, [.ref ga, .ref gb, .ref gc, .int (nI n), .int sc])), (ga, .inl (cI, 6, .inl th)), (gb, .inl (cI, 6, .inl sd)), (gc, .inl (cI, 6, .inl tp)), (h, .inr (5, [.ref ha, .ref hb, .ref hc, .ref hd, .int (nI M), .int (nI N)])), (ha, .inl (cI, 12, .inl px)), (hb, .inl (cI, 12, .inl py)), (hc, .inl (cI, 12, .inl (fun i => nI (pl i)))), (hd, .inl (cI, 12, .inl pk)), (o, .inr (4, [.ref oa, .ref ob, .ref oc, .ref od])), (oa, .inl (cI, 3, .inl (fun i => nI (ls i)))), (ob, .inl (cJ, 3, .inr (.inl (fun i => zL (fsum ls lv i))))), (oc, .inl (cJ, 3, .inr (.inl (fun i => zL (fsum2 ls lv lx i))))), (od, .inl (cJ, 3, .inr (.inl (fun i => zL (fsum2 ls lv ly i))))), (ca, .inr (0, [.ref h, .long (zL u1), .long (zL u2), .long (zL u3), .long (zL u4), .long (zL u5), .long (zL u6), .long (zL u7), .long (zL u8), .long (zL u9), .long (zL u10)])), (m0, .inr (3, [.ref ma, .ref mb, .ref mc])), (ma, .inl (cI, 12, .inl (fil (fun i => zI (gPU th sd n sc (pl i))) pu N))), (mb, .inl (cI, 12, .inl (fil (fun i => zI (gBE th sd tp n sc (pl i))) be N))), (mc, .inl (cI, 12, .inl (fil (fun i => nI (nrM px py sp i N)) nr N))), (v0, .inr (1, [.int dp0, .int b0, .int lf0, .int mo0, .int us0])), (t, .inr (6, [.ref ta, .ref tb, .int (nI tn)])), (ta, .inl (cJ, 15, .inr (.inl ab))), (tb, .inl (cJ, 15, .inr (.inl bl)))]) ((wset_wgo (nodup_of nd24) rfl).trans rfl) ?_
          refine v_st (st' := [.int (bI (hoB th sd tp n sc pl pk px py N ls lv lx ly sp (nx 32 M S)))]) rfl ?_
          refine v_if_eq F dX7_least_104 (tgt := 114) rfl (q := 107) rfl (fun c104 => ?_) (fun c104 => ?_)
          · skip
            rw [bI_z] at c104
            have hH := c104
            refine v_iinc F dX7_least_114 7 rfl (v := nI (j + 1)) (lv' := [(6, .int (nI (j + 1))), (7, .int (nI (popc (nx 32 M S)))), (5, .int (nI (nx 32 M S))), (0, .ref z), (1, .int (nI M)), (2, .int (nI (2 ^ popc M))), (3, .int (enI (leF M (hoB th sd tp n sc pl pk px py N ls lv lx ly sp) (S + 1)))), (4, .int (nI (leW (leF M (hoB th sd tp n sc pl pk px py N ls lv lx ly sp) (S + 1)))))]) (nI_1 j) (Nat.le_of_ble_eq_true rfl) rfl (q := 117) rfl ?_
            refine v_goto F dX7_least_117 (tgt := 70) rfl ?_
            refine v_lv (lv' := [(0, .ref z), (1, .int (nI M)), (2, .int (nI (2 ^ popc M))), (3, .int (enI (leF M (hoB th sd tp n sc pl pk px py N ls lv lx ly sp) (S + 1)))), (4, .int (nI (leW (leF M (hoB th sd tp n sc pl pk px py N ls lv lx ly sp) (S + 1))))), (5, .int (nI (nx 32 M S))), (6, .int (nI (j + 1)))]) [3, 4, 5, 6, 7, 2, 0] rfl ?_
            have hV := ih d (by omega) (j + 1) (nx 32 M S) u1 u2 u3 u4 u5 u6 u7 u8 u9 u10 (by omega) hn1 (by omega)
            first | rw [leF_f1 hT, hnx] at hV | rw [leF_f2 hH, hnx] at hV
            exact hV
          · skip
            rw [bI_nz] at c104
            have hH := c104
            refine v_iload F dX7_least_107 1 rfl (q := 109) rfl ?_
            refine v_istore_n F dX7_least_109 (i := 3) (lv' := [(3, .int (nI (nx 32 M S))), (7, .int (nI (popc (nx 32 M S)))), (5, .int (nI (nx 32 M S))), (0, .ref z), (1, .int (nI M)), (2, .int (nI (2 ^ popc M))), (4, .int (nI (leW (leF M (hoB th sd tp n sc pl pk px py N ls lv lx ly sp) (S + 1))))), (6, .int (nI j))]) rfl (Nat.le_of_ble_eq_true rfl) rfl (q := 110) rfl ?_
            refine v_iload F dX7_least_110 1 rfl (q := 112) rfl ?_
            refine v_istore F dX7_least_112 (lv' := [(4, .int (nI (popc (nx 32 M S)))), (3, .int (nI (nx 32 M S))), (7, .int (nI (popc (nx 32 M S)))), (5, .int (nI (nx 32 M S))), (0, .ref z), (1, .int (nI M)), (2, .int (nI (2 ^ popc M))), (6, .int (nI j))]) (Nat.le_of_ble_eq_true rfl) rfl (q := 114) rfl ?_
            refine v_iinc F dX7_least_114 7 rfl (v := nI (j + 1)) (lv' := [(6, .int (nI (j + 1))), (4, .int (nI (popc (nx 32 M S)))), (3, .int (nI (nx 32 M S))), (7, .int (nI (popc (nx 32 M S)))), (5, .int (nI (nx 32 M S))), (0, .ref z), (1, .int (nI M)), (2, .int (nI (2 ^ popc M)))]) (nI_1 j) (Nat.le_of_ble_eq_true rfl) rfl (q := 117) rfl ?_
            refine v_goto F dX7_least_117 (tgt := 70) rfl ?_
            refine v_lv (lv' := [(0, .ref z), (1, .int (nI M)), (2, .int (nI (2 ^ popc M))), (3, .int (nI (nx 32 M S))), (4, .int (nI (popc (nx 32 M S)))), (5, .int (nI (nx 32 M S))), (6, .int (nI (j + 1)))]) [5, 6, 7, 2, 1, 4, 0] rfl ?_
            have hV := ih d (by omega) (j + 1) (nx 32 M S) u1 u2 u3 u4 u5 u6 u7 u8 u9 u10 (by omega) hn1 (by omega)
            rw [leF_t hn1 hT hH] at hV
            exact hV
    refine v_lv (lv' := [(0, .ref z), (1, .int (nI M)), (2, .int (nI (2 ^ popc M))), (3, .int (-4)), (4, .int 13), (5, .int 0), (6, .int 1)]) [6, 5, 4, 3, 2, 1, 0] rfl ?_
    have h0 := leF_t0 (M := M) (ho := (hoB th sd tp n sc pl pk px py N ls lv lx ly sp)) ho_0
    have hV := L70 (2 ^ popc M - 1) 1 0 w1 w2 w3 w4 w5 w6 de cw cp cq (by have := Nat.one_le_two_pow (n := popc M); omega) (sub2_0 M) (by rw [pe_0])
    rw [h0] at hV
    exact hV
  · skip
    rw [show (10 : Int32) = nI 10 from rfl, nI_leI (by omega) (by omega)] at c14
    refine v_bipush F dX7_least_17 (v := (-2)) (q := 19) rfl rfl ?_
    exact hE rfl dX7_least_19 (Nat.zero_le _) (Nat.zero_le _) ⟨(by have hf : fLeast (th, sd, tp, n, sc, sp, px, py, pl, pk, N, M, ls, lv, lx, ly, ab, bl, tn) = (-2, (th, sd, tp, n, sc, sp, px, py, pl, pk, N, M, ls, lv, lx, ly, ab, bl, tn)) := (by simp only [fLeast]; rw [if_pos (by omega)]); exact ⟨(w1, w2, w3, w4, w5, w6, de, cw, cp, cq, pu, be, nr, dp0, b0, lf0, mo0, us0), by rw [hf], by rw [hf]; rfl⟩), Nat.le_of_ble_eq_true rfl⟩

end TP
