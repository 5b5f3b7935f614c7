section MO
variable {l : Launch} {D : va_G} {cI cJ cZ : ClassId}
set_option maxHeartbeats 4000000 in
set_option maxRecDepth 100000 in
theorem c_X8_layerOf (y0 y1 y2 y3 y4 y5 y6 y7 y8 y9 y10 y11 y12 y13 y14 : Nat) (th : Nat → Int32) (sd : Nat → Int32) (tp : Nat → Int32) (n : Nat) (sc : Int32) (sp : Int32) (px : Nat → Int32) (py : Nat → Int32) (pl : Nat → Nat) (pk : Nat → Int32) (N : Nat) (M : Nat) (ls : Nat → Nat) (lv : Nat → Int32) (lx : Nat → Int32) (ly : Nat → Int32) (ab : Nat → Int64) (bl : Nat → Int64) (tn : Nat) (wo si t1 t2 : Int) (u : Nat) (VI : INV (th, sd, tp, n, sc, sp, px, py, pl, pk, N, M, ls, lv, lx, ly, ab, bl, tn)) (hu : u ≤ 1000) : Ct l D (TY cI cJ cZ) yX8_layerOf cX8_layerOf 4 (some .int) 0 0 0 0 [.ref y0, .int (nI u)] [(y0, .inr (8, [.int (nI n), .ref y1, .ref y2, .ref y3, .int sc, .int sp, .int (nI N), .ref y4, .ref y5, .ref y6, .ref y7, .ref y8, .ref y9, .ref y10, .ref y11, .ref y12, .int (nI tn), .ref y13, .ref y14, .long (zL wo), .long (zL si), .long (zL t1), .long (zL t2)])), (y1, .inl (cI, 6, .inl th)), (y2, .inl (cI, 6, .inl sd)), (y3, .inl (cI, 6, .inl tp)), (y4, .inl (cI, 12, .inl px)), (y5, .inl (cI, 12, .inl py)), (y6, .inl (cI, 12, .inl (fun i => nI (pl i)))), (y7, .inl (cI, 12, .inl pk)), (y8, .inl (cZ, 12, .inl (fun i => bI (M.testBit i)))), (y9, .inl (cI, 3, .inl (fun i => nI (ls i)))), (y10, .inl (cI, 18, .inl lv)), (y11, .inl (cI, 18, .inl lx)), (y12, .inl (cI, 18, .inl ly)), (y13, .inl (cJ, 15, .inr (.inl ab))), (y14, .inl (cJ, 15, .inr (.inl bl)))] (fun r w => r = some (.int (zI (gLI th n u))) ∧ w = [(y0, .inr (8, [.int (nI n), .ref y1, .ref y2, .ref y3, .int sc, .int sp, .int (nI N), .ref y4, .ref y5, .ref y6, .ref y7, .ref y8, .ref y9, .ref y10, .ref y11, .ref y12, .int (nI tn), .ref y13, .ref y14, .long (zL wo), .long (zL si), .long (zL t1), .long (zL t2)])), (y1, .inl (cI, 6, .inl th)), (y2, .inl (cI, 6, .inl sd)), (y3, .inl (cI, 6, .inl tp)), (y4, .inl (cI, 12, .inl px)), (y5, .inl (cI, 12, .inl py)), (y6, .inl (cI, 12, .inl (fun i => nI (pl i)))), (y7, .inl (cI, 12, .inl pk)), (y8, .inl (cZ, 12, .inl (fun i => bI (M.testBit i)))), (y9, .inl (cI, 3, .inl (fun i => nI (ls i)))), (y10, .inl (cI, 18, .inl lv)), (y11, .inl (cI, 18, .inl lx)), (y12, .inl (cI, 18, .inl ly)), (y13, .inl (cJ, 15, .inr (.inl ab))), (y14, .inl (cJ, 15, .inr (.inl bl)))]) := by
  refine Ct.ofI (ty := .int) (by decide) (Nat.le_of_ble_eq_true rfl) ?_
  intro p e s m args below meth c A R Q F hnm hcs0 hE
  refine v_lv (lv' := [(0, .ref y0), (1, .int (nI u))]) [0, 1] rfl ?_
  obtain ⟨G, hsp, P, hM, hls, hlv, hlx, hly, htn⟩ := id VI
  have hn6 := G.1
  have hN12 := P.1
  have hM4 : M < 4096 := Nat.lt_of_lt_of_le hM (Nat.pow_le_pow_right (by omega) hN12)
  have L4 : ∀ (d k : Nat), (n = 0 ∧ k = 0 ∨ k < n) → k + d = n → gB th k ≤ u → gLf th u n 0 = gLf th u d k → V p l e R s m args below meth c D A 4 0 0 Q 4 [(0, .ref y0), (1, .int (nI u)), (2, .int (zI ((u : Int) - gB th k))), (3, .int (nI k))] [] [(y0, .inr (8, [.int (nI n), .ref y1, .ref y2, .ref y3, .int sc, .int sp, .int (nI N), .ref y4, .ref y5, .ref y6, .ref y7, .ref y8, .ref y9, .ref y10, .ref y11, .ref y12, .int (nI tn), .ref y13, .ref y14, .long (zL wo), .long (zL si), .long (zL t1), .long (zL t2)])), (y1, .inl (cI, 6, .inl th)), (y2, .inl (cI, 6, .inl sd)), (y3, .inl (cI, 6, .inl tp)), (y4, .inl (cI, 12, .inl px)), (y5, .inl (cI, 12, .inl py)), (y6, .inl (cI, 12, .inl (fun i => nI (pl i)))), (y7, .inl (cI, 12, .inl pk)), (y8, .inl (cZ, 12, .inl (fun i => bI (M.testBit i)))), (y9, .inl (cI, 3, .inl (fun i => nI (ls i)))), (y10, .inl (cI, 18, .inl lv)), (y11, .inl (cI, 18, .inl lx)), (y12, .inl (cI, 18, .inl ly)), (y13, .inl (cJ, 15, .inr (.inl ab))), (y14, .inl (cJ, 15, .inr (.inl bl)))] := by
    intro d
    induction d using Nat.strongRecOn with
    | _ d ih => ?_
    intro k hkn hk hge hf
    refine v_iload_n F dX8_layerOf_4 (i := 3) rfl 3 rfl (q := 5) rfl ?_
    refine v_aload_n F dX8_layerOf_5 (i := 0) rfl 0 rfl (q := 6) rfl ?_
    refine gt_X8_58 F dX8_layerOf_6 0 rfl rfl (q := 9) rfl ?_
    refine v_iconst F dX8_layerOf_9 (v := 1) (q := 10) rfl rfl ?_
    refine v_isub F dX8_layerOf_10 (q := 11) rfl ?_
    refine v_icmp_ge F dX8_layerOf_11 (tgt := 39) rfl (q := 14) rfl (fun c11 => ?_) (fun c11 => ?_)
    · skip
      have hkk : n = 0 ∨ k + 1 = n := mo_last (by omega) hkn c11
      refine v_aload_n F dX8_layerOf_39 (i := 0) rfl 0 rfl (q := 40) rfl ?_
      refine gt_X8_58 F dX8_layerOf_40 0 rfl rfl (q := 43) rfl ?_
      refine v_if_ne F dX8_layerOf_43 (tgt := 50) rfl (q := 46) rfl (fun c43 => ?_) (fun c43 => ?_)
      · skip
        have hn0 : n ≠ 0 := fun q => c43 (by rw [q]; rfl)
        refine v_iload_n F dX8_layerOf_50 (i := 3) rfl 3 rfl (q := 51) rfl ?_
        exact hE rfl dX8_layerOf_51 (Nat.zero_le _) (Nat.zero_le _) ⟨⟨by rw [mo_end (by omega) hk hf], rfl⟩, Nat.le_of_ble_eq_true rfl⟩
      · skip
        have hn0 : n = 0 := (nI_eq (b := 0) (by omega) (by omega)).mp c43
        refine v_iconst F dX8_layerOf_46 (v := (-1)) (q := 47) rfl rfl ?_
        refine v_goto F dX8_layerOf_47 (tgt := 51) rfl ?_
        exact hE rfl dX8_layerOf_51 (Nat.zero_le _) (Nat.zero_le _) ⟨⟨by rw [show gLI th n u = -1 from if_pos hn0]; rfl, rfl⟩, Nat.le_of_ble_eq_true rfl⟩
    · skip
      have hkk : k + 1 < n := mo_more (by omega) hkn c11
      obtain ⟨d, rfl⟩ : ∃ d2, d = d2 + 1 := ⟨d - 1, by omega⟩
      have hB := gB_rng G.2.1 (k + 1) (by omega)
      have hB0 := gB_rng G.2.1 k (by omega)
      have hT := G.2.1 k (by omega)
      have hBs : gB th (k + 1) = gB th k + (th k).toInt := rfl
      simp only [gLf] at hf
      refine v_iload_n F dX8_layerOf_14 (i := 2) rfl 2 rfl (q := 15) rfl ?_
      refine v_aload_n F dX8_layerOf_15 (i := 0) rfl 0 rfl (q := 16) rfl ?_
      refine gt_X8_7 F dX8_layerOf_16 0 rfl rfl (q := 19) rfl ?_
      refine v_iload_n F dX8_layerOf_19 (i := 3) rfl 3 rfl (q := 20) rfl ?_
      refine v_ialdN F 1 0 rfl rfl (j := k) (by omega) (by decide) dX8_layerOf_20 (q := 21) rfl ?_
      refine v_icmp_lt F dX8_layerOf_21 (tgt := 39) rfl (q := 24) rfl (fun c21 => ?_) (fun c21 => ?_)
      · skip
        rw [Int32.lt_iff_toInt_lt, zI_toInt (by omega) (by omega)] at c21
        rw [if_pos (by omega)] at hf
        refine v_aload_n F dX8_layerOf_39 (i := 0) rfl 0 rfl (q := 40) rfl ?_
        refine gt_X8_58 F dX8_layerOf_40 0 rfl rfl (q := 43) rfl ?_
        refine v_if_ne F dX8_layerOf_43 (tgt := 50) rfl (q := 46) rfl (fun c43 => ?_) (fun c43 => ?_)
        · skip
          have hn0 : n ≠ 0 := fun q => c43 (by rw [q]; rfl)
          refine v_iload_n F dX8_layerOf_50 (i := 3) rfl 3 rfl (q := 51) rfl ?_
          exact hE rfl dX8_layerOf_51 (Nat.zero_le _) (Nat.zero_le _) ⟨⟨by rw [gL_at (by omega) hf], rfl⟩, Nat.le_of_ble_eq_true rfl⟩
        · skip
          have hn0 : n = 0 := (nI_eq (b := 0) (by omega) (by omega)).mp c43
          refine v_iconst F dX8_layerOf_46 (v := (-1)) (q := 47) rfl rfl ?_
          refine v_goto F dX8_layerOf_47 (tgt := 51) rfl ?_
          exact hE rfl dX8_layerOf_51 (Nat.zero_le _) (Nat.zero_le _) ⟨⟨by rw [show gLI th n u = -1 from if_pos hn0]; rfl, rfl⟩, Nat.le_of_ble_eq_true rfl⟩
      · skip
        rw [Int32.lt_iff_toInt_lt, zI_toInt (by omega) (by omega)] at c21
        rw [if_neg (by omega)] at hf
        refine v_iload_n F dX8_layerOf_24 (i := 2) rfl 2 rfl (q := 25) rfl ?_
        refine v_aload_n F dX8_layerOf_25 (i := 0) rfl 0 rfl (q := 26) rfl ?_
        refine gt_X8_7 F dX8_layerOf_26 0 rfl rfl (q := 29) rfl ?_
        refine v_iload_n F dX8_layerOf_29 (i := 3) rfl 3 rfl (q := 30) rfl ?_
        refine v_ialdN F 1 0 rfl rfl (j := k) (by omega) (by decide) dX8_layerOf_30 (q := 31) rfl ?_
        refine v_isub F dX8_layerOf_31 (q := 32) rfl ?_
        refine v_int (y := zI ((u : Int) - gB th (k + 1))) (by rw [← zI_as (th k), zI_sub]; simp only [gB, zI_as]; congr 1; omega) ?_
        refine v_istore_n F dX8_layerOf_32 (i := 2) (lv' := [(2, .int (zI ((u : Int) - gB th (k + 1)))), (0, .ref y0), (1, .int (nI u)), (3, .int (nI k))]) rfl (Nat.le_of_ble_eq_true rfl) rfl (q := 33) rfl ?_
        refine v_iinc F dX8_layerOf_33 3 rfl (v := nI (k + 1)) (lv' := [(3, .int (nI (k + 1))), (2, .int (zI ((u : Int) - gB th (k + 1)))), (0, .ref y0), (1, .int (nI u))]) (nI_1 k) (Nat.le_of_ble_eq_true rfl) rfl (q := 36) rfl ?_
        refine v_goto F dX8_layerOf_36 (tgt := 4) rfl ?_
        refine v_lv (lv' := [(0, .ref y0), (1, .int (nI u)), (2, .int (zI ((u : Int) - gB th (k + 1)))), (3, .int (nI (k + 1)))]) [2, 3, 1, 0] rfl ?_
        exact ih d (by omega) (k + 1) (Or.inr hkk) (by omega) (by omega) hf
  refine v_iload_n F dX8_layerOf_0 (i := 1) rfl 1 rfl (q := 1) rfl ?_
  refine v_istore_n F dX8_layerOf_1 (i := 2) (lv' := [(2, .int (nI u)), (0, .ref y0), (1, .int (nI u))]) rfl (Nat.le_of_ble_eq_true rfl) rfl (q := 2) rfl ?_
  refine v_iconst F dX8_layerOf_2 (v := 0) (q := 3) rfl rfl ?_
  refine v_istore_n F dX8_layerOf_3 (i := 3) (lv' := [(3, .int 0), (2, .int (nI u)), (0, .ref y0), (1, .int (nI u))]) rfl (Nat.le_of_ble_eq_true rfl) rfl (q := 4) rfl ?_
  refine v_lv (lv' := [(0, .ref y0), (1, .int (nI u)), (2, .int (nI u)), (3, .int 0)]) [2, 3, 1, 0] rfl ?_
  have hV := L4 n 0 (by omega) (by omega) (by simp [gB]) rfl
  rw [show zI ((u : Int) - gB th 0) = nI u from by rw [zI_nat]; simp [gB]] at hV
  exact hV

set_option maxHeartbeats 4000000 in
set_option maxRecDepth 100000 in
theorem c_X8_sideOf (y0 y1 y2 y3 y4 y5 y6 y7 y8 y9 y10 y11 y12 y13 y14 : Nat) (th : Nat → Int32) (sd : Nat → Int32) (tp : Nat → Int32) (n : Nat) (sc : Int32) (sp : Int32) (px : Nat → Int32) (py : Nat → Int32) (pl : Nat → Nat) (pk : Nat → Int32) (N : Nat) (M : Nat) (ls : Nat → Nat) (lv : Nat → Int32) (lx : Nat → Int32) (ly : Nat → Int32) (ab : Nat → Int64) (bl : Nat → Int64) (tn : Nat) (wo si t1 t2 : Int) (u : Nat) (VI : INV (th, sd, tp, n, sc, sp, px, py, pl, pk, N, M, ls, lv, lx, ly, ab, bl, tn)) (hu : u ≤ 1000) : Ct l D (TY cI cJ cZ) yX8_sideOf cX8_sideOf 3 (some .int) 1 23 0 0 [.ref y0, .int (nI u)] [(y0, .inr (8, [.int (nI n), .ref y1, .ref y2, .ref y3, .int sc, .int sp, .int (nI N), .ref y4, .ref y5, .ref y6, .ref y7, .ref y8, .ref y9, .ref y10, .ref y11, .ref y12, .int (nI tn), .ref y13, .ref y14, .long (zL wo), .long (zL si), .long (zL t1), .long (zL t2)])), (y1, .inl (cI, 6, .inl th)), (y2, .inl (cI, 6, .inl sd)), (y3, .inl (cI, 6, .inl tp)), (y4, .inl (cI, 12, .inl px)), (y5, .inl (cI, 12, .inl py)), (y6, .inl (cI, 12, .inl (fun i => nI (pl i)))), (y7, .inl (cI, 12, .inl pk)), (y8, .inl (cZ, 12, .inl (fun i => bI (M.testBit i)))), (y9, .inl (cI, 3, .inl (fun i => nI (ls i)))), (y10, .inl (cI, 18, .inl lv)), (y11, .inl (cI, 18, .inl lx)), (y12, .inl (cI, 18, .inl ly)), (y13, .inl (cJ, 15, .inr (.inl ab))), (y14, .inl (cJ, 15, .inr (.inl bl)))] (fun r w => r = some (.int (zI (gSD th sd n sc u))) ∧ w = [(y0, .inr (8, [.int (nI n), .ref y1, .ref y2, .ref y3, .int sc, .int sp, .int (nI N), .ref y4, .ref y5, .ref y6, .ref y7, .ref y8, .ref y9, .ref y10, .ref y11, .ref y12, .int (nI tn), .ref y13, .ref y14, .long (zL wo), .long (zL si), .long (zL t1), .long (zL t2)])), (y1, .inl (cI, 6, .inl th)), (y2, .inl (cI, 6, .inl sd)), (y3, .inl (cI, 6, .inl tp)), (y4, .inl (cI, 12, .inl px)), (y5, .inl (cI, 12, .inl py)), (y6, .inl (cI, 12, .inl (fun i => nI (pl i)))), (y7, .inl (cI, 12, .inl pk)), (y8, .inl (cZ, 12, .inl (fun i => bI (M.testBit i)))), (y9, .inl (cI, 3, .inl (fun i => nI (ls i)))), (y10, .inl (cI, 18, .inl lv)), (y11, .inl (cI, 18, .inl lx)), (y12, .inl (cI, 18, .inl ly)), (y13, .inl (cJ, 15, .inr (.inl ab))), (y14, .inl (cJ, 15, .inr (.inl bl)))]) := by
  refine Ct.ofI (ty := .int) (by decide) (Nat.le_of_ble_eq_true rfl) ?_
  intro p e s m args below meth c A R Q F hnm hcs0 hE
  refine v_lv (lv' := [(0, .ref y0), (1, .int (nI u))]) [0, 1] rfl ?_
  obtain ⟨G, hsp, P, hM, hls, hlv, hlx, hly, htn⟩ := id VI
  have hn6 := G.1
  have hN12 := P.1
  have hM4 : M < 4096 := Nat.lt_of_lt_of_le hM (Nat.pow_le_pow_right (by omega) hN12)
  refine v_aload_n F dX8_sideOf_0 (i := 0) rfl 0 rfl (q := 1) rfl ?_
  refine v_iload_n F dX8_sideOf_1 (i := 1) rfl 1 rfl (q := 2) rfl ?_
  refine v_callV F ml_X8_68 im_X8_layerOf se_X8_layerOf in_X8 co_X8_layerOf sd_X8_layerOf (c_X8_layerOf y0 y1 y2 y3 y4 y5 y6 y7 y8 y9 y10 y11 y12 y13 y14 th sd tp n sc sp px py pl pk N M ls lv lx ly ab bl tn wo si t1 t2 u ⟨G, hsp, P, hM, hls, hlv, hlx, hly, by omega⟩ (by omega)) ⟨Nat.zero_le _, Nat.zero_le _⟩ (Nat.le_of_ble_eq_true rfl) (Nat.le_of_ble_eq_true rfl) 0 (As := [.int (nI u)]) rfl rfl rfl rfl rfl [0, 1, 2, 3, 4, 5, 6, 7, 8, 9, 10, 11, 12, 13, 14] rfl nd15 vnd15 (rest := []) rfl (Nat.le_of_ble_eq_true rfl) dX8_sideOf_2 (q := 5) rfl (fun r w hr => ?_)
  obtain ⟨rfl, rfl⟩ := hr
  refine v_ws (ws' := [(y0, .inr (8, [.int (nI n), .ref y1, .ref y2, .ref y3, .int sc, .int sp, .int (nI N), .ref y4, .ref y5, .ref y6, .ref y7, .ref y8, .ref y9, .ref y10, .ref y11, .ref y12, .int (nI tn), .ref y13, .ref y14, .long (zL wo), .long (zL si), .long (zL t1), .long (zL t2)])), (y1, .inl (cI, 6, .inl th)), (y2, .inl (cI, 6, .inl sd)), (y3, .inl (cI, 6, .inl tp)), (y4, .inl (cI, 12, .inl px)), (y5, .inl (cI, 12, .inl py)), (y6, .inl (cI, 12, .inl (fun i => nI (pl i)))), (y7, .inl (cI, 12, .inl pk)), (y8, .inl (cZ, 12, .inl (fun i => bI (M.testBit i)))), (y9, .inl (cI, 3, .inl (fun i => nI (ls i)))), (y10, .inl (cI, 18, .inl lv)), (y11, .inl (cI, 18, .inl lx)), (y12, .inl (cI, 18, .inl ly)), (y13, .inl (cJ, 15, .inr (.inl ab))), (y14, .inl (cJ, 15, .inr (.inl bl)))]) ((wset_wgo (nodup_of nd15) rfl).trans rfl) ?_
  refine v_st (st' := [.int (zI (gLI th n u))]) rfl ?_
  refine v_istore_n F dX8_sideOf_5 (i := 2) (lv' := [(2, .int (zI (gLI th n u))), (0, .ref y0), (1, .int (nI u))]) rfl (Nat.le_of_ble_eq_true rfl) rfl (q := 6) rfl ?_
  refine v_iload_n F dX8_sideOf_6 (i := 2) rfl 0 rfl (q := 7) rfl ?_
  refine v_if_lt F dX8_sideOf_7 (tgt := 18) rfl (q := 10) rfl (fun c7 => ?_) (fun c7 => ?_)
  · skip
    rw [gLI_neg hn6] at c7
    refine v_iconst F dX8_sideOf_18 (v := 0) (q := 19) rfl rfl ?_
    refine v_goto F dX8_sideOf_19 (tgt := 28) rfl ?_
    exact hE rfl dX8_sideOf_28 (Nat.zero_le _) (Nat.zero_le _) ⟨⟨by first | rw [← gSD_0 c7] | rw [← gSD_s hu c15], rfl⟩, Nat.le_of_ble_eq_true rfl⟩
  · skip
    rw [gLI_neg hn6] at c7
    have hlt := gL_lt (th := th) (u := u) (Nat.pos_of_ne_zero c7)
    refine v_iload_n F dX8_sideOf_10 (i := 1) rfl 2 rfl (q := 11) rfl ?_
    refine v_aload_n F dX8_sideOf_11 (i := 0) rfl 1 rfl (q := 12) rfl ?_
    refine gt_X8_62 F dX8_sideOf_12 0 rfl rfl (q := 15) rfl ?_
    refine v_icmp_ge F dX8_sideOf_15 (tgt := 22) rfl (q := 18) rfl (fun c15 => ?_) (fun c15 => ?_)
    · skip
      refine v_aload_n F dX8_sideOf_22 (i := 0) rfl 1 rfl (q := 23) rfl ?_
      refine gt_X8_13 F dX8_sideOf_23 0 rfl rfl (q := 26) rfl ?_
      refine v_iload_n F dX8_sideOf_26 (i := 2) rfl 0 rfl (q := 27) rfl ?_
      refine v_int (y := nI (gL th n u)) (gLI_pos c7) ?_
      refine v_ialdN F 2 0 rfl rfl (j := gL th n u) (by omega) (by decide) dX8_sideOf_27 (q := 28) rfl ?_
      exact hE rfl dX8_sideOf_28 (Nat.zero_le _) (Nat.zero_le _) ⟨⟨by rw [← gSD_n hu c7 c15], rfl⟩, Nat.le_of_ble_eq_true rfl⟩
    · skip
      refine v_iconst F dX8_sideOf_18 (v := 0) (q := 19) rfl rfl ?_
      refine v_goto F dX8_sideOf_19 (tgt := 28) rfl ?_
      exact hE rfl dX8_sideOf_28 (Nat.zero_le _) (Nat.zero_le _) ⟨⟨by first | rw [← gSD_0 c7] | rw [← gSD_s hu c15], rfl⟩, Nat.le_of_ble_eq_true rfl⟩

set_option maxHeartbeats 4000000 in
set_option maxRecDepth 100000 in
theorem c_X8_tipOf (y0 y1 y2 y3 y4 y5 y6 y7 y8 y9 y10 y11 y12 y13 y14 : Nat) (th : Nat → Int32) (sd : Nat → Int32) (tp : Nat → Int32) (n : Nat) (sc : Int32) (sp : Int32) (px : Nat → Int32) (py : Nat → Int32) (pl : Nat → Nat) (pk : Nat → Int32) (N : Nat) (M : Nat) (ls : Nat → Nat) (lv : Nat → Int32) (lx : Nat → Int32) (ly : Nat → Int32) (ab : Nat → Int64) (bl : Nat → Int64) (tn : Nat) (wo si t1 t2 : Int) (u : Nat) (VI : INV (th, sd, tp, n, sc, sp, px, py, pl, pk, N, M, ls, lv, lx, ly, ab, bl, tn)) (hu : u ≤ 1000) : Ct l D (TY cI cJ cZ) yX8_tipOf cX8_tipOf 3 (some .int) 1 23 0 0 [.ref y0, .int (nI u)] [(y0, .inr (8, [.int (nI n), .ref y1, .ref y2, .ref y3, .int sc, .int sp, .int (nI N), .ref y4, .ref y5, .ref y6, .ref y7, .ref y8, .ref y9, .ref y10, .ref y11, .ref y12, .int (nI tn), .ref y13, .ref y14, .long (zL wo), .long (zL si), .long (zL t1), .long (zL t2)])), (y1, .inl (cI, 6, .inl th)), (y2, .inl (cI, 6, .inl sd)), (y3, .inl (cI, 6, .inl tp)), (y4, .inl (cI, 12, .inl px)), (y5, .inl (cI, 12, .inl py)), (y6, .inl (cI, 12, .inl (fun i => nI (pl i)))), (y7, .inl (cI, 12, .inl pk)), (y8, .inl (cZ, 12, .inl (fun i => bI (M.testBit i)))), (y9, .inl (cI, 3, .inl (fun i => nI (ls i)))), (y10, .inl (cI, 18, .inl lv)), (y11, .inl (cI, 18, .inl lx)), (y12, .inl (cI, 18, .inl ly)), (y13, .inl (cJ, 15, .inr (.inl ab))), (y14, .inl (cJ, 15, .inr (.inl bl)))] (fun r w => r = some (.int (zI (gTI th tp n u))) ∧ w = [(y0, .inr (8, [.int (nI n), .ref y1, .ref y2, .ref y3, .int sc, .int sp, .int (nI N), .ref y4, .ref y5, .ref y6, .ref y7, .ref y8, .ref y9, .ref y10, .ref y11, .ref y12, .int (nI tn), .ref y13, .ref y14, .long (zL wo), .long (zL si), .long (zL t1), .long (zL t2)])), (y1, .inl (cI, 6, .inl th)), (y2, .inl (cI, 6, .inl sd)), (y3, .inl (cI, 6, .inl tp)), (y4, .inl (cI, 12, .inl px)), (y5, .inl (cI, 12, .inl py)), (y6, .inl (cI, 12, .inl (fun i => nI (pl i)))), (y7, .inl (cI, 12, .inl pk)), (y8, .inl (cZ, 12, .inl (fun i => bI (M.testBit i)))), (y9, .inl (cI, 3, .inl (fun i => nI (ls i)))), (y10, .inl (cI, 18, .inl lv)), (y11, .inl (cI, 18, .inl lx)), (y12, .inl (cI, 18, .inl ly)), (y13, .inl (cJ, 15, .inr (.inl ab))), (y14, .inl (cJ, 15, .inr (.inl bl)))]) := by
  refine Ct.ofI (ty := .int) (by decide) (Nat.le_of_ble_eq_true rfl) ?_
  intro p e s m args below meth c A R Q F hnm hcs0 hE
  refine v_lv (lv' := [(0, .ref y0), (1, .int (nI u))]) [0, 1] rfl ?_
  obtain ⟨G, hsp, P, hM, hls, hlv, hlx, hly, htn⟩ := id VI
  have hn6 := G.1
  have hN12 := P.1
  have hM4 : M < 4096 := Nat.lt_of_lt_of_le hM (Nat.pow_le_pow_right (by omega) hN12)
  refine v_aload_n F dX8_tipOf_0 (i := 0) rfl 0 rfl (q := 1) rfl ?_
  refine v_iload_n F dX8_tipOf_1 (i := 1) rfl 1 rfl (q := 2) rfl ?_
  refine v_callV F ml_X8_68 im_X8_layerOf se_X8_layerOf in_X8 co_X8_layerOf sd_X8_layerOf (c_X8_layerOf y0 y1 y2 y3 y4 y5 y6 y7 y8 y9 y10 y11 y12 y13 y14 th sd tp n sc sp px py pl pk N M ls lv lx ly ab bl tn wo si t1 t2 u ⟨G, hsp, P, hM, hls, hlv, hlx, hly, by omega⟩ (by omega)) ⟨Nat.zero_le _, Nat.zero_le _⟩ (Nat.le_of_ble_eq_true rfl) (Nat.le_of_ble_eq_true rfl) 0 (As := [.int (nI u)]) rfl rfl rfl rfl rfl [0, 1, 2, 3, 4, 5, 6, 7, 8, 9, 10, 11, 12, 13, 14] rfl nd15 vnd15 (rest := []) rfl (Nat.le_of_ble_eq_true rfl) dX8_tipOf_2 (q := 5) rfl (fun r w hr => ?_)
  obtain ⟨rfl, rfl⟩ := hr
  refine v_ws (ws' := [(y0, .inr (8, [.int (nI n), .ref y1, .ref y2, .ref y3, .int sc, .int sp, .int (nI N), .ref y4, .ref y5, .ref y6, .ref y7, .ref y8, .ref y9, .ref y10, .ref y11, .ref y12, .int (nI tn), .ref y13, .ref y14, .long (zL wo), .long (zL si), .long (zL t1), .long (zL t2)])), (y1, .inl (cI, 6, .inl th)), (y2, .inl (cI, 6, .inl sd)), (y3, .inl (cI, 6, .inl tp)), (y4, .inl (cI, 12, .inl px)), (y5, .inl (cI, 12, .inl py)), (y6, .inl (cI, 12, .inl (fun i => nI (pl i)))), (y7, .inl (cI, 12, .inl pk)), (y8, .inl (cZ, 12, .inl (fun i => bI (M.testBit i)))), (y9, .inl (cI, 3, .inl (fun i => nI (ls i)))), (y10, .inl (cI, 18, .inl lv)), (y11, .inl (cI, 18, .inl lx)), (y12, .inl (cI, 18, .inl ly)), (y13, .inl (cJ, 15, .inr (.inl ab))), (y14, .inl (cJ, 15, .inr (.inl bl)))]) ((wset_wgo (nodup_of nd15) rfl).trans rfl) ?_
  refine v_st (st' := [.int (zI (gLI th n u))]) rfl ?_
  refine v_istore_n F dX8_tipOf_5 (i := 2) (lv' := [(2, .int (zI (gLI th n u))), (0, .ref y0), (1, .int (nI u))]) rfl (Nat.le_of_ble_eq_true rfl) rfl (q := 6) rfl ?_
  refine v_iload_n F dX8_tipOf_6 (i := 2) rfl 0 rfl (q := 7) rfl ?_
  refine v_if_ge F dX8_tipOf_7 (tgt := 14) rfl (q := 10) rfl (fun c7 => ?_) (fun c7 => ?_)
  · skip
    have c7 : n ≠ 0 := fun z => (i32_nlt.mpr c7) ((gLI_neg hn6).mpr z)
    have hlt := gL_lt (th := th) (u := u) (Nat.pos_of_ne_zero c7)
    refine v_aload_n F dX8_tipOf_14 (i := 0) rfl 1 rfl (q := 15) rfl ?_
    refine gt_X8_16 F dX8_tipOf_15 0 rfl rfl (q := 18) rfl ?_
    refine v_iload_n F dX8_tipOf_18 (i := 2) rfl 0 rfl (q := 19) rfl ?_
    refine v_int (y := nI (gL th n u)) (gLI_pos c7) ?_
    refine v_ialdN F 3 0 rfl rfl (j := gL th n u) (by omega) (by decide) dX8_tipOf_19 (q := 20) rfl ?_
    exact hE rfl dX8_tipOf_20 (Nat.zero_le _) (Nat.zero_le _) ⟨⟨by rw [← gTI_n c7], rfl⟩, Nat.le_of_ble_eq_true rfl⟩
  · skip
    have c7 := gLI_neg hn6 |>.mp (i32_nle.mp c7)
    refine v_iconst F dX8_tipOf_10 (v := 0) (q := 11) rfl rfl ?_
    refine v_goto F dX8_tipOf_11 (tgt := 20) rfl ?_
    exact hE rfl dX8_tipOf_20 (Nat.zero_le _) (Nat.zero_le _) ⟨⟨by rw [← gTI_0 c7], rfl⟩, Nat.le_of_ble_eq_true rfl⟩

set_option maxHeartbeats 4000000 in
set_option maxRecDepth 100000 in
theorem c_X8_pullOf (y0 y1 y2 y3 y4 y5 y6 y7 y8 y9 y10 y11 y12 y13 y14 : Nat) (th : Nat → Int32) (sd : Nat → Int32) (tp : Nat → Int32) (n : Nat) (sc : Int32) (sp : Int32) (px : Nat → Int32) (py : Nat → Int32) (pl : Nat → Nat) (pk : Nat → Int32) (N : Nat) (M : Nat) (ls : Nat → Nat) (lv : Nat → Int32) (lx : Nat → Int32) (ly : Nat → Int32) (ab : Nat → Int64) (bl : Nat → Int64) (tn : Nat) (wo si t1 t2 : Int) (u : Nat) (VI : INV (th, sd, tp, n, sc, sp, px, py, pl, pk, N, M, ls, lv, lx, ly, ab, bl, tn)) (hu : u ≤ 1000) : Ct l D (TY cI cJ cZ) yX8_pullOf cX8_pullOf 4 (some .int) 2 45 0 0 [.ref y0, .int (nI u)] [(y0, .inr (8, [.int (nI n), .ref y1, .ref y2, .ref y3, .int sc, .int sp, .int (nI N), .ref y4, .ref y5, .ref y6, .ref y7, .ref y8, .ref y9, .ref y10, .ref y11, .ref y12, .int (nI tn), .ref y13, .ref y14, .long (zL wo), .long (zL si), .long (zL t1), .long (zL t2)])), (y1, .inl (cI, 6, .inl th)), (y2, .inl (cI, 6, .inl sd)), (y3, .inl (cI, 6, .inl tp)), (y4, .inl (cI, 12, .inl px)), (y5, .inl (cI, 12, .inl py)), (y6, .inl (cI, 12, .inl (fun i => nI (pl i)))), (y7, .inl (cI, 12, .inl pk)), (y8, .inl (cZ, 12, .inl (fun i => bI (M.testBit i)))), (y9, .inl (cI, 3, .inl (fun i => nI (ls i)))), (y10, .inl (cI, 18, .inl lv)), (y11, .inl (cI, 18, .inl lx)), (y12, .inl (cI, 18, .inl ly)), (y13, .inl (cJ, 15, .inr (.inl ab))), (y14, .inl (cJ, 15, .inr (.inl bl)))] (fun r w => r = some (.int (zI (gPU th sd n sc u))) ∧ w = [(y0, .inr (8, [.int (nI n), .ref y1, .ref y2, .ref y3, .int sc, .int sp, .int (nI N), .ref y4, .ref y5, .ref y6, .ref y7, .ref y8, .ref y9, .ref y10, .ref y11, .ref y12, .int (nI tn), .ref y13, .ref y14, .long (zL wo), .long (zL si), .long (zL t1), .long (zL t2)])), (y1, .inl (cI, 6, .inl th)), (y2, .inl (cI, 6, .inl sd)), (y3, .inl (cI, 6, .inl tp)), (y4, .inl (cI, 12, .inl px)), (y5, .inl (cI, 12, .inl py)), (y6, .inl (cI, 12, .inl (fun i => nI (pl i)))), (y7, .inl (cI, 12, .inl pk)), (y8, .inl (cZ, 12, .inl (fun i => bI (M.testBit i)))), (y9, .inl (cI, 3, .inl (fun i => nI (ls i)))), (y10, .inl (cI, 18, .inl lv)), (y11, .inl (cI, 18, .inl lx)), (y12, .inl (cI, 18, .inl ly)), (y13, .inl (cJ, 15, .inr (.inl ab))), (y14, .inl (cJ, 15, .inr (.inl bl)))]) := by
  refine Ct.ofI (ty := .int) (by decide) (Nat.le_of_ble_eq_true rfl) ?_
  intro p e s m args below meth c A R Q F hnm hcs0 hE
  refine v_lv (lv' := [(0, .ref y0), (1, .int (nI u))]) [0, 1] rfl ?_
  obtain ⟨G, hsp, P, hM, hls, hlv, hlx, hly, htn⟩ := id VI
  have hn6 := G.1
  have hN12 := P.1
  have hM4 : M < 4096 := Nat.lt_of_lt_of_le hM (Nat.pow_le_pow_right (by omega) hN12)
  have L4 : ∀ (d k : Nat), k + d = u → V p l e R s m args below meth c D A 4 0 0 Q 4 [(0, .ref y0), (1, .int (nI u)), (2, .int (zI (gPU th sd n sc k))), (3, .int (nI k))] [] [(y0, .inr (8, [.int (nI n), .ref y1, .ref y2, .ref y3, .int sc, .int sp, .int (nI N), .ref y4, .ref y5, .ref y6, .ref y7, .ref y8, .ref y9, .ref y10, .ref y11, .ref y12, .int (nI tn), .ref y13, .ref y14, .long (zL wo), .long (zL si), .long (zL t1), .long (zL t2)])), (y1, .inl (cI, 6, .inl th)), (y2, .inl (cI, 6, .inl sd)), (y3, .inl (cI, 6, .inl tp)), (y4, .inl (cI, 12, .inl px)), (y5, .inl (cI, 12, .inl py)), (y6, .inl (cI, 12, .inl (fun i => nI (pl i)))), (y7, .inl (cI, 12, .inl pk)), (y8, .inl (cZ, 12, .inl (fun i => bI (M.testBit i)))), (y9, .inl (cI, 3, .inl (fun i => nI (ls i)))), (y10, .inl (cI, 18, .inl lv)), (y11, .inl (cI, 18, .inl lx)), (y12, .inl (cI, 18, .inl ly)), (y13, .inl (cJ, 15, .inr (.inl ab))), (y14, .inl (cJ, 15, .inr (.inl bl)))] := by
    intro d
    induction d using Nat.strongRecOn with
    | _ d ih => ?_
    intro k hk
    refine v_iload_n F dX8_pullOf_4 (i := 3) rfl 3 rfl (q := 5) rfl ?_
    refine v_iload_n F dX8_pullOf_5 (i := 1) rfl 1 rfl (q := 6) rfl ?_
    refine v_icmp_ge F dX8_pullOf_6 (tgt := 23) rfl (q := 9) rfl (fun c6 => ?_) (fun c6 => ?_)
    · skip
      rw [nI_leI (by omega) (by omega)] at c6
      have hku : u = k := by omega
      subst hku
      refine v_iload_n F dX8_pullOf_23 (i := 2) rfl 2 rfl (q := 24) rfl ?_
      exact hE rfl dX8_pullOf_24 (Nat.zero_le _) (Nat.zero_le _) ⟨⟨rfl, rfl⟩, Nat.le_of_ble_eq_true rfl⟩
    · skip
      rw [nI_leI (by omega) (by omega)] at c6
      obtain ⟨d, rfl⟩ : ∃ d2, d = d2 + 1 := ⟨d - 1, by omega⟩
      refine v_iload_n F dX8_pullOf_9 (i := 2) rfl 2 rfl (q := 10) rfl ?_
      refine v_aload_n F dX8_pullOf_10 (i := 0) rfl 0 rfl (q := 11) rfl ?_
      refine v_iload_n F dX8_pullOf_11 (i := 3) rfl 3 rfl (q := 12) rfl ?_
      refine v_callV F ml_X8_72 im_X8_sideOf se_X8_sideOf in_X8 co_X8_sideOf sd_X8_sideOf (c_X8_sideOf y0 y1 y2 y3 y4 y5 y6 y7 y8 y9 y10 y11 y12 y13 y14 th sd tp n sc sp px py pl pk N M ls lv lx ly ab bl tn wo si t1 t2 k ⟨G, hsp, P, hM, hls, hlv, hlx, hly, by omega⟩ (by omega)) ⟨Nat.zero_le _, Nat.zero_le _⟩ (Nat.le_of_ble_eq_true rfl) (Nat.le_of_ble_eq_true rfl) 0 (As := [.int (nI k)]) rfl rfl rfl rfl rfl [0, 1, 2, 3, 4, 5, 6, 7, 8, 9, 10, 11, 12, 13, 14] rfl nd15 vnd15 (rest := [.int (zI (gPU th sd n sc k))]) rfl (Nat.le_of_ble_eq_true rfl) dX8_pullOf_12 (q := 15) rfl (fun r w hr => ?_)
      obtain ⟨rfl, rfl⟩ := hr
      refine v_ws (ws' := [(y0, .inr (8, [.int (nI n), .ref y1, .ref y2, .ref y3, .int sc, .int sp, .int (nI N), .ref y4, .ref y5, .ref y6, .ref y7, .ref y8, .ref y9, .ref y10, .ref y11, .ref y12, .int (nI tn), .ref y13, .ref y14, .long (zL wo), .long (zL si), .long (zL t1), .long (zL t2)])), (y1, .inl (cI, 6, .inl th)), (y2, .inl (cI, 6, .inl sd)), (y3, .inl (cI, 6, .inl tp)), (y4, .inl (cI, 12, .inl px)), (y5, .inl (cI, 12, .inl py)), (y6, .inl (cI, 12, .inl (fun i => nI (pl i)))), (y7, .inl (cI, 12, .inl pk)), (y8, .inl (cZ, 12, .inl (fun i => bI (M.testBit i)))), (y9, .inl (cI, 3, .inl (fun i => nI (ls i)))), (y10, .inl (cI, 18, .inl lv)), (y11, .inl (cI, 18, .inl lx)), (y12, .inl (cI, 18, .inl ly)), (y13, .inl (cJ, 15, .inr (.inl ab))), (y14, .inl (cJ, 15, .inr (.inl bl)))]) ((wset_wgo (nodup_of nd15) rfl).trans rfl) ?_
      refine v_st (st' := [.int (zI (gSD th sd n sc k)), .int (zI (gPU th sd n sc k))]) rfl ?_
      refine v_iadd F dX8_pullOf_15 (q := 16) rfl ?_
      refine v_int (y := zI (gPU th sd n sc (k + 1))) (zI_add _ _) ?_
      refine v_istore_n F dX8_pullOf_16 (i := 2) (lv' := [(2, .int (zI (gPU th sd n sc (k + 1)))), (0, .ref y0), (1, .int (nI u)), (3, .int (nI k))]) rfl (Nat.le_of_ble_eq_true rfl) rfl (q := 17) rfl ?_
      refine v_iinc F dX8_pullOf_17 3 rfl (v := nI (k + 1)) (lv' := [(3, .int (nI (k + 1))), (2, .int (zI (gPU th sd n sc (k + 1)))), (0, .ref y0), (1, .int (nI u))]) (nI_1 k) (Nat.le_of_ble_eq_true rfl) rfl (q := 20) rfl ?_
      refine v_goto F dX8_pullOf_20 (tgt := 4) rfl ?_
      refine v_lv (lv' := [(0, .ref y0), (1, .int (nI u)), (2, .int (zI (gPU th sd n sc (k + 1)))), (3, .int (nI (k + 1)))]) [2, 3, 1, 0] rfl ?_
      exact ih d (by omega) (k + 1) (by omega)
  refine v_iconst F dX8_pullOf_0 (v := 0) (q := 1) rfl rfl ?_
  refine v_istore_n F dX8_pullOf_1 (i := 2) (lv' := [(2, .int 0), (0, .ref y0), (1, .int (nI u))]) rfl (Nat.le_of_ble_eq_true rfl) rfl (q := 2) rfl ?_
  refine v_iconst F dX8_pullOf_2 (v := 0) (q := 3) rfl rfl ?_
  refine v_istore_n F dX8_pullOf_3 (i := 3) (lv' := [(3, .int 0), (2, .int 0), (0, .ref y0), (1, .int (nI u))]) rfl (Nat.le_of_ble_eq_true rfl) rfl (q := 4) rfl ?_
  refine v_lv (lv' := [(0, .ref y0), (1, .int (nI u)), (2, .int 0), (3, .int 0)]) [2, 3, 1, 0] rfl ?_
  exact L4 u 0 (by omega)

set_option maxHeartbeats 4000000 in
set_option maxRecDepth 100000 in
theorem c_X8_bearingOf (y0 y1 y2 y3 y4 y5 y6 y7 y8 y9 y10 y11 y12 y13 y14 : Nat) (th : Nat → Int32) (sd : Nat → Int32) (tp : Nat → Int32) (n : Nat) (sc : Int32) (sp : Int32) (px : Nat → Int32) (py : Nat → Int32) (pl : Nat → Nat) (pk : Nat → Int32) (N : Nat) (M : Nat) (ls : Nat → Nat) (lv : Nat → Int32) (lx : Nat → Int32) (ly : Nat → Int32) (ab : Nat → Int64) (bl : Nat → Int64) (tn : Nat) (wo si t1 t2 : Int) (k : Nat) (VI : INV (th, sd, tp, n, sc, sp, px, py, pl, pk, N, M, ls, lv, lx, ly, ab, bl, tn)) (hk : k < N) : Ct l D (TY cI cJ cZ) yX8_bearingOf cX8_bearingOf 2 (some .int) 3 68 0 0 [.ref y0, .int (nI k)] [(y0, .inr (8, [.int (nI n), .ref y1, .ref y2, .ref y3, .int sc, .int sp, .int (nI N), .ref y4, .ref y5, .ref y6, .ref y7, .ref y8, .ref y9, .ref y10, .ref y11, .ref y12, .int (nI tn), .ref y13, .ref y14, .long (zL wo), .long (zL si), .long (zL t1), .long (zL t2)])), (y1, .inl (cI, 6, .inl th)), (y2, .inl (cI, 6, .inl sd)), (y3, .inl (cI, 6, .inl tp)), (y4, .inl (cI, 12, .inl px)), (y5, .inl (cI, 12, .inl py)), (y6, .inl (cI, 12, .inl (fun i => nI (pl i)))), (y7, .inl (cI, 12, .inl pk)), (y8, .inl (cZ, 12, .inl (fun i => bI (M.testBit i)))), (y9, .inl (cI, 3, .inl (fun i => nI (ls i)))), (y10, .inl (cI, 18, .inl lv)), (y11, .inl (cI, 18, .inl lx)), (y12, .inl (cI, 18, .inl ly)), (y13, .inl (cJ, 15, .inr (.inl ab))), (y14, .inl (cJ, 15, .inr (.inl bl)))] (fun r w => r = some (.int (zI (gBE th sd tp n sc (pl k)))) ∧ w = [(y0, .inr (8, [.int (nI n), .ref y1, .ref y2, .ref y3, .int sc, .int sp, .int (nI N), .ref y4, .ref y5, .ref y6, .ref y7, .ref y8, .ref y9, .ref y10, .ref y11, .ref y12, .int (nI tn), .ref y13, .ref y14, .long (zL wo), .long (zL si), .long (zL t1), .long (zL t2)])), (y1, .inl (cI, 6, .inl th)), (y2, .inl (cI, 6, .inl sd)), (y3, .inl (cI, 6, .inl tp)), (y4, .inl (cI, 12, .inl px)), (y5, .inl (cI, 12, .inl py)), (y6, .inl (cI, 12, .inl (fun i => nI (pl i)))), (y7, .inl (cI, 12, .inl pk)), (y8, .inl (cZ, 12, .inl (fun i => bI (M.testBit i)))), (y9, .inl (cI, 3, .inl (fun i => nI (ls i)))), (y10, .inl (cI, 18, .inl lv)), (y11, .inl (cI, 18, .inl lx)), (y12, .inl (cI, 18, .inl ly)), (y13, .inl (cJ, 15, .inr (.inl ab))), (y14, .inl (cJ, 15, .inr (.inl bl)))]) := by
  refine Ct.ofI (ty := .int) (by decide) (Nat.le_of_ble_eq_true rfl) ?_
  intro p e s m args below meth c A R Q F hnm hcs0 hE
  refine v_lv (lv' := [(0, .ref y0), (1, .int (nI k))]) [0, 1] rfl ?_
  obtain ⟨G, hsp, P, hM, hls, hlv, hlx, hly, htn⟩ := id VI
  have hn6 := G.1
  have hN12 := P.1
  have hM4 : M < 4096 := Nat.lt_of_lt_of_le hM (Nat.pow_le_pow_right (by omega) hN12)
  have hpl := P.2.2.2.1 k hk
  refine v_aload_n F dX8_bearingOf_0 (i := 0) rfl 0 rfl (q := 1) rfl ?_
  refine v_aload_n F dX8_bearingOf_1 (i := 0) rfl 0 rfl (q := 2) rfl ?_
  refine gt_X8_25 F dX8_bearingOf_2 0 rfl rfl (q := 5) rfl ?_
  refine v_iload_n F dX8_bearingOf_5 (i := 1) rfl 1 rfl (q := 6) rfl ?_
  refine v_ialdN F 6 0 rfl rfl (j := k) (by omega) (by decide) dX8_bearingOf_6 (q := 7) rfl ?_
  refine v_st (st' := [.int (nI (pl k)), .ref y0]) rfl ?_
  refine v_callV F ml_X8_86 im_X8_pullOf se_X8_pullOf in_X8 co_X8_pullOf sd_X8_pullOf (c_X8_pullOf y0 y1 y2 y3 y4 y5 y6 y7 y8 y9 y10 y11 y12 y13 y14 th sd tp n sc sp px py pl pk N M ls lv lx ly ab bl tn wo si t1 t2 (pl k) ⟨G, hsp, P, hM, hls, hlv, hlx, hly, by omega⟩ (by omega)) ⟨Nat.zero_le _, Nat.zero_le _⟩ (Nat.le_of_ble_eq_true rfl) (Nat.le_of_ble_eq_true rfl) 0 (As := [.int (nI (pl k))]) rfl rfl rfl rfl rfl [0, 1, 2, 3, 4, 5, 6, 7, 8, 9, 10, 11, 12, 13, 14] rfl nd15 vnd15 (rest := []) rfl (Nat.le_of_ble_eq_true rfl) dX8_bearingOf_7 (q := 10) rfl (fun r w hr => ?_)
  obtain ⟨rfl, rfl⟩ := hr
  refine v_ws (ws' := [(y0, .inr (8, [.int (nI n), .ref y1, .ref y2, .ref y3, .int sc, .int sp, .int (nI N), .ref y4, .ref y5, .ref y6, .ref y7, .ref y8, .ref y9, .ref y10, .ref y11, .ref y12, .int (nI tn), .ref y13, .ref y14, .long (zL wo), .long (zL si), .long (zL t1), .long (zL t2)])), (y1, .inl (cI, 6, .inl th)), (y2, .inl (cI, 6, .inl sd)), (y3, .inl (cI, 6, .inl tp)), (y4, .inl (cI, 12, .inl px)), (y5, .inl (cI, 12, .inl py)), (y6, .inl (cI, 12, .inl (fun i => nI (pl i)))), (y7, .inl (cI, 12, .inl pk)), (y8, .inl (cZ, 12, .inl (fun i => bI (M.testBit i)))), (y9, .inl (cI, 3, .inl (fun i => nI (ls i)))), (y10, .inl (cI, 18, .inl lv)), (y11, .inl (cI, 18, .inl lx)), (y12, .inl (cI, 18, .inl ly)), (y13, .inl (cJ, 15, .inr (.inl ab))), (y14, .inl (cJ, 15, .inr (.inl bl)))]) ((wset_wgo (nodup_of nd15) rfl).trans rfl) ?_
  refine v_st (st' := [.int (zI (gPU th sd n sc (pl k)))]) rfl ?_
  refine v_aload_n F dX8_bearingOf_10 (i := 0) rfl 0 rfl (q := 11) rfl ?_
  refine v_aload_n F dX8_bearingOf_11 (i := 0) rfl 0 rfl (q := 12) rfl ?_
  refine gt_X8_25 F dX8_bearingOf_12 0 rfl rfl (q := 15) rfl ?_
  refine v_iload_n F dX8_bearingOf_15 (i := 1) rfl 1 rfl (q := 16) rfl ?_
  refine v_ialdN F 6 0 rfl rfl (j := k) (by omega) (by decide) dX8_bearingOf_16 (q := 17) rfl ?_
  refine v_st (st' := [.int (nI (pl k)), .ref y0, .int (zI (gPU th sd n sc (pl k)))]) rfl ?_
  refine v_callV F ml_X8_89 im_X8_tipOf se_X8_tipOf in_X8 co_X8_tipOf sd_X8_tipOf (c_X8_tipOf y0 y1 y2 y3 y4 y5 y6 y7 y8 y9 y10 y11 y12 y13 y14 th sd tp n sc sp px py pl pk N M ls lv lx ly ab bl tn wo si t1 t2 (pl k) ⟨G, hsp, P, hM, hls, hlv, hlx, hly, by omega⟩ (by omega)) ⟨Nat.zero_le _, Nat.zero_le _⟩ (Nat.le_of_ble_eq_true rfl) (Nat.le_of_ble_eq_true rfl) 0 (As := [.int (nI (pl k))]) rfl rfl rfl rfl rfl [0, 1, 2, 3, 4, 5, 6, 7, 8, 9, 10, 11, 12, 13, 14] rfl nd15 vnd15 (rest := [.int (zI (gPU th sd n sc (pl k)))]) rfl (Nat.le_of_ble_eq_true rfl) dX8_bearingOf_17 (q := 20) rfl (fun r w hr => ?_)
  obtain ⟨rfl, rfl⟩ := hr
  refine v_ws (ws' := [(y0, .inr (8, [.int (nI n), .ref y1, .ref y2, .ref y3, .int sc, .int sp, .int (nI N), .ref y4, .ref y5, .ref y6, .ref y7, .ref y8, .ref y9, .ref y10, .ref y11, .ref y12, .int (nI tn), .ref y13, .ref y14, .long (zL wo), .long (zL si), .long (zL t1), .long (zL t2)])), (y1, .inl (cI, 6, .inl th)), (y2, .inl (cI, 6, .inl sd)), (y3, .inl (cI, 6, .inl tp)), (y4, .inl (cI, 12, .inl px)), (y5, .inl (cI, 12, .inl py)), (y6, .inl (cI, 12, .inl (fun i => nI (pl i)))), (y7, .inl (cI, 12, .inl pk)), (y8, .inl (cZ, 12, .inl (fun i => bI (M.testBit i)))), (y9, .inl (cI, 3, .inl (fun i => nI (ls i)))), (y10, .inl (cI, 18, .inl lv)), (y11, .inl (cI, 18, .inl lx)), (y12, .inl (cI, 18, .inl ly)), (y13, .inl (cJ, 15, .inr (.inl ab))), (y14, .inl (cJ, 15, .inr (.inl bl)))]) ((wset_wgo (nodup_of nd15) rfl).trans rfl) ?_
  refine v_st (st' := [.int (zI (gTI th tp n (pl k))), .int (zI (gPU th sd n sc (pl k)))]) rfl ?_
  refine v_iadd F dX8_bearingOf_20 (q := 21) rfl ?_
  exact hE rfl dX8_bearingOf_21 (Nat.zero_le _) (Nat.zero_le _) ⟨⟨by rw [zI_add]; rfl, rfl⟩, Nat.le_of_ble_eq_true rfl⟩

set_option maxHeartbeats 4000000 in
set_option maxRecDepth 100000 in
theorem c_X8_isPile (y0 y1 y2 y3 y4 y5 y6 y7 y8 y9 y10 y11 y12 y13 y14 : Nat) (th : Nat → Int32) (sd : Nat → Int32) (tp : Nat → Int32) (n : Nat) (sc : Int32) (sp : Int32) (px : Nat → Int32) (py : Nat → Int32) (pl : Nat → Nat) (pk : Nat → Int32) (N : Nat) (M : Nat) (ls : Nat → Nat) (lv : Nat → Int32) (lx : Nat → Int32) (ly : Nat → Int32) (ab : Nat → Int64) (bl : Nat → Int64) (tn : Nat) (wo si t1 t2 : Int) (p0 : Int32) (VI : INV (th, sd, tp, n, sc, sp, px, py, pl, pk, N, M, ls, lv, lx, ly, ab, bl, tn))  : Ct l D (TY cI cJ cZ) yX8_isPile cX8_isPile 2 (some .boolean) 1 22 0 0 [.ref y0, .int p0] [(y0, .inr (8, [.int (nI n), .ref y1, .ref y2, .ref y3, .int sc, .int sp, .int (nI N), .ref y4, .ref y5, .ref y6, .ref y7, .ref y8, .ref y9, .ref y10, .ref y11, .ref y12, .int (nI tn), .ref y13, .ref y14, .long (zL wo), .long (zL si), .long (zL t1), .long (zL t2)])), (y1, .inl (cI, 6, .inl th)), (y2, .inl (cI, 6, .inl sd)), (y3, .inl (cI, 6, .inl tp)), (y4, .inl (cI, 12, .inl px)), (y5, .inl (cI, 12, .inl py)), (y6, .inl (cI, 12, .inl (fun i => nI (pl i)))), (y7, .inl (cI, 12, .inl pk)), (y8, .inl (cZ, 12, .inl (fun i => bI (M.testBit i)))), (y9, .inl (cI, 3, .inl (fun i => nI (ls i)))), (y10, .inl (cI, 18, .inl lv)), (y11, .inl (cI, 18, .inl lx)), (y12, .inl (cI, 18, .inl ly)), (y13, .inl (cJ, 15, .inr (.inl ab))), (y14, .inl (cJ, 15, .inr (.inl bl)))] (fun r w => r = some (.int (bI (hasB p0 N))) ∧ w = [(y0, .inr (8, [.int (nI n), .ref y1, .ref y2, .ref y3, .int sc, .int sp, .int (nI N), .ref y4, .ref y5, .ref y6, .ref y7, .ref y8, .ref y9, .ref y10, .ref y11, .ref y12, .int (nI tn), .ref y13, .ref y14, .long (zL wo), .long (zL si), .long (zL t1), .long (zL t2)])), (y1, .inl (cI, 6, .inl th)), (y2, .inl (cI, 6, .inl sd)), (y3, .inl (cI, 6, .inl tp)), (y4, .inl (cI, 12, .inl px)), (y5, .inl (cI, 12, .inl py)), (y6, .inl (cI, 12, .inl (fun i => nI (pl i)))), (y7, .inl (cI, 12, .inl pk)), (y8, .inl (cZ, 12, .inl (fun i => bI (M.testBit i)))), (y9, .inl (cI, 3, .inl (fun i => nI (ls i)))), (y10, .inl (cI, 18, .inl lv)), (y11, .inl (cI, 18, .inl lx)), (y12, .inl (cI, 18, .inl ly)), (y13, .inl (cJ, 15, .inr (.inl ab))), (y14, .inl (cJ, 15, .inr (.inl bl)))]) := by
  refine Ct.ofI (ty := .boolean) (by decide) (Nat.le_of_ble_eq_true rfl) ?_
  intro p e s m args below meth c A R Q F hnm hcs0 hE
  refine v_lv (lv' := [(0, .ref y0), (1, .int p0)]) [0, 1] rfl ?_
  obtain ⟨G, hsp, P, hM, hls, hlv, hlx, hly, htn⟩ := id VI
  have hn6 := G.1
  have hN12 := P.1
  have hM4 : M < 4096 := Nat.lt_of_lt_of_le hM (Nat.pow_le_pow_right (by omega) hN12)
  refine v_iload_n F dX8_isPile_0 (i := 1) rfl 1 rfl (q := 1) rfl ?_
  refine v_iconst F dX8_isPile_1 (v := 0) (q := 2) rfl rfl ?_
  refine v_aload_n F dX8_isPile_2 (i := 0) rfl 0 rfl (q := 3) rfl ?_
  refine gt_X8_75 F dX8_isPile_3 0 rfl rfl (q := 6) rfl ?_
  refine v_iconst F dX8_isPile_6 (v := 1) (q := 7) rfl rfl ?_
  refine v_isub F dX8_isPile_7 (q := 8) rfl ?_
  refine v_callS F ml_X8_54 sm_X8_in in_X8 co_X8_in sd_X8_in (c_X8_in p0 0 ((nI N) - 1)) ⟨Nat.zero_le _, Nat.zero_le _⟩ (Nat.le_of_ble_eq_true rfl) (Nat.le_of_ble_eq_true rfl) rfl [] rfl rfl rfl (rest := []) rfl (Nat.le_of_ble_eq_true rfl) dX8_isPile_8 (q := 11) rfl (fun r w hr => ?_)
  obtain ⟨rfl, rfl⟩ := hr
  refine v_ws (ws' := [(y0, .inr (8, [.int (nI n), .ref y1, .ref y2, .ref y3, .int sc, .int sp, .int (nI N), .ref y4, .ref y5, .ref y6, .ref y7, .ref y8, .ref y9, .ref y10, .ref y11, .ref y12, .int (nI tn), .ref y13, .ref y14, .long (zL wo), .long (zL si), .long (zL t1), .long (zL t2)])), (y1, .inl (cI, 6, .inl th)), (y2, .inl (cI, 6, .inl sd)), (y3, .inl (cI, 6, .inl tp)), (y4, .inl (cI, 12, .inl px)), (y5, .inl (cI, 12, .inl py)), (y6, .inl (cI, 12, .inl (fun i => nI (pl i)))), (y7, .inl (cI, 12, .inl pk)), (y8, .inl (cZ, 12, .inl (fun i => bI (M.testBit i)))), (y9, .inl (cI, 3, .inl (fun i => nI (ls i)))), (y10, .inl (cI, 18, .inl lv)), (y11, .inl (cI, 18, .inl lx)), (y12, .inl (cI, 18, .inl ly)), (y13, .inl (cJ, 15, .inr (.inl ab))), (y14, .inl (cJ, 15, .inr (.inl bl)))]) rfl ?_
  refine v_st (st' := [.int (bI (inR p0 0 ((nI N) - 1)))]) rfl ?_
  refine v_int (y := bI (hasB p0 N)) (by rw [inR_has (by omega)]) ?_
  exact hE (bI_nar _) dX8_isPile_11 (Nat.zero_le _) (Nat.zero_le _) ⟨⟨rfl, rfl⟩, Nat.le_of_ble_eq_true rfl⟩

set_option maxHeartbeats 4000000 in
set_option maxRecDepth 100000 in
theorem c_X8_shareOf (y0 y1 y2 y3 y4 y5 y6 y7 y8 y9 y10 y11 y12 y13 y14 : Nat) (th : Nat → Int32) (sd : Nat → Int32) (tp : Nat → Int32) (n : Nat) (sc : Int32) (sp : Int32) (px : Nat → Int32) (py : Nat → Int32) (pl : Nat → Nat) (pk : Nat → Int32) (N : Nat) (M : Nat) (ls : Nat → Nat) (lv : Nat → Int32) (lx : Nat → Int32) (ly : Nat → Int32) (ab : Nat → Int64) (bl : Nat → Int64) (tn : Nat) (wo si t1 t2 : Int) (k : Nat) (VI : INV (th, sd, tp, n, sc, sp, px, py, pl, pk, N, M, ls, lv, lx, ly, ab, bl, tn)) (hk : k < 12) : Ct l D (TY cI cJ cZ) yX8_shareOf cX8_shareOf 2 (some .long) 0 0 0 0 [.ref y0, .int (nI k)] [(y0, .inr (8, [.int (nI n), .ref y1, .ref y2, .ref y3, .int sc, .int sp, .int (nI N), .ref y4, .ref y5, .ref y6, .ref y7, .ref y8, .ref y9, .ref y10, .ref y11, .ref y12, .int (nI tn), .ref y13, .ref y14, .long (zL wo), .long (zL si), .long (zL t1), .long (zL t2)])), (y1, .inl (cI, 6, .inl th)), (y2, .inl (cI, 6, .inl sd)), (y3, .inl (cI, 6, .inl tp)), (y4, .inl (cI, 12, .inl px)), (y5, .inl (cI, 12, .inl py)), (y6, .inl (cI, 12, .inl (fun i => nI (pl i)))), (y7, .inl (cI, 12, .inl pk)), (y8, .inl (cZ, 12, .inl (fun i => bI (M.testBit i)))), (y9, .inl (cI, 3, .inl (fun i => nI (ls i)))), (y10, .inl (cI, 18, .inl lv)), (y11, .inl (cI, 18, .inl lx)), (y12, .inl (cI, 18, .inl ly)), (y13, .inl (cJ, 15, .inr (.inl ab))), (y14, .inl (cJ, 15, .inr (.inl bl)))] (fun r w => r = some (.long (zL (shI pk px py si t1 t2 k))) ∧ w = [(y0, .inr (8, [.int (nI n), .ref y1, .ref y2, .ref y3, .int sc, .int sp, .int (nI N), .ref y4, .ref y5, .ref y6, .ref y7, .ref y8, .ref y9, .ref y10, .ref y11, .ref y12, .int (nI tn), .ref y13, .ref y14, .long (zL wo), .long (zL si), .long (zL t1), .long (zL t2)])), (y1, .inl (cI, 6, .inl th)), (y2, .inl (cI, 6, .inl sd)), (y3, .inl (cI, 6, .inl tp)), (y4, .inl (cI, 12, .inl px)), (y5, .inl (cI, 12, .inl py)), (y6, .inl (cI, 12, .inl (fun i => nI (pl i)))), (y7, .inl (cI, 12, .inl pk)), (y8, .inl (cZ, 12, .inl (fun i => bI (M.testBit i)))), (y9, .inl (cI, 3, .inl (fun i => nI (ls i)))), (y10, .inl (cI, 18, .inl lv)), (y11, .inl (cI, 18, .inl lx)), (y12, .inl (cI, 18, .inl ly)), (y13, .inl (cJ, 15, .inr (.inl ab))), (y14, .inl (cJ, 15, .inr (.inl bl)))]) := by
  refine Ct.ofL (by decide) (Nat.le_of_ble_eq_true rfl) ?_
  intro p e s m args below meth c A R Q F hnm hcs0 hE
  refine v_lv (lv' := [(0, .ref y0), (1, .int (nI k))]) [0, 1] rfl ?_
  obtain ⟨G, hsp, P, hM, hls, hlv, hlx, hly, htn⟩ := id VI
  have hn6 := G.1
  have hN12 := P.1
  have hM4 : M < 4096 := Nat.lt_of_lt_of_le hM (Nat.pow_le_pow_right (by omega) hN12)
  refine v_aload_n F dX8_shareOf_0 (i := 0) rfl 0 rfl (q := 1) rfl ?_
  refine gt_X8_28 F dX8_shareOf_1 0 rfl rfl (q := 4) rfl ?_
  refine v_iload_n F dX8_shareOf_4 (i := 1) rfl 1 rfl (q := 5) rfl ?_
  refine v_ialdN F 7 0 rfl rfl (j := k) (by omega) (by decide) dX8_shareOf_5 (q := 6) rfl ?_
  refine v_i2l F dX8_shareOf_6 (q := 7) rfl ?_
  refine v_aload_n F dX8_shareOf_7 (i := 0) rfl 0 rfl (q := 8) rfl ?_
  refine gt_X8_102 F dX8_shareOf_8 0 rfl rfl (q := 11) rfl ?_
  refine v_aload_n F dX8_shareOf_11 (i := 0) rfl 0 rfl (q := 12) rfl ?_
  refine gt_X8_105 F dX8_shareOf_12 0 rfl rfl (q := 15) rfl ?_
  refine v_aload_n F dX8_shareOf_15 (i := 0) rfl 0 rfl (q := 16) rfl ?_
  refine gt_X8_19 F dX8_shareOf_16 0 rfl rfl (q := 19) rfl ?_
  refine v_iload_n F dX8_shareOf_19 (i := 1) rfl 1 rfl (q := 20) rfl ?_
  refine v_ialdN F 4 0 rfl rfl (j := k) (by omega) (by decide) dX8_shareOf_20 (q := 21) rfl ?_
  refine v_i2l F dX8_shareOf_21 (q := 22) rfl ?_
  refine v_lmul F dX8_shareOf_22 (q := 23) rfl ?_
  refine v_ladd F dX8_shareOf_23 (q := 24) rfl ?_
  refine v_aload_n F dX8_shareOf_24 (i := 0) rfl 0 rfl (q := 25) rfl ?_
  refine gt_X8_108 F dX8_shareOf_25 0 rfl rfl (q := 28) rfl ?_
  refine v_aload_n F dX8_shareOf_28 (i := 0) rfl 0 rfl (q := 29) rfl ?_
  refine gt_X8_22 F dX8_shareOf_29 0 rfl rfl (q := 32) rfl ?_
  refine v_iload_n F dX8_shareOf_32 (i := 1) rfl 1 rfl (q := 33) rfl ?_
  refine v_ialdN F 5 0 rfl rfl (j := k) (by omega) (by decide) dX8_shareOf_33 (q := 34) rfl ?_
  refine v_i2l F dX8_shareOf_34 (q := 35) rfl ?_
  refine v_lmul F dX8_shareOf_35 (q := 36) rfl ?_
  refine v_ladd F dX8_shareOf_36 (q := 37) rfl ?_
  refine v_lmul F dX8_shareOf_37 (q := 38) rfl ?_
  refine v_long (y := zL (shI pk px py si t1 t2 k)) (by simp only [i2l_as, zL_mul, zL_add]; rfl) ?_
  exact hE dX8_shareOf_38 (Nat.zero_le _) (Nat.zero_le _) ⟨⟨rfl, rfl⟩, Nat.le_of_ble_eq_true rfl⟩

set_option maxHeartbeats 4000000 in
set_option maxRecDepth 100000 in
theorem c_X8_common (a b : Int64) (ha : -9223372036854775808 < a.toInt) (hb : 0 < b.toInt) : Ct l D (TY cI cJ cZ) yX8_common cX8_common 10 (some .long) 0 0 0 0 [.long a, .long b] [] (fun r w => r = some (.long (dG a b)) ∧ w = []) := by
  refine Ct.ofL (by decide) (Nat.le_of_ble_eq_true rfl) ?_
  intro p e s m args below meth c A R Q F hnm hcs0 hE
  refine v_lv (lv' := [(0, .long a), (2, .long b)]) [0, 1] rfl ?_
  have hA := i64_rng a
  have hB := i64_rng b
  refine v_lload_n F dX8_common_0 (i := 0) rfl 0 rfl (q := 1) rfl ?_
  refine v_lconst F dX8_common_1 (v := 0) (q := 2) rfl rfl ?_
  refine v_lcmp_ge F dX8_common_2 dX8_common_3 (tgt := 11) rfl (q := 6) rfl (fun c2 => ?_) (fun c2 => ?_)
  · skip
    refine v_lload_n F dX8_common_11 (i := 0) rfl 0 rfl (q := 12) rfl ?_
    refine v_long (y := lN a.toInt.natAbs) (ab_pos c2) ?_
    refine v_lstore F dX8_common_12 (lv' := [(4, .long (lN a.toInt.natAbs)), (0, .long a), (2, .long b)]) (Nat.le_of_ble_eq_true rfl) rfl (q := 14) rfl ?_
    refine v_lload_n F dX8_common_14 (i := 2) rfl 2 rfl (q := 15) rfl ?_
    refine v_long (y := lN b.toInt.natAbs) (pos_lN (Int.le_of_lt hb)) ?_
    refine v_lstore F dX8_common_15 (lv' := [(6, .long (lN b.toInt.natAbs)), (4, .long (lN a.toInt.natAbs)), (0, .long a), (2, .long b)]) (Nat.le_of_ble_eq_true rfl) rfl (q := 17) rfl ?_
    have L17 : ∀ (f x y : Nat), y = f → x < 2 ^ 63 → y < 2 ^ 63 → dG a b = lN (Nat.gcd x y) → V p l e R s m args below meth c D A 10 0 0 Q 17 [(4, .long (lN x)), (6, .long (lN y))] [] [] := by
      intro f
      induction f using Nat.strongRecOn with
      | _ f ih => ?_
      intro x y hf hx hy hg
      refine v_lload F dX8_common_17 1 rfl (q := 19) rfl ?_
      refine v_lconst F dX8_common_19 (v := 0) (q := 20) rfl rfl ?_
      refine v_lcmp_eq F dX8_common_20 dX8_common_21 (tgt := 42) rfl (q := 24) rfl (fun c20 => ?_) (fun c20 => ?_)
      · skip
        have hy0 : y = 0 := (pk_lEQ (b := 0) (by omega) (by omega)).mp c20
        subst hy0
        rw [Nat.gcd_zero_right] at hg
        refine v_lload F dX8_common_42 0 rfl (q := 44) rfl ?_
        exact hE dX8_common_44 (Nat.zero_le _) (Nat.zero_le _) ⟨⟨by rw [hg], rfl⟩, Nat.le_of_ble_eq_true rfl⟩
      · skip
        have hy0 : ¬ y = 0 := fun q => c20 (by rw [q]; rfl)
        have hm := Nat.mod_lt x (Nat.pos_of_ne_zero hy0)
        refine v_lload F dX8_common_24 0 rfl (q := 26) rfl ?_
        refine v_lload F dX8_common_26 1 rfl (q := 28) rfl ?_
        refine v_lrem F dX8_common_28 c20 (q := 29) rfl ?_
        refine v_long (y := lN (x % y)) (pk_lRem (by omega) (by omega) (by omega)) ?_
        refine v_lstore F dX8_common_29 (lv' := [(8, .long (lN (x % y))), (4, .long (lN x)), (6, .long (lN y))]) (Nat.le_of_ble_eq_true rfl) rfl (q := 31) rfl ?_
        refine v_lload F dX8_common_31 2 rfl (q := 33) rfl ?_
        refine v_lstore F dX8_common_33 (lv' := [(4, .long (lN y)), (8, .long (lN (x % y))), (6, .long (lN y))]) (Nat.le_of_ble_eq_true rfl) rfl (q := 35) rfl ?_
        refine v_lload F dX8_common_35 1 rfl (q := 37) rfl ?_
        refine v_lstore F dX8_common_37 (lv' := [(6, .long (lN (x % y))), (4, .long (lN y)), (8, .long (lN (x % y)))]) (Nat.le_of_ble_eq_true rfl) rfl (q := 39) rfl ?_
        refine v_goto F dX8_common_39 (tgt := 17) rfl ?_
        refine v_lv (lv' := [(4, .long (lN y)), (6, .long (lN (x % y)))]) [1, 0] rfl ?_
        exact ih (x % y) (by omega) y (x % y) rfl (by omega) (by omega) (by rw [hg, Nat.gcd_comm x y]; exact congrArg lN ((Nat.gcd_rec y x).trans (Nat.gcd_comm _ _)))
    refine v_lv (lv' := [(4, .long (lN a.toInt.natAbs)), (6, .long (lN b.toInt.natAbs))]) [1, 0] rfl ?_
    exact L17 _ a.toInt.natAbs b.toInt.natAbs rfl (by omega) (by omega) rfl
  · skip
    refine v_lload_n F dX8_common_6 (i := 0) rfl 0 rfl (q := 7) rfl ?_
    refine v_lneg F dX8_common_7 (q := 8) rfl ?_
    refine v_goto F dX8_common_8 (tgt := 12) rfl ?_
    refine v_long (y := lN a.toInt.natAbs) (ab_neg ha c2) ?_
    refine v_lstore F dX8_common_12 (lv' := [(4, .long (lN a.toInt.natAbs)), (0, .long a), (2, .long b)]) (Nat.le_of_ble_eq_true rfl) rfl (q := 14) rfl ?_
    refine v_lload_n F dX8_common_14 (i := 2) rfl 2 rfl (q := 15) rfl ?_
    refine v_long (y := lN b.toInt.natAbs) (pos_lN (Int.le_of_lt hb)) ?_
    refine v_lstore F dX8_common_15 (lv' := [(6, .long (lN b.toInt.natAbs)), (4, .long (lN a.toInt.natAbs)), (0, .long a), (2, .long b)]) (Nat.le_of_ble_eq_true rfl) rfl (q := 17) rfl ?_
    have L17 : ∀ (f x y : Nat), y = f → x < 2 ^ 63 → y < 2 ^ 63 → dG a b = lN (Nat.gcd x y) → V p l e R s m args below meth c D A 10 0 0 Q 17 [(4, .long (lN x)), (6, .long (lN y))] [] [] := by
      intro f
      induction f using Nat.strongRecOn with
      | _ f ih => ?_
      intro x y hf hx hy hg
      refine v_lload F dX8_common_17 1 rfl (q := 19) rfl ?_
      refine v_lconst F dX8_common_19 (v := 0) (q := 20) rfl rfl ?_
      refine v_lcmp_eq F dX8_common_20 dX8_common_21 (tgt := 42) rfl (q := 24) rfl (fun c20 => ?_) (fun c20 => ?_)
      · skip
        have hy0 : y = 0 := (pk_lEQ (b := 0) (by omega) (by omega)).mp c20
        subst hy0
        rw [Nat.gcd_zero_right] at hg
        refine v_lload F dX8_common_42 0 rfl (q := 44) rfl ?_
        exact hE dX8_common_44 (Nat.zero_le _) (Nat.zero_le _) ⟨⟨by rw [hg], rfl⟩, Nat.le_of_ble_eq_true rfl⟩
      · skip
        have hy0 : ¬ y = 0 := fun q => c20 (by rw [q]; rfl)
        have hm := Nat.mod_lt x (Nat.pos_of_ne_zero hy0)
        refine v_lload F dX8_common_24 0 rfl (q := 26) rfl ?_
        refine v_lload F dX8_common_26 1 rfl (q := 28) rfl ?_
        refine v_lrem F dX8_common_28 c20 (q := 29) rfl ?_
        refine v_long (y := lN (x % y)) (pk_lRem (by omega) (by omega) (by omega)) ?_
        refine v_lstore F dX8_common_29 (lv' := [(8, .long (lN (x % y))), (4, .long (lN x)), (6, .long (lN y))]) (Nat.le_of_ble_eq_true rfl) rfl (q := 31) rfl ?_
        refine v_lload F dX8_common_31 2 rfl (q := 33) rfl ?_
        refine v_lstore F dX8_common_33 (lv' := [(4, .long (lN y)), (8, .long (lN (x % y))), (6, .long (lN y))]) (Nat.le_of_ble_eq_true rfl) rfl (q := 35) rfl ?_
        refine v_lload F dX8_common_35 1 rfl (q := 37) rfl ?_
        refine v_lstore F dX8_common_37 (lv' := [(6, .long (lN (x % y))), (4, .long (lN y)), (8, .long (lN (x % y)))]) (Nat.le_of_ble_eq_true rfl) rfl (q := 39) rfl ?_
        refine v_goto F dX8_common_39 (tgt := 17) rfl ?_
        refine v_lv (lv' := [(4, .long (lN y)), (6, .long (lN (x % y)))]) [1, 0] rfl ?_
        exact ih (x % y) (by omega) y (x % y) rfl (by omega) (by omega) (by rw [hg, Nat.gcd_comm x y]; exact congrArg lN ((Nat.gcd_rec y x).trans (Nat.gcd_comm _ _)))
    refine v_lv (lv' := [(4, .long (lN a.toInt.natAbs)), (6, .long (lN b.toInt.natAbs))]) [1, 0] rfl ?_
    exact L17 _ a.toInt.natAbs b.toInt.natAbs rfl (by omega) (by omega) rfl

set_option maxHeartbeats 4000000 in
set_option maxRecDepth 100000 in
theorem c_X8_tell (y0 y1 y2 y3 y4 y5 y6 y7 y8 y9 y10 y11 y12 y13 y14 : Nat) (th : Nat → Int32) (sd : Nat → Int32) (tp : Nat → Int32) (n : Nat) (sc : Int32) (sp : Int32) (px : Nat → Int32) (py : Nat → Int32) (pl : Nat → Nat) (pk : Nat → Int32) (N : Nat) (M : Nat) (ls : Nat → Nat) (lv : Nat → Int32) (lx : Nat → Int32) (ly : Nat → Int32) (ab : Nat → Int64) (bl : Nat → Int64) (tn : Nat) (wo si t1 t2 : Int) (i : Nat) (a b : Int64) (VI : INV (th, sd, tp, n, sc, sp, px, py, pl, pk, N, M, ls, lv, lx, ly, ab, bl, tn)) (hi : i < 15) (ha : -9223372036854775808 < a.toInt) (hb : 0 < b.toInt) : Ct l D (TY cI cJ cZ) yX8_tell cX8_tell 8 none 1 29 0 0 [.ref y0, .int (nI i), .long a, .long b] [(y0, .inr (8, [.int (nI n), .ref y1, .ref y2, .ref y3, .int sc, .int sp, .int (nI N), .ref y4, .ref y5, .ref y6, .ref y7, .ref y8, .ref y9, .ref y10, .ref y11, .ref y12, .int (nI tn), .ref y13, .ref y14, .long (zL wo), .long (zL si), .long (zL t1), .long (zL t2)])), (y1, .inl (cI, 6, .inl th)), (y2, .inl (cI, 6, .inl sd)), (y3, .inl (cI, 6, .inl tp)), (y4, .inl (cI, 12, .inl px)), (y5, .inl (cI, 12, .inl py)), (y6, .inl (cI, 12, .inl (fun i => nI (pl i)))), (y7, .inl (cI, 12, .inl pk)), (y8, .inl (cZ, 12, .inl (fun i => bI (M.testBit i)))), (y9, .inl (cI, 3, .inl (fun i => nI (ls i)))), (y10, .inl (cI, 18, .inl lv)), (y11, .inl (cI, 18, .inl lx)), (y12, .inl (cI, 18, .inl ly)), (y13, .inl (cJ, 15, .inr (.inl ab))), (y14, .inl (cJ, 15, .inr (.inl bl)))] (fun r w => r = none ∧ w = [(y0, .inr (8, [.int (nI n), .ref y1, .ref y2, .ref y3, .int sc, .int sp, .int (nI N), .ref y4, .ref y5, .ref y6, .ref y7, .ref y8, .ref y9, .ref y10, .ref y11, .ref y12, .int (nI tn), .ref y13, .ref y14, .long (zL wo), .long (zL si), .long (zL t1), .long (zL t2)])), (y1, .inl (cI, 6, .inl th)), (y2, .inl (cI, 6, .inl sd)), (y3, .inl (cI, 6, .inl tp)), (y4, .inl (cI, 12, .inl px)), (y5, .inl (cI, 12, .inl py)), (y6, .inl (cI, 12, .inl (fun i => nI (pl i)))), (y7, .inl (cI, 12, .inl pk)), (y8, .inl (cZ, 12, .inl (fun i => bI (M.testBit i)))), (y9, .inl (cI, 3, .inl (fun i => nI (ls i)))), (y10, .inl (cI, 18, .inl lv)), (y11, .inl (cI, 18, .inl lx)), (y12, .inl (cI, 18, .inl ly)), (y13, .inl (cJ, 15, .inr (.inl (vp_updL ab i (a / dG a b))))), (y14, .inl (cJ, 15, .inr (.inl (vp_updL bl i (b / dG a b)))))]) := by
  refine Ct.ofV (by decide) (Nat.le_of_ble_eq_true rfl) ?_
  intro p e s m args below meth c A R Q F hnm hcs0 hE
  refine v_lv (lv' := [(0, .ref y0), (1, .int (nI i)), (2, .long a), (4, .long b)]) [0, 1, 2, 3] rfl ?_
  obtain ⟨G, hsp, P, hM, hls, hlv, hlx, hly, htn⟩ := id VI
  have hn6 := G.1
  have hN12 := P.1
  have hM4 : M < 4096 := Nat.lt_of_lt_of_le hM (Nat.pow_le_pow_right (by omega) hN12)
  have hd0 := dG_pos (a := a) hb
  refine v_lload_n F dX8_tell_0 (i := 2) rfl 2 rfl (q := 1) rfl ?_
  refine v_lload F dX8_tell_1 3 rfl (q := 3) rfl ?_
  refine v_callS F ml_X8_111 sm_X8_common in_X8 co_X8_common sd_X8_common (c_X8_common a b ha hb) ⟨Nat.zero_le _, Nat.zero_le _⟩ (Nat.le_of_ble_eq_true rfl) (Nat.le_of_ble_eq_true rfl) rfl [] rfl rfl rfl (rest := []) rfl (Nat.le_of_ble_eq_true rfl) dX8_tell_3 (q := 6) rfl (fun r w hr => ?_)
  obtain ⟨rfl, rfl⟩ := hr
  refine v_ws (ws' := [(y0, .inr (8, [.int (nI n), .ref y1, .ref y2, .ref y3, .int sc, .int sp, .int (nI N), .ref y4, .ref y5, .ref y6, .ref y7, .ref y8, .ref y9, .ref y10, .ref y11, .ref y12, .int (nI tn), .ref y13, .ref y14, .long (zL wo), .long (zL si), .long (zL t1), .long (zL t2)])), (y1, .inl (cI, 6, .inl th)), (y2, .inl (cI, 6, .inl sd)), (y3, .inl (cI, 6, .inl tp)), (y4, .inl (cI, 12, .inl px)), (y5, .inl (cI, 12, .inl py)), (y6, .inl (cI, 12, .inl (fun i => nI (pl i)))), (y7, .inl (cI, 12, .inl pk)), (y8, .inl (cZ, 12, .inl (fun i => bI (M.testBit i)))), (y9, .inl (cI, 3, .inl (fun i => nI (ls i)))), (y10, .inl (cI, 18, .inl lv)), (y11, .inl (cI, 18, .inl lx)), (y12, .inl (cI, 18, .inl ly)), (y13, .inl (cJ, 15, .inr (.inl ab))), (y14, .inl (cJ, 15, .inr (.inl bl)))]) rfl ?_
  refine v_st (st' := [.long (dG a b)]) rfl ?_
  refine v_lstore F dX8_tell_6 (lv' := [(6, .long (dG a b)), (0, .ref y0), (1, .int (nI i)), (2, .long a), (4, .long b)]) (Nat.le_of_ble_eq_true rfl) rfl (q := 8) rfl ?_
  refine v_aload_n F dX8_tell_8 (i := 0) rfl 1 rfl (q := 9) rfl ?_
  refine gt_X8_47 F dX8_tell_9 0 rfl rfl (q := 12) rfl ?_
  refine v_iload_n F dX8_tell_12 (i := 1) rfl 2 rfl (q := 13) rfl ?_
  refine v_lload_n F dX8_tell_13 (i := 2) rfl 3 rfl (q := 14) rfl ?_
  refine v_lload F dX8_tell_14 0 rfl (q := 16) rfl ?_
  refine v_ldiv F dX8_tell_16 hd0.1 (q := 17) rfl ?_
  refine v_lastN F 13 1 rfl rfl (j := i) (by omega) (by decide) dX8_tell_17 (q := 18) rfl ?_
  refine v_ws (ws' := [(y0, .inr (8, [.int (nI n), .ref y1, .ref y2, .ref y3, .int sc, .int sp, .int (nI N), .ref y4, .ref y5, .ref y6, .ref y7, .ref y8, .ref y9, .ref y10, .ref y11, .ref y12, .int (nI tn), .ref y13, .ref y14, .long (zL wo), .long (zL si), .long (zL t1), .long (zL t2)])), (y1, .inl (cI, 6, .inl th)), (y2, .inl (cI, 6, .inl sd)), (y3, .inl (cI, 6, .inl tp)), (y4, .inl (cI, 12, .inl px)), (y5, .inl (cI, 12, .inl py)), (y6, .inl (cI, 12, .inl (fun i => nI (pl i)))), (y7, .inl (cI, 12, .inl pk)), (y8, .inl (cZ, 12, .inl (fun i => bI (M.testBit i)))), (y9, .inl (cI, 3, .inl (fun i => nI (ls i)))), (y10, .inl (cI, 18, .inl lv)), (y11, .inl (cI, 18, .inl lx)), (y12, .inl (cI, 18, .inl ly)), (y13, .inl (cJ, 15, .inr (.inl (vp_updL ab i (a / (dG a b)))))), (y14, .inl (cJ, 15, .inr (.inl bl)))]) rfl ?_
  refine v_aload_n F dX8_tell_18 (i := 0) rfl 1 rfl (q := 19) rfl ?_
  refine gt_X8_51 F dX8_tell_19 0 rfl rfl (q := 22) rfl ?_
  refine v_iload_n F dX8_tell_22 (i := 1) rfl 2 rfl (q := 23) rfl ?_
  refine v_lload F dX8_tell_23 4 rfl (q := 25) rfl ?_
  refine v_lload F dX8_tell_25 0 rfl (q := 27) rfl ?_
  refine v_ldiv F dX8_tell_27 hd0.1 (q := 28) rfl ?_
  refine v_lastN F 14 1 rfl rfl (j := i) (by omega) (by decide) dX8_tell_28 (q := 29) rfl ?_
  refine v_ws (ws' := [(y0, .inr (8, [.int (nI n), .ref y1, .ref y2, .ref y3, .int sc, .int sp, .int (nI N), .ref y4, .ref y5, .ref y6, .ref y7, .ref y8, .ref y9, .ref y10, .ref y11, .ref y12, .int (nI tn), .ref y13, .ref y14, .long (zL wo), .long (zL si), .long (zL t1), .long (zL t2)])), (y1, .inl (cI, 6, .inl th)), (y2, .inl (cI, 6, .inl sd)), (y3, .inl (cI, 6, .inl tp)), (y4, .inl (cI, 12, .inl px)), (y5, .inl (cI, 12, .inl py)), (y6, .inl (cI, 12, .inl (fun i => nI (pl i)))), (y7, .inl (cI, 12, .inl pk)), (y8, .inl (cZ, 12, .inl (fun i => bI (M.testBit i)))), (y9, .inl (cI, 3, .inl (fun i => nI (ls i)))), (y10, .inl (cI, 18, .inl lv)), (y11, .inl (cI, 18, .inl lx)), (y12, .inl (cI, 18, .inl ly)), (y13, .inl (cJ, 15, .inr (.inl (vp_updL ab i (a / (dG a b)))))), (y14, .inl (cJ, 15, .inr (.inl (vp_updL bl i (b / (dG a b))))))]) rfl ?_
  exact hE dX8_tell_29 (Nat.zero_le _) (Nat.zero_le _) ⟨⟨rfl, rfl⟩, Nat.le_of_ble_eq_true rfl⟩

set_option maxHeartbeats 4000000 in
set_option maxRecDepth 100000 in
theorem c_X8_wholeSet (y0 y1 y2 y3 y4 y5 y6 y7 y8 y9 y10 y11 y12 y13 y14 : Nat) (th : Nat → Int32) (sd : Nat → Int32) (tp : Nat → Int32) (n : Nat) (sc : Int32) (sp : Int32) (px : Nat → Int32) (py : Nat → Int32) (pl : Nat → Nat) (pk : Nat → Int32) (N : Nat) (M : Nat) (ls : Nat → Nat) (lv : Nat → Int32) (lx : Nat → Int32) (ly : Nat → Int32) (ab : Nat → Int64) (bl : Nat → Int64) (tn : Nat) (wo si t1 t2 : Int)  (VI : INV (th, sd, tp, n, sc, sp, px, py, pl, pk, N, M, ls, lv, lx, ly, ab, bl, tn))  : Ct l D (TY cI cJ cZ) yX8_wholeSet cX8_wholeSet 3 (some .int) 0 0 0 0 [.ref y0] [(y0, .inr (8, [.int (nI n), .ref y1, .ref y2, .ref y3, .int sc, .int sp, .int (nI N), .ref y4, .ref y5, .ref y6, .ref y7, .ref y8, .ref y9, .ref y10, .ref y11, .ref y12, .int (nI tn), .ref y13, .ref y14, .long (zL wo), .long (zL si), .long (zL t1), .long (zL t2)])), (y1, .inl (cI, 6, .inl th)), (y2, .inl (cI, 6, .inl sd)), (y3, .inl (cI, 6, .inl tp)), (y4, .inl (cI, 12, .inl px)), (y5, .inl (cI, 12, .inl py)), (y6, .inl (cI, 12, .inl (fun i => nI (pl i)))), (y7, .inl (cI, 12, .inl pk)), (y8, .inl (cZ, 12, .inl (fun i => bI (M.testBit i)))), (y9, .inl (cI, 3, .inl (fun i => nI (ls i)))), (y10, .inl (cI, 18, .inl lv)), (y11, .inl (cI, 18, .inl lx)), (y12, .inl (cI, 18, .inl ly)), (y13, .inl (cJ, 15, .inr (.inl ab))), (y14, .inl (cJ, 15, .inr (.inl bl)))] (fun r w => r = some (.int (nI M)) ∧ w = [(y0, .inr (8, [.int (nI n), .ref y1, .ref y2, .ref y3, .int sc, .int sp, .int (nI N), .ref y4, .ref y5, .ref y6, .ref y7, .ref y8, .ref y9, .ref y10, .ref y11, .ref y12, .int (nI tn), .ref y13, .ref y14, .long (zL wo), .long (zL si), .long (zL t1), .long (zL t2)])), (y1, .inl (cI, 6, .inl th)), (y2, .inl (cI, 6, .inl sd)), (y3, .inl (cI, 6, .inl tp)), (y4, .inl (cI, 12, .inl px)), (y5, .inl (cI, 12, .inl py)), (y6, .inl (cI, 12, .inl (fun i => nI (pl i)))), (y7, .inl (cI, 12, .inl pk)), (y8, .inl (cZ, 12, .inl (fun i => bI (M.testBit i)))), (y9, .inl (cI, 3, .inl (fun i => nI (ls i)))), (y10, .inl (cI, 18, .inl lv)), (y11, .inl (cI, 18, .inl lx)), (y12, .inl (cI, 18, .inl ly)), (y13, .inl (cJ, 15, .inr (.inl ab))), (y14, .inl (cJ, 15, .inr (.inl bl)))]) := by
  refine Ct.ofI (ty := .int) (by decide) (Nat.le_of_ble_eq_true rfl) ?_
  intro p e s m args below meth c A R Q F hnm hcs0 hE
  refine v_lv (lv' := [(0, .ref y0)]) [0] rfl ?_
  obtain ⟨G, hsp, P, hM, hls, hlv, hlx, hly, htn⟩ := id VI
  have hn6 := G.1
  have hN12 := P.1
  have hM4 : M < 4096 := Nat.lt_of_lt_of_le hM (Nat.pow_le_pow_right (by omega) hN12)
  have L4 : ∀ (d k : Nat), k + d = N → V p l e R s m args below meth c D A 3 0 0 Q 4 [(0, .ref y0), (1, .int (nI (M % 2 ^ k))), (2, .int (nI k))] [] [(y0, .inr (8, [.int (nI n), .ref y1, .ref y2, .ref y3, .int sc, .int sp, .int (nI N), .ref y4, .ref y5, .ref y6, .ref y7, .ref y8, .ref y9, .ref y10, .ref y11, .ref y12, .int (nI tn), .ref y13, .ref y14, .long (zL wo), .long (zL si), .long (zL t1), .long (zL t2)])), (y1, .inl (cI, 6, .inl th)), (y2, .inl (cI, 6, .inl sd)), (y3, .inl (cI, 6, .inl tp)), (y4, .inl (cI, 12, .inl px)), (y5, .inl (cI, 12, .inl py)), (y6, .inl (cI, 12, .inl (fun i => nI (pl i)))), (y7, .inl (cI, 12, .inl pk)), (y8, .inl (cZ, 12, .inl (fun i => bI (M.testBit i)))), (y9, .inl (cI, 3, .inl (fun i => nI (ls i)))), (y10, .inl (cI, 18, .inl lv)), (y11, .inl (cI, 18, .inl lx)), (y12, .inl (cI, 18, .inl ly)), (y13, .inl (cJ, 15, .inr (.inl ab))), (y14, .inl (cJ, 15, .inr (.inl bl)))] := by
    intro d
    induction d using Nat.strongRecOn with
    | _ d ih => ?_
    intro k hk
    refine v_iload_n F dX8_wholeSet_4 (i := 2) rfl 2 rfl (q := 5) rfl ?_
    refine v_aload_n F dX8_wholeSet_5 (i := 0) rfl 0 rfl (q := 6) rfl ?_
    refine gt_X8_75 F dX8_wholeSet_6 0 rfl rfl (q := 9) rfl ?_
    refine v_icmp_ge F dX8_wholeSet_9 (tgt := 37) rfl (q := 12) rfl (fun c9 => ?_) (fun c9 => ?_)
    · skip
      rw [nI_leI (by omega) (by omega)] at c9
      have hku : N = k := by omega
      subst hku
      refine v_iload_n F dX8_wholeSet_37 (i := 1) rfl 1 rfl (q := 38) rfl ?_
      exact hE rfl dX8_wholeSet_38 (Nat.zero_le _) (Nat.zero_le _) ⟨⟨by rw [Nat.mod_eq_of_lt hM], rfl⟩, Nat.le_of_ble_eq_true rfl⟩
    · skip
      rw [nI_leI (by omega) (by omega)] at c9
      obtain ⟨d, rfl⟩ : ∃ d2, d = d2 + 1 := ⟨d - 1, by omega⟩
      refine v_iload_n F dX8_wholeSet_12 (i := 1) rfl 1 rfl (q := 13) rfl ?_
      refine v_aload_n F dX8_wholeSet_13 (i := 0) rfl 0 rfl (q := 14) rfl ?_
      refine gt_X8_31 F dX8_wholeSet_14 0 rfl rfl (q := 17) rfl ?_
      refine v_iload_n F dX8_wholeSet_17 (i := 2) rfl 2 rfl (q := 18) rfl ?_
      refine v_zaldN F 8 2 rfl rfl (j := k) (by omega) (by decide) dX8_wholeSet_18 (q := 19) rfl ?_
      refine v_st (st' := [.int (bI (M.testBit k)), .int (nI (M % 2 ^ k))]) rfl ?_
      refine v_if_eq F dX8_wholeSet_19 (tgt := 28) rfl (q := 22) rfl (fun c19 => ?_) (fun c19 => ?_)
      · skip
        rw [bI_z] at c19
        refine v_iconst F dX8_wholeSet_28 (v := 0) (q := 29) rfl rfl ?_
        refine v_ior F dX8_wholeSet_29 (q := 30) rfl ?_
        refine v_int (y := nI (M % 2 ^ (k + 1))) (ws_f c19) ?_
        refine v_istore_n F dX8_wholeSet_30 (i := 1) (lv' := [(1, .int (nI (M % 2 ^ (k + 1)))), (0, .ref y0), (2, .int (nI k))]) rfl (Nat.le_of_ble_eq_true rfl) rfl (q := 31) rfl ?_
        refine v_iinc F dX8_wholeSet_31 2 rfl (v := nI (k + 1)) (lv' := [(2, .int (nI (k + 1))), (1, .int (nI (M % 2 ^ (k + 1)))), (0, .ref y0)]) (nI_1 k) (Nat.le_of_ble_eq_true rfl) rfl (q := 34) rfl ?_
        refine v_goto F dX8_wholeSet_34 (tgt := 4) rfl ?_
        refine v_lv (lv' := [(0, .ref y0), (1, .int (nI (M % 2 ^ (k + 1)))), (2, .int (nI (k + 1)))]) [2, 1, 0] rfl ?_
        exact ih d (by omega) (k + 1) (by omega)
      · skip
        rw [bI_nz] at c19
        refine v_iconst F dX8_wholeSet_22 (v := 1) (q := 23) rfl rfl ?_
        refine v_iload_n F dX8_wholeSet_23 (i := 2) rfl 2 rfl (q := 24) rfl ?_
        refine v_ishl F dX8_wholeSet_24 (q := 25) rfl ?_
        refine v_goto F dX8_wholeSet_25 (tgt := 29) rfl ?_
        refine v_ior F dX8_wholeSet_29 (q := 30) rfl ?_
        refine v_int (y := nI (M % 2 ^ (k + 1))) (ws_t (by omega) c19) ?_
        refine v_istore_n F dX8_wholeSet_30 (i := 1) (lv' := [(1, .int (nI (M % 2 ^ (k + 1)))), (0, .ref y0), (2, .int (nI k))]) rfl (Nat.le_of_ble_eq_true rfl) rfl (q := 31) rfl ?_
        refine v_iinc F dX8_wholeSet_31 2 rfl (v := nI (k + 1)) (lv' := [(2, .int (nI (k + 1))), (1, .int (nI (M % 2 ^ (k + 1)))), (0, .ref y0)]) (nI_1 k) (Nat.le_of_ble_eq_true rfl) rfl (q := 34) rfl ?_
        refine v_goto F dX8_wholeSet_34 (tgt := 4) rfl ?_
        refine v_lv (lv' := [(0, .ref y0), (1, .int (nI (M % 2 ^ (k + 1)))), (2, .int (nI (k + 1)))]) [2, 1, 0] rfl ?_
        exact ih d (by omega) (k + 1) (by omega)
  refine v_iconst F dX8_wholeSet_0 (v := 0) (q := 1) rfl rfl ?_
  refine v_istore_n F dX8_wholeSet_1 (i := 1) (lv' := [(1, .int 0), (0, .ref y0)]) rfl (Nat.le_of_ble_eq_true rfl) rfl (q := 2) rfl ?_
  refine v_iconst F dX8_wholeSet_2 (v := 0) (q := 3) rfl rfl ?_
  refine v_istore_n F dX8_wholeSet_3 (i := 2) (lv' := [(2, .int 0), (1, .int 0), (0, .ref y0)]) rfl (Nat.le_of_ble_eq_true rfl) rfl (q := 4) rfl ?_
  refine v_lv (lv' := [(0, .ref y0), (1, .int 0), (2, .int 0)]) [2, 1, 0] rfl ?_
  have hV := L4 N 0 (by omega)
  rw [show M % 2 ^ 0 = 0 from Nat.mod_one M] at hV
  exact hV

set_option maxHeartbeats 4000000 in
set_option maxRecDepth 100000 in
theorem c_X8_bits (B : Nat) (hB : B < 4096) : Ct l D (TY cI cJ cZ) yX8_bits cX8_bits 3 (some .int) 0 0 0 0 [.int (nI B)] [] (fun r w => r = some (.int (nI (popc B))) ∧ w = []) := by
  refine Ct.ofI (ty := .int) (by decide) (Nat.le_of_ble_eq_true rfl) ?_
  intro p e s m args below meth c A R Q F hnm hcs0 hE
  refine v_lv (lv' := [(0, .int (nI B))]) [0] rfl ?_
  have L4 : ∀ (d k : Nat), k + d = 12 → V p l e R s m args below meth c D A 3 0 0 Q 4 [(0, .int (nI B)), (1, .int (nI (nsum (fun j => if B.testBit j then 1 else 0) k))), (2, .int (nI k))] [] [] := by
    intro d
    induction d using Nat.strongRecOn with
    | _ d ih => ?_
    intro k hk
    refine v_iload_n F dX8_bits_4 (i := 2) rfl 2 rfl (q := 5) rfl ?_
    refine v_bipush F dX8_bits_5 (v := 12) (q := 7) rfl rfl ?_
    refine v_icmp_ge F dX8_bits_7 (tgt := 24) rfl (q := 10) rfl (fun c7 => ?_) (fun c7 => ?_)
    · skip
      rw [show (12 : Int32) = nI 12 from rfl, nI_leI (by omega) (by omega)] at c7
      have hkn : 12 = k := by omega
      subst hkn
      refine v_iload_n F dX8_bits_24 (i := 1) rfl 1 rfl (q := 25) rfl ?_
      exact hE rfl dX8_bits_25 (Nat.zero_le _) (Nat.zero_le _) ⟨⟨rfl, rfl⟩, Nat.le_of_ble_eq_true rfl⟩
    · skip
      rw [show (12 : Int32) = nI 12 from rfl, nI_leI (by omega) (by omega)] at c7
      obtain ⟨d, rfl⟩ : ∃ d2, d = d2 + 1 := ⟨d - 1, by omega⟩
      refine v_iload_n F dX8_bits_10 (i := 1) rfl 1 rfl (q := 11) rfl ?_
      refine v_iload_n F dX8_bits_11 (i := 0) rfl 0 rfl (q := 12) rfl ?_
      refine v_iload_n F dX8_bits_12 (i := 2) rfl 2 rfl (q := 13) rfl ?_
      refine v_ishr F dX8_bits_13 (q := 14) rfl ?_
      refine v_iconst F dX8_bits_14 (v := 1) (q := 15) rfl rfl ?_
      refine v_iand F dX8_bits_15 (q := 16) rfl ?_
      refine v_int (y := bI (B.testBit k)) (sh_bit hB (by omega)) ?_
      refine v_iadd F dX8_bits_16 (q := 17) rfl ?_
      refine v_int (y := nI (nsum (fun j => if B.testBit j then 1 else 0) (k + 1))) (bi_s) ?_
      refine v_istore_n F dX8_bits_17 (i := 1) (lv' := [(1, .int (nI (nsum (fun j => if B.testBit j then 1 else 0) (k + 1)))), (0, .int (nI B)), (2, .int (nI k))]) rfl (Nat.le_of_ble_eq_true rfl) rfl (q := 18) rfl ?_
      refine v_iinc F dX8_bits_18 2 rfl (v := nI (k + 1)) (lv' := [(2, .int (nI (k + 1))), (1, .int (nI (nsum (fun j => if B.testBit j then 1 else 0) (k + 1)))), (0, .int (nI B))]) (nI_1 k) (Nat.le_of_ble_eq_true rfl) rfl (q := 21) rfl ?_
      refine v_goto F dX8_bits_21 (tgt := 4) rfl ?_
      refine v_lv (lv' := [(0, .int (nI B)), (1, .int (nI (nsum (fun j => if B.testBit j then 1 else 0) (k + 1)))), (2, .int (nI (k + 1)))]) [2, 1, 0] rfl ?_
      exact ih d (by omega) (k + 1) (by omega)
  refine v_iconst F dX8_bits_0 (v := 0) (q := 1) rfl rfl ?_
  refine v_istore_n F dX8_bits_1 (i := 1) (lv' := [(1, .int 0), (0, .int (nI B))]) rfl (Nat.le_of_ble_eq_true rfl) rfl (q := 2) rfl ?_
  refine v_iconst F dX8_bits_2 (v := 0) (q := 3) rfl rfl ?_
  refine v_istore_n F dX8_bits_3 (i := 2) (lv' := [(2, .int 0), (1, .int 0), (0, .int (nI B))]) rfl (Nat.le_of_ble_eq_true rfl) rfl (q := 4) rfl ?_
  refine v_lv (lv' := [(0, .int (nI B)), (1, .int 0), (2, .int 0)]) [2, 1, 0] rfl ?_
  exact L4 12 0 (by omega)

set_option maxHeartbeats 4000000 in
set_option maxRecDepth 100000 in
theorem c_X8_layer (y0 y1 y2 y3 y4 y5 y6 y7 y8 y9 y10 y11 y12 y13 y14 : Nat) (th : Nat → Int32) (sd : Nat → Int32) (tp : Nat → Int32) (n : Nat) (sc : Int32) (sp : Int32) (px : Nat → Int32) (py : Nat → Int32) (pl : Nat → Nat) (pk : Nat → Int32) (N : Nat) (M : Nat) (ls : Nat → Nat) (lv : Nat → Int32) (lx : Nat → Int32) (ly : Nat → Int32) (ab : Nat → Int64) (bl : Nat → Int64) (tn : Nat) (wo si t1 t2 : Int) (t0 s0 p0 : Int32) (VI : INV (th, sd, tp, n, sc, sp, px, py, pl, pk, N, M, ls, lv, lx, ly, ab, bl, tn)) : Ct l D (TY cI cJ cZ) yX8_layer cX8_layer 4 (some .int) 1 22 0 0 [.ref y0, .int t0, .int s0, .int p0] [(y0, .inr (8, [.int (nI n), .ref y1, .ref y2, .ref y3, .int sc, .int sp, .int (nI N), .ref y4, .ref y5, .ref y6, .ref y7, .ref y8, .ref y9, .ref y10, .ref y11, .ref y12, .int (nI tn), .ref y13, .ref y14, .long (zL wo), .long (zL si), .long (zL t1), .long (zL t2)])), (y1, .inl (cI, 6, .inl th)), (y2, .inl (cI, 6, .inl sd)), (y3, .inl (cI, 6, .inl tp)), (y4, .inl (cI, 12, .inl px)), (y5, .inl (cI, 12, .inl py)), (y6, .inl (cI, 12, .inl (fun i => nI (pl i)))), (y7, .inl (cI, 12, .inl pk)), (y8, .inl (cZ, 12, .inl (fun i => bI (M.testBit i)))), (y9, .inl (cI, 3, .inl (fun i => nI (ls i)))), (y10, .inl (cI, 18, .inl lv)), (y11, .inl (cI, 18, .inl lx)), (y12, .inl (cI, 18, .inl ly)), (y13, .inl (cJ, 15, .inr (.inl ab))), (y14, .inl (cJ, 15, .inr (.inl bl)))] (fun r w => ∃ X : Int × Int × Int × Int, r = some (.int (fLayer t0 s0 p0 (th, sd, tp, n, sc, sp, px, py, pl, pk, N, M, ls, lv, lx, ly, ab, bl, tn)).1) ∧ w = WM cI cJ cZ y0 y1 y2 y3 y4 y5 y6 y7 y8 y9 y10 y11 y12 y13 y14 (fLayer t0 s0 p0 (th, sd, tp, n, sc, sp, px, py, pl, pk, N, M, ls, lv, lx, ly, ab, bl, tn)).2 X) := by
  refine Ct.ofI (ty := .int) (by decide) (Nat.le_of_ble_eq_true rfl) ?_
  intro p e s m args below meth c A R Q F hnm hcs0 hE
  refine v_lv (lv' := [(0, .ref y0), (1, .int t0), (2, .int s0), (3, .int p0)]) [0, 1, 2, 3] rfl ?_
  obtain ⟨G, hsp, P, hM, hls, hlv, hlx, hly, htn⟩ := id VI
  have hn6 := G.1
  have hN12 := P.1
  have hM4 : M < 4096 := Nat.lt_of_lt_of_le hM (Nat.pow_le_pow_right (by omega) hN12)
  refine v_iload_n F dX8_layer_0 (i := 1) rfl 1 rfl (q := 1) rfl ?_
  refine v_iconst F dX8_layer_1 (v := 1) (q := 2) rfl rfl ?_
  refine v_bipush F dX8_layer_2 (v := 50) (q := 4) rfl rfl ?_
  refine v_callS F ml_X8_54 sm_X8_in in_X8 co_X8_in sd_X8_in (c_X8_in t0 1 50) ⟨Nat.zero_le _, Nat.zero_le _⟩ (Nat.le_of_ble_eq_true rfl) (Nat.le_of_ble_eq_true rfl) rfl [] rfl rfl rfl (rest := []) rfl (Nat.le_of_ble_eq_true rfl) dX8_layer_4 (q := 7) rfl (fun r w hr => ?_)
  obtain ⟨rfl, rfl⟩ := hr
  refine v_ws (ws' := [(y0, .inr (8, [.int (nI n), .ref y1, .ref y2, .ref y3, .int sc, .int sp, .int (nI N), .ref y4, .ref y5, .ref y6, .ref y7, .ref y8, .ref y9, .ref y10, .ref y11, .ref y12, .int (nI tn), .ref y13, .ref y14, .long (zL wo), .long (zL si), .long (zL t1), .long (zL t2)])), (y1, .inl (cI, 6, .inl th)), (y2, .inl (cI, 6, .inl sd)), (y3, .inl (cI, 6, .inl tp)), (y4, .inl (cI, 12, .inl px)), (y5, .inl (cI, 12, .inl py)), (y6, .inl (cI, 12, .inl (fun i => nI (pl i)))), (y7, .inl (cI, 12, .inl pk)), (y8, .inl (cZ, 12, .inl (fun i => bI (M.testBit i)))), (y9, .inl (cI, 3, .inl (fun i => nI (ls i)))), (y10, .inl (cI, 18, .inl lv)), (y11, .inl (cI, 18, .inl lx)), (y12, .inl (cI, 18, .inl ly)), (y13, .inl (cJ, 15, .inr (.inl ab))), (y14, .inl (cJ, 15, .inr (.inl bl)))]) rfl ?_
  refine v_st (st' := [.int (bI (inR t0 1 50))]) rfl ?_
  refine v_if_eq F dX8_layer_7 (tgt := 31) rfl (q := 10) rfl (fun c7 => ?_) (fun c7 => ?_)
  · skip
    rw [bI_z] at c7
    refine v_iconst F dX8_layer_31 (v := (-1)) (q := 32) rfl rfl ?_
    exact hE rfl dX8_layer_32 (Nat.zero_le _) (Nat.zero_le _) ⟨(by have hf : fLayer t0 s0 p0 (th, sd, tp, n, sc, sp, px, py, pl, pk, N, M, ls, lv, lx, ly, ab, bl, tn) = (-1, (th, sd, tp, n, sc, sp, px, py, pl, pk, N, M, ls, lv, lx, ly, ab, bl, tn)) := (by simp [fLayer, c7]); exact ⟨(wo, si, t1, t2), by rw [hf], by rw [hf]; rfl⟩), Nat.le_of_ble_eq_true rfl⟩
  · skip
    rw [bI_nz] at c7
    refine v_iload_n F dX8_layer_10 (i := 2) rfl 2 rfl (q := 11) rfl ?_
    refine v_iconst F dX8_layer_11 (v := 0) (q := 12) rfl rfl ?_
    refine v_bipush F dX8_layer_12 (v := 50) (q := 14) rfl rfl ?_
    refine v_callS F ml_X8_54 sm_X8_in in_X8 co_X8_in sd_X8_in (c_X8_in s0 0 50) ⟨Nat.zero_le _, Nat.zero_le _⟩ (Nat.le_of_ble_eq_true rfl) (Nat.le_of_ble_eq_true rfl) rfl [] rfl rfl rfl (rest := []) rfl (Nat.le_of_ble_eq_true rfl) dX8_layer_14 (q := 17) rfl (fun r w hr => ?_)
    obtain ⟨rfl, rfl⟩ := hr
    refine v_ws (ws' := [(y0, .inr (8, [.int (nI n), .ref y1, .ref y2, .ref y3, .int sc, .int sp, .int (nI N), .ref y4, .ref y5, .ref y6, .ref y7, .ref y8, .ref y9, .ref y10, .ref y11, .ref y12, .int (nI tn), .ref y13, .ref y14, .long (zL wo), .long (zL si), .long (zL t1), .long (zL t2)])), (y1, .inl (cI, 6, .inl th)), (y2, .inl (cI, 6, .inl sd)), (y3, .inl (cI, 6, .inl tp)), (y4, .inl (cI, 12, .inl px)), (y5, .inl (cI, 12, .inl py)), (y6, .inl (cI, 12, .inl (fun i => nI (pl i)))), (y7, .inl (cI, 12, .inl pk)), (y8, .inl (cZ, 12, .inl (fun i => bI (M.testBit i)))), (y9, .inl (cI, 3, .inl (fun i => nI (ls i)))), (y10, .inl (cI, 18, .inl lv)), (y11, .inl (cI, 18, .inl lx)), (y12, .inl (cI, 18, .inl ly)), (y13, .inl (cJ, 15, .inr (.inl ab))), (y14, .inl (cJ, 15, .inr (.inl bl)))]) rfl ?_
    refine v_st (st' := [.int (bI (inR s0 0 50))]) rfl ?_
    refine v_if_eq F dX8_layer_17 (tgt := 31) rfl (q := 20) rfl (fun c17 => ?_) (fun c17 => ?_)
    · skip
      rw [bI_z] at c17
      refine v_iconst F dX8_layer_31 (v := (-1)) (q := 32) rfl rfl ?_
      exact hE rfl dX8_layer_32 (Nat.zero_le _) (Nat.zero_le _) ⟨(by have hf : fLayer t0 s0 p0 (th, sd, tp, n, sc, sp, px, py, pl, pk, N, M, ls, lv, lx, ly, ab, bl, tn) = (-1, (th, sd, tp, n, sc, sp, px, py, pl, pk, N, M, ls, lv, lx, ly, ab, bl, tn)) := (by simp [fLayer, c7, c17]); exact ⟨(wo, si, t1, t2), by rw [hf], by rw [hf]; rfl⟩), Nat.le_of_ble_eq_true rfl⟩
    · skip
      rw [bI_nz] at c17
      refine v_iload_n F dX8_layer_20 (i := 3) rfl 3 rfl (q := 21) rfl ?_
      refine v_iconst F dX8_layer_21 (v := 0) (q := 22) rfl rfl ?_
      refine v_sipush F dX8_layer_22 (v := 1000) (q := 25) rfl rfl ?_
      refine v_callS F ml_X8_54 sm_X8_in in_X8 co_X8_in sd_X8_in (c_X8_in p0 0 1000) ⟨Nat.zero_le _, Nat.zero_le _⟩ (Nat.le_of_ble_eq_true rfl) (Nat.le_of_ble_eq_true rfl) rfl [] rfl rfl rfl (rest := []) rfl (Nat.le_of_ble_eq_true rfl) dX8_layer_25 (q := 28) rfl (fun r w hr => ?_)
      obtain ⟨rfl, rfl⟩ := hr
      refine v_ws (ws' := [(y0, .inr (8, [.int (nI n), .ref y1, .ref y2, .ref y3, .int sc, .int sp, .int (nI N), .ref y4, .ref y5, .ref y6, .ref y7, .ref y8, .ref y9, .ref y10, .ref y11, .ref y12, .int (nI tn), .ref y13, .ref y14, .long (zL wo), .long (zL si), .long (zL t1), .long (zL t2)])), (y1, .inl (cI, 6, .inl th)), (y2, .inl (cI, 6, .inl sd)), (y3, .inl (cI, 6, .inl tp)), (y4, .inl (cI, 12, .inl px)), (y5, .inl (cI, 12, .inl py)), (y6, .inl (cI, 12, .inl (fun i => nI (pl i)))), (y7, .inl (cI, 12, .inl pk)), (y8, .inl (cZ, 12, .inl (fun i => bI (M.testBit i)))), (y9, .inl (cI, 3, .inl (fun i => nI (ls i)))), (y10, .inl (cI, 18, .inl lv)), (y11, .inl (cI, 18, .inl lx)), (y12, .inl (cI, 18, .inl ly)), (y13, .inl (cJ, 15, .inr (.inl ab))), (y14, .inl (cJ, 15, .inr (.inl bl)))]) rfl ?_
      refine v_st (st' := [.int (bI (inR p0 0 1000))]) rfl ?_
      refine v_if_ne F dX8_layer_28 (tgt := 33) rfl (q := 31) rfl (fun c28 => ?_) (fun c28 => ?_)
      · skip
        rw [bI_nz] at c28
        refine v_aload_n F dX8_layer_33 (i := 0) rfl 0 rfl (q := 34) rfl ?_
        refine gt_X8_58 F dX8_layer_34 0 rfl rfl (q := 37) rfl ?_
        refine v_bipush F dX8_layer_37 (v := 6) (q := 39) rfl rfl ?_
        refine v_icmp_ne F dX8_layer_39 (tgt := 45) rfl (q := 42) rfl (fun c39 => ?_) (fun c39 => ?_)
        · skip
          have c39 : ¬ n = 6 := fun q => c39 (by rw [q]; rfl)
          refine v_aload_n F dX8_layer_45 (i := 0) rfl 0 rfl (q := 46) rfl ?_
          refine gt_X8_7 F dX8_layer_46 0 rfl rfl (q := 49) rfl ?_
          refine v_aload_n F dX8_layer_49 (i := 0) rfl 0 rfl (q := 50) rfl ?_
          refine gt_X8_58 F dX8_layer_50 0 rfl rfl (q := 53) rfl ?_
          refine v_iload_n F dX8_layer_53 (i := 1) rfl 1 rfl (q := 54) rfl ?_
          refine v_iastN F 1 0 rfl rfl (j := n) (by omega) (by decide) dX8_layer_54 (q := 55) rfl ?_
          refine v_ws (ws' := [(y0, .inr (8, [.int (nI n), .ref y1, .ref y2, .ref y3, .int sc, .int sp, .int (nI N), .ref y4, .ref y5, .ref y6, .ref y7, .ref y8, .ref y9, .ref y10, .ref y11, .ref y12, .int (nI tn), .ref y13, .ref y14, .long (zL wo), .long (zL si), .long (zL t1), .long (zL t2)])), (y1, .inl (cI, 6, .inl (upd th n t0))), (y2, .inl (cI, 6, .inl sd)), (y3, .inl (cI, 6, .inl tp)), (y4, .inl (cI, 12, .inl px)), (y5, .inl (cI, 12, .inl py)), (y6, .inl (cI, 12, .inl (fun i => nI (pl i)))), (y7, .inl (cI, 12, .inl pk)), (y8, .inl (cZ, 12, .inl (fun i => bI (M.testBit i)))), (y9, .inl (cI, 3, .inl (fun i => nI (ls i)))), (y10, .inl (cI, 18, .inl lv)), (y11, .inl (cI, 18, .inl lx)), (y12, .inl (cI, 18, .inl ly)), (y13, .inl (cJ, 15, .inr (.inl ab))), (y14, .inl (cJ, 15, .inr (.inl bl)))]) rfl ?_
          refine v_aload_n F dX8_layer_55 (i := 0) rfl 0 rfl (q := 56) rfl ?_
          refine gt_X8_13 F dX8_layer_56 0 rfl rfl (q := 59) rfl ?_
          refine v_aload_n F dX8_layer_59 (i := 0) rfl 0 rfl (q := 60) rfl ?_
          refine gt_X8_58 F dX8_layer_60 0 rfl rfl (q := 63) rfl ?_
          refine v_iload_n F dX8_layer_63 (i := 2) rfl 2 rfl (q := 64) rfl ?_
          refine v_iastN F 2 0 rfl rfl (j := n) (by omega) (by decide) dX8_layer_64 (q := 65) rfl ?_
          refine v_ws (ws' := [(y0, .inr (8, [.int (nI n), .ref y1, .ref y2, .ref y3, .int sc, .int sp, .int (nI N), .ref y4, .ref y5, .ref y6, .ref y7, .ref y8, .ref y9, .ref y10, .ref y11, .ref y12, .int (nI tn), .ref y13, .ref y14, .long (zL wo), .long (zL si), .long (zL t1), .long (zL t2)])), (y1, .inl (cI, 6, .inl (upd th n t0))), (y2, .inl (cI, 6, .inl (upd sd n s0))), (y3, .inl (cI, 6, .inl tp)), (y4, .inl (cI, 12, .inl px)), (y5, .inl (cI, 12, .inl py)), (y6, .inl (cI, 12, .inl (fun i => nI (pl i)))), (y7, .inl (cI, 12, .inl pk)), (y8, .inl (cZ, 12, .inl (fun i => bI (M.testBit i)))), (y9, .inl (cI, 3, .inl (fun i => nI (ls i)))), (y10, .inl (cI, 18, .inl lv)), (y11, .inl (cI, 18, .inl lx)), (y12, .inl (cI, 18, .inl ly)), (y13, .inl (cJ, 15, .inr (.inl ab))), (y14, .inl (cJ, 15, .inr (.inl bl)))]) rfl ?_
          refine v_aload_n F dX8_layer_65 (i := 0) rfl 0 rfl (q := 66) rfl ?_
          refine gt_X8_16 F dX8_layer_66 0 rfl rfl (q := 69) rfl ?_
          refine v_aload_n F dX8_layer_69 (i := 0) rfl 0 rfl (q := 70) rfl ?_
          refine gt_X8_58 F dX8_layer_70 0 rfl rfl (q := 73) rfl ?_
          refine v_iload_n F dX8_layer_73 (i := 3) rfl 3 rfl (q := 74) rfl ?_
          refine v_iastN F 3 0 rfl rfl (j := n) (by omega) (by decide) dX8_layer_74 (q := 75) rfl ?_
          refine v_ws (ws' := [(y0, .inr (8, [.int (nI n), .ref y1, .ref y2, .ref y3, .int sc, .int sp, .int (nI N), .ref y4, .ref y5, .ref y6, .ref y7, .ref y8, .ref y9, .ref y10, .ref y11, .ref y12, .int (nI tn), .ref y13, .ref y14, .long (zL wo), .long (zL si), .long (zL t1), .long (zL t2)])), (y1, .inl (cI, 6, .inl (upd th n t0))), (y2, .inl (cI, 6, .inl (upd sd n s0))), (y3, .inl (cI, 6, .inl (upd tp n p0))), (y4, .inl (cI, 12, .inl px)), (y5, .inl (cI, 12, .inl py)), (y6, .inl (cI, 12, .inl (fun i => nI (pl i)))), (y7, .inl (cI, 12, .inl pk)), (y8, .inl (cZ, 12, .inl (fun i => bI (M.testBit i)))), (y9, .inl (cI, 3, .inl (fun i => nI (ls i)))), (y10, .inl (cI, 18, .inl lv)), (y11, .inl (cI, 18, .inl lx)), (y12, .inl (cI, 18, .inl ly)), (y13, .inl (cJ, 15, .inr (.inl ab))), (y14, .inl (cJ, 15, .inr (.inl bl)))]) rfl ?_
          refine v_aload_n F dX8_layer_75 (i := 0) rfl 0 rfl (q := 76) rfl ?_
          refine v_dup F dX8_layer_76 rfl (q := 77) rfl ?_
          refine gt_X8_58 F dX8_layer_77 0 rfl rfl (q := 80) rfl ?_
          refine v_iconst F dX8_layer_80 (v := 1) (q := 81) rfl rfl ?_
          refine v_iadd F dX8_layer_81 (q := 82) rfl ?_
          refine v_int (y := nI (n + 1)) (nI_1 n) ?_
          refine pt_X8_58 F dX8_layer_82 0 rfl (Nat.le_of_ble_eq_true rfl) (q := 85) rfl ?_
          refine v_ws (ws' := [(y0, .inr (8, [.int (nI (n + 1)), .ref y1, .ref y2, .ref y3, .int sc, .int sp, .int (nI N), .ref y4, .ref y5, .ref y6, .ref y7, .ref y8, .ref y9, .ref y10, .ref y11, .ref y12, .int (nI tn), .ref y13, .ref y14, .long (zL wo), .long (zL si), .long (zL t1), .long (zL t2)])), (y1, .inl (cI, 6, .inl (upd th n t0))), (y2, .inl (cI, 6, .inl (upd sd n s0))), (y3, .inl (cI, 6, .inl (upd tp n p0))), (y4, .inl (cI, 12, .inl px)), (y5, .inl (cI, 12, .inl py)), (y6, .inl (cI, 12, .inl (fun i => nI (pl i)))), (y7, .inl (cI, 12, .inl pk)), (y8, .inl (cZ, 12, .inl (fun i => bI (M.testBit i)))), (y9, .inl (cI, 3, .inl (fun i => nI (ls i)))), (y10, .inl (cI, 18, .inl lv)), (y11, .inl (cI, 18, .inl lx)), (y12, .inl (cI, 18, .inl ly)), (y13, .inl (cJ, 15, .inr (.inl ab))), (y14, .inl (cJ, 15, .inr (.inl bl)))]) rfl ?_
          refine v_aload_n F dX8_layer_85 (i := 0) rfl 0 rfl (q := 86) rfl ?_
          refine gt_X8_58 F dX8_layer_86 0 rfl rfl (q := 89) rfl ?_
          refine v_iconst F dX8_layer_89 (v := 1) (q := 90) rfl rfl ?_
          refine v_isub F dX8_layer_90 (q := 91) rfl ?_
          refine v_int (y := nI n) (nI_pred n) ?_
          exact hE rfl dX8_layer_91 (Nat.zero_le _) (Nat.zero_le _) ⟨(by have hf : fLayer t0 s0 p0 (th, sd, tp, n, sc, sp, px, py, pl, pk, N, M, ls, lv, lx, ly, ab, bl, tn) = (nI n, (upd th n t0, upd sd n s0, upd tp n p0, n + 1, sc, sp, px, py, pl, pk, N, M, ls, lv, lx, ly, ab, bl, tn)) := (by simp [fLayer, c7, c17, c28, c39]); exact ⟨(wo, si, t1, t2), by rw [hf], by rw [hf]; rfl⟩), Nat.le_of_ble_eq_true rfl⟩
        · skip
          have c39 : n = 6 := (nI_eq (b := 6) (by omega) (by omega)).mp c39
          refine v_bipush F dX8_layer_42 (v := (-3)) (q := 44) rfl rfl ?_
          exact hE rfl dX8_layer_44 (Nat.zero_le _) (Nat.zero_le _) ⟨(by have hf : fLayer t0 s0 p0 (th, sd, tp, n, sc, sp, px, py, pl, pk, N, M, ls, lv, lx, ly, ab, bl, tn) = (-3, (th, sd, tp, n, sc, sp, px, py, pl, pk, N, M, ls, lv, lx, ly, ab, bl, tn)) := (by simp [fLayer, c7, c17, c28, c39]); exact ⟨(wo, si, t1, t2), by rw [hf], by rw [hf]; rfl⟩), Nat.le_of_ble_eq_true rfl⟩
      · skip
        rw [bI_z] at c28
        refine v_iconst F dX8_layer_31 (v := (-1)) (q := 32) rfl rfl ?_
        exact hE rfl dX8_layer_32 (Nat.zero_le _) (Nat.zero_le _) ⟨(by have hf : fLayer t0 s0 p0 (th, sd, tp, n, sc, sp, px, py, pl, pk, N, M, ls, lv, lx, ly, ab, bl, tn) = (-1, (th, sd, tp, n, sc, sp, px, py, pl, pk, N, M, ls, lv, lx, ly, ab, bl, tn)) := (by simp [fLayer, c7, c17, c28]); exact ⟨(wo, si, t1, t2), by rw [hf], by rw [hf]; rfl⟩), Nat.le_of_ble_eq_true rfl⟩

set_option maxHeartbeats 4000000 in
set_option maxRecDepth 100000 in
theorem c_X8_change (y0 y1 y2 y3 y4 y5 y6 y7 y8 y9 y10 y11 y12 y13 y14 : Nat) (th : Nat → Int32) (sd : Nat → Int32) (tp : Nat → Int32) (n : Nat) (sc : Int32) (sp : Int32) (px : Nat → Int32) (py : Nat → Int32) (pl : Nat → Nat) (pk : Nat → Int32) (N : Nat) (M : Nat) (ls : Nat → Nat) (lv : Nat → Int32) (lx : Nat → Int32) (ly : Nat → Int32) (ab : Nat → Int64) (bl : Nat → Int64) (tn : Nat) (wo si t1 t2 : Int) (p0 what v : Int32) (VI : INV (th, sd, tp, n, sc, sp, px, py, pl, pk, N, M, ls, lv, lx, ly, ab, bl, tn)) : Ct l D (TY cI cJ cZ) yX8_change cX8_change 5 (some .int) 1 22 0 0 [.ref y0, .int p0, .int what, .int v] [(y0, .inr (8, [.int (nI n), .ref y1, .ref y2, .ref y3, .int sc, .int sp, .int (nI N), .ref y4, .ref y5, .ref y6, .ref y7, .ref y8, .ref y9, .ref y10, .ref y11, .ref y12, .int (nI tn), .ref y13, .ref y14, .long (zL wo), .long (zL si), .long (zL t1), .long (zL t2)])), (y1, .inl (cI, 6, .inl th)), (y2, .inl (cI, 6, .inl sd)), (y3, .inl (cI, 6, .inl tp)), (y4, .inl (cI, 12, .inl px)), (y5, .inl (cI, 12, .inl py)), (y6, .inl (cI, 12, .inl (fun i => nI (pl i)))), (y7, .inl (cI, 12, .inl pk)), (y8, .inl (cZ, 12, .inl (fun i => bI (M.testBit i)))), (y9, .inl (cI, 3, .inl (fun i => nI (ls i)))), (y10, .inl (cI, 18, .inl lv)), (y11, .inl (cI, 18, .inl lx)), (y12, .inl (cI, 18, .inl ly)), (y13, .inl (cJ, 15, .inr (.inl ab))), (y14, .inl (cJ, 15, .inr (.inl bl)))] (fun r w => ∃ X : Int × Int × Int × Int, r = some (.int (fChange p0 what v (th, sd, tp, n, sc, sp, px, py, pl, pk, N, M, ls, lv, lx, ly, ab, bl, tn)).1) ∧ w = WM cI cJ cZ y0 y1 y2 y3 y4 y5 y6 y7 y8 y9 y10 y11 y12 y13 y14 (fChange p0 what v (th, sd, tp, n, sc, sp, px, py, pl, pk, N, M, ls, lv, lx, ly, ab, bl, tn)).2 X) := by
  refine Ct.ofI (ty := .int) (by decide) (Nat.le_of_ble_eq_true rfl) ?_
  intro p e s m args below meth c A R Q F hnm hcs0 hE
  refine v_lv (lv' := [(0, .ref y0), (1, .int p0), (2, .int what), (3, .int v)]) [0, 1, 2, 3] rfl ?_
  obtain ⟨G, hsp, P, hM, hls, hlv, hlx, hly, htn⟩ := id VI
  have hn6 := G.1
  have hN12 := P.1
  have hM4 : M < 4096 := Nat.lt_of_lt_of_le hM (Nat.pow_le_pow_right (by omega) hN12)
  refine v_iload_n F dX8_change_0 (i := 1) rfl 1 rfl (q := 1) rfl ?_
  refine v_iconst F dX8_change_1 (v := 0) (q := 2) rfl rfl ?_
  refine v_aload_n F dX8_change_2 (i := 0) rfl 0 rfl (q := 3) rfl ?_
  refine gt_X8_58 F dX8_change_3 0 rfl rfl (q := 6) rfl ?_
  refine v_iconst F dX8_change_6 (v := 1) (q := 7) rfl rfl ?_
  refine v_isub F dX8_change_7 (q := 8) rfl ?_
  refine v_callS F ml_X8_54 sm_X8_in in_X8 co_X8_in sd_X8_in (c_X8_in p0 0 ((nI n) - 1)) ⟨Nat.zero_le _, Nat.zero_le _⟩ (Nat.le_of_ble_eq_true rfl) (Nat.le_of_ble_eq_true rfl) rfl [] rfl rfl rfl (rest := []) rfl (Nat.le_of_ble_eq_true rfl) dX8_change_8 (q := 11) rfl (fun r w hr => ?_)
  obtain ⟨rfl, rfl⟩ := hr
  refine v_ws (ws' := [(y0, .inr (8, [.int (nI n), .ref y1, .ref y2, .ref y3, .int sc, .int sp, .int (nI N), .ref y4, .ref y5, .ref y6, .ref y7, .ref y8, .ref y9, .ref y10, .ref y11, .ref y12, .int (nI tn), .ref y13, .ref y14, .long (zL wo), .long (zL si), .long (zL t1), .long (zL t2)])), (y1, .inl (cI, 6, .inl th)), (y2, .inl (cI, 6, .inl sd)), (y3, .inl (cI, 6, .inl tp)), (y4, .inl (cI, 12, .inl px)), (y5, .inl (cI, 12, .inl py)), (y6, .inl (cI, 12, .inl (fun i => nI (pl i)))), (y7, .inl (cI, 12, .inl pk)), (y8, .inl (cZ, 12, .inl (fun i => bI (M.testBit i)))), (y9, .inl (cI, 3, .inl (fun i => nI (ls i)))), (y10, .inl (cI, 18, .inl lv)), (y11, .inl (cI, 18, .inl lx)), (y12, .inl (cI, 18, .inl ly)), (y13, .inl (cJ, 15, .inr (.inl ab))), (y14, .inl (cJ, 15, .inr (.inl bl)))]) rfl ?_
  refine v_st (st' := [.int (bI (inR p0 0 ((nI n) - 1)))]) rfl ?_
  refine v_int (y := bI (hasB p0 n)) (by rw [inR_has (by omega)]) ?_
  refine v_if_eq F dX8_change_11 (tgt := 43) rfl (q := 14) rfl (fun c11 => ?_) (fun c11 => ?_)
  · skip
    rw [bI_z] at c11
    refine v_iconst F dX8_change_43 (v := (-1)) (q := 44) rfl rfl ?_
    exact hE rfl dX8_change_44 (Nat.zero_le _) (Nat.zero_le _) ⟨(by have hf : fChange p0 what v (th, sd, tp, n, sc, sp, px, py, pl, pk, N, M, ls, lv, lx, ly, ab, bl, tn) = (-1, (th, sd, tp, n, sc, sp, px, py, pl, pk, N, M, ls, lv, lx, ly, ab, bl, tn)) := (by exact fChange_bad (Or.inl c11)); exact ⟨(wo, si, t1, t2), by rw [hf], by rw [hf]; rfl⟩), Nat.le_of_ble_eq_true rfl⟩
  · skip
    rw [bI_nz] at c11
    obtain ⟨k, hk, rfl⟩ := hasB_ex c11
    have hpk := pN_nI (k := k) (by omega)
    refine v_iload_n F dX8_change_14 (i := 2) rfl 2 rfl (q := 15) rfl ?_
    refine v_iconst F dX8_change_15 (v := 0) (q := 16) rfl rfl ?_
    refine v_iconst F dX8_change_16 (v := 1) (q := 17) rfl rfl ?_
    refine v_callS F ml_X8_54 sm_X8_in in_X8 co_X8_in sd_X8_in (c_X8_in what 0 1) ⟨Nat.zero_le _, Nat.zero_le _⟩ (Nat.le_of_ble_eq_true rfl) (Nat.le_of_ble_eq_true rfl) rfl [] rfl rfl rfl (rest := []) rfl (Nat.le_of_ble_eq_true rfl) dX8_change_17 (q := 20) rfl (fun r w hr => ?_)
    obtain ⟨rfl, rfl⟩ := hr
    refine v_ws (ws' := [(y0, .inr (8, [.int (nI n), .ref y1, .ref y2, .ref y3, .int sc, .int sp, .int (nI N), .ref y4, .ref y5, .ref y6, .ref y7, .ref y8, .ref y9, .ref y10, .ref y11, .ref y12, .int (nI tn), .ref y13, .ref y14, .long (zL wo), .long (zL si), .long (zL t1), .long (zL t2)])), (y1, .inl (cI, 6, .inl th)), (y2, .inl (cI, 6, .inl sd)), (y3, .inl (cI, 6, .inl tp)), (y4, .inl (cI, 12, .inl px)), (y5, .inl (cI, 12, .inl py)), (y6, .inl (cI, 12, .inl (fun i => nI (pl i)))), (y7, .inl (cI, 12, .inl pk)), (y8, .inl (cZ, 12, .inl (fun i => bI (M.testBit i)))), (y9, .inl (cI, 3, .inl (fun i => nI (ls i)))), (y10, .inl (cI, 18, .inl lv)), (y11, .inl (cI, 18, .inl lx)), (y12, .inl (cI, 18, .inl ly)), (y13, .inl (cJ, 15, .inr (.inl ab))), (y14, .inl (cJ, 15, .inr (.inl bl)))]) rfl ?_
    refine v_st (st' := [.int (bI (inR what 0 1))]) rfl ?_
    refine v_if_eq F dX8_change_20 (tgt := 43) rfl (q := 23) rfl (fun c20 => ?_) (fun c20 => ?_)
    · skip
      rw [bI_z] at c20
      refine v_iconst F dX8_change_43 (v := (-1)) (q := 44) rfl rfl ?_
      exact hE rfl dX8_change_44 (Nat.zero_le _) (Nat.zero_le _) ⟨(by have hf : fChange (nI k) what v (th, sd, tp, n, sc, sp, px, py, pl, pk, N, M, ls, lv, lx, ly, ab, bl, tn) = (-1, (th, sd, tp, n, sc, sp, px, py, pl, pk, N, M, ls, lv, lx, ly, ab, bl, tn)) := (by exact fChange_bad (Or.inr (Or.inl c20))); exact ⟨(wo, si, t1, t2), by rw [hf], by rw [hf]; rfl⟩), Nat.le_of_ble_eq_true rfl⟩
    · skip
      rw [bI_nz] at c20
      refine v_iload_n F dX8_change_23 (i := 3) rfl 3 rfl (q := 24) rfl ?_
      refine v_iconst F dX8_change_24 (v := 0) (q := 25) rfl rfl ?_
      refine v_iload_n F dX8_change_25 (i := 2) rfl 2 rfl (q := 26) rfl ?_
      refine v_if_ne F dX8_change_26 (tgt := 34) rfl (q := 29) rfl (fun c26 => ?_) (fun c26 => ?_)
      · skip
        have hw1 := wh_1 c20 c26
        refine v_sipush F dX8_change_34 (v := 1000) (q := 37) rfl rfl ?_
        refine v_callS F ml_X8_54 sm_X8_in in_X8 co_X8_in sd_X8_in (c_X8_in v 0 1000) ⟨Nat.zero_le _, Nat.zero_le _⟩ (Nat.le_of_ble_eq_true rfl) (Nat.le_of_ble_eq_true rfl) rfl [] rfl rfl rfl (rest := []) rfl (Nat.le_of_ble_eq_true rfl) dX8_change_37 (q := 40) rfl (fun r w hr => ?_)
        obtain ⟨rfl, rfl⟩ := hr
        refine v_ws (ws' := [(y0, .inr (8, [.int (nI n), .ref y1, .ref y2, .ref y3, .int sc, .int sp, .int (nI N), .ref y4, .ref y5, .ref y6, .ref y7, .ref y8, .ref y9, .ref y10, .ref y11, .ref y12, .int (nI tn), .ref y13, .ref y14, .long (zL wo), .long (zL si), .long (zL t1), .long (zL t2)])), (y1, .inl (cI, 6, .inl th)), (y2, .inl (cI, 6, .inl sd)), (y3, .inl (cI, 6, .inl tp)), (y4, .inl (cI, 12, .inl px)), (y5, .inl (cI, 12, .inl py)), (y6, .inl (cI, 12, .inl (fun i => nI (pl i)))), (y7, .inl (cI, 12, .inl pk)), (y8, .inl (cZ, 12, .inl (fun i => bI (M.testBit i)))), (y9, .inl (cI, 3, .inl (fun i => nI (ls i)))), (y10, .inl (cI, 18, .inl lv)), (y11, .inl (cI, 18, .inl lx)), (y12, .inl (cI, 18, .inl ly)), (y13, .inl (cJ, 15, .inr (.inl ab))), (y14, .inl (cJ, 15, .inr (.inl bl)))]) rfl ?_
        refine v_st (st' := [.int (bI (inR v 0 1000))]) rfl ?_
        refine v_if_ne F dX8_change_40 (tgt := 45) rfl (q := 43) rfl (fun c40 => ?_) (fun c40 => ?_)
        · skip
          rw [bI_nz] at c40
          refine v_iload_n F dX8_change_45 (i := 2) rfl 2 rfl (q := 46) rfl ?_
          refine v_if_ne F dX8_change_46 (tgt := 58) rfl (q := 49) rfl (fun c46 => ?_) (fun c46 => ?_)
          · skip
            refine v_aload_n F dX8_change_58 (i := 0) rfl 0 rfl (q := 59) rfl ?_
            refine gt_X8_16 F dX8_change_59 0 rfl rfl (q := 62) rfl ?_
            refine v_iload_n F dX8_change_62 (i := 1) rfl 1 rfl (q := 63) rfl ?_
            refine v_ialdN F 3 0 rfl rfl (j := k) (by omega) (by decide) dX8_change_63 (q := 64) rfl ?_
            refine v_istore F dX8_change_64 (lv' := [(4, .int (tp k)), (0, .ref y0), (1, .int (nI k)), (2, .int what), (3, .int v)]) (Nat.le_of_ble_eq_true rfl) rfl (q := 66) rfl ?_
            refine v_aload_n F dX8_change_66 (i := 0) rfl 1 rfl (q := 67) rfl ?_
            refine gt_X8_13 F dX8_change_67 0 rfl rfl (q := 70) rfl ?_
            refine v_iload_n F dX8_change_70 (i := 1) rfl 2 rfl (q := 71) rfl ?_
            refine v_iload_n F dX8_change_71 (i := 2) rfl 3 rfl (q := 72) rfl ?_
            refine v_if_ne F dX8_change_72 (tgt := 79) rfl (q := 75) rfl (fun c72 => ?_) (fun c72 => ?_)
            · skip
              refine v_aload_n F dX8_change_79 (i := 0) rfl 1 rfl (q := 80) rfl ?_
              refine gt_X8_13 F dX8_change_80 0 rfl rfl (q := 83) rfl ?_
              refine v_iload_n F dX8_change_83 (i := 1) rfl 2 rfl (q := 84) rfl ?_
              refine v_ialdN F 2 0 rfl rfl (j := k) (by omega) (by decide) dX8_change_84 (q := 85) rfl ?_
              refine v_iastN F 2 0 rfl rfl (j := k) (by omega) (by decide) dX8_change_85 (q := 86) rfl ?_
              refine v_ws (ws' := [(y0, .inr (8, [.int (nI n), .ref y1, .ref y2, .ref y3, .int sc, .int sp, .int (nI N), .ref y4, .ref y5, .ref y6, .ref y7, .ref y8, .ref y9, .ref y10, .ref y11, .ref y12, .int (nI tn), .ref y13, .ref y14, .long (zL wo), .long (zL si), .long (zL t1), .long (zL t2)])), (y1, .inl (cI, 6, .inl th)), (y2, .inl (cI, 6, .inl (upd sd k (sd k)))), (y3, .inl (cI, 6, .inl tp)), (y4, .inl (cI, 12, .inl px)), (y5, .inl (cI, 12, .inl py)), (y6, .inl (cI, 12, .inl (fun i => nI (pl i)))), (y7, .inl (cI, 12, .inl pk)), (y8, .inl (cZ, 12, .inl (fun i => bI (M.testBit i)))), (y9, .inl (cI, 3, .inl (fun i => nI (ls i)))), (y10, .inl (cI, 18, .inl lv)), (y11, .inl (cI, 18, .inl lx)), (y12, .inl (cI, 18, .inl ly)), (y13, .inl (cJ, 15, .inr (.inl ab))), (y14, .inl (cJ, 15, .inr (.inl bl)))]) rfl ?_
              refine v_aload_n F dX8_change_86 (i := 0) rfl 1 rfl (q := 87) rfl ?_
              refine gt_X8_16 F dX8_change_87 0 rfl rfl (q := 90) rfl ?_
              refine v_iload_n F dX8_change_90 (i := 1) rfl 2 rfl (q := 91) rfl ?_
              refine v_iload_n F dX8_change_91 (i := 2) rfl 3 rfl (q := 92) rfl ?_
              refine v_iconst F dX8_change_92 (v := 1) (q := 93) rfl rfl ?_
              refine v_icmp_ne F dX8_change_93 (tgt := 100) rfl (q := 96) rfl (fun c93 => ?_) (fun c93 => ?_)
              · exact absurd hw1 c93
              · skip
                refine v_iload_n F dX8_change_96 (i := 3) rfl 4 rfl (q := 97) rfl ?_
                refine v_goto F dX8_change_97 (tgt := 106) rfl ?_
                refine v_iastN F 3 0 rfl rfl (j := k) (by omega) (by decide) dX8_change_106 (q := 107) rfl ?_
                refine v_ws (ws' := [(y0, .inr (8, [.int (nI n), .ref y1, .ref y2, .ref y3, .int sc, .int sp, .int (nI N), .ref y4, .ref y5, .ref y6, .ref y7, .ref y8, .ref y9, .ref y10, .ref y11, .ref y12, .int (nI tn), .ref y13, .ref y14, .long (zL wo), .long (zL si), .long (zL t1), .long (zL t2)])), (y1, .inl (cI, 6, .inl th)), (y2, .inl (cI, 6, .inl (upd sd k (sd k)))), (y3, .inl (cI, 6, .inl (upd tp k v))), (y4, .inl (cI, 12, .inl px)), (y5, .inl (cI, 12, .inl py)), (y6, .inl (cI, 12, .inl (fun i => nI (pl i)))), (y7, .inl (cI, 12, .inl pk)), (y8, .inl (cZ, 12, .inl (fun i => bI (M.testBit i)))), (y9, .inl (cI, 3, .inl (fun i => nI (ls i)))), (y10, .inl (cI, 18, .inl lv)), (y11, .inl (cI, 18, .inl lx)), (y12, .inl (cI, 18, .inl ly)), (y13, .inl (cJ, 15, .inr (.inl ab))), (y14, .inl (cJ, 15, .inr (.inl bl)))]) rfl ?_
                refine v_iload F dX8_change_107 0 rfl (q := 109) rfl ?_
                exact hE rfl dX8_change_109 (Nat.zero_le _) (Nat.zero_le _) ⟨(by have hf : fChange (nI k) what v (th, sd, tp, n, sc, sp, px, py, pl, pk, N, M, ls, lv, lx, ly, ab, bl, tn) = (tp k, (th, sd, upd tp k v, n, sc, sp, px, py, pl, pk, N, M, ls, lv, lx, ly, ab, bl, tn)) := (by simp only [fChange]; rw [if_pos c11, hpk, if_neg (fun z => c46 z.1), if_pos ⟨hw1, c40⟩]); exact ⟨(wo, si, t1, t2), by rw [hf], by rw [hf]; rw [upd_self]; rfl⟩), Nat.le_of_ble_eq_true rfl⟩
            · exact absurd c72 c26
          · exact absurd c46 c26
        · skip
          rw [bI_z] at c40
          refine v_iconst F dX8_change_43 (v := (-1)) (q := 44) rfl rfl ?_
          exact hE rfl dX8_change_44 (Nat.zero_le _) (Nat.zero_le _) ⟨(by have hf : fChange (nI k) what v (th, sd, tp, n, sc, sp, px, py, pl, pk, N, M, ls, lv, lx, ly, ab, bl, tn) = (-1, (th, sd, tp, n, sc, sp, px, py, pl, pk, N, M, ls, lv, lx, ly, ab, bl, tn)) := (by exact fChange_bad (Or.inr (Or.inr (Or.inr ⟨c26, c40⟩)))); exact ⟨(wo, si, t1, t2), by rw [hf], by rw [hf]; rfl⟩), Nat.le_of_ble_eq_true rfl⟩
      · skip
        refine v_bipush F dX8_change_29 (v := 50) (q := 31) rfl rfl ?_
        refine v_goto F dX8_change_31 (tgt := 37) rfl ?_
        refine v_callS F ml_X8_54 sm_X8_in in_X8 co_X8_in sd_X8_in (c_X8_in v 0 50) ⟨Nat.zero_le _, Nat.zero_le _⟩ (Nat.le_of_ble_eq_true rfl) (Nat.le_of_ble_eq_true rfl) rfl [] rfl rfl rfl (rest := []) rfl (Nat.le_of_ble_eq_true rfl) dX8_change_37 (q := 40) rfl (fun r w hr => ?_)
        obtain ⟨rfl, rfl⟩ := hr
        refine v_ws (ws' := [(y0, .inr (8, [.int (nI n), .ref y1, .ref y2, .ref y3, .int sc, .int sp, .int (nI N), .ref y4, .ref y5, .ref y6, .ref y7, .ref y8, .ref y9, .ref y10, .ref y11, .ref y12, .int (nI tn), .ref y13, .ref y14, .long (zL wo), .long (zL si), .long (zL t1), .long (zL t2)])), (y1, .inl (cI, 6, .inl th)), (y2, .inl (cI, 6, .inl sd)), (y3, .inl (cI, 6, .inl tp)), (y4, .inl (cI, 12, .inl px)), (y5, .inl (cI, 12, .inl py)), (y6, .inl (cI, 12, .inl (fun i => nI (pl i)))), (y7, .inl (cI, 12, .inl pk)), (y8, .inl (cZ, 12, .inl (fun i => bI (M.testBit i)))), (y9, .inl (cI, 3, .inl (fun i => nI (ls i)))), (y10, .inl (cI, 18, .inl lv)), (y11, .inl (cI, 18, .inl lx)), (y12, .inl (cI, 18, .inl ly)), (y13, .inl (cJ, 15, .inr (.inl ab))), (y14, .inl (cJ, 15, .inr (.inl bl)))]) rfl ?_
        refine v_st (st' := [.int (bI (inR v 0 50))]) rfl ?_
        refine v_if_ne F dX8_change_40 (tgt := 45) rfl (q := 43) rfl (fun c40 => ?_) (fun c40 => ?_)
        · skip
          rw [bI_nz] at c40
          refine v_iload_n F dX8_change_45 (i := 2) rfl 2 rfl (q := 46) rfl ?_
          refine v_if_ne F dX8_change_46 (tgt := 58) rfl (q := 49) rfl (fun c46 => ?_) (fun c46 => ?_)
          · exact absurd c26 c46
          · skip
            refine v_aload_n F dX8_change_49 (i := 0) rfl 0 rfl (q := 50) rfl ?_
            refine gt_X8_13 F dX8_change_50 0 rfl rfl (q := 53) rfl ?_
            refine v_iload_n F dX8_change_53 (i := 1) rfl 1 rfl (q := 54) rfl ?_
            refine v_ialdN F 2 0 rfl rfl (j := k) (by omega) (by decide) dX8_change_54 (q := 55) rfl ?_
            refine v_goto F dX8_change_55 (tgt := 64) rfl ?_
            refine v_istore F dX8_change_64 (lv' := [(4, .int (sd k)), (0, .ref y0), (1, .int (nI k)), (2, .int what), (3, .int v)]) (Nat.le_of_ble_eq_true rfl) rfl (q := 66) rfl ?_
            refine v_aload_n F dX8_change_66 (i := 0) rfl 1 rfl (q := 67) rfl ?_
            refine gt_X8_13 F dX8_change_67 0 rfl rfl (q := 70) rfl ?_
            refine v_iload_n F dX8_change_70 (i := 1) rfl 2 rfl (q := 71) rfl ?_
            refine v_iload_n F dX8_change_71 (i := 2) rfl 3 rfl (q := 72) rfl ?_
            refine v_if_ne F dX8_change_72 (tgt := 79) rfl (q := 75) rfl (fun c72 => ?_) (fun c72 => ?_)
            · exact absurd c26 c72
            · skip
              refine v_iload_n F dX8_change_75 (i := 3) rfl 4 rfl (q := 76) rfl ?_
              refine v_goto F dX8_change_76 (tgt := 85) rfl ?_
              refine v_iastN F 2 0 rfl rfl (j := k) (by omega) (by decide) dX8_change_85 (q := 86) rfl ?_
              refine v_ws (ws' := [(y0, .inr (8, [.int (nI n), .ref y1, .ref y2, .ref y3, .int sc, .int sp, .int (nI N), .ref y4, .ref y5, .ref y6, .ref y7, .ref y8, .ref y9, .ref y10, .ref y11, .ref y12, .int (nI tn), .ref y13, .ref y14, .long (zL wo), .long (zL si), .long (zL t1), .long (zL t2)])), (y1, .inl (cI, 6, .inl th)), (y2, .inl (cI, 6, .inl (upd sd k v))), (y3, .inl (cI, 6, .inl tp)), (y4, .inl (cI, 12, .inl px)), (y5, .inl (cI, 12, .inl py)), (y6, .inl (cI, 12, .inl (fun i => nI (pl i)))), (y7, .inl (cI, 12, .inl pk)), (y8, .inl (cZ, 12, .inl (fun i => bI (M.testBit i)))), (y9, .inl (cI, 3, .inl (fun i => nI (ls i)))), (y10, .inl (cI, 18, .inl lv)), (y11, .inl (cI, 18, .inl lx)), (y12, .inl (cI, 18, .inl ly)), (y13, .inl (cJ, 15, .inr (.inl ab))), (y14, .inl (cJ, 15, .inr (.inl bl)))]) rfl ?_
              refine v_aload_n F dX8_change_86 (i := 0) rfl 1 rfl (q := 87) rfl ?_
              refine gt_X8_16 F dX8_change_87 0 rfl rfl (q := 90) rfl ?_
              refine v_iload_n F dX8_change_90 (i := 1) rfl 2 rfl (q := 91) rfl ?_
              refine v_iload_n F dX8_change_91 (i := 2) rfl 3 rfl (q := 92) rfl ?_
              refine v_iconst F dX8_change_92 (v := 1) (q := 93) rfl rfl ?_
              refine v_icmp_ne F dX8_change_93 (tgt := 100) rfl (q := 96) rfl (fun c93 => ?_) (fun c93 => ?_)
              · skip
                refine v_aload_n F dX8_change_100 (i := 0) rfl 1 rfl (q := 101) rfl ?_
                refine gt_X8_16 F dX8_change_101 0 rfl rfl (q := 104) rfl ?_
                refine v_iload_n F dX8_change_104 (i := 1) rfl 2 rfl (q := 105) rfl ?_
                refine v_ialdN F 3 0 rfl rfl (j := k) (by omega) (by decide) dX8_change_105 (q := 106) rfl ?_
                refine v_iastN F 3 0 rfl rfl (j := k) (by omega) (by decide) dX8_change_106 (q := 107) rfl ?_
                refine v_ws (ws' := [(y0, .inr (8, [.int (nI n), .ref y1, .ref y2, .ref y3, .int sc, .int sp, .int (nI N), .ref y4, .ref y5, .ref y6, .ref y7, .ref y8, .ref y9, .ref y10, .ref y11, .ref y12, .int (nI tn), .ref y13, .ref y14, .long (zL wo), .long (zL si), .long (zL t1), .long (zL t2)])), (y1, .inl (cI, 6, .inl th)), (y2, .inl (cI, 6, .inl (upd sd k v))), (y3, .inl (cI, 6, .inl (upd tp k (tp k)))), (y4, .inl (cI, 12, .inl px)), (y5, .inl (cI, 12, .inl py)), (y6, .inl (cI, 12, .inl (fun i => nI (pl i)))), (y7, .inl (cI, 12, .inl pk)), (y8, .inl (cZ, 12, .inl (fun i => bI (M.testBit i)))), (y9, .inl (cI, 3, .inl (fun i => nI (ls i)))), (y10, .inl (cI, 18, .inl lv)), (y11, .inl (cI, 18, .inl lx)), (y12, .inl (cI, 18, .inl ly)), (y13, .inl (cJ, 15, .inr (.inl ab))), (y14, .inl (cJ, 15, .inr (.inl bl)))]) rfl ?_
                refine v_iload F dX8_change_107 0 rfl (q := 109) rfl ?_
                exact hE rfl dX8_change_109 (Nat.zero_le _) (Nat.zero_le _) ⟨(by have hf : fChange (nI k) what v (th, sd, tp, n, sc, sp, px, py, pl, pk, N, M, ls, lv, lx, ly, ab, bl, tn) = (sd k, (th, upd sd k v, tp, n, sc, sp, px, py, pl, pk, N, M, ls, lv, lx, ly, ab, bl, tn)) := (by simp only [fChange]; rw [if_pos c11, hpk, if_pos ⟨c46, c40⟩]); exact ⟨(wo, si, t1, t2), by rw [hf], by rw [hf]; rw [upd_self]; rfl⟩), Nat.le_of_ble_eq_true rfl⟩
              · exact absurd (c26.symm.trans c93) (by decide)
        · skip
          rw [bI_z] at c40
          refine v_iconst F dX8_change_43 (v := (-1)) (q := 44) rfl rfl ?_
          exact hE rfl dX8_change_44 (Nat.zero_le _) (Nat.zero_le _) ⟨(by have hf : fChange (nI k) what v (th, sd, tp, n, sc, sp, px, py, pl, pk, N, M, ls, lv, lx, ly, ab, bl, tn) = (-1, (th, sd, tp, n, sc, sp, px, py, pl, pk, N, M, ls, lv, lx, ly, ab, bl, tn)) := (by exact fChange_bad (Or.inr (Or.inr (Or.inl ⟨c26, c40⟩)))); exact ⟨(wo, si, t1, t2), by rw [hf], by rw [hf]; rfl⟩), Nat.le_of_ble_eq_true rfl⟩

set_option maxHeartbeats 4000000 in
set_option maxRecDepth 100000 in
theorem c_X8_rule (y0 y1 y2 y3 y4 y5 y6 y7 y8 y9 y10 y11 y12 y13 y14 : Nat) (th : Nat → Int32) (sd : Nat → Int32) (tp : Nat → Int32) (n : Nat) (sc : Int32) (sp : Int32) (px : Nat → Int32) (py : Nat → Int32) (pl : Nat → Nat) (pk : Nat → Int32) (N : Nat) (M : Nat) (ls : Nat → Nat) (lv : Nat → Int32) (lx : Nat → Int32) (ly : Nat → Int32) (ab : Nat → Int64) (bl : Nat → Int64) (tn : Nat) (wo si t1 t2 : Int) (what v : Int32) (VI : INV (th, sd, tp, n, sc, sp, px, py, pl, pk, N, M, ls, lv, lx, ly, ab, bl, tn)) : Ct l D (TY cI cJ cZ) yX8_rule cX8_rule 4 (some .int) 1 22 0 0 [.ref y0, .int what, .int v] [(y0, .inr (8, [.int (nI n), .ref y1, .ref y2, .ref y3, .int sc, .int sp, .int (nI N), .ref y4, .ref y5, .ref y6, .ref y7, .ref y8, .ref y9, .ref y10, .ref y11, .ref y12, .int (nI tn), .ref y13, .ref y14, .long (zL wo), .long (zL si), .long (zL t1), .long (zL t2)])), (y1, .inl (cI, 6, .inl th)), (y2, .inl (cI, 6, .inl sd)), (y3, .inl (cI, 6, .inl tp)), (y4, .inl (cI, 12, .inl px)), (y5, .inl (cI, 12, .inl py)), (y6, .inl (cI, 12, .inl (fun i => nI (pl i)))), (y7, .inl (cI, 12, .inl pk)), (y8, .inl (cZ, 12, .inl (fun i => bI (M.testBit i)))), (y9, .inl (cI, 3, .inl (fun i => nI (ls i)))), (y10, .inl (cI, 18, .inl lv)), (y11, .inl (cI, 18, .inl lx)), (y12, .inl (cI, 18, .inl ly)), (y13, .inl (cJ, 15, .inr (.inl ab))), (y14, .inl (cJ, 15, .inr (.inl bl)))] (fun r w => ∃ X : Int × Int × Int × Int, r = some (.int (fRule what v (th, sd, tp, n, sc, sp, px, py, pl, pk, N, M, ls, lv, lx, ly, ab, bl, tn)).1) ∧ w = WM cI cJ cZ y0 y1 y2 y3 y4 y5 y6 y7 y8 y9 y10 y11 y12 y13 y14 (fRule what v (th, sd, tp, n, sc, sp, px, py, pl, pk, N, M, ls, lv, lx, ly, ab, bl, tn)).2 X) := by
  refine Ct.ofI (ty := .int) (by decide) (Nat.le_of_ble_eq_true rfl) ?_
  intro p e s m args below meth c A R Q F hnm hcs0 hE
  refine v_lv (lv' := [(0, .ref y0), (1, .int what), (2, .int v)]) [0, 1, 2] rfl ?_
  obtain ⟨G, hsp, P, hM, hls, hlv, hlx, hly, htn⟩ := id VI
  have hn6 := G.1
  have hN12 := P.1
  have hM4 : M < 4096 := Nat.lt_of_lt_of_le hM (Nat.pow_le_pow_right (by omega) hN12)
  refine v_iload_n F dX8_rule_0 (i := 1) rfl 1 rfl (q := 1) rfl ?_
  refine v_iconst F dX8_rule_1 (v := 0) (q := 2) rfl rfl ?_
  refine v_iconst F dX8_rule_2 (v := 1) (q := 3) rfl rfl ?_
  refine v_callS F ml_X8_54 sm_X8_in in_X8 co_X8_in sd_X8_in (c_X8_in what 0 1) ⟨Nat.zero_le _, Nat.zero_le _⟩ (Nat.le_of_ble_eq_true rfl) (Nat.le_of_ble_eq_true rfl) rfl [] rfl rfl rfl (rest := []) rfl (Nat.le_of_ble_eq_true rfl) dX8_rule_3 (q := 6) rfl (fun r w hr => ?_)
  obtain ⟨rfl, rfl⟩ := hr
  refine v_ws (ws' := [(y0, .inr (8, [.int (nI n), .ref y1, .ref y2, .ref y3, .int sc, .int sp, .int (nI N), .ref y4, .ref y5, .ref y6, .ref y7, .ref y8, .ref y9, .ref y10, .ref y11, .ref y12, .int (nI tn), .ref y13, .ref y14, .long (zL wo), .long (zL si), .long (zL t1), .long (zL t2)])), (y1, .inl (cI, 6, .inl th)), (y2, .inl (cI, 6, .inl sd)), (y3, .inl (cI, 6, .inl tp)), (y4, .inl (cI, 12, .inl px)), (y5, .inl (cI, 12, .inl py)), (y6, .inl (cI, 12, .inl (fun i => nI (pl i)))), (y7, .inl (cI, 12, .inl pk)), (y8, .inl (cZ, 12, .inl (fun i => bI (M.testBit i)))), (y9, .inl (cI, 3, .inl (fun i => nI (ls i)))), (y10, .inl (cI, 18, .inl lv)), (y11, .inl (cI, 18, .inl lx)), (y12, .inl (cI, 18, .inl ly)), (y13, .inl (cJ, 15, .inr (.inl ab))), (y14, .inl (cJ, 15, .inr (.inl bl)))]) rfl ?_
  refine v_st (st' := [.int (bI (inR what 0 1))]) rfl ?_
  refine v_if_eq F dX8_rule_6 (tgt := 28) rfl (q := 9) rfl (fun c6 => ?_) (fun c6 => ?_)
  · skip
    rw [bI_z] at c6
    refine v_iconst F dX8_rule_28 (v := (-1)) (q := 29) rfl rfl ?_
    exact hE rfl dX8_rule_29 (Nat.zero_le _) (Nat.zero_le _) ⟨(by have hf : fRule what v (th, sd, tp, n, sc, sp, px, py, pl, pk, N, M, ls, lv, lx, ly, ab, bl, tn) = (-1, (th, sd, tp, n, sc, sp, px, py, pl, pk, N, M, ls, lv, lx, ly, ab, bl, tn)) := (by exact fRule_bad (Or.inl c6)); exact ⟨(wo, si, t1, t2), by rw [hf], by rw [hf]; rfl⟩), Nat.le_of_ble_eq_true rfl⟩
  · skip
    rw [bI_nz] at c6
    refine v_iload_n F dX8_rule_9 (i := 2) rfl 2 rfl (q := 10) rfl ?_
    refine v_iconst F dX8_rule_10 (v := 0) (q := 11) rfl rfl ?_
    refine v_iload_n F dX8_rule_11 (i := 1) rfl 1 rfl (q := 12) rfl ?_
    refine v_if_ne F dX8_rule_12 (tgt := 20) rfl (q := 15) rfl (fun c12 => ?_) (fun c12 => ?_)
    · skip
      have hw1 := wh_1 c6 c12
      refine v_bipush F dX8_rule_20 (v := 40) (q := 22) rfl rfl ?_
      refine v_callS F ml_X8_54 sm_X8_in in_X8 co_X8_in sd_X8_in (c_X8_in v 0 40) ⟨Nat.zero_le _, Nat.zero_le _⟩ (Nat.le_of_ble_eq_true rfl) (Nat.le_of_ble_eq_true rfl) rfl [] rfl rfl rfl (rest := []) rfl (Nat.le_of_ble_eq_true rfl) dX8_rule_22 (q := 25) rfl (fun r w hr => ?_)
      obtain ⟨rfl, rfl⟩ := hr
      refine v_ws (ws' := [(y0, .inr (8, [.int (nI n), .ref y1, .ref y2, .ref y3, .int sc, .int sp, .int (nI N), .ref y4, .ref y5, .ref y6, .ref y7, .ref y8, .ref y9, .ref y10, .ref y11, .ref y12, .int (nI tn), .ref y13, .ref y14, .long (zL wo), .long (zL si), .long (zL t1), .long (zL t2)])), (y1, .inl (cI, 6, .inl th)), (y2, .inl (cI, 6, .inl sd)), (y3, .inl (cI, 6, .inl tp)), (y4, .inl (cI, 12, .inl px)), (y5, .inl (cI, 12, .inl py)), (y6, .inl (cI, 12, .inl (fun i => nI (pl i)))), (y7, .inl (cI, 12, .inl pk)), (y8, .inl (cZ, 12, .inl (fun i => bI (M.testBit i)))), (y9, .inl (cI, 3, .inl (fun i => nI (ls i)))), (y10, .inl (cI, 18, .inl lv)), (y11, .inl (cI, 18, .inl lx)), (y12, .inl (cI, 18, .inl ly)), (y13, .inl (cJ, 15, .inr (.inl ab))), (y14, .inl (cJ, 15, .inr (.inl bl)))]) rfl ?_
      refine v_st (st' := [.int (bI (inR v 0 40))]) rfl ?_
      refine v_if_ne F dX8_rule_25 (tgt := 30) rfl (q := 28) rfl (fun c25 => ?_) (fun c25 => ?_)
      · skip
        rw [bI_nz] at c25
        refine v_iload_n F dX8_rule_30 (i := 1) rfl 1 rfl (q := 31) rfl ?_
        refine v_if_ne F dX8_rule_31 (tgt := 41) rfl (q := 34) rfl (fun c31 => ?_) (fun c31 => ?_)
        · skip
          refine v_aload_n F dX8_rule_41 (i := 0) rfl 0 rfl (q := 42) rfl ?_
          refine gt_X8_65 F dX8_rule_42 0 rfl rfl (q := 45) rfl ?_
          refine v_istore_n F dX8_rule_45 (i := 3) (lv' := [(3, .int sp), (0, .ref y0), (1, .int what), (2, .int v)]) rfl (Nat.le_of_ble_eq_true rfl) rfl (q := 46) rfl ?_
          refine v_aload_n F dX8_rule_46 (i := 0) rfl 1 rfl (q := 47) rfl ?_
          refine v_iload_n F dX8_rule_47 (i := 1) rfl 2 rfl (q := 48) rfl ?_
          refine v_if_ne F dX8_rule_48 (tgt := 55) rfl (q := 51) rfl (fun c48 => ?_) (fun c48 => ?_)
          · skip
            refine v_aload_n F dX8_rule_55 (i := 0) rfl 1 rfl (q := 56) rfl ?_
            refine gt_X8_62 F dX8_rule_56 0 rfl rfl (q := 59) rfl ?_
            refine pt_X8_62 F dX8_rule_59 0 rfl (Nat.le_of_ble_eq_true rfl) (q := 62) rfl ?_
            refine v_ws (ws' := [(y0, .inr (8, [.int (nI n), .ref y1, .ref y2, .ref y3, .int sc, .int sp, .int (nI N), .ref y4, .ref y5, .ref y6, .ref y7, .ref y8, .ref y9, .ref y10, .ref y11, .ref y12, .int (nI tn), .ref y13, .ref y14, .long (zL wo), .long (zL si), .long (zL t1), .long (zL t2)])), (y1, .inl (cI, 6, .inl th)), (y2, .inl (cI, 6, .inl sd)), (y3, .inl (cI, 6, .inl tp)), (y4, .inl (cI, 12, .inl px)), (y5, .inl (cI, 12, .inl py)), (y6, .inl (cI, 12, .inl (fun i => nI (pl i)))), (y7, .inl (cI, 12, .inl pk)), (y8, .inl (cZ, 12, .inl (fun i => bI (M.testBit i)))), (y9, .inl (cI, 3, .inl (fun i => nI (ls i)))), (y10, .inl (cI, 18, .inl lv)), (y11, .inl (cI, 18, .inl lx)), (y12, .inl (cI, 18, .inl ly)), (y13, .inl (cJ, 15, .inr (.inl ab))), (y14, .inl (cJ, 15, .inr (.inl bl)))]) rfl ?_
            refine v_aload_n F dX8_rule_62 (i := 0) rfl 1 rfl (q := 63) rfl ?_
            refine v_iload_n F dX8_rule_63 (i := 1) rfl 2 rfl (q := 64) rfl ?_
            refine v_iconst F dX8_rule_64 (v := 1) (q := 65) rfl rfl ?_
            refine v_icmp_ne F dX8_rule_65 (tgt := 72) rfl (q := 68) rfl (fun c65 => ?_) (fun c65 => ?_)
            · exact absurd hw1 c65
            · skip
              refine v_iload_n F dX8_rule_68 (i := 2) rfl 3 rfl (q := 69) rfl ?_
              refine v_goto F dX8_rule_69 (tgt := 76) rfl ?_
              refine pt_X8_65 F dX8_rule_76 0 rfl (Nat.le_of_ble_eq_true rfl) (q := 79) rfl ?_
              refine v_ws (ws' := [(y0, .inr (8, [.int (nI n), .ref y1, .ref y2, .ref y3, .int sc, .int v, .int (nI N), .ref y4, .ref y5, .ref y6, .ref y7, .ref y8, .ref y9, .ref y10, .ref y11, .ref y12, .int (nI tn), .ref y13, .ref y14, .long (zL wo), .long (zL si), .long (zL t1), .long (zL t2)])), (y1, .inl (cI, 6, .inl th)), (y2, .inl (cI, 6, .inl sd)), (y3, .inl (cI, 6, .inl tp)), (y4, .inl (cI, 12, .inl px)), (y5, .inl (cI, 12, .inl py)), (y6, .inl (cI, 12, .inl (fun i => nI (pl i)))), (y7, .inl (cI, 12, .inl pk)), (y8, .inl (cZ, 12, .inl (fun i => bI (M.testBit i)))), (y9, .inl (cI, 3, .inl (fun i => nI (ls i)))), (y10, .inl (cI, 18, .inl lv)), (y11, .inl (cI, 18, .inl lx)), (y12, .inl (cI, 18, .inl ly)), (y13, .inl (cJ, 15, .inr (.inl ab))), (y14, .inl (cJ, 15, .inr (.inl bl)))]) rfl ?_
              refine v_iload_n F dX8_rule_79 (i := 3) rfl 0 rfl (q := 80) rfl ?_
              exact hE rfl dX8_rule_80 (Nat.zero_le _) (Nat.zero_le _) ⟨(by have hf : fRule what v (th, sd, tp, n, sc, sp, px, py, pl, pk, N, M, ls, lv, lx, ly, ab, bl, tn) = (sp, (th, sd, tp, n, sc, v, px, py, pl, pk, N, M, ls, lv, lx, ly, ab, bl, tn)) := (by simp only [fRule]; rw [if_neg (fun z => c31 z.1), if_pos ⟨hw1, c25⟩]); exact ⟨(wo, si, t1, t2), by rw [hf], by rw [hf]; rfl⟩), Nat.le_of_ble_eq_true rfl⟩
          · exact absurd c48 c12
        · exact absurd c31 c12
      · skip
        rw [bI_z] at c25
        refine v_iconst F dX8_rule_28 (v := (-1)) (q := 29) rfl rfl ?_
        exact hE rfl dX8_rule_29 (Nat.zero_le _) (Nat.zero_le _) ⟨(by have hf : fRule what v (th, sd, tp, n, sc, sp, px, py, pl, pk, N, M, ls, lv, lx, ly, ab, bl, tn) = (-1, (th, sd, tp, n, sc, sp, px, py, pl, pk, N, M, ls, lv, lx, ly, ab, bl, tn)) := (by exact fRule_bad (Or.inr (Or.inr ⟨c12, c25⟩))); exact ⟨(wo, si, t1, t2), by rw [hf], by rw [hf]; rfl⟩), Nat.le_of_ble_eq_true rfl⟩
    · skip
      refine v_bipush F dX8_rule_15 (v := 20) (q := 17) rfl rfl ?_
      refine v_goto F dX8_rule_17 (tgt := 22) rfl ?_
      refine v_callS F ml_X8_54 sm_X8_in in_X8 co_X8_in sd_X8_in (c_X8_in v 0 20) ⟨Nat.zero_le _, Nat.zero_le _⟩ (Nat.le_of_ble_eq_true rfl) (Nat.le_of_ble_eq_true rfl) rfl [] rfl rfl rfl (rest := []) rfl (Nat.le_of_ble_eq_true rfl) dX8_rule_22 (q := 25) rfl (fun r w hr => ?_)
      obtain ⟨rfl, rfl⟩ := hr
      refine v_ws (ws' := [(y0, .inr (8, [.int (nI n), .ref y1, .ref y2, .ref y3, .int sc, .int sp, .int (nI N), .ref y4, .ref y5, .ref y6, .ref y7, .ref y8, .ref y9, .ref y10, .ref y11, .ref y12, .int (nI tn), .ref y13, .ref y14, .long (zL wo), .long (zL si), .long (zL t1), .long (zL t2)])), (y1, .inl (cI, 6, .inl th)), (y2, .inl (cI, 6, .inl sd)), (y3, .inl (cI, 6, .inl tp)), (y4, .inl (cI, 12, .inl px)), (y5, .inl (cI, 12, .inl py)), (y6, .inl (cI, 12, .inl (fun i => nI (pl i)))), (y7, .inl (cI, 12, .inl pk)), (y8, .inl (cZ, 12, .inl (fun i => bI (M.testBit i)))), (y9, .inl (cI, 3, .inl (fun i => nI (ls i)))), (y10, .inl (cI, 18, .inl lv)), (y11, .inl (cI, 18, .inl lx)), (y12, .inl (cI, 18, .inl ly)), (y13, .inl (cJ, 15, .inr (.inl ab))), (y14, .inl (cJ, 15, .inr (.inl bl)))]) rfl ?_
      refine v_st (st' := [.int (bI (inR v 0 20))]) rfl ?_
      refine v_if_ne F dX8_rule_25 (tgt := 30) rfl (q := 28) rfl (fun c25 => ?_) (fun c25 => ?_)
      · skip
        rw [bI_nz] at c25
        refine v_iload_n F dX8_rule_30 (i := 1) rfl 1 rfl (q := 31) rfl ?_
        refine v_if_ne F dX8_rule_31 (tgt := 41) rfl (q := 34) rfl (fun c31 => ?_) (fun c31 => ?_)
        · exact absurd c12 c31
        · skip
          refine v_aload_n F dX8_rule_34 (i := 0) rfl 0 rfl (q := 35) rfl ?_
          refine gt_X8_62 F dX8_rule_35 0 rfl rfl (q := 38) rfl ?_
          refine v_goto F dX8_rule_38 (tgt := 45) rfl ?_
          refine v_istore_n F dX8_rule_45 (i := 3) (lv' := [(3, .int sc), (0, .ref y0), (1, .int what), (2, .int v)]) rfl (Nat.le_of_ble_eq_true rfl) rfl (q := 46) rfl ?_
          refine v_aload_n F dX8_rule_46 (i := 0) rfl 1 rfl (q := 47) rfl ?_
          refine v_iload_n F dX8_rule_47 (i := 1) rfl 2 rfl (q := 48) rfl ?_
          refine v_if_ne F dX8_rule_48 (tgt := 55) rfl (q := 51) rfl (fun c48 => ?_) (fun c48 => ?_)
          · exact absurd c12 c48
          · skip
            refine v_iload_n F dX8_rule_51 (i := 2) rfl 3 rfl (q := 52) rfl ?_
            refine v_goto F dX8_rule_52 (tgt := 59) rfl ?_
            refine pt_X8_62 F dX8_rule_59 0 rfl (Nat.le_of_ble_eq_true rfl) (q := 62) rfl ?_
            refine v_ws (ws' := [(y0, .inr (8, [.int (nI n), .ref y1, .ref y2, .ref y3, .int v, .int sp, .int (nI N), .ref y4, .ref y5, .ref y6, .ref y7, .ref y8, .ref y9, .ref y10, .ref y11, .ref y12, .int (nI tn), .ref y13, .ref y14, .long (zL wo), .long (zL si), .long (zL t1), .long (zL t2)])), (y1, .inl (cI, 6, .inl th)), (y2, .inl (cI, 6, .inl sd)), (y3, .inl (cI, 6, .inl tp)), (y4, .inl (cI, 12, .inl px)), (y5, .inl (cI, 12, .inl py)), (y6, .inl (cI, 12, .inl (fun i => nI (pl i)))), (y7, .inl (cI, 12, .inl pk)), (y8, .inl (cZ, 12, .inl (fun i => bI (M.testBit i)))), (y9, .inl (cI, 3, .inl (fun i => nI (ls i)))), (y10, .inl (cI, 18, .inl lv)), (y11, .inl (cI, 18, .inl lx)), (y12, .inl (cI, 18, .inl ly)), (y13, .inl (cJ, 15, .inr (.inl ab))), (y14, .inl (cJ, 15, .inr (.inl bl)))]) rfl ?_
            refine v_aload_n F dX8_rule_62 (i := 0) rfl 1 rfl (q := 63) rfl ?_
            refine v_iload_n F dX8_rule_63 (i := 1) rfl 2 rfl (q := 64) rfl ?_
            refine v_iconst F dX8_rule_64 (v := 1) (q := 65) rfl rfl ?_
            refine v_icmp_ne F dX8_rule_65 (tgt := 72) rfl (q := 68) rfl (fun c65 => ?_) (fun c65 => ?_)
            · skip
              refine v_aload_n F dX8_rule_72 (i := 0) rfl 1 rfl (q := 73) rfl ?_
              refine gt_X8_65 F dX8_rule_73 0 rfl rfl (q := 76) rfl ?_
              refine pt_X8_65 F dX8_rule_76 0 rfl (Nat.le_of_ble_eq_true rfl) (q := 79) rfl ?_
              refine v_ws (ws' := [(y0, .inr (8, [.int (nI n), .ref y1, .ref y2, .ref y3, .int v, .int sp, .int (nI N), .ref y4, .ref y5, .ref y6, .ref y7, .ref y8, .ref y9, .ref y10, .ref y11, .ref y12, .int (nI tn), .ref y13, .ref y14, .long (zL wo), .long (zL si), .long (zL t1), .long (zL t2)])), (y1, .inl (cI, 6, .inl th)), (y2, .inl (cI, 6, .inl sd)), (y3, .inl (cI, 6, .inl tp)), (y4, .inl (cI, 12, .inl px)), (y5, .inl (cI, 12, .inl py)), (y6, .inl (cI, 12, .inl (fun i => nI (pl i)))), (y7, .inl (cI, 12, .inl pk)), (y8, .inl (cZ, 12, .inl (fun i => bI (M.testBit i)))), (y9, .inl (cI, 3, .inl (fun i => nI (ls i)))), (y10, .inl (cI, 18, .inl lv)), (y11, .inl (cI, 18, .inl lx)), (y12, .inl (cI, 18, .inl ly)), (y13, .inl (cJ, 15, .inr (.inl ab))), (y14, .inl (cJ, 15, .inr (.inl bl)))]) rfl ?_
              refine v_iload_n F dX8_rule_79 (i := 3) rfl 0 rfl (q := 80) rfl ?_
              exact hE rfl dX8_rule_80 (Nat.zero_le _) (Nat.zero_le _) ⟨(by have hf : fRule what v (th, sd, tp, n, sc, sp, px, py, pl, pk, N, M, ls, lv, lx, ly, ab, bl, tn) = (sc, (th, sd, tp, n, v, sp, px, py, pl, pk, N, M, ls, lv, lx, ly, ab, bl, tn)) := (by simp only [fRule]; rw [if_pos ⟨c31, c25⟩]); exact ⟨(wo, si, t1, t2), by rw [hf], by rw [hf]; rfl⟩), Nat.le_of_ble_eq_true rfl⟩
            · exact absurd (c12.symm.trans c65) (by decide)
      · skip
        rw [bI_z] at c25
        refine v_iconst F dX8_rule_28 (v := (-1)) (q := 29) rfl rfl ?_
        exact hE rfl dX8_rule_29 (Nat.zero_le _) (Nat.zero_le _) ⟨(by have hf : fRule what v (th, sd, tp, n, sc, sp, px, py, pl, pk, N, M, ls, lv, lx, ly, ab, bl, tn) = (-1, (th, sd, tp, n, sc, sp, px, py, pl, pk, N, M, ls, lv, lx, ly, ab, bl, tn)) := (by exact fRule_bad (Or.inr (Or.inl ⟨c12, c25⟩))); exact ⟨(wo, si, t1, t2), by rw [hf], by rw [hf]; rfl⟩), Nat.le_of_ble_eq_true rfl⟩

set_option maxHeartbeats 4000000 in
set_option maxRecDepth 100000 in
theorem c_X8_pile (y0 y1 y2 y3 y4 y5 y6 y7 y8 y9 y10 y11 y12 y13 y14 : Nat) (th : Nat → Int32) (sd : Nat → Int32) (tp : Nat → Int32) (n : Nat) (sc : Int32) (sp : Int32) (px : Nat → Int32) (py : Nat → Int32) (pl : Nat → Nat) (pk : Nat → Int32) (N : Nat) (M : Nat) (ls : Nat → Nat) (lv : Nat → Int32) (lx : Nat → Int32) (ly : Nat → Int32) (ab : Nat → Int64) (bl : Nat → Int64) (tn : Nat) (wo si t1 t2 : Int) (x1 yy L1 k1 : Int32) (VI : INV (th, sd, tp, n, sc, sp, px, py, pl, pk, N, M, ls, lv, lx, ly, ab, bl, tn)) : Ct l D (TY cI cJ cZ) yX8_pile cX8_pile 5 (some .int) 2 43 0 0 [.ref y0, .int x1, .int yy, .int L1, .int k1] [(y0, .inr (8, [.int (nI n), .ref y1, .ref y2, .ref y3, .int sc, .int sp, .int (nI N), .ref y4, .ref y5, .ref y6, .ref y7, .ref y8, .ref y9, .ref y10, .ref y11, .ref y12, .int (nI tn), .ref y13, .ref y14, .long (zL wo), .long (zL si), .long (zL t1), .long (zL t2)])), (y1, .inl (cI, 6, .inl th)), (y2, .inl (cI, 6, .inl sd)), (y3, .inl (cI, 6, .inl tp)), (y4, .inl (cI, 12, .inl px)), (y5, .inl (cI, 12, .inl py)), (y6, .inl (cI, 12, .inl (fun i => nI (pl i)))), (y7, .inl (cI, 12, .inl pk)), (y8, .inl (cZ, 12, .inl (fun i => bI (M.testBit i)))), (y9, .inl (cI, 3, .inl (fun i => nI (ls i)))), (y10, .inl (cI, 18, .inl lv)), (y11, .inl (cI, 18, .inl lx)), (y12, .inl (cI, 18, .inl ly)), (y13, .inl (cJ, 15, .inr (.inl ab))), (y14, .inl (cJ, 15, .inr (.inl bl)))] (fun r w => ∃ X : Int × Int × Int × Int, r = some (.int (fPile x1 yy L1 k1 (th, sd, tp, n, sc, sp, px, py, pl, pk, N, M, ls, lv, lx, ly, ab, bl, tn)).1) ∧ w = WM cI cJ cZ y0 y1 y2 y3 y4 y5 y6 y7 y8 y9 y10 y11 y12 y13 y14 (fPile x1 yy L1 k1 (th, sd, tp, n, sc, sp, px, py, pl, pk, N, M, ls, lv, lx, ly, ab, bl, tn)).2 X) := by
  refine Ct.ofI (ty := .int) (by decide) (Nat.le_of_ble_eq_true rfl) ?_
  intro p e s m args below meth c A R Q F hnm hcs0 hE
  refine v_lv (lv' := [(0, .ref y0), (1, .int x1), (2, .int yy), (3, .int L1), (4, .int k1)]) [0, 1, 2, 3, 4] rfl ?_
  obtain ⟨G, hsp, P, hM, hls, hlv, hlx, hly, htn⟩ := id VI
  have hn6 := G.1
  have hN12 := P.1
  have hM4 : M < 4096 := Nat.lt_of_lt_of_le hM (Nat.pow_le_pow_right (by omega) hN12)
  refine v_iload_n F dX8_pile_0 (i := 1) rfl 1 rfl (q := 1) rfl ?_
  refine v_iload_n F dX8_pile_1 (i := 2) rfl 2 rfl (q := 2) rfl ?_
  refine v_callS F ml_X8_78 sm_X8_isPlace in_X8 co_X8_isPlace sd_X8_isPlace (c_X8_isPlace x1 yy) ⟨Nat.zero_le _, Nat.zero_le _⟩ (Nat.le_of_ble_eq_true rfl) (Nat.le_of_ble_eq_true rfl) rfl [] rfl rfl rfl (rest := []) rfl (Nat.le_of_ble_eq_true rfl) dX8_pile_2 (q := 5) rfl (fun r w hr => ?_)
  obtain ⟨rfl, rfl⟩ := hr
  refine v_ws (ws' := [(y0, .inr (8, [.int (nI n), .ref y1, .ref y2, .ref y3, .int sc, .int sp, .int (nI N), .ref y4, .ref y5, .ref y6, .ref y7, .ref y8, .ref y9, .ref y10, .ref y11, .ref y12, .int (nI tn), .ref y13, .ref y14, .long (zL wo), .long (zL si), .long (zL t1), .long (zL t2)])), (y1, .inl (cI, 6, .inl th)), (y2, .inl (cI, 6, .inl sd)), (y3, .inl (cI, 6, .inl tp)), (y4, .inl (cI, 12, .inl px)), (y5, .inl (cI, 12, .inl py)), (y6, .inl (cI, 12, .inl (fun i => nI (pl i)))), (y7, .inl (cI, 12, .inl pk)), (y8, .inl (cZ, 12, .inl (fun i => bI (M.testBit i)))), (y9, .inl (cI, 3, .inl (fun i => nI (ls i)))), (y10, .inl (cI, 18, .inl lv)), (y11, .inl (cI, 18, .inl lx)), (y12, .inl (cI, 18, .inl ly)), (y13, .inl (cJ, 15, .inr (.inl ab))), (y14, .inl (cJ, 15, .inr (.inl bl)))]) rfl ?_
  refine v_st (st' := [.int (bI (inR x1 (-20) 20 && inR yy (-20) 20))]) rfl ?_
  refine v_if_eq F dX8_pile_5 (tgt := 29) rfl (q := 8) rfl (fun c5 => ?_) (fun c5 => ?_)
  · skip
    rw [bI_z] at c5
    refine v_iconst F dX8_pile_29 (v := (-1)) (q := 30) rfl rfl ?_
    exact hE rfl dX8_pile_30 (Nat.zero_le _) (Nat.zero_le _) ⟨(by have hf : fPile x1 yy L1 k1 (th, sd, tp, n, sc, sp, px, py, pl, pk, N, M, ls, lv, lx, ly, ab, bl, tn) = (-1, (th, sd, tp, n, sc, sp, px, py, pl, pk, N, M, ls, lv, lx, ly, ab, bl, tn)) := (by simp [fPile, c5]); exact ⟨(wo, si, t1, t2), by rw [hf], by rw [hf]; rfl⟩), Nat.le_of_ble_eq_true rfl⟩
  · skip
    rw [bI_nz] at c5
    refine v_iload_n F dX8_pile_8 (i := 3) rfl 3 rfl (q := 9) rfl ?_
    refine v_iconst F dX8_pile_9 (v := 1) (q := 10) rfl rfl ?_
    refine v_bipush F dX8_pile_10 (v := 100) (q := 12) rfl rfl ?_
    refine v_callS F ml_X8_54 sm_X8_in in_X8 co_X8_in sd_X8_in (c_X8_in L1 1 100) ⟨Nat.zero_le _, Nat.zero_le _⟩ (Nat.le_of_ble_eq_true rfl) (Nat.le_of_ble_eq_true rfl) rfl [] rfl rfl rfl (rest := []) rfl (Nat.le_of_ble_eq_true rfl) dX8_pile_12 (q := 15) rfl (fun r w hr => ?_)
    obtain ⟨rfl, rfl⟩ := hr
    refine v_ws (ws' := [(y0, .inr (8, [.int (nI n), .ref y1, .ref y2, .ref y3, .int sc, .int sp, .int (nI N), .ref y4, .ref y5, .ref y6, .ref y7, .ref y8, .ref y9, .ref y10, .ref y11, .ref y12, .int (nI tn), .ref y13, .ref y14, .long (zL wo), .long (zL si), .long (zL t1), .long (zL t2)])), (y1, .inl (cI, 6, .inl th)), (y2, .inl (cI, 6, .inl sd)), (y3, .inl (cI, 6, .inl tp)), (y4, .inl (cI, 12, .inl px)), (y5, .inl (cI, 12, .inl py)), (y6, .inl (cI, 12, .inl (fun i => nI (pl i)))), (y7, .inl (cI, 12, .inl pk)), (y8, .inl (cZ, 12, .inl (fun i => bI (M.testBit i)))), (y9, .inl (cI, 3, .inl (fun i => nI (ls i)))), (y10, .inl (cI, 18, .inl lv)), (y11, .inl (cI, 18, .inl lx)), (y12, .inl (cI, 18, .inl ly)), (y13, .inl (cJ, 15, .inr (.inl ab))), (y14, .inl (cJ, 15, .inr (.inl bl)))]) rfl ?_
    refine v_st (st' := [.int (bI (inR L1 1 100))]) rfl ?_
    refine v_if_eq F dX8_pile_15 (tgt := 29) rfl (q := 18) rfl (fun c15 => ?_) (fun c15 => ?_)
    · skip
      rw [bI_z] at c15
      refine v_iconst F dX8_pile_29 (v := (-1)) (q := 30) rfl rfl ?_
      exact hE rfl dX8_pile_30 (Nat.zero_le _) (Nat.zero_le _) ⟨(by have hf : fPile x1 yy L1 k1 (th, sd, tp, n, sc, sp, px, py, pl, pk, N, M, ls, lv, lx, ly, ab, bl, tn) = (-1, (th, sd, tp, n, sc, sp, px, py, pl, pk, N, M, ls, lv, lx, ly, ab, bl, tn)) := (by simp [fPile, c5, c15]); exact ⟨(wo, si, t1, t2), by rw [hf], by rw [hf]; rfl⟩), Nat.le_of_ble_eq_true rfl⟩
    · skip
      rw [bI_nz] at c15
      refine v_iload F dX8_pile_18 4 rfl (q := 20) rfl ?_
      refine v_iconst F dX8_pile_20 (v := 1) (q := 21) rfl rfl ?_
      refine v_bipush F dX8_pile_21 (v := 20) (q := 23) rfl rfl ?_
      refine v_callS F ml_X8_54 sm_X8_in in_X8 co_X8_in sd_X8_in (c_X8_in k1 1 20) ⟨Nat.zero_le _, Nat.zero_le _⟩ (Nat.le_of_ble_eq_true rfl) (Nat.le_of_ble_eq_true rfl) rfl [] rfl rfl rfl (rest := []) rfl (Nat.le_of_ble_eq_true rfl) dX8_pile_23 (q := 26) rfl (fun r w hr => ?_)
      obtain ⟨rfl, rfl⟩ := hr
      refine v_ws (ws' := [(y0, .inr (8, [.int (nI n), .ref y1, .ref y2, .ref y3, .int sc, .int sp, .int (nI N), .ref y4, .ref y5, .ref y6, .ref y7, .ref y8, .ref y9, .ref y10, .ref y11, .ref y12, .int (nI tn), .ref y13, .ref y14, .long (zL wo), .long (zL si), .long (zL t1), .long (zL t2)])), (y1, .inl (cI, 6, .inl th)), (y2, .inl (cI, 6, .inl sd)), (y3, .inl (cI, 6, .inl tp)), (y4, .inl (cI, 12, .inl px)), (y5, .inl (cI, 12, .inl py)), (y6, .inl (cI, 12, .inl (fun i => nI (pl i)))), (y7, .inl (cI, 12, .inl pk)), (y8, .inl (cZ, 12, .inl (fun i => bI (M.testBit i)))), (y9, .inl (cI, 3, .inl (fun i => nI (ls i)))), (y10, .inl (cI, 18, .inl lv)), (y11, .inl (cI, 18, .inl lx)), (y12, .inl (cI, 18, .inl ly)), (y13, .inl (cJ, 15, .inr (.inl ab))), (y14, .inl (cJ, 15, .inr (.inl bl)))]) rfl ?_
      refine v_st (st' := [.int (bI (inR k1 1 20))]) rfl ?_
      refine v_if_ne F dX8_pile_26 (tgt := 31) rfl (q := 29) rfl (fun c26 => ?_) (fun c26 => ?_)
      · skip
        rw [bI_nz] at c26
        refine v_aload_n F dX8_pile_31 (i := 0) rfl 0 rfl (q := 32) rfl ?_
        refine gt_X8_75 F dX8_pile_32 0 rfl rfl (q := 35) rfl ?_
        refine v_bipush F dX8_pile_35 (v := 12) (q := 37) rfl rfl ?_
        refine v_icmp_ne F dX8_pile_37 (tgt := 43) rfl (q := 40) rfl (fun c37 => ?_) (fun c37 => ?_)
        · skip
          have c37 : ¬ N = 12 := fun q => c37 (by rw [q]; rfl)
          obtain ⟨kL, hkL1, hkL2, rfl⟩ := len_ex c15
          have hpk : pN (nI kL) = kL := pN_nI (by omega)
          refine v_aload_n F dX8_pile_43 (i := 0) rfl 0 rfl (q := 44) rfl ?_
          refine gt_X8_19 F dX8_pile_44 0 rfl rfl (q := 47) rfl ?_
          refine v_aload_n F dX8_pile_47 (i := 0) rfl 0 rfl (q := 48) rfl ?_
          refine gt_X8_75 F dX8_pile_48 0 rfl rfl (q := 51) rfl ?_
          refine v_iload_n F dX8_pile_51 (i := 1) rfl 1 rfl (q := 52) rfl ?_
          refine v_iastN F 4 0 rfl rfl (j := N) (by omega) (by decide) dX8_pile_52 (q := 53) rfl ?_
          refine v_ws (ws' := [(y0, .inr (8, [.int (nI n), .ref y1, .ref y2, .ref y3, .int sc, .int sp, .int (nI N), .ref y4, .ref y5, .ref y6, .ref y7, .ref y8, .ref y9, .ref y10, .ref y11, .ref y12, .int (nI tn), .ref y13, .ref y14, .long (zL wo), .long (zL si), .long (zL t1), .long (zL t2)])), (y1, .inl (cI, 6, .inl th)), (y2, .inl (cI, 6, .inl sd)), (y3, .inl (cI, 6, .inl tp)), (y4, .inl (cI, 12, .inl (upd px N x1))), (y5, .inl (cI, 12, .inl py)), (y6, .inl (cI, 12, .inl (fun i => nI (pl i)))), (y7, .inl (cI, 12, .inl pk)), (y8, .inl (cZ, 12, .inl (fun i => bI (M.testBit i)))), (y9, .inl (cI, 3, .inl (fun i => nI (ls i)))), (y10, .inl (cI, 18, .inl lv)), (y11, .inl (cI, 18, .inl lx)), (y12, .inl (cI, 18, .inl ly)), (y13, .inl (cJ, 15, .inr (.inl ab))), (y14, .inl (cJ, 15, .inr (.inl bl)))]) rfl ?_
          refine v_aload_n F dX8_pile_53 (i := 0) rfl 0 rfl (q := 54) rfl ?_
          refine gt_X8_22 F dX8_pile_54 0 rfl rfl (q := 57) rfl ?_
          refine v_aload_n F dX8_pile_57 (i := 0) rfl 0 rfl (q := 58) rfl ?_
          refine gt_X8_75 F dX8_pile_58 0 rfl rfl (q := 61) rfl ?_
          refine v_iload_n F dX8_pile_61 (i := 2) rfl 2 rfl (q := 62) rfl ?_
          refine v_iastN F 5 0 rfl rfl (j := N) (by omega) (by decide) dX8_pile_62 (q := 63) rfl ?_
          refine v_ws (ws' := [(y0, .inr (8, [.int (nI n), .ref y1, .ref y2, .ref y3, .int sc, .int sp, .int (nI N), .ref y4, .ref y5, .ref y6, .ref y7, .ref y8, .ref y9, .ref y10, .ref y11, .ref y12, .int (nI tn), .ref y13, .ref y14, .long (zL wo), .long (zL si), .long (zL t1), .long (zL t2)])), (y1, .inl (cI, 6, .inl th)), (y2, .inl (cI, 6, .inl sd)), (y3, .inl (cI, 6, .inl tp)), (y4, .inl (cI, 12, .inl (upd px N x1))), (y5, .inl (cI, 12, .inl (upd py N yy))), (y6, .inl (cI, 12, .inl (fun i => nI (pl i)))), (y7, .inl (cI, 12, .inl pk)), (y8, .inl (cZ, 12, .inl (fun i => bI (M.testBit i)))), (y9, .inl (cI, 3, .inl (fun i => nI (ls i)))), (y10, .inl (cI, 18, .inl lv)), (y11, .inl (cI, 18, .inl lx)), (y12, .inl (cI, 18, .inl ly)), (y13, .inl (cJ, 15, .inr (.inl ab))), (y14, .inl (cJ, 15, .inr (.inl bl)))]) rfl ?_
          refine v_aload_n F dX8_pile_63 (i := 0) rfl 0 rfl (q := 64) rfl ?_
          refine gt_X8_25 F dX8_pile_64 0 rfl rfl (q := 67) rfl ?_
          refine v_aload_n F dX8_pile_67 (i := 0) rfl 0 rfl (q := 68) rfl ?_
          refine gt_X8_75 F dX8_pile_68 0 rfl rfl (q := 71) rfl ?_
          refine v_iload_n F dX8_pile_71 (i := 3) rfl 3 rfl (q := 72) rfl ?_
          refine v_iastN F 6 0 rfl rfl (j := N) (by omega) (by decide) dX8_pile_72 (q := 73) rfl ?_
          refine v_ws (ws' := [(y0, .inr (8, [.int (nI n), .ref y1, .ref y2, .ref y3, .int sc, .int sp, .int (nI N), .ref y4, .ref y5, .ref y6, .ref y7, .ref y8, .ref y9, .ref y10, .ref y11, .ref y12, .int (nI tn), .ref y13, .ref y14, .long (zL wo), .long (zL si), .long (zL t1), .long (zL t2)])), (y1, .inl (cI, 6, .inl th)), (y2, .inl (cI, 6, .inl sd)), (y3, .inl (cI, 6, .inl tp)), (y4, .inl (cI, 12, .inl (upd px N x1))), (y5, .inl (cI, 12, .inl (upd py N yy))), (y6, .inl (cI, 12, .inl (upd (fun i => nI (pl i)) N (nI kL)))), (y7, .inl (cI, 12, .inl pk)), (y8, .inl (cZ, 12, .inl (fun i => bI (M.testBit i)))), (y9, .inl (cI, 3, .inl (fun i => nI (ls i)))), (y10, .inl (cI, 18, .inl lv)), (y11, .inl (cI, 18, .inl lx)), (y12, .inl (cI, 18, .inl ly)), (y13, .inl (cJ, 15, .inr (.inl ab))), (y14, .inl (cJ, 15, .inr (.inl bl)))]) rfl ?_
          refine v_aload_n F dX8_pile_73 (i := 0) rfl 0 rfl (q := 74) rfl ?_
          refine gt_X8_28 F dX8_pile_74 0 rfl rfl (q := 77) rfl ?_
          refine v_aload_n F dX8_pile_77 (i := 0) rfl 0 rfl (q := 78) rfl ?_
          refine gt_X8_75 F dX8_pile_78 0 rfl rfl (q := 81) rfl ?_
          refine v_iload F dX8_pile_81 4 rfl (q := 83) rfl ?_
          refine v_iastN F 7 0 rfl rfl (j := N) (by omega) (by decide) dX8_pile_83 (q := 84) rfl ?_
          refine v_ws (ws' := [(y0, .inr (8, [.int (nI n), .ref y1, .ref y2, .ref y3, .int sc, .int sp, .int (nI N), .ref y4, .ref y5, .ref y6, .ref y7, .ref y8, .ref y9, .ref y10, .ref y11, .ref y12, .int (nI tn), .ref y13, .ref y14, .long (zL wo), .long (zL si), .long (zL t1), .long (zL t2)])), (y1, .inl (cI, 6, .inl th)), (y2, .inl (cI, 6, .inl sd)), (y3, .inl (cI, 6, .inl tp)), (y4, .inl (cI, 12, .inl (upd px N x1))), (y5, .inl (cI, 12, .inl (upd py N yy))), (y6, .inl (cI, 12, .inl (upd (fun i => nI (pl i)) N (nI kL)))), (y7, .inl (cI, 12, .inl (upd pk N k1))), (y8, .inl (cZ, 12, .inl (fun i => bI (M.testBit i)))), (y9, .inl (cI, 3, .inl (fun i => nI (ls i)))), (y10, .inl (cI, 18, .inl lv)), (y11, .inl (cI, 18, .inl lx)), (y12, .inl (cI, 18, .inl ly)), (y13, .inl (cJ, 15, .inr (.inl ab))), (y14, .inl (cJ, 15, .inr (.inl bl)))]) rfl ?_
          refine v_aload_n F dX8_pile_84 (i := 0) rfl 0 rfl (q := 85) rfl ?_
          refine gt_X8_31 F dX8_pile_85 0 rfl rfl (q := 88) rfl ?_
          refine v_aload_n F dX8_pile_88 (i := 0) rfl 0 rfl (q := 89) rfl ?_
          refine gt_X8_75 F dX8_pile_89 0 rfl rfl (q := 92) rfl ?_
          refine v_iconst F dX8_pile_92 (v := 1) (q := 93) rfl rfl ?_
          refine v_zastN F 8 2 rfl rfl (j := N) rfl (by omega) (by decide) dX8_pile_93 (q := 94) rfl ?_
          refine v_ws (ws' := [(y0, .inr (8, [.int (nI n), .ref y1, .ref y2, .ref y3, .int sc, .int sp, .int (nI N), .ref y4, .ref y5, .ref y6, .ref y7, .ref y8, .ref y9, .ref y10, .ref y11, .ref y12, .int (nI tn), .ref y13, .ref y14, .long (zL wo), .long (zL si), .long (zL t1), .long (zL t2)])), (y1, .inl (cI, 6, .inl th)), (y2, .inl (cI, 6, .inl sd)), (y3, .inl (cI, 6, .inl tp)), (y4, .inl (cI, 12, .inl (upd px N x1))), (y5, .inl (cI, 12, .inl (upd py N yy))), (y6, .inl (cI, 12, .inl (upd (fun i => nI (pl i)) N (nI kL)))), (y7, .inl (cI, 12, .inl (upd pk N k1))), (y8, .inl (cZ, 12, .inl (upd (fun i => bI (M.testBit i)) N 1))), (y9, .inl (cI, 3, .inl (fun i => nI (ls i)))), (y10, .inl (cI, 18, .inl lv)), (y11, .inl (cI, 18, .inl lx)), (y12, .inl (cI, 18, .inl ly)), (y13, .inl (cJ, 15, .inr (.inl ab))), (y14, .inl (cJ, 15, .inr (.inl bl)))]) rfl ?_
          refine v_aload_n F dX8_pile_94 (i := 0) rfl 0 rfl (q := 95) rfl ?_
          refine v_dup F dX8_pile_95 rfl (q := 96) rfl ?_
          refine gt_X8_75 F dX8_pile_96 0 rfl rfl (q := 99) rfl ?_
          refine v_iconst F dX8_pile_99 (v := 1) (q := 100) rfl rfl ?_
          refine v_iadd F dX8_pile_100 (q := 101) rfl ?_
          refine v_int (y := nI (N + 1)) (nI_1 N) ?_
          refine pt_X8_75 F dX8_pile_101 0 rfl (Nat.le_of_ble_eq_true rfl) (q := 104) rfl ?_
          refine v_ws (ws' := [(y0, .inr (8, [.int (nI n), .ref y1, .ref y2, .ref y3, .int sc, .int sp, .int (nI (N + 1)), .ref y4, .ref y5, .ref y6, .ref y7, .ref y8, .ref y9, .ref y10, .ref y11, .ref y12, .int (nI tn), .ref y13, .ref y14, .long (zL wo), .long (zL si), .long (zL t1), .long (zL t2)])), (y1, .inl (cI, 6, .inl th)), (y2, .inl (cI, 6, .inl sd)), (y3, .inl (cI, 6, .inl tp)), (y4, .inl (cI, 12, .inl (upd px N x1))), (y5, .inl (cI, 12, .inl (upd py N yy))), (y6, .inl (cI, 12, .inl (upd (fun i => nI (pl i)) N (nI kL)))), (y7, .inl (cI, 12, .inl (upd pk N k1))), (y8, .inl (cZ, 12, .inl (upd (fun i => bI (M.testBit i)) N 1))), (y9, .inl (cI, 3, .inl (fun i => nI (ls i)))), (y10, .inl (cI, 18, .inl lv)), (y11, .inl (cI, 18, .inl lx)), (y12, .inl (cI, 18, .inl ly)), (y13, .inl (cJ, 15, .inr (.inl ab))), (y14, .inl (cJ, 15, .inr (.inl bl)))]) rfl ?_
          refine v_aload_n F dX8_pile_104 (i := 0) rfl 0 rfl (q := 105) rfl ?_
          refine gt_X8_75 F dX8_pile_105 0 rfl rfl (q := 108) rfl ?_
          refine v_iconst F dX8_pile_108 (v := 1) (q := 109) rfl rfl ?_
          refine v_isub F dX8_pile_109 (q := 110) rfl ?_
          refine v_int (y := nI N) (nI_pred N) ?_
          exact hE rfl dX8_pile_110 (Nat.zero_le _) (Nat.zero_le _) ⟨(by have hf : fPile x1 yy (nI kL) k1 (th, sd, tp, n, sc, sp, px, py, pl, pk, N, M, ls, lv, lx, ly, ab, bl, tn) = (nI N, (th, sd, tp, n, sc, sp, upd px N x1, upd py N yy, updN pl N kL, upd pk N k1, N + 1, mset M N true, ls, lv, lx, ly, ab, bl, tn)) := (by simp [fPile, c5, c15, c26, c37, hpk]); exact ⟨(wo, si, t1, t2), by rw [hf], by rw [hf]; rw [upd_nI, show upd (fun i => bI (M.testBit i)) N 1 = _ from wh_set (v := true)]; rfl⟩), Nat.le_of_ble_eq_true rfl⟩
        · skip
          have c37 : N = 12 := (nI_eq (b := 12) (by omega) (by omega)).mp c37
          refine v_bipush F dX8_pile_40 (v := (-3)) (q := 42) rfl rfl ?_
          exact hE rfl dX8_pile_42 (Nat.zero_le _) (Nat.zero_le _) ⟨(by have hf : fPile x1 yy L1 k1 (th, sd, tp, n, sc, sp, px, py, pl, pk, N, M, ls, lv, lx, ly, ab, bl, tn) = (-3, (th, sd, tp, n, sc, sp, px, py, pl, pk, N, M, ls, lv, lx, ly, ab, bl, tn)) := (by simp [fPile, c5, c15, c26, c37]); exact ⟨(wo, si, t1, t2), by rw [hf], by rw [hf]; rfl⟩), Nat.le_of_ble_eq_true rfl⟩
      · skip
        rw [bI_z] at c26
        refine v_iconst F dX8_pile_29 (v := (-1)) (q := 30) rfl rfl ?_
        exact hE rfl dX8_pile_30 (Nat.zero_le _) (Nat.zero_le _) ⟨(by have hf : fPile x1 yy L1 k1 (th, sd, tp, n, sc, sp, px, py, pl, pk, N, M, ls, lv, lx, ly, ab, bl, tn) = (-1, (th, sd, tp, n, sc, sp, px, py, pl, pk, N, M, ls, lv, lx, ly, ab, bl, tn)) := (by simp [fPile, c5, c15, c26]); exact ⟨(wo, si, t1, t2), by rw [hf], by rw [hf]; rfl⟩), Nat.le_of_ble_eq_true rfl⟩

set_option maxHeartbeats 4000000 in
set_option maxRecDepth 100000 in
theorem c_X8_shift (y0 y1 y2 y3 y4 y5 y6 y7 y8 y9 y10 y11 y12 y13 y14 : Nat) (th : Nat → Int32) (sd : Nat → Int32) (tp : Nat → Int32) (n : Nat) (sc : Int32) (sp : Int32) (px : Nat → Int32) (py : Nat → Int32) (pl : Nat → Nat) (pk : Nat → Int32) (N : Nat) (M : Nat) (ls : Nat → Nat) (lv : Nat → Int32) (lx : Nat → Int32) (ly : Nat → Int32) (ab : Nat → Int64) (bl : Nat → Int64) (tn : Nat) (wo si t1 t2 : Int) (p0 x1 yy : Int32) (VI : INV (th, sd, tp, n, sc, sp, px, py, pl, pk, N, M, ls, lv, lx, ly, ab, bl, tn)) : Ct l D (TY cI cJ cZ) yX8_shift cX8_shift 4 (some .int) 2 43 0 0 [.ref y0, .int p0, .int x1, .int yy] [(y0, .inr (8, [.int (nI n), .ref y1, .ref y2, .ref y3, .int sc, .int sp, .int (nI N), .ref y4, .ref y5, .ref y6, .ref y7, .ref y8, .ref y9, .ref y10, .ref y11, .ref y12, .int (nI tn), .ref y13, .ref y14, .long (zL wo), .long (zL si), .long (zL t1), .long (zL t2)])), (y1, .inl (cI, 6, .inl th)), (y2, .inl (cI, 6, .inl sd)), (y3, .inl (cI, 6, .inl tp)), (y4, .inl (cI, 12, .inl px)), (y5, .inl (cI, 12, .inl py)), (y6, .inl (cI, 12, .inl (fun i => nI (pl i)))), (y7, .inl (cI, 12, .inl pk)), (y8, .inl (cZ, 12, .inl (fun i => bI (M.testBit i)))), (y9, .inl (cI, 3, .inl (fun i => nI (ls i)))), (y10, .inl (cI, 18, .inl lv)), (y11, .inl (cI, 18, .inl lx)), (y12, .inl (cI, 18, .inl ly)), (y13, .inl (cJ, 15, .inr (.inl ab))), (y14, .inl (cJ, 15, .inr (.inl bl)))] (fun r w => ∃ X : Int × Int × Int × Int, r = some (.int (fShift p0 x1 yy (th, sd, tp, n, sc, sp, px, py, pl, pk, N, M, ls, lv, lx, ly, ab, bl, tn)).1) ∧ w = WM cI cJ cZ y0 y1 y2 y3 y4 y5 y6 y7 y8 y9 y10 y11 y12 y13 y14 (fShift p0 x1 yy (th, sd, tp, n, sc, sp, px, py, pl, pk, N, M, ls, lv, lx, ly, ab, bl, tn)).2 X) := by
  refine Ct.ofI (ty := .int) (by decide) (Nat.le_of_ble_eq_true rfl) ?_
  intro p e s m args below meth c A R Q F hnm hcs0 hE
  refine v_lv (lv' := [(0, .ref y0), (1, .int p0), (2, .int x1), (3, .int yy)]) [0, 1, 2, 3] rfl ?_
  obtain ⟨G, hsp, P, hM, hls, hlv, hlx, hly, htn⟩ := id VI
  have hn6 := G.1
  have hN12 := P.1
  have hM4 : M < 4096 := Nat.lt_of_lt_of_le hM (Nat.pow_le_pow_right (by omega) hN12)
  refine v_aload_n F dX8_shift_0 (i := 0) rfl 0 rfl (q := 1) rfl ?_
  refine v_iload_n F dX8_shift_1 (i := 1) rfl 1 rfl (q := 2) rfl ?_
  refine v_callV F ml_X8_82 im_X8_isPile se_X8_isPile in_X8 co_X8_isPile sd_X8_isPile (c_X8_isPile y0 y1 y2 y3 y4 y5 y6 y7 y8 y9 y10 y11 y12 y13 y14 th sd tp n sc sp px py pl pk N M ls lv lx ly ab bl tn wo si t1 t2 p0 ⟨G, hsp, P, hM, hls, hlv, hlx, hly, by omega⟩ ) ⟨Nat.zero_le _, Nat.zero_le _⟩ (Nat.le_of_ble_eq_true rfl) (Nat.le_of_ble_eq_true rfl) 0 (As := [.int p0]) rfl rfl rfl rfl rfl [0, 1, 2, 3, 4, 5, 6, 7, 8, 9, 10, 11, 12, 13, 14] rfl nd15 vnd15 (rest := []) rfl (Nat.le_of_ble_eq_true rfl) dX8_shift_2 (q := 5) rfl (fun r w hr => ?_)
  obtain ⟨rfl, rfl⟩ := hr
  refine v_ws (ws' := [(y0, .inr (8, [.int (nI n), .ref y1, .ref y2, .ref y3, .int sc, .int sp, .int (nI N), .ref y4, .ref y5, .ref y6, .ref y7, .ref y8, .ref y9, .ref y10, .ref y11, .ref y12, .int (nI tn), .ref y13, .ref y14, .long (zL wo), .long (zL si), .long (zL t1), .long (zL t2)])), (y1, .inl (cI, 6, .inl th)), (y2, .inl (cI, 6, .inl sd)), (y3, .inl (cI, 6, .inl tp)), (y4, .inl (cI, 12, .inl px)), (y5, .inl (cI, 12, .inl py)), (y6, .inl (cI, 12, .inl (fun i => nI (pl i)))), (y7, .inl (cI, 12, .inl pk)), (y8, .inl (cZ, 12, .inl (fun i => bI (M.testBit i)))), (y9, .inl (cI, 3, .inl (fun i => nI (ls i)))), (y10, .inl (cI, 18, .inl lv)), (y11, .inl (cI, 18, .inl lx)), (y12, .inl (cI, 18, .inl ly)), (y13, .inl (cJ, 15, .inr (.inl ab))), (y14, .inl (cJ, 15, .inr (.inl bl)))]) ((wset_wgo (nodup_of nd15) rfl).trans rfl) ?_
  refine v_st (st' := [.int (bI (hasB p0 N))]) rfl ?_
  refine v_if_eq F dX8_shift_5 (tgt := 16) rfl (q := 8) rfl (fun c5 => ?_) (fun c5 => ?_)
  · skip
    rw [bI_z] at c5
    refine v_iconst F dX8_shift_16 (v := (-1)) (q := 17) rfl rfl ?_
    exact hE rfl dX8_shift_17 (Nat.zero_le _) (Nat.zero_le _) ⟨(by have hf : fShift p0 x1 yy (th, sd, tp, n, sc, sp, px, py, pl, pk, N, M, ls, lv, lx, ly, ab, bl, tn) = (-1, (th, sd, tp, n, sc, sp, px, py, pl, pk, N, M, ls, lv, lx, ly, ab, bl, tn)) := (by simp [fShift, c5]); exact ⟨(wo, si, t1, t2), by rw [hf], by rw [hf]; rfl⟩), Nat.le_of_ble_eq_true rfl⟩
  · skip
    rw [bI_nz] at c5
    obtain ⟨k, hk, rfl⟩ := hasB_ex c5
    have hpk := pN_nI (k := k) (by omega)
    refine v_iload_n F dX8_shift_8 (i := 2) rfl 2 rfl (q := 9) rfl ?_
    refine v_iload_n F dX8_shift_9 (i := 3) rfl 3 rfl (q := 10) rfl ?_
    refine v_callS F ml_X8_78 sm_X8_isPlace in_X8 co_X8_isPlace sd_X8_isPlace (c_X8_isPlace x1 yy) ⟨Nat.zero_le _, Nat.zero_le _⟩ (Nat.le_of_ble_eq_true rfl) (Nat.le_of_ble_eq_true rfl) rfl [] rfl rfl rfl (rest := []) rfl (Nat.le_of_ble_eq_true rfl) dX8_shift_10 (q := 13) rfl (fun r w hr => ?_)
    obtain ⟨rfl, rfl⟩ := hr
    refine v_ws (ws' := [(y0, .inr (8, [.int (nI n), .ref y1, .ref y2, .ref y3, .int sc, .int sp, .int (nI N), .ref y4, .ref y5, .ref y6, .ref y7, .ref y8, .ref y9, .ref y10, .ref y11, .ref y12, .int (nI tn), .ref y13, .ref y14, .long (zL wo), .long (zL si), .long (zL t1), .long (zL t2)])), (y1, .inl (cI, 6, .inl th)), (y2, .inl (cI, 6, .inl sd)), (y3, .inl (cI, 6, .inl tp)), (y4, .inl (cI, 12, .inl px)), (y5, .inl (cI, 12, .inl py)), (y6, .inl (cI, 12, .inl (fun i => nI (pl i)))), (y7, .inl (cI, 12, .inl pk)), (y8, .inl (cZ, 12, .inl (fun i => bI (M.testBit i)))), (y9, .inl (cI, 3, .inl (fun i => nI (ls i)))), (y10, .inl (cI, 18, .inl lv)), (y11, .inl (cI, 18, .inl lx)), (y12, .inl (cI, 18, .inl ly)), (y13, .inl (cJ, 15, .inr (.inl ab))), (y14, .inl (cJ, 15, .inr (.inl bl)))]) rfl ?_
    refine v_st (st' := [.int (bI (inR x1 (-20) 20 && inR yy (-20) 20))]) rfl ?_
    refine v_if_ne F dX8_shift_13 (tgt := 18) rfl (q := 16) rfl (fun c13 => ?_) (fun c13 => ?_)
    · skip
      rw [bI_nz] at c13
      refine v_aload_n F dX8_shift_18 (i := 0) rfl 0 rfl (q := 19) rfl ?_
      refine gt_X8_19 F dX8_shift_19 0 rfl rfl (q := 22) rfl ?_
      refine v_iload_n F dX8_shift_22 (i := 1) rfl 1 rfl (q := 23) rfl ?_
      refine v_iload_n F dX8_shift_23 (i := 2) rfl 2 rfl (q := 24) rfl ?_
      refine v_iastN F 4 0 rfl rfl (j := k) (by omega) (by decide) dX8_shift_24 (q := 25) rfl ?_
      refine v_ws (ws' := [(y0, .inr (8, [.int (nI n), .ref y1, .ref y2, .ref y3, .int sc, .int sp, .int (nI N), .ref y4, .ref y5, .ref y6, .ref y7, .ref y8, .ref y9, .ref y10, .ref y11, .ref y12, .int (nI tn), .ref y13, .ref y14, .long (zL wo), .long (zL si), .long (zL t1), .long (zL t2)])), (y1, .inl (cI, 6, .inl th)), (y2, .inl (cI, 6, .inl sd)), (y3, .inl (cI, 6, .inl tp)), (y4, .inl (cI, 12, .inl (upd px k x1))), (y5, .inl (cI, 12, .inl py)), (y6, .inl (cI, 12, .inl (fun i => nI (pl i)))), (y7, .inl (cI, 12, .inl pk)), (y8, .inl (cZ, 12, .inl (fun i => bI (M.testBit i)))), (y9, .inl (cI, 3, .inl (fun i => nI (ls i)))), (y10, .inl (cI, 18, .inl lv)), (y11, .inl (cI, 18, .inl lx)), (y12, .inl (cI, 18, .inl ly)), (y13, .inl (cJ, 15, .inr (.inl ab))), (y14, .inl (cJ, 15, .inr (.inl bl)))]) rfl ?_
      refine v_aload_n F dX8_shift_25 (i := 0) rfl 0 rfl (q := 26) rfl ?_
      refine gt_X8_22 F dX8_shift_26 0 rfl rfl (q := 29) rfl ?_
      refine v_iload_n F dX8_shift_29 (i := 1) rfl 1 rfl (q := 30) rfl ?_
      refine v_iload_n F dX8_shift_30 (i := 3) rfl 3 rfl (q := 31) rfl ?_
      refine v_iastN F 5 0 rfl rfl (j := k) (by omega) (by decide) dX8_shift_31 (q := 32) rfl ?_
      refine v_ws (ws' := [(y0, .inr (8, [.int (nI n), .ref y1, .ref y2, .ref y3, .int sc, .int sp, .int (nI N), .ref y4, .ref y5, .ref y6, .ref y7, .ref y8, .ref y9, .ref y10, .ref y11, .ref y12, .int (nI tn), .ref y13, .ref y14, .long (zL wo), .long (zL si), .long (zL t1), .long (zL t2)])), (y1, .inl (cI, 6, .inl th)), (y2, .inl (cI, 6, .inl sd)), (y3, .inl (cI, 6, .inl tp)), (y4, .inl (cI, 12, .inl (upd px k x1))), (y5, .inl (cI, 12, .inl (upd py k yy))), (y6, .inl (cI, 12, .inl (fun i => nI (pl i)))), (y7, .inl (cI, 12, .inl pk)), (y8, .inl (cZ, 12, .inl (fun i => bI (M.testBit i)))), (y9, .inl (cI, 3, .inl (fun i => nI (ls i)))), (y10, .inl (cI, 18, .inl lv)), (y11, .inl (cI, 18, .inl lx)), (y12, .inl (cI, 18, .inl ly)), (y13, .inl (cJ, 15, .inr (.inl ab))), (y14, .inl (cJ, 15, .inr (.inl bl)))]) rfl ?_
      refine v_iconst F dX8_shift_32 (v := 0) (q := 33) rfl rfl ?_
      exact hE rfl dX8_shift_33 (Nat.zero_le _) (Nat.zero_le _) ⟨(by have hf : fShift (nI k) x1 yy (th, sd, tp, n, sc, sp, px, py, pl, pk, N, M, ls, lv, lx, ly, ab, bl, tn) = (0, (th, sd, tp, n, sc, sp, upd px k x1, upd py k yy, pl, pk, N, M, ls, lv, lx, ly, ab, bl, tn)) := (by simp [fShift, c5, c13, hpk]); exact ⟨(wo, si, t1, t2), by rw [hf], by rw [hf]; rfl⟩), Nat.le_of_ble_eq_true rfl⟩
    · skip
      rw [bI_z] at c13
      refine v_iconst F dX8_shift_16 (v := (-1)) (q := 17) rfl rfl ?_
      exact hE rfl dX8_shift_17 (Nat.zero_le _) (Nat.zero_le _) ⟨(by have hf : fShift (nI k) x1 yy (th, sd, tp, n, sc, sp, px, py, pl, pk, N, M, ls, lv, lx, ly, ab, bl, tn) = (-1, (th, sd, tp, n, sc, sp, px, py, pl, pk, N, M, ls, lv, lx, ly, ab, bl, tn)) := (by simp [fShift, c5, c13, hpk]); exact ⟨(wo, si, t1, t2), by rw [hf], by rw [hf]; rfl⟩), Nat.le_of_ble_eq_true rfl⟩

set_option maxHeartbeats 4000000 in
set_option maxRecDepth 100000 in
theorem c_X8_whole (y0 y1 y2 y3 y4 y5 y6 y7 y8 y9 y10 y11 y12 y13 y14 : Nat) (th : Nat → Int32) (sd : Nat → Int32) (tp : Nat → Int32) (n : Nat) (sc : Int32) (sp : Int32) (px : Nat → Int32) (py : Nat → Int32) (pl : Nat → Nat) (pk : Nat → Int32) (N : Nat) (M : Nat) (ls : Nat → Nat) (lv : Nat → Int32) (lx : Nat → Int32) (ly : Nat → Int32) (ab : Nat → Int64) (bl : Nat → Int64) (tn : Nat) (wo si t1 t2 : Int) (p0 : Int32) (vb : Bool) (VI : INV (th, sd, tp, n, sc, sp, px, py, pl, pk, N, M, ls, lv, lx, ly, ab, bl, tn)) : Ct l D (TY cI cJ cZ) yX8_whole cX8_whole 4 (some .int) 2 43 0 0 [.ref y0, .int p0, .int (bI vb)] [(y0, .inr (8, [.int (nI n), .ref y1, .ref y2, .ref y3, .int sc, .int sp, .int (nI N), .ref y4, .ref y5, .ref y6, .ref y7, .ref y8, .ref y9, .ref y10, .ref y11, .ref y12, .int (nI tn), .ref y13, .ref y14, .long (zL wo), .long (zL si), .long (zL t1), .long (zL t2)])), (y1, .inl (cI, 6, .inl th)), (y2, .inl (cI, 6, .inl sd)), (y3, .inl (cI, 6, .inl tp)), (y4, .inl (cI, 12, .inl px)), (y5, .inl (cI, 12, .inl py)), (y6, .inl (cI, 12, .inl (fun i => nI (pl i)))), (y7, .inl (cI, 12, .inl pk)), (y8, .inl (cZ, 12, .inl (fun i => bI (M.testBit i)))), (y9, .inl (cI, 3, .inl (fun i => nI (ls i)))), (y10, .inl (cI, 18, .inl lv)), (y11, .inl (cI, 18, .inl lx)), (y12, .inl (cI, 18, .inl ly)), (y13, .inl (cJ, 15, .inr (.inl ab))), (y14, .inl (cJ, 15, .inr (.inl bl)))] (fun r w => ∃ X : Int × Int × Int × Int, r = some (.int (fWhole p0 vb (th, sd, tp, n, sc, sp, px, py, pl, pk, N, M, ls, lv, lx, ly, ab, bl, tn)).1) ∧ w = WM cI cJ cZ y0 y1 y2 y3 y4 y5 y6 y7 y8 y9 y10 y11 y12 y13 y14 (fWhole p0 vb (th, sd, tp, n, sc, sp, px, py, pl, pk, N, M, ls, lv, lx, ly, ab, bl, tn)).2 X) := by
  refine Ct.ofI (ty := .int) (by decide) (Nat.le_of_ble_eq_true rfl) ?_
  intro p e s m args below meth c A R Q F hnm hcs0 hE
  refine v_lv (lv' := [(0, .ref y0), (1, .int p0), (2, .int (bI vb))]) [0, 1, 2] rfl ?_
  obtain ⟨G, hsp, P, hM, hls, hlv, hlx, hly, htn⟩ := id VI
  have hn6 := G.1
  have hN12 := P.1
  have hM4 : M < 4096 := Nat.lt_of_lt_of_le hM (Nat.pow_le_pow_right (by omega) hN12)
  refine v_aload_n F dX8_whole_0 (i := 0) rfl 0 rfl (q := 1) rfl ?_
  refine v_iload_n F dX8_whole_1 (i := 1) rfl 1 rfl (q := 2) rfl ?_
  refine v_callV F ml_X8_82 im_X8_isPile se_X8_isPile in_X8 co_X8_isPile sd_X8_isPile (c_X8_isPile y0 y1 y2 y3 y4 y5 y6 y7 y8 y9 y10 y11 y12 y13 y14 th sd tp n sc sp px py pl pk N M ls lv lx ly ab bl tn wo si t1 t2 p0 ⟨G, hsp, P, hM, hls, hlv, hlx, hly, by omega⟩ ) ⟨Nat.zero_le _, Nat.zero_le _⟩ (Nat.le_of_ble_eq_true rfl) (Nat.le_of_ble_eq_true rfl) 0 (As := [.int p0]) rfl rfl rfl rfl rfl [0, 1, 2, 3, 4, 5, 6, 7, 8, 9, 10, 11, 12, 13, 14] rfl nd15 vnd15 (rest := []) rfl (Nat.le_of_ble_eq_true rfl) dX8_whole_2 (q := 5) rfl (fun r w hr => ?_)
  obtain ⟨rfl, rfl⟩ := hr
  refine v_ws (ws' := [(y0, .inr (8, [.int (nI n), .ref y1, .ref y2, .ref y3, .int sc, .int sp, .int (nI N), .ref y4, .ref y5, .ref y6, .ref y7, .ref y8, .ref y9, .ref y10, .ref y11, .ref y12, .int (nI tn), .ref y13, .ref y14, .long (zL wo), .long (zL si), .long (zL t1), .long (zL t2)])), (y1, .inl (cI, 6, .inl th)), (y2, .inl (cI, 6, .inl sd)), (y3, .inl (cI, 6, .inl tp)), (y4, .inl (cI, 12, .inl px)), (y5, .inl (cI, 12, .inl py)), (y6, .inl (cI, 12, .inl (fun i => nI (pl i)))), (y7, .inl (cI, 12, .inl pk)), (y8, .inl (cZ, 12, .inl (fun i => bI (M.testBit i)))), (y9, .inl (cI, 3, .inl (fun i => nI (ls i)))), (y10, .inl (cI, 18, .inl lv)), (y11, .inl (cI, 18, .inl lx)), (y12, .inl (cI, 18, .inl ly)), (y13, .inl (cJ, 15, .inr (.inl ab))), (y14, .inl (cJ, 15, .inr (.inl bl)))]) ((wset_wgo (nodup_of nd15) rfl).trans rfl) ?_
  refine v_st (st' := [.int (bI (hasB p0 N))]) rfl ?_
  refine v_if_ne F dX8_whole_5 (tgt := 10) rfl (q := 8) rfl (fun c5 => ?_) (fun c5 => ?_)
  · skip
    rw [bI_nz] at c5
    obtain ⟨k, hk, rfl⟩ := hasB_ex c5
    have hpk := pN_nI (k := k) (by omega)
    refine v_aload_n F dX8_whole_10 (i := 0) rfl 0 rfl (q := 11) rfl ?_
    refine gt_X8_31 F dX8_whole_11 0 rfl rfl (q := 14) rfl ?_
    refine v_iload_n F dX8_whole_14 (i := 1) rfl 1 rfl (q := 15) rfl ?_
    refine v_zaldN F 8 2 rfl rfl (j := k) (by omega) (by decide) dX8_whole_15 (q := 16) rfl ?_
    refine v_st (st' := [.int (bI (M.testBit k))]) rfl ?_
    refine v_if_eq F dX8_whole_16 (tgt := 23) rfl (q := 19) rfl (fun c16 => ?_) (fun c16 => ?_)
    · skip
      rw [bI_z] at c16
      refine v_iconst F dX8_whole_23 (v := 0) (q := 24) rfl rfl ?_
      refine v_istore_n F dX8_whole_24 (i := 3) (lv' := [(3, .int 0), (0, .ref y0), (1, .int (nI k)), (2, .int (bI vb))]) rfl (Nat.le_of_ble_eq_true rfl) rfl (q := 25) rfl ?_
      refine v_aload_n F dX8_whole_25 (i := 0) rfl 1 rfl (q := 26) rfl ?_
      refine gt_X8_31 F dX8_whole_26 0 rfl rfl (q := 29) rfl ?_
      refine v_iload_n F dX8_whole_29 (i := 1) rfl 2 rfl (q := 30) rfl ?_
      refine v_iload_n F dX8_whole_30 (i := 2) rfl 3 rfl (q := 31) rfl ?_
      refine v_zastN F 8 2 rfl rfl (j := k) (bI_narv _) (by omega) (by decide) dX8_whole_31 (q := 32) rfl ?_
      refine v_ws (ws' := [(y0, .inr (8, [.int (nI n), .ref y1, .ref y2, .ref y3, .int sc, .int sp, .int (nI N), .ref y4, .ref y5, .ref y6, .ref y7, .ref y8, .ref y9, .ref y10, .ref y11, .ref y12, .int (nI tn), .ref y13, .ref y14, .long (zL wo), .long (zL si), .long (zL t1), .long (zL t2)])), (y1, .inl (cI, 6, .inl th)), (y2, .inl (cI, 6, .inl sd)), (y3, .inl (cI, 6, .inl tp)), (y4, .inl (cI, 12, .inl px)), (y5, .inl (cI, 12, .inl py)), (y6, .inl (cI, 12, .inl (fun i => nI (pl i)))), (y7, .inl (cI, 12, .inl pk)), (y8, .inl (cZ, 12, .inl (upd (fun i => bI (M.testBit i)) k (bI vb)))), (y9, .inl (cI, 3, .inl (fun i => nI (ls i)))), (y10, .inl (cI, 18, .inl lv)), (y11, .inl (cI, 18, .inl lx)), (y12, .inl (cI, 18, .inl ly)), (y13, .inl (cJ, 15, .inr (.inl ab))), (y14, .inl (cJ, 15, .inr (.inl bl)))]) rfl ?_
      refine v_iload_n F dX8_whole_32 (i := 3) rfl 0 rfl (q := 33) rfl ?_
      exact hE rfl dX8_whole_33 (Nat.zero_le _) (Nat.zero_le _) ⟨(by have hf : fWhole (nI k) vb (th, sd, tp, n, sc, sp, px, py, pl, pk, N, M, ls, lv, lx, ly, ab, bl, tn) = (bI (M.testBit k), (th, sd, tp, n, sc, sp, px, py, pl, pk, N, mset M k vb, ls, lv, lx, ly, ab, bl, tn)) := (by simp [fWhole, c5, c16, hpk]); exact ⟨(wo, si, t1, t2), by rw [hf]; simp [bI, c16], by rw [hf]; rw [wh_set]; rfl⟩), Nat.le_of_ble_eq_true rfl⟩
    · skip
      rw [bI_nz] at c16
      refine v_iconst F dX8_whole_19 (v := 1) (q := 20) rfl rfl ?_
      refine v_goto F dX8_whole_20 (tgt := 24) rfl ?_
      refine v_istore_n F dX8_whole_24 (i := 3) (lv' := [(3, .int 1), (0, .ref y0), (1, .int (nI k)), (2, .int (bI vb))]) rfl (Nat.le_of_ble_eq_true rfl) rfl (q := 25) rfl ?_
      refine v_aload_n F dX8_whole_25 (i := 0) rfl 1 rfl (q := 26) rfl ?_
      refine gt_X8_31 F dX8_whole_26 0 rfl rfl (q := 29) rfl ?_
      refine v_iload_n F dX8_whole_29 (i := 1) rfl 2 rfl (q := 30) rfl ?_
      refine v_iload_n F dX8_whole_30 (i := 2) rfl 3 rfl (q := 31) rfl ?_
      refine v_zastN F 8 2 rfl rfl (j := k) (bI_narv _) (by omega) (by decide) dX8_whole_31 (q := 32) rfl ?_
      refine v_ws (ws' := [(y0, .inr (8, [.int (nI n), .ref y1, .ref y2, .ref y3, .int sc, .int sp, .int (nI N), .ref y4, .ref y5, .ref y6, .ref y7, .ref y8, .ref y9, .ref y10, .ref y11, .ref y12, .int (nI tn), .ref y13, .ref y14, .long (zL wo), .long (zL si), .long (zL t1), .long (zL t2)])), (y1, .inl (cI, 6, .inl th)), (y2, .inl (cI, 6, .inl sd)), (y3, .inl (cI, 6, .inl tp)), (y4, .inl (cI, 12, .inl px)), (y5, .inl (cI, 12, .inl py)), (y6, .inl (cI, 12, .inl (fun i => nI (pl i)))), (y7, .inl (cI, 12, .inl pk)), (y8, .inl (cZ, 12, .inl (upd (fun i => bI (M.testBit i)) k (bI vb)))), (y9, .inl (cI, 3, .inl (fun i => nI (ls i)))), (y10, .inl (cI, 18, .inl lv)), (y11, .inl (cI, 18, .inl lx)), (y12, .inl (cI, 18, .inl ly)), (y13, .inl (cJ, 15, .inr (.inl ab))), (y14, .inl (cJ, 15, .inr (.inl bl)))]) rfl ?_
      refine v_iload_n F dX8_whole_32 (i := 3) rfl 0 rfl (q := 33) rfl ?_
      exact hE rfl dX8_whole_33 (Nat.zero_le _) (Nat.zero_le _) ⟨(by have hf : fWhole (nI k) vb (th, sd, tp, n, sc, sp, px, py, pl, pk, N, M, ls, lv, lx, ly, ab, bl, tn) = (bI (M.testBit k), (th, sd, tp, n, sc, sp, px, py, pl, pk, N, mset M k vb, ls, lv, lx, ly, ab, bl, tn)) := (by simp [fWhole, c5, c16, hpk]); exact ⟨(wo, si, t1, t2), by rw [hf]; simp [bI, c16], by rw [hf]; rw [wh_set]; rfl⟩), Nat.le_of_ble_eq_true rfl⟩
  · skip
    rw [bI_z] at c5
    refine v_iconst F dX8_whole_8 (v := (-1)) (q := 9) rfl rfl ?_
    exact hE rfl dX8_whole_9 (Nat.zero_le _) (Nat.zero_le _) ⟨(by have hf : fWhole p0 vb (th, sd, tp, n, sc, sp, px, py, pl, pk, N, M, ls, lv, lx, ly, ab, bl, tn) = (-1, (th, sd, tp, n, sc, sp, px, py, pl, pk, N, M, ls, lv, lx, ly, ab, bl, tn)) := (by simp [fWhole, c5]); exact ⟨(wo, si, t1, t2), by rw [hf], by rw [hf]; rfl⟩), Nat.le_of_ble_eq_true rfl⟩

set_option maxHeartbeats 4000000 in
set_option maxRecDepth 100000 in
theorem c_X8_about (y0 y1 y2 y3 y4 y5 y6 y7 y8 y9 y10 y11 y12 y13 y14 : Nat) (th : Nat → Int32) (sd : Nat → Int32) (tp : Nat → Int32) (n : Nat) (sc : Int32) (sp : Int32) (px : Nat → Int32) (py : Nat → Int32) (pl : Nat → Nat) (pk : Nat → Int32) (N : Nat) (M : Nat) (ls : Nat → Nat) (lv : Nat → Int32) (lx : Nat → Int32) (ly : Nat → Int32) (ab : Nat → Int64) (bl : Nat → Int64) (tn : Nat) (wo si t1 t2 : Int) (p0 what : Int32) (VI : INV (th, sd, tp, n, sc, sp, px, py, pl, pk, N, M, ls, lv, lx, ly, ab, bl, tn)) : Ct l D (TY cI cJ cZ) yX8_about cX8_about 3 (some .int) 4 89 0 0 [.ref y0, .int p0, .int what] [(y0, .inr (8, [.int (nI n), .ref y1, .ref y2, .ref y3, .int sc, .int sp, .int (nI N), .ref y4, .ref y5, .ref y6, .ref y7, .ref y8, .ref y9, .ref y10, .ref y11, .ref y12, .int (nI tn), .ref y13, .ref y14, .long (zL wo), .long (zL si), .long (zL t1), .long (zL t2)])), (y1, .inl (cI, 6, .inl th)), (y2, .inl (cI, 6, .inl sd)), (y3, .inl (cI, 6, .inl tp)), (y4, .inl (cI, 12, .inl px)), (y5, .inl (cI, 12, .inl py)), (y6, .inl (cI, 12, .inl (fun i => nI (pl i)))), (y7, .inl (cI, 12, .inl pk)), (y8, .inl (cZ, 12, .inl (fun i => bI (M.testBit i)))), (y9, .inl (cI, 3, .inl (fun i => nI (ls i)))), (y10, .inl (cI, 18, .inl lv)), (y11, .inl (cI, 18, .inl lx)), (y12, .inl (cI, 18, .inl ly)), (y13, .inl (cJ, 15, .inr (.inl ab))), (y14, .inl (cJ, 15, .inr (.inl bl)))] (fun r w => ∃ X : Int × Int × Int × Int, r = some (.int (fAbout p0 what (th, sd, tp, n, sc, sp, px, py, pl, pk, N, M, ls, lv, lx, ly, ab, bl, tn)).1) ∧ w = WM cI cJ cZ y0 y1 y2 y3 y4 y5 y6 y7 y8 y9 y10 y11 y12 y13 y14 (fAbout p0 what (th, sd, tp, n, sc, sp, px, py, pl, pk, N, M, ls, lv, lx, ly, ab, bl, tn)).2 X) := by
  refine Ct.ofI (ty := .int) (by decide) (Nat.le_of_ble_eq_true rfl) ?_
  intro p e s m args below meth c A R Q F hnm hcs0 hE
  refine v_lv (lv' := [(0, .ref y0), (1, .int p0), (2, .int what)]) [0, 1, 2] rfl ?_
  obtain ⟨G, hsp, P, hM, hls, hlv, hlx, hly, htn⟩ := id VI
  have hn6 := G.1
  have hN12 := P.1
  have hM4 : M < 4096 := Nat.lt_of_lt_of_le hM (Nat.pow_le_pow_right (by omega) hN12)
  refine v_aload_n F dX8_about_0 (i := 0) rfl 0 rfl (q := 1) rfl ?_
  refine v_iload_n F dX8_about_1 (i := 1) rfl 1 rfl (q := 2) rfl ?_
  refine v_callV F ml_X8_82 im_X8_isPile se_X8_isPile in_X8 co_X8_isPile sd_X8_isPile (c_X8_isPile y0 y1 y2 y3 y4 y5 y6 y7 y8 y9 y10 y11 y12 y13 y14 th sd tp n sc sp px py pl pk N M ls lv lx ly ab bl tn wo si t1 t2 p0 ⟨G, hsp, P, hM, hls, hlv, hlx, hly, by omega⟩ ) ⟨Nat.zero_le _, Nat.zero_le _⟩ (Nat.le_of_ble_eq_true rfl) (Nat.le_of_ble_eq_true rfl) 0 (As := [.int p0]) rfl rfl rfl rfl rfl [0, 1, 2, 3, 4, 5, 6, 7, 8, 9, 10, 11, 12, 13, 14] rfl nd15 vnd15 (rest := []) rfl (Nat.le_of_ble_eq_true rfl) dX8_about_2 (q := 5) rfl (fun r w hr => ?_)
  obtain ⟨rfl, rfl⟩ := hr
  refine v_ws (ws' := [(y0, .inr (8, [.int (nI n), .ref y1, .ref y2, .ref y3, .int sc, .int sp, .int (nI N), .ref y4, .ref y5, .ref y6, .ref y7, .ref y8, .ref y9, .ref y10, .ref y11, .ref y12, .int (nI tn), .ref y13, .ref y14, .long (zL wo), .long (zL si), .long (zL t1), .long (zL t2)])), (y1, .inl (cI, 6, .inl th)), (y2, .inl (cI, 6, .inl sd)), (y3, .inl (cI, 6, .inl tp)), (y4, .inl (cI, 12, .inl px)), (y5, .inl (cI, 12, .inl py)), (y6, .inl (cI, 12, .inl (fun i => nI (pl i)))), (y7, .inl (cI, 12, .inl pk)), (y8, .inl (cZ, 12, .inl (fun i => bI (M.testBit i)))), (y9, .inl (cI, 3, .inl (fun i => nI (ls i)))), (y10, .inl (cI, 18, .inl lv)), (y11, .inl (cI, 18, .inl lx)), (y12, .inl (cI, 18, .inl ly)), (y13, .inl (cJ, 15, .inr (.inl ab))), (y14, .inl (cJ, 15, .inr (.inl bl)))]) ((wset_wgo (nodup_of nd15) rfl).trans rfl) ?_
  refine v_st (st' := [.int (bI (hasB p0 N))]) rfl ?_
  refine v_if_eq F dX8_about_5 (tgt := 18) rfl (q := 8) rfl (fun c5 => ?_) (fun c5 => ?_)
  · skip
    rw [bI_z] at c5
    refine v_sipush F dX8_about_18 (v := (-1000)) (q := 21) rfl rfl ?_
    exact hE rfl dX8_about_21 (Nat.zero_le _) (Nat.zero_le _) ⟨(by have hf : fAbout p0 what (th, sd, tp, n, sc, sp, px, py, pl, pk, N, M, ls, lv, lx, ly, ab, bl, tn) = (-1000, (th, sd, tp, n, sc, sp, px, py, pl, pk, N, M, ls, lv, lx, ly, ab, bl, tn)) := (by simp [fAbout, c5]); exact ⟨(wo, si, t1, t2), by rw [hf], by rw [hf]; rfl⟩), Nat.le_of_ble_eq_true rfl⟩
  · skip
    rw [bI_nz] at c5
    obtain ⟨k, hk, rfl⟩ := hasB_ex c5
    have hpk := pN_nI (k := k) (by omega)
    have hpl := P.2.2.2.1 k hk
    refine v_iload_n F dX8_about_8 (i := 2) rfl 2 rfl (q := 9) rfl ?_
    refine v_iconst F dX8_about_9 (v := 0) (q := 10) rfl rfl ?_
    refine v_bipush F dX8_about_10 (v := 6) (q := 12) rfl rfl ?_
    refine v_callS F ml_X8_54 sm_X8_in in_X8 co_X8_in sd_X8_in (c_X8_in what 0 6) ⟨Nat.zero_le _, Nat.zero_le _⟩ (Nat.le_of_ble_eq_true rfl) (Nat.le_of_ble_eq_true rfl) rfl [] rfl rfl rfl (rest := []) rfl (Nat.le_of_ble_eq_true rfl) dX8_about_12 (q := 15) rfl (fun r w hr => ?_)
    obtain ⟨rfl, rfl⟩ := hr
    refine v_ws (ws' := [(y0, .inr (8, [.int (nI n), .ref y1, .ref y2, .ref y3, .int sc, .int sp, .int (nI N), .ref y4, .ref y5, .ref y6, .ref y7, .ref y8, .ref y9, .ref y10, .ref y11, .ref y12, .int (nI tn), .ref y13, .ref y14, .long (zL wo), .long (zL si), .long (zL t1), .long (zL t2)])), (y1, .inl (cI, 6, .inl th)), (y2, .inl (cI, 6, .inl sd)), (y3, .inl (cI, 6, .inl tp)), (y4, .inl (cI, 12, .inl px)), (y5, .inl (cI, 12, .inl py)), (y6, .inl (cI, 12, .inl (fun i => nI (pl i)))), (y7, .inl (cI, 12, .inl pk)), (y8, .inl (cZ, 12, .inl (fun i => bI (M.testBit i)))), (y9, .inl (cI, 3, .inl (fun i => nI (ls i)))), (y10, .inl (cI, 18, .inl lv)), (y11, .inl (cI, 18, .inl lx)), (y12, .inl (cI, 18, .inl ly)), (y13, .inl (cJ, 15, .inr (.inl ab))), (y14, .inl (cJ, 15, .inr (.inl bl)))]) rfl ?_
    refine v_st (st' := [.int (bI (inR what 0 6))]) rfl ?_
    refine v_if_ne F dX8_about_15 (tgt := 22) rfl (q := 18) rfl (fun c15 => ?_) (fun c15 => ?_)
    · skip
      rw [bI_nz] at c15
      refine v_iload_n F dX8_about_22 (i := 2) rfl 2 rfl (q := 23) rfl ?_
      rcases ts_5 what with c23 | c23 | c23 | c23 | c23 | c23 | c23
      · skip
        refine v_tableIn F dX8_about_23 (by rw [c23]; decide) (by rw [c23]; decide) (off := 37) (by rw [c23]; rfl) (tgt := 60) rfl ?_
        refine v_aload_n F dX8_about_60 (i := 0) rfl 0 rfl (q := 61) rfl ?_
        refine gt_X8_19 F dX8_about_61 0 rfl rfl (q := 64) rfl ?_
        refine v_iload_n F dX8_about_64 (i := 1) rfl 1 rfl (q := 65) rfl ?_
        refine v_ialdN F 4 0 rfl rfl (j := k) (by omega) (by decide) dX8_about_65 (q := 66) rfl ?_
        exact hE rfl dX8_about_66 (Nat.zero_le _) (Nat.zero_le _) ⟨(by have hf : fAbout (nI k) what (th, sd, tp, n, sc, sp, px, py, pl, pk, N, M, ls, lv, lx, ly, ab, bl, tn) = (px k, (th, sd, tp, n, sc, sp, px, py, pl, pk, N, M, ls, lv, lx, ly, ab, bl, tn)) := (by simp [fAbout, c5, c15, c23, hpk]); exact ⟨(wo, si, t1, t2), by rw [hf], by rw [hf]; rfl⟩), Nat.le_of_ble_eq_true rfl⟩
      · skip
        refine v_tableIn F dX8_about_23 (by rw [c23]; decide) (by rw [c23]; decide) (off := 44) (by rw [c23]; rfl) (tgt := 67) rfl ?_
        refine v_aload_n F dX8_about_67 (i := 0) rfl 0 rfl (q := 68) rfl ?_
        refine gt_X8_22 F dX8_about_68 0 rfl rfl (q := 71) rfl ?_
        refine v_iload_n F dX8_about_71 (i := 1) rfl 1 rfl (q := 72) rfl ?_
        refine v_ialdN F 5 0 rfl rfl (j := k) (by omega) (by decide) dX8_about_72 (q := 73) rfl ?_
        exact hE rfl dX8_about_73 (Nat.zero_le _) (Nat.zero_le _) ⟨(by have hf : fAbout (nI k) what (th, sd, tp, n, sc, sp, px, py, pl, pk, N, M, ls, lv, lx, ly, ab, bl, tn) = (py k, (th, sd, tp, n, sc, sp, px, py, pl, pk, N, M, ls, lv, lx, ly, ab, bl, tn)) := (by simp [fAbout, c5, c15, c23, hpk]); exact ⟨(wo, si, t1, t2), by rw [hf], by rw [hf]; rfl⟩), Nat.le_of_ble_eq_true rfl⟩
      · skip
        refine v_tableIn F dX8_about_23 (by rw [c23]; decide) (by rw [c23]; decide) (off := 51) (by rw [c23]; rfl) (tgt := 74) rfl ?_
        refine v_aload_n F dX8_about_74 (i := 0) rfl 0 rfl (q := 75) rfl ?_
        refine gt_X8_25 F dX8_about_75 0 rfl rfl (q := 78) rfl ?_
        refine v_iload_n F dX8_about_78 (i := 1) rfl 1 rfl (q := 79) rfl ?_
        refine v_ialdN F 6 0 rfl rfl (j := k) (by omega) (by decide) dX8_about_79 (q := 80) rfl ?_
        refine v_st (st' := [.int (nI (pl k))]) rfl ?_
        exact hE rfl dX8_about_80 (Nat.zero_le _) (Nat.zero_le _) ⟨(by have hf : fAbout (nI k) what (th, sd, tp, n, sc, sp, px, py, pl, pk, N, M, ls, lv, lx, ly, ab, bl, tn) = (nI (pl k), (th, sd, tp, n, sc, sp, px, py, pl, pk, N, M, ls, lv, lx, ly, ab, bl, tn)) := (by simp [fAbout, c5, c15, c23, hpk]); exact ⟨(wo, si, t1, t2), by rw [hf], by rw [hf]; rfl⟩), Nat.le_of_ble_eq_true rfl⟩
      · skip
        refine v_tableIn F dX8_about_23 (by rw [c23]; decide) (by rw [c23]; decide) (off := 58) (by rw [c23]; rfl) (tgt := 81) rfl ?_
        refine v_aload_n F dX8_about_81 (i := 0) rfl 0 rfl (q := 82) rfl ?_
        refine gt_X8_28 F dX8_about_82 0 rfl rfl (q := 85) rfl ?_
        refine v_iload_n F dX8_about_85 (i := 1) rfl 1 rfl (q := 86) rfl ?_
        refine v_ialdN F 7 0 rfl rfl (j := k) (by omega) (by decide) dX8_about_86 (q := 87) rfl ?_
        exact hE rfl dX8_about_87 (Nat.zero_le _) (Nat.zero_le _) ⟨(by have hf : fAbout (nI k) what (th, sd, tp, n, sc, sp, px, py, pl, pk, N, M, ls, lv, lx, ly, ab, bl, tn) = (pk k, (th, sd, tp, n, sc, sp, px, py, pl, pk, N, M, ls, lv, lx, ly, ab, bl, tn)) := (by simp [fAbout, c5, c15, c23, hpk]); exact ⟨(wo, si, t1, t2), by rw [hf], by rw [hf]; rfl⟩), Nat.le_of_ble_eq_true rfl⟩
      · skip
        refine v_tableIn F dX8_about_23 (by rw [c23]; decide) (by rw [c23]; decide) (off := 65) (by rw [c23]; rfl) (tgt := 88) rfl ?_
        refine v_aload_n F dX8_about_88 (i := 0) rfl 0 rfl (q := 89) rfl ?_
        refine gt_X8_31 F dX8_about_89 0 rfl rfl (q := 92) rfl ?_
        refine v_iload_n F dX8_about_92 (i := 1) rfl 1 rfl (q := 93) rfl ?_
        refine v_zaldN F 8 2 rfl rfl (j := k) (by omega) (by decide) dX8_about_93 (q := 94) rfl ?_
        refine v_st (st' := [.int (bI (M.testBit k))]) rfl ?_
        refine v_if_eq F dX8_about_94 (tgt := 101) rfl (q := 97) rfl (fun c94 => ?_) (fun c94 => ?_)
        · skip
          rw [bI_z] at c94
          refine v_iconst F dX8_about_101 (v := 0) (q := 102) rfl rfl ?_
          exact hE rfl dX8_about_102 (Nat.zero_le _) (Nat.zero_le _) ⟨(by have hf : fAbout (nI k) what (th, sd, tp, n, sc, sp, px, py, pl, pk, N, M, ls, lv, lx, ly, ab, bl, tn) = (bI (M.testBit k), (th, sd, tp, n, sc, sp, px, py, pl, pk, N, M, ls, lv, lx, ly, ab, bl, tn)) := (by simp [fAbout, c5, c15, c23, c94, hpk]); exact ⟨(wo, si, t1, t2), by rw [hf]; simp [bI, c94], by rw [hf]; rfl⟩), Nat.le_of_ble_eq_true rfl⟩
        · skip
          rw [bI_nz] at c94
          refine v_iconst F dX8_about_97 (v := 1) (q := 98) rfl rfl ?_
          refine v_goto F dX8_about_98 (tgt := 102) rfl ?_
          exact hE rfl dX8_about_102 (Nat.zero_le _) (Nat.zero_le _) ⟨(by have hf : fAbout (nI k) what (th, sd, tp, n, sc, sp, px, py, pl, pk, N, M, ls, lv, lx, ly, ab, bl, tn) = (bI (M.testBit k), (th, sd, tp, n, sc, sp, px, py, pl, pk, N, M, ls, lv, lx, ly, ab, bl, tn)) := (by simp [fAbout, c5, c15, c23, c94, hpk]); exact ⟨(wo, si, t1, t2), by rw [hf]; simp [bI, c94], by rw [hf]; rfl⟩), Nat.le_of_ble_eq_true rfl⟩
      · skip
        refine v_tableIn F dX8_about_23 (by rw [c23]; decide) (by rw [c23]; decide) (off := 80) (by rw [c23]; rfl) (tgt := 103) rfl ?_
        refine v_aload_n F dX8_about_103 (i := 0) rfl 0 rfl (q := 104) rfl ?_
        refine v_aload_n F dX8_about_104 (i := 0) rfl 0 rfl (q := 105) rfl ?_
        refine gt_X8_25 F dX8_about_105 0 rfl rfl (q := 108) rfl ?_
        refine v_iload_n F dX8_about_108 (i := 1) rfl 1 rfl (q := 109) rfl ?_
        refine v_ialdN F 6 0 rfl rfl (j := k) (by omega) (by decide) dX8_about_109 (q := 110) rfl ?_
        refine v_st (st' := [.int (nI (pl k)), .ref y0]) rfl ?_
        refine v_callV F ml_X8_86 im_X8_pullOf se_X8_pullOf in_X8 co_X8_pullOf sd_X8_pullOf (c_X8_pullOf y0 y1 y2 y3 y4 y5 y6 y7 y8 y9 y10 y11 y12 y13 y14 th sd tp n sc sp px py pl pk N M ls lv lx ly ab bl tn wo si t1 t2 (pl k) ⟨G, hsp, P, hM, hls, hlv, hlx, hly, by omega⟩ (by omega)) ⟨Nat.zero_le _, Nat.zero_le _⟩ (Nat.le_of_ble_eq_true rfl) (Nat.le_of_ble_eq_true rfl) 0 (As := [.int (nI (pl k))]) rfl rfl rfl rfl rfl [0, 1, 2, 3, 4, 5, 6, 7, 8, 9, 10, 11, 12, 13, 14] rfl nd15 vnd15 (rest := []) rfl (Nat.le_of_ble_eq_true rfl) dX8_about_110 (q := 113) rfl (fun r w hr => ?_)
        obtain ⟨rfl, rfl⟩ := hr
        refine v_ws (ws' := [(y0, .inr (8, [.int (nI n), .ref y1, .ref y2, .ref y3, .int sc, .int sp, .int (nI N), .ref y4, .ref y5, .ref y6, .ref y7, .ref y8, .ref y9, .ref y10, .ref y11, .ref y12, .int (nI tn), .ref y13, .ref y14, .long (zL wo), .long (zL si), .long (zL t1), .long (zL t2)])), (y1, .inl (cI, 6, .inl th)), (y2, .inl (cI, 6, .inl sd)), (y3, .inl (cI, 6, .inl tp)), (y4, .inl (cI, 12, .inl px)), (y5, .inl (cI, 12, .inl py)), (y6, .inl (cI, 12, .inl (fun i => nI (pl i)))), (y7, .inl (cI, 12, .inl pk)), (y8, .inl (cZ, 12, .inl (fun i => bI (M.testBit i)))), (y9, .inl (cI, 3, .inl (fun i => nI (ls i)))), (y10, .inl (cI, 18, .inl lv)), (y11, .inl (cI, 18, .inl lx)), (y12, .inl (cI, 18, .inl ly)), (y13, .inl (cJ, 15, .inr (.inl ab))), (y14, .inl (cJ, 15, .inr (.inl bl)))]) ((wset_wgo (nodup_of nd15) rfl).trans rfl) ?_
        refine v_st (st' := [.int (zI (gPU th sd n sc (pl k)))]) rfl ?_
        exact hE rfl dX8_about_113 (Nat.zero_le _) (Nat.zero_le _) ⟨(by have hf : fAbout (nI k) what (th, sd, tp, n, sc, sp, px, py, pl, pk, N, M, ls, lv, lx, ly, ab, bl, tn) = (zI (gPU th sd n sc (pl k)), (th, sd, tp, n, sc, sp, px, py, pl, pk, N, M, ls, lv, lx, ly, ab, bl, tn)) := (by simp [fAbout, c5, c15, c23, hpk]); exact ⟨(wo, si, t1, t2), by rw [hf], by rw [hf]; rfl⟩), Nat.le_of_ble_eq_true rfl⟩
      · skip
        refine v_tableOut F dX8_about_23 (by omega) (tgt := 114) rfl ?_
        refine v_aload_n F dX8_about_114 (i := 0) rfl 0 rfl (q := 115) rfl ?_
        refine v_iload_n F dX8_about_115 (i := 1) rfl 1 rfl (q := 116) rfl ?_
        refine v_callV F ml_X8_92 im_X8_bearingOf se_X8_bearingOf in_X8 co_X8_bearingOf sd_X8_bearingOf (c_X8_bearingOf y0 y1 y2 y3 y4 y5 y6 y7 y8 y9 y10 y11 y12 y13 y14 th sd tp n sc sp px py pl pk N M ls lv lx ly ab bl tn wo si t1 t2 k ⟨G, hsp, P, hM, hls, hlv, hlx, hly, by omega⟩ (by omega)) ⟨Nat.zero_le _, Nat.zero_le _⟩ (Nat.le_of_ble_eq_true rfl) (Nat.le_of_ble_eq_true rfl) 0 (As := [.int (nI k)]) rfl rfl rfl rfl rfl [0, 1, 2, 3, 4, 5, 6, 7, 8, 9, 10, 11, 12, 13, 14] rfl nd15 vnd15 (rest := []) rfl (Nat.le_of_ble_eq_true rfl) dX8_about_116 (q := 119) rfl (fun r w hr => ?_)
        obtain ⟨rfl, rfl⟩ := hr
        refine v_ws (ws' := [(y0, .inr (8, [.int (nI n), .ref y1, .ref y2, .ref y3, .int sc, .int sp, .int (nI N), .ref y4, .ref y5, .ref y6, .ref y7, .ref y8, .ref y9, .ref y10, .ref y11, .ref y12, .int (nI tn), .ref y13, .ref y14, .long (zL wo), .long (zL si), .long (zL t1), .long (zL t2)])), (y1, .inl (cI, 6, .inl th)), (y2, .inl (cI, 6, .inl sd)), (y3, .inl (cI, 6, .inl tp)), (y4, .inl (cI, 12, .inl px)), (y5, .inl (cI, 12, .inl py)), (y6, .inl (cI, 12, .inl (fun i => nI (pl i)))), (y7, .inl (cI, 12, .inl pk)), (y8, .inl (cZ, 12, .inl (fun i => bI (M.testBit i)))), (y9, .inl (cI, 3, .inl (fun i => nI (ls i)))), (y10, .inl (cI, 18, .inl lv)), (y11, .inl (cI, 18, .inl lx)), (y12, .inl (cI, 18, .inl ly)), (y13, .inl (cJ, 15, .inr (.inl ab))), (y14, .inl (cJ, 15, .inr (.inl bl)))]) ((wset_wgo (nodup_of nd15) rfl).trans rfl) ?_
        refine v_st (st' := [.int (zI (gBE th sd tp n sc (pl k)))]) rfl ?_
        exact hE rfl dX8_about_119 (Nat.zero_le _) (Nat.zero_le _) ⟨(by have hf : fAbout (nI k) what (th, sd, tp, n, sc, sp, px, py, pl, pk, N, M, ls, lv, lx, ly, ab, bl, tn) = (zI (gBE th sd tp n sc (pl k)), (th, sd, tp, n, sc, sp, px, py, pl, pk, N, M, ls, lv, lx, ly, ab, bl, tn)) := (by simp [fAbout, is6 c15 c23, c5, c15, hpk]); exact ⟨(wo, si, t1, t2), by rw [hf], by rw [hf]; rfl⟩), Nat.le_of_ble_eq_true rfl⟩
    · skip
      rw [bI_z] at c15
      refine v_sipush F dX8_about_18 (v := (-1000)) (q := 21) rfl rfl ?_
      exact hE rfl dX8_about_21 (Nat.zero_le _) (Nat.zero_le _) ⟨(by have hf : fAbout (nI k) what (th, sd, tp, n, sc, sp, px, py, pl, pk, N, M, ls, lv, lx, ly, ab, bl, tn) = (-1000, (th, sd, tp, n, sc, sp, px, py, pl, pk, N, M, ls, lv, lx, ly, ab, bl, tn)) := (by simp only [fAbout]; rw [if_pos c5]; have h7 := ab_no (nr6 c15); simp [h7]); exact ⟨(wo, si, t1, t2), by rw [hf], by rw [hf]; rfl⟩), Nat.le_of_ble_eq_true rfl⟩

set_option maxHeartbeats 4000000 in
set_option maxRecDepth 100000 in
theorem c_X8_load (y0 y1 y2 y3 y4 y5 y6 y7 y8 y9 y10 y11 y12 y13 y14 : Nat) (th : Nat → Int32) (sd : Nat → Int32) (tp : Nat → Int32) (n : Nat) (sc : Int32) (sp : Int32) (px : Nat → Int32) (py : Nat → Int32) (pl : Nat → Nat) (pk : Nat → Int32) (N : Nat) (M : Nat) (ls : Nat → Nat) (lv : Nat → Int32) (lx : Nat → Int32) (ly : Nat → Int32) (ab : Nat → Int64) (bl : Nat → Int64) (tn : Nat) (wo si t1 t2 : Int) (c0 v1 x1 yy : Int32) (VI : INV (th, sd, tp, n, sc, sp, px, py, pl, pk, N, M, ls, lv, lx, ly, ab, bl, tn)) : Ct l D (TY cI cJ cZ) yX8_load cX8_load 6 (some .int) 2 43 0 0 [.ref y0, .int c0, .int v1, .int x1, .int yy] [(y0, .inr (8, [.int (nI n), .ref y1, .ref y2, .ref y3, .int sc, .int sp, .int (nI N), .ref y4, .ref y5, .ref y6, .ref y7, .ref y8, .ref y9, .ref y10, .ref y11, .ref y12, .int (nI tn), .ref y13, .ref y14, .long (zL wo), .long (zL si), .long (zL t1), .long (zL t2)])), (y1, .inl (cI, 6, .inl th)), (y2, .inl (cI, 6, .inl sd)), (y3, .inl (cI, 6, .inl tp)), (y4, .inl (cI, 12, .inl px)), (y5, .inl (cI, 12, .inl py)), (y6, .inl (cI, 12, .inl (fun i => nI (pl i)))), (y7, .inl (cI, 12, .inl pk)), (y8, .inl (cZ, 12, .inl (fun i => bI (M.testBit i)))), (y9, .inl (cI, 3, .inl (fun i => nI (ls i)))), (y10, .inl (cI, 18, .inl lv)), (y11, .inl (cI, 18, .inl lx)), (y12, .inl (cI, 18, .inl ly)), (y13, .inl (cJ, 15, .inr (.inl ab))), (y14, .inl (cJ, 15, .inr (.inl bl)))] (fun r w => ∃ X : Int × Int × Int × Int, r = some (.int (fLoad c0 v1 x1 yy (th, sd, tp, n, sc, sp, px, py, pl, pk, N, M, ls, lv, lx, ly, ab, bl, tn)).1) ∧ w = WM cI cJ cZ y0 y1 y2 y3 y4 y5 y6 y7 y8 y9 y10 y11 y12 y13 y14 (fLoad c0 v1 x1 yy (th, sd, tp, n, sc, sp, px, py, pl, pk, N, M, ls, lv, lx, ly, ab, bl, tn)).2 X) := by
  refine Ct.ofI (ty := .int) (by decide) (Nat.le_of_ble_eq_true rfl) ?_
  intro p e s m args below meth c A R Q F hnm hcs0 hE
  refine v_lv (lv' := [(0, .ref y0), (1, .int c0), (2, .int v1), (3, .int x1), (4, .int yy)]) [0, 1, 2, 3, 4] rfl ?_
  obtain ⟨G, hsp, P, hM, hls, hlv, hlx, hly, htn⟩ := id VI
  have hn6 := G.1
  have hN12 := P.1
  have hM4 : M < 4096 := Nat.lt_of_lt_of_le hM (Nat.pow_le_pow_right (by omega) hN12)
  refine v_iload_n F dX8_load_0 (i := 1) rfl 1 rfl (q := 1) rfl ?_
  refine v_callS F ml_X8_95 sm_X8_isCase in_X8 co_X8_isCase sd_X8_isCase (c_X8_isCase c0) ⟨Nat.zero_le _, Nat.zero_le _⟩ (Nat.le_of_ble_eq_true rfl) (Nat.le_of_ble_eq_true rfl) rfl [] rfl rfl rfl (rest := []) rfl (Nat.le_of_ble_eq_true rfl) dX8_load_1 (q := 4) rfl (fun r w hr => ?_)
  obtain ⟨rfl, rfl⟩ := hr
  refine v_ws (ws' := [(y0, .inr (8, [.int (nI n), .ref y1, .ref y2, .ref y3, .int sc, .int sp, .int (nI N), .ref y4, .ref y5, .ref y6, .ref y7, .ref y8, .ref y9, .ref y10, .ref y11, .ref y12, .int (nI tn), .ref y13, .ref y14, .long (zL wo), .long (zL si), .long (zL t1), .long (zL t2)])), (y1, .inl (cI, 6, .inl th)), (y2, .inl (cI, 6, .inl sd)), (y3, .inl (cI, 6, .inl tp)), (y4, .inl (cI, 12, .inl px)), (y5, .inl (cI, 12, .inl py)), (y6, .inl (cI, 12, .inl (fun i => nI (pl i)))), (y7, .inl (cI, 12, .inl pk)), (y8, .inl (cZ, 12, .inl (fun i => bI (M.testBit i)))), (y9, .inl (cI, 3, .inl (fun i => nI (ls i)))), (y10, .inl (cI, 18, .inl lv)), (y11, .inl (cI, 18, .inl lx)), (y12, .inl (cI, 18, .inl ly)), (y13, .inl (cJ, 15, .inr (.inl ab))), (y14, .inl (cJ, 15, .inr (.inl bl)))]) rfl ?_
  refine v_st (st' := [.int (bI (inR c0 0 2))]) rfl ?_
  refine v_if_eq F dX8_load_4 (tgt := 29) rfl (q := 7) rfl (fun c4 => ?_) (fun c4 => ?_)
  · skip
    rw [bI_z] at c4
    refine v_iconst F dX8_load_29 (v := (-1)) (q := 30) rfl rfl ?_
    exact hE rfl dX8_load_30 (Nat.zero_le _) (Nat.zero_le _) ⟨(by have hf : fLoad c0 v1 x1 yy (th, sd, tp, n, sc, sp, px, py, pl, pk, N, M, ls, lv, lx, ly, ab, bl, tn) = (-1, (th, sd, tp, n, sc, sp, px, py, pl, pk, N, M, ls, lv, lx, ly, ab, bl, tn)) := (by simp [fLoad, c4]); exact ⟨(wo, si, t1, t2), by rw [hf], by rw [hf]; rfl⟩), Nat.le_of_ble_eq_true rfl⟩
  · skip
    rw [bI_nz] at c4
    refine v_iload_n F dX8_load_7 (i := 2) rfl 2 rfl (q := 8) rfl ?_
    refine v_sipush F dX8_load_8 (v := (-500)) (q := 11) rfl rfl ?_
    refine v_sipush F dX8_load_11 (v := 500) (q := 14) rfl rfl ?_
    refine v_callS F ml_X8_54 sm_X8_in in_X8 co_X8_in sd_X8_in (c_X8_in v1 (-500) 500) ⟨Nat.zero_le _, Nat.zero_le _⟩ (Nat.le_of_ble_eq_true rfl) (Nat.le_of_ble_eq_true rfl) rfl [] rfl rfl rfl (rest := []) rfl (Nat.le_of_ble_eq_true rfl) dX8_load_14 (q := 17) rfl (fun r w hr => ?_)
    obtain ⟨rfl, rfl⟩ := hr
    refine v_ws (ws' := [(y0, .inr (8, [.int (nI n), .ref y1, .ref y2, .ref y3, .int sc, .int sp, .int (nI N), .ref y4, .ref y5, .ref y6, .ref y7, .ref y8, .ref y9, .ref y10, .ref y11, .ref y12, .int (nI tn), .ref y13, .ref y14, .long (zL wo), .long (zL si), .long (zL t1), .long (zL t2)])), (y1, .inl (cI, 6, .inl th)), (y2, .inl (cI, 6, .inl sd)), (y3, .inl (cI, 6, .inl tp)), (y4, .inl (cI, 12, .inl px)), (y5, .inl (cI, 12, .inl py)), (y6, .inl (cI, 12, .inl (fun i => nI (pl i)))), (y7, .inl (cI, 12, .inl pk)), (y8, .inl (cZ, 12, .inl (fun i => bI (M.testBit i)))), (y9, .inl (cI, 3, .inl (fun i => nI (ls i)))), (y10, .inl (cI, 18, .inl lv)), (y11, .inl (cI, 18, .inl lx)), (y12, .inl (cI, 18, .inl ly)), (y13, .inl (cJ, 15, .inr (.inl ab))), (y14, .inl (cJ, 15, .inr (.inl bl)))]) rfl ?_
    refine v_st (st' := [.int (bI (inR v1 (-500) 500))]) rfl ?_
    refine v_if_eq F dX8_load_17 (tgt := 29) rfl (q := 20) rfl (fun c17 => ?_) (fun c17 => ?_)
    · skip
      rw [bI_z] at c17
      refine v_iconst F dX8_load_29 (v := (-1)) (q := 30) rfl rfl ?_
      exact hE rfl dX8_load_30 (Nat.zero_le _) (Nat.zero_le _) ⟨(by have hf : fLoad c0 v1 x1 yy (th, sd, tp, n, sc, sp, px, py, pl, pk, N, M, ls, lv, lx, ly, ab, bl, tn) = (-1, (th, sd, tp, n, sc, sp, px, py, pl, pk, N, M, ls, lv, lx, ly, ab, bl, tn)) := (by simp [fLoad, c4, c17]); exact ⟨(wo, si, t1, t2), by rw [hf], by rw [hf]; rfl⟩), Nat.le_of_ble_eq_true rfl⟩
    · skip
      rw [bI_nz] at c17
      refine v_iload_n F dX8_load_20 (i := 3) rfl 3 rfl (q := 21) rfl ?_
      refine v_iload F dX8_load_21 4 rfl (q := 23) rfl ?_
      refine v_callS F ml_X8_78 sm_X8_isPlace in_X8 co_X8_isPlace sd_X8_isPlace (c_X8_isPlace x1 yy) ⟨Nat.zero_le _, Nat.zero_le _⟩ (Nat.le_of_ble_eq_true rfl) (Nat.le_of_ble_eq_true rfl) rfl [] rfl rfl rfl (rest := []) rfl (Nat.le_of_ble_eq_true rfl) dX8_load_23 (q := 26) rfl (fun r w hr => ?_)
      obtain ⟨rfl, rfl⟩ := hr
      refine v_ws (ws' := [(y0, .inr (8, [.int (nI n), .ref y1, .ref y2, .ref y3, .int sc, .int sp, .int (nI N), .ref y4, .ref y5, .ref y6, .ref y7, .ref y8, .ref y9, .ref y10, .ref y11, .ref y12, .int (nI tn), .ref y13, .ref y14, .long (zL wo), .long (zL si), .long (zL t1), .long (zL t2)])), (y1, .inl (cI, 6, .inl th)), (y2, .inl (cI, 6, .inl sd)), (y3, .inl (cI, 6, .inl tp)), (y4, .inl (cI, 12, .inl px)), (y5, .inl (cI, 12, .inl py)), (y6, .inl (cI, 12, .inl (fun i => nI (pl i)))), (y7, .inl (cI, 12, .inl pk)), (y8, .inl (cZ, 12, .inl (fun i => bI (M.testBit i)))), (y9, .inl (cI, 3, .inl (fun i => nI (ls i)))), (y10, .inl (cI, 18, .inl lv)), (y11, .inl (cI, 18, .inl lx)), (y12, .inl (cI, 18, .inl ly)), (y13, .inl (cJ, 15, .inr (.inl ab))), (y14, .inl (cJ, 15, .inr (.inl bl)))]) rfl ?_
      refine v_st (st' := [.int (bI (inR x1 (-20) 20 && inR yy (-20) 20))]) rfl ?_
      refine v_if_ne F dX8_load_26 (tgt := 31) rfl (q := 29) rfl (fun c26 => ?_) (fun c26 => ?_)
      · skip
        rw [bI_nz] at c26
        obtain ⟨k, hk, rfl⟩ : ∃ k : Nat, k < 3 ∧ c0 = nI k := case_ex c4
        have hpk := pN_nI (k := k) (by omega)
        have hlk := hls k
        refine v_aload_n F dX8_load_31 (i := 0) rfl 0 rfl (q := 32) rfl ?_
        refine gt_X8_35 F dX8_load_32 0 rfl rfl (q := 35) rfl ?_
        refine v_iload_n F dX8_load_35 (i := 1) rfl 1 rfl (q := 36) rfl ?_
        refine v_ialdN F 9 0 rfl rfl (j := k) (by omega) (by decide) dX8_load_36 (q := 37) rfl ?_
        refine v_st (st' := [.int (nI (ls k))]) rfl ?_
        refine v_bipush F dX8_load_37 (v := 6) (q := 39) rfl rfl ?_
        refine v_icmp_ne F dX8_load_39 (tgt := 45) rfl (q := 42) rfl (fun c39 => ?_) (fun c39 => ?_)
        · skip
          have c39 : ¬ ls k = 6 := fun q => c39 (by rw [q]; rfl)
          refine v_bipush F dX8_load_45 (v := 6) (q := 47) rfl rfl ?_
          refine v_iload_n F dX8_load_47 (i := 1) rfl 1 rfl (q := 48) rfl ?_
          refine v_imul F dX8_load_48 (q := 49) rfl ?_
          refine v_aload_n F dX8_load_49 (i := 0) rfl 0 rfl (q := 50) rfl ?_
          refine gt_X8_35 F dX8_load_50 0 rfl rfl (q := 53) rfl ?_
          refine v_iload_n F dX8_load_53 (i := 1) rfl 1 rfl (q := 54) rfl ?_
          refine v_ialdN F 9 0 rfl rfl (j := k) (by omega) (by decide) dX8_load_54 (q := 55) rfl ?_
          refine v_st (st' := [.int (nI (ls k)), .int (6 * (nI k))]) rfl ?_
          refine v_iadd F dX8_load_55 (q := 56) rfl ?_
          refine v_int (y := nI (6 * k + ls k)) (ix6) ?_
          refine v_istore F dX8_load_56 (lv' := [(5, .int (nI (6 * k + ls k))), (0, .ref y0), (1, .int (nI k)), (2, .int v1), (3, .int x1), (4, .int yy)]) (Nat.le_of_ble_eq_true rfl) rfl (q := 58) rfl ?_
          refine v_aload_n F dX8_load_58 (i := 0) rfl 1 rfl (q := 59) rfl ?_
          refine gt_X8_38 F dX8_load_59 0 rfl rfl (q := 62) rfl ?_
          refine v_iload F dX8_load_62 0 rfl (q := 64) rfl ?_
          refine v_iload_n F dX8_load_64 (i := 2) rfl 3 rfl (q := 65) rfl ?_
          refine v_iastN F 10 0 rfl rfl (j := 6 * k + ls k) (by omega) (by decide) dX8_load_65 (q := 66) rfl ?_
          refine v_ws (ws' := [(y0, .inr (8, [.int (nI n), .ref y1, .ref y2, .ref y3, .int sc, .int sp, .int (nI N), .ref y4, .ref y5, .ref y6, .ref y7, .ref y8, .ref y9, .ref y10, .ref y11, .ref y12, .int (nI tn), .ref y13, .ref y14, .long (zL wo), .long (zL si), .long (zL t1), .long (zL t2)])), (y1, .inl (cI, 6, .inl th)), (y2, .inl (cI, 6, .inl sd)), (y3, .inl (cI, 6, .inl tp)), (y4, .inl (cI, 12, .inl px)), (y5, .inl (cI, 12, .inl py)), (y6, .inl (cI, 12, .inl (fun i => nI (pl i)))), (y7, .inl (cI, 12, .inl pk)), (y8, .inl (cZ, 12, .inl (fun i => bI (M.testBit i)))), (y9, .inl (cI, 3, .inl (fun i => nI (ls i)))), (y10, .inl (cI, 18, .inl (upd lv (6 * k + ls k) v1))), (y11, .inl (cI, 18, .inl lx)), (y12, .inl (cI, 18, .inl ly)), (y13, .inl (cJ, 15, .inr (.inl ab))), (y14, .inl (cJ, 15, .inr (.inl bl)))]) rfl ?_
          refine v_aload_n F dX8_load_66 (i := 0) rfl 1 rfl (q := 67) rfl ?_
          refine gt_X8_41 F dX8_load_67 0 rfl rfl (q := 70) rfl ?_
          refine v_iload F dX8_load_70 0 rfl (q := 72) rfl ?_
          refine v_iload_n F dX8_load_72 (i := 3) rfl 4 rfl (q := 73) rfl ?_
          refine v_iastN F 11 0 rfl rfl (j := 6 * k + ls k) (by omega) (by decide) dX8_load_73 (q := 74) rfl ?_
          refine v_ws (ws' := [(y0, .inr (8, [.int (nI n), .ref y1, .ref y2, .ref y3, .int sc, .int sp, .int (nI N), .ref y4, .ref y5, .ref y6, .ref y7, .ref y8, .ref y9, .ref y10, .ref y11, .ref y12, .int (nI tn), .ref y13, .ref y14, .long (zL wo), .long (zL si), .long (zL t1), .long (zL t2)])), (y1, .inl (cI, 6, .inl th)), (y2, .inl (cI, 6, .inl sd)), (y3, .inl (cI, 6, .inl tp)), (y4, .inl (cI, 12, .inl px)), (y5, .inl (cI, 12, .inl py)), (y6, .inl (cI, 12, .inl (fun i => nI (pl i)))), (y7, .inl (cI, 12, .inl pk)), (y8, .inl (cZ, 12, .inl (fun i => bI (M.testBit i)))), (y9, .inl (cI, 3, .inl (fun i => nI (ls i)))), (y10, .inl (cI, 18, .inl (upd lv (6 * k + ls k) v1))), (y11, .inl (cI, 18, .inl (upd lx (6 * k + ls k) x1))), (y12, .inl (cI, 18, .inl ly)), (y13, .inl (cJ, 15, .inr (.inl ab))), (y14, .inl (cJ, 15, .inr (.inl bl)))]) rfl ?_
          refine v_aload_n F dX8_load_74 (i := 0) rfl 1 rfl (q := 75) rfl ?_
          refine gt_X8_44 F dX8_load_75 0 rfl rfl (q := 78) rfl ?_
          refine v_iload F dX8_load_78 0 rfl (q := 80) rfl ?_
          refine v_iload F dX8_load_80 5 rfl (q := 82) rfl ?_
          refine v_iastN F 12 0 rfl rfl (j := 6 * k + ls k) (by omega) (by decide) dX8_load_82 (q := 83) rfl ?_
          refine v_ws (ws' := [(y0, .inr (8, [.int (nI n), .ref y1, .ref y2, .ref y3, .int sc, .int sp, .int (nI N), .ref y4, .ref y5, .ref y6, .ref y7, .ref y8, .ref y9, .ref y10, .ref y11, .ref y12, .int (nI tn), .ref y13, .ref y14, .long (zL wo), .long (zL si), .long (zL t1), .long (zL t2)])), (y1, .inl (cI, 6, .inl th)), (y2, .inl (cI, 6, .inl sd)), (y3, .inl (cI, 6, .inl tp)), (y4, .inl (cI, 12, .inl px)), (y5, .inl (cI, 12, .inl py)), (y6, .inl (cI, 12, .inl (fun i => nI (pl i)))), (y7, .inl (cI, 12, .inl pk)), (y8, .inl (cZ, 12, .inl (fun i => bI (M.testBit i)))), (y9, .inl (cI, 3, .inl (fun i => nI (ls i)))), (y10, .inl (cI, 18, .inl (upd lv (6 * k + ls k) v1))), (y11, .inl (cI, 18, .inl (upd lx (6 * k + ls k) x1))), (y12, .inl (cI, 18, .inl (upd ly (6 * k + ls k) yy))), (y13, .inl (cJ, 15, .inr (.inl ab))), (y14, .inl (cJ, 15, .inr (.inl bl)))]) rfl ?_
          refine v_aload_n F dX8_load_83 (i := 0) rfl 1 rfl (q := 84) rfl ?_
          refine gt_X8_35 F dX8_load_84 0 rfl rfl (q := 87) rfl ?_
          refine v_iload_n F dX8_load_87 (i := 1) rfl 2 rfl (q := 88) rfl ?_
          refine v_dup2_11 F dX8_load_88 rfl rfl (q := 89) rfl ?_
          refine v_ialdN F 9 0 rfl rfl (j := k) (by omega) (by decide) dX8_load_89 (q := 90) rfl ?_
          refine v_st (st' := [.int (nI (ls k)), .int (nI k), .ref y9]) rfl ?_
          refine v_iconst F dX8_load_90 (v := 1) (q := 91) rfl rfl ?_
          refine v_iadd F dX8_load_91 (q := 92) rfl ?_
          refine v_int (y := nI (ls k + 1)) (nI_1 _) ?_
          refine v_iastN F 9 0 rfl rfl (j := k) (by omega) (by decide) dX8_load_92 (q := 93) rfl ?_
          refine v_ws (ws' := [(y0, .inr (8, [.int (nI n), .ref y1, .ref y2, .ref y3, .int sc, .int sp, .int (nI N), .ref y4, .ref y5, .ref y6, .ref y7, .ref y8, .ref y9, .ref y10, .ref y11, .ref y12, .int (nI tn), .ref y13, .ref y14, .long (zL wo), .long (zL si), .long (zL t1), .long (zL t2)])), (y1, .inl (cI, 6, .inl th)), (y2, .inl (cI, 6, .inl sd)), (y3, .inl (cI, 6, .inl tp)), (y4, .inl (cI, 12, .inl px)), (y5, .inl (cI, 12, .inl py)), (y6, .inl (cI, 12, .inl (fun i => nI (pl i)))), (y7, .inl (cI, 12, .inl pk)), (y8, .inl (cZ, 12, .inl (fun i => bI (M.testBit i)))), (y9, .inl (cI, 3, .inl (upd (fun i => nI (ls i)) k (nI (ls k + 1))))), (y10, .inl (cI, 18, .inl (upd lv (6 * k + ls k) v1))), (y11, .inl (cI, 18, .inl (upd lx (6 * k + ls k) x1))), (y12, .inl (cI, 18, .inl (upd ly (6 * k + ls k) yy))), (y13, .inl (cJ, 15, .inr (.inl ab))), (y14, .inl (cJ, 15, .inr (.inl bl)))]) rfl ?_
          refine v_aload_n F dX8_load_93 (i := 0) rfl 1 rfl (q := 94) rfl ?_
          refine gt_X8_35 F dX8_load_94 0 rfl rfl (q := 97) rfl ?_
          refine v_iload_n F dX8_load_97 (i := 1) rfl 2 rfl (q := 98) rfl ?_
          refine v_ialdN F 9 0 rfl rfl (j := k) (by omega) (by decide) dX8_load_98 (q := 99) rfl ?_
          refine v_int (y := nI (ls k + 1)) (pk_us) ?_
          exact hE rfl dX8_load_99 (Nat.zero_le _) (Nat.zero_le _) ⟨(by have hf : fLoad (nI k) v1 x1 yy (th, sd, tp, n, sc, sp, px, py, pl, pk, N, M, ls, lv, lx, ly, ab, bl, tn) = (nI (ls k + 1), (th, sd, tp, n, sc, sp, px, py, pl, pk, N, M, updN ls k (ls k + 1), upd lv (6 * k + ls k) v1, upd lx (6 * k + ls k) x1, upd ly (6 * k + ls k) yy, ab, bl, tn)) := (by simp [fLoad, c4, c17, c26, c39, hpk]); exact ⟨(wo, si, t1, t2), by rw [hf], by rw [hf]; rw [upd_nI]; rfl⟩), Nat.le_of_ble_eq_true rfl⟩
        · skip
          have c39 : ls k = 6 := (nI_eq (b := 6) (by omega) (by omega)).mp c39
          refine v_bipush F dX8_load_42 (v := (-3)) (q := 44) rfl rfl ?_
          exact hE rfl dX8_load_44 (Nat.zero_le _) (Nat.zero_le _) ⟨(by have hf : fLoad (nI k) v1 x1 yy (th, sd, tp, n, sc, sp, px, py, pl, pk, N, M, ls, lv, lx, ly, ab, bl, tn) = (-3, (th, sd, tp, n, sc, sp, px, py, pl, pk, N, M, ls, lv, lx, ly, ab, bl, tn)) := (by simp [fLoad, c4, c17, c26, c39, hpk]); exact ⟨(wo, si, t1, t2), by rw [hf], by rw [hf]; rfl⟩), Nat.le_of_ble_eq_true rfl⟩
      · skip
        rw [bI_z] at c26
        refine v_iconst F dX8_load_29 (v := (-1)) (q := 30) rfl rfl ?_
        exact hE rfl dX8_load_30 (Nat.zero_le _) (Nat.zero_le _) ⟨(by have hf : fLoad c0 v1 x1 yy (th, sd, tp, n, sc, sp, px, py, pl, pk, N, M, ls, lv, lx, ly, ab, bl, tn) = (-1, (th, sd, tp, n, sc, sp, px, py, pl, pk, N, M, ls, lv, lx, ly, ab, bl, tn)) := (by simp [fLoad, c4, c17, c26]); exact ⟨(wo, si, t1, t2), by rw [hf], by rw [hf]; rfl⟩), Nat.le_of_ble_eq_true rfl⟩

set_option maxHeartbeats 4000000 in
set_option maxRecDepth 100000 in
theorem c_X8_noLoads (y0 y1 y2 y3 y4 y5 y6 y7 y8 y9 y10 y11 y12 y13 y14 : Nat) (th : Nat → Int32) (sd : Nat → Int32) (tp : Nat → Int32) (n : Nat) (sc : Int32) (sp : Int32) (px : Nat → Int32) (py : Nat → Int32) (pl : Nat → Nat) (pk : Nat → Int32) (N : Nat) (M : Nat) (ls : Nat → Nat) (lv : Nat → Int32) (lx : Nat → Int32) (ly : Nat → Int32) (ab : Nat → Int64) (bl : Nat → Int64) (tn : Nat) (wo si t1 t2 : Int) (c0 : Int32) (VI : INV (th, sd, tp, n, sc, sp, px, py, pl, pk, N, M, ls, lv, lx, ly, ab, bl, tn)) : Ct l D (TY cI cJ cZ) yX8_noLoads cX8_noLoads 3 (some .int) 2 42 0 0 [.ref y0, .int c0] [(y0, .inr (8, [.int (nI n), .ref y1, .ref y2, .ref y3, .int sc, .int sp, .int (nI N), .ref y4, .ref y5, .ref y6, .ref y7, .ref y8, .ref y9, .ref y10, .ref y11, .ref y12, .int (nI tn), .ref y13, .ref y14, .long (zL wo), .long (zL si), .long (zL t1), .long (zL t2)])), (y1, .inl (cI, 6, .inl th)), (y2, .inl (cI, 6, .inl sd)), (y3, .inl (cI, 6, .inl tp)), (y4, .inl (cI, 12, .inl px)), (y5, .inl (cI, 12, .inl py)), (y6, .inl (cI, 12, .inl (fun i => nI (pl i)))), (y7, .inl (cI, 12, .inl pk)), (y8, .inl (cZ, 12, .inl (fun i => bI (M.testBit i)))), (y9, .inl (cI, 3, .inl (fun i => nI (ls i)))), (y10, .inl (cI, 18, .inl lv)), (y11, .inl (cI, 18, .inl lx)), (y12, .inl (cI, 18, .inl ly)), (y13, .inl (cJ, 15, .inr (.inl ab))), (y14, .inl (cJ, 15, .inr (.inl bl)))] (fun r w => ∃ X : Int × Int × Int × Int, r = some (.int (fNoLoads c0 (th, sd, tp, n, sc, sp, px, py, pl, pk, N, M, ls, lv, lx, ly, ab, bl, tn)).1) ∧ w = WM cI cJ cZ y0 y1 y2 y3 y4 y5 y6 y7 y8 y9 y10 y11 y12 y13 y14 (fNoLoads c0 (th, sd, tp, n, sc, sp, px, py, pl, pk, N, M, ls, lv, lx, ly, ab, bl, tn)).2 X) := by
  refine Ct.ofI (ty := .int) (by decide) (Nat.le_of_ble_eq_true rfl) ?_
  intro p e s m args below meth c A R Q F hnm hcs0 hE
  refine v_lv (lv' := [(0, .ref y0), (1, .int c0)]) [0, 1] rfl ?_
  obtain ⟨G, hsp, P, hM, hls, hlv, hlx, hly, htn⟩ := id VI
  have hn6 := G.1
  have hN12 := P.1
  have hM4 : M < 4096 := Nat.lt_of_lt_of_le hM (Nat.pow_le_pow_right (by omega) hN12)
  refine v_iload_n F dX8_noLoads_0 (i := 1) rfl 1 rfl (q := 1) rfl ?_
  refine v_callS F ml_X8_95 sm_X8_isCase in_X8 co_X8_isCase sd_X8_isCase (c_X8_isCase c0) ⟨Nat.zero_le _, Nat.zero_le _⟩ (Nat.le_of_ble_eq_true rfl) (Nat.le_of_ble_eq_true rfl) rfl [] rfl rfl rfl (rest := []) rfl (Nat.le_of_ble_eq_true rfl) dX8_noLoads_1 (q := 4) rfl (fun r w hr => ?_)
  obtain ⟨rfl, rfl⟩ := hr
  refine v_ws (ws' := [(y0, .inr (8, [.int (nI n), .ref y1, .ref y2, .ref y3, .int sc, .int sp, .int (nI N), .ref y4, .ref y5, .ref y6, .ref y7, .ref y8, .ref y9, .ref y10, .ref y11, .ref y12, .int (nI tn), .ref y13, .ref y14, .long (zL wo), .long (zL si), .long (zL t1), .long (zL t2)])), (y1, .inl (cI, 6, .inl th)), (y2, .inl (cI, 6, .inl sd)), (y3, .inl (cI, 6, .inl tp)), (y4, .inl (cI, 12, .inl px)), (y5, .inl (cI, 12, .inl py)), (y6, .inl (cI, 12, .inl (fun i => nI (pl i)))), (y7, .inl (cI, 12, .inl pk)), (y8, .inl (cZ, 12, .inl (fun i => bI (M.testBit i)))), (y9, .inl (cI, 3, .inl (fun i => nI (ls i)))), (y10, .inl (cI, 18, .inl lv)), (y11, .inl (cI, 18, .inl lx)), (y12, .inl (cI, 18, .inl ly)), (y13, .inl (cJ, 15, .inr (.inl ab))), (y14, .inl (cJ, 15, .inr (.inl bl)))]) rfl ?_
  refine v_st (st' := [.int (bI (inR c0 0 2))]) rfl ?_
  refine v_if_ne F dX8_noLoads_4 (tgt := 9) rfl (q := 7) rfl (fun c4 => ?_) (fun c4 => ?_)
  · skip
    rw [bI_nz] at c4
    obtain ⟨k, hk, rfl⟩ : ∃ k : Nat, k < 3 ∧ c0 = nI k := case_ex c4
    have hpk := pN_nI (k := k) (by omega)
    have hlk := hls k
    refine v_aload_n F dX8_noLoads_9 (i := 0) rfl 0 rfl (q := 10) rfl ?_
    refine gt_X8_35 F dX8_noLoads_10 0 rfl rfl (q := 13) rfl ?_
    refine v_iload_n F dX8_noLoads_13 (i := 1) rfl 1 rfl (q := 14) rfl ?_
    refine v_ialdN F 9 0 rfl rfl (j := k) (by omega) (by decide) dX8_noLoads_14 (q := 15) rfl ?_
    refine v_st (st' := [.int (nI (ls k))]) rfl ?_
    refine v_istore_n F dX8_noLoads_15 (i := 2) (lv' := [(2, .int (nI (ls k))), (0, .ref y0), (1, .int (nI k))]) rfl (Nat.le_of_ble_eq_true rfl) rfl (q := 16) rfl ?_
    refine v_aload_n F dX8_noLoads_16 (i := 0) rfl 1 rfl (q := 17) rfl ?_
    refine gt_X8_35 F dX8_noLoads_17 0 rfl rfl (q := 20) rfl ?_
    refine v_iload_n F dX8_noLoads_20 (i := 1) rfl 2 rfl (q := 21) rfl ?_
    refine v_iconst F dX8_noLoads_21 (v := 0) (q := 22) rfl rfl ?_
    refine v_iastN F 9 0 rfl rfl (j := k) (by omega) (by decide) dX8_noLoads_22 (q := 23) rfl ?_
    refine v_ws (ws' := [(y0, .inr (8, [.int (nI n), .ref y1, .ref y2, .ref y3, .int sc, .int sp, .int (nI N), .ref y4, .ref y5, .ref y6, .ref y7, .ref y8, .ref y9, .ref y10, .ref y11, .ref y12, .int (nI tn), .ref y13, .ref y14, .long (zL wo), .long (zL si), .long (zL t1), .long (zL t2)])), (y1, .inl (cI, 6, .inl th)), (y2, .inl (cI, 6, .inl sd)), (y3, .inl (cI, 6, .inl tp)), (y4, .inl (cI, 12, .inl px)), (y5, .inl (cI, 12, .inl py)), (y6, .inl (cI, 12, .inl (fun i => nI (pl i)))), (y7, .inl (cI, 12, .inl pk)), (y8, .inl (cZ, 12, .inl (fun i => bI (M.testBit i)))), (y9, .inl (cI, 3, .inl (upd (fun i => nI (ls i)) k 0))), (y10, .inl (cI, 18, .inl lv)), (y11, .inl (cI, 18, .inl lx)), (y12, .inl (cI, 18, .inl ly)), (y13, .inl (cJ, 15, .inr (.inl ab))), (y14, .inl (cJ, 15, .inr (.inl bl)))]) rfl ?_
    refine v_iload_n F dX8_noLoads_23 (i := 2) rfl 0 rfl (q := 24) rfl ?_
    exact hE rfl dX8_noLoads_24 (Nat.zero_le _) (Nat.zero_le _) ⟨(by have hf : fNoLoads (nI k) (th, sd, tp, n, sc, sp, px, py, pl, pk, N, M, ls, lv, lx, ly, ab, bl, tn) = (nI (ls k), (th, sd, tp, n, sc, sp, px, py, pl, pk, N, M, updN ls k 0, lv, lx, ly, ab, bl, tn)) := (by simp [fNoLoads, c4, hpk]); exact ⟨(wo, si, t1, t2), by rw [hf], by rw [hf]; rw [show upd (fun i => nI (ls i)) k 0 = _ from upd_nI (v := 0)]; rfl⟩), Nat.le_of_ble_eq_true rfl⟩
  · skip
    rw [bI_z] at c4
    refine v_iconst F dX8_noLoads_7 (v := (-1)) (q := 8) rfl rfl ?_
    exact hE rfl dX8_noLoads_8 (Nat.zero_le _) (Nat.zero_le _) ⟨(by have hf : fNoLoads c0 (th, sd, tp, n, sc, sp, px, py, pl, pk, N, M, ls, lv, lx, ly, ab, bl, tn) = (-1, (th, sd, tp, n, sc, sp, px, py, pl, pk, N, M, ls, lv, lx, ly, ab, bl, tn)) := (by simp [fNoLoads, c4]); exact ⟨(wo, si, t1, t2), by rw [hf], by rw [hf]; rfl⟩), Nat.le_of_ble_eq_true rfl⟩

set_option maxHeartbeats 4000000 in
set_option maxRecDepth 100000 in
theorem c_X8_number (y0 y1 y2 y3 y4 y5 y6 y7 y8 y9 y10 y11 y12 y13 y14 : Nat) (th : Nat → Int32) (sd : Nat → Int32) (tp : Nat → Int32) (n : Nat) (sc : Int32) (sp : Int32) (px : Nat → Int32) (py : Nat → Int32) (pl : Nat → Nat) (pk : Nat → Int32) (N : Nat) (M : Nat) (ls : Nat → Nat) (lv : Nat → Int32) (lx : Nat → Int32) (ly : Nat → Int32) (ab : Nat → Int64) (bl : Nat → Int64) (tn : Nat) (wo si t1 t2 : Int) (i1 what : Int32) (VI : INV (th, sd, tp, n, sc, sp, px, py, pl, pk, N, M, ls, lv, lx, ly, ab, bl, tn)) : Ct l D (TY cI cJ cZ) yX8_number cX8_number 3 (some .long) 1 22 0 0 [.ref y0, .int i1, .int what] [(y0, .inr (8, [.int (nI n), .ref y1, .ref y2, .ref y3, .int sc, .int sp, .int (nI N), .ref y4, .ref y5, .ref y6, .ref y7, .ref y8, .ref y9, .ref y10, .ref y11, .ref y12, .int (nI tn), .ref y13, .ref y14, .long (zL wo), .long (zL si), .long (zL t1), .long (zL t2)])), (y1, .inl (cI, 6, .inl th)), (y2, .inl (cI, 6, .inl sd)), (y3, .inl (cI, 6, .inl tp)), (y4, .inl (cI, 12, .inl px)), (y5, .inl (cI, 12, .inl py)), (y6, .inl (cI, 12, .inl (fun i => nI (pl i)))), (y7, .inl (cI, 12, .inl pk)), (y8, .inl (cZ, 12, .inl (fun i => bI (M.testBit i)))), (y9, .inl (cI, 3, .inl (fun i => nI (ls i)))), (y10, .inl (cI, 18, .inl lv)), (y11, .inl (cI, 18, .inl lx)), (y12, .inl (cI, 18, .inl ly)), (y13, .inl (cJ, 15, .inr (.inl ab))), (y14, .inl (cJ, 15, .inr (.inl bl)))] (fun r w => ∃ X : Int × Int × Int × Int, r = some (.long (fNumber i1 what (th, sd, tp, n, sc, sp, px, py, pl, pk, N, M, ls, lv, lx, ly, ab, bl, tn)).1) ∧ w = WM cI cJ cZ y0 y1 y2 y3 y4 y5 y6 y7 y8 y9 y10 y11 y12 y13 y14 (fNumber i1 what (th, sd, tp, n, sc, sp, px, py, pl, pk, N, M, ls, lv, lx, ly, ab, bl, tn)).2 X) := by
  refine Ct.ofL (by decide) (Nat.le_of_ble_eq_true rfl) ?_
  intro p e s m args below meth c A R Q F hnm hcs0 hE
  refine v_lv (lv' := [(0, .ref y0), (1, .int i1), (2, .int what)]) [0, 1, 2] rfl ?_
  obtain ⟨G, hsp, P, hM, hls, hlv, hlx, hly, htn⟩ := id VI
  have hn6 := G.1
  have hN12 := P.1
  have hM4 : M < 4096 := Nat.lt_of_lt_of_le hM (Nat.pow_le_pow_right (by omega) hN12)
  refine v_iload_n F dX8_number_0 (i := 1) rfl 1 rfl (q := 1) rfl ?_
  refine v_if_lt F dX8_number_1 (tgt := 13) rfl (q := 4) rfl (fun c1 => ?_) (fun c1 => ?_)
  · skip
    refine v_ldc2 F kc_X8_152 dX8_number_13 (q := 16) rfl ?_
    exact hE dX8_number_16 (Nat.zero_le _) (Nat.zero_le _) ⟨(by have hf : fNumber i1 what (th, sd, tp, n, sc, sp, px, py, pl, pk, N, M, ls, lv, lx, ly, ab, bl, tn) = (-1, (th, sd, tp, n, sc, sp, px, py, pl, pk, N, M, ls, lv, lx, ly, ab, bl, tn)) := (by simp only [fNumber]; rw [if_pos (Or.inl (by rw [Int32.lt_iff_toInt_lt] at c1; exact c1))]); exact ⟨(wo, si, t1, t2), by rw [hf], by rw [hf]; rfl⟩), Nat.le_of_ble_eq_true rfl⟩
  · skip
    refine v_iload_n F dX8_number_4 (i := 2) rfl 2 rfl (q := 5) rfl ?_
    refine v_iconst F dX8_number_5 (v := 0) (q := 6) rfl rfl ?_
    refine v_iconst F dX8_number_6 (v := 1) (q := 7) rfl rfl ?_
    refine v_callS F ml_X8_54 sm_X8_in in_X8 co_X8_in sd_X8_in (c_X8_in what 0 1) ⟨Nat.zero_le _, Nat.zero_le _⟩ (Nat.le_of_ble_eq_true rfl) (Nat.le_of_ble_eq_true rfl) rfl [] rfl rfl rfl (rest := []) rfl (Nat.le_of_ble_eq_true rfl) dX8_number_7 (q := 10) rfl (fun r w hr => ?_)
    obtain ⟨rfl, rfl⟩ := hr
    refine v_ws (ws' := [(y0, .inr (8, [.int (nI n), .ref y1, .ref y2, .ref y3, .int sc, .int sp, .int (nI N), .ref y4, .ref y5, .ref y6, .ref y7, .ref y8, .ref y9, .ref y10, .ref y11, .ref y12, .int (nI tn), .ref y13, .ref y14, .long (zL wo), .long (zL si), .long (zL t1), .long (zL t2)])), (y1, .inl (cI, 6, .inl th)), (y2, .inl (cI, 6, .inl sd)), (y3, .inl (cI, 6, .inl tp)), (y4, .inl (cI, 12, .inl px)), (y5, .inl (cI, 12, .inl py)), (y6, .inl (cI, 12, .inl (fun i => nI (pl i)))), (y7, .inl (cI, 12, .inl pk)), (y8, .inl (cZ, 12, .inl (fun i => bI (M.testBit i)))), (y9, .inl (cI, 3, .inl (fun i => nI (ls i)))), (y10, .inl (cI, 18, .inl lv)), (y11, .inl (cI, 18, .inl lx)), (y12, .inl (cI, 18, .inl ly)), (y13, .inl (cJ, 15, .inr (.inl ab))), (y14, .inl (cJ, 15, .inr (.inl bl)))]) rfl ?_
    refine v_st (st' := [.int (bI (inR what 0 1))]) rfl ?_
    refine v_if_ne F dX8_number_10 (tgt := 17) rfl (q := 13) rfl (fun c10 => ?_) (fun c10 => ?_)
    · skip
      rw [bI_nz] at c10
      refine v_iload_n F dX8_number_17 (i := 1) rfl 1 rfl (q := 18) rfl ?_
      refine v_aload_n F dX8_number_18 (i := 0) rfl 0 rfl (q := 19) rfl ?_
      refine gt_X8_130 F dX8_number_19 0 rfl rfl (q := 22) rfl ?_
      refine v_icmp_lt F dX8_number_22 (tgt := 31) rfl (q := 25) rfl (fun c22 => ?_) (fun c22 => ?_)
      · skip
        obtain ⟨k, hk, rfl⟩ : ∃ k : Nat, k < tn ∧ i1 = nI k := num_ex (by omega) c1 c22
        have hpk := pN_nI (k := k) (by omega)
        refine v_iload_n F dX8_number_31 (i := 2) rfl 2 rfl (q := 32) rfl ?_
        refine v_if_ne F dX8_number_32 (tgt := 44) rfl (q := 35) rfl (fun c32 => ?_) (fun c32 => ?_)
        · skip
          refine v_aload_n F dX8_number_44 (i := 0) rfl 0 rfl (q := 45) rfl ?_
          refine gt_X8_51 F dX8_number_45 0 rfl rfl (q := 48) rfl ?_
          refine v_iload_n F dX8_number_48 (i := 1) rfl 1 rfl (q := 49) rfl ?_
          refine v_laldN F 14 1 rfl rfl (j := k) (by omega) (by decide) dX8_number_49 (q := 50) rfl ?_
          exact hE dX8_number_50 (Nat.zero_le _) (Nat.zero_le _) ⟨(by have hf : fNumber (nI k) what (th, sd, tp, n, sc, sp, px, py, pl, pk, N, M, ls, lv, lx, ly, ab, bl, tn) = (bl k, (th, sd, tp, n, sc, sp, px, py, pl, pk, N, M, ls, lv, lx, ly, ab, bl, tn)) := (by simp only [fNumber]; rw [if_neg (fun z => z.elim (fun q => c1 (by rw [Int32.lt_iff_toInt_lt]; exact q)) (fun q => by rw [c10] at q; cases q)), if_neg (by rw [nI_toInt (by omega)]; omega), hpk, if_neg c32]); exact ⟨(wo, si, t1, t2), by rw [hf], by rw [hf]; rfl⟩), Nat.le_of_ble_eq_true rfl⟩
        · skip
          refine v_aload_n F dX8_number_35 (i := 0) rfl 0 rfl (q := 36) rfl ?_
          refine gt_X8_47 F dX8_number_36 0 rfl rfl (q := 39) rfl ?_
          refine v_iload_n F dX8_number_39 (i := 1) rfl 1 rfl (q := 40) rfl ?_
          refine v_laldN F 13 1 rfl rfl (j := k) (by omega) (by decide) dX8_number_40 (q := 41) rfl ?_
          refine v_goto F dX8_number_41 (tgt := 50) rfl ?_
          exact hE dX8_number_50 (Nat.zero_le _) (Nat.zero_le _) ⟨(by have hf : fNumber (nI k) what (th, sd, tp, n, sc, sp, px, py, pl, pk, N, M, ls, lv, lx, ly, ab, bl, tn) = (ab k, (th, sd, tp, n, sc, sp, px, py, pl, pk, N, M, ls, lv, lx, ly, ab, bl, tn)) := (by simp only [fNumber]; rw [if_neg (fun z => z.elim (fun q => c1 (by rw [Int32.lt_iff_toInt_lt]; exact q)) (fun q => by rw [c10] at q; cases q)), if_neg (by rw [nI_toInt (by omega)]; omega), hpk, if_pos c32]); exact ⟨(wo, si, t1, t2), by rw [hf], by rw [hf]; rfl⟩), Nat.le_of_ble_eq_true rfl⟩
      · skip
        refine v_ldc2 F kc_X8_154 dX8_number_25 (q := 28) rfl ?_
        refine v_goto F dX8_number_28 (tgt := 50) rfl ?_
        exact hE dX8_number_50 (Nat.zero_le _) (Nat.zero_le _) ⟨(by have hf : fNumber i1 what (th, sd, tp, n, sc, sp, px, py, pl, pk, N, M, ls, lv, lx, ly, ab, bl, tn) = (-4, (th, sd, tp, n, sc, sp, px, py, pl, pk, N, M, ls, lv, lx, ly, ab, bl, tn)) := (by simp only [fNumber]; rw [if_neg (fun z => z.elim (fun q => c1 (by rw [Int32.lt_iff_toInt_lt]; exact q)) (fun q => by rw [c10] at q; cases q)), if_pos (by rw [Int32.lt_iff_toInt_lt, nI_toInt (by omega)] at c22; omega)]); exact ⟨(wo, si, t1, t2), by rw [hf], by rw [hf]; rfl⟩), Nat.le_of_ble_eq_true rfl⟩
    · skip
      rw [bI_z] at c10
      refine v_ldc2 F kc_X8_152 dX8_number_13 (q := 16) rfl ?_
      exact hE dX8_number_16 (Nat.zero_le _) (Nat.zero_le _) ⟨(by have hf : fNumber i1 what (th, sd, tp, n, sc, sp, px, py, pl, pk, N, M, ls, lv, lx, ly, ab, bl, tn) = (-1, (th, sd, tp, n, sc, sp, px, py, pl, pk, N, M, ls, lv, lx, ly, ab, bl, tn)) := (by simp only [fNumber]; rw [if_pos (Or.inr c10)]); exact ⟨(wo, si, t1, t2), by rw [hf], by rw [hf]; rfl⟩), Nat.le_of_ble_eq_true rfl⟩

set_option maxHeartbeats 4000000 in
set_option maxRecDepth 100000 in
theorem c_X8_count (y0 y1 y2 y3 y4 y5 y6 y7 y8 y9 y10 y11 y12 y13 y14 : Nat) (th : Nat → Int32) (sd : Nat → Int32) (tp : Nat → Int32) (n : Nat) (sc : Int32) (sp : Int32) (px : Nat → Int32) (py : Nat → Int32) (pl : Nat → Nat) (pk : Nat → Int32) (N : Nat) (M : Nat) (ls : Nat → Nat) (lv : Nat → Int32) (lx : Nat → Int32) (ly : Nat → Int32) (ab : Nat → Int64) (bl : Nat → Int64) (tn : Nat) (wo si t1 t2 : Int) (what : Int32) (VI : INV (th, sd, tp, n, sc, sp, px, py, pl, pk, N, M, ls, lv, lx, ly, ab, bl, tn)) : Ct l D (TY cI cJ cZ) yX8_count cX8_count 4 (some .int) 0 0 0 0 [.ref y0, .int what] [(y0, .inr (8, [.int (nI n), .ref y1, .ref y2, .ref y3, .int sc, .int sp, .int (nI N), .ref y4, .ref y5, .ref y6, .ref y7, .ref y8, .ref y9, .ref y10, .ref y11, .ref y12, .int (nI tn), .ref y13, .ref y14, .long (zL wo), .long (zL si), .long (zL t1), .long (zL t2)])), (y1, .inl (cI, 6, .inl th)), (y2, .inl (cI, 6, .inl sd)), (y3, .inl (cI, 6, .inl tp)), (y4, .inl (cI, 12, .inl px)), (y5, .inl (cI, 12, .inl py)), (y6, .inl (cI, 12, .inl (fun i => nI (pl i)))), (y7, .inl (cI, 12, .inl pk)), (y8, .inl (cZ, 12, .inl (fun i => bI (M.testBit i)))), (y9, .inl (cI, 3, .inl (fun i => nI (ls i)))), (y10, .inl (cI, 18, .inl lv)), (y11, .inl (cI, 18, .inl lx)), (y12, .inl (cI, 18, .inl ly)), (y13, .inl (cJ, 15, .inr (.inl ab))), (y14, .inl (cJ, 15, .inr (.inl bl)))] (fun r w => ∃ X : Int × Int × Int × Int, r = some (.int (fCount what (th, sd, tp, n, sc, sp, px, py, pl, pk, N, M, ls, lv, lx, ly, ab, bl, tn)).1) ∧ w = WM cI cJ cZ y0 y1 y2 y3 y4 y5 y6 y7 y8 y9 y10 y11 y12 y13 y14 (fCount what (th, sd, tp, n, sc, sp, px, py, pl, pk, N, M, ls, lv, lx, ly, ab, bl, tn)).2 X) := by
  refine Ct.ofI (ty := .int) (by decide) (Nat.le_of_ble_eq_true rfl) ?_
  intro p e s m args below meth c A R Q F hnm hcs0 hE
  refine v_lv (lv' := [(0, .ref y0), (1, .int what)]) [0, 1] rfl ?_
  obtain ⟨G, hsp, P, hM, hls, hlv, hlx, hly, htn⟩ := id VI
  have hn6 := G.1
  have hN12 := P.1
  have hM4 : M < 4096 := Nat.lt_of_lt_of_le hM (Nat.pow_le_pow_right (by omega) hN12)
  have L4 : ∀ (d k : Nat), k + d = N → V p l e R s m args below meth c D A 4 0 0 Q 4 [(0, .ref y0), (1, .int what), (2, .int (nI (nsum (fun j => if M.testBit j then 1 else 0) k))), (3, .int (nI k))] [] [(y0, .inr (8, [.int (nI n), .ref y1, .ref y2, .ref y3, .int sc, .int sp, .int (nI N), .ref y4, .ref y5, .ref y6, .ref y7, .ref y8, .ref y9, .ref y10, .ref y11, .ref y12, .int (nI tn), .ref y13, .ref y14, .long (zL wo), .long (zL si), .long (zL t1), .long (zL t2)])), (y1, .inl (cI, 6, .inl th)), (y2, .inl (cI, 6, .inl sd)), (y3, .inl (cI, 6, .inl tp)), (y4, .inl (cI, 12, .inl px)), (y5, .inl (cI, 12, .inl py)), (y6, .inl (cI, 12, .inl (fun i => nI (pl i)))), (y7, .inl (cI, 12, .inl pk)), (y8, .inl (cZ, 12, .inl (fun i => bI (M.testBit i)))), (y9, .inl (cI, 3, .inl (fun i => nI (ls i)))), (y10, .inl (cI, 18, .inl lv)), (y11, .inl (cI, 18, .inl lx)), (y12, .inl (cI, 18, .inl ly)), (y13, .inl (cJ, 15, .inr (.inl ab))), (y14, .inl (cJ, 15, .inr (.inl bl)))] := by
    intro d
    induction d using Nat.strongRecOn with
    | _ d ih => ?_
    intro k hk
    refine v_iload_n F dX8_count_4 (i := 3) rfl 3 rfl (q := 5) rfl ?_
    refine v_aload_n F dX8_count_5 (i := 0) rfl 0 rfl (q := 6) rfl ?_
    refine gt_X8_75 F dX8_count_6 0 rfl rfl (q := 9) rfl ?_
    refine v_icmp_ge F dX8_count_9 (tgt := 35) rfl (q := 12) rfl (fun c9 => ?_) (fun c9 => ?_)
    · skip
      rw [nI_leI (by omega) (by omega)] at c9
      have hku : N = k := by omega
      subst hku
      refine v_iload_n F dX8_count_35 (i := 1) rfl 1 rfl (q := 36) rfl ?_
      refine v_if_ne F dX8_count_36 (tgt := 46) rfl (q := 39) rfl (fun c36 => ?_) (fun c36 => ?_)
      · skip
        refine v_iload_n F dX8_count_46 (i := 1) rfl 1 rfl (q := 47) rfl ?_
        refine v_iconst F dX8_count_47 (v := 1) (q := 48) rfl rfl ?_
        refine v_icmp_ne F dX8_count_48 (tgt := 58) rfl (q := 51) rfl (fun c48 => ?_) (fun c48 => ?_)
        · skip
          refine v_iload_n F dX8_count_58 (i := 1) rfl 1 rfl (q := 59) rfl ?_
          refine v_iconst F dX8_count_59 (v := 2) (q := 60) rfl rfl ?_
          refine v_icmp_ne F dX8_count_60 (tgt := 67) rfl (q := 63) rfl (fun c60 => ?_) (fun c60 => ?_)
          · skip
            refine v_iload_n F dX8_count_67 (i := 1) rfl 1 rfl (q := 68) rfl ?_
            refine v_iconst F dX8_count_68 (v := 3) (q := 69) rfl rfl ?_
            refine v_icmp_ne F dX8_count_69 (tgt := 95) rfl (q := 72) rfl (fun c69 => ?_) (fun c69 => ?_)
            · skip
              refine v_iconst F dX8_count_95 (v := (-1)) (q := 96) rfl rfl ?_
              exact hE rfl dX8_count_96 (Nat.zero_le _) (Nat.zero_le _) ⟨(by have hf : fCount what (th, sd, tp, n, sc, sp, px, py, pl, pk, N, M, ls, lv, lx, ly, ab, bl, tn) = (-1, (th, sd, tp, n, sc, sp, px, py, pl, pk, N, M, ls, lv, lx, ly, ab, bl, tn)) := (by simp [fCount, c36, c48, c60, c69]); exact ⟨(wo, si, t1, t2), by first | (rw [hf]; done) | (rw [hf]; exact congrArg (fun z => some (Value.int z)) (by first | rfl | exact (popc_N hM hN12).symm | (simp only [nI_add, nsum]; congr 1; omega))), by rw [hf]; rfl⟩), Nat.le_of_ble_eq_true rfl⟩
            · skip
              refine v_aload_n F dX8_count_72 (i := 0) rfl 0 rfl (q := 73) rfl ?_
              refine gt_X8_35 F dX8_count_73 0 rfl rfl (q := 76) rfl ?_
              refine v_iconst F dX8_count_76 (v := 0) (q := 77) rfl rfl ?_
              refine v_st (st' := [.int (nI 0), .ref y9]) rfl ?_
              refine v_ialdN F 9 0 rfl rfl (j := 0) (by omega) (by decide) dX8_count_77 (q := 78) rfl ?_
              refine v_st (st' := [.int (nI (ls 0))]) rfl ?_
              refine v_aload_n F dX8_count_78 (i := 0) rfl 0 rfl (q := 79) rfl ?_
              refine gt_X8_35 F dX8_count_79 0 rfl rfl (q := 82) rfl ?_
              refine v_iconst F dX8_count_82 (v := 1) (q := 83) rfl rfl ?_
              refine v_st (st' := [.int (nI 1), .ref y9, .int (nI (ls 0))]) rfl ?_
              refine v_ialdN F 9 0 rfl rfl (j := 1) (by omega) (by decide) dX8_count_83 (q := 84) rfl ?_
              refine v_st (st' := [.int (nI (ls 1)), .int (nI (ls 0))]) rfl ?_
              refine v_iadd F dX8_count_84 (q := 85) rfl ?_
              refine v_aload_n F dX8_count_85 (i := 0) rfl 0 rfl (q := 86) rfl ?_
              refine gt_X8_35 F dX8_count_86 0 rfl rfl (q := 89) rfl ?_
              refine v_iconst F dX8_count_89 (v := 2) (q := 90) rfl rfl ?_
              refine v_st (st' := [.int (nI 2), .ref y9, .int ((nI (ls 0)) + (nI (ls 1)))]) rfl ?_
              refine v_ialdN F 9 0 rfl rfl (j := 2) (by omega) (by decide) dX8_count_90 (q := 91) rfl ?_
              refine v_st (st' := [.int (nI (ls 2)), .int ((nI (ls 0)) + (nI (ls 1)))]) rfl ?_
              refine v_iadd F dX8_count_91 (q := 92) rfl ?_
              refine v_goto F dX8_count_92 (tgt := 96) rfl ?_
              exact hE rfl dX8_count_96 (Nat.zero_le _) (Nat.zero_le _) ⟨(by have hf : fCount what (th, sd, tp, n, sc, sp, px, py, pl, pk, N, M, ls, lv, lx, ly, ab, bl, tn) = (nI (nsum ls 3), (th, sd, tp, n, sc, sp, px, py, pl, pk, N, M, ls, lv, lx, ly, ab, bl, tn)) := (by simp [fCount, c36, c48, c60, c69]); exact ⟨(wo, si, t1, t2), by first | (rw [hf]; done) | (rw [hf]; exact congrArg (fun z => some (Value.int z)) (by first | rfl | exact (popc_N hM hN12).symm | (simp only [nI_add, nsum]; congr 1; omega))), by rw [hf]; rfl⟩), Nat.le_of_ble_eq_true rfl⟩
          · skip
            refine v_iload_n F dX8_count_63 (i := 2) rfl 2 rfl (q := 64) rfl ?_
            refine v_goto F dX8_count_64 (tgt := 96) rfl ?_
            exact hE rfl dX8_count_96 (Nat.zero_le _) (Nat.zero_le _) ⟨(by have hf : fCount what (th, sd, tp, n, sc, sp, px, py, pl, pk, N, M, ls, lv, lx, ly, ab, bl, tn) = (nI (popc M), (th, sd, tp, n, sc, sp, px, py, pl, pk, N, M, ls, lv, lx, ly, ab, bl, tn)) := (by simp [fCount, c36, c48, c60]); exact ⟨(wo, si, t1, t2), by first | (rw [hf]; done) | (rw [hf]; exact congrArg (fun z => some (Value.int z)) (by first | rfl | exact (popc_N hM hN12).symm | (simp only [nI_add, nsum]; congr 1; omega))), by rw [hf]; rfl⟩), Nat.le_of_ble_eq_true rfl⟩
        · skip
          refine v_aload_n F dX8_count_51 (i := 0) rfl 0 rfl (q := 52) rfl ?_
          refine gt_X8_75 F dX8_count_52 0 rfl rfl (q := 55) rfl ?_
          refine v_goto F dX8_count_55 (tgt := 96) rfl ?_
          exact hE rfl dX8_count_96 (Nat.zero_le _) (Nat.zero_le _) ⟨(by have hf : fCount what (th, sd, tp, n, sc, sp, px, py, pl, pk, N, M, ls, lv, lx, ly, ab, bl, tn) = (nI N, (th, sd, tp, n, sc, sp, px, py, pl, pk, N, M, ls, lv, lx, ly, ab, bl, tn)) := (by simp [fCount, c36, c48]); exact ⟨(wo, si, t1, t2), by first | (rw [hf]; done) | (rw [hf]; exact congrArg (fun z => some (Value.int z)) (by first | rfl | exact (popc_N hM hN12).symm | (simp only [nI_add, nsum]; congr 1; omega))), by rw [hf]; rfl⟩), Nat.le_of_ble_eq_true rfl⟩
      · skip
        refine v_aload_n F dX8_count_39 (i := 0) rfl 0 rfl (q := 40) rfl ?_
        refine gt_X8_58 F dX8_count_40 0 rfl rfl (q := 43) rfl ?_
        refine v_goto F dX8_count_43 (tgt := 96) rfl ?_
        exact hE rfl dX8_count_96 (Nat.zero_le _) (Nat.zero_le _) ⟨(by have hf : fCount what (th, sd, tp, n, sc, sp, px, py, pl, pk, N, M, ls, lv, lx, ly, ab, bl, tn) = (nI n, (th, sd, tp, n, sc, sp, px, py, pl, pk, N, M, ls, lv, lx, ly, ab, bl, tn)) := (by simp [fCount, c36]); exact ⟨(wo, si, t1, t2), by first | (rw [hf]; done) | (rw [hf]; exact congrArg (fun z => some (Value.int z)) (by first | rfl | exact (popc_N hM hN12).symm | (simp only [nI_add, nsum]; congr 1; omega))), by rw [hf]; rfl⟩), Nat.le_of_ble_eq_true rfl⟩
    · skip
      rw [nI_leI (by omega) (by omega)] at c9
      obtain ⟨d, rfl⟩ : ∃ d2, d = d2 + 1 := ⟨d - 1, by omega⟩
      refine v_iload_n F dX8_count_12 (i := 2) rfl 2 rfl (q := 13) rfl ?_
      refine v_aload_n F dX8_count_13 (i := 0) rfl 0 rfl (q := 14) rfl ?_
      refine gt_X8_31 F dX8_count_14 0 rfl rfl (q := 17) rfl ?_
      refine v_iload_n F dX8_count_17 (i := 3) rfl 3 rfl (q := 18) rfl ?_
      refine v_zaldN F 8 2 rfl rfl (j := k) (by omega) (by decide) dX8_count_18 (q := 19) rfl ?_
      refine v_st (st' := [.int (bI (M.testBit k)), .int (nI (nsum (fun j => if M.testBit j then 1 else 0) k))]) rfl ?_
      refine v_if_eq F dX8_count_19 (tgt := 26) rfl (q := 22) rfl (fun c19 => ?_) (fun c19 => ?_)
      · skip
        rw [bI_z] at c19
        refine v_iconst F dX8_count_26 (v := 0) (q := 27) rfl rfl ?_
        refine v_iadd F dX8_count_27 (q := 28) rfl ?_
        refine v_int (y := nI (nsum (fun j => if M.testBit j then 1 else 0) (k + 1))) (ct_f c19) ?_
        refine v_istore_n F dX8_count_28 (i := 2) (lv' := [(2, .int (nI (nsum (fun j => if M.testBit j then 1 else 0) (k + 1)))), (0, .ref y0), (1, .int what), (3, .int (nI k))]) rfl (Nat.le_of_ble_eq_true rfl) rfl (q := 29) rfl ?_
        refine v_iinc F dX8_count_29 3 rfl (v := nI (k + 1)) (lv' := [(3, .int (nI (k + 1))), (2, .int (nI (nsum (fun j => if M.testBit j then 1 else 0) (k + 1)))), (0, .ref y0), (1, .int what)]) (nI_1 k) (Nat.le_of_ble_eq_true rfl) rfl (q := 32) rfl ?_
        refine v_goto F dX8_count_32 (tgt := 4) rfl ?_
        refine v_lv (lv' := [(0, .ref y0), (1, .int what), (2, .int (nI (nsum (fun j => if M.testBit j then 1 else 0) (k + 1)))), (3, .int (nI (k + 1)))]) [2, 3, 1, 0] rfl ?_
        exact ih d (by omega) (k + 1) (by omega)
      · skip
        rw [bI_nz] at c19
        refine v_iconst F dX8_count_22 (v := 1) (q := 23) rfl rfl ?_
        refine v_goto F dX8_count_23 (tgt := 27) rfl ?_
        refine v_iadd F dX8_count_27 (q := 28) rfl ?_
        refine v_int (y := nI (nsum (fun j => if M.testBit j then 1 else 0) (k + 1))) (ct_t c19) ?_
        refine v_istore_n F dX8_count_28 (i := 2) (lv' := [(2, .int (nI (nsum (fun j => if M.testBit j then 1 else 0) (k + 1)))), (0, .ref y0), (1, .int what), (3, .int (nI k))]) rfl (Nat.le_of_ble_eq_true rfl) rfl (q := 29) rfl ?_
        refine v_iinc F dX8_count_29 3 rfl (v := nI (k + 1)) (lv' := [(3, .int (nI (k + 1))), (2, .int (nI (nsum (fun j => if M.testBit j then 1 else 0) (k + 1)))), (0, .ref y0), (1, .int what)]) (nI_1 k) (Nat.le_of_ble_eq_true rfl) rfl (q := 32) rfl ?_
        refine v_goto F dX8_count_32 (tgt := 4) rfl ?_
        refine v_lv (lv' := [(0, .ref y0), (1, .int what), (2, .int (nI (nsum (fun j => if M.testBit j then 1 else 0) (k + 1)))), (3, .int (nI (k + 1)))]) [2, 3, 1, 0] rfl ?_
        exact ih d (by omega) (k + 1) (by omega)
  refine v_iconst F dX8_count_0 (v := 0) (q := 1) rfl rfl ?_
  refine v_istore_n F dX8_count_1 (i := 2) (lv' := [(2, .int 0), (0, .ref y0), (1, .int what)]) rfl (Nat.le_of_ble_eq_true rfl) rfl (q := 2) rfl ?_
  refine v_iconst F dX8_count_2 (v := 0) (q := 3) rfl rfl ?_
  refine v_istore_n F dX8_count_3 (i := 3) (lv' := [(3, .int 0), (2, .int 0), (0, .ref y0), (1, .int what)]) rfl (Nat.le_of_ble_eq_true rfl) rfl (q := 4) rfl ?_
  refine v_lv (lv' := [(0, .ref y0), (1, .int what), (2, .int 0), (3, .int 0)]) [2, 3, 1, 0] rfl ?_
  exact L4 N 0 (by omega)

end MO
