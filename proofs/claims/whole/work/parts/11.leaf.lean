section LF
variable {l : Launch} {D : va_G} {cI cJ cZ : ClassId}
set_option maxHeartbeats 4000000 in
set_option maxRecDepth 100000 in
theorem c_X2_has (g ga gb gc : Nat) (th sd tp : Nat → Int32) (n : Nat) (sc : Int32) (p0 : Int32) (hn : n < 1000) : Ct l D (TY cI cJ cZ) yX2_has cX2_has 2 (some .boolean) 0 0 0 0 [.ref g, .int p0] [(g, .inr (2, [.ref ga, .ref gb, .ref gc, .int (nI n), .int sc])), (ga, .inl (cI, 6, .inl th)), (gb, .inl (cI, 6, .inl sd)), (gc, .inl (cI, 6, .inl tp))] (fun r w => r = some (.int (bI (hasB p0 n))) ∧ w = [(g, .inr (2, [.ref ga, .ref gb, .ref gc, .int (nI n), .int sc])), (ga, .inl (cI, 6, .inl th)), (gb, .inl (cI, 6, .inl sd)), (gc, .inl (cI, 6, .inl tp))]) := by
  refine Ct.ofI (ty := .boolean) (by decide) (Nat.le_of_ble_eq_true rfl) ?_
  intro p e s m args below meth c A R Q F hnm hcs0 hE
  refine v_lv (lv' := [(0, .ref g), (1, .int p0)]) [0, 1] rfl ?_
  refine v_iload_n F dX2_has_0 (i := 1) rfl 1 rfl (q := 1) rfl ?_
  refine v_if_lt F dX2_has_1 (tgt := 16) rfl (q := 4) rfl (fun c1 => ?_) (fun c1 => ?_)
  · skip
    refine v_iconst F dX2_has_16 (v := 0) (q := 17) rfl rfl ?_
    exact hE (by first | rfl | exact bI_nar _) dX2_has_17 (Nat.zero_le _) (Nat.zero_le _) ⟨⟨by first | rw [hasB_f1 c1] | rw [hasB_f2 hn c9], rfl⟩, Nat.le_of_ble_eq_true rfl⟩
  · skip
    refine v_iload_n F dX2_has_4 (i := 1) rfl 1 rfl (q := 5) rfl ?_
    refine v_aload_n F dX2_has_5 (i := 0) rfl 0 rfl (q := 6) rfl ?_
    refine gt_X2_21 F dX2_has_6 0 rfl rfl (q := 9) rfl ?_
    refine v_icmp_ge F dX2_has_9 (tgt := 16) rfl (q := 12) rfl (fun c9 => ?_) (fun c9 => ?_)
    · skip
      refine v_iconst F dX2_has_16 (v := 0) (q := 17) rfl rfl ?_
      exact hE (by first | rfl | exact bI_nar _) dX2_has_17 (Nat.zero_le _) (Nat.zero_le _) ⟨⟨by first | rw [hasB_f1 c1] | rw [hasB_f2 hn c9], rfl⟩, Nat.le_of_ble_eq_true rfl⟩
    · skip
      refine v_iconst F dX2_has_12 (v := 1) (q := 13) rfl rfl ?_
      refine v_goto F dX2_has_13 (tgt := 17) rfl ?_
      exact hE (by first | rfl | exact bI_nar _) dX2_has_17 (Nat.zero_le _) (Nat.zero_le _) ⟨⟨by rw [hasB_t hn c1 c9], rfl⟩, Nat.le_of_ble_eq_true rfl⟩

set_option maxHeartbeats 4000000 in
set_option maxRecDepth 100000 in
theorem c_X2_add (g ga gb gc : Nat) (th sd tp : Nat → Int32) (n : Nat) (sc : Int32) (t0 s0 p0 : Int32) (hn : n < 6) : Ct l D (TY cI cJ cZ) yX2_add cX2_add 4 (some .int) 0 0 0 0 [.ref g, .int t0, .int s0, .int p0] [(g, .inr (2, [.ref ga, .ref gb, .ref gc, .int (nI n), .int sc])), (ga, .inl (cI, 6, .inl th)), (gb, .inl (cI, 6, .inl sd)), (gc, .inl (cI, 6, .inl tp))] (fun r w => r = some (.int (nI n)) ∧ w = [(g, .inr (2, [.ref ga, .ref gb, .ref gc, .int (nI (n + 1)), .int sc])), (ga, .inl (cI, 6, .inl (upd th n t0))), (gb, .inl (cI, 6, .inl (upd sd n s0))), (gc, .inl (cI, 6, .inl (upd tp n p0)))]) := by
  refine Ct.ofI (ty := .int) (by decide) (Nat.le_of_ble_eq_true rfl) ?_
  intro p e s m args below meth c A R Q F hnm hcs0 hE
  refine v_lv (lv' := [(0, .ref g), (1, .int t0), (2, .int s0), (3, .int p0)]) [0, 1, 2, 3] rfl ?_
  refine v_aload_n F dX2_add_0 (i := 0) rfl 0 rfl (q := 1) rfl ?_
  refine gt_X2_9 F dX2_add_1 0 rfl rfl (q := 4) rfl ?_
  refine v_aload_n F dX2_add_4 (i := 0) rfl 0 rfl (q := 5) rfl ?_
  refine gt_X2_21 F dX2_add_5 0 rfl rfl (q := 8) rfl ?_
  refine v_iload_n F dX2_add_8 (i := 1) rfl 1 rfl (q := 9) rfl ?_
  refine v_iastN F 1 0 rfl rfl (j := n) (by omega) (by decide) dX2_add_9 (q := 10) rfl ?_
  refine v_ws (ws' := [(g, .inr (2, [.ref ga, .ref gb, .ref gc, .int (nI n), .int sc])), (ga, .inl (cI, 6, .inl (upd th n t0))), (gb, .inl (cI, 6, .inl sd)), (gc, .inl (cI, 6, .inl tp))]) rfl ?_
  refine v_aload_n F dX2_add_10 (i := 0) rfl 0 rfl (q := 11) rfl ?_
  refine gt_X2_15 F dX2_add_11 0 rfl rfl (q := 14) rfl ?_
  refine v_aload_n F dX2_add_14 (i := 0) rfl 0 rfl (q := 15) rfl ?_
  refine gt_X2_21 F dX2_add_15 0 rfl rfl (q := 18) rfl ?_
  refine v_iload_n F dX2_add_18 (i := 2) rfl 2 rfl (q := 19) rfl ?_
  refine v_iastN F 2 0 rfl rfl (j := n) (by omega) (by decide) dX2_add_19 (q := 20) rfl ?_
  refine v_ws (ws' := [(g, .inr (2, [.ref ga, .ref gb, .ref gc, .int (nI n), .int sc])), (ga, .inl (cI, 6, .inl (upd th n t0))), (gb, .inl (cI, 6, .inl (upd sd n s0))), (gc, .inl (cI, 6, .inl tp))]) rfl ?_
  refine v_aload_n F dX2_add_20 (i := 0) rfl 0 rfl (q := 21) rfl ?_
  refine gt_X2_18 F dX2_add_21 0 rfl rfl (q := 24) rfl ?_
  refine v_aload_n F dX2_add_24 (i := 0) rfl 0 rfl (q := 25) rfl ?_
  refine gt_X2_21 F dX2_add_25 0 rfl rfl (q := 28) rfl ?_
  refine v_iload_n F dX2_add_28 (i := 3) rfl 3 rfl (q := 29) rfl ?_
  refine v_iastN F 3 0 rfl rfl (j := n) (by omega) (by decide) dX2_add_29 (q := 30) rfl ?_
  refine v_ws (ws' := [(g, .inr (2, [.ref ga, .ref gb, .ref gc, .int (nI n), .int sc])), (ga, .inl (cI, 6, .inl (upd th n t0))), (gb, .inl (cI, 6, .inl (upd sd n s0))), (gc, .inl (cI, 6, .inl (upd tp n p0)))]) rfl ?_
  refine v_aload_n F dX2_add_30 (i := 0) rfl 0 rfl (q := 31) rfl ?_
  refine v_dup F dX2_add_31 rfl (q := 32) rfl ?_
  refine gt_X2_21 F dX2_add_32 0 rfl rfl (q := 35) rfl ?_
  refine v_iconst F dX2_add_35 (v := 1) (q := 36) rfl rfl ?_
  refine v_iadd F dX2_add_36 (q := 37) rfl ?_
  refine v_int (y := nI (n + 1)) (nI_1 n) ?_
  refine pt_X2_21 F dX2_add_37 0 rfl (Nat.le_of_ble_eq_true rfl) (q := 40) rfl ?_
  refine v_ws (ws' := [(g, .inr (2, [.ref ga, .ref gb, .ref gc, .int (nI (n + 1)), .int sc])), (ga, .inl (cI, 6, .inl (upd th n t0))), (gb, .inl (cI, 6, .inl (upd sd n s0))), (gc, .inl (cI, 6, .inl (upd tp n p0)))]) rfl ?_
  refine v_aload_n F dX2_add_40 (i := 0) rfl 0 rfl (q := 41) rfl ?_
  refine gt_X2_21 F dX2_add_41 0 rfl rfl (q := 44) rfl ?_
  refine v_iconst F dX2_add_44 (v := 1) (q := 45) rfl rfl ?_
  refine v_isub F dX2_add_45 (q := 46) rfl ?_
  refine v_int (y := nI n) (nI_pred n) ?_
  exact hE rfl dX2_add_46 (Nat.zero_le _) (Nat.zero_le _) ⟨⟨rfl, rfl⟩, Nat.le_of_ble_eq_true rfl⟩

set_option maxHeartbeats 4000000 in
set_option maxRecDepth 100000 in
theorem c_X2_setSide (g ga gb gc : Nat) (th sd tp : Nat → Int32) (n : Nat) (sc : Int32) (k : Nat) (v0 : Int32) (hk : k < 6) : Ct l D (TY cI cJ cZ) yX2_setSide cX2_setSide 4 (some .int) 0 0 0 0 [.ref g, .int (nI k), .int v0] [(g, .inr (2, [.ref ga, .ref gb, .ref gc, .int (nI n), .int sc])), (ga, .inl (cI, 6, .inl th)), (gb, .inl (cI, 6, .inl sd)), (gc, .inl (cI, 6, .inl tp))] (fun r w => r = some (.int (sd k)) ∧ w = [(g, .inr (2, [.ref ga, .ref gb, .ref gc, .int (nI n), .int sc])), (ga, .inl (cI, 6, .inl th)), (gb, .inl (cI, 6, .inl (upd sd k v0))), (gc, .inl (cI, 6, .inl tp))]) := by
  refine Ct.ofI (ty := .int) (by decide) (Nat.le_of_ble_eq_true rfl) ?_
  intro p e s m args below meth c A R Q F hnm hcs0 hE
  refine v_lv (lv' := [(0, .ref g), (1, .int (nI k)), (2, .int v0)]) [0, 1, 2] rfl ?_
  refine v_aload_n F dX2_setSide_0 (i := 0) rfl 0 rfl (q := 1) rfl ?_
  refine gt_X2_15 F dX2_setSide_1 0 rfl rfl (q := 4) rfl ?_
  refine v_iload_n F dX2_setSide_4 (i := 1) rfl 1 rfl (q := 5) rfl ?_
  refine v_ialdN F 2 0 rfl rfl (j := k) (by omega) (by decide) dX2_setSide_5 (q := 6) rfl ?_
  refine v_istore_n F dX2_setSide_6 (i := 3) (lv' := [(3, .int (sd k)), (0, .ref g), (1, .int (nI k)), (2, .int v0)]) rfl (Nat.le_of_ble_eq_true rfl) rfl (q := 7) rfl ?_
  refine v_aload_n F dX2_setSide_7 (i := 0) rfl 1 rfl (q := 8) rfl ?_
  refine gt_X2_15 F dX2_setSide_8 0 rfl rfl (q := 11) rfl ?_
  refine v_iload_n F dX2_setSide_11 (i := 1) rfl 2 rfl (q := 12) rfl ?_
  refine v_iload_n F dX2_setSide_12 (i := 2) rfl 3 rfl (q := 13) rfl ?_
  refine v_iastN F 2 0 rfl rfl (j := k) (by omega) (by decide) dX2_setSide_13 (q := 14) rfl ?_
  refine v_ws (ws' := [(g, .inr (2, [.ref ga, .ref gb, .ref gc, .int (nI n), .int sc])), (ga, .inl (cI, 6, .inl th)), (gb, .inl (cI, 6, .inl (upd sd k v0))), (gc, .inl (cI, 6, .inl tp))]) rfl ?_
  refine v_iload_n F dX2_setSide_14 (i := 3) rfl 0 rfl (q := 15) rfl ?_
  exact hE rfl dX2_setSide_15 (Nat.zero_le _) (Nat.zero_le _) ⟨⟨rfl, rfl⟩, Nat.le_of_ble_eq_true rfl⟩

set_option maxHeartbeats 4000000 in
set_option maxRecDepth 100000 in
theorem c_X2_setTip (g ga gb gc : Nat) (th sd tp : Nat → Int32) (n : Nat) (sc : Int32) (k : Nat) (v0 : Int32) (hk : k < 6) : Ct l D (TY cI cJ cZ) yX2_setTip cX2_setTip 4 (some .int) 0 0 0 0 [.ref g, .int (nI k), .int v0] [(g, .inr (2, [.ref ga, .ref gb, .ref gc, .int (nI n), .int sc])), (ga, .inl (cI, 6, .inl th)), (gb, .inl (cI, 6, .inl sd)), (gc, .inl (cI, 6, .inl tp))] (fun r w => r = some (.int (tp k)) ∧ w = [(g, .inr (2, [.ref ga, .ref gb, .ref gc, .int (nI n), .int sc])), (ga, .inl (cI, 6, .inl th)), (gb, .inl (cI, 6, .inl sd)), (gc, .inl (cI, 6, .inl (upd tp k v0)))]) := by
  refine Ct.ofI (ty := .int) (by decide) (Nat.le_of_ble_eq_true rfl) ?_
  intro p e s m args below meth c A R Q F hnm hcs0 hE
  refine v_lv (lv' := [(0, .ref g), (1, .int (nI k)), (2, .int v0)]) [0, 1, 2] rfl ?_
  refine v_aload_n F dX2_setTip_0 (i := 0) rfl 0 rfl (q := 1) rfl ?_
  refine gt_X2_18 F dX2_setTip_1 0 rfl rfl (q := 4) rfl ?_
  refine v_iload_n F dX2_setTip_4 (i := 1) rfl 1 rfl (q := 5) rfl ?_
  refine v_ialdN F 3 0 rfl rfl (j := k) (by omega) (by decide) dX2_setTip_5 (q := 6) rfl ?_
  refine v_istore_n F dX2_setTip_6 (i := 3) (lv' := [(3, .int (tp k)), (0, .ref g), (1, .int (nI k)), (2, .int v0)]) rfl (Nat.le_of_ble_eq_true rfl) rfl (q := 7) rfl ?_
  refine v_aload_n F dX2_setTip_7 (i := 0) rfl 1 rfl (q := 8) rfl ?_
  refine gt_X2_18 F dX2_setTip_8 0 rfl rfl (q := 11) rfl ?_
  refine v_iload_n F dX2_setTip_11 (i := 1) rfl 2 rfl (q := 12) rfl ?_
  refine v_iload_n F dX2_setTip_12 (i := 2) rfl 3 rfl (q := 13) rfl ?_
  refine v_iastN F 3 0 rfl rfl (j := k) (by omega) (by decide) dX2_setTip_13 (q := 14) rfl ?_
  refine v_ws (ws' := [(g, .inr (2, [.ref ga, .ref gb, .ref gc, .int (nI n), .int sc])), (ga, .inl (cI, 6, .inl th)), (gb, .inl (cI, 6, .inl sd)), (gc, .inl (cI, 6, .inl (upd tp k v0)))]) rfl ?_
  refine v_iload_n F dX2_setTip_14 (i := 3) rfl 0 rfl (q := 15) rfl ?_
  exact hE rfl dX2_setTip_15 (Nat.zero_le _) (Nat.zero_le _) ⟨⟨rfl, rfl⟩, Nat.le_of_ble_eq_true rfl⟩

set_option maxHeartbeats 4000000 in
set_option maxRecDepth 100000 in
theorem c_X2_setScour (g ga gb gc : Nat) (th sd tp : Nat → Int32) (n : Nat) (sc : Int32) (v0 : Int32)  : Ct l D (TY cI cJ cZ) yX2_setScour cX2_setScour 3 (some .int) 0 0 0 0 [.ref g, .int v0] [(g, .inr (2, [.ref ga, .ref gb, .ref gc, .int (nI n), .int sc])), (ga, .inl (cI, 6, .inl th)), (gb, .inl (cI, 6, .inl sd)), (gc, .inl (cI, 6, .inl tp))] (fun r w => r = some (.int sc) ∧ w = [(g, .inr (2, [.ref ga, .ref gb, .ref gc, .int (nI n), .int v0])), (ga, .inl (cI, 6, .inl th)), (gb, .inl (cI, 6, .inl sd)), (gc, .inl (cI, 6, .inl tp))]) := by
  refine Ct.ofI (ty := .int) (by decide) (Nat.le_of_ble_eq_true rfl) ?_
  intro p e s m args below meth c A R Q F hnm hcs0 hE
  refine v_lv (lv' := [(0, .ref g), (1, .int v0)]) [0, 1] rfl ?_
  refine v_aload_n F dX2_setScour_0 (i := 0) rfl 0 rfl (q := 1) rfl ?_
  refine gt_X2_25 F dX2_setScour_1 0 rfl rfl (q := 4) rfl ?_
  refine v_istore_n F dX2_setScour_4 (i := 2) (lv' := [(2, .int sc), (0, .ref g), (1, .int v0)]) rfl (Nat.le_of_ble_eq_true rfl) rfl (q := 5) rfl ?_
  refine v_aload_n F dX2_setScour_5 (i := 0) rfl 1 rfl (q := 6) rfl ?_
  refine v_iload_n F dX2_setScour_6 (i := 1) rfl 2 rfl (q := 7) rfl ?_
  refine pt_X2_25 F dX2_setScour_7 0 rfl (Nat.le_of_ble_eq_true rfl) (q := 10) rfl ?_
  refine v_ws (ws' := [(g, .inr (2, [.ref ga, .ref gb, .ref gc, .int (nI n), .int v0])), (ga, .inl (cI, 6, .inl th)), (gb, .inl (cI, 6, .inl sd)), (gc, .inl (cI, 6, .inl tp))]) rfl ?_
  refine v_iload_n F dX2_setScour_10 (i := 2) rfl 0 rfl (q := 11) rfl ?_
  exact hE rfl dX2_setScour_11 (Nat.zero_le _) (Nat.zero_le _) ⟨⟨rfl, rfl⟩, Nat.le_of_ble_eq_true rfl⟩

set_option maxHeartbeats 4000000 in
set_option maxRecDepth 100000 in
theorem c_X5_has (h ha hb hc hd : Nat) (px py : Nat → Int32) (pl : Nat → Nat) (pk : Nat → Int32) (N M : Nat) (p0 : Int32) (hn : N < 1000) : Ct l D (TY cI cJ cZ) yX5_has cX5_has 2 (some .boolean) 0 0 0 0 [.ref h, .int p0] [(h, .inr (5, [.ref ha, .ref hb, .ref hc, .ref hd, .int (nI M), .int (nI N)])), (ha, .inl (cI, 12, .inl px)), (hb, .inl (cI, 12, .inl py)), (hc, .inl (cI, 12, .inl (fun i => nI (pl i)))), (hd, .inl (cI, 12, .inl pk))] (fun r w => r = some (.int (bI (hasB p0 N))) ∧ w = [(h, .inr (5, [.ref ha, .ref hb, .ref hc, .ref hd, .int (nI M), .int (nI N)])), (ha, .inl (cI, 12, .inl px)), (hb, .inl (cI, 12, .inl py)), (hc, .inl (cI, 12, .inl (fun i => nI (pl i)))), (hd, .inl (cI, 12, .inl pk))]) := by
  refine Ct.ofI (ty := .boolean) (by decide) (Nat.le_of_ble_eq_true rfl) ?_
  intro p e s m args below meth c A R Q F hnm hcs0 hE
  refine v_lv (lv' := [(0, .ref h), (1, .int p0)]) [0, 1] rfl ?_
  refine v_iload_n F dX5_has_0 (i := 1) rfl 1 rfl (q := 1) rfl ?_
  refine v_if_lt F dX5_has_1 (tgt := 16) rfl (q := 4) rfl (fun c1 => ?_) (fun c1 => ?_)
  · skip
    refine v_iconst F dX5_has_16 (v := 0) (q := 17) rfl rfl ?_
    exact hE (by first | rfl | exact bI_nar _) dX5_has_17 (Nat.zero_le _) (Nat.zero_le _) ⟨⟨by first | rw [hasB_f1 c1] | rw [hasB_f2 hn c9], rfl⟩, Nat.le_of_ble_eq_true rfl⟩
  · skip
    refine v_iload_n F dX5_has_4 (i := 1) rfl 1 rfl (q := 5) rfl ?_
    refine v_aload_n F dX5_has_5 (i := 0) rfl 0 rfl (q := 6) rfl ?_
    refine gt_X5_28 F dX5_has_6 0 rfl rfl (q := 9) rfl ?_
    refine v_icmp_ge F dX5_has_9 (tgt := 16) rfl (q := 12) rfl (fun c9 => ?_) (fun c9 => ?_)
    · skip
      refine v_iconst F dX5_has_16 (v := 0) (q := 17) rfl rfl ?_
      exact hE (by first | rfl | exact bI_nar _) dX5_has_17 (Nat.zero_le _) (Nat.zero_le _) ⟨⟨by first | rw [hasB_f1 c1] | rw [hasB_f2 hn c9], rfl⟩, Nat.le_of_ble_eq_true rfl⟩
    · skip
      refine v_iconst F dX5_has_12 (v := 1) (q := 13) rfl rfl ?_
      refine v_goto F dX5_has_13 (tgt := 17) rfl ?_
      exact hE (by first | rfl | exact bI_nar _) dX5_has_17 (Nat.zero_le _) (Nat.zero_le _) ⟨⟨by rw [hasB_t hn c1 c9], rfl⟩, Nat.le_of_ble_eq_true rfl⟩

set_option maxHeartbeats 4000000 in
set_option maxRecDepth 100000 in
theorem c_X5_isWhole (h ha hb hc hd : Nat) (px py : Nat → Int32) (pl : Nat → Nat) (pk : Nat → Int32) (N M : Nat) (k : Nat) (hM : M < 4096) (hk : k < 12) : Ct l D (TY cI cJ cZ) yX5_isWhole cX5_isWhole 2 (some .boolean) 0 0 0 0 [.ref h, .int (nI k)] [(h, .inr (5, [.ref ha, .ref hb, .ref hc, .ref hd, .int (nI M), .int (nI N)])), (ha, .inl (cI, 12, .inl px)), (hb, .inl (cI, 12, .inl py)), (hc, .inl (cI, 12, .inl (fun i => nI (pl i)))), (hd, .inl (cI, 12, .inl pk))] (fun r w => r = some (.int (bI (M.testBit k))) ∧ w = [(h, .inr (5, [.ref ha, .ref hb, .ref hc, .ref hd, .int (nI M), .int (nI N)])), (ha, .inl (cI, 12, .inl px)), (hb, .inl (cI, 12, .inl py)), (hc, .inl (cI, 12, .inl (fun i => nI (pl i)))), (hd, .inl (cI, 12, .inl pk))]) := by
  refine Ct.ofI (ty := .boolean) (by decide) (Nat.le_of_ble_eq_true rfl) ?_
  intro p e s m args below meth c A R Q F hnm hcs0 hE
  refine v_lv (lv' := [(0, .ref h), (1, .int (nI k))]) [0, 1] rfl ?_
  refine v_aload_n F dX5_isWhole_0 (i := 0) rfl 0 rfl (q := 1) rfl ?_
  refine gt_X5_24 F dX5_isWhole_1 0 rfl rfl (q := 4) rfl ?_
  refine v_iload_n F dX5_isWhole_4 (i := 1) rfl 1 rfl (q := 5) rfl ?_
  refine v_ishr F dX5_isWhole_5 (q := 6) rfl ?_
  refine v_iconst F dX5_isWhole_6 (v := 1) (q := 7) rfl rfl ?_
  refine v_iand F dX5_isWhole_7 (q := 8) rfl ?_
  refine v_int (y := bI (M.testBit k)) (sh_bit hM (by omega)) ?_
  refine v_if_eq F dX5_isWhole_8 (tgt := 15) rfl (q := 11) rfl (fun c8 => ?_) (fun c8 => ?_)
  · skip
    refine v_iconst F dX5_isWhole_15 (v := 0) (q := 16) rfl rfl ?_
    exact hE rfl dX5_isWhole_16 (Nat.zero_le _) (Nat.zero_le _) ⟨⟨by rw [c8], rfl⟩, Nat.le_of_ble_eq_true rfl⟩
  · skip
    refine v_iconst F dX5_isWhole_11 (v := 1) (q := 12) rfl rfl ?_
    refine v_goto F dX5_isWhole_12 (tgt := 16) rfl ?_
    exact hE rfl dX5_isWhole_16 (Nat.zero_le _) (Nat.zero_le _) ⟨⟨by rw [bI_o.mpr (bI_nz.mp c8)], rfl⟩, Nat.le_of_ble_eq_true rfl⟩

set_option maxHeartbeats 4000000 in
set_option maxRecDepth 100000 in
theorem c_X5_place (h ha hb hc hd : Nat) (px py : Nat → Int32) (pl : Nat → Nat) (pk : Nat → Int32) (N M : Nat) (k : Nat) (x0 y0 : Int32) (hk : k < 12) : Ct l D (TY cI cJ cZ) yX5_place cX5_place 4 none 0 0 0 0 [.ref h, .int (nI k), .int x0, .int y0] [(h, .inr (5, [.ref ha, .ref hb, .ref hc, .ref hd, .int (nI M), .int (nI N)])), (ha, .inl (cI, 12, .inl px)), (hb, .inl (cI, 12, .inl py)), (hc, .inl (cI, 12, .inl (fun i => nI (pl i)))), (hd, .inl (cI, 12, .inl pk))] (fun r w => r = none ∧ w = [(h, .inr (5, [.ref ha, .ref hb, .ref hc, .ref hd, .int (nI M), .int (nI N)])), (ha, .inl (cI, 12, .inl (upd px k x0))), (hb, .inl (cI, 12, .inl (upd py k y0))), (hc, .inl (cI, 12, .inl (fun i => nI (pl i)))), (hd, .inl (cI, 12, .inl pk))]) := by
  refine Ct.ofV (by decide) (Nat.le_of_ble_eq_true rfl) ?_
  intro p e s m args below meth c A R Q F hnm hcs0 hE
  refine v_lv (lv' := [(0, .ref h), (1, .int (nI k)), (2, .int x0), (3, .int y0)]) [0, 1, 2, 3] rfl ?_
  refine v_aload_n F dX5_place_0 (i := 0) rfl 0 rfl (q := 1) rfl ?_
  refine gt_X5_9 F dX5_place_1 0 rfl rfl (q := 4) rfl ?_
  refine v_iload_n F dX5_place_4 (i := 1) rfl 1 rfl (q := 5) rfl ?_
  refine v_iload_n F dX5_place_5 (i := 2) rfl 2 rfl (q := 6) rfl ?_
  refine v_iastN F 1 0 rfl rfl (j := k) (by omega) (by decide) dX5_place_6 (q := 7) rfl ?_
  refine v_ws (ws' := [(h, .inr (5, [.ref ha, .ref hb, .ref hc, .ref hd, .int (nI M), .int (nI N)])), (ha, .inl (cI, 12, .inl (upd px k x0))), (hb, .inl (cI, 12, .inl py)), (hc, .inl (cI, 12, .inl (fun i => nI (pl i)))), (hd, .inl (cI, 12, .inl pk))]) rfl ?_
  refine v_aload_n F dX5_place_7 (i := 0) rfl 0 rfl (q := 8) rfl ?_
  refine gt_X5_15 F dX5_place_8 0 rfl rfl (q := 11) rfl ?_
  refine v_iload_n F dX5_place_11 (i := 1) rfl 1 rfl (q := 12) rfl ?_
  refine v_iload_n F dX5_place_12 (i := 3) rfl 3 rfl (q := 13) rfl ?_
  refine v_iastN F 2 0 rfl rfl (j := k) (by omega) (by decide) dX5_place_13 (q := 14) rfl ?_
  refine v_ws (ws' := [(h, .inr (5, [.ref ha, .ref hb, .ref hc, .ref hd, .int (nI M), .int (nI N)])), (ha, .inl (cI, 12, .inl (upd px k x0))), (hb, .inl (cI, 12, .inl (upd py k y0))), (hc, .inl (cI, 12, .inl (fun i => nI (pl i)))), (hd, .inl (cI, 12, .inl pk))]) rfl ?_
  exact hE dX5_place_14 (Nat.zero_le _) (Nat.zero_le _) ⟨⟨rfl, rfl⟩, Nat.le_of_ble_eq_true rfl⟩

set_option maxHeartbeats 4000000 in
set_option maxRecDepth 100000 in
theorem c_X5_setWhole (h ha hb hc hd : Nat) (px py : Nat → Int32) (pl : Nat → Nat) (pk : Nat → Int32) (N M : Nat) (k : Nat) (v : Bool) (hM : M < 4096) (hk : k < 12) : Ct l D (TY cI cJ cZ) yX5_setWhole cX5_setWhole 3 none 0 0 0 0 [.ref h, .int (nI k), .int (bI v)] [(h, .inr (5, [.ref ha, .ref hb, .ref hc, .ref hd, .int (nI M), .int (nI N)])), (ha, .inl (cI, 12, .inl px)), (hb, .inl (cI, 12, .inl py)), (hc, .inl (cI, 12, .inl (fun i => nI (pl i)))), (hd, .inl (cI, 12, .inl pk))] (fun r w => r = none ∧ w = [(h, .inr (5, [.ref ha, .ref hb, .ref hc, .ref hd, .int (nI (mset M k v)), .int (nI N)])), (ha, .inl (cI, 12, .inl px)), (hb, .inl (cI, 12, .inl py)), (hc, .inl (cI, 12, .inl (fun i => nI (pl i)))), (hd, .inl (cI, 12, .inl pk))]) := by
  refine Ct.ofV (by decide) (Nat.le_of_ble_eq_true rfl) ?_
  intro p e s m args below meth c A R Q F hnm hcs0 hE
  refine v_lv (lv' := [(0, .ref h), (1, .int (nI k)), (2, .int (bI v))]) [0, 1, 2] rfl ?_
  refine v_aload_n F dX5_setWhole_0 (i := 0) rfl 0 rfl (q := 1) rfl ?_
  refine v_iload_n F dX5_setWhole_1 (i := 2) rfl 2 rfl (q := 2) rfl ?_
  refine v_if_eq F dX5_setWhole_2 (tgt := 16) rfl (q := 5) rfl (fun c2 => ?_) (fun c2 => ?_)
  · skip
    rw [bI_z] at c2
    subst c2
    refine v_aload_n F dX5_setWhole_16 (i := 0) rfl 0 rfl (q := 17) rfl ?_
    refine gt_X5_24 F dX5_setWhole_17 0 rfl rfl (q := 20) rfl ?_
    refine v_iconst F dX5_setWhole_20 (v := 1) (q := 21) rfl rfl ?_
    refine v_iload_n F dX5_setWhole_21 (i := 1) rfl 1 rfl (q := 22) rfl ?_
    refine v_ishl F dX5_setWhole_22 (q := 23) rfl ?_
    refine v_iconst F dX5_setWhole_23 (v := (-1)) (q := 24) rfl rfl ?_
    refine v_ixor F dX5_setWhole_24 (q := 25) rfl ?_
    refine v_iand F dX5_setWhole_25 (q := 26) rfl ?_
    refine v_int (y := nI (mset M k false)) (ms_clr hM hk) ?_
    refine pt_X5_24 F dX5_setWhole_26 0 rfl (Nat.le_of_ble_eq_true rfl) (q := 29) rfl ?_
    refine v_ws (ws' := [(h, .inr (5, [.ref ha, .ref hb, .ref hc, .ref hd, .int (nI (mset M k false)), .int (nI N)])), (ha, .inl (cI, 12, .inl px)), (hb, .inl (cI, 12, .inl py)), (hc, .inl (cI, 12, .inl (fun i => nI (pl i)))), (hd, .inl (cI, 12, .inl pk))]) rfl ?_
    exact hE dX5_setWhole_29 (Nat.zero_le _) (Nat.zero_le _) ⟨⟨rfl, rfl⟩, Nat.le_of_ble_eq_true rfl⟩
  · skip
    rw [bI_nz] at c2
    subst c2
    refine v_aload_n F dX5_setWhole_5 (i := 0) rfl 0 rfl (q := 6) rfl ?_
    refine gt_X5_24 F dX5_setWhole_6 0 rfl rfl (q := 9) rfl ?_
    refine v_iconst F dX5_setWhole_9 (v := 1) (q := 10) rfl rfl ?_
    refine v_iload_n F dX5_setWhole_10 (i := 1) rfl 1 rfl (q := 11) rfl ?_
    refine v_ishl F dX5_setWhole_11 (q := 12) rfl ?_
    refine v_ior F dX5_setWhole_12 (q := 13) rfl ?_
    refine v_goto F dX5_setWhole_13 (tgt := 26) rfl ?_
    refine v_int (y := nI (mset M k true)) (ms_or hk) ?_
    refine pt_X5_24 F dX5_setWhole_26 0 rfl (Nat.le_of_ble_eq_true rfl) (q := 29) rfl ?_
    refine v_ws (ws' := [(h, .inr (5, [.ref ha, .ref hb, .ref hc, .ref hd, .int (nI (mset M k true)), .int (nI N)])), (ha, .inl (cI, 12, .inl px)), (hb, .inl (cI, 12, .inl py)), (hc, .inl (cI, 12, .inl (fun i => nI (pl i)))), (hd, .inl (cI, 12, .inl pk))]) rfl ?_
    exact hE dX5_setWhole_29 (Nat.zero_le _) (Nat.zero_le _) ⟨⟨rfl, rfl⟩, Nat.le_of_ble_eq_true rfl⟩

set_option maxHeartbeats 4000000 in
set_option maxRecDepth 100000 in
theorem c_X5_add (h ha hb hc hd : Nat) (px py : Nat → Int32) (pl : Nat → Nat) (pk : Nat → Int32) (N M : Nat) (x0 y0 : Int32) (L0 : Nat) (k0 : Int32) (hM : M < 4096) (hN : N < 12) : Ct l D (TY cI cJ cZ) yX5_add cX5_add 6 (some .int) 1 23 0 0 [.ref h, .int x0, .int y0, .int (nI L0), .int k0] [(h, .inr (5, [.ref ha, .ref hb, .ref hc, .ref hd, .int (nI M), .int (nI N)])), (ha, .inl (cI, 12, .inl px)), (hb, .inl (cI, 12, .inl py)), (hc, .inl (cI, 12, .inl (fun i => nI (pl i)))), (hd, .inl (cI, 12, .inl pk))] (fun r w => r = some (.int (nI N)) ∧ w = [(h, .inr (5, [.ref ha, .ref hb, .ref hc, .ref hd, .int (nI (mset M N true)), .int (nI (N + 1))])), (ha, .inl (cI, 12, .inl (upd px N x0))), (hb, .inl (cI, 12, .inl (upd py N y0))), (hc, .inl (cI, 12, .inl (fun i => nI (updN pl N L0 i)))), (hd, .inl (cI, 12, .inl (upd pk N k0)))]) := by
  refine Ct.ofI (ty := .int) (by decide) (Nat.le_of_ble_eq_true rfl) ?_
  intro p e s m args below meth c A R Q F hnm hcs0 hE
  refine v_lv (lv' := [(0, .ref h), (1, .int x0), (2, .int y0), (3, .int (nI L0)), (4, .int k0)]) [0, 1, 2, 3, 4] rfl ?_
  refine v_aload_n F dX5_add_0 (i := 0) rfl 0 rfl (q := 1) rfl ?_
  refine gt_X5_28 F dX5_add_1 0 rfl rfl (q := 4) rfl ?_
  refine v_istore F dX5_add_4 (lv' := [(5, .int (nI N)), (0, .ref h), (1, .int x0), (2, .int y0), (3, .int (nI L0)), (4, .int k0)]) (Nat.le_of_ble_eq_true rfl) rfl (q := 6) rfl ?_
  refine v_aload_n F dX5_add_6 (i := 0) rfl 1 rfl (q := 7) rfl ?_
  refine v_iload F dX5_add_7 0 rfl (q := 9) rfl ?_
  refine v_iload_n F dX5_add_9 (i := 1) rfl 2 rfl (q := 10) rfl ?_
  refine v_iload_n F dX5_add_10 (i := 2) rfl 3 rfl (q := 11) rfl ?_
  refine v_callV F ml_X5_31 im_X5_place se_X5_place in_X5 co_X5_place sd_X5_place (c_X5_place h ha hb hc hd px py pl pk N M N x0 y0 (by omega)) ⟨Nat.zero_le _, Nat.zero_le _⟩ (Nat.le_of_ble_eq_true rfl) (Nat.le_of_ble_eq_true rfl) 0 (As := [.int (nI N), .int x0, .int y0]) rfl rfl rfl rfl rfl [0, 1, 2, 3, 4] rfl rfl rfl (rest := []) rfl (Nat.le_of_ble_eq_true rfl) dX5_add_11 (q := 14) rfl (fun r w hr => ?_)
  obtain ⟨rfl, rfl⟩ := hr
  refine v_ws (ws' := [(h, .inr (5, [.ref ha, .ref hb, .ref hc, .ref hd, .int (nI M), .int (nI N)])), (ha, .inl (cI, 12, .inl (upd px N x0))), (hb, .inl (cI, 12, .inl (upd py N y0))), (hc, .inl (cI, 12, .inl (fun i => nI (pl i)))), (hd, .inl (cI, 12, .inl pk))]) rfl ?_
  refine v_st (st' := []) rfl ?_
  refine v_aload_n F dX5_add_14 (i := 0) rfl 1 rfl (q := 15) rfl ?_
  refine gt_X5_18 F dX5_add_15 0 rfl rfl (q := 18) rfl ?_
  refine v_iload F dX5_add_18 0 rfl (q := 20) rfl ?_
  refine v_iload_n F dX5_add_20 (i := 3) rfl 4 rfl (q := 21) rfl ?_
  refine v_iastN F 3 0 rfl rfl (j := N) (by omega) (by decide) dX5_add_21 (q := 22) rfl ?_
  refine v_ws (ws' := [(h, .inr (5, [.ref ha, .ref hb, .ref hc, .ref hd, .int (nI M), .int (nI N)])), (ha, .inl (cI, 12, .inl (upd px N x0))), (hb, .inl (cI, 12, .inl (upd py N y0))), (hc, .inl (cI, 12, .inl (upd (fun i => nI (pl i)) N (nI L0)))), (hd, .inl (cI, 12, .inl pk))]) rfl ?_
  refine v_ws (ws' := [(h, .inr (5, [.ref ha, .ref hb, .ref hc, .ref hd, .int (nI M), .int (nI N)])), (ha, .inl (cI, 12, .inl (upd px N x0))), (hb, .inl (cI, 12, .inl (upd py N y0))), (hc, .inl (cI, 12, .inl (fun i => nI (updN pl N L0 i)))), (hd, .inl (cI, 12, .inl pk))]) (by rw [upd_nI]) ?_
  refine v_aload_n F dX5_add_22 (i := 0) rfl 1 rfl (q := 23) rfl ?_
  refine gt_X5_21 F dX5_add_23 0 rfl rfl (q := 26) rfl ?_
  refine v_iload F dX5_add_26 0 rfl (q := 28) rfl ?_
  refine v_iload F dX5_add_28 5 rfl (q := 30) rfl ?_
  refine v_iastN F 4 0 rfl rfl (j := N) (by omega) (by decide) dX5_add_30 (q := 31) rfl ?_
  refine v_ws (ws' := [(h, .inr (5, [.ref ha, .ref hb, .ref hc, .ref hd, .int (nI M), .int (nI N)])), (ha, .inl (cI, 12, .inl (upd px N x0))), (hb, .inl (cI, 12, .inl (upd py N y0))), (hc, .inl (cI, 12, .inl (fun i => nI (updN pl N L0 i)))), (hd, .inl (cI, 12, .inl (upd pk N k0)))]) rfl ?_
  refine v_aload_n F dX5_add_31 (i := 0) rfl 1 rfl (q := 32) rfl ?_
  refine v_iload F dX5_add_32 0 rfl (q := 34) rfl ?_
  refine v_iconst F dX5_add_34 (v := 1) (q := 35) rfl rfl ?_
  refine v_callV F ml_X5_35 im_X5_setWhole se_X5_setWhole in_X5 co_X5_setWhole sd_X5_setWhole (c_X5_setWhole h ha hb hc hd (upd px N x0) (upd py N y0) (updN pl N L0) (upd pk N k0) N M N true (by omega) (by omega)) ⟨Nat.zero_le _, Nat.zero_le _⟩ (Nat.le_of_ble_eq_true rfl) (Nat.le_of_ble_eq_true rfl) 0 (As := [.int (nI N), .int 1]) rfl rfl rfl rfl rfl [0, 1, 2, 3, 4] rfl rfl rfl (rest := []) rfl (Nat.le_of_ble_eq_true rfl) dX5_add_35 (q := 38) rfl (fun r w hr => ?_)
  obtain ⟨rfl, rfl⟩ := hr
  refine v_ws (ws' := [(h, .inr (5, [.ref ha, .ref hb, .ref hc, .ref hd, .int (nI (mset M N true)), .int (nI N)])), (ha, .inl (cI, 12, .inl (upd px N x0))), (hb, .inl (cI, 12, .inl (upd py N y0))), (hc, .inl (cI, 12, .inl (fun i => nI (updN pl N L0 i)))), (hd, .inl (cI, 12, .inl (upd pk N k0)))]) rfl ?_
  refine v_st (st' := []) rfl ?_
  refine v_aload_n F dX5_add_38 (i := 0) rfl 1 rfl (q := 39) rfl ?_
  refine v_dup F dX5_add_39 rfl (q := 40) rfl ?_
  refine gt_X5_28 F dX5_add_40 0 rfl rfl (q := 43) rfl ?_
  refine v_iconst F dX5_add_43 (v := 1) (q := 44) rfl rfl ?_
  refine v_iadd F dX5_add_44 (q := 45) rfl ?_
  refine v_int (y := nI (N + 1)) (nI_1 N) ?_
  refine pt_X5_28 F dX5_add_45 0 rfl (Nat.le_of_ble_eq_true rfl) (q := 48) rfl ?_
  refine v_ws (ws' := [(h, .inr (5, [.ref ha, .ref hb, .ref hc, .ref hd, .int (nI (mset M N true)), .int (nI (N + 1))])), (ha, .inl (cI, 12, .inl (upd px N x0))), (hb, .inl (cI, 12, .inl (upd py N y0))), (hc, .inl (cI, 12, .inl (fun i => nI (updN pl N L0 i)))), (hd, .inl (cI, 12, .inl (upd pk N k0)))]) rfl ?_
  refine v_iload F dX5_add_48 0 rfl (q := 50) rfl ?_
  exact hE rfl dX5_add_50 (Nat.zero_le _) (Nat.zero_le _) ⟨⟨rfl, rfl⟩, Nat.le_of_ble_eq_true rfl⟩

set_option maxHeartbeats 4000000 in
set_option maxRecDepth 100000 in
theorem c_X4_add (o oa ob oc od : Nat) (ls : Nat → Nat) (fo tx ty : Nat → Int) (k : Nat) (v0 x0 y0 : Int32) (hk : k < 3) (hv : -500 ≤ v0.toInt ∧ v0.toInt ≤ 500) (hx : -20 ≤ x0.toInt ∧ x0.toInt ≤ 20) (hy : -20 ≤ y0.toInt ∧ y0.toInt ≤ 20) : Ct l D (TY cI cJ cZ) yX4_add cX4_add 5 (some .int) 0 0 0 0 [.ref o, .int (nI k), .int v0, .int x0, .int y0] [(o, .inr (4, [.ref oa, .ref ob, .ref oc, .ref od])), (oa, .inl (cI, 3, .inl (fun i => nI (ls i)))), (ob, .inl (cJ, 3, .inr (.inl (fun i => zL (fo i))))), (oc, .inl (cJ, 3, .inr (.inl (fun i => zL (tx i))))), (od, .inl (cJ, 3, .inr (.inl (fun i => zL (ty i)))))] (fun r w => r = some (.int (nI (ls k + 1))) ∧ w = [(o, .inr (4, [.ref oa, .ref ob, .ref oc, .ref od])), (oa, .inl (cI, 3, .inl (fun i => nI (updN ls k (ls k + 1) i)))), (ob, .inl (cJ, 3, .inr (.inl (fun i => zL (updZ fo k (fo k + v0.toInt) i))))), (oc, .inl (cJ, 3, .inr (.inl (fun i => zL (updZ tx k (tx k + v0.toInt * x0.toInt) i))))), (od, .inl (cJ, 3, .inr (.inl (fun i => zL (updZ ty k (ty k + v0.toInt * y0.toInt) i)))))]) := by
  refine Ct.ofI (ty := .int) (by decide) (Nat.le_of_ble_eq_true rfl) ?_
  intro p e s m args below meth c A R Q F hnm hcs0 hE
  refine v_lv (lv' := [(0, .ref o), (1, .int (nI k)), (2, .int v0), (3, .int x0), (4, .int y0)]) [0, 1, 2, 3, 4] rfl ?_
  refine v_aload_n F dX4_add_0 (i := 0) rfl 0 rfl (q := 1) rfl ?_
  refine gt_X4_15 F dX4_add_1 0 rfl rfl (q := 4) rfl ?_
  refine v_iload_n F dX4_add_4 (i := 1) rfl 1 rfl (q := 5) rfl ?_
  refine v_dup2_11 F dX4_add_5 rfl rfl (q := 6) rfl ?_
  refine v_laldN F 2 1 rfl rfl (j := k) (by omega) (by decide) dX4_add_6 (q := 7) rfl ?_
  refine v_st (st' := [.long (zL (fo k)), .int (nI k), .ref ob]) rfl ?_
  refine v_iload_n F dX4_add_7 (i := 2) rfl 2 rfl (q := 8) rfl ?_
  refine v_i2l F dX4_add_8 (q := 9) rfl ?_
  refine v_ladd F dX4_add_9 (q := 10) rfl ?_
  refine v_long (y := zL (fo k + v0.toInt)) (st_0) ?_
  refine v_lastN F 2 1 rfl rfl (j := k) (by omega) (by decide) dX4_add_10 (q := 11) rfl ?_
  refine v_ws (ws' := [(o, .inr (4, [.ref oa, .ref ob, .ref oc, .ref od])), (oa, .inl (cI, 3, .inl (fun i => nI (ls i)))), (ob, .inl (cJ, 3, .inr (.inl (vp_updL (fun i => zL (fo i)) k (zL (fo k + v0.toInt)))))), (oc, .inl (cJ, 3, .inr (.inl (fun i => zL (tx i))))), (od, .inl (cJ, 3, .inr (.inl (fun i => zL (ty i)))))]) rfl ?_
  refine v_aload_n F dX4_add_11 (i := 0) rfl 0 rfl (q := 12) rfl ?_
  refine gt_X4_19 F dX4_add_12 0 rfl rfl (q := 15) rfl ?_
  refine v_iload_n F dX4_add_15 (i := 1) rfl 1 rfl (q := 16) rfl ?_
  refine v_dup2_11 F dX4_add_16 rfl rfl (q := 17) rfl ?_
  refine v_laldN F 3 1 rfl rfl (j := k) (by omega) (by decide) dX4_add_17 (q := 18) rfl ?_
  refine v_st (st' := [.long (zL (tx k)), .int (nI k), .ref oc]) rfl ?_
  refine v_iload_n F dX4_add_18 (i := 2) rfl 2 rfl (q := 19) rfl ?_
  refine v_iload_n F dX4_add_19 (i := 3) rfl 3 rfl (q := 20) rfl ?_
  refine v_imul F dX4_add_20 (q := 21) rfl ?_
  refine v_i2l F dX4_add_21 (q := 22) rfl ?_
  refine v_ladd F dX4_add_22 (q := 23) rfl ?_
  refine v_long (y := zL (tx k + v0.toInt * x0.toInt)) (by rw [(i2l_mul hv hx (by omega)).1, zL_add]) ?_
  refine v_lastN F 3 1 rfl rfl (j := k) (by omega) (by decide) dX4_add_23 (q := 24) rfl ?_
  refine v_ws (ws' := [(o, .inr (4, [.ref oa, .ref ob, .ref oc, .ref od])), (oa, .inl (cI, 3, .inl (fun i => nI (ls i)))), (ob, .inl (cJ, 3, .inr (.inl (vp_updL (fun i => zL (fo i)) k (zL (fo k + v0.toInt)))))), (oc, .inl (cJ, 3, .inr (.inl (vp_updL (fun i => zL (tx i)) k (zL (tx k + v0.toInt * x0.toInt)))))), (od, .inl (cJ, 3, .inr (.inl (fun i => zL (ty i)))))]) rfl ?_
  refine v_aload_n F dX4_add_24 (i := 0) rfl 0 rfl (q := 25) rfl ?_
  refine gt_X4_22 F dX4_add_25 0 rfl rfl (q := 28) rfl ?_
  refine v_iload_n F dX4_add_28 (i := 1) rfl 1 rfl (q := 29) rfl ?_
  refine v_dup2_11 F dX4_add_29 rfl rfl (q := 30) rfl ?_
  refine v_laldN F 4 1 rfl rfl (j := k) (by omega) (by decide) dX4_add_30 (q := 31) rfl ?_
  refine v_st (st' := [.long (zL (ty k)), .int (nI k), .ref od]) rfl ?_
  refine v_iload_n F dX4_add_31 (i := 2) rfl 2 rfl (q := 32) rfl ?_
  refine v_iload F dX4_add_32 4 rfl (q := 34) rfl ?_
  refine v_imul F dX4_add_34 (q := 35) rfl ?_
  refine v_i2l F dX4_add_35 (q := 36) rfl ?_
  refine v_ladd F dX4_add_36 (q := 37) rfl ?_
  refine v_long (y := zL (ty k + v0.toInt * y0.toInt)) (by rw [(i2l_mul hv hy (by omega)).1, zL_add]) ?_
  refine v_lastN F 4 1 rfl rfl (j := k) (by omega) (by decide) dX4_add_37 (q := 38) rfl ?_
  refine v_ws (ws' := [(o, .inr (4, [.ref oa, .ref ob, .ref oc, .ref od])), (oa, .inl (cI, 3, .inl (fun i => nI (ls i)))), (ob, .inl (cJ, 3, .inr (.inl (vp_updL (fun i => zL (fo i)) k (zL (fo k + v0.toInt)))))), (oc, .inl (cJ, 3, .inr (.inl (vp_updL (fun i => zL (tx i)) k (zL (tx k + v0.toInt * x0.toInt)))))), (od, .inl (cJ, 3, .inr (.inl (vp_updL (fun i => zL (ty i)) k (zL (ty k + v0.toInt * y0.toInt))))))]) rfl ?_
  refine v_aload_n F dX4_add_38 (i := 0) rfl 0 rfl (q := 39) rfl ?_
  refine gt_X4_9 F dX4_add_39 0 rfl rfl (q := 42) rfl ?_
  refine v_iload_n F dX4_add_42 (i := 1) rfl 1 rfl (q := 43) rfl ?_
  refine v_dup2_11 F dX4_add_43 rfl rfl (q := 44) rfl ?_
  refine v_ialdN F 1 0 rfl rfl (j := k) (by omega) (by decide) dX4_add_44 (q := 45) rfl ?_
  refine v_st (st' := [.int (nI (ls k)), .int (nI k), .ref oa]) rfl ?_
  refine v_iconst F dX4_add_45 (v := 1) (q := 46) rfl rfl ?_
  refine v_iadd F dX4_add_46 (q := 47) rfl ?_
  refine v_int (y := nI (ls k + 1)) (nI_1 _) ?_
  refine v_iastN F 1 0 rfl rfl (j := k) (by omega) (by decide) dX4_add_47 (q := 48) rfl ?_
  refine v_ws (ws' := [(o, .inr (4, [.ref oa, .ref ob, .ref oc, .ref od])), (oa, .inl (cI, 3, .inl (upd (fun i => nI (ls i)) k (nI (ls k + 1))))), (ob, .inl (cJ, 3, .inr (.inl (vp_updL (fun i => zL (fo i)) k (zL (fo k + v0.toInt)))))), (oc, .inl (cJ, 3, .inr (.inl (vp_updL (fun i => zL (tx i)) k (zL (tx k + v0.toInt * x0.toInt)))))), (od, .inl (cJ, 3, .inr (.inl (vp_updL (fun i => zL (ty i)) k (zL (ty k + v0.toInt * y0.toInt))))))]) rfl ?_
  refine v_aload_n F dX4_add_48 (i := 0) rfl 0 rfl (q := 49) rfl ?_
  refine gt_X4_9 F dX4_add_49 0 rfl rfl (q := 52) rfl ?_
  refine v_iload_n F dX4_add_52 (i := 1) rfl 1 rfl (q := 53) rfl ?_
  refine v_ialdN F 1 0 rfl rfl (j := k) (by omega) (by decide) dX4_add_53 (q := 54) rfl ?_
  refine v_int (y := nI (ls k + 1)) (pk_us) ?_
  exact hE rfl dX4_add_54 (Nat.zero_le _) (Nat.zero_le _) ⟨⟨rfl, by rw [← upd_nI, ← upd_zL, ← upd_zL, ← upd_zL]⟩, Nat.le_of_ble_eq_true rfl⟩

set_option maxHeartbeats 4000000 in
set_option maxRecDepth 100000 in
theorem c_X4_clear (o oa ob oc od : Nat) (ls : Nat → Nat) (fo tx ty : Nat → Int) (k : Nat) (hk : k < 3) : Ct l D (TY cI cJ cZ) yX4_clear cX4_clear 3 (some .int) 0 0 0 0 [.ref o, .int (nI k)] [(o, .inr (4, [.ref oa, .ref ob, .ref oc, .ref od])), (oa, .inl (cI, 3, .inl (fun i => nI (ls i)))), (ob, .inl (cJ, 3, .inr (.inl (fun i => zL (fo i))))), (oc, .inl (cJ, 3, .inr (.inl (fun i => zL (tx i))))), (od, .inl (cJ, 3, .inr (.inl (fun i => zL (ty i)))))] (fun r w => r = some (.int (nI (ls k))) ∧ w = [(o, .inr (4, [.ref oa, .ref ob, .ref oc, .ref od])), (oa, .inl (cI, 3, .inl (fun i => nI (updN ls k 0 i)))), (ob, .inl (cJ, 3, .inr (.inl (fun i => zL (updZ fo k 0 i))))), (oc, .inl (cJ, 3, .inr (.inl (fun i => zL (updZ tx k 0 i))))), (od, .inl (cJ, 3, .inr (.inl (fun i => zL (updZ ty k 0 i)))))]) := by
  refine Ct.ofI (ty := .int) (by decide) (Nat.le_of_ble_eq_true rfl) ?_
  intro p e s m args below meth c A R Q F hnm hcs0 hE
  refine v_lv (lv' := [(0, .ref o), (1, .int (nI k))]) [0, 1] rfl ?_
  refine v_aload_n F dX4_clear_0 (i := 0) rfl 0 rfl (q := 1) rfl ?_
  refine gt_X4_9 F dX4_clear_1 0 rfl rfl (q := 4) rfl ?_
  refine v_iload_n F dX4_clear_4 (i := 1) rfl 1 rfl (q := 5) rfl ?_
  refine v_ialdN F 1 0 rfl rfl (j := k) (by omega) (by decide) dX4_clear_5 (q := 6) rfl ?_
  refine v_st (st' := [.int (nI (ls k))]) rfl ?_
  refine v_istore_n F dX4_clear_6 (i := 2) (lv' := [(2, .int (nI (ls k))), (0, .ref o), (1, .int (nI k))]) rfl (Nat.le_of_ble_eq_true rfl) rfl (q := 7) rfl ?_
  refine v_aload_n F dX4_clear_7 (i := 0) rfl 1 rfl (q := 8) rfl ?_
  refine gt_X4_9 F dX4_clear_8 0 rfl rfl (q := 11) rfl ?_
  refine v_iload_n F dX4_clear_11 (i := 1) rfl 2 rfl (q := 12) rfl ?_
  refine v_iconst F dX4_clear_12 (v := 0) (q := 13) rfl rfl ?_
  refine v_iastN F 1 0 rfl rfl (j := k) (by omega) (by decide) dX4_clear_13 (q := 14) rfl ?_
  refine v_ws (ws' := [(o, .inr (4, [.ref oa, .ref ob, .ref oc, .ref od])), (oa, .inl (cI, 3, .inl (upd (fun i => nI (ls i)) k 0))), (ob, .inl (cJ, 3, .inr (.inl (fun i => zL (fo i))))), (oc, .inl (cJ, 3, .inr (.inl (fun i => zL (tx i))))), (od, .inl (cJ, 3, .inr (.inl (fun i => zL (ty i)))))]) rfl ?_
  refine v_aload_n F dX4_clear_14 (i := 0) rfl 1 rfl (q := 15) rfl ?_
  refine gt_X4_15 F dX4_clear_15 0 rfl rfl (q := 18) rfl ?_
  refine v_iload_n F dX4_clear_18 (i := 1) rfl 2 rfl (q := 19) rfl ?_
  refine v_lconst F dX4_clear_19 (v := 0) (q := 20) rfl rfl ?_
  refine v_lastN F 2 1 rfl rfl (j := k) (by omega) (by decide) dX4_clear_20 (q := 21) rfl ?_
  refine v_ws (ws' := [(o, .inr (4, [.ref oa, .ref ob, .ref oc, .ref od])), (oa, .inl (cI, 3, .inl (upd (fun i => nI (ls i)) k 0))), (ob, .inl (cJ, 3, .inr (.inl (vp_updL (fun i => zL (fo i)) k 0)))), (oc, .inl (cJ, 3, .inr (.inl (fun i => zL (tx i))))), (od, .inl (cJ, 3, .inr (.inl (fun i => zL (ty i)))))]) rfl ?_
  refine v_aload_n F dX4_clear_21 (i := 0) rfl 1 rfl (q := 22) rfl ?_
  refine gt_X4_19 F dX4_clear_22 0 rfl rfl (q := 25) rfl ?_
  refine v_iload_n F dX4_clear_25 (i := 1) rfl 2 rfl (q := 26) rfl ?_
  refine v_lconst F dX4_clear_26 (v := 0) (q := 27) rfl rfl ?_
  refine v_lastN F 3 1 rfl rfl (j := k) (by omega) (by decide) dX4_clear_27 (q := 28) rfl ?_
  refine v_ws (ws' := [(o, .inr (4, [.ref oa, .ref ob, .ref oc, .ref od])), (oa, .inl (cI, 3, .inl (upd (fun i => nI (ls i)) k 0))), (ob, .inl (cJ, 3, .inr (.inl (vp_updL (fun i => zL (fo i)) k 0)))), (oc, .inl (cJ, 3, .inr (.inl (vp_updL (fun i => zL (tx i)) k 0)))), (od, .inl (cJ, 3, .inr (.inl (fun i => zL (ty i)))))]) rfl ?_
  refine v_aload_n F dX4_clear_28 (i := 0) rfl 1 rfl (q := 29) rfl ?_
  refine gt_X4_22 F dX4_clear_29 0 rfl rfl (q := 32) rfl ?_
  refine v_iload_n F dX4_clear_32 (i := 1) rfl 2 rfl (q := 33) rfl ?_
  refine v_lconst F dX4_clear_33 (v := 0) (q := 34) rfl rfl ?_
  refine v_lastN F 4 1 rfl rfl (j := k) (by omega) (by decide) dX4_clear_34 (q := 35) rfl ?_
  refine v_ws (ws' := [(o, .inr (4, [.ref oa, .ref ob, .ref oc, .ref od])), (oa, .inl (cI, 3, .inl (upd (fun i => nI (ls i)) k 0))), (ob, .inl (cJ, 3, .inr (.inl (vp_updL (fun i => zL (fo i)) k 0)))), (oc, .inl (cJ, 3, .inr (.inl (vp_updL (fun i => zL (tx i)) k 0)))), (od, .inl (cJ, 3, .inr (.inl (vp_updL (fun i => zL (ty i)) k 0))))]) rfl ?_
  refine v_iload_n F dX4_clear_35 (i := 2) rfl 0 rfl (q := 36) rfl ?_
  exact hE rfl dX4_clear_36 (Nat.zero_le _) (Nat.zero_le _) ⟨⟨rfl, by rw [← upd_nI, ← upd_zL, ← upd_zL, ← upd_zL]; rfl⟩, Nat.le_of_ble_eq_true rfl⟩

set_option maxHeartbeats 4000000 in
set_option maxRecDepth 100000 in
theorem c_X4_all (o oa ob oc od : Nat) (ls : Nat → Nat) (fo tx ty : Nat → Int)  : Ct l D (TY cI cJ cZ) yX4_all cX4_all 3 (some .int) 0 0 0 0 [.ref o] [(o, .inr (4, [.ref oa, .ref ob, .ref oc, .ref od])), (oa, .inl (cI, 3, .inl (fun i => nI (ls i)))), (ob, .inl (cJ, 3, .inr (.inl (fun i => zL (fo i))))), (oc, .inl (cJ, 3, .inr (.inl (fun i => zL (tx i))))), (od, .inl (cJ, 3, .inr (.inl (fun i => zL (ty i)))))] (fun r w => r = some (.int (nI (nsum ls 3))) ∧ w = [(o, .inr (4, [.ref oa, .ref ob, .ref oc, .ref od])), (oa, .inl (cI, 3, .inl (fun i => nI (ls i)))), (ob, .inl (cJ, 3, .inr (.inl (fun i => zL (fo i))))), (oc, .inl (cJ, 3, .inr (.inl (fun i => zL (tx i))))), (od, .inl (cJ, 3, .inr (.inl (fun i => zL (ty i)))))]) := by
  refine Ct.ofI (ty := .int) (by decide) (Nat.le_of_ble_eq_true rfl) ?_
  intro p e s m args below meth c A R Q F hnm hcs0 hE
  refine v_lv (lv' := [(0, .ref o)]) [0] rfl ?_
  have L4 : ∀ (d k : Nat), k + d = 3 → V p l e R s m args below meth c D A 3 0 0 Q 4 [(0, .ref o), (1, .int (nI (nsum ls k))), (2, .int (nI k))] [] [(o, .inr (4, [.ref oa, .ref ob, .ref oc, .ref od])), (oa, .inl (cI, 3, .inl (fun i => nI (ls i)))), (ob, .inl (cJ, 3, .inr (.inl (fun i => zL (fo i))))), (oc, .inl (cJ, 3, .inr (.inl (fun i => zL (tx i))))), (od, .inl (cJ, 3, .inr (.inl (fun i => zL (ty i)))))] := by
    intro d
    induction d using Nat.strongRecOn with
    | _ d ih => ?_
    intro k hk
    refine v_iload_n F dX4_all_4 (i := 2) rfl 2 rfl (q := 5) rfl ?_
    refine v_iconst F dX4_all_5 (v := 3) (q := 6) rfl rfl ?_
    refine v_icmp_ge F dX4_all_6 (tgt := 24) rfl (q := 9) rfl (fun c6 => ?_) (fun c6 => ?_)
    · skip
      rw [show (3 : Int32) = nI 3 from rfl, nI_leI (by omega) (by omega)] at c6
      have hkn : k = 3 := by omega
      subst hkn
      refine v_iload_n F dX4_all_24 (i := 1) rfl 1 rfl (q := 25) rfl ?_
      exact hE rfl dX4_all_25 (Nat.zero_le _) (Nat.zero_le _) ⟨⟨rfl, rfl⟩, Nat.le_of_ble_eq_true rfl⟩
    · skip
      rw [show (3 : Int32) = nI 3 from rfl, nI_leI (by omega) (by omega)] at c6
      obtain ⟨d, rfl⟩ : ∃ d2, d = d2 + 1 := ⟨d - 1, by omega⟩
      refine v_iload_n F dX4_all_9 (i := 1) rfl 1 rfl (q := 10) rfl ?_
      refine v_aload_n F dX4_all_10 (i := 0) rfl 0 rfl (q := 11) rfl ?_
      refine gt_X4_9 F dX4_all_11 0 rfl rfl (q := 14) rfl ?_
      refine v_iload_n F dX4_all_14 (i := 2) rfl 2 rfl (q := 15) rfl ?_
      refine v_ialdN F 1 0 rfl rfl (j := k) (by omega) (by decide) dX4_all_15 (q := 16) rfl ?_
      refine v_st (st' := [.int (nI (ls k)), .int (nI (nsum ls k))]) rfl ?_
      refine v_iadd F dX4_all_16 (q := 17) rfl ?_
      refine v_int (y := nI (nsum ls (k + 1))) (nI_add _ _) ?_
      refine v_istore_n F dX4_all_17 (i := 1) (lv' := [(1, .int (nI (nsum ls (k + 1)))), (0, .ref o), (2, .int (nI k))]) rfl (Nat.le_of_ble_eq_true rfl) rfl (q := 18) rfl ?_
      refine v_iinc F dX4_all_18 2 rfl (v := nI (k + 1)) (lv' := [(2, .int (nI (k + 1))), (1, .int (nI (nsum ls (k + 1)))), (0, .ref o)]) (nI_1 k) (Nat.le_of_ble_eq_true rfl) rfl (q := 21) rfl ?_
      refine v_goto F dX4_all_21 (tgt := 4) rfl ?_
      refine v_lv (lv' := [(0, .ref o), (1, .int (nI (nsum ls (k + 1)))), (2, .int (nI (k + 1)))]) [2, 1, 0] rfl ?_
      exact ih d (by omega) (k + 1) (by omega)
  refine v_iconst F dX4_all_0 (v := 0) (q := 1) rfl rfl ?_
  refine v_istore_n F dX4_all_1 (i := 1) (lv' := [(1, .int 0), (0, .ref o)]) rfl (Nat.le_of_ble_eq_true rfl) rfl (q := 2) rfl ?_
  refine v_iconst F dX4_all_2 (v := 0) (q := 3) rfl rfl ?_
  refine v_istore_n F dX4_all_3 (i := 2) (lv' := [(2, .int 0), (1, .int 0), (0, .ref o)]) rfl (Nat.le_of_ble_eq_true rfl) rfl (q := 4) rfl ?_
  refine v_lv (lv' := [(0, .ref o), (1, .int 0), (2, .int 0)]) [2, 1, 0] rfl ?_
  exact L4 3 0 (by omega)

set_option maxHeartbeats 4000000 in
set_option maxRecDepth 100000 in
theorem c_X7_commonDivisor (x y : Nat) (hE0 : EI 0 x y) : Ct l D (TY cI cJ cZ) yX7_commonDivisor cX7_commonDivisor 7 (some .long) 0 0 0 0 [.long (lN x), .long (lN y)] [] (fun r w => r = some (.long (lN (Nat.gcd x y))) ∧ w = []) := by
  refine Ct.ofL (by decide) (Nat.le_of_ble_eq_true rfl) ?_
  intro p e s m args below meth c A R Q F hnm hcs0 hE
  refine v_lv (lv' := [(0, .long (lN x)), (2, .long (lN y))]) [0, 1] rfl ?_
  have L3 : ∀ (d i a b : Nat), i + d = 200 → EI i a b → Nat.gcd x y = Nat.gcd a b → V p l e R s m args below meth c D A 7 0 0 Q 3 [(0, .long (lN a)), (2, .long (lN b)), (4, .int (nI i))] [] [] := by
    intro d
    induction d using Nat.strongRecOn with
    | _ d ih => ?_
    intro i a b hi hE2 hg
    have h63 := hE2.1
    have h64 := hE2.2.1
    refine v_iload F dX7_commonDivisor_3 2 rfl (q := 5) rfl ?_
    refine v_sipush F dX7_commonDivisor_5 (v := 200) (q := 8) rfl rfl ?_
    refine v_icmp_ge F dX7_commonDivisor_8 (tgt := 33) rfl (q := 11) rfl (fun c8 => ?_) (fun c8 => ?_)
    · skip
      rw [show (200 : Int32) = nI 200 from rfl, nI_leI (by omega) (by omega)] at c8
      have hb := EI_end hE2 c8
      subst hb
      rw [Nat.gcd_zero_right] at hg
      refine v_lload_n F dX7_commonDivisor_33 (i := 0) rfl 0 rfl (q := 34) rfl ?_
      exact hE dX7_commonDivisor_34 (Nat.zero_le _) (Nat.zero_le _) ⟨⟨by rw [hg], rfl⟩, Nat.le_of_ble_eq_true rfl⟩
    · skip
      rw [show (200 : Int32) = nI 200 from rfl, nI_leI (by omega) (by omega)] at c8
      obtain ⟨d, rfl⟩ : ∃ d2, d = d2 + 1 := ⟨d - 1, by omega⟩
      refine v_lload_n F dX7_commonDivisor_11 (i := 2) rfl 1 rfl (q := 12) rfl ?_
      refine v_lconst F dX7_commonDivisor_12 (v := 0) (q := 13) rfl rfl ?_
      refine v_lcmp_eq F dX7_commonDivisor_13 dX7_commonDivisor_14 (tgt := 33) rfl (q := 17) rfl (fun c13 => ?_) (fun c13 => ?_)
      · skip
        rw [show (0 : Int64) = lN 0 from rfl, pk_lEQ (by omega) (by omega)] at c13
        subst c13
        rw [Nat.gcd_zero_right] at hg
        refine v_lload_n F dX7_commonDivisor_33 (i := 0) rfl 0 rfl (q := 34) rfl ?_
        exact hE dX7_commonDivisor_34 (Nat.zero_le _) (Nat.zero_le _) ⟨⟨by rw [hg], rfl⟩, Nat.le_of_ble_eq_true rfl⟩
      · skip
        have c13b : ¬ b = 0 := fun z => c13 (by rw [z]; rfl)
        refine v_lload_n F dX7_commonDivisor_17 (i := 0) rfl 0 rfl (q := 18) rfl ?_
        refine v_lload_n F dX7_commonDivisor_18 (i := 2) rfl 1 rfl (q := 19) rfl ?_
        refine v_lrem F dX7_commonDivisor_19 c13 (q := 20) rfl ?_
        refine v_long (y := lN (a % b)) (pk_lRem (by omega) (by omega) (by omega)) ?_
        refine v_lstore F dX7_commonDivisor_20 (lv' := [(5, .long (lN (a % b))), (0, .long (lN a)), (2, .long (lN b)), (4, .int (nI i))]) (Nat.le_of_ble_eq_true rfl) rfl (q := 22) rfl ?_
        refine v_lload_n F dX7_commonDivisor_22 (i := 2) rfl 2 rfl (q := 23) rfl ?_
        refine v_lstore_n F dX7_commonDivisor_23 (i := 0) (lv' := [(0, .long (lN b)), (5, .long (lN (a % b))), (2, .long (lN b)), (4, .int (nI i))]) rfl (Nat.le_of_ble_eq_true rfl) rfl (q := 24) rfl ?_
        refine v_lload F dX7_commonDivisor_24 1 rfl (q := 26) rfl ?_
        refine v_lstore_n F dX7_commonDivisor_26 (i := 2) (lv' := [(2, .long (lN (a % b))), (0, .long (lN b)), (5, .long (lN (a % b))), (4, .int (nI i))]) rfl (Nat.le_of_ble_eq_true rfl) rfl (q := 27) rfl ?_
        refine v_iinc F dX7_commonDivisor_27 3 rfl (v := nI (i + 1)) (lv' := [(4, .int (nI (i + 1))), (2, .long (lN (a % b))), (0, .long (lN b)), (5, .long (lN (a % b)))]) (nI_1 i) (Nat.le_of_ble_eq_true rfl) rfl (q := 30) rfl ?_
        refine v_goto F dX7_commonDivisor_30 (tgt := 3) rfl ?_
        refine v_lv (lv' := [(0, .long (lN b)), (2, .long (lN (a % b))), (4, .int (nI (i + 1)))]) [2, 1, 0] rfl ?_
        exact ih d (by omega) (i + 1) b (a % b) (by omega) (EI_step hE2 c13b) (by rw [hg, Nat.gcd_comm a b]; exact (Nat.gcd_rec b a).trans (Nat.gcd_comm _ _))
  refine v_iconst F dX7_commonDivisor_0 (v := 0) (q := 1) rfl rfl ?_
  refine v_istore F dX7_commonDivisor_1 (lv' := [(4, .int 0), (0, .long (lN x)), (2, .long (lN y))]) (Nat.le_of_ble_eq_true rfl) rfl (q := 3) rfl ?_
  refine v_lv (lv' := [(0, .long (lN x)), (2, .long (lN y)), (4, .int 0)]) [1, 2, 0] rfl ?_
  exact L3 200 0 x y (by omega) hE0 rfl

set_option maxHeartbeats 4000000 in
set_option maxRecDepth 100000 in
theorem c_X6_clear (t ta tb : Nat) (ab bl : Nat → Int64) (tn : Nat)  : Ct l D (TY cI cJ cZ) yX6_clear cX6_clear 1 none 0 0 0 0 [.ref t] [(t, .inr (6, [.ref ta, .ref tb, .int (nI tn)])), (ta, .inl (cJ, 15, .inr (.inl ab))), (tb, .inl (cJ, 15, .inr (.inl bl)))] (fun r w => r = none ∧ w = [(t, .inr (6, [.ref ta, .ref tb, .int 0])), (ta, .inl (cJ, 15, .inr (.inl ab))), (tb, .inl (cJ, 15, .inr (.inl bl)))]) := by
  refine Ct.ofV (by decide) (Nat.le_of_ble_eq_true rfl) ?_
  intro p e s m args below meth c A R Q F hnm hcs0 hE
  refine v_lv (lv' := [(0, .ref t)]) [0] rfl ?_
  refine v_aload_n F dX6_clear_0 (i := 0) rfl 0 rfl (q := 1) rfl ?_
  refine v_iconst F dX6_clear_1 (v := 0) (q := 2) rfl rfl ?_
  refine pt_X6_18 F dX6_clear_2 0 rfl (Nat.le_of_ble_eq_true rfl) (q := 5) rfl ?_
  refine v_ws (ws' := [(t, .inr (6, [.ref ta, .ref tb, .int 0])), (ta, .inl (cJ, 15, .inr (.inl ab))), (tb, .inl (cJ, 15, .inr (.inl bl)))]) rfl ?_
  exact hE dX6_clear_5 (Nat.zero_le _) (Nat.zero_le _) ⟨⟨rfl, rfl⟩, Nat.le_of_ble_eq_true rfl⟩

set_option maxHeartbeats 4000000 in
set_option maxRecDepth 100000 in
theorem c_X6_add (t ta tb : Nat) (ab bl : Nat → Int64) (tn : Nat) (a b : Int64) (ht : tn < 15) (ha : -9223372036854775808 < a.toInt) (hb : 0 < b.toInt) : Ct l D (TY cI cJ cZ) yX6_add cX6_add 7 none 1 26 0 0 [.ref t, .long a, .long b] [(t, .inr (6, [.ref ta, .ref tb, .int (nI tn)])), (ta, .inl (cJ, 15, .inr (.inl ab))), (tb, .inl (cJ, 15, .inr (.inl bl)))] (fun r w => r = none ∧ w = [(t, .inr (6, [.ref ta, .ref tb, .int (nI (tn + 1))])), (ta, .inl (cJ, 15, .inr (.inl (vp_updL ab tn (a / dG a b))))), (tb, .inl (cJ, 15, .inr (.inl (vp_updL bl tn (b / dG a b)))))]) := by
  refine Ct.ofV (by decide) (Nat.le_of_ble_eq_true rfl) ?_
  intro p e s m args below meth c A R Q F hnm hcs0 hE
  refine v_lv (lv' := [(0, .ref t), (1, .long a), (3, .long b)]) [0, 1, 2] rfl ?_
  have hA := i64_rng a
  have hB := i64_rng b
  have hE0 : EI 0 a.toInt.natAbs b.toInt.natAbs := ⟨by omega, by omega, Or.inl rfl⟩
  have hd0 := dG_pos (a := a) hb
  refine v_lload_n F dX6_add_0 (i := 1) rfl 1 rfl (q := 1) rfl ?_
  refine v_mabsl F ml_X6_22 sm_Mabs inS_J9 co_Mabs ⟨Nat.zero_le _, Nat.zero_le _⟩ dX6_add_1 (Nat.le_of_ble_eq_true rfl) (Nat.le_of_ble_eq_true rfl) (q := 4) rfl ?_
  refine v_long (y := lN a.toInt.natAbs) (abs_lN ha) ?_
  refine v_lload_n F dX6_add_4 (i := 3) rfl 2 rfl (q := 5) rfl ?_
  refine v_long (y := lN b.toInt.natAbs) (pos_lN (Int.le_of_lt hb)) ?_
  refine v_callSN F ml_X6_28 sm_X7_commonDivisor in_X7 co_X7_commonDivisor sd_X7_commonDivisor (c_X7_commonDivisor a.toInt.natAbs b.toInt.natAbs hE0) ⟨Nat.zero_le _, Nat.zero_le _⟩ (Nat.le_of_ble_eq_true rfl) (Nat.le_of_ble_eq_true rfl) rfl [] rfl rfl rfl (rest := []) rfl (Nat.le_of_ble_eq_true rfl) dX6_add_5 (q := 8) rfl (fun r w hr => ?_)
  obtain ⟨rfl, rfl⟩ := hr
  refine v_ws (ws' := [(t, .inr (6, [.ref ta, .ref tb, .int (nI tn)])), (ta, .inl (cJ, 15, .inr (.inl ab))), (tb, .inl (cJ, 15, .inr (.inl bl)))]) rfl ?_
  refine v_st (st' := [.long (lN (Nat.gcd a.toInt.natAbs b.toInt.natAbs))]) rfl ?_
  refine v_long (y := dG a b) (rfl) ?_
  refine v_lstore F dX6_add_8 (lv' := [(5, .long (dG a b)), (0, .ref t), (1, .long a), (3, .long b)]) (Nat.le_of_ble_eq_true rfl) rfl (q := 10) rfl ?_
  refine v_aload_n F dX6_add_10 (i := 0) rfl 1 rfl (q := 11) rfl ?_
  refine gt_X6_18 F dX6_add_11 0 rfl rfl (q := 14) rfl ?_
  refine v_bipush F dX6_add_14 (v := 15) (q := 16) rfl rfl ?_
  refine v_icmp_ge F dX6_add_16 (tgt := 26) rfl (q := 19) rfl (fun c16 => ?_) (fun c16 => ?_)
  · exact absurd c16 (fun z => by rw [show (15 : Int32) = nI 15 from rfl, nI_leI (by omega) (by omega)] at z; omega)
  · skip
    refine v_lload F dX6_add_19 0 rfl (q := 21) rfl ?_
    refine v_lconst F dX6_add_21 (v := 1) (q := 22) rfl rfl ?_
    refine v_lcmp_ge F dX6_add_22 dX6_add_23 (tgt := 27) rfl (q := 26) rfl (fun c22 => ?_) (fun c22 => ?_)
    · skip
      refine v_aload_n F dX6_add_27 (i := 0) rfl 1 rfl (q := 28) rfl ?_
      refine gt_X6_9 F dX6_add_28 0 rfl rfl (q := 31) rfl ?_
      refine v_aload_n F dX6_add_31 (i := 0) rfl 1 rfl (q := 32) rfl ?_
      refine gt_X6_18 F dX6_add_32 0 rfl rfl (q := 35) rfl ?_
      refine v_lload_n F dX6_add_35 (i := 1) rfl 2 rfl (q := 36) rfl ?_
      refine v_lload F dX6_add_36 0 rfl (q := 38) rfl ?_
      refine v_ldiv F dX6_add_38 hd0.1 (q := 39) rfl ?_
      refine v_lastN F 1 1 rfl rfl (j := tn) (by omega) (by decide) dX6_add_39 (q := 40) rfl ?_
      refine v_ws (ws' := [(t, .inr (6, [.ref ta, .ref tb, .int (nI tn)])), (ta, .inl (cJ, 15, .inr (.inl (vp_updL ab tn (a / (dG a b)))))), (tb, .inl (cJ, 15, .inr (.inl bl)))]) rfl ?_
      refine v_aload_n F dX6_add_40 (i := 0) rfl 1 rfl (q := 41) rfl ?_
      refine gt_X6_15 F dX6_add_41 0 rfl rfl (q := 44) rfl ?_
      refine v_aload_n F dX6_add_44 (i := 0) rfl 1 rfl (q := 45) rfl ?_
      refine gt_X6_18 F dX6_add_45 0 rfl rfl (q := 48) rfl ?_
      refine v_lload_n F dX6_add_48 (i := 3) rfl 3 rfl (q := 49) rfl ?_
      refine v_lload F dX6_add_49 0 rfl (q := 51) rfl ?_
      refine v_ldiv F dX6_add_51 hd0.1 (q := 52) rfl ?_
      refine v_lastN F 2 1 rfl rfl (j := tn) (by omega) (by decide) dX6_add_52 (q := 53) rfl ?_
      refine v_ws (ws' := [(t, .inr (6, [.ref ta, .ref tb, .int (nI tn)])), (ta, .inl (cJ, 15, .inr (.inl (vp_updL ab tn (a / (dG a b)))))), (tb, .inl (cJ, 15, .inr (.inl (vp_updL bl tn (b / (dG a b))))))]) rfl ?_
      refine v_aload_n F dX6_add_53 (i := 0) rfl 1 rfl (q := 54) rfl ?_
      refine v_dup F dX6_add_54 rfl (q := 55) rfl ?_
      refine gt_X6_18 F dX6_add_55 0 rfl rfl (q := 58) rfl ?_
      refine v_iconst F dX6_add_58 (v := 1) (q := 59) rfl rfl ?_
      refine v_iadd F dX6_add_59 (q := 60) rfl ?_
      refine v_int (y := nI (tn + 1)) (nI_1 tn) ?_
      refine pt_X6_18 F dX6_add_60 0 rfl (Nat.le_of_ble_eq_true rfl) (q := 63) rfl ?_
      refine v_ws (ws' := [(t, .inr (6, [.ref ta, .ref tb, .int (nI (tn + 1))])), (ta, .inl (cJ, 15, .inr (.inl (vp_updL ab tn (a / (dG a b)))))), (tb, .inl (cJ, 15, .inr (.inl (vp_updL bl tn (b / (dG a b))))))]) rfl ?_
      exact hE dX6_add_63 (Nat.zero_le _) (Nat.zero_le _) ⟨⟨rfl, rfl⟩, Nat.le_of_ble_eq_true rfl⟩
    · exact absurd hd0.2 c22

end LF