section CN
variable {l : Launch} {D : va_G} {cI cJ cZ : ClassId}
set_option maxHeartbeats 4000000 in
set_option maxRecDepth 100000 in
theorem c_X2_init (g : Nat)  : Ct l D (TY cI cJ cZ) yX2_init cX2_init 1 none 1 13 3 18 [.ref g] [(g, .inr (2, [.null, .null, .null, .int 0, .int 0]))] (fun r w => ∃ ga gb gc : Nat, r = none ∧ w = [(g, .inr (2, [.ref ga, .ref gb, .ref gc, .int 0, .int 0])), (ga, .inl (cI, 6, .inl (fun _ => 0))), (gb, .inl (cI, 6, .inl (fun _ => 0))), (gc, .inl (cI, 6, .inl (fun _ => 0)))]) := by
  refine Ct.ofV (by decide) (Nat.le_of_ble_eq_true rfl) ?_
  intro p e s m args below meth c A R Q F hnm hcs0 hE
  refine v_lv (lv' := [(0, .ref g)]) [0] rfl ?_
  refine v_aload_n F dX2_init_0 (i := 0) rfl 0 rfl (q := 1) rfl ?_
  refine v_objInit F ml_X2_3 dX2_init_1 (Nat.le_of_ble_eq_true rfl) (Nat.le_of_ble_eq_true rfl) (q := 4) rfl ?_
  refine v_aload_n F dX2_init_4 (i := 0) rfl 0 rfl (q := 5) rfl ?_
  refine v_bipush F dX2_init_5 (v := 6) (q := 7) rfl rfl ?_
  refine v_newI F (N' := 6) (by decide) rfl (by decide) (Nat.le_trans (Nat.le_of_ble_eq_true rfl) hcs0.1) (Nat.le_trans (Nat.le_of_ble_eq_true rfl) hcs0.2) dX2_init_7 (q := 9) rfl (fun q7 => ?_)
  refine v_ws (ws' := [(g, .inr (2, [.null, .null, .null, .int 0, .int 0])), (q7, .inl (cI, 6, .inl (fun _ => 0)))]) rfl ?_
  refine pt_X2_9 F hnm dX2_init_9 0 rfl (Nat.le_of_ble_eq_true rfl) (q := 12) rfl ?_
  refine v_ws (ws' := [(g, .inr (2, [.ref q7, .null, .null, .int 0, .int 0])), (q7, .inl (cI, 6, .inl (fun _ => 0)))]) rfl ?_
  refine v_aload_n F dX2_init_12 (i := 0) rfl 0 rfl (q := 13) rfl ?_
  refine v_bipush F dX2_init_13 (v := 6) (q := 15) rfl rfl ?_
  refine v_newI F (N' := 6) (by decide) rfl (by decide) (Nat.le_trans (Nat.le_of_ble_eq_true rfl) hcs0.1) (Nat.le_trans (Nat.le_of_ble_eq_true rfl) hcs0.2) dX2_init_15 (q := 17) rfl (fun q15 => ?_)
  refine v_ws (ws' := [(g, .inr (2, [.ref q7, .null, .null, .int 0, .int 0])), (q7, .inl (cI, 6, .inl (fun _ => 0))), (q15, .inl (cI, 6, .inl (fun _ => 0)))]) rfl ?_
  refine pt_X2_15 F hnm dX2_init_17 0 rfl (Nat.le_of_ble_eq_true rfl) (q := 20) rfl ?_
  refine v_ws (ws' := [(g, .inr (2, [.ref q7, .ref q15, .null, .int 0, .int 0])), (q7, .inl (cI, 6, .inl (fun _ => 0))), (q15, .inl (cI, 6, .inl (fun _ => 0)))]) rfl ?_
  refine v_aload_n F dX2_init_20 (i := 0) rfl 0 rfl (q := 21) rfl ?_
  refine v_bipush F dX2_init_21 (v := 6) (q := 23) rfl rfl ?_
  refine v_newI F (N' := 6) (by decide) rfl (by decide) (Nat.le_trans (Nat.le_of_ble_eq_true rfl) hcs0.1) (Nat.le_trans (Nat.le_of_ble_eq_true rfl) hcs0.2) dX2_init_23 (q := 25) rfl (fun q23 => ?_)
  refine v_ws (ws' := [(g, .inr (2, [.ref q7, .ref q15, .null, .int 0, .int 0])), (q7, .inl (cI, 6, .inl (fun _ => 0))), (q15, .inl (cI, 6, .inl (fun _ => 0))), (q23, .inl (cI, 6, .inl (fun _ => 0)))]) rfl ?_
  refine pt_X2_18 F hnm dX2_init_25 0 rfl (Nat.le_of_ble_eq_true rfl) (q := 28) rfl ?_
  refine v_ws (ws' := [(g, .inr (2, [.ref q7, .ref q15, .ref q23, .int 0, .int 0])), (q7, .inl (cI, 6, .inl (fun _ => 0))), (q15, .inl (cI, 6, .inl (fun _ => 0))), (q23, .inl (cI, 6, .inl (fun _ => 0)))]) rfl ?_
  refine v_aload_n F dX2_init_28 (i := 0) rfl 0 rfl (q := 29) rfl ?_
  refine v_iconst F dX2_init_29 (v := 0) (q := 30) rfl rfl ?_
  refine pt_X2_21 F dX2_init_30 0 rfl (Nat.le_of_ble_eq_true rfl) (q := 33) rfl ?_
  refine v_ws (ws' := [(g, .inr (2, [.ref q7, .ref q15, .ref q23, .int 0, .int 0])), (q7, .inl (cI, 6, .inl (fun _ => 0))), (q15, .inl (cI, 6, .inl (fun _ => 0))), (q23, .inl (cI, 6, .inl (fun _ => 0)))]) rfl ?_
  refine v_aload_n F dX2_init_33 (i := 0) rfl 0 rfl (q := 34) rfl ?_
  refine v_iconst F dX2_init_34 (v := 0) (q := 35) rfl rfl ?_
  refine pt_X2_25 F dX2_init_35 0 rfl (Nat.le_of_ble_eq_true rfl) (q := 38) rfl ?_
  refine v_ws (ws' := [(g, .inr (2, [.ref q7, .ref q15, .ref q23, .int 0, .int 0])), (q7, .inl (cI, 6, .inl (fun _ => 0))), (q15, .inl (cI, 6, .inl (fun _ => 0))), (q23, .inl (cI, 6, .inl (fun _ => 0)))]) rfl ?_
  exact hE dX2_init_38 (Nat.le_of_ble_eq_true rfl) (Nat.le_of_ble_eq_true rfl) ⟨⟨q7, q15, q23, rfl, rfl⟩, Nat.le_of_ble_eq_true rfl⟩

set_option maxHeartbeats 4000000 in
set_option maxRecDepth 100000 in
theorem c_X5_init (h : Nat)  : Ct l D (TY cI cJ cZ) yX5_init cX5_init 1 none 1 13 4 48 [.ref h] [(h, .inr (5, [.null, .null, .null, .null, .int 0, .int 0]))] (fun r w => ∃ ha hb hc hd : Nat, r = none ∧ w = [(h, .inr (5, [.ref ha, .ref hb, .ref hc, .ref hd, .int 0, .int 0])), (ha, .inl (cI, 12, .inl (fun _ => 0))), (hb, .inl (cI, 12, .inl (fun _ => 0))), (hc, .inl (cI, 12, .inl (fun _ => 0))), (hd, .inl (cI, 12, .inl (fun _ => 0)))]) := by
  refine Ct.ofV (by decide) (Nat.le_of_ble_eq_true rfl) ?_
  intro p e s m args below meth c A R Q F hnm hcs0 hE
  refine v_lv (lv' := [(0, .ref h)]) [0] rfl ?_
  refine v_aload_n F dX5_init_0 (i := 0) rfl 0 rfl (q := 1) rfl ?_
  refine v_objInit F ml_X5_3 dX5_init_1 (Nat.le_of_ble_eq_true rfl) (Nat.le_of_ble_eq_true rfl) (q := 4) rfl ?_
  refine v_aload_n F dX5_init_4 (i := 0) rfl 0 rfl (q := 5) rfl ?_
  refine v_bipush F dX5_init_5 (v := 12) (q := 7) rfl rfl ?_
  refine v_newI F (N' := 12) (by decide) rfl (by decide) (Nat.le_trans (Nat.le_of_ble_eq_true rfl) hcs0.1) (Nat.le_trans (Nat.le_of_ble_eq_true rfl) hcs0.2) dX5_init_7 (q := 9) rfl (fun q7 => ?_)
  refine v_ws (ws' := [(h, .inr (5, [.null, .null, .null, .null, .int 0, .int 0])), (q7, .inl (cI, 12, .inl (fun _ => 0)))]) rfl ?_
  refine pt_X5_9 F hnm dX5_init_9 0 rfl (Nat.le_of_ble_eq_true rfl) (q := 12) rfl ?_
  refine v_ws (ws' := [(h, .inr (5, [.ref q7, .null, .null, .null, .int 0, .int 0])), (q7, .inl (cI, 12, .inl (fun _ => 0)))]) rfl ?_
  refine v_aload_n F dX5_init_12 (i := 0) rfl 0 rfl (q := 13) rfl ?_
  refine v_bipush F dX5_init_13 (v := 12) (q := 15) rfl rfl ?_
  refine v_newI F (N' := 12) (by decide) rfl (by decide) (Nat.le_trans (Nat.le_of_ble_eq_true rfl) hcs0.1) (Nat.le_trans (Nat.le_of_ble_eq_true rfl) hcs0.2) dX5_init_15 (q := 17) rfl (fun q15 => ?_)
  refine v_ws (ws' := [(h, .inr (5, [.ref q7, .null, .null, .null, .int 0, .int 0])), (q7, .inl (cI, 12, .inl (fun _ => 0))), (q15, .inl (cI, 12, .inl (fun _ => 0)))]) rfl ?_
  refine pt_X5_15 F hnm dX5_init_17 0 rfl (Nat.le_of_ble_eq_true rfl) (q := 20) rfl ?_
  refine v_ws (ws' := [(h, .inr (5, [.ref q7, .ref q15, .null, .null, .int 0, .int 0])), (q7, .inl (cI, 12, .inl (fun _ => 0))), (q15, .inl (cI, 12, .inl (fun _ => 0)))]) rfl ?_
  refine v_aload_n F dX5_init_20 (i := 0) rfl 0 rfl (q := 21) rfl ?_
  refine v_bipush F dX5_init_21 (v := 12) (q := 23) rfl rfl ?_
  refine v_newI F (N' := 12) (by decide) rfl (by decide) (Nat.le_trans (Nat.le_of_ble_eq_true rfl) hcs0.1) (Nat.le_trans (Nat.le_of_ble_eq_true rfl) hcs0.2) dX5_init_23 (q := 25) rfl (fun q23 => ?_)
  refine v_ws (ws' := [(h, .inr (5, [.ref q7, .ref q15, .null, .null, .int 0, .int 0])), (q7, .inl (cI, 12, .inl (fun _ => 0))), (q15, .inl (cI, 12, .inl (fun _ => 0))), (q23, .inl (cI, 12, .inl (fun _ => 0)))]) rfl ?_
  refine pt_X5_18 F hnm dX5_init_25 0 rfl (Nat.le_of_ble_eq_true rfl) (q := 28) rfl ?_
  refine v_ws (ws' := [(h, .inr (5, [.ref q7, .ref q15, .ref q23, .null, .int 0, .int 0])), (q7, .inl (cI, 12, .inl (fun _ => 0))), (q15, .inl (cI, 12, .inl (fun _ => 0))), (q23, .inl (cI, 12, .inl (fun _ => 0)))]) rfl ?_
  refine v_aload_n F dX5_init_28 (i := 0) rfl 0 rfl (q := 29) rfl ?_
  refine v_bipush F dX5_init_29 (v := 12) (q := 31) rfl rfl ?_
  refine v_newI F (N' := 12) (by decide) rfl (by decide) (Nat.le_trans (Nat.le_of_ble_eq_true rfl) hcs0.1) (Nat.le_trans (Nat.le_of_ble_eq_true rfl) hcs0.2) dX5_init_31 (q := 33) rfl (fun q31 => ?_)
  refine v_ws (ws' := [(h, .inr (5, [.ref q7, .ref q15, .ref q23, .null, .int 0, .int 0])), (q7, .inl (cI, 12, .inl (fun _ => 0))), (q15, .inl (cI, 12, .inl (fun _ => 0))), (q23, .inl (cI, 12, .inl (fun _ => 0))), (q31, .inl (cI, 12, .inl (fun _ => 0)))]) rfl ?_
  refine pt_X5_21 F hnm dX5_init_33 0 rfl (Nat.le_of_ble_eq_true rfl) (q := 36) rfl ?_
  refine v_ws (ws' := [(h, .inr (5, [.ref q7, .ref q15, .ref q23, .ref q31, .int 0, .int 0])), (q7, .inl (cI, 12, .inl (fun _ => 0))), (q15, .inl (cI, 12, .inl (fun _ => 0))), (q23, .inl (cI, 12, .inl (fun _ => 0))), (q31, .inl (cI, 12, .inl (fun _ => 0)))]) rfl ?_
  refine v_aload_n F dX5_init_36 (i := 0) rfl 0 rfl (q := 37) rfl ?_
  refine v_iconst F dX5_init_37 (v := 0) (q := 38) rfl rfl ?_
  refine pt_X5_24 F dX5_init_38 0 rfl (Nat.le_of_ble_eq_true rfl) (q := 41) rfl ?_
  refine v_ws (ws' := [(h, .inr (5, [.ref q7, .ref q15, .ref q23, .ref q31, .int 0, .int 0])), (q7, .inl (cI, 12, .inl (fun _ => 0))), (q15, .inl (cI, 12, .inl (fun _ => 0))), (q23, .inl (cI, 12, .inl (fun _ => 0))), (q31, .inl (cI, 12, .inl (fun _ => 0)))]) rfl ?_
  refine v_aload_n F dX5_init_41 (i := 0) rfl 0 rfl (q := 42) rfl ?_
  refine v_iconst F dX5_init_42 (v := 0) (q := 43) rfl rfl ?_
  refine pt_X5_28 F dX5_init_43 0 rfl (Nat.le_of_ble_eq_true rfl) (q := 46) rfl ?_
  refine v_ws (ws' := [(h, .inr (5, [.ref q7, .ref q15, .ref q23, .ref q31, .int 0, .int 0])), (q7, .inl (cI, 12, .inl (fun _ => 0))), (q15, .inl (cI, 12, .inl (fun _ => 0))), (q23, .inl (cI, 12, .inl (fun _ => 0))), (q31, .inl (cI, 12, .inl (fun _ => 0)))]) rfl ?_
  exact hE dX5_init_46 (Nat.le_of_ble_eq_true rfl) (Nat.le_of_ble_eq_true rfl) ⟨⟨q7, q15, q23, q31, rfl, rfl⟩, Nat.le_of_ble_eq_true rfl⟩

set_option maxHeartbeats 4000000 in
set_option maxRecDepth 100000 in
theorem c_X4_init (o : Nat)  : Ct l D (TY cI cJ cZ) yX4_init cX4_init 1 none 1 13 4 12 [.ref o] [(o, .inr (4, [.null, .null, .null, .null]))] (fun r w => ∃ oa ob oc od : Nat, r = none ∧ w = [(o, .inr (4, [.ref oa, .ref ob, .ref oc, .ref od])), (oa, .inl (cI, 3, .inl (fun _ => 0))), (ob, .inl (cJ, 3, .inr (.inl (fun _ => 0)))), (oc, .inl (cJ, 3, .inr (.inl (fun _ => 0)))), (od, .inl (cJ, 3, .inr (.inl (fun _ => 0))))]) := by
  refine Ct.ofV (by decide) (Nat.le_of_ble_eq_true rfl) ?_
  intro p e s m args below meth c A R Q F hnm hcs0 hE
  refine v_lv (lv' := [(0, .ref o)]) [0] rfl ?_
  refine v_aload_n F dX4_init_0 (i := 0) rfl 0 rfl (q := 1) rfl ?_
  refine v_objInit F ml_X4_3 dX4_init_1 (Nat.le_of_ble_eq_true rfl) (Nat.le_of_ble_eq_true rfl) (q := 4) rfl ?_
  refine v_aload_n F dX4_init_4 (i := 0) rfl 0 rfl (q := 5) rfl ?_
  refine v_iconst F dX4_init_5 (v := 3) (q := 6) rfl rfl ?_
  refine v_newI F (N' := 3) (by decide) rfl (by decide) (Nat.le_trans (Nat.le_of_ble_eq_true rfl) hcs0.1) (Nat.le_trans (Nat.le_of_ble_eq_true rfl) hcs0.2) dX4_init_6 (q := 8) rfl (fun q6 => ?_)
  refine v_ws (ws' := [(o, .inr (4, [.null, .null, .null, .null])), (q6, .inl (cI, 3, .inl (fun _ => 0)))]) rfl ?_
  refine pt_X4_9 F hnm dX4_init_8 0 rfl (Nat.le_of_ble_eq_true rfl) (q := 11) rfl ?_
  refine v_ws (ws' := [(o, .inr (4, [.ref q6, .null, .null, .null])), (q6, .inl (cI, 3, .inl (fun _ => 0)))]) rfl ?_
  refine v_aload_n F dX4_init_11 (i := 0) rfl 0 rfl (q := 12) rfl ?_
  refine v_iconst F dX4_init_12 (v := 3) (q := 13) rfl rfl ?_
  refine v_newJ F (N' := 3) (by decide) rfl (by decide) (Nat.le_trans (Nat.le_of_ble_eq_true rfl) hcs0.1) (Nat.le_trans (Nat.le_of_ble_eq_true rfl) hcs0.2) dX4_init_13 (q := 15) rfl (fun q13 => ?_)
  refine v_ws (ws' := [(o, .inr (4, [.ref q6, .null, .null, .null])), (q6, .inl (cI, 3, .inl (fun _ => 0))), (q13, .inl (cJ, 3, .inr (.inl (fun _ => 0))))]) rfl ?_
  refine pt_X4_15 F hnm dX4_init_15 0 rfl (Nat.le_of_ble_eq_true rfl) (q := 18) rfl ?_
  refine v_ws (ws' := [(o, .inr (4, [.ref q6, .ref q13, .null, .null])), (q6, .inl (cI, 3, .inl (fun _ => 0))), (q13, .inl (cJ, 3, .inr (.inl (fun _ => 0))))]) rfl ?_
  refine v_aload_n F dX4_init_18 (i := 0) rfl 0 rfl (q := 19) rfl ?_
  refine v_iconst F dX4_init_19 (v := 3) (q := 20) rfl rfl ?_
  refine v_newJ F (N' := 3) (by decide) rfl (by decide) (Nat.le_trans (Nat.le_of_ble_eq_true rfl) hcs0.1) (Nat.le_trans (Nat.le_of_ble_eq_true rfl) hcs0.2) dX4_init_20 (q := 22) rfl (fun q20 => ?_)
  refine v_ws (ws' := [(o, .inr (4, [.ref q6, .ref q13, .null, .null])), (q6, .inl (cI, 3, .inl (fun _ => 0))), (q13, .inl (cJ, 3, .inr (.inl (fun _ => 0)))), (q20, .inl (cJ, 3, .inr (.inl (fun _ => 0))))]) rfl ?_
  refine pt_X4_19 F hnm dX4_init_22 0 rfl (Nat.le_of_ble_eq_true rfl) (q := 25) rfl ?_
  refine v_ws (ws' := [(o, .inr (4, [.ref q6, .ref q13, .ref q20, .null])), (q6, .inl (cI, 3, .inl (fun _ => 0))), (q13, .inl (cJ, 3, .inr (.inl (fun _ => 0)))), (q20, .inl (cJ, 3, .inr (.inl (fun _ => 0))))]) rfl ?_
  refine v_aload_n F dX4_init_25 (i := 0) rfl 0 rfl (q := 26) rfl ?_
  refine v_iconst F dX4_init_26 (v := 3) (q := 27) rfl rfl ?_
  refine v_newJ F (N' := 3) (by decide) rfl (by decide) (Nat.le_trans (Nat.le_of_ble_eq_true rfl) hcs0.1) (Nat.le_trans (Nat.le_of_ble_eq_true rfl) hcs0.2) dX4_init_27 (q := 29) rfl (fun q27 => ?_)
  refine v_ws (ws' := [(o, .inr (4, [.ref q6, .ref q13, .ref q20, .null])), (q6, .inl (cI, 3, .inl (fun _ => 0))), (q13, .inl (cJ, 3, .inr (.inl (fun _ => 0)))), (q20, .inl (cJ, 3, .inr (.inl (fun _ => 0)))), (q27, .inl (cJ, 3, .inr (.inl (fun _ => 0))))]) rfl ?_
  refine pt_X4_22 F hnm dX4_init_29 0 rfl (Nat.le_of_ble_eq_true rfl) (q := 32) rfl ?_
  refine v_ws (ws' := [(o, .inr (4, [.ref q6, .ref q13, .ref q20, .ref q27])), (q6, .inl (cI, 3, .inl (fun _ => 0))), (q13, .inl (cJ, 3, .inr (.inl (fun _ => 0)))), (q20, .inl (cJ, 3, .inr (.inl (fun _ => 0)))), (q27, .inl (cJ, 3, .inr (.inl (fun _ => 0))))]) rfl ?_
  exact hE dX4_init_32 (Nat.le_of_ble_eq_true rfl) (Nat.le_of_ble_eq_true rfl) ⟨⟨q6, q13, q20, q27, rfl, rfl⟩, Nat.le_of_ble_eq_true rfl⟩

set_option maxHeartbeats 4000000 in
set_option maxRecDepth 100000 in
theorem c_X3_init (m0 : Nat)  : Ct l D (TY cI cJ cZ) yX3_init cX3_init 1 none 1 13 3 36 [.ref m0] [(m0, .inr (3, [.null, .null, .null]))] (fun r w => ∃ ma mb mc : Nat, r = none ∧ w = [(m0, .inr (3, [.ref ma, .ref mb, .ref mc])), (ma, .inl (cI, 12, .inl (fun _ => 0))), (mb, .inl (cI, 12, .inl (fun _ => 0))), (mc, .inl (cI, 12, .inl (fun _ => 0)))]) := by
  refine Ct.ofV (by decide) (Nat.le_of_ble_eq_true rfl) ?_
  intro p e s m args below meth c A R Q F hnm hcs0 hE
  refine v_lv (lv' := [(0, .ref m0)]) [0] rfl ?_
  refine v_aload_n F dX3_init_0 (i := 0) rfl 0 rfl (q := 1) rfl ?_
  refine v_objInit F ml_X3_3 dX3_init_1 (Nat.le_of_ble_eq_true rfl) (Nat.le_of_ble_eq_true rfl) (q := 4) rfl ?_
  refine v_aload_n F dX3_init_4 (i := 0) rfl 0 rfl (q := 5) rfl ?_
  refine v_bipush F dX3_init_5 (v := 12) (q := 7) rfl rfl ?_
  refine v_newI F (N' := 12) (by decide) rfl (by decide) (Nat.le_trans (Nat.le_of_ble_eq_true rfl) hcs0.1) (Nat.le_trans (Nat.le_of_ble_eq_true rfl) hcs0.2) dX3_init_7 (q := 9) rfl (fun q7 => ?_)
  refine v_ws (ws' := [(m0, .inr (3, [.null, .null, .null])), (q7, .inl (cI, 12, .inl (fun _ => 0)))]) rfl ?_
  refine pt_X3_9 F hnm dX3_init_9 0 rfl (Nat.le_of_ble_eq_true rfl) (q := 12) rfl ?_
  refine v_ws (ws' := [(m0, .inr (3, [.ref q7, .null, .null])), (q7, .inl (cI, 12, .inl (fun _ => 0)))]) rfl ?_
  refine v_aload_n F dX3_init_12 (i := 0) rfl 0 rfl (q := 13) rfl ?_
  refine v_bipush F dX3_init_13 (v := 12) (q := 15) rfl rfl ?_
  refine v_newI F (N' := 12) (by decide) rfl (by decide) (Nat.le_trans (Nat.le_of_ble_eq_true rfl) hcs0.1) (Nat.le_trans (Nat.le_of_ble_eq_true rfl) hcs0.2) dX3_init_15 (q := 17) rfl (fun q15 => ?_)
  refine v_ws (ws' := [(m0, .inr (3, [.ref q7, .null, .null])), (q7, .inl (cI, 12, .inl (fun _ => 0))), (q15, .inl (cI, 12, .inl (fun _ => 0)))]) rfl ?_
  refine pt_X3_15 F hnm dX3_init_17 0 rfl (Nat.le_of_ble_eq_true rfl) (q := 20) rfl ?_
  refine v_ws (ws' := [(m0, .inr (3, [.ref q7, .ref q15, .null])), (q7, .inl (cI, 12, .inl (fun _ => 0))), (q15, .inl (cI, 12, .inl (fun _ => 0)))]) rfl ?_
  refine v_aload_n F dX3_init_20 (i := 0) rfl 0 rfl (q := 21) rfl ?_
  refine v_bipush F dX3_init_21 (v := 12) (q := 23) rfl rfl ?_
  refine v_newI F (N' := 12) (by decide) rfl (by decide) (Nat.le_trans (Nat.le_of_ble_eq_true rfl) hcs0.1) (Nat.le_trans (Nat.le_of_ble_eq_true rfl) hcs0.2) dX3_init_23 (q := 25) rfl (fun q23 => ?_)
  refine v_ws (ws' := [(m0, .inr (3, [.ref q7, .ref q15, .null])), (q7, .inl (cI, 12, .inl (fun _ => 0))), (q15, .inl (cI, 12, .inl (fun _ => 0))), (q23, .inl (cI, 12, .inl (fun _ => 0)))]) rfl ?_
  refine pt_X3_18 F hnm dX3_init_25 0 rfl (Nat.le_of_ble_eq_true rfl) (q := 28) rfl ?_
  refine v_ws (ws' := [(m0, .inr (3, [.ref q7, .ref q15, .ref q23])), (q7, .inl (cI, 12, .inl (fun _ => 0))), (q15, .inl (cI, 12, .inl (fun _ => 0))), (q23, .inl (cI, 12, .inl (fun _ => 0)))]) rfl ?_
  exact hE dX3_init_28 (Nat.le_of_ble_eq_true rfl) (Nat.le_of_ble_eq_true rfl) ⟨⟨q7, q15, q23, rfl, rfl⟩, Nat.le_of_ble_eq_true rfl⟩

set_option maxHeartbeats 4000000 in
set_option maxRecDepth 100000 in
theorem c_X1_init (v0 : Nat)  : Ct l D (TY cI cJ cZ) yX1_init cX1_init 1 none 1 13 0 0 [.ref v0] [(v0, .inr (1, [.int 0, .int 0, .int 0, .int 0, .int 0]))] (fun r w => r = none ∧ w = [(v0, .inr (1, [.int 0, .int 0, .int 0, .int 0, .int 0]))]) := by
  refine Ct.ofV (by decide) (Nat.le_of_ble_eq_true rfl) ?_
  intro p e s m args below meth c A R Q F hnm hcs0 hE
  refine v_lv (lv' := [(0, .ref v0)]) [0] rfl ?_
  refine v_aload_n F dX1_init_0 (i := 0) rfl 0 rfl (q := 1) rfl ?_
  refine v_objInit F ml_X1_1 dX1_init_1 (Nat.le_of_ble_eq_true rfl) (Nat.le_of_ble_eq_true rfl) (q := 4) rfl ?_
  exact hE dX1_init_4 (Nat.zero_le _) (Nat.zero_le _) ⟨⟨rfl, rfl⟩, Nat.le_of_ble_eq_true rfl⟩

set_option maxHeartbeats 4000000 in
set_option maxRecDepth 100000 in
theorem c_X6_init (t : Nat)  : Ct l D (TY cI cJ cZ) yX6_init cX6_init 1 none 1 13 2 30 [.ref t] [(t, .inr (6, [.null, .null, .int 0]))] (fun r w => ∃ ta tb : Nat, r = none ∧ w = [(t, .inr (6, [.ref ta, .ref tb, .int 0])), (ta, .inl (cJ, 15, .inr (.inl (fun _ => 0)))), (tb, .inl (cJ, 15, .inr (.inl (fun _ => 0))))]) := by
  refine Ct.ofV (by decide) (Nat.le_of_ble_eq_true rfl) ?_
  intro p e s m args below meth c A R Q F hnm hcs0 hE
  refine v_lv (lv' := [(0, .ref t)]) [0] rfl ?_
  refine v_aload_n F dX6_init_0 (i := 0) rfl 0 rfl (q := 1) rfl ?_
  refine v_objInit F ml_X6_3 dX6_init_1 (Nat.le_of_ble_eq_true rfl) (Nat.le_of_ble_eq_true rfl) (q := 4) rfl ?_
  refine v_aload_n F dX6_init_4 (i := 0) rfl 0 rfl (q := 5) rfl ?_
  refine v_bipush F dX6_init_5 (v := 15) (q := 7) rfl rfl ?_
  refine v_newJ F (N' := 15) (by decide) rfl (by decide) (Nat.le_trans (Nat.le_of_ble_eq_true rfl) hcs0.1) (Nat.le_trans (Nat.le_of_ble_eq_true rfl) hcs0.2) dX6_init_7 (q := 9) rfl (fun q7 => ?_)
  refine v_ws (ws' := [(t, .inr (6, [.null, .null, .int 0])), (q7, .inl (cJ, 15, .inr (.inl (fun _ => 0))))]) rfl ?_
  refine pt_X6_9 F hnm dX6_init_9 0 rfl (Nat.le_of_ble_eq_true rfl) (q := 12) rfl ?_
  refine v_ws (ws' := [(t, .inr (6, [.ref q7, .null, .int 0])), (q7, .inl (cJ, 15, .inr (.inl (fun _ => 0))))]) rfl ?_
  refine v_aload_n F dX6_init_12 (i := 0) rfl 0 rfl (q := 13) rfl ?_
  refine v_bipush F dX6_init_13 (v := 15) (q := 15) rfl rfl ?_
  refine v_newJ F (N' := 15) (by decide) rfl (by decide) (Nat.le_trans (Nat.le_of_ble_eq_true rfl) hcs0.1) (Nat.le_trans (Nat.le_of_ble_eq_true rfl) hcs0.2) dX6_init_15 (q := 17) rfl (fun q15 => ?_)
  refine v_ws (ws' := [(t, .inr (6, [.ref q7, .null, .int 0])), (q7, .inl (cJ, 15, .inr (.inl (fun _ => 0)))), (q15, .inl (cJ, 15, .inr (.inl (fun _ => 0))))]) rfl ?_
  refine pt_X6_15 F hnm dX6_init_17 0 rfl (Nat.le_of_ble_eq_true rfl) (q := 20) rfl ?_
  refine v_ws (ws' := [(t, .inr (6, [.ref q7, .ref q15, .int 0])), (q7, .inl (cJ, 15, .inr (.inl (fun _ => 0)))), (q15, .inl (cJ, 15, .inr (.inl (fun _ => 0))))]) rfl ?_
  refine v_aload_n F dX6_init_20 (i := 0) rfl 0 rfl (q := 21) rfl ?_
  refine v_iconst F dX6_init_21 (v := 0) (q := 22) rfl rfl ?_
  refine pt_X6_18 F dX6_init_22 0 rfl (Nat.le_of_ble_eq_true rfl) (q := 25) rfl ?_
  refine v_ws (ws' := [(t, .inr (6, [.ref q7, .ref q15, .int 0])), (q7, .inl (cJ, 15, .inr (.inl (fun _ => 0)))), (q15, .inl (cJ, 15, .inr (.inl (fun _ => 0))))]) rfl ?_
  exact hE dX6_init_25 (Nat.le_of_ble_eq_true rfl) (Nat.le_of_ble_eq_true rfl) ⟨⟨q7, q15, rfl, rfl⟩, Nat.le_of_ble_eq_true rfl⟩

set_option maxHeartbeats 4000000 in
set_option maxRecDepth 100000 in
theorem c_X0_init (ca h : Nat)  : Ct l D (TY cI cJ cZ) yX0_init cX0_init 2 none 1 13 0 0 [.ref ca, .ref h] [(ca, .inr (0, [.null, .long 0, .long 0, .long 0, .long 0, .long 0, .long 0, .long 0, .long 0, .long 0, .long 0]))] (fun r w => r = none ∧ w = [(ca, .inr (0, [.ref h, .long 0, .long 0, .long 0, .long 0, .long 0, .long 0, .long 1, .long 0, .long 0, .long 0]))]) := by
  refine Ct.ofV (by decide) (Nat.le_of_ble_eq_true rfl) ?_
  intro p e s m args below meth c A R Q F hnm hcs0 hE
  refine v_lv (lv' := [(0, .ref ca), (1, .ref h)]) [0, 1] rfl ?_
  refine v_aload_n F dX0_init_0 (i := 0) rfl 0 rfl (q := 1) rfl ?_
  refine v_objInit F ml_X0_1 dX0_init_1 (Nat.le_of_ble_eq_true rfl) (Nat.le_of_ble_eq_true rfl) (q := 4) rfl ?_
  refine v_aload_n F dX0_init_4 (i := 0) rfl 0 rfl (q := 5) rfl ?_
  refine v_lconst F dX0_init_5 (v := 1) (q := 6) rfl rfl ?_
  refine pt_X0_7 F dX0_init_6 0 rfl (Nat.le_of_ble_eq_true rfl) (q := 9) rfl ?_
  refine v_ws (ws' := [(ca, .inr (0, [.null, .long 0, .long 0, .long 0, .long 0, .long 0, .long 0, .long 1, .long 0, .long 0, .long 0]))]) rfl ?_
  refine v_aload_n F dX0_init_9 (i := 0) rfl 0 rfl (q := 10) rfl ?_
  refine v_aload_n F dX0_init_10 (i := 1) rfl 1 rfl (q := 11) rfl ?_
  refine pt_X0_13 F hnm dX0_init_11 0 rfl (Nat.le_of_ble_eq_true rfl) (q := 14) rfl ?_
  refine v_ws (ws' := [(ca, .inr (0, [.ref h, .long 0, .long 0, .long 0, .long 0, .long 0, .long 0, .long 1, .long 0, .long 0, .long 0]))]) rfl ?_
  exact hE dX0_init_14 (Nat.zero_le _) (Nat.zero_le _) ⟨⟨rfl, rfl⟩, Nat.le_of_ble_eq_true rfl⟩

set_option maxHeartbeats 4000000 in
set_option maxRecDepth 100000 in
theorem c_X7_init (z : Nat)  : Ct l D (TY cI cJ cZ) yX7_init cX7_init 1 none 2 34 23 181 [.ref z] [(z, .inr (7, [.null, .null, .null, .null, .null, .null, .null, .int 0]))] (fun r w => ∃ g ga gb gc h ha hb hc hd o oa ob oc od ca m0 ma mb mc v0 t ta tb : Nat, r = none ∧ w = [(z, .inr (7, [.ref g, .ref h, .ref o, .ref ca, .ref m0, .ref v0, .ref t, .int 0])), (g, .inr (2, [.ref ga, .ref gb, .ref gc, .int 0, .int 0])), (ga, .inl (cI, 6, .inl (fun _ => 0))), (gb, .inl (cI, 6, .inl (fun _ => 0))), (gc, .inl (cI, 6, .inl (fun _ => 0))), (h, .inr (5, [.ref ha, .ref hb, .ref hc, .ref hd, .int 0, .int 0])), (ha, .inl (cI, 12, .inl (fun _ => 0))), (hb, .inl (cI, 12, .inl (fun _ => 0))), (hc, .inl (cI, 12, .inl (fun _ => 0))), (hd, .inl (cI, 12, .inl (fun _ => 0))), (o, .inr (4, [.ref oa, .ref ob, .ref oc, .ref od])), (oa, .inl (cI, 3, .inl (fun _ => 0))), (ob, .inl (cJ, 3, .inr (.inl (fun _ => 0)))), (oc, .inl (cJ, 3, .inr (.inl (fun _ => 0)))), (od, .inl (cJ, 3, .inr (.inl (fun _ => 0)))), (ca, .inr (0, [.ref h, .long 0, .long 0, .long 0, .long 0, .long 0, .long 0, .long 1, .long 0, .long 0, .long 0])), (m0, .inr (3, [.ref ma, .ref mb, .ref mc])), (ma, .inl (cI, 12, .inl (fun _ => 0))), (mb, .inl (cI, 12, .inl (fun _ => 0))), (mc, .inl (cI, 12, .inl (fun _ => 0))), (v0, .inr (1, [.int 0, .int 0, .int 0, .int 0, .int 0])), (t, .inr (6, [.ref ta, .ref tb, .int 0])), (ta, .inl (cJ, 15, .inr (.inl (fun _ => 0)))), (tb, .inl (cJ, 15, .inr (.inl (fun _ => 0))))]) := by
  refine Ct.ofV (by decide) (Nat.le_of_ble_eq_true rfl) ?_
  intro p e s m args below meth c A R Q F hnm hcs0 hE
  refine v_lv (lv' := [(0, .ref z)]) [0] rfl ?_
  refine v_aload_n F dX7_init_0 (i := 0) rfl 0 rfl (q := 1) rfl ?_
  refine v_objInit F ml_X7_3 dX7_init_1 (Nat.le_of_ble_eq_true rfl) (Nat.le_of_ble_eq_true rfl) (q := 4) rfl ?_
  refine v_aload_n F dX7_init_4 (i := 0) rfl 0 rfl (q := 5) rfl ?_
  refine v_new F iw_X2 tyX2 tyX2_ok cl_X7_9 it_X2 in_X2 (ci := 2) (fs := [.null, .null, .null, .int 0, .int 0]) rfl (fun j hj => by rcases (show j = 0 ∨ j = 1 ∨ j = 2 ∨ j = 3 ∨ j = 4 by omega) with rfl | rfl | rfl | rfl | rfl <;> rfl) (Nat.le_trans (Nat.le_of_ble_eq_true rfl) hcs0.1) (Nat.le_trans (Nat.le_of_ble_eq_true rfl) hcs0.2) dX7_init_5 (q := 8) rfl (fun q5 => ?_)
  refine v_ws (ws' := [(z, .inr (7, [.null, .null, .null, .null, .null, .null, .null, .int 0])), (q5, .inr (2, [.null, .null, .null, .int 0, .int 0]))]) rfl ?_
  refine v_dup F dX7_init_8 rfl (q := 9) rfl ?_
  refine v_callIN F ml_X7_11 im_X2_init in_X2 co_X2_init rfl sd_X2_init (c_X2_init q5) ⟨Nat.le_trans (Nat.le_of_ble_eq_true rfl) hcs0.1, Nat.le_trans (Nat.le_of_ble_eq_true rfl) hcs0.2⟩ (Nat.le_of_ble_eq_true rfl) (Nat.le_of_ble_eq_true rfl) (As := []) rfl rfl [1] rfl rfl rfl (rest := [.ref q5, .ref z]) rfl (Nat.le_of_ble_eq_true rfl) dX7_init_9 (q := 12) rfl (fun r w hr => ?_)
  obtain ⟨q5_ga, q5_gb, q5_gc, rfl, rfl⟩ := hr
  refine v_ws (ws' := [(z, .inr (7, [.null, .null, .null, .null, .null, .null, .null, .int 0])), (q5, .inr (2, [.ref q5_ga, .ref q5_gb, .ref q5_gc, .int 0, .int 0])), (q5_ga, .inl (cI, 6, .inl (fun _ => 0))), (q5_gb, .inl (cI, 6, .inl (fun _ => 0))), (q5_gc, .inl (cI, 6, .inl (fun _ => 0)))]) rfl ?_
  refine v_st (st' := [.ref q5, .ref z]) rfl ?_
  refine pt_X7_12 F hnm dX7_init_12 0 rfl (Nat.le_of_ble_eq_true rfl) (q := 15) rfl ?_
  refine v_ws (ws' := [(z, .inr (7, [.ref q5, .null, .null, .null, .null, .null, .null, .int 0])), (q5, .inr (2, [.ref q5_ga, .ref q5_gb, .ref q5_gc, .int 0, .int 0])), (q5_ga, .inl (cI, 6, .inl (fun _ => 0))), (q5_gb, .inl (cI, 6, .inl (fun _ => 0))), (q5_gc, .inl (cI, 6, .inl (fun _ => 0)))]) rfl ?_
  refine v_aload_n F dX7_init_15 (i := 0) rfl 0 rfl (q := 16) rfl ?_
  refine v_new F iw_X5 tyX5 tyX5_ok cl_X7_16 it_X5 in_X5 (ci := 5) (fs := [.null, .null, .null, .null, .int 0, .int 0]) rfl (fun j hj => by rcases (show j = 0 ∨ j = 1 ∨ j = 2 ∨ j = 3 ∨ j = 4 ∨ j = 5 by omega) with rfl | rfl | rfl | rfl | rfl | rfl <;> rfl) (Nat.le_trans (Nat.le_of_ble_eq_true rfl) hcs0.1) (Nat.le_trans (Nat.le_of_ble_eq_true rfl) hcs0.2) dX7_init_16 (q := 19) rfl (fun q16 => ?_)
  refine v_ws (ws' := [(z, .inr (7, [.ref q5, .null, .null, .null, .null, .null, .null, .int 0])), (q5, .inr (2, [.ref q5_ga, .ref q5_gb, .ref q5_gc, .int 0, .int 0])), (q5_ga, .inl (cI, 6, .inl (fun _ => 0))), (q5_gb, .inl (cI, 6, .inl (fun _ => 0))), (q5_gc, .inl (cI, 6, .inl (fun _ => 0))), (q16, .inr (5, [.null, .null, .null, .null, .int 0, .int 0]))]) rfl ?_
  refine v_dup F dX7_init_19 rfl (q := 20) rfl ?_
  refine v_callIN F ml_X7_18 im_X5_init in_X5 co_X5_init rfl sd_X5_init (c_X5_init q16) ⟨Nat.le_trans (Nat.le_of_ble_eq_true rfl) hcs0.1, Nat.le_trans (Nat.le_of_ble_eq_true rfl) hcs0.2⟩ (Nat.le_of_ble_eq_true rfl) (Nat.le_of_ble_eq_true rfl) (As := []) rfl rfl [5] rfl rfl rfl (rest := [.ref q16, .ref z]) rfl (Nat.le_of_ble_eq_true rfl) dX7_init_20 (q := 23) rfl (fun r w hr => ?_)
  obtain ⟨q16_ha, q16_hb, q16_hc, q16_hd, rfl, rfl⟩ := hr
  refine v_ws (ws' := [(z, .inr (7, [.ref q5, .null, .null, .null, .null, .null, .null, .int 0])), (q5, .inr (2, [.ref q5_ga, .ref q5_gb, .ref q5_gc, .int 0, .int 0])), (q5_ga, .inl (cI, 6, .inl (fun _ => 0))), (q5_gb, .inl (cI, 6, .inl (fun _ => 0))), (q5_gc, .inl (cI, 6, .inl (fun _ => 0))), (q16, .inr (5, [.ref q16_ha, .ref q16_hb, .ref q16_hc, .ref q16_hd, .int 0, .int 0])), (q16_ha, .inl (cI, 12, .inl (fun _ => 0))), (q16_hb, .inl (cI, 12, .inl (fun _ => 0))), (q16_hc, .inl (cI, 12, .inl (fun _ => 0))), (q16_hd, .inl (cI, 12, .inl (fun _ => 0)))]) rfl ?_
  refine v_st (st' := [.ref q16, .ref z]) rfl ?_
  refine pt_X7_19 F hnm dX7_init_23 0 rfl (Nat.le_of_ble_eq_true rfl) (q := 26) rfl ?_
  refine v_ws (ws' := [(z, .inr (7, [.ref q5, .ref q16, .null, .null, .null, .null, .null, .int 0])), (q5, .inr (2, [.ref q5_ga, .ref q5_gb, .ref q5_gc, .int 0, .int 0])), (q5_ga, .inl (cI, 6, .inl (fun _ => 0))), (q5_gb, .inl (cI, 6, .inl (fun _ => 0))), (q5_gc, .inl (cI, 6, .inl (fun _ => 0))), (q16, .inr (5, [.ref q16_ha, .ref q16_hb, .ref q16_hc, .ref q16_hd, .int 0, .int 0])), (q16_ha, .inl (cI, 12, .inl (fun _ => 0))), (q16_hb, .inl (cI, 12, .inl (fun _ => 0))), (q16_hc, .inl (cI, 12, .inl (fun _ => 0))), (q16_hd, .inl (cI, 12, .inl (fun _ => 0)))]) rfl ?_
  refine v_aload_n F dX7_init_26 (i := 0) rfl 0 rfl (q := 27) rfl ?_
  refine v_new F iw_X4 tyX4 tyX4_ok cl_X7_23 it_X4 in_X4 (ci := 4) (fs := [.null, .null, .null, .null]) rfl (fun j hj => by rcases (show j = 0 ∨ j = 1 ∨ j = 2 ∨ j = 3 by omega) with rfl | rfl | rfl | rfl <;> rfl) (Nat.le_trans (Nat.le_of_ble_eq_true rfl) hcs0.1) (Nat.le_trans (Nat.le_of_ble_eq_true rfl) hcs0.2) dX7_init_27 (q := 30) rfl (fun q27 => ?_)
  refine v_ws (ws' := [(z, .inr (7, [.ref q5, .ref q16, .null, .null, .null, .null, .null, .int 0])), (q5, .inr (2, [.ref q5_ga, .ref q5_gb, .ref q5_gc, .int 0, .int 0])), (q5_ga, .inl (cI, 6, .inl (fun _ => 0))), (q5_gb, .inl (cI, 6, .inl (fun _ => 0))), (q5_gc, .inl (cI, 6, .inl (fun _ => 0))), (q16, .inr (5, [.ref q16_ha, .ref q16_hb, .ref q16_hc, .ref q16_hd, .int 0, .int 0])), (q16_ha, .inl (cI, 12, .inl (fun _ => 0))), (q16_hb, .inl (cI, 12, .inl (fun _ => 0))), (q16_hc, .inl (cI, 12, .inl (fun _ => 0))), (q16_hd, .inl (cI, 12, .inl (fun _ => 0))), (q27, .inr (4, [.null, .null, .null, .null]))]) rfl ?_
  refine v_dup F dX7_init_30 rfl (q := 31) rfl ?_
  refine v_callIN F ml_X7_25 im_X4_init in_X4 co_X4_init rfl sd_X4_init (c_X4_init q27) ⟨Nat.le_trans (Nat.le_of_ble_eq_true rfl) hcs0.1, Nat.le_trans (Nat.le_of_ble_eq_true rfl) hcs0.2⟩ (Nat.le_of_ble_eq_true rfl) (Nat.le_of_ble_eq_true rfl) (As := []) rfl rfl [10] rfl rfl rfl (rest := [.ref q27, .ref z]) rfl (Nat.le_of_ble_eq_true rfl) dX7_init_31 (q := 34) rfl (fun r w hr => ?_)
  obtain ⟨q27_oa, q27_ob, q27_oc, q27_od, rfl, rfl⟩ := hr
  refine v_ws (ws' := [(z, .inr (7, [.ref q5, .ref q16, .null, .null, .null, .null, .null, .int 0])), (q5, .inr (2, [.ref q5_ga, .ref q5_gb, .ref q5_gc, .int 0, .int 0])), (q5_ga, .inl (cI, 6, .inl (fun _ => 0))), (q5_gb, .inl (cI, 6, .inl (fun _ => 0))), (q5_gc, .inl (cI, 6, .inl (fun _ => 0))), (q16, .inr (5, [.ref q16_ha, .ref q16_hb, .ref q16_hc, .ref q16_hd, .int 0, .int 0])), (q16_ha, .inl (cI, 12, .inl (fun _ => 0))), (q16_hb, .inl (cI, 12, .inl (fun _ => 0))), (q16_hc, .inl (cI, 12, .inl (fun _ => 0))), (q16_hd, .inl (cI, 12, .inl (fun _ => 0))), (q27, .inr (4, [.ref q27_oa, .ref q27_ob, .ref q27_oc, .ref q27_od])), (q27_oa, .inl (cI, 3, .inl (fun _ => 0))), (q27_ob, .inl (cJ, 3, .inr (.inl (fun _ => 0)))), (q27_oc, .inl (cJ, 3, .inr (.inl (fun _ => 0)))), (q27_od, .inl (cJ, 3, .inr (.inl (fun _ => 0))))]) rfl ?_
  refine v_st (st' := [.ref q27, .ref z]) rfl ?_
  refine pt_X7_26 F hnm dX7_init_34 0 rfl (Nat.le_of_ble_eq_true rfl) (q := 37) rfl ?_
  refine v_ws (ws' := [(z, .inr (7, [.ref q5, .ref q16, .ref q27, .null, .null, .null, .null, .int 0])), (q5, .inr (2, [.ref q5_ga, .ref q5_gb, .ref q5_gc, .int 0, .int 0])), (q5_ga, .inl (cI, 6, .inl (fun _ => 0))), (q5_gb, .inl (cI, 6, .inl (fun _ => 0))), (q5_gc, .inl (cI, 6, .inl (fun _ => 0))), (q16, .inr (5, [.ref q16_ha, .ref q16_hb, .ref q16_hc, .ref q16_hd, .int 0, .int 0])), (q16_ha, .inl (cI, 12, .inl (fun _ => 0))), (q16_hb, .inl (cI, 12, .inl (fun _ => 0))), (q16_hc, .inl (cI, 12, .inl (fun _ => 0))), (q16_hd, .inl (cI, 12, .inl (fun _ => 0))), (q27, .inr (4, [.ref q27_oa, .ref q27_ob, .ref q27_oc, .ref q27_od])), (q27_oa, .inl (cI, 3, .inl (fun _ => 0))), (q27_ob, .inl (cJ, 3, .inr (.inl (fun _ => 0)))), (q27_oc, .inl (cJ, 3, .inr (.inl (fun _ => 0)))), (q27_od, .inl (cJ, 3, .inr (.inl (fun _ => 0))))]) rfl ?_
  refine v_aload_n F dX7_init_37 (i := 0) rfl 0 rfl (q := 38) rfl ?_
  refine v_new F iw_X0 tyX0 tyX0_ok cl_X7_30 it_X0 in_X0 (ci := 0) (fs := [.null, .long 0, .long 0, .long 0, .long 0, .long 0, .long 0, .long 0, .long 0, .long 0, .long 0]) rfl (fun j hj => by rcases (show j = 0 ∨ j = 1 ∨ j = 2 ∨ j = 3 ∨ j = 4 ∨ j = 5 ∨ j = 6 ∨ j = 7 ∨ j = 8 ∨ j = 9 ∨ j = 10 by omega) with rfl | rfl | rfl | rfl | rfl | rfl | rfl | rfl | rfl | rfl | rfl <;> rfl) (Nat.le_trans (Nat.le_of_ble_eq_true rfl) hcs0.1) (Nat.le_trans (Nat.le_of_ble_eq_true rfl) hcs0.2) dX7_init_38 (q := 41) rfl (fun q38 => ?_)
  refine v_ws (ws' := [(z, .inr (7, [.ref q5, .ref q16, .ref q27, .null, .null, .null, .null, .int 0])), (q5, .inr (2, [.ref q5_ga, .ref q5_gb, .ref q5_gc, .int 0, .int 0])), (q5_ga, .inl (cI, 6, .inl (fun _ => 0))), (q5_gb, .inl (cI, 6, .inl (fun _ => 0))), (q5_gc, .inl (cI, 6, .inl (fun _ => 0))), (q16, .inr (5, [.ref q16_ha, .ref q16_hb, .ref q16_hc, .ref q16_hd, .int 0, .int 0])), (q16_ha, .inl (cI, 12, .inl (fun _ => 0))), (q16_hb, .inl (cI, 12, .inl (fun _ => 0))), (q16_hc, .inl (cI, 12, .inl (fun _ => 0))), (q16_hd, .inl (cI, 12, .inl (fun _ => 0))), (q27, .inr (4, [.ref q27_oa, .ref q27_ob, .ref q27_oc, .ref q27_od])), (q27_oa, .inl (cI, 3, .inl (fun _ => 0))), (q27_ob, .inl (cJ, 3, .inr (.inl (fun _ => 0)))), (q27_oc, .inl (cJ, 3, .inr (.inl (fun _ => 0)))), (q27_od, .inl (cJ, 3, .inr (.inl (fun _ => 0)))), (q38, .inr (0, [.null, .long 0, .long 0, .long 0, .long 0, .long 0, .long 0, .long 0, .long 0, .long 0, .long 0]))]) rfl ?_
  refine v_dup F dX7_init_41 rfl (q := 42) rfl ?_
  refine v_aload_n F dX7_init_42 (i := 0) rfl 0 rfl (q := 43) rfl ?_
  refine gt_X7_19 F dX7_init_43 0 rfl rfl (q := 46) rfl ?_
  refine v_callIN F ml_X7_32 im_X0_init in_X0 co_X0_init rfl sd_X0_init (c_X0_init q38 q16) ⟨Nat.le_trans (Nat.le_of_ble_eq_true rfl) hcs0.1, Nat.le_trans (Nat.le_of_ble_eq_true rfl) hcs0.2⟩ (Nat.le_of_ble_eq_true rfl) (Nat.le_of_ble_eq_true rfl) (As := [.ref q16]) rfl rfl [15] rfl rfl rfl (rest := [.ref q38, .ref z]) rfl (Nat.le_of_ble_eq_true rfl) dX7_init_46 (q := 49) rfl (fun r w hr => ?_)
  obtain ⟨rfl, rfl⟩ := hr
  refine v_ws (ws' := [(z, .inr (7, [.ref q5, .ref q16, .ref q27, .null, .null, .null, .null, .int 0])), (q5, .inr (2, [.ref q5_ga, .ref q5_gb, .ref q5_gc, .int 0, .int 0])), (q5_ga, .inl (cI, 6, .inl (fun _ => 0))), (q5_gb, .inl (cI, 6, .inl (fun _ => 0))), (q5_gc, .inl (cI, 6, .inl (fun _ => 0))), (q16, .inr (5, [.ref q16_ha, .ref q16_hb, .ref q16_hc, .ref q16_hd, .int 0, .int 0])), (q16_ha, .inl (cI, 12, .inl (fun _ => 0))), (q16_hb, .inl (cI, 12, .inl (fun _ => 0))), (q16_hc, .inl (cI, 12, .inl (fun _ => 0))), (q16_hd, .inl (cI, 12, .inl (fun _ => 0))), (q27, .inr (4, [.ref q27_oa, .ref q27_ob, .ref q27_oc, .ref q27_od])), (q27_oa, .inl (cI, 3, .inl (fun _ => 0))), (q27_ob, .inl (cJ, 3, .inr (.inl (fun _ => 0)))), (q27_oc, .inl (cJ, 3, .inr (.inl (fun _ => 0)))), (q27_od, .inl (cJ, 3, .inr (.inl (fun _ => 0)))), (q38, .inr (0, [.ref q16, .long 0, .long 0, .long 0, .long 0, .long 0, .long 0, .long 1, .long 0, .long 0, .long 0]))]) ((wset_wgo (nodup_of rfl) rfl).trans rfl) ?_
  refine v_st (st' := [.ref q38, .ref z]) rfl ?_
  refine pt_X7_35 F hnm dX7_init_49 0 rfl (Nat.le_of_ble_eq_true rfl) (q := 52) rfl ?_
  refine v_ws (ws' := [(z, .inr (7, [.ref q5, .ref q16, .ref q27, .ref q38, .null, .null, .null, .int 0])), (q5, .inr (2, [.ref q5_ga, .ref q5_gb, .ref q5_gc, .int 0, .int 0])), (q5_ga, .inl (cI, 6, .inl (fun _ => 0))), (q5_gb, .inl (cI, 6, .inl (fun _ => 0))), (q5_gc, .inl (cI, 6, .inl (fun _ => 0))), (q16, .inr (5, [.ref q16_ha, .ref q16_hb, .ref q16_hc, .ref q16_hd, .int 0, .int 0])), (q16_ha, .inl (cI, 12, .inl (fun _ => 0))), (q16_hb, .inl (cI, 12, .inl (fun _ => 0))), (q16_hc, .inl (cI, 12, .inl (fun _ => 0))), (q16_hd, .inl (cI, 12, .inl (fun _ => 0))), (q27, .inr (4, [.ref q27_oa, .ref q27_ob, .ref q27_oc, .ref q27_od])), (q27_oa, .inl (cI, 3, .inl (fun _ => 0))), (q27_ob, .inl (cJ, 3, .inr (.inl (fun _ => 0)))), (q27_oc, .inl (cJ, 3, .inr (.inl (fun _ => 0)))), (q27_od, .inl (cJ, 3, .inr (.inl (fun _ => 0)))), (q38, .inr (0, [.ref q16, .long 0, .long 0, .long 0, .long 0, .long 0, .long 0, .long 1, .long 0, .long 0, .long 0]))]) rfl ?_
  refine v_aload_n F dX7_init_52 (i := 0) rfl 0 rfl (q := 53) rfl ?_
  refine v_new F iw_X3 tyX3 tyX3_ok cl_X7_39 it_X3 in_X3 (ci := 3) (fs := [.null, .null, .null]) rfl (fun j hj => by rcases (show j = 0 ∨ j = 1 ∨ j = 2 by omega) with rfl | rfl | rfl <;> rfl) (Nat.le_trans (Nat.le_of_ble_eq_true rfl) hcs0.1) (Nat.le_trans (Nat.le_of_ble_eq_true rfl) hcs0.2) dX7_init_53 (q := 56) rfl (fun q53 => ?_)
  refine v_ws (ws' := [(z, .inr (7, [.ref q5, .ref q16, .ref q27, .ref q38, .null, .null, .null, .int 0])), (q5, .inr (2, [.ref q5_ga, .ref q5_gb, .ref q5_gc, .int 0, .int 0])), (q5_ga, .inl (cI, 6, .inl (fun _ => 0))), (q5_gb, .inl (cI, 6, .inl (fun _ => 0))), (q5_gc, .inl (cI, 6, .inl (fun _ => 0))), (q16, .inr (5, [.ref q16_ha, .ref q16_hb, .ref q16_hc, .ref q16_hd, .int 0, .int 0])), (q16_ha, .inl (cI, 12, .inl (fun _ => 0))), (q16_hb, .inl (cI, 12, .inl (fun _ => 0))), (q16_hc, .inl (cI, 12, .inl (fun _ => 0))), (q16_hd, .inl (cI, 12, .inl (fun _ => 0))), (q27, .inr (4, [.ref q27_oa, .ref q27_ob, .ref q27_oc, .ref q27_od])), (q27_oa, .inl (cI, 3, .inl (fun _ => 0))), (q27_ob, .inl (cJ, 3, .inr (.inl (fun _ => 0)))), (q27_oc, .inl (cJ, 3, .inr (.inl (fun _ => 0)))), (q27_od, .inl (cJ, 3, .inr (.inl (fun _ => 0)))), (q38, .inr (0, [.ref q16, .long 0, .long 0, .long 0, .long 0, .long 0, .long 0, .long 1, .long 0, .long 0, .long 0])), (q53, .inr (3, [.null, .null, .null]))]) rfl ?_
  refine v_dup F dX7_init_56 rfl (q := 57) rfl ?_
  refine v_callIN F ml_X7_41 im_X3_init in_X3 co_X3_init rfl sd_X3_init (c_X3_init q53) ⟨Nat.le_trans (Nat.le_of_ble_eq_true rfl) hcs0.1, Nat.le_trans (Nat.le_of_ble_eq_true rfl) hcs0.2⟩ (Nat.le_of_ble_eq_true rfl) (Nat.le_of_ble_eq_true rfl) (As := []) rfl rfl [16] rfl rfl rfl (rest := [.ref q53, .ref z]) rfl (Nat.le_of_ble_eq_true rfl) dX7_init_57 (q := 60) rfl (fun r w hr => ?_)
  obtain ⟨q53_ma, q53_mb, q53_mc, rfl, rfl⟩ := hr
  refine v_ws (ws' := [(z, .inr (7, [.ref q5, .ref q16, .ref q27, .ref q38, .null, .null, .null, .int 0])), (q5, .inr (2, [.ref q5_ga, .ref q5_gb, .ref q5_gc, .int 0, .int 0])), (q5_ga, .inl (cI, 6, .inl (fun _ => 0))), (q5_gb, .inl (cI, 6, .inl (fun _ => 0))), (q5_gc, .inl (cI, 6, .inl (fun _ => 0))), (q16, .inr (5, [.ref q16_ha, .ref q16_hb, .ref q16_hc, .ref q16_hd, .int 0, .int 0])), (q16_ha, .inl (cI, 12, .inl (fun _ => 0))), (q16_hb, .inl (cI, 12, .inl (fun _ => 0))), (q16_hc, .inl (cI, 12, .inl (fun _ => 0))), (q16_hd, .inl (cI, 12, .inl (fun _ => 0))), (q27, .inr (4, [.ref q27_oa, .ref q27_ob, .ref q27_oc, .ref q27_od])), (q27_oa, .inl (cI, 3, .inl (fun _ => 0))), (q27_ob, .inl (cJ, 3, .inr (.inl (fun _ => 0)))), (q27_oc, .inl (cJ, 3, .inr (.inl (fun _ => 0)))), (q27_od, .inl (cJ, 3, .inr (.inl (fun _ => 0)))), (q38, .inr (0, [.ref q16, .long 0, .long 0, .long 0, .long 0, .long 0, .long 0, .long 1, .long 0, .long 0, .long 0])), (q53, .inr (3, [.ref q53_ma, .ref q53_mb, .ref q53_mc])), (q53_ma, .inl (cI, 12, .inl (fun _ => 0))), (q53_mb, .inl (cI, 12, .inl (fun _ => 0))), (q53_mc, .inl (cI, 12, .inl (fun _ => 0)))]) rfl ?_
  refine v_st (st' := [.ref q53, .ref z]) rfl ?_
  refine pt_X7_42 F hnm dX7_init_60 0 rfl (Nat.le_of_ble_eq_true rfl) (q := 63) rfl ?_
  refine v_ws (ws' := [(z, .inr (7, [.ref q5, .ref q16, .ref q27, .ref q38, .ref q53, .null, .null, .int 0])), (q5, .inr (2, [.ref q5_ga, .ref q5_gb, .ref q5_gc, .int 0, .int 0])), (q5_ga, .inl (cI, 6, .inl (fun _ => 0))), (q5_gb, .inl (cI, 6, .inl (fun _ => 0))), (q5_gc, .inl (cI, 6, .inl (fun _ => 0))), (q16, .inr (5, [.ref q16_ha, .ref q16_hb, .ref q16_hc, .ref q16_hd, .int 0, .int 0])), (q16_ha, .inl (cI, 12, .inl (fun _ => 0))), (q16_hb, .inl (cI, 12, .inl (fun _ => 0))), (q16_hc, .inl (cI, 12, .inl (fun _ => 0))), (q16_hd, .inl (cI, 12, .inl (fun _ => 0))), (q27, .inr (4, [.ref q27_oa, .ref q27_ob, .ref q27_oc, .ref q27_od])), (q27_oa, .inl (cI, 3, .inl (fun _ => 0))), (q27_ob, .inl (cJ, 3, .inr (.inl (fun _ => 0)))), (q27_oc, .inl (cJ, 3, .inr (.inl (fun _ => 0)))), (q27_od, .inl (cJ, 3, .inr (.inl (fun _ => 0)))), (q38, .inr (0, [.ref q16, .long 0, .long 0, .long 0, .long 0, .long 0, .long 0, .long 1, .long 0, .long 0, .long 0])), (q53, .inr (3, [.ref q53_ma, .ref q53_mb, .ref q53_mc])), (q53_ma, .inl (cI, 12, .inl (fun _ => 0))), (q53_mb, .inl (cI, 12, .inl (fun _ => 0))), (q53_mc, .inl (cI, 12, .inl (fun _ => 0)))]) rfl ?_
  refine v_aload_n F dX7_init_63 (i := 0) rfl 0 rfl (q := 64) rfl ?_
  refine v_new F iw_X1 tyX1 tyX1_ok cl_X7_46 it_X1 in_X1 (ci := 1) (fs := [.int 0, .int 0, .int 0, .int 0, .int 0]) rfl (fun j hj => by rcases (show j = 0 ∨ j = 1 ∨ j = 2 ∨ j = 3 ∨ j = 4 by omega) with rfl | rfl | rfl | rfl | rfl <;> rfl) (Nat.le_trans (Nat.le_of_ble_eq_true rfl) hcs0.1) (Nat.le_trans (Nat.le_of_ble_eq_true rfl) hcs0.2) dX7_init_64 (q := 67) rfl (fun q64 => ?_)
  refine v_ws (ws' := [(z, .inr (7, [.ref q5, .ref q16, .ref q27, .ref q38, .ref q53, .null, .null, .int 0])), (q5, .inr (2, [.ref q5_ga, .ref q5_gb, .ref q5_gc, .int 0, .int 0])), (q5_ga, .inl (cI, 6, .inl (fun _ => 0))), (q5_gb, .inl (cI, 6, .inl (fun _ => 0))), (q5_gc, .inl (cI, 6, .inl (fun _ => 0))), (q16, .inr (5, [.ref q16_ha, .ref q16_hb, .ref q16_hc, .ref q16_hd, .int 0, .int 0])), (q16_ha, .inl (cI, 12, .inl (fun _ => 0))), (q16_hb, .inl (cI, 12, .inl (fun _ => 0))), (q16_hc, .inl (cI, 12, .inl (fun _ => 0))), (q16_hd, .inl (cI, 12, .inl (fun _ => 0))), (q27, .inr (4, [.ref q27_oa, .ref q27_ob, .ref q27_oc, .ref q27_od])), (q27_oa, .inl (cI, 3, .inl (fun _ => 0))), (q27_ob, .inl (cJ, 3, .inr (.inl (fun _ => 0)))), (q27_oc, .inl (cJ, 3, .inr (.inl (fun _ => 0)))), (q27_od, .inl (cJ, 3, .inr (.inl (fun _ => 0)))), (q38, .inr (0, [.ref q16, .long 0, .long 0, .long 0, .long 0, .long 0, .long 0, .long 1, .long 0, .long 0, .long 0])), (q53, .inr (3, [.ref q53_ma, .ref q53_mb, .ref q53_mc])), (q53_ma, .inl (cI, 12, .inl (fun _ => 0))), (q53_mb, .inl (cI, 12, .inl (fun _ => 0))), (q53_mc, .inl (cI, 12, .inl (fun _ => 0))), (q64, .inr (1, [.int 0, .int 0, .int 0, .int 0, .int 0]))]) rfl ?_
  refine v_dup F dX7_init_67 rfl (q := 68) rfl ?_
  refine v_callIN F ml_X7_48 im_X1_init in_X1 co_X1_init rfl sd_X1_init (c_X1_init q64) ⟨Nat.le_trans (Nat.le_of_ble_eq_true rfl) hcs0.1, Nat.le_trans (Nat.le_of_ble_eq_true rfl) hcs0.2⟩ (Nat.le_of_ble_eq_true rfl) (Nat.le_of_ble_eq_true rfl) (As := []) rfl rfl [20] rfl rfl rfl (rest := [.ref q64, .ref z]) rfl (Nat.le_of_ble_eq_true rfl) dX7_init_68 (q := 71) rfl (fun r w hr => ?_)
  obtain ⟨rfl, rfl⟩ := hr
  refine v_ws (ws' := [(z, .inr (7, [.ref q5, .ref q16, .ref q27, .ref q38, .ref q53, .null, .null, .int 0])), (q5, .inr (2, [.ref q5_ga, .ref q5_gb, .ref q5_gc, .int 0, .int 0])), (q5_ga, .inl (cI, 6, .inl (fun _ => 0))), (q5_gb, .inl (cI, 6, .inl (fun _ => 0))), (q5_gc, .inl (cI, 6, .inl (fun _ => 0))), (q16, .inr (5, [.ref q16_ha, .ref q16_hb, .ref q16_hc, .ref q16_hd, .int 0, .int 0])), (q16_ha, .inl (cI, 12, .inl (fun _ => 0))), (q16_hb, .inl (cI, 12, .inl (fun _ => 0))), (q16_hc, .inl (cI, 12, .inl (fun _ => 0))), (q16_hd, .inl (cI, 12, .inl (fun _ => 0))), (q27, .inr (4, [.ref q27_oa, .ref q27_ob, .ref q27_oc, .ref q27_od])), (q27_oa, .inl (cI, 3, .inl (fun _ => 0))), (q27_ob, .inl (cJ, 3, .inr (.inl (fun _ => 0)))), (q27_oc, .inl (cJ, 3, .inr (.inl (fun _ => 0)))), (q27_od, .inl (cJ, 3, .inr (.inl (fun _ => 0)))), (q38, .inr (0, [.ref q16, .long 0, .long 0, .long 0, .long 0, .long 0, .long 0, .long 1, .long 0, .long 0, .long 0])), (q53, .inr (3, [.ref q53_ma, .ref q53_mb, .ref q53_mc])), (q53_ma, .inl (cI, 12, .inl (fun _ => 0))), (q53_mb, .inl (cI, 12, .inl (fun _ => 0))), (q53_mc, .inl (cI, 12, .inl (fun _ => 0))), (q64, .inr (1, [.int 0, .int 0, .int 0, .int 0, .int 0]))]) ((wset_wgo (nodup_of rfl) rfl).trans rfl) ?_
  refine v_st (st' := [.ref q64, .ref z]) rfl ?_
  refine pt_X7_49 F hnm dX7_init_71 0 rfl (Nat.le_of_ble_eq_true rfl) (q := 74) rfl ?_
  refine v_ws (ws' := [(z, .inr (7, [.ref q5, .ref q16, .ref q27, .ref q38, .ref q53, .ref q64, .null, .int 0])), (q5, .inr (2, [.ref q5_ga, .ref q5_gb, .ref q5_gc, .int 0, .int 0])), (q5_ga, .inl (cI, 6, .inl (fun _ => 0))), (q5_gb, .inl (cI, 6, .inl (fun _ => 0))), (q5_gc, .inl (cI, 6, .inl (fun _ => 0))), (q16, .inr (5, [.ref q16_ha, .ref q16_hb, .ref q16_hc, .ref q16_hd, .int 0, .int 0])), (q16_ha, .inl (cI, 12, .inl (fun _ => 0))), (q16_hb, .inl (cI, 12, .inl (fun _ => 0))), (q16_hc, .inl (cI, 12, .inl (fun _ => 0))), (q16_hd, .inl (cI, 12, .inl (fun _ => 0))), (q27, .inr (4, [.ref q27_oa, .ref q27_ob, .ref q27_oc, .ref q27_od])), (q27_oa, .inl (cI, 3, .inl (fun _ => 0))), (q27_ob, .inl (cJ, 3, .inr (.inl (fun _ => 0)))), (q27_oc, .inl (cJ, 3, .inr (.inl (fun _ => 0)))), (q27_od, .inl (cJ, 3, .inr (.inl (fun _ => 0)))), (q38, .inr (0, [.ref q16, .long 0, .long 0, .long 0, .long 0, .long 0, .long 0, .long 1, .long 0, .long 0, .long 0])), (q53, .inr (3, [.ref q53_ma, .ref q53_mb, .ref q53_mc])), (q53_ma, .inl (cI, 12, .inl (fun _ => 0))), (q53_mb, .inl (cI, 12, .inl (fun _ => 0))), (q53_mc, .inl (cI, 12, .inl (fun _ => 0))), (q64, .inr (1, [.int 0, .int 0, .int 0, .int 0, .int 0]))]) rfl ?_
  refine v_aload_n F dX7_init_74 (i := 0) rfl 0 rfl (q := 75) rfl ?_
  refine v_new F iw_X6 tyX6 tyX6_ok cl_X7_53 it_X6 in_X6 (ci := 6) (fs := [.null, .null, .int 0]) rfl (fun j hj => by rcases (show j = 0 ∨ j = 1 ∨ j = 2 by omega) with rfl | rfl | rfl <;> rfl) (Nat.le_trans (Nat.le_of_ble_eq_true rfl) hcs0.1) (Nat.le_trans (Nat.le_of_ble_eq_true rfl) hcs0.2) dX7_init_75 (q := 78) rfl (fun q75 => ?_)
  refine v_ws (ws' := [(z, .inr (7, [.ref q5, .ref q16, .ref q27, .ref q38, .ref q53, .ref q64, .null, .int 0])), (q5, .inr (2, [.ref q5_ga, .ref q5_gb, .ref q5_gc, .int 0, .int 0])), (q5_ga, .inl (cI, 6, .inl (fun _ => 0))), (q5_gb, .inl (cI, 6, .inl (fun _ => 0))), (q5_gc, .inl (cI, 6, .inl (fun _ => 0))), (q16, .inr (5, [.ref q16_ha, .ref q16_hb, .ref q16_hc, .ref q16_hd, .int 0, .int 0])), (q16_ha, .inl (cI, 12, .inl (fun _ => 0))), (q16_hb, .inl (cI, 12, .inl (fun _ => 0))), (q16_hc, .inl (cI, 12, .inl (fun _ => 0))), (q16_hd, .inl (cI, 12, .inl (fun _ => 0))), (q27, .inr (4, [.ref q27_oa, .ref q27_ob, .ref q27_oc, .ref q27_od])), (q27_oa, .inl (cI, 3, .inl (fun _ => 0))), (q27_ob, .inl (cJ, 3, .inr (.inl (fun _ => 0)))), (q27_oc, .inl (cJ, 3, .inr (.inl (fun _ => 0)))), (q27_od, .inl (cJ, 3, .inr (.inl (fun _ => 0)))), (q38, .inr (0, [.ref q16, .long 0, .long 0, .long 0, .long 0, .long 0, .long 0, .long 1, .long 0, .long 0, .long 0])), (q53, .inr (3, [.ref q53_ma, .ref q53_mb, .ref q53_mc])), (q53_ma, .inl (cI, 12, .inl (fun _ => 0))), (q53_mb, .inl (cI, 12, .inl (fun _ => 0))), (q53_mc, .inl (cI, 12, .inl (fun _ => 0))), (q64, .inr (1, [.int 0, .int 0, .int 0, .int 0, .int 0])), (q75, .inr (6, [.null, .null, .int 0]))]) rfl ?_
  refine v_dup F dX7_init_78 rfl (q := 79) rfl ?_
  refine v_callIN F ml_X7_55 im_X6_init in_X6 co_X6_init rfl sd_X6_init (c_X6_init q75) ⟨Nat.le_trans (Nat.le_of_ble_eq_true rfl) hcs0.1, Nat.le_trans (Nat.le_of_ble_eq_true rfl) hcs0.2⟩ (Nat.le_of_ble_eq_true rfl) (Nat.le_of_ble_eq_true rfl) (As := []) rfl rfl [21] rfl rfl rfl (rest := [.ref q75, .ref z]) rfl (Nat.le_of_ble_eq_true rfl) dX7_init_79 (q := 82) rfl (fun r w hr => ?_)
  obtain ⟨q75_ta, q75_tb, rfl, rfl⟩ := hr
  refine v_ws (ws' := [(z, .inr (7, [.ref q5, .ref q16, .ref q27, .ref q38, .ref q53, .ref q64, .null, .int 0])), (q5, .inr (2, [.ref q5_ga, .ref q5_gb, .ref q5_gc, .int 0, .int 0])), (q5_ga, .inl (cI, 6, .inl (fun _ => 0))), (q5_gb, .inl (cI, 6, .inl (fun _ => 0))), (q5_gc, .inl (cI, 6, .inl (fun _ => 0))), (q16, .inr (5, [.ref q16_ha, .ref q16_hb, .ref q16_hc, .ref q16_hd, .int 0, .int 0])), (q16_ha, .inl (cI, 12, .inl (fun _ => 0))), (q16_hb, .inl (cI, 12, .inl (fun _ => 0))), (q16_hc, .inl (cI, 12, .inl (fun _ => 0))), (q16_hd, .inl (cI, 12, .inl (fun _ => 0))), (q27, .inr (4, [.ref q27_oa, .ref q27_ob, .ref q27_oc, .ref q27_od])), (q27_oa, .inl (cI, 3, .inl (fun _ => 0))), (q27_ob, .inl (cJ, 3, .inr (.inl (fun _ => 0)))), (q27_oc, .inl (cJ, 3, .inr (.inl (fun _ => 0)))), (q27_od, .inl (cJ, 3, .inr (.inl (fun _ => 0)))), (q38, .inr (0, [.ref q16, .long 0, .long 0, .long 0, .long 0, .long 0, .long 0, .long 1, .long 0, .long 0, .long 0])), (q53, .inr (3, [.ref q53_ma, .ref q53_mb, .ref q53_mc])), (q53_ma, .inl (cI, 12, .inl (fun _ => 0))), (q53_mb, .inl (cI, 12, .inl (fun _ => 0))), (q53_mc, .inl (cI, 12, .inl (fun _ => 0))), (q64, .inr (1, [.int 0, .int 0, .int 0, .int 0, .int 0])), (q75, .inr (6, [.ref q75_ta, .ref q75_tb, .int 0])), (q75_ta, .inl (cJ, 15, .inr (.inl (fun _ => 0)))), (q75_tb, .inl (cJ, 15, .inr (.inl (fun _ => 0))))]) rfl ?_
  refine v_st (st' := [.ref q75, .ref z]) rfl ?_
  refine pt_X7_56 F hnm dX7_init_82 0 rfl (Nat.le_of_ble_eq_true rfl) (q := 85) rfl ?_
  refine v_ws (ws' := [(z, .inr (7, [.ref q5, .ref q16, .ref q27, .ref q38, .ref q53, .ref q64, .ref q75, .int 0])), (q5, .inr (2, [.ref q5_ga, .ref q5_gb, .ref q5_gc, .int 0, .int 0])), (q5_ga, .inl (cI, 6, .inl (fun _ => 0))), (q5_gb, .inl (cI, 6, .inl (fun _ => 0))), (q5_gc, .inl (cI, 6, .inl (fun _ => 0))), (q16, .inr (5, [.ref q16_ha, .ref q16_hb, .ref q16_hc, .ref q16_hd, .int 0, .int 0])), (q16_ha, .inl (cI, 12, .inl (fun _ => 0))), (q16_hb, .inl (cI, 12, .inl (fun _ => 0))), (q16_hc, .inl (cI, 12, .inl (fun _ => 0))), (q16_hd, .inl (cI, 12, .inl (fun _ => 0))), (q27, .inr (4, [.ref q27_oa, .ref q27_ob, .ref q27_oc, .ref q27_od])), (q27_oa, .inl (cI, 3, .inl (fun _ => 0))), (q27_ob, .inl (cJ, 3, .inr (.inl (fun _ => 0)))), (q27_oc, .inl (cJ, 3, .inr (.inl (fun _ => 0)))), (q27_od, .inl (cJ, 3, .inr (.inl (fun _ => 0)))), (q38, .inr (0, [.ref q16, .long 0, .long 0, .long 0, .long 0, .long 0, .long 0, .long 1, .long 0, .long 0, .long 0])), (q53, .inr (3, [.ref q53_ma, .ref q53_mb, .ref q53_mc])), (q53_ma, .inl (cI, 12, .inl (fun _ => 0))), (q53_mb, .inl (cI, 12, .inl (fun _ => 0))), (q53_mc, .inl (cI, 12, .inl (fun _ => 0))), (q64, .inr (1, [.int 0, .int 0, .int 0, .int 0, .int 0])), (q75, .inr (6, [.ref q75_ta, .ref q75_tb, .int 0])), (q75_ta, .inl (cJ, 15, .inr (.inl (fun _ => 0)))), (q75_tb, .inl (cJ, 15, .inr (.inl (fun _ => 0))))]) rfl ?_
  refine v_aload_n F dX7_init_85 (i := 0) rfl 0 rfl (q := 86) rfl ?_
  refine v_iconst F dX7_init_86 (v := 0) (q := 87) rfl rfl ?_
  refine pt_X7_60 F dX7_init_87 0 rfl (Nat.le_of_ble_eq_true rfl) (q := 90) rfl ?_
  refine v_ws (ws' := [(z, .inr (7, [.ref q5, .ref q16, .ref q27, .ref q38, .ref q53, .ref q64, .ref q75, .int 0])), (q5, .inr (2, [.ref q5_ga, .ref q5_gb, .ref q5_gc, .int 0, .int 0])), (q5_ga, .inl (cI, 6, .inl (fun _ => 0))), (q5_gb, .inl (cI, 6, .inl (fun _ => 0))), (q5_gc, .inl (cI, 6, .inl (fun _ => 0))), (q16, .inr (5, [.ref q16_ha, .ref q16_hb, .ref q16_hc, .ref q16_hd, .int 0, .int 0])), (q16_ha, .inl (cI, 12, .inl (fun _ => 0))), (q16_hb, .inl (cI, 12, .inl (fun _ => 0))), (q16_hc, .inl (cI, 12, .inl (fun _ => 0))), (q16_hd, .inl (cI, 12, .inl (fun _ => 0))), (q27, .inr (4, [.ref q27_oa, .ref q27_ob, .ref q27_oc, .ref q27_od])), (q27_oa, .inl (cI, 3, .inl (fun _ => 0))), (q27_ob, .inl (cJ, 3, .inr (.inl (fun _ => 0)))), (q27_oc, .inl (cJ, 3, .inr (.inl (fun _ => 0)))), (q27_od, .inl (cJ, 3, .inr (.inl (fun _ => 0)))), (q38, .inr (0, [.ref q16, .long 0, .long 0, .long 0, .long 0, .long 0, .long 0, .long 1, .long 0, .long 0, .long 0])), (q53, .inr (3, [.ref q53_ma, .ref q53_mb, .ref q53_mc])), (q53_ma, .inl (cI, 12, .inl (fun _ => 0))), (q53_mb, .inl (cI, 12, .inl (fun _ => 0))), (q53_mc, .inl (cI, 12, .inl (fun _ => 0))), (q64, .inr (1, [.int 0, .int 0, .int 0, .int 0, .int 0])), (q75, .inr (6, [.ref q75_ta, .ref q75_tb, .int 0])), (q75_ta, .inl (cJ, 15, .inr (.inl (fun _ => 0)))), (q75_tb, .inl (cJ, 15, .inr (.inl (fun _ => 0))))]) rfl ?_
  exact hE dX7_init_90 (Nat.le_of_ble_eq_true rfl) (Nat.le_of_ble_eq_true rfl) ⟨⟨q5, q5_ga, q5_gb, q5_gc, q16, q16_ha, q16_hb, q16_hc, q16_hd, q27, q27_oa, q27_ob, q27_oc, q27_od, q38, q53, q53_ma, q53_mb, q53_mc, q64, q75, q75_ta, q75_tb, rfl, rfl⟩, Nat.le_of_ble_eq_true rfl⟩

set_option maxHeartbeats 4000000 in
set_option maxRecDepth 100000 in
theorem c_X8_init (y0 : Nat)  : Ct l D (TY cI cJ cZ) yX8_init cX8_init 1 none 1 13 14 165 [.ref y0] [(y0, .inr (8, [.int 0, .null, .null, .null, .int 0, .int 0, .int 0, .null, .null, .null, .null, .null, .null, .null, .null, .null, .int 0, .null, .null, .long 0, .long 0, .long 0, .long 0]))] (fun r w => ∃ y1 y2 y3 y4 y5 y6 y7 y8 y9 y10 y11 y12 y13 y14 : Nat, r = none ∧ w = [(y0, .inr (8, [.int 0, .ref y1, .ref y2, .ref y3, .int 0, .int 0, .int 0, .ref y4, .ref y5, .ref y6, .ref y7, .ref y8, .ref y9, .ref y10, .ref y11, .ref y12, .int 0, .ref y13, .ref y14, .long 0, .long 0, .long 0, .long 0])), (y1, .inl (cI, 6, .inl (fun _ => 0))), (y2, .inl (cI, 6, .inl (fun _ => 0))), (y3, .inl (cI, 6, .inl (fun _ => 0))), (y4, .inl (cI, 12, .inl (fun _ => 0))), (y5, .inl (cI, 12, .inl (fun _ => 0))), (y6, .inl (cI, 12, .inl (fun _ => 0))), (y7, .inl (cI, 12, .inl (fun _ => 0))), (y8, .inl (cZ, 12, .inl (fun _ => 0))), (y9, .inl (cI, 3, .inl (fun _ => 0))), (y10, .inl (cI, 18, .inl (fun _ => 0))), (y11, .inl (cI, 18, .inl (fun _ => 0))), (y12, .inl (cI, 18, .inl (fun _ => 0))), (y13, .inl (cJ, 15, .inr (.inl (fun _ => 0)))), (y14, .inl (cJ, 15, .inr (.inl (fun _ => 0))))]) := by
  refine Ct.ofV (by decide) (Nat.le_of_ble_eq_true rfl) ?_
  intro p e s m args below meth c A R Q F hnm hcs0 hE
  refine v_lv (lv' := [(0, .ref y0)]) [0] rfl ?_
  refine v_aload_n F dX8_init_0 (i := 0) rfl 0 rfl (q := 1) rfl ?_
  refine v_objInit F ml_X8_1 dX8_init_1 (Nat.le_of_ble_eq_true rfl) (Nat.le_of_ble_eq_true rfl) (q := 4) rfl ?_
  refine v_aload_n F dX8_init_4 (i := 0) rfl 0 rfl (q := 5) rfl ?_
  refine v_bipush F dX8_init_5 (v := 6) (q := 7) rfl rfl ?_
  refine v_newI F (N' := 6) (by decide) rfl (by decide) (Nat.le_trans (Nat.le_of_ble_eq_true rfl) hcs0.1) (Nat.le_trans (Nat.le_of_ble_eq_true rfl) hcs0.2) dX8_init_7 (q := 9) rfl (fun q7 => ?_)
  refine v_ws (ws' := [(y0, .inr (8, [.int 0, .null, .null, .null, .int 0, .int 0, .int 0, .null, .null, .null, .null, .null, .null, .null, .null, .null, .int 0, .null, .null, .long 0, .long 0, .long 0, .long 0])), (q7, .inl (cI, 6, .inl (fun _ => 0)))]) rfl ?_
  refine pt_X8_7 F hnm dX8_init_9 0 rfl (Nat.le_of_ble_eq_true rfl) (q := 12) rfl ?_
  refine v_ws (ws' := [(y0, .inr (8, [.int 0, .ref q7, .null, .null, .int 0, .int 0, .int 0, .null, .null, .null, .null, .null, .null, .null, .null, .null, .int 0, .null, .null, .long 0, .long 0, .long 0, .long 0])), (q7, .inl (cI, 6, .inl (fun _ => 0)))]) rfl ?_
  refine v_aload_n F dX8_init_12 (i := 0) rfl 0 rfl (q := 13) rfl ?_
  refine v_bipush F dX8_init_13 (v := 6) (q := 15) rfl rfl ?_
  refine v_newI F (N' := 6) (by decide) rfl (by decide) (Nat.le_trans (Nat.le_of_ble_eq_true rfl) hcs0.1) (Nat.le_trans (Nat.le_of_ble_eq_true rfl) hcs0.2) dX8_init_15 (q := 17) rfl (fun q15 => ?_)
  refine v_ws (ws' := [(y0, .inr (8, [.int 0, .ref q7, .null, .null, .int 0, .int 0, .int 0, .null, .null, .null, .null, .null, .null, .null, .null, .null, .int 0, .null, .null, .long 0, .long 0, .long 0, .long 0])), (q7, .inl (cI, 6, .inl (fun _ => 0))), (q15, .inl (cI, 6, .inl (fun _ => 0)))]) rfl ?_
  refine pt_X8_13 F hnm dX8_init_17 0 rfl (Nat.le_of_ble_eq_true rfl) (q := 20) rfl ?_
  refine v_ws (ws' := [(y0, .inr (8, [.int 0, .ref q7, .ref q15, .null, .int 0, .int 0, .int 0, .null, .null, .null, .null, .null, .null, .null, .null, .null, .int 0, .null, .null, .long 0, .long 0, .long 0, .long 0])), (q7, .inl (cI, 6, .inl (fun _ => 0))), (q15, .inl (cI, 6, .inl (fun _ => 0)))]) rfl ?_
  refine v_aload_n F dX8_init_20 (i := 0) rfl 0 rfl (q := 21) rfl ?_
  refine v_bipush F dX8_init_21 (v := 6) (q := 23) rfl rfl ?_
  refine v_newI F (N' := 6) (by decide) rfl (by decide) (Nat.le_trans (Nat.le_of_ble_eq_true rfl) hcs0.1) (Nat.le_trans (Nat.le_of_ble_eq_true rfl) hcs0.2) dX8_init_23 (q := 25) rfl (fun q23 => ?_)
  refine v_ws (ws' := [(y0, .inr (8, [.int 0, .ref q7, .ref q15, .null, .int 0, .int 0, .int 0, .null, .null, .null, .null, .null, .null, .null, .null, .null, .int 0, .null, .null, .long 0, .long 0, .long 0, .long 0])), (q7, .inl (cI, 6, .inl (fun _ => 0))), (q15, .inl (cI, 6, .inl (fun _ => 0))), (q23, .inl (cI, 6, .inl (fun _ => 0)))]) rfl ?_
  refine pt_X8_16 F hnm dX8_init_25 0 rfl (Nat.le_of_ble_eq_true rfl) (q := 28) rfl ?_
  refine v_ws (ws' := [(y0, .inr (8, [.int 0, .ref q7, .ref q15, .ref q23, .int 0, .int 0, .int 0, .null, .null, .null, .null, .null, .null, .null, .null, .null, .int 0, .null, .null, .long 0, .long 0, .long 0, .long 0])), (q7, .inl (cI, 6, .inl (fun _ => 0))), (q15, .inl (cI, 6, .inl (fun _ => 0))), (q23, .inl (cI, 6, .inl (fun _ => 0)))]) rfl ?_
  refine v_aload_n F dX8_init_28 (i := 0) rfl 0 rfl (q := 29) rfl ?_
  refine v_bipush F dX8_init_29 (v := 12) (q := 31) rfl rfl ?_
  refine v_newI F (N' := 12) (by decide) rfl (by decide) (Nat.le_trans (Nat.le_of_ble_eq_true rfl) hcs0.1) (Nat.le_trans (Nat.le_of_ble_eq_true rfl) hcs0.2) dX8_init_31 (q := 33) rfl (fun q31 => ?_)
  refine v_ws (ws' := [(y0, .inr (8, [.int 0, .ref q7, .ref q15, .ref q23, .int 0, .int 0, .int 0, .null, .null, .null, .null, .null, .null, .null, .null, .null, .int 0, .null, .null, .long 0, .long 0, .long 0, .long 0])), (q7, .inl (cI, 6, .inl (fun _ => 0))), (q15, .inl (cI, 6, .inl (fun _ => 0))), (q23, .inl (cI, 6, .inl (fun _ => 0))), (q31, .inl (cI, 12, .inl (fun _ => 0)))]) rfl ?_
  refine pt_X8_19 F hnm dX8_init_33 0 rfl (Nat.le_of_ble_eq_true rfl) (q := 36) rfl ?_
  refine v_ws (ws' := [(y0, .inr (8, [.int 0, .ref q7, .ref q15, .ref q23, .int 0, .int 0, .int 0, .ref q31, .null, .null, .null, .null, .null, .null, .null, .null, .int 0, .null, .null, .long 0, .long 0, .long 0, .long 0])), (q7, .inl (cI, 6, .inl (fun _ => 0))), (q15, .inl (cI, 6, .inl (fun _ => 0))), (q23, .inl (cI, 6, .inl (fun _ => 0))), (q31, .inl (cI, 12, .inl (fun _ => 0)))]) rfl ?_
  refine v_aload_n F dX8_init_36 (i := 0) rfl 0 rfl (q := 37) rfl ?_
  refine v_bipush F dX8_init_37 (v := 12) (q := 39) rfl rfl ?_
  refine v_newI F (N' := 12) (by decide) rfl (by decide) (Nat.le_trans (Nat.le_of_ble_eq_true rfl) hcs0.1) (Nat.le_trans (Nat.le_of_ble_eq_true rfl) hcs0.2) dX8_init_39 (q := 41) rfl (fun q39 => ?_)
  refine v_ws (ws' := [(y0, .inr (8, [.int 0, .ref q7, .ref q15, .ref q23, .int 0, .int 0, .int 0, .ref q31, .null, .null, .null, .null, .null, .null, .null, .null, .int 0, .null, .null, .long 0, .long 0, .long 0, .long 0])), (q7, .inl (cI, 6, .inl (fun _ => 0))), (q15, .inl (cI, 6, .inl (fun _ => 0))), (q23, .inl (cI, 6, .inl (fun _ => 0))), (q31, .inl (cI, 12, .inl (fun _ => 0))), (q39, .inl (cI, 12, .inl (fun _ => 0)))]) rfl ?_
  refine pt_X8_22 F hnm dX8_init_41 0 rfl (Nat.le_of_ble_eq_true rfl) (q := 44) rfl ?_
  refine v_ws (ws' := [(y0, .inr (8, [.int 0, .ref q7, .ref q15, .ref q23, .int 0, .int 0, .int 0, .ref q31, .ref q39, .null, .null, .null, .null, .null, .null, .null, .int 0, .null, .null, .long 0, .long 0, .long 0, .long 0])), (q7, .inl (cI, 6, .inl (fun _ => 0))), (q15, .inl (cI, 6, .inl (fun _ => 0))), (q23, .inl (cI, 6, .inl (fun _ => 0))), (q31, .inl (cI, 12, .inl (fun _ => 0))), (q39, .inl (cI, 12, .inl (fun _ => 0)))]) rfl ?_
  refine v_aload_n F dX8_init_44 (i := 0) rfl 0 rfl (q := 45) rfl ?_
  refine v_bipush F dX8_init_45 (v := 12) (q := 47) rfl rfl ?_
  refine v_newI F (N' := 12) (by decide) rfl (by decide) (Nat.le_trans (Nat.le_of_ble_eq_true rfl) hcs0.1) (Nat.le_trans (Nat.le_of_ble_eq_true rfl) hcs0.2) dX8_init_47 (q := 49) rfl (fun q47 => ?_)
  refine v_ws (ws' := [(y0, .inr (8, [.int 0, .ref q7, .ref q15, .ref q23, .int 0, .int 0, .int 0, .ref q31, .ref q39, .null, .null, .null, .null, .null, .null, .null, .int 0, .null, .null, .long 0, .long 0, .long 0, .long 0])), (q7, .inl (cI, 6, .inl (fun _ => 0))), (q15, .inl (cI, 6, .inl (fun _ => 0))), (q23, .inl (cI, 6, .inl (fun _ => 0))), (q31, .inl (cI, 12, .inl (fun _ => 0))), (q39, .inl (cI, 12, .inl (fun _ => 0))), (q47, .inl (cI, 12, .inl (fun _ => 0)))]) rfl ?_
  refine pt_X8_25 F hnm dX8_init_49 0 rfl (Nat.le_of_ble_eq_true rfl) (q := 52) rfl ?_
  refine v_ws (ws' := [(y0, .inr (8, [.int 0, .ref q7, .ref q15, .ref q23, .int 0, .int 0, .int 0, .ref q31, .ref q39, .ref q47, .null, .null, .null, .null, .null, .null, .int 0, .null, .null, .long 0, .long 0, .long 0, .long 0])), (q7, .inl (cI, 6, .inl (fun _ => 0))), (q15, .inl (cI, 6, .inl (fun _ => 0))), (q23, .inl (cI, 6, .inl (fun _ => 0))), (q31, .inl (cI, 12, .inl (fun _ => 0))), (q39, .inl (cI, 12, .inl (fun _ => 0))), (q47, .inl (cI, 12, .inl (fun _ => 0)))]) rfl ?_
  refine v_aload_n F dX8_init_52 (i := 0) rfl 0 rfl (q := 53) rfl ?_
  refine v_bipush F dX8_init_53 (v := 12) (q := 55) rfl rfl ?_
  refine v_newI F (N' := 12) (by decide) rfl (by decide) (Nat.le_trans (Nat.le_of_ble_eq_true rfl) hcs0.1) (Nat.le_trans (Nat.le_of_ble_eq_true rfl) hcs0.2) dX8_init_55 (q := 57) rfl (fun q55 => ?_)
  refine v_ws (ws' := [(y0, .inr (8, [.int 0, .ref q7, .ref q15, .ref q23, .int 0, .int 0, .int 0, .ref q31, .ref q39, .ref q47, .null, .null, .null, .null, .null, .null, .int 0, .null, .null, .long 0, .long 0, .long 0, .long 0])), (q7, .inl (cI, 6, .inl (fun _ => 0))), (q15, .inl (cI, 6, .inl (fun _ => 0))), (q23, .inl (cI, 6, .inl (fun _ => 0))), (q31, .inl (cI, 12, .inl (fun _ => 0))), (q39, .inl (cI, 12, .inl (fun _ => 0))), (q47, .inl (cI, 12, .inl (fun _ => 0))), (q55, .inl (cI, 12, .inl (fun _ => 0)))]) rfl ?_
  refine pt_X8_28 F hnm dX8_init_57 0 rfl (Nat.le_of_ble_eq_true rfl) (q := 60) rfl ?_
  refine v_ws (ws' := [(y0, .inr (8, [.int 0, .ref q7, .ref q15, .ref q23, .int 0, .int 0, .int 0, .ref q31, .ref q39, .ref q47, .ref q55, .null, .null, .null, .null, .null, .int 0, .null, .null, .long 0, .long 0, .long 0, .long 0])), (q7, .inl (cI, 6, .inl (fun _ => 0))), (q15, .inl (cI, 6, .inl (fun _ => 0))), (q23, .inl (cI, 6, .inl (fun _ => 0))), (q31, .inl (cI, 12, .inl (fun _ => 0))), (q39, .inl (cI, 12, .inl (fun _ => 0))), (q47, .inl (cI, 12, .inl (fun _ => 0))), (q55, .inl (cI, 12, .inl (fun _ => 0)))]) rfl ?_
  refine v_aload_n F dX8_init_60 (i := 0) rfl 0 rfl (q := 61) rfl ?_
  refine v_bipush F dX8_init_61 (v := 12) (q := 63) rfl rfl ?_
  refine v_newZ F (N' := 12) (by decide) rfl (by decide) (Nat.le_trans (Nat.le_of_ble_eq_true rfl) hcs0.1) (Nat.le_trans (Nat.le_of_ble_eq_true rfl) hcs0.2) dX8_init_63 (q := 65) rfl (fun q63 => ?_)
  refine v_ws (ws' := [(y0, .inr (8, [.int 0, .ref q7, .ref q15, .ref q23, .int 0, .int 0, .int 0, .ref q31, .ref q39, .ref q47, .ref q55, .null, .null, .null, .null, .null, .int 0, .null, .null, .long 0, .long 0, .long 0, .long 0])), (q7, .inl (cI, 6, .inl (fun _ => 0))), (q15, .inl (cI, 6, .inl (fun _ => 0))), (q23, .inl (cI, 6, .inl (fun _ => 0))), (q31, .inl (cI, 12, .inl (fun _ => 0))), (q39, .inl (cI, 12, .inl (fun _ => 0))), (q47, .inl (cI, 12, .inl (fun _ => 0))), (q55, .inl (cI, 12, .inl (fun _ => 0))), (q63, .inl (cZ, 12, .inl (fun _ => 0)))]) rfl ?_
  refine pt_X8_31 F hnm dX8_init_65 0 rfl (Nat.le_of_ble_eq_true rfl) (q := 68) rfl ?_
  refine v_ws (ws' := [(y0, .inr (8, [.int 0, .ref q7, .ref q15, .ref q23, .int 0, .int 0, .int 0, .ref q31, .ref q39, .ref q47, .ref q55, .ref q63, .null, .null, .null, .null, .int 0, .null, .null, .long 0, .long 0, .long 0, .long 0])), (q7, .inl (cI, 6, .inl (fun _ => 0))), (q15, .inl (cI, 6, .inl (fun _ => 0))), (q23, .inl (cI, 6, .inl (fun _ => 0))), (q31, .inl (cI, 12, .inl (fun _ => 0))), (q39, .inl (cI, 12, .inl (fun _ => 0))), (q47, .inl (cI, 12, .inl (fun _ => 0))), (q55, .inl (cI, 12, .inl (fun _ => 0))), (q63, .inl (cZ, 12, .inl (fun _ => 0)))]) rfl ?_
  refine v_aload_n F dX8_init_68 (i := 0) rfl 0 rfl (q := 69) rfl ?_
  refine v_iconst F dX8_init_69 (v := 3) (q := 70) rfl rfl ?_
  refine v_newI F (N' := 3) (by decide) rfl (by decide) (Nat.le_trans (Nat.le_of_ble_eq_true rfl) hcs0.1) (Nat.le_trans (Nat.le_of_ble_eq_true rfl) hcs0.2) dX8_init_70 (q := 72) rfl (fun q70 => ?_)
  refine v_ws (ws' := [(y0, .inr (8, [.int 0, .ref q7, .ref q15, .ref q23, .int 0, .int 0, .int 0, .ref q31, .ref q39, .ref q47, .ref q55, .ref q63, .null, .null, .null, .null, .int 0, .null, .null, .long 0, .long 0, .long 0, .long 0])), (q7, .inl (cI, 6, .inl (fun _ => 0))), (q15, .inl (cI, 6, .inl (fun _ => 0))), (q23, .inl (cI, 6, .inl (fun _ => 0))), (q31, .inl (cI, 12, .inl (fun _ => 0))), (q39, .inl (cI, 12, .inl (fun _ => 0))), (q47, .inl (cI, 12, .inl (fun _ => 0))), (q55, .inl (cI, 12, .inl (fun _ => 0))), (q63, .inl (cZ, 12, .inl (fun _ => 0))), (q70, .inl (cI, 3, .inl (fun _ => 0)))]) rfl ?_
  refine pt_X8_35 F hnm dX8_init_72 0 rfl (Nat.le_of_ble_eq_true rfl) (q := 75) rfl ?_
  refine v_ws (ws' := [(y0, .inr (8, [.int 0, .ref q7, .ref q15, .ref q23, .int 0, .int 0, .int 0, .ref q31, .ref q39, .ref q47, .ref q55, .ref q63, .ref q70, .null, .null, .null, .int 0, .null, .null, .long 0, .long 0, .long 0, .long 0])), (q7, .inl (cI, 6, .inl (fun _ => 0))), (q15, .inl (cI, 6, .inl (fun _ => 0))), (q23, .inl (cI, 6, .inl (fun _ => 0))), (q31, .inl (cI, 12, .inl (fun _ => 0))), (q39, .inl (cI, 12, .inl (fun _ => 0))), (q47, .inl (cI, 12, .inl (fun _ => 0))), (q55, .inl (cI, 12, .inl (fun _ => 0))), (q63, .inl (cZ, 12, .inl (fun _ => 0))), (q70, .inl (cI, 3, .inl (fun _ => 0)))]) rfl ?_
  refine v_aload_n F dX8_init_75 (i := 0) rfl 0 rfl (q := 76) rfl ?_
  refine v_bipush F dX8_init_76 (v := 18) (q := 78) rfl rfl ?_
  refine v_newI F (N' := 18) (by decide) rfl (by decide) (Nat.le_trans (Nat.le_of_ble_eq_true rfl) hcs0.1) (Nat.le_trans (Nat.le_of_ble_eq_true rfl) hcs0.2) dX8_init_78 (q := 80) rfl (fun q78 => ?_)
  refine v_ws (ws' := [(y0, .inr (8, [.int 0, .ref q7, .ref q15, .ref q23, .int 0, .int 0, .int 0, .ref q31, .ref q39, .ref q47, .ref q55, .ref q63, .ref q70, .null, .null, .null, .int 0, .null, .null, .long 0, .long 0, .long 0, .long 0])), (q7, .inl (cI, 6, .inl (fun _ => 0))), (q15, .inl (cI, 6, .inl (fun _ => 0))), (q23, .inl (cI, 6, .inl (fun _ => 0))), (q31, .inl (cI, 12, .inl (fun _ => 0))), (q39, .inl (cI, 12, .inl (fun _ => 0))), (q47, .inl (cI, 12, .inl (fun _ => 0))), (q55, .inl (cI, 12, .inl (fun _ => 0))), (q63, .inl (cZ, 12, .inl (fun _ => 0))), (q70, .inl (cI, 3, .inl (fun _ => 0))), (q78, .inl (cI, 18, .inl (fun _ => 0)))]) rfl ?_
  refine pt_X8_38 F hnm dX8_init_80 0 rfl (Nat.le_of_ble_eq_true rfl) (q := 83) rfl ?_
  refine v_ws (ws' := [(y0, .inr (8, [.int 0, .ref q7, .ref q15, .ref q23, .int 0, .int 0, .int 0, .ref q31, .ref q39, .ref q47, .ref q55, .ref q63, .ref q70, .ref q78, .null, .null, .int 0, .null, .null, .long 0, .long 0, .long 0, .long 0])), (q7, .inl (cI, 6, .inl (fun _ => 0))), (q15, .inl (cI, 6, .inl (fun _ => 0))), (q23, .inl (cI, 6, .inl (fun _ => 0))), (q31, .inl (cI, 12, .inl (fun _ => 0))), (q39, .inl (cI, 12, .inl (fun _ => 0))), (q47, .inl (cI, 12, .inl (fun _ => 0))), (q55, .inl (cI, 12, .inl (fun _ => 0))), (q63, .inl (cZ, 12, .inl (fun _ => 0))), (q70, .inl (cI, 3, .inl (fun _ => 0))), (q78, .inl (cI, 18, .inl (fun _ => 0)))]) rfl ?_
  refine v_aload_n F dX8_init_83 (i := 0) rfl 0 rfl (q := 84) rfl ?_
  refine v_bipush F dX8_init_84 (v := 18) (q := 86) rfl rfl ?_
  refine v_newI F (N' := 18) (by decide) rfl (by decide) (Nat.le_trans (Nat.le_of_ble_eq_true rfl) hcs0.1) (Nat.le_trans (Nat.le_of_ble_eq_true rfl) hcs0.2) dX8_init_86 (q := 88) rfl (fun q86 => ?_)
  refine v_ws (ws' := [(y0, .inr (8, [.int 0, .ref q7, .ref q15, .ref q23, .int 0, .int 0, .int 0, .ref q31, .ref q39, .ref q47, .ref q55, .ref q63, .ref q70, .ref q78, .null, .null, .int 0, .null, .null, .long 0, .long 0, .long 0, .long 0])), (q7, .inl (cI, 6, .inl (fun _ => 0))), (q15, .inl (cI, 6, .inl (fun _ => 0))), (q23, .inl (cI, 6, .inl (fun _ => 0))), (q31, .inl (cI, 12, .inl (fun _ => 0))), (q39, .inl (cI, 12, .inl (fun _ => 0))), (q47, .inl (cI, 12, .inl (fun _ => 0))), (q55, .inl (cI, 12, .inl (fun _ => 0))), (q63, .inl (cZ, 12, .inl (fun _ => 0))), (q70, .inl (cI, 3, .inl (fun _ => 0))), (q78, .inl (cI, 18, .inl (fun _ => 0))), (q86, .inl (cI, 18, .inl (fun _ => 0)))]) rfl ?_
  refine pt_X8_41 F hnm dX8_init_88 0 rfl (Nat.le_of_ble_eq_true rfl) (q := 91) rfl ?_
  refine v_ws (ws' := [(y0, .inr (8, [.int 0, .ref q7, .ref q15, .ref q23, .int 0, .int 0, .int 0, .ref q31, .ref q39, .ref q47, .ref q55, .ref q63, .ref q70, .ref q78, .ref q86, .null, .int 0, .null, .null, .long 0, .long 0, .long 0, .long 0])), (q7, .inl (cI, 6, .inl (fun _ => 0))), (q15, .inl (cI, 6, .inl (fun _ => 0))), (q23, .inl (cI, 6, .inl (fun _ => 0))), (q31, .inl (cI, 12, .inl (fun _ => 0))), (q39, .inl (cI, 12, .inl (fun _ => 0))), (q47, .inl (cI, 12, .inl (fun _ => 0))), (q55, .inl (cI, 12, .inl (fun _ => 0))), (q63, .inl (cZ, 12, .inl (fun _ => 0))), (q70, .inl (cI, 3, .inl (fun _ => 0))), (q78, .inl (cI, 18, .inl (fun _ => 0))), (q86, .inl (cI, 18, .inl (fun _ => 0)))]) rfl ?_
  refine v_aload_n F dX8_init_91 (i := 0) rfl 0 rfl (q := 92) rfl ?_
  refine v_bipush F dX8_init_92 (v := 18) (q := 94) rfl rfl ?_
  refine v_newI F (N' := 18) (by decide) rfl (by decide) (Nat.le_trans (Nat.le_of_ble_eq_true rfl) hcs0.1) (Nat.le_trans (Nat.le_of_ble_eq_true rfl) hcs0.2) dX8_init_94 (q := 96) rfl (fun q94 => ?_)
  refine v_ws (ws' := [(y0, .inr (8, [.int 0, .ref q7, .ref q15, .ref q23, .int 0, .int 0, .int 0, .ref q31, .ref q39, .ref q47, .ref q55, .ref q63, .ref q70, .ref q78, .ref q86, .null, .int 0, .null, .null, .long 0, .long 0, .long 0, .long 0])), (q7, .inl (cI, 6, .inl (fun _ => 0))), (q15, .inl (cI, 6, .inl (fun _ => 0))), (q23, .inl (cI, 6, .inl (fun _ => 0))), (q31, .inl (cI, 12, .inl (fun _ => 0))), (q39, .inl (cI, 12, .inl (fun _ => 0))), (q47, .inl (cI, 12, .inl (fun _ => 0))), (q55, .inl (cI, 12, .inl (fun _ => 0))), (q63, .inl (cZ, 12, .inl (fun _ => 0))), (q70, .inl (cI, 3, .inl (fun _ => 0))), (q78, .inl (cI, 18, .inl (fun _ => 0))), (q86, .inl (cI, 18, .inl (fun _ => 0))), (q94, .inl (cI, 18, .inl (fun _ => 0)))]) rfl ?_
  refine pt_X8_44 F hnm dX8_init_96 0 rfl (Nat.le_of_ble_eq_true rfl) (q := 99) rfl ?_
  refine v_ws (ws' := [(y0, .inr (8, [.int 0, .ref q7, .ref q15, .ref q23, .int 0, .int 0, .int 0, .ref q31, .ref q39, .ref q47, .ref q55, .ref q63, .ref q70, .ref q78, .ref q86, .ref q94, .int 0, .null, .null, .long 0, .long 0, .long 0, .long 0])), (q7, .inl (cI, 6, .inl (fun _ => 0))), (q15, .inl (cI, 6, .inl (fun _ => 0))), (q23, .inl (cI, 6, .inl (fun _ => 0))), (q31, .inl (cI, 12, .inl (fun _ => 0))), (q39, .inl (cI, 12, .inl (fun _ => 0))), (q47, .inl (cI, 12, .inl (fun _ => 0))), (q55, .inl (cI, 12, .inl (fun _ => 0))), (q63, .inl (cZ, 12, .inl (fun _ => 0))), (q70, .inl (cI, 3, .inl (fun _ => 0))), (q78, .inl (cI, 18, .inl (fun _ => 0))), (q86, .inl (cI, 18, .inl (fun _ => 0))), (q94, .inl (cI, 18, .inl (fun _ => 0)))]) rfl ?_
  refine v_aload_n F dX8_init_99 (i := 0) rfl 0 rfl (q := 100) rfl ?_
  refine v_bipush F dX8_init_100 (v := 15) (q := 102) rfl rfl ?_
  refine v_newJ F (N' := 15) (by decide) rfl (by decide) (Nat.le_trans (Nat.le_of_ble_eq_true rfl) hcs0.1) (Nat.le_trans (Nat.le_of_ble_eq_true rfl) hcs0.2) dX8_init_102 (q := 104) rfl (fun q102 => ?_)
  refine v_ws (ws' := [(y0, .inr (8, [.int 0, .ref q7, .ref q15, .ref q23, .int 0, .int 0, .int 0, .ref q31, .ref q39, .ref q47, .ref q55, .ref q63, .ref q70, .ref q78, .ref q86, .ref q94, .int 0, .null, .null, .long 0, .long 0, .long 0, .long 0])), (q7, .inl (cI, 6, .inl (fun _ => 0))), (q15, .inl (cI, 6, .inl (fun _ => 0))), (q23, .inl (cI, 6, .inl (fun _ => 0))), (q31, .inl (cI, 12, .inl (fun _ => 0))), (q39, .inl (cI, 12, .inl (fun _ => 0))), (q47, .inl (cI, 12, .inl (fun _ => 0))), (q55, .inl (cI, 12, .inl (fun _ => 0))), (q63, .inl (cZ, 12, .inl (fun _ => 0))), (q70, .inl (cI, 3, .inl (fun _ => 0))), (q78, .inl (cI, 18, .inl (fun _ => 0))), (q86, .inl (cI, 18, .inl (fun _ => 0))), (q94, .inl (cI, 18, .inl (fun _ => 0))), (q102, .inl (cJ, 15, .inr (.inl (fun _ => 0))))]) rfl ?_
  refine pt_X8_47 F hnm dX8_init_104 0 rfl (Nat.le_of_ble_eq_true rfl) (q := 107) rfl ?_
  refine v_ws (ws' := [(y0, .inr (8, [.int 0, .ref q7, .ref q15, .ref q23, .int 0, .int 0, .int 0, .ref q31, .ref q39, .ref q47, .ref q55, .ref q63, .ref q70, .ref q78, .ref q86, .ref q94, .int 0, .ref q102, .null, .long 0, .long 0, .long 0, .long 0])), (q7, .inl (cI, 6, .inl (fun _ => 0))), (q15, .inl (cI, 6, .inl (fun _ => 0))), (q23, .inl (cI, 6, .inl (fun _ => 0))), (q31, .inl (cI, 12, .inl (fun _ => 0))), (q39, .inl (cI, 12, .inl (fun _ => 0))), (q47, .inl (cI, 12, .inl (fun _ => 0))), (q55, .inl (cI, 12, .inl (fun _ => 0))), (q63, .inl (cZ, 12, .inl (fun _ => 0))), (q70, .inl (cI, 3, .inl (fun _ => 0))), (q78, .inl (cI, 18, .inl (fun _ => 0))), (q86, .inl (cI, 18, .inl (fun _ => 0))), (q94, .inl (cI, 18, .inl (fun _ => 0))), (q102, .inl (cJ, 15, .inr (.inl (fun _ => 0))))]) rfl ?_
  refine v_aload_n F dX8_init_107 (i := 0) rfl 0 rfl (q := 108) rfl ?_
  refine v_bipush F dX8_init_108 (v := 15) (q := 110) rfl rfl ?_
  refine v_newJ F (N' := 15) (by decide) rfl (by decide) (Nat.le_trans (Nat.le_of_ble_eq_true rfl) hcs0.1) (Nat.le_trans (Nat.le_of_ble_eq_true rfl) hcs0.2) dX8_init_110 (q := 112) rfl (fun q110 => ?_)
  refine v_ws (ws' := [(y0, .inr (8, [.int 0, .ref q7, .ref q15, .ref q23, .int 0, .int 0, .int 0, .ref q31, .ref q39, .ref q47, .ref q55, .ref q63, .ref q70, .ref q78, .ref q86, .ref q94, .int 0, .ref q102, .null, .long 0, .long 0, .long 0, .long 0])), (q7, .inl (cI, 6, .inl (fun _ => 0))), (q15, .inl (cI, 6, .inl (fun _ => 0))), (q23, .inl (cI, 6, .inl (fun _ => 0))), (q31, .inl (cI, 12, .inl (fun _ => 0))), (q39, .inl (cI, 12, .inl (fun _ => 0))), (q47, .inl (cI, 12, .inl (fun _ => 0))), (q55, .inl (cI, 12, .inl (fun _ => 0))), (q63, .inl (cZ, 12, .inl (fun _ => 0))), (q70, .inl (cI, 3, .inl (fun _ => 0))), (q78, .inl (cI, 18, .inl (fun _ => 0))), (q86, .inl (cI, 18, .inl (fun _ => 0))), (q94, .inl (cI, 18, .inl (fun _ => 0))), (q102, .inl (cJ, 15, .inr (.inl (fun _ => 0)))), (q110, .inl (cJ, 15, .inr (.inl (fun _ => 0))))]) rfl ?_
  refine pt_X8_51 F hnm dX8_init_112 0 rfl (Nat.le_of_ble_eq_true rfl) (q := 115) rfl ?_
  refine v_ws (ws' := [(y0, .inr (8, [.int 0, .ref q7, .ref q15, .ref q23, .int 0, .int 0, .int 0, .ref q31, .ref q39, .ref q47, .ref q55, .ref q63, .ref q70, .ref q78, .ref q86, .ref q94, .int 0, .ref q102, .ref q110, .long 0, .long 0, .long 0, .long 0])), (q7, .inl (cI, 6, .inl (fun _ => 0))), (q15, .inl (cI, 6, .inl (fun _ => 0))), (q23, .inl (cI, 6, .inl (fun _ => 0))), (q31, .inl (cI, 12, .inl (fun _ => 0))), (q39, .inl (cI, 12, .inl (fun _ => 0))), (q47, .inl (cI, 12, .inl (fun _ => 0))), (q55, .inl (cI, 12, .inl (fun _ => 0))), (q63, .inl (cZ, 12, .inl (fun _ => 0))), (q70, .inl (cI, 3, .inl (fun _ => 0))), (q78, .inl (cI, 18, .inl (fun _ => 0))), (q86, .inl (cI, 18, .inl (fun _ => 0))), (q94, .inl (cI, 18, .inl (fun _ => 0))), (q102, .inl (cJ, 15, .inr (.inl (fun _ => 0)))), (q110, .inl (cJ, 15, .inr (.inl (fun _ => 0))))]) rfl ?_
  exact hE dX8_init_115 (Nat.le_of_ble_eq_true rfl) (Nat.le_of_ble_eq_true rfl) ⟨⟨q7, q15, q23, q31, q39, q47, q55, q63, q70, q78, q86, q94, q102, q110, rfl, rfl⟩, Nat.le_of_ble_eq_true rfl⟩

end CN
