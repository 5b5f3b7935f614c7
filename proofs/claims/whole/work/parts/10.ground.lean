section GR
variable {l : Launch} {D : va_G} {cI cJ cZ : ClassId}
set_option maxHeartbeats 4000000 in
set_option maxRecDepth 100000 in
theorem c_X2_layerAt (g ga gb gc : Nat) (th sd tp : Nat → Int32) (n : Nat) (sc : Int32) (u : Nat) (G : GOK th sd tp n sc) (hu : u ≤ 1000) : Ct l D (TY cI cJ cZ) yX2_layerAt cX2_layerAt 4 (some .int) 0 0 0 0 [.ref g, .int (nI u)] [(g, .inr (2, [.ref ga, .ref gb, .ref gc, .int (nI n), .int sc])), (ga, .inl (cI, 6, .inl th)), (gb, .inl (cI, 6, .inl sd)), (gc, .inl (cI, 6, .inl tp))] (fun r w => r = some (.int (zI (gLI th n u))) ∧ w = [(g, .inr (2, [.ref ga, .ref gb, .ref gc, .int (nI n), .int sc])), (ga, .inl (cI, 6, .inl th)), (gb, .inl (cI, 6, .inl sd)), (gc, .inl (cI, 6, .inl tp))]) := by
  refine Ct.ofI (ty := .int) (by decide) (Nat.le_of_ble_eq_true rfl) ?_
  intro p e s m args below meth c A R Q F hnm hcs0 hE
  refine v_lv (lv' := [(0, .ref g), (1, .int (nI u))]) [0, 1] rfl ?_
  have hn6 := G.1
  have L4 : ∀ (d k : Nat), k + d = n → gLf th u n 0 = gLf th u d k → V p l e R s m args below meth c D A 4 0 0 Q 4 [(0, .ref g), (1, .int (nI u)), (2, .int (zI (gB th k))), (3, .int (nI k))] [] [(g, .inr (2, [.ref ga, .ref gb, .ref gc, .int (nI n), .int sc])), (ga, .inl (cI, 6, .inl th)), (gb, .inl (cI, 6, .inl sd)), (gc, .inl (cI, 6, .inl tp))] := by
    intro d
    induction d using Nat.strongRecOn with
    | _ d ih => ?_
    intro k hk hf
    refine v_iload_n F dX2_layerAt_4 (i := 3) rfl 3 rfl (q := 5) rfl ?_
    refine v_aload_n F dX2_layerAt_5 (i := 0) rfl 0 rfl (q := 6) rfl ?_
    refine gt_X2_21 F dX2_layerAt_6 0 rfl rfl (q := 9) rfl ?_
    refine v_icmp_ge F dX2_layerAt_9 (tgt := 34) rfl (q := 12) rfl (fun c9 => ?_) (fun c9 => ?_)
    · skip
      rw [nI_leI (by omega) (by omega)] at c9
      have hd0 : d = 0 := by omega
      subst hd0
      have hkn : k = n := by omega
      subst hkn
      refine v_aload_n F dX2_layerAt_34 (i := 0) rfl 0 rfl (q := 35) rfl ?_
      refine gt_X2_21 F dX2_layerAt_35 0 rfl rfl (q := 38) rfl ?_
      refine v_iconst F dX2_layerAt_38 (v := 1) (q := 39) rfl rfl ?_
      refine v_isub F dX2_layerAt_39 (q := 40) rfl ?_
      exact hE rfl dX2_layerAt_40 (Nat.zero_le _) (Nat.zero_le _) ⟨⟨by rw [gL_out hf], rfl⟩, Nat.le_of_ble_eq_true rfl⟩
    · skip
      rw [nI_leI (by omega) (by omega)] at c9
      obtain ⟨d, rfl⟩ : ∃ d2, d = d2 + 1 := ⟨d - 1, by omega⟩
      have hB := gB_rng G.2.1 (k + 1) (by omega)
      simp only [gLf] at hf
      refine v_iload_n F dX2_layerAt_12 (i := 2) rfl 2 rfl (q := 13) rfl ?_
      refine v_aload_n F dX2_layerAt_13 (i := 0) rfl 0 rfl (q := 14) rfl ?_
      refine gt_X2_9 F dX2_layerAt_14 0 rfl rfl (q := 17) rfl ?_
      refine v_iload_n F dX2_layerAt_17 (i := 3) rfl 3 rfl (q := 18) rfl ?_
      refine v_ialdN F 1 0 rfl rfl (j := k) (by omega) (by decide) dX2_layerAt_18 (q := 19) rfl ?_
      refine v_iadd F dX2_layerAt_19 (q := 20) rfl ?_
      refine v_int (y := zI (gB th (k + 1))) (gB_step) ?_
      refine v_istore_n F dX2_layerAt_20 (i := 2) (lv' := [(2, .int (zI (gB th (k + 1)))), (0, .ref g), (1, .int (nI u)), (3, .int (nI k))]) rfl (Nat.le_of_ble_eq_true rfl) rfl (q := 21) rfl ?_
      refine v_iload_n F dX2_layerAt_21 (i := 1) rfl 2 rfl (q := 22) rfl ?_
      refine v_iload_n F dX2_layerAt_22 (i := 2) rfl 0 rfl (q := 23) rfl ?_
      refine v_icmp_ge F dX2_layerAt_23 (tgt := 28) rfl (q := 26) rfl (fun c23 => ?_) (fun c23 => ?_)
      · skip
        rw [zI_nat, zI_le (by omega) (by omega) (by omega) (by omega)] at c23
        rw [if_neg (by omega)] at hf
        refine v_iinc F dX2_layerAt_28 3 rfl (v := nI (k + 1)) (lv' := [(3, .int (nI (k + 1))), (2, .int (zI (gB th (k + 1)))), (0, .ref g), (1, .int (nI u))]) (nI_1 k) (Nat.le_of_ble_eq_true rfl) rfl (q := 31) rfl ?_
        refine v_goto F dX2_layerAt_31 (tgt := 4) rfl ?_
        refine v_lv (lv' := [(0, .ref g), (1, .int (nI u)), (2, .int (zI (gB th (k + 1)))), (3, .int (nI (k + 1)))]) [2, 3, 1, 0] rfl ?_
        exact ih d (by omega) (k + 1) (by omega) hf
      · skip
        rw [zI_nat, zI_le (by omega) (by omega) (by omega) (by omega)] at c23
        rw [if_pos (by omega)] at hf
        refine v_iload_n F dX2_layerAt_26 (i := 3) rfl 3 rfl (q := 27) rfl ?_
        exact hE rfl dX2_layerAt_27 (Nat.zero_le _) (Nat.zero_le _) ⟨⟨by rw [gL_at (by omega) hf], rfl⟩, Nat.le_of_ble_eq_true rfl⟩
  refine v_iconst F dX2_layerAt_0 (v := 0) (q := 1) rfl rfl ?_
  refine v_istore_n F dX2_layerAt_1 (i := 2) (lv' := [(2, .int 0), (0, .ref g), (1, .int (nI u))]) rfl (Nat.le_of_ble_eq_true rfl) rfl (q := 2) rfl ?_
  refine v_iconst F dX2_layerAt_2 (v := 0) (q := 3) rfl rfl ?_
  refine v_istore_n F dX2_layerAt_3 (i := 3) (lv' := [(3, .int 0), (2, .int 0), (0, .ref g), (1, .int (nI u))]) rfl (Nat.le_of_ble_eq_true rfl) rfl (q := 4) rfl ?_
  refine v_lv (lv' := [(0, .ref g), (1, .int (nI u)), (2, .int 0), (3, .int 0)]) [2, 3, 1, 0] rfl ?_
  exact L4 n 0 (by omega) rfl

set_option maxHeartbeats 4000000 in
set_option maxRecDepth 100000 in
theorem c_X2_sideAt (g ga gb gc : Nat) (th sd tp : Nat → Int32) (n : Nat) (sc : Int32) (u : Nat) (G : GOK th sd tp n sc) (hu : u ≤ 1000) : Ct l D (TY cI cJ cZ) yX2_sideAt cX2_sideAt 3 (some .int) 1 23 0 0 [.ref g, .int (nI u)] [(g, .inr (2, [.ref ga, .ref gb, .ref gc, .int (nI n), .int sc])), (ga, .inl (cI, 6, .inl th)), (gb, .inl (cI, 6, .inl sd)), (gc, .inl (cI, 6, .inl tp))] (fun r w => r = some (.int (zI (gSD th sd n sc u))) ∧ w = [(g, .inr (2, [.ref ga, .ref gb, .ref gc, .int (nI n), .int sc])), (ga, .inl (cI, 6, .inl th)), (gb, .inl (cI, 6, .inl sd)), (gc, .inl (cI, 6, .inl tp))]) := by
  refine Ct.ofI (ty := .int) (by decide) (Nat.le_of_ble_eq_true rfl) ?_
  intro p e s m args below meth c A R Q F hnm hcs0 hE
  refine v_lv (lv' := [(0, .ref g), (1, .int (nI u))]) [0, 1] rfl ?_
  have hn6 := G.1
  refine v_aload_n F dX2_sideAt_0 (i := 0) rfl 0 rfl (q := 1) rfl ?_
  refine v_iload_n F dX2_sideAt_1 (i := 1) rfl 1 rfl (q := 2) rfl ?_
  refine v_callV F ml_X2_28 im_X2_layerAt se_X2_layerAt in_X2 co_X2_layerAt sd_X2_layerAt (c_X2_layerAt g ga gb gc th sd tp n sc u G (by omega)) ⟨Nat.zero_le _, Nat.zero_le _⟩ (Nat.le_of_ble_eq_true rfl) (Nat.le_of_ble_eq_true rfl) 0 (As := [.int (nI u)]) rfl rfl rfl rfl rfl [0, 1, 2, 3] rfl rfl rfl (rest := []) rfl (Nat.le_of_ble_eq_true rfl) dX2_sideAt_2 (q := 5) rfl (fun r w hr => ?_)
  obtain ⟨rfl, rfl⟩ := hr
  refine v_ws (ws' := [(g, .inr (2, [.ref ga, .ref gb, .ref gc, .int (nI n), .int sc])), (ga, .inl (cI, 6, .inl th)), (gb, .inl (cI, 6, .inl sd)), (gc, .inl (cI, 6, .inl tp))]) rfl ?_
  refine v_st (st' := [.int (zI (gLI th n u))]) rfl ?_
  refine v_istore_n F dX2_sideAt_5 (i := 2) (lv' := [(2, .int (zI (gLI th n u))), (0, .ref g), (1, .int (nI u))]) rfl (Nat.le_of_ble_eq_true rfl) rfl (q := 6) rfl ?_
  refine v_iload_n F dX2_sideAt_6 (i := 2) rfl 0 rfl (q := 7) rfl ?_
  refine v_if_lt F dX2_sideAt_7 (tgt := 18) rfl (q := 10) rfl (fun c7 => ?_) (fun c7 => ?_)
  · skip
    rw [gLI_neg hn6] at c7
    refine v_iconst F dX2_sideAt_18 (v := 0) (q := 19) rfl rfl ?_
    refine v_goto F dX2_sideAt_19 (tgt := 28) rfl ?_
    exact hE rfl dX2_sideAt_28 (Nat.zero_le _) (Nat.zero_le _) ⟨⟨by first | rw [← gSD_0 c7] | rw [← gSD_s hu c15], rfl⟩, Nat.le_of_ble_eq_true rfl⟩
  · skip
    rw [gLI_neg hn6] at c7
    have hlt := gL_lt (th := th) (u := u) (Nat.pos_of_ne_zero c7)
    refine v_iload_n F dX2_sideAt_10 (i := 1) rfl 2 rfl (q := 11) rfl ?_
    refine v_aload_n F dX2_sideAt_11 (i := 0) rfl 1 rfl (q := 12) rfl ?_
    refine gt_X2_25 F dX2_sideAt_12 0 rfl rfl (q := 15) rfl ?_
    refine v_icmp_ge F dX2_sideAt_15 (tgt := 22) rfl (q := 18) rfl (fun c15 => ?_) (fun c15 => ?_)
    · skip
      refine v_aload_n F dX2_sideAt_22 (i := 0) rfl 1 rfl (q := 23) rfl ?_
      refine gt_X2_15 F dX2_sideAt_23 0 rfl rfl (q := 26) rfl ?_
      refine v_iload_n F dX2_sideAt_26 (i := 2) rfl 0 rfl (q := 27) rfl ?_
      refine v_int (y := nI (gL th n u)) (gLI_pos c7) ?_
      refine v_ialdN F 2 0 rfl rfl (j := gL th n u) (by omega) (by decide) dX2_sideAt_27 (q := 28) rfl ?_
      exact hE rfl dX2_sideAt_28 (Nat.zero_le _) (Nat.zero_le _) ⟨⟨by rw [← gSD_n hu c7 c15], rfl⟩, Nat.le_of_ble_eq_true rfl⟩
    · skip
      refine v_iconst F dX2_sideAt_18 (v := 0) (q := 19) rfl rfl ?_
      refine v_goto F dX2_sideAt_19 (tgt := 28) rfl ?_
      exact hE rfl dX2_sideAt_28 (Nat.zero_le _) (Nat.zero_le _) ⟨⟨by first | rw [← gSD_0 c7] | rw [← gSD_s hu c15], rfl⟩, Nat.le_of_ble_eq_true rfl⟩

set_option maxHeartbeats 4000000 in
set_option maxRecDepth 100000 in
theorem c_X2_tipBelow (g ga gb gc : Nat) (th sd tp : Nat → Int32) (n : Nat) (sc : Int32) (u : Nat) (G : GOK th sd tp n sc) (hu : u ≤ 1000) : Ct l D (TY cI cJ cZ) yX2_tipBelow cX2_tipBelow 3 (some .int) 1 23 0 0 [.ref g, .int (nI u)] [(g, .inr (2, [.ref ga, .ref gb, .ref gc, .int (nI n), .int sc])), (ga, .inl (cI, 6, .inl th)), (gb, .inl (cI, 6, .inl sd)), (gc, .inl (cI, 6, .inl tp))] (fun r w => r = some (.int (zI (gTI th tp n u))) ∧ w = [(g, .inr (2, [.ref ga, .ref gb, .ref gc, .int (nI n), .int sc])), (ga, .inl (cI, 6, .inl th)), (gb, .inl (cI, 6, .inl sd)), (gc, .inl (cI, 6, .inl tp))]) := by
  refine Ct.ofI (ty := .int) (by decide) (Nat.le_of_ble_eq_true rfl) ?_
  intro p e s m args below meth c A R Q F hnm hcs0 hE
  refine v_lv (lv' := [(0, .ref g), (1, .int (nI u))]) [0, 1] rfl ?_
  have hn6 := G.1
  refine v_aload_n F dX2_tipBelow_0 (i := 0) rfl 0 rfl (q := 1) rfl ?_
  refine v_iload_n F dX2_tipBelow_1 (i := 1) rfl 1 rfl (q := 2) rfl ?_
  refine v_callV F ml_X2_28 im_X2_layerAt se_X2_layerAt in_X2 co_X2_layerAt sd_X2_layerAt (c_X2_layerAt g ga gb gc th sd tp n sc u G (by omega)) ⟨Nat.zero_le _, Nat.zero_le _⟩ (Nat.le_of_ble_eq_true rfl) (Nat.le_of_ble_eq_true rfl) 0 (As := [.int (nI u)]) rfl rfl rfl rfl rfl [0, 1, 2, 3] rfl rfl rfl (rest := []) rfl (Nat.le_of_ble_eq_true rfl) dX2_tipBelow_2 (q := 5) rfl (fun r w hr => ?_)
  obtain ⟨rfl, rfl⟩ := hr
  refine v_ws (ws' := [(g, .inr (2, [.ref ga, .ref gb, .ref gc, .int (nI n), .int sc])), (ga, .inl (cI, 6, .inl th)), (gb, .inl (cI, 6, .inl sd)), (gc, .inl (cI, 6, .inl tp))]) rfl ?_
  refine v_st (st' := [.int (zI (gLI th n u))]) rfl ?_
  refine v_istore_n F dX2_tipBelow_5 (i := 2) (lv' := [(2, .int (zI (gLI th n u))), (0, .ref g), (1, .int (nI u))]) rfl (Nat.le_of_ble_eq_true rfl) rfl (q := 6) rfl ?_
  refine v_iload_n F dX2_tipBelow_6 (i := 2) rfl 0 rfl (q := 7) rfl ?_
  refine v_if_ge F dX2_tipBelow_7 (tgt := 14) rfl (q := 10) rfl (fun c7 => ?_) (fun c7 => ?_)
  · skip
    have c7 : n ≠ 0 := fun z => (i32_nlt.mpr c7) ((gLI_neg hn6).mpr z)
    have hlt := gL_lt (th := th) (u := u) (Nat.pos_of_ne_zero c7)
    refine v_aload_n F dX2_tipBelow_14 (i := 0) rfl 1 rfl (q := 15) rfl ?_
    refine gt_X2_18 F dX2_tipBelow_15 0 rfl rfl (q := 18) rfl ?_
    refine v_iload_n F dX2_tipBelow_18 (i := 2) rfl 0 rfl (q := 19) rfl ?_
    refine v_int (y := nI (gL th n u)) (gLI_pos c7) ?_
    refine v_ialdN F 3 0 rfl rfl (j := gL th n u) (by omega) (by decide) dX2_tipBelow_19 (q := 20) rfl ?_
    exact hE rfl dX2_tipBelow_20 (Nat.zero_le _) (Nat.zero_le _) ⟨⟨by rw [← gTI_n c7], rfl⟩, Nat.le_of_ble_eq_true rfl⟩
  · skip
    have c7 := gLI_neg hn6 |>.mp (i32_nle.mp c7)
    refine v_iconst F dX2_tipBelow_10 (v := 0) (q := 11) rfl rfl ?_
    refine v_goto F dX2_tipBelow_11 (tgt := 20) rfl ?_
    exact hE rfl dX2_tipBelow_20 (Nat.zero_le _) (Nat.zero_le _) ⟨⟨by rw [← gTI_0 c7], rfl⟩, Nat.le_of_ble_eq_true rfl⟩

set_option maxHeartbeats 4000000 in
set_option maxRecDepth 100000 in
theorem c_X2_pullOf (g ga gb gc : Nat) (th sd tp : Nat → Int32) (n : Nat) (sc : Int32) (u : Nat) (G : GOK th sd tp n sc) (hu : u ≤ 1000) : Ct l D (TY cI cJ cZ) yX2_pullOf cX2_pullOf 6 (some .int) 1 16 0 0 [.ref g, .int (nI u)] [(g, .inr (2, [.ref ga, .ref gb, .ref gc, .int (nI n), .int sc])), (ga, .inl (cI, 6, .inl th)), (gb, .inl (cI, 6, .inl sd)), (gc, .inl (cI, 6, .inl tp))] (fun r w => r = some (.int (zI (gPU th sd n sc u))) ∧ w = [(g, .inr (2, [.ref ga, .ref gb, .ref gc, .int (nI n), .int sc])), (ga, .inl (cI, 6, .inl th)), (gb, .inl (cI, 6, .inl sd)), (gc, .inl (cI, 6, .inl tp))]) := by
  refine Ct.ofI (ty := .int) (by decide) (Nat.le_of_ble_eq_true rfl) ?_
  intro p e s m args below meth c A R Q F hnm hcs0 hE
  refine v_lv (lv' := [(0, .ref g), (1, .int (nI u))]) [0, 1] rfl ?_
  have hn6 := G.1
  have L7 : ∀ (d k : Nat), k + d = n → V p l e R s m args below meth c D A 6 0 0 Q 7 [(0, .ref g), (1, .int (nI u)), (2, .int (zI (cPU th sd n sc u k))), (3, .int (zI (gB th k))), (4, .int (nI k))] [] [(g, .inr (2, [.ref ga, .ref gb, .ref gc, .int (nI n), .int sc])), (ga, .inl (cI, 6, .inl th)), (gb, .inl (cI, 6, .inl sd)), (gc, .inl (cI, 6, .inl tp))] := by
    intro d
    induction d using Nat.strongRecOn with
    | _ d ih => ?_
    intro k hk
    refine v_iload F dX2_pullOf_7 4 rfl (q := 9) rfl ?_
    refine v_aload_n F dX2_pullOf_9 (i := 0) rfl 0 rfl (q := 10) rfl ?_
    refine gt_X2_21 F dX2_pullOf_10 0 rfl rfl (q := 13) rfl ?_
    refine v_icmp_ge F dX2_pullOf_13 (tgt := 88) rfl (q := 16) rfl (fun c13 => ?_) (fun c13 => ?_)
    · skip
      rw [nI_leI (by omega) (by omega)] at c13
      have hkn : k = n := by omega
      subst hkn
      refine v_iload_n F dX2_pullOf_88 (i := 2) rfl 2 rfl (q := 89) rfl ?_
      exact hE rfl dX2_pullOf_89 (Nat.zero_le _) (Nat.zero_le _) ⟨⟨by rw [cPU_is G.2.1 G.2.2.2.2.1], rfl⟩, Nat.le_of_ble_eq_true rfl⟩
    · skip
      rw [nI_leI (by omega) (by omega)] at c13
      obtain ⟨d, rfl⟩ : ∃ d2, d = d2 + 1 := ⟨d - 1, by omega⟩
      have hB := gB_rng G.2.1 (k + 1) (by omega)
      have hB0 := gB_rng G.2.1 k (by omega)
      have hT := G.2.1 k (by omega)
      have hsc := G.2.2.2.2
      refine v_iload F dX2_pullOf_16 4 rfl (q := 18) rfl ?_
      refine v_aload_n F dX2_pullOf_18 (i := 0) rfl 0 rfl (q := 19) rfl ?_
      refine gt_X2_21 F dX2_pullOf_19 0 rfl rfl (q := 22) rfl ?_
      refine v_iconst F dX2_pullOf_22 (v := 1) (q := 23) rfl rfl ?_
      refine v_isub F dX2_pullOf_23 (q := 24) rfl ?_
      refine v_icmp_ne F dX2_pullOf_24 (tgt := 31) rfl (q := 27) rfl (fun c24 => ?_) (fun c24 => ?_)
      · skip
        have c24 : ¬ k + 1 = n := fun z => c24 (by rw [← z, nI_succ]; simp)
        refine v_iload_n F dX2_pullOf_31 (i := 1) rfl 1 rfl (q := 32) rfl ?_
        refine v_iload_n F dX2_pullOf_32 (i := 3) rfl 3 rfl (q := 33) rfl ?_
        refine v_aload_n F dX2_pullOf_33 (i := 0) rfl 0 rfl (q := 34) rfl ?_
        refine gt_X2_9 F dX2_pullOf_34 0 rfl rfl (q := 37) rfl ?_
        refine v_iload F dX2_pullOf_37 4 rfl (q := 39) rfl ?_
        refine v_ialdN F 1 0 rfl rfl (j := k) (by omega) (by decide) dX2_pullOf_39 (q := 40) rfl ?_
        refine v_iadd F dX2_pullOf_40 (q := 41) rfl ?_
        refine v_mmin F ml_X2_32 sm_Mmin inS_J9 co_Mmin ⟨Nat.zero_le _, Nat.zero_le _⟩ dX2_pullOf_41 (Nat.le_of_ble_eq_true rfl) (Nat.le_of_ble_eq_true rfl) (q := 44) rfl ?_
        refine v_int (y := zI (if k + 1 = n then (u : Int) else min u (gB th (k + 1)))) (pu_bt2 c24 hu (by omega) (by omega)) ?_
        refine v_istore F dX2_pullOf_44 (lv' := [(5, .int (zI (if k + 1 = n then (u : Int) else min u (gB th (k + 1))))), (0, .ref g), (1, .int (nI u)), (2, .int (zI (cPU th sd n sc u k))), (3, .int (zI (gB th k))), (4, .int (nI k))]) (Nat.le_of_ble_eq_true rfl) rfl (q := 46) rfl ?_
        refine v_iload_n F dX2_pullOf_46 (i := 2) rfl 3 rfl (q := 47) rfl ?_
        refine v_iconst F dX2_pullOf_47 (v := 0) (q := 48) rfl rfl ?_
        refine v_iload F dX2_pullOf_48 0 rfl (q := 50) rfl ?_
        refine v_iload_n F dX2_pullOf_50 (i := 3) rfl 4 rfl (q := 51) rfl ?_
        refine v_aload_n F dX2_pullOf_51 (i := 0) rfl 1 rfl (q := 52) rfl ?_
        refine gt_X2_25 F dX2_pullOf_52 0 rfl rfl (q := 55) rfl ?_
        refine v_mmax F ml_X2_38 sm_Mmax inS_J9 co_Mmax ⟨Nat.zero_le _, Nat.zero_le _⟩ dX2_pullOf_55 (Nat.le_of_ble_eq_true rfl) (Nat.le_of_ble_eq_true rfl) (q := 58) rfl ?_
        refine v_isub F dX2_pullOf_58 (q := 59) rfl ?_
        refine v_mmax F ml_X2_38 sm_Mmax inS_J9 co_Mmax ⟨Nat.zero_le _, Nat.zero_le _⟩ dX2_pullOf_59 (Nat.le_of_ble_eq_true rfl) (Nat.le_of_ble_eq_true rfl) (q := 62) rfl ?_
        refine v_int (y := zI (cZ_ th n sc u k)) (pu_z hu (by omega) (by omega) hsc.1 hsc.2) ?_
        refine v_aload_n F dX2_pullOf_62 (i := 0) rfl 1 rfl (q := 63) rfl ?_
        refine gt_X2_15 F dX2_pullOf_63 0 rfl rfl (q := 66) rfl ?_
        refine v_iload F dX2_pullOf_66 5 rfl (q := 68) rfl ?_
        refine v_ialdN F 2 0 rfl rfl (j := k) (by omega) (by decide) dX2_pullOf_68 (q := 69) rfl ?_
        refine v_imul F dX2_pullOf_69 (q := 70) rfl ?_
        refine v_iadd F dX2_pullOf_70 (q := 71) rfl ?_
        refine v_int (y := zI (cPU th sd n sc u (k + 1))) (pu_step) ?_
        refine v_istore_n F dX2_pullOf_71 (i := 2) (lv' := [(2, .int (zI (cPU th sd n sc u (k + 1)))), (5, .int (zI (if k + 1 = n then (u : Int) else min u (gB th (k + 1))))), (0, .ref g), (1, .int (nI u)), (3, .int (zI (gB th k))), (4, .int (nI k))]) rfl (Nat.le_of_ble_eq_true rfl) rfl (q := 72) rfl ?_
        refine v_iload_n F dX2_pullOf_72 (i := 3) rfl 4 rfl (q := 73) rfl ?_
        refine v_aload_n F dX2_pullOf_73 (i := 0) rfl 2 rfl (q := 74) rfl ?_
        refine gt_X2_9 F dX2_pullOf_74 0 rfl rfl (q := 77) rfl ?_
        refine v_iload F dX2_pullOf_77 5 rfl (q := 79) rfl ?_
        refine v_ialdN F 1 0 rfl rfl (j := k) (by omega) (by decide) dX2_pullOf_79 (q := 80) rfl ?_
        refine v_iadd F dX2_pullOf_80 (q := 81) rfl ?_
        refine v_int (y := zI (gB th (k + 1))) (gB_step) ?_
        refine v_istore_n F dX2_pullOf_81 (i := 3) (lv' := [(3, .int (zI (gB th (k + 1)))), (2, .int (zI (cPU th sd n sc u (k + 1)))), (5, .int (zI (if k + 1 = n then (u : Int) else min u (gB th (k + 1))))), (0, .ref g), (1, .int (nI u)), (4, .int (nI k))]) rfl (Nat.le_of_ble_eq_true rfl) rfl (q := 82) rfl ?_
        refine v_iinc F dX2_pullOf_82 5 rfl (v := nI (k + 1)) (lv' := [(4, .int (nI (k + 1))), (3, .int (zI (gB th (k + 1)))), (2, .int (zI (cPU th sd n sc u (k + 1)))), (5, .int (zI (if k + 1 = n then (u : Int) else min u (gB th (k + 1))))), (0, .ref g), (1, .int (nI u))]) (nI_1 k) (Nat.le_of_ble_eq_true rfl) rfl (q := 85) rfl ?_
        refine v_goto F dX2_pullOf_85 (tgt := 7) rfl ?_
        refine v_lv (lv' := [(0, .ref g), (1, .int (nI u)), (2, .int (zI (cPU th sd n sc u (k + 1)))), (3, .int (zI (gB th (k + 1)))), (4, .int (nI (k + 1)))]) [4, 5, 2, 1, 0] rfl ?_
        exact ih d (by omega) (k + 1) (by omega)
      · skip
        have c24 : k + 1 = n := by
          have e : nI k + 1 = nI n := by rw [c24]; simp
          rw [nI_1, nI_eq (by omega) (by omega)] at e
          exact e
        refine v_iload_n F dX2_pullOf_27 (i := 1) rfl 1 rfl (q := 28) rfl ?_
        refine v_goto F dX2_pullOf_28 (tgt := 44) rfl ?_
        refine v_int (y := zI (if k + 1 = n then (u : Int) else min u (gB th (k + 1)))) (pu_bt1 c24) ?_
        refine v_istore F dX2_pullOf_44 (lv' := [(5, .int (zI (if k + 1 = n then (u : Int) else min u (gB th (k + 1))))), (0, .ref g), (1, .int (nI u)), (2, .int (zI (cPU th sd n sc u k))), (3, .int (zI (gB th k))), (4, .int (nI k))]) (Nat.le_of_ble_eq_true rfl) rfl (q := 46) rfl ?_
        refine v_iload_n F dX2_pullOf_46 (i := 2) rfl 3 rfl (q := 47) rfl ?_
        refine v_iconst F dX2_pullOf_47 (v := 0) (q := 48) rfl rfl ?_
        refine v_iload F dX2_pullOf_48 0 rfl (q := 50) rfl ?_
        refine v_iload_n F dX2_pullOf_50 (i := 3) rfl 4 rfl (q := 51) rfl ?_
        refine v_aload_n F dX2_pullOf_51 (i := 0) rfl 1 rfl (q := 52) rfl ?_
        refine gt_X2_25 F dX2_pullOf_52 0 rfl rfl (q := 55) rfl ?_
        refine v_mmax F ml_X2_38 sm_Mmax inS_J9 co_Mmax ⟨Nat.zero_le _, Nat.zero_le _⟩ dX2_pullOf_55 (Nat.le_of_ble_eq_true rfl) (Nat.le_of_ble_eq_true rfl) (q := 58) rfl ?_
        refine v_isub F dX2_pullOf_58 (q := 59) rfl ?_
        refine v_mmax F ml_X2_38 sm_Mmax inS_J9 co_Mmax ⟨Nat.zero_le _, Nat.zero_le _⟩ dX2_pullOf_59 (Nat.le_of_ble_eq_true rfl) (Nat.le_of_ble_eq_true rfl) (q := 62) rfl ?_
        refine v_int (y := zI (cZ_ th n sc u k)) (pu_z hu (by omega) (by omega) hsc.1 hsc.2) ?_
        refine v_aload_n F dX2_pullOf_62 (i := 0) rfl 1 rfl (q := 63) rfl ?_
        refine gt_X2_15 F dX2_pullOf_63 0 rfl rfl (q := 66) rfl ?_
        refine v_iload F dX2_pullOf_66 5 rfl (q := 68) rfl ?_
        refine v_ialdN F 2 0 rfl rfl (j := k) (by omega) (by decide) dX2_pullOf_68 (q := 69) rfl ?_
        refine v_imul F dX2_pullOf_69 (q := 70) rfl ?_
        refine v_iadd F dX2_pullOf_70 (q := 71) rfl ?_
        refine v_int (y := zI (cPU th sd n sc u (k + 1))) (pu_step) ?_
        refine v_istore_n F dX2_pullOf_71 (i := 2) (lv' := [(2, .int (zI (cPU th sd n sc u (k + 1)))), (5, .int (zI (if k + 1 = n then (u : Int) else min u (gB th (k + 1))))), (0, .ref g), (1, .int (nI u)), (3, .int (zI (gB th k))), (4, .int (nI k))]) rfl (Nat.le_of_ble_eq_true rfl) rfl (q := 72) rfl ?_
        refine v_iload_n F dX2_pullOf_72 (i := 3) rfl 4 rfl (q := 73) rfl ?_
        refine v_aload_n F dX2_pullOf_73 (i := 0) rfl 2 rfl (q := 74) rfl ?_
        refine gt_X2_9 F dX2_pullOf_74 0 rfl rfl (q := 77) rfl ?_
        refine v_iload F dX2_pullOf_77 5 rfl (q := 79) rfl ?_
        refine v_ialdN F 1 0 rfl rfl (j := k) (by omega) (by decide) dX2_pullOf_79 (q := 80) rfl ?_
        refine v_iadd F dX2_pullOf_80 (q := 81) rfl ?_
        refine v_int (y := zI (gB th (k + 1))) (gB_step) ?_
        refine v_istore_n F dX2_pullOf_81 (i := 3) (lv' := [(3, .int (zI (gB th (k + 1)))), (2, .int (zI (cPU th sd n sc u (k + 1)))), (5, .int (zI (if k + 1 = n then (u : Int) else min u (gB th (k + 1))))), (0, .ref g), (1, .int (nI u)), (4, .int (nI k))]) rfl (Nat.le_of_ble_eq_true rfl) rfl (q := 82) rfl ?_
        refine v_iinc F dX2_pullOf_82 5 rfl (v := nI (k + 1)) (lv' := [(4, .int (nI (k + 1))), (3, .int (zI (gB th (k + 1)))), (2, .int (zI (cPU th sd n sc u (k + 1)))), (5, .int (zI (if k + 1 = n then (u : Int) else min u (gB th (k + 1))))), (0, .ref g), (1, .int (nI u))]) (nI_1 k) (Nat.le_of_ble_eq_true rfl) rfl (q := 85) rfl ?_
        refine v_goto F dX2_pullOf_85 (tgt := 7) rfl ?_
        refine v_lv (lv' := [(0, .ref g), (1, .int (nI u)), (2, .int (zI (cPU th sd n sc u (k + 1)))), (3, .int (zI (gB th (k + 1)))), (4, .int (nI (k + 1)))]) [4, 5, 2, 1, 0] rfl ?_
        exact ih d (by omega) (k + 1) (by omega)
  refine v_iconst F dX2_pullOf_0 (v := 0) (q := 1) rfl rfl ?_
  refine v_istore_n F dX2_pullOf_1 (i := 2) (lv' := [(2, .int 0), (0, .ref g), (1, .int (nI u))]) rfl (Nat.le_of_ble_eq_true rfl) rfl (q := 2) rfl ?_
  refine v_iconst F dX2_pullOf_2 (v := 0) (q := 3) rfl rfl ?_
  refine v_istore_n F dX2_pullOf_3 (i := 3) (lv' := [(3, .int 0), (2, .int 0), (0, .ref g), (1, .int (nI u))]) rfl (Nat.le_of_ble_eq_true rfl) rfl (q := 4) rfl ?_
  refine v_iconst F dX2_pullOf_4 (v := 0) (q := 5) rfl rfl ?_
  refine v_istore F dX2_pullOf_5 (lv' := [(4, .int 0), (3, .int 0), (2, .int 0), (0, .ref g), (1, .int (nI u))]) (Nat.le_of_ble_eq_true rfl) rfl (q := 7) rfl ?_
  refine v_lv (lv' := [(0, .ref g), (1, .int (nI u)), (2, .int 0), (3, .int 0), (4, .int 0)]) [3, 4, 2, 1, 0] rfl ?_
  exact L7 n 0 (by omega)

set_option maxHeartbeats 4000000 in
set_option maxRecDepth 100000 in
theorem c_X2_bearingOf (g ga gb gc : Nat) (th sd tp : Nat → Int32) (n : Nat) (sc : Int32) (u : Nat) (G : GOK th sd tp n sc) (hu : u ≤ 1000) : Ct l D (TY cI cJ cZ) yX2_bearingOf cX2_bearingOf 2 (some .int) 2 45 0 0 [.ref g, .int (nI u)] [(g, .inr (2, [.ref ga, .ref gb, .ref gc, .int (nI n), .int sc])), (ga, .inl (cI, 6, .inl th)), (gb, .inl (cI, 6, .inl sd)), (gc, .inl (cI, 6, .inl tp))] (fun r w => r = some (.int (zI (gBE th sd tp n sc u))) ∧ w = [(g, .inr (2, [.ref ga, .ref gb, .ref gc, .int (nI n), .int sc])), (ga, .inl (cI, 6, .inl th)), (gb, .inl (cI, 6, .inl sd)), (gc, .inl (cI, 6, .inl tp))]) := by
  refine Ct.ofI (ty := .int) (by decide) (Nat.le_of_ble_eq_true rfl) ?_
  intro p e s m args below meth c A R Q F hnm hcs0 hE
  refine v_lv (lv' := [(0, .ref g), (1, .int (nI u))]) [0, 1] rfl ?_
  refine v_aload_n F dX2_bearingOf_0 (i := 0) rfl 0 rfl (q := 1) rfl ?_
  refine v_iload_n F dX2_bearingOf_1 (i := 1) rfl 1 rfl (q := 2) rfl ?_
  refine v_callV F ml_X2_41 im_X2_pullOf se_X2_pullOf in_X2 co_X2_pullOf sd_X2_pullOf (c_X2_pullOf g ga gb gc th sd tp n sc u G (by omega)) ⟨Nat.zero_le _, Nat.zero_le _⟩ (Nat.le_of_ble_eq_true rfl) (Nat.le_of_ble_eq_true rfl) 0 (As := [.int (nI u)]) rfl rfl rfl rfl rfl [0, 1, 2, 3] rfl rfl rfl (rest := []) rfl (Nat.le_of_ble_eq_true rfl) dX2_bearingOf_2 (q := 5) rfl (fun r w hr => ?_)
  obtain ⟨rfl, rfl⟩ := hr
  refine v_ws (ws' := [(g, .inr (2, [.ref ga, .ref gb, .ref gc, .int (nI n), .int sc])), (ga, .inl (cI, 6, .inl th)), (gb, .inl (cI, 6, .inl sd)), (gc, .inl (cI, 6, .inl tp))]) rfl ?_
  refine v_st (st' := [.int (zI (gPU th sd n sc u))]) rfl ?_
  refine v_aload_n F dX2_bearingOf_5 (i := 0) rfl 0 rfl (q := 6) rfl ?_
  refine v_iload_n F dX2_bearingOf_6 (i := 1) rfl 1 rfl (q := 7) rfl ?_
  refine v_callV F ml_X2_44 im_X2_tipBelow se_X2_tipBelow in_X2 co_X2_tipBelow sd_X2_tipBelow (c_X2_tipBelow g ga gb gc th sd tp n sc u G (by omega)) ⟨Nat.zero_le _, Nat.zero_le _⟩ (Nat.le_of_ble_eq_true rfl) (Nat.le_of_ble_eq_true rfl) 0 (As := [.int (nI u)]) rfl rfl rfl rfl rfl [0, 1, 2, 3] rfl rfl rfl (rest := [.int (zI (gPU th sd n sc u))]) rfl (Nat.le_of_ble_eq_true rfl) dX2_bearingOf_7 (q := 10) rfl (fun r w hr => ?_)
  obtain ⟨rfl, rfl⟩ := hr
  refine v_ws (ws' := [(g, .inr (2, [.ref ga, .ref gb, .ref gc, .int (nI n), .int sc])), (ga, .inl (cI, 6, .inl th)), (gb, .inl (cI, 6, .inl sd)), (gc, .inl (cI, 6, .inl tp))]) rfl ?_
  refine v_st (st' := [.int (zI (gTI th tp n u)), .int (zI (gPU th sd n sc u))]) rfl ?_
  refine v_iadd F dX2_bearingOf_10 (q := 11) rfl ?_
  exact hE rfl dX2_bearingOf_11 (Nat.zero_le _) (Nat.zero_le _) ⟨⟨by rw [zI_add]; rfl, rfl⟩, Nat.le_of_ble_eq_true rfl⟩

end GR