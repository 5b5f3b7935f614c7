section SA
variable {l : Launch} {D : va_G} {cI cJ cZ : ClassId}
theorem in_J13 : Cond.initialized RJ13 ∈ ALL := (ALL_at 58 (by decide +kernel) rfl)
set_option maxHeartbeats 4000000 in
set_option maxRecDepth 100000 in
theorem c_X7_within (v a b : Int32)  : Ct l D (TY cI cJ cZ) yX7_within cX7_within 3 (some .boolean) 0 0 0 0 [.int v, .int a, .int b] [] (fun r w => r = some (.int (bI (inR v a b))) ∧ w = []) := by
  refine Ct.ofI (ty := .boolean) (by decide) (Nat.le_of_ble_eq_true rfl) ?_
  intro p e s m args below meth c A R Q F hnm hcs0 hE
  refine v_lv (lv' := [(0, .int v), (1, .int a), (2, .int b)]) [0, 1, 2] rfl ?_
  refine v_iload_n F dX7_within_0 (i := 0) rfl 0 rfl (q := 1) rfl ?_
  refine v_iload_n F dX7_within_1 (i := 1) rfl 1 rfl (q := 2) rfl ?_
  refine v_icmp_lt F dX7_within_2 (tgt := 14) rfl (q := 5) rfl (fun c2 => ?_) (fun c2 => ?_)
  · skip
    refine v_iconst F dX7_within_14 (v := 0) (q := 15) rfl rfl ?_
    exact hE (by first | rfl | exact bI_nar _) dX7_within_15 (Nat.zero_le _) (Nat.zero_le _) ⟨⟨by first | rw [inR_f1 c2] | rw [inR_f2 c7], rfl⟩, Nat.le_of_ble_eq_true rfl⟩
  · skip
    refine v_iload_n F dX7_within_5 (i := 0) rfl 0 rfl (q := 6) rfl ?_
    refine v_iload_n F dX7_within_6 (i := 2) rfl 2 rfl (q := 7) rfl ?_
    refine v_icmp_gt F dX7_within_7 (tgt := 14) rfl (q := 10) rfl (fun c7 => ?_) (fun c7 => ?_)
    · skip
      refine v_iconst F dX7_within_14 (v := 0) (q := 15) rfl rfl ?_
      exact hE (by first | rfl | exact bI_nar _) dX7_within_15 (Nat.zero_le _) (Nat.zero_le _) ⟨⟨by first | rw [inR_f1 c2] | rw [inR_f2 c7], rfl⟩, Nat.le_of_ble_eq_true rfl⟩
    · skip
      refine v_iconst F dX7_within_10 (v := 1) (q := 11) rfl rfl ?_
      refine v_goto F dX7_within_11 (tgt := 15) rfl ?_
      exact hE (by first | rfl | exact bI_nar _) dX7_within_15 (Nat.zero_le _) (Nat.zero_le _) ⟨⟨by rw [inR_t c2 c7], rfl⟩, Nat.le_of_ble_eq_true rfl⟩

set_option maxHeartbeats 4000000 in
set_option maxRecDepth 100000 in
theorem c_X7_isSide (v : Int32)  : Ct l D (TY cI cJ cZ) yX7_isSide cX7_isSide 1 (some .boolean) 1 22 0 0 [.int v] [] (fun r w => r = some (.int (bI (inR v 0 50))) ∧ w = []) := by
  refine Ct.ofI (ty := .boolean) (by decide) (Nat.le_of_ble_eq_true rfl) ?_
  intro p e s m args below meth c A R Q F hnm hcs0 hE
  refine v_lv (lv' := [(0, .int v)]) [0] rfl ?_
  refine v_iload_n F dX7_isSide_0 (i := 0) rfl 0 rfl (q := 1) rfl ?_
  refine v_iconst F dX7_isSide_1 (v := 0) (q := 2) rfl rfl ?_
  refine v_bipush F dX7_isSide_2 (v := 50) (q := 4) rfl rfl ?_
  refine v_callS F ml_X7_64 sm_X7_within in_X7 co_X7_within sd_X7_within (c_X7_within v 0 50) ⟨Nat.zero_le _, Nat.zero_le _⟩ (Nat.le_of_ble_eq_true rfl) (Nat.le_of_ble_eq_true rfl) rfl [] rfl rfl rfl (rest := []) rfl (Nat.le_of_ble_eq_true rfl) dX7_isSide_4 (q := 7) rfl (fun r w hr => ?_)
  obtain ⟨rfl, rfl⟩ := hr
  refine v_ws (ws' := []) rfl ?_
  refine v_st (st' := [.int (bI (inR v 0 50))]) rfl ?_
  exact hE (bI_nar _) dX7_isSide_7 (Nat.zero_le _) (Nat.zero_le _) ⟨⟨rfl, rfl⟩, Nat.le_of_ble_eq_true rfl⟩

set_option maxHeartbeats 4000000 in
set_option maxRecDepth 100000 in
theorem c_X7_isTip (v : Int32)  : Ct l D (TY cI cJ cZ) yX7_isTip cX7_isTip 1 (some .boolean) 1 22 0 0 [.int v] [] (fun r w => r = some (.int (bI (inR v 0 1000))) ∧ w = []) := by
  refine Ct.ofI (ty := .boolean) (by decide) (Nat.le_of_ble_eq_true rfl) ?_
  intro p e s m args below meth c A R Q F hnm hcs0 hE
  refine v_lv (lv' := [(0, .int v)]) [0] rfl ?_
  refine v_iload_n F dX7_isTip_0 (i := 0) rfl 0 rfl (q := 1) rfl ?_
  refine v_iconst F dX7_isTip_1 (v := 0) (q := 2) rfl rfl ?_
  refine v_sipush F dX7_isTip_2 (v := 1000) (q := 5) rfl rfl ?_
  refine v_callS F ml_X7_64 sm_X7_within in_X7 co_X7_within sd_X7_within (c_X7_within v 0 1000) ⟨Nat.zero_le _, Nat.zero_le _⟩ (Nat.le_of_ble_eq_true rfl) (Nat.le_of_ble_eq_true rfl) rfl [] rfl rfl rfl (rest := []) rfl (Nat.le_of_ble_eq_true rfl) dX7_isTip_5 (q := 8) rfl (fun r w hr => ?_)
  obtain ⟨rfl, rfl⟩ := hr
  refine v_ws (ws' := []) rfl ?_
  refine v_st (st' := [.int (bI (inR v 0 1000))]) rfl ?_
  exact hE (bI_nar _) dX7_isTip_8 (Nat.zero_le _) (Nat.zero_le _) ⟨⟨rfl, rfl⟩, Nat.le_of_ble_eq_true rfl⟩

set_option maxHeartbeats 4000000 in
set_option maxRecDepth 100000 in
theorem c_X7_isCase (v : Int32)  : Ct l D (TY cI cJ cZ) yX7_isCase cX7_isCase 1 (some .boolean) 1 22 0 0 [.int v] [] (fun r w => r = some (.int (bI (inR v 0 2))) ∧ w = []) := by
  refine Ct.ofI (ty := .boolean) (by decide) (Nat.le_of_ble_eq_true rfl) ?_
  intro p e s m args below meth c A R Q F hnm hcs0 hE
  refine v_lv (lv' := [(0, .int v)]) [0] rfl ?_
  refine v_iload_n F dX7_isCase_0 (i := 0) rfl 0 rfl (q := 1) rfl ?_
  refine v_iconst F dX7_isCase_1 (v := 0) (q := 2) rfl rfl ?_
  refine v_iconst F dX7_isCase_2 (v := 2) (q := 3) rfl rfl ?_
  refine v_callS F ml_X7_64 sm_X7_within in_X7 co_X7_within sd_X7_within (c_X7_within v 0 2) ⟨Nat.zero_le _, Nat.zero_le _⟩ (Nat.le_of_ble_eq_true rfl) (Nat.le_of_ble_eq_true rfl) rfl [] rfl rfl rfl (rest := []) rfl (Nat.le_of_ble_eq_true rfl) dX7_isCase_3 (q := 6) rfl (fun r w hr => ?_)
  obtain ⟨rfl, rfl⟩ := hr
  refine v_ws (ws' := []) rfl ?_
  refine v_st (st' := [.int (bI (inR v 0 2))]) rfl ?_
  exact hE (bI_nar _) dX7_isCase_6 (Nat.zero_le _) (Nat.zero_le _) ⟨⟨rfl, rfl⟩, Nat.le_of_ble_eq_true rfl⟩

set_option maxHeartbeats 4000000 in
set_option maxRecDepth 100000 in
theorem c_X7_isPlace (x y : Int32)  : Ct l D (TY cI cJ cZ) yX7_isPlace cX7_isPlace 2 (some .boolean) 1 22 0 0 [.int x, .int y] [] (fun r w => r = some (.int (bI (inR x (-20) 20 && inR y (-20) 20))) ∧ w = []) := by
  refine Ct.ofI (ty := .boolean) (by decide) (Nat.le_of_ble_eq_true rfl) ?_
  intro p e s m args below meth c A R Q F hnm hcs0 hE
  refine v_lv (lv' := [(0, .int x), (1, .int y)]) [0, 1] rfl ?_
  refine v_iload_n F dX7_isPlace_0 (i := 0) rfl 0 rfl (q := 1) rfl ?_
  refine v_bipush F dX7_isPlace_1 (v := (-20)) (q := 3) rfl rfl ?_
  refine v_bipush F dX7_isPlace_3 (v := 20) (q := 5) rfl rfl ?_
  refine v_callS F ml_X7_64 sm_X7_within in_X7 co_X7_within sd_X7_within (c_X7_within x (-20) 20) ⟨Nat.zero_le _, Nat.zero_le _⟩ (Nat.le_of_ble_eq_true rfl) (Nat.le_of_ble_eq_true rfl) rfl [] rfl rfl rfl (rest := []) rfl (Nat.le_of_ble_eq_true rfl) dX7_isPlace_5 (q := 8) rfl (fun r w hr => ?_)
  obtain ⟨rfl, rfl⟩ := hr
  refine v_ws (ws' := []) rfl ?_
  refine v_st (st' := [.int (bI (inR x (-20) 20))]) rfl ?_
  refine v_if_eq F dX7_isPlace_8 (tgt := 26) rfl (q := 11) rfl (fun c8 => ?_) (fun c8 => ?_)
  · skip
    refine v_iconst F dX7_isPlace_26 (v := 0) (q := 27) rfl rfl ?_
    exact hE (by first | rfl | exact bI_nar _) dX7_isPlace_27 (Nat.zero_le _) (Nat.zero_le _) ⟨⟨by first | (rw [bI_z.mp c8]; rfl) | (rw [bI_z.mp c19, Bool.and_false]; rfl), rfl⟩, Nat.le_of_ble_eq_true rfl⟩
  · skip
    refine v_iload_n F dX7_isPlace_11 (i := 1) rfl 1 rfl (q := 12) rfl ?_
    refine v_bipush F dX7_isPlace_12 (v := (-20)) (q := 14) rfl rfl ?_
    refine v_bipush F dX7_isPlace_14 (v := 20) (q := 16) rfl rfl ?_
    refine v_callS F ml_X7_64 sm_X7_within in_X7 co_X7_within sd_X7_within (c_X7_within y (-20) 20) ⟨Nat.zero_le _, Nat.zero_le _⟩ (Nat.le_of_ble_eq_true rfl) (Nat.le_of_ble_eq_true rfl) rfl [] rfl rfl rfl (rest := []) rfl (Nat.le_of_ble_eq_true rfl) dX7_isPlace_16 (q := 19) rfl (fun r w hr => ?_)
    obtain ⟨rfl, rfl⟩ := hr
    refine v_ws (ws' := []) rfl ?_
    refine v_st (st' := [.int (bI (inR y (-20) 20))]) rfl ?_
    refine v_if_eq F dX7_isPlace_19 (tgt := 26) rfl (q := 22) rfl (fun c19 => ?_) (fun c19 => ?_)
    · skip
      refine v_iconst F dX7_isPlace_26 (v := 0) (q := 27) rfl rfl ?_
      exact hE (by first | rfl | exact bI_nar _) dX7_isPlace_27 (Nat.zero_le _) (Nat.zero_le _) ⟨⟨by first | (rw [bI_z.mp c8]; rfl) | (rw [bI_z.mp c19, Bool.and_false]; rfl), rfl⟩, Nat.le_of_ble_eq_true rfl⟩
    · skip
      refine v_iconst F dX7_isPlace_22 (v := 1) (q := 23) rfl rfl ?_
      refine v_goto F dX7_isPlace_23 (tgt := 27) rfl ?_
      exact hE (by first | rfl | exact bI_nar _) dX7_isPlace_27 (Nat.zero_le _) (Nat.zero_le _) ⟨⟨by rw [bI_nz.mp c8, bI_nz.mp c19]; rfl, rfl⟩, Nat.le_of_ble_eq_true rfl⟩

set_option maxHeartbeats 4000000 in
set_option maxRecDepth 100000 in
theorem c_X8_in (v a b : Int32)  : Ct l D (TY cI cJ cZ) yX8_in cX8_in 3 (some .boolean) 0 0 0 0 [.int v, .int a, .int b] [] (fun r w => r = some (.int (bI (inR v a b))) ∧ w = []) := by
  refine Ct.ofI (ty := .boolean) (by decide) (Nat.le_of_ble_eq_true rfl) ?_
  intro p e s m args below meth c A R Q F hnm hcs0 hE
  refine v_lv (lv' := [(0, .int v), (1, .int a), (2, .int b)]) [0, 1, 2] rfl ?_
  refine v_iload_n F dX8_in_0 (i := 0) rfl 0 rfl (q := 1) rfl ?_
  refine v_iload_n F dX8_in_1 (i := 1) rfl 1 rfl (q := 2) rfl ?_
  refine v_icmp_lt F dX8_in_2 (tgt := 14) rfl (q := 5) rfl (fun c2 => ?_) (fun c2 => ?_)
  · skip
    refine v_iconst F dX8_in_14 (v := 0) (q := 15) rfl rfl ?_
    exact hE (by first | rfl | exact bI_nar _) dX8_in_15 (Nat.zero_le _) (Nat.zero_le _) ⟨⟨by first | rw [inR_f1 c2] | rw [inR_f2 c7], rfl⟩, Nat.le_of_ble_eq_true rfl⟩
  · skip
    refine v_iload_n F dX8_in_5 (i := 0) rfl 0 rfl (q := 6) rfl ?_
    refine v_iload_n F dX8_in_6 (i := 2) rfl 2 rfl (q := 7) rfl ?_
    refine v_icmp_gt F dX8_in_7 (tgt := 14) rfl (q := 10) rfl (fun c7 => ?_) (fun c7 => ?_)
    · skip
      refine v_iconst F dX8_in_14 (v := 0) (q := 15) rfl rfl ?_
      exact hE (by first | rfl | exact bI_nar _) dX8_in_15 (Nat.zero_le _) (Nat.zero_le _) ⟨⟨by first | rw [inR_f1 c2] | rw [inR_f2 c7], rfl⟩, Nat.le_of_ble_eq_true rfl⟩
    · skip
      refine v_iconst F dX8_in_10 (v := 1) (q := 11) rfl rfl ?_
      refine v_goto F dX8_in_11 (tgt := 15) rfl ?_
      exact hE (by first | rfl | exact bI_nar _) dX8_in_15 (Nat.zero_le _) (Nat.zero_le _) ⟨⟨by rw [inR_t c2 c7], rfl⟩, Nat.le_of_ble_eq_true rfl⟩

set_option maxHeartbeats 4000000 in
set_option maxRecDepth 100000 in
theorem c_X8_isPlace (x y : Int32)  : Ct l D (TY cI cJ cZ) yX8_isPlace cX8_isPlace 2 (some .boolean) 1 22 0 0 [.int x, .int y] [] (fun r w => r = some (.int (bI (inR x (-20) 20 && inR y (-20) 20))) ∧ w = []) := by
  refine Ct.ofI (ty := .boolean) (by decide) (Nat.le_of_ble_eq_true rfl) ?_
  intro p e s m args below meth c A R Q F hnm hcs0 hE
  refine v_lv (lv' := [(0, .int x), (1, .int y)]) [0, 1] rfl ?_
  refine v_iload_n F dX8_isPlace_0 (i := 0) rfl 0 rfl (q := 1) rfl ?_
  refine v_bipush F dX8_isPlace_1 (v := (-20)) (q := 3) rfl rfl ?_
  refine v_bipush F dX8_isPlace_3 (v := 20) (q := 5) rfl rfl ?_
  refine v_callS F ml_X8_54 sm_X8_in in_X8 co_X8_in sd_X8_in (c_X8_in x (-20) 20) ⟨Nat.zero_le _, Nat.zero_le _⟩ (Nat.le_of_ble_eq_true rfl) (Nat.le_of_ble_eq_true rfl) rfl [] rfl rfl rfl (rest := []) rfl (Nat.le_of_ble_eq_true rfl) dX8_isPlace_5 (q := 8) rfl (fun r w hr => ?_)
  obtain ⟨rfl, rfl⟩ := hr
  refine v_ws (ws' := []) rfl ?_
  refine v_st (st' := [.int (bI (inR x (-20) 20))]) rfl ?_
  refine v_if_eq F dX8_isPlace_8 (tgt := 26) rfl (q := 11) rfl (fun c8 => ?_) (fun c8 => ?_)
  · skip
    refine v_iconst F dX8_isPlace_26 (v := 0) (q := 27) rfl rfl ?_
    exact hE (by first | rfl | exact bI_nar _) dX8_isPlace_27 (Nat.zero_le _) (Nat.zero_le _) ⟨⟨by first | (rw [bI_z.mp c8]; rfl) | (rw [bI_z.mp c19, Bool.and_false]; rfl), rfl⟩, Nat.le_of_ble_eq_true rfl⟩
  · skip
    refine v_iload_n F dX8_isPlace_11 (i := 1) rfl 1 rfl (q := 12) rfl ?_
    refine v_bipush F dX8_isPlace_12 (v := (-20)) (q := 14) rfl rfl ?_
    refine v_bipush F dX8_isPlace_14 (v := 20) (q := 16) rfl rfl ?_
    refine v_callS F ml_X8_54 sm_X8_in in_X8 co_X8_in sd_X8_in (c_X8_in y (-20) 20) ⟨Nat.zero_le _, Nat.zero_le _⟩ (Nat.le_of_ble_eq_true rfl) (Nat.le_of_ble_eq_true rfl) rfl [] rfl rfl rfl (rest := []) rfl (Nat.le_of_ble_eq_true rfl) dX8_isPlace_16 (q := 19) rfl (fun r w hr => ?_)
    obtain ⟨rfl, rfl⟩ := hr
    refine v_ws (ws' := []) rfl ?_
    refine v_st (st' := [.int (bI (inR y (-20) 20))]) rfl ?_
    refine v_if_eq F dX8_isPlace_19 (tgt := 26) rfl (q := 22) rfl (fun c19 => ?_) (fun c19 => ?_)
    · skip
      refine v_iconst F dX8_isPlace_26 (v := 0) (q := 27) rfl rfl ?_
      exact hE (by first | rfl | exact bI_nar _) dX8_isPlace_27 (Nat.zero_le _) (Nat.zero_le _) ⟨⟨by first | (rw [bI_z.mp c8]; rfl) | (rw [bI_z.mp c19, Bool.and_false]; rfl), rfl⟩, Nat.le_of_ble_eq_true rfl⟩
    · skip
      refine v_iconst F dX8_isPlace_22 (v := 1) (q := 23) rfl rfl ?_
      refine v_goto F dX8_isPlace_23 (tgt := 27) rfl ?_
      exact hE (by first | rfl | exact bI_nar _) dX8_isPlace_27 (Nat.zero_le _) (Nat.zero_le _) ⟨⟨by rw [bI_nz.mp c8, bI_nz.mp c19]; rfl, rfl⟩, Nat.le_of_ble_eq_true rfl⟩

set_option maxHeartbeats 4000000 in
set_option maxRecDepth 100000 in
theorem c_X8_isCase (v : Int32)  : Ct l D (TY cI cJ cZ) yX8_isCase cX8_isCase 1 (some .boolean) 1 22 0 0 [.int v] [] (fun r w => r = some (.int (bI (inR v 0 2))) ∧ w = []) := by
  refine Ct.ofI (ty := .boolean) (by decide) (Nat.le_of_ble_eq_true rfl) ?_
  intro p e s m args below meth c A R Q F hnm hcs0 hE
  refine v_lv (lv' := [(0, .int v)]) [0] rfl ?_
  refine v_iload_n F dX8_isCase_0 (i := 0) rfl 0 rfl (q := 1) rfl ?_
  refine v_iconst F dX8_isCase_1 (v := 0) (q := 2) rfl rfl ?_
  refine v_iconst F dX8_isCase_2 (v := 2) (q := 3) rfl rfl ?_
  refine v_callS F ml_X8_54 sm_X8_in in_X8 co_X8_in sd_X8_in (c_X8_in v 0 2) ⟨Nat.zero_le _, Nat.zero_le _⟩ (Nat.le_of_ble_eq_true rfl) (Nat.le_of_ble_eq_true rfl) rfl [] rfl rfl rfl (rest := []) rfl (Nat.le_of_ble_eq_true rfl) dX8_isCase_3 (q := 6) rfl (fun r w hr => ?_)
  obtain ⟨rfl, rfl⟩ := hr
  refine v_ws (ws' := []) rfl ?_
  refine v_st (st' := [.int (bI (inR v 0 2))]) rfl ?_
  exact hE (bI_nar _) dX8_isCase_6 (Nat.zero_le _) (Nat.zero_le _) ⟨⟨rfl, rfl⟩, Nat.le_of_ble_eq_true rfl⟩

set_option maxHeartbeats 4000000 in
set_option maxRecDepth 100000 in
theorem c_J6_bitCount_0f7a4 (x : Int32)  : Ct l D (TY cI cJ cZ) yJ6_bitCount_0f7a4 cJ6_bitCount_0f7a4 1 (some .int) 0 0 0 0 [.int x] [] (fun r w => r = some (.int (bcI x)) ∧ w = []) := by
  refine Ct.ofI (ty := .int) (by decide) (Nat.le_of_ble_eq_true rfl) ?_
  intro p e s m args below meth c A R Q F hnm hcs0 hE
  refine v_lv (lv' := [(0, .int x)]) [0] rfl ?_
  refine v_iload_n F dJ6_bitCount_0f7a4_0 (i := 0) rfl 0 rfl (q := 1) rfl ?_
  refine v_iload_n F dJ6_bitCount_0f7a4_1 (i := 0) rfl 0 rfl (q := 2) rfl ?_
  refine v_iconst F dJ6_bitCount_0f7a4_2 (v := 1) (q := 3) rfl rfl ?_
  refine v_iushr F dJ6_bitCount_0f7a4_3 (q := 4) rfl rfl ?_
  refine v_ldcw F kc_J6_265 dJ6_bitCount_0f7a4_4 (q := 7) rfl ?_
  refine v_iand F dJ6_bitCount_0f7a4_7 (q := 8) rfl ?_
  refine v_isub F dJ6_bitCount_0f7a4_8 (q := 9) rfl ?_
  refine v_istore_n F dJ6_bitCount_0f7a4_9 (i := 0) (lv' := [(0, .int (x - ((us32 x 1) &&& 1431655765)))]) rfl (Nat.le_of_ble_eq_true rfl) rfl (q := 10) rfl ?_
  refine v_iload_n F dJ6_bitCount_0f7a4_10 (i := 0) rfl 0 rfl (q := 11) rfl ?_
  refine v_ldcw F kc_J6_266 dJ6_bitCount_0f7a4_11 (q := 14) rfl ?_
  refine v_iand F dJ6_bitCount_0f7a4_14 (q := 15) rfl ?_
  refine v_iload_n F dJ6_bitCount_0f7a4_15 (i := 0) rfl 0 rfl (q := 16) rfl ?_
  refine v_iconst F dJ6_bitCount_0f7a4_16 (v := 2) (q := 17) rfl rfl ?_
  refine v_iushr F dJ6_bitCount_0f7a4_17 (q := 18) rfl rfl ?_
  refine v_ldcw F kc_J6_266 dJ6_bitCount_0f7a4_18 (q := 21) rfl ?_
  refine v_iand F dJ6_bitCount_0f7a4_21 (q := 22) rfl ?_
  refine v_iadd F dJ6_bitCount_0f7a4_22 (q := 23) rfl ?_
  refine v_istore_n F dJ6_bitCount_0f7a4_23 (i := 0) (lv' := [(0, .int (((x - ((us32 x 1) &&& 1431655765)) &&& 858993459) + ((us32 (x - ((us32 x 1) &&& 1431655765)) 2) &&& 858993459)))]) rfl (Nat.le_of_ble_eq_true rfl) rfl (q := 24) rfl ?_
  refine v_iload_n F dJ6_bitCount_0f7a4_24 (i := 0) rfl 0 rfl (q := 25) rfl ?_
  refine v_iload_n F dJ6_bitCount_0f7a4_25 (i := 0) rfl 0 rfl (q := 26) rfl ?_
  refine v_iconst F dJ6_bitCount_0f7a4_26 (v := 4) (q := 27) rfl rfl ?_
  refine v_iushr F dJ6_bitCount_0f7a4_27 (q := 28) rfl rfl ?_
  refine v_iadd F dJ6_bitCount_0f7a4_28 (q := 29) rfl ?_
  refine v_ldcw F kc_J6_267 dJ6_bitCount_0f7a4_29 (q := 32) rfl ?_
  refine v_iand F dJ6_bitCount_0f7a4_32 (q := 33) rfl ?_
  refine v_istore_n F dJ6_bitCount_0f7a4_33 (i := 0) (lv' := [(0, .int (((((x - ((us32 x 1) &&& 1431655765)) &&& 858993459) + ((us32 (x - ((us32 x 1) &&& 1431655765)) 2) &&& 858993459)) + (us32 (((x - ((us32 x 1) &&& 1431655765)) &&& 858993459) + ((us32 (x - ((us32 x 1) &&& 1431655765)) 2) &&& 858993459)) 4)) &&& 252645135))]) rfl (Nat.le_of_ble_eq_true rfl) rfl (q := 34) rfl ?_
  refine v_iload_n F dJ6_bitCount_0f7a4_34 (i := 0) rfl 0 rfl (q := 35) rfl ?_
  refine v_iload_n F dJ6_bitCount_0f7a4_35 (i := 0) rfl 0 rfl (q := 36) rfl ?_
  refine v_bipush F dJ6_bitCount_0f7a4_36 (v := 8) (q := 38) rfl rfl ?_
  refine v_iushr F dJ6_bitCount_0f7a4_38 (q := 39) rfl rfl ?_
  refine v_iadd F dJ6_bitCount_0f7a4_39 (q := 40) rfl ?_
  refine v_istore_n F dJ6_bitCount_0f7a4_40 (i := 0) (lv' := [(0, .int ((((((x - ((us32 x 1) &&& 1431655765)) &&& 858993459) + ((us32 (x - ((us32 x 1) &&& 1431655765)) 2) &&& 858993459)) + (us32 (((x - ((us32 x 1) &&& 1431655765)) &&& 858993459) + ((us32 (x - ((us32 x 1) &&& 1431655765)) 2) &&& 858993459)) 4)) &&& 252645135) + (us32 (((((x - ((us32 x 1) &&& 1431655765)) &&& 858993459) + ((us32 (x - ((us32 x 1) &&& 1431655765)) 2) &&& 858993459)) + (us32 (((x - ((us32 x 1) &&& 1431655765)) &&& 858993459) + ((us32 (x - ((us32 x 1) &&& 1431655765)) 2) &&& 858993459)) 4)) &&& 252645135) 8)))]) rfl (Nat.le_of_ble_eq_true rfl) rfl (q := 41) rfl ?_
  refine v_iload_n F dJ6_bitCount_0f7a4_41 (i := 0) rfl 0 rfl (q := 42) rfl ?_
  refine v_iload_n F dJ6_bitCount_0f7a4_42 (i := 0) rfl 0 rfl (q := 43) rfl ?_
  refine v_bipush F dJ6_bitCount_0f7a4_43 (v := 16) (q := 45) rfl rfl ?_
  refine v_iushr F dJ6_bitCount_0f7a4_45 (q := 46) rfl rfl ?_
  refine v_iadd F dJ6_bitCount_0f7a4_46 (q := 47) rfl ?_
  refine v_istore_n F dJ6_bitCount_0f7a4_47 (i := 0) (lv' := [(0, .int (((((((x - ((us32 x 1) &&& 1431655765)) &&& 858993459) + ((us32 (x - ((us32 x 1) &&& 1431655765)) 2) &&& 858993459)) + (us32 (((x - ((us32 x 1) &&& 1431655765)) &&& 858993459) + ((us32 (x - ((us32 x 1) &&& 1431655765)) 2) &&& 858993459)) 4)) &&& 252645135) + (us32 (((((x - ((us32 x 1) &&& 1431655765)) &&& 858993459) + ((us32 (x - ((us32 x 1) &&& 1431655765)) 2) &&& 858993459)) + (us32 (((x - ((us32 x 1) &&& 1431655765)) &&& 858993459) + ((us32 (x - ((us32 x 1) &&& 1431655765)) 2) &&& 858993459)) 4)) &&& 252645135) 8)) + (us32 ((((((x - ((us32 x 1) &&& 1431655765)) &&& 858993459) + ((us32 (x - ((us32 x 1) &&& 1431655765)) 2) &&& 858993459)) + (us32 (((x - ((us32 x 1) &&& 1431655765)) &&& 858993459) + ((us32 (x - ((us32 x 1) &&& 1431655765)) 2) &&& 858993459)) 4)) &&& 252645135) + (us32 (((((x - ((us32 x 1) &&& 1431655765)) &&& 858993459) + ((us32 (x - ((us32 x 1) &&& 1431655765)) 2) &&& 858993459)) + (us32 (((x - ((us32 x 1) &&& 1431655765)) &&& 858993459) + ((us32 (x - ((us32 x 1) &&& 1431655765)) 2) &&& 858993459)) 4)) &&& 252645135) 8)) 16)))]) rfl (Nat.le_of_ble_eq_true rfl) rfl (q := 48) rfl ?_
  refine v_iload_n F dJ6_bitCount_0f7a4_48 (i := 0) rfl 0 rfl (q := 49) rfl ?_
  refine v_bipush F dJ6_bitCount_0f7a4_49 (v := 63) (q := 51) rfl rfl ?_
  refine v_iand F dJ6_bitCount_0f7a4_51 (q := 52) rfl ?_
  exact hE rfl dJ6_bitCount_0f7a4_52 (Nat.zero_le _) (Nat.zero_le _) ⟨⟨rfl, rfl⟩, Nat.le_of_ble_eq_true rfl⟩

set_option maxHeartbeats 4000000 in
set_option maxRecDepth 100000 in
theorem c_J13_compare_74951 (x y : Int64)  : Ct l D (TY cI cJ cZ) yJ13_compare_74951 cJ13_compare_74951 4 (some .int) 0 0 0 0 [.long x, .long y] [] (fun r w => r = some (.int (cmpL x y)) ∧ w = []) := by
  refine Ct.ofI (ty := .int) (by decide) (Nat.le_of_ble_eq_true rfl) ?_
  intro p e s m args below meth c A R Q F hnm hcs0 hE
  refine v_lv (lv' := [(0, .long x), (2, .long y)]) [0, 1] rfl ?_
  refine v_lload_n F dJ13_compare_74951_0 (i := 0) rfl 0 rfl (q := 1) rfl ?_
  refine v_lload_n F dJ13_compare_74951_1 (i := 2) rfl 1 rfl (q := 2) rfl ?_
  refine v_lcmp_ge F dJ13_compare_74951_2 dJ13_compare_74951_3 (tgt := 10) rfl (q := 6) rfl (fun c2 => ?_) (fun c2 => ?_)
  · skip
    refine v_lload_n F dJ13_compare_74951_10 (i := 0) rfl 0 rfl (q := 11) rfl ?_
    refine v_lload_n F dJ13_compare_74951_11 (i := 2) rfl 1 rfl (q := 12) rfl ?_
    refine v_lcmp_ne F dJ13_compare_74951_12 dJ13_compare_74951_13 (tgt := 20) rfl (q := 16) rfl (fun c12 => ?_) (fun c12 => ?_)
    · skip
      refine v_iconst F dJ13_compare_74951_20 (v := 1) (q := 21) rfl rfl ?_
      exact hE rfl dJ13_compare_74951_21 (Nat.zero_le _) (Nat.zero_le _) ⟨⟨by unfold cmpL; rw [if_neg (i64_nlt.mpr c2), if_neg c12], rfl⟩, Nat.le_of_ble_eq_true rfl⟩
    · skip
      refine v_iconst F dJ13_compare_74951_16 (v := 0) (q := 17) rfl rfl ?_
      refine v_goto F dJ13_compare_74951_17 (tgt := 21) rfl ?_
      exact hE rfl dJ13_compare_74951_21 (Nat.zero_le _) (Nat.zero_le _) ⟨⟨by unfold cmpL; rw [if_neg (i64_nlt.mpr c2), if_pos c12], rfl⟩, Nat.le_of_ble_eq_true rfl⟩
  · skip
    refine v_iconst F dJ13_compare_74951_6 (v := (-1)) (q := 7) rfl rfl ?_
    refine v_goto F dJ13_compare_74951_7 (tgt := 21) rfl ?_
    exact hE rfl dJ13_compare_74951_21 (Nat.zero_le _) (Nat.zero_le _) ⟨⟨by unfold cmpL; rw [if_pos (i64_nle.mp c2)], rfl⟩, Nat.le_of_ble_eq_true rfl⟩

set_option maxHeartbeats 4000000 in
set_option maxRecDepth 100000 in
theorem c_X7_compare (a b c0 d0 : Nat) (hA : EI 0 a b) (hC : EI 0 c0 d0) (hb : 0 < b) (hd : 0 < d0) : Ct l D (TY cI cJ cZ) yX7_compare cX7_compare 14 (some .int) 1 23 0 0 [.long (lN a), .long (lN b), .long (lN c0), .long (lN d0)] [] (fun r w => r = some (.int (cmpF a b c0 d0)) ∧ w = []) := by
  refine Ct.ofI (ty := .int) (by decide) (Nat.le_of_ble_eq_true rfl) ?_
  intro p e s m args below meth c A R Q F hnm hcs0 hE
  refine v_lv (lv' := [(0, .long (lN a)), (2, .long (lN b)), (4, .long (lN c0)), (6, .long (lN d0))]) [0, 1, 2, 3] rfl ?_
  have L3 : ∀ (f i x y z w : Nat), i + f = 200 → EI i x y → EI i z w → 0 < y → 0 < w → cmpF a b c0 d0 = cmpF x y z w → V p l e R s m args below meth c D A 14 0 0 Q 3 [(0, .long (lN x)), (2, .long (lN y)), (4, .long (lN z)), (6, .long (lN w)), (8, .int (nI i))] [] [] := by
    intro f
    induction f using Nat.strongRecOn with
    | _ f ih => ?_
    intro i x y z w hi hE1 hE2 hy hw hg
    have b1 := hE1.1
    have b2 := hE1.2.1
    have b3 := hE2.1
    have b4 := hE2.2.1
    have m1 := Nat.div_le_self x y
    have m2 := Nat.div_le_self z w
    have m3 := Nat.mod_lt x hy
    have m4 := Nat.mod_lt z hw
    refine v_iload F dX7_compare_3 4 rfl (q := 5) rfl ?_
    refine v_sipush F dX7_compare_5 (v := 200) (q := 8) rfl rfl ?_
    refine v_icmp_ge F dX7_compare_8 (tgt := 98) rfl (q := 11) rfl (fun c8 => ?_) (fun c8 => ?_)
    · exact absurd (EI_end hE1 (by rw [show (200 : Int32) = nI 200 from rfl, nI_leI (by omega) (by omega)] at c8; exact c8)) (by omega)
    · skip
      rw [show (200 : Int32) = nI 200 from rfl, nI_leI (by omega) (by omega)] at c8
      obtain ⟨f, rfl⟩ : ∃ d2, f = d2 + 1 := ⟨f - 1, by omega⟩
      refine v_lload_n F dX7_compare_11 (i := 2) rfl 1 rfl (q := 12) rfl ?_
      refine v_lconst F dX7_compare_12 (v := 0) (q := 13) rfl rfl ?_
      refine v_lcmp_le F dX7_compare_13 dX7_compare_14 (tgt := 98) rfl (q := 17) rfl (fun c13 => ?_) (fun c13 => ?_)
      · exact absurd ((pk_lLE (b := 0) (by omega) (by omega)).mp c13) (by omega)
      · skip
        refine v_lload F dX7_compare_17 3 rfl (q := 19) rfl ?_
        refine v_lconst F dX7_compare_19 (v := 0) (q := 20) rfl rfl ?_
        refine v_lcmp_le F dX7_compare_20 dX7_compare_21 (tgt := 98) rfl (q := 24) rfl (fun c20 => ?_) (fun c20 => ?_)
        · exact absurd ((pk_lLE (b := 0) (by omega) (by omega)).mp c20) (by omega)
        · skip
          refine v_lload_n F dX7_compare_24 (i := 0) rfl 0 rfl (q := 25) rfl ?_
          refine v_lload_n F dX7_compare_25 (i := 2) rfl 1 rfl (q := 26) rfl ?_
          refine v_ldiv F dX7_compare_26 (fun q => by have := (pk_lEQ (b := 0) (by omega) (by omega)).mp q; omega) (q := 27) rfl ?_
          refine v_long (y := lN (x / y)) (pk_lDiv (by omega) hy (by omega)) ?_
          refine v_lload F dX7_compare_27 2 rfl (q := 29) rfl ?_
          refine v_lload F dX7_compare_29 3 rfl (q := 31) rfl ?_
          refine v_ldiv F dX7_compare_31 (fun q => by have := (pk_lEQ (b := 0) (by omega) (by omega)).mp q; omega) (q := 32) rfl ?_
          refine v_long (y := lN (z / w)) (pk_lDiv (by omega) hw (by omega)) ?_
          refine v_callS F ml_X7_265 sm_J13_compare_74951 in_J13 co_J13_compare_74951 sd_J13_compare_74951 (c_J13_compare_74951 (lN (x / y)) (lN (z / w))) ⟨Nat.zero_le _, Nat.zero_le _⟩ (Nat.le_of_ble_eq_true rfl) (Nat.le_of_ble_eq_true rfl) rfl [] rfl rfl rfl (rest := []) rfl (Nat.le_of_ble_eq_true rfl) dX7_compare_32 (q := 35) rfl (fun r w hr => ?_)
          obtain ⟨rfl, rfl⟩ := hr
          refine v_ws (ws' := []) rfl ?_
          refine v_st (st' := [.int (cmpL (lN (x / y)) (lN (z / w)))]) rfl ?_
          refine v_int (y := if x / y < z / w then -1 else if x / y = z / w then 0 else 1) (cmpL_lN (by omega) (by omega)) ?_
          refine v_istore F dX7_compare_35 (lv' := [(9, .int (if x / y < z / w then -1 else if x / y = z / w then 0 else 1)), (0, .long (lN x)), (2, .long (lN y)), (4, .long (lN z)), (6, .long (lN w)), (8, .int (nI i))]) (Nat.le_of_ble_eq_true rfl) rfl (q := 37) rfl ?_
          refine v_iload F dX7_compare_37 0 rfl (q := 39) rfl ?_
          refine v_if_eq F dX7_compare_39 (tgt := 45) rfl (q := 42) rfl (fun c39 => ?_) (fun c39 => ?_)
          · skip
            have heq : x / y = z / w := cq_eq c39
            rw [cmpF_rest heq] at hg
            refine v_lload_n F dX7_compare_45 (i := 0) rfl 1 rfl (q := 46) rfl ?_
            refine v_lload_n F dX7_compare_46 (i := 2) rfl 2 rfl (q := 47) rfl ?_
            refine v_lrem F dX7_compare_47 (fun q => by have := (pk_lEQ (b := 0) (by omega) (by omega)).mp q; omega) (q := 48) rfl ?_
            refine v_long (y := lN (x % y)) (pk_lRem (by omega) hy (by omega)) ?_
            refine v_lstore F dX7_compare_48 (lv' := [(10, .long (lN (x % y))), (9, .int (if x / y < z / w then -1 else if x / y = z / w then 0 else 1)), (0, .long (lN x)), (2, .long (lN y)), (4, .long (lN z)), (6, .long (lN w)), (8, .int (nI i))]) (Nat.le_of_ble_eq_true rfl) rfl (q := 50) rfl ?_
            refine v_lload F dX7_compare_50 4 rfl (q := 52) rfl ?_
            refine v_lload F dX7_compare_52 5 rfl (q := 54) rfl ?_
            refine v_lrem F dX7_compare_54 (fun q => by have := (pk_lEQ (b := 0) (by omega) (by omega)).mp q; omega) (q := 55) rfl ?_
            refine v_long (y := lN (z % w)) (pk_lRem (by omega) hw (by omega)) ?_
            refine v_lstore F dX7_compare_55 (lv' := [(12, .long (lN (z % w))), (10, .long (lN (x % y))), (9, .int (if x / y < z / w then -1 else if x / y = z / w then 0 else 1)), (0, .long (lN x)), (2, .long (lN y)), (4, .long (lN z)), (6, .long (lN w)), (8, .int (nI i))]) (Nat.le_of_ble_eq_true rfl) rfl (q := 57) rfl ?_
            refine v_lload F dX7_compare_57 1 rfl (q := 59) rfl ?_
            refine v_lconst F dX7_compare_59 (v := 0) (q := 60) rfl rfl ?_
            refine v_lcmp_eq F dX7_compare_60 dX7_compare_61 (tgt := 71) rfl (q := 64) rfl (fun c60 => ?_) (fun c60 => ?_)
            · skip
              have hz : x % y = 0 := (pk_lEQ (a := x % y) (b := 0) (by omega) (by omega)).mp c60
              rw [cmpF_z hy hw (Or.inl hz)] at hg
              refine v_lload F dX7_compare_71 1 rfl (q := 73) rfl ?_
              refine v_lload F dX7_compare_73 0 rfl (q := 75) rfl ?_
              refine v_callS F ml_X7_265 sm_J13_compare_74951 in_J13 co_J13_compare_74951 sd_J13_compare_74951 (c_J13_compare_74951 (lN (x % y)) (lN (z % w))) ⟨Nat.zero_le _, Nat.zero_le _⟩ (Nat.le_of_ble_eq_true rfl) (Nat.le_of_ble_eq_true rfl) rfl [] rfl rfl rfl (rest := []) rfl (Nat.le_of_ble_eq_true rfl) dX7_compare_75 (q := 78) rfl (fun r w hr => ?_)
              obtain ⟨rfl, rfl⟩ := hr
              refine v_ws (ws' := []) rfl ?_
              refine v_st (st' := [.int (cmpL (lN (x % y)) (lN (z % w)))]) rfl ?_
              refine v_int (y := if x % y < z % w then -1 else if x % y = z % w then 0 else 1) (cmpL_lN (by omega) (by omega)) ?_
              exact hE rfl dX7_compare_78 (Nat.zero_le _) (Nat.zero_le _) ⟨⟨by rw [hg], rfl⟩, Nat.le_of_ble_eq_true rfl⟩
            · skip
              have hnz : ¬ x % y = 0 := fun q => c60 (by rw [q]; rfl)
              refine v_lload F dX7_compare_64 0 rfl (q := 66) rfl ?_
              refine v_lconst F dX7_compare_66 (v := 0) (q := 67) rfl rfl ?_
              refine v_lcmp_ne F dX7_compare_67 dX7_compare_68 (tgt := 79) rfl (q := 71) rfl (fun c67 => ?_) (fun c67 => ?_)
              · skip
                have hnz2 : ¬ z % w = 0 := fun q => c67 (by rw [q]; rfl)
                have hg2 := hg.trans cmpF_turn
                refine v_lload F dX7_compare_79 6 rfl (q := 81) rfl ?_
                refine v_lstore_n F dX7_compare_81 (i := 0) (lv' := [(0, .long (lN w)), (12, .long (lN (z % w))), (10, .long (lN (x % y))), (9, .int (if x / y < z / w then -1 else if x / y = z / w then 0 else 1)), (2, .long (lN y)), (4, .long (lN z)), (6, .long (lN w)), (8, .int (nI i))]) rfl (Nat.le_of_ble_eq_true rfl) rfl (q := 82) rfl ?_
                refine v_lload_n F dX7_compare_82 (i := 2) rfl 4 rfl (q := 83) rfl ?_
                refine v_lstore F dX7_compare_83 (lv' := [(4, .long (lN y)), (0, .long (lN w)), (12, .long (lN (z % w))), (10, .long (lN (x % y))), (9, .int (if x / y < z / w then -1 else if x / y = z / w then 0 else 1)), (2, .long (lN y)), (6, .long (lN w)), (8, .int (nI i))]) (Nat.le_of_ble_eq_true rfl) rfl (q := 85) rfl ?_
                refine v_lload F dX7_compare_85 2 rfl (q := 87) rfl ?_
                refine v_lstore_n F dX7_compare_87 (i := 2) (lv' := [(2, .long (lN (z % w))), (4, .long (lN y)), (0, .long (lN w)), (12, .long (lN (z % w))), (10, .long (lN (x % y))), (9, .int (if x / y < z / w then -1 else if x / y = z / w then 0 else 1)), (6, .long (lN w)), (8, .int (nI i))]) rfl (Nat.le_of_ble_eq_true rfl) rfl (q := 88) rfl ?_
                refine v_lload F dX7_compare_88 4 rfl (q := 90) rfl ?_
                refine v_lstore F dX7_compare_90 (lv' := [(6, .long (lN (x % y))), (2, .long (lN (z % w))), (4, .long (lN y)), (0, .long (lN w)), (12, .long (lN (z % w))), (10, .long (lN (x % y))), (9, .int (if x / y < z / w then -1 else if x / y = z / w then 0 else 1)), (8, .int (nI i))]) (Nat.le_of_ble_eq_true rfl) rfl (q := 92) rfl ?_
                refine v_iinc F dX7_compare_92 7 rfl (v := nI (i + 1)) (lv' := [(8, .int (nI (i + 1))), (6, .long (lN (x % y))), (2, .long (lN (z % w))), (4, .long (lN y)), (0, .long (lN w)), (12, .long (lN (z % w))), (10, .long (lN (x % y))), (9, .int (if x / y < z / w then -1 else if x / y = z / w then 0 else 1))]) (nI_1 i) (Nat.le_of_ble_eq_true rfl) rfl (q := 95) rfl ?_
                refine v_goto F dX7_compare_95 (tgt := 3) rfl ?_
                refine v_lv (lv' := [(0, .long (lN w)), (2, .long (lN (z % w))), (4, .long (lN y)), (6, .long (lN (x % y))), (8, .int (nI (i + 1)))]) [4, 2, 3, 1, 0] rfl ?_
                exact ih f (by omega) (i + 1) w (z % w) y (x % y) (by omega) (EI_step hE2 (by omega)) (EI_step hE1 (by omega)) (by omega) (by omega) hg2
              · skip
                have hz2 : z % w = 0 := (pk_lEQ (a := z % w) (b := 0) (by omega) (by omega)).mp c67
                rw [cmpF_z hy hw (Or.inr hz2)] at hg
                refine v_lload F dX7_compare_71 1 rfl (q := 73) rfl ?_
                refine v_lload F dX7_compare_73 0 rfl (q := 75) rfl ?_
                refine v_callS F ml_X7_265 sm_J13_compare_74951 in_J13 co_J13_compare_74951 sd_J13_compare_74951 (c_J13_compare_74951 (lN (x % y)) (lN (z % w))) ⟨Nat.zero_le _, Nat.zero_le _⟩ (Nat.le_of_ble_eq_true rfl) (Nat.le_of_ble_eq_true rfl) rfl [] rfl rfl rfl (rest := []) rfl (Nat.le_of_ble_eq_true rfl) dX7_compare_75 (q := 78) rfl (fun r w hr => ?_)
                obtain ⟨rfl, rfl⟩ := hr
                refine v_ws (ws' := []) rfl ?_
                refine v_st (st' := [.int (cmpL (lN (x % y)) (lN (z % w)))]) rfl ?_
                refine v_int (y := if x % y < z % w then -1 else if x % y = z % w then 0 else 1) (cmpL_lN (by omega) (by omega)) ?_
                exact hE rfl dX7_compare_78 (Nat.zero_le _) (Nat.zero_le _) ⟨⟨by rw [hg], rfl⟩, Nat.le_of_ble_eq_true rfl⟩
          · skip
            have hne : ¬ x / y = z / w := fun q => c39 (by rw [q]; simp)
            refine v_iload F dX7_compare_42 0 rfl (q := 44) rfl ?_
            exact hE rfl dX7_compare_44 (Nat.zero_le _) (Nat.zero_le _) ⟨⟨by rw [hg, cq_ne hy hw hne], rfl⟩, Nat.le_of_ble_eq_true rfl⟩
  refine v_iconst F dX7_compare_0 (v := 0) (q := 1) rfl rfl ?_
  refine v_istore F dX7_compare_1 (lv' := [(8, .int 0), (0, .long (lN a)), (2, .long (lN b)), (4, .long (lN c0)), (6, .long (lN d0))]) (Nat.le_of_ble_eq_true rfl) rfl (q := 3) rfl ?_
  refine v_lv (lv' := [(0, .long (lN a)), (2, .long (lN b)), (4, .long (lN c0)), (6, .long (lN d0)), (8, .int 0)]) [1, 2, 3, 4, 0] rfl ?_
  exact L3 200 0 a b c0 d0 (by omega) hA hC hb hd rfl

end SA