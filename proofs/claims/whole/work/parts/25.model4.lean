section MO
variable {l : Launch} {D : va_G} {cI cJ cZ : ClassId}
set_option maxHeartbeats 4000000 in
set_option maxRecDepth 100000 in
theorem c_X8_areApart (y0 y1 y2 y3 y4 y5 y6 y7 y8 y9 y10 y11 y12 y13 y14 : Nat) (th : Nat → Int32) (sd : Nat → Int32) (tp : Nat → Int32) (n : Nat) (sc : Int32) (sp : Int32) (px : Nat → Int32) (py : Nat → Int32) (pl : Nat → Nat) (pk : Nat → Int32) (N : Nat) (M : Nat) (ls : Nat → Nat) (lv : Nat → Int32) (lx : Nat → Int32) (ly : Nat → Int32) (ab : Nat → Int64) (bl : Nat → Int64) (tn : Nat) (wo si t1 t2 : Int) (B : Nat) (VI : INV (th, sd, tp, n, sc, sp, px, py, pl, pk, N, M, ls, lv, lx, ly, ab, bl, tn)) (hB : B < 4096) (hBN : B < 2 ^ N) : Ct l D (TY cI cJ cZ) yX8_areApart cX8_areApart 7 (some .boolean) 0 0 0 0 [.ref y0, .int (nI B)] [(y0, .inr (8, [.int (nI n), .ref y1, .ref y2, .ref y3, .int sc, .int sp, .int (nI N), .ref y4, .ref y5, .ref y6, .ref y7, .ref y8, .ref y9, .ref y10, .ref y11, .ref y12, .int (nI tn), .ref y13, .ref y14, .long (zL wo), .long (zL si), .long (zL t1), .long (zL t2)])), (y1, .inl (cI, 6, .inl th)), (y2, .inl (cI, 6, .inl sd)), (y3, .inl (cI, 6, .inl tp)), (y4, .inl (cI, 12, .inl px)), (y5, .inl (cI, 12, .inl py)), (y6, .inl (cI, 12, .inl (fun i => nI (pl i)))), (y7, .inl (cI, 12, .inl pk)), (y8, .inl (cZ, 12, .inl (fun i => bI (M.testBit i)))), (y9, .inl (cI, 3, .inl (fun i => nI (ls i)))), (y10, .inl (cI, 18, .inl lv)), (y11, .inl (cI, 18, .inl lx)), (y12, .inl (cI, 18, .inl ly)), (y13, .inl (cJ, 15, .inr (.inl ab))), (y14, .inl (cJ, 15, .inr (.inl bl)))] (fun r w => r = some (.int (bI (spB B (fun i => nrM px py sp i N)))) ∧ w = [(y0, .inr (8, [.int (nI n), .ref y1, .ref y2, .ref y3, .int sc, .int sp, .int (nI N), .ref y4, .ref y5, .ref y6, .ref y7, .ref y8, .ref y9, .ref y10, .ref y11, .ref y12, .int (nI tn), .ref y13, .ref y14, .long (zL wo), .long (zL si), .long (zL t1), .long (zL t2)])), (y1, .inl (cI, 6, .inl th)), (y2, .inl (cI, 6, .inl sd)), (y3, .inl (cI, 6, .inl tp)), (y4, .inl (cI, 12, .inl px)), (y5, .inl (cI, 12, .inl py)), (y6, .inl (cI, 12, .inl (fun i => nI (pl i)))), (y7, .inl (cI, 12, .inl pk)), (y8, .inl (cZ, 12, .inl (fun i => bI (M.testBit i)))), (y9, .inl (cI, 3, .inl (fun i => nI (ls i)))), (y10, .inl (cI, 18, .inl lv)), (y11, .inl (cI, 18, .inl lx)), (y12, .inl (cI, 18, .inl ly)), (y13, .inl (cJ, 15, .inr (.inl ab))), (y14, .inl (cJ, 15, .inr (.inl bl)))]) := by
  refine Ct.ofI (ty := .boolean) (by decide) (Nat.le_of_ble_eq_true rfl) ?_
  intro p e s m args below meth c A R Q F hnm hcs0 hE
  refine v_lv (lv' := [(0, .ref y0), (1, .int (nI B))]) [0, 1] rfl ?_
  obtain ⟨G, hsp, P, hM, hls, hlv, hlx, hly, htn⟩ := id VI
  have hn6 := G.1
  have hN12 := P.1
  have hM4 : M < 4096 := Nat.lt_of_lt_of_le hM (Nat.pow_le_pow_right (by omega) hN12)
  refine v_iconst F dX8_areApart_0 (v := 1) (q := 1) rfl rfl ?_
  refine v_istore_n F dX8_areApart_1 (i := 2) (lv' := [(2, .int 1), (0, .ref y0), (1, .int (nI B))]) rfl (Nat.le_of_ble_eq_true rfl) rfl (q := 2) rfl ?_
  refine v_iconst F dX8_areApart_2 (v := 0) (q := 3) rfl rfl ?_
  refine v_istore_n F dX8_areApart_3 (i := 3) (lv' := [(3, .int 0), (2, .int 1), (0, .ref y0), (1, .int (nI B))]) rfl (Nat.le_of_ble_eq_true rfl) rfl (q := 4) rfl ?_
  have L4 : ∀ (d k : Nat) (b : Bool), k + d = N → (b = true ↔ ∀ p q, q < p → p < k → okP px py sp B p q = true) → V p l e R s m args below meth c D A 7 0 0 Q 4 [(0, .ref y0), (1, .int (nI B)), (2, .int (bI b)), (3, .int (nI k))] [] [(y0, .inr (8, [.int (nI n), .ref y1, .ref y2, .ref y3, .int sc, .int sp, .int (nI N), .ref y4, .ref y5, .ref y6, .ref y7, .ref y8, .ref y9, .ref y10, .ref y11, .ref y12, .int (nI tn), .ref y13, .ref y14, .long (zL wo), .long (zL si), .long (zL t1), .long (zL t2)])), (y1, .inl (cI, 6, .inl th)), (y2, .inl (cI, 6, .inl sd)), (y3, .inl (cI, 6, .inl tp)), (y4, .inl (cI, 12, .inl px)), (y5, .inl (cI, 12, .inl py)), (y6, .inl (cI, 12, .inl (fun i => nI (pl i)))), (y7, .inl (cI, 12, .inl pk)), (y8, .inl (cZ, 12, .inl (fun i => bI (M.testBit i)))), (y9, .inl (cI, 3, .inl (fun i => nI (ls i)))), (y10, .inl (cI, 18, .inl lv)), (y11, .inl (cI, 18, .inl lx)), (y12, .inl (cI, 18, .inl ly)), (y13, .inl (cJ, 15, .inr (.inl ab))), (y14, .inl (cJ, 15, .inr (.inl bl)))] := by
    intro d
    induction d using Nat.strongRecOn with
    | _ d ih => ?_
    intro k b hk hb
    refine v_iload_n F dX8_areApart_4 (i := 3) rfl 3 rfl (q := 5) rfl ?_
    refine v_aload_n F dX8_areApart_5 (i := 0) rfl 0 rfl (q := 6) rfl ?_
    refine gt_X8_75 F dX8_areApart_6 0 rfl rfl (q := 9) rfl ?_
    refine v_icmp_ge F dX8_areApart_9 (tgt := 115) rfl (q := 12) rfl (fun c9 => ?_) (fun c9 => ?_)
    · skip
      rw [nI_leI (by omega) (by omega)] at c9
      have hku : N = k := by omega
      subst hku
      refine v_iload_n F dX8_areApart_115 (i := 2) rfl 2 rfl (q := 116) rfl ?_
      exact hE (bI_nar _) dX8_areApart_116 (Nat.zero_le _) (Nat.zero_le _) ⟨⟨by rw [show b = spB B (fun i => nrM px py sp i N) from Bool.eq_iff_iff.mpr (hb.trans (spB_ok hBN hN12).symm)], rfl⟩, Nat.le_of_ble_eq_true rfl⟩
    · skip
      rw [nI_leI (by omega) (by omega)] at c9
      obtain ⟨d, rfl⟩ : ∃ d2, d = d2 + 1 := ⟨d - 1, by omega⟩
      have hkn : k < N := by omega
      refine v_iconst F dX8_areApart_12 (v := 0) (q := 13) rfl rfl ?_
      refine v_istore F dX8_areApart_13 (lv' := [(4, .int 0), (0, .ref y0), (1, .int (nI B)), (2, .int (bI b)), (3, .int (nI k))]) (Nat.le_of_ble_eq_true rfl) rfl (q := 15) rfl ?_
      have L15 : ∀ (d2 j : Nat) (b2 : Bool), j + d2 = k → (b2 = true ↔ (∀ p q, q < p → p < k → okP px py sp B p q = true) ∧ ∀ q, q < j → okP px py sp B k q = true) → V p l e R s m args below meth c D A 7 0 0 Q 15 [(0, .ref y0), (1, .int (nI B)), (2, .int (bI b2)), (3, .int (nI k)), (4, .int (nI j))] [] [(y0, .inr (8, [.int (nI n), .ref y1, .ref y2, .ref y3, .int sc, .int sp, .int (nI N), .ref y4, .ref y5, .ref y6, .ref y7, .ref y8, .ref y9, .ref y10, .ref y11, .ref y12, .int (nI tn), .ref y13, .ref y14, .long (zL wo), .long (zL si), .long (zL t1), .long (zL t2)])), (y1, .inl (cI, 6, .inl th)), (y2, .inl (cI, 6, .inl sd)), (y3, .inl (cI, 6, .inl tp)), (y4, .inl (cI, 12, .inl px)), (y5, .inl (cI, 12, .inl py)), (y6, .inl (cI, 12, .inl (fun i => nI (pl i)))), (y7, .inl (cI, 12, .inl pk)), (y8, .inl (cZ, 12, .inl (fun i => bI (M.testBit i)))), (y9, .inl (cI, 3, .inl (fun i => nI (ls i)))), (y10, .inl (cI, 18, .inl lv)), (y11, .inl (cI, 18, .inl lx)), (y12, .inl (cI, 18, .inl ly)), (y13, .inl (cJ, 15, .inr (.inl ab))), (y14, .inl (cJ, 15, .inr (.inl bl)))] := by
        intro d2
        induction d2 using Nat.strongRecOn with
        | _ d2 ih2 => ?_
        intro j b2 hj hb2
        refine v_iload F dX8_areApart_15 4 rfl (q := 17) rfl ?_
        refine v_iload_n F dX8_areApart_17 (i := 3) rfl 3 rfl (q := 18) rfl ?_
        refine v_icmp_ge F dX8_areApart_18 (tgt := 109) rfl (q := 21) rfl (fun c18 => ?_) (fun c18 => ?_)
        · skip
          rw [nI_leI (by omega) (by omega)] at c18
          have hju : k = j := by omega
          have hb3 := ap_out hju hb2
          refine v_iinc F dX8_areApart_109 3 rfl (v := nI (k + 1)) (lv' := [(3, .int (nI (k + 1))), (0, .ref y0), (1, .int (nI B)), (2, .int (bI b2)), (4, .int (nI j))]) (nI_1 k) (Nat.le_of_ble_eq_true rfl) rfl (q := 112) rfl ?_
          refine v_goto F dX8_areApart_112 (tgt := 4) rfl ?_
          refine v_lv (lv' := [(0, .ref y0), (1, .int (nI B)), (2, .int (bI b2)), (3, .int (nI (k + 1)))]) [1, 2, 3, 0] rfl ?_
          exact ih d (by omega) (k + 1) b2 (by omega) hb3
        · skip
          rw [nI_leI (by omega) (by omega)] at c18
          obtain ⟨d2, rfl⟩ : ∃ d3, d2 = d3 + 1 := ⟨d2 - 1, by omega⟩
          have hjn : j < N := by omega
          have hkj : k ≠ j := by omega
          refine v_aload_n F dX8_areApart_21 (i := 0) rfl 0 rfl (q := 22) rfl ?_
          refine gt_X8_19 F dX8_areApart_22 0 rfl rfl (q := 25) rfl ?_
          refine v_iload_n F dX8_areApart_25 (i := 3) rfl 3 rfl (q := 26) rfl ?_
          refine v_ialdN F 4 0 rfl rfl (j := k) (by omega) (by decide) dX8_areApart_26 (q := 27) rfl ?_
          refine v_aload_n F dX8_areApart_27 (i := 0) rfl 0 rfl (q := 28) rfl ?_
          refine gt_X8_19 F dX8_areApart_28 0 rfl rfl (q := 31) rfl ?_
          refine v_iload F dX8_areApart_31 4 rfl (q := 33) rfl ?_
          refine v_ialdN F 4 0 rfl rfl (j := j) (by omega) (by decide) dX8_areApart_33 (q := 34) rfl ?_
          refine v_isub F dX8_areApart_34 (q := 35) rfl ?_
          refine v_istore F dX8_areApart_35 (lv' := [(5, .int ((px k) - (px j))), (0, .ref y0), (1, .int (nI B)), (2, .int (bI b2)), (3, .int (nI k)), (4, .int (nI j))]) (Nat.le_of_ble_eq_true rfl) rfl (q := 37) rfl ?_
          refine v_aload_n F dX8_areApart_37 (i := 0) rfl 1 rfl (q := 38) rfl ?_
          refine gt_X8_22 F dX8_areApart_38 0 rfl rfl (q := 41) rfl ?_
          refine v_iload_n F dX8_areApart_41 (i := 3) rfl 4 rfl (q := 42) rfl ?_
          refine v_ialdN F 5 0 rfl rfl (j := k) (by omega) (by decide) dX8_areApart_42 (q := 43) rfl ?_
          refine v_aload_n F dX8_areApart_43 (i := 0) rfl 1 rfl (q := 44) rfl ?_
          refine gt_X8_22 F dX8_areApart_44 0 rfl rfl (q := 47) rfl ?_
          refine v_iload F dX8_areApart_47 5 rfl (q := 49) rfl ?_
          refine v_ialdN F 5 0 rfl rfl (j := j) (by omega) (by decide) dX8_areApart_49 (q := 50) rfl ?_
          refine v_isub F dX8_areApart_50 (q := 51) rfl ?_
          refine v_istore F dX8_areApart_51 (lv' := [(6, .int ((py k) - (py j))), (5, .int ((px k) - (px j))), (0, .ref y0), (1, .int (nI B)), (2, .int (bI b2)), (3, .int (nI k)), (4, .int (nI j))]) (Nat.le_of_ble_eq_true rfl) rfl (q := 53) rfl ?_
          refine v_iload_n F dX8_areApart_53 (i := 2) rfl 4 rfl (q := 54) rfl ?_
          refine v_if_eq F dX8_areApart_54 (tgt := 101) rfl (q := 57) rfl (fun c54 => ?_) (fun c54 => ?_)
          · skip
            rw [bI_z] at c54
            refine v_iconst F dX8_areApart_101 (v := 0) (q := 102) rfl rfl ?_
            refine v_istore_n F dX8_areApart_102 (i := 2) (lv' := [(2, .int 0), (6, .int ((py k) - (py j))), (5, .int ((px k) - (px j))), (0, .ref y0), (1, .int (nI B)), (3, .int (nI k)), (4, .int (nI j))]) rfl (Nat.le_of_ble_eq_true rfl) rfl (q := 103) rfl ?_
            refine v_iinc F dX8_areApart_103 6 rfl (v := nI (j + 1)) (lv' := [(4, .int (nI (j + 1))), (2, .int 0), (6, .int ((py k) - (py j))), (5, .int ((px k) - (px j))), (0, .ref y0), (1, .int (nI B)), (3, .int (nI k))]) (nI_1 j) (Nat.le_of_ble_eq_true rfl) rfl (q := 106) rfl ?_
            refine v_goto F dX8_areApart_106 (tgt := 15) rfl ?_
            refine v_lv (lv' := [(0, .ref y0), (1, .int (nI B)), (2, .int 0), (3, .int (nI k)), (4, .int (nI (j + 1)))]) [4, 5, 1, 6, 0] rfl ?_
            exact ih2 d2 (by omega) (j + 1) false (by omega) (ap_f c54 hb2)
          · skip
            rw [bI_nz] at c54
            refine v_iload_n F dX8_areApart_57 (i := 1) rfl 3 rfl (q := 58) rfl ?_
            refine v_iload_n F dX8_areApart_58 (i := 3) rfl 5 rfl (q := 59) rfl ?_
            refine v_ishr F dX8_areApart_59 (q := 60) rfl ?_
            refine v_iconst F dX8_areApart_60 (v := 1) (q := 61) rfl rfl ?_
            refine v_iand F dX8_areApart_61 (q := 62) rfl ?_
            refine v_int (y := bI (B.testBit k)) (sh_bit hB (by omega)) ?_
            refine v_if_eq F dX8_areApart_62 (tgt := 97) rfl (q := 65) rfl (fun c62 => ?_) (fun c62 => ?_)
            · skip
              rw [bI_z] at c62
              have hok : okP px py sp B k j = true := by unfold okP; rw [c62]; rfl
              refine v_iconst F dX8_areApart_97 (v := 1) (q := 98) rfl rfl ?_
              refine v_goto F dX8_areApart_98 (tgt := 102) rfl ?_
              refine v_istore_n F dX8_areApart_102 (i := 2) (lv' := [(2, .int 1), (6, .int ((py k) - (py j))), (5, .int ((px k) - (px j))), (0, .ref y0), (1, .int (nI B)), (3, .int (nI k)), (4, .int (nI j))]) rfl (Nat.le_of_ble_eq_true rfl) rfl (q := 103) rfl ?_
              refine v_iinc F dX8_areApart_103 6 rfl (v := nI (j + 1)) (lv' := [(4, .int (nI (j + 1))), (2, .int 1), (6, .int ((py k) - (py j))), (5, .int ((px k) - (px j))), (0, .ref y0), (1, .int (nI B)), (3, .int (nI k))]) (nI_1 j) (Nat.le_of_ble_eq_true rfl) rfl (q := 106) rfl ?_
              refine v_goto F dX8_areApart_106 (tgt := 15) rfl ?_
              refine v_lv (lv' := [(0, .ref y0), (1, .int (nI B)), (2, .int 1), (3, .int (nI k)), (4, .int (nI (j + 1)))]) [4, 5, 1, 6, 0] rfl ?_
              exact ih2 d2 (by omega) (j + 1) true (by omega) (ap_t c54 hb2 hok)
            · skip
              rw [bI_nz] at c62
              refine v_iload_n F dX8_areApart_65 (i := 1) rfl 3 rfl (q := 66) rfl ?_
              refine v_iload F dX8_areApart_66 6 rfl (q := 68) rfl ?_
              refine v_ishr F dX8_areApart_68 (q := 69) rfl ?_
              refine v_iconst F dX8_areApart_69 (v := 1) (q := 70) rfl rfl ?_
              refine v_iand F dX8_areApart_70 (q := 71) rfl ?_
              refine v_int (y := bI (B.testBit j)) (sh_bit hB (by omega)) ?_
              refine v_if_eq F dX8_areApart_71 (tgt := 97) rfl (q := 74) rfl (fun c71 => ?_) (fun c71 => ?_)
              · skip
                rw [bI_z] at c71
                have hok : okP px py sp B k j = true := by unfold okP; rw [c71, Bool.false_and, Bool.and_false]; rfl
                refine v_iconst F dX8_areApart_97 (v := 1) (q := 98) rfl rfl ?_
                refine v_goto F dX8_areApart_98 (tgt := 102) rfl ?_
                refine v_istore_n F dX8_areApart_102 (i := 2) (lv' := [(2, .int 1), (6, .int ((py k) - (py j))), (5, .int ((px k) - (px j))), (0, .ref y0), (1, .int (nI B)), (3, .int (nI k)), (4, .int (nI j))]) rfl (Nat.le_of_ble_eq_true rfl) rfl (q := 103) rfl ?_
                refine v_iinc F dX8_areApart_103 6 rfl (v := nI (j + 1)) (lv' := [(4, .int (nI (j + 1))), (2, .int 1), (6, .int ((py k) - (py j))), (5, .int ((px k) - (px j))), (0, .ref y0), (1, .int (nI B)), (3, .int (nI k))]) (nI_1 j) (Nat.le_of_ble_eq_true rfl) rfl (q := 106) rfl ?_
                refine v_goto F dX8_areApart_106 (tgt := 15) rfl ?_
                refine v_lv (lv' := [(0, .ref y0), (1, .int (nI B)), (2, .int 1), (3, .int (nI k)), (4, .int (nI (j + 1)))]) [4, 5, 1, 6, 0] rfl ?_
                exact ih2 d2 (by omega) (j + 1) true (by omega) (ap_t c54 hb2 hok)
              · skip
                rw [bI_nz] at c71
                refine v_iload F dX8_areApart_74 1 rfl (q := 76) rfl ?_
                refine v_iload F dX8_areApart_76 1 rfl (q := 78) rfl ?_
                refine v_imul F dX8_areApart_78 (q := 79) rfl ?_
                refine v_iload F dX8_areApart_79 0 rfl (q := 81) rfl ?_
                refine v_iload F dX8_areApart_81 0 rfl (q := 83) rfl ?_
                refine v_imul F dX8_areApart_83 (q := 84) rfl ?_
                refine v_iadd F dX8_areApart_84 (q := 85) rfl ?_
                refine v_aload_n F dX8_areApart_85 (i := 0) rfl 2 rfl (q := 86) rfl ?_
                refine gt_X8_65 F dX8_areApart_86 0 rfl rfl (q := 89) rfl ?_
                refine v_aload_n F dX8_areApart_89 (i := 0) rfl 2 rfl (q := 90) rfl ?_
                refine gt_X8_65 F dX8_areApart_90 0 rfl rfl (q := 93) rfl ?_
                refine v_imul F dX8_areApart_93 (q := 94) rfl ?_
                refine v_icmp_lt F dX8_areApart_94 (tgt := 101) rfl (q := 97) rfl (fun c94 => ?_) (fun c94 => ?_)
                · skip
                  have hok : okP px py sp B k j = false := by
                    have h9 : tooNear px py sp k j = true := (Bool.not_eq_false _).mp (fun z => (i32_nle.mpr c94) ((near_iff P hsp hkn hjn hkj).mpr z))
                    unfold okP; rw [c62, c71, h9]; rfl
                  refine v_iconst F dX8_areApart_101 (v := 0) (q := 102) rfl rfl ?_
                  refine v_istore_n F dX8_areApart_102 (i := 2) (lv' := [(2, .int 0), (6, .int ((py k) - (py j))), (5, .int ((px k) - (px j))), (0, .ref y0), (1, .int (nI B)), (3, .int (nI k)), (4, .int (nI j))]) rfl (Nat.le_of_ble_eq_true rfl) rfl (q := 103) rfl ?_
                  refine v_iinc F dX8_areApart_103 6 rfl (v := nI (j + 1)) (lv' := [(4, .int (nI (j + 1))), (2, .int 0), (6, .int ((py k) - (py j))), (5, .int ((px k) - (px j))), (0, .ref y0), (1, .int (nI B)), (3, .int (nI k))]) (nI_1 j) (Nat.le_of_ble_eq_true rfl) rfl (q := 106) rfl ?_
                  refine v_goto F dX8_areApart_106 (tgt := 15) rfl ?_
                  refine v_lv (lv' := [(0, .ref y0), (1, .int (nI B)), (2, .int 0), (3, .int (nI k)), (4, .int (nI (j + 1)))]) [4, 5, 1, 6, 0] rfl ?_
                  exact ih2 d2 (by omega) (j + 1) false (by omega) (ap_n (by rw [hok]; simp))
                · skip
                  have hok : okP px py sp B k j = true := by
                    have h9 := (near_iff P hsp hkn hjn hkj).mp (i32_nlt.mp c94)
                    unfold okP; rw [h9, Bool.and_false, Bool.and_false]; rfl
                  refine v_iconst F dX8_areApart_97 (v := 1) (q := 98) rfl rfl ?_
                  refine v_goto F dX8_areApart_98 (tgt := 102) rfl ?_
                  refine v_istore_n F dX8_areApart_102 (i := 2) (lv' := [(2, .int 1), (6, .int ((py k) - (py j))), (5, .int ((px k) - (px j))), (0, .ref y0), (1, .int (nI B)), (3, .int (nI k)), (4, .int (nI j))]) rfl (Nat.le_of_ble_eq_true rfl) rfl (q := 103) rfl ?_
                  refine v_iinc F dX8_areApart_103 6 rfl (v := nI (j + 1)) (lv' := [(4, .int (nI (j + 1))), (2, .int 1), (6, .int ((py k) - (py j))), (5, .int ((px k) - (px j))), (0, .ref y0), (1, .int (nI B)), (3, .int (nI k))]) (nI_1 j) (Nat.le_of_ble_eq_true rfl) rfl (q := 106) rfl ?_
                  refine v_goto F dX8_areApart_106 (tgt := 15) rfl ?_
                  refine v_lv (lv' := [(0, .ref y0), (1, .int (nI B)), (2, .int 1), (3, .int (nI k)), (4, .int (nI (j + 1)))]) [4, 5, 1, 6, 0] rfl ?_
                  exact ih2 d2 (by omega) (j + 1) true (by omega) (ap_t c54 hb2 hok)
      refine v_lv (lv' := [(0, .ref y0), (1, .int (nI B)), (2, .int (bI b)), (3, .int (nI k)), (4, .int 0)]) [1, 2, 3, 4, 0] rfl ?_
      exact L15 k 0 b (by omega) (by rw [hb]; simp)
  refine v_lv (lv' := [(0, .ref y0), (1, .int (nI B)), (2, .int 1), (3, .int 0)]) [2, 3, 1, 0] rfl ?_
  exact L4 N 0 true (by omega) (by simp)

set_option maxHeartbeats 4000000 in
set_option maxRecDepth 100000 in
theorem c_X8_holds (y0 y1 y2 y3 y4 y5 y6 y7 y8 y9 y10 y11 y12 y13 y14 : Nat) (th : Nat → Int32) (sd : Nat → Int32) (tp : Nat → Int32) (n : Nat) (sc : Int32) (sp : Int32) (px : Nat → Int32) (py : Nat → Int32) (pl : Nat → Nat) (pk : Nat → Int32) (N : Nat) (M : Nat) (ls : Nat → Nat) (lv : Nat → Int32) (lx : Nat → Int32) (ly : Nat → Int32) (ab : Nat → Int64) (bl : Nat → Int64) (tn : Nat) (wo si t1 t2 : Int) (B : Nat) (VI : INV (th, sd, tp, n, sc, sp, px, py, pl, pk, N, M, ls, lv, lx, ly, ab, bl, tn)) (hB : B < 4096) (hBN : B < 2 ^ N) : Ct l D (TY cI cJ cZ) yX8_holds cX8_holds 5 (some .boolean) 5 112 0 0 [.ref y0, .int (nI B)] [(y0, .inr (8, [.int (nI n), .ref y1, .ref y2, .ref y3, .int sc, .int sp, .int (nI N), .ref y4, .ref y5, .ref y6, .ref y7, .ref y8, .ref y9, .ref y10, .ref y11, .ref y12, .int (nI tn), .ref y13, .ref y14, .long (zL wo), .long (zL si), .long (zL t1), .long (zL t2)])), (y1, .inl (cI, 6, .inl th)), (y2, .inl (cI, 6, .inl sd)), (y3, .inl (cI, 6, .inl tp)), (y4, .inl (cI, 12, .inl px)), (y5, .inl (cI, 12, .inl py)), (y6, .inl (cI, 12, .inl (fun i => nI (pl i)))), (y7, .inl (cI, 12, .inl pk)), (y8, .inl (cZ, 12, .inl (fun i => bI (M.testBit i)))), (y9, .inl (cI, 3, .inl (fun i => nI (ls i)))), (y10, .inl (cI, 18, .inl lv)), (y11, .inl (cI, 18, .inl lx)), (y12, .inl (cI, 18, .inl ly)), (y13, .inl (cJ, 15, .inr (.inl ab))), (y14, .inl (cJ, 15, .inr (.inl bl)))] (fun r w => ∃ (v1 v2 v3 v4 : Int), r = some (.int (bI (hoB th sd tp n sc pl pk px py N ls lv lx ly sp B))) ∧ w = [(y0, .inr (8, [.int (nI n), .ref y1, .ref y2, .ref y3, .int sc, .int sp, .int (nI N), .ref y4, .ref y5, .ref y6, .ref y7, .ref y8, .ref y9, .ref y10, .ref y11, .ref y12, .int (nI tn), .ref y13, .ref y14, .long (zL v1), .long (zL v2), .long (zL v3), .long (zL v4)])), (y1, .inl (cI, 6, .inl th)), (y2, .inl (cI, 6, .inl sd)), (y3, .inl (cI, 6, .inl tp)), (y4, .inl (cI, 12, .inl px)), (y5, .inl (cI, 12, .inl py)), (y6, .inl (cI, 12, .inl (fun i => nI (pl i)))), (y7, .inl (cI, 12, .inl pk)), (y8, .inl (cZ, 12, .inl (fun i => bI (M.testBit i)))), (y9, .inl (cI, 3, .inl (fun i => nI (ls i)))), (y10, .inl (cI, 18, .inl lv)), (y11, .inl (cI, 18, .inl lx)), (y12, .inl (cI, 18, .inl ly)), (y13, .inl (cJ, 15, .inr (.inl ab))), (y14, .inl (cJ, 15, .inr (.inl bl)))]) := by
  refine Ct.ofI (ty := .boolean) (by decide) (Nat.le_of_ble_eq_true rfl) ?_
  intro p e s m args below meth c A R Q F hnm hcs0 hE
  refine v_lv (lv' := [(0, .ref y0), (1, .int (nI B))]) [0, 1] rfl ?_
  obtain ⟨G, hsp, P, hM, hls, hlv, hlx, hly, htn⟩ := id VI
  have hn6 := G.1
  have hN12 := P.1
  have hM4 : M < 4096 := Nat.lt_of_lt_of_le hM (Nat.pow_le_pow_right (by omega) hN12)
  refine v_aload_n F dX8_holds_0 (i := 0) rfl 0 rfl (q := 1) rfl ?_
  refine v_iload_n F dX8_holds_1 (i := 1) rfl 1 rfl (q := 2) rfl ?_
  refine v_callV F ml_X8_140 im_X8_areApart se_X8_areApart in_X8 co_X8_areApart sd_X8_areApart (c_X8_areApart y0 y1 y2 y3 y4 y5 y6 y7 y8 y9 y10 y11 y12 y13 y14 th sd tp n sc sp px py pl pk N M ls lv lx ly ab bl tn wo si t1 t2 B ⟨G, hsp, P, hM, hls, hlv, hlx, hly, by omega⟩ hB hBN) ⟨Nat.zero_le _, Nat.zero_le _⟩ (Nat.le_of_ble_eq_true rfl) (Nat.le_of_ble_eq_true rfl) 0 (As := [.int (nI B)]) rfl rfl rfl rfl rfl [0, 1, 2, 3, 4, 5, 6, 7, 8, 9, 10, 11, 12, 13, 14] rfl nd15 vnd15 (rest := []) rfl (Nat.le_of_ble_eq_true rfl) dX8_holds_2 (q := 5) rfl (fun r w hr => ?_)
  obtain ⟨rfl, rfl⟩ := hr
  refine v_ws (ws' := [(y0, .inr (8, [.int (nI n), .ref y1, .ref y2, .ref y3, .int sc, .int sp, .int (nI N), .ref y4, .ref y5, .ref y6, .ref y7, .ref y8, .ref y9, .ref y10, .ref y11, .ref y12, .int (nI tn), .ref y13, .ref y14, .long (zL wo), .long (zL si), .long (zL t1), .long (zL t2)])), (y1, .inl (cI, 6, .inl th)), (y2, .inl (cI, 6, .inl sd)), (y3, .inl (cI, 6, .inl tp)), (y4, .inl (cI, 12, .inl px)), (y5, .inl (cI, 12, .inl py)), (y6, .inl (cI, 12, .inl (fun i => nI (pl i)))), (y7, .inl (cI, 12, .inl pk)), (y8, .inl (cZ, 12, .inl (fun i => bI (M.testBit i)))), (y9, .inl (cI, 3, .inl (fun i => nI (ls i)))), (y10, .inl (cI, 18, .inl lv)), (y11, .inl (cI, 18, .inl lx)), (y12, .inl (cI, 18, .inl ly)), (y13, .inl (cJ, 15, .inr (.inl ab))), (y14, .inl (cJ, 15, .inr (.inl bl)))]) ((wset_wgo (nodup_of nd15) rfl).trans rfl) ?_
  refine v_st (st' := [.int (bI (spB B (fun i => nrM px py sp i N)))]) rfl ?_
  refine v_istore_n F dX8_holds_5 (i := 2) (lv' := [(2, .int (bI (spB B (fun i => nrM px py sp i N)))), (0, .ref y0), (1, .int (nI B))]) rfl (Nat.le_of_ble_eq_true rfl) rfl (q := 6) rfl ?_
  refine v_iconst F dX8_holds_6 (v := 0) (q := 7) rfl rfl ?_
  refine v_istore_n F dX8_holds_7 (i := 3) (lv' := [(3, .int 0), (2, .int (bI (spB B (fun i => nrM px py sp i N)))), (0, .ref y0), (1, .int (nI B))]) rfl (Nat.le_of_ble_eq_true rfl) rfl (q := 8) rfl ?_
  have L8 : ∀ (d k : Nat) (b : Bool) (x0 x1 x2 x3 : Int), k + d = 3 → (b = true ↔ HPk (spB B (fun i => nrM px py sp i N)) (dDE pk px py B N) (hoC th sd tp n sc pl pk px py N ls lv lx ly B) k) → V p l e R s m args below meth c D A 5 0 0 Q 8 [(0, .ref y0), (1, .int (nI B)), (2, .int (bI b)), (3, .int (nI k))] [] [(y0, .inr (8, [.int (nI n), .ref y1, .ref y2, .ref y3, .int sc, .int sp, .int (nI N), .ref y4, .ref y5, .ref y6, .ref y7, .ref y8, .ref y9, .ref y10, .ref y11, .ref y12, .int (nI tn), .ref y13, .ref y14, .long (zL x0), .long (zL x1), .long (zL x2), .long (zL x3)])), (y1, .inl (cI, 6, .inl th)), (y2, .inl (cI, 6, .inl sd)), (y3, .inl (cI, 6, .inl tp)), (y4, .inl (cI, 12, .inl px)), (y5, .inl (cI, 12, .inl py)), (y6, .inl (cI, 12, .inl (fun i => nI (pl i)))), (y7, .inl (cI, 12, .inl pk)), (y8, .inl (cZ, 12, .inl (fun i => bI (M.testBit i)))), (y9, .inl (cI, 3, .inl (fun i => nI (ls i)))), (y10, .inl (cI, 18, .inl lv)), (y11, .inl (cI, 18, .inl lx)), (y12, .inl (cI, 18, .inl ly)), (y13, .inl (cJ, 15, .inr (.inl ab))), (y14, .inl (cJ, 15, .inr (.inl bl)))] := by
    intro d
    induction d using Nat.strongRecOn with
    | _ d ih => ?_
    intro k b x0 x1 x2 x3 hk hb
    refine v_iload_n F dX8_holds_8 (i := 3) rfl 3 rfl (q := 9) rfl ?_
    refine v_iconst F dX8_holds_9 (v := 3) (q := 10) rfl rfl ?_
    refine v_icmp_ge F dX8_holds_10 (tgt := 76) rfl (q := 13) rfl (fun c10 => ?_) (fun c10 => ?_)
    · skip
      rw [show (3 : Int32) = nI 3 from rfl, nI_leI (by omega) (by omega)] at c10
      have hk3 : 3 = k := by omega
      subst hk3
      refine v_iload_n F dX8_holds_76 (i := 2) rfl 2 rfl (q := 77) rfl ?_
      exact hE (bI_nar _) dX8_holds_77 (Nat.zero_le _) (Nat.zero_le _) ⟨⟨x0, x1, x2, x3, by rw [← ho_b hb], rfl⟩, Nat.le_of_ble_eq_true rfl⟩
    · skip
      rw [show (3 : Int32) = nI 3 from rfl, nI_leI (by omega) (by omega)] at c10
      obtain ⟨d, rfl⟩ : ∃ d2, d = d2 + 1 := ⟨d - 1, by omega⟩
      have hk3 : k < 3 := by omega
      refine v_iload_n F dX8_holds_13 (i := 2) rfl 2 rfl (q := 14) rfl ?_
      refine v_if_eq F dX8_holds_14 (tgt := 76) rfl (q := 17) rfl (fun c14 => ?_) (fun c14 => ?_)
      · skip
        rw [bI_z] at c14
        refine v_iload_n F dX8_holds_76 (i := 2) rfl 2 rfl (q := 77) rfl ?_
        exact hE (bI_nar _) dX8_holds_77 (Nat.zero_le _) (Nat.zero_le _) ⟨⟨x0, x1, x2, x3, by rw [← ho_bf (by omega) hb c14], rfl⟩, Nat.le_of_ble_eq_true rfl⟩
      · skip
        rw [bI_nz] at c14
        refine v_aload_n F dX8_holds_17 (i := 0) rfl 0 rfl (q := 18) rfl ?_
        refine v_iload_n F dX8_holds_18 (i := 1) rfl 1 rfl (q := 19) rfl ?_
        refine v_iload_n F dX8_holds_19 (i := 3) rfl 3 rfl (q := 20) rfl ?_
        refine v_callV F ml_X8_119 im_X8_solves se_X8_solves in_X8 co_X8_solves sd_X8_solves (c_X8_solves y0 y1 y2 y3 y4 y5 y6 y7 y8 y9 y10 y11 y12 y13 y14 th sd tp n sc sp px py pl pk N M ls lv lx ly ab bl tn x0 x1 x2 x3 B k ⟨G, hsp, P, hM, hls, hlv, hlx, hly, by omega⟩ (by omega) (by omega)) ⟨Nat.zero_le _, Nat.zero_le _⟩ (Nat.le_of_ble_eq_true rfl) (Nat.le_of_ble_eq_true rfl) 0 (As := [.int (nI B), .int (nI k)]) rfl rfl rfl rfl rfl [0, 1, 2, 3, 4, 5, 6, 7, 8, 9, 10, 11, 12, 13, 14] rfl nd15 vnd15 (rest := []) rfl (Nat.le_of_ble_eq_true rfl) dX8_holds_20 (q := 23) rfl (fun r w hr => ?_)
        rcases hr with ⟨hs2, rfl, rfl⟩ | ⟨hs2, rfl, rfl⟩
        · skip
          refine v_ws (ws' := [(y0, .inr (8, [.int (nI n), .ref y1, .ref y2, .ref y3, .int sc, .int sp, .int (nI N), .ref y4, .ref y5, .ref y6, .ref y7, .ref y8, .ref y9, .ref y10, .ref y11, .ref y12, .int (nI tn), .ref y13, .ref y14, .long (zL (dDE pk px py B N)), .long (zL x1), .long (zL x2), .long (zL x3)])), (y1, .inl (cI, 6, .inl th)), (y2, .inl (cI, 6, .inl sd)), (y3, .inl (cI, 6, .inl tp)), (y4, .inl (cI, 12, .inl px)), (y5, .inl (cI, 12, .inl py)), (y6, .inl (cI, 12, .inl (fun i => nI (pl i)))), (y7, .inl (cI, 12, .inl pk)), (y8, .inl (cZ, 12, .inl (fun i => bI (M.testBit i)))), (y9, .inl (cI, 3, .inl (fun i => nI (ls i)))), (y10, .inl (cI, 18, .inl lv)), (y11, .inl (cI, 18, .inl lx)), (y12, .inl (cI, 18, .inl ly)), (y13, .inl (cJ, 15, .inr (.inl ab))), (y14, .inl (cJ, 15, .inr (.inl bl)))]) ((wset_wgo (nodup_of nd15) rfl).trans rfl) ?_
          refine v_st (st' := [.int 0]) rfl ?_
          refine v_istore_n F dX8_holds_23 (i := 2) (lv' := [(2, .int 0), (0, .ref y0), (1, .int (nI B)), (3, .int (nI k))]) rfl (Nat.le_of_ble_eq_true rfl) rfl (q := 24) rfl ?_
          refine v_iconst F dX8_holds_24 (v := 0) (q := 25) rfl rfl ?_
          refine v_istore F dX8_holds_25 (lv' := [(4, .int 0), (2, .int 0), (0, .ref y0), (1, .int (nI B)), (3, .int (nI k))]) (Nat.le_of_ble_eq_true rfl) rfl (q := 27) rfl ?_
          refine v_iload F dX8_holds_27 0 rfl (q := 29) rfl ?_
          refine v_aload_n F dX8_holds_29 (i := 0) rfl 2 rfl (q := 30) rfl ?_
          refine gt_X8_75 F dX8_holds_30 0 rfl rfl (q := 33) rfl ?_
          refine v_icmp_ge F dX8_holds_33 (tgt := 70) rfl (q := 36) rfl (fun c33 => ?_) (fun c33 => ?_)
          · skip
            refine v_iinc F dX8_holds_70 4 rfl (v := nI (k + 1)) (lv' := [(3, .int (nI (k + 1))), (4, .int 0), (2, .int 0), (0, .ref y0), (1, .int (nI B))]) (nI_1 k) (Nat.le_of_ble_eq_true rfl) rfl (q := 73) rfl ?_
            refine v_goto F dX8_holds_73 (tgt := 8) rfl ?_
            refine v_lv (lv' := [(0, .ref y0), (1, .int (nI B)), (2, .int 0), (3, .int (nI (k + 1)))]) [3, 4, 2, 0] rfl ?_
            exact ih d (by omega) (k + 1) false (dDE pk px py B N) x1 x2 x3 (by omega) (HP_no (b := b) hs2)
          · skip
            refine v_iload_n F dX8_holds_36 (i := 2) rfl 1 rfl (q := 37) rfl ?_
            refine v_if_eq F dX8_holds_37 (tgt := 70) rfl (q := 40) rfl (fun c37 => ?_) (fun c37 => ?_)
            · skip
              refine v_iinc F dX8_holds_70 4 rfl (v := nI (k + 1)) (lv' := [(3, .int (nI (k + 1))), (4, .int 0), (2, .int 0), (0, .ref y0), (1, .int (nI B))]) (nI_1 k) (Nat.le_of_ble_eq_true rfl) rfl (q := 73) rfl ?_
              refine v_goto F dX8_holds_73 (tgt := 8) rfl ?_
              refine v_lv (lv' := [(0, .ref y0), (1, .int (nI B)), (2, .int 0), (3, .int (nI (k + 1)))]) [3, 4, 2, 0] rfl ?_
              exact ih d (by omega) (k + 1) false (dDE pk px py B N) x1 x2 x3 (by omega) (HP_no (b := b) hs2)
            · exact absurd rfl c37
        · skip
          refine v_ws (ws' := [(y0, .inr (8, [.int (nI n), .ref y1, .ref y2, .ref y3, .int sc, .int sp, .int (nI N), .ref y4, .ref y5, .ref y6, .ref y7, .ref y8, .ref y9, .ref y10, .ref y11, .ref y12, .int (nI tn), .ref y13, .ref y14, .long (zL (dDE pk px py B N)), .long (zL (cWi pk px py B N ls lv lx ly k)), .long (zL (cPi pk px py B N ls lv lx ly k)), .long (zL (cQi pk px py B N ls lv lx ly k))])), (y1, .inl (cI, 6, .inl th)), (y2, .inl (cI, 6, .inl sd)), (y3, .inl (cI, 6, .inl tp)), (y4, .inl (cI, 12, .inl px)), (y5, .inl (cI, 12, .inl py)), (y6, .inl (cI, 12, .inl (fun i => nI (pl i)))), (y7, .inl (cI, 12, .inl pk)), (y8, .inl (cZ, 12, .inl (fun i => bI (M.testBit i)))), (y9, .inl (cI, 3, .inl (fun i => nI (ls i)))), (y10, .inl (cI, 18, .inl lv)), (y11, .inl (cI, 18, .inl lx)), (y12, .inl (cI, 18, .inl ly)), (y13, .inl (cJ, 15, .inr (.inl ab))), (y14, .inl (cJ, 15, .inr (.inl bl)))]) ((wset_wgo (nodup_of nd15) rfl).trans rfl) ?_
          refine v_st (st' := [.int 1]) rfl ?_
          have hR := shB_rng P hls hlv hlx hly B k
          have hDR := (d_rng P B).2.2.2.2.2.2
          refine v_istore_n F dX8_holds_23 (i := 2) (lv' := [(2, .int 1), (0, .ref y0), (1, .int (nI B)), (3, .int (nI k))]) rfl (Nat.le_of_ble_eq_true rfl) rfl (q := 24) rfl ?_
          refine v_iconst F dX8_holds_24 (v := 0) (q := 25) rfl rfl ?_
          refine v_istore F dX8_holds_25 (lv' := [(4, .int 0), (2, .int 1), (0, .ref y0), (1, .int (nI B)), (3, .int (nI k))]) (Nat.le_of_ble_eq_true rfl) rfl (q := 27) rfl ?_
          have L27 : ∀ (d2 p1 : Nat) (b2 : Bool), p1 + d2 = N → (b2 = true ↔ ∀ p, p < p1 → B.testBit p = true → (fun kk => ovK th sd tp n sc pl (dDE pk px py B N) (shB pk px py B N ls lv lx ly k kk) kk) p = false) → V p l e R s m args below meth c D A 5 0 0 Q 27 [(0, .ref y0), (1, .int (nI B)), (2, .int (bI b2)), (3, .int (nI k)), (4, .int (nI p1))] [] [(y0, .inr (8, [.int (nI n), .ref y1, .ref y2, .ref y3, .int sc, .int sp, .int (nI N), .ref y4, .ref y5, .ref y6, .ref y7, .ref y8, .ref y9, .ref y10, .ref y11, .ref y12, .int (nI tn), .ref y13, .ref y14, .long (zL (dDE pk px py B N)), .long (zL (cWi pk px py B N ls lv lx ly k)), .long (zL (cPi pk px py B N ls lv lx ly k)), .long (zL (cQi pk px py B N ls lv lx ly k))])), (y1, .inl (cI, 6, .inl th)), (y2, .inl (cI, 6, .inl sd)), (y3, .inl (cI, 6, .inl tp)), (y4, .inl (cI, 12, .inl px)), (y5, .inl (cI, 12, .inl py)), (y6, .inl (cI, 12, .inl (fun i => nI (pl i)))), (y7, .inl (cI, 12, .inl pk)), (y8, .inl (cZ, 12, .inl (fun i => bI (M.testBit i)))), (y9, .inl (cI, 3, .inl (fun i => nI (ls i)))), (y10, .inl (cI, 18, .inl lv)), (y11, .inl (cI, 18, .inl lx)), (y12, .inl (cI, 18, .inl ly)), (y13, .inl (cJ, 15, .inr (.inl ab))), (y14, .inl (cJ, 15, .inr (.inl bl)))] := by
            intro d2
            induction d2 using Nat.strongRecOn with
            | _ d2 ih2 => ?_
            intro p1 b2 hp hb2
            refine v_iload F dX8_holds_27 4 rfl (q := 29) rfl ?_
            refine v_aload_n F dX8_holds_29 (i := 0) rfl 0 rfl (q := 30) rfl ?_
            refine gt_X8_75 F dX8_holds_30 0 rfl rfl (q := 33) rfl ?_
            refine v_icmp_ge F dX8_holds_33 (tgt := 70) rfl (q := 36) rfl (fun c33 => ?_) (fun c33 => ?_)
            · skip
              rw [nI_leI (by omega) (by omega)] at c33
              have hpu : N = p1 := by omega
              subst hpu
              have hcc : b2 = true ↔ (hoC th sd tp n sc pl pk px py N ls lv lx ly B) k = true := by unfold hoC; rw [decide_eq_true_eq, ovM_iff]; exact hb2
              refine v_iinc F dX8_holds_70 3 rfl (v := nI (k + 1)) (lv' := [(3, .int (nI (k + 1))), (0, .ref y0), (1, .int (nI B)), (2, .int (bI b2)), (4, .int (nI N))]) (nI_1 k) (Nat.le_of_ble_eq_true rfl) rfl (q := 73) rfl ?_
              refine v_goto F dX8_holds_73 (tgt := 8) rfl ?_
              refine v_lv (lv' := [(0, .ref y0), (1, .int (nI B)), (2, .int (bI b2)), (3, .int (nI (k + 1)))]) [1, 2, 3, 0] rfl ?_
              exact ih d (by omega) (k + 1) b2 (dDE pk px py B N) (cWi pk px py B N ls lv lx ly k) (cPi pk px py B N ls lv lx ly k) (cQi pk px py B N ls lv lx ly k) (by omega) (HP_s hb c14 hs2 hcc)
            · skip
              rw [nI_leI (by omega) (by omega)] at c33
              obtain ⟨d2, rfl⟩ : ∃ d3, d2 = d3 + 1 := ⟨d2 - 1, by omega⟩
              have hpn : p1 < N := by omega
              refine v_iload_n F dX8_holds_36 (i := 2) rfl 2 rfl (q := 37) rfl ?_
              refine v_if_eq F dX8_holds_37 (tgt := 70) rfl (q := 40) rfl (fun c37 => ?_) (fun c37 => ?_)
              · skip
                rw [bI_z] at c37
                have hcc : b2 = true ↔ (hoC th sd tp n sc pl pk px py N ls lv lx ly B) k = true := by
                  unfold hoC; rw [decide_eq_true_eq, ovM_iff]
                  exact ⟨fun z => (by rw [c37] at z; cases z), fun z => hb2.mpr (fun p hp9 => z p (by omega))⟩
                refine v_iinc F dX8_holds_70 3 rfl (v := nI (k + 1)) (lv' := [(3, .int (nI (k + 1))), (0, .ref y0), (1, .int (nI B)), (2, .int (bI b2)), (4, .int (nI p1))]) (nI_1 k) (Nat.le_of_ble_eq_true rfl) rfl (q := 73) rfl ?_
                refine v_goto F dX8_holds_73 (tgt := 8) rfl ?_
                refine v_lv (lv' := [(0, .ref y0), (1, .int (nI B)), (2, .int (bI b2)), (3, .int (nI (k + 1)))]) [1, 2, 3, 0] rfl ?_
                exact ih d (by omega) (k + 1) b2 (dDE pk px py B N) (cWi pk px py B N ls lv lx ly k) (cPi pk px py B N ls lv lx ly k) (cQi pk px py B N ls lv lx ly k) (by omega) (HP_s hb c14 hs2 hcc)
              · skip
                rw [bI_nz] at c37
                refine v_iload_n F dX8_holds_40 (i := 1) rfl 1 rfl (q := 41) rfl ?_
                refine v_iload F dX8_holds_41 4 rfl (q := 43) rfl ?_
                refine v_ishr F dX8_holds_43 (q := 44) rfl ?_
                refine v_iconst F dX8_holds_44 (v := 1) (q := 45) rfl rfl ?_
                refine v_iand F dX8_holds_45 (q := 46) rfl ?_
                refine v_int (y := bI (B.testBit p1)) (sh_bit hB (by omega)) ?_
                refine v_if_eq F dX8_holds_46 (tgt := 58) rfl (q := 49) rfl (fun c46 => ?_) (fun c46 => ?_)
                · skip
                  rw [bI_z] at c46
                  refine v_iconst F dX8_holds_58 (v := 1) (q := 59) rfl rfl ?_
                  refine v_goto F dX8_holds_59 (tgt := 63) rfl ?_
                  refine v_istore_n F dX8_holds_63 (i := 2) (lv' := [(2, .int 1), (0, .ref y0), (1, .int (nI B)), (3, .int (nI k)), (4, .int (nI p1))]) rfl (Nat.le_of_ble_eq_true rfl) rfl (q := 64) rfl ?_
                  refine v_iinc F dX8_holds_64 4 rfl (v := nI (p1 + 1)) (lv' := [(4, .int (nI (p1 + 1))), (2, .int 1), (0, .ref y0), (1, .int (nI B)), (3, .int (nI k))]) (nI_1 p1) (Nat.le_of_ble_eq_true rfl) rfl (q := 67) rfl ?_
                  refine v_goto F dX8_holds_67 (tgt := 27) rfl ?_
                  refine v_lv (lv' := [(0, .ref y0), (1, .int (nI B)), (2, .int 1), (3, .int (nI k)), (4, .int (nI (p1 + 1)))]) [2, 3, 1, 4, 0] rfl ?_
                  exact ih2 d2 (by omega) (p1 + 1) true (by omega) (hp_t c37 hb2 (fun z => by rw [c46] at z; cases z))
                · skip
                  rw [bI_nz] at c46
                  refine v_aload_n F dX8_holds_49 (i := 0) rfl 0 rfl (q := 50) rfl ?_
                  refine v_iload F dX8_holds_50 4 rfl (q := 52) rfl ?_
                  refine v_callV F ml_X8_133 im_X8_isOver se_X8_isOver in_X8 co_X8_isOver sd_X8_isOver (c_X8_isOver y0 y1 y2 y3 y4 y5 y6 y7 y8 y9 y10 y11 y12 y13 y14 th sd tp n sc sp px py pl pk N M ls lv lx ly ab bl tn (dDE pk px py B N) (cWi pk px py B N ls lv lx ly k) (cPi pk px py B N ls lv lx ly k) (cQi pk px py B N ls lv lx ly k) p1 ⟨G, hsp, P, hM, hls, hlv, hlx, hly, by omega⟩ (by omega) ⟨hs2, hDR.2⟩ (hR.2.2.2 p1 (by omega))) ⟨Nat.zero_le _, Nat.zero_le _⟩ (Nat.le_of_ble_eq_true rfl) (Nat.le_of_ble_eq_true rfl) 0 (As := [.int (nI p1)]) rfl rfl rfl rfl rfl [0, 1, 2, 3, 4, 5, 6, 7, 8, 9, 10, 11, 12, 13, 14] rfl nd15 vnd15 (rest := []) rfl (Nat.le_of_ble_eq_true rfl) dX8_holds_52 (q := 55) rfl (fun r w hr => ?_)
                  obtain ⟨rfl, rfl⟩ := hr
                  refine v_ws (ws' := [(y0, .inr (8, [.int (nI n), .ref y1, .ref y2, .ref y3, .int sc, .int sp, .int (nI N), .ref y4, .ref y5, .ref y6, .ref y7, .ref y8, .ref y9, .ref y10, .ref y11, .ref y12, .int (nI tn), .ref y13, .ref y14, .long (zL (dDE pk px py B N)), .long (zL (cWi pk px py B N ls lv lx ly k)), .long (zL (cPi pk px py B N ls lv lx ly k)), .long (zL (cQi pk px py B N ls lv lx ly k))])), (y1, .inl (cI, 6, .inl th)), (y2, .inl (cI, 6, .inl sd)), (y3, .inl (cI, 6, .inl tp)), (y4, .inl (cI, 12, .inl px)), (y5, .inl (cI, 12, .inl py)), (y6, .inl (cI, 12, .inl (fun i => nI (pl i)))), (y7, .inl (cI, 12, .inl pk)), (y8, .inl (cZ, 12, .inl (fun i => bI (M.testBit i)))), (y9, .inl (cI, 3, .inl (fun i => nI (ls i)))), (y10, .inl (cI, 18, .inl lv)), (y11, .inl (cI, 18, .inl lx)), (y12, .inl (cI, 18, .inl ly)), (y13, .inl (cJ, 15, .inr (.inl ab))), (y14, .inl (cJ, 15, .inr (.inl bl)))]) ((wset_wgo (nodup_of nd15) rfl).trans rfl) ?_
                  refine v_st (st' := [.int (bI (ovK th sd tp n sc pl (dDE pk px py B N) (shI pk px py (cWi pk px py B N ls lv lx ly k) (cPi pk px py B N ls lv lx ly k) (cQi pk px py B N ls lv lx ly k) p1) p1))]) rfl ?_
                  refine v_if_ne F dX8_holds_55 (tgt := 62) rfl (q := 58) rfl (fun c55 => ?_) (fun c55 => ?_)
                  · skip
                    rw [bI_nz] at c55
                    refine v_iconst F dX8_holds_62 (v := 0) (q := 63) rfl rfl ?_
                    refine v_istore_n F dX8_holds_63 (i := 2) (lv' := [(2, .int 0), (0, .ref y0), (1, .int (nI B)), (3, .int (nI k)), (4, .int (nI p1))]) rfl (Nat.le_of_ble_eq_true rfl) rfl (q := 64) rfl ?_
                    refine v_iinc F dX8_holds_64 4 rfl (v := nI (p1 + 1)) (lv' := [(4, .int (nI (p1 + 1))), (2, .int 0), (0, .ref y0), (1, .int (nI B)), (3, .int (nI k))]) (nI_1 p1) (Nat.le_of_ble_eq_true rfl) rfl (q := 67) rfl ?_
                    refine v_goto F dX8_holds_67 (tgt := 27) rfl ?_
                    refine v_lv (lv' := [(0, .ref y0), (1, .int (nI B)), (2, .int 0), (3, .int (nI k)), (4, .int (nI (p1 + 1)))]) [2, 3, 1, 4, 0] rfl ?_
                    exact ih2 d2 (by omega) (p1 + 1) false (by omega) (hp_n c46 c55)
                  · skip
                    rw [bI_z] at c55
                    refine v_iconst F dX8_holds_58 (v := 1) (q := 59) rfl rfl ?_
                    refine v_goto F dX8_holds_59 (tgt := 63) rfl ?_
                    refine v_istore_n F dX8_holds_63 (i := 2) (lv' := [(2, .int 1), (0, .ref y0), (1, .int (nI B)), (3, .int (nI k)), (4, .int (nI p1))]) rfl (Nat.le_of_ble_eq_true rfl) rfl (q := 64) rfl ?_
                    refine v_iinc F dX8_holds_64 4 rfl (v := nI (p1 + 1)) (lv' := [(4, .int (nI (p1 + 1))), (2, .int 1), (0, .ref y0), (1, .int (nI B)), (3, .int (nI k))]) (nI_1 p1) (Nat.le_of_ble_eq_true rfl) rfl (q := 67) rfl ?_
                    refine v_goto F dX8_holds_67 (tgt := 27) rfl ?_
                    refine v_lv (lv' := [(0, .ref y0), (1, .int (nI B)), (2, .int 1), (3, .int (nI k)), (4, .int (nI (p1 + 1)))]) [2, 3, 1, 4, 0] rfl ?_
                    exact ih2 d2 (by omega) (p1 + 1) true (by omega) (hp_t c37 hb2 (fun _ => c55))
          refine v_lv (lv' := [(0, .ref y0), (1, .int (nI B)), (2, .int 1), (3, .int (nI k)), (4, .int 0)]) [2, 3, 1, 4, 0] rfl ?_
          exact L27 N 0 true (by omega) ⟨fun _ p hp9 => absurd hp9 (Nat.not_lt_zero _), fun _ => rfl⟩
  refine v_lv (lv' := [(0, .ref y0), (1, .int (nI B)), (2, .int (bI (spB B (fun i => nrM px py sp i N)))), (3, .int 0)]) [2, 3, 1, 0] rfl ?_
  exact L8 3 0 _ wo si t1 t2 (by omega) ⟨fun z => ⟨⟨z, fun q => absurd q (by omega)⟩, fun j hj => absurd hj (Nat.not_lt_zero _)⟩, fun z => z.1.1⟩

set_option maxHeartbeats 4000000 in
set_option maxRecDepth 100000 in
theorem c_X8_least (y0 y1 y2 y3 y4 y5 y6 y7 y8 y9 y10 y11 y12 y13 y14 : Nat) (th : Nat → Int32) (sd : Nat → Int32) (tp : Nat → Int32) (n : Nat) (sc : Int32) (sp : Int32) (px : Nat → Int32) (py : Nat → Int32) (pl : Nat → Nat) (pk : Nat → Int32) (N : Nat) (M : Nat) (ls : Nat → Nat) (lv : Nat → Int32) (lx : Nat → Int32) (ly : Nat → Int32) (ab : Nat → Int64) (bl : Nat → Int64) (tn : Nat) (wo si t1 t2 : Int)  (VI : INV (th, sd, tp, n, sc, sp, px, py, pl, pk, N, M, ls, lv, lx, ly, ab, bl, tn)) : Ct l D (TY cI cJ cZ) yX8_least cX8_least 4 (some .int) 6 136 0 0 [.ref y0] [(y0, .inr (8, [.int (nI n), .ref y1, .ref y2, .ref y3, .int sc, .int sp, .int (nI N), .ref y4, .ref y5, .ref y6, .ref y7, .ref y8, .ref y9, .ref y10, .ref y11, .ref y12, .int (nI tn), .ref y13, .ref y14, .long (zL wo), .long (zL si), .long (zL t1), .long (zL t2)])), (y1, .inl (cI, 6, .inl th)), (y2, .inl (cI, 6, .inl sd)), (y3, .inl (cI, 6, .inl tp)), (y4, .inl (cI, 12, .inl px)), (y5, .inl (cI, 12, .inl py)), (y6, .inl (cI, 12, .inl (fun i => nI (pl i)))), (y7, .inl (cI, 12, .inl pk)), (y8, .inl (cZ, 12, .inl (fun i => bI (M.testBit i)))), (y9, .inl (cI, 3, .inl (fun i => nI (ls i)))), (y10, .inl (cI, 18, .inl lv)), (y11, .inl (cI, 18, .inl lx)), (y12, .inl (cI, 18, .inl ly)), (y13, .inl (cJ, 15, .inr (.inl ab))), (y14, .inl (cJ, 15, .inr (.inl bl)))] (fun r w => ∃ X : Int × Int × Int × Int, r = some (.int (fLeast (th, sd, tp, n, sc, sp, px, py, pl, pk, N, M, ls, lv, lx, ly, ab, bl, tn)).1) ∧ w = WM cI cJ cZ y0 y1 y2 y3 y4 y5 y6 y7 y8 y9 y10 y11 y12 y13 y14 (fLeast (th, sd, tp, n, sc, sp, px, py, pl, pk, N, M, ls, lv, lx, ly, ab, bl, tn)).2 X) := by
  refine Ct.ofI (ty := .int) (by decide) (Nat.le_of_ble_eq_true rfl) ?_
  intro p e s m args below meth c A R Q F hnm hcs0 hE
  refine v_lv (lv' := [(0, .ref y0)]) [0] rfl ?_
  obtain ⟨G, hsp, P, hM, hls, hlv, hlx, hly, htn⟩ := id VI
  have hn6 := G.1
  have hN12 := P.1
  have hM4 : M < 4096 := Nat.lt_of_lt_of_le hM (Nat.pow_le_pow_right (by omega) hN12)
  have hp12 := popc_le M
  refine v_aload_n F dX8_least_0 (i := 0) rfl 0 rfl (q := 1) rfl ?_
  refine v_callV F ml_X8_115 im_X8_wholeSet se_X8_wholeSet in_X8 co_X8_wholeSet sd_X8_wholeSet (c_X8_wholeSet y0 y1 y2 y3 y4 y5 y6 y7 y8 y9 y10 y11 y12 y13 y14 th sd tp n sc sp px py pl pk N M ls lv lx ly ab bl tn wo si t1 t2  ⟨G, hsp, P, hM, hls, hlv, hlx, hly, by omega⟩ ) ⟨Nat.zero_le _, Nat.zero_le _⟩ (Nat.le_of_ble_eq_true rfl) (Nat.le_of_ble_eq_true rfl) 0 (As := []) rfl rfl rfl rfl rfl [0, 1, 2, 3, 4, 5, 6, 7, 8, 9, 10, 11, 12, 13, 14] rfl nd15 vnd15 (rest := []) rfl (Nat.le_of_ble_eq_true rfl) dX8_least_1 (q := 4) rfl (fun r w hr => ?_)
  obtain ⟨rfl, rfl⟩ := hr
  refine v_ws (ws' := [(y0, .inr (8, [.int (nI n), .ref y1, .ref y2, .ref y3, .int sc, .int sp, .int (nI N), .ref y4, .ref y5, .ref y6, .ref y7, .ref y8, .ref y9, .ref y10, .ref y11, .ref y12, .int (nI tn), .ref y13, .ref y14, .long (zL wo), .long (zL si), .long (zL t1), .long (zL t2)])), (y1, .inl (cI, 6, .inl th)), (y2, .inl (cI, 6, .inl sd)), (y3, .inl (cI, 6, .inl tp)), (y4, .inl (cI, 12, .inl px)), (y5, .inl (cI, 12, .inl py)), (y6, .inl (cI, 12, .inl (fun i => nI (pl i)))), (y7, .inl (cI, 12, .inl pk)), (y8, .inl (cZ, 12, .inl (fun i => bI (M.testBit i)))), (y9, .inl (cI, 3, .inl (fun i => nI (ls i)))), (y10, .inl (cI, 18, .inl lv)), (y11, .inl (cI, 18, .inl lx)), (y12, .inl (cI, 18, .inl ly)), (y13, .inl (cJ, 15, .inr (.inl ab))), (y14, .inl (cJ, 15, .inr (.inl bl)))]) ((wset_wgo (nodup_of nd15) rfl).trans rfl) ?_
  refine v_st (st' := [.int (nI M)]) rfl ?_
  refine v_istore_n F dX8_least_4 (i := 1) (lv' := [(1, .int (nI M)), (0, .ref y0)]) rfl (Nat.le_of_ble_eq_true rfl) rfl (q := 5) rfl ?_
  refine v_iload_n F dX8_least_5 (i := 1) rfl 0 rfl (q := 6) rfl ?_
  refine v_callS F ml_X8_143 sm_X8_bits in_X8 co_X8_bits sd_X8_bits (c_X8_bits M (by omega)) ⟨Nat.zero_le _, Nat.zero_le _⟩ (Nat.le_of_ble_eq_true rfl) (Nat.le_of_ble_eq_true rfl) rfl [] rfl rfl rfl (rest := []) rfl (Nat.le_of_ble_eq_true rfl) dX8_least_6 (q := 9) rfl (fun r w hr => ?_)
  obtain ⟨rfl, rfl⟩ := hr
  refine v_ws (ws' := [(y0, .inr (8, [.int (nI n), .ref y1, .ref y2, .ref y3, .int sc, .int sp, .int (nI N), .ref y4, .ref y5, .ref y6, .ref y7, .ref y8, .ref y9, .ref y10, .ref y11, .ref y12, .int (nI tn), .ref y13, .ref y14, .long (zL wo), .long (zL si), .long (zL t1), .long (zL t2)])), (y1, .inl (cI, 6, .inl th)), (y2, .inl (cI, 6, .inl sd)), (y3, .inl (cI, 6, .inl tp)), (y4, .inl (cI, 12, .inl px)), (y5, .inl (cI, 12, .inl py)), (y6, .inl (cI, 12, .inl (fun i => nI (pl i)))), (y7, .inl (cI, 12, .inl pk)), (y8, .inl (cZ, 12, .inl (fun i => bI (M.testBit i)))), (y9, .inl (cI, 3, .inl (fun i => nI (ls i)))), (y10, .inl (cI, 18, .inl lv)), (y11, .inl (cI, 18, .inl lx)), (y12, .inl (cI, 18, .inl ly)), (y13, .inl (cJ, 15, .inr (.inl ab))), (y14, .inl (cJ, 15, .inr (.inl bl)))]) rfl ?_
  refine v_st (st' := [.int (nI (popc M))]) rfl ?_
  refine v_bipush F dX8_least_9 (v := 10) (q := 11) rfl rfl ?_
  refine v_icmp_le F dX8_least_11 (tgt := 17) rfl (q := 14) rfl (fun c11 => ?_) (fun c11 => ?_)
  · skip
    rw [show (10 : Int32) = nI 10 from rfl, nI_leI (by omega) (by omega)] at c11
    refine v_bipush F dX8_least_17 (v := (-4)) (q := 19) rfl rfl ?_
    refine v_istore_n F dX8_least_19 (i := 2) (lv' := [(2, .int (-4)), (1, .int (nI M)), (0, .ref y0)]) rfl (Nat.le_of_ble_eq_true rfl) rfl (q := 20) rfl ?_
    refine v_iconst F dX8_least_20 (v := 0) (q := 21) rfl rfl ?_
    refine v_istore_n F dX8_least_21 (i := 3) (lv' := [(3, .int 0), (2, .int (-4)), (1, .int (nI M)), (0, .ref y0)]) rfl (Nat.le_of_ble_eq_true rfl) rfl (q := 22) rfl ?_
    have L22 : ∀ (d s1 : Nat) (x0 x1 x2 x3 : Int), s1 + d = M + 1 → V p l e R s m args below meth c D A 4 0 0 Q 22 [(0, .ref y0), (1, .int (nI M)), (2, .int (enI (leF M (hoB th sd tp n sc pl pk px py N ls lv lx ly sp) s1))), (3, .int (nI s1))] [] [(y0, .inr (8, [.int (nI n), .ref y1, .ref y2, .ref y3, .int sc, .int sp, .int (nI N), .ref y4, .ref y5, .ref y6, .ref y7, .ref y8, .ref y9, .ref y10, .ref y11, .ref y12, .int (nI tn), .ref y13, .ref y14, .long (zL x0), .long (zL x1), .long (zL x2), .long (zL x3)])), (y1, .inl (cI, 6, .inl th)), (y2, .inl (cI, 6, .inl sd)), (y3, .inl (cI, 6, .inl tp)), (y4, .inl (cI, 12, .inl px)), (y5, .inl (cI, 12, .inl py)), (y6, .inl (cI, 12, .inl (fun i => nI (pl i)))), (y7, .inl (cI, 12, .inl pk)), (y8, .inl (cZ, 12, .inl (fun i => bI (M.testBit i)))), (y9, .inl (cI, 3, .inl (fun i => nI (ls i)))), (y10, .inl (cI, 18, .inl lv)), (y11, .inl (cI, 18, .inl lx)), (y12, .inl (cI, 18, .inl ly)), (y13, .inl (cJ, 15, .inr (.inl ab))), (y14, .inl (cJ, 15, .inr (.inl bl)))] := by
      intro d
      induction d using Nat.strongRecOn with
      | _ d ih => ?_
      intro s1 x0 x1 x2 x3 hs1
      refine v_iload_n F dX8_least_22 (i := 3) rfl 3 rfl (q := 23) rfl ?_
      refine v_iload_n F dX8_least_23 (i := 1) rfl 1 rfl (q := 24) rfl ?_
      refine v_icmp_gt F dX8_least_24 (tgt := 68) rfl (q := 27) rfl (fun c24 => ?_) (fun c24 => ?_)
      · skip
        rw [nI_ltI (by omega) (by omega)] at c24
        have hsu : M + 1 = s1 := by omega
        subst hsu
        refine v_iload_n F dX8_least_68 (i := 2) rfl 2 rfl (q := 69) rfl ?_
        exact hE rfl dX8_least_69 (Nat.zero_le _) (Nat.zero_le _) ⟨(by have hf : fLeast (th, sd, tp, n, sc, sp, px, py, pl, pk, N, M, ls, lv, lx, ly, ab, bl, tn) = (enI (leF M (hoB th sd tp n sc pl pk px py N ls lv lx ly sp) (M + 1)), (th, sd, tp, n, sc, sp, px, py, pl, pk, N, M, ls, lv, lx, ly, ab, bl, tn)) := (by simp only [fLeast]; rw [if_neg (by omega)]; cases (leF M (hoB th sd tp n sc pl pk px py N ls lv lx ly sp) (M + 1)) <;> rfl); exact ⟨(x0, x1, x2, x3), by rw [hf] <;> rfl, by rw [hf]; rfl⟩), Nat.le_of_ble_eq_true rfl⟩
      · skip
        rw [nI_ltI (by omega) (by omega)] at c24
        obtain ⟨d, rfl⟩ : ∃ d2, d = d2 + 1 := ⟨d - 1, by omega⟩
        have hsM : s1 ≤ M := by omega
        refine v_iload_n F dX8_least_27 (i := 3) rfl 3 rfl (q := 28) rfl ?_
        refine v_iload_n F dX8_least_28 (i := 1) rfl 1 rfl (q := 29) rfl ?_
        refine v_iconst F dX8_least_29 (v := (-1)) (q := 30) rfl rfl ?_
        refine v_ixor F dX8_least_30 (q := 31) rfl ?_
        refine v_iand F dX8_least_31 (q := 32) rfl ?_
        refine v_if_ne F dX8_least_32 (tgt := 62) rfl (q := 35) rfl (fun c32 => ?_) (fun c32 => ?_)
        · skip
          refine v_iinc F dX8_least_62 3 rfl (v := nI (s1 + 1)) (lv' := [(3, .int (nI (s1 + 1))), (0, .ref y0), (1, .int (nI M)), (2, .int (enI (leF M (hoB th sd tp n sc pl pk px py N ls lv lx ly sp) s1)))]) (nI_1 s1) (Nat.le_of_ble_eq_true rfl) rfl (q := 65) rfl ?_
          refine v_goto F dX8_least_65 (tgt := 22) rfl ?_
          refine v_lv (lv' := [(0, .ref y0), (1, .int (nI M)), (2, .int (enI (leF M (hoB th sd tp n sc pl pk px py N ls lv lx ly sp) s1))), (3, .int (nI (s1 + 1)))]) [1, 2, 3, 0] rfl ?_
          have hV := ih d (by omega) (s1 + 1) x0 x1 x2 x3 (by omega)
          rw [leF_f0 (fun z => c32 ((and_not (by omega) hM4).mpr z))] at hV
          exact hV
        · skip
          have hsub : sub2 s1 M := (and_not (by omega) hM4).mp c32
          rcases ho : (leF M (hoB th sd tp n sc pl pk px py N ls lv lx ly sp) s1) with _ | b1
          · skip
            have hT : leT s1 (leF M (hoB th sd tp n sc pl pk px py N ls lv lx ly sp) s1) = true := by rw [ho]; rfl
            refine v_iload_n F dX8_least_35 (i := 2) rfl 2 rfl (q := 36) rfl ?_
            refine v_bipush F dX8_least_36 (v := (-4)) (q := 38) rfl rfl ?_
            refine v_icmp_eq F dX8_least_38 (tgt := 52) rfl (q := 41) rfl (fun c38 => ?_) (fun c38 => ?_)
            · skip
              refine v_aload_n F dX8_least_52 (i := 0) rfl 0 rfl (q := 53) rfl ?_
              refine v_iload_n F dX8_least_53 (i := 3) rfl 3 rfl (q := 54) rfl ?_
              refine v_callV F ml_X8_146 im_X8_holds se_X8_holds in_X8 co_X8_holds sd_X8_holds (c_X8_holds y0 y1 y2 y3 y4 y5 y6 y7 y8 y9 y10 y11 y12 y13 y14 th sd tp n sc sp px py pl pk N M ls lv lx ly ab bl tn x0 x1 x2 x3 s1 ⟨G, hsp, P, hM, hls, hlv, hlx, hly, by omega⟩ (by omega) (by omega)) ⟨Nat.zero_le _, Nat.zero_le _⟩ (Nat.le_of_ble_eq_true rfl) (Nat.le_of_ble_eq_true rfl) 0 (As := [.int (nI s1)]) rfl rfl rfl rfl rfl [0, 1, 2, 3, 4, 5, 6, 7, 8, 9, 10, 11, 12, 13, 14] rfl nd15 vnd15 (rest := []) rfl (Nat.le_of_ble_eq_true rfl) dX8_least_54 (q := 57) rfl (fun r w hr => ?_)
              obtain ⟨u1, u2, u3, u4, rfl, rfl⟩ := hr
              refine v_ws (ws' := [(y0, .inr (8, [.int (nI n), .ref y1, .ref y2, .ref y3, .int sc, .int sp, .int (nI N), .ref y4, .ref y5, .ref y6, .ref y7, .ref y8, .ref y9, .ref y10, .ref y11, .ref y12, .int (nI tn), .ref y13, .ref y14, .long (zL u1), .long (zL u2), .long (zL u3), .long (zL u4)])), (y1, .inl (cI, 6, .inl th)), (y2, .inl (cI, 6, .inl sd)), (y3, .inl (cI, 6, .inl tp)), (y4, .inl (cI, 12, .inl px)), (y5, .inl (cI, 12, .inl py)), (y6, .inl (cI, 12, .inl (fun i => nI (pl i)))), (y7, .inl (cI, 12, .inl pk)), (y8, .inl (cZ, 12, .inl (fun i => bI (M.testBit i)))), (y9, .inl (cI, 3, .inl (fun i => nI (ls i)))), (y10, .inl (cI, 18, .inl lv)), (y11, .inl (cI, 18, .inl lx)), (y12, .inl (cI, 18, .inl ly)), (y13, .inl (cJ, 15, .inr (.inl ab))), (y14, .inl (cJ, 15, .inr (.inl bl)))]) ((wset_wgo (nodup_of nd15) rfl).trans rfl) ?_
              refine v_st (st' := [.int (bI (hoB th sd tp n sc pl pk px py N ls lv lx ly sp s1))]) rfl ?_
              refine v_if_eq F dX8_least_57 (tgt := 62) rfl (q := 60) rfl (fun c57 => ?_) (fun c57 => ?_)
              · skip
                rw [bI_z] at c57
                refine v_iinc F dX8_least_62 3 rfl (v := nI (s1 + 1)) (lv' := [(3, .int (nI (s1 + 1))), (0, .ref y0), (1, .int (nI M)), (2, .int (-4))]) (nI_1 s1) (Nat.le_of_ble_eq_true rfl) rfl (q := 65) rfl ?_
                refine v_goto F dX8_least_65 (tgt := 22) rfl ?_
                refine v_lv (lv' := [(0, .ref y0), (1, .int (nI M)), (2, .int (-4)), (3, .int (nI (s1 + 1)))]) [1, 2, 3, 0] rfl ?_
                have hV := ih d (by omega) (s1 + 1) u1 u2 u3 u4 (by omega)
                rw [leF_f2 c57, ho] at hV
                exact hV
              · skip
                rw [bI_nz] at c57
                refine v_iload_n F dX8_least_60 (i := 3) rfl 3 rfl (q := 61) rfl ?_
                refine v_istore_n F dX8_least_61 (i := 2) (lv' := [(2, .int (nI s1)), (0, .ref y0), (1, .int (nI M)), (3, .int (nI s1))]) rfl (Nat.le_of_ble_eq_true rfl) rfl (q := 62) rfl ?_
                refine v_iinc F dX8_least_62 3 rfl (v := nI (s1 + 1)) (lv' := [(3, .int (nI (s1 + 1))), (2, .int (nI s1)), (0, .ref y0), (1, .int (nI M))]) (nI_1 s1) (Nat.le_of_ble_eq_true rfl) rfl (q := 65) rfl ?_
                refine v_goto F dX8_least_65 (tgt := 22) rfl ?_
                refine v_lv (lv' := [(0, .ref y0), (1, .int (nI M)), (2, .int (nI s1)), (3, .int (nI (s1 + 1)))]) [2, 3, 1, 0] rfl ?_
                have hV := ih d (by omega) (s1 + 1) u1 u2 u3 u4 (by omega)
                rw [leF_t hsub hT c57] at hV
                exact hV
            · exact absurd rfl c38
          · skip
            have hb1 := leF_ho ho
            have hb1l := hb1.1
            refine v_iload_n F dX8_least_35 (i := 2) rfl 2 rfl (q := 36) rfl ?_
            refine v_bipush F dX8_least_36 (v := (-4)) (q := 38) rfl rfl ?_
            refine v_icmp_eq F dX8_least_38 (tgt := 52) rfl (q := 41) rfl (fun c38 => ?_) (fun c38 => ?_)
            · exact absurd c38 (nI_nm4b (by omega))
            · skip
              refine v_iload_n F dX8_least_41 (i := 3) rfl 3 rfl (q := 42) rfl ?_
              refine v_callS F ml_X8_143 sm_X8_bits in_X8 co_X8_bits sd_X8_bits (c_X8_bits s1 (by omega)) ⟨Nat.zero_le _, Nat.zero_le _⟩ (Nat.le_of_ble_eq_true rfl) (Nat.le_of_ble_eq_true rfl) rfl [] rfl rfl rfl (rest := []) rfl (Nat.le_of_ble_eq_true rfl) dX8_least_42 (q := 45) rfl (fun r w hr => ?_)
              obtain ⟨rfl, rfl⟩ := hr
              refine v_ws (ws' := [(y0, .inr (8, [.int (nI n), .ref y1, .ref y2, .ref y3, .int sc, .int sp, .int (nI N), .ref y4, .ref y5, .ref y6, .ref y7, .ref y8, .ref y9, .ref y10, .ref y11, .ref y12, .int (nI tn), .ref y13, .ref y14, .long (zL x0), .long (zL x1), .long (zL x2), .long (zL x3)])), (y1, .inl (cI, 6, .inl th)), (y2, .inl (cI, 6, .inl sd)), (y3, .inl (cI, 6, .inl tp)), (y4, .inl (cI, 12, .inl px)), (y5, .inl (cI, 12, .inl py)), (y6, .inl (cI, 12, .inl (fun i => nI (pl i)))), (y7, .inl (cI, 12, .inl pk)), (y8, .inl (cZ, 12, .inl (fun i => bI (M.testBit i)))), (y9, .inl (cI, 3, .inl (fun i => nI (ls i)))), (y10, .inl (cI, 18, .inl lv)), (y11, .inl (cI, 18, .inl lx)), (y12, .inl (cI, 18, .inl ly)), (y13, .inl (cJ, 15, .inr (.inl ab))), (y14, .inl (cJ, 15, .inr (.inl bl)))]) rfl ?_
              refine v_st (st' := [.int (nI (popc s1))]) rfl ?_
              refine v_iload_n F dX8_least_45 (i := 2) rfl 2 rfl (q := 46) rfl ?_
              refine v_callS F ml_X8_143 sm_X8_bits in_X8 co_X8_bits sd_X8_bits (c_X8_bits b1 (by omega)) ⟨Nat.zero_le _, Nat.zero_le _⟩ (Nat.le_of_ble_eq_true rfl) (Nat.le_of_ble_eq_true rfl) rfl [] rfl rfl rfl (rest := [.int (nI (popc s1))]) rfl (Nat.le_of_ble_eq_true rfl) dX8_least_46 (q := 49) rfl (fun r w hr => ?_)
              obtain ⟨rfl, rfl⟩ := hr
              refine v_ws (ws' := [(y0, .inr (8, [.int (nI n), .ref y1, .ref y2, .ref y3, .int sc, .int sp, .int (nI N), .ref y4, .ref y5, .ref y6, .ref y7, .ref y8, .ref y9, .ref y10, .ref y11, .ref y12, .int (nI tn), .ref y13, .ref y14, .long (zL x0), .long (zL x1), .long (zL x2), .long (zL x3)])), (y1, .inl (cI, 6, .inl th)), (y2, .inl (cI, 6, .inl sd)), (y3, .inl (cI, 6, .inl tp)), (y4, .inl (cI, 12, .inl px)), (y5, .inl (cI, 12, .inl py)), (y6, .inl (cI, 12, .inl (fun i => nI (pl i)))), (y7, .inl (cI, 12, .inl pk)), (y8, .inl (cZ, 12, .inl (fun i => bI (M.testBit i)))), (y9, .inl (cI, 3, .inl (fun i => nI (ls i)))), (y10, .inl (cI, 18, .inl lv)), (y11, .inl (cI, 18, .inl lx)), (y12, .inl (cI, 18, .inl ly)), (y13, .inl (cJ, 15, .inr (.inl ab))), (y14, .inl (cJ, 15, .inr (.inl bl)))]) rfl ?_
              refine v_st (st' := [.int (nI (popc b1)), .int (nI (popc s1))]) rfl ?_
              refine v_icmp_ge F dX8_least_49 (tgt := 62) rfl (q := 52) rfl (fun c49 => ?_) (fun c49 => ?_)
              · skip
                rw [nI_leI (by have := popc_le b1; omega) (by have := popc_le s1; omega)] at c49
                have hT : leT s1 (leF M (hoB th sd tp n sc pl pk px py N ls lv lx ly sp) s1) = false := by rw [ho]; exact decide_eq_false (by omega)
                refine v_iinc F dX8_least_62 3 rfl (v := nI (s1 + 1)) (lv' := [(3, .int (nI (s1 + 1))), (0, .ref y0), (1, .int (nI M)), (2, .int (nI b1))]) (nI_1 s1) (Nat.le_of_ble_eq_true rfl) rfl (q := 65) rfl ?_
                refine v_goto F dX8_least_65 (tgt := 22) rfl ?_
                refine v_lv (lv' := [(0, .ref y0), (1, .int (nI M)), (2, .int (nI b1)), (3, .int (nI (s1 + 1)))]) [1, 2, 3, 0] rfl ?_
                have hV := ih d (by omega) (s1 + 1) x0 x1 x2 x3 (by omega)
                rw [leF_f1 hT, ho] at hV
                exact hV
              · skip
                rw [nI_leI (by have := popc_le b1; omega) (by have := popc_le s1; omega)] at c49
                have hT : leT s1 (leF M (hoB th sd tp n sc pl pk px py N ls lv lx ly sp) s1) = true := by rw [ho]; exact decide_eq_true (by omega)
                refine v_aload_n F dX8_least_52 (i := 0) rfl 0 rfl (q := 53) rfl ?_
                refine v_iload_n F dX8_least_53 (i := 3) rfl 3 rfl (q := 54) rfl ?_
                refine v_callV F ml_X8_146 im_X8_holds se_X8_holds in_X8 co_X8_holds sd_X8_holds (c_X8_holds y0 y1 y2 y3 y4 y5 y6 y7 y8 y9 y10 y11 y12 y13 y14 th sd tp n sc sp px py pl pk N M ls lv lx ly ab bl tn x0 x1 x2 x3 s1 ⟨G, hsp, P, hM, hls, hlv, hlx, hly, by omega⟩ (by omega) (by omega)) ⟨Nat.zero_le _, Nat.zero_le _⟩ (Nat.le_of_ble_eq_true rfl) (Nat.le_of_ble_eq_true rfl) 0 (As := [.int (nI s1)]) rfl rfl rfl rfl rfl [0, 1, 2, 3, 4, 5, 6, 7, 8, 9, 10, 11, 12, 13, 14] rfl nd15 vnd15 (rest := []) rfl (Nat.le_of_ble_eq_true rfl) dX8_least_54 (q := 57) rfl (fun r w hr => ?_)
                obtain ⟨u1, u2, u3, u4, rfl, rfl⟩ := hr
                refine v_ws (ws' := [(y0, .inr (8, [.int (nI n), .ref y1, .ref y2, .ref y3, .int sc, .int sp, .int (nI N), .ref y4, .ref y5, .ref y6, .ref y7, .ref y8, .ref y9, .ref y10, .ref y11, .ref y12, .int (nI tn), .ref y13, .ref y14, .long (zL u1), .long (zL u2), .long (zL u3), .long (zL u4)])), (y1, .inl (cI, 6, .inl th)), (y2, .inl (cI, 6, .inl sd)), (y3, .inl (cI, 6, .inl tp)), (y4, .inl (cI, 12, .inl px)), (y5, .inl (cI, 12, .inl py)), (y6, .inl (cI, 12, .inl (fun i => nI (pl i)))), (y7, .inl (cI, 12, .inl pk)), (y8, .inl (cZ, 12, .inl (fun i => bI (M.testBit i)))), (y9, .inl (cI, 3, .inl (fun i => nI (ls i)))), (y10, .inl (cI, 18, .inl lv)), (y11, .inl (cI, 18, .inl lx)), (y12, .inl (cI, 18, .inl ly)), (y13, .inl (cJ, 15, .inr (.inl ab))), (y14, .inl (cJ, 15, .inr (.inl bl)))]) ((wset_wgo (nodup_of nd15) rfl).trans rfl) ?_
                refine v_st (st' := [.int (bI (hoB th sd tp n sc pl pk px py N ls lv lx ly sp s1))]) rfl ?_
                refine v_if_eq F dX8_least_57 (tgt := 62) rfl (q := 60) rfl (fun c57 => ?_) (fun c57 => ?_)
                · skip
                  rw [bI_z] at c57
                  refine v_iinc F dX8_least_62 3 rfl (v := nI (s1 + 1)) (lv' := [(3, .int (nI (s1 + 1))), (0, .ref y0), (1, .int (nI M)), (2, .int (nI b1))]) (nI_1 s1) (Nat.le_of_ble_eq_true rfl) rfl (q := 65) rfl ?_
                  refine v_goto F dX8_least_65 (tgt := 22) rfl ?_
                  refine v_lv (lv' := [(0, .ref y0), (1, .int (nI M)), (2, .int (nI b1)), (3, .int (nI (s1 + 1)))]) [1, 2, 3, 0] rfl ?_
                  have hV := ih d (by omega) (s1 + 1) u1 u2 u3 u4 (by omega)
                  rw [leF_f2 c57, ho] at hV
                  exact hV
                · skip
                  rw [bI_nz] at c57
                  refine v_iload_n F dX8_least_60 (i := 3) rfl 3 rfl (q := 61) rfl ?_
                  refine v_istore_n F dX8_least_61 (i := 2) (lv' := [(2, .int (nI s1)), (0, .ref y0), (1, .int (nI M)), (3, .int (nI s1))]) rfl (Nat.le_of_ble_eq_true rfl) rfl (q := 62) rfl ?_
                  refine v_iinc F dX8_least_62 3 rfl (v := nI (s1 + 1)) (lv' := [(3, .int (nI (s1 + 1))), (2, .int (nI s1)), (0, .ref y0), (1, .int (nI M))]) (nI_1 s1) (Nat.le_of_ble_eq_true rfl) rfl (q := 65) rfl ?_
                  refine v_goto F dX8_least_65 (tgt := 22) rfl ?_
                  refine v_lv (lv' := [(0, .ref y0), (1, .int (nI M)), (2, .int (nI s1)), (3, .int (nI (s1 + 1)))]) [2, 3, 1, 0] rfl ?_
                  have hV := ih d (by omega) (s1 + 1) u1 u2 u3 u4 (by omega)
                  rw [leF_t hsub hT c57] at hV
                  exact hV
    refine v_lv (lv' := [(0, .ref y0), (1, .int (nI M)), (2, .int (-4)), (3, .int 0)]) [3, 2, 1, 0] rfl ?_
    exact L22 (M + 1) 0 wo si t1 t2 (by omega)
  · skip
    rw [show (10 : Int32) = nI 10 from rfl, nI_leI (by omega) (by omega)] at c11
    refine v_bipush F dX8_least_14 (v := (-2)) (q := 16) rfl rfl ?_
    exact hE rfl dX8_least_16 (Nat.zero_le _) (Nat.zero_le _) ⟨(by have hf : fLeast (th, sd, tp, n, sc, sp, px, py, pl, pk, N, M, ls, lv, lx, ly, ab, bl, tn) = (-2, (th, sd, tp, n, sc, sp, px, py, pl, pk, N, M, ls, lv, lx, ly, ab, bl, tn)) := (by simp only [fLeast]; rw [if_pos (by omega)]); exact ⟨(wo, si, t1, t2), by rw [hf] <;> rfl, by rw [hf]; rfl⟩), Nat.le_of_ble_eq_true rfl⟩

end MO
