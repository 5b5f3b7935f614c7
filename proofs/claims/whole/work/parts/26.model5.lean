theorem e_ex {e : Int32} (h : inR e 1 10000 = true) : ∃ e0 : Int, (1 ≤ e0 ∧ e0 ≤ 10000) ∧ e = zI e0 := ⟨e.toInt, inR_iff.mp h, (zI_as e).symm⟩
theorem m_ex2 {m : Int32} (h : inR m 1 200 = true) : ∃ mm : Nat, mm ≤ 200 ∧ m = nI mm := ⟨pN m, (m_ex h).1, (m_ex h).2⟩
section MO
variable {l : Launch} {D : va_G} {cI cJ cZ : ClassId}
set_option maxHeartbeats 4000000 in
set_option maxRecDepth 100000 in
theorem c_X8_drive (y0 y1 y2 y3 y4 y5 y6 y7 y8 y9 y10 y11 y12 y13 y14 : Nat) (th : Nat → Int32) (sd : Nat → Int32) (tp : Nat → Int32) (n : Nat) (sc : Int32) (sp : Int32) (px : Nat → Int32) (py : Nat → Int32) (pl : Nat → Nat) (pk : Nat → Int32) (N : Nat) (M : Nat) (ls : Nat → Nat) (lv : Nat → Int32) (lx : Nat → Int32) (ly : Nat → Int32) (ab : Nat → Int64) (bl : Nat → Int64) (tn : Nat) (wo si t1 t2 : Int) (p0 e1 m1 : Int32) (VI : INV (th, sd, tp, n, sc, sp, px, py, pl, pk, N, M, ls, lv, lx, ly, ab, bl, tn)) : Ct l D (TY cI cJ cZ) yX8_drive cX8_drive 13 (some .int) 3 68 0 0 [.ref y0, .int p0, .int e1, .int m1] [(y0, .inr (8, [.int (nI n), .ref y1, .ref y2, .ref y3, .int sc, .int sp, .int (nI N), .ref y4, .ref y5, .ref y6, .ref y7, .ref y8, .ref y9, .ref y10, .ref y11, .ref y12, .int (nI tn), .ref y13, .ref y14, .long (zL wo), .long (zL si), .long (zL t1), .long (zL t2)])), (y1, .inl (cI, 6, .inl th)), (y2, .inl (cI, 6, .inl sd)), (y3, .inl (cI, 6, .inl tp)), (y4, .inl (cI, 12, .inl px)), (y5, .inl (cI, 12, .inl py)), (y6, .inl (cI, 12, .inl (fun i => nI (pl i)))), (y7, .inl (cI, 12, .inl pk)), (y8, .inl (cZ, 12, .inl (fun i => bI (M.testBit i)))), (y9, .inl (cI, 3, .inl (fun i => nI (ls i)))), (y10, .inl (cI, 18, .inl lv)), (y11, .inl (cI, 18, .inl lx)), (y12, .inl (cI, 18, .inl ly)), (y13, .inl (cJ, 15, .inr (.inl ab))), (y14, .inl (cJ, 15, .inr (.inl bl)))] (fun r w => ∃ X : Int × Int × Int × Int, r = some (.int (fDrive p0 e1 m1 (th, sd, tp, n, sc, sp, px, py, pl, pk, N, M, ls, lv, lx, ly, ab, bl, tn)).1) ∧ w = WM cI cJ cZ y0 y1 y2 y3 y4 y5 y6 y7 y8 y9 y10 y11 y12 y13 y14 (fDrive p0 e1 m1 (th, sd, tp, n, sc, sp, px, py, pl, pk, N, M, ls, lv, lx, ly, ab, bl, tn)).2 X) := by
  refine Ct.ofI (ty := .int) (by decide) (Nat.le_of_ble_eq_true rfl) ?_
  intro p e s m args below meth c A R Q F hnm hcs0 hE
  refine v_lv (lv' := [(0, .ref y0), (1, .int p0), (2, .int e1), (3, .int m1)]) [0, 1, 2, 3] rfl ?_
  obtain ⟨G, hsp, P, hM, hls, hlv, hlx, hly, htn⟩ := id VI
  have hn6 := G.1
  have hN12 := P.1
  have hM4 : M < 4096 := Nat.lt_of_lt_of_le hM (Nat.pow_le_pow_right (by omega) hN12)
  refine v_aload_n F dX8_drive_0 (i := 0) rfl 0 rfl (q := 1) rfl ?_
  refine v_iload_n F dX8_drive_1 (i := 1) rfl 1 rfl (q := 2) rfl ?_
  refine v_callV F ml_X8_82 im_X8_isPile se_X8_isPile in_X8 co_X8_isPile sd_X8_isPile (c_X8_isPile y0 y1 y2 y3 y4 y5 y6 y7 y8 y9 y10 y11 y12 y13 y14 th sd tp n sc sp px py pl pk N M ls lv lx ly ab bl tn wo si t1 t2 p0 ⟨G, hsp, P, hM, hls, hlv, hlx, hly, by omega⟩ ) ⟨Nat.zero_le _, Nat.zero_le _⟩ (Nat.le_of_ble_eq_true rfl) (Nat.le_of_ble_eq_true rfl) 0 (As := [.int p0]) rfl rfl rfl rfl rfl [0, 1, 2, 3, 4, 5, 6, 7, 8, 9, 10, 11, 12, 13, 14] rfl nd15 vnd15 (rest := []) rfl (Nat.le_of_ble_eq_true rfl) dX8_drive_2 (q := 5) rfl (fun r w hr => ?_)
  obtain ⟨rfl, rfl⟩ := hr
  refine v_ws (ws' := [(y0, .inr (8, [.int (nI n), .ref y1, .ref y2, .ref y3, .int sc, .int sp, .int (nI N), .ref y4, .ref y5, .ref y6, .ref y7, .ref y8, .ref y9, .ref y10, .ref y11, .ref y12, .int (nI tn), .ref y13, .ref y14, .long (zL wo), .long (zL si), .long (zL t1), .long (zL t2)])), (y1, .inl (cI, 6, .inl th)), (y2, .inl (cI, 6, .inl sd)), (y3, .inl (cI, 6, .inl tp)), (y4, .inl (cI, 12, .inl px)), (y5, .inl (cI, 12, .inl py)), (y6, .inl (cI, 12, .inl (fun i => nI (pl i)))), (y7, .inl (cI, 12, .inl pk)), (y8, .inl (cZ, 12, .inl (fun i => bI (M.testBit i)))), (y9, .inl (cI, 3, .inl (fun i => nI (ls i)))), (y10, .inl (cI, 18, .inl lv)), (y11, .inl (cI, 18, .inl lx)), (y12, .inl (cI, 18, .inl ly)), (y13, .inl (cJ, 15, .inr (.inl ab))), (y14, .inl (cJ, 15, .inr (.inl bl)))]) ((wset_wgo (nodup_of nd15) rfl).trans rfl) ?_
  refine v_st (st' := [.int (bI (hasB p0 N))]) rfl ?_
  refine v_if_eq F dX8_drive_5 (tgt := 30) rfl (q := 8) rfl (fun c5 => ?_) (fun c5 => ?_)
  · skip
    rw [bI_z] at c5
    refine v_iconst F dX8_drive_30 (v := (-1)) (q := 31) rfl rfl ?_
    exact hE rfl dX8_drive_31 (Nat.zero_le _) (Nat.zero_le _) ⟨(by have hf : fDrive p0 e1 m1 (th, sd, tp, n, sc, sp, px, py, pl, pk, N, M, ls, lv, lx, ly, ab, bl, tn) = (-1, (th, sd, tp, n, sc, sp, px, py, pl, pk, N, M, ls, lv, lx, ly, ab, bl, tn)) := (by simp only [fDrive]; rw [if_neg (fun z => by simp [c5] at z)]); exact ⟨(wo, si, t1, t2), by rw [hf] <;> rfl, by rw [hf]; rfl⟩), Nat.le_of_ble_eq_true rfl⟩
  · skip
    rw [bI_nz] at c5
    obtain ⟨k, hk, rfl⟩ := hasB_ex c5
    have hpk := pN_nI (k := k) (by omega)
    have hpl := P.2.2.2.1 k hk
    refine v_iload_n F dX8_drive_8 (i := 2) rfl 2 rfl (q := 9) rfl ?_
    refine v_iconst F dX8_drive_9 (v := 1) (q := 10) rfl rfl ?_
    refine v_sipush F dX8_drive_10 (v := 10000) (q := 13) rfl rfl ?_
    refine v_callS F ml_X8_54 sm_X8_in in_X8 co_X8_in sd_X8_in (c_X8_in e1 1 10000) ⟨Nat.zero_le _, Nat.zero_le _⟩ (Nat.le_of_ble_eq_true rfl) (Nat.le_of_ble_eq_true rfl) rfl [] rfl rfl rfl (rest := []) rfl (Nat.le_of_ble_eq_true rfl) dX8_drive_13 (q := 16) rfl (fun r w hr => ?_)
    obtain ⟨rfl, rfl⟩ := hr
    refine v_ws (ws' := [(y0, .inr (8, [.int (nI n), .ref y1, .ref y2, .ref y3, .int sc, .int sp, .int (nI N), .ref y4, .ref y5, .ref y6, .ref y7, .ref y8, .ref y9, .ref y10, .ref y11, .ref y12, .int (nI tn), .ref y13, .ref y14, .long (zL wo), .long (zL si), .long (zL t1), .long (zL t2)])), (y1, .inl (cI, 6, .inl th)), (y2, .inl (cI, 6, .inl sd)), (y3, .inl (cI, 6, .inl tp)), (y4, .inl (cI, 12, .inl px)), (y5, .inl (cI, 12, .inl py)), (y6, .inl (cI, 12, .inl (fun i => nI (pl i)))), (y7, .inl (cI, 12, .inl pk)), (y8, .inl (cZ, 12, .inl (fun i => bI (M.testBit i)))), (y9, .inl (cI, 3, .inl (fun i => nI (ls i)))), (y10, .inl (cI, 18, .inl lv)), (y11, .inl (cI, 18, .inl lx)), (y12, .inl (cI, 18, .inl ly)), (y13, .inl (cJ, 15, .inr (.inl ab))), (y14, .inl (cJ, 15, .inr (.inl bl)))]) rfl ?_
    refine v_st (st' := [.int (bI (inR e1 1 10000))]) rfl ?_
    refine v_if_eq F dX8_drive_16 (tgt := 30) rfl (q := 19) rfl (fun c16 => ?_) (fun c16 => ?_)
    · skip
      rw [bI_z] at c16
      refine v_iconst F dX8_drive_30 (v := (-1)) (q := 31) rfl rfl ?_
      exact hE rfl dX8_drive_31 (Nat.zero_le _) (Nat.zero_le _) ⟨(by have hf : fDrive (nI k) e1 m1 (th, sd, tp, n, sc, sp, px, py, pl, pk, N, M, ls, lv, lx, ly, ab, bl, tn) = (-1, (th, sd, tp, n, sc, sp, px, py, pl, pk, N, M, ls, lv, lx, ly, ab, bl, tn)) := (by simp only [fDrive]; rw [if_neg (fun z => by simp [c16] at z)]); exact ⟨(wo, si, t1, t2), by rw [hf] <;> rfl, by rw [hf]; rfl⟩), Nat.le_of_ble_eq_true rfl⟩
    · skip
      rw [bI_nz] at c16
      refine v_iload_n F dX8_drive_19 (i := 3) rfl 3 rfl (q := 20) rfl ?_
      refine v_iconst F dX8_drive_20 (v := 1) (q := 21) rfl rfl ?_
      refine v_sipush F dX8_drive_21 (v := 200) (q := 24) rfl rfl ?_
      refine v_callS F ml_X8_54 sm_X8_in in_X8 co_X8_in sd_X8_in (c_X8_in m1 1 200) ⟨Nat.zero_le _, Nat.zero_le _⟩ (Nat.le_of_ble_eq_true rfl) (Nat.le_of_ble_eq_true rfl) rfl [] rfl rfl rfl (rest := []) rfl (Nat.le_of_ble_eq_true rfl) dX8_drive_24 (q := 27) rfl (fun r w hr => ?_)
      obtain ⟨rfl, rfl⟩ := hr
      refine v_ws (ws' := [(y0, .inr (8, [.int (nI n), .ref y1, .ref y2, .ref y3, .int sc, .int sp, .int (nI N), .ref y4, .ref y5, .ref y6, .ref y7, .ref y8, .ref y9, .ref y10, .ref y11, .ref y12, .int (nI tn), .ref y13, .ref y14, .long (zL wo), .long (zL si), .long (zL t1), .long (zL t2)])), (y1, .inl (cI, 6, .inl th)), (y2, .inl (cI, 6, .inl sd)), (y3, .inl (cI, 6, .inl tp)), (y4, .inl (cI, 12, .inl px)), (y5, .inl (cI, 12, .inl py)), (y6, .inl (cI, 12, .inl (fun i => nI (pl i)))), (y7, .inl (cI, 12, .inl pk)), (y8, .inl (cZ, 12, .inl (fun i => bI (M.testBit i)))), (y9, .inl (cI, 3, .inl (fun i => nI (ls i)))), (y10, .inl (cI, 18, .inl lv)), (y11, .inl (cI, 18, .inl lx)), (y12, .inl (cI, 18, .inl ly)), (y13, .inl (cJ, 15, .inr (.inl ab))), (y14, .inl (cJ, 15, .inr (.inl bl)))]) rfl ?_
      refine v_st (st' := [.int (bI (inR m1 1 200))]) rfl ?_
      refine v_if_ne F dX8_drive_27 (tgt := 32) rfl (q := 30) rfl (fun c27 => ?_) (fun c27 => ?_)
      · skip
        rw [bI_nz] at c27
        obtain ⟨e0, he, rfl⟩ := e_ex c16
        obtain ⟨mm, hm, rfl⟩ := m_ex2 c27
        have hpm := pN_nI (k := mm) (by omega)
        have hpe := zI_toInt (z := e0) (by omega) (by omega)
        refine v_iconst F dX8_drive_32 (v := 0) (q := 33) rfl rfl ?_
        refine v_istore F dX8_drive_33 (lv' := [(4, .int 0), (0, .ref y0), (1, .int (nI k)), (2, .int (zI e0)), (3, .int (nI mm))]) (Nat.le_of_ble_eq_true rfl) rfl (q := 35) rfl ?_
        refine v_iconst F dX8_drive_35 (v := 0) (q := 36) rfl rfl ?_
        refine v_istore F dX8_drive_36 (lv' := [(5, .int 0), (4, .int 0), (0, .ref y0), (1, .int (nI k)), (2, .int (zI e0)), (3, .int (nI mm))]) (Nat.le_of_ble_eq_true rfl) rfl (q := 38) rfl ?_
        refine v_iconst F dX8_drive_38 (v := 0) (q := 39) rfl rfl ?_
        refine v_istore F dX8_drive_39 (lv' := [(6, .int 0), (5, .int 0), (4, .int 0), (0, .ref y0), (1, .int (nI k)), (2, .int (zI e0)), (3, .int (nI mm))]) (Nat.le_of_ble_eq_true rfl) rfl (q := 41) rfl ?_
        refine v_lconst F dX8_drive_41 (v := 0) (q := 42) rfl rfl ?_
        refine v_lstore F dX8_drive_42 (lv' := [(7, .long 0), (6, .int 0), (5, .int 0), (4, .int 0), (0, .ref y0), (1, .int (nI k)), (2, .int (zI e0)), (3, .int (nI mm))]) (Nat.le_of_ble_eq_true rfl) rfl (q := 44) rfl ?_
        refine v_iconst F dX8_drive_44 (v := 0) (q := 45) rfl rfl ?_
        refine v_istore F dX8_drive_45 (lv' := [(9, .int 0), (7, .long 0), (6, .int 0), (5, .int 0), (4, .int 0), (0, .ref y0), (1, .int (nI k)), (2, .int (zI e0)), (3, .int (nI mm))]) (Nat.le_of_ble_eq_true rfl) rfl (q := 47) rfl ?_
        refine v_iconst F dX8_drive_47 (v := 1) (q := 48) rfl rfl ?_
        refine v_istore F dX8_drive_48 (lv' := [(10, .int 1), (9, .int 0), (7, .long 0), (6, .int 0), (5, .int 0), (4, .int 0), (0, .ref y0), (1, .int (nI k)), (2, .int (zI e0)), (3, .int (nI mm))]) (Nat.le_of_ble_eq_true rfl) rfl (q := 50) rfl ?_
        have L50 : ∀ (d u : Nat) (b lf mo us : Int), u + d = pl k → (dvR (gBE th sd tp n sc) e0 mm (pl k) 0 (0, 0, 0, 0)) = dvR (gBE th sd tp n sc) e0 mm d u (b, lf, mo, us) → dvOK u (b, lf, mo, us) → V p l e R s m args below meth c D A 13 0 0 Q 50 [(0, .ref y0), (1, .int (nI k)), (2, .int (zI e0)), (3, .int (nI mm)), (4, .int (zI b)), (5, .int (zI lf)), (6, .int (zI mo)), (7, .long (zL us)), (9, .int (nI u)), (10, .int 1)] [] [(y0, .inr (8, [.int (nI n), .ref y1, .ref y2, .ref y3, .int sc, .int sp, .int (nI N), .ref y4, .ref y5, .ref y6, .ref y7, .ref y8, .ref y9, .ref y10, .ref y11, .ref y12, .int (nI tn), .ref y13, .ref y14, .long (zL wo), .long (zL si), .long (zL t1), .long (zL t2)])), (y1, .inl (cI, 6, .inl th)), (y2, .inl (cI, 6, .inl sd)), (y3, .inl (cI, 6, .inl tp)), (y4, .inl (cI, 12, .inl px)), (y5, .inl (cI, 12, .inl py)), (y6, .inl (cI, 12, .inl (fun i => nI (pl i)))), (y7, .inl (cI, 12, .inl pk)), (y8, .inl (cZ, 12, .inl (fun i => bI (M.testBit i)))), (y9, .inl (cI, 3, .inl (fun i => nI (ls i)))), (y10, .inl (cI, 18, .inl lv)), (y11, .inl (cI, 18, .inl lx)), (y12, .inl (cI, 18, .inl ly)), (y13, .inl (cJ, 15, .inr (.inl ab))), (y14, .inl (cJ, 15, .inr (.inl bl)))] := by
          intro d
          induction d using Nat.strongRecOn with
          | _ d ih => ?_
          intro u b lf mo us hu hf hO
          have hO2 := hO
          dsimp only [dvOK] at hO2
          refine v_iload F dX8_drive_50 9 rfl (q := 52) rfl ?_
          refine v_if_eq F dX8_drive_52 (tgt := 176) rfl (q := 55) rfl (fun c52 => ?_) (fun c52 => ?_)
          · exact absurd c52 (by decide)
          · skip
            refine v_iload F dX8_drive_55 8 rfl (q := 57) rfl ?_
            refine v_aload_n F dX8_drive_57 (i := 0) rfl 0 rfl (q := 58) rfl ?_
            refine gt_X8_25 F dX8_drive_58 0 rfl rfl (q := 61) rfl ?_
            refine v_iload_n F dX8_drive_61 (i := 1) rfl 1 rfl (q := 62) rfl ?_
            refine v_ialdN F 6 0 rfl rfl (j := k) (by omega) (by decide) dX8_drive_62 (q := 63) rfl ?_
            refine v_st (st' := [.int (nI (pl k)), .int (nI u)]) rfl ?_
            refine v_icmp_ge F dX8_drive_63 (tgt := 176) rfl (q := 66) rfl (fun c63 => ?_) (fun c63 => ?_)
            · skip
              rw [nI_leI (by omega) (by omega)] at c63
              have hd0 : d = 0 := by omega
              subst hd0
              simp only [dvR] at hf
              refine v_aload_n F dX8_drive_176 (i := 0) rfl 0 rfl (q := 177) rfl ?_
              refine v_iconst F dX8_drive_177 (v := 0) (q := 178) rfl rfl ?_
              refine v_iload F dX8_drive_178 4 rfl (q := 180) rfl ?_
              refine v_i2l F dX8_drive_180 (q := 181) rfl ?_
              refine v_long (y := zL b) (zI_i2l (by omega) (by omega)) ?_
              refine v_lconst F dX8_drive_181 (v := 1) (q := 182) rfl rfl ?_
              refine v_callV F ml_X8_122 im_X8_tell se_X8_tell in_X8 co_X8_tell sd_X8_tell (c_X8_tell y0 y1 y2 y3 y4 y5 y6 y7 y8 y9 y10 y11 y12 y13 y14 th sd tp n sc sp px py pl pk N M ls lv lx ly ab bl tn wo si t1 t2 0 (zL b) 1 ⟨G, hsp, P, hM, hls, hlv, hlx, hly, by omega⟩ (by omega) (by rw [zL_toInt (by omega) (by omega)]; omega) (by decide)) ⟨Nat.zero_le _, Nat.zero_le _⟩ (Nat.le_of_ble_eq_true rfl) (Nat.le_of_ble_eq_true rfl) 0 (As := [.int 0, .long (zL b), .long 1]) rfl rfl rfl rfl rfl [0, 1, 2, 3, 4, 5, 6, 7, 8, 9, 10, 11, 12, 13, 14] rfl nd15 vnd15 (rest := []) rfl (Nat.le_of_ble_eq_true rfl) dX8_drive_182 (q := 185) rfl (fun r w hr => ?_)
              obtain ⟨rfl, rfl⟩ := hr
              refine v_ws (ws' := [(y0, .inr (8, [.int (nI n), .ref y1, .ref y2, .ref y3, .int sc, .int sp, .int (nI N), .ref y4, .ref y5, .ref y6, .ref y7, .ref y8, .ref y9, .ref y10, .ref y11, .ref y12, .int (nI tn), .ref y13, .ref y14, .long (zL wo), .long (zL si), .long (zL t1), .long (zL t2)])), (y1, .inl (cI, 6, .inl th)), (y2, .inl (cI, 6, .inl sd)), (y3, .inl (cI, 6, .inl tp)), (y4, .inl (cI, 12, .inl px)), (y5, .inl (cI, 12, .inl py)), (y6, .inl (cI, 12, .inl (fun i => nI (pl i)))), (y7, .inl (cI, 12, .inl pk)), (y8, .inl (cZ, 12, .inl (fun i => bI (M.testBit i)))), (y9, .inl (cI, 3, .inl (fun i => nI (ls i)))), (y10, .inl (cI, 18, .inl lv)), (y11, .inl (cI, 18, .inl lx)), (y12, .inl (cI, 18, .inl ly)), (y13, .inl (cJ, 15, .inr (.inl (vp_updL ab 0 ((zL b) / dG (zL b) 1))))), (y14, .inl (cJ, 15, .inr (.inl (vp_updL bl 0 (1 / dG (zL b) 1)))))]) ((wset_wgo (nodup_of nd15) rfl).trans rfl) ?_
              refine v_st (st' := []) rfl ?_
              refine v_aload_n F dX8_drive_185 (i := 0) rfl 0 rfl (q := 186) rfl ?_
              refine v_iconst F dX8_drive_186 (v := 1) (q := 187) rfl rfl ?_
              refine v_iload F dX8_drive_187 5 rfl (q := 189) rfl ?_
              refine v_i2l F dX8_drive_189 (q := 190) rfl ?_
              refine v_long (y := zL lf) (zI_i2l (by omega) (by omega)) ?_
              refine v_lconst F dX8_drive_190 (v := 1) (q := 191) rfl rfl ?_
              refine v_callV F ml_X8_122 im_X8_tell se_X8_tell in_X8 co_X8_tell sd_X8_tell (c_X8_tell y0 y1 y2 y3 y4 y5 y6 y7 y8 y9 y10 y11 y12 y13 y14 th sd tp n sc sp px py pl pk N M ls lv lx ly (vp_updL ab 0 ((zL b) / dG (zL b) 1)) (vp_updL bl 0 (1 / dG (zL b) 1)) tn wo si t1 t2 1 (zL lf) 1 ⟨G, hsp, P, hM, hls, hlv, hlx, hly, by omega⟩ (by omega) (by rw [zL_toInt (by omega) (by omega)]; omega) (by decide)) ⟨Nat.zero_le _, Nat.zero_le _⟩ (Nat.le_of_ble_eq_true rfl) (Nat.le_of_ble_eq_true rfl) 0 (As := [.int 1, .long (zL lf), .long 1]) rfl rfl rfl rfl rfl [0, 1, 2, 3, 4, 5, 6, 7, 8, 9, 10, 11, 12, 13, 14] rfl nd15 vnd15 (rest := []) rfl (Nat.le_of_ble_eq_true rfl) dX8_drive_191 (q := 194) rfl (fun r w hr => ?_)
              obtain ⟨rfl, rfl⟩ := hr
              refine v_ws (ws' := [(y0, .inr (8, [.int (nI n), .ref y1, .ref y2, .ref y3, .int sc, .int sp, .int (nI N), .ref y4, .ref y5, .ref y6, .ref y7, .ref y8, .ref y9, .ref y10, .ref y11, .ref y12, .int (nI tn), .ref y13, .ref y14, .long (zL wo), .long (zL si), .long (zL t1), .long (zL t2)])), (y1, .inl (cI, 6, .inl th)), (y2, .inl (cI, 6, .inl sd)), (y3, .inl (cI, 6, .inl tp)), (y4, .inl (cI, 12, .inl px)), (y5, .inl (cI, 12, .inl py)), (y6, .inl (cI, 12, .inl (fun i => nI (pl i)))), (y7, .inl (cI, 12, .inl pk)), (y8, .inl (cZ, 12, .inl (fun i => bI (M.testBit i)))), (y9, .inl (cI, 3, .inl (fun i => nI (ls i)))), (y10, .inl (cI, 18, .inl lv)), (y11, .inl (cI, 18, .inl lx)), (y12, .inl (cI, 18, .inl ly)), (y13, .inl (cJ, 15, .inr (.inl (vp_updL (vp_updL ab 0 ((zL b) / dG (zL b) 1)) 1 ((zL lf) / dG (zL lf) 1))))), (y14, .inl (cJ, 15, .inr (.inl (vp_updL (vp_updL bl 0 (1 / dG (zL b) 1)) 1 (1 / dG (zL lf) 1)))))]) ((wset_wgo (nodup_of nd15) rfl).trans rfl) ?_
              refine v_st (st' := []) rfl ?_
              refine v_aload_n F dX8_drive_194 (i := 0) rfl 0 rfl (q := 195) rfl ?_
              refine v_iconst F dX8_drive_195 (v := 2) (q := 196) rfl rfl ?_
              refine v_iload F dX8_drive_196 6 rfl (q := 198) rfl ?_
              refine v_i2l F dX8_drive_198 (q := 199) rfl ?_
              refine v_long (y := zL mo) (zI_i2l (by omega) (by omega)) ?_
              refine v_lconst F dX8_drive_199 (v := 1) (q := 200) rfl rfl ?_
              refine v_callV F ml_X8_122 im_X8_tell se_X8_tell in_X8 co_X8_tell sd_X8_tell (c_X8_tell y0 y1 y2 y3 y4 y5 y6 y7 y8 y9 y10 y11 y12 y13 y14 th sd tp n sc sp px py pl pk N M ls lv lx ly (vp_updL (vp_updL ab 0 ((zL b) / dG (zL b) 1)) 1 ((zL lf) / dG (zL lf) 1)) (vp_updL (vp_updL bl 0 (1 / dG (zL b) 1)) 1 (1 / dG (zL lf) 1)) tn wo si t1 t2 2 (zL mo) 1 ⟨G, hsp, P, hM, hls, hlv, hlx, hly, by omega⟩ (by omega) (by rw [zL_toInt (by omega) (by omega)]; omega) (by decide)) ⟨Nat.zero_le _, Nat.zero_le _⟩ (Nat.le_of_ble_eq_true rfl) (Nat.le_of_ble_eq_true rfl) 0 (As := [.int 2, .long (zL mo), .long 1]) rfl rfl rfl rfl rfl [0, 1, 2, 3, 4, 5, 6, 7, 8, 9, 10, 11, 12, 13, 14] rfl nd15 vnd15 (rest := []) rfl (Nat.le_of_ble_eq_true rfl) dX8_drive_200 (q := 203) rfl (fun r w hr => ?_)
              obtain ⟨rfl, rfl⟩ := hr
              refine v_ws (ws' := [(y0, .inr (8, [.int (nI n), .ref y1, .ref y2, .ref y3, .int sc, .int sp, .int (nI N), .ref y4, .ref y5, .ref y6, .ref y7, .ref y8, .ref y9, .ref y10, .ref y11, .ref y12, .int (nI tn), .ref y13, .ref y14, .long (zL wo), .long (zL si), .long (zL t1), .long (zL t2)])), (y1, .inl (cI, 6, .inl th)), (y2, .inl (cI, 6, .inl sd)), (y3, .inl (cI, 6, .inl tp)), (y4, .inl (cI, 12, .inl px)), (y5, .inl (cI, 12, .inl py)), (y6, .inl (cI, 12, .inl (fun i => nI (pl i)))), (y7, .inl (cI, 12, .inl pk)), (y8, .inl (cZ, 12, .inl (fun i => bI (M.testBit i)))), (y9, .inl (cI, 3, .inl (fun i => nI (ls i)))), (y10, .inl (cI, 18, .inl lv)), (y11, .inl (cI, 18, .inl lx)), (y12, .inl (cI, 18, .inl ly)), (y13, .inl (cJ, 15, .inr (.inl (vp_updL (vp_updL (vp_updL ab 0 ((zL b) / dG (zL b) 1)) 1 ((zL lf) / dG (zL lf) 1)) 2 ((zL mo) / dG (zL mo) 1))))), (y14, .inl (cJ, 15, .inr (.inl (vp_updL (vp_updL (vp_updL bl 0 (1 / dG (zL b) 1)) 1 (1 / dG (zL lf) 1)) 2 (1 / dG (zL mo) 1)))))]) ((wset_wgo (nodup_of nd15) rfl).trans rfl) ?_
              refine v_st (st' := []) rfl ?_
              refine v_aload_n F dX8_drive_203 (i := 0) rfl 0 rfl (q := 204) rfl ?_
              refine v_iconst F dX8_drive_204 (v := 3) (q := 205) rfl rfl ?_
              refine v_lload F dX8_drive_205 7 rfl (q := 207) rfl ?_
              refine v_lconst F dX8_drive_207 (v := 1) (q := 208) rfl rfl ?_
              refine v_callV F ml_X8_122 im_X8_tell se_X8_tell in_X8 co_X8_tell sd_X8_tell (c_X8_tell y0 y1 y2 y3 y4 y5 y6 y7 y8 y9 y10 y11 y12 y13 y14 th sd tp n sc sp px py pl pk N M ls lv lx ly (vp_updL (vp_updL (vp_updL ab 0 ((zL b) / dG (zL b) 1)) 1 ((zL lf) / dG (zL lf) 1)) 2 ((zL mo) / dG (zL mo) 1)) (vp_updL (vp_updL (vp_updL bl 0 (1 / dG (zL b) 1)) 1 (1 / dG (zL lf) 1)) 2 (1 / dG (zL mo) 1)) tn wo si t1 t2 3 (zL us) 1 ⟨G, hsp, P, hM, hls, hlv, hlx, hly, by omega⟩ (by omega) (by rw [zL_toInt (by omega) (by omega)]; omega) (by decide)) ⟨Nat.zero_le _, Nat.zero_le _⟩ (Nat.le_of_ble_eq_true rfl) (Nat.le_of_ble_eq_true rfl) 0 (As := [.int 3, .long (zL us), .long 1]) rfl rfl rfl rfl rfl [0, 1, 2, 3, 4, 5, 6, 7, 8, 9, 10, 11, 12, 13, 14] rfl nd15 vnd15 (rest := []) rfl (Nat.le_of_ble_eq_true rfl) dX8_drive_208 (q := 211) rfl (fun r w hr => ?_)
              obtain ⟨rfl, rfl⟩ := hr
              refine v_ws (ws' := [(y0, .inr (8, [.int (nI n), .ref y1, .ref y2, .ref y3, .int sc, .int sp, .int (nI N), .ref y4, .ref y5, .ref y6, .ref y7, .ref y8, .ref y9, .ref y10, .ref y11, .ref y12, .int (nI tn), .ref y13, .ref y14, .long (zL wo), .long (zL si), .long (zL t1), .long (zL t2)])), (y1, .inl (cI, 6, .inl th)), (y2, .inl (cI, 6, .inl sd)), (y3, .inl (cI, 6, .inl tp)), (y4, .inl (cI, 12, .inl px)), (y5, .inl (cI, 12, .inl py)), (y6, .inl (cI, 12, .inl (fun i => nI (pl i)))), (y7, .inl (cI, 12, .inl pk)), (y8, .inl (cZ, 12, .inl (fun i => bI (M.testBit i)))), (y9, .inl (cI, 3, .inl (fun i => nI (ls i)))), (y10, .inl (cI, 18, .inl lv)), (y11, .inl (cI, 18, .inl lx)), (y12, .inl (cI, 18, .inl ly)), (y13, .inl (cJ, 15, .inr (.inl (vp_updL (vp_updL (vp_updL (vp_updL ab 0 ((zL b) / dG (zL b) 1)) 1 ((zL lf) / dG (zL lf) 1)) 2 ((zL mo) / dG (zL mo) 1)) 3 ((zL us) / dG (zL us) 1))))), (y14, .inl (cJ, 15, .inr (.inl (vp_updL (vp_updL (vp_updL (vp_updL bl 0 (1 / dG (zL b) 1)) 1 (1 / dG (zL lf) 1)) 2 (1 / dG (zL mo) 1)) 3 (1 / dG (zL us) 1)))))]) ((wset_wgo (nodup_of nd15) rfl).trans rfl) ?_
              refine v_st (st' := []) rfl ?_
              refine v_aload_n F dX8_drive_211 (i := 0) rfl 0 rfl (q := 212) rfl ?_
              refine v_iconst F dX8_drive_212 (v := 4) (q := 213) rfl rfl ?_
              refine pt_X8_130 F dX8_drive_213 0 rfl (Nat.le_of_ble_eq_true rfl) (q := 216) rfl ?_
              refine v_ws (ws' := [(y0, .inr (8, [.int (nI n), .ref y1, .ref y2, .ref y3, .int sc, .int sp, .int (nI N), .ref y4, .ref y5, .ref y6, .ref y7, .ref y8, .ref y9, .ref y10, .ref y11, .ref y12, .int 4, .ref y13, .ref y14, .long (zL wo), .long (zL si), .long (zL t1), .long (zL t2)])), (y1, .inl (cI, 6, .inl th)), (y2, .inl (cI, 6, .inl sd)), (y3, .inl (cI, 6, .inl tp)), (y4, .inl (cI, 12, .inl px)), (y5, .inl (cI, 12, .inl py)), (y6, .inl (cI, 12, .inl (fun i => nI (pl i)))), (y7, .inl (cI, 12, .inl pk)), (y8, .inl (cZ, 12, .inl (fun i => bI (M.testBit i)))), (y9, .inl (cI, 3, .inl (fun i => nI (ls i)))), (y10, .inl (cI, 18, .inl lv)), (y11, .inl (cI, 18, .inl lx)), (y12, .inl (cI, 18, .inl ly)), (y13, .inl (cJ, 15, .inr (.inl (vp_updL (vp_updL (vp_updL (vp_updL ab 0 ((zL b) / dG (zL b) 1)) 1 ((zL lf) / dG (zL lf) 1)) 2 ((zL mo) / dG (zL mo) 1)) 3 ((zL us) / dG (zL us) 1))))), (y14, .inl (cJ, 15, .inr (.inl (vp_updL (vp_updL (vp_updL (vp_updL bl 0 (1 / dG (zL b) 1)) 1 (1 / dG (zL lf) 1)) 2 (1 / dG (zL mo) 1)) 3 (1 / dG (zL us) 1)))))]) rfl ?_
              refine v_iload F dX8_drive_216 8 rfl (q := 218) rfl ?_
              exact hE rfl dX8_drive_218 (Nat.zero_le _) (Nat.zero_le _) ⟨(by have hf : fDrive (nI k) (zI e0) (nI mm) (th, sd, tp, n, sc, sp, px, py, pl, pk, N, M, ls, lv, lx, ly, ab, bl, tn) = (nI u, (th, sd, tp, n, sc, sp, px, py, pl, pk, N, M, ls, lv, lx, ly, tdA ab (dvE (b, lf, mo, us)) (fun _ => 1) 4, tdB bl (dvE (b, lf, mo, us)) (fun _ => 1) 4, 4)) := (by simp only [fDrive]; rw [if_pos ⟨c5, c16, c27⟩, hpk, hpm, hpe, hf]); exact ⟨(wo, si, t1, t2), by rw [hf] <;> rfl, by rw [hf]; rfl⟩), Nat.le_of_ble_eq_true rfl⟩
            · skip
              rw [nI_leI (by omega) (by omega)] at c63
              obtain ⟨d, rfl⟩ : ∃ d2, d = d2 + 1 := ⟨d - 1, by omega⟩
              simp only [dvR] at hf
              have hbe := gBE_rng G (u + 1) (by omega)
              refine v_aload_n F dX8_drive_66 (i := 0) rfl 0 rfl (q := 67) rfl ?_
              refine v_iload F dX8_drive_67 8 rfl (q := 69) rfl ?_
              refine v_iconst F dX8_drive_69 (v := 1) (q := 70) rfl rfl ?_
              refine v_iadd F dX8_drive_70 (q := 71) rfl ?_
              refine v_int (y := nI (u + 1)) (nI_1 u) ?_
              refine v_callV F ml_X8_86 im_X8_pullOf se_X8_pullOf in_X8 co_X8_pullOf sd_X8_pullOf (c_X8_pullOf y0 y1 y2 y3 y4 y5 y6 y7 y8 y9 y10 y11 y12 y13 y14 th sd tp n sc sp px py pl pk N M ls lv lx ly ab bl tn wo si t1 t2 (u + 1) ⟨G, hsp, P, hM, hls, hlv, hlx, hly, by omega⟩ (by omega)) ⟨Nat.zero_le _, Nat.zero_le _⟩ (Nat.le_of_ble_eq_true rfl) (Nat.le_of_ble_eq_true rfl) 0 (As := [.int (nI (u + 1))]) rfl rfl rfl rfl rfl [0, 1, 2, 3, 4, 5, 6, 7, 8, 9, 10, 11, 12, 13, 14] rfl nd15 vnd15 (rest := []) rfl (Nat.le_of_ble_eq_true rfl) dX8_drive_71 (q := 74) rfl (fun r w hr => ?_)
              obtain ⟨rfl, rfl⟩ := hr
              refine v_ws (ws' := [(y0, .inr (8, [.int (nI n), .ref y1, .ref y2, .ref y3, .int sc, .int sp, .int (nI N), .ref y4, .ref y5, .ref y6, .ref y7, .ref y8, .ref y9, .ref y10, .ref y11, .ref y12, .int (nI tn), .ref y13, .ref y14, .long (zL wo), .long (zL si), .long (zL t1), .long (zL t2)])), (y1, .inl (cI, 6, .inl th)), (y2, .inl (cI, 6, .inl sd)), (y3, .inl (cI, 6, .inl tp)), (y4, .inl (cI, 12, .inl px)), (y5, .inl (cI, 12, .inl py)), (y6, .inl (cI, 12, .inl (fun i => nI (pl i)))), (y7, .inl (cI, 12, .inl pk)), (y8, .inl (cZ, 12, .inl (fun i => bI (M.testBit i)))), (y9, .inl (cI, 3, .inl (fun i => nI (ls i)))), (y10, .inl (cI, 18, .inl lv)), (y11, .inl (cI, 18, .inl lx)), (y12, .inl (cI, 18, .inl ly)), (y13, .inl (cJ, 15, .inr (.inl ab))), (y14, .inl (cJ, 15, .inr (.inl bl)))]) ((wset_wgo (nodup_of nd15) rfl).trans rfl) ?_
              refine v_st (st' := [.int (zI (gPU th sd n sc (u + 1)))]) rfl ?_
              refine v_aload_n F dX8_drive_74 (i := 0) rfl 0 rfl (q := 75) rfl ?_
              refine v_iload F dX8_drive_75 8 rfl (q := 77) rfl ?_
              refine v_iconst F dX8_drive_77 (v := 1) (q := 78) rfl rfl ?_
              refine v_iadd F dX8_drive_78 (q := 79) rfl ?_
              refine v_int (y := nI (u + 1)) (nI_1 u) ?_
              refine v_callV F ml_X8_89 im_X8_tipOf se_X8_tipOf in_X8 co_X8_tipOf sd_X8_tipOf (c_X8_tipOf y0 y1 y2 y3 y4 y5 y6 y7 y8 y9 y10 y11 y12 y13 y14 th sd tp n sc sp px py pl pk N M ls lv lx ly ab bl tn wo si t1 t2 (u + 1) ⟨G, hsp, P, hM, hls, hlv, hlx, hly, by omega⟩ (by omega)) ⟨Nat.zero_le _, Nat.zero_le _⟩ (Nat.le_of_ble_eq_true rfl) (Nat.le_of_ble_eq_true rfl) 0 (As := [.int (nI (u + 1))]) rfl rfl rfl rfl rfl [0, 1, 2, 3, 4, 5, 6, 7, 8, 9, 10, 11, 12, 13, 14] rfl nd15 vnd15 (rest := [.int (zI (gPU th sd n sc (u + 1)))]) rfl (Nat.le_of_ble_eq_true rfl) dX8_drive_79 (q := 82) rfl (fun r w hr => ?_)
              obtain ⟨rfl, rfl⟩ := hr
              refine v_ws (ws' := [(y0, .inr (8, [.int (nI n), .ref y1, .ref y2, .ref y3, .int sc, .int sp, .int (nI N), .ref y4, .ref y5, .ref y6, .ref y7, .ref y8, .ref y9, .ref y10, .ref y11, .ref y12, .int (nI tn), .ref y13, .ref y14, .long (zL wo), .long (zL si), .long (zL t1), .long (zL t2)])), (y1, .inl (cI, 6, .inl th)), (y2, .inl (cI, 6, .inl sd)), (y3, .inl (cI, 6, .inl tp)), (y4, .inl (cI, 12, .inl px)), (y5, .inl (cI, 12, .inl py)), (y6, .inl (cI, 12, .inl (fun i => nI (pl i)))), (y7, .inl (cI, 12, .inl pk)), (y8, .inl (cZ, 12, .inl (fun i => bI (M.testBit i)))), (y9, .inl (cI, 3, .inl (fun i => nI (ls i)))), (y10, .inl (cI, 18, .inl lv)), (y11, .inl (cI, 18, .inl lx)), (y12, .inl (cI, 18, .inl ly)), (y13, .inl (cJ, 15, .inr (.inl ab))), (y14, .inl (cJ, 15, .inr (.inl bl)))]) ((wset_wgo (nodup_of nd15) rfl).trans rfl) ?_
              refine v_st (st' := [.int (zI (gTI th tp n (u + 1))), .int (zI (gPU th sd n sc (u + 1)))]) rfl ?_
              refine v_iadd F dX8_drive_82 (q := 83) rfl ?_
              refine v_int (y := zI (gBE th sd tp n sc (u + 1))) (by rw [zI_add]; rfl) ?_
              refine v_istore F dX8_drive_83 (lv' := [(11, .int (zI (gBE th sd tp n sc (u + 1)))), (0, .ref y0), (1, .int (nI k)), (2, .int (zI e0)), (3, .int (nI mm)), (4, .int (zI b)), (5, .int (zI lf)), (6, .int (zI mo)), (7, .long (zL us)), (9, .int (nI u)), (10, .int 1)]) (Nat.le_of_ble_eq_true rfl) rfl (q := 85) rfl ?_
              refine v_iconst F dX8_drive_85 (v := 0) (q := 86) rfl rfl ?_
              refine v_istore F dX8_drive_86 (lv' := [(12, .int 0), (11, .int (zI (gBE th sd tp n sc (u + 1)))), (0, .ref y0), (1, .int (nI k)), (2, .int (zI e0)), (3, .int (nI mm)), (4, .int (zI b)), (5, .int (zI lf)), (6, .int (zI mo)), (7, .long (zL us)), (9, .int (nI u)), (10, .int 1)]) (Nat.le_of_ble_eq_true rfl) rfl (q := 88) rfl ?_
              have L88 : ∀ (d2 k2 : Nat) (l2 : Int), k2 + d2 = mm → dvF (gBE th sd tp n sc (u + 1)) e0 mm 0 lf = dvF (gBE th sd tp n sc (u + 1)) e0 d2 k2 l2 → 0 ≤ l2 → l2 ≤ 16000 → V p l e R s m args below meth c D A 13 0 0 Q 88 [(0, .ref y0), (1, .int (nI k)), (2, .int (zI e0)), (3, .int (nI mm)), (4, .int (zI b)), (5, .int (zI l2)), (6, .int (zI mo)), (7, .long (zL us)), (9, .int (nI u)), (11, .int (zI (gBE th sd tp n sc (u + 1)))), (12, .int (nI k2))] [] [(y0, .inr (8, [.int (nI n), .ref y1, .ref y2, .ref y3, .int sc, .int sp, .int (nI N), .ref y4, .ref y5, .ref y6, .ref y7, .ref y8, .ref y9, .ref y10, .ref y11, .ref y12, .int (nI tn), .ref y13, .ref y14, .long (zL wo), .long (zL si), .long (zL t1), .long (zL t2)])), (y1, .inl (cI, 6, .inl th)), (y2, .inl (cI, 6, .inl sd)), (y3, .inl (cI, 6, .inl tp)), (y4, .inl (cI, 12, .inl px)), (y5, .inl (cI, 12, .inl py)), (y6, .inl (cI, 12, .inl (fun i => nI (pl i)))), (y7, .inl (cI, 12, .inl pk)), (y8, .inl (cZ, 12, .inl (fun i => bI (M.testBit i)))), (y9, .inl (cI, 3, .inl (fun i => nI (ls i)))), (y10, .inl (cI, 18, .inl lv)), (y11, .inl (cI, 18, .inl lx)), (y12, .inl (cI, 18, .inl ly)), (y13, .inl (cJ, 15, .inr (.inl ab))), (y14, .inl (cJ, 15, .inr (.inl bl)))] := by
                intro d2
                induction d2 using Nat.strongRecOn with
                | _ d2 ih2 => ?_
                intro k2 l2 hk2 hf2 hl1 hl2
                refine v_iload F dX8_drive_88 5 rfl (q := 90) rfl ?_
                refine v_iload F dX8_drive_90 9 rfl (q := 92) rfl ?_
                refine v_icmp_ge F dX8_drive_92 (tgt := 113) rfl (q := 95) rfl (fun c92 => ?_) (fun c92 => ?_)
                · skip
                  rw [zI_le (by omega) (by omega) (by omega) (by omega)] at c92
                  rw [dvF_stop (be := (gBE th sd tp n sc (u + 1))) (e := e0) (d := d2) (k := k2) (lf := l2) (by omega)] at hf2
                  refine v_iload F dX8_drive_113 4 rfl (q := 115) rfl ?_
                  refine v_iload F dX8_drive_115 10 rfl (q := 117) rfl ?_
                  refine v_iadd F dX8_drive_117 (q := 118) rfl ?_
                  refine v_int (y := zI (b + (k2 : Nat))) (by rw [zI_nat, zI_add]) ?_
                  refine v_istore F dX8_drive_118 (lv' := [(4, .int (zI (b + (k2 : Nat)))), (0, .ref y0), (1, .int (nI k)), (2, .int (zI e0)), (3, .int (nI mm)), (5, .int (zI l2)), (6, .int (zI mo)), (7, .long (zL us)), (9, .int (nI u)), (11, .int (zI (gBE th sd tp n sc (u + 1)))), (12, .int (nI k2))]) (Nat.le_of_ble_eq_true rfl) rfl (q := 120) rfl ?_
                  refine v_iload F dX8_drive_120 10 rfl (q := 122) rfl ?_
                  refine v_iload F dX8_drive_122 6 rfl (q := 124) rfl ?_
                  refine v_icmp_le F dX8_drive_124 (tgt := 132) rfl (q := 127) rfl (fun c124 => ?_) (fun c124 => ?_)
                  · skip
                    rw [zI_nat, zI_le (by omega) (by omega) (by omega) (by omega)] at c124
                    refine v_iload F dX8_drive_132 6 rfl (q := 134) rfl ?_
                    refine v_int (y := zI (max mo (k2 : Nat))) (by rw [Int.max_eq_left (by omega)]) ?_
                    refine v_istore F dX8_drive_134 (lv' := [(6, .int (zI (max mo (k2 : Nat)))), (4, .int (zI (b + (k2 : Nat)))), (0, .ref y0), (1, .int (nI k)), (2, .int (zI e0)), (3, .int (nI mm)), (5, .int (zI l2)), (7, .long (zL us)), (9, .int (nI u)), (11, .int (zI (gBE th sd tp n sc (u + 1)))), (12, .int (nI k2))]) (Nat.le_of_ble_eq_true rfl) rfl (q := 136) rfl ?_
                    refine v_iload F dX8_drive_136 6 rfl (q := 138) rfl ?_
                    refine v_iload F dX8_drive_138 9 rfl (q := 140) rfl ?_
                    refine v_icmp_lt F dX8_drive_140 (tgt := 147) rfl (q := 143) rfl (fun c140 => ?_) (fun c140 => ?_)
                    · exact absurd ((zI_lt (by omega) (by omega) (by omega) (by omega)).mp c140) (by omega)
                    · skip
                      have hU := dvU_t (b := b) (mo := mo) (us := us) hf2 (by omega)
                      have hO3 := dvU_ok he hbe hm hO
                      rw [hU] at hO3 hf
                      simp only [if_true] at hf
                      refine v_iconst F dX8_drive_143 (v := 1) (q := 144) rfl rfl ?_
                      refine v_goto F dX8_drive_144 (tgt := 148) rfl ?_
                      refine v_istore F dX8_drive_148 (lv' := [(10, .int 1), (6, .int (zI (max mo (k2 : Nat)))), (4, .int (zI (b + (k2 : Nat)))), (0, .ref y0), (1, .int (nI k)), (2, .int (zI e0)), (3, .int (nI mm)), (5, .int (zI l2)), (7, .long (zL us)), (9, .int (nI u)), (11, .int (zI (gBE th sd tp n sc (u + 1)))), (12, .int (nI k2))]) (Nat.le_of_ble_eq_true rfl) rfl (q := 150) rfl ?_
                      refine v_iload F dX8_drive_150 0 rfl (q := 152) rfl ?_
                      refine v_if_eq F dX8_drive_152 (tgt := 173) rfl (q := 155) rfl (fun c152 => ?_) (fun c152 => ?_)
                      · exact absurd c152 (by decide)
                      · skip
                        refine v_iload F dX8_drive_155 7 rfl (q := 157) rfl ?_
                        refine v_iload F dX8_drive_157 10 rfl (q := 159) rfl ?_
                        refine v_isub F dX8_drive_159 (q := 160) rfl ?_
                        refine v_int (y := zI (l2 - (gBE th sd tp n sc (u + 1)))) (zI_sub _ _) ?_
                        refine v_istore F dX8_drive_160 (lv' := [(5, .int (zI (l2 - (gBE th sd tp n sc (u + 1))))), (10, .int 1), (6, .int (zI (max mo (k2 : Nat)))), (4, .int (zI (b + (k2 : Nat)))), (0, .ref y0), (1, .int (nI k)), (2, .int (zI e0)), (3, .int (nI mm)), (7, .long (zL us)), (9, .int (nI u)), (11, .int (zI (gBE th sd tp n sc (u + 1)))), (12, .int (nI k2))]) (Nat.le_of_ble_eq_true rfl) rfl (q := 162) rfl ?_
                        refine v_lload F dX8_drive_162 8 rfl (q := 164) rfl ?_
                        refine v_iload F dX8_drive_164 10 rfl (q := 166) rfl ?_
                        refine v_i2l F dX8_drive_166 (q := 167) rfl ?_
                        refine v_long (y := zL (gBE th sd tp n sc (u + 1))) (zI_i2l (by omega) (by omega)) ?_
                        refine v_ladd F dX8_drive_167 (q := 168) rfl ?_
                        refine v_long (y := zL (us + (gBE th sd tp n sc (u + 1)))) (zL_add _ _) ?_
                        refine v_lstore F dX8_drive_168 (lv' := [(7, .long (zL (us + (gBE th sd tp n sc (u + 1))))), (5, .int (zI (l2 - (gBE th sd tp n sc (u + 1))))), (10, .int 1), (6, .int (zI (max mo (k2 : Nat)))), (4, .int (zI (b + (k2 : Nat)))), (0, .ref y0), (1, .int (nI k)), (2, .int (zI e0)), (3, .int (nI mm)), (9, .int (nI u)), (11, .int (zI (gBE th sd tp n sc (u + 1)))), (12, .int (nI k2))]) (Nat.le_of_ble_eq_true rfl) rfl (q := 170) rfl ?_
                        refine v_iinc F dX8_drive_170 9 rfl (v := nI (u + 1)) (lv' := [(9, .int (nI (u + 1))), (7, .long (zL (us + (gBE th sd tp n sc (u + 1))))), (5, .int (zI (l2 - (gBE th sd tp n sc (u + 1))))), (10, .int 1), (6, .int (zI (max mo (k2 : Nat)))), (4, .int (zI (b + (k2 : Nat)))), (0, .ref y0), (1, .int (nI k)), (2, .int (zI e0)), (3, .int (nI mm)), (11, .int (zI (gBE th sd tp n sc (u + 1)))), (12, .int (nI k2))]) (nI_1 u) (Nat.le_of_ble_eq_true rfl) rfl (q := 173) rfl ?_
                        refine v_goto F dX8_drive_173 (tgt := 50) rfl ?_
                        refine v_lv (lv' := [(0, .ref y0), (1, .int (nI k)), (2, .int (zI e0)), (3, .int (nI mm)), (4, .int (zI (b + (k2 : Nat)))), (5, .int (zI (l2 - (gBE th sd tp n sc (u + 1))))), (6, .int (zI (max mo (k2 : Nat)))), (7, .long (zL (us + (gBE th sd tp n sc (u + 1))))), (9, .int (nI (u + 1))), (10, .int 1)]) [6, 7, 8, 9, 5, 2, 4, 1, 0, 3] rfl ?_
                        exact ih d (by omega) (u + 1) _ _ _ _ (by omega) hf hO3
                  · skip
                    rw [zI_nat, zI_le (by omega) (by omega) (by omega) (by omega)] at c124
                    refine v_iload F dX8_drive_127 10 rfl (q := 129) rfl ?_
                    refine v_goto F dX8_drive_129 (tgt := 134) rfl ?_
                    refine v_int (y := zI (max mo (k2 : Nat))) (by rw [Int.max_eq_right (by omega), zI_nat]) ?_
                    refine v_istore F dX8_drive_134 (lv' := [(6, .int (zI (max mo (k2 : Nat)))), (4, .int (zI (b + (k2 : Nat)))), (0, .ref y0), (1, .int (nI k)), (2, .int (zI e0)), (3, .int (nI mm)), (5, .int (zI l2)), (7, .long (zL us)), (9, .int (nI u)), (11, .int (zI (gBE th sd tp n sc (u + 1)))), (12, .int (nI k2))]) (Nat.le_of_ble_eq_true rfl) rfl (q := 136) rfl ?_
                    refine v_iload F dX8_drive_136 6 rfl (q := 138) rfl ?_
                    refine v_iload F dX8_drive_138 9 rfl (q := 140) rfl ?_
                    refine v_icmp_lt F dX8_drive_140 (tgt := 147) rfl (q := 143) rfl (fun c140 => ?_) (fun c140 => ?_)
                    · exact absurd ((zI_lt (by omega) (by omega) (by omega) (by omega)).mp c140) (by omega)
                    · skip
                      have hU := dvU_t (b := b) (mo := mo) (us := us) hf2 (by omega)
                      have hO3 := dvU_ok he hbe hm hO
                      rw [hU] at hO3 hf
                      simp only [if_true] at hf
                      refine v_iconst F dX8_drive_143 (v := 1) (q := 144) rfl rfl ?_
                      refine v_goto F dX8_drive_144 (tgt := 148) rfl ?_
                      refine v_istore F dX8_drive_148 (lv' := [(10, .int 1), (6, .int (zI (max mo (k2 : Nat)))), (4, .int (zI (b + (k2 : Nat)))), (0, .ref y0), (1, .int (nI k)), (2, .int (zI e0)), (3, .int (nI mm)), (5, .int (zI l2)), (7, .long (zL us)), (9, .int (nI u)), (11, .int (zI (gBE th sd tp n sc (u + 1)))), (12, .int (nI k2))]) (Nat.le_of_ble_eq_true rfl) rfl (q := 150) rfl ?_
                      refine v_iload F dX8_drive_150 0 rfl (q := 152) rfl ?_
                      refine v_if_eq F dX8_drive_152 (tgt := 173) rfl (q := 155) rfl (fun c152 => ?_) (fun c152 => ?_)
                      · exact absurd c152 (by decide)
                      · skip
                        refine v_iload F dX8_drive_155 7 rfl (q := 157) rfl ?_
                        refine v_iload F dX8_drive_157 10 rfl (q := 159) rfl ?_
                        refine v_isub F dX8_drive_159 (q := 160) rfl ?_
                        refine v_int (y := zI (l2 - (gBE th sd tp n sc (u + 1)))) (zI_sub _ _) ?_
                        refine v_istore F dX8_drive_160 (lv' := [(5, .int (zI (l2 - (gBE th sd tp n sc (u + 1))))), (10, .int 1), (6, .int (zI (max mo (k2 : Nat)))), (4, .int (zI (b + (k2 : Nat)))), (0, .ref y0), (1, .int (nI k)), (2, .int (zI e0)), (3, .int (nI mm)), (7, .long (zL us)), (9, .int (nI u)), (11, .int (zI (gBE th sd tp n sc (u + 1)))), (12, .int (nI k2))]) (Nat.le_of_ble_eq_true rfl) rfl (q := 162) rfl ?_
                        refine v_lload F dX8_drive_162 8 rfl (q := 164) rfl ?_
                        refine v_iload F dX8_drive_164 10 rfl (q := 166) rfl ?_
                        refine v_i2l F dX8_drive_166 (q := 167) rfl ?_
                        refine v_long (y := zL (gBE th sd tp n sc (u + 1))) (zI_i2l (by omega) (by omega)) ?_
                        refine v_ladd F dX8_drive_167 (q := 168) rfl ?_
                        refine v_long (y := zL (us + (gBE th sd tp n sc (u + 1)))) (zL_add _ _) ?_
                        refine v_lstore F dX8_drive_168 (lv' := [(7, .long (zL (us + (gBE th sd tp n sc (u + 1))))), (5, .int (zI (l2 - (gBE th sd tp n sc (u + 1))))), (10, .int 1), (6, .int (zI (max mo (k2 : Nat)))), (4, .int (zI (b + (k2 : Nat)))), (0, .ref y0), (1, .int (nI k)), (2, .int (zI e0)), (3, .int (nI mm)), (9, .int (nI u)), (11, .int (zI (gBE th sd tp n sc (u + 1)))), (12, .int (nI k2))]) (Nat.le_of_ble_eq_true rfl) rfl (q := 170) rfl ?_
                        refine v_iinc F dX8_drive_170 9 rfl (v := nI (u + 1)) (lv' := [(9, .int (nI (u + 1))), (7, .long (zL (us + (gBE th sd tp n sc (u + 1))))), (5, .int (zI (l2 - (gBE th sd tp n sc (u + 1))))), (10, .int 1), (6, .int (zI (max mo (k2 : Nat)))), (4, .int (zI (b + (k2 : Nat)))), (0, .ref y0), (1, .int (nI k)), (2, .int (zI e0)), (3, .int (nI mm)), (11, .int (zI (gBE th sd tp n sc (u + 1)))), (12, .int (nI k2))]) (nI_1 u) (Nat.le_of_ble_eq_true rfl) rfl (q := 173) rfl ?_
                        refine v_goto F dX8_drive_173 (tgt := 50) rfl ?_
                        refine v_lv (lv' := [(0, .ref y0), (1, .int (nI k)), (2, .int (zI e0)), (3, .int (nI mm)), (4, .int (zI (b + (k2 : Nat)))), (5, .int (zI (l2 - (gBE th sd tp n sc (u + 1))))), (6, .int (zI (max mo (k2 : Nat)))), (7, .long (zL (us + (gBE th sd tp n sc (u + 1))))), (9, .int (nI (u + 1))), (10, .int 1)]) [6, 7, 8, 9, 5, 2, 4, 1, 0, 3] rfl ?_
                        exact ih d (by omega) (u + 1) _ _ _ _ (by omega) hf hO3
                · skip
                  rw [zI_le (by omega) (by omega) (by omega) (by omega)] at c92
                  refine v_iload F dX8_drive_95 10 rfl (q := 97) rfl ?_
                  refine v_iload_n F dX8_drive_97 (i := 3) rfl 3 rfl (q := 98) rfl ?_
                  refine v_icmp_ge F dX8_drive_98 (tgt := 113) rfl (q := 101) rfl (fun c98 => ?_) (fun c98 => ?_)
                  · skip
                    rw [nI_leI (by omega) (by omega)] at c98
                    have hd0 : d2 = 0 := by omega
                    subst hd0
                    simp only [dvF] at hf2
                    refine v_iload F dX8_drive_113 4 rfl (q := 115) rfl ?_
                    refine v_iload F dX8_drive_115 10 rfl (q := 117) rfl ?_
                    refine v_iadd F dX8_drive_117 (q := 118) rfl ?_
                    refine v_int (y := zI (b + (k2 : Nat))) (by rw [zI_nat, zI_add]) ?_
                    refine v_istore F dX8_drive_118 (lv' := [(4, .int (zI (b + (k2 : Nat)))), (0, .ref y0), (1, .int (nI k)), (2, .int (zI e0)), (3, .int (nI mm)), (5, .int (zI l2)), (6, .int (zI mo)), (7, .long (zL us)), (9, .int (nI u)), (11, .int (zI (gBE th sd tp n sc (u + 1)))), (12, .int (nI k2))]) (Nat.le_of_ble_eq_true rfl) rfl (q := 120) rfl ?_
                    refine v_iload F dX8_drive_120 10 rfl (q := 122) rfl ?_
                    refine v_iload F dX8_drive_122 6 rfl (q := 124) rfl ?_
                    refine v_icmp_le F dX8_drive_124 (tgt := 132) rfl (q := 127) rfl (fun c124 => ?_) (fun c124 => ?_)
                    · skip
                      rw [zI_nat, zI_le (by omega) (by omega) (by omega) (by omega)] at c124
                      refine v_iload F dX8_drive_132 6 rfl (q := 134) rfl ?_
                      refine v_int (y := zI (max mo (k2 : Nat))) (by rw [Int.max_eq_left (by omega)]) ?_
                      refine v_istore F dX8_drive_134 (lv' := [(6, .int (zI (max mo (k2 : Nat)))), (4, .int (zI (b + (k2 : Nat)))), (0, .ref y0), (1, .int (nI k)), (2, .int (zI e0)), (3, .int (nI mm)), (5, .int (zI l2)), (7, .long (zL us)), (9, .int (nI u)), (11, .int (zI (gBE th sd tp n sc (u + 1)))), (12, .int (nI k2))]) (Nat.le_of_ble_eq_true rfl) rfl (q := 136) rfl ?_
                      refine v_iload F dX8_drive_136 6 rfl (q := 138) rfl ?_
                      refine v_iload F dX8_drive_138 9 rfl (q := 140) rfl ?_
                      refine v_icmp_lt F dX8_drive_140 (tgt := 147) rfl (q := 143) rfl (fun c140 => ?_) (fun c140 => ?_)
                      · skip
                        have hU := dvU_f (b := b) (mo := mo) (us := us) hf2 (by omega)
                        have hO3 := dvU_ok he hbe hm hO
                        rw [hU] at hO3 hf
                        simp only [Bool.false_eq_true, if_false] at hf
                        dsimp only [dvOK] at hO3
                        refine v_iconst F dX8_drive_147 (v := 0) (q := 148) rfl rfl ?_
                        refine v_istore F dX8_drive_148 (lv' := [(10, .int 0), (6, .int (zI (max mo (k2 : Nat)))), (4, .int (zI (b + (k2 : Nat)))), (0, .ref y0), (1, .int (nI k)), (2, .int (zI e0)), (3, .int (nI mm)), (5, .int (zI l2)), (7, .long (zL us)), (9, .int (nI u)), (11, .int (zI (gBE th sd tp n sc (u + 1)))), (12, .int (nI k2))]) (Nat.le_of_ble_eq_true rfl) rfl (q := 150) rfl ?_
                        refine v_iload F dX8_drive_150 0 rfl (q := 152) rfl ?_
                        refine v_if_eq F dX8_drive_152 (tgt := 173) rfl (q := 155) rfl (fun c152 => ?_) (fun c152 => ?_)
                        · skip
                          refine v_goto F dX8_drive_173 (tgt := 50) rfl ?_
                          refine v_iload F dX8_drive_50 0 rfl (q := 52) rfl ?_
                          refine v_if_eq F dX8_drive_52 (tgt := 176) rfl (q := 55) rfl (fun c52 => ?_) (fun c52 => ?_)
                          · skip
                            refine v_aload_n F dX8_drive_176 (i := 0) rfl 3 rfl (q := 177) rfl ?_
                            refine v_iconst F dX8_drive_177 (v := 0) (q := 178) rfl rfl ?_
                            refine v_iload F dX8_drive_178 2 rfl (q := 180) rfl ?_
                            refine v_i2l F dX8_drive_180 (q := 181) rfl ?_
                            refine v_long (y := zL (b + (k2 : Nat))) (zI_i2l (by omega) (by omega)) ?_
                            refine v_lconst F dX8_drive_181 (v := 1) (q := 182) rfl rfl ?_
                            refine v_callV F ml_X8_122 im_X8_tell se_X8_tell in_X8 co_X8_tell sd_X8_tell (c_X8_tell y0 y1 y2 y3 y4 y5 y6 y7 y8 y9 y10 y11 y12 y13 y14 th sd tp n sc sp px py pl pk N M ls lv lx ly ab bl tn wo si t1 t2 0 (zL (b + (k2 : Nat))) 1 ⟨G, hsp, P, hM, hls, hlv, hlx, hly, by omega⟩ (by omega) (by rw [zL_toInt (by omega) (by omega)]; omega) (by decide)) ⟨Nat.zero_le _, Nat.zero_le _⟩ (Nat.le_of_ble_eq_true rfl) (Nat.le_of_ble_eq_true rfl) 0 (As := [.int 0, .long (zL (b + (k2 : Nat))), .long 1]) rfl rfl rfl rfl rfl [0, 1, 2, 3, 4, 5, 6, 7, 8, 9, 10, 11, 12, 13, 14] rfl nd15 vnd15 (rest := []) rfl (Nat.le_of_ble_eq_true rfl) dX8_drive_182 (q := 185) rfl (fun r w hr => ?_)
                            obtain ⟨rfl, rfl⟩ := hr
                            refine v_ws (ws' := [(y0, .inr (8, [.int (nI n), .ref y1, .ref y2, .ref y3, .int sc, .int sp, .int (nI N), .ref y4, .ref y5, .ref y6, .ref y7, .ref y8, .ref y9, .ref y10, .ref y11, .ref y12, .int (nI tn), .ref y13, .ref y14, .long (zL wo), .long (zL si), .long (zL t1), .long (zL t2)])), (y1, .inl (cI, 6, .inl th)), (y2, .inl (cI, 6, .inl sd)), (y3, .inl (cI, 6, .inl tp)), (y4, .inl (cI, 12, .inl px)), (y5, .inl (cI, 12, .inl py)), (y6, .inl (cI, 12, .inl (fun i => nI (pl i)))), (y7, .inl (cI, 12, .inl pk)), (y8, .inl (cZ, 12, .inl (fun i => bI (M.testBit i)))), (y9, .inl (cI, 3, .inl (fun i => nI (ls i)))), (y10, .inl (cI, 18, .inl lv)), (y11, .inl (cI, 18, .inl lx)), (y12, .inl (cI, 18, .inl ly)), (y13, .inl (cJ, 15, .inr (.inl (vp_updL ab 0 ((zL (b + (k2 : Nat))) / dG (zL (b + (k2 : Nat))) 1))))), (y14, .inl (cJ, 15, .inr (.inl (vp_updL bl 0 (1 / dG (zL (b + (k2 : Nat))) 1)))))]) ((wset_wgo (nodup_of nd15) rfl).trans rfl) ?_
                            refine v_st (st' := []) rfl ?_
                            refine v_aload_n F dX8_drive_185 (i := 0) rfl 3 rfl (q := 186) rfl ?_
                            refine v_iconst F dX8_drive_186 (v := 1) (q := 187) rfl rfl ?_
                            refine v_iload F dX8_drive_187 7 rfl (q := 189) rfl ?_
                            refine v_i2l F dX8_drive_189 (q := 190) rfl ?_
                            refine v_long (y := zL l2) (zI_i2l (by omega) (by omega)) ?_
                            refine v_lconst F dX8_drive_190 (v := 1) (q := 191) rfl rfl ?_
                            refine v_callV F ml_X8_122 im_X8_tell se_X8_tell in_X8 co_X8_tell sd_X8_tell (c_X8_tell y0 y1 y2 y3 y4 y5 y6 y7 y8 y9 y10 y11 y12 y13 y14 th sd tp n sc sp px py pl pk N M ls lv lx ly (vp_updL ab 0 ((zL (b + (k2 : Nat))) / dG (zL (b + (k2 : Nat))) 1)) (vp_updL bl 0 (1 / dG (zL (b + (k2 : Nat))) 1)) tn wo si t1 t2 1 (zL l2) 1 ⟨G, hsp, P, hM, hls, hlv, hlx, hly, by omega⟩ (by omega) (by rw [zL_toInt (by omega) (by omega)]; omega) (by decide)) ⟨Nat.zero_le _, Nat.zero_le _⟩ (Nat.le_of_ble_eq_true rfl) (Nat.le_of_ble_eq_true rfl) 0 (As := [.int 1, .long (zL l2), .long 1]) rfl rfl rfl rfl rfl [0, 1, 2, 3, 4, 5, 6, 7, 8, 9, 10, 11, 12, 13, 14] rfl nd15 vnd15 (rest := []) rfl (Nat.le_of_ble_eq_true rfl) dX8_drive_191 (q := 194) rfl (fun r w hr => ?_)
                            obtain ⟨rfl, rfl⟩ := hr
                            refine v_ws (ws' := [(y0, .inr (8, [.int (nI n), .ref y1, .ref y2, .ref y3, .int sc, .int sp, .int (nI N), .ref y4, .ref y5, .ref y6, .ref y7, .ref y8, .ref y9, .ref y10, .ref y11, .ref y12, .int (nI tn), .ref y13, .ref y14, .long (zL wo), .long (zL si), .long (zL t1), .long (zL t2)])), (y1, .inl (cI, 6, .inl th)), (y2, .inl (cI, 6, .inl sd)), (y3, .inl (cI, 6, .inl tp)), (y4, .inl (cI, 12, .inl px)), (y5, .inl (cI, 12, .inl py)), (y6, .inl (cI, 12, .inl (fun i => nI (pl i)))), (y7, .inl (cI, 12, .inl pk)), (y8, .inl (cZ, 12, .inl (fun i => bI (M.testBit i)))), (y9, .inl (cI, 3, .inl (fun i => nI (ls i)))), (y10, .inl (cI, 18, .inl lv)), (y11, .inl (cI, 18, .inl lx)), (y12, .inl (cI, 18, .inl ly)), (y13, .inl (cJ, 15, .inr (.inl (vp_updL (vp_updL ab 0 ((zL (b + (k2 : Nat))) / dG (zL (b + (k2 : Nat))) 1)) 1 ((zL l2) / dG (zL l2) 1))))), (y14, .inl (cJ, 15, .inr (.inl (vp_updL (vp_updL bl 0 (1 / dG (zL (b + (k2 : Nat))) 1)) 1 (1 / dG (zL l2) 1)))))]) ((wset_wgo (nodup_of nd15) rfl).trans rfl) ?_
                            refine v_st (st' := []) rfl ?_
                            refine v_aload_n F dX8_drive_194 (i := 0) rfl 3 rfl (q := 195) rfl ?_
                            refine v_iconst F dX8_drive_195 (v := 2) (q := 196) rfl rfl ?_
                            refine v_iload F dX8_drive_196 1 rfl (q := 198) rfl ?_
                            refine v_i2l F dX8_drive_198 (q := 199) rfl ?_
                            refine v_long (y := zL (max mo (k2 : Nat))) (zI_i2l (by omega) (by omega)) ?_
                            refine v_lconst F dX8_drive_199 (v := 1) (q := 200) rfl rfl ?_
                            refine v_callV F ml_X8_122 im_X8_tell se_X8_tell in_X8 co_X8_tell sd_X8_tell (c_X8_tell y0 y1 y2 y3 y4 y5 y6 y7 y8 y9 y10 y11 y12 y13 y14 th sd tp n sc sp px py pl pk N M ls lv lx ly (vp_updL (vp_updL ab 0 ((zL (b + (k2 : Nat))) / dG (zL (b + (k2 : Nat))) 1)) 1 ((zL l2) / dG (zL l2) 1)) (vp_updL (vp_updL bl 0 (1 / dG (zL (b + (k2 : Nat))) 1)) 1 (1 / dG (zL l2) 1)) tn wo si t1 t2 2 (zL (max mo (k2 : Nat))) 1 ⟨G, hsp, P, hM, hls, hlv, hlx, hly, by omega⟩ (by omega) (by rw [zL_toInt (by omega) (by omega)]; omega) (by decide)) ⟨Nat.zero_le _, Nat.zero_le _⟩ (Nat.le_of_ble_eq_true rfl) (Nat.le_of_ble_eq_true rfl) 0 (As := [.int 2, .long (zL (max mo (k2 : Nat))), .long 1]) rfl rfl rfl rfl rfl [0, 1, 2, 3, 4, 5, 6, 7, 8, 9, 10, 11, 12, 13, 14] rfl nd15 vnd15 (rest := []) rfl (Nat.le_of_ble_eq_true rfl) dX8_drive_200 (q := 203) rfl (fun r w hr => ?_)
                            obtain ⟨rfl, rfl⟩ := hr
                            refine v_ws (ws' := [(y0, .inr (8, [.int (nI n), .ref y1, .ref y2, .ref y3, .int sc, .int sp, .int (nI N), .ref y4, .ref y5, .ref y6, .ref y7, .ref y8, .ref y9, .ref y10, .ref y11, .ref y12, .int (nI tn), .ref y13, .ref y14, .long (zL wo), .long (zL si), .long (zL t1), .long (zL t2)])), (y1, .inl (cI, 6, .inl th)), (y2, .inl (cI, 6, .inl sd)), (y3, .inl (cI, 6, .inl tp)), (y4, .inl (cI, 12, .inl px)), (y5, .inl (cI, 12, .inl py)), (y6, .inl (cI, 12, .inl (fun i => nI (pl i)))), (y7, .inl (cI, 12, .inl pk)), (y8, .inl (cZ, 12, .inl (fun i => bI (M.testBit i)))), (y9, .inl (cI, 3, .inl (fun i => nI (ls i)))), (y10, .inl (cI, 18, .inl lv)), (y11, .inl (cI, 18, .inl lx)), (y12, .inl (cI, 18, .inl ly)), (y13, .inl (cJ, 15, .inr (.inl (vp_updL (vp_updL (vp_updL ab 0 ((zL (b + (k2 : Nat))) / dG (zL (b + (k2 : Nat))) 1)) 1 ((zL l2) / dG (zL l2) 1)) 2 ((zL (max mo (k2 : Nat))) / dG (zL (max mo (k2 : Nat))) 1))))), (y14, .inl (cJ, 15, .inr (.inl (vp_updL (vp_updL (vp_updL bl 0 (1 / dG (zL (b + (k2 : Nat))) 1)) 1 (1 / dG (zL l2) 1)) 2 (1 / dG (zL (max mo (k2 : Nat))) 1)))))]) ((wset_wgo (nodup_of nd15) rfl).trans rfl) ?_
                            refine v_st (st' := []) rfl ?_
                            refine v_aload_n F dX8_drive_203 (i := 0) rfl 3 rfl (q := 204) rfl ?_
                            refine v_iconst F dX8_drive_204 (v := 3) (q := 205) rfl rfl ?_
                            refine v_lload F dX8_drive_205 8 rfl (q := 207) rfl ?_
                            refine v_lconst F dX8_drive_207 (v := 1) (q := 208) rfl rfl ?_
                            refine v_callV F ml_X8_122 im_X8_tell se_X8_tell in_X8 co_X8_tell sd_X8_tell (c_X8_tell y0 y1 y2 y3 y4 y5 y6 y7 y8 y9 y10 y11 y12 y13 y14 th sd tp n sc sp px py pl pk N M ls lv lx ly (vp_updL (vp_updL (vp_updL ab 0 ((zL (b + (k2 : Nat))) / dG (zL (b + (k2 : Nat))) 1)) 1 ((zL l2) / dG (zL l2) 1)) 2 ((zL (max mo (k2 : Nat))) / dG (zL (max mo (k2 : Nat))) 1)) (vp_updL (vp_updL (vp_updL bl 0 (1 / dG (zL (b + (k2 : Nat))) 1)) 1 (1 / dG (zL l2) 1)) 2 (1 / dG (zL (max mo (k2 : Nat))) 1)) tn wo si t1 t2 3 (zL us) 1 ⟨G, hsp, P, hM, hls, hlv, hlx, hly, by omega⟩ (by omega) (by rw [zL_toInt (by omega) (by omega)]; omega) (by decide)) ⟨Nat.zero_le _, Nat.zero_le _⟩ (Nat.le_of_ble_eq_true rfl) (Nat.le_of_ble_eq_true rfl) 0 (As := [.int 3, .long (zL us), .long 1]) rfl rfl rfl rfl rfl [0, 1, 2, 3, 4, 5, 6, 7, 8, 9, 10, 11, 12, 13, 14] rfl nd15 vnd15 (rest := []) rfl (Nat.le_of_ble_eq_true rfl) dX8_drive_208 (q := 211) rfl (fun r w hr => ?_)
                            obtain ⟨rfl, rfl⟩ := hr
                            refine v_ws (ws' := [(y0, .inr (8, [.int (nI n), .ref y1, .ref y2, .ref y3, .int sc, .int sp, .int (nI N), .ref y4, .ref y5, .ref y6, .ref y7, .ref y8, .ref y9, .ref y10, .ref y11, .ref y12, .int (nI tn), .ref y13, .ref y14, .long (zL wo), .long (zL si), .long (zL t1), .long (zL t2)])), (y1, .inl (cI, 6, .inl th)), (y2, .inl (cI, 6, .inl sd)), (y3, .inl (cI, 6, .inl tp)), (y4, .inl (cI, 12, .inl px)), (y5, .inl (cI, 12, .inl py)), (y6, .inl (cI, 12, .inl (fun i => nI (pl i)))), (y7, .inl (cI, 12, .inl pk)), (y8, .inl (cZ, 12, .inl (fun i => bI (M.testBit i)))), (y9, .inl (cI, 3, .inl (fun i => nI (ls i)))), (y10, .inl (cI, 18, .inl lv)), (y11, .inl (cI, 18, .inl lx)), (y12, .inl (cI, 18, .inl ly)), (y13, .inl (cJ, 15, .inr (.inl (vp_updL (vp_updL (vp_updL (vp_updL ab 0 ((zL (b + (k2 : Nat))) / dG (zL (b + (k2 : Nat))) 1)) 1 ((zL l2) / dG (zL l2) 1)) 2 ((zL (max mo (k2 : Nat))) / dG (zL (max mo (k2 : Nat))) 1)) 3 ((zL us) / dG (zL us) 1))))), (y14, .inl (cJ, 15, .inr (.inl (vp_updL (vp_updL (vp_updL (vp_updL bl 0 (1 / dG (zL (b + (k2 : Nat))) 1)) 1 (1 / dG (zL l2) 1)) 2 (1 / dG (zL (max mo (k2 : Nat))) 1)) 3 (1 / dG (zL us) 1)))))]) ((wset_wgo (nodup_of nd15) rfl).trans rfl) ?_
                            refine v_st (st' := []) rfl ?_
                            refine v_aload_n F dX8_drive_211 (i := 0) rfl 3 rfl (q := 212) rfl ?_
                            refine v_iconst F dX8_drive_212 (v := 4) (q := 213) rfl rfl ?_
                            refine pt_X8_130 F dX8_drive_213 0 rfl (Nat.le_of_ble_eq_true rfl) (q := 216) rfl ?_
                            refine v_ws (ws' := [(y0, .inr (8, [.int (nI n), .ref y1, .ref y2, .ref y3, .int sc, .int sp, .int (nI N), .ref y4, .ref y5, .ref y6, .ref y7, .ref y8, .ref y9, .ref y10, .ref y11, .ref y12, .int 4, .ref y13, .ref y14, .long (zL wo), .long (zL si), .long (zL t1), .long (zL t2)])), (y1, .inl (cI, 6, .inl th)), (y2, .inl (cI, 6, .inl sd)), (y3, .inl (cI, 6, .inl tp)), (y4, .inl (cI, 12, .inl px)), (y5, .inl (cI, 12, .inl py)), (y6, .inl (cI, 12, .inl (fun i => nI (pl i)))), (y7, .inl (cI, 12, .inl pk)), (y8, .inl (cZ, 12, .inl (fun i => bI (M.testBit i)))), (y9, .inl (cI, 3, .inl (fun i => nI (ls i)))), (y10, .inl (cI, 18, .inl lv)), (y11, .inl (cI, 18, .inl lx)), (y12, .inl (cI, 18, .inl ly)), (y13, .inl (cJ, 15, .inr (.inl (vp_updL (vp_updL (vp_updL (vp_updL ab 0 ((zL (b + (k2 : Nat))) / dG (zL (b + (k2 : Nat))) 1)) 1 ((zL l2) / dG (zL l2) 1)) 2 ((zL (max mo (k2 : Nat))) / dG (zL (max mo (k2 : Nat))) 1)) 3 ((zL us) / dG (zL us) 1))))), (y14, .inl (cJ, 15, .inr (.inl (vp_updL (vp_updL (vp_updL (vp_updL bl 0 (1 / dG (zL (b + (k2 : Nat))) 1)) 1 (1 / dG (zL l2) 1)) 2 (1 / dG (zL (max mo (k2 : Nat))) 1)) 3 (1 / dG (zL us) 1)))))]) rfl ?_
                            refine v_iload F dX8_drive_216 9 rfl (q := 218) rfl ?_
                            exact hE rfl dX8_drive_218 (Nat.zero_le _) (Nat.zero_le _) ⟨(by have hf : fDrive (nI k) (zI e0) (nI mm) (th, sd, tp, n, sc, sp, px, py, pl, pk, N, M, ls, lv, lx, ly, ab, bl, tn) = (nI u, (th, sd, tp, n, sc, sp, px, py, pl, pk, N, M, ls, lv, lx, ly, tdA ab (dvE ((b + (k2 : Nat)), l2, (max mo (k2 : Nat)), us)) (fun _ => 1) 4, tdB bl (dvE ((b + (k2 : Nat)), l2, (max mo (k2 : Nat)), us)) (fun _ => 1) 4, 4)) := (by simp only [fDrive]; rw [if_pos ⟨c5, c16, c27⟩, hpk, hpm, hpe, hf]); exact ⟨(wo, si, t1, t2), by rw [hf] <;> rfl, by rw [hf]; rfl⟩), Nat.le_of_ble_eq_true rfl⟩
                          · exact absurd rfl c52
                        · exact absurd rfl c152
                      · exact absurd ((zI_lt (by omega) (by omega) (by omega) (by omega)).mpr (by omega)) c140
                    · skip
                      rw [zI_nat, zI_le (by omega) (by omega) (by omega) (by omega)] at c124
                      refine v_iload F dX8_drive_127 10 rfl (q := 129) rfl ?_
                      refine v_goto F dX8_drive_129 (tgt := 134) rfl ?_
                      refine v_int (y := zI (max mo (k2 : Nat))) (by rw [Int.max_eq_right (by omega), zI_nat]) ?_
                      refine v_istore F dX8_drive_134 (lv' := [(6, .int (zI (max mo (k2 : Nat)))), (4, .int (zI (b + (k2 : Nat)))), (0, .ref y0), (1, .int (nI k)), (2, .int (zI e0)), (3, .int (nI mm)), (5, .int (zI l2)), (7, .long (zL us)), (9, .int (nI u)), (11, .int (zI (gBE th sd tp n sc (u + 1)))), (12, .int (nI k2))]) (Nat.le_of_ble_eq_true rfl) rfl (q := 136) rfl ?_
                      refine v_iload F dX8_drive_136 6 rfl (q := 138) rfl ?_
                      refine v_iload F dX8_drive_138 9 rfl (q := 140) rfl ?_
                      refine v_icmp_lt F dX8_drive_140 (tgt := 147) rfl (q := 143) rfl (fun c140 => ?_) (fun c140 => ?_)
                      · skip
                        have hU := dvU_f (b := b) (mo := mo) (us := us) hf2 (by omega)
                        have hO3 := dvU_ok he hbe hm hO
                        rw [hU] at hO3 hf
                        simp only [Bool.false_eq_true, if_false] at hf
                        dsimp only [dvOK] at hO3
                        refine v_iconst F dX8_drive_147 (v := 0) (q := 148) rfl rfl ?_
                        refine v_istore F dX8_drive_148 (lv' := [(10, .int 0), (6, .int (zI (max mo (k2 : Nat)))), (4, .int (zI (b + (k2 : Nat)))), (0, .ref y0), (1, .int (nI k)), (2, .int (zI e0)), (3, .int (nI mm)), (5, .int (zI l2)), (7, .long (zL us)), (9, .int (nI u)), (11, .int (zI (gBE th sd tp n sc (u + 1)))), (12, .int (nI k2))]) (Nat.le_of_ble_eq_true rfl) rfl (q := 150) rfl ?_
                        refine v_iload F dX8_drive_150 0 rfl (q := 152) rfl ?_
                        refine v_if_eq F dX8_drive_152 (tgt := 173) rfl (q := 155) rfl (fun c152 => ?_) (fun c152 => ?_)
                        · skip
                          refine v_goto F dX8_drive_173 (tgt := 50) rfl ?_
                          refine v_iload F dX8_drive_50 0 rfl (q := 52) rfl ?_
                          refine v_if_eq F dX8_drive_52 (tgt := 176) rfl (q := 55) rfl (fun c52 => ?_) (fun c52 => ?_)
                          · skip
                            refine v_aload_n F dX8_drive_176 (i := 0) rfl 3 rfl (q := 177) rfl ?_
                            refine v_iconst F dX8_drive_177 (v := 0) (q := 178) rfl rfl ?_
                            refine v_iload F dX8_drive_178 2 rfl (q := 180) rfl ?_
                            refine v_i2l F dX8_drive_180 (q := 181) rfl ?_
                            refine v_long (y := zL (b + (k2 : Nat))) (zI_i2l (by omega) (by omega)) ?_
                            refine v_lconst F dX8_drive_181 (v := 1) (q := 182) rfl rfl ?_
                            refine v_callV F ml_X8_122 im_X8_tell se_X8_tell in_X8 co_X8_tell sd_X8_tell (c_X8_tell y0 y1 y2 y3 y4 y5 y6 y7 y8 y9 y10 y11 y12 y13 y14 th sd tp n sc sp px py pl pk N M ls lv lx ly ab bl tn wo si t1 t2 0 (zL (b + (k2 : Nat))) 1 ⟨G, hsp, P, hM, hls, hlv, hlx, hly, by omega⟩ (by omega) (by rw [zL_toInt (by omega) (by omega)]; omega) (by decide)) ⟨Nat.zero_le _, Nat.zero_le _⟩ (Nat.le_of_ble_eq_true rfl) (Nat.le_of_ble_eq_true rfl) 0 (As := [.int 0, .long (zL (b + (k2 : Nat))), .long 1]) rfl rfl rfl rfl rfl [0, 1, 2, 3, 4, 5, 6, 7, 8, 9, 10, 11, 12, 13, 14] rfl nd15 vnd15 (rest := []) rfl (Nat.le_of_ble_eq_true rfl) dX8_drive_182 (q := 185) rfl (fun r w hr => ?_)
                            obtain ⟨rfl, rfl⟩ := hr
                            refine v_ws (ws' := [(y0, .inr (8, [.int (nI n), .ref y1, .ref y2, .ref y3, .int sc, .int sp, .int (nI N), .ref y4, .ref y5, .ref y6, .ref y7, .ref y8, .ref y9, .ref y10, .ref y11, .ref y12, .int (nI tn), .ref y13, .ref y14, .long (zL wo), .long (zL si), .long (zL t1), .long (zL t2)])), (y1, .inl (cI, 6, .inl th)), (y2, .inl (cI, 6, .inl sd)), (y3, .inl (cI, 6, .inl tp)), (y4, .inl (cI, 12, .inl px)), (y5, .inl (cI, 12, .inl py)), (y6, .inl (cI, 12, .inl (fun i => nI (pl i)))), (y7, .inl (cI, 12, .inl pk)), (y8, .inl (cZ, 12, .inl (fun i => bI (M.testBit i)))), (y9, .inl (cI, 3, .inl (fun i => nI (ls i)))), (y10, .inl (cI, 18, .inl lv)), (y11, .inl (cI, 18, .inl lx)), (y12, .inl (cI, 18, .inl ly)), (y13, .inl (cJ, 15, .inr (.inl (vp_updL ab 0 ((zL (b + (k2 : Nat))) / dG (zL (b + (k2 : Nat))) 1))))), (y14, .inl (cJ, 15, .inr (.inl (vp_updL bl 0 (1 / dG (zL (b + (k2 : Nat))) 1)))))]) ((wset_wgo (nodup_of nd15) rfl).trans rfl) ?_
                            refine v_st (st' := []) rfl ?_
                            refine v_aload_n F dX8_drive_185 (i := 0) rfl 3 rfl (q := 186) rfl ?_
                            refine v_iconst F dX8_drive_186 (v := 1) (q := 187) rfl rfl ?_
                            refine v_iload F dX8_drive_187 7 rfl (q := 189) rfl ?_
                            refine v_i2l F dX8_drive_189 (q := 190) rfl ?_
                            refine v_long (y := zL l2) (zI_i2l (by omega) (by omega)) ?_
                            refine v_lconst F dX8_drive_190 (v := 1) (q := 191) rfl rfl ?_
                            refine v_callV F ml_X8_122 im_X8_tell se_X8_tell in_X8 co_X8_tell sd_X8_tell (c_X8_tell y0 y1 y2 y3 y4 y5 y6 y7 y8 y9 y10 y11 y12 y13 y14 th sd tp n sc sp px py pl pk N M ls lv lx ly (vp_updL ab 0 ((zL (b + (k2 : Nat))) / dG (zL (b + (k2 : Nat))) 1)) (vp_updL bl 0 (1 / dG (zL (b + (k2 : Nat))) 1)) tn wo si t1 t2 1 (zL l2) 1 ⟨G, hsp, P, hM, hls, hlv, hlx, hly, by omega⟩ (by omega) (by rw [zL_toInt (by omega) (by omega)]; omega) (by decide)) ⟨Nat.zero_le _, Nat.zero_le _⟩ (Nat.le_of_ble_eq_true rfl) (Nat.le_of_ble_eq_true rfl) 0 (As := [.int 1, .long (zL l2), .long 1]) rfl rfl rfl rfl rfl [0, 1, 2, 3, 4, 5, 6, 7, 8, 9, 10, 11, 12, 13, 14] rfl nd15 vnd15 (rest := []) rfl (Nat.le_of_ble_eq_true rfl) dX8_drive_191 (q := 194) rfl (fun r w hr => ?_)
                            obtain ⟨rfl, rfl⟩ := hr
                            refine v_ws (ws' := [(y0, .inr (8, [.int (nI n), .ref y1, .ref y2, .ref y3, .int sc, .int sp, .int (nI N), .ref y4, .ref y5, .ref y6, .ref y7, .ref y8, .ref y9, .ref y10, .ref y11, .ref y12, .int (nI tn), .ref y13, .ref y14, .long (zL wo), .long (zL si), .long (zL t1), .long (zL t2)])), (y1, .inl (cI, 6, .inl th)), (y2, .inl (cI, 6, .inl sd)), (y3, .inl (cI, 6, .inl tp)), (y4, .inl (cI, 12, .inl px)), (y5, .inl (cI, 12, .inl py)), (y6, .inl (cI, 12, .inl (fun i => nI (pl i)))), (y7, .inl (cI, 12, .inl pk)), (y8, .inl (cZ, 12, .inl (fun i => bI (M.testBit i)))), (y9, .inl (cI, 3, .inl (fun i => nI (ls i)))), (y10, .inl (cI, 18, .inl lv)), (y11, .inl (cI, 18, .inl lx)), (y12, .inl (cI, 18, .inl ly)), (y13, .inl (cJ, 15, .inr (.inl (vp_updL (vp_updL ab 0 ((zL (b + (k2 : Nat))) / dG (zL (b + (k2 : Nat))) 1)) 1 ((zL l2) / dG (zL l2) 1))))), (y14, .inl (cJ, 15, .inr (.inl (vp_updL (vp_updL bl 0 (1 / dG (zL (b + (k2 : Nat))) 1)) 1 (1 / dG (zL l2) 1)))))]) ((wset_wgo (nodup_of nd15) rfl).trans rfl) ?_
                            refine v_st (st' := []) rfl ?_
                            refine v_aload_n F dX8_drive_194 (i := 0) rfl 3 rfl (q := 195) rfl ?_
                            refine v_iconst F dX8_drive_195 (v := 2) (q := 196) rfl rfl ?_
                            refine v_iload F dX8_drive_196 1 rfl (q := 198) rfl ?_
                            refine v_i2l F dX8_drive_198 (q := 199) rfl ?_
                            refine v_long (y := zL (max mo (k2 : Nat))) (zI_i2l (by omega) (by omega)) ?_
                            refine v_lconst F dX8_drive_199 (v := 1) (q := 200) rfl rfl ?_
                            refine v_callV F ml_X8_122 im_X8_tell se_X8_tell in_X8 co_X8_tell sd_X8_tell (c_X8_tell y0 y1 y2 y3 y4 y5 y6 y7 y8 y9 y10 y11 y12 y13 y14 th sd tp n sc sp px py pl pk N M ls lv lx ly (vp_updL (vp_updL ab 0 ((zL (b + (k2 : Nat))) / dG (zL (b + (k2 : Nat))) 1)) 1 ((zL l2) / dG (zL l2) 1)) (vp_updL (vp_updL bl 0 (1 / dG (zL (b + (k2 : Nat))) 1)) 1 (1 / dG (zL l2) 1)) tn wo si t1 t2 2 (zL (max mo (k2 : Nat))) 1 ⟨G, hsp, P, hM, hls, hlv, hlx, hly, by omega⟩ (by omega) (by rw [zL_toInt (by omega) (by omega)]; omega) (by decide)) ⟨Nat.zero_le _, Nat.zero_le _⟩ (Nat.le_of_ble_eq_true rfl) (Nat.le_of_ble_eq_true rfl) 0 (As := [.int 2, .long (zL (max mo (k2 : Nat))), .long 1]) rfl rfl rfl rfl rfl [0, 1, 2, 3, 4, 5, 6, 7, 8, 9, 10, 11, 12, 13, 14] rfl nd15 vnd15 (rest := []) rfl (Nat.le_of_ble_eq_true rfl) dX8_drive_200 (q := 203) rfl (fun r w hr => ?_)
                            obtain ⟨rfl, rfl⟩ := hr
                            refine v_ws (ws' := [(y0, .inr (8, [.int (nI n), .ref y1, .ref y2, .ref y3, .int sc, .int sp, .int (nI N), .ref y4, .ref y5, .ref y6, .ref y7, .ref y8, .ref y9, .ref y10, .ref y11, .ref y12, .int (nI tn), .ref y13, .ref y14, .long (zL wo), .long (zL si), .long (zL t1), .long (zL t2)])), (y1, .inl (cI, 6, .inl th)), (y2, .inl (cI, 6, .inl sd)), (y3, .inl (cI, 6, .inl tp)), (y4, .inl (cI, 12, .inl px)), (y5, .inl (cI, 12, .inl py)), (y6, .inl (cI, 12, .inl (fun i => nI (pl i)))), (y7, .inl (cI, 12, .inl pk)), (y8, .inl (cZ, 12, .inl (fun i => bI (M.testBit i)))), (y9, .inl (cI, 3, .inl (fun i => nI (ls i)))), (y10, .inl (cI, 18, .inl lv)), (y11, .inl (cI, 18, .inl lx)), (y12, .inl (cI, 18, .inl ly)), (y13, .inl (cJ, 15, .inr (.inl (vp_updL (vp_updL (vp_updL ab 0 ((zL (b + (k2 : Nat))) / dG (zL (b + (k2 : Nat))) 1)) 1 ((zL l2) / dG (zL l2) 1)) 2 ((zL (max mo (k2 : Nat))) / dG (zL (max mo (k2 : Nat))) 1))))), (y14, .inl (cJ, 15, .inr (.inl (vp_updL (vp_updL (vp_updL bl 0 (1 / dG (zL (b + (k2 : Nat))) 1)) 1 (1 / dG (zL l2) 1)) 2 (1 / dG (zL (max mo (k2 : Nat))) 1)))))]) ((wset_wgo (nodup_of nd15) rfl).trans rfl) ?_
                            refine v_st (st' := []) rfl ?_
                            refine v_aload_n F dX8_drive_203 (i := 0) rfl 3 rfl (q := 204) rfl ?_
                            refine v_iconst F dX8_drive_204 (v := 3) (q := 205) rfl rfl ?_
                            refine v_lload F dX8_drive_205 8 rfl (q := 207) rfl ?_
                            refine v_lconst F dX8_drive_207 (v := 1) (q := 208) rfl rfl ?_
                            refine v_callV F ml_X8_122 im_X8_tell se_X8_tell in_X8 co_X8_tell sd_X8_tell (c_X8_tell y0 y1 y2 y3 y4 y5 y6 y7 y8 y9 y10 y11 y12 y13 y14 th sd tp n sc sp px py pl pk N M ls lv lx ly (vp_updL (vp_updL (vp_updL ab 0 ((zL (b + (k2 : Nat))) / dG (zL (b + (k2 : Nat))) 1)) 1 ((zL l2) / dG (zL l2) 1)) 2 ((zL (max mo (k2 : Nat))) / dG (zL (max mo (k2 : Nat))) 1)) (vp_updL (vp_updL (vp_updL bl 0 (1 / dG (zL (b + (k2 : Nat))) 1)) 1 (1 / dG (zL l2) 1)) 2 (1 / dG (zL (max mo (k2 : Nat))) 1)) tn wo si t1 t2 3 (zL us) 1 ⟨G, hsp, P, hM, hls, hlv, hlx, hly, by omega⟩ (by omega) (by rw [zL_toInt (by omega) (by omega)]; omega) (by decide)) ⟨Nat.zero_le _, Nat.zero_le _⟩ (Nat.le_of_ble_eq_true rfl) (Nat.le_of_ble_eq_true rfl) 0 (As := [.int 3, .long (zL us), .long 1]) rfl rfl rfl rfl rfl [0, 1, 2, 3, 4, 5, 6, 7, 8, 9, 10, 11, 12, 13, 14] rfl nd15 vnd15 (rest := []) rfl (Nat.le_of_ble_eq_true rfl) dX8_drive_208 (q := 211) rfl (fun r w hr => ?_)
                            obtain ⟨rfl, rfl⟩ := hr
                            refine v_ws (ws' := [(y0, .inr (8, [.int (nI n), .ref y1, .ref y2, .ref y3, .int sc, .int sp, .int (nI N), .ref y4, .ref y5, .ref y6, .ref y7, .ref y8, .ref y9, .ref y10, .ref y11, .ref y12, .int (nI tn), .ref y13, .ref y14, .long (zL wo), .long (zL si), .long (zL t1), .long (zL t2)])), (y1, .inl (cI, 6, .inl th)), (y2, .inl (cI, 6, .inl sd)), (y3, .inl (cI, 6, .inl tp)), (y4, .inl (cI, 12, .inl px)), (y5, .inl (cI, 12, .inl py)), (y6, .inl (cI, 12, .inl (fun i => nI (pl i)))), (y7, .inl (cI, 12, .inl pk)), (y8, .inl (cZ, 12, .inl (fun i => bI (M.testBit i)))), (y9, .inl (cI, 3, .inl (fun i => nI (ls i)))), (y10, .inl (cI, 18, .inl lv)), (y11, .inl (cI, 18, .inl lx)), (y12, .inl (cI, 18, .inl ly)), (y13, .inl (cJ, 15, .inr (.inl (vp_updL (vp_updL (vp_updL (vp_updL ab 0 ((zL (b + (k2 : Nat))) / dG (zL (b + (k2 : Nat))) 1)) 1 ((zL l2) / dG (zL l2) 1)) 2 ((zL (max mo (k2 : Nat))) / dG (zL (max mo (k2 : Nat))) 1)) 3 ((zL us) / dG (zL us) 1))))), (y14, .inl (cJ, 15, .inr (.inl (vp_updL (vp_updL (vp_updL (vp_updL bl 0 (1 / dG (zL (b + (k2 : Nat))) 1)) 1 (1 / dG (zL l2) 1)) 2 (1 / dG (zL (max mo (k2 : Nat))) 1)) 3 (1 / dG (zL us) 1)))))]) ((wset_wgo (nodup_of nd15) rfl).trans rfl) ?_
                            refine v_st (st' := []) rfl ?_
                            refine v_aload_n F dX8_drive_211 (i := 0) rfl 3 rfl (q := 212) rfl ?_
                            refine v_iconst F dX8_drive_212 (v := 4) (q := 213) rfl rfl ?_
                            refine pt_X8_130 F dX8_drive_213 0 rfl (Nat.le_of_ble_eq_true rfl) (q := 216) rfl ?_
                            refine v_ws (ws' := [(y0, .inr (8, [.int (nI n), .ref y1, .ref y2, .ref y3, .int sc, .int sp, .int (nI N), .ref y4, .ref y5, .ref y6, .ref y7, .ref y8, .ref y9, .ref y10, .ref y11, .ref y12, .int 4, .ref y13, .ref y14, .long (zL wo), .long (zL si), .long (zL t1), .long (zL t2)])), (y1, .inl (cI, 6, .inl th)), (y2, .inl (cI, 6, .inl sd)), (y3, .inl (cI, 6, .inl tp)), (y4, .inl (cI, 12, .inl px)), (y5, .inl (cI, 12, .inl py)), (y6, .inl (cI, 12, .inl (fun i => nI (pl i)))), (y7, .inl (cI, 12, .inl pk)), (y8, .inl (cZ, 12, .inl (fun i => bI (M.testBit i)))), (y9, .inl (cI, 3, .inl (fun i => nI (ls i)))), (y10, .inl (cI, 18, .inl lv)), (y11, .inl (cI, 18, .inl lx)), (y12, .inl (cI, 18, .inl ly)), (y13, .inl (cJ, 15, .inr (.inl (vp_updL (vp_updL (vp_updL (vp_updL ab 0 ((zL (b + (k2 : Nat))) / dG (zL (b + (k2 : Nat))) 1)) 1 ((zL l2) / dG (zL l2) 1)) 2 ((zL (max mo (k2 : Nat))) / dG (zL (max mo (k2 : Nat))) 1)) 3 ((zL us) / dG (zL us) 1))))), (y14, .inl (cJ, 15, .inr (.inl (vp_updL (vp_updL (vp_updL (vp_updL bl 0 (1 / dG (zL (b + (k2 : Nat))) 1)) 1 (1 / dG (zL l2) 1)) 2 (1 / dG (zL (max mo (k2 : Nat))) 1)) 3 (1 / dG (zL us) 1)))))]) rfl ?_
                            refine v_iload F dX8_drive_216 9 rfl (q := 218) rfl ?_
                            exact hE rfl dX8_drive_218 (Nat.zero_le _) (Nat.zero_le _) ⟨(by have hf : fDrive (nI k) (zI e0) (nI mm) (th, sd, tp, n, sc, sp, px, py, pl, pk, N, M, ls, lv, lx, ly, ab, bl, tn) = (nI u, (th, sd, tp, n, sc, sp, px, py, pl, pk, N, M, ls, lv, lx, ly, tdA ab (dvE ((b + (k2 : Nat)), l2, (max mo (k2 : Nat)), us)) (fun _ => 1) 4, tdB bl (dvE ((b + (k2 : Nat)), l2, (max mo (k2 : Nat)), us)) (fun _ => 1) 4, 4)) := (by simp only [fDrive]; rw [if_pos ⟨c5, c16, c27⟩, hpk, hpm, hpe, hf]); exact ⟨(wo, si, t1, t2), by rw [hf] <;> rfl, by rw [hf]; rfl⟩), Nat.le_of_ble_eq_true rfl⟩
                          · exact absurd rfl c52
                        · exact absurd rfl c152
                      · exact absurd ((zI_lt (by omega) (by omega) (by omega) (by omega)).mpr (by omega)) c140
                  · skip
                    rw [nI_leI (by omega) (by omega)] at c98
                    obtain ⟨d2, rfl⟩ : ∃ d3, d2 = d3 + 1 := ⟨d2 - 1, by omega⟩
                    simp only [dvF] at hf2
                    rw [if_pos (by omega)] at hf2
                    refine v_iload F dX8_drive_101 5 rfl (q := 103) rfl ?_
                    refine v_iload_n F dX8_drive_103 (i := 2) rfl 2 rfl (q := 104) rfl ?_
                    refine v_iadd F dX8_drive_104 (q := 105) rfl ?_
                    refine v_int (y := zI (l2 + e0)) (zI_add _ _) ?_
                    refine v_istore F dX8_drive_105 (lv' := [(5, .int (zI (l2 + e0))), (0, .ref y0), (1, .int (nI k)), (2, .int (zI e0)), (3, .int (nI mm)), (4, .int (zI b)), (6, .int (zI mo)), (7, .long (zL us)), (9, .int (nI u)), (11, .int (zI (gBE th sd tp n sc (u + 1)))), (12, .int (nI k2))]) (Nat.le_of_ble_eq_true rfl) rfl (q := 107) rfl ?_
                    refine v_iinc F dX8_drive_107 10 rfl (v := nI (k2 + 1)) (lv' := [(12, .int (nI (k2 + 1))), (5, .int (zI (l2 + e0))), (0, .ref y0), (1, .int (nI k)), (2, .int (zI e0)), (3, .int (nI mm)), (4, .int (zI b)), (6, .int (zI mo)), (7, .long (zL us)), (9, .int (nI u)), (11, .int (zI (gBE th sd tp n sc (u + 1))))]) (nI_1 k2) (Nat.le_of_ble_eq_true rfl) rfl (q := 110) rfl ?_
                    refine v_goto F dX8_drive_110 (tgt := 88) rfl ?_
                    refine v_lv (lv' := [(0, .ref y0), (1, .int (nI k)), (2, .int (zI e0)), (3, .int (nI mm)), (4, .int (zI b)), (5, .int (zI (l2 + e0))), (6, .int (zI mo)), (7, .long (zL us)), (9, .int (nI u)), (11, .int (zI (gBE th sd tp n sc (u + 1)))), (12, .int (nI (k2 + 1)))]) [2, 3, 4, 5, 6, 1, 7, 8, 9, 10, 0] rfl ?_
                    exact ih2 d2 (by omega) (k2 + 1) (l2 + e0) (by omega) hf2 (by omega) (by omega)
              refine v_lv (lv' := [(0, .ref y0), (1, .int (nI k)), (2, .int (zI e0)), (3, .int (nI mm)), (4, .int (zI b)), (5, .int (zI lf)), (6, .int (zI mo)), (7, .long (zL us)), (9, .int (nI u)), (11, .int (zI (gBE th sd tp n sc (u + 1)))), (12, .int 0)]) [2, 3, 4, 5, 6, 7, 8, 9, 10, 1, 0] rfl ?_
              exact L88 mm 0 lf (by omega) rfl (by omega) (by omega)
        refine v_lv (lv' := [(0, .ref y0), (1, .int (nI k)), (2, .int (zI e0)), (3, .int (nI mm)), (4, .int 0), (5, .int 0), (6, .int 0), (7, .long 0), (9, .int 0), (10, .int 1)]) [6, 7, 8, 9, 5, 4, 3, 2, 1, 0] rfl ?_
        exact L50 (pl k) 0 0 0 0 0 (by omega) rfl (by unfold dvOK; simp)
      · skip
        rw [bI_z] at c27
        refine v_iconst F dX8_drive_30 (v := (-1)) (q := 31) rfl rfl ?_
        exact hE rfl dX8_drive_31 (Nat.zero_le _) (Nat.zero_le _) ⟨(by have hf : fDrive (nI k) e1 m1 (th, sd, tp, n, sc, sp, px, py, pl, pk, N, M, ls, lv, lx, ly, ab, bl, tn) = (-1, (th, sd, tp, n, sc, sp, px, py, pl, pk, N, M, ls, lv, lx, ly, ab, bl, tn)) := (by simp only [fDrive]; rw [if_neg (fun z => by simp [c27] at z)]); exact ⟨(wo, si, t1, t2), by rw [hf] <;> rfl, by rw [hf]; rfl⟩), Nat.le_of_ble_eq_true rfl⟩

set_option maxHeartbeats 4000000 in
set_option maxRecDepth 100000 in
theorem c_X8_drag (y0 y1 y2 y3 y4 y5 y6 y7 y8 y9 y10 y11 y12 y13 y14 : Nat) (th : Nat → Int32) (sd : Nat → Int32) (tp : Nat → Int32) (n : Nat) (sc : Int32) (sp : Int32) (px : Nat → Int32) (py : Nat → Int32) (pl : Nat → Nat) (pk : Nat → Int32) (N : Nat) (M : Nat) (ls : Nat → Nat) (lv : Nat → Int32) (lx : Nat → Int32) (ly : Nat → Int32) (ab : Nat → Int64) (bl : Nat → Int64) (tn : Nat) (wo si t1 t2 : Int) (p0 g1 : Int32) (VI : INV (th, sd, tp, n, sc, sp, px, py, pl, pk, N, M, ls, lv, lx, ly, ab, bl, tn)) : Ct l D (TY cI cJ cZ) yX8_drag cX8_drag 11 (some .int) 3 68 0 0 [.ref y0, .int p0, .int g1] [(y0, .inr (8, [.int (nI n), .ref y1, .ref y2, .ref y3, .int sc, .int sp, .int (nI N), .ref y4, .ref y5, .ref y6, .ref y7, .ref y8, .ref y9, .ref y10, .ref y11, .ref y12, .int (nI tn), .ref y13, .ref y14, .long (zL wo), .long (zL si), .long (zL t1), .long (zL t2)])), (y1, .inl (cI, 6, .inl th)), (y2, .inl (cI, 6, .inl sd)), (y3, .inl (cI, 6, .inl tp)), (y4, .inl (cI, 12, .inl px)), (y5, .inl (cI, 12, .inl py)), (y6, .inl (cI, 12, .inl (fun i => nI (pl i)))), (y7, .inl (cI, 12, .inl pk)), (y8, .inl (cZ, 12, .inl (fun i => bI (M.testBit i)))), (y9, .inl (cI, 3, .inl (fun i => nI (ls i)))), (y10, .inl (cI, 18, .inl lv)), (y11, .inl (cI, 18, .inl lx)), (y12, .inl (cI, 18, .inl ly)), (y13, .inl (cJ, 15, .inr (.inl ab))), (y14, .inl (cJ, 15, .inr (.inl bl)))] (fun r w => ∃ X : Int × Int × Int × Int, r = some (.int (fDrag p0 g1 (th, sd, tp, n, sc, sp, px, py, pl, pk, N, M, ls, lv, lx, ly, ab, bl, tn)).1) ∧ w = WM cI cJ cZ y0 y1 y2 y3 y4 y5 y6 y7 y8 y9 y10 y11 y12 y13 y14 (fDrag p0 g1 (th, sd, tp, n, sc, sp, px, py, pl, pk, N, M, ls, lv, lx, ly, ab, bl, tn)).2 X) := by
  refine Ct.ofI (ty := .int) (by decide) (Nat.le_of_ble_eq_true rfl) ?_
  intro p e s m args below meth c A R Q F hnm hcs0 hE
  refine v_lv (lv' := [(0, .ref y0), (1, .int p0), (2, .int g1)]) [0, 1, 2] rfl ?_
  obtain ⟨G, hsp, P, hM, hls, hlv, hlx, hly, htn⟩ := id VI
  have hn6 := G.1
  have hN12 := P.1
  have hM4 : M < 4096 := Nat.lt_of_lt_of_le hM (Nat.pow_le_pow_right (by omega) hN12)
  refine v_aload_n F dX8_drag_0 (i := 0) rfl 0 rfl (q := 1) rfl ?_
  refine v_iload_n F dX8_drag_1 (i := 1) rfl 1 rfl (q := 2) rfl ?_
  refine v_callV F ml_X8_82 im_X8_isPile se_X8_isPile in_X8 co_X8_isPile sd_X8_isPile (c_X8_isPile y0 y1 y2 y3 y4 y5 y6 y7 y8 y9 y10 y11 y12 y13 y14 th sd tp n sc sp px py pl pk N M ls lv lx ly ab bl tn wo si t1 t2 p0 ⟨G, hsp, P, hM, hls, hlv, hlx, hly, by omega⟩ ) ⟨Nat.zero_le _, Nat.zero_le _⟩ (Nat.le_of_ble_eq_true rfl) (Nat.le_of_ble_eq_true rfl) 0 (As := [.int p0]) rfl rfl rfl rfl rfl [0, 1, 2, 3, 4, 5, 6, 7, 8, 9, 10, 11, 12, 13, 14] rfl nd15 vnd15 (rest := []) rfl (Nat.le_of_ble_eq_true rfl) dX8_drag_2 (q := 5) rfl (fun r w hr => ?_)
  obtain ⟨rfl, rfl⟩ := hr
  refine v_ws (ws' := [(y0, .inr (8, [.int (nI n), .ref y1, .ref y2, .ref y3, .int sc, .int sp, .int (nI N), .ref y4, .ref y5, .ref y6, .ref y7, .ref y8, .ref y9, .ref y10, .ref y11, .ref y12, .int (nI tn), .ref y13, .ref y14, .long (zL wo), .long (zL si), .long (zL t1), .long (zL t2)])), (y1, .inl (cI, 6, .inl th)), (y2, .inl (cI, 6, .inl sd)), (y3, .inl (cI, 6, .inl tp)), (y4, .inl (cI, 12, .inl px)), (y5, .inl (cI, 12, .inl py)), (y6, .inl (cI, 12, .inl (fun i => nI (pl i)))), (y7, .inl (cI, 12, .inl pk)), (y8, .inl (cZ, 12, .inl (fun i => bI (M.testBit i)))), (y9, .inl (cI, 3, .inl (fun i => nI (ls i)))), (y10, .inl (cI, 18, .inl lv)), (y11, .inl (cI, 18, .inl lx)), (y12, .inl (cI, 18, .inl ly)), (y13, .inl (cJ, 15, .inr (.inl ab))), (y14, .inl (cJ, 15, .inr (.inl bl)))]) ((wset_wgo (nodup_of nd15) rfl).trans rfl) ?_
  refine v_st (st' := [.int (bI (hasB p0 N))]) rfl ?_
  refine v_if_eq F dX8_drag_5 (tgt := 18) rfl (q := 8) rfl (fun c5 => ?_) (fun c5 => ?_)
  · skip
    rw [bI_z] at c5
    refine v_iconst F dX8_drag_18 (v := (-1)) (q := 19) rfl rfl ?_
    exact hE rfl dX8_drag_19 (Nat.zero_le _) (Nat.zero_le _) ⟨(by have hf : fDrag p0 g1 (th, sd, tp, n, sc, sp, px, py, pl, pk, N, M, ls, lv, lx, ly, ab, bl, tn) = (-1, (th, sd, tp, n, sc, sp, px, py, pl, pk, N, M, ls, lv, lx, ly, ab, bl, tn)) := (by simp only [fDrag]; rw [if_neg (fun z => by simp [c5] at z)]); exact ⟨(wo, si, t1, t2), by rw [hf] <;> rfl, by rw [hf]; rfl⟩), Nat.le_of_ble_eq_true rfl⟩
  · skip
    rw [bI_nz] at c5
    obtain ⟨k, hk, rfl⟩ := hasB_ex c5
    have hpk := pN_nI (k := k) (by omega)
    have hpl := P.2.2.2.1 k hk
    have qp := gPU_rng G (pl k)
    have qt := gTI_rng G (pl k)
    refine v_iload_n F dX8_drag_8 (i := 2) rfl 2 rfl (q := 9) rfl ?_
    refine v_iconst F dX8_drag_9 (v := 0) (q := 10) rfl rfl ?_
    refine v_ldc F kc_X8_149 dX8_drag_10 (q := 12) rfl ?_
    refine v_callS F ml_X8_54 sm_X8_in in_X8 co_X8_in sd_X8_in (c_X8_in g1 0 100000) ⟨Nat.zero_le _, Nat.zero_le _⟩ (Nat.le_of_ble_eq_true rfl) (Nat.le_of_ble_eq_true rfl) rfl [] rfl rfl rfl (rest := []) rfl (Nat.le_of_ble_eq_true rfl) dX8_drag_12 (q := 15) rfl (fun r w hr => ?_)
    obtain ⟨rfl, rfl⟩ := hr
    refine v_ws (ws' := [(y0, .inr (8, [.int (nI n), .ref y1, .ref y2, .ref y3, .int sc, .int sp, .int (nI N), .ref y4, .ref y5, .ref y6, .ref y7, .ref y8, .ref y9, .ref y10, .ref y11, .ref y12, .int (nI tn), .ref y13, .ref y14, .long (zL wo), .long (zL si), .long (zL t1), .long (zL t2)])), (y1, .inl (cI, 6, .inl th)), (y2, .inl (cI, 6, .inl sd)), (y3, .inl (cI, 6, .inl tp)), (y4, .inl (cI, 12, .inl px)), (y5, .inl (cI, 12, .inl py)), (y6, .inl (cI, 12, .inl (fun i => nI (pl i)))), (y7, .inl (cI, 12, .inl pk)), (y8, .inl (cZ, 12, .inl (fun i => bI (M.testBit i)))), (y9, .inl (cI, 3, .inl (fun i => nI (ls i)))), (y10, .inl (cI, 18, .inl lv)), (y11, .inl (cI, 18, .inl lx)), (y12, .inl (cI, 18, .inl ly)), (y13, .inl (cJ, 15, .inr (.inl ab))), (y14, .inl (cJ, 15, .inr (.inl bl)))]) rfl ?_
    refine v_st (st' := [.int (bI (inR g1 0 100000))]) rfl ?_
    refine v_if_ne F dX8_drag_15 (tgt := 20) rfl (q := 18) rfl (fun c15 => ?_) (fun c15 => ?_)
    · skip
      rw [bI_nz] at c15
      have hgv : 0 ≤ g1.toInt ∧ g1.toInt ≤ 100000 := inR_iff.mp c15
      have htw : -200000 ≤ (gPU th sd n sc (pl k) + gTI th tp n (pl k) - g1.toInt) ∧ (gPU th sd n sc (pl k) + gTI th tp n (pl k) - g1.toInt) ≤ 200000 := by omega
      refine v_aload_n F dX8_drag_20 (i := 0) rfl 0 rfl (q := 21) rfl ?_
      refine gt_X8_25 F dX8_drag_21 0 rfl rfl (q := 24) rfl ?_
      refine v_iload_n F dX8_drag_24 (i := 1) rfl 1 rfl (q := 25) rfl ?_
      refine v_ialdN F 6 0 rfl rfl (j := k) (by omega) (by decide) dX8_drag_25 (q := 26) rfl ?_
      refine v_st (st' := [.int (nI (pl k))]) rfl ?_
      refine v_istore_n F dX8_drag_26 (i := 3) (lv' := [(3, .int (nI (pl k))), (0, .ref y0), (1, .int (nI k)), (2, .int g1)]) rfl (Nat.le_of_ble_eq_true rfl) rfl (q := 27) rfl ?_
      refine v_aload_n F dX8_drag_27 (i := 0) rfl 1 rfl (q := 28) rfl ?_
      refine v_iload_n F dX8_drag_28 (i := 3) rfl 0 rfl (q := 29) rfl ?_
      refine v_callV F ml_X8_86 im_X8_pullOf se_X8_pullOf in_X8 co_X8_pullOf sd_X8_pullOf (c_X8_pullOf y0 y1 y2 y3 y4 y5 y6 y7 y8 y9 y10 y11 y12 y13 y14 th sd tp n sc sp px py pl pk N M ls lv lx ly ab bl tn wo si t1 t2 (pl k) ⟨G, hsp, P, hM, hls, hlv, hlx, hly, by omega⟩ (by omega)) ⟨Nat.zero_le _, Nat.zero_le _⟩ (Nat.le_of_ble_eq_true rfl) (Nat.le_of_ble_eq_true rfl) 0 (As := [.int (nI (pl k))]) rfl rfl rfl rfl rfl [0, 1, 2, 3, 4, 5, 6, 7, 8, 9, 10, 11, 12, 13, 14] rfl nd15 vnd15 (rest := []) rfl (Nat.le_of_ble_eq_true rfl) dX8_drag_29 (q := 32) rfl (fun r w hr => ?_)
      obtain ⟨rfl, rfl⟩ := hr
      refine v_ws (ws' := [(y0, .inr (8, [.int (nI n), .ref y1, .ref y2, .ref y3, .int sc, .int sp, .int (nI N), .ref y4, .ref y5, .ref y6, .ref y7, .ref y8, .ref y9, .ref y10, .ref y11, .ref y12, .int (nI tn), .ref y13, .ref y14, .long (zL wo), .long (zL si), .long (zL t1), .long (zL t2)])), (y1, .inl (cI, 6, .inl th)), (y2, .inl (cI, 6, .inl sd)), (y3, .inl (cI, 6, .inl tp)), (y4, .inl (cI, 12, .inl px)), (y5, .inl (cI, 12, .inl py)), (y6, .inl (cI, 12, .inl (fun i => nI (pl i)))), (y7, .inl (cI, 12, .inl pk)), (y8, .inl (cZ, 12, .inl (fun i => bI (M.testBit i)))), (y9, .inl (cI, 3, .inl (fun i => nI (ls i)))), (y10, .inl (cI, 18, .inl lv)), (y11, .inl (cI, 18, .inl lx)), (y12, .inl (cI, 18, .inl ly)), (y13, .inl (cJ, 15, .inr (.inl ab))), (y14, .inl (cJ, 15, .inr (.inl bl)))]) ((wset_wgo (nodup_of nd15) rfl).trans rfl) ?_
      refine v_st (st' := [.int (zI (gPU th sd n sc (pl k)))]) rfl ?_
      refine v_istore F dX8_drag_32 (lv' := [(4, .int (zI (gPU th sd n sc (pl k)))), (3, .int (nI (pl k))), (0, .ref y0), (1, .int (nI k)), (2, .int g1)]) (Nat.le_of_ble_eq_true rfl) rfl (q := 34) rfl ?_
      refine v_aload_n F dX8_drag_34 (i := 0) rfl 2 rfl (q := 35) rfl ?_
      refine v_iload_n F dX8_drag_35 (i := 3) rfl 1 rfl (q := 36) rfl ?_
      refine v_callV F ml_X8_89 im_X8_tipOf se_X8_tipOf in_X8 co_X8_tipOf sd_X8_tipOf (c_X8_tipOf y0 y1 y2 y3 y4 y5 y6 y7 y8 y9 y10 y11 y12 y13 y14 th sd tp n sc sp px py pl pk N M ls lv lx ly ab bl tn wo si t1 t2 (pl k) ⟨G, hsp, P, hM, hls, hlv, hlx, hly, by omega⟩ (by omega)) ⟨Nat.zero_le _, Nat.zero_le _⟩ (Nat.le_of_ble_eq_true rfl) (Nat.le_of_ble_eq_true rfl) 0 (As := [.int (nI (pl k))]) rfl rfl rfl rfl rfl [0, 1, 2, 3, 4, 5, 6, 7, 8, 9, 10, 11, 12, 13, 14] rfl nd15 vnd15 (rest := []) rfl (Nat.le_of_ble_eq_true rfl) dX8_drag_36 (q := 39) rfl (fun r w hr => ?_)
      obtain ⟨rfl, rfl⟩ := hr
      refine v_ws (ws' := [(y0, .inr (8, [.int (nI n), .ref y1, .ref y2, .ref y3, .int sc, .int sp, .int (nI N), .ref y4, .ref y5, .ref y6, .ref y7, .ref y8, .ref y9, .ref y10, .ref y11, .ref y12, .int (nI tn), .ref y13, .ref y14, .long (zL wo), .long (zL si), .long (zL t1), .long (zL t2)])), (y1, .inl (cI, 6, .inl th)), (y2, .inl (cI, 6, .inl sd)), (y3, .inl (cI, 6, .inl tp)), (y4, .inl (cI, 12, .inl px)), (y5, .inl (cI, 12, .inl py)), (y6, .inl (cI, 12, .inl (fun i => nI (pl i)))), (y7, .inl (cI, 12, .inl pk)), (y8, .inl (cZ, 12, .inl (fun i => bI (M.testBit i)))), (y9, .inl (cI, 3, .inl (fun i => nI (ls i)))), (y10, .inl (cI, 18, .inl lv)), (y11, .inl (cI, 18, .inl lx)), (y12, .inl (cI, 18, .inl ly)), (y13, .inl (cJ, 15, .inr (.inl ab))), (y14, .inl (cJ, 15, .inr (.inl bl)))]) ((wset_wgo (nodup_of nd15) rfl).trans rfl) ?_
      refine v_st (st' := [.int (zI (gTI th tp n (pl k)))]) rfl ?_
      refine v_istore F dX8_drag_39 (lv' := [(5, .int (zI (gTI th tp n (pl k)))), (4, .int (zI (gPU th sd n sc (pl k)))), (3, .int (nI (pl k))), (0, .ref y0), (1, .int (nI k)), (2, .int g1)]) (Nat.le_of_ble_eq_true rfl) rfl (q := 41) rfl ?_
      refine v_iload_n F dX8_drag_41 (i := 2) rfl 5 rfl (q := 42) rfl ?_
      refine v_iload F dX8_drag_42 1 rfl (q := 44) rfl ?_
      refine v_iload F dX8_drag_44 0 rfl (q := 46) rfl ?_
      refine v_iadd F dX8_drag_46 (q := 47) rfl ?_
      refine v_int (y := zI (gPU th sd n sc (pl k) + gTI th tp n (pl k))) (zI_add _ _) ?_
      refine v_icmp_le F dX8_drag_47 (tgt := 53) rfl (q := 50) rfl (fun c47 => ?_) (fun c47 => ?_)
      · skip
        rw [Int32.le_iff_toInt_le, zI_toInt (by omega) (by omega)] at c47
        refine v_iload F dX8_drag_53 1 rfl (q := 55) rfl ?_
        refine v_iload F dX8_drag_55 0 rfl (q := 57) rfl ?_
        refine v_iadd F dX8_drag_57 (q := 58) rfl ?_
        refine v_iload_n F dX8_drag_58 (i := 2) rfl 5 rfl (q := 59) rfl ?_
        refine v_isub F dX8_drag_59 (q := 60) rfl ?_
        refine v_int (y := zI (gPU th sd n sc (pl k) + gTI th tp n (pl k) - g1.toInt)) (by rw [zI_add, ← zI_as g1, zI_sub, zI_as]) ?_
        refine v_istore F dX8_drag_60 (lv' := [(6, .int (zI (gPU th sd n sc (pl k) + gTI th tp n (pl k) - g1.toInt))), (5, .int (zI (gTI th tp n (pl k)))), (4, .int (zI (gPU th sd n sc (pl k)))), (3, .int (nI (pl k))), (0, .ref y0), (1, .int (nI k)), (2, .int g1)]) (Nat.le_of_ble_eq_true rfl) rfl (q := 62) rfl ?_
        refine v_aload_n F dX8_drag_62 (i := 0) rfl 4 rfl (q := 63) rfl ?_
        refine v_iconst F dX8_drag_63 (v := 2) (q := 64) rfl rfl ?_
        refine pt_X8_130 F dX8_drag_64 0 rfl (Nat.le_of_ble_eq_true rfl) (q := 67) rfl ?_
        refine v_ws (ws' := [(y0, .inr (8, [.int (nI n), .ref y1, .ref y2, .ref y3, .int sc, .int sp, .int (nI N), .ref y4, .ref y5, .ref y6, .ref y7, .ref y8, .ref y9, .ref y10, .ref y11, .ref y12, .int 2, .ref y13, .ref y14, .long (zL wo), .long (zL si), .long (zL t1), .long (zL t2)])), (y1, .inl (cI, 6, .inl th)), (y2, .inl (cI, 6, .inl sd)), (y3, .inl (cI, 6, .inl tp)), (y4, .inl (cI, 12, .inl px)), (y5, .inl (cI, 12, .inl py)), (y6, .inl (cI, 12, .inl (fun i => nI (pl i)))), (y7, .inl (cI, 12, .inl pk)), (y8, .inl (cZ, 12, .inl (fun i => bI (M.testBit i)))), (y9, .inl (cI, 3, .inl (fun i => nI (ls i)))), (y10, .inl (cI, 18, .inl lv)), (y11, .inl (cI, 18, .inl lx)), (y12, .inl (cI, 18, .inl ly)), (y13, .inl (cJ, 15, .inr (.inl ab))), (y14, .inl (cJ, 15, .inr (.inl bl)))]) rfl ?_
        refine v_iload F dX8_drag_67 0 rfl (q := 69) rfl ?_
        refine v_iconst F dX8_drag_69 (v := 2) (q := 70) rfl rfl ?_
        refine v_iload F dX8_drag_70 2 rfl (q := 72) rfl ?_
        refine v_imul F dX8_drag_72 (q := 73) rfl ?_
        refine v_int (y := zI (2 * gPU th sd n sc (pl k))) (by rw [show (2 : Int32) = zI 2 from rfl, zI_mul]) ?_
        refine v_icmp_le F dX8_drag_73 (tgt := 97) rfl (q := 76) rfl (fun c73 => ?_) (fun c73 => ?_)
        · skip
          rw [zI_le (by omega) (by omega) (by omega) (by omega)] at c73
          refine v_iconst F dX8_drag_97 (v := 0) (q := 98) rfl rfl ?_
          refine v_istore F dX8_drag_98 (lv' := [(7, .int 0), (6, .int (zI (gPU th sd n sc (pl k) + gTI th tp n (pl k) - g1.toInt))), (5, .int (zI (gTI th tp n (pl k)))), (4, .int (zI (gPU th sd n sc (pl k)))), (3, .int (nI (pl k))), (0, .ref y0), (1, .int (nI k)), (2, .int g1)]) (Nat.le_of_ble_eq_true rfl) rfl (q := 100) rfl ?_
          refine v_iconst F dX8_drag_100 (v := 0) (q := 101) rfl rfl ?_
          refine v_istore F dX8_drag_101 (lv' := [(8, .int 0), (7, .int 0), (6, .int (zI (gPU th sd n sc (pl k) + gTI th tp n (pl k) - g1.toInt))), (5, .int (zI (gTI th tp n (pl k)))), (4, .int (zI (gPU th sd n sc (pl k)))), (3, .int (nI (pl k))), (0, .ref y0), (1, .int (nI k)), (2, .int g1)]) (Nat.le_of_ble_eq_true rfl) rfl (q := 103) rfl ?_
          have L103 : ∀ (d u : Nat), u + d = pl k → dgU (gSD th sd n sc) (gPU th sd n sc) (gPU th sd n sc (pl k) + gTI th tp n (pl k) - g1.toInt) (pl k) 0 = dgU (gSD th sd n sc) (gPU th sd n sc) (gPU th sd n sc (pl k) + gTI th tp n (pl k) - g1.toInt) d u → (u = 0 ∨ 2 * gPU th sd n sc u < (gPU th sd n sc (pl k) + gTI th tp n (pl k) - g1.toInt)) → V p l e R s m args below meth c D A 11 0 0 Q 103 [(0, .ref y0), (1, .int (nI k)), (2, .int g1), (3, .int (nI (pl k))), (4, .int (zI (gPU th sd n sc (pl k)))), (5, .int (zI (gTI th tp n (pl k)))), (6, .int (zI (gPU th sd n sc (pl k) + gTI th tp n (pl k) - g1.toInt))), (7, .int (zI (gPU th sd n sc u))), (8, .int (nI u))] [] [(y0, .inr (8, [.int (nI n), .ref y1, .ref y2, .ref y3, .int sc, .int sp, .int (nI N), .ref y4, .ref y5, .ref y6, .ref y7, .ref y8, .ref y9, .ref y10, .ref y11, .ref y12, .int 2, .ref y13, .ref y14, .long (zL wo), .long (zL si), .long (zL t1), .long (zL t2)])), (y1, .inl (cI, 6, .inl th)), (y2, .inl (cI, 6, .inl sd)), (y3, .inl (cI, 6, .inl tp)), (y4, .inl (cI, 12, .inl px)), (y5, .inl (cI, 12, .inl py)), (y6, .inl (cI, 12, .inl (fun i => nI (pl i)))), (y7, .inl (cI, 12, .inl pk)), (y8, .inl (cZ, 12, .inl (fun i => bI (M.testBit i)))), (y9, .inl (cI, 3, .inl (fun i => nI (ls i)))), (y10, .inl (cI, 18, .inl lv)), (y11, .inl (cI, 18, .inl lx)), (y12, .inl (cI, 18, .inl ly)), (y13, .inl (cJ, 15, .inr (.inl ab))), (y14, .inl (cJ, 15, .inr (.inl bl)))] := by
            intro d
            induction d using Nat.strongRecOn with
            | _ d ih => ?_
            intro u hu hf hlow
            have q1 := gSD_rng G u
            have q2 := gPU_rng G u
            have hg0 : gPU th sd n sc 0 = 0 := rfl
            refine v_iconst F dX8_drag_103 (v := 2) (q := 104) rfl rfl ?_
            refine v_iload F dX8_drag_104 7 rfl (q := 106) rfl ?_
            refine v_aload_n F dX8_drag_106 (i := 0) rfl 0 rfl (q := 107) rfl ?_
            refine v_iload F dX8_drag_107 8 rfl (q := 109) rfl ?_
            refine v_callV F ml_X8_72 im_X8_sideOf se_X8_sideOf in_X8 co_X8_sideOf sd_X8_sideOf (c_X8_sideOf y0 y1 y2 y3 y4 y5 y6 y7 y8 y9 y10 y11 y12 y13 y14 th sd tp n sc sp px py pl pk N M ls lv lx ly ab bl 2 wo si t1 t2 u ⟨G, hsp, P, hM, hls, hlv, hlx, hly, by omega⟩ (by omega)) ⟨Nat.zero_le _, Nat.zero_le _⟩ (Nat.le_of_ble_eq_true rfl) (Nat.le_of_ble_eq_true rfl) 0 (As := [.int (nI u)]) rfl rfl rfl rfl rfl [0, 1, 2, 3, 4, 5, 6, 7, 8, 9, 10, 11, 12, 13, 14] rfl nd15 vnd15 (rest := [.int (zI (gPU th sd n sc u)), .int 2]) rfl (Nat.le_of_ble_eq_true rfl) dX8_drag_109 (q := 112) rfl (fun r w hr => ?_)
            obtain ⟨rfl, rfl⟩ := hr
            refine v_ws (ws' := [(y0, .inr (8, [.int (nI n), .ref y1, .ref y2, .ref y3, .int sc, .int sp, .int (nI N), .ref y4, .ref y5, .ref y6, .ref y7, .ref y8, .ref y9, .ref y10, .ref y11, .ref y12, .int 2, .ref y13, .ref y14, .long (zL wo), .long (zL si), .long (zL t1), .long (zL t2)])), (y1, .inl (cI, 6, .inl th)), (y2, .inl (cI, 6, .inl sd)), (y3, .inl (cI, 6, .inl tp)), (y4, .inl (cI, 12, .inl px)), (y5, .inl (cI, 12, .inl py)), (y6, .inl (cI, 12, .inl (fun i => nI (pl i)))), (y7, .inl (cI, 12, .inl pk)), (y8, .inl (cZ, 12, .inl (fun i => bI (M.testBit i)))), (y9, .inl (cI, 3, .inl (fun i => nI (ls i)))), (y10, .inl (cI, 18, .inl lv)), (y11, .inl (cI, 18, .inl lx)), (y12, .inl (cI, 18, .inl ly)), (y13, .inl (cJ, 15, .inr (.inl ab))), (y14, .inl (cJ, 15, .inr (.inl bl)))]) ((wset_wgo (nodup_of nd15) rfl).trans rfl) ?_
            refine v_st (st' := [.int (zI (gSD th sd n sc u)), .int (zI (gPU th sd n sc u)), .int 2]) rfl ?_
            refine v_iadd F dX8_drag_112 (q := 113) rfl ?_
            refine v_imul F dX8_drag_113 (q := 114) rfl ?_
            refine v_int (y := zI (2 * (gPU th sd n sc u + gSD th sd n sc u))) (by rw [zI_add, show (2 : Int32) = zI 2 from rfl, zI_mul]) ?_
            refine v_iload F dX8_drag_114 6 rfl (q := 116) rfl ?_
            refine v_icmp_ge F dX8_drag_116 (tgt := 136) rfl (q := 119) rfl (fun c116 => ?_) (fun c116 => ?_)
            · skip
              rw [zI_le (by omega) (by omega) (by omega) (by omega)] at c116
              refine v_aload_n F dX8_drag_136 (i := 0) rfl 0 rfl (q := 137) rfl ?_
              refine v_iload F dX8_drag_137 8 rfl (q := 139) rfl ?_
              refine v_callV F ml_X8_72 im_X8_sideOf se_X8_sideOf in_X8 co_X8_sideOf sd_X8_sideOf (c_X8_sideOf y0 y1 y2 y3 y4 y5 y6 y7 y8 y9 y10 y11 y12 y13 y14 th sd tp n sc sp px py pl pk N M ls lv lx ly ab bl 2 wo si t1 t2 u ⟨G, hsp, P, hM, hls, hlv, hlx, hly, by omega⟩ (by omega)) ⟨Nat.zero_le _, Nat.zero_le _⟩ (Nat.le_of_ble_eq_true rfl) (Nat.le_of_ble_eq_true rfl) 0 (As := [.int (nI u)]) rfl rfl rfl rfl rfl [0, 1, 2, 3, 4, 5, 6, 7, 8, 9, 10, 11, 12, 13, 14] rfl nd15 vnd15 (rest := []) rfl (Nat.le_of_ble_eq_true rfl) dX8_drag_139 (q := 142) rfl (fun r w hr => ?_)
              obtain ⟨rfl, rfl⟩ := hr
              refine v_ws (ws' := [(y0, .inr (8, [.int (nI n), .ref y1, .ref y2, .ref y3, .int sc, .int sp, .int (nI N), .ref y4, .ref y5, .ref y6, .ref y7, .ref y8, .ref y9, .ref y10, .ref y11, .ref y12, .int 2, .ref y13, .ref y14, .long (zL wo), .long (zL si), .long (zL t1), .long (zL t2)])), (y1, .inl (cI, 6, .inl th)), (y2, .inl (cI, 6, .inl sd)), (y3, .inl (cI, 6, .inl tp)), (y4, .inl (cI, 12, .inl px)), (y5, .inl (cI, 12, .inl py)), (y6, .inl (cI, 12, .inl (fun i => nI (pl i)))), (y7, .inl (cI, 12, .inl pk)), (y8, .inl (cZ, 12, .inl (fun i => bI (M.testBit i)))), (y9, .inl (cI, 3, .inl (fun i => nI (ls i)))), (y10, .inl (cI, 18, .inl lv)), (y11, .inl (cI, 18, .inl lx)), (y12, .inl (cI, 18, .inl ly)), (y13, .inl (cJ, 15, .inr (.inl ab))), (y14, .inl (cJ, 15, .inr (.inl bl)))]) ((wset_wgo (nodup_of nd15) rfl).trans rfl) ?_
              refine v_st (st' := [.int (zI (gSD th sd n sc u))]) rfl ?_
              refine v_istore F dX8_drag_142 (lv' := [(9, .int (zI (gSD th sd n sc u))), (0, .ref y0), (1, .int (nI k)), (2, .int g1), (3, .int (nI (pl k))), (4, .int (zI (gPU th sd n sc (pl k)))), (5, .int (zI (gTI th tp n (pl k)))), (6, .int (zI (gPU th sd n sc (pl k) + gTI th tp n (pl k) - g1.toInt))), (7, .int (zI (gPU th sd n sc u))), (8, .int (nI u))]) (Nat.le_of_ble_eq_true rfl) rfl (q := 144) rfl ?_
              refine v_iload F dX8_drag_144 7 rfl (q := 146) rfl ?_
              refine v_iconst F dX8_drag_146 (v := 2) (q := 147) rfl rfl ?_
              refine v_iload F dX8_drag_147 8 rfl (q := 149) rfl ?_
              refine v_imul F dX8_drag_149 (q := 150) rfl ?_
              refine v_int (y := zI (2 * gPU th sd n sc u)) (by rw [show (2 : Int32) = zI 2 from rfl, zI_mul]) ?_
              refine v_icmp_ne F dX8_drag_150 (tgt := 191) rfl (q := 153) rfl (fun c150 => ?_) (fun c150 => ?_)
              · skip
                have c150 : (gPU th sd n sc (pl k) + gTI th tp n (pl k) - g1.toInt) ≠ 2 * gPU th sd n sc u := fun z => c150 (by rw [z])
                have hlo2 : 2 * gPU th sd n sc u < (gPU th sd n sc (pl k) + gTI th tp n (pl k) - g1.toInt) := by
                  rcases hlow with h0 | h0
                  · subst h0
                    omega
                  · exact h0
                have hA : dgA (gSD th sd n sc) (gPU th sd n sc) (gPU th sd n sc (pl k) + gTI th tp n (pl k) - g1.toInt) (pl k) = ((2 * gSD th sd n sc u * (u : Int) + (gPU th sd n sc (pl k) + gTI th tp n (pl k) - g1.toInt) - 2 * gPU th sd n sc u), 2 * gSD th sd n sc u) := by
                  obtain ⟨d, rfl⟩ : ∃ d2, d = d2 + 1 := by
                    rcases d with _ | d
                    · have : u = pl k := by omega
                      subst this
                      omega
                    · exact ⟨d, rfl⟩
                  simp only [dgU] at hf
                  rw [if_neg (by omega), if_pos (by omega)] at hf
                  simp only [dgA, hf]
                have hmu := mul_rng (a := 2 * gSD th sd n sc u) (b := (u : Int)) (A := 100) (B := 100) (by omega) (by omega)
                refine v_aload_n F dX8_drag_191 (i := 0) rfl 1 rfl (q := 192) rfl ?_
                refine v_iconst F dX8_drag_192 (v := 0) (q := 193) rfl rfl ?_
                refine v_ldc2 F kc_X8_150 dX8_drag_193 (q := 196) rfl ?_
                refine v_iload F dX8_drag_196 9 rfl (q := 198) rfl ?_
                refine v_i2l F dX8_drag_198 (q := 199) rfl ?_
                refine v_long (y := zL ((u : Nat) : Int)) (by rw [zI_nat, zI_i2l (by omega) (by omega)]) ?_
                refine v_lmul F dX8_drag_199 (q := 200) rfl ?_
                refine v_iload F dX8_drag_200 0 rfl (q := 202) rfl ?_
                refine v_i2l F dX8_drag_202 (q := 203) rfl ?_
                refine v_long (y := zL (gSD th sd n sc u)) (zI_i2l (by omega) (by omega)) ?_
                refine v_lmul F dX8_drag_203 (q := 204) rfl ?_
                refine v_iload F dX8_drag_204 7 rfl (q := 206) rfl ?_
                refine v_i2l F dX8_drag_206 (q := 207) rfl ?_
                refine v_long (y := zL (gPU th sd n sc (pl k) + gTI th tp n (pl k) - g1.toInt)) (zI_i2l (by omega) (by omega)) ?_
                refine v_ladd F dX8_drag_207 (q := 208) rfl ?_
                refine v_ldc2 F kc_X8_150 dX8_drag_208 (q := 211) rfl ?_
                refine v_iload F dX8_drag_211 8 rfl (q := 213) rfl ?_
                refine v_i2l F dX8_drag_213 (q := 214) rfl ?_
                refine v_long (y := zL (gPU th sd n sc u)) (zI_i2l (by omega) (by omega)) ?_
                refine v_lmul F dX8_drag_214 (q := 215) rfl ?_
                refine v_lsub F dX8_drag_215 (q := 216) rfl ?_
                refine v_long (y := zL (2 * gSD th sd n sc u * (u : Int) + (gPU th sd n sc (pl k) + gTI th tp n (pl k) - g1.toInt) - 2 * gPU th sd n sc u)) (by rw [show (2 : Int64) = zL 2 from rfl, zL_mul, zL_mul, zL_add, zL_mul, zL_sub, Int.mul_right_comm]) ?_
                refine v_ldc2 F kc_X8_150 dX8_drag_216 (q := 219) rfl ?_
                refine v_iload F dX8_drag_219 0 rfl (q := 221) rfl ?_
                refine v_i2l F dX8_drag_221 (q := 222) rfl ?_
                refine v_long (y := zL (gSD th sd n sc u)) (zI_i2l (by omega) (by omega)) ?_
                refine v_lmul F dX8_drag_222 (q := 223) rfl ?_
                refine v_long (y := zL (2 * gSD th sd n sc u)) (by rw [show (2 : Int64) = zL 2 from rfl, zL_mul]) ?_
                refine v_callV F ml_X8_122 im_X8_tell se_X8_tell in_X8 co_X8_tell sd_X8_tell (c_X8_tell y0 y1 y2 y3 y4 y5 y6 y7 y8 y9 y10 y11 y12 y13 y14 th sd tp n sc sp px py pl pk N M ls lv lx ly ab bl 2 wo si t1 t2 0 (zL (2 * gSD th sd n sc u * (u : Int) + (gPU th sd n sc (pl k) + gTI th tp n (pl k) - g1.toInt) - 2 * gPU th sd n sc u)) (zL (2 * gSD th sd n sc u)) ⟨G, hsp, P, hM, hls, hlv, hlx, hly, by omega⟩ (by omega) (by rw [zL_toInt (by omega) (by omega)]; omega) (by rw [zL_toInt (by omega) (by omega)]; omega)) ⟨Nat.zero_le _, Nat.zero_le _⟩ (Nat.le_of_ble_eq_true rfl) (Nat.le_of_ble_eq_true rfl) 0 (As := [.int 0, .long (zL (2 * gSD th sd n sc u * (u : Int) + (gPU th sd n sc (pl k) + gTI th tp n (pl k) - g1.toInt) - 2 * gPU th sd n sc u)), .long (zL (2 * gSD th sd n sc u))]) rfl rfl rfl rfl rfl [0, 1, 2, 3, 4, 5, 6, 7, 8, 9, 10, 11, 12, 13, 14] rfl nd15 vnd15 (rest := []) rfl (Nat.le_of_ble_eq_true rfl) dX8_drag_223 (q := 226) rfl (fun r w hr => ?_)
                obtain ⟨rfl, rfl⟩ := hr
                refine v_ws (ws' := [(y0, .inr (8, [.int (nI n), .ref y1, .ref y2, .ref y3, .int sc, .int sp, .int (nI N), .ref y4, .ref y5, .ref y6, .ref y7, .ref y8, .ref y9, .ref y10, .ref y11, .ref y12, .int 2, .ref y13, .ref y14, .long (zL wo), .long (zL si), .long (zL t1), .long (zL t2)])), (y1, .inl (cI, 6, .inl th)), (y2, .inl (cI, 6, .inl sd)), (y3, .inl (cI, 6, .inl tp)), (y4, .inl (cI, 12, .inl px)), (y5, .inl (cI, 12, .inl py)), (y6, .inl (cI, 12, .inl (fun i => nI (pl i)))), (y7, .inl (cI, 12, .inl pk)), (y8, .inl (cZ, 12, .inl (fun i => bI (M.testBit i)))), (y9, .inl (cI, 3, .inl (fun i => nI (ls i)))), (y10, .inl (cI, 18, .inl lv)), (y11, .inl (cI, 18, .inl lx)), (y12, .inl (cI, 18, .inl ly)), (y13, .inl (cJ, 15, .inr (.inl (vp_updL ab 0 ((zL (2 * gSD th sd n sc u * (u : Int) + (gPU th sd n sc (pl k) + gTI th tp n (pl k) - g1.toInt) - 2 * gPU th sd n sc u)) / dG (zL (2 * gSD th sd n sc u * (u : Int) + (gPU th sd n sc (pl k) + gTI th tp n (pl k) - g1.toInt) - 2 * gPU th sd n sc u)) (zL (2 * gSD th sd n sc u))))))), (y14, .inl (cJ, 15, .inr (.inl (vp_updL bl 0 ((zL (2 * gSD th sd n sc u)) / dG (zL (2 * gSD th sd n sc u * (u : Int) + (gPU th sd n sc (pl k) + gTI th tp n (pl k) - g1.toInt) - 2 * gPU th sd n sc u)) (zL (2 * gSD th sd n sc u)))))))]) ((wset_wgo (nodup_of nd15) rfl).trans rfl) ?_
                refine v_st (st' := []) rfl ?_
                refine v_aload_n F dX8_drag_226 (i := 0) rfl 1 rfl (q := 227) rfl ?_
                refine v_iconst F dX8_drag_227 (v := 1) (q := 228) rfl rfl ?_
                refine v_ldc2 F kc_X8_150 dX8_drag_228 (q := 231) rfl ?_
                refine v_iload_n F dX8_drag_231 (i := 2) rfl 3 rfl (q := 232) rfl ?_
                refine v_i2l F dX8_drag_232 (q := 233) rfl ?_
                refine v_long (y := zL g1.toInt) (i2l_as _) ?_
                refine v_lmul F dX8_drag_233 (q := 234) rfl ?_
                refine v_iload F dX8_drag_234 7 rfl (q := 236) rfl ?_
                refine v_i2l F dX8_drag_236 (q := 237) rfl ?_
                refine v_long (y := zL (gPU th sd n sc (pl k) + gTI th tp n (pl k) - g1.toInt)) (zI_i2l (by omega) (by omega)) ?_
                refine v_ladd F dX8_drag_237 (q := 238) rfl ?_
                refine v_long (y := zL (2 * g1.toInt + (gPU th sd n sc (pl k) + gTI th tp n (pl k) - g1.toInt))) (by rw [show (2 : Int64) = zL 2 from rfl, zL_mul, zL_add]) ?_
                refine v_ldc2 F kc_X8_150 dX8_drag_238 (q := 241) rfl ?_
                refine v_callV F ml_X8_122 im_X8_tell se_X8_tell in_X8 co_X8_tell sd_X8_tell (c_X8_tell y0 y1 y2 y3 y4 y5 y6 y7 y8 y9 y10 y11 y12 y13 y14 th sd tp n sc sp px py pl pk N M ls lv lx ly (vp_updL ab 0 ((zL (2 * gSD th sd n sc u * (u : Int) + (gPU th sd n sc (pl k) + gTI th tp n (pl k) - g1.toInt) - 2 * gPU th sd n sc u)) / dG (zL (2 * gSD th sd n sc u * (u : Int) + (gPU th sd n sc (pl k) + gTI th tp n (pl k) - g1.toInt) - 2 * gPU th sd n sc u)) (zL (2 * gSD th sd n sc u)))) (vp_updL bl 0 ((zL (2 * gSD th sd n sc u)) / dG (zL (2 * gSD th sd n sc u * (u : Int) + (gPU th sd n sc (pl k) + gTI th tp n (pl k) - g1.toInt) - 2 * gPU th sd n sc u)) (zL (2 * gSD th sd n sc u)))) 2 wo si t1 t2 1 (zL (2 * g1.toInt + (gPU th sd n sc (pl k) + gTI th tp n (pl k) - g1.toInt))) 2 ⟨G, hsp, P, hM, hls, hlv, hlx, hly, by omega⟩ (by omega) (by rw [zL_toInt (by omega) (by omega)]; omega) (by decide)) ⟨Nat.zero_le _, Nat.zero_le _⟩ (Nat.le_of_ble_eq_true rfl) (Nat.le_of_ble_eq_true rfl) 0 (As := [.int 1, .long (zL (2 * g1.toInt + (gPU th sd n sc (pl k) + gTI th tp n (pl k) - g1.toInt))), .long 2]) rfl rfl rfl rfl rfl [0, 1, 2, 3, 4, 5, 6, 7, 8, 9, 10, 11, 12, 13, 14] rfl nd15 vnd15 (rest := []) rfl (Nat.le_of_ble_eq_true rfl) dX8_drag_241 (q := 244) rfl (fun r w hr => ?_)
                obtain ⟨rfl, rfl⟩ := hr
                refine v_ws (ws' := [(y0, .inr (8, [.int (nI n), .ref y1, .ref y2, .ref y3, .int sc, .int sp, .int (nI N), .ref y4, .ref y5, .ref y6, .ref y7, .ref y8, .ref y9, .ref y10, .ref y11, .ref y12, .int 2, .ref y13, .ref y14, .long (zL wo), .long (zL si), .long (zL t1), .long (zL t2)])), (y1, .inl (cI, 6, .inl th)), (y2, .inl (cI, 6, .inl sd)), (y3, .inl (cI, 6, .inl tp)), (y4, .inl (cI, 12, .inl px)), (y5, .inl (cI, 12, .inl py)), (y6, .inl (cI, 12, .inl (fun i => nI (pl i)))), (y7, .inl (cI, 12, .inl pk)), (y8, .inl (cZ, 12, .inl (fun i => bI (M.testBit i)))), (y9, .inl (cI, 3, .inl (fun i => nI (ls i)))), (y10, .inl (cI, 18, .inl lv)), (y11, .inl (cI, 18, .inl lx)), (y12, .inl (cI, 18, .inl ly)), (y13, .inl (cJ, 15, .inr (.inl (vp_updL (vp_updL ab 0 ((zL (2 * gSD th sd n sc u * (u : Int) + (gPU th sd n sc (pl k) + gTI th tp n (pl k) - g1.toInt) - 2 * gPU th sd n sc u)) / dG (zL (2 * gSD th sd n sc u * (u : Int) + (gPU th sd n sc (pl k) + gTI th tp n (pl k) - g1.toInt) - 2 * gPU th sd n sc u)) (zL (2 * gSD th sd n sc u)))) 1 ((zL (2 * g1.toInt + (gPU th sd n sc (pl k) + gTI th tp n (pl k) - g1.toInt))) / dG (zL (2 * g1.toInt + (gPU th sd n sc (pl k) + gTI th tp n (pl k) - g1.toInt))) 2))))), (y14, .inl (cJ, 15, .inr (.inl (vp_updL (vp_updL bl 0 ((zL (2 * gSD th sd n sc u)) / dG (zL (2 * gSD th sd n sc u * (u : Int) + (gPU th sd n sc (pl k) + gTI th tp n (pl k) - g1.toInt) - 2 * gPU th sd n sc u)) (zL (2 * gSD th sd n sc u)))) 1 (2 / dG (zL (2 * g1.toInt + (gPU th sd n sc (pl k) + gTI th tp n (pl k) - g1.toInt))) 2)))))]) ((wset_wgo (nodup_of nd15) rfl).trans rfl) ?_
                refine v_st (st' := []) rfl ?_
                refine v_iconst F dX8_drag_244 (v := 0) (q := 245) rfl rfl ?_
                exact hE rfl dX8_drag_245 (Nat.zero_le _) (Nat.zero_le _) ⟨(by have hf : fDrag (nI k) g1 (th, sd, tp, n, sc, sp, px, py, pl, pk, N, M, ls, lv, lx, ly, ab, bl, tn) = (0, (th, sd, tp, n, sc, sp, px, py, pl, pk, N, M, ls, lv, lx, ly, tdA ab (dgE (zL (2 * gSD th sd n sc u * (u : Int) + (gPU th sd n sc (pl k) + gTI th tp n (pl k) - g1.toInt) - 2 * gPU th sd n sc u)) (zL (2 * gSD th sd n sc u)) (zL (2 * g1.toInt + (gPU th sd n sc (pl k) + gTI th tp n (pl k) - g1.toInt))) 2).1 (dgE (zL (2 * gSD th sd n sc u * (u : Int) + (gPU th sd n sc (pl k) + gTI th tp n (pl k) - g1.toInt) - 2 * gPU th sd n sc u)) (zL (2 * gSD th sd n sc u)) (zL (2 * g1.toInt + (gPU th sd n sc (pl k) + gTI th tp n (pl k) - g1.toInt))) 2).2 2, tdB bl (dgE (zL (2 * gSD th sd n sc u * (u : Int) + (gPU th sd n sc (pl k) + gTI th tp n (pl k) - g1.toInt) - 2 * gPU th sd n sc u)) (zL (2 * gSD th sd n sc u)) (zL (2 * g1.toInt + (gPU th sd n sc (pl k) + gTI th tp n (pl k) - g1.toInt))) 2).1 (dgE (zL (2 * gSD th sd n sc u * (u : Int) + (gPU th sd n sc (pl k) + gTI th tp n (pl k) - g1.toInt) - 2 * gPU th sd n sc u)) (zL (2 * gSD th sd n sc u)) (zL (2 * g1.toInt + (gPU th sd n sc (pl k) + gTI th tp n (pl k) - g1.toInt))) 2).2 2, 2)) := (by simp only [fDrag]; rw [if_pos ⟨c5, c15⟩, hpk, if_neg (by omega), if_neg (by omega), hA]); exact ⟨(wo, si, t1, t2), by rw [hf] <;> rfl, by rw [hf]; rfl⟩), Nat.le_of_ble_eq_true rfl⟩
              · skip
                have c150 : (gPU th sd n sc (pl k) + gTI th tp n (pl k) - g1.toInt) = 2 * gPU th sd n sc u := (zI_eq (by omega) (by omega) (by omega) (by omega)).mp c150
                have hu0 : u = 0 := by omega
                have hA : dgA (gSD th sd n sc) (gPU th sd n sc) (gPU th sd n sc (pl k) + gTI th tp n (pl k) - g1.toInt) (pl k) = (0, 1) := by
                  subst hu0
                  simp only [dgA, hf]
                  rcases d with _ | d
                  · rfl
                  · simp only [dgU]; rw [if_pos (by omega)]
                refine v_iload F dX8_drag_153 9 rfl (q := 155) rfl ?_
                refine v_istore F dX8_drag_155 (lv' := [(10, .int (nI u)), (9, .int (zI (gSD th sd n sc u))), (0, .ref y0), (1, .int (nI k)), (2, .int g1), (3, .int (nI (pl k))), (4, .int (zI (gPU th sd n sc (pl k)))), (5, .int (zI (gTI th tp n (pl k)))), (6, .int (zI (gPU th sd n sc (pl k) + gTI th tp n (pl k) - g1.toInt))), (7, .int (zI (gPU th sd n sc u))), (8, .int (nI u))]) (Nat.le_of_ble_eq_true rfl) rfl (q := 157) rfl ?_
                refine v_iload F dX8_drag_157 0 rfl (q := 159) rfl ?_
                refine v_if_le F dX8_drag_159 (tgt := 179) rfl (q := 162) rfl (fun c159 => ?_) (fun c159 => ?_)
                · skip
                  refine v_aload_n F dX8_drag_179 (i := 0) rfl 2 rfl (q := 180) rfl ?_
                  refine v_iconst F dX8_drag_180 (v := 0) (q := 181) rfl rfl ?_
                  refine v_iload F dX8_drag_181 0 rfl (q := 183) rfl ?_
                  refine v_i2l F dX8_drag_183 (q := 184) rfl ?_
                  refine v_long (y := zL 0) (by rw [hu0]; rfl) ?_
                  refine v_lconst F dX8_drag_184 (v := 1) (q := 185) rfl rfl ?_
                  refine v_callV F ml_X8_122 im_X8_tell se_X8_tell in_X8 co_X8_tell sd_X8_tell (c_X8_tell y0 y1 y2 y3 y4 y5 y6 y7 y8 y9 y10 y11 y12 y13 y14 th sd tp n sc sp px py pl pk N M ls lv lx ly ab bl 2 wo si t1 t2 0 (zL 0) 1 ⟨G, hsp, P, hM, hls, hlv, hlx, hly, by omega⟩ (by omega) (by decide) (by decide)) ⟨Nat.zero_le _, Nat.zero_le _⟩ (Nat.le_of_ble_eq_true rfl) (Nat.le_of_ble_eq_true rfl) 0 (As := [.int 0, .long (zL 0), .long 1]) rfl rfl rfl rfl rfl [0, 1, 2, 3, 4, 5, 6, 7, 8, 9, 10, 11, 12, 13, 14] rfl nd15 vnd15 (rest := []) rfl (Nat.le_of_ble_eq_true rfl) dX8_drag_185 (q := 188) rfl (fun r w hr => ?_)
                  obtain ⟨rfl, rfl⟩ := hr
                  refine v_ws (ws' := [(y0, .inr (8, [.int (nI n), .ref y1, .ref y2, .ref y3, .int sc, .int sp, .int (nI N), .ref y4, .ref y5, .ref y6, .ref y7, .ref y8, .ref y9, .ref y10, .ref y11, .ref y12, .int 2, .ref y13, .ref y14, .long (zL wo), .long (zL si), .long (zL t1), .long (zL t2)])), (y1, .inl (cI, 6, .inl th)), (y2, .inl (cI, 6, .inl sd)), (y3, .inl (cI, 6, .inl tp)), (y4, .inl (cI, 12, .inl px)), (y5, .inl (cI, 12, .inl py)), (y6, .inl (cI, 12, .inl (fun i => nI (pl i)))), (y7, .inl (cI, 12, .inl pk)), (y8, .inl (cZ, 12, .inl (fun i => bI (M.testBit i)))), (y9, .inl (cI, 3, .inl (fun i => nI (ls i)))), (y10, .inl (cI, 18, .inl lv)), (y11, .inl (cI, 18, .inl lx)), (y12, .inl (cI, 18, .inl ly)), (y13, .inl (cJ, 15, .inr (.inl (vp_updL ab 0 ((zL 0) / dG (zL 0) 1))))), (y14, .inl (cJ, 15, .inr (.inl (vp_updL bl 0 (1 / dG (zL 0) 1)))))]) ((wset_wgo (nodup_of nd15) rfl).trans rfl) ?_
                  refine v_st (st' := []) rfl ?_
                  refine v_goto F dX8_drag_188 (tgt := 226) rfl ?_
                  refine v_aload_n F dX8_drag_226 (i := 0) rfl 2 rfl (q := 227) rfl ?_
                  refine v_iconst F dX8_drag_227 (v := 1) (q := 228) rfl rfl ?_
                  refine v_ldc2 F kc_X8_150 dX8_drag_228 (q := 231) rfl ?_
                  refine v_iload_n F dX8_drag_231 (i := 2) rfl 4 rfl (q := 232) rfl ?_
                  refine v_i2l F dX8_drag_232 (q := 233) rfl ?_
                  refine v_long (y := zL g1.toInt) (i2l_as _) ?_
                  refine v_lmul F dX8_drag_233 (q := 234) rfl ?_
                  refine v_iload F dX8_drag_234 8 rfl (q := 236) rfl ?_
                  refine v_i2l F dX8_drag_236 (q := 237) rfl ?_
                  refine v_long (y := zL (gPU th sd n sc (pl k) + gTI th tp n (pl k) - g1.toInt)) (zI_i2l (by omega) (by omega)) ?_
                  refine v_ladd F dX8_drag_237 (q := 238) rfl ?_
                  refine v_long (y := zL (2 * g1.toInt + (gPU th sd n sc (pl k) + gTI th tp n (pl k) - g1.toInt))) (by rw [show (2 : Int64) = zL 2 from rfl, zL_mul, zL_add]) ?_
                  refine v_ldc2 F kc_X8_150 dX8_drag_238 (q := 241) rfl ?_
                  refine v_callV F ml_X8_122 im_X8_tell se_X8_tell in_X8 co_X8_tell sd_X8_tell (c_X8_tell y0 y1 y2 y3 y4 y5 y6 y7 y8 y9 y10 y11 y12 y13 y14 th sd tp n sc sp px py pl pk N M ls lv lx ly (vp_updL ab 0 ((zL 0) / dG (zL 0) 1)) (vp_updL bl 0 (1 / dG (zL 0) 1)) 2 wo si t1 t2 1 (zL (2 * g1.toInt + (gPU th sd n sc (pl k) + gTI th tp n (pl k) - g1.toInt))) 2 ⟨G, hsp, P, hM, hls, hlv, hlx, hly, by omega⟩ (by omega) (by rw [zL_toInt (by omega) (by omega)]; omega) (by decide)) ⟨Nat.zero_le _, Nat.zero_le _⟩ (Nat.le_of_ble_eq_true rfl) (Nat.le_of_ble_eq_true rfl) 0 (As := [.int 1, .long (zL (2 * g1.toInt + (gPU th sd n sc (pl k) + gTI th tp n (pl k) - g1.toInt))), .long 2]) rfl rfl rfl rfl rfl [0, 1, 2, 3, 4, 5, 6, 7, 8, 9, 10, 11, 12, 13, 14] rfl nd15 vnd15 (rest := []) rfl (Nat.le_of_ble_eq_true rfl) dX8_drag_241 (q := 244) rfl (fun r w hr => ?_)
                  obtain ⟨rfl, rfl⟩ := hr
                  refine v_ws (ws' := [(y0, .inr (8, [.int (nI n), .ref y1, .ref y2, .ref y3, .int sc, .int sp, .int (nI N), .ref y4, .ref y5, .ref y6, .ref y7, .ref y8, .ref y9, .ref y10, .ref y11, .ref y12, .int 2, .ref y13, .ref y14, .long (zL wo), .long (zL si), .long (zL t1), .long (zL t2)])), (y1, .inl (cI, 6, .inl th)), (y2, .inl (cI, 6, .inl sd)), (y3, .inl (cI, 6, .inl tp)), (y4, .inl (cI, 12, .inl px)), (y5, .inl (cI, 12, .inl py)), (y6, .inl (cI, 12, .inl (fun i => nI (pl i)))), (y7, .inl (cI, 12, .inl pk)), (y8, .inl (cZ, 12, .inl (fun i => bI (M.testBit i)))), (y9, .inl (cI, 3, .inl (fun i => nI (ls i)))), (y10, .inl (cI, 18, .inl lv)), (y11, .inl (cI, 18, .inl lx)), (y12, .inl (cI, 18, .inl ly)), (y13, .inl (cJ, 15, .inr (.inl (vp_updL (vp_updL ab 0 ((zL 0) / dG (zL 0) 1)) 1 ((zL (2 * g1.toInt + (gPU th sd n sc (pl k) + gTI th tp n (pl k) - g1.toInt))) / dG (zL (2 * g1.toInt + (gPU th sd n sc (pl k) + gTI th tp n (pl k) - g1.toInt))) 2))))), (y14, .inl (cJ, 15, .inr (.inl (vp_updL (vp_updL bl 0 (1 / dG (zL 0) 1)) 1 (2 / dG (zL (2 * g1.toInt + (gPU th sd n sc (pl k) + gTI th tp n (pl k) - g1.toInt))) 2)))))]) ((wset_wgo (nodup_of nd15) rfl).trans rfl) ?_
                  refine v_st (st' := []) rfl ?_
                  refine v_iconst F dX8_drag_244 (v := 0) (q := 245) rfl rfl ?_
                  exact hE rfl dX8_drag_245 (Nat.zero_le _) (Nat.zero_le _) ⟨(by have hf : fDrag (nI k) g1 (th, sd, tp, n, sc, sp, px, py, pl, pk, N, M, ls, lv, lx, ly, ab, bl, tn) = (0, (th, sd, tp, n, sc, sp, px, py, pl, pk, N, M, ls, lv, lx, ly, tdA ab (dgE (zL 0) (zL 1) (zL (2 * g1.toInt + (gPU th sd n sc (pl k) + gTI th tp n (pl k) - g1.toInt))) 2).1 (dgE (zL 0) (zL 1) (zL (2 * g1.toInt + (gPU th sd n sc (pl k) + gTI th tp n (pl k) - g1.toInt))) 2).2 2, tdB bl (dgE (zL 0) (zL 1) (zL (2 * g1.toInt + (gPU th sd n sc (pl k) + gTI th tp n (pl k) - g1.toInt))) 2).1 (dgE (zL 0) (zL 1) (zL (2 * g1.toInt + (gPU th sd n sc (pl k) + gTI th tp n (pl k) - g1.toInt))) 2).2 2, 2)) := (by simp only [fDrag]; rw [if_pos ⟨c5, c15⟩, hpk, if_neg (by omega), if_neg (by omega), hA]); exact ⟨(wo, si, t1, t2), by rw [hf] <;> rfl, by rw [hf]; rfl⟩), Nat.le_of_ble_eq_true rfl⟩
                · exact absurd (by rw [hu0]; decide) c159
            · skip
              rw [zI_le (by omega) (by omega) (by omega) (by omega)] at c116
              obtain ⟨d, rfl⟩ : ∃ d2, d = d2 + 1 := by
                rcases d with _ | d
                · have : u = pl k := by omega
                  subst this
                  omega
                · exact ⟨d, rfl⟩
              simp only [dgU] at hf
              rw [if_neg (by omega), if_neg (by omega)] at hf
              refine v_iload F dX8_drag_119 7 rfl (q := 121) rfl ?_
              refine v_aload_n F dX8_drag_121 (i := 0) rfl 0 rfl (q := 122) rfl ?_
              refine v_iload F dX8_drag_122 8 rfl (q := 124) rfl ?_
              refine v_callV F ml_X8_72 im_X8_sideOf se_X8_sideOf in_X8 co_X8_sideOf sd_X8_sideOf (c_X8_sideOf y0 y1 y2 y3 y4 y5 y6 y7 y8 y9 y10 y11 y12 y13 y14 th sd tp n sc sp px py pl pk N M ls lv lx ly ab bl 2 wo si t1 t2 u ⟨G, hsp, P, hM, hls, hlv, hlx, hly, by omega⟩ (by omega)) ⟨Nat.zero_le _, Nat.zero_le _⟩ (Nat.le_of_ble_eq_true rfl) (Nat.le_of_ble_eq_true rfl) 0 (As := [.int (nI u)]) rfl rfl rfl rfl rfl [0, 1, 2, 3, 4, 5, 6, 7, 8, 9, 10, 11, 12, 13, 14] rfl nd15 vnd15 (rest := [.int (zI (gPU th sd n sc u))]) rfl (Nat.le_of_ble_eq_true rfl) dX8_drag_124 (q := 127) rfl (fun r w hr => ?_)
              obtain ⟨rfl, rfl⟩ := hr
              refine v_ws (ws' := [(y0, .inr (8, [.int (nI n), .ref y1, .ref y2, .ref y3, .int sc, .int sp, .int (nI N), .ref y4, .ref y5, .ref y6, .ref y7, .ref y8, .ref y9, .ref y10, .ref y11, .ref y12, .int 2, .ref y13, .ref y14, .long (zL wo), .long (zL si), .long (zL t1), .long (zL t2)])), (y1, .inl (cI, 6, .inl th)), (y2, .inl (cI, 6, .inl sd)), (y3, .inl (cI, 6, .inl tp)), (y4, .inl (cI, 12, .inl px)), (y5, .inl (cI, 12, .inl py)), (y6, .inl (cI, 12, .inl (fun i => nI (pl i)))), (y7, .inl (cI, 12, .inl pk)), (y8, .inl (cZ, 12, .inl (fun i => bI (M.testBit i)))), (y9, .inl (cI, 3, .inl (fun i => nI (ls i)))), (y10, .inl (cI, 18, .inl lv)), (y11, .inl (cI, 18, .inl lx)), (y12, .inl (cI, 18, .inl ly)), (y13, .inl (cJ, 15, .inr (.inl ab))), (y14, .inl (cJ, 15, .inr (.inl bl)))]) ((wset_wgo (nodup_of nd15) rfl).trans rfl) ?_
              refine v_st (st' := [.int (zI (gSD th sd n sc u)), .int (zI (gPU th sd n sc u))]) rfl ?_
              refine v_iadd F dX8_drag_127 (q := 128) rfl ?_
              refine v_int (y := zI (gPU th sd n sc (u + 1))) (zI_add _ _) ?_
              refine v_istore F dX8_drag_128 (lv' := [(7, .int (zI (gPU th sd n sc (u + 1)))), (0, .ref y0), (1, .int (nI k)), (2, .int g1), (3, .int (nI (pl k))), (4, .int (zI (gPU th sd n sc (pl k)))), (5, .int (zI (gTI th tp n (pl k)))), (6, .int (zI (gPU th sd n sc (pl k) + gTI th tp n (pl k) - g1.toInt))), (8, .int (nI u))]) (Nat.le_of_ble_eq_true rfl) rfl (q := 130) rfl ?_
              refine v_iinc F dX8_drag_130 8 rfl (v := nI (u + 1)) (lv' := [(8, .int (nI (u + 1))), (7, .int (zI (gPU th sd n sc (u + 1)))), (0, .ref y0), (1, .int (nI k)), (2, .int g1), (3, .int (nI (pl k))), (4, .int (zI (gPU th sd n sc (pl k)))), (5, .int (zI (gTI th tp n (pl k)))), (6, .int (zI (gPU th sd n sc (pl k) + gTI th tp n (pl k) - g1.toInt)))]) (nI_1 u) (Nat.le_of_ble_eq_true rfl) rfl (q := 133) rfl ?_
              refine v_goto F dX8_drag_133 (tgt := 103) rfl ?_
              refine v_lv (lv' := [(0, .ref y0), (1, .int (nI k)), (2, .int g1), (3, .int (nI (pl k))), (4, .int (zI (gPU th sd n sc (pl k)))), (5, .int (zI (gTI th tp n (pl k)))), (6, .int (zI (gPU th sd n sc (pl k) + gTI th tp n (pl k) - g1.toInt))), (7, .int (zI (gPU th sd n sc (u + 1)))), (8, .int (nI (u + 1)))]) [2, 3, 4, 5, 6, 7, 8, 1, 0] rfl ?_
              exact ih d (by omega) (u + 1) (by omega) hf (Or.inr (by show 2 * (gPU th sd n sc u + gSD th sd n sc u) < _; omega))
          refine v_lv (lv' := [(0, .ref y0), (1, .int (nI k)), (2, .int g1), (3, .int (nI (pl k))), (4, .int (zI (gPU th sd n sc (pl k)))), (5, .int (zI (gTI th tp n (pl k)))), (6, .int (zI (gPU th sd n sc (pl k) + gTI th tp n (pl k) - g1.toInt))), (7, .int 0), (8, .int 0)]) [6, 7, 8, 5, 4, 3, 2, 1, 0] rfl ?_
          exact L103 (pl k) 0 (by omega) rfl (Or.inl rfl)
        · skip
          rw [zI_le (by omega) (by omega) (by omega) (by omega)] at c73
          refine v_aload_n F dX8_drag_76 (i := 0) rfl 4 rfl (q := 77) rfl ?_
          refine v_iconst F dX8_drag_77 (v := 0) (q := 78) rfl rfl ?_
          refine v_iload_n F dX8_drag_78 (i := 3) rfl 3 rfl (q := 79) rfl ?_
          refine v_i2l F dX8_drag_79 (q := 80) rfl ?_
          refine v_long (y := zL ((pl k : Nat) : Int)) (by rw [zI_nat, zI_i2l (by omega) (by omega)]) ?_
          refine v_lconst F dX8_drag_80 (v := 1) (q := 81) rfl rfl ?_
          refine v_callV F ml_X8_122 im_X8_tell se_X8_tell in_X8 co_X8_tell sd_X8_tell (c_X8_tell y0 y1 y2 y3 y4 y5 y6 y7 y8 y9 y10 y11 y12 y13 y14 th sd tp n sc sp px py pl pk N M ls lv lx ly ab bl 2 wo si t1 t2 0 (zL ((pl k : Nat) : Int)) 1 ⟨G, hsp, P, hM, hls, hlv, hlx, hly, by omega⟩ (by omega) (by rw [zL_toInt (by omega) (by omega)]; omega) (by decide)) ⟨Nat.zero_le _, Nat.zero_le _⟩ (Nat.le_of_ble_eq_true rfl) (Nat.le_of_ble_eq_true rfl) 0 (As := [.int 0, .long (zL ((pl k : Nat) : Int)), .long 1]) rfl rfl rfl rfl rfl [0, 1, 2, 3, 4, 5, 6, 7, 8, 9, 10, 11, 12, 13, 14] rfl nd15 vnd15 (rest := []) rfl (Nat.le_of_ble_eq_true rfl) dX8_drag_81 (q := 84) rfl (fun r w hr => ?_)
          obtain ⟨rfl, rfl⟩ := hr
          refine v_ws (ws' := [(y0, .inr (8, [.int (nI n), .ref y1, .ref y2, .ref y3, .int sc, .int sp, .int (nI N), .ref y4, .ref y5, .ref y6, .ref y7, .ref y8, .ref y9, .ref y10, .ref y11, .ref y12, .int 2, .ref y13, .ref y14, .long (zL wo), .long (zL si), .long (zL t1), .long (zL t2)])), (y1, .inl (cI, 6, .inl th)), (y2, .inl (cI, 6, .inl sd)), (y3, .inl (cI, 6, .inl tp)), (y4, .inl (cI, 12, .inl px)), (y5, .inl (cI, 12, .inl py)), (y6, .inl (cI, 12, .inl (fun i => nI (pl i)))), (y7, .inl (cI, 12, .inl pk)), (y8, .inl (cZ, 12, .inl (fun i => bI (M.testBit i)))), (y9, .inl (cI, 3, .inl (fun i => nI (ls i)))), (y10, .inl (cI, 18, .inl lv)), (y11, .inl (cI, 18, .inl lx)), (y12, .inl (cI, 18, .inl ly)), (y13, .inl (cJ, 15, .inr (.inl (vp_updL ab 0 ((zL ((pl k : Nat) : Int)) / dG (zL ((pl k : Nat) : Int)) 1))))), (y14, .inl (cJ, 15, .inr (.inl (vp_updL bl 0 (1 / dG (zL ((pl k : Nat) : Int)) 1)))))]) ((wset_wgo (nodup_of nd15) rfl).trans rfl) ?_
          refine v_st (st' := []) rfl ?_
          refine v_aload_n F dX8_drag_84 (i := 0) rfl 4 rfl (q := 85) rfl ?_
          refine v_iconst F dX8_drag_85 (v := 1) (q := 86) rfl rfl ?_
          refine v_iload_n F dX8_drag_86 (i := 2) rfl 6 rfl (q := 87) rfl ?_
          refine v_iload F dX8_drag_87 2 rfl (q := 89) rfl ?_
          refine v_iadd F dX8_drag_89 (q := 90) rfl ?_
          refine v_int (y := zI (g1.toInt + gPU th sd n sc (pl k))) (by rw [← zI_add, zI_as]) ?_
          refine v_i2l F dX8_drag_90 (q := 91) rfl ?_
          refine v_long (y := zL (g1.toInt + gPU th sd n sc (pl k))) (zI_i2l (by omega) (by omega)) ?_
          refine v_lconst F dX8_drag_91 (v := 1) (q := 92) rfl rfl ?_
          refine v_callV F ml_X8_122 im_X8_tell se_X8_tell in_X8 co_X8_tell sd_X8_tell (c_X8_tell y0 y1 y2 y3 y4 y5 y6 y7 y8 y9 y10 y11 y12 y13 y14 th sd tp n sc sp px py pl pk N M ls lv lx ly (vp_updL ab 0 ((zL ((pl k : Nat) : Int)) / dG (zL ((pl k : Nat) : Int)) 1)) (vp_updL bl 0 (1 / dG (zL ((pl k : Nat) : Int)) 1)) 2 wo si t1 t2 1 (zL (g1.toInt + gPU th sd n sc (pl k))) 1 ⟨G, hsp, P, hM, hls, hlv, hlx, hly, by omega⟩ (by omega) (by rw [zL_toInt (by omega) (by omega)]; omega) (by decide)) ⟨Nat.zero_le _, Nat.zero_le _⟩ (Nat.le_of_ble_eq_true rfl) (Nat.le_of_ble_eq_true rfl) 0 (As := [.int 1, .long (zL (g1.toInt + gPU th sd n sc (pl k))), .long 1]) rfl rfl rfl rfl rfl [0, 1, 2, 3, 4, 5, 6, 7, 8, 9, 10, 11, 12, 13, 14] rfl nd15 vnd15 (rest := []) rfl (Nat.le_of_ble_eq_true rfl) dX8_drag_92 (q := 95) rfl (fun r w hr => ?_)
          obtain ⟨rfl, rfl⟩ := hr
          refine v_ws (ws' := [(y0, .inr (8, [.int (nI n), .ref y1, .ref y2, .ref y3, .int sc, .int sp, .int (nI N), .ref y4, .ref y5, .ref y6, .ref y7, .ref y8, .ref y9, .ref y10, .ref y11, .ref y12, .int 2, .ref y13, .ref y14, .long (zL wo), .long (zL si), .long (zL t1), .long (zL t2)])), (y1, .inl (cI, 6, .inl th)), (y2, .inl (cI, 6, .inl sd)), (y3, .inl (cI, 6, .inl tp)), (y4, .inl (cI, 12, .inl px)), (y5, .inl (cI, 12, .inl py)), (y6, .inl (cI, 12, .inl (fun i => nI (pl i)))), (y7, .inl (cI, 12, .inl pk)), (y8, .inl (cZ, 12, .inl (fun i => bI (M.testBit i)))), (y9, .inl (cI, 3, .inl (fun i => nI (ls i)))), (y10, .inl (cI, 18, .inl lv)), (y11, .inl (cI, 18, .inl lx)), (y12, .inl (cI, 18, .inl ly)), (y13, .inl (cJ, 15, .inr (.inl (vp_updL (vp_updL ab 0 ((zL ((pl k : Nat) : Int)) / dG (zL ((pl k : Nat) : Int)) 1)) 1 ((zL (g1.toInt + gPU th sd n sc (pl k))) / dG (zL (g1.toInt + gPU th sd n sc (pl k))) 1))))), (y14, .inl (cJ, 15, .inr (.inl (vp_updL (vp_updL bl 0 (1 / dG (zL ((pl k : Nat) : Int)) 1)) 1 (1 / dG (zL (g1.toInt + gPU th sd n sc (pl k))) 1)))))]) ((wset_wgo (nodup_of nd15) rfl).trans rfl) ?_
          refine v_st (st' := []) rfl ?_
          refine v_iconst F dX8_drag_95 (v := 0) (q := 96) rfl rfl ?_
          exact hE rfl dX8_drag_96 (Nat.zero_le _) (Nat.zero_le _) ⟨(by have hf : fDrag (nI k) g1 (th, sd, tp, n, sc, sp, px, py, pl, pk, N, M, ls, lv, lx, ly, ab, bl, tn) = (0, (th, sd, tp, n, sc, sp, px, py, pl, pk, N, M, ls, lv, lx, ly, tdA ab (dgE (zL (pl k)) 1 (zL (g1.toInt + gPU th sd n sc (pl k))) 1).1 (dgE (zL (pl k)) 1 (zL (g1.toInt + gPU th sd n sc (pl k))) 1).2 2, tdB bl (dgE (zL (pl k)) 1 (zL (g1.toInt + gPU th sd n sc (pl k))) 1).1 (dgE (zL (pl k)) 1 (zL (g1.toInt + gPU th sd n sc (pl k))) 1).2 2, 2)) := (by simp only [fDrag]; rw [if_pos ⟨c5, c15⟩, hpk, if_neg (by omega), if_pos (by omega)]); exact ⟨(wo, si, t1, t2), by rw [hf] <;> rfl, by rw [hf]; rfl⟩), Nat.le_of_ble_eq_true rfl⟩
      · skip
        rw [Int32.le_iff_toInt_le, zI_toInt (by omega) (by omega)] at c47
        refine v_bipush F dX8_drag_50 (v := (-4)) (q := 52) rfl rfl ?_
        exact hE rfl dX8_drag_52 (Nat.zero_le _) (Nat.zero_le _) ⟨(by have hf : fDrag (nI k) g1 (th, sd, tp, n, sc, sp, px, py, pl, pk, N, M, ls, lv, lx, ly, ab, bl, tn) = (-4, (th, sd, tp, n, sc, sp, px, py, pl, pk, N, M, ls, lv, lx, ly, ab, bl, tn)) := (by simp only [fDrag]; rw [if_pos ⟨c5, c15⟩, hpk, if_pos (by omega)]); exact ⟨(wo, si, t1, t2), by rw [hf] <;> rfl, by rw [hf]; rfl⟩), Nat.le_of_ble_eq_true rfl⟩
    · skip
      rw [bI_z] at c15
      refine v_iconst F dX8_drag_18 (v := (-1)) (q := 19) rfl rfl ?_
      exact hE rfl dX8_drag_19 (Nat.zero_le _) (Nat.zero_le _) ⟨(by have hf : fDrag (nI k) g1 (th, sd, tp, n, sc, sp, px, py, pl, pk, N, M, ls, lv, lx, ly, ab, bl, tn) = (-1, (th, sd, tp, n, sc, sp, px, py, pl, pk, N, M, ls, lv, lx, ly, ab, bl, tn)) := (by simp only [fDrag]; rw [if_neg (fun z => by simp [c15] at z)]); exact ⟨(wo, si, t1, t2), by rw [hf] <;> rfl, by rw [hf]; rfl⟩), Nat.le_of_ble_eq_true rfl⟩

end MO
