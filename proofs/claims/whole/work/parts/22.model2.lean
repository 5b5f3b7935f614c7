section MO
variable {l : Launch} {D : va_G} {cI cJ cZ : ClassId}
set_option maxHeartbeats 4000000 in
set_option maxRecDepth 100000 in
theorem c_X8_solves (y0 y1 y2 y3 y4 y5 y6 y7 y8 y9 y10 y11 y12 y13 y14 : Nat) (th : Nat → Int32) (sd : Nat → Int32) (tp : Nat → Int32) (n : Nat) (sc : Int32) (sp : Int32) (px : Nat → Int32) (py : Nat → Int32) (pl : Nat → Nat) (pk : Nat → Int32) (N : Nat) (M : Nat) (ls : Nat → Nat) (lv : Nat → Int32) (lx : Nat → Int32) (ly : Nat → Int32) (ab : Nat → Int64) (bl : Nat → Int64) (tn : Nat) (wo si t1 t2 : Int) (B kc : Nat) (VI : INV (th, sd, tp, n, sc, sp, px, py, pl, pk, N, M, ls, lv, lx, ly, ab, bl, tn)) (hB : B < 4096) (hkc : kc < 3) : Ct l D (TY cI cJ cZ) yX8_solves cX8_solves 24 (some .boolean) 0 0 0 0 [.ref y0, .int (nI B), .int (nI kc)] [(y0, .inr (8, [.int (nI n), .ref y1, .ref y2, .ref y3, .int sc, .int sp, .int (nI N), .ref y4, .ref y5, .ref y6, .ref y7, .ref y8, .ref y9, .ref y10, .ref y11, .ref y12, .int (nI tn), .ref y13, .ref y14, .long (zL wo), .long (zL si), .long (zL t1), .long (zL t2)])), (y1, .inl (cI, 6, .inl th)), (y2, .inl (cI, 6, .inl sd)), (y3, .inl (cI, 6, .inl tp)), (y4, .inl (cI, 12, .inl px)), (y5, .inl (cI, 12, .inl py)), (y6, .inl (cI, 12, .inl (fun i => nI (pl i)))), (y7, .inl (cI, 12, .inl pk)), (y8, .inl (cZ, 12, .inl (fun i => bI (M.testBit i)))), (y9, .inl (cI, 3, .inl (fun i => nI (ls i)))), (y10, .inl (cI, 18, .inl lv)), (y11, .inl (cI, 18, .inl lx)), (y12, .inl (cI, 18, .inl ly)), (y13, .inl (cJ, 15, .inr (.inl ab))), (y14, .inl (cJ, 15, .inr (.inl bl)))] (fun r w => (¬ 0 < dDE pk px py B N ∧ r = some (.int 0) ∧ w = [(y0, .inr (8, [.int (nI n), .ref y1, .ref y2, .ref y3, .int sc, .int sp, .int (nI N), .ref y4, .ref y5, .ref y6, .ref y7, .ref y8, .ref y9, .ref y10, .ref y11, .ref y12, .int (nI tn), .ref y13, .ref y14, .long (zL (dDE pk px py B N)), .long (zL si), .long (zL t1), .long (zL t2)])), (y1, .inl (cI, 6, .inl th)), (y2, .inl (cI, 6, .inl sd)), (y3, .inl (cI, 6, .inl tp)), (y4, .inl (cI, 12, .inl px)), (y5, .inl (cI, 12, .inl py)), (y6, .inl (cI, 12, .inl (fun i => nI (pl i)))), (y7, .inl (cI, 12, .inl pk)), (y8, .inl (cZ, 12, .inl (fun i => bI (M.testBit i)))), (y9, .inl (cI, 3, .inl (fun i => nI (ls i)))), (y10, .inl (cI, 18, .inl lv)), (y11, .inl (cI, 18, .inl lx)), (y12, .inl (cI, 18, .inl ly)), (y13, .inl (cJ, 15, .inr (.inl ab))), (y14, .inl (cJ, 15, .inr (.inl bl)))]) ∨ (0 < dDE pk px py B N ∧ r = some (.int 1) ∧ w = [(y0, .inr (8, [.int (nI n), .ref y1, .ref y2, .ref y3, .int sc, .int sp, .int (nI N), .ref y4, .ref y5, .ref y6, .ref y7, .ref y8, .ref y9, .ref y10, .ref y11, .ref y12, .int (nI tn), .ref y13, .ref y14, .long (zL (dDE pk px py B N)), .long (zL (cWi pk px py B N ls lv lx ly kc)), .long (zL (cPi pk px py B N ls lv lx ly kc)), .long (zL (cQi pk px py B N ls lv lx ly kc))])), (y1, .inl (cI, 6, .inl th)), (y2, .inl (cI, 6, .inl sd)), (y3, .inl (cI, 6, .inl tp)), (y4, .inl (cI, 12, .inl px)), (y5, .inl (cI, 12, .inl py)), (y6, .inl (cI, 12, .inl (fun i => nI (pl i)))), (y7, .inl (cI, 12, .inl pk)), (y8, .inl (cZ, 12, .inl (fun i => bI (M.testBit i)))), (y9, .inl (cI, 3, .inl (fun i => nI (ls i)))), (y10, .inl (cI, 18, .inl lv)), (y11, .inl (cI, 18, .inl lx)), (y12, .inl (cI, 18, .inl ly)), (y13, .inl (cJ, 15, .inr (.inl ab))), (y14, .inl (cJ, 15, .inr (.inl bl)))])) := by
  refine Ct.ofI (ty := .boolean) (by decide) (Nat.le_of_ble_eq_true rfl) ?_
  intro p e s m args below meth c A R Q F hnm hcs0 hE
  refine v_lv (lv' := [(0, .ref y0), (1, .int (nI B)), (2, .int (nI kc))]) [0, 1, 2] rfl ?_
  obtain ⟨G, hsp, P, hM, hls, hlv, hlx, hly, htn⟩ := id VI
  have hn6 := G.1
  have hN12 := P.1
  have hM4 : M < 4096 := Nat.lt_of_lt_of_le hM (Nat.pow_le_pow_right (by omega) hN12)
  have hDN := dDE_nn P B
  have hDR := (d_rng P B).2.2.2.2.2.2
  have hlc := hls kc
  refine v_lconst F dX8_solves_0 (v := 0) (q := 1) rfl rfl ?_
  refine v_lstore_n F dX8_solves_1 (i := 3) (lv' := [(3, .long 0), (0, .ref y0), (1, .int (nI B)), (2, .int (nI kc))]) rfl (Nat.le_of_ble_eq_true rfl) rfl (q := 2) rfl ?_
  refine v_lconst F dX8_solves_2 (v := 0) (q := 3) rfl rfl ?_
  refine v_lstore F dX8_solves_3 (lv' := [(5, .long 0), (3, .long 0), (0, .ref y0), (1, .int (nI B)), (2, .int (nI kc))]) (Nat.le_of_ble_eq_true rfl) rfl (q := 5) rfl ?_
  refine v_lconst F dX8_solves_5 (v := 0) (q := 6) rfl rfl ?_
  refine v_lstore F dX8_solves_6 (lv' := [(7, .long 0), (5, .long 0), (3, .long 0), (0, .ref y0), (1, .int (nI B)), (2, .int (nI kc))]) (Nat.le_of_ble_eq_true rfl) rfl (q := 8) rfl ?_
  refine v_lconst F dX8_solves_8 (v := 0) (q := 9) rfl rfl ?_
  refine v_lstore F dX8_solves_9 (lv' := [(9, .long 0), (7, .long 0), (5, .long 0), (3, .long 0), (0, .ref y0), (1, .int (nI B)), (2, .int (nI kc))]) (Nat.le_of_ble_eq_true rfl) rfl (q := 11) rfl ?_
  refine v_lconst F dX8_solves_11 (v := 0) (q := 12) rfl rfl ?_
  refine v_lstore F dX8_solves_12 (lv' := [(11, .long 0), (9, .long 0), (7, .long 0), (5, .long 0), (3, .long 0), (0, .ref y0), (1, .int (nI B)), (2, .int (nI kc))]) (Nat.le_of_ble_eq_true rfl) rfl (q := 14) rfl ?_
  refine v_lconst F dX8_solves_14 (v := 0) (q := 15) rfl rfl ?_
  refine v_lstore F dX8_solves_15 (lv' := [(13, .long 0), (11, .long 0), (9, .long 0), (7, .long 0), (5, .long 0), (3, .long 0), (0, .ref y0), (1, .int (nI B)), (2, .int (nI kc))]) (Nat.le_of_ble_eq_true rfl) rfl (q := 17) rfl ?_
  refine v_iconst F dX8_solves_17 (v := 0) (q := 18) rfl rfl ?_
  refine v_istore F dX8_solves_18 (lv' := [(15, .int 0), (13, .long 0), (11, .long 0), (9, .long 0), (7, .long 0), (5, .long 0), (3, .long 0), (0, .ref y0), (1, .int (nI B)), (2, .int (nI kc))]) (Nat.le_of_ble_eq_true rfl) rfl (q := 20) rfl ?_
  have L20 : ∀ (d k : Nat), k + d = N → V p l e R s m args below meth c D A 24 0 0 Q 20 [(0, .ref y0), (1, .int (nI B)), (2, .int (nI kc)), (3, .long (zL (sm B (fK pk) k))), (5, .long (zL (sm B (fKX pk px) k))), (7, .long (zL (sm B (fKX pk py) k))), (9, .long (zL (sm B (fKXX pk px px) k))), (11, .long (zL (sm B (fKXX pk px py) k))), (13, .long (zL (sm B (fKXX pk py py) k))), (15, .int (nI k))] [] [(y0, .inr (8, [.int (nI n), .ref y1, .ref y2, .ref y3, .int sc, .int sp, .int (nI N), .ref y4, .ref y5, .ref y6, .ref y7, .ref y8, .ref y9, .ref y10, .ref y11, .ref y12, .int (nI tn), .ref y13, .ref y14, .long (zL wo), .long (zL si), .long (zL t1), .long (zL t2)])), (y1, .inl (cI, 6, .inl th)), (y2, .inl (cI, 6, .inl sd)), (y3, .inl (cI, 6, .inl tp)), (y4, .inl (cI, 12, .inl px)), (y5, .inl (cI, 12, .inl py)), (y6, .inl (cI, 12, .inl (fun i => nI (pl i)))), (y7, .inl (cI, 12, .inl pk)), (y8, .inl (cZ, 12, .inl (fun i => bI (M.testBit i)))), (y9, .inl (cI, 3, .inl (fun i => nI (ls i)))), (y10, .inl (cI, 18, .inl lv)), (y11, .inl (cI, 18, .inl lx)), (y12, .inl (cI, 18, .inl ly)), (y13, .inl (cJ, 15, .inr (.inl ab))), (y14, .inl (cJ, 15, .inr (.inl bl)))] := by
    intro d
    induction d using Nat.strongRecOn with
    | _ d ih => ?_
    intro k hk
    refine v_iload F dX8_solves_20 9 rfl (q := 22) rfl ?_
    refine v_aload_n F dX8_solves_22 (i := 0) rfl 0 rfl (q := 23) rfl ?_
    refine gt_X8_75 F dX8_solves_23 0 rfl rfl (q := 26) rfl ?_
    refine v_icmp_ge F dX8_solves_26 (tgt := 167) rfl (q := 29) rfl (fun c26 => ?_) (fun c26 => ?_)
    · skip
      rw [nI_leI (by omega) (by omega)] at c26
      have hku : N = k := by omega
      subst hku
      refine v_aload_n F dX8_solves_167 (i := 0) rfl 0 rfl (q := 168) rfl ?_
      refine v_lload_n F dX8_solves_168 (i := 3) rfl 3 rfl (q := 169) rfl ?_
      refine v_lload F dX8_solves_169 6 rfl (q := 171) rfl ?_
      refine v_lload F dX8_solves_171 8 rfl (q := 173) rfl ?_
      refine v_lmul F dX8_solves_173 (q := 174) rfl ?_
      refine v_lload F dX8_solves_174 7 rfl (q := 176) rfl ?_
      refine v_lload F dX8_solves_176 7 rfl (q := 178) rfl ?_
      refine v_lmul F dX8_solves_178 (q := 179) rfl ?_
      refine v_lsub F dX8_solves_179 (q := 180) rfl ?_
      refine v_lmul F dX8_solves_180 (q := 181) rfl ?_
      refine v_lload F dX8_solves_181 4 rfl (q := 183) rfl ?_
      refine v_lload F dX8_solves_183 4 rfl (q := 185) rfl ?_
      refine v_lload F dX8_solves_185 8 rfl (q := 187) rfl ?_
      refine v_lmul F dX8_solves_187 (q := 188) rfl ?_
      refine v_lload F dX8_solves_188 7 rfl (q := 190) rfl ?_
      refine v_lload F dX8_solves_190 5 rfl (q := 192) rfl ?_
      refine v_lmul F dX8_solves_192 (q := 193) rfl ?_
      refine v_lsub F dX8_solves_193 (q := 194) rfl ?_
      refine v_lmul F dX8_solves_194 (q := 195) rfl ?_
      refine v_lsub F dX8_solves_195 (q := 196) rfl ?_
      refine v_lload F dX8_solves_196 5 rfl (q := 198) rfl ?_
      refine v_lload F dX8_solves_198 4 rfl (q := 200) rfl ?_
      refine v_lload F dX8_solves_200 7 rfl (q := 202) rfl ?_
      refine v_lmul F dX8_solves_202 (q := 203) rfl ?_
      refine v_lload F dX8_solves_203 6 rfl (q := 205) rfl ?_
      refine v_lload F dX8_solves_205 5 rfl (q := 207) rfl ?_
      refine v_lmul F dX8_solves_207 (q := 208) rfl ?_
      refine v_lsub F dX8_solves_208 (q := 209) rfl ?_
      refine v_lmul F dX8_solves_209 (q := 210) rfl ?_
      refine v_ladd F dX8_solves_210 (q := 211) rfl ?_
      refine v_long (y := zL (dDE pk px py B N)) (by simp only [zL_mul, zL_sub, zL_add]; exact congrArg zL (so_de (sm B (fK pk) N) (sm B (fKX pk px) N) (sm B (fKX pk py) N) (sm B (fKXX pk px px) N) (sm B (fKXX pk px py) N) (sm B (fKXX pk py py) N))) ?_
      refine pt_X8_98 F dX8_solves_211 0 rfl (Nat.le_of_ble_eq_true rfl) (q := 214) rfl ?_
      refine v_ws (ws' := [(y0, .inr (8, [.int (nI n), .ref y1, .ref y2, .ref y3, .int sc, .int sp, .int (nI N), .ref y4, .ref y5, .ref y6, .ref y7, .ref y8, .ref y9, .ref y10, .ref y11, .ref y12, .int (nI tn), .ref y13, .ref y14, .long (zL (dDE pk px py B N)), .long (zL si), .long (zL t1), .long (zL t2)])), (y1, .inl (cI, 6, .inl th)), (y2, .inl (cI, 6, .inl sd)), (y3, .inl (cI, 6, .inl tp)), (y4, .inl (cI, 12, .inl px)), (y5, .inl (cI, 12, .inl py)), (y6, .inl (cI, 12, .inl (fun i => nI (pl i)))), (y7, .inl (cI, 12, .inl pk)), (y8, .inl (cZ, 12, .inl (fun i => bI (M.testBit i)))), (y9, .inl (cI, 3, .inl (fun i => nI (ls i)))), (y10, .inl (cI, 18, .inl lv)), (y11, .inl (cI, 18, .inl lx)), (y12, .inl (cI, 18, .inl ly)), (y13, .inl (cJ, 15, .inr (.inl ab))), (y14, .inl (cJ, 15, .inr (.inl bl)))]) rfl ?_
      refine v_aload_n F dX8_solves_214 (i := 0) rfl 0 rfl (q := 215) rfl ?_
      refine gt_X8_98 F dX8_solves_215 0 rfl rfl (q := 218) rfl ?_
      refine v_lconst F dX8_solves_218 (v := 0) (q := 219) rfl rfl ?_
      refine v_lcmp_ne F dX8_solves_219 dX8_solves_220 (tgt := 225) rfl (q := 223) rfl (fun c219 => ?_) (fun c219 => ?_)
      · skip
        have hst : 0 < dDE pk px py B N := by
          rcases Int.lt_or_eq_of_le hDN with q | q
          · exact q
          · exact absurd (by rw [← q]; rfl) c219
        refine v_lconst F dX8_solves_225 (v := 0) (q := 226) rfl rfl ?_
        refine v_lstore F dX8_solves_226 (lv' := [(15, .long 0), (0, .ref y0), (1, .int (nI B)), (2, .int (nI kc)), (3, .long (zL (sm B (fK pk) N))), (5, .long (zL (sm B (fKX pk px) N))), (7, .long (zL (sm B (fKX pk py) N))), (9, .long (zL (sm B (fKXX pk px px) N))), (11, .long (zL (sm B (fKXX pk px py) N))), (13, .long (zL (sm B (fKXX pk py py) N)))]) (Nat.le_of_ble_eq_true rfl) rfl (q := 228) rfl ?_
        refine v_lconst F dX8_solves_228 (v := 0) (q := 229) rfl rfl ?_
        refine v_lstore F dX8_solves_229 (lv' := [(17, .long 0), (15, .long 0), (0, .ref y0), (1, .int (nI B)), (2, .int (nI kc)), (3, .long (zL (sm B (fK pk) N))), (5, .long (zL (sm B (fKX pk px) N))), (7, .long (zL (sm B (fKX pk py) N))), (9, .long (zL (sm B (fKXX pk px px) N))), (11, .long (zL (sm B (fKXX pk px py) N))), (13, .long (zL (sm B (fKXX pk py py) N)))]) (Nat.le_of_ble_eq_true rfl) rfl (q := 231) rfl ?_
        refine v_lconst F dX8_solves_231 (v := 0) (q := 232) rfl rfl ?_
        refine v_lstore F dX8_solves_232 (lv' := [(19, .long 0), (17, .long 0), (15, .long 0), (0, .ref y0), (1, .int (nI B)), (2, .int (nI kc)), (3, .long (zL (sm B (fK pk) N))), (5, .long (zL (sm B (fKX pk px) N))), (7, .long (zL (sm B (fKX pk py) N))), (9, .long (zL (sm B (fKXX pk px px) N))), (11, .long (zL (sm B (fKXX pk px py) N))), (13, .long (zL (sm B (fKXX pk py py) N)))]) (Nat.le_of_ble_eq_true rfl) rfl (q := 234) rfl ?_
        refine v_iconst F dX8_solves_234 (v := 0) (q := 235) rfl rfl ?_
        refine v_istore F dX8_solves_235 (lv' := [(21, .int 0), (19, .long 0), (17, .long 0), (15, .long 0), (0, .ref y0), (1, .int (nI B)), (2, .int (nI kc)), (3, .long (zL (sm B (fK pk) N))), (5, .long (zL (sm B (fKX pk px) N))), (7, .long (zL (sm B (fKX pk py) N))), (9, .long (zL (sm B (fKXX pk px px) N))), (11, .long (zL (sm B (fKXX pk px py) N))), (13, .long (zL (sm B (fKXX pk py py) N)))]) (Nat.le_of_ble_eq_true rfl) rfl (q := 237) rfl ?_
        have L237 : ∀ (d iw : Nat), iw + d = ls kc → V p l e R s m args below meth c D A 24 0 0 Q 237 [(0, .ref y0), (2, .int (nI kc)), (3, .long (zL (sm B (fK pk) N))), (5, .long (zL (sm B (fKX pk px) N))), (7, .long (zL (sm B (fKX pk py) N))), (9, .long (zL (sm B (fKXX pk px px) N))), (11, .long (zL (sm B (fKXX pk px py) N))), (13, .long (zL (sm B (fKXX pk py py) N))), (15, .long (zL (isum (fun j => (lv (6 * kc + j)).toInt) iw))), (17, .long (zL (isum (fun j => (lv (6 * kc + j)).toInt * (lx (6 * kc + j)).toInt) iw))), (19, .long (zL (isum (fun j => (lv (6 * kc + j)).toInt * (ly (6 * kc + j)).toInt) iw))), (21, .int (nI iw))] [] [(y0, .inr (8, [.int (nI n), .ref y1, .ref y2, .ref y3, .int sc, .int sp, .int (nI N), .ref y4, .ref y5, .ref y6, .ref y7, .ref y8, .ref y9, .ref y10, .ref y11, .ref y12, .int (nI tn), .ref y13, .ref y14, .long (zL (dDE pk px py B N)), .long (zL si), .long (zL t1), .long (zL t2)])), (y1, .inl (cI, 6, .inl th)), (y2, .inl (cI, 6, .inl sd)), (y3, .inl (cI, 6, .inl tp)), (y4, .inl (cI, 12, .inl px)), (y5, .inl (cI, 12, .inl py)), (y6, .inl (cI, 12, .inl (fun i => nI (pl i)))), (y7, .inl (cI, 12, .inl pk)), (y8, .inl (cZ, 12, .inl (fun i => bI (M.testBit i)))), (y9, .inl (cI, 3, .inl (fun i => nI (ls i)))), (y10, .inl (cI, 18, .inl lv)), (y11, .inl (cI, 18, .inl lx)), (y12, .inl (cI, 18, .inl ly)), (y13, .inl (cJ, 15, .inr (.inl ab))), (y14, .inl (cJ, 15, .inr (.inl bl)))] := by
          intro d
          induction d using Nat.strongRecOn with
          | _ d ih2 => ?_
          intro iw hi
          refine v_iload F dX8_solves_237 11 rfl (q := 239) rfl ?_
          refine v_aload_n F dX8_solves_239 (i := 0) rfl 0 rfl (q := 240) rfl ?_
          refine gt_X8_35 F dX8_solves_240 0 rfl rfl (q := 243) rfl ?_
          refine v_iload_n F dX8_solves_243 (i := 2) rfl 1 rfl (q := 244) rfl ?_
          refine v_ialdN F 9 0 rfl rfl (j := kc) (by omega) (by decide) dX8_solves_244 (q := 245) rfl ?_
          refine v_st (st' := [.int (nI (ls kc)), .int (nI iw)]) rfl ?_
          refine v_icmp_ge F dX8_solves_245 (tgt := 318) rfl (q := 248) rfl (fun c245 => ?_) (fun c245 => ?_)
          · skip
            rw [nI_leI (by omega) (by omega)] at c245
            have hiu : ls kc = iw := by omega
            subst hiu
            refine v_aload_n F dX8_solves_318 (i := 0) rfl 0 rfl (q := 319) rfl ?_
            refine v_lload F dX8_solves_319 8 rfl (q := 321) rfl ?_
            refine v_lload F dX8_solves_321 5 rfl (q := 323) rfl ?_
            refine v_lload F dX8_solves_323 7 rfl (q := 325) rfl ?_
            refine v_lmul F dX8_solves_325 (q := 326) rfl ?_
            refine v_lload F dX8_solves_326 6 rfl (q := 328) rfl ?_
            refine v_lload F dX8_solves_328 6 rfl (q := 330) rfl ?_
            refine v_lmul F dX8_solves_330 (q := 331) rfl ?_
            refine v_lsub F dX8_solves_331 (q := 332) rfl ?_
            refine v_lmul F dX8_solves_332 (q := 333) rfl ?_
            refine v_lload F dX8_solves_333 3 rfl (q := 335) rfl ?_
            refine v_lload F dX8_solves_335 9 rfl (q := 337) rfl ?_
            refine v_lload F dX8_solves_337 7 rfl (q := 339) rfl ?_
            refine v_lmul F dX8_solves_339 (q := 340) rfl ?_
            refine v_lload F dX8_solves_340 6 rfl (q := 342) rfl ?_
            refine v_lload F dX8_solves_342 10 rfl (q := 344) rfl ?_
            refine v_lmul F dX8_solves_344 (q := 345) rfl ?_
            refine v_lsub F dX8_solves_345 (q := 346) rfl ?_
            refine v_lmul F dX8_solves_346 (q := 347) rfl ?_
            refine v_lsub F dX8_solves_347 (q := 348) rfl ?_
            refine v_lload F dX8_solves_348 4 rfl (q := 350) rfl ?_
            refine v_lload F dX8_solves_350 9 rfl (q := 352) rfl ?_
            refine v_lload F dX8_solves_352 6 rfl (q := 354) rfl ?_
            refine v_lmul F dX8_solves_354 (q := 355) rfl ?_
            refine v_lload F dX8_solves_355 5 rfl (q := 357) rfl ?_
            refine v_lload F dX8_solves_357 10 rfl (q := 359) rfl ?_
            refine v_lmul F dX8_solves_359 (q := 360) rfl ?_
            refine v_lsub F dX8_solves_360 (q := 361) rfl ?_
            refine v_lmul F dX8_solves_361 (q := 362) rfl ?_
            refine v_ladd F dX8_solves_362 (q := 363) rfl ?_
            refine v_long (y := zL (cWi pk px py B N ls lv lx ly kc)) (by simp only [zL_mul, zL_sub, zL_add]; exact congrArg zL (so_w (isum (fun j => (lv (6 * kc + j)).toInt) (ls kc)) (isum (fun j => (lv (6 * kc + j)).toInt * (lx (6 * kc + j)).toInt) (ls kc)) (isum (fun j => (lv (6 * kc + j)).toInt * (ly (6 * kc + j)).toInt) (ls kc)) (sm B (fK pk) N) (sm B (fKX pk px) N) (sm B (fKX pk py) N) (sm B (fKXX pk px px) N) (sm B (fKXX pk px py) N) (sm B (fKXX pk py py) N))) ?_
            refine pt_X8_102 F dX8_solves_363 0 rfl (Nat.le_of_ble_eq_true rfl) (q := 366) rfl ?_
            refine v_ws (ws' := [(y0, .inr (8, [.int (nI n), .ref y1, .ref y2, .ref y3, .int sc, .int sp, .int (nI N), .ref y4, .ref y5, .ref y6, .ref y7, .ref y8, .ref y9, .ref y10, .ref y11, .ref y12, .int (nI tn), .ref y13, .ref y14, .long (zL (dDE pk px py B N)), .long (zL (cWi pk px py B N ls lv lx ly kc)), .long (zL t1), .long (zL t2)])), (y1, .inl (cI, 6, .inl th)), (y2, .inl (cI, 6, .inl sd)), (y3, .inl (cI, 6, .inl tp)), (y4, .inl (cI, 12, .inl px)), (y5, .inl (cI, 12, .inl py)), (y6, .inl (cI, 12, .inl (fun i => nI (pl i)))), (y7, .inl (cI, 12, .inl pk)), (y8, .inl (cZ, 12, .inl (fun i => bI (M.testBit i)))), (y9, .inl (cI, 3, .inl (fun i => nI (ls i)))), (y10, .inl (cI, 18, .inl lv)), (y11, .inl (cI, 18, .inl lx)), (y12, .inl (cI, 18, .inl ly)), (y13, .inl (cJ, 15, .inr (.inl ab))), (y14, .inl (cJ, 15, .inr (.inl bl)))]) rfl ?_
            refine v_aload_n F dX8_solves_366 (i := 0) rfl 0 rfl (q := 367) rfl ?_
            refine v_lload_n F dX8_solves_367 (i := 3) rfl 2 rfl (q := 368) rfl ?_
            refine v_lload F dX8_solves_368 9 rfl (q := 370) rfl ?_
            refine v_lload F dX8_solves_370 7 rfl (q := 372) rfl ?_
            refine v_lmul F dX8_solves_372 (q := 373) rfl ?_
            refine v_lload F dX8_solves_373 6 rfl (q := 375) rfl ?_
            refine v_lload F dX8_solves_375 10 rfl (q := 377) rfl ?_
            refine v_lmul F dX8_solves_377 (q := 378) rfl ?_
            refine v_lsub F dX8_solves_378 (q := 379) rfl ?_
            refine v_lmul F dX8_solves_379 (q := 380) rfl ?_
            refine v_lload F dX8_solves_380 8 rfl (q := 382) rfl ?_
            refine v_lload F dX8_solves_382 3 rfl (q := 384) rfl ?_
            refine v_lload F dX8_solves_384 7 rfl (q := 386) rfl ?_
            refine v_lmul F dX8_solves_386 (q := 387) rfl ?_
            refine v_lload F dX8_solves_387 6 rfl (q := 389) rfl ?_
            refine v_lload F dX8_solves_389 4 rfl (q := 391) rfl ?_
            refine v_lmul F dX8_solves_391 (q := 392) rfl ?_
            refine v_lsub F dX8_solves_392 (q := 393) rfl ?_
            refine v_lmul F dX8_solves_393 (q := 394) rfl ?_
            refine v_lsub F dX8_solves_394 (q := 395) rfl ?_
            refine v_lload F dX8_solves_395 4 rfl (q := 397) rfl ?_
            refine v_lload F dX8_solves_397 3 rfl (q := 399) rfl ?_
            refine v_lload F dX8_solves_399 10 rfl (q := 401) rfl ?_
            refine v_lmul F dX8_solves_401 (q := 402) rfl ?_
            refine v_lload F dX8_solves_402 9 rfl (q := 404) rfl ?_
            refine v_lload F dX8_solves_404 4 rfl (q := 406) rfl ?_
            refine v_lmul F dX8_solves_406 (q := 407) rfl ?_
            refine v_lsub F dX8_solves_407 (q := 408) rfl ?_
            refine v_lmul F dX8_solves_408 (q := 409) rfl ?_
            refine v_ladd F dX8_solves_409 (q := 410) rfl ?_
            refine v_long (y := zL (cPi pk px py B N ls lv lx ly kc)) (by simp only [zL_mul, zL_sub, zL_add]; exact congrArg zL (so_p (isum (fun j => (lv (6 * kc + j)).toInt) (ls kc)) (isum (fun j => (lv (6 * kc + j)).toInt * (lx (6 * kc + j)).toInt) (ls kc)) (isum (fun j => (lv (6 * kc + j)).toInt * (ly (6 * kc + j)).toInt) (ls kc)) (sm B (fK pk) N) (sm B (fKX pk px) N) (sm B (fKX pk py) N) (sm B (fKXX pk px px) N) (sm B (fKXX pk px py) N) (sm B (fKXX pk py py) N))) ?_
            refine pt_X8_105 F dX8_solves_410 0 rfl (Nat.le_of_ble_eq_true rfl) (q := 413) rfl ?_
            refine v_ws (ws' := [(y0, .inr (8, [.int (nI n), .ref y1, .ref y2, .ref y3, .int sc, .int sp, .int (nI N), .ref y4, .ref y5, .ref y6, .ref y7, .ref y8, .ref y9, .ref y10, .ref y11, .ref y12, .int (nI tn), .ref y13, .ref y14, .long (zL (dDE pk px py B N)), .long (zL (cWi pk px py B N ls lv lx ly kc)), .long (zL (cPi pk px py B N ls lv lx ly kc)), .long (zL t2)])), (y1, .inl (cI, 6, .inl th)), (y2, .inl (cI, 6, .inl sd)), (y3, .inl (cI, 6, .inl tp)), (y4, .inl (cI, 12, .inl px)), (y5, .inl (cI, 12, .inl py)), (y6, .inl (cI, 12, .inl (fun i => nI (pl i)))), (y7, .inl (cI, 12, .inl pk)), (y8, .inl (cZ, 12, .inl (fun i => bI (M.testBit i)))), (y9, .inl (cI, 3, .inl (fun i => nI (ls i)))), (y10, .inl (cI, 18, .inl lv)), (y11, .inl (cI, 18, .inl lx)), (y12, .inl (cI, 18, .inl ly)), (y13, .inl (cJ, 15, .inr (.inl ab))), (y14, .inl (cJ, 15, .inr (.inl bl)))]) rfl ?_
            refine v_aload_n F dX8_solves_413 (i := 0) rfl 0 rfl (q := 414) rfl ?_
            refine v_lload_n F dX8_solves_414 (i := 3) rfl 2 rfl (q := 415) rfl ?_
            refine v_lload F dX8_solves_415 5 rfl (q := 417) rfl ?_
            refine v_lload F dX8_solves_417 10 rfl (q := 419) rfl ?_
            refine v_lmul F dX8_solves_419 (q := 420) rfl ?_
            refine v_lload F dX8_solves_420 9 rfl (q := 422) rfl ?_
            refine v_lload F dX8_solves_422 6 rfl (q := 424) rfl ?_
            refine v_lmul F dX8_solves_424 (q := 425) rfl ?_
            refine v_lsub F dX8_solves_425 (q := 426) rfl ?_
            refine v_lmul F dX8_solves_426 (q := 427) rfl ?_
            refine v_lload F dX8_solves_427 3 rfl (q := 429) rfl ?_
            refine v_lload F dX8_solves_429 3 rfl (q := 431) rfl ?_
            refine v_lload F dX8_solves_431 10 rfl (q := 433) rfl ?_
            refine v_lmul F dX8_solves_433 (q := 434) rfl ?_
            refine v_lload F dX8_solves_434 9 rfl (q := 436) rfl ?_
            refine v_lload F dX8_solves_436 4 rfl (q := 438) rfl ?_
            refine v_lmul F dX8_solves_438 (q := 439) rfl ?_
            refine v_lsub F dX8_solves_439 (q := 440) rfl ?_
            refine v_lmul F dX8_solves_440 (q := 441) rfl ?_
            refine v_lsub F dX8_solves_441 (q := 442) rfl ?_
            refine v_lload F dX8_solves_442 8 rfl (q := 444) rfl ?_
            refine v_lload F dX8_solves_444 3 rfl (q := 446) rfl ?_
            refine v_lload F dX8_solves_446 6 rfl (q := 448) rfl ?_
            refine v_lmul F dX8_solves_448 (q := 449) rfl ?_
            refine v_lload F dX8_solves_449 5 rfl (q := 451) rfl ?_
            refine v_lload F dX8_solves_451 4 rfl (q := 453) rfl ?_
            refine v_lmul F dX8_solves_453 (q := 454) rfl ?_
            refine v_lsub F dX8_solves_454 (q := 455) rfl ?_
            refine v_lmul F dX8_solves_455 (q := 456) rfl ?_
            refine v_ladd F dX8_solves_456 (q := 457) rfl ?_
            refine v_long (y := zL (cQi pk px py B N ls lv lx ly kc)) (by simp only [zL_mul, zL_sub, zL_add]; exact congrArg zL (so_q (isum (fun j => (lv (6 * kc + j)).toInt) (ls kc)) (isum (fun j => (lv (6 * kc + j)).toInt * (lx (6 * kc + j)).toInt) (ls kc)) (isum (fun j => (lv (6 * kc + j)).toInt * (ly (6 * kc + j)).toInt) (ls kc)) (sm B (fK pk) N) (sm B (fKX pk px) N) (sm B (fKX pk py) N) (sm B (fKXX pk px px) N) (sm B (fKXX pk px py) N) (sm B (fKXX pk py py) N))) ?_
            refine pt_X8_108 F dX8_solves_457 0 rfl (Nat.le_of_ble_eq_true rfl) (q := 460) rfl ?_
            refine v_ws (ws' := [(y0, .inr (8, [.int (nI n), .ref y1, .ref y2, .ref y3, .int sc, .int sp, .int (nI N), .ref y4, .ref y5, .ref y6, .ref y7, .ref y8, .ref y9, .ref y10, .ref y11, .ref y12, .int (nI tn), .ref y13, .ref y14, .long (zL (dDE pk px py B N)), .long (zL (cWi pk px py B N ls lv lx ly kc)), .long (zL (cPi pk px py B N ls lv lx ly kc)), .long (zL (cQi pk px py B N ls lv lx ly kc))])), (y1, .inl (cI, 6, .inl th)), (y2, .inl (cI, 6, .inl sd)), (y3, .inl (cI, 6, .inl tp)), (y4, .inl (cI, 12, .inl px)), (y5, .inl (cI, 12, .inl py)), (y6, .inl (cI, 12, .inl (fun i => nI (pl i)))), (y7, .inl (cI, 12, .inl pk)), (y8, .inl (cZ, 12, .inl (fun i => bI (M.testBit i)))), (y9, .inl (cI, 3, .inl (fun i => nI (ls i)))), (y10, .inl (cI, 18, .inl lv)), (y11, .inl (cI, 18, .inl lx)), (y12, .inl (cI, 18, .inl ly)), (y13, .inl (cJ, 15, .inr (.inl ab))), (y14, .inl (cJ, 15, .inr (.inl bl)))]) rfl ?_
            refine v_iconst F dX8_solves_460 (v := 1) (q := 461) rfl rfl ?_
            exact hE (by first | rfl | exact bI_nar _) dX8_solves_461 (Nat.zero_le _) (Nat.zero_le _) ⟨Or.inr ⟨hst, rfl, rfl⟩, Nat.le_of_ble_eq_true rfl⟩
          · skip
            rw [nI_leI (by omega) (by omega)] at c245
            obtain ⟨d, rfl⟩ : ∃ d2, d = d2 + 1 := ⟨d - 1, by omega⟩
            refine v_aload_n F dX8_solves_248 (i := 0) rfl 0 rfl (q := 249) rfl ?_
            refine gt_X8_38 F dX8_solves_249 0 rfl rfl (q := 252) rfl ?_
            refine v_bipush F dX8_solves_252 (v := 6) (q := 254) rfl rfl ?_
            refine v_iload_n F dX8_solves_254 (i := 2) rfl 1 rfl (q := 255) rfl ?_
            refine v_imul F dX8_solves_255 (q := 256) rfl ?_
            refine v_iload F dX8_solves_256 11 rfl (q := 258) rfl ?_
            refine v_iadd F dX8_solves_258 (q := 259) rfl ?_
            refine v_int (y := nI (6 * kc + iw)) (ix6) ?_
            refine v_ialdN F 10 0 rfl rfl (j := 6 * kc + iw) (by omega) (by decide) dX8_solves_259 (q := 260) rfl ?_
            refine v_i2l F dX8_solves_260 (q := 261) rfl ?_
            refine v_long (y := zL (lv (6 * kc + iw)).toInt) (i2l_as _) ?_
            refine v_lstore F dX8_solves_261 (lv' := [(22, .long (zL (lv (6 * kc + iw)).toInt)), (0, .ref y0), (2, .int (nI kc)), (3, .long (zL (sm B (fK pk) N))), (5, .long (zL (sm B (fKX pk px) N))), (7, .long (zL (sm B (fKX pk py) N))), (9, .long (zL (sm B (fKXX pk px px) N))), (11, .long (zL (sm B (fKXX pk px py) N))), (13, .long (zL (sm B (fKXX pk py py) N))), (15, .long (zL (isum (fun j => (lv (6 * kc + j)).toInt) iw))), (17, .long (zL (isum (fun j => (lv (6 * kc + j)).toInt * (lx (6 * kc + j)).toInt) iw))), (19, .long (zL (isum (fun j => (lv (6 * kc + j)).toInt * (ly (6 * kc + j)).toInt) iw))), (21, .int (nI iw))]) (Nat.le_of_ble_eq_true rfl) rfl (q := 263) rfl ?_
            refine v_lload F dX8_solves_263 9 rfl (q := 265) rfl ?_
            refine v_lload F dX8_solves_265 0 rfl (q := 267) rfl ?_
            refine v_ladd F dX8_solves_267 (q := 268) rfl ?_
            refine v_long (y := zL (isum (fun j => (lv (6 * kc + j)).toInt) (iw + 1))) (zL_add _ _) ?_
            refine v_lstore F dX8_solves_268 (lv' := [(15, .long (zL (isum (fun j => (lv (6 * kc + j)).toInt) (iw + 1)))), (22, .long (zL (lv (6 * kc + iw)).toInt)), (0, .ref y0), (2, .int (nI kc)), (3, .long (zL (sm B (fK pk) N))), (5, .long (zL (sm B (fKX pk px) N))), (7, .long (zL (sm B (fKX pk py) N))), (9, .long (zL (sm B (fKXX pk px px) N))), (11, .long (zL (sm B (fKXX pk px py) N))), (13, .long (zL (sm B (fKXX pk py py) N))), (17, .long (zL (isum (fun j => (lv (6 * kc + j)).toInt * (lx (6 * kc + j)).toInt) iw))), (19, .long (zL (isum (fun j => (lv (6 * kc + j)).toInt * (ly (6 * kc + j)).toInt) iw))), (21, .int (nI iw))]) (Nat.le_of_ble_eq_true rfl) rfl (q := 270) rfl ?_
            refine v_lload F dX8_solves_270 10 rfl (q := 272) rfl ?_
            refine v_lload F dX8_solves_272 1 rfl (q := 274) rfl ?_
            refine v_aload_n F dX8_solves_274 (i := 0) rfl 2 rfl (q := 275) rfl ?_
            refine gt_X8_41 F dX8_solves_275 0 rfl rfl (q := 278) rfl ?_
            refine v_bipush F dX8_solves_278 (v := 6) (q := 280) rfl rfl ?_
            refine v_iload_n F dX8_solves_280 (i := 2) rfl 3 rfl (q := 281) rfl ?_
            refine v_imul F dX8_solves_281 (q := 282) rfl ?_
            refine v_iload F dX8_solves_282 12 rfl (q := 284) rfl ?_
            refine v_iadd F dX8_solves_284 (q := 285) rfl ?_
            refine v_int (y := nI (6 * kc + iw)) (ix6) ?_
            refine v_ialdN F 11 0 rfl rfl (j := 6 * kc + iw) (by omega) (by decide) dX8_solves_285 (q := 286) rfl ?_
            refine v_i2l F dX8_solves_286 (q := 287) rfl ?_
            refine v_lmul F dX8_solves_287 (q := 288) rfl ?_
            refine v_ladd F dX8_solves_288 (q := 289) rfl ?_
            refine v_long (y := zL (isum (fun j => (lv (6 * kc + j)).toInt * (lx (6 * kc + j)).toInt) (iw + 1))) (by rw [i2l_as, zL_mul, zL_add]; rfl) ?_
            refine v_lstore F dX8_solves_289 (lv' := [(17, .long (zL (isum (fun j => (lv (6 * kc + j)).toInt * (lx (6 * kc + j)).toInt) (iw + 1)))), (15, .long (zL (isum (fun j => (lv (6 * kc + j)).toInt) (iw + 1)))), (22, .long (zL (lv (6 * kc + iw)).toInt)), (0, .ref y0), (2, .int (nI kc)), (3, .long (zL (sm B (fK pk) N))), (5, .long (zL (sm B (fKX pk px) N))), (7, .long (zL (sm B (fKX pk py) N))), (9, .long (zL (sm B (fKXX pk px px) N))), (11, .long (zL (sm B (fKXX pk px py) N))), (13, .long (zL (sm B (fKXX pk py py) N))), (19, .long (zL (isum (fun j => (lv (6 * kc + j)).toInt * (ly (6 * kc + j)).toInt) iw))), (21, .int (nI iw))]) (Nat.le_of_ble_eq_true rfl) rfl (q := 291) rfl ?_
            refine v_lload F dX8_solves_291 11 rfl (q := 293) rfl ?_
            refine v_lload F dX8_solves_293 2 rfl (q := 295) rfl ?_
            refine v_aload_n F dX8_solves_295 (i := 0) rfl 3 rfl (q := 296) rfl ?_
            refine gt_X8_44 F dX8_solves_296 0 rfl rfl (q := 299) rfl ?_
            refine v_bipush F dX8_solves_299 (v := 6) (q := 301) rfl rfl ?_
            refine v_iload_n F dX8_solves_301 (i := 2) rfl 4 rfl (q := 302) rfl ?_
            refine v_imul F dX8_solves_302 (q := 303) rfl ?_
            refine v_iload F dX8_solves_303 12 rfl (q := 305) rfl ?_
            refine v_iadd F dX8_solves_305 (q := 306) rfl ?_
            refine v_int (y := nI (6 * kc + iw)) (ix6) ?_
            refine v_ialdN F 12 0 rfl rfl (j := 6 * kc + iw) (by omega) (by decide) dX8_solves_306 (q := 307) rfl ?_
            refine v_i2l F dX8_solves_307 (q := 308) rfl ?_
            refine v_lmul F dX8_solves_308 (q := 309) rfl ?_
            refine v_ladd F dX8_solves_309 (q := 310) rfl ?_
            refine v_long (y := zL (isum (fun j => (lv (6 * kc + j)).toInt * (ly (6 * kc + j)).toInt) (iw + 1))) (by rw [i2l_as, zL_mul, zL_add]; rfl) ?_
            refine v_lstore F dX8_solves_310 (lv' := [(19, .long (zL (isum (fun j => (lv (6 * kc + j)).toInt * (ly (6 * kc + j)).toInt) (iw + 1)))), (17, .long (zL (isum (fun j => (lv (6 * kc + j)).toInt * (lx (6 * kc + j)).toInt) (iw + 1)))), (15, .long (zL (isum (fun j => (lv (6 * kc + j)).toInt) (iw + 1)))), (22, .long (zL (lv (6 * kc + iw)).toInt)), (0, .ref y0), (2, .int (nI kc)), (3, .long (zL (sm B (fK pk) N))), (5, .long (zL (sm B (fKX pk px) N))), (7, .long (zL (sm B (fKX pk py) N))), (9, .long (zL (sm B (fKXX pk px px) N))), (11, .long (zL (sm B (fKXX pk px py) N))), (13, .long (zL (sm B (fKXX pk py py) N))), (21, .int (nI iw))]) (Nat.le_of_ble_eq_true rfl) rfl (q := 312) rfl ?_
            refine v_iinc F dX8_solves_312 12 rfl (v := nI (iw + 1)) (lv' := [(21, .int (nI (iw + 1))), (19, .long (zL (isum (fun j => (lv (6 * kc + j)).toInt * (ly (6 * kc + j)).toInt) (iw + 1)))), (17, .long (zL (isum (fun j => (lv (6 * kc + j)).toInt * (lx (6 * kc + j)).toInt) (iw + 1)))), (15, .long (zL (isum (fun j => (lv (6 * kc + j)).toInt) (iw + 1)))), (22, .long (zL (lv (6 * kc + iw)).toInt)), (0, .ref y0), (2, .int (nI kc)), (3, .long (zL (sm B (fK pk) N))), (5, .long (zL (sm B (fKX pk px) N))), (7, .long (zL (sm B (fKX pk py) N))), (9, .long (zL (sm B (fKXX pk px px) N))), (11, .long (zL (sm B (fKXX pk px py) N))), (13, .long (zL (sm B (fKXX pk py py) N)))]) (nI_1 iw) (Nat.le_of_ble_eq_true rfl) rfl (q := 315) rfl ?_
            refine v_goto F dX8_solves_315 (tgt := 237) rfl ?_
            refine v_lv (lv' := [(0, .ref y0), (2, .int (nI kc)), (3, .long (zL (sm B (fK pk) N))), (5, .long (zL (sm B (fKX pk px) N))), (7, .long (zL (sm B (fKX pk py) N))), (9, .long (zL (sm B (fKXX pk px px) N))), (11, .long (zL (sm B (fKXX pk px py) N))), (13, .long (zL (sm B (fKXX pk py py) N))), (15, .long (zL (isum (fun j => (lv (6 * kc + j)).toInt) (iw + 1)))), (17, .long (zL (isum (fun j => (lv (6 * kc + j)).toInt * (lx (6 * kc + j)).toInt) (iw + 1)))), (19, .long (zL (isum (fun j => (lv (6 * kc + j)).toInt * (ly (6 * kc + j)).toInt) (iw + 1)))), (21, .int (nI (iw + 1)))]) [5, 6, 7, 8, 9, 10, 11, 12, 3, 2, 1, 0] rfl ?_
            exact ih2 d (by omega) (iw + 1) (by omega)
        refine v_lv (lv' := [(0, .ref y0), (2, .int (nI kc)), (3, .long (zL (sm B (fK pk) N))), (5, .long (zL (sm B (fKX pk px) N))), (7, .long (zL (sm B (fKX pk py) N))), (9, .long (zL (sm B (fKXX pk px px) N))), (11, .long (zL (sm B (fKXX pk px py) N))), (13, .long (zL (sm B (fKXX pk py py) N))), (15, .long 0), (17, .long 0), (19, .long 0), (21, .int 0)]) [4, 6, 7, 8, 9, 10, 11, 12, 3, 2, 1, 0] rfl ?_
        exact L237 (ls kc) 0 (by omega)
      · skip
        rw [show (0 : Int64) = zL 0 from rfl, zL_eq (by omega) (by omega) (by omega) (by omega)] at c219
        refine v_iconst F dX8_solves_223 (v := 0) (q := 224) rfl rfl ?_
        exact hE (by first | rfl | exact bI_nar _) dX8_solves_224 (Nat.zero_le _) (Nat.zero_le _) ⟨Or.inl ⟨by omega, rfl, rfl⟩, Nat.le_of_ble_eq_true rfl⟩
    · skip
      rw [nI_leI (by omega) (by omega)] at c26
      obtain ⟨d, rfl⟩ : ∃ d2, d = d2 + 1 := ⟨d - 1, by omega⟩
      refine v_iload_n F dX8_solves_29 (i := 1) rfl 1 rfl (q := 30) rfl ?_
      refine v_iload F dX8_solves_30 9 rfl (q := 32) rfl ?_
      refine v_ishr F dX8_solves_32 (q := 33) rfl ?_
      refine v_iconst F dX8_solves_33 (v := 1) (q := 34) rfl rfl ?_
      refine v_iand F dX8_solves_34 (q := 35) rfl ?_
      refine v_int (y := bI (B.testBit k)) (sh_bit hB (by omega)) ?_
      refine v_iconst F dX8_solves_35 (v := 1) (q := 36) rfl rfl ?_
      refine v_icmp_ne F dX8_solves_36 (tgt := 161) rfl (q := 39) rfl (fun c36 => ?_) (fun c36 => ?_)
      · skip
        rw [bI_no] at c36
        refine v_iinc F dX8_solves_161 9 rfl (v := nI (k + 1)) (lv' := [(15, .int (nI (k + 1))), (0, .ref y0), (1, .int (nI B)), (2, .int (nI kc)), (3, .long (zL (sm B (fK pk) k))), (5, .long (zL (sm B (fKX pk px) k))), (7, .long (zL (sm B (fKX pk py) k))), (9, .long (zL (sm B (fKXX pk px px) k))), (11, .long (zL (sm B (fKXX pk px py) k))), (13, .long (zL (sm B (fKXX pk py py) k)))]) (nI_1 k) (Nat.le_of_ble_eq_true rfl) rfl (q := 164) rfl ?_
        refine v_goto F dX8_solves_164 (tgt := 20) rfl ?_
        refine v_lv (lv' := [(0, .ref y0), (1, .int (nI B)), (2, .int (nI kc)), (3, .long (zL (sm B (fK pk) k))), (5, .long (zL (sm B (fKX pk px) k))), (7, .long (zL (sm B (fKX pk py) k))), (9, .long (zL (sm B (fKXX pk px px) k))), (11, .long (zL (sm B (fKXX pk px py) k))), (13, .long (zL (sm B (fKXX pk py py) k))), (15, .int (nI (k + 1)))]) [1, 2, 3, 4, 5, 6, 7, 8, 9, 0] rfl ?_
        have hV := ih d (by omega) (k + 1) (by omega)
        simp only [sm_f c36] at hV
        exact hV
      · skip
        rw [bI_o] at c36
        refine v_aload_n F dX8_solves_39 (i := 0) rfl 0 rfl (q := 40) rfl ?_
        refine gt_X8_28 F dX8_solves_40 0 rfl rfl (q := 43) rfl ?_
        refine v_iload F dX8_solves_43 9 rfl (q := 45) rfl ?_
        refine v_ialdN F 7 0 rfl rfl (j := k) (by omega) (by decide) dX8_solves_45 (q := 46) rfl ?_
        refine v_i2l F dX8_solves_46 (q := 47) rfl ?_
        refine v_long (y := zL (pk k).toInt) (i2l_as _) ?_
        refine v_lstore F dX8_solves_47 (lv' := [(16, .long (zL (pk k).toInt)), (0, .ref y0), (1, .int (nI B)), (2, .int (nI kc)), (3, .long (zL (sm B (fK pk) k))), (5, .long (zL (sm B (fKX pk px) k))), (7, .long (zL (sm B (fKX pk py) k))), (9, .long (zL (sm B (fKXX pk px px) k))), (11, .long (zL (sm B (fKXX pk px py) k))), (13, .long (zL (sm B (fKXX pk py py) k))), (15, .int (nI k))]) (Nat.le_of_ble_eq_true rfl) rfl (q := 49) rfl ?_
        refine v_lload_n F dX8_solves_49 (i := 3) rfl 4 rfl (q := 50) rfl ?_
        refine v_lload F dX8_solves_50 0 rfl (q := 52) rfl ?_
        refine v_ladd F dX8_solves_52 (q := 53) rfl ?_
        refine v_long (y := zL (sm B (fK pk) k + (pk k).toInt)) (zL_add _ _) ?_
        refine v_lstore_n F dX8_solves_53 (i := 3) (lv' := [(3, .long (zL (sm B (fK pk) k + (pk k).toInt))), (16, .long (zL (pk k).toInt)), (0, .ref y0), (1, .int (nI B)), (2, .int (nI kc)), (5, .long (zL (sm B (fKX pk px) k))), (7, .long (zL (sm B (fKX pk py) k))), (9, .long (zL (sm B (fKXX pk px px) k))), (11, .long (zL (sm B (fKXX pk px py) k))), (13, .long (zL (sm B (fKXX pk py py) k))), (15, .int (nI k))]) rfl (Nat.le_of_ble_eq_true rfl) rfl (q := 54) rfl ?_
        refine v_lload F dX8_solves_54 5 rfl (q := 56) rfl ?_
        refine v_lload F dX8_solves_56 1 rfl (q := 58) rfl ?_
        refine v_aload_n F dX8_solves_58 (i := 0) rfl 2 rfl (q := 59) rfl ?_
        refine gt_X8_19 F dX8_solves_59 0 rfl rfl (q := 62) rfl ?_
        refine v_iload F dX8_solves_62 10 rfl (q := 64) rfl ?_
        refine v_ialdN F 4 0 rfl rfl (j := k) (by omega) (by decide) dX8_solves_64 (q := 65) rfl ?_
        refine v_i2l F dX8_solves_65 (q := 66) rfl ?_
        refine v_lmul F dX8_solves_66 (q := 67) rfl ?_
        refine v_ladd F dX8_solves_67 (q := 68) rfl ?_
        refine v_long (y := zL (sm B (fKX pk px) k + (pk k).toInt * (px k).toInt)) (by simp only [i2l_as, zL_mul, zL_add]) ?_
        refine v_lstore F dX8_solves_68 (lv' := [(5, .long (zL (sm B (fKX pk px) k + (pk k).toInt * (px k).toInt))), (3, .long (zL (sm B (fK pk) k + (pk k).toInt))), (16, .long (zL (pk k).toInt)), (0, .ref y0), (1, .int (nI B)), (2, .int (nI kc)), (7, .long (zL (sm B (fKX pk py) k))), (9, .long (zL (sm B (fKXX pk px px) k))), (11, .long (zL (sm B (fKXX pk px py) k))), (13, .long (zL (sm B (fKXX pk py py) k))), (15, .int (nI k))]) (Nat.le_of_ble_eq_true rfl) rfl (q := 70) rfl ?_
        refine v_lload F dX8_solves_70 6 rfl (q := 72) rfl ?_
        refine v_lload F dX8_solves_72 2 rfl (q := 74) rfl ?_
        refine v_aload_n F dX8_solves_74 (i := 0) rfl 3 rfl (q := 75) rfl ?_
        refine gt_X8_22 F dX8_solves_75 0 rfl rfl (q := 78) rfl ?_
        refine v_iload F dX8_solves_78 10 rfl (q := 80) rfl ?_
        refine v_ialdN F 5 0 rfl rfl (j := k) (by omega) (by decide) dX8_solves_80 (q := 81) rfl ?_
        refine v_i2l F dX8_solves_81 (q := 82) rfl ?_
        refine v_lmul F dX8_solves_82 (q := 83) rfl ?_
        refine v_ladd F dX8_solves_83 (q := 84) rfl ?_
        refine v_long (y := zL (sm B (fKX pk py) k + (pk k).toInt * (py k).toInt)) (by simp only [i2l_as, zL_mul, zL_add]) ?_
        refine v_lstore F dX8_solves_84 (lv' := [(7, .long (zL (sm B (fKX pk py) k + (pk k).toInt * (py k).toInt))), (5, .long (zL (sm B (fKX pk px) k + (pk k).toInt * (px k).toInt))), (3, .long (zL (sm B (fK pk) k + (pk k).toInt))), (16, .long (zL (pk k).toInt)), (0, .ref y0), (1, .int (nI B)), (2, .int (nI kc)), (9, .long (zL (sm B (fKXX pk px px) k))), (11, .long (zL (sm B (fKXX pk px py) k))), (13, .long (zL (sm B (fKXX pk py py) k))), (15, .int (nI k))]) (Nat.le_of_ble_eq_true rfl) rfl (q := 86) rfl ?_
        refine v_lload F dX8_solves_86 7 rfl (q := 88) rfl ?_
        refine v_lload F dX8_solves_88 3 rfl (q := 90) rfl ?_
        refine v_aload_n F dX8_solves_90 (i := 0) rfl 4 rfl (q := 91) rfl ?_
        refine gt_X8_19 F dX8_solves_91 0 rfl rfl (q := 94) rfl ?_
        refine v_iload F dX8_solves_94 10 rfl (q := 96) rfl ?_
        refine v_ialdN F 4 0 rfl rfl (j := k) (by omega) (by decide) dX8_solves_96 (q := 97) rfl ?_
        refine v_i2l F dX8_solves_97 (q := 98) rfl ?_
        refine v_lmul F dX8_solves_98 (q := 99) rfl ?_
        refine v_aload_n F dX8_solves_99 (i := 0) rfl 4 rfl (q := 100) rfl ?_
        refine gt_X8_19 F dX8_solves_100 0 rfl rfl (q := 103) rfl ?_
        refine v_iload F dX8_solves_103 10 rfl (q := 105) rfl ?_
        refine v_ialdN F 4 0 rfl rfl (j := k) (by omega) (by decide) dX8_solves_105 (q := 106) rfl ?_
        refine v_i2l F dX8_solves_106 (q := 107) rfl ?_
        refine v_lmul F dX8_solves_107 (q := 108) rfl ?_
        refine v_ladd F dX8_solves_108 (q := 109) rfl ?_
        refine v_long (y := zL (sm B (fKXX pk px px) k + (pk k).toInt * (px k).toInt * (px k).toInt)) (by simp only [i2l_as, zL_mul, zL_add]) ?_
        refine v_lstore F dX8_solves_109 (lv' := [(9, .long (zL (sm B (fKXX pk px px) k + (pk k).toInt * (px k).toInt * (px k).toInt))), (7, .long (zL (sm B (fKX pk py) k + (pk k).toInt * (py k).toInt))), (5, .long (zL (sm B (fKX pk px) k + (pk k).toInt * (px k).toInt))), (3, .long (zL (sm B (fK pk) k + (pk k).toInt))), (16, .long (zL (pk k).toInt)), (0, .ref y0), (1, .int (nI B)), (2, .int (nI kc)), (11, .long (zL (sm B (fKXX pk px py) k))), (13, .long (zL (sm B (fKXX pk py py) k))), (15, .int (nI k))]) (Nat.le_of_ble_eq_true rfl) rfl (q := 111) rfl ?_
        refine v_lload F dX8_solves_111 8 rfl (q := 113) rfl ?_
        refine v_lload F dX8_solves_113 4 rfl (q := 115) rfl ?_
        refine v_aload_n F dX8_solves_115 (i := 0) rfl 5 rfl (q := 116) rfl ?_
        refine gt_X8_19 F dX8_solves_116 0 rfl rfl (q := 119) rfl ?_
        refine v_iload F dX8_solves_119 10 rfl (q := 121) rfl ?_
        refine v_ialdN F 4 0 rfl rfl (j := k) (by omega) (by decide) dX8_solves_121 (q := 122) rfl ?_
        refine v_i2l F dX8_solves_122 (q := 123) rfl ?_
        refine v_lmul F dX8_solves_123 (q := 124) rfl ?_
        refine v_aload_n F dX8_solves_124 (i := 0) rfl 5 rfl (q := 125) rfl ?_
        refine gt_X8_22 F dX8_solves_125 0 rfl rfl (q := 128) rfl ?_
        refine v_iload F dX8_solves_128 10 rfl (q := 130) rfl ?_
        refine v_ialdN F 5 0 rfl rfl (j := k) (by omega) (by decide) dX8_solves_130 (q := 131) rfl ?_
        refine v_i2l F dX8_solves_131 (q := 132) rfl ?_
        refine v_lmul F dX8_solves_132 (q := 133) rfl ?_
        refine v_ladd F dX8_solves_133 (q := 134) rfl ?_
        refine v_long (y := zL (sm B (fKXX pk px py) k + (pk k).toInt * (px k).toInt * (py k).toInt)) (by simp only [i2l_as, zL_mul, zL_add]) ?_
        refine v_lstore F dX8_solves_134 (lv' := [(11, .long (zL (sm B (fKXX pk px py) k + (pk k).toInt * (px k).toInt * (py k).toInt))), (9, .long (zL (sm B (fKXX pk px px) k + (pk k).toInt * (px k).toInt * (px k).toInt))), (7, .long (zL (sm B (fKX pk py) k + (pk k).toInt * (py k).toInt))), (5, .long (zL (sm B (fKX pk px) k + (pk k).toInt * (px k).toInt))), (3, .long (zL (sm B (fK pk) k + (pk k).toInt))), (16, .long (zL (pk k).toInt)), (0, .ref y0), (1, .int (nI B)), (2, .int (nI kc)), (13, .long (zL (sm B (fKXX pk py py) k))), (15, .int (nI k))]) (Nat.le_of_ble_eq_true rfl) rfl (q := 136) rfl ?_
        refine v_lload F dX8_solves_136 9 rfl (q := 138) rfl ?_
        refine v_lload F dX8_solves_138 5 rfl (q := 140) rfl ?_
        refine v_aload_n F dX8_solves_140 (i := 0) rfl 6 rfl (q := 141) rfl ?_
        refine gt_X8_22 F dX8_solves_141 0 rfl rfl (q := 144) rfl ?_
        refine v_iload F dX8_solves_144 10 rfl (q := 146) rfl ?_
        refine v_ialdN F 5 0 rfl rfl (j := k) (by omega) (by decide) dX8_solves_146 (q := 147) rfl ?_
        refine v_i2l F dX8_solves_147 (q := 148) rfl ?_
        refine v_lmul F dX8_solves_148 (q := 149) rfl ?_
        refine v_aload_n F dX8_solves_149 (i := 0) rfl 6 rfl (q := 150) rfl ?_
        refine gt_X8_22 F dX8_solves_150 0 rfl rfl (q := 153) rfl ?_
        refine v_iload F dX8_solves_153 10 rfl (q := 155) rfl ?_
        refine v_ialdN F 5 0 rfl rfl (j := k) (by omega) (by decide) dX8_solves_155 (q := 156) rfl ?_
        refine v_i2l F dX8_solves_156 (q := 157) rfl ?_
        refine v_lmul F dX8_solves_157 (q := 158) rfl ?_
        refine v_ladd F dX8_solves_158 (q := 159) rfl ?_
        refine v_long (y := zL (sm B (fKXX pk py py) k + (pk k).toInt * (py k).toInt * (py k).toInt)) (by simp only [i2l_as, zL_mul, zL_add]) ?_
        refine v_lstore F dX8_solves_159 (lv' := [(13, .long (zL (sm B (fKXX pk py py) k + (pk k).toInt * (py k).toInt * (py k).toInt))), (11, .long (zL (sm B (fKXX pk px py) k + (pk k).toInt * (px k).toInt * (py k).toInt))), (9, .long (zL (sm B (fKXX pk px px) k + (pk k).toInt * (px k).toInt * (px k).toInt))), (7, .long (zL (sm B (fKX pk py) k + (pk k).toInt * (py k).toInt))), (5, .long (zL (sm B (fKX pk px) k + (pk k).toInt * (px k).toInt))), (3, .long (zL (sm B (fK pk) k + (pk k).toInt))), (16, .long (zL (pk k).toInt)), (0, .ref y0), (1, .int (nI B)), (2, .int (nI kc)), (15, .int (nI k))]) (Nat.le_of_ble_eq_true rfl) rfl (q := 161) rfl ?_
        refine v_iinc F dX8_solves_161 10 rfl (v := nI (k + 1)) (lv' := [(15, .int (nI (k + 1))), (13, .long (zL (sm B (fKXX pk py py) k + (pk k).toInt * (py k).toInt * (py k).toInt))), (11, .long (zL (sm B (fKXX pk px py) k + (pk k).toInt * (px k).toInt * (py k).toInt))), (9, .long (zL (sm B (fKXX pk px px) k + (pk k).toInt * (px k).toInt * (px k).toInt))), (7, .long (zL (sm B (fKX pk py) k + (pk k).toInt * (py k).toInt))), (5, .long (zL (sm B (fKX pk px) k + (pk k).toInt * (px k).toInt))), (3, .long (zL (sm B (fK pk) k + (pk k).toInt))), (16, .long (zL (pk k).toInt)), (0, .ref y0), (1, .int (nI B)), (2, .int (nI kc))]) (nI_1 k) (Nat.le_of_ble_eq_true rfl) rfl (q := 164) rfl ?_
        refine v_goto F dX8_solves_164 (tgt := 20) rfl ?_
        refine v_lv (lv' := [(0, .ref y0), (1, .int (nI B)), (2, .int (nI kc)), (3, .long (zL (sm B (fK pk) k + (pk k).toInt))), (5, .long (zL (sm B (fKX pk px) k + (pk k).toInt * (px k).toInt))), (7, .long (zL (sm B (fKX pk py) k + (pk k).toInt * (py k).toInt))), (9, .long (zL (sm B (fKXX pk px px) k + (pk k).toInt * (px k).toInt * (px k).toInt))), (11, .long (zL (sm B (fKXX pk px py) k + (pk k).toInt * (px k).toInt * (py k).toInt))), (13, .long (zL (sm B (fKXX pk py py) k + (pk k).toInt * (py k).toInt * (py k).toInt))), (15, .int (nI (k + 1)))]) [8, 9, 10, 6, 5, 4, 3, 2, 1, 0] rfl ?_
        have hV := ih d (by omega) (k + 1) (by omega)
        simp only [sm_t c36] at hV
        exact hV
  refine v_lv (lv' := [(0, .ref y0), (1, .int (nI B)), (2, .int (nI kc)), (3, .long 0), (5, .long 0), (7, .long 0), (9, .long 0), (11, .long 0), (13, .long 0), (15, .int 0)]) [7, 8, 9, 6, 5, 4, 3, 2, 1, 0] rfl ?_
  exact L20 N 0 (by omega)

set_option maxHeartbeats 4000000 in
set_option maxRecDepth 100000 in
theorem c_X8_isOver (y0 y1 y2 y3 y4 y5 y6 y7 y8 y9 y10 y11 y12 y13 y14 : Nat) (th : Nat → Int32) (sd : Nat → Int32) (tp : Nat → Int32) (n : Nat) (sc : Int32) (sp : Int32) (px : Nat → Int32) (py : Nat → Int32) (pl : Nat → Nat) (pk : Nat → Int32) (N : Nat) (M : Nat) (ls : Nat → Nat) (lv : Nat → Int32) (lx : Nat → Int32) (ly : Nat → Int32) (ab : Nat → Int64) (bl : Nat → Int64) (tn : Nat) (wo si t1 t2 : Int) (k : Nat) (VI : INV (th, sd, tp, n, sc, sp, px, py, pl, pk, N, M, ls, lv, lx, ly, ab, bl, tn)) (hk : k < N) (hwo : 0 < wo ∧ wo ≤ 13271040000000) (hsr : -100000000000000000 ≤ (shI pk px py si t1 t2 k) ∧ (shI pk px py si t1 t2 k) ≤ 100000000000000000) : Ct l D (TY cI cJ cZ) yX8_isOver cX8_isOver 4 (some .boolean) 4 89 0 0 [.ref y0, .int (nI k)] [(y0, .inr (8, [.int (nI n), .ref y1, .ref y2, .ref y3, .int sc, .int sp, .int (nI N), .ref y4, .ref y5, .ref y6, .ref y7, .ref y8, .ref y9, .ref y10, .ref y11, .ref y12, .int (nI tn), .ref y13, .ref y14, .long (zL wo), .long (zL si), .long (zL t1), .long (zL t2)])), (y1, .inl (cI, 6, .inl th)), (y2, .inl (cI, 6, .inl sd)), (y3, .inl (cI, 6, .inl tp)), (y4, .inl (cI, 12, .inl px)), (y5, .inl (cI, 12, .inl py)), (y6, .inl (cI, 12, .inl (fun i => nI (pl i)))), (y7, .inl (cI, 12, .inl pk)), (y8, .inl (cZ, 12, .inl (fun i => bI (M.testBit i)))), (y9, .inl (cI, 3, .inl (fun i => nI (ls i)))), (y10, .inl (cI, 18, .inl lv)), (y11, .inl (cI, 18, .inl lx)), (y12, .inl (cI, 18, .inl ly)), (y13, .inl (cJ, 15, .inr (.inl ab))), (y14, .inl (cJ, 15, .inr (.inl bl)))] (fun r w => r = some (.int (bI (ovK th sd tp n sc pl wo (shI pk px py si t1 t2 k) k))) ∧ w = [(y0, .inr (8, [.int (nI n), .ref y1, .ref y2, .ref y3, .int sc, .int sp, .int (nI N), .ref y4, .ref y5, .ref y6, .ref y7, .ref y8, .ref y9, .ref y10, .ref y11, .ref y12, .int (nI tn), .ref y13, .ref y14, .long (zL wo), .long (zL si), .long (zL t1), .long (zL t2)])), (y1, .inl (cI, 6, .inl th)), (y2, .inl (cI, 6, .inl sd)), (y3, .inl (cI, 6, .inl tp)), (y4, .inl (cI, 12, .inl px)), (y5, .inl (cI, 12, .inl py)), (y6, .inl (cI, 12, .inl (fun i => nI (pl i)))), (y7, .inl (cI, 12, .inl pk)), (y8, .inl (cZ, 12, .inl (fun i => bI (M.testBit i)))), (y9, .inl (cI, 3, .inl (fun i => nI (ls i)))), (y10, .inl (cI, 18, .inl lv)), (y11, .inl (cI, 18, .inl lx)), (y12, .inl (cI, 18, .inl ly)), (y13, .inl (cJ, 15, .inr (.inl ab))), (y14, .inl (cJ, 15, .inr (.inl bl)))]) := by
  refine Ct.ofI (ty := .boolean) (by decide) (Nat.le_of_ble_eq_true rfl) ?_
  intro p e s m args below meth c A R Q F hnm hcs0 hE
  refine v_lv (lv' := [(0, .ref y0), (1, .int (nI k))]) [0, 1] rfl ?_
  obtain ⟨G, hsp, P, hM, hls, hlv, hlx, hly, htn⟩ := id VI
  have hn6 := G.1
  have hN12 := P.1
  have hM4 : M < 4096 := Nat.lt_of_lt_of_le hM (Nat.pow_le_pow_right (by omega) hN12)
  have hpl := P.2.2.2.1 k hk
  have q1 := gPU_rng G (pl k)
  have q2 := gBE_rng G (pl k) hpl.2
  have m1 := mul_rng (a := gBE th sd tp n sc (pl k)) (b := wo) (A := 6000) (B := 13271040000000) (by omega) (by omega)
  have m2 := mul_rng (a := -gPU th sd n sc (pl k)) (b := wo) (A := 6000) (B := 13271040000000) (by omega) (by omega)
  have hO := ovK_iff (s := (shI pk px py si t1 t2 k)) q2.1 q1.1 (Int.le_of_lt hwo.1)
  refine v_aload_n F dX8_isOver_0 (i := 0) rfl 0 rfl (q := 1) rfl ?_
  refine v_iload_n F dX8_isOver_1 (i := 1) rfl 1 rfl (q := 2) rfl ?_
  refine v_callV F ml_X8_126 im_X8_shareOf se_X8_shareOf in_X8 co_X8_shareOf sd_X8_shareOf (c_X8_shareOf y0 y1 y2 y3 y4 y5 y6 y7 y8 y9 y10 y11 y12 y13 y14 th sd tp n sc sp px py pl pk N M ls lv lx ly ab bl tn wo si t1 t2 k ⟨G, hsp, P, hM, hls, hlv, hlx, hly, by omega⟩ (by omega)) ⟨Nat.zero_le _, Nat.zero_le _⟩ (Nat.le_of_ble_eq_true rfl) (Nat.le_of_ble_eq_true rfl) 0 (As := [.int (nI k)]) rfl rfl rfl rfl rfl [0, 1, 2, 3, 4, 5, 6, 7, 8, 9, 10, 11, 12, 13, 14] rfl nd15 vnd15 (rest := []) rfl (Nat.le_of_ble_eq_true rfl) dX8_isOver_2 (q := 5) rfl (fun r w hr => ?_)
  obtain ⟨rfl, rfl⟩ := hr
  refine v_ws (ws' := [(y0, .inr (8, [.int (nI n), .ref y1, .ref y2, .ref y3, .int sc, .int sp, .int (nI N), .ref y4, .ref y5, .ref y6, .ref y7, .ref y8, .ref y9, .ref y10, .ref y11, .ref y12, .int (nI tn), .ref y13, .ref y14, .long (zL wo), .long (zL si), .long (zL t1), .long (zL t2)])), (y1, .inl (cI, 6, .inl th)), (y2, .inl (cI, 6, .inl sd)), (y3, .inl (cI, 6, .inl tp)), (y4, .inl (cI, 12, .inl px)), (y5, .inl (cI, 12, .inl py)), (y6, .inl (cI, 12, .inl (fun i => nI (pl i)))), (y7, .inl (cI, 12, .inl pk)), (y8, .inl (cZ, 12, .inl (fun i => bI (M.testBit i)))), (y9, .inl (cI, 3, .inl (fun i => nI (ls i)))), (y10, .inl (cI, 18, .inl lv)), (y11, .inl (cI, 18, .inl lx)), (y12, .inl (cI, 18, .inl ly)), (y13, .inl (cJ, 15, .inr (.inl ab))), (y14, .inl (cJ, 15, .inr (.inl bl)))]) ((wset_wgo (nodup_of nd15) rfl).trans rfl) ?_
  refine v_st (st' := [.long (zL (shI pk px py si t1 t2 k))]) rfl ?_
  refine v_lstore_n F dX8_isOver_5 (i := 2) (lv' := [(2, .long (zL (shI pk px py si t1 t2 k))), (0, .ref y0), (1, .int (nI k))]) rfl (Nat.le_of_ble_eq_true rfl) rfl (q := 6) rfl ?_
  refine v_lload_n F dX8_isOver_6 (i := 2) rfl 0 rfl (q := 7) rfl ?_
  refine v_aload_n F dX8_isOver_7 (i := 0) rfl 1 rfl (q := 8) rfl ?_
  refine v_iload_n F dX8_isOver_8 (i := 1) rfl 2 rfl (q := 9) rfl ?_
  refine v_callV F ml_X8_92 im_X8_bearingOf se_X8_bearingOf in_X8 co_X8_bearingOf sd_X8_bearingOf (c_X8_bearingOf y0 y1 y2 y3 y4 y5 y6 y7 y8 y9 y10 y11 y12 y13 y14 th sd tp n sc sp px py pl pk N M ls lv lx ly ab bl tn wo si t1 t2 k ⟨G, hsp, P, hM, hls, hlv, hlx, hly, by omega⟩ (by omega)) ⟨Nat.zero_le _, Nat.zero_le _⟩ (Nat.le_of_ble_eq_true rfl) (Nat.le_of_ble_eq_true rfl) 0 (As := [.int (nI k)]) rfl rfl rfl rfl rfl [0, 1, 2, 3, 4, 5, 6, 7, 8, 9, 10, 11, 12, 13, 14] rfl nd15 vnd15 (rest := [.long (zL (shI pk px py si t1 t2 k))]) rfl (Nat.le_of_ble_eq_true rfl) dX8_isOver_9 (q := 12) rfl (fun r w hr => ?_)
  obtain ⟨rfl, rfl⟩ := hr
  refine v_ws (ws' := [(y0, .inr (8, [.int (nI n), .ref y1, .ref y2, .ref y3, .int sc, .int sp, .int (nI N), .ref y4, .ref y5, .ref y6, .ref y7, .ref y8, .ref y9, .ref y10, .ref y11, .ref y12, .int (nI tn), .ref y13, .ref y14, .long (zL wo), .long (zL si), .long (zL t1), .long (zL t2)])), (y1, .inl (cI, 6, .inl th)), (y2, .inl (cI, 6, .inl sd)), (y3, .inl (cI, 6, .inl tp)), (y4, .inl (cI, 12, .inl px)), (y5, .inl (cI, 12, .inl py)), (y6, .inl (cI, 12, .inl (fun i => nI (pl i)))), (y7, .inl (cI, 12, .inl pk)), (y8, .inl (cZ, 12, .inl (fun i => bI (M.testBit i)))), (y9, .inl (cI, 3, .inl (fun i => nI (ls i)))), (y10, .inl (cI, 18, .inl lv)), (y11, .inl (cI, 18, .inl lx)), (y12, .inl (cI, 18, .inl ly)), (y13, .inl (cJ, 15, .inr (.inl ab))), (y14, .inl (cJ, 15, .inr (.inl bl)))]) ((wset_wgo (nodup_of nd15) rfl).trans rfl) ?_
  refine v_st (st' := [.int (zI (gBE th sd tp n sc (pl k))), .long (zL (shI pk px py si t1 t2 k))]) rfl ?_
  refine v_i2l F dX8_isOver_12 (q := 13) rfl ?_
  refine v_long (y := zL (gBE th sd tp n sc (pl k))) (zI_i2l (by omega) (by omega)) ?_
  refine v_aload_n F dX8_isOver_13 (i := 0) rfl 1 rfl (q := 14) rfl ?_
  refine gt_X8_98 F dX8_isOver_14 0 rfl rfl (q := 17) rfl ?_
  refine v_lmul F dX8_isOver_17 (q := 18) rfl ?_
  refine v_long (y := zL (gBE th sd tp n sc (pl k) * wo)) (zL_mul _ _) ?_
  refine v_lcmp_gt F dX8_isOver_18 dX8_isOver_19 (tgt := 44) rfl (q := 22) rfl (fun c18 => ?_) (fun c18 => ?_)
  · skip
    rw [zL_lt (by omega) (by omega) (by omega) (by omega)] at c18
    have hq := hO.mpr (Or.inl c18)
    refine v_iconst F dX8_isOver_44 (v := 1) (q := 45) rfl rfl ?_
    refine v_goto F dX8_isOver_45 (tgt := 49) rfl ?_
    exact hE (by first | rfl | exact bI_nar _) dX8_isOver_49 (Nat.zero_le _) (Nat.zero_le _) ⟨⟨by rw [hq]; rfl, rfl⟩, Nat.le_of_ble_eq_true rfl⟩
  · skip
    rw [zL_lt (by omega) (by omega) (by omega) (by omega)] at c18
    refine v_lload_n F dX8_isOver_22 (i := 2) rfl 0 rfl (q := 23) rfl ?_
    refine v_aload_n F dX8_isOver_23 (i := 0) rfl 1 rfl (q := 24) rfl ?_
    refine v_aload_n F dX8_isOver_24 (i := 0) rfl 1 rfl (q := 25) rfl ?_
    refine gt_X8_25 F dX8_isOver_25 0 rfl rfl (q := 28) rfl ?_
    refine v_iload_n F dX8_isOver_28 (i := 1) rfl 2 rfl (q := 29) rfl ?_
    refine v_ialdN F 6 0 rfl rfl (j := k) (by omega) (by decide) dX8_isOver_29 (q := 30) rfl ?_
    refine v_st (st' := [.int (nI (pl k)), .ref y0, .long (zL (shI pk px py si t1 t2 k))]) rfl ?_
    refine v_callV F ml_X8_86 im_X8_pullOf se_X8_pullOf in_X8 co_X8_pullOf sd_X8_pullOf (c_X8_pullOf y0 y1 y2 y3 y4 y5 y6 y7 y8 y9 y10 y11 y12 y13 y14 th sd tp n sc sp px py pl pk N M ls lv lx ly ab bl tn wo si t1 t2 (pl k) ⟨G, hsp, P, hM, hls, hlv, hlx, hly, by omega⟩ (by omega)) ⟨Nat.zero_le _, Nat.zero_le _⟩ (Nat.le_of_ble_eq_true rfl) (Nat.le_of_ble_eq_true rfl) 0 (As := [.int (nI (pl k))]) rfl rfl rfl rfl rfl [0, 1, 2, 3, 4, 5, 6, 7, 8, 9, 10, 11, 12, 13, 14] rfl nd15 vnd15 (rest := [.long (zL (shI pk px py si t1 t2 k))]) rfl (Nat.le_of_ble_eq_true rfl) dX8_isOver_30 (q := 33) rfl (fun r w hr => ?_)
    obtain ⟨rfl, rfl⟩ := hr
    refine v_ws (ws' := [(y0, .inr (8, [.int (nI n), .ref y1, .ref y2, .ref y3, .int sc, .int sp, .int (nI N), .ref y4, .ref y5, .ref y6, .ref y7, .ref y8, .ref y9, .ref y10, .ref y11, .ref y12, .int (nI tn), .ref y13, .ref y14, .long (zL wo), .long (zL si), .long (zL t1), .long (zL t2)])), (y1, .inl (cI, 6, .inl th)), (y2, .inl (cI, 6, .inl sd)), (y3, .inl (cI, 6, .inl tp)), (y4, .inl (cI, 12, .inl px)), (y5, .inl (cI, 12, .inl py)), (y6, .inl (cI, 12, .inl (fun i => nI (pl i)))), (y7, .inl (cI, 12, .inl pk)), (y8, .inl (cZ, 12, .inl (fun i => bI (M.testBit i)))), (y9, .inl (cI, 3, .inl (fun i => nI (ls i)))), (y10, .inl (cI, 18, .inl lv)), (y11, .inl (cI, 18, .inl lx)), (y12, .inl (cI, 18, .inl ly)), (y13, .inl (cJ, 15, .inr (.inl ab))), (y14, .inl (cJ, 15, .inr (.inl bl)))]) ((wset_wgo (nodup_of nd15) rfl).trans rfl) ?_
    refine v_st (st' := [.int (zI (gPU th sd n sc (pl k))), .long (zL (shI pk px py si t1 t2 k))]) rfl ?_
    refine v_ineg F dX8_isOver_33 (q := 34) rfl ?_
    refine v_int (y := zI (-gPU th sd n sc (pl k))) (zI_neg _) ?_
    refine v_i2l F dX8_isOver_34 (q := 35) rfl ?_
    refine v_long (y := zL (-gPU th sd n sc (pl k))) (zI_i2l (by omega) (by omega)) ?_
    refine v_aload_n F dX8_isOver_35 (i := 0) rfl 1 rfl (q := 36) rfl ?_
    refine gt_X8_98 F dX8_isOver_36 0 rfl rfl (q := 39) rfl ?_
    refine v_lmul F dX8_isOver_39 (q := 40) rfl ?_
    refine v_long (y := zL (-gPU th sd n sc (pl k) * wo)) (zL_mul _ _) ?_
    refine v_lcmp_ge F dX8_isOver_40 dX8_isOver_41 (tgt := 48) rfl (q := 44) rfl (fun c40 => ?_) (fun c40 => ?_)
    · skip
      rw [zL_le (by omega) (by omega) (by omega) (by omega)] at c40
      have hq : ovK th sd tp n sc pl wo (shI pk px py si t1 t2 k) k = false := by rw [← Bool.not_eq_true, hO]; omega
      refine v_iconst F dX8_isOver_48 (v := 0) (q := 49) rfl rfl ?_
      exact hE (by first | rfl | exact bI_nar _) dX8_isOver_49 (Nat.zero_le _) (Nat.zero_le _) ⟨⟨by rw [hq]; rfl, rfl⟩, Nat.le_of_ble_eq_true rfl⟩
    · skip
      rw [zL_le (by omega) (by omega) (by omega) (by omega)] at c40
      have hq := hO.mpr (Or.inr (by omega))
      refine v_iconst F dX8_isOver_44 (v := 1) (q := 45) rfl rfl ?_
      refine v_goto F dX8_isOver_45 (tgt := 49) rfl ?_
      exact hE (by first | rfl | exact bI_nar _) dX8_isOver_49 (Nat.zero_le _) (Nat.zero_le _) ⟨⟨by rw [hq]; rfl, rfl⟩, Nat.le_of_ble_eq_true rfl⟩

set_option maxHeartbeats 4000000 in
set_option maxRecDepth 100000 in
theorem c_X8_over (y0 y1 y2 y3 y4 y5 y6 y7 y8 y9 y10 y11 y12 y13 y14 : Nat) (th : Nat → Int32) (sd : Nat → Int32) (tp : Nat → Int32) (n : Nat) (sc : Int32) (sp : Int32) (px : Nat → Int32) (py : Nat → Int32) (pl : Nat → Nat) (pk : Nat → Int32) (N : Nat) (M : Nat) (ls : Nat → Nat) (lv : Nat → Int32) (lx : Nat → Int32) (ly : Nat → Int32) (ab : Nat → Int64) (bl : Nat → Int64) (tn : Nat) (wo si t1 t2 : Int) (c1 : Int32) (VI : INV (th, sd, tp, n, sc, sp, px, py, pl, pk, N, M, ls, lv, lx, ly, ab, bl, tn)) : Ct l D (TY cI cJ cZ) yX8_over cX8_over 5 (some .int) 5 112 0 0 [.ref y0, .int c1] [(y0, .inr (8, [.int (nI n), .ref y1, .ref y2, .ref y3, .int sc, .int sp, .int (nI N), .ref y4, .ref y5, .ref y6, .ref y7, .ref y8, .ref y9, .ref y10, .ref y11, .ref y12, .int (nI tn), .ref y13, .ref y14, .long (zL wo), .long (zL si), .long (zL t1), .long (zL t2)])), (y1, .inl (cI, 6, .inl th)), (y2, .inl (cI, 6, .inl sd)), (y3, .inl (cI, 6, .inl tp)), (y4, .inl (cI, 12, .inl px)), (y5, .inl (cI, 12, .inl py)), (y6, .inl (cI, 12, .inl (fun i => nI (pl i)))), (y7, .inl (cI, 12, .inl pk)), (y8, .inl (cZ, 12, .inl (fun i => bI (M.testBit i)))), (y9, .inl (cI, 3, .inl (fun i => nI (ls i)))), (y10, .inl (cI, 18, .inl lv)), (y11, .inl (cI, 18, .inl lx)), (y12, .inl (cI, 18, .inl ly)), (y13, .inl (cJ, 15, .inr (.inl ab))), (y14, .inl (cJ, 15, .inr (.inl bl)))] (fun r w => ∃ X : Int × Int × Int × Int, r = some (.int (fOver c1 (th, sd, tp, n, sc, sp, px, py, pl, pk, N, M, ls, lv, lx, ly, ab, bl, tn)).1) ∧ w = WM cI cJ cZ y0 y1 y2 y3 y4 y5 y6 y7 y8 y9 y10 y11 y12 y13 y14 (fOver c1 (th, sd, tp, n, sc, sp, px, py, pl, pk, N, M, ls, lv, lx, ly, ab, bl, tn)).2 X) := by
  refine Ct.ofI (ty := .int) (by decide) (Nat.le_of_ble_eq_true rfl) ?_
  intro p e s m args below meth c A R Q F hnm hcs0 hE
  refine v_lv (lv' := [(0, .ref y0), (1, .int c1)]) [0, 1] rfl ?_
  obtain ⟨G, hsp, P, hM, hls, hlv, hlx, hly, htn⟩ := id VI
  have hn6 := G.1
  have hN12 := P.1
  have hM4 : M < 4096 := Nat.lt_of_lt_of_le hM (Nat.pow_le_pow_right (by omega) hN12)
  refine v_iload_n F dX8_over_0 (i := 1) rfl 1 rfl (q := 1) rfl ?_
  refine v_callS F ml_X8_95 sm_X8_isCase in_X8 co_X8_isCase sd_X8_isCase (c_X8_isCase c1) ⟨Nat.zero_le _, Nat.zero_le _⟩ (Nat.le_of_ble_eq_true rfl) (Nat.le_of_ble_eq_true rfl) rfl [] rfl rfl rfl (rest := []) rfl (Nat.le_of_ble_eq_true rfl) dX8_over_1 (q := 4) rfl (fun r w hr => ?_)
  obtain ⟨rfl, rfl⟩ := hr
  refine v_ws (ws' := [(y0, .inr (8, [.int (nI n), .ref y1, .ref y2, .ref y3, .int sc, .int sp, .int (nI N), .ref y4, .ref y5, .ref y6, .ref y7, .ref y8, .ref y9, .ref y10, .ref y11, .ref y12, .int (nI tn), .ref y13, .ref y14, .long (zL wo), .long (zL si), .long (zL t1), .long (zL t2)])), (y1, .inl (cI, 6, .inl th)), (y2, .inl (cI, 6, .inl sd)), (y3, .inl (cI, 6, .inl tp)), (y4, .inl (cI, 12, .inl px)), (y5, .inl (cI, 12, .inl py)), (y6, .inl (cI, 12, .inl (fun i => nI (pl i)))), (y7, .inl (cI, 12, .inl pk)), (y8, .inl (cZ, 12, .inl (fun i => bI (M.testBit i)))), (y9, .inl (cI, 3, .inl (fun i => nI (ls i)))), (y10, .inl (cI, 18, .inl lv)), (y11, .inl (cI, 18, .inl lx)), (y12, .inl (cI, 18, .inl ly)), (y13, .inl (cJ, 15, .inr (.inl ab))), (y14, .inl (cJ, 15, .inr (.inl bl)))]) rfl ?_
  refine v_st (st' := [.int (bI (inR c1 0 2))]) rfl ?_
  refine v_if_ne F dX8_over_4 (tgt := 9) rfl (q := 7) rfl (fun c4 => ?_) (fun c4 => ?_)
  · skip
    rw [bI_nz] at c4
    obtain ⟨kc, hkc, rfl⟩ : ∃ k : Nat, k < 3 ∧ c1 = nI k := case_ex c4
    have hpk := pN_nI (k := kc) (by omega)
    refine v_aload_n F dX8_over_9 (i := 0) rfl 0 rfl (q := 10) rfl ?_
    refine v_callV F ml_X8_115 im_X8_wholeSet se_X8_wholeSet in_X8 co_X8_wholeSet sd_X8_wholeSet (c_X8_wholeSet y0 y1 y2 y3 y4 y5 y6 y7 y8 y9 y10 y11 y12 y13 y14 th sd tp n sc sp px py pl pk N M ls lv lx ly ab bl tn wo si t1 t2  ⟨G, hsp, P, hM, hls, hlv, hlx, hly, by omega⟩ ) ⟨Nat.zero_le _, Nat.zero_le _⟩ (Nat.le_of_ble_eq_true rfl) (Nat.le_of_ble_eq_true rfl) 0 (As := []) rfl rfl rfl rfl rfl [0, 1, 2, 3, 4, 5, 6, 7, 8, 9, 10, 11, 12, 13, 14] rfl nd15 vnd15 (rest := []) rfl (Nat.le_of_ble_eq_true rfl) dX8_over_10 (q := 13) rfl (fun r w hr => ?_)
    obtain ⟨rfl, rfl⟩ := hr
    refine v_ws (ws' := [(y0, .inr (8, [.int (nI n), .ref y1, .ref y2, .ref y3, .int sc, .int sp, .int (nI N), .ref y4, .ref y5, .ref y6, .ref y7, .ref y8, .ref y9, .ref y10, .ref y11, .ref y12, .int (nI tn), .ref y13, .ref y14, .long (zL wo), .long (zL si), .long (zL t1), .long (zL t2)])), (y1, .inl (cI, 6, .inl th)), (y2, .inl (cI, 6, .inl sd)), (y3, .inl (cI, 6, .inl tp)), (y4, .inl (cI, 12, .inl px)), (y5, .inl (cI, 12, .inl py)), (y6, .inl (cI, 12, .inl (fun i => nI (pl i)))), (y7, .inl (cI, 12, .inl pk)), (y8, .inl (cZ, 12, .inl (fun i => bI (M.testBit i)))), (y9, .inl (cI, 3, .inl (fun i => nI (ls i)))), (y10, .inl (cI, 18, .inl lv)), (y11, .inl (cI, 18, .inl lx)), (y12, .inl (cI, 18, .inl ly)), (y13, .inl (cJ, 15, .inr (.inl ab))), (y14, .inl (cJ, 15, .inr (.inl bl)))]) ((wset_wgo (nodup_of nd15) rfl).trans rfl) ?_
    refine v_st (st' := [.int (nI M)]) rfl ?_
    refine v_istore_n F dX8_over_13 (i := 2) (lv' := [(2, .int (nI M)), (0, .ref y0), (1, .int (nI kc))]) rfl (Nat.le_of_ble_eq_true rfl) rfl (q := 14) rfl ?_
    refine v_aload_n F dX8_over_14 (i := 0) rfl 1 rfl (q := 15) rfl ?_
    refine v_iload_n F dX8_over_15 (i := 2) rfl 0 rfl (q := 16) rfl ?_
    refine v_iload_n F dX8_over_16 (i := 1) rfl 2 rfl (q := 17) rfl ?_
    refine v_callV F ml_X8_119 im_X8_solves se_X8_solves in_X8 co_X8_solves sd_X8_solves (c_X8_solves y0 y1 y2 y3 y4 y5 y6 y7 y8 y9 y10 y11 y12 y13 y14 th sd tp n sc sp px py pl pk N M ls lv lx ly ab bl tn wo si t1 t2 M kc ⟨G, hsp, P, hM, hls, hlv, hlx, hly, by omega⟩ (by omega) (by omega)) ⟨Nat.zero_le _, Nat.zero_le _⟩ (Nat.le_of_ble_eq_true rfl) (Nat.le_of_ble_eq_true rfl) 0 (As := [.int (nI M), .int (nI kc)]) rfl rfl rfl rfl rfl [0, 1, 2, 3, 4, 5, 6, 7, 8, 9, 10, 11, 12, 13, 14] rfl nd15 vnd15 (rest := []) rfl (Nat.le_of_ble_eq_true rfl) dX8_over_17 (q := 20) rfl (fun r w hr => ?_)
    rcases hr with ⟨hs2, rfl, rfl⟩ | ⟨hs2, rfl, rfl⟩
    · skip
      refine v_ws (ws' := [(y0, .inr (8, [.int (nI n), .ref y1, .ref y2, .ref y3, .int sc, .int sp, .int (nI N), .ref y4, .ref y5, .ref y6, .ref y7, .ref y8, .ref y9, .ref y10, .ref y11, .ref y12, .int (nI tn), .ref y13, .ref y14, .long (zL (dDE pk px py M N)), .long (zL si), .long (zL t1), .long (zL t2)])), (y1, .inl (cI, 6, .inl th)), (y2, .inl (cI, 6, .inl sd)), (y3, .inl (cI, 6, .inl tp)), (y4, .inl (cI, 12, .inl px)), (y5, .inl (cI, 12, .inl py)), (y6, .inl (cI, 12, .inl (fun i => nI (pl i)))), (y7, .inl (cI, 12, .inl pk)), (y8, .inl (cZ, 12, .inl (fun i => bI (M.testBit i)))), (y9, .inl (cI, 3, .inl (fun i => nI (ls i)))), (y10, .inl (cI, 18, .inl lv)), (y11, .inl (cI, 18, .inl lx)), (y12, .inl (cI, 18, .inl ly)), (y13, .inl (cJ, 15, .inr (.inl ab))), (y14, .inl (cJ, 15, .inr (.inl bl)))]) ((wset_wgo (nodup_of nd15) rfl).trans rfl) ?_
      refine v_st (st' := [.int 0]) rfl ?_
      refine v_if_ne F dX8_over_20 (tgt := 26) rfl (q := 23) rfl (fun c20 => ?_) (fun c20 => ?_)
      · exact absurd rfl c20
      · skip
        refine v_bipush F dX8_over_23 (v := (-2)) (q := 25) rfl rfl ?_
        exact hE rfl dX8_over_25 (Nat.zero_le _) (Nat.zero_le _) ⟨(by have hf : fOver (nI kc) (th, sd, tp, n, sc, sp, px, py, pl, pk, N, M, ls, lv, lx, ly, ab, bl, tn) = (-2, (th, sd, tp, n, sc, sp, px, py, pl, pk, N, M, ls, lv, lx, ly, ab, bl, tn)) := (by simp only [fOver]; rw [if_pos c4, hpk, if_neg hs2]); exact ⟨((dDE pk px py M N), si, t1, t2), by rw [hf], by rw [hf]; rfl⟩), Nat.le_of_ble_eq_true rfl⟩
    · skip
      refine v_ws (ws' := [(y0, .inr (8, [.int (nI n), .ref y1, .ref y2, .ref y3, .int sc, .int sp, .int (nI N), .ref y4, .ref y5, .ref y6, .ref y7, .ref y8, .ref y9, .ref y10, .ref y11, .ref y12, .int (nI tn), .ref y13, .ref y14, .long (zL (dDE pk px py M N)), .long (zL (cWi pk px py M N ls lv lx ly kc)), .long (zL (cPi pk px py M N ls lv lx ly kc)), .long (zL (cQi pk px py M N ls lv lx ly kc))])), (y1, .inl (cI, 6, .inl th)), (y2, .inl (cI, 6, .inl sd)), (y3, .inl (cI, 6, .inl tp)), (y4, .inl (cI, 12, .inl px)), (y5, .inl (cI, 12, .inl py)), (y6, .inl (cI, 12, .inl (fun i => nI (pl i)))), (y7, .inl (cI, 12, .inl pk)), (y8, .inl (cZ, 12, .inl (fun i => bI (M.testBit i)))), (y9, .inl (cI, 3, .inl (fun i => nI (ls i)))), (y10, .inl (cI, 18, .inl lv)), (y11, .inl (cI, 18, .inl lx)), (y12, .inl (cI, 18, .inl ly)), (y13, .inl (cJ, 15, .inr (.inl ab))), (y14, .inl (cJ, 15, .inr (.inl bl)))]) ((wset_wgo (nodup_of nd15) rfl).trans rfl) ?_
      refine v_st (st' := [.int 1]) rfl ?_
      have hR := shB_rng P hls hlv hlx hly M kc
      have hDR := (d_rng P M).2.2.2.2.2.2
      refine v_if_ne F dX8_over_20 (tgt := 26) rfl (q := 23) rfl (fun c20 => ?_) (fun c20 => ?_)
      · skip
        refine v_iconst F dX8_over_26 (v := 0) (q := 27) rfl rfl ?_
        refine v_istore_n F dX8_over_27 (i := 3) (lv' := [(3, .int 0), (2, .int (nI M)), (0, .ref y0), (1, .int (nI kc))]) rfl (Nat.le_of_ble_eq_true rfl) rfl (q := 28) rfl ?_
        refine v_iconst F dX8_over_28 (v := 0) (q := 29) rfl rfl ?_
        refine v_istore F dX8_over_29 (lv' := [(4, .int 0), (3, .int 0), (2, .int (nI M)), (0, .ref y0), (1, .int (nI kc))]) (Nat.le_of_ble_eq_true rfl) rfl (q := 31) rfl ?_
        have L31 : ∀ (d k : Nat), k + d = N → V p l e R s m args below meth c D A 5 0 0 Q 31 [(0, .ref y0), (2, .int (nI M)), (3, .int (nI (ovM M (fun kk => ovK th sd tp n sc pl (dDE pk px py M N) (shB pk px py M N ls lv lx ly kc kk) kk) k))), (4, .int (nI k))] [] [(y0, .inr (8, [.int (nI n), .ref y1, .ref y2, .ref y3, .int sc, .int sp, .int (nI N), .ref y4, .ref y5, .ref y6, .ref y7, .ref y8, .ref y9, .ref y10, .ref y11, .ref y12, .int (nI tn), .ref y13, .ref y14, .long (zL (dDE pk px py M N)), .long (zL (cWi pk px py M N ls lv lx ly kc)), .long (zL (cPi pk px py M N ls lv lx ly kc)), .long (zL (cQi pk px py M N ls lv lx ly kc))])), (y1, .inl (cI, 6, .inl th)), (y2, .inl (cI, 6, .inl sd)), (y3, .inl (cI, 6, .inl tp)), (y4, .inl (cI, 12, .inl px)), (y5, .inl (cI, 12, .inl py)), (y6, .inl (cI, 12, .inl (fun i => nI (pl i)))), (y7, .inl (cI, 12, .inl pk)), (y8, .inl (cZ, 12, .inl (fun i => bI (M.testBit i)))), (y9, .inl (cI, 3, .inl (fun i => nI (ls i)))), (y10, .inl (cI, 18, .inl lv)), (y11, .inl (cI, 18, .inl lx)), (y12, .inl (cI, 18, .inl ly)), (y13, .inl (cJ, 15, .inr (.inl ab))), (y14, .inl (cJ, 15, .inr (.inl bl)))] := by
          intro d
          induction d using Nat.strongRecOn with
          | _ d ih => ?_
          intro k hk
          refine v_iload F dX8_over_31 3 rfl (q := 33) rfl ?_
          refine v_aload_n F dX8_over_33 (i := 0) rfl 0 rfl (q := 34) rfl ?_
          refine gt_X8_75 F dX8_over_34 0 rfl rfl (q := 37) rfl ?_
          refine v_icmp_ge F dX8_over_37 (tgt := 76) rfl (q := 40) rfl (fun c37 => ?_) (fun c37 => ?_)
          · skip
            rw [nI_leI (by omega) (by omega)] at c37
            have hku : N = k := by omega
            subst hku
            refine v_iload_n F dX8_over_76 (i := 3) rfl 2 rfl (q := 77) rfl ?_
            exact hE rfl dX8_over_77 (Nat.zero_le _) (Nat.zero_le _) ⟨(by have hf : fOver (nI kc) (th, sd, tp, n, sc, sp, px, py, pl, pk, N, M, ls, lv, lx, ly, ab, bl, tn) = (nI (ovM M (fun kk => ovK th sd tp n sc pl (dDE pk px py M N) (shB pk px py M N ls lv lx ly kc kk) kk) N), (th, sd, tp, n, sc, sp, px, py, pl, pk, N, M, ls, lv, lx, ly, ab, bl, tn)) := (by simp only [fOver]; rw [if_pos c4, hpk, if_pos hs2]); exact ⟨((dDE pk px py M N), (cWi pk px py M N ls lv lx ly kc), (cPi pk px py M N ls lv lx ly kc), (cQi pk px py M N ls lv lx ly kc)), by rw [hf], by rw [hf]; rfl⟩), Nat.le_of_ble_eq_true rfl⟩
          · skip
            rw [nI_leI (by omega) (by omega)] at c37
            obtain ⟨d, rfl⟩ : ∃ d2, d = d2 + 1 := ⟨d - 1, by omega⟩
            refine v_iload_n F dX8_over_40 (i := 3) rfl 2 rfl (q := 41) rfl ?_
            refine v_iload_n F dX8_over_41 (i := 2) rfl 1 rfl (q := 42) rfl ?_
            refine v_iload F dX8_over_42 3 rfl (q := 44) rfl ?_
            refine v_ishr F dX8_over_44 (q := 45) rfl ?_
            refine v_iconst F dX8_over_45 (v := 1) (q := 46) rfl rfl ?_
            refine v_iand F dX8_over_46 (q := 47) rfl ?_
            refine v_int (y := bI (M.testBit k)) (sh_bit hM4 (by omega)) ?_
            refine v_iconst F dX8_over_47 (v := 1) (q := 48) rfl rfl ?_
            refine v_icmp_ne F dX8_over_48 (tgt := 67) rfl (q := 51) rfl (fun c48 => ?_) (fun c48 => ?_)
            · skip
              rw [bI_no] at c48
              refine v_iconst F dX8_over_67 (v := 0) (q := 68) rfl rfl ?_
              refine v_ior F dX8_over_68 (q := 69) rfl ?_
              refine v_int (y := nI (ovM M (fun kk => ovK th sd tp n sc pl (dDE pk px py M N) (shB pk px py M N ls lv lx ly kc kk) kk) k)) (or_0) ?_
              refine v_istore_n F dX8_over_69 (i := 3) (lv' := [(3, .int (nI (ovM M (fun kk => ovK th sd tp n sc pl (dDE pk px py M N) (shB pk px py M N ls lv lx ly kc kk) kk) k))), (0, .ref y0), (2, .int (nI M)), (4, .int (nI k))]) rfl (Nat.le_of_ble_eq_true rfl) rfl (q := 70) rfl ?_
              refine v_iinc F dX8_over_70 3 rfl (v := nI (k + 1)) (lv' := [(4, .int (nI (k + 1))), (3, .int (nI (ovM M (fun kk => ovK th sd tp n sc pl (dDE pk px py M N) (shB pk px py M N ls lv lx ly kc kk) kk) k))), (0, .ref y0), (2, .int (nI M))]) (nI_1 k) (Nat.le_of_ble_eq_true rfl) rfl (q := 73) rfl ?_
              refine v_goto F dX8_over_73 (tgt := 31) rfl ?_
              refine v_lv (lv' := [(0, .ref y0), (2, .int (nI M)), (3, .int (nI (ovM M (fun kk => ovK th sd tp n sc pl (dDE pk px py M N) (shB pk px py M N ls lv lx ly kc kk) kk) k))), (4, .int (nI (k + 1)))]) [2, 3, 1, 0] rfl ?_
              have hV := ih d (by omega) (k + 1) (by omega)
              first | rw [ovM_f c48] at hV | rw [ovM_f2 (q := (fun kk => ovK th sd tp n sc pl (dDE pk px py M N) (shB pk px py M N ls lv lx ly kc kk) kk)) c57] at hV
              exact hV
            · skip
              rw [bI_o] at c48
              refine v_aload_n F dX8_over_51 (i := 0) rfl 0 rfl (q := 52) rfl ?_
              refine v_iload F dX8_over_52 3 rfl (q := 54) rfl ?_
              refine v_callV F ml_X8_133 im_X8_isOver se_X8_isOver in_X8 co_X8_isOver sd_X8_isOver (c_X8_isOver y0 y1 y2 y3 y4 y5 y6 y7 y8 y9 y10 y11 y12 y13 y14 th sd tp n sc sp px py pl pk N M ls lv lx ly ab bl tn (dDE pk px py M N) (cWi pk px py M N ls lv lx ly kc) (cPi pk px py M N ls lv lx ly kc) (cQi pk px py M N ls lv lx ly kc) k ⟨G, hsp, P, hM, hls, hlv, hlx, hly, by omega⟩ (by omega) ⟨hs2, hDR.2⟩ (hR.2.2.2 k (by omega))) ⟨Nat.zero_le _, Nat.zero_le _⟩ (Nat.le_of_ble_eq_true rfl) (Nat.le_of_ble_eq_true rfl) 0 (As := [.int (nI k)]) rfl rfl rfl rfl rfl [0, 1, 2, 3, 4, 5, 6, 7, 8, 9, 10, 11, 12, 13, 14] rfl nd15 vnd15 (rest := [.int (nI (ovM M (fun kk => ovK th sd tp n sc pl (dDE pk px py M N) (shB pk px py M N ls lv lx ly kc kk) kk) k))]) rfl (Nat.le_of_ble_eq_true rfl) dX8_over_54 (q := 57) rfl (fun r w hr => ?_)
              obtain ⟨rfl, rfl⟩ := hr
              refine v_ws (ws' := [(y0, .inr (8, [.int (nI n), .ref y1, .ref y2, .ref y3, .int sc, .int sp, .int (nI N), .ref y4, .ref y5, .ref y6, .ref y7, .ref y8, .ref y9, .ref y10, .ref y11, .ref y12, .int (nI tn), .ref y13, .ref y14, .long (zL (dDE pk px py M N)), .long (zL (cWi pk px py M N ls lv lx ly kc)), .long (zL (cPi pk px py M N ls lv lx ly kc)), .long (zL (cQi pk px py M N ls lv lx ly kc))])), (y1, .inl (cI, 6, .inl th)), (y2, .inl (cI, 6, .inl sd)), (y3, .inl (cI, 6, .inl tp)), (y4, .inl (cI, 12, .inl px)), (y5, .inl (cI, 12, .inl py)), (y6, .inl (cI, 12, .inl (fun i => nI (pl i)))), (y7, .inl (cI, 12, .inl pk)), (y8, .inl (cZ, 12, .inl (fun i => bI (M.testBit i)))), (y9, .inl (cI, 3, .inl (fun i => nI (ls i)))), (y10, .inl (cI, 18, .inl lv)), (y11, .inl (cI, 18, .inl lx)), (y12, .inl (cI, 18, .inl ly)), (y13, .inl (cJ, 15, .inr (.inl ab))), (y14, .inl (cJ, 15, .inr (.inl bl)))]) ((wset_wgo (nodup_of nd15) rfl).trans rfl) ?_
              refine v_st (st' := [.int (bI (ovK th sd tp n sc pl (dDE pk px py M N) (shI pk px py (cWi pk px py M N ls lv lx ly kc) (cPi pk px py M N ls lv lx ly kc) (cQi pk px py M N ls lv lx ly kc) k) k)), .int (nI (ovM M (fun kk => ovK th sd tp n sc pl (dDE pk px py M N) (shB pk px py M N ls lv lx ly kc kk) kk) k))]) rfl ?_
              refine v_if_eq F dX8_over_57 (tgt := 67) rfl (q := 60) rfl (fun c57 => ?_) (fun c57 => ?_)
              · skip
                rw [bI_z] at c57
                refine v_iconst F dX8_over_67 (v := 0) (q := 68) rfl rfl ?_
                refine v_ior F dX8_over_68 (q := 69) rfl ?_
                refine v_int (y := nI (ovM M (fun kk => ovK th sd tp n sc pl (dDE pk px py M N) (shB pk px py M N ls lv lx ly kc kk) kk) k)) (or_0) ?_
                refine v_istore_n F dX8_over_69 (i := 3) (lv' := [(3, .int (nI (ovM M (fun kk => ovK th sd tp n sc pl (dDE pk px py M N) (shB pk px py M N ls lv lx ly kc kk) kk) k))), (0, .ref y0), (2, .int (nI M)), (4, .int (nI k))]) rfl (Nat.le_of_ble_eq_true rfl) rfl (q := 70) rfl ?_
                refine v_iinc F dX8_over_70 3 rfl (v := nI (k + 1)) (lv' := [(4, .int (nI (k + 1))), (3, .int (nI (ovM M (fun kk => ovK th sd tp n sc pl (dDE pk px py M N) (shB pk px py M N ls lv lx ly kc kk) kk) k))), (0, .ref y0), (2, .int (nI M))]) (nI_1 k) (Nat.le_of_ble_eq_true rfl) rfl (q := 73) rfl ?_
                refine v_goto F dX8_over_73 (tgt := 31) rfl ?_
                refine v_lv (lv' := [(0, .ref y0), (2, .int (nI M)), (3, .int (nI (ovM M (fun kk => ovK th sd tp n sc pl (dDE pk px py M N) (shB pk px py M N ls lv lx ly kc kk) kk) k))), (4, .int (nI (k + 1)))]) [2, 3, 1, 0] rfl ?_
                have hV := ih d (by omega) (k + 1) (by omega)
                first | rw [ovM_f c48] at hV | rw [ovM_f2 (q := (fun kk => ovK th sd tp n sc pl (dDE pk px py M N) (shB pk px py M N ls lv lx ly kc kk) kk)) c57] at hV
                exact hV
              · skip
                rw [bI_nz] at c57
                refine v_iconst F dX8_over_60 (v := 1) (q := 61) rfl rfl ?_
                refine v_iload F dX8_over_61 3 rfl (q := 63) rfl ?_
                refine v_ishl F dX8_over_63 (q := 64) rfl ?_
                refine v_goto F dX8_over_64 (tgt := 68) rfl ?_
                refine v_ior F dX8_over_68 (q := 69) rfl ?_
                refine v_int (y := nI (ovM M (fun kk => ovK th sd tp n sc pl (dDE pk px py M N) (shB pk px py M N ls lv lx ly kc kk) kk) k ||| 2 ^ k)) (ms_or (by omega)) ?_
                refine v_istore_n F dX8_over_69 (i := 3) (lv' := [(3, .int (nI (ovM M (fun kk => ovK th sd tp n sc pl (dDE pk px py M N) (shB pk px py M N ls lv lx ly kc kk) kk) k ||| 2 ^ k))), (0, .ref y0), (2, .int (nI M)), (4, .int (nI k))]) rfl (Nat.le_of_ble_eq_true rfl) rfl (q := 70) rfl ?_
                refine v_iinc F dX8_over_70 3 rfl (v := nI (k + 1)) (lv' := [(4, .int (nI (k + 1))), (3, .int (nI (ovM M (fun kk => ovK th sd tp n sc pl (dDE pk px py M N) (shB pk px py M N ls lv lx ly kc kk) kk) k ||| 2 ^ k))), (0, .ref y0), (2, .int (nI M))]) (nI_1 k) (Nat.le_of_ble_eq_true rfl) rfl (q := 73) rfl ?_
                refine v_goto F dX8_over_73 (tgt := 31) rfl ?_
                refine v_lv (lv' := [(0, .ref y0), (2, .int (nI M)), (3, .int (nI (ovM M (fun kk => ovK th sd tp n sc pl (dDE pk px py M N) (shB pk px py M N ls lv lx ly kc kk) kk) k ||| 2 ^ k))), (4, .int (nI (k + 1)))]) [2, 3, 1, 0] rfl ?_
                have hV := ih d (by omega) (k + 1) (by omega)
                rw [ovM_t (q := (fun kk => ovK th sd tp n sc pl (dDE pk px py M N) (shB pk px py M N ls lv lx ly kc kk) kk)) c48 c57] at hV
                exact hV
        refine v_lv (lv' := [(0, .ref y0), (2, .int (nI M)), (3, .int 0), (4, .int 0)]) [3, 2, 1, 0] rfl ?_
        exact L31 N 0 (by omega)
      · exact absurd c20 (by decide)
  · skip
    rw [bI_z] at c4
    refine v_iconst F dX8_over_7 (v := (-1)) (q := 8) rfl rfl ?_
    exact hE rfl dX8_over_8 (Nat.zero_le _) (Nat.zero_le _) ⟨(by have hf : fOver c1 (th, sd, tp, n, sc, sp, px, py, pl, pk, N, M, ls, lv, lx, ly, ab, bl, tn) = (-1, (th, sd, tp, n, sc, sp, px, py, pl, pk, N, M, ls, lv, lx, ly, ab, bl, tn)) := (by simp only [fOver]; rw [if_neg (by rw [c4]; simp)]); exact ⟨(wo, si, t1, t2), by rw [hf], by rw [hf]; rfl⟩), Nat.le_of_ble_eq_true rfl⟩

set_option maxHeartbeats 4000000 in
set_option maxRecDepth 100000 in
theorem c_X8_shares (y0 y1 y2 y3 y4 y5 y6 y7 y8 y9 y10 y11 y12 y13 y14 : Nat) (th : Nat → Int32) (sd : Nat → Int32) (tp : Nat → Int32) (n : Nat) (sc : Int32) (sp : Int32) (px : Nat → Int32) (py : Nat → Int32) (pl : Nat → Nat) (pk : Nat → Int32) (N : Nat) (M : Nat) (ls : Nat → Nat) (lv : Nat → Int32) (lx : Nat → Int32) (ly : Nat → Int32) (ab : Nat → Int64) (bl : Nat → Int64) (tn : Nat) (wo si t1 t2 : Int) (c1 : Int32) (VI : INV (th, sd, tp, n, sc, sp, px, py, pl, pk, N, M, ls, lv, lx, ly, ab, bl, tn)) : Ct l D (TY cI cJ cZ) yX8_shares cX8_shares 3 (some .int) 2 56 0 0 [.ref y0, .int c1] [(y0, .inr (8, [.int (nI n), .ref y1, .ref y2, .ref y3, .int sc, .int sp, .int (nI N), .ref y4, .ref y5, .ref y6, .ref y7, .ref y8, .ref y9, .ref y10, .ref y11, .ref y12, .int (nI tn), .ref y13, .ref y14, .long (zL wo), .long (zL si), .long (zL t1), .long (zL t2)])), (y1, .inl (cI, 6, .inl th)), (y2, .inl (cI, 6, .inl sd)), (y3, .inl (cI, 6, .inl tp)), (y4, .inl (cI, 12, .inl px)), (y5, .inl (cI, 12, .inl py)), (y6, .inl (cI, 12, .inl (fun i => nI (pl i)))), (y7, .inl (cI, 12, .inl pk)), (y8, .inl (cZ, 12, .inl (fun i => bI (M.testBit i)))), (y9, .inl (cI, 3, .inl (fun i => nI (ls i)))), (y10, .inl (cI, 18, .inl lv)), (y11, .inl (cI, 18, .inl lx)), (y12, .inl (cI, 18, .inl ly)), (y13, .inl (cJ, 15, .inr (.inl ab))), (y14, .inl (cJ, 15, .inr (.inl bl)))] (fun r w => ∃ X : Int × Int × Int × Int, r = some (.int (fShares c1 (th, sd, tp, n, sc, sp, px, py, pl, pk, N, M, ls, lv, lx, ly, ab, bl, tn)).1) ∧ w = WM cI cJ cZ y0 y1 y2 y3 y4 y5 y6 y7 y8 y9 y10 y11 y12 y13 y14 (fShares c1 (th, sd, tp, n, sc, sp, px, py, pl, pk, N, M, ls, lv, lx, ly, ab, bl, tn)).2 X) := by
  refine Ct.ofI (ty := .int) (by decide) (Nat.le_of_ble_eq_true rfl) ?_
  intro p e s m args below meth c A R Q F hnm hcs0 hE
  refine v_lv (lv' := [(0, .ref y0), (1, .int c1)]) [0, 1] rfl ?_
  obtain ⟨G, hsp, P, hM, hls, hlv, hlx, hly, htn⟩ := id VI
  have hn6 := G.1
  have hN12 := P.1
  have hM4 : M < 4096 := Nat.lt_of_lt_of_le hM (Nat.pow_le_pow_right (by omega) hN12)
  refine v_iload_n F dX8_shares_0 (i := 1) rfl 1 rfl (q := 1) rfl ?_
  refine v_callS F ml_X8_95 sm_X8_isCase in_X8 co_X8_isCase sd_X8_isCase (c_X8_isCase c1) ⟨Nat.zero_le _, Nat.zero_le _⟩ (Nat.le_of_ble_eq_true rfl) (Nat.le_of_ble_eq_true rfl) rfl [] rfl rfl rfl (rest := []) rfl (Nat.le_of_ble_eq_true rfl) dX8_shares_1 (q := 4) rfl (fun r w hr => ?_)
  obtain ⟨rfl, rfl⟩ := hr
  refine v_ws (ws' := [(y0, .inr (8, [.int (nI n), .ref y1, .ref y2, .ref y3, .int sc, .int sp, .int (nI N), .ref y4, .ref y5, .ref y6, .ref y7, .ref y8, .ref y9, .ref y10, .ref y11, .ref y12, .int (nI tn), .ref y13, .ref y14, .long (zL wo), .long (zL si), .long (zL t1), .long (zL t2)])), (y1, .inl (cI, 6, .inl th)), (y2, .inl (cI, 6, .inl sd)), (y3, .inl (cI, 6, .inl tp)), (y4, .inl (cI, 12, .inl px)), (y5, .inl (cI, 12, .inl py)), (y6, .inl (cI, 12, .inl (fun i => nI (pl i)))), (y7, .inl (cI, 12, .inl pk)), (y8, .inl (cZ, 12, .inl (fun i => bI (M.testBit i)))), (y9, .inl (cI, 3, .inl (fun i => nI (ls i)))), (y10, .inl (cI, 18, .inl lv)), (y11, .inl (cI, 18, .inl lx)), (y12, .inl (cI, 18, .inl ly)), (y13, .inl (cJ, 15, .inr (.inl ab))), (y14, .inl (cJ, 15, .inr (.inl bl)))]) rfl ?_
  refine v_st (st' := [.int (bI (inR c1 0 2))]) rfl ?_
  refine v_if_ne F dX8_shares_4 (tgt := 9) rfl (q := 7) rfl (fun c4 => ?_) (fun c4 => ?_)
  · skip
    rw [bI_nz] at c4
    obtain ⟨kc, hkc, rfl⟩ : ∃ k : Nat, k < 3 ∧ c1 = nI k := case_ex c4
    have hpk := pN_nI (k := kc) (by omega)
    refine v_aload_n F dX8_shares_9 (i := 0) rfl 0 rfl (q := 10) rfl ?_
    refine v_aload_n F dX8_shares_10 (i := 0) rfl 0 rfl (q := 11) rfl ?_
    refine v_callV F ml_X8_115 im_X8_wholeSet se_X8_wholeSet in_X8 co_X8_wholeSet sd_X8_wholeSet (c_X8_wholeSet y0 y1 y2 y3 y4 y5 y6 y7 y8 y9 y10 y11 y12 y13 y14 th sd tp n sc sp px py pl pk N M ls lv lx ly ab bl tn wo si t1 t2  ⟨G, hsp, P, hM, hls, hlv, hlx, hly, by omega⟩ ) ⟨Nat.zero_le _, Nat.zero_le _⟩ (Nat.le_of_ble_eq_true rfl) (Nat.le_of_ble_eq_true rfl) 0 (As := []) rfl rfl rfl rfl rfl [0, 1, 2, 3, 4, 5, 6, 7, 8, 9, 10, 11, 12, 13, 14] rfl nd15 vnd15 (rest := [.ref y0]) rfl (Nat.le_of_ble_eq_true rfl) dX8_shares_11 (q := 14) rfl (fun r w hr => ?_)
    obtain ⟨rfl, rfl⟩ := hr
    refine v_ws (ws' := [(y0, .inr (8, [.int (nI n), .ref y1, .ref y2, .ref y3, .int sc, .int sp, .int (nI N), .ref y4, .ref y5, .ref y6, .ref y7, .ref y8, .ref y9, .ref y10, .ref y11, .ref y12, .int (nI tn), .ref y13, .ref y14, .long (zL wo), .long (zL si), .long (zL t1), .long (zL t2)])), (y1, .inl (cI, 6, .inl th)), (y2, .inl (cI, 6, .inl sd)), (y3, .inl (cI, 6, .inl tp)), (y4, .inl (cI, 12, .inl px)), (y5, .inl (cI, 12, .inl py)), (y6, .inl (cI, 12, .inl (fun i => nI (pl i)))), (y7, .inl (cI, 12, .inl pk)), (y8, .inl (cZ, 12, .inl (fun i => bI (M.testBit i)))), (y9, .inl (cI, 3, .inl (fun i => nI (ls i)))), (y10, .inl (cI, 18, .inl lv)), (y11, .inl (cI, 18, .inl lx)), (y12, .inl (cI, 18, .inl ly)), (y13, .inl (cJ, 15, .inr (.inl ab))), (y14, .inl (cJ, 15, .inr (.inl bl)))]) ((wset_wgo (nodup_of nd15) rfl).trans rfl) ?_
    refine v_st (st' := [.int (nI M), .ref y0]) rfl ?_
    refine v_iload_n F dX8_shares_14 (i := 1) rfl 1 rfl (q := 15) rfl ?_
    refine v_callV F ml_X8_119 im_X8_solves se_X8_solves in_X8 co_X8_solves sd_X8_solves (c_X8_solves y0 y1 y2 y3 y4 y5 y6 y7 y8 y9 y10 y11 y12 y13 y14 th sd tp n sc sp px py pl pk N M ls lv lx ly ab bl tn wo si t1 t2 M kc ⟨G, hsp, P, hM, hls, hlv, hlx, hly, by omega⟩ (by omega) (by omega)) ⟨Nat.zero_le _, Nat.zero_le _⟩ (Nat.le_of_ble_eq_true rfl) (Nat.le_of_ble_eq_true rfl) 0 (As := [.int (nI M), .int (nI kc)]) rfl rfl rfl rfl rfl [0, 1, 2, 3, 4, 5, 6, 7, 8, 9, 10, 11, 12, 13, 14] rfl nd15 vnd15 (rest := []) rfl (Nat.le_of_ble_eq_true rfl) dX8_shares_15 (q := 18) rfl (fun r w hr => ?_)
    rcases hr with ⟨hs2, rfl, rfl⟩ | ⟨hs2, rfl, rfl⟩
    · skip
      refine v_ws (ws' := [(y0, .inr (8, [.int (nI n), .ref y1, .ref y2, .ref y3, .int sc, .int sp, .int (nI N), .ref y4, .ref y5, .ref y6, .ref y7, .ref y8, .ref y9, .ref y10, .ref y11, .ref y12, .int (nI tn), .ref y13, .ref y14, .long (zL (dDE pk px py M N)), .long (zL si), .long (zL t1), .long (zL t2)])), (y1, .inl (cI, 6, .inl th)), (y2, .inl (cI, 6, .inl sd)), (y3, .inl (cI, 6, .inl tp)), (y4, .inl (cI, 12, .inl px)), (y5, .inl (cI, 12, .inl py)), (y6, .inl (cI, 12, .inl (fun i => nI (pl i)))), (y7, .inl (cI, 12, .inl pk)), (y8, .inl (cZ, 12, .inl (fun i => bI (M.testBit i)))), (y9, .inl (cI, 3, .inl (fun i => nI (ls i)))), (y10, .inl (cI, 18, .inl lv)), (y11, .inl (cI, 18, .inl lx)), (y12, .inl (cI, 18, .inl ly)), (y13, .inl (cJ, 15, .inr (.inl ab))), (y14, .inl (cJ, 15, .inr (.inl bl)))]) ((wset_wgo (nodup_of nd15) rfl).trans rfl) ?_
      refine v_st (st' := [.int 0]) rfl ?_
      refine v_if_ne F dX8_shares_18 (tgt := 24) rfl (q := 21) rfl (fun c18 => ?_) (fun c18 => ?_)
      · exact absurd rfl c18
      · skip
        refine v_bipush F dX8_shares_21 (v := (-2)) (q := 23) rfl rfl ?_
        exact hE rfl dX8_shares_23 (Nat.zero_le _) (Nat.zero_le _) ⟨(by have hf : fShares (nI kc) (th, sd, tp, n, sc, sp, px, py, pl, pk, N, M, ls, lv, lx, ly, ab, bl, tn) = (-2, (th, sd, tp, n, sc, sp, px, py, pl, pk, N, M, ls, lv, lx, ly, ab, bl, tn)) := (by simp only [fShares]; rw [if_pos c4, hpk, if_neg hs2]); exact ⟨((dDE pk px py M N), si, t1, t2), by rw [hf], by rw [hf]; rfl⟩), Nat.le_of_ble_eq_true rfl⟩
    · skip
      refine v_ws (ws' := [(y0, .inr (8, [.int (nI n), .ref y1, .ref y2, .ref y3, .int sc, .int sp, .int (nI N), .ref y4, .ref y5, .ref y6, .ref y7, .ref y8, .ref y9, .ref y10, .ref y11, .ref y12, .int (nI tn), .ref y13, .ref y14, .long (zL (dDE pk px py M N)), .long (zL (cWi pk px py M N ls lv lx ly kc)), .long (zL (cPi pk px py M N ls lv lx ly kc)), .long (zL (cQi pk px py M N ls lv lx ly kc))])), (y1, .inl (cI, 6, .inl th)), (y2, .inl (cI, 6, .inl sd)), (y3, .inl (cI, 6, .inl tp)), (y4, .inl (cI, 12, .inl px)), (y5, .inl (cI, 12, .inl py)), (y6, .inl (cI, 12, .inl (fun i => nI (pl i)))), (y7, .inl (cI, 12, .inl pk)), (y8, .inl (cZ, 12, .inl (fun i => bI (M.testBit i)))), (y9, .inl (cI, 3, .inl (fun i => nI (ls i)))), (y10, .inl (cI, 18, .inl lv)), (y11, .inl (cI, 18, .inl lx)), (y12, .inl (cI, 18, .inl ly)), (y13, .inl (cJ, 15, .inr (.inl ab))), (y14, .inl (cJ, 15, .inr (.inl bl)))]) ((wset_wgo (nodup_of nd15) rfl).trans rfl) ?_
      refine v_st (st' := [.int 1]) rfl ?_
      have hR := shB_rng P hls hlv hlx hly M kc
      have hDR := (d_rng P M).2.2.2.2.2.2
      refine v_if_ne F dX8_shares_18 (tgt := 24) rfl (q := 21) rfl (fun c18 => ?_) (fun c18 => ?_)
      · skip
        refine v_aload_n F dX8_shares_24 (i := 0) rfl 0 rfl (q := 25) rfl ?_
        refine v_iconst F dX8_shares_25 (v := 0) (q := 26) rfl rfl ?_
        refine v_aload_n F dX8_shares_26 (i := 0) rfl 0 rfl (q := 27) rfl ?_
        refine gt_X8_102 F dX8_shares_27 0 rfl rfl (q := 30) rfl ?_
        refine v_aload_n F dX8_shares_30 (i := 0) rfl 0 rfl (q := 31) rfl ?_
        refine gt_X8_98 F dX8_shares_31 0 rfl rfl (q := 34) rfl ?_
        refine v_callV F ml_X8_122 im_X8_tell se_X8_tell in_X8 co_X8_tell sd_X8_tell (c_X8_tell y0 y1 y2 y3 y4 y5 y6 y7 y8 y9 y10 y11 y12 y13 y14 th sd tp n sc sp px py pl pk N M ls lv lx ly ab bl tn (dDE pk px py M N) (cWi pk px py M N ls lv lx ly kc) (cPi pk px py M N ls lv lx ly kc) (cQi pk px py M N ls lv lx ly kc) 0 (zL (cWi pk px py M N ls lv lx ly kc)) (zL (dDE pk px py M N)) ⟨G, hsp, P, hM, hls, hlv, hlx, hly, by omega⟩ (by omega) (by rw [zL_toInt (by omega) (by omega)]; omega) (by rw [zL_toInt (by omega) (by omega)]; exact hs2)) ⟨Nat.zero_le _, Nat.zero_le _⟩ (Nat.le_of_ble_eq_true rfl) (Nat.le_of_ble_eq_true rfl) 0 (As := [.int 0, .long (zL (cWi pk px py M N ls lv lx ly kc)), .long (zL (dDE pk px py M N))]) rfl rfl rfl rfl rfl [0, 1, 2, 3, 4, 5, 6, 7, 8, 9, 10, 11, 12, 13, 14] rfl nd15 vnd15 (rest := []) rfl (Nat.le_of_ble_eq_true rfl) dX8_shares_34 (q := 37) rfl (fun r w hr => ?_)
        obtain ⟨rfl, rfl⟩ := hr
        refine v_ws (ws' := [(y0, .inr (8, [.int (nI n), .ref y1, .ref y2, .ref y3, .int sc, .int sp, .int (nI N), .ref y4, .ref y5, .ref y6, .ref y7, .ref y8, .ref y9, .ref y10, .ref y11, .ref y12, .int (nI tn), .ref y13, .ref y14, .long (zL (dDE pk px py M N)), .long (zL (cWi pk px py M N ls lv lx ly kc)), .long (zL (cPi pk px py M N ls lv lx ly kc)), .long (zL (cQi pk px py M N ls lv lx ly kc))])), (y1, .inl (cI, 6, .inl th)), (y2, .inl (cI, 6, .inl sd)), (y3, .inl (cI, 6, .inl tp)), (y4, .inl (cI, 12, .inl px)), (y5, .inl (cI, 12, .inl py)), (y6, .inl (cI, 12, .inl (fun i => nI (pl i)))), (y7, .inl (cI, 12, .inl pk)), (y8, .inl (cZ, 12, .inl (fun i => bI (M.testBit i)))), (y9, .inl (cI, 3, .inl (fun i => nI (ls i)))), (y10, .inl (cI, 18, .inl lv)), (y11, .inl (cI, 18, .inl lx)), (y12, .inl (cI, 18, .inl ly)), (y13, .inl (cJ, 15, .inr (.inl (vp_updL ab 0 ((zL (cWi pk px py M N ls lv lx ly kc)) / dG (zL (cWi pk px py M N ls lv lx ly kc)) (zL (dDE pk px py M N))))))), (y14, .inl (cJ, 15, .inr (.inl (vp_updL bl 0 ((zL (dDE pk px py M N)) / dG (zL (cWi pk px py M N ls lv lx ly kc)) (zL (dDE pk px py M N)))))))]) ((wset_wgo (nodup_of nd15) rfl).trans rfl) ?_
        refine v_st (st' := []) rfl ?_
        refine v_aload_n F dX8_shares_37 (i := 0) rfl 0 rfl (q := 38) rfl ?_
        refine v_iconst F dX8_shares_38 (v := 1) (q := 39) rfl rfl ?_
        refine v_aload_n F dX8_shares_39 (i := 0) rfl 0 rfl (q := 40) rfl ?_
        refine gt_X8_105 F dX8_shares_40 0 rfl rfl (q := 43) rfl ?_
        refine v_aload_n F dX8_shares_43 (i := 0) rfl 0 rfl (q := 44) rfl ?_
        refine gt_X8_98 F dX8_shares_44 0 rfl rfl (q := 47) rfl ?_
        refine v_callV F ml_X8_122 im_X8_tell se_X8_tell in_X8 co_X8_tell sd_X8_tell (c_X8_tell y0 y1 y2 y3 y4 y5 y6 y7 y8 y9 y10 y11 y12 y13 y14 th sd tp n sc sp px py pl pk N M ls lv lx ly (vp_updL ab 0 ((zL (cWi pk px py M N ls lv lx ly kc)) / dG (zL (cWi pk px py M N ls lv lx ly kc)) (zL (dDE pk px py M N)))) (vp_updL bl 0 ((zL (dDE pk px py M N)) / dG (zL (cWi pk px py M N ls lv lx ly kc)) (zL (dDE pk px py M N)))) tn (dDE pk px py M N) (cWi pk px py M N ls lv lx ly kc) (cPi pk px py M N ls lv lx ly kc) (cQi pk px py M N ls lv lx ly kc) 1 (zL (cPi pk px py M N ls lv lx ly kc)) (zL (dDE pk px py M N)) ⟨G, hsp, P, hM, hls, hlv, hlx, hly, by omega⟩ (by omega) (by rw [zL_toInt (by omega) (by omega)]; omega) (by rw [zL_toInt (by omega) (by omega)]; exact hs2)) ⟨Nat.zero_le _, Nat.zero_le _⟩ (Nat.le_of_ble_eq_true rfl) (Nat.le_of_ble_eq_true rfl) 0 (As := [.int 1, .long (zL (cPi pk px py M N ls lv lx ly kc)), .long (zL (dDE pk px py M N))]) rfl rfl rfl rfl rfl [0, 1, 2, 3, 4, 5, 6, 7, 8, 9, 10, 11, 12, 13, 14] rfl nd15 vnd15 (rest := []) rfl (Nat.le_of_ble_eq_true rfl) dX8_shares_47 (q := 50) rfl (fun r w hr => ?_)
        obtain ⟨rfl, rfl⟩ := hr
        refine v_ws (ws' := [(y0, .inr (8, [.int (nI n), .ref y1, .ref y2, .ref y3, .int sc, .int sp, .int (nI N), .ref y4, .ref y5, .ref y6, .ref y7, .ref y8, .ref y9, .ref y10, .ref y11, .ref y12, .int (nI tn), .ref y13, .ref y14, .long (zL (dDE pk px py M N)), .long (zL (cWi pk px py M N ls lv lx ly kc)), .long (zL (cPi pk px py M N ls lv lx ly kc)), .long (zL (cQi pk px py M N ls lv lx ly kc))])), (y1, .inl (cI, 6, .inl th)), (y2, .inl (cI, 6, .inl sd)), (y3, .inl (cI, 6, .inl tp)), (y4, .inl (cI, 12, .inl px)), (y5, .inl (cI, 12, .inl py)), (y6, .inl (cI, 12, .inl (fun i => nI (pl i)))), (y7, .inl (cI, 12, .inl pk)), (y8, .inl (cZ, 12, .inl (fun i => bI (M.testBit i)))), (y9, .inl (cI, 3, .inl (fun i => nI (ls i)))), (y10, .inl (cI, 18, .inl lv)), (y11, .inl (cI, 18, .inl lx)), (y12, .inl (cI, 18, .inl ly)), (y13, .inl (cJ, 15, .inr (.inl (vp_updL (vp_updL ab 0 ((zL (cWi pk px py M N ls lv lx ly kc)) / dG (zL (cWi pk px py M N ls lv lx ly kc)) (zL (dDE pk px py M N)))) 1 ((zL (cPi pk px py M N ls lv lx ly kc)) / dG (zL (cPi pk px py M N ls lv lx ly kc)) (zL (dDE pk px py M N))))))), (y14, .inl (cJ, 15, .inr (.inl (vp_updL (vp_updL bl 0 ((zL (dDE pk px py M N)) / dG (zL (cWi pk px py M N ls lv lx ly kc)) (zL (dDE pk px py M N)))) 1 ((zL (dDE pk px py M N)) / dG (zL (cPi pk px py M N ls lv lx ly kc)) (zL (dDE pk px py M N)))))))]) ((wset_wgo (nodup_of nd15) rfl).trans rfl) ?_
        refine v_st (st' := []) rfl ?_
        refine v_aload_n F dX8_shares_50 (i := 0) rfl 0 rfl (q := 51) rfl ?_
        refine v_iconst F dX8_shares_51 (v := 2) (q := 52) rfl rfl ?_
        refine v_aload_n F dX8_shares_52 (i := 0) rfl 0 rfl (q := 53) rfl ?_
        refine gt_X8_108 F dX8_shares_53 0 rfl rfl (q := 56) rfl ?_
        refine v_aload_n F dX8_shares_56 (i := 0) rfl 0 rfl (q := 57) rfl ?_
        refine gt_X8_98 F dX8_shares_57 0 rfl rfl (q := 60) rfl ?_
        refine v_callV F ml_X8_122 im_X8_tell se_X8_tell in_X8 co_X8_tell sd_X8_tell (c_X8_tell y0 y1 y2 y3 y4 y5 y6 y7 y8 y9 y10 y11 y12 y13 y14 th sd tp n sc sp px py pl pk N M ls lv lx ly (vp_updL (vp_updL ab 0 ((zL (cWi pk px py M N ls lv lx ly kc)) / dG (zL (cWi pk px py M N ls lv lx ly kc)) (zL (dDE pk px py M N)))) 1 ((zL (cPi pk px py M N ls lv lx ly kc)) / dG (zL (cPi pk px py M N ls lv lx ly kc)) (zL (dDE pk px py M N)))) (vp_updL (vp_updL bl 0 ((zL (dDE pk px py M N)) / dG (zL (cWi pk px py M N ls lv lx ly kc)) (zL (dDE pk px py M N)))) 1 ((zL (dDE pk px py M N)) / dG (zL (cPi pk px py M N ls lv lx ly kc)) (zL (dDE pk px py M N)))) tn (dDE pk px py M N) (cWi pk px py M N ls lv lx ly kc) (cPi pk px py M N ls lv lx ly kc) (cQi pk px py M N ls lv lx ly kc) 2 (zL (cQi pk px py M N ls lv lx ly kc)) (zL (dDE pk px py M N)) ⟨G, hsp, P, hM, hls, hlv, hlx, hly, by omega⟩ (by omega) (by rw [zL_toInt (by omega) (by omega)]; omega) (by rw [zL_toInt (by omega) (by omega)]; exact hs2)) ⟨Nat.zero_le _, Nat.zero_le _⟩ (Nat.le_of_ble_eq_true rfl) (Nat.le_of_ble_eq_true rfl) 0 (As := [.int 2, .long (zL (cQi pk px py M N ls lv lx ly kc)), .long (zL (dDE pk px py M N))]) rfl rfl rfl rfl rfl [0, 1, 2, 3, 4, 5, 6, 7, 8, 9, 10, 11, 12, 13, 14] rfl nd15 vnd15 (rest := []) rfl (Nat.le_of_ble_eq_true rfl) dX8_shares_60 (q := 63) rfl (fun r w hr => ?_)
        obtain ⟨rfl, rfl⟩ := hr
        refine v_ws (ws' := [(y0, .inr (8, [.int (nI n), .ref y1, .ref y2, .ref y3, .int sc, .int sp, .int (nI N), .ref y4, .ref y5, .ref y6, .ref y7, .ref y8, .ref y9, .ref y10, .ref y11, .ref y12, .int (nI tn), .ref y13, .ref y14, .long (zL (dDE pk px py M N)), .long (zL (cWi pk px py M N ls lv lx ly kc)), .long (zL (cPi pk px py M N ls lv lx ly kc)), .long (zL (cQi pk px py M N ls lv lx ly kc))])), (y1, .inl (cI, 6, .inl th)), (y2, .inl (cI, 6, .inl sd)), (y3, .inl (cI, 6, .inl tp)), (y4, .inl (cI, 12, .inl px)), (y5, .inl (cI, 12, .inl py)), (y6, .inl (cI, 12, .inl (fun i => nI (pl i)))), (y7, .inl (cI, 12, .inl pk)), (y8, .inl (cZ, 12, .inl (fun i => bI (M.testBit i)))), (y9, .inl (cI, 3, .inl (fun i => nI (ls i)))), (y10, .inl (cI, 18, .inl lv)), (y11, .inl (cI, 18, .inl lx)), (y12, .inl (cI, 18, .inl ly)), (y13, .inl (cJ, 15, .inr (.inl (vp_updL (vp_updL (vp_updL ab 0 ((zL (cWi pk px py M N ls lv lx ly kc)) / dG (zL (cWi pk px py M N ls lv lx ly kc)) (zL (dDE pk px py M N)))) 1 ((zL (cPi pk px py M N ls lv lx ly kc)) / dG (zL (cPi pk px py M N ls lv lx ly kc)) (zL (dDE pk px py M N)))) 2 ((zL (cQi pk px py M N ls lv lx ly kc)) / dG (zL (cQi pk px py M N ls lv lx ly kc)) (zL (dDE pk px py M N))))))), (y14, .inl (cJ, 15, .inr (.inl (vp_updL (vp_updL (vp_updL bl 0 ((zL (dDE pk px py M N)) / dG (zL (cWi pk px py M N ls lv lx ly kc)) (zL (dDE pk px py M N)))) 1 ((zL (dDE pk px py M N)) / dG (zL (cPi pk px py M N ls lv lx ly kc)) (zL (dDE pk px py M N)))) 2 ((zL (dDE pk px py M N)) / dG (zL (cQi pk px py M N ls lv lx ly kc)) (zL (dDE pk px py M N)))))))]) ((wset_wgo (nodup_of nd15) rfl).trans rfl) ?_
        refine v_st (st' := []) rfl ?_
        refine v_iconst F dX8_shares_63 (v := 0) (q := 64) rfl rfl ?_
        refine v_istore_n F dX8_shares_64 (i := 2) (lv' := [(2, .int 0), (0, .ref y0), (1, .int (nI kc))]) rfl (Nat.le_of_ble_eq_true rfl) rfl (q := 65) rfl ?_
        have L65 : ∀ (d k : Nat), k + d = N → V p l e R s m args below meth c D A 3 0 0 Q 65 [(0, .ref y0), (2, .int (nI k))] [] [(y0, .inr (8, [.int (nI n), .ref y1, .ref y2, .ref y3, .int sc, .int sp, .int (nI N), .ref y4, .ref y5, .ref y6, .ref y7, .ref y8, .ref y9, .ref y10, .ref y11, .ref y12, .int (nI tn), .ref y13, .ref y14, .long (zL (dDE pk px py M N)), .long (zL (cWi pk px py M N ls lv lx ly kc)), .long (zL (cPi pk px py M N ls lv lx ly kc)), .long (zL (cQi pk px py M N ls lv lx ly kc))])), (y1, .inl (cI, 6, .inl th)), (y2, .inl (cI, 6, .inl sd)), (y3, .inl (cI, 6, .inl tp)), (y4, .inl (cI, 12, .inl px)), (y5, .inl (cI, 12, .inl py)), (y6, .inl (cI, 12, .inl (fun i => nI (pl i)))), (y7, .inl (cI, 12, .inl pk)), (y8, .inl (cZ, 12, .inl (fun i => bI (M.testBit i)))), (y9, .inl (cI, 3, .inl (fun i => nI (ls i)))), (y10, .inl (cI, 18, .inl lv)), (y11, .inl (cI, 18, .inl lx)), (y12, .inl (cI, 18, .inl ly)), (y13, .inl (cJ, 15, .inr (.inl (tdA ab (shE pk px py M N ls lv lx ly kc) (fun _ => zL (dDE pk px py M N)) (3 + k))))), (y14, .inl (cJ, 15, .inr (.inl (tdB bl (shE pk px py M N ls lv lx ly kc) (fun _ => zL (dDE pk px py M N)) (3 + k)))))] := by
          intro d
          induction d using Nat.strongRecOn with
          | _ d ih => ?_
          intro k hk
          refine v_iload_n F dX8_shares_65 (i := 2) rfl 1 rfl (q := 66) rfl ?_
          refine v_aload_n F dX8_shares_66 (i := 0) rfl 0 rfl (q := 67) rfl ?_
          refine gt_X8_75 F dX8_shares_67 0 rfl rfl (q := 70) rfl ?_
          refine v_icmp_ge F dX8_shares_70 (tgt := 108) rfl (q := 73) rfl (fun c70 => ?_) (fun c70 => ?_)
          · skip
            rw [nI_leI (by omega) (by omega)] at c70
            have hku : N = k := by omega
            subst hku
            refine v_aload_n F dX8_shares_108 (i := 0) rfl 0 rfl (q := 109) rfl ?_
            refine v_iconst F dX8_shares_109 (v := 3) (q := 110) rfl rfl ?_
            refine v_aload_n F dX8_shares_110 (i := 0) rfl 0 rfl (q := 111) rfl ?_
            refine gt_X8_75 F dX8_shares_111 0 rfl rfl (q := 114) rfl ?_
            refine v_iadd F dX8_shares_114 (q := 115) rfl ?_
            refine v_int (y := nI (3 + N)) (nI_add 3 N) ?_
            refine pt_X8_130 F dX8_shares_115 0 rfl (Nat.le_of_ble_eq_true rfl) (q := 118) rfl ?_
            refine v_ws (ws' := [(y0, .inr (8, [.int (nI n), .ref y1, .ref y2, .ref y3, .int sc, .int sp, .int (nI N), .ref y4, .ref y5, .ref y6, .ref y7, .ref y8, .ref y9, .ref y10, .ref y11, .ref y12, .int (nI (3 + N)), .ref y13, .ref y14, .long (zL (dDE pk px py M N)), .long (zL (cWi pk px py M N ls lv lx ly kc)), .long (zL (cPi pk px py M N ls lv lx ly kc)), .long (zL (cQi pk px py M N ls lv lx ly kc))])), (y1, .inl (cI, 6, .inl th)), (y2, .inl (cI, 6, .inl sd)), (y3, .inl (cI, 6, .inl tp)), (y4, .inl (cI, 12, .inl px)), (y5, .inl (cI, 12, .inl py)), (y6, .inl (cI, 12, .inl (fun i => nI (pl i)))), (y7, .inl (cI, 12, .inl pk)), (y8, .inl (cZ, 12, .inl (fun i => bI (M.testBit i)))), (y9, .inl (cI, 3, .inl (fun i => nI (ls i)))), (y10, .inl (cI, 18, .inl lv)), (y11, .inl (cI, 18, .inl lx)), (y12, .inl (cI, 18, .inl ly)), (y13, .inl (cJ, 15, .inr (.inl (tdA ab (shE pk px py M N ls lv lx ly kc) (fun _ => zL (dDE pk px py M N)) (3 + N))))), (y14, .inl (cJ, 15, .inr (.inl (tdB bl (shE pk px py M N ls lv lx ly kc) (fun _ => zL (dDE pk px py M N)) (3 + N)))))]) rfl ?_
            refine v_iconst F dX8_shares_118 (v := 0) (q := 119) rfl rfl ?_
            exact hE rfl dX8_shares_119 (Nat.zero_le _) (Nat.zero_le _) ⟨(by have hf : fShares (nI kc) (th, sd, tp, n, sc, sp, px, py, pl, pk, N, M, ls, lv, lx, ly, ab, bl, tn) = (0, (th, sd, tp, n, sc, sp, px, py, pl, pk, N, M, ls, lv, lx, ly, tdA ab (shE pk px py M N ls lv lx ly kc) (fun _ => zL (dDE pk px py M N)) (3 + N), tdB bl (shE pk px py M N ls lv lx ly kc) (fun _ => zL (dDE pk px py M N)) (3 + N), 3 + N)) := (by simp only [fShares]; rw [if_pos c4, hpk, if_pos hs2]); exact ⟨((dDE pk px py M N), (cWi pk px py M N ls lv lx ly kc), (cPi pk px py M N ls lv lx ly kc), (cQi pk px py M N ls lv lx ly kc)), by rw [hf], by rw [hf]; rfl⟩), Nat.le_of_ble_eq_true rfl⟩
          · skip
            rw [nI_leI (by omega) (by omega)] at c70
            obtain ⟨d, rfl⟩ : ∃ d2, d = d2 + 1 := ⟨d - 1, by omega⟩
            have hRk := hR.2.2.2 k (by omega)
            unfold shB at hRk
            refine v_aload_n F dX8_shares_73 (i := 0) rfl 0 rfl (q := 74) rfl ?_
            refine v_iconst F dX8_shares_74 (v := 3) (q := 75) rfl rfl ?_
            refine v_iload_n F dX8_shares_75 (i := 2) rfl 1 rfl (q := 76) rfl ?_
            refine v_iadd F dX8_shares_76 (q := 77) rfl ?_
            refine v_int (y := nI (3 + k)) (nI_add 3 k) ?_
            refine v_aload_n F dX8_shares_77 (i := 0) rfl 0 rfl (q := 78) rfl ?_
            refine gt_X8_31 F dX8_shares_78 0 rfl rfl (q := 81) rfl ?_
            refine v_iload_n F dX8_shares_81 (i := 2) rfl 1 rfl (q := 82) rfl ?_
            refine v_zaldN F 8 2 rfl rfl (j := k) (by omega) (by decide) dX8_shares_82 (q := 83) rfl ?_
            refine v_st (st' := [.int (bI (M.testBit k)), .int (nI (3 + k)), .ref y0]) rfl ?_
            refine v_if_eq F dX8_shares_83 (tgt := 94) rfl (q := 86) rfl (fun c83 => ?_) (fun c83 => ?_)
            · skip
              rw [bI_z] at c83
              refine v_lconst F dX8_shares_94 (v := 0) (q := 95) rfl rfl ?_
              refine v_aload_n F dX8_shares_95 (i := 0) rfl 0 rfl (q := 96) rfl ?_
              refine gt_X8_98 F dX8_shares_96 0 rfl rfl (q := 99) rfl ?_
              refine v_callV F ml_X8_122 im_X8_tell se_X8_tell in_X8 co_X8_tell sd_X8_tell (c_X8_tell y0 y1 y2 y3 y4 y5 y6 y7 y8 y9 y10 y11 y12 y13 y14 th sd tp n sc sp px py pl pk N M ls lv lx ly (tdA ab (shE pk px py M N ls lv lx ly kc) (fun _ => zL (dDE pk px py M N)) (3 + k)) (tdB bl (shE pk px py M N ls lv lx ly kc) (fun _ => zL (dDE pk px py M N)) (3 + k)) tn (dDE pk px py M N) (cWi pk px py M N ls lv lx ly kc) (cPi pk px py M N ls lv lx ly kc) (cQi pk px py M N ls lv lx ly kc) (3 + k) 0 (zL (dDE pk px py M N)) ⟨G, hsp, P, hM, hls, hlv, hlx, hly, by omega⟩ (by omega) (by decide) (by rw [zL_toInt (by omega) (by omega)]; exact hs2)) ⟨Nat.zero_le _, Nat.zero_le _⟩ (Nat.le_of_ble_eq_true rfl) (Nat.le_of_ble_eq_true rfl) 0 (As := [.int (nI (3 + k)), .long 0, .long (zL (dDE pk px py M N))]) rfl rfl rfl rfl rfl [0, 1, 2, 3, 4, 5, 6, 7, 8, 9, 10, 11, 12, 13, 14] rfl nd15 vnd15 (rest := []) rfl (Nat.le_of_ble_eq_true rfl) dX8_shares_99 (q := 102) rfl (fun r w hr => ?_)
              obtain ⟨rfl, rfl⟩ := hr
              refine v_ws (ws' := [(y0, .inr (8, [.int (nI n), .ref y1, .ref y2, .ref y3, .int sc, .int sp, .int (nI N), .ref y4, .ref y5, .ref y6, .ref y7, .ref y8, .ref y9, .ref y10, .ref y11, .ref y12, .int (nI tn), .ref y13, .ref y14, .long (zL (dDE pk px py M N)), .long (zL (cWi pk px py M N ls lv lx ly kc)), .long (zL (cPi pk px py M N ls lv lx ly kc)), .long (zL (cQi pk px py M N ls lv lx ly kc))])), (y1, .inl (cI, 6, .inl th)), (y2, .inl (cI, 6, .inl sd)), (y3, .inl (cI, 6, .inl tp)), (y4, .inl (cI, 12, .inl px)), (y5, .inl (cI, 12, .inl py)), (y6, .inl (cI, 12, .inl (fun i => nI (pl i)))), (y7, .inl (cI, 12, .inl pk)), (y8, .inl (cZ, 12, .inl (fun i => bI (M.testBit i)))), (y9, .inl (cI, 3, .inl (fun i => nI (ls i)))), (y10, .inl (cI, 18, .inl lv)), (y11, .inl (cI, 18, .inl lx)), (y12, .inl (cI, 18, .inl ly)), (y13, .inl (cJ, 15, .inr (.inl (vp_updL (tdA ab (shE pk px py M N ls lv lx ly kc) (fun _ => zL (dDE pk px py M N)) (3 + k)) (3 + k) (0 / dG 0 (zL (dDE pk px py M N))))))), (y14, .inl (cJ, 15, .inr (.inl (vp_updL (tdB bl (shE pk px py M N ls lv lx ly kc) (fun _ => zL (dDE pk px py M N)) (3 + k)) (3 + k) ((zL (dDE pk px py M N)) / dG 0 (zL (dDE pk px py M N)))))))]) ((wset_wgo (nodup_of nd15) rfl).trans rfl) ?_
              refine v_st (st' := []) rfl ?_
              refine v_iinc F dX8_shares_102 1 rfl (v := nI (k + 1)) (lv' := [(2, .int (nI (k + 1))), (0, .ref y0)]) (nI_1 k) (Nat.le_of_ble_eq_true rfl) rfl (q := 105) rfl ?_
              refine v_goto F dX8_shares_105 (tgt := 65) rfl ?_
              refine v_lv (lv' := [(0, .ref y0), (2, .int (nI (k + 1)))]) [1, 0] rfl ?_
              have hV := ih d (by omega) (k + 1) (by omega)
              rw [tdA_s, tdB_s, shE_k, c83] at hV
              exact hV
            · skip
              rw [bI_nz] at c83
              refine v_aload_n F dX8_shares_86 (i := 0) rfl 0 rfl (q := 87) rfl ?_
              refine v_iload_n F dX8_shares_87 (i := 2) rfl 1 rfl (q := 88) rfl ?_
              refine v_callV F ml_X8_126 im_X8_shareOf se_X8_shareOf in_X8 co_X8_shareOf sd_X8_shareOf (c_X8_shareOf y0 y1 y2 y3 y4 y5 y6 y7 y8 y9 y10 y11 y12 y13 y14 th sd tp n sc sp px py pl pk N M ls lv lx ly (tdA ab (shE pk px py M N ls lv lx ly kc) (fun _ => zL (dDE pk px py M N)) (3 + k)) (tdB bl (shE pk px py M N ls lv lx ly kc) (fun _ => zL (dDE pk px py M N)) (3 + k)) tn (dDE pk px py M N) (cWi pk px py M N ls lv lx ly kc) (cPi pk px py M N ls lv lx ly kc) (cQi pk px py M N ls lv lx ly kc) k ⟨G, hsp, P, hM, hls, hlv, hlx, hly, by omega⟩ (by omega)) ⟨Nat.zero_le _, Nat.zero_le _⟩ (Nat.le_of_ble_eq_true rfl) (Nat.le_of_ble_eq_true rfl) 0 (As := [.int (nI k)]) rfl rfl rfl rfl rfl [0, 1, 2, 3, 4, 5, 6, 7, 8, 9, 10, 11, 12, 13, 14] rfl nd15 vnd15 (rest := [.int (nI (3 + k)), .ref y0]) rfl (Nat.le_of_ble_eq_true rfl) dX8_shares_88 (q := 91) rfl (fun r w hr => ?_)
              obtain ⟨rfl, rfl⟩ := hr
              refine v_ws (ws' := [(y0, .inr (8, [.int (nI n), .ref y1, .ref y2, .ref y3, .int sc, .int sp, .int (nI N), .ref y4, .ref y5, .ref y6, .ref y7, .ref y8, .ref y9, .ref y10, .ref y11, .ref y12, .int (nI tn), .ref y13, .ref y14, .long (zL (dDE pk px py M N)), .long (zL (cWi pk px py M N ls lv lx ly kc)), .long (zL (cPi pk px py M N ls lv lx ly kc)), .long (zL (cQi pk px py M N ls lv lx ly kc))])), (y1, .inl (cI, 6, .inl th)), (y2, .inl (cI, 6, .inl sd)), (y3, .inl (cI, 6, .inl tp)), (y4, .inl (cI, 12, .inl px)), (y5, .inl (cI, 12, .inl py)), (y6, .inl (cI, 12, .inl (fun i => nI (pl i)))), (y7, .inl (cI, 12, .inl pk)), (y8, .inl (cZ, 12, .inl (fun i => bI (M.testBit i)))), (y9, .inl (cI, 3, .inl (fun i => nI (ls i)))), (y10, .inl (cI, 18, .inl lv)), (y11, .inl (cI, 18, .inl lx)), (y12, .inl (cI, 18, .inl ly)), (y13, .inl (cJ, 15, .inr (.inl (tdA ab (shE pk px py M N ls lv lx ly kc) (fun _ => zL (dDE pk px py M N)) (3 + k))))), (y14, .inl (cJ, 15, .inr (.inl (tdB bl (shE pk px py M N ls lv lx ly kc) (fun _ => zL (dDE pk px py M N)) (3 + k)))))]) ((wset_wgo (nodup_of nd15) rfl).trans rfl) ?_
              refine v_st (st' := [.long (zL (shI pk px py (cWi pk px py M N ls lv lx ly kc) (cPi pk px py M N ls lv lx ly kc) (cQi pk px py M N ls lv lx ly kc) k)), .int (nI (3 + k)), .ref y0]) rfl ?_
              refine v_goto F dX8_shares_91 (tgt := 95) rfl ?_
              refine v_aload_n F dX8_shares_95 (i := 0) rfl 0 rfl (q := 96) rfl ?_
              refine gt_X8_98 F dX8_shares_96 0 rfl rfl (q := 99) rfl ?_
              refine v_callV F ml_X8_122 im_X8_tell se_X8_tell in_X8 co_X8_tell sd_X8_tell (c_X8_tell y0 y1 y2 y3 y4 y5 y6 y7 y8 y9 y10 y11 y12 y13 y14 th sd tp n sc sp px py pl pk N M ls lv lx ly (tdA ab (shE pk px py M N ls lv lx ly kc) (fun _ => zL (dDE pk px py M N)) (3 + k)) (tdB bl (shE pk px py M N ls lv lx ly kc) (fun _ => zL (dDE pk px py M N)) (3 + k)) tn (dDE pk px py M N) (cWi pk px py M N ls lv lx ly kc) (cPi pk px py M N ls lv lx ly kc) (cQi pk px py M N ls lv lx ly kc) (3 + k) (zL (shI pk px py (cWi pk px py M N ls lv lx ly kc) (cPi pk px py M N ls lv lx ly kc) (cQi pk px py M N ls lv lx ly kc) k)) (zL (dDE pk px py M N)) ⟨G, hsp, P, hM, hls, hlv, hlx, hly, by omega⟩ (by omega) (by rw [zL_toInt (by omega) (by omega)]; omega) (by rw [zL_toInt (by omega) (by omega)]; exact hs2)) ⟨Nat.zero_le _, Nat.zero_le _⟩ (Nat.le_of_ble_eq_true rfl) (Nat.le_of_ble_eq_true rfl) 0 (As := [.int (nI (3 + k)), .long (zL (shI pk px py (cWi pk px py M N ls lv lx ly kc) (cPi pk px py M N ls lv lx ly kc) (cQi pk px py M N ls lv lx ly kc) k)), .long (zL (dDE pk px py M N))]) rfl rfl rfl rfl rfl [0, 1, 2, 3, 4, 5, 6, 7, 8, 9, 10, 11, 12, 13, 14] rfl nd15 vnd15 (rest := []) rfl (Nat.le_of_ble_eq_true rfl) dX8_shares_99 (q := 102) rfl (fun r w hr => ?_)
              obtain ⟨rfl, rfl⟩ := hr
              refine v_ws (ws' := [(y0, .inr (8, [.int (nI n), .ref y1, .ref y2, .ref y3, .int sc, .int sp, .int (nI N), .ref y4, .ref y5, .ref y6, .ref y7, .ref y8, .ref y9, .ref y10, .ref y11, .ref y12, .int (nI tn), .ref y13, .ref y14, .long (zL (dDE pk px py M N)), .long (zL (cWi pk px py M N ls lv lx ly kc)), .long (zL (cPi pk px py M N ls lv lx ly kc)), .long (zL (cQi pk px py M N ls lv lx ly kc))])), (y1, .inl (cI, 6, .inl th)), (y2, .inl (cI, 6, .inl sd)), (y3, .inl (cI, 6, .inl tp)), (y4, .inl (cI, 12, .inl px)), (y5, .inl (cI, 12, .inl py)), (y6, .inl (cI, 12, .inl (fun i => nI (pl i)))), (y7, .inl (cI, 12, .inl pk)), (y8, .inl (cZ, 12, .inl (fun i => bI (M.testBit i)))), (y9, .inl (cI, 3, .inl (fun i => nI (ls i)))), (y10, .inl (cI, 18, .inl lv)), (y11, .inl (cI, 18, .inl lx)), (y12, .inl (cI, 18, .inl ly)), (y13, .inl (cJ, 15, .inr (.inl (vp_updL (tdA ab (shE pk px py M N ls lv lx ly kc) (fun _ => zL (dDE pk px py M N)) (3 + k)) (3 + k) ((zL (shI pk px py (cWi pk px py M N ls lv lx ly kc) (cPi pk px py M N ls lv lx ly kc) (cQi pk px py M N ls lv lx ly kc) k)) / dG (zL (shI pk px py (cWi pk px py M N ls lv lx ly kc) (cPi pk px py M N ls lv lx ly kc) (cQi pk px py M N ls lv lx ly kc) k)) (zL (dDE pk px py M N))))))), (y14, .inl (cJ, 15, .inr (.inl (vp_updL (tdB bl (shE pk px py M N ls lv lx ly kc) (fun _ => zL (dDE pk px py M N)) (3 + k)) (3 + k) ((zL (dDE pk px py M N)) / dG (zL (shI pk px py (cWi pk px py M N ls lv lx ly kc) (cPi pk px py M N ls lv lx ly kc) (cQi pk px py M N ls lv lx ly kc) k)) (zL (dDE pk px py M N)))))))]) ((wset_wgo (nodup_of nd15) rfl).trans rfl) ?_
              refine v_st (st' := []) rfl ?_
              refine v_iinc F dX8_shares_102 1 rfl (v := nI (k + 1)) (lv' := [(2, .int (nI (k + 1))), (0, .ref y0)]) (nI_1 k) (Nat.le_of_ble_eq_true rfl) rfl (q := 105) rfl ?_
              refine v_goto F dX8_shares_105 (tgt := 65) rfl ?_
              refine v_lv (lv' := [(0, .ref y0), (2, .int (nI (k + 1)))]) [1, 0] rfl ?_
              have hV := ih d (by omega) (k + 1) (by omega)
              rw [tdA_s, tdB_s, shE_k, c83] at hV
              exact hV
        refine v_lv (lv' := [(0, .ref y0), (2, .int 0)]) [1, 0] rfl ?_
        exact L65 N 0 (by omega)
      · exact absurd c18 (by decide)
  · skip
    rw [bI_z] at c4
    refine v_iconst F dX8_shares_7 (v := (-1)) (q := 8) rfl rfl ?_
    exact hE rfl dX8_shares_8 (Nat.zero_le _) (Nat.zero_le _) ⟨(by have hf : fShares c1 (th, sd, tp, n, sc, sp, px, py, pl, pk, N, M, ls, lv, lx, ly, ab, bl, tn) = (-1, (th, sd, tp, n, sc, sp, px, py, pl, pk, N, M, ls, lv, lx, ly, ab, bl, tn)) := (by simp only [fShares]; rw [if_neg (by rw [c4]; simp)]); exact ⟨(wo, si, t1, t2), by rw [hf], by rw [hf]; rfl⟩), Nat.le_of_ble_eq_true rfl⟩

end MO
