section MD
variable {l : Launch} {D : va_G} {cI cJ cZ : ClassId}
set_option maxHeartbeats 4000000 in
set_option maxRecDepth 100000 in
theorem c_X0_standOn (ca : Nat) (h ha hb hc hd : Nat) (px py : Nat → Int32) (pl : Nat → Nat) (pk : Nat → Int32) (N M : Nat) (w1 w2 w3 w4 w5 w6 de cw cp cq : Int) (B : Nat) (P : POK px py pl pk N) (hB : B < 4096) : Ct l D (TY cI cJ cZ) yX0_standOn cX0_standOn 18 (some .boolean) 0 0 0 0 [.ref ca, .int (nI B)] [(ca, .inr (0, [.ref h, .long (zL w1), .long (zL w2), .long (zL w3), .long (zL w4), .long (zL w5), .long (zL w6), .long (zL de), .long (zL cw), .long (zL cp), .long (zL cq)])), (h, .inr (5, [.ref ha, .ref hb, .ref hc, .ref hd, .int (nI M), .int (nI N)])), (ha, .inl (cI, 12, .inl px)), (hb, .inl (cI, 12, .inl py)), (hc, .inl (cI, 12, .inl (fun i => nI (pl i)))), (hd, .inl (cI, 12, .inl pk))] (fun r w => r = some (.int (bI (decide (0 < dDE pk px py B N)))) ∧ w = [(ca, .inr (0, [.ref h, .long (zL (dWW pk px py B N)), .long (zL (dWP pk px py B N)), .long (zL (dWQ pk px py B N)), .long (zL (dPP pk px py B N)), .long (zL (dPQ pk px py B N)), .long (zL (dQQ pk px py B N)), .long (zL (dDE pk px py B N)), .long (zL cw), .long (zL cp), .long (zL cq)])), (h, .inr (5, [.ref ha, .ref hb, .ref hc, .ref hd, .int (nI M), .int (nI N)])), (ha, .inl (cI, 12, .inl px)), (hb, .inl (cI, 12, .inl py)), (hc, .inl (cI, 12, .inl (fun i => nI (pl i)))), (hd, .inl (cI, 12, .inl pk))]) := by
  refine Ct.ofI (ty := .boolean) (by decide) (Nat.le_of_ble_eq_true rfl) ?_
  intro p e s m args below meth c A R Q F hnm hcs0 hE
  refine v_lv (lv' := [(0, .ref ca), (1, .int (nI B))]) [0, 1] rfl ?_
  have hN12 := P.1
  have L20 : ∀ (d k : Nat), k + d = N → V p l e R s m args below meth c D A 18 0 0 Q 20 [(0, .ref ca), (1, .int (nI B)), (2, .long (zL (sm B (fK pk) k))), (4, .long (zL (sm B (fKX pk px) k))), (6, .long (zL (sm B (fKX pk py) k))), (8, .long (zL (sm B (fKXX pk px px) k))), (10, .long (zL (sm B (fKXX pk px py) k))), (12, .long (zL (sm B (fKXX pk py py) k))), (14, .int (nI k))] [] [(ca, .inr (0, [.ref h, .long (zL w1), .long (zL w2), .long (zL w3), .long (zL w4), .long (zL w5), .long (zL w6), .long (zL de), .long (zL cw), .long (zL cp), .long (zL cq)])), (h, .inr (5, [.ref ha, .ref hb, .ref hc, .ref hd, .int (nI M), .int (nI N)])), (ha, .inl (cI, 12, .inl px)), (hb, .inl (cI, 12, .inl py)), (hc, .inl (cI, 12, .inl (fun i => nI (pl i)))), (hd, .inl (cI, 12, .inl pk))] := by
    intro d
    induction d using Nat.strongRecOn with
    | _ d ih => ?_
    intro k hk
    refine v_iload F dX0_standOn_20 8 rfl (q := 22) rfl ?_
    refine v_aload_n F dX0_standOn_22 (i := 0) rfl 0 rfl (q := 23) rfl ?_
    refine gt_X0_13 F dX0_standOn_23 0 rfl rfl (q := 26) rfl ?_
    refine gt_X0_17 F dX0_standOn_26 1 rfl rfl (q := 29) rfl ?_
    refine v_icmp_ge F dX0_standOn_29 (tgt := 168) rfl (q := 32) rfl (fun c29 => ?_) (fun c29 => ?_)
    · skip
      rw [nI_leI (by omega) (by omega)] at c29
      have hkn : k = N := by omega
      subst hkn
      refine v_aload_n F dX0_standOn_168 (i := 0) rfl 0 rfl (q := 169) rfl ?_
      refine v_lload F dX0_standOn_169 5 rfl (q := 171) rfl ?_
      refine v_lload F dX0_standOn_171 7 rfl (q := 173) rfl ?_
      refine v_lmul F dX0_standOn_173 (q := 174) rfl ?_
      refine v_lload F dX0_standOn_174 6 rfl (q := 176) rfl ?_
      refine v_lload F dX0_standOn_176 6 rfl (q := 178) rfl ?_
      refine v_lmul F dX0_standOn_178 (q := 179) rfl ?_
      refine v_lsub F dX0_standOn_179 (q := 180) rfl ?_
      refine v_long (y := zL (dWW pk px py B k)) (by simp only [zL_mul, zL_sub, zL_add]; rfl) ?_
      refine pt_X0_33 F dX0_standOn_180 0 rfl (Nat.le_of_ble_eq_true rfl) (q := 183) rfl ?_
      refine v_ws (ws' := [(ca, .inr (0, [.ref h, .long (zL (dWW pk px py B k)), .long (zL w2), .long (zL w3), .long (zL w4), .long (zL w5), .long (zL w6), .long (zL de), .long (zL cw), .long (zL cp), .long (zL cq)])), (h, .inr (5, [.ref ha, .ref hb, .ref hc, .ref hd, .int (nI M), .int (nI k)])), (ha, .inl (cI, 12, .inl px)), (hb, .inl (cI, 12, .inl py)), (hc, .inl (cI, 12, .inl (fun i => nI (pl i)))), (hd, .inl (cI, 12, .inl pk))]) rfl ?_
      refine v_aload_n F dX0_standOn_183 (i := 0) rfl 0 rfl (q := 184) rfl ?_
      refine v_lload F dX0_standOn_184 4 rfl (q := 186) rfl ?_
      refine v_lload F dX0_standOn_186 6 rfl (q := 188) rfl ?_
      refine v_lmul F dX0_standOn_188 (q := 189) rfl ?_
      refine v_lload F dX0_standOn_189 3 rfl (q := 191) rfl ?_
      refine v_lload F dX0_standOn_191 7 rfl (q := 193) rfl ?_
      refine v_lmul F dX0_standOn_193 (q := 194) rfl ?_
      refine v_lsub F dX0_standOn_194 (q := 195) rfl ?_
      refine v_long (y := zL (dWP pk px py B k)) (by simp only [zL_mul, zL_sub, zL_add]; rfl) ?_
      refine pt_X0_36 F dX0_standOn_195 0 rfl (Nat.le_of_ble_eq_true rfl) (q := 198) rfl ?_
      refine v_ws (ws' := [(ca, .inr (0, [.ref h, .long (zL (dWW pk px py B k)), .long (zL (dWP pk px py B k)), .long (zL w3), .long (zL w4), .long (zL w5), .long (zL w6), .long (zL de), .long (zL cw), .long (zL cp), .long (zL cq)])), (h, .inr (5, [.ref ha, .ref hb, .ref hc, .ref hd, .int (nI M), .int (nI k)])), (ha, .inl (cI, 12, .inl px)), (hb, .inl (cI, 12, .inl py)), (hc, .inl (cI, 12, .inl (fun i => nI (pl i)))), (hd, .inl (cI, 12, .inl pk))]) rfl ?_
      refine v_aload_n F dX0_standOn_198 (i := 0) rfl 0 rfl (q := 199) rfl ?_
      refine v_lload F dX0_standOn_199 3 rfl (q := 201) rfl ?_
      refine v_lload F dX0_standOn_201 6 rfl (q := 203) rfl ?_
      refine v_lmul F dX0_standOn_203 (q := 204) rfl ?_
      refine v_lload F dX0_standOn_204 4 rfl (q := 206) rfl ?_
      refine v_lload F dX0_standOn_206 5 rfl (q := 208) rfl ?_
      refine v_lmul F dX0_standOn_208 (q := 209) rfl ?_
      refine v_lsub F dX0_standOn_209 (q := 210) rfl ?_
      refine v_long (y := zL (dWQ pk px py B k)) (by simp only [zL_mul, zL_sub, zL_add]; rfl) ?_
      refine pt_X0_39 F dX0_standOn_210 0 rfl (Nat.le_of_ble_eq_true rfl) (q := 213) rfl ?_
      refine v_ws (ws' := [(ca, .inr (0, [.ref h, .long (zL (dWW pk px py B k)), .long (zL (dWP pk px py B k)), .long (zL (dWQ pk px py B k)), .long (zL w4), .long (zL w5), .long (zL w6), .long (zL de), .long (zL cw), .long (zL cp), .long (zL cq)])), (h, .inr (5, [.ref ha, .ref hb, .ref hc, .ref hd, .int (nI M), .int (nI k)])), (ha, .inl (cI, 12, .inl px)), (hb, .inl (cI, 12, .inl py)), (hc, .inl (cI, 12, .inl (fun i => nI (pl i)))), (hd, .inl (cI, 12, .inl pk))]) rfl ?_
      refine v_aload_n F dX0_standOn_213 (i := 0) rfl 0 rfl (q := 214) rfl ?_
      refine v_lload_n F dX0_standOn_214 (i := 2) rfl 2 rfl (q := 215) rfl ?_
      refine v_lload F dX0_standOn_215 7 rfl (q := 217) rfl ?_
      refine v_lmul F dX0_standOn_217 (q := 218) rfl ?_
      refine v_lload F dX0_standOn_218 4 rfl (q := 220) rfl ?_
      refine v_lload F dX0_standOn_220 4 rfl (q := 222) rfl ?_
      refine v_lmul F dX0_standOn_222 (q := 223) rfl ?_
      refine v_lsub F dX0_standOn_223 (q := 224) rfl ?_
      refine v_long (y := zL (dPP pk px py B k)) (by simp only [zL_mul, zL_sub, zL_add]; rfl) ?_
      refine pt_X0_42 F dX0_standOn_224 0 rfl (Nat.le_of_ble_eq_true rfl) (q := 227) rfl ?_
      refine v_ws (ws' := [(ca, .inr (0, [.ref h, .long (zL (dWW pk px py B k)), .long (zL (dWP pk px py B k)), .long (zL (dWQ pk px py B k)), .long (zL (dPP pk px py B k)), .long (zL w5), .long (zL w6), .long (zL de), .long (zL cw), .long (zL cp), .long (zL cq)])), (h, .inr (5, [.ref ha, .ref hb, .ref hc, .ref hd, .int (nI M), .int (nI k)])), (ha, .inl (cI, 12, .inl px)), (hb, .inl (cI, 12, .inl py)), (hc, .inl (cI, 12, .inl (fun i => nI (pl i)))), (hd, .inl (cI, 12, .inl pk))]) rfl ?_
      refine v_aload_n F dX0_standOn_227 (i := 0) rfl 0 rfl (q := 228) rfl ?_
      refine v_lload F dX0_standOn_228 3 rfl (q := 230) rfl ?_
      refine v_lload F dX0_standOn_230 4 rfl (q := 232) rfl ?_
      refine v_lmul F dX0_standOn_232 (q := 233) rfl ?_
      refine v_lload_n F dX0_standOn_233 (i := 2) rfl 2 rfl (q := 234) rfl ?_
      refine v_lload F dX0_standOn_234 6 rfl (q := 236) rfl ?_
      refine v_lmul F dX0_standOn_236 (q := 237) rfl ?_
      refine v_lsub F dX0_standOn_237 (q := 238) rfl ?_
      refine v_long (y := zL (dPQ pk px py B k)) (by simp only [zL_mul, zL_sub, zL_add]; rfl) ?_
      refine pt_X0_45 F dX0_standOn_238 0 rfl (Nat.le_of_ble_eq_true rfl) (q := 241) rfl ?_
      refine v_ws (ws' := [(ca, .inr (0, [.ref h, .long (zL (dWW pk px py B k)), .long (zL (dWP pk px py B k)), .long (zL (dWQ pk px py B k)), .long (zL (dPP pk px py B k)), .long (zL (dPQ pk px py B k)), .long (zL w6), .long (zL de), .long (zL cw), .long (zL cp), .long (zL cq)])), (h, .inr (5, [.ref ha, .ref hb, .ref hc, .ref hd, .int (nI M), .int (nI k)])), (ha, .inl (cI, 12, .inl px)), (hb, .inl (cI, 12, .inl py)), (hc, .inl (cI, 12, .inl (fun i => nI (pl i)))), (hd, .inl (cI, 12, .inl pk))]) rfl ?_
      refine v_aload_n F dX0_standOn_241 (i := 0) rfl 0 rfl (q := 242) rfl ?_
      refine v_lload_n F dX0_standOn_242 (i := 2) rfl 2 rfl (q := 243) rfl ?_
      refine v_lload F dX0_standOn_243 5 rfl (q := 245) rfl ?_
      refine v_lmul F dX0_standOn_245 (q := 246) rfl ?_
      refine v_lload F dX0_standOn_246 3 rfl (q := 248) rfl ?_
      refine v_lload F dX0_standOn_248 3 rfl (q := 250) rfl ?_
      refine v_lmul F dX0_standOn_250 (q := 251) rfl ?_
      refine v_lsub F dX0_standOn_251 (q := 252) rfl ?_
      refine v_long (y := zL (dQQ pk px py B k)) (by simp only [zL_mul, zL_sub, zL_add]; rfl) ?_
      refine pt_X0_48 F dX0_standOn_252 0 rfl (Nat.le_of_ble_eq_true rfl) (q := 255) rfl ?_
      refine v_ws (ws' := [(ca, .inr (0, [.ref h, .long (zL (dWW pk px py B k)), .long (zL (dWP pk px py B k)), .long (zL (dWQ pk px py B k)), .long (zL (dPP pk px py B k)), .long (zL (dPQ pk px py B k)), .long (zL (dQQ pk px py B k)), .long (zL de), .long (zL cw), .long (zL cp), .long (zL cq)])), (h, .inr (5, [.ref ha, .ref hb, .ref hc, .ref hd, .int (nI M), .int (nI k)])), (ha, .inl (cI, 12, .inl px)), (hb, .inl (cI, 12, .inl py)), (hc, .inl (cI, 12, .inl (fun i => nI (pl i)))), (hd, .inl (cI, 12, .inl pk))]) rfl ?_
      refine v_aload_n F dX0_standOn_255 (i := 0) rfl 0 rfl (q := 256) rfl ?_
      refine v_lload_n F dX0_standOn_256 (i := 2) rfl 2 rfl (q := 257) rfl ?_
      refine v_aload_n F dX0_standOn_257 (i := 0) rfl 0 rfl (q := 258) rfl ?_
      refine gt_X0_33 F dX0_standOn_258 0 rfl rfl (q := 261) rfl ?_
      refine v_lmul F dX0_standOn_261 (q := 262) rfl ?_
      refine v_lload F dX0_standOn_262 3 rfl (q := 264) rfl ?_
      refine v_aload_n F dX0_standOn_264 (i := 0) rfl 0 rfl (q := 265) rfl ?_
      refine gt_X0_36 F dX0_standOn_265 0 rfl rfl (q := 268) rfl ?_
      refine v_lmul F dX0_standOn_268 (q := 269) rfl ?_
      refine v_ladd F dX0_standOn_269 (q := 270) rfl ?_
      refine v_lload F dX0_standOn_270 4 rfl (q := 272) rfl ?_
      refine v_aload_n F dX0_standOn_272 (i := 0) rfl 0 rfl (q := 273) rfl ?_
      refine gt_X0_39 F dX0_standOn_273 0 rfl rfl (q := 276) rfl ?_
      refine v_lmul F dX0_standOn_276 (q := 277) rfl ?_
      refine v_ladd F dX0_standOn_277 (q := 278) rfl ?_
      refine v_long (y := zL (dDE pk px py B k)) (by simp only [zL_mul, zL_sub, zL_add]; rfl) ?_
      refine pt_X0_7 F dX0_standOn_278 0 rfl (Nat.le_of_ble_eq_true rfl) (q := 281) rfl ?_
      refine v_ws (ws' := [(ca, .inr (0, [.ref h, .long (zL (dWW pk px py B k)), .long (zL (dWP pk px py B k)), .long (zL (dWQ pk px py B k)), .long (zL (dPP pk px py B k)), .long (zL (dPQ pk px py B k)), .long (zL (dQQ pk px py B k)), .long (zL (dDE pk px py B k)), .long (zL cw), .long (zL cp), .long (zL cq)])), (h, .inr (5, [.ref ha, .ref hb, .ref hc, .ref hd, .int (nI M), .int (nI k)])), (ha, .inl (cI, 12, .inl px)), (hb, .inl (cI, 12, .inl py)), (hc, .inl (cI, 12, .inl (fun i => nI (pl i)))), (hd, .inl (cI, 12, .inl pk))]) rfl ?_
      refine v_aload_n F dX0_standOn_281 (i := 0) rfl 0 rfl (q := 282) rfl ?_
      refine gt_X0_7 F dX0_standOn_282 0 rfl rfl (q := 285) rfl ?_
      refine v_lconst F dX0_standOn_285 (v := 0) (q := 286) rfl rfl ?_
      refine v_lcmp_le F dX0_standOn_286 dX0_standOn_287 (tgt := 294) rfl (q := 290) rfl (fun c286 => ?_) (fun c286 => ?_)
      · skip
        refine v_iconst F dX0_standOn_294 (v := 0) (q := 295) rfl rfl ?_
        exact hE rfl dX0_standOn_295 (Nat.zero_le _) (Nat.zero_le _) ⟨⟨by rw [bI_z.mpr (dde_f P c286)], rfl⟩, Nat.le_of_ble_eq_true rfl⟩
      · skip
        refine v_iconst F dX0_standOn_290 (v := 1) (q := 291) rfl rfl ?_
        refine v_goto F dX0_standOn_291 (tgt := 295) rfl ?_
        exact hE rfl dX0_standOn_295 (Nat.zero_le _) (Nat.zero_le _) ⟨⟨by rw [bI_o.mpr (dde_t P c286)], rfl⟩, Nat.le_of_ble_eq_true rfl⟩
    · skip
      rw [nI_leI (by omega) (by omega)] at c29
      obtain ⟨d, rfl⟩ : ∃ d2, d = d2 + 1 := ⟨d - 1, by omega⟩
      have hkn : k < N := by omega
      have q1 := pk2 P hkn
      have q2 := P.2.1 k hkn
      have q3 := P.2.2.1 k hkn
      refine v_iload_n F dX0_standOn_32 (i := 1) rfl 1 rfl (q := 33) rfl ?_
      refine v_iload F dX0_standOn_33 8 rfl (q := 35) rfl ?_
      refine v_ishr F dX0_standOn_35 (q := 36) rfl ?_
      refine v_iconst F dX0_standOn_36 (v := 1) (q := 37) rfl rfl ?_
      refine v_iand F dX0_standOn_37 (q := 38) rfl ?_
      refine v_int (y := bI (B.testBit k)) (sh_bit hB (by omega)) ?_
      refine v_if_eq F dX0_standOn_38 (tgt := 162) rfl (q := 41) rfl (fun c38 => ?_) (fun c38 => ?_)
      · skip
        refine v_iinc F dX0_standOn_162 8 rfl (v := nI (k + 1)) (lv' := [(14, .int (nI (k + 1))), (0, .ref ca), (1, .int (nI B)), (2, .long (zL (sm B (fK pk) k))), (4, .long (zL (sm B (fKX pk px) k))), (6, .long (zL (sm B (fKX pk py) k))), (8, .long (zL (sm B (fKXX pk px px) k))), (10, .long (zL (sm B (fKXX pk px py) k))), (12, .long (zL (sm B (fKXX pk py py) k)))]) (nI_1 k) (Nat.le_of_ble_eq_true rfl) rfl (q := 165) rfl ?_
        refine v_goto F dX0_standOn_165 (tgt := 20) rfl ?_
        refine v_lv (lv' := [(0, .ref ca), (1, .int (nI B)), (2, .long (zL (sm B (fK pk) k))), (4, .long (zL (sm B (fKX pk px) k))), (6, .long (zL (sm B (fKX pk py) k))), (8, .long (zL (sm B (fKXX pk px px) k))), (10, .long (zL (sm B (fKXX pk px py) k))), (12, .long (zL (sm B (fKXX pk py py) k))), (14, .int (nI (k + 1)))]) [1, 2, 3, 4, 5, 6, 7, 8, 0] rfl ?_
        have hV := ih d (by omega) (k + 1) (by omega)
        simp only [sm_f (bI_z.mp c38)] at hV
        exact hV
      · skip
        refine v_aload_n F dX0_standOn_41 (i := 0) rfl 0 rfl (q := 42) rfl ?_
        refine gt_X0_13 F dX0_standOn_42 0 rfl rfl (q := 45) rfl ?_
        refine gt_X0_23 F dX0_standOn_45 1 rfl rfl (q := 48) rfl ?_
        refine v_iload F dX0_standOn_48 8 rfl (q := 50) rfl ?_
        refine v_ialdN F 5 0 rfl rfl (j := k) (by omega) (by decide) dX0_standOn_50 (q := 51) rfl ?_
        refine v_istore F dX0_standOn_51 (lv' := [(15, .int (pk k)), (0, .ref ca), (1, .int (nI B)), (2, .long (zL (sm B (fK pk) k))), (4, .long (zL (sm B (fKX pk px) k))), (6, .long (zL (sm B (fKX pk py) k))), (8, .long (zL (sm B (fKXX pk px px) k))), (10, .long (zL (sm B (fKXX pk px py) k))), (12, .long (zL (sm B (fKXX pk py py) k))), (14, .int (nI k))]) (Nat.le_of_ble_eq_true rfl) rfl (q := 53) rfl ?_
        refine v_iload F dX0_standOn_53 0 rfl (q := 55) rfl ?_
        refine v_aload_n F dX0_standOn_55 (i := 0) rfl 1 rfl (q := 56) rfl ?_
        refine gt_X0_13 F dX0_standOn_56 0 rfl rfl (q := 59) rfl ?_
        refine gt_X0_27 F dX0_standOn_59 1 rfl rfl (q := 62) rfl ?_
        refine v_iload F dX0_standOn_62 9 rfl (q := 64) rfl ?_
        refine v_ialdN F 2 0 rfl rfl (j := k) (by omega) (by decide) dX0_standOn_64 (q := 65) rfl ?_
        refine v_imul F dX0_standOn_65 (q := 66) rfl ?_
        refine v_istore F dX0_standOn_66 (lv' := [(16, .int ((pk k) * (px k))), (15, .int (pk k)), (0, .ref ca), (1, .int (nI B)), (2, .long (zL (sm B (fK pk) k))), (4, .long (zL (sm B (fKX pk px) k))), (6, .long (zL (sm B (fKX pk py) k))), (8, .long (zL (sm B (fKXX pk px px) k))), (10, .long (zL (sm B (fKXX pk px py) k))), (12, .long (zL (sm B (fKXX pk py py) k))), (14, .int (nI k))]) (Nat.le_of_ble_eq_true rfl) rfl (q := 68) rfl ?_
        refine v_iload F dX0_standOn_68 1 rfl (q := 70) rfl ?_
        refine v_aload_n F dX0_standOn_70 (i := 0) rfl 2 rfl (q := 71) rfl ?_
        refine gt_X0_13 F dX0_standOn_71 0 rfl rfl (q := 74) rfl ?_
        refine gt_X0_30 F dX0_standOn_74 1 rfl rfl (q := 77) rfl ?_
        refine v_iload F dX0_standOn_77 10 rfl (q := 79) rfl ?_
        refine v_ialdN F 3 0 rfl rfl (j := k) (by omega) (by decide) dX0_standOn_79 (q := 80) rfl ?_
        refine v_imul F dX0_standOn_80 (q := 81) rfl ?_
        refine v_istore F dX0_standOn_81 (lv' := [(17, .int ((pk k) * (py k))), (16, .int ((pk k) * (px k))), (15, .int (pk k)), (0, .ref ca), (1, .int (nI B)), (2, .long (zL (sm B (fK pk) k))), (4, .long (zL (sm B (fKX pk px) k))), (6, .long (zL (sm B (fKX pk py) k))), (8, .long (zL (sm B (fKXX pk px px) k))), (10, .long (zL (sm B (fKXX pk px py) k))), (12, .long (zL (sm B (fKXX pk py py) k))), (14, .int (nI k))]) (Nat.le_of_ble_eq_true rfl) rfl (q := 83) rfl ?_
        refine v_lload_n F dX0_standOn_83 (i := 2) rfl 5 rfl (q := 84) rfl ?_
        refine v_iload F dX0_standOn_84 2 rfl (q := 86) rfl ?_
        refine v_i2l F dX0_standOn_86 (q := 87) rfl ?_
        refine v_ladd F dX0_standOn_87 (q := 88) rfl ?_
        refine v_long (y := zL (sm B (fK pk) k + (pk k).toInt)) (st_0) ?_
        refine v_lstore_n F dX0_standOn_88 (i := 2) (lv' := [(2, .long (zL (sm B (fK pk) k + (pk k).toInt))), (17, .int ((pk k) * (py k))), (16, .int ((pk k) * (px k))), (15, .int (pk k)), (0, .ref ca), (1, .int (nI B)), (4, .long (zL (sm B (fKX pk px) k))), (6, .long (zL (sm B (fKX pk py) k))), (8, .long (zL (sm B (fKXX pk px px) k))), (10, .long (zL (sm B (fKXX pk px py) k))), (12, .long (zL (sm B (fKXX pk py py) k))), (14, .int (nI k))]) rfl (Nat.le_of_ble_eq_true rfl) rfl (q := 89) rfl ?_
        refine v_lload F dX0_standOn_89 6 rfl (q := 91) rfl ?_
        refine v_iload F dX0_standOn_91 2 rfl (q := 93) rfl ?_
        refine v_i2l F dX0_standOn_93 (q := 94) rfl ?_
        refine v_ladd F dX0_standOn_94 (q := 95) rfl ?_
        refine v_long (y := zL (sm B (fKX pk px) k + (pk k).toInt * (px k).toInt)) (st_1 q1 q2) ?_
        refine v_lstore F dX0_standOn_95 (lv' := [(4, .long (zL (sm B (fKX pk px) k + (pk k).toInt * (px k).toInt))), (2, .long (zL (sm B (fK pk) k + (pk k).toInt))), (17, .int ((pk k) * (py k))), (16, .int ((pk k) * (px k))), (15, .int (pk k)), (0, .ref ca), (1, .int (nI B)), (6, .long (zL (sm B (fKX pk py) k))), (8, .long (zL (sm B (fKXX pk px px) k))), (10, .long (zL (sm B (fKXX pk px py) k))), (12, .long (zL (sm B (fKXX pk py py) k))), (14, .int (nI k))]) (Nat.le_of_ble_eq_true rfl) rfl (q := 97) rfl ?_
        refine v_lload F dX0_standOn_97 7 rfl (q := 99) rfl ?_
        refine v_iload F dX0_standOn_99 2 rfl (q := 101) rfl ?_
        refine v_i2l F dX0_standOn_101 (q := 102) rfl ?_
        refine v_ladd F dX0_standOn_102 (q := 103) rfl ?_
        refine v_long (y := zL (sm B (fKX pk py) k + (pk k).toInt * (py k).toInt)) (st_1 q1 q3) ?_
        refine v_lstore F dX0_standOn_103 (lv' := [(6, .long (zL (sm B (fKX pk py) k + (pk k).toInt * (py k).toInt))), (4, .long (zL (sm B (fKX pk px) k + (pk k).toInt * (px k).toInt))), (2, .long (zL (sm B (fK pk) k + (pk k).toInt))), (17, .int ((pk k) * (py k))), (16, .int ((pk k) * (px k))), (15, .int (pk k)), (0, .ref ca), (1, .int (nI B)), (8, .long (zL (sm B (fKXX pk px px) k))), (10, .long (zL (sm B (fKXX pk px py) k))), (12, .long (zL (sm B (fKXX pk py py) k))), (14, .int (nI k))]) (Nat.le_of_ble_eq_true rfl) rfl (q := 105) rfl ?_
        refine v_lload F dX0_standOn_105 8 rfl (q := 107) rfl ?_
        refine v_iload F dX0_standOn_107 4 rfl (q := 109) rfl ?_
        refine v_aload_n F dX0_standOn_109 (i := 0) rfl 6 rfl (q := 110) rfl ?_
        refine gt_X0_13 F dX0_standOn_110 0 rfl rfl (q := 113) rfl ?_
        refine gt_X0_27 F dX0_standOn_113 1 rfl rfl (q := 116) rfl ?_
        refine v_iload F dX0_standOn_116 11 rfl (q := 118) rfl ?_
        refine v_ialdN F 2 0 rfl rfl (j := k) (by omega) (by decide) dX0_standOn_118 (q := 119) rfl ?_
        refine v_imul F dX0_standOn_119 (q := 120) rfl ?_
        refine v_i2l F dX0_standOn_120 (q := 121) rfl ?_
        refine v_ladd F dX0_standOn_121 (q := 122) rfl ?_
        refine v_long (y := zL (sm B (fKXX pk px px) k + (pk k).toInt * (px k).toInt * (px k).toInt)) (st_2 q1 q2 q2) ?_
        refine v_lstore F dX0_standOn_122 (lv' := [(8, .long (zL (sm B (fKXX pk px px) k + (pk k).toInt * (px k).toInt * (px k).toInt))), (6, .long (zL (sm B (fKX pk py) k + (pk k).toInt * (py k).toInt))), (4, .long (zL (sm B (fKX pk px) k + (pk k).toInt * (px k).toInt))), (2, .long (zL (sm B (fK pk) k + (pk k).toInt))), (17, .int ((pk k) * (py k))), (16, .int ((pk k) * (px k))), (15, .int (pk k)), (0, .ref ca), (1, .int (nI B)), (10, .long (zL (sm B (fKXX pk px py) k))), (12, .long (zL (sm B (fKXX pk py py) k))), (14, .int (nI k))]) (Nat.le_of_ble_eq_true rfl) rfl (q := 124) rfl ?_
        refine v_lload F dX0_standOn_124 9 rfl (q := 126) rfl ?_
        refine v_iload F dX0_standOn_126 5 rfl (q := 128) rfl ?_
        refine v_aload_n F dX0_standOn_128 (i := 0) rfl 7 rfl (q := 129) rfl ?_
        refine gt_X0_13 F dX0_standOn_129 0 rfl rfl (q := 132) rfl ?_
        refine gt_X0_30 F dX0_standOn_132 1 rfl rfl (q := 135) rfl ?_
        refine v_iload F dX0_standOn_135 11 rfl (q := 137) rfl ?_
        refine v_ialdN F 3 0 rfl rfl (j := k) (by omega) (by decide) dX0_standOn_137 (q := 138) rfl ?_
        refine v_imul F dX0_standOn_138 (q := 139) rfl ?_
        refine v_i2l F dX0_standOn_139 (q := 140) rfl ?_
        refine v_ladd F dX0_standOn_140 (q := 141) rfl ?_
        refine v_long (y := zL (sm B (fKXX pk px py) k + (pk k).toInt * (px k).toInt * (py k).toInt)) (st_2 q1 q2 q3) ?_
        refine v_lstore F dX0_standOn_141 (lv' := [(10, .long (zL (sm B (fKXX pk px py) k + (pk k).toInt * (px k).toInt * (py k).toInt))), (8, .long (zL (sm B (fKXX pk px px) k + (pk k).toInt * (px k).toInt * (px k).toInt))), (6, .long (zL (sm B (fKX pk py) k + (pk k).toInt * (py k).toInt))), (4, .long (zL (sm B (fKX pk px) k + (pk k).toInt * (px k).toInt))), (2, .long (zL (sm B (fK pk) k + (pk k).toInt))), (17, .int ((pk k) * (py k))), (16, .int ((pk k) * (px k))), (15, .int (pk k)), (0, .ref ca), (1, .int (nI B)), (12, .long (zL (sm B (fKXX pk py py) k))), (14, .int (nI k))]) (Nat.le_of_ble_eq_true rfl) rfl (q := 143) rfl ?_
        refine v_lload F dX0_standOn_143 10 rfl (q := 145) rfl ?_
        refine v_iload F dX0_standOn_145 5 rfl (q := 147) rfl ?_
        refine v_aload_n F dX0_standOn_147 (i := 0) rfl 8 rfl (q := 148) rfl ?_
        refine gt_X0_13 F dX0_standOn_148 0 rfl rfl (q := 151) rfl ?_
        refine gt_X0_30 F dX0_standOn_151 1 rfl rfl (q := 154) rfl ?_
        refine v_iload F dX0_standOn_154 11 rfl (q := 156) rfl ?_
        refine v_ialdN F 3 0 rfl rfl (j := k) (by omega) (by decide) dX0_standOn_156 (q := 157) rfl ?_
        refine v_imul F dX0_standOn_157 (q := 158) rfl ?_
        refine v_i2l F dX0_standOn_158 (q := 159) rfl ?_
        refine v_ladd F dX0_standOn_159 (q := 160) rfl ?_
        refine v_long (y := zL (sm B (fKXX pk py py) k + (pk k).toInt * (py k).toInt * (py k).toInt)) (st_2 q1 q3 q3) ?_
        refine v_lstore F dX0_standOn_160 (lv' := [(12, .long (zL (sm B (fKXX pk py py) k + (pk k).toInt * (py k).toInt * (py k).toInt))), (10, .long (zL (sm B (fKXX pk px py) k + (pk k).toInt * (px k).toInt * (py k).toInt))), (8, .long (zL (sm B (fKXX pk px px) k + (pk k).toInt * (px k).toInt * (px k).toInt))), (6, .long (zL (sm B (fKX pk py) k + (pk k).toInt * (py k).toInt))), (4, .long (zL (sm B (fKX pk px) k + (pk k).toInt * (px k).toInt))), (2, .long (zL (sm B (fK pk) k + (pk k).toInt))), (17, .int ((pk k) * (py k))), (16, .int ((pk k) * (px k))), (15, .int (pk k)), (0, .ref ca), (1, .int (nI B)), (14, .int (nI k))]) (Nat.le_of_ble_eq_true rfl) rfl (q := 162) rfl ?_
        refine v_iinc F dX0_standOn_162 11 rfl (v := nI (k + 1)) (lv' := [(14, .int (nI (k + 1))), (12, .long (zL (sm B (fKXX pk py py) k + (pk k).toInt * (py k).toInt * (py k).toInt))), (10, .long (zL (sm B (fKXX pk px py) k + (pk k).toInt * (px k).toInt * (py k).toInt))), (8, .long (zL (sm B (fKXX pk px px) k + (pk k).toInt * (px k).toInt * (px k).toInt))), (6, .long (zL (sm B (fKX pk py) k + (pk k).toInt * (py k).toInt))), (4, .long (zL (sm B (fKX pk px) k + (pk k).toInt * (px k).toInt))), (2, .long (zL (sm B (fK pk) k + (pk k).toInt))), (17, .int ((pk k) * (py k))), (16, .int ((pk k) * (px k))), (15, .int (pk k)), (0, .ref ca), (1, .int (nI B))]) (nI_1 k) (Nat.le_of_ble_eq_true rfl) rfl (q := 165) rfl ?_
        refine v_goto F dX0_standOn_165 (tgt := 20) rfl ?_
        refine v_lv (lv' := [(0, .ref ca), (1, .int (nI B)), (2, .long (zL (sm B (fK pk) k + (pk k).toInt))), (4, .long (zL (sm B (fKX pk px) k + (pk k).toInt * (px k).toInt))), (6, .long (zL (sm B (fKX pk py) k + (pk k).toInt * (py k).toInt))), (8, .long (zL (sm B (fKXX pk px px) k + (pk k).toInt * (px k).toInt * (px k).toInt))), (10, .long (zL (sm B (fKXX pk px py) k + (pk k).toInt * (px k).toInt * (py k).toInt))), (12, .long (zL (sm B (fKXX pk py py) k + (pk k).toInt * (py k).toInt * (py k).toInt))), (14, .int (nI (k + 1)))]) [10, 11, 6, 5, 4, 3, 2, 1, 0] rfl ?_
        have hV := ih d (by omega) (k + 1) (by omega)
        simp only [sm_t (bI_nz.mp c38)] at hV
        exact hV
  refine v_lconst F dX0_standOn_0 (v := 0) (q := 1) rfl rfl ?_
  refine v_lstore_n F dX0_standOn_1 (i := 2) (lv' := [(2, .long 0), (0, .ref ca), (1, .int (nI B))]) rfl (Nat.le_of_ble_eq_true rfl) rfl (q := 2) rfl ?_
  refine v_lconst F dX0_standOn_2 (v := 0) (q := 3) rfl rfl ?_
  refine v_lstore F dX0_standOn_3 (lv' := [(4, .long 0), (2, .long 0), (0, .ref ca), (1, .int (nI B))]) (Nat.le_of_ble_eq_true rfl) rfl (q := 5) rfl ?_
  refine v_lconst F dX0_standOn_5 (v := 0) (q := 6) rfl rfl ?_
  refine v_lstore F dX0_standOn_6 (lv' := [(6, .long 0), (4, .long 0), (2, .long 0), (0, .ref ca), (1, .int (nI B))]) (Nat.le_of_ble_eq_true rfl) rfl (q := 8) rfl ?_
  refine v_lconst F dX0_standOn_8 (v := 0) (q := 9) rfl rfl ?_
  refine v_lstore F dX0_standOn_9 (lv' := [(8, .long 0), (6, .long 0), (4, .long 0), (2, .long 0), (0, .ref ca), (1, .int (nI B))]) (Nat.le_of_ble_eq_true rfl) rfl (q := 11) rfl ?_
  refine v_lconst F dX0_standOn_11 (v := 0) (q := 12) rfl rfl ?_
  refine v_lstore F dX0_standOn_12 (lv' := [(10, .long 0), (8, .long 0), (6, .long 0), (4, .long 0), (2, .long 0), (0, .ref ca), (1, .int (nI B))]) (Nat.le_of_ble_eq_true rfl) rfl (q := 14) rfl ?_
  refine v_lconst F dX0_standOn_14 (v := 0) (q := 15) rfl rfl ?_
  refine v_lstore F dX0_standOn_15 (lv' := [(12, .long 0), (10, .long 0), (8, .long 0), (6, .long 0), (4, .long 0), (2, .long 0), (0, .ref ca), (1, .int (nI B))]) (Nat.le_of_ble_eq_true rfl) rfl (q := 17) rfl ?_
  refine v_iconst F dX0_standOn_17 (v := 0) (q := 18) rfl rfl ?_
  refine v_istore F dX0_standOn_18 (lv' := [(14, .int 0), (12, .long 0), (10, .long 0), (8, .long 0), (6, .long 0), (4, .long 0), (2, .long 0), (0, .ref ca), (1, .int (nI B))]) (Nat.le_of_ble_eq_true rfl) rfl (q := 20) rfl ?_
  refine v_lv (lv' := [(0, .ref ca), (1, .int (nI B)), (2, .long 0), (4, .long 0), (6, .long 0), (8, .long 0), (10, .long 0), (12, .long 0), (14, .int 0)]) [7, 8, 6, 5, 4, 3, 2, 1, 0] rfl ?_
  exact L20 N 0 (by omega)

set_option maxHeartbeats 4000000 in
set_option maxRecDepth 100000 in
theorem c_X0_take (ca : Nat) (h : Nat) (o oa ob oc od : Nat) (ls : Nat → Nat) (fo tx ty : Nat → Int) (w1 w2 w3 w4 w5 w6 de cw cp cq : Int) (k : Nat) (hk : k < 3) : Ct l D (TY cI cJ cZ) yX0_take cX0_take 9 none 0 0 0 0 [.ref ca, .ref o, .int (nI k)] [(ca, .inr (0, [.ref h, .long (zL w1), .long (zL w2), .long (zL w3), .long (zL w4), .long (zL w5), .long (zL w6), .long (zL de), .long (zL cw), .long (zL cp), .long (zL cq)])), (o, .inr (4, [.ref oa, .ref ob, .ref oc, .ref od])), (oa, .inl (cI, 3, .inl (fun i => nI (ls i)))), (ob, .inl (cJ, 3, .inr (.inl (fun i => zL (fo i))))), (oc, .inl (cJ, 3, .inr (.inl (fun i => zL (tx i))))), (od, .inl (cJ, 3, .inr (.inl (fun i => zL (ty i)))))] (fun r w => r = none ∧ w = [(ca, .inr (0, [.ref h, .long (zL w1), .long (zL w2), .long (zL w3), .long (zL w4), .long (zL w5), .long (zL w6), .long (zL de), .long (zL (w1 * fo k + w2 * tx k + w3 * ty k)), .long (zL (w2 * fo k + w4 * tx k + w5 * ty k)), .long (zL (w3 * fo k + w5 * tx k + w6 * ty k))])), (o, .inr (4, [.ref oa, .ref ob, .ref oc, .ref od])), (oa, .inl (cI, 3, .inl (fun i => nI (ls i)))), (ob, .inl (cJ, 3, .inr (.inl (fun i => zL (fo i))))), (oc, .inl (cJ, 3, .inr (.inl (fun i => zL (tx i))))), (od, .inl (cJ, 3, .inr (.inl (fun i => zL (ty i)))))]) := by
  refine Ct.ofV (by decide) (Nat.le_of_ble_eq_true rfl) ?_
  intro p e s m args below meth c A R Q F hnm hcs0 hE
  refine v_lv (lv' := [(0, .ref ca), (1, .ref o), (2, .int (nI k))]) [0, 1, 2] rfl ?_
  refine v_aload_n F dX0_take_0 (i := 1) rfl 1 rfl (q := 1) rfl ?_
  refine gt_X0_51 F dX0_take_1 1 rfl rfl (q := 4) rfl ?_
  refine v_iload_n F dX0_take_4 (i := 2) rfl 2 rfl (q := 5) rfl ?_
  refine v_laldN F 3 1 rfl rfl (j := k) (by omega) (by decide) dX0_take_5 (q := 6) rfl ?_
  refine v_st (st' := [.long (zL (fo k))]) rfl ?_
  refine v_lstore_n F dX0_take_6 (i := 3) (lv' := [(3, .long (zL (fo k))), (0, .ref ca), (1, .ref o), (2, .int (nI k))]) rfl (Nat.le_of_ble_eq_true rfl) rfl (q := 7) rfl ?_
  refine v_aload_n F dX0_take_7 (i := 1) rfl 2 rfl (q := 8) rfl ?_
  refine gt_X0_57 F dX0_take_8 1 rfl rfl (q := 11) rfl ?_
  refine v_iload_n F dX0_take_11 (i := 2) rfl 3 rfl (q := 12) rfl ?_
  refine v_laldN F 4 1 rfl rfl (j := k) (by omega) (by decide) dX0_take_12 (q := 13) rfl ?_
  refine v_st (st' := [.long (zL (tx k))]) rfl ?_
  refine v_lstore F dX0_take_13 (lv' := [(5, .long (zL (tx k))), (3, .long (zL (fo k))), (0, .ref ca), (1, .ref o), (2, .int (nI k))]) (Nat.le_of_ble_eq_true rfl) rfl (q := 15) rfl ?_
  refine v_aload_n F dX0_take_15 (i := 1) rfl 3 rfl (q := 16) rfl ?_
  refine gt_X0_60 F dX0_take_16 1 rfl rfl (q := 19) rfl ?_
  refine v_iload_n F dX0_take_19 (i := 2) rfl 4 rfl (q := 20) rfl ?_
  refine v_laldN F 5 1 rfl rfl (j := k) (by omega) (by decide) dX0_take_20 (q := 21) rfl ?_
  refine v_st (st' := [.long (zL (ty k))]) rfl ?_
  refine v_lstore F dX0_take_21 (lv' := [(7, .long (zL (ty k))), (5, .long (zL (tx k))), (3, .long (zL (fo k))), (0, .ref ca), (1, .ref o), (2, .int (nI k))]) (Nat.le_of_ble_eq_true rfl) rfl (q := 23) rfl ?_
  refine v_aload_n F dX0_take_23 (i := 0) rfl 3 rfl (q := 24) rfl ?_
  refine v_aload_n F dX0_take_24 (i := 0) rfl 3 rfl (q := 25) rfl ?_
  refine gt_X0_33 F dX0_take_25 0 rfl rfl (q := 28) rfl ?_
  refine v_lload_n F dX0_take_28 (i := 3) rfl 2 rfl (q := 29) rfl ?_
  refine v_lmul F dX0_take_29 (q := 30) rfl ?_
  refine v_aload_n F dX0_take_30 (i := 0) rfl 3 rfl (q := 31) rfl ?_
  refine gt_X0_36 F dX0_take_31 0 rfl rfl (q := 34) rfl ?_
  refine v_lload F dX0_take_34 1 rfl (q := 36) rfl ?_
  refine v_lmul F dX0_take_36 (q := 37) rfl ?_
  refine v_ladd F dX0_take_37 (q := 38) rfl ?_
  refine v_aload_n F dX0_take_38 (i := 0) rfl 3 rfl (q := 39) rfl ?_
  refine gt_X0_39 F dX0_take_39 0 rfl rfl (q := 42) rfl ?_
  refine v_lload F dX0_take_42 0 rfl (q := 44) rfl ?_
  refine v_lmul F dX0_take_44 (q := 45) rfl ?_
  refine v_ladd F dX0_take_45 (q := 46) rfl ?_
  refine v_long (y := zL (w1 * fo k + w2 * tx k + w3 * ty k)) (by simp only [zL_mul, zL_add]) ?_
  refine pt_X0_63 F dX0_take_46 0 rfl (Nat.le_of_ble_eq_true rfl) (q := 49) rfl ?_
  refine v_ws (ws' := [(ca, .inr (0, [.ref h, .long (zL w1), .long (zL w2), .long (zL w3), .long (zL w4), .long (zL w5), .long (zL w6), .long (zL de), .long (zL (w1 * fo k + w2 * tx k + w3 * ty k)), .long (zL cp), .long (zL cq)])), (o, .inr (4, [.ref oa, .ref ob, .ref oc, .ref od])), (oa, .inl (cI, 3, .inl (fun i => nI (ls i)))), (ob, .inl (cJ, 3, .inr (.inl (fun i => zL (fo i))))), (oc, .inl (cJ, 3, .inr (.inl (fun i => zL (tx i))))), (od, .inl (cJ, 3, .inr (.inl (fun i => zL (ty i)))))]) rfl ?_
  refine v_aload_n F dX0_take_49 (i := 0) rfl 3 rfl (q := 50) rfl ?_
  refine v_aload_n F dX0_take_50 (i := 0) rfl 3 rfl (q := 51) rfl ?_
  refine gt_X0_36 F dX0_take_51 0 rfl rfl (q := 54) rfl ?_
  refine v_lload_n F dX0_take_54 (i := 3) rfl 2 rfl (q := 55) rfl ?_
  refine v_lmul F dX0_take_55 (q := 56) rfl ?_
  refine v_aload_n F dX0_take_56 (i := 0) rfl 3 rfl (q := 57) rfl ?_
  refine gt_X0_42 F dX0_take_57 0 rfl rfl (q := 60) rfl ?_
  refine v_lload F dX0_take_60 1 rfl (q := 62) rfl ?_
  refine v_lmul F dX0_take_62 (q := 63) rfl ?_
  refine v_ladd F dX0_take_63 (q := 64) rfl ?_
  refine v_aload_n F dX0_take_64 (i := 0) rfl 3 rfl (q := 65) rfl ?_
  refine gt_X0_45 F dX0_take_65 0 rfl rfl (q := 68) rfl ?_
  refine v_lload F dX0_take_68 0 rfl (q := 70) rfl ?_
  refine v_lmul F dX0_take_70 (q := 71) rfl ?_
  refine v_ladd F dX0_take_71 (q := 72) rfl ?_
  refine v_long (y := zL (w2 * fo k + w4 * tx k + w5 * ty k)) (by simp only [zL_mul, zL_add]) ?_
  refine pt_X0_66 F dX0_take_72 0 rfl (Nat.le_of_ble_eq_true rfl) (q := 75) rfl ?_
  refine v_ws (ws' := [(ca, .inr (0, [.ref h, .long (zL w1), .long (zL w2), .long (zL w3), .long (zL w4), .long (zL w5), .long (zL w6), .long (zL de), .long (zL (w1 * fo k + w2 * tx k + w3 * ty k)), .long (zL (w2 * fo k + w4 * tx k + w5 * ty k)), .long (zL cq)])), (o, .inr (4, [.ref oa, .ref ob, .ref oc, .ref od])), (oa, .inl (cI, 3, .inl (fun i => nI (ls i)))), (ob, .inl (cJ, 3, .inr (.inl (fun i => zL (fo i))))), (oc, .inl (cJ, 3, .inr (.inl (fun i => zL (tx i))))), (od, .inl (cJ, 3, .inr (.inl (fun i => zL (ty i)))))]) rfl ?_
  refine v_aload_n F dX0_take_75 (i := 0) rfl 3 rfl (q := 76) rfl ?_
  refine v_aload_n F dX0_take_76 (i := 0) rfl 3 rfl (q := 77) rfl ?_
  refine gt_X0_39 F dX0_take_77 0 rfl rfl (q := 80) rfl ?_
  refine v_lload_n F dX0_take_80 (i := 3) rfl 2 rfl (q := 81) rfl ?_
  refine v_lmul F dX0_take_81 (q := 82) rfl ?_
  refine v_aload_n F dX0_take_82 (i := 0) rfl 3 rfl (q := 83) rfl ?_
  refine gt_X0_45 F dX0_take_83 0 rfl rfl (q := 86) rfl ?_
  refine v_lload F dX0_take_86 1 rfl (q := 88) rfl ?_
  refine v_lmul F dX0_take_88 (q := 89) rfl ?_
  refine v_ladd F dX0_take_89 (q := 90) rfl ?_
  refine v_aload_n F dX0_take_90 (i := 0) rfl 3 rfl (q := 91) rfl ?_
  refine gt_X0_48 F dX0_take_91 0 rfl rfl (q := 94) rfl ?_
  refine v_lload F dX0_take_94 0 rfl (q := 96) rfl ?_
  refine v_lmul F dX0_take_96 (q := 97) rfl ?_
  refine v_ladd F dX0_take_97 (q := 98) rfl ?_
  refine v_long (y := zL (w3 * fo k + w5 * tx k + w6 * ty k)) (by simp only [zL_mul, zL_add]) ?_
  refine pt_X0_69 F dX0_take_98 0 rfl (Nat.le_of_ble_eq_true rfl) (q := 101) rfl ?_
  refine v_ws (ws' := [(ca, .inr (0, [.ref h, .long (zL w1), .long (zL w2), .long (zL w3), .long (zL w4), .long (zL w5), .long (zL w6), .long (zL de), .long (zL (w1 * fo k + w2 * tx k + w3 * ty k)), .long (zL (w2 * fo k + w4 * tx k + w5 * ty k)), .long (zL (w3 * fo k + w5 * tx k + w6 * ty k))])), (o, .inr (4, [.ref oa, .ref ob, .ref oc, .ref od])), (oa, .inl (cI, 3, .inl (fun i => nI (ls i)))), (ob, .inl (cJ, 3, .inr (.inl (fun i => zL (fo i))))), (oc, .inl (cJ, 3, .inr (.inl (fun i => zL (tx i))))), (od, .inl (cJ, 3, .inr (.inl (fun i => zL (ty i)))))]) rfl ?_
  exact hE dX0_take_101 (Nat.zero_le _) (Nat.zero_le _) ⟨⟨rfl, rfl⟩, Nat.le_of_ble_eq_true rfl⟩

set_option maxHeartbeats 4000000 in
set_option maxRecDepth 100000 in
theorem c_X0_share (ca : Nat) (h ha hb hc hd : Nat) (px py : Nat → Int32) (pl : Nat → Nat) (pk : Nat → Int32) (N M : Nat) (w1 w2 w3 w4 w5 w6 de cw cp cq : Int) (k : Nat) (hk : k < 12) : Ct l D (TY cI cJ cZ) yX0_share cX0_share 2 (some .long) 0 0 0 0 [.ref ca, .int (nI k)] [(ca, .inr (0, [.ref h, .long (zL w1), .long (zL w2), .long (zL w3), .long (zL w4), .long (zL w5), .long (zL w6), .long (zL de), .long (zL cw), .long (zL cp), .long (zL cq)])), (h, .inr (5, [.ref ha, .ref hb, .ref hc, .ref hd, .int (nI M), .int (nI N)])), (ha, .inl (cI, 12, .inl px)), (hb, .inl (cI, 12, .inl py)), (hc, .inl (cI, 12, .inl (fun i => nI (pl i)))), (hd, .inl (cI, 12, .inl pk))] (fun r w => r = some (.long (zL (shI pk px py cw cp cq k))) ∧ w = [(ca, .inr (0, [.ref h, .long (zL w1), .long (zL w2), .long (zL w3), .long (zL w4), .long (zL w5), .long (zL w6), .long (zL de), .long (zL cw), .long (zL cp), .long (zL cq)])), (h, .inr (5, [.ref ha, .ref hb, .ref hc, .ref hd, .int (nI M), .int (nI N)])), (ha, .inl (cI, 12, .inl px)), (hb, .inl (cI, 12, .inl py)), (hc, .inl (cI, 12, .inl (fun i => nI (pl i)))), (hd, .inl (cI, 12, .inl pk))]) := by
  refine Ct.ofL (by decide) (Nat.le_of_ble_eq_true rfl) ?_
  intro p e s m args below meth c A R Q F hnm hcs0 hE
  refine v_lv (lv' := [(0, .ref ca), (1, .int (nI k))]) [0, 1] rfl ?_
  refine v_aload_n F dX0_share_0 (i := 0) rfl 0 rfl (q := 1) rfl ?_
  refine gt_X0_13 F dX0_share_1 0 rfl rfl (q := 4) rfl ?_
  refine gt_X0_23 F dX0_share_4 1 rfl rfl (q := 7) rfl ?_
  refine v_iload_n F dX0_share_7 (i := 1) rfl 1 rfl (q := 8) rfl ?_
  refine v_ialdN F 5 0 rfl rfl (j := k) (by omega) (by decide) dX0_share_8 (q := 9) rfl ?_
  refine v_i2l F dX0_share_9 (q := 10) rfl ?_
  refine v_aload_n F dX0_share_10 (i := 0) rfl 0 rfl (q := 11) rfl ?_
  refine gt_X0_63 F dX0_share_11 0 rfl rfl (q := 14) rfl ?_
  refine v_aload_n F dX0_share_14 (i := 0) rfl 0 rfl (q := 15) rfl ?_
  refine gt_X0_66 F dX0_share_15 0 rfl rfl (q := 18) rfl ?_
  refine v_aload_n F dX0_share_18 (i := 0) rfl 0 rfl (q := 19) rfl ?_
  refine gt_X0_13 F dX0_share_19 0 rfl rfl (q := 22) rfl ?_
  refine gt_X0_27 F dX0_share_22 1 rfl rfl (q := 25) rfl ?_
  refine v_iload_n F dX0_share_25 (i := 1) rfl 1 rfl (q := 26) rfl ?_
  refine v_ialdN F 2 0 rfl rfl (j := k) (by omega) (by decide) dX0_share_26 (q := 27) rfl ?_
  refine v_i2l F dX0_share_27 (q := 28) rfl ?_
  refine v_lmul F dX0_share_28 (q := 29) rfl ?_
  refine v_ladd F dX0_share_29 (q := 30) rfl ?_
  refine v_aload_n F dX0_share_30 (i := 0) rfl 0 rfl (q := 31) rfl ?_
  refine gt_X0_69 F dX0_share_31 0 rfl rfl (q := 34) rfl ?_
  refine v_aload_n F dX0_share_34 (i := 0) rfl 0 rfl (q := 35) rfl ?_
  refine gt_X0_13 F dX0_share_35 0 rfl rfl (q := 38) rfl ?_
  refine gt_X0_30 F dX0_share_38 1 rfl rfl (q := 41) rfl ?_
  refine v_iload_n F dX0_share_41 (i := 1) rfl 1 rfl (q := 42) rfl ?_
  refine v_ialdN F 3 0 rfl rfl (j := k) (by omega) (by decide) dX0_share_42 (q := 43) rfl ?_
  refine v_i2l F dX0_share_43 (q := 44) rfl ?_
  refine v_lmul F dX0_share_44 (q := 45) rfl ?_
  refine v_ladd F dX0_share_45 (q := 46) rfl ?_
  refine v_lmul F dX0_share_46 (q := 47) rfl ?_
  refine v_long (y := zL (shI pk px py cw cp cq k)) (by simp only [i2l_as, zL_mul, zL_add]; rfl) ?_
  exact hE dX0_share_47 (Nat.zero_le _) (Nat.zero_le _) ⟨⟨rfl, rfl⟩, Nat.le_of_ble_eq_true rfl⟩

set_option maxHeartbeats 4000000 in
set_option maxRecDepth 100000 in
theorem c_X3_measure (m0 ma mb mc : Nat) (pu be nr : Nat → Int32) (g ga gb gc : Nat) (th sd tp : Nat → Int32) (n : Nat) (sc : Int32) (h ha hb hc hd : Nat) (px py : Nat → Int32) (pl : Nat → Nat) (pk : Nat → Int32) (N M : Nat) (G : GOK th sd tp n sc) (P : POK px py pl pk N) : Ct l D (TY cI cJ cZ) yX3_measure cX3_measure 4 none 3 66 0 0 [.ref m0, .ref g, .ref h] [(m0, .inr (3, [.ref ma, .ref mb, .ref mc])), (ma, .inl (cI, 12, .inl pu)), (mb, .inl (cI, 12, .inl be)), (mc, .inl (cI, 12, .inl nr)), (g, .inr (2, [.ref ga, .ref gb, .ref gc, .int (nI n), .int sc])), (ga, .inl (cI, 6, .inl th)), (gb, .inl (cI, 6, .inl sd)), (gc, .inl (cI, 6, .inl tp)), (h, .inr (5, [.ref ha, .ref hb, .ref hc, .ref hd, .int (nI M), .int (nI N)])), (ha, .inl (cI, 12, .inl px)), (hb, .inl (cI, 12, .inl py)), (hc, .inl (cI, 12, .inl (fun i => nI (pl i)))), (hd, .inl (cI, 12, .inl pk))] (fun r w => r = none ∧ w = [(m0, .inr (3, [.ref ma, .ref mb, .ref mc])), (ma, .inl (cI, 12, .inl (fil (fun i => zI (gPU th sd n sc (pl i))) pu N))), (mb, .inl (cI, 12, .inl (fil (fun i => zI (gBE th sd tp n sc (pl i))) be N))), (mc, .inl (cI, 12, .inl nr)), (g, .inr (2, [.ref ga, .ref gb, .ref gc, .int (nI n), .int sc])), (ga, .inl (cI, 6, .inl th)), (gb, .inl (cI, 6, .inl sd)), (gc, .inl (cI, 6, .inl tp)), (h, .inr (5, [.ref ha, .ref hb, .ref hc, .ref hd, .int (nI M), .int (nI N)])), (ha, .inl (cI, 12, .inl px)), (hb, .inl (cI, 12, .inl py)), (hc, .inl (cI, 12, .inl (fun i => nI (pl i)))), (hd, .inl (cI, 12, .inl pk))]) := by
  refine Ct.ofV (by decide) (Nat.le_of_ble_eq_true rfl) ?_
  intro p e s m args below meth c A R Q F hnm hcs0 hE
  refine v_lv (lv' := [(0, .ref m0), (1, .ref g), (2, .ref h)]) [0, 1, 2] rfl ?_
  have hN12 := P.1
  have L2 : ∀ (d k : Nat), k + d = N → V p l e R s m args below meth c D A 4 0 0 Q 2 [(0, .ref m0), (1, .ref g), (2, .ref h), (3, .int (nI k))] [] [(m0, .inr (3, [.ref ma, .ref mb, .ref mc])), (ma, .inl (cI, 12, .inl (fil (fun i => zI (gPU th sd n sc (pl i))) pu k))), (mb, .inl (cI, 12, .inl (fil (fun i => zI (gBE th sd tp n sc (pl i))) be k))), (mc, .inl (cI, 12, .inl nr)), (g, .inr (2, [.ref ga, .ref gb, .ref gc, .int (nI n), .int sc])), (ga, .inl (cI, 6, .inl th)), (gb, .inl (cI, 6, .inl sd)), (gc, .inl (cI, 6, .inl tp)), (h, .inr (5, [.ref ha, .ref hb, .ref hc, .ref hd, .int (nI M), .int (nI N)])), (ha, .inl (cI, 12, .inl px)), (hb, .inl (cI, 12, .inl py)), (hc, .inl (cI, 12, .inl (fun i => nI (pl i)))), (hd, .inl (cI, 12, .inl pk))] := by
    intro d
    induction d using Nat.strongRecOn with
    | _ d ih => ?_
    intro k hk
    refine v_iload_n F dX3_measure_2 (i := 3) rfl 3 rfl (q := 3) rfl ?_
    refine v_aload_n F dX3_measure_3 (i := 2) rfl 2 rfl (q := 4) rfl ?_
    refine gt_X3_21 F dX3_measure_4 8 rfl rfl (q := 7) rfl ?_
    refine v_icmp_ge F dX3_measure_7 (tgt := 48) rfl (q := 10) rfl (fun c7 => ?_) (fun c7 => ?_)
    · skip
      rw [nI_leI (by omega) (by omega)] at c7
      have hkn : k = N := by omega
      subst hkn
      exact hE dX3_measure_48 (Nat.zero_le _) (Nat.zero_le _) ⟨⟨rfl, rfl⟩, Nat.le_of_ble_eq_true rfl⟩
    · skip
      rw [nI_leI (by omega) (by omega)] at c7
      obtain ⟨d, rfl⟩ : ∃ d2, d = d2 + 1 := ⟨d - 1, by omega⟩
      have hkn : k < N := by omega
      have hpl := P.2.2.2.1 k hkn
      refine v_aload_n F dX3_measure_10 (i := 0) rfl 0 rfl (q := 11) rfl ?_
      refine gt_X3_9 F dX3_measure_11 0 rfl rfl (q := 14) rfl ?_
      refine v_iload_n F dX3_measure_14 (i := 3) rfl 3 rfl (q := 15) rfl ?_
      refine v_aload_n F dX3_measure_15 (i := 1) rfl 1 rfl (q := 16) rfl ?_
      refine v_aload_n F dX3_measure_16 (i := 2) rfl 2 rfl (q := 17) rfl ?_
      refine gt_X3_27 F dX3_measure_17 8 rfl rfl (q := 20) rfl ?_
      refine v_iload_n F dX3_measure_20 (i := 3) rfl 3 rfl (q := 21) rfl ?_
      refine v_ialdN F 11 0 rfl rfl (j := k) (by omega) (by decide) dX3_measure_21 (q := 22) rfl ?_
      refine v_st (st' := [.int (nI (pl k)), .ref g, .int (nI k), .ref ma]) rfl ?_
      refine v_callVN F ml_X3_30 im_X2_pullOf se_X2_pullOf in_X2 co_X2_pullOf sd_X2_pullOf (c_X2_pullOf g ga gb gc th sd tp n sc (pl k) G (by omega)) ⟨Nat.zero_le _, Nat.zero_le _⟩ (Nat.le_of_ble_eq_true rfl) (Nat.le_of_ble_eq_true rfl) 4 (As := [.int (nI (pl k))]) rfl rfl rfl rfl rfl [4, 5, 6, 7] rfl rfl rfl (rest := [.int (nI k), .ref ma]) rfl (Nat.le_of_ble_eq_true rfl) dX3_measure_22 (q := 25) rfl (fun r w hr => ?_)
      obtain ⟨rfl, rfl⟩ := hr
      refine v_ws (ws' := [(m0, .inr (3, [.ref ma, .ref mb, .ref mc])), (ma, .inl (cI, 12, .inl (fil (fun i => zI (gPU th sd n sc (pl i))) pu k))), (mb, .inl (cI, 12, .inl (fil (fun i => zI (gBE th sd tp n sc (pl i))) be k))), (mc, .inl (cI, 12, .inl nr)), (g, .inr (2, [.ref ga, .ref gb, .ref gc, .int (nI n), .int sc])), (ga, .inl (cI, 6, .inl th)), (gb, .inl (cI, 6, .inl sd)), (gc, .inl (cI, 6, .inl tp)), (h, .inr (5, [.ref ha, .ref hb, .ref hc, .ref hd, .int (nI M), .int (nI N)])), (ha, .inl (cI, 12, .inl px)), (hb, .inl (cI, 12, .inl py)), (hc, .inl (cI, 12, .inl (fun i => nI (pl i)))), (hd, .inl (cI, 12, .inl pk))]) rfl ?_
      refine v_st (st' := [.int (zI (gPU th sd n sc (pl k))), .int (nI k), .ref ma]) rfl ?_
      refine v_iastN F 1 0 rfl rfl (j := k) (by omega) (by decide) dX3_measure_25 (q := 26) rfl ?_
      refine v_ws (ws' := [(m0, .inr (3, [.ref ma, .ref mb, .ref mc])), (ma, .inl (cI, 12, .inl (upd (fil (fun i => zI (gPU th sd n sc (pl i))) pu k) k (zI (gPU th sd n sc (pl k)))))), (mb, .inl (cI, 12, .inl (fil (fun i => zI (gBE th sd tp n sc (pl i))) be k))), (mc, .inl (cI, 12, .inl nr)), (g, .inr (2, [.ref ga, .ref gb, .ref gc, .int (nI n), .int sc])), (ga, .inl (cI, 6, .inl th)), (gb, .inl (cI, 6, .inl sd)), (gc, .inl (cI, 6, .inl tp)), (h, .inr (5, [.ref ha, .ref hb, .ref hc, .ref hd, .int (nI M), .int (nI N)])), (ha, .inl (cI, 12, .inl px)), (hb, .inl (cI, 12, .inl py)), (hc, .inl (cI, 12, .inl (fun i => nI (pl i)))), (hd, .inl (cI, 12, .inl pk))]) rfl ?_
      refine v_aload_n F dX3_measure_26 (i := 0) rfl 0 rfl (q := 27) rfl ?_
      refine gt_X3_15 F dX3_measure_27 0 rfl rfl (q := 30) rfl ?_
      refine v_iload_n F dX3_measure_30 (i := 3) rfl 3 rfl (q := 31) rfl ?_
      refine v_aload_n F dX3_measure_31 (i := 1) rfl 1 rfl (q := 32) rfl ?_
      refine v_aload_n F dX3_measure_32 (i := 2) rfl 2 rfl (q := 33) rfl ?_
      refine gt_X3_27 F dX3_measure_33 8 rfl rfl (q := 36) rfl ?_
      refine v_iload_n F dX3_measure_36 (i := 3) rfl 3 rfl (q := 37) rfl ?_
      refine v_ialdN F 11 0 rfl rfl (j := k) (by omega) (by decide) dX3_measure_37 (q := 38) rfl ?_
      refine v_st (st' := [.int (nI (pl k)), .ref g, .int (nI k), .ref mb]) rfl ?_
      refine v_callVN F ml_X3_36 im_X2_bearingOf se_X2_bearingOf in_X2 co_X2_bearingOf sd_X2_bearingOf (c_X2_bearingOf g ga gb gc th sd tp n sc (pl k) G (by omega)) ⟨Nat.zero_le _, Nat.zero_le _⟩ (Nat.le_of_ble_eq_true rfl) (Nat.le_of_ble_eq_true rfl) 4 (As := [.int (nI (pl k))]) rfl rfl rfl rfl rfl [4, 5, 6, 7] rfl rfl rfl (rest := [.int (nI k), .ref mb]) rfl (Nat.le_of_ble_eq_true rfl) dX3_measure_38 (q := 41) rfl (fun r w hr => ?_)
      obtain ⟨rfl, rfl⟩ := hr
      refine v_ws (ws' := [(m0, .inr (3, [.ref ma, .ref mb, .ref mc])), (ma, .inl (cI, 12, .inl (upd (fil (fun i => zI (gPU th sd n sc (pl i))) pu k) k (zI (gPU th sd n sc (pl k)))))), (mb, .inl (cI, 12, .inl (fil (fun i => zI (gBE th sd tp n sc (pl i))) be k))), (mc, .inl (cI, 12, .inl nr)), (g, .inr (2, [.ref ga, .ref gb, .ref gc, .int (nI n), .int sc])), (ga, .inl (cI, 6, .inl th)), (gb, .inl (cI, 6, .inl sd)), (gc, .inl (cI, 6, .inl tp)), (h, .inr (5, [.ref ha, .ref hb, .ref hc, .ref hd, .int (nI M), .int (nI N)])), (ha, .inl (cI, 12, .inl px)), (hb, .inl (cI, 12, .inl py)), (hc, .inl (cI, 12, .inl (fun i => nI (pl i)))), (hd, .inl (cI, 12, .inl pk))]) rfl ?_
      refine v_st (st' := [.int (zI (gBE th sd tp n sc (pl k))), .int (nI k), .ref mb]) rfl ?_
      refine v_iastN F 2 0 rfl rfl (j := k) (by omega) (by decide) dX3_measure_41 (q := 42) rfl ?_
      refine v_ws (ws' := [(m0, .inr (3, [.ref ma, .ref mb, .ref mc])), (ma, .inl (cI, 12, .inl (upd (fil (fun i => zI (gPU th sd n sc (pl i))) pu k) k (zI (gPU th sd n sc (pl k)))))), (mb, .inl (cI, 12, .inl (upd (fil (fun i => zI (gBE th sd tp n sc (pl i))) be k) k (zI (gBE th sd tp n sc (pl k)))))), (mc, .inl (cI, 12, .inl nr)), (g, .inr (2, [.ref ga, .ref gb, .ref gc, .int (nI n), .int sc])), (ga, .inl (cI, 6, .inl th)), (gb, .inl (cI, 6, .inl sd)), (gc, .inl (cI, 6, .inl tp)), (h, .inr (5, [.ref ha, .ref hb, .ref hc, .ref hd, .int (nI M), .int (nI N)])), (ha, .inl (cI, 12, .inl px)), (hb, .inl (cI, 12, .inl py)), (hc, .inl (cI, 12, .inl (fun i => nI (pl i)))), (hd, .inl (cI, 12, .inl pk))]) rfl ?_
      refine v_iinc F dX3_measure_42 3 rfl (v := nI (k + 1)) (lv' := [(3, .int (nI (k + 1))), (0, .ref m0), (1, .ref g), (2, .ref h)]) (nI_1 k) (Nat.le_of_ble_eq_true rfl) rfl (q := 45) rfl ?_
      refine v_goto F dX3_measure_45 (tgt := 2) rfl ?_
      refine v_lv (lv' := [(0, .ref m0), (1, .ref g), (2, .ref h), (3, .int (nI (k + 1)))]) [1, 2, 3, 0] rfl ?_
      have hV := ih d (by omega) (k + 1) (by omega)
      rw [← fil_s, ← fil_s] at hV
      exact hV
  refine v_iconst F dX3_measure_0 (v := 0) (q := 1) rfl rfl ?_
  refine v_istore_n F dX3_measure_1 (i := 3) (lv' := [(3, .int 0), (0, .ref m0), (1, .ref g), (2, .ref h)]) rfl (Nat.le_of_ble_eq_true rfl) rfl (q := 2) rfl ?_
  refine v_lv (lv' := [(0, .ref m0), (1, .ref g), (2, .ref h), (3, .int 0)]) [1, 2, 3, 0] rfl ?_
  have hV := L2 N 0 (by omega)
  rw [fil_0, fil_0] at hV
  exact hV

set_option maxHeartbeats 4000000 in
set_option maxRecDepth 100000 in
theorem c_X3_measureSpacing (m0 ma mb mc : Nat) (pu be nr : Nat → Int32) (h ha hb hc hd : Nat) (px py : Nat → Int32) (pl : Nat → Nat) (pk : Nat → Int32) (N M : Nat) (sp : Int32) (P : POK px py pl pk N) (hs : 0 ≤ sp.toInt ∧ sp.toInt ≤ 40) : Ct l D (TY cI cJ cZ) yX3_measureSpacing cX3_measureSpacing 7 none 0 0 0 0 [.ref m0, .ref h, .int sp] [(m0, .inr (3, [.ref ma, .ref mb, .ref mc])), (ma, .inl (cI, 12, .inl pu)), (mb, .inl (cI, 12, .inl be)), (mc, .inl (cI, 12, .inl nr)), (h, .inr (5, [.ref ha, .ref hb, .ref hc, .ref hd, .int (nI M), .int (nI N)])), (ha, .inl (cI, 12, .inl px)), (hb, .inl (cI, 12, .inl py)), (hc, .inl (cI, 12, .inl (fun i => nI (pl i)))), (hd, .inl (cI, 12, .inl pk))] (fun r w => r = none ∧ w = [(m0, .inr (3, [.ref ma, .ref mb, .ref mc])), (ma, .inl (cI, 12, .inl pu)), (mb, .inl (cI, 12, .inl be)), (mc, .inl (cI, 12, .inl (fil (fun i => nI (nrM px py sp i N)) nr N))), (h, .inr (5, [.ref ha, .ref hb, .ref hc, .ref hd, .int (nI M), .int (nI N)])), (ha, .inl (cI, 12, .inl px)), (hb, .inl (cI, 12, .inl py)), (hc, .inl (cI, 12, .inl (fun i => nI (pl i)))), (hd, .inl (cI, 12, .inl pk))]) := by
  refine Ct.ofV (by decide) (Nat.le_of_ble_eq_true rfl) ?_
  intro p e s m args below meth c A R Q F hnm hcs0 hE
  refine v_lv (lv' := [(0, .ref m0), (1, .ref h), (2, .int sp)]) [0, 1, 2] rfl ?_
  have hN12 := P.1
  have L2 : ∀ (d k : Nat), k + d = N → V p l e R s m args below meth c D A 7 0 0 Q 2 [(0, .ref m0), (1, .ref h), (2, .int sp), (3, .int (nI k))] [] [(m0, .inr (3, [.ref ma, .ref mb, .ref mc])), (ma, .inl (cI, 12, .inl pu)), (mb, .inl (cI, 12, .inl be)), (mc, .inl (cI, 12, .inl (fil (fun i => nI (nrM px py sp i N)) nr k))), (h, .inr (5, [.ref ha, .ref hb, .ref hc, .ref hd, .int (nI M), .int (nI N)])), (ha, .inl (cI, 12, .inl px)), (hb, .inl (cI, 12, .inl py)), (hc, .inl (cI, 12, .inl (fun i => nI (pl i)))), (hd, .inl (cI, 12, .inl pk))] := by
    intro d
    induction d using Nat.strongRecOn with
    | _ d ih => ?_
    intro k hk
    refine v_iload_n F dX3_measureSpacing_2 (i := 3) rfl 3 rfl (q := 3) rfl ?_
    refine v_aload_n F dX3_measureSpacing_3 (i := 1) rfl 1 rfl (q := 4) rfl ?_
    refine gt_X3_21 F dX3_measureSpacing_4 4 rfl rfl (q := 7) rfl ?_
    refine v_icmp_ge F dX3_measureSpacing_7 (tgt := 109) rfl (q := 10) rfl (fun c7 => ?_) (fun c7 => ?_)
    · skip
      rw [nI_leI (by omega) (by omega)] at c7
      have hkn : k = N := by omega
      subst hkn
      exact hE dX3_measureSpacing_109 (Nat.zero_le _) (Nat.zero_le _) ⟨⟨rfl, rfl⟩, Nat.le_of_ble_eq_true rfl⟩
    · skip
      rw [nI_leI (by omega) (by omega)] at c7
      obtain ⟨d, rfl⟩ : ∃ d2, d = d2 + 1 := ⟨d - 1, by omega⟩
      have hkn : k < N := by omega
      refine v_aload_n F dX3_measureSpacing_10 (i := 0) rfl 0 rfl (q := 11) rfl ?_
      refine gt_X3_18 F dX3_measureSpacing_11 0 rfl rfl (q := 14) rfl ?_
      refine v_iload_n F dX3_measureSpacing_14 (i := 3) rfl 3 rfl (q := 15) rfl ?_
      refine v_iconst F dX3_measureSpacing_15 (v := 0) (q := 16) rfl rfl ?_
      refine v_iastN F 3 0 rfl rfl (j := k) (by omega) (by decide) dX3_measureSpacing_16 (q := 17) rfl ?_
      refine v_ws (ws' := [(m0, .inr (3, [.ref ma, .ref mb, .ref mc])), (ma, .inl (cI, 12, .inl pu)), (mb, .inl (cI, 12, .inl be)), (mc, .inl (cI, 12, .inl (upd (fil (fun i => nI (nrM px py sp i N)) nr k) k 0))), (h, .inr (5, [.ref ha, .ref hb, .ref hc, .ref hd, .int (nI M), .int (nI N)])), (ha, .inl (cI, 12, .inl px)), (hb, .inl (cI, 12, .inl py)), (hc, .inl (cI, 12, .inl (fun i => nI (pl i)))), (hd, .inl (cI, 12, .inl pk))]) rfl ?_
      refine v_iconst F dX3_measureSpacing_17 (v := 0) (q := 18) rfl rfl ?_
      refine v_istore F dX3_measureSpacing_18 (lv' := [(4, .int 0), (0, .ref m0), (1, .ref h), (2, .int sp), (3, .int (nI k))]) (Nat.le_of_ble_eq_true rfl) rfl (q := 20) rfl ?_
      have L20 : ∀ (d2 j : Nat), j + d2 = N → V p l e R s m args below meth c D A 7 0 0 Q 20 [(0, .ref m0), (1, .ref h), (2, .int sp), (3, .int (nI k)), (4, .int (nI j))] [] [(m0, .inr (3, [.ref ma, .ref mb, .ref mc])), (ma, .inl (cI, 12, .inl pu)), (mb, .inl (cI, 12, .inl be)), (mc, .inl (cI, 12, .inl (upd (fil (fun i => nI (nrM px py sp i N)) nr k) k (nI (nrM px py sp k j))))), (h, .inr (5, [.ref ha, .ref hb, .ref hc, .ref hd, .int (nI M), .int (nI N)])), (ha, .inl (cI, 12, .inl px)), (hb, .inl (cI, 12, .inl py)), (hc, .inl (cI, 12, .inl (fun i => nI (pl i)))), (hd, .inl (cI, 12, .inl pk))] := by
        intro d2
        induction d2 using Nat.strongRecOn with
        | _ d2 ih2 => ?_
        intro j hj
        refine v_iload F dX3_measureSpacing_20 4 rfl (q := 22) rfl ?_
        refine v_aload_n F dX3_measureSpacing_22 (i := 1) rfl 1 rfl (q := 23) rfl ?_
        refine gt_X3_21 F dX3_measureSpacing_23 4 rfl rfl (q := 26) rfl ?_
        refine v_icmp_ge F dX3_measureSpacing_26 (tgt := 103) rfl (q := 29) rfl (fun c26 => ?_) (fun c26 => ?_)
        · skip
          rw [nI_leI (by omega) (by omega)] at c26
          have hjn : j = N := by omega
          subst hjn
          refine v_iinc F dX3_measureSpacing_103 3 rfl (v := nI (k + 1)) (lv' := [(3, .int (nI (k + 1))), (0, .ref m0), (1, .ref h), (2, .int sp), (4, .int (nI j))]) (nI_1 k) (Nat.le_of_ble_eq_true rfl) rfl (q := 106) rfl ?_
          refine v_goto F dX3_measureSpacing_106 (tgt := 2) rfl ?_
          refine v_lv (lv' := [(0, .ref m0), (1, .ref h), (2, .int sp), (3, .int (nI (k + 1)))]) [1, 2, 3, 0] rfl ?_
          have hV := ih d (by omega) (k + 1) (by omega)
          rw [← fil_s] at hV
          exact hV
        · skip
          rw [nI_leI (by omega) (by omega)] at c26
          obtain ⟨d2, rfl⟩ : ∃ d3, d2 = d3 + 1 := ⟨d2 - 1, by omega⟩
          have hjn : j < N := by omega
          refine v_aload_n F dX3_measureSpacing_29 (i := 1) rfl 1 rfl (q := 30) rfl ?_
          refine gt_X3_39 F dX3_measureSpacing_30 4 rfl rfl (q := 33) rfl ?_
          refine v_iload_n F dX3_measureSpacing_33 (i := 3) rfl 3 rfl (q := 34) rfl ?_
          refine v_ialdN F 5 0 rfl rfl (j := k) (by omega) (by decide) dX3_measureSpacing_34 (q := 35) rfl ?_
          refine v_aload_n F dX3_measureSpacing_35 (i := 1) rfl 1 rfl (q := 36) rfl ?_
          refine gt_X3_39 F dX3_measureSpacing_36 4 rfl rfl (q := 39) rfl ?_
          refine v_iload F dX3_measureSpacing_39 4 rfl (q := 41) rfl ?_
          refine v_ialdN F 5 0 rfl rfl (j := j) (by omega) (by decide) dX3_measureSpacing_41 (q := 42) rfl ?_
          refine v_isub F dX3_measureSpacing_42 (q := 43) rfl ?_
          refine v_istore F dX3_measureSpacing_43 (lv' := [(5, .int ((px k) - (px j))), (0, .ref m0), (1, .ref h), (2, .int sp), (3, .int (nI k)), (4, .int (nI j))]) (Nat.le_of_ble_eq_true rfl) rfl (q := 45) rfl ?_
          refine v_aload_n F dX3_measureSpacing_45 (i := 1) rfl 2 rfl (q := 46) rfl ?_
          refine gt_X3_42 F dX3_measureSpacing_46 4 rfl rfl (q := 49) rfl ?_
          refine v_iload_n F dX3_measureSpacing_49 (i := 3) rfl 4 rfl (q := 50) rfl ?_
          refine v_ialdN F 6 0 rfl rfl (j := k) (by omega) (by decide) dX3_measureSpacing_50 (q := 51) rfl ?_
          refine v_aload_n F dX3_measureSpacing_51 (i := 1) rfl 2 rfl (q := 52) rfl ?_
          refine gt_X3_42 F dX3_measureSpacing_52 4 rfl rfl (q := 55) rfl ?_
          refine v_iload F dX3_measureSpacing_55 5 rfl (q := 57) rfl ?_
          refine v_ialdN F 6 0 rfl rfl (j := j) (by omega) (by decide) dX3_measureSpacing_57 (q := 58) rfl ?_
          refine v_isub F dX3_measureSpacing_58 (q := 59) rfl ?_
          refine v_istore F dX3_measureSpacing_59 (lv' := [(6, .int ((py k) - (py j))), (5, .int ((px k) - (px j))), (0, .ref m0), (1, .ref h), (2, .int sp), (3, .int (nI k)), (4, .int (nI j))]) (Nat.le_of_ble_eq_true rfl) rfl (q := 61) rfl ?_
          refine v_iload_n F dX3_measureSpacing_61 (i := 3) rfl 5 rfl (q := 62) rfl ?_
          refine v_iload F dX3_measureSpacing_62 6 rfl (q := 64) rfl ?_
          refine v_icmp_eq F dX3_measureSpacing_64 (tgt := 97) rfl (q := 67) rfl (fun c64 => ?_) (fun c64 => ?_)
          · skip
            rw [nI_eq (by omega) (by omega)] at c64
            have hnf := near_same (px := px) (py := py) (sp := sp) c64
            refine v_iinc F dX3_measureSpacing_97 6 rfl (v := nI (j + 1)) (lv' := [(4, .int (nI (j + 1))), (6, .int ((py k) - (py j))), (5, .int ((px k) - (px j))), (0, .ref m0), (1, .ref h), (2, .int sp), (3, .int (nI k))]) (nI_1 j) (Nat.le_of_ble_eq_true rfl) rfl (q := 100) rfl ?_
            refine v_goto F dX3_measureSpacing_100 (tgt := 20) rfl ?_
            refine v_lv (lv' := [(0, .ref m0), (1, .ref h), (2, .int sp), (3, .int (nI k)), (4, .int (nI (j + 1)))]) [3, 4, 5, 6, 0] rfl ?_
            have hV := ih2 d2 (by omega) (j + 1) (by omega)
            rw [nrM_f hnf] at hV
            exact hV
          · skip
            rw [nI_eq (by omega) (by omega)] at c64
            refine v_iload F dX3_measureSpacing_67 1 rfl (q := 69) rfl ?_
            refine v_iload F dX3_measureSpacing_69 1 rfl (q := 71) rfl ?_
            refine v_imul F dX3_measureSpacing_71 (q := 72) rfl ?_
            refine v_iload F dX3_measureSpacing_72 0 rfl (q := 74) rfl ?_
            refine v_iload F dX3_measureSpacing_74 0 rfl (q := 76) rfl ?_
            refine v_imul F dX3_measureSpacing_76 (q := 77) rfl ?_
            refine v_iadd F dX3_measureSpacing_77 (q := 78) rfl ?_
            refine v_iload_n F dX3_measureSpacing_78 (i := 2) rfl 4 rfl (q := 79) rfl ?_
            refine v_iload_n F dX3_measureSpacing_79 (i := 2) rfl 4 rfl (q := 80) rfl ?_
            refine v_imul F dX3_measureSpacing_80 (q := 81) rfl ?_
            refine v_icmp_ge F dX3_measureSpacing_81 (tgt := 97) rfl (q := 84) rfl (fun c81 => ?_) (fun c81 => ?_)
            · skip
              have hnf := (near_iff P hs hkn hjn c64).mp c81
              refine v_iinc F dX3_measureSpacing_97 6 rfl (v := nI (j + 1)) (lv' := [(4, .int (nI (j + 1))), (6, .int ((py k) - (py j))), (5, .int ((px k) - (px j))), (0, .ref m0), (1, .ref h), (2, .int sp), (3, .int (nI k))]) (nI_1 j) (Nat.le_of_ble_eq_true rfl) rfl (q := 100) rfl ?_
              refine v_goto F dX3_measureSpacing_100 (tgt := 20) rfl ?_
              refine v_lv (lv' := [(0, .ref m0), (1, .ref h), (2, .int sp), (3, .int (nI k)), (4, .int (nI (j + 1)))]) [3, 4, 5, 6, 0] rfl ?_
              have hV := ih2 d2 (by omega) (j + 1) (by omega)
              rw [nrM_f hnf] at hV
              exact hV
            · skip
              have hnt : tooNear px py sp k j = true := Bool.not_eq_false _ |>.mp (fun z => c81 ((near_iff P hs hkn hjn c64).mpr z))
              refine v_aload_n F dX3_measureSpacing_84 (i := 0) rfl 2 rfl (q := 85) rfl ?_
              refine gt_X3_18 F dX3_measureSpacing_85 0 rfl rfl (q := 88) rfl ?_
              refine v_iload_n F dX3_measureSpacing_88 (i := 3) rfl 5 rfl (q := 89) rfl ?_
              refine v_dup2_11 F dX3_measureSpacing_89 rfl rfl (q := 90) rfl ?_
              refine v_ialdN F 3 0 rfl rfl (j := k) (by omega) (by decide) dX3_measureSpacing_90 (q := 91) rfl ?_
              refine v_int (y := nI (nrM px py sp k j)) (pk_us) ?_
              refine v_iconst F dX3_measureSpacing_91 (v := 1) (q := 92) rfl rfl ?_
              refine v_iload F dX3_measureSpacing_92 6 rfl (q := 94) rfl ?_
              refine v_ishl F dX3_measureSpacing_94 (q := 95) rfl ?_
              refine v_ior F dX3_measureSpacing_95 (q := 96) rfl ?_
              refine v_int (y := nI (nrM px py sp k j ||| 2 ^ j)) (ms_or (by omega)) ?_
              refine v_iastN F 3 0 rfl rfl (j := k) (by omega) (by decide) dX3_measureSpacing_96 (q := 97) rfl ?_
              refine v_ws (ws' := [(m0, .inr (3, [.ref ma, .ref mb, .ref mc])), (ma, .inl (cI, 12, .inl pu)), (mb, .inl (cI, 12, .inl be)), (mc, .inl (cI, 12, .inl (upd (upd (fil (fun i => nI (nrM px py sp i N)) nr k) k (nI (nrM px py sp k j))) k (nI (nrM px py sp k j ||| 2 ^ j))))), (h, .inr (5, [.ref ha, .ref hb, .ref hc, .ref hd, .int (nI M), .int (nI N)])), (ha, .inl (cI, 12, .inl px)), (hb, .inl (cI, 12, .inl py)), (hc, .inl (cI, 12, .inl (fun i => nI (pl i)))), (hd, .inl (cI, 12, .inl pk))]) rfl ?_
              refine v_iinc F dX3_measureSpacing_97 6 rfl (v := nI (j + 1)) (lv' := [(4, .int (nI (j + 1))), (6, .int ((py k) - (py j))), (5, .int ((px k) - (px j))), (0, .ref m0), (1, .ref h), (2, .int sp), (3, .int (nI k))]) (nI_1 j) (Nat.le_of_ble_eq_true rfl) rfl (q := 100) rfl ?_
              refine v_goto F dX3_measureSpacing_100 (tgt := 20) rfl ?_
              refine v_lv (lv' := [(0, .ref m0), (1, .ref h), (2, .int sp), (3, .int (nI k)), (4, .int (nI (j + 1)))]) [3, 4, 5, 6, 0] rfl ?_
              have hV := ih2 d2 (by omega) (j + 1) (by omega)
              rw [nrM_t hnt, ← upd2 _ _ (nI (nrM px py sp k j)) _] at hV
              exact hV
      refine v_lv (lv' := [(0, .ref m0), (1, .ref h), (2, .int sp), (3, .int (nI k)), (4, .int 0)]) [1, 2, 3, 4, 0] rfl ?_
      exact L20 N 0 (by omega)
  refine v_iconst F dX3_measureSpacing_0 (v := 0) (q := 1) rfl rfl ?_
  refine v_istore_n F dX3_measureSpacing_1 (i := 3) (lv' := [(3, .int 0), (0, .ref m0), (1, .ref h), (2, .int sp)]) rfl (Nat.le_of_ble_eq_true rfl) rfl (q := 2) rfl ?_
  refine v_lv (lv' := [(0, .ref m0), (1, .ref h), (2, .int sp), (3, .int 0)]) [1, 2, 3, 0] rfl ?_
  have hV := L2 N 0 (by omega)
  rw [fil_0] at hV
  exact hV

set_option maxHeartbeats 4000000 in
set_option maxRecDepth 100000 in
theorem c_X3_against (m0 ma mb mc : Nat) (pu be nr : Nat → Int32) (k : Nat) (sh : Int64) (hk : k < 12) : Ct l D (TY cI cJ cZ) yX3_against cX3_against 4 (some .long) 0 0 0 0 [.ref m0, .int (nI k), .long sh] [(m0, .inr (3, [.ref ma, .ref mb, .ref mc])), (ma, .inl (cI, 12, .inl pu)), (mb, .inl (cI, 12, .inl be)), (mc, .inl (cI, 12, .inl nr))] (fun r w => r = some (.long ((if 0 < sh then be k else pu k).toInt64)) ∧ w = [(m0, .inr (3, [.ref ma, .ref mb, .ref mc])), (ma, .inl (cI, 12, .inl pu)), (mb, .inl (cI, 12, .inl be)), (mc, .inl (cI, 12, .inl nr))]) := by
  refine Ct.ofL (by decide) (Nat.le_of_ble_eq_true rfl) ?_
  intro p e s m args below meth c A R Q F hnm hcs0 hE
  refine v_lv (lv' := [(0, .ref m0), (1, .int (nI k)), (2, .long sh)]) [0, 1, 2] rfl ?_
  refine v_lload_n F dX3_against_0 (i := 2) rfl 2 rfl (q := 1) rfl ?_
  refine v_lconst F dX3_against_1 (v := 0) (q := 2) rfl rfl ?_
  refine v_lcmp_le F dX3_against_2 dX3_against_3 (tgt := 16) rfl (q := 6) rfl (fun c2 => ?_) (fun c2 => ?_)
  · skip
    refine v_aload_n F dX3_against_16 (i := 0) rfl 0 rfl (q := 17) rfl ?_
    refine gt_X3_9 F dX3_against_17 0 rfl rfl (q := 20) rfl ?_
    refine v_iload_n F dX3_against_20 (i := 1) rfl 1 rfl (q := 21) rfl ?_
    refine v_ialdN F 1 0 rfl rfl (j := k) (by omega) (by decide) dX3_against_21 (q := 22) rfl ?_
    refine v_i2l F dX3_against_22 (q := 23) rfl ?_
    exact hE dX3_against_23 (Nat.zero_le _) (Nat.zero_le _) ⟨⟨by rw [if_neg (i64_nlt.mpr c2)], rfl⟩, Nat.le_of_ble_eq_true rfl⟩
  · skip
    refine v_aload_n F dX3_against_6 (i := 0) rfl 0 rfl (q := 7) rfl ?_
    refine gt_X3_15 F dX3_against_7 0 rfl rfl (q := 10) rfl ?_
    refine v_iload_n F dX3_against_10 (i := 1) rfl 1 rfl (q := 11) rfl ?_
    refine v_ialdN F 2 0 rfl rfl (j := k) (by omega) (by decide) dX3_against_11 (q := 12) rfl ?_
    refine v_i2l F dX3_against_12 (q := 13) rfl ?_
    refine v_goto F dX3_against_13 (tgt := 23) rfl ?_
    exact hE dX3_against_23 (Nat.zero_le _) (Nat.zero_le _) ⟨⟨by rw [if_pos (i64_nle.mp c2)], rfl⟩, Nat.le_of_ble_eq_true rfl⟩

set_option maxHeartbeats 4000000 in
set_option maxRecDepth 100000 in
theorem c_X3_spaced (m0 ma mb mc : Nat) (pu be nr : Nat → Int32) (nm : Nat → Nat) (B : Nat) (hB : B < 4096) (hnr : ∀ k, B.testBit k = true → nr k = nI (nm k)) : Ct l D (TY cI cJ cZ) yX3_spaced cX3_spaced 3 (some .boolean) 0 0 0 0 [.ref m0, .int (nI B)] [(m0, .inr (3, [.ref ma, .ref mb, .ref mc])), (ma, .inl (cI, 12, .inl pu)), (mb, .inl (cI, 12, .inl be)), (mc, .inl (cI, 12, .inl nr))] (fun r w => r = some (.int (bI (spB B nm))) ∧ w = [(m0, .inr (3, [.ref ma, .ref mb, .ref mc])), (ma, .inl (cI, 12, .inl pu)), (mb, .inl (cI, 12, .inl be)), (mc, .inl (cI, 12, .inl nr))]) := by
  refine Ct.ofI (ty := .boolean) (by decide) (Nat.le_of_ble_eq_true rfl) ?_
  intro p e s m args below meth c A R Q F hnm hcs0 hE
  refine v_lv (lv' := [(0, .ref m0), (1, .int (nI B))]) [0, 1] rfl ?_
  have L2 : ∀ (d k : Nat), k + d = 12 → (∀ j, j < k → B.testBit j = true → B &&& nm j = 0) → V p l e R s m args below meth c D A 3 0 0 Q 2 [(0, .ref m0), (1, .int (nI B)), (2, .int (nI k))] [] [(m0, .inr (3, [.ref ma, .ref mb, .ref mc])), (ma, .inl (cI, 12, .inl pu)), (mb, .inl (cI, 12, .inl be)), (mc, .inl (cI, 12, .inl nr))] := by
    intro d
    induction d using Nat.strongRecOn with
    | _ d ih => ?_
    intro k hk hI
    refine v_iload_n F dX3_spaced_2 (i := 2) rfl 2 rfl (q := 3) rfl ?_
    refine v_bipush F dX3_spaced_3 (v := 12) (q := 5) rfl rfl ?_
    refine v_icmp_ge F dX3_spaced_5 (tgt := 35) rfl (q := 8) rfl (fun c5 => ?_) (fun c5 => ?_)
    · skip
      rw [show (12 : Int32) = nI 12 from rfl, nI_leI (by omega) (by omega)] at c5
      have hkn : k = 12 := by omega
      subst hkn
      refine v_iconst F dX3_spaced_35 (v := 1) (q := 36) rfl rfl ?_
      exact hE rfl dX3_spaced_36 (Nat.zero_le _) (Nat.zero_le _) ⟨⟨by rw [bI_o.mpr (spB_iff.mpr hI)], rfl⟩, Nat.le_of_ble_eq_true rfl⟩
    · skip
      rw [show (12 : Int32) = nI 12 from rfl, nI_leI (by omega) (by omega)] at c5
      obtain ⟨d, rfl⟩ : ∃ d2, d = d2 + 1 := ⟨d - 1, by omega⟩
      refine v_iload_n F dX3_spaced_8 (i := 1) rfl 1 rfl (q := 9) rfl ?_
      refine v_iload_n F dX3_spaced_9 (i := 2) rfl 2 rfl (q := 10) rfl ?_
      refine v_ishr F dX3_spaced_10 (q := 11) rfl ?_
      refine v_iconst F dX3_spaced_11 (v := 1) (q := 12) rfl rfl ?_
      refine v_iand F dX3_spaced_12 (q := 13) rfl ?_
      refine v_int (y := bI (B.testBit k)) (sh_bit hB (by omega)) ?_
      refine v_if_eq F dX3_spaced_13 (tgt := 29) rfl (q := 16) rfl (fun c13 => ?_) (fun c13 => ?_)
      · skip
        rw [bI_z] at c13
        have hI2 : ∀ j, j < k + 1 → B.testBit j = true → B &&& nm j = 0 := fun j hj hb => by
          rcases Nat.lt_or_ge j k with q | q
          · exact hI j q hb
          · rw [show j = k by omega, c13] at hb; cases hb
        refine v_iinc F dX3_spaced_29 2 rfl (v := nI (k + 1)) (lv' := [(2, .int (nI (k + 1))), (0, .ref m0), (1, .int (nI B))]) (nI_1 k) (Nat.le_of_ble_eq_true rfl) rfl (q := 32) rfl ?_
        refine v_goto F dX3_spaced_32 (tgt := 2) rfl ?_
        refine v_lv (lv' := [(0, .ref m0), (1, .int (nI B)), (2, .int (nI (k + 1)))]) [1, 2, 0] rfl ?_
        exact ih d (by omega) (k + 1) (by omega) hI2
      · skip
        rw [bI_nz] at c13
        have hle : B &&& nm k ≤ B := Nat.and_le_left
        refine v_iload_n F dX3_spaced_16 (i := 1) rfl 1 rfl (q := 17) rfl ?_
        refine v_aload_n F dX3_spaced_17 (i := 0) rfl 0 rfl (q := 18) rfl ?_
        refine gt_X3_18 F dX3_spaced_18 0 rfl rfl (q := 21) rfl ?_
        refine v_iload_n F dX3_spaced_21 (i := 2) rfl 2 rfl (q := 22) rfl ?_
        refine v_ialdN F 3 0 rfl rfl (j := k) (by omega) (by decide) dX3_spaced_22 (q := 23) rfl ?_
        refine v_int (y := nI (nm k)) (hnr k c13) ?_
        refine v_iand F dX3_spaced_23 (q := 24) rfl ?_
        refine v_int (y := nI (B &&& nm k)) (nI_and _ _) ?_
        refine v_if_eq F dX3_spaced_24 (tgt := 29) rfl (q := 27) rfl (fun c24 => ?_) (fun c24 => ?_)
        · skip
          rw [show (0 : Int32) = nI 0 from rfl, nI_eq (by omega) (by omega)] at c24
          have hI2 : ∀ j, j < k + 1 → B.testBit j = true → B &&& nm j = 0 := fun j hj hb => by
            rcases Nat.lt_or_ge j k with q | q
            · exact hI j q hb
            · rw [show j = k by omega]; exact c24
          refine v_iinc F dX3_spaced_29 2 rfl (v := nI (k + 1)) (lv' := [(2, .int (nI (k + 1))), (0, .ref m0), (1, .int (nI B))]) (nI_1 k) (Nat.le_of_ble_eq_true rfl) rfl (q := 32) rfl ?_
          refine v_goto F dX3_spaced_32 (tgt := 2) rfl ?_
          refine v_lv (lv' := [(0, .ref m0), (1, .int (nI B)), (2, .int (nI (k + 1)))]) [1, 2, 0] rfl ?_
          exact ih d (by omega) (k + 1) (by omega) hI2
        · skip
          rw [show (0 : Int32) = nI 0 from rfl, nI_eq (by omega) (by omega)] at c24
          refine v_iconst F dX3_spaced_27 (v := 0) (q := 28) rfl rfl ?_
          exact hE rfl dX3_spaced_28 (Nat.zero_le _) (Nat.zero_le _) ⟨⟨by rw [spB_f (by omega) c13 c24], rfl⟩, Nat.le_of_ble_eq_true rfl⟩
  refine v_iconst F dX3_spaced_0 (v := 0) (q := 1) rfl rfl ?_
  refine v_istore_n F dX3_spaced_1 (i := 2) (lv' := [(2, .int 0), (0, .ref m0), (1, .int (nI B))]) rfl (Nat.le_of_ble_eq_true rfl) rfl (q := 2) rfl ?_
  refine v_lv (lv' := [(0, .ref m0), (1, .int (nI B)), (2, .int 0)]) [1, 2, 0] rfl ?_
  exact L2 12 0 (by omega) (fun j hj => absurd hj (Nat.not_lt_zero _))

set_option maxHeartbeats 4000000 in
set_option maxRecDepth 100000 in
theorem c_X1_goThrough (v0 : Nat) (dp : Nat) (b lf mo us be e0 : Int) (m1 : Nat) (he : 1 ≤ e0 ∧ e0 ≤ 10000) (hbe : 0 ≤ be ∧ be ≤ 6000) (hm : m1 ≤ 200) (hlf : 0 ≤ lf ∧ lf ≤ 10000) (hmo : 0 ≤ mo ∧ mo ≤ 200) : Ct l D (TY cI cJ cZ) yX1_goThrough cX1_goThrough 5 (some .boolean) 1 14 0 0 [.ref v0, .int (zI be), .int (zI e0), .int (nI m1)] [(v0, .inr (1, [.int (nI dp), .int (zI b), .int (zI lf), .int (zI mo), .int (zI us)]))] (fun r w => r = some (.int (bI (dvU be e0 m1 (b, lf, mo, us)).1)) ∧ w = [(v0, .inr (1, [.int (nI (if (dvU be e0 m1 (b, lf, mo, us)).1 then dp + 1 else dp)), .int (zI (dvU be e0 m1 (b, lf, mo, us)).2.1), .int (zI (dvU be e0 m1 (b, lf, mo, us)).2.2.1), .int (zI (dvU be e0 m1 (b, lf, mo, us)).2.2.2.1), .int (zI (dvU be e0 m1 (b, lf, mo, us)).2.2.2.2)]))]) := by
  refine Ct.ofI (ty := .boolean) (by decide) (Nat.le_of_ble_eq_true rfl) ?_
  intro p e s m args below meth c A R Q F hnm hcs0 hE
  refine v_lv (lv' := [(0, .ref v0), (1, .int (zI be)), (2, .int (zI e0)), (3, .int (nI m1))]) [0, 1, 2, 3] rfl ?_
  have L3 : ∀ (d k : Nat) (l2 : Int), k + d = m1 → dvF be e0 m1 0 lf = dvF be e0 d k l2 → 0 ≤ l2 → l2 ≤ 16000 → V p l e R s m args below meth c D A 5 0 0 Q 3 [(0, .ref v0), (1, .int (zI be)), (2, .int (zI e0)), (3, .int (nI m1)), (4, .int (nI k))] [] [(v0, .inr (1, [.int (nI dp), .int (zI b), .int (zI l2), .int (zI mo), .int (zI us)]))] := by
    intro d
    induction d using Nat.strongRecOn with
    | _ d ih => ?_
    intro k l2 hk hf h1 h2
    refine v_iload F dX1_goThrough_3 4 rfl (q := 5) rfl ?_
    refine v_iload_n F dX1_goThrough_5 (i := 3) rfl 3 rfl (q := 6) rfl ?_
    refine v_icmp_ge F dX1_goThrough_6 (tgt := 33) rfl (q := 9) rfl (fun c6 => ?_) (fun c6 => ?_)
    · skip
      rw [nI_leI (by omega) (by omega)] at c6
      have hd0 : d = 0 := by omega
      subst hd0
      simp only [dvF] at hf
      refine v_aload_n F dX1_goThrough_33 (i := 0) rfl 0 rfl (q := 34) rfl ?_
      refine v_dup F dX1_goThrough_34 rfl (q := 35) rfl ?_
      refine gt_X1_13 F dX1_goThrough_35 0 rfl rfl (q := 38) rfl ?_
      refine v_iload F dX1_goThrough_38 4 rfl (q := 40) rfl ?_
      refine v_iadd F dX1_goThrough_40 (q := 41) rfl ?_
      refine v_int (y := zI (b + (k : Nat))) (by rw [zI_nat, zI_add]) ?_
      refine pt_X1_13 F dX1_goThrough_41 0 rfl (Nat.le_of_ble_eq_true rfl) (q := 44) rfl ?_
      refine v_ws (ws' := [(v0, .inr (1, [.int (nI dp), .int (zI (b + (k : Nat))), .int (zI l2), .int (zI mo), .int (zI us)]))]) rfl ?_
      refine v_aload_n F dX1_goThrough_44 (i := 0) rfl 0 rfl (q := 45) rfl ?_
      refine v_aload_n F dX1_goThrough_45 (i := 0) rfl 0 rfl (q := 46) rfl ?_
      refine gt_X1_19 F dX1_goThrough_46 0 rfl rfl (q := 49) rfl ?_
      refine v_iload F dX1_goThrough_49 4 rfl (q := 51) rfl ?_
      refine v_mmax F ml_X1_35 sm_Mmax inS_J9 co_Mmax ⟨Nat.zero_le _, Nat.zero_le _⟩ dX1_goThrough_51 (Nat.le_of_ble_eq_true rfl) (Nat.le_of_ble_eq_true rfl) (q := 54) rfl ?_
      refine v_int (y := zI (max mo (k : Nat))) (mx_k hmo (by omega)) ?_
      refine pt_X1_19 F dX1_goThrough_54 0 rfl (Nat.le_of_ble_eq_true rfl) (q := 57) rfl ?_
      refine v_ws (ws' := [(v0, .inr (1, [.int (nI dp), .int (zI (b + (k : Nat))), .int (zI l2), .int (zI (max mo (k : Nat))), .int (zI us)]))]) rfl ?_
      refine v_aload_n F dX1_goThrough_57 (i := 0) rfl 0 rfl (q := 58) rfl ?_
      refine gt_X1_16 F dX1_goThrough_58 0 rfl rfl (q := 61) rfl ?_
      refine v_iload_n F dX1_goThrough_61 (i := 1) rfl 1 rfl (q := 62) rfl ?_
      refine v_icmp_ge F dX1_goThrough_62 (tgt := 67) rfl (q := 65) rfl (fun c62 => ?_) (fun c62 => ?_)
      · skip
        rw [zI_le (by omega) (by omega) (by omega) (by omega)] at c62
        refine v_aload_n F dX1_goThrough_67 (i := 0) rfl 0 rfl (q := 68) rfl ?_
        refine v_dup F dX1_goThrough_68 rfl (q := 69) rfl ?_
        refine gt_X1_16 F dX1_goThrough_69 0 rfl rfl (q := 72) rfl ?_
        refine v_iload_n F dX1_goThrough_72 (i := 1) rfl 1 rfl (q := 73) rfl ?_
        refine v_isub F dX1_goThrough_73 (q := 74) rfl ?_
        refine v_int (y := zI (l2 - be)) (zI_sub _ _) ?_
        refine pt_X1_16 F dX1_goThrough_74 0 rfl (Nat.le_of_ble_eq_true rfl) (q := 77) rfl ?_
        refine v_ws (ws' := [(v0, .inr (1, [.int (nI dp), .int (zI (b + (k : Nat))), .int (zI (l2 - be)), .int (zI (max mo (k : Nat))), .int (zI us)]))]) rfl ?_
        refine v_aload_n F dX1_goThrough_77 (i := 0) rfl 0 rfl (q := 78) rfl ?_
        refine v_dup F dX1_goThrough_78 rfl (q := 79) rfl ?_
        refine gt_X1_22 F dX1_goThrough_79 0 rfl rfl (q := 82) rfl ?_
        refine v_iload_n F dX1_goThrough_82 (i := 1) rfl 1 rfl (q := 83) rfl ?_
        refine v_iadd F dX1_goThrough_83 (q := 84) rfl ?_
        refine v_int (y := zI (us + be)) (zI_add _ _) ?_
        refine pt_X1_22 F dX1_goThrough_84 0 rfl (Nat.le_of_ble_eq_true rfl) (q := 87) rfl ?_
        refine v_ws (ws' := [(v0, .inr (1, [.int (nI dp), .int (zI (b + (k : Nat))), .int (zI (l2 - be)), .int (zI (max mo (k : Nat))), .int (zI (us + be))]))]) rfl ?_
        refine v_aload_n F dX1_goThrough_87 (i := 0) rfl 0 rfl (q := 88) rfl ?_
        refine v_dup F dX1_goThrough_88 rfl (q := 89) rfl ?_
        refine gt_X1_7 F dX1_goThrough_89 0 rfl rfl (q := 92) rfl ?_
        refine v_iconst F dX1_goThrough_92 (v := 1) (q := 93) rfl rfl ?_
        refine v_iadd F dX1_goThrough_93 (q := 94) rfl ?_
        refine v_int (y := nI (dp + 1)) (nI_1 dp) ?_
        refine pt_X1_7 F dX1_goThrough_94 0 rfl (Nat.le_of_ble_eq_true rfl) (q := 97) rfl ?_
        refine v_ws (ws' := [(v0, .inr (1, [.int (nI (dp + 1)), .int (zI (b + (k : Nat))), .int (zI (l2 - be)), .int (zI (max mo (k : Nat))), .int (zI (us + be))]))]) rfl ?_
        refine v_iconst F dX1_goThrough_97 (v := 1) (q := 98) rfl rfl ?_
        exact hE rfl dX1_goThrough_98 (Nat.zero_le _) (Nat.zero_le _) ⟨⟨by rw [(dvU_t hf (by omega) : dvU be e0 m1 (b, lf, mo, us) = _)]; rfl, by rw [(dvU_t hf (by omega) : dvU be e0 m1 (b, lf, mo, us) = _)]; rfl⟩, Nat.le_of_ble_eq_true rfl⟩
      · skip
        rw [zI_le (by omega) (by omega) (by omega) (by omega)] at c62
        refine v_iconst F dX1_goThrough_65 (v := 0) (q := 66) rfl rfl ?_
        exact hE rfl dX1_goThrough_66 (Nat.zero_le _) (Nat.zero_le _) ⟨⟨by rw [(dvU_f hf (by omega) : dvU be e0 m1 (b, lf, mo, us) = _)]; rfl, by rw [(dvU_f hf (by omega) : dvU be e0 m1 (b, lf, mo, us) = _)]; rfl⟩, Nat.le_of_ble_eq_true rfl⟩
    · skip
      rw [nI_leI (by omega) (by omega)] at c6
      obtain ⟨d, rfl⟩ : ∃ d2, d = d2 + 1 := ⟨d - 1, by omega⟩
      simp only [dvF] at hf
      refine v_aload_n F dX1_goThrough_9 (i := 0) rfl 0 rfl (q := 10) rfl ?_
      refine gt_X1_16 F dX1_goThrough_10 0 rfl rfl (q := 13) rfl ?_
      refine v_iload_n F dX1_goThrough_13 (i := 1) rfl 1 rfl (q := 14) rfl ?_
      refine v_icmp_ge F dX1_goThrough_14 (tgt := 33) rfl (q := 17) rfl (fun c14 => ?_) (fun c14 => ?_)
      · skip
        rw [zI_le (by omega) (by omega) (by omega) (by omega)] at c14
        rw [if_neg (by omega)] at hf
        refine v_aload_n F dX1_goThrough_33 (i := 0) rfl 0 rfl (q := 34) rfl ?_
        refine v_dup F dX1_goThrough_34 rfl (q := 35) rfl ?_
        refine gt_X1_13 F dX1_goThrough_35 0 rfl rfl (q := 38) rfl ?_
        refine v_iload F dX1_goThrough_38 4 rfl (q := 40) rfl ?_
        refine v_iadd F dX1_goThrough_40 (q := 41) rfl ?_
        refine v_int (y := zI (b + (k : Nat))) (by rw [zI_nat, zI_add]) ?_
        refine pt_X1_13 F dX1_goThrough_41 0 rfl (Nat.le_of_ble_eq_true rfl) (q := 44) rfl ?_
        refine v_ws (ws' := [(v0, .inr (1, [.int (nI dp), .int (zI (b + (k : Nat))), .int (zI l2), .int (zI mo), .int (zI us)]))]) rfl ?_
        refine v_aload_n F dX1_goThrough_44 (i := 0) rfl 0 rfl (q := 45) rfl ?_
        refine v_aload_n F dX1_goThrough_45 (i := 0) rfl 0 rfl (q := 46) rfl ?_
        refine gt_X1_19 F dX1_goThrough_46 0 rfl rfl (q := 49) rfl ?_
        refine v_iload F dX1_goThrough_49 4 rfl (q := 51) rfl ?_
        refine v_mmax F ml_X1_35 sm_Mmax inS_J9 co_Mmax ⟨Nat.zero_le _, Nat.zero_le _⟩ dX1_goThrough_51 (Nat.le_of_ble_eq_true rfl) (Nat.le_of_ble_eq_true rfl) (q := 54) rfl ?_
        refine v_int (y := zI (max mo (k : Nat))) (mx_k hmo (by omega)) ?_
        refine pt_X1_19 F dX1_goThrough_54 0 rfl (Nat.le_of_ble_eq_true rfl) (q := 57) rfl ?_
        refine v_ws (ws' := [(v0, .inr (1, [.int (nI dp), .int (zI (b + (k : Nat))), .int (zI l2), .int (zI (max mo (k : Nat))), .int (zI us)]))]) rfl ?_
        refine v_aload_n F dX1_goThrough_57 (i := 0) rfl 0 rfl (q := 58) rfl ?_
        refine gt_X1_16 F dX1_goThrough_58 0 rfl rfl (q := 61) rfl ?_
        refine v_iload_n F dX1_goThrough_61 (i := 1) rfl 1 rfl (q := 62) rfl ?_
        refine v_icmp_ge F dX1_goThrough_62 (tgt := 67) rfl (q := 65) rfl (fun c62 => ?_) (fun c62 => ?_)
        · skip
          rw [zI_le (by omega) (by omega) (by omega) (by omega)] at c62
          refine v_aload_n F dX1_goThrough_67 (i := 0) rfl 0 rfl (q := 68) rfl ?_
          refine v_dup F dX1_goThrough_68 rfl (q := 69) rfl ?_
          refine gt_X1_16 F dX1_goThrough_69 0 rfl rfl (q := 72) rfl ?_
          refine v_iload_n F dX1_goThrough_72 (i := 1) rfl 1 rfl (q := 73) rfl ?_
          refine v_isub F dX1_goThrough_73 (q := 74) rfl ?_
          refine v_int (y := zI (l2 - be)) (zI_sub _ _) ?_
          refine pt_X1_16 F dX1_goThrough_74 0 rfl (Nat.le_of_ble_eq_true rfl) (q := 77) rfl ?_
          refine v_ws (ws' := [(v0, .inr (1, [.int (nI dp), .int (zI (b + (k : Nat))), .int (zI (l2 - be)), .int (zI (max mo (k : Nat))), .int (zI us)]))]) rfl ?_
          refine v_aload_n F dX1_goThrough_77 (i := 0) rfl 0 rfl (q := 78) rfl ?_
          refine v_dup F dX1_goThrough_78 rfl (q := 79) rfl ?_
          refine gt_X1_22 F dX1_goThrough_79 0 rfl rfl (q := 82) rfl ?_
          refine v_iload_n F dX1_goThrough_82 (i := 1) rfl 1 rfl (q := 83) rfl ?_
          refine v_iadd F dX1_goThrough_83 (q := 84) rfl ?_
          refine v_int (y := zI (us + be)) (zI_add _ _) ?_
          refine pt_X1_22 F dX1_goThrough_84 0 rfl (Nat.le_of_ble_eq_true rfl) (q := 87) rfl ?_
          refine v_ws (ws' := [(v0, .inr (1, [.int (nI dp), .int (zI (b + (k : Nat))), .int (zI (l2 - be)), .int (zI (max mo (k : Nat))), .int (zI (us + be))]))]) rfl ?_
          refine v_aload_n F dX1_goThrough_87 (i := 0) rfl 0 rfl (q := 88) rfl ?_
          refine v_dup F dX1_goThrough_88 rfl (q := 89) rfl ?_
          refine gt_X1_7 F dX1_goThrough_89 0 rfl rfl (q := 92) rfl ?_
          refine v_iconst F dX1_goThrough_92 (v := 1) (q := 93) rfl rfl ?_
          refine v_iadd F dX1_goThrough_93 (q := 94) rfl ?_
          refine v_int (y := nI (dp + 1)) (nI_1 dp) ?_
          refine pt_X1_7 F dX1_goThrough_94 0 rfl (Nat.le_of_ble_eq_true rfl) (q := 97) rfl ?_
          refine v_ws (ws' := [(v0, .inr (1, [.int (nI (dp + 1)), .int (zI (b + (k : Nat))), .int (zI (l2 - be)), .int (zI (max mo (k : Nat))), .int (zI (us + be))]))]) rfl ?_
          refine v_iconst F dX1_goThrough_97 (v := 1) (q := 98) rfl rfl ?_
          exact hE rfl dX1_goThrough_98 (Nat.zero_le _) (Nat.zero_le _) ⟨⟨by rw [(dvU_t hf (by omega) : dvU be e0 m1 (b, lf, mo, us) = _)]; rfl, by rw [(dvU_t hf (by omega) : dvU be e0 m1 (b, lf, mo, us) = _)]; rfl⟩, Nat.le_of_ble_eq_true rfl⟩
        · skip
          rw [zI_le (by omega) (by omega) (by omega) (by omega)] at c62
          refine v_iconst F dX1_goThrough_65 (v := 0) (q := 66) rfl rfl ?_
          exact hE rfl dX1_goThrough_66 (Nat.zero_le _) (Nat.zero_le _) ⟨⟨by rw [(dvU_f hf (by omega) : dvU be e0 m1 (b, lf, mo, us) = _)]; rfl, by rw [(dvU_f hf (by omega) : dvU be e0 m1 (b, lf, mo, us) = _)]; rfl⟩, Nat.le_of_ble_eq_true rfl⟩
      · skip
        rw [zI_le (by omega) (by omega) (by omega) (by omega)] at c14
        rw [if_pos (by omega)] at hf
        refine v_iinc F dX1_goThrough_17 4 rfl (v := nI (k + 1)) (lv' := [(4, .int (nI (k + 1))), (0, .ref v0), (1, .int (zI be)), (2, .int (zI e0)), (3, .int (nI m1))]) (nI_1 k) (Nat.le_of_ble_eq_true rfl) rfl (q := 20) rfl ?_
        refine v_aload_n F dX1_goThrough_20 (i := 0) rfl 1 rfl (q := 21) rfl ?_
        refine v_dup F dX1_goThrough_21 rfl (q := 22) rfl ?_
        refine gt_X1_16 F dX1_goThrough_22 0 rfl rfl (q := 25) rfl ?_
        refine v_iload_n F dX1_goThrough_25 (i := 2) rfl 3 rfl (q := 26) rfl ?_
        refine v_iadd F dX1_goThrough_26 (q := 27) rfl ?_
        refine v_int (y := zI (l2 + e0)) (zI_add _ _) ?_
        refine pt_X1_16 F dX1_goThrough_27 0 rfl (Nat.le_of_ble_eq_true rfl) (q := 30) rfl ?_
        refine v_ws (ws' := [(v0, .inr (1, [.int (nI dp), .int (zI b), .int (zI (l2 + e0)), .int (zI mo), .int (zI us)]))]) rfl ?_
        refine v_goto F dX1_goThrough_30 (tgt := 3) rfl ?_
        refine v_lv (lv' := [(0, .ref v0), (1, .int (zI be)), (2, .int (zI e0)), (3, .int (nI m1)), (4, .int (nI (k + 1)))]) [1, 2, 3, 4, 0] rfl ?_
        exact ih d (by omega) (k + 1) (l2 + e0) (by omega) hf (by omega) (by omega)
  refine v_iconst F dX1_goThrough_0 (v := 0) (q := 1) rfl rfl ?_
  refine v_istore F dX1_goThrough_1 (lv' := [(4, .int 0), (0, .ref v0), (1, .int (zI be)), (2, .int (zI e0)), (3, .int (nI m1))]) (Nat.le_of_ble_eq_true rfl) rfl (q := 3) rfl ?_
  refine v_lv (lv' := [(0, .ref v0), (1, .int (zI be)), (2, .int (zI e0)), (3, .int (nI m1)), (4, .int 0)]) [1, 2, 3, 4, 0] rfl ?_
  exact L3 m1 0 lf (by omega) rfl hlf.1 (by omega)

set_option maxHeartbeats 4000000 in
set_option maxRecDepth 100000 in
theorem c_X1_run (v0 : Nat) (dp0 b0 lf0 mo0 us0 : Int32) (g ga gb gc : Nat) (th sd tp : Nat → Int32) (n : Nat) (sc : Int32) (u0 : Nat) (e0 : Int) (m1 : Nat) (G : GOK th sd tp n sc) (hu : u0 ≤ 100) (he : 1 ≤ e0 ∧ e0 ≤ 10000) (hm : m1 ≤ 200) : Ct l D (TY cI cJ cZ) yX1_run cX1_run 7 none 3 66 0 0 [.ref v0, .ref g, .int (nI u0), .int (zI e0), .int (nI m1)] [(v0, .inr (1, [.int dp0, .int b0, .int lf0, .int mo0, .int us0])), (g, .inr (2, [.ref ga, .ref gb, .ref gc, .int (nI n), .int sc])), (ga, .inl (cI, 6, .inl th)), (gb, .inl (cI, 6, .inl sd)), (gc, .inl (cI, 6, .inl tp))] (fun r w => r = none ∧ w = [(v0, .inr (1, [.int (nI (dvR (gBE th sd tp n sc) e0 m1 u0 0 (0, 0, 0, 0)).1), .int (zI (dvR (gBE th sd tp n sc) e0 m1 u0 0 (0, 0, 0, 0)).2.1), .int (zI (dvR (gBE th sd tp n sc) e0 m1 u0 0 (0, 0, 0, 0)).2.2.1), .int (zI (dvR (gBE th sd tp n sc) e0 m1 u0 0 (0, 0, 0, 0)).2.2.2.1), .int (zI (dvR (gBE th sd tp n sc) e0 m1 u0 0 (0, 0, 0, 0)).2.2.2.2)])), (g, .inr (2, [.ref ga, .ref gb, .ref gc, .int (nI n), .int sc])), (ga, .inl (cI, 6, .inl th)), (gb, .inl (cI, 6, .inl sd)), (gc, .inl (cI, 6, .inl tp))]) := by
  refine Ct.ofV (by decide) (Nat.le_of_ble_eq_true rfl) ?_
  intro p e s m args below meth c A R Q F hnm hcs0 hE
  refine v_lv (lv' := [(0, .ref v0), (1, .ref g), (2, .int (nI u0)), (3, .int (zI e0)), (4, .int (nI m1))]) [0, 1, 2, 3, 4] rfl ?_
  have L31 : ∀ (d u : Nat) (b lf mo us : Int), u + d = u0 → (dvR (gBE th sd tp n sc) e0 m1 u0 0 (0, 0, 0, 0)) = dvR (gBE th sd tp n sc) e0 m1 d u (b, lf, mo, us) → dvOK u (b, lf, mo, us) → V p l e R s m args below meth c D A 7 0 0 Q 31 [(0, .ref v0), (1, .ref g), (2, .int (nI u0)), (3, .int (zI e0)), (4, .int (nI m1)), (5, .int 1), (6, .int (nI u))] [] [(v0, .inr (1, [.int (nI u), .int (zI b), .int (zI lf), .int (zI mo), .int (zI us)])), (g, .inr (2, [.ref ga, .ref gb, .ref gc, .int (nI n), .int sc])), (ga, .inl (cI, 6, .inl th)), (gb, .inl (cI, 6, .inl sd)), (gc, .inl (cI, 6, .inl tp))] := by
    intro d
    induction d using Nat.strongRecOn with
    | _ d ih => ?_
    intro u b lf mo us hk hf hO
    refine v_iload F dX1_run_31 6 rfl (q := 33) rfl ?_
    refine v_iload_n F dX1_run_33 (i := 2) rfl 2 rfl (q := 34) rfl ?_
    refine v_icmp_ge F dX1_run_34 (tgt := 65) rfl (q := 37) rfl (fun c34 => ?_) (fun c34 => ?_)
    · skip
      rw [nI_leI (by omega) (by omega)] at c34
      have hd0 : d = 0 := by omega
      subst hd0
      simp only [dvR] at hf
      exact hE dX1_run_65 (Nat.zero_le _) (Nat.zero_le _) ⟨⟨rfl, by rw [hf]⟩, Nat.le_of_ble_eq_true rfl⟩
    · skip
      rw [nI_leI (by omega) (by omega)] at c34
      obtain ⟨d, rfl⟩ : ∃ d2, d = d2 + 1 := ⟨d - 1, by omega⟩
      simp only [dvR] at hf
      have q1 := gPU_rng G (u + 1)
      have q2 := gTI_rng G (u + 1)
      have hbe : 0 ≤ gBE th sd tp n sc (u + 1) ∧ gBE th sd tp n sc (u + 1) ≤ 6000 := by unfold gBE; omega
      have hlf : 0 ≤ lf ∧ lf ≤ 10000 := ⟨hO.2.2.1, hO.2.2.2.1⟩
      have hmo : 0 ≤ mo ∧ mo ≤ 200 := ⟨hO.2.2.2.2.1, hO.2.2.2.2.2.1⟩
      refine v_iload F dX1_run_37 5 rfl (q := 39) rfl ?_
      refine v_if_eq F dX1_run_39 (tgt := 65) rfl (q := 42) rfl (fun c39 => ?_) (fun c39 => ?_)
      · exact absurd c39 (by decide)
      · skip
        refine v_aload_n F dX1_run_42 (i := 0) rfl 0 rfl (q := 43) rfl ?_
        refine v_aload_n F dX1_run_43 (i := 1) rfl 1 rfl (q := 44) rfl ?_
        refine v_iload F dX1_run_44 6 rfl (q := 46) rfl ?_
        refine v_iconst F dX1_run_46 (v := 1) (q := 47) rfl rfl ?_
        refine v_iadd F dX1_run_47 (q := 48) rfl ?_
        refine v_int (y := nI (u + 1)) (nI_1 u) ?_
        refine v_callVN F ml_X1_25 im_X2_bearingOf se_X2_bearingOf in_X2 co_X2_bearingOf sd_X2_bearingOf (c_X2_bearingOf g ga gb gc th sd tp n sc (u + 1) G (by omega)) ⟨Nat.zero_le _, Nat.zero_le _⟩ (Nat.le_of_ble_eq_true rfl) (Nat.le_of_ble_eq_true rfl) 1 (As := [.int (nI (u + 1))]) rfl rfl rfl rfl rfl [1, 2, 3, 4] rfl rfl rfl (rest := [.ref v0]) rfl (Nat.le_of_ble_eq_true rfl) dX1_run_48 (q := 51) rfl (fun r w hr => ?_)
        obtain ⟨rfl, rfl⟩ := hr
        refine v_ws (ws' := [(v0, .inr (1, [.int (nI u), .int (zI b), .int (zI lf), .int (zI mo), .int (zI us)])), (g, .inr (2, [.ref ga, .ref gb, .ref gc, .int (nI n), .int sc])), (ga, .inl (cI, 6, .inl th)), (gb, .inl (cI, 6, .inl sd)), (gc, .inl (cI, 6, .inl tp))]) rfl ?_
        refine v_st (st' := [.int (zI (gBE th sd tp n sc (u + 1))), .ref v0]) rfl ?_
        refine v_iload_n F dX1_run_51 (i := 3) rfl 3 rfl (q := 52) rfl ?_
        refine v_iload F dX1_run_52 4 rfl (q := 54) rfl ?_
        refine v_callV F ml_X1_31 im_X1_goThrough se_X1_goThrough in_X1 co_X1_goThrough sd_X1_goThrough (c_X1_goThrough v0 u b lf mo us (gBE th sd tp n sc (u + 1)) e0 m1 he hbe hm hlf hmo) ⟨Nat.zero_le _, Nat.zero_le _⟩ (Nat.le_of_ble_eq_true rfl) (Nat.le_of_ble_eq_true rfl) 0 (As := [.int (zI (gBE th sd tp n sc (u + 1))), .int (zI e0), .int (nI m1)]) rfl rfl rfl rfl rfl [0] rfl rfl rfl (rest := []) rfl (Nat.le_of_ble_eq_true rfl) dX1_run_54 (q := 57) rfl (fun r w hr => ?_)
        obtain ⟨rfl, rfl⟩ := hr
        refine v_ws (ws' := [(v0, .inr (1, [.int (nI (if (dvU (gBE th sd tp n sc (u + 1)) e0 m1 (b, lf, mo, us)).1 then u + 1 else u)), .int (zI (dvU (gBE th sd tp n sc (u + 1)) e0 m1 (b, lf, mo, us)).2.1), .int (zI (dvU (gBE th sd tp n sc (u + 1)) e0 m1 (b, lf, mo, us)).2.2.1), .int (zI (dvU (gBE th sd tp n sc (u + 1)) e0 m1 (b, lf, mo, us)).2.2.2.1), .int (zI (dvU (gBE th sd tp n sc (u + 1)) e0 m1 (b, lf, mo, us)).2.2.2.2)])), (g, .inr (2, [.ref ga, .ref gb, .ref gc, .int (nI n), .int sc])), (ga, .inl (cI, 6, .inl th)), (gb, .inl (cI, 6, .inl sd)), (gc, .inl (cI, 6, .inl tp))]) rfl ?_
        refine v_st (st' := [.int (bI (dvU (gBE th sd tp n sc (u + 1)) e0 m1 (b, lf, mo, us)).1)]) rfl ?_
        rcases hok : (dvU (gBE th sd tp n sc (u + 1)) e0 m1 (b, lf, mo, us)).1 with _ | _
        · skip
          rw [hok] at hf
          simp only [Bool.false_eq_true, if_false] at hf
          have hdp : nI (if false = true then u + 1 else u) = nI u := rfl
          refine v_istore F dX1_run_57 (lv' := [(5, .int (bI false)), (0, .ref v0), (1, .ref g), (2, .int (nI u0)), (3, .int (zI e0)), (4, .int (nI m1)), (6, .int (nI u))]) (Nat.le_of_ble_eq_true rfl) rfl (q := 59) rfl ?_
          refine v_iinc F dX1_run_59 6 rfl (v := nI (u + 1)) (lv' := [(6, .int (nI (u + 1))), (5, .int (bI false)), (0, .ref v0), (1, .ref g), (2, .int (nI u0)), (3, .int (zI e0)), (4, .int (nI m1))]) (nI_1 u) (Nat.le_of_ble_eq_true rfl) rfl (q := 62) rfl ?_
          refine v_goto F dX1_run_62 (tgt := 31) rfl ?_
          refine v_iload F dX1_run_31 0 rfl (q := 33) rfl ?_
          refine v_iload_n F dX1_run_33 (i := 2) rfl 4 rfl (q := 34) rfl ?_
          refine v_icmp_ge F dX1_run_34 (tgt := 65) rfl (q := 37) rfl (fun c34 => ?_) (fun c34 => ?_)
          · skip
            exact hE dX1_run_65 (Nat.zero_le _) (Nat.zero_le _) ⟨⟨rfl, by rw [hf]; rfl⟩, Nat.le_of_ble_eq_true rfl⟩
          · skip
            refine v_iload F dX1_run_37 1 rfl (q := 39) rfl ?_
            refine v_if_eq F dX1_run_39 (tgt := 65) rfl (q := 42) rfl (fun c39 => ?_) (fun c39 => ?_)
            · skip
              exact hE dX1_run_65 (Nat.zero_le _) (Nat.zero_le _) ⟨⟨rfl, by rw [hf]; rfl⟩, Nat.le_of_ble_eq_true rfl⟩
            · exact absurd rfl c39
        · skip
          rw [hok] at hf
          simp only [if_true] at hf
          refine v_istore F dX1_run_57 (lv' := [(5, .int (bI true)), (0, .ref v0), (1, .ref g), (2, .int (nI u0)), (3, .int (zI e0)), (4, .int (nI m1)), (6, .int (nI u))]) (Nat.le_of_ble_eq_true rfl) rfl (q := 59) rfl ?_
          refine v_iinc F dX1_run_59 6 rfl (v := nI (u + 1)) (lv' := [(6, .int (nI (u + 1))), (5, .int (bI true)), (0, .ref v0), (1, .ref g), (2, .int (nI u0)), (3, .int (zI e0)), (4, .int (nI m1))]) (nI_1 u) (Nat.le_of_ble_eq_true rfl) rfl (q := 62) rfl ?_
          refine v_goto F dX1_run_62 (tgt := 31) rfl ?_
          refine v_lv (lv' := [(0, .ref v0), (1, .ref g), (2, .int (nI u0)), (3, .int (zI e0)), (4, .int (nI m1)), (5, .int (bI true)), (6, .int (nI (u + 1)))]) [2, 3, 4, 5, 6, 1, 0] rfl ?_
          exact ih d (by omega) (u + 1) _ _ _ _ (by omega) hf (dvU_ok he hbe hm hO)
  refine v_aload_n F dX1_run_0 (i := 0) rfl 0 rfl (q := 1) rfl ?_
  refine v_iconst F dX1_run_1 (v := 0) (q := 2) rfl rfl ?_
  refine pt_X1_7 F dX1_run_2 0 rfl (Nat.le_of_ble_eq_true rfl) (q := 5) rfl ?_
  refine v_ws (ws' := [(v0, .inr (1, [.int 0, .int b0, .int lf0, .int mo0, .int us0])), (g, .inr (2, [.ref ga, .ref gb, .ref gc, .int (nI n), .int sc])), (ga, .inl (cI, 6, .inl th)), (gb, .inl (cI, 6, .inl sd)), (gc, .inl (cI, 6, .inl tp))]) rfl ?_
  refine v_aload_n F dX1_run_5 (i := 0) rfl 0 rfl (q := 6) rfl ?_
  refine v_iconst F dX1_run_6 (v := 0) (q := 7) rfl rfl ?_
  refine pt_X1_13 F dX1_run_7 0 rfl (Nat.le_of_ble_eq_true rfl) (q := 10) rfl ?_
  refine v_ws (ws' := [(v0, .inr (1, [.int 0, .int 0, .int lf0, .int mo0, .int us0])), (g, .inr (2, [.ref ga, .ref gb, .ref gc, .int (nI n), .int sc])), (ga, .inl (cI, 6, .inl th)), (gb, .inl (cI, 6, .inl sd)), (gc, .inl (cI, 6, .inl tp))]) rfl ?_
  refine v_aload_n F dX1_run_10 (i := 0) rfl 0 rfl (q := 11) rfl ?_
  refine v_iconst F dX1_run_11 (v := 0) (q := 12) rfl rfl ?_
  refine pt_X1_16 F dX1_run_12 0 rfl (Nat.le_of_ble_eq_true rfl) (q := 15) rfl ?_
  refine v_ws (ws' := [(v0, .inr (1, [.int 0, .int 0, .int 0, .int mo0, .int us0])), (g, .inr (2, [.ref ga, .ref gb, .ref gc, .int (nI n), .int sc])), (ga, .inl (cI, 6, .inl th)), (gb, .inl (cI, 6, .inl sd)), (gc, .inl (cI, 6, .inl tp))]) rfl ?_
  refine v_aload_n F dX1_run_15 (i := 0) rfl 0 rfl (q := 16) rfl ?_
  refine v_iconst F dX1_run_16 (v := 0) (q := 17) rfl rfl ?_
  refine pt_X1_19 F dX1_run_17 0 rfl (Nat.le_of_ble_eq_true rfl) (q := 20) rfl ?_
  refine v_ws (ws' := [(v0, .inr (1, [.int 0, .int 0, .int 0, .int 0, .int us0])), (g, .inr (2, [.ref ga, .ref gb, .ref gc, .int (nI n), .int sc])), (ga, .inl (cI, 6, .inl th)), (gb, .inl (cI, 6, .inl sd)), (gc, .inl (cI, 6, .inl tp))]) rfl ?_
  refine v_aload_n F dX1_run_20 (i := 0) rfl 0 rfl (q := 21) rfl ?_
  refine v_iconst F dX1_run_21 (v := 0) (q := 22) rfl rfl ?_
  refine pt_X1_22 F dX1_run_22 0 rfl (Nat.le_of_ble_eq_true rfl) (q := 25) rfl ?_
  refine v_ws (ws' := [(v0, .inr (1, [.int 0, .int 0, .int 0, .int 0, .int 0])), (g, .inr (2, [.ref ga, .ref gb, .ref gc, .int (nI n), .int sc])), (ga, .inl (cI, 6, .inl th)), (gb, .inl (cI, 6, .inl sd)), (gc, .inl (cI, 6, .inl tp))]) rfl ?_
  refine v_iconst F dX1_run_25 (v := 1) (q := 26) rfl rfl ?_
  refine v_istore F dX1_run_26 (lv' := [(5, .int 1), (0, .ref v0), (1, .ref g), (2, .int (nI u0)), (3, .int (zI e0)), (4, .int (nI m1))]) (Nat.le_of_ble_eq_true rfl) rfl (q := 28) rfl ?_
  refine v_iconst F dX1_run_28 (v := 0) (q := 29) rfl rfl ?_
  refine v_istore F dX1_run_29 (lv' := [(6, .int 0), (5, .int 1), (0, .ref v0), (1, .ref g), (2, .int (nI u0)), (3, .int (zI e0)), (4, .int (nI m1))]) (Nat.le_of_ble_eq_true rfl) rfl (q := 31) rfl ?_
  refine v_lv (lv' := [(0, .ref v0), (1, .ref g), (2, .int (nI u0)), (3, .int (zI e0)), (4, .int (nI m1)), (5, .int 1), (6, .int 0)]) [2, 3, 4, 5, 6, 1, 0] rfl ?_
  exact L31 u0 0 0 0 0 0 (by omega) rfl (by unfold dvOK; simp)

end MD