theorem ts_16 (x : Int32) : x = 0 ∨ x = 1 ∨ x = 2 ∨ x = 3 ∨ x = 4 ∨ x = 5 ∨ x = 6 ∨ x = 7 ∨ x = 8 ∨ x = 9 ∨ x = 10 ∨ x = 11 ∨ x = 12 ∨ x = 13 ∨ x = 14 ∨ x = 15 ∨ x = 16 ∨ (x.toInt < 0 ∨ 16 < x.toInt) := by
  by_cases h : x.toInt < 0 ∨ 16 < x.toInt
  · simp [h]
  · rcases (show x.toInt = 0 ∨ x.toInt = 1 ∨ x.toInt = 2 ∨ x.toInt = 3 ∨ x.toInt = 4 ∨ x.toInt = 5 ∨ x.toInt = 6 ∨ x.toInt = 7 ∨ x.toInt = 8 ∨ x.toInt = 9 ∨ x.toInt = 10 ∨ x.toInt = 11 ∨ x.toInt = 12 ∨ x.toInt = 13 ∨ x.toInt = 14 ∨ x.toInt = 15 ∨ x.toInt = 16 by omega) with q | q | q | q | q | q | q | q | q | q | q | q | q | q | q | q | q
    · exact Or.inl (ts_x q rfl)
    · exact Or.inr (Or.inl (ts_x q rfl))
    · exact Or.inr (Or.inr (Or.inl (ts_x q rfl)))
    · exact Or.inr (Or.inr (Or.inr (Or.inl (ts_x q rfl))))
    · exact Or.inr (Or.inr (Or.inr (Or.inr (Or.inl (ts_x q rfl)))))
    · exact Or.inr (Or.inr (Or.inr (Or.inr (Or.inr (Or.inl (ts_x q rfl))))))
    · exact Or.inr (Or.inr (Or.inr (Or.inr (Or.inr (Or.inr (Or.inl (ts_x q rfl)))))))
    · exact Or.inr (Or.inr (Or.inr (Or.inr (Or.inr (Or.inr (Or.inr (Or.inl (ts_x q rfl))))))))
    · exact Or.inr (Or.inr (Or.inr (Or.inr (Or.inr (Or.inr (Or.inr (Or.inr (Or.inl (ts_x q rfl)))))))))
    · exact Or.inr (Or.inr (Or.inr (Or.inr (Or.inr (Or.inr (Or.inr (Or.inr (Or.inr (Or.inl (ts_x q rfl))))))))))
    · exact Or.inr (Or.inr (Or.inr (Or.inr (Or.inr (Or.inr (Or.inr (Or.inr (Or.inr (Or.inr (Or.inl (ts_x q rfl)))))))))))
    · exact Or.inr (Or.inr (Or.inr (Or.inr (Or.inr (Or.inr (Or.inr (Or.inr (Or.inr (Or.inr (Or.inr (Or.inl (ts_x q rfl))))))))))))
    · exact Or.inr (Or.inr (Or.inr (Or.inr (Or.inr (Or.inr (Or.inr (Or.inr (Or.inr (Or.inr (Or.inr (Or.inr (Or.inl (ts_x q rfl)))))))))))))
    · exact Or.inr (Or.inr (Or.inr (Or.inr (Or.inr (Or.inr (Or.inr (Or.inr (Or.inr (Or.inr (Or.inr (Or.inr (Or.inr (Or.inl (ts_x q rfl))))))))))))))
    · exact Or.inr (Or.inr (Or.inr (Or.inr (Or.inr (Or.inr (Or.inr (Or.inr (Or.inr (Or.inr (Or.inr (Or.inr (Or.inr (Or.inr (Or.inl (ts_x q rfl)))))))))))))))
    · exact Or.inr (Or.inr (Or.inr (Or.inr (Or.inr (Or.inr (Or.inr (Or.inr (Or.inr (Or.inr (Or.inr (Or.inr (Or.inr (Or.inr (Or.inr (Or.inl (ts_x q rfl))))))))))))))))
    · exact Or.inr (Or.inr (Or.inr (Or.inr (Or.inr (Or.inr (Or.inr (Or.inr (Or.inr (Or.inr (Or.inr (Or.inr (Or.inr (Or.inr (Or.inr (Or.inr (Or.inl (ts_x q rfl)))))))))))))))))
set_option maxHeartbeats 8000000 in
set_option maxRecDepth 100000 in
theorem law_loop {p : Program} {e : Env} {s : State} {m : MethodId} {below : List Frame} {meth : Method} {c : Code} (l : Launch) {D : va_G} {cI cJ cZ : ClassId} {b L : Nat} {xs : Nat → Int32} {z g ga gb gc h ha hb hc hd o oa ob oc od ca m0 ma mb mc v0 t ta tb : Nat} {y0 y1 y2 y3 y4 y5 y6 y7 y8 y9 y10 y11 y12 y13 y14 : Nat} (hL : L ≤ 2560) (F : Fx p s m #[Value.ref b] c cL_law RL D (TY cI cJ cZ) (fun q => s.heap.size ≤ q) 4 9 318 room_1) (hX : va_X b L xs s s.heap) (hbl : b < s.heap.size) (hr : meth.sig.returnType = ret) (hlocks : meth.locks = false) :
    ∀ (d i : Nat) (S : STy) (X : SXy) (Y : Int × Int × Int × Int), i + d = L + 5 → INV S → V p l e room_1 s m #[Value.ref b] below meth c D (fun q => s.heap.size ≤ q) 4 39 377 (lw_Z below #[Value.ref b] s) 18 [(0, .ref b), (1, .ref z), (2, .ref y0), (3, .int (nI i))] [] ((WC cI cJ z g ga gb gc h ha hb hc hd o oa ob oc od ca m0 ma mb mc v0 t ta tb S X) ++ (WM cI cJ cZ y0 y1 y2 y3 y4 y5 y6 y7 y8 y9 y10 y11 y12 y13 y14 S Y)) := by
  have hbA : ¬ (fun q : Nat => s.heap.size ≤ q) b := Nat.not_le.mpr hbl
  have hcs : 39 ≤ room_1.cells ∧ 377 ≤ room_1.slots := ⟨Nat.le_refl _, Nat.le_refl _⟩
  intro d
  induction d using Nat.strongRecOn with
  | _ d ih => ?_
  intro i S X Y hdi VI
  refine v_iload_n F dL_law_18 (i := 3) rfl 3 rfl (q := 19) rfl ?_
  refine v_aload_n F dL_law_19 (i := 0) rfl 0 rfl (q := 20) rfl ?_
  refine v_slen F hX hbl hbA dL_law_20 (q := 21) rfl ?_
  refine v_iconst F dL_law_21 (v := 5) (q := 22) rfl rfl ?_
  refine v_isub F dL_law_22 (q := 23) rfl ?_
  refine v_int (y := zI ((L : Int) - 5)) (by rw [zI_nat, show (5 : Int32) = zI 5 from rfl, zI_sub]) ?_
  refine v_icmp_gt F dL_law_23 (tgt := 710) rfl (q := 26) rfl (fun c23 => ?_) (fun c23 => ?_)
  · refine v_iconst F dL_law_710 (v := 1) (q := 711) rfl rfl ?_
    exact fun H locs ls hP hD hS hl => va_forget hS.2.2 (lw_ret F.1 F.2.1 hr hlocks dL_law_711)
  · rw [zI_nat, zI_lt (by omega) (by omega) (by omega) (by omega)] at c23
    have hi5 : i + 5 ≤ L := by omega
    obtain ⟨d, rfl⟩ : ∃ d2, d = d2 + 5 := ⟨d - 5, by omega⟩
    refine v_aload_n F dL_law_26 (i := 0) rfl 0 rfl (q := 27) rfl ?_
    refine v_iload_n F dL_law_27 (i := 3) rfl 3 rfl (q := 28) rfl ?_
    refine v_sld F hX hbl hbA (j := i) (by omega) (by omega) dL_law_28 (q := 29) rfl ?_
    refine v_bipush F dL_law_29 (v := 31) (q := 31) rfl rfl ?_
    refine v_iand F dL_law_31 (q := 32) rfl ?_
    have hend : ∀ (S2 : STy) (X2 : SXy) (Y2 : Int × Int × Int × Int), INV S2 → V p l e room_1 s m #[Value.ref b] below meth c D (fun q => s.heap.size ≤ q) 4 39 377 (lw_Z below #[Value.ref b] s) 704 [(0, .ref b), (1, .ref z), (2, .ref y0), (3, .int (nI i))] [] ((WC cI cJ z g ga gb gc h ha hb hc hd o oa ob oc od ca m0 ma mb mc v0 t ta tb S2 X2) ++ (WM cI cJ cZ y0 y1 y2 y3 y4 y5 y6 y7 y8 y9 y10 y11 y12 y13 y14 S2 Y2)) := by
      intro S2 X2 Y2 VI2
      refine v_iinc F dL_law_704 3 rfl (v := nI (i + 5)) (lv' := [(3, .int (nI (i + 5))), (0, .ref b), (1, .ref z), (2, .ref y0)]) (nI_add i 5) (Nat.le_of_ble_eq_true rfl) rfl (q := 707) rfl ?_
      refine v_goto F dL_law_707 (tgt := 18) rfl ?_
      refine v_lv (lv' := [(0, .ref b), (1, .ref z), (2, .ref y0), (3, .int (nI (i + 5)))]) [1, 2, 3, 0] rfl ?_
      exact ih d (by omega) (i + 5) S2 X2 Y2 (by omega) VI2
    rcases ts_16 (xs i &&& 31) with c32 | c32 | c32 | c32 | c32 | c32 | c32 | c32 | c32 | c32 | c32 | c32 | c32 | c32 | c32 | c32 | c32 | c32
    · refine v_tableIn F dL_law_32 (by rw [c32]; decide) (by rw [c32]; decide) (off := 84) (by rw [c32]; rfl) (tgt := 116) rfl ?_
      refine v_aload_n F dL_law_116 (i := 1) rfl 1 rfl (q := 117) rfl ?_
      refine v_arg F hX hbl hbA (j := 1) rfl (by omega) (by omega) dL_law_117 dL_law_118 dL_law_119 dL_law_120 dL_law_121 (q := 122) rfl ?_
      refine v_arg F hX hbl hbA (j := 2) rfl (by omega) (by omega) dL_law_122 dL_law_123 dL_law_124 dL_law_125 dL_law_126 (q := 127) rfl ?_
      refine v_arg F hX hbl hbA (j := 3) rfl (by omega) (by omega) dL_law_127 dL_law_128 dL_law_129 dL_law_130 dL_law_131 (q := 132) rfl ?_
      refine v_lawC F ml_L_13 im_X7_layer se_X7_layer in_X7 co_X7_layer sd_X7_layer rfl (S2 := (fLayer (xs (i + 1)) (xs (i + 2)) (xs (i + 3)) S).2) (fun _ _ => k_X7_layer z g ga gb gc h ha hb hc hd o oa ob oc od ca m0 ma mb mc v0 t ta tb VI (xs (i + 1)) (xs (i + 2)) (xs (i + 3))) hcs (Nat.le_of_ble_eq_true rfl) (Nat.le_of_ble_eq_true rfl) (As := [.int (xs (i + 1)), .int (xs (i + 2)), .int (xs (i + 3))]) rfl (rest := []) rfl (Nat.le_of_ble_eq_true rfl) dL_law_132 (q := 135) rfl (fun X2 => ?_)
      refine v_aload_n F dL_law_135 (i := 2) rfl 2 rfl (q := 136) rfl ?_
      refine v_arg F hX hbl hbA (j := 1) rfl (by omega) (by omega) dL_law_136 dL_law_137 dL_law_138 dL_law_139 dL_law_140 (q := 141) rfl ?_
      refine v_arg F hX hbl hbA (j := 2) rfl (by omega) (by omega) dL_law_141 dL_law_142 dL_law_143 dL_law_144 dL_law_145 (q := 146) rfl ?_
      refine v_arg F hX hbl hbA (j := 3) rfl (by omega) (by omega) dL_law_146 dL_law_147 dL_law_148 dL_law_149 dL_law_150 (q := 151) rfl ?_
      refine v_lawM F ml_L_17 im_X8_layer se_X8_layer in_X8 co_X8_layer sd_X8_layer rfl (S2 := (fLayer (xs (i + 1)) (xs (i + 2)) (xs (i + 3)) S).2) (fun _ _ => k_X8_layer y0 y1 y2 y3 y4 y5 y6 y7 y8 y9 y10 y11 y12 y13 y14 VI (xs (i + 1)) (xs (i + 2)) (xs (i + 3))) hcs (Nat.le_of_ble_eq_true rfl) (Nat.le_of_ble_eq_true rfl) (As := [.int (xs (i + 1)), .int (xs (i + 2)), .int (xs (i + 3))]) rfl (rest := [.int (fLayer (xs (i + 1)) (xs (i + 2)) (xs (i + 3)) S).1]) rfl (Nat.le_of_ble_eq_true rfl) dL_law_151 (q := 154) rfl (fun Y2 => ?_)
      refine v_icmp_eq F dL_law_154 (tgt := 704) rfl (q := 157) rfl (fun _ => ?_) (fun c154 => absurd rfl c154)
      exact hend _ X2 Y2 (inv_layer VI)
    · refine v_tableIn F dL_law_32 (by rw [c32]; decide) (by rw [c32]; decide) (off := 127) (by rw [c32]; rfl) (tgt := 159) rfl ?_
      refine v_aload_n F dL_law_159 (i := 1) rfl 1 rfl (q := 160) rfl ?_
      refine v_arg F hX hbl hbA (j := 1) rfl (by omega) (by omega) dL_law_160 dL_law_161 dL_law_162 dL_law_163 dL_law_164 (q := 165) rfl ?_
      refine v_arg F hX hbl hbA (j := 2) rfl (by omega) (by omega) dL_law_165 dL_law_166 dL_law_167 dL_law_168 dL_law_169 (q := 170) rfl ?_
      refine v_arg F hX hbl hbA (j := 3) rfl (by omega) (by omega) dL_law_170 dL_law_171 dL_law_172 dL_law_173 dL_law_174 (q := 175) rfl ?_
      refine v_lawC F ml_L_18 im_X7_change se_X7_change in_X7 co_X7_change sd_X7_change rfl (S2 := (fChange (xs (i + 1)) (xs (i + 2)) (xs (i + 3)) S).2) (fun _ _ => k_X7_change z g ga gb gc h ha hb hc hd o oa ob oc od ca m0 ma mb mc v0 t ta tb VI (xs (i + 1)) (xs (i + 2)) (xs (i + 3))) hcs (Nat.le_of_ble_eq_true rfl) (Nat.le_of_ble_eq_true rfl) (As := [.int (xs (i + 1)), .int (xs (i + 2)), .int (xs (i + 3))]) rfl (rest := []) rfl (Nat.le_of_ble_eq_true rfl) dL_law_175 (q := 178) rfl (fun X2 => ?_)
      refine v_aload_n F dL_law_178 (i := 2) rfl 2 rfl (q := 179) rfl ?_
      refine v_arg F hX hbl hbA (j := 1) rfl (by omega) (by omega) dL_law_179 dL_law_180 dL_law_181 dL_law_182 dL_law_183 (q := 184) rfl ?_
      refine v_arg F hX hbl hbA (j := 2) rfl (by omega) (by omega) dL_law_184 dL_law_185 dL_law_186 dL_law_187 dL_law_188 (q := 189) rfl ?_
      refine v_arg F hX hbl hbA (j := 3) rfl (by omega) (by omega) dL_law_189 dL_law_190 dL_law_191 dL_law_192 dL_law_193 (q := 194) rfl ?_
      refine v_lawM F ml_L_21 im_X8_change se_X8_change in_X8 co_X8_change sd_X8_change rfl (S2 := (fChange (xs (i + 1)) (xs (i + 2)) (xs (i + 3)) S).2) (fun _ _ => k_X8_change y0 y1 y2 y3 y4 y5 y6 y7 y8 y9 y10 y11 y12 y13 y14 VI (xs (i + 1)) (xs (i + 2)) (xs (i + 3))) hcs (Nat.le_of_ble_eq_true rfl) (Nat.le_of_ble_eq_true rfl) (As := [.int (xs (i + 1)), .int (xs (i + 2)), .int (xs (i + 3))]) rfl (rest := [.int (fChange (xs (i + 1)) (xs (i + 2)) (xs (i + 3)) S).1]) rfl (Nat.le_of_ble_eq_true rfl) dL_law_194 (q := 197) rfl (fun Y2 => ?_)
      refine v_icmp_eq F dL_law_197 (tgt := 704) rfl (q := 200) rfl (fun _ => ?_) (fun c197 => absurd rfl c197)
      exact hend _ X2 Y2 (inv_change VI)
    · refine v_tableIn F dL_law_32 (by rw [c32]; decide) (by rw [c32]; decide) (off := 170) (by rw [c32]; rfl) (tgt := 202) rfl ?_
      refine v_aload_n F dL_law_202 (i := 1) rfl 1 rfl (q := 203) rfl ?_
      refine v_arg F hX hbl hbA (j := 1) rfl (by omega) (by omega) dL_law_203 dL_law_204 dL_law_205 dL_law_206 dL_law_207 (q := 208) rfl ?_
      refine v_arg F hX hbl hbA (j := 2) rfl (by omega) (by omega) dL_law_208 dL_law_209 dL_law_210 dL_law_211 dL_law_212 (q := 213) rfl ?_
      refine v_lawC F ml_L_22 im_X7_rule se_X7_rule in_X7 co_X7_rule sd_X7_rule rfl (S2 := (fRule (xs (i + 1)) (xs (i + 2)) S).2) (fun _ _ => k_X7_rule z g ga gb gc h ha hb hc hd o oa ob oc od ca m0 ma mb mc v0 t ta tb VI (xs (i + 1)) (xs (i + 2))) hcs (Nat.le_of_ble_eq_true rfl) (Nat.le_of_ble_eq_true rfl) (As := [.int (xs (i + 1)), .int (xs (i + 2))]) rfl (rest := []) rfl (Nat.le_of_ble_eq_true rfl) dL_law_213 (q := 216) rfl (fun X2 => ?_)
      refine v_aload_n F dL_law_216 (i := 2) rfl 2 rfl (q := 217) rfl ?_
      refine v_arg F hX hbl hbA (j := 1) rfl (by omega) (by omega) dL_law_217 dL_law_218 dL_law_219 dL_law_220 dL_law_221 (q := 222) rfl ?_
      refine v_arg F hX hbl hbA (j := 2) rfl (by omega) (by omega) dL_law_222 dL_law_223 dL_law_224 dL_law_225 dL_law_226 (q := 227) rfl ?_
      refine v_lawM F ml_L_26 im_X8_rule se_X8_rule in_X8 co_X8_rule sd_X8_rule rfl (S2 := (fRule (xs (i + 1)) (xs (i + 2)) S).2) (fun _ _ => k_X8_rule y0 y1 y2 y3 y4 y5 y6 y7 y8 y9 y10 y11 y12 y13 y14 VI (xs (i + 1)) (xs (i + 2))) hcs (Nat.le_of_ble_eq_true rfl) (Nat.le_of_ble_eq_true rfl) (As := [.int (xs (i + 1)), .int (xs (i + 2))]) rfl (rest := [.int (fRule (xs (i + 1)) (xs (i + 2)) S).1]) rfl (Nat.le_of_ble_eq_true rfl) dL_law_227 (q := 230) rfl (fun Y2 => ?_)
      refine v_icmp_eq F dL_law_230 (tgt := 704) rfl (q := 233) rfl (fun _ => ?_) (fun c230 => absurd rfl c230)
      exact hend _ X2 Y2 (inv_rule VI)
    · refine v_tableIn F dL_law_32 (by rw [c32]; decide) (by rw [c32]; decide) (off := 203) (by rw [c32]; rfl) (tgt := 235) rfl ?_
      refine v_aload_n F dL_law_235 (i := 1) rfl 1 rfl (q := 236) rfl ?_
      refine v_arg F hX hbl hbA (j := 1) rfl (by omega) (by omega) dL_law_236 dL_law_237 dL_law_238 dL_law_239 dL_law_240 (q := 241) rfl ?_
      refine v_arg F hX hbl hbA (j := 2) rfl (by omega) (by omega) dL_law_241 dL_law_242 dL_law_243 dL_law_244 dL_law_245 (q := 246) rfl ?_
      refine v_arg F hX hbl hbA (j := 3) rfl (by omega) (by omega) dL_law_246 dL_law_247 dL_law_248 dL_law_249 dL_law_250 (q := 251) rfl ?_
      refine v_arg F hX hbl hbA (j := 4) rfl (by omega) (by omega) dL_law_251 dL_law_252 dL_law_253 dL_law_254 dL_law_255 (q := 256) rfl ?_
      refine v_lawC F ml_L_27 im_X7_pile se_X7_pile in_X7 co_X7_pile sd_X7_pile rfl (S2 := (fPile (xs (i + 1)) (xs (i + 2)) (xs (i + 3)) (xs (i + 4)) S).2) (fun _ _ => k_X7_pile z g ga gb gc h ha hb hc hd o oa ob oc od ca m0 ma mb mc v0 t ta tb VI (xs (i + 1)) (xs (i + 2)) (xs (i + 3)) (xs (i + 4))) hcs (Nat.le_of_ble_eq_true rfl) (Nat.le_of_ble_eq_true rfl) (As := [.int (xs (i + 1)), .int (xs (i + 2)), .int (xs (i + 3)), .int (xs (i + 4))]) rfl (rest := []) rfl (Nat.le_of_ble_eq_true rfl) dL_law_256 (q := 259) rfl (fun X2 => ?_)
      refine v_aload_n F dL_law_259 (i := 2) rfl 2 rfl (q := 260) rfl ?_
      refine v_arg F hX hbl hbA (j := 1) rfl (by omega) (by omega) dL_law_260 dL_law_261 dL_law_262 dL_law_263 dL_law_264 (q := 265) rfl ?_
      refine v_arg F hX hbl hbA (j := 2) rfl (by omega) (by omega) dL_law_265 dL_law_266 dL_law_267 dL_law_268 dL_law_269 (q := 270) rfl ?_
      refine v_arg F hX hbl hbA (j := 3) rfl (by omega) (by omega) dL_law_270 dL_law_271 dL_law_272 dL_law_273 dL_law_274 (q := 275) rfl ?_
      refine v_arg F hX hbl hbA (j := 4) rfl (by omega) (by omega) dL_law_275 dL_law_276 dL_law_277 dL_law_278 dL_law_279 (q := 280) rfl ?_
      refine v_lawM F ml_L_31 im_X8_pile se_X8_pile in_X8 co_X8_pile sd_X8_pile rfl (S2 := (fPile (xs (i + 1)) (xs (i + 2)) (xs (i + 3)) (xs (i + 4)) S).2) (fun _ _ => k_X8_pile y0 y1 y2 y3 y4 y5 y6 y7 y8 y9 y10 y11 y12 y13 y14 VI (xs (i + 1)) (xs (i + 2)) (xs (i + 3)) (xs (i + 4))) hcs (Nat.le_of_ble_eq_true rfl) (Nat.le_of_ble_eq_true rfl) (As := [.int (xs (i + 1)), .int (xs (i + 2)), .int (xs (i + 3)), .int (xs (i + 4))]) rfl (rest := [.int (fPile (xs (i + 1)) (xs (i + 2)) (xs (i + 3)) (xs (i + 4)) S).1]) rfl (Nat.le_of_ble_eq_true rfl) dL_law_280 (q := 283) rfl (fun Y2 => ?_)
      refine v_icmp_eq F dL_law_283 (tgt := 704) rfl (q := 286) rfl (fun _ => ?_) (fun c283 => absurd rfl c283)
      exact hend _ X2 Y2 (inv_pile VI)
    · refine v_tableIn F dL_law_32 (by rw [c32]; decide) (by rw [c32]; decide) (off := 256) (by rw [c32]; rfl) (tgt := 288) rfl ?_
      refine v_aload_n F dL_law_288 (i := 1) rfl 1 rfl (q := 289) rfl ?_
      refine v_arg F hX hbl hbA (j := 1) rfl (by omega) (by omega) dL_law_289 dL_law_290 dL_law_291 dL_law_292 dL_law_293 (q := 294) rfl ?_
      refine v_arg F hX hbl hbA (j := 2) rfl (by omega) (by omega) dL_law_294 dL_law_295 dL_law_296 dL_law_297 dL_law_298 (q := 299) rfl ?_
      refine v_arg F hX hbl hbA (j := 3) rfl (by omega) (by omega) dL_law_299 dL_law_300 dL_law_301 dL_law_302 dL_law_303 (q := 304) rfl ?_
      refine v_lawC F ml_L_32 im_X7_shift se_X7_shift in_X7 co_X7_shift sd_X7_shift rfl (S2 := (fShift (xs (i + 1)) (xs (i + 2)) (xs (i + 3)) S).2) (fun _ _ => k_X7_shift z g ga gb gc h ha hb hc hd o oa ob oc od ca m0 ma mb mc v0 t ta tb VI (xs (i + 1)) (xs (i + 2)) (xs (i + 3))) hcs (Nat.le_of_ble_eq_true rfl) (Nat.le_of_ble_eq_true rfl) (As := [.int (xs (i + 1)), .int (xs (i + 2)), .int (xs (i + 3))]) rfl (rest := []) rfl (Nat.le_of_ble_eq_true rfl) dL_law_304 (q := 307) rfl (fun X2 => ?_)
      refine v_aload_n F dL_law_307 (i := 2) rfl 2 rfl (q := 308) rfl ?_
      refine v_arg F hX hbl hbA (j := 1) rfl (by omega) (by omega) dL_law_308 dL_law_309 dL_law_310 dL_law_311 dL_law_312 (q := 313) rfl ?_
      refine v_arg F hX hbl hbA (j := 2) rfl (by omega) (by omega) dL_law_313 dL_law_314 dL_law_315 dL_law_316 dL_law_317 (q := 318) rfl ?_
      refine v_arg F hX hbl hbA (j := 3) rfl (by omega) (by omega) dL_law_318 dL_law_319 dL_law_320 dL_law_321 dL_law_322 (q := 323) rfl ?_
      refine v_lawM F ml_L_35 im_X8_shift se_X8_shift in_X8 co_X8_shift sd_X8_shift rfl (S2 := (fShift (xs (i + 1)) (xs (i + 2)) (xs (i + 3)) S).2) (fun _ _ => k_X8_shift y0 y1 y2 y3 y4 y5 y6 y7 y8 y9 y10 y11 y12 y13 y14 VI (xs (i + 1)) (xs (i + 2)) (xs (i + 3))) hcs (Nat.le_of_ble_eq_true rfl) (Nat.le_of_ble_eq_true rfl) (As := [.int (xs (i + 1)), .int (xs (i + 2)), .int (xs (i + 3))]) rfl (rest := [.int (fShift (xs (i + 1)) (xs (i + 2)) (xs (i + 3)) S).1]) rfl (Nat.le_of_ble_eq_true rfl) dL_law_323 (q := 326) rfl (fun Y2 => ?_)
      refine v_icmp_eq F dL_law_326 (tgt := 704) rfl (q := 329) rfl (fun _ => ?_) (fun c326 => absurd rfl c326)
      exact hend _ X2 Y2 (inv_shift VI)
    · refine v_tableIn F dL_law_32 (by rw [c32]; decide) (by rw [c32]; decide) (off := 299) (by rw [c32]; rfl) (tgt := 331) rfl ?_
      by_cases hz : xs (i + 2) = 0
      · skip
        refine v_aload_n F dL_law_331 (i := 1) rfl 1 rfl (q := 332) rfl ?_
        refine v_arg F hX hbl hbA (j := 1) rfl (by omega) (by omega) dL_law_332 dL_law_333 dL_law_334 dL_law_335 dL_law_336 (q := 337) rfl ?_
        refine v_arg F hX hbl hbA (j := 2) rfl (by omega) (by omega) dL_law_337 dL_law_338 dL_law_339 dL_law_340 dL_law_341 (q := 342) rfl ?_
        refine v_if_eq F dL_law_342 (tgt := 349) rfl (q := 345) rfl (fun c342 => ?_) (fun c342 => absurd hz c342)
        refine v_iconst F dL_law_349 (v := bI false) (q := 350) rfl rfl ?_
        refine v_lawC F ml_L_36 im_X7_whole se_X7_whole in_X7 co_X7_whole sd_X7_whole rfl (S2 := (fWhole (xs (i + 1)) false S).2) (fun _ _ => k_X7_whole z g ga gb gc h ha hb hc hd o oa ob oc od ca m0 ma mb mc v0 t ta tb VI (xs (i + 1)) false) hcs (Nat.le_of_ble_eq_true rfl) (Nat.le_of_ble_eq_true rfl) (As := [.int (xs (i + 1)), .int (bI false)]) rfl (rest := []) rfl (Nat.le_of_ble_eq_true rfl) dL_law_350 (q := 353) rfl (fun X2 => ?_)
        refine v_aload_n F dL_law_353 (i := 2) rfl 2 rfl (q := 354) rfl ?_
        refine v_arg F hX hbl hbA (j := 1) rfl (by omega) (by omega) dL_law_354 dL_law_355 dL_law_356 dL_law_357 dL_law_358 (q := 359) rfl ?_
        refine v_arg F hX hbl hbA (j := 2) rfl (by omega) (by omega) dL_law_359 dL_law_360 dL_law_361 dL_law_362 dL_law_363 (q := 364) rfl ?_
        refine v_if_eq F dL_law_364 (tgt := 371) rfl (q := 367) rfl (fun c364 => ?_) (fun c364 => absurd hz c364)
        refine v_iconst F dL_law_371 (v := bI false) (q := 372) rfl rfl ?_
        refine v_lawM F ml_L_40 im_X8_whole se_X8_whole in_X8 co_X8_whole sd_X8_whole rfl (S2 := (fWhole (xs (i + 1)) false S).2) (fun _ _ => k_X8_whole y0 y1 y2 y3 y4 y5 y6 y7 y8 y9 y10 y11 y12 y13 y14 VI (xs (i + 1)) false) hcs (Nat.le_of_ble_eq_true rfl) (Nat.le_of_ble_eq_true rfl) (As := [.int (xs (i + 1)), .int (bI false)]) rfl (rest := [.int (fWhole (xs (i + 1)) false S).1]) rfl (Nat.le_of_ble_eq_true rfl) dL_law_372 (q := 375) rfl (fun Y2 => ?_)
        refine v_icmp_eq F dL_law_375 (tgt := 704) rfl (q := 378) rfl (fun _ => ?_) (fun c375 => absurd rfl c375)
        exact hend _ X2 Y2 (inv_whole VI)
      · skip
        refine v_aload_n F dL_law_331 (i := 1) rfl 1 rfl (q := 332) rfl ?_
        refine v_arg F hX hbl hbA (j := 1) rfl (by omega) (by omega) dL_law_332 dL_law_333 dL_law_334 dL_law_335 dL_law_336 (q := 337) rfl ?_
        refine v_arg F hX hbl hbA (j := 2) rfl (by omega) (by omega) dL_law_337 dL_law_338 dL_law_339 dL_law_340 dL_law_341 (q := 342) rfl ?_
        refine v_if_eq F dL_law_342 (tgt := 349) rfl (q := 345) rfl (fun c342 => absurd c342 hz) (fun c342 => ?_)
        refine v_iconst F dL_law_345 (v := bI true) (q := 346) rfl rfl ?_
        refine v_goto F dL_law_346 (tgt := 350) rfl ?_
        refine v_lawC F ml_L_36 im_X7_whole se_X7_whole in_X7 co_X7_whole sd_X7_whole rfl (S2 := (fWhole (xs (i + 1)) true S).2) (fun _ _ => k_X7_whole z g ga gb gc h ha hb hc hd o oa ob oc od ca m0 ma mb mc v0 t ta tb VI (xs (i + 1)) true) hcs (Nat.le_of_ble_eq_true rfl) (Nat.le_of_ble_eq_true rfl) (As := [.int (xs (i + 1)), .int (bI true)]) rfl (rest := []) rfl (Nat.le_of_ble_eq_true rfl) dL_law_350 (q := 353) rfl (fun X2 => ?_)
        refine v_aload_n F dL_law_353 (i := 2) rfl 2 rfl (q := 354) rfl ?_
        refine v_arg F hX hbl hbA (j := 1) rfl (by omega) (by omega) dL_law_354 dL_law_355 dL_law_356 dL_law_357 dL_law_358 (q := 359) rfl ?_
        refine v_arg F hX hbl hbA (j := 2) rfl (by omega) (by omega) dL_law_359 dL_law_360 dL_law_361 dL_law_362 dL_law_363 (q := 364) rfl ?_
        refine v_if_eq F dL_law_364 (tgt := 371) rfl (q := 367) rfl (fun c364 => absurd c364 hz) (fun c364 => ?_)
        refine v_iconst F dL_law_367 (v := bI true) (q := 368) rfl rfl ?_
        refine v_goto F dL_law_368 (tgt := 372) rfl ?_
        refine v_lawM F ml_L_40 im_X8_whole se_X8_whole in_X8 co_X8_whole sd_X8_whole rfl (S2 := (fWhole (xs (i + 1)) true S).2) (fun _ _ => k_X8_whole y0 y1 y2 y3 y4 y5 y6 y7 y8 y9 y10 y11 y12 y13 y14 VI (xs (i + 1)) true) hcs (Nat.le_of_ble_eq_true rfl) (Nat.le_of_ble_eq_true rfl) (As := [.int (xs (i + 1)), .int (bI true)]) rfl (rest := [.int (fWhole (xs (i + 1)) true S).1]) rfl (Nat.le_of_ble_eq_true rfl) dL_law_372 (q := 375) rfl (fun Y2 => ?_)
        refine v_icmp_eq F dL_law_375 (tgt := 704) rfl (q := 378) rfl (fun _ => ?_) (fun c375 => absurd rfl c375)
        exact hend _ X2 Y2 (inv_whole VI)
    · refine v_tableIn F dL_law_32 (by rw [c32]; decide) (by rw [c32]; decide) (off := 348) (by rw [c32]; rfl) (tgt := 380) rfl ?_
      refine v_aload_n F dL_law_380 (i := 1) rfl 1 rfl (q := 381) rfl ?_
      refine v_arg F hX hbl hbA (j := 1) rfl (by omega) (by omega) dL_law_381 dL_law_382 dL_law_383 dL_law_384 dL_law_385 (q := 386) rfl ?_
      refine v_arg F hX hbl hbA (j := 2) rfl (by omega) (by omega) dL_law_386 dL_law_387 dL_law_388 dL_law_389 dL_law_390 (q := 391) rfl ?_
      refine v_lawC F ml_L_41 im_X7_about se_X7_about in_X7 co_X7_about sd_X7_about rfl (S2 := (fAbout (xs (i + 1)) (xs (i + 2)) S).2) (fun _ _ => k_X7_about z g ga gb gc h ha hb hc hd o oa ob oc od ca m0 ma mb mc v0 t ta tb VI (xs (i + 1)) (xs (i + 2))) hcs (Nat.le_of_ble_eq_true rfl) (Nat.le_of_ble_eq_true rfl) (As := [.int (xs (i + 1)), .int (xs (i + 2))]) rfl (rest := []) rfl (Nat.le_of_ble_eq_true rfl) dL_law_391 (q := 394) rfl (fun X2 => ?_)
      refine v_aload_n F dL_law_394 (i := 2) rfl 2 rfl (q := 395) rfl ?_
      refine v_arg F hX hbl hbA (j := 1) rfl (by omega) (by omega) dL_law_395 dL_law_396 dL_law_397 dL_law_398 dL_law_399 (q := 400) rfl ?_
      refine v_arg F hX hbl hbA (j := 2) rfl (by omega) (by omega) dL_law_400 dL_law_401 dL_law_402 dL_law_403 dL_law_404 (q := 405) rfl ?_
      refine v_lawM F ml_L_44 im_X8_about se_X8_about in_X8 co_X8_about sd_X8_about rfl (S2 := (fAbout (xs (i + 1)) (xs (i + 2)) S).2) (fun _ _ => k_X8_about y0 y1 y2 y3 y4 y5 y6 y7 y8 y9 y10 y11 y12 y13 y14 VI (xs (i + 1)) (xs (i + 2))) hcs (Nat.le_of_ble_eq_true rfl) (Nat.le_of_ble_eq_true rfl) (As := [.int (xs (i + 1)), .int (xs (i + 2))]) rfl (rest := [.int (fAbout (xs (i + 1)) (xs (i + 2)) S).1]) rfl (Nat.le_of_ble_eq_true rfl) dL_law_405 (q := 408) rfl (fun Y2 => ?_)
      refine v_icmp_eq F dL_law_408 (tgt := 704) rfl (q := 411) rfl (fun _ => ?_) (fun c408 => absurd rfl c408)
      exact hend _ X2 Y2 (inv_about VI)
    · refine v_tableIn F dL_law_32 (by rw [c32]; decide) (by rw [c32]; decide) (off := 381) (by rw [c32]; rfl) (tgt := 413) rfl ?_
      refine v_aload_n F dL_law_413 (i := 1) rfl 1 rfl (q := 414) rfl ?_
      refine v_arg F hX hbl hbA (j := 1) rfl (by omega) (by omega) dL_law_414 dL_law_415 dL_law_416 dL_law_417 dL_law_418 (q := 419) rfl ?_
      refine v_arg F hX hbl hbA (j := 2) rfl (by omega) (by omega) dL_law_419 dL_law_420 dL_law_421 dL_law_422 dL_law_423 (q := 424) rfl ?_
      refine v_arg F hX hbl hbA (j := 3) rfl (by omega) (by omega) dL_law_424 dL_law_425 dL_law_426 dL_law_427 dL_law_428 (q := 429) rfl ?_
      refine v_arg F hX hbl hbA (j := 4) rfl (by omega) (by omega) dL_law_429 dL_law_430 dL_law_431 dL_law_432 dL_law_433 (q := 434) rfl ?_
      refine v_lawC F ml_L_45 im_X7_load se_X7_load in_X7 co_X7_load sd_X7_load rfl (S2 := (fLoad (xs (i + 1)) (xs (i + 2)) (xs (i + 3)) (xs (i + 4)) S).2) (fun _ _ => k_X7_load z g ga gb gc h ha hb hc hd o oa ob oc od ca m0 ma mb mc v0 t ta tb VI (xs (i + 1)) (xs (i + 2)) (xs (i + 3)) (xs (i + 4))) hcs (Nat.le_of_ble_eq_true rfl) (Nat.le_of_ble_eq_true rfl) (As := [.int (xs (i + 1)), .int (xs (i + 2)), .int (xs (i + 3)), .int (xs (i + 4))]) rfl (rest := []) rfl (Nat.le_of_ble_eq_true rfl) dL_law_434 (q := 437) rfl (fun X2 => ?_)
      refine v_aload_n F dL_law_437 (i := 2) rfl 2 rfl (q := 438) rfl ?_
      refine v_arg F hX hbl hbA (j := 1) rfl (by omega) (by omega) dL_law_438 dL_law_439 dL_law_440 dL_law_441 dL_law_442 (q := 443) rfl ?_
      refine v_arg F hX hbl hbA (j := 2) rfl (by omega) (by omega) dL_law_443 dL_law_444 dL_law_445 dL_law_446 dL_law_447 (q := 448) rfl ?_
      refine v_arg F hX hbl hbA (j := 3) rfl (by omega) (by omega) dL_law_448 dL_law_449 dL_law_450 dL_law_451 dL_law_452 (q := 453) rfl ?_
      refine v_arg F hX hbl hbA (j := 4) rfl (by omega) (by omega) dL_law_453 dL_law_454 dL_law_455 dL_law_456 dL_law_457 (q := 458) rfl ?_
      refine v_lawM F ml_L_48 im_X8_load se_X8_load in_X8 co_X8_load sd_X8_load rfl (S2 := (fLoad (xs (i + 1)) (xs (i + 2)) (xs (i + 3)) (xs (i + 4)) S).2) (fun _ _ => k_X8_load y0 y1 y2 y3 y4 y5 y6 y7 y8 y9 y10 y11 y12 y13 y14 VI (xs (i + 1)) (xs (i + 2)) (xs (i + 3)) (xs (i + 4))) hcs (Nat.le_of_ble_eq_true rfl) (Nat.le_of_ble_eq_true rfl) (As := [.int (xs (i + 1)), .int (xs (i + 2)), .int (xs (i + 3)), .int (xs (i + 4))]) rfl (rest := [.int (fLoad (xs (i + 1)) (xs (i + 2)) (xs (i + 3)) (xs (i + 4)) S).1]) rfl (Nat.le_of_ble_eq_true rfl) dL_law_458 (q := 461) rfl (fun Y2 => ?_)
      refine v_icmp_eq F dL_law_461 (tgt := 704) rfl (q := 464) rfl (fun _ => ?_) (fun c461 => absurd rfl c461)
      exact hend _ X2 Y2 (inv_load VI)
    · refine v_tableIn F dL_law_32 (by rw [c32]; decide) (by rw [c32]; decide) (off := 434) (by rw [c32]; rfl) (tgt := 466) rfl ?_
      refine v_aload_n F dL_law_466 (i := 1) rfl 1 rfl (q := 467) rfl ?_
      refine v_arg F hX hbl hbA (j := 1) rfl (by omega) (by omega) dL_law_467 dL_law_468 dL_law_469 dL_law_470 dL_law_471 (q := 472) rfl ?_
      refine v_lawC F ml_L_49 im_X7_noLoads se_X7_noLoads in_X7 co_X7_noLoads sd_X7_noLoads rfl (S2 := (fNoLoads (xs (i + 1)) S).2) (fun _ _ => k_X7_noLoads z g ga gb gc h ha hb hc hd o oa ob oc od ca m0 ma mb mc v0 t ta tb VI (xs (i + 1))) hcs (Nat.le_of_ble_eq_true rfl) (Nat.le_of_ble_eq_true rfl) (As := [.int (xs (i + 1))]) rfl (rest := []) rfl (Nat.le_of_ble_eq_true rfl) dL_law_472 (q := 475) rfl (fun X2 => ?_)
      refine v_aload_n F dL_law_475 (i := 2) rfl 2 rfl (q := 476) rfl ?_
      refine v_arg F hX hbl hbA (j := 1) rfl (by omega) (by omega) dL_law_476 dL_law_477 dL_law_478 dL_law_479 dL_law_480 (q := 481) rfl ?_
      refine v_lawM F ml_L_53 im_X8_noLoads se_X8_noLoads in_X8 co_X8_noLoads sd_X8_noLoads rfl (S2 := (fNoLoads (xs (i + 1)) S).2) (fun _ _ => k_X8_noLoads y0 y1 y2 y3 y4 y5 y6 y7 y8 y9 y10 y11 y12 y13 y14 VI (xs (i + 1))) hcs (Nat.le_of_ble_eq_true rfl) (Nat.le_of_ble_eq_true rfl) (As := [.int (xs (i + 1))]) rfl (rest := [.int (fNoLoads (xs (i + 1)) S).1]) rfl (Nat.le_of_ble_eq_true rfl) dL_law_481 (q := 484) rfl (fun Y2 => ?_)
      refine v_icmp_eq F dL_law_484 (tgt := 704) rfl (q := 487) rfl (fun _ => ?_) (fun c484 => absurd rfl c484)
      exact hend _ X2 Y2 (inv_noLoads VI)
    · refine v_tableIn F dL_law_32 (by rw [c32]; decide) (by rw [c32]; decide) (off := 457) (by rw [c32]; rfl) (tgt := 489) rfl ?_
      refine v_aload_n F dL_law_489 (i := 1) rfl 1 rfl (q := 490) rfl ?_
      refine v_arg F hX hbl hbA (j := 1) rfl (by omega) (by omega) dL_law_490 dL_law_491 dL_law_492 dL_law_493 dL_law_494 (q := 495) rfl ?_
      refine v_lawC F ml_L_54 im_X7_shares se_X7_shares in_X7 co_X7_shares sd_X7_shares rfl (S2 := (fShares (xs (i + 1)) S).2) (fun _ _ => k_X7_shares z g ga gb gc h ha hb hc hd o oa ob oc od ca m0 ma mb mc v0 t ta tb VI (xs (i + 1))) hcs (Nat.le_of_ble_eq_true rfl) (Nat.le_of_ble_eq_true rfl) (As := [.int (xs (i + 1))]) rfl (rest := []) rfl (Nat.le_of_ble_eq_true rfl) dL_law_495 (q := 498) rfl (fun X2 => ?_)
      refine v_aload_n F dL_law_498 (i := 2) rfl 2 rfl (q := 499) rfl ?_
      refine v_arg F hX hbl hbA (j := 1) rfl (by omega) (by omega) dL_law_499 dL_law_500 dL_law_501 dL_law_502 dL_law_503 (q := 504) rfl ?_
      refine v_lawM F ml_L_57 im_X8_shares se_X8_shares in_X8 co_X8_shares sd_X8_shares rfl (S2 := (fShares (xs (i + 1)) S).2) (fun _ _ => k_X8_shares y0 y1 y2 y3 y4 y5 y6 y7 y8 y9 y10 y11 y12 y13 y14 VI (xs (i + 1))) hcs (Nat.le_of_ble_eq_true rfl) (Nat.le_of_ble_eq_true rfl) (As := [.int (xs (i + 1))]) rfl (rest := [.int (fShares (xs (i + 1)) S).1]) rfl (Nat.le_of_ble_eq_true rfl) dL_law_504 (q := 507) rfl (fun Y2 => ?_)
      refine v_icmp_eq F dL_law_507 (tgt := 704) rfl (q := 510) rfl (fun _ => ?_) (fun c507 => absurd rfl c507)
      exact hend _ X2 Y2 (inv_shares VI)
    · refine v_tableIn F dL_law_32 (by rw [c32]; decide) (by rw [c32]; decide) (off := 480) (by rw [c32]; rfl) (tgt := 512) rfl ?_
      refine v_aload_n F dL_law_512 (i := 1) rfl 1 rfl (q := 513) rfl ?_
      refine v_arg F hX hbl hbA (j := 1) rfl (by omega) (by omega) dL_law_513 dL_law_514 dL_law_515 dL_law_516 dL_law_517 (q := 518) rfl ?_
      refine v_lawC F ml_L_58 im_X7_over se_X7_over in_X7 co_X7_over sd_X7_over rfl (S2 := (fOver (xs (i + 1)) S).2) (fun _ _ => k_X7_over z g ga gb gc h ha hb hc hd o oa ob oc od ca m0 ma mb mc v0 t ta tb VI (xs (i + 1))) hcs (Nat.le_of_ble_eq_true rfl) (Nat.le_of_ble_eq_true rfl) (As := [.int (xs (i + 1))]) rfl (rest := []) rfl (Nat.le_of_ble_eq_true rfl) dL_law_518 (q := 521) rfl (fun X2 => ?_)
      refine v_aload_n F dL_law_521 (i := 2) rfl 2 rfl (q := 522) rfl ?_
      refine v_arg F hX hbl hbA (j := 1) rfl (by omega) (by omega) dL_law_522 dL_law_523 dL_law_524 dL_law_525 dL_law_526 (q := 527) rfl ?_
      refine v_lawM F ml_L_61 im_X8_over se_X8_over in_X8 co_X8_over sd_X8_over rfl (S2 := (fOver (xs (i + 1)) S).2) (fun _ _ => k_X8_over y0 y1 y2 y3 y4 y5 y6 y7 y8 y9 y10 y11 y12 y13 y14 VI (xs (i + 1))) hcs (Nat.le_of_ble_eq_true rfl) (Nat.le_of_ble_eq_true rfl) (As := [.int (xs (i + 1))]) rfl (rest := [.int (fOver (xs (i + 1)) S).1]) rfl (Nat.le_of_ble_eq_true rfl) dL_law_527 (q := 530) rfl (fun Y2 => ?_)
      refine v_icmp_eq F dL_law_530 (tgt := 704) rfl (q := 533) rfl (fun _ => ?_) (fun c530 => absurd rfl c530)
      exact hend _ X2 Y2 (inv_over VI)
    · refine v_tableIn F dL_law_32 (by rw [c32]; decide) (by rw [c32]; decide) (off := 503) (by rw [c32]; rfl) (tgt := 535) rfl ?_
      refine v_aload_n F dL_law_535 (i := 1) rfl 1 rfl (q := 536) rfl ?_
      refine v_arg F hX hbl hbA (j := 1) rfl (by omega) (by omega) dL_law_536 dL_law_537 dL_law_538 dL_law_539 dL_law_540 (q := 541) rfl ?_
      refine v_lawC F ml_L_62 im_X7_end se_X7_end in_X7 co_X7_end sd_X7_end rfl (S2 := (fEnd (xs (i + 1)) S).2) (fun _ _ => k_X7_end z g ga gb gc h ha hb hc hd o oa ob oc od ca m0 ma mb mc v0 t ta tb VI (xs (i + 1))) hcs (Nat.le_of_ble_eq_true rfl) (Nat.le_of_ble_eq_true rfl) (As := [.int (xs (i + 1))]) rfl (rest := []) rfl (Nat.le_of_ble_eq_true rfl) dL_law_541 (q := 544) rfl (fun X2 => ?_)
      refine v_aload_n F dL_law_544 (i := 2) rfl 2 rfl (q := 545) rfl ?_
      refine v_arg F hX hbl hbA (j := 1) rfl (by omega) (by omega) dL_law_545 dL_law_546 dL_law_547 dL_law_548 dL_law_549 (q := 550) rfl ?_
      refine v_lawM F ml_L_65 im_X8_end se_X8_end in_X8 co_X8_end sd_X8_end rfl (S2 := (fEnd (xs (i + 1)) S).2) (fun _ _ => k_X8_end y0 y1 y2 y3 y4 y5 y6 y7 y8 y9 y10 y11 y12 y13 y14 VI (xs (i + 1))) hcs (Nat.le_of_ble_eq_true rfl) (Nat.le_of_ble_eq_true rfl) (As := [.int (xs (i + 1))]) rfl (rest := [.int (fEnd (xs (i + 1)) S).1]) rfl (Nat.le_of_ble_eq_true rfl) dL_law_550 (q := 553) rfl (fun Y2 => ?_)
      refine v_icmp_eq F dL_law_553 (tgt := 704) rfl (q := 556) rfl (fun _ => ?_) (fun c553 => absurd rfl c553)
      exact hend _ X2 Y2 (inv_end VI)
    · refine v_tableIn F dL_law_32 (by rw [c32]; decide) (by rw [c32]; decide) (off := 526) (by rw [c32]; rfl) (tgt := 558) rfl ?_
      refine v_aload_n F dL_law_558 (i := 1) rfl 1 rfl (q := 559) rfl ?_
      refine v_lawC F ml_L_66 im_X7_least se_X7_least in_X7 co_X7_least sd_X7_least rfl (S2 := (fLeast S).2) (fun _ _ => k_X7_least z g ga gb gc h ha hb hc hd o oa ob oc od ca m0 ma mb mc v0 t ta tb VI ) hcs (Nat.le_of_ble_eq_true rfl) (Nat.le_of_ble_eq_true rfl) (As := []) rfl (rest := []) rfl (Nat.le_of_ble_eq_true rfl) dL_law_559 (q := 562) rfl (fun X2 => ?_)
      refine v_aload_n F dL_law_562 (i := 2) rfl 2 rfl (q := 563) rfl ?_
      refine v_lawM F ml_L_70 im_X8_least se_X8_least in_X8 co_X8_least sd_X8_least rfl (S2 := (fLeast S).2) (fun _ _ => k_X8_least y0 y1 y2 y3 y4 y5 y6 y7 y8 y9 y10 y11 y12 y13 y14 VI ) hcs (Nat.le_of_ble_eq_true rfl) (Nat.le_of_ble_eq_true rfl) (As := []) rfl (rest := [.int (fLeast S).1]) rfl (Nat.le_of_ble_eq_true rfl) dL_law_563 (q := 566) rfl (fun Y2 => ?_)
      refine v_icmp_eq F dL_law_566 (tgt := 704) rfl (q := 569) rfl (fun _ => ?_) (fun c566 => absurd rfl c566)
      exact hend _ X2 Y2 (inv_least VI)
    · refine v_tableIn F dL_law_32 (by rw [c32]; decide) (by rw [c32]; decide) (off := 539) (by rw [c32]; rfl) (tgt := 571) rfl ?_
      refine v_aload_n F dL_law_571 (i := 1) rfl 1 rfl (q := 572) rfl ?_
      refine v_arg F hX hbl hbA (j := 1) rfl (by omega) (by omega) dL_law_572 dL_law_573 dL_law_574 dL_law_575 dL_law_576 (q := 577) rfl ?_
      refine v_arg F hX hbl hbA (j := 2) rfl (by omega) (by omega) dL_law_577 dL_law_578 dL_law_579 dL_law_580 dL_law_581 (q := 582) rfl ?_
      refine v_arg F hX hbl hbA (j := 3) rfl (by omega) (by omega) dL_law_582 dL_law_583 dL_law_584 dL_law_585 dL_law_586 (q := 587) rfl ?_
      refine v_lawC F ml_L_71 im_X7_drive se_X7_drive in_X7 co_X7_drive sd_X7_drive rfl (S2 := (fDrive (xs (i + 1)) (xs (i + 2)) (xs (i + 3)) S).2) (fun _ _ => k_X7_drive z g ga gb gc h ha hb hc hd o oa ob oc od ca m0 ma mb mc v0 t ta tb VI (xs (i + 1)) (xs (i + 2)) (xs (i + 3))) hcs (Nat.le_of_ble_eq_true rfl) (Nat.le_of_ble_eq_true rfl) (As := [.int (xs (i + 1)), .int (xs (i + 2)), .int (xs (i + 3))]) rfl (rest := []) rfl (Nat.le_of_ble_eq_true rfl) dL_law_587 (q := 590) rfl (fun X2 => ?_)
      refine v_aload_n F dL_law_590 (i := 2) rfl 2 rfl (q := 591) rfl ?_
      refine v_arg F hX hbl hbA (j := 1) rfl (by omega) (by omega) dL_law_591 dL_law_592 dL_law_593 dL_law_594 dL_law_595 (q := 596) rfl ?_
      refine v_arg F hX hbl hbA (j := 2) rfl (by omega) (by omega) dL_law_596 dL_law_597 dL_law_598 dL_law_599 dL_law_600 (q := 601) rfl ?_
      refine v_arg F hX hbl hbA (j := 3) rfl (by omega) (by omega) dL_law_601 dL_law_602 dL_law_603 dL_law_604 dL_law_605 (q := 606) rfl ?_
      refine v_lawM F ml_L_74 im_X8_drive se_X8_drive in_X8 co_X8_drive sd_X8_drive rfl (S2 := (fDrive (xs (i + 1)) (xs (i + 2)) (xs (i + 3)) S).2) (fun _ _ => k_X8_drive y0 y1 y2 y3 y4 y5 y6 y7 y8 y9 y10 y11 y12 y13 y14 VI (xs (i + 1)) (xs (i + 2)) (xs (i + 3))) hcs (Nat.le_of_ble_eq_true rfl) (Nat.le_of_ble_eq_true rfl) (As := [.int (xs (i + 1)), .int (xs (i + 2)), .int (xs (i + 3))]) rfl (rest := [.int (fDrive (xs (i + 1)) (xs (i + 2)) (xs (i + 3)) S).1]) rfl (Nat.le_of_ble_eq_true rfl) dL_law_606 (q := 609) rfl (fun Y2 => ?_)
      refine v_icmp_eq F dL_law_609 (tgt := 704) rfl (q := 612) rfl (fun _ => ?_) (fun c609 => absurd rfl c609)
      exact hend _ X2 Y2 (inv_drive VI)
    · refine v_tableIn F dL_law_32 (by rw [c32]; decide) (by rw [c32]; decide) (off := 582) (by rw [c32]; rfl) (tgt := 614) rfl ?_
      refine v_aload_n F dL_law_614 (i := 1) rfl 1 rfl (q := 615) rfl ?_
      refine v_arg F hX hbl hbA (j := 1) rfl (by omega) (by omega) dL_law_615 dL_law_616 dL_law_617 dL_law_618 dL_law_619 (q := 620) rfl ?_
      refine v_arg F hX hbl hbA (j := 2) rfl (by omega) (by omega) dL_law_620 dL_law_621 dL_law_622 dL_law_623 dL_law_624 (q := 625) rfl ?_
      refine v_lawC F ml_L_75 im_X7_drag se_X7_drag in_X7 co_X7_drag sd_X7_drag rfl (S2 := (fDrag (xs (i + 1)) (xs (i + 2)) S).2) (fun _ _ => k_X7_drag z g ga gb gc h ha hb hc hd o oa ob oc od ca m0 ma mb mc v0 t ta tb VI (xs (i + 1)) (xs (i + 2))) hcs (Nat.le_of_ble_eq_true rfl) (Nat.le_of_ble_eq_true rfl) (As := [.int (xs (i + 1)), .int (xs (i + 2))]) rfl (rest := []) rfl (Nat.le_of_ble_eq_true rfl) dL_law_625 (q := 628) rfl (fun X2 => ?_)
      refine v_aload_n F dL_law_628 (i := 2) rfl 2 rfl (q := 629) rfl ?_
      refine v_arg F hX hbl hbA (j := 1) rfl (by omega) (by omega) dL_law_629 dL_law_630 dL_law_631 dL_law_632 dL_law_633 (q := 634) rfl ?_
      refine v_arg F hX hbl hbA (j := 2) rfl (by omega) (by omega) dL_law_634 dL_law_635 dL_law_636 dL_law_637 dL_law_638 (q := 639) rfl ?_
      refine v_lawM F ml_L_78 im_X8_drag se_X8_drag in_X8 co_X8_drag sd_X8_drag rfl (S2 := (fDrag (xs (i + 1)) (xs (i + 2)) S).2) (fun _ _ => k_X8_drag y0 y1 y2 y3 y4 y5 y6 y7 y8 y9 y10 y11 y12 y13 y14 VI (xs (i + 1)) (xs (i + 2))) hcs (Nat.le_of_ble_eq_true rfl) (Nat.le_of_ble_eq_true rfl) (As := [.int (xs (i + 1)), .int (xs (i + 2))]) rfl (rest := [.int (fDrag (xs (i + 1)) (xs (i + 2)) S).1]) rfl (Nat.le_of_ble_eq_true rfl) dL_law_639 (q := 642) rfl (fun Y2 => ?_)
      refine v_icmp_eq F dL_law_642 (tgt := 704) rfl (q := 645) rfl (fun _ => ?_) (fun c642 => absurd rfl c642)
      exact hend _ X2 Y2 (inv_drag VI)
    · refine v_tableIn F dL_law_32 (by rw [c32]; decide) (by rw [c32]; decide) (off := 615) (by rw [c32]; rfl) (tgt := 647) rfl ?_
      refine v_aload_n F dL_law_647 (i := 1) rfl 1 rfl (q := 648) rfl ?_
      refine v_arg F hX hbl hbA (j := 1) rfl (by omega) (by omega) dL_law_648 dL_law_649 dL_law_650 dL_law_651 dL_law_652 (q := 653) rfl ?_
      refine v_arg F hX hbl hbA (j := 2) rfl (by omega) (by omega) dL_law_653 dL_law_654 dL_law_655 dL_law_656 dL_law_657 (q := 658) rfl ?_
      refine v_lawC F ml_L_79 im_X7_number se_X7_number in_X7 co_X7_number sd_X7_number rfl (S2 := (fNumber (xs (i + 1)) (xs (i + 2)) S).2) (fun _ _ => k_X7_number z g ga gb gc h ha hb hc hd o oa ob oc od ca m0 ma mb mc v0 t ta tb VI (xs (i + 1)) (xs (i + 2))) hcs (Nat.le_of_ble_eq_true rfl) (Nat.le_of_ble_eq_true rfl) (As := [.int (xs (i + 1)), .int (xs (i + 2))]) rfl (rest := []) rfl (Nat.le_of_ble_eq_true rfl) dL_law_658 (q := 661) rfl (fun X2 => ?_)
      refine v_aload_n F dL_law_661 (i := 2) rfl 2 rfl (q := 662) rfl ?_
      refine v_arg F hX hbl hbA (j := 1) rfl (by omega) (by omega) dL_law_662 dL_law_663 dL_law_664 dL_law_665 dL_law_666 (q := 667) rfl ?_
      refine v_arg F hX hbl hbA (j := 2) rfl (by omega) (by omega) dL_law_667 dL_law_668 dL_law_669 dL_law_670 dL_law_671 (q := 672) rfl ?_
      refine v_lawM F ml_L_83 im_X8_number se_X8_number in_X8 co_X8_number sd_X8_number rfl (S2 := (fNumber (xs (i + 1)) (xs (i + 2)) S).2) (fun _ _ => k_X8_number y0 y1 y2 y3 y4 y5 y6 y7 y8 y9 y10 y11 y12 y13 y14 VI (xs (i + 1)) (xs (i + 2))) hcs (Nat.le_of_ble_eq_true rfl) (Nat.le_of_ble_eq_true rfl) (As := [.int (xs (i + 1)), .int (xs (i + 2))]) rfl (rest := [.long (fNumber (xs (i + 1)) (xs (i + 2)) S).1]) rfl (Nat.le_of_ble_eq_true rfl) dL_law_672 (q := 675) rfl (fun Y2 => ?_)
      refine v_lcmp_eq F dL_law_675 dL_law_676 (tgt := 704) rfl (q := 679) rfl (fun _ => ?_) (fun c675 => absurd rfl c675)
      exact hend _ X2 Y2 (inv_number VI)
    · refine v_tableIn F dL_law_32 (by rw [c32]; decide) (by rw [c32]; decide) (off := 649) (by rw [c32]; rfl) (tgt := 681) rfl ?_
      refine v_aload_n F dL_law_681 (i := 1) rfl 1 rfl (q := 682) rfl ?_
      refine v_arg F hX hbl hbA (j := 1) rfl (by omega) (by omega) dL_law_682 dL_law_683 dL_law_684 dL_law_685 dL_law_686 (q := 687) rfl ?_
      refine v_lawC F ml_L_84 im_X7_count se_X7_count in_X7 co_X7_count sd_X7_count rfl (S2 := (fCount (xs (i + 1)) S).2) (fun _ _ => k_X7_count z g ga gb gc h ha hb hc hd o oa ob oc od ca m0 ma mb mc v0 t ta tb VI (xs (i + 1))) hcs (Nat.le_of_ble_eq_true rfl) (Nat.le_of_ble_eq_true rfl) (As := [.int (xs (i + 1))]) rfl (rest := []) rfl (Nat.le_of_ble_eq_true rfl) dL_law_687 (q := 690) rfl (fun X2 => ?_)
      refine v_aload_n F dL_law_690 (i := 2) rfl 2 rfl (q := 691) rfl ?_
      refine v_arg F hX hbl hbA (j := 1) rfl (by omega) (by omega) dL_law_691 dL_law_692 dL_law_693 dL_law_694 dL_law_695 (q := 696) rfl ?_
      refine v_lawM F ml_L_87 im_X8_count se_X8_count in_X8 co_X8_count sd_X8_count rfl (S2 := (fCount (xs (i + 1)) S).2) (fun _ _ => k_X8_count y0 y1 y2 y3 y4 y5 y6 y7 y8 y9 y10 y11 y12 y13 y14 VI (xs (i + 1))) hcs (Nat.le_of_ble_eq_true rfl) (Nat.le_of_ble_eq_true rfl) (As := [.int (xs (i + 1))]) rfl (rest := [.int (fCount (xs (i + 1)) S).1]) rfl (Nat.le_of_ble_eq_true rfl) dL_law_696 (q := 699) rfl (fun Y2 => ?_)
      refine v_icmp_eq F dL_law_699 (tgt := 704) rfl (q := 702) rfl (fun _ => ?_) (fun c699 => absurd rfl c699)
      exact hend _ X2 Y2 (inv_count VI)
    · refine v_tableOut F dL_law_32 (by omega) (tgt := 704) rfl ?_
      exact hend S X Y VI
