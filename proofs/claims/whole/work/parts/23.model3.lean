section MO
variable {l : Launch} {D : va_G} {cI cJ cZ : ClassId}
set_option maxHeartbeats 4000000 in
set_option maxRecDepth 100000 in
theorem c_X8_isLess (a b c0 d0 : Nat) (ha : a < 2 ^ 63) (hb0 : b < 2 ^ 63) (hc : c0 < 2 ^ 63) (hd0 : d0 < 2 ^ 63) (hb : 0 < b) (hd : 0 < d0) : Ct l D (TY cI cJ cZ) yX8_isLess cX8_isLess 25 (some .boolean) 0 0 0 0 [.long (lN a), .long (lN b), .long (lN c0), .long (lN d0)] [] (fun r w => r = some (.int (bI (decide (a * d0 < c0 * b)))) ∧ w = []) := by
  refine Ct.ofI (ty := .boolean) (by decide) (Nat.le_of_ble_eq_true rfl) ?_
  intro p e s m args below meth c A R Q F hnm hcs0 hE
  refine v_lv (lv' := [(0, .long (lN a)), (2, .long (lN b)), (4, .long (lN c0)), (6, .long (lN d0))]) [0, 1, 2, 3] rfl ?_
  refine v_lload_n F dX8_isLess_0 (i := 0) rfl 0 rfl (q := 1) rfl ?_
  refine v_lstore F dX8_isLess_1 (lv' := [(8, .long (lN a)), (0, .long (lN a)), (2, .long (lN b)), (4, .long (lN c0)), (6, .long (lN d0))]) (Nat.le_of_ble_eq_true rfl) rfl (q := 3) rfl ?_
  refine v_lload_n F dX8_isLess_3 (i := 2) rfl 2 rfl (q := 4) rfl ?_
  refine v_lstore F dX8_isLess_4 (lv' := [(10, .long (lN b)), (8, .long (lN a)), (0, .long (lN a)), (2, .long (lN b)), (4, .long (lN c0)), (6, .long (lN d0))]) (Nat.le_of_ble_eq_true rfl) rfl (q := 6) rfl ?_
  refine v_lload F dX8_isLess_6 4 rfl (q := 8) rfl ?_
  refine v_lstore F dX8_isLess_8 (lv' := [(12, .long (lN c0)), (10, .long (lN b)), (8, .long (lN a)), (0, .long (lN a)), (2, .long (lN b)), (4, .long (lN c0)), (6, .long (lN d0))]) (Nat.le_of_ble_eq_true rfl) rfl (q := 10) rfl ?_
  refine v_lload F dX8_isLess_10 6 rfl (q := 12) rfl ?_
  refine v_lstore F dX8_isLess_12 (lv' := [(14, .long (lN d0)), (12, .long (lN c0)), (10, .long (lN b)), (8, .long (lN a)), (0, .long (lN a)), (2, .long (lN b)), (4, .long (lN c0)), (6, .long (lN d0))]) (Nat.le_of_ble_eq_true rfl) rfl (q := 14) rfl ?_
  refine v_iconst F dX8_isLess_14 (v := 0) (q := 15) rfl rfl ?_
  refine v_istore F dX8_isLess_15 (lv' := [(16, .int 0), (14, .long (lN d0)), (12, .long (lN c0)), (10, .long (lN b)), (8, .long (lN a)), (0, .long (lN a)), (2, .long (lN b)), (4, .long (lN c0)), (6, .long (lN d0))]) (Nat.le_of_ble_eq_true rfl) rfl (q := 17) rfl ?_
  have L17 : ∀ (f x y z t : Nat) (tb : Bool), y = f → x < 2 ^ 63 → y < 2 ^ 63 → z < 2 ^ 63 → t < 2 ^ 63 → 0 < y → 0 < t → cmpF a b c0 d0 = (if tb = true then cmpF z t x y else cmpF x y z t) → V p l e R s m args below meth c D A 25 0 0 Q 17 [(8, .long (lN x)), (10, .long (lN y)), (12, .long (lN z)), (14, .long (lN t)), (16, .int (bI tb))] [] [] := by
    intro f
    induction f using Nat.strongRecOn with
    | _ f ih => ?_
    intro x y z t tb hf hx hy63 hz ht63 hy ht hg
    have m1 := Nat.div_le_self x y
    have m2 := Nat.div_le_self z t
    have m3 := Nat.mod_lt x hy
    have m4 := Nat.mod_lt z ht
    cases tb
    · skip
      simp only [Bool.false_eq_true, if_false] at hg
      refine v_lload F dX8_isLess_17 0 rfl (q := 19) rfl ?_
      refine v_lload F dX8_isLess_19 1 rfl (q := 21) rfl ?_
      refine v_ldiv F dX8_isLess_21 (fun q => by have := lz_eq (by omega) q; omega) (q := 22) rfl ?_
      refine v_long (y := lN (x / y)) (pk_lDiv (by omega) hy (by omega)) ?_
      refine v_lstore F dX8_isLess_22 (lv' := [(17, .long (lN (x / y))), (8, .long (lN x)), (10, .long (lN y)), (12, .long (lN z)), (14, .long (lN t)), (16, .int (bI false))]) (Nat.le_of_ble_eq_true rfl) rfl (q := 24) rfl ?_
      refine v_lload F dX8_isLess_24 3 rfl (q := 26) rfl ?_
      refine v_lload F dX8_isLess_26 4 rfl (q := 28) rfl ?_
      refine v_ldiv F dX8_isLess_28 (fun q => by have := lz_eq (by omega) q; omega) (q := 29) rfl ?_
      refine v_long (y := lN (z / t)) (pk_lDiv (by omega) ht (by omega)) ?_
      refine v_lstore F dX8_isLess_29 (lv' := [(19, .long (lN (z / t))), (17, .long (lN (x / y))), (8, .long (lN x)), (10, .long (lN y)), (12, .long (lN z)), (14, .long (lN t)), (16, .int (bI false))]) (Nat.le_of_ble_eq_true rfl) rfl (q := 31) rfl ?_
      refine v_lload F dX8_isLess_31 1 rfl (q := 33) rfl ?_
      refine v_lload F dX8_isLess_33 0 rfl (q := 35) rfl ?_
      refine v_lcmp_eq F dX8_isLess_35 dX8_isLess_36 (tgt := 74) rfl (q := 39) rfl (fun c35 => ?_) (fun c35 => ?_)
      · skip
        have heq : x / y = z / t := (pk_lEQ (by omega) (by omega)).mp c35
        refine v_lload F dX8_isLess_74 2 rfl (q := 76) rfl ?_
        refine v_lload F dX8_isLess_76 1 rfl (q := 78) rfl ?_
        refine v_lload F dX8_isLess_78 3 rfl (q := 80) rfl ?_
        refine v_lmul F dX8_isLess_80 (q := 81) rfl ?_
        refine v_lsub F dX8_isLess_81 (q := 82) rfl ?_
        refine v_long (y := lN (x % y)) (lN_rem) ?_
        refine v_lstore F dX8_isLess_82 (lv' := [(21, .long (lN (x % y))), (19, .long (lN (z / t))), (17, .long (lN (x / y))), (8, .long (lN x)), (10, .long (lN y)), (12, .long (lN z)), (14, .long (lN t)), (16, .int (bI false))]) (Nat.le_of_ble_eq_true rfl) rfl (q := 84) rfl ?_
        refine v_lload F dX8_isLess_84 5 rfl (q := 86) rfl ?_
        refine v_lload F dX8_isLess_86 1 rfl (q := 88) rfl ?_
        refine v_lload F dX8_isLess_88 6 rfl (q := 90) rfl ?_
        refine v_lmul F dX8_isLess_90 (q := 91) rfl ?_
        refine v_lsub F dX8_isLess_91 (q := 92) rfl ?_
        refine v_long (y := lN (z % t)) (lN_rem) ?_
        refine v_lstore F dX8_isLess_92 (lv' := [(23, .long (lN (z % t))), (21, .long (lN (x % y))), (19, .long (lN (z / t))), (17, .long (lN (x / y))), (8, .long (lN x)), (10, .long (lN y)), (12, .long (lN z)), (14, .long (lN t)), (16, .int (bI false))]) (Nat.le_of_ble_eq_true rfl) rfl (q := 94) rfl ?_
        refine v_lload F dX8_isLess_94 1 rfl (q := 96) rfl ?_
        refine v_lconst F dX8_isLess_96 (v := 0) (q := 97) rfl rfl ?_
        refine v_lcmp_eq F dX8_isLess_97 dX8_isLess_98 (tgt := 108) rfl (q := 101) rfl (fun c97 => ?_) (fun c97 => ?_)
        · skip
          have hz97 := lz_eq (by omega) c97
          refine v_iload F dX8_isLess_108 8 rfl (q := 110) rfl ?_
          refine v_if_eq F dX8_isLess_110 (tgt := 135) rfl (q := 113) rfl (fun c110 => ?_) (fun c110 => ?_)
          · skip
            refine v_lload F dX8_isLess_135 1 rfl (q := 137) rfl ?_
            refine v_lconst F dX8_isLess_137 (v := 0) (q := 138) rfl rfl ?_
            refine v_lcmp_ne F dX8_isLess_138 dX8_isLess_139 (tgt := 153) rfl (q := 142) rfl (fun c138 => ?_) (fun c138 => ?_)
            · skip
              have hz138 := lz_ne c138
              refine v_iconst F dX8_isLess_153 (v := 0) (q := 154) rfl rfl ?_
              exact hE (by first | rfl | exact bI_nar _) dX8_isLess_154 (Nat.zero_le _) (Nat.zero_le _) ⟨⟨by rw [lt_of_cmp ((hg.trans (cmpF_rest heq)).trans (cmpF_z hy ht (by omega))), sgn_lt, decide_eq_false (by omega)]; rfl, rfl⟩, Nat.le_of_ble_eq_true rfl⟩
            · skip
              have hz138 := lz_eq (by omega) c138
              refine v_lload F dX8_isLess_142 0 rfl (q := 144) rfl ?_
              refine v_lconst F dX8_isLess_144 (v := 0) (q := 145) rfl rfl ?_
              refine v_lcmp_eq F dX8_isLess_145 dX8_isLess_146 (tgt := 153) rfl (q := 149) rfl (fun c145 => ?_) (fun c145 => ?_)
              · skip
                have hz145 := lz_eq (by omega) c145
                refine v_iconst F dX8_isLess_153 (v := 0) (q := 154) rfl rfl ?_
                exact hE (by first | rfl | exact bI_nar _) dX8_isLess_154 (Nat.zero_le _) (Nat.zero_le _) ⟨⟨by rw [lt_of_cmp ((hg.trans (cmpF_rest heq)).trans (cmpF_z hy ht (by omega))), sgn_lt, decide_eq_false (by omega)]; rfl, rfl⟩, Nat.le_of_ble_eq_true rfl⟩
              · skip
                have hz145 := lz_ne c145
                refine v_iconst F dX8_isLess_149 (v := 1) (q := 150) rfl rfl ?_
                refine v_goto F dX8_isLess_150 (tgt := 154) rfl ?_
                exact hE (by first | rfl | exact bI_nar _) dX8_isLess_154 (Nat.zero_le _) (Nat.zero_le _) ⟨⟨by rw [lt_of_cmp ((hg.trans (cmpF_rest heq)).trans (cmpF_z hy ht (by omega))), sgn_lt, decide_eq_true (by omega)]; rfl, rfl⟩, Nat.le_of_ble_eq_true rfl⟩
          · exact absurd rfl c110
        · skip
          have hz97 := lz_ne c97
          refine v_lload F dX8_isLess_101 0 rfl (q := 103) rfl ?_
          refine v_lconst F dX8_isLess_103 (v := 0) (q := 104) rfl rfl ?_
          refine v_lcmp_ne F dX8_isLess_104 dX8_isLess_105 (tgt := 155) rfl (q := 108) rfl (fun c104 => ?_) (fun c104 => ?_)
          · skip
            have hz104 := lz_ne c104
            refine v_lload F dX8_isLess_155 5 rfl (q := 157) rfl ?_
            refine v_lstore F dX8_isLess_157 (lv' := [(8, .long (lN y)), (23, .long (lN (z % t))), (21, .long (lN (x % y))), (19, .long (lN (z / t))), (17, .long (lN (x / y))), (10, .long (lN y)), (12, .long (lN z)), (14, .long (lN t)), (16, .int (bI false))]) (Nat.le_of_ble_eq_true rfl) rfl (q := 159) rfl ?_
            refine v_lload F dX8_isLess_159 2 rfl (q := 161) rfl ?_
            refine v_lstore F dX8_isLess_161 (lv' := [(10, .long (lN (x % y))), (8, .long (lN y)), (23, .long (lN (z % t))), (21, .long (lN (x % y))), (19, .long (lN (z / t))), (17, .long (lN (x / y))), (12, .long (lN z)), (14, .long (lN t)), (16, .int (bI false))]) (Nat.le_of_ble_eq_true rfl) rfl (q := 163) rfl ?_
            refine v_lload F dX8_isLess_163 7 rfl (q := 165) rfl ?_
            refine v_lstore F dX8_isLess_165 (lv' := [(12, .long (lN t)), (10, .long (lN (x % y))), (8, .long (lN y)), (23, .long (lN (z % t))), (21, .long (lN (x % y))), (19, .long (lN (z / t))), (17, .long (lN (x / y))), (14, .long (lN t)), (16, .int (bI false))]) (Nat.le_of_ble_eq_true rfl) rfl (q := 167) rfl ?_
            refine v_lload F dX8_isLess_167 3 rfl (q := 169) rfl ?_
            refine v_lstore F dX8_isLess_169 (lv' := [(14, .long (lN (z % t))), (12, .long (lN t)), (10, .long (lN (x % y))), (8, .long (lN y)), (23, .long (lN (z % t))), (21, .long (lN (x % y))), (19, .long (lN (z / t))), (17, .long (lN (x / y))), (16, .int (bI false))]) (Nat.le_of_ble_eq_true rfl) rfl (q := 171) rfl ?_
            refine v_iload F dX8_isLess_171 8 rfl (q := 173) rfl ?_
            refine v_if_ne F dX8_isLess_173 (tgt := 180) rfl (q := 176) rfl (fun c173 => ?_) (fun c173 => ?_)
            · exact absurd rfl c173
            · skip
              refine v_iconst F dX8_isLess_176 (v := 1) (q := 177) rfl rfl ?_
              refine v_goto F dX8_isLess_177 (tgt := 181) rfl ?_
              refine v_istore F dX8_isLess_181 (lv' := [(16, .int 1), (14, .long (lN (z % t))), (12, .long (lN t)), (10, .long (lN (x % y))), (8, .long (lN y)), (23, .long (lN (z % t))), (21, .long (lN (x % y))), (19, .long (lN (z / t))), (17, .long (lN (x / y)))]) (Nat.le_of_ble_eq_true rfl) rfl (q := 183) rfl ?_
              refine v_goto F dX8_isLess_183 (tgt := 17) rfl ?_
              refine v_lv (lv' := [(8, .long (lN y)), (10, .long (lN (x % y))), (12, .long (lN t)), (14, .long (lN (z % t))), (16, .int 1)]) [4, 3, 2, 1, 0] rfl ?_
              exact ih (x % y) (by omega) y (x % y) t (z % t) true rfl (by omega) (by omega) (by omega) (by omega) (by omega) (by omega) (hg.trans ((cmpF_rest heq).trans cmpF_turn))
          · skip
            have hz104 := lz_eq (by omega) c104
            refine v_iload F dX8_isLess_108 8 rfl (q := 110) rfl ?_
            refine v_if_eq F dX8_isLess_110 (tgt := 135) rfl (q := 113) rfl (fun c110 => ?_) (fun c110 => ?_)
            · skip
              refine v_lload F dX8_isLess_135 1 rfl (q := 137) rfl ?_
              refine v_lconst F dX8_isLess_137 (v := 0) (q := 138) rfl rfl ?_
              refine v_lcmp_ne F dX8_isLess_138 dX8_isLess_139 (tgt := 153) rfl (q := 142) rfl (fun c138 => ?_) (fun c138 => ?_)
              · skip
                have hz138 := lz_ne c138
                refine v_iconst F dX8_isLess_153 (v := 0) (q := 154) rfl rfl ?_
                exact hE (by first | rfl | exact bI_nar _) dX8_isLess_154 (Nat.zero_le _) (Nat.zero_le _) ⟨⟨by rw [lt_of_cmp ((hg.trans (cmpF_rest heq)).trans (cmpF_z hy ht (by omega))), sgn_lt, decide_eq_false (by omega)]; rfl, rfl⟩, Nat.le_of_ble_eq_true rfl⟩
              · skip
                have hz138 := lz_eq (by omega) c138
                refine v_lload F dX8_isLess_142 0 rfl (q := 144) rfl ?_
                refine v_lconst F dX8_isLess_144 (v := 0) (q := 145) rfl rfl ?_
                refine v_lcmp_eq F dX8_isLess_145 dX8_isLess_146 (tgt := 153) rfl (q := 149) rfl (fun c145 => ?_) (fun c145 => ?_)
                · skip
                  have hz145 := lz_eq (by omega) c145
                  refine v_iconst F dX8_isLess_153 (v := 0) (q := 154) rfl rfl ?_
                  exact hE (by first | rfl | exact bI_nar _) dX8_isLess_154 (Nat.zero_le _) (Nat.zero_le _) ⟨⟨by rw [lt_of_cmp ((hg.trans (cmpF_rest heq)).trans (cmpF_z hy ht (by omega))), sgn_lt, decide_eq_false (by omega)]; rfl, rfl⟩, Nat.le_of_ble_eq_true rfl⟩
                · skip
                  have hz145 := lz_ne c145
                  refine v_iconst F dX8_isLess_149 (v := 1) (q := 150) rfl rfl ?_
                  refine v_goto F dX8_isLess_150 (tgt := 154) rfl ?_
                  exact hE (by first | rfl | exact bI_nar _) dX8_isLess_154 (Nat.zero_le _) (Nat.zero_le _) ⟨⟨by rw [lt_of_cmp ((hg.trans (cmpF_rest heq)).trans (cmpF_z hy ht (by omega))), sgn_lt, decide_eq_true (by omega)]; rfl, rfl⟩, Nat.le_of_ble_eq_true rfl⟩
            · exact absurd rfl c110
      · skip
        have hne : ¬ x / y = z / t := fun q => c35 (by rw [q])
        refine v_iload F dX8_isLess_39 6 rfl (q := 41) rfl ?_
        refine v_if_eq F dX8_isLess_41 (tgt := 60) rfl (q := 44) rfl (fun c41 => ?_) (fun c41 => ?_)
        · skip
          refine v_lload F dX8_isLess_60 1 rfl (q := 62) rfl ?_
          refine v_lload F dX8_isLess_62 0 rfl (q := 64) rfl ?_
          refine v_lcmp_ge F dX8_isLess_64 dX8_isLess_65 (tgt := 72) rfl (q := 68) rfl (fun c64 => ?_) (fun c64 => ?_)
          · skip
            rw [pk_lLE (by omega) (by omega)] at c64
            refine v_iconst F dX8_isLess_72 (v := 0) (q := 73) rfl rfl ?_
            exact hE (by first | rfl | exact bI_nar _) dX8_isLess_73 (Nat.zero_le _) (Nat.zero_le _) ⟨⟨by rw [lt_of_cmp (hg.trans (cmpF_gt hy ht (by omega)))]; rfl, rfl⟩, Nat.le_of_ble_eq_true rfl⟩
          · skip
            rw [pk_lLE (by omega) (by omega)] at c64
            refine v_iconst F dX8_isLess_68 (v := 1) (q := 69) rfl rfl ?_
            refine v_goto F dX8_isLess_69 (tgt := 73) rfl ?_
            exact hE (by first | rfl | exact bI_nar _) dX8_isLess_73 (Nat.zero_le _) (Nat.zero_le _) ⟨⟨by rw [lt_of_cmp (hg.trans (cmpF_lt hy ht (by omega)))]; rfl, rfl⟩, Nat.le_of_ble_eq_true rfl⟩
        · exact absurd rfl c41
    · skip
      simp only [if_true] at hg
      refine v_lload F dX8_isLess_17 0 rfl (q := 19) rfl ?_
      refine v_lload F dX8_isLess_19 1 rfl (q := 21) rfl ?_
      refine v_ldiv F dX8_isLess_21 (fun q => by have := lz_eq (by omega) q; omega) (q := 22) rfl ?_
      refine v_long (y := lN (x / y)) (pk_lDiv (by omega) hy (by omega)) ?_
      refine v_lstore F dX8_isLess_22 (lv' := [(17, .long (lN (x / y))), (8, .long (lN x)), (10, .long (lN y)), (12, .long (lN z)), (14, .long (lN t)), (16, .int (bI true))]) (Nat.le_of_ble_eq_true rfl) rfl (q := 24) rfl ?_
      refine v_lload F dX8_isLess_24 3 rfl (q := 26) rfl ?_
      refine v_lload F dX8_isLess_26 4 rfl (q := 28) rfl ?_
      refine v_ldiv F dX8_isLess_28 (fun q => by have := lz_eq (by omega) q; omega) (q := 29) rfl ?_
      refine v_long (y := lN (z / t)) (pk_lDiv (by omega) ht (by omega)) ?_
      refine v_lstore F dX8_isLess_29 (lv' := [(19, .long (lN (z / t))), (17, .long (lN (x / y))), (8, .long (lN x)), (10, .long (lN y)), (12, .long (lN z)), (14, .long (lN t)), (16, .int (bI true))]) (Nat.le_of_ble_eq_true rfl) rfl (q := 31) rfl ?_
      refine v_lload F dX8_isLess_31 1 rfl (q := 33) rfl ?_
      refine v_lload F dX8_isLess_33 0 rfl (q := 35) rfl ?_
      refine v_lcmp_eq F dX8_isLess_35 dX8_isLess_36 (tgt := 74) rfl (q := 39) rfl (fun c35 => ?_) (fun c35 => ?_)
      · skip
        have heq : x / y = z / t := (pk_lEQ (by omega) (by omega)).mp c35
        refine v_lload F dX8_isLess_74 2 rfl (q := 76) rfl ?_
        refine v_lload F dX8_isLess_76 1 rfl (q := 78) rfl ?_
        refine v_lload F dX8_isLess_78 3 rfl (q := 80) rfl ?_
        refine v_lmul F dX8_isLess_80 (q := 81) rfl ?_
        refine v_lsub F dX8_isLess_81 (q := 82) rfl ?_
        refine v_long (y := lN (x % y)) (lN_rem) ?_
        refine v_lstore F dX8_isLess_82 (lv' := [(21, .long (lN (x % y))), (19, .long (lN (z / t))), (17, .long (lN (x / y))), (8, .long (lN x)), (10, .long (lN y)), (12, .long (lN z)), (14, .long (lN t)), (16, .int (bI true))]) (Nat.le_of_ble_eq_true rfl) rfl (q := 84) rfl ?_
        refine v_lload F dX8_isLess_84 5 rfl (q := 86) rfl ?_
        refine v_lload F dX8_isLess_86 1 rfl (q := 88) rfl ?_
        refine v_lload F dX8_isLess_88 6 rfl (q := 90) rfl ?_
        refine v_lmul F dX8_isLess_90 (q := 91) rfl ?_
        refine v_lsub F dX8_isLess_91 (q := 92) rfl ?_
        refine v_long (y := lN (z % t)) (lN_rem) ?_
        refine v_lstore F dX8_isLess_92 (lv' := [(23, .long (lN (z % t))), (21, .long (lN (x % y))), (19, .long (lN (z / t))), (17, .long (lN (x / y))), (8, .long (lN x)), (10, .long (lN y)), (12, .long (lN z)), (14, .long (lN t)), (16, .int (bI true))]) (Nat.le_of_ble_eq_true rfl) rfl (q := 94) rfl ?_
        refine v_lload F dX8_isLess_94 1 rfl (q := 96) rfl ?_
        refine v_lconst F dX8_isLess_96 (v := 0) (q := 97) rfl rfl ?_
        refine v_lcmp_eq F dX8_isLess_97 dX8_isLess_98 (tgt := 108) rfl (q := 101) rfl (fun c97 => ?_) (fun c97 => ?_)
        · skip
          have hz97 := lz_eq (by omega) c97
          refine v_iload F dX8_isLess_108 8 rfl (q := 110) rfl ?_
          refine v_if_eq F dX8_isLess_110 (tgt := 135) rfl (q := 113) rfl (fun c110 => ?_) (fun c110 => ?_)
          · exact absurd c110 (by decide)
          · skip
            refine v_lload F dX8_isLess_113 0 rfl (q := 115) rfl ?_
            refine v_lconst F dX8_isLess_115 (v := 0) (q := 116) rfl rfl ?_
            refine v_lcmp_ne F dX8_isLess_116 dX8_isLess_117 (tgt := 131) rfl (q := 120) rfl (fun c116 => ?_) (fun c116 => ?_)
            · skip
              have hz116 := lz_ne c116
              refine v_iconst F dX8_isLess_131 (v := 0) (q := 132) rfl rfl ?_
              refine v_goto F dX8_isLess_132 (tgt := 154) rfl ?_
              exact hE (by first | rfl | exact bI_nar _) dX8_isLess_154 (Nat.zero_le _) (Nat.zero_le _) ⟨⟨by rw [lt_of_cmp ((hg.trans (cmpF_rest heq.symm)).trans (cmpF_z ht hy (by omega))), sgn_lt, decide_eq_false (by omega)]; rfl, rfl⟩, Nat.le_of_ble_eq_true rfl⟩
            · skip
              have hz116 := lz_eq (by omega) c116
              refine v_lload F dX8_isLess_120 1 rfl (q := 122) rfl ?_
              refine v_lconst F dX8_isLess_122 (v := 0) (q := 123) rfl rfl ?_
              refine v_lcmp_eq F dX8_isLess_123 dX8_isLess_124 (tgt := 131) rfl (q := 127) rfl (fun c123 => ?_) (fun c123 => ?_)
              · skip
                have hz123 := lz_eq (by omega) c123
                refine v_iconst F dX8_isLess_131 (v := 0) (q := 132) rfl rfl ?_
                refine v_goto F dX8_isLess_132 (tgt := 154) rfl ?_
                exact hE (by first | rfl | exact bI_nar _) dX8_isLess_154 (Nat.zero_le _) (Nat.zero_le _) ⟨⟨by rw [lt_of_cmp ((hg.trans (cmpF_rest heq.symm)).trans (cmpF_z ht hy (by omega))), sgn_lt, decide_eq_false (by omega)]; rfl, rfl⟩, Nat.le_of_ble_eq_true rfl⟩
              · skip
                have hz123 := lz_ne c123
                refine v_iconst F dX8_isLess_127 (v := 1) (q := 128) rfl rfl ?_
                refine v_goto F dX8_isLess_128 (tgt := 154) rfl ?_
                exact hE (by first | rfl | exact bI_nar _) dX8_isLess_154 (Nat.zero_le _) (Nat.zero_le _) ⟨⟨by rw [lt_of_cmp ((hg.trans (cmpF_rest heq.symm)).trans (cmpF_z ht hy (by omega))), sgn_lt, decide_eq_true (by omega)]; rfl, rfl⟩, Nat.le_of_ble_eq_true rfl⟩
        · skip
          have hz97 := lz_ne c97
          refine v_lload F dX8_isLess_101 0 rfl (q := 103) rfl ?_
          refine v_lconst F dX8_isLess_103 (v := 0) (q := 104) rfl rfl ?_
          refine v_lcmp_ne F dX8_isLess_104 dX8_isLess_105 (tgt := 155) rfl (q := 108) rfl (fun c104 => ?_) (fun c104 => ?_)
          · skip
            have hz104 := lz_ne c104
            refine v_lload F dX8_isLess_155 5 rfl (q := 157) rfl ?_
            refine v_lstore F dX8_isLess_157 (lv' := [(8, .long (lN y)), (23, .long (lN (z % t))), (21, .long (lN (x % y))), (19, .long (lN (z / t))), (17, .long (lN (x / y))), (10, .long (lN y)), (12, .long (lN z)), (14, .long (lN t)), (16, .int (bI true))]) (Nat.le_of_ble_eq_true rfl) rfl (q := 159) rfl ?_
            refine v_lload F dX8_isLess_159 2 rfl (q := 161) rfl ?_
            refine v_lstore F dX8_isLess_161 (lv' := [(10, .long (lN (x % y))), (8, .long (lN y)), (23, .long (lN (z % t))), (21, .long (lN (x % y))), (19, .long (lN (z / t))), (17, .long (lN (x / y))), (12, .long (lN z)), (14, .long (lN t)), (16, .int (bI true))]) (Nat.le_of_ble_eq_true rfl) rfl (q := 163) rfl ?_
            refine v_lload F dX8_isLess_163 7 rfl (q := 165) rfl ?_
            refine v_lstore F dX8_isLess_165 (lv' := [(12, .long (lN t)), (10, .long (lN (x % y))), (8, .long (lN y)), (23, .long (lN (z % t))), (21, .long (lN (x % y))), (19, .long (lN (z / t))), (17, .long (lN (x / y))), (14, .long (lN t)), (16, .int (bI true))]) (Nat.le_of_ble_eq_true rfl) rfl (q := 167) rfl ?_
            refine v_lload F dX8_isLess_167 3 rfl (q := 169) rfl ?_
            refine v_lstore F dX8_isLess_169 (lv' := [(14, .long (lN (z % t))), (12, .long (lN t)), (10, .long (lN (x % y))), (8, .long (lN y)), (23, .long (lN (z % t))), (21, .long (lN (x % y))), (19, .long (lN (z / t))), (17, .long (lN (x / y))), (16, .int (bI true))]) (Nat.le_of_ble_eq_true rfl) rfl (q := 171) rfl ?_
            refine v_iload F dX8_isLess_171 8 rfl (q := 173) rfl ?_
            refine v_if_ne F dX8_isLess_173 (tgt := 180) rfl (q := 176) rfl (fun c173 => ?_) (fun c173 => ?_)
            · skip
              refine v_iconst F dX8_isLess_180 (v := 0) (q := 181) rfl rfl ?_
              refine v_istore F dX8_isLess_181 (lv' := [(16, .int 0), (14, .long (lN (z % t))), (12, .long (lN t)), (10, .long (lN (x % y))), (8, .long (lN y)), (23, .long (lN (z % t))), (21, .long (lN (x % y))), (19, .long (lN (z / t))), (17, .long (lN (x / y)))]) (Nat.le_of_ble_eq_true rfl) rfl (q := 183) rfl ?_
              refine v_goto F dX8_isLess_183 (tgt := 17) rfl ?_
              refine v_lv (lv' := [(8, .long (lN y)), (10, .long (lN (x % y))), (12, .long (lN t)), (14, .long (lN (z % t))), (16, .int 0)]) [4, 3, 2, 1, 0] rfl ?_
              exact ih (x % y) (by omega) y (x % y) t (z % t) false rfl (by omega) (by omega) (by omega) (by omega) (by omega) (by omega) (hg.trans ((cmpF_rest heq.symm).trans cmpF_turn))
            · exact absurd c173 (by decide)
          · skip
            have hz104 := lz_eq (by omega) c104
            refine v_iload F dX8_isLess_108 8 rfl (q := 110) rfl ?_
            refine v_if_eq F dX8_isLess_110 (tgt := 135) rfl (q := 113) rfl (fun c110 => ?_) (fun c110 => ?_)
            · exact absurd c110 (by decide)
            · skip
              refine v_lload F dX8_isLess_113 0 rfl (q := 115) rfl ?_
              refine v_lconst F dX8_isLess_115 (v := 0) (q := 116) rfl rfl ?_
              refine v_lcmp_ne F dX8_isLess_116 dX8_isLess_117 (tgt := 131) rfl (q := 120) rfl (fun c116 => ?_) (fun c116 => ?_)
              · skip
                have hz116 := lz_ne c116
                refine v_iconst F dX8_isLess_131 (v := 0) (q := 132) rfl rfl ?_
                refine v_goto F dX8_isLess_132 (tgt := 154) rfl ?_
                exact hE (by first | rfl | exact bI_nar _) dX8_isLess_154 (Nat.zero_le _) (Nat.zero_le _) ⟨⟨by rw [lt_of_cmp ((hg.trans (cmpF_rest heq.symm)).trans (cmpF_z ht hy (by omega))), sgn_lt, decide_eq_false (by omega)]; rfl, rfl⟩, Nat.le_of_ble_eq_true rfl⟩
              · skip
                have hz116 := lz_eq (by omega) c116
                refine v_lload F dX8_isLess_120 1 rfl (q := 122) rfl ?_
                refine v_lconst F dX8_isLess_122 (v := 0) (q := 123) rfl rfl ?_
                refine v_lcmp_eq F dX8_isLess_123 dX8_isLess_124 (tgt := 131) rfl (q := 127) rfl (fun c123 => ?_) (fun c123 => ?_)
                · skip
                  have hz123 := lz_eq (by omega) c123
                  refine v_iconst F dX8_isLess_131 (v := 0) (q := 132) rfl rfl ?_
                  refine v_goto F dX8_isLess_132 (tgt := 154) rfl ?_
                  exact hE (by first | rfl | exact bI_nar _) dX8_isLess_154 (Nat.zero_le _) (Nat.zero_le _) ⟨⟨by rw [lt_of_cmp ((hg.trans (cmpF_rest heq.symm)).trans (cmpF_z ht hy (by omega))), sgn_lt, decide_eq_false (by omega)]; rfl, rfl⟩, Nat.le_of_ble_eq_true rfl⟩
                · skip
                  have hz123 := lz_ne c123
                  refine v_iconst F dX8_isLess_127 (v := 1) (q := 128) rfl rfl ?_
                  refine v_goto F dX8_isLess_128 (tgt := 154) rfl ?_
                  exact hE (by first | rfl | exact bI_nar _) dX8_isLess_154 (Nat.zero_le _) (Nat.zero_le _) ⟨⟨by rw [lt_of_cmp ((hg.trans (cmpF_rest heq.symm)).trans (cmpF_z ht hy (by omega))), sgn_lt, decide_eq_true (by omega)]; rfl, rfl⟩, Nat.le_of_ble_eq_true rfl⟩
      · skip
        have hne : ¬ x / y = z / t := fun q => c35 (by rw [q])
        refine v_iload F dX8_isLess_39 6 rfl (q := 41) rfl ?_
        refine v_if_eq F dX8_isLess_41 (tgt := 60) rfl (q := 44) rfl (fun c41 => ?_) (fun c41 => ?_)
        · exact absurd c41 (by decide)
        · skip
          refine v_lload F dX8_isLess_44 1 rfl (q := 46) rfl ?_
          refine v_lload F dX8_isLess_46 0 rfl (q := 48) rfl ?_
          refine v_lcmp_le F dX8_isLess_48 dX8_isLess_49 (tgt := 56) rfl (q := 52) rfl (fun c48 => ?_) (fun c48 => ?_)
          · skip
            rw [pk_lLE (by omega) (by omega)] at c48
            refine v_iconst F dX8_isLess_56 (v := 0) (q := 57) rfl rfl ?_
            refine v_goto F dX8_isLess_57 (tgt := 73) rfl ?_
            exact hE (by first | rfl | exact bI_nar _) dX8_isLess_73 (Nat.zero_le _) (Nat.zero_le _) ⟨⟨by rw [lt_of_cmp (hg.trans (cmpF_gt ht hy (by omega)))]; rfl, rfl⟩, Nat.le_of_ble_eq_true rfl⟩
          · skip
            rw [pk_lLE (by omega) (by omega)] at c48
            refine v_iconst F dX8_isLess_52 (v := 1) (q := 53) rfl rfl ?_
            refine v_goto F dX8_isLess_53 (tgt := 73) rfl ?_
            exact hE (by first | rfl | exact bI_nar _) dX8_isLess_73 (Nat.zero_le _) (Nat.zero_le _) ⟨⟨by rw [lt_of_cmp (hg.trans (cmpF_lt ht hy (by omega)))]; rfl, rfl⟩, Nat.le_of_ble_eq_true rfl⟩
  refine v_lv (lv' := [(8, .long (lN a)), (10, .long (lN b)), (12, .long (lN c0)), (14, .long (lN d0)), (16, .int 0)]) [4, 3, 2, 1, 0] rfl ?_
  exact L17 _ a b c0 d0 false rfl ha hb0 hc hd0 hb hd rfl

set_option maxHeartbeats 4000000 in
set_option maxRecDepth 100000 in
theorem c_X8_end (y0 y1 y2 y3 y4 y5 y6 y7 y8 y9 y10 y11 y12 y13 y14 : Nat) (th : Nat → Int32) (sd : Nat → Int32) (tp : Nat → Int32) (n : Nat) (sc : Int32) (sp : Int32) (px : Nat → Int32) (py : Nat → Int32) (pl : Nat → Nat) (pk : Nat → Int32) (N : Nat) (M : Nat) (ls : Nat → Nat) (lv : Nat → Int32) (lx : Nat → Int32) (ly : Nat → Int32) (ab : Nat → Int64) (bl : Nat → Int64) (tn : Nat) (wo si t1 t2 : Int) (c1 : Int32) (VI : INV (th, sd, tp, n, sc, sp, px, py, pl, pk, N, M, ls, lv, lx, ly, ab, bl, tn)) : Ct l D (TY cI cJ cZ) yX8_end cX8_end 15 (some .int) 4 89 0 0 [.ref y0, .int c1] [(y0, .inr (8, [.int (nI n), .ref y1, .ref y2, .ref y3, .int sc, .int sp, .int (nI N), .ref y4, .ref y5, .ref y6, .ref y7, .ref y8, .ref y9, .ref y10, .ref y11, .ref y12, .int (nI tn), .ref y13, .ref y14, .long (zL wo), .long (zL si), .long (zL t1), .long (zL t2)])), (y1, .inl (cI, 6, .inl th)), (y2, .inl (cI, 6, .inl sd)), (y3, .inl (cI, 6, .inl tp)), (y4, .inl (cI, 12, .inl px)), (y5, .inl (cI, 12, .inl py)), (y6, .inl (cI, 12, .inl (fun i => nI (pl i)))), (y7, .inl (cI, 12, .inl pk)), (y8, .inl (cZ, 12, .inl (fun i => bI (M.testBit i)))), (y9, .inl (cI, 3, .inl (fun i => nI (ls i)))), (y10, .inl (cI, 18, .inl lv)), (y11, .inl (cI, 18, .inl lx)), (y12, .inl (cI, 18, .inl ly)), (y13, .inl (cJ, 15, .inr (.inl ab))), (y14, .inl (cJ, 15, .inr (.inl bl)))] (fun r w => ∃ X : Int × Int × Int × Int, r = some (.int (fEnd c1 (th, sd, tp, n, sc, sp, px, py, pl, pk, N, M, ls, lv, lx, ly, ab, bl, tn)).1) ∧ w = WM cI cJ cZ y0 y1 y2 y3 y4 y5 y6 y7 y8 y9 y10 y11 y12 y13 y14 (fEnd c1 (th, sd, tp, n, sc, sp, px, py, pl, pk, N, M, ls, lv, lx, ly, ab, bl, tn)).2 X) := by
  refine Ct.ofI (ty := .int) (by decide) (Nat.le_of_ble_eq_true rfl) ?_
  intro p e s m args below meth c A R Q F hnm hcs0 hE
  refine v_lv (lv' := [(0, .ref y0), (1, .int c1)]) [0, 1] rfl ?_
  obtain ⟨G, hsp, P, hM, hls, hlv, hlx, hly, htn⟩ := id VI
  have hn6 := G.1
  have hN12 := P.1
  have hM4 : M < 4096 := Nat.lt_of_lt_of_le hM (Nat.pow_le_pow_right (by omega) hN12)
  refine v_iload_n F dX8_end_0 (i := 1) rfl 1 rfl (q := 1) rfl ?_
  refine v_callS F ml_X8_95 sm_X8_isCase in_X8 co_X8_isCase sd_X8_isCase (c_X8_isCase c1) ⟨Nat.zero_le _, Nat.zero_le _⟩ (Nat.le_of_ble_eq_true rfl) (Nat.le_of_ble_eq_true rfl) rfl [] rfl rfl rfl (rest := []) rfl (Nat.le_of_ble_eq_true rfl) dX8_end_1 (q := 4) rfl (fun r w hr => ?_)
  obtain ⟨rfl, rfl⟩ := hr
  refine v_ws (ws' := [(y0, .inr (8, [.int (nI n), .ref y1, .ref y2, .ref y3, .int sc, .int sp, .int (nI N), .ref y4, .ref y5, .ref y6, .ref y7, .ref y8, .ref y9, .ref y10, .ref y11, .ref y12, .int (nI tn), .ref y13, .ref y14, .long (zL wo), .long (zL si), .long (zL t1), .long (zL t2)])), (y1, .inl (cI, 6, .inl th)), (y2, .inl (cI, 6, .inl sd)), (y3, .inl (cI, 6, .inl tp)), (y4, .inl (cI, 12, .inl px)), (y5, .inl (cI, 12, .inl py)), (y6, .inl (cI, 12, .inl (fun i => nI (pl i)))), (y7, .inl (cI, 12, .inl pk)), (y8, .inl (cZ, 12, .inl (fun i => bI (M.testBit i)))), (y9, .inl (cI, 3, .inl (fun i => nI (ls i)))), (y10, .inl (cI, 18, .inl lv)), (y11, .inl (cI, 18, .inl lx)), (y12, .inl (cI, 18, .inl ly)), (y13, .inl (cJ, 15, .inr (.inl ab))), (y14, .inl (cJ, 15, .inr (.inl bl)))]) rfl ?_
  refine v_st (st' := [.int (bI (inR c1 0 2))]) rfl ?_
  refine v_if_ne F dX8_end_4 (tgt := 9) rfl (q := 7) rfl (fun c4 => ?_) (fun c4 => ?_)
  · skip
    rw [bI_nz] at c4
    obtain ⟨kc, hkc, rfl⟩ : ∃ k : Nat, k < 3 ∧ c1 = nI k := case_ex c4
    have hpk := pN_nI (k := kc) (by omega)
    refine v_aload_n F dX8_end_9 (i := 0) rfl 0 rfl (q := 10) rfl ?_
    refine v_callV F ml_X8_115 im_X8_wholeSet se_X8_wholeSet in_X8 co_X8_wholeSet sd_X8_wholeSet (c_X8_wholeSet y0 y1 y2 y3 y4 y5 y6 y7 y8 y9 y10 y11 y12 y13 y14 th sd tp n sc sp px py pl pk N M ls lv lx ly ab bl tn wo si t1 t2  ⟨G, hsp, P, hM, hls, hlv, hlx, hly, by omega⟩ ) ⟨Nat.zero_le _, Nat.zero_le _⟩ (Nat.le_of_ble_eq_true rfl) (Nat.le_of_ble_eq_true rfl) 0 (As := []) rfl rfl rfl rfl rfl [0, 1, 2, 3, 4, 5, 6, 7, 8, 9, 10, 11, 12, 13, 14] rfl nd15 vnd15 (rest := []) rfl (Nat.le_of_ble_eq_true rfl) dX8_end_10 (q := 13) rfl (fun r w hr => ?_)
    obtain ⟨rfl, rfl⟩ := hr
    refine v_ws (ws' := [(y0, .inr (8, [.int (nI n), .ref y1, .ref y2, .ref y3, .int sc, .int sp, .int (nI N), .ref y4, .ref y5, .ref y6, .ref y7, .ref y8, .ref y9, .ref y10, .ref y11, .ref y12, .int (nI tn), .ref y13, .ref y14, .long (zL wo), .long (zL si), .long (zL t1), .long (zL t2)])), (y1, .inl (cI, 6, .inl th)), (y2, .inl (cI, 6, .inl sd)), (y3, .inl (cI, 6, .inl tp)), (y4, .inl (cI, 12, .inl px)), (y5, .inl (cI, 12, .inl py)), (y6, .inl (cI, 12, .inl (fun i => nI (pl i)))), (y7, .inl (cI, 12, .inl pk)), (y8, .inl (cZ, 12, .inl (fun i => bI (M.testBit i)))), (y9, .inl (cI, 3, .inl (fun i => nI (ls i)))), (y10, .inl (cI, 18, .inl lv)), (y11, .inl (cI, 18, .inl lx)), (y12, .inl (cI, 18, .inl ly)), (y13, .inl (cJ, 15, .inr (.inl ab))), (y14, .inl (cJ, 15, .inr (.inl bl)))]) ((wset_wgo (nodup_of nd15) rfl).trans rfl) ?_
    refine v_st (st' := [.int (nI M)]) rfl ?_
    refine v_istore_n F dX8_end_13 (i := 2) (lv' := [(2, .int (nI M)), (0, .ref y0), (1, .int (nI kc))]) rfl (Nat.le_of_ble_eq_true rfl) rfl (q := 14) rfl ?_
    refine v_aload_n F dX8_end_14 (i := 0) rfl 1 rfl (q := 15) rfl ?_
    refine v_iload_n F dX8_end_15 (i := 2) rfl 0 rfl (q := 16) rfl ?_
    refine v_iload_n F dX8_end_16 (i := 1) rfl 2 rfl (q := 17) rfl ?_
    refine v_callV F ml_X8_119 im_X8_solves se_X8_solves in_X8 co_X8_solves sd_X8_solves (c_X8_solves y0 y1 y2 y3 y4 y5 y6 y7 y8 y9 y10 y11 y12 y13 y14 th sd tp n sc sp px py pl pk N M ls lv lx ly ab bl tn wo si t1 t2 M kc ⟨G, hsp, P, hM, hls, hlv, hlx, hly, by omega⟩ (by omega) (by omega)) ⟨Nat.zero_le _, Nat.zero_le _⟩ (Nat.le_of_ble_eq_true rfl) (Nat.le_of_ble_eq_true rfl) 0 (As := [.int (nI M), .int (nI kc)]) rfl rfl rfl rfl rfl [0, 1, 2, 3, 4, 5, 6, 7, 8, 9, 10, 11, 12, 13, 14] rfl nd15 vnd15 (rest := []) rfl (Nat.le_of_ble_eq_true rfl) dX8_end_17 (q := 20) rfl (fun r w hr => ?_)
    rcases hr with ⟨hs2, rfl, rfl⟩ | ⟨hs2, rfl, rfl⟩
    · skip
      refine v_ws (ws' := [(y0, .inr (8, [.int (nI n), .ref y1, .ref y2, .ref y3, .int sc, .int sp, .int (nI N), .ref y4, .ref y5, .ref y6, .ref y7, .ref y8, .ref y9, .ref y10, .ref y11, .ref y12, .int (nI tn), .ref y13, .ref y14, .long (zL (dDE pk px py M N)), .long (zL si), .long (zL t1), .long (zL t2)])), (y1, .inl (cI, 6, .inl th)), (y2, .inl (cI, 6, .inl sd)), (y3, .inl (cI, 6, .inl tp)), (y4, .inl (cI, 12, .inl px)), (y5, .inl (cI, 12, .inl py)), (y6, .inl (cI, 12, .inl (fun i => nI (pl i)))), (y7, .inl (cI, 12, .inl pk)), (y8, .inl (cZ, 12, .inl (fun i => bI (M.testBit i)))), (y9, .inl (cI, 3, .inl (fun i => nI (ls i)))), (y10, .inl (cI, 18, .inl lv)), (y11, .inl (cI, 18, .inl lx)), (y12, .inl (cI, 18, .inl ly)), (y13, .inl (cJ, 15, .inr (.inl ab))), (y14, .inl (cJ, 15, .inr (.inl bl)))]) ((wset_wgo (nodup_of nd15) rfl).trans rfl) ?_
      refine v_st (st' := [.int 0]) rfl ?_
      refine v_if_ne F dX8_end_20 (tgt := 26) rfl (q := 23) rfl (fun c20 => ?_) (fun c20 => ?_)
      · exact absurd rfl c20
      · skip
        refine v_bipush F dX8_end_23 (v := (-2)) (q := 25) rfl rfl ?_
        exact hE rfl dX8_end_25 (Nat.zero_le _) (Nat.zero_le _) ⟨(by have hf : fEnd (nI kc) (th, sd, tp, n, sc, sp, px, py, pl, pk, N, M, ls, lv, lx, ly, ab, bl, tn) = (-2, (th, sd, tp, n, sc, sp, px, py, pl, pk, N, M, ls, lv, lx, ly, ab, bl, tn)) := (by simp only [fEnd]; rw [if_pos c4, hpk, if_neg hs2]); exact ⟨((dDE pk px py M N), si, t1, t2), by rw [hf] <;> rfl, by rw [hf]; rfl⟩), Nat.le_of_ble_eq_true rfl⟩
    · skip
      refine v_ws (ws' := [(y0, .inr (8, [.int (nI n), .ref y1, .ref y2, .ref y3, .int sc, .int sp, .int (nI N), .ref y4, .ref y5, .ref y6, .ref y7, .ref y8, .ref y9, .ref y10, .ref y11, .ref y12, .int (nI tn), .ref y13, .ref y14, .long (zL (dDE pk px py M N)), .long (zL (cWi pk px py M N ls lv lx ly kc)), .long (zL (cPi pk px py M N ls lv lx ly kc)), .long (zL (cQi pk px py M N ls lv lx ly kc))])), (y1, .inl (cI, 6, .inl th)), (y2, .inl (cI, 6, .inl sd)), (y3, .inl (cI, 6, .inl tp)), (y4, .inl (cI, 12, .inl px)), (y5, .inl (cI, 12, .inl py)), (y6, .inl (cI, 12, .inl (fun i => nI (pl i)))), (y7, .inl (cI, 12, .inl pk)), (y8, .inl (cZ, 12, .inl (fun i => bI (M.testBit i)))), (y9, .inl (cI, 3, .inl (fun i => nI (ls i)))), (y10, .inl (cI, 18, .inl lv)), (y11, .inl (cI, 18, .inl lx)), (y12, .inl (cI, 18, .inl ly)), (y13, .inl (cJ, 15, .inr (.inl ab))), (y14, .inl (cJ, 15, .inr (.inl bl)))]) ((wset_wgo (nodup_of nd15) rfl).trans rfl) ?_
      refine v_st (st' := [.int 1]) rfl ?_
      have hR := shB_rng P hls hlv hlx hly M kc
      have hDR := (d_rng P M).2.2.2.2.2.2
      refine v_if_ne F dX8_end_20 (tgt := 26) rfl (q := 23) rfl (fun c20 => ?_) (fun c20 => ?_)
      · skip
        refine v_bipush F dX8_end_26 (v := (-4)) (q := 28) rfl rfl ?_
        refine v_istore_n F dX8_end_28 (i := 3) (lv' := [(3, .int (-4)), (2, .int (nI M)), (0, .ref y0), (1, .int (nI kc))]) rfl (Nat.le_of_ble_eq_true rfl) rfl (q := 29) rfl ?_
        refine v_lconst F dX8_end_29 (v := 1) (q := 30) rfl rfl ?_
        refine v_lstore F dX8_end_30 (lv' := [(4, .long 1), (3, .int (-4)), (2, .int (nI M)), (0, .ref y0), (1, .int (nI kc))]) (Nat.le_of_ble_eq_true rfl) rfl (q := 32) rfl ?_
        refine v_lconst F dX8_end_32 (v := 1) (q := 33) rfl rfl ?_
        refine v_lstore F dX8_end_33 (lv' := [(6, .long 1), (4, .long 1), (3, .int (-4)), (2, .int (nI M)), (0, .ref y0), (1, .int (nI kc))]) (Nat.le_of_ble_eq_true rfl) rfl (q := 35) rfl ?_
        refine v_iconst F dX8_end_35 (v := 0) (q := 36) rfl rfl ?_
        refine v_istore F dX8_end_36 (lv' := [(8, .int 0), (6, .long 1), (4, .long 1), (3, .int (-4)), (2, .int (nI M)), (0, .ref y0), (1, .int (nI kc))]) (Nat.le_of_ble_eq_true rfl) rfl (q := 38) rfl ?_
        have L38 : ∀ (d k : Nat), k + d = N → V p l e R s m args below meth c D A 15 0 0 Q 38 [(0, .ref y0), (2, .int (nI M)), (3, .int (enI (enF M (shB pk px py M N ls lv lx ly kc) (liI th sd tp n sc pl) k))), (4, .long (lN (enMo (shB pk px py M N ls lv lx ly kc) (liI th sd tp n sc pl) (enF M (shB pk px py M N ls lv lx ly kc) (liI th sd tp n sc pl) k)))), (6, .long (lN (enGe (shB pk px py M N ls lv lx ly kc) (enF M (shB pk px py M N ls lv lx ly kc) (liI th sd tp n sc pl) k)))), (8, .int (nI k))] [] [(y0, .inr (8, [.int (nI n), .ref y1, .ref y2, .ref y3, .int sc, .int sp, .int (nI N), .ref y4, .ref y5, .ref y6, .ref y7, .ref y8, .ref y9, .ref y10, .ref y11, .ref y12, .int (nI tn), .ref y13, .ref y14, .long (zL (dDE pk px py M N)), .long (zL (cWi pk px py M N ls lv lx ly kc)), .long (zL (cPi pk px py M N ls lv lx ly kc)), .long (zL (cQi pk px py M N ls lv lx ly kc))])), (y1, .inl (cI, 6, .inl th)), (y2, .inl (cI, 6, .inl sd)), (y3, .inl (cI, 6, .inl tp)), (y4, .inl (cI, 12, .inl px)), (y5, .inl (cI, 12, .inl py)), (y6, .inl (cI, 12, .inl (fun i => nI (pl i)))), (y7, .inl (cI, 12, .inl pk)), (y8, .inl (cZ, 12, .inl (fun i => bI (M.testBit i)))), (y9, .inl (cI, 3, .inl (fun i => nI (ls i)))), (y10, .inl (cI, 18, .inl lv)), (y11, .inl (cI, 18, .inl lx)), (y12, .inl (cI, 18, .inl ly)), (y13, .inl (cJ, 15, .inr (.inl ab))), (y14, .inl (cJ, 15, .inr (.inl bl)))] := by
          intro d
          induction d using Nat.strongRecOn with
          | _ d ih => ?_
          intro k hk
          refine v_iload F dX8_end_38 5 rfl (q := 40) rfl ?_
          refine v_aload_n F dX8_end_40 (i := 0) rfl 0 rfl (q := 41) rfl ?_
          refine gt_X8_75 F dX8_end_41 0 rfl rfl (q := 44) rfl ?_
          refine v_icmp_ge F dX8_end_44 (tgt := 161) rfl (q := 47) rfl (fun c44 => ?_) (fun c44 => ?_)
          · skip
            rw [nI_leI (by omega) (by omega)] at c44
            have hku : N = k := by omega
            subst hku
            rcases ho : (enF M (shB pk px py M N ls lv lx ly kc) (liI th sd tp n sc pl) N) with _ | i
            · skip
              refine v_iload_n F dX8_end_161 (i := 3) rfl 2 rfl (q := 162) rfl ?_
              refine v_bipush F dX8_end_162 (v := (-4)) (q := 164) rfl rfl ?_
              refine v_icmp_eq F dX8_end_164 (tgt := 186) rfl (q := 167) rfl (fun c164 => ?_) (fun c164 => ?_)
              · skip
                refine v_iload_n F dX8_end_186 (i := 3) rfl 2 rfl (q := 187) rfl ?_
                exact hE rfl dX8_end_187 (Nat.zero_le _) (Nat.zero_le _) ⟨(by have hf : fEnd (nI kc) (th, sd, tp, n, sc, sp, px, py, pl, pk, N, M, ls, lv, lx, ly, ab, bl, tn) = (-4, (th, sd, tp, n, sc, sp, px, py, pl, pk, N, M, ls, lv, lx, ly, ab, bl, tn)) := (by simp only [fEnd]; rw [if_pos c4, hpk, if_pos hs2, ho]); exact ⟨((dDE pk px py M N), (cWi pk px py M N ls lv lx ly kc), (cPi pk px py M N ls lv lx ly kc), (cQi pk px py M N ls lv lx ly kc)), by rw [hf] <;> rfl, by rw [hf]; rfl⟩), Nat.le_of_ble_eq_true rfl⟩
              · exact absurd rfl c164
            · skip
              have hi := enF_lt ho
              have hin : i < N := by omega
              have hRi := hR.2.2.2 i hin
              have hli := li_rng G P hin ((shB pk px py M N ls lv lx ly kc) i)
              have hi0 := hi.2.2
              have hmi := mul_rng (a := (liI th sd tp n sc pl) ((shB pk px py M N ls lv lx ly kc) i) i) (A := 6000) ⟨by omega, hli.2⟩ hDR
              refine v_iload_n F dX8_end_161 (i := 3) rfl 2 rfl (q := 162) rfl ?_
              refine v_bipush F dX8_end_162 (v := (-4)) (q := 164) rfl rfl ?_
              refine v_icmp_eq F dX8_end_164 (tgt := 186) rfl (q := 167) rfl (fun c164 => ?_) (fun c164 => ?_)
              · exact absurd c164 (nI_nm4 (by omega))
              · skip
                refine v_aload_n F dX8_end_167 (i := 0) rfl 0 rfl (q := 168) rfl ?_
                refine v_iconst F dX8_end_168 (v := 0) (q := 169) rfl rfl ?_
                refine v_lload F dX8_end_169 3 rfl (q := 171) rfl ?_
                refine v_aload_n F dX8_end_171 (i := 0) rfl 0 rfl (q := 172) rfl ?_
                refine gt_X8_98 F dX8_end_172 0 rfl rfl (q := 175) rfl ?_
                refine v_lmul F dX8_end_175 (q := 176) rfl ?_
                refine v_long (y := zL ((liI th sd tp n sc pl) ((shB pk px py M N ls lv lx ly kc) i) i * dDE pk px py M N)) (by show lN ((liI th sd tp n sc pl) ((shB pk px py M N ls lv lx ly kc) i) i).toNat * _ = _; rw [← zL_lN hli.1, zL_mul]) ?_
                refine v_lload F dX8_end_176 4 rfl (q := 178) rfl ?_
                refine v_long (y := zL ((((shB pk px py M N ls lv lx ly kc) i).natAbs : Nat) : Int)) ((zL_lN2 _).symm) ?_
                refine v_callV F ml_X8_122 im_X8_tell se_X8_tell in_X8 co_X8_tell sd_X8_tell (c_X8_tell y0 y1 y2 y3 y4 y5 y6 y7 y8 y9 y10 y11 y12 y13 y14 th sd tp n sc sp px py pl pk N M ls lv lx ly ab bl tn (dDE pk px py M N) (cWi pk px py M N ls lv lx ly kc) (cPi pk px py M N ls lv lx ly kc) (cQi pk px py M N ls lv lx ly kc) 0 (zL ((liI th sd tp n sc pl) ((shB pk px py M N ls lv lx ly kc) i) i * dDE pk px py M N)) (zL ((((shB pk px py M N ls lv lx ly kc) i).natAbs : Nat) : Int)) ⟨G, hsp, P, hM, hls, hlv, hlx, hly, by omega⟩ (by omega) (by rw [zL_toInt (by omega) (by omega)]; omega) (by rw [zL_toInt (by omega) (by omega)]; omega)) ⟨Nat.zero_le _, Nat.zero_le _⟩ (Nat.le_of_ble_eq_true rfl) (Nat.le_of_ble_eq_true rfl) 0 (As := [.int 0, .long (zL ((liI th sd tp n sc pl) ((shB pk px py M N ls lv lx ly kc) i) i * dDE pk px py M N)), .long (zL ((((shB pk px py M N ls lv lx ly kc) i).natAbs : Nat) : Int))]) rfl rfl rfl rfl rfl [0, 1, 2, 3, 4, 5, 6, 7, 8, 9, 10, 11, 12, 13, 14] rfl nd15 vnd15 (rest := []) rfl (Nat.le_of_ble_eq_true rfl) dX8_end_178 (q := 181) rfl (fun r w hr => ?_)
                obtain ⟨rfl, rfl⟩ := hr
                refine v_ws (ws' := [(y0, .inr (8, [.int (nI n), .ref y1, .ref y2, .ref y3, .int sc, .int sp, .int (nI N), .ref y4, .ref y5, .ref y6, .ref y7, .ref y8, .ref y9, .ref y10, .ref y11, .ref y12, .int (nI tn), .ref y13, .ref y14, .long (zL (dDE pk px py M N)), .long (zL (cWi pk px py M N ls lv lx ly kc)), .long (zL (cPi pk px py M N ls lv lx ly kc)), .long (zL (cQi pk px py M N ls lv lx ly kc))])), (y1, .inl (cI, 6, .inl th)), (y2, .inl (cI, 6, .inl sd)), (y3, .inl (cI, 6, .inl tp)), (y4, .inl (cI, 12, .inl px)), (y5, .inl (cI, 12, .inl py)), (y6, .inl (cI, 12, .inl (fun i => nI (pl i)))), (y7, .inl (cI, 12, .inl pk)), (y8, .inl (cZ, 12, .inl (fun i => bI (M.testBit i)))), (y9, .inl (cI, 3, .inl (fun i => nI (ls i)))), (y10, .inl (cI, 18, .inl lv)), (y11, .inl (cI, 18, .inl lx)), (y12, .inl (cI, 18, .inl ly)), (y13, .inl (cJ, 15, .inr (.inl (vp_updL ab 0 ((zL ((liI th sd tp n sc pl) ((shB pk px py M N ls lv lx ly kc) i) i * dDE pk px py M N)) / dG (zL ((liI th sd tp n sc pl) ((shB pk px py M N ls lv lx ly kc) i) i * dDE pk px py M N)) (zL ((((shB pk px py M N ls lv lx ly kc) i).natAbs : Nat) : Int))))))), (y14, .inl (cJ, 15, .inr (.inl (vp_updL bl 0 ((zL ((((shB pk px py M N ls lv lx ly kc) i).natAbs : Nat) : Int)) / dG (zL ((liI th sd tp n sc pl) ((shB pk px py M N ls lv lx ly kc) i) i * dDE pk px py M N)) (zL ((((shB pk px py M N ls lv lx ly kc) i).natAbs : Nat) : Int)))))))]) ((wset_wgo (nodup_of nd15) rfl).trans rfl) ?_
                refine v_st (st' := []) rfl ?_
                refine v_aload_n F dX8_end_181 (i := 0) rfl 0 rfl (q := 182) rfl ?_
                refine v_iconst F dX8_end_182 (v := 1) (q := 183) rfl rfl ?_
                refine pt_X8_130 F dX8_end_183 0 rfl (Nat.le_of_ble_eq_true rfl) (q := 186) rfl ?_
                refine v_ws (ws' := [(y0, .inr (8, [.int (nI n), .ref y1, .ref y2, .ref y3, .int sc, .int sp, .int (nI N), .ref y4, .ref y5, .ref y6, .ref y7, .ref y8, .ref y9, .ref y10, .ref y11, .ref y12, .int 1, .ref y13, .ref y14, .long (zL (dDE pk px py M N)), .long (zL (cWi pk px py M N ls lv lx ly kc)), .long (zL (cPi pk px py M N ls lv lx ly kc)), .long (zL (cQi pk px py M N ls lv lx ly kc))])), (y1, .inl (cI, 6, .inl th)), (y2, .inl (cI, 6, .inl sd)), (y3, .inl (cI, 6, .inl tp)), (y4, .inl (cI, 12, .inl px)), (y5, .inl (cI, 12, .inl py)), (y6, .inl (cI, 12, .inl (fun i => nI (pl i)))), (y7, .inl (cI, 12, .inl pk)), (y8, .inl (cZ, 12, .inl (fun i => bI (M.testBit i)))), (y9, .inl (cI, 3, .inl (fun i => nI (ls i)))), (y10, .inl (cI, 18, .inl lv)), (y11, .inl (cI, 18, .inl lx)), (y12, .inl (cI, 18, .inl ly)), (y13, .inl (cJ, 15, .inr (.inl (vp_updL ab 0 ((zL ((liI th sd tp n sc pl) ((shB pk px py M N ls lv lx ly kc) i) i * dDE pk px py M N)) / dG (zL ((liI th sd tp n sc pl) ((shB pk px py M N ls lv lx ly kc) i) i * dDE pk px py M N)) (zL ((((shB pk px py M N ls lv lx ly kc) i).natAbs : Nat) : Int))))))), (y14, .inl (cJ, 15, .inr (.inl (vp_updL bl 0 ((zL ((((shB pk px py M N ls lv lx ly kc) i).natAbs : Nat) : Int)) / dG (zL ((liI th sd tp n sc pl) ((shB pk px py M N ls lv lx ly kc) i) i * dDE pk px py M N)) (zL ((((shB pk px py M N ls lv lx ly kc) i).natAbs : Nat) : Int)))))))]) rfl ?_
                refine v_iload_n F dX8_end_186 (i := 3) rfl 2 rfl (q := 187) rfl ?_
                exact hE rfl dX8_end_187 (Nat.zero_le _) (Nat.zero_le _) ⟨(by have hf : fEnd (nI kc) (th, sd, tp, n, sc, sp, px, py, pl, pk, N, M, ls, lv, lx, ly, ab, bl, tn) = (nI i, (th, sd, tp, n, sc, sp, px, py, pl, pk, N, M, ls, lv, lx, ly, vp_updL ab 0 ((zL ((liI th sd tp n sc pl) ((shB pk px py M N ls lv lx ly kc) i) i * dDE pk px py M N)) / dG (zL ((liI th sd tp n sc pl) ((shB pk px py M N ls lv lx ly kc) i) i * dDE pk px py M N)) (zL (((shB pk px py M N ls lv lx ly kc) i).natAbs : Int))), vp_updL bl 0 ((zL (((shB pk px py M N ls lv lx ly kc) i).natAbs : Int)) / dG (zL ((liI th sd tp n sc pl) ((shB pk px py M N ls lv lx ly kc) i) i * dDE pk px py M N)) (zL (((shB pk px py M N ls lv lx ly kc) i).natAbs : Int))), 1)) := (by simp only [fEnd]; rw [if_pos c4, hpk, if_pos hs2, ho]); exact ⟨((dDE pk px py M N), (cWi pk px py M N ls lv lx ly kc), (cPi pk px py M N ls lv lx ly kc), (cQi pk px py M N ls lv lx ly kc)), by rw [hf] <;> rfl, by rw [hf]; rfl⟩), Nat.le_of_ble_eq_true rfl⟩
          · skip
            rw [nI_leI (by omega) (by omega)] at c44
            obtain ⟨d, rfl⟩ : ∃ d2, d = d2 + 1 := ⟨d - 1, by omega⟩
            have hkn : k < N := by omega
            have hRk := hR.2.2.2 k hkn
            have hlk := li_rng G P hkn ((shB pk px py M N ls lv lx ly kc) k)
            have hpl := P.2.2.2.1 k hkn
            refine v_iload_n F dX8_end_47 (i := 2) rfl 1 rfl (q := 48) rfl ?_
            refine v_iload F dX8_end_48 5 rfl (q := 50) rfl ?_
            refine v_ishr F dX8_end_50 (q := 51) rfl ?_
            refine v_iconst F dX8_end_51 (v := 1) (q := 52) rfl rfl ?_
            refine v_iand F dX8_end_52 (q := 53) rfl ?_
            refine v_int (y := bI (M.testBit k)) (sh_bit hM4 (by omega)) ?_
            refine v_iconst F dX8_end_53 (v := 1) (q := 54) rfl rfl ?_
            refine v_icmp_ne F dX8_end_54 (tgt := 66) rfl (q := 57) rfl (fun c54 => ?_) (fun c54 => ?_)
            · skip
              rw [bI_no] at c54
              refine v_lconst F dX8_end_66 (v := 0) (q := 67) rfl rfl ?_
              refine v_lstore F dX8_end_67 (lv' := [(9, .long 0), (0, .ref y0), (2, .int (nI M)), (3, .int (enI (enF M (shB pk px py M N ls lv lx ly kc) (liI th sd tp n sc pl) k))), (4, .long (lN (enMo (shB pk px py M N ls lv lx ly kc) (liI th sd tp n sc pl) (enF M (shB pk px py M N ls lv lx ly kc) (liI th sd tp n sc pl) k)))), (6, .long (lN (enGe (shB pk px py M N ls lv lx ly kc) (enF M (shB pk px py M N ls lv lx ly kc) (liI th sd tp n sc pl) k)))), (8, .int (nI k))]) (Nat.le_of_ble_eq_true rfl) rfl (q := 69) rfl ?_
              refine v_lload F dX8_end_69 0 rfl (q := 71) rfl ?_
              refine v_lconst F dX8_end_71 (v := 0) (q := 72) rfl rfl ?_
              refine v_lcmp_le F dX8_end_72 dX8_end_73 (tgt := 86) rfl (q := 76) rfl (fun c72 => ?_) (fun c72 => ?_)
              · skip
                
                refine v_aload_n F dX8_end_86 (i := 0) rfl 1 rfl (q := 87) rfl ?_
                refine v_aload_n F dX8_end_87 (i := 0) rfl 1 rfl (q := 88) rfl ?_
                refine gt_X8_25 F dX8_end_88 0 rfl rfl (q := 91) rfl ?_
                refine v_iload F dX8_end_91 6 rfl (q := 93) rfl ?_
                refine v_ialdN F 6 0 rfl rfl (j := k) (by omega) (by decide) dX8_end_93 (q := 94) rfl ?_
                refine v_st (st' := [.int (nI (pl k)), .ref y0]) rfl ?_
                refine v_callV F ml_X8_86 im_X8_pullOf se_X8_pullOf in_X8 co_X8_pullOf sd_X8_pullOf (c_X8_pullOf y0 y1 y2 y3 y4 y5 y6 y7 y8 y9 y10 y11 y12 y13 y14 th sd tp n sc sp px py pl pk N M ls lv lx ly ab bl tn (dDE pk px py M N) (cWi pk px py M N ls lv lx ly kc) (cPi pk px py M N ls lv lx ly kc) (cQi pk px py M N ls lv lx ly kc) (pl k) ⟨G, hsp, P, hM, hls, hlv, hlx, hly, by omega⟩ (by omega)) ⟨Nat.zero_le _, Nat.zero_le _⟩ (Nat.le_of_ble_eq_true rfl) (Nat.le_of_ble_eq_true rfl) 0 (As := [.int (nI (pl k))]) rfl rfl rfl rfl rfl [0, 1, 2, 3, 4, 5, 6, 7, 8, 9, 10, 11, 12, 13, 14] rfl nd15 vnd15 (rest := []) rfl (Nat.le_of_ble_eq_true rfl) dX8_end_94 (q := 97) rfl (fun r w hr => ?_)
                obtain ⟨rfl, rfl⟩ := hr
                refine v_ws (ws' := [(y0, .inr (8, [.int (nI n), .ref y1, .ref y2, .ref y3, .int sc, .int sp, .int (nI N), .ref y4, .ref y5, .ref y6, .ref y7, .ref y8, .ref y9, .ref y10, .ref y11, .ref y12, .int (nI tn), .ref y13, .ref y14, .long (zL (dDE pk px py M N)), .long (zL (cWi pk px py M N ls lv lx ly kc)), .long (zL (cPi pk px py M N ls lv lx ly kc)), .long (zL (cQi pk px py M N ls lv lx ly kc))])), (y1, .inl (cI, 6, .inl th)), (y2, .inl (cI, 6, .inl sd)), (y3, .inl (cI, 6, .inl tp)), (y4, .inl (cI, 12, .inl px)), (y5, .inl (cI, 12, .inl py)), (y6, .inl (cI, 12, .inl (fun i => nI (pl i)))), (y7, .inl (cI, 12, .inl pk)), (y8, .inl (cZ, 12, .inl (fun i => bI (M.testBit i)))), (y9, .inl (cI, 3, .inl (fun i => nI (ls i)))), (y10, .inl (cI, 18, .inl lv)), (y11, .inl (cI, 18, .inl lx)), (y12, .inl (cI, 18, .inl ly)), (y13, .inl (cJ, 15, .inr (.inl ab))), (y14, .inl (cJ, 15, .inr (.inl bl)))]) ((wset_wgo (nodup_of nd15) rfl).trans rfl) ?_
                refine v_st (st' := [.int (zI (gPU th sd n sc (pl k)))]) rfl ?_
                refine v_i2l F dX8_end_97 (q := 98) rfl ?_
                refine v_lstore F dX8_end_98 (lv' := [(11, .long ((zI (gPU th sd n sc (pl k))).toInt64)), (9, .long 0), (0, .ref y0), (2, .int (nI M)), (3, .int (enI (enF M (shB pk px py M N ls lv lx ly kc) (liI th sd tp n sc pl) k))), (4, .long (lN (enMo (shB pk px py M N ls lv lx ly kc) (liI th sd tp n sc pl) (enF M (shB pk px py M N ls lv lx ly kc) (liI th sd tp n sc pl) k)))), (6, .long (lN (enGe (shB pk px py M N ls lv lx ly kc) (enF M (shB pk px py M N ls lv lx ly kc) (liI th sd tp n sc pl) k)))), (8, .int (nI k))]) (Nat.le_of_ble_eq_true rfl) rfl (q := 100) rfl ?_
                refine v_lload F dX8_end_100 1 rfl (q := 102) rfl ?_
                refine v_lconst F dX8_end_102 (v := 0) (q := 103) rfl rfl ?_
                refine v_lcmp_ge F dX8_end_103 dX8_end_104 (tgt := 113) rfl (q := 107) rfl (fun c103 => ?_) (fun c103 => ?_)
                · skip
                  
                  refine v_lload F dX8_end_113 1 rfl (q := 115) rfl ?_
                  refine v_lstore F dX8_end_115 (lv' := [(13, .long 0), (11, .long ((zI (gPU th sd n sc (pl k))).toInt64)), (9, .long 0), (0, .ref y0), (2, .int (nI M)), (3, .int (enI (enF M (shB pk px py M N ls lv lx ly kc) (liI th sd tp n sc pl) k))), (4, .long (lN (enMo (shB pk px py M N ls lv lx ly kc) (liI th sd tp n sc pl) (enF M (shB pk px py M N ls lv lx ly kc) (liI th sd tp n sc pl) k)))), (6, .long (lN (enGe (shB pk px py M N ls lv lx ly kc) (enF M (shB pk px py M N ls lv lx ly kc) (liI th sd tp n sc pl) k)))), (8, .int (nI k))]) (Nat.le_of_ble_eq_true rfl) rfl (q := 117) rfl ?_
                  refine v_lload F dX8_end_117 2 rfl (q := 119) rfl ?_
                  refine v_lconst F dX8_end_119 (v := 0) (q := 120) rfl rfl ?_
                  refine v_lcmp_eq F dX8_end_120 dX8_end_121 (tgt := 155) rfl (q := 124) rfl (fun c120 => ?_) (fun c120 => ?_)
                  · skip
                    
                    refine v_iinc F dX8_end_155 8 rfl (v := nI (k + 1)) (lv' := [(8, .int (nI (k + 1))), (13, .long 0), (11, .long ((zI (gPU th sd n sc (pl k))).toInt64)), (9, .long 0), (0, .ref y0), (2, .int (nI M)), (3, .int (enI (enF M (shB pk px py M N ls lv lx ly kc) (liI th sd tp n sc pl) k))), (4, .long (lN (enMo (shB pk px py M N ls lv lx ly kc) (liI th sd tp n sc pl) (enF M (shB pk px py M N ls lv lx ly kc) (liI th sd tp n sc pl) k)))), (6, .long (lN (enGe (shB pk px py M N ls lv lx ly kc) (enF M (shB pk px py M N ls lv lx ly kc) (liI th sd tp n sc pl) k))))]) (nI_1 k) (Nat.le_of_ble_eq_true rfl) rfl (q := 158) rfl ?_
                    refine v_goto F dX8_end_158 (tgt := 38) rfl ?_
                    refine v_lv (lv' := [(0, .ref y0), (2, .int (nI M)), (3, .int (enI (enF M (shB pk px py M N ls lv lx ly kc) (liI th sd tp n sc pl) k))), (4, .long (lN (enMo (shB pk px py M N ls lv lx ly kc) (liI th sd tp n sc pl) (enF M (shB pk px py M N ls lv lx ly kc) (liI th sd tp n sc pl) k)))), (6, .long (lN (enGe (shB pk px py M N ls lv lx ly kc) (enF M (shB pk px py M N ls lv lx ly kc) (liI th sd tp n sc pl) k)))), (8, .int (nI (k + 1)))]) [4, 5, 6, 7, 8, 0] rfl ?_
                    have hV := ih d (by omega) (k + 1) (by omega)
                    first | rw [enF_f1 c54] at hV | rw [enF_f2 hs0] at hV
                    exact hV
                  · exact absurd rfl c120
                · exact absurd (by decide) c103
              · exact absurd (by decide) c72
            · skip
              rw [bI_o] at c54
              refine v_aload_n F dX8_end_57 (i := 0) rfl 0 rfl (q := 58) rfl ?_
              refine v_iload F dX8_end_58 5 rfl (q := 60) rfl ?_
              refine v_callV F ml_X8_126 im_X8_shareOf se_X8_shareOf in_X8 co_X8_shareOf sd_X8_shareOf (c_X8_shareOf y0 y1 y2 y3 y4 y5 y6 y7 y8 y9 y10 y11 y12 y13 y14 th sd tp n sc sp px py pl pk N M ls lv lx ly ab bl tn (dDE pk px py M N) (cWi pk px py M N ls lv lx ly kc) (cPi pk px py M N ls lv lx ly kc) (cQi pk px py M N ls lv lx ly kc) k ⟨G, hsp, P, hM, hls, hlv, hlx, hly, by omega⟩ (by omega)) ⟨Nat.zero_le _, Nat.zero_le _⟩ (Nat.le_of_ble_eq_true rfl) (Nat.le_of_ble_eq_true rfl) 0 (As := [.int (nI k)]) rfl rfl rfl rfl rfl [0, 1, 2, 3, 4, 5, 6, 7, 8, 9, 10, 11, 12, 13, 14] rfl nd15 vnd15 (rest := []) rfl (Nat.le_of_ble_eq_true rfl) dX8_end_60 (q := 63) rfl (fun r w hr => ?_)
              obtain ⟨rfl, rfl⟩ := hr
              refine v_ws (ws' := [(y0, .inr (8, [.int (nI n), .ref y1, .ref y2, .ref y3, .int sc, .int sp, .int (nI N), .ref y4, .ref y5, .ref y6, .ref y7, .ref y8, .ref y9, .ref y10, .ref y11, .ref y12, .int (nI tn), .ref y13, .ref y14, .long (zL (dDE pk px py M N)), .long (zL (cWi pk px py M N ls lv lx ly kc)), .long (zL (cPi pk px py M N ls lv lx ly kc)), .long (zL (cQi pk px py M N ls lv lx ly kc))])), (y1, .inl (cI, 6, .inl th)), (y2, .inl (cI, 6, .inl sd)), (y3, .inl (cI, 6, .inl tp)), (y4, .inl (cI, 12, .inl px)), (y5, .inl (cI, 12, .inl py)), (y6, .inl (cI, 12, .inl (fun i => nI (pl i)))), (y7, .inl (cI, 12, .inl pk)), (y8, .inl (cZ, 12, .inl (fun i => bI (M.testBit i)))), (y9, .inl (cI, 3, .inl (fun i => nI (ls i)))), (y10, .inl (cI, 18, .inl lv)), (y11, .inl (cI, 18, .inl lx)), (y12, .inl (cI, 18, .inl ly)), (y13, .inl (cJ, 15, .inr (.inl ab))), (y14, .inl (cJ, 15, .inr (.inl bl)))]) ((wset_wgo (nodup_of nd15) rfl).trans rfl) ?_
              refine v_st (st' := [.long (zL ((shB pk px py M N ls lv lx ly kc) k))]) rfl ?_
              refine v_long (y := zL ((shB pk px py M N ls lv lx ly kc) k)) rfl ?_
              refine v_goto F dX8_end_63 (tgt := 67) rfl ?_
              refine v_lstore F dX8_end_67 (lv' := [(9, .long (zL ((shB pk px py M N ls lv lx ly kc) k))), (0, .ref y0), (2, .int (nI M)), (3, .int (enI (enF M (shB pk px py M N ls lv lx ly kc) (liI th sd tp n sc pl) k))), (4, .long (lN (enMo (shB pk px py M N ls lv lx ly kc) (liI th sd tp n sc pl) (enF M (shB pk px py M N ls lv lx ly kc) (liI th sd tp n sc pl) k)))), (6, .long (lN (enGe (shB pk px py M N ls lv lx ly kc) (enF M (shB pk px py M N ls lv lx ly kc) (liI th sd tp n sc pl) k)))), (8, .int (nI k))]) (Nat.le_of_ble_eq_true rfl) rfl (q := 69) rfl ?_
              refine v_lload F dX8_end_69 0 rfl (q := 71) rfl ?_
              refine v_lconst F dX8_end_71 (v := 0) (q := 72) rfl rfl ?_
              refine v_lcmp_le F dX8_end_72 dX8_end_73 (tgt := 86) rfl (q := 76) rfl (fun c72 => ?_) (fun c72 => ?_)
              · skip
                rw [show (0 : Int64) = zL 0 from rfl, zL_le (by omega) (by omega) (by omega) (by omega)] at c72
                have hs1 : ¬ 0 < (shB pk px py M N ls lv lx ly kc) k := by omega
                refine v_aload_n F dX8_end_86 (i := 0) rfl 1 rfl (q := 87) rfl ?_
                refine v_aload_n F dX8_end_87 (i := 0) rfl 1 rfl (q := 88) rfl ?_
                refine gt_X8_25 F dX8_end_88 0 rfl rfl (q := 91) rfl ?_
                refine v_iload F dX8_end_91 6 rfl (q := 93) rfl ?_
                refine v_ialdN F 6 0 rfl rfl (j := k) (by omega) (by decide) dX8_end_93 (q := 94) rfl ?_
                refine v_st (st' := [.int (nI (pl k)), .ref y0]) rfl ?_
                refine v_callV F ml_X8_86 im_X8_pullOf se_X8_pullOf in_X8 co_X8_pullOf sd_X8_pullOf (c_X8_pullOf y0 y1 y2 y3 y4 y5 y6 y7 y8 y9 y10 y11 y12 y13 y14 th sd tp n sc sp px py pl pk N M ls lv lx ly ab bl tn (dDE pk px py M N) (cWi pk px py M N ls lv lx ly kc) (cPi pk px py M N ls lv lx ly kc) (cQi pk px py M N ls lv lx ly kc) (pl k) ⟨G, hsp, P, hM, hls, hlv, hlx, hly, by omega⟩ (by omega)) ⟨Nat.zero_le _, Nat.zero_le _⟩ (Nat.le_of_ble_eq_true rfl) (Nat.le_of_ble_eq_true rfl) 0 (As := [.int (nI (pl k))]) rfl rfl rfl rfl rfl [0, 1, 2, 3, 4, 5, 6, 7, 8, 9, 10, 11, 12, 13, 14] rfl nd15 vnd15 (rest := []) rfl (Nat.le_of_ble_eq_true rfl) dX8_end_94 (q := 97) rfl (fun r w hr => ?_)
                obtain ⟨rfl, rfl⟩ := hr
                refine v_ws (ws' := [(y0, .inr (8, [.int (nI n), .ref y1, .ref y2, .ref y3, .int sc, .int sp, .int (nI N), .ref y4, .ref y5, .ref y6, .ref y7, .ref y8, .ref y9, .ref y10, .ref y11, .ref y12, .int (nI tn), .ref y13, .ref y14, .long (zL (dDE pk px py M N)), .long (zL (cWi pk px py M N ls lv lx ly kc)), .long (zL (cPi pk px py M N ls lv lx ly kc)), .long (zL (cQi pk px py M N ls lv lx ly kc))])), (y1, .inl (cI, 6, .inl th)), (y2, .inl (cI, 6, .inl sd)), (y3, .inl (cI, 6, .inl tp)), (y4, .inl (cI, 12, .inl px)), (y5, .inl (cI, 12, .inl py)), (y6, .inl (cI, 12, .inl (fun i => nI (pl i)))), (y7, .inl (cI, 12, .inl pk)), (y8, .inl (cZ, 12, .inl (fun i => bI (M.testBit i)))), (y9, .inl (cI, 3, .inl (fun i => nI (ls i)))), (y10, .inl (cI, 18, .inl lv)), (y11, .inl (cI, 18, .inl lx)), (y12, .inl (cI, 18, .inl ly)), (y13, .inl (cJ, 15, .inr (.inl ab))), (y14, .inl (cJ, 15, .inr (.inl bl)))]) ((wset_wgo (nodup_of nd15) rfl).trans rfl) ?_
                refine v_st (st' := [.int (zI (gPU th sd n sc (pl k)))]) rfl ?_
                refine v_i2l F dX8_end_97 (q := 98) rfl ?_
                refine v_long (y := lN ((liI th sd tp n sc pl) ((shB pk px py M N ls lv lx ly kc) k) k).toNat) (li_p G P hkn hs1) ?_
                refine v_lstore F dX8_end_98 (lv' := [(11, .long (lN ((liI th sd tp n sc pl) ((shB pk px py M N ls lv lx ly kc) k) k).toNat)), (9, .long (zL ((shB pk px py M N ls lv lx ly kc) k))), (0, .ref y0), (2, .int (nI M)), (3, .int (enI (enF M (shB pk px py M N ls lv lx ly kc) (liI th sd tp n sc pl) k))), (4, .long (lN (enMo (shB pk px py M N ls lv lx ly kc) (liI th sd tp n sc pl) (enF M (shB pk px py M N ls lv lx ly kc) (liI th sd tp n sc pl) k)))), (6, .long (lN (enGe (shB pk px py M N ls lv lx ly kc) (enF M (shB pk px py M N ls lv lx ly kc) (liI th sd tp n sc pl) k)))), (8, .int (nI k))]) (Nat.le_of_ble_eq_true rfl) rfl (q := 100) rfl ?_
                refine v_lload F dX8_end_100 1 rfl (q := 102) rfl ?_
                refine v_lconst F dX8_end_102 (v := 0) (q := 103) rfl rfl ?_
                refine v_lcmp_ge F dX8_end_103 dX8_end_104 (tgt := 113) rfl (q := 107) rfl (fun c103 => ?_) (fun c103 => ?_)
                · skip
                  rw [show (0 : Int64) = zL 0 from rfl, zL_le (by omega) (by omega) (by omega) (by omega)] at c103
                  refine v_lload F dX8_end_113 1 rfl (q := 115) rfl ?_
                  refine v_long (y := lN ((shB pk px py M N ls lv lx ly kc) k).natAbs) (ab_p c103) ?_
                  refine v_lstore F dX8_end_115 (lv' := [(13, .long (lN ((shB pk px py M N ls lv lx ly kc) k).natAbs)), (11, .long (lN ((liI th sd tp n sc pl) ((shB pk px py M N ls lv lx ly kc) k) k).toNat)), (9, .long (zL ((shB pk px py M N ls lv lx ly kc) k))), (0, .ref y0), (2, .int (nI M)), (3, .int (enI (enF M (shB pk px py M N ls lv lx ly kc) (liI th sd tp n sc pl) k))), (4, .long (lN (enMo (shB pk px py M N ls lv lx ly kc) (liI th sd tp n sc pl) (enF M (shB pk px py M N ls lv lx ly kc) (liI th sd tp n sc pl) k)))), (6, .long (lN (enGe (shB pk px py M N ls lv lx ly kc) (enF M (shB pk px py M N ls lv lx ly kc) (liI th sd tp n sc pl) k)))), (8, .int (nI k))]) (Nat.le_of_ble_eq_true rfl) rfl (q := 117) rfl ?_
                  refine v_lload F dX8_end_117 2 rfl (q := 119) rfl ?_
                  refine v_lconst F dX8_end_119 (v := 0) (q := 120) rfl rfl ?_
                  refine v_lcmp_eq F dX8_end_120 dX8_end_121 (tgt := 155) rfl (q := 124) rfl (fun c120 => ?_) (fun c120 => ?_)
                  · skip
                    rw [show (0 : Int64) = zL 0 from rfl, zL_eq (by omega) (by omega) (by omega) (by omega)] at c120
                    have hs0 : (shB pk px py M N ls lv lx ly kc) k = 0 := c120
                    refine v_iinc F dX8_end_155 8 rfl (v := nI (k + 1)) (lv' := [(8, .int (nI (k + 1))), (13, .long (lN ((shB pk px py M N ls lv lx ly kc) k).natAbs)), (11, .long (lN ((liI th sd tp n sc pl) ((shB pk px py M N ls lv lx ly kc) k) k).toNat)), (9, .long (zL ((shB pk px py M N ls lv lx ly kc) k))), (0, .ref y0), (2, .int (nI M)), (3, .int (enI (enF M (shB pk px py M N ls lv lx ly kc) (liI th sd tp n sc pl) k))), (4, .long (lN (enMo (shB pk px py M N ls lv lx ly kc) (liI th sd tp n sc pl) (enF M (shB pk px py M N ls lv lx ly kc) (liI th sd tp n sc pl) k)))), (6, .long (lN (enGe (shB pk px py M N ls lv lx ly kc) (enF M (shB pk px py M N ls lv lx ly kc) (liI th sd tp n sc pl) k))))]) (nI_1 k) (Nat.le_of_ble_eq_true rfl) rfl (q := 158) rfl ?_
                    refine v_goto F dX8_end_158 (tgt := 38) rfl ?_
                    refine v_lv (lv' := [(0, .ref y0), (2, .int (nI M)), (3, .int (enI (enF M (shB pk px py M N ls lv lx ly kc) (liI th sd tp n sc pl) k))), (4, .long (lN (enMo (shB pk px py M N ls lv lx ly kc) (liI th sd tp n sc pl) (enF M (shB pk px py M N ls lv lx ly kc) (liI th sd tp n sc pl) k)))), (6, .long (lN (enGe (shB pk px py M N ls lv lx ly kc) (enF M (shB pk px py M N ls lv lx ly kc) (liI th sd tp n sc pl) k)))), (8, .int (nI (k + 1)))]) [4, 5, 6, 7, 8, 0] rfl ?_
                    have hV := ih d (by omega) (k + 1) (by omega)
                    first | rw [enF_f1 c54] at hV | rw [enF_f2 hs0] at hV
                    exact hV
                  · skip
                    rw [show (0 : Int64) = zL 0 from rfl, zL_eq (by omega) (by omega) (by omega) (by omega)] at c120
                    have hs0 : (shB pk px py M N ls lv lx ly kc) k ≠ 0 := c120
                    rcases ho : (enF M (shB pk px py M N ls lv lx ly kc) (liI th sd tp n sc pl) k) with _ | j
                    · skip
                      refine v_iload_n F dX8_end_124 (i := 3) rfl 5 rfl (q := 125) rfl ?_
                      refine v_bipush F dX8_end_125 (v := (-4)) (q := 127) rfl rfl ?_
                      refine v_icmp_eq F dX8_end_127 (tgt := 144) rfl (q := 130) rfl (fun c127 => ?_) (fun c127 => ?_)
                      · skip
                        have hT : enT (shB pk px py M N ls lv lx ly kc) (liI th sd tp n sc pl) k (enF M (shB pk px py M N ls lv lx ly kc) (liI th sd tp n sc pl) k) = true := by rw [ho]; rfl
                        refine v_iload F dX8_end_144 8 rfl (q := 146) rfl ?_
                        refine v_istore_n F dX8_end_146 (i := 3) (lv' := [(3, .int (nI k)), (13, .long (lN ((shB pk px py M N ls lv lx ly kc) k).natAbs)), (11, .long (lN ((liI th sd tp n sc pl) ((shB pk px py M N ls lv lx ly kc) k) k).toNat)), (9, .long (zL ((shB pk px py M N ls lv lx ly kc) k))), (0, .ref y0), (2, .int (nI M)), (4, .long (lN (enMo (shB pk px py M N ls lv lx ly kc) (liI th sd tp n sc pl) none))), (6, .long (lN (enGe (shB pk px py M N ls lv lx ly kc) none))), (8, .int (nI k))]) rfl (Nat.le_of_ble_eq_true rfl) rfl (q := 147) rfl ?_
                        refine v_lload F dX8_end_147 2 rfl (q := 149) rfl ?_
                        refine v_lstore F dX8_end_149 (lv' := [(4, .long (lN ((liI th sd tp n sc pl) ((shB pk px py M N ls lv lx ly kc) k) k).toNat)), (3, .int (nI k)), (13, .long (lN ((shB pk px py M N ls lv lx ly kc) k).natAbs)), (11, .long (lN ((liI th sd tp n sc pl) ((shB pk px py M N ls lv lx ly kc) k) k).toNat)), (9, .long (zL ((shB pk px py M N ls lv lx ly kc) k))), (0, .ref y0), (2, .int (nI M)), (6, .long (lN (enGe (shB pk px py M N ls lv lx ly kc) none))), (8, .int (nI k))]) (Nat.le_of_ble_eq_true rfl) rfl (q := 151) rfl ?_
                        refine v_lload F dX8_end_151 2 rfl (q := 153) rfl ?_
                        refine v_lstore F dX8_end_153 (lv' := [(6, .long (lN ((shB pk px py M N ls lv lx ly kc) k).natAbs)), (4, .long (lN ((liI th sd tp n sc pl) ((shB pk px py M N ls lv lx ly kc) k) k).toNat)), (3, .int (nI k)), (13, .long (lN ((shB pk px py M N ls lv lx ly kc) k).natAbs)), (11, .long (lN ((liI th sd tp n sc pl) ((shB pk px py M N ls lv lx ly kc) k) k).toNat)), (9, .long (zL ((shB pk px py M N ls lv lx ly kc) k))), (0, .ref y0), (2, .int (nI M)), (8, .int (nI k))]) (Nat.le_of_ble_eq_true rfl) rfl (q := 155) rfl ?_
                        refine v_iinc F dX8_end_155 8 rfl (v := nI (k + 1)) (lv' := [(8, .int (nI (k + 1))), (6, .long (lN ((shB pk px py M N ls lv lx ly kc) k).natAbs)), (4, .long (lN ((liI th sd tp n sc pl) ((shB pk px py M N ls lv lx ly kc) k) k).toNat)), (3, .int (nI k)), (13, .long (lN ((shB pk px py M N ls lv lx ly kc) k).natAbs)), (11, .long (lN ((liI th sd tp n sc pl) ((shB pk px py M N ls lv lx ly kc) k) k).toNat)), (9, .long (zL ((shB pk px py M N ls lv lx ly kc) k))), (0, .ref y0), (2, .int (nI M))]) (nI_1 k) (Nat.le_of_ble_eq_true rfl) rfl (q := 158) rfl ?_
                        refine v_goto F dX8_end_158 (tgt := 38) rfl ?_
                        refine v_lv (lv' := [(0, .ref y0), (2, .int (nI M)), (3, .int (nI k)), (4, .long (lN ((liI th sd tp n sc pl) ((shB pk px py M N ls lv lx ly kc) k) k).toNat)), (6, .long (lN ((shB pk px py M N ls lv lx ly kc) k).natAbs)), (8, .int (nI (k + 1)))]) [7, 8, 3, 2, 1, 0] rfl ?_
                        have hV := ih d (by omega) (k + 1) (by omega)
                        rw [enF_t c54 hs0 hT] at hV
                        exact hV
                      · exact absurd rfl c127
                    · skip
                      have hj := enF_lt ho
                      have hjn : j < N := by omega
                      have hRj := hR.2.2.2 j hjn
                      have hlj := li_rng G P hjn ((shB pk px py M N ls lv lx ly kc) j)
                      have hj0 := hj.2.2
                      refine v_iload_n F dX8_end_124 (i := 3) rfl 5 rfl (q := 125) rfl ?_
                      refine v_bipush F dX8_end_125 (v := (-4)) (q := 127) rfl rfl ?_
                      refine v_icmp_eq F dX8_end_127 (tgt := 144) rfl (q := 130) rfl (fun c127 => ?_) (fun c127 => ?_)
                      · exact absurd c127 (nI_nm4 (by omega))
                      · skip
                        refine v_lload F dX8_end_130 1 rfl (q := 132) rfl ?_
                        refine v_lload F dX8_end_132 0 rfl (q := 134) rfl ?_
                        refine v_lload F dX8_end_134 6 rfl (q := 136) rfl ?_
                        refine v_lload F dX8_end_136 7 rfl (q := 138) rfl ?_
                        refine v_callS F ml_X8_136 sm_X8_isLess in_X8 co_X8_isLess sd_X8_isLess (c_X8_isLess (((liI th sd tp n sc pl) ((shB pk px py M N ls lv lx ly kc) k) k).toNat) (((shB pk px py M N ls lv lx ly kc) k).natAbs) (((liI th sd tp n sc pl) ((shB pk px py M N ls lv lx ly kc) j) j).toNat) (((shB pk px py M N ls lv lx ly kc) j).natAbs) (by omega) (by omega) (by omega) (by omega) (by omega) (by omega)) ⟨Nat.zero_le _, Nat.zero_le _⟩ (Nat.le_of_ble_eq_true rfl) (Nat.le_of_ble_eq_true rfl) rfl [] rfl rfl rfl (rest := []) rfl (Nat.le_of_ble_eq_true rfl) dX8_end_138 (q := 141) rfl (fun r w hr => ?_)
                        obtain ⟨rfl, rfl⟩ := hr
                        refine v_ws (ws' := [(y0, .inr (8, [.int (nI n), .ref y1, .ref y2, .ref y3, .int sc, .int sp, .int (nI N), .ref y4, .ref y5, .ref y6, .ref y7, .ref y8, .ref y9, .ref y10, .ref y11, .ref y12, .int (nI tn), .ref y13, .ref y14, .long (zL (dDE pk px py M N)), .long (zL (cWi pk px py M N ls lv lx ly kc)), .long (zL (cPi pk px py M N ls lv lx ly kc)), .long (zL (cQi pk px py M N ls lv lx ly kc))])), (y1, .inl (cI, 6, .inl th)), (y2, .inl (cI, 6, .inl sd)), (y3, .inl (cI, 6, .inl tp)), (y4, .inl (cI, 12, .inl px)), (y5, .inl (cI, 12, .inl py)), (y6, .inl (cI, 12, .inl (fun i => nI (pl i)))), (y7, .inl (cI, 12, .inl pk)), (y8, .inl (cZ, 12, .inl (fun i => bI (M.testBit i)))), (y9, .inl (cI, 3, .inl (fun i => nI (ls i)))), (y10, .inl (cI, 18, .inl lv)), (y11, .inl (cI, 18, .inl lx)), (y12, .inl (cI, 18, .inl ly)), (y13, .inl (cJ, 15, .inr (.inl ab))), (y14, .inl (cJ, 15, .inr (.inl bl)))]) rfl ?_
                        refine v_st (st' := [.int (bI (decide ((((liI th sd tp n sc pl) ((shB pk px py M N ls lv lx ly kc) k) k).toNat) * (((shB pk px py M N ls lv lx ly kc) j).natAbs) < (((liI th sd tp n sc pl) ((shB pk px py M N ls lv lx ly kc) j) j).toNat) * (((shB pk px py M N ls lv lx ly kc) k).natAbs))))]) rfl ?_
                        refine v_if_eq F dX8_end_141 (tgt := 155) rfl (q := 144) rfl (fun c141 => ?_) (fun c141 => ?_)
                        · skip
                          rw [bI_z] at c141
                          have hT : enT (shB pk px py M N ls lv lx ly kc) (liI th sd tp n sc pl) k (enF M (shB pk px py M N ls lv lx ly kc) (liI th sd tp n sc pl) k) = false := by rw [ho]; rw [en_dec hlk.1 hlj.1] at c141; exact c141
                          refine v_iinc F dX8_end_155 8 rfl (v := nI (k + 1)) (lv' := [(8, .int (nI (k + 1))), (13, .long (lN ((shB pk px py M N ls lv lx ly kc) k).natAbs)), (11, .long (lN ((liI th sd tp n sc pl) ((shB pk px py M N ls lv lx ly kc) k) k).toNat)), (9, .long (zL ((shB pk px py M N ls lv lx ly kc) k))), (0, .ref y0), (2, .int (nI M)), (3, .int (nI j)), (4, .long (lN ((liI th sd tp n sc pl) ((shB pk px py M N ls lv lx ly kc) j) j).toNat)), (6, .long (lN ((shB pk px py M N ls lv lx ly kc) j).natAbs))]) (nI_1 k) (Nat.le_of_ble_eq_true rfl) rfl (q := 158) rfl ?_
                          refine v_goto F dX8_end_158 (tgt := 38) rfl ?_
                          refine v_lv (lv' := [(0, .ref y0), (2, .int (nI M)), (3, .int (nI j)), (4, .long (lN ((liI th sd tp n sc pl) ((shB pk px py M N ls lv lx ly kc) j) j).toNat)), (6, .long (lN ((shB pk px py M N ls lv lx ly kc) j).natAbs)), (8, .int (nI (k + 1)))]) [4, 5, 6, 7, 8, 0] rfl ?_
                          have hV := ih d (by omega) (k + 1) (by omega)
                          rw [enF_f3 hT, ho] at hV
                          exact hV
                        · skip
                          rw [bI_nz] at c141
                          have hT : enT (shB pk px py M N ls lv lx ly kc) (liI th sd tp n sc pl) k (enF M (shB pk px py M N ls lv lx ly kc) (liI th sd tp n sc pl) k) = true := by rw [ho]; rw [en_dec hlk.1 hlj.1] at c141; exact c141
                          refine v_iload F dX8_end_144 8 rfl (q := 146) rfl ?_
                          refine v_istore_n F dX8_end_146 (i := 3) (lv' := [(3, .int (nI k)), (13, .long (lN ((shB pk px py M N ls lv lx ly kc) k).natAbs)), (11, .long (lN ((liI th sd tp n sc pl) ((shB pk px py M N ls lv lx ly kc) k) k).toNat)), (9, .long (zL ((shB pk px py M N ls lv lx ly kc) k))), (0, .ref y0), (2, .int (nI M)), (4, .long (lN ((liI th sd tp n sc pl) ((shB pk px py M N ls lv lx ly kc) j) j).toNat)), (6, .long (lN ((shB pk px py M N ls lv lx ly kc) j).natAbs)), (8, .int (nI k))]) rfl (Nat.le_of_ble_eq_true rfl) rfl (q := 147) rfl ?_
                          refine v_lload F dX8_end_147 2 rfl (q := 149) rfl ?_
                          refine v_lstore F dX8_end_149 (lv' := [(4, .long (lN ((liI th sd tp n sc pl) ((shB pk px py M N ls lv lx ly kc) k) k).toNat)), (3, .int (nI k)), (13, .long (lN ((shB pk px py M N ls lv lx ly kc) k).natAbs)), (11, .long (lN ((liI th sd tp n sc pl) ((shB pk px py M N ls lv lx ly kc) k) k).toNat)), (9, .long (zL ((shB pk px py M N ls lv lx ly kc) k))), (0, .ref y0), (2, .int (nI M)), (6, .long (lN ((shB pk px py M N ls lv lx ly kc) j).natAbs)), (8, .int (nI k))]) (Nat.le_of_ble_eq_true rfl) rfl (q := 151) rfl ?_
                          refine v_lload F dX8_end_151 2 rfl (q := 153) rfl ?_
                          refine v_lstore F dX8_end_153 (lv' := [(6, .long (lN ((shB pk px py M N ls lv lx ly kc) k).natAbs)), (4, .long (lN ((liI th sd tp n sc pl) ((shB pk px py M N ls lv lx ly kc) k) k).toNat)), (3, .int (nI k)), (13, .long (lN ((shB pk px py M N ls lv lx ly kc) k).natAbs)), (11, .long (lN ((liI th sd tp n sc pl) ((shB pk px py M N ls lv lx ly kc) k) k).toNat)), (9, .long (zL ((shB pk px py M N ls lv lx ly kc) k))), (0, .ref y0), (2, .int (nI M)), (8, .int (nI k))]) (Nat.le_of_ble_eq_true rfl) rfl (q := 155) rfl ?_
                          refine v_iinc F dX8_end_155 8 rfl (v := nI (k + 1)) (lv' := [(8, .int (nI (k + 1))), (6, .long (lN ((shB pk px py M N ls lv lx ly kc) k).natAbs)), (4, .long (lN ((liI th sd tp n sc pl) ((shB pk px py M N ls lv lx ly kc) k) k).toNat)), (3, .int (nI k)), (13, .long (lN ((shB pk px py M N ls lv lx ly kc) k).natAbs)), (11, .long (lN ((liI th sd tp n sc pl) ((shB pk px py M N ls lv lx ly kc) k) k).toNat)), (9, .long (zL ((shB pk px py M N ls lv lx ly kc) k))), (0, .ref y0), (2, .int (nI M))]) (nI_1 k) (Nat.le_of_ble_eq_true rfl) rfl (q := 158) rfl ?_
                          refine v_goto F dX8_end_158 (tgt := 38) rfl ?_
                          refine v_lv (lv' := [(0, .ref y0), (2, .int (nI M)), (3, .int (nI k)), (4, .long (lN ((liI th sd tp n sc pl) ((shB pk px py M N ls lv lx ly kc) k) k).toNat)), (6, .long (lN ((shB pk px py M N ls lv lx ly kc) k).natAbs)), (8, .int (nI (k + 1)))]) [7, 8, 3, 2, 1, 0] rfl ?_
                          have hV := ih d (by omega) (k + 1) (by omega)
                          rw [enF_t c54 hs0 hT] at hV
                          exact hV
                · skip
                  rw [show (0 : Int64) = zL 0 from rfl, zL_le (by omega) (by omega) (by omega) (by omega)] at c103
                  refine v_lload F dX8_end_107 1 rfl (q := 109) rfl ?_
                  refine v_lneg F dX8_end_109 (q := 110) rfl ?_
                  refine v_goto F dX8_end_110 (tgt := 115) rfl ?_
                  refine v_long (y := lN ((shB pk px py M N ls lv lx ly kc) k).natAbs) (ab_n c103) ?_
                  refine v_lstore F dX8_end_115 (lv' := [(13, .long (lN ((shB pk px py M N ls lv lx ly kc) k).natAbs)), (11, .long (lN ((liI th sd tp n sc pl) ((shB pk px py M N ls lv lx ly kc) k) k).toNat)), (9, .long (zL ((shB pk px py M N ls lv lx ly kc) k))), (0, .ref y0), (2, .int (nI M)), (3, .int (enI (enF M (shB pk px py M N ls lv lx ly kc) (liI th sd tp n sc pl) k))), (4, .long (lN (enMo (shB pk px py M N ls lv lx ly kc) (liI th sd tp n sc pl) (enF M (shB pk px py M N ls lv lx ly kc) (liI th sd tp n sc pl) k)))), (6, .long (lN (enGe (shB pk px py M N ls lv lx ly kc) (enF M (shB pk px py M N ls lv lx ly kc) (liI th sd tp n sc pl) k)))), (8, .int (nI k))]) (Nat.le_of_ble_eq_true rfl) rfl (q := 117) rfl ?_
                  refine v_lload F dX8_end_117 2 rfl (q := 119) rfl ?_
                  refine v_lconst F dX8_end_119 (v := 0) (q := 120) rfl rfl ?_
                  refine v_lcmp_eq F dX8_end_120 dX8_end_121 (tgt := 155) rfl (q := 124) rfl (fun c120 => ?_) (fun c120 => ?_)
                  · skip
                    rw [show (0 : Int64) = zL 0 from rfl, zL_eq (by omega) (by omega) (by omega) (by omega)] at c120
                    have hs0 : (shB pk px py M N ls lv lx ly kc) k = 0 := c120
                    refine v_iinc F dX8_end_155 8 rfl (v := nI (k + 1)) (lv' := [(8, .int (nI (k + 1))), (13, .long (lN ((shB pk px py M N ls lv lx ly kc) k).natAbs)), (11, .long (lN ((liI th sd tp n sc pl) ((shB pk px py M N ls lv lx ly kc) k) k).toNat)), (9, .long (zL ((shB pk px py M N ls lv lx ly kc) k))), (0, .ref y0), (2, .int (nI M)), (3, .int (enI (enF M (shB pk px py M N ls lv lx ly kc) (liI th sd tp n sc pl) k))), (4, .long (lN (enMo (shB pk px py M N ls lv lx ly kc) (liI th sd tp n sc pl) (enF M (shB pk px py M N ls lv lx ly kc) (liI th sd tp n sc pl) k)))), (6, .long (lN (enGe (shB pk px py M N ls lv lx ly kc) (enF M (shB pk px py M N ls lv lx ly kc) (liI th sd tp n sc pl) k))))]) (nI_1 k) (Nat.le_of_ble_eq_true rfl) rfl (q := 158) rfl ?_
                    refine v_goto F dX8_end_158 (tgt := 38) rfl ?_
                    refine v_lv (lv' := [(0, .ref y0), (2, .int (nI M)), (3, .int (enI (enF M (shB pk px py M N ls lv lx ly kc) (liI th sd tp n sc pl) k))), (4, .long (lN (enMo (shB pk px py M N ls lv lx ly kc) (liI th sd tp n sc pl) (enF M (shB pk px py M N ls lv lx ly kc) (liI th sd tp n sc pl) k)))), (6, .long (lN (enGe (shB pk px py M N ls lv lx ly kc) (enF M (shB pk px py M N ls lv lx ly kc) (liI th sd tp n sc pl) k)))), (8, .int (nI (k + 1)))]) [4, 5, 6, 7, 8, 0] rfl ?_
                    have hV := ih d (by omega) (k + 1) (by omega)
                    first | rw [enF_f1 c54] at hV | rw [enF_f2 hs0] at hV
                    exact hV
                  · skip
                    rw [show (0 : Int64) = zL 0 from rfl, zL_eq (by omega) (by omega) (by omega) (by omega)] at c120
                    have hs0 : (shB pk px py M N ls lv lx ly kc) k ≠ 0 := c120
                    rcases ho : (enF M (shB pk px py M N ls lv lx ly kc) (liI th sd tp n sc pl) k) with _ | j
                    · skip
                      refine v_iload_n F dX8_end_124 (i := 3) rfl 5 rfl (q := 125) rfl ?_
                      refine v_bipush F dX8_end_125 (v := (-4)) (q := 127) rfl rfl ?_
                      refine v_icmp_eq F dX8_end_127 (tgt := 144) rfl (q := 130) rfl (fun c127 => ?_) (fun c127 => ?_)
                      · skip
                        have hT : enT (shB pk px py M N ls lv lx ly kc) (liI th sd tp n sc pl) k (enF M (shB pk px py M N ls lv lx ly kc) (liI th sd tp n sc pl) k) = true := by rw [ho]; rfl
                        refine v_iload F dX8_end_144 8 rfl (q := 146) rfl ?_
                        refine v_istore_n F dX8_end_146 (i := 3) (lv' := [(3, .int (nI k)), (13, .long (lN ((shB pk px py M N ls lv lx ly kc) k).natAbs)), (11, .long (lN ((liI th sd tp n sc pl) ((shB pk px py M N ls lv lx ly kc) k) k).toNat)), (9, .long (zL ((shB pk px py M N ls lv lx ly kc) k))), (0, .ref y0), (2, .int (nI M)), (4, .long (lN (enMo (shB pk px py M N ls lv lx ly kc) (liI th sd tp n sc pl) none))), (6, .long (lN (enGe (shB pk px py M N ls lv lx ly kc) none))), (8, .int (nI k))]) rfl (Nat.le_of_ble_eq_true rfl) rfl (q := 147) rfl ?_
                        refine v_lload F dX8_end_147 2 rfl (q := 149) rfl ?_
                        refine v_lstore F dX8_end_149 (lv' := [(4, .long (lN ((liI th sd tp n sc pl) ((shB pk px py M N ls lv lx ly kc) k) k).toNat)), (3, .int (nI k)), (13, .long (lN ((shB pk px py M N ls lv lx ly kc) k).natAbs)), (11, .long (lN ((liI th sd tp n sc pl) ((shB pk px py M N ls lv lx ly kc) k) k).toNat)), (9, .long (zL ((shB pk px py M N ls lv lx ly kc) k))), (0, .ref y0), (2, .int (nI M)), (6, .long (lN (enGe (shB pk px py M N ls lv lx ly kc) none))), (8, .int (nI k))]) (Nat.le_of_ble_eq_true rfl) rfl (q := 151) rfl ?_
                        refine v_lload F dX8_end_151 2 rfl (q := 153) rfl ?_
                        refine v_lstore F dX8_end_153 (lv' := [(6, .long (lN ((shB pk px py M N ls lv lx ly kc) k).natAbs)), (4, .long (lN ((liI th sd tp n sc pl) ((shB pk px py M N ls lv lx ly kc) k) k).toNat)), (3, .int (nI k)), (13, .long (lN ((shB pk px py M N ls lv lx ly kc) k).natAbs)), (11, .long (lN ((liI th sd tp n sc pl) ((shB pk px py M N ls lv lx ly kc) k) k).toNat)), (9, .long (zL ((shB pk px py M N ls lv lx ly kc) k))), (0, .ref y0), (2, .int (nI M)), (8, .int (nI k))]) (Nat.le_of_ble_eq_true rfl) rfl (q := 155) rfl ?_
                        refine v_iinc F dX8_end_155 8 rfl (v := nI (k + 1)) (lv' := [(8, .int (nI (k + 1))), (6, .long (lN ((shB pk px py M N ls lv lx ly kc) k).natAbs)), (4, .long (lN ((liI th sd tp n sc pl) ((shB pk px py M N ls lv lx ly kc) k) k).toNat)), (3, .int (nI k)), (13, .long (lN ((shB pk px py M N ls lv lx ly kc) k).natAbs)), (11, .long (lN ((liI th sd tp n sc pl) ((shB pk px py M N ls lv lx ly kc) k) k).toNat)), (9, .long (zL ((shB pk px py M N ls lv lx ly kc) k))), (0, .ref y0), (2, .int (nI M))]) (nI_1 k) (Nat.le_of_ble_eq_true rfl) rfl (q := 158) rfl ?_
                        refine v_goto F dX8_end_158 (tgt := 38) rfl ?_
                        refine v_lv (lv' := [(0, .ref y0), (2, .int (nI M)), (3, .int (nI k)), (4, .long (lN ((liI th sd tp n sc pl) ((shB pk px py M N ls lv lx ly kc) k) k).toNat)), (6, .long (lN ((shB pk px py M N ls lv lx ly kc) k).natAbs)), (8, .int (nI (k + 1)))]) [7, 8, 3, 2, 1, 0] rfl ?_
                        have hV := ih d (by omega) (k + 1) (by omega)
                        rw [enF_t c54 hs0 hT] at hV
                        exact hV
                      · exact absurd rfl c127
                    · skip
                      have hj := enF_lt ho
                      have hjn : j < N := by omega
                      have hRj := hR.2.2.2 j hjn
                      have hlj := li_rng G P hjn ((shB pk px py M N ls lv lx ly kc) j)
                      have hj0 := hj.2.2
                      refine v_iload_n F dX8_end_124 (i := 3) rfl 5 rfl (q := 125) rfl ?_
                      refine v_bipush F dX8_end_125 (v := (-4)) (q := 127) rfl rfl ?_
                      refine v_icmp_eq F dX8_end_127 (tgt := 144) rfl (q := 130) rfl (fun c127 => ?_) (fun c127 => ?_)
                      · exact absurd c127 (nI_nm4 (by omega))
                      · skip
                        refine v_lload F dX8_end_130 1 rfl (q := 132) rfl ?_
                        refine v_lload F dX8_end_132 0 rfl (q := 134) rfl ?_
                        refine v_lload F dX8_end_134 6 rfl (q := 136) rfl ?_
                        refine v_lload F dX8_end_136 7 rfl (q := 138) rfl ?_
                        refine v_callS F ml_X8_136 sm_X8_isLess in_X8 co_X8_isLess sd_X8_isLess (c_X8_isLess (((liI th sd tp n sc pl) ((shB pk px py M N ls lv lx ly kc) k) k).toNat) (((shB pk px py M N ls lv lx ly kc) k).natAbs) (((liI th sd tp n sc pl) ((shB pk px py M N ls lv lx ly kc) j) j).toNat) (((shB pk px py M N ls lv lx ly kc) j).natAbs) (by omega) (by omega) (by omega) (by omega) (by omega) (by omega)) ⟨Nat.zero_le _, Nat.zero_le _⟩ (Nat.le_of_ble_eq_true rfl) (Nat.le_of_ble_eq_true rfl) rfl [] rfl rfl rfl (rest := []) rfl (Nat.le_of_ble_eq_true rfl) dX8_end_138 (q := 141) rfl (fun r w hr => ?_)
                        obtain ⟨rfl, rfl⟩ := hr
                        refine v_ws (ws' := [(y0, .inr (8, [.int (nI n), .ref y1, .ref y2, .ref y3, .int sc, .int sp, .int (nI N), .ref y4, .ref y5, .ref y6, .ref y7, .ref y8, .ref y9, .ref y10, .ref y11, .ref y12, .int (nI tn), .ref y13, .ref y14, .long (zL (dDE pk px py M N)), .long (zL (cWi pk px py M N ls lv lx ly kc)), .long (zL (cPi pk px py M N ls lv lx ly kc)), .long (zL (cQi pk px py M N ls lv lx ly kc))])), (y1, .inl (cI, 6, .inl th)), (y2, .inl (cI, 6, .inl sd)), (y3, .inl (cI, 6, .inl tp)), (y4, .inl (cI, 12, .inl px)), (y5, .inl (cI, 12, .inl py)), (y6, .inl (cI, 12, .inl (fun i => nI (pl i)))), (y7, .inl (cI, 12, .inl pk)), (y8, .inl (cZ, 12, .inl (fun i => bI (M.testBit i)))), (y9, .inl (cI, 3, .inl (fun i => nI (ls i)))), (y10, .inl (cI, 18, .inl lv)), (y11, .inl (cI, 18, .inl lx)), (y12, .inl (cI, 18, .inl ly)), (y13, .inl (cJ, 15, .inr (.inl ab))), (y14, .inl (cJ, 15, .inr (.inl bl)))]) rfl ?_
                        refine v_st (st' := [.int (bI (decide ((((liI th sd tp n sc pl) ((shB pk px py M N ls lv lx ly kc) k) k).toNat) * (((shB pk px py M N ls lv lx ly kc) j).natAbs) < (((liI th sd tp n sc pl) ((shB pk px py M N ls lv lx ly kc) j) j).toNat) * (((shB pk px py M N ls lv lx ly kc) k).natAbs))))]) rfl ?_
                        refine v_if_eq F dX8_end_141 (tgt := 155) rfl (q := 144) rfl (fun c141 => ?_) (fun c141 => ?_)
                        · skip
                          rw [bI_z] at c141
                          have hT : enT (shB pk px py M N ls lv lx ly kc) (liI th sd tp n sc pl) k (enF M (shB pk px py M N ls lv lx ly kc) (liI th sd tp n sc pl) k) = false := by rw [ho]; rw [en_dec hlk.1 hlj.1] at c141; exact c141
                          refine v_iinc F dX8_end_155 8 rfl (v := nI (k + 1)) (lv' := [(8, .int (nI (k + 1))), (13, .long (lN ((shB pk px py M N ls lv lx ly kc) k).natAbs)), (11, .long (lN ((liI th sd tp n sc pl) ((shB pk px py M N ls lv lx ly kc) k) k).toNat)), (9, .long (zL ((shB pk px py M N ls lv lx ly kc) k))), (0, .ref y0), (2, .int (nI M)), (3, .int (nI j)), (4, .long (lN ((liI th sd tp n sc pl) ((shB pk px py M N ls lv lx ly kc) j) j).toNat)), (6, .long (lN ((shB pk px py M N ls lv lx ly kc) j).natAbs))]) (nI_1 k) (Nat.le_of_ble_eq_true rfl) rfl (q := 158) rfl ?_
                          refine v_goto F dX8_end_158 (tgt := 38) rfl ?_
                          refine v_lv (lv' := [(0, .ref y0), (2, .int (nI M)), (3, .int (nI j)), (4, .long (lN ((liI th sd tp n sc pl) ((shB pk px py M N ls lv lx ly kc) j) j).toNat)), (6, .long (lN ((shB pk px py M N ls lv lx ly kc) j).natAbs)), (8, .int (nI (k + 1)))]) [4, 5, 6, 7, 8, 0] rfl ?_
                          have hV := ih d (by omega) (k + 1) (by omega)
                          rw [enF_f3 hT, ho] at hV
                          exact hV
                        · skip
                          rw [bI_nz] at c141
                          have hT : enT (shB pk px py M N ls lv lx ly kc) (liI th sd tp n sc pl) k (enF M (shB pk px py M N ls lv lx ly kc) (liI th sd tp n sc pl) k) = true := by rw [ho]; rw [en_dec hlk.1 hlj.1] at c141; exact c141
                          refine v_iload F dX8_end_144 8 rfl (q := 146) rfl ?_
                          refine v_istore_n F dX8_end_146 (i := 3) (lv' := [(3, .int (nI k)), (13, .long (lN ((shB pk px py M N ls lv lx ly kc) k).natAbs)), (11, .long (lN ((liI th sd tp n sc pl) ((shB pk px py M N ls lv lx ly kc) k) k).toNat)), (9, .long (zL ((shB pk px py M N ls lv lx ly kc) k))), (0, .ref y0), (2, .int (nI M)), (4, .long (lN ((liI th sd tp n sc pl) ((shB pk px py M N ls lv lx ly kc) j) j).toNat)), (6, .long (lN ((shB pk px py M N ls lv lx ly kc) j).natAbs)), (8, .int (nI k))]) rfl (Nat.le_of_ble_eq_true rfl) rfl (q := 147) rfl ?_
                          refine v_lload F dX8_end_147 2 rfl (q := 149) rfl ?_
                          refine v_lstore F dX8_end_149 (lv' := [(4, .long (lN ((liI th sd tp n sc pl) ((shB pk px py M N ls lv lx ly kc) k) k).toNat)), (3, .int (nI k)), (13, .long (lN ((shB pk px py M N ls lv lx ly kc) k).natAbs)), (11, .long (lN ((liI th sd tp n sc pl) ((shB pk px py M N ls lv lx ly kc) k) k).toNat)), (9, .long (zL ((shB pk px py M N ls lv lx ly kc) k))), (0, .ref y0), (2, .int (nI M)), (6, .long (lN ((shB pk px py M N ls lv lx ly kc) j).natAbs)), (8, .int (nI k))]) (Nat.le_of_ble_eq_true rfl) rfl (q := 151) rfl ?_
                          refine v_lload F dX8_end_151 2 rfl (q := 153) rfl ?_
                          refine v_lstore F dX8_end_153 (lv' := [(6, .long (lN ((shB pk px py M N ls lv lx ly kc) k).natAbs)), (4, .long (lN ((liI th sd tp n sc pl) ((shB pk px py M N ls lv lx ly kc) k) k).toNat)), (3, .int (nI k)), (13, .long (lN ((shB pk px py M N ls lv lx ly kc) k).natAbs)), (11, .long (lN ((liI th sd tp n sc pl) ((shB pk px py M N ls lv lx ly kc) k) k).toNat)), (9, .long (zL ((shB pk px py M N ls lv lx ly kc) k))), (0, .ref y0), (2, .int (nI M)), (8, .int (nI k))]) (Nat.le_of_ble_eq_true rfl) rfl (q := 155) rfl ?_
                          refine v_iinc F dX8_end_155 8 rfl (v := nI (k + 1)) (lv' := [(8, .int (nI (k + 1))), (6, .long (lN ((shB pk px py M N ls lv lx ly kc) k).natAbs)), (4, .long (lN ((liI th sd tp n sc pl) ((shB pk px py M N ls lv lx ly kc) k) k).toNat)), (3, .int (nI k)), (13, .long (lN ((shB pk px py M N ls lv lx ly kc) k).natAbs)), (11, .long (lN ((liI th sd tp n sc pl) ((shB pk px py M N ls lv lx ly kc) k) k).toNat)), (9, .long (zL ((shB pk px py M N ls lv lx ly kc) k))), (0, .ref y0), (2, .int (nI M))]) (nI_1 k) (Nat.le_of_ble_eq_true rfl) rfl (q := 158) rfl ?_
                          refine v_goto F dX8_end_158 (tgt := 38) rfl ?_
                          refine v_lv (lv' := [(0, .ref y0), (2, .int (nI M)), (3, .int (nI k)), (4, .long (lN ((liI th sd tp n sc pl) ((shB pk px py M N ls lv lx ly kc) k) k).toNat)), (6, .long (lN ((shB pk px py M N ls lv lx ly kc) k).natAbs)), (8, .int (nI (k + 1)))]) [7, 8, 3, 2, 1, 0] rfl ?_
                          have hV := ih d (by omega) (k + 1) (by omega)
                          rw [enF_t c54 hs0 hT] at hV
                          exact hV
              · skip
                rw [show (0 : Int64) = zL 0 from rfl, zL_le (by omega) (by omega) (by omega) (by omega)] at c72
                have hs1 : 0 < (shB pk px py M N ls lv lx ly kc) k := by omega
                refine v_aload_n F dX8_end_76 (i := 0) rfl 1 rfl (q := 77) rfl ?_
                refine v_iload F dX8_end_77 6 rfl (q := 79) rfl ?_
                refine v_callV F ml_X8_92 im_X8_bearingOf se_X8_bearingOf in_X8 co_X8_bearingOf sd_X8_bearingOf (c_X8_bearingOf y0 y1 y2 y3 y4 y5 y6 y7 y8 y9 y10 y11 y12 y13 y14 th sd tp n sc sp px py pl pk N M ls lv lx ly ab bl tn (dDE pk px py M N) (cWi pk px py M N ls lv lx ly kc) (cPi pk px py M N ls lv lx ly kc) (cQi pk px py M N ls lv lx ly kc) k ⟨G, hsp, P, hM, hls, hlv, hlx, hly, by omega⟩ (by omega)) ⟨Nat.zero_le _, Nat.zero_le _⟩ (Nat.le_of_ble_eq_true rfl) (Nat.le_of_ble_eq_true rfl) 0 (As := [.int (nI k)]) rfl rfl rfl rfl rfl [0, 1, 2, 3, 4, 5, 6, 7, 8, 9, 10, 11, 12, 13, 14] rfl nd15 vnd15 (rest := []) rfl (Nat.le_of_ble_eq_true rfl) dX8_end_79 (q := 82) rfl (fun r w hr => ?_)
                obtain ⟨rfl, rfl⟩ := hr
                refine v_ws (ws' := [(y0, .inr (8, [.int (nI n), .ref y1, .ref y2, .ref y3, .int sc, .int sp, .int (nI N), .ref y4, .ref y5, .ref y6, .ref y7, .ref y8, .ref y9, .ref y10, .ref y11, .ref y12, .int (nI tn), .ref y13, .ref y14, .long (zL (dDE pk px py M N)), .long (zL (cWi pk px py M N ls lv lx ly kc)), .long (zL (cPi pk px py M N ls lv lx ly kc)), .long (zL (cQi pk px py M N ls lv lx ly kc))])), (y1, .inl (cI, 6, .inl th)), (y2, .inl (cI, 6, .inl sd)), (y3, .inl (cI, 6, .inl tp)), (y4, .inl (cI, 12, .inl px)), (y5, .inl (cI, 12, .inl py)), (y6, .inl (cI, 12, .inl (fun i => nI (pl i)))), (y7, .inl (cI, 12, .inl pk)), (y8, .inl (cZ, 12, .inl (fun i => bI (M.testBit i)))), (y9, .inl (cI, 3, .inl (fun i => nI (ls i)))), (y10, .inl (cI, 18, .inl lv)), (y11, .inl (cI, 18, .inl lx)), (y12, .inl (cI, 18, .inl ly)), (y13, .inl (cJ, 15, .inr (.inl ab))), (y14, .inl (cJ, 15, .inr (.inl bl)))]) ((wset_wgo (nodup_of nd15) rfl).trans rfl) ?_
                refine v_st (st' := [.int (zI (gBE th sd tp n sc (pl k)))]) rfl ?_
                refine v_i2l F dX8_end_82 (q := 83) rfl ?_
                refine v_goto F dX8_end_83 (tgt := 98) rfl ?_
                refine v_long (y := lN ((liI th sd tp n sc pl) ((shB pk px py M N ls lv lx ly kc) k) k).toNat) (li_b G P hkn hs1) ?_
                refine v_lstore F dX8_end_98 (lv' := [(11, .long (lN ((liI th sd tp n sc pl) ((shB pk px py M N ls lv lx ly kc) k) k).toNat)), (9, .long (zL ((shB pk px py M N ls lv lx ly kc) k))), (0, .ref y0), (2, .int (nI M)), (3, .int (enI (enF M (shB pk px py M N ls lv lx ly kc) (liI th sd tp n sc pl) k))), (4, .long (lN (enMo (shB pk px py M N ls lv lx ly kc) (liI th sd tp n sc pl) (enF M (shB pk px py M N ls lv lx ly kc) (liI th sd tp n sc pl) k)))), (6, .long (lN (enGe (shB pk px py M N ls lv lx ly kc) (enF M (shB pk px py M N ls lv lx ly kc) (liI th sd tp n sc pl) k)))), (8, .int (nI k))]) (Nat.le_of_ble_eq_true rfl) rfl (q := 100) rfl ?_
                refine v_lload F dX8_end_100 1 rfl (q := 102) rfl ?_
                refine v_lconst F dX8_end_102 (v := 0) (q := 103) rfl rfl ?_
                refine v_lcmp_ge F dX8_end_103 dX8_end_104 (tgt := 113) rfl (q := 107) rfl (fun c103 => ?_) (fun c103 => ?_)
                · skip
                  rw [show (0 : Int64) = zL 0 from rfl, zL_le (by omega) (by omega) (by omega) (by omega)] at c103
                  refine v_lload F dX8_end_113 1 rfl (q := 115) rfl ?_
                  refine v_long (y := lN ((shB pk px py M N ls lv lx ly kc) k).natAbs) (ab_p c103) ?_
                  refine v_lstore F dX8_end_115 (lv' := [(13, .long (lN ((shB pk px py M N ls lv lx ly kc) k).natAbs)), (11, .long (lN ((liI th sd tp n sc pl) ((shB pk px py M N ls lv lx ly kc) k) k).toNat)), (9, .long (zL ((shB pk px py M N ls lv lx ly kc) k))), (0, .ref y0), (2, .int (nI M)), (3, .int (enI (enF M (shB pk px py M N ls lv lx ly kc) (liI th sd tp n sc pl) k))), (4, .long (lN (enMo (shB pk px py M N ls lv lx ly kc) (liI th sd tp n sc pl) (enF M (shB pk px py M N ls lv lx ly kc) (liI th sd tp n sc pl) k)))), (6, .long (lN (enGe (shB pk px py M N ls lv lx ly kc) (enF M (shB pk px py M N ls lv lx ly kc) (liI th sd tp n sc pl) k)))), (8, .int (nI k))]) (Nat.le_of_ble_eq_true rfl) rfl (q := 117) rfl ?_
                  refine v_lload F dX8_end_117 2 rfl (q := 119) rfl ?_
                  refine v_lconst F dX8_end_119 (v := 0) (q := 120) rfl rfl ?_
                  refine v_lcmp_eq F dX8_end_120 dX8_end_121 (tgt := 155) rfl (q := 124) rfl (fun c120 => ?_) (fun c120 => ?_)
                  · skip
                    rw [show (0 : Int64) = zL 0 from rfl, zL_eq (by omega) (by omega) (by omega) (by omega)] at c120
                    have hs0 : (shB pk px py M N ls lv lx ly kc) k = 0 := c120
                    refine v_iinc F dX8_end_155 8 rfl (v := nI (k + 1)) (lv' := [(8, .int (nI (k + 1))), (13, .long (lN ((shB pk px py M N ls lv lx ly kc) k).natAbs)), (11, .long (lN ((liI th sd tp n sc pl) ((shB pk px py M N ls lv lx ly kc) k) k).toNat)), (9, .long (zL ((shB pk px py M N ls lv lx ly kc) k))), (0, .ref y0), (2, .int (nI M)), (3, .int (enI (enF M (shB pk px py M N ls lv lx ly kc) (liI th sd tp n sc pl) k))), (4, .long (lN (enMo (shB pk px py M N ls lv lx ly kc) (liI th sd tp n sc pl) (enF M (shB pk px py M N ls lv lx ly kc) (liI th sd tp n sc pl) k)))), (6, .long (lN (enGe (shB pk px py M N ls lv lx ly kc) (enF M (shB pk px py M N ls lv lx ly kc) (liI th sd tp n sc pl) k))))]) (nI_1 k) (Nat.le_of_ble_eq_true rfl) rfl (q := 158) rfl ?_
                    refine v_goto F dX8_end_158 (tgt := 38) rfl ?_
                    refine v_lv (lv' := [(0, .ref y0), (2, .int (nI M)), (3, .int (enI (enF M (shB pk px py M N ls lv lx ly kc) (liI th sd tp n sc pl) k))), (4, .long (lN (enMo (shB pk px py M N ls lv lx ly kc) (liI th sd tp n sc pl) (enF M (shB pk px py M N ls lv lx ly kc) (liI th sd tp n sc pl) k)))), (6, .long (lN (enGe (shB pk px py M N ls lv lx ly kc) (enF M (shB pk px py M N ls lv lx ly kc) (liI th sd tp n sc pl) k)))), (8, .int (nI (k + 1)))]) [4, 5, 6, 7, 8, 0] rfl ?_
                    have hV := ih d (by omega) (k + 1) (by omega)
                    first | rw [enF_f1 c54] at hV | rw [enF_f2 hs0] at hV
                    exact hV
                  · skip
                    rw [show (0 : Int64) = zL 0 from rfl, zL_eq (by omega) (by omega) (by omega) (by omega)] at c120
                    have hs0 : (shB pk px py M N ls lv lx ly kc) k ≠ 0 := c120
                    rcases ho : (enF M (shB pk px py M N ls lv lx ly kc) (liI th sd tp n sc pl) k) with _ | j
                    · skip
                      refine v_iload_n F dX8_end_124 (i := 3) rfl 5 rfl (q := 125) rfl ?_
                      refine v_bipush F dX8_end_125 (v := (-4)) (q := 127) rfl rfl ?_
                      refine v_icmp_eq F dX8_end_127 (tgt := 144) rfl (q := 130) rfl (fun c127 => ?_) (fun c127 => ?_)
                      · skip
                        have hT : enT (shB pk px py M N ls lv lx ly kc) (liI th sd tp n sc pl) k (enF M (shB pk px py M N ls lv lx ly kc) (liI th sd tp n sc pl) k) = true := by rw [ho]; rfl
                        refine v_iload F dX8_end_144 8 rfl (q := 146) rfl ?_
                        refine v_istore_n F dX8_end_146 (i := 3) (lv' := [(3, .int (nI k)), (13, .long (lN ((shB pk px py M N ls lv lx ly kc) k).natAbs)), (11, .long (lN ((liI th sd tp n sc pl) ((shB pk px py M N ls lv lx ly kc) k) k).toNat)), (9, .long (zL ((shB pk px py M N ls lv lx ly kc) k))), (0, .ref y0), (2, .int (nI M)), (4, .long (lN (enMo (shB pk px py M N ls lv lx ly kc) (liI th sd tp n sc pl) none))), (6, .long (lN (enGe (shB pk px py M N ls lv lx ly kc) none))), (8, .int (nI k))]) rfl (Nat.le_of_ble_eq_true rfl) rfl (q := 147) rfl ?_
                        refine v_lload F dX8_end_147 2 rfl (q := 149) rfl ?_
                        refine v_lstore F dX8_end_149 (lv' := [(4, .long (lN ((liI th sd tp n sc pl) ((shB pk px py M N ls lv lx ly kc) k) k).toNat)), (3, .int (nI k)), (13, .long (lN ((shB pk px py M N ls lv lx ly kc) k).natAbs)), (11, .long (lN ((liI th sd tp n sc pl) ((shB pk px py M N ls lv lx ly kc) k) k).toNat)), (9, .long (zL ((shB pk px py M N ls lv lx ly kc) k))), (0, .ref y0), (2, .int (nI M)), (6, .long (lN (enGe (shB pk px py M N ls lv lx ly kc) none))), (8, .int (nI k))]) (Nat.le_of_ble_eq_true rfl) rfl (q := 151) rfl ?_
                        refine v_lload F dX8_end_151 2 rfl (q := 153) rfl ?_
                        refine v_lstore F dX8_end_153 (lv' := [(6, .long (lN ((shB pk px py M N ls lv lx ly kc) k).natAbs)), (4, .long (lN ((liI th sd tp n sc pl) ((shB pk px py M N ls lv lx ly kc) k) k).toNat)), (3, .int (nI k)), (13, .long (lN ((shB pk px py M N ls lv lx ly kc) k).natAbs)), (11, .long (lN ((liI th sd tp n sc pl) ((shB pk px py M N ls lv lx ly kc) k) k).toNat)), (9, .long (zL ((shB pk px py M N ls lv lx ly kc) k))), (0, .ref y0), (2, .int (nI M)), (8, .int (nI k))]) (Nat.le_of_ble_eq_true rfl) rfl (q := 155) rfl ?_
                        refine v_iinc F dX8_end_155 8 rfl (v := nI (k + 1)) (lv' := [(8, .int (nI (k + 1))), (6, .long (lN ((shB pk px py M N ls lv lx ly kc) k).natAbs)), (4, .long (lN ((liI th sd tp n sc pl) ((shB pk px py M N ls lv lx ly kc) k) k).toNat)), (3, .int (nI k)), (13, .long (lN ((shB pk px py M N ls lv lx ly kc) k).natAbs)), (11, .long (lN ((liI th sd tp n sc pl) ((shB pk px py M N ls lv lx ly kc) k) k).toNat)), (9, .long (zL ((shB pk px py M N ls lv lx ly kc) k))), (0, .ref y0), (2, .int (nI M))]) (nI_1 k) (Nat.le_of_ble_eq_true rfl) rfl (q := 158) rfl ?_
                        refine v_goto F dX8_end_158 (tgt := 38) rfl ?_
                        refine v_lv (lv' := [(0, .ref y0), (2, .int (nI M)), (3, .int (nI k)), (4, .long (lN ((liI th sd tp n sc pl) ((shB pk px py M N ls lv lx ly kc) k) k).toNat)), (6, .long (lN ((shB pk px py M N ls lv lx ly kc) k).natAbs)), (8, .int (nI (k + 1)))]) [7, 8, 3, 2, 1, 0] rfl ?_
                        have hV := ih d (by omega) (k + 1) (by omega)
                        rw [enF_t c54 hs0 hT] at hV
                        exact hV
                      · exact absurd rfl c127
                    · skip
                      have hj := enF_lt ho
                      have hjn : j < N := by omega
                      have hRj := hR.2.2.2 j hjn
                      have hlj := li_rng G P hjn ((shB pk px py M N ls lv lx ly kc) j)
                      have hj0 := hj.2.2
                      refine v_iload_n F dX8_end_124 (i := 3) rfl 5 rfl (q := 125) rfl ?_
                      refine v_bipush F dX8_end_125 (v := (-4)) (q := 127) rfl rfl ?_
                      refine v_icmp_eq F dX8_end_127 (tgt := 144) rfl (q := 130) rfl (fun c127 => ?_) (fun c127 => ?_)
                      · exact absurd c127 (nI_nm4 (by omega))
                      · skip
                        refine v_lload F dX8_end_130 1 rfl (q := 132) rfl ?_
                        refine v_lload F dX8_end_132 0 rfl (q := 134) rfl ?_
                        refine v_lload F dX8_end_134 6 rfl (q := 136) rfl ?_
                        refine v_lload F dX8_end_136 7 rfl (q := 138) rfl ?_
                        refine v_callS F ml_X8_136 sm_X8_isLess in_X8 co_X8_isLess sd_X8_isLess (c_X8_isLess (((liI th sd tp n sc pl) ((shB pk px py M N ls lv lx ly kc) k) k).toNat) (((shB pk px py M N ls lv lx ly kc) k).natAbs) (((liI th sd tp n sc pl) ((shB pk px py M N ls lv lx ly kc) j) j).toNat) (((shB pk px py M N ls lv lx ly kc) j).natAbs) (by omega) (by omega) (by omega) (by omega) (by omega) (by omega)) ⟨Nat.zero_le _, Nat.zero_le _⟩ (Nat.le_of_ble_eq_true rfl) (Nat.le_of_ble_eq_true rfl) rfl [] rfl rfl rfl (rest := []) rfl (Nat.le_of_ble_eq_true rfl) dX8_end_138 (q := 141) rfl (fun r w hr => ?_)
                        obtain ⟨rfl, rfl⟩ := hr
                        refine v_ws (ws' := [(y0, .inr (8, [.int (nI n), .ref y1, .ref y2, .ref y3, .int sc, .int sp, .int (nI N), .ref y4, .ref y5, .ref y6, .ref y7, .ref y8, .ref y9, .ref y10, .ref y11, .ref y12, .int (nI tn), .ref y13, .ref y14, .long (zL (dDE pk px py M N)), .long (zL (cWi pk px py M N ls lv lx ly kc)), .long (zL (cPi pk px py M N ls lv lx ly kc)), .long (zL (cQi pk px py M N ls lv lx ly kc))])), (y1, .inl (cI, 6, .inl th)), (y2, .inl (cI, 6, .inl sd)), (y3, .inl (cI, 6, .inl tp)), (y4, .inl (cI, 12, .inl px)), (y5, .inl (cI, 12, .inl py)), (y6, .inl (cI, 12, .inl (fun i => nI (pl i)))), (y7, .inl (cI, 12, .inl pk)), (y8, .inl (cZ, 12, .inl (fun i => bI (M.testBit i)))), (y9, .inl (cI, 3, .inl (fun i => nI (ls i)))), (y10, .inl (cI, 18, .inl lv)), (y11, .inl (cI, 18, .inl lx)), (y12, .inl (cI, 18, .inl ly)), (y13, .inl (cJ, 15, .inr (.inl ab))), (y14, .inl (cJ, 15, .inr (.inl bl)))]) rfl ?_
                        refine v_st (st' := [.int (bI (decide ((((liI th sd tp n sc pl) ((shB pk px py M N ls lv lx ly kc) k) k).toNat) * (((shB pk px py M N ls lv lx ly kc) j).natAbs) < (((liI th sd tp n sc pl) ((shB pk px py M N ls lv lx ly kc) j) j).toNat) * (((shB pk px py M N ls lv lx ly kc) k).natAbs))))]) rfl ?_
                        refine v_if_eq F dX8_end_141 (tgt := 155) rfl (q := 144) rfl (fun c141 => ?_) (fun c141 => ?_)
                        · skip
                          rw [bI_z] at c141
                          have hT : enT (shB pk px py M N ls lv lx ly kc) (liI th sd tp n sc pl) k (enF M (shB pk px py M N ls lv lx ly kc) (liI th sd tp n sc pl) k) = false := by rw [ho]; rw [en_dec hlk.1 hlj.1] at c141; exact c141
                          refine v_iinc F dX8_end_155 8 rfl (v := nI (k + 1)) (lv' := [(8, .int (nI (k + 1))), (13, .long (lN ((shB pk px py M N ls lv lx ly kc) k).natAbs)), (11, .long (lN ((liI th sd tp n sc pl) ((shB pk px py M N ls lv lx ly kc) k) k).toNat)), (9, .long (zL ((shB pk px py M N ls lv lx ly kc) k))), (0, .ref y0), (2, .int (nI M)), (3, .int (nI j)), (4, .long (lN ((liI th sd tp n sc pl) ((shB pk px py M N ls lv lx ly kc) j) j).toNat)), (6, .long (lN ((shB pk px py M N ls lv lx ly kc) j).natAbs))]) (nI_1 k) (Nat.le_of_ble_eq_true rfl) rfl (q := 158) rfl ?_
                          refine v_goto F dX8_end_158 (tgt := 38) rfl ?_
                          refine v_lv (lv' := [(0, .ref y0), (2, .int (nI M)), (3, .int (nI j)), (4, .long (lN ((liI th sd tp n sc pl) ((shB pk px py M N ls lv lx ly kc) j) j).toNat)), (6, .long (lN ((shB pk px py M N ls lv lx ly kc) j).natAbs)), (8, .int (nI (k + 1)))]) [4, 5, 6, 7, 8, 0] rfl ?_
                          have hV := ih d (by omega) (k + 1) (by omega)
                          rw [enF_f3 hT, ho] at hV
                          exact hV
                        · skip
                          rw [bI_nz] at c141
                          have hT : enT (shB pk px py M N ls lv lx ly kc) (liI th sd tp n sc pl) k (enF M (shB pk px py M N ls lv lx ly kc) (liI th sd tp n sc pl) k) = true := by rw [ho]; rw [en_dec hlk.1 hlj.1] at c141; exact c141
                          refine v_iload F dX8_end_144 8 rfl (q := 146) rfl ?_
                          refine v_istore_n F dX8_end_146 (i := 3) (lv' := [(3, .int (nI k)), (13, .long (lN ((shB pk px py M N ls lv lx ly kc) k).natAbs)), (11, .long (lN ((liI th sd tp n sc pl) ((shB pk px py M N ls lv lx ly kc) k) k).toNat)), (9, .long (zL ((shB pk px py M N ls lv lx ly kc) k))), (0, .ref y0), (2, .int (nI M)), (4, .long (lN ((liI th sd tp n sc pl) ((shB pk px py M N ls lv lx ly kc) j) j).toNat)), (6, .long (lN ((shB pk px py M N ls lv lx ly kc) j).natAbs)), (8, .int (nI k))]) rfl (Nat.le_of_ble_eq_true rfl) rfl (q := 147) rfl ?_
                          refine v_lload F dX8_end_147 2 rfl (q := 149) rfl ?_
                          refine v_lstore F dX8_end_149 (lv' := [(4, .long (lN ((liI th sd tp n sc pl) ((shB pk px py M N ls lv lx ly kc) k) k).toNat)), (3, .int (nI k)), (13, .long (lN ((shB pk px py M N ls lv lx ly kc) k).natAbs)), (11, .long (lN ((liI th sd tp n sc pl) ((shB pk px py M N ls lv lx ly kc) k) k).toNat)), (9, .long (zL ((shB pk px py M N ls lv lx ly kc) k))), (0, .ref y0), (2, .int (nI M)), (6, .long (lN ((shB pk px py M N ls lv lx ly kc) j).natAbs)), (8, .int (nI k))]) (Nat.le_of_ble_eq_true rfl) rfl (q := 151) rfl ?_
                          refine v_lload F dX8_end_151 2 rfl (q := 153) rfl ?_
                          refine v_lstore F dX8_end_153 (lv' := [(6, .long (lN ((shB pk px py M N ls lv lx ly kc) k).natAbs)), (4, .long (lN ((liI th sd tp n sc pl) ((shB pk px py M N ls lv lx ly kc) k) k).toNat)), (3, .int (nI k)), (13, .long (lN ((shB pk px py M N ls lv lx ly kc) k).natAbs)), (11, .long (lN ((liI th sd tp n sc pl) ((shB pk px py M N ls lv lx ly kc) k) k).toNat)), (9, .long (zL ((shB pk px py M N ls lv lx ly kc) k))), (0, .ref y0), (2, .int (nI M)), (8, .int (nI k))]) (Nat.le_of_ble_eq_true rfl) rfl (q := 155) rfl ?_
                          refine v_iinc F dX8_end_155 8 rfl (v := nI (k + 1)) (lv' := [(8, .int (nI (k + 1))), (6, .long (lN ((shB pk px py M N ls lv lx ly kc) k).natAbs)), (4, .long (lN ((liI th sd tp n sc pl) ((shB pk px py M N ls lv lx ly kc) k) k).toNat)), (3, .int (nI k)), (13, .long (lN ((shB pk px py M N ls lv lx ly kc) k).natAbs)), (11, .long (lN ((liI th sd tp n sc pl) ((shB pk px py M N ls lv lx ly kc) k) k).toNat)), (9, .long (zL ((shB pk px py M N ls lv lx ly kc) k))), (0, .ref y0), (2, .int (nI M))]) (nI_1 k) (Nat.le_of_ble_eq_true rfl) rfl (q := 158) rfl ?_
                          refine v_goto F dX8_end_158 (tgt := 38) rfl ?_
                          refine v_lv (lv' := [(0, .ref y0), (2, .int (nI M)), (3, .int (nI k)), (4, .long (lN ((liI th sd tp n sc pl) ((shB pk px py M N ls lv lx ly kc) k) k).toNat)), (6, .long (lN ((shB pk px py M N ls lv lx ly kc) k).natAbs)), (8, .int (nI (k + 1)))]) [7, 8, 3, 2, 1, 0] rfl ?_
                          have hV := ih d (by omega) (k + 1) (by omega)
                          rw [enF_t c54 hs0 hT] at hV
                          exact hV
                · skip
                  rw [show (0 : Int64) = zL 0 from rfl, zL_le (by omega) (by omega) (by omega) (by omega)] at c103
                  refine v_lload F dX8_end_107 1 rfl (q := 109) rfl ?_
                  refine v_lneg F dX8_end_109 (q := 110) rfl ?_
                  refine v_goto F dX8_end_110 (tgt := 115) rfl ?_
                  refine v_long (y := lN ((shB pk px py M N ls lv lx ly kc) k).natAbs) (ab_n c103) ?_
                  refine v_lstore F dX8_end_115 (lv' := [(13, .long (lN ((shB pk px py M N ls lv lx ly kc) k).natAbs)), (11, .long (lN ((liI th sd tp n sc pl) ((shB pk px py M N ls lv lx ly kc) k) k).toNat)), (9, .long (zL ((shB pk px py M N ls lv lx ly kc) k))), (0, .ref y0), (2, .int (nI M)), (3, .int (enI (enF M (shB pk px py M N ls lv lx ly kc) (liI th sd tp n sc pl) k))), (4, .long (lN (enMo (shB pk px py M N ls lv lx ly kc) (liI th sd tp n sc pl) (enF M (shB pk px py M N ls lv lx ly kc) (liI th sd tp n sc pl) k)))), (6, .long (lN (enGe (shB pk px py M N ls lv lx ly kc) (enF M (shB pk px py M N ls lv lx ly kc) (liI th sd tp n sc pl) k)))), (8, .int (nI k))]) (Nat.le_of_ble_eq_true rfl) rfl (q := 117) rfl ?_
                  refine v_lload F dX8_end_117 2 rfl (q := 119) rfl ?_
                  refine v_lconst F dX8_end_119 (v := 0) (q := 120) rfl rfl ?_
                  refine v_lcmp_eq F dX8_end_120 dX8_end_121 (tgt := 155) rfl (q := 124) rfl (fun c120 => ?_) (fun c120 => ?_)
                  · skip
                    rw [show (0 : Int64) = zL 0 from rfl, zL_eq (by omega) (by omega) (by omega) (by omega)] at c120
                    have hs0 : (shB pk px py M N ls lv lx ly kc) k = 0 := c120
                    refine v_iinc F dX8_end_155 8 rfl (v := nI (k + 1)) (lv' := [(8, .int (nI (k + 1))), (13, .long (lN ((shB pk px py M N ls lv lx ly kc) k).natAbs)), (11, .long (lN ((liI th sd tp n sc pl) ((shB pk px py M N ls lv lx ly kc) k) k).toNat)), (9, .long (zL ((shB pk px py M N ls lv lx ly kc) k))), (0, .ref y0), (2, .int (nI M)), (3, .int (enI (enF M (shB pk px py M N ls lv lx ly kc) (liI th sd tp n sc pl) k))), (4, .long (lN (enMo (shB pk px py M N ls lv lx ly kc) (liI th sd tp n sc pl) (enF M (shB pk px py M N ls lv lx ly kc) (liI th sd tp n sc pl) k)))), (6, .long (lN (enGe (shB pk px py M N ls lv lx ly kc) (enF M (shB pk px py M N ls lv lx ly kc) (liI th sd tp n sc pl) k))))]) (nI_1 k) (Nat.le_of_ble_eq_true rfl) rfl (q := 158) rfl ?_
                    refine v_goto F dX8_end_158 (tgt := 38) rfl ?_
                    refine v_lv (lv' := [(0, .ref y0), (2, .int (nI M)), (3, .int (enI (enF M (shB pk px py M N ls lv lx ly kc) (liI th sd tp n sc pl) k))), (4, .long (lN (enMo (shB pk px py M N ls lv lx ly kc) (liI th sd tp n sc pl) (enF M (shB pk px py M N ls lv lx ly kc) (liI th sd tp n sc pl) k)))), (6, .long (lN (enGe (shB pk px py M N ls lv lx ly kc) (enF M (shB pk px py M N ls lv lx ly kc) (liI th sd tp n sc pl) k)))), (8, .int (nI (k + 1)))]) [4, 5, 6, 7, 8, 0] rfl ?_
                    have hV := ih d (by omega) (k + 1) (by omega)
                    first | rw [enF_f1 c54] at hV | rw [enF_f2 hs0] at hV
                    exact hV
                  · skip
                    rw [show (0 : Int64) = zL 0 from rfl, zL_eq (by omega) (by omega) (by omega) (by omega)] at c120
                    have hs0 : (shB pk px py M N ls lv lx ly kc) k ≠ 0 := c120
                    rcases ho : (enF M (shB pk px py M N ls lv lx ly kc) (liI th sd tp n sc pl) k) with _ | j
                    · skip
                      refine v_iload_n F dX8_end_124 (i := 3) rfl 5 rfl (q := 125) rfl ?_
                      refine v_bipush F dX8_end_125 (v := (-4)) (q := 127) rfl rfl ?_
                      refine v_icmp_eq F dX8_end_127 (tgt := 144) rfl (q := 130) rfl (fun c127 => ?_) (fun c127 => ?_)
                      · skip
                        have hT : enT (shB pk px py M N ls lv lx ly kc) (liI th sd tp n sc pl) k (enF M (shB pk px py M N ls lv lx ly kc) (liI th sd tp n sc pl) k) = true := by rw [ho]; rfl
                        refine v_iload F dX8_end_144 8 rfl (q := 146) rfl ?_
                        refine v_istore_n F dX8_end_146 (i := 3) (lv' := [(3, .int (nI k)), (13, .long (lN ((shB pk px py M N ls lv lx ly kc) k).natAbs)), (11, .long (lN ((liI th sd tp n sc pl) ((shB pk px py M N ls lv lx ly kc) k) k).toNat)), (9, .long (zL ((shB pk px py M N ls lv lx ly kc) k))), (0, .ref y0), (2, .int (nI M)), (4, .long (lN (enMo (shB pk px py M N ls lv lx ly kc) (liI th sd tp n sc pl) none))), (6, .long (lN (enGe (shB pk px py M N ls lv lx ly kc) none))), (8, .int (nI k))]) rfl (Nat.le_of_ble_eq_true rfl) rfl (q := 147) rfl ?_
                        refine v_lload F dX8_end_147 2 rfl (q := 149) rfl ?_
                        refine v_lstore F dX8_end_149 (lv' := [(4, .long (lN ((liI th sd tp n sc pl) ((shB pk px py M N ls lv lx ly kc) k) k).toNat)), (3, .int (nI k)), (13, .long (lN ((shB pk px py M N ls lv lx ly kc) k).natAbs)), (11, .long (lN ((liI th sd tp n sc pl) ((shB pk px py M N ls lv lx ly kc) k) k).toNat)), (9, .long (zL ((shB pk px py M N ls lv lx ly kc) k))), (0, .ref y0), (2, .int (nI M)), (6, .long (lN (enGe (shB pk px py M N ls lv lx ly kc) none))), (8, .int (nI k))]) (Nat.le_of_ble_eq_true rfl) rfl (q := 151) rfl ?_
                        refine v_lload F dX8_end_151 2 rfl (q := 153) rfl ?_
                        refine v_lstore F dX8_end_153 (lv' := [(6, .long (lN ((shB pk px py M N ls lv lx ly kc) k).natAbs)), (4, .long (lN ((liI th sd tp n sc pl) ((shB pk px py M N ls lv lx ly kc) k) k).toNat)), (3, .int (nI k)), (13, .long (lN ((shB pk px py M N ls lv lx ly kc) k).natAbs)), (11, .long (lN ((liI th sd tp n sc pl) ((shB pk px py M N ls lv lx ly kc) k) k).toNat)), (9, .long (zL ((shB pk px py M N ls lv lx ly kc) k))), (0, .ref y0), (2, .int (nI M)), (8, .int (nI k))]) (Nat.le_of_ble_eq_true rfl) rfl (q := 155) rfl ?_
                        refine v_iinc F dX8_end_155 8 rfl (v := nI (k + 1)) (lv' := [(8, .int (nI (k + 1))), (6, .long (lN ((shB pk px py M N ls lv lx ly kc) k).natAbs)), (4, .long (lN ((liI th sd tp n sc pl) ((shB pk px py M N ls lv lx ly kc) k) k).toNat)), (3, .int (nI k)), (13, .long (lN ((shB pk px py M N ls lv lx ly kc) k).natAbs)), (11, .long (lN ((liI th sd tp n sc pl) ((shB pk px py M N ls lv lx ly kc) k) k).toNat)), (9, .long (zL ((shB pk px py M N ls lv lx ly kc) k))), (0, .ref y0), (2, .int (nI M))]) (nI_1 k) (Nat.le_of_ble_eq_true rfl) rfl (q := 158) rfl ?_
                        refine v_goto F dX8_end_158 (tgt := 38) rfl ?_
                        refine v_lv (lv' := [(0, .ref y0), (2, .int (nI M)), (3, .int (nI k)), (4, .long (lN ((liI th sd tp n sc pl) ((shB pk px py M N ls lv lx ly kc) k) k).toNat)), (6, .long (lN ((shB pk px py M N ls lv lx ly kc) k).natAbs)), (8, .int (nI (k + 1)))]) [7, 8, 3, 2, 1, 0] rfl ?_
                        have hV := ih d (by omega) (k + 1) (by omega)
                        rw [enF_t c54 hs0 hT] at hV
                        exact hV
                      · exact absurd rfl c127
                    · skip
                      have hj := enF_lt ho
                      have hjn : j < N := by omega
                      have hRj := hR.2.2.2 j hjn
                      have hlj := li_rng G P hjn ((shB pk px py M N ls lv lx ly kc) j)
                      have hj0 := hj.2.2
                      refine v_iload_n F dX8_end_124 (i := 3) rfl 5 rfl (q := 125) rfl ?_
                      refine v_bipush F dX8_end_125 (v := (-4)) (q := 127) rfl rfl ?_
                      refine v_icmp_eq F dX8_end_127 (tgt := 144) rfl (q := 130) rfl (fun c127 => ?_) (fun c127 => ?_)
                      · exact absurd c127 (nI_nm4 (by omega))
                      · skip
                        refine v_lload F dX8_end_130 1 rfl (q := 132) rfl ?_
                        refine v_lload F dX8_end_132 0 rfl (q := 134) rfl ?_
                        refine v_lload F dX8_end_134 6 rfl (q := 136) rfl ?_
                        refine v_lload F dX8_end_136 7 rfl (q := 138) rfl ?_
                        refine v_callS F ml_X8_136 sm_X8_isLess in_X8 co_X8_isLess sd_X8_isLess (c_X8_isLess (((liI th sd tp n sc pl) ((shB pk px py M N ls lv lx ly kc) k) k).toNat) (((shB pk px py M N ls lv lx ly kc) k).natAbs) (((liI th sd tp n sc pl) ((shB pk px py M N ls lv lx ly kc) j) j).toNat) (((shB pk px py M N ls lv lx ly kc) j).natAbs) (by omega) (by omega) (by omega) (by omega) (by omega) (by omega)) ⟨Nat.zero_le _, Nat.zero_le _⟩ (Nat.le_of_ble_eq_true rfl) (Nat.le_of_ble_eq_true rfl) rfl [] rfl rfl rfl (rest := []) rfl (Nat.le_of_ble_eq_true rfl) dX8_end_138 (q := 141) rfl (fun r w hr => ?_)
                        obtain ⟨rfl, rfl⟩ := hr
                        refine v_ws (ws' := [(y0, .inr (8, [.int (nI n), .ref y1, .ref y2, .ref y3, .int sc, .int sp, .int (nI N), .ref y4, .ref y5, .ref y6, .ref y7, .ref y8, .ref y9, .ref y10, .ref y11, .ref y12, .int (nI tn), .ref y13, .ref y14, .long (zL (dDE pk px py M N)), .long (zL (cWi pk px py M N ls lv lx ly kc)), .long (zL (cPi pk px py M N ls lv lx ly kc)), .long (zL (cQi pk px py M N ls lv lx ly kc))])), (y1, .inl (cI, 6, .inl th)), (y2, .inl (cI, 6, .inl sd)), (y3, .inl (cI, 6, .inl tp)), (y4, .inl (cI, 12, .inl px)), (y5, .inl (cI, 12, .inl py)), (y6, .inl (cI, 12, .inl (fun i => nI (pl i)))), (y7, .inl (cI, 12, .inl pk)), (y8, .inl (cZ, 12, .inl (fun i => bI (M.testBit i)))), (y9, .inl (cI, 3, .inl (fun i => nI (ls i)))), (y10, .inl (cI, 18, .inl lv)), (y11, .inl (cI, 18, .inl lx)), (y12, .inl (cI, 18, .inl ly)), (y13, .inl (cJ, 15, .inr (.inl ab))), (y14, .inl (cJ, 15, .inr (.inl bl)))]) rfl ?_
                        refine v_st (st' := [.int (bI (decide ((((liI th sd tp n sc pl) ((shB pk px py M N ls lv lx ly kc) k) k).toNat) * (((shB pk px py M N ls lv lx ly kc) j).natAbs) < (((liI th sd tp n sc pl) ((shB pk px py M N ls lv lx ly kc) j) j).toNat) * (((shB pk px py M N ls lv lx ly kc) k).natAbs))))]) rfl ?_
                        refine v_if_eq F dX8_end_141 (tgt := 155) rfl (q := 144) rfl (fun c141 => ?_) (fun c141 => ?_)
                        · skip
                          rw [bI_z] at c141
                          have hT : enT (shB pk px py M N ls lv lx ly kc) (liI th sd tp n sc pl) k (enF M (shB pk px py M N ls lv lx ly kc) (liI th sd tp n sc pl) k) = false := by rw [ho]; rw [en_dec hlk.1 hlj.1] at c141; exact c141
                          refine v_iinc F dX8_end_155 8 rfl (v := nI (k + 1)) (lv' := [(8, .int (nI (k + 1))), (13, .long (lN ((shB pk px py M N ls lv lx ly kc) k).natAbs)), (11, .long (lN ((liI th sd tp n sc pl) ((shB pk px py M N ls lv lx ly kc) k) k).toNat)), (9, .long (zL ((shB pk px py M N ls lv lx ly kc) k))), (0, .ref y0), (2, .int (nI M)), (3, .int (nI j)), (4, .long (lN ((liI th sd tp n sc pl) ((shB pk px py M N ls lv lx ly kc) j) j).toNat)), (6, .long (lN ((shB pk px py M N ls lv lx ly kc) j).natAbs))]) (nI_1 k) (Nat.le_of_ble_eq_true rfl) rfl (q := 158) rfl ?_
                          refine v_goto F dX8_end_158 (tgt := 38) rfl ?_
                          refine v_lv (lv' := [(0, .ref y0), (2, .int (nI M)), (3, .int (nI j)), (4, .long (lN ((liI th sd tp n sc pl) ((shB pk px py M N ls lv lx ly kc) j) j).toNat)), (6, .long (lN ((shB pk px py M N ls lv lx ly kc) j).natAbs)), (8, .int (nI (k + 1)))]) [4, 5, 6, 7, 8, 0] rfl ?_
                          have hV := ih d (by omega) (k + 1) (by omega)
                          rw [enF_f3 hT, ho] at hV
                          exact hV
                        · skip
                          rw [bI_nz] at c141
                          have hT : enT (shB pk px py M N ls lv lx ly kc) (liI th sd tp n sc pl) k (enF M (shB pk px py M N ls lv lx ly kc) (liI th sd tp n sc pl) k) = true := by rw [ho]; rw [en_dec hlk.1 hlj.1] at c141; exact c141
                          refine v_iload F dX8_end_144 8 rfl (q := 146) rfl ?_
                          refine v_istore_n F dX8_end_146 (i := 3) (lv' := [(3, .int (nI k)), (13, .long (lN ((shB pk px py M N ls lv lx ly kc) k).natAbs)), (11, .long (lN ((liI th sd tp n sc pl) ((shB pk px py M N ls lv lx ly kc) k) k).toNat)), (9, .long (zL ((shB pk px py M N ls lv lx ly kc) k))), (0, .ref y0), (2, .int (nI M)), (4, .long (lN ((liI th sd tp n sc pl) ((shB pk px py M N ls lv lx ly kc) j) j).toNat)), (6, .long (lN ((shB pk px py M N ls lv lx ly kc) j).natAbs)), (8, .int (nI k))]) rfl (Nat.le_of_ble_eq_true rfl) rfl (q := 147) rfl ?_
                          refine v_lload F dX8_end_147 2 rfl (q := 149) rfl ?_
                          refine v_lstore F dX8_end_149 (lv' := [(4, .long (lN ((liI th sd tp n sc pl) ((shB pk px py M N ls lv lx ly kc) k) k).toNat)), (3, .int (nI k)), (13, .long (lN ((shB pk px py M N ls lv lx ly kc) k).natAbs)), (11, .long (lN ((liI th sd tp n sc pl) ((shB pk px py M N ls lv lx ly kc) k) k).toNat)), (9, .long (zL ((shB pk px py M N ls lv lx ly kc) k))), (0, .ref y0), (2, .int (nI M)), (6, .long (lN ((shB pk px py M N ls lv lx ly kc) j).natAbs)), (8, .int (nI k))]) (Nat.le_of_ble_eq_true rfl) rfl (q := 151) rfl ?_
                          refine v_lload F dX8_end_151 2 rfl (q := 153) rfl ?_
                          refine v_lstore F dX8_end_153 (lv' := [(6, .long (lN ((shB pk px py M N ls lv lx ly kc) k).natAbs)), (4, .long (lN ((liI th sd tp n sc pl) ((shB pk px py M N ls lv lx ly kc) k) k).toNat)), (3, .int (nI k)), (13, .long (lN ((shB pk px py M N ls lv lx ly kc) k).natAbs)), (11, .long (lN ((liI th sd tp n sc pl) ((shB pk px py M N ls lv lx ly kc) k) k).toNat)), (9, .long (zL ((shB pk px py M N ls lv lx ly kc) k))), (0, .ref y0), (2, .int (nI M)), (8, .int (nI k))]) (Nat.le_of_ble_eq_true rfl) rfl (q := 155) rfl ?_
                          refine v_iinc F dX8_end_155 8 rfl (v := nI (k + 1)) (lv' := [(8, .int (nI (k + 1))), (6, .long (lN ((shB pk px py M N ls lv lx ly kc) k).natAbs)), (4, .long (lN ((liI th sd tp n sc pl) ((shB pk px py M N ls lv lx ly kc) k) k).toNat)), (3, .int (nI k)), (13, .long (lN ((shB pk px py M N ls lv lx ly kc) k).natAbs)), (11, .long (lN ((liI th sd tp n sc pl) ((shB pk px py M N ls lv lx ly kc) k) k).toNat)), (9, .long (zL ((shB pk px py M N ls lv lx ly kc) k))), (0, .ref y0), (2, .int (nI M))]) (nI_1 k) (Nat.le_of_ble_eq_true rfl) rfl (q := 158) rfl ?_
                          refine v_goto F dX8_end_158 (tgt := 38) rfl ?_
                          refine v_lv (lv' := [(0, .ref y0), (2, .int (nI M)), (3, .int (nI k)), (4, .long (lN ((liI th sd tp n sc pl) ((shB pk px py M N ls lv lx ly kc) k) k).toNat)), (6, .long (lN ((shB pk px py M N ls lv lx ly kc) k).natAbs)), (8, .int (nI (k + 1)))]) [7, 8, 3, 2, 1, 0] rfl ?_
                          have hV := ih d (by omega) (k + 1) (by omega)
                          rw [enF_t c54 hs0 hT] at hV
                          exact hV
        refine v_lv (lv' := [(0, .ref y0), (2, .int (nI M)), (3, .int (-4)), (4, .long 1), (6, .long 1), (8, .int 0)]) [5, 4, 3, 2, 1, 0] rfl ?_
        exact L38 N 0 (by omega)
      · exact absurd c20 (by decide)
  · skip
    rw [bI_z] at c4
    refine v_iconst F dX8_end_7 (v := (-1)) (q := 8) rfl rfl ?_
    exact hE rfl dX8_end_8 (Nat.zero_le _) (Nat.zero_le _) ⟨(by have hf : fEnd c1 (th, sd, tp, n, sc, sp, px, py, pl, pk, N, M, ls, lv, lx, ly, ab, bl, tn) = (-1, (th, sd, tp, n, sc, sp, px, py, pl, pk, N, M, ls, lv, lx, ly, ab, bl, tn)) := (by simp only [fEnd]; rw [if_neg (by rw [c4]; simp)]); exact ⟨(wo, si, t1, t2), by rw [hf] <;> rfl, by rw [hf]; rfl⟩), Nat.le_of_ble_eq_true rfl⟩

end MO
