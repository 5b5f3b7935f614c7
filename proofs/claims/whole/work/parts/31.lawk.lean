/-! the law's calls over the states' words, its script, its loop -/
theorem nd15b : decide ([24, 25, 26, 27, 28, 29, 30, 31, 32, 33, 34, 35, 36, 37, 38] : List Nat).Nodup = true := by decide +kernel
theorem vnd15b : va_nd [24, 25, 26, 27, 28, 29, 30, 31, 32, 33, 34, 35, 36, 37, 38] = true := by decide +kernel
section LW
variable {l : Launch} {D : va_G} {cI cJ cZ : ClassId}
theorem k_X7_layer (z g ga gb gc h ha hb hc hd o oa ob oc od ca m0 ma mb mc v0 t ta tb : Nat) {S : STy} {X : SXy} (VI : INV S) (a b2 c2 : Int32) : Ct l D (TY cI cJ cZ) yX7_layer cX7_layer 4 (some .int) 2 42 0 0 [.ref z, .int a, .int b2, .int c2] (WC cI cJ z g ga gb gc h ha hb hc hd o oa ob oc od ca m0 ma mb mc v0 t ta tb S X) (fun r w => ∃ X2 : SXy, r = some (.int (fLayer a b2 c2 S).1) ∧ w = (WC cI cJ z g ga gb gc h ha hb hc hd o oa ob oc od ca m0 ma mb mc v0 t ta tb (fLayer a b2 c2 S).2 X2)) := by
  obtain ⟨th, sd, tp, n, sc, sp, px, py, pl, pk, N, M, ls, lv, lx, ly, ab, bl, tn⟩ := S
  obtain ⟨w1, w2, w3, w4, w5, w6, de, cw, cp, cq, pu, be, nr, dp0, b0, lf0, mo0, us0⟩ := X
  exact c_X7_layer z g ga gb gc h ha hb hc hd o oa ob oc od ca m0 ma mb mc v0 t ta tb th sd tp n sc sp px py pl pk N M ls lv lx ly ab bl tn w1 w2 w3 w4 w5 w6 de cw cp cq pu be nr dp0 b0 lf0 mo0 us0 a b2 c2 VI
theorem k_X8_layer (y0 y1 y2 y3 y4 y5 y6 y7 y8 y9 y10 y11 y12 y13 y14 : Nat) {S : STy} {X : Int × Int × Int × Int} (VI : INV S) (a b2 c2 : Int32) : Ct l D (TY cI cJ cZ) yX8_layer cX8_layer 4 (some .int) 1 22 0 0 [.ref y0, .int a, .int b2, .int c2] (WM cI cJ cZ y0 y1 y2 y3 y4 y5 y6 y7 y8 y9 y10 y11 y12 y13 y14 S X) (fun r w => ∃ X2 : Int × Int × Int × Int, r = some (.int (fLayer a b2 c2 S).1) ∧ w = (WM cI cJ cZ y0 y1 y2 y3 y4 y5 y6 y7 y8 y9 y10 y11 y12 y13 y14 (fLayer a b2 c2 S).2 X2)) := by
  obtain ⟨th, sd, tp, n, sc, sp, px, py, pl, pk, N, M, ls, lv, lx, ly, ab, bl, tn⟩ := S
  obtain ⟨wo, si, t1, t2⟩ := X
  exact c_X8_layer y0 y1 y2 y3 y4 y5 y6 y7 y8 y9 y10 y11 y12 y13 y14 th sd tp n sc sp px py pl pk N M ls lv lx ly ab bl tn wo si t1 t2 a b2 c2 VI
theorem k_X7_change (z g ga gb gc h ha hb hc hd o oa ob oc od ca m0 ma mb mc v0 t ta tb : Nat) {S : STy} {X : SXy} (VI : INV S) (a b2 c2 : Int32) : Ct l D (TY cI cJ cZ) yX7_change cX7_change 4 (some .int) 2 42 0 0 [.ref z, .int a, .int b2, .int c2] (WC cI cJ z g ga gb gc h ha hb hc hd o oa ob oc od ca m0 ma mb mc v0 t ta tb S X) (fun r w => ∃ X2 : SXy, r = some (.int (fChange a b2 c2 S).1) ∧ w = (WC cI cJ z g ga gb gc h ha hb hc hd o oa ob oc od ca m0 ma mb mc v0 t ta tb (fChange a b2 c2 S).2 X2)) := by
  obtain ⟨th, sd, tp, n, sc, sp, px, py, pl, pk, N, M, ls, lv, lx, ly, ab, bl, tn⟩ := S
  obtain ⟨w1, w2, w3, w4, w5, w6, de, cw, cp, cq, pu, be, nr, dp0, b0, lf0, mo0, us0⟩ := X
  exact c_X7_change z g ga gb gc h ha hb hc hd o oa ob oc od ca m0 ma mb mc v0 t ta tb th sd tp n sc sp px py pl pk N M ls lv lx ly ab bl tn w1 w2 w3 w4 w5 w6 de cw cp cq pu be nr dp0 b0 lf0 mo0 us0 a b2 c2 VI
theorem k_X8_change (y0 y1 y2 y3 y4 y5 y6 y7 y8 y9 y10 y11 y12 y13 y14 : Nat) {S : STy} {X : Int × Int × Int × Int} (VI : INV S) (a b2 c2 : Int32) : Ct l D (TY cI cJ cZ) yX8_change cX8_change 5 (some .int) 1 22 0 0 [.ref y0, .int a, .int b2, .int c2] (WM cI cJ cZ y0 y1 y2 y3 y4 y5 y6 y7 y8 y9 y10 y11 y12 y13 y14 S X) (fun r w => ∃ X2 : Int × Int × Int × Int, r = some (.int (fChange a b2 c2 S).1) ∧ w = (WM cI cJ cZ y0 y1 y2 y3 y4 y5 y6 y7 y8 y9 y10 y11 y12 y13 y14 (fChange a b2 c2 S).2 X2)) := by
  obtain ⟨th, sd, tp, n, sc, sp, px, py, pl, pk, N, M, ls, lv, lx, ly, ab, bl, tn⟩ := S
  obtain ⟨wo, si, t1, t2⟩ := X
  exact c_X8_change y0 y1 y2 y3 y4 y5 y6 y7 y8 y9 y10 y11 y12 y13 y14 th sd tp n sc sp px py pl pk N M ls lv lx ly ab bl tn wo si t1 t2 a b2 c2 VI
theorem k_X7_rule (z g ga gb gc h ha hb hc hd o oa ob oc od ca m0 ma mb mc v0 t ta tb : Nat) {S : STy} {X : SXy} (VI : INV S) (a b2 : Int32) : Ct l D (TY cI cJ cZ) yX7_rule cX7_rule 4 (some .int) 1 22 0 0 [.ref z, .int a, .int b2] (WC cI cJ z g ga gb gc h ha hb hc hd o oa ob oc od ca m0 ma mb mc v0 t ta tb S X) (fun r w => ∃ X2 : SXy, r = some (.int (fRule a b2 S).1) ∧ w = (WC cI cJ z g ga gb gc h ha hb hc hd o oa ob oc od ca m0 ma mb mc v0 t ta tb (fRule a b2 S).2 X2)) := by
  obtain ⟨th, sd, tp, n, sc, sp, px, py, pl, pk, N, M, ls, lv, lx, ly, ab, bl, tn⟩ := S
  obtain ⟨w1, w2, w3, w4, w5, w6, de, cw, cp, cq, pu, be, nr, dp0, b0, lf0, mo0, us0⟩ := X
  exact c_X7_rule z g ga gb gc h ha hb hc hd o oa ob oc od ca m0 ma mb mc v0 t ta tb th sd tp n sc sp px py pl pk N M ls lv lx ly ab bl tn w1 w2 w3 w4 w5 w6 de cw cp cq pu be nr dp0 b0 lf0 mo0 us0 a b2 VI
theorem k_X8_rule (y0 y1 y2 y3 y4 y5 y6 y7 y8 y9 y10 y11 y12 y13 y14 : Nat) {S : STy} {X : Int × Int × Int × Int} (VI : INV S) (a b2 : Int32) : Ct l D (TY cI cJ cZ) yX8_rule cX8_rule 4 (some .int) 1 22 0 0 [.ref y0, .int a, .int b2] (WM cI cJ cZ y0 y1 y2 y3 y4 y5 y6 y7 y8 y9 y10 y11 y12 y13 y14 S X) (fun r w => ∃ X2 : Int × Int × Int × Int, r = some (.int (fRule a b2 S).1) ∧ w = (WM cI cJ cZ y0 y1 y2 y3 y4 y5 y6 y7 y8 y9 y10 y11 y12 y13 y14 (fRule a b2 S).2 X2)) := by
  obtain ⟨th, sd, tp, n, sc, sp, px, py, pl, pk, N, M, ls, lv, lx, ly, ab, bl, tn⟩ := S
  obtain ⟨wo, si, t1, t2⟩ := X
  exact c_X8_rule y0 y1 y2 y3 y4 y5 y6 y7 y8 y9 y10 y11 y12 y13 y14 th sd tp n sc sp px py pl pk N M ls lv lx ly ab bl tn wo si t1 t2 a b2 VI
theorem k_X7_pile (z g ga gb gc h ha hb hc hd o oa ob oc od ca m0 ma mb mc v0 t ta tb : Nat) {S : STy} {X : SXy} (VI : INV S) (a b2 c2 d2 : Int32) : Ct l D (TY cI cJ cZ) yX7_pile cX7_pile 5 (some .int) 2 48 0 0 [.ref z, .int a, .int b2, .int c2, .int d2] (WC cI cJ z g ga gb gc h ha hb hc hd o oa ob oc od ca m0 ma mb mc v0 t ta tb S X) (fun r w => ∃ X2 : SXy, r = some (.int (fPile a b2 c2 d2 S).1) ∧ w = (WC cI cJ z g ga gb gc h ha hb hc hd o oa ob oc od ca m0 ma mb mc v0 t ta tb (fPile a b2 c2 d2 S).2 X2)) := by
  obtain ⟨th, sd, tp, n, sc, sp, px, py, pl, pk, N, M, ls, lv, lx, ly, ab, bl, tn⟩ := S
  obtain ⟨w1, w2, w3, w4, w5, w6, de, cw, cp, cq, pu, be, nr, dp0, b0, lf0, mo0, us0⟩ := X
  exact c_X7_pile z g ga gb gc h ha hb hc hd o oa ob oc od ca m0 ma mb mc v0 t ta tb th sd tp n sc sp px py pl pk N M ls lv lx ly ab bl tn w1 w2 w3 w4 w5 w6 de cw cp cq pu be nr dp0 b0 lf0 mo0 us0 a b2 c2 d2 VI
theorem k_X8_pile (y0 y1 y2 y3 y4 y5 y6 y7 y8 y9 y10 y11 y12 y13 y14 : Nat) {S : STy} {X : Int × Int × Int × Int} (VI : INV S) (a b2 c2 d2 : Int32) : Ct l D (TY cI cJ cZ) yX8_pile cX8_pile 5 (some .int) 2 43 0 0 [.ref y0, .int a, .int b2, .int c2, .int d2] (WM cI cJ cZ y0 y1 y2 y3 y4 y5 y6 y7 y8 y9 y10 y11 y12 y13 y14 S X) (fun r w => ∃ X2 : Int × Int × Int × Int, r = some (.int (fPile a b2 c2 d2 S).1) ∧ w = (WM cI cJ cZ y0 y1 y2 y3 y4 y5 y6 y7 y8 y9 y10 y11 y12 y13 y14 (fPile a b2 c2 d2 S).2 X2)) := by
  obtain ⟨th, sd, tp, n, sc, sp, px, py, pl, pk, N, M, ls, lv, lx, ly, ab, bl, tn⟩ := S
  obtain ⟨wo, si, t1, t2⟩ := X
  exact c_X8_pile y0 y1 y2 y3 y4 y5 y6 y7 y8 y9 y10 y11 y12 y13 y14 th sd tp n sc sp px py pl pk N M ls lv lx ly ab bl tn wo si t1 t2 a b2 c2 d2 VI
theorem k_X7_shift (z g ga gb gc h ha hb hc hd o oa ob oc od ca m0 ma mb mc v0 t ta tb : Nat) {S : STy} {X : SXy} (VI : INV S) (a b2 c2 : Int32) : Ct l D (TY cI cJ cZ) yX7_shift cX7_shift 4 (some .int) 2 43 0 0 [.ref z, .int a, .int b2, .int c2] (WC cI cJ z g ga gb gc h ha hb hc hd o oa ob oc od ca m0 ma mb mc v0 t ta tb S X) (fun r w => ∃ X2 : SXy, r = some (.int (fShift a b2 c2 S).1) ∧ w = (WC cI cJ z g ga gb gc h ha hb hc hd o oa ob oc od ca m0 ma mb mc v0 t ta tb (fShift a b2 c2 S).2 X2)) := by
  obtain ⟨th, sd, tp, n, sc, sp, px, py, pl, pk, N, M, ls, lv, lx, ly, ab, bl, tn⟩ := S
  obtain ⟨w1, w2, w3, w4, w5, w6, de, cw, cp, cq, pu, be, nr, dp0, b0, lf0, mo0, us0⟩ := X
  exact c_X7_shift z g ga gb gc h ha hb hc hd o oa ob oc od ca m0 ma mb mc v0 t ta tb th sd tp n sc sp px py pl pk N M ls lv lx ly ab bl tn w1 w2 w3 w4 w5 w6 de cw cp cq pu be nr dp0 b0 lf0 mo0 us0 a b2 c2 VI
theorem k_X8_shift (y0 y1 y2 y3 y4 y5 y6 y7 y8 y9 y10 y11 y12 y13 y14 : Nat) {S : STy} {X : Int × Int × Int × Int} (VI : INV S) (a b2 c2 : Int32) : Ct l D (TY cI cJ cZ) yX8_shift cX8_shift 4 (some .int) 2 43 0 0 [.ref y0, .int a, .int b2, .int c2] (WM cI cJ cZ y0 y1 y2 y3 y4 y5 y6 y7 y8 y9 y10 y11 y12 y13 y14 S X) (fun r w => ∃ X2 : Int × Int × Int × Int, r = some (.int (fShift a b2 c2 S).1) ∧ w = (WM cI cJ cZ y0 y1 y2 y3 y4 y5 y6 y7 y8 y9 y10 y11 y12 y13 y14 (fShift a b2 c2 S).2 X2)) := by
  obtain ⟨th, sd, tp, n, sc, sp, px, py, pl, pk, N, M, ls, lv, lx, ly, ab, bl, tn⟩ := S
  obtain ⟨wo, si, t1, t2⟩ := X
  exact c_X8_shift y0 y1 y2 y3 y4 y5 y6 y7 y8 y9 y10 y11 y12 y13 y14 th sd tp n sc sp px py pl pk N M ls lv lx ly ab bl tn wo si t1 t2 a b2 c2 VI
theorem k_X7_whole (z g ga gb gc h ha hb hc hd o oa ob oc od ca m0 ma mb mc v0 t ta tb : Nat) {S : STy} {X : SXy} (VI : INV S) (a : Int32) (v : Bool) : Ct l D (TY cI cJ cZ) yX7_whole cX7_whole 4 (some .int) 1 22 0 0 [.ref z, .int a, .int (bI v)] (WC cI cJ z g ga gb gc h ha hb hc hd o oa ob oc od ca m0 ma mb mc v0 t ta tb S X) (fun r w => ∃ X2 : SXy, r = some (.int (fWhole a v S).1) ∧ w = (WC cI cJ z g ga gb gc h ha hb hc hd o oa ob oc od ca m0 ma mb mc v0 t ta tb (fWhole a v S).2 X2)) := by
  obtain ⟨th, sd, tp, n, sc, sp, px, py, pl, pk, N, M, ls, lv, lx, ly, ab, bl, tn⟩ := S
  obtain ⟨w1, w2, w3, w4, w5, w6, de, cw, cp, cq, pu, be, nr, dp0, b0, lf0, mo0, us0⟩ := X
  exact c_X7_whole z g ga gb gc h ha hb hc hd o oa ob oc od ca m0 ma mb mc v0 t ta tb th sd tp n sc sp px py pl pk N M ls lv lx ly ab bl tn w1 w2 w3 w4 w5 w6 de cw cp cq pu be nr dp0 b0 lf0 mo0 us0 a v VI
theorem k_X8_whole (y0 y1 y2 y3 y4 y5 y6 y7 y8 y9 y10 y11 y12 y13 y14 : Nat) {S : STy} {X : Int × Int × Int × Int} (VI : INV S) (a : Int32) (v : Bool) : Ct l D (TY cI cJ cZ) yX8_whole cX8_whole 4 (some .int) 2 43 0 0 [.ref y0, .int a, .int (bI v)] (WM cI cJ cZ y0 y1 y2 y3 y4 y5 y6 y7 y8 y9 y10 y11 y12 y13 y14 S X) (fun r w => ∃ X2 : Int × Int × Int × Int, r = some (.int (fWhole a v S).1) ∧ w = (WM cI cJ cZ y0 y1 y2 y3 y4 y5 y6 y7 y8 y9 y10 y11 y12 y13 y14 (fWhole a v S).2 X2)) := by
  obtain ⟨th, sd, tp, n, sc, sp, px, py, pl, pk, N, M, ls, lv, lx, ly, ab, bl, tn⟩ := S
  obtain ⟨wo, si, t1, t2⟩ := X
  exact c_X8_whole y0 y1 y2 y3 y4 y5 y6 y7 y8 y9 y10 y11 y12 y13 y14 th sd tp n sc sp px py pl pk N M ls lv lx ly ab bl tn wo si t1 t2 a v VI
theorem k_X7_about (z g ga gb gc h ha hb hc hd o oa ob oc od ca m0 ma mb mc v0 t ta tb : Nat) {S : STy} {X : SXy} (VI : INV S) (a b2 : Int32) : Ct l D (TY cI cJ cZ) yX7_about cX7_about 3 (some .int) 3 66 0 0 [.ref z, .int a, .int b2] (WC cI cJ z g ga gb gc h ha hb hc hd o oa ob oc od ca m0 ma mb mc v0 t ta tb S X) (fun r w => ∃ X2 : SXy, r = some (.int (fAbout a b2 S).1) ∧ w = (WC cI cJ z g ga gb gc h ha hb hc hd o oa ob oc od ca m0 ma mb mc v0 t ta tb (fAbout a b2 S).2 X2)) := by
  obtain ⟨th, sd, tp, n, sc, sp, px, py, pl, pk, N, M, ls, lv, lx, ly, ab, bl, tn⟩ := S
  obtain ⟨w1, w2, w3, w4, w5, w6, de, cw, cp, cq, pu, be, nr, dp0, b0, lf0, mo0, us0⟩ := X
  exact c_X7_about z g ga gb gc h ha hb hc hd o oa ob oc od ca m0 ma mb mc v0 t ta tb th sd tp n sc sp px py pl pk N M ls lv lx ly ab bl tn w1 w2 w3 w4 w5 w6 de cw cp cq pu be nr dp0 b0 lf0 mo0 us0 a b2 VI
theorem k_X8_about (y0 y1 y2 y3 y4 y5 y6 y7 y8 y9 y10 y11 y12 y13 y14 : Nat) {S : STy} {X : Int × Int × Int × Int} (VI : INV S) (a b2 : Int32) : Ct l D (TY cI cJ cZ) yX8_about cX8_about 3 (some .int) 4 89 0 0 [.ref y0, .int a, .int b2] (WM cI cJ cZ y0 y1 y2 y3 y4 y5 y6 y7 y8 y9 y10 y11 y12 y13 y14 S X) (fun r w => ∃ X2 : Int × Int × Int × Int, r = some (.int (fAbout a b2 S).1) ∧ w = (WM cI cJ cZ y0 y1 y2 y3 y4 y5 y6 y7 y8 y9 y10 y11 y12 y13 y14 (fAbout a b2 S).2 X2)) := by
  obtain ⟨th, sd, tp, n, sc, sp, px, py, pl, pk, N, M, ls, lv, lx, ly, ab, bl, tn⟩ := S
  obtain ⟨wo, si, t1, t2⟩ := X
  exact c_X8_about y0 y1 y2 y3 y4 y5 y6 y7 y8 y9 y10 y11 y12 y13 y14 th sd tp n sc sp px py pl pk N M ls lv lx ly ab bl tn wo si t1 t2 a b2 VI
theorem k_X7_load (z g ga gb gc h ha hb hc hd o oa ob oc od ca m0 ma mb mc v0 t ta tb : Nat) {S : STy} {X : SXy} (VI : INV S) (a b2 c2 d2 : Int32) : Ct l D (TY cI cJ cZ) yX7_load cX7_load 5 (some .int) 2 43 0 0 [.ref z, .int a, .int b2, .int c2, .int d2] (WC cI cJ z g ga gb gc h ha hb hc hd o oa ob oc od ca m0 ma mb mc v0 t ta tb S X) (fun r w => ∃ X2 : SXy, r = some (.int (fLoad a b2 c2 d2 S).1) ∧ w = (WC cI cJ z g ga gb gc h ha hb hc hd o oa ob oc od ca m0 ma mb mc v0 t ta tb (fLoad a b2 c2 d2 S).2 X2)) := by
  obtain ⟨th, sd, tp, n, sc, sp, px, py, pl, pk, N, M, ls, lv, lx, ly, ab, bl, tn⟩ := S
  obtain ⟨w1, w2, w3, w4, w5, w6, de, cw, cp, cq, pu, be, nr, dp0, b0, lf0, mo0, us0⟩ := X
  exact c_X7_load z g ga gb gc h ha hb hc hd o oa ob oc od ca m0 ma mb mc v0 t ta tb th sd tp n sc sp px py pl pk N M ls lv lx ly ab bl tn w1 w2 w3 w4 w5 w6 de cw cp cq pu be nr dp0 b0 lf0 mo0 us0 a b2 c2 d2 VI
theorem k_X8_load (y0 y1 y2 y3 y4 y5 y6 y7 y8 y9 y10 y11 y12 y13 y14 : Nat) {S : STy} {X : Int × Int × Int × Int} (VI : INV S) (a b2 c2 d2 : Int32) : Ct l D (TY cI cJ cZ) yX8_load cX8_load 6 (some .int) 2 43 0 0 [.ref y0, .int a, .int b2, .int c2, .int d2] (WM cI cJ cZ y0 y1 y2 y3 y4 y5 y6 y7 y8 y9 y10 y11 y12 y13 y14 S X) (fun r w => ∃ X2 : Int × Int × Int × Int, r = some (.int (fLoad a b2 c2 d2 S).1) ∧ w = (WM cI cJ cZ y0 y1 y2 y3 y4 y5 y6 y7 y8 y9 y10 y11 y12 y13 y14 (fLoad a b2 c2 d2 S).2 X2)) := by
  obtain ⟨th, sd, tp, n, sc, sp, px, py, pl, pk, N, M, ls, lv, lx, ly, ab, bl, tn⟩ := S
  obtain ⟨wo, si, t1, t2⟩ := X
  exact c_X8_load y0 y1 y2 y3 y4 y5 y6 y7 y8 y9 y10 y11 y12 y13 y14 th sd tp n sc sp px py pl pk N M ls lv lx ly ab bl tn wo si t1 t2 a b2 c2 d2 VI
theorem k_X7_noLoads (z g ga gb gc h ha hb hc hd o oa ob oc od ca m0 ma mb mc v0 t ta tb : Nat) {S : STy} {X : SXy} (VI : INV S) (a : Int32) : Ct l D (TY cI cJ cZ) yX7_noLoads cX7_noLoads 2 (some .int) 2 42 0 0 [.ref z, .int a] (WC cI cJ z g ga gb gc h ha hb hc hd o oa ob oc od ca m0 ma mb mc v0 t ta tb S X) (fun r w => ∃ X2 : SXy, r = some (.int (fNoLoads a S).1) ∧ w = (WC cI cJ z g ga gb gc h ha hb hc hd o oa ob oc od ca m0 ma mb mc v0 t ta tb (fNoLoads a S).2 X2)) := by
  obtain ⟨th, sd, tp, n, sc, sp, px, py, pl, pk, N, M, ls, lv, lx, ly, ab, bl, tn⟩ := S
  obtain ⟨w1, w2, w3, w4, w5, w6, de, cw, cp, cq, pu, be, nr, dp0, b0, lf0, mo0, us0⟩ := X
  exact c_X7_noLoads z g ga gb gc h ha hb hc hd o oa ob oc od ca m0 ma mb mc v0 t ta tb th sd tp n sc sp px py pl pk N M ls lv lx ly ab bl tn w1 w2 w3 w4 w5 w6 de cw cp cq pu be nr dp0 b0 lf0 mo0 us0 a VI
theorem k_X8_noLoads (y0 y1 y2 y3 y4 y5 y6 y7 y8 y9 y10 y11 y12 y13 y14 : Nat) {S : STy} {X : Int × Int × Int × Int} (VI : INV S) (a : Int32) : Ct l D (TY cI cJ cZ) yX8_noLoads cX8_noLoads 3 (some .int) 2 42 0 0 [.ref y0, .int a] (WM cI cJ cZ y0 y1 y2 y3 y4 y5 y6 y7 y8 y9 y10 y11 y12 y13 y14 S X) (fun r w => ∃ X2 : Int × Int × Int × Int, r = some (.int (fNoLoads a S).1) ∧ w = (WM cI cJ cZ y0 y1 y2 y3 y4 y5 y6 y7 y8 y9 y10 y11 y12 y13 y14 (fNoLoads a S).2 X2)) := by
  obtain ⟨th, sd, tp, n, sc, sp, px, py, pl, pk, N, M, ls, lv, lx, ly, ab, bl, tn⟩ := S
  obtain ⟨wo, si, t1, t2⟩ := X
  exact c_X8_noLoads y0 y1 y2 y3 y4 y5 y6 y7 y8 y9 y10 y11 y12 y13 y14 th sd tp n sc sp px py pl pk N M ls lv lx ly ab bl tn wo si t1 t2 a VI
theorem k_X7_shares (z g ga gb gc h ha hb hc hd o oa ob oc od ca m0 ma mb mc v0 t ta tb : Nat) {S : STy} {X : SXy} (VI : INV S) (a : Int32) : Ct l D (TY cI cJ cZ) yX7_shares cX7_shares 4 (some .int) 3 63 0 0 [.ref z, .int a] (WC cI cJ z g ga gb gc h ha hb hc hd o oa ob oc od ca m0 ma mb mc v0 t ta tb S X) (fun r w => ∃ X2 : SXy, r = some (.int (fShares a S).1) ∧ w = (WC cI cJ z g ga gb gc h ha hb hc hd o oa ob oc od ca m0 ma mb mc v0 t ta tb (fShares a S).2 X2)) := by
  obtain ⟨th, sd, tp, n, sc, sp, px, py, pl, pk, N, M, ls, lv, lx, ly, ab, bl, tn⟩ := S
  obtain ⟨w1, w2, w3, w4, w5, w6, de, cw, cp, cq, pu, be, nr, dp0, b0, lf0, mo0, us0⟩ := X
  exact c_X7_shares z g ga gb gc h ha hb hc hd o oa ob oc od ca m0 ma mb mc v0 t ta tb th sd tp n sc sp px py pl pk N M ls lv lx ly ab bl tn w1 w2 w3 w4 w5 w6 de cw cp cq pu be nr dp0 b0 lf0 mo0 us0 a VI
theorem k_X8_shares (y0 y1 y2 y3 y4 y5 y6 y7 y8 y9 y10 y11 y12 y13 y14 : Nat) {S : STy} {X : Int × Int × Int × Int} (VI : INV S) (a : Int32) : Ct l D (TY cI cJ cZ) yX8_shares cX8_shares 3 (some .int) 2 56 0 0 [.ref y0, .int a] (WM cI cJ cZ y0 y1 y2 y3 y4 y5 y6 y7 y8 y9 y10 y11 y12 y13 y14 S X) (fun r w => ∃ X2 : Int × Int × Int × Int, r = some (.int (fShares a S).1) ∧ w = (WM cI cJ cZ y0 y1 y2 y3 y4 y5 y6 y7 y8 y9 y10 y11 y12 y13 y14 (fShares a S).2 X2)) := by
  obtain ⟨th, sd, tp, n, sc, sp, px, py, pl, pk, N, M, ls, lv, lx, ly, ab, bl, tn⟩ := S
  obtain ⟨wo, si, t1, t2⟩ := X
  exact c_X8_shares y0 y1 y2 y3 y4 y5 y6 y7 y8 y9 y10 y11 y12 y13 y14 th sd tp n sc sp px py pl pk N M ls lv lx ly ab bl tn wo si t1 t2 a VI
theorem k_X7_over (z g ga gb gc h ha hb hc hd o oa ob oc od ca m0 ma mb mc v0 t ta tb : Nat) {S : STy} {X : SXy} (VI : INV S) (a : Int32) : Ct l D (TY cI cJ cZ) yX7_over cX7_over 3 (some .int) 4 89 0 0 [.ref z, .int a] (WC cI cJ z g ga gb gc h ha hb hc hd o oa ob oc od ca m0 ma mb mc v0 t ta tb S X) (fun r w => ∃ X2 : SXy, r = some (.int (fOver a S).1) ∧ w = (WC cI cJ z g ga gb gc h ha hb hc hd o oa ob oc od ca m0 ma mb mc v0 t ta tb (fOver a S).2 X2)) := by
  obtain ⟨th, sd, tp, n, sc, sp, px, py, pl, pk, N, M, ls, lv, lx, ly, ab, bl, tn⟩ := S
  obtain ⟨w1, w2, w3, w4, w5, w6, de, cw, cp, cq, pu, be, nr, dp0, b0, lf0, mo0, us0⟩ := X
  exact c_X7_over z g ga gb gc h ha hb hc hd o oa ob oc od ca m0 ma mb mc v0 t ta tb th sd tp n sc sp px py pl pk N M ls lv lx ly ab bl tn w1 w2 w3 w4 w5 w6 de cw cp cq pu be nr dp0 b0 lf0 mo0 us0 a VI
theorem k_X8_over (y0 y1 y2 y3 y4 y5 y6 y7 y8 y9 y10 y11 y12 y13 y14 : Nat) {S : STy} {X : Int × Int × Int × Int} (VI : INV S) (a : Int32) : Ct l D (TY cI cJ cZ) yX8_over cX8_over 5 (some .int) 5 112 0 0 [.ref y0, .int a] (WM cI cJ cZ y0 y1 y2 y3 y4 y5 y6 y7 y8 y9 y10 y11 y12 y13 y14 S X) (fun r w => ∃ X2 : Int × Int × Int × Int, r = some (.int (fOver a S).1) ∧ w = (WM cI cJ cZ y0 y1 y2 y3 y4 y5 y6 y7 y8 y9 y10 y11 y12 y13 y14 (fOver a S).2 X2)) := by
  obtain ⟨th, sd, tp, n, sc, sp, px, py, pl, pk, N, M, ls, lv, lx, ly, ab, bl, tn⟩ := S
  obtain ⟨wo, si, t1, t2⟩ := X
  exact c_X8_over y0 y1 y2 y3 y4 y5 y6 y7 y8 y9 y10 y11 y12 y13 y14 th sd tp n sc sp px py pl pk N M ls lv lx ly ab bl tn wo si t1 t2 a VI
theorem k_X7_end (z g ga gb gc h ha hb hc hd o oa ob oc od ca m0 ma mb mc v0 t ta tb : Nat) {S : STy} {X : SXy} (VI : INV S) (a : Int32) : Ct l D (TY cI cJ cZ) yX7_end cX7_end 6 (some .int) 4 89 0 0 [.ref z, .int a] (WC cI cJ z g ga gb gc h ha hb hc hd o oa ob oc od ca m0 ma mb mc v0 t ta tb S X) (fun r w => ∃ X2 : SXy, r = some (.int (fEnd a S).1) ∧ w = (WC cI cJ z g ga gb gc h ha hb hc hd o oa ob oc od ca m0 ma mb mc v0 t ta tb (fEnd a S).2 X2)) := by
  obtain ⟨th, sd, tp, n, sc, sp, px, py, pl, pk, N, M, ls, lv, lx, ly, ab, bl, tn⟩ := S
  obtain ⟨w1, w2, w3, w4, w5, w6, de, cw, cp, cq, pu, be, nr, dp0, b0, lf0, mo0, us0⟩ := X
  exact c_X7_end z g ga gb gc h ha hb hc hd o oa ob oc od ca m0 ma mb mc v0 t ta tb th sd tp n sc sp px py pl pk N M ls lv lx ly ab bl tn w1 w2 w3 w4 w5 w6 de cw cp cq pu be nr dp0 b0 lf0 mo0 us0 a VI
theorem k_X8_end (y0 y1 y2 y3 y4 y5 y6 y7 y8 y9 y10 y11 y12 y13 y14 : Nat) {S : STy} {X : Int × Int × Int × Int} (VI : INV S) (a : Int32) : Ct l D (TY cI cJ cZ) yX8_end cX8_end 15 (some .int) 4 89 0 0 [.ref y0, .int a] (WM cI cJ cZ y0 y1 y2 y3 y4 y5 y6 y7 y8 y9 y10 y11 y12 y13 y14 S X) (fun r w => ∃ X2 : Int × Int × Int × Int, r = some (.int (fEnd a S).1) ∧ w = (WM cI cJ cZ y0 y1 y2 y3 y4 y5 y6 y7 y8 y9 y10 y11 y12 y13 y14 (fEnd a S).2 X2)) := by
  obtain ⟨th, sd, tp, n, sc, sp, px, py, pl, pk, N, M, ls, lv, lx, ly, ab, bl, tn⟩ := S
  obtain ⟨wo, si, t1, t2⟩ := X
  exact c_X8_end y0 y1 y2 y3 y4 y5 y6 y7 y8 y9 y10 y11 y12 y13 y14 th sd tp n sc sp px py pl pk N M ls lv lx ly ab bl tn wo si t1 t2 a VI
theorem k_X7_least (z g ga gb gc h ha hb hc hd o oa ob oc od ca m0 ma mb mc v0 t ta tb : Nat) {S : STy} {X : SXy} (VI : INV S) : Ct l D (TY cI cJ cZ) yX7_least cX7_least 8 (some .int) 4 89 0 0 [.ref z] (WC cI cJ z g ga gb gc h ha hb hc hd o oa ob oc od ca m0 ma mb mc v0 t ta tb S X) (fun r w => ∃ X2 : SXy, r = some (.int (fLeast S).1) ∧ w = (WC cI cJ z g ga gb gc h ha hb hc hd o oa ob oc od ca m0 ma mb mc v0 t ta tb (fLeast S).2 X2)) := by
  obtain ⟨th, sd, tp, n, sc, sp, px, py, pl, pk, N, M, ls, lv, lx, ly, ab, bl, tn⟩ := S
  obtain ⟨w1, w2, w3, w4, w5, w6, de, cw, cp, cq, pu, be, nr, dp0, b0, lf0, mo0, us0⟩ := X
  exact c_X7_least z g ga gb gc h ha hb hc hd o oa ob oc od ca m0 ma mb mc v0 t ta tb th sd tp n sc sp px py pl pk N M ls lv lx ly ab bl tn w1 w2 w3 w4 w5 w6 de cw cp cq pu be nr dp0 b0 lf0 mo0 us0  VI
theorem k_X8_least (y0 y1 y2 y3 y4 y5 y6 y7 y8 y9 y10 y11 y12 y13 y14 : Nat) {S : STy} {X : Int × Int × Int × Int} (VI : INV S) : Ct l D (TY cI cJ cZ) yX8_least cX8_least 4 (some .int) 6 136 0 0 [.ref y0] (WM cI cJ cZ y0 y1 y2 y3 y4 y5 y6 y7 y8 y9 y10 y11 y12 y13 y14 S X) (fun r w => ∃ X2 : Int × Int × Int × Int, r = some (.int (fLeast S).1) ∧ w = (WM cI cJ cZ y0 y1 y2 y3 y4 y5 y6 y7 y8 y9 y10 y11 y12 y13 y14 (fLeast S).2 X2)) := by
  obtain ⟨th, sd, tp, n, sc, sp, px, py, pl, pk, N, M, ls, lv, lx, ly, ab, bl, tn⟩ := S
  obtain ⟨wo, si, t1, t2⟩ := X
  exact c_X8_least y0 y1 y2 y3 y4 y5 y6 y7 y8 y9 y10 y11 y12 y13 y14 th sd tp n sc sp px py pl pk N M ls lv lx ly ab bl tn wo si t1 t2  VI
theorem k_X7_drive (z g ga gb gc h ha hb hc hd o oa ob oc od ca m0 ma mb mc v0 t ta tb : Nat) {S : STy} {X : SXy} (VI : INV S) (a b2 c2 : Int32) : Ct l D (TY cI cJ cZ) yX7_drive cX7_drive 4 (some .int) 4 92 0 0 [.ref z, .int a, .int b2, .int c2] (WC cI cJ z g ga gb gc h ha hb hc hd o oa ob oc od ca m0 ma mb mc v0 t ta tb S X) (fun r w => ∃ X2 : SXy, r = some (.int (fDrive a b2 c2 S).1) ∧ w = (WC cI cJ z g ga gb gc h ha hb hc hd o oa ob oc od ca m0 ma mb mc v0 t ta tb (fDrive a b2 c2 S).2 X2)) := by
  obtain ⟨th, sd, tp, n, sc, sp, px, py, pl, pk, N, M, ls, lv, lx, ly, ab, bl, tn⟩ := S
  obtain ⟨w1, w2, w3, w4, w5, w6, de, cw, cp, cq, pu, be, nr, dp0, b0, lf0, mo0, us0⟩ := X
  exact c_X7_drive z g ga gb gc h ha hb hc hd o oa ob oc od ca m0 ma mb mc v0 t ta tb th sd tp n sc sp px py pl pk N M ls lv lx ly ab bl tn w1 w2 w3 w4 w5 w6 de cw cp cq pu be nr dp0 b0 lf0 mo0 us0 a b2 c2 VI
theorem k_X8_drive (y0 y1 y2 y3 y4 y5 y6 y7 y8 y9 y10 y11 y12 y13 y14 : Nat) {S : STy} {X : Int × Int × Int × Int} (VI : INV S) (a b2 c2 : Int32) : Ct l D (TY cI cJ cZ) yX8_drive cX8_drive 13 (some .int) 3 68 0 0 [.ref y0, .int a, .int b2, .int c2] (WM cI cJ cZ y0 y1 y2 y3 y4 y5 y6 y7 y8 y9 y10 y11 y12 y13 y14 S X) (fun r w => ∃ X2 : Int × Int × Int × Int, r = some (.int (fDrive a b2 c2 S).1) ∧ w = (WM cI cJ cZ y0 y1 y2 y3 y4 y5 y6 y7 y8 y9 y10 y11 y12 y13 y14 (fDrive a b2 c2 S).2 X2)) := by
  obtain ⟨th, sd, tp, n, sc, sp, px, py, pl, pk, N, M, ls, lv, lx, ly, ab, bl, tn⟩ := S
  obtain ⟨wo, si, t1, t2⟩ := X
  exact c_X8_drive y0 y1 y2 y3 y4 y5 y6 y7 y8 y9 y10 y11 y12 y13 y14 th sd tp n sc sp px py pl pk N M ls lv lx ly ab bl tn wo si t1 t2 a b2 c2 VI
theorem k_X7_drag (z g ga gb gc h ha hb hc hd o oa ob oc od ca m0 ma mb mc v0 t ta tb : Nat) {S : STy} {X : SXy} (VI : INV S) (a b2 : Int32) : Ct l D (TY cI cJ cZ) yX7_drag cX7_drag 7 (some .int) 3 77 0 0 [.ref z, .int a, .int b2] (WC cI cJ z g ga gb gc h ha hb hc hd o oa ob oc od ca m0 ma mb mc v0 t ta tb S X) (fun r w => ∃ X2 : SXy, r = some (.int (fDrag a b2 S).1) ∧ w = (WC cI cJ z g ga gb gc h ha hb hc hd o oa ob oc od ca m0 ma mb mc v0 t ta tb (fDrag a b2 S).2 X2)) := by
  obtain ⟨th, sd, tp, n, sc, sp, px, py, pl, pk, N, M, ls, lv, lx, ly, ab, bl, tn⟩ := S
  obtain ⟨w1, w2, w3, w4, w5, w6, de, cw, cp, cq, pu, be, nr, dp0, b0, lf0, mo0, us0⟩ := X
  exact c_X7_drag z g ga gb gc h ha hb hc hd o oa ob oc od ca m0 ma mb mc v0 t ta tb th sd tp n sc sp px py pl pk N M ls lv lx ly ab bl tn w1 w2 w3 w4 w5 w6 de cw cp cq pu be nr dp0 b0 lf0 mo0 us0 a b2 VI
theorem k_X8_drag (y0 y1 y2 y3 y4 y5 y6 y7 y8 y9 y10 y11 y12 y13 y14 : Nat) {S : STy} {X : Int × Int × Int × Int} (VI : INV S) (a b2 : Int32) : Ct l D (TY cI cJ cZ) yX8_drag cX8_drag 11 (some .int) 3 68 0 0 [.ref y0, .int a, .int b2] (WM cI cJ cZ y0 y1 y2 y3 y4 y5 y6 y7 y8 y9 y10 y11 y12 y13 y14 S X) (fun r w => ∃ X2 : Int × Int × Int × Int, r = some (.int (fDrag a b2 S).1) ∧ w = (WM cI cJ cZ y0 y1 y2 y3 y4 y5 y6 y7 y8 y9 y10 y11 y12 y13 y14 (fDrag a b2 S).2 X2)) := by
  obtain ⟨th, sd, tp, n, sc, sp, px, py, pl, pk, N, M, ls, lv, lx, ly, ab, bl, tn⟩ := S
  obtain ⟨wo, si, t1, t2⟩ := X
  exact c_X8_drag y0 y1 y2 y3 y4 y5 y6 y7 y8 y9 y10 y11 y12 y13 y14 th sd tp n sc sp px py pl pk N M ls lv lx ly ab bl tn wo si t1 t2 a b2 VI
theorem k_X7_number (z g ga gb gc h ha hb hc hd o oa ob oc od ca m0 ma mb mc v0 t ta tb : Nat) {S : STy} {X : SXy} (VI : INV S) (a b2 : Int32) : Ct l D (TY cI cJ cZ) yX7_number cX7_number 3 (some .long) 1 22 0 0 [.ref z, .int a, .int b2] (WC cI cJ z g ga gb gc h ha hb hc hd o oa ob oc od ca m0 ma mb mc v0 t ta tb S X) (fun r w => ∃ X2 : SXy, r = some (.long (fNumber a b2 S).1) ∧ w = (WC cI cJ z g ga gb gc h ha hb hc hd o oa ob oc od ca m0 ma mb mc v0 t ta tb (fNumber a b2 S).2 X2)) := by
  obtain ⟨th, sd, tp, n, sc, sp, px, py, pl, pk, N, M, ls, lv, lx, ly, ab, bl, tn⟩ := S
  obtain ⟨w1, w2, w3, w4, w5, w6, de, cw, cp, cq, pu, be, nr, dp0, b0, lf0, mo0, us0⟩ := X
  exact c_X7_number z g ga gb gc h ha hb hc hd o oa ob oc od ca m0 ma mb mc v0 t ta tb th sd tp n sc sp px py pl pk N M ls lv lx ly ab bl tn w1 w2 w3 w4 w5 w6 de cw cp cq pu be nr dp0 b0 lf0 mo0 us0 a b2 VI
theorem k_X8_number (y0 y1 y2 y3 y4 y5 y6 y7 y8 y9 y10 y11 y12 y13 y14 : Nat) {S : STy} {X : Int × Int × Int × Int} (VI : INV S) (a b2 : Int32) : Ct l D (TY cI cJ cZ) yX8_number cX8_number 3 (some .long) 1 22 0 0 [.ref y0, .int a, .int b2] (WM cI cJ cZ y0 y1 y2 y3 y4 y5 y6 y7 y8 y9 y10 y11 y12 y13 y14 S X) (fun r w => ∃ X2 : Int × Int × Int × Int, r = some (.long (fNumber a b2 S).1) ∧ w = (WM cI cJ cZ y0 y1 y2 y3 y4 y5 y6 y7 y8 y9 y10 y11 y12 y13 y14 (fNumber a b2 S).2 X2)) := by
  obtain ⟨th, sd, tp, n, sc, sp, px, py, pl, pk, N, M, ls, lv, lx, ly, ab, bl, tn⟩ := S
  obtain ⟨wo, si, t1, t2⟩ := X
  exact c_X8_number y0 y1 y2 y3 y4 y5 y6 y7 y8 y9 y10 y11 y12 y13 y14 th sd tp n sc sp px py pl pk N M ls lv lx ly ab bl tn wo si t1 t2 a b2 VI
theorem k_X7_count (z g ga gb gc h ha hb hc hd o oa ob oc od ca m0 ma mb mc v0 t ta tb : Nat) {S : STy} {X : SXy} (VI : INV S) (a : Int32) : Ct l D (TY cI cJ cZ) yX7_count cX7_count 2 (some .int) 1 22 0 0 [.ref z, .int a] (WC cI cJ z g ga gb gc h ha hb hc hd o oa ob oc od ca m0 ma mb mc v0 t ta tb S X) (fun r w => ∃ X2 : SXy, r = some (.int (fCount a S).1) ∧ w = (WC cI cJ z g ga gb gc h ha hb hc hd o oa ob oc od ca m0 ma mb mc v0 t ta tb (fCount a S).2 X2)) := by
  obtain ⟨th, sd, tp, n, sc, sp, px, py, pl, pk, N, M, ls, lv, lx, ly, ab, bl, tn⟩ := S
  obtain ⟨w1, w2, w3, w4, w5, w6, de, cw, cp, cq, pu, be, nr, dp0, b0, lf0, mo0, us0⟩ := X
  exact c_X7_count z g ga gb gc h ha hb hc hd o oa ob oc od ca m0 ma mb mc v0 t ta tb th sd tp n sc sp px py pl pk N M ls lv lx ly ab bl tn w1 w2 w3 w4 w5 w6 de cw cp cq pu be nr dp0 b0 lf0 mo0 us0 a VI
theorem k_X8_count (y0 y1 y2 y3 y4 y5 y6 y7 y8 y9 y10 y11 y12 y13 y14 : Nat) {S : STy} {X : Int × Int × Int × Int} (VI : INV S) (a : Int32) : Ct l D (TY cI cJ cZ) yX8_count cX8_count 4 (some .int) 0 0 0 0 [.ref y0, .int a] (WM cI cJ cZ y0 y1 y2 y3 y4 y5 y6 y7 y8 y9 y10 y11 y12 y13 y14 S X) (fun r w => ∃ X2 : Int × Int × Int × Int, r = some (.int (fCount a S).1) ∧ w = (WM cI cJ cZ y0 y1 y2 y3 y4 y5 y6 y7 y8 y9 y10 y11 y12 y13 y14 (fCount a S).2 X2)) := by
  obtain ⟨th, sd, tp, n, sc, sp, px, py, pl, pk, N, M, ls, lv, lx, ly, ab, bl, tn⟩ := S
  obtain ⟨wo, si, t1, t2⟩ := X
  exact c_X8_count y0 y1 y2 y3 y4 y5 y6 y7 y8 y9 y10 y11 y12 y13 y14 th sd tp n sc sp px py pl pk N M ls lv lx ly ab bl tn wo si t1 t2 a VI
end LW
section LV
variable {p : Program} {l : Launch} {e : Env} {R : Room} {s : State} {m : MethodId} {args : Array Value} {below : List Frame} {meth : Method} {c : Code} {D : va_G} {A : Nat → Prop} {nL cells slots : Nat} {Q : State → Prop}
variable {cc : ByteArray} {own : String} {fr lo : Nat} {pc q : Nat} {lv : List (Nat × Value)} {st rest : List Value} {cI cJ cZ : ClassId}
set_option maxHeartbeats 4000000 in
set_option maxRecDepth 100000 in
theorem v_lawC (F : Fx p s m args c cc own D (TY cI cJ cZ) A nL fr lo R) {z g ga gb gc h ha hb hc hd o oa ob oc od ca m0 ma mb mc v0 t ta tb : Nat} {y0 y1 y2 y3 y4 y5 y6 y7 y8 y9 y10 y11 y12 y13 y14 : Nat} {As : List Value} {y : MethodName} {cc' : ByteArray} {maxL fr' lo' np : Nat} {ret : Option FieldType} {index : Nat} (k1 : Cond.methodLink own index y ∈ ALL) (k2 : Cond.instanceMethod y ∈ ALL) (k3 : Cond.selects y.cls y y ∈ ALL) (k4 : Cond.initialized y.cls ∈ ALL) (k5 : Cond.code y cc' maxL ret ∈ ALL) (hy : y.cls ≠ "java/lang/invoke/MethodHandle" ∧ y.cls ≠ "java/lang/invoke/VarHandle" ∧ (parseMethodDescriptor y.desc).map (fun d => d.parameters.length) = some np) (hcl : y.cls = RX7) {S S1 S2 : STy} {X : SXy} {Y : Int × Int × Int × Int} {v : Value} (hM : ∀ sz : Nat, sz = sz → Ct l D (TY cI cJ cZ) y cc' maxL ret fr' lo' 0 0 (.ref z :: As) (WC cI cJ z g ga gb gc h ha hb hc hd o oa ob oc od ca m0 ma mb mc v0 t ta tb S X) (fun r w => ∃ X2 : SXy, r = some v ∧ w = (WC cI cJ z g ga gb gc h ha hb hc hd o oa ob oc od ca m0 ma mb mc v0 t ta tb S2 X2))) (hcs : cells ≤ R.cells ∧ slots ≤ R.slots) (hfr : fr' + 1 ≤ fr) (hlo : 8 + (maxL + 11) + lo' ≤ lo) (hnp : As.length = np) (hst : st = As.reverse ++ .ref z :: rest) (hW : (rest.map fun v => v.category).sum ≤ 8) (hdc : decode cc pc = .ok (.invokevirtual index, 3)) (hq : pc + 3 = q) (kk : ∀ X2 : SXy, V p l e R s m args below meth c D A nL cells slots Q q lv (v :: rest) ((WC cI cJ z g ga gb gc h ha hb hc hd o oa ob oc od ca m0 ma mb mc v0 t ta tb S2 X2) ++ (WM cI cJ cZ y0 y1 y2 y3 y4 y5 y6 y7 y8 y9 y10 y11 y12 y13 y14 S1 Y))) : V p l e R s m args below meth c D A nL cells slots Q pc lv st ((WC cI cJ z g ga gb gc h ha hb hc hd o oa ob oc od ca m0 ma mb mc v0 t ta tb S X) ++ (WM cI cJ cZ y0 y1 y2 y3 y4 y5 y6 y7 y8 y9 y10 y11 y12 y13 y14 S1 Y)) := by
  obtain ⟨th, sd, tp, n, sc, sp, px, py, pl, pk, N, M, ls, lv, lx, ly, ab, bl, tn⟩ := S
  obtain ⟨w1, w2, w3, w4, w5, w6, de, cw, cp, cq, pu, be, nr, dp0, b0, lf0, mo0, us0⟩ := X
  obtain ⟨th1, sd1, tp1, n1, sc1, sp1, px1, py1, pl1, pk1, N1, M1, ls1, lv1, lx1, ly1, ab1, bl1, tn1⟩ := S1
  obtain ⟨wo, si, t1, t2⟩ := Y
  obtain ⟨th2, sd2, tp2, n2, sc2, sp2, px2, py2, pl2, pk2, N2, M2, ls2, lv2, lx2, ly2, ab2, bl2, tn2⟩ := S2
  refine v_callV F k1 k2 k3 k4 k5 hy (hM 0 rfl) hcs hfr hlo 0 (As := As) rfl hnp rfl rfl hcl.symm [0, 1, 2, 3, 4, 5, 6, 7, 8, 9, 10, 11, 12, 13, 14, 15, 16, 17, 18, 19, 20, 21, 22, 23] rfl nd24 vnd24 hst hW hdc hq (fun r w hr => ?_)
  obtain ⟨⟨v1, v2, v3, v4, v5, v6, de2, cw2, cp2, cq2, pu2, be2, nr2, dp2, b2, lf2, mo2, us2⟩, rfl, rfl⟩ := hr
  exact v_ws ((wset_wgo (nodup_of nd24) rfl).trans rfl) (kk (v1, v2, v3, v4, v5, v6, de2, cw2, cp2, cq2, pu2, be2, nr2, dp2, b2, lf2, mo2, us2))
set_option maxHeartbeats 4000000 in
set_option maxRecDepth 100000 in
theorem v_lawM (F : Fx p s m args c cc own D (TY cI cJ cZ) A nL fr lo R) {z g ga gb gc h ha hb hc hd o oa ob oc od ca m0 ma mb mc v0 t ta tb : Nat} {y0 y1 y2 y3 y4 y5 y6 y7 y8 y9 y10 y11 y12 y13 y14 : Nat} {As : List Value} {y : MethodName} {cc' : ByteArray} {maxL fr' lo' np : Nat} {ret : Option FieldType} {index : Nat} (k1 : Cond.methodLink own index y ∈ ALL) (k2 : Cond.instanceMethod y ∈ ALL) (k3 : Cond.selects y.cls y y ∈ ALL) (k4 : Cond.initialized y.cls ∈ ALL) (k5 : Cond.code y cc' maxL ret ∈ ALL) (hy : y.cls ≠ "java/lang/invoke/MethodHandle" ∧ y.cls ≠ "java/lang/invoke/VarHandle" ∧ (parseMethodDescriptor y.desc).map (fun d => d.parameters.length) = some np) (hcl : y.cls = RX8) {S S1 S2 : STy} {X : SXy} {Y : Int × Int × Int × Int} {v : Value} (hM : ∀ sz : Nat, sz = sz → Ct l D (TY cI cJ cZ) y cc' maxL ret fr' lo' 0 0 (.ref y0 :: As) (WM cI cJ cZ y0 y1 y2 y3 y4 y5 y6 y7 y8 y9 y10 y11 y12 y13 y14 S Y) (fun r w => ∃ X2 : Int × Int × Int × Int, r = some v ∧ w = (WM cI cJ cZ y0 y1 y2 y3 y4 y5 y6 y7 y8 y9 y10 y11 y12 y13 y14 S2 X2))) (hcs : cells ≤ R.cells ∧ slots ≤ R.slots) (hfr : fr' + 1 ≤ fr) (hlo : 8 + (maxL + 11) + lo' ≤ lo) (hnp : As.length = np) (hst : st = As.reverse ++ .ref y0 :: rest) (hW : (rest.map fun v => v.category).sum ≤ 8) (hdc : decode cc pc = .ok (.invokevirtual index, 3)) (hq : pc + 3 = q) (kk : ∀ X2 : Int × Int × Int × Int, V p l e R s m args below meth c D A nL cells slots Q q lv (v :: rest) ((WC cI cJ z g ga gb gc h ha hb hc hd o oa ob oc od ca m0 ma mb mc v0 t ta tb S1 X) ++ (WM cI cJ cZ y0 y1 y2 y3 y4 y5 y6 y7 y8 y9 y10 y11 y12 y13 y14 S2 X2))) : V p l e R s m args below meth c D A nL cells slots Q pc lv st ((WC cI cJ z g ga gb gc h ha hb hc hd o oa ob oc od ca m0 ma mb mc v0 t ta tb S1 X) ++ (WM cI cJ cZ y0 y1 y2 y3 y4 y5 y6 y7 y8 y9 y10 y11 y12 y13 y14 S Y)) := by
  obtain ⟨th, sd, tp, n, sc, sp, px, py, pl, pk, N, M, ls, lv, lx, ly, ab, bl, tn⟩ := S
  obtain ⟨w1, w2, w3, w4, w5, w6, de, cw, cp, cq, pu, be, nr, dp0, b0, lf0, mo0, us0⟩ := X
  obtain ⟨th1, sd1, tp1, n1, sc1, sp1, px1, py1, pl1, pk1, N1, M1, ls1, lv1, lx1, ly1, ab1, bl1, tn1⟩ := S1
  obtain ⟨wo, si, t1, t2⟩ := Y
  obtain ⟨th2, sd2, tp2, n2, sc2, sp2, px2, py2, pl2, pk2, N2, M2, ls2, lv2, lx2, ly2, ab2, bl2, tn2⟩ := S2
  refine v_callV F k1 k2 k3 k4 k5 hy (hM 0 rfl) hcs hfr hlo 24 (As := As) rfl hnp rfl rfl hcl.symm [24, 25, 26, 27, 28, 29, 30, 31, 32, 33, 34, 35, 36, 37, 38] rfl nd15b vnd15b hst hW hdc hq (fun r w hr => ?_)
  obtain ⟨⟨wo2, si2, u1, u2⟩, rfl, rfl⟩ := hr
  exact v_ws ((wset_wgo (nodup_of nd15b) rfl).trans rfl) (kk (wo2, si2, u1, u2))
theorem v_sld (F : Fx p s m args c cc own D (TY cI cJ cZ) A nL fr lo R) {b L : Nat} {xs : Nat → Int32} {ws : va_W} (hX : va_X b L xs s s.heap) (hbl : b < s.heap.size) (hbA : ¬ A b) {j : Nat} (hj : j < L) (hj2 : j < 2 ^ 31) (hd : decode cc pc = .ok (.iaload, 1)) (hq : pc + 1 = q) (k : V p l e R s m args below meth c D A nL cells slots Q q lv (.int (xs j) :: st) ws) : V p l e R s m args below meth c D A nL cells slots Q pc lv (.int (nI j) :: .ref b :: st) ws := by
  subst hq
  have e : (nI j).toNatClampNeg = j := by
    show (nI j).toInt.toNat = j
    rw [nI_toInt hj2]; rfl
  intro H locs ls hP hD hS hl
  refine va_sld F.1 F.2.1 hX hbl hbA hS (i := nI j) ?_ hd ?_
  · intro h
    rcases h with h | h
    · rw [Int32.lt_iff_toInt_lt, nI_toInt hj2] at h
      rw [show ((0 : Int32)).toInt = 0 from rfl] at h
      omega
    · rw [e] at h; omega
  · rw [e]
    exact k H locs ls hP hD hS hl
theorem v_slen (F : Fx p s m args c cc own D (TY cI cJ cZ) A nL fr lo R) {b L : Nat} {xs : Nat → Int32} {ws : va_W} (hX : va_X b L xs s s.heap) (hbl : b < s.heap.size) (hbA : ¬ A b) (hd : decode cc pc = .ok (.arraylength, 1)) (hq : pc + 1 = q) (k : V p l e R s m args below meth c D A nL cells slots Q q lv (.int (nI L) :: st) ws) : V p l e R s m args below meth c D A nL cells slots Q pc lv (.ref b :: st) ws := by
  subst hq
  exact fun H locs ls hP hD hS hl => va_slen F.1 F.2.1 hX hbl hbA hS hd (k H locs ls hP hD hS hl)
theorem v_arg (F : Fx p s m args c cc own D (TY cI cJ cZ) A nL fr lo R) {b L i z y : Nat} {xs : Nat → Int32} {ws : va_W} (hX : va_X b L xs s s.heap) (hbl : b < s.heap.size) (hbA : ¬ A b) {j : Nat} {n0 : Int} (hn0 : Int32.ofInt n0 = nI j) (hj : i + j < L) (hj2 : i + j < 2 ^ 31) (h0 : decode cc pc = .ok (.aload_n 0, 1)) (h1 : decode cc (pc + 1) = .ok (.iload_n 3, 1)) (h2 : decode cc (pc + 2) = .ok (.iconst n0, 1)) (h3 : decode cc (pc + 3) = .ok (.iadd, 1)) (h4 : decode cc (pc + 4) = .ok (.iaload, 1)) (hq : pc + 5 = q)
    (k : V p l e R s m args below meth c D A nL cells slots Q q [(0, .ref b), (1, .ref z), (2, .ref y), (3, .int (nI i))] (.int (xs (i + j)) :: st) ws) : V p l e R s m args below meth c D A nL cells slots Q pc [(0, .ref b), (1, .ref z), (2, .ref y), (3, .int (nI i))] st ws := by
  refine v_aload_n F h0 (i := 0) rfl 0 rfl (q := pc + 1) rfl ?_
  refine v_iload_n F h1 (i := 3) rfl 3 rfl (q := pc + 2) rfl ?_
  refine v_iconst F h2 (v := nI j) hn0 (q := pc + 3) rfl ?_
  refine v_iadd F h3 (q := pc + 4) rfl ?_
  refine v_int (y := nI (i + j)) (nI_add i j) ?_
  exact v_sld F hX hbl hbA hj hj2 h4 hq k
end LV
