set_option maxHeartbeats 4000000 in
theorem okz_fcA_latestTime {g : Nat → Int32} {u : g_S} (I : IC g u) (h0 : (u.1 0).toInt = 0) : okk (fcA_latestTime u) (fun r => (r.toInt = 0)) := by
  unfold fcA_latestTime
  have z1_ := IC_s I
  try have t3_ : (0 : Int32).toInt = (0 : Int) := (by decide : (0 : Int32).toInt = 0)
  refine okk_ne (fun c2_ c2_I => ?_) (fun c2_ c2_I => ?_)
  · have t4_ : ((u.1 0) - (1 : Int32)).toInt = ((u.1 0).toInt - (1 : Int)) := (oi_sub (a := (u.1 0)) (b := (1 : Int32)) rfl (by decide : (1 : Int32).toInt = 1) (by omega) (by omega))
    refine okk_ck (vp_I (by omega) (by omega)) ?_
    exact okk_some ((by show (u.2 12 ((u.1 0) - (1 : Int32)).toNatClampNeg).toInt = 0; omega))
  · exact okk_some ((by show (0 : Int32).toInt = 0; omega))
set_option maxHeartbeats 4000000 in
theorem okz_fcJ_needCallData {g : Nat → Int32} {u : g_S} (I : IC g u) {p1 : Int32} {p2 : Int32} {p3 : Int32} {p4 : Int32} {p5 : Int32} (h0 : (u.1 0).toInt = 0) (h1 : (u.1 1).toInt = 0) : okk (fcJ_needCallData u p1 p2 p3 p4 p5) (fun r => ((r = 1 ∧ ¬ ((0 ≤ p2.toInt ∧ p2.toInt ≤ 7) ∧ -1 ≤ p4.toInt ∧ p4.toInt ≤ 7)) ∨ (r = 2 ∧ ((0 ≤ p2.toInt ∧ p2.toInt ≤ 7) ∧ -1 ≤ p4.toInt ∧ p4.toInt ≤ 7) ∧ ¬ ((0 ≤ p1.toInt ∧ p1.toInt ≤ 999) ∧ (-1 ≤ p3.toInt ∧ p3.toInt ≤ 99999999) ∧ 0 ≤ p5.toInt)) ∨ (r = 0 ∧ ((0 ≤ p2.toInt ∧ p2.toInt ≤ 7) ∧ -1 ≤ p4.toInt ∧ p4.toInt ≤ 7) ∧ ((0 ≤ p1.toInt ∧ p1.toInt ≤ 999) ∧ (-1 ≤ p3.toInt ∧ p3.toInt ≤ 99999999) ∧ 0 ≤ p5.toInt)))) := by
  unfold fcJ_needCallData
  have z1_ := IC_s I
  try have t2_ : (8 : Int32).toInt = (8 : Int) := (by decide : (8 : Int32).toInt = 8)
  refine okk_isBelow (fun b3_ => ?_) (fun b3_ => ?_)
  · refine okk_bs (v := (0 : Nat)) (by decide) ?_
    refine okk_t (by decide) ?_
    try have t5_ : (-1 : Int32).toInt = (-1 : Int) := (by decide : (-1 : Int32).toInt = -1)
    refine okk_eq (fun c4_ c4_I => ?_) (fun c4_ c4_I => ?_)
    · unfold fcJ_needCallData_30
      refine okk_bs (v := (0 : Nat)) (by decide) ?_
      refine okk_t (by decide) ?_
      try have t6_ : (1000 : Int32).toInt = (1000 : Int) := (by decide : (1000 : Int32).toInt = 1000)
      refine okk_isBelow (fun b7_ => ?_) (fun b7_ => ?_)
      · refine okk_bs (v := (0 : Nat)) (by decide) ?_
        refine okk_t (by decide) ?_
        refine okk_eq (fun c8_ c8_I => ?_) (fun c8_ c8_I => ?_)
        · unfold fcJ_needCallData_62
          refine okk_bs (v := (0 : Nat)) (by decide) ?_
          refine okk_t (by decide) ?_
          refine okk_bi (okz_fcA_latestTime I (by omega)) (fun v9_ hv9_ => ?_)
          have p10_ := hv9_
          refine okk_lt (fun c11_ c11_I => ?_) (fun c11_ c11_I => ?_)
          · refine okk_bs (v := (2 : Nat)) (by decide) ?_
            refine okk_f (by decide) ?_
            exact okk_some ((by show (2 = 1 ∧ ¬ ((0 ≤ p2.toInt ∧ p2.toInt ≤ 7) ∧ -1 ≤ p4.toInt ∧ p4.toInt ≤ 7)) ∨ (2 = 2 ∧ ((0 ≤ p2.toInt ∧ p2.toInt ≤ 7) ∧ -1 ≤ p4.toInt ∧ p4.toInt ≤ 7) ∧ ¬ ((0 ≤ p1.toInt ∧ p1.toInt ≤ 999) ∧ (-1 ≤ p3.toInt ∧ p3.toInt ≤ 99999999) ∧ 0 ≤ p5.toInt)) ∨ (2 = 0 ∧ ((0 ≤ p2.toInt ∧ p2.toInt ≤ 7) ∧ -1 ≤ p4.toInt ∧ p4.toInt ≤ 7) ∧ ((0 ≤ p1.toInt ∧ p1.toInt ≤ 999) ∧ (-1 ≤ p3.toInt ∧ p3.toInt ≤ 99999999) ∧ 0 ≤ p5.toInt)); omega))
          · refine okk_bs (v := (0 : Nat)) (by decide) ?_
            refine okk_t (by decide) ?_
            exact okk_some ((by show (0 = 1 ∧ ¬ ((0 ≤ p2.toInt ∧ p2.toInt ≤ 7) ∧ -1 ≤ p4.toInt ∧ p4.toInt ≤ 7)) ∨ (0 = 2 ∧ ((0 ≤ p2.toInt ∧ p2.toInt ≤ 7) ∧ -1 ≤ p4.toInt ∧ p4.toInt ≤ 7) ∧ ¬ ((0 ≤ p1.toInt ∧ p1.toInt ≤ 999) ∧ (-1 ≤ p3.toInt ∧ p3.toInt ≤ 99999999) ∧ 0 ≤ p5.toInt)) ∨ (0 = 0 ∧ ((0 ≤ p2.toInt ∧ p2.toInt ≤ 7) ∧ -1 ≤ p4.toInt ∧ p4.toInt ≤ 7) ∧ ((0 ≤ p1.toInt ∧ p1.toInt ≤ 999) ∧ (-1 ≤ p3.toInt ∧ p3.toInt ≤ 99999999) ∧ 0 ≤ p5.toInt)); omega))
        · try have t12_ : (100000000 : Int32).toInt = (100000000 : Int) := (by decide : (100000000 : Int32).toInt = 100000000)
          refine okk_isBelow (fun b13_ => ?_) (fun b13_ => ?_)
          · refine okk_f (by decide) ?_
            unfold fcJ_needCallData_62
            refine okk_bs (v := (0 : Nat)) (by decide) ?_
            refine okk_t (by decide) ?_
            refine okk_bi (okz_fcA_latestTime I (by omega)) (fun v14_ hv14_ => ?_)
            have p15_ := hv14_
            refine okk_lt (fun c16_ c16_I => ?_) (fun c16_ c16_I => ?_)
            · refine okk_bs (v := (2 : Nat)) (by decide) ?_
              refine okk_f (by decide) ?_
              exact okk_some ((by show (2 = 1 ∧ ¬ ((0 ≤ p2.toInt ∧ p2.toInt ≤ 7) ∧ -1 ≤ p4.toInt ∧ p4.toInt ≤ 7)) ∨ (2 = 2 ∧ ((0 ≤ p2.toInt ∧ p2.toInt ≤ 7) ∧ -1 ≤ p4.toInt ∧ p4.toInt ≤ 7) ∧ ¬ ((0 ≤ p1.toInt ∧ p1.toInt ≤ 999) ∧ (-1 ≤ p3.toInt ∧ p3.toInt ≤ 99999999) ∧ 0 ≤ p5.toInt)) ∨ (2 = 0 ∧ ((0 ≤ p2.toInt ∧ p2.toInt ≤ 7) ∧ -1 ≤ p4.toInt ∧ p4.toInt ≤ 7) ∧ ((0 ≤ p1.toInt ∧ p1.toInt ≤ 999) ∧ (-1 ≤ p3.toInt ∧ p3.toInt ≤ 99999999) ∧ 0 ≤ p5.toInt)); omega))
            · refine okk_bs (v := (0 : Nat)) (by decide) ?_
              refine okk_t (by decide) ?_
              exact okk_some ((by show (0 = 1 ∧ ¬ ((0 ≤ p2.toInt ∧ p2.toInt ≤ 7) ∧ -1 ≤ p4.toInt ∧ p4.toInt ≤ 7)) ∨ (0 = 2 ∧ ((0 ≤ p2.toInt ∧ p2.toInt ≤ 7) ∧ -1 ≤ p4.toInt ∧ p4.toInt ≤ 7) ∧ ¬ ((0 ≤ p1.toInt ∧ p1.toInt ≤ 999) ∧ (-1 ≤ p3.toInt ∧ p3.toInt ≤ 99999999) ∧ 0 ≤ p5.toInt)) ∨ (0 = 0 ∧ ((0 ≤ p2.toInt ∧ p2.toInt ≤ 7) ∧ -1 ≤ p4.toInt ∧ p4.toInt ≤ 7) ∧ ((0 ≤ p1.toInt ∧ p1.toInt ≤ 999) ∧ (-1 ≤ p3.toInt ∧ p3.toInt ≤ 99999999) ∧ 0 ≤ p5.toInt)); omega))
          · refine okk_t (by decide) ?_
            unfold fcJ_needCallData_62
            refine okk_bs (v := (2 : Nat)) (by decide) ?_
            refine okk_f (by decide) ?_
            exact okk_some ((by show (2 = 1 ∧ ¬ ((0 ≤ p2.toInt ∧ p2.toInt ≤ 7) ∧ -1 ≤ p4.toInt ∧ p4.toInt ≤ 7)) ∨ (2 = 2 ∧ ((0 ≤ p2.toInt ∧ p2.toInt ≤ 7) ∧ -1 ≤ p4.toInt ∧ p4.toInt ≤ 7) ∧ ¬ ((0 ≤ p1.toInt ∧ p1.toInt ≤ 999) ∧ (-1 ≤ p3.toInt ∧ p3.toInt ≤ 99999999) ∧ 0 ≤ p5.toInt)) ∨ (2 = 0 ∧ ((0 ≤ p2.toInt ∧ p2.toInt ≤ 7) ∧ -1 ≤ p4.toInt ∧ p4.toInt ≤ 7) ∧ ((0 ≤ p1.toInt ∧ p1.toInt ≤ 999) ∧ (-1 ≤ p3.toInt ∧ p3.toInt ≤ 99999999) ∧ 0 ≤ p5.toInt)); omega))
      · refine okk_bs (v := (2 : Nat)) (by decide) ?_
        refine okk_f (by decide) ?_
        exact okk_some ((by show (2 = 1 ∧ ¬ ((0 ≤ p2.toInt ∧ p2.toInt ≤ 7) ∧ -1 ≤ p4.toInt ∧ p4.toInt ≤ 7)) ∨ (2 = 2 ∧ ((0 ≤ p2.toInt ∧ p2.toInt ≤ 7) ∧ -1 ≤ p4.toInt ∧ p4.toInt ≤ 7) ∧ ¬ ((0 ≤ p1.toInt ∧ p1.toInt ≤ 999) ∧ (-1 ≤ p3.toInt ∧ p3.toInt ≤ 99999999) ∧ 0 ≤ p5.toInt)) ∨ (2 = 0 ∧ ((0 ≤ p2.toInt ∧ p2.toInt ≤ 7) ∧ -1 ≤ p4.toInt ∧ p4.toInt ≤ 7) ∧ ((0 ≤ p1.toInt ∧ p1.toInt ≤ 999) ∧ (-1 ≤ p3.toInt ∧ p3.toInt ≤ 99999999) ∧ 0 ≤ p5.toInt)); omega))
    · refine okk_isBelow (fun b17_ => ?_) (fun b17_ => ?_)
      · refine okk_f (by decide) ?_
        unfold fcJ_needCallData_30
        refine okk_bs (v := (0 : Nat)) (by decide) ?_
        refine okk_t (by decide) ?_
        try have t18_ : (1000 : Int32).toInt = (1000 : Int) := (by decide : (1000 : Int32).toInt = 1000)
        refine okk_isBelow (fun b19_ => ?_) (fun b19_ => ?_)
        · refine okk_bs (v := (0 : Nat)) (by decide) ?_
          refine okk_t (by decide) ?_
          refine okk_eq (fun c20_ c20_I => ?_) (fun c20_ c20_I => ?_)
          · unfold fcJ_needCallData_62
            refine okk_bs (v := (0 : Nat)) (by decide) ?_
            refine okk_t (by decide) ?_
            refine okk_bi (okz_fcA_latestTime I (by omega)) (fun v21_ hv21_ => ?_)
            have p22_ := hv21_
            refine okk_lt (fun c23_ c23_I => ?_) (fun c23_ c23_I => ?_)
            · refine okk_bs (v := (2 : Nat)) (by decide) ?_
              refine okk_f (by decide) ?_
              exact okk_some ((by show (2 = 1 ∧ ¬ ((0 ≤ p2.toInt ∧ p2.toInt ≤ 7) ∧ -1 ≤ p4.toInt ∧ p4.toInt ≤ 7)) ∨ (2 = 2 ∧ ((0 ≤ p2.toInt ∧ p2.toInt ≤ 7) ∧ -1 ≤ p4.toInt ∧ p4.toInt ≤ 7) ∧ ¬ ((0 ≤ p1.toInt ∧ p1.toInt ≤ 999) ∧ (-1 ≤ p3.toInt ∧ p3.toInt ≤ 99999999) ∧ 0 ≤ p5.toInt)) ∨ (2 = 0 ∧ ((0 ≤ p2.toInt ∧ p2.toInt ≤ 7) ∧ -1 ≤ p4.toInt ∧ p4.toInt ≤ 7) ∧ ((0 ≤ p1.toInt ∧ p1.toInt ≤ 999) ∧ (-1 ≤ p3.toInt ∧ p3.toInt ≤ 99999999) ∧ 0 ≤ p5.toInt)); omega))
            · refine okk_bs (v := (0 : Nat)) (by decide) ?_
              refine okk_t (by decide) ?_
              exact okk_some ((by show (0 = 1 ∧ ¬ ((0 ≤ p2.toInt ∧ p2.toInt ≤ 7) ∧ -1 ≤ p4.toInt ∧ p4.toInt ≤ 7)) ∨ (0 = 2 ∧ ((0 ≤ p2.toInt ∧ p2.toInt ≤ 7) ∧ -1 ≤ p4.toInt ∧ p4.toInt ≤ 7) ∧ ¬ ((0 ≤ p1.toInt ∧ p1.toInt ≤ 999) ∧ (-1 ≤ p3.toInt ∧ p3.toInt ≤ 99999999) ∧ 0 ≤ p5.toInt)) ∨ (0 = 0 ∧ ((0 ≤ p2.toInt ∧ p2.toInt ≤ 7) ∧ -1 ≤ p4.toInt ∧ p4.toInt ≤ 7) ∧ ((0 ≤ p1.toInt ∧ p1.toInt ≤ 999) ∧ (-1 ≤ p3.toInt ∧ p3.toInt ≤ 99999999) ∧ 0 ≤ p5.toInt)); omega))
          · try have t24_ : (100000000 : Int32).toInt = (100000000 : Int) := (by decide : (100000000 : Int32).toInt = 100000000)
            refine okk_isBelow (fun b25_ => ?_) (fun b25_ => ?_)
            · refine okk_f (by decide) ?_
              unfold fcJ_needCallData_62
              refine okk_bs (v := (0 : Nat)) (by decide) ?_
              refine okk_t (by decide) ?_
              refine okk_bi (okz_fcA_latestTime I (by omega)) (fun v26_ hv26_ => ?_)
              have p27_ := hv26_
              refine okk_lt (fun c28_ c28_I => ?_) (fun c28_ c28_I => ?_)
              · refine okk_bs (v := (2 : Nat)) (by decide) ?_
                refine okk_f (by decide) ?_
                exact okk_some ((by show (2 = 1 ∧ ¬ ((0 ≤ p2.toInt ∧ p2.toInt ≤ 7) ∧ -1 ≤ p4.toInt ∧ p4.toInt ≤ 7)) ∨ (2 = 2 ∧ ((0 ≤ p2.toInt ∧ p2.toInt ≤ 7) ∧ -1 ≤ p4.toInt ∧ p4.toInt ≤ 7) ∧ ¬ ((0 ≤ p1.toInt ∧ p1.toInt ≤ 999) ∧ (-1 ≤ p3.toInt ∧ p3.toInt ≤ 99999999) ∧ 0 ≤ p5.toInt)) ∨ (2 = 0 ∧ ((0 ≤ p2.toInt ∧ p2.toInt ≤ 7) ∧ -1 ≤ p4.toInt ∧ p4.toInt ≤ 7) ∧ ((0 ≤ p1.toInt ∧ p1.toInt ≤ 999) ∧ (-1 ≤ p3.toInt ∧ p3.toInt ≤ 99999999) ∧ 0 ≤ p5.toInt)); omega))
              · refine okk_bs (v := (0 : Nat)) (by decide) ?_
                refine okk_t (by decide) ?_
                exact okk_some ((by show (0 = 1 ∧ ¬ ((0 ≤ p2.toInt ∧ p2.toInt ≤ 7) ∧ -1 ≤ p4.toInt ∧ p4.toInt ≤ 7)) ∨ (0 = 2 ∧ ((0 ≤ p2.toInt ∧ p2.toInt ≤ 7) ∧ -1 ≤ p4.toInt ∧ p4.toInt ≤ 7) ∧ ¬ ((0 ≤ p1.toInt ∧ p1.toInt ≤ 999) ∧ (-1 ≤ p3.toInt ∧ p3.toInt ≤ 99999999) ∧ 0 ≤ p5.toInt)) ∨ (0 = 0 ∧ ((0 ≤ p2.toInt ∧ p2.toInt ≤ 7) ∧ -1 ≤ p4.toInt ∧ p4.toInt ≤ 7) ∧ ((0 ≤ p1.toInt ∧ p1.toInt ≤ 999) ∧ (-1 ≤ p3.toInt ∧ p3.toInt ≤ 99999999) ∧ 0 ≤ p5.toInt)); omega))
            · refine okk_t (by decide) ?_
              unfold fcJ_needCallData_62
              refine okk_bs (v := (2 : Nat)) (by decide) ?_
              refine okk_f (by decide) ?_
              exact okk_some ((by show (2 = 1 ∧ ¬ ((0 ≤ p2.toInt ∧ p2.toInt ≤ 7) ∧ -1 ≤ p4.toInt ∧ p4.toInt ≤ 7)) ∨ (2 = 2 ∧ ((0 ≤ p2.toInt ∧ p2.toInt ≤ 7) ∧ -1 ≤ p4.toInt ∧ p4.toInt ≤ 7) ∧ ¬ ((0 ≤ p1.toInt ∧ p1.toInt ≤ 999) ∧ (-1 ≤ p3.toInt ∧ p3.toInt ≤ 99999999) ∧ 0 ≤ p5.toInt)) ∨ (2 = 0 ∧ ((0 ≤ p2.toInt ∧ p2.toInt ≤ 7) ∧ -1 ≤ p4.toInt ∧ p4.toInt ≤ 7) ∧ ((0 ≤ p1.toInt ∧ p1.toInt ≤ 999) ∧ (-1 ≤ p3.toInt ∧ p3.toInt ≤ 99999999) ∧ 0 ≤ p5.toInt)); omega))
        · refine okk_bs (v := (2 : Nat)) (by decide) ?_
          refine okk_f (by decide) ?_
          exact okk_some ((by show (2 = 1 ∧ ¬ ((0 ≤ p2.toInt ∧ p2.toInt ≤ 7) ∧ -1 ≤ p4.toInt ∧ p4.toInt ≤ 7)) ∨ (2 = 2 ∧ ((0 ≤ p2.toInt ∧ p2.toInt ≤ 7) ∧ -1 ≤ p4.toInt ∧ p4.toInt ≤ 7) ∧ ¬ ((0 ≤ p1.toInt ∧ p1.toInt ≤ 999) ∧ (-1 ≤ p3.toInt ∧ p3.toInt ≤ 99999999) ∧ 0 ≤ p5.toInt)) ∨ (2 = 0 ∧ ((0 ≤ p2.toInt ∧ p2.toInt ≤ 7) ∧ -1 ≤ p4.toInt ∧ p4.toInt ≤ 7) ∧ ((0 ≤ p1.toInt ∧ p1.toInt ≤ 999) ∧ (-1 ≤ p3.toInt ∧ p3.toInt ≤ 99999999) ∧ 0 ≤ p5.toInt)); omega))
      · refine okk_t (by decide) ?_
        unfold fcJ_needCallData_30
        refine okk_bs (v := (1 : Nat)) (by decide) ?_
        refine okk_f (by decide) ?_
        exact okk_some ((by show (1 = 1 ∧ ¬ ((0 ≤ p2.toInt ∧ p2.toInt ≤ 7) ∧ -1 ≤ p4.toInt ∧ p4.toInt ≤ 7)) ∨ (1 = 2 ∧ ((0 ≤ p2.toInt ∧ p2.toInt ≤ 7) ∧ -1 ≤ p4.toInt ∧ p4.toInt ≤ 7) ∧ ¬ ((0 ≤ p1.toInt ∧ p1.toInt ≤ 999) ∧ (-1 ≤ p3.toInt ∧ p3.toInt ≤ 99999999) ∧ 0 ≤ p5.toInt)) ∨ (1 = 0 ∧ ((0 ≤ p2.toInt ∧ p2.toInt ≤ 7) ∧ -1 ≤ p4.toInt ∧ p4.toInt ≤ 7) ∧ ((0 ≤ p1.toInt ∧ p1.toInt ≤ 999) ∧ (-1 ≤ p3.toInt ∧ p3.toInt ≤ 99999999) ∧ 0 ≤ p5.toInt)); omega))
  · refine okk_bs (v := (1 : Nat)) (by decide) ?_
    refine okk_f (by decide) ?_
    exact okk_some ((by show (1 = 1 ∧ ¬ ((0 ≤ p2.toInt ∧ p2.toInt ≤ 7) ∧ -1 ≤ p4.toInt ∧ p4.toInt ≤ 7)) ∨ (1 = 2 ∧ ((0 ≤ p2.toInt ∧ p2.toInt ≤ 7) ∧ -1 ≤ p4.toInt ∧ p4.toInt ≤ 7) ∧ ¬ ((0 ≤ p1.toInt ∧ p1.toInt ≤ 999) ∧ (-1 ≤ p3.toInt ∧ p3.toInt ≤ 99999999) ∧ 0 ≤ p5.toInt)) ∨ (1 = 0 ∧ ((0 ≤ p2.toInt ∧ p2.toInt ≤ 7) ∧ -1 ≤ p4.toInt ∧ p4.toInt ≤ 7) ∧ ((0 ≤ p1.toInt ∧ p1.toInt ≤ 999) ∧ (-1 ≤ p3.toInt ∧ p3.toInt ≤ 99999999) ∧ 0 ≤ p5.toInt)); omega))
set_option maxHeartbeats 4000000 in
theorem okz_fcJ_mark {g : Nat → Int32} {u : g_S} (I : IC g u) {p1 : Int32} {p2 : Int32} (h0 : (u.1 0).toInt = 0) (h1 : (u.1 1).toInt = 0) : okk (fcJ_mark u p1 p2) (fun r => (r.1 = 1)) := by
  unfold fcJ_mark
  have z1_ := IC_s I
  refine okk_isBelow (fun b2_ => ?_) (fun b2_ => ?_)
  · refine okk_bs (v := (0 : Nat)) (by decide) ?_
    refine okk_t (by decide) ?_
    try have t3_ : (8 : Int32).toInt = (8 : Int) := (by decide : (8 : Int32).toInt = 8)
    refine okk_isBelow (fun b4_ => ?_) (fun b4_ => ?_)
    · refine okk_bs (v := (0 : Nat)) (by decide) ?_
      refine okk_t (by decide) ?_
      refine okk_ck (vp_I (by omega) (by omega)) ?_
      refine okk_gl (fun u55_ eu55_ => ?_)
      have Iu55_ : IC g u55_ := by rw [eu55_]; exact IC_wx I 16 _ _ rfl rfl (by decide)
      have z6_ : (u55_.1 0).toInt = (u.1 0).toInt := by rw [eu55_]; rfl
      have z7_ : (u55_.1 1).toInt = (u.1 1).toInt := by rw [eu55_]; rfl
      exact okk_some ((by show 0 = 1; omega))
    · refine okk_bs (v := (2 : Nat)) (by decide) ?_
      refine okk_f (by decide) ?_
      exact okk_some ((by show 2 = 1; omega))
  · refine okk_bs (v := (1 : Nat)) (by decide) ?_
    refine okk_f (by decide) ?_
    exact okk_some ((by show 1 = 1; omega))
set_option maxHeartbeats 4000000 in
theorem okz_fcJ_split {g : Nat → Int32} {u : g_S} (I : IC g u) {p1 : Int32} (h0 : (u.1 0).toInt = 0) (h1 : (u.1 1).toInt = 0) : okk (fcJ_split u p1) (fun r => (r.1 = 1)) := by
  unfold fcJ_split
  have z1_ := IC_s I
  refine okk_isBelow (fun b2_ => ?_) (fun b2_ => ?_)
  · refine okk_bs (v := (0 : Nat)) (by decide) ?_
    refine okk_t (by decide) ?_
    refine okk_ck (vp_I (by omega) (by omega)) ?_
    have r4_ := IC_r14 I p1.toNatClampNeg
    try have t5_ : (-1 : Int32).toInt = (-1 : Int) := (by decide : (-1 : Int32).toInt = -1)
    refine okk_eq (fun c3_ c3_I => ?_) (fun c3_ c3_I => ?_)
    · unfold fcJ_split_40
      refine okk_bs (v := (3 : Nat)) (by decide) ?_
      refine okk_f (by decide) ?_
      try have t6_ : (0 : Int32).toInt = (0 : Int) := (by decide : (0 : Int32).toInt = 0)
      exact okk_some ((by show 3 = 1; omega))
    · refine okk_bi (okk_fcJ_isInOpenEvent I (by omega) (by omega)) (fun v7_ hv7_ => ?_)
      have p8_ := hv7_
      try have t10_ : (0 : Int32).toInt = (0 : Int) := (by decide : (0 : Int32).toInt = 0)
      refine okk_eq (fun c9_ c9_I => ?_) (fun c9_ c9_I => ?_)
      · unfold fcJ_split_40
        refine okk_bs (v := (3 : Nat)) (by decide) ?_
        refine okk_f (by decide) ?_
        exact okk_some ((by show 3 = 1; omega))
      · unfold fcJ_split_40
        refine okk_bs (v := (0 : Nat)) (by decide) ?_
        refine okk_t (by decide) ?_
        try have t12_ : (60 : Int32).toInt = (60 : Int) := (by decide : (60 : Int32).toInt = 60)
        refine okk_le (fun c11_ c11_I => ?_) (fun c11_ c11_I => ?_)
        · unfold fcJ_split_60
          refine okk_bs (v := (4 : Nat)) (by decide) ?_
          refine okk_f (by decide) ?_
          exact okk_some ((by show 4 = 1; omega))
        · unfold fcJ_split_60
          refine okk_bs (v := (0 : Nat)) (by decide) ?_
          refine okk_t (by decide) ?_
          refine okk_ck (vp_I (by omega) (by omega)) ?_
          have r13_ := IC_r8 I p1.toNatClampNeg
          refine okk_bi (okk_fcE_begin I (by omega) (by omega) (by omega) (by omega) (by omega)) (fun v14_ hv14_ => ?_)
          obtain ⟨p15_, p16_, p17_, p18_⟩ := hv14_
          have z19_ := IC_s p15_
          refine okk_bi (okk_fcA_moveBranch p15_ (by omega) (by omega)) (fun v20_ hv20_ => ?_)
          obtain ⟨p21_, p22_, p23_⟩ := hv20_
          refine okk_ck (vp_I (by omega) (by omega)) ?_
          refine okk_gl (fun u724_ eu724_ => ?_)
          have Iu724_ : IC g u724_ := by rw [eu724_]; exact IC_v14 p21_ _ _ (by omega) (by omega)
          have z25_ : (u724_.1 0).toInt = (v20_.1 0).toInt := by rw [eu724_]; rfl
          have z26_ : (u724_.1 1).toInt = (v20_.1 1).toInt := by rw [eu724_]; rfl
          refine okk_ck (vp_I (by omega) (by omega)) ?_
          refine okk_gl (fun u827_ eu827_ => ?_)
          have Iu827_ : IC g u827_ := by rw [eu827_]; exact IC_wx Iu724_ 15 _ _ rfl rfl (by decide)
          have z28_ : (u827_.1 0).toInt = (u724_.1 0).toInt := by rw [eu827_]; rfl
          have z29_ : (u827_.1 1).toInt = (u724_.1 1).toInt := by rw [eu827_]; rfl
          exact okk_some ((by show 0 = 1; omega))
  · refine okk_bs (v := (1 : Nat)) (by decide) ?_
    refine okk_f (by decide) ?_
    try have t30_ : (0 : Int32).toInt = (0 : Int) := (by decide : (0 : Int32).toInt = 0)
    exact okk_some ((by show 1 = 1; omega))
set_option maxHeartbeats 4000000 in
theorem okz_fcJ_merge {g : Nat → Int32} {u : g_S} (I : IC g u) {p1 : Int32} {p2 : Int32} (h0 : (u.1 0).toInt = 0) (h1 : (u.1 1).toInt = 0) : okk (fcJ_merge u p1 p2) (fun r => (r.1 = 1)) := by
  unfold fcJ_merge
  have z1_ := IC_s I
  refine okk_isBelow (fun b2_ => ?_) (fun b2_ => ?_)
  · refine okk_f (by decide) ?_
    refine okk_isBelow (fun b3_ => ?_) (fun b3_ => ?_)
    · refine okk_f (by decide) ?_
      unfold fcJ_merge_33
      refine okk_bs (v := (0 : Nat)) (by decide) ?_
      refine okk_t (by decide) ?_
      refine okk_ck (vp_I (by omega) (by omega)) ?_
      have r5_ := IC_r13 I p2.toNatClampNeg
      refine okk_gl (fun w34_ ew34_ => ?_)
      have t6_ : w34_.toInt = (u.2 13 p2.toNatClampNeg).toInt := by rw [ew34_]
      refine okk_ck (vp_I (by omega) (by omega)) ?_
      try have t8_ : (0 : Int32).toInt = (0 : Int) := (by decide : (0 : Int32).toInt = 0)
      refine okk_ne (fun c7_ c7_I => ?_) (fun c7_ c7_I => ?_)
      · unfold fcJ_merge_80
        refine okk_bs (v := (3 : Nat)) (by decide) ?_
        refine okk_f (by decide) ?_
        exact okk_some ((by show 3 = 1; omega))
      · refine okk_ck (vp_I (by omega) (by omega)) ?_
        refine okk_ne (fun c9_ c9_I => ?_) (fun c9_ c9_I => ?_)
        · unfold fcJ_merge_80
          refine okk_bs (v := (3 : Nat)) (by decide) ?_
          refine okk_f (by decide) ?_
          exact okk_some ((by show 3 = 1; omega))
        · refine okk_eq (fun c10_ c10_I => ?_) (fun c10_ c10_I => ?_)
          · unfold fcJ_merge_80
            refine okk_bs (v := (3 : Nat)) (by decide) ?_
            refine okk_f (by decide) ?_
            exact okk_some ((by show 3 = 1; omega))
          · unfold fcJ_merge_80
            refine okk_bs (v := (0 : Nat)) (by decide) ?_
            refine okk_t (by decide) ?_
            refine okk_ck (vp_I (by omega) (by omega)) ?_
            have r12_ := IC_r19 I p1.toNatClampNeg
            have r13_ := IC_f I p1.toNatClampNeg (Or.inl (by rw [c7_]; decide))
            refine okk_gl (fun w511_ ew511_ => ?_)
            have t14_ : w511_.toInt = (u.2 19 p1.toNatClampNeg).toInt := by rw [ew511_]
            refine okk_ck (vp_I (by omega) (by omega)) ?_
            refine okk_gl (fun u615_ eu615_ => ?_)
            have Iu615_ : IC g u615_ := by rw [eu615_]; exact IC_v14 I _ _ (by omega) (by omega)
            have z16_ : (u615_.1 0).toInt = (u.1 0).toInt := by rw [eu615_]; rfl
            have z17_ : (u615_.1 1).toInt = (u.1 1).toInt := by rw [eu615_]; rfl
            refine okk_ck (vp_I (by omega) (by omega)) ?_
            have t19_ : (5 : Int32).toInt = (5 : Int) := (by decide : (5 : Int32).toInt = 5)
            refine okk_gl (fun u718_ eu718_ => ?_)
            have Iu718_ : IC g u718_ := by rw [eu718_]; exact IC_wx Iu615_ 15 _ _ rfl rfl (by decide)
            have z20_ : (u718_.1 0).toInt = (u615_.1 0).toInt := by rw [eu718_]; rfl
            have z21_ : (u718_.1 1).toInt = (u615_.1 1).toInt := by rw [eu718_]; rfl
            have z22_ := IC_s Iu718_
            refine okk_bi (okk_fcA_moveAll Iu718_ (by omega) (by omega)) (fun v23_ hv23_ => ?_)
            obtain ⟨p24_, p25_, p26_⟩ := hv23_
            refine okk_ck (vp_I (by omega) (by omega)) ?_
            have t28_ : (3 : Int32).toInt = (3 : Int) := (by decide : (3 : Int32).toInt = 3)
            refine okk_gl (fun u927_ eu927_ => ?_)
            have Iu927_ : IC g u927_ := by rw [eu927_]; exact IC_w17m p24_ _ (by have := cl_I (x := p1) (by omega); omega)
            have z29_ : (u927_.1 0).toInt = (v23_.1 0).toInt := by rw [eu927_]; rfl
            have z30_ : (u927_.1 1).toInt = (v23_.1 1).toInt := by rw [eu927_]; rfl
            refine okk_ck (vp_I (by omega) (by omega)) ?_
            have t32_ : (-1 : Int32).toInt = (-1 : Int) := (by decide : (-1 : Int32).toInt = -1)
            refine okk_gl (fun u1031_ eu1031_ => ?_)
            have Iu1031_ : IC g u1031_ := by rw [eu1031_]; exact IC_w19m Iu927_ _ _ (by omega) (by omega) (by rw [eu927_, rdA, if_pos ⟨rfl, rfl⟩]) (by have := cl_I (x := p1) (by omega); omega)
            have z33_ : (u1031_.1 0).toInt = (u927_.1 0).toInt := by rw [eu1031_]; rfl
            have z34_ : (u1031_.1 1).toInt = (u927_.1 1).toInt := by rw [eu1031_]; rfl
            have z35_ := IC_s Iu1031_
            refine okk_bi (okk_fcA_countIn Iu1031_) (fun v36_ hv36_ => ?_)
            have p37_ := hv36_
            exact okk_some ((by show 0 = 1; omega))
    · refine okk_t (by decide) ?_
      unfold fcJ_merge_33
      refine okk_bs (v := (1 : Nat)) (by decide) ?_
      refine okk_f (by decide) ?_
      try have t38_ : (0 : Int32).toInt = (0 : Int) := (by decide : (0 : Int32).toInt = 0)
      exact okk_some ((by show 1 = 1; omega))
  · refine okk_t (by decide) ?_
    unfold fcJ_merge_33
    refine okk_bs (v := (1 : Nat)) (by decide) ?_
    refine okk_f (by decide) ?_
    try have t39_ : (0 : Int32).toInt = (0 : Int) := (by decide : (0 : Int32).toInt = 0)
    exact okk_some ((by show 1 = 1; omega))
set_option maxHeartbeats 4000000 in
theorem okz_fcJ_watch {g : Nat → Int32} {u : g_S} (I : IC g u) {p1 : Int32} {p2 : Int32} {p3 : Int32} {p4 : Int32} (h0 : (u.1 0).toInt = 0) (h1 : (u.1 1).toInt = 0) : okk (fcJ_watch u p1 p2 p3 p4) (fun r => (r.1 = 1)) := by
  unfold fcJ_watch
  have z1_ := IC_s I
  refine okk_isBelow (fun b2_ => ?_) (fun b2_ => ?_)
  · refine okk_f (by decide) ?_
    try have t3_ : (8 : Int32).toInt = (8 : Int) := (by decide : (8 : Int32).toInt = 8)
    refine okk_isBelow (fun b4_ => ?_) (fun b4_ => ?_)
    · refine okk_f (by decide) ?_
      unfold fcJ_watch_28
      refine okk_bs (v := (0 : Nat)) (by decide) ?_
      refine okk_t (by decide) ?_
      refine okk_ck (vp_I (by omega) (by omega)) ?_
      have r5_ := IC_r5 I p2.toNatClampNeg
      refine okk_isBelow (fun b6_ => ?_) (fun b6_ => ?_)
      · refine okk_f (by decide) ?_
        refine okk_ck (vp_I (by omega) (by omega)) ?_
        refine okk_isBelow (fun b7_ => ?_) (fun b7_ => ?_)
        · refine okk_f (by decide) ?_
          refine okk_eq (fun c8_ c8_I => ?_) (fun c8_ c8_I => ?_)
          · unfold fcJ_watch_75
            refine okk_bs (v := (2 : Nat)) (by decide) ?_
            refine okk_f (by decide) ?_
            exact okk_some ((by show 2 = 1; omega))
          · unfold fcJ_watch_75
            refine okk_bs (v := (0 : Nat)) (by decide) ?_
            refine okk_t (by decide) ?_
            refine okk_ck (vp_I (by omega) (by omega)) ?_
            try have t10_ : (0 : Int32).toInt = (0 : Int) := (by decide : (0 : Int32).toInt = 0)
            refine okk_ne (fun c9_ c9_I => ?_) (fun c9_ c9_I => ?_)
            · unfold fcJ_watch_95
              refine okk_bs (v := (3 : Nat)) (by decide) ?_
              refine okk_f (by decide) ?_
              exact okk_some ((by show 3 = 1; omega))
            · unfold fcJ_watch_95
              refine okk_bs (v := (0 : Nat)) (by decide) ?_
              refine okk_t (by decide) ?_
              refine okk_ck (vp_I (by omega) (by omega)) ?_
              refine okk_gl (fun u611_ eu611_ => ?_)
              have Iu611_ : IC g u611_ := by rw [eu611_]; exact IC_v20 I _ _ (by omega) (by omega)
              have z12_ : (u611_.1 0).toInt = (u.1 0).toInt := by rw [eu611_]; rfl
              have z13_ : (u611_.1 1).toInt = (u.1 1).toInt := by rw [eu611_]; rfl
              refine okk_ck (vp_I (by omega) (by omega)) ?_
              have t15_ : (if p4 < p3 then p4 else p3).toInt = p4.toInt ∨ (if p4 < p3 then p4 else p3).toInt = p3.toInt := oi_ite
              refine okk_gl (fun u714_ eu714_ => ?_)
              have Iu714_ : IC g u714_ := by rw [eu714_]; exact IC_v21 Iu611_ _ _ (by omega) (by omega)
              have z16_ : (u714_.1 0).toInt = (u611_.1 0).toInt := by rw [eu714_]; rfl
              have z17_ : (u714_.1 1).toInt = (u611_.1 1).toInt := by rw [eu714_]; rfl
              refine okk_ck (vp_I (by omega) (by omega)) ?_
              have t19_ : (if p3 < p4 then p4 else p3).toInt = p4.toInt ∨ (if p3 < p4 then p4 else p3).toInt = p3.toInt := oi_ite
              refine okk_gl (fun u818_ eu818_ => ?_)
              have Iu818_ : IC g u818_ := by rw [eu818_]; exact IC_v22 Iu714_ _ _ (by omega) (by omega)
              have z20_ : (u818_.1 0).toInt = (u714_.1 0).toInt := by rw [eu818_]; rfl
              have z21_ : (u818_.1 1).toInt = (u714_.1 1).toInt := by rw [eu818_]; rfl
              exact okk_some ((by show 0 = 1; omega))
        · refine okk_t (by decide) ?_
          unfold fcJ_watch_75
          refine okk_bs (v := (2 : Nat)) (by decide) ?_
          refine okk_f (by decide) ?_
          exact okk_some ((by show 2 = 1; omega))
      · refine okk_t (by decide) ?_
        unfold fcJ_watch_75
        refine okk_bs (v := (2 : Nat)) (by decide) ?_
        refine okk_f (by decide) ?_
        exact okk_some ((by show 2 = 1; omega))
    · refine okk_t (by decide) ?_
      unfold fcJ_watch_28
      refine okk_bs (v := (1 : Nat)) (by decide) ?_
      refine okk_f (by decide) ?_
      exact okk_some ((by show 1 = 1; omega))
  · refine okk_t (by decide) ?_
    unfold fcJ_watch_28
    refine okk_bs (v := (1 : Nat)) (by decide) ?_
    refine okk_f (by decide) ?_
    exact okk_some ((by show 1 = 1; omega))
