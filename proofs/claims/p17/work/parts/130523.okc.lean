set_option maxHeartbeats 4000000 in
theorem okk_fcJ_needTwoCalls {g : Nat → Int32} {u : g_S} (I : IC g u) {p1 : Int32} {p2 : Int32} : okk (fcJ_needTwoCalls u p1 p2) (fun r => (r = 1 ∨ (r = 0 ∧ 0 ≤ p1.toInt ∧ p1.toInt < (u.1 0).toInt ∧ 0 ≤ p2.toInt ∧ p2.toInt < (u.1 0).toInt))) := by
  unfold fcJ_needTwoCalls
  have z1_ := IC_s I
  refine okk_isBelow (fun b2_ => ?_) (fun b2_ => ?_)
  · refine okk_f (by decide) ?_
    refine okk_isBelow (fun b3_ => ?_) (fun b3_ => ?_)
    · refine okk_f (by decide) ?_
      refine okk_eq (fun c4_ c4_I => ?_) (fun c4_ c4_I => ?_)
      · refine okk_bs (v := (1 : Nat)) (by decide) ?_
        refine okk_f (by decide) ?_
        exact okk_some ((by show 1 = 1 ∨ (1 = 0 ∧ 0 ≤ p1.toInt ∧ p1.toInt < (u.1 0).toInt ∧ 0 ≤ p2.toInt ∧ p2.toInt < (u.1 0).toInt); omega))
      · refine okk_bs (v := (0 : Nat)) (by decide) ?_
        refine okk_t (by decide) ?_
        exact okk_some ((by show 0 = 1 ∨ (0 = 0 ∧ 0 ≤ p1.toInt ∧ p1.toInt < (u.1 0).toInt ∧ 0 ≤ p2.toInt ∧ p2.toInt < (u.1 0).toInt); omega))
    · refine okk_t (by decide) ?_
      refine okk_bs (v := (1 : Nat)) (by decide) ?_
      refine okk_f (by decide) ?_
      exact okk_some ((by show 1 = 1 ∨ (1 = 0 ∧ 0 ≤ p1.toInt ∧ p1.toInt < (u.1 0).toInt ∧ 0 ≤ p2.toInt ∧ p2.toInt < (u.1 0).toInt); omega))
  · refine okk_t (by decide) ?_
    refine okk_bs (v := (1 : Nat)) (by decide) ?_
    refine okk_f (by decide) ?_
    exact okk_some ((by show 1 = 1 ∨ (1 = 0 ∧ 0 ≤ p1.toInt ∧ p1.toInt < (u.1 0).toInt ∧ 0 ≤ p2.toInt ∧ p2.toInt < (u.1 0).toInt); omega))
set_option maxHeartbeats 4000000 in
theorem okk_fcJ_rule {g : Nat → Int32} {u : g_S} (I : IC g u) {p1 : Int32} {p2 : Int32} {p3 : Int32} {p4 : Int32} {p5 : Int32} : okk (fcJ_rule u p1 p2 p3 p4 p5) (fun r => IC g r.2 ∧ ((r.1 = 1 ∧ ¬ (0 ≤ p1.toInt ∧ p1.toInt ≤ 7)) ∨ (r.1 = 2 ∧ (0 ≤ p1.toInt ∧ p1.toInt ≤ 7) ∧ ¬ (0 ≤ p2.toInt ∧ p2.toInt ≤ 20000 ∧ 0 ≤ p3.toInt ∧ p3.toInt ≤ 100000 ∧ 0 ≤ p4.toInt ∧ p4.toInt ≤ 100 ∧ 1 ≤ p5.toInt ∧ p5.toInt ≤ 100)) ∨ (r.1 = 0 ∧ (0 ≤ p1.toInt ∧ p1.toInt ≤ 7) ∧ (0 ≤ p2.toInt ∧ p2.toInt ≤ 20000 ∧ 0 ≤ p3.toInt ∧ p3.toInt ≤ 100000 ∧ 0 ≤ p4.toInt ∧ p4.toInt ≤ 100 ∧ 1 ≤ p5.toInt ∧ p5.toInt ≤ 100)))) := by
  unfold fcJ_rule
  have z1_ := IC_s I
  try have t2_ : (8 : Int32).toInt = (8 : Int) := (by decide : (8 : Int32).toInt = 8)
  refine okk_isBelow (fun b3_ => ?_) (fun b3_ => ?_)
  · refine okk_bs (v := (0 : Nat)) (by decide) ?_
    refine okk_t (by decide) ?_
    try have t4_ : (20001 : Int32).toInt = (20001 : Int) := (by decide : (20001 : Int32).toInt = 20001)
    refine okk_isBelow (fun b5_ => ?_) (fun b5_ => ?_)
    · refine okk_bs (v := (0 : Nat)) (by decide) ?_
      refine okk_t (by decide) ?_
      try have t6_ : (100001 : Int32).toInt = (100001 : Int) := (by decide : (100001 : Int32).toInt = 100001)
      refine okk_isBelow (fun b7_ => ?_) (fun b7_ => ?_)
      · refine okk_bs (v := (0 : Nat)) (by decide) ?_
        refine okk_t (by decide) ?_
        try have t8_ : (101 : Int32).toInt = (101 : Int) := (by decide : (101 : Int32).toInt = 101)
        refine okk_isBelow (fun b9_ => ?_) (fun b9_ => ?_)
        · refine okk_bs (v := (0 : Nat)) (by decide) ?_
          refine okk_t (by decide) ?_
          try have t11_ : (1 : Int32).toInt = (1 : Int) := (by decide : (1 : Int32).toInt = 1)
          refine okk_lt (fun c10_ c10_I => ?_) (fun c10_ c10_I => ?_)
          · unfold fcJ_rule_56
            refine okk_bs (v := (2 : Nat)) (by decide) ?_
            refine okk_f (by decide) ?_
            exact okk_some (⟨I, (by show (2 = 1 ∧ ¬ (0 ≤ p1.toInt ∧ p1.toInt ≤ 7)) ∨ (2 = 2 ∧ (0 ≤ p1.toInt ∧ p1.toInt ≤ 7) ∧ ¬ (0 ≤ p2.toInt ∧ p2.toInt ≤ 20000 ∧ 0 ≤ p3.toInt ∧ p3.toInt ≤ 100000 ∧ 0 ≤ p4.toInt ∧ p4.toInt ≤ 100 ∧ 1 ≤ p5.toInt ∧ p5.toInt ≤ 100)) ∨ (2 = 0 ∧ (0 ≤ p1.toInt ∧ p1.toInt ≤ 7) ∧ (0 ≤ p2.toInt ∧ p2.toInt ≤ 20000 ∧ 0 ≤ p3.toInt ∧ p3.toInt ≤ 100000 ∧ 0 ≤ p4.toInt ∧ p4.toInt ≤ 100 ∧ 1 ≤ p5.toInt ∧ p5.toInt ≤ 100)); omega)⟩)
          · try have t13_ : (100 : Int32).toInt = (100 : Int) := (by decide : (100 : Int32).toInt = 100)
            refine okk_lt (fun c12_ c12_I => ?_) (fun c12_ c12_I => ?_)
            · unfold fcJ_rule_56
              refine okk_bs (v := (2 : Nat)) (by decide) ?_
              refine okk_f (by decide) ?_
              exact okk_some (⟨I, (by show (2 = 1 ∧ ¬ (0 ≤ p1.toInt ∧ p1.toInt ≤ 7)) ∨ (2 = 2 ∧ (0 ≤ p1.toInt ∧ p1.toInt ≤ 7) ∧ ¬ (0 ≤ p2.toInt ∧ p2.toInt ≤ 20000 ∧ 0 ≤ p3.toInt ∧ p3.toInt ≤ 100000 ∧ 0 ≤ p4.toInt ∧ p4.toInt ≤ 100 ∧ 1 ≤ p5.toInt ∧ p5.toInt ≤ 100)) ∨ (2 = 0 ∧ (0 ≤ p1.toInt ∧ p1.toInt ≤ 7) ∧ (0 ≤ p2.toInt ∧ p2.toInt ≤ 20000 ∧ 0 ≤ p3.toInt ∧ p3.toInt ≤ 100000 ∧ 0 ≤ p4.toInt ∧ p4.toInt ≤ 100 ∧ 1 ≤ p5.toInt ∧ p5.toInt ≤ 100)); omega)⟩)
            · unfold fcJ_rule_56
              refine okk_bs (v := (0 : Nat)) (by decide) ?_
              refine okk_t (by decide) ?_
              refine okk_ck (vp_I (by omega) (by omega)) ?_
              refine okk_gl (fun u1014_ eu1014_ => ?_)
              have Iu1014_ : IC g u1014_ := by rw [eu1014_]; exact IC_wx I 0 _ _ rfl rfl (by decide)
              have z15_ : (u1014_.1 0).toInt = (u.1 0).toInt := by rw [eu1014_]; rfl
              have z16_ : (u1014_.1 1).toInt = (u.1 1).toInt := by rw [eu1014_]; rfl
              refine okk_ck (vp_I (by omega) (by omega)) ?_
              refine okk_gl (fun u1117_ eu1117_ => ?_)
              have Iu1117_ : IC g u1117_ := by rw [eu1117_]; exact IC_wx Iu1014_ 1 _ _ rfl rfl (by decide)
              have z18_ : (u1117_.1 0).toInt = (u1014_.1 0).toInt := by rw [eu1117_]; rfl
              have z19_ : (u1117_.1 1).toInt = (u1014_.1 1).toInt := by rw [eu1117_]; rfl
              refine okk_ck (vp_I (by omega) (by omega)) ?_
              refine okk_gl (fun u1220_ eu1220_ => ?_)
              have Iu1220_ : IC g u1220_ := by rw [eu1220_]; exact IC_wx Iu1117_ 2 _ _ rfl rfl (by decide)
              have z21_ : (u1220_.1 0).toInt = (u1117_.1 0).toInt := by rw [eu1220_]; rfl
              have z22_ : (u1220_.1 1).toInt = (u1117_.1 1).toInt := by rw [eu1220_]; rfl
              refine okk_ck (vp_I (by omega) (by omega)) ?_
              refine okk_gl (fun u1323_ eu1323_ => ?_)
              have Iu1323_ : IC g u1323_ := by rw [eu1323_]; exact IC_wx Iu1220_ 3 _ _ rfl rfl (by decide)
              have z24_ : (u1323_.1 0).toInt = (u1220_.1 0).toInt := by rw [eu1323_]; rfl
              have z25_ : (u1323_.1 1).toInt = (u1220_.1 1).toInt := by rw [eu1323_]; rfl
              exact okk_some (⟨Iu1323_, (by show (0 = 1 ∧ ¬ (0 ≤ p1.toInt ∧ p1.toInt ≤ 7)) ∨ (0 = 2 ∧ (0 ≤ p1.toInt ∧ p1.toInt ≤ 7) ∧ ¬ (0 ≤ p2.toInt ∧ p2.toInt ≤ 20000 ∧ 0 ≤ p3.toInt ∧ p3.toInt ≤ 100000 ∧ 0 ≤ p4.toInt ∧ p4.toInt ≤ 100 ∧ 1 ≤ p5.toInt ∧ p5.toInt ≤ 100)) ∨ (0 = 0 ∧ (0 ≤ p1.toInt ∧ p1.toInt ≤ 7) ∧ (0 ≤ p2.toInt ∧ p2.toInt ≤ 20000 ∧ 0 ≤ p3.toInt ∧ p3.toInt ≤ 100000 ∧ 0 ≤ p4.toInt ∧ p4.toInt ≤ 100 ∧ 1 ≤ p5.toInt ∧ p5.toInt ≤ 100)); omega)⟩)
        · refine okk_bs (v := (2 : Nat)) (by decide) ?_
          refine okk_f (by decide) ?_
          exact okk_some (⟨I, (by show (2 = 1 ∧ ¬ (0 ≤ p1.toInt ∧ p1.toInt ≤ 7)) ∨ (2 = 2 ∧ (0 ≤ p1.toInt ∧ p1.toInt ≤ 7) ∧ ¬ (0 ≤ p2.toInt ∧ p2.toInt ≤ 20000 ∧ 0 ≤ p3.toInt ∧ p3.toInt ≤ 100000 ∧ 0 ≤ p4.toInt ∧ p4.toInt ≤ 100 ∧ 1 ≤ p5.toInt ∧ p5.toInt ≤ 100)) ∨ (2 = 0 ∧ (0 ≤ p1.toInt ∧ p1.toInt ≤ 7) ∧ (0 ≤ p2.toInt ∧ p2.toInt ≤ 20000 ∧ 0 ≤ p3.toInt ∧ p3.toInt ≤ 100000 ∧ 0 ≤ p4.toInt ∧ p4.toInt ≤ 100 ∧ 1 ≤ p5.toInt ∧ p5.toInt ≤ 100)); omega)⟩)
      · refine okk_bs (v := (2 : Nat)) (by decide) ?_
        refine okk_f (by decide) ?_
        exact okk_some (⟨I, (by show (2 = 1 ∧ ¬ (0 ≤ p1.toInt ∧ p1.toInt ≤ 7)) ∨ (2 = 2 ∧ (0 ≤ p1.toInt ∧ p1.toInt ≤ 7) ∧ ¬ (0 ≤ p2.toInt ∧ p2.toInt ≤ 20000 ∧ 0 ≤ p3.toInt ∧ p3.toInt ≤ 100000 ∧ 0 ≤ p4.toInt ∧ p4.toInt ≤ 100 ∧ 1 ≤ p5.toInt ∧ p5.toInt ≤ 100)) ∨ (2 = 0 ∧ (0 ≤ p1.toInt ∧ p1.toInt ≤ 7) ∧ (0 ≤ p2.toInt ∧ p2.toInt ≤ 20000 ∧ 0 ≤ p3.toInt ∧ p3.toInt ≤ 100000 ∧ 0 ≤ p4.toInt ∧ p4.toInt ≤ 100 ∧ 1 ≤ p5.toInt ∧ p5.toInt ≤ 100)); omega)⟩)
    · refine okk_bs (v := (2 : Nat)) (by decide) ?_
      refine okk_f (by decide) ?_
      exact okk_some (⟨I, (by show (2 = 1 ∧ ¬ (0 ≤ p1.toInt ∧ p1.toInt ≤ 7)) ∨ (2 = 2 ∧ (0 ≤ p1.toInt ∧ p1.toInt ≤ 7) ∧ ¬ (0 ≤ p2.toInt ∧ p2.toInt ≤ 20000 ∧ 0 ≤ p3.toInt ∧ p3.toInt ≤ 100000 ∧ 0 ≤ p4.toInt ∧ p4.toInt ≤ 100 ∧ 1 ≤ p5.toInt ∧ p5.toInt ≤ 100)) ∨ (2 = 0 ∧ (0 ≤ p1.toInt ∧ p1.toInt ≤ 7) ∧ (0 ≤ p2.toInt ∧ p2.toInt ≤ 20000 ∧ 0 ≤ p3.toInt ∧ p3.toInt ≤ 100000 ∧ 0 ≤ p4.toInt ∧ p4.toInt ≤ 100 ∧ 1 ≤ p5.toInt ∧ p5.toInt ≤ 100)); omega)⟩)
  · refine okk_bs (v := (1 : Nat)) (by decide) ?_
    refine okk_f (by decide) ?_
    exact okk_some (⟨I, (by show (1 = 1 ∧ ¬ (0 ≤ p1.toInt ∧ p1.toInt ≤ 7)) ∨ (1 = 2 ∧ (0 ≤ p1.toInt ∧ p1.toInt ≤ 7) ∧ ¬ (0 ≤ p2.toInt ∧ p2.toInt ≤ 20000 ∧ 0 ≤ p3.toInt ∧ p3.toInt ≤ 100000 ∧ 0 ≤ p4.toInt ∧ p4.toInt ≤ 100 ∧ 1 ≤ p5.toInt ∧ p5.toInt ≤ 100)) ∨ (1 = 0 ∧ (0 ≤ p1.toInt ∧ p1.toInt ≤ 7) ∧ (0 ≤ p2.toInt ∧ p2.toInt ≤ 20000 ∧ 0 ≤ p3.toInt ∧ p3.toInt ≤ 100000 ∧ 0 ≤ p4.toInt ∧ p4.toInt ≤ 100 ∧ 1 ≤ p5.toInt ∧ p5.toInt ≤ 100)); omega)⟩)
set_option maxHeartbeats 4000000 in
theorem okk_fcJ_weight {g : Nat → Int32} {u : g_S} (I : IC g u) {p1 : Int32} {p2 : Int32} {p3 : Int32} : okk (fcJ_weight u p1 p2 p3) (fun r => IC g r.2 ∧ ((r.1 = 1 ∧ ¬ (0 ≤ p1.toInt ∧ p1.toInt ≤ 7 ∧ 0 ≤ p2.toInt ∧ p2.toInt ≤ 31)) ∨ (r.1 = 2 ∧ (0 ≤ p1.toInt ∧ p1.toInt ≤ 7 ∧ 0 ≤ p2.toInt ∧ p2.toInt ≤ 31) ∧ ¬ (0 ≤ p3.toInt ∧ p3.toInt ≤ 100)) ∨ (r.1 = 0 ∧ (0 ≤ p1.toInt ∧ p1.toInt ≤ 7 ∧ 0 ≤ p2.toInt ∧ p2.toInt ≤ 31) ∧ (0 ≤ p3.toInt ∧ p3.toInt ≤ 100)))) := by
  unfold fcJ_weight
  have z1_ := IC_s I
  try have t2_ : (8 : Int32).toInt = (8 : Int) := (by decide : (8 : Int32).toInt = 8)
  refine okk_isBelow (fun b3_ => ?_) (fun b3_ => ?_)
  · refine okk_f (by decide) ?_
    try have t4_ : (32 : Int32).toInt = (32 : Int) := (by decide : (32 : Int32).toInt = 32)
    refine okk_isBelow (fun b5_ => ?_) (fun b5_ => ?_)
    · refine okk_f (by decide) ?_
      unfold fcJ_weight_23
      refine okk_bs (v := (0 : Nat)) (by decide) ?_
      refine okk_t (by decide) ?_
      try have t6_ : (101 : Int32).toInt = (101 : Int) := (by decide : (101 : Int32).toInt = 101)
      refine okk_isBelow (fun b7_ => ?_) (fun b7_ => ?_)
      · refine okk_bs (v := (0 : Nat)) (by decide) ?_
        refine okk_t (by decide) ?_
        have t8_ : ((p1 * (32 : Int32)) + p2).toInt = ((p1.toInt * (32 : Int)) + p2.toInt) := (oi_add (a := (p1 * (32 : Int32))) (b := p2) (oi_mul (a := p1) (b := (32 : Int32)) rfl (by decide : (32 : Int32).toInt = 32) (by omega) (by omega)) rfl (by omega) (by omega))
        refine okk_ck (vp_I (by omega) (by omega)) ?_
        refine okk_gl (fun u59_ eu59_ => ?_)
        have Iu59_ : IC g u59_ := by rw [eu59_]; exact IC_wx I 4 _ _ rfl rfl (by decide)
        have z10_ : (u59_.1 0).toInt = (u.1 0).toInt := by rw [eu59_]; rfl
        have z11_ : (u59_.1 1).toInt = (u.1 1).toInt := by rw [eu59_]; rfl
        exact okk_some (⟨Iu59_, (by show (0 = 1 ∧ ¬ (0 ≤ p1.toInt ∧ p1.toInt ≤ 7 ∧ 0 ≤ p2.toInt ∧ p2.toInt ≤ 31)) ∨ (0 = 2 ∧ (0 ≤ p1.toInt ∧ p1.toInt ≤ 7 ∧ 0 ≤ p2.toInt ∧ p2.toInt ≤ 31) ∧ ¬ (0 ≤ p3.toInt ∧ p3.toInt ≤ 100)) ∨ (0 = 0 ∧ (0 ≤ p1.toInt ∧ p1.toInt ≤ 7 ∧ 0 ≤ p2.toInt ∧ p2.toInt ≤ 31) ∧ (0 ≤ p3.toInt ∧ p3.toInt ≤ 100)); omega)⟩)
      · refine okk_bs (v := (2 : Nat)) (by decide) ?_
        refine okk_f (by decide) ?_
        exact okk_some (⟨I, (by show (2 = 1 ∧ ¬ (0 ≤ p1.toInt ∧ p1.toInt ≤ 7 ∧ 0 ≤ p2.toInt ∧ p2.toInt ≤ 31)) ∨ (2 = 2 ∧ (0 ≤ p1.toInt ∧ p1.toInt ≤ 7 ∧ 0 ≤ p2.toInt ∧ p2.toInt ≤ 31) ∧ ¬ (0 ≤ p3.toInt ∧ p3.toInt ≤ 100)) ∨ (2 = 0 ∧ (0 ≤ p1.toInt ∧ p1.toInt ≤ 7 ∧ 0 ≤ p2.toInt ∧ p2.toInt ≤ 31) ∧ (0 ≤ p3.toInt ∧ p3.toInt ≤ 100)); omega)⟩)
    · refine okk_t (by decide) ?_
      unfold fcJ_weight_23
      refine okk_bs (v := (1 : Nat)) (by decide) ?_
      refine okk_f (by decide) ?_
      exact okk_some (⟨I, (by show (1 = 1 ∧ ¬ (0 ≤ p1.toInt ∧ p1.toInt ≤ 7 ∧ 0 ≤ p2.toInt ∧ p2.toInt ≤ 31)) ∨ (1 = 2 ∧ (0 ≤ p1.toInt ∧ p1.toInt ≤ 7 ∧ 0 ≤ p2.toInt ∧ p2.toInt ≤ 31) ∧ ¬ (0 ≤ p3.toInt ∧ p3.toInt ≤ 100)) ∨ (1 = 0 ∧ (0 ≤ p1.toInt ∧ p1.toInt ≤ 7 ∧ 0 ≤ p2.toInt ∧ p2.toInt ≤ 31) ∧ (0 ≤ p3.toInt ∧ p3.toInt ≤ 100)); omega)⟩)
  · refine okk_t (by decide) ?_
    unfold fcJ_weight_23
    refine okk_bs (v := (1 : Nat)) (by decide) ?_
    refine okk_f (by decide) ?_
    exact okk_some (⟨I, (by show (1 = 1 ∧ ¬ (0 ≤ p1.toInt ∧ p1.toInt ≤ 7 ∧ 0 ≤ p2.toInt ∧ p2.toInt ≤ 31)) ∨ (1 = 2 ∧ (0 ≤ p1.toInt ∧ p1.toInt ≤ 7 ∧ 0 ≤ p2.toInt ∧ p2.toInt ≤ 31) ∧ ¬ (0 ≤ p3.toInt ∧ p3.toInt ≤ 100)) ∨ (1 = 0 ∧ (0 ≤ p1.toInt ∧ p1.toInt ≤ 7 ∧ 0 ≤ p2.toInt ∧ p2.toInt ≤ 31) ∧ (0 ≤ p3.toInt ∧ p3.toInt ≤ 100)); omega)⟩)
set_option maxHeartbeats 4000000 in
theorem okk_fcJ_call {g : Nat → Int32} {u : g_S} (I : IC g u) {p1 : Int32} {p2 : Int32} {p3 : Int32} {p4 : Int32} {p5 : Int32} {p6 : Int32} : okk (fcJ_call u p1 p2 p3 p4 p5 p6) (fun r => IC g r.2.2 ∧ (r.1 = 0 ∨ r.1 = 1 ∨ r.1 = 2 ∨ r.1 = 4)) := by
  unfold fcJ_call
  have z1_ := IC_s I
  refine okk_bi (okk_fcJ_needCallData I) (fun v2_ hv2_ => ?_)
  have p3_ := hv2_
  refine okk_if (fun c4_ => ?_) (fun c4_ => ?_)
  · try have t6_ : (120 : Int32).toInt = (120 : Int) := (by decide : (120 : Int32).toInt = 120)
    refine okk_le (fun c5_ c5_I => ?_) (fun c5_ c5_I => ?_)
    · unfold fcJ_call_28
      refine okk_bs (v := (4 : Nat)) (by decide) ?_
      refine okk_f (by decide) ?_
      try have t7_ : (0 : Int32).toInt = (0 : Int) := (by decide : (0 : Int32).toInt = 0)
      exact okk_some (⟨I, (by show 4 = 0 ∨ 4 = 1 ∨ 4 = 2 ∨ 4 = 4; omega)⟩)
    · unfold fcJ_call_28
      refine okk_bs (v := (0 : Nat)) (by decide) ?_
      refine okk_t (by decide) ?_
      refine okk_bi (okk_fcA_draft I (by omega) (by omega)) (fun v8_ hv8_ => ?_)
      obtain ⟨p9_, p10_, p11_, p12_⟩ := hv8_
      have z13_ := IC_s p9_
      refine okk_bi (okk_fcJ_seekReason p9_ (by omega) (by omega)) (fun v14_ hv14_ => ?_)
      obtain ⟨p15_, p16_, p17_⟩ := hv14_
      refine okk_ck (vp_I (by omega) (by omega)) ?_
      have r19_ := IC_r14 p15_ v8_.1.toNatClampNeg
      refine okk_gl (fun w518_ ew518_ => ?_)
      have t20_ : w518_.toInt = (v14_.2 14 v8_.1.toNatClampNeg).toInt := by rw [ew518_]
      try have t22_ : (-1 : Int32).toInt = (-1 : Int) := (by decide : (-1 : Int32).toInt = -1)
      refine okk_ne (fun c21_ c21_I => ?_) (fun c21_ c21_I => ?_)
      · refine okk_ck (vp_I (by omega) (by omega)) ?_
        refine okk_ck (vp_I (by omega) (by omega)) ?_
        have r24_ := IC_r13 p15_ w518_.toNatClampNeg
        refine okk_gl (fun u623_ eu623_ => ?_)
        have Iu623_ : IC g u623_ := by rw [eu623_]; exact IC_v13 p15_ _ _ (by omega) (by omega)
        have z25_ : (u623_.1 0).toInt = (v14_.1 0).toInt := by rw [eu623_]; rfl
        have z26_ : (u623_.1 1).toInt = (v14_.1 1).toInt := by rw [eu623_]; rfl
        unfold fcJ_call_136
        have t28_ : ((u623_.1 0) + (1 : Int32)).toInt = ((u623_.1 0).toInt + (1 : Int)) := (oi_add (a := (u623_.1 0)) (b := (1 : Int32)) rfl (by decide : (1 : Int32).toInt = 1) (by omega) (by omega))
        refine okk_gl (fun u727_ eu727_ => ?_)
        have Iu727_ : IC g u727_ := by rw [eu727_]; exact IC_i0 Iu623_ _ (by omega) (by omega)
        have z29_ : (u727_.1 0).toInt = ((u623_.1 0) + (1 : Int32)).toInt := by rw [eu727_]; rfl
        have z30_ : (u727_.1 1).toInt = (u623_.1 1).toInt := by rw [eu727_]; rfl
        exact okk_some (⟨Iu727_, (by show 0 = 0 ∨ 0 = 1 ∨ 0 = 2 ∨ 0 = 4; omega)⟩)
      · try have t32_ : (60 : Int32).toInt = (60 : Int) := (by decide : (60 : Int32).toInt = 60)
        refine okk_le (fun c31_ c31_I => ?_) (fun c31_ c31_I => ?_)
        · unfold fcJ_call_90
          refine okk_bs (v := (4 : Nat)) (by decide) ?_
          refine okk_f (by decide) ?_
          try have t33_ : (0 : Int32).toInt = (0 : Int) := (by decide : (0 : Int32).toInt = 0)
          exact okk_some (⟨p15_, (by show 4 = 0 ∨ 4 = 1 ∨ 4 = 2 ∨ 4 = 4; omega)⟩)
        · unfold fcJ_call_90
          refine okk_bs (v := (0 : Nat)) (by decide) ?_
          refine okk_t (by decide) ?_
          have z34_ := IC_s p15_
          refine okk_bi (okk_fcE_begin p15_ (by omega) (by omega) (by omega) (by omega) (by omega)) (fun v35_ hv35_ => ?_)
          obtain ⟨p36_, p37_, p38_, p39_⟩ := hv35_
          refine okk_ck (vp_I (by omega) (by omega)) ?_
          refine okk_gl (fun u1040_ eu1040_ => ?_)
          have Iu1040_ : IC g u1040_ := by rw [eu1040_]; exact IC_v13 p36_ _ _ (by omega) (by omega)
          have z41_ : (u1040_.1 0).toInt = (v35_.2.1 0).toInt := by rw [eu1040_]; rfl
          have z42_ : (u1040_.1 1).toInt = (v35_.2.1 1).toInt := by rw [eu1040_]; rfl
          unfold fcJ_call_136
          have t44_ : ((u1040_.1 0) + (1 : Int32)).toInt = ((u1040_.1 0).toInt + (1 : Int)) := (oi_add (a := (u1040_.1 0)) (b := (1 : Int32)) rfl (by decide : (1 : Int32).toInt = 1) (by omega) (by omega))
          refine okk_gl (fun u743_ eu743_ => ?_)
          have Iu743_ : IC g u743_ := by rw [eu743_]; exact IC_i0 Iu1040_ _ (by omega) (by omega)
          have z45_ : (u743_.1 0).toInt = ((u1040_.1 0) + (1 : Int32)).toInt := by rw [eu743_]; rfl
          have z46_ : (u743_.1 1).toInt = (u1040_.1 1).toInt := by rw [eu743_]; rfl
          exact okk_some (⟨Iu743_, (by show 0 = 0 ∨ 0 = 1 ∨ 0 = 2 ∨ 0 = 4; omega)⟩)
  · try have t47_ : (0 : Int32).toInt = (0 : Int) := (by decide : (0 : Int32).toInt = 0)
    exact okk_some (⟨I, (by show v2_ = 0 ∨ v2_ = 1 ∨ v2_ = 2 ∨ v2_ = 4; omega)⟩)
set_option maxHeartbeats 4000000 in
theorem okk_fcJ_reasonFor {g : Nat → Int32} {u : g_S} (I : IC g u) {p1 : Int32} {p2 : Int32} {p3 : Int32} {p4 : Int32} {p5 : Int32} {p6 : Int32} : okk (fcJ_reasonFor u p1 p2 p3 p4 p5 p6) (fun r => IC g r.2.2 ∧ (r.1 = 0 ∨ r.1 = 1 ∨ r.1 = 2)) := by
  unfold fcJ_reasonFor
  have z1_ := IC_s I
  refine okk_bi (okk_fcJ_needCallData I) (fun v2_ hv2_ => ?_)
  have p3_ := hv2_
  refine okk_if (fun c4_ => ?_) (fun c4_ => ?_)
  · refine okk_bi (okk_fcA_draft I (by omega) (by omega)) (fun v5_ hv5_ => ?_)
    obtain ⟨p6_, p7_, p8_, p9_⟩ := hv5_
    have z10_ := IC_s p6_
    refine okk_bi (okk_fcJ_seekReason p6_ (by omega) (by omega)) (fun v11_ hv11_ => ?_)
    obtain ⟨p12_, p13_, p14_⟩ := hv11_
    refine okk_ck (vp_I (by omega) (by omega)) ?_
    have r15_ := IC_r14 p12_ v5_.1.toNatClampNeg
    exact okk_some (⟨p12_, (by show 0 = 0 ∨ 0 = 1 ∨ 0 = 2; omega)⟩)
  · try have t16_ : (0 : Int32).toInt = (0 : Int) := (by decide : (0 : Int32).toInt = 0)
    exact okk_some (⟨I, (by show v2_ = 0 ∨ v2_ = 1 ∨ v2_ = 2; omega)⟩)
set_option maxHeartbeats 4000000 in
theorem okk_fcJ_mark {g : Nat → Int32} {u : g_S} (I : IC g u) {p1 : Int32} {p2 : Int32} : okk (fcJ_mark u p1 p2) (fun r => IC g r.2 ∧ (r.1 = 0 ∨ r.1 = 1 ∨ r.1 = 2)) := by
  unfold fcJ_mark
  have z1_ := IC_s I
  refine okk_isBelow (fun b2_ => ?_) (fun b2_ => ?_)
  · refine okk_bs (v := (0 : Nat)) (by decide) ?_
    refine okk_t (by decide) ?_
    try have t3_ : (8 : Int32).toInt = (8 : Int) := (by decide : (8 : Int32).toInt = 8)
    refine okk_isBelow (fun b4_ => ?_) (fun b4_ => ?_)
    · refine okk_bs (v := (0 : Nat)) (by decide) ?_
      refine okk_t (by decide) ?_
      refine okk_ck (vp_I (by omega) (by omega)) ?_
      refine okk_gl (fun u55_ eu55_ => ?_)
      have Iu55_ : IC g u55_ := by rw [eu55_]; exact IC_wx I 16 _ _ rfl rfl (by decide)
      have z6_ : (u55_.1 0).toInt = (u.1 0).toInt := by rw [eu55_]; rfl
      have z7_ : (u55_.1 1).toInt = (u.1 1).toInt := by rw [eu55_]; rfl
      exact okk_some (⟨Iu55_, (by show 0 = 0 ∨ 0 = 1 ∨ 0 = 2; omega)⟩)
    · refine okk_bs (v := (2 : Nat)) (by decide) ?_
      refine okk_f (by decide) ?_
      exact okk_some (⟨I, (by show 2 = 0 ∨ 2 = 1 ∨ 2 = 2; omega)⟩)
  · refine okk_bs (v := (1 : Nat)) (by decide) ?_
    refine okk_f (by decide) ?_
    exact okk_some (⟨I, (by show 1 = 0 ∨ 1 = 1 ∨ 1 = 2; omega)⟩)
set_option maxHeartbeats 4000000 in
theorem okk_fcJ_split {g : Nat → Int32} {u : g_S} (I : IC g u) {p1 : Int32} : okk (fcJ_split u p1) (fun r => IC g r.2.2 ∧ (r.1 = 0 ∨ r.1 = 1 ∨ r.1 = 3 ∨ r.1 = 4)) := by
  unfold fcJ_split
  have z1_ := IC_s I
  refine okk_isBelow (fun b2_ => ?_) (fun b2_ => ?_)
  · refine okk_bs (v := (0 : Nat)) (by decide) ?_
    refine okk_t (by decide) ?_
    refine okk_ck (vp_I (by omega) (by omega)) ?_
    have r4_ := IC_r14 I p1.toNatClampNeg
    try have t5_ : (-1 : Int32).toInt = (-1 : Int) := (by decide : (-1 : Int32).toInt = -1)
    refine okk_eq (fun c3_ c3_I => ?_) (fun c3_ c3_I => ?_)
    · unfold fcJ_split_40
      refine okk_bs (v := (3 : Nat)) (by decide) ?_
      refine okk_f (by decide) ?_
      try have t6_ : (0 : Int32).toInt = (0 : Int) := (by decide : (0 : Int32).toInt = 0)
      exact okk_some (⟨I, (by show 3 = 0 ∨ 3 = 1 ∨ 3 = 3 ∨ 3 = 4; omega)⟩)
    · refine okk_bi (okk_fcJ_isInOpenEvent I (by omega) (by omega)) (fun v7_ hv7_ => ?_)
      have p8_ := hv7_
      try have t10_ : (0 : Int32).toInt = (0 : Int) := (by decide : (0 : Int32).toInt = 0)
      refine okk_eq (fun c9_ c9_I => ?_) (fun c9_ c9_I => ?_)
      · unfold fcJ_split_40
        refine okk_bs (v := (3 : Nat)) (by decide) ?_
        refine okk_f (by decide) ?_
        exact okk_some (⟨I, (by show 3 = 0 ∨ 3 = 1 ∨ 3 = 3 ∨ 3 = 4; omega)⟩)
      · unfold fcJ_split_40
        refine okk_bs (v := (0 : Nat)) (by decide) ?_
        refine okk_t (by decide) ?_
        try have t12_ : (60 : Int32).toInt = (60 : Int) := (by decide : (60 : Int32).toInt = 60)
        refine okk_le (fun c11_ c11_I => ?_) (fun c11_ c11_I => ?_)
        · unfold fcJ_split_60
          refine okk_bs (v := (4 : Nat)) (by decide) ?_
          refine okk_f (by decide) ?_
          exact okk_some (⟨I, (by show 4 = 0 ∨ 4 = 1 ∨ 4 = 3 ∨ 4 = 4; omega)⟩)
        · unfold fcJ_split_60
          refine okk_bs (v := (0 : Nat)) (by decide) ?_
          refine okk_t (by decide) ?_
          refine okk_ck (vp_I (by omega) (by omega)) ?_
          have r13_ := IC_r8 I p1.toNatClampNeg
          refine okk_bi (okk_fcE_begin I (by omega) (by omega) (by omega) (by omega) (by omega)) (fun v14_ hv14_ => ?_)
          obtain ⟨p15_, p16_, p17_, p18_⟩ := hv14_
          have z19_ := IC_s p15_
          refine okk_bi (okk_fcA_moveBranch p15_ (by omega) (by omega)) (fun v20_ hv20_ => ?_)
          obtain ⟨p21_, p22_, p23_⟩ := hv20_
          refine okk_ck (vp_I (by omega) (by omega)) ?_
          refine okk_gl (fun u724_ eu724_ => ?_)
          have Iu724_ : IC g u724_ := by rw [eu724_]; exact IC_v14 p21_ _ _ (by omega) (by omega)
          have z25_ : (u724_.1 0).toInt = (v20_.1 0).toInt := by rw [eu724_]; rfl
          have z26_ : (u724_.1 1).toInt = (v20_.1 1).toInt := by rw [eu724_]; rfl
          refine okk_ck (vp_I (by omega) (by omega)) ?_
          refine okk_gl (fun u827_ eu827_ => ?_)
          have Iu827_ : IC g u827_ := by rw [eu827_]; exact IC_wx Iu724_ 15 _ _ rfl rfl (by decide)
          have z28_ : (u827_.1 0).toInt = (u724_.1 0).toInt := by rw [eu827_]; rfl
          have z29_ : (u827_.1 1).toInt = (u724_.1 1).toInt := by rw [eu827_]; rfl
          exact okk_some (⟨Iu827_, (by show 0 = 0 ∨ 0 = 1 ∨ 0 = 3 ∨ 0 = 4; omega)⟩)
  · refine okk_bs (v := (1 : Nat)) (by decide) ?_
    refine okk_f (by decide) ?_
    try have t30_ : (0 : Int32).toInt = (0 : Int) := (by decide : (0 : Int32).toInt = 0)
    exact okk_some (⟨I, (by show 1 = 0 ∨ 1 = 1 ∨ 1 = 3 ∨ 1 = 4; omega)⟩)
set_option maxHeartbeats 4000000 in
theorem okk_fcJ_merge {g : Nat → Int32} {u : g_S} (I : IC g u) {p1 : Int32} {p2 : Int32} : okk (fcJ_merge u p1 p2) (fun r => IC g r.2.2 ∧ (r.1 = 0 ∨ r.1 = 1 ∨ r.1 = 3)) := by
  unfold fcJ_merge
  have z1_ := IC_s I
  refine okk_isBelow (fun b2_ => ?_) (fun b2_ => ?_)
  · refine okk_f (by decide) ?_
    refine okk_isBelow (fun b3_ => ?_) (fun b3_ => ?_)
    · refine okk_f (by decide) ?_
      unfold fcJ_merge_33
      refine okk_bs (v := (0 : Nat)) (by decide) ?_
      refine okk_t (by decide) ?_
      refine okk_ck (vp_I (by omega) (by omega)) ?_
      have r5_ := IC_r13 I p2.toNatClampNeg
      refine okk_gl (fun w34_ ew34_ => ?_)
      have t6_ : w34_.toInt = (u.2 13 p2.toNatClampNeg).toInt := by rw [ew34_]
      refine okk_ck (vp_I (by omega) (by omega)) ?_
      try have t8_ : (0 : Int32).toInt = (0 : Int) := (by decide : (0 : Int32).toInt = 0)
      refine okk_ne (fun c7_ c7_I => ?_) (fun c7_ c7_I => ?_)
      · unfold fcJ_merge_80
        refine okk_bs (v := (3 : Nat)) (by decide) ?_
        refine okk_f (by decide) ?_
        exact okk_some (⟨I, (by show 3 = 0 ∨ 3 = 1 ∨ 3 = 3; omega)⟩)
      · refine okk_ck (vp_I (by omega) (by omega)) ?_
        refine okk_ne (fun c9_ c9_I => ?_) (fun c9_ c9_I => ?_)
        · unfold fcJ_merge_80
          refine okk_bs (v := (3 : Nat)) (by decide) ?_
          refine okk_f (by decide) ?_
          exact okk_some (⟨I, (by show 3 = 0 ∨ 3 = 1 ∨ 3 = 3; omega)⟩)
        · refine okk_eq (fun c10_ c10_I => ?_) (fun c10_ c10_I => ?_)
          · unfold fcJ_merge_80
            refine okk_bs (v := (3 : Nat)) (by decide) ?_
            refine okk_f (by decide) ?_
            exact okk_some (⟨I, (by show 3 = 0 ∨ 3 = 1 ∨ 3 = 3; omega)⟩)
          · unfold fcJ_merge_80
            refine okk_bs (v := (0 : Nat)) (by decide) ?_
            refine okk_t (by decide) ?_
            refine okk_ck (vp_I (by omega) (by omega)) ?_
            have r12_ := IC_r19 I p1.toNatClampNeg
            have r13_ := IC_f I p1.toNatClampNeg (Or.inl (by rw [c7_]; decide))
            refine okk_gl (fun w511_ ew511_ => ?_)
            have t14_ : w511_.toInt = (u.2 19 p1.toNatClampNeg).toInt := by rw [ew511_]
            refine okk_ck (vp_I (by omega) (by omega)) ?_
            refine okk_gl (fun u615_ eu615_ => ?_)
            have Iu615_ : IC g u615_ := by rw [eu615_]; exact IC_v14 I _ _ (by omega) (by omega)
            have z16_ : (u615_.1 0).toInt = (u.1 0).toInt := by rw [eu615_]; rfl
            have z17_ : (u615_.1 1).toInt = (u.1 1).toInt := by rw [eu615_]; rfl
            refine okk_ck (vp_I (by omega) (by omega)) ?_
            have t19_ : (5 : Int32).toInt = (5 : Int) := (by decide : (5 : Int32).toInt = 5)
            refine okk_gl (fun u718_ eu718_ => ?_)
            have Iu718_ : IC g u718_ := by rw [eu718_]; exact IC_wx Iu615_ 15 _ _ rfl rfl (by decide)
            have z20_ : (u718_.1 0).toInt = (u615_.1 0).toInt := by rw [eu718_]; rfl
            have z21_ : (u718_.1 1).toInt = (u615_.1 1).toInt := by rw [eu718_]; rfl
            have z22_ := IC_s Iu718_
            refine okk_bi (okk_fcA_moveAll Iu718_ (by omega) (by omega)) (fun v23_ hv23_ => ?_)
            obtain ⟨p24_, p25_, p26_⟩ := hv23_
            refine okk_ck (vp_I (by omega) (by omega)) ?_
            have t28_ : (3 : Int32).toInt = (3 : Int) := (by decide : (3 : Int32).toInt = 3)
            refine okk_gl (fun u927_ eu927_ => ?_)
            have Iu927_ : IC g u927_ := by rw [eu927_]; exact IC_w17m p24_ _ (by have := cl_I (x := p1) (by omega); omega)
            have z29_ : (u927_.1 0).toInt = (v23_.1 0).toInt := by rw [eu927_]; rfl
            have z30_ : (u927_.1 1).toInt = (v23_.1 1).toInt := by rw [eu927_]; rfl
            refine okk_ck (vp_I (by omega) (by omega)) ?_
            have t32_ : (-1 : Int32).toInt = (-1 : Int) := (by decide : (-1 : Int32).toInt = -1)
            refine okk_gl (fun u1031_ eu1031_ => ?_)
            have Iu1031_ : IC g u1031_ := by rw [eu1031_]; exact IC_w19m Iu927_ _ _ (by omega) (by omega) (by rw [eu927_, rdA, if_pos ⟨rfl, rfl⟩]) (by have := cl_I (x := p1) (by omega); omega)
            have z33_ : (u1031_.1 0).toInt = (u927_.1 0).toInt := by rw [eu1031_]; rfl
            have z34_ : (u1031_.1 1).toInt = (u927_.1 1).toInt := by rw [eu1031_]; rfl
            have z35_ := IC_s Iu1031_
            refine okk_bi (okk_fcA_countIn Iu1031_) (fun v36_ hv36_ => ?_)
            have p37_ := hv36_
            exact okk_some (⟨Iu1031_, (by show 0 = 0 ∨ 0 = 1 ∨ 0 = 3; omega)⟩)
    · refine okk_t (by decide) ?_
      unfold fcJ_merge_33
      refine okk_bs (v := (1 : Nat)) (by decide) ?_
      refine okk_f (by decide) ?_
      try have t38_ : (0 : Int32).toInt = (0 : Int) := (by decide : (0 : Int32).toInt = 0)
      exact okk_some (⟨I, (by show 1 = 0 ∨ 1 = 1 ∨ 1 = 3; omega)⟩)
  · refine okk_t (by decide) ?_
    unfold fcJ_merge_33
    refine okk_bs (v := (1 : Nat)) (by decide) ?_
    refine okk_f (by decide) ?_
    try have t39_ : (0 : Int32).toInt = (0 : Int) := (by decide : (0 : Int32).toInt = 0)
    exact okk_some (⟨I, (by show 1 = 0 ∨ 1 = 1 ∨ 1 = 3; omega)⟩)
