set_option maxHeartbeats 4000000 in
theorem okl_fcJ_rule {g : Nat → Int32} {u : g_S} (I : IC g u) {p1 : Int32} {p2 : Int32} {p3 : Int32} {p4 : Int32} {p5 : Int32} : okk (fcJ_rule u p1 p2 p3 p4 p5) (fun r => IC g r.2 ∧ ((r.1 = 1 ∧ ¬ (0 ≤ p1.toInt ∧ p1.toInt ≤ 7)) ∨ (r.1 = 2 ∧ (0 ≤ p1.toInt ∧ p1.toInt ≤ 7) ∧ ¬ (0 ≤ p2.toInt ∧ p2.toInt ≤ 20000 ∧ 0 ≤ p3.toInt ∧ p3.toInt ≤ 100000 ∧ 0 ≤ p4.toInt ∧ p4.toInt ≤ 100 ∧ 1 ≤ p5.toInt ∧ p5.toInt ≤ 100)) ∨ (r.1 = 0 ∧ (0 ≤ p1.toInt ∧ p1.toInt ≤ 7) ∧ (0 ≤ p2.toInt ∧ p2.toInt ≤ 20000 ∧ 0 ≤ p3.toInt ∧ p3.toInt ≤ 100000 ∧ 0 ≤ p4.toInt ∧ p4.toInt ≤ 100 ∧ 1 ≤ p5.toInt ∧ p5.toInt ≤ 100))) ∧ (r.1 = 0 → r.2 = g_sA (g_sA (g_sA (g_sA u 0 p1 p2) 1 p1 p3) 2 p1 p4) 3 p1 p5) ∧ (¬ r.1 = 0 → r.2 = u)) := by
  unfold fcJ_rule
  have z1_ := IC_s I
  try have t2_ : (8 : Int32).toInt = (8 : Int) := (by decide : (8 : Int32).toInt = 8)
  refine okk_isBelow (fun b3_ => ?_) (fun b3_ => ?_)
  · refine okk_bs (v := (0 : Nat)) (by decide) ?_
    refine okk_t (by decide) ?_
    try have t4_ : (20001 : Int32).toInt = (20001 : Int) := (by decide : (20001 : Int32).toInt = 20001)
    refine okk_isBelow (fun b5_ => ?_) (fun b5_ => ?_)
    · refine okk_bs (v := (0 : Nat)) (by decide) ?_
      refine okk_t (by decide) ?_
      try have t6_ : (100001 : Int32).toInt = (100001 : Int) := (by decide : (100001 : Int32).toInt = 100001)
      refine okk_isBelow (fun b7_ => ?_) (fun b7_ => ?_)
      · refine okk_bs (v := (0 : Nat)) (by decide) ?_
        refine okk_t (by decide) ?_
        try have t8_ : (101 : Int32).toInt = (101 : Int) := (by decide : (101 : Int32).toInt = 101)
        refine okk_isBelow (fun b9_ => ?_) (fun b9_ => ?_)
        · refine okk_bs (v := (0 : Nat)) (by decide) ?_
          refine okk_t (by decide) ?_
          try have t11_ : (1 : Int32).toInt = (1 : Int) := (by decide : (1 : Int32).toInt = 1)
          refine okk_lt (fun c10_ c10_I => ?_) (fun c10_ c10_I => ?_)
          · unfold fcJ_rule_56
            refine okk_bs (v := (2 : Nat)) (by decide) ?_
            refine okk_f (by decide) ?_
            exact okk_some (⟨I, (by show (2 = 1 ∧ ¬ (0 ≤ p1.toInt ∧ p1.toInt ≤ 7)) ∨ (2 = 2 ∧ (0 ≤ p1.toInt ∧ p1.toInt ≤ 7) ∧ ¬ (0 ≤ p2.toInt ∧ p2.toInt ≤ 20000 ∧ 0 ≤ p3.toInt ∧ p3.toInt ≤ 100000 ∧ 0 ≤ p4.toInt ∧ p4.toInt ≤ 100 ∧ 1 ≤ p5.toInt ∧ p5.toInt ≤ 100)) ∨ (2 = 0 ∧ (0 ≤ p1.toInt ∧ p1.toInt ≤ 7) ∧ (0 ≤ p2.toInt ∧ p2.toInt ≤ 20000 ∧ 0 ≤ p3.toInt ∧ p3.toInt ≤ 100000 ∧ 0 ≤ p4.toInt ∧ p4.toInt ≤ 100 ∧ 1 ≤ p5.toInt ∧ p5.toInt ≤ 100)); omega), (fun q => by simp at q), (fun _ => rfl)⟩)
          · try have t13_ : (100 : Int32).toInt = (100 : Int) := (by decide : (100 : Int32).toInt = 100)
            refine okk_lt (fun c12_ c12_I => ?_) (fun c12_ c12_I => ?_)
            · unfold fcJ_rule_56
              refine okk_bs (v := (2 : Nat)) (by decide) ?_
              refine okk_f (by decide) ?_
              exact okk_some (⟨I, (by show (2 = 1 ∧ ¬ (0 ≤ p1.toInt ∧ p1.toInt ≤ 7)) ∨ (2 = 2 ∧ (0 ≤ p1.toInt ∧ p1.toInt ≤ 7) ∧ ¬ (0 ≤ p2.toInt ∧ p2.toInt ≤ 20000 ∧ 0 ≤ p3.toInt ∧ p3.toInt ≤ 100000 ∧ 0 ≤ p4.toInt ∧ p4.toInt ≤ 100 ∧ 1 ≤ p5.toInt ∧ p5.toInt ≤ 100)) ∨ (2 = 0 ∧ (0 ≤ p1.toInt ∧ p1.toInt ≤ 7) ∧ (0 ≤ p2.toInt ∧ p2.toInt ≤ 20000 ∧ 0 ≤ p3.toInt ∧ p3.toInt ≤ 100000 ∧ 0 ≤ p4.toInt ∧ p4.toInt ≤ 100 ∧ 1 ≤ p5.toInt ∧ p5.toInt ≤ 100)); omega), (fun q => by simp at q), (fun _ => rfl)⟩)
            · unfold fcJ_rule_56
              refine okk_bs (v := (0 : Nat)) (by decide) ?_
              refine okk_t (by decide) ?_
              refine okk_ck (vp_I (by omega) (by omega)) ?_
              refine okk_gl (fun u1014_ eu1014_ => ?_)
              have Iu1014_ : IC g u1014_ := by rw [eu1014_]; exact IC_wx I 0 _ _ rfl rfl (by decide)
              have z15_ : (u1014_.1 0).toInt = (u.1 0).toInt := by rw [eu1014_]; rfl
              have z16_ : (u1014_.1 1).toInt = (u.1 1).toInt := by rw [eu1014_]; rfl
              refine okk_ck (vp_I (by omega) (by omega)) ?_
              refine okk_gl (fun u1117_ eu1117_ => ?_)
              have Iu1117_ : IC g u1117_ := by rw [eu1117_]; exact IC_wx Iu1014_ 1 _ _ rfl rfl (by decide)
              have z18_ : (u1117_.1 0).toInt = (u1014_.1 0).toInt := by rw [eu1117_]; rfl
              have z19_ : (u1117_.1 1).toInt = (u1014_.1 1).toInt := by rw [eu1117_]; rfl
              refine okk_ck (vp_I (by omega) (by omega)) ?_
              refine okk_gl (fun u1220_ eu1220_ => ?_)
              have Iu1220_ : IC g u1220_ := by rw [eu1220_]; exact IC_wx Iu1117_ 2 _ _ rfl rfl (by decide)
              have z21_ : (u1220_.1 0).toInt = (u1117_.1 0).toInt := by rw [eu1220_]; rfl
              have z22_ : (u1220_.1 1).toInt = (u1117_.1 1).toInt := by rw [eu1220_]; rfl
              refine okk_ck (vp_I (by omega) (by omega)) ?_
              refine okk_gl (fun u1323_ eu1323_ => ?_)
              have Iu1323_ : IC g u1323_ := by rw [eu1323_]; exact IC_wx Iu1220_ 3 _ _ rfl rfl (by decide)
              have z24_ : (u1323_.1 0).toInt = (u1220_.1 0).toInt := by rw [eu1323_]; rfl
              have z25_ : (u1323_.1 1).toInt = (u1220_.1 1).toInt := by rw [eu1323_]; rfl
              exact okk_some (⟨Iu1323_, (by show (0 = 1 ∧ ¬ (0 ≤ p1.toInt ∧ p1.toInt ≤ 7)) ∨ (0 = 2 ∧ (0 ≤ p1.toInt ∧ p1.toInt ≤ 7) ∧ ¬ (0 ≤ p2.toInt ∧ p2.toInt ≤ 20000 ∧ 0 ≤ p3.toInt ∧ p3.toInt ≤ 100000 ∧ 0 ≤ p4.toInt ∧ p4.toInt ≤ 100 ∧ 1 ≤ p5.toInt ∧ p5.toInt ≤ 100)) ∨ (0 = 0 ∧ (0 ≤ p1.toInt ∧ p1.toInt ≤ 7) ∧ (0 ≤ p2.toInt ∧ p2.toInt ≤ 20000 ∧ 0 ≤ p3.toInt ∧ p3.toInt ≤ 100000 ∧ 0 ≤ p4.toInt ∧ p4.toInt ≤ 100 ∧ 1 ≤ p5.toInt ∧ p5.toInt ≤ 100)); omega), (fun _ => by rw [eu1323_, eu1220_, eu1117_, eu1014_]), (fun q => absurd rfl q)⟩)
        · refine okk_bs (v := (2 : Nat)) (by decide) ?_
          refine okk_f (by decide) ?_
          exact okk_some (⟨I, (by show (2 = 1 ∧ ¬ (0 ≤ p1.toInt ∧ p1.toInt ≤ 7)) ∨ (2 = 2 ∧ (0 ≤ p1.toInt ∧ p1.toInt ≤ 7) ∧ ¬ (0 ≤ p2.toInt ∧ p2.toInt ≤ 20000 ∧ 0 ≤ p3.toInt ∧ p3.toInt ≤ 100000 ∧ 0 ≤ p4.toInt ∧ p4.toInt ≤ 100 ∧ 1 ≤ p5.toInt ∧ p5.toInt ≤ 100)) ∨ (2 = 0 ∧ (0 ≤ p1.toInt ∧ p1.toInt ≤ 7) ∧ (0 ≤ p2.toInt ∧ p2.toInt ≤ 20000 ∧ 0 ≤ p3.toInt ∧ p3.toInt ≤ 100000 ∧ 0 ≤ p4.toInt ∧ p4.toInt ≤ 100 ∧ 1 ≤ p5.toInt ∧ p5.toInt ≤ 100)); omega), (fun q => by simp at q), (fun _ => rfl)⟩)
      · refine okk_bs (v := (2 : Nat)) (by decide) ?_
        refine okk_f (by decide) ?_
        exact okk_some (⟨I, (by show (2 = 1 ∧ ¬ (0 ≤ p1.toInt ∧ p1.toInt ≤ 7)) ∨ (2 = 2 ∧ (0 ≤ p1.toInt ∧ p1.toInt ≤ 7) ∧ ¬ (0 ≤ p2.toInt ∧ p2.toInt ≤ 20000 ∧ 0 ≤ p3.toInt ∧ p3.toInt ≤ 100000 ∧ 0 ≤ p4.toInt ∧ p4.toInt ≤ 100 ∧ 1 ≤ p5.toInt ∧ p5.toInt ≤ 100)) ∨ (2 = 0 ∧ (0 ≤ p1.toInt ∧ p1.toInt ≤ 7) ∧ (0 ≤ p2.toInt ∧ p2.toInt ≤ 20000 ∧ 0 ≤ p3.toInt ∧ p3.toInt ≤ 100000 ∧ 0 ≤ p4.toInt ∧ p4.toInt ≤ 100 ∧ 1 ≤ p5.toInt ∧ p5.toInt ≤ 100)); omega), (fun q => by simp at q), (fun _ => rfl)⟩)
    · refine okk_bs (v := (2 : Nat)) (by decide) ?_
      refine okk_f (by decide) ?_
      exact okk_some (⟨I, (by show (2 = 1 ∧ ¬ (0 ≤ p1.toInt ∧ p1.toInt ≤ 7)) ∨ (2 = 2 ∧ (0 ≤ p1.toInt ∧ p1.toInt ≤ 7) ∧ ¬ (0 ≤ p2.toInt ∧ p2.toInt ≤ 20000 ∧ 0 ≤ p3.toInt ∧ p3.toInt ≤ 100000 ∧ 0 ≤ p4.toInt ∧ p4.toInt ≤ 100 ∧ 1 ≤ p5.toInt ∧ p5.toInt ≤ 100)) ∨ (2 = 0 ∧ (0 ≤ p1.toInt ∧ p1.toInt ≤ 7) ∧ (0 ≤ p2.toInt ∧ p2.toInt ≤ 20000 ∧ 0 ≤ p3.toInt ∧ p3.toInt ≤ 100000 ∧ 0 ≤ p4.toInt ∧ p4.toInt ≤ 100 ∧ 1 ≤ p5.toInt ∧ p5.toInt ≤ 100)); omega), (fun q => by simp at q), (fun _ => rfl)⟩)
  · refine okk_bs (v := (1 : Nat)) (by decide) ?_
    refine okk_f (by decide) ?_
    exact okk_some (⟨I, (by show (1 = 1 ∧ ¬ (0 ≤ p1.toInt ∧ p1.toInt ≤ 7)) ∨ (1 = 2 ∧ (0 ≤ p1.toInt ∧ p1.toInt ≤ 7) ∧ ¬ (0 ≤ p2.toInt ∧ p2.toInt ≤ 20000 ∧ 0 ≤ p3.toInt ∧ p3.toInt ≤ 100000 ∧ 0 ≤ p4.toInt ∧ p4.toInt ≤ 100 ∧ 1 ≤ p5.toInt ∧ p5.toInt ≤ 100)) ∨ (1 = 0 ∧ (0 ≤ p1.toInt ∧ p1.toInt ≤ 7) ∧ (0 ≤ p2.toInt ∧ p2.toInt ≤ 20000 ∧ 0 ≤ p3.toInt ∧ p3.toInt ≤ 100000 ∧ 0 ≤ p4.toInt ∧ p4.toInt ≤ 100 ∧ 1 ≤ p5.toInt ∧ p5.toInt ≤ 100)); omega), (fun q => by simp at q), (fun _ => rfl)⟩)
set_option maxHeartbeats 4000000 in
theorem okl_fm_rule {g : Nat → Int32} {u : g_S} (I : IM g u) {p1 : Int32} {p2 : Int32} {p3 : Int32} {p4 : Int32} {p5 : Int32} : okk (fm_rule u p1 p2 p3 p4 p5) (fun r => IM g r ∧ (((r.1 0).toInt = 1 ∧ ¬ (0 ≤ p1.toInt ∧ p1.toInt ≤ 7)) ∨ ((r.1 0).toInt = 2 ∧ (0 ≤ p1.toInt ∧ p1.toInt ≤ 7) ∧ ¬ (0 ≤ p2.toInt ∧ p2.toInt ≤ 20000 ∧ 0 ≤ p3.toInt ∧ p3.toInt ≤ 100000 ∧ 0 ≤ p4.toInt ∧ p4.toInt ≤ 100 ∧ 1 ≤ p5.toInt ∧ p5.toInt ≤ 100)) ∨ ((r.1 0).toInt = 0 ∧ (0 ≤ p1.toInt ∧ p1.toInt ≤ 7) ∧ (0 ≤ p2.toInt ∧ p2.toInt ≤ 20000 ∧ 0 ≤ p3.toInt ∧ p3.toInt ≤ 100000 ∧ 0 ≤ p4.toInt ∧ p4.toInt ≤ 100 ∧ 1 ≤ p5.toInt ∧ p5.toInt ≤ 100))) ∧ ((r.1 0).toInt = 0 → r = g_sA (g_sA (g_sA (g_sA (g_sI u 0 (0 : Int32)) 0 p1 p2) 1 p1 p3) 2 p1 p4) 3 p1 p5) ∧ (¬ (r.1 0).toInt = 0 → ∃ k : Int32, r = g_sI u 0 k)) := by
  unfold fm_rule
  have z1_ := IM_s I
  try have t2_ : (0 : Int32).toInt = (0 : Int) := (by decide : (0 : Int32).toInt = 0)
  try have t3_ : (20000 : Int32).toInt = (20000 : Int) := (by decide : (20000 : Int32).toInt = 20000)
  refine okk_in (fun b4_ => ?_) (fun b4_ => ?_)
  · refine okk_f (by decide) ?_
    try have t5_ : (100000 : Int32).toInt = (100000 : Int) := (by decide : (100000 : Int32).toInt = 100000)
    refine okk_in (fun b6_ => ?_) (fun b6_ => ?_)
    · refine okk_f (by decide) ?_
      try have t7_ : (100 : Int32).toInt = (100 : Int) := (by decide : (100 : Int32).toInt = 100)
      refine okk_in (fun b8_ => ?_) (fun b8_ => ?_)
      · refine okk_f (by decide) ?_
        try have t9_ : (1 : Int32).toInt = (1 : Int) := (by decide : (1 : Int32).toInt = 1)
        refine okk_in (fun b10_ => ?_) (fun b10_ => ?_)
        · refine okk_t (by decide) ?_
          unfold fm_rule_48
          refine okk_isKind (fun b11_ => ?_) (fun b11_ => ?_)
          · refine okk_t (by decide) ?_
            unfold fm_rule_63
            obtain ⟨u12_, eu12_⟩ : ∃ y, y = g_sI u 0 (0 : Int32) := ⟨_, rfl⟩
            refine okk_bs (v := ((0 : Int32), u12_)) (by rw [eu12_]; exact fm_thr_0 _) ?_
            dsimp only
            have Iu12_ : IM g u12_ := by rw [eu12_]; exact IM_ix I _ (by decide)
            have h013_ : (u12_.1 0).toInt = 0 := by rw [eu12_, rdI, if_pos rfl]; decide
            have z14_ : (u12_.1 1).toInt = (u.1 1).toInt := by rw [eu12_]; rfl
            have z15_ : (u12_.1 2).toInt = (u.1 2).toInt := by rw [eu12_]; rfl
            refine okk_t (by decide) ?_
            refine okk_ck (vp_I (by omega) (by omega)) ?_
            refine okk_gl (fun u416_ eu416_ => ?_)
            have Iu416_ : IM g u416_ := by rw [eu416_]; exact IM_wx Iu12_ 0 _ _ rfl rfl (by decide)
            have z17_ : (u416_.1 0).toInt = (u12_.1 0).toInt := by rw [eu416_]; rfl
            have z18_ : (u416_.1 1).toInt = (u12_.1 1).toInt := by rw [eu416_]; rfl
            have z19_ : (u416_.1 2).toInt = (u12_.1 2).toInt := by rw [eu416_]; rfl
            refine okk_ck (vp_I (by omega) (by omega)) ?_
            refine okk_gl (fun u520_ eu520_ => ?_)
            have Iu520_ : IM g u520_ := by rw [eu520_]; exact IM_wx Iu416_ 1 _ _ rfl rfl (by decide)
            have z21_ : (u520_.1 0).toInt = (u416_.1 0).toInt := by rw [eu520_]; rfl
            have z22_ : (u520_.1 1).toInt = (u416_.1 1).toInt := by rw [eu520_]; rfl
            have z23_ : (u520_.1 2).toInt = (u416_.1 2).toInt := by rw [eu520_]; rfl
            refine okk_ck (vp_I (by omega) (by omega)) ?_
            refine okk_gl (fun u624_ eu624_ => ?_)
            have Iu624_ : IM g u624_ := by rw [eu624_]; exact IM_wx Iu520_ 2 _ _ rfl rfl (by decide)
            have z25_ : (u624_.1 0).toInt = (u520_.1 0).toInt := by rw [eu624_]; rfl
            have z26_ : (u624_.1 1).toInt = (u520_.1 1).toInt := by rw [eu624_]; rfl
            have z27_ : (u624_.1 2).toInt = (u520_.1 2).toInt := by rw [eu624_]; rfl
            refine okk_ck (vp_I (by omega) (by omega)) ?_
            refine okk_gl (fun u728_ eu728_ => ?_)
            have Iu728_ : IM g u728_ := by rw [eu728_]; exact IM_wx Iu624_ 3 _ _ rfl rfl (by decide)
            have z29_ : (u728_.1 0).toInt = (u624_.1 0).toInt := by rw [eu728_]; rfl
            have z30_ : (u728_.1 1).toInt = (u624_.1 1).toInt := by rw [eu728_]; rfl
            have z31_ : (u728_.1 2).toInt = (u624_.1 2).toInt := by rw [eu728_]; rfl
            exact okk_some (⟨Iu728_, (by show ((u728_.1 0).toInt = 1 ∧ ¬ (0 ≤ p1.toInt ∧ p1.toInt ≤ 7)) ∨ ((u728_.1 0).toInt = 2 ∧ (0 ≤ p1.toInt ∧ p1.toInt ≤ 7) ∧ ¬ (0 ≤ p2.toInt ∧ p2.toInt ≤ 20000 ∧ 0 ≤ p3.toInt ∧ p3.toInt ≤ 100000 ∧ 0 ≤ p4.toInt ∧ p4.toInt ≤ 100 ∧ 1 ≤ p5.toInt ∧ p5.toInt ≤ 100)) ∨ ((u728_.1 0).toInt = 0 ∧ (0 ≤ p1.toInt ∧ p1.toInt ≤ 7) ∧ (0 ≤ p2.toInt ∧ p2.toInt ≤ 20000 ∧ 0 ≤ p3.toInt ∧ p3.toInt ≤ 100000 ∧ 0 ≤ p4.toInt ∧ p4.toInt ≤ 100 ∧ 1 ≤ p5.toInt ∧ p5.toInt ≤ 100)); omega), (fun _ => by rw [eu728_, eu624_, eu520_, eu416_, eu12_]), (fun q => absurd (by omega) q)⟩)
          · refine okk_f (by decide) ?_
            unfold fm_rule_63
            obtain ⟨u32_, eu32_⟩ : ∃ y, y = g_sI u 0 (1 : Int32) := ⟨_, rfl⟩
            refine okk_bs (v := ((1 : Int32), u32_)) (by rw [eu32_]; exact fm_thr_1 _ _ _) ?_
            dsimp only
            have Iu32_ : IM g u32_ := by rw [eu32_]; exact IM_ix I _ (by decide)
            have h033_ : (u32_.1 0).toInt = 1 := by rw [eu32_, rdI, if_pos rfl]; decide
            have z34_ : (u32_.1 1).toInt = (u.1 1).toInt := by rw [eu32_]; rfl
            have z35_ : (u32_.1 2).toInt = (u.1 2).toInt := by rw [eu32_]; rfl
            refine okk_f (by decide) ?_
            exact okk_some (⟨Iu32_, (by show ((u32_.1 0).toInt = 1 ∧ ¬ (0 ≤ p1.toInt ∧ p1.toInt ≤ 7)) ∨ ((u32_.1 0).toInt = 2 ∧ (0 ≤ p1.toInt ∧ p1.toInt ≤ 7) ∧ ¬ (0 ≤ p2.toInt ∧ p2.toInt ≤ 20000 ∧ 0 ≤ p3.toInt ∧ p3.toInt ≤ 100000 ∧ 0 ≤ p4.toInt ∧ p4.toInt ≤ 100 ∧ 1 ≤ p5.toInt ∧ p5.toInt ≤ 100)) ∨ ((u32_.1 0).toInt = 0 ∧ (0 ≤ p1.toInt ∧ p1.toInt ≤ 7) ∧ (0 ≤ p2.toInt ∧ p2.toInt ≤ 20000 ∧ 0 ≤ p3.toInt ∧ p3.toInt ≤ 100000 ∧ 0 ≤ p4.toInt ∧ p4.toInt ≤ 100 ∧ 1 ≤ p5.toInt ∧ p5.toInt ≤ 100)); omega), (fun q => absurd q (by omega)), (fun _ => ⟨_, by rw [eu32_]⟩)⟩)
        · refine okk_f (by decide) ?_
          unfold fm_rule_48
          refine okk_isKind (fun b36_ => ?_) (fun b36_ => ?_)
          · refine okk_t (by decide) ?_
            unfold fm_rule_63
            obtain ⟨u37_, eu37_⟩ : ∃ y, y = g_sI u 0 (2 : Int32) := ⟨_, rfl⟩
            refine okk_bs (v := ((1 : Int32), u37_)) (by rw [eu37_]; exact fm_thr_2 _ _) ?_
            dsimp only
            have Iu37_ : IM g u37_ := by rw [eu37_]; exact IM_ix I _ (by decide)
            have h038_ : (u37_.1 0).toInt = 2 := by rw [eu37_, rdI, if_pos rfl]; decide
            have z39_ : (u37_.1 1).toInt = (u.1 1).toInt := by rw [eu37_]; rfl
            have z40_ : (u37_.1 2).toInt = (u.1 2).toInt := by rw [eu37_]; rfl
            refine okk_f (by decide) ?_
            exact okk_some (⟨Iu37_, (by show ((u37_.1 0).toInt = 1 ∧ ¬ (0 ≤ p1.toInt ∧ p1.toInt ≤ 7)) ∨ ((u37_.1 0).toInt = 2 ∧ (0 ≤ p1.toInt ∧ p1.toInt ≤ 7) ∧ ¬ (0 ≤ p2.toInt ∧ p2.toInt ≤ 20000 ∧ 0 ≤ p3.toInt ∧ p3.toInt ≤ 100000 ∧ 0 ≤ p4.toInt ∧ p4.toInt ≤ 100 ∧ 1 ≤ p5.toInt ∧ p5.toInt ≤ 100)) ∨ ((u37_.1 0).toInt = 0 ∧ (0 ≤ p1.toInt ∧ p1.toInt ≤ 7) ∧ (0 ≤ p2.toInt ∧ p2.toInt ≤ 20000 ∧ 0 ≤ p3.toInt ∧ p3.toInt ≤ 100000 ∧ 0 ≤ p4.toInt ∧ p4.toInt ≤ 100 ∧ 1 ≤ p5.toInt ∧ p5.toInt ≤ 100)); omega), (fun q => absurd q (by omega)), (fun _ => ⟨_, by rw [eu37_]⟩)⟩)
          · refine okk_f (by decide) ?_
            unfold fm_rule_63
            obtain ⟨u41_, eu41_⟩ : ∃ y, y = g_sI u 0 (1 : Int32) := ⟨_, rfl⟩
            refine okk_bs (v := ((1 : Int32), u41_)) (by rw [eu41_]; exact fm_thr_1 _ _ _) ?_
            dsimp only
            have Iu41_ : IM g u41_ := by rw [eu41_]; exact IM_ix I _ (by decide)
            have h042_ : (u41_.1 0).toInt = 1 := by rw [eu41_, rdI, if_pos rfl]; decide
            have z43_ : (u41_.1 1).toInt = (u.1 1).toInt := by rw [eu41_]; rfl
            have z44_ : (u41_.1 2).toInt = (u.1 2).toInt := by rw [eu41_]; rfl
            refine okk_f (by decide) ?_
            exact okk_some (⟨Iu41_, (by show ((u41_.1 0).toInt = 1 ∧ ¬ (0 ≤ p1.toInt ∧ p1.toInt ≤ 7)) ∨ ((u41_.1 0).toInt = 2 ∧ (0 ≤ p1.toInt ∧ p1.toInt ≤ 7) ∧ ¬ (0 ≤ p2.toInt ∧ p2.toInt ≤ 20000 ∧ 0 ≤ p3.toInt ∧ p3.toInt ≤ 100000 ∧ 0 ≤ p4.toInt ∧ p4.toInt ≤ 100 ∧ 1 ≤ p5.toInt ∧ p5.toInt ≤ 100)) ∨ ((u41_.1 0).toInt = 0 ∧ (0 ≤ p1.toInt ∧ p1.toInt ≤ 7) ∧ (0 ≤ p2.toInt ∧ p2.toInt ≤ 20000 ∧ 0 ≤ p3.toInt ∧ p3.toInt ≤ 100000 ∧ 0 ≤ p4.toInt ∧ p4.toInt ≤ 100 ∧ 1 ≤ p5.toInt ∧ p5.toInt ≤ 100)); omega), (fun q => absurd q (by omega)), (fun _ => ⟨_, by rw [eu41_]⟩)⟩)
      · refine okk_t (by decide) ?_
        unfold fm_rule_48
        refine okk_isKind (fun b45_ => ?_) (fun b45_ => ?_)
        · refine okk_t (by decide) ?_
          unfold fm_rule_63
          obtain ⟨u46_, eu46_⟩ : ∃ y, y = g_sI u 0 (2 : Int32) := ⟨_, rfl⟩
          refine okk_bs (v := ((1 : Int32), u46_)) (by rw [eu46_]; exact fm_thr_2 _ _) ?_
          dsimp only
          have Iu46_ : IM g u46_ := by rw [eu46_]; exact IM_ix I _ (by decide)
          have h047_ : (u46_.1 0).toInt = 2 := by rw [eu46_, rdI, if_pos rfl]; decide
          have z48_ : (u46_.1 1).toInt = (u.1 1).toInt := by rw [eu46_]; rfl
          have z49_ : (u46_.1 2).toInt = (u.1 2).toInt := by rw [eu46_]; rfl
          refine okk_f (by decide) ?_
          exact okk_some (⟨Iu46_, (by show ((u46_.1 0).toInt = 1 ∧ ¬ (0 ≤ p1.toInt ∧ p1.toInt ≤ 7)) ∨ ((u46_.1 0).toInt = 2 ∧ (0 ≤ p1.toInt ∧ p1.toInt ≤ 7) ∧ ¬ (0 ≤ p2.toInt ∧ p2.toInt ≤ 20000 ∧ 0 ≤ p3.toInt ∧ p3.toInt ≤ 100000 ∧ 0 ≤ p4.toInt ∧ p4.toInt ≤ 100 ∧ 1 ≤ p5.toInt ∧ p5.toInt ≤ 100)) ∨ ((u46_.1 0).toInt = 0 ∧ (0 ≤ p1.toInt ∧ p1.toInt ≤ 7) ∧ (0 ≤ p2.toInt ∧ p2.toInt ≤ 20000 ∧ 0 ≤ p3.toInt ∧ p3.toInt ≤ 100000 ∧ 0 ≤ p4.toInt ∧ p4.toInt ≤ 100 ∧ 1 ≤ p5.toInt ∧ p5.toInt ≤ 100)); omega), (fun q => absurd q (by omega)), (fun _ => ⟨_, by rw [eu46_]⟩)⟩)
        · refine okk_f (by decide) ?_
          unfold fm_rule_63
          obtain ⟨u50_, eu50_⟩ : ∃ y, y = g_sI u 0 (1 : Int32) := ⟨_, rfl⟩
          refine okk_bs (v := ((1 : Int32), u50_)) (by rw [eu50_]; exact fm_thr_1 _ _ _) ?_
          dsimp only
          have Iu50_ : IM g u50_ := by rw [eu50_]; exact IM_ix I _ (by decide)
          have h051_ : (u50_.1 0).toInt = 1 := by rw [eu50_, rdI, if_pos rfl]; decide
          have z52_ : (u50_.1 1).toInt = (u.1 1).toInt := by rw [eu50_]; rfl
          have z53_ : (u50_.1 2).toInt = (u.1 2).toInt := by rw [eu50_]; rfl
          refine okk_f (by decide) ?_
          exact okk_some (⟨Iu50_, (by show ((u50_.1 0).toInt = 1 ∧ ¬ (0 ≤ p1.toInt ∧ p1.toInt ≤ 7)) ∨ ((u50_.1 0).toInt = 2 ∧ (0 ≤ p1.toInt ∧ p1.toInt ≤ 7) ∧ ¬ (0 ≤ p2.toInt ∧ p2.toInt ≤ 20000 ∧ 0 ≤ p3.toInt ∧ p3.toInt ≤ 100000 ∧ 0 ≤ p4.toInt ∧ p4.toInt ≤ 100 ∧ 1 ≤ p5.toInt ∧ p5.toInt ≤ 100)) ∨ ((u50_.1 0).toInt = 0 ∧ (0 ≤ p1.toInt ∧ p1.toInt ≤ 7) ∧ (0 ≤ p2.toInt ∧ p2.toInt ≤ 20000 ∧ 0 ≤ p3.toInt ∧ p3.toInt ≤ 100000 ∧ 0 ≤ p4.toInt ∧ p4.toInt ≤ 100 ∧ 1 ≤ p5.toInt ∧ p5.toInt ≤ 100)); omega), (fun q => absurd q (by omega)), (fun _ => ⟨_, by rw [eu50_]⟩)⟩)
    · refine okk_t (by decide) ?_
      unfold fm_rule_48
      refine okk_isKind (fun b54_ => ?_) (fun b54_ => ?_)
      · refine okk_t (by decide) ?_
        unfold fm_rule_63
        obtain ⟨u55_, eu55_⟩ : ∃ y, y = g_sI u 0 (2 : Int32) := ⟨_, rfl⟩
        refine okk_bs (v := ((1 : Int32), u55_)) (by rw [eu55_]; exact fm_thr_2 _ _) ?_
        dsimp only
        have Iu55_ : IM g u55_ := by rw [eu55_]; exact IM_ix I _ (by decide)
        have h056_ : (u55_.1 0).toInt = 2 := by rw [eu55_, rdI, if_pos rfl]; decide
        have z57_ : (u55_.1 1).toInt = (u.1 1).toInt := by rw [eu55_]; rfl
        have z58_ : (u55_.1 2).toInt = (u.1 2).toInt := by rw [eu55_]; rfl
        refine okk_f (by decide) ?_
        exact okk_some (⟨Iu55_, (by show ((u55_.1 0).toInt = 1 ∧ ¬ (0 ≤ p1.toInt ∧ p1.toInt ≤ 7)) ∨ ((u55_.1 0).toInt = 2 ∧ (0 ≤ p1.toInt ∧ p1.toInt ≤ 7) ∧ ¬ (0 ≤ p2.toInt ∧ p2.toInt ≤ 20000 ∧ 0 ≤ p3.toInt ∧ p3.toInt ≤ 100000 ∧ 0 ≤ p4.toInt ∧ p4.toInt ≤ 100 ∧ 1 ≤ p5.toInt ∧ p5.toInt ≤ 100)) ∨ ((u55_.1 0).toInt = 0 ∧ (0 ≤ p1.toInt ∧ p1.toInt ≤ 7) ∧ (0 ≤ p2.toInt ∧ p2.toInt ≤ 20000 ∧ 0 ≤ p3.toInt ∧ p3.toInt ≤ 100000 ∧ 0 ≤ p4.toInt ∧ p4.toInt ≤ 100 ∧ 1 ≤ p5.toInt ∧ p5.toInt ≤ 100)); omega), (fun q => absurd q (by omega)), (fun _ => ⟨_, by rw [eu55_]⟩)⟩)
      · refine okk_f (by decide) ?_
        unfold fm_rule_63
        obtain ⟨u59_, eu59_⟩ : ∃ y, y = g_sI u 0 (1 : Int32) := ⟨_, rfl⟩
        refine okk_bs (v := ((1 : Int32), u59_)) (by rw [eu59_]; exact fm_thr_1 _ _ _) ?_
        dsimp only
        have Iu59_ : IM g u59_ := by rw [eu59_]; exact IM_ix I _ (by decide)
        have h060_ : (u59_.1 0).toInt = 1 := by rw [eu59_, rdI, if_pos rfl]; decide
        have z61_ : (u59_.1 1).toInt = (u.1 1).toInt := by rw [eu59_]; rfl
        have z62_ : (u59_.1 2).toInt = (u.1 2).toInt := by rw [eu59_]; rfl
        refine okk_f (by decide) ?_
        exact okk_some (⟨Iu59_, (by show ((u59_.1 0).toInt = 1 ∧ ¬ (0 ≤ p1.toInt ∧ p1.toInt ≤ 7)) ∨ ((u59_.1 0).toInt = 2 ∧ (0 ≤ p1.toInt ∧ p1.toInt ≤ 7) ∧ ¬ (0 ≤ p2.toInt ∧ p2.toInt ≤ 20000 ∧ 0 ≤ p3.toInt ∧ p3.toInt ≤ 100000 ∧ 0 ≤ p4.toInt ∧ p4.toInt ≤ 100 ∧ 1 ≤ p5.toInt ∧ p5.toInt ≤ 100)) ∨ ((u59_.1 0).toInt = 0 ∧ (0 ≤ p1.toInt ∧ p1.toInt ≤ 7) ∧ (0 ≤ p2.toInt ∧ p2.toInt ≤ 20000 ∧ 0 ≤ p3.toInt ∧ p3.toInt ≤ 100000 ∧ 0 ≤ p4.toInt ∧ p4.toInt ≤ 100 ∧ 1 ≤ p5.toInt ∧ p5.toInt ≤ 100)); omega), (fun q => absurd q (by omega)), (fun _ => ⟨_, by rw [eu59_]⟩)⟩)
  · refine okk_t (by decide) ?_
    unfold fm_rule_48
    refine okk_isKind (fun b63_ => ?_) (fun b63_ => ?_)
    · refine okk_t (by decide) ?_
      unfold fm_rule_63
      obtain ⟨u64_, eu64_⟩ : ∃ y, y = g_sI u 0 (2 : Int32) := ⟨_, rfl⟩
      refine okk_bs (v := ((1 : Int32), u64_)) (by rw [eu64_]; exact fm_thr_2 _ _) ?_
      dsimp only
      have Iu64_ : IM g u64_ := by rw [eu64_]; exact IM_ix I _ (by decide)
      have h065_ : (u64_.1 0).toInt = 2 := by rw [eu64_, rdI, if_pos rfl]; decide
      have z66_ : (u64_.1 1).toInt = (u.1 1).toInt := by rw [eu64_]; rfl
      have z67_ : (u64_.1 2).toInt = (u.1 2).toInt := by rw [eu64_]; rfl
      refine okk_f (by decide) ?_
      exact okk_some (⟨Iu64_, (by show ((u64_.1 0).toInt = 1 ∧ ¬ (0 ≤ p1.toInt ∧ p1.toInt ≤ 7)) ∨ ((u64_.1 0).toInt = 2 ∧ (0 ≤ p1.toInt ∧ p1.toInt ≤ 7) ∧ ¬ (0 ≤ p2.toInt ∧ p2.toInt ≤ 20000 ∧ 0 ≤ p3.toInt ∧ p3.toInt ≤ 100000 ∧ 0 ≤ p4.toInt ∧ p4.toInt ≤ 100 ∧ 1 ≤ p5.toInt ∧ p5.toInt ≤ 100)) ∨ ((u64_.1 0).toInt = 0 ∧ (0 ≤ p1.toInt ∧ p1.toInt ≤ 7) ∧ (0 ≤ p2.toInt ∧ p2.toInt ≤ 20000 ∧ 0 ≤ p3.toInt ∧ p3.toInt ≤ 100000 ∧ 0 ≤ p4.toInt ∧ p4.toInt ≤ 100 ∧ 1 ≤ p5.toInt ∧ p5.toInt ≤ 100)); omega), (fun q => absurd q (by omega)), (fun _ => ⟨_, by rw [eu64_]⟩)⟩)
    · refine okk_f (by decide) ?_
      unfold fm_rule_63
      obtain ⟨u68_, eu68_⟩ : ∃ y, y = g_sI u 0 (1 : Int32) := ⟨_, rfl⟩
      refine okk_bs (v := ((1 : Int32), u68_)) (by rw [eu68_]; exact fm_thr_1 _ _ _) ?_
      dsimp only
      have Iu68_ : IM g u68_ := by rw [eu68_]; exact IM_ix I _ (by decide)
      have h069_ : (u68_.1 0).toInt = 1 := by rw [eu68_, rdI, if_pos rfl]; decide
      have z70_ : (u68_.1 1).toInt = (u.1 1).toInt := by rw [eu68_]; rfl
      have z71_ : (u68_.1 2).toInt = (u.1 2).toInt := by rw [eu68_]; rfl
      refine okk_f (by decide) ?_
      exact okk_some (⟨Iu68_, (by show ((u68_.1 0).toInt = 1 ∧ ¬ (0 ≤ p1.toInt ∧ p1.toInt ≤ 7)) ∨ ((u68_.1 0).toInt = 2 ∧ (0 ≤ p1.toInt ∧ p1.toInt ≤ 7) ∧ ¬ (0 ≤ p2.toInt ∧ p2.toInt ≤ 20000 ∧ 0 ≤ p3.toInt ∧ p3.toInt ≤ 100000 ∧ 0 ≤ p4.toInt ∧ p4.toInt ≤ 100 ∧ 1 ≤ p5.toInt ∧ p5.toInt ≤ 100)) ∨ ((u68_.1 0).toInt = 0 ∧ (0 ≤ p1.toInt ∧ p1.toInt ≤ 7) ∧ (0 ≤ p2.toInt ∧ p2.toInt ≤ 20000 ∧ 0 ≤ p3.toInt ∧ p3.toInt ≤ 100000 ∧ 0 ≤ p4.toInt ∧ p4.toInt ≤ 100 ∧ 1 ≤ p5.toInt ∧ p5.toInt ≤ 100)); omega), (fun q => absurd q (by omega)), (fun _ => ⟨_, by rw [eu68_]⟩)⟩)
set_option maxHeartbeats 4000000 in
theorem okl_fcJ_weight {g : Nat → Int32} {u : g_S} (I : IC g u) {p1 : Int32} {p2 : Int32} {p3 : Int32} : okk (fcJ_weight u p1 p2 p3) (fun r => IC g r.2 ∧ ((r.1 = 1 ∧ ¬ (0 ≤ p1.toInt ∧ p1.toInt ≤ 7 ∧ 0 ≤ p2.toInt ∧ p2.toInt ≤ 31)) ∨ (r.1 = 2 ∧ (0 ≤ p1.toInt ∧ p1.toInt ≤ 7 ∧ 0 ≤ p2.toInt ∧ p2.toInt ≤ 31) ∧ ¬ (0 ≤ p3.toInt ∧ p3.toInt ≤ 100)) ∨ (r.1 = 0 ∧ (0 ≤ p1.toInt ∧ p1.toInt ≤ 7 ∧ 0 ≤ p2.toInt ∧ p2.toInt ≤ 31) ∧ (0 ≤ p3.toInt ∧ p3.toInt ≤ 100))) ∧ (r.1 = 0 → r.2 = g_sA u 4 ((p1 * (32 : Int32)) + p2) p3) ∧ (¬ r.1 = 0 → r.2 = u)) := by
  unfold fcJ_weight
  have z1_ := IC_s I
  try have t2_ : (8 : Int32).toInt = (8 : Int) := (by decide : (8 : Int32).toInt = 8)
  refine okk_isBelow (fun b3_ => ?_) (fun b3_ => ?_)
  · refine okk_f (by decide) ?_
    try have t4_ : (32 : Int32).toInt = (32 : Int) := (by decide : (32 : Int32).toInt = 32)
    refine okk_isBelow (fun b5_ => ?_) (fun b5_ => ?_)
    · refine okk_f (by decide) ?_
      unfold fcJ_weight_23
      refine okk_bs (v := (0 : Nat)) (by decide) ?_
      refine okk_t (by decide) ?_
      try have t6_ : (101 : Int32).toInt = (101 : Int) := (by decide : (101 : Int32).toInt = 101)
      refine okk_isBelow (fun b7_ => ?_) (fun b7_ => ?_)
      · refine okk_bs (v := (0 : Nat)) (by decide) ?_
        refine okk_t (by decide) ?_
        have t8_ : ((p1 * (32 : Int32)) + p2).toInt = ((p1.toInt * (32 : Int)) + p2.toInt) := (oi_add (a := (p1 * (32 : Int32))) (b := p2) (oi_mul (a := p1) (b := (32 : Int32)) rfl (by decide : (32 : Int32).toInt = 32) (by omega) (by omega)) rfl (by omega) (by omega))
        refine okk_ck (vp_I (by omega) (by omega)) ?_
        refine okk_gl (fun u59_ eu59_ => ?_)
        have Iu59_ : IC g u59_ := by rw [eu59_]; exact IC_wx I 4 _ _ rfl rfl (by decide)
        have z10_ : (u59_.1 0).toInt = (u.1 0).toInt := by rw [eu59_]; rfl
        have z11_ : (u59_.1 1).toInt = (u.1 1).toInt := by rw [eu59_]; rfl
        exact okk_some (⟨Iu59_, (by show (0 = 1 ∧ ¬ (0 ≤ p1.toInt ∧ p1.toInt ≤ 7 ∧ 0 ≤ p2.toInt ∧ p2.toInt ≤ 31)) ∨ (0 = 2 ∧ (0 ≤ p1.toInt ∧ p1.toInt ≤ 7 ∧ 0 ≤ p2.toInt ∧ p2.toInt ≤ 31) ∧ ¬ (0 ≤ p3.toInt ∧ p3.toInt ≤ 100)) ∨ (0 = 0 ∧ (0 ≤ p1.toInt ∧ p1.toInt ≤ 7 ∧ 0 ≤ p2.toInt ∧ p2.toInt ≤ 31) ∧ (0 ≤ p3.toInt ∧ p3.toInt ≤ 100)); omega), (fun _ => by rw [eu59_]), (fun q => absurd rfl q)⟩)
      · refine okk_bs (v := (2 : Nat)) (by decide) ?_
        refine okk_f (by decide) ?_
        exact okk_some (⟨I, (by show (2 = 1 ∧ ¬ (0 ≤ p1.toInt ∧ p1.toInt ≤ 7 ∧ 0 ≤ p2.toInt ∧ p2.toInt ≤ 31)) ∨ (2 = 2 ∧ (0 ≤ p1.toInt ∧ p1.toInt ≤ 7 ∧ 0 ≤ p2.toInt ∧ p2.toInt ≤ 31) ∧ ¬ (0 ≤ p3.toInt ∧ p3.toInt ≤ 100)) ∨ (2 = 0 ∧ (0 ≤ p1.toInt ∧ p1.toInt ≤ 7 ∧ 0 ≤ p2.toInt ∧ p2.toInt ≤ 31) ∧ (0 ≤ p3.toInt ∧ p3.toInt ≤ 100)); omega), (fun q => by simp at q), (fun _ => rfl)⟩)
    · refine okk_t (by decide) ?_
      unfold fcJ_weight_23
      refine okk_bs (v := (1 : Nat)) (by decide) ?_
      refine okk_f (by decide) ?_
      exact okk_some (⟨I, (by show (1 = 1 ∧ ¬ (0 ≤ p1.toInt ∧ p1.toInt ≤ 7 ∧ 0 ≤ p2.toInt ∧ p2.toInt ≤ 31)) ∨ (1 = 2 ∧ (0 ≤ p1.toInt ∧ p1.toInt ≤ 7 ∧ 0 ≤ p2.toInt ∧ p2.toInt ≤ 31) ∧ ¬ (0 ≤ p3.toInt ∧ p3.toInt ≤ 100)) ∨ (1 = 0 ∧ (0 ≤ p1.toInt ∧ p1.toInt ≤ 7 ∧ 0 ≤ p2.toInt ∧ p2.toInt ≤ 31) ∧ (0 ≤ p3.toInt ∧ p3.toInt ≤ 100)); omega), (fun q => by simp at q), (fun _ => rfl)⟩)
  · refine okk_t (by decide) ?_
    unfold fcJ_weight_23
    refine okk_bs (v := (1 : Nat)) (by decide) ?_
    refine okk_f (by decide) ?_
    exact okk_some (⟨I, (by show (1 = 1 ∧ ¬ (0 ≤ p1.toInt ∧ p1.toInt ≤ 7 ∧ 0 ≤ p2.toInt ∧ p2.toInt ≤ 31)) ∨ (1 = 2 ∧ (0 ≤ p1.toInt ∧ p1.toInt ≤ 7 ∧ 0 ≤ p2.toInt ∧ p2.toInt ≤ 31) ∧ ¬ (0 ≤ p3.toInt ∧ p3.toInt ≤ 100)) ∨ (1 = 0 ∧ (0 ≤ p1.toInt ∧ p1.toInt ≤ 7 ∧ 0 ≤ p2.toInt ∧ p2.toInt ≤ 31) ∧ (0 ≤ p3.toInt ∧ p3.toInt ≤ 100)); omega), (fun q => by simp at q), (fun _ => rfl)⟩)
set_option maxHeartbeats 4000000 in
theorem okl_fm_weight {g : Nat → Int32} {u : g_S} (I : IM g u) {p1 : Int32} {p2 : Int32} {p3 : Int32} : okk (fm_weight u p1 p2 p3) (fun r => IM g r ∧ (((r.1 0).toInt = 1 ∧ ¬ (0 ≤ p1.toInt ∧ p1.toInt ≤ 7 ∧ 0 ≤ p2.toInt ∧ p2.toInt ≤ 31)) ∨ ((r.1 0).toInt = 2 ∧ (0 ≤ p1.toInt ∧ p1.toInt ≤ 7 ∧ 0 ≤ p2.toInt ∧ p2.toInt ≤ 31) ∧ ¬ (0 ≤ p3.toInt ∧ p3.toInt ≤ 100)) ∨ ((r.1 0).toInt = 0 ∧ (0 ≤ p1.toInt ∧ p1.toInt ≤ 7 ∧ 0 ≤ p2.toInt ∧ p2.toInt ≤ 31) ∧ (0 ≤ p3.toInt ∧ p3.toInt ≤ 100))) ∧ ((r.1 0).toInt = 0 → r = g_sA (g_sI u 0 (0 : Int32)) 4 (((32 : Int32) * p1) + p2) p3) ∧ (¬ (r.1 0).toInt = 0 → ∃ k : Int32, r = g_sI u 0 k)) := by
  unfold fm_weight
  have z1_ := IM_s I
  refine okk_isKind (fun b2_ => ?_) (fun b2_ => ?_)
  · refine okk_f (by decide) ?_
    try have t3_ : (0 : Int32).toInt = (0 : Int) := (by decide : (0 : Int32).toInt = 0)
    try have t4_ : (31 : Int32).toInt = (31 : Int) := (by decide : (31 : Int32).toInt = 31)
    refine okk_in (fun b5_ => ?_) (fun b5_ => ?_)
    · refine okk_t (by decide) ?_
      unfold fm_weight_23
      try have t6_ : (100 : Int32).toInt = (100 : Int) := (by decide : (100 : Int32).toInt = 100)
      refine okk_in (fun b7_ => ?_) (fun b7_ => ?_)
      · refine okk_t (by decide) ?_
        unfold fm_weight_38
        obtain ⟨u8_, eu8_⟩ : ∃ y, y = g_sI u 0 (0 : Int32) := ⟨_, rfl⟩
        refine okk_bs (v := ((0 : Int32), u8_)) (by rw [eu8_]; exact fm_thr_0 _) ?_
        dsimp only
        have Iu8_ : IM g u8_ := by rw [eu8_]; exact IM_ix I _ (by decide)
        have h09_ : (u8_.1 0).toInt = 0 := by rw [eu8_, rdI, if_pos rfl]; decide
        have z10_ : (u8_.1 1).toInt = (u.1 1).toInt := by rw [eu8_]; rfl
        have z11_ : (u8_.1 2).toInt = (u.1 2).toInt := by rw [eu8_]; rfl
        refine okk_t (by decide) ?_
        have t12_ : (((32 : Int32) * p1) + p2).toInt = (((32 : Int) * p1.toInt) + p2.toInt) := (oi_add (a := ((32 : Int32) * p1)) (b := p2) (oi_mul (a := (32 : Int32)) (b := p1) (by decide : (32 : Int32).toInt = 32) rfl (by omega) (by omega)) rfl (by omega) (by omega))
        refine okk_ck (vp_I (by omega) (by omega)) ?_
        refine okk_gl (fun u413_ eu413_ => ?_)
        have Iu413_ : IM g u413_ := by rw [eu413_]; exact IM_wx Iu8_ 4 _ _ rfl rfl (by decide)
        have z14_ : (u413_.1 0).toInt = (u8_.1 0).toInt := by rw [eu413_]; rfl
        have z15_ : (u413_.1 1).toInt = (u8_.1 1).toInt := by rw [eu413_]; rfl
        have z16_ : (u413_.1 2).toInt = (u8_.1 2).toInt := by rw [eu413_]; rfl
        exact okk_some (⟨Iu413_, (by show ((u413_.1 0).toInt = 1 ∧ ¬ (0 ≤ p1.toInt ∧ p1.toInt ≤ 7 ∧ 0 ≤ p2.toInt ∧ p2.toInt ≤ 31)) ∨ ((u413_.1 0).toInt = 2 ∧ (0 ≤ p1.toInt ∧ p1.toInt ≤ 7 ∧ 0 ≤ p2.toInt ∧ p2.toInt ≤ 31) ∧ ¬ (0 ≤ p3.toInt ∧ p3.toInt ≤ 100)) ∨ ((u413_.1 0).toInt = 0 ∧ (0 ≤ p1.toInt ∧ p1.toInt ≤ 7 ∧ 0 ≤ p2.toInt ∧ p2.toInt ≤ 31) ∧ (0 ≤ p3.toInt ∧ p3.toInt ≤ 100)); omega), (fun _ => by rw [eu413_, eu8_]), (fun q => absurd (by omega) q)⟩)
      · refine okk_f (by decide) ?_
        unfold fm_weight_38
        obtain ⟨u17_, eu17_⟩ : ∃ y, y = g_sI u 0 (2 : Int32) := ⟨_, rfl⟩
        refine okk_bs (v := ((1 : Int32), u17_)) (by rw [eu17_]; exact fm_thr_2 _ _) ?_
        dsimp only
        have Iu17_ : IM g u17_ := by rw [eu17_]; exact IM_ix I _ (by decide)
        have h018_ : (u17_.1 0).toInt = 2 := by rw [eu17_, rdI, if_pos rfl]; decide
        have z19_ : (u17_.1 1).toInt = (u.1 1).toInt := by rw [eu17_]; rfl
        have z20_ : (u17_.1 2).toInt = (u.1 2).toInt := by rw [eu17_]; rfl
        refine okk_f (by decide) ?_
        exact okk_some (⟨Iu17_, (by show ((u17_.1 0).toInt = 1 ∧ ¬ (0 ≤ p1.toInt ∧ p1.toInt ≤ 7 ∧ 0 ≤ p2.toInt ∧ p2.toInt ≤ 31)) ∨ ((u17_.1 0).toInt = 2 ∧ (0 ≤ p1.toInt ∧ p1.toInt ≤ 7 ∧ 0 ≤ p2.toInt ∧ p2.toInt ≤ 31) ∧ ¬ (0 ≤ p3.toInt ∧ p3.toInt ≤ 100)) ∨ ((u17_.1 0).toInt = 0 ∧ (0 ≤ p1.toInt ∧ p1.toInt ≤ 7 ∧ 0 ≤ p2.toInt ∧ p2.toInt ≤ 31) ∧ (0 ≤ p3.toInt ∧ p3.toInt ≤ 100)); omega), (fun q => absurd q (by omega)), (fun _ => ⟨_, by rw [eu17_]⟩)⟩)
    · refine okk_f (by decide) ?_
      unfold fm_weight_23
      try have t21_ : (100 : Int32).toInt = (100 : Int) := (by decide : (100 : Int32).toInt = 100)
      refine okk_in (fun b22_ => ?_) (fun b22_ => ?_)
      · refine okk_t (by decide) ?_
        unfold fm_weight_38
        obtain ⟨u23_, eu23_⟩ : ∃ y, y = g_sI u 0 (1 : Int32) := ⟨_, rfl⟩
        refine okk_bs (v := ((1 : Int32), u23_)) (by rw [eu23_]; exact fm_thr_1 _ _ _) ?_
        dsimp only
        have Iu23_ : IM g u23_ := by rw [eu23_]; exact IM_ix I _ (by decide)
        have h024_ : (u23_.1 0).toInt = 1 := by rw [eu23_, rdI, if_pos rfl]; decide
        have z25_ : (u23_.1 1).toInt = (u.1 1).toInt := by rw [eu23_]; rfl
        have z26_ : (u23_.1 2).toInt = (u.1 2).toInt := by rw [eu23_]; rfl
        refine okk_f (by decide) ?_
        exact okk_some (⟨Iu23_, (by show ((u23_.1 0).toInt = 1 ∧ ¬ (0 ≤ p1.toInt ∧ p1.toInt ≤ 7 ∧ 0 ≤ p2.toInt ∧ p2.toInt ≤ 31)) ∨ ((u23_.1 0).toInt = 2 ∧ (0 ≤ p1.toInt ∧ p1.toInt ≤ 7 ∧ 0 ≤ p2.toInt ∧ p2.toInt ≤ 31) ∧ ¬ (0 ≤ p3.toInt ∧ p3.toInt ≤ 100)) ∨ ((u23_.1 0).toInt = 0 ∧ (0 ≤ p1.toInt ∧ p1.toInt ≤ 7 ∧ 0 ≤ p2.toInt ∧ p2.toInt ≤ 31) ∧ (0 ≤ p3.toInt ∧ p3.toInt ≤ 100)); omega), (fun q => absurd q (by omega)), (fun _ => ⟨_, by rw [eu23_]⟩)⟩)
      · refine okk_f (by decide) ?_
        unfold fm_weight_38
        obtain ⟨u27_, eu27_⟩ : ∃ y, y = g_sI u 0 (1 : Int32) := ⟨_, rfl⟩
        refine okk_bs (v := ((1 : Int32), u27_)) (by rw [eu27_]; exact fm_thr_1 _ _ _) ?_
        dsimp only
        have Iu27_ : IM g u27_ := by rw [eu27_]; exact IM_ix I _ (by decide)
        have h028_ : (u27_.1 0).toInt = 1 := by rw [eu27_, rdI, if_pos rfl]; decide
        have z29_ : (u27_.1 1).toInt = (u.1 1).toInt := by rw [eu27_]; rfl
        have z30_ : (u27_.1 2).toInt = (u.1 2).toInt := by rw [eu27_]; rfl
        refine okk_f (by decide) ?_
        exact okk_some (⟨Iu27_, (by show ((u27_.1 0).toInt = 1 ∧ ¬ (0 ≤ p1.toInt ∧ p1.toInt ≤ 7 ∧ 0 ≤ p2.toInt ∧ p2.toInt ≤ 31)) ∨ ((u27_.1 0).toInt = 2 ∧ (0 ≤ p1.toInt ∧ p1.toInt ≤ 7 ∧ 0 ≤ p2.toInt ∧ p2.toInt ≤ 31) ∧ ¬ (0 ≤ p3.toInt ∧ p3.toInt ≤ 100)) ∨ ((u27_.1 0).toInt = 0 ∧ (0 ≤ p1.toInt ∧ p1.toInt ≤ 7 ∧ 0 ≤ p2.toInt ∧ p2.toInt ≤ 31) ∧ (0 ≤ p3.toInt ∧ p3.toInt ≤ 100)); omega), (fun q => absurd q (by omega)), (fun _ => ⟨_, by rw [eu27_]⟩)⟩)
  · refine okk_t (by decide) ?_
    unfold fm_weight_23
    try have t31_ : (0 : Int32).toInt = (0 : Int) := (by decide : (0 : Int32).toInt = 0)
    try have t32_ : (100 : Int32).toInt = (100 : Int) := (by decide : (100 : Int32).toInt = 100)
    refine okk_in (fun b33_ => ?_) (fun b33_ => ?_)
    · refine okk_t (by decide) ?_
      unfold fm_weight_38
      obtain ⟨u34_, eu34_⟩ : ∃ y, y = g_sI u 0 (1 : Int32) := ⟨_, rfl⟩
      refine okk_bs (v := ((1 : Int32), u34_)) (by rw [eu34_]; exact fm_thr_1 _ _ _) ?_
      dsimp only
      have Iu34_ : IM g u34_ := by rw [eu34_]; exact IM_ix I _ (by decide)
      have h035_ : (u34_.1 0).toInt = 1 := by rw [eu34_, rdI, if_pos rfl]; decide
      have z36_ : (u34_.1 1).toInt = (u.1 1).toInt := by rw [eu34_]; rfl
      have z37_ : (u34_.1 2).toInt = (u.1 2).toInt := by rw [eu34_]; rfl
      refine okk_f (by decide) ?_
      exact okk_some (⟨Iu34_, (by show ((u34_.1 0).toInt = 1 ∧ ¬ (0 ≤ p1.toInt ∧ p1.toInt ≤ 7 ∧ 0 ≤ p2.toInt ∧ p2.toInt ≤ 31)) ∨ ((u34_.1 0).toInt = 2 ∧ (0 ≤ p1.toInt ∧ p1.toInt ≤ 7 ∧ 0 ≤ p2.toInt ∧ p2.toInt ≤ 31) ∧ ¬ (0 ≤ p3.toInt ∧ p3.toInt ≤ 100)) ∨ ((u34_.1 0).toInt = 0 ∧ (0 ≤ p1.toInt ∧ p1.toInt ≤ 7 ∧ 0 ≤ p2.toInt ∧ p2.toInt ≤ 31) ∧ (0 ≤ p3.toInt ∧ p3.toInt ≤ 100)); omega), (fun q => absurd q (by omega)), (fun _ => ⟨_, by rw [eu34_]⟩)⟩)
    · refine okk_f (by decide) ?_
      unfold fm_weight_38
      obtain ⟨u38_, eu38_⟩ : ∃ y, y = g_sI u 0 (1 : Int32) := ⟨_, rfl⟩
      refine okk_bs (v := ((1 : Int32), u38_)) (by rw [eu38_]; exact fm_thr_1 _ _ _) ?_
      dsimp only
      have Iu38_ : IM g u38_ := by rw [eu38_]; exact IM_ix I _ (by decide)
      have h039_ : (u38_.1 0).toInt = 1 := by rw [eu38_, rdI, if_pos rfl]; decide
      have z40_ : (u38_.1 1).toInt = (u.1 1).toInt := by rw [eu38_]; rfl
      have z41_ : (u38_.1 2).toInt = (u.1 2).toInt := by rw [eu38_]; rfl
      refine okk_f (by decide) ?_
      exact okk_some (⟨Iu38_, (by show ((u38_.1 0).toInt = 1 ∧ ¬ (0 ≤ p1.toInt ∧ p1.toInt ≤ 7 ∧ 0 ≤ p2.toInt ∧ p2.toInt ≤ 31)) ∨ ((u38_.1 0).toInt = 2 ∧ (0 ≤ p1.toInt ∧ p1.toInt ≤ 7 ∧ 0 ≤ p2.toInt ∧ p2.toInt ≤ 31) ∧ ¬ (0 ≤ p3.toInt ∧ p3.toInt ≤ 100)) ∨ ((u38_.1 0).toInt = 0 ∧ (0 ≤ p1.toInt ∧ p1.toInt ≤ 7 ∧ 0 ≤ p2.toInt ∧ p2.toInt ≤ 31) ∧ (0 ≤ p3.toInt ∧ p3.toInt ≤ 100)); omega), (fun q => absurd q (by omega)), (fun _ => ⟨_, by rw [eu38_]⟩)⟩)
set_option maxHeartbeats 4000000 in
theorem okl_fcJ_mark {g : Nat → Int32} {u : g_S} (I : IC g u) {p1 : Int32} {p2 : Int32} : okk (fcJ_mark u p1 p2) (fun r => IC g r.2 ∧ ((r.1 = 1 ∧ ¬ (0 ≤ p1.toInt ∧ p1.toInt < (u.1 0).toInt)) ∨ (r.1 = 2 ∧ (0 ≤ p1.toInt ∧ p1.toInt < (u.1 0).toInt) ∧ ¬ (0 ≤ p2.toInt ∧ p2.toInt ≤ 7)) ∨ (r.1 = 0 ∧ (0 ≤ p1.toInt ∧ p1.toInt < (u.1 0).toInt) ∧ (0 ≤ p2.toInt ∧ p2.toInt ≤ 7))) ∧ (r.1 = 0 → r.2 = g_sA u 16 p1 p2) ∧ (¬ r.1 = 0 → r.2 = u)) := by
  unfold fcJ_mark
  have z1_ := IC_s I
  refine okk_isBelow (fun b2_ => ?_) (fun b2_ => ?_)
  · refine okk_bs (v := (0 : Nat)) (by decide) ?_
    refine okk_t (by decide) ?_
    try have t3_ : (8 : Int32).toInt = (8 : Int) := (by decide : (8 : Int32).toInt = 8)
    refine okk_isBelow (fun b4_ => ?_) (fun b4_ => ?_)
    · refine okk_bs (v := (0 : Nat)) (by decide) ?_
      refine okk_t (by decide) ?_
      refine okk_ck (vp_I (by omega) (by omega)) ?_
      refine okk_gl (fun u55_ eu55_ => ?_)
      have Iu55_ : IC g u55_ := by rw [eu55_]; exact IC_wx I 16 _ _ rfl rfl (by decide)
      have z6_ : (u55_.1 0).toInt = (u.1 0).toInt := by rw [eu55_]; rfl
      have z7_ : (u55_.1 1).toInt = (u.1 1).toInt := by rw [eu55_]; rfl
      exact okk_some (⟨Iu55_, (by show (0 = 1 ∧ ¬ (0 ≤ p1.toInt ∧ p1.toInt < (u.1 0).toInt)) ∨ (0 = 2 ∧ (0 ≤ p1.toInt ∧ p1.toInt < (u.1 0).toInt) ∧ ¬ (0 ≤ p2.toInt ∧ p2.toInt ≤ 7)) ∨ (0 = 0 ∧ (0 ≤ p1.toInt ∧ p1.toInt < (u.1 0).toInt) ∧ (0 ≤ p2.toInt ∧ p2.toInt ≤ 7)); omega), (fun _ => by rw [eu55_]), (fun q => absurd rfl q)⟩)
    · refine okk_bs (v := (2 : Nat)) (by decide) ?_
      refine okk_f (by decide) ?_
      exact okk_some (⟨I, (by show (2 = 1 ∧ ¬ (0 ≤ p1.toInt ∧ p1.toInt < (u.1 0).toInt)) ∨ (2 = 2 ∧ (0 ≤ p1.toInt ∧ p1.toInt < (u.1 0).toInt) ∧ ¬ (0 ≤ p2.toInt ∧ p2.toInt ≤ 7)) ∨ (2 = 0 ∧ (0 ≤ p1.toInt ∧ p1.toInt < (u.1 0).toInt) ∧ (0 ≤ p2.toInt ∧ p2.toInt ≤ 7)); omega), (fun q => by simp at q), (fun _ => rfl)⟩)
  · refine okk_bs (v := (1 : Nat)) (by decide) ?_
    refine okk_f (by decide) ?_
    exact okk_some (⟨I, (by show (1 = 1 ∧ ¬ (0 ≤ p1.toInt ∧ p1.toInt < (u.1 0).toInt)) ∨ (1 = 2 ∧ (0 ≤ p1.toInt ∧ p1.toInt < (u.1 0).toInt) ∧ ¬ (0 ≤ p2.toInt ∧ p2.toInt ≤ 7)) ∨ (1 = 0 ∧ (0 ≤ p1.toInt ∧ p1.toInt < (u.1 0).toInt) ∧ (0 ≤ p2.toInt ∧ p2.toInt ≤ 7)); omega), (fun q => by simp at q), (fun _ => rfl)⟩)
set_option maxHeartbeats 4000000 in
theorem okl_fm_mark {g : Nat → Int32} {u : g_S} (I : IM g u) {p1 : Int32} {p2 : Int32} : okk (fm_mark u p1 p2) (fun r => IM g r ∧ (((r.1 0).toInt = 1 ∧ ¬ (0 ≤ p1.toInt ∧ p1.toInt < (u.1 1).toInt)) ∨ ((r.1 0).toInt = 2 ∧ (0 ≤ p1.toInt ∧ p1.toInt < (u.1 1).toInt) ∧ ¬ (0 ≤ p2.toInt ∧ p2.toInt ≤ 7)) ∨ ((r.1 0).toInt = 0 ∧ (0 ≤ p1.toInt ∧ p1.toInt < (u.1 1).toInt) ∧ (0 ≤ p2.toInt ∧ p2.toInt ≤ 7))) ∧ ((r.1 0).toInt = 0 → r = g_sA (g_sI u 0 (0 : Int32)) 14 p1 p2) ∧ (¬ (r.1 0).toInt = 0 → ∃ k : Int32, r = g_sI u 0 k)) := by
  unfold fm_mark
  have z1_ := IM_s I
  refine okk_isCall (fun b2_ => ?_) (fun b2_ => ?_)
  · have t3_ : ((u.1 1) - (1 : Int32)).toInt = ((u.1 1).toInt - (1 : Int)) := (oi_sub (a := (u.1 1)) (b := (1 : Int32)) rfl (by decide : (1 : Int32).toInt = 1) (by omega) (by omega))
    refine okk_t (by decide) ?_
    unfold fm_mark_14
    try have t4_ : (0 : Int32).toInt = (0 : Int) := (by decide : (0 : Int32).toInt = 0)
    try have t5_ : (7 : Int32).toInt = (7 : Int) := (by decide : (7 : Int32).toInt = 7)
    refine okk_in (fun b6_ => ?_) (fun b6_ => ?_)
    · refine okk_t (by decide) ?_
      unfold fm_mark_29
      obtain ⟨u7_, eu7_⟩ : ∃ y, y = g_sI u 0 (0 : Int32) := ⟨_, rfl⟩
      refine okk_bs (v := ((0 : Int32), u7_)) (by rw [eu7_]; exact fm_thr_0 _) ?_
      dsimp only
      have Iu7_ : IM g u7_ := by rw [eu7_]; exact IM_ix I _ (by decide)
      have h08_ : (u7_.1 0).toInt = 0 := by rw [eu7_, rdI, if_pos rfl]; decide
      have z9_ : (u7_.1 1).toInt = (u.1 1).toInt := by rw [eu7_]; rfl
      have z10_ : (u7_.1 2).toInt = (u.1 2).toInt := by rw [eu7_]; rfl
      refine okk_t (by decide) ?_
      refine okk_ck (vp_I (by omega) (by omega)) ?_
      refine okk_gl (fun u411_ eu411_ => ?_)
      have Iu411_ : IM g u411_ := by rw [eu411_]; exact IM_wx Iu7_ 14 _ _ rfl rfl (by decide)
      have z12_ : (u411_.1 0).toInt = (u7_.1 0).toInt := by rw [eu411_]; rfl
      have z13_ : (u411_.1 1).toInt = (u7_.1 1).toInt := by rw [eu411_]; rfl
      have z14_ : (u411_.1 2).toInt = (u7_.1 2).toInt := by rw [eu411_]; rfl
      exact okk_some (⟨Iu411_, (by show ((u411_.1 0).toInt = 1 ∧ ¬ (0 ≤ p1.toInt ∧ p1.toInt < (u.1 1).toInt)) ∨ ((u411_.1 0).toInt = 2 ∧ (0 ≤ p1.toInt ∧ p1.toInt < (u.1 1).toInt) ∧ ¬ (0 ≤ p2.toInt ∧ p2.toInt ≤ 7)) ∨ ((u411_.1 0).toInt = 0 ∧ (0 ≤ p1.toInt ∧ p1.toInt < (u.1 1).toInt) ∧ (0 ≤ p2.toInt ∧ p2.toInt ≤ 7)); omega), (fun _ => by rw [eu411_, eu7_]), (fun q => absurd (by omega) q)⟩)
    · refine okk_f (by decide) ?_
      unfold fm_mark_29
      obtain ⟨u15_, eu15_⟩ : ∃ y, y = g_sI u 0 (2 : Int32) := ⟨_, rfl⟩
      refine okk_bs (v := ((1 : Int32), u15_)) (by rw [eu15_]; exact fm_thr_2 _ _) ?_
      dsimp only
      have Iu15_ : IM g u15_ := by rw [eu15_]; exact IM_ix I _ (by decide)
      have h016_ : (u15_.1 0).toInt = 2 := by rw [eu15_, rdI, if_pos rfl]; decide
      have z17_ : (u15_.1 1).toInt = (u.1 1).toInt := by rw [eu15_]; rfl
      have z18_ : (u15_.1 2).toInt = (u.1 2).toInt := by rw [eu15_]; rfl
      refine okk_f (by decide) ?_
      exact okk_some (⟨Iu15_, (by show ((u15_.1 0).toInt = 1 ∧ ¬ (0 ≤ p1.toInt ∧ p1.toInt < (u.1 1).toInt)) ∨ ((u15_.1 0).toInt = 2 ∧ (0 ≤ p1.toInt ∧ p1.toInt < (u.1 1).toInt) ∧ ¬ (0 ≤ p2.toInt ∧ p2.toInt ≤ 7)) ∨ ((u15_.1 0).toInt = 0 ∧ (0 ≤ p1.toInt ∧ p1.toInt < (u.1 1).toInt) ∧ (0 ≤ p2.toInt ∧ p2.toInt ≤ 7)); omega), (fun q => absurd q (by omega)), (fun _ => ⟨_, by rw [eu15_]⟩)⟩)
  · have t19_ : ((u.1 1) - (1 : Int32)).toInt = ((u.1 1).toInt - (1 : Int)) := (oi_sub (a := (u.1 1)) (b := (1 : Int32)) rfl (by decide : (1 : Int32).toInt = 1) (by omega) (by omega))
    refine okk_f (by decide) ?_
    unfold fm_mark_14
    try have t20_ : (0 : Int32).toInt = (0 : Int) := (by decide : (0 : Int32).toInt = 0)
    try have t21_ : (7 : Int32).toInt = (7 : Int) := (by decide : (7 : Int32).toInt = 7)
    refine okk_in (fun b22_ => ?_) (fun b22_ => ?_)
    · refine okk_t (by decide) ?_
      unfold fm_mark_29
      obtain ⟨u23_, eu23_⟩ : ∃ y, y = g_sI u 0 (1 : Int32) := ⟨_, rfl⟩
      refine okk_bs (v := ((1 : Int32), u23_)) (by rw [eu23_]; exact fm_thr_1 _ _ _) ?_
      dsimp only
      have Iu23_ : IM g u23_ := by rw [eu23_]; exact IM_ix I _ (by decide)
      have h024_ : (u23_.1 0).toInt = 1 := by rw [eu23_, rdI, if_pos rfl]; decide
      have z25_ : (u23_.1 1).toInt = (u.1 1).toInt := by rw [eu23_]; rfl
      have z26_ : (u23_.1 2).toInt = (u.1 2).toInt := by rw [eu23_]; rfl
      refine okk_f (by decide) ?_
      exact okk_some (⟨Iu23_, (by show ((u23_.1 0).toInt = 1 ∧ ¬ (0 ≤ p1.toInt ∧ p1.toInt < (u.1 1).toInt)) ∨ ((u23_.1 0).toInt = 2 ∧ (0 ≤ p1.toInt ∧ p1.toInt < (u.1 1).toInt) ∧ ¬ (0 ≤ p2.toInt ∧ p2.toInt ≤ 7)) ∨ ((u23_.1 0).toInt = 0 ∧ (0 ≤ p1.toInt ∧ p1.toInt < (u.1 1).toInt) ∧ (0 ≤ p2.toInt ∧ p2.toInt ≤ 7)); omega), (fun q => absurd q (by omega)), (fun _ => ⟨_, by rw [eu23_]⟩)⟩)
    · refine okk_f (by decide) ?_
      unfold fm_mark_29
      obtain ⟨u27_, eu27_⟩ : ∃ y, y = g_sI u 0 (1 : Int32) := ⟨_, rfl⟩
      refine okk_bs (v := ((1 : Int32), u27_)) (by rw [eu27_]; exact fm_thr_1 _ _ _) ?_
      dsimp only
      have Iu27_ : IM g u27_ := by rw [eu27_]; exact IM_ix I _ (by decide)
      have h028_ : (u27_.1 0).toInt = 1 := by rw [eu27_, rdI, if_pos rfl]; decide
      have z29_ : (u27_.1 1).toInt = (u.1 1).toInt := by rw [eu27_]; rfl
      have z30_ : (u27_.1 2).toInt = (u.1 2).toInt := by rw [eu27_]; rfl
      refine okk_f (by decide) ?_
      exact okk_some (⟨Iu27_, (by show ((u27_.1 0).toInt = 1 ∧ ¬ (0 ≤ p1.toInt ∧ p1.toInt < (u.1 1).toInt)) ∨ ((u27_.1 0).toInt = 2 ∧ (0 ≤ p1.toInt ∧ p1.toInt < (u.1 1).toInt) ∧ ¬ (0 ≤ p2.toInt ∧ p2.toInt ≤ 7)) ∨ ((u27_.1 0).toInt = 0 ∧ (0 ≤ p1.toInt ∧ p1.toInt < (u.1 1).toInt) ∧ (0 ≤ p2.toInt ∧ p2.toInt ≤ 7)); omega), (fun q => absurd q (by omega)), (fun _ => ⟨_, by rw [eu27_]⟩)⟩)
set_option maxHeartbeats 4000000 in
theorem okl_fcJ_watch {g : Nat → Int32} {u : g_S} (I : IC g u) {p1 : Int32} {p2 : Int32} {p3 : Int32} {p4 : Int32} : okk (fcJ_watch u p1 p2 p3 p4) (fun r => IC g r.2 ∧ ((r.1 = 1 ∧ ¬ (0 ≤ p1.toInt ∧ p1.toInt < (u.1 1).toInt ∧ 0 ≤ p2.toInt ∧ p2.toInt ≤ 7)) ∨ (r.1 = 2 ∧ (0 ≤ p1.toInt ∧ p1.toInt < (u.1 1).toInt ∧ 0 ≤ p2.toInt ∧ p2.toInt ≤ 7) ∧ ¬ (0 ≤ p3.toInt ∧ p3.toInt < (u.2 5 p2.toNatClampNeg).toInt ∧ 0 ≤ p4.toInt ∧ p4.toInt < (u.2 5 p2.toNatClampNeg).toInt ∧ ¬ p3.toInt = p4.toInt)) ∨ (r.1 = 3 ∧ (0 ≤ p1.toInt ∧ p1.toInt < (u.1 1).toInt ∧ 0 ≤ p2.toInt ∧ p2.toInt ≤ 7) ∧ (0 ≤ p3.toInt ∧ p3.toInt < (u.2 5 p2.toNatClampNeg).toInt ∧ 0 ≤ p4.toInt ∧ p4.toInt < (u.2 5 p2.toNatClampNeg).toInt ∧ ¬ p3.toInt = p4.toInt) ∧ ¬ ((u.2 17 p1.toNatClampNeg).toInt = 0)) ∨ (r.1 = 0 ∧ (0 ≤ p1.toInt ∧ p1.toInt < (u.1 1).toInt ∧ 0 ≤ p2.toInt ∧ p2.toInt ≤ 7) ∧ (0 ≤ p3.toInt ∧ p3.toInt < (u.2 5 p2.toNatClampNeg).toInt ∧ 0 ≤ p4.toInt ∧ p4.toInt < (u.2 5 p2.toNatClampNeg).toInt ∧ ¬ p3.toInt = p4.toInt) ∧ ((u.2 17 p1.toNatClampNeg).toInt = 0))) ∧ (r.1 = 0 → r.2 = g_sA (g_sA (g_sA u 20 p1 p2) 21 p1 (if p4 < p3 then p4 else p3)) 22 p1 (if p3 < p4 then p4 else p3)) ∧ (¬ r.1 = 0 → r.2 = u)) := by
  unfold fcJ_watch
  have z1_ := IC_s I
  refine okk_isBelow (fun b2_ => ?_) (fun b2_ => ?_)
  · refine okk_f (by decide) ?_
    try have t3_ : (8 : Int32).toInt = (8 : Int) := (by decide : (8 : Int32).toInt = 8)
    refine okk_isBelow (fun b4_ => ?_) (fun b4_ => ?_)
    · refine okk_f (by decide) ?_
      unfold fcJ_watch_28
      refine okk_bs (v := (0 : Nat)) (by decide) ?_
      refine okk_t (by decide) ?_
      refine okk_ck (vp_I (by omega) (by omega)) ?_
      have r5_ := IC_r5 I p2.toNatClampNeg
      refine okk_isBelow (fun b6_ => ?_) (fun b6_ => ?_)
      · refine okk_f (by decide) ?_
        refine okk_ck (vp_I (by omega) (by omega)) ?_
        refine okk_isBelow (fun b7_ => ?_) (fun b7_ => ?_)
        · refine okk_f (by decide) ?_
          refine okk_eq (fun c8_ c8_I => ?_) (fun c8_ c8_I => ?_)
          · unfold fcJ_watch_75
            refine okk_bs (v := (2 : Nat)) (by decide) ?_
            refine okk_f (by decide) ?_
            exact okk_some (⟨I, (by show (2 = 1 ∧ ¬ (0 ≤ p1.toInt ∧ p1.toInt < (u.1 1).toInt ∧ 0 ≤ p2.toInt ∧ p2.toInt ≤ 7)) ∨ (2 = 2 ∧ (0 ≤ p1.toInt ∧ p1.toInt < (u.1 1).toInt ∧ 0 ≤ p2.toInt ∧ p2.toInt ≤ 7) ∧ ¬ (0 ≤ p3.toInt ∧ p3.toInt < (u.2 5 p2.toNatClampNeg).toInt ∧ 0 ≤ p4.toInt ∧ p4.toInt < (u.2 5 p2.toNatClampNeg).toInt ∧ ¬ p3.toInt = p4.toInt)) ∨ (2 = 3 ∧ (0 ≤ p1.toInt ∧ p1.toInt < (u.1 1).toInt ∧ 0 ≤ p2.toInt ∧ p2.toInt ≤ 7) ∧ (0 ≤ p3.toInt ∧ p3.toInt < (u.2 5 p2.toNatClampNeg).toInt ∧ 0 ≤ p4.toInt ∧ p4.toInt < (u.2 5 p2.toNatClampNeg).toInt ∧ ¬ p3.toInt = p4.toInt) ∧ ¬ ((u.2 17 p1.toNatClampNeg).toInt = 0)) ∨ (2 = 0 ∧ (0 ≤ p1.toInt ∧ p1.toInt < (u.1 1).toInt ∧ 0 ≤ p2.toInt ∧ p2.toInt ≤ 7) ∧ (0 ≤ p3.toInt ∧ p3.toInt < (u.2 5 p2.toNatClampNeg).toInt ∧ 0 ≤ p4.toInt ∧ p4.toInt < (u.2 5 p2.toNatClampNeg).toInt ∧ ¬ p3.toInt = p4.toInt) ∧ ((u.2 17 p1.toNatClampNeg).toInt = 0)); omega), (fun q => by simp at q), (fun _ => rfl)⟩)
          · unfold fcJ_watch_75
            refine okk_bs (v := (0 : Nat)) (by decide) ?_
            refine okk_t (by decide) ?_
            refine okk_ck (vp_I (by omega) (by omega)) ?_
            try have t10_ : (0 : Int32).toInt = (0 : Int) := (by decide : (0 : Int32).toInt = 0)
            refine okk_ne (fun c9_ c9_I => ?_) (fun c9_ c9_I => ?_)
            · unfold fcJ_watch_95
              refine okk_bs (v := (3 : Nat)) (by decide) ?_
              refine okk_f (by decide) ?_
              exact okk_some (⟨I, (by show (3 = 1 ∧ ¬ (0 ≤ p1.toInt ∧ p1.toInt < (u.1 1).toInt ∧ 0 ≤ p2.toInt ∧ p2.toInt ≤ 7)) ∨ (3 = 2 ∧ (0 ≤ p1.toInt ∧ p1.toInt < (u.1 1).toInt ∧ 0 ≤ p2.toInt ∧ p2.toInt ≤ 7) ∧ ¬ (0 ≤ p3.toInt ∧ p3.toInt < (u.2 5 p2.toNatClampNeg).toInt ∧ 0 ≤ p4.toInt ∧ p4.toInt < (u.2 5 p2.toNatClampNeg).toInt ∧ ¬ p3.toInt = p4.toInt)) ∨ (3 = 3 ∧ (0 ≤ p1.toInt ∧ p1.toInt < (u.1 1).toInt ∧ 0 ≤ p2.toInt ∧ p2.toInt ≤ 7) ∧ (0 ≤ p3.toInt ∧ p3.toInt < (u.2 5 p2.toNatClampNeg).toInt ∧ 0 ≤ p4.toInt ∧ p4.toInt < (u.2 5 p2.toNatClampNeg).toInt ∧ ¬ p3.toInt = p4.toInt) ∧ ¬ ((u.2 17 p1.toNatClampNeg).toInt = 0)) ∨ (3 = 0 ∧ (0 ≤ p1.toInt ∧ p1.toInt < (u.1 1).toInt ∧ 0 ≤ p2.toInt ∧ p2.toInt ≤ 7) ∧ (0 ≤ p3.toInt ∧ p3.toInt < (u.2 5 p2.toNatClampNeg).toInt ∧ 0 ≤ p4.toInt ∧ p4.toInt < (u.2 5 p2.toNatClampNeg).toInt ∧ ¬ p3.toInt = p4.toInt) ∧ ((u.2 17 p1.toNatClampNeg).toInt = 0)); omega), (fun q => by simp at q), (fun _ => rfl)⟩)
            · unfold fcJ_watch_95
              refine okk_bs (v := (0 : Nat)) (by decide) ?_
              refine okk_t (by decide) ?_
              refine okk_ck (vp_I (by omega) (by omega)) ?_
              refine okk_gl (fun u611_ eu611_ => ?_)
              have Iu611_ : IC g u611_ := by rw [eu611_]; exact IC_v20 I _ _ (by omega) (by omega)
              have z12_ : (u611_.1 0).toInt = (u.1 0).toInt := by rw [eu611_]; rfl
              have z13_ : (u611_.1 1).toInt = (u.1 1).toInt := by rw [eu611_]; rfl
              refine okk_ck (vp_I (by omega) (by omega)) ?_
              have t15_ : (if p4 < p3 then p4 else p3).toInt = p4.toInt ∨ (if p4 < p3 then p4 else p3).toInt = p3.toInt := oi_ite
              refine okk_gl (fun u714_ eu714_ => ?_)
              have Iu714_ : IC g u714_ := by rw [eu714_]; exact IC_v21 Iu611_ _ _ (by omega) (by omega)
              have z16_ : (u714_.1 0).toInt = (u611_.1 0).toInt := by rw [eu714_]; rfl
              have z17_ : (u714_.1 1).toInt = (u611_.1 1).toInt := by rw [eu714_]; rfl
              refine okk_ck (vp_I (by omega) (by omega)) ?_
              have t19_ : (if p3 < p4 then p4 else p3).toInt = p4.toInt ∨ (if p3 < p4 then p4 else p3).toInt = p3.toInt := oi_ite
              refine okk_gl (fun u818_ eu818_ => ?_)
              have Iu818_ : IC g u818_ := by rw [eu818_]; exact IC_v22 Iu714_ _ _ (by omega) (by omega)
              have z20_ : (u818_.1 0).toInt = (u714_.1 0).toInt := by rw [eu818_]; rfl
              have z21_ : (u818_.1 1).toInt = (u714_.1 1).toInt := by rw [eu818_]; rfl
              exact okk_some (⟨Iu818_, (by show (0 = 1 ∧ ¬ (0 ≤ p1.toInt ∧ p1.toInt < (u.1 1).toInt ∧ 0 ≤ p2.toInt ∧ p2.toInt ≤ 7)) ∨ (0 = 2 ∧ (0 ≤ p1.toInt ∧ p1.toInt < (u.1 1).toInt ∧ 0 ≤ p2.toInt ∧ p2.toInt ≤ 7) ∧ ¬ (0 ≤ p3.toInt ∧ p3.toInt < (u.2 5 p2.toNatClampNeg).toInt ∧ 0 ≤ p4.toInt ∧ p4.toInt < (u.2 5 p2.toNatClampNeg).toInt ∧ ¬ p3.toInt = p4.toInt)) ∨ (0 = 3 ∧ (0 ≤ p1.toInt ∧ p1.toInt < (u.1 1).toInt ∧ 0 ≤ p2.toInt ∧ p2.toInt ≤ 7) ∧ (0 ≤ p3.toInt ∧ p3.toInt < (u.2 5 p2.toNatClampNeg).toInt ∧ 0 ≤ p4.toInt ∧ p4.toInt < (u.2 5 p2.toNatClampNeg).toInt ∧ ¬ p3.toInt = p4.toInt) ∧ ¬ ((u.2 17 p1.toNatClampNeg).toInt = 0)) ∨ (0 = 0 ∧ (0 ≤ p1.toInt ∧ p1.toInt < (u.1 1).toInt ∧ 0 ≤ p2.toInt ∧ p2.toInt ≤ 7) ∧ (0 ≤ p3.toInt ∧ p3.toInt < (u.2 5 p2.toNatClampNeg).toInt ∧ 0 ≤ p4.toInt ∧ p4.toInt < (u.2 5 p2.toNatClampNeg).toInt ∧ ¬ p3.toInt = p4.toInt) ∧ ((u.2 17 p1.toNatClampNeg).toInt = 0)); omega), (fun _ => by rw [eu818_, eu714_, eu611_]), (fun q => absurd rfl q)⟩)
        · refine okk_t (by decide) ?_
          unfold fcJ_watch_75
          refine okk_bs (v := (2 : Nat)) (by decide) ?_
          refine okk_f (by decide) ?_
          exact okk_some (⟨I, (by show (2 = 1 ∧ ¬ (0 ≤ p1.toInt ∧ p1.toInt < (u.1 1).toInt ∧ 0 ≤ p2.toInt ∧ p2.toInt ≤ 7)) ∨ (2 = 2 ∧ (0 ≤ p1.toInt ∧ p1.toInt < (u.1 1).toInt ∧ 0 ≤ p2.toInt ∧ p2.toInt ≤ 7) ∧ ¬ (0 ≤ p3.toInt ∧ p3.toInt < (u.2 5 p2.toNatClampNeg).toInt ∧ 0 ≤ p4.toInt ∧ p4.toInt < (u.2 5 p2.toNatClampNeg).toInt ∧ ¬ p3.toInt = p4.toInt)) ∨ (2 = 3 ∧ (0 ≤ p1.toInt ∧ p1.toInt < (u.1 1).toInt ∧ 0 ≤ p2.toInt ∧ p2.toInt ≤ 7) ∧ (0 ≤ p3.toInt ∧ p3.toInt < (u.2 5 p2.toNatClampNeg).toInt ∧ 0 ≤ p4.toInt ∧ p4.toInt < (u.2 5 p2.toNatClampNeg).toInt ∧ ¬ p3.toInt = p4.toInt) ∧ ¬ ((u.2 17 p1.toNatClampNeg).toInt = 0)) ∨ (2 = 0 ∧ (0 ≤ p1.toInt ∧ p1.toInt < (u.1 1).toInt ∧ 0 ≤ p2.toInt ∧ p2.toInt ≤ 7) ∧ (0 ≤ p3.toInt ∧ p3.toInt < (u.2 5 p2.toNatClampNeg).toInt ∧ 0 ≤ p4.toInt ∧ p4.toInt < (u.2 5 p2.toNatClampNeg).toInt ∧ ¬ p3.toInt = p4.toInt) ∧ ((u.2 17 p1.toNatClampNeg).toInt = 0)); omega), (fun q => by simp at q), (fun _ => rfl)⟩)
      · refine okk_t (by decide) ?_
        unfold fcJ_watch_75
        refine okk_bs (v := (2 : Nat)) (by decide) ?_
        refine okk_f (by decide) ?_
        exact okk_some (⟨I, (by show (2 = 1 ∧ ¬ (0 ≤ p1.toInt ∧ p1.toInt < (u.1 1).toInt ∧ 0 ≤ p2.toInt ∧ p2.toInt ≤ 7)) ∨ (2 = 2 ∧ (0 ≤ p1.toInt ∧ p1.toInt < (u.1 1).toInt ∧ 0 ≤ p2.toInt ∧ p2.toInt ≤ 7) ∧ ¬ (0 ≤ p3.toInt ∧ p3.toInt < (u.2 5 p2.toNatClampNeg).toInt ∧ 0 ≤ p4.toInt ∧ p4.toInt < (u.2 5 p2.toNatClampNeg).toInt ∧ ¬ p3.toInt = p4.toInt)) ∨ (2 = 3 ∧ (0 ≤ p1.toInt ∧ p1.toInt < (u.1 1).toInt ∧ 0 ≤ p2.toInt ∧ p2.toInt ≤ 7) ∧ (0 ≤ p3.toInt ∧ p3.toInt < (u.2 5 p2.toNatClampNeg).toInt ∧ 0 ≤ p4.toInt ∧ p4.toInt < (u.2 5 p2.toNatClampNeg).toInt ∧ ¬ p3.toInt = p4.toInt) ∧ ¬ ((u.2 17 p1.toNatClampNeg).toInt = 0)) ∨ (2 = 0 ∧ (0 ≤ p1.toInt ∧ p1.toInt < (u.1 1).toInt ∧ 0 ≤ p2.toInt ∧ p2.toInt ≤ 7) ∧ (0 ≤ p3.toInt ∧ p3.toInt < (u.2 5 p2.toNatClampNeg).toInt ∧ 0 ≤ p4.toInt ∧ p4.toInt < (u.2 5 p2.toNatClampNeg).toInt ∧ ¬ p3.toInt = p4.toInt) ∧ ((u.2 17 p1.toNatClampNeg).toInt = 0)); omega), (fun q => by simp at q), (fun _ => rfl)⟩)
    · refine okk_t (by decide) ?_
      unfold fcJ_watch_28
      refine okk_bs (v := (1 : Nat)) (by decide) ?_
      refine okk_f (by decide) ?_
      exact okk_some (⟨I, (by show (1 = 1 ∧ ¬ (0 ≤ p1.toInt ∧ p1.toInt < (u.1 1).toInt ∧ 0 ≤ p2.toInt ∧ p2.toInt ≤ 7)) ∨ (1 = 2 ∧ (0 ≤ p1.toInt ∧ p1.toInt < (u.1 1).toInt ∧ 0 ≤ p2.toInt ∧ p2.toInt ≤ 7) ∧ ¬ (0 ≤ p3.toInt ∧ p3.toInt < (u.2 5 p2.toNatClampNeg).toInt ∧ 0 ≤ p4.toInt ∧ p4.toInt < (u.2 5 p2.toNatClampNeg).toInt ∧ ¬ p3.toInt = p4.toInt)) ∨ (1 = 3 ∧ (0 ≤ p1.toInt ∧ p1.toInt < (u.1 1).toInt ∧ 0 ≤ p2.toInt ∧ p2.toInt ≤ 7) ∧ (0 ≤ p3.toInt ∧ p3.toInt < (u.2 5 p2.toNatClampNeg).toInt ∧ 0 ≤ p4.toInt ∧ p4.toInt < (u.2 5 p2.toNatClampNeg).toInt ∧ ¬ p3.toInt = p4.toInt) ∧ ¬ ((u.2 17 p1.toNatClampNeg).toInt = 0)) ∨ (1 = 0 ∧ (0 ≤ p1.toInt ∧ p1.toInt < (u.1 1).toInt ∧ 0 ≤ p2.toInt ∧ p2.toInt ≤ 7) ∧ (0 ≤ p3.toInt ∧ p3.toInt < (u.2 5 p2.toNatClampNeg).toInt ∧ 0 ≤ p4.toInt ∧ p4.toInt < (u.2 5 p2.toNatClampNeg).toInt ∧ ¬ p3.toInt = p4.toInt) ∧ ((u.2 17 p1.toNatClampNeg).toInt = 0)); omega), (fun q => by simp at q), (fun _ => rfl)⟩)
  · refine okk_t (by decide) ?_
    unfold fcJ_watch_28
    refine okk_bs (v := (1 : Nat)) (by decide) ?_
    refine okk_f (by decide) ?_
    exact okk_some (⟨I, (by show (1 = 1 ∧ ¬ (0 ≤ p1.toInt ∧ p1.toInt < (u.1 1).toInt ∧ 0 ≤ p2.toInt ∧ p2.toInt ≤ 7)) ∨ (1 = 2 ∧ (0 ≤ p1.toInt ∧ p1.toInt < (u.1 1).toInt ∧ 0 ≤ p2.toInt ∧ p2.toInt ≤ 7) ∧ ¬ (0 ≤ p3.toInt ∧ p3.toInt < (u.2 5 p2.toNatClampNeg).toInt ∧ 0 ≤ p4.toInt ∧ p4.toInt < (u.2 5 p2.toNatClampNeg).toInt ∧ ¬ p3.toInt = p4.toInt)) ∨ (1 = 3 ∧ (0 ≤ p1.toInt ∧ p1.toInt < (u.1 1).toInt ∧ 0 ≤ p2.toInt ∧ p2.toInt ≤ 7) ∧ (0 ≤ p3.toInt ∧ p3.toInt < (u.2 5 p2.toNatClampNeg).toInt ∧ 0 ≤ p4.toInt ∧ p4.toInt < (u.2 5 p2.toNatClampNeg).toInt ∧ ¬ p3.toInt = p4.toInt) ∧ ¬ ((u.2 17 p1.toNatClampNeg).toInt = 0)) ∨ (1 = 0 ∧ (0 ≤ p1.toInt ∧ p1.toInt < (u.1 1).toInt ∧ 0 ≤ p2.toInt ∧ p2.toInt ≤ 7) ∧ (0 ≤ p3.toInt ∧ p3.toInt < (u.2 5 p2.toNatClampNeg).toInt ∧ 0 ≤ p4.toInt ∧ p4.toInt < (u.2 5 p2.toNatClampNeg).toInt ∧ ¬ p3.toInt = p4.toInt) ∧ ((u.2 17 p1.toNatClampNeg).toInt = 0)); omega), (fun q => by simp at q), (fun _ => rfl)⟩)
set_option maxHeartbeats 4000000 in
theorem okl_fm_watch {g : Nat → Int32} {u : g_S} (I : IM g u) {p1 : Int32} {p2 : Int32} {p3 : Int32} {p4 : Int32} : okk (fm_watch u p1 p2 p3 p4) (fun r => IM g r ∧ (((r.1 0).toInt = 1 ∧ ¬ (0 ≤ p1.toInt ∧ p1.toInt < (u.1 2).toInt ∧ 0 ≤ p2.toInt ∧ p2.toInt ≤ 7)) ∨ ((r.1 0).toInt = 2 ∧ (0 ≤ p1.toInt ∧ p1.toInt < (u.1 2).toInt ∧ 0 ≤ p2.toInt ∧ p2.toInt ≤ 7) ∧ ¬ (0 ≤ p3.toInt ∧ p3.toInt < (u.2 5 p2.toNatClampNeg).toInt ∧ 0 ≤ p4.toInt ∧ p4.toInt < (u.2 5 p2.toNatClampNeg).toInt ∧ ¬ p3.toInt = p4.toInt)) ∨ ((r.1 0).toInt = 3 ∧ (0 ≤ p1.toInt ∧ p1.toInt < (u.1 2).toInt ∧ 0 ≤ p2.toInt ∧ p2.toInt ≤ 7) ∧ (0 ≤ p3.toInt ∧ p3.toInt < (u.2 5 p2.toNatClampNeg).toInt ∧ 0 ≤ p4.toInt ∧ p4.toInt < (u.2 5 p2.toNatClampNeg).toInt ∧ ¬ p3.toInt = p4.toInt) ∧ ¬ ((u.2 16 p1.toNatClampNeg).toInt = 0)) ∨ ((r.1 0).toInt = 0 ∧ (0 ≤ p1.toInt ∧ p1.toInt < (u.1 2).toInt ∧ 0 ≤ p2.toInt ∧ p2.toInt ≤ 7) ∧ (0 ≤ p3.toInt ∧ p3.toInt < (u.2 5 p2.toNatClampNeg).toInt ∧ 0 ≤ p4.toInt ∧ p4.toInt < (u.2 5 p2.toNatClampNeg).toInt ∧ ¬ p3.toInt = p4.toInt) ∧ ((u.2 16 p1.toNatClampNeg).toInt = 0))) ∧ ((r.1 0).toInt = 0 → r = g_sA (g_sA (g_sA (g_sI u 0 (0 : Int32)) 17 p1 p2) 18 p1 p3) 19 p1 p4) ∧ (¬ (r.1 0).toInt = 0 → ∃ k : Int32, r = g_sI u 0 k)) := by
  unfold fm_watch
  have z1_ := IM_s I
  refine okk_isEvent (fun b2_ => ?_) (fun b2_ => ?_)
  · have t3_ : ((u.1 2) - (1 : Int32)).toInt = ((u.1 2).toInt - (1 : Int)) := (oi_sub (a := (u.1 2)) (b := (1 : Int32)) rfl (by decide : (1 : Int32).toInt = 1) (by omega) (by omega))
    refine okk_f (by decide) ?_
    refine okk_isRoad (fun b4_ => ?_) (fun b4_ => ?_)
    · refine okk_f (by decide) ?_
      unfold fm_watch_20
      refine okk_f (by decide) ?_
      refine okk_ck (vp_I (by omega) (by omega)) ?_
      try have t5_ : (0 : Int32).toInt = (0 : Int) := (by decide : (0 : Int32).toInt = 0)
      have r6_ := IM_r5 I p2.toNatClampNeg
      try have t7_ : ((u.2 5 p2.toNatClampNeg) - (1 : Int32)).toInt = ((u.2 5 p2.toNatClampNeg).toInt - (1 : Int)) := (oi_sub (a := (u.2 5 p2.toNatClampNeg)) (b := (1 : Int32)) rfl (by decide : (1 : Int32).toInt = 1) (by omega) (by omega))
      refine okk_in (fun b8_ => ?_) (fun b8_ => ?_)
      · refine okk_f (by decide) ?_
        refine okk_ck (vp_I (by omega) (by omega)) ?_
        refine okk_in (fun b9_ => ?_) (fun b9_ => ?_)
        · refine okk_f (by decide) ?_
          refine okk_eq (fun c10_ c10_I => ?_) (fun c10_ c10_I => ?_)
          · unfold fm_watch_71
            refine okk_t (by decide) ?_
            refine okk_f (by decide) ?_
            unfold fm_watch_94
            refine okk_f (by decide) ?_
            refine okk_ck (vp_I (by omega) (by omega)) ?_
            refine okk_eq (fun c11_ c11_I => ?_) (fun c11_ c11_I => ?_)
            · unfold fm_watch_113
              obtain ⟨u12_, eu12_⟩ : ∃ y, y = g_sI u 0 (2 : Int32) := ⟨_, rfl⟩
              refine okk_bs (v := ((1 : Int32), u12_)) (by rw [eu12_]; exact fm_thr_2 _ _) ?_
              dsimp only
              have Iu12_ : IM g u12_ := by rw [eu12_]; exact IM_ix I _ (by decide)
              have h013_ : (u12_.1 0).toInt = 2 := by rw [eu12_, rdI, if_pos rfl]; decide
              have z14_ : (u12_.1 1).toInt = (u.1 1).toInt := by rw [eu12_]; rfl
              have z15_ : (u12_.1 2).toInt = (u.1 2).toInt := by rw [eu12_]; rfl
              refine okk_f (by decide) ?_
              exact okk_some (⟨Iu12_, (by show ((u12_.1 0).toInt = 1 ∧ ¬ (0 ≤ p1.toInt ∧ p1.toInt < (u.1 2).toInt ∧ 0 ≤ p2.toInt ∧ p2.toInt ≤ 7)) ∨ ((u12_.1 0).toInt = 2 ∧ (0 ≤ p1.toInt ∧ p1.toInt < (u.1 2).toInt ∧ 0 ≤ p2.toInt ∧ p2.toInt ≤ 7) ∧ ¬ (0 ≤ p3.toInt ∧ p3.toInt < (u.2 5 p2.toNatClampNeg).toInt ∧ 0 ≤ p4.toInt ∧ p4.toInt < (u.2 5 p2.toNatClampNeg).toInt ∧ ¬ p3.toInt = p4.toInt)) ∨ ((u12_.1 0).toInt = 3 ∧ (0 ≤ p1.toInt ∧ p1.toInt < (u.1 2).toInt ∧ 0 ≤ p2.toInt ∧ p2.toInt ≤ 7) ∧ (0 ≤ p3.toInt ∧ p3.toInt < (u.2 5 p2.toNatClampNeg).toInt ∧ 0 ≤ p4.toInt ∧ p4.toInt < (u.2 5 p2.toNatClampNeg).toInt ∧ ¬ p3.toInt = p4.toInt) ∧ ¬ ((u.2 16 p1.toNatClampNeg).toInt = 0)) ∨ ((u12_.1 0).toInt = 0 ∧ (0 ≤ p1.toInt ∧ p1.toInt < (u.1 2).toInt ∧ 0 ≤ p2.toInt ∧ p2.toInt ≤ 7) ∧ (0 ≤ p3.toInt ∧ p3.toInt < (u.2 5 p2.toNatClampNeg).toInt ∧ 0 ≤ p4.toInt ∧ p4.toInt < (u.2 5 p2.toNatClampNeg).toInt ∧ ¬ p3.toInt = p4.toInt) ∧ ((u.2 16 p1.toNatClampNeg).toInt = 0)); omega), (fun q => absurd q (by omega)), (fun _ => ⟨_, by rw [eu12_]⟩)⟩)
            · unfold fm_watch_113
              obtain ⟨u16_, eu16_⟩ : ∃ y, y = g_sI u 0 (2 : Int32) := ⟨_, rfl⟩
              refine okk_bs (v := ((1 : Int32), u16_)) (by rw [eu16_]; exact fm_thr_2 _ _) ?_
              dsimp only
              have Iu16_ : IM g u16_ := by rw [eu16_]; exact IM_ix I _ (by decide)
              have h017_ : (u16_.1 0).toInt = 2 := by rw [eu16_, rdI, if_pos rfl]; decide
              have z18_ : (u16_.1 1).toInt = (u.1 1).toInt := by rw [eu16_]; rfl
              have z19_ : (u16_.1 2).toInt = (u.1 2).toInt := by rw [eu16_]; rfl
              refine okk_f (by decide) ?_
              exact okk_some (⟨Iu16_, (by show ((u16_.1 0).toInt = 1 ∧ ¬ (0 ≤ p1.toInt ∧ p1.toInt < (u.1 2).toInt ∧ 0 ≤ p2.toInt ∧ p2.toInt ≤ 7)) ∨ ((u16_.1 0).toInt = 2 ∧ (0 ≤ p1.toInt ∧ p1.toInt < (u.1 2).toInt ∧ 0 ≤ p2.toInt ∧ p2.toInt ≤ 7) ∧ ¬ (0 ≤ p3.toInt ∧ p3.toInt < (u.2 5 p2.toNatClampNeg).toInt ∧ 0 ≤ p4.toInt ∧ p4.toInt < (u.2 5 p2.toNatClampNeg).toInt ∧ ¬ p3.toInt = p4.toInt)) ∨ ((u16_.1 0).toInt = 3 ∧ (0 ≤ p1.toInt ∧ p1.toInt < (u.1 2).toInt ∧ 0 ≤ p2.toInt ∧ p2.toInt ≤ 7) ∧ (0 ≤ p3.toInt ∧ p3.toInt < (u.2 5 p2.toNatClampNeg).toInt ∧ 0 ≤ p4.toInt ∧ p4.toInt < (u.2 5 p2.toNatClampNeg).toInt ∧ ¬ p3.toInt = p4.toInt) ∧ ¬ ((u.2 16 p1.toNatClampNeg).toInt = 0)) ∨ ((u16_.1 0).toInt = 0 ∧ (0 ≤ p1.toInt ∧ p1.toInt < (u.1 2).toInt ∧ 0 ≤ p2.toInt ∧ p2.toInt ≤ 7) ∧ (0 ≤ p3.toInt ∧ p3.toInt < (u.2 5 p2.toNatClampNeg).toInt ∧ 0 ≤ p4.toInt ∧ p4.toInt < (u.2 5 p2.toNatClampNeg).toInt ∧ ¬ p3.toInt = p4.toInt) ∧ ((u.2 16 p1.toNatClampNeg).toInt = 0)); omega), (fun q => absurd q (by omega)), (fun _ => ⟨_, by rw [eu16_]⟩)⟩)
          · unfold fm_watch_71
            refine okk_t (by decide) ?_
            refine okk_t (by decide) ?_
            unfold fm_watch_94
            refine okk_f (by decide) ?_
            refine okk_ck (vp_I (by omega) (by omega)) ?_
            refine okk_eq (fun c20_ c20_I => ?_) (fun c20_ c20_I => ?_)
            · unfold fm_watch_113
              obtain ⟨u21_, eu21_⟩ : ∃ y, y = g_sI u 0 (0 : Int32) := ⟨_, rfl⟩
              refine okk_bs (v := ((0 : Int32), u21_)) (by rw [eu21_]; exact fm_thr_0 _) ?_
              dsimp only
              have Iu21_ : IM g u21_ := by rw [eu21_]; exact IM_ix I _ (by decide)
              have h022_ : (u21_.1 0).toInt = 0 := by rw [eu21_, rdI, if_pos rfl]; decide
              have z23_ : (u21_.1 1).toInt = (u.1 1).toInt := by rw [eu21_]; rfl
              have z24_ : (u21_.1 2).toInt = (u.1 2).toInt := by rw [eu21_]; rfl
              refine okk_t (by decide) ?_
              refine okk_ck (vp_I (by omega) (by omega)) ?_
              refine okk_gl (fun u325_ eu325_ => ?_)
              have Iu325_ : IM g u325_ := by rw [eu325_]; exact IM_v17 Iu21_ _ _ (by omega) (by omega)
              have z26_ : (u325_.1 0).toInt = (u21_.1 0).toInt := by rw [eu325_]; rfl
              have z27_ : (u325_.1 1).toInt = (u21_.1 1).toInt := by rw [eu325_]; rfl
              have z28_ : (u325_.1 2).toInt = (u21_.1 2).toInt := by rw [eu325_]; rfl
              refine okk_ck (vp_I (by omega) (by omega)) ?_
              refine okk_gl (fun u429_ eu429_ => ?_)
              have Iu429_ : IM g u429_ := by rw [eu429_]; exact IM_v18 Iu325_ _ _ (by omega) (by omega)
              have z30_ : (u429_.1 0).toInt = (u325_.1 0).toInt := by rw [eu429_]; rfl
              have z31_ : (u429_.1 1).toInt = (u325_.1 1).toInt := by rw [eu429_]; rfl
              have z32_ : (u429_.1 2).toInt = (u325_.1 2).toInt := by rw [eu429_]; rfl
              refine okk_ck (vp_I (by omega) (by omega)) ?_
              refine okk_gl (fun u533_ eu533_ => ?_)
              have Iu533_ : IM g u533_ := by rw [eu533_]; exact IM_v19 Iu429_ _ _ (by omega) (by omega)
              have z34_ : (u533_.1 0).toInt = (u429_.1 0).toInt := by rw [eu533_]; rfl
              have z35_ : (u533_.1 1).toInt = (u429_.1 1).toInt := by rw [eu533_]; rfl
              have z36_ : (u533_.1 2).toInt = (u429_.1 2).toInt := by rw [eu533_]; rfl
              exact okk_some (⟨Iu533_, (by show ((u533_.1 0).toInt = 1 ∧ ¬ (0 ≤ p1.toInt ∧ p1.toInt < (u.1 2).toInt ∧ 0 ≤ p2.toInt ∧ p2.toInt ≤ 7)) ∨ ((u533_.1 0).toInt = 2 ∧ (0 ≤ p1.toInt ∧ p1.toInt < (u.1 2).toInt ∧ 0 ≤ p2.toInt ∧ p2.toInt ≤ 7) ∧ ¬ (0 ≤ p3.toInt ∧ p3.toInt < (u.2 5 p2.toNatClampNeg).toInt ∧ 0 ≤ p4.toInt ∧ p4.toInt < (u.2 5 p2.toNatClampNeg).toInt ∧ ¬ p3.toInt = p4.toInt)) ∨ ((u533_.1 0).toInt = 3 ∧ (0 ≤ p1.toInt ∧ p1.toInt < (u.1 2).toInt ∧ 0 ≤ p2.toInt ∧ p2.toInt ≤ 7) ∧ (0 ≤ p3.toInt ∧ p3.toInt < (u.2 5 p2.toNatClampNeg).toInt ∧ 0 ≤ p4.toInt ∧ p4.toInt < (u.2 5 p2.toNatClampNeg).toInt ∧ ¬ p3.toInt = p4.toInt) ∧ ¬ ((u.2 16 p1.toNatClampNeg).toInt = 0)) ∨ ((u533_.1 0).toInt = 0 ∧ (0 ≤ p1.toInt ∧ p1.toInt < (u.1 2).toInt ∧ 0 ≤ p2.toInt ∧ p2.toInt ≤ 7) ∧ (0 ≤ p3.toInt ∧ p3.toInt < (u.2 5 p2.toNatClampNeg).toInt ∧ 0 ≤ p4.toInt ∧ p4.toInt < (u.2 5 p2.toNatClampNeg).toInt ∧ ¬ p3.toInt = p4.toInt) ∧ ((u.2 16 p1.toNatClampNeg).toInt = 0)); omega), (fun _ => by rw [eu533_, eu429_, eu325_, eu21_]), (fun q => absurd (by omega) q)⟩)
            · unfold fm_watch_113
              obtain ⟨u37_, eu37_⟩ : ∃ y, y = g_sI u 0 (3 : Int32) := ⟨_, rfl⟩
              refine okk_bs (v := ((1 : Int32), u37_)) (by rw [eu37_]; exact fm_thr_3 _) ?_
              dsimp only
              have Iu37_ : IM g u37_ := by rw [eu37_]; exact IM_ix I _ (by decide)
              have h038_ : (u37_.1 0).toInt = 3 := by rw [eu37_, rdI, if_pos rfl]; decide
              have z39_ : (u37_.1 1).toInt = (u.1 1).toInt := by rw [eu37_]; rfl
              have z40_ : (u37_.1 2).toInt = (u.1 2).toInt := by rw [eu37_]; rfl
              refine okk_f (by decide) ?_
              exact okk_some (⟨Iu37_, (by show ((u37_.1 0).toInt = 1 ∧ ¬ (0 ≤ p1.toInt ∧ p1.toInt < (u.1 2).toInt ∧ 0 ≤ p2.toInt ∧ p2.toInt ≤ 7)) ∨ ((u37_.1 0).toInt = 2 ∧ (0 ≤ p1.toInt ∧ p1.toInt < (u.1 2).toInt ∧ 0 ≤ p2.toInt ∧ p2.toInt ≤ 7) ∧ ¬ (0 ≤ p3.toInt ∧ p3.toInt < (u.2 5 p2.toNatClampNeg).toInt ∧ 0 ≤ p4.toInt ∧ p4.toInt < (u.2 5 p2.toNatClampNeg).toInt ∧ ¬ p3.toInt = p4.toInt)) ∨ ((u37_.1 0).toInt = 3 ∧ (0 ≤ p1.toInt ∧ p1.toInt < (u.1 2).toInt ∧ 0 ≤ p2.toInt ∧ p2.toInt ≤ 7) ∧ (0 ≤ p3.toInt ∧ p3.toInt < (u.2 5 p2.toNatClampNeg).toInt ∧ 0 ≤ p4.toInt ∧ p4.toInt < (u.2 5 p2.toNatClampNeg).toInt ∧ ¬ p3.toInt = p4.toInt) ∧ ¬ ((u.2 16 p1.toNatClampNeg).toInt = 0)) ∨ ((u37_.1 0).toInt = 0 ∧ (0 ≤ p1.toInt ∧ p1.toInt < (u.1 2).toInt ∧ 0 ≤ p2.toInt ∧ p2.toInt ≤ 7) ∧ (0 ≤ p3.toInt ∧ p3.toInt < (u.2 5 p2.toNatClampNeg).toInt ∧ 0 ≤ p4.toInt ∧ p4.toInt < (u.2 5 p2.toNatClampNeg).toInt ∧ ¬ p3.toInt = p4.toInt) ∧ ((u.2 16 p1.toNatClampNeg).toInt = 0)); omega), (fun q => absurd q (by omega)), (fun _ => ⟨_, by rw [eu37_]⟩)⟩)
        · refine okk_t (by decide) ?_
          unfold fm_watch_71
          refine okk_t (by decide) ?_
          refine okk_f (by decide) ?_
          unfold fm_watch_94
          refine okk_f (by decide) ?_
          refine okk_ck (vp_I (by omega) (by omega)) ?_
          refine okk_eq (fun c41_ c41_I => ?_) (fun c41_ c41_I => ?_)
          · unfold fm_watch_113
            obtain ⟨u42_, eu42_⟩ : ∃ y, y = g_sI u 0 (2 : Int32) := ⟨_, rfl⟩
            refine okk_bs (v := ((1 : Int32), u42_)) (by rw [eu42_]; exact fm_thr_2 _ _) ?_
            dsimp only
            have Iu42_ : IM g u42_ := by rw [eu42_]; exact IM_ix I _ (by decide)
            have h043_ : (u42_.1 0).toInt = 2 := by rw [eu42_, rdI, if_pos rfl]; decide
            have z44_ : (u42_.1 1).toInt = (u.1 1).toInt := by rw [eu42_]; rfl
            have z45_ : (u42_.1 2).toInt = (u.1 2).toInt := by rw [eu42_]; rfl
            refine okk_f (by decide) ?_
            exact okk_some (⟨Iu42_, (by show ((u42_.1 0).toInt = 1 ∧ ¬ (0 ≤ p1.toInt ∧ p1.toInt < (u.1 2).toInt ∧ 0 ≤ p2.toInt ∧ p2.toInt ≤ 7)) ∨ ((u42_.1 0).toInt = 2 ∧ (0 ≤ p1.toInt ∧ p1.toInt < (u.1 2).toInt ∧ 0 ≤ p2.toInt ∧ p2.toInt ≤ 7) ∧ ¬ (0 ≤ p3.toInt ∧ p3.toInt < (u.2 5 p2.toNatClampNeg).toInt ∧ 0 ≤ p4.toInt ∧ p4.toInt < (u.2 5 p2.toNatClampNeg).toInt ∧ ¬ p3.toInt = p4.toInt)) ∨ ((u42_.1 0).toInt = 3 ∧ (0 ≤ p1.toInt ∧ p1.toInt < (u.1 2).toInt ∧ 0 ≤ p2.toInt ∧ p2.toInt ≤ 7) ∧ (0 ≤ p3.toInt ∧ p3.toInt < (u.2 5 p2.toNatClampNeg).toInt ∧ 0 ≤ p4.toInt ∧ p4.toInt < (u.2 5 p2.toNatClampNeg).toInt ∧ ¬ p3.toInt = p4.toInt) ∧ ¬ ((u.2 16 p1.toNatClampNeg).toInt = 0)) ∨ ((u42_.1 0).toInt = 0 ∧ (0 ≤ p1.toInt ∧ p1.toInt < (u.1 2).toInt ∧ 0 ≤ p2.toInt ∧ p2.toInt ≤ 7) ∧ (0 ≤ p3.toInt ∧ p3.toInt < (u.2 5 p2.toNatClampNeg).toInt ∧ 0 ≤ p4.toInt ∧ p4.toInt < (u.2 5 p2.toNatClampNeg).toInt ∧ ¬ p3.toInt = p4.toInt) ∧ ((u.2 16 p1.toNatClampNeg).toInt = 0)); omega), (fun q => absurd q (by omega)), (fun _ => ⟨_, by rw [eu42_]⟩)⟩)
          · unfold fm_watch_113
            obtain ⟨u46_, eu46_⟩ : ∃ y, y = g_sI u 0 (2 : Int32) := ⟨_, rfl⟩
            refine okk_bs (v := ((1 : Int32), u46_)) (by rw [eu46_]; exact fm_thr_2 _ _) ?_
            dsimp only
            have Iu46_ : IM g u46_ := by rw [eu46_]; exact IM_ix I _ (by decide)
            have h047_ : (u46_.1 0).toInt = 2 := by rw [eu46_, rdI, if_pos rfl]; decide
            have z48_ : (u46_.1 1).toInt = (u.1 1).toInt := by rw [eu46_]; rfl
            have z49_ : (u46_.1 2).toInt = (u.1 2).toInt := by rw [eu46_]; rfl
            refine okk_f (by decide) ?_
            exact okk_some (⟨Iu46_, (by show ((u46_.1 0).toInt = 1 ∧ ¬ (0 ≤ p1.toInt ∧ p1.toInt < (u.1 2).toInt ∧ 0 ≤ p2.toInt ∧ p2.toInt ≤ 7)) ∨ ((u46_.1 0).toInt = 2 ∧ (0 ≤ p1.toInt ∧ p1.toInt < (u.1 2).toInt ∧ 0 ≤ p2.toInt ∧ p2.toInt ≤ 7) ∧ ¬ (0 ≤ p3.toInt ∧ p3.toInt < (u.2 5 p2.toNatClampNeg).toInt ∧ 0 ≤ p4.toInt ∧ p4.toInt < (u.2 5 p2.toNatClampNeg).toInt ∧ ¬ p3.toInt = p4.toInt)) ∨ ((u46_.1 0).toInt = 3 ∧ (0 ≤ p1.toInt ∧ p1.toInt < (u.1 2).toInt ∧ 0 ≤ p2.toInt ∧ p2.toInt ≤ 7) ∧ (0 ≤ p3.toInt ∧ p3.toInt < (u.2 5 p2.toNatClampNeg).toInt ∧ 0 ≤ p4.toInt ∧ p4.toInt < (u.2 5 p2.toNatClampNeg).toInt ∧ ¬ p3.toInt = p4.toInt) ∧ ¬ ((u.2 16 p1.toNatClampNeg).toInt = 0)) ∨ ((u46_.1 0).toInt = 0 ∧ (0 ≤ p1.toInt ∧ p1.toInt < (u.1 2).toInt ∧ 0 ≤ p2.toInt ∧ p2.toInt ≤ 7) ∧ (0 ≤ p3.toInt ∧ p3.toInt < (u.2 5 p2.toNatClampNeg).toInt ∧ 0 ≤ p4.toInt ∧ p4.toInt < (u.2 5 p2.toNatClampNeg).toInt ∧ ¬ p3.toInt = p4.toInt) ∧ ((u.2 16 p1.toNatClampNeg).toInt = 0)); omega), (fun q => absurd q (by omega)), (fun _ => ⟨_, by rw [eu46_]⟩)⟩)
      · refine okk_t (by decide) ?_
        unfold fm_watch_71
        refine okk_t (by decide) ?_
        refine okk_f (by decide) ?_
        unfold fm_watch_94
        refine okk_f (by decide) ?_
        refine okk_ck (vp_I (by omega) (by omega)) ?_
        refine okk_eq (fun c50_ c50_I => ?_) (fun c50_ c50_I => ?_)
        · unfold fm_watch_113
          obtain ⟨u51_, eu51_⟩ : ∃ y, y = g_sI u 0 (2 : Int32) := ⟨_, rfl⟩
          refine okk_bs (v := ((1 : Int32), u51_)) (by rw [eu51_]; exact fm_thr_2 _ _) ?_
          dsimp only
          have Iu51_ : IM g u51_ := by rw [eu51_]; exact IM_ix I _ (by decide)
          have h052_ : (u51_.1 0).toInt = 2 := by rw [eu51_, rdI, if_pos rfl]; decide
          have z53_ : (u51_.1 1).toInt = (u.1 1).toInt := by rw [eu51_]; rfl
          have z54_ : (u51_.1 2).toInt = (u.1 2).toInt := by rw [eu51_]; rfl
          refine okk_f (by decide) ?_
          exact okk_some (⟨Iu51_, (by show ((u51_.1 0).toInt = 1 ∧ ¬ (0 ≤ p1.toInt ∧ p1.toInt < (u.1 2).toInt ∧ 0 ≤ p2.toInt ∧ p2.toInt ≤ 7)) ∨ ((u51_.1 0).toInt = 2 ∧ (0 ≤ p1.toInt ∧ p1.toInt < (u.1 2).toInt ∧ 0 ≤ p2.toInt ∧ p2.toInt ≤ 7) ∧ ¬ (0 ≤ p3.toInt ∧ p3.toInt < (u.2 5 p2.toNatClampNeg).toInt ∧ 0 ≤ p4.toInt ∧ p4.toInt < (u.2 5 p2.toNatClampNeg).toInt ∧ ¬ p3.toInt = p4.toInt)) ∨ ((u51_.1 0).toInt = 3 ∧ (0 ≤ p1.toInt ∧ p1.toInt < (u.1 2).toInt ∧ 0 ≤ p2.toInt ∧ p2.toInt ≤ 7) ∧ (0 ≤ p3.toInt ∧ p3.toInt < (u.2 5 p2.toNatClampNeg).toInt ∧ 0 ≤ p4.toInt ∧ p4.toInt < (u.2 5 p2.toNatClampNeg).toInt ∧ ¬ p3.toInt = p4.toInt) ∧ ¬ ((u.2 16 p1.toNatClampNeg).toInt = 0)) ∨ ((u51_.1 0).toInt = 0 ∧ (0 ≤ p1.toInt ∧ p1.toInt < (u.1 2).toInt ∧ 0 ≤ p2.toInt ∧ p2.toInt ≤ 7) ∧ (0 ≤ p3.toInt ∧ p3.toInt < (u.2 5 p2.toNatClampNeg).toInt ∧ 0 ≤ p4.toInt ∧ p4.toInt < (u.2 5 p2.toNatClampNeg).toInt ∧ ¬ p3.toInt = p4.toInt) ∧ ((u.2 16 p1.toNatClampNeg).toInt = 0)); omega), (fun q => absurd q (by omega)), (fun _ => ⟨_, by rw [eu51_]⟩)⟩)
        · unfold fm_watch_113
          obtain ⟨u55_, eu55_⟩ : ∃ y, y = g_sI u 0 (2 : Int32) := ⟨_, rfl⟩
          refine okk_bs (v := ((1 : Int32), u55_)) (by rw [eu55_]; exact fm_thr_2 _ _) ?_
          dsimp only
          have Iu55_ : IM g u55_ := by rw [eu55_]; exact IM_ix I _ (by decide)
          have h056_ : (u55_.1 0).toInt = 2 := by rw [eu55_, rdI, if_pos rfl]; decide
          have z57_ : (u55_.1 1).toInt = (u.1 1).toInt := by rw [eu55_]; rfl
          have z58_ : (u55_.1 2).toInt = (u.1 2).toInt := by rw [eu55_]; rfl
          refine okk_f (by decide) ?_
          exact okk_some (⟨Iu55_, (by show ((u55_.1 0).toInt = 1 ∧ ¬ (0 ≤ p1.toInt ∧ p1.toInt < (u.1 2).toInt ∧ 0 ≤ p2.toInt ∧ p2.toInt ≤ 7)) ∨ ((u55_.1 0).toInt = 2 ∧ (0 ≤ p1.toInt ∧ p1.toInt < (u.1 2).toInt ∧ 0 ≤ p2.toInt ∧ p2.toInt ≤ 7) ∧ ¬ (0 ≤ p3.toInt ∧ p3.toInt < (u.2 5 p2.toNatClampNeg).toInt ∧ 0 ≤ p4.toInt ∧ p4.toInt < (u.2 5 p2.toNatClampNeg).toInt ∧ ¬ p3.toInt = p4.toInt)) ∨ ((u55_.1 0).toInt = 3 ∧ (0 ≤ p1.toInt ∧ p1.toInt < (u.1 2).toInt ∧ 0 ≤ p2.toInt ∧ p2.toInt ≤ 7) ∧ (0 ≤ p3.toInt ∧ p3.toInt < (u.2 5 p2.toNatClampNeg).toInt ∧ 0 ≤ p4.toInt ∧ p4.toInt < (u.2 5 p2.toNatClampNeg).toInt ∧ ¬ p3.toInt = p4.toInt) ∧ ¬ ((u.2 16 p1.toNatClampNeg).toInt = 0)) ∨ ((u55_.1 0).toInt = 0 ∧ (0 ≤ p1.toInt ∧ p1.toInt < (u.1 2).toInt ∧ 0 ≤ p2.toInt ∧ p2.toInt ≤ 7) ∧ (0 ≤ p3.toInt ∧ p3.toInt < (u.2 5 p2.toNatClampNeg).toInt ∧ 0 ≤ p4.toInt ∧ p4.toInt < (u.2 5 p2.toNatClampNeg).toInt ∧ ¬ p3.toInt = p4.toInt) ∧ ((u.2 16 p1.toNatClampNeg).toInt = 0)); omega), (fun q => absurd q (by omega)), (fun _ => ⟨_, by rw [eu55_]⟩)⟩)
    · refine okk_t (by decide) ?_
      unfold fm_watch_20
      refine okk_t (by decide) ?_
      unfold fm_watch_71
      refine okk_f (by decide) ?_
      refine okk_f (by decide) ?_
      unfold fm_watch_94
      refine okk_t (by decide) ?_
      unfold fm_watch_113
      obtain ⟨u59_, eu59_⟩ : ∃ y, y = g_sI u 0 (1 : Int32) := ⟨_, rfl⟩
      refine okk_bs (v := ((1 : Int32), u59_)) (by rw [eu59_]; exact fm_thr_1 _ _ _) ?_
      dsimp only
      have Iu59_ : IM g u59_ := by rw [eu59_]; exact IM_ix I _ (by decide)
      have h060_ : (u59_.1 0).toInt = 1 := by rw [eu59_, rdI, if_pos rfl]; decide
      have z61_ : (u59_.1 1).toInt = (u.1 1).toInt := by rw [eu59_]; rfl
      have z62_ : (u59_.1 2).toInt = (u.1 2).toInt := by rw [eu59_]; rfl
      refine okk_f (by decide) ?_
      exact okk_some (⟨Iu59_, (by show ((u59_.1 0).toInt = 1 ∧ ¬ (0 ≤ p1.toInt ∧ p1.toInt < (u.1 2).toInt ∧ 0 ≤ p2.toInt ∧ p2.toInt ≤ 7)) ∨ ((u59_.1 0).toInt = 2 ∧ (0 ≤ p1.toInt ∧ p1.toInt < (u.1 2).toInt ∧ 0 ≤ p2.toInt ∧ p2.toInt ≤ 7) ∧ ¬ (0 ≤ p3.toInt ∧ p3.toInt < (u.2 5 p2.toNatClampNeg).toInt ∧ 0 ≤ p4.toInt ∧ p4.toInt < (u.2 5 p2.toNatClampNeg).toInt ∧ ¬ p3.toInt = p4.toInt)) ∨ ((u59_.1 0).toInt = 3 ∧ (0 ≤ p1.toInt ∧ p1.toInt < (u.1 2).toInt ∧ 0 ≤ p2.toInt ∧ p2.toInt ≤ 7) ∧ (0 ≤ p3.toInt ∧ p3.toInt < (u.2 5 p2.toNatClampNeg).toInt ∧ 0 ≤ p4.toInt ∧ p4.toInt < (u.2 5 p2.toNatClampNeg).toInt ∧ ¬ p3.toInt = p4.toInt) ∧ ¬ ((u.2 16 p1.toNatClampNeg).toInt = 0)) ∨ ((u59_.1 0).toInt = 0 ∧ (0 ≤ p1.toInt ∧ p1.toInt < (u.1 2).toInt ∧ 0 ≤ p2.toInt ∧ p2.toInt ≤ 7) ∧ (0 ≤ p3.toInt ∧ p3.toInt < (u.2 5 p2.toNatClampNeg).toInt ∧ 0 ≤ p4.toInt ∧ p4.toInt < (u.2 5 p2.toNatClampNeg).toInt ∧ ¬ p3.toInt = p4.toInt) ∧ ((u.2 16 p1.toNatClampNeg).toInt = 0)); omega), (fun q => absurd q (by omega)), (fun _ => ⟨_, by rw [eu59_]⟩)⟩)
  · have t63_ : ((u.1 2) - (1 : Int32)).toInt = ((u.1 2).toInt - (1 : Int)) := (oi_sub (a := (u.1 2)) (b := (1 : Int32)) rfl (by decide : (1 : Int32).toInt = 1) (by omega) (by omega))
    refine okk_t (by decide) ?_
    unfold fm_watch_20
    refine okk_t (by decide) ?_
    unfold fm_watch_71
    refine okk_f (by decide) ?_
    refine okk_f (by decide) ?_
    unfold fm_watch_94
    refine okk_t (by decide) ?_
    unfold fm_watch_113
    obtain ⟨u64_, eu64_⟩ : ∃ y, y = g_sI u 0 (1 : Int32) := ⟨_, rfl⟩
    refine okk_bs (v := ((1 : Int32), u64_)) (by rw [eu64_]; exact fm_thr_1 _ _ _) ?_
    dsimp only
    have Iu64_ : IM g u64_ := by rw [eu64_]; exact IM_ix I _ (by decide)
    have h065_ : (u64_.1 0).toInt = 1 := by rw [eu64_, rdI, if_pos rfl]; decide
    have z66_ : (u64_.1 1).toInt = (u.1 1).toInt := by rw [eu64_]; rfl
    have z67_ : (u64_.1 2).toInt = (u.1 2).toInt := by rw [eu64_]; rfl
    refine okk_f (by decide) ?_
    exact okk_some (⟨Iu64_, (by show ((u64_.1 0).toInt = 1 ∧ ¬ (0 ≤ p1.toInt ∧ p1.toInt < (u.1 2).toInt ∧ 0 ≤ p2.toInt ∧ p2.toInt ≤ 7)) ∨ ((u64_.1 0).toInt = 2 ∧ (0 ≤ p1.toInt ∧ p1.toInt < (u.1 2).toInt ∧ 0 ≤ p2.toInt ∧ p2.toInt ≤ 7) ∧ ¬ (0 ≤ p3.toInt ∧ p3.toInt < (u.2 5 p2.toNatClampNeg).toInt ∧ 0 ≤ p4.toInt ∧ p4.toInt < (u.2 5 p2.toNatClampNeg).toInt ∧ ¬ p3.toInt = p4.toInt)) ∨ ((u64_.1 0).toInt = 3 ∧ (0 ≤ p1.toInt ∧ p1.toInt < (u.1 2).toInt ∧ 0 ≤ p2.toInt ∧ p2.toInt ≤ 7) ∧ (0 ≤ p3.toInt ∧ p3.toInt < (u.2 5 p2.toNatClampNeg).toInt ∧ 0 ≤ p4.toInt ∧ p4.toInt < (u.2 5 p2.toNatClampNeg).toInt ∧ ¬ p3.toInt = p4.toInt) ∧ ¬ ((u.2 16 p1.toNatClampNeg).toInt = 0)) ∨ ((u64_.1 0).toInt = 0 ∧ (0 ≤ p1.toInt ∧ p1.toInt < (u.1 2).toInt ∧ 0 ≤ p2.toInt ∧ p2.toInt ≤ 7) ∧ (0 ≤ p3.toInt ∧ p3.toInt < (u.2 5 p2.toNatClampNeg).toInt ∧ 0 ≤ p4.toInt ∧ p4.toInt < (u.2 5 p2.toNatClampNeg).toInt ∧ ¬ p3.toInt = p4.toInt) ∧ ((u.2 16 p1.toNatClampNeg).toInt = 0)); omega), (fun q => absurd q (by omega)), (fun _ => ⟨_, by rw [eu64_]⟩)⟩)
set_option maxHeartbeats 4000000 in
theorem okl_fcJ_state {g : Nat → Int32} {u : g_S} (I : IC g u) {p1 : Int32} {p2 : Int32} : okk (fcJ_state u p1 p2) (fun r => IC g r.2 ∧ ((r.1 = 1 ∧ ¬ (0 ≤ p1.toInt ∧ p1.toInt < (u.1 1).toInt)) ∨ (r.1 = 2 ∧ (0 ≤ p1.toInt ∧ p1.toInt < (u.1 1).toInt) ∧ ¬ (0 ≤ p2.toInt ∧ p2.toInt ≤ 2)) ∨ (r.1 = 3 ∧ (0 ≤ p1.toInt ∧ p1.toInt < (u.1 1).toInt) ∧ (0 ≤ p2.toInt ∧ p2.toInt ≤ 2) ∧ ¬ (¬ (u.2 17 p1.toNatClampNeg).toInt = p2.toInt ∧ ¬ (u.2 17 p1.toNatClampNeg).toInt = 3)) ∨ (r.1 = 0 ∧ (0 ≤ p1.toInt ∧ p1.toInt < (u.1 1).toInt) ∧ (0 ≤ p2.toInt ∧ p2.toInt ≤ 2) ∧ (¬ (u.2 17 p1.toNatClampNeg).toInt = p2.toInt ∧ ¬ (u.2 17 p1.toNatClampNeg).toInt = 3))) ∧ (r.1 = 0 → r.2 = g_sA u 17 p1 p2) ∧ (¬ r.1 = 0 → r.2 = u)) := by
  unfold fcJ_state
  have z1_ := IC_s I
  refine okk_isBelow (fun b2_ => ?_) (fun b2_ => ?_)
  · refine okk_bs (v := (0 : Nat)) (by decide) ?_
    refine okk_t (by decide) ?_
    try have t4_ : (0 : Int32).toInt = (0 : Int) := (by decide : (0 : Int32).toInt = 0)
    refine okk_lt (fun c3_ c3_I => ?_) (fun c3_ c3_I => ?_)
    · unfold fcJ_state_28
      refine okk_bs (v := (2 : Nat)) (by decide) ?_
      refine okk_f (by decide) ?_
      exact okk_some (⟨I, (by show (2 = 1 ∧ ¬ (0 ≤ p1.toInt ∧ p1.toInt < (u.1 1).toInt)) ∨ (2 = 2 ∧ (0 ≤ p1.toInt ∧ p1.toInt < (u.1 1).toInt) ∧ ¬ (0 ≤ p2.toInt ∧ p2.toInt ≤ 2)) ∨ (2 = 3 ∧ (0 ≤ p1.toInt ∧ p1.toInt < (u.1 1).toInt) ∧ (0 ≤ p2.toInt ∧ p2.toInt ≤ 2) ∧ ¬ (¬ (u.2 17 p1.toNatClampNeg).toInt = p2.toInt ∧ ¬ (u.2 17 p1.toNatClampNeg).toInt = 3)) ∨ (2 = 0 ∧ (0 ≤ p1.toInt ∧ p1.toInt < (u.1 1).toInt) ∧ (0 ≤ p2.toInt ∧ p2.toInt ≤ 2) ∧ (¬ (u.2 17 p1.toNatClampNeg).toInt = p2.toInt ∧ ¬ (u.2 17 p1.toNatClampNeg).toInt = 3)); omega), (fun q => by simp at q), (fun _ => rfl)⟩)
    · try have t6_ : (2 : Int32).toInt = (2 : Int) := (by decide : (2 : Int32).toInt = 2)
      refine okk_lt (fun c5_ c5_I => ?_) (fun c5_ c5_I => ?_)
      · unfold fcJ_state_28
        refine okk_bs (v := (2 : Nat)) (by decide) ?_
        refine okk_f (by decide) ?_
        exact okk_some (⟨I, (by show (2 = 1 ∧ ¬ (0 ≤ p1.toInt ∧ p1.toInt < (u.1 1).toInt)) ∨ (2 = 2 ∧ (0 ≤ p1.toInt ∧ p1.toInt < (u.1 1).toInt) ∧ ¬ (0 ≤ p2.toInt ∧ p2.toInt ≤ 2)) ∨ (2 = 3 ∧ (0 ≤ p1.toInt ∧ p1.toInt < (u.1 1).toInt) ∧ (0 ≤ p2.toInt ∧ p2.toInt ≤ 2) ∧ ¬ (¬ (u.2 17 p1.toNatClampNeg).toInt = p2.toInt ∧ ¬ (u.2 17 p1.toNatClampNeg).toInt = 3)) ∨ (2 = 0 ∧ (0 ≤ p1.toInt ∧ p1.toInt < (u.1 1).toInt) ∧ (0 ≤ p2.toInt ∧ p2.toInt ≤ 2) ∧ (¬ (u.2 17 p1.toNatClampNeg).toInt = p2.toInt ∧ ¬ (u.2 17 p1.toNatClampNeg).toInt = 3)); omega), (fun q => by simp at q), (fun _ => rfl)⟩)
      · unfold fcJ_state_28
        refine okk_bs (v := (0 : Nat)) (by decide) ?_
        refine okk_t (by decide) ?_
        refine okk_ck (vp_I (by omega) (by omega)) ?_
        refine okk_eq (fun c7_ c7_I => ?_) (fun c7_ c7_I => ?_)
        · unfold fcJ_state_62
          refine okk_bs (v := (3 : Nat)) (by decide) ?_
          refine okk_f (by decide) ?_
          exact okk_some (⟨I, (by show (3 = 1 ∧ ¬ (0 ≤ p1.toInt ∧ p1.toInt < (u.1 1).toInt)) ∨ (3 = 2 ∧ (0 ≤ p1.toInt ∧ p1.toInt < (u.1 1).toInt) ∧ ¬ (0 ≤ p2.toInt ∧ p2.toInt ≤ 2)) ∨ (3 = 3 ∧ (0 ≤ p1.toInt ∧ p1.toInt < (u.1 1).toInt) ∧ (0 ≤ p2.toInt ∧ p2.toInt ≤ 2) ∧ ¬ (¬ (u.2 17 p1.toNatClampNeg).toInt = p2.toInt ∧ ¬ (u.2 17 p1.toNatClampNeg).toInt = 3)) ∨ (3 = 0 ∧ (0 ≤ p1.toInt ∧ p1.toInt < (u.1 1).toInt) ∧ (0 ≤ p2.toInt ∧ p2.toInt ≤ 2) ∧ (¬ (u.2 17 p1.toNatClampNeg).toInt = p2.toInt ∧ ¬ (u.2 17 p1.toNatClampNeg).toInt = 3)); omega), (fun q => by simp at q), (fun _ => rfl)⟩)
        · refine okk_ck (vp_I (by omega) (by omega)) ?_
          try have t9_ : (3 : Int32).toInt = (3 : Int) := (by decide : (3 : Int32).toInt = 3)
          refine okk_eq (fun c8_ c8_I => ?_) (fun c8_ c8_I => ?_)
          · unfold fcJ_state_62
            refine okk_bs (v := (3 : Nat)) (by decide) ?_
            refine okk_f (by decide) ?_
            exact okk_some (⟨I, (by show (3 = 1 ∧ ¬ (0 ≤ p1.toInt ∧ p1.toInt < (u.1 1).toInt)) ∨ (3 = 2 ∧ (0 ≤ p1.toInt ∧ p1.toInt < (u.1 1).toInt) ∧ ¬ (0 ≤ p2.toInt ∧ p2.toInt ≤ 2)) ∨ (3 = 3 ∧ (0 ≤ p1.toInt ∧ p1.toInt < (u.1 1).toInt) ∧ (0 ≤ p2.toInt ∧ p2.toInt ≤ 2) ∧ ¬ (¬ (u.2 17 p1.toNatClampNeg).toInt = p2.toInt ∧ ¬ (u.2 17 p1.toNatClampNeg).toInt = 3)) ∨ (3 = 0 ∧ (0 ≤ p1.toInt ∧ p1.toInt < (u.1 1).toInt) ∧ (0 ≤ p2.toInt ∧ p2.toInt ≤ 2) ∧ (¬ (u.2 17 p1.toNatClampNeg).toInt = p2.toInt ∧ ¬ (u.2 17 p1.toNatClampNeg).toInt = 3)); omega), (fun q => by simp at q), (fun _ => rfl)⟩)
          · unfold fcJ_state_62
            refine okk_bs (v := (0 : Nat)) (by decide) ?_
            refine okk_t (by decide) ?_
            refine okk_ck (vp_I (by omega) (by omega)) ?_
            refine okk_gl (fun u510_ eu510_ => ?_)
            have Iu510_ : IC g u510_ := by rw [eu510_]; exact IC_w17 I _ _ (IC_f I _ (Or.inl c8_))
            have z11_ : (u510_.1 0).toInt = (u.1 0).toInt := by rw [eu510_]; rfl
            have z12_ : (u510_.1 1).toInt = (u.1 1).toInt := by rw [eu510_]; rfl
            exact okk_some (⟨Iu510_, (by show (0 = 1 ∧ ¬ (0 ≤ p1.toInt ∧ p1.toInt < (u.1 1).toInt)) ∨ (0 = 2 ∧ (0 ≤ p1.toInt ∧ p1.toInt < (u.1 1).toInt) ∧ ¬ (0 ≤ p2.toInt ∧ p2.toInt ≤ 2)) ∨ (0 = 3 ∧ (0 ≤ p1.toInt ∧ p1.toInt < (u.1 1).toInt) ∧ (0 ≤ p2.toInt ∧ p2.toInt ≤ 2) ∧ ¬ (¬ (u.2 17 p1.toNatClampNeg).toInt = p2.toInt ∧ ¬ (u.2 17 p1.toNatClampNeg).toInt = 3)) ∨ (0 = 0 ∧ (0 ≤ p1.toInt ∧ p1.toInt < (u.1 1).toInt) ∧ (0 ≤ p2.toInt ∧ p2.toInt ≤ 2) ∧ (¬ (u.2 17 p1.toNatClampNeg).toInt = p2.toInt ∧ ¬ (u.2 17 p1.toNatClampNeg).toInt = 3)); omega), (fun _ => by rw [eu510_]), (fun q => absurd rfl q)⟩)
  · refine okk_bs (v := (1 : Nat)) (by decide) ?_
    refine okk_f (by decide) ?_
    exact okk_some (⟨I, (by show (1 = 1 ∧ ¬ (0 ≤ p1.toInt ∧ p1.toInt < (u.1 1).toInt)) ∨ (1 = 2 ∧ (0 ≤ p1.toInt ∧ p1.toInt < (u.1 1).toInt) ∧ ¬ (0 ≤ p2.toInt ∧ p2.toInt ≤ 2)) ∨ (1 = 3 ∧ (0 ≤ p1.toInt ∧ p1.toInt < (u.1 1).toInt) ∧ (0 ≤ p2.toInt ∧ p2.toInt ≤ 2) ∧ ¬ (¬ (u.2 17 p1.toNatClampNeg).toInt = p2.toInt ∧ ¬ (u.2 17 p1.toNatClampNeg).toInt = 3)) ∨ (1 = 0 ∧ (0 ≤ p1.toInt ∧ p1.toInt < (u.1 1).toInt) ∧ (0 ≤ p2.toInt ∧ p2.toInt ≤ 2) ∧ (¬ (u.2 17 p1.toNatClampNeg).toInt = p2.toInt ∧ ¬ (u.2 17 p1.toNatClampNeg).toInt = 3)); omega), (fun q => by simp at q), (fun _ => rfl)⟩)
set_option maxHeartbeats 4000000 in
theorem okl_fm_state {g : Nat → Int32} {u : g_S} (I : IM g u) {p1 : Int32} {p2 : Int32} : okk (fm_state u p1 p2) (fun r => IM g r ∧ (((r.1 0).toInt = 1 ∧ ¬ (0 ≤ p1.toInt ∧ p1.toInt < (u.1 2).toInt)) ∨ ((r.1 0).toInt = 2 ∧ (0 ≤ p1.toInt ∧ p1.toInt < (u.1 2).toInt) ∧ ¬ (0 ≤ p2.toInt ∧ p2.toInt ≤ 2)) ∨ ((r.1 0).toInt = 3 ∧ (0 ≤ p1.toInt ∧ p1.toInt < (u.1 2).toInt) ∧ (0 ≤ p2.toInt ∧ p2.toInt ≤ 2) ∧ ¬ (¬ (u.2 16 p1.toNatClampNeg).toInt = p2.toInt ∧ ¬ (u.2 16 p1.toNatClampNeg).toInt = 3)) ∨ ((r.1 0).toInt = 0 ∧ (0 ≤ p1.toInt ∧ p1.toInt < (u.1 2).toInt) ∧ (0 ≤ p2.toInt ∧ p2.toInt ≤ 2) ∧ (¬ (u.2 16 p1.toNatClampNeg).toInt = p2.toInt ∧ ¬ (u.2 16 p1.toNatClampNeg).toInt = 3))) ∧ ((r.1 0).toInt = 0 → r = g_sA (g_sI u 0 (0 : Int32)) 16 p1 p2) ∧ (¬ (r.1 0).toInt = 0 → ∃ k : Int32, r = g_sI u 0 k)) := by
  unfold fm_state
  have z1_ := IM_s I
  refine okk_isEvent (fun b2_ => ?_) (fun b2_ => ?_)
  · have t3_ : ((u.1 2) - (1 : Int32)).toInt = ((u.1 2).toInt - (1 : Int)) := (oi_sub (a := (u.1 2)) (b := (1 : Int32)) rfl (by decide : (1 : Int32).toInt = 1) (by omega) (by omega))
    refine okk_t (by decide) ?_
    unfold fm_state_16
    try have t4_ : (0 : Int32).toInt = (0 : Int) := (by decide : (0 : Int32).toInt = 0)
    try have t5_ : (2 : Int32).toInt = (2 : Int) := (by decide : (2 : Int32).toInt = 2)
    refine okk_in (fun b6_ => ?_) (fun b6_ => ?_)
    · refine okk_t (by decide) ?_
      unfold fm_state_30
      refine okk_f (by decide) ?_
      refine okk_ck (vp_I (by omega) (by omega)) ?_
      refine okk_eq (fun c7_ c7_I => ?_) (fun c7_ c7_I => ?_)
      · unfold fm_state_59
        obtain ⟨u8_, eu8_⟩ : ∃ y, y = g_sI u 0 (3 : Int32) := ⟨_, rfl⟩
        refine okk_bs (v := ((1 : Int32), u8_)) (by rw [eu8_]; exact fm_thr_3 _) ?_
        dsimp only
        have Iu8_ : IM g u8_ := by rw [eu8_]; exact IM_ix I _ (by decide)
        have h09_ : (u8_.1 0).toInt = 3 := by rw [eu8_, rdI, if_pos rfl]; decide
        have z10_ : (u8_.1 1).toInt = (u.1 1).toInt := by rw [eu8_]; rfl
        have z11_ : (u8_.1 2).toInt = (u.1 2).toInt := by rw [eu8_]; rfl
        refine okk_f (by decide) ?_
        exact okk_some (⟨Iu8_, (by show ((u8_.1 0).toInt = 1 ∧ ¬ (0 ≤ p1.toInt ∧ p1.toInt < (u.1 2).toInt)) ∨ ((u8_.1 0).toInt = 2 ∧ (0 ≤ p1.toInt ∧ p1.toInt < (u.1 2).toInt) ∧ ¬ (0 ≤ p2.toInt ∧ p2.toInt ≤ 2)) ∨ ((u8_.1 0).toInt = 3 ∧ (0 ≤ p1.toInt ∧ p1.toInt < (u.1 2).toInt) ∧ (0 ≤ p2.toInt ∧ p2.toInt ≤ 2) ∧ ¬ (¬ (u.2 16 p1.toNatClampNeg).toInt = p2.toInt ∧ ¬ (u.2 16 p1.toNatClampNeg).toInt = 3)) ∨ ((u8_.1 0).toInt = 0 ∧ (0 ≤ p1.toInt ∧ p1.toInt < (u.1 2).toInt) ∧ (0 ≤ p2.toInt ∧ p2.toInt ≤ 2) ∧ (¬ (u.2 16 p1.toNatClampNeg).toInt = p2.toInt ∧ ¬ (u.2 16 p1.toNatClampNeg).toInt = 3)); omega), (fun q => absurd q (by omega)), (fun _ => ⟨_, by rw [eu8_]⟩)⟩)
      · refine okk_ck (vp_I (by omega) (by omega)) ?_
        try have t13_ : (3 : Int32).toInt = (3 : Int) := (by decide : (3 : Int32).toInt = 3)
        refine okk_ne (fun c12_ c12_I => ?_) (fun c12_ c12_I => ?_)
        · unfold fm_state_59
          obtain ⟨u14_, eu14_⟩ : ∃ y, y = g_sI u 0 (0 : Int32) := ⟨_, rfl⟩
          refine okk_bs (v := ((0 : Int32), u14_)) (by rw [eu14_]; exact fm_thr_0 _) ?_
          dsimp only
          have Iu14_ : IM g u14_ := by rw [eu14_]; exact IM_ix I _ (by decide)
          have h015_ : (u14_.1 0).toInt = 0 := by rw [eu14_, rdI, if_pos rfl]; decide
          have z16_ : (u14_.1 1).toInt = (u.1 1).toInt := by rw [eu14_]; rfl
          have z17_ : (u14_.1 2).toInt = (u.1 2).toInt := by rw [eu14_]; rfl
          refine okk_t (by decide) ?_
          refine okk_ck (vp_I (by omega) (by omega)) ?_
          refine okk_gl (fun u418_ eu418_ => ?_)
          have Iu418_ : IM g u418_ := by rw [eu418_]; exact IM_w16 Iu14_ _ _ (Or.inr (by rw [eu14_]; exact c12_))
          have z19_ : (u418_.1 0).toInt = (u14_.1 0).toInt := by rw [eu418_]; rfl
          have z20_ : (u418_.1 1).toInt = (u14_.1 1).toInt := by rw [eu418_]; rfl
          have z21_ : (u418_.1 2).toInt = (u14_.1 2).toInt := by rw [eu418_]; rfl
          exact okk_some (⟨Iu418_, (by show ((u418_.1 0).toInt = 1 ∧ ¬ (0 ≤ p1.toInt ∧ p1.toInt < (u.1 2).toInt)) ∨ ((u418_.1 0).toInt = 2 ∧ (0 ≤ p1.toInt ∧ p1.toInt < (u.1 2).toInt) ∧ ¬ (0 ≤ p2.toInt ∧ p2.toInt ≤ 2)) ∨ ((u418_.1 0).toInt = 3 ∧ (0 ≤ p1.toInt ∧ p1.toInt < (u.1 2).toInt) ∧ (0 ≤ p2.toInt ∧ p2.toInt ≤ 2) ∧ ¬ (¬ (u.2 16 p1.toNatClampNeg).toInt = p2.toInt ∧ ¬ (u.2 16 p1.toNatClampNeg).toInt = 3)) ∨ ((u418_.1 0).toInt = 0 ∧ (0 ≤ p1.toInt ∧ p1.toInt < (u.1 2).toInt) ∧ (0 ≤ p2.toInt ∧ p2.toInt ≤ 2) ∧ (¬ (u.2 16 p1.toNatClampNeg).toInt = p2.toInt ∧ ¬ (u.2 16 p1.toNatClampNeg).toInt = 3)); omega), (fun _ => by rw [eu418_, eu14_]), (fun q => absurd (by omega) q)⟩)
        · unfold fm_state_59
          obtain ⟨u22_, eu22_⟩ : ∃ y, y = g_sI u 0 (3 : Int32) := ⟨_, rfl⟩
          refine okk_bs (v := ((1 : Int32), u22_)) (by rw [eu22_]; exact fm_thr_3 _) ?_
          dsimp only
          have Iu22_ : IM g u22_ := by rw [eu22_]; exact IM_ix I _ (by decide)
          have h023_ : (u22_.1 0).toInt = 3 := by rw [eu22_, rdI, if_pos rfl]; decide
          have z24_ : (u22_.1 1).toInt = (u.1 1).toInt := by rw [eu22_]; rfl
          have z25_ : (u22_.1 2).toInt = (u.1 2).toInt := by rw [eu22_]; rfl
          refine okk_f (by decide) ?_
          exact okk_some (⟨Iu22_, (by show ((u22_.1 0).toInt = 1 ∧ ¬ (0 ≤ p1.toInt ∧ p1.toInt < (u.1 2).toInt)) ∨ ((u22_.1 0).toInt = 2 ∧ (0 ≤ p1.toInt ∧ p1.toInt < (u.1 2).toInt) ∧ ¬ (0 ≤ p2.toInt ∧ p2.toInt ≤ 2)) ∨ ((u22_.1 0).toInt = 3 ∧ (0 ≤ p1.toInt ∧ p1.toInt < (u.1 2).toInt) ∧ (0 ≤ p2.toInt ∧ p2.toInt ≤ 2) ∧ ¬ (¬ (u.2 16 p1.toNatClampNeg).toInt = p2.toInt ∧ ¬ (u.2 16 p1.toNatClampNeg).toInt = 3)) ∨ ((u22_.1 0).toInt = 0 ∧ (0 ≤ p1.toInt ∧ p1.toInt < (u.1 2).toInt) ∧ (0 ≤ p2.toInt ∧ p2.toInt ≤ 2) ∧ (¬ (u.2 16 p1.toNatClampNeg).toInt = p2.toInt ∧ ¬ (u.2 16 p1.toNatClampNeg).toInt = 3)); omega), (fun q => absurd q (by omega)), (fun _ => ⟨_, by rw [eu22_]⟩)⟩)
    · refine okk_f (by decide) ?_
      unfold fm_state_30
      refine okk_f (by decide) ?_
      refine okk_ck (vp_I (by omega) (by omega)) ?_
      refine okk_eq (fun c26_ c26_I => ?_) (fun c26_ c26_I => ?_)
      · unfold fm_state_59
        obtain ⟨u27_, eu27_⟩ : ∃ y, y = g_sI u 0 (2 : Int32) := ⟨_, rfl⟩
        refine okk_bs (v := ((1 : Int32), u27_)) (by rw [eu27_]; exact fm_thr_2 _ _) ?_
        dsimp only
        have Iu27_ : IM g u27_ := by rw [eu27_]; exact IM_ix I _ (by decide)
        have h028_ : (u27_.1 0).toInt = 2 := by rw [eu27_, rdI, if_pos rfl]; decide
        have z29_ : (u27_.1 1).toInt = (u.1 1).toInt := by rw [eu27_]; rfl
        have z30_ : (u27_.1 2).toInt = (u.1 2).toInt := by rw [eu27_]; rfl
        refine okk_f (by decide) ?_
        exact okk_some (⟨Iu27_, (by show ((u27_.1 0).toInt = 1 ∧ ¬ (0 ≤ p1.toInt ∧ p1.toInt < (u.1 2).toInt)) ∨ ((u27_.1 0).toInt = 2 ∧ (0 ≤ p1.toInt ∧ p1.toInt < (u.1 2).toInt) ∧ ¬ (0 ≤ p2.toInt ∧ p2.toInt ≤ 2)) ∨ ((u27_.1 0).toInt = 3 ∧ (0 ≤ p1.toInt ∧ p1.toInt < (u.1 2).toInt) ∧ (0 ≤ p2.toInt ∧ p2.toInt ≤ 2) ∧ ¬ (¬ (u.2 16 p1.toNatClampNeg).toInt = p2.toInt ∧ ¬ (u.2 16 p1.toNatClampNeg).toInt = 3)) ∨ ((u27_.1 0).toInt = 0 ∧ (0 ≤ p1.toInt ∧ p1.toInt < (u.1 2).toInt) ∧ (0 ≤ p2.toInt ∧ p2.toInt ≤ 2) ∧ (¬ (u.2 16 p1.toNatClampNeg).toInt = p2.toInt ∧ ¬ (u.2 16 p1.toNatClampNeg).toInt = 3)); omega), (fun q => absurd q (by omega)), (fun _ => ⟨_, by rw [eu27_]⟩)⟩)
      · refine okk_ck (vp_I (by omega) (by omega)) ?_
        try have t32_ : (3 : Int32).toInt = (3 : Int) := (by decide : (3 : Int32).toInt = 3)
        refine okk_ne (fun c31_ c31_I => ?_) (fun c31_ c31_I => ?_)
        · unfold fm_state_59
          obtain ⟨u33_, eu33_⟩ : ∃ y, y = g_sI u 0 (2 : Int32) := ⟨_, rfl⟩
          refine okk_bs (v := ((1 : Int32), u33_)) (by rw [eu33_]; exact fm_thr_2 _ _) ?_
          dsimp only
          have Iu33_ : IM g u33_ := by rw [eu33_]; exact IM_ix I _ (by decide)
          have h034_ : (u33_.1 0).toInt = 2 := by rw [eu33_, rdI, if_pos rfl]; decide
          have z35_ : (u33_.1 1).toInt = (u.1 1).toInt := by rw [eu33_]; rfl
          have z36_ : (u33_.1 2).toInt = (u.1 2).toInt := by rw [eu33_]; rfl
          refine okk_f (by decide) ?_
          exact okk_some (⟨Iu33_, (by show ((u33_.1 0).toInt = 1 ∧ ¬ (0 ≤ p1.toInt ∧ p1.toInt < (u.1 2).toInt)) ∨ ((u33_.1 0).toInt = 2 ∧ (0 ≤ p1.toInt ∧ p1.toInt < (u.1 2).toInt) ∧ ¬ (0 ≤ p2.toInt ∧ p2.toInt ≤ 2)) ∨ ((u33_.1 0).toInt = 3 ∧ (0 ≤ p1.toInt ∧ p1.toInt < (u.1 2).toInt) ∧ (0 ≤ p2.toInt ∧ p2.toInt ≤ 2) ∧ ¬ (¬ (u.2 16 p1.toNatClampNeg).toInt = p2.toInt ∧ ¬ (u.2 16 p1.toNatClampNeg).toInt = 3)) ∨ ((u33_.1 0).toInt = 0 ∧ (0 ≤ p1.toInt ∧ p1.toInt < (u.1 2).toInt) ∧ (0 ≤ p2.toInt ∧ p2.toInt ≤ 2) ∧ (¬ (u.2 16 p1.toNatClampNeg).toInt = p2.toInt ∧ ¬ (u.2 16 p1.toNatClampNeg).toInt = 3)); omega), (fun q => absurd q (by omega)), (fun _ => ⟨_, by rw [eu33_]⟩)⟩)
        · unfold fm_state_59
          obtain ⟨u37_, eu37_⟩ : ∃ y, y = g_sI u 0 (2 : Int32) := ⟨_, rfl⟩
          refine okk_bs (v := ((1 : Int32), u37_)) (by rw [eu37_]; exact fm_thr_2 _ _) ?_
          dsimp only
          have Iu37_ : IM g u37_ := by rw [eu37_]; exact IM_ix I _ (by decide)
          have h038_ : (u37_.1 0).toInt = 2 := by rw [eu37_, rdI, if_pos rfl]; decide
          have z39_ : (u37_.1 1).toInt = (u.1 1).toInt := by rw [eu37_]; rfl
          have z40_ : (u37_.1 2).toInt = (u.1 2).toInt := by rw [eu37_]; rfl
          refine okk_f (by decide) ?_
          exact okk_some (⟨Iu37_, (by show ((u37_.1 0).toInt = 1 ∧ ¬ (0 ≤ p1.toInt ∧ p1.toInt < (u.1 2).toInt)) ∨ ((u37_.1 0).toInt = 2 ∧ (0 ≤ p1.toInt ∧ p1.toInt < (u.1 2).toInt) ∧ ¬ (0 ≤ p2.toInt ∧ p2.toInt ≤ 2)) ∨ ((u37_.1 0).toInt = 3 ∧ (0 ≤ p1.toInt ∧ p1.toInt < (u.1 2).toInt) ∧ (0 ≤ p2.toInt ∧ p2.toInt ≤ 2) ∧ ¬ (¬ (u.2 16 p1.toNatClampNeg).toInt = p2.toInt ∧ ¬ (u.2 16 p1.toNatClampNeg).toInt = 3)) ∨ ((u37_.1 0).toInt = 0 ∧ (0 ≤ p1.toInt ∧ p1.toInt < (u.1 2).toInt) ∧ (0 ≤ p2.toInt ∧ p2.toInt ≤ 2) ∧ (¬ (u.2 16 p1.toNatClampNeg).toInt = p2.toInt ∧ ¬ (u.2 16 p1.toNatClampNeg).toInt = 3)); omega), (fun q => absurd q (by omega)), (fun _ => ⟨_, by rw [eu37_]⟩)⟩)
  · have t41_ : ((u.1 2) - (1 : Int32)).toInt = ((u.1 2).toInt - (1 : Int)) := (oi_sub (a := (u.1 2)) (b := (1 : Int32)) rfl (by decide : (1 : Int32).toInt = 1) (by omega) (by omega))
    refine okk_f (by decide) ?_
    unfold fm_state_16
    try have t42_ : (0 : Int32).toInt = (0 : Int) := (by decide : (0 : Int32).toInt = 0)
    try have t43_ : (2 : Int32).toInt = (2 : Int) := (by decide : (2 : Int32).toInt = 2)
    refine okk_in (fun b44_ => ?_) (fun b44_ => ?_)
    · refine okk_t (by decide) ?_
      unfold fm_state_30
      refine okk_t (by decide) ?_
      unfold fm_state_59
      obtain ⟨u45_, eu45_⟩ : ∃ y, y = g_sI u 0 (1 : Int32) := ⟨_, rfl⟩
      refine okk_bs (v := ((1 : Int32), u45_)) (by rw [eu45_]; exact fm_thr_1 _ _ _) ?_
      dsimp only
      have Iu45_ : IM g u45_ := by rw [eu45_]; exact IM_ix I _ (by decide)
      have h046_ : (u45_.1 0).toInt = 1 := by rw [eu45_, rdI, if_pos rfl]; decide
      have z47_ : (u45_.1 1).toInt = (u.1 1).toInt := by rw [eu45_]; rfl
      have z48_ : (u45_.1 2).toInt = (u.1 2).toInt := by rw [eu45_]; rfl
      refine okk_f (by decide) ?_
      exact okk_some (⟨Iu45_, (by show ((u45_.1 0).toInt = 1 ∧ ¬ (0 ≤ p1.toInt ∧ p1.toInt < (u.1 2).toInt)) ∨ ((u45_.1 0).toInt = 2 ∧ (0 ≤ p1.toInt ∧ p1.toInt < (u.1 2).toInt) ∧ ¬ (0 ≤ p2.toInt ∧ p2.toInt ≤ 2)) ∨ ((u45_.1 0).toInt = 3 ∧ (0 ≤ p1.toInt ∧ p1.toInt < (u.1 2).toInt) ∧ (0 ≤ p2.toInt ∧ p2.toInt ≤ 2) ∧ ¬ (¬ (u.2 16 p1.toNatClampNeg).toInt = p2.toInt ∧ ¬ (u.2 16 p1.toNatClampNeg).toInt = 3)) ∨ ((u45_.1 0).toInt = 0 ∧ (0 ≤ p1.toInt ∧ p1.toInt < (u.1 2).toInt) ∧ (0 ≤ p2.toInt ∧ p2.toInt ≤ 2) ∧ (¬ (u.2 16 p1.toNatClampNeg).toInt = p2.toInt ∧ ¬ (u.2 16 p1.toNatClampNeg).toInt = 3)); omega), (fun q => absurd q (by omega)), (fun _ => ⟨_, by rw [eu45_]⟩)⟩)
    · refine okk_f (by decide) ?_
      unfold fm_state_30
      refine okk_t (by decide) ?_
      unfold fm_state_59
      obtain ⟨u49_, eu49_⟩ : ∃ y, y = g_sI u 0 (1 : Int32) := ⟨_, rfl⟩
      refine okk_bs (v := ((1 : Int32), u49_)) (by rw [eu49_]; exact fm_thr_1 _ _ _) ?_
      dsimp only
      have Iu49_ : IM g u49_ := by rw [eu49_]; exact IM_ix I _ (by decide)
      have h050_ : (u49_.1 0).toInt = 1 := by rw [eu49_, rdI, if_pos rfl]; decide
      have z51_ : (u49_.1 1).toInt = (u.1 1).toInt := by rw [eu49_]; rfl
      have z52_ : (u49_.1 2).toInt = (u.1 2).toInt := by rw [eu49_]; rfl
      refine okk_f (by decide) ?_
      exact okk_some (⟨Iu49_, (by show ((u49_.1 0).toInt = 1 ∧ ¬ (0 ≤ p1.toInt ∧ p1.toInt < (u.1 2).toInt)) ∨ ((u49_.1 0).toInt = 2 ∧ (0 ≤ p1.toInt ∧ p1.toInt < (u.1 2).toInt) ∧ ¬ (0 ≤ p2.toInt ∧ p2.toInt ≤ 2)) ∨ ((u49_.1 0).toInt = 3 ∧ (0 ≤ p1.toInt ∧ p1.toInt < (u.1 2).toInt) ∧ (0 ≤ p2.toInt ∧ p2.toInt ≤ 2) ∧ ¬ (¬ (u.2 16 p1.toNatClampNeg).toInt = p2.toInt ∧ ¬ (u.2 16 p1.toNatClampNeg).toInt = 3)) ∨ ((u49_.1 0).toInt = 0 ∧ (0 ≤ p1.toInt ∧ p1.toInt < (u.1 2).toInt) ∧ (0 ≤ p2.toInt ∧ p2.toInt ≤ 2) ∧ (¬ (u.2 16 p1.toNatClampNeg).toInt = p2.toInt ∧ ¬ (u.2 16 p1.toNatClampNeg).toInt = 3)); omega), (fun q => absurd q (by omega)), (fun _ => ⟨_, by rw [eu49_]⟩)⟩)
set_option maxHeartbeats 4000000 in
theorem okl_fcJ_needCallData {g : Nat → Int32} {u : g_S} (I : IC g u) {p1 : Int32} {p2 : Int32} {p3 : Int32} {p4 : Int32} {p5 : Int32} : okk (fcJ_needCallData u p1 p2 p3 p4 p5) (fun r => ((r = 1 ∧ ¬ ((0 ≤ p2.toInt ∧ p2.toInt ≤ 7) ∧ -1 ≤ p4.toInt ∧ p4.toInt ≤ 7)) ∨ (r = 2 ∧ ((0 ≤ p2.toInt ∧ p2.toInt ≤ 7) ∧ -1 ≤ p4.toInt ∧ p4.toInt ≤ 7) ∧ ¬ ((0 ≤ p1.toInt ∧ p1.toInt ≤ 999) ∧ (-1 ≤ p3.toInt ∧ p3.toInt ≤ 99999999) ∧ (latV u).toInt ≤ p5.toInt)) ∨ (r = 0 ∧ ((0 ≤ p2.toInt ∧ p2.toInt ≤ 7) ∧ -1 ≤ p4.toInt ∧ p4.toInt ≤ 7) ∧ ((0 ≤ p1.toInt ∧ p1.toInt ≤ 999) ∧ (-1 ≤ p3.toInt ∧ p3.toInt ≤ 99999999) ∧ (latV u).toInt ≤ p5.toInt)))) := by
  unfold fcJ_needCallData
  have z1_ := IC_s I
  try have t2_ : (8 : Int32).toInt = (8 : Int) := (by decide : (8 : Int32).toInt = 8)
  refine okk_isBelow (fun b3_ => ?_) (fun b3_ => ?_)
  · refine okk_bs (v := (0 : Nat)) (by decide) ?_
    refine okk_t (by decide) ?_
    try have t5_ : (-1 : Int32).toInt = (-1 : Int) := (by decide : (-1 : Int32).toInt = -1)
    refine okk_eq (fun c4_ c4_I => ?_) (fun c4_ c4_I => ?_)
    · unfold fcJ_needCallData_30
      refine okk_bs (v := (0 : Nat)) (by decide) ?_
      refine okk_t (by decide) ?_
      try have t6_ : (1000 : Int32).toInt = (1000 : Int) := (by decide : (1000 : Int32).toInt = 1000)
      refine okk_isBelow (fun b7_ => ?_) (fun b7_ => ?_)
      · refine okk_bs (v := (0 : Nat)) (by decide) ?_
        refine okk_t (by decide) ?_
        refine okk_eq (fun c8_ c8_I => ?_) (fun c8_ c8_I => ?_)
        · unfold fcJ_needCallData_62
          refine okk_bs (v := (0 : Nat)) (by decide) ?_
          refine okk_t (by decide) ?_
          refine okk_bi (okl_fcA_latestTime I) (fun v9_ hv9_ => ?_)
          have p10_ := hv9_
          refine okk_lt (fun c11_ c11_I => ?_) (fun c11_ c11_I => ?_)
          · refine okk_bs (v := (2 : Nat)) (by decide) ?_
            refine okk_f (by decide) ?_
            exact okk_some ((by show (2 = 1 ∧ ¬ ((0 ≤ p2.toInt ∧ p2.toInt ≤ 7) ∧ -1 ≤ p4.toInt ∧ p4.toInt ≤ 7)) ∨ (2 = 2 ∧ ((0 ≤ p2.toInt ∧ p2.toInt ≤ 7) ∧ -1 ≤ p4.toInt ∧ p4.toInt ≤ 7) ∧ ¬ ((0 ≤ p1.toInt ∧ p1.toInt ≤ 999) ∧ (-1 ≤ p3.toInt ∧ p3.toInt ≤ 99999999) ∧ (latV u).toInt ≤ p5.toInt)) ∨ (2 = 0 ∧ ((0 ≤ p2.toInt ∧ p2.toInt ≤ 7) ∧ -1 ≤ p4.toInt ∧ p4.toInt ≤ 7) ∧ ((0 ≤ p1.toInt ∧ p1.toInt ≤ 999) ∧ (-1 ≤ p3.toInt ∧ p3.toInt ≤ 99999999) ∧ (latV u).toInt ≤ p5.toInt)); omega))
          · refine okk_bs (v := (0 : Nat)) (by decide) ?_
            refine okk_t (by decide) ?_
            exact okk_some ((by show (0 = 1 ∧ ¬ ((0 ≤ p2.toInt ∧ p2.toInt ≤ 7) ∧ -1 ≤ p4.toInt ∧ p4.toInt ≤ 7)) ∨ (0 = 2 ∧ ((0 ≤ p2.toInt ∧ p2.toInt ≤ 7) ∧ -1 ≤ p4.toInt ∧ p4.toInt ≤ 7) ∧ ¬ ((0 ≤ p1.toInt ∧ p1.toInt ≤ 999) ∧ (-1 ≤ p3.toInt ∧ p3.toInt ≤ 99999999) ∧ (latV u).toInt ≤ p5.toInt)) ∨ (0 = 0 ∧ ((0 ≤ p2.toInt ∧ p2.toInt ≤ 7) ∧ -1 ≤ p4.toInt ∧ p4.toInt ≤ 7) ∧ ((0 ≤ p1.toInt ∧ p1.toInt ≤ 999) ∧ (-1 ≤ p3.toInt ∧ p3.toInt ≤ 99999999) ∧ (latV u).toInt ≤ p5.toInt)); omega))
        · try have t12_ : (100000000 : Int32).toInt = (100000000 : Int) := (by decide : (100000000 : Int32).toInt = 100000000)
          refine okk_isBelow (fun b13_ => ?_) (fun b13_ => ?_)
          · refine okk_f (by decide) ?_
            unfold fcJ_needCallData_62
            refine okk_bs (v := (0 : Nat)) (by decide) ?_
            refine okk_t (by decide) ?_
            refine okk_bi (okl_fcA_latestTime I) (fun v14_ hv14_ => ?_)
            have p15_ := hv14_
            refine okk_lt (fun c16_ c16_I => ?_) (fun c16_ c16_I => ?_)
            · refine okk_bs (v := (2 : Nat)) (by decide) ?_
              refine okk_f (by decide) ?_
              exact okk_some ((by show (2 = 1 ∧ ¬ ((0 ≤ p2.toInt ∧ p2.toInt ≤ 7) ∧ -1 ≤ p4.toInt ∧ p4.toInt ≤ 7)) ∨ (2 = 2 ∧ ((0 ≤ p2.toInt ∧ p2.toInt ≤ 7) ∧ -1 ≤ p4.toInt ∧ p4.toInt ≤ 7) ∧ ¬ ((0 ≤ p1.toInt ∧ p1.toInt ≤ 999) ∧ (-1 ≤ p3.toInt ∧ p3.toInt ≤ 99999999) ∧ (latV u).toInt ≤ p5.toInt)) ∨ (2 = 0 ∧ ((0 ≤ p2.toInt ∧ p2.toInt ≤ 7) ∧ -1 ≤ p4.toInt ∧ p4.toInt ≤ 7) ∧ ((0 ≤ p1.toInt ∧ p1.toInt ≤ 999) ∧ (-1 ≤ p3.toInt ∧ p3.toInt ≤ 99999999) ∧ (latV u).toInt ≤ p5.toInt)); omega))
            · refine okk_bs (v := (0 : Nat)) (by decide) ?_
              refine okk_t (by decide) ?_
              exact okk_some ((by show (0 = 1 ∧ ¬ ((0 ≤ p2.toInt ∧ p2.toInt ≤ 7) ∧ -1 ≤ p4.toInt ∧ p4.toInt ≤ 7)) ∨ (0 = 2 ∧ ((0 ≤ p2.toInt ∧ p2.toInt ≤ 7) ∧ -1 ≤ p4.toInt ∧ p4.toInt ≤ 7) ∧ ¬ ((0 ≤ p1.toInt ∧ p1.toInt ≤ 999) ∧ (-1 ≤ p3.toInt ∧ p3.toInt ≤ 99999999) ∧ (latV u).toInt ≤ p5.toInt)) ∨ (0 = 0 ∧ ((0 ≤ p2.toInt ∧ p2.toInt ≤ 7) ∧ -1 ≤ p4.toInt ∧ p4.toInt ≤ 7) ∧ ((0 ≤ p1.toInt ∧ p1.toInt ≤ 999) ∧ (-1 ≤ p3.toInt ∧ p3.toInt ≤ 99999999) ∧ (latV u).toInt ≤ p5.toInt)); omega))
          · refine okk_t (by decide) ?_
            unfold fcJ_needCallData_62
            refine okk_bs (v := (2 : Nat)) (by decide) ?_
            refine okk_f (by decide) ?_
            exact okk_some ((by show (2 = 1 ∧ ¬ ((0 ≤ p2.toInt ∧ p2.toInt ≤ 7) ∧ -1 ≤ p4.toInt ∧ p4.toInt ≤ 7)) ∨ (2 = 2 ∧ ((0 ≤ p2.toInt ∧ p2.toInt ≤ 7) ∧ -1 ≤ p4.toInt ∧ p4.toInt ≤ 7) ∧ ¬ ((0 ≤ p1.toInt ∧ p1.toInt ≤ 999) ∧ (-1 ≤ p3.toInt ∧ p3.toInt ≤ 99999999) ∧ (latV u).toInt ≤ p5.toInt)) ∨ (2 = 0 ∧ ((0 ≤ p2.toInt ∧ p2.toInt ≤ 7) ∧ -1 ≤ p4.toInt ∧ p4.toInt ≤ 7) ∧ ((0 ≤ p1.toInt ∧ p1.toInt ≤ 999) ∧ (-1 ≤ p3.toInt ∧ p3.toInt ≤ 99999999) ∧ (latV u).toInt ≤ p5.toInt)); omega))
      · refine okk_bs (v := (2 : Nat)) (by decide) ?_
        refine okk_f (by decide) ?_
        exact okk_some ((by show (2 = 1 ∧ ¬ ((0 ≤ p2.toInt ∧ p2.toInt ≤ 7) ∧ -1 ≤ p4.toInt ∧ p4.toInt ≤ 7)) ∨ (2 = 2 ∧ ((0 ≤ p2.toInt ∧ p2.toInt ≤ 7) ∧ -1 ≤ p4.toInt ∧ p4.toInt ≤ 7) ∧ ¬ ((0 ≤ p1.toInt ∧ p1.toInt ≤ 999) ∧ (-1 ≤ p3.toInt ∧ p3.toInt ≤ 99999999) ∧ (latV u).toInt ≤ p5.toInt)) ∨ (2 = 0 ∧ ((0 ≤ p2.toInt ∧ p2.toInt ≤ 7) ∧ -1 ≤ p4.toInt ∧ p4.toInt ≤ 7) ∧ ((0 ≤ p1.toInt ∧ p1.toInt ≤ 999) ∧ (-1 ≤ p3.toInt ∧ p3.toInt ≤ 99999999) ∧ (latV u).toInt ≤ p5.toInt)); omega))
    · refine okk_isBelow (fun b17_ => ?_) (fun b17_ => ?_)
      · refine okk_f (by decide) ?_
        unfold fcJ_needCallData_30
        refine okk_bs (v := (0 : Nat)) (by decide) ?_
        refine okk_t (by decide) ?_
        try have t18_ : (1000 : Int32).toInt = (1000 : Int) := (by decide : (1000 : Int32).toInt = 1000)
        refine okk_isBelow (fun b19_ => ?_) (fun b19_ => ?_)
        · refine okk_bs (v := (0 : Nat)) (by decide) ?_
          refine okk_t (by decide) ?_
          refine okk_eq (fun c20_ c20_I => ?_) (fun c20_ c20_I => ?_)
          · unfold fcJ_needCallData_62
            refine okk_bs (v := (0 : Nat)) (by decide) ?_
            refine okk_t (by decide) ?_
            refine okk_bi (okl_fcA_latestTime I) (fun v21_ hv21_ => ?_)
            have p22_ := hv21_
            refine okk_lt (fun c23_ c23_I => ?_) (fun c23_ c23_I => ?_)
            · refine okk_bs (v := (2 : Nat)) (by decide) ?_
              refine okk_f (by decide) ?_
              exact okk_some ((by show (2 = 1 ∧ ¬ ((0 ≤ p2.toInt ∧ p2.toInt ≤ 7) ∧ -1 ≤ p4.toInt ∧ p4.toInt ≤ 7)) ∨ (2 = 2 ∧ ((0 ≤ p2.toInt ∧ p2.toInt ≤ 7) ∧ -1 ≤ p4.toInt ∧ p4.toInt ≤ 7) ∧ ¬ ((0 ≤ p1.toInt ∧ p1.toInt ≤ 999) ∧ (-1 ≤ p3.toInt ∧ p3.toInt ≤ 99999999) ∧ (latV u).toInt ≤ p5.toInt)) ∨ (2 = 0 ∧ ((0 ≤ p2.toInt ∧ p2.toInt ≤ 7) ∧ -1 ≤ p4.toInt ∧ p4.toInt ≤ 7) ∧ ((0 ≤ p1.toInt ∧ p1.toInt ≤ 999) ∧ (-1 ≤ p3.toInt ∧ p3.toInt ≤ 99999999) ∧ (latV u).toInt ≤ p5.toInt)); omega))
            · refine okk_bs (v := (0 : Nat)) (by decide) ?_
              refine okk_t (by decide) ?_
              exact okk_some ((by show (0 = 1 ∧ ¬ ((0 ≤ p2.toInt ∧ p2.toInt ≤ 7) ∧ -1 ≤ p4.toInt ∧ p4.toInt ≤ 7)) ∨ (0 = 2 ∧ ((0 ≤ p2.toInt ∧ p2.toInt ≤ 7) ∧ -1 ≤ p4.toInt ∧ p4.toInt ≤ 7) ∧ ¬ ((0 ≤ p1.toInt ∧ p1.toInt ≤ 999) ∧ (-1 ≤ p3.toInt ∧ p3.toInt ≤ 99999999) ∧ (latV u).toInt ≤ p5.toInt)) ∨ (0 = 0 ∧ ((0 ≤ p2.toInt ∧ p2.toInt ≤ 7) ∧ -1 ≤ p4.toInt ∧ p4.toInt ≤ 7) ∧ ((0 ≤ p1.toInt ∧ p1.toInt ≤ 999) ∧ (-1 ≤ p3.toInt ∧ p3.toInt ≤ 99999999) ∧ (latV u).toInt ≤ p5.toInt)); omega))
          · try have t24_ : (100000000 : Int32).toInt = (100000000 : Int) := (by decide : (100000000 : Int32).toInt = 100000000)
            refine okk_isBelow (fun b25_ => ?_) (fun b25_ => ?_)
            · refine okk_f (by decide) ?_
              unfold fcJ_needCallData_62
              refine okk_bs (v := (0 : Nat)) (by decide) ?_
              refine okk_t (by decide) ?_
              refine okk_bi (okl_fcA_latestTime I) (fun v26_ hv26_ => ?_)
              have p27_ := hv26_
              refine okk_lt (fun c28_ c28_I => ?_) (fun c28_ c28_I => ?_)
              · refine okk_bs (v := (2 : Nat)) (by decide) ?_
                refine okk_f (by decide) ?_
                exact okk_some ((by show (2 = 1 ∧ ¬ ((0 ≤ p2.toInt ∧ p2.toInt ≤ 7) ∧ -1 ≤ p4.toInt ∧ p4.toInt ≤ 7)) ∨ (2 = 2 ∧ ((0 ≤ p2.toInt ∧ p2.toInt ≤ 7) ∧ -1 ≤ p4.toInt ∧ p4.toInt ≤ 7) ∧ ¬ ((0 ≤ p1.toInt ∧ p1.toInt ≤ 999) ∧ (-1 ≤ p3.toInt ∧ p3.toInt ≤ 99999999) ∧ (latV u).toInt ≤ p5.toInt)) ∨ (2 = 0 ∧ ((0 ≤ p2.toInt ∧ p2.toInt ≤ 7) ∧ -1 ≤ p4.toInt ∧ p4.toInt ≤ 7) ∧ ((0 ≤ p1.toInt ∧ p1.toInt ≤ 999) ∧ (-1 ≤ p3.toInt ∧ p3.toInt ≤ 99999999) ∧ (latV u).toInt ≤ p5.toInt)); omega))
              · refine okk_bs (v := (0 : Nat)) (by decide) ?_
                refine okk_t (by decide) ?_
                exact okk_some ((by show (0 = 1 ∧ ¬ ((0 ≤ p2.toInt ∧ p2.toInt ≤ 7) ∧ -1 ≤ p4.toInt ∧ p4.toInt ≤ 7)) ∨ (0 = 2 ∧ ((0 ≤ p2.toInt ∧ p2.toInt ≤ 7) ∧ -1 ≤ p4.toInt ∧ p4.toInt ≤ 7) ∧ ¬ ((0 ≤ p1.toInt ∧ p1.toInt ≤ 999) ∧ (-1 ≤ p3.toInt ∧ p3.toInt ≤ 99999999) ∧ (latV u).toInt ≤ p5.toInt)) ∨ (0 = 0 ∧ ((0 ≤ p2.toInt ∧ p2.toInt ≤ 7) ∧ -1 ≤ p4.toInt ∧ p4.toInt ≤ 7) ∧ ((0 ≤ p1.toInt ∧ p1.toInt ≤ 999) ∧ (-1 ≤ p3.toInt ∧ p3.toInt ≤ 99999999) ∧ (latV u).toInt ≤ p5.toInt)); omega))
            · refine okk_t (by decide) ?_
              unfold fcJ_needCallData_62
              refine okk_bs (v := (2 : Nat)) (by decide) ?_
              refine okk_f (by decide) ?_
              exact okk_some ((by show (2 = 1 ∧ ¬ ((0 ≤ p2.toInt ∧ p2.toInt ≤ 7) ∧ -1 ≤ p4.toInt ∧ p4.toInt ≤ 7)) ∨ (2 = 2 ∧ ((0 ≤ p2.toInt ∧ p2.toInt ≤ 7) ∧ -1 ≤ p4.toInt ∧ p4.toInt ≤ 7) ∧ ¬ ((0 ≤ p1.toInt ∧ p1.toInt ≤ 999) ∧ (-1 ≤ p3.toInt ∧ p3.toInt ≤ 99999999) ∧ (latV u).toInt ≤ p5.toInt)) ∨ (2 = 0 ∧ ((0 ≤ p2.toInt ∧ p2.toInt ≤ 7) ∧ -1 ≤ p4.toInt ∧ p4.toInt ≤ 7) ∧ ((0 ≤ p1.toInt ∧ p1.toInt ≤ 999) ∧ (-1 ≤ p3.toInt ∧ p3.toInt ≤ 99999999) ∧ (latV u).toInt ≤ p5.toInt)); omega))
        · refine okk_bs (v := (2 : Nat)) (by decide) ?_
          refine okk_f (by decide) ?_
          exact okk_some ((by show (2 = 1 ∧ ¬ ((0 ≤ p2.toInt ∧ p2.toInt ≤ 7) ∧ -1 ≤ p4.toInt ∧ p4.toInt ≤ 7)) ∨ (2 = 2 ∧ ((0 ≤ p2.toInt ∧ p2.toInt ≤ 7) ∧ -1 ≤ p4.toInt ∧ p4.toInt ≤ 7) ∧ ¬ ((0 ≤ p1.toInt ∧ p1.toInt ≤ 999) ∧ (-1 ≤ p3.toInt ∧ p3.toInt ≤ 99999999) ∧ (latV u).toInt ≤ p5.toInt)) ∨ (2 = 0 ∧ ((0 ≤ p2.toInt ∧ p2.toInt ≤ 7) ∧ -1 ≤ p4.toInt ∧ p4.toInt ≤ 7) ∧ ((0 ≤ p1.toInt ∧ p1.toInt ≤ 999) ∧ (-1 ≤ p3.toInt ∧ p3.toInt ≤ 99999999) ∧ (latV u).toInt ≤ p5.toInt)); omega))
      · refine okk_t (by decide) ?_
        unfold fcJ_needCallData_30
        refine okk_bs (v := (1 : Nat)) (by decide) ?_
        refine okk_f (by decide) ?_
        exact okk_some ((by show (1 = 1 ∧ ¬ ((0 ≤ p2.toInt ∧ p2.toInt ≤ 7) ∧ -1 ≤ p4.toInt ∧ p4.toInt ≤ 7)) ∨ (1 = 2 ∧ ((0 ≤ p2.toInt ∧ p2.toInt ≤ 7) ∧ -1 ≤ p4.toInt ∧ p4.toInt ≤ 7) ∧ ¬ ((0 ≤ p1.toInt ∧ p1.toInt ≤ 999) ∧ (-1 ≤ p3.toInt ∧ p3.toInt ≤ 99999999) ∧ (latV u).toInt ≤ p5.toInt)) ∨ (1 = 0 ∧ ((0 ≤ p2.toInt ∧ p2.toInt ≤ 7) ∧ -1 ≤ p4.toInt ∧ p4.toInt ≤ 7) ∧ ((0 ≤ p1.toInt ∧ p1.toInt ≤ 999) ∧ (-1 ≤ p3.toInt ∧ p3.toInt ≤ 99999999) ∧ (latV u).toInt ≤ p5.toInt)); omega))
  · refine okk_bs (v := (1 : Nat)) (by decide) ?_
    refine okk_f (by decide) ?_
    exact okk_some ((by show (1 = 1 ∧ ¬ ((0 ≤ p2.toInt ∧ p2.toInt ≤ 7) ∧ -1 ≤ p4.toInt ∧ p4.toInt ≤ 7)) ∨ (1 = 2 ∧ ((0 ≤ p2.toInt ∧ p2.toInt ≤ 7) ∧ -1 ≤ p4.toInt ∧ p4.toInt ≤ 7) ∧ ¬ ((0 ≤ p1.toInt ∧ p1.toInt ≤ 999) ∧ (-1 ≤ p3.toInt ∧ p3.toInt ≤ 99999999) ∧ (latV u).toInt ≤ p5.toInt)) ∨ (1 = 0 ∧ ((0 ≤ p2.toInt ∧ p2.toInt ≤ 7) ∧ -1 ≤ p4.toInt ∧ p4.toInt ≤ 7) ∧ ((0 ≤ p1.toInt ∧ p1.toInt ≤ 999) ∧ (-1 ≤ p3.toInt ∧ p3.toInt ≤ 99999999) ∧ (latV u).toInt ≤ p5.toInt)); omega))
set_option maxHeartbeats 4000000 in
theorem okl_fm_isKnown {p0 : Int32} {p1 : Int32} : okk (fm_isKnown p0 p1) (fun r => ((r.toInt = 1 ∧ (0 ≤ p0.toInt ∧ p0.toInt ≤ 7) ∧ -1 ≤ p1.toInt ∧ p1.toInt ≤ 7) ∨ (r.toInt = 0 ∧ ¬ ((0 ≤ p0.toInt ∧ p0.toInt ≤ 7) ∧ -1 ≤ p1.toInt ∧ p1.toInt ≤ 7)))) := by
  unfold fm_isKnown
  refine okk_isKind (fun b1_ => ?_) (fun b1_ => ?_)
  · refine okk_f (by decide) ?_
    try have t2_ : (-1 : Int32).toInt = (-1 : Int) := (by decide : (-1 : Int32).toInt = -1)
    try have t3_ : (7 : Int32).toInt = (7 : Int) := (by decide : (7 : Int32).toInt = 7)
    refine okk_in (fun b4_ => ?_) (fun b4_ => ?_)
    · refine okk_f (by decide) ?_
      try have t5_ : (1 : Int32).toInt = (1 : Int) := (by decide : (1 : Int32).toInt = 1)
      exact okk_some ((by show ((1 : Int32).toInt = 1 ∧ (0 ≤ p0.toInt ∧ p0.toInt ≤ 7) ∧ -1 ≤ p1.toInt ∧ p1.toInt ≤ 7) ∨ ((1 : Int32).toInt = 0 ∧ ¬ ((0 ≤ p0.toInt ∧ p0.toInt ≤ 7) ∧ -1 ≤ p1.toInt ∧ p1.toInt ≤ 7)); omega))
    · refine okk_t (by decide) ?_
      try have t6_ : (0 : Int32).toInt = (0 : Int) := (by decide : (0 : Int32).toInt = 0)
      exact okk_some ((by show ((0 : Int32).toInt = 1 ∧ (0 ≤ p0.toInt ∧ p0.toInt ≤ 7) ∧ -1 ≤ p1.toInt ∧ p1.toInt ≤ 7) ∨ ((0 : Int32).toInt = 0 ∧ ¬ ((0 ≤ p0.toInt ∧ p0.toInt ≤ 7) ∧ -1 ≤ p1.toInt ∧ p1.toInt ≤ 7)); omega))
  · refine okk_t (by decide) ?_
    try have t7_ : (0 : Int32).toInt = (0 : Int) := (by decide : (0 : Int32).toInt = 0)
    exact okk_some ((by show ((0 : Int32).toInt = 1 ∧ (0 ≤ p0.toInt ∧ p0.toInt ≤ 7) ∧ -1 ≤ p1.toInt ∧ p1.toInt ≤ 7) ∨ ((0 : Int32).toInt = 0 ∧ ¬ ((0 ≤ p0.toInt ∧ p0.toInt ≤ 7) ∧ -1 ≤ p1.toInt ∧ p1.toInt ≤ 7)); omega))
