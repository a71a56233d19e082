def cj0A : Nat → Nat → Int32 := fun k => match k with
  | 0 => fillG 8 200 (fun _ => 0)
  | 1 => fillG 8 600 (fun _ => 0)
  | 2 => fillG 8 1 (fun _ => 0)
  | 3 => fillG 8 2 (fun _ => 0)
  | 4 => fillG 256 1 (fun _ => 0)
  | _ => fun _ => 0
def cj0 : g_S := (fun _ => 0, cj0A)
def md0A : Nat → Nat → Int32 := fun k => match k with
  | 0 => (upd (upd (upd (upd (upd (upd (upd (upd (fun _ => 0) 0 200) 1 200) 2 200) 3 200) 4 200) 5 200) 6 200) 7 200)
  | 1 => (upd (upd (upd (upd (upd (upd (upd (upd (fun _ => 0) 0 600) 1 600) 2 600) 3 600) 4 600) 5 600) 6 600) 7 600)
  | 2 => (upd (upd (upd (upd (upd (upd (upd (upd (fun _ => 0) 0 1) 1 1) 2 1) 3 1) 4 1) 5 1) 6 1) 7 1)
  | 3 => (upd (upd (upd (upd (upd (upd (upd (upd (fun _ => 0) 0 2) 1 2) 2 2) 3 2) 4 2) 5 2) 6 2) 7 2)
  | 4 => fillG 256 1 (fun _ => 0)
  | _ => fun _ => 0
def md0 : g_S := (fun _ => 0, md0A)
theorem lo0C (k : Nat) : loC k ≤ 0 := by
  unfold loC
  split <;> decide
theorem hi0C (k : Nat) : 0 ≤ hiC k := by
  unfold hiC
  split <;> decide
theorem lo0M (k : Nat) : loM k ≤ 0 := by
  unfold loM
  split <;> decide
theorem hi0M (k : Nat) : 0 ≤ hiM k := by
  unfold hiM
  split <;> decide
theorem z0i : (0 : Int32).toInt = 0 := by decide
theorem IC_0 : IC (fun _ => 0) cj0 := by
  refine ⟨⟨by decide, by decide, by decide, by decide⟩, fun k j => ?_, fun e _ => ?_, fun j => rfl⟩
  · match k with
    | 0 => exact ⟨oi_lo _, oi_hi _⟩
    | 1 => exact ⟨oi_lo _, oi_hi _⟩
    | 2 => exact ⟨oi_lo _, oi_hi _⟩
    | 3 => exact ⟨oi_lo _, oi_hi _⟩
    | 4 => exact ⟨oi_lo _, oi_hi _⟩
    | k + 5 =>
      have e : (cj0.2 (k + 5) j).toInt = 0 := z0i
      rw [e]; exact ⟨lo0C _, hi0C _⟩
  · show 0 ≤ (0 : Int32).toInt
    decide
theorem IM_0 : IM (fun _ => 0) md0 := by
  refine ⟨⟨by decide, by decide, by decide, by decide⟩, fun k j => ?_, ⟨fun e he _ => ?_, fun c hc => ?_⟩, fun j => rfl⟩
  · match k with
    | 0 => exact ⟨oi_lo _, oi_hi _⟩
    | 1 => exact ⟨oi_lo _, oi_hi _⟩
    | 2 => exact ⟨oi_lo _, oi_hi _⟩
    | 3 => exact ⟨oi_lo _, oi_hi _⟩
    | 4 => exact ⟨oi_lo _, oi_hi _⟩
    | k + 5 =>
      have e : (md0.2 (k + 5) j).toInt = 0 := z0i
      rw [e]; exact ⟨lo0M _, hi0M _⟩
  · have he : (e : Int) < (0 : Int32).toInt := he
    rw [z0i] at he; omega
  · have hc : (c : Int) < (0 : Int32).toInt := hc
    rw [z0i] at hc; omega
theorem RA_fl (v : Int32) : fillG 8 v (fun _ => 0) = (upd (upd (upd (upd (upd (upd (upd (upd (fun _ => 0) 0 v) 1 v) 2 v) 3 v) 4 v) 5 v) 6 v) 7 v) := by
  funext j
  unfold fillG upd
  by_cases h : j < 8
  · rw [if_pos h]
    match j, h with
    | 0, _ => rfl
    | 1, _ => rfl
    | 2, _ => rfl
    | 3, _ => rfl
    | 4, _ => rfl
    | 5, _ => rfl
    | 6, _ => rfl
    | 7, _ => rfl
    | j + 8, h => exact absurd h (by omega)
  · rw [if_neg h, if_neg (by omega), if_neg (by omega), if_neg (by omega), if_neg (by omega), if_neg (by omega), if_neg (by omega), if_neg (by omega), if_neg (by omega)]
theorem RA_st : RA cj0 md0 := by
  refine ⟨rfl, rfl, fun k hk => ?_, fun c hc => ?_, fun e he => ?_⟩
  · match k, hk with
    | 0, _ => exact RA_fl 200
    | 1, _ => exact RA_fl 600
    | 2, _ => exact RA_fl 1
    | 3, _ => exact RA_fl 2
    | 4, _ => rfl
    | 5, _ => rfl
    | 6, _ => rfl
    | k + 7, h => exact absurd h (by omega)
  · have hc : (c : Int) < (0 : Int32).toInt := hc
    rw [z0i] at hc; omega
  · have he : (e : Int) < (0 : Int32).toInt := he
    rw [z0i] at he; omega
theorem RS_st : RS cj0 := by
  refine ⟨fun j => ?_, fun c hc => ?_, fun c hc => ?_, fun e he => ?_⟩
  · show 0 ≤ (0 : Int32).toInt ∧ (0 : Int32).toInt ≤ 99999999
    decide
  · have hc : (c : Int) < (0 : Int32).toInt := hc
    rw [z0i] at hc; omega
  · have hc : (c : Int) < (0 : Int32).toInt := hc
    rw [z0i] at hc; omega
  · have he : (e : Int) < (0 : Int32).toInt := he
    rw [z0i] at he; omega
theorem Rel_0 : Rel cj0 md0 := ⟨fun _ => 0, IC_0, IM_0, RA_st, RS_st⟩
