theorem sy_fk {own : String} {q c j : Nat} (C : String) (T : u_T) (N : Nat) (h1 : sy_cl[c]? = some (C, T, N)) (h2 : j < N) (h3 : Cond.fieldLink own q (T j).1 (T j).2.1 (T j).2.2.1 ∈ sy_tb) : sy_fldk own q c j := ⟨C, T, N, h1, h2, h3⟩
def sy_lk (N : Nat) (f : Nat → Option sy_I) (pc : Nat) : Option sy_I := if pc < N then f pc else none
theorem sy_lk_ok {cc : ByteArray} {rt : Option FieldType} {bl : Bool} (N : Nat) (f : Nat → Option sy_I) (h : ((List.range N).all fun pc => match f pc with
    | some i => sy_chk cc rt bl pc i
    | none => true) = true) : ∀ pc i, sy_lk N f pc = some i → sy_chk cc rt bl pc i = true := by
  intro pc i hi
  unfold sy_lk at hi
  split at hi
  · rename_i hp
    have := List.all_eq_true.mp h pc (List.mem_range.mpr hp)
    rw [hi] at this
    exact this
  · cases hi
def ff_0 (q : Nat) : Option (Nat × Nat) := match q with
  | 9 => some (0, 0)
  | 21 => some (0, 1)
  | 25 => some (0, 2)
  | 28 => some (0, 3)
  | 45 => some (6, 5)
  | _ => none
theorem ff_0_ok : ∀ q c j, ff_0 q = some (c, j) → sy_fldk "StarHide$Clocks" q c j := by
  intro q c j h
  unfold ff_0 at h
  split at h
  · cases h; exact sy_fk R_0 F_0 4 rfl (by decide) (by decide +kernel)
  · cases h; exact sy_fk R_0 F_0 4 rfl (by decide) (by decide +kernel)
  · cases h; exact sy_fk R_0 F_0 4 rfl (by decide) (by decide +kernel)
  · cases h; exact sy_fk R_0 F_0 4 rfl (by decide) (by decide +kernel)
  · cases h; exact sy_fk R_6 F_6 10 rfl (by decide) (by decide +kernel)
  · cases h
def ki_0 (q : Nat) : Option Int := match q with
  | _ => none
theorem ki_0_ok : ∀ q z, ki_0 q = some z → sy_iR z ∧ Cond.constant "StarHide$Clocks" q (Int32.ofInt z) ∈ sy_tb := by
  intro q z h
  unfold ki_0 at h
  cases h
def kl_0 (q : Nat) : Option Int := match q with
  | _ => none
theorem kl_0_ok : ∀ q z, kl_0 q = some z → sy_lR z ∧ Cond.constantLong "StarHide$Clocks" q (Int64.ofInt z) ∈ sy_tb := by
  intro q z h
  unfold kl_0 at h
  cases h
def ff_1 (q : Nat) : Option (Nat × Nat) := match q with
  | 11 => some (1, 1)
  | 15 => some (1, 2)
  | 18 => some (1, 3)
  | 21 => some (1, 5)
  | 25 => some (1, 0)
  | 29 => some (1, 4)
  | 38 => some (7, 2)
  | 55 => some (6, 0)
  | _ => none
theorem ff_1_ok : ∀ q c j, ff_1 q = some (c, j) → sy_fldk "StarHide$Dips" q c j := by
  intro q c j h
  unfold ff_1 at h
  split at h
  · cases h; exact sy_fk R_1 F_1 6 rfl (by decide) (by decide +kernel)
  · cases h; exact sy_fk R_1 F_1 6 rfl (by decide) (by decide +kernel)
  · cases h; exact sy_fk R_1 F_1 6 rfl (by decide) (by decide +kernel)
  · cases h; exact sy_fk R_1 F_1 6 rfl (by decide) (by decide +kernel)
  · cases h; exact sy_fk R_1 F_1 6 rfl (by decide) (by decide +kernel)
  · cases h; exact sy_fk R_1 F_1 6 rfl (by decide) (by decide +kernel)
  · cases h; exact sy_fk R_7 F_7 3 rfl (by decide) (by decide +kernel)
  · cases h; exact sy_fk R_6 F_6 10 rfl (by decide) (by decide +kernel)
  · cases h
def ki_1 (q : Nat) : Option Int := match q with
  | _ => none
theorem ki_1_ok : ∀ q z, ki_1 q = some z → sy_iR z ∧ Cond.constant "StarHide$Dips" q (Int32.ofInt z) ∈ sy_tb := by
  intro q z h
  unfold ki_1 at h
  cases h
def kl_1 (q : Nat) : Option Int := match q with
  | 53 => some (-1)
  | _ => none
theorem kl_1_ok : ∀ q z, kl_1 q = some z → sy_lR z ∧ Cond.constantLong "StarHide$Dips" q (Int64.ofInt z) ∈ sy_tb := by
  intro q z h
  unfold kl_1 at h
  split at h
  · cases h; exact ⟨⟨by decide, by decide⟩, by decide +kernel⟩
  · cases h
def ff_2 (q : Nat) : Option (Nat × Nat) := match q with
  | 11 => some (2, 1)
  | 15 => some (2, 2)
  | 18 => some (2, 4)
  | 21 => some (2, 0)
  | 25 => some (2, 6)
  | 32 => some (2, 5)
  | 57 => some (2, 3)
  | 67 => some (7, 1)
  | 74 => some (6, 5)
  | 79 => some (7, 2)
  | 82 => some (6, 7)
  | 89 => some (6, 0)
  | 96 => some (6, 8)
  | _ => none
theorem ff_2_ok : ∀ q c j, ff_2 q = some (c, j) → sy_fldk "StarHide$Hull" q c j := by
  intro q c j h
  unfold ff_2 at h
  split at h
  · cases h; exact sy_fk R_2 F_2 7 rfl (by decide) (by decide +kernel)
  · cases h; exact sy_fk R_2 F_2 7 rfl (by decide) (by decide +kernel)
  · cases h; exact sy_fk R_2 F_2 7 rfl (by decide) (by decide +kernel)
  · cases h; exact sy_fk R_2 F_2 7 rfl (by decide) (by decide +kernel)
  · cases h; exact sy_fk R_2 F_2 7 rfl (by decide) (by decide +kernel)
  · cases h; exact sy_fk R_2 F_2 7 rfl (by decide) (by decide +kernel)
  · cases h; exact sy_fk R_2 F_2 7 rfl (by decide) (by decide +kernel)
  · cases h; exact sy_fk R_7 F_7 3 rfl (by decide) (by decide +kernel)
  · cases h; exact sy_fk R_6 F_6 10 rfl (by decide) (by decide +kernel)
  · cases h; exact sy_fk R_7 F_7 3 rfl (by decide) (by decide +kernel)
  · cases h; exact sy_fk R_6 F_6 10 rfl (by decide) (by decide +kernel)
  · cases h; exact sy_fk R_6 F_6 10 rfl (by decide) (by decide +kernel)
  · cases h; exact sy_fk R_6 F_6 10 rfl (by decide) (by decide +kernel)
  · cases h
def ki_2 (q : Nat) : Option Int := match q with
  | 46 => some (-1000000)
  | _ => none
theorem ki_2_ok : ∀ q z, ki_2 q = some z → sy_iR z ∧ Cond.constant "StarHide$Hull" q (Int32.ofInt z) ∈ sy_tb := by
  intro q z h
  unfold ki_2 at h
  split at h
  · cases h; exact ⟨⟨by decide, by decide⟩, by decide +kernel⟩
  · cases h
def kl_2 (q : Nat) : Option Int := match q with
  | _ => none
theorem kl_2_ok : ∀ q z, kl_2 q = some z → sy_lR z ∧ Cond.constantLong "StarHide$Hull" q (Int64.ofInt z) ∈ sy_tb := by
  intro q z h
  unfold kl_2 at h
  cases h
def ff_3 (q : Nat) : Option (Nat × Nat) := match q with
  | 9 => some (3, 0)
  | 13 => some (3, 1)
  | 16 => some (3, 2)
  | 19 => some (3, 3)
  | 23 => some (3, 4)
  | 59 => some (6, 3)
  | 65 => some (6, 0)
  | 68 => some (6, 2)
  | _ => none
theorem ff_3_ok : ∀ q c j, ff_3 q = some (c, j) → sy_fldk "StarHide$Net" q c j := by
  intro q c j h
  unfold ff_3 at h
  split at h
  · cases h; exact sy_fk R_3 F_3 5 rfl (by decide) (by decide +kernel)
  · cases h; exact sy_fk R_3 F_3 5 rfl (by decide) (by decide +kernel)
  · cases h; exact sy_fk R_3 F_3 5 rfl (by decide) (by decide +kernel)
  · cases h; exact sy_fk R_3 F_3 5 rfl (by decide) (by decide +kernel)
  · cases h; exact sy_fk R_3 F_3 5 rfl (by decide) (by decide +kernel)
  · cases h; exact sy_fk R_6 F_6 10 rfl (by decide) (by decide +kernel)
  · cases h; exact sy_fk R_6 F_6 10 rfl (by decide) (by decide +kernel)
  · cases h; exact sy_fk R_6 F_6 10 rfl (by decide) (by decide +kernel)
  · cases h
def ki_3 (q : Nat) : Option Int := match q with
  | _ => none
theorem ki_3_ok : ∀ q z, ki_3 q = some z → sy_iR z ∧ Cond.constant "StarHide$Net" q (Int32.ofInt z) ∈ sy_tb := by
  intro q z h
  unfold ki_3 at h
  cases h
def kl_3 (q : Nat) : Option Int := match q with
  | _ => none
theorem kl_3_ok : ∀ q z, kl_3 q = some z → sy_lR z ∧ Cond.constantLong "StarHide$Net" q (Int64.ofInt z) ∈ sy_tb := by
  intro q z h
  unfold kl_3 at h
  cases h
def ff_4 (q : Nat) : Option (Nat × Nat) := match q with
  | 9 => some (4, 1)
  | 15 => some (4, 2)
  | 18 => some (4, 4)
  | 21 => some (4, 5)
  | 24 => some (4, 0)
  | 28 => some (4, 6)
  | 36 => some (4, 3)
  | 50 => some (7, 1)
  | 59 => some (6, 0)
  | _ => none
theorem ff_4_ok : ∀ q c j, ff_4 q = some (c, j) → sy_fldk "StarHide$Planner" q c j := by
  intro q c j h
  unfold ff_4 at h
  split at h
  · cases h; exact sy_fk R_4 F_4 7 rfl (by decide) (by decide +kernel)
  · cases h; exact sy_fk R_4 F_4 7 rfl (by decide) (by decide +kernel)
  · cases h; exact sy_fk R_4 F_4 7 rfl (by decide) (by decide +kernel)
  · cases h; exact sy_fk R_4 F_4 7 rfl (by decide) (by decide +kernel)
  · cases h; exact sy_fk R_4 F_4 7 rfl (by decide) (by decide +kernel)
  · cases h; exact sy_fk R_4 F_4 7 rfl (by decide) (by decide +kernel)
  · cases h; exact sy_fk R_4 F_4 7 rfl (by decide) (by decide +kernel)
  · cases h; exact sy_fk R_7 F_7 3 rfl (by decide) (by decide +kernel)
  · cases h; exact sy_fk R_6 F_6 10 rfl (by decide) (by decide +kernel)
  · cases h
def ki_4 (q : Nat) : Option Int := match q with
  | 71 => some (1000000)
  | _ => none
theorem ki_4_ok : ∀ q z, ki_4 q = some z → sy_iR z ∧ Cond.constant "StarHide$Planner" q (Int32.ofInt z) ∈ sy_tb := by
  intro q z h
  unfold ki_4 at h
  split at h
  · cases h; exact ⟨⟨by decide, by decide⟩, by decide +kernel⟩
  · cases h
def kl_4 (q : Nat) : Option Int := match q with
  | _ => none
theorem kl_4_ok : ∀ q z, kl_4 q = some z → sy_lR z ∧ Cond.constantLong "StarHide$Planner" q (Int64.ofInt z) ∈ sy_tb := by
  intro q z h
  unfold kl_4 at h
  cases h
def ff_5 (q : Nat) : Option (Nat × Nat) := match q with
  | 11 => some (5, 2)
  | 17 => some (5, 3)
  | 24 => some (5, 9)
  | 28 => some (5, 10)
  | 31 => some (5, 0)
  | 35 => some (5, 1)
  | 42 => some (5, 4)
  | 45 => some (5, 5)
  | 48 => some (5, 6)
  | 51 => some (5, 7)
  | 54 => some (5, 8)
  | 57 => some (3, 4)
  | 64 => some (0, 1)
  | 67 => some (0, 2)
  | 70 => some (0, 3)
  | 73 => some (7, 1)
  | 100 => some (3, 3)
  | 103 => some (6, 2)
  | 110 => some (7, 2)
  | 123 => some (6, 4)
  | _ => none
theorem ff_5_ok : ∀ q c j, ff_5 q = some (c, j) → sy_fldk "StarHide$Search" q c j := by
  intro q c j h
  unfold ff_5 at h
  split at h
  · cases h; exact sy_fk R_5 F_5 11 rfl (by decide) (by decide +kernel)
  · cases h; exact sy_fk R_5 F_5 11 rfl (by decide) (by decide +kernel)
  · cases h; exact sy_fk R_5 F_5 11 rfl (by decide) (by decide +kernel)
  · cases h; exact sy_fk R_5 F_5 11 rfl (by decide) (by decide +kernel)
  · cases h; exact sy_fk R_5 F_5 11 rfl (by decide) (by decide +kernel)
  · cases h; exact sy_fk R_5 F_5 11 rfl (by decide) (by decide +kernel)
  · cases h; exact sy_fk R_5 F_5 11 rfl (by decide) (by decide +kernel)
  · cases h; exact sy_fk R_5 F_5 11 rfl (by decide) (by decide +kernel)
  · cases h; exact sy_fk R_5 F_5 11 rfl (by decide) (by decide +kernel)
  · cases h; exact sy_fk R_5 F_5 11 rfl (by decide) (by decide +kernel)
  · cases h; exact sy_fk R_5 F_5 11 rfl (by decide) (by decide +kernel)
  · cases h; exact sy_fk R_3 F_3 5 rfl (by decide) (by decide +kernel)
  · cases h; exact sy_fk R_0 F_0 4 rfl (by decide) (by decide +kernel)
  · cases h; exact sy_fk R_0 F_0 4 rfl (by decide) (by decide +kernel)
  · cases h; exact sy_fk R_0 F_0 4 rfl (by decide) (by decide +kernel)
  · cases h; exact sy_fk R_7 F_7 3 rfl (by decide) (by decide +kernel)
  · cases h; exact sy_fk R_3 F_3 5 rfl (by decide) (by decide +kernel)
  · cases h; exact sy_fk R_6 F_6 10 rfl (by decide) (by decide +kernel)
  · cases h; exact sy_fk R_7 F_7 3 rfl (by decide) (by decide +kernel)
  · cases h; exact sy_fk R_6 F_6 10 rfl (by decide) (by decide +kernel)
  · cases h
def ki_5 (q : Nat) : Option Int := match q with
  | _ => none
theorem ki_5_ok : ∀ q z, ki_5 q = some z → sy_iR z ∧ Cond.constant "StarHide$Search" q (Int32.ofInt z) ∈ sy_tb := by
  intro q z h
  unfold ki_5 at h
  cases h
def kl_5 (q : Nat) : Option Int := match q with
  | _ => none
theorem kl_5_ok : ∀ q z, kl_5 q = some z → sy_lR z ∧ Cond.constantLong "StarHide$Search" q (Int64.ofInt z) ∈ sy_tb := by
  intro q z h
  unfold kl_5 at h
  cases h
def ff_6 (q : Nat) : Option (Nat × Nat) := match q with
  | 9 => some (6, 0)
  | 15 => some (6, 1)
  | 20 => some (6, 2)
  | 24 => some (6, 5)
  | 27 => some (6, 6)
  | 30 => some (6, 7)
  | 33 => some (6, 8)
  | 36 => some (6, 9)
  | 39 => some (6, 4)
  | _ => none
theorem ff_6_ok : ∀ q c j, ff_6 q = some (c, j) → sy_fldk "StarHide$Site" q c j := by
  intro q c j h
  unfold ff_6 at h
  split at h
  · cases h; exact sy_fk R_6 F_6 10 rfl (by decide) (by decide +kernel)
  · cases h; exact sy_fk R_6 F_6 10 rfl (by decide) (by decide +kernel)
  · cases h; exact sy_fk R_6 F_6 10 rfl (by decide) (by decide +kernel)
  · cases h; exact sy_fk R_6 F_6 10 rfl (by decide) (by decide +kernel)
  · cases h; exact sy_fk R_6 F_6 10 rfl (by decide) (by decide +kernel)
  · cases h; exact sy_fk R_6 F_6 10 rfl (by decide) (by decide +kernel)
  · cases h; exact sy_fk R_6 F_6 10 rfl (by decide) (by decide +kernel)
  · cases h; exact sy_fk R_6 F_6 10 rfl (by decide) (by decide +kernel)
  · cases h; exact sy_fk R_6 F_6 10 rfl (by decide) (by decide +kernel)
  · cases h
def ki_6 (q : Nat) : Option Int := match q with
  | _ => none
theorem ki_6_ok : ∀ q z, ki_6 q = some z → sy_iR z ∧ Cond.constant "StarHide$Site" q (Int32.ofInt z) ∈ sy_tb := by
  intro q z h
  unfold ki_6 at h
  cases h
def kl_6 (q : Nat) : Option Int := match q with
  | _ => none
theorem kl_6_ok : ∀ q z, kl_6 q = some z → sy_lR z ∧ Cond.constantLong "StarHide$Site" q (Int64.ofInt z) ∈ sy_tb := by
  intro q z h
  unfold kl_6 at h
  cases h
def ff_7 (q : Nat) : Option (Nat × Nat) := match q with
  | 11 => some (7, 0)
  | 17 => some (7, 2)
  | 21 => some (7, 1)
  | 35 => some (6, 5)
  | 38 => some (6, 3)
  | 42 => some (6, 0)
  | _ => none
theorem ff_7_ok : ∀ q c j, ff_7 q = some (c, j) → sy_fldk "StarHide$Sites" q c j := by
  intro q c j h
  unfold ff_7 at h
  split at h
  · cases h; exact sy_fk R_7 F_7 3 rfl (by decide) (by decide +kernel)
  · cases h; exact sy_fk R_7 F_7 3 rfl (by decide) (by decide +kernel)
  · cases h; exact sy_fk R_7 F_7 3 rfl (by decide) (by decide +kernel)
  · cases h; exact sy_fk R_6 F_6 10 rfl (by decide) (by decide +kernel)
  · cases h; exact sy_fk R_6 F_6 10 rfl (by decide) (by decide +kernel)
  · cases h; exact sy_fk R_6 F_6 10 rfl (by decide) (by decide +kernel)
  · cases h
def ki_7 (q : Nat) : Option Int := match q with
  | _ => none
theorem ki_7_ok : ∀ q z, ki_7 q = some z → sy_iR z ∧ Cond.constant "StarHide$Sites" q (Int32.ofInt z) ∈ sy_tb := by
  intro q z h
  unfold ki_7 at h
  cases h
def kl_7 (q : Nat) : Option Int := match q with
  | _ => none
theorem kl_7_ok : ∀ q z, kl_7 q = some z → sy_lR z ∧ Cond.constantLong "StarHide$Sites" q (Int64.ofInt z) ∈ sy_tb := by
  intro q z h
  unfold kl_7 at h
  cases h
def ff_8 (q : Nat) : Option (Nat × Nat) := match q with
  | 10 => some (8, 0)
  | 19 => some (8, 1)
  | 28 => some (8, 2)
  | 37 => some (8, 3)
  | 44 => some (8, 4)
  | 51 => some (8, 5)
  | 59 => some (7, 2)
  | 81 => some (6, 4)
  | 97 => some (6, 5)
  | 111 => some (3, 4)
  | 162 => some (6, 6)
  | 165 => some (6, 7)
  | 168 => some (6, 0)
  | 177 => some (1, 5)
  | 180 => some (1, 4)
  | 198 => some (7, 1)
  | _ => none
theorem ff_8_ok : ∀ q c j, ff_8 q = some (c, j) → sy_fldk "StarHide" q c j := by
  intro q c j h
  unfold ff_8 at h
  split at h
  · cases h; exact sy_fk R_8 F_8 6 rfl (by decide) (by decide +kernel)
  · cases h; exact sy_fk R_8 F_8 6 rfl (by decide) (by decide +kernel)
  · cases h; exact sy_fk R_8 F_8 6 rfl (by decide) (by decide +kernel)
  · cases h; exact sy_fk R_8 F_8 6 rfl (by decide) (by decide +kernel)
  · cases h; exact sy_fk R_8 F_8 6 rfl (by decide) (by decide +kernel)
  · cases h; exact sy_fk R_8 F_8 6 rfl (by decide) (by decide +kernel)
  · cases h; exact sy_fk R_7 F_7 3 rfl (by decide) (by decide +kernel)
  · cases h; exact sy_fk R_6 F_6 10 rfl (by decide) (by decide +kernel)
  · cases h; exact sy_fk R_6 F_6 10 rfl (by decide) (by decide +kernel)
  · cases h; exact sy_fk R_3 F_3 5 rfl (by decide) (by decide +kernel)
  · cases h; exact sy_fk R_6 F_6 10 rfl (by decide) (by decide +kernel)
  · cases h; exact sy_fk R_6 F_6 10 rfl (by decide) (by decide +kernel)
  · cases h; exact sy_fk R_6 F_6 10 rfl (by decide) (by decide +kernel)
  · cases h; exact sy_fk R_1 F_1 6 rfl (by decide) (by decide +kernel)
  · cases h; exact sy_fk R_1 F_1 6 rfl (by decide) (by decide +kernel)
  · cases h; exact sy_fk R_7 F_7 3 rfl (by decide) (by decide +kernel)
  · cases h
def ki_8 (q : Nat) : Option Int := match q with
  | 100 => some (-1000000)
  | _ => none
theorem ki_8_ok : ∀ q z, ki_8 q = some z → sy_iR z ∧ Cond.constant "StarHide" q (Int32.ofInt z) ∈ sy_tb := by
  intro q z h
  unfold ki_8 at h
  split at h
  · cases h; exact ⟨⟨by decide, by decide⟩, by decide +kernel⟩
  · cases h
def kl_8 (q : Nat) : Option Int := match q with
  | 183 => some (-1)
  | _ => none
theorem kl_8_ok : ∀ q z, kl_8 q = some z → sy_lR z ∧ Cond.constantLong "StarHide" q (Int64.ofInt z) ∈ sy_tb := by
  intro q z h
  unfold kl_8 at h
  split at h
  · cases h; exact ⟨⟨by decide, by decide⟩, by decide +kernel⟩
  · cases h
def ff_9 (q : Nat) : Option (Nat × Nat) := match q with
  | 7 => some (9, 0)
  | 13 => some (9, 1)
  | 16 => some (9, 2)
  | 20 => some (9, 3)
  | 23 => some (9, 4)
  | 26 => some (9, 5)
  | 29 => some (9, 6)
  | 32 => some (9, 7)
  | 35 => some (9, 8)
  | 38 => some (9, 9)
  | 41 => some (9, 10)
  | 44 => some (9, 11)
  | 47 => some (9, 12)
  | 51 => some (9, 13)
  | 54 => some (9, 14)
  | 57 => some (9, 15)
  | 60 => some (9, 16)
  | 63 => some (9, 17)
  | 66 => some (9, 18)
  | _ => none
theorem ff_9_ok : ∀ q c j, ff_9 q = some (c, j) → sy_fldk "StarHideModel" q c j := by
  intro q c j h
  unfold ff_9 at h
  split at h
  · cases h; exact sy_fk R_9 F_9 19 rfl (by decide) (by decide +kernel)
  · cases h; exact sy_fk R_9 F_9 19 rfl (by decide) (by decide +kernel)
  · cases h; exact sy_fk R_9 F_9 19 rfl (by decide) (by decide +kernel)
  · cases h; exact sy_fk R_9 F_9 19 rfl (by decide) (by decide +kernel)
  · cases h; exact sy_fk R_9 F_9 19 rfl (by decide) (by decide +kernel)
  · cases h; exact sy_fk R_9 F_9 19 rfl (by decide) (by decide +kernel)
  · cases h; exact sy_fk R_9 F_9 19 rfl (by decide) (by decide +kernel)
  · cases h; exact sy_fk R_9 F_9 19 rfl (by decide) (by decide +kernel)
  · cases h; exact sy_fk R_9 F_9 19 rfl (by decide) (by decide +kernel)
  · cases h; exact sy_fk R_9 F_9 19 rfl (by decide) (by decide +kernel)
  · cases h; exact sy_fk R_9 F_9 19 rfl (by decide) (by decide +kernel)
  · cases h; exact sy_fk R_9 F_9 19 rfl (by decide) (by decide +kernel)
  · cases h; exact sy_fk R_9 F_9 19 rfl (by decide) (by decide +kernel)
  · cases h; exact sy_fk R_9 F_9 19 rfl (by decide) (by decide +kernel)
  · cases h; exact sy_fk R_9 F_9 19 rfl (by decide) (by decide +kernel)
  · cases h; exact sy_fk R_9 F_9 19 rfl (by decide) (by decide +kernel)
  · cases h; exact sy_fk R_9 F_9 19 rfl (by decide) (by decide +kernel)
  · cases h; exact sy_fk R_9 F_9 19 rfl (by decide) (by decide +kernel)
  · cases h; exact sy_fk R_9 F_9 19 rfl (by decide) (by decide +kernel)
  · cases h
def ki_9 (q : Nat) : Option Int := match q with
  | 88 => some (-1000000)
  | _ => none
theorem ki_9_ok : ∀ q z, ki_9 q = some z → sy_iR z ∧ Cond.constant "StarHideModel" q (Int32.ofInt z) ∈ sy_tb := by
  intro q z h
  unfold ki_9 at h
  split at h
  · cases h; exact ⟨⟨by decide, by decide⟩, by decide +kernel⟩
  · cases h
def kl_9 (q : Nat) : Option Int := match q with
  | 143 => some (-1)
  | 145 => some (2)
  | _ => none
theorem kl_9_ok : ∀ q z, kl_9 q = some z → sy_lR z ∧ Cond.constantLong "StarHideModel" q (Int64.ofInt z) ∈ sy_tb := by
  intro q z h
  unfold kl_9 at h
  split at h
  · cases h; exact ⟨⟨by decide, by decide⟩, by decide +kernel⟩
  · cases h; exact ⟨⟨by decide, by decide⟩, by decide +kernel⟩
  · cases h
def ff_M (q : Nat) : Option (Nat × Nat) := match q with
  | _ => none
theorem ff_M_ok : ∀ q c j, ff_M q = some (c, j) → sy_fldk "java/lang/Math" q c j := by
  intro q c j h
  unfold ff_M at h
  cases h
def ki_M (q : Nat) : Option Int := match q with
  | _ => none
theorem ki_M_ok : ∀ q z, ki_M q = some z → sy_iR z ∧ Cond.constant "java/lang/Math" q (Int32.ofInt z) ∈ sy_tb := by
  intro q z h
  unfold ki_M at h
  cases h
def kl_M (q : Nat) : Option Int := match q with
  | _ => none
theorem kl_M_ok : ∀ q z, kl_M q = some z → sy_lR z ∧ Cond.constantLong "java/lang/Math" q (Int64.ofInt z) ∈ sy_tb := by
  intro q z h
  unfold kl_M at h
  cases h
def ff_N (q : Nat) : Option (Nat × Nat) := match q with
  | _ => none
theorem ff_N_ok : ∀ q c j, ff_N q = some (c, j) → sy_fldk "java/lang/Integer" q c j := by
  intro q c j h
  unfold ff_N at h
  cases h
def ki_N (q : Nat) : Option Int := match q with
  | 265 => some (1431655765)
  | 266 => some (858993459)
  | 267 => some (252645135)
  | _ => none
theorem ki_N_ok : ∀ q z, ki_N q = some z → sy_iR z ∧ Cond.constant "java/lang/Integer" q (Int32.ofInt z) ∈ sy_tb := by
  intro q z h
  unfold ki_N at h
  split at h
  · cases h; exact ⟨⟨by decide, by decide⟩, by decide +kernel⟩
  · cases h; exact ⟨⟨by decide, by decide⟩, by decide +kernel⟩
  · cases h; exact ⟨⟨by decide, by decide⟩, by decide +kernel⟩
  · cases h
def kl_N (q : Nat) : Option Int := match q with
  | _ => none
theorem kl_N_ok : ∀ q z, kl_N q = some z → sy_lR z ∧ Cond.constantLong "java/lang/Integer" q (Int64.ofInt z) ∈ sy_tb := by
  intro q z h
  unfold kl_N at h
  cases h
def ff_U (q : Nat) : Option (Nat × Nat) := match q with
  | _ => none
theorem ff_U_ok : ∀ q c j, ff_U q = some (c, j) → sy_fldk "java/util/Arrays" q c j := by
  intro q c j h
  unfold ff_U at h
  cases h
def ki_U (q : Nat) : Option Int := match q with
  | _ => none
theorem ki_U_ok : ∀ q z, ki_U q = some z → sy_iR z ∧ Cond.constant "java/util/Arrays" q (Int32.ofInt z) ∈ sy_tb := by
  intro q z h
  unfold ki_U at h
  cases h
def kl_U (q : Nat) : Option Int := match q with
  | _ => none
theorem kl_U_ok : ∀ q z, kl_U q = some z → sy_lR z ∧ Cond.constantLong "java/util/Arrays" q (Int64.ofInt z) ∈ sy_tb := by
  intro q z h
  unfold kl_U at h
  cases h
