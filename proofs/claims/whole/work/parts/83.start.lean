/-! THE START -/
def st0 : sy_S := fun a => match a with
  | 1 => fun k => if k = 2 then 5 else 0
  | 3 => fun k => if k = 3 ∨ k = 4 then 1 else 0
  | 4 => fun k => if k = 2 ∨ k = 3 then 100 else 0
  | 5 => fun k => if k < 4 then 1 else 0
  | 6 => fun k => if k < 4 then 1 else 0
  | 7 => fun k => if k = 3 ∨ k = 10 then -1 else 0
  | 15 => fun k => if k = 5 then 10 else 0
  | 24 => fun k => if k = 0 then 5 else if k = 10 then 10 else 0
  | 30 => fun k => if k < 12 then (if k % 3 = 0 then (if k < 6 then 0 else 100) else 1) else 0
  | _ => fun _ => 0
theorem st0_hi {a : Nat} (h : 37 ≤ a) (k : Nat) : st0 a k = 0 := by
  unfold st0
  split <;> first | omega | rfl
theorem st0_S (i k : Nat) : st0 (sy_nS i) k = 0 := st0_hi (sy_nS_ge i) k
theorem st0_rg : sy_rg st0 := by
  intro a k
  have z : sy_iR 0 := sy_z32
  by_cases h : a = 32 ∨ a = 33
  · rw [if_pos h]
    rcases h with rfl | rfl
    · show sy_lR 0; exact ⟨by decide, by decide⟩
    · show sy_lR 0; exact ⟨by decide, by decide⟩
  · rw [if_neg h]
    unfold st0
    split <;> dsimp only <;> (repeat' split) <;> exact ⟨by decide, by decide⟩
theorem st0_r4 (P : Nat → Prop) (h0 : P 0) (h1 : P 1) (h2 : P 2) (h3 : P 3) : ∀ r, r < 4 → P r := by
  intro r hr
  rcases (show r = 0 ∨ r = 1 ∨ r = 2 ∨ r = 3 by omega) with rfl | rfl | rfl | rfl <;> assumption
theorem st0_cnet : c_net st0 := by
  refine ⟨⟨fun r => ?_, ⟨by decide, by decide⟩, ⟨by decide, by decide⟩, ⟨by decide, by decide⟩, ⟨by decide, by decide⟩⟩, by decide, by decide⟩
  by_cases h : r < 4
  · exact st0_r4 (fun r => 1 ≤ c_B st0 r ∧ c_B st0 r ≤ 1000 ∧ 1 ≤ c_N st0 r ∧ c_N st0 r ≤ 8) (by decide) (by decide) (by decide) (by decide) r h
  · unfold c_B c_N
    rw [if_neg h, if_neg h]; decide
theorem st0_mnet : m_net st0 := by
  refine ⟨fun r => ?_, ⟨by decide, by decide⟩, ⟨by decide, by decide⟩, ⟨by decide, by decide⟩, ⟨by decide, by decide⟩⟩
  by_cases h : r < 4
  · exact st0_r4 (fun r => 1 ≤ m_B st0 r ∧ m_B st0 r ≤ 1000 ∧ 1 ≤ m_N st0 r ∧ m_N st0 r ≤ 8) (by decide) (by decide) (by decide) (by decide) r h
  · unfold m_B m_N
    rw [if_neg h, if_neg h]; decide
theorem st0_crng : c_rng st0 := by
  refine ⟨⟨by decide, by decide⟩, fun i => ?_, fun i => ?_, fun i => ?_, fun i => ?_, fun i k _ _ => ?_⟩
  all_goals (rw [st0_S]; exact ⟨by decide, by decide⟩)
theorem Rel0 : Rel 0 st0 := by
  refine ⟨⟨⟨⟨⟨rfl, by decide⟩, st0_crng, st0_cnet, fun i hi => absurd hi (Nat.not_lt_zero i)⟩, fun f i _ _ => x_z0 i, fun f i _ hi => absurd hi (Nat.not_lt_zero i), fun h => absurd h (by decide)⟩, Or.inl rfl⟩, ⟨⟨⟨⟨by decide, by decide⟩, ⟨by decide, by decide⟩, fun j => ⟨by show (-15500 : Int) ≤ 0; decide, by show (0 : Int) ≤ 15500; decide⟩, fun j => ⟨by show (-2000 : Int) ≤ 0; decide, by show (0 : Int) ≤ 2000; decide⟩, fun j => ⟨by show (0 : Int) ≤ 0; decide, by show (0 : Int) < 32; decide⟩⟩, Or.inl rfl⟩, fun i j hi => absurd hi (Nat.not_lt_zero i)⟩, ⟨⟨⟨by decide, by decide⟩, ⟨by decide, by decide⟩, fun k hk => ?_⟩, by decide, by decide⟩, ?_, ⟨rfl, fun i hi => absurd hi (Nat.not_lt_zero i)⟩, ?_, ⟨rfl, rfl, fun k hk => ?_⟩, ⟨rfl, fun k hk => ?_⟩⟩
  · have : (k : Int) < 0 := hk
    omega
  · refine ⟨⟨⟨rfl, by decide⟩, ⟨⟨by decide, by decide⟩, fun i => ⟨by show (-2000 : Int) ≤ 0; decide, by show (0 : Int) ≤ 2000; decide⟩, fun i => ⟨by show (-5000 : Int) ≤ 0; decide, by show (0 : Int) ≤ 5000; decide⟩, fun i => ⟨by show (-50 : Int) ≤ 0; decide, by show (0 : Int) ≤ 50; decide⟩, fun i => ⟨by show (-1000 : Int) ≤ 0; decide, by show (0 : Int) ≤ 1000; decide⟩, fun i => ⟨by show (0 : Int) ≤ 0; decide, by show (0 : Int) ≤ 3; decide⟩⟩, st0_mnet⟩, ⟨⟨by decide, by decide⟩, ⟨by decide, by decide⟩, fun k hk => ?_⟩, fun i _ => ⟨rfl, rfl⟩, fun i hi => absurd hi (Nat.not_lt_zero i)⟩
    have : (k : Int) < 0 := hk
    omega
  · exact st0_r4 (fun r => st0 4 r = st0 30 (3 * r) ∧ st0 5 r = st0 30 (3 * r + 1) ∧ st0 6 r = st0 30 (3 * r + 2)) (by decide) (by decide) (by decide) (by decide)
  · have : (k : Int) < 0 := hk
    omega
  · have : (k : Int) < 0 := hk
    omega
def lw_ad (x0 : Nat) (u : Nat → Nat) (m0 : Nat) (v : Nat → Nat) (n : Nat) : Nat := if n = 0 then x0 else if n < 24 then u (n - 1) else if n = 24 then m0 else v (n - 25)
theorem lw_cons {a a' : Nat} {e e' : va_E} {l l' : va_W} (ha : a = a') (he : e = e') (hl : l = l') : (a, e) :: l = (a', e') :: l' := by rw [ha, he, hl]
theorem e0_4 : (fun j => Int32.ofInt (st0 4 j)) = upd (upd (fun _ => 0) 2 100) 3 100 := by
  funext j
  rcases (show j = 0 ∨ j = 1 ∨ j = 2 ∨ j = 3 ∨ 4 ≤ j by omega) with rfl | rfl | rfl | rfl | h
  all_goals try rfl
  unfold upd
  show Int32.ofInt (if j = 2 ∨ j = 3 then 100 else 0) = _
  rw [if_neg (by omega), if_neg (by omega), if_neg (by omega)]
  rfl
theorem e0_5 : (fun j => Int32.ofInt (st0 5 j)) = upd (upd (upd (upd (fun _ => 0) 0 1) 1 1) 2 1) 3 1 := by
  funext j
  rcases (show j = 0 ∨ j = 1 ∨ j = 2 ∨ j = 3 ∨ 4 ≤ j by omega) with rfl | rfl | rfl | rfl | h
  all_goals try rfl
  unfold upd
  show Int32.ofInt (if j < 4 then 1 else 0) = _
  rw [if_neg (by omega), if_neg (by omega), if_neg (by omega), if_neg (by omega), if_neg (by omega)]
  rfl
theorem e0_6 : (fun j => Int32.ofInt (st0 6 j)) = upd (upd (upd (upd (fun _ => 0) 0 1) 1 1) 2 1) 3 1 := e0_5
theorem e0_30 : (fun j => Int32.ofInt (st0 30 j)) = upd (upd (upd (upd (upd (upd (upd (upd (upd (upd (upd (upd (fun _ => 0) 0 0) 1 1) 2 1) 3 0) 4 1) 5 1) 6 100) 7 1) 8 1) 9 100) 10 1) 11 1 := by
  funext j
  rcases (show j = 0 ∨ j = 1 ∨ j = 2 ∨ j = 3 ∨ j = 4 ∨ j = 5 ∨ j = 6 ∨ j = 7 ∨ j = 8 ∨ j = 9 ∨ j = 10 ∨ j = 11 ∨ 12 ≤ j by omega) with rfl | rfl | rfl | rfl | rfl | rfl | rfl | rfl | rfl | rfl | rfl | rfl | h
  all_goals try rfl
  unfold upd
  show Int32.ofInt (if j < 12 then _ else 0) = _
  rw [if_neg (by omega), if_neg (by omega), if_neg (by omega), if_neg (by omega), if_neg (by omega), if_neg (by omega), if_neg (by omega), if_neg (by omega), if_neg (by omega), if_neg (by omega), if_neg (by omega), if_neg (by omega), if_neg (by omega)]
  rfl
theorem lw_row (wd : sy_D) (ad : Nat → Nat) : (Sum.inl (wd.2.2.2, 16, Sum.inr (Sum.inr (Sum.inr (Sum.inr (fun _ => none))))) : va_E) = sy_e wd ad 0 st0 2 := by
  show _ = Sum.inl (wd.2.2.2, 16, Sum.inr (Sum.inr (Sum.inr (Sum.inr fun j => if j < 0 then some (ad (sy_nS j)) else none))))
  refine congrArg (fun f => Sum.inl (wd.2.2.2, 16, Sum.inr (Sum.inr (Sum.inr (Sum.inr f))))) (funext fun j => ?_)
  rw [if_neg (Nat.not_lt_zero j)]
theorem lw_world (wd : sy_D) (x0 : Nat) (u : Nat → Nat) (m0 : Nat) (v : Nat → Nat) : [(x0, Sum.inr (8, [Value.ref (u 0), Value.ref (u 2), Value.ref (u 6), Value.ref (u 10), Value.ref (u 14), Value.ref (u 18)])), ((u 0), Sum.inr (7, [Value.ref (u 1), Value.int 0, Value.int 5])), ((u 1), Sum.inl (wd.2.2.2, 16, Sum.inr (Sum.inr (Sum.inr (Sum.inr (fun _ => none)))))), ((u 2), Sum.inr (3, [Value.ref (u 3), Value.ref (u 4), Value.ref (u 5), Value.int 1, Value.int 1])), ((u 3), Sum.inl (wd.2.1, 4, Sum.inl (upd (upd (fun _ => 0) 2 100) 3 100))), ((u 4), Sum.inl (wd.2.1, 4, Sum.inl (upd (upd (upd (upd (fun _ => 0) 0 1) 1 1) 2 1) 3 1))), ((u 5), Sum.inl (wd.2.1, 4, Sum.inl (upd (upd (upd (upd (fun _ => 0) 0 1) 1 1) 2 1) 3 1))), ((u 6), Sum.inr (5, [Value.ref (u 0), Value.ref (u 2), Value.ref (u 7), Value.int (-1), Value.int 0, Value.int 0, Value.int 0, Value.int 0, Value.int 0, Value.ref (u 8), Value.int (-1)])), ((u 7), Sum.inl (wd.2.1, 4096, Sum.inl (fun _ => 0))), ((u 8), Sum.inr (0, [Value.ref (u 9), Value.int 0, Value.int 0, Value.int 0])), ((u 9), Sum.inl (wd.2.1, 102, Sum.inl (fun _ => 0))), ((u 10), Sum.inr (2, [Value.ref (u 0), Value.ref (u 11), Value.ref (u 12), Value.int 0, Value.ref (u 13), Value.int 0, Value.int 0])), ((u 11), Sum.inl (wd.2.1, 32, Sum.inl (fun _ => 0))), ((u 12), Sum.inl (wd.2.1, 32, Sum.inl (fun _ => 0))), ((u 13), Sum.inl (wd.2.1, 32, Sum.inl (fun _ => 0))), ((u 14), Sum.inr (1, [Value.ref (u 0), Value.ref (u 15), Value.ref (u 16), Value.ref (u 17), Value.int 0, Value.int 10])), ((u 15), Sum.inl (wd.2.1, 10, Sum.inl (fun _ => 0))), ((u 16), Sum.inl (wd.2.1, 10, Sum.inl (fun _ => 0))), ((u 17), Sum.inl (wd.2.1, 10, Sum.inl (fun _ => 0))), ((u 18), Sum.inr (4, [Value.ref (u 0), Value.ref (u 19), Value.ref (u 20), Value.int 0, Value.ref (u 21), Value.ref (u 22), Value.int 0])), ((u 19), Sum.inl (wd.2.1, 16, Sum.inl (fun _ => 0))), ((u 20), Sum.inl (wd.2.1, 16, Sum.inl (fun _ => 0))), ((u 21), Sum.inl (wd.2.1, 256, Sum.inl (fun _ => 0))), ((u 22), Sum.inl (wd.2.1, 16, Sum.inl (fun _ => 0))), (m0, Sum.inr (9, [Value.int 5, Value.int 0, Value.ref (v 0), Value.ref (v 1), Value.ref (v 2), Value.ref (v 3), Value.ref (v 4), Value.ref (v 5), Value.int 0, Value.ref (v 6), Value.int 10, Value.int 0, Value.ref (v 7), Value.ref (v 8), Value.int 0, Value.ref (v 9), Value.ref (v 10), Value.ref (v 11), Value.int 0])), ((v 0), Sum.inl (wd.2.1, 16, Sum.inl (fun _ => 0))), ((v 1), Sum.inl (wd.2.1, 16, Sum.inl (fun _ => 0))), ((v 2), Sum.inl (wd.2.1, 16, Sum.inl (fun _ => 0))), ((v 3), Sum.inl (wd.2.1, 16, Sum.inl (fun _ => 0))), ((v 4), Sum.inl (wd.2.1, 64, Sum.inl (fun _ => 0))), ((v 5), Sum.inl (wd.2.1, 12, Sum.inl (upd (upd (upd (upd (upd (upd (upd (upd (upd (upd (upd (upd (fun _ => 0) 0 0) 1 1) 2 1) 3 0) 4 1) 5 1) 6 100) 7 1) 8 1) 9 100) 10 1) 11 1))), ((v 6), Sum.inl (wd.2.1, 30, Sum.inl (fun _ => 0))), ((v 7), Sum.inl (wd.2.2.1, 32, Sum.inr (Sum.inl (fun _ => 0)))), ((v 8), Sum.inl (wd.2.2.1, 32, Sum.inr (Sum.inl (fun _ => 0)))), ((v 9), Sum.inl (wd.2.1, 33, Sum.inl (fun _ => 0))), ((v 10), Sum.inl (wd.2.1, 16, Sum.inl (fun _ => 0))), ((v 11), Sum.inl (wd.2.1, 16, Sum.inl (fun _ => 0)))] = sy_wl wd (lw_ad x0 u m0 v) 0 st0 := by
  have hr : List.range (37 + 2 * 0) = [0, 1, 2, 3, 4, 5, 6, 7, 8, 9, 10, 11, 12, 13, 14, 15, 16, 17, 18, 19, 20, 21, 22, 23, 24, 25, 26, 27, 28, 29, 30, 31, 32, 33, 34, 35, 36] := rfl
  unfold sy_wl
  rw [hr]
  simp only [List.map]
  exact (lw_cons rfl rfl (lw_cons rfl rfl (lw_cons rfl (lw_row wd (lw_ad x0 u m0 v)) (lw_cons rfl rfl (lw_cons rfl (congrArg (fun f => Sum.inl (wd.2.1, 4, Sum.inl f)) e0_4.symm) (lw_cons rfl (congrArg (fun f => Sum.inl (wd.2.1, 4, Sum.inl f)) e0_5.symm) (lw_cons rfl (congrArg (fun f => Sum.inl (wd.2.1, 4, Sum.inl f)) e0_6.symm) (lw_cons rfl rfl (lw_cons rfl rfl (lw_cons rfl rfl (lw_cons rfl rfl (lw_cons rfl rfl (lw_cons rfl rfl (lw_cons rfl rfl (lw_cons rfl rfl (lw_cons rfl rfl (lw_cons rfl rfl (lw_cons rfl rfl (lw_cons rfl rfl (lw_cons rfl rfl (lw_cons rfl rfl (lw_cons rfl rfl (lw_cons rfl rfl (lw_cons rfl rfl (lw_cons rfl rfl (lw_cons rfl rfl (lw_cons rfl rfl (lw_cons rfl rfl (lw_cons rfl rfl (lw_cons rfl rfl (lw_cons rfl (congrArg (fun f => Sum.inl (wd.2.1, 12, Sum.inl f)) e0_30.symm) (lw_cons rfl rfl (lw_cons rfl rfl (lw_cons rfl rfl (lw_cons rfl rfl (lw_cons rfl rfl (lw_cons rfl rfl rfl)))))))))))))))))))))))))))))))))))))
theorem lw_over : Cond.arrayOver (.object R_6) ∈ lw_tbl := List.mem_of_getElem? (i := 72) (by decide +kernel)
theorem lw_skn : ∀ w ∈ sk_N, w ∈ lw_tbl := by decide +kernel
theorem lw_know {p : Program} {s : State} {m : MethodId} {meth : Method} {c : Code} {b L : Nat} {xs : Nat → Int32} (C0 : lw_At p s m meth c b L xs) : ∃ wd : sy_D, sk_K wd s ∧ sy_KK wd s := by
  obtain ⟨hx, hb, hr, hml, hown, hts0, hX, hbl, hlocks, hgv⟩ := C0
  have hts : ∀ w ∈ sy_tb, w.before #[Value.ref b] s = true := fun w hw => hts0 w (List.mem_filter.mp hw).1
  obtain ⟨c0, iS0, hKn0⟩ := u_known (C := R_0) (T := F_0) (N := 4) (n := 4) hts i_0 (hts (.instantiable R_0 4) (sy_inx 127 (by decide +kernel) (by decide +kernel)))
  obtain ⟨c1, iS1, hKn1⟩ := u_known (C := R_1) (T := F_1) (N := 6) (n := 6) hts i_1 (hts (.instantiable R_1 6) (sy_inx 211 (by decide +kernel) (by decide +kernel)))
  obtain ⟨c2, iS2, hKn2⟩ := u_known (C := R_2) (T := F_2) (N := 7) (n := 7) hts i_2 (hts (.instantiable R_2 7) (sy_inx 183 (by decide +kernel) (by decide +kernel)))
  obtain ⟨c3, iS3, hKn3⟩ := u_known (C := R_3) (T := F_3) (N := 5) (n := 5) hts i_3 (hts (.instantiable R_3 5) (sy_inx 92 (by decide +kernel) (by decide +kernel)))
  obtain ⟨c4, iS4, hKn4⟩ := u_known (C := R_4) (T := F_4) (N := 7) (n := 7) hts i_4 (hts (.instantiable R_4 7) (sy_inx 238 (by decide +kernel) (by decide +kernel)))
  obtain ⟨c5, iS5, hKn5⟩ := u_known (C := R_5) (T := F_5) (N := 11) (n := 11) hts i_5 (hts (.instantiable R_5 11) (sy_inx 121 (by decide +kernel) (by decide +kernel)))
  obtain ⟨c6, iS6, hKn6⟩ := u_known (C := R_6) (T := F_6) (N := 10) (n := 10) hts i_6 (hts (.instantiable R_6 10) (sy_inx 318 (by decide +kernel) (by decide +kernel)))
  obtain ⟨c7, iS7, hKn7⟩ := u_known (C := R_7) (T := F_7) (N := 3) (n := 3) hts i_7 (hts (.instantiable R_7 3) (sy_inx 66 (by decide +kernel) (by decide +kernel)))
  obtain ⟨c8, iS8, hKn8⟩ := u_known (C := R_8) (T := F_8) (N := 6) (n := 6) hts i_8 (hts (.instantiable R_8 6) (sy_inx 58 (by decide +kernel) (by decide +kernel)))
  obtain ⟨c9, iS9, hKn9⟩ := u_known (C := R_9) (T := F_9) (N := 19) (n := 19) hts i_9 (hts (.instantiable R_9 19) (sy_inx 791 (by decide +kernel) (by decide +kernel)))
  obtain ⟨cI, kI, oI, hI1, hI2, hI3⟩ := Cond.arrayClass_spec (type := .int) (hts (.arrayClass .int) (sy_inx 119 (by decide +kernel) (by decide +kernel)))
  obtain ⟨cJ, kJ, oJ, hJ1, hJ2, hJ3⟩ := Cond.arrayClass_spec (type := .long) (hts (.arrayClass .long) (sy_inx 854 (by decide +kernel) (by decide +kernel)))
  obtain ⟨oO, cO, kO, hO1, hO2, hO3, hO4, hO5⟩ := Cond.arrayOver_spec (n := R_6) (hts0 _ lw_over)
  let wd : sy_D := ((fun k => if k = 0 then c0 else if k = 1 then c1 else if k = 2 then c2 else if k = 3 then c3 else if k = 4 then c4 else if k = 5 then c5 else if k = 6 then c6 else if k = 7 then c7 else if k = 8 then c8 else c9, fun k => if k = 0 then iS0 else if k = 1 then iS1 else if k = 2 then iS2 else if k = 3 then iS3 else if k = 4 then iS4 else if k = 5 then iS5 else if k = 6 then iS6 else if k = 7 then iS7 else if k = 8 then iS8 else iS9), cI, cJ, cO)
  have hK : va_K wd.1 sy_cl (sk_ty wd) s := by
    refine ⟨fun k q hq => ?_, fun k q hq => ?_⟩
    · match k, hq with
      | 0, hq => cases hq; exact hKn0
      | 1, hq => cases hq; exact hKn1
      | 2, hq => cases hq; exact hKn2
      | 3, hq => cases hq; exact hKn3
      | 4, hq => cases hq; exact hKn4
      | 5, hq => cases hq; exact hKn5
      | 6, hq => cases hq; exact hKn6
      | 7, hq => cases hq; exact hKn7
      | 8, hq => cases hq; exact hKn8
      | 9, hq => cases hq; exact hKn9
      | k + 10, hq => simp [sy_cl] at hq
    · match k, hq with
      | 0, hq => cases hq; exact ⟨fun N z => ⟨(fun k h => by cases h), kI, hI2, oI, hI3⟩, hI1⟩
      | 1, hq => cases hq; exact ⟨fun N z => ⟨(fun k h => by cases h), kJ, hJ2, oJ, hJ3⟩, hJ1⟩
      | 2, hq => cases hq; exact ⟨fun N z => ⟨(fun k h => by cases h), kO, hO3, oO, hO4⟩, kO, oO, hO3, hO4, hO1, hO5⟩
      | k + 3, hq => simp [sk_ty] at hq
  refine ⟨wd, ⟨hK, va_AO.of (A := #[Value.ref b]) (hts0 _ lw_over), fun w hw => va_Nw.of (sk_N_on w hw) (hts0 w (lw_skn w hw))⟩, hK, fun w hw => va_Nw.of (sy_nw_on w hw) (hts0 w (sy_nw_in w hw))⟩
