/-! THE CLASS: its data; sites -/
def c_site (ns : Nat) (st : sy_S) : Prop := st 1 1 = ns ∧ ns ≤ 16
def c_rng (st : sy_S) : Prop := (1 ≤ st 1 2 ∧ st 1 2 ≤ 10) ∧ (∀ i, -2000 ≤ st (sy_nS i) 0 ∧ st (sy_nS i) 0 ≤ 2000) ∧ (∀ i, -5000 ≤ st (sy_nS i) 1 ∧ st (sy_nS i) 1 ≤ 5000) ∧ (∀ i, -50 ≤ st (sy_nS i) 4 ∧ st (sy_nS i) 4 ≤ 50) ∧ (∀ i, 0 ≤ st (sy_nS i) 5 ∧ st (sy_nS i) 5 ≤ 3) ∧ (∀ i k, 6 ≤ k → k ≤ 9 → -1000 ≤ st (sy_nS i) k ∧ st (sy_nS i) k ≤ 1000)
def c_F (st : sy_S) (r : Nat) : Int := st 4 r
def c_B (st : sy_S) (r : Nat) : Int := if r < 4 then st 5 r else 1
def c_N (st : sy_S) (r : Nat) : Int := if r < 4 then st 6 r else 1
def c_net (st : sy_S) : Prop := xg_net (c_F st) (c_B st) (c_N st) ∧ st 3 3 = c_N st 1 * c_N st 2 * c_N st 3 ∧ st 3 4 = c_N st 0 * st 3 3
/-- a place: of a tick at site i, by a speed -/
def c_at (st : sy_S) (i : Nat) (v t : Int) : Int := v * (t - st (sy_nS i) 4) - st (sy_nS i) 1
def c_tell (st : sy_S) (i : Nat) (kd a b c d : Int) : sy_S := sy_up (sy_up (sy_up (sy_up (sy_up st (sy_nS i) 5 kd) (sy_nS i) 6 a) (sy_nS i) 7 b) (sy_nS i) 8 c) (sy_nS i) 9 d
def sp_6_tell (ns : Nat) : sy_Sp := sy_k5 ns fun i kd a b c d st post => post none (c_tell st i kd a b c d)
def ct_6_tell (ns q : Nat) : Option (Bool × Nat × sy_Sp) := match q with
  | _ => none
abbrev M_6_tell (ns : Nat) : sy_M := Mk_6_tell (ct_6_tell ns)
theorem mv_6_tell (ns : Nat) : sy_MV c_6_tell y_6_tell.cls none (M_6_tell ns) := ⟨tv_6_tell, ff_6_ok, ki_6_ok, kl_6_ok⟩
abbrev rm_6_tell : Room := { frames := 0, cells := 0, slots := 0, locals := 0 }
theorem co_6_tell (l : Launch) : sy_calls l rm_6_tell y_6_tell.cls c_6_tell 6 (fun ns => (M_6_tell ns).2.2.2.2.1) := by
  intro p e s m args below meth c rt wd ad ns A Q X hA q b n sp h
  replace h : ct_6_tell ns q = some (b, n, sp) := h
  unfold ct_6_tell at h
  cases h
theorem rc_6_tell (ns : Nat) (as : List sy_V) (st : sy_S) (post : sy_R) (h : sp_6_tell ns as st post) : ∃ b as', as = .inr (.inr (some (some b))) :: as' ∧ sy_ob b = some 6 := sy_k5_r as st post h
theorem mc_6_tell (l : Launch) : sy_MC l y_6_tell c_6_tell 6 none rm_6_tell sp_6_tell := by
  refine sy_meth M_6_tell (by decide +kernel) mv_6_tell (co_6_tell l) ?_
  intro ns as st post WA h hok hrg ⟨hgo0, hin, hwk⟩
  have hgo : ∀ (n pc : Nat) (L k : List sy_V) (st : sy_S), rn_6_tell ns (ct_6_tell ns) post WA n pc L k st → WA pc L k st := fun n pc L k st h => hgo0 [] n pc L k st h
  replace h := sy_k5_e h hok
  obtain ⟨i, kd, a, b, c, d, rfl, hi, hkd, ha, hb, hc, hd, h⟩ := h
  refine ⟨Nat.le_of_ble_eq_true rfl, ?_⟩
  show WA 0 [.inr (.inr (some (some (sy_nS i)))), .inl (true, kd), .inl (true, a), .inl (true, b), .inl (true, c), .inl (true, d)] [] st
  refine hgo 100 _ _ _ _ ?_
  simp -implicitDefEqProofs only [↓rx_6_tell_0, ↓rx_6_tell_1, ↓rx_6_tell_2, ↓rx_6_tell_5, ↓rx_6_tell_6, ↓rx_6_tell_7, ↓rx_6_tell_10, ↓rx_6_tell_11, ↓rx_6_tell_12, ↓rx_6_tell_15, ↓rx_6_tell_16, ↓rx_6_tell_18, ↓rx_6_tell_21, ↓rx_6_tell_22, ↓rx_6_tell_24, ↓rx_6_tell_27, ↓sx_s1, ↓sx_s2, ↓sx_s3, ↓sx_s4, ↓sx_s5, ↓sx_s6, ↓sx_m0, ↓sx_m1, ↓sx_m2, ↓sx_m3, ↓sx_m4, ↓sx_m5, ↓sx_m6, ↓sx_k0_, ↓sx_k1_, ↓sx_k2_, ↓sx_k3_, ↓sx_k4_, ↓sx_k5_, ↓sx_k6_, ↓sx_sLL, ↓sx_sAI, ↓sx_mLL, ↓sx_mIIL, ↓sx_mIILL, ↓sx_mIILLL, ↓sx_qS, ↓sx_qSI, ↓sx_qSIII, sx_rit, sx_rif, sx_rlt, sx_rlf, sx_b0, sx_b1, sx_o0, sx_o1i, sx_o1a, sx_o1l, sx_o2, sx_g0, sx_g1, sx_k1, sx_k2, sx_k3, sx_f1, sx_f2, sx_f3, sx_w0, sx_w1, sx_w2, sx_w3, sx_ts, sx_tn, sx_up, sx_nS1, sx_nS2, sx_nW1, sx_nW2, sx_SW, sx_WS, sy_nS_inj, sy_nW_inj, sx_ob0, sx_ob1, sx_ob2, sx_ob3, sx_ob4, sx_ob5, sx_ob6, sx_ob7, sx_ob8, sx_ob9, sx_ob10, sx_ob11, sx_ob12, sx_ob13, sx_ob14, sx_ob15, sx_ob16, sx_ob17, sx_ob18, sx_ob19, sx_ob20, sx_ob21, sx_ob22, sx_ob23, sx_ob24, sx_ob25, sx_ob26, sx_ob27, sx_ob28, sx_ob29, sx_ob30, sx_ob31, sx_ob32, sx_ob33, sx_ob34, sx_ob35, sx_ob36, sx_fv0_0, sx_fv0_1, sx_fv0_2, sx_fv0_3, sx_fv0_4, sx_fv0_5, sx_fv1_0, sx_fv1_1, sx_fv1_2, sx_fv3_0, sx_fv3_1, sx_fv3_2, sx_fv3_3, sx_fv3_4, sx_fv7_0, sx_fv7_1, sx_fv7_2, sx_fv7_3, sx_fv7_4, sx_fv7_5, sx_fv7_6, sx_fv7_7, sx_fv7_8, sx_fv7_9, sx_fv7_10, sx_fv9_0, sx_fv9_1, sx_fv9_2, sx_fv9_3, sx_fv11_0, sx_fv11_1, sx_fv11_2, sx_fv11_3, sx_fv11_4, sx_fv11_5, sx_fv11_6, sx_fv15_0, sx_fv15_1, sx_fv15_2, sx_fv15_3, sx_fv15_4, sx_fv15_5, sx_fv19_0, sx_fv19_1, sx_fv19_2, sx_fv19_3, sx_fv19_4, sx_fv19_5, sx_fv19_6, sx_fv24_0, sx_fv24_1, sx_fv24_2, sx_fv24_3, sx_fv24_4, sx_fv24_5, sx_fv24_6, sx_fv24_7, sx_fv24_8, sx_fv24_9, sx_fv24_10, sx_fv24_11, sx_fv24_12, sx_fv24_13, sx_fv24_14, sx_fv24_15, sx_fv24_16, sx_fv24_17, sx_fv24_18, sx_fvS_0, sx_fvS_1, sx_fvS_2, sx_fvS_3, sx_fvS_4, sx_fvS_5, sx_fvS_6, sx_fvS_7, sx_fvS_8, sx_fvS_9, sx_ar2, sx_ar4, sx_ar5, sx_ar6, sx_ar8, sx_ar10, sx_ar12, sx_ar13, sx_ar14, sx_ar16, sx_ar17, sx_ar18, sx_ar20, sx_ar21, sx_ar22, sx_ar23, sx_ar25, sx_ar26, sx_ar27, sx_ar28, sx_ar29, sx_ar30, sx_ar31, sx_ar32, sx_ar33, sx_ar34, sx_ar35, sx_ar36, sy_ob_S, sy_ob_W, sy_ar_W, sx_if0, sx_if1, sx_ie0, sx_em, Classical.not_not, sx_cle, sx_clt, sx_cge, sx_cgt, sx_ceq, Nat.reduceLT, Nat.reduceLeDiff, Nat.reduceAdd, Nat.reduceSub, Nat.reduceEqDiff, reduceIte, List.length_cons, List.length_nil, true_and, and_true, and_self, Bool.false_eq_true, true_implies, not_true_eq_false, not_false_eq_true, false_implies, implies_true, ne_eq, reduceCtorEq, Option.some.injEq, false_and, and_false, Int.reduceNeg, Int.reduceToNat, Int.reduceLT, Int.reduceLE, Int.reduceEq, Int.reduceAdd, Int.reduceSub, Int.reduceMul, or_false, false_or, or_true, true_or, forall_const, Int.toNat_natCast, Int.toNat_zero, Int.toNat_one, Nat.zero_add, or_self, Int.neg_eq_zero]
  exact h
def sp_6_isChoosy (ns : Nat) : sy_Sp := sy_k0 ns fun i st post => post (some (.inl (true, if st (sy_nS i) 5 = 1 ∨ st (sy_nS i) 5 = 2 then 1 else 0))) st
def ct_6_isChoosy (ns q : Nat) : Option (Bool × Nat × sy_Sp) := match q with
  | _ => none
abbrev M_6_isChoosy (ns : Nat) : sy_M := Mk_6_isChoosy (ct_6_isChoosy ns)
theorem mv_6_isChoosy (ns : Nat) : sy_MV c_6_isChoosy y_6_isChoosy.cls (some .boolean) (M_6_isChoosy ns) := ⟨tv_6_isChoosy, ff_6_ok, ki_6_ok, kl_6_ok⟩
abbrev rm_6_isChoosy : Room := { frames := 0, cells := 0, slots := 0, locals := 0 }
theorem co_6_isChoosy (l : Launch) : sy_calls l rm_6_isChoosy y_6_isChoosy.cls c_6_isChoosy 1 (fun ns => (M_6_isChoosy ns).2.2.2.2.1) := by
  intro p e s m args below meth c rt wd ad ns A Q X hA q b n sp h
  replace h : ct_6_isChoosy ns q = some (b, n, sp) := h
  unfold ct_6_isChoosy at h
  cases h
theorem rc_6_isChoosy (ns : Nat) (as : List sy_V) (st : sy_S) (post : sy_R) (h : sp_6_isChoosy ns as st post) : ∃ b as', as = .inr (.inr (some (some b))) :: as' ∧ sy_ob b = some 6 := sy_k0_r as st post h
theorem mc_6_isChoosy (l : Launch) : sy_MC l y_6_isChoosy c_6_isChoosy 1 (some .boolean) rm_6_isChoosy sp_6_isChoosy := by
  refine sy_meth M_6_isChoosy (by decide +kernel) mv_6_isChoosy (co_6_isChoosy l) ?_
  intro ns as st post WA h hok hrg ⟨hgo0, hin, hwk⟩
  have hgo : ∀ (n pc : Nat) (L k : List sy_V) (st : sy_S), rn_6_isChoosy ns (ct_6_isChoosy ns) post WA n pc L k st → WA pc L k st := fun n pc L k st h => hgo0 [] n pc L k st h
  replace h := sy_k0_e h hok
  obtain ⟨i, rfl, hi, h⟩ := h
  refine ⟨Nat.le_of_ble_eq_true rfl, ?_⟩
  show WA 0 [.inr (.inr (some (some (sy_nS i))))] [] st
  refine hgo 100 _ _ _ _ ?_
  simp -implicitDefEqProofs only [↓rx_6_isChoosy_0, ↓rx_6_isChoosy_1, ↓rx_6_isChoosy_4, ↓rx_6_isChoosy_5, ↓rx_6_isChoosy_8, ↓rx_6_isChoosy_9, ↓rx_6_isChoosy_12, ↓rx_6_isChoosy_13, ↓rx_6_isChoosy_16, ↓rx_6_isChoosy_17, ↓rx_6_isChoosy_20, ↓rx_6_isChoosy_21, ↓sx_s1, ↓sx_s2, ↓sx_s3, ↓sx_s4, ↓sx_s5, ↓sx_s6, ↓sx_m0, ↓sx_m1, ↓sx_m2, ↓sx_m3, ↓sx_m4, ↓sx_m5, ↓sx_m6, ↓sx_k0_, ↓sx_k1_, ↓sx_k2_, ↓sx_k3_, ↓sx_k4_, ↓sx_k5_, ↓sx_k6_, ↓sx_sLL, ↓sx_sAI, ↓sx_mLL, ↓sx_mIIL, ↓sx_mIILL, ↓sx_mIILLL, ↓sx_qS, ↓sx_qSI, ↓sx_qSIII, sx_rit, sx_rif, sx_rlt, sx_rlf, sx_b0, sx_b1, sx_o0, sx_o1i, sx_o1a, sx_o1l, sx_o2, sx_g0, sx_g1, sx_k1, sx_k2, sx_k3, sx_f1, sx_f2, sx_f3, sx_w0, sx_w1, sx_w2, sx_w3, sx_ts, sx_tn, sx_up, sx_nS1, sx_nS2, sx_nW1, sx_nW2, sx_SW, sx_WS, sy_nS_inj, sy_nW_inj, sx_ob0, sx_ob1, sx_ob2, sx_ob3, sx_ob4, sx_ob5, sx_ob6, sx_ob7, sx_ob8, sx_ob9, sx_ob10, sx_ob11, sx_ob12, sx_ob13, sx_ob14, sx_ob15, sx_ob16, sx_ob17, sx_ob18, sx_ob19, sx_ob20, sx_ob21, sx_ob22, sx_ob23, sx_ob24, sx_ob25, sx_ob26, sx_ob27, sx_ob28, sx_ob29, sx_ob30, sx_ob31, sx_ob32, sx_ob33, sx_ob34, sx_ob35, sx_ob36, sx_fv0_0, sx_fv0_1, sx_fv0_2, sx_fv0_3, sx_fv0_4, sx_fv0_5, sx_fv1_0, sx_fv1_1, sx_fv1_2, sx_fv3_0, sx_fv3_1, sx_fv3_2, sx_fv3_3, sx_fv3_4, sx_fv7_0, sx_fv7_1, sx_fv7_2, sx_fv7_3, sx_fv7_4, sx_fv7_5, sx_fv7_6, sx_fv7_7, sx_fv7_8, sx_fv7_9, sx_fv7_10, sx_fv9_0, sx_fv9_1, sx_fv9_2, sx_fv9_3, sx_fv11_0, sx_fv11_1, sx_fv11_2, sx_fv11_3, sx_fv11_4, sx_fv11_5, sx_fv11_6, sx_fv15_0, sx_fv15_1, sx_fv15_2, sx_fv15_3, sx_fv15_4, sx_fv15_5, sx_fv19_0, sx_fv19_1, sx_fv19_2, sx_fv19_3, sx_fv19_4, sx_fv19_5, sx_fv19_6, sx_fv24_0, sx_fv24_1, sx_fv24_2, sx_fv24_3, sx_fv24_4, sx_fv24_5, sx_fv24_6, sx_fv24_7, sx_fv24_8, sx_fv24_9, sx_fv24_10, sx_fv24_11, sx_fv24_12, sx_fv24_13, sx_fv24_14, sx_fv24_15, sx_fv24_16, sx_fv24_17, sx_fv24_18, sx_fvS_0, sx_fvS_1, sx_fvS_2, sx_fvS_3, sx_fvS_4, sx_fvS_5, sx_fvS_6, sx_fvS_7, sx_fvS_8, sx_fvS_9, sx_ar2, sx_ar4, sx_ar5, sx_ar6, sx_ar8, sx_ar10, sx_ar12, sx_ar13, sx_ar14, sx_ar16, sx_ar17, sx_ar18, sx_ar20, sx_ar21, sx_ar22, sx_ar23, sx_ar25, sx_ar26, sx_ar27, sx_ar28, sx_ar29, sx_ar30, sx_ar31, sx_ar32, sx_ar33, sx_ar34, sx_ar35, sx_ar36, sy_ob_S, sy_ob_W, sy_ar_W, sx_if0, sx_if1, sx_ie0, sx_em, Classical.not_not, sx_cle, sx_clt, sx_cge, sx_cgt, sx_ceq, Nat.reduceLT, Nat.reduceLeDiff, Nat.reduceAdd, Nat.reduceSub, Nat.reduceEqDiff, reduceIte, List.length_cons, List.length_nil, true_and, and_true, and_self, Bool.false_eq_true, true_implies, not_true_eq_false, not_false_eq_true, false_implies, implies_true, ne_eq, reduceCtorEq, Option.some.injEq, false_and, and_false, Int.reduceNeg, Int.reduceToNat, Int.reduceLT, Int.reduceLE, Int.reduceEq, Int.reduceAdd, Int.reduceSub, Int.reduceMul, or_false, false_or, or_true, true_or, forall_const, Int.toNat_natCast, Int.toNat_zero, Int.toNat_one, Nat.zero_add, or_self, Int.neg_eq_zero]
  by_cases hC : st (sy_nS i) 5 = 1 ∨ st (sy_nS i) 5 = 2
  · rw [if_pos hC] at h
    (repeat' (first | assumption | apply And.intro | intro _)) <;> first | omega | (exfalso; omega) | contradiction
  · rw [if_neg hC] at h
    (repeat' (first | assumption | apply And.intro | intro _)) <;> first | omega | (exfalso; omega) | contradiction
theorem c_at_rng {st : sy_S} (h : c_rng st) (i : Nat) {v t : Int} (hv : 1 ≤ v ∧ v ≤ 10) (ht : -1000 ≤ t ∧ t ≤ 1000) : -15500 ≤ c_at st i v t ∧ c_at st i v t ≤ 15500 := by
  obtain ⟨h1, h2, h3, h4, h5, h6⟩ := h
  have a := h3 i
  have b := h4 i
  have := xg_mul_le (a := v) (b := t - st (sy_nS i) 4) (A := 10) (B := 1050) (by omega) (by omega)
  unfold c_at
  omega
def sp_6_placeOf (ns : Nat) : sy_Sp := sy_k2 ns fun i v t st post => (c_rng st ∧ (1 ≤ v ∧ v ≤ 10) ∧ (-1000 ≤ t ∧ t ≤ 1000)) ∧ post (some (.inl (true, c_at st i v t))) st
def ct_6_placeOf (ns q : Nat) : Option (Bool × Nat × sy_Sp) := match q with
  | _ => none
abbrev M_6_placeOf (ns : Nat) : sy_M := Mk_6_placeOf (ct_6_placeOf ns)
theorem mv_6_placeOf (ns : Nat) : sy_MV c_6_placeOf y_6_placeOf.cls (some .int) (M_6_placeOf ns) := ⟨tv_6_placeOf, ff_6_ok, ki_6_ok, kl_6_ok⟩
abbrev rm_6_placeOf : Room := { frames := 0, cells := 0, slots := 0, locals := 0 }
theorem co_6_placeOf (l : Launch) : sy_calls l rm_6_placeOf y_6_placeOf.cls c_6_placeOf 3 (fun ns => (M_6_placeOf ns).2.2.2.2.1) := by
  intro p e s m args below meth c rt wd ad ns A Q X hA q b n sp h
  replace h : ct_6_placeOf ns q = some (b, n, sp) := h
  unfold ct_6_placeOf at h
  cases h
theorem rc_6_placeOf (ns : Nat) (as : List sy_V) (st : sy_S) (post : sy_R) (h : sp_6_placeOf ns as st post) : ∃ b as', as = .inr (.inr (some (some b))) :: as' ∧ sy_ob b = some 6 := sy_k2_r as st post h
theorem mc_6_placeOf (l : Launch) : sy_MC l y_6_placeOf c_6_placeOf 3 (some .int) rm_6_placeOf sp_6_placeOf := by
  refine sy_meth M_6_placeOf (by decide +kernel) mv_6_placeOf (co_6_placeOf l) ?_
  intro ns as st post WA h hok hrg ⟨hgo0, hin, hwk⟩
  have hgo : ∀ (n pc : Nat) (L k : List sy_V) (st : sy_S), rn_6_placeOf ns (ct_6_placeOf ns) post WA n pc L k st → WA pc L k st := fun n pc L k st h => hgo0 [] n pc L k st h
  replace h := sy_k2_e h hok
  obtain ⟨i, v, t, rfl, hi, hv, ht, h⟩ := h
  refine ⟨Nat.le_of_ble_eq_true rfl, ?_⟩
  show WA 0 [.inr (.inr (some (some (sy_nS i)))), .inl (true, v), .inl (true, t)] [] st
  refine hgo 100 _ _ _ _ ?_
  simp -implicitDefEqProofs only [↓rx_6_placeOf_0, ↓rx_6_placeOf_1, ↓rx_6_placeOf_2, ↓rx_6_placeOf_3, ↓rx_6_placeOf_6, ↓rx_6_placeOf_7, ↓rx_6_placeOf_8, ↓rx_6_placeOf_9, ↓rx_6_placeOf_12, ↓rx_6_placeOf_13, ↓sx_s1, ↓sx_s2, ↓sx_s3, ↓sx_s4, ↓sx_s5, ↓sx_s6, ↓sx_m0, ↓sx_m1, ↓sx_m2, ↓sx_m3, ↓sx_m4, ↓sx_m5, ↓sx_m6, ↓sx_k0_, ↓sx_k1_, ↓sx_k2_, ↓sx_k3_, ↓sx_k4_, ↓sx_k5_, ↓sx_k6_, ↓sx_sLL, ↓sx_sAI, ↓sx_mLL, ↓sx_mIIL, ↓sx_mIILL, ↓sx_mIILLL, ↓sx_qS, ↓sx_qSI, ↓sx_qSIII, sx_rit, sx_rif, sx_rlt, sx_rlf, sx_b0, sx_b1, sx_o0, sx_o1i, sx_o1a, sx_o1l, sx_o2, sx_g0, sx_g1, sx_k1, sx_k2, sx_k3, sx_f1, sx_f2, sx_f3, sx_w0, sx_w1, sx_w2, sx_w3, sx_ts, sx_tn, sx_up, sx_nS1, sx_nS2, sx_nW1, sx_nW2, sx_SW, sx_WS, sy_nS_inj, sy_nW_inj, sx_ob0, sx_ob1, sx_ob2, sx_ob3, sx_ob4, sx_ob5, sx_ob6, sx_ob7, sx_ob8, sx_ob9, sx_ob10, sx_ob11, sx_ob12, sx_ob13, sx_ob14, sx_ob15, sx_ob16, sx_ob17, sx_ob18, sx_ob19, sx_ob20, sx_ob21, sx_ob22, sx_ob23, sx_ob24, sx_ob25, sx_ob26, sx_ob27, sx_ob28, sx_ob29, sx_ob30, sx_ob31, sx_ob32, sx_ob33, sx_ob34, sx_ob35, sx_ob36, sx_fv0_0, sx_fv0_1, sx_fv0_2, sx_fv0_3, sx_fv0_4, sx_fv0_5, sx_fv1_0, sx_fv1_1, sx_fv1_2, sx_fv3_0, sx_fv3_1, sx_fv3_2, sx_fv3_3, sx_fv3_4, sx_fv7_0, sx_fv7_1, sx_fv7_2, sx_fv7_3, sx_fv7_4, sx_fv7_5, sx_fv7_6, sx_fv7_7, sx_fv7_8, sx_fv7_9, sx_fv7_10, sx_fv9_0, sx_fv9_1, sx_fv9_2, sx_fv9_3, sx_fv11_0, sx_fv11_1, sx_fv11_2, sx_fv11_3, sx_fv11_4, sx_fv11_5, sx_fv11_6, sx_fv15_0, sx_fv15_1, sx_fv15_2, sx_fv15_3, sx_fv15_4, sx_fv15_5, sx_fv19_0, sx_fv19_1, sx_fv19_2, sx_fv19_3, sx_fv19_4, sx_fv19_5, sx_fv19_6, sx_fv24_0, sx_fv24_1, sx_fv24_2, sx_fv24_3, sx_fv24_4, sx_fv24_5, sx_fv24_6, sx_fv24_7, sx_fv24_8, sx_fv24_9, sx_fv24_10, sx_fv24_11, sx_fv24_12, sx_fv24_13, sx_fv24_14, sx_fv24_15, sx_fv24_16, sx_fv24_17, sx_fv24_18, sx_fvS_0, sx_fvS_1, sx_fvS_2, sx_fvS_3, sx_fvS_4, sx_fvS_5, sx_fvS_6, sx_fvS_7, sx_fvS_8, sx_fvS_9, sx_ar2, sx_ar4, sx_ar5, sx_ar6, sx_ar8, sx_ar10, sx_ar12, sx_ar13, sx_ar14, sx_ar16, sx_ar17, sx_ar18, sx_ar20, sx_ar21, sx_ar22, sx_ar23, sx_ar25, sx_ar26, sx_ar27, sx_ar28, sx_ar29, sx_ar30, sx_ar31, sx_ar32, sx_ar33, sx_ar34, sx_ar35, sx_ar36, sy_ob_S, sy_ob_W, sy_ar_W, sx_if0, sx_if1, sx_ie0, sx_em, Classical.not_not, sx_cle, sx_clt, sx_cge, sx_cgt, sx_ceq, Nat.reduceLT, Nat.reduceLeDiff, Nat.reduceAdd, Nat.reduceSub, Nat.reduceEqDiff, reduceIte, List.length_cons, List.length_nil, true_and, and_true, and_self, Bool.false_eq_true, true_implies, not_true_eq_false, not_false_eq_true, false_implies, implies_true, ne_eq, reduceCtorEq, Option.some.injEq, false_and, and_false, Int.reduceNeg, Int.reduceToNat, Int.reduceLT, Int.reduceLE, Int.reduceEq, Int.reduceAdd, Int.reduceSub, Int.reduceMul, or_false, false_or, or_true, true_or, forall_const, Int.toNat_natCast, Int.toNat_zero, Int.toNat_one, Nat.zero_add, or_self, Int.neg_eq_zero]
  obtain ⟨⟨hr, hv1, ht1⟩, h⟩ := h
  have := c_at_rng hr i hv1 ht1
  unfold c_at at this h
  exact ⟨⟨by omega, by omega⟩, h⟩
/-- the bounds of a report, by a speed and a doubled half width -/
def c_lo (st : sy_S) (i : Nat) (v w : Int) : Int := if w = -1 then 1 else if st (sy_nS i) 5 = 2 then 2 * (v * st (sy_nS i) 6 - st (sy_nS i) 1) - w else max (2 * (v * st (sy_nS i) 6 - st (sy_nS i) 1) + w) (2 * (v * st (sy_nS i) 8 - st (sy_nS i) 1) - w)
def c_hi (st : sy_S) (i : Nat) (v w : Int) : Int := if w = -1 then 0 else if st (sy_nS i) 5 = 2 then 2 * (v * st (sy_nS i) 7 - st (sy_nS i) 1) + w else min (2 * (v * st (sy_nS i) 7 - st (sy_nS i) 1) + w) (2 * (v * st (sy_nS i) 9 - st (sy_nS i) 1) - w)
theorem c_vt {st : sy_S} (h : c_rng st) (i k : Nat) {v : Int} (hv : 1 ≤ v ∧ v ≤ 10) (hk : 6 ≤ k ∧ k ≤ 9) : -15000 ≤ v * st (sy_nS i) k - st (sy_nS i) 1 ∧ v * st (sy_nS i) k - st (sy_nS i) 1 ≤ 15000 := by
  have a := h.2.2.1 i
  have b := h.2.2.2.2.2 i k hk.1 hk.2
  have := xg_mul_le (a := v) (b := st (sy_nS i) k) (A := 10) (B := 1000) (by omega) (by omega)
  omega
theorem c_lo_rng {st : sy_S} (h : c_rng st) (i : Nat) {v w : Int} (hv : 1 ≤ v ∧ v ≤ 10) (hw : -1 ≤ w ∧ w ≤ 4001) : -34010 ≤ c_lo st i v w ∧ c_lo st i v w ≤ 34010 := by
  have a := c_vt h i 6 hv (by omega)
  have b := c_vt h i 8 hv (by omega)
  unfold c_lo
  split
  · omega
  · split <;> omega
theorem c_hi_rng {st : sy_S} (h : c_rng st) (i : Nat) {v w : Int} (hv : 1 ≤ v ∧ v ≤ 10) (hw : -1 ≤ w ∧ w ≤ 4001) : -34010 ≤ c_hi st i v w ∧ c_hi st i v w ≤ 34010 := by
  have a := c_vt h i 7 hv (by omega)
  have b := c_vt h i 9 hv (by omega)
  unfold c_hi
  split
  · omega
  · split <;> omega
theorem x_max (x y : Int) : (if y ≤ x then x else y) = max x y := by split <;> omega
theorem x_min (x y : Int) : (if x ≤ y then x else y) = min x y := by split <;> omega
def sp_6_lowest (ns : Nat) : sy_Sp := sy_k2 ns fun i v w st post => (c_rng st ∧ (1 ≤ v ∧ v ≤ 10) ∧ (-1 ≤ w ∧ w ≤ 4001)) ∧ post (some (.inl (true, c_lo st i v w))) st
def ct_6_lowest (ns q : Nat) : Option (Bool × Nat × sy_Sp) := match q with
  | 42 => some (true, 2, sp_M_maxI ns)
  | _ => none
abbrev M_6_lowest (ns : Nat) : sy_M := Mk_6_lowest (ct_6_lowest ns)
theorem cx_6_lowest_42 {ns : Nat} {v1 v2 : sy_V} {r : List sy_V} {s : sy_S} {f : List sy_V → sy_S → Prop} : sy_call true (ct_6_lowest ns 42) (v2 :: v1 :: r) s f = (sy_wd r ≤ 8 ∧ (sy_fit v2 ∧ sy_fit v1) ∧ sp_M_maxI ns [sy_kn v1, sy_kn v2] s (fun q t => f (q.toList ++ r) t)) := sx_call2
theorem mv_6_lowest (ns : Nat) : sy_MV c_6_lowest y_6_lowest.cls (some .int) (M_6_lowest ns) := ⟨tv_6_lowest, ff_6_ok, ki_6_ok, kl_6_ok⟩
abbrev rm_6_lowest : Room := { frames := 1, cells := 0, slots := 0, locals := 21 }
theorem iw_M_maxI : Cond.code y_M_maxI c_M_maxI 2 (some .int) ∈ sy_tb ∧ Cond.initialized y_M_maxI.cls ∈ sy_tb ∧ (y_M_maxI.cls ≠ "java/lang/invoke/MethodHandle" ∧ y_M_maxI.cls ≠ "java/lang/invoke/VarHandle" ∧ (parseMethodDescriptor y_M_maxI.desc).map (fun d => d.parameters.length) = some 2) := ⟨sy_inx 461 (by decide +kernel) (by decide +kernel), sy_inx 55 (by decide +kernel) (by decide +kernel), by decide +kernel⟩
theorem is_M_maxI : Cond.static y_M_maxI ∈ sy_tb := sy_inx 460 (by decide +kernel) (by decide +kernel)
theorem co_6_lowest (l : Launch) : sy_calls l rm_6_lowest y_6_lowest.cls c_6_lowest 4 (fun ns => (M_6_lowest ns).2.2.2.2.1) := by
  intro p e s m args below meth c rt wd ad ns A Q X hA q b n sp h
  replace h : ct_6_lowest ns q = some (b, n, sp) := h
  unfold ct_6_lowest at h
  split at h
  · cases h; exact sy_coS X hA (mc_M_maxI l) ⟨iw_M_maxI.1, iw_M_maxI.2.1, iw_M_maxI.2.2, ⟨by decide, by decide⟩, rfl, rfl⟩ (sy_inx 506 (by decide +kernel) (by decide +kernel)) is_M_maxI
  · cases h
theorem rc_6_lowest (ns : Nat) (as : List sy_V) (st : sy_S) (post : sy_R) (h : sp_6_lowest ns as st post) : ∃ b as', as = .inr (.inr (some (some b))) :: as' ∧ sy_ob b = some 6 := sy_k2_r as st post h
theorem mc_6_lowest (l : Launch) : sy_MC l y_6_lowest c_6_lowest 4 (some .int) rm_6_lowest sp_6_lowest := by
  refine sy_meth M_6_lowest (by decide +kernel) mv_6_lowest (co_6_lowest l) ?_
  intro ns as st post WA h hok hrg ⟨hgo0, hin, hwk⟩
  have hgo : ∀ (n pc : Nat) (L k : List sy_V) (st : sy_S), rn_6_lowest ns (ct_6_lowest ns) post WA n pc L k st → WA pc L k st := fun n pc L k st h => hgo0 [] n pc L k st h
  replace h := sy_k2_e h hok
  obtain ⟨i, v, w, rfl, hi, hv, hw, h⟩ := h
  refine ⟨Nat.le_of_ble_eq_true rfl, ?_⟩
  show WA 0 [.inr (.inr (some (some (sy_nS i)))), .inl (true, v), .inl (true, w), .inr (.inr none)] [] st
  refine hgo 100 _ _ _ _ ?_
  simp -implicitDefEqProofs only [↓rx_6_lowest_0, ↓rx_6_lowest_1, ↓rx_6_lowest_2, ↓rx_6_lowest_5, ↓rx_6_lowest_6, ↓rx_6_lowest_7, ↓rx_6_lowest_8, ↓rx_6_lowest_9, ↓rx_6_lowest_10, ↓rx_6_lowest_13, ↓rx_6_lowest_14, ↓rx_6_lowest_15, ↓rx_6_lowest_18, ↓rx_6_lowest_19, ↓rx_6_lowest_20, ↓rx_6_lowest_21, ↓rx_6_lowest_22, ↓rx_6_lowest_25, ↓rx_6_lowest_26, ↓rx_6_lowest_29, ↓rx_6_lowest_30, ↓rx_6_lowest_31, ↓rx_6_lowest_32, ↓rx_6_lowest_33, ↓rx_6_lowest_34, ↓rx_6_lowest_35, ↓rx_6_lowest_36, ↓rx_6_lowest_37, ↓rx_6_lowest_38, ↓rx_6_lowest_39, ↓rx_6_lowest_42, ↓rx_6_lowest_43, ↓rx_6_lowest_44, ↓rx_6_lowest_47, ↓rx_6_lowest_48, ↓rx_6_lowest_49, ↓rx_6_lowest_50, ↓rx_6_lowest_51, ↓rx_6_lowest_54, ↓cx_6_lowest_42, sp_M_maxI, x_max, ↓sx_s1, ↓sx_s2, ↓sx_s3, ↓sx_s4, ↓sx_s5, ↓sx_s6, ↓sx_m0, ↓sx_m1, ↓sx_m2, ↓sx_m3, ↓sx_m4, ↓sx_m5, ↓sx_m6, ↓sx_k0_, ↓sx_k1_, ↓sx_k2_, ↓sx_k3_, ↓sx_k4_, ↓sx_k5_, ↓sx_k6_, ↓sx_sLL, ↓sx_sAI, ↓sx_mLL, ↓sx_mIIL, ↓sx_mIILL, ↓sx_mIILLL, ↓sx_qS, ↓sx_qSI, ↓sx_qSIII, sx_rit, sx_rif, sx_rlt, sx_rlf, sx_b0, sx_b1, sx_o0, sx_o1i, sx_o1a, sx_o1l, sx_o2, sx_g0, sx_g1, sx_k1, sx_k2, sx_k3, sx_f1, sx_f2, sx_f3, sx_w0, sx_w1, sx_w2, sx_w3, sx_ts, sx_tn, sx_up, sx_nS1, sx_nS2, sx_nW1, sx_nW2, sx_SW, sx_WS, sy_nS_inj, sy_nW_inj, sx_ob0, sx_ob1, sx_ob2, sx_ob3, sx_ob4, sx_ob5, sx_ob6, sx_ob7, sx_ob8, sx_ob9, sx_ob10, sx_ob11, sx_ob12, sx_ob13, sx_ob14, sx_ob15, sx_ob16, sx_ob17, sx_ob18, sx_ob19, sx_ob20, sx_ob21, sx_ob22, sx_ob23, sx_ob24, sx_ob25, sx_ob26, sx_ob27, sx_ob28, sx_ob29, sx_ob30, sx_ob31, sx_ob32, sx_ob33, sx_ob34, sx_ob35, sx_ob36, sx_fv0_0, sx_fv0_1, sx_fv0_2, sx_fv0_3, sx_fv0_4, sx_fv0_5, sx_fv1_0, sx_fv1_1, sx_fv1_2, sx_fv3_0, sx_fv3_1, sx_fv3_2, sx_fv3_3, sx_fv3_4, sx_fv7_0, sx_fv7_1, sx_fv7_2, sx_fv7_3, sx_fv7_4, sx_fv7_5, sx_fv7_6, sx_fv7_7, sx_fv7_8, sx_fv7_9, sx_fv7_10, sx_fv9_0, sx_fv9_1, sx_fv9_2, sx_fv9_3, sx_fv11_0, sx_fv11_1, sx_fv11_2, sx_fv11_3, sx_fv11_4, sx_fv11_5, sx_fv11_6, sx_fv15_0, sx_fv15_1, sx_fv15_2, sx_fv15_3, sx_fv15_4, sx_fv15_5, sx_fv19_0, sx_fv19_1, sx_fv19_2, sx_fv19_3, sx_fv19_4, sx_fv19_5, sx_fv19_6, sx_fv24_0, sx_fv24_1, sx_fv24_2, sx_fv24_3, sx_fv24_4, sx_fv24_5, sx_fv24_6, sx_fv24_7, sx_fv24_8, sx_fv24_9, sx_fv24_10, sx_fv24_11, sx_fv24_12, sx_fv24_13, sx_fv24_14, sx_fv24_15, sx_fv24_16, sx_fv24_17, sx_fv24_18, sx_fvS_0, sx_fvS_1, sx_fvS_2, sx_fvS_3, sx_fvS_4, sx_fvS_5, sx_fvS_6, sx_fvS_7, sx_fvS_8, sx_fvS_9, sx_ar2, sx_ar4, sx_ar5, sx_ar6, sx_ar8, sx_ar10, sx_ar12, sx_ar13, sx_ar14, sx_ar16, sx_ar17, sx_ar18, sx_ar20, sx_ar21, sx_ar22, sx_ar23, sx_ar25, sx_ar26, sx_ar27, sx_ar28, sx_ar29, sx_ar30, sx_ar31, sx_ar32, sx_ar33, sx_ar34, sx_ar35, sx_ar36, sy_ob_S, sy_ob_W, sy_ar_W, sx_if0, sx_if1, sx_ie0, sx_em, Classical.not_not, sx_cle, sx_clt, sx_cge, sx_cgt, sx_ceq, Nat.reduceLT, Nat.reduceLeDiff, Nat.reduceAdd, Nat.reduceSub, Nat.reduceEqDiff, reduceIte, List.length_cons, List.length_nil, true_and, and_true, and_self, Bool.false_eq_true, true_implies, not_true_eq_false, not_false_eq_true, false_implies, implies_true, ne_eq, reduceCtorEq, Option.some.injEq, false_and, and_false, Int.reduceNeg, Int.reduceToNat, Int.reduceLT, Int.reduceLE, Int.reduceEq, Int.reduceAdd, Int.reduceSub, Int.reduceMul, or_false, false_or, or_true, true_or, forall_const, Int.toNat_natCast, Int.toNat_zero, Int.toNat_one, Nat.zero_add, or_self, Int.neg_eq_zero]
  obtain ⟨⟨hr, hv1, hw1⟩, h⟩ := h
  have a := c_vt hr i 6 hv1 (by omega)
  have b := c_vt hr i 8 hv1 (by omega)
  have hl := c_lo_rng hr i hv1 hw1
  unfold c_lo at h hl
  refine ⟨fun c => ⟨⟨by omega, by omega⟩, fun c2 => ⟨⟨⟨by omega, by omega⟩, ⟨by omega, by omega⟩⟩, ?_⟩, fun c2 => ⟨⟨by omega, by omega⟩, ?_⟩⟩, fun c => ?_⟩
  · rwa [if_neg c, if_neg c2] at h
  · rwa [if_neg c, if_pos c2] at h
  · rwa [if_pos c] at h
def sp_6_highest (ns : Nat) : sy_Sp := sy_k2 ns fun i v w st post => (c_rng st ∧ (1 ≤ v ∧ v ≤ 10) ∧ (-1 ≤ w ∧ w ≤ 4001)) ∧ post (some (.inl (true, c_hi st i v w))) st
def ct_6_highest (ns q : Nat) : Option (Bool × Nat × sy_Sp) := match q with
  | 48 => some (true, 2, sp_M_minI ns)
  | _ => none
abbrev M_6_highest (ns : Nat) : sy_M := Mk_6_highest (ct_6_highest ns)
theorem cx_6_highest_48 {ns : Nat} {v1 v2 : sy_V} {r : List sy_V} {s : sy_S} {f : List sy_V → sy_S → Prop} : sy_call true (ct_6_highest ns 48) (v2 :: v1 :: r) s f = (sy_wd r ≤ 8 ∧ (sy_fit v2 ∧ sy_fit v1) ∧ sp_M_minI ns [sy_kn v1, sy_kn v2] s (fun q t => f (q.toList ++ r) t)) := sx_call2
theorem mv_6_highest (ns : Nat) : sy_MV c_6_highest y_6_highest.cls (some .int) (M_6_highest ns) := ⟨tv_6_highest, ff_6_ok, ki_6_ok, kl_6_ok⟩
abbrev rm_6_highest : Room := { frames := 1, cells := 0, slots := 0, locals := 21 }
theorem iw_M_minI : Cond.code y_M_minI c_M_minI 2 (some .int) ∈ sy_tb ∧ Cond.initialized y_M_minI.cls ∈ sy_tb ∧ (y_M_minI.cls ≠ "java/lang/invoke/MethodHandle" ∧ y_M_minI.cls ≠ "java/lang/invoke/VarHandle" ∧ (parseMethodDescriptor y_M_minI.desc).map (fun d => d.parameters.length) = some 2) := ⟨sy_inx 513 (by decide +kernel) (by decide +kernel), sy_inx 55 (by decide +kernel) (by decide +kernel), by decide +kernel⟩
theorem is_M_minI : Cond.static y_M_minI ∈ sy_tb := sy_inx 512 (by decide +kernel) (by decide +kernel)
theorem co_6_highest (l : Launch) : sy_calls l rm_6_highest y_6_highest.cls c_6_highest 4 (fun ns => (M_6_highest ns).2.2.2.2.1) := by
  intro p e s m args below meth c rt wd ad ns A Q X hA q b n sp h
  replace h : ct_6_highest ns q = some (b, n, sp) := h
  unfold ct_6_highest at h
  split at h
  · cases h; exact sy_coS X hA (mc_M_minI l) ⟨iw_M_minI.1, iw_M_minI.2.1, iw_M_minI.2.2, ⟨by decide, by decide⟩, rfl, rfl⟩ (sy_inx 511 (by decide +kernel) (by decide +kernel)) is_M_minI
  · cases h
theorem rc_6_highest (ns : Nat) (as : List sy_V) (st : sy_S) (post : sy_R) (h : sp_6_highest ns as st post) : ∃ b as', as = .inr (.inr (some (some b))) :: as' ∧ sy_ob b = some 6 := sy_k2_r as st post h
theorem mc_6_highest (l : Launch) : sy_MC l y_6_highest c_6_highest 4 (some .int) rm_6_highest sp_6_highest := by
  refine sy_meth M_6_highest (by decide +kernel) mv_6_highest (co_6_highest l) ?_
  intro ns as st post WA h hok hrg ⟨hgo0, hin, hwk⟩
  have hgo : ∀ (n pc : Nat) (L k : List sy_V) (st : sy_S), rn_6_highest ns (ct_6_highest ns) post WA n pc L k st → WA pc L k st := fun n pc L k st h => hgo0 [] n pc L k st h
  replace h := sy_k2_e h hok
  obtain ⟨i, v, w, rfl, hi, hv, hw, h⟩ := h
  refine ⟨Nat.le_of_ble_eq_true rfl, ?_⟩
  show WA 0 [.inr (.inr (some (some (sy_nS i)))), .inl (true, v), .inl (true, w), .inr (.inr none)] [] st
  refine hgo 100 _ _ _ _ ?_
  simp -implicitDefEqProofs only [↓rx_6_highest_0, ↓rx_6_highest_1, ↓rx_6_highest_2, ↓rx_6_highest_5, ↓rx_6_highest_6, ↓rx_6_highest_7, ↓rx_6_highest_8, ↓rx_6_highest_9, ↓rx_6_highest_10, ↓rx_6_highest_13, ↓rx_6_highest_14, ↓rx_6_highest_15, ↓rx_6_highest_18, ↓rx_6_highest_19, ↓rx_6_highest_20, ↓rx_6_highest_21, ↓rx_6_highest_22, ↓rx_6_highest_25, ↓rx_6_highest_26, ↓rx_6_highest_29, ↓rx_6_highest_30, ↓rx_6_highest_31, ↓rx_6_highest_32, ↓rx_6_highest_33, ↓rx_6_highest_34, ↓rx_6_highest_35, ↓rx_6_highest_36, ↓rx_6_highest_37, ↓rx_6_highest_38, ↓rx_6_highest_39, ↓rx_6_highest_42, ↓rx_6_highest_43, ↓rx_6_highest_44, ↓rx_6_highest_47, ↓rx_6_highest_48, ↓rx_6_highest_49, ↓rx_6_highest_50, ↓rx_6_highest_51, ↓rx_6_highest_54, ↓cx_6_highest_48, sp_M_minI, x_min, ↓sx_s1, ↓sx_s2, ↓sx_s3, ↓sx_s4, ↓sx_s5, ↓sx_s6, ↓sx_m0, ↓sx_m1, ↓sx_m2, ↓sx_m3, ↓sx_m4, ↓sx_m5, ↓sx_m6, ↓sx_k0_, ↓sx_k1_, ↓sx_k2_, ↓sx_k3_, ↓sx_k4_, ↓sx_k5_, ↓sx_k6_, ↓sx_sLL, ↓sx_sAI, ↓sx_mLL, ↓sx_mIIL, ↓sx_mIILL, ↓sx_mIILLL, ↓sx_qS, ↓sx_qSI, ↓sx_qSIII, sx_rit, sx_rif, sx_rlt, sx_rlf, sx_b0, sx_b1, sx_o0, sx_o1i, sx_o1a, sx_o1l, sx_o2, sx_g0, sx_g1, sx_k1, sx_k2, sx_k3, sx_f1, sx_f2, sx_f3, sx_w0, sx_w1, sx_w2, sx_w3, sx_ts, sx_tn, sx_up, sx_nS1, sx_nS2, sx_nW1, sx_nW2, sx_SW, sx_WS, sy_nS_inj, sy_nW_inj, sx_ob0, sx_ob1, sx_ob2, sx_ob3, sx_ob4, sx_ob5, sx_ob6, sx_ob7, sx_ob8, sx_ob9, sx_ob10, sx_ob11, sx_ob12, sx_ob13, sx_ob14, sx_ob15, sx_ob16, sx_ob17, sx_ob18, sx_ob19, sx_ob20, sx_ob21, sx_ob22, sx_ob23, sx_ob24, sx_ob25, sx_ob26, sx_ob27, sx_ob28, sx_ob29, sx_ob30, sx_ob31, sx_ob32, sx_ob33, sx_ob34, sx_ob35, sx_ob36, sx_fv0_0, sx_fv0_1, sx_fv0_2, sx_fv0_3, sx_fv0_4, sx_fv0_5, sx_fv1_0, sx_fv1_1, sx_fv1_2, sx_fv3_0, sx_fv3_1, sx_fv3_2, sx_fv3_3, sx_fv3_4, sx_fv7_0, sx_fv7_1, sx_fv7_2, sx_fv7_3, sx_fv7_4, sx_fv7_5, sx_fv7_6, sx_fv7_7, sx_fv7_8, sx_fv7_9, sx_fv7_10, sx_fv9_0, sx_fv9_1, sx_fv9_2, sx_fv9_3, sx_fv11_0, sx_fv11_1, sx_fv11_2, sx_fv11_3, sx_fv11_4, sx_fv11_5, sx_fv11_6, sx_fv15_0, sx_fv15_1, sx_fv15_2, sx_fv15_3, sx_fv15_4, sx_fv15_5, sx_fv19_0, sx_fv19_1, sx_fv19_2, sx_fv19_3, sx_fv19_4, sx_fv19_5, sx_fv19_6, sx_fv24_0, sx_fv24_1, sx_fv24_2, sx_fv24_3, sx_fv24_4, sx_fv24_5, sx_fv24_6, sx_fv24_7, sx_fv24_8, sx_fv24_9, sx_fv24_10, sx_fv24_11, sx_fv24_12, sx_fv24_13, sx_fv24_14, sx_fv24_15, sx_fv24_16, sx_fv24_17, sx_fv24_18, sx_fvS_0, sx_fvS_1, sx_fvS_2, sx_fvS_3, sx_fvS_4, sx_fvS_5, sx_fvS_6, sx_fvS_7, sx_fvS_8, sx_fvS_9, sx_ar2, sx_ar4, sx_ar5, sx_ar6, sx_ar8, sx_ar10, sx_ar12, sx_ar13, sx_ar14, sx_ar16, sx_ar17, sx_ar18, sx_ar20, sx_ar21, sx_ar22, sx_ar23, sx_ar25, sx_ar26, sx_ar27, sx_ar28, sx_ar29, sx_ar30, sx_ar31, sx_ar32, sx_ar33, sx_ar34, sx_ar35, sx_ar36, sy_ob_S, sy_ob_W, sy_ar_W, sx_if0, sx_if1, sx_ie0, sx_em, Classical.not_not, sx_cle, sx_clt, sx_cge, sx_cgt, sx_ceq, Nat.reduceLT, Nat.reduceLeDiff, Nat.reduceAdd, Nat.reduceSub, Nat.reduceEqDiff, reduceIte, List.length_cons, List.length_nil, true_and, and_true, and_self, Bool.false_eq_true, true_implies, not_true_eq_false, not_false_eq_true, false_implies, implies_true, ne_eq, reduceCtorEq, Option.some.injEq, false_and, and_false, Int.reduceNeg, Int.reduceToNat, Int.reduceLT, Int.reduceLE, Int.reduceEq, Int.reduceAdd, Int.reduceSub, Int.reduceMul, or_false, false_or, or_true, true_or, forall_const, Int.toNat_natCast, Int.toNat_zero, Int.toNat_one, Nat.zero_add, or_self, Int.neg_eq_zero]
  obtain ⟨⟨hr, hv1, hw1⟩, h⟩ := h
  have a := c_vt hr i 7 hv1 (by omega)
  have b := c_vt hr i 9 hv1 (by omega)
  unfold c_hi at h
  refine ⟨fun c => ⟨⟨by omega, by omega⟩, fun c2 => ⟨⟨⟨by omega, by omega⟩, ⟨by omega, by omega⟩⟩, ?_⟩, fun c2 => ⟨⟨by omega, by omega⟩, ?_⟩⟩, fun c => ?_⟩
  · rwa [if_neg c, if_neg c2] at h
  · rwa [if_neg c, if_pos c2] at h
  · rwa [if_pos c] at h
/-- whether a report allows m -/
def c_al (kd m lo hi : Int) : Bool := if kd = 1 then decide (lo ≤ m ∧ m ≤ hi) else if kd = 2 then decide (m ≤ lo ∨ hi ≤ m) else true
def sp_6_allows (ns : Nat) : sy_Sp := sy_k3 ns fun i m lo hi st post => post (some (.inl (true, if c_al (st (sy_nS i) 5) m lo hi = true then 1 else 0))) st
def ct_6_allows (ns q : Nat) : Option (Bool × Nat × sy_Sp) := match q with
  | _ => none
abbrev M_6_allows (ns : Nat) : sy_M := Mk_6_allows (ct_6_allows ns)
theorem mv_6_allows (ns : Nat) : sy_MV c_6_allows y_6_allows.cls (some .boolean) (M_6_allows ns) := ⟨tv_6_allows, ff_6_ok, ki_6_ok, kl_6_ok⟩
abbrev rm_6_allows : Room := { frames := 0, cells := 0, slots := 0, locals := 0 }
theorem co_6_allows (l : Launch) : sy_calls l rm_6_allows y_6_allows.cls c_6_allows 4 (fun ns => (M_6_allows ns).2.2.2.2.1) := by
  intro p e s m args below meth c rt wd ad ns A Q X hA q b n sp h
  replace h : ct_6_allows ns q = some (b, n, sp) := h
  unfold ct_6_allows at h
  cases h
theorem rc_6_allows (ns : Nat) (as : List sy_V) (st : sy_S) (post : sy_R) (h : sp_6_allows ns as st post) : ∃ b as', as = .inr (.inr (some (some b))) :: as' ∧ sy_ob b = some 6 := sy_k3_r as st post h
theorem mc_6_allows (l : Launch) : sy_MC l y_6_allows c_6_allows 4 (some .boolean) rm_6_allows sp_6_allows := by
  refine sy_meth M_6_allows (by decide +kernel) mv_6_allows (co_6_allows l) ?_
  intro ns as st post WA h hok hrg ⟨hgo0, hin, hwk⟩
  have hgo : ∀ (n pc : Nat) (L k : List sy_V) (st : sy_S), rn_6_allows ns (ct_6_allows ns) post WA n pc L k st → WA pc L k st := fun n pc L k st h => hgo0 [] n pc L k st h
  replace h := sy_k3_e h hok
  obtain ⟨i, m, lo, up, rfl, hi, hm, hlo, hup, h⟩ := h
  refine ⟨Nat.le_of_ble_eq_true rfl, ?_⟩
  show WA 0 [.inr (.inr (some (some (sy_nS i)))), .inl (true, m), .inl (true, lo), .inl (true, up)] [] st
  refine hgo 100 _ _ _ _ ?_
  simp -implicitDefEqProofs only [↓rx_6_allows_0, ↓rx_6_allows_1, ↓rx_6_allows_4, ↓rx_6_allows_5, ↓rx_6_allows_8, ↓rx_6_allows_9, ↓rx_6_allows_10, ↓rx_6_allows_13, ↓rx_6_allows_14, ↓rx_6_allows_15, ↓rx_6_allows_18, ↓rx_6_allows_19, ↓rx_6_allows_22, ↓rx_6_allows_23, ↓rx_6_allows_24, ↓rx_6_allows_25, ↓rx_6_allows_28, ↓rx_6_allows_29, ↓rx_6_allows_32, ↓rx_6_allows_33, ↓rx_6_allows_34, ↓rx_6_allows_37, ↓rx_6_allows_38, ↓rx_6_allows_39, ↓rx_6_allows_42, ↓rx_6_allows_43, ↓rx_6_allows_46, ↓rx_6_allows_47, ↓sx_s1, ↓sx_s2, ↓sx_s3, ↓sx_s4, ↓sx_s5, ↓sx_s6, ↓sx_m0, ↓sx_m1, ↓sx_m2, ↓sx_m3, ↓sx_m4, ↓sx_m5, ↓sx_m6, ↓sx_k0_, ↓sx_k1_, ↓sx_k2_, ↓sx_k3_, ↓sx_k4_, ↓sx_k5_, ↓sx_k6_, ↓sx_sLL, ↓sx_sAI, ↓sx_mLL, ↓sx_mIIL, ↓sx_mIILL, ↓sx_mIILLL, ↓sx_qS, ↓sx_qSI, ↓sx_qSIII, sx_rit, sx_rif, sx_rlt, sx_rlf, sx_b0, sx_b1, sx_o0, sx_o1i, sx_o1a, sx_o1l, sx_o2, sx_g0, sx_g1, sx_k1, sx_k2, sx_k3, sx_f1, sx_f2, sx_f3, sx_w0, sx_w1, sx_w2, sx_w3, sx_ts, sx_tn, sx_up, sx_nS1, sx_nS2, sx_nW1, sx_nW2, sx_SW, sx_WS, sy_nS_inj, sy_nW_inj, sx_ob0, sx_ob1, sx_ob2, sx_ob3, sx_ob4, sx_ob5, sx_ob6, sx_ob7, sx_ob8, sx_ob9, sx_ob10, sx_ob11, sx_ob12, sx_ob13, sx_ob14, sx_ob15, sx_ob16, sx_ob17, sx_ob18, sx_ob19, sx_ob20, sx_ob21, sx_ob22, sx_ob23, sx_ob24, sx_ob25, sx_ob26, sx_ob27, sx_ob28, sx_ob29, sx_ob30, sx_ob31, sx_ob32, sx_ob33, sx_ob34, sx_ob35, sx_ob36, sx_fv0_0, sx_fv0_1, sx_fv0_2, sx_fv0_3, sx_fv0_4, sx_fv0_5, sx_fv1_0, sx_fv1_1, sx_fv1_2, sx_fv3_0, sx_fv3_1, sx_fv3_2, sx_fv3_3, sx_fv3_4, sx_fv7_0, sx_fv7_1, sx_fv7_2, sx_fv7_3, sx_fv7_4, sx_fv7_5, sx_fv7_6, sx_fv7_7, sx_fv7_8, sx_fv7_9, sx_fv7_10, sx_fv9_0, sx_fv9_1, sx_fv9_2, sx_fv9_3, sx_fv11_0, sx_fv11_1, sx_fv11_2, sx_fv11_3, sx_fv11_4, sx_fv11_5, sx_fv11_6, sx_fv15_0, sx_fv15_1, sx_fv15_2, sx_fv15_3, sx_fv15_4, sx_fv15_5, sx_fv19_0, sx_fv19_1, sx_fv19_2, sx_fv19_3, sx_fv19_4, sx_fv19_5, sx_fv19_6, sx_fv24_0, sx_fv24_1, sx_fv24_2, sx_fv24_3, sx_fv24_4, sx_fv24_5, sx_fv24_6, sx_fv24_7, sx_fv24_8, sx_fv24_9, sx_fv24_10, sx_fv24_11, sx_fv24_12, sx_fv24_13, sx_fv24_14, sx_fv24_15, sx_fv24_16, sx_fv24_17, sx_fv24_18, sx_fvS_0, sx_fvS_1, sx_fvS_2, sx_fvS_3, sx_fvS_4, sx_fvS_5, sx_fvS_6, sx_fvS_7, sx_fvS_8, sx_fvS_9, sx_ar2, sx_ar4, sx_ar5, sx_ar6, sx_ar8, sx_ar10, sx_ar12, sx_ar13, sx_ar14, sx_ar16, sx_ar17, sx_ar18, sx_ar20, sx_ar21, sx_ar22, sx_ar23, sx_ar25, sx_ar26, sx_ar27, sx_ar28, sx_ar29, sx_ar30, sx_ar31, sx_ar32, sx_ar33, sx_ar34, sx_ar35, sx_ar36, sy_ob_S, sy_ob_W, sy_ar_W, sx_if0, sx_if1, sx_ie0, sx_em, Classical.not_not, sx_cle, sx_clt, sx_cge, sx_cgt, sx_ceq, Nat.reduceLT, Nat.reduceLeDiff, Nat.reduceAdd, Nat.reduceSub, Nat.reduceEqDiff, reduceIte, List.length_cons, List.length_nil, true_and, and_true, and_self, Bool.false_eq_true, true_implies, not_true_eq_false, not_false_eq_true, false_implies, implies_true, ne_eq, reduceCtorEq, Option.some.injEq, false_and, and_false, Int.reduceNeg, Int.reduceToNat, Int.reduceLT, Int.reduceLE, Int.reduceEq, Int.reduceAdd, Int.reduceSub, Int.reduceMul, or_false, false_or, or_true, true_or, forall_const, Int.toNat_natCast, Int.toNat_zero, Int.toNat_one, Nat.zero_add, or_self, Int.neg_eq_zero]
  unfold c_al at h
  by_cases h1 : st (sy_nS i) 5 = 1
  · simp only [if_pos h1, decide_eq_true_eq] at h
    by_cases hC : lo ≤ m ∧ m ≤ up
    · rw [if_pos hC] at h
      (repeat' (first | assumption | apply And.intro | intro _)) <;> first | omega | (exfalso; omega) | contradiction
    · rw [if_neg hC] at h
      (repeat' (first | assumption | apply And.intro | intro _)) <;> first | omega | (exfalso; omega) | contradiction
  · simp only [if_neg h1] at h
    by_cases h2 : st (sy_nS i) 5 = 2
    · simp only [if_pos h2, decide_eq_true_eq] at h
      by_cases hC : m ≤ lo ∨ up ≤ m
      · rw [if_pos hC] at h
        (repeat' (first | assumption | apply And.intro | intro _)) <;> first | omega | (exfalso; omega) | contradiction
      · rw [if_neg hC] at h
        (repeat' (first | assumption | apply And.intro | intro _)) <;> first | omega | (exfalso; omega) | contradiction
    · simp only [if_neg h2, if_true] at h
      (repeat' (first | assumption | apply And.intro | intro _)) <;> first | omega | (exfalso; omega) | contradiction
def sp_7_at (ns : Nat) : sy_Sp := sy_m1 1 fun n st post => c_site ns st ∧ (0 ≤ n ∧ n < ns → post (some (.inr (.inr (some (some (sy_nS n.toNat)))))) st) ∧ (¬ (0 ≤ n ∧ n < ns) → post (some (.inr (.inr (some none)))) st)
def ct_7_at (ns q : Nat) : Option (Bool × Nat × sy_Sp) := match q with
  | _ => none
abbrev M_7_at (ns : Nat) : sy_M := Mk_7_at (ct_7_at ns)
theorem mv_7_at (ns : Nat) : sy_MV c_7_at y_7_at.cls (some (.object "StarHide$Site")) (M_7_at ns) := ⟨tv_7_at, ff_7_ok, ki_7_ok, kl_7_ok⟩
abbrev rm_7_at : Room := { frames := 0, cells := 0, slots := 0, locals := 0 }
theorem co_7_at (l : Launch) : sy_calls l rm_7_at y_7_at.cls c_7_at 2 (fun ns => (M_7_at ns).2.2.2.2.1) := by
  intro p e s m args below meth c rt wd ad ns A Q X hA q b n sp h
  replace h : ct_7_at ns q = some (b, n, sp) := h
  unfold ct_7_at at h
  cases h
theorem rc_7_at (ns : Nat) (as : List sy_V) (st : sy_S) (post : sy_R) (h : sp_7_at ns as st post) : ∃ b as', as = .inr (.inr (some (some b))) :: as' ∧ sy_ob b = some 7 := sy_m1_r rfl as st post h
theorem mc_7_at (l : Launch) : sy_MC l y_7_at c_7_at 2 (some (.object "StarHide$Site")) rm_7_at sp_7_at := by
  refine sy_meth M_7_at (by decide +kernel) mv_7_at (co_7_at l) ?_
  intro ns as st post WA h hok hrg ⟨hgo0, hin, hwk⟩
  have hgo : ∀ (n pc : Nat) (L k : List sy_V) (st : sy_S), rn_7_at ns (ct_7_at ns) post WA n pc L k st → WA pc L k st := fun n pc L k st h => hgo0 [] n pc L k st h
  replace h := sy_m1_e h hok
  obtain ⟨n, rfl, hn, h⟩ := h
  refine ⟨Nat.le_of_ble_eq_true rfl, ?_⟩
  show WA 0 [.inr (.inr (some (some 1))), .inl (true, n)] [] st
  refine hgo 100 _ _ _ _ ?_
  simp -implicitDefEqProofs only [↓rx_7_at_0, ↓rx_7_at_1, ↓rx_7_at_4, ↓rx_7_at_5, ↓rx_7_at_6, ↓rx_7_at_9, ↓rx_7_at_12, ↓rx_7_at_13, ↓rx_7_at_15, ↓rx_7_at_18, ↓rx_7_at_19, ↓rx_7_at_22, ↓rx_7_at_23, ↓rx_7_at_26, ↓rx_7_at_27, ↓rx_7_at_28, ↓sx_s1, ↓sx_s2, ↓sx_s3, ↓sx_s4, ↓sx_s5, ↓sx_s6, ↓sx_m0, ↓sx_m1, ↓sx_m2, ↓sx_m3, ↓sx_m4, ↓sx_m5, ↓sx_m6, ↓sx_k0_, ↓sx_k1_, ↓sx_k2_, ↓sx_k3_, ↓sx_k4_, ↓sx_k5_, ↓sx_k6_, ↓sx_sLL, ↓sx_sAI, ↓sx_mLL, ↓sx_mIIL, ↓sx_mIILL, ↓sx_mIILLL, ↓sx_qS, ↓sx_qSI, ↓sx_qSIII, sx_rit, sx_rif, sx_rlt, sx_rlf, sx_b0, sx_b1, sx_o0, sx_o1i, sx_o1a, sx_o1l, sx_o2, sx_g0, sx_g1, sx_k1, sx_k2, sx_k3, sx_f1, sx_f2, sx_f3, sx_w0, sx_w1, sx_w2, sx_w3, sx_ts, sx_tn, sx_up, sx_nS1, sx_nS2, sx_nW1, sx_nW2, sx_SW, sx_WS, sy_nS_inj, sy_nW_inj, sx_ob0, sx_ob1, sx_ob2, sx_ob3, sx_ob4, sx_ob5, sx_ob6, sx_ob7, sx_ob8, sx_ob9, sx_ob10, sx_ob11, sx_ob12, sx_ob13, sx_ob14, sx_ob15, sx_ob16, sx_ob17, sx_ob18, sx_ob19, sx_ob20, sx_ob21, sx_ob22, sx_ob23, sx_ob24, sx_ob25, sx_ob26, sx_ob27, sx_ob28, sx_ob29, sx_ob30, sx_ob31, sx_ob32, sx_ob33, sx_ob34, sx_ob35, sx_ob36, sx_fv0_0, sx_fv0_1, sx_fv0_2, sx_fv0_3, sx_fv0_4, sx_fv0_5, sx_fv1_0, sx_fv1_1, sx_fv1_2, sx_fv3_0, sx_fv3_1, sx_fv3_2, sx_fv3_3, sx_fv3_4, sx_fv7_0, sx_fv7_1, sx_fv7_2, sx_fv7_3, sx_fv7_4, sx_fv7_5, sx_fv7_6, sx_fv7_7, sx_fv7_8, sx_fv7_9, sx_fv7_10, sx_fv9_0, sx_fv9_1, sx_fv9_2, sx_fv9_3, sx_fv11_0, sx_fv11_1, sx_fv11_2, sx_fv11_3, sx_fv11_4, sx_fv11_5, sx_fv11_6, sx_fv15_0, sx_fv15_1, sx_fv15_2, sx_fv15_3, sx_fv15_4, sx_fv15_5, sx_fv19_0, sx_fv19_1, sx_fv19_2, sx_fv19_3, sx_fv19_4, sx_fv19_5, sx_fv19_6, sx_fv24_0, sx_fv24_1, sx_fv24_2, sx_fv24_3, sx_fv24_4, sx_fv24_5, sx_fv24_6, sx_fv24_7, sx_fv24_8, sx_fv24_9, sx_fv24_10, sx_fv24_11, sx_fv24_12, sx_fv24_13, sx_fv24_14, sx_fv24_15, sx_fv24_16, sx_fv24_17, sx_fv24_18, sx_fvS_0, sx_fvS_1, sx_fvS_2, sx_fvS_3, sx_fvS_4, sx_fvS_5, sx_fvS_6, sx_fvS_7, sx_fvS_8, sx_fvS_9, sx_ar2, sx_ar4, sx_ar5, sx_ar6, sx_ar8, sx_ar10, sx_ar12, sx_ar13, sx_ar14, sx_ar16, sx_ar17, sx_ar18, sx_ar20, sx_ar21, sx_ar22, sx_ar23, sx_ar25, sx_ar26, sx_ar27, sx_ar28, sx_ar29, sx_ar30, sx_ar31, sx_ar32, sx_ar33, sx_ar34, sx_ar35, sx_ar36, sy_ob_S, sy_ob_W, sy_ar_W, sx_if0, sx_if1, sx_ie0, sx_em, Classical.not_not, sx_cle, sx_clt, sx_cge, sx_cgt, sx_ceq, Nat.reduceLT, Nat.reduceLeDiff, Nat.reduceAdd, Nat.reduceSub, Nat.reduceEqDiff, reduceIte, List.length_cons, List.length_nil, true_and, and_true, and_self, Bool.false_eq_true, true_implies, not_true_eq_false, not_false_eq_true, false_implies, implies_true, ne_eq, reduceCtorEq, Option.some.injEq, false_and, and_false, Int.reduceNeg, Int.reduceToNat, Int.reduceLT, Int.reduceLE, Int.reduceEq, Int.reduceAdd, Int.reduceSub, Int.reduceMul, or_false, false_or, or_true, true_or, forall_const, Int.toNat_natCast, Int.toNat_zero, Int.toNat_one, Nat.zero_add, or_self, Int.neg_eq_zero]
  obtain ⟨hs, h1, h2⟩ := h
  unfold c_site at hs
  rw [hs.1]
  (repeat' (first | apply And.intro | intro _)) <;> first | omega | (exfalso; omega) | (apply h1; omega) | (apply h2; omega)
def sp_7_howMany (ns : Nat) : sy_Sp := sy_m1 1 fun k st post => c_site ns st ∧ post (some (.inl (true, xc (fun i => decide (st (sy_nS i) 5 = k)) ns))) st
def ct_7_howMany (ns q : Nat) : Option (Bool × Nat × sy_Sp) := match q with
  | 31 => some (false, 2, sp_7_at ns)
  | _ => none
abbrev M_7_howMany (ns : Nat) : sy_M := Mk_7_howMany (ct_7_howMany ns)
theorem cx_7_howMany_31 {ns : Nat} {v1 v2 : sy_V} {r : List sy_V} {s : sy_S} {f : List sy_V → sy_S → Prop} : sy_call false (ct_7_howMany ns 31) (v2 :: v1 :: r) s f = (sy_wd r ≤ 8 ∧ (sy_fit v2 ∧ sy_fit v1) ∧ sp_7_at ns [sy_kn v1, sy_kn v2] s (fun q t => f (q.toList ++ r) t)) := sx_call2
theorem mv_7_howMany (ns : Nat) : sy_MV c_7_howMany y_7_howMany.cls (some .int) (M_7_howMany ns) := ⟨tv_7_howMany, ff_7_ok, ki_7_ok, kl_7_ok⟩
abbrev rm_7_howMany : Room := { frames := 1, cells := 0, slots := 0, locals := 21 }
theorem iw_7_at : Cond.code y_7_at c_7_at 2 (some (.object "StarHide$Site")) ∈ sy_tb ∧ Cond.initialized y_7_at.cls ∈ sy_tb ∧ (y_7_at.cls ≠ "java/lang/invoke/MethodHandle" ∧ y_7_at.cls ≠ "java/lang/invoke/VarHandle" ∧ (parseMethodDescriptor y_7_at.desc).map (fun d => d.parameters.length) = some 1) := ⟨sy_inx 317 (by decide +kernel) (by decide +kernel), sy_inx 45 (by decide +kernel) (by decide +kernel), by decide +kernel⟩
theorem ii_7_at : Cond.instanceMethod y_7_at ∈ sy_tb ∧ Cond.selects y_7_at.cls y_7_at y_7_at ∈ sy_tb := ⟨sy_inx 315 (by decide +kernel) (by decide +kernel), sy_inx 316 (by decide +kernel) (by decide +kernel)⟩
theorem co_7_howMany (l : Launch) : sy_calls l rm_7_howMany y_7_howMany.cls c_7_howMany 5 (fun ns => (M_7_howMany ns).2.2.2.2.1) := by
  intro p e s m args below meth c rt wd ad ns A Q X hA q b n sp h
  replace h : ct_7_howMany ns q = some (b, n, sp) := h
  unfold ct_7_howMany at h
  split at h
  · cases h; exact sy_coV (ci := 7) X hA (mc_7_at l) ⟨iw_7_at.1, iw_7_at.2.1, iw_7_at.2.2, ⟨by decide, by decide⟩, rfl, rfl⟩ (sy_inx 314 (by decide +kernel) (by decide +kernel)) ii_7_at.1 ii_7_at.2 (rc_7_at ns) ⟨_, rfl, rfl⟩
  · cases h
theorem rc_7_howMany (ns : Nat) (as : List sy_V) (st : sy_S) (post : sy_R) (h : sp_7_howMany ns as st post) : ∃ b as', as = .inr (.inr (some (some b))) :: as' ∧ sy_ob b = some 7 := sy_m1_r rfl as st post h
theorem mc_7_howMany (l : Launch) : sy_MC l y_7_howMany c_7_howMany 5 (some .int) rm_7_howMany sp_7_howMany := by
  refine sy_meth M_7_howMany (by decide +kernel) mv_7_howMany (co_7_howMany l) ?_
  intro ns as st post WA h hok hrg ⟨hgo0, hin, hwk⟩
  have hgo : ∀ (n pc : Nat) (L k : List sy_V) (st : sy_S), rn_7_howMany ns (ct_7_howMany ns) post WA n pc L k st → WA pc L k st := fun n pc L k st h => hgo0 [4] n pc L k st h
  replace h := sy_m1_e h hok
  obtain ⟨k, rfl, hk, h⟩ := h
  refine ⟨Nat.le_of_ble_eq_true rfl, ?_⟩
  show WA 0 [.inr (.inr (some (some 1))), .inl (true, k), .inr (.inr none), .inr (.inr none), .inr (.inr none)] [] st
  obtain ⟨hs, h⟩ := h
  have hs' := hs
  unfold c_site at hs
  have key : ∀ (d s : Nat), s + d = ns → WA 4 [.inr (.inr (some (some 1))), .inl (true, k), .inl (true, xc (fun i => decide (st (sy_nS i) 5 = k)) s), .inl (true, (s : Int)), .inr (.inr none)] [] st := by
    intro d
    induction d with
    | zero =>
      intro s h1
      refine hgo 100 _ _ _ _ ?_
      simp -implicitDefEqProofs only [↓rx_7_howMany_0, ↓rx_7_howMany_1, ↓rx_7_howMany_2, ↓rx_7_howMany_3, ↓rx_7_howMany_4, ↓rx_7_howMany_5, ↓rx_7_howMany_6, ↓rx_7_howMany_9, ↓rx_7_howMany_12, ↓rx_7_howMany_13, ↓rx_7_howMany_14, ↓rx_7_howMany_17, ↓rx_7_howMany_19, ↓rx_7_howMany_21, ↓rx_7_howMany_21_n, ↓rx_7_howMany_24, ↓rx_7_howMany_26, ↓rx_7_howMany_29, ↓rx_7_howMany_30, ↓rx_7_howMany_33, ↓rx_7_howMany_36, ↓rx_7_howMany_39, ↓rx_7_howMany_42, ↓rx_7_howMany_43, ↓cx_7_howMany_31, sp_7_at, ↓sx_s1, ↓sx_s2, ↓sx_s3, ↓sx_s4, ↓sx_s5, ↓sx_s6, ↓sx_m0, ↓sx_m1, ↓sx_m2, ↓sx_m3, ↓sx_m4, ↓sx_m5, ↓sx_m6, ↓sx_k0_, ↓sx_k1_, ↓sx_k2_, ↓sx_k3_, ↓sx_k4_, ↓sx_k5_, ↓sx_k6_, ↓sx_sLL, ↓sx_sAI, ↓sx_mLL, ↓sx_mIIL, ↓sx_mIILL, ↓sx_mIILLL, ↓sx_qS, ↓sx_qSI, ↓sx_qSIII, sx_rit, sx_rif, sx_rlt, sx_rlf, sx_b0, sx_b1, sx_o0, sx_o1i, sx_o1a, sx_o1l, sx_o2, sx_g0, sx_g1, sx_k1, sx_k2, sx_k3, sx_f1, sx_f2, sx_f3, sx_w0, sx_w1, sx_w2, sx_w3, sx_ts, sx_tn, sx_up, sx_nS1, sx_nS2, sx_nW1, sx_nW2, sx_SW, sx_WS, sy_nS_inj, sy_nW_inj, sx_ob0, sx_ob1, sx_ob2, sx_ob3, sx_ob4, sx_ob5, sx_ob6, sx_ob7, sx_ob8, sx_ob9, sx_ob10, sx_ob11, sx_ob12, sx_ob13, sx_ob14, sx_ob15, sx_ob16, sx_ob17, sx_ob18, sx_ob19, sx_ob20, sx_ob21, sx_ob22, sx_ob23, sx_ob24, sx_ob25, sx_ob26, sx_ob27, sx_ob28, sx_ob29, sx_ob30, sx_ob31, sx_ob32, sx_ob33, sx_ob34, sx_ob35, sx_ob36, sx_fv0_0, sx_fv0_1, sx_fv0_2, sx_fv0_3, sx_fv0_4, sx_fv0_5, sx_fv1_0, sx_fv1_1, sx_fv1_2, sx_fv3_0, sx_fv3_1, sx_fv3_2, sx_fv3_3, sx_fv3_4, sx_fv7_0, sx_fv7_1, sx_fv7_2, sx_fv7_3, sx_fv7_4, sx_fv7_5, sx_fv7_6, sx_fv7_7, sx_fv7_8, sx_fv7_9, sx_fv7_10, sx_fv9_0, sx_fv9_1, sx_fv9_2, sx_fv9_3, sx_fv11_0, sx_fv11_1, sx_fv11_2, sx_fv11_3, sx_fv11_4, sx_fv11_5, sx_fv11_6, sx_fv15_0, sx_fv15_1, sx_fv15_2, sx_fv15_3, sx_fv15_4, sx_fv15_5, sx_fv19_0, sx_fv19_1, sx_fv19_2, sx_fv19_3, sx_fv19_4, sx_fv19_5, sx_fv19_6, sx_fv24_0, sx_fv24_1, sx_fv24_2, sx_fv24_3, sx_fv24_4, sx_fv24_5, sx_fv24_6, sx_fv24_7, sx_fv24_8, sx_fv24_9, sx_fv24_10, sx_fv24_11, sx_fv24_12, sx_fv24_13, sx_fv24_14, sx_fv24_15, sx_fv24_16, sx_fv24_17, sx_fv24_18, sx_fvS_0, sx_fvS_1, sx_fvS_2, sx_fvS_3, sx_fvS_4, sx_fvS_5, sx_fvS_6, sx_fvS_7, sx_fvS_8, sx_fvS_9, sx_ar2, sx_ar4, sx_ar5, sx_ar6, sx_ar8, sx_ar10, sx_ar12, sx_ar13, sx_ar14, sx_ar16, sx_ar17, sx_ar18, sx_ar20, sx_ar21, sx_ar22, sx_ar23, sx_ar25, sx_ar26, sx_ar27, sx_ar28, sx_ar29, sx_ar30, sx_ar31, sx_ar32, sx_ar33, sx_ar34, sx_ar35, sx_ar36, sy_ob_S, sy_ob_W, sy_ar_W, sx_if0, sx_if1, sx_ie0, sx_em, Classical.not_not, sx_cle, sx_clt, sx_cge, sx_cgt, sx_ceq, Nat.reduceLT, Nat.reduceLeDiff, Nat.reduceAdd, Nat.reduceSub, Nat.reduceEqDiff, reduceIte, List.length_cons, List.length_nil, true_and, and_true, and_self, Bool.false_eq_true, true_implies, not_true_eq_false, not_false_eq_true, false_implies, implies_true, ne_eq, reduceCtorEq, Option.some.injEq, false_and, and_false, Int.reduceNeg, Int.reduceToNat, Int.reduceLT, Int.reduceLE, Int.reduceEq, Int.reduceAdd, Int.reduceSub, Int.reduceMul, or_false, false_or, or_true, true_or, forall_const, Int.toNat_natCast, Int.toNat_zero, Int.toNat_one, Nat.zero_add, or_self, Int.neg_eq_zero]
      rw [hs.1]
      refine ⟨fun _ => ?_, fun q => by omega⟩
      rw [show s = ns by omega]
      exact h
    | succ d ih =>
      intro s h1
      refine hgo 100 _ _ _ _ ?_
      simp -implicitDefEqProofs only [↓rx_7_howMany_0, ↓rx_7_howMany_1, ↓rx_7_howMany_2, ↓rx_7_howMany_3, ↓rx_7_howMany_4, ↓rx_7_howMany_5, ↓rx_7_howMany_6, ↓rx_7_howMany_9, ↓rx_7_howMany_12, ↓rx_7_howMany_13, ↓rx_7_howMany_14, ↓rx_7_howMany_17, ↓rx_7_howMany_19, ↓rx_7_howMany_21, ↓rx_7_howMany_21_n, ↓rx_7_howMany_24, ↓rx_7_howMany_26, ↓rx_7_howMany_29, ↓rx_7_howMany_30, ↓rx_7_howMany_33, ↓rx_7_howMany_36, ↓rx_7_howMany_39, ↓rx_7_howMany_42, ↓rx_7_howMany_43, ↓cx_7_howMany_31, sp_7_at, ↓sx_s1, ↓sx_s2, ↓sx_s3, ↓sx_s4, ↓sx_s5, ↓sx_s6, ↓sx_m0, ↓sx_m1, ↓sx_m2, ↓sx_m3, ↓sx_m4, ↓sx_m5, ↓sx_m6, ↓sx_k0_, ↓sx_k1_, ↓sx_k2_, ↓sx_k3_, ↓sx_k4_, ↓sx_k5_, ↓sx_k6_, ↓sx_sLL, ↓sx_sAI, ↓sx_mLL, ↓sx_mIIL, ↓sx_mIILL, ↓sx_mIILLL, ↓sx_qS, ↓sx_qSI, ↓sx_qSIII, sx_rit, sx_rif, sx_rlt, sx_rlf, sx_b0, sx_b1, sx_o0, sx_o1i, sx_o1a, sx_o1l, sx_o2, sx_g0, sx_g1, sx_k1, sx_k2, sx_k3, sx_f1, sx_f2, sx_f3, sx_w0, sx_w1, sx_w2, sx_w3, sx_ts, sx_tn, sx_up, sx_nS1, sx_nS2, sx_nW1, sx_nW2, sx_SW, sx_WS, sy_nS_inj, sy_nW_inj, sx_ob0, sx_ob1, sx_ob2, sx_ob3, sx_ob4, sx_ob5, sx_ob6, sx_ob7, sx_ob8, sx_ob9, sx_ob10, sx_ob11, sx_ob12, sx_ob13, sx_ob14, sx_ob15, sx_ob16, sx_ob17, sx_ob18, sx_ob19, sx_ob20, sx_ob21, sx_ob22, sx_ob23, sx_ob24, sx_ob25, sx_ob26, sx_ob27, sx_ob28, sx_ob29, sx_ob30, sx_ob31, sx_ob32, sx_ob33, sx_ob34, sx_ob35, sx_ob36, sx_fv0_0, sx_fv0_1, sx_fv0_2, sx_fv0_3, sx_fv0_4, sx_fv0_5, sx_fv1_0, sx_fv1_1, sx_fv1_2, sx_fv3_0, sx_fv3_1, sx_fv3_2, sx_fv3_3, sx_fv3_4, sx_fv7_0, sx_fv7_1, sx_fv7_2, sx_fv7_3, sx_fv7_4, sx_fv7_5, sx_fv7_6, sx_fv7_7, sx_fv7_8, sx_fv7_9, sx_fv7_10, sx_fv9_0, sx_fv9_1, sx_fv9_2, sx_fv9_3, sx_fv11_0, sx_fv11_1, sx_fv11_2, sx_fv11_3, sx_fv11_4, sx_fv11_5, sx_fv11_6, sx_fv15_0, sx_fv15_1, sx_fv15_2, sx_fv15_3, sx_fv15_4, sx_fv15_5, sx_fv19_0, sx_fv19_1, sx_fv19_2, sx_fv19_3, sx_fv19_4, sx_fv19_5, sx_fv19_6, sx_fv24_0, sx_fv24_1, sx_fv24_2, sx_fv24_3, sx_fv24_4, sx_fv24_5, sx_fv24_6, sx_fv24_7, sx_fv24_8, sx_fv24_9, sx_fv24_10, sx_fv24_11, sx_fv24_12, sx_fv24_13, sx_fv24_14, sx_fv24_15, sx_fv24_16, sx_fv24_17, sx_fv24_18, sx_fvS_0, sx_fvS_1, sx_fvS_2, sx_fvS_3, sx_fvS_4, sx_fvS_5, sx_fvS_6, sx_fvS_7, sx_fvS_8, sx_fvS_9, sx_ar2, sx_ar4, sx_ar5, sx_ar6, sx_ar8, sx_ar10, sx_ar12, sx_ar13, sx_ar14, sx_ar16, sx_ar17, sx_ar18, sx_ar20, sx_ar21, sx_ar22, sx_ar23, sx_ar25, sx_ar26, sx_ar27, sx_ar28, sx_ar29, sx_ar30, sx_ar31, sx_ar32, sx_ar33, sx_ar34, sx_ar35, sx_ar36, sy_ob_S, sy_ob_W, sy_ar_W, sx_if0, sx_if1, sx_ie0, sx_em, Classical.not_not, sx_cle, sx_clt, sx_cge, sx_cgt, sx_ceq, Nat.reduceLT, Nat.reduceLeDiff, Nat.reduceAdd, Nat.reduceSub, Nat.reduceEqDiff, reduceIte, List.length_cons, List.length_nil, true_and, and_true, and_self, Bool.false_eq_true, true_implies, not_true_eq_false, not_false_eq_true, false_implies, implies_true, ne_eq, reduceCtorEq, Option.some.injEq, false_and, and_false, Int.reduceNeg, Int.reduceToNat, Int.reduceLT, Int.reduceLE, Int.reduceEq, Int.reduceAdd, Int.reduceSub, Int.reduceMul, or_false, false_or, or_true, true_or, forall_const, Int.toNat_natCast, Int.toNat_zero, Int.toNat_one, Nat.zero_add, or_self, Int.neg_eq_zero]
      rw [hs.1]
      have hc := xc_rng (fun i => decide (st (sy_nS i) 5 = k)) s
      have i1 := ih (s + 1) (by omega)
      simp only [xc, decide_eq_true_eq] at i1
      have e : ((s : Int) + 1) = ((s + 1 : Nat) : Int) := by omega
      rw [e]
      have j1 : ∀ w : sy_V, WA 4 [.inr (.inr (some (some 1))), .inl (true, k), _, .inl (true, ((s + 1 : Nat) : Int)), w] [] st := fun w => hwk _ _ _ _ _ (by exact ⟨Or.inl rfl, Or.inl rfl, Or.inl rfl, Or.inl rfl, Or.inr rfl, trivial⟩) i1
      refine ⟨fun q => by omega, fun _ => ⟨hs', fun _ => ⟨fun c => ⟨by omega, ?_⟩, fun c => ⟨by omega, by omega, ?_⟩⟩, fun q => by omega⟩⟩
      · have j2 := j1 (.inr (.inr (some (some (sy_nS s)))))
        rwa [if_neg c, Int.add_zero] at j2
      · have j2 := j1 (.inr (.inr (some (some (sy_nS s)))))
        rwa [if_pos c] at j2
  refine hgo 100 _ _ _ _ ?_
  simp -implicitDefEqProofs only [↓rx_7_howMany_0, ↓rx_7_howMany_1, ↓rx_7_howMany_2, ↓rx_7_howMany_3, ↓rx_7_howMany_4, ↓rx_7_howMany_5, ↓rx_7_howMany_6, ↓rx_7_howMany_9, ↓rx_7_howMany_12, ↓rx_7_howMany_13, ↓rx_7_howMany_14, ↓rx_7_howMany_17, ↓rx_7_howMany_19, ↓rx_7_howMany_21, ↓rx_7_howMany_21_n, ↓rx_7_howMany_24, ↓rx_7_howMany_26, ↓rx_7_howMany_29, ↓rx_7_howMany_30, ↓rx_7_howMany_33, ↓rx_7_howMany_36, ↓rx_7_howMany_39, ↓rx_7_howMany_42, ↓rx_7_howMany_43, ↓cx_7_howMany_31, sp_7_at, ↓sx_s1, ↓sx_s2, ↓sx_s3, ↓sx_s4, ↓sx_s5, ↓sx_s6, ↓sx_m0, ↓sx_m1, ↓sx_m2, ↓sx_m3, ↓sx_m4, ↓sx_m5, ↓sx_m6, ↓sx_k0_, ↓sx_k1_, ↓sx_k2_, ↓sx_k3_, ↓sx_k4_, ↓sx_k5_, ↓sx_k6_, ↓sx_sLL, ↓sx_sAI, ↓sx_mLL, ↓sx_mIIL, ↓sx_mIILL, ↓sx_mIILLL, ↓sx_qS, ↓sx_qSI, ↓sx_qSIII, sx_rit, sx_rif, sx_rlt, sx_rlf, sx_b0, sx_b1, sx_o0, sx_o1i, sx_o1a, sx_o1l, sx_o2, sx_g0, sx_g1, sx_k1, sx_k2, sx_k3, sx_f1, sx_f2, sx_f3, sx_w0, sx_w1, sx_w2, sx_w3, sx_ts, sx_tn, sx_up, sx_nS1, sx_nS2, sx_nW1, sx_nW2, sx_SW, sx_WS, sy_nS_inj, sy_nW_inj, sx_ob0, sx_ob1, sx_ob2, sx_ob3, sx_ob4, sx_ob5, sx_ob6, sx_ob7, sx_ob8, sx_ob9, sx_ob10, sx_ob11, sx_ob12, sx_ob13, sx_ob14, sx_ob15, sx_ob16, sx_ob17, sx_ob18, sx_ob19, sx_ob20, sx_ob21, sx_ob22, sx_ob23, sx_ob24, sx_ob25, sx_ob26, sx_ob27, sx_ob28, sx_ob29, sx_ob30, sx_ob31, sx_ob32, sx_ob33, sx_ob34, sx_ob35, sx_ob36, sx_fv0_0, sx_fv0_1, sx_fv0_2, sx_fv0_3, sx_fv0_4, sx_fv0_5, sx_fv1_0, sx_fv1_1, sx_fv1_2, sx_fv3_0, sx_fv3_1, sx_fv3_2, sx_fv3_3, sx_fv3_4, sx_fv7_0, sx_fv7_1, sx_fv7_2, sx_fv7_3, sx_fv7_4, sx_fv7_5, sx_fv7_6, sx_fv7_7, sx_fv7_8, sx_fv7_9, sx_fv7_10, sx_fv9_0, sx_fv9_1, sx_fv9_2, sx_fv9_3, sx_fv11_0, sx_fv11_1, sx_fv11_2, sx_fv11_3, sx_fv11_4, sx_fv11_5, sx_fv11_6, sx_fv15_0, sx_fv15_1, sx_fv15_2, sx_fv15_3, sx_fv15_4, sx_fv15_5, sx_fv19_0, sx_fv19_1, sx_fv19_2, sx_fv19_3, sx_fv19_4, sx_fv19_5, sx_fv19_6, sx_fv24_0, sx_fv24_1, sx_fv24_2, sx_fv24_3, sx_fv24_4, sx_fv24_5, sx_fv24_6, sx_fv24_7, sx_fv24_8, sx_fv24_9, sx_fv24_10, sx_fv24_11, sx_fv24_12, sx_fv24_13, sx_fv24_14, sx_fv24_15, sx_fv24_16, sx_fv24_17, sx_fv24_18, sx_fvS_0, sx_fvS_1, sx_fvS_2, sx_fvS_3, sx_fvS_4, sx_fvS_5, sx_fvS_6, sx_fvS_7, sx_fvS_8, sx_fvS_9, sx_ar2, sx_ar4, sx_ar5, sx_ar6, sx_ar8, sx_ar10, sx_ar12, sx_ar13, sx_ar14, sx_ar16, sx_ar17, sx_ar18, sx_ar20, sx_ar21, sx_ar22, sx_ar23, sx_ar25, sx_ar26, sx_ar27, sx_ar28, sx_ar29, sx_ar30, sx_ar31, sx_ar32, sx_ar33, sx_ar34, sx_ar35, sx_ar36, sy_ob_S, sy_ob_W, sy_ar_W, sx_if0, sx_if1, sx_ie0, sx_em, Classical.not_not, sx_cle, sx_clt, sx_cge, sx_cgt, sx_ceq, Nat.reduceLT, Nat.reduceLeDiff, Nat.reduceAdd, Nat.reduceSub, Nat.reduceEqDiff, reduceIte, List.length_cons, List.length_nil, true_and, and_true, and_self, Bool.false_eq_true, true_implies, not_true_eq_false, not_false_eq_true, false_implies, implies_true, ne_eq, reduceCtorEq, Option.some.injEq, false_and, and_false, Int.reduceNeg, Int.reduceToNat, Int.reduceLT, Int.reduceLE, Int.reduceEq, Int.reduceAdd, Int.reduceSub, Int.reduceMul, or_false, false_or, or_true, true_or, forall_const, Int.toNat_natCast, Int.toNat_zero, Int.toNat_one, Nat.zero_add, or_self, Int.neg_eq_zero]
  exact key ns 0 (by omega)
/-- the sites' widths are to be measured anew -/
def c_fw (st : sy_S) : Nat → sy_S
  | 0 => st
  | n + 1 => sy_up (c_fw st n) (sy_nS n) 3 0
theorem c_fw_11 (st : sy_S) : ∀ n, c_fw st n 1 = st 1
  | 0 => rfl
  | n + 1 => by
    simp only [c_fw]
    rw [sy_up_ne _ _ (by unfold sy_nS; omega), c_fw_11 st n]
def sp_7_forgetWidths (ns : Nat) : sy_Sp := sy_m0 1 fun st post => c_site ns st ∧ post none (c_fw st ns)
def ct_7_forgetWidths (ns q : Nat) : Option (Bool × Nat × sy_Sp) := match q with
  | 31 => some (false, 2, sp_7_at ns)
  | _ => none
abbrev M_7_forgetWidths (ns : Nat) : sy_M := Mk_7_forgetWidths (ct_7_forgetWidths ns)
theorem cx_7_forgetWidths_31 {ns : Nat} {v1 v2 : sy_V} {r : List sy_V} {s : sy_S} {f : List sy_V → sy_S → Prop} : sy_call false (ct_7_forgetWidths ns 31) (v2 :: v1 :: r) s f = (sy_wd r ≤ 8 ∧ (sy_fit v2 ∧ sy_fit v1) ∧ sp_7_at ns [sy_kn v1, sy_kn v2] s (fun q t => f (q.toList ++ r) t)) := sx_call2
theorem mv_7_forgetWidths (ns : Nat) : sy_MV c_7_forgetWidths y_7_forgetWidths.cls none (M_7_forgetWidths ns) := ⟨tv_7_forgetWidths, ff_7_ok, ki_7_ok, kl_7_ok⟩
abbrev rm_7_forgetWidths : Room := { frames := 1, cells := 0, slots := 0, locals := 21 }
theorem co_7_forgetWidths (l : Launch) : sy_calls l rm_7_forgetWidths y_7_forgetWidths.cls c_7_forgetWidths 3 (fun ns => (M_7_forgetWidths ns).2.2.2.2.1) := by
  intro p e s m args below meth c rt wd ad ns A Q X hA q b n sp h
  replace h : ct_7_forgetWidths ns q = some (b, n, sp) := h
  unfold ct_7_forgetWidths at h
  split at h
  · cases h; exact sy_coV (ci := 7) X hA (mc_7_at l) ⟨iw_7_at.1, iw_7_at.2.1, iw_7_at.2.2, ⟨by decide, by decide⟩, rfl, rfl⟩ (sy_inx 314 (by decide +kernel) (by decide +kernel)) ii_7_at.1 ii_7_at.2 (rc_7_at ns) ⟨_, rfl, rfl⟩
  · cases h
theorem rc_7_forgetWidths (ns : Nat) (as : List sy_V) (st : sy_S) (post : sy_R) (h : sp_7_forgetWidths ns as st post) : ∃ b as', as = .inr (.inr (some (some b))) :: as' ∧ sy_ob b = some 7 := sy_m0_r rfl as st post h
theorem mc_7_forgetWidths (l : Launch) : sy_MC l y_7_forgetWidths c_7_forgetWidths 3 none rm_7_forgetWidths sp_7_forgetWidths := by
  refine sy_meth M_7_forgetWidths (by decide +kernel) mv_7_forgetWidths (co_7_forgetWidths l) ?_
  intro ns as st post WA h hok hrg ⟨hgo0, hin, hwk⟩
  have hgo : ∀ (n pc : Nat) (L k : List sy_V) (st : sy_S), rn_7_forgetWidths ns (ct_7_forgetWidths ns) post WA n pc L k st → WA pc L k st := fun n pc L k st h => hgo0 [2] n pc L k st h
  replace h := sy_m0_e h hok
  obtain ⟨rfl, h⟩ := h
  refine ⟨Nat.le_of_ble_eq_true rfl, ?_⟩
  show WA 0 [.inr (.inr (some (some 1))), .inr (.inr none), .inr (.inr none)] [] st
  obtain ⟨hs, h⟩ := h
  have hs' := hs
  unfold c_site at hs
  have key : ∀ (d s : Nat), s + d = ns → WA 2 [.inr (.inr (some (some 1))), .inl (true, (s : Int)), .inr (.inr none)] [] (c_fw st s) := by
    intro d
    induction d with
    | zero =>
      intro s h1
      refine hgo 100 _ _ _ _ ?_
      simp -implicitDefEqProofs only [↓rx_7_forgetWidths_0, ↓rx_7_forgetWidths_1, ↓rx_7_forgetWidths_2, ↓rx_7_forgetWidths_3, ↓rx_7_forgetWidths_4, ↓rx_7_forgetWidths_7, ↓rx_7_forgetWidths_10, ↓rx_7_forgetWidths_11, ↓rx_7_forgetWidths_12, ↓rx_7_forgetWidths_15, ↓rx_7_forgetWidths_16, ↓rx_7_forgetWidths_17, ↓rx_7_forgetWidths_17_n, ↓rx_7_forgetWidths_20, ↓rx_7_forgetWidths_21, ↓rx_7_forgetWidths_22, ↓rx_7_forgetWidths_25, ↓rx_7_forgetWidths_28, ↓rx_7_forgetWidths_31, ↓cx_7_forgetWidths_31, sp_7_at, ↓sx_s1, ↓sx_s2, ↓sx_s3, ↓sx_s4, ↓sx_s5, ↓sx_s6, ↓sx_m0, ↓sx_m1, ↓sx_m2, ↓sx_m3, ↓sx_m4, ↓sx_m5, ↓sx_m6, ↓sx_k0_, ↓sx_k1_, ↓sx_k2_, ↓sx_k3_, ↓sx_k4_, ↓sx_k5_, ↓sx_k6_, ↓sx_sLL, ↓sx_sAI, ↓sx_mLL, ↓sx_mIIL, ↓sx_mIILL, ↓sx_mIILLL, ↓sx_qS, ↓sx_qSI, ↓sx_qSIII, sx_rit, sx_rif, sx_rlt, sx_rlf, sx_b0, sx_b1, sx_o0, sx_o1i, sx_o1a, sx_o1l, sx_o2, sx_g0, sx_g1, sx_k1, sx_k2, sx_k3, sx_f1, sx_f2, sx_f3, sx_w0, sx_w1, sx_w2, sx_w3, sx_ts, sx_tn, sx_up, sx_nS1, sx_nS2, sx_nW1, sx_nW2, sx_SW, sx_WS, sy_nS_inj, sy_nW_inj, sx_ob0, sx_ob1, sx_ob2, sx_ob3, sx_ob4, sx_ob5, sx_ob6, sx_ob7, sx_ob8, sx_ob9, sx_ob10, sx_ob11, sx_ob12, sx_ob13, sx_ob14, sx_ob15, sx_ob16, sx_ob17, sx_ob18, sx_ob19, sx_ob20, sx_ob21, sx_ob22, sx_ob23, sx_ob24, sx_ob25, sx_ob26, sx_ob27, sx_ob28, sx_ob29, sx_ob30, sx_ob31, sx_ob32, sx_ob33, sx_ob34, sx_ob35, sx_ob36, sx_fv0_0, sx_fv0_1, sx_fv0_2, sx_fv0_3, sx_fv0_4, sx_fv0_5, sx_fv1_0, sx_fv1_1, sx_fv1_2, sx_fv3_0, sx_fv3_1, sx_fv3_2, sx_fv3_3, sx_fv3_4, sx_fv7_0, sx_fv7_1, sx_fv7_2, sx_fv7_3, sx_fv7_4, sx_fv7_5, sx_fv7_6, sx_fv7_7, sx_fv7_8, sx_fv7_9, sx_fv7_10, sx_fv9_0, sx_fv9_1, sx_fv9_2, sx_fv9_3, sx_fv11_0, sx_fv11_1, sx_fv11_2, sx_fv11_3, sx_fv11_4, sx_fv11_5, sx_fv11_6, sx_fv15_0, sx_fv15_1, sx_fv15_2, sx_fv15_3, sx_fv15_4, sx_fv15_5, sx_fv19_0, sx_fv19_1, sx_fv19_2, sx_fv19_3, sx_fv19_4, sx_fv19_5, sx_fv19_6, sx_fv24_0, sx_fv24_1, sx_fv24_2, sx_fv24_3, sx_fv24_4, sx_fv24_5, sx_fv24_6, sx_fv24_7, sx_fv24_8, sx_fv24_9, sx_fv24_10, sx_fv24_11, sx_fv24_12, sx_fv24_13, sx_fv24_14, sx_fv24_15, sx_fv24_16, sx_fv24_17, sx_fv24_18, sx_fvS_0, sx_fvS_1, sx_fvS_2, sx_fvS_3, sx_fvS_4, sx_fvS_5, sx_fvS_6, sx_fvS_7, sx_fvS_8, sx_fvS_9, sx_ar2, sx_ar4, sx_ar5, sx_ar6, sx_ar8, sx_ar10, sx_ar12, sx_ar13, sx_ar14, sx_ar16, sx_ar17, sx_ar18, sx_ar20, sx_ar21, sx_ar22, sx_ar23, sx_ar25, sx_ar26, sx_ar27, sx_ar28, sx_ar29, sx_ar30, sx_ar31, sx_ar32, sx_ar33, sx_ar34, sx_ar35, sx_ar36, sy_ob_S, sy_ob_W, sy_ar_W, sx_if0, sx_if1, sx_ie0, sx_em, Classical.not_not, sx_cle, sx_clt, sx_cge, sx_cgt, sx_ceq, Nat.reduceLT, Nat.reduceLeDiff, Nat.reduceAdd, Nat.reduceSub, Nat.reduceEqDiff, reduceIte, List.length_cons, List.length_nil, true_and, and_true, and_self, Bool.false_eq_true, true_implies, not_true_eq_false, not_false_eq_true, false_implies, implies_true, ne_eq, reduceCtorEq, Option.some.injEq, false_and, and_false, Int.reduceNeg, Int.reduceToNat, Int.reduceLT, Int.reduceLE, Int.reduceEq, Int.reduceAdd, Int.reduceSub, Int.reduceMul, or_false, false_or, or_true, true_or, forall_const, Int.toNat_natCast, Int.toNat_zero, Int.toNat_one, Nat.zero_add, or_self, Int.neg_eq_zero]
      rw [c_fw_11, hs.1]
      refine ⟨fun _ => ?_, fun q => by omega⟩
      rw [show s = ns by omega]
      exact h
    | succ d ih =>
      intro s h1
      refine hgo 100 _ _ _ _ ?_
      simp -implicitDefEqProofs only [↓rx_7_forgetWidths_0, ↓rx_7_forgetWidths_1, ↓rx_7_forgetWidths_2, ↓rx_7_forgetWidths_3, ↓rx_7_forgetWidths_4, ↓rx_7_forgetWidths_7, ↓rx_7_forgetWidths_10, ↓rx_7_forgetWidths_11, ↓rx_7_forgetWidths_12, ↓rx_7_forgetWidths_15, ↓rx_7_forgetWidths_16, ↓rx_7_forgetWidths_17, ↓rx_7_forgetWidths_17_n, ↓rx_7_forgetWidths_20, ↓rx_7_forgetWidths_21, ↓rx_7_forgetWidths_22, ↓rx_7_forgetWidths_25, ↓rx_7_forgetWidths_28, ↓rx_7_forgetWidths_31, ↓cx_7_forgetWidths_31, sp_7_at, ↓sx_s1, ↓sx_s2, ↓sx_s3, ↓sx_s4, ↓sx_s5, ↓sx_s6, ↓sx_m0, ↓sx_m1, ↓sx_m2, ↓sx_m3, ↓sx_m4, ↓sx_m5, ↓sx_m6, ↓sx_k0_, ↓sx_k1_, ↓sx_k2_, ↓sx_k3_, ↓sx_k4_, ↓sx_k5_, ↓sx_k6_, ↓sx_sLL, ↓sx_sAI, ↓sx_mLL, ↓sx_mIIL, ↓sx_mIILL, ↓sx_mIILLL, ↓sx_qS, ↓sx_qSI, ↓sx_qSIII, sx_rit, sx_rif, sx_rlt, sx_rlf, sx_b0, sx_b1, sx_o0, sx_o1i, sx_o1a, sx_o1l, sx_o2, sx_g0, sx_g1, sx_k1, sx_k2, sx_k3, sx_f1, sx_f2, sx_f3, sx_w0, sx_w1, sx_w2, sx_w3, sx_ts, sx_tn, sx_up, sx_nS1, sx_nS2, sx_nW1, sx_nW2, sx_SW, sx_WS, sy_nS_inj, sy_nW_inj, sx_ob0, sx_ob1, sx_ob2, sx_ob3, sx_ob4, sx_ob5, sx_ob6, sx_ob7, sx_ob8, sx_ob9, sx_ob10, sx_ob11, sx_ob12, sx_ob13, sx_ob14, sx_ob15, sx_ob16, sx_ob17, sx_ob18, sx_ob19, sx_ob20, sx_ob21, sx_ob22, sx_ob23, sx_ob24, sx_ob25, sx_ob26, sx_ob27, sx_ob28, sx_ob29, sx_ob30, sx_ob31, sx_ob32, sx_ob33, sx_ob34, sx_ob35, sx_ob36, sx_fv0_0, sx_fv0_1, sx_fv0_2, sx_fv0_3, sx_fv0_4, sx_fv0_5, sx_fv1_0, sx_fv1_1, sx_fv1_2, sx_fv3_0, sx_fv3_1, sx_fv3_2, sx_fv3_3, sx_fv3_4, sx_fv7_0, sx_fv7_1, sx_fv7_2, sx_fv7_3, sx_fv7_4, sx_fv7_5, sx_fv7_6, sx_fv7_7, sx_fv7_8, sx_fv7_9, sx_fv7_10, sx_fv9_0, sx_fv9_1, sx_fv9_2, sx_fv9_3, sx_fv11_0, sx_fv11_1, sx_fv11_2, sx_fv11_3, sx_fv11_4, sx_fv11_5, sx_fv11_6, sx_fv15_0, sx_fv15_1, sx_fv15_2, sx_fv15_3, sx_fv15_4, sx_fv15_5, sx_fv19_0, sx_fv19_1, sx_fv19_2, sx_fv19_3, sx_fv19_4, sx_fv19_5, sx_fv19_6, sx_fv24_0, sx_fv24_1, sx_fv24_2, sx_fv24_3, sx_fv24_4, sx_fv24_5, sx_fv24_6, sx_fv24_7, sx_fv24_8, sx_fv24_9, sx_fv24_10, sx_fv24_11, sx_fv24_12, sx_fv24_13, sx_fv24_14, sx_fv24_15, sx_fv24_16, sx_fv24_17, sx_fv24_18, sx_fvS_0, sx_fvS_1, sx_fvS_2, sx_fvS_3, sx_fvS_4, sx_fvS_5, sx_fvS_6, sx_fvS_7, sx_fvS_8, sx_fvS_9, sx_ar2, sx_ar4, sx_ar5, sx_ar6, sx_ar8, sx_ar10, sx_ar12, sx_ar13, sx_ar14, sx_ar16, sx_ar17, sx_ar18, sx_ar20, sx_ar21, sx_ar22, sx_ar23, sx_ar25, sx_ar26, sx_ar27, sx_ar28, sx_ar29, sx_ar30, sx_ar31, sx_ar32, sx_ar33, sx_ar34, sx_ar35, sx_ar36, sy_ob_S, sy_ob_W, sy_ar_W, sx_if0, sx_if1, sx_ie0, sx_em, Classical.not_not, sx_cle, sx_clt, sx_cge, sx_cgt, sx_ceq, Nat.reduceLT, Nat.reduceLeDiff, Nat.reduceAdd, Nat.reduceSub, Nat.reduceEqDiff, reduceIte, List.length_cons, List.length_nil, true_and, and_true, and_self, Bool.false_eq_true, true_implies, not_true_eq_false, not_false_eq_true, false_implies, implies_true, ne_eq, reduceCtorEq, Option.some.injEq, false_and, and_false, Int.reduceNeg, Int.reduceToNat, Int.reduceLT, Int.reduceLE, Int.reduceEq, Int.reduceAdd, Int.reduceSub, Int.reduceMul, or_false, false_or, or_true, true_or, forall_const, Int.toNat_natCast, Int.toNat_zero, Int.toNat_one, Nat.zero_add, or_self, Int.neg_eq_zero]
      rw [c_fw_11, hs.1]
      have i1 := ih (s + 1) (by omega)
      have e : ((s : Int) + 1) = ((s + 1 : Nat) : Int) := by omega
      rw [e]
      have hs2 : c_site ns (c_fw st s) := by unfold c_site; rw [c_fw_11]; exact hs
      have j1 : ∀ w : sy_V, WA 2 [.inr (.inr (some (some 1))), .inl (true, ((s + 1 : Nat) : Int)), w] [] (c_fw st (s + 1)) := fun w => hwk _ _ _ _ _ (by exact ⟨Or.inl rfl, Or.inl rfl, Or.inr rfl, trivial⟩) i1
      exact ⟨fun q => by omega, fun _ => ⟨hs2, fun _ => ⟨by omega, j1 _⟩, fun q => by omega⟩⟩
  refine hgo 100 _ _ _ _ ?_
  simp -implicitDefEqProofs only [↓rx_7_forgetWidths_0, ↓rx_7_forgetWidths_1, ↓rx_7_forgetWidths_2, ↓rx_7_forgetWidths_3, ↓rx_7_forgetWidths_4, ↓rx_7_forgetWidths_7, ↓rx_7_forgetWidths_10, ↓rx_7_forgetWidths_11, ↓rx_7_forgetWidths_12, ↓rx_7_forgetWidths_15, ↓rx_7_forgetWidths_16, ↓rx_7_forgetWidths_17, ↓rx_7_forgetWidths_17_n, ↓rx_7_forgetWidths_20, ↓rx_7_forgetWidths_21, ↓rx_7_forgetWidths_22, ↓rx_7_forgetWidths_25, ↓rx_7_forgetWidths_28, ↓rx_7_forgetWidths_31, ↓cx_7_forgetWidths_31, sp_7_at, ↓sx_s1, ↓sx_s2, ↓sx_s3, ↓sx_s4, ↓sx_s5, ↓sx_s6, ↓sx_m0, ↓sx_m1, ↓sx_m2, ↓sx_m3, ↓sx_m4, ↓sx_m5, ↓sx_m6, ↓sx_k0_, ↓sx_k1_, ↓sx_k2_, ↓sx_k3_, ↓sx_k4_, ↓sx_k5_, ↓sx_k6_, ↓sx_sLL, ↓sx_sAI, ↓sx_mLL, ↓sx_mIIL, ↓sx_mIILL, ↓sx_mIILLL, ↓sx_qS, ↓sx_qSI, ↓sx_qSIII, sx_rit, sx_rif, sx_rlt, sx_rlf, sx_b0, sx_b1, sx_o0, sx_o1i, sx_o1a, sx_o1l, sx_o2, sx_g0, sx_g1, sx_k1, sx_k2, sx_k3, sx_f1, sx_f2, sx_f3, sx_w0, sx_w1, sx_w2, sx_w3, sx_ts, sx_tn, sx_up, sx_nS1, sx_nS2, sx_nW1, sx_nW2, sx_SW, sx_WS, sy_nS_inj, sy_nW_inj, sx_ob0, sx_ob1, sx_ob2, sx_ob3, sx_ob4, sx_ob5, sx_ob6, sx_ob7, sx_ob8, sx_ob9, sx_ob10, sx_ob11, sx_ob12, sx_ob13, sx_ob14, sx_ob15, sx_ob16, sx_ob17, sx_ob18, sx_ob19, sx_ob20, sx_ob21, sx_ob22, sx_ob23, sx_ob24, sx_ob25, sx_ob26, sx_ob27, sx_ob28, sx_ob29, sx_ob30, sx_ob31, sx_ob32, sx_ob33, sx_ob34, sx_ob35, sx_ob36, sx_fv0_0, sx_fv0_1, sx_fv0_2, sx_fv0_3, sx_fv0_4, sx_fv0_5, sx_fv1_0, sx_fv1_1, sx_fv1_2, sx_fv3_0, sx_fv3_1, sx_fv3_2, sx_fv3_3, sx_fv3_4, sx_fv7_0, sx_fv7_1, sx_fv7_2, sx_fv7_3, sx_fv7_4, sx_fv7_5, sx_fv7_6, sx_fv7_7, sx_fv7_8, sx_fv7_9, sx_fv7_10, sx_fv9_0, sx_fv9_1, sx_fv9_2, sx_fv9_3, sx_fv11_0, sx_fv11_1, sx_fv11_2, sx_fv11_3, sx_fv11_4, sx_fv11_5, sx_fv11_6, sx_fv15_0, sx_fv15_1, sx_fv15_2, sx_fv15_3, sx_fv15_4, sx_fv15_5, sx_fv19_0, sx_fv19_1, sx_fv19_2, sx_fv19_3, sx_fv19_4, sx_fv19_5, sx_fv19_6, sx_fv24_0, sx_fv24_1, sx_fv24_2, sx_fv24_3, sx_fv24_4, sx_fv24_5, sx_fv24_6, sx_fv24_7, sx_fv24_8, sx_fv24_9, sx_fv24_10, sx_fv24_11, sx_fv24_12, sx_fv24_13, sx_fv24_14, sx_fv24_15, sx_fv24_16, sx_fv24_17, sx_fv24_18, sx_fvS_0, sx_fvS_1, sx_fvS_2, sx_fvS_3, sx_fvS_4, sx_fvS_5, sx_fvS_6, sx_fvS_7, sx_fvS_8, sx_fvS_9, sx_ar2, sx_ar4, sx_ar5, sx_ar6, sx_ar8, sx_ar10, sx_ar12, sx_ar13, sx_ar14, sx_ar16, sx_ar17, sx_ar18, sx_ar20, sx_ar21, sx_ar22, sx_ar23, sx_ar25, sx_ar26, sx_ar27, sx_ar28, sx_ar29, sx_ar30, sx_ar31, sx_ar32, sx_ar33, sx_ar34, sx_ar35, sx_ar36, sy_ob_S, sy_ob_W, sy_ar_W, sx_if0, sx_if1, sx_ie0, sx_em, Classical.not_not, sx_cle, sx_clt, sx_cge, sx_cgt, sx_ceq, Nat.reduceLT, Nat.reduceLeDiff, Nat.reduceAdd, Nat.reduceSub, Nat.reduceEqDiff, reduceIte, List.length_cons, List.length_nil, true_and, and_true, and_self, Bool.false_eq_true, true_implies, not_true_eq_false, not_false_eq_true, false_implies, implies_true, ne_eq, reduceCtorEq, Option.some.injEq, false_and, and_false, Int.reduceNeg, Int.reduceToNat, Int.reduceLT, Int.reduceLE, Int.reduceEq, Int.reduceAdd, Int.reduceSub, Int.reduceMul, or_false, false_or, or_true, true_or, forall_const, Int.toNat_natCast, Int.toNat_zero, Int.toNat_one, Nat.zero_add, or_self, Int.neg_eq_zero]
  exact key ns 0 (by omega)
def sp_7_isTaken (ns : Nat) : sy_Sp := sy_m1 1 fun y st post => c_site ns st ∧ post (some (.inl (true, if xe (fun i => decide (st (sy_nS i) 0 = y)) ns = true then 1 else 0))) st
def ct_7_isTaken (ns q : Nat) : Option (Bool × Nat × sy_Sp) := match q with
  | 31 => some (false, 2, sp_7_at ns)
  | _ => none
abbrev M_7_isTaken (ns : Nat) : sy_M := Mk_7_isTaken (ct_7_isTaken ns)
theorem cx_7_isTaken_31 {ns : Nat} {v1 v2 : sy_V} {r : List sy_V} {s : sy_S} {f : List sy_V → sy_S → Prop} : sy_call false (ct_7_isTaken ns 31) (v2 :: v1 :: r) s f = (sy_wd r ≤ 8 ∧ (sy_fit v2 ∧ sy_fit v1) ∧ sp_7_at ns [sy_kn v1, sy_kn v2] s (fun q t => f (q.toList ++ r) t)) := sx_call2
theorem mv_7_isTaken (ns : Nat) : sy_MV c_7_isTaken y_7_isTaken.cls (some .boolean) (M_7_isTaken ns) := ⟨tv_7_isTaken, ff_7_ok, ki_7_ok, kl_7_ok⟩
abbrev rm_7_isTaken : Room := { frames := 1, cells := 0, slots := 0, locals := 21 }
theorem co_7_isTaken (l : Launch) : sy_calls l rm_7_isTaken y_7_isTaken.cls c_7_isTaken 4 (fun ns => (M_7_isTaken ns).2.2.2.2.1) := by
  intro p e s m args below meth c rt wd ad ns A Q X hA q b n sp h
  replace h : ct_7_isTaken ns q = some (b, n, sp) := h
  unfold ct_7_isTaken at h
  split at h
  · cases h; exact sy_coV (ci := 7) X hA (mc_7_at l) ⟨iw_7_at.1, iw_7_at.2.1, iw_7_at.2.2, ⟨by decide, by decide⟩, rfl, rfl⟩ (sy_inx 314 (by decide +kernel) (by decide +kernel)) ii_7_at.1 ii_7_at.2 (rc_7_at ns) ⟨_, rfl, rfl⟩
  · cases h
theorem rc_7_isTaken (ns : Nat) (as : List sy_V) (st : sy_S) (post : sy_R) (h : sp_7_isTaken ns as st post) : ∃ b as', as = .inr (.inr (some (some b))) :: as' ∧ sy_ob b = some 7 := sy_m1_r rfl as st post h
theorem mc_7_isTaken (l : Launch) : sy_MC l y_7_isTaken c_7_isTaken 4 (some .boolean) rm_7_isTaken sp_7_isTaken := by
  refine sy_meth M_7_isTaken (by decide +kernel) mv_7_isTaken (co_7_isTaken l) ?_
  intro ns as st post WA h hok hrg ⟨hgo0, hin, hwk⟩
  have hgo : ∀ (n pc : Nat) (L k : List sy_V) (st : sy_S), rn_7_isTaken ns (ct_7_isTaken ns) post WA n pc L k st → WA pc L k st := fun n pc L k st h => hgo0 [2] n pc L k st h
  replace h := sy_m1_e h hok
  obtain ⟨y, rfl, hy, h⟩ := h
  refine ⟨Nat.le_of_ble_eq_true rfl, ?_⟩
  show WA 0 [.inr (.inr (some (some 1))), .inl (true, y), .inr (.inr none), .inr (.inr none)] [] st
  obtain ⟨hs, h⟩ := h
  have hs' := hs
  unfold c_site at hs
  have key : ∀ (d s : Nat), s + d = ns → xe (fun i => decide (st (sy_nS i) 0 = y)) s = false → WA 2 [.inr (.inr (some (some 1))), .inl (true, y), .inl (true, (s : Int)), .inr (.inr none)] [] st := by
    intro d
    induction d with
    | zero =>
      intro s h1 hx
      refine hgo 100 _ _ _ _ ?_
      simp -implicitDefEqProofs only [↓rx_7_isTaken_0, ↓rx_7_isTaken_1, ↓rx_7_isTaken_2, ↓rx_7_isTaken_3, ↓rx_7_isTaken_4, ↓rx_7_isTaken_7, ↓rx_7_isTaken_10, ↓rx_7_isTaken_11, ↓rx_7_isTaken_12, ↓rx_7_isTaken_15, ↓rx_7_isTaken_16, ↓rx_7_isTaken_17, ↓rx_7_isTaken_17_n, ↓rx_7_isTaken_20, ↓rx_7_isTaken_21, ↓rx_7_isTaken_24, ↓rx_7_isTaken_25, ↓rx_7_isTaken_28, ↓rx_7_isTaken_29, ↓rx_7_isTaken_30, ↓rx_7_isTaken_33, ↓rx_7_isTaken_36, ↓rx_7_isTaken_37, ↓cx_7_isTaken_31, sp_7_at, ↓sx_s1, ↓sx_s2, ↓sx_s3, ↓sx_s4, ↓sx_s5, ↓sx_s6, ↓sx_m0, ↓sx_m1, ↓sx_m2, ↓sx_m3, ↓sx_m4, ↓sx_m5, ↓sx_m6, ↓sx_k0_, ↓sx_k1_, ↓sx_k2_, ↓sx_k3_, ↓sx_k4_, ↓sx_k5_, ↓sx_k6_, ↓sx_sLL, ↓sx_sAI, ↓sx_mLL, ↓sx_mIIL, ↓sx_mIILL, ↓sx_mIILLL, ↓sx_qS, ↓sx_qSI, ↓sx_qSIII, sx_rit, sx_rif, sx_rlt, sx_rlf, sx_b0, sx_b1, sx_o0, sx_o1i, sx_o1a, sx_o1l, sx_o2, sx_g0, sx_g1, sx_k1, sx_k2, sx_k3, sx_f1, sx_f2, sx_f3, sx_w0, sx_w1, sx_w2, sx_w3, sx_ts, sx_tn, sx_up, sx_nS1, sx_nS2, sx_nW1, sx_nW2, sx_SW, sx_WS, sy_nS_inj, sy_nW_inj, sx_ob0, sx_ob1, sx_ob2, sx_ob3, sx_ob4, sx_ob5, sx_ob6, sx_ob7, sx_ob8, sx_ob9, sx_ob10, sx_ob11, sx_ob12, sx_ob13, sx_ob14, sx_ob15, sx_ob16, sx_ob17, sx_ob18, sx_ob19, sx_ob20, sx_ob21, sx_ob22, sx_ob23, sx_ob24, sx_ob25, sx_ob26, sx_ob27, sx_ob28, sx_ob29, sx_ob30, sx_ob31, sx_ob32, sx_ob33, sx_ob34, sx_ob35, sx_ob36, sx_fv0_0, sx_fv0_1, sx_fv0_2, sx_fv0_3, sx_fv0_4, sx_fv0_5, sx_fv1_0, sx_fv1_1, sx_fv1_2, sx_fv3_0, sx_fv3_1, sx_fv3_2, sx_fv3_3, sx_fv3_4, sx_fv7_0, sx_fv7_1, sx_fv7_2, sx_fv7_3, sx_fv7_4, sx_fv7_5, sx_fv7_6, sx_fv7_7, sx_fv7_8, sx_fv7_9, sx_fv7_10, sx_fv9_0, sx_fv9_1, sx_fv9_2, sx_fv9_3, sx_fv11_0, sx_fv11_1, sx_fv11_2, sx_fv11_3, sx_fv11_4, sx_fv11_5, sx_fv11_6, sx_fv15_0, sx_fv15_1, sx_fv15_2, sx_fv15_3, sx_fv15_4, sx_fv15_5, sx_fv19_0, sx_fv19_1, sx_fv19_2, sx_fv19_3, sx_fv19_4, sx_fv19_5, sx_fv19_6, sx_fv24_0, sx_fv24_1, sx_fv24_2, sx_fv24_3, sx_fv24_4, sx_fv24_5, sx_fv24_6, sx_fv24_7, sx_fv24_8, sx_fv24_9, sx_fv24_10, sx_fv24_11, sx_fv24_12, sx_fv24_13, sx_fv24_14, sx_fv24_15, sx_fv24_16, sx_fv24_17, sx_fv24_18, sx_fvS_0, sx_fvS_1, sx_fvS_2, sx_fvS_3, sx_fvS_4, sx_fvS_5, sx_fvS_6, sx_fvS_7, sx_fvS_8, sx_fvS_9, sx_ar2, sx_ar4, sx_ar5, sx_ar6, sx_ar8, sx_ar10, sx_ar12, sx_ar13, sx_ar14, sx_ar16, sx_ar17, sx_ar18, sx_ar20, sx_ar21, sx_ar22, sx_ar23, sx_ar25, sx_ar26, sx_ar27, sx_ar28, sx_ar29, sx_ar30, sx_ar31, sx_ar32, sx_ar33, sx_ar34, sx_ar35, sx_ar36, sy_ob_S, sy_ob_W, sy_ar_W, sx_if0, sx_if1, sx_ie0, sx_em, Classical.not_not, sx_cle, sx_clt, sx_cge, sx_cgt, sx_ceq, Nat.reduceLT, Nat.reduceLeDiff, Nat.reduceAdd, Nat.reduceSub, Nat.reduceEqDiff, reduceIte, List.length_cons, List.length_nil, true_and, and_true, and_self, Bool.false_eq_true, true_implies, not_true_eq_false, not_false_eq_true, false_implies, implies_true, ne_eq, reduceCtorEq, Option.some.injEq, false_and, and_false, Int.reduceNeg, Int.reduceToNat, Int.reduceLT, Int.reduceLE, Int.reduceEq, Int.reduceAdd, Int.reduceSub, Int.reduceMul, or_false, false_or, or_true, true_or, forall_const, Int.toNat_natCast, Int.toNat_zero, Int.toNat_one, Nat.zero_add, or_self, Int.neg_eq_zero]
      rw [hs.1]
      refine ⟨fun _ => ?_, fun q => by omega⟩
      rw [show s = ns by omega] at hx
      rwa [hx, if_neg (by decide)] at h
    | succ d ih =>
      intro s h1 hx
      refine hgo 100 _ _ _ _ ?_
      simp -implicitDefEqProofs only [↓rx_7_isTaken_0, ↓rx_7_isTaken_1, ↓rx_7_isTaken_2, ↓rx_7_isTaken_3, ↓rx_7_isTaken_4, ↓rx_7_isTaken_7, ↓rx_7_isTaken_10, ↓rx_7_isTaken_11, ↓rx_7_isTaken_12, ↓rx_7_isTaken_15, ↓rx_7_isTaken_16, ↓rx_7_isTaken_17, ↓rx_7_isTaken_17_n, ↓rx_7_isTaken_20, ↓rx_7_isTaken_21, ↓rx_7_isTaken_24, ↓rx_7_isTaken_25, ↓rx_7_isTaken_28, ↓rx_7_isTaken_29, ↓rx_7_isTaken_30, ↓rx_7_isTaken_33, ↓rx_7_isTaken_36, ↓rx_7_isTaken_37, ↓cx_7_isTaken_31, sp_7_at, ↓sx_s1, ↓sx_s2, ↓sx_s3, ↓sx_s4, ↓sx_s5, ↓sx_s6, ↓sx_m0, ↓sx_m1, ↓sx_m2, ↓sx_m3, ↓sx_m4, ↓sx_m5, ↓sx_m6, ↓sx_k0_, ↓sx_k1_, ↓sx_k2_, ↓sx_k3_, ↓sx_k4_, ↓sx_k5_, ↓sx_k6_, ↓sx_sLL, ↓sx_sAI, ↓sx_mLL, ↓sx_mIIL, ↓sx_mIILL, ↓sx_mIILLL, ↓sx_qS, ↓sx_qSI, ↓sx_qSIII, sx_rit, sx_rif, sx_rlt, sx_rlf, sx_b0, sx_b1, sx_o0, sx_o1i, sx_o1a, sx_o1l, sx_o2, sx_g0, sx_g1, sx_k1, sx_k2, sx_k3, sx_f1, sx_f2, sx_f3, sx_w0, sx_w1, sx_w2, sx_w3, sx_ts, sx_tn, sx_up, sx_nS1, sx_nS2, sx_nW1, sx_nW2, sx_SW, sx_WS, sy_nS_inj, sy_nW_inj, sx_ob0, sx_ob1, sx_ob2, sx_ob3, sx_ob4, sx_ob5, sx_ob6, sx_ob7, sx_ob8, sx_ob9, sx_ob10, sx_ob11, sx_ob12, sx_ob13, sx_ob14, sx_ob15, sx_ob16, sx_ob17, sx_ob18, sx_ob19, sx_ob20, sx_ob21, sx_ob22, sx_ob23, sx_ob24, sx_ob25, sx_ob26, sx_ob27, sx_ob28, sx_ob29, sx_ob30, sx_ob31, sx_ob32, sx_ob33, sx_ob34, sx_ob35, sx_ob36, sx_fv0_0, sx_fv0_1, sx_fv0_2, sx_fv0_3, sx_fv0_4, sx_fv0_5, sx_fv1_0, sx_fv1_1, sx_fv1_2, sx_fv3_0, sx_fv3_1, sx_fv3_2, sx_fv3_3, sx_fv3_4, sx_fv7_0, sx_fv7_1, sx_fv7_2, sx_fv7_3, sx_fv7_4, sx_fv7_5, sx_fv7_6, sx_fv7_7, sx_fv7_8, sx_fv7_9, sx_fv7_10, sx_fv9_0, sx_fv9_1, sx_fv9_2, sx_fv9_3, sx_fv11_0, sx_fv11_1, sx_fv11_2, sx_fv11_3, sx_fv11_4, sx_fv11_5, sx_fv11_6, sx_fv15_0, sx_fv15_1, sx_fv15_2, sx_fv15_3, sx_fv15_4, sx_fv15_5, sx_fv19_0, sx_fv19_1, sx_fv19_2, sx_fv19_3, sx_fv19_4, sx_fv19_5, sx_fv19_6, sx_fv24_0, sx_fv24_1, sx_fv24_2, sx_fv24_3, sx_fv24_4, sx_fv24_5, sx_fv24_6, sx_fv24_7, sx_fv24_8, sx_fv24_9, sx_fv24_10, sx_fv24_11, sx_fv24_12, sx_fv24_13, sx_fv24_14, sx_fv24_15, sx_fv24_16, sx_fv24_17, sx_fv24_18, sx_fvS_0, sx_fvS_1, sx_fvS_2, sx_fvS_3, sx_fvS_4, sx_fvS_5, sx_fvS_6, sx_fvS_7, sx_fvS_8, sx_fvS_9, sx_ar2, sx_ar4, sx_ar5, sx_ar6, sx_ar8, sx_ar10, sx_ar12, sx_ar13, sx_ar14, sx_ar16, sx_ar17, sx_ar18, sx_ar20, sx_ar21, sx_ar22, sx_ar23, sx_ar25, sx_ar26, sx_ar27, sx_ar28, sx_ar29, sx_ar30, sx_ar31, sx_ar32, sx_ar33, sx_ar34, sx_ar35, sx_ar36, sy_ob_S, sy_ob_W, sy_ar_W, sx_if0, sx_if1, sx_ie0, sx_em, Classical.not_not, sx_cle, sx_clt, sx_cge, sx_cgt, sx_ceq, Nat.reduceLT, Nat.reduceLeDiff, Nat.reduceAdd, Nat.reduceSub, Nat.reduceEqDiff, reduceIte, List.length_cons, List.length_nil, true_and, and_true, and_self, Bool.false_eq_true, true_implies, not_true_eq_false, not_false_eq_true, false_implies, implies_true, ne_eq, reduceCtorEq, Option.some.injEq, false_and, and_false, Int.reduceNeg, Int.reduceToNat, Int.reduceLT, Int.reduceLE, Int.reduceEq, Int.reduceAdd, Int.reduceSub, Int.reduceMul, or_false, false_or, or_true, true_or, forall_const, Int.toNat_natCast, Int.toNat_zero, Int.toNat_one, Nat.zero_add, or_self, Int.neg_eq_zero]
      rw [hs.1]
      have e : ((s : Int) + 1) = ((s + 1 : Nat) : Int) := by omega
      rw [e]
      refine ⟨fun q => by omega, fun _ => ⟨hs', fun _ => ⟨fun c => ⟨by omega, ?_⟩, fun c => ?_⟩, fun q => by omega⟩⟩
      · have i1 := ih (s + 1) (by omega) (by simp [xe, hx, c])
        exact hwk _ _ _ _ _ (by exact ⟨Or.inl rfl, Or.inl rfl, Or.inl rfl, Or.inr rfl, trivial⟩) i1
      · have hy : xe (fun i => decide (st (sy_nS i) 0 = y)) (s + 1) = true := by simp [xe, c]
        have hz : ∀ e, xe (fun i => decide (st (sy_nS i) 0 = y)) (s + 1 + e) = true := fun e => by
          induction e with
          | zero => exact hy
          | succ e ih2 => rw [← Nat.add_assoc]; simp only [xe, ih2, Bool.true_or]
        have := hz (ns - (s + 1))
        rw [show s + 1 + (ns - (s + 1)) = ns by omega] at this
        rwa [this, if_pos rfl] at h
  refine hgo 100 _ _ _ _ ?_
  simp -implicitDefEqProofs only [↓rx_7_isTaken_0, ↓rx_7_isTaken_1, ↓rx_7_isTaken_2, ↓rx_7_isTaken_3, ↓rx_7_isTaken_4, ↓rx_7_isTaken_7, ↓rx_7_isTaken_10, ↓rx_7_isTaken_11, ↓rx_7_isTaken_12, ↓rx_7_isTaken_15, ↓rx_7_isTaken_16, ↓rx_7_isTaken_17, ↓rx_7_isTaken_17_n, ↓rx_7_isTaken_20, ↓rx_7_isTaken_21, ↓rx_7_isTaken_24, ↓rx_7_isTaken_25, ↓rx_7_isTaken_28, ↓rx_7_isTaken_29, ↓rx_7_isTaken_30, ↓rx_7_isTaken_33, ↓rx_7_isTaken_36, ↓rx_7_isTaken_37, ↓cx_7_isTaken_31, sp_7_at, ↓sx_s1, ↓sx_s2, ↓sx_s3, ↓sx_s4, ↓sx_s5, ↓sx_s6, ↓sx_m0, ↓sx_m1, ↓sx_m2, ↓sx_m3, ↓sx_m4, ↓sx_m5, ↓sx_m6, ↓sx_k0_, ↓sx_k1_, ↓sx_k2_, ↓sx_k3_, ↓sx_k4_, ↓sx_k5_, ↓sx_k6_, ↓sx_sLL, ↓sx_sAI, ↓sx_mLL, ↓sx_mIIL, ↓sx_mIILL, ↓sx_mIILLL, ↓sx_qS, ↓sx_qSI, ↓sx_qSIII, sx_rit, sx_rif, sx_rlt, sx_rlf, sx_b0, sx_b1, sx_o0, sx_o1i, sx_o1a, sx_o1l, sx_o2, sx_g0, sx_g1, sx_k1, sx_k2, sx_k3, sx_f1, sx_f2, sx_f3, sx_w0, sx_w1, sx_w2, sx_w3, sx_ts, sx_tn, sx_up, sx_nS1, sx_nS2, sx_nW1, sx_nW2, sx_SW, sx_WS, sy_nS_inj, sy_nW_inj, sx_ob0, sx_ob1, sx_ob2, sx_ob3, sx_ob4, sx_ob5, sx_ob6, sx_ob7, sx_ob8, sx_ob9, sx_ob10, sx_ob11, sx_ob12, sx_ob13, sx_ob14, sx_ob15, sx_ob16, sx_ob17, sx_ob18, sx_ob19, sx_ob20, sx_ob21, sx_ob22, sx_ob23, sx_ob24, sx_ob25, sx_ob26, sx_ob27, sx_ob28, sx_ob29, sx_ob30, sx_ob31, sx_ob32, sx_ob33, sx_ob34, sx_ob35, sx_ob36, sx_fv0_0, sx_fv0_1, sx_fv0_2, sx_fv0_3, sx_fv0_4, sx_fv0_5, sx_fv1_0, sx_fv1_1, sx_fv1_2, sx_fv3_0, sx_fv3_1, sx_fv3_2, sx_fv3_3, sx_fv3_4, sx_fv7_0, sx_fv7_1, sx_fv7_2, sx_fv7_3, sx_fv7_4, sx_fv7_5, sx_fv7_6, sx_fv7_7, sx_fv7_8, sx_fv7_9, sx_fv7_10, sx_fv9_0, sx_fv9_1, sx_fv9_2, sx_fv9_3, sx_fv11_0, sx_fv11_1, sx_fv11_2, sx_fv11_3, sx_fv11_4, sx_fv11_5, sx_fv11_6, sx_fv15_0, sx_fv15_1, sx_fv15_2, sx_fv15_3, sx_fv15_4, sx_fv15_5, sx_fv19_0, sx_fv19_1, sx_fv19_2, sx_fv19_3, sx_fv19_4, sx_fv19_5, sx_fv19_6, sx_fv24_0, sx_fv24_1, sx_fv24_2, sx_fv24_3, sx_fv24_4, sx_fv24_5, sx_fv24_6, sx_fv24_7, sx_fv24_8, sx_fv24_9, sx_fv24_10, sx_fv24_11, sx_fv24_12, sx_fv24_13, sx_fv24_14, sx_fv24_15, sx_fv24_16, sx_fv24_17, sx_fv24_18, sx_fvS_0, sx_fvS_1, sx_fvS_2, sx_fvS_3, sx_fvS_4, sx_fvS_5, sx_fvS_6, sx_fvS_7, sx_fvS_8, sx_fvS_9, sx_ar2, sx_ar4, sx_ar5, sx_ar6, sx_ar8, sx_ar10, sx_ar12, sx_ar13, sx_ar14, sx_ar16, sx_ar17, sx_ar18, sx_ar20, sx_ar21, sx_ar22, sx_ar23, sx_ar25, sx_ar26, sx_ar27, sx_ar28, sx_ar29, sx_ar30, sx_ar31, sx_ar32, sx_ar33, sx_ar34, sx_ar35, sx_ar36, sy_ob_S, sy_ob_W, sy_ar_W, sx_if0, sx_if1, sx_ie0, sx_em, Classical.not_not, sx_cle, sx_clt, sx_cge, sx_cgt, sx_ceq, Nat.reduceLT, Nat.reduceLeDiff, Nat.reduceAdd, Nat.reduceSub, Nat.reduceEqDiff, reduceIte, List.length_cons, List.length_nil, true_and, and_true, and_self, Bool.false_eq_true, true_implies, not_true_eq_false, not_false_eq_true, false_implies, implies_true, ne_eq, reduceCtorEq, Option.some.injEq, false_and, and_false, Int.reduceNeg, Int.reduceToNat, Int.reduceLT, Int.reduceLE, Int.reduceEq, Int.reduceAdd, Int.reduceSub, Int.reduceMul, or_false, false_or, or_true, true_or, forall_const, Int.toNat_natCast, Int.toNat_zero, Int.toNat_one, Nat.zero_add, or_self, Int.neg_eq_zero]
  exact key ns 0 (by omega) rfl
