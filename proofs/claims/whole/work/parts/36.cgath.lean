/-! THE CLASS: the planner's band -/
/-- where y goes among the first n -/
def xi_pos (H : Nat → Int) (y : Int) : Nat → Nat
  | 0 => 0
  | n + 1 => if H n ≤ y then n + 1 else xi_pos H y n
/-- a row with v put in at p, below n -/
def x_ins (O : Nat → Int) (p n : Nat) (v : Int) : Nat → Int := fun j => if j = p then v else if p < j ∧ j ≤ n then O (j - 1) else O j
/-- a row moved up above a -/
def x_mv (O : Nat → Int) (a n : Nat) : Nat → Int := fun j => if a < j ∧ j ≤ n then O (j - 1) else O j
theorem x_mv_n (O : Nat → Int) (n : Nat) : x_mv O n n = O := by
  funext j
  unfold x_mv
  rw [if_neg (by omega)]
theorem x_mv_up (O : Nat → Int) {a n : Nat} (h : a < n) : x_up1 (x_mv O (a + 1) n) (a + 1) (O a) = x_mv O a n := by
  funext j
  unfold x_up1 x_mv
  by_cases e : j = a + 1
  · subst e
    rw [if_pos rfl, if_pos (by omega)]
    rfl
  · rw [if_neg e]
    by_cases c : a + 1 < j ∧ j ≤ n
    · rw [if_pos c, if_pos (by omega)]
    · rw [if_neg c, if_neg (by omega)]
theorem x_mv_ins (O : Nat → Int) (a n : Nat) (v : Int) : x_up1 (x_mv O a n) a v = x_ins O a n v := rfl
theorem x_mv_at (O : Nat → Int) {a n j : Nat} (h : j ≤ a) : x_mv O a n j = O j := by
  unfold x_mv
  rw [if_neg (by omega)]
theorem c_row_up2 (st : sy_S) {a b : Nat} (h : a ≠ b) (g f : Nat → Int) (k : Nat) (z : Int) : sy_up (c_row (c_row st a g) b f) a k z = c_row (c_row st a (x_up1 g k z)) b f := by
  funext n j
  by_cases hn : n = b
  · subst hn
    simp [c_row, sy_up, Ne.symm h]
  · by_cases ha : n = a
    · subst ha
      by_cases hj : j = k
      · simp [c_row, sy_up, x_up1, hn, hj]
      · simp [c_row, sy_up, x_up1, hn, hj]
    · simp [c_row, sy_up, hn, ha]
theorem x_ins_mv (O : Nat → Int) {a n : Nat} (h : a < n) : x_ins O (a + 1) n (O a) = x_mv O a n := x_mv_up O h
def c_2r (st : sy_S) (g f : Nat → Int) : sy_S := c_row (c_row st 20 g) 21 f
def c_ins (st : sy_S) (v y : Int) : sy_S := sy_up (c_2r st (x_ins (st 20) (xi_pos (st 21) y (st 19 3).toNat) (st 19 3).toNat v) (x_ins (st 21) (xi_pos (st 21) y (st 19 3).toNat) (st 19 3).toNat y)) 19 3 (st 19 3 + 1)
theorem c_2r_20 (st : sy_S) (g f : Nat → Int) : c_2r st g f 20 = g := by unfold c_2r; rw [c_row_ne (by decide), c_row_eq]
theorem c_2r_21 (st : sy_S) (g f : Nat → Int) : c_2r st g f 21 = f := by unfold c_2r; rw [c_row_eq]
theorem c_2r_ne (st : sy_S) (g f : Nat → Int) {a : Nat} (h0 : a ≠ 20) (h1 : a ≠ 21) : c_2r st g f a = st a := by unfold c_2r; rw [c_row_ne h1, c_row_ne h0]
theorem c_2r_u20 (st : sy_S) (g f : Nat → Int) (k : Nat) (z : Int) : sy_up (c_2r st g f) 20 k z = c_2r st (x_up1 g k z) f := c_row_up2 st (by decide) g f k z
theorem c_2r_u21 (st : sy_S) (g f : Nat → Int) (k : Nat) (z : Int) : sy_up (c_2r st g f) 21 k z = c_2r st g (x_up1 f k z) := c_row_up _ _ _ _ _
theorem c_2r_self (st : sy_S) : c_2r st (st 20) (st 21) = st := by
  unfold c_2r
  rw [c_row_self]
  exact c_row_self st 21
def sp_4_insert (ns : Nat) : sy_Sp := sy_m2 19 fun v y st post => (0 ≤ st 19 3 ∧ st 19 3 < 16) ∧ post none (c_ins st v y)
def ct_4_insert (ns q : Nat) : Option (Bool × Nat × sy_Sp) := match q with
  | _ => none
abbrev M_4_insert (ns : Nat) : sy_M := Mk_4_insert (ct_4_insert ns)
theorem mv_4_insert (ns : Nat) : sy_MV c_4_insert y_4_insert.cls none (M_4_insert ns) := ⟨tv_4_insert, ff_4_ok, ki_4_ok, kl_4_ok⟩
abbrev rm_4_insert : Room := { frames := 0, cells := 0, slots := 0, locals := 0 }
theorem co_4_insert (l : Launch) : sy_calls l rm_4_insert y_4_insert.cls c_4_insert 4 (fun ns => (M_4_insert ns).2.2.2.2.1) := by
  intro p e s m args below meth c rt wd ad ns A Q X hA q b n sp h
  replace h : ct_4_insert ns q = some (b, n, sp) := h
  unfold ct_4_insert at h
  cases h
theorem rc_4_insert (ns : Nat) (as : List sy_V) (st : sy_S) (post : sy_R) (h : sp_4_insert ns as st post) : ∃ b as', as = .inr (.inr (some (some b))) :: as' ∧ sy_ob b = some 4 := sy_m2_r rfl as st post h
theorem mc_4_insert (l : Launch) : sy_MC l y_4_insert c_4_insert 4 none rm_4_insert sp_4_insert := by
  refine sy_meth M_4_insert (by decide +kernel) mv_4_insert (co_4_insert l) ?_
  intro ns as st post WA h hok hrg ⟨hgo0, hin, hwk⟩
  have hgo : ∀ (n pc : Nat) (L k : List sy_V) (st : sy_S), rn_4_insert ns (ct_4_insert ns) post WA n pc L k st → WA pc L k st := fun n pc L k st h => hgo0 [5] n pc L k st h
  replace h := sy_m2_e h hok
  obtain ⟨v, y, rfl, hv, hy, h⟩ := h
  refine ⟨Nat.le_of_ble_eq_true rfl, ?_⟩
  show WA 0 [.inr (.inr (some (some 19))), .inl (true, v), .inl (true, y), .inr (.inr none)] [] st
  obtain ⟨hn, h⟩ := h
  unfold c_ins at h
  have key : ∀ a : Nat, a ≤ (st 19 3).toNat → xi_pos (st 21) y (st 19 3).toNat = xi_pos (st 21) y a → WA 5 [.inr (.inr (some (some 19))), .inl (true, v), .inl (true, y), .inl (true, (a : Int))] [] (c_2r st (x_mv (st 20) a (st 19 3).toNat) (x_mv (st 21) a (st 19 3).toNat)) := by
    intro a
    induction a with
    | zero =>
      intro ha hp
      refine hgo 100 _ _ _ _ ?_
      simp -implicitDefEqProofs only [↓rx_4_insert_0, ↓rx_4_insert_1, ↓rx_4_insert_4, ↓rx_4_insert_5, ↓rx_4_insert_6, ↓rx_4_insert_9, ↓rx_4_insert_10, ↓rx_4_insert_13, ↓rx_4_insert_14, ↓rx_4_insert_15, ↓rx_4_insert_16, ↓rx_4_insert_17, ↓rx_4_insert_18, ↓rx_4_insert_21, ↓rx_4_insert_22, ↓rx_4_insert_25, ↓rx_4_insert_26, ↓rx_4_insert_27, ↓rx_4_insert_30, ↓rx_4_insert_31, ↓rx_4_insert_32, ↓rx_4_insert_33, ↓rx_4_insert_34, ↓rx_4_insert_35, ↓rx_4_insert_36, ↓rx_4_insert_39, ↓rx_4_insert_40, ↓rx_4_insert_41, ↓rx_4_insert_44, ↓rx_4_insert_45, ↓rx_4_insert_46, ↓rx_4_insert_47, ↓rx_4_insert_48, ↓rx_4_insert_49, ↓rx_4_insert_52, ↓rx_4_insert_55, ↓rx_4_insert_56, ↓rx_4_insert_59, ↓rx_4_insert_60, ↓rx_4_insert_61, ↓rx_4_insert_62, ↓rx_4_insert_63, ↓rx_4_insert_66, ↓rx_4_insert_67, ↓rx_4_insert_68, ↓rx_4_insert_69, ↓rx_4_insert_70, ↓rx_4_insert_70_i, ↓rx_4_insert_71, ↓rx_4_insert_74, ↓rx_4_insert_75, ↓rx_4_insert_76, ↓rx_4_insert_79, c_2r_20, c_2r_21, c_2r_u20, c_2r_u21, x_mv_ins, ↓sx_s1, ↓sx_s2, ↓sx_s3, ↓sx_s4, ↓sx_s5, ↓sx_s6, ↓sx_m0, ↓sx_m1, ↓sx_m2, ↓sx_m3, ↓sx_m4, ↓sx_m5, ↓sx_m6, ↓sx_k0_, ↓sx_k1_, ↓sx_k2_, ↓sx_k3_, ↓sx_k4_, ↓sx_k5_, ↓sx_k6_, ↓sx_sLL, ↓sx_sAI, ↓sx_mLL, ↓sx_mIIL, ↓sx_mIILL, ↓sx_mIILLL, ↓sx_qS, ↓sx_qSI, ↓sx_qSIII, sx_rit, sx_rif, sx_rlt, sx_rlf, sx_b0, sx_b1, sx_o0, sx_o1i, sx_o1a, sx_o1l, sx_o2, sx_g0, sx_g1, sx_k1, sx_k2, sx_k3, sx_f1, sx_f2, sx_f3, sx_w0, sx_w1, sx_w2, sx_w3, sx_ts, sx_tn, sx_up, sx_nS1, sx_nS2, sx_nW1, sx_nW2, sx_SW, sx_WS, sy_nS_inj, sy_nW_inj, sx_ob0, sx_ob1, sx_ob2, sx_ob3, sx_ob4, sx_ob5, sx_ob6, sx_ob7, sx_ob8, sx_ob9, sx_ob10, sx_ob11, sx_ob12, sx_ob13, sx_ob14, sx_ob15, sx_ob16, sx_ob17, sx_ob18, sx_ob19, sx_ob20, sx_ob21, sx_ob22, sx_ob23, sx_ob24, sx_ob25, sx_ob26, sx_ob27, sx_ob28, sx_ob29, sx_ob30, sx_ob31, sx_ob32, sx_ob33, sx_ob34, sx_ob35, sx_ob36, sx_fv0_0, sx_fv0_1, sx_fv0_2, sx_fv0_3, sx_fv0_4, sx_fv0_5, sx_fv1_0, sx_fv1_1, sx_fv1_2, sx_fv3_0, sx_fv3_1, sx_fv3_2, sx_fv3_3, sx_fv3_4, sx_fv7_0, sx_fv7_1, sx_fv7_2, sx_fv7_3, sx_fv7_4, sx_fv7_5, sx_fv7_6, sx_fv7_7, sx_fv7_8, sx_fv7_9, sx_fv7_10, sx_fv9_0, sx_fv9_1, sx_fv9_2, sx_fv9_3, sx_fv11_0, sx_fv11_1, sx_fv11_2, sx_fv11_3, sx_fv11_4, sx_fv11_5, sx_fv11_6, sx_fv15_0, sx_fv15_1, sx_fv15_2, sx_fv15_3, sx_fv15_4, sx_fv15_5, sx_fv19_0, sx_fv19_1, sx_fv19_2, sx_fv19_3, sx_fv19_4, sx_fv19_5, sx_fv19_6, sx_fv24_0, sx_fv24_1, sx_fv24_2, sx_fv24_3, sx_fv24_4, sx_fv24_5, sx_fv24_6, sx_fv24_7, sx_fv24_8, sx_fv24_9, sx_fv24_10, sx_fv24_11, sx_fv24_12, sx_fv24_13, sx_fv24_14, sx_fv24_15, sx_fv24_16, sx_fv24_17, sx_fv24_18, sx_fvS_0, sx_fvS_1, sx_fvS_2, sx_fvS_3, sx_fvS_4, sx_fvS_5, sx_fvS_6, sx_fvS_7, sx_fvS_8, sx_fvS_9, sx_ar2, sx_ar4, sx_ar5, sx_ar6, sx_ar8, sx_ar10, sx_ar12, sx_ar13, sx_ar14, sx_ar16, sx_ar17, sx_ar18, sx_ar20, sx_ar21, sx_ar22, sx_ar23, sx_ar25, sx_ar26, sx_ar27, sx_ar28, sx_ar29, sx_ar30, sx_ar31, sx_ar32, sx_ar33, sx_ar34, sx_ar35, sx_ar36, sy_ob_S, sy_ob_W, sy_ar_W, sx_if0, sx_if1, sx_ie0, sx_em, Classical.not_not, sx_cle, sx_clt, sx_cge, sx_cgt, sx_ceq, Nat.reduceLT, Nat.reduceLeDiff, Nat.reduceAdd, Nat.reduceSub, Nat.reduceEqDiff, reduceIte, List.length_cons, List.length_nil, true_and, and_true, and_self, Bool.false_eq_true, true_implies, not_true_eq_false, not_false_eq_true, false_implies, implies_true, ne_eq, reduceCtorEq, Option.some.injEq, false_and, and_false, Int.reduceNeg, Int.reduceToNat, Int.reduceLT, Int.reduceLE, Int.reduceEq, Int.reduceAdd, Int.reduceSub, Int.reduceMul, or_false, false_or, or_true, true_or, forall_const, Int.toNat_natCast, Int.toNat_zero, Int.toNat_one, Nat.zero_add, or_self, Int.neg_eq_zero]
      rw [c_2r_ne _ _ _ (by decide) (by decide)]
      simp only [xi_pos] at hp
      rw [hp] at h
      exact ⟨fun _ => ⟨by omega, by omega, by omega, h⟩, fun c => by omega⟩
    | succ a ih =>
      intro ha hp
      refine hgo 100 _ _ _ _ ?_
      simp -implicitDefEqProofs only [↓rx_4_insert_0, ↓rx_4_insert_1, ↓rx_4_insert_4, ↓rx_4_insert_5, ↓rx_4_insert_6, ↓rx_4_insert_9, ↓rx_4_insert_10, ↓rx_4_insert_13, ↓rx_4_insert_14, ↓rx_4_insert_15, ↓rx_4_insert_16, ↓rx_4_insert_17, ↓rx_4_insert_18, ↓rx_4_insert_21, ↓rx_4_insert_22, ↓rx_4_insert_25, ↓rx_4_insert_26, ↓rx_4_insert_27, ↓rx_4_insert_30, ↓rx_4_insert_31, ↓rx_4_insert_32, ↓rx_4_insert_33, ↓rx_4_insert_34, ↓rx_4_insert_35, ↓rx_4_insert_36, ↓rx_4_insert_39, ↓rx_4_insert_40, ↓rx_4_insert_41, ↓rx_4_insert_44, ↓rx_4_insert_45, ↓rx_4_insert_46, ↓rx_4_insert_47, ↓rx_4_insert_48, ↓rx_4_insert_49, ↓rx_4_insert_52, ↓rx_4_insert_55, ↓rx_4_insert_56, ↓rx_4_insert_59, ↓rx_4_insert_60, ↓rx_4_insert_61, ↓rx_4_insert_62, ↓rx_4_insert_63, ↓rx_4_insert_66, ↓rx_4_insert_67, ↓rx_4_insert_68, ↓rx_4_insert_69, ↓rx_4_insert_70, ↓rx_4_insert_70_i, ↓rx_4_insert_71, ↓rx_4_insert_74, ↓rx_4_insert_75, ↓rx_4_insert_76, ↓rx_4_insert_79, c_2r_20, c_2r_21, c_2r_u20, c_2r_u21, x_mv_ins, ↓sx_s1, ↓sx_s2, ↓sx_s3, ↓sx_s4, ↓sx_s5, ↓sx_s6, ↓sx_m0, ↓sx_m1, ↓sx_m2, ↓sx_m3, ↓sx_m4, ↓sx_m5, ↓sx_m6, ↓sx_k0_, ↓sx_k1_, ↓sx_k2_, ↓sx_k3_, ↓sx_k4_, ↓sx_k5_, ↓sx_k6_, ↓sx_sLL, ↓sx_sAI, ↓sx_mLL, ↓sx_mIIL, ↓sx_mIILL, ↓sx_mIILLL, ↓sx_qS, ↓sx_qSI, ↓sx_qSIII, sx_rit, sx_rif, sx_rlt, sx_rlf, sx_b0, sx_b1, sx_o0, sx_o1i, sx_o1a, sx_o1l, sx_o2, sx_g0, sx_g1, sx_k1, sx_k2, sx_k3, sx_f1, sx_f2, sx_f3, sx_w0, sx_w1, sx_w2, sx_w3, sx_ts, sx_tn, sx_up, sx_nS1, sx_nS2, sx_nW1, sx_nW2, sx_SW, sx_WS, sy_nS_inj, sy_nW_inj, sx_ob0, sx_ob1, sx_ob2, sx_ob3, sx_ob4, sx_ob5, sx_ob6, sx_ob7, sx_ob8, sx_ob9, sx_ob10, sx_ob11, sx_ob12, sx_ob13, sx_ob14, sx_ob15, sx_ob16, sx_ob17, sx_ob18, sx_ob19, sx_ob20, sx_ob21, sx_ob22, sx_ob23, sx_ob24, sx_ob25, sx_ob26, sx_ob27, sx_ob28, sx_ob29, sx_ob30, sx_ob31, sx_ob32, sx_ob33, sx_ob34, sx_ob35, sx_ob36, sx_fv0_0, sx_fv0_1, sx_fv0_2, sx_fv0_3, sx_fv0_4, sx_fv0_5, sx_fv1_0, sx_fv1_1, sx_fv1_2, sx_fv3_0, sx_fv3_1, sx_fv3_2, sx_fv3_3, sx_fv3_4, sx_fv7_0, sx_fv7_1, sx_fv7_2, sx_fv7_3, sx_fv7_4, sx_fv7_5, sx_fv7_6, sx_fv7_7, sx_fv7_8, sx_fv7_9, sx_fv7_10, sx_fv9_0, sx_fv9_1, sx_fv9_2, sx_fv9_3, sx_fv11_0, sx_fv11_1, sx_fv11_2, sx_fv11_3, sx_fv11_4, sx_fv11_5, sx_fv11_6, sx_fv15_0, sx_fv15_1, sx_fv15_2, sx_fv15_3, sx_fv15_4, sx_fv15_5, sx_fv19_0, sx_fv19_1, sx_fv19_2, sx_fv19_3, sx_fv19_4, sx_fv19_5, sx_fv19_6, sx_fv24_0, sx_fv24_1, sx_fv24_2, sx_fv24_3, sx_fv24_4, sx_fv24_5, sx_fv24_6, sx_fv24_7, sx_fv24_8, sx_fv24_9, sx_fv24_10, sx_fv24_11, sx_fv24_12, sx_fv24_13, sx_fv24_14, sx_fv24_15, sx_fv24_16, sx_fv24_17, sx_fv24_18, sx_fvS_0, sx_fvS_1, sx_fvS_2, sx_fvS_3, sx_fvS_4, sx_fvS_5, sx_fvS_6, sx_fvS_7, sx_fvS_8, sx_fvS_9, sx_ar2, sx_ar4, sx_ar5, sx_ar6, sx_ar8, sx_ar10, sx_ar12, sx_ar13, sx_ar14, sx_ar16, sx_ar17, sx_ar18, sx_ar20, sx_ar21, sx_ar22, sx_ar23, sx_ar25, sx_ar26, sx_ar27, sx_ar28, sx_ar29, sx_ar30, sx_ar31, sx_ar32, sx_ar33, sx_ar34, sx_ar35, sx_ar36, sy_ob_S, sy_ob_W, sy_ar_W, sx_if0, sx_if1, sx_ie0, sx_em, Classical.not_not, sx_cle, sx_clt, sx_cge, sx_cgt, sx_ceq, Nat.reduceLT, Nat.reduceLeDiff, Nat.reduceAdd, Nat.reduceSub, Nat.reduceEqDiff, reduceIte, List.length_cons, List.length_nil, true_and, and_true, and_self, Bool.false_eq_true, true_implies, not_true_eq_false, not_false_eq_true, false_implies, implies_true, ne_eq, reduceCtorEq, Option.some.injEq, false_and, and_false, Int.reduceNeg, Int.reduceToNat, Int.reduceLT, Int.reduceLE, Int.reduceEq, Int.reduceAdd, Int.reduceSub, Int.reduceMul, or_false, false_or, or_true, true_or, forall_const, Int.toNat_natCast, Int.toNat_zero, Int.toNat_one, Nat.zero_add, or_self, Int.neg_eq_zero]
      rw [c_2r_ne _ _ _ (by decide) (by decide)]
      simp only [xi_pos] at hp
      have e1 : (((a + 1 : Nat) : Int) - 1).toNat = a := by omega
      have e2 : ((a + 1 : Nat) : Int) + -1 = (a : Int) := by omega
      rw [e1, e2, x_mv_at _ (Nat.le_succ a), x_mv_at _ (Nat.le_succ a), x_ins_mv (st 20) (show a < (st 19 3).toNat by omega), x_ins_mv (st 21) (show a < (st 19 3).toNat by omega)]
      refine ⟨fun c => by omega, fun _ => ⟨by omega, fun c => ⟨by omega, by omega, by omega, ?_⟩, fun c => ⟨by omega, by omega, by omega, by omega, by omega, ?_⟩⟩⟩
      · rw [if_pos c] at hp
        rw [hp] at h
        exact h
      · rw [if_neg c] at hp
        exact ih (by omega) hp
  refine hgo 100 _ _ _ _ ?_
  simp -implicitDefEqProofs only [↓rx_4_insert_0, ↓rx_4_insert_1, ↓rx_4_insert_4, ↓rx_4_insert_5, ↓rx_4_insert_6, ↓rx_4_insert_9, ↓rx_4_insert_10, ↓rx_4_insert_13, ↓rx_4_insert_14, ↓rx_4_insert_15, ↓rx_4_insert_16, ↓rx_4_insert_17, ↓rx_4_insert_18, ↓rx_4_insert_21, ↓rx_4_insert_22, ↓rx_4_insert_25, ↓rx_4_insert_26, ↓rx_4_insert_27, ↓rx_4_insert_30, ↓rx_4_insert_31, ↓rx_4_insert_32, ↓rx_4_insert_33, ↓rx_4_insert_34, ↓rx_4_insert_35, ↓rx_4_insert_36, ↓rx_4_insert_39, ↓rx_4_insert_40, ↓rx_4_insert_41, ↓rx_4_insert_44, ↓rx_4_insert_45, ↓rx_4_insert_46, ↓rx_4_insert_47, ↓rx_4_insert_48, ↓rx_4_insert_49, ↓rx_4_insert_52, ↓rx_4_insert_55, ↓rx_4_insert_56, ↓rx_4_insert_59, ↓rx_4_insert_60, ↓rx_4_insert_61, ↓rx_4_insert_62, ↓rx_4_insert_63, ↓rx_4_insert_66, ↓rx_4_insert_67, ↓rx_4_insert_68, ↓rx_4_insert_69, ↓rx_4_insert_70, ↓rx_4_insert_70_i, ↓rx_4_insert_71, ↓rx_4_insert_74, ↓rx_4_insert_75, ↓rx_4_insert_76, ↓rx_4_insert_79, ↓sx_s1, ↓sx_s2, ↓sx_s3, ↓sx_s4, ↓sx_s5, ↓sx_s6, ↓sx_m0, ↓sx_m1, ↓sx_m2, ↓sx_m3, ↓sx_m4, ↓sx_m5, ↓sx_m6, ↓sx_k0_, ↓sx_k1_, ↓sx_k2_, ↓sx_k3_, ↓sx_k4_, ↓sx_k5_, ↓sx_k6_, ↓sx_sLL, ↓sx_sAI, ↓sx_mLL, ↓sx_mIIL, ↓sx_mIILL, ↓sx_mIILLL, ↓sx_qS, ↓sx_qSI, ↓sx_qSIII, sx_rit, sx_rif, sx_rlt, sx_rlf, sx_b0, sx_b1, sx_o0, sx_o1i, sx_o1a, sx_o1l, sx_o2, sx_g0, sx_g1, sx_k1, sx_k2, sx_k3, sx_f1, sx_f2, sx_f3, sx_w0, sx_w1, sx_w2, sx_w3, sx_ts, sx_tn, sx_up, sx_nS1, sx_nS2, sx_nW1, sx_nW2, sx_SW, sx_WS, sy_nS_inj, sy_nW_inj, sx_ob0, sx_ob1, sx_ob2, sx_ob3, sx_ob4, sx_ob5, sx_ob6, sx_ob7, sx_ob8, sx_ob9, sx_ob10, sx_ob11, sx_ob12, sx_ob13, sx_ob14, sx_ob15, sx_ob16, sx_ob17, sx_ob18, sx_ob19, sx_ob20, sx_ob21, sx_ob22, sx_ob23, sx_ob24, sx_ob25, sx_ob26, sx_ob27, sx_ob28, sx_ob29, sx_ob30, sx_ob31, sx_ob32, sx_ob33, sx_ob34, sx_ob35, sx_ob36, sx_fv0_0, sx_fv0_1, sx_fv0_2, sx_fv0_3, sx_fv0_4, sx_fv0_5, sx_fv1_0, sx_fv1_1, sx_fv1_2, sx_fv3_0, sx_fv3_1, sx_fv3_2, sx_fv3_3, sx_fv3_4, sx_fv7_0, sx_fv7_1, sx_fv7_2, sx_fv7_3, sx_fv7_4, sx_fv7_5, sx_fv7_6, sx_fv7_7, sx_fv7_8, sx_fv7_9, sx_fv7_10, sx_fv9_0, sx_fv9_1, sx_fv9_2, sx_fv9_3, sx_fv11_0, sx_fv11_1, sx_fv11_2, sx_fv11_3, sx_fv11_4, sx_fv11_5, sx_fv11_6, sx_fv15_0, sx_fv15_1, sx_fv15_2, sx_fv15_3, sx_fv15_4, sx_fv15_5, sx_fv19_0, sx_fv19_1, sx_fv19_2, sx_fv19_3, sx_fv19_4, sx_fv19_5, sx_fv19_6, sx_fv24_0, sx_fv24_1, sx_fv24_2, sx_fv24_3, sx_fv24_4, sx_fv24_5, sx_fv24_6, sx_fv24_7, sx_fv24_8, sx_fv24_9, sx_fv24_10, sx_fv24_11, sx_fv24_12, sx_fv24_13, sx_fv24_14, sx_fv24_15, sx_fv24_16, sx_fv24_17, sx_fv24_18, sx_fvS_0, sx_fvS_1, sx_fvS_2, sx_fvS_3, sx_fvS_4, sx_fvS_5, sx_fvS_6, sx_fvS_7, sx_fvS_8, sx_fvS_9, sx_ar2, sx_ar4, sx_ar5, sx_ar6, sx_ar8, sx_ar10, sx_ar12, sx_ar13, sx_ar14, sx_ar16, sx_ar17, sx_ar18, sx_ar20, sx_ar21, sx_ar22, sx_ar23, sx_ar25, sx_ar26, sx_ar27, sx_ar28, sx_ar29, sx_ar30, sx_ar31, sx_ar32, sx_ar33, sx_ar34, sx_ar35, sx_ar36, sy_ob_S, sy_ob_W, sy_ar_W, sx_if0, sx_if1, sx_ie0, sx_em, Classical.not_not, sx_cle, sx_clt, sx_cge, sx_cgt, sx_ceq, Nat.reduceLT, Nat.reduceLeDiff, Nat.reduceAdd, Nat.reduceSub, Nat.reduceEqDiff, reduceIte, List.length_cons, List.length_nil, true_and, and_true, and_self, Bool.false_eq_true, true_implies, not_true_eq_false, not_false_eq_true, false_implies, implies_true, ne_eq, reduceCtorEq, Option.some.injEq, false_and, and_false, Int.reduceNeg, Int.reduceToNat, Int.reduceLT, Int.reduceLE, Int.reduceEq, Int.reduceAdd, Int.reduceSub, Int.reduceMul, or_false, false_or, or_true, true_or, forall_const, Int.toNat_natCast, Int.toNat_zero, Int.toNat_one, Nat.zero_add, or_self, Int.neg_eq_zero]
  have k0 := key (st 19 3).toNat (by omega) rfl
  rw [x_mv_n, x_mv_n, c_2r_self, Int.toNat_of_nonneg hn.1] at k0
  exact k0
/-- the band: the sites from lo to hi by their heights -/
def xq (ys : Nat → Int) (lo hi : Int) (O : Nat → Int) : Nat → (Nat → Int) × Nat
  | 0 => (O, 0)
  | s + 1 => if lo ≤ ys s ∧ ys s ≤ hi then (x_ins (xq ys lo hi O s).1 (xi_pos (fun j => ys ((xq ys lo hi O s).1 j).toNat) (ys s) (xq ys lo hi O s).2) (xq ys lo hi O s).2 (s : Int), (xq ys lo hi O s).2 + 1) else xq ys lo hi O s
theorem xq_le (ys : Nat → Int) (lo hi : Int) (O : Nat → Int) : ∀ s, (xq ys lo hi O s).2 ≤ s
  | 0 => Nat.le_refl 0
  | s + 1 => by
    have := xq_le ys lo hi O s
    simp only [xq]
    split
    · show (xq ys lo hi O s).2 + 1 ≤ s + 1
      omega
    · omega
theorem xi_le (H : Nat → Int) (y : Int) : ∀ n, xi_pos H y n ≤ n
  | 0 => Nat.le_refl 0
  | n + 1 => by
    have := xi_le H y n
    simp only [xi_pos]
    split <;> omega
theorem xi_ext {H G : Nat → Int} {y : Int} : ∀ n, (∀ j, j < n → H j = G j) → xi_pos H y n = xi_pos G y n
  | 0, _ => rfl
  | n + 1, h => by
    simp only [xi_pos]
    rw [xi_ext n (fun j hj => h j (by omega)), h n (by omega)]
def c_ys (st : sy_S) (i : Nat) : Int := st (sy_nS i) 0
def c_bd (st : sy_S) (O h : Nat → Int) (n : Nat) : sy_S := sy_up (c_2r st O h) 19 3 n
theorem c_bd_ne (st : sy_S) (O h : Nat → Int) (n : Nat) {a : Nat} (h19 : a ≠ 19) (h20 : a ≠ 20) (h21 : a ≠ 21) : c_bd st O h n a = st a := by
  unfold c_bd
  rw [sy_up_ne _ _ h19, c_2r_ne _ _ _ h20 h21]
theorem c_bd_20 (st : sy_S) (O h : Nat → Int) (n : Nat) : c_bd st O h n 20 = O := by
  unfold c_bd
  rw [sy_up_ne _ _ (by decide), c_2r_20]
theorem c_bd_21 (st : sy_S) (O h : Nat → Int) (n : Nat) : c_bd st O h n 21 = h := by
  unfold c_bd
  rw [sy_up_ne _ _ (by decide), c_2r_21]
theorem c_bd_n (st : sy_S) (O h : Nat → Int) (n : Nat) : c_bd st O h n 19 3 = n := rfl
theorem c_2r_bd (st : sy_S) (O h A B : Nat → Int) (n : Nat) : c_2r (c_bd st O h n) A B = c_bd st A B n := by
  funext m
  by_cases h20 : m = 20
  · subst h20; rw [c_2r_20, c_bd_20]
  · by_cases h21 : m = 21
    · subst h21; rw [c_2r_21, c_bd_21]
    · rw [c_2r_ne _ _ _ h20 h21]
      by_cases h19 : m = 19
      · subst h19
        unfold c_bd
        funext k
        simp only [sy_up]
        rw [c_2r_ne _ _ _ (by decide) (by decide), c_2r_ne _ _ _ (by decide) (by decide)]
      · rw [c_bd_ne _ _ _ _ h19 h20 h21, c_bd_ne _ _ _ _ h19 h20 h21]
theorem c_bd_ins (st : sy_S) (O h : Nat → Int) (n : Nat) (v y : Int) : c_ins (c_bd st O h n) v y = c_bd st (x_ins O (xi_pos h y n) n v) (x_ins h (xi_pos h y n) n y) (n + 1) := by
  unfold c_ins
  rw [c_bd_20, c_bd_21, c_bd_n, Int.toNat_natCast, c_2r_bd]
  unfold c_bd
  rw [sy_up_up]
  rfl
theorem c_S_19 (i : Nat) : sy_nS i ≠ 19 ∧ sy_nS i ≠ 20 ∧ sy_nS i ≠ 21 := by unfold sy_nS; omega
theorem x_ins_h {ys : Nat → Int} {O h : Nat → Int} {n s p : Nat} (hp : p ≤ n) (hh : ∀ j, j < n → h j = ys (O j).toNat) : ∀ j, j < n + 1 → x_ins h p n (ys s) j = ys (x_ins O p n (s : Int) j).toNat := fun j hj => by
  unfold x_ins
  by_cases e : j = p
  · rw [if_pos e, if_pos e, Int.toNat_natCast]
  · rw [if_neg e, if_neg e]
    by_cases c : p < j ∧ j ≤ n
    · rw [if_pos c, if_pos c]; exact hh (j - 1) (by omega)
    · rw [if_neg c, if_neg c]; exact hh j (by omega)
def sp_4_gather (ns : Nat) : sy_Sp := sy_m2 19 fun lo hi st post => (c_site ns st ∧ c_rng st) ∧ ∀ h : Nat → Int, (∀ j, j < (xq (c_ys st) lo hi (st 20) ns).2 → h j = c_ys st ((xq (c_ys st) lo hi (st 20) ns).1 j).toNat) → post none (c_bd st (xq (c_ys st) lo hi (st 20) ns).1 h (xq (c_ys st) lo hi (st 20) ns).2)
def ct_4_gather (ns q : Nat) : Option (Bool × Nat × sy_Sp) := match q with
  | 55 => some (false, 2, sp_7_at ns)
  | 64 => some (true, 3, sp_8_within ns)
  | 68 => some (false, 3, sp_4_insert ns)
  | _ => none
abbrev M_4_gather (ns : Nat) : sy_M := Mk_4_gather (ct_4_gather ns)
theorem cx_4_gather_55 {ns : Nat} {v1 v2 : sy_V} {r : List sy_V} {s : sy_S} {f : List sy_V → sy_S → Prop} : sy_call false (ct_4_gather ns 55) (v2 :: v1 :: r) s f = (sy_wd r ≤ 8 ∧ (sy_fit v2 ∧ sy_fit v1) ∧ sp_7_at ns [sy_kn v1, sy_kn v2] s (fun q t => f (q.toList ++ r) t)) := sx_call2
theorem cx_4_gather_64 {ns : Nat} {v1 v2 v3 : sy_V} {r : List sy_V} {s : sy_S} {f : List sy_V → sy_S → Prop} : sy_call true (ct_4_gather ns 64) (v3 :: v2 :: v1 :: r) s f = (sy_wd r ≤ 8 ∧ (sy_fit v3 ∧ sy_fit v2 ∧ sy_fit v1) ∧ sp_8_within ns [sy_kn v1, sy_kn v2, sy_kn v3] s (fun q t => f (q.toList ++ r) t)) := sx_call3
theorem cx_4_gather_68 {ns : Nat} {v1 v2 v3 : sy_V} {r : List sy_V} {s : sy_S} {f : List sy_V → sy_S → Prop} : sy_call false (ct_4_gather ns 68) (v3 :: v2 :: v1 :: r) s f = (sy_wd r ≤ 8 ∧ (sy_fit v3 ∧ sy_fit v2 ∧ sy_fit v1) ∧ sp_4_insert ns [sy_kn v1, sy_kn v2, sy_kn v3] s (fun q t => f (q.toList ++ r) t)) := sx_call3
theorem mv_4_gather (ns : Nat) : sy_MV c_4_gather y_4_gather.cls none (M_4_gather ns) := ⟨tv_4_gather, ff_4_ok, ki_4_ok, kl_4_ok⟩
abbrev rm_4_gather : Room := { frames := 1, cells := 0, slots := 0, locals := 23 }
theorem iw_4_insert : Cond.code y_4_insert c_4_insert 4 none ∈ sy_tb ∧ Cond.initialized y_4_insert.cls ∈ sy_tb ∧ (y_4_insert.cls ≠ "java/lang/invoke/MethodHandle" ∧ y_4_insert.cls ≠ "java/lang/invoke/VarHandle" ∧ (parseMethodDescriptor y_4_insert.desc).map (fun d => d.parameters.length) = some 2) := ⟨sy_inx 754 (by decide +kernel) (by decide +kernel), sy_inx 52 (by decide +kernel) (by decide +kernel), by decide +kernel⟩
theorem ii_4_insert : Cond.instanceMethod y_4_insert ∈ sy_tb ∧ Cond.selects y_4_insert.cls y_4_insert y_4_insert ∈ sy_tb := ⟨sy_inx 753 (by decide +kernel) (by decide +kernel), sy_inx 21 (by decide +kernel) (by decide +kernel)⟩
theorem co_4_gather (l : Launch) : sy_calls l rm_4_gather y_4_gather.cls c_4_gather 5 (fun ns => (M_4_gather ns).2.2.2.2.1) := by
  intro p e s m args below meth c rt wd ad ns A Q X hA q b n sp h
  replace h : ct_4_gather ns q = some (b, n, sp) := h
  unfold ct_4_gather at h
  split at h
  · cases h; exact sy_coV (ci := 7) X hA (mc_7_at l) ⟨iw_7_at.1, iw_7_at.2.1, iw_7_at.2.2, ⟨by decide, by decide⟩, rfl, rfl⟩ (sy_inx 749 (by decide +kernel) (by decide +kernel)) ii_7_at.1 ii_7_at.2 (rc_7_at ns) ⟨_, rfl, rfl⟩
  · cases h; exact sy_coN (host := "StarHide") X hA (mc_8_within l) ⟨iw_8_within.1, iw_8_within.2.1, iw_8_within.2.2, ⟨by decide, by decide⟩, rfl, rfl⟩ (by decide +kernel) is_8_within
  · cases h; exact sy_coV (ci := 4) X hA (mc_4_insert l) ⟨iw_4_insert.1, iw_4_insert.2.1, iw_4_insert.2.2, ⟨by decide, by decide⟩, rfl, rfl⟩ (sy_inx 751 (by decide +kernel) (by decide +kernel)) ii_4_insert.1 ii_4_insert.2 (rc_4_insert ns) ⟨_, rfl, rfl⟩
  · cases h
theorem rc_4_gather (ns : Nat) (as : List sy_V) (st : sy_S) (post : sy_R) (h : sp_4_gather ns as st post) : ∃ b as', as = .inr (.inr (some (some b))) :: as' ∧ sy_ob b = some 4 := sy_m2_r rfl as st post h
theorem mc_4_gather (l : Launch) : sy_MC l y_4_gather c_4_gather 5 none rm_4_gather sp_4_gather := by
  refine sy_meth M_4_gather (by decide +kernel) mv_4_gather (co_4_gather l) ?_
  intro ns as st post WA h hok hrg ⟨hgo0, hin, hwk⟩
  have hgo : ∀ (n pc : Nat) (L k : List sy_V) (st : sy_S), rn_4_gather ns (ct_4_gather ns) post WA n pc L k st → WA pc L k st := fun n pc L k st h => hgo0 [7] n pc L k st h
  replace h := sy_m2_e h hok
  obtain ⟨lo, up, rfl, hlo, hup, h⟩ := h
  refine ⟨Nat.le_of_ble_eq_true rfl, ?_⟩
  show WA 0 [.inr (.inr (some (some 19))), .inl (true, lo), .inl (true, up), .inr (.inr none), .inr (.inr none)] [] st
  obtain ⟨⟨hs, hr⟩, h⟩ := h
  have hs' := hs
  unfold c_site at hs
  have key : ∀ (d s : Nat), s + d = ns → ∀ g : Nat → Int, (∀ j, j < (xq (c_ys st) lo up (st 20) s).2 → g j = c_ys st ((xq (c_ys st) lo up (st 20) s).1 j).toNat) → WA 7 [.inr (.inr (some (some 19))), .inl (true, lo), .inl (true, up), .inl (true, (s : Int)), .inr (.inr none)] [] (c_bd st (xq (c_ys st) lo up (st 20) s).1 g (xq (c_ys st) lo up (st 20) s).2) := by
    intro d
    induction d with
    | zero =>
      intro s hd g hg
      refine hgo 100 _ _ _ _ ?_
      simp -implicitDefEqProofs only [↓rx_4_gather_0, ↓rx_4_gather_1, ↓rx_4_gather_2, ↓rx_4_gather_5, ↓rx_4_gather_6, ↓rx_4_gather_7, ↓rx_4_gather_8, ↓rx_4_gather_9, ↓rx_4_gather_12, ↓rx_4_gather_15, ↓rx_4_gather_18, ↓rx_4_gather_19, ↓rx_4_gather_21, ↓rx_4_gather_24, ↓rx_4_gather_25, ↓rx_4_gather_28, ↓rx_4_gather_29, ↓rx_4_gather_32, ↓rx_4_gather_34, ↓rx_4_gather_36, ↓rx_4_gather_36_n, ↓rx_4_gather_39, ↓rx_4_gather_41, ↓rx_4_gather_44, ↓rx_4_gather_45, ↓rx_4_gather_46, ↓rx_4_gather_49, ↓rx_4_gather_52, ↓rx_4_gather_53, ↓rx_4_gather_54, ↓rx_4_gather_56, ↓rx_4_gather_59, ↓rx_4_gather_62, ↓rx_4_gather_65, ↓rx_4_gather_68, ↓cx_4_gather_55, ↓cx_4_gather_64, ↓cx_4_gather_68, sp_4_insert, sp_7_at, sp_8_within, ↓sx_s1, ↓sx_s2, ↓sx_s3, ↓sx_s4, ↓sx_s5, ↓sx_s6, ↓sx_m0, ↓sx_m1, ↓sx_m2, ↓sx_m3, ↓sx_m4, ↓sx_m5, ↓sx_m6, ↓sx_k0_, ↓sx_k1_, ↓sx_k2_, ↓sx_k3_, ↓sx_k4_, ↓sx_k5_, ↓sx_k6_, ↓sx_sLL, ↓sx_sAI, ↓sx_mLL, ↓sx_mIIL, ↓sx_mIILL, ↓sx_mIILLL, ↓sx_qS, ↓sx_qSI, ↓sx_qSIII, sx_rit, sx_rif, sx_rlt, sx_rlf, sx_b0, sx_b1, sx_o0, sx_o1i, sx_o1a, sx_o1l, sx_o2, sx_g0, sx_g1, sx_k1, sx_k2, sx_k3, sx_f1, sx_f2, sx_f3, sx_w0, sx_w1, sx_w2, sx_w3, sx_ts, sx_tn, sx_up, sx_nS1, sx_nS2, sx_nW1, sx_nW2, sx_SW, sx_WS, sy_nS_inj, sy_nW_inj, sx_ob0, sx_ob1, sx_ob2, sx_ob3, sx_ob4, sx_ob5, sx_ob6, sx_ob7, sx_ob8, sx_ob9, sx_ob10, sx_ob11, sx_ob12, sx_ob13, sx_ob14, sx_ob15, sx_ob16, sx_ob17, sx_ob18, sx_ob19, sx_ob20, sx_ob21, sx_ob22, sx_ob23, sx_ob24, sx_ob25, sx_ob26, sx_ob27, sx_ob28, sx_ob29, sx_ob30, sx_ob31, sx_ob32, sx_ob33, sx_ob34, sx_ob35, sx_ob36, sx_fv0_0, sx_fv0_1, sx_fv0_2, sx_fv0_3, sx_fv0_4, sx_fv0_5, sx_fv1_0, sx_fv1_1, sx_fv1_2, sx_fv3_0, sx_fv3_1, sx_fv3_2, sx_fv3_3, sx_fv3_4, sx_fv7_0, sx_fv7_1, sx_fv7_2, sx_fv7_3, sx_fv7_4, sx_fv7_5, sx_fv7_6, sx_fv7_7, sx_fv7_8, sx_fv7_9, sx_fv7_10, sx_fv9_0, sx_fv9_1, sx_fv9_2, sx_fv9_3, sx_fv11_0, sx_fv11_1, sx_fv11_2, sx_fv11_3, sx_fv11_4, sx_fv11_5, sx_fv11_6, sx_fv15_0, sx_fv15_1, sx_fv15_2, sx_fv15_3, sx_fv15_4, sx_fv15_5, sx_fv19_0, sx_fv19_1, sx_fv19_2, sx_fv19_3, sx_fv19_4, sx_fv19_5, sx_fv19_6, sx_fv24_0, sx_fv24_1, sx_fv24_2, sx_fv24_3, sx_fv24_4, sx_fv24_5, sx_fv24_6, sx_fv24_7, sx_fv24_8, sx_fv24_9, sx_fv24_10, sx_fv24_11, sx_fv24_12, sx_fv24_13, sx_fv24_14, sx_fv24_15, sx_fv24_16, sx_fv24_17, sx_fv24_18, sx_fvS_0, sx_fvS_1, sx_fvS_2, sx_fvS_3, sx_fvS_4, sx_fvS_5, sx_fvS_6, sx_fvS_7, sx_fvS_8, sx_fvS_9, sx_ar2, sx_ar4, sx_ar5, sx_ar6, sx_ar8, sx_ar10, sx_ar12, sx_ar13, sx_ar14, sx_ar16, sx_ar17, sx_ar18, sx_ar20, sx_ar21, sx_ar22, sx_ar23, sx_ar25, sx_ar26, sx_ar27, sx_ar28, sx_ar29, sx_ar30, sx_ar31, sx_ar32, sx_ar33, sx_ar34, sx_ar35, sx_ar36, sy_ob_S, sy_ob_W, sy_ar_W, sx_if0, sx_if1, sx_ie0, sx_em, Classical.not_not, sx_cle, sx_clt, sx_cge, sx_cgt, sx_ceq, Nat.reduceLT, Nat.reduceLeDiff, Nat.reduceAdd, Nat.reduceSub, Nat.reduceEqDiff, reduceIte, List.length_cons, List.length_nil, true_and, and_true, and_self, Bool.false_eq_true, true_implies, not_true_eq_false, not_false_eq_true, false_implies, implies_true, ne_eq, reduceCtorEq, Option.some.injEq, false_and, and_false, Int.reduceNeg, Int.reduceToNat, Int.reduceLT, Int.reduceLE, Int.reduceEq, Int.reduceAdd, Int.reduceSub, Int.reduceMul, or_false, false_or, or_true, true_or, forall_const, Int.toNat_natCast, Int.toNat_zero, Int.toNat_one, Nat.zero_add, or_self, Int.neg_eq_zero]
      rw [c_bd_ne st _ g _ (a := 1) (by decide) (by decide) (by decide), hs.1]
      have e : s = ns := by omega
      subst e
      exact ⟨fun _ => h g hg, fun c => by omega⟩
    | succ d ih =>
      intro s hd g hg
      refine hgo 100 _ _ _ _ ?_
      simp -implicitDefEqProofs only [↓rx_4_gather_0, ↓rx_4_gather_1, ↓rx_4_gather_2, ↓rx_4_gather_5, ↓rx_4_gather_6, ↓rx_4_gather_7, ↓rx_4_gather_8, ↓rx_4_gather_9, ↓rx_4_gather_12, ↓rx_4_gather_15, ↓rx_4_gather_18, ↓rx_4_gather_19, ↓rx_4_gather_21, ↓rx_4_gather_24, ↓rx_4_gather_25, ↓rx_4_gather_28, ↓rx_4_gather_29, ↓rx_4_gather_32, ↓rx_4_gather_34, ↓rx_4_gather_36, ↓rx_4_gather_36_n, ↓rx_4_gather_39, ↓rx_4_gather_41, ↓rx_4_gather_44, ↓rx_4_gather_45, ↓rx_4_gather_46, ↓rx_4_gather_49, ↓rx_4_gather_52, ↓rx_4_gather_53, ↓rx_4_gather_54, ↓rx_4_gather_56, ↓rx_4_gather_59, ↓rx_4_gather_62, ↓rx_4_gather_65, ↓rx_4_gather_68, ↓cx_4_gather_55, ↓cx_4_gather_64, ↓cx_4_gather_68, sp_4_insert, sp_7_at, sp_8_within, ↓sx_s1, ↓sx_s2, ↓sx_s3, ↓sx_s4, ↓sx_s5, ↓sx_s6, ↓sx_m0, ↓sx_m1, ↓sx_m2, ↓sx_m3, ↓sx_m4, ↓sx_m5, ↓sx_m6, ↓sx_k0_, ↓sx_k1_, ↓sx_k2_, ↓sx_k3_, ↓sx_k4_, ↓sx_k5_, ↓sx_k6_, ↓sx_sLL, ↓sx_sAI, ↓sx_mLL, ↓sx_mIIL, ↓sx_mIILL, ↓sx_mIILLL, ↓sx_qS, ↓sx_qSI, ↓sx_qSIII, sx_rit, sx_rif, sx_rlt, sx_rlf, sx_b0, sx_b1, sx_o0, sx_o1i, sx_o1a, sx_o1l, sx_o2, sx_g0, sx_g1, sx_k1, sx_k2, sx_k3, sx_f1, sx_f2, sx_f3, sx_w0, sx_w1, sx_w2, sx_w3, sx_ts, sx_tn, sx_up, sx_nS1, sx_nS2, sx_nW1, sx_nW2, sx_SW, sx_WS, sy_nS_inj, sy_nW_inj, sx_ob0, sx_ob1, sx_ob2, sx_ob3, sx_ob4, sx_ob5, sx_ob6, sx_ob7, sx_ob8, sx_ob9, sx_ob10, sx_ob11, sx_ob12, sx_ob13, sx_ob14, sx_ob15, sx_ob16, sx_ob17, sx_ob18, sx_ob19, sx_ob20, sx_ob21, sx_ob22, sx_ob23, sx_ob24, sx_ob25, sx_ob26, sx_ob27, sx_ob28, sx_ob29, sx_ob30, sx_ob31, sx_ob32, sx_ob33, sx_ob34, sx_ob35, sx_ob36, sx_fv0_0, sx_fv0_1, sx_fv0_2, sx_fv0_3, sx_fv0_4, sx_fv0_5, sx_fv1_0, sx_fv1_1, sx_fv1_2, sx_fv3_0, sx_fv3_1, sx_fv3_2, sx_fv3_3, sx_fv3_4, sx_fv7_0, sx_fv7_1, sx_fv7_2, sx_fv7_3, sx_fv7_4, sx_fv7_5, sx_fv7_6, sx_fv7_7, sx_fv7_8, sx_fv7_9, sx_fv7_10, sx_fv9_0, sx_fv9_1, sx_fv9_2, sx_fv9_3, sx_fv11_0, sx_fv11_1, sx_fv11_2, sx_fv11_3, sx_fv11_4, sx_fv11_5, sx_fv11_6, sx_fv15_0, sx_fv15_1, sx_fv15_2, sx_fv15_3, sx_fv15_4, sx_fv15_5, sx_fv19_0, sx_fv19_1, sx_fv19_2, sx_fv19_3, sx_fv19_4, sx_fv19_5, sx_fv19_6, sx_fv24_0, sx_fv24_1, sx_fv24_2, sx_fv24_3, sx_fv24_4, sx_fv24_5, sx_fv24_6, sx_fv24_7, sx_fv24_8, sx_fv24_9, sx_fv24_10, sx_fv24_11, sx_fv24_12, sx_fv24_13, sx_fv24_14, sx_fv24_15, sx_fv24_16, sx_fv24_17, sx_fv24_18, sx_fvS_0, sx_fvS_1, sx_fvS_2, sx_fvS_3, sx_fvS_4, sx_fvS_5, sx_fvS_6, sx_fvS_7, sx_fvS_8, sx_fvS_9, sx_ar2, sx_ar4, sx_ar5, sx_ar6, sx_ar8, sx_ar10, sx_ar12, sx_ar13, sx_ar14, sx_ar16, sx_ar17, sx_ar18, sx_ar20, sx_ar21, sx_ar22, sx_ar23, sx_ar25, sx_ar26, sx_ar27, sx_ar28, sx_ar29, sx_ar30, sx_ar31, sx_ar32, sx_ar33, sx_ar34, sx_ar35, sx_ar36, sy_ob_S, sy_ob_W, sy_ar_W, sx_if0, sx_if1, sx_ie0, sx_em, Classical.not_not, sx_cle, sx_clt, sx_cge, sx_cgt, sx_ceq, Nat.reduceLT, Nat.reduceLeDiff, Nat.reduceAdd, Nat.reduceSub, Nat.reduceEqDiff, reduceIte, List.length_cons, List.length_nil, true_and, and_true, and_self, Bool.false_eq_true, true_implies, not_true_eq_false, not_false_eq_true, false_implies, implies_true, ne_eq, reduceCtorEq, Option.some.injEq, false_and, and_false, Int.reduceNeg, Int.reduceToNat, Int.reduceLT, Int.reduceLE, Int.reduceEq, Int.reduceAdd, Int.reduceSub, Int.reduceMul, or_false, false_or, or_true, true_or, forall_const, Int.toNat_natCast, Int.toNat_zero, Int.toNat_one, Nat.zero_add, or_self, Int.neg_eq_zero]
      have hle := xq_le (c_ys st) lo up (st 20) s
      have i1 := ih (s + 1) (by omega)
      have e : ((s : Int) + 1) = ((s + 1 : Nat) : Int) := by omega
      have hS := c_S_19 s
      simp only [xq] at i1
      rw [c_bd_ins, c_bd_ne st _ g _ (a := 1) (by decide) (by decide) (by decide), c_bd_ne st _ g _ hS.1 hS.2.1 hS.2.2, c_bd_n, hs.1, e]
      refine ⟨fun c => by omega, fun _ => ⟨fun c => by omega, fun _ => ⟨?_, fun _ => ⟨fun c => ⟨by omega, ?_⟩, fun c => ⟨by omega, by omega, ?_⟩⟩, fun c => by omega⟩⟩⟩
      · unfold c_site
        rw [c_bd_ne st _ g _ (a := 1) (by decide) (by decide) (by decide)]
        exact hs
      · rw [if_neg (show ¬ (lo ≤ c_ys st s ∧ c_ys st s ≤ up) from c)] at i1
        exact hwk _ _ _ _ _ (by exact ⟨Or.inl rfl, Or.inl rfl, Or.inl rfl, Or.inl rfl, Or.inr rfl, trivial⟩) (i1 g hg)
      · rw [if_pos (show lo ≤ c_ys st s ∧ c_ys st s ≤ up from c)] at i1
        have hx := xi_ext (y := c_ys st s) (xq (c_ys st) lo up (st 20) s).2 hg
        have hx2 := xi_le g (c_ys st s) (xq (c_ys st) lo up (st 20) s).2
        rw [← hx] at i1
        exact hwk _ _ _ _ _ (by exact ⟨Or.inl rfl, Or.inl rfl, Or.inl rfl, Or.inl rfl, Or.inr rfl, trivial⟩) (i1 _ (x_ins_h hx2 hg))
  refine hgo 100 _ _ _ _ ?_
  simp -implicitDefEqProofs only [↓rx_4_gather_0, ↓rx_4_gather_1, ↓rx_4_gather_2, ↓rx_4_gather_5, ↓rx_4_gather_6, ↓rx_4_gather_7, ↓rx_4_gather_8, ↓rx_4_gather_9, ↓rx_4_gather_12, ↓rx_4_gather_15, ↓rx_4_gather_18, ↓rx_4_gather_19, ↓rx_4_gather_21, ↓rx_4_gather_24, ↓rx_4_gather_25, ↓rx_4_gather_28, ↓rx_4_gather_29, ↓rx_4_gather_32, ↓rx_4_gather_34, ↓rx_4_gather_36, ↓rx_4_gather_36_n, ↓rx_4_gather_39, ↓rx_4_gather_41, ↓rx_4_gather_44, ↓rx_4_gather_45, ↓rx_4_gather_46, ↓rx_4_gather_49, ↓rx_4_gather_52, ↓rx_4_gather_53, ↓rx_4_gather_54, ↓rx_4_gather_56, ↓rx_4_gather_59, ↓rx_4_gather_62, ↓rx_4_gather_65, ↓rx_4_gather_68, ↓cx_4_gather_55, ↓cx_4_gather_64, ↓cx_4_gather_68, sp_4_insert, sp_7_at, sp_8_within, ↓sx_s1, ↓sx_s2, ↓sx_s3, ↓sx_s4, ↓sx_s5, ↓sx_s6, ↓sx_m0, ↓sx_m1, ↓sx_m2, ↓sx_m3, ↓sx_m4, ↓sx_m5, ↓sx_m6, ↓sx_k0_, ↓sx_k1_, ↓sx_k2_, ↓sx_k3_, ↓sx_k4_, ↓sx_k5_, ↓sx_k6_, ↓sx_sLL, ↓sx_sAI, ↓sx_mLL, ↓sx_mIIL, ↓sx_mIILL, ↓sx_mIILLL, ↓sx_qS, ↓sx_qSI, ↓sx_qSIII, sx_rit, sx_rif, sx_rlt, sx_rlf, sx_b0, sx_b1, sx_o0, sx_o1i, sx_o1a, sx_o1l, sx_o2, sx_g0, sx_g1, sx_k1, sx_k2, sx_k3, sx_f1, sx_f2, sx_f3, sx_w0, sx_w1, sx_w2, sx_w3, sx_ts, sx_tn, sx_up, sx_nS1, sx_nS2, sx_nW1, sx_nW2, sx_SW, sx_WS, sy_nS_inj, sy_nW_inj, sx_ob0, sx_ob1, sx_ob2, sx_ob3, sx_ob4, sx_ob5, sx_ob6, sx_ob7, sx_ob8, sx_ob9, sx_ob10, sx_ob11, sx_ob12, sx_ob13, sx_ob14, sx_ob15, sx_ob16, sx_ob17, sx_ob18, sx_ob19, sx_ob20, sx_ob21, sx_ob22, sx_ob23, sx_ob24, sx_ob25, sx_ob26, sx_ob27, sx_ob28, sx_ob29, sx_ob30, sx_ob31, sx_ob32, sx_ob33, sx_ob34, sx_ob35, sx_ob36, sx_fv0_0, sx_fv0_1, sx_fv0_2, sx_fv0_3, sx_fv0_4, sx_fv0_5, sx_fv1_0, sx_fv1_1, sx_fv1_2, sx_fv3_0, sx_fv3_1, sx_fv3_2, sx_fv3_3, sx_fv3_4, sx_fv7_0, sx_fv7_1, sx_fv7_2, sx_fv7_3, sx_fv7_4, sx_fv7_5, sx_fv7_6, sx_fv7_7, sx_fv7_8, sx_fv7_9, sx_fv7_10, sx_fv9_0, sx_fv9_1, sx_fv9_2, sx_fv9_3, sx_fv11_0, sx_fv11_1, sx_fv11_2, sx_fv11_3, sx_fv11_4, sx_fv11_5, sx_fv11_6, sx_fv15_0, sx_fv15_1, sx_fv15_2, sx_fv15_3, sx_fv15_4, sx_fv15_5, sx_fv19_0, sx_fv19_1, sx_fv19_2, sx_fv19_3, sx_fv19_4, sx_fv19_5, sx_fv19_6, sx_fv24_0, sx_fv24_1, sx_fv24_2, sx_fv24_3, sx_fv24_4, sx_fv24_5, sx_fv24_6, sx_fv24_7, sx_fv24_8, sx_fv24_9, sx_fv24_10, sx_fv24_11, sx_fv24_12, sx_fv24_13, sx_fv24_14, sx_fv24_15, sx_fv24_16, sx_fv24_17, sx_fv24_18, sx_fvS_0, sx_fvS_1, sx_fvS_2, sx_fvS_3, sx_fvS_4, sx_fvS_5, sx_fvS_6, sx_fvS_7, sx_fvS_8, sx_fvS_9, sx_ar2, sx_ar4, sx_ar5, sx_ar6, sx_ar8, sx_ar10, sx_ar12, sx_ar13, sx_ar14, sx_ar16, sx_ar17, sx_ar18, sx_ar20, sx_ar21, sx_ar22, sx_ar23, sx_ar25, sx_ar26, sx_ar27, sx_ar28, sx_ar29, sx_ar30, sx_ar31, sx_ar32, sx_ar33, sx_ar34, sx_ar35, sx_ar36, sy_ob_S, sy_ob_W, sy_ar_W, sx_if0, sx_if1, sx_ie0, sx_em, Classical.not_not, sx_cle, sx_clt, sx_cge, sx_cgt, sx_ceq, Nat.reduceLT, Nat.reduceLeDiff, Nat.reduceAdd, Nat.reduceSub, Nat.reduceEqDiff, reduceIte, List.length_cons, List.length_nil, true_and, and_true, and_self, Bool.false_eq_true, true_implies, not_true_eq_false, not_false_eq_true, false_implies, implies_true, ne_eq, reduceCtorEq, Option.some.injEq, false_and, and_false, Int.reduceNeg, Int.reduceToNat, Int.reduceLT, Int.reduceLE, Int.reduceEq, Int.reduceAdd, Int.reduceSub, Int.reduceMul, or_false, false_or, or_true, true_or, forall_const, Int.toNat_natCast, Int.toNat_zero, Int.toNat_one, Nat.zero_add, or_self, Int.neg_eq_zero]
  have k0 := key ns 0 (by omega) (st 21) (fun j hj => absurd hj (Nat.not_lt_zero j))
  have e0 : c_bd st (st 20) (st 21) 0 = sy_up st 19 3 0 := by
    unfold c_bd
    rw [c_2r_self]
    rfl
  simp only [xq] at k0
  rw [e0] at k0
  exact k0
