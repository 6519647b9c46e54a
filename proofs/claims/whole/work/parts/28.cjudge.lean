/-! THE CLASS: a site is judged -/
def sp_5_clearAll (ns : Nat) : sy_Sp := sy_m1 7 fun b st post => c_net st ∧ ∀ g : Nat → Int, (∀ f : Nat, g f = if (f : Int) < st 3 4 then x_bop b true (st 8 f) else st 8 f) → post none (c_row st 8 g)
def ct_5_clearAll (ns q : Nat) : Option (Bool × Nat × sy_Sp) := match q with
  | _ => none
abbrev M_5_clearAll (ns : Nat) : sy_M := Mk_5_clearAll (ct_5_clearAll ns)
theorem mv_5_clearAll (ns : Nat) : sy_MV c_5_clearAll y_5_clearAll.cls none (M_5_clearAll ns) := ⟨tv_5_clearAll, ff_5_ok, ki_5_ok, kl_5_ok⟩
abbrev rm_5_clearAll : Room := { frames := 0, cells := 0, slots := 0, locals := 0 }
theorem co_5_clearAll (l : Launch) : sy_calls l rm_5_clearAll y_5_clearAll.cls c_5_clearAll 3 (fun ns => (M_5_clearAll ns).2.2.2.2.1) := by
  intro p e s m args below meth c rt wd ad ns A Q X hA q b n sp h
  replace h : ct_5_clearAll ns q = some (b, n, sp) := h
  unfold ct_5_clearAll at h
  cases h
theorem rc_5_clearAll (ns : Nat) (as : List sy_V) (st : sy_S) (post : sy_R) (h : sp_5_clearAll ns as st post) : ∃ b as', as = .inr (.inr (some (some b))) :: as' ∧ sy_ob b = some 5 := sy_m1_r rfl as st post h
theorem mc_5_clearAll (l : Launch) : sy_MC l y_5_clearAll c_5_clearAll 3 none rm_5_clearAll sp_5_clearAll := by
  refine sy_meth M_5_clearAll (by decide +kernel) mv_5_clearAll (co_5_clearAll l) ?_
  intro ns as st post WA h hok hrg ⟨hgo0, hin, hwk⟩
  have hgo : ∀ (n pc : Nat) (L k : List sy_V) (st : sy_S), rn_5_clearAll ns (ct_5_clearAll ns) post WA n pc L k st → WA pc L k st := fun n pc L k st h => hgo0 [2] n pc L k st h
  replace h := sy_m1_e h hok
  obtain ⟨b, rfl, hb, h⟩ := h
  refine ⟨Nat.le_of_ble_eq_true rfl, ?_⟩
  show WA 0 [.inr (.inr (some (some 7))), .inl (true, b), .inr (.inr none)] [] st
  obtain ⟨hn, h⟩ := h
  have ht := c_tot_r hn
  let G : Nat → Nat → Int := fun q f => if f < q then x_bop b true (st 8 f) else st 8 f
  have hb1 : ∀ x, x_bop b true x = (Int32.ofInt x &&& Int32.ofInt ((Int32.ofInt b ^^^ Int32.ofInt (-1)).toInt)).toInt := fun x => by unfold x_bop; rw [if_pos rfl]
  have key : ∀ (d q : Nat), q + d = (st 3 4).toNat → WA 2 [.inr (.inr (some (some 7))), .inl (true, b), .inl (true, (q : Int))] [] (c_row st 8 (G q)) := by
    intro d
    induction d with
    | zero =>
      intro q hq
      refine hgo 100 _ _ _ _ ?_
      simp -implicitDefEqProofs only [↓rx_5_clearAll_0, ↓rx_5_clearAll_1, ↓rx_5_clearAll_2, ↓rx_5_clearAll_3, ↓rx_5_clearAll_4, ↓rx_5_clearAll_7, ↓rx_5_clearAll_10, ↓rx_5_clearAll_13, ↓rx_5_clearAll_14, ↓rx_5_clearAll_17, ↓rx_5_clearAll_20, ↓rx_5_clearAll_21, ↓rx_5_clearAll_24, ↓rx_5_clearAll_25, ↓rx_5_clearAll_26, ↓rx_5_clearAll_27, ↓rx_5_clearAll_28, ↓rx_5_clearAll_29, ↓rx_5_clearAll_30, ↓rx_5_clearAll_31, ↓rx_5_clearAll_32, ↓rx_5_clearAll_35, ↓rx_5_clearAll_38, ↓sx_s1, ↓sx_s2, ↓sx_s3, ↓sx_s4, ↓sx_s5, ↓sx_s6, ↓sx_m0, ↓sx_m1, ↓sx_m2, ↓sx_m3, ↓sx_m4, ↓sx_m5, ↓sx_m6, ↓sx_k0_, ↓sx_k1_, ↓sx_k2_, ↓sx_k3_, ↓sx_k4_, ↓sx_k5_, ↓sx_k6_, ↓sx_sLL, ↓sx_sAI, ↓sx_mLL, ↓sx_mIIL, ↓sx_mIILL, ↓sx_mIILLL, ↓sx_qS, ↓sx_qSI, ↓sx_qSIII, sx_rit, sx_rif, sx_rlt, sx_rlf, sx_b0, sx_b1, sx_o0, sx_o1i, sx_o1a, sx_o1l, sx_o2, sx_g0, sx_g1, sx_k1, sx_k2, sx_k3, sx_f1, sx_f2, sx_f3, sx_w0, sx_w1, sx_w2, sx_w3, sx_ts, sx_tn, sx_up, sx_nS1, sx_nS2, sx_nW1, sx_nW2, sx_SW, sx_WS, sy_nS_inj, sy_nW_inj, sx_ob0, sx_ob1, sx_ob2, sx_ob3, sx_ob4, sx_ob5, sx_ob6, sx_ob7, sx_ob8, sx_ob9, sx_ob10, sx_ob11, sx_ob12, sx_ob13, sx_ob14, sx_ob15, sx_ob16, sx_ob17, sx_ob18, sx_ob19, sx_ob20, sx_ob21, sx_ob22, sx_ob23, sx_ob24, sx_ob25, sx_ob26, sx_ob27, sx_ob28, sx_ob29, sx_ob30, sx_ob31, sx_ob32, sx_ob33, sx_ob34, sx_ob35, sx_ob36, sx_fv0_0, sx_fv0_1, sx_fv0_2, sx_fv0_3, sx_fv0_4, sx_fv0_5, sx_fv1_0, sx_fv1_1, sx_fv1_2, sx_fv3_0, sx_fv3_1, sx_fv3_2, sx_fv3_3, sx_fv3_4, sx_fv7_0, sx_fv7_1, sx_fv7_2, sx_fv7_3, sx_fv7_4, sx_fv7_5, sx_fv7_6, sx_fv7_7, sx_fv7_8, sx_fv7_9, sx_fv7_10, sx_fv9_0, sx_fv9_1, sx_fv9_2, sx_fv9_3, sx_fv11_0, sx_fv11_1, sx_fv11_2, sx_fv11_3, sx_fv11_4, sx_fv11_5, sx_fv11_6, sx_fv15_0, sx_fv15_1, sx_fv15_2, sx_fv15_3, sx_fv15_4, sx_fv15_5, sx_fv19_0, sx_fv19_1, sx_fv19_2, sx_fv19_3, sx_fv19_4, sx_fv19_5, sx_fv19_6, sx_fv24_0, sx_fv24_1, sx_fv24_2, sx_fv24_3, sx_fv24_4, sx_fv24_5, sx_fv24_6, sx_fv24_7, sx_fv24_8, sx_fv24_9, sx_fv24_10, sx_fv24_11, sx_fv24_12, sx_fv24_13, sx_fv24_14, sx_fv24_15, sx_fv24_16, sx_fv24_17, sx_fv24_18, sx_fvS_0, sx_fvS_1, sx_fvS_2, sx_fvS_3, sx_fvS_4, sx_fvS_5, sx_fvS_6, sx_fvS_7, sx_fvS_8, sx_fvS_9, sx_ar2, sx_ar4, sx_ar5, sx_ar6, sx_ar8, sx_ar10, sx_ar12, sx_ar13, sx_ar14, sx_ar16, sx_ar17, sx_ar18, sx_ar20, sx_ar21, sx_ar22, sx_ar23, sx_ar25, sx_ar26, sx_ar27, sx_ar28, sx_ar29, sx_ar30, sx_ar31, sx_ar32, sx_ar33, sx_ar34, sx_ar35, sx_ar36, sy_ob_S, sy_ob_W, sy_ar_W, sx_if0, sx_if1, sx_ie0, sx_em, Classical.not_not, sx_cle, sx_clt, sx_cge, sx_cgt, sx_ceq, Nat.reduceLT, Nat.reduceLeDiff, Nat.reduceAdd, Nat.reduceSub, Nat.reduceEqDiff, reduceIte, List.length_cons, List.length_nil, true_and, and_true, and_self, Bool.false_eq_true, true_implies, not_true_eq_false, not_false_eq_true, false_implies, implies_true, ne_eq, reduceCtorEq, Option.some.injEq, false_and, and_false, Int.reduceNeg, Int.reduceToNat, Int.reduceLT, Int.reduceLE, Int.reduceEq, Int.reduceAdd, Int.reduceSub, Int.reduceMul, or_false, false_or, or_true, true_or, forall_const, Int.toNat_natCast, Int.toNat_zero, Int.toNat_one, Nat.zero_add, or_self, Int.neg_eq_zero]
      have e3 : c_row st 8 (G q) 3 = st 3 := c_row_ne (by decide)
      rw [e3]
      refine ⟨fun _ => h (G q) (fun f => ?_), fun c => by omega⟩
      show (if f < q then _ else _) = _
      by_cases hc : f < q
      · rw [if_pos hc, if_pos (by omega)]
      · rw [if_neg hc, if_neg (by omega)]
    | succ d ih =>
      intro q hq
      refine hgo 100 _ _ _ _ ?_
      simp -implicitDefEqProofs only [↓rx_5_clearAll_0, ↓rx_5_clearAll_1, ↓rx_5_clearAll_2, ↓rx_5_clearAll_3, ↓rx_5_clearAll_4, ↓rx_5_clearAll_7, ↓rx_5_clearAll_10, ↓rx_5_clearAll_13, ↓rx_5_clearAll_14, ↓rx_5_clearAll_17, ↓rx_5_clearAll_20, ↓rx_5_clearAll_21, ↓rx_5_clearAll_24, ↓rx_5_clearAll_25, ↓rx_5_clearAll_26, ↓rx_5_clearAll_27, ↓rx_5_clearAll_28, ↓rx_5_clearAll_29, ↓rx_5_clearAll_30, ↓rx_5_clearAll_31, ↓rx_5_clearAll_32, ↓rx_5_clearAll_35, ↓rx_5_clearAll_38, ↓sx_s1, ↓sx_s2, ↓sx_s3, ↓sx_s4, ↓sx_s5, ↓sx_s6, ↓sx_m0, ↓sx_m1, ↓sx_m2, ↓sx_m3, ↓sx_m4, ↓sx_m5, ↓sx_m6, ↓sx_k0_, ↓sx_k1_, ↓sx_k2_, ↓sx_k3_, ↓sx_k4_, ↓sx_k5_, ↓sx_k6_, ↓sx_sLL, ↓sx_sAI, ↓sx_mLL, ↓sx_mIIL, ↓sx_mIILL, ↓sx_mIILLL, ↓sx_qS, ↓sx_qSI, ↓sx_qSIII, sx_rit, sx_rif, sx_rlt, sx_rlf, sx_b0, sx_b1, sx_o0, sx_o1i, sx_o1a, sx_o1l, sx_o2, sx_g0, sx_g1, sx_k1, sx_k2, sx_k3, sx_f1, sx_f2, sx_f3, sx_w0, sx_w1, sx_w2, sx_w3, sx_ts, sx_tn, sx_up, sx_nS1, sx_nS2, sx_nW1, sx_nW2, sx_SW, sx_WS, sy_nS_inj, sy_nW_inj, sx_ob0, sx_ob1, sx_ob2, sx_ob3, sx_ob4, sx_ob5, sx_ob6, sx_ob7, sx_ob8, sx_ob9, sx_ob10, sx_ob11, sx_ob12, sx_ob13, sx_ob14, sx_ob15, sx_ob16, sx_ob17, sx_ob18, sx_ob19, sx_ob20, sx_ob21, sx_ob22, sx_ob23, sx_ob24, sx_ob25, sx_ob26, sx_ob27, sx_ob28, sx_ob29, sx_ob30, sx_ob31, sx_ob32, sx_ob33, sx_ob34, sx_ob35, sx_ob36, sx_fv0_0, sx_fv0_1, sx_fv0_2, sx_fv0_3, sx_fv0_4, sx_fv0_5, sx_fv1_0, sx_fv1_1, sx_fv1_2, sx_fv3_0, sx_fv3_1, sx_fv3_2, sx_fv3_3, sx_fv3_4, sx_fv7_0, sx_fv7_1, sx_fv7_2, sx_fv7_3, sx_fv7_4, sx_fv7_5, sx_fv7_6, sx_fv7_7, sx_fv7_8, sx_fv7_9, sx_fv7_10, sx_fv9_0, sx_fv9_1, sx_fv9_2, sx_fv9_3, sx_fv11_0, sx_fv11_1, sx_fv11_2, sx_fv11_3, sx_fv11_4, sx_fv11_5, sx_fv11_6, sx_fv15_0, sx_fv15_1, sx_fv15_2, sx_fv15_3, sx_fv15_4, sx_fv15_5, sx_fv19_0, sx_fv19_1, sx_fv19_2, sx_fv19_3, sx_fv19_4, sx_fv19_5, sx_fv19_6, sx_fv24_0, sx_fv24_1, sx_fv24_2, sx_fv24_3, sx_fv24_4, sx_fv24_5, sx_fv24_6, sx_fv24_7, sx_fv24_8, sx_fv24_9, sx_fv24_10, sx_fv24_11, sx_fv24_12, sx_fv24_13, sx_fv24_14, sx_fv24_15, sx_fv24_16, sx_fv24_17, sx_fv24_18, sx_fvS_0, sx_fvS_1, sx_fvS_2, sx_fvS_3, sx_fvS_4, sx_fvS_5, sx_fvS_6, sx_fvS_7, sx_fvS_8, sx_fvS_9, sx_ar2, sx_ar4, sx_ar5, sx_ar6, sx_ar8, sx_ar10, sx_ar12, sx_ar13, sx_ar14, sx_ar16, sx_ar17, sx_ar18, sx_ar20, sx_ar21, sx_ar22, sx_ar23, sx_ar25, sx_ar26, sx_ar27, sx_ar28, sx_ar29, sx_ar30, sx_ar31, sx_ar32, sx_ar33, sx_ar34, sx_ar35, sx_ar36, sy_ob_S, sy_ob_W, sy_ar_W, sx_if0, sx_if1, sx_ie0, sx_em, Classical.not_not, sx_cle, sx_clt, sx_cge, sx_cgt, sx_ceq, Nat.reduceLT, Nat.reduceLeDiff, Nat.reduceAdd, Nat.reduceSub, Nat.reduceEqDiff, reduceIte, List.length_cons, List.length_nil, true_and, and_true, and_self, Bool.false_eq_true, true_implies, not_true_eq_false, not_false_eq_true, false_implies, implies_true, ne_eq, reduceCtorEq, Option.some.injEq, false_and, and_false, Int.reduceNeg, Int.reduceToNat, Int.reduceLT, Int.reduceLE, Int.reduceEq, Int.reduceAdd, Int.reduceSub, Int.reduceMul, or_false, false_or, or_true, true_or, forall_const, Int.toNat_natCast, Int.toNat_zero, Int.toNat_one, Nat.zero_add, or_self, Int.neg_eq_zero]
      have e3 : c_row st 8 (G q) 3 = st 3 := c_row_ne (by decide)
      have e8 : c_row st 8 (G q) 8 = G q := c_row_eq st 8 (G q)
      have i1 := ih (q + 1) (by omega)
      have gq : G q q = st 8 q := by
        show (if q < q then _ else _) = _
        rw [if_neg (Nat.lt_irrefl q)]
      have gs : (fun j => if j = q then x_bop b true (st 8 q) else G q j) = G (q + 1) := by
        funext j
        show (if j = q then _ else if j < q then _ else _) = (if j < q + 1 then _ else _)
        by_cases hj : j = q
        · rw [if_pos hj, if_pos (by omega), hj]
        · rw [if_neg hj]
          by_cases hc : j < q
          · rw [if_pos hc, if_pos (by omega)]
          · rw [if_neg hc, if_neg (by omega)]
      have e : ((q : Int) + 1) = ((q + 1 : Nat) : Int) := by omega
      rw [e3, e8, gq, c_row_up, ← hb1, gs, e]
      exact ⟨fun c => by omega, fun _ => ⟨fun c => by omega, fun _ => ⟨by omega, by omega, by omega, i1⟩⟩⟩
  refine hgo 100 _ _ _ _ ?_
  simp -implicitDefEqProofs only [↓rx_5_clearAll_0, ↓rx_5_clearAll_1, ↓rx_5_clearAll_2, ↓rx_5_clearAll_3, ↓rx_5_clearAll_4, ↓rx_5_clearAll_7, ↓rx_5_clearAll_10, ↓rx_5_clearAll_13, ↓rx_5_clearAll_14, ↓rx_5_clearAll_17, ↓rx_5_clearAll_20, ↓rx_5_clearAll_21, ↓rx_5_clearAll_24, ↓rx_5_clearAll_25, ↓rx_5_clearAll_26, ↓rx_5_clearAll_27, ↓rx_5_clearAll_28, ↓rx_5_clearAll_29, ↓rx_5_clearAll_30, ↓rx_5_clearAll_31, ↓rx_5_clearAll_32, ↓rx_5_clearAll_35, ↓rx_5_clearAll_38, ↓sx_s1, ↓sx_s2, ↓sx_s3, ↓sx_s4, ↓sx_s5, ↓sx_s6, ↓sx_m0, ↓sx_m1, ↓sx_m2, ↓sx_m3, ↓sx_m4, ↓sx_m5, ↓sx_m6, ↓sx_k0_, ↓sx_k1_, ↓sx_k2_, ↓sx_k3_, ↓sx_k4_, ↓sx_k5_, ↓sx_k6_, ↓sx_sLL, ↓sx_sAI, ↓sx_mLL, ↓sx_mIIL, ↓sx_mIILL, ↓sx_mIILLL, ↓sx_qS, ↓sx_qSI, ↓sx_qSIII, sx_rit, sx_rif, sx_rlt, sx_rlf, sx_b0, sx_b1, sx_o0, sx_o1i, sx_o1a, sx_o1l, sx_o2, sx_g0, sx_g1, sx_k1, sx_k2, sx_k3, sx_f1, sx_f2, sx_f3, sx_w0, sx_w1, sx_w2, sx_w3, sx_ts, sx_tn, sx_up, sx_nS1, sx_nS2, sx_nW1, sx_nW2, sx_SW, sx_WS, sy_nS_inj, sy_nW_inj, sx_ob0, sx_ob1, sx_ob2, sx_ob3, sx_ob4, sx_ob5, sx_ob6, sx_ob7, sx_ob8, sx_ob9, sx_ob10, sx_ob11, sx_ob12, sx_ob13, sx_ob14, sx_ob15, sx_ob16, sx_ob17, sx_ob18, sx_ob19, sx_ob20, sx_ob21, sx_ob22, sx_ob23, sx_ob24, sx_ob25, sx_ob26, sx_ob27, sx_ob28, sx_ob29, sx_ob30, sx_ob31, sx_ob32, sx_ob33, sx_ob34, sx_ob35, sx_ob36, sx_fv0_0, sx_fv0_1, sx_fv0_2, sx_fv0_3, sx_fv0_4, sx_fv0_5, sx_fv1_0, sx_fv1_1, sx_fv1_2, sx_fv3_0, sx_fv3_1, sx_fv3_2, sx_fv3_3, sx_fv3_4, sx_fv7_0, sx_fv7_1, sx_fv7_2, sx_fv7_3, sx_fv7_4, sx_fv7_5, sx_fv7_6, sx_fv7_7, sx_fv7_8, sx_fv7_9, sx_fv7_10, sx_fv9_0, sx_fv9_1, sx_fv9_2, sx_fv9_3, sx_fv11_0, sx_fv11_1, sx_fv11_2, sx_fv11_3, sx_fv11_4, sx_fv11_5, sx_fv11_6, sx_fv15_0, sx_fv15_1, sx_fv15_2, sx_fv15_3, sx_fv15_4, sx_fv15_5, sx_fv19_0, sx_fv19_1, sx_fv19_2, sx_fv19_3, sx_fv19_4, sx_fv19_5, sx_fv19_6, sx_fv24_0, sx_fv24_1, sx_fv24_2, sx_fv24_3, sx_fv24_4, sx_fv24_5, sx_fv24_6, sx_fv24_7, sx_fv24_8, sx_fv24_9, sx_fv24_10, sx_fv24_11, sx_fv24_12, sx_fv24_13, sx_fv24_14, sx_fv24_15, sx_fv24_16, sx_fv24_17, sx_fv24_18, sx_fvS_0, sx_fvS_1, sx_fvS_2, sx_fvS_3, sx_fvS_4, sx_fvS_5, sx_fvS_6, sx_fvS_7, sx_fvS_8, sx_fvS_9, sx_ar2, sx_ar4, sx_ar5, sx_ar6, sx_ar8, sx_ar10, sx_ar12, sx_ar13, sx_ar14, sx_ar16, sx_ar17, sx_ar18, sx_ar20, sx_ar21, sx_ar22, sx_ar23, sx_ar25, sx_ar26, sx_ar27, sx_ar28, sx_ar29, sx_ar30, sx_ar31, sx_ar32, sx_ar33, sx_ar34, sx_ar35, sx_ar36, sy_ob_S, sy_ob_W, sy_ar_W, sx_if0, sx_if1, sx_ie0, sx_em, Classical.not_not, sx_cle, sx_clt, sx_cge, sx_cgt, sx_ceq, Nat.reduceLT, Nat.reduceLeDiff, Nat.reduceAdd, Nat.reduceSub, Nat.reduceEqDiff, reduceIte, List.length_cons, List.length_nil, true_and, and_true, and_self, Bool.false_eq_true, true_implies, not_true_eq_false, not_false_eq_true, false_implies, implies_true, ne_eq, reduceCtorEq, Option.some.injEq, false_and, and_false, Int.reduceNeg, Int.reduceToNat, Int.reduceLT, Int.reduceLE, Int.reduceEq, Int.reduceAdd, Int.reduceSub, Int.reduceMul, or_false, false_or, or_true, true_or, forall_const, Int.toNat_natCast, Int.toNat_zero, Int.toNat_one, Nat.zero_add, or_self, Int.neg_eq_zero]
  have k0 := key (st 3 4).toNat 0 (by omega)
  have g0 : G 0 = st 8 := by
    funext f
    show (if f < 0 then _ else _) = _
    rw [if_neg (Nat.not_lt_zero f)]
  rw [g0, c_row_self] at k0
  exact k0
theorem c_fg_of {st st' : sy_S} (h4 : st' 4 = st 4) (h5 : st' 5 = st 5) (h6 : st' 6 = st 6) : c_fg st' = c_fg st := by
  funext f w
  unfold c_fg
  have a : c_F st' = c_F st := by funext r; unfold c_F; rw [h4]
  have b : c_B st' = c_B st := by funext r; unfold c_B; rw [h5]
  have c : c_N st' = c_N st := by funext r; unfold c_N; rw [h6]
  rw [a, b, c]
theorem c_agt_of {st st' : sy_S} {i : Nat} (h1 : st' 1 = st 1) (hf : c_fg st' = c_fg st) (hS : ∀ k, k ≠ 3 → st' (sy_nS i) k = st (sy_nS i) k) (f ld : Int) : c_agt st' f i ld = c_agt st f i ld := by
  unfold c_agt
  rw [h1, hf, hS 0 (by decide), hS 1 (by decide), hS 5 (by decide), hS 6 (by decide), hS 7 (by decide), hS 8 (by decide), hS 9 (by decide)]
theorem c_ag_of {st st' : sy_S} {i : Nat} (h1 : st' 1 = st 1) (hf : c_fg st' = c_fg st) (hS : ∀ k, k ≠ 3 → st' (sy_nS i) k = st (sy_nS i) k) (f : Int) : c_ag st' f i = c_ag st f i := by
  unfold c_ag
  rw [c_agt_of h1 hf hS, hS 4 (by decide)]
def c_wk (st : sy_S) (i : Nat) : Prop := st (sy_nS i) 3 ≠ 0 → c_wok st i
theorem c_wok_of {st st' : sy_S} {i : Nat} (h3 : st' 3 = st 3) (hf : c_fg st' = c_fg st) (h0 : st' (sy_nS i) 0 = st (sy_nS i) 0) (hW : st' (sy_nW i) = st (sy_nW i)) (h : c_wok st i) : c_wok st' i := by
  unfold c_wok at h ⊢
  rw [h3, hf, h0, hW]
  exact h
/-- a figure's parts but the first are those of its shape; its first goes by the whole part -/
theorem c_fg_shape {st : sy_S} (hn : c_net st) (f : Nat) (hf : (f : Int) < st 3 4) : c_fg st f 0 = c_F st 0 + c_B st 0 * ((f : Int) / st 3 3) ∧ (∀ w, 1 ≤ w → w ≤ 3 → c_fg st f w = c_fg st ((f : Int) % st 3 3) w) := by
  have h0 := xg_net_N hn.1 0
  have h1 := xg_net_N hn.1 1
  have h2 := xg_net_N hn.1 2
  have h3 := xg_net_N hn.1 3
  obtain ⟨n0, e0⟩ : ∃ n : Nat, (n : Int) = c_N st 0 := ⟨(c_N st 0).toNat, by omega⟩
  obtain ⟨n1, e1⟩ : ∃ n : Nat, (n : Int) = c_N st 1 := ⟨(c_N st 1).toNat, by omega⟩
  obtain ⟨n2, e2⟩ : ∃ n : Nat, (n : Int) = c_N st 2 := ⟨(c_N st 2).toNat, by omega⟩
  obtain ⟨n3, e3⟩ : ∃ n : Nat, (n : Int) = c_N st 3 := ⟨(c_N st 3).toNat, by omega⟩
  have es : st 3 3 = ((n3 * (n2 * n1) : Nat) : Int) := by
    rw [hn.2.1, ← e1, ← e2, ← e3]
    simp only [Int.natCast_mul]
    grind
  have et : st 3 4 = ((n0 * (n3 * (n2 * n1)) : Nat) : Int) := by rw [hn.2.2, ← e0, es]; simp
  have hs0 : 0 < n3 * (n2 * n1) := Nat.mul_pos (by omega) (Nat.mul_pos (by omega) (by omega))
  have hq : f / (n3 * (n2 * n1)) < n0 := (Nat.div_lt_iff_lt_mul hs0).mpr (by rw [et] at hf; omega)
  unfold c_fg xg_f xg_k
  rw [es]
  refine ⟨?_, fun w hw1 hw3 => ?_⟩
  · show c_F st 0 + c_B st 0 * ((f : Int) / c_N st 3 / c_N st 2 / c_N st 1 % c_N st 0) = _
    rw [← e0, ← e1, ← e2, ← e3, ← Int.natCast_ediv, ← Int.natCast_ediv, ← Int.natCast_ediv, Nat.div_div_eq_div_mul, Nat.div_div_eq_div_mul, ← Int.natCast_emod, Nat.mod_eq_of_lt hq, ← Int.natCast_ediv]
  · rw [← Int.natCast_emod]
    rcases (show w = 1 ∨ w = 2 ∨ w = 3 by omega) with rfl | rfl | rfl
    · show c_F st 1 + c_B st 1 * ((f : Int) / c_N st 3 / c_N st 2 % c_N st 1) = c_F st 1 + c_B st 1 * (((f % (n3 * (n2 * n1)) : Nat) : Int) / c_N st 3 / c_N st 2 % c_N st 1)
      rw [← e1, ← e2, ← e3, ← Int.natCast_ediv, ← Int.natCast_ediv, ← Int.natCast_emod, ← Int.natCast_ediv, ← Int.natCast_ediv, ← Int.natCast_emod, Nat.mod_mul_right_div_self, Nat.mod_mul_right_div_self, Nat.mod_mod]
    · show c_F st 2 + c_B st 2 * ((f : Int) / c_N st 3 % c_N st 2) = c_F st 2 + c_B st 2 * (((f % (n3 * (n2 * n1)) : Nat) : Int) / c_N st 3 % c_N st 2)
      rw [← e2, ← e3, ← Int.natCast_ediv, ← Int.natCast_emod, ← Int.natCast_ediv, ← Int.natCast_emod, Nat.mod_mul_right_div_self, Nat.mod_mod_of_dvd _ (Nat.dvd_mul_right n2 n1)]
    · show c_F st 3 + c_B st 3 * ((f : Int) % c_N st 3) = c_F st 3 + c_B st 3 * (((f % (n3 * (n2 * n1)) : Nat) : Int) % c_N st 3)
      rw [← e3, ← Int.natCast_emod, ← Int.natCast_emod, Nat.mod_mod_of_dvd _ (Nat.dvd_mul_right n3 (n2 * n1))]
theorem c_rng_of2 {st st' : sy_S} (h1 : st' 1 = st 1) (hS : ∀ i k, k ≠ 3 → st' (sy_nS i) k = st (sy_nS i) k) (h : c_rng st) : c_rng st' := by
  obtain ⟨a1, a2, a3, a4, a5, a6⟩ := h
  refine ⟨by rw [h1]; exact a1, fun i => ?_, fun i => ?_, fun i => ?_, fun i => ?_, fun i k hk1 hk2 => ?_⟩
  · rw [hS i 0 (by decide)]; exact a2 i
  · rw [hS i 1 (by decide)]; exact a3 i
  · rw [hS i 4 (by decide)]; exact a4 i
  · rw [hS i 5 (by decide)]; exact a5 i
  · rw [hS i k (by omega)]; exact a6 i k hk1 hk2
/-- site i has been judged: bit b of every figure -/
def c_jd (st st' : sy_S) (i : Nat) (b : Int) : Prop := (∀ a, a ≠ 8 → a ≠ sy_nW i → a ≠ sy_nS i → st' a = st a) ∧ (∀ k, k ≠ 3 → st' (sy_nS i) k = st (sy_nS i) k) ∧ c_wk st' i ∧ (∀ f : Nat, st' 8 f = if (f : Int) < st 3 4 then x_bop b (c_ag st f i) (st 8 f) else st 8 f)
def sp_5_judge (ns : Nat) : sy_Sp := sy_qSI ns 7 fun i b st post => (c_net st ∧ c_rng st ∧ c_wk st i) ∧ ∀ st', c_jd st st' i b → post none st'
def ct_5_judge (ns q : Nat) : Option (Bool × Nat × sy_Sp) := match q with
  | 87 => some (false, 1, sp_6_isChoosy ns)
  | 93 => some (false, 2, sp_5_clearAll ns)
  | 96 => some (false, 2, sp_3_measure ns)
  | 106 => some (false, 5, sp_5_judgeShape ns)
  | _ => none
abbrev M_5_judge (ns : Nat) : sy_M := Mk_5_judge (ct_5_judge ns)
theorem cx_5_judge_87 {ns : Nat} {v1 : sy_V} {r : List sy_V} {s : sy_S} {f : List sy_V → sy_S → Prop} : sy_call false (ct_5_judge ns 87) (v1 :: r) s f = (sy_wd r ≤ 8 ∧ (sy_fit v1) ∧ sp_6_isChoosy ns [sy_kn v1] s (fun q t => f (q.toList ++ r) t)) := sx_call1
theorem cx_5_judge_93 {ns : Nat} {v1 v2 : sy_V} {r : List sy_V} {s : sy_S} {f : List sy_V → sy_S → Prop} : sy_call false (ct_5_judge ns 93) (v2 :: v1 :: r) s f = (sy_wd r ≤ 8 ∧ (sy_fit v2 ∧ sy_fit v1) ∧ sp_5_clearAll ns [sy_kn v1, sy_kn v2] s (fun q t => f (q.toList ++ r) t)) := sx_call2
theorem cx_5_judge_96 {ns : Nat} {v1 v2 : sy_V} {r : List sy_V} {s : sy_S} {f : List sy_V → sy_S → Prop} : sy_call false (ct_5_judge ns 96) (v2 :: v1 :: r) s f = (sy_wd r ≤ 8 ∧ (sy_fit v2 ∧ sy_fit v1) ∧ sp_3_measure ns [sy_kn v1, sy_kn v2] s (fun q t => f (q.toList ++ r) t)) := sx_call2
theorem cx_5_judge_106 {ns : Nat} {v1 v2 v3 v4 v5 : sy_V} {r : List sy_V} {s : sy_S} {f : List sy_V → sy_S → Prop} : sy_call false (ct_5_judge ns 106) (v5 :: v4 :: v3 :: v2 :: v1 :: r) s f = (sy_wd r ≤ 8 ∧ (sy_fit v5 ∧ sy_fit v4 ∧ sy_fit v3 ∧ sy_fit v2 ∧ sy_fit v1) ∧ sp_5_judgeShape ns [sy_kn v1, sy_kn v2, sy_kn v3, sy_kn v4, sy_kn v5] s (fun q t => f (q.toList ++ r) t)) := sx_call5
theorem mv_5_judge (ns : Nat) : sy_MV c_5_judge y_5_judge.cls none (M_5_judge ns) := ⟨tv_5_judge, ff_5_ok, ki_5_ok, kl_5_ok⟩
abbrev rm_5_judge : Room := { frames := 3, cells := 0, slots := 0, locals := 74 }
theorem iw_6_isChoosy : Cond.code y_6_isChoosy c_6_isChoosy 1 (some .boolean) ∈ sy_tb ∧ Cond.initialized y_6_isChoosy.cls ∈ sy_tb ∧ (y_6_isChoosy.cls ≠ "java/lang/invoke/MethodHandle" ∧ y_6_isChoosy.cls ≠ "java/lang/invoke/VarHandle" ∧ (parseMethodDescriptor y_6_isChoosy.desc).map (fun d => d.parameters.length) = some 0) := ⟨sy_inx 486 (by decide +kernel) (by decide +kernel), sy_inx 54 (by decide +kernel) (by decide +kernel), by decide +kernel⟩
theorem ii_6_isChoosy : Cond.instanceMethod y_6_isChoosy ∈ sy_tb ∧ Cond.selects y_6_isChoosy.cls y_6_isChoosy y_6_isChoosy ∈ sy_tb := ⟨sy_inx 484 (by decide +kernel) (by decide +kernel), sy_inx 485 (by decide +kernel) (by decide +kernel)⟩
theorem iw_5_clearAll : Cond.code y_5_clearAll c_5_clearAll 3 none ∈ sy_tb ∧ Cond.initialized y_5_clearAll.cls ∈ sy_tb ∧ (y_5_clearAll.cls ≠ "java/lang/invoke/MethodHandle" ∧ y_5_clearAll.cls ≠ "java/lang/invoke/VarHandle" ∧ (parseMethodDescriptor y_5_clearAll.desc).map (fun d => d.parameters.length) = some 1) := ⟨sy_inx 490 (by decide +kernel) (by decide +kernel), sy_inx 48 (by decide +kernel) (by decide +kernel), by decide +kernel⟩
theorem ii_5_clearAll : Cond.instanceMethod y_5_clearAll ∈ sy_tb ∧ Cond.selects y_5_clearAll.cls y_5_clearAll y_5_clearAll ∈ sy_tb := ⟨sy_inx 489 (by decide +kernel) (by decide +kernel), sy_inx 4 (by decide +kernel) (by decide +kernel)⟩
theorem iw_3_measure : Cond.code y_3_measure c_3_measure 7 none ∈ sy_tb ∧ Cond.initialized y_3_measure.cls ∈ sy_tb ∧ (y_3_measure.cls ≠ "java/lang/invoke/MethodHandle" ∧ y_3_measure.cls ≠ "java/lang/invoke/VarHandle" ∧ (parseMethodDescriptor y_3_measure.desc).map (fun d => d.parameters.length) = some 1) := ⟨sy_inx 494 (by decide +kernel) (by decide +kernel), sy_inx 46 (by decide +kernel) (by decide +kernel), by decide +kernel⟩
theorem ii_3_measure : Cond.instanceMethod y_3_measure ∈ sy_tb ∧ Cond.selects y_3_measure.cls y_3_measure y_3_measure ∈ sy_tb := ⟨sy_inx 492 (by decide +kernel) (by decide +kernel), sy_inx 493 (by decide +kernel) (by decide +kernel)⟩
theorem iw_5_judgeShape : Cond.code y_5_judgeShape c_5_judgeShape 11 none ∈ sy_tb ∧ Cond.initialized y_5_judgeShape.cls ∈ sy_tb ∧ (y_5_judgeShape.cls ≠ "java/lang/invoke/MethodHandle" ∧ y_5_judgeShape.cls ≠ "java/lang/invoke/VarHandle" ∧ (parseMethodDescriptor y_5_judgeShape.desc).map (fun d => d.parameters.length) = some 4) := ⟨sy_inx 501 (by decide +kernel) (by decide +kernel), sy_inx 48 (by decide +kernel) (by decide +kernel), by decide +kernel⟩
theorem ii_5_judgeShape : Cond.instanceMethod y_5_judgeShape ∈ sy_tb ∧ Cond.selects y_5_judgeShape.cls y_5_judgeShape y_5_judgeShape ∈ sy_tb := ⟨sy_inx 500 (by decide +kernel) (by decide +kernel), sy_inx 5 (by decide +kernel) (by decide +kernel)⟩
theorem co_5_judge (l : Launch) : sy_calls l rm_5_judge y_5_judge.cls c_5_judge 4 (fun ns => (M_5_judge ns).2.2.2.2.1) := by
  intro p e s m args below meth c rt wd ad ns A Q X hA q b n sp h
  replace h : ct_5_judge ns q = some (b, n, sp) := h
  unfold ct_5_judge at h
  split at h
  · cases h; exact sy_coV (ci := 6) X hA (mc_6_isChoosy l) ⟨iw_6_isChoosy.1, iw_6_isChoosy.2.1, iw_6_isChoosy.2.2, ⟨by decide, by decide⟩, rfl, rfl⟩ (sy_inx 483 (by decide +kernel) (by decide +kernel)) ii_6_isChoosy.1 ii_6_isChoosy.2 (rc_6_isChoosy ns) ⟨_, rfl, rfl⟩
  · cases h; exact sy_coV (ci := 5) X hA (mc_5_clearAll l) ⟨iw_5_clearAll.1, iw_5_clearAll.2.1, iw_5_clearAll.2.2, ⟨by decide, by decide⟩, rfl, rfl⟩ (sy_inx 487 (by decide +kernel) (by decide +kernel)) ii_5_clearAll.1 ii_5_clearAll.2 (rc_5_clearAll ns) ⟨_, rfl, rfl⟩
  · cases h; exact sy_coV (ci := 3) X hA (mc_3_measure l) ⟨iw_3_measure.1, iw_3_measure.2.1, iw_3_measure.2.2, ⟨by decide, by decide⟩, rfl, rfl⟩ (sy_inx 491 (by decide +kernel) (by decide +kernel)) ii_3_measure.1 ii_3_measure.2 (rc_3_measure ns) ⟨_, rfl, rfl⟩
  · cases h; exact sy_coV (ci := 5) X hA (mc_5_judgeShape l) ⟨iw_5_judgeShape.1, iw_5_judgeShape.2.1, iw_5_judgeShape.2.2, ⟨by decide, by decide⟩, rfl, rfl⟩ (sy_inx 498 (by decide +kernel) (by decide +kernel)) ii_5_judgeShape.1 ii_5_judgeShape.2 (rc_5_judgeShape ns) ⟨_, rfl, rfl⟩
  · cases h
theorem rc_5_judge (ns : Nat) (as : List sy_V) (st : sy_S) (post : sy_R) (h : sp_5_judge ns as st post) : ∃ b as', as = .inr (.inr (some (some b))) :: as' ∧ sy_ob b = some 5 := sy_qSI_r rfl as st post h
theorem mc_5_judge (l : Launch) : sy_MC l y_5_judge c_5_judge 4 none rm_5_judge sp_5_judge := by
  refine sy_meth M_5_judge (by decide +kernel) mv_5_judge (co_5_judge l) ?_
  intro ns as st post WA h hok hrg ⟨hgo0, hin, hwk⟩
  have hgo : ∀ (n pc : Nat) (L k : List sy_V) (st : sy_S), rn_5_judge ns (ct_5_judge ns) post WA n pc L k st → WA pc L k st := fun n pc L k st h => hgo0 [23] n pc L k st h
  replace h := sy_qSI_e h hok
  obtain ⟨i, b, rfl, hi, hb, h⟩ := h
  refine ⟨Nat.le_of_ble_eq_true rfl, ?_⟩
  show WA 0 [.inr (.inr (some (some 7))), .inr (.inr (some (some (sy_nS i)))), .inl (true, b), .inr (.inr none)] [] st
  obtain ⟨⟨hn, hr, hwk1⟩, h⟩ := h
  have ht := c_tot_r hn
  by_cases hch : st (sy_nS i) 5 = 1 ∨ st (sy_nS i) 5 = 2
  · have hrest : ∀ s1 : sy_S, (∀ a, a ≠ sy_nW i → a ≠ sy_nS i → s1 a = st a) → (∀ k, k ≠ 3 → s1 (sy_nS i) k = st (sy_nS i) k) → c_wok s1 i → WA 23 [.inr (.inr (some (some 7))), .inr (.inr (some (some (sy_nS i)))), .inl (true, b), .inl (true, 0)] [] s1 := by
      intro s1 p1 p2 p3
      have low : ∀ a, a < 37 → s1 a = st a := fun a ha => p1 a (c_W_ne ha) (by unfold sy_nS; omega)
      obtain ⟨n, en⟩ : ∃ n : Nat, (n : Int) = st 3 3 := ⟨(st 3 3).toNat, by omega⟩
      have hfg : c_fg s1 = c_fg st := c_fg_of (low 4 (by decide)) (low 5 (by decide)) (low 6 (by decide))
      let G : Nat → Nat → Int := fun q f => if (f : Int) < st 3 4 ∧ f % n < q then x_bop b (c_ag st f i) (st 8 f) else st 8 f
      have key : ∀ (d q : Nat), q + d = n → WA 23 [.inr (.inr (some (some 7))), .inr (.inr (some (some (sy_nS i)))), .inl (true, b), .inl (true, (q : Int))] [] (c_row s1 8 (G q)) := by
        intro d
        induction d with
        | zero =>
          intro q hq
          refine hgo 100 _ _ _ _ ?_
          simp -implicitDefEqProofs only [↓rx_5_judge_0, ↓rx_5_judge_1, ↓rx_5_judge_4, ↓rx_5_judge_7, ↓rx_5_judge_8, ↓rx_5_judge_9, ↓rx_5_judge_12, ↓rx_5_judge_13, ↓rx_5_judge_14, ↓rx_5_judge_17, ↓rx_5_judge_18, ↓rx_5_judge_21, ↓rx_5_judge_22, ↓rx_5_judge_23, ↓rx_5_judge_24, ↓rx_5_judge_25, ↓rx_5_judge_28, ↓rx_5_judge_31, ↓rx_5_judge_34, ↓rx_5_judge_35, ↓rx_5_judge_38, ↓rx_5_judge_41, ↓rx_5_judge_42, ↓rx_5_judge_43, ↓rx_5_judge_44, ↓rx_5_judge_45, ↓rx_5_judge_46, ↓rx_5_judge_49, ↓rx_5_judge_50, ↓rx_5_judge_51, ↓rx_5_judge_54, ↓rx_5_judge_57, ↓rx_5_judge_60, ↓cx_5_judge_87, ↓cx_5_judge_93, ↓cx_5_judge_96, ↓cx_5_judge_106, sp_3_measure, sp_5_clearAll, sp_5_judgeShape, sp_6_isChoosy, ↓sx_s1, ↓sx_s2, ↓sx_s3, ↓sx_s4, ↓sx_s5, ↓sx_s6, ↓sx_m0, ↓sx_m1, ↓sx_m2, ↓sx_m3, ↓sx_m4, ↓sx_m5, ↓sx_m6, ↓sx_k0_, ↓sx_k1_, ↓sx_k2_, ↓sx_k3_, ↓sx_k4_, ↓sx_k5_, ↓sx_k6_, ↓sx_sLL, ↓sx_sAI, ↓sx_mLL, ↓sx_mIIL, ↓sx_mIILL, ↓sx_mIILLL, ↓sx_qS, ↓sx_qSI, ↓sx_qSIII, sx_rit, sx_rif, sx_rlt, sx_rlf, sx_b0, sx_b1, sx_o0, sx_o1i, sx_o1a, sx_o1l, sx_o2, sx_g0, sx_g1, sx_k1, sx_k2, sx_k3, sx_f1, sx_f2, sx_f3, sx_w0, sx_w1, sx_w2, sx_w3, sx_ts, sx_tn, sx_up, sx_nS1, sx_nS2, sx_nW1, sx_nW2, sx_SW, sx_WS, sy_nS_inj, sy_nW_inj, sx_ob0, sx_ob1, sx_ob2, sx_ob3, sx_ob4, sx_ob5, sx_ob6, sx_ob7, sx_ob8, sx_ob9, sx_ob10, sx_ob11, sx_ob12, sx_ob13, sx_ob14, sx_ob15, sx_ob16, sx_ob17, sx_ob18, sx_ob19, sx_ob20, sx_ob21, sx_ob22, sx_ob23, sx_ob24, sx_ob25, sx_ob26, sx_ob27, sx_ob28, sx_ob29, sx_ob30, sx_ob31, sx_ob32, sx_ob33, sx_ob34, sx_ob35, sx_ob36, sx_fv0_0, sx_fv0_1, sx_fv0_2, sx_fv0_3, sx_fv0_4, sx_fv0_5, sx_fv1_0, sx_fv1_1, sx_fv1_2, sx_fv3_0, sx_fv3_1, sx_fv3_2, sx_fv3_3, sx_fv3_4, sx_fv7_0, sx_fv7_1, sx_fv7_2, sx_fv7_3, sx_fv7_4, sx_fv7_5, sx_fv7_6, sx_fv7_7, sx_fv7_8, sx_fv7_9, sx_fv7_10, sx_fv9_0, sx_fv9_1, sx_fv9_2, sx_fv9_3, sx_fv11_0, sx_fv11_1, sx_fv11_2, sx_fv11_3, sx_fv11_4, sx_fv11_5, sx_fv11_6, sx_fv15_0, sx_fv15_1, sx_fv15_2, sx_fv15_3, sx_fv15_4, sx_fv15_5, sx_fv19_0, sx_fv19_1, sx_fv19_2, sx_fv19_3, sx_fv19_4, sx_fv19_5, sx_fv19_6, sx_fv24_0, sx_fv24_1, sx_fv24_2, sx_fv24_3, sx_fv24_4, sx_fv24_5, sx_fv24_6, sx_fv24_7, sx_fv24_8, sx_fv24_9, sx_fv24_10, sx_fv24_11, sx_fv24_12, sx_fv24_13, sx_fv24_14, sx_fv24_15, sx_fv24_16, sx_fv24_17, sx_fv24_18, sx_fvS_0, sx_fvS_1, sx_fvS_2, sx_fvS_3, sx_fvS_4, sx_fvS_5, sx_fvS_6, sx_fvS_7, sx_fvS_8, sx_fvS_9, sx_ar2, sx_ar4, sx_ar5, sx_ar6, sx_ar8, sx_ar10, sx_ar12, sx_ar13, sx_ar14, sx_ar16, sx_ar17, sx_ar18, sx_ar20, sx_ar21, sx_ar22, sx_ar23, sx_ar25, sx_ar26, sx_ar27, sx_ar28, sx_ar29, sx_ar30, sx_ar31, sx_ar32, sx_ar33, sx_ar34, sx_ar35, sx_ar36, sy_ob_S, sy_ob_W, sy_ar_W, sx_if0, sx_if1, sx_ie0, sx_em, Classical.not_not, sx_cle, sx_clt, sx_cge, sx_cgt, sx_ceq, Nat.reduceLT, Nat.reduceLeDiff, Nat.reduceAdd, Nat.reduceSub, Nat.reduceEqDiff, reduceIte, List.length_cons, List.length_nil, true_and, and_true, and_self, Bool.false_eq_true, true_implies, not_true_eq_false, not_false_eq_true, false_implies, implies_true, ne_eq, reduceCtorEq, Option.some.injEq, false_and, and_false, Int.reduceNeg, Int.reduceToNat, Int.reduceLT, Int.reduceLE, Int.reduceEq, Int.reduceAdd, Int.reduceSub, Int.reduceMul, or_false, false_or, or_true, true_or, forall_const, Int.toNat_natCast, Int.toNat_zero, Int.toNat_one, Nat.zero_add, or_self, Int.neg_eq_zero]
          have e3 : c_row s1 8 (G q) 3 = st 3 := (c_row_ne (by decide)).trans (low 3 (by decide))
          rw [e3]
          have hqn : q = n := by omega
          subst hqn
          refine ⟨fun _ => h _ ⟨fun a h8 hW hS => ?_, fun k hk => ?_, fun _ => ?_, fun f => ?_⟩, fun c => by omega⟩
          · rw [c_row_ne h8]; exact p1 a hW hS
          · rw [c_row_ne (by unfold sy_nS; omega)]; exact p2 k hk
          · refine c_wok_of (c_row_ne (by decide)) (c_fg_of (c_row_ne (by decide)) (c_row_ne (by decide)) (c_row_ne (by decide))) ?_ (c_row_ne (by unfold sy_nW; omega)) p3
            rw [c_row_ne (by unfold sy_nS; omega)]
          · rw [c_row_eq]
            show (if _ ∧ _ then _ else _) = _
            by_cases hc : (f : Int) < st 3 4
            · rw [if_pos ⟨hc, Nat.mod_lt _ (by omega)⟩, if_pos hc]
            · rw [if_neg (fun z => hc z.1), if_neg hc]
        | succ d ih =>
          intro q hq
          refine hgo 100 _ _ _ _ ?_
          simp -implicitDefEqProofs only [↓rx_5_judge_0, ↓rx_5_judge_1, ↓rx_5_judge_4, ↓rx_5_judge_7, ↓rx_5_judge_8, ↓rx_5_judge_9, ↓rx_5_judge_12, ↓rx_5_judge_13, ↓rx_5_judge_14, ↓rx_5_judge_17, ↓rx_5_judge_18, ↓rx_5_judge_21, ↓rx_5_judge_22, ↓rx_5_judge_23, ↓rx_5_judge_24, ↓rx_5_judge_25, ↓rx_5_judge_28, ↓rx_5_judge_31, ↓rx_5_judge_34, ↓rx_5_judge_35, ↓rx_5_judge_38, ↓rx_5_judge_41, ↓rx_5_judge_42, ↓rx_5_judge_43, ↓rx_5_judge_44, ↓rx_5_judge_45, ↓rx_5_judge_46, ↓rx_5_judge_49, ↓rx_5_judge_50, ↓rx_5_judge_51, ↓rx_5_judge_54, ↓rx_5_judge_57, ↓rx_5_judge_60, ↓cx_5_judge_87, ↓cx_5_judge_93, ↓cx_5_judge_96, ↓cx_5_judge_106, sp_3_measure, sp_5_clearAll, sp_5_judgeShape, sp_6_isChoosy, ↓sx_s1, ↓sx_s2, ↓sx_s3, ↓sx_s4, ↓sx_s5, ↓sx_s6, ↓sx_m0, ↓sx_m1, ↓sx_m2, ↓sx_m3, ↓sx_m4, ↓sx_m5, ↓sx_m6, ↓sx_k0_, ↓sx_k1_, ↓sx_k2_, ↓sx_k3_, ↓sx_k4_, ↓sx_k5_, ↓sx_k6_, ↓sx_sLL, ↓sx_sAI, ↓sx_mLL, ↓sx_mIIL, ↓sx_mIILL, ↓sx_mIILLL, ↓sx_qS, ↓sx_qSI, ↓sx_qSIII, sx_rit, sx_rif, sx_rlt, sx_rlf, sx_b0, sx_b1, sx_o0, sx_o1i, sx_o1a, sx_o1l, sx_o2, sx_g0, sx_g1, sx_k1, sx_k2, sx_k3, sx_f1, sx_f2, sx_f3, sx_w0, sx_w1, sx_w2, sx_w3, sx_ts, sx_tn, sx_up, sx_nS1, sx_nS2, sx_nW1, sx_nW2, sx_SW, sx_WS, sy_nS_inj, sy_nW_inj, sx_ob0, sx_ob1, sx_ob2, sx_ob3, sx_ob4, sx_ob5, sx_ob6, sx_ob7, sx_ob8, sx_ob9, sx_ob10, sx_ob11, sx_ob12, sx_ob13, sx_ob14, sx_ob15, sx_ob16, sx_ob17, sx_ob18, sx_ob19, sx_ob20, sx_ob21, sx_ob22, sx_ob23, sx_ob24, sx_ob25, sx_ob26, sx_ob27, sx_ob28, sx_ob29, sx_ob30, sx_ob31, sx_ob32, sx_ob33, sx_ob34, sx_ob35, sx_ob36, sx_fv0_0, sx_fv0_1, sx_fv0_2, sx_fv0_3, sx_fv0_4, sx_fv0_5, sx_fv1_0, sx_fv1_1, sx_fv1_2, sx_fv3_0, sx_fv3_1, sx_fv3_2, sx_fv3_3, sx_fv3_4, sx_fv7_0, sx_fv7_1, sx_fv7_2, sx_fv7_3, sx_fv7_4, sx_fv7_5, sx_fv7_6, sx_fv7_7, sx_fv7_8, sx_fv7_9, sx_fv7_10, sx_fv9_0, sx_fv9_1, sx_fv9_2, sx_fv9_3, sx_fv11_0, sx_fv11_1, sx_fv11_2, sx_fv11_3, sx_fv11_4, sx_fv11_5, sx_fv11_6, sx_fv15_0, sx_fv15_1, sx_fv15_2, sx_fv15_3, sx_fv15_4, sx_fv15_5, sx_fv19_0, sx_fv19_1, sx_fv19_2, sx_fv19_3, sx_fv19_4, sx_fv19_5, sx_fv19_6, sx_fv24_0, sx_fv24_1, sx_fv24_2, sx_fv24_3, sx_fv24_4, sx_fv24_5, sx_fv24_6, sx_fv24_7, sx_fv24_8, sx_fv24_9, sx_fv24_10, sx_fv24_11, sx_fv24_12, sx_fv24_13, sx_fv24_14, sx_fv24_15, sx_fv24_16, sx_fv24_17, sx_fv24_18, sx_fvS_0, sx_fvS_1, sx_fvS_2, sx_fvS_3, sx_fvS_4, sx_fvS_5, sx_fvS_6, sx_fvS_7, sx_fvS_8, sx_fvS_9, sx_ar2, sx_ar4, sx_ar5, sx_ar6, sx_ar8, sx_ar10, sx_ar12, sx_ar13, sx_ar14, sx_ar16, sx_ar17, sx_ar18, sx_ar20, sx_ar21, sx_ar22, sx_ar23, sx_ar25, sx_ar26, sx_ar27, sx_ar28, sx_ar29, sx_ar30, sx_ar31, sx_ar32, sx_ar33, sx_ar34, sx_ar35, sx_ar36, sy_ob_S, sy_ob_W, sy_ar_W, sx_if0, sx_if1, sx_ie0, sx_em, Classical.not_not, sx_cle, sx_clt, sx_cge, sx_cgt, sx_ceq, Nat.reduceLT, Nat.reduceLeDiff, Nat.reduceAdd, Nat.reduceSub, Nat.reduceEqDiff, reduceIte, List.length_cons, List.length_nil, true_and, and_true, and_self, Bool.false_eq_true, true_implies, not_true_eq_false, not_false_eq_true, false_implies, implies_true, ne_eq, reduceCtorEq, Option.some.injEq, false_and, and_false, Int.reduceNeg, Int.reduceToNat, Int.reduceLT, Int.reduceLE, Int.reduceEq, Int.reduceAdd, Int.reduceSub, Int.reduceMul, or_false, false_or, or_true, true_or, forall_const, Int.toNat_natCast, Int.toNat_zero, Int.toNat_one, Nat.zero_add, or_self, Int.neg_eq_zero]
          have e3 : c_row s1 8 (G q) 3 = st 3 := (c_row_ne (by decide)).trans (low 3 (by decide))
          have eW : c_row s1 8 (G q) (sy_nW i) = s1 (sy_nW i) := c_row_ne (by unfold sy_nW; omega)
          have i1 := ih (q + 1) (by omega)
          have e8 : c_row s1 8 (G q) 8 = G q := c_row_eq s1 8 (G q)
          have hlow : ∀ a, a < 37 → a ≠ 8 → c_row s1 8 (G q) a = st a := fun a ha h8 => (c_row_ne h8).trans (low a ha)
          have hSS : ∀ j k, k ≠ 3 → c_row s1 8 (G q) (sy_nS j) k = st (sy_nS j) k := fun j k hk => by
            rw [c_row_ne (show sy_nS j ≠ 8 by unfold sy_nS; omega)]
            by_cases hji : j = i
            · subst hji; exact p2 k hk
            · rw [p1 (sy_nS j) (c_WS_ne i j) (fun z => hji ((sy_nS_inj j i).mp z))]
          have hnS : c_net (c_row s1 8 (G q)) := (c_net_of (hlow 3 (by decide) (by decide)) (hlow 4 (by decide) (by decide)) (hlow 5 (by decide) (by decide)) (hlow 6 (by decide) (by decide))).2.2.2 hn
          have hrS : c_rng (c_row s1 8 (G q)) := c_rng_of2 (hlow 1 (by decide) (by decide)) hSS hr
          have hfS : c_fg (c_row s1 8 (G q)) = c_fg st := c_fg_of (hlow 4 (by decide) (by decide)) (hlow 5 (by decide) (by decide)) (hlow 6 (by decide) (by decide))
          have hx : xw_ok (st (sy_nS i) 0 - c_fg st (q : Int) 1) (c_fg st (q : Int) 2) (c_fg st (q : Int) 3) (s1 (sy_nW i) q) := by
            have := p3 q (by rw [low 3 (by decide)]; omega)
            rw [hfg, p2 0 (by decide)] at this
            exact this
          have hxr : -1 ≤ s1 (sy_nW i) q ∧ s1 (sy_nW i) q ≤ 4001 := by
            rcases hx with ⟨-, z⟩ | ⟨-, z1, z2, -⟩ <;> omega
          refine ⟨fun c => by rw [e3] at c; omega, fun _ => ⟨fun c => by omega, fun _ => ⟨by omega, hi, ⟨hnS, hrS, ⟨by omega, by rw [e3]; omega⟩, by rw [eW]; exact hxr⟩, fun g hg => ⟨by omega, ?_⟩⟩⟩⟩
          rw [c_row_row]
          have hgG : g = G (q + 1) := by
            funext f
            rw [hg f]
            have c1 : ∀ hc : (f : Int) < st 3 4 ∧ (f : Int) % st 3 3 = (q : Int), c_al (c_row s1 8 (G q) (sy_nS i) 5) (2 * (c_F (c_row s1 8 (G q)) 0 + c_B (c_row s1 8 (G q)) 0 * ((f : Int) / c_row s1 8 (G q) 3 3) + c_row s1 8 (G q) 1 2 * c_row s1 8 (G q) (sy_nS i) 4)) (c_lo (c_row s1 8 (G q)) i (c_row s1 8 (G q) 1 2) (c_row s1 8 (G q) (sy_nW i) q)) (c_hi (c_row s1 8 (G q)) i (c_row s1 8 (G q) 1 2) (c_row s1 8 (G q) (sy_nW i) q)) = c_ag st f i := fun hc => by
              have hsh := c_fg_shape hnS f (by rw [e3]; exact hc.1)
              have hsh2 := c_fg_shape hn f hc.1
              rw [← hsh.1]
              rw [c_al_ag (st := c_row s1 8 (G q)) (i := i) (f := (f : Int)) (ld := c_row s1 8 (G q) (sy_nS i) 4) (W := c_row s1 8 (G q) (sy_nW i) q) (by
                rw [hfS, hSS i 0 (by decide), eW, hsh2.2 1 (by decide) (by decide), hsh2.2 2 (by decide) (by decide), hsh2.2 3 (by decide) (by decide), hc.2]
                exact hx)]
              exact c_ag_of (hlow 1 (by decide) (by decide)) hfS (fun k hk => hSS i k hk) f
            have hm : ((f : Int) % st 3 3 = (q : Int)) ↔ f % n = q := by rw [← en, ← Int.natCast_emod]; omega
            rw [e3, e8]
            show _ = (if (f : Int) < st 3 4 ∧ f % n < q + 1 then _ else _)
            by_cases hc : (f : Int) < st 3 4 ∧ (f : Int) % st 3 3 = (q : Int)
            · have c2 := c1 hc
              rw [e3] at c2
              rw [if_pos hc, c2, if_pos ⟨hc.1, by have := hm.mp hc.2; omega⟩]
              congr 1
              show (if _ ∧ f % n < q then _ else _) = _
              rw [if_neg (fun z => by have := hm.mp hc.2; omega)]
            · rw [if_neg hc]
              show (if (f : Int) < st 3 4 ∧ f % n < q then _ else _) = _
              by_cases hd2 : (f : Int) < st 3 4 ∧ f % n < q
              · rw [if_pos hd2, if_pos ⟨hd2.1, by omega⟩]
              · rw [if_neg hd2, if_neg (fun z => ?_)]
                rcases Nat.lt_or_ge (f % n) q with y | y
                · exact hd2 ⟨z.1, y⟩
                · exact hc ⟨z.1, hm.mpr (by omega)⟩
          rw [hgG]
          exact i1
      have k0 := key n 0 (by omega)
      have g0 : G 0 = s1 8 := by
        funext f
        rw [low 8 (by decide)]
        show (if _ ∧ f % n < 0 then _ else _) = _
        rw [if_neg (fun z => absurd z.2 (Nat.not_lt_zero _))]
      rw [g0, c_row_self] at k0
      exact k0
    refine hgo 100 _ _ _ _ ?_
    simp -implicitDefEqProofs only [↓rx_5_judge_0, ↓rx_5_judge_1, ↓rx_5_judge_4, ↓rx_5_judge_7, ↓rx_5_judge_8, ↓rx_5_judge_9, ↓rx_5_judge_12, ↓rx_5_judge_13, ↓rx_5_judge_14, ↓rx_5_judge_17, ↓rx_5_judge_18, ↓rx_5_judge_21, ↓rx_5_judge_22, ↓rx_5_judge_23, ↓rx_5_judge_24, ↓rx_5_judge_25, ↓rx_5_judge_28, ↓rx_5_judge_31, ↓rx_5_judge_34, ↓rx_5_judge_35, ↓rx_5_judge_38, ↓rx_5_judge_41, ↓rx_5_judge_42, ↓rx_5_judge_43, ↓rx_5_judge_44, ↓rx_5_judge_45, ↓rx_5_judge_46, ↓rx_5_judge_49, ↓rx_5_judge_50, ↓rx_5_judge_51, ↓rx_5_judge_54, ↓rx_5_judge_57, ↓rx_5_judge_60, ↓cx_5_judge_87, ↓cx_5_judge_93, ↓cx_5_judge_96, ↓cx_5_judge_106, sp_3_measure, sp_5_clearAll, sp_5_judgeShape, sp_6_isChoosy, ↓sx_s1, ↓sx_s2, ↓sx_s3, ↓sx_s4, ↓sx_s5, ↓sx_s6, ↓sx_m0, ↓sx_m1, ↓sx_m2, ↓sx_m3, ↓sx_m4, ↓sx_m5, ↓sx_m6, ↓sx_k0_, ↓sx_k1_, ↓sx_k2_, ↓sx_k3_, ↓sx_k4_, ↓sx_k5_, ↓sx_k6_, ↓sx_sLL, ↓sx_sAI, ↓sx_mLL, ↓sx_mIIL, ↓sx_mIILL, ↓sx_mIILLL, ↓sx_qS, ↓sx_qSI, ↓sx_qSIII, sx_rit, sx_rif, sx_rlt, sx_rlf, sx_b0, sx_b1, sx_o0, sx_o1i, sx_o1a, sx_o1l, sx_o2, sx_g0, sx_g1, sx_k1, sx_k2, sx_k3, sx_f1, sx_f2, sx_f3, sx_w0, sx_w1, sx_w2, sx_w3, sx_ts, sx_tn, sx_up, sx_nS1, sx_nS2, sx_nW1, sx_nW2, sx_SW, sx_WS, sy_nS_inj, sy_nW_inj, sx_ob0, sx_ob1, sx_ob2, sx_ob3, sx_ob4, sx_ob5, sx_ob6, sx_ob7, sx_ob8, sx_ob9, sx_ob10, sx_ob11, sx_ob12, sx_ob13, sx_ob14, sx_ob15, sx_ob16, sx_ob17, sx_ob18, sx_ob19, sx_ob20, sx_ob21, sx_ob22, sx_ob23, sx_ob24, sx_ob25, sx_ob26, sx_ob27, sx_ob28, sx_ob29, sx_ob30, sx_ob31, sx_ob32, sx_ob33, sx_ob34, sx_ob35, sx_ob36, sx_fv0_0, sx_fv0_1, sx_fv0_2, sx_fv0_3, sx_fv0_4, sx_fv0_5, sx_fv1_0, sx_fv1_1, sx_fv1_2, sx_fv3_0, sx_fv3_1, sx_fv3_2, sx_fv3_3, sx_fv3_4, sx_fv7_0, sx_fv7_1, sx_fv7_2, sx_fv7_3, sx_fv7_4, sx_fv7_5, sx_fv7_6, sx_fv7_7, sx_fv7_8, sx_fv7_9, sx_fv7_10, sx_fv9_0, sx_fv9_1, sx_fv9_2, sx_fv9_3, sx_fv11_0, sx_fv11_1, sx_fv11_2, sx_fv11_3, sx_fv11_4, sx_fv11_5, sx_fv11_6, sx_fv15_0, sx_fv15_1, sx_fv15_2, sx_fv15_3, sx_fv15_4, sx_fv15_5, sx_fv19_0, sx_fv19_1, sx_fv19_2, sx_fv19_3, sx_fv19_4, sx_fv19_5, sx_fv19_6, sx_fv24_0, sx_fv24_1, sx_fv24_2, sx_fv24_3, sx_fv24_4, sx_fv24_5, sx_fv24_6, sx_fv24_7, sx_fv24_8, sx_fv24_9, sx_fv24_10, sx_fv24_11, sx_fv24_12, sx_fv24_13, sx_fv24_14, sx_fv24_15, sx_fv24_16, sx_fv24_17, sx_fv24_18, sx_fvS_0, sx_fvS_1, sx_fvS_2, sx_fvS_3, sx_fvS_4, sx_fvS_5, sx_fvS_6, sx_fvS_7, sx_fvS_8, sx_fvS_9, sx_ar2, sx_ar4, sx_ar5, sx_ar6, sx_ar8, sx_ar10, sx_ar12, sx_ar13, sx_ar14, sx_ar16, sx_ar17, sx_ar18, sx_ar20, sx_ar21, sx_ar22, sx_ar23, sx_ar25, sx_ar26, sx_ar27, sx_ar28, sx_ar29, sx_ar30, sx_ar31, sx_ar32, sx_ar33, sx_ar34, sx_ar35, sx_ar36, sy_ob_S, sy_ob_W, sy_ar_W, sx_if0, sx_if1, sx_ie0, sx_em, Classical.not_not, sx_cle, sx_clt, sx_cge, sx_cgt, sx_ceq, Nat.reduceLT, Nat.reduceLeDiff, Nat.reduceAdd, Nat.reduceSub, Nat.reduceEqDiff, reduceIte, List.length_cons, List.length_nil, true_and, and_true, and_self, Bool.false_eq_true, true_implies, not_true_eq_false, not_false_eq_true, false_implies, implies_true, ne_eq, reduceCtorEq, Option.some.injEq, false_and, and_false, Int.reduceNeg, Int.reduceToNat, Int.reduceLT, Int.reduceLE, Int.reduceEq, Int.reduceAdd, Int.reduceSub, Int.reduceMul, or_false, false_or, or_true, true_or, forall_const, Int.toNat_natCast, Int.toNat_zero, Int.toNat_one, Nat.zero_add, or_self, Int.neg_eq_zero]
    refine ⟨hi, fun _ => ⟨hi, ⟨hn, hr⟩, fun c => hrest st (fun _ _ _ => rfl) (fun _ _ => rfl) (hwk1 c), fun c g hg => hrest _ (fun a ha hS => ?_) (fun k hk => ?_) ?_⟩, fun c => absurd hch c⟩
    · rw [sy_up_ne _ _ hS, c_row_ne ha]
    · show (if _ ∧ k = 3 then _ else _) = _
      rw [if_neg (fun z => hk z.2), c_row_ne (c_WS_ne i i)]
    · intro s hs
      have e3 : sy_up (c_row st (sy_nW i) g) (sy_nS i) 3 1 3 = st 3 := by rw [sy_up_ne _ _ (by unfold sy_nS; omega), c_row_ne (c_W_ne (by decide))]
      have hf : c_fg (sy_up (c_row st (sy_nW i) g) (sy_nS i) 3 1) = c_fg st := c_fg_of (by rw [sy_up_ne _ _ (by unfold sy_nS; omega), c_row_ne (c_W_ne (by decide))]) (by rw [sy_up_ne _ _ (by unfold sy_nS; omega), c_row_ne (c_W_ne (by decide))]) (by rw [sy_up_ne _ _ (by unfold sy_nS; omega), c_row_ne (c_W_ne (by decide))])
      have eW : sy_up (c_row st (sy_nW i) g) (sy_nS i) 3 1 (sy_nW i) = g := by rw [sy_up_ne _ _ (fun z => c_WS_ne i i z.symm), c_row_eq]
      have e0 : sy_up (c_row st (sy_nW i) g) (sy_nS i) 3 1 (sy_nS i) 0 = st (sy_nS i) 0 := by
        show (if _ ∧ (0 : Nat) = 3 then _ else _) = _
        rw [if_neg (fun z => absurd z.2 (by decide)), c_row_ne (c_WS_ne i i)]
      rw [e3] at hs
      rw [hf, eW, e0]
      exact hg s hs
  · refine hgo 100 _ _ _ _ ?_
    simp -implicitDefEqProofs only [↓rx_5_judge_0, ↓rx_5_judge_1, ↓rx_5_judge_4, ↓rx_5_judge_7, ↓rx_5_judge_8, ↓rx_5_judge_9, ↓rx_5_judge_12, ↓rx_5_judge_13, ↓rx_5_judge_14, ↓rx_5_judge_17, ↓rx_5_judge_18, ↓rx_5_judge_21, ↓rx_5_judge_22, ↓rx_5_judge_23, ↓rx_5_judge_24, ↓rx_5_judge_25, ↓rx_5_judge_28, ↓rx_5_judge_31, ↓rx_5_judge_34, ↓rx_5_judge_35, ↓rx_5_judge_38, ↓rx_5_judge_41, ↓rx_5_judge_42, ↓rx_5_judge_43, ↓rx_5_judge_44, ↓rx_5_judge_45, ↓rx_5_judge_46, ↓rx_5_judge_49, ↓rx_5_judge_50, ↓rx_5_judge_51, ↓rx_5_judge_54, ↓rx_5_judge_57, ↓rx_5_judge_60, ↓cx_5_judge_87, ↓cx_5_judge_93, ↓cx_5_judge_96, ↓cx_5_judge_106, sp_3_measure, sp_5_clearAll, sp_5_judgeShape, sp_6_isChoosy, ↓sx_s1, ↓sx_s2, ↓sx_s3, ↓sx_s4, ↓sx_s5, ↓sx_s6, ↓sx_m0, ↓sx_m1, ↓sx_m2, ↓sx_m3, ↓sx_m4, ↓sx_m5, ↓sx_m6, ↓sx_k0_, ↓sx_k1_, ↓sx_k2_, ↓sx_k3_, ↓sx_k4_, ↓sx_k5_, ↓sx_k6_, ↓sx_sLL, ↓sx_sAI, ↓sx_mLL, ↓sx_mIIL, ↓sx_mIILL, ↓sx_mIILLL, ↓sx_qS, ↓sx_qSI, ↓sx_qSIII, sx_rit, sx_rif, sx_rlt, sx_rlf, sx_b0, sx_b1, sx_o0, sx_o1i, sx_o1a, sx_o1l, sx_o2, sx_g0, sx_g1, sx_k1, sx_k2, sx_k3, sx_f1, sx_f2, sx_f3, sx_w0, sx_w1, sx_w2, sx_w3, sx_ts, sx_tn, sx_up, sx_nS1, sx_nS2, sx_nW1, sx_nW2, sx_SW, sx_WS, sy_nS_inj, sy_nW_inj, sx_ob0, sx_ob1, sx_ob2, sx_ob3, sx_ob4, sx_ob5, sx_ob6, sx_ob7, sx_ob8, sx_ob9, sx_ob10, sx_ob11, sx_ob12, sx_ob13, sx_ob14, sx_ob15, sx_ob16, sx_ob17, sx_ob18, sx_ob19, sx_ob20, sx_ob21, sx_ob22, sx_ob23, sx_ob24, sx_ob25, sx_ob26, sx_ob27, sx_ob28, sx_ob29, sx_ob30, sx_ob31, sx_ob32, sx_ob33, sx_ob34, sx_ob35, sx_ob36, sx_fv0_0, sx_fv0_1, sx_fv0_2, sx_fv0_3, sx_fv0_4, sx_fv0_5, sx_fv1_0, sx_fv1_1, sx_fv1_2, sx_fv3_0, sx_fv3_1, sx_fv3_2, sx_fv3_3, sx_fv3_4, sx_fv7_0, sx_fv7_1, sx_fv7_2, sx_fv7_3, sx_fv7_4, sx_fv7_5, sx_fv7_6, sx_fv7_7, sx_fv7_8, sx_fv7_9, sx_fv7_10, sx_fv9_0, sx_fv9_1, sx_fv9_2, sx_fv9_3, sx_fv11_0, sx_fv11_1, sx_fv11_2, sx_fv11_3, sx_fv11_4, sx_fv11_5, sx_fv11_6, sx_fv15_0, sx_fv15_1, sx_fv15_2, sx_fv15_3, sx_fv15_4, sx_fv15_5, sx_fv19_0, sx_fv19_1, sx_fv19_2, sx_fv19_3, sx_fv19_4, sx_fv19_5, sx_fv19_6, sx_fv24_0, sx_fv24_1, sx_fv24_2, sx_fv24_3, sx_fv24_4, sx_fv24_5, sx_fv24_6, sx_fv24_7, sx_fv24_8, sx_fv24_9, sx_fv24_10, sx_fv24_11, sx_fv24_12, sx_fv24_13, sx_fv24_14, sx_fv24_15, sx_fv24_16, sx_fv24_17, sx_fv24_18, sx_fvS_0, sx_fvS_1, sx_fvS_2, sx_fvS_3, sx_fvS_4, sx_fvS_5, sx_fvS_6, sx_fvS_7, sx_fvS_8, sx_fvS_9, sx_ar2, sx_ar4, sx_ar5, sx_ar6, sx_ar8, sx_ar10, sx_ar12, sx_ar13, sx_ar14, sx_ar16, sx_ar17, sx_ar18, sx_ar20, sx_ar21, sx_ar22, sx_ar23, sx_ar25, sx_ar26, sx_ar27, sx_ar28, sx_ar29, sx_ar30, sx_ar31, sx_ar32, sx_ar33, sx_ar34, sx_ar35, sx_ar36, sy_ob_S, sy_ob_W, sy_ar_W, sx_if0, sx_if1, sx_ie0, sx_em, Classical.not_not, sx_cle, sx_clt, sx_cge, sx_cgt, sx_ceq, Nat.reduceLT, Nat.reduceLeDiff, Nat.reduceAdd, Nat.reduceSub, Nat.reduceEqDiff, reduceIte, List.length_cons, List.length_nil, true_and, and_true, and_self, Bool.false_eq_true, true_implies, not_true_eq_false, not_false_eq_true, false_implies, implies_true, ne_eq, reduceCtorEq, Option.some.injEq, false_and, and_false, Int.reduceNeg, Int.reduceToNat, Int.reduceLT, Int.reduceLE, Int.reduceEq, Int.reduceAdd, Int.reduceSub, Int.reduceMul, or_false, false_or, or_true, true_or, forall_const, Int.toNat_natCast, Int.toNat_zero, Int.toNat_one, Nat.zero_add, or_self, Int.neg_eq_zero]
    refine ⟨hi, fun c => absurd c hch, fun _ => ⟨hn, fun g hg => h _ ⟨fun a h8 _ _ => c_row_ne h8, fun k _ => by rw [c_row_ne (show sy_nS i ≠ 8 by unfold sy_nS; omega)], fun hne => ?_, fun f => ?_⟩⟩⟩
    · rw [c_row_ne (show sy_nS i ≠ 8 by unfold sy_nS; omega)] at hne
      exact c_wok_of (c_row_ne (by decide)) (c_fg_of (c_row_ne (by decide)) (c_row_ne (by decide)) (c_row_ne (by decide))) (by rw [c_row_ne (show sy_nS i ≠ 8 by unfold sy_nS; omega)]) (c_row_ne (by unfold sy_nW; omega)) (hwk1 hne)
    · have hag : c_ag st f i = true := by
        unfold c_ag c_agt xg_ag
        rw [if_neg (fun z => hch (Or.inl z)), if_neg (fun z => hch (Or.inr z))]
      rw [c_row_eq, hg f, hag]
