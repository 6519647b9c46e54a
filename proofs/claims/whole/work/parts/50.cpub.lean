/-! THE CLASS: what is asked and told, the short ones -/
def sp_2_forget (ns : Nat) : sy_Sp := sy_m0 11 fun st post => post none (sy_up st 11 6 0)
def ct_2_forget (ns q : Nat) : Option (Bool × Nat × sy_Sp) := match q with
  | _ => none
abbrev M_2_forget (ns : Nat) : sy_M := Mk_2_forget (ct_2_forget ns)
theorem mv_2_forget (ns : Nat) : sy_MV c_2_forget y_2_forget.cls none (M_2_forget ns) := ⟨tv_2_forget, ff_2_ok, ki_2_ok, kl_2_ok⟩
abbrev rm_2_forget : Room := { frames := 0, cells := 0, slots := 0, locals := 0 }
theorem co_2_forget (l : Launch) : sy_calls l rm_2_forget y_2_forget.cls c_2_forget 1 (fun ns => (M_2_forget ns).2.2.2.2.1) := by
  intro p e s m args below meth c rt wd ad ns A Q X hA q b n sp h
  replace h : ct_2_forget ns q = some (b, n, sp) := h
  unfold ct_2_forget at h
  cases h
theorem rc_2_forget (ns : Nat) (as : List sy_V) (st : sy_S) (post : sy_R) (h : sp_2_forget ns as st post) : ∃ b as', as = .inr (.inr (some (some b))) :: as' ∧ sy_ob b = some 2 := sy_m0_r rfl as st post h
theorem mc_2_forget (l : Launch) : sy_MC l y_2_forget c_2_forget 1 none rm_2_forget sp_2_forget := by
  refine sy_meth M_2_forget (by decide +kernel) mv_2_forget (co_2_forget l) ?_
  intro ns as st post WA h hok hrg ⟨hgo0, hin, hwk⟩
  have hgo : ∀ (n pc : Nat) (L k : List sy_V) (st : sy_S), rn_2_forget ns (ct_2_forget ns) post WA n pc L k st → WA pc L k st := fun n pc L k st h => hgo0 [] n pc L k st h
  replace h := sy_m0_e h hok
  obtain ⟨rfl, h⟩ := h
  refine ⟨Nat.le_of_ble_eq_true rfl, ?_⟩
  show WA 0 [.inr (.inr (some (some 11)))] [] st
  refine hgo 100 _ _ _ _ ?_
  simp -implicitDefEqProofs only [↓rx_2_forget_0, ↓rx_2_forget_1, ↓rx_2_forget_2, ↓rx_2_forget_5, ↓sx_s1, ↓sx_s2, ↓sx_s3, ↓sx_s4, ↓sx_s5, ↓sx_s6, ↓sx_m0, ↓sx_m1, ↓sx_m2, ↓sx_m3, ↓sx_m4, ↓sx_m5, ↓sx_m6, ↓sx_k0_, ↓sx_k1_, ↓sx_k2_, ↓sx_k3_, ↓sx_k4_, ↓sx_k5_, ↓sx_k6_, ↓sx_sLL, ↓sx_sAI, ↓sx_mLL, ↓sx_mIIL, ↓sx_mIILL, ↓sx_mIILLL, ↓sx_qS, ↓sx_qSI, ↓sx_qSIII, sx_rit, sx_rif, sx_rlt, sx_rlf, sx_b0, sx_b1, sx_o0, sx_o1i, sx_o1a, sx_o1l, sx_o2, sx_g0, sx_g1, sx_k1, sx_k2, sx_k3, sx_f1, sx_f2, sx_f3, sx_w0, sx_w1, sx_w2, sx_w3, sx_ts, sx_tn, sx_up, sx_nS1, sx_nS2, sx_nW1, sx_nW2, sx_SW, sx_WS, sy_nS_inj, sy_nW_inj, sx_ob0, sx_ob1, sx_ob2, sx_ob3, sx_ob4, sx_ob5, sx_ob6, sx_ob7, sx_ob8, sx_ob9, sx_ob10, sx_ob11, sx_ob12, sx_ob13, sx_ob14, sx_ob15, sx_ob16, sx_ob17, sx_ob18, sx_ob19, sx_ob20, sx_ob21, sx_ob22, sx_ob23, sx_ob24, sx_ob25, sx_ob26, sx_ob27, sx_ob28, sx_ob29, sx_ob30, sx_ob31, sx_ob32, sx_ob33, sx_ob34, sx_ob35, sx_ob36, sx_fv0_0, sx_fv0_1, sx_fv0_2, sx_fv0_3, sx_fv0_4, sx_fv0_5, sx_fv1_0, sx_fv1_1, sx_fv1_2, sx_fv3_0, sx_fv3_1, sx_fv3_2, sx_fv3_3, sx_fv3_4, sx_fv7_0, sx_fv7_1, sx_fv7_2, sx_fv7_3, sx_fv7_4, sx_fv7_5, sx_fv7_6, sx_fv7_7, sx_fv7_8, sx_fv7_9, sx_fv7_10, sx_fv9_0, sx_fv9_1, sx_fv9_2, sx_fv9_3, sx_fv11_0, sx_fv11_1, sx_fv11_2, sx_fv11_3, sx_fv11_4, sx_fv11_5, sx_fv11_6, sx_fv15_0, sx_fv15_1, sx_fv15_2, sx_fv15_3, sx_fv15_4, sx_fv15_5, sx_fv19_0, sx_fv19_1, sx_fv19_2, sx_fv19_3, sx_fv19_4, sx_fv19_5, sx_fv19_6, sx_fv24_0, sx_fv24_1, sx_fv24_2, sx_fv24_3, sx_fv24_4, sx_fv24_5, sx_fv24_6, sx_fv24_7, sx_fv24_8, sx_fv24_9, sx_fv24_10, sx_fv24_11, sx_fv24_12, sx_fv24_13, sx_fv24_14, sx_fv24_15, sx_fv24_16, sx_fv24_17, sx_fv24_18, sx_fvS_0, sx_fvS_1, sx_fvS_2, sx_fvS_3, sx_fvS_4, sx_fvS_5, sx_fvS_6, sx_fvS_7, sx_fvS_8, sx_fvS_9, sx_ar2, sx_ar4, sx_ar5, sx_ar6, sx_ar8, sx_ar10, sx_ar12, sx_ar13, sx_ar14, sx_ar16, sx_ar17, sx_ar18, sx_ar20, sx_ar21, sx_ar22, sx_ar23, sx_ar25, sx_ar26, sx_ar27, sx_ar28, sx_ar29, sx_ar30, sx_ar31, sx_ar32, sx_ar33, sx_ar34, sx_ar35, sx_ar36, sy_ob_S, sy_ob_W, sy_ar_W, sx_if0, sx_if1, sx_ie0, sx_em, Classical.not_not, sx_cle, sx_clt, sx_cge, sx_cgt, sx_ceq, Nat.reduceLT, Nat.reduceLeDiff, Nat.reduceAdd, Nat.reduceSub, Nat.reduceEqDiff, reduceIte, List.length_cons, List.length_nil, true_and, and_true, and_self, Bool.false_eq_true, true_implies, not_true_eq_false, not_false_eq_true, false_implies, implies_true, ne_eq, reduceCtorEq, Option.some.injEq, false_and, and_false, Int.reduceNeg, Int.reduceToNat, Int.reduceLT, Int.reduceLE, Int.reduceEq, Int.reduceAdd, Int.reduceSub, Int.reduceMul, or_false, false_or, or_true, true_or, forall_const, Int.toNat_natCast, Int.toNat_zero, Int.toNat_one, Nat.zero_add, or_self, Int.neg_eq_zero]
  exact h
def c_chg (st : sy_S) (i : Nat) : sy_S := sy_up (c_forget st i) 11 6 0
def sp_8_changed (ns : Nat) : sy_Sp := sy_m1 0 fun i st post => (0 ≤ i ∧ i < 16) ∧ post none (c_chg st i.toNat)
def ct_8_changed (ns q : Nat) : Option (Bool × Nat × sy_Sp) := match q with
  | 66 => some (false, 1, sp_2_forget ns)
  | 201 => some (false, 2, sp_5_forget ns)
  | _ => none
abbrev M_8_changed (ns : Nat) : sy_M := Mk_8_changed (ct_8_changed ns)
theorem cx_8_changed_66 {ns : Nat} {v1 : sy_V} {r : List sy_V} {s : sy_S} {f : List sy_V → sy_S → Prop} : sy_call false (ct_8_changed ns 66) (v1 :: r) s f = (sy_wd r ≤ 8 ∧ (sy_fit v1) ∧ sp_2_forget ns [sy_kn v1] s (fun q t => f (q.toList ++ r) t)) := sx_call1
theorem cx_8_changed_201 {ns : Nat} {v1 v2 : sy_V} {r : List sy_V} {s : sy_S} {f : List sy_V → sy_S → Prop} : sy_call false (ct_8_changed ns 201) (v2 :: v1 :: r) s f = (sy_wd r ≤ 8 ∧ (sy_fit v2 ∧ sy_fit v1) ∧ sp_5_forget ns [sy_kn v1, sy_kn v2] s (fun q t => f (q.toList ++ r) t)) := sx_call2
theorem mv_8_changed (ns : Nat) : sy_MV c_8_changed y_8_changed.cls none (M_8_changed ns) := ⟨tv_8_changed, ff_8_ok, ki_8_ok, kl_8_ok⟩
abbrev rm_8_changed : Room := { frames := 1, cells := 0, slots := 0, locals := 21 }
theorem iw_2_forget : Cond.code y_2_forget c_2_forget 1 none ∈ sy_tb ∧ Cond.initialized y_2_forget.cls ∈ sy_tb ∧ (y_2_forget.cls ≠ "java/lang/invoke/MethodHandle" ∧ y_2_forget.cls ≠ "java/lang/invoke/VarHandle" ∧ (parseMethodDescriptor y_2_forget.desc).map (fun d => d.parameters.length) = some 0) := ⟨sy_inx 298 (by decide +kernel) (by decide +kernel), sy_inx 50 (by decide +kernel) (by decide +kernel), by decide +kernel⟩
theorem ii_2_forget : Cond.instanceMethod y_2_forget ∈ sy_tb ∧ Cond.selects y_2_forget.cls y_2_forget y_2_forget ∈ sy_tb := ⟨sy_inx 296 (by decide +kernel) (by decide +kernel), sy_inx 297 (by decide +kernel) (by decide +kernel)⟩
theorem iw_5_forget : Cond.code y_5_forget c_5_forget 2 none ∈ sy_tb ∧ Cond.initialized y_5_forget.cls ∈ sy_tb ∧ (y_5_forget.cls ≠ "java/lang/invoke/MethodHandle" ∧ y_5_forget.cls ≠ "java/lang/invoke/VarHandle" ∧ (parseMethodDescriptor y_5_forget.desc).map (fun d => d.parameters.length) = some 1) := ⟨sy_inx 385 (by decide +kernel) (by decide +kernel), sy_inx 48 (by decide +kernel) (by decide +kernel), by decide +kernel⟩
theorem ii_5_forget : Cond.instanceMethod y_5_forget ∈ sy_tb ∧ Cond.selects y_5_forget.cls y_5_forget y_5_forget ∈ sy_tb := ⟨sy_inx 383 (by decide +kernel) (by decide +kernel), sy_inx 384 (by decide +kernel) (by decide +kernel)⟩
theorem co_8_changed (l : Launch) : sy_calls l rm_8_changed y_8_changed.cls c_8_changed 2 (fun ns => (M_8_changed ns).2.2.2.2.1) := by
  intro p e s m args below meth c rt wd ad ns A Q X hA q b n sp h
  replace h : ct_8_changed ns q = some (b, n, sp) := h
  unfold ct_8_changed at h
  split at h
  · cases h; exact sy_coV (ci := 2) X hA (mc_2_forget l) ⟨iw_2_forget.1, iw_2_forget.2.1, iw_2_forget.2.2, ⟨by decide, by decide⟩, rfl, rfl⟩ (sy_inx 295 (by decide +kernel) (by decide +kernel)) ii_2_forget.1 ii_2_forget.2 (rc_2_forget ns) ⟨_, rfl, rfl⟩
  · cases h; exact sy_coV (ci := 5) X hA (mc_5_forget l) ⟨iw_5_forget.1, iw_5_forget.2.1, iw_5_forget.2.2, ⟨by decide, by decide⟩, rfl, rfl⟩ (sy_inx 382 (by decide +kernel) (by decide +kernel)) ii_5_forget.1 ii_5_forget.2 (rc_5_forget ns) ⟨_, rfl, rfl⟩
  · cases h
theorem rc_8_changed (ns : Nat) (as : List sy_V) (st : sy_S) (post : sy_R) (h : sp_8_changed ns as st post) : ∃ b as', as = .inr (.inr (some (some b))) :: as' ∧ sy_ob b = some 8 := sy_m1_r rfl as st post h
theorem mc_8_changed (l : Launch) : sy_MC l y_8_changed c_8_changed 2 none rm_8_changed sp_8_changed := by
  refine sy_meth M_8_changed (by decide +kernel) mv_8_changed (co_8_changed l) ?_
  intro ns as st post WA h hok hrg ⟨hgo0, hin, hwk⟩
  have hgo : ∀ (n pc : Nat) (L k : List sy_V) (st : sy_S), rn_8_changed ns (ct_8_changed ns) post WA n pc L k st → WA pc L k st := fun n pc L k st h => hgo0 [] n pc L k st h
  replace h := sy_m1_e h hok
  obtain ⟨i, rfl, hi, h⟩ := h
  refine ⟨Nat.le_of_ble_eq_true rfl, ?_⟩
  show WA 0 [.inr (.inr (some (some 0))), .inl (true, i)] [] st
  refine hgo 100 _ _ _ _ ?_
  simp -implicitDefEqProofs only [↓rx_8_changed_0, ↓rx_8_changed_1, ↓rx_8_changed_4, ↓rx_8_changed_5, ↓rx_8_changed_8, ↓rx_8_changed_9, ↓rx_8_changed_12, ↓rx_8_changed_15, ↓cx_8_changed_66, ↓cx_8_changed_201, sp_2_forget, sp_5_forget, ↓sx_s1, ↓sx_s2, ↓sx_s3, ↓sx_s4, ↓sx_s5, ↓sx_s6, ↓sx_m0, ↓sx_m1, ↓sx_m2, ↓sx_m3, ↓sx_m4, ↓sx_m5, ↓sx_m6, ↓sx_k0_, ↓sx_k1_, ↓sx_k2_, ↓sx_k3_, ↓sx_k4_, ↓sx_k5_, ↓sx_k6_, ↓sx_sLL, ↓sx_sAI, ↓sx_mLL, ↓sx_mIIL, ↓sx_mIILL, ↓sx_mIILLL, ↓sx_qS, ↓sx_qSI, ↓sx_qSIII, sx_rit, sx_rif, sx_rlt, sx_rlf, sx_b0, sx_b1, sx_o0, sx_o1i, sx_o1a, sx_o1l, sx_o2, sx_g0, sx_g1, sx_k1, sx_k2, sx_k3, sx_f1, sx_f2, sx_f3, sx_w0, sx_w1, sx_w2, sx_w3, sx_ts, sx_tn, sx_up, sx_nS1, sx_nS2, sx_nW1, sx_nW2, sx_SW, sx_WS, sy_nS_inj, sy_nW_inj, sx_ob0, sx_ob1, sx_ob2, sx_ob3, sx_ob4, sx_ob5, sx_ob6, sx_ob7, sx_ob8, sx_ob9, sx_ob10, sx_ob11, sx_ob12, sx_ob13, sx_ob14, sx_ob15, sx_ob16, sx_ob17, sx_ob18, sx_ob19, sx_ob20, sx_ob21, sx_ob22, sx_ob23, sx_ob24, sx_ob25, sx_ob26, sx_ob27, sx_ob28, sx_ob29, sx_ob30, sx_ob31, sx_ob32, sx_ob33, sx_ob34, sx_ob35, sx_ob36, sx_fv0_0, sx_fv0_1, sx_fv0_2, sx_fv0_3, sx_fv0_4, sx_fv0_5, sx_fv1_0, sx_fv1_1, sx_fv1_2, sx_fv3_0, sx_fv3_1, sx_fv3_2, sx_fv3_3, sx_fv3_4, sx_fv7_0, sx_fv7_1, sx_fv7_2, sx_fv7_3, sx_fv7_4, sx_fv7_5, sx_fv7_6, sx_fv7_7, sx_fv7_8, sx_fv7_9, sx_fv7_10, sx_fv9_0, sx_fv9_1, sx_fv9_2, sx_fv9_3, sx_fv11_0, sx_fv11_1, sx_fv11_2, sx_fv11_3, sx_fv11_4, sx_fv11_5, sx_fv11_6, sx_fv15_0, sx_fv15_1, sx_fv15_2, sx_fv15_3, sx_fv15_4, sx_fv15_5, sx_fv19_0, sx_fv19_1, sx_fv19_2, sx_fv19_3, sx_fv19_4, sx_fv19_5, sx_fv19_6, sx_fv24_0, sx_fv24_1, sx_fv24_2, sx_fv24_3, sx_fv24_4, sx_fv24_5, sx_fv24_6, sx_fv24_7, sx_fv24_8, sx_fv24_9, sx_fv24_10, sx_fv24_11, sx_fv24_12, sx_fv24_13, sx_fv24_14, sx_fv24_15, sx_fv24_16, sx_fv24_17, sx_fv24_18, sx_fvS_0, sx_fvS_1, sx_fvS_2, sx_fvS_3, sx_fvS_4, sx_fvS_5, sx_fvS_6, sx_fvS_7, sx_fvS_8, sx_fvS_9, sx_ar2, sx_ar4, sx_ar5, sx_ar6, sx_ar8, sx_ar10, sx_ar12, sx_ar13, sx_ar14, sx_ar16, sx_ar17, sx_ar18, sx_ar20, sx_ar21, sx_ar22, sx_ar23, sx_ar25, sx_ar26, sx_ar27, sx_ar28, sx_ar29, sx_ar30, sx_ar31, sx_ar32, sx_ar33, sx_ar34, sx_ar35, sx_ar36, sy_ob_S, sy_ob_W, sy_ar_W, sx_if0, sx_if1, sx_ie0, sx_em, Classical.not_not, sx_cle, sx_clt, sx_cge, sx_cgt, sx_ceq, Nat.reduceLT, Nat.reduceLeDiff, Nat.reduceAdd, Nat.reduceSub, Nat.reduceEqDiff, reduceIte, List.length_cons, List.length_nil, true_and, and_true, and_self, Bool.false_eq_true, true_implies, not_true_eq_false, not_false_eq_true, false_implies, implies_true, ne_eq, reduceCtorEq, Option.some.injEq, false_and, and_false, Int.reduceNeg, Int.reduceToNat, Int.reduceLT, Int.reduceLE, Int.reduceEq, Int.reduceAdd, Int.reduceSub, Int.reduceMul, or_false, false_or, or_true, true_or, forall_const, Int.toNat_natCast, Int.toNat_zero, Int.toNat_one, Nat.zero_add, or_self, Int.neg_eq_zero]
  exact h
def sp_8_figures (ns : Nat) : sy_Sp := sy_m0 0 fun st post => post (some (.inl (true, st 3 4))) st
def ct_8_figures (ns q : Nat) : Option (Bool × Nat × sy_Sp) := match q with
  | _ => none
abbrev M_8_figures (ns : Nat) : sy_M := Mk_8_figures (ct_8_figures ns)
theorem mv_8_figures (ns : Nat) : sy_MV c_8_figures y_8_figures.cls (some .int) (M_8_figures ns) := ⟨tv_8_figures, ff_8_ok, ki_8_ok, kl_8_ok⟩
abbrev rm_8_figures : Room := { frames := 0, cells := 0, slots := 0, locals := 0 }
theorem co_8_figures (l : Launch) : sy_calls l rm_8_figures y_8_figures.cls c_8_figures 1 (fun ns => (M_8_figures ns).2.2.2.2.1) := by
  intro p e s m args below meth c rt wd ad ns A Q X hA q b n sp h
  replace h : ct_8_figures ns q = some (b, n, sp) := h
  unfold ct_8_figures at h
  cases h
theorem rc_8_figures (ns : Nat) (as : List sy_V) (st : sy_S) (post : sy_R) (h : sp_8_figures ns as st post) : ∃ b as', as = .inr (.inr (some (some b))) :: as' ∧ sy_ob b = some 8 := sy_m0_r rfl as st post h
theorem mc_8_figures (l : Launch) : sy_MC l y_8_figures c_8_figures 1 (some .int) rm_8_figures sp_8_figures := by
  refine sy_meth M_8_figures (by decide +kernel) mv_8_figures (co_8_figures l) ?_
  intro ns as st post WA h hok hrg ⟨hgo0, hin, hwk⟩
  have hgo : ∀ (n pc : Nat) (L k : List sy_V) (st : sy_S), rn_8_figures ns (ct_8_figures ns) post WA n pc L k st → WA pc L k st := fun n pc L k st h => hgo0 [] n pc L k st h
  replace h := sy_m0_e h hok
  obtain ⟨rfl, h⟩ := h
  refine ⟨Nat.le_of_ble_eq_true rfl, ?_⟩
  show WA 0 [.inr (.inr (some (some 0)))] [] st
  refine hgo 100 _ _ _ _ ?_
  simp -implicitDefEqProofs only [↓rx_8_figures_0, ↓rx_8_figures_1, ↓rx_8_figures_4, ↓rx_8_figures_7, ↓sx_s1, ↓sx_s2, ↓sx_s3, ↓sx_s4, ↓sx_s5, ↓sx_s6, ↓sx_m0, ↓sx_m1, ↓sx_m2, ↓sx_m3, ↓sx_m4, ↓sx_m5, ↓sx_m6, ↓sx_k0_, ↓sx_k1_, ↓sx_k2_, ↓sx_k3_, ↓sx_k4_, ↓sx_k5_, ↓sx_k6_, ↓sx_sLL, ↓sx_sAI, ↓sx_mLL, ↓sx_mIIL, ↓sx_mIILL, ↓sx_mIILLL, ↓sx_qS, ↓sx_qSI, ↓sx_qSIII, sx_rit, sx_rif, sx_rlt, sx_rlf, sx_b0, sx_b1, sx_o0, sx_o1i, sx_o1a, sx_o1l, sx_o2, sx_g0, sx_g1, sx_k1, sx_k2, sx_k3, sx_f1, sx_f2, sx_f3, sx_w0, sx_w1, sx_w2, sx_w3, sx_ts, sx_tn, sx_up, sx_nS1, sx_nS2, sx_nW1, sx_nW2, sx_SW, sx_WS, sy_nS_inj, sy_nW_inj, sx_ob0, sx_ob1, sx_ob2, sx_ob3, sx_ob4, sx_ob5, sx_ob6, sx_ob7, sx_ob8, sx_ob9, sx_ob10, sx_ob11, sx_ob12, sx_ob13, sx_ob14, sx_ob15, sx_ob16, sx_ob17, sx_ob18, sx_ob19, sx_ob20, sx_ob21, sx_ob22, sx_ob23, sx_ob24, sx_ob25, sx_ob26, sx_ob27, sx_ob28, sx_ob29, sx_ob30, sx_ob31, sx_ob32, sx_ob33, sx_ob34, sx_ob35, sx_ob36, sx_fv0_0, sx_fv0_1, sx_fv0_2, sx_fv0_3, sx_fv0_4, sx_fv0_5, sx_fv1_0, sx_fv1_1, sx_fv1_2, sx_fv3_0, sx_fv3_1, sx_fv3_2, sx_fv3_3, sx_fv3_4, sx_fv7_0, sx_fv7_1, sx_fv7_2, sx_fv7_3, sx_fv7_4, sx_fv7_5, sx_fv7_6, sx_fv7_7, sx_fv7_8, sx_fv7_9, sx_fv7_10, sx_fv9_0, sx_fv9_1, sx_fv9_2, sx_fv9_3, sx_fv11_0, sx_fv11_1, sx_fv11_2, sx_fv11_3, sx_fv11_4, sx_fv11_5, sx_fv11_6, sx_fv15_0, sx_fv15_1, sx_fv15_2, sx_fv15_3, sx_fv15_4, sx_fv15_5, sx_fv19_0, sx_fv19_1, sx_fv19_2, sx_fv19_3, sx_fv19_4, sx_fv19_5, sx_fv19_6, sx_fv24_0, sx_fv24_1, sx_fv24_2, sx_fv24_3, sx_fv24_4, sx_fv24_5, sx_fv24_6, sx_fv24_7, sx_fv24_8, sx_fv24_9, sx_fv24_10, sx_fv24_11, sx_fv24_12, sx_fv24_13, sx_fv24_14, sx_fv24_15, sx_fv24_16, sx_fv24_17, sx_fv24_18, sx_fvS_0, sx_fvS_1, sx_fvS_2, sx_fvS_3, sx_fvS_4, sx_fvS_5, sx_fvS_6, sx_fvS_7, sx_fvS_8, sx_fvS_9, sx_ar2, sx_ar4, sx_ar5, sx_ar6, sx_ar8, sx_ar10, sx_ar12, sx_ar13, sx_ar14, sx_ar16, sx_ar17, sx_ar18, sx_ar20, sx_ar21, sx_ar22, sx_ar23, sx_ar25, sx_ar26, sx_ar27, sx_ar28, sx_ar29, sx_ar30, sx_ar31, sx_ar32, sx_ar33, sx_ar34, sx_ar35, sx_ar36, sy_ob_S, sy_ob_W, sy_ar_W, sx_if0, sx_if1, sx_ie0, sx_em, Classical.not_not, sx_cle, sx_clt, sx_cge, sx_cgt, sx_ceq, Nat.reduceLT, Nat.reduceLeDiff, Nat.reduceAdd, Nat.reduceSub, Nat.reduceEqDiff, reduceIte, List.length_cons, List.length_nil, true_and, and_true, and_self, Bool.false_eq_true, true_implies, not_true_eq_false, not_false_eq_true, false_implies, implies_true, ne_eq, reduceCtorEq, Option.some.injEq, false_and, and_false, Int.reduceNeg, Int.reduceToNat, Int.reduceLT, Int.reduceLE, Int.reduceEq, Int.reduceAdd, Int.reduceSub, Int.reduceMul, or_false, false_or, or_true, true_or, forall_const, Int.toNat_natCast, Int.toNat_zero, Int.toNat_one, Nat.zero_add, or_self, Int.neg_eq_zero]
  exact h
def sp_8_fitting (ns : Nat) : sy_Sp := sy_m0 0 fun st post => c_sv ns st ∧ ∀ st', c_rf ns st st' → post (some (.inl (true, xc (c_ft ns st) (st 3 4).toNat))) st'
def ct_8_fitting (ns q : Nat) : Option (Bool × Nat × sy_Sp) := match q with
  | 127 => some (false, 1, sp_5_howManyFit ns)
  | _ => none
abbrev M_8_fitting (ns : Nat) : sy_M := Mk_8_fitting (ct_8_fitting ns)
theorem cx_8_fitting_127 {ns : Nat} {v1 : sy_V} {r : List sy_V} {s : sy_S} {f : List sy_V → sy_S → Prop} : sy_call false (ct_8_fitting ns 127) (v1 :: r) s f = (sy_wd r ≤ 8 ∧ (sy_fit v1) ∧ sp_5_howManyFit ns [sy_kn v1] s (fun q t => f (q.toList ++ r) t)) := sx_call1
theorem mv_8_fitting (ns : Nat) : sy_MV c_8_fitting y_8_fitting.cls (some .int) (M_8_fitting ns) := ⟨tv_8_fitting, ff_8_ok, ki_8_ok, kl_8_ok⟩
abbrev rm_8_fitting : Room := { frames := 6, cells := 0, slots := 0, locals := 139 }
theorem iw_5_howManyFit : Cond.code y_5_howManyFit c_5_howManyFit 1 (some .int) ∈ sy_tb ∧ Cond.initialized y_5_howManyFit.cls ∈ sy_tb ∧ (y_5_howManyFit.cls ≠ "java/lang/invoke/MethodHandle" ∧ y_5_howManyFit.cls ≠ "java/lang/invoke/VarHandle" ∧ (parseMethodDescriptor y_5_howManyFit.desc).map (fun d => d.parameters.length) = some 0) := ⟨sy_inx 543 (by decide +kernel) (by decide +kernel), sy_inx 48 (by decide +kernel) (by decide +kernel), by decide +kernel⟩
theorem ii_5_howManyFit : Cond.instanceMethod y_5_howManyFit ∈ sy_tb ∧ Cond.selects y_5_howManyFit.cls y_5_howManyFit y_5_howManyFit ∈ sy_tb := ⟨sy_inx 541 (by decide +kernel) (by decide +kernel), sy_inx 542 (by decide +kernel) (by decide +kernel)⟩
theorem co_8_fitting (l : Launch) : sy_calls l rm_8_fitting y_8_fitting.cls c_8_fitting 1 (fun ns => (M_8_fitting ns).2.2.2.2.1) := by
  intro p e s m args below meth c rt wd ad ns A Q X hA q b n sp h
  replace h : ct_8_fitting ns q = some (b, n, sp) := h
  unfold ct_8_fitting at h
  split at h
  · cases h; exact sy_coV (ci := 5) X hA (mc_5_howManyFit l) ⟨iw_5_howManyFit.1, iw_5_howManyFit.2.1, iw_5_howManyFit.2.2, ⟨by decide, by decide⟩, rfl, rfl⟩ (sy_inx 540 (by decide +kernel) (by decide +kernel)) ii_5_howManyFit.1 ii_5_howManyFit.2 (rc_5_howManyFit ns) ⟨_, rfl, rfl⟩
  · cases h
theorem rc_8_fitting (ns : Nat) (as : List sy_V) (st : sy_S) (post : sy_R) (h : sp_8_fitting ns as st post) : ∃ b as', as = .inr (.inr (some (some b))) :: as' ∧ sy_ob b = some 8 := sy_m0_r rfl as st post h
theorem mc_8_fitting (l : Launch) : sy_MC l y_8_fitting c_8_fitting 1 (some .int) rm_8_fitting sp_8_fitting := by
  refine sy_meth M_8_fitting (by decide +kernel) mv_8_fitting (co_8_fitting l) ?_
  intro ns as st post WA h hok hrg ⟨hgo0, hin, hwk⟩
  have hgo : ∀ (n pc : Nat) (L k : List sy_V) (st : sy_S), rn_8_fitting ns (ct_8_fitting ns) post WA n pc L k st → WA pc L k st := fun n pc L k st h => hgo0 [] n pc L k st h
  replace h := sy_m0_e h hok
  obtain ⟨rfl, h⟩ := h
  refine ⟨Nat.le_of_ble_eq_true rfl, ?_⟩
  show WA 0 [.inr (.inr (some (some 0)))] [] st
  refine hgo 100 _ _ _ _ ?_
  simp -implicitDefEqProofs only [↓rx_8_fitting_0, ↓rx_8_fitting_1, ↓rx_8_fitting_4, ↓rx_8_fitting_7, ↓cx_8_fitting_127, sp_5_howManyFit, ↓sx_s1, ↓sx_s2, ↓sx_s3, ↓sx_s4, ↓sx_s5, ↓sx_s6, ↓sx_m0, ↓sx_m1, ↓sx_m2, ↓sx_m3, ↓sx_m4, ↓sx_m5, ↓sx_m6, ↓sx_k0_, ↓sx_k1_, ↓sx_k2_, ↓sx_k3_, ↓sx_k4_, ↓sx_k5_, ↓sx_k6_, ↓sx_sLL, ↓sx_sAI, ↓sx_mLL, ↓sx_mIIL, ↓sx_mIILL, ↓sx_mIILLL, ↓sx_qS, ↓sx_qSI, ↓sx_qSIII, sx_rit, sx_rif, sx_rlt, sx_rlf, sx_b0, sx_b1, sx_o0, sx_o1i, sx_o1a, sx_o1l, sx_o2, sx_g0, sx_g1, sx_k1, sx_k2, sx_k3, sx_f1, sx_f2, sx_f3, sx_w0, sx_w1, sx_w2, sx_w3, sx_ts, sx_tn, sx_up, sx_nS1, sx_nS2, sx_nW1, sx_nW2, sx_SW, sx_WS, sy_nS_inj, sy_nW_inj, sx_ob0, sx_ob1, sx_ob2, sx_ob3, sx_ob4, sx_ob5, sx_ob6, sx_ob7, sx_ob8, sx_ob9, sx_ob10, sx_ob11, sx_ob12, sx_ob13, sx_ob14, sx_ob15, sx_ob16, sx_ob17, sx_ob18, sx_ob19, sx_ob20, sx_ob21, sx_ob22, sx_ob23, sx_ob24, sx_ob25, sx_ob26, sx_ob27, sx_ob28, sx_ob29, sx_ob30, sx_ob31, sx_ob32, sx_ob33, sx_ob34, sx_ob35, sx_ob36, sx_fv0_0, sx_fv0_1, sx_fv0_2, sx_fv0_3, sx_fv0_4, sx_fv0_5, sx_fv1_0, sx_fv1_1, sx_fv1_2, sx_fv3_0, sx_fv3_1, sx_fv3_2, sx_fv3_3, sx_fv3_4, sx_fv7_0, sx_fv7_1, sx_fv7_2, sx_fv7_3, sx_fv7_4, sx_fv7_5, sx_fv7_6, sx_fv7_7, sx_fv7_8, sx_fv7_9, sx_fv7_10, sx_fv9_0, sx_fv9_1, sx_fv9_2, sx_fv9_3, sx_fv11_0, sx_fv11_1, sx_fv11_2, sx_fv11_3, sx_fv11_4, sx_fv11_5, sx_fv11_6, sx_fv15_0, sx_fv15_1, sx_fv15_2, sx_fv15_3, sx_fv15_4, sx_fv15_5, sx_fv19_0, sx_fv19_1, sx_fv19_2, sx_fv19_3, sx_fv19_4, sx_fv19_5, sx_fv19_6, sx_fv24_0, sx_fv24_1, sx_fv24_2, sx_fv24_3, sx_fv24_4, sx_fv24_5, sx_fv24_6, sx_fv24_7, sx_fv24_8, sx_fv24_9, sx_fv24_10, sx_fv24_11, sx_fv24_12, sx_fv24_13, sx_fv24_14, sx_fv24_15, sx_fv24_16, sx_fv24_17, sx_fv24_18, sx_fvS_0, sx_fvS_1, sx_fvS_2, sx_fvS_3, sx_fvS_4, sx_fvS_5, sx_fvS_6, sx_fvS_7, sx_fvS_8, sx_fvS_9, sx_ar2, sx_ar4, sx_ar5, sx_ar6, sx_ar8, sx_ar10, sx_ar12, sx_ar13, sx_ar14, sx_ar16, sx_ar17, sx_ar18, sx_ar20, sx_ar21, sx_ar22, sx_ar23, sx_ar25, sx_ar26, sx_ar27, sx_ar28, sx_ar29, sx_ar30, sx_ar31, sx_ar32, sx_ar33, sx_ar34, sx_ar35, sx_ar36, sy_ob_S, sy_ob_W, sy_ar_W, sx_if0, sx_if1, sx_ie0, sx_em, Classical.not_not, sx_cle, sx_clt, sx_cge, sx_cgt, sx_ceq, Nat.reduceLT, Nat.reduceLeDiff, Nat.reduceAdd, Nat.reduceSub, Nat.reduceEqDiff, reduceIte, List.length_cons, List.length_nil, true_and, and_true, and_self, Bool.false_eq_true, true_implies, not_true_eq_false, not_false_eq_true, false_implies, implies_true, ne_eq, reduceCtorEq, Option.some.injEq, false_and, and_false, Int.reduceNeg, Int.reduceToNat, Int.reduceLT, Int.reduceLE, Int.reduceEq, Int.reduceAdd, Int.reduceSub, Int.reduceMul, or_false, false_or, or_true, true_or, forall_const, Int.toNat_natCast, Int.toNat_zero, Int.toNat_one, Nat.zero_add, or_self, Int.neg_eq_zero]
  exact h
def sp_8_fits (ns : Nat) : sy_Sp := sy_m1 0 fun k st post => c_sv ns st ∧ ∀ st', c_rf ns st st' → post (some (.inl (true, xk (c_ft ns st) k (st 3 4).toNat 0))) st'
def ct_8_fits (ns q : Nat) : Option (Bool × Nat × sy_Sp) := match q with
  | 131 => some (false, 2, sp_5_nthThatFits ns)
  | _ => none
abbrev M_8_fits (ns : Nat) : sy_M := Mk_8_fits (ct_8_fits ns)
theorem cx_8_fits_131 {ns : Nat} {v1 v2 : sy_V} {r : List sy_V} {s : sy_S} {f : List sy_V → sy_S → Prop} : sy_call false (ct_8_fits ns 131) (v2 :: v1 :: r) s f = (sy_wd r ≤ 8 ∧ (sy_fit v2 ∧ sy_fit v1) ∧ sp_5_nthThatFits ns [sy_kn v1, sy_kn v2] s (fun q t => f (q.toList ++ r) t)) := sx_call2
theorem mv_8_fits (ns : Nat) : sy_MV c_8_fits y_8_fits.cls (some .int) (M_8_fits ns) := ⟨tv_8_fits, ff_8_ok, ki_8_ok, kl_8_ok⟩
abbrev rm_8_fits : Room := { frames := 6, cells := 0, slots := 0, locals := 142 }
theorem iw_5_nthThatFits : Cond.code y_5_nthThatFits c_5_nthThatFits 4 (some .int) ∈ sy_tb ∧ Cond.initialized y_5_nthThatFits.cls ∈ sy_tb ∧ (y_5_nthThatFits.cls ≠ "java/lang/invoke/MethodHandle" ∧ y_5_nthThatFits.cls ≠ "java/lang/invoke/VarHandle" ∧ (parseMethodDescriptor y_5_nthThatFits.desc).map (fun d => d.parameters.length) = some 1) := ⟨sy_inx 551 (by decide +kernel) (by decide +kernel), sy_inx 48 (by decide +kernel) (by decide +kernel), by decide +kernel⟩
theorem ii_5_nthThatFits : Cond.instanceMethod y_5_nthThatFits ∈ sy_tb ∧ Cond.selects y_5_nthThatFits.cls y_5_nthThatFits y_5_nthThatFits ∈ sy_tb := ⟨sy_inx 549 (by decide +kernel) (by decide +kernel), sy_inx 550 (by decide +kernel) (by decide +kernel)⟩
theorem co_8_fits (l : Launch) : sy_calls l rm_8_fits y_8_fits.cls c_8_fits 2 (fun ns => (M_8_fits ns).2.2.2.2.1) := by
  intro p e s m args below meth c rt wd ad ns A Q X hA q b n sp h
  replace h : ct_8_fits ns q = some (b, n, sp) := h
  unfold ct_8_fits at h
  split at h
  · cases h; exact sy_coV (ci := 5) X hA (mc_5_nthThatFits l) ⟨iw_5_nthThatFits.1, iw_5_nthThatFits.2.1, iw_5_nthThatFits.2.2, ⟨by decide, by decide⟩, rfl, rfl⟩ (sy_inx 548 (by decide +kernel) (by decide +kernel)) ii_5_nthThatFits.1 ii_5_nthThatFits.2 (rc_5_nthThatFits ns) ⟨_, rfl, rfl⟩
  · cases h
theorem rc_8_fits (ns : Nat) (as : List sy_V) (st : sy_S) (post : sy_R) (h : sp_8_fits ns as st post) : ∃ b as', as = .inr (.inr (some (some b))) :: as' ∧ sy_ob b = some 8 := sy_m1_r rfl as st post h
theorem mc_8_fits (l : Launch) : sy_MC l y_8_fits c_8_fits 2 (some .int) rm_8_fits sp_8_fits := by
  refine sy_meth M_8_fits (by decide +kernel) mv_8_fits (co_8_fits l) ?_
  intro ns as st post WA h hok hrg ⟨hgo0, hin, hwk⟩
  have hgo : ∀ (n pc : Nat) (L k : List sy_V) (st : sy_S), rn_8_fits ns (ct_8_fits ns) post WA n pc L k st → WA pc L k st := fun n pc L k st h => hgo0 [] n pc L k st h
  replace h := sy_m1_e h hok
  obtain ⟨k, rfl, hk, h⟩ := h
  refine ⟨Nat.le_of_ble_eq_true rfl, ?_⟩
  show WA 0 [.inr (.inr (some (some 0))), .inl (true, k)] [] st
  refine hgo 100 _ _ _ _ ?_
  simp -implicitDefEqProofs only [↓rx_8_fits_0, ↓rx_8_fits_1, ↓rx_8_fits_4, ↓rx_8_fits_5, ↓rx_8_fits_8, ↓cx_8_fits_131, sp_5_nthThatFits, ↓sx_s1, ↓sx_s2, ↓sx_s3, ↓sx_s4, ↓sx_s5, ↓sx_s6, ↓sx_m0, ↓sx_m1, ↓sx_m2, ↓sx_m3, ↓sx_m4, ↓sx_m5, ↓sx_m6, ↓sx_k0_, ↓sx_k1_, ↓sx_k2_, ↓sx_k3_, ↓sx_k4_, ↓sx_k5_, ↓sx_k6_, ↓sx_sLL, ↓sx_sAI, ↓sx_mLL, ↓sx_mIIL, ↓sx_mIILL, ↓sx_mIILLL, ↓sx_qS, ↓sx_qSI, ↓sx_qSIII, sx_rit, sx_rif, sx_rlt, sx_rlf, sx_b0, sx_b1, sx_o0, sx_o1i, sx_o1a, sx_o1l, sx_o2, sx_g0, sx_g1, sx_k1, sx_k2, sx_k3, sx_f1, sx_f2, sx_f3, sx_w0, sx_w1, sx_w2, sx_w3, sx_ts, sx_tn, sx_up, sx_nS1, sx_nS2, sx_nW1, sx_nW2, sx_SW, sx_WS, sy_nS_inj, sy_nW_inj, sx_ob0, sx_ob1, sx_ob2, sx_ob3, sx_ob4, sx_ob5, sx_ob6, sx_ob7, sx_ob8, sx_ob9, sx_ob10, sx_ob11, sx_ob12, sx_ob13, sx_ob14, sx_ob15, sx_ob16, sx_ob17, sx_ob18, sx_ob19, sx_ob20, sx_ob21, sx_ob22, sx_ob23, sx_ob24, sx_ob25, sx_ob26, sx_ob27, sx_ob28, sx_ob29, sx_ob30, sx_ob31, sx_ob32, sx_ob33, sx_ob34, sx_ob35, sx_ob36, sx_fv0_0, sx_fv0_1, sx_fv0_2, sx_fv0_3, sx_fv0_4, sx_fv0_5, sx_fv1_0, sx_fv1_1, sx_fv1_2, sx_fv3_0, sx_fv3_1, sx_fv3_2, sx_fv3_3, sx_fv3_4, sx_fv7_0, sx_fv7_1, sx_fv7_2, sx_fv7_3, sx_fv7_4, sx_fv7_5, sx_fv7_6, sx_fv7_7, sx_fv7_8, sx_fv7_9, sx_fv7_10, sx_fv9_0, sx_fv9_1, sx_fv9_2, sx_fv9_3, sx_fv11_0, sx_fv11_1, sx_fv11_2, sx_fv11_3, sx_fv11_4, sx_fv11_5, sx_fv11_6, sx_fv15_0, sx_fv15_1, sx_fv15_2, sx_fv15_3, sx_fv15_4, sx_fv15_5, sx_fv19_0, sx_fv19_1, sx_fv19_2, sx_fv19_3, sx_fv19_4, sx_fv19_5, sx_fv19_6, sx_fv24_0, sx_fv24_1, sx_fv24_2, sx_fv24_3, sx_fv24_4, sx_fv24_5, sx_fv24_6, sx_fv24_7, sx_fv24_8, sx_fv24_9, sx_fv24_10, sx_fv24_11, sx_fv24_12, sx_fv24_13, sx_fv24_14, sx_fv24_15, sx_fv24_16, sx_fv24_17, sx_fv24_18, sx_fvS_0, sx_fvS_1, sx_fvS_2, sx_fvS_3, sx_fvS_4, sx_fvS_5, sx_fvS_6, sx_fvS_7, sx_fvS_8, sx_fvS_9, sx_ar2, sx_ar4, sx_ar5, sx_ar6, sx_ar8, sx_ar10, sx_ar12, sx_ar13, sx_ar14, sx_ar16, sx_ar17, sx_ar18, sx_ar20, sx_ar21, sx_ar22, sx_ar23, sx_ar25, sx_ar26, sx_ar27, sx_ar28, sx_ar29, sx_ar30, sx_ar31, sx_ar32, sx_ar33, sx_ar34, sx_ar35, sx_ar36, sy_ob_S, sy_ob_W, sy_ar_W, sx_if0, sx_if1, sx_ie0, sx_em, Classical.not_not, sx_cle, sx_clt, sx_cge, sx_cgt, sx_ceq, Nat.reduceLT, Nat.reduceLeDiff, Nat.reduceAdd, Nat.reduceSub, Nat.reduceEqDiff, reduceIte, List.length_cons, List.length_nil, true_and, and_true, and_self, Bool.false_eq_true, true_implies, not_true_eq_false, not_false_eq_true, false_implies, implies_true, ne_eq, reduceCtorEq, Option.some.injEq, false_and, and_false, Int.reduceNeg, Int.reduceToNat, Int.reduceLT, Int.reduceLE, Int.reduceEq, Int.reduceAdd, Int.reduceSub, Int.reduceMul, or_false, false_or, or_true, true_or, forall_const, Int.toNat_natCast, Int.toNat_zero, Int.toNat_one, Nat.zero_add, or_self, Int.neg_eq_zero]
  exact h
def sp_8_planned (ns : Nat) : sy_Sp := sy_m1 0 fun i st post => (st 19 6 ≤ 16) ∧ post (some (.inl (true, if 0 ≤ i ∧ i < st 19 6 then st 23 i.toNat else -1))) st
def ct_8_planned (ns q : Nat) : Option (Bool × Nat × sy_Sp) := match q with
  | 195 => some (false, 2, sp_4_chosenAt ns)
  | _ => none
abbrev M_8_planned (ns : Nat) : sy_M := Mk_8_planned (ct_8_planned ns)
theorem cx_8_planned_195 {ns : Nat} {v1 v2 : sy_V} {r : List sy_V} {s : sy_S} {f : List sy_V → sy_S → Prop} : sy_call false (ct_8_planned ns 195) (v2 :: v1 :: r) s f = (sy_wd r ≤ 8 ∧ (sy_fit v2 ∧ sy_fit v1) ∧ sp_4_chosenAt ns [sy_kn v1, sy_kn v2] s (fun q t => f (q.toList ++ r) t)) := sx_call2
theorem mv_8_planned (ns : Nat) : sy_MV c_8_planned y_8_planned.cls (some .int) (M_8_planned ns) := ⟨tv_8_planned, ff_8_ok, ki_8_ok, kl_8_ok⟩
abbrev rm_8_planned : Room := { frames := 1, cells := 0, slots := 0, locals := 21 }
theorem iw_4_chosenAt : Cond.code y_4_chosenAt c_4_chosenAt 2 (some .int) ∈ sy_tb ∧ Cond.initialized y_4_chosenAt.cls ∈ sy_tb ∧ (y_4_chosenAt.cls ≠ "java/lang/invoke/MethodHandle" ∧ y_4_chosenAt.cls ≠ "java/lang/invoke/VarHandle" ∧ (parseMethodDescriptor y_4_chosenAt.desc).map (fun d => d.parameters.length) = some 1) := ⟨sy_inx 781 (by decide +kernel) (by decide +kernel), sy_inx 52 (by decide +kernel) (by decide +kernel), by decide +kernel⟩
theorem ii_4_chosenAt : Cond.instanceMethod y_4_chosenAt ∈ sy_tb ∧ Cond.selects y_4_chosenAt.cls y_4_chosenAt y_4_chosenAt ∈ sy_tb := ⟨sy_inx 779 (by decide +kernel) (by decide +kernel), sy_inx 780 (by decide +kernel) (by decide +kernel)⟩
theorem co_8_planned (l : Launch) : sy_calls l rm_8_planned y_8_planned.cls c_8_planned 2 (fun ns => (M_8_planned ns).2.2.2.2.1) := by
  intro p e s m args below meth c rt wd ad ns A Q X hA q b n sp h
  replace h : ct_8_planned ns q = some (b, n, sp) := h
  unfold ct_8_planned at h
  split at h
  · cases h; exact sy_coV (ci := 4) X hA (mc_4_chosenAt l) ⟨iw_4_chosenAt.1, iw_4_chosenAt.2.1, iw_4_chosenAt.2.2, ⟨by decide, by decide⟩, rfl, rfl⟩ (sy_inx 778 (by decide +kernel) (by decide +kernel)) ii_4_chosenAt.1 ii_4_chosenAt.2 (rc_4_chosenAt ns) ⟨_, rfl, rfl⟩
  · cases h
theorem rc_8_planned (ns : Nat) (as : List sy_V) (st : sy_S) (post : sy_R) (h : sp_8_planned ns as st post) : ∃ b as', as = .inr (.inr (some (some b))) :: as' ∧ sy_ob b = some 8 := sy_m1_r rfl as st post h
theorem mc_8_planned (l : Launch) : sy_MC l y_8_planned c_8_planned 2 (some .int) rm_8_planned sp_8_planned := by
  refine sy_meth M_8_planned (by decide +kernel) mv_8_planned (co_8_planned l) ?_
  intro ns as st post WA h hok hrg ⟨hgo0, hin, hwk⟩
  have hgo : ∀ (n pc : Nat) (L k : List sy_V) (st : sy_S), rn_8_planned ns (ct_8_planned ns) post WA n pc L k st → WA pc L k st := fun n pc L k st h => hgo0 [] n pc L k st h
  replace h := sy_m1_e h hok
  obtain ⟨i, rfl, hi, h⟩ := h
  refine ⟨Nat.le_of_ble_eq_true rfl, ?_⟩
  show WA 0 [.inr (.inr (some (some 0))), .inl (true, i)] [] st
  refine hgo 100 _ _ _ _ ?_
  simp -implicitDefEqProofs only [↓rx_8_planned_0, ↓rx_8_planned_1, ↓rx_8_planned_4, ↓rx_8_planned_5, ↓rx_8_planned_8, ↓cx_8_planned_195, sp_4_chosenAt, ↓sx_s1, ↓sx_s2, ↓sx_s3, ↓sx_s4, ↓sx_s5, ↓sx_s6, ↓sx_m0, ↓sx_m1, ↓sx_m2, ↓sx_m3, ↓sx_m4, ↓sx_m5, ↓sx_m6, ↓sx_k0_, ↓sx_k1_, ↓sx_k2_, ↓sx_k3_, ↓sx_k4_, ↓sx_k5_, ↓sx_k6_, ↓sx_sLL, ↓sx_sAI, ↓sx_mLL, ↓sx_mIIL, ↓sx_mIILL, ↓sx_mIILLL, ↓sx_qS, ↓sx_qSI, ↓sx_qSIII, sx_rit, sx_rif, sx_rlt, sx_rlf, sx_b0, sx_b1, sx_o0, sx_o1i, sx_o1a, sx_o1l, sx_o2, sx_g0, sx_g1, sx_k1, sx_k2, sx_k3, sx_f1, sx_f2, sx_f3, sx_w0, sx_w1, sx_w2, sx_w3, sx_ts, sx_tn, sx_up, sx_nS1, sx_nS2, sx_nW1, sx_nW2, sx_SW, sx_WS, sy_nS_inj, sy_nW_inj, sx_ob0, sx_ob1, sx_ob2, sx_ob3, sx_ob4, sx_ob5, sx_ob6, sx_ob7, sx_ob8, sx_ob9, sx_ob10, sx_ob11, sx_ob12, sx_ob13, sx_ob14, sx_ob15, sx_ob16, sx_ob17, sx_ob18, sx_ob19, sx_ob20, sx_ob21, sx_ob22, sx_ob23, sx_ob24, sx_ob25, sx_ob26, sx_ob27, sx_ob28, sx_ob29, sx_ob30, sx_ob31, sx_ob32, sx_ob33, sx_ob34, sx_ob35, sx_ob36, sx_fv0_0, sx_fv0_1, sx_fv0_2, sx_fv0_3, sx_fv0_4, sx_fv0_5, sx_fv1_0, sx_fv1_1, sx_fv1_2, sx_fv3_0, sx_fv3_1, sx_fv3_2, sx_fv3_3, sx_fv3_4, sx_fv7_0, sx_fv7_1, sx_fv7_2, sx_fv7_3, sx_fv7_4, sx_fv7_5, sx_fv7_6, sx_fv7_7, sx_fv7_8, sx_fv7_9, sx_fv7_10, sx_fv9_0, sx_fv9_1, sx_fv9_2, sx_fv9_3, sx_fv11_0, sx_fv11_1, sx_fv11_2, sx_fv11_3, sx_fv11_4, sx_fv11_5, sx_fv11_6, sx_fv15_0, sx_fv15_1, sx_fv15_2, sx_fv15_3, sx_fv15_4, sx_fv15_5, sx_fv19_0, sx_fv19_1, sx_fv19_2, sx_fv19_3, sx_fv19_4, sx_fv19_5, sx_fv19_6, sx_fv24_0, sx_fv24_1, sx_fv24_2, sx_fv24_3, sx_fv24_4, sx_fv24_5, sx_fv24_6, sx_fv24_7, sx_fv24_8, sx_fv24_9, sx_fv24_10, sx_fv24_11, sx_fv24_12, sx_fv24_13, sx_fv24_14, sx_fv24_15, sx_fv24_16, sx_fv24_17, sx_fv24_18, sx_fvS_0, sx_fvS_1, sx_fvS_2, sx_fvS_3, sx_fvS_4, sx_fvS_5, sx_fvS_6, sx_fvS_7, sx_fvS_8, sx_fvS_9, sx_ar2, sx_ar4, sx_ar5, sx_ar6, sx_ar8, sx_ar10, sx_ar12, sx_ar13, sx_ar14, sx_ar16, sx_ar17, sx_ar18, sx_ar20, sx_ar21, sx_ar22, sx_ar23, sx_ar25, sx_ar26, sx_ar27, sx_ar28, sx_ar29, sx_ar30, sx_ar31, sx_ar32, sx_ar33, sx_ar34, sx_ar35, sx_ar36, sy_ob_S, sy_ob_W, sy_ar_W, sx_if0, sx_if1, sx_ie0, sx_em, Classical.not_not, sx_cle, sx_clt, sx_cge, sx_cgt, sx_ceq, Nat.reduceLT, Nat.reduceLeDiff, Nat.reduceAdd, Nat.reduceSub, Nat.reduceEqDiff, reduceIte, List.length_cons, List.length_nil, true_and, and_true, and_self, Bool.false_eq_true, true_implies, not_true_eq_false, not_false_eq_true, false_implies, implies_true, ne_eq, reduceCtorEq, Option.some.injEq, false_and, and_false, Int.reduceNeg, Int.reduceToNat, Int.reduceLT, Int.reduceLE, Int.reduceEq, Int.reduceAdd, Int.reduceSub, Int.reduceMul, or_false, false_or, or_true, true_or, forall_const, Int.toNat_natCast, Int.toNat_zero, Int.toNat_one, Nat.zero_add, or_self, Int.neg_eq_zero]
  exact h
def sp_8_calm (ns : Nat) : sy_Sp := sy_m0 0 fun st post => post (some (.inl (true, st 15 4))) (sy_up st 15 4 0)
def ct_8_calm (ns q : Nat) : Option (Bool × Nat × sy_Sp) := match q with
  | _ => none
abbrev M_8_calm (ns : Nat) : sy_M := Mk_8_calm (ct_8_calm ns)
theorem mv_8_calm (ns : Nat) : sy_MV c_8_calm y_8_calm.cls (some .int) (M_8_calm ns) := ⟨tv_8_calm, ff_8_ok, ki_8_ok, kl_8_ok⟩
abbrev rm_8_calm : Room := { frames := 0, cells := 0, slots := 0, locals := 0 }
theorem co_8_calm (l : Launch) : sy_calls l rm_8_calm y_8_calm.cls c_8_calm 2 (fun ns => (M_8_calm ns).2.2.2.2.1) := by
  intro p e s m args below meth c rt wd ad ns A Q X hA q b n sp h
  replace h : ct_8_calm ns q = some (b, n, sp) := h
  unfold ct_8_calm at h
  cases h
theorem rc_8_calm (ns : Nat) (as : List sy_V) (st : sy_S) (post : sy_R) (h : sp_8_calm ns as st post) : ∃ b as', as = .inr (.inr (some (some b))) :: as' ∧ sy_ob b = some 8 := sy_m0_r rfl as st post h
theorem mc_8_calm (l : Launch) : sy_MC l y_8_calm c_8_calm 2 (some .int) rm_8_calm sp_8_calm := by
  refine sy_meth M_8_calm (by decide +kernel) mv_8_calm (co_8_calm l) ?_
  intro ns as st post WA h hok hrg ⟨hgo0, hin, hwk⟩
  have hgo : ∀ (n pc : Nat) (L k : List sy_V) (st : sy_S), rn_8_calm ns (ct_8_calm ns) post WA n pc L k st → WA pc L k st := fun n pc L k st h => hgo0 [] n pc L k st h
  replace h := sy_m0_e h hok
  obtain ⟨rfl, h⟩ := h
  refine ⟨Nat.le_of_ble_eq_true rfl, ?_⟩
  show WA 0 [.inr (.inr (some (some 0))), .inr (.inr none)] [] st
  refine hgo 100 _ _ _ _ ?_
  simp -implicitDefEqProofs only [↓rx_8_calm_0, ↓rx_8_calm_1, ↓rx_8_calm_4, ↓rx_8_calm_7, ↓rx_8_calm_8, ↓rx_8_calm_9, ↓rx_8_calm_12, ↓rx_8_calm_13, ↓rx_8_calm_16, ↓rx_8_calm_17, ↓sx_s1, ↓sx_s2, ↓sx_s3, ↓sx_s4, ↓sx_s5, ↓sx_s6, ↓sx_m0, ↓sx_m1, ↓sx_m2, ↓sx_m3, ↓sx_m4, ↓sx_m5, ↓sx_m6, ↓sx_k0_, ↓sx_k1_, ↓sx_k2_, ↓sx_k3_, ↓sx_k4_, ↓sx_k5_, ↓sx_k6_, ↓sx_sLL, ↓sx_sAI, ↓sx_mLL, ↓sx_mIIL, ↓sx_mIILL, ↓sx_mIILLL, ↓sx_qS, ↓sx_qSI, ↓sx_qSIII, sx_rit, sx_rif, sx_rlt, sx_rlf, sx_b0, sx_b1, sx_o0, sx_o1i, sx_o1a, sx_o1l, sx_o2, sx_g0, sx_g1, sx_k1, sx_k2, sx_k3, sx_f1, sx_f2, sx_f3, sx_w0, sx_w1, sx_w2, sx_w3, sx_ts, sx_tn, sx_up, sx_nS1, sx_nS2, sx_nW1, sx_nW2, sx_SW, sx_WS, sy_nS_inj, sy_nW_inj, sx_ob0, sx_ob1, sx_ob2, sx_ob3, sx_ob4, sx_ob5, sx_ob6, sx_ob7, sx_ob8, sx_ob9, sx_ob10, sx_ob11, sx_ob12, sx_ob13, sx_ob14, sx_ob15, sx_ob16, sx_ob17, sx_ob18, sx_ob19, sx_ob20, sx_ob21, sx_ob22, sx_ob23, sx_ob24, sx_ob25, sx_ob26, sx_ob27, sx_ob28, sx_ob29, sx_ob30, sx_ob31, sx_ob32, sx_ob33, sx_ob34, sx_ob35, sx_ob36, sx_fv0_0, sx_fv0_1, sx_fv0_2, sx_fv0_3, sx_fv0_4, sx_fv0_5, sx_fv1_0, sx_fv1_1, sx_fv1_2, sx_fv3_0, sx_fv3_1, sx_fv3_2, sx_fv3_3, sx_fv3_4, sx_fv7_0, sx_fv7_1, sx_fv7_2, sx_fv7_3, sx_fv7_4, sx_fv7_5, sx_fv7_6, sx_fv7_7, sx_fv7_8, sx_fv7_9, sx_fv7_10, sx_fv9_0, sx_fv9_1, sx_fv9_2, sx_fv9_3, sx_fv11_0, sx_fv11_1, sx_fv11_2, sx_fv11_3, sx_fv11_4, sx_fv11_5, sx_fv11_6, sx_fv15_0, sx_fv15_1, sx_fv15_2, sx_fv15_3, sx_fv15_4, sx_fv15_5, sx_fv19_0, sx_fv19_1, sx_fv19_2, sx_fv19_3, sx_fv19_4, sx_fv19_5, sx_fv19_6, sx_fv24_0, sx_fv24_1, sx_fv24_2, sx_fv24_3, sx_fv24_4, sx_fv24_5, sx_fv24_6, sx_fv24_7, sx_fv24_8, sx_fv24_9, sx_fv24_10, sx_fv24_11, sx_fv24_12, sx_fv24_13, sx_fv24_14, sx_fv24_15, sx_fv24_16, sx_fv24_17, sx_fv24_18, sx_fvS_0, sx_fvS_1, sx_fvS_2, sx_fvS_3, sx_fvS_4, sx_fvS_5, sx_fvS_6, sx_fvS_7, sx_fvS_8, sx_fvS_9, sx_ar2, sx_ar4, sx_ar5, sx_ar6, sx_ar8, sx_ar10, sx_ar12, sx_ar13, sx_ar14, sx_ar16, sx_ar17, sx_ar18, sx_ar20, sx_ar21, sx_ar22, sx_ar23, sx_ar25, sx_ar26, sx_ar27, sx_ar28, sx_ar29, sx_ar30, sx_ar31, sx_ar32, sx_ar33, sx_ar34, sx_ar35, sx_ar36, sy_ob_S, sy_ob_W, sy_ar_W, sx_if0, sx_if1, sx_ie0, sx_em, Classical.not_not, sx_cle, sx_clt, sx_cge, sx_cgt, sx_ceq, Nat.reduceLT, Nat.reduceLeDiff, Nat.reduceAdd, Nat.reduceSub, Nat.reduceEqDiff, reduceIte, List.length_cons, List.length_nil, true_and, and_true, and_self, Bool.false_eq_true, true_implies, not_true_eq_false, not_false_eq_true, false_implies, implies_true, ne_eq, reduceCtorEq, Option.some.injEq, false_and, and_false, Int.reduceNeg, Int.reduceToNat, Int.reduceLT, Int.reduceLE, Int.reduceEq, Int.reduceAdd, Int.reduceSub, Int.reduceMul, or_false, false_or, or_true, true_or, forall_const, Int.toNat_natCast, Int.toNat_zero, Int.toNat_one, Nat.zero_add, or_self, Int.neg_eq_zero]
  exact h
def sp_8_even (ns : Nat) : sy_Sp := sy_m1 0 fun v st post => post (some (.inl (true, if 0 ≤ v ∧ v ≤ 1000 then st 15 5 else -1))) (if 0 ≤ v ∧ v ≤ 1000 then sy_up st 15 5 v else st)
def ct_8_even (ns q : Nat) : Option (Bool × Nat × sy_Sp) := match q with
  | 55 => some (true, 3, sp_8_within ns)
  | _ => none
abbrev M_8_even (ns : Nat) : sy_M := Mk_8_even (ct_8_even ns)
theorem cx_8_even_55 {ns : Nat} {v1 v2 v3 : sy_V} {r : List sy_V} {s : sy_S} {f : List sy_V → sy_S → Prop} : sy_call true (ct_8_even ns 55) (v3 :: v2 :: v1 :: r) s f = (sy_wd r ≤ 8 ∧ (sy_fit v3 ∧ sy_fit v2 ∧ sy_fit v1) ∧ sp_8_within ns [sy_kn v1, sy_kn v2, sy_kn v3] s (fun q t => f (q.toList ++ r) t)) := sx_call3
theorem mv_8_even (ns : Nat) : sy_MV c_8_even y_8_even.cls (some .int) (M_8_even ns) := ⟨tv_8_even, ff_8_ok, ki_8_ok, kl_8_ok⟩
abbrev rm_8_even : Room := { frames := 1, cells := 0, slots := 0, locals := 22 }
theorem co_8_even (l : Launch) : sy_calls l rm_8_even y_8_even.cls c_8_even 3 (fun ns => (M_8_even ns).2.2.2.2.1) := by
  intro p e s m args below meth c rt wd ad ns A Q X hA q b n sp h
  replace h : ct_8_even ns q = some (b, n, sp) := h
  unfold ct_8_even at h
  split at h
  · cases h; exact sy_coS X hA (mc_8_within l) ⟨iw_8_within.1, iw_8_within.2.1, iw_8_within.2.2, ⟨by decide, by decide⟩, rfl, rfl⟩ (sy_inx 288 (by decide +kernel) (by decide +kernel)) is_8_within
  · cases h
theorem rc_8_even (ns : Nat) (as : List sy_V) (st : sy_S) (post : sy_R) (h : sp_8_even ns as st post) : ∃ b as', as = .inr (.inr (some (some b))) :: as' ∧ sy_ob b = some 8 := sy_m1_r rfl as st post h
theorem mc_8_even (l : Launch) : sy_MC l y_8_even c_8_even 3 (some .int) rm_8_even sp_8_even := by
  refine sy_meth M_8_even (by decide +kernel) mv_8_even (co_8_even l) ?_
  intro ns as st post WA h hok hrg ⟨hgo0, hin, hwk⟩
  have hgo : ∀ (n pc : Nat) (L k : List sy_V) (st : sy_S), rn_8_even ns (ct_8_even ns) post WA n pc L k st → WA pc L k st := fun n pc L k st h => hgo0 [] n pc L k st h
  replace h := sy_m1_e h hok
  obtain ⟨v, rfl, hv, h⟩ := h
  refine ⟨Nat.le_of_ble_eq_true rfl, ?_⟩
  show WA 0 [.inr (.inr (some (some 0))), .inl (true, v), .inr (.inr none)] [] st
  refine hgo 100 _ _ _ _ ?_
  simp -implicitDefEqProofs only [↓rx_8_even_0, ↓rx_8_even_1, ↓rx_8_even_2, ↓rx_8_even_5, ↓rx_8_even_8, ↓rx_8_even_11, ↓rx_8_even_12, ↓rx_8_even_13, ↓rx_8_even_14, ↓rx_8_even_17, ↓rx_8_even_20, ↓rx_8_even_21, ↓rx_8_even_22, ↓rx_8_even_25, ↓rx_8_even_26, ↓rx_8_even_29, ↓rx_8_even_30, ↓cx_8_even_55, sp_8_within, ↓sx_s1, ↓sx_s2, ↓sx_s3, ↓sx_s4, ↓sx_s5, ↓sx_s6, ↓sx_m0, ↓sx_m1, ↓sx_m2, ↓sx_m3, ↓sx_m4, ↓sx_m5, ↓sx_m6, ↓sx_k0_, ↓sx_k1_, ↓sx_k2_, ↓sx_k3_, ↓sx_k4_, ↓sx_k5_, ↓sx_k6_, ↓sx_sLL, ↓sx_sAI, ↓sx_mLL, ↓sx_mIIL, ↓sx_mIILL, ↓sx_mIILLL, ↓sx_qS, ↓sx_qSI, ↓sx_qSIII, sx_rit, sx_rif, sx_rlt, sx_rlf, sx_b0, sx_b1, sx_o0, sx_o1i, sx_o1a, sx_o1l, sx_o2, sx_g0, sx_g1, sx_k1, sx_k2, sx_k3, sx_f1, sx_f2, sx_f3, sx_w0, sx_w1, sx_w2, sx_w3, sx_ts, sx_tn, sx_up, sx_nS1, sx_nS2, sx_nW1, sx_nW2, sx_SW, sx_WS, sy_nS_inj, sy_nW_inj, sx_ob0, sx_ob1, sx_ob2, sx_ob3, sx_ob4, sx_ob5, sx_ob6, sx_ob7, sx_ob8, sx_ob9, sx_ob10, sx_ob11, sx_ob12, sx_ob13, sx_ob14, sx_ob15, sx_ob16, sx_ob17, sx_ob18, sx_ob19, sx_ob20, sx_ob21, sx_ob22, sx_ob23, sx_ob24, sx_ob25, sx_ob26, sx_ob27, sx_ob28, sx_ob29, sx_ob30, sx_ob31, sx_ob32, sx_ob33, sx_ob34, sx_ob35, sx_ob36, sx_fv0_0, sx_fv0_1, sx_fv0_2, sx_fv0_3, sx_fv0_4, sx_fv0_5, sx_fv1_0, sx_fv1_1, sx_fv1_2, sx_fv3_0, sx_fv3_1, sx_fv3_2, sx_fv3_3, sx_fv3_4, sx_fv7_0, sx_fv7_1, sx_fv7_2, sx_fv7_3, sx_fv7_4, sx_fv7_5, sx_fv7_6, sx_fv7_7, sx_fv7_8, sx_fv7_9, sx_fv7_10, sx_fv9_0, sx_fv9_1, sx_fv9_2, sx_fv9_3, sx_fv11_0, sx_fv11_1, sx_fv11_2, sx_fv11_3, sx_fv11_4, sx_fv11_5, sx_fv11_6, sx_fv15_0, sx_fv15_1, sx_fv15_2, sx_fv15_3, sx_fv15_4, sx_fv15_5, sx_fv19_0, sx_fv19_1, sx_fv19_2, sx_fv19_3, sx_fv19_4, sx_fv19_5, sx_fv19_6, sx_fv24_0, sx_fv24_1, sx_fv24_2, sx_fv24_3, sx_fv24_4, sx_fv24_5, sx_fv24_6, sx_fv24_7, sx_fv24_8, sx_fv24_9, sx_fv24_10, sx_fv24_11, sx_fv24_12, sx_fv24_13, sx_fv24_14, sx_fv24_15, sx_fv24_16, sx_fv24_17, sx_fv24_18, sx_fvS_0, sx_fvS_1, sx_fvS_2, sx_fvS_3, sx_fvS_4, sx_fvS_5, sx_fvS_6, sx_fvS_7, sx_fvS_8, sx_fvS_9, sx_ar2, sx_ar4, sx_ar5, sx_ar6, sx_ar8, sx_ar10, sx_ar12, sx_ar13, sx_ar14, sx_ar16, sx_ar17, sx_ar18, sx_ar20, sx_ar21, sx_ar22, sx_ar23, sx_ar25, sx_ar26, sx_ar27, sx_ar28, sx_ar29, sx_ar30, sx_ar31, sx_ar32, sx_ar33, sx_ar34, sx_ar35, sx_ar36, sy_ob_S, sy_ob_W, sy_ar_W, sx_if0, sx_if1, sx_ie0, sx_em, Classical.not_not, sx_cle, sx_clt, sx_cge, sx_cgt, sx_ceq, Nat.reduceLT, Nat.reduceLeDiff, Nat.reduceAdd, Nat.reduceSub, Nat.reduceEqDiff, reduceIte, List.length_cons, List.length_nil, true_and, and_true, and_self, Bool.false_eq_true, true_implies, not_true_eq_false, not_false_eq_true, false_implies, implies_true, ne_eq, reduceCtorEq, Option.some.injEq, false_and, and_false, Int.reduceNeg, Int.reduceToNat, Int.reduceLT, Int.reduceLE, Int.reduceEq, Int.reduceAdd, Int.reduceSub, Int.reduceMul, or_false, false_or, or_true, true_or, forall_const, Int.toNat_natCast, Int.toNat_zero, Int.toNat_one, Nat.zero_add, or_self, Int.neg_eq_zero]
  by_cases c : 0 ≤ v ∧ v ≤ 1000
  · rw [if_pos c, if_pos c] at h
    exact ⟨fun _ => h, fun q => absurd c q⟩
  · rw [if_neg c, if_neg c] at h
    exact ⟨fun q => absurd q c, fun _ => h⟩
def sp_8_place (ns : Nat) : sy_Sp := sy_m2 0 fun i t st post => (c_site ns st ∧ c_rng st) ∧ post (some (.inl (true, if (0 ≤ i ∧ i < ns) ∧ (-1000 ≤ t ∧ t ≤ 1000) then c_at st i.toNat (st 1 2) t else -1000000))) st
def ct_8_place (ns q : Nat) : Option (Bool × Nat × sy_Sp) := match q with
  | 77 => some (false, 2, sp_7_at ns)
  | 90 => some (true, 1, sp_8_isTick ns)
  | 101 => some (false, 3, sp_6_placeOf ns)
  | _ => none
abbrev M_8_place (ns : Nat) : sy_M := Mk_8_place (ct_8_place ns)
theorem cx_8_place_77 {ns : Nat} {v1 v2 : sy_V} {r : List sy_V} {s : sy_S} {f : List sy_V → sy_S → Prop} : sy_call false (ct_8_place ns 77) (v2 :: v1 :: r) s f = (sy_wd r ≤ 8 ∧ (sy_fit v2 ∧ sy_fit v1) ∧ sp_7_at ns [sy_kn v1, sy_kn v2] s (fun q t => f (q.toList ++ r) t)) := sx_call2
theorem cx_8_place_90 {ns : Nat} {v1 : sy_V} {r : List sy_V} {s : sy_S} {f : List sy_V → sy_S → Prop} : sy_call true (ct_8_place ns 90) (v1 :: r) s f = (sy_wd r ≤ 8 ∧ (sy_fit v1) ∧ sp_8_isTick ns [sy_kn v1] s (fun q t => f (q.toList ++ r) t)) := sx_call1
theorem cx_8_place_101 {ns : Nat} {v1 v2 v3 : sy_V} {r : List sy_V} {s : sy_S} {f : List sy_V → sy_S → Prop} : sy_call false (ct_8_place ns 101) (v3 :: v2 :: v1 :: r) s f = (sy_wd r ≤ 8 ∧ (sy_fit v3 ∧ sy_fit v2 ∧ sy_fit v1) ∧ sp_6_placeOf ns [sy_kn v1, sy_kn v2, sy_kn v3] s (fun q t => f (q.toList ++ r) t)) := sx_call3
theorem mv_8_place (ns : Nat) : sy_MV c_8_place y_8_place.cls (some .int) (M_8_place ns) := ⟨tv_8_place, ff_8_ok, ki_8_ok, kl_8_ok⟩
abbrev rm_8_place : Room := { frames := 2, cells := 0, slots := 0, locals := 42 }
theorem iw_8_isTick : Cond.code y_8_isTick c_8_isTick 1 (some .boolean) ∈ sy_tb ∧ Cond.initialized y_8_isTick.cls ∈ sy_tb ∧ (y_8_isTick.cls ≠ "java/lang/invoke/MethodHandle" ∧ y_8_isTick.cls ≠ "java/lang/invoke/VarHandle" ∧ (parseMethodDescriptor y_8_isTick.desc).map (fun d => d.parameters.length) = some 1) := ⟨sy_inx 392 (by decide +kernel) (by decide +kernel), sy_inx 44 (by decide +kernel) (by decide +kernel), by decide +kernel⟩
theorem is_8_isTick : Cond.static y_8_isTick ∈ sy_tb := sy_inx 391 (by decide +kernel) (by decide +kernel)
theorem co_8_place (l : Launch) : sy_calls l rm_8_place y_8_place.cls c_8_place 4 (fun ns => (M_8_place ns).2.2.2.2.1) := by
  intro p e s m args below meth c rt wd ad ns A Q X hA q b n sp h
  replace h : ct_8_place ns q = some (b, n, sp) := h
  unfold ct_8_place at h
  split at h
  · cases h; exact sy_coV (ci := 7) X hA (mc_7_at l) ⟨iw_7_at.1, iw_7_at.2.1, iw_7_at.2.2, ⟨by decide, by decide⟩, rfl, rfl⟩ (sy_inx 377 (by decide +kernel) (by decide +kernel)) ii_7_at.1 ii_7_at.2 (rc_7_at ns) ⟨_, rfl, rfl⟩
  · cases h; exact sy_coS X hA (mc_8_isTick l) ⟨iw_8_isTick.1, iw_8_isTick.2.1, iw_8_isTick.2.2, ⟨by decide, by decide⟩, rfl, rfl⟩ (sy_inx 390 (by decide +kernel) (by decide +kernel)) is_8_isTick
  · cases h; exact sy_coV (ci := 6) X hA (mc_6_placeOf l) ⟨iw_6_placeOf.1, iw_6_placeOf.2.1, iw_6_placeOf.2.2, ⟨by decide, by decide⟩, rfl, rfl⟩ (sy_inx 414 (by decide +kernel) (by decide +kernel)) ii_6_placeOf.1 ii_6_placeOf.2 (rc_6_placeOf ns) ⟨_, rfl, rfl⟩
  · cases h
theorem rc_8_place (ns : Nat) (as : List sy_V) (st : sy_S) (post : sy_R) (h : sp_8_place ns as st post) : ∃ b as', as = .inr (.inr (some (some b))) :: as' ∧ sy_ob b = some 8 := sy_m2_r rfl as st post h
theorem mc_8_place (l : Launch) : sy_MC l y_8_place c_8_place 4 (some .int) rm_8_place sp_8_place := by
  refine sy_meth M_8_place (by decide +kernel) mv_8_place (co_8_place l) ?_
  intro ns as st post WA h hok hrg ⟨hgo0, hin, hwk⟩
  have hgo : ∀ (n pc : Nat) (L k : List sy_V) (st : sy_S), rn_8_place ns (ct_8_place ns) post WA n pc L k st → WA pc L k st := fun n pc L k st h => hgo0 [] n pc L k st h
  replace h := sy_m2_e h hok
  obtain ⟨i, t, rfl, hi, ht, h⟩ := h
  refine ⟨Nat.le_of_ble_eq_true rfl, ?_⟩
  show WA 0 [.inr (.inr (some (some 0))), .inl (true, i), .inl (true, t), .inr (.inr none)] [] st
  obtain ⟨⟨hs, hr⟩, h⟩ := h
  refine hgo 100 _ _ _ _ ?_
  simp -implicitDefEqProofs only [↓rx_8_place_0, ↓rx_8_place_1, ↓rx_8_place_4, ↓rx_8_place_5, ↓rx_8_place_8, ↓rx_8_place_9, ↓rx_8_place_10, ↓rx_8_place_10_n, ↓rx_8_place_13, ↓rx_8_place_14, ↓rx_8_place_17, ↓rx_8_place_20, ↓rx_8_place_22, ↓rx_8_place_25, ↓rx_8_place_26, ↓rx_8_place_27, ↓rx_8_place_30, ↓rx_8_place_33, ↓rx_8_place_34, ↓rx_8_place_37, ↓cx_8_place_77, ↓cx_8_place_90, ↓cx_8_place_101, sp_6_placeOf, sp_7_at, sp_8_isTick, ↓sx_s1, ↓sx_s2, ↓sx_s3, ↓sx_s4, ↓sx_s5, ↓sx_s6, ↓sx_m0, ↓sx_m1, ↓sx_m2, ↓sx_m3, ↓sx_m4, ↓sx_m5, ↓sx_m6, ↓sx_k0_, ↓sx_k1_, ↓sx_k2_, ↓sx_k3_, ↓sx_k4_, ↓sx_k5_, ↓sx_k6_, ↓sx_sLL, ↓sx_sAI, ↓sx_mLL, ↓sx_mIIL, ↓sx_mIILL, ↓sx_mIILLL, ↓sx_qS, ↓sx_qSI, ↓sx_qSIII, sx_rit, sx_rif, sx_rlt, sx_rlf, sx_b0, sx_b1, sx_o0, sx_o1i, sx_o1a, sx_o1l, sx_o2, sx_g0, sx_g1, sx_k1, sx_k2, sx_k3, sx_f1, sx_f2, sx_f3, sx_w0, sx_w1, sx_w2, sx_w3, sx_ts, sx_tn, sx_up, sx_nS1, sx_nS2, sx_nW1, sx_nW2, sx_SW, sx_WS, sy_nS_inj, sy_nW_inj, sx_ob0, sx_ob1, sx_ob2, sx_ob3, sx_ob4, sx_ob5, sx_ob6, sx_ob7, sx_ob8, sx_ob9, sx_ob10, sx_ob11, sx_ob12, sx_ob13, sx_ob14, sx_ob15, sx_ob16, sx_ob17, sx_ob18, sx_ob19, sx_ob20, sx_ob21, sx_ob22, sx_ob23, sx_ob24, sx_ob25, sx_ob26, sx_ob27, sx_ob28, sx_ob29, sx_ob30, sx_ob31, sx_ob32, sx_ob33, sx_ob34, sx_ob35, sx_ob36, sx_fv0_0, sx_fv0_1, sx_fv0_2, sx_fv0_3, sx_fv0_4, sx_fv0_5, sx_fv1_0, sx_fv1_1, sx_fv1_2, sx_fv3_0, sx_fv3_1, sx_fv3_2, sx_fv3_3, sx_fv3_4, sx_fv7_0, sx_fv7_1, sx_fv7_2, sx_fv7_3, sx_fv7_4, sx_fv7_5, sx_fv7_6, sx_fv7_7, sx_fv7_8, sx_fv7_9, sx_fv7_10, sx_fv9_0, sx_fv9_1, sx_fv9_2, sx_fv9_3, sx_fv11_0, sx_fv11_1, sx_fv11_2, sx_fv11_3, sx_fv11_4, sx_fv11_5, sx_fv11_6, sx_fv15_0, sx_fv15_1, sx_fv15_2, sx_fv15_3, sx_fv15_4, sx_fv15_5, sx_fv19_0, sx_fv19_1, sx_fv19_2, sx_fv19_3, sx_fv19_4, sx_fv19_5, sx_fv19_6, sx_fv24_0, sx_fv24_1, sx_fv24_2, sx_fv24_3, sx_fv24_4, sx_fv24_5, sx_fv24_6, sx_fv24_7, sx_fv24_8, sx_fv24_9, sx_fv24_10, sx_fv24_11, sx_fv24_12, sx_fv24_13, sx_fv24_14, sx_fv24_15, sx_fv24_16, sx_fv24_17, sx_fv24_18, sx_fvS_0, sx_fvS_1, sx_fvS_2, sx_fvS_3, sx_fvS_4, sx_fvS_5, sx_fvS_6, sx_fvS_7, sx_fvS_8, sx_fvS_9, sx_ar2, sx_ar4, sx_ar5, sx_ar6, sx_ar8, sx_ar10, sx_ar12, sx_ar13, sx_ar14, sx_ar16, sx_ar17, sx_ar18, sx_ar20, sx_ar21, sx_ar22, sx_ar23, sx_ar25, sx_ar26, sx_ar27, sx_ar28, sx_ar29, sx_ar30, sx_ar31, sx_ar32, sx_ar33, sx_ar34, sx_ar35, sx_ar36, sy_ob_S, sy_ob_W, sy_ar_W, sx_if0, sx_if1, sx_ie0, sx_em, Classical.not_not, sx_cle, sx_clt, sx_cge, sx_cgt, sx_ceq, Nat.reduceLT, Nat.reduceLeDiff, Nat.reduceAdd, Nat.reduceSub, Nat.reduceEqDiff, reduceIte, List.length_cons, List.length_nil, true_and, and_true, and_self, Bool.false_eq_true, true_implies, not_true_eq_false, not_false_eq_true, false_implies, implies_true, ne_eq, reduceCtorEq, Option.some.injEq, false_and, and_false, Int.reduceNeg, Int.reduceToNat, Int.reduceLT, Int.reduceLE, Int.reduceEq, Int.reduceAdd, Int.reduceSub, Int.reduceMul, or_false, false_or, or_true, true_or, forall_const, Int.toNat_natCast, Int.toNat_zero, Int.toNat_one, Nat.zero_add, or_self, Int.neg_eq_zero]
  refine ⟨hs, fun c => ⟨fun c2 => ⟨by omega, ⟨hr, hr.1, c2⟩, ?_⟩, fun c2 => ?_⟩, fun c => ?_⟩
  · rw [if_pos ⟨c, c2⟩] at h; exact h
  · rw [if_neg (fun q => c2 q.2)] at h; exact h
  · rw [if_neg (fun q => c q.1)] at h; exact h
