/-! THE CLASS: more of what is asked -/
def sp_8_figure (ns : Nat) : sy_Sp := sy_m2 0 fun f w st post => c_net st ∧ post (some (.inl (true, if (0 ≤ f ∧ f < st 3 4) ∧ (0 ≤ w ∧ w ≤ 3) then c_fg st f w.toNat else -1000000))) st
def ct_8_figure (ns q : Nat) : Option (Bool × Nat × sy_Sp) := match q with
  | 114 => some (false, 2, sp_3_has ns)
  | 117 => some (true, 1, sp_3_isRow ns)
  | 120 => some (false, 3, sp_3_valueOf ns)
  | _ => none
abbrev M_8_figure (ns : Nat) : sy_M := Mk_8_figure (ct_8_figure ns)
theorem cx_8_figure_114 {ns : Nat} {v1 v2 : sy_V} {r : List sy_V} {s : sy_S} {f : List sy_V → sy_S → Prop} : sy_call false (ct_8_figure ns 114) (v2 :: v1 :: r) s f = (sy_wd r ≤ 8 ∧ (sy_fit v2 ∧ sy_fit v1) ∧ sp_3_has ns [sy_kn v1, sy_kn v2] s (fun q t => f (q.toList ++ r) t)) := sx_call2
theorem cx_8_figure_117 {ns : Nat} {v1 : sy_V} {r : List sy_V} {s : sy_S} {f : List sy_V → sy_S → Prop} : sy_call true (ct_8_figure ns 117) (v1 :: r) s f = (sy_wd r ≤ 8 ∧ (sy_fit v1) ∧ sp_3_isRow ns [sy_kn v1] s (fun q t => f (q.toList ++ r) t)) := sx_call1
theorem cx_8_figure_120 {ns : Nat} {v1 v2 v3 : sy_V} {r : List sy_V} {s : sy_S} {f : List sy_V → sy_S → Prop} : sy_call false (ct_8_figure ns 120) (v3 :: v2 :: v1 :: r) s f = (sy_wd r ≤ 8 ∧ (sy_fit v3 ∧ sy_fit v2 ∧ sy_fit v1) ∧ sp_3_valueOf ns [sy_kn v1, sy_kn v2, sy_kn v3] s (fun q t => f (q.toList ++ r) t)) := sx_call3
theorem mv_8_figure (ns : Nat) : sy_MV c_8_figure y_8_figure.cls (some .int) (M_8_figure ns) := ⟨tv_8_figure, ff_8_ok, ki_8_ok, kl_8_ok⟩
abbrev rm_8_figure : Room := { frames := 2, cells := 0, slots := 0, locals := 46 }
theorem iw_3_has : Cond.code y_3_has c_3_has 2 (some .boolean) ∈ sy_tb ∧ Cond.initialized y_3_has.cls ∈ sy_tb ∧ (y_3_has.cls ≠ "java/lang/invoke/MethodHandle" ∧ y_3_has.cls ≠ "java/lang/invoke/VarHandle" ∧ (parseMethodDescriptor y_3_has.desc).map (fun d => d.parameters.length) = some 1) := ⟨sy_inx 449 (by decide +kernel) (by decide +kernel), sy_inx 46 (by decide +kernel) (by decide +kernel), by decide +kernel⟩
theorem ii_3_has : Cond.instanceMethod y_3_has ∈ sy_tb ∧ Cond.selects y_3_has.cls y_3_has y_3_has ∈ sy_tb := ⟨sy_inx 447 (by decide +kernel) (by decide +kernel), sy_inx 448 (by decide +kernel) (by decide +kernel)⟩
theorem co_8_figure (l : Launch) : sy_calls l rm_8_figure y_8_figure.cls c_8_figure 3 (fun ns => (M_8_figure ns).2.2.2.2.1) := by
  intro p e s m args below meth c rt wd ad ns A Q X hA q b n sp h
  replace h : ct_8_figure ns q = some (b, n, sp) := h
  unfold ct_8_figure at h
  split at h
  · cases h; exact sy_coV (ci := 3) X hA (mc_3_has l) ⟨iw_3_has.1, iw_3_has.2.1, iw_3_has.2.2, ⟨by decide, by decide⟩, rfl, rfl⟩ (sy_inx 446 (by decide +kernel) (by decide +kernel)) ii_3_has.1 ii_3_has.2 (rc_3_has ns) ⟨_, rfl, rfl⟩
  · cases h; exact sy_coS X hA (mc_3_isRow l) ⟨iw_3_isRow.1, iw_3_isRow.2.1, iw_3_isRow.2.2, ⟨by decide, by decide⟩, rfl, rfl⟩ (sy_inx 450 (by decide +kernel) (by decide +kernel)) is_3_isRow
  · cases h; exact sy_coV (ci := 3) X hA (mc_3_valueOf l) ⟨iw_3_valueOf.1, iw_3_valueOf.2.1, iw_3_valueOf.2.2, ⟨by decide, by decide⟩, rfl, rfl⟩ (sy_inx 451 (by decide +kernel) (by decide +kernel)) ii_3_valueOf.1 ii_3_valueOf.2 (rc_3_valueOf ns) ⟨_, rfl, rfl⟩
  · cases h
theorem rc_8_figure (ns : Nat) (as : List sy_V) (st : sy_S) (post : sy_R) (h : sp_8_figure ns as st post) : ∃ b as', as = .inr (.inr (some (some b))) :: as' ∧ sy_ob b = some 8 := sy_m2_r rfl as st post h
theorem mc_8_figure (l : Launch) : sy_MC l y_8_figure c_8_figure 3 (some .int) rm_8_figure sp_8_figure := by
  refine sy_meth M_8_figure (by decide +kernel) mv_8_figure (co_8_figure l) ?_
  intro ns as st post WA h hok hrg ⟨hgo0, hin, hwk⟩
  have hgo : ∀ (n pc : Nat) (L k : List sy_V) (st : sy_S), rn_8_figure ns (ct_8_figure ns) post WA n pc L k st → WA pc L k st := fun n pc L k st h => hgo0 [] n pc L k st h
  replace h := sy_m2_e h hok
  obtain ⟨f, w, rfl, hf, hw, h⟩ := h
  refine ⟨Nat.le_of_ble_eq_true rfl, ?_⟩
  show WA 0 [.inr (.inr (some (some 0))), .inl (true, f), .inl (true, w)] [] st
  obtain ⟨hn, h⟩ := h
  have hT := (c_tot_r hn).1
  refine hgo 100 _ _ _ _ ?_
  simp -implicitDefEqProofs only [↓rx_8_figure_0, ↓rx_8_figure_1, ↓rx_8_figure_4, ↓rx_8_figure_5, ↓rx_8_figure_8, ↓rx_8_figure_11, ↓rx_8_figure_12, ↓rx_8_figure_15, ↓rx_8_figure_18, ↓rx_8_figure_19, ↓rx_8_figure_22, ↓rx_8_figure_23, ↓rx_8_figure_24, ↓rx_8_figure_27, ↓rx_8_figure_30, ↓rx_8_figure_32, ↓cx_8_figure_114, ↓cx_8_figure_117, ↓cx_8_figure_120, sp_3_has, sp_3_isRow, sp_3_valueOf, ↓sx_s1, ↓sx_s2, ↓sx_s3, ↓sx_s4, ↓sx_s5, ↓sx_s6, ↓sx_m0, ↓sx_m1, ↓sx_m2, ↓sx_m3, ↓sx_m4, ↓sx_m5, ↓sx_m6, ↓sx_k0_, ↓sx_k1_, ↓sx_k2_, ↓sx_k3_, ↓sx_k4_, ↓sx_k5_, ↓sx_k6_, ↓sx_sLL, ↓sx_sAI, ↓sx_mLL, ↓sx_mIIL, ↓sx_mIILL, ↓sx_mIILLL, ↓sx_qS, ↓sx_qSI, ↓sx_qSIII, sx_rit, sx_rif, sx_rlt, sx_rlf, sx_b0, sx_b1, sx_o0, sx_o1i, sx_o1a, sx_o1l, sx_o2, sx_g0, sx_g1, sx_k1, sx_k2, sx_k3, sx_f1, sx_f2, sx_f3, sx_w0, sx_w1, sx_w2, sx_w3, sx_ts, sx_tn, sx_up, sx_nS1, sx_nS2, sx_nW1, sx_nW2, sx_SW, sx_WS, sy_nS_inj, sy_nW_inj, sx_ob0, sx_ob1, sx_ob2, sx_ob3, sx_ob4, sx_ob5, sx_ob6, sx_ob7, sx_ob8, sx_ob9, sx_ob10, sx_ob11, sx_ob12, sx_ob13, sx_ob14, sx_ob15, sx_ob16, sx_ob17, sx_ob18, sx_ob19, sx_ob20, sx_ob21, sx_ob22, sx_ob23, sx_ob24, sx_ob25, sx_ob26, sx_ob27, sx_ob28, sx_ob29, sx_ob30, sx_ob31, sx_ob32, sx_ob33, sx_ob34, sx_ob35, sx_ob36, sx_fv0_0, sx_fv0_1, sx_fv0_2, sx_fv0_3, sx_fv0_4, sx_fv0_5, sx_fv1_0, sx_fv1_1, sx_fv1_2, sx_fv3_0, sx_fv3_1, sx_fv3_2, sx_fv3_3, sx_fv3_4, sx_fv7_0, sx_fv7_1, sx_fv7_2, sx_fv7_3, sx_fv7_4, sx_fv7_5, sx_fv7_6, sx_fv7_7, sx_fv7_8, sx_fv7_9, sx_fv7_10, sx_fv9_0, sx_fv9_1, sx_fv9_2, sx_fv9_3, sx_fv11_0, sx_fv11_1, sx_fv11_2, sx_fv11_3, sx_fv11_4, sx_fv11_5, sx_fv11_6, sx_fv15_0, sx_fv15_1, sx_fv15_2, sx_fv15_3, sx_fv15_4, sx_fv15_5, sx_fv19_0, sx_fv19_1, sx_fv19_2, sx_fv19_3, sx_fv19_4, sx_fv19_5, sx_fv19_6, sx_fv24_0, sx_fv24_1, sx_fv24_2, sx_fv24_3, sx_fv24_4, sx_fv24_5, sx_fv24_6, sx_fv24_7, sx_fv24_8, sx_fv24_9, sx_fv24_10, sx_fv24_11, sx_fv24_12, sx_fv24_13, sx_fv24_14, sx_fv24_15, sx_fv24_16, sx_fv24_17, sx_fv24_18, sx_fvS_0, sx_fvS_1, sx_fvS_2, sx_fvS_3, sx_fvS_4, sx_fvS_5, sx_fvS_6, sx_fvS_7, sx_fvS_8, sx_fvS_9, sx_ar2, sx_ar4, sx_ar5, sx_ar6, sx_ar8, sx_ar10, sx_ar12, sx_ar13, sx_ar14, sx_ar16, sx_ar17, sx_ar18, sx_ar20, sx_ar21, sx_ar22, sx_ar23, sx_ar25, sx_ar26, sx_ar27, sx_ar28, sx_ar29, sx_ar30, sx_ar31, sx_ar32, sx_ar33, sx_ar34, sx_ar35, sx_ar36, sy_ob_S, sy_ob_W, sy_ar_W, sx_if0, sx_if1, sx_ie0, sx_em, Classical.not_not, sx_cle, sx_clt, sx_cge, sx_cgt, sx_ceq, Nat.reduceLT, Nat.reduceLeDiff, Nat.reduceAdd, Nat.reduceSub, Nat.reduceEqDiff, reduceIte, List.length_cons, List.length_nil, true_and, and_true, and_self, Bool.false_eq_true, true_implies, not_true_eq_false, not_false_eq_true, false_implies, implies_true, ne_eq, reduceCtorEq, Option.some.injEq, false_and, and_false, Int.reduceNeg, Int.reduceToNat, Int.reduceLT, Int.reduceLE, Int.reduceEq, Int.reduceAdd, Int.reduceSub, Int.reduceMul, or_false, false_or, or_true, true_or, forall_const, Int.toNat_natCast, Int.toNat_zero, Int.toNat_one, Nat.zero_add, or_self, Int.neg_eq_zero]
  refine ⟨hn, fun c => ?_, fun c => ⟨fun c2 => ?_, fun c2 => ⟨⟨hn, by omega, by omega⟩, ?_⟩⟩⟩
  · rw [if_neg (fun q => c q.1)] at h; exact h
  · rw [if_neg (fun q => c2 (by omega))] at h; exact h
  · rw [if_pos ⟨c, by omega⟩] at h; exact h
def sp_8_size (ns : Nat) : sy_Sp := sy_m1 0 fun g st post => c_sv ns st ∧ ∀ st', c_rf ns st st' → post (some (.inl (true, xs (decide (g ≠ 0)) (c_ft ns st) (c_wh st) (st 3 4).toNat))) st'
def ct_8_size (ns q : Nat) : Option (Bool × Nat × sy_Sp) := match q with
  | 135 => some (false, 1, sp_5_greatestSize ns)
  | 138 => some (false, 1, sp_5_leastSize ns)
  | _ => none
abbrev M_8_size (ns : Nat) : sy_M := Mk_8_size (ct_8_size ns)
theorem cx_8_size_135 {ns : Nat} {v1 : sy_V} {r : List sy_V} {s : sy_S} {f : List sy_V → sy_S → Prop} : sy_call false (ct_8_size ns 135) (v1 :: r) s f = (sy_wd r ≤ 8 ∧ (sy_fit v1) ∧ sp_5_greatestSize ns [sy_kn v1] s (fun q t => f (q.toList ++ r) t)) := sx_call1
theorem cx_8_size_138 {ns : Nat} {v1 : sy_V} {r : List sy_V} {s : sy_S} {f : List sy_V → sy_S → Prop} : sy_call false (ct_8_size ns 138) (v1 :: r) s f = (sy_wd r ≤ 8 ∧ (sy_fit v1) ∧ sp_5_leastSize ns [sy_kn v1] s (fun q t => f (q.toList ++ r) t)) := sx_call1
theorem mv_8_size (ns : Nat) : sy_MV c_8_size y_8_size.cls (some .int) (M_8_size ns) := ⟨tv_8_size, ff_8_ok, ki_8_ok, kl_8_ok⟩
abbrev rm_8_size : Room := { frames := 6, cells := 0, slots := 0, locals := 139 }
theorem iw_5_greatestSize : Cond.code y_5_greatestSize c_5_greatestSize 1 (some .int) ∈ sy_tb ∧ Cond.initialized y_5_greatestSize.cls ∈ sy_tb ∧ (y_5_greatestSize.cls ≠ "java/lang/invoke/MethodHandle" ∧ y_5_greatestSize.cls ≠ "java/lang/invoke/VarHandle" ∧ (parseMethodDescriptor y_5_greatestSize.desc).map (fun d => d.parameters.length) = some 0) := ⟨sy_inx 559 (by decide +kernel) (by decide +kernel), sy_inx 48 (by decide +kernel) (by decide +kernel), by decide +kernel⟩
theorem ii_5_greatestSize : Cond.instanceMethod y_5_greatestSize ∈ sy_tb ∧ Cond.selects y_5_greatestSize.cls y_5_greatestSize y_5_greatestSize ∈ sy_tb := ⟨sy_inx 557 (by decide +kernel) (by decide +kernel), sy_inx 558 (by decide +kernel) (by decide +kernel)⟩
theorem iw_5_leastSize : Cond.code y_5_leastSize c_5_leastSize 1 (some .int) ∈ sy_tb ∧ Cond.initialized y_5_leastSize.cls ∈ sy_tb ∧ (y_5_leastSize.cls ≠ "java/lang/invoke/MethodHandle" ∧ y_5_leastSize.cls ≠ "java/lang/invoke/VarHandle" ∧ (parseMethodDescriptor y_5_leastSize.desc).map (fun d => d.parameters.length) = some 0) := ⟨sy_inx 563 (by decide +kernel) (by decide +kernel), sy_inx 48 (by decide +kernel) (by decide +kernel), by decide +kernel⟩
theorem ii_5_leastSize : Cond.instanceMethod y_5_leastSize ∈ sy_tb ∧ Cond.selects y_5_leastSize.cls y_5_leastSize y_5_leastSize ∈ sy_tb := ⟨sy_inx 561 (by decide +kernel) (by decide +kernel), sy_inx 562 (by decide +kernel) (by decide +kernel)⟩
theorem co_8_size (l : Launch) : sy_calls l rm_8_size y_8_size.cls c_8_size 2 (fun ns => (M_8_size ns).2.2.2.2.1) := by
  intro p e s m args below meth c rt wd ad ns A Q X hA q b n sp h
  replace h : ct_8_size ns q = some (b, n, sp) := h
  unfold ct_8_size at h
  split at h
  · cases h; exact sy_coV (ci := 5) X hA (mc_5_greatestSize l) ⟨iw_5_greatestSize.1, iw_5_greatestSize.2.1, iw_5_greatestSize.2.2, ⟨by decide, by decide⟩, rfl, rfl⟩ (sy_inx 556 (by decide +kernel) (by decide +kernel)) ii_5_greatestSize.1 ii_5_greatestSize.2 (rc_5_greatestSize ns) ⟨_, rfl, rfl⟩
  · cases h; exact sy_coV (ci := 5) X hA (mc_5_leastSize l) ⟨iw_5_leastSize.1, iw_5_leastSize.2.1, iw_5_leastSize.2.2, ⟨by decide, by decide⟩, rfl, rfl⟩ (sy_inx 560 (by decide +kernel) (by decide +kernel)) ii_5_leastSize.1 ii_5_leastSize.2 (rc_5_leastSize ns) ⟨_, rfl, rfl⟩
  · cases h
theorem rc_8_size (ns : Nat) (as : List sy_V) (st : sy_S) (post : sy_R) (h : sp_8_size ns as st post) : ∃ b as', as = .inr (.inr (some (some b))) :: as' ∧ sy_ob b = some 8 := sy_m1_r rfl as st post h
theorem mc_8_size (l : Launch) : sy_MC l y_8_size c_8_size 2 (some .int) rm_8_size sp_8_size := by
  refine sy_meth M_8_size (by decide +kernel) mv_8_size (co_8_size l) ?_
  intro ns as st post WA h hok hrg ⟨hgo0, hin, hwk⟩
  have hgo : ∀ (n pc : Nat) (L k : List sy_V) (st : sy_S), rn_8_size ns (ct_8_size ns) post WA n pc L k st → WA pc L k st := fun n pc L k st h => hgo0 [] n pc L k st h
  replace h := sy_m1_e h hok
  obtain ⟨g, rfl, hg, h⟩ := h
  refine ⟨Nat.le_of_ble_eq_true rfl, ?_⟩
  show WA 0 [.inr (.inr (some (some 0))), .inl (true, g)] [] st
  obtain ⟨hv, h⟩ := h
  refine hgo 100 _ _ _ _ ?_
  simp -implicitDefEqProofs only [↓rx_8_size_0, ↓rx_8_size_1, ↓rx_8_size_4, ↓rx_8_size_5, ↓rx_8_size_8, ↓rx_8_size_11, ↓rx_8_size_14, ↓rx_8_size_15, ↓rx_8_size_18, ↓rx_8_size_21, ↓cx_8_size_135, ↓cx_8_size_138, sp_5_greatestSize, sp_5_leastSize, ↓sx_s1, ↓sx_s2, ↓sx_s3, ↓sx_s4, ↓sx_s5, ↓sx_s6, ↓sx_m0, ↓sx_m1, ↓sx_m2, ↓sx_m3, ↓sx_m4, ↓sx_m5, ↓sx_m6, ↓sx_k0_, ↓sx_k1_, ↓sx_k2_, ↓sx_k3_, ↓sx_k4_, ↓sx_k5_, ↓sx_k6_, ↓sx_sLL, ↓sx_sAI, ↓sx_mLL, ↓sx_mIIL, ↓sx_mIILL, ↓sx_mIILLL, ↓sx_qS, ↓sx_qSI, ↓sx_qSIII, sx_rit, sx_rif, sx_rlt, sx_rlf, sx_b0, sx_b1, sx_o0, sx_o1i, sx_o1a, sx_o1l, sx_o2, sx_g0, sx_g1, sx_k1, sx_k2, sx_k3, sx_f1, sx_f2, sx_f3, sx_w0, sx_w1, sx_w2, sx_w3, sx_ts, sx_tn, sx_up, sx_nS1, sx_nS2, sx_nW1, sx_nW2, sx_SW, sx_WS, sy_nS_inj, sy_nW_inj, sx_ob0, sx_ob1, sx_ob2, sx_ob3, sx_ob4, sx_ob5, sx_ob6, sx_ob7, sx_ob8, sx_ob9, sx_ob10, sx_ob11, sx_ob12, sx_ob13, sx_ob14, sx_ob15, sx_ob16, sx_ob17, sx_ob18, sx_ob19, sx_ob20, sx_ob21, sx_ob22, sx_ob23, sx_ob24, sx_ob25, sx_ob26, sx_ob27, sx_ob28, sx_ob29, sx_ob30, sx_ob31, sx_ob32, sx_ob33, sx_ob34, sx_ob35, sx_ob36, sx_fv0_0, sx_fv0_1, sx_fv0_2, sx_fv0_3, sx_fv0_4, sx_fv0_5, sx_fv1_0, sx_fv1_1, sx_fv1_2, sx_fv3_0, sx_fv3_1, sx_fv3_2, sx_fv3_3, sx_fv3_4, sx_fv7_0, sx_fv7_1, sx_fv7_2, sx_fv7_3, sx_fv7_4, sx_fv7_5, sx_fv7_6, sx_fv7_7, sx_fv7_8, sx_fv7_9, sx_fv7_10, sx_fv9_0, sx_fv9_1, sx_fv9_2, sx_fv9_3, sx_fv11_0, sx_fv11_1, sx_fv11_2, sx_fv11_3, sx_fv11_4, sx_fv11_5, sx_fv11_6, sx_fv15_0, sx_fv15_1, sx_fv15_2, sx_fv15_3, sx_fv15_4, sx_fv15_5, sx_fv19_0, sx_fv19_1, sx_fv19_2, sx_fv19_3, sx_fv19_4, sx_fv19_5, sx_fv19_6, sx_fv24_0, sx_fv24_1, sx_fv24_2, sx_fv24_3, sx_fv24_4, sx_fv24_5, sx_fv24_6, sx_fv24_7, sx_fv24_8, sx_fv24_9, sx_fv24_10, sx_fv24_11, sx_fv24_12, sx_fv24_13, sx_fv24_14, sx_fv24_15, sx_fv24_16, sx_fv24_17, sx_fv24_18, sx_fvS_0, sx_fvS_1, sx_fvS_2, sx_fvS_3, sx_fvS_4, sx_fvS_5, sx_fvS_6, sx_fvS_7, sx_fvS_8, sx_fvS_9, sx_ar2, sx_ar4, sx_ar5, sx_ar6, sx_ar8, sx_ar10, sx_ar12, sx_ar13, sx_ar14, sx_ar16, sx_ar17, sx_ar18, sx_ar20, sx_ar21, sx_ar22, sx_ar23, sx_ar25, sx_ar26, sx_ar27, sx_ar28, sx_ar29, sx_ar30, sx_ar31, sx_ar32, sx_ar33, sx_ar34, sx_ar35, sx_ar36, sy_ob_S, sy_ob_W, sy_ar_W, sx_if0, sx_if1, sx_ie0, sx_em, Classical.not_not, sx_cle, sx_clt, sx_cge, sx_cgt, sx_ceq, Nat.reduceLT, Nat.reduceLeDiff, Nat.reduceAdd, Nat.reduceSub, Nat.reduceEqDiff, reduceIte, List.length_cons, List.length_nil, true_and, and_true, and_self, Bool.false_eq_true, true_implies, not_true_eq_false, not_false_eq_true, false_implies, implies_true, ne_eq, reduceCtorEq, Option.some.injEq, false_and, and_false, Int.reduceNeg, Int.reduceToNat, Int.reduceLT, Int.reduceLE, Int.reduceEq, Int.reduceAdd, Int.reduceSub, Int.reduceMul, or_false, false_or, or_true, true_or, forall_const, Int.toNat_natCast, Int.toNat_zero, Int.toNat_one, Nat.zero_add, or_self, Int.neg_eq_zero]
  refine ⟨fun c => ⟨hv, fun st' hf => ?_⟩, fun c => ⟨hv, fun st' hf => ?_⟩⟩
  · have := h st' hf
    rw [show decide (g ≠ 0) = false by simp [c]] at this
    exact this
  · have := h st' hf
    rw [show decide (g ≠ 0) = true by simp [c]] at this
    exact this
def sp_8_bad (ns : Nat) : sy_Sp := sy_m1 0 fun w st post => c_sv ns st ∧ ((w = 0 ∨ w = 1) → ∀ st', c_rf ns st st' → post (some (.inl (true, if w = 1 then (c_best ns st : Int) else c_wr ns st (c_best ns st)))) st') ∧ (¬ (w = 0 ∨ w = 1) → post (some (.inl (true, -1))) st)
def ct_8_bad (ns q : Nat) : Option (Bool × Nat × sy_Sp) := match q with
  | 141 => some (false, 1, sp_5_fewestFalse ns)
  | 144 => some (false, 1, sp_5_figureOfFewest ns)
  | _ => none
abbrev M_8_bad (ns : Nat) : sy_M := Mk_8_bad (ct_8_bad ns)
theorem cx_8_bad_141 {ns : Nat} {v1 : sy_V} {r : List sy_V} {s : sy_S} {f : List sy_V → sy_S → Prop} : sy_call false (ct_8_bad ns 141) (v1 :: r) s f = (sy_wd r ≤ 8 ∧ (sy_fit v1) ∧ sp_5_fewestFalse ns [sy_kn v1] s (fun q t => f (q.toList ++ r) t)) := sx_call1
theorem cx_8_bad_144 {ns : Nat} {v1 : sy_V} {r : List sy_V} {s : sy_S} {f : List sy_V → sy_S → Prop} : sy_call false (ct_8_bad ns 144) (v1 :: r) s f = (sy_wd r ≤ 8 ∧ (sy_fit v1) ∧ sp_5_figureOfFewest ns [sy_kn v1] s (fun q t => f (q.toList ++ r) t)) := sx_call1
theorem mv_8_bad (ns : Nat) : sy_MV c_8_bad y_8_bad.cls (some .int) (M_8_bad ns) := ⟨tv_8_bad, ff_8_ok, ki_8_ok, kl_8_ok⟩
abbrev rm_8_bad : Room := { frames := 6, cells := 0, slots := 0, locals := 139 }
theorem iw_5_fewestFalse : Cond.code y_5_fewestFalse c_5_fewestFalse 1 (some .int) ∈ sy_tb ∧ Cond.initialized y_5_fewestFalse.cls ∈ sy_tb ∧ (y_5_fewestFalse.cls ≠ "java/lang/invoke/MethodHandle" ∧ y_5_fewestFalse.cls ≠ "java/lang/invoke/VarHandle" ∧ (parseMethodDescriptor y_5_fewestFalse.desc).map (fun d => d.parameters.length) = some 0) := ⟨sy_inx 571 (by decide +kernel) (by decide +kernel), sy_inx 48 (by decide +kernel) (by decide +kernel), by decide +kernel⟩
theorem ii_5_fewestFalse : Cond.instanceMethod y_5_fewestFalse ∈ sy_tb ∧ Cond.selects y_5_fewestFalse.cls y_5_fewestFalse y_5_fewestFalse ∈ sy_tb := ⟨sy_inx 569 (by decide +kernel) (by decide +kernel), sy_inx 570 (by decide +kernel) (by decide +kernel)⟩
theorem iw_5_figureOfFewest : Cond.code y_5_figureOfFewest c_5_figureOfFewest 1 (some .int) ∈ sy_tb ∧ Cond.initialized y_5_figureOfFewest.cls ∈ sy_tb ∧ (y_5_figureOfFewest.cls ≠ "java/lang/invoke/MethodHandle" ∧ y_5_figureOfFewest.cls ≠ "java/lang/invoke/VarHandle" ∧ (parseMethodDescriptor y_5_figureOfFewest.desc).map (fun d => d.parameters.length) = some 0) := ⟨sy_inx 575 (by decide +kernel) (by decide +kernel), sy_inx 48 (by decide +kernel) (by decide +kernel), by decide +kernel⟩
theorem ii_5_figureOfFewest : Cond.instanceMethod y_5_figureOfFewest ∈ sy_tb ∧ Cond.selects y_5_figureOfFewest.cls y_5_figureOfFewest y_5_figureOfFewest ∈ sy_tb := ⟨sy_inx 573 (by decide +kernel) (by decide +kernel), sy_inx 574 (by decide +kernel) (by decide +kernel)⟩
theorem co_8_bad (l : Launch) : sy_calls l rm_8_bad y_8_bad.cls c_8_bad 2 (fun ns => (M_8_bad ns).2.2.2.2.1) := by
  intro p e s m args below meth c rt wd ad ns A Q X hA q b n sp h
  replace h : ct_8_bad ns q = some (b, n, sp) := h
  unfold ct_8_bad at h
  split at h
  · cases h; exact sy_coV (ci := 5) X hA (mc_5_fewestFalse l) ⟨iw_5_fewestFalse.1, iw_5_fewestFalse.2.1, iw_5_fewestFalse.2.2, ⟨by decide, by decide⟩, rfl, rfl⟩ (sy_inx 568 (by decide +kernel) (by decide +kernel)) ii_5_fewestFalse.1 ii_5_fewestFalse.2 (rc_5_fewestFalse ns) ⟨_, rfl, rfl⟩
  · cases h; exact sy_coV (ci := 5) X hA (mc_5_figureOfFewest l) ⟨iw_5_figureOfFewest.1, iw_5_figureOfFewest.2.1, iw_5_figureOfFewest.2.2, ⟨by decide, by decide⟩, rfl, rfl⟩ (sy_inx 572 (by decide +kernel) (by decide +kernel)) ii_5_figureOfFewest.1 ii_5_figureOfFewest.2 (rc_5_figureOfFewest ns) ⟨_, rfl, rfl⟩
  · cases h
theorem rc_8_bad (ns : Nat) (as : List sy_V) (st : sy_S) (post : sy_R) (h : sp_8_bad ns as st post) : ∃ b as', as = .inr (.inr (some (some b))) :: as' ∧ sy_ob b = some 8 := sy_m1_r rfl as st post h
theorem mc_8_bad (l : Launch) : sy_MC l y_8_bad c_8_bad 2 (some .int) rm_8_bad sp_8_bad := by
  refine sy_meth M_8_bad (by decide +kernel) mv_8_bad (co_8_bad l) ?_
  intro ns as st post WA h hok hrg ⟨hgo0, hin, hwk⟩
  have hgo : ∀ (n pc : Nat) (L k : List sy_V) (st : sy_S), rn_8_bad ns (ct_8_bad ns) post WA n pc L k st → WA pc L k st := fun n pc L k st h => hgo0 [] n pc L k st h
  replace h := sy_m1_e h hok
  obtain ⟨w, rfl, hw, h⟩ := h
  refine ⟨Nat.le_of_ble_eq_true rfl, ?_⟩
  show WA 0 [.inr (.inr (some (some 0))), .inl (true, w)] [] st
  obtain ⟨hv, h1, h2⟩ := h
  refine hgo 100 _ _ _ _ ?_
  simp -implicitDefEqProofs only [↓rx_8_bad_0, ↓rx_8_bad_1, ↓rx_8_bad_4, ↓rx_8_bad_5, ↓rx_8_bad_8, ↓rx_8_bad_11, ↓rx_8_bad_12, ↓rx_8_bad_13, ↓rx_8_bad_14, ↓rx_8_bad_17, ↓rx_8_bad_18, ↓rx_8_bad_21, ↓rx_8_bad_24, ↓rx_8_bad_27, ↓rx_8_bad_28, ↓cx_8_bad_141, ↓cx_8_bad_144, sp_5_fewestFalse, sp_5_figureOfFewest, ↓sx_s1, ↓sx_s2, ↓sx_s3, ↓sx_s4, ↓sx_s5, ↓sx_s6, ↓sx_m0, ↓sx_m1, ↓sx_m2, ↓sx_m3, ↓sx_m4, ↓sx_m5, ↓sx_m6, ↓sx_k0_, ↓sx_k1_, ↓sx_k2_, ↓sx_k3_, ↓sx_k4_, ↓sx_k5_, ↓sx_k6_, ↓sx_sLL, ↓sx_sAI, ↓sx_mLL, ↓sx_mIIL, ↓sx_mIILL, ↓sx_mIILLL, ↓sx_qS, ↓sx_qSI, ↓sx_qSIII, sx_rit, sx_rif, sx_rlt, sx_rlf, sx_b0, sx_b1, sx_o0, sx_o1i, sx_o1a, sx_o1l, sx_o2, sx_g0, sx_g1, sx_k1, sx_k2, sx_k3, sx_f1, sx_f2, sx_f3, sx_w0, sx_w1, sx_w2, sx_w3, sx_ts, sx_tn, sx_up, sx_nS1, sx_nS2, sx_nW1, sx_nW2, sx_SW, sx_WS, sy_nS_inj, sy_nW_inj, sx_ob0, sx_ob1, sx_ob2, sx_ob3, sx_ob4, sx_ob5, sx_ob6, sx_ob7, sx_ob8, sx_ob9, sx_ob10, sx_ob11, sx_ob12, sx_ob13, sx_ob14, sx_ob15, sx_ob16, sx_ob17, sx_ob18, sx_ob19, sx_ob20, sx_ob21, sx_ob22, sx_ob23, sx_ob24, sx_ob25, sx_ob26, sx_ob27, sx_ob28, sx_ob29, sx_ob30, sx_ob31, sx_ob32, sx_ob33, sx_ob34, sx_ob35, sx_ob36, sx_fv0_0, sx_fv0_1, sx_fv0_2, sx_fv0_3, sx_fv0_4, sx_fv0_5, sx_fv1_0, sx_fv1_1, sx_fv1_2, sx_fv3_0, sx_fv3_1, sx_fv3_2, sx_fv3_3, sx_fv3_4, sx_fv7_0, sx_fv7_1, sx_fv7_2, sx_fv7_3, sx_fv7_4, sx_fv7_5, sx_fv7_6, sx_fv7_7, sx_fv7_8, sx_fv7_9, sx_fv7_10, sx_fv9_0, sx_fv9_1, sx_fv9_2, sx_fv9_3, sx_fv11_0, sx_fv11_1, sx_fv11_2, sx_fv11_3, sx_fv11_4, sx_fv11_5, sx_fv11_6, sx_fv15_0, sx_fv15_1, sx_fv15_2, sx_fv15_3, sx_fv15_4, sx_fv15_5, sx_fv19_0, sx_fv19_1, sx_fv19_2, sx_fv19_3, sx_fv19_4, sx_fv19_5, sx_fv19_6, sx_fv24_0, sx_fv24_1, sx_fv24_2, sx_fv24_3, sx_fv24_4, sx_fv24_5, sx_fv24_6, sx_fv24_7, sx_fv24_8, sx_fv24_9, sx_fv24_10, sx_fv24_11, sx_fv24_12, sx_fv24_13, sx_fv24_14, sx_fv24_15, sx_fv24_16, sx_fv24_17, sx_fv24_18, sx_fvS_0, sx_fvS_1, sx_fvS_2, sx_fvS_3, sx_fvS_4, sx_fvS_5, sx_fvS_6, sx_fvS_7, sx_fvS_8, sx_fvS_9, sx_ar2, sx_ar4, sx_ar5, sx_ar6, sx_ar8, sx_ar10, sx_ar12, sx_ar13, sx_ar14, sx_ar16, sx_ar17, sx_ar18, sx_ar20, sx_ar21, sx_ar22, sx_ar23, sx_ar25, sx_ar26, sx_ar27, sx_ar28, sx_ar29, sx_ar30, sx_ar31, sx_ar32, sx_ar33, sx_ar34, sx_ar35, sx_ar36, sy_ob_S, sy_ob_W, sy_ar_W, sx_if0, sx_if1, sx_ie0, sx_em, Classical.not_not, sx_cle, sx_clt, sx_cge, sx_cgt, sx_ceq, Nat.reduceLT, Nat.reduceLeDiff, Nat.reduceAdd, Nat.reduceSub, Nat.reduceEqDiff, reduceIte, List.length_cons, List.length_nil, true_and, and_true, and_self, Bool.false_eq_true, true_implies, not_true_eq_false, not_false_eq_true, false_implies, implies_true, ne_eq, reduceCtorEq, Option.some.injEq, false_and, and_false, Int.reduceNeg, Int.reduceToNat, Int.reduceLT, Int.reduceLE, Int.reduceEq, Int.reduceAdd, Int.reduceSub, Int.reduceMul, or_false, false_or, or_true, true_or, forall_const, Int.toNat_natCast, Int.toNat_zero, Int.toNat_one, Nat.zero_add, or_self, Int.neg_eq_zero]
  refine ⟨fun c => ⟨fun c2 => h2 (by omega), fun c2 => ⟨hv, fun st' hf => ?_⟩⟩, fun c => ⟨hv, fun st' hf => ?_⟩⟩
  · have := h1 (Or.inr c2) st' hf
    rw [if_pos c2] at this
    exact this
  · have := h1 (Or.inl c) st' hf
    rw [if_neg (by omega)] at this
    exact this
def sp_8_clock (ns : Nat) : sy_Sp := sy_m2 0 fun i w st post => (c_sv ns st ∧ c_ckk ns st) ∧ (¬ (0 ≤ i ∧ i < ns) → post (some (.inl (true, -1000))) st) ∧ (0 ≤ i ∧ i < ns → ∀ st' p, c_ckr ns st st' → c_ckb ns st i.toNat p → post (some (.inl (true, c_ckv w p))) st')
def ct_8_clock (ns q : Nat) : Option (Bool × Nat × sy_Sp) := match q with
  | 77 => some (false, 2, sp_7_at ns)
  | 147 => some (false, 3, sp_5_clockOf ns)
  | _ => none
abbrev M_8_clock (ns : Nat) : sy_M := Mk_8_clock (ct_8_clock ns)
theorem cx_8_clock_77 {ns : Nat} {v1 v2 : sy_V} {r : List sy_V} {s : sy_S} {f : List sy_V → sy_S → Prop} : sy_call false (ct_8_clock ns 77) (v2 :: v1 :: r) s f = (sy_wd r ≤ 8 ∧ (sy_fit v2 ∧ sy_fit v1) ∧ sp_7_at ns [sy_kn v1, sy_kn v2] s (fun q t => f (q.toList ++ r) t)) := sx_call2
theorem cx_8_clock_147 {ns : Nat} {v1 v2 v3 : sy_V} {r : List sy_V} {s : sy_S} {f : List sy_V → sy_S → Prop} : sy_call false (ct_8_clock ns 147) (v3 :: v2 :: v1 :: r) s f = (sy_wd r ≤ 8 ∧ (sy_fit v3 ∧ sy_fit v2 ∧ sy_fit v1) ∧ sp_5_clockOf ns [sy_kn v1, sy_kn v2, sy_kn v3] s (fun q t => f (q.toList ++ r) t)) := sx_call3
theorem mv_8_clock (ns : Nat) : sy_MV c_8_clock y_8_clock.cls (some .int) (M_8_clock ns) := ⟨tv_8_clock, ff_8_ok, ki_8_ok, kl_8_ok⟩
abbrev rm_8_clock : Room := { frames := 6, cells := 0, slots := 0, locals := 141 }
theorem iw_5_clockOf : Cond.code y_5_clockOf c_5_clockOf 3 (some .int) ∈ sy_tb ∧ Cond.initialized y_5_clockOf.cls ∈ sy_tb ∧ (y_5_clockOf.cls ≠ "java/lang/invoke/MethodHandle" ∧ y_5_clockOf.cls ≠ "java/lang/invoke/VarHandle" ∧ (parseMethodDescriptor y_5_clockOf.desc).map (fun d => d.parameters.length) = some 2) := ⟨sy_inx 587 (by decide +kernel) (by decide +kernel), sy_inx 48 (by decide +kernel) (by decide +kernel), by decide +kernel⟩
theorem ii_5_clockOf : Cond.instanceMethod y_5_clockOf ∈ sy_tb ∧ Cond.selects y_5_clockOf.cls y_5_clockOf y_5_clockOf ∈ sy_tb := ⟨sy_inx 585 (by decide +kernel) (by decide +kernel), sy_inx 586 (by decide +kernel) (by decide +kernel)⟩
theorem co_8_clock (l : Launch) : sy_calls l rm_8_clock y_8_clock.cls c_8_clock 3 (fun ns => (M_8_clock ns).2.2.2.2.1) := by
  intro p e s m args below meth c rt wd ad ns A Q X hA q b n sp h
  replace h : ct_8_clock ns q = some (b, n, sp) := h
  unfold ct_8_clock at h
  split at h
  · cases h; exact sy_coV (ci := 7) X hA (mc_7_at l) ⟨iw_7_at.1, iw_7_at.2.1, iw_7_at.2.2, ⟨by decide, by decide⟩, rfl, rfl⟩ (sy_inx 377 (by decide +kernel) (by decide +kernel)) ii_7_at.1 ii_7_at.2 (rc_7_at ns) ⟨_, rfl, rfl⟩
  · cases h; exact sy_coV (ci := 5) X hA (mc_5_clockOf l) ⟨iw_5_clockOf.1, iw_5_clockOf.2.1, iw_5_clockOf.2.2, ⟨by decide, by decide⟩, rfl, rfl⟩ (sy_inx 584 (by decide +kernel) (by decide +kernel)) ii_5_clockOf.1 ii_5_clockOf.2 (rc_5_clockOf ns) ⟨_, rfl, rfl⟩
  · cases h
theorem rc_8_clock (ns : Nat) (as : List sy_V) (st : sy_S) (post : sy_R) (h : sp_8_clock ns as st post) : ∃ b as', as = .inr (.inr (some (some b))) :: as' ∧ sy_ob b = some 8 := sy_m2_r rfl as st post h
theorem mc_8_clock (l : Launch) : sy_MC l y_8_clock c_8_clock 3 (some .int) rm_8_clock sp_8_clock := by
  refine sy_meth M_8_clock (by decide +kernel) mv_8_clock (co_8_clock l) ?_
  intro ns as st post WA h hok hrg ⟨hgo0, hin, hwk⟩
  have hgo : ∀ (n pc : Nat) (L k : List sy_V) (st : sy_S), rn_8_clock ns (ct_8_clock ns) post WA n pc L k st → WA pc L k st := fun n pc L k st h => hgo0 [] n pc L k st h
  replace h := sy_m2_e h hok
  obtain ⟨i, w, rfl, hi, hw, h⟩ := h
  refine ⟨Nat.le_of_ble_eq_true rfl, ?_⟩
  show WA 0 [.inr (.inr (some (some 0))), .inl (true, i), .inl (true, w)] [] st
  obtain ⟨⟨hv, hk⟩, h1, h2⟩ := h
  refine hgo 100 _ _ _ _ ?_
  simp -implicitDefEqProofs only [↓rx_8_clock_0, ↓rx_8_clock_1, ↓rx_8_clock_4, ↓rx_8_clock_5, ↓rx_8_clock_8, ↓rx_8_clock_8_n, ↓rx_8_clock_11, ↓rx_8_clock_14, ↓rx_8_clock_17, ↓rx_8_clock_18, ↓rx_8_clock_21, ↓rx_8_clock_22, ↓rx_8_clock_23, ↓rx_8_clock_26, ↓cx_8_clock_77, ↓cx_8_clock_147, sp_5_clockOf, sp_7_at, ↓sx_s1, ↓sx_s2, ↓sx_s3, ↓sx_s4, ↓sx_s5, ↓sx_s6, ↓sx_m0, ↓sx_m1, ↓sx_m2, ↓sx_m3, ↓sx_m4, ↓sx_m5, ↓sx_m6, ↓sx_k0_, ↓sx_k1_, ↓sx_k2_, ↓sx_k3_, ↓sx_k4_, ↓sx_k5_, ↓sx_k6_, ↓sx_sLL, ↓sx_sAI, ↓sx_mLL, ↓sx_mIIL, ↓sx_mIILL, ↓sx_mIILLL, ↓sx_qS, ↓sx_qSI, ↓sx_qSIII, sx_rit, sx_rif, sx_rlt, sx_rlf, sx_b0, sx_b1, sx_o0, sx_o1i, sx_o1a, sx_o1l, sx_o2, sx_g0, sx_g1, sx_k1, sx_k2, sx_k3, sx_f1, sx_f2, sx_f3, sx_w0, sx_w1, sx_w2, sx_w3, sx_ts, sx_tn, sx_up, sx_nS1, sx_nS2, sx_nW1, sx_nW2, sx_SW, sx_WS, sy_nS_inj, sy_nW_inj, sx_ob0, sx_ob1, sx_ob2, sx_ob3, sx_ob4, sx_ob5, sx_ob6, sx_ob7, sx_ob8, sx_ob9, sx_ob10, sx_ob11, sx_ob12, sx_ob13, sx_ob14, sx_ob15, sx_ob16, sx_ob17, sx_ob18, sx_ob19, sx_ob20, sx_ob21, sx_ob22, sx_ob23, sx_ob24, sx_ob25, sx_ob26, sx_ob27, sx_ob28, sx_ob29, sx_ob30, sx_ob31, sx_ob32, sx_ob33, sx_ob34, sx_ob35, sx_ob36, sx_fv0_0, sx_fv0_1, sx_fv0_2, sx_fv0_3, sx_fv0_4, sx_fv0_5, sx_fv1_0, sx_fv1_1, sx_fv1_2, sx_fv3_0, sx_fv3_1, sx_fv3_2, sx_fv3_3, sx_fv3_4, sx_fv7_0, sx_fv7_1, sx_fv7_2, sx_fv7_3, sx_fv7_4, sx_fv7_5, sx_fv7_6, sx_fv7_7, sx_fv7_8, sx_fv7_9, sx_fv7_10, sx_fv9_0, sx_fv9_1, sx_fv9_2, sx_fv9_3, sx_fv11_0, sx_fv11_1, sx_fv11_2, sx_fv11_3, sx_fv11_4, sx_fv11_5, sx_fv11_6, sx_fv15_0, sx_fv15_1, sx_fv15_2, sx_fv15_3, sx_fv15_4, sx_fv15_5, sx_fv19_0, sx_fv19_1, sx_fv19_2, sx_fv19_3, sx_fv19_4, sx_fv19_5, sx_fv19_6, sx_fv24_0, sx_fv24_1, sx_fv24_2, sx_fv24_3, sx_fv24_4, sx_fv24_5, sx_fv24_6, sx_fv24_7, sx_fv24_8, sx_fv24_9, sx_fv24_10, sx_fv24_11, sx_fv24_12, sx_fv24_13, sx_fv24_14, sx_fv24_15, sx_fv24_16, sx_fv24_17, sx_fv24_18, sx_fvS_0, sx_fvS_1, sx_fvS_2, sx_fvS_3, sx_fvS_4, sx_fvS_5, sx_fvS_6, sx_fvS_7, sx_fvS_8, sx_fvS_9, sx_ar2, sx_ar4, sx_ar5, sx_ar6, sx_ar8, sx_ar10, sx_ar12, sx_ar13, sx_ar14, sx_ar16, sx_ar17, sx_ar18, sx_ar20, sx_ar21, sx_ar22, sx_ar23, sx_ar25, sx_ar26, sx_ar27, sx_ar28, sx_ar29, sx_ar30, sx_ar31, sx_ar32, sx_ar33, sx_ar34, sx_ar35, sx_ar36, sy_ob_S, sy_ob_W, sy_ar_W, sx_if0, sx_if1, sx_ie0, sx_em, Classical.not_not, sx_cle, sx_clt, sx_cge, sx_cgt, sx_ceq, Nat.reduceLT, Nat.reduceLeDiff, Nat.reduceAdd, Nat.reduceSub, Nat.reduceEqDiff, reduceIte, List.length_cons, List.length_nil, true_and, and_true, and_self, Bool.false_eq_true, true_implies, not_true_eq_false, not_false_eq_true, false_implies, implies_true, ne_eq, reduceCtorEq, Option.some.injEq, false_and, and_false, Int.reduceNeg, Int.reduceToNat, Int.reduceLT, Int.reduceLE, Int.reduceEq, Int.reduceAdd, Int.reduceSub, Int.reduceMul, or_false, false_or, or_true, true_or, forall_const, Int.toNat_natCast, Int.toNat_zero, Int.toNat_one, Nat.zero_add, or_self, Int.neg_eq_zero]
  exact ⟨hv.1.1, fun c => ⟨⟨hv, hk, c⟩, h2 c⟩, fun c => h1 c⟩
