/-! THE CLASS: unsay, net, isBad -/
def sp_8_unsay (ns : Nat) : sy_Sp := sy_m1 0 fun i st post => c_site ns st ∧ ((0 ≤ i ∧ i < ns) ∧ st (sy_nS i.toNat) 5 ≠ 0 → post (some (.inl (true, 1))) (c_chg (c_tell st i.toNat 0 0 0 0 0) i.toNat)) ∧ (¬ ((0 ≤ i ∧ i < ns) ∧ st (sy_nS i.toNat) 5 ≠ 0) → post (some (.inl (true, 0))) st)
def ct_8_unsay (ns q : Nat) : Option (Bool × Nat × sy_Sp) := match q with
  | 77 => some (false, 2, sp_7_at ns)
  | 86 => some (false, 2, sp_8_changed ns)
  | 93 => some (false, 6, sp_6_tell ns)
  | _ => none
abbrev M_8_unsay (ns : Nat) : sy_M := Mk_8_unsay (ct_8_unsay ns)
theorem cx_8_unsay_77 {ns : Nat} {v1 v2 : sy_V} {r : List sy_V} {s : sy_S} {f : List sy_V → sy_S → Prop} : sy_call false (ct_8_unsay ns 77) (v2 :: v1 :: r) s f = (sy_wd r ≤ 8 ∧ (sy_fit v2 ∧ sy_fit v1) ∧ sp_7_at ns [sy_kn v1, sy_kn v2] s (fun q t => f (q.toList ++ r) t)) := sx_call2
theorem cx_8_unsay_86 {ns : Nat} {v1 v2 : sy_V} {r : List sy_V} {s : sy_S} {f : List sy_V → sy_S → Prop} : sy_call false (ct_8_unsay ns 86) (v2 :: v1 :: r) s f = (sy_wd r ≤ 8 ∧ (sy_fit v2 ∧ sy_fit v1) ∧ sp_8_changed ns [sy_kn v1, sy_kn v2] s (fun q t => f (q.toList ++ r) t)) := sx_call2
theorem cx_8_unsay_93 {ns : Nat} {v1 v2 v3 v4 v5 v6 : sy_V} {r : List sy_V} {s : sy_S} {f : List sy_V → sy_S → Prop} : sy_call false (ct_8_unsay ns 93) (v6 :: v5 :: v4 :: v3 :: v2 :: v1 :: r) s f = (sy_wd r ≤ 8 ∧ (sy_fit v6 ∧ sy_fit v5 ∧ sy_fit v4 ∧ sy_fit v3 ∧ sy_fit v2 ∧ sy_fit v1) ∧ sp_6_tell ns [sy_kn v1, sy_kn v2, sy_kn v3, sy_kn v4, sy_kn v5, sy_kn v6] s (fun q t => f (q.toList ++ r) t)) := sx_call6
theorem mv_8_unsay (ns : Nat) : sy_MV c_8_unsay y_8_unsay.cls (some .boolean) (M_8_unsay ns) := ⟨tv_8_unsay, ff_8_ok, ki_8_ok, kl_8_ok⟩
abbrev rm_8_unsay : Room := { frames := 2, cells := 0, slots := 0, locals := 42 }
theorem co_8_unsay (l : Launch) : sy_calls l rm_8_unsay y_8_unsay.cls c_8_unsay 3 (fun ns => (M_8_unsay ns).2.2.2.2.1) := by
  intro p e s m args below meth c rt wd ad ns A Q X hA q b n sp h
  replace h : ct_8_unsay ns q = some (b, n, sp) := h
  unfold ct_8_unsay at h
  split at h
  · cases h; exact sy_coV (ci := 7) X hA (mc_7_at l) ⟨iw_7_at.1, iw_7_at.2.1, iw_7_at.2.2, ⟨by decide, by decide⟩, rfl, rfl⟩ (sy_inx 377 (by decide +kernel) (by decide +kernel)) ii_7_at.1 ii_7_at.2 (rc_7_at ns) ⟨_, rfl, rfl⟩
  · cases h; exact sy_coV (ci := 8) X hA (mc_8_changed l) ⟨iw_8_changed.1, iw_8_changed.2.1, iw_8_changed.2.2, ⟨by decide, by decide⟩, rfl, rfl⟩ (sy_inx 378 (by decide +kernel) (by decide +kernel)) ii_8_changed.1 ii_8_changed.2 (rc_8_changed ns) ⟨_, rfl, rfl⟩
  · cases h; exact sy_coV (ci := 6) X hA (mc_6_tell l) ⟨iw_6_tell.1, iw_6_tell.2.1, iw_6_tell.2.2, ⟨by decide, by decide⟩, rfl, rfl⟩ (sy_inx 393 (by decide +kernel) (by decide +kernel)) ii_6_tell.1 ii_6_tell.2 (rc_6_tell ns) ⟨_, rfl, rfl⟩
  · cases h
theorem rc_8_unsay (ns : Nat) (as : List sy_V) (st : sy_S) (post : sy_R) (h : sp_8_unsay ns as st post) : ∃ b as', as = .inr (.inr (some (some b))) :: as' ∧ sy_ob b = some 8 := sy_m1_r rfl as st post h
theorem mc_8_unsay (l : Launch) : sy_MC l y_8_unsay c_8_unsay 3 (some .boolean) rm_8_unsay sp_8_unsay := by
  refine sy_meth M_8_unsay (by decide +kernel) mv_8_unsay (co_8_unsay l) ?_
  intro ns as st post WA h hok hrg ⟨hgo0, hin, hwk⟩
  have hgo : ∀ (n pc : Nat) (L k : List sy_V) (st : sy_S), rn_8_unsay ns (ct_8_unsay ns) post WA n pc L k st → WA pc L k st := fun n pc L k st h => hgo0 [] n pc L k st h
  replace h := sy_m1_e h hok
  obtain ⟨i, rfl, hi, h⟩ := h
  refine ⟨Nat.le_of_ble_eq_true rfl, ?_⟩
  show WA 0 [.inr (.inr (some (some 0))), .inl (true, i), .inr (.inr none)] [] st
  obtain ⟨hs, h1, h2⟩ := h
  have hs2 := hs.2
  refine hgo 100 _ _ _ _ ?_
  simp -implicitDefEqProofs only [↓rx_8_unsay_0, ↓rx_8_unsay_1, ↓rx_8_unsay_4, ↓rx_8_unsay_5, ↓rx_8_unsay_8, ↓rx_8_unsay_9, ↓rx_8_unsay_10, ↓rx_8_unsay_10_n, ↓rx_8_unsay_13, ↓rx_8_unsay_14, ↓rx_8_unsay_17, ↓rx_8_unsay_20, ↓rx_8_unsay_21, ↓rx_8_unsay_22, ↓rx_8_unsay_23, ↓rx_8_unsay_24, ↓rx_8_unsay_25, ↓rx_8_unsay_26, ↓rx_8_unsay_27, ↓rx_8_unsay_28, ↓rx_8_unsay_31, ↓rx_8_unsay_32, ↓rx_8_unsay_33, ↓rx_8_unsay_36, ↓rx_8_unsay_37, ↓cx_8_unsay_77, ↓cx_8_unsay_86, ↓cx_8_unsay_93, sp_6_tell, sp_7_at, sp_8_changed, ↓sx_s1, ↓sx_s2, ↓sx_s3, ↓sx_s4, ↓sx_s5, ↓sx_s6, ↓sx_m0, ↓sx_m1, ↓sx_m2, ↓sx_m3, ↓sx_m4, ↓sx_m5, ↓sx_m6, ↓sx_k0_, ↓sx_k1_, ↓sx_k2_, ↓sx_k3_, ↓sx_k4_, ↓sx_k5_, ↓sx_k6_, ↓sx_sLL, ↓sx_sAI, ↓sx_mLL, ↓sx_mIIL, ↓sx_mIILL, ↓sx_mIILLL, ↓sx_qS, ↓sx_qSI, ↓sx_qSIII, sx_rit, sx_rif, sx_rlt, sx_rlf, sx_b0, sx_b1, sx_o0, sx_o1i, sx_o1a, sx_o1l, sx_o2, sx_g0, sx_g1, sx_k1, sx_k2, sx_k3, sx_f1, sx_f2, sx_f3, sx_w0, sx_w1, sx_w2, sx_w3, sx_ts, sx_tn, sx_up, sx_nS1, sx_nS2, sx_nW1, sx_nW2, sx_SW, sx_WS, sy_nS_inj, sy_nW_inj, sx_ob0, sx_ob1, sx_ob2, sx_ob3, sx_ob4, sx_ob5, sx_ob6, sx_ob7, sx_ob8, sx_ob9, sx_ob10, sx_ob11, sx_ob12, sx_ob13, sx_ob14, sx_ob15, sx_ob16, sx_ob17, sx_ob18, sx_ob19, sx_ob20, sx_ob21, sx_ob22, sx_ob23, sx_ob24, sx_ob25, sx_ob26, sx_ob27, sx_ob28, sx_ob29, sx_ob30, sx_ob31, sx_ob32, sx_ob33, sx_ob34, sx_ob35, sx_ob36, sx_fv0_0, sx_fv0_1, sx_fv0_2, sx_fv0_3, sx_fv0_4, sx_fv0_5, sx_fv1_0, sx_fv1_1, sx_fv1_2, sx_fv3_0, sx_fv3_1, sx_fv3_2, sx_fv3_3, sx_fv3_4, sx_fv7_0, sx_fv7_1, sx_fv7_2, sx_fv7_3, sx_fv7_4, sx_fv7_5, sx_fv7_6, sx_fv7_7, sx_fv7_8, sx_fv7_9, sx_fv7_10, sx_fv9_0, sx_fv9_1, sx_fv9_2, sx_fv9_3, sx_fv11_0, sx_fv11_1, sx_fv11_2, sx_fv11_3, sx_fv11_4, sx_fv11_5, sx_fv11_6, sx_fv15_0, sx_fv15_1, sx_fv15_2, sx_fv15_3, sx_fv15_4, sx_fv15_5, sx_fv19_0, sx_fv19_1, sx_fv19_2, sx_fv19_3, sx_fv19_4, sx_fv19_5, sx_fv19_6, sx_fv24_0, sx_fv24_1, sx_fv24_2, sx_fv24_3, sx_fv24_4, sx_fv24_5, sx_fv24_6, sx_fv24_7, sx_fv24_8, sx_fv24_9, sx_fv24_10, sx_fv24_11, sx_fv24_12, sx_fv24_13, sx_fv24_14, sx_fv24_15, sx_fv24_16, sx_fv24_17, sx_fv24_18, sx_fvS_0, sx_fvS_1, sx_fvS_2, sx_fvS_3, sx_fvS_4, sx_fvS_5, sx_fvS_6, sx_fvS_7, sx_fvS_8, sx_fvS_9, sx_ar2, sx_ar4, sx_ar5, sx_ar6, sx_ar8, sx_ar10, sx_ar12, sx_ar13, sx_ar14, sx_ar16, sx_ar17, sx_ar18, sx_ar20, sx_ar21, sx_ar22, sx_ar23, sx_ar25, sx_ar26, sx_ar27, sx_ar28, sx_ar29, sx_ar30, sx_ar31, sx_ar32, sx_ar33, sx_ar34, sx_ar35, sx_ar36, sy_ob_S, sy_ob_W, sy_ar_W, sx_if0, sx_if1, sx_ie0, sx_em, Classical.not_not, sx_cle, sx_clt, sx_cge, sx_cgt, sx_ceq, Nat.reduceLT, Nat.reduceLeDiff, Nat.reduceAdd, Nat.reduceSub, Nat.reduceEqDiff, reduceIte, List.length_cons, List.length_nil, true_and, and_true, and_self, Bool.false_eq_true, true_implies, not_true_eq_false, not_false_eq_true, false_implies, implies_true, ne_eq, reduceCtorEq, Option.some.injEq, false_and, and_false, Int.reduceNeg, Int.reduceToNat, Int.reduceLT, Int.reduceLE, Int.reduceEq, Int.reduceAdd, Int.reduceSub, Int.reduceMul, or_false, false_or, or_true, true_or, forall_const, Int.toNat_natCast, Int.toNat_zero, Int.toNat_one, Nat.zero_add, or_self, Int.neg_eq_zero]
  refine ⟨hs, fun q1 => ⟨fun q2 => ⟨by omega, by omega, h1 ⟨q1, q2⟩⟩, fun q2 => h2 (fun q => q.2 q2)⟩, fun q1 => h2 (fun q => q1 q.1)⟩
def sp_8_isBad (ns : Nat) : sy_Sp := sy_m1 0 fun i st post => c_sv ns st ∧ (¬ (0 ≤ i ∧ i < ns) → post (some (.inl (true, -1))) st) ∧ (0 ≤ i ∧ i < ns → ∀ st1 st2, c_rf ns st st1 → c_rf ns st1 st2 → post (some (.inl (true, if c_ag st (c_best ns st) i.toNat = true then 0 else 1))) st2)
def ct_8_isBad (ns q : Nat) : Option (Bool × Nat × sy_Sp) := match q with
  | 77 => some (false, 2, sp_7_at ns)
  | 123 => some (false, 3, sp_5_isAgainst ns)
  | 144 => some (false, 1, sp_5_figureOfFewest ns)
  | _ => none
abbrev M_8_isBad (ns : Nat) : sy_M := Mk_8_isBad (ct_8_isBad ns)
theorem cx_8_isBad_77 {ns : Nat} {v1 v2 : sy_V} {r : List sy_V} {s : sy_S} {f : List sy_V → sy_S → Prop} : sy_call false (ct_8_isBad ns 77) (v2 :: v1 :: r) s f = (sy_wd r ≤ 8 ∧ (sy_fit v2 ∧ sy_fit v1) ∧ sp_7_at ns [sy_kn v1, sy_kn v2] s (fun q t => f (q.toList ++ r) t)) := sx_call2
theorem cx_8_isBad_123 {ns : Nat} {v1 v2 v3 : sy_V} {r : List sy_V} {s : sy_S} {f : List sy_V → sy_S → Prop} : sy_call false (ct_8_isBad ns 123) (v3 :: v2 :: v1 :: r) s f = (sy_wd r ≤ 8 ∧ (sy_fit v3 ∧ sy_fit v2 ∧ sy_fit v1) ∧ sp_5_isAgainst ns [sy_kn v1, sy_kn v2, sy_kn v3] s (fun q t => f (q.toList ++ r) t)) := sx_call3
theorem cx_8_isBad_144 {ns : Nat} {v1 : sy_V} {r : List sy_V} {s : sy_S} {f : List sy_V → sy_S → Prop} : sy_call false (ct_8_isBad ns 144) (v1 :: r) s f = (sy_wd r ≤ 8 ∧ (sy_fit v1) ∧ sp_5_figureOfFewest ns [sy_kn v1] s (fun q t => f (q.toList ++ r) t)) := sx_call1
theorem mv_8_isBad (ns : Nat) : sy_MV c_8_isBad y_8_isBad.cls (some .int) (M_8_isBad ns) := ⟨tv_8_isBad, ff_8_ok, ki_8_ok, kl_8_ok⟩
abbrev rm_8_isBad : Room := { frames := 6, cells := 0, slots := 0, locals := 141 }
theorem co_8_isBad (l : Launch) : sy_calls l rm_8_isBad y_8_isBad.cls c_8_isBad 2 (fun ns => (M_8_isBad ns).2.2.2.2.1) := by
  intro p e s m args below meth c rt wd ad ns A Q X hA q b n sp h
  replace h : ct_8_isBad ns q = some (b, n, sp) := h
  unfold ct_8_isBad at h
  split at h
  · cases h; exact sy_coV (ci := 7) X hA (mc_7_at l) ⟨iw_7_at.1, iw_7_at.2.1, iw_7_at.2.2, ⟨by decide, by decide⟩, rfl, rfl⟩ (sy_inx 377 (by decide +kernel) (by decide +kernel)) ii_7_at.1 ii_7_at.2 (rc_7_at ns) ⟨_, rfl, rfl⟩
  · cases h; exact sy_coV (ci := 5) X hA (mc_5_isAgainst l) ⟨iw_5_isAgainst.1, iw_5_isAgainst.2.1, iw_5_isAgainst.2.2, ⟨by decide, by decide⟩, rfl, rfl⟩ (sy_inx 470 (by decide +kernel) (by decide +kernel)) ii_5_isAgainst.1 ii_5_isAgainst.2 (rc_5_isAgainst ns) ⟨_, rfl, rfl⟩
  · cases h; exact sy_coV (ci := 5) X hA (mc_5_figureOfFewest l) ⟨iw_5_figureOfFewest.1, iw_5_figureOfFewest.2.1, iw_5_figureOfFewest.2.2, ⟨by decide, by decide⟩, rfl, rfl⟩ (sy_inx 572 (by decide +kernel) (by decide +kernel)) ii_5_figureOfFewest.1 ii_5_figureOfFewest.2 (rc_5_figureOfFewest ns) ⟨_, rfl, rfl⟩
  · cases h
theorem rc_8_isBad (ns : Nat) (as : List sy_V) (st : sy_S) (post : sy_R) (h : sp_8_isBad ns as st post) : ∃ b as', as = .inr (.inr (some (some b))) :: as' ∧ sy_ob b = some 8 := sy_m1_r rfl as st post h
theorem mc_8_isBad (l : Launch) : sy_MC l y_8_isBad c_8_isBad 2 (some .int) rm_8_isBad sp_8_isBad := by
  refine sy_meth M_8_isBad (by decide +kernel) mv_8_isBad (co_8_isBad l) ?_
  intro ns as st post WA h hok hrg ⟨hgo0, hin, hwk⟩
  have hgo : ∀ (n pc : Nat) (L k : List sy_V) (st : sy_S), rn_8_isBad ns (ct_8_isBad ns) post WA n pc L k st → WA pc L k st := fun n pc L k st h => hgo0 [] n pc L k st h
  replace h := sy_m1_e h hok
  obtain ⟨i, rfl, hi, h⟩ := h
  refine ⟨Nat.le_of_ble_eq_true rfl, ?_⟩
  show WA 0 [.inr (.inr (some (some 0))), .inl (true, i)] [] st
  obtain ⟨hv, h1, h2⟩ := h
  refine hgo 100 _ _ _ _ ?_
  simp -implicitDefEqProofs only [↓rx_8_isBad_0, ↓rx_8_isBad_1, ↓rx_8_isBad_4, ↓rx_8_isBad_5, ↓rx_8_isBad_8, ↓rx_8_isBad_8_n, ↓rx_8_isBad_11, ↓rx_8_isBad_12, ↓rx_8_isBad_13, ↓rx_8_isBad_14, ↓rx_8_isBad_17, ↓rx_8_isBad_18, ↓rx_8_isBad_21, ↓rx_8_isBad_24, ↓rx_8_isBad_25, ↓rx_8_isBad_28, ↓rx_8_isBad_31, ↓rx_8_isBad_32, ↓rx_8_isBad_35, ↓rx_8_isBad_36, ↓cx_8_isBad_77, ↓cx_8_isBad_123, ↓cx_8_isBad_144, sp_5_figureOfFewest, sp_5_isAgainst, sp_7_at, ↓sx_s1, ↓sx_s2, ↓sx_s3, ↓sx_s4, ↓sx_s5, ↓sx_s6, ↓sx_m0, ↓sx_m1, ↓sx_m2, ↓sx_m3, ↓sx_m4, ↓sx_m5, ↓sx_m6, ↓sx_k0_, ↓sx_k1_, ↓sx_k2_, ↓sx_k3_, ↓sx_k4_, ↓sx_k5_, ↓sx_k6_, ↓sx_sLL, ↓sx_sAI, ↓sx_mLL, ↓sx_mIIL, ↓sx_mIILL, ↓sx_mIILLL, ↓sx_qS, ↓sx_qSI, ↓sx_qSIII, sx_rit, sx_rif, sx_rlt, sx_rlf, sx_b0, sx_b1, sx_o0, sx_o1i, sx_o1a, sx_o1l, sx_o2, sx_g0, sx_g1, sx_k1, sx_k2, sx_k3, sx_f1, sx_f2, sx_f3, sx_w0, sx_w1, sx_w2, sx_w3, sx_ts, sx_tn, sx_up, sx_nS1, sx_nS2, sx_nW1, sx_nW2, sx_SW, sx_WS, sy_nS_inj, sy_nW_inj, sx_ob0, sx_ob1, sx_ob2, sx_ob3, sx_ob4, sx_ob5, sx_ob6, sx_ob7, sx_ob8, sx_ob9, sx_ob10, sx_ob11, sx_ob12, sx_ob13, sx_ob14, sx_ob15, sx_ob16, sx_ob17, sx_ob18, sx_ob19, sx_ob20, sx_ob21, sx_ob22, sx_ob23, sx_ob24, sx_ob25, sx_ob26, sx_ob27, sx_ob28, sx_ob29, sx_ob30, sx_ob31, sx_ob32, sx_ob33, sx_ob34, sx_ob35, sx_ob36, sx_fv0_0, sx_fv0_1, sx_fv0_2, sx_fv0_3, sx_fv0_4, sx_fv0_5, sx_fv1_0, sx_fv1_1, sx_fv1_2, sx_fv3_0, sx_fv3_1, sx_fv3_2, sx_fv3_3, sx_fv3_4, sx_fv7_0, sx_fv7_1, sx_fv7_2, sx_fv7_3, sx_fv7_4, sx_fv7_5, sx_fv7_6, sx_fv7_7, sx_fv7_8, sx_fv7_9, sx_fv7_10, sx_fv9_0, sx_fv9_1, sx_fv9_2, sx_fv9_3, sx_fv11_0, sx_fv11_1, sx_fv11_2, sx_fv11_3, sx_fv11_4, sx_fv11_5, sx_fv11_6, sx_fv15_0, sx_fv15_1, sx_fv15_2, sx_fv15_3, sx_fv15_4, sx_fv15_5, sx_fv19_0, sx_fv19_1, sx_fv19_2, sx_fv19_3, sx_fv19_4, sx_fv19_5, sx_fv19_6, sx_fv24_0, sx_fv24_1, sx_fv24_2, sx_fv24_3, sx_fv24_4, sx_fv24_5, sx_fv24_6, sx_fv24_7, sx_fv24_8, sx_fv24_9, sx_fv24_10, sx_fv24_11, sx_fv24_12, sx_fv24_13, sx_fv24_14, sx_fv24_15, sx_fv24_16, sx_fv24_17, sx_fv24_18, sx_fvS_0, sx_fvS_1, sx_fvS_2, sx_fvS_3, sx_fvS_4, sx_fvS_5, sx_fvS_6, sx_fvS_7, sx_fvS_8, sx_fvS_9, sx_ar2, sx_ar4, sx_ar5, sx_ar6, sx_ar8, sx_ar10, sx_ar12, sx_ar13, sx_ar14, sx_ar16, sx_ar17, sx_ar18, sx_ar20, sx_ar21, sx_ar22, sx_ar23, sx_ar25, sx_ar26, sx_ar27, sx_ar28, sx_ar29, sx_ar30, sx_ar31, sx_ar32, sx_ar33, sx_ar34, sx_ar35, sx_ar36, sy_ob_S, sy_ob_W, sy_ar_W, sx_if0, sx_if1, sx_ie0, sx_em, Classical.not_not, sx_cle, sx_clt, sx_cge, sx_cgt, sx_ceq, Nat.reduceLT, Nat.reduceLeDiff, Nat.reduceAdd, Nat.reduceSub, Nat.reduceEqDiff, reduceIte, List.length_cons, List.length_nil, true_and, and_true, and_self, Bool.false_eq_true, true_implies, not_true_eq_false, not_false_eq_true, false_implies, implies_true, ne_eq, reduceCtorEq, Option.some.injEq, false_and, and_false, Int.reduceNeg, Int.reduceToNat, Int.reduceLT, Int.reduceLE, Int.reduceEq, Int.reduceAdd, Int.reduceSub, Int.reduceMul, or_false, false_or, or_true, true_or, forall_const, Int.toNat_natCast, Int.toNat_zero, Int.toNat_one, Nat.zero_add, or_self, Int.neg_eq_zero]
  refine ⟨hv.1.1, fun q1 => ⟨hv, fun s1 hf1 => ⟨⟨c_rf_sv hf1 hv, ?_, q1⟩, fun s2 hf2 => ?_⟩⟩, fun q1 => h1 q1⟩
  · have hT := (c_tot_r hv.1.2.2.1).1
    have hb := xb_le (fun f => c_wr ns st f) ((st 3 4).toNat - 1)
    have e3 := c_same_low hf1.1 (a := 3) (by decide) (by decide) (by decide)
    rw [e3]
    unfold c_best
    omega
  · have h3 := h2 q1 s1 s2 hf1 hf2
    rw [c_same_ag hf1.1]
    by_cases c : c_ag st (c_best ns st) i.toNat = true
    · rw [if_pos c] at h3
      simp only [if_pos c]
      exact ⟨fun _ => h3, fun z => absurd trivial z⟩
    · rw [if_neg c] at h3
      simp only [if_neg c]
      exact ⟨fun z => absurd z (by decide), fun _ => h3⟩
