/-! THE CLASS: what is asked of the search -/
theorem c_same_low {ns : Nat} {st st' : sy_S} (h : c_same ns st st') {a : Nat} (ha : a < 37) (h7 : a ≠ 7) (h8 : a ≠ 8) : st' a = st a := h.1 a h7 h8 (fun i _ => ⟨c_W_ne ha, by unfold sy_nS; omega⟩)
theorem c_same_fg {ns : Nat} {st st' : sy_S} (h : c_same ns st st') : c_fg st' = c_fg st := c_fg_of (c_same_low h (by decide) (by decide) (by decide)) (c_same_low h (by decide) (by decide) (by decide)) (c_same_low h (by decide) (by decide) (by decide))
theorem c_same_wr {ns : Nat} {st st' : sy_S} (h : c_same ns st st') (f : Int) : c_wr ns st' f = c_wr ns st f := c_wr_of (c_same_low h (by decide) (by decide) (by decide)) (c_same_fg h) h.2.1 f
theorem c_same_ag {ns : Nat} {st st' : sy_S} (h : c_same ns st st') (f : Int) (i : Nat) : c_ag st' f i = c_ag st f i := c_ag_of (c_same_low h (by decide) (by decide) (by decide)) (c_same_fg h) (fun k hk => h.2.1 i k hk) f
theorem c_same_ft {ns : Nat} {st st' : sy_S} (h : c_same ns st st') : c_ft ns st' = c_ft ns st := by
  funext f
  unfold c_ft
  rw [c_same_wr h]
theorem c_same_best {ns : Nat} {st st' : sy_S} (h : c_same ns st st') : c_best ns st' = c_best ns st := by
  unfold c_best
  rw [c_same_low h (a := 3) (by decide) (by decide) (by decide)]
  exact xb_ext _ (fun i _ => c_same_wr h i)
theorem c_same_net {ns : Nat} {st st' : sy_S} (h : c_same ns st st') (hn : c_net st) : c_net st' := (c_net_of (c_same_low h (by decide) (by decide) (by decide)) (c_same_low h (by decide) (by decide) (by decide)) (c_same_low h (by decide) (by decide) (by decide)) (c_same_low h (by decide) (by decide) (by decide))).2.2.2 hn
theorem c_rf_sv {ns : Nat} {st st' : sy_S} (h : c_rf ns st st') (hv : c_sv ns st) : c_sv ns st' := by
  obtain ⟨h1, h2, h3, h4, h5, h6⟩ := h
  refine ⟨⟨?_, c_rng_of2 (c_same_low h1 (by decide) (by decide) (by decide)) h1.2.1 hv.1.2.1, c_same_net h1 hv.1.2.2.1, h3⟩, h4, fun f i hf hi _ => h5 f i hf hi, fun _ => h6⟩
  have := hv.1.1
  unfold c_site at this ⊢
  rw [c_same_low h1 (a := 1) (by decide) (by decide) (by decide)]
  exact this
/-- the five sums, said of the state before -/
theorem c_rf_sums {ns : Nat} {st st' : sy_S} (h : c_rf ns st st') : st' 7 4 = xc (c_ft ns st) (st 3 4).toNat ∧ st' 7 5 = xs false (c_ft ns st) (c_wh st) (st 3 4).toNat ∧ st' 7 6 = xs true (c_ft ns st) (c_wh st) (st 3 4).toNat ∧ st' 7 7 = c_wr ns st (c_best ns st) ∧ st' 7 8 = c_best ns st := by
  obtain ⟨h1, h2, h3, h4, h5, h6⟩ := h
  obtain ⟨a, b, c, d, e⟩ := h6
  rw [c_same_ft h1, c_same_low h1 (a := 3) (by decide) (by decide) (by decide)] at a b c
  rw [c_wh_of (c_same_fg h1)] at b c
  rw [c_same_best h1] at d e
  rw [c_same_wr h1] at d
  exact ⟨a, b, c, d, e⟩
def sp_5_howManyFit (ns : Nat) : sy_Sp := sy_m0 7 fun st post => c_sv ns st ∧ ∀ st', c_rf ns st st' → post (some (.inl (true, xc (c_ft ns st) (st 3 4).toNat))) st'
def ct_5_howManyFit (ns q : Nat) : Option (Bool × Nat × sy_Sp) := match q with
  | 39 => some (false, 1, sp_5_refresh ns)
  | _ => none
abbrev M_5_howManyFit (ns : Nat) : sy_M := Mk_5_howManyFit (ct_5_howManyFit ns)
theorem cx_5_howManyFit_39 {ns : Nat} {v1 : sy_V} {r : List sy_V} {s : sy_S} {f : List sy_V → sy_S → Prop} : sy_call false (ct_5_howManyFit ns 39) (v1 :: r) s f = (sy_wd r ≤ 8 ∧ (sy_fit v1) ∧ sp_5_refresh ns [sy_kn v1] s (fun q t => f (q.toList ++ r) t)) := sx_call1
theorem mv_5_howManyFit (ns : Nat) : sy_MV c_5_howManyFit y_5_howManyFit.cls (some .int) (M_5_howManyFit ns) := ⟨tv_5_howManyFit, ff_5_ok, ki_5_ok, kl_5_ok⟩
abbrev rm_5_howManyFit : Room := { frames := 5, cells := 0, slots := 0, locals := 119 }
theorem iw_5_refresh : Cond.code y_5_refresh c_5_refresh 3 none ∈ sy_tb ∧ Cond.initialized y_5_refresh.cls ∈ sy_tb ∧ (y_5_refresh.cls ≠ "java/lang/invoke/MethodHandle" ∧ y_5_refresh.cls ≠ "java/lang/invoke/VarHandle" ∧ (parseMethodDescriptor y_5_refresh.desc).map (fun d => d.parameters.length) = some 0) := ⟨sy_inx 477 (by decide +kernel) (by decide +kernel), sy_inx 48 (by decide +kernel) (by decide +kernel), by decide +kernel⟩
theorem ii_5_refresh : Cond.instanceMethod y_5_refresh ∈ sy_tb ∧ Cond.selects y_5_refresh.cls y_5_refresh y_5_refresh ∈ sy_tb := ⟨sy_inx 476 (by decide +kernel) (by decide +kernel), sy_inx 2 (by decide +kernel) (by decide +kernel)⟩
theorem co_5_howManyFit (l : Launch) : sy_calls l rm_5_howManyFit y_5_howManyFit.cls c_5_howManyFit 1 (fun ns => (M_5_howManyFit ns).2.2.2.2.1) := by
  intro p e s m args below meth c rt wd ad ns A Q X hA q b n sp h
  replace h : ct_5_howManyFit ns q = some (b, n, sp) := h
  unfold ct_5_howManyFit at h
  split at h
  · cases h; exact sy_coV (ci := 5) X hA (mc_5_refresh l) ⟨iw_5_refresh.1, iw_5_refresh.2.1, iw_5_refresh.2.2, ⟨by decide, by decide⟩, rfl, rfl⟩ (sy_inx 474 (by decide +kernel) (by decide +kernel)) ii_5_refresh.1 ii_5_refresh.2 (rc_5_refresh ns) ⟨_, rfl, rfl⟩
  · cases h
theorem rc_5_howManyFit (ns : Nat) (as : List sy_V) (st : sy_S) (post : sy_R) (h : sp_5_howManyFit ns as st post) : ∃ b as', as = .inr (.inr (some (some b))) :: as' ∧ sy_ob b = some 5 := sy_m0_r rfl as st post h
theorem mc_5_howManyFit (l : Launch) : sy_MC l y_5_howManyFit c_5_howManyFit 1 (some .int) rm_5_howManyFit sp_5_howManyFit := by
  refine sy_meth M_5_howManyFit (by decide +kernel) mv_5_howManyFit (co_5_howManyFit l) ?_
  intro ns as st post WA h hok hrg ⟨hgo0, hin, hwk⟩
  have hgo : ∀ (n pc : Nat) (L k : List sy_V) (st : sy_S), rn_5_howManyFit ns (ct_5_howManyFit ns) post WA n pc L k st → WA pc L k st := fun n pc L k st h => hgo0 [] n pc L k st h
  replace h := sy_m0_e h hok
  obtain ⟨rfl, h⟩ := h
  refine ⟨Nat.le_of_ble_eq_true rfl, ?_⟩
  show WA 0 [.inr (.inr (some (some 7)))] [] st
  obtain ⟨hv, h⟩ := h
  refine hgo 100 _ _ _ _ ?_
  simp -implicitDefEqProofs only [↓rx_5_howManyFit_0, ↓rx_5_howManyFit_1, ↓rx_5_howManyFit_4, ↓rx_5_howManyFit_5, ↓rx_5_howManyFit_8, ↓cx_5_howManyFit_39, sp_5_refresh, ↓sx_s1, ↓sx_s2, ↓sx_s3, ↓sx_s4, ↓sx_s5, ↓sx_s6, ↓sx_m0, ↓sx_m1, ↓sx_m2, ↓sx_m3, ↓sx_m4, ↓sx_m5, ↓sx_m6, ↓sx_k0_, ↓sx_k1_, ↓sx_k2_, ↓sx_k3_, ↓sx_k4_, ↓sx_k5_, ↓sx_k6_, ↓sx_sLL, ↓sx_sAI, ↓sx_mLL, ↓sx_mIIL, ↓sx_mIILL, ↓sx_mIILLL, ↓sx_qS, ↓sx_qSI, ↓sx_qSIII, sx_rit, sx_rif, sx_rlt, sx_rlf, sx_b0, sx_b1, sx_o0, sx_o1i, sx_o1a, sx_o1l, sx_o2, sx_g0, sx_g1, sx_k1, sx_k2, sx_k3, sx_f1, sx_f2, sx_f3, sx_w0, sx_w1, sx_w2, sx_w3, sx_ts, sx_tn, sx_up, sx_nS1, sx_nS2, sx_nW1, sx_nW2, sx_SW, sx_WS, sy_nS_inj, sy_nW_inj, sx_ob0, sx_ob1, sx_ob2, sx_ob3, sx_ob4, sx_ob5, sx_ob6, sx_ob7, sx_ob8, sx_ob9, sx_ob10, sx_ob11, sx_ob12, sx_ob13, sx_ob14, sx_ob15, sx_ob16, sx_ob17, sx_ob18, sx_ob19, sx_ob20, sx_ob21, sx_ob22, sx_ob23, sx_ob24, sx_ob25, sx_ob26, sx_ob27, sx_ob28, sx_ob29, sx_ob30, sx_ob31, sx_ob32, sx_ob33, sx_ob34, sx_ob35, sx_ob36, sx_fv0_0, sx_fv0_1, sx_fv0_2, sx_fv0_3, sx_fv0_4, sx_fv0_5, sx_fv1_0, sx_fv1_1, sx_fv1_2, sx_fv3_0, sx_fv3_1, sx_fv3_2, sx_fv3_3, sx_fv3_4, sx_fv7_0, sx_fv7_1, sx_fv7_2, sx_fv7_3, sx_fv7_4, sx_fv7_5, sx_fv7_6, sx_fv7_7, sx_fv7_8, sx_fv7_9, sx_fv7_10, sx_fv9_0, sx_fv9_1, sx_fv9_2, sx_fv9_3, sx_fv11_0, sx_fv11_1, sx_fv11_2, sx_fv11_3, sx_fv11_4, sx_fv11_5, sx_fv11_6, sx_fv15_0, sx_fv15_1, sx_fv15_2, sx_fv15_3, sx_fv15_4, sx_fv15_5, sx_fv19_0, sx_fv19_1, sx_fv19_2, sx_fv19_3, sx_fv19_4, sx_fv19_5, sx_fv19_6, sx_fv24_0, sx_fv24_1, sx_fv24_2, sx_fv24_3, sx_fv24_4, sx_fv24_5, sx_fv24_6, sx_fv24_7, sx_fv24_8, sx_fv24_9, sx_fv24_10, sx_fv24_11, sx_fv24_12, sx_fv24_13, sx_fv24_14, sx_fv24_15, sx_fv24_16, sx_fv24_17, sx_fv24_18, sx_fvS_0, sx_fvS_1, sx_fvS_2, sx_fvS_3, sx_fvS_4, sx_fvS_5, sx_fvS_6, sx_fvS_7, sx_fvS_8, sx_fvS_9, sx_ar2, sx_ar4, sx_ar5, sx_ar6, sx_ar8, sx_ar10, sx_ar12, sx_ar13, sx_ar14, sx_ar16, sx_ar17, sx_ar18, sx_ar20, sx_ar21, sx_ar22, sx_ar23, sx_ar25, sx_ar26, sx_ar27, sx_ar28, sx_ar29, sx_ar30, sx_ar31, sx_ar32, sx_ar33, sx_ar34, sx_ar35, sx_ar36, sy_ob_S, sy_ob_W, sy_ar_W, sx_if0, sx_if1, sx_ie0, sx_em, Classical.not_not, sx_cle, sx_clt, sx_cge, sx_cgt, sx_ceq, Nat.reduceLT, Nat.reduceLeDiff, Nat.reduceAdd, Nat.reduceSub, Nat.reduceEqDiff, reduceIte, List.length_cons, List.length_nil, true_and, and_true, and_self, Bool.false_eq_true, true_implies, not_true_eq_false, not_false_eq_true, false_implies, implies_true, ne_eq, reduceCtorEq, Option.some.injEq, false_and, and_false, Int.reduceNeg, Int.reduceToNat, Int.reduceLT, Int.reduceLE, Int.reduceEq, Int.reduceAdd, Int.reduceSub, Int.reduceMul, or_false, false_or, or_true, true_or, forall_const, Int.toNat_natCast, Int.toNat_zero, Int.toNat_one, Nat.zero_add, or_self, Int.neg_eq_zero]
  refine ⟨hv, fun st' hf => ?_⟩
  rw [(c_rf_sums hf).1]
  exact h st' hf
def sp_5_leastSize (ns : Nat) : sy_Sp := sy_m0 7 fun st post => c_sv ns st ∧ ∀ st', c_rf ns st st' → post (some (.inl (true, xs false (c_ft ns st) (c_wh st) (st 3 4).toNat))) st'
def ct_5_leastSize (ns q : Nat) : Option (Bool × Nat × sy_Sp) := match q with
  | 39 => some (false, 1, sp_5_refresh ns)
  | _ => none
abbrev M_5_leastSize (ns : Nat) : sy_M := Mk_5_leastSize (ct_5_leastSize ns)
theorem cx_5_leastSize_39 {ns : Nat} {v1 : sy_V} {r : List sy_V} {s : sy_S} {f : List sy_V → sy_S → Prop} : sy_call false (ct_5_leastSize ns 39) (v1 :: r) s f = (sy_wd r ≤ 8 ∧ (sy_fit v1) ∧ sp_5_refresh ns [sy_kn v1] s (fun q t => f (q.toList ++ r) t)) := sx_call1
theorem mv_5_leastSize (ns : Nat) : sy_MV c_5_leastSize y_5_leastSize.cls (some .int) (M_5_leastSize ns) := ⟨tv_5_leastSize, ff_5_ok, ki_5_ok, kl_5_ok⟩
abbrev rm_5_leastSize : Room := { frames := 5, cells := 0, slots := 0, locals := 119 }
theorem co_5_leastSize (l : Launch) : sy_calls l rm_5_leastSize y_5_leastSize.cls c_5_leastSize 1 (fun ns => (M_5_leastSize ns).2.2.2.2.1) := by
  intro p e s m args below meth c rt wd ad ns A Q X hA q b n sp h
  replace h : ct_5_leastSize ns q = some (b, n, sp) := h
  unfold ct_5_leastSize at h
  split at h
  · cases h; exact sy_coV (ci := 5) X hA (mc_5_refresh l) ⟨iw_5_refresh.1, iw_5_refresh.2.1, iw_5_refresh.2.2, ⟨by decide, by decide⟩, rfl, rfl⟩ (sy_inx 474 (by decide +kernel) (by decide +kernel)) ii_5_refresh.1 ii_5_refresh.2 (rc_5_refresh ns) ⟨_, rfl, rfl⟩
  · cases h
theorem rc_5_leastSize (ns : Nat) (as : List sy_V) (st : sy_S) (post : sy_R) (h : sp_5_leastSize ns as st post) : ∃ b as', as = .inr (.inr (some (some b))) :: as' ∧ sy_ob b = some 5 := sy_m0_r rfl as st post h
theorem mc_5_leastSize (l : Launch) : sy_MC l y_5_leastSize c_5_leastSize 1 (some .int) rm_5_leastSize sp_5_leastSize := by
  refine sy_meth M_5_leastSize (by decide +kernel) mv_5_leastSize (co_5_leastSize l) ?_
  intro ns as st post WA h hok hrg ⟨hgo0, hin, hwk⟩
  have hgo : ∀ (n pc : Nat) (L k : List sy_V) (st : sy_S), rn_5_leastSize ns (ct_5_leastSize ns) post WA n pc L k st → WA pc L k st := fun n pc L k st h => hgo0 [] n pc L k st h
  replace h := sy_m0_e h hok
  obtain ⟨rfl, h⟩ := h
  refine ⟨Nat.le_of_ble_eq_true rfl, ?_⟩
  show WA 0 [.inr (.inr (some (some 7)))] [] st
  obtain ⟨hv, h⟩ := h
  refine hgo 100 _ _ _ _ ?_
  simp -implicitDefEqProofs only [↓rx_5_leastSize_0, ↓rx_5_leastSize_1, ↓rx_5_leastSize_4, ↓rx_5_leastSize_5, ↓rx_5_leastSize_8, ↓cx_5_leastSize_39, sp_5_refresh, ↓sx_s1, ↓sx_s2, ↓sx_s3, ↓sx_s4, ↓sx_s5, ↓sx_s6, ↓sx_m0, ↓sx_m1, ↓sx_m2, ↓sx_m3, ↓sx_m4, ↓sx_m5, ↓sx_m6, ↓sx_k0_, ↓sx_k1_, ↓sx_k2_, ↓sx_k3_, ↓sx_k4_, ↓sx_k5_, ↓sx_k6_, ↓sx_sLL, ↓sx_sAI, ↓sx_mLL, ↓sx_mIIL, ↓sx_mIILL, ↓sx_mIILLL, ↓sx_qS, ↓sx_qSI, ↓sx_qSIII, sx_rit, sx_rif, sx_rlt, sx_rlf, sx_b0, sx_b1, sx_o0, sx_o1i, sx_o1a, sx_o1l, sx_o2, sx_g0, sx_g1, sx_k1, sx_k2, sx_k3, sx_f1, sx_f2, sx_f3, sx_w0, sx_w1, sx_w2, sx_w3, sx_ts, sx_tn, sx_up, sx_nS1, sx_nS2, sx_nW1, sx_nW2, sx_SW, sx_WS, sy_nS_inj, sy_nW_inj, sx_ob0, sx_ob1, sx_ob2, sx_ob3, sx_ob4, sx_ob5, sx_ob6, sx_ob7, sx_ob8, sx_ob9, sx_ob10, sx_ob11, sx_ob12, sx_ob13, sx_ob14, sx_ob15, sx_ob16, sx_ob17, sx_ob18, sx_ob19, sx_ob20, sx_ob21, sx_ob22, sx_ob23, sx_ob24, sx_ob25, sx_ob26, sx_ob27, sx_ob28, sx_ob29, sx_ob30, sx_ob31, sx_ob32, sx_ob33, sx_ob34, sx_ob35, sx_ob36, sx_fv0_0, sx_fv0_1, sx_fv0_2, sx_fv0_3, sx_fv0_4, sx_fv0_5, sx_fv1_0, sx_fv1_1, sx_fv1_2, sx_fv3_0, sx_fv3_1, sx_fv3_2, sx_fv3_3, sx_fv3_4, sx_fv7_0, sx_fv7_1, sx_fv7_2, sx_fv7_3, sx_fv7_4, sx_fv7_5, sx_fv7_6, sx_fv7_7, sx_fv7_8, sx_fv7_9, sx_fv7_10, sx_fv9_0, sx_fv9_1, sx_fv9_2, sx_fv9_3, sx_fv11_0, sx_fv11_1, sx_fv11_2, sx_fv11_3, sx_fv11_4, sx_fv11_5, sx_fv11_6, sx_fv15_0, sx_fv15_1, sx_fv15_2, sx_fv15_3, sx_fv15_4, sx_fv15_5, sx_fv19_0, sx_fv19_1, sx_fv19_2, sx_fv19_3, sx_fv19_4, sx_fv19_5, sx_fv19_6, sx_fv24_0, sx_fv24_1, sx_fv24_2, sx_fv24_3, sx_fv24_4, sx_fv24_5, sx_fv24_6, sx_fv24_7, sx_fv24_8, sx_fv24_9, sx_fv24_10, sx_fv24_11, sx_fv24_12, sx_fv24_13, sx_fv24_14, sx_fv24_15, sx_fv24_16, sx_fv24_17, sx_fv24_18, sx_fvS_0, sx_fvS_1, sx_fvS_2, sx_fvS_3, sx_fvS_4, sx_fvS_5, sx_fvS_6, sx_fvS_7, sx_fvS_8, sx_fvS_9, sx_ar2, sx_ar4, sx_ar5, sx_ar6, sx_ar8, sx_ar10, sx_ar12, sx_ar13, sx_ar14, sx_ar16, sx_ar17, sx_ar18, sx_ar20, sx_ar21, sx_ar22, sx_ar23, sx_ar25, sx_ar26, sx_ar27, sx_ar28, sx_ar29, sx_ar30, sx_ar31, sx_ar32, sx_ar33, sx_ar34, sx_ar35, sx_ar36, sy_ob_S, sy_ob_W, sy_ar_W, sx_if0, sx_if1, sx_ie0, sx_em, Classical.not_not, sx_cle, sx_clt, sx_cge, sx_cgt, sx_ceq, Nat.reduceLT, Nat.reduceLeDiff, Nat.reduceAdd, Nat.reduceSub, Nat.reduceEqDiff, reduceIte, List.length_cons, List.length_nil, true_and, and_true, and_self, Bool.false_eq_true, true_implies, not_true_eq_false, not_false_eq_true, false_implies, implies_true, ne_eq, reduceCtorEq, Option.some.injEq, false_and, and_false, Int.reduceNeg, Int.reduceToNat, Int.reduceLT, Int.reduceLE, Int.reduceEq, Int.reduceAdd, Int.reduceSub, Int.reduceMul, or_false, false_or, or_true, true_or, forall_const, Int.toNat_natCast, Int.toNat_zero, Int.toNat_one, Nat.zero_add, or_self, Int.neg_eq_zero]
  refine ⟨hv, fun st' hf => ?_⟩
  rw [(c_rf_sums hf).2.1]
  exact h st' hf
def sp_5_greatestSize (ns : Nat) : sy_Sp := sy_m0 7 fun st post => c_sv ns st ∧ ∀ st', c_rf ns st st' → post (some (.inl (true, xs true (c_ft ns st) (c_wh st) (st 3 4).toNat))) st'
def ct_5_greatestSize (ns q : Nat) : Option (Bool × Nat × sy_Sp) := match q with
  | 39 => some (false, 1, sp_5_refresh ns)
  | _ => none
abbrev M_5_greatestSize (ns : Nat) : sy_M := Mk_5_greatestSize (ct_5_greatestSize ns)
theorem cx_5_greatestSize_39 {ns : Nat} {v1 : sy_V} {r : List sy_V} {s : sy_S} {f : List sy_V → sy_S → Prop} : sy_call false (ct_5_greatestSize ns 39) (v1 :: r) s f = (sy_wd r ≤ 8 ∧ (sy_fit v1) ∧ sp_5_refresh ns [sy_kn v1] s (fun q t => f (q.toList ++ r) t)) := sx_call1
theorem mv_5_greatestSize (ns : Nat) : sy_MV c_5_greatestSize y_5_greatestSize.cls (some .int) (M_5_greatestSize ns) := ⟨tv_5_greatestSize, ff_5_ok, ki_5_ok, kl_5_ok⟩
abbrev rm_5_greatestSize : Room := { frames := 5, cells := 0, slots := 0, locals := 119 }
theorem co_5_greatestSize (l : Launch) : sy_calls l rm_5_greatestSize y_5_greatestSize.cls c_5_greatestSize 1 (fun ns => (M_5_greatestSize ns).2.2.2.2.1) := by
  intro p e s m args below meth c rt wd ad ns A Q X hA q b n sp h
  replace h : ct_5_greatestSize ns q = some (b, n, sp) := h
  unfold ct_5_greatestSize at h
  split at h
  · cases h; exact sy_coV (ci := 5) X hA (mc_5_refresh l) ⟨iw_5_refresh.1, iw_5_refresh.2.1, iw_5_refresh.2.2, ⟨by decide, by decide⟩, rfl, rfl⟩ (sy_inx 474 (by decide +kernel) (by decide +kernel)) ii_5_refresh.1 ii_5_refresh.2 (rc_5_refresh ns) ⟨_, rfl, rfl⟩
  · cases h
theorem rc_5_greatestSize (ns : Nat) (as : List sy_V) (st : sy_S) (post : sy_R) (h : sp_5_greatestSize ns as st post) : ∃ b as', as = .inr (.inr (some (some b))) :: as' ∧ sy_ob b = some 5 := sy_m0_r rfl as st post h
theorem mc_5_greatestSize (l : Launch) : sy_MC l y_5_greatestSize c_5_greatestSize 1 (some .int) rm_5_greatestSize sp_5_greatestSize := by
  refine sy_meth M_5_greatestSize (by decide +kernel) mv_5_greatestSize (co_5_greatestSize l) ?_
  intro ns as st post WA h hok hrg ⟨hgo0, hin, hwk⟩
  have hgo : ∀ (n pc : Nat) (L k : List sy_V) (st : sy_S), rn_5_greatestSize ns (ct_5_greatestSize ns) post WA n pc L k st → WA pc L k st := fun n pc L k st h => hgo0 [] n pc L k st h
  replace h := sy_m0_e h hok
  obtain ⟨rfl, h⟩ := h
  refine ⟨Nat.le_of_ble_eq_true rfl, ?_⟩
  show WA 0 [.inr (.inr (some (some 7)))] [] st
  obtain ⟨hv, h⟩ := h
  refine hgo 100 _ _ _ _ ?_
  simp -implicitDefEqProofs only [↓rx_5_greatestSize_0, ↓rx_5_greatestSize_1, ↓rx_5_greatestSize_4, ↓rx_5_greatestSize_5, ↓rx_5_greatestSize_8, ↓cx_5_greatestSize_39, sp_5_refresh, ↓sx_s1, ↓sx_s2, ↓sx_s3, ↓sx_s4, ↓sx_s5, ↓sx_s6, ↓sx_m0, ↓sx_m1, ↓sx_m2, ↓sx_m3, ↓sx_m4, ↓sx_m5, ↓sx_m6, ↓sx_k0_, ↓sx_k1_, ↓sx_k2_, ↓sx_k3_, ↓sx_k4_, ↓sx_k5_, ↓sx_k6_, ↓sx_sLL, ↓sx_sAI, ↓sx_mLL, ↓sx_mIIL, ↓sx_mIILL, ↓sx_mIILLL, ↓sx_qS, ↓sx_qSI, ↓sx_qSIII, sx_rit, sx_rif, sx_rlt, sx_rlf, sx_b0, sx_b1, sx_o0, sx_o1i, sx_o1a, sx_o1l, sx_o2, sx_g0, sx_g1, sx_k1, sx_k2, sx_k3, sx_f1, sx_f2, sx_f3, sx_w0, sx_w1, sx_w2, sx_w3, sx_ts, sx_tn, sx_up, sx_nS1, sx_nS2, sx_nW1, sx_nW2, sx_SW, sx_WS, sy_nS_inj, sy_nW_inj, sx_ob0, sx_ob1, sx_ob2, sx_ob3, sx_ob4, sx_ob5, sx_ob6, sx_ob7, sx_ob8, sx_ob9, sx_ob10, sx_ob11, sx_ob12, sx_ob13, sx_ob14, sx_ob15, sx_ob16, sx_ob17, sx_ob18, sx_ob19, sx_ob20, sx_ob21, sx_ob22, sx_ob23, sx_ob24, sx_ob25, sx_ob26, sx_ob27, sx_ob28, sx_ob29, sx_ob30, sx_ob31, sx_ob32, sx_ob33, sx_ob34, sx_ob35, sx_ob36, sx_fv0_0, sx_fv0_1, sx_fv0_2, sx_fv0_3, sx_fv0_4, sx_fv0_5, sx_fv1_0, sx_fv1_1, sx_fv1_2, sx_fv3_0, sx_fv3_1, sx_fv3_2, sx_fv3_3, sx_fv3_4, sx_fv7_0, sx_fv7_1, sx_fv7_2, sx_fv7_3, sx_fv7_4, sx_fv7_5, sx_fv7_6, sx_fv7_7, sx_fv7_8, sx_fv7_9, sx_fv7_10, sx_fv9_0, sx_fv9_1, sx_fv9_2, sx_fv9_3, sx_fv11_0, sx_fv11_1, sx_fv11_2, sx_fv11_3, sx_fv11_4, sx_fv11_5, sx_fv11_6, sx_fv15_0, sx_fv15_1, sx_fv15_2, sx_fv15_3, sx_fv15_4, sx_fv15_5, sx_fv19_0, sx_fv19_1, sx_fv19_2, sx_fv19_3, sx_fv19_4, sx_fv19_5, sx_fv19_6, sx_fv24_0, sx_fv24_1, sx_fv24_2, sx_fv24_3, sx_fv24_4, sx_fv24_5, sx_fv24_6, sx_fv24_7, sx_fv24_8, sx_fv24_9, sx_fv24_10, sx_fv24_11, sx_fv24_12, sx_fv24_13, sx_fv24_14, sx_fv24_15, sx_fv24_16, sx_fv24_17, sx_fv24_18, sx_fvS_0, sx_fvS_1, sx_fvS_2, sx_fvS_3, sx_fvS_4, sx_fvS_5, sx_fvS_6, sx_fvS_7, sx_fvS_8, sx_fvS_9, sx_ar2, sx_ar4, sx_ar5, sx_ar6, sx_ar8, sx_ar10, sx_ar12, sx_ar13, sx_ar14, sx_ar16, sx_ar17, sx_ar18, sx_ar20, sx_ar21, sx_ar22, sx_ar23, sx_ar25, sx_ar26, sx_ar27, sx_ar28, sx_ar29, sx_ar30, sx_ar31, sx_ar32, sx_ar33, sx_ar34, sx_ar35, sx_ar36, sy_ob_S, sy_ob_W, sy_ar_W, sx_if0, sx_if1, sx_ie0, sx_em, Classical.not_not, sx_cle, sx_clt, sx_cge, sx_cgt, sx_ceq, Nat.reduceLT, Nat.reduceLeDiff, Nat.reduceAdd, Nat.reduceSub, Nat.reduceEqDiff, reduceIte, List.length_cons, List.length_nil, true_and, and_true, and_self, Bool.false_eq_true, true_implies, not_true_eq_false, not_false_eq_true, false_implies, implies_true, ne_eq, reduceCtorEq, Option.some.injEq, false_and, and_false, Int.reduceNeg, Int.reduceToNat, Int.reduceLT, Int.reduceLE, Int.reduceEq, Int.reduceAdd, Int.reduceSub, Int.reduceMul, or_false, false_or, or_true, true_or, forall_const, Int.toNat_natCast, Int.toNat_zero, Int.toNat_one, Nat.zero_add, or_self, Int.neg_eq_zero]
  refine ⟨hv, fun st' hf => ?_⟩
  rw [(c_rf_sums hf).2.2.1]
  exact h st' hf
def sp_5_fewestFalse (ns : Nat) : sy_Sp := sy_m0 7 fun st post => c_sv ns st ∧ ∀ st', c_rf ns st st' → post (some (.inl (true, c_wr ns st (c_best ns st)))) st'
def ct_5_fewestFalse (ns q : Nat) : Option (Bool × Nat × sy_Sp) := match q with
  | 39 => some (false, 1, sp_5_refresh ns)
  | _ => none
abbrev M_5_fewestFalse (ns : Nat) : sy_M := Mk_5_fewestFalse (ct_5_fewestFalse ns)
theorem cx_5_fewestFalse_39 {ns : Nat} {v1 : sy_V} {r : List sy_V} {s : sy_S} {f : List sy_V → sy_S → Prop} : sy_call false (ct_5_fewestFalse ns 39) (v1 :: r) s f = (sy_wd r ≤ 8 ∧ (sy_fit v1) ∧ sp_5_refresh ns [sy_kn v1] s (fun q t => f (q.toList ++ r) t)) := sx_call1
theorem mv_5_fewestFalse (ns : Nat) : sy_MV c_5_fewestFalse y_5_fewestFalse.cls (some .int) (M_5_fewestFalse ns) := ⟨tv_5_fewestFalse, ff_5_ok, ki_5_ok, kl_5_ok⟩
abbrev rm_5_fewestFalse : Room := { frames := 5, cells := 0, slots := 0, locals := 119 }
theorem co_5_fewestFalse (l : Launch) : sy_calls l rm_5_fewestFalse y_5_fewestFalse.cls c_5_fewestFalse 1 (fun ns => (M_5_fewestFalse ns).2.2.2.2.1) := by
  intro p e s m args below meth c rt wd ad ns A Q X hA q b n sp h
  replace h : ct_5_fewestFalse ns q = some (b, n, sp) := h
  unfold ct_5_fewestFalse at h
  split at h
  · cases h; exact sy_coV (ci := 5) X hA (mc_5_refresh l) ⟨iw_5_refresh.1, iw_5_refresh.2.1, iw_5_refresh.2.2, ⟨by decide, by decide⟩, rfl, rfl⟩ (sy_inx 474 (by decide +kernel) (by decide +kernel)) ii_5_refresh.1 ii_5_refresh.2 (rc_5_refresh ns) ⟨_, rfl, rfl⟩
  · cases h
theorem rc_5_fewestFalse (ns : Nat) (as : List sy_V) (st : sy_S) (post : sy_R) (h : sp_5_fewestFalse ns as st post) : ∃ b as', as = .inr (.inr (some (some b))) :: as' ∧ sy_ob b = some 5 := sy_m0_r rfl as st post h
theorem mc_5_fewestFalse (l : Launch) : sy_MC l y_5_fewestFalse c_5_fewestFalse 1 (some .int) rm_5_fewestFalse sp_5_fewestFalse := by
  refine sy_meth M_5_fewestFalse (by decide +kernel) mv_5_fewestFalse (co_5_fewestFalse l) ?_
  intro ns as st post WA h hok hrg ⟨hgo0, hin, hwk⟩
  have hgo : ∀ (n pc : Nat) (L k : List sy_V) (st : sy_S), rn_5_fewestFalse ns (ct_5_fewestFalse ns) post WA n pc L k st → WA pc L k st := fun n pc L k st h => hgo0 [] n pc L k st h
  replace h := sy_m0_e h hok
  obtain ⟨rfl, h⟩ := h
  refine ⟨Nat.le_of_ble_eq_true rfl, ?_⟩
  show WA 0 [.inr (.inr (some (some 7)))] [] st
  obtain ⟨hv, h⟩ := h
  refine hgo 100 _ _ _ _ ?_
  simp -implicitDefEqProofs only [↓rx_5_fewestFalse_0, ↓rx_5_fewestFalse_1, ↓rx_5_fewestFalse_4, ↓rx_5_fewestFalse_5, ↓rx_5_fewestFalse_8, ↓cx_5_fewestFalse_39, sp_5_refresh, ↓sx_s1, ↓sx_s2, ↓sx_s3, ↓sx_s4, ↓sx_s5, ↓sx_s6, ↓sx_m0, ↓sx_m1, ↓sx_m2, ↓sx_m3, ↓sx_m4, ↓sx_m5, ↓sx_m6, ↓sx_k0_, ↓sx_k1_, ↓sx_k2_, ↓sx_k3_, ↓sx_k4_, ↓sx_k5_, ↓sx_k6_, ↓sx_sLL, ↓sx_sAI, ↓sx_mLL, ↓sx_mIIL, ↓sx_mIILL, ↓sx_mIILLL, ↓sx_qS, ↓sx_qSI, ↓sx_qSIII, sx_rit, sx_rif, sx_rlt, sx_rlf, sx_b0, sx_b1, sx_o0, sx_o1i, sx_o1a, sx_o1l, sx_o2, sx_g0, sx_g1, sx_k1, sx_k2, sx_k3, sx_f1, sx_f2, sx_f3, sx_w0, sx_w1, sx_w2, sx_w3, sx_ts, sx_tn, sx_up, sx_nS1, sx_nS2, sx_nW1, sx_nW2, sx_SW, sx_WS, sy_nS_inj, sy_nW_inj, sx_ob0, sx_ob1, sx_ob2, sx_ob3, sx_ob4, sx_ob5, sx_ob6, sx_ob7, sx_ob8, sx_ob9, sx_ob10, sx_ob11, sx_ob12, sx_ob13, sx_ob14, sx_ob15, sx_ob16, sx_ob17, sx_ob18, sx_ob19, sx_ob20, sx_ob21, sx_ob22, sx_ob23, sx_ob24, sx_ob25, sx_ob26, sx_ob27, sx_ob28, sx_ob29, sx_ob30, sx_ob31, sx_ob32, sx_ob33, sx_ob34, sx_ob35, sx_ob36, sx_fv0_0, sx_fv0_1, sx_fv0_2, sx_fv0_3, sx_fv0_4, sx_fv0_5, sx_fv1_0, sx_fv1_1, sx_fv1_2, sx_fv3_0, sx_fv3_1, sx_fv3_2, sx_fv3_3, sx_fv3_4, sx_fv7_0, sx_fv7_1, sx_fv7_2, sx_fv7_3, sx_fv7_4, sx_fv7_5, sx_fv7_6, sx_fv7_7, sx_fv7_8, sx_fv7_9, sx_fv7_10, sx_fv9_0, sx_fv9_1, sx_fv9_2, sx_fv9_3, sx_fv11_0, sx_fv11_1, sx_fv11_2, sx_fv11_3, sx_fv11_4, sx_fv11_5, sx_fv11_6, sx_fv15_0, sx_fv15_1, sx_fv15_2, sx_fv15_3, sx_fv15_4, sx_fv15_5, sx_fv19_0, sx_fv19_1, sx_fv19_2, sx_fv19_3, sx_fv19_4, sx_fv19_5, sx_fv19_6, sx_fv24_0, sx_fv24_1, sx_fv24_2, sx_fv24_3, sx_fv24_4, sx_fv24_5, sx_fv24_6, sx_fv24_7, sx_fv24_8, sx_fv24_9, sx_fv24_10, sx_fv24_11, sx_fv24_12, sx_fv24_13, sx_fv24_14, sx_fv24_15, sx_fv24_16, sx_fv24_17, sx_fv24_18, sx_fvS_0, sx_fvS_1, sx_fvS_2, sx_fvS_3, sx_fvS_4, sx_fvS_5, sx_fvS_6, sx_fvS_7, sx_fvS_8, sx_fvS_9, sx_ar2, sx_ar4, sx_ar5, sx_ar6, sx_ar8, sx_ar10, sx_ar12, sx_ar13, sx_ar14, sx_ar16, sx_ar17, sx_ar18, sx_ar20, sx_ar21, sx_ar22, sx_ar23, sx_ar25, sx_ar26, sx_ar27, sx_ar28, sx_ar29, sx_ar30, sx_ar31, sx_ar32, sx_ar33, sx_ar34, sx_ar35, sx_ar36, sy_ob_S, sy_ob_W, sy_ar_W, sx_if0, sx_if1, sx_ie0, sx_em, Classical.not_not, sx_cle, sx_clt, sx_cge, sx_cgt, sx_ceq, Nat.reduceLT, Nat.reduceLeDiff, Nat.reduceAdd, Nat.reduceSub, Nat.reduceEqDiff, reduceIte, List.length_cons, List.length_nil, true_and, and_true, and_self, Bool.false_eq_true, true_implies, not_true_eq_false, not_false_eq_true, false_implies, implies_true, ne_eq, reduceCtorEq, Option.some.injEq, false_and, and_false, Int.reduceNeg, Int.reduceToNat, Int.reduceLT, Int.reduceLE, Int.reduceEq, Int.reduceAdd, Int.reduceSub, Int.reduceMul, or_false, false_or, or_true, true_or, forall_const, Int.toNat_natCast, Int.toNat_zero, Int.toNat_one, Nat.zero_add, or_self, Int.neg_eq_zero]
  refine ⟨hv, fun st' hf => ?_⟩
  rw [(c_rf_sums hf).2.2.2.1]
  exact h st' hf
def sp_5_figureOfFewest (ns : Nat) : sy_Sp := sy_m0 7 fun st post => c_sv ns st ∧ ∀ st', c_rf ns st st' → post (some (.inl (true, (c_best ns st : Int)))) st'
def ct_5_figureOfFewest (ns q : Nat) : Option (Bool × Nat × sy_Sp) := match q with
  | 39 => some (false, 1, sp_5_refresh ns)
  | _ => none
abbrev M_5_figureOfFewest (ns : Nat) : sy_M := Mk_5_figureOfFewest (ct_5_figureOfFewest ns)
theorem cx_5_figureOfFewest_39 {ns : Nat} {v1 : sy_V} {r : List sy_V} {s : sy_S} {f : List sy_V → sy_S → Prop} : sy_call false (ct_5_figureOfFewest ns 39) (v1 :: r) s f = (sy_wd r ≤ 8 ∧ (sy_fit v1) ∧ sp_5_refresh ns [sy_kn v1] s (fun q t => f (q.toList ++ r) t)) := sx_call1
theorem mv_5_figureOfFewest (ns : Nat) : sy_MV c_5_figureOfFewest y_5_figureOfFewest.cls (some .int) (M_5_figureOfFewest ns) := ⟨tv_5_figureOfFewest, ff_5_ok, ki_5_ok, kl_5_ok⟩
abbrev rm_5_figureOfFewest : Room := { frames := 5, cells := 0, slots := 0, locals := 119 }
theorem co_5_figureOfFewest (l : Launch) : sy_calls l rm_5_figureOfFewest y_5_figureOfFewest.cls c_5_figureOfFewest 1 (fun ns => (M_5_figureOfFewest ns).2.2.2.2.1) := by
  intro p e s m args below meth c rt wd ad ns A Q X hA q b n sp h
  replace h : ct_5_figureOfFewest ns q = some (b, n, sp) := h
  unfold ct_5_figureOfFewest at h
  split at h
  · cases h; exact sy_coV (ci := 5) X hA (mc_5_refresh l) ⟨iw_5_refresh.1, iw_5_refresh.2.1, iw_5_refresh.2.2, ⟨by decide, by decide⟩, rfl, rfl⟩ (sy_inx 474 (by decide +kernel) (by decide +kernel)) ii_5_refresh.1 ii_5_refresh.2 (rc_5_refresh ns) ⟨_, rfl, rfl⟩
  · cases h
theorem rc_5_figureOfFewest (ns : Nat) (as : List sy_V) (st : sy_S) (post : sy_R) (h : sp_5_figureOfFewest ns as st post) : ∃ b as', as = .inr (.inr (some (some b))) :: as' ∧ sy_ob b = some 5 := sy_m0_r rfl as st post h
theorem mc_5_figureOfFewest (l : Launch) : sy_MC l y_5_figureOfFewest c_5_figureOfFewest 1 (some .int) rm_5_figureOfFewest sp_5_figureOfFewest := by
  refine sy_meth M_5_figureOfFewest (by decide +kernel) mv_5_figureOfFewest (co_5_figureOfFewest l) ?_
  intro ns as st post WA h hok hrg ⟨hgo0, hin, hwk⟩
  have hgo : ∀ (n pc : Nat) (L k : List sy_V) (st : sy_S), rn_5_figureOfFewest ns (ct_5_figureOfFewest ns) post WA n pc L k st → WA pc L k st := fun n pc L k st h => hgo0 [] n pc L k st h
  replace h := sy_m0_e h hok
  obtain ⟨rfl, h⟩ := h
  refine ⟨Nat.le_of_ble_eq_true rfl, ?_⟩
  show WA 0 [.inr (.inr (some (some 7)))] [] st
  obtain ⟨hv, h⟩ := h
  refine hgo 100 _ _ _ _ ?_
  simp -implicitDefEqProofs only [↓rx_5_figureOfFewest_0, ↓rx_5_figureOfFewest_1, ↓rx_5_figureOfFewest_4, ↓rx_5_figureOfFewest_5, ↓rx_5_figureOfFewest_8, ↓cx_5_figureOfFewest_39, sp_5_refresh, ↓sx_s1, ↓sx_s2, ↓sx_s3, ↓sx_s4, ↓sx_s5, ↓sx_s6, ↓sx_m0, ↓sx_m1, ↓sx_m2, ↓sx_m3, ↓sx_m4, ↓sx_m5, ↓sx_m6, ↓sx_k0_, ↓sx_k1_, ↓sx_k2_, ↓sx_k3_, ↓sx_k4_, ↓sx_k5_, ↓sx_k6_, ↓sx_sLL, ↓sx_sAI, ↓sx_mLL, ↓sx_mIIL, ↓sx_mIILL, ↓sx_mIILLL, ↓sx_qS, ↓sx_qSI, ↓sx_qSIII, sx_rit, sx_rif, sx_rlt, sx_rlf, sx_b0, sx_b1, sx_o0, sx_o1i, sx_o1a, sx_o1l, sx_o2, sx_g0, sx_g1, sx_k1, sx_k2, sx_k3, sx_f1, sx_f2, sx_f3, sx_w0, sx_w1, sx_w2, sx_w3, sx_ts, sx_tn, sx_up, sx_nS1, sx_nS2, sx_nW1, sx_nW2, sx_SW, sx_WS, sy_nS_inj, sy_nW_inj, sx_ob0, sx_ob1, sx_ob2, sx_ob3, sx_ob4, sx_ob5, sx_ob6, sx_ob7, sx_ob8, sx_ob9, sx_ob10, sx_ob11, sx_ob12, sx_ob13, sx_ob14, sx_ob15, sx_ob16, sx_ob17, sx_ob18, sx_ob19, sx_ob20, sx_ob21, sx_ob22, sx_ob23, sx_ob24, sx_ob25, sx_ob26, sx_ob27, sx_ob28, sx_ob29, sx_ob30, sx_ob31, sx_ob32, sx_ob33, sx_ob34, sx_ob35, sx_ob36, sx_fv0_0, sx_fv0_1, sx_fv0_2, sx_fv0_3, sx_fv0_4, sx_fv0_5, sx_fv1_0, sx_fv1_1, sx_fv1_2, sx_fv3_0, sx_fv3_1, sx_fv3_2, sx_fv3_3, sx_fv3_4, sx_fv7_0, sx_fv7_1, sx_fv7_2, sx_fv7_3, sx_fv7_4, sx_fv7_5, sx_fv7_6, sx_fv7_7, sx_fv7_8, sx_fv7_9, sx_fv7_10, sx_fv9_0, sx_fv9_1, sx_fv9_2, sx_fv9_3, sx_fv11_0, sx_fv11_1, sx_fv11_2, sx_fv11_3, sx_fv11_4, sx_fv11_5, sx_fv11_6, sx_fv15_0, sx_fv15_1, sx_fv15_2, sx_fv15_3, sx_fv15_4, sx_fv15_5, sx_fv19_0, sx_fv19_1, sx_fv19_2, sx_fv19_3, sx_fv19_4, sx_fv19_5, sx_fv19_6, sx_fv24_0, sx_fv24_1, sx_fv24_2, sx_fv24_3, sx_fv24_4, sx_fv24_5, sx_fv24_6, sx_fv24_7, sx_fv24_8, sx_fv24_9, sx_fv24_10, sx_fv24_11, sx_fv24_12, sx_fv24_13, sx_fv24_14, sx_fv24_15, sx_fv24_16, sx_fv24_17, sx_fv24_18, sx_fvS_0, sx_fvS_1, sx_fvS_2, sx_fvS_3, sx_fvS_4, sx_fvS_5, sx_fvS_6, sx_fvS_7, sx_fvS_8, sx_fvS_9, sx_ar2, sx_ar4, sx_ar5, sx_ar6, sx_ar8, sx_ar10, sx_ar12, sx_ar13, sx_ar14, sx_ar16, sx_ar17, sx_ar18, sx_ar20, sx_ar21, sx_ar22, sx_ar23, sx_ar25, sx_ar26, sx_ar27, sx_ar28, sx_ar29, sx_ar30, sx_ar31, sx_ar32, sx_ar33, sx_ar34, sx_ar35, sx_ar36, sy_ob_S, sy_ob_W, sy_ar_W, sx_if0, sx_if1, sx_ie0, sx_em, Classical.not_not, sx_cle, sx_clt, sx_cge, sx_cgt, sx_ceq, Nat.reduceLT, Nat.reduceLeDiff, Nat.reduceAdd, Nat.reduceSub, Nat.reduceEqDiff, reduceIte, List.length_cons, List.length_nil, true_and, and_true, and_self, Bool.false_eq_true, true_implies, not_true_eq_false, not_false_eq_true, false_implies, implies_true, ne_eq, reduceCtorEq, Option.some.injEq, false_and, and_false, Int.reduceNeg, Int.reduceToNat, Int.reduceLT, Int.reduceLE, Int.reduceEq, Int.reduceAdd, Int.reduceSub, Int.reduceMul, or_false, false_or, or_true, true_or, forall_const, Int.toNat_natCast, Int.toNat_zero, Int.toNat_one, Nat.zero_add, or_self, Int.neg_eq_zero]
  refine ⟨hv, fun st' hf => ?_⟩
  rw [(c_rf_sums hf).2.2.2.2]
  exact h st' hf
def sp_5_isAgainst (ns : Nat) : sy_Sp := sy_m2 7 fun f i st post => (c_sv ns st ∧ (0 ≤ f ∧ f < st 3 4) ∧ (0 ≤ i ∧ i < ns)) ∧ ∀ st', c_rf ns st st' → post (some (.inl (true, if c_ag st f i.toNat = true then 0 else 1))) st'
def ct_5_isAgainst (ns q : Nat) : Option (Bool × Nat × sy_Sp) := match q with
  | 39 => some (false, 1, sp_5_refresh ns)
  | _ => none
abbrev M_5_isAgainst (ns : Nat) : sy_M := Mk_5_isAgainst (ct_5_isAgainst ns)
theorem cx_5_isAgainst_39 {ns : Nat} {v1 : sy_V} {r : List sy_V} {s : sy_S} {f : List sy_V → sy_S → Prop} : sy_call false (ct_5_isAgainst ns 39) (v1 :: r) s f = (sy_wd r ≤ 8 ∧ (sy_fit v1) ∧ sp_5_refresh ns [sy_kn v1] s (fun q t => f (q.toList ++ r) t)) := sx_call1
theorem mv_5_isAgainst (ns : Nat) : sy_MV c_5_isAgainst y_5_isAgainst.cls (some .boolean) (M_5_isAgainst ns) := ⟨tv_5_isAgainst, ff_5_ok, ki_5_ok, kl_5_ok⟩
abbrev rm_5_isAgainst : Room := { frames := 5, cells := 0, slots := 0, locals := 119 }
theorem co_5_isAgainst (l : Launch) : sy_calls l rm_5_isAgainst y_5_isAgainst.cls c_5_isAgainst 3 (fun ns => (M_5_isAgainst ns).2.2.2.2.1) := by
  intro p e s m args below meth c rt wd ad ns A Q X hA q b n sp h
  replace h : ct_5_isAgainst ns q = some (b, n, sp) := h
  unfold ct_5_isAgainst at h
  split at h
  · cases h; exact sy_coV (ci := 5) X hA (mc_5_refresh l) ⟨iw_5_refresh.1, iw_5_refresh.2.1, iw_5_refresh.2.2, ⟨by decide, by decide⟩, rfl, rfl⟩ (sy_inx 474 (by decide +kernel) (by decide +kernel)) ii_5_refresh.1 ii_5_refresh.2 (rc_5_refresh ns) ⟨_, rfl, rfl⟩
  · cases h
theorem rc_5_isAgainst (ns : Nat) (as : List sy_V) (st : sy_S) (post : sy_R) (h : sp_5_isAgainst ns as st post) : ∃ b as', as = .inr (.inr (some (some b))) :: as' ∧ sy_ob b = some 5 := sy_m2_r rfl as st post h
theorem mc_5_isAgainst (l : Launch) : sy_MC l y_5_isAgainst c_5_isAgainst 3 (some .boolean) rm_5_isAgainst sp_5_isAgainst := by
  refine sy_meth M_5_isAgainst (by decide +kernel) mv_5_isAgainst (co_5_isAgainst l) ?_
  intro ns as st post WA h hok hrg ⟨hgo0, hin, hwk⟩
  have hgo : ∀ (n pc : Nat) (L k : List sy_V) (st : sy_S), rn_5_isAgainst ns (ct_5_isAgainst ns) post WA n pc L k st → WA pc L k st := fun n pc L k st h => hgo0 [] n pc L k st h
  replace h := sy_m2_e h hok
  obtain ⟨f, i, rfl, hf, hi, h⟩ := h
  refine ⟨Nat.le_of_ble_eq_true rfl, ?_⟩
  show WA 0 [.inr (.inr (some (some 7))), .inl (true, f), .inl (true, i)] [] st
  obtain ⟨⟨hv, hf0, hi0⟩, h⟩ := h
  have hs := hv.1.1
  unfold c_site at hs
  have hT := (c_tot_r hv.1.2.2.1).1
  refine hgo 100 _ _ _ _ ?_
  simp -implicitDefEqProofs only [↓rx_5_isAgainst_0, ↓rx_5_isAgainst_1, ↓rx_5_isAgainst_4, ↓rx_5_isAgainst_5, ↓rx_5_isAgainst_8, ↓rx_5_isAgainst_9, ↓rx_5_isAgainst_12, ↓rx_5_isAgainst_15, ↓rx_5_isAgainst_16, ↓rx_5_isAgainst_19, ↓rx_5_isAgainst_20, ↓rx_5_isAgainst_21, ↓rx_5_isAgainst_22, ↓rx_5_isAgainst_23, ↓rx_5_isAgainst_24, ↓rx_5_isAgainst_25, ↓rx_5_isAgainst_26, ↓rx_5_isAgainst_29, ↓rx_5_isAgainst_30, ↓rx_5_isAgainst_33, ↓rx_5_isAgainst_34, ↓cx_5_isAgainst_39, sp_5_refresh, ↓sx_s1, ↓sx_s2, ↓sx_s3, ↓sx_s4, ↓sx_s5, ↓sx_s6, ↓sx_m0, ↓sx_m1, ↓sx_m2, ↓sx_m3, ↓sx_m4, ↓sx_m5, ↓sx_m6, ↓sx_k0_, ↓sx_k1_, ↓sx_k2_, ↓sx_k3_, ↓sx_k4_, ↓sx_k5_, ↓sx_k6_, ↓sx_sLL, ↓sx_sAI, ↓sx_mLL, ↓sx_mIIL, ↓sx_mIILL, ↓sx_mIILLL, ↓sx_qS, ↓sx_qSI, ↓sx_qSIII, sx_rit, sx_rif, sx_rlt, sx_rlf, sx_b0, sx_b1, sx_o0, sx_o1i, sx_o1a, sx_o1l, sx_o2, sx_g0, sx_g1, sx_k1, sx_k2, sx_k3, sx_f1, sx_f2, sx_f3, sx_w0, sx_w1, sx_w2, sx_w3, sx_ts, sx_tn, sx_up, sx_nS1, sx_nS2, sx_nW1, sx_nW2, sx_SW, sx_WS, sy_nS_inj, sy_nW_inj, sx_ob0, sx_ob1, sx_ob2, sx_ob3, sx_ob4, sx_ob5, sx_ob6, sx_ob7, sx_ob8, sx_ob9, sx_ob10, sx_ob11, sx_ob12, sx_ob13, sx_ob14, sx_ob15, sx_ob16, sx_ob17, sx_ob18, sx_ob19, sx_ob20, sx_ob21, sx_ob22, sx_ob23, sx_ob24, sx_ob25, sx_ob26, sx_ob27, sx_ob28, sx_ob29, sx_ob30, sx_ob31, sx_ob32, sx_ob33, sx_ob34, sx_ob35, sx_ob36, sx_fv0_0, sx_fv0_1, sx_fv0_2, sx_fv0_3, sx_fv0_4, sx_fv0_5, sx_fv1_0, sx_fv1_1, sx_fv1_2, sx_fv3_0, sx_fv3_1, sx_fv3_2, sx_fv3_3, sx_fv3_4, sx_fv7_0, sx_fv7_1, sx_fv7_2, sx_fv7_3, sx_fv7_4, sx_fv7_5, sx_fv7_6, sx_fv7_7, sx_fv7_8, sx_fv7_9, sx_fv7_10, sx_fv9_0, sx_fv9_1, sx_fv9_2, sx_fv9_3, sx_fv11_0, sx_fv11_1, sx_fv11_2, sx_fv11_3, sx_fv11_4, sx_fv11_5, sx_fv11_6, sx_fv15_0, sx_fv15_1, sx_fv15_2, sx_fv15_3, sx_fv15_4, sx_fv15_5, sx_fv19_0, sx_fv19_1, sx_fv19_2, sx_fv19_3, sx_fv19_4, sx_fv19_5, sx_fv19_6, sx_fv24_0, sx_fv24_1, sx_fv24_2, sx_fv24_3, sx_fv24_4, sx_fv24_5, sx_fv24_6, sx_fv24_7, sx_fv24_8, sx_fv24_9, sx_fv24_10, sx_fv24_11, sx_fv24_12, sx_fv24_13, sx_fv24_14, sx_fv24_15, sx_fv24_16, sx_fv24_17, sx_fv24_18, sx_fvS_0, sx_fvS_1, sx_fvS_2, sx_fvS_3, sx_fvS_4, sx_fvS_5, sx_fvS_6, sx_fvS_7, sx_fvS_8, sx_fvS_9, sx_ar2, sx_ar4, sx_ar5, sx_ar6, sx_ar8, sx_ar10, sx_ar12, sx_ar13, sx_ar14, sx_ar16, sx_ar17, sx_ar18, sx_ar20, sx_ar21, sx_ar22, sx_ar23, sx_ar25, sx_ar26, sx_ar27, sx_ar28, sx_ar29, sx_ar30, sx_ar31, sx_ar32, sx_ar33, sx_ar34, sx_ar35, sx_ar36, sy_ob_S, sy_ob_W, sy_ar_W, sx_if0, sx_if1, sx_ie0, sx_em, Classical.not_not, sx_cle, sx_clt, sx_cge, sx_cgt, sx_ceq, Nat.reduceLT, Nat.reduceLeDiff, Nat.reduceAdd, Nat.reduceSub, Nat.reduceEqDiff, reduceIte, List.length_cons, List.length_nil, true_and, and_true, and_self, Bool.false_eq_true, true_implies, not_true_eq_false, not_false_eq_true, false_implies, implies_true, ne_eq, reduceCtorEq, Option.some.injEq, false_and, and_false, Int.reduceNeg, Int.reduceToNat, Int.reduceLT, Int.reduceLE, Int.reduceEq, Int.reduceAdd, Int.reduceSub, Int.reduceMul, or_false, false_or, or_true, true_or, forall_const, Int.toNat_natCast, Int.toNat_zero, Int.toNat_one, Nat.zero_add, or_self, Int.neg_eq_zero]
  refine ⟨hv, fun st' hf1 => ?_⟩
  have hr := hf1.2.2.2.2.1 f.toNat i.toNat
  rw [c_same_low hf1.1 (a := 3) (by decide) (by decide) (by decide)] at hr
  have hr2 := hr (by omega) (by omega)
  have hask := x_ask (z := st' 8 f.toNat) (i := i.toNat) (by omega)
  rw [Int.toNat_of_nonneg hi0.1] at hask
  rw [Int.toNat_of_nonneg hf0.1, c_same_ag hf1.1] at hr2
  have h1 := h st' hf1
  rw [hask]
  refine ⟨fun c => by omega, fun _ => ⟨fun c => by omega, fun _ => ⟨by omega, fun c => ?_, fun c => ?_⟩⟩⟩
  · rw [if_pos (by simpa [hr2] using c)] at h1
    exact h1
  · rw [if_neg (by simpa [hr2] using c)] at h1
    exact h1
theorem xc_mono (p : Nat → Bool) (f : Nat) : ∀ d, xc p f ≤ xc p (f + d)
  | 0 => Int.le_refl _
  | d + 1 => by
    have := xc_mono p f d
    rw [← Nat.add_assoc]
    simp only [xc]
    split <;> omega
theorem xk_none {p : Nat → Bool} {k : Int} : ∀ d f, k < xc p f ∨ xc p (f + d) ≤ k → xk p k d f = -1
  | 0, _, _ => rfl
  | d + 1, f, h => by
    have h1 := xc_mono p f (d + 1)
    have h3 := xc_mono p (f + 1) d
    have e : f + 1 + d = f + (d + 1) := by omega
    simp only [xk]
    rw [if_neg ?_]
    · apply xk_none d (f + 1)
      rcases h with h | h
      · left
        have := xc_mono p f 1
        omega
      · right; rw [e]; exact h
    · intro q
      have h4 : xc p (f + 1) = xc p f + 1 := by simp only [xc, q.1, if_true]
      rw [e] at h3
      omega
/-- the k-th figure that fits -/
def sp_5_nthThatFits (ns : Nat) : sy_Sp := sy_m1 7 fun k st post => c_sv ns st ∧ ∀ st', c_rf ns st st' → post (some (.inl (true, xk (c_ft ns st) k (st 3 4).toNat 0))) st'
def ct_5_nthThatFits (ns q : Nat) : Option (Bool × Nat × sy_Sp) := match q with
  | 39 => some (false, 1, sp_5_refresh ns)
  | _ => none
abbrev M_5_nthThatFits (ns : Nat) : sy_M := Mk_5_nthThatFits (ct_5_nthThatFits ns)
theorem cx_5_nthThatFits_39 {ns : Nat} {v1 : sy_V} {r : List sy_V} {s : sy_S} {f : List sy_V → sy_S → Prop} : sy_call false (ct_5_nthThatFits ns 39) (v1 :: r) s f = (sy_wd r ≤ 8 ∧ (sy_fit v1) ∧ sp_5_refresh ns [sy_kn v1] s (fun q t => f (q.toList ++ r) t)) := sx_call1
theorem mv_5_nthThatFits (ns : Nat) : sy_MV c_5_nthThatFits y_5_nthThatFits.cls (some .int) (M_5_nthThatFits ns) := ⟨tv_5_nthThatFits, ff_5_ok, ki_5_ok, kl_5_ok⟩
abbrev rm_5_nthThatFits : Room := { frames := 5, cells := 0, slots := 0, locals := 119 }
theorem co_5_nthThatFits (l : Launch) : sy_calls l rm_5_nthThatFits y_5_nthThatFits.cls c_5_nthThatFits 4 (fun ns => (M_5_nthThatFits ns).2.2.2.2.1) := by
  intro p e s m args below meth c rt wd ad ns A Q X hA q b n sp h
  replace h : ct_5_nthThatFits ns q = some (b, n, sp) := h
  unfold ct_5_nthThatFits at h
  split at h
  · cases h; exact sy_coV (ci := 5) X hA (mc_5_refresh l) ⟨iw_5_refresh.1, iw_5_refresh.2.1, iw_5_refresh.2.2, ⟨by decide, by decide⟩, rfl, rfl⟩ (sy_inx 474 (by decide +kernel) (by decide +kernel)) ii_5_refresh.1 ii_5_refresh.2 (rc_5_refresh ns) ⟨_, rfl, rfl⟩
  · cases h
theorem rc_5_nthThatFits (ns : Nat) (as : List sy_V) (st : sy_S) (post : sy_R) (h : sp_5_nthThatFits ns as st post) : ∃ b as', as = .inr (.inr (some (some b))) :: as' ∧ sy_ob b = some 5 := sy_m1_r rfl as st post h
theorem mc_5_nthThatFits (l : Launch) : sy_MC l y_5_nthThatFits c_5_nthThatFits 4 (some .int) rm_5_nthThatFits sp_5_nthThatFits := by
  refine sy_meth M_5_nthThatFits (by decide +kernel) mv_5_nthThatFits (co_5_nthThatFits l) ?_
  intro ns as st post WA h hok hrg ⟨hgo0, hin, hwk⟩
  have hgo : ∀ (n pc : Nat) (L k : List sy_V) (st : sy_S), rn_5_nthThatFits ns (ct_5_nthThatFits ns) post WA n pc L k st → WA pc L k st := fun n pc L k st h => hgo0 [22] n pc L k st h
  replace h := sy_m1_e h hok
  obtain ⟨k, rfl, hk, h⟩ := h
  refine ⟨Nat.le_of_ble_eq_true rfl, ?_⟩
  show WA 0 [.inr (.inr (some (some 7))), .inl (true, k), .inr (.inr none), .inr (.inr none)] [] st
  obtain ⟨hv, h⟩ := h
  refine hgo 100 _ _ _ _ ?_
  simp -implicitDefEqProofs only [↓rx_5_nthThatFits_0, ↓rx_5_nthThatFits_1, ↓rx_5_nthThatFits_4, ↓rx_5_nthThatFits_5, ↓rx_5_nthThatFits_8, ↓rx_5_nthThatFits_9, ↓rx_5_nthThatFits_10, ↓rx_5_nthThatFits_13, ↓rx_5_nthThatFits_16, ↓rx_5_nthThatFits_17, ↓rx_5_nthThatFits_18, ↓rx_5_nthThatFits_19, ↓rx_5_nthThatFits_20, ↓rx_5_nthThatFits_21, ↓rx_5_nthThatFits_22, ↓rx_5_nthThatFits_23, ↓rx_5_nthThatFits_24, ↓rx_5_nthThatFits_27, ↓rx_5_nthThatFits_30, ↓rx_5_nthThatFits_33, ↓rx_5_nthThatFits_34, ↓rx_5_nthThatFits_37, ↓rx_5_nthThatFits_40, ↓rx_5_nthThatFits_41, ↓rx_5_nthThatFits_44, ↓rx_5_nthThatFits_45, ↓rx_5_nthThatFits_46, ↓rx_5_nthThatFits_49, ↓rx_5_nthThatFits_50, ↓rx_5_nthThatFits_53, ↓rx_5_nthThatFits_54, ↓rx_5_nthThatFits_55, ↓rx_5_nthThatFits_58, ↓rx_5_nthThatFits_61, ↓rx_5_nthThatFits_64, ↓rx_5_nthThatFits_65, ↓cx_5_nthThatFits_39, sp_5_refresh, ↓sx_s1, ↓sx_s2, ↓sx_s3, ↓sx_s4, ↓sx_s5, ↓sx_s6, ↓sx_m0, ↓sx_m1, ↓sx_m2, ↓sx_m3, ↓sx_m4, ↓sx_m5, ↓sx_m6, ↓sx_k0_, ↓sx_k1_, ↓sx_k2_, ↓sx_k3_, ↓sx_k4_, ↓sx_k5_, ↓sx_k6_, ↓sx_sLL, ↓sx_sAI, ↓sx_mLL, ↓sx_mIIL, ↓sx_mIILL, ↓sx_mIILLL, ↓sx_qS, ↓sx_qSI, ↓sx_qSIII, sx_rit, sx_rif, sx_rlt, sx_rlf, sx_b0, sx_b1, sx_o0, sx_o1i, sx_o1a, sx_o1l, sx_o2, sx_g0, sx_g1, sx_k1, sx_k2, sx_k3, sx_f1, sx_f2, sx_f3, sx_w0, sx_w1, sx_w2, sx_w3, sx_ts, sx_tn, sx_up, sx_nS1, sx_nS2, sx_nW1, sx_nW2, sx_SW, sx_WS, sy_nS_inj, sy_nW_inj, sx_ob0, sx_ob1, sx_ob2, sx_ob3, sx_ob4, sx_ob5, sx_ob6, sx_ob7, sx_ob8, sx_ob9, sx_ob10, sx_ob11, sx_ob12, sx_ob13, sx_ob14, sx_ob15, sx_ob16, sx_ob17, sx_ob18, sx_ob19, sx_ob20, sx_ob21, sx_ob22, sx_ob23, sx_ob24, sx_ob25, sx_ob26, sx_ob27, sx_ob28, sx_ob29, sx_ob30, sx_ob31, sx_ob32, sx_ob33, sx_ob34, sx_ob35, sx_ob36, sx_fv0_0, sx_fv0_1, sx_fv0_2, sx_fv0_3, sx_fv0_4, sx_fv0_5, sx_fv1_0, sx_fv1_1, sx_fv1_2, sx_fv3_0, sx_fv3_1, sx_fv3_2, sx_fv3_3, sx_fv3_4, sx_fv7_0, sx_fv7_1, sx_fv7_2, sx_fv7_3, sx_fv7_4, sx_fv7_5, sx_fv7_6, sx_fv7_7, sx_fv7_8, sx_fv7_9, sx_fv7_10, sx_fv9_0, sx_fv9_1, sx_fv9_2, sx_fv9_3, sx_fv11_0, sx_fv11_1, sx_fv11_2, sx_fv11_3, sx_fv11_4, sx_fv11_5, sx_fv11_6, sx_fv15_0, sx_fv15_1, sx_fv15_2, sx_fv15_3, sx_fv15_4, sx_fv15_5, sx_fv19_0, sx_fv19_1, sx_fv19_2, sx_fv19_3, sx_fv19_4, sx_fv19_5, sx_fv19_6, sx_fv24_0, sx_fv24_1, sx_fv24_2, sx_fv24_3, sx_fv24_4, sx_fv24_5, sx_fv24_6, sx_fv24_7, sx_fv24_8, sx_fv24_9, sx_fv24_10, sx_fv24_11, sx_fv24_12, sx_fv24_13, sx_fv24_14, sx_fv24_15, sx_fv24_16, sx_fv24_17, sx_fv24_18, sx_fvS_0, sx_fvS_1, sx_fvS_2, sx_fvS_3, sx_fvS_4, sx_fvS_5, sx_fvS_6, sx_fvS_7, sx_fvS_8, sx_fvS_9, sx_ar2, sx_ar4, sx_ar5, sx_ar6, sx_ar8, sx_ar10, sx_ar12, sx_ar13, sx_ar14, sx_ar16, sx_ar17, sx_ar18, sx_ar20, sx_ar21, sx_ar22, sx_ar23, sx_ar25, sx_ar26, sx_ar27, sx_ar28, sx_ar29, sx_ar30, sx_ar31, sx_ar32, sx_ar33, sx_ar34, sx_ar35, sx_ar36, sy_ob_S, sy_ob_W, sy_ar_W, sx_if0, sx_if1, sx_ie0, sx_em, Classical.not_not, sx_cle, sx_clt, sx_cge, sx_cgt, sx_ceq, Nat.reduceLT, Nat.reduceLeDiff, Nat.reduceAdd, Nat.reduceSub, Nat.reduceEqDiff, reduceIte, List.length_cons, List.length_nil, true_and, and_true, and_self, Bool.false_eq_true, true_implies, not_true_eq_false, not_false_eq_true, false_implies, implies_true, ne_eq, reduceCtorEq, Option.some.injEq, false_and, and_false, Int.reduceNeg, Int.reduceToNat, Int.reduceLT, Int.reduceLE, Int.reduceEq, Int.reduceAdd, Int.reduceSub, Int.reduceMul, or_false, false_or, or_true, true_or, forall_const, Int.toNat_natCast, Int.toNat_zero, Int.toNat_one, Nat.zero_add, or_self, Int.neg_eq_zero]
  refine ⟨hv, fun st' hf1 => ?_⟩
  rw [(c_rf_sums hf1).1]
  have h1 := h st' hf1
  have hT := (c_tot_r hv.1.2.2.1).1
  have e3 := c_same_low hf1.1 (a := 3) (by decide) (by decide) (by decide)
  have hneg : ∀ c : (k < 0 ∨ xc (c_ft ns st) (st 3 4).toNat ≤ k), xk (c_ft ns st) k (st 3 4).toNat 0 = -1 := fun c => by
    apply xk_none
    rcases c with c | c
    · left; simpa [xc] using c
    · right; rw [Nat.zero_add]; exact c
  have key : ∀ (d f : Nat), f + d = (st 3 4).toNat → xc (c_ft ns st) f ≤ k → post (some (.inl (true, xk (c_ft ns st) k d f))) st' → WA 22 [.inr (.inr (some (some 7))), .inl (true, k), .inl (true, k - xc (c_ft ns st) f), .inl (true, (f : Int))] [] st' := by
    intro d
    induction d with
    | zero =>
      intro f hf hle h
      refine hgo 100 _ _ _ _ ?_
      simp -implicitDefEqProofs only [↓rx_5_nthThatFits_0, ↓rx_5_nthThatFits_1, ↓rx_5_nthThatFits_4, ↓rx_5_nthThatFits_5, ↓rx_5_nthThatFits_8, ↓rx_5_nthThatFits_9, ↓rx_5_nthThatFits_10, ↓rx_5_nthThatFits_13, ↓rx_5_nthThatFits_16, ↓rx_5_nthThatFits_17, ↓rx_5_nthThatFits_18, ↓rx_5_nthThatFits_19, ↓rx_5_nthThatFits_20, ↓rx_5_nthThatFits_21, ↓rx_5_nthThatFits_22, ↓rx_5_nthThatFits_23, ↓rx_5_nthThatFits_24, ↓rx_5_nthThatFits_27, ↓rx_5_nthThatFits_30, ↓rx_5_nthThatFits_33, ↓rx_5_nthThatFits_34, ↓rx_5_nthThatFits_37, ↓rx_5_nthThatFits_40, ↓rx_5_nthThatFits_41, ↓rx_5_nthThatFits_44, ↓rx_5_nthThatFits_45, ↓rx_5_nthThatFits_46, ↓rx_5_nthThatFits_49, ↓rx_5_nthThatFits_50, ↓rx_5_nthThatFits_53, ↓rx_5_nthThatFits_54, ↓rx_5_nthThatFits_55, ↓rx_5_nthThatFits_58, ↓rx_5_nthThatFits_61, ↓rx_5_nthThatFits_64, ↓rx_5_nthThatFits_65, ↓cx_5_nthThatFits_39, sp_5_refresh, ↓sx_s1, ↓sx_s2, ↓sx_s3, ↓sx_s4, ↓sx_s5, ↓sx_s6, ↓sx_m0, ↓sx_m1, ↓sx_m2, ↓sx_m3, ↓sx_m4, ↓sx_m5, ↓sx_m6, ↓sx_k0_, ↓sx_k1_, ↓sx_k2_, ↓sx_k3_, ↓sx_k4_, ↓sx_k5_, ↓sx_k6_, ↓sx_sLL, ↓sx_sAI, ↓sx_mLL, ↓sx_mIIL, ↓sx_mIILL, ↓sx_mIILLL, ↓sx_qS, ↓sx_qSI, ↓sx_qSIII, sx_rit, sx_rif, sx_rlt, sx_rlf, sx_b0, sx_b1, sx_o0, sx_o1i, sx_o1a, sx_o1l, sx_o2, sx_g0, sx_g1, sx_k1, sx_k2, sx_k3, sx_f1, sx_f2, sx_f3, sx_w0, sx_w1, sx_w2, sx_w3, sx_ts, sx_tn, sx_up, sx_nS1, sx_nS2, sx_nW1, sx_nW2, sx_SW, sx_WS, sy_nS_inj, sy_nW_inj, sx_ob0, sx_ob1, sx_ob2, sx_ob3, sx_ob4, sx_ob5, sx_ob6, sx_ob7, sx_ob8, sx_ob9, sx_ob10, sx_ob11, sx_ob12, sx_ob13, sx_ob14, sx_ob15, sx_ob16, sx_ob17, sx_ob18, sx_ob19, sx_ob20, sx_ob21, sx_ob22, sx_ob23, sx_ob24, sx_ob25, sx_ob26, sx_ob27, sx_ob28, sx_ob29, sx_ob30, sx_ob31, sx_ob32, sx_ob33, sx_ob34, sx_ob35, sx_ob36, sx_fv0_0, sx_fv0_1, sx_fv0_2, sx_fv0_3, sx_fv0_4, sx_fv0_5, sx_fv1_0, sx_fv1_1, sx_fv1_2, sx_fv3_0, sx_fv3_1, sx_fv3_2, sx_fv3_3, sx_fv3_4, sx_fv7_0, sx_fv7_1, sx_fv7_2, sx_fv7_3, sx_fv7_4, sx_fv7_5, sx_fv7_6, sx_fv7_7, sx_fv7_8, sx_fv7_9, sx_fv7_10, sx_fv9_0, sx_fv9_1, sx_fv9_2, sx_fv9_3, sx_fv11_0, sx_fv11_1, sx_fv11_2, sx_fv11_3, sx_fv11_4, sx_fv11_5, sx_fv11_6, sx_fv15_0, sx_fv15_1, sx_fv15_2, sx_fv15_3, sx_fv15_4, sx_fv15_5, sx_fv19_0, sx_fv19_1, sx_fv19_2, sx_fv19_3, sx_fv19_4, sx_fv19_5, sx_fv19_6, sx_fv24_0, sx_fv24_1, sx_fv24_2, sx_fv24_3, sx_fv24_4, sx_fv24_5, sx_fv24_6, sx_fv24_7, sx_fv24_8, sx_fv24_9, sx_fv24_10, sx_fv24_11, sx_fv24_12, sx_fv24_13, sx_fv24_14, sx_fv24_15, sx_fv24_16, sx_fv24_17, sx_fv24_18, sx_fvS_0, sx_fvS_1, sx_fvS_2, sx_fvS_3, sx_fvS_4, sx_fvS_5, sx_fvS_6, sx_fvS_7, sx_fvS_8, sx_fvS_9, sx_ar2, sx_ar4, sx_ar5, sx_ar6, sx_ar8, sx_ar10, sx_ar12, sx_ar13, sx_ar14, sx_ar16, sx_ar17, sx_ar18, sx_ar20, sx_ar21, sx_ar22, sx_ar23, sx_ar25, sx_ar26, sx_ar27, sx_ar28, sx_ar29, sx_ar30, sx_ar31, sx_ar32, sx_ar33, sx_ar34, sx_ar35, sx_ar36, sy_ob_S, sy_ob_W, sy_ar_W, sx_if0, sx_if1, sx_ie0, sx_em, Classical.not_not, sx_cle, sx_clt, sx_cge, sx_cgt, sx_ceq, Nat.reduceLT, Nat.reduceLeDiff, Nat.reduceAdd, Nat.reduceSub, Nat.reduceEqDiff, reduceIte, List.length_cons, List.length_nil, true_and, and_true, and_self, Bool.false_eq_true, true_implies, not_true_eq_false, not_false_eq_true, false_implies, implies_true, ne_eq, reduceCtorEq, Option.some.injEq, false_and, and_false, Int.reduceNeg, Int.reduceToNat, Int.reduceLT, Int.reduceLE, Int.reduceEq, Int.reduceAdd, Int.reduceSub, Int.reduceMul, or_false, false_or, or_true, true_or, forall_const, Int.toNat_natCast, Int.toNat_zero, Int.toNat_one, Nat.zero_add, or_self, Int.neg_eq_zero]
      rw [e3]
      refine ⟨fun _ => h, fun q => by omega⟩
    | succ d ih =>
      intro f hf hle h
      refine hin _ _ _ _ (fun _ _ hrg2 => ?_)
      refine hgo 100 _ _ _ _ ?_
      simp -implicitDefEqProofs only [↓rx_5_nthThatFits_0, ↓rx_5_nthThatFits_1, ↓rx_5_nthThatFits_4, ↓rx_5_nthThatFits_5, ↓rx_5_nthThatFits_8, ↓rx_5_nthThatFits_9, ↓rx_5_nthThatFits_10, ↓rx_5_nthThatFits_13, ↓rx_5_nthThatFits_16, ↓rx_5_nthThatFits_17, ↓rx_5_nthThatFits_18, ↓rx_5_nthThatFits_19, ↓rx_5_nthThatFits_20, ↓rx_5_nthThatFits_21, ↓rx_5_nthThatFits_22, ↓rx_5_nthThatFits_23, ↓rx_5_nthThatFits_24, ↓rx_5_nthThatFits_27, ↓rx_5_nthThatFits_30, ↓rx_5_nthThatFits_33, ↓rx_5_nthThatFits_34, ↓rx_5_nthThatFits_37, ↓rx_5_nthThatFits_40, ↓rx_5_nthThatFits_41, ↓rx_5_nthThatFits_44, ↓rx_5_nthThatFits_45, ↓rx_5_nthThatFits_46, ↓rx_5_nthThatFits_49, ↓rx_5_nthThatFits_50, ↓rx_5_nthThatFits_53, ↓rx_5_nthThatFits_54, ↓rx_5_nthThatFits_55, ↓rx_5_nthThatFits_58, ↓rx_5_nthThatFits_61, ↓rx_5_nthThatFits_64, ↓rx_5_nthThatFits_65, ↓cx_5_nthThatFits_39, sp_5_refresh, ↓sx_s1, ↓sx_s2, ↓sx_s3, ↓sx_s4, ↓sx_s5, ↓sx_s6, ↓sx_m0, ↓sx_m1, ↓sx_m2, ↓sx_m3, ↓sx_m4, ↓sx_m5, ↓sx_m6, ↓sx_k0_, ↓sx_k1_, ↓sx_k2_, ↓sx_k3_, ↓sx_k4_, ↓sx_k5_, ↓sx_k6_, ↓sx_sLL, ↓sx_sAI, ↓sx_mLL, ↓sx_mIIL, ↓sx_mIILL, ↓sx_mIILLL, ↓sx_qS, ↓sx_qSI, ↓sx_qSIII, sx_rit, sx_rif, sx_rlt, sx_rlf, sx_b0, sx_b1, sx_o0, sx_o1i, sx_o1a, sx_o1l, sx_o2, sx_g0, sx_g1, sx_k1, sx_k2, sx_k3, sx_f1, sx_f2, sx_f3, sx_w0, sx_w1, sx_w2, sx_w3, sx_ts, sx_tn, sx_up, sx_nS1, sx_nS2, sx_nW1, sx_nW2, sx_SW, sx_WS, sy_nS_inj, sy_nW_inj, sx_ob0, sx_ob1, sx_ob2, sx_ob3, sx_ob4, sx_ob5, sx_ob6, sx_ob7, sx_ob8, sx_ob9, sx_ob10, sx_ob11, sx_ob12, sx_ob13, sx_ob14, sx_ob15, sx_ob16, sx_ob17, sx_ob18, sx_ob19, sx_ob20, sx_ob21, sx_ob22, sx_ob23, sx_ob24, sx_ob25, sx_ob26, sx_ob27, sx_ob28, sx_ob29, sx_ob30, sx_ob31, sx_ob32, sx_ob33, sx_ob34, sx_ob35, sx_ob36, sx_fv0_0, sx_fv0_1, sx_fv0_2, sx_fv0_3, sx_fv0_4, sx_fv0_5, sx_fv1_0, sx_fv1_1, sx_fv1_2, sx_fv3_0, sx_fv3_1, sx_fv3_2, sx_fv3_3, sx_fv3_4, sx_fv7_0, sx_fv7_1, sx_fv7_2, sx_fv7_3, sx_fv7_4, sx_fv7_5, sx_fv7_6, sx_fv7_7, sx_fv7_8, sx_fv7_9, sx_fv7_10, sx_fv9_0, sx_fv9_1, sx_fv9_2, sx_fv9_3, sx_fv11_0, sx_fv11_1, sx_fv11_2, sx_fv11_3, sx_fv11_4, sx_fv11_5, sx_fv11_6, sx_fv15_0, sx_fv15_1, sx_fv15_2, sx_fv15_3, sx_fv15_4, sx_fv15_5, sx_fv19_0, sx_fv19_1, sx_fv19_2, sx_fv19_3, sx_fv19_4, sx_fv19_5, sx_fv19_6, sx_fv24_0, sx_fv24_1, sx_fv24_2, sx_fv24_3, sx_fv24_4, sx_fv24_5, sx_fv24_6, sx_fv24_7, sx_fv24_8, sx_fv24_9, sx_fv24_10, sx_fv24_11, sx_fv24_12, sx_fv24_13, sx_fv24_14, sx_fv24_15, sx_fv24_16, sx_fv24_17, sx_fv24_18, sx_fvS_0, sx_fvS_1, sx_fvS_2, sx_fvS_3, sx_fvS_4, sx_fvS_5, sx_fvS_6, sx_fvS_7, sx_fvS_8, sx_fvS_9, sx_ar2, sx_ar4, sx_ar5, sx_ar6, sx_ar8, sx_ar10, sx_ar12, sx_ar13, sx_ar14, sx_ar16, sx_ar17, sx_ar18, sx_ar20, sx_ar21, sx_ar22, sx_ar23, sx_ar25, sx_ar26, sx_ar27, sx_ar28, sx_ar29, sx_ar30, sx_ar31, sx_ar32, sx_ar33, sx_ar34, sx_ar35, sx_ar36, sy_ob_S, sy_ob_W, sy_ar_W, sx_if0, sx_if1, sx_ie0, sx_em, Classical.not_not, sx_cle, sx_clt, sx_cge, sx_cgt, sx_ceq, Nat.reduceLT, Nat.reduceLeDiff, Nat.reduceAdd, Nat.reduceSub, Nat.reduceEqDiff, reduceIte, List.length_cons, List.length_nil, true_and, and_true, and_self, Bool.false_eq_true, true_implies, not_true_eq_false, not_false_eq_true, false_implies, implies_true, ne_eq, reduceCtorEq, Option.some.injEq, false_and, and_false, Int.reduceNeg, Int.reduceToNat, Int.reduceLT, Int.reduceLE, Int.reduceEq, Int.reduceAdd, Int.reduceSub, Int.reduceMul, or_false, false_or, or_true, true_or, forall_const, Int.toNat_natCast, Int.toNat_zero, Int.toNat_one, Nat.zero_add, or_self, Int.neg_eq_zero]
      have hc := xc_rng (c_ft ns st) f
      have i1 := ih (f + 1) (by omega)
      have hfr : c_ft ns st f = true ↔ st' 8 f = 0 := by
        have hb := (c_bits hrg2 hv.1.1.2 hf1.2.2.2.1 hf1.2.2.2.2.1 (f := f) (by rw [e3]; omega)).2.2
        rw [c_same_wr hf1.1] at hb
        unfold c_ft
        rw [decide_eq_true_eq]
        exact hb.symm
      simp only [xc] at i1
      simp only [xk] at h
      have e : ((f : Int) + 1) = ((f + 1 : Nat) : Int) := by omega
      rw [e3, e]
      have hkr := hk
      unfold sy_iR at hkr
      refine ⟨fun c => by omega, fun _ => ⟨fun c => by omega, fun _ => ⟨by omega, fun c => ⟨by omega, ?_⟩, fun c => ⟨fun c2 => ⟨by omega, by omega, ?_⟩, fun c2 => ?_⟩⟩⟩⟩
      · have hn : ¬ c_ft ns st f = true := fun q => c (hfr.mp q)
        rw [if_neg hn, Int.add_zero] at i1
        rw [if_neg (fun q => hn q.1)] at h
        exact i1 hle h
      · have hn : c_ft ns st f = true := hfr.mpr c
        rw [if_pos hn] at i1
        rw [if_neg (fun q => by omega)] at h
        have e9 : k - xc (c_ft ns st) f + -1 = k - (xc (c_ft ns st) f + 1) := by omega
        rw [e9]
        exact i1 (by omega) h
      · rw [if_pos ⟨hfr.mpr c, by omega⟩] at h
        exact h
  refine ⟨fun c => ?_, fun c => ⟨fun c2 => ?_, fun c2 => ?_⟩⟩
  · rw [hneg (Or.inl c)] at h1; exact h1
  · have k0 := key (st 3 4).toNat 0 (by omega) (by simp only [xc]; omega) h1
    simpa [xc] using k0
  · rw [hneg (Or.inr (by omega))] at h1; exact h1
def c_forget (st : sy_S) (i : Nat) : sy_S := sy_up (sy_up st 7 3 ((Int32.ofInt (st 7 3) ||| Int32.ofInt (x_pw i)).toInt)) 7 10 (-1)
def sp_5_forget (ns : Nat) : sy_Sp := sy_m1 7 fun i st post => (0 ≤ i ∧ i < 16) ∧ post none (c_forget st i.toNat)
def ct_5_forget (ns q : Nat) : Option (Bool × Nat × sy_Sp) := match q with
  | _ => none
abbrev M_5_forget (ns : Nat) : sy_M := Mk_5_forget (ct_5_forget ns)
theorem mv_5_forget (ns : Nat) : sy_MV c_5_forget y_5_forget.cls none (M_5_forget ns) := ⟨tv_5_forget, ff_5_ok, ki_5_ok, kl_5_ok⟩
abbrev rm_5_forget : Room := { frames := 0, cells := 0, slots := 0, locals := 0 }
theorem co_5_forget (l : Launch) : sy_calls l rm_5_forget y_5_forget.cls c_5_forget 2 (fun ns => (M_5_forget ns).2.2.2.2.1) := by
  intro p e s m args below meth c rt wd ad ns A Q X hA q b n sp h
  replace h : ct_5_forget ns q = some (b, n, sp) := h
  unfold ct_5_forget at h
  cases h
theorem rc_5_forget (ns : Nat) (as : List sy_V) (st : sy_S) (post : sy_R) (h : sp_5_forget ns as st post) : ∃ b as', as = .inr (.inr (some (some b))) :: as' ∧ sy_ob b = some 5 := sy_m1_r rfl as st post h
theorem mc_5_forget (l : Launch) : sy_MC l y_5_forget c_5_forget 2 none rm_5_forget sp_5_forget := by
  refine sy_meth M_5_forget (by decide +kernel) mv_5_forget (co_5_forget l) ?_
  intro ns as st post WA h hok hrg ⟨hgo0, hin, hwk⟩
  have hgo : ∀ (n pc : Nat) (L k : List sy_V) (st : sy_S), rn_5_forget ns (ct_5_forget ns) post WA n pc L k st → WA pc L k st := fun n pc L k st h => hgo0 [] n pc L k st h
  replace h := sy_m1_e h hok
  obtain ⟨i, rfl, hi, h⟩ := h
  refine ⟨Nat.le_of_ble_eq_true rfl, ?_⟩
  show WA 0 [.inr (.inr (some (some 7))), .inl (true, i)] [] st
  refine hgo 100 _ _ _ _ ?_
  simp -implicitDefEqProofs only [↓rx_5_forget_0, ↓rx_5_forget_1, ↓rx_5_forget_1_i, ↓rx_5_forget_2, ↓rx_5_forget_5, ↓rx_5_forget_6, ↓rx_5_forget_7, ↓rx_5_forget_8, ↓rx_5_forget_9, ↓rx_5_forget_12, ↓rx_5_forget_13, ↓rx_5_forget_14, ↓rx_5_forget_17, ↓sx_s1, ↓sx_s2, ↓sx_s3, ↓sx_s4, ↓sx_s5, ↓sx_s6, ↓sx_m0, ↓sx_m1, ↓sx_m2, ↓sx_m3, ↓sx_m4, ↓sx_m5, ↓sx_m6, ↓sx_k0_, ↓sx_k1_, ↓sx_k2_, ↓sx_k3_, ↓sx_k4_, ↓sx_k5_, ↓sx_k6_, ↓sx_sLL, ↓sx_sAI, ↓sx_mLL, ↓sx_mIIL, ↓sx_mIILL, ↓sx_mIILLL, ↓sx_qS, ↓sx_qSI, ↓sx_qSIII, sx_rit, sx_rif, sx_rlt, sx_rlf, sx_b0, sx_b1, sx_o0, sx_o1i, sx_o1a, sx_o1l, sx_o2, sx_g0, sx_g1, sx_k1, sx_k2, sx_k3, sx_f1, sx_f2, sx_f3, sx_w0, sx_w1, sx_w2, sx_w3, sx_ts, sx_tn, sx_up, sx_nS1, sx_nS2, sx_nW1, sx_nW2, sx_SW, sx_WS, sy_nS_inj, sy_nW_inj, sx_ob0, sx_ob1, sx_ob2, sx_ob3, sx_ob4, sx_ob5, sx_ob6, sx_ob7, sx_ob8, sx_ob9, sx_ob10, sx_ob11, sx_ob12, sx_ob13, sx_ob14, sx_ob15, sx_ob16, sx_ob17, sx_ob18, sx_ob19, sx_ob20, sx_ob21, sx_ob22, sx_ob23, sx_ob24, sx_ob25, sx_ob26, sx_ob27, sx_ob28, sx_ob29, sx_ob30, sx_ob31, sx_ob32, sx_ob33, sx_ob34, sx_ob35, sx_ob36, sx_fv0_0, sx_fv0_1, sx_fv0_2, sx_fv0_3, sx_fv0_4, sx_fv0_5, sx_fv1_0, sx_fv1_1, sx_fv1_2, sx_fv3_0, sx_fv3_1, sx_fv3_2, sx_fv3_3, sx_fv3_4, sx_fv7_0, sx_fv7_1, sx_fv7_2, sx_fv7_3, sx_fv7_4, sx_fv7_5, sx_fv7_6, sx_fv7_7, sx_fv7_8, sx_fv7_9, sx_fv7_10, sx_fv9_0, sx_fv9_1, sx_fv9_2, sx_fv9_3, sx_fv11_0, sx_fv11_1, sx_fv11_2, sx_fv11_3, sx_fv11_4, sx_fv11_5, sx_fv11_6, sx_fv15_0, sx_fv15_1, sx_fv15_2, sx_fv15_3, sx_fv15_4, sx_fv15_5, sx_fv19_0, sx_fv19_1, sx_fv19_2, sx_fv19_3, sx_fv19_4, sx_fv19_5, sx_fv19_6, sx_fv24_0, sx_fv24_1, sx_fv24_2, sx_fv24_3, sx_fv24_4, sx_fv24_5, sx_fv24_6, sx_fv24_7, sx_fv24_8, sx_fv24_9, sx_fv24_10, sx_fv24_11, sx_fv24_12, sx_fv24_13, sx_fv24_14, sx_fv24_15, sx_fv24_16, sx_fv24_17, sx_fv24_18, sx_fvS_0, sx_fvS_1, sx_fvS_2, sx_fvS_3, sx_fvS_4, sx_fvS_5, sx_fvS_6, sx_fvS_7, sx_fvS_8, sx_fvS_9, sx_ar2, sx_ar4, sx_ar5, sx_ar6, sx_ar8, sx_ar10, sx_ar12, sx_ar13, sx_ar14, sx_ar16, sx_ar17, sx_ar18, sx_ar20, sx_ar21, sx_ar22, sx_ar23, sx_ar25, sx_ar26, sx_ar27, sx_ar28, sx_ar29, sx_ar30, sx_ar31, sx_ar32, sx_ar33, sx_ar34, sx_ar35, sx_ar36, sy_ob_S, sy_ob_W, sy_ar_W, sx_if0, sx_if1, sx_ie0, sx_em, Classical.not_not, sx_cle, sx_clt, sx_cge, sx_cgt, sx_ceq, Nat.reduceLT, Nat.reduceLeDiff, Nat.reduceAdd, Nat.reduceSub, Nat.reduceEqDiff, reduceIte, List.length_cons, List.length_nil, true_and, and_true, and_self, Bool.false_eq_true, true_implies, not_true_eq_false, not_false_eq_true, false_implies, implies_true, ne_eq, reduceCtorEq, Option.some.injEq, false_and, and_false, Int.reduceNeg, Int.reduceToNat, Int.reduceLT, Int.reduceLE, Int.reduceEq, Int.reduceAdd, Int.reduceSub, Int.reduceMul, or_false, false_or, or_true, true_or, forall_const, Int.toNat_natCast, Int.toNat_zero, Int.toNat_one, Nat.zero_add, or_self, Int.neg_eq_zero]
  have e : Int32.ofInt i = Int32.ofInt ((i.toNat : Nat) : Int) := by rw [Int.toNat_of_nonneg h.1.1]
  rw [e]
  exact h.2
def sp_5_forgetAll (ns : Nat) : sy_Sp := sy_m0 7 fun st post => post none (sy_up (sy_up st 7 3 (-1)) 7 10 (-1))
def ct_5_forgetAll (ns q : Nat) : Option (Bool × Nat × sy_Sp) := match q with
  | _ => none
abbrev M_5_forgetAll (ns : Nat) : sy_M := Mk_5_forgetAll (ct_5_forgetAll ns)
theorem mv_5_forgetAll (ns : Nat) : sy_MV c_5_forgetAll y_5_forgetAll.cls none (M_5_forgetAll ns) := ⟨tv_5_forgetAll, ff_5_ok, ki_5_ok, kl_5_ok⟩
abbrev rm_5_forgetAll : Room := { frames := 0, cells := 0, slots := 0, locals := 0 }
theorem co_5_forgetAll (l : Launch) : sy_calls l rm_5_forgetAll y_5_forgetAll.cls c_5_forgetAll 1 (fun ns => (M_5_forgetAll ns).2.2.2.2.1) := by
  intro p e s m args below meth c rt wd ad ns A Q X hA q b n sp h
  replace h : ct_5_forgetAll ns q = some (b, n, sp) := h
  unfold ct_5_forgetAll at h
  cases h
theorem rc_5_forgetAll (ns : Nat) (as : List sy_V) (st : sy_S) (post : sy_R) (h : sp_5_forgetAll ns as st post) : ∃ b as', as = .inr (.inr (some (some b))) :: as' ∧ sy_ob b = some 5 := sy_m0_r rfl as st post h
theorem mc_5_forgetAll (l : Launch) : sy_MC l y_5_forgetAll c_5_forgetAll 1 none rm_5_forgetAll sp_5_forgetAll := by
  refine sy_meth M_5_forgetAll (by decide +kernel) mv_5_forgetAll (co_5_forgetAll l) ?_
  intro ns as st post WA h hok hrg ⟨hgo0, hin, hwk⟩
  have hgo : ∀ (n pc : Nat) (L k : List sy_V) (st : sy_S), rn_5_forgetAll ns (ct_5_forgetAll ns) post WA n pc L k st → WA pc L k st := fun n pc L k st h => hgo0 [] n pc L k st h
  replace h := sy_m0_e h hok
  obtain ⟨rfl, h⟩ := h
  refine ⟨Nat.le_of_ble_eq_true rfl, ?_⟩
  show WA 0 [.inr (.inr (some (some 7)))] [] st
  refine hgo 100 _ _ _ _ ?_
  simp -implicitDefEqProofs only [↓rx_5_forgetAll_0, ↓rx_5_forgetAll_1, ↓rx_5_forgetAll_2, ↓rx_5_forgetAll_5, ↓rx_5_forgetAll_6, ↓rx_5_forgetAll_7, ↓rx_5_forgetAll_10, ↓sx_s1, ↓sx_s2, ↓sx_s3, ↓sx_s4, ↓sx_s5, ↓sx_s6, ↓sx_m0, ↓sx_m1, ↓sx_m2, ↓sx_m3, ↓sx_m4, ↓sx_m5, ↓sx_m6, ↓sx_k0_, ↓sx_k1_, ↓sx_k2_, ↓sx_k3_, ↓sx_k4_, ↓sx_k5_, ↓sx_k6_, ↓sx_sLL, ↓sx_sAI, ↓sx_mLL, ↓sx_mIIL, ↓sx_mIILL, ↓sx_mIILLL, ↓sx_qS, ↓sx_qSI, ↓sx_qSIII, sx_rit, sx_rif, sx_rlt, sx_rlf, sx_b0, sx_b1, sx_o0, sx_o1i, sx_o1a, sx_o1l, sx_o2, sx_g0, sx_g1, sx_k1, sx_k2, sx_k3, sx_f1, sx_f2, sx_f3, sx_w0, sx_w1, sx_w2, sx_w3, sx_ts, sx_tn, sx_up, sx_nS1, sx_nS2, sx_nW1, sx_nW2, sx_SW, sx_WS, sy_nS_inj, sy_nW_inj, sx_ob0, sx_ob1, sx_ob2, sx_ob3, sx_ob4, sx_ob5, sx_ob6, sx_ob7, sx_ob8, sx_ob9, sx_ob10, sx_ob11, sx_ob12, sx_ob13, sx_ob14, sx_ob15, sx_ob16, sx_ob17, sx_ob18, sx_ob19, sx_ob20, sx_ob21, sx_ob22, sx_ob23, sx_ob24, sx_ob25, sx_ob26, sx_ob27, sx_ob28, sx_ob29, sx_ob30, sx_ob31, sx_ob32, sx_ob33, sx_ob34, sx_ob35, sx_ob36, sx_fv0_0, sx_fv0_1, sx_fv0_2, sx_fv0_3, sx_fv0_4, sx_fv0_5, sx_fv1_0, sx_fv1_1, sx_fv1_2, sx_fv3_0, sx_fv3_1, sx_fv3_2, sx_fv3_3, sx_fv3_4, sx_fv7_0, sx_fv7_1, sx_fv7_2, sx_fv7_3, sx_fv7_4, sx_fv7_5, sx_fv7_6, sx_fv7_7, sx_fv7_8, sx_fv7_9, sx_fv7_10, sx_fv9_0, sx_fv9_1, sx_fv9_2, sx_fv9_3, sx_fv11_0, sx_fv11_1, sx_fv11_2, sx_fv11_3, sx_fv11_4, sx_fv11_5, sx_fv11_6, sx_fv15_0, sx_fv15_1, sx_fv15_2, sx_fv15_3, sx_fv15_4, sx_fv15_5, sx_fv19_0, sx_fv19_1, sx_fv19_2, sx_fv19_3, sx_fv19_4, sx_fv19_5, sx_fv19_6, sx_fv24_0, sx_fv24_1, sx_fv24_2, sx_fv24_3, sx_fv24_4, sx_fv24_5, sx_fv24_6, sx_fv24_7, sx_fv24_8, sx_fv24_9, sx_fv24_10, sx_fv24_11, sx_fv24_12, sx_fv24_13, sx_fv24_14, sx_fv24_15, sx_fv24_16, sx_fv24_17, sx_fv24_18, sx_fvS_0, sx_fvS_1, sx_fvS_2, sx_fvS_3, sx_fvS_4, sx_fvS_5, sx_fvS_6, sx_fvS_7, sx_fvS_8, sx_fvS_9, sx_ar2, sx_ar4, sx_ar5, sx_ar6, sx_ar8, sx_ar10, sx_ar12, sx_ar13, sx_ar14, sx_ar16, sx_ar17, sx_ar18, sx_ar20, sx_ar21, sx_ar22, sx_ar23, sx_ar25, sx_ar26, sx_ar27, sx_ar28, sx_ar29, sx_ar30, sx_ar31, sx_ar32, sx_ar33, sx_ar34, sx_ar35, sx_ar36, sy_ob_S, sy_ob_W, sy_ar_W, sx_if0, sx_if1, sx_ie0, sx_em, Classical.not_not, sx_cle, sx_clt, sx_cge, sx_cgt, sx_ceq, Nat.reduceLT, Nat.reduceLeDiff, Nat.reduceAdd, Nat.reduceSub, Nat.reduceEqDiff, reduceIte, List.length_cons, List.length_nil, true_and, and_true, and_self, Bool.false_eq_true, true_implies, not_true_eq_false, not_false_eq_true, false_implies, implies_true, ne_eq, reduceCtorEq, Option.some.injEq, false_and, and_false, Int.reduceNeg, Int.reduceToNat, Int.reduceLT, Int.reduceLE, Int.reduceEq, Int.reduceAdd, Int.reduceSub, Int.reduceMul, or_false, false_or, or_true, true_or, forall_const, Int.toNat_natCast, Int.toNat_zero, Int.toNat_one, Nat.zero_add, or_self, Int.neg_eq_zero]
  exact h
