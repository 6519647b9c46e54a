/-! THE MODEL: more counts; net, site, dips, plans' small ones -/
def sp_9_fits (ns : Nat) : sy_Sp := sy_m1 24 fun k st post => m_ok ns st ∧ post (some (.inl (true, xk (m_ft ns st) k (m_tot st).toNat 0))) st
def ct_9_fits (ns q : Nat) : Option (Bool × Nat × sy_Sp) := match q with
  | 89 => some (false, 1, sp_9_figures ns)
  | 113 => some (false, 2, sp_9_wrong ns)
  | _ => none
abbrev M_9_fits (ns : Nat) : sy_M := Mk_9_fits (ct_9_fits ns)
theorem cx_9_fits_89 {ns : Nat} {v1 : sy_V} {r : List sy_V} {s : sy_S} {f : List sy_V → sy_S → Prop} : sy_call false (ct_9_fits ns 89) (v1 :: r) s f = (sy_wd r ≤ 8 ∧ (sy_fit v1) ∧ sp_9_figures ns [sy_kn v1] s (fun q t => f (q.toList ++ r) t)) := sx_call1
theorem cx_9_fits_113 {ns : Nat} {v1 v2 : sy_V} {r : List sy_V} {s : sy_S} {f : List sy_V → sy_S → Prop} : sy_call false (ct_9_fits ns 113) (v2 :: v1 :: r) s f = (sy_wd r ≤ 8 ∧ (sy_fit v2 ∧ sy_fit v1) ∧ sp_9_wrong ns [sy_kn v1, sy_kn v2] s (fun q t => f (q.toList ++ r) t)) := sx_call2
theorem mv_9_fits (ns : Nat) : sy_MV c_9_fits y_9_fits.cls (some .int) (M_9_fits ns) := ⟨tv_9_fits, ff_9_ok, ki_9_ok, kl_9_ok⟩
abbrev rm_9_fits : Room := { frames := 4, cells := 0, slots := 0, locals := 106 }
theorem co_9_fits (l : Launch) : sy_calls l rm_9_fits y_9_fits.cls c_9_fits 4 (fun ns => (M_9_fits ns).2.2.2.2.1) := by
  intro p e s m args below meth c rt wd ad ns A Q X hA q b n sp h
  replace h : ct_9_fits ns q = some (b, n, sp) := h
  unfold ct_9_fits at h
  split at h
  · cases h; exact sy_coV (ci := 9) X hA (mc_9_figures l) ⟨iw_9_figures.1, iw_9_figures.2.1, iw_9_figures.2.2, ⟨by decide, by decide⟩, rfl, rfl⟩ (sy_inx 922 (by decide +kernel) (by decide +kernel)) ii_9_figures.1 ii_9_figures.2 (rc_9_figures ns) ⟨_, rfl, rfl⟩
  · cases h; exact sy_coV (ci := 9) X hA (mc_9_wrong l) ⟨iw_9_wrong.1, iw_9_wrong.2.1, iw_9_wrong.2.2, ⟨by decide, by decide⟩, rfl, rfl⟩ (sy_inx 951 (by decide +kernel) (by decide +kernel)) ii_9_wrong.1 ii_9_wrong.2 (rc_9_wrong ns) ⟨_, rfl, rfl⟩
  · cases h
theorem rc_9_fits (ns : Nat) (as : List sy_V) (st : sy_S) (post : sy_R) (h : sp_9_fits ns as st post) : ∃ b as', as = .inr (.inr (some (some b))) :: as' ∧ sy_ob b = some 9 := sy_m1_r rfl as st post h
theorem mc_9_fits (l : Launch) : sy_MC l y_9_fits c_9_fits 4 (some .int) rm_9_fits sp_9_fits := by
  refine sy_meth M_9_fits (by decide +kernel) mv_9_fits (co_9_fits l) ?_
  intro ns as st post WA h hok hrg ⟨hgo0, hin, hwk⟩
  have hgo : ∀ (n pc : Nat) (L k : List sy_V) (st : sy_S), rn_9_fits ns (ct_9_fits ns) post WA n pc L k st → WA pc L k st := fun n pc L k st h => hgo0 [4] n pc L k st h
  replace h := sy_m1_e h hok
  obtain ⟨k, rfl, hk, h⟩ := h
  refine ⟨Nat.le_of_ble_eq_true rfl, ?_⟩
  show WA 0 [.inr (.inr (some (some 24))), .inl (true, k), .inr (.inr none), .inr (.inr none)] [] st
  obtain ⟨hm, h⟩ := h
  have ht := m_tot_r hm.2.2
  have key : ∀ (d f : Nat), f + d = (m_tot st).toNat → post (some (.inl (true, xk (m_ft ns st) k d f))) st → WA 4 [.inr (.inr (some (some 24))), .inl (true, k), .inl (true, xc (m_ft ns st) f), .inl (true, (f : Int))] [] st := by
    intro d
    induction d with
    | zero =>
      intro f hf h
      refine hgo 100 _ _ _ _ ?_
      simp -implicitDefEqProofs only [↓rx_9_fits_0, ↓rx_9_fits_1, ↓rx_9_fits_2, ↓rx_9_fits_3, ↓rx_9_fits_4, ↓rx_9_fits_5, ↓rx_9_fits_6, ↓rx_9_fits_9, ↓rx_9_fits_12, ↓rx_9_fits_13, ↓rx_9_fits_14, ↓rx_9_fits_17, ↓rx_9_fits_20, ↓rx_9_fits_23, ↓rx_9_fits_24, ↓rx_9_fits_25, ↓rx_9_fits_28, ↓rx_9_fits_29, ↓rx_9_fits_30, ↓rx_9_fits_33, ↓rx_9_fits_36, ↓rx_9_fits_39, ↓rx_9_fits_40, ↓cx_9_fits_89, ↓cx_9_fits_113, sp_9_figures, sp_9_wrong, ↓sx_s1, ↓sx_s2, ↓sx_s3, ↓sx_s4, ↓sx_s5, ↓sx_s6, ↓sx_m0, ↓sx_m1, ↓sx_m2, ↓sx_m3, ↓sx_m4, ↓sx_m5, ↓sx_m6, ↓sx_k0_, ↓sx_k1_, ↓sx_k2_, ↓sx_k3_, ↓sx_k4_, ↓sx_k5_, ↓sx_k6_, ↓sx_sLL, ↓sx_sAI, ↓sx_mLL, ↓sx_mIIL, ↓sx_mIILL, ↓sx_mIILLL, ↓sx_qS, ↓sx_qSI, ↓sx_qSIII, sx_rit, sx_rif, sx_rlt, sx_rlf, sx_b0, sx_b1, sx_o0, sx_o1i, sx_o1a, sx_o1l, sx_o2, sx_g0, sx_g1, sx_k1, sx_k2, sx_k3, sx_f1, sx_f2, sx_f3, sx_w0, sx_w1, sx_w2, sx_w3, sx_ts, sx_tn, sx_up, sx_nS1, sx_nS2, sx_nW1, sx_nW2, sx_SW, sx_WS, sy_nS_inj, sy_nW_inj, sx_ob0, sx_ob1, sx_ob2, sx_ob3, sx_ob4, sx_ob5, sx_ob6, sx_ob7, sx_ob8, sx_ob9, sx_ob10, sx_ob11, sx_ob12, sx_ob13, sx_ob14, sx_ob15, sx_ob16, sx_ob17, sx_ob18, sx_ob19, sx_ob20, sx_ob21, sx_ob22, sx_ob23, sx_ob24, sx_ob25, sx_ob26, sx_ob27, sx_ob28, sx_ob29, sx_ob30, sx_ob31, sx_ob32, sx_ob33, sx_ob34, sx_ob35, sx_ob36, sx_fv0_0, sx_fv0_1, sx_fv0_2, sx_fv0_3, sx_fv0_4, sx_fv0_5, sx_fv1_0, sx_fv1_1, sx_fv1_2, sx_fv3_0, sx_fv3_1, sx_fv3_2, sx_fv3_3, sx_fv3_4, sx_fv7_0, sx_fv7_1, sx_fv7_2, sx_fv7_3, sx_fv7_4, sx_fv7_5, sx_fv7_6, sx_fv7_7, sx_fv7_8, sx_fv7_9, sx_fv7_10, sx_fv9_0, sx_fv9_1, sx_fv9_2, sx_fv9_3, sx_fv11_0, sx_fv11_1, sx_fv11_2, sx_fv11_3, sx_fv11_4, sx_fv11_5, sx_fv11_6, sx_fv15_0, sx_fv15_1, sx_fv15_2, sx_fv15_3, sx_fv15_4, sx_fv15_5, sx_fv19_0, sx_fv19_1, sx_fv19_2, sx_fv19_3, sx_fv19_4, sx_fv19_5, sx_fv19_6, sx_fv24_0, sx_fv24_1, sx_fv24_2, sx_fv24_3, sx_fv24_4, sx_fv24_5, sx_fv24_6, sx_fv24_7, sx_fv24_8, sx_fv24_9, sx_fv24_10, sx_fv24_11, sx_fv24_12, sx_fv24_13, sx_fv24_14, sx_fv24_15, sx_fv24_16, sx_fv24_17, sx_fv24_18, sx_fvS_0, sx_fvS_1, sx_fvS_2, sx_fvS_3, sx_fvS_4, sx_fvS_5, sx_fvS_6, sx_fvS_7, sx_fvS_8, sx_fvS_9, sx_ar2, sx_ar4, sx_ar5, sx_ar6, sx_ar8, sx_ar10, sx_ar12, sx_ar13, sx_ar14, sx_ar16, sx_ar17, sx_ar18, sx_ar20, sx_ar21, sx_ar22, sx_ar23, sx_ar25, sx_ar26, sx_ar27, sx_ar28, sx_ar29, sx_ar30, sx_ar31, sx_ar32, sx_ar33, sx_ar34, sx_ar35, sx_ar36, sy_ob_S, sy_ob_W, sy_ar_W, sx_if0, sx_if1, sx_ie0, sx_em, Classical.not_not, sx_cle, sx_clt, sx_cge, sx_cgt, sx_ceq, Nat.reduceLT, Nat.reduceLeDiff, Nat.reduceAdd, Nat.reduceSub, Nat.reduceEqDiff, reduceIte, List.length_cons, List.length_nil, true_and, and_true, and_self, Bool.false_eq_true, true_implies, not_true_eq_false, not_false_eq_true, false_implies, implies_true, ne_eq, reduceCtorEq, Option.some.injEq, false_and, and_false, Int.reduceNeg, Int.reduceToNat, Int.reduceLT, Int.reduceLE, Int.reduceEq, Int.reduceAdd, Int.reduceSub, Int.reduceMul, or_false, false_or, or_true, true_or, forall_const, Int.toNat_natCast, Int.toNat_zero, Int.toNat_one, Nat.zero_add, or_self, Int.neg_eq_zero]
      exact ⟨hm, fun _ => h, fun q => by omega⟩
    | succ d ih =>
      intro f hf h
      refine hgo 100 _ _ _ _ ?_
      simp -implicitDefEqProofs only [↓rx_9_fits_0, ↓rx_9_fits_1, ↓rx_9_fits_2, ↓rx_9_fits_3, ↓rx_9_fits_4, ↓rx_9_fits_5, ↓rx_9_fits_6, ↓rx_9_fits_9, ↓rx_9_fits_12, ↓rx_9_fits_13, ↓rx_9_fits_14, ↓rx_9_fits_17, ↓rx_9_fits_20, ↓rx_9_fits_23, ↓rx_9_fits_24, ↓rx_9_fits_25, ↓rx_9_fits_28, ↓rx_9_fits_29, ↓rx_9_fits_30, ↓rx_9_fits_33, ↓rx_9_fits_36, ↓rx_9_fits_39, ↓rx_9_fits_40, ↓cx_9_fits_89, ↓cx_9_fits_113, sp_9_figures, sp_9_wrong, ↓sx_s1, ↓sx_s2, ↓sx_s3, ↓sx_s4, ↓sx_s5, ↓sx_s6, ↓sx_m0, ↓sx_m1, ↓sx_m2, ↓sx_m3, ↓sx_m4, ↓sx_m5, ↓sx_m6, ↓sx_k0_, ↓sx_k1_, ↓sx_k2_, ↓sx_k3_, ↓sx_k4_, ↓sx_k5_, ↓sx_k6_, ↓sx_sLL, ↓sx_sAI, ↓sx_mLL, ↓sx_mIIL, ↓sx_mIILL, ↓sx_mIILLL, ↓sx_qS, ↓sx_qSI, ↓sx_qSIII, sx_rit, sx_rif, sx_rlt, sx_rlf, sx_b0, sx_b1, sx_o0, sx_o1i, sx_o1a, sx_o1l, sx_o2, sx_g0, sx_g1, sx_k1, sx_k2, sx_k3, sx_f1, sx_f2, sx_f3, sx_w0, sx_w1, sx_w2, sx_w3, sx_ts, sx_tn, sx_up, sx_nS1, sx_nS2, sx_nW1, sx_nW2, sx_SW, sx_WS, sy_nS_inj, sy_nW_inj, sx_ob0, sx_ob1, sx_ob2, sx_ob3, sx_ob4, sx_ob5, sx_ob6, sx_ob7, sx_ob8, sx_ob9, sx_ob10, sx_ob11, sx_ob12, sx_ob13, sx_ob14, sx_ob15, sx_ob16, sx_ob17, sx_ob18, sx_ob19, sx_ob20, sx_ob21, sx_ob22, sx_ob23, sx_ob24, sx_ob25, sx_ob26, sx_ob27, sx_ob28, sx_ob29, sx_ob30, sx_ob31, sx_ob32, sx_ob33, sx_ob34, sx_ob35, sx_ob36, sx_fv0_0, sx_fv0_1, sx_fv0_2, sx_fv0_3, sx_fv0_4, sx_fv0_5, sx_fv1_0, sx_fv1_1, sx_fv1_2, sx_fv3_0, sx_fv3_1, sx_fv3_2, sx_fv3_3, sx_fv3_4, sx_fv7_0, sx_fv7_1, sx_fv7_2, sx_fv7_3, sx_fv7_4, sx_fv7_5, sx_fv7_6, sx_fv7_7, sx_fv7_8, sx_fv7_9, sx_fv7_10, sx_fv9_0, sx_fv9_1, sx_fv9_2, sx_fv9_3, sx_fv11_0, sx_fv11_1, sx_fv11_2, sx_fv11_3, sx_fv11_4, sx_fv11_5, sx_fv11_6, sx_fv15_0, sx_fv15_1, sx_fv15_2, sx_fv15_3, sx_fv15_4, sx_fv15_5, sx_fv19_0, sx_fv19_1, sx_fv19_2, sx_fv19_3, sx_fv19_4, sx_fv19_5, sx_fv19_6, sx_fv24_0, sx_fv24_1, sx_fv24_2, sx_fv24_3, sx_fv24_4, sx_fv24_5, sx_fv24_6, sx_fv24_7, sx_fv24_8, sx_fv24_9, sx_fv24_10, sx_fv24_11, sx_fv24_12, sx_fv24_13, sx_fv24_14, sx_fv24_15, sx_fv24_16, sx_fv24_17, sx_fv24_18, sx_fvS_0, sx_fvS_1, sx_fvS_2, sx_fvS_3, sx_fvS_4, sx_fvS_5, sx_fvS_6, sx_fvS_7, sx_fvS_8, sx_fvS_9, sx_ar2, sx_ar4, sx_ar5, sx_ar6, sx_ar8, sx_ar10, sx_ar12, sx_ar13, sx_ar14, sx_ar16, sx_ar17, sx_ar18, sx_ar20, sx_ar21, sx_ar22, sx_ar23, sx_ar25, sx_ar26, sx_ar27, sx_ar28, sx_ar29, sx_ar30, sx_ar31, sx_ar32, sx_ar33, sx_ar34, sx_ar35, sx_ar36, sy_ob_S, sy_ob_W, sy_ar_W, sx_if0, sx_if1, sx_ie0, sx_em, Classical.not_not, sx_cle, sx_clt, sx_cge, sx_cgt, sx_ceq, Nat.reduceLT, Nat.reduceLeDiff, Nat.reduceAdd, Nat.reduceSub, Nat.reduceEqDiff, reduceIte, List.length_cons, List.length_nil, true_and, and_true, and_self, Bool.false_eq_true, true_implies, not_true_eq_false, not_false_eq_true, false_implies, implies_true, ne_eq, reduceCtorEq, Option.some.injEq, false_and, and_false, Int.reduceNeg, Int.reduceToNat, Int.reduceLT, Int.reduceLE, Int.reduceEq, Int.reduceAdd, Int.reduceSub, Int.reduceMul, or_false, false_or, or_true, true_or, forall_const, Int.toNat_natCast, Int.toNat_zero, Int.toNat_one, Nat.zero_add, or_self, Int.neg_eq_zero]
      have hc := xc_rng (m_ft ns st) f
      have hw := xc_rng (fun s => !m_ag st (f : Int) s) ns
      have i1 := ih (f + 1) (by omega)
      simp only [xc, m_ft, decide_eq_true_eq] at i1
      simp only [xk, m_ft, decide_eq_true_eq] at h
      have e : ((f : Int) + 1) = ((f + 1 : Nat) : Int) := by omega
      rw [e]
      refine ⟨hm, fun q => by omega, fun _ => ⟨⟨hm, by omega, by omega⟩, fun c => ?_, fun c => ⟨by omega, ?_⟩⟩⟩
      · have hw0 : m_wr ns st f = 0 := by unfold m_wr at c ⊢; omega
        rw [if_pos hw0] at i1
        refine ⟨fun c2 => ⟨by omega, by omega, ?_⟩, fun c2 => ?_⟩
        · rw [if_neg (fun q => c2 q.2)] at h
          exact i1 h
        · rw [if_pos ⟨hw0, c2⟩] at h
          exact h
      · have hw0 : ¬ m_wr ns st f = 0 := by omega
        rw [if_neg hw0, Int.add_zero] at i1
        rw [if_neg (fun q => hw0 q.1)] at h
        exact i1 h
  refine hgo 100 _ _ _ _ ?_
  simp -implicitDefEqProofs only [↓rx_9_fits_0, ↓rx_9_fits_1, ↓rx_9_fits_2, ↓rx_9_fits_3, ↓rx_9_fits_4, ↓rx_9_fits_5, ↓rx_9_fits_6, ↓rx_9_fits_9, ↓rx_9_fits_12, ↓rx_9_fits_13, ↓rx_9_fits_14, ↓rx_9_fits_17, ↓rx_9_fits_20, ↓rx_9_fits_23, ↓rx_9_fits_24, ↓rx_9_fits_25, ↓rx_9_fits_28, ↓rx_9_fits_29, ↓rx_9_fits_30, ↓rx_9_fits_33, ↓rx_9_fits_36, ↓rx_9_fits_39, ↓rx_9_fits_40, ↓cx_9_fits_89, ↓cx_9_fits_113, sp_9_figures, sp_9_wrong, ↓sx_s1, ↓sx_s2, ↓sx_s3, ↓sx_s4, ↓sx_s5, ↓sx_s6, ↓sx_m0, ↓sx_m1, ↓sx_m2, ↓sx_m3, ↓sx_m4, ↓sx_m5, ↓sx_m6, ↓sx_k0_, ↓sx_k1_, ↓sx_k2_, ↓sx_k3_, ↓sx_k4_, ↓sx_k5_, ↓sx_k6_, ↓sx_sLL, ↓sx_sAI, ↓sx_mLL, ↓sx_mIIL, ↓sx_mIILL, ↓sx_mIILLL, ↓sx_qS, ↓sx_qSI, ↓sx_qSIII, sx_rit, sx_rif, sx_rlt, sx_rlf, sx_b0, sx_b1, sx_o0, sx_o1i, sx_o1a, sx_o1l, sx_o2, sx_g0, sx_g1, sx_k1, sx_k2, sx_k3, sx_f1, sx_f2, sx_f3, sx_w0, sx_w1, sx_w2, sx_w3, sx_ts, sx_tn, sx_up, sx_nS1, sx_nS2, sx_nW1, sx_nW2, sx_SW, sx_WS, sy_nS_inj, sy_nW_inj, sx_ob0, sx_ob1, sx_ob2, sx_ob3, sx_ob4, sx_ob5, sx_ob6, sx_ob7, sx_ob8, sx_ob9, sx_ob10, sx_ob11, sx_ob12, sx_ob13, sx_ob14, sx_ob15, sx_ob16, sx_ob17, sx_ob18, sx_ob19, sx_ob20, sx_ob21, sx_ob22, sx_ob23, sx_ob24, sx_ob25, sx_ob26, sx_ob27, sx_ob28, sx_ob29, sx_ob30, sx_ob31, sx_ob32, sx_ob33, sx_ob34, sx_ob35, sx_ob36, sx_fv0_0, sx_fv0_1, sx_fv0_2, sx_fv0_3, sx_fv0_4, sx_fv0_5, sx_fv1_0, sx_fv1_1, sx_fv1_2, sx_fv3_0, sx_fv3_1, sx_fv3_2, sx_fv3_3, sx_fv3_4, sx_fv7_0, sx_fv7_1, sx_fv7_2, sx_fv7_3, sx_fv7_4, sx_fv7_5, sx_fv7_6, sx_fv7_7, sx_fv7_8, sx_fv7_9, sx_fv7_10, sx_fv9_0, sx_fv9_1, sx_fv9_2, sx_fv9_3, sx_fv11_0, sx_fv11_1, sx_fv11_2, sx_fv11_3, sx_fv11_4, sx_fv11_5, sx_fv11_6, sx_fv15_0, sx_fv15_1, sx_fv15_2, sx_fv15_3, sx_fv15_4, sx_fv15_5, sx_fv19_0, sx_fv19_1, sx_fv19_2, sx_fv19_3, sx_fv19_4, sx_fv19_5, sx_fv19_6, sx_fv24_0, sx_fv24_1, sx_fv24_2, sx_fv24_3, sx_fv24_4, sx_fv24_5, sx_fv24_6, sx_fv24_7, sx_fv24_8, sx_fv24_9, sx_fv24_10, sx_fv24_11, sx_fv24_12, sx_fv24_13, sx_fv24_14, sx_fv24_15, sx_fv24_16, sx_fv24_17, sx_fv24_18, sx_fvS_0, sx_fvS_1, sx_fvS_2, sx_fvS_3, sx_fvS_4, sx_fvS_5, sx_fvS_6, sx_fvS_7, sx_fvS_8, sx_fvS_9, sx_ar2, sx_ar4, sx_ar5, sx_ar6, sx_ar8, sx_ar10, sx_ar12, sx_ar13, sx_ar14, sx_ar16, sx_ar17, sx_ar18, sx_ar20, sx_ar21, sx_ar22, sx_ar23, sx_ar25, sx_ar26, sx_ar27, sx_ar28, sx_ar29, sx_ar30, sx_ar31, sx_ar32, sx_ar33, sx_ar34, sx_ar35, sx_ar36, sy_ob_S, sy_ob_W, sy_ar_W, sx_if0, sx_if1, sx_ie0, sx_em, Classical.not_not, sx_cle, sx_clt, sx_cge, sx_cgt, sx_ceq, Nat.reduceLT, Nat.reduceLeDiff, Nat.reduceAdd, Nat.reduceSub, Nat.reduceEqDiff, reduceIte, List.length_cons, List.length_nil, true_and, and_true, and_self, Bool.false_eq_true, true_implies, not_true_eq_false, not_false_eq_true, false_implies, implies_true, ne_eq, reduceCtorEq, Option.some.injEq, false_and, and_false, Int.reduceNeg, Int.reduceToNat, Int.reduceLT, Int.reduceLE, Int.reduceEq, Int.reduceAdd, Int.reduceSub, Int.reduceMul, or_false, false_or, or_true, true_or, forall_const, Int.toNat_natCast, Int.toNat_zero, Int.toNat_one, Nat.zero_add, or_self, Int.neg_eq_zero]
  exact key (m_tot st).toNat 0 (by omega) h
/-- w times h of a figure -/
def m_wh (st : sy_S) (f : Nat) : Int := m_fg st f 2 * m_fg st f 3
theorem m_wh_rng {st : sy_S} (h : m_net st) (f : Nat) : 1 ≤ m_wh st f ∧ m_wh st f ≤ 4000000 := by
  have hr := xg_f_rng h f
  have a := Int.mul_le_mul (a := m_fg st f 2) (b := m_fg st f 3) (c := 2000) (d := 2000) hr.2.2.1.2 hr.2.2.2.2 (by have := hr.2.2.2.1; unfold m_fg; omega) (by omega)
  have b := Int.mul_le_mul (a := 1) (b := 1) (c := m_fg st f 2) (d := m_fg st f 3) hr.2.2.1.1 hr.2.2.2.1 (by omega) (by have := hr.2.2.1.1; unfold m_fg; omega)
  unfold m_wh
  omega
theorem xs_rng (g : Bool) (p : Nat → Bool) {v : Nat → Int} (hv : ∀ f, 1 ≤ v f ∧ v f ≤ 4000000) : ∀ n, -1 ≤ xs g p v n ∧ xs g p v n ≤ 4000000
  | 0 => by simp [xs]
  | n + 1 => by
    have := xs_rng g p hv n
    have := hv n
    simp only [xs]
    split <;> omega
def sp_9_size (ns : Nat) : sy_Sp := sy_m1 24 fun g st post => m_ok ns st ∧ post (some (.inl (true, xs (decide (g ≠ 0)) (m_ft ns st) (m_wh st) (m_tot st).toNat))) st
def ct_9_size (ns q : Nat) : Option (Bool × Nat × sy_Sp) := match q with
  | 89 => some (false, 1, sp_9_figures ns)
  | 96 => some (false, 3, sp_9_part ns)
  | 113 => some (false, 2, sp_9_wrong ns)
  | _ => none
abbrev M_9_size (ns : Nat) : sy_M := Mk_9_size (ct_9_size ns)
theorem cx_9_size_89 {ns : Nat} {v1 : sy_V} {r : List sy_V} {s : sy_S} {f : List sy_V → sy_S → Prop} : sy_call false (ct_9_size ns 89) (v1 :: r) s f = (sy_wd r ≤ 8 ∧ (sy_fit v1) ∧ sp_9_figures ns [sy_kn v1] s (fun q t => f (q.toList ++ r) t)) := sx_call1
theorem cx_9_size_96 {ns : Nat} {v1 v2 v3 : sy_V} {r : List sy_V} {s : sy_S} {f : List sy_V → sy_S → Prop} : sy_call false (ct_9_size ns 96) (v3 :: v2 :: v1 :: r) s f = (sy_wd r ≤ 8 ∧ (sy_fit v3 ∧ sy_fit v2 ∧ sy_fit v1) ∧ sp_9_part ns [sy_kn v1, sy_kn v2, sy_kn v3] s (fun q t => f (q.toList ++ r) t)) := sx_call3
theorem cx_9_size_113 {ns : Nat} {v1 v2 : sy_V} {r : List sy_V} {s : sy_S} {f : List sy_V → sy_S → Prop} : sy_call false (ct_9_size ns 113) (v2 :: v1 :: r) s f = (sy_wd r ≤ 8 ∧ (sy_fit v2 ∧ sy_fit v1) ∧ sp_9_wrong ns [sy_kn v1, sy_kn v2] s (fun q t => f (q.toList ++ r) t)) := sx_call2
theorem mv_9_size (ns : Nat) : sy_MV c_9_size y_9_size.cls (some .int) (M_9_size ns) := ⟨tv_9_size, ff_9_ok, ki_9_ok, kl_9_ok⟩
abbrev rm_9_size : Room := { frames := 4, cells := 0, slots := 0, locals := 106 }
theorem co_9_size (l : Launch) : sy_calls l rm_9_size y_9_size.cls c_9_size 5 (fun ns => (M_9_size ns).2.2.2.2.1) := by
  intro p e s m args below meth c rt wd ad ns A Q X hA q b n sp h
  replace h : ct_9_size ns q = some (b, n, sp) := h
  unfold ct_9_size at h
  split at h
  · cases h; exact sy_coV (ci := 9) X hA (mc_9_figures l) ⟨iw_9_figures.1, iw_9_figures.2.1, iw_9_figures.2.2, ⟨by decide, by decide⟩, rfl, rfl⟩ (sy_inx 922 (by decide +kernel) (by decide +kernel)) ii_9_figures.1 ii_9_figures.2 (rc_9_figures ns) ⟨_, rfl, rfl⟩
  · cases h; exact sy_coV (ci := 9) X hA (mc_9_part l) ⟨iw_9_part.1, iw_9_part.2.1, iw_9_part.2.2, ⟨by decide, by decide⟩, rfl, rfl⟩ (sy_inx 923 (by decide +kernel) (by decide +kernel)) ii_9_part.1 ii_9_part.2 (rc_9_part ns) ⟨_, rfl, rfl⟩
  · cases h; exact sy_coV (ci := 9) X hA (mc_9_wrong l) ⟨iw_9_wrong.1, iw_9_wrong.2.1, iw_9_wrong.2.2, ⟨by decide, by decide⟩, rfl, rfl⟩ (sy_inx 951 (by decide +kernel) (by decide +kernel)) ii_9_wrong.1 ii_9_wrong.2 (rc_9_wrong ns) ⟨_, rfl, rfl⟩
  · cases h
theorem rc_9_size (ns : Nat) (as : List sy_V) (st : sy_S) (post : sy_R) (h : sp_9_size ns as st post) : ∃ b as', as = .inr (.inr (some (some b))) :: as' ∧ sy_ob b = some 9 := sy_m1_r rfl as st post h
theorem mc_9_size (l : Launch) : sy_MC l y_9_size c_9_size 5 (some .int) rm_9_size sp_9_size := by
  refine sy_meth M_9_size (by decide +kernel) mv_9_size (co_9_size l) ?_
  intro ns as st post WA h hok hrg ⟨hgo0, hin, hwk⟩
  have hgo : ∀ (n pc : Nat) (L k : List sy_V) (st : sy_S), rn_9_size ns (ct_9_size ns) post WA n pc L k st → WA pc L k st := fun n pc L k st h => hgo0 [4] n pc L k st h
  replace h := sy_m1_e h hok
  obtain ⟨g, rfl, hg, h⟩ := h
  refine ⟨Nat.le_of_ble_eq_true rfl, ?_⟩
  show WA 0 [.inr (.inr (some (some 24))), .inl (true, g), .inr (.inr none), .inr (.inr none), .inr (.inr none)] [] st
  obtain ⟨hm, h⟩ := h
  have ht := m_tot_r hm.2.2
  have key : ∀ (d f : Nat) (x4 : sy_V), f + d = (m_tot st).toNat → WA 4 [.inr (.inr (some (some 24))), .inl (true, g), .inl (true, xs (decide (g ≠ 0)) (m_ft ns st) (m_wh st) f), .inl (true, (f : Int)), .inr (.inr none)] [] st := by
    intro d
    induction d with
    | zero =>
      intro f x4 hf
      refine hgo 100 _ _ _ _ ?_
      simp -implicitDefEqProofs only [↓rx_9_size_0, ↓rx_9_size_1, ↓rx_9_size_2, ↓rx_9_size_3, ↓rx_9_size_4, ↓rx_9_size_5, ↓rx_9_size_6, ↓rx_9_size_9, ↓rx_9_size_12, ↓rx_9_size_13, ↓rx_9_size_14, ↓rx_9_size_17, ↓rx_9_size_20, ↓rx_9_size_23, ↓rx_9_size_24, ↓rx_9_size_25, ↓rx_9_size_26, ↓rx_9_size_29, ↓rx_9_size_30, ↓rx_9_size_31, ↓rx_9_size_32, ↓rx_9_size_35, ↓rx_9_size_36, ↓rx_9_size_38, ↓rx_9_size_39, ↓rx_9_size_40, ↓rx_9_size_43, ↓rx_9_size_44, ↓rx_9_size_47, ↓rx_9_size_49, ↓rx_9_size_50, ↓rx_9_size_53, ↓rx_9_size_56, ↓rx_9_size_58, ↓rx_9_size_59, ↓rx_9_size_62, ↓rx_9_size_64, ↓rx_9_size_65, ↓rx_9_size_68, ↓rx_9_size_71, ↓rx_9_size_72, ↓cx_9_size_89, ↓cx_9_size_96, ↓cx_9_size_113, sp_9_figures, sp_9_part, sp_9_wrong, ↓sx_s1, ↓sx_s2, ↓sx_s3, ↓sx_s4, ↓sx_s5, ↓sx_s6, ↓sx_m0, ↓sx_m1, ↓sx_m2, ↓sx_m3, ↓sx_m4, ↓sx_m5, ↓sx_m6, ↓sx_k0_, ↓sx_k1_, ↓sx_k2_, ↓sx_k3_, ↓sx_k4_, ↓sx_k5_, ↓sx_k6_, ↓sx_sLL, ↓sx_sAI, ↓sx_mLL, ↓sx_mIIL, ↓sx_mIILL, ↓sx_mIILLL, ↓sx_qS, ↓sx_qSI, ↓sx_qSIII, sx_rit, sx_rif, sx_rlt, sx_rlf, sx_b0, sx_b1, sx_o0, sx_o1i, sx_o1a, sx_o1l, sx_o2, sx_g0, sx_g1, sx_k1, sx_k2, sx_k3, sx_f1, sx_f2, sx_f3, sx_w0, sx_w1, sx_w2, sx_w3, sx_ts, sx_tn, sx_up, sx_nS1, sx_nS2, sx_nW1, sx_nW2, sx_SW, sx_WS, sy_nS_inj, sy_nW_inj, sx_ob0, sx_ob1, sx_ob2, sx_ob3, sx_ob4, sx_ob5, sx_ob6, sx_ob7, sx_ob8, sx_ob9, sx_ob10, sx_ob11, sx_ob12, sx_ob13, sx_ob14, sx_ob15, sx_ob16, sx_ob17, sx_ob18, sx_ob19, sx_ob20, sx_ob21, sx_ob22, sx_ob23, sx_ob24, sx_ob25, sx_ob26, sx_ob27, sx_ob28, sx_ob29, sx_ob30, sx_ob31, sx_ob32, sx_ob33, sx_ob34, sx_ob35, sx_ob36, sx_fv0_0, sx_fv0_1, sx_fv0_2, sx_fv0_3, sx_fv0_4, sx_fv0_5, sx_fv1_0, sx_fv1_1, sx_fv1_2, sx_fv3_0, sx_fv3_1, sx_fv3_2, sx_fv3_3, sx_fv3_4, sx_fv7_0, sx_fv7_1, sx_fv7_2, sx_fv7_3, sx_fv7_4, sx_fv7_5, sx_fv7_6, sx_fv7_7, sx_fv7_8, sx_fv7_9, sx_fv7_10, sx_fv9_0, sx_fv9_1, sx_fv9_2, sx_fv9_3, sx_fv11_0, sx_fv11_1, sx_fv11_2, sx_fv11_3, sx_fv11_4, sx_fv11_5, sx_fv11_6, sx_fv15_0, sx_fv15_1, sx_fv15_2, sx_fv15_3, sx_fv15_4, sx_fv15_5, sx_fv19_0, sx_fv19_1, sx_fv19_2, sx_fv19_3, sx_fv19_4, sx_fv19_5, sx_fv19_6, sx_fv24_0, sx_fv24_1, sx_fv24_2, sx_fv24_3, sx_fv24_4, sx_fv24_5, sx_fv24_6, sx_fv24_7, sx_fv24_8, sx_fv24_9, sx_fv24_10, sx_fv24_11, sx_fv24_12, sx_fv24_13, sx_fv24_14, sx_fv24_15, sx_fv24_16, sx_fv24_17, sx_fv24_18, sx_fvS_0, sx_fvS_1, sx_fvS_2, sx_fvS_3, sx_fvS_4, sx_fvS_5, sx_fvS_6, sx_fvS_7, sx_fvS_8, sx_fvS_9, sx_ar2, sx_ar4, sx_ar5, sx_ar6, sx_ar8, sx_ar10, sx_ar12, sx_ar13, sx_ar14, sx_ar16, sx_ar17, sx_ar18, sx_ar20, sx_ar21, sx_ar22, sx_ar23, sx_ar25, sx_ar26, sx_ar27, sx_ar28, sx_ar29, sx_ar30, sx_ar31, sx_ar32, sx_ar33, sx_ar34, sx_ar35, sx_ar36, sy_ob_S, sy_ob_W, sy_ar_W, sx_if0, sx_if1, sx_ie0, sx_em, Classical.not_not, sx_cle, sx_clt, sx_cge, sx_cgt, sx_ceq, Nat.reduceLT, Nat.reduceLeDiff, Nat.reduceAdd, Nat.reduceSub, Nat.reduceEqDiff, reduceIte, List.length_cons, List.length_nil, true_and, and_true, and_self, Bool.false_eq_true, true_implies, not_true_eq_false, not_false_eq_true, false_implies, implies_true, ne_eq, reduceCtorEq, Option.some.injEq, false_and, and_false, Int.reduceNeg, Int.reduceToNat, Int.reduceLT, Int.reduceLE, Int.reduceEq, Int.reduceAdd, Int.reduceSub, Int.reduceMul, or_false, false_or, or_true, true_or, forall_const, Int.toNat_natCast, Int.toNat_zero, Int.toNat_one, Nat.zero_add, or_self, Int.neg_eq_zero]
      refine ⟨hm, fun _ => ?_, fun q => by omega⟩
      rw [show f = (m_tot st).toNat by omega]
      exact h
    | succ d ih =>
      intro f x4 hf
      refine hgo 200 _ _ _ _ ?_
      simp -implicitDefEqProofs only [↓rx_9_size_0, ↓rx_9_size_1, ↓rx_9_size_2, ↓rx_9_size_3, ↓rx_9_size_4, ↓rx_9_size_5, ↓rx_9_size_6, ↓rx_9_size_9, ↓rx_9_size_12, ↓rx_9_size_13, ↓rx_9_size_14, ↓rx_9_size_17, ↓rx_9_size_20, ↓rx_9_size_23, ↓rx_9_size_24, ↓rx_9_size_25, ↓rx_9_size_26, ↓rx_9_size_29, ↓rx_9_size_30, ↓rx_9_size_31, ↓rx_9_size_32, ↓rx_9_size_35, ↓rx_9_size_36, ↓rx_9_size_38, ↓rx_9_size_39, ↓rx_9_size_40, ↓rx_9_size_43, ↓rx_9_size_44, ↓rx_9_size_47, ↓rx_9_size_49, ↓rx_9_size_50, ↓rx_9_size_53, ↓rx_9_size_56, ↓rx_9_size_58, ↓rx_9_size_59, ↓rx_9_size_62, ↓rx_9_size_64, ↓rx_9_size_65, ↓rx_9_size_68, ↓rx_9_size_71, ↓rx_9_size_72, ↓cx_9_size_89, ↓cx_9_size_96, ↓cx_9_size_113, sp_9_figures, sp_9_part, sp_9_wrong, ↓sx_s1, ↓sx_s2, ↓sx_s3, ↓sx_s4, ↓sx_s5, ↓sx_s6, ↓sx_m0, ↓sx_m1, ↓sx_m2, ↓sx_m3, ↓sx_m4, ↓sx_m5, ↓sx_m6, ↓sx_k0_, ↓sx_k1_, ↓sx_k2_, ↓sx_k3_, ↓sx_k4_, ↓sx_k5_, ↓sx_k6_, ↓sx_sLL, ↓sx_sAI, ↓sx_mLL, ↓sx_mIIL, ↓sx_mIILL, ↓sx_mIILLL, ↓sx_qS, ↓sx_qSI, ↓sx_qSIII, sx_rit, sx_rif, sx_rlt, sx_rlf, sx_b0, sx_b1, sx_o0, sx_o1i, sx_o1a, sx_o1l, sx_o2, sx_g0, sx_g1, sx_k1, sx_k2, sx_k3, sx_f1, sx_f2, sx_f3, sx_w0, sx_w1, sx_w2, sx_w3, sx_ts, sx_tn, sx_up, sx_nS1, sx_nS2, sx_nW1, sx_nW2, sx_SW, sx_WS, sy_nS_inj, sy_nW_inj, sx_ob0, sx_ob1, sx_ob2, sx_ob3, sx_ob4, sx_ob5, sx_ob6, sx_ob7, sx_ob8, sx_ob9, sx_ob10, sx_ob11, sx_ob12, sx_ob13, sx_ob14, sx_ob15, sx_ob16, sx_ob17, sx_ob18, sx_ob19, sx_ob20, sx_ob21, sx_ob22, sx_ob23, sx_ob24, sx_ob25, sx_ob26, sx_ob27, sx_ob28, sx_ob29, sx_ob30, sx_ob31, sx_ob32, sx_ob33, sx_ob34, sx_ob35, sx_ob36, sx_fv0_0, sx_fv0_1, sx_fv0_2, sx_fv0_3, sx_fv0_4, sx_fv0_5, sx_fv1_0, sx_fv1_1, sx_fv1_2, sx_fv3_0, sx_fv3_1, sx_fv3_2, sx_fv3_3, sx_fv3_4, sx_fv7_0, sx_fv7_1, sx_fv7_2, sx_fv7_3, sx_fv7_4, sx_fv7_5, sx_fv7_6, sx_fv7_7, sx_fv7_8, sx_fv7_9, sx_fv7_10, sx_fv9_0, sx_fv9_1, sx_fv9_2, sx_fv9_3, sx_fv11_0, sx_fv11_1, sx_fv11_2, sx_fv11_3, sx_fv11_4, sx_fv11_5, sx_fv11_6, sx_fv15_0, sx_fv15_1, sx_fv15_2, sx_fv15_3, sx_fv15_4, sx_fv15_5, sx_fv19_0, sx_fv19_1, sx_fv19_2, sx_fv19_3, sx_fv19_4, sx_fv19_5, sx_fv19_6, sx_fv24_0, sx_fv24_1, sx_fv24_2, sx_fv24_3, sx_fv24_4, sx_fv24_5, sx_fv24_6, sx_fv24_7, sx_fv24_8, sx_fv24_9, sx_fv24_10, sx_fv24_11, sx_fv24_12, sx_fv24_13, sx_fv24_14, sx_fv24_15, sx_fv24_16, sx_fv24_17, sx_fv24_18, sx_fvS_0, sx_fvS_1, sx_fvS_2, sx_fvS_3, sx_fvS_4, sx_fvS_5, sx_fvS_6, sx_fvS_7, sx_fvS_8, sx_fvS_9, sx_ar2, sx_ar4, sx_ar5, sx_ar6, sx_ar8, sx_ar10, sx_ar12, sx_ar13, sx_ar14, sx_ar16, sx_ar17, sx_ar18, sx_ar20, sx_ar21, sx_ar22, sx_ar23, sx_ar25, sx_ar26, sx_ar27, sx_ar28, sx_ar29, sx_ar30, sx_ar31, sx_ar32, sx_ar33, sx_ar34, sx_ar35, sx_ar36, sy_ob_S, sy_ob_W, sy_ar_W, sx_if0, sx_if1, sx_ie0, sx_em, Classical.not_not, sx_cle, sx_clt, sx_cge, sx_cgt, sx_ceq, Nat.reduceLT, Nat.reduceLeDiff, Nat.reduceAdd, Nat.reduceSub, Nat.reduceEqDiff, reduceIte, List.length_cons, List.length_nil, true_and, and_true, and_self, Bool.false_eq_true, true_implies, not_true_eq_false, not_false_eq_true, false_implies, implies_true, ne_eq, reduceCtorEq, Option.some.injEq, false_and, and_false, Int.reduceNeg, Int.reduceToNat, Int.reduceLT, Int.reduceLE, Int.reduceEq, Int.reduceAdd, Int.reduceSub, Int.reduceMul, or_false, false_or, or_true, true_or, forall_const, Int.toNat_natCast, Int.toNat_zero, Int.toNat_one, Nat.zero_add, or_self, Int.neg_eq_zero]
      have hs := xs_rng (decide (g ≠ 0)) (m_ft ns st) (m_wh_rng hm.2.2) f
      have hw := xc_rng (fun s => !m_ag st (f : Int) s) ns
      have i1 := ih (f + 1) x4 (by omega)
      have hwh := m_wh_rng hm.2.2 f
      have e9 : m_fg st (f : Int) 2 * m_fg st (f : Int) 3 = m_wh st f := rfl
      have e : ((f : Int) + 1) = ((f + 1 : Nat) : Int) := by omega
      rw [e, e9]
      simp only [xs, m_ft, decide_eq_true_eq] at i1
      change WA 4 [_, _, .inl (true, if m_wr ns st f = 0 ∧ (xs (decide (g ≠ 0)) (m_ft ns st) (m_wh st) f = -1 ∨ if g ≠ 0 then xs (decide (g ≠ 0)) (m_ft ns st) (m_wh st) f < m_wh st f else m_wh st f < xs (decide (g ≠ 0)) (m_ft ns st) (m_wh st) f) then m_wh st f else xs (decide (g ≠ 0)) (m_ft ns st) (m_wh st) f), _, _] [] st at i1
      generalize xs (decide (g ≠ 0)) (m_ft ns st) (m_wh st) f = b at *
      generalize m_wh st f = v at *
      have j1 : ∀ w : sy_V, WA 4 [.inr (.inr (some (some 24))), .inl (true, g), .inl (true, if m_wr ns st f = 0 ∧ (b = -1 ∨ if g ≠ 0 then b < v else v < b) then v else b), .inl (true, ((f + 1 : Nat) : Int)), w] [] st := fun w => hwk _ _ _ _ _ (by exact ⟨Or.inl rfl, Or.inl rfl, Or.inl rfl, Or.inl rfl, Or.inr rfl, trivial⟩) i1
      refine ⟨hm, fun q => by omega, fun _ => ⟨⟨hm, by omega, by omega⟩, fun c => ?_, fun c => ⟨by omega, ?_⟩⟩⟩
      · have hw0 : m_wr ns st f = 0 := by unfold m_wr at c ⊢; omega
        refine ⟨⟨hm, by omega, by omega⟩, ⟨hm, by omega, by omega⟩, ⟨by omega, by omega⟩, fun c1 => ⟨by omega, ?_⟩, fun c1 => ⟨fun c2 => ⟨fun c3 => ⟨by omega, ?_⟩, fun c3 => ⟨by omega, ?_⟩⟩, fun c2 => ⟨fun c3 => ⟨by omega, ?_⟩, fun c3 => ⟨by omega, ?_⟩⟩⟩⟩
        all_goals have j2 := j1 (.inl (true, v))
        · rwa [if_pos ⟨hw0, Or.inl c1⟩] at j2
        · rwa [if_neg (fun q => q.2.elim c1 (fun q => by rw [if_neg (by simp [c2])] at q; omega))] at j2
        · rwa [if_pos ⟨hw0, Or.inr (by rw [if_neg (by simp [c2])]; omega)⟩] at j2
        · rwa [if_neg (fun q => q.2.elim c1 (fun q => by rw [if_pos c2] at q; omega))] at j2
        · rwa [if_pos ⟨hw0, Or.inr (by rw [if_pos c2]; omega)⟩] at j2
      · have hw0 : ¬ m_wr ns st f = 0 := by omega
        have := j1 (.inr (.inr none))
        rwa [if_neg (fun q => hw0 q.1)] at this
  refine hgo 100 _ _ _ _ ?_
  simp -implicitDefEqProofs only [↓rx_9_size_0, ↓rx_9_size_1, ↓rx_9_size_2, ↓rx_9_size_3, ↓rx_9_size_4, ↓rx_9_size_5, ↓rx_9_size_6, ↓rx_9_size_9, ↓rx_9_size_12, ↓rx_9_size_13, ↓rx_9_size_14, ↓rx_9_size_17, ↓rx_9_size_20, ↓rx_9_size_23, ↓rx_9_size_24, ↓rx_9_size_25, ↓rx_9_size_26, ↓rx_9_size_29, ↓rx_9_size_30, ↓rx_9_size_31, ↓rx_9_size_32, ↓rx_9_size_35, ↓rx_9_size_36, ↓rx_9_size_38, ↓rx_9_size_39, ↓rx_9_size_40, ↓rx_9_size_43, ↓rx_9_size_44, ↓rx_9_size_47, ↓rx_9_size_49, ↓rx_9_size_50, ↓rx_9_size_53, ↓rx_9_size_56, ↓rx_9_size_58, ↓rx_9_size_59, ↓rx_9_size_62, ↓rx_9_size_64, ↓rx_9_size_65, ↓rx_9_size_68, ↓rx_9_size_71, ↓rx_9_size_72, ↓cx_9_size_89, ↓cx_9_size_96, ↓cx_9_size_113, sp_9_figures, sp_9_part, sp_9_wrong, ↓sx_s1, ↓sx_s2, ↓sx_s3, ↓sx_s4, ↓sx_s5, ↓sx_s6, ↓sx_m0, ↓sx_m1, ↓sx_m2, ↓sx_m3, ↓sx_m4, ↓sx_m5, ↓sx_m6, ↓sx_k0_, ↓sx_k1_, ↓sx_k2_, ↓sx_k3_, ↓sx_k4_, ↓sx_k5_, ↓sx_k6_, ↓sx_sLL, ↓sx_sAI, ↓sx_mLL, ↓sx_mIIL, ↓sx_mIILL, ↓sx_mIILLL, ↓sx_qS, ↓sx_qSI, ↓sx_qSIII, sx_rit, sx_rif, sx_rlt, sx_rlf, sx_b0, sx_b1, sx_o0, sx_o1i, sx_o1a, sx_o1l, sx_o2, sx_g0, sx_g1, sx_k1, sx_k2, sx_k3, sx_f1, sx_f2, sx_f3, sx_w0, sx_w1, sx_w2, sx_w3, sx_ts, sx_tn, sx_up, sx_nS1, sx_nS2, sx_nW1, sx_nW2, sx_SW, sx_WS, sy_nS_inj, sy_nW_inj, sx_ob0, sx_ob1, sx_ob2, sx_ob3, sx_ob4, sx_ob5, sx_ob6, sx_ob7, sx_ob8, sx_ob9, sx_ob10, sx_ob11, sx_ob12, sx_ob13, sx_ob14, sx_ob15, sx_ob16, sx_ob17, sx_ob18, sx_ob19, sx_ob20, sx_ob21, sx_ob22, sx_ob23, sx_ob24, sx_ob25, sx_ob26, sx_ob27, sx_ob28, sx_ob29, sx_ob30, sx_ob31, sx_ob32, sx_ob33, sx_ob34, sx_ob35, sx_ob36, sx_fv0_0, sx_fv0_1, sx_fv0_2, sx_fv0_3, sx_fv0_4, sx_fv0_5, sx_fv1_0, sx_fv1_1, sx_fv1_2, sx_fv3_0, sx_fv3_1, sx_fv3_2, sx_fv3_3, sx_fv3_4, sx_fv7_0, sx_fv7_1, sx_fv7_2, sx_fv7_3, sx_fv7_4, sx_fv7_5, sx_fv7_6, sx_fv7_7, sx_fv7_8, sx_fv7_9, sx_fv7_10, sx_fv9_0, sx_fv9_1, sx_fv9_2, sx_fv9_3, sx_fv11_0, sx_fv11_1, sx_fv11_2, sx_fv11_3, sx_fv11_4, sx_fv11_5, sx_fv11_6, sx_fv15_0, sx_fv15_1, sx_fv15_2, sx_fv15_3, sx_fv15_4, sx_fv15_5, sx_fv19_0, sx_fv19_1, sx_fv19_2, sx_fv19_3, sx_fv19_4, sx_fv19_5, sx_fv19_6, sx_fv24_0, sx_fv24_1, sx_fv24_2, sx_fv24_3, sx_fv24_4, sx_fv24_5, sx_fv24_6, sx_fv24_7, sx_fv24_8, sx_fv24_9, sx_fv24_10, sx_fv24_11, sx_fv24_12, sx_fv24_13, sx_fv24_14, sx_fv24_15, sx_fv24_16, sx_fv24_17, sx_fv24_18, sx_fvS_0, sx_fvS_1, sx_fvS_2, sx_fvS_3, sx_fvS_4, sx_fvS_5, sx_fvS_6, sx_fvS_7, sx_fvS_8, sx_fvS_9, sx_ar2, sx_ar4, sx_ar5, sx_ar6, sx_ar8, sx_ar10, sx_ar12, sx_ar13, sx_ar14, sx_ar16, sx_ar17, sx_ar18, sx_ar20, sx_ar21, sx_ar22, sx_ar23, sx_ar25, sx_ar26, sx_ar27, sx_ar28, sx_ar29, sx_ar30, sx_ar31, sx_ar32, sx_ar33, sx_ar34, sx_ar35, sx_ar36, sy_ob_S, sy_ob_W, sy_ar_W, sx_if0, sx_if1, sx_ie0, sx_em, Classical.not_not, sx_cle, sx_clt, sx_cge, sx_cgt, sx_ceq, Nat.reduceLT, Nat.reduceLeDiff, Nat.reduceAdd, Nat.reduceSub, Nat.reduceEqDiff, reduceIte, List.length_cons, List.length_nil, true_and, and_true, and_self, Bool.false_eq_true, true_implies, not_true_eq_false, not_false_eq_true, false_implies, implies_true, ne_eq, reduceCtorEq, Option.some.injEq, false_and, and_false, Int.reduceNeg, Int.reduceToNat, Int.reduceLT, Int.reduceLE, Int.reduceEq, Int.reduceAdd, Int.reduceSub, Int.reduceMul, or_false, false_or, or_true, true_or, forall_const, Int.toNat_natCast, Int.toNat_zero, Int.toNat_one, Nat.zero_add, or_self, Int.neg_eq_zero]
  exact key (m_tot st).toNat 0 (.inr (.inr none)) (by omega)

theorem xb_le (w : Nat → Int) : ∀ n : Nat, xb w n ≤ n
  | 0 => Nat.le_refl 0
  | n + 1 => by
    have := xb_le w n
    simp only [xb]
    split <;> omega
def m_best (ns : Nat) (st : sy_S) : Nat := xb (fun f => m_wr ns st f) ((m_tot st).toNat - 1)
def sp_9_bestFigure (ns : Nat) : sy_Sp := sy_m0 24 fun st post => m_ok ns st ∧ post (some (.inl (true, (m_best ns st : Int)))) st
def ct_9_bestFigure (ns q : Nat) : Option (Bool × Nat × sy_Sp) := match q with
  | 89 => some (false, 1, sp_9_figures ns)
  | 113 => some (false, 2, sp_9_wrong ns)
  | _ => none
abbrev M_9_bestFigure (ns : Nat) : sy_M := Mk_9_bestFigure (ct_9_bestFigure ns)
theorem cx_9_bestFigure_89 {ns : Nat} {v1 : sy_V} {r : List sy_V} {s : sy_S} {f : List sy_V → sy_S → Prop} : sy_call false (ct_9_bestFigure ns 89) (v1 :: r) s f = (sy_wd r ≤ 8 ∧ (sy_fit v1) ∧ sp_9_figures ns [sy_kn v1] s (fun q t => f (q.toList ++ r) t)) := sx_call1
theorem cx_9_bestFigure_113 {ns : Nat} {v1 v2 : sy_V} {r : List sy_V} {s : sy_S} {f : List sy_V → sy_S → Prop} : sy_call false (ct_9_bestFigure ns 113) (v2 :: v1 :: r) s f = (sy_wd r ≤ 8 ∧ (sy_fit v2 ∧ sy_fit v1) ∧ sp_9_wrong ns [sy_kn v1, sy_kn v2] s (fun q t => f (q.toList ++ r) t)) := sx_call2
theorem mv_9_bestFigure (ns : Nat) : sy_MV c_9_bestFigure y_9_bestFigure.cls (some .int) (M_9_bestFigure ns) := ⟨tv_9_bestFigure, ff_9_ok, ki_9_ok, kl_9_ok⟩
abbrev rm_9_bestFigure : Room := { frames := 4, cells := 0, slots := 0, locals := 106 }
theorem co_9_bestFigure (l : Launch) : sy_calls l rm_9_bestFigure y_9_bestFigure.cls c_9_bestFigure 5 (fun ns => (M_9_bestFigure ns).2.2.2.2.1) := by
  intro p e s m args below meth c rt wd ad ns A Q X hA q b n sp h
  replace h : ct_9_bestFigure ns q = some (b, n, sp) := h
  unfold ct_9_bestFigure at h
  split at h
  · cases h; exact sy_coV (ci := 9) X hA (mc_9_figures l) ⟨iw_9_figures.1, iw_9_figures.2.1, iw_9_figures.2.2, ⟨by decide, by decide⟩, rfl, rfl⟩ (sy_inx 922 (by decide +kernel) (by decide +kernel)) ii_9_figures.1 ii_9_figures.2 (rc_9_figures ns) ⟨_, rfl, rfl⟩
  · cases h; exact sy_coV (ci := 9) X hA (mc_9_wrong l) ⟨iw_9_wrong.1, iw_9_wrong.2.1, iw_9_wrong.2.2, ⟨by decide, by decide⟩, rfl, rfl⟩ (sy_inx 951 (by decide +kernel) (by decide +kernel)) ii_9_wrong.1 ii_9_wrong.2 (rc_9_wrong ns) ⟨_, rfl, rfl⟩
  · cases h
theorem rc_9_bestFigure (ns : Nat) (as : List sy_V) (st : sy_S) (post : sy_R) (h : sp_9_bestFigure ns as st post) : ∃ b as', as = .inr (.inr (some (some b))) :: as' ∧ sy_ob b = some 9 := sy_m0_r rfl as st post h
theorem mc_9_bestFigure (l : Launch) : sy_MC l y_9_bestFigure c_9_bestFigure 5 (some .int) rm_9_bestFigure sp_9_bestFigure := by
  refine sy_meth M_9_bestFigure (by decide +kernel) mv_9_bestFigure (co_9_bestFigure l) ?_
  intro ns as st post WA h hok hrg ⟨hgo0, hin, hwk⟩
  have hgo : ∀ (n pc : Nat) (L k : List sy_V) (st : sy_S), rn_9_bestFigure ns (ct_9_bestFigure ns) post WA n pc L k st → WA pc L k st := fun n pc L k st h => hgo0 [10] n pc L k st h
  replace h := sy_m0_e h hok
  obtain ⟨rfl, h⟩ := h
  refine ⟨Nat.le_of_ble_eq_true rfl, ?_⟩
  show WA 0 [.inr (.inr (some (some 24))), .inr (.inr none), .inr (.inr none), .inr (.inr none), .inr (.inr none)] [] st
  obtain ⟨hm, h⟩ := h
  have ht := m_tot_r hm.2.2
  have hwr : ∀ f : Int, 0 ≤ m_wr ns st f ∧ m_wr ns st f ≤ 16 := fun f => by
    have := xc_rng (fun s => !m_ag st f s) ns
    have := hm.1.2
    unfold m_wr
    omega
  have key : ∀ (d f : Nat), f + 1 + d = (m_tot st).toNat → WA 10 [.inr (.inr (some (some 24))), .inl (true, (xb (fun f => m_wr ns st f) f : Int)), .inl (true, m_wr ns st (xb (fun f => m_wr ns st f) f : Int)), .inl (true, ((f + 1 : Nat) : Int)), .inr (.inr none)] [] st := by
    intro d
    induction d with
    | zero =>
      intro f hf
      refine hgo 100 _ _ _ _ ?_
      simp -implicitDefEqProofs only [↓rx_9_bestFigure_0, ↓rx_9_bestFigure_1, ↓rx_9_bestFigure_2, ↓rx_9_bestFigure_3, ↓rx_9_bestFigure_4, ↓rx_9_bestFigure_7, ↓rx_9_bestFigure_8, ↓rx_9_bestFigure_9, ↓rx_9_bestFigure_10, ↓rx_9_bestFigure_11, ↓rx_9_bestFigure_12, ↓rx_9_bestFigure_15, ↓rx_9_bestFigure_18, ↓rx_9_bestFigure_19, ↓rx_9_bestFigure_20, ↓rx_9_bestFigure_23, ↓rx_9_bestFigure_25, ↓rx_9_bestFigure_27, ↓rx_9_bestFigure_28, ↓rx_9_bestFigure_31, ↓rx_9_bestFigure_34, ↓rx_9_bestFigure_36, ↓rx_9_bestFigure_37, ↓rx_9_bestFigure_38, ↓rx_9_bestFigure_39, ↓rx_9_bestFigure_42, ↓rx_9_bestFigure_45, ↓rx_9_bestFigure_46, ↓cx_9_bestFigure_89, ↓cx_9_bestFigure_113, sp_9_figures, sp_9_wrong, ↓sx_s1, ↓sx_s2, ↓sx_s3, ↓sx_s4, ↓sx_s5, ↓sx_s6, ↓sx_m0, ↓sx_m1, ↓sx_m2, ↓sx_m3, ↓sx_m4, ↓sx_m5, ↓sx_m6, ↓sx_k0_, ↓sx_k1_, ↓sx_k2_, ↓sx_k3_, ↓sx_k4_, ↓sx_k5_, ↓sx_k6_, ↓sx_sLL, ↓sx_sAI, ↓sx_mLL, ↓sx_mIIL, ↓sx_mIILL, ↓sx_mIILLL, ↓sx_qS, ↓sx_qSI, ↓sx_qSIII, sx_rit, sx_rif, sx_rlt, sx_rlf, sx_b0, sx_b1, sx_o0, sx_o1i, sx_o1a, sx_o1l, sx_o2, sx_g0, sx_g1, sx_k1, sx_k2, sx_k3, sx_f1, sx_f2, sx_f3, sx_w0, sx_w1, sx_w2, sx_w3, sx_ts, sx_tn, sx_up, sx_nS1, sx_nS2, sx_nW1, sx_nW2, sx_SW, sx_WS, sy_nS_inj, sy_nW_inj, sx_ob0, sx_ob1, sx_ob2, sx_ob3, sx_ob4, sx_ob5, sx_ob6, sx_ob7, sx_ob8, sx_ob9, sx_ob10, sx_ob11, sx_ob12, sx_ob13, sx_ob14, sx_ob15, sx_ob16, sx_ob17, sx_ob18, sx_ob19, sx_ob20, sx_ob21, sx_ob22, sx_ob23, sx_ob24, sx_ob25, sx_ob26, sx_ob27, sx_ob28, sx_ob29, sx_ob30, sx_ob31, sx_ob32, sx_ob33, sx_ob34, sx_ob35, sx_ob36, sx_fv0_0, sx_fv0_1, sx_fv0_2, sx_fv0_3, sx_fv0_4, sx_fv0_5, sx_fv1_0, sx_fv1_1, sx_fv1_2, sx_fv3_0, sx_fv3_1, sx_fv3_2, sx_fv3_3, sx_fv3_4, sx_fv7_0, sx_fv7_1, sx_fv7_2, sx_fv7_3, sx_fv7_4, sx_fv7_5, sx_fv7_6, sx_fv7_7, sx_fv7_8, sx_fv7_9, sx_fv7_10, sx_fv9_0, sx_fv9_1, sx_fv9_2, sx_fv9_3, sx_fv11_0, sx_fv11_1, sx_fv11_2, sx_fv11_3, sx_fv11_4, sx_fv11_5, sx_fv11_6, sx_fv15_0, sx_fv15_1, sx_fv15_2, sx_fv15_3, sx_fv15_4, sx_fv15_5, sx_fv19_0, sx_fv19_1, sx_fv19_2, sx_fv19_3, sx_fv19_4, sx_fv19_5, sx_fv19_6, sx_fv24_0, sx_fv24_1, sx_fv24_2, sx_fv24_3, sx_fv24_4, sx_fv24_5, sx_fv24_6, sx_fv24_7, sx_fv24_8, sx_fv24_9, sx_fv24_10, sx_fv24_11, sx_fv24_12, sx_fv24_13, sx_fv24_14, sx_fv24_15, sx_fv24_16, sx_fv24_17, sx_fv24_18, sx_fvS_0, sx_fvS_1, sx_fvS_2, sx_fvS_3, sx_fvS_4, sx_fvS_5, sx_fvS_6, sx_fvS_7, sx_fvS_8, sx_fvS_9, sx_ar2, sx_ar4, sx_ar5, sx_ar6, sx_ar8, sx_ar10, sx_ar12, sx_ar13, sx_ar14, sx_ar16, sx_ar17, sx_ar18, sx_ar20, sx_ar21, sx_ar22, sx_ar23, sx_ar25, sx_ar26, sx_ar27, sx_ar28, sx_ar29, sx_ar30, sx_ar31, sx_ar32, sx_ar33, sx_ar34, sx_ar35, sx_ar36, sy_ob_S, sy_ob_W, sy_ar_W, sx_if0, sx_if1, sx_ie0, sx_em, Classical.not_not, sx_cle, sx_clt, sx_cge, sx_cgt, sx_ceq, Nat.reduceLT, Nat.reduceLeDiff, Nat.reduceAdd, Nat.reduceSub, Nat.reduceEqDiff, reduceIte, List.length_cons, List.length_nil, true_and, and_true, and_self, Bool.false_eq_true, true_implies, not_true_eq_false, not_false_eq_true, false_implies, implies_true, ne_eq, reduceCtorEq, Option.some.injEq, false_and, and_false, Int.reduceNeg, Int.reduceToNat, Int.reduceLT, Int.reduceLE, Int.reduceEq, Int.reduceAdd, Int.reduceSub, Int.reduceMul, or_false, false_or, or_true, true_or, forall_const, Int.toNat_natCast, Int.toNat_zero, Int.toNat_one, Nat.zero_add, or_self, Int.neg_eq_zero]
      refine ⟨hm, fun _ => ?_, fun q => by omega⟩
      rw [show f = (m_tot st).toNat - 1 by omega]
      exact h
    | succ d ih =>
      intro f hf
      refine hgo 100 _ _ _ _ ?_
      simp -implicitDefEqProofs only [↓rx_9_bestFigure_0, ↓rx_9_bestFigure_1, ↓rx_9_bestFigure_2, ↓rx_9_bestFigure_3, ↓rx_9_bestFigure_4, ↓rx_9_bestFigure_7, ↓rx_9_bestFigure_8, ↓rx_9_bestFigure_9, ↓rx_9_bestFigure_10, ↓rx_9_bestFigure_11, ↓rx_9_bestFigure_12, ↓rx_9_bestFigure_15, ↓rx_9_bestFigure_18, ↓rx_9_bestFigure_19, ↓rx_9_bestFigure_20, ↓rx_9_bestFigure_23, ↓rx_9_bestFigure_25, ↓rx_9_bestFigure_27, ↓rx_9_bestFigure_28, ↓rx_9_bestFigure_31, ↓rx_9_bestFigure_34, ↓rx_9_bestFigure_36, ↓rx_9_bestFigure_37, ↓rx_9_bestFigure_38, ↓rx_9_bestFigure_39, ↓rx_9_bestFigure_42, ↓rx_9_bestFigure_45, ↓rx_9_bestFigure_46, ↓cx_9_bestFigure_89, ↓cx_9_bestFigure_113, sp_9_figures, sp_9_wrong, ↓sx_s1, ↓sx_s2, ↓sx_s3, ↓sx_s4, ↓sx_s5, ↓sx_s6, ↓sx_m0, ↓sx_m1, ↓sx_m2, ↓sx_m3, ↓sx_m4, ↓sx_m5, ↓sx_m6, ↓sx_k0_, ↓sx_k1_, ↓sx_k2_, ↓sx_k3_, ↓sx_k4_, ↓sx_k5_, ↓sx_k6_, ↓sx_sLL, ↓sx_sAI, ↓sx_mLL, ↓sx_mIIL, ↓sx_mIILL, ↓sx_mIILLL, ↓sx_qS, ↓sx_qSI, ↓sx_qSIII, sx_rit, sx_rif, sx_rlt, sx_rlf, sx_b0, sx_b1, sx_o0, sx_o1i, sx_o1a, sx_o1l, sx_o2, sx_g0, sx_g1, sx_k1, sx_k2, sx_k3, sx_f1, sx_f2, sx_f3, sx_w0, sx_w1, sx_w2, sx_w3, sx_ts, sx_tn, sx_up, sx_nS1, sx_nS2, sx_nW1, sx_nW2, sx_SW, sx_WS, sy_nS_inj, sy_nW_inj, sx_ob0, sx_ob1, sx_ob2, sx_ob3, sx_ob4, sx_ob5, sx_ob6, sx_ob7, sx_ob8, sx_ob9, sx_ob10, sx_ob11, sx_ob12, sx_ob13, sx_ob14, sx_ob15, sx_ob16, sx_ob17, sx_ob18, sx_ob19, sx_ob20, sx_ob21, sx_ob22, sx_ob23, sx_ob24, sx_ob25, sx_ob26, sx_ob27, sx_ob28, sx_ob29, sx_ob30, sx_ob31, sx_ob32, sx_ob33, sx_ob34, sx_ob35, sx_ob36, sx_fv0_0, sx_fv0_1, sx_fv0_2, sx_fv0_3, sx_fv0_4, sx_fv0_5, sx_fv1_0, sx_fv1_1, sx_fv1_2, sx_fv3_0, sx_fv3_1, sx_fv3_2, sx_fv3_3, sx_fv3_4, sx_fv7_0, sx_fv7_1, sx_fv7_2, sx_fv7_3, sx_fv7_4, sx_fv7_5, sx_fv7_6, sx_fv7_7, sx_fv7_8, sx_fv7_9, sx_fv7_10, sx_fv9_0, sx_fv9_1, sx_fv9_2, sx_fv9_3, sx_fv11_0, sx_fv11_1, sx_fv11_2, sx_fv11_3, sx_fv11_4, sx_fv11_5, sx_fv11_6, sx_fv15_0, sx_fv15_1, sx_fv15_2, sx_fv15_3, sx_fv15_4, sx_fv15_5, sx_fv19_0, sx_fv19_1, sx_fv19_2, sx_fv19_3, sx_fv19_4, sx_fv19_5, sx_fv19_6, sx_fv24_0, sx_fv24_1, sx_fv24_2, sx_fv24_3, sx_fv24_4, sx_fv24_5, sx_fv24_6, sx_fv24_7, sx_fv24_8, sx_fv24_9, sx_fv24_10, sx_fv24_11, sx_fv24_12, sx_fv24_13, sx_fv24_14, sx_fv24_15, sx_fv24_16, sx_fv24_17, sx_fv24_18, sx_fvS_0, sx_fvS_1, sx_fvS_2, sx_fvS_3, sx_fvS_4, sx_fvS_5, sx_fvS_6, sx_fvS_7, sx_fvS_8, sx_fvS_9, sx_ar2, sx_ar4, sx_ar5, sx_ar6, sx_ar8, sx_ar10, sx_ar12, sx_ar13, sx_ar14, sx_ar16, sx_ar17, sx_ar18, sx_ar20, sx_ar21, sx_ar22, sx_ar23, sx_ar25, sx_ar26, sx_ar27, sx_ar28, sx_ar29, sx_ar30, sx_ar31, sx_ar32, sx_ar33, sx_ar34, sx_ar35, sx_ar36, sy_ob_S, sy_ob_W, sy_ar_W, sx_if0, sx_if1, sx_ie0, sx_em, Classical.not_not, sx_cle, sx_clt, sx_cge, sx_cgt, sx_ceq, Nat.reduceLT, Nat.reduceLeDiff, Nat.reduceAdd, Nat.reduceSub, Nat.reduceEqDiff, reduceIte, List.length_cons, List.length_nil, true_and, and_true, and_self, Bool.false_eq_true, true_implies, not_true_eq_false, not_false_eq_true, false_implies, implies_true, ne_eq, reduceCtorEq, Option.some.injEq, false_and, and_false, Int.reduceNeg, Int.reduceToNat, Int.reduceLT, Int.reduceLE, Int.reduceEq, Int.reduceAdd, Int.reduceSub, Int.reduceMul, or_false, false_or, or_true, true_or, forall_const, Int.toNat_natCast, Int.toNat_zero, Int.toNat_one, Nat.zero_add, or_self, Int.neg_eq_zero]
      have i1 := ih (f + 1) (by omega)
      have hb := xb_le (fun f => m_wr ns st f) f
      have h1 := hwr ((f + 1 : Nat) : Int)
      have h2 := hwr (xb (fun f => m_wr ns st f) f : Int)
      simp only [xb] at i1
      have e : (((f + 1 : Nat) : Int) + 1) = ((f + 1 + 1 : Nat) : Int) := by omega
      rw [e]
      have j1 : ∀ w : sy_V, WA 10 [.inr (.inr (some (some 24))), _, _, .inl (true, ((f + 1 + 1 : Nat) : Int)), w] [] st := fun w => hwk _ _ _ _ _ (by exact ⟨Or.inl rfl, Or.inl rfl, Or.inl rfl, Or.inl rfl, Or.inr rfl, trivial⟩) i1
      refine ⟨hm, fun q => by omega, fun _ => ⟨⟨hm, by omega, by omega⟩, fun c => ⟨by omega, ?_⟩, fun c => ⟨by omega, ?_⟩⟩⟩
      · have j2 := j1 (.inl (true, m_wr ns st ((f + 1 : Nat) : Int)))
        rw [if_pos c] at j2
        exact j2
      · have j2 := j1 (.inl (true, m_wr ns st ((f + 1 : Nat) : Int)))
        rw [if_neg c] at j2
        exact j2
  refine hgo 100 _ _ _ _ ?_
  simp -implicitDefEqProofs only [↓rx_9_bestFigure_0, ↓rx_9_bestFigure_1, ↓rx_9_bestFigure_2, ↓rx_9_bestFigure_3, ↓rx_9_bestFigure_4, ↓rx_9_bestFigure_7, ↓rx_9_bestFigure_8, ↓rx_9_bestFigure_9, ↓rx_9_bestFigure_10, ↓rx_9_bestFigure_11, ↓rx_9_bestFigure_12, ↓rx_9_bestFigure_15, ↓rx_9_bestFigure_18, ↓rx_9_bestFigure_19, ↓rx_9_bestFigure_20, ↓rx_9_bestFigure_23, ↓rx_9_bestFigure_25, ↓rx_9_bestFigure_27, ↓rx_9_bestFigure_28, ↓rx_9_bestFigure_31, ↓rx_9_bestFigure_34, ↓rx_9_bestFigure_36, ↓rx_9_bestFigure_37, ↓rx_9_bestFigure_38, ↓rx_9_bestFigure_39, ↓rx_9_bestFigure_42, ↓rx_9_bestFigure_45, ↓rx_9_bestFigure_46, ↓cx_9_bestFigure_89, ↓cx_9_bestFigure_113, sp_9_figures, sp_9_wrong, ↓sx_s1, ↓sx_s2, ↓sx_s3, ↓sx_s4, ↓sx_s5, ↓sx_s6, ↓sx_m0, ↓sx_m1, ↓sx_m2, ↓sx_m3, ↓sx_m4, ↓sx_m5, ↓sx_m6, ↓sx_k0_, ↓sx_k1_, ↓sx_k2_, ↓sx_k3_, ↓sx_k4_, ↓sx_k5_, ↓sx_k6_, ↓sx_sLL, ↓sx_sAI, ↓sx_mLL, ↓sx_mIIL, ↓sx_mIILL, ↓sx_mIILLL, ↓sx_qS, ↓sx_qSI, ↓sx_qSIII, sx_rit, sx_rif, sx_rlt, sx_rlf, sx_b0, sx_b1, sx_o0, sx_o1i, sx_o1a, sx_o1l, sx_o2, sx_g0, sx_g1, sx_k1, sx_k2, sx_k3, sx_f1, sx_f2, sx_f3, sx_w0, sx_w1, sx_w2, sx_w3, sx_ts, sx_tn, sx_up, sx_nS1, sx_nS2, sx_nW1, sx_nW2, sx_SW, sx_WS, sy_nS_inj, sy_nW_inj, sx_ob0, sx_ob1, sx_ob2, sx_ob3, sx_ob4, sx_ob5, sx_ob6, sx_ob7, sx_ob8, sx_ob9, sx_ob10, sx_ob11, sx_ob12, sx_ob13, sx_ob14, sx_ob15, sx_ob16, sx_ob17, sx_ob18, sx_ob19, sx_ob20, sx_ob21, sx_ob22, sx_ob23, sx_ob24, sx_ob25, sx_ob26, sx_ob27, sx_ob28, sx_ob29, sx_ob30, sx_ob31, sx_ob32, sx_ob33, sx_ob34, sx_ob35, sx_ob36, sx_fv0_0, sx_fv0_1, sx_fv0_2, sx_fv0_3, sx_fv0_4, sx_fv0_5, sx_fv1_0, sx_fv1_1, sx_fv1_2, sx_fv3_0, sx_fv3_1, sx_fv3_2, sx_fv3_3, sx_fv3_4, sx_fv7_0, sx_fv7_1, sx_fv7_2, sx_fv7_3, sx_fv7_4, sx_fv7_5, sx_fv7_6, sx_fv7_7, sx_fv7_8, sx_fv7_9, sx_fv7_10, sx_fv9_0, sx_fv9_1, sx_fv9_2, sx_fv9_3, sx_fv11_0, sx_fv11_1, sx_fv11_2, sx_fv11_3, sx_fv11_4, sx_fv11_5, sx_fv11_6, sx_fv15_0, sx_fv15_1, sx_fv15_2, sx_fv15_3, sx_fv15_4, sx_fv15_5, sx_fv19_0, sx_fv19_1, sx_fv19_2, sx_fv19_3, sx_fv19_4, sx_fv19_5, sx_fv19_6, sx_fv24_0, sx_fv24_1, sx_fv24_2, sx_fv24_3, sx_fv24_4, sx_fv24_5, sx_fv24_6, sx_fv24_7, sx_fv24_8, sx_fv24_9, sx_fv24_10, sx_fv24_11, sx_fv24_12, sx_fv24_13, sx_fv24_14, sx_fv24_15, sx_fv24_16, sx_fv24_17, sx_fv24_18, sx_fvS_0, sx_fvS_1, sx_fvS_2, sx_fvS_3, sx_fvS_4, sx_fvS_5, sx_fvS_6, sx_fvS_7, sx_fvS_8, sx_fvS_9, sx_ar2, sx_ar4, sx_ar5, sx_ar6, sx_ar8, sx_ar10, sx_ar12, sx_ar13, sx_ar14, sx_ar16, sx_ar17, sx_ar18, sx_ar20, sx_ar21, sx_ar22, sx_ar23, sx_ar25, sx_ar26, sx_ar27, sx_ar28, sx_ar29, sx_ar30, sx_ar31, sx_ar32, sx_ar33, sx_ar34, sx_ar35, sx_ar36, sy_ob_S, sy_ob_W, sy_ar_W, sx_if0, sx_if1, sx_ie0, sx_em, Classical.not_not, sx_cle, sx_clt, sx_cge, sx_cgt, sx_ceq, Nat.reduceLT, Nat.reduceLeDiff, Nat.reduceAdd, Nat.reduceSub, Nat.reduceEqDiff, reduceIte, List.length_cons, List.length_nil, true_and, and_true, and_self, Bool.false_eq_true, true_implies, not_true_eq_false, not_false_eq_true, false_implies, implies_true, ne_eq, reduceCtorEq, Option.some.injEq, false_and, and_false, Int.reduceNeg, Int.reduceToNat, Int.reduceLT, Int.reduceLE, Int.reduceEq, Int.reduceAdd, Int.reduceSub, Int.reduceMul, or_false, false_or, or_true, true_or, forall_const, Int.toNat_natCast, Int.toNat_zero, Int.toNat_one, Nat.zero_add, or_self, Int.neg_eq_zero]
  exact ⟨hm, key ((m_tot st).toNat - 1) 0 (by omega)⟩
theorem m_best_lt {ns : Nat} {st : sy_S} (h : m_net st) : (m_best ns st : Int) < m_tot st ∧ (m_best ns st : Int) < 4096 := by
  have := m_tot_r h
  have := xb_le (fun f => m_wr ns st f) ((m_tot st).toNat - 1)
  unfold m_best
  omega
def sp_9_bad (ns : Nat) : sy_Sp := sy_m1 24 fun w st post => m_ok ns st ∧ post (some (.inl (true, if w = 1 then (m_best ns st : Int) else if w = 0 then m_wr ns st (m_best ns st) else -1))) st
def ct_9_bad (ns q : Nat) : Option (Bool × Nat × sy_Sp) := match q with
  | 69 => some (true, 3, sp_9_is ns)
  | 113 => some (false, 2, sp_9_wrong ns)
  | 117 => some (false, 1, sp_9_bestFigure ns)
  | _ => none
abbrev M_9_bad (ns : Nat) : sy_M := Mk_9_bad (ct_9_bad ns)
theorem cx_9_bad_69 {ns : Nat} {v1 v2 v3 : sy_V} {r : List sy_V} {s : sy_S} {f : List sy_V → sy_S → Prop} : sy_call true (ct_9_bad ns 69) (v3 :: v2 :: v1 :: r) s f = (sy_wd r ≤ 8 ∧ (sy_fit v3 ∧ sy_fit v2 ∧ sy_fit v1) ∧ sp_9_is ns [sy_kn v1, sy_kn v2, sy_kn v3] s (fun q t => f (q.toList ++ r) t)) := sx_call3
theorem cx_9_bad_113 {ns : Nat} {v1 v2 : sy_V} {r : List sy_V} {s : sy_S} {f : List sy_V → sy_S → Prop} : sy_call false (ct_9_bad ns 113) (v2 :: v1 :: r) s f = (sy_wd r ≤ 8 ∧ (sy_fit v2 ∧ sy_fit v1) ∧ sp_9_wrong ns [sy_kn v1, sy_kn v2] s (fun q t => f (q.toList ++ r) t)) := sx_call2
theorem cx_9_bad_117 {ns : Nat} {v1 : sy_V} {r : List sy_V} {s : sy_S} {f : List sy_V → sy_S → Prop} : sy_call false (ct_9_bad ns 117) (v1 :: r) s f = (sy_wd r ≤ 8 ∧ (sy_fit v1) ∧ sp_9_bestFigure ns [sy_kn v1] s (fun q t => f (q.toList ++ r) t)) := sx_call1
theorem mv_9_bad (ns : Nat) : sy_MV c_9_bad y_9_bad.cls (some .int) (M_9_bad ns) := ⟨tv_9_bad, ff_9_ok, ki_9_ok, kl_9_ok⟩
abbrev rm_9_bad : Room := { frames := 5, cells := 0, slots := 0, locals := 130 }
theorem iw_9_bestFigure : Cond.code y_9_bestFigure c_9_bestFigure 5 (some .int) ∈ sy_tb ∧ Cond.initialized y_9_bestFigure.cls ∈ sy_tb ∧ (y_9_bestFigure.cls ≠ "java/lang/invoke/MethodHandle" ∧ y_9_bestFigure.cls ≠ "java/lang/invoke/VarHandle" ∧ (parseMethodDescriptor y_9_bestFigure.desc).map (fun d => d.parameters.length) = some 0) := ⟨sy_inx 970 (by decide +kernel) (by decide +kernel), sy_inx 53 (by decide +kernel) (by decide +kernel), by decide +kernel⟩
theorem ii_9_bestFigure : Cond.instanceMethod y_9_bestFigure ∈ sy_tb ∧ Cond.selects y_9_bestFigure.cls y_9_bestFigure y_9_bestFigure ∈ sy_tb := ⟨sy_inx 969 (by decide +kernel) (by decide +kernel), sy_inx 36 (by decide +kernel) (by decide +kernel)⟩
theorem co_9_bad (l : Launch) : sy_calls l rm_9_bad y_9_bad.cls c_9_bad 3 (fun ns => (M_9_bad ns).2.2.2.2.1) := by
  intro p e s m args below meth c rt wd ad ns A Q X hA q b n sp h
  replace h : ct_9_bad ns q = some (b, n, sp) := h
  unfold ct_9_bad at h
  split at h
  · cases h; exact sy_coS X hA (mc_9_is l) ⟨iw_9_is.1, iw_9_is.2.1, iw_9_is.2.2, ⟨by decide, by decide⟩, rfl, rfl⟩ (sy_inx 859 (by decide +kernel) (by decide +kernel)) is_9_is
  · cases h; exact sy_coV (ci := 9) X hA (mc_9_wrong l) ⟨iw_9_wrong.1, iw_9_wrong.2.1, iw_9_wrong.2.2, ⟨by decide, by decide⟩, rfl, rfl⟩ (sy_inx 951 (by decide +kernel) (by decide +kernel)) ii_9_wrong.1 ii_9_wrong.2 (rc_9_wrong ns) ⟨_, rfl, rfl⟩
  · cases h; exact sy_coV (ci := 9) X hA (mc_9_bestFigure l) ⟨iw_9_bestFigure.1, iw_9_bestFigure.2.1, iw_9_bestFigure.2.2, ⟨by decide, by decide⟩, rfl, rfl⟩ (sy_inx 967 (by decide +kernel) (by decide +kernel)) ii_9_bestFigure.1 ii_9_bestFigure.2 (rc_9_bestFigure ns) ⟨_, rfl, rfl⟩
  · cases h
theorem rc_9_bad (ns : Nat) (as : List sy_V) (st : sy_S) (post : sy_R) (h : sp_9_bad ns as st post) : ∃ b as', as = .inr (.inr (some (some b))) :: as' ∧ sy_ob b = some 9 := sy_m1_r rfl as st post h
theorem mc_9_bad (l : Launch) : sy_MC l y_9_bad c_9_bad 3 (some .int) rm_9_bad sp_9_bad := by
  refine sy_meth M_9_bad (by decide +kernel) mv_9_bad (co_9_bad l) ?_
  intro ns as st post WA h hok hrg ⟨hgo0, hin, hwk⟩
  have hgo : ∀ (n pc : Nat) (L k : List sy_V) (st : sy_S), rn_9_bad ns (ct_9_bad ns) post WA n pc L k st → WA pc L k st := fun n pc L k st h => hgo0 [] n pc L k st h
  replace h := sy_m1_e h hok
  obtain ⟨w, rfl, hw, h⟩ := h
  refine ⟨Nat.le_of_ble_eq_true rfl, ?_⟩
  show WA 0 [.inr (.inr (some (some 24))), .inl (true, w), .inr (.inr none)] [] st
  refine hgo 100 _ _ _ _ ?_
  simp -implicitDefEqProofs only [↓rx_9_bad_0, ↓rx_9_bad_1, ↓rx_9_bad_2, ↓rx_9_bad_3, ↓rx_9_bad_6, ↓rx_9_bad_9, ↓rx_9_bad_10, ↓rx_9_bad_11, ↓rx_9_bad_12, ↓rx_9_bad_15, ↓rx_9_bad_16, ↓rx_9_bad_17, ↓rx_9_bad_18, ↓rx_9_bad_21, ↓rx_9_bad_22, ↓rx_9_bad_25, ↓rx_9_bad_26, ↓rx_9_bad_27, ↓rx_9_bad_30, ↓cx_9_bad_69, ↓cx_9_bad_113, ↓cx_9_bad_117, sp_9_bestFigure, sp_9_is, sp_9_wrong, ↓sx_s1, ↓sx_s2, ↓sx_s3, ↓sx_s4, ↓sx_s5, ↓sx_s6, ↓sx_m0, ↓sx_m1, ↓sx_m2, ↓sx_m3, ↓sx_m4, ↓sx_m5, ↓sx_m6, ↓sx_k0_, ↓sx_k1_, ↓sx_k2_, ↓sx_k3_, ↓sx_k4_, ↓sx_k5_, ↓sx_k6_, ↓sx_sLL, ↓sx_sAI, ↓sx_mLL, ↓sx_mIIL, ↓sx_mIILL, ↓sx_mIILLL, ↓sx_qS, ↓sx_qSI, ↓sx_qSIII, sx_rit, sx_rif, sx_rlt, sx_rlf, sx_b0, sx_b1, sx_o0, sx_o1i, sx_o1a, sx_o1l, sx_o2, sx_g0, sx_g1, sx_k1, sx_k2, sx_k3, sx_f1, sx_f2, sx_f3, sx_w0, sx_w1, sx_w2, sx_w3, sx_ts, sx_tn, sx_up, sx_nS1, sx_nS2, sx_nW1, sx_nW2, sx_SW, sx_WS, sy_nS_inj, sy_nW_inj, sx_ob0, sx_ob1, sx_ob2, sx_ob3, sx_ob4, sx_ob5, sx_ob6, sx_ob7, sx_ob8, sx_ob9, sx_ob10, sx_ob11, sx_ob12, sx_ob13, sx_ob14, sx_ob15, sx_ob16, sx_ob17, sx_ob18, sx_ob19, sx_ob20, sx_ob21, sx_ob22, sx_ob23, sx_ob24, sx_ob25, sx_ob26, sx_ob27, sx_ob28, sx_ob29, sx_ob30, sx_ob31, sx_ob32, sx_ob33, sx_ob34, sx_ob35, sx_ob36, sx_fv0_0, sx_fv0_1, sx_fv0_2, sx_fv0_3, sx_fv0_4, sx_fv0_5, sx_fv1_0, sx_fv1_1, sx_fv1_2, sx_fv3_0, sx_fv3_1, sx_fv3_2, sx_fv3_3, sx_fv3_4, sx_fv7_0, sx_fv7_1, sx_fv7_2, sx_fv7_3, sx_fv7_4, sx_fv7_5, sx_fv7_6, sx_fv7_7, sx_fv7_8, sx_fv7_9, sx_fv7_10, sx_fv9_0, sx_fv9_1, sx_fv9_2, sx_fv9_3, sx_fv11_0, sx_fv11_1, sx_fv11_2, sx_fv11_3, sx_fv11_4, sx_fv11_5, sx_fv11_6, sx_fv15_0, sx_fv15_1, sx_fv15_2, sx_fv15_3, sx_fv15_4, sx_fv15_5, sx_fv19_0, sx_fv19_1, sx_fv19_2, sx_fv19_3, sx_fv19_4, sx_fv19_5, sx_fv19_6, sx_fv24_0, sx_fv24_1, sx_fv24_2, sx_fv24_3, sx_fv24_4, sx_fv24_5, sx_fv24_6, sx_fv24_7, sx_fv24_8, sx_fv24_9, sx_fv24_10, sx_fv24_11, sx_fv24_12, sx_fv24_13, sx_fv24_14, sx_fv24_15, sx_fv24_16, sx_fv24_17, sx_fv24_18, sx_fvS_0, sx_fvS_1, sx_fvS_2, sx_fvS_3, sx_fvS_4, sx_fvS_5, sx_fvS_6, sx_fvS_7, sx_fvS_8, sx_fvS_9, sx_ar2, sx_ar4, sx_ar5, sx_ar6, sx_ar8, sx_ar10, sx_ar12, sx_ar13, sx_ar14, sx_ar16, sx_ar17, sx_ar18, sx_ar20, sx_ar21, sx_ar22, sx_ar23, sx_ar25, sx_ar26, sx_ar27, sx_ar28, sx_ar29, sx_ar30, sx_ar31, sx_ar32, sx_ar33, sx_ar34, sx_ar35, sx_ar36, sy_ob_S, sy_ob_W, sy_ar_W, sx_if0, sx_if1, sx_ie0, sx_em, Classical.not_not, sx_cle, sx_clt, sx_cge, sx_cgt, sx_ceq, Nat.reduceLT, Nat.reduceLeDiff, Nat.reduceAdd, Nat.reduceSub, Nat.reduceEqDiff, reduceIte, List.length_cons, List.length_nil, true_and, and_true, and_self, Bool.false_eq_true, true_implies, not_true_eq_false, not_false_eq_true, false_implies, implies_true, ne_eq, reduceCtorEq, Option.some.injEq, false_and, and_false, Int.reduceNeg, Int.reduceToNat, Int.reduceLT, Int.reduceLE, Int.reduceEq, Int.reduceAdd, Int.reduceSub, Int.reduceMul, or_false, false_or, or_true, true_or, forall_const, Int.toNat_natCast, Int.toNat_zero, Int.toNat_one, Nat.zero_add, or_self, Int.neg_eq_zero]
  obtain ⟨hm, h⟩ := h
  have hb := m_best_lt (ns := ns) hm.2.2
  by_cases h1 : w = 1
  · rw [if_pos h1] at h
    (repeat' (first | assumption | apply And.intro | intro _)) <;> first | omega | (exfalso; omega) | contradiction
  · rw [if_neg h1] at h
    by_cases h0 : w = 0
    · rw [if_pos h0] at h
      (repeat' (first | assumption | apply And.intro | intro _)) <;> first | omega | (exfalso; omega) | contradiction
    · rw [if_neg h0] at h
      (repeat' (first | assumption | apply And.intro | intro _)) <;> first | omega | (exfalso; omega) | contradiction
def sp_9_isBad (ns : Nat) : sy_Sp := sy_m1 24 fun s st post => m_ok ns st ∧ post (some (.inl (true, if 0 ≤ s ∧ s < ns then (if m_ag st (m_best ns st) s.toNat = true then 0 else 1) else -1))) st
def ct_9_isBad (ns q : Nat) : Option (Bool × Nat × sy_Sp) := match q with
  | 73 => some (false, 2, sp_9_isSite ns)
  | 110 => some (false, 3, sp_9_agree ns)
  | 117 => some (false, 1, sp_9_bestFigure ns)
  | _ => none
abbrev M_9_isBad (ns : Nat) : sy_M := Mk_9_isBad (ct_9_isBad ns)
theorem cx_9_isBad_73 {ns : Nat} {v1 v2 : sy_V} {r : List sy_V} {s : sy_S} {f : List sy_V → sy_S → Prop} : sy_call false (ct_9_isBad ns 73) (v2 :: v1 :: r) s f = (sy_wd r ≤ 8 ∧ (sy_fit v2 ∧ sy_fit v1) ∧ sp_9_isSite ns [sy_kn v1, sy_kn v2] s (fun q t => f (q.toList ++ r) t)) := sx_call2
theorem cx_9_isBad_110 {ns : Nat} {v1 v2 v3 : sy_V} {r : List sy_V} {s : sy_S} {f : List sy_V → sy_S → Prop} : sy_call false (ct_9_isBad ns 110) (v3 :: v2 :: v1 :: r) s f = (sy_wd r ≤ 8 ∧ (sy_fit v3 ∧ sy_fit v2 ∧ sy_fit v1) ∧ sp_9_agree ns [sy_kn v1, sy_kn v2, sy_kn v3] s (fun q t => f (q.toList ++ r) t)) := sx_call3
theorem cx_9_isBad_117 {ns : Nat} {v1 : sy_V} {r : List sy_V} {s : sy_S} {f : List sy_V → sy_S → Prop} : sy_call false (ct_9_isBad ns 117) (v1 :: r) s f = (sy_wd r ≤ 8 ∧ (sy_fit v1) ∧ sp_9_bestFigure ns [sy_kn v1] s (fun q t => f (q.toList ++ r) t)) := sx_call1
theorem mv_9_isBad (ns : Nat) : sy_MV c_9_isBad y_9_isBad.cls (some .int) (M_9_isBad ns) := ⟨tv_9_isBad, ff_9_ok, ki_9_ok, kl_9_ok⟩
abbrev rm_9_isBad : Room := { frames := 5, cells := 0, slots := 0, locals := 130 }
theorem co_9_isBad (l : Launch) : sy_calls l rm_9_isBad y_9_isBad.cls c_9_isBad 2 (fun ns => (M_9_isBad ns).2.2.2.2.1) := by
  intro p e s m args below meth c rt wd ad ns A Q X hA q b n sp h
  replace h : ct_9_isBad ns q = some (b, n, sp) := h
  unfold ct_9_isBad at h
  split at h
  · cases h; exact sy_coV (ci := 9) X hA (mc_9_isSite l) ⟨iw_9_isSite.1, iw_9_isSite.2.1, iw_9_isSite.2.2, ⟨by decide, by decide⟩, rfl, rfl⟩ (sy_inx 870 (by decide +kernel) (by decide +kernel)) ii_9_isSite.1 ii_9_isSite.2 (rc_9_isSite ns) ⟨_, rfl, rfl⟩
  · cases h; exact sy_coV (ci := 9) X hA (mc_9_agree l) ⟨iw_9_agree.1, iw_9_agree.2.1, iw_9_agree.2.2, ⟨by decide, by decide⟩, rfl, rfl⟩ (sy_inx 931 (by decide +kernel) (by decide +kernel)) ii_9_agree.1 ii_9_agree.2 (rc_9_agree ns) ⟨_, rfl, rfl⟩
  · cases h; exact sy_coV (ci := 9) X hA (mc_9_bestFigure l) ⟨iw_9_bestFigure.1, iw_9_bestFigure.2.1, iw_9_bestFigure.2.2, ⟨by decide, by decide⟩, rfl, rfl⟩ (sy_inx 967 (by decide +kernel) (by decide +kernel)) ii_9_bestFigure.1 ii_9_bestFigure.2 (rc_9_bestFigure ns) ⟨_, rfl, rfl⟩
  · cases h
theorem rc_9_isBad (ns : Nat) (as : List sy_V) (st : sy_S) (post : sy_R) (h : sp_9_isBad ns as st post) : ∃ b as', as = .inr (.inr (some (some b))) :: as' ∧ sy_ob b = some 9 := sy_m1_r rfl as st post h
theorem mc_9_isBad (l : Launch) : sy_MC l y_9_isBad c_9_isBad 2 (some .int) rm_9_isBad sp_9_isBad := by
  refine sy_meth M_9_isBad (by decide +kernel) mv_9_isBad (co_9_isBad l) ?_
  intro ns as st post WA h hok hrg ⟨hgo0, hin, hwk⟩
  have hgo : ∀ (n pc : Nat) (L k : List sy_V) (st : sy_S), rn_9_isBad ns (ct_9_isBad ns) post WA n pc L k st → WA pc L k st := fun n pc L k st h => hgo0 [] n pc L k st h
  replace h := sy_m1_e h hok
  obtain ⟨x, rfl, hx, h⟩ := h
  refine ⟨Nat.le_of_ble_eq_true rfl, ?_⟩
  show WA 0 [.inr (.inr (some (some 24))), .inl (true, x)] [] st
  refine hgo 100 _ _ _ _ ?_
  simp -implicitDefEqProofs only [↓rx_9_isBad_0, ↓rx_9_isBad_1, ↓rx_9_isBad_2, ↓rx_9_isBad_5, ↓rx_9_isBad_8, ↓rx_9_isBad_9, ↓rx_9_isBad_12, ↓rx_9_isBad_13, ↓rx_9_isBad_14, ↓rx_9_isBad_17, ↓rx_9_isBad_18, ↓rx_9_isBad_21, ↓rx_9_isBad_24, ↓rx_9_isBad_25, ↓rx_9_isBad_28, ↓rx_9_isBad_29, ↓cx_9_isBad_73, ↓cx_9_isBad_110, ↓cx_9_isBad_117, sp_9_agree, sp_9_bestFigure, sp_9_isSite, ↓sx_s1, ↓sx_s2, ↓sx_s3, ↓sx_s4, ↓sx_s5, ↓sx_s6, ↓sx_m0, ↓sx_m1, ↓sx_m2, ↓sx_m3, ↓sx_m4, ↓sx_m5, ↓sx_m6, ↓sx_k0_, ↓sx_k1_, ↓sx_k2_, ↓sx_k3_, ↓sx_k4_, ↓sx_k5_, ↓sx_k6_, ↓sx_sLL, ↓sx_sAI, ↓sx_mLL, ↓sx_mIIL, ↓sx_mIILL, ↓sx_mIILLL, ↓sx_qS, ↓sx_qSI, ↓sx_qSIII, sx_rit, sx_rif, sx_rlt, sx_rlf, sx_b0, sx_b1, sx_o0, sx_o1i, sx_o1a, sx_o1l, sx_o2, sx_g0, sx_g1, sx_k1, sx_k2, sx_k3, sx_f1, sx_f2, sx_f3, sx_w0, sx_w1, sx_w2, sx_w3, sx_ts, sx_tn, sx_up, sx_nS1, sx_nS2, sx_nW1, sx_nW2, sx_SW, sx_WS, sy_nS_inj, sy_nW_inj, sx_ob0, sx_ob1, sx_ob2, sx_ob3, sx_ob4, sx_ob5, sx_ob6, sx_ob7, sx_ob8, sx_ob9, sx_ob10, sx_ob11, sx_ob12, sx_ob13, sx_ob14, sx_ob15, sx_ob16, sx_ob17, sx_ob18, sx_ob19, sx_ob20, sx_ob21, sx_ob22, sx_ob23, sx_ob24, sx_ob25, sx_ob26, sx_ob27, sx_ob28, sx_ob29, sx_ob30, sx_ob31, sx_ob32, sx_ob33, sx_ob34, sx_ob35, sx_ob36, sx_fv0_0, sx_fv0_1, sx_fv0_2, sx_fv0_3, sx_fv0_4, sx_fv0_5, sx_fv1_0, sx_fv1_1, sx_fv1_2, sx_fv3_0, sx_fv3_1, sx_fv3_2, sx_fv3_3, sx_fv3_4, sx_fv7_0, sx_fv7_1, sx_fv7_2, sx_fv7_3, sx_fv7_4, sx_fv7_5, sx_fv7_6, sx_fv7_7, sx_fv7_8, sx_fv7_9, sx_fv7_10, sx_fv9_0, sx_fv9_1, sx_fv9_2, sx_fv9_3, sx_fv11_0, sx_fv11_1, sx_fv11_2, sx_fv11_3, sx_fv11_4, sx_fv11_5, sx_fv11_6, sx_fv15_0, sx_fv15_1, sx_fv15_2, sx_fv15_3, sx_fv15_4, sx_fv15_5, sx_fv19_0, sx_fv19_1, sx_fv19_2, sx_fv19_3, sx_fv19_4, sx_fv19_5, sx_fv19_6, sx_fv24_0, sx_fv24_1, sx_fv24_2, sx_fv24_3, sx_fv24_4, sx_fv24_5, sx_fv24_6, sx_fv24_7, sx_fv24_8, sx_fv24_9, sx_fv24_10, sx_fv24_11, sx_fv24_12, sx_fv24_13, sx_fv24_14, sx_fv24_15, sx_fv24_16, sx_fv24_17, sx_fv24_18, sx_fvS_0, sx_fvS_1, sx_fvS_2, sx_fvS_3, sx_fvS_4, sx_fvS_5, sx_fvS_6, sx_fvS_7, sx_fvS_8, sx_fvS_9, sx_ar2, sx_ar4, sx_ar5, sx_ar6, sx_ar8, sx_ar10, sx_ar12, sx_ar13, sx_ar14, sx_ar16, sx_ar17, sx_ar18, sx_ar20, sx_ar21, sx_ar22, sx_ar23, sx_ar25, sx_ar26, sx_ar27, sx_ar28, sx_ar29, sx_ar30, sx_ar31, sx_ar32, sx_ar33, sx_ar34, sx_ar35, sx_ar36, sy_ob_S, sy_ob_W, sy_ar_W, sx_if0, sx_if1, sx_ie0, sx_em, Classical.not_not, sx_cle, sx_clt, sx_cge, sx_cgt, sx_ceq, Nat.reduceLT, Nat.reduceLeDiff, Nat.reduceAdd, Nat.reduceSub, Nat.reduceEqDiff, reduceIte, List.length_cons, List.length_nil, true_and, and_true, and_self, Bool.false_eq_true, true_implies, not_true_eq_false, not_false_eq_true, false_implies, implies_true, ne_eq, reduceCtorEq, Option.some.injEq, false_and, and_false, Int.reduceNeg, Int.reduceToNat, Int.reduceLT, Int.reduceLE, Int.reduceEq, Int.reduceAdd, Int.reduceSub, Int.reduceMul, or_false, false_or, or_true, true_or, forall_const, Int.toNat_natCast, Int.toNat_zero, Int.toNat_one, Nat.zero_add, or_self, Int.neg_eq_zero]
  obtain ⟨hm, h⟩ := h
  have hb := m_best_lt (ns := ns) hm.2.2
  have hn := hm.1
  unfold m_site at hn
  rw [hn.1]
  by_cases hC : 0 ≤ x ∧ x < ns
  · rw [if_pos hC] at h
    by_cases hA : m_ag st (m_best ns st) x.toNat = true
    · rw [if_pos hA] at h
      (repeat' (first | assumption | apply And.intro | intro _)) <;> first | omega | (exfalso; omega) | contradiction
    · rw [if_neg hA] at h
      (repeat' (first | assumption | apply And.intro | intro _)) <;> first | omega | (exfalso; omega) | contradiction
  · rw [if_neg hC] at h
    (repeat' (first | assumption | apply And.intro | intro _)) <;> first | omega | (exfalso; omega) | contradiction
