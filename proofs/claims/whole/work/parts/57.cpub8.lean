/-! THE CLASS: all -/
def sp_8_all (ns : Nat) : sy_Sp := sy_m1 0 fun w st post => c_site ns st ∧ post (some (.inl (true, if w = 0 then st 1 1 else if w = 4 then st 15 4 else if 1 ≤ w ∧ w ≤ 3 then xc (fun i => decide (st (sy_nS i) 5 = w)) ns else -1))) st
def ct_8_all (ns q : Nat) : Option (Bool × Nat × sy_Sp) := match q with
  | 199 => some (false, 2, sp_7_howMany ns)
  | _ => none
abbrev M_8_all (ns : Nat) : sy_M := Mk_8_all (ct_8_all ns)
theorem cx_8_all_199 {ns : Nat} {v1 v2 : sy_V} {r : List sy_V} {s : sy_S} {f : List sy_V → sy_S → Prop} : sy_call false (ct_8_all ns 199) (v2 :: v1 :: r) s f = (sy_wd r ≤ 8 ∧ (sy_fit v2 ∧ sy_fit v1) ∧ sp_7_howMany ns [sy_kn v1, sy_kn v2] s (fun q t => f (q.toList ++ r) t)) := sx_call2
theorem mv_8_all (ns : Nat) : sy_MV c_8_all y_8_all.cls (some .int) (M_8_all ns) := ⟨tv_8_all, ff_8_ok, ki_8_ok, kl_8_ok⟩
abbrev rm_8_all : Room := { frames := 2, cells := 0, slots := 0, locals := 45 }
theorem iw_7_howMany : Cond.code y_7_howMany c_7_howMany 5 (some .int) ∈ sy_tb ∧ Cond.initialized y_7_howMany.cls ∈ sy_tb ∧ (y_7_howMany.cls ≠ "java/lang/invoke/MethodHandle" ∧ y_7_howMany.cls ≠ "java/lang/invoke/VarHandle" ∧ (parseMethodDescriptor y_7_howMany.desc).map (fun d => d.parameters.length) = some 1) := ⟨sy_inx 789 (by decide +kernel) (by decide +kernel), sy_inx 45 (by decide +kernel) (by decide +kernel), by decide +kernel⟩
theorem ii_7_howMany : Cond.instanceMethod y_7_howMany ∈ sy_tb ∧ Cond.selects y_7_howMany.cls y_7_howMany y_7_howMany ∈ sy_tb := ⟨sy_inx 787 (by decide +kernel) (by decide +kernel), sy_inx 788 (by decide +kernel) (by decide +kernel)⟩
theorem co_8_all (l : Launch) : sy_calls l rm_8_all y_8_all.cls c_8_all 2 (fun ns => (M_8_all ns).2.2.2.2.1) := by
  intro p e s m args below meth c rt wd ad ns A Q X hA q b n sp h
  replace h : ct_8_all ns q = some (b, n, sp) := h
  unfold ct_8_all at h
  split at h
  · cases h; exact sy_coV (ci := 7) X hA (mc_7_howMany l) ⟨iw_7_howMany.1, iw_7_howMany.2.1, iw_7_howMany.2.2, ⟨by decide, by decide⟩, rfl, rfl⟩ (sy_inx 786 (by decide +kernel) (by decide +kernel)) ii_7_howMany.1 ii_7_howMany.2 (rc_7_howMany ns) ⟨_, rfl, rfl⟩
  · cases h
theorem rc_8_all (ns : Nat) (as : List sy_V) (st : sy_S) (post : sy_R) (h : sp_8_all ns as st post) : ∃ b as', as = .inr (.inr (some (some b))) :: as' ∧ sy_ob b = some 8 := sy_m1_r rfl as st post h
theorem mc_8_all (l : Launch) : sy_MC l y_8_all c_8_all 2 (some .int) rm_8_all sp_8_all := by
  refine sy_meth M_8_all (by decide +kernel) mv_8_all (co_8_all l) ?_
  intro ns as st post WA h hok hrg ⟨hgo0, hin, hwk⟩
  have hgo : ∀ (n pc : Nat) (L k : List sy_V) (st : sy_S), rn_8_all ns (ct_8_all ns) post WA n pc L k st → WA pc L k st := fun n pc L k st h => hgo0 [] n pc L k st h
  replace h := sy_m1_e h hok
  obtain ⟨w, rfl, hw, h⟩ := h
  refine ⟨Nat.le_of_ble_eq_true rfl, ?_⟩
  show WA 0 [.inr (.inr (some (some 0))), .inl (true, w)] [] st
  obtain ⟨hs, h⟩ := h
  refine hgo 100 _ _ _ _ ?_
  simp -implicitDefEqProofs only [↓rx_8_all_0, ↓rx_8_all_1, ↓rx_8_all_36, ↓rx_8_all_37, ↓rx_8_all_40, ↓rx_8_all_43, ↓rx_8_all_44, ↓rx_8_all_45, ↓rx_8_all_48, ↓rx_8_all_49, ↓rx_8_all_52, ↓rx_8_all_53, ↓rx_8_all_54, ↓rx_8_all_57, ↓rx_8_all_58, ↓rx_8_all_61, ↓rx_8_all_62, ↓rx_8_all_63, ↓rx_8_all_66, ↓rx_8_all_67, ↓rx_8_all_70, ↓rx_8_all_71, ↓rx_8_all_72, ↓rx_8_all_75, ↓rx_8_all_78, ↓rx_8_all_79, ↓rx_8_all_80, ↓cx_8_all_199, sp_7_howMany, ↓sx_s1, ↓sx_s2, ↓sx_s3, ↓sx_s4, ↓sx_s5, ↓sx_s6, ↓sx_m0, ↓sx_m1, ↓sx_m2, ↓sx_m3, ↓sx_m4, ↓sx_m5, ↓sx_m6, ↓sx_k0_, ↓sx_k1_, ↓sx_k2_, ↓sx_k3_, ↓sx_k4_, ↓sx_k5_, ↓sx_k6_, ↓sx_sLL, ↓sx_sAI, ↓sx_mLL, ↓sx_mIIL, ↓sx_mIILL, ↓sx_mIILLL, ↓sx_qS, ↓sx_qSI, ↓sx_qSIII, sx_rit, sx_rif, sx_rlt, sx_rlf, sx_b0, sx_b1, sx_o0, sx_o1i, sx_o1a, sx_o1l, sx_o2, sx_g0, sx_g1, sx_k1, sx_k2, sx_k3, sx_f1, sx_f2, sx_f3, sx_w0, sx_w1, sx_w2, sx_w3, sx_ts, sx_tn, sx_up, sx_nS1, sx_nS2, sx_nW1, sx_nW2, sx_SW, sx_WS, sy_nS_inj, sy_nW_inj, sx_ob0, sx_ob1, sx_ob2, sx_ob3, sx_ob4, sx_ob5, sx_ob6, sx_ob7, sx_ob8, sx_ob9, sx_ob10, sx_ob11, sx_ob12, sx_ob13, sx_ob14, sx_ob15, sx_ob16, sx_ob17, sx_ob18, sx_ob19, sx_ob20, sx_ob21, sx_ob22, sx_ob23, sx_ob24, sx_ob25, sx_ob26, sx_ob27, sx_ob28, sx_ob29, sx_ob30, sx_ob31, sx_ob32, sx_ob33, sx_ob34, sx_ob35, sx_ob36, sx_fv0_0, sx_fv0_1, sx_fv0_2, sx_fv0_3, sx_fv0_4, sx_fv0_5, sx_fv1_0, sx_fv1_1, sx_fv1_2, sx_fv3_0, sx_fv3_1, sx_fv3_2, sx_fv3_3, sx_fv3_4, sx_fv7_0, sx_fv7_1, sx_fv7_2, sx_fv7_3, sx_fv7_4, sx_fv7_5, sx_fv7_6, sx_fv7_7, sx_fv7_8, sx_fv7_9, sx_fv7_10, sx_fv9_0, sx_fv9_1, sx_fv9_2, sx_fv9_3, sx_fv11_0, sx_fv11_1, sx_fv11_2, sx_fv11_3, sx_fv11_4, sx_fv11_5, sx_fv11_6, sx_fv15_0, sx_fv15_1, sx_fv15_2, sx_fv15_3, sx_fv15_4, sx_fv15_5, sx_fv19_0, sx_fv19_1, sx_fv19_2, sx_fv19_3, sx_fv19_4, sx_fv19_5, sx_fv19_6, sx_fv24_0, sx_fv24_1, sx_fv24_2, sx_fv24_3, sx_fv24_4, sx_fv24_5, sx_fv24_6, sx_fv24_7, sx_fv24_8, sx_fv24_9, sx_fv24_10, sx_fv24_11, sx_fv24_12, sx_fv24_13, sx_fv24_14, sx_fv24_15, sx_fv24_16, sx_fv24_17, sx_fv24_18, sx_fvS_0, sx_fvS_1, sx_fvS_2, sx_fvS_3, sx_fvS_4, sx_fvS_5, sx_fvS_6, sx_fvS_7, sx_fvS_8, sx_fvS_9, sx_ar2, sx_ar4, sx_ar5, sx_ar6, sx_ar8, sx_ar10, sx_ar12, sx_ar13, sx_ar14, sx_ar16, sx_ar17, sx_ar18, sx_ar20, sx_ar21, sx_ar22, sx_ar23, sx_ar25, sx_ar26, sx_ar27, sx_ar28, sx_ar29, sx_ar30, sx_ar31, sx_ar32, sx_ar33, sx_ar34, sx_ar35, sx_ar36, sy_ob_S, sy_ob_W, sy_ar_W, sx_if0, sx_if1, sx_ie0, sx_em, Classical.not_not, sx_cle, sx_clt, sx_cge, sx_cgt, sx_ceq, Nat.reduceLT, Nat.reduceLeDiff, Nat.reduceAdd, Nat.reduceSub, Nat.reduceEqDiff, reduceIte, List.length_cons, List.length_nil, true_and, and_true, and_self, Bool.false_eq_true, true_implies, not_true_eq_false, not_false_eq_true, false_implies, implies_true, ne_eq, reduceCtorEq, Option.some.injEq, false_and, and_false, Int.reduceNeg, Int.reduceToNat, Int.reduceLT, Int.reduceLE, Int.reduceEq, Int.reduceAdd, Int.reduceSub, Int.reduceMul, or_false, false_or, or_true, true_or, forall_const, Int.toNat_natCast, Int.toNat_zero, Int.toNat_one, Nat.zero_add, or_self, Int.neg_eq_zero]
  refine ⟨fun c => ?_, fun c => ?_, fun c => ⟨hs, ?_⟩, fun c => ⟨hs, ?_⟩, fun c => ⟨hs, ?_⟩, fun c => ?_⟩
  · rw [if_neg (by omega), if_neg (by omega), if_neg (by omega)] at h; exact h
  · rw [if_pos c] at h; exact h
  · subst c; exact h
  · subst c; exact h
  · subst c; exact h
  · subst c; exact h
