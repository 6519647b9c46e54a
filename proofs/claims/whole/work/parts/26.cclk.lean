/-! THE CLASS: clocks' ranges -/
def x_ps (g : Nat → Int) : Nat → Int
  | 0 => 0
  | n + 1 => x_ps g n + g n
def x_up1 (g : Nat → Int) (k : Nat) (z : Int) : Nat → Int := fun j => if j = k then z else g j
theorem x_ps_up (g : Nat → Int) (k : Nat) (c : Int) : ∀ n, x_ps (x_up1 g k (g k + c)) n = x_ps g n + if k < n then c else 0
  | 0 => by simp [x_ps]
  | n + 1 => by
    simp only [x_ps, x_ps_up g k c n, x_up1]
    by_cases h : n = k
    · subst h
      rw [if_pos rfl, if_neg (by omega), if_pos (by omega)]
      omega
    · rw [if_neg h]
      by_cases h2 : k < n
      · rw [if_pos h2, if_pos (by omega)]; omega
      · rw [if_neg h2, if_neg (by omega)]; omega
def sp_U_fill (ns : Nat) : sy_Sp := sy_sAI fun a v st post => (sy_ob a = none ∧ (sy_ar a).1 = 0) ∧ post none (c_row st a (fun j => if j < (sy_ar a).2 then v else st a j))
def ct_U_fill (ns q : Nat) : Option (Bool × Nat × sy_Sp) := match q with
  | _ => none
abbrev M_U_fill (ns : Nat) : sy_M := Mk_U_fill (ct_U_fill ns)
theorem mv_U_fill (ns : Nat) : sy_MV c_U_fill y_U_fill.cls none (M_U_fill ns) := ⟨tv_U_fill, ff_U_ok, ki_U_ok, kl_U_ok⟩
abbrev rm_U_fill : Room := { frames := 0, cells := 0, slots := 0, locals := 0 }
theorem co_U_fill (l : Launch) : sy_calls l rm_U_fill y_U_fill.cls c_U_fill 4 (fun ns => (M_U_fill ns).2.2.2.2.1) := by
  intro p e s m args below meth c rt wd ad ns A Q X hA q b n sp h
  replace h : ct_U_fill ns q = some (b, n, sp) := h
  unfold ct_U_fill at h
  cases h
theorem mc_U_fill (l : Launch) : sy_MC l y_U_fill c_U_fill 4 none rm_U_fill sp_U_fill := by
  refine sy_meth M_U_fill (by decide +kernel) mv_U_fill (co_U_fill l) ?_
  intro ns as st post WA h hok hrg ⟨hgo0, hin, hwk⟩
  have hgo : ∀ (n pc : Nat) (L k : List sy_V) (st : sy_S), rn_U_fill ns (ct_U_fill ns) post WA n pc L k st → WA pc L k st := fun n pc L k st h => hgo0 [5] n pc L k st h
  replace h := sy_sAI_e h hok
  obtain ⟨a, v, rfl, ha, hv, h⟩ := h
  refine ⟨Nat.le_of_ble_eq_true rfl, ?_⟩
  show WA 0 [.inr (.inr (some (some a))), .inl (true, v), .inr (.inr none), .inr (.inr none)] [] st
  obtain ⟨⟨ho, h0⟩, h⟩ := h
  have hl := sy_ar_le a
  have key : ∀ (d i : Nat), i + d = (sy_ar a).2 → WA 5 [.inr (.inr (some (some a))), .inl (true, v), .inl (true, (i : Int)), .inl (true, ((sy_ar a).2 : Int))] [] (c_row st a (fun j => if j < i then v else st a j)) := by
    intro d
    induction d with
    | zero =>
      intro i hi
      refine hgo 100 _ _ _ _ ?_
      simp -implicitDefEqProofs only [↓rx_U_fill_0, ↓rx_U_fill_1, ↓rx_U_fill_2, ↓rx_U_fill_3, ↓rx_U_fill_4, ↓rx_U_fill_5, ↓rx_U_fill_6, ↓rx_U_fill_7, ↓rx_U_fill_10, ↓rx_U_fill_11, ↓rx_U_fill_12, ↓rx_U_fill_13, ↓rx_U_fill_14, ↓rx_U_fill_17, ↓rx_U_fill_20, ↓sx_s1, ↓sx_s2, ↓sx_s3, ↓sx_s4, ↓sx_s5, ↓sx_s6, ↓sx_m0, ↓sx_m1, ↓sx_m2, ↓sx_m3, ↓sx_m4, ↓sx_m5, ↓sx_m6, ↓sx_k0_, ↓sx_k1_, ↓sx_k2_, ↓sx_k3_, ↓sx_k4_, ↓sx_k5_, ↓sx_k6_, ↓sx_sLL, ↓sx_sAI, ↓sx_mLL, ↓sx_mIIL, ↓sx_mIILL, ↓sx_mIILLL, ↓sx_qS, ↓sx_qSI, ↓sx_qSIII, sx_rit, sx_rif, sx_rlt, sx_rlf, sx_b0, sx_b1, sx_o0, sx_o1i, sx_o1a, sx_o1l, sx_o2, sx_g0, sx_g1, sx_k1, sx_k2, sx_k3, sx_f1, sx_f2, sx_f3, sx_w0, sx_w1, sx_w2, sx_w3, sx_ts, sx_tn, sx_up, sx_nS1, sx_nS2, sx_nW1, sx_nW2, sx_SW, sx_WS, sy_nS_inj, sy_nW_inj, sx_ob0, sx_ob1, sx_ob2, sx_ob3, sx_ob4, sx_ob5, sx_ob6, sx_ob7, sx_ob8, sx_ob9, sx_ob10, sx_ob11, sx_ob12, sx_ob13, sx_ob14, sx_ob15, sx_ob16, sx_ob17, sx_ob18, sx_ob19, sx_ob20, sx_ob21, sx_ob22, sx_ob23, sx_ob24, sx_ob25, sx_ob26, sx_ob27, sx_ob28, sx_ob29, sx_ob30, sx_ob31, sx_ob32, sx_ob33, sx_ob34, sx_ob35, sx_ob36, sx_fv0_0, sx_fv0_1, sx_fv0_2, sx_fv0_3, sx_fv0_4, sx_fv0_5, sx_fv1_0, sx_fv1_1, sx_fv1_2, sx_fv3_0, sx_fv3_1, sx_fv3_2, sx_fv3_3, sx_fv3_4, sx_fv7_0, sx_fv7_1, sx_fv7_2, sx_fv7_3, sx_fv7_4, sx_fv7_5, sx_fv7_6, sx_fv7_7, sx_fv7_8, sx_fv7_9, sx_fv7_10, sx_fv9_0, sx_fv9_1, sx_fv9_2, sx_fv9_3, sx_fv11_0, sx_fv11_1, sx_fv11_2, sx_fv11_3, sx_fv11_4, sx_fv11_5, sx_fv11_6, sx_fv15_0, sx_fv15_1, sx_fv15_2, sx_fv15_3, sx_fv15_4, sx_fv15_5, sx_fv19_0, sx_fv19_1, sx_fv19_2, sx_fv19_3, sx_fv19_4, sx_fv19_5, sx_fv19_6, sx_fv24_0, sx_fv24_1, sx_fv24_2, sx_fv24_3, sx_fv24_4, sx_fv24_5, sx_fv24_6, sx_fv24_7, sx_fv24_8, sx_fv24_9, sx_fv24_10, sx_fv24_11, sx_fv24_12, sx_fv24_13, sx_fv24_14, sx_fv24_15, sx_fv24_16, sx_fv24_17, sx_fv24_18, sx_fvS_0, sx_fvS_1, sx_fvS_2, sx_fvS_3, sx_fvS_4, sx_fvS_5, sx_fvS_6, sx_fvS_7, sx_fvS_8, sx_fvS_9, sx_ar2, sx_ar4, sx_ar5, sx_ar6, sx_ar8, sx_ar10, sx_ar12, sx_ar13, sx_ar14, sx_ar16, sx_ar17, sx_ar18, sx_ar20, sx_ar21, sx_ar22, sx_ar23, sx_ar25, sx_ar26, sx_ar27, sx_ar28, sx_ar29, sx_ar30, sx_ar31, sx_ar32, sx_ar33, sx_ar34, sx_ar35, sx_ar36, sy_ob_S, sy_ob_W, sy_ar_W, sx_if0, sx_if1, sx_ie0, sx_em, Classical.not_not, sx_cle, sx_clt, sx_cge, sx_cgt, sx_ceq, Nat.reduceLT, Nat.reduceLeDiff, Nat.reduceAdd, Nat.reduceSub, Nat.reduceEqDiff, reduceIte, List.length_cons, List.length_nil, true_and, and_true, and_self, Bool.false_eq_true, true_implies, not_true_eq_false, not_false_eq_true, false_implies, implies_true, ne_eq, reduceCtorEq, Option.some.injEq, false_and, and_false, Int.reduceNeg, Int.reduceToNat, Int.reduceLT, Int.reduceLE, Int.reduceEq, Int.reduceAdd, Int.reduceSub, Int.reduceMul, or_false, false_or, or_true, true_or, forall_const, Int.toNat_natCast, Int.toNat_zero, Int.toNat_one, Nat.zero_add, or_self, Int.neg_eq_zero]
      have e : i = (sy_ar a).2 := by omega
      subst e
      exact ⟨fun _ => h, fun q => by omega⟩
    | succ d ih =>
      intro i hi
      refine hgo 100 _ _ _ _ ?_
      simp -implicitDefEqProofs only [↓rx_U_fill_0, ↓rx_U_fill_1, ↓rx_U_fill_2, ↓rx_U_fill_3, ↓rx_U_fill_4, ↓rx_U_fill_5, ↓rx_U_fill_6, ↓rx_U_fill_7, ↓rx_U_fill_10, ↓rx_U_fill_11, ↓rx_U_fill_12, ↓rx_U_fill_13, ↓rx_U_fill_14, ↓rx_U_fill_17, ↓rx_U_fill_20, ↓sx_s1, ↓sx_s2, ↓sx_s3, ↓sx_s4, ↓sx_s5, ↓sx_s6, ↓sx_m0, ↓sx_m1, ↓sx_m2, ↓sx_m3, ↓sx_m4, ↓sx_m5, ↓sx_m6, ↓sx_k0_, ↓sx_k1_, ↓sx_k2_, ↓sx_k3_, ↓sx_k4_, ↓sx_k5_, ↓sx_k6_, ↓sx_sLL, ↓sx_sAI, ↓sx_mLL, ↓sx_mIIL, ↓sx_mIILL, ↓sx_mIILLL, ↓sx_qS, ↓sx_qSI, ↓sx_qSIII, sx_rit, sx_rif, sx_rlt, sx_rlf, sx_b0, sx_b1, sx_o0, sx_o1i, sx_o1a, sx_o1l, sx_o2, sx_g0, sx_g1, sx_k1, sx_k2, sx_k3, sx_f1, sx_f2, sx_f3, sx_w0, sx_w1, sx_w2, sx_w3, sx_ts, sx_tn, sx_up, sx_nS1, sx_nS2, sx_nW1, sx_nW2, sx_SW, sx_WS, sy_nS_inj, sy_nW_inj, sx_ob0, sx_ob1, sx_ob2, sx_ob3, sx_ob4, sx_ob5, sx_ob6, sx_ob7, sx_ob8, sx_ob9, sx_ob10, sx_ob11, sx_ob12, sx_ob13, sx_ob14, sx_ob15, sx_ob16, sx_ob17, sx_ob18, sx_ob19, sx_ob20, sx_ob21, sx_ob22, sx_ob23, sx_ob24, sx_ob25, sx_ob26, sx_ob27, sx_ob28, sx_ob29, sx_ob30, sx_ob31, sx_ob32, sx_ob33, sx_ob34, sx_ob35, sx_ob36, sx_fv0_0, sx_fv0_1, sx_fv0_2, sx_fv0_3, sx_fv0_4, sx_fv0_5, sx_fv1_0, sx_fv1_1, sx_fv1_2, sx_fv3_0, sx_fv3_1, sx_fv3_2, sx_fv3_3, sx_fv3_4, sx_fv7_0, sx_fv7_1, sx_fv7_2, sx_fv7_3, sx_fv7_4, sx_fv7_5, sx_fv7_6, sx_fv7_7, sx_fv7_8, sx_fv7_9, sx_fv7_10, sx_fv9_0, sx_fv9_1, sx_fv9_2, sx_fv9_3, sx_fv11_0, sx_fv11_1, sx_fv11_2, sx_fv11_3, sx_fv11_4, sx_fv11_5, sx_fv11_6, sx_fv15_0, sx_fv15_1, sx_fv15_2, sx_fv15_3, sx_fv15_4, sx_fv15_5, sx_fv19_0, sx_fv19_1, sx_fv19_2, sx_fv19_3, sx_fv19_4, sx_fv19_5, sx_fv19_6, sx_fv24_0, sx_fv24_1, sx_fv24_2, sx_fv24_3, sx_fv24_4, sx_fv24_5, sx_fv24_6, sx_fv24_7, sx_fv24_8, sx_fv24_9, sx_fv24_10, sx_fv24_11, sx_fv24_12, sx_fv24_13, sx_fv24_14, sx_fv24_15, sx_fv24_16, sx_fv24_17, sx_fv24_18, sx_fvS_0, sx_fvS_1, sx_fvS_2, sx_fvS_3, sx_fvS_4, sx_fvS_5, sx_fvS_6, sx_fvS_7, sx_fvS_8, sx_fvS_9, sx_ar2, sx_ar4, sx_ar5, sx_ar6, sx_ar8, sx_ar10, sx_ar12, sx_ar13, sx_ar14, sx_ar16, sx_ar17, sx_ar18, sx_ar20, sx_ar21, sx_ar22, sx_ar23, sx_ar25, sx_ar26, sx_ar27, sx_ar28, sx_ar29, sx_ar30, sx_ar31, sx_ar32, sx_ar33, sx_ar34, sx_ar35, sx_ar36, sy_ob_S, sy_ob_W, sy_ar_W, sx_if0, sx_if1, sx_ie0, sx_em, Classical.not_not, sx_cle, sx_clt, sx_cge, sx_cgt, sx_ceq, Nat.reduceLT, Nat.reduceLeDiff, Nat.reduceAdd, Nat.reduceSub, Nat.reduceEqDiff, reduceIte, List.length_cons, List.length_nil, true_and, and_true, and_self, Bool.false_eq_true, true_implies, not_true_eq_false, not_false_eq_true, false_implies, implies_true, ne_eq, reduceCtorEq, Option.some.injEq, false_and, and_false, Int.reduceNeg, Int.reduceToNat, Int.reduceLT, Int.reduceLE, Int.reduceEq, Int.reduceAdd, Int.reduceSub, Int.reduceMul, or_false, false_or, or_true, true_or, forall_const, Int.toNat_natCast, Int.toNat_zero, Int.toNat_one, Nat.zero_add, or_self, Int.neg_eq_zero]
      have i1 := ih (i + 1) (by omega)
      have e : ((i : Int) + 1) = ((i + 1 : Nat) : Int) := by omega
      rw [e, c_row_up]
      have e2 : (fun j => if j = i then v else if j < i then v else st a j) = fun j => if j < i + 1 then v else st a j := by
        funext j
        by_cases h1 : j = i
        · rw [if_pos h1, if_pos (by omega)]
        · rw [if_neg h1]
          by_cases h2 : j < i
          · rw [if_pos h2, if_pos (by omega)]
          · rw [if_neg h2, if_neg (by omega)]
      rw [e2]
      exact ⟨fun q => by omega, fun _ => ⟨by omega, ho, h0, by omega, i1⟩⟩
  refine hgo 100 _ _ _ _ ?_
  simp -implicitDefEqProofs only [↓rx_U_fill_0, ↓rx_U_fill_1, ↓rx_U_fill_2, ↓rx_U_fill_3, ↓rx_U_fill_4, ↓rx_U_fill_5, ↓rx_U_fill_6, ↓rx_U_fill_7, ↓rx_U_fill_10, ↓rx_U_fill_11, ↓rx_U_fill_12, ↓rx_U_fill_13, ↓rx_U_fill_14, ↓rx_U_fill_17, ↓rx_U_fill_20, ↓sx_s1, ↓sx_s2, ↓sx_s3, ↓sx_s4, ↓sx_s5, ↓sx_s6, ↓sx_m0, ↓sx_m1, ↓sx_m2, ↓sx_m3, ↓sx_m4, ↓sx_m5, ↓sx_m6, ↓sx_k0_, ↓sx_k1_, ↓sx_k2_, ↓sx_k3_, ↓sx_k4_, ↓sx_k5_, ↓sx_k6_, ↓sx_sLL, ↓sx_sAI, ↓sx_mLL, ↓sx_mIIL, ↓sx_mIILL, ↓sx_mIILLL, ↓sx_qS, ↓sx_qSI, ↓sx_qSIII, sx_rit, sx_rif, sx_rlt, sx_rlf, sx_b0, sx_b1, sx_o0, sx_o1i, sx_o1a, sx_o1l, sx_o2, sx_g0, sx_g1, sx_k1, sx_k2, sx_k3, sx_f1, sx_f2, sx_f3, sx_w0, sx_w1, sx_w2, sx_w3, sx_ts, sx_tn, sx_up, sx_nS1, sx_nS2, sx_nW1, sx_nW2, sx_SW, sx_WS, sy_nS_inj, sy_nW_inj, sx_ob0, sx_ob1, sx_ob2, sx_ob3, sx_ob4, sx_ob5, sx_ob6, sx_ob7, sx_ob8, sx_ob9, sx_ob10, sx_ob11, sx_ob12, sx_ob13, sx_ob14, sx_ob15, sx_ob16, sx_ob17, sx_ob18, sx_ob19, sx_ob20, sx_ob21, sx_ob22, sx_ob23, sx_ob24, sx_ob25, sx_ob26, sx_ob27, sx_ob28, sx_ob29, sx_ob30, sx_ob31, sx_ob32, sx_ob33, sx_ob34, sx_ob35, sx_ob36, sx_fv0_0, sx_fv0_1, sx_fv0_2, sx_fv0_3, sx_fv0_4, sx_fv0_5, sx_fv1_0, sx_fv1_1, sx_fv1_2, sx_fv3_0, sx_fv3_1, sx_fv3_2, sx_fv3_3, sx_fv3_4, sx_fv7_0, sx_fv7_1, sx_fv7_2, sx_fv7_3, sx_fv7_4, sx_fv7_5, sx_fv7_6, sx_fv7_7, sx_fv7_8, sx_fv7_9, sx_fv7_10, sx_fv9_0, sx_fv9_1, sx_fv9_2, sx_fv9_3, sx_fv11_0, sx_fv11_1, sx_fv11_2, sx_fv11_3, sx_fv11_4, sx_fv11_5, sx_fv11_6, sx_fv15_0, sx_fv15_1, sx_fv15_2, sx_fv15_3, sx_fv15_4, sx_fv15_5, sx_fv19_0, sx_fv19_1, sx_fv19_2, sx_fv19_3, sx_fv19_4, sx_fv19_5, sx_fv19_6, sx_fv24_0, sx_fv24_1, sx_fv24_2, sx_fv24_3, sx_fv24_4, sx_fv24_5, sx_fv24_6, sx_fv24_7, sx_fv24_8, sx_fv24_9, sx_fv24_10, sx_fv24_11, sx_fv24_12, sx_fv24_13, sx_fv24_14, sx_fv24_15, sx_fv24_16, sx_fv24_17, sx_fv24_18, sx_fvS_0, sx_fvS_1, sx_fvS_2, sx_fvS_3, sx_fvS_4, sx_fvS_5, sx_fvS_6, sx_fvS_7, sx_fvS_8, sx_fvS_9, sx_ar2, sx_ar4, sx_ar5, sx_ar6, sx_ar8, sx_ar10, sx_ar12, sx_ar13, sx_ar14, sx_ar16, sx_ar17, sx_ar18, sx_ar20, sx_ar21, sx_ar22, sx_ar23, sx_ar25, sx_ar26, sx_ar27, sx_ar28, sx_ar29, sx_ar30, sx_ar31, sx_ar32, sx_ar33, sx_ar34, sx_ar35, sx_ar36, sy_ob_S, sy_ob_W, sy_ar_W, sx_if0, sx_if1, sx_ie0, sx_em, Classical.not_not, sx_cle, sx_clt, sx_cge, sx_cgt, sx_ceq, Nat.reduceLT, Nat.reduceLeDiff, Nat.reduceAdd, Nat.reduceSub, Nat.reduceEqDiff, reduceIte, List.length_cons, List.length_nil, true_and, and_true, and_self, Bool.false_eq_true, true_implies, not_true_eq_false, not_false_eq_true, false_implies, implies_true, ne_eq, reduceCtorEq, Option.some.injEq, false_and, and_false, Int.reduceNeg, Int.reduceToNat, Int.reduceLT, Int.reduceLE, Int.reduceEq, Int.reduceAdd, Int.reduceSub, Int.reduceMul, or_false, false_or, or_true, true_or, forall_const, Int.toNat_natCast, Int.toNat_zero, Int.toNat_one, Nat.zero_add, or_self, Int.neg_eq_zero]
  have k0 := key (sy_ar a).2 0 (by omega)
  have e0 : (fun j => if j < 0 then v else st a j) = st a := by
    funext j
    rw [if_neg (by omega)]
  rw [e0, c_row_self] at k0
  exact ⟨ho, k0⟩
/-- no ranges -/
def c_clr (st : sy_S) : sy_S := sy_up (sy_up (sy_up (c_row st 10 (fun j => if j < 102 then 0 else st 10 j)) 9 1 0) 9 2 (-1000)) 9 3 (-1000)
def sp_0_clear (ns : Nat) : sy_Sp := sy_m0 9 fun st post => post none (c_clr st)
def ct_0_clear (ns q : Nat) : Option (Bool × Nat × sy_Sp) := match q with
  | 15 => some (true, 2, sp_U_fill ns)
  | _ => none
abbrev M_0_clear (ns : Nat) : sy_M := Mk_0_clear (ct_0_clear ns)
theorem cx_0_clear_15 {ns : Nat} {v1 v2 : sy_V} {r : List sy_V} {s : sy_S} {f : List sy_V → sy_S → Prop} : sy_call true (ct_0_clear ns 15) (v2 :: v1 :: r) s f = (sy_wd r ≤ 8 ∧ (sy_fit v2 ∧ sy_fit v1) ∧ sp_U_fill ns [sy_kn v1, sy_kn v2] s (fun q t => f (q.toList ++ r) t)) := sx_call2
theorem mv_0_clear (ns : Nat) : sy_MV c_0_clear y_0_clear.cls none (M_0_clear ns) := ⟨tv_0_clear, ff_0_ok, ki_0_ok, kl_0_ok⟩
abbrev rm_0_clear : Room := { frames := 1, cells := 0, slots := 0, locals := 23 }
theorem iw_U_fill : Cond.code y_U_fill c_U_fill 4 none ∈ sy_tb ∧ Cond.initialized y_U_fill.cls ∈ sy_tb ∧ (y_U_fill.cls ≠ "java/lang/invoke/MethodHandle" ∧ y_U_fill.cls ≠ "java/lang/invoke/VarHandle" ∧ (parseMethodDescriptor y_U_fill.desc).map (fun d => d.parameters.length) = some 2) := ⟨sy_inx 99 (by decide +kernel) (by decide +kernel), sy_inx 47 (by decide +kernel) (by decide +kernel), by decide +kernel⟩
theorem is_U_fill : Cond.static y_U_fill ∈ sy_tb := sy_inx 98 (by decide +kernel) (by decide +kernel)
theorem co_0_clear (l : Launch) : sy_calls l rm_0_clear y_0_clear.cls c_0_clear 1 (fun ns => (M_0_clear ns).2.2.2.2.1) := by
  intro p e s m args below meth c rt wd ad ns A Q X hA q b n sp h
  replace h : ct_0_clear ns q = some (b, n, sp) := h
  unfold ct_0_clear at h
  split at h
  · cases h; exact sy_coS X hA (mc_U_fill l) ⟨iw_U_fill.1, iw_U_fill.2.1, iw_U_fill.2.2, ⟨by decide, by decide⟩, rfl, rfl⟩ (sy_inx 596 (by decide +kernel) (by decide +kernel)) is_U_fill
  · cases h
theorem rc_0_clear (ns : Nat) (as : List sy_V) (st : sy_S) (post : sy_R) (h : sp_0_clear ns as st post) : ∃ b as', as = .inr (.inr (some (some b))) :: as' ∧ sy_ob b = some 0 := sy_m0_r rfl as st post h
theorem mc_0_clear (l : Launch) : sy_MC l y_0_clear c_0_clear 1 none rm_0_clear sp_0_clear := by
  refine sy_meth M_0_clear (by decide +kernel) mv_0_clear (co_0_clear l) ?_
  intro ns as st post WA h hok hrg ⟨hgo0, hin, hwk⟩
  have hgo : ∀ (n pc : Nat) (L k : List sy_V) (st : sy_S), rn_0_clear ns (ct_0_clear ns) post WA n pc L k st → WA pc L k st := fun n pc L k st h => hgo0 [] n pc L k st h
  replace h := sy_m0_e h hok
  obtain ⟨rfl, h⟩ := h
  refine ⟨Nat.le_of_ble_eq_true rfl, ?_⟩
  show WA 0 [.inr (.inr (some (some 9)))] [] st
  refine hgo 100 _ _ _ _ ?_
  simp -implicitDefEqProofs only [↓rx_0_clear_0, ↓rx_0_clear_1, ↓rx_0_clear_4, ↓rx_0_clear_5, ↓rx_0_clear_8, ↓rx_0_clear_9, ↓rx_0_clear_10, ↓rx_0_clear_13, ↓rx_0_clear_14, ↓rx_0_clear_17, ↓rx_0_clear_20, ↓rx_0_clear_21, ↓rx_0_clear_24, ↓rx_0_clear_27, ↓cx_0_clear_15, sp_U_fill, ↓sx_s1, ↓sx_s2, ↓sx_s3, ↓sx_s4, ↓sx_s5, ↓sx_s6, ↓sx_m0, ↓sx_m1, ↓sx_m2, ↓sx_m3, ↓sx_m4, ↓sx_m5, ↓sx_m6, ↓sx_k0_, ↓sx_k1_, ↓sx_k2_, ↓sx_k3_, ↓sx_k4_, ↓sx_k5_, ↓sx_k6_, ↓sx_sLL, ↓sx_sAI, ↓sx_mLL, ↓sx_mIIL, ↓sx_mIILL, ↓sx_mIILLL, ↓sx_qS, ↓sx_qSI, ↓sx_qSIII, sx_rit, sx_rif, sx_rlt, sx_rlf, sx_b0, sx_b1, sx_o0, sx_o1i, sx_o1a, sx_o1l, sx_o2, sx_g0, sx_g1, sx_k1, sx_k2, sx_k3, sx_f1, sx_f2, sx_f3, sx_w0, sx_w1, sx_w2, sx_w3, sx_ts, sx_tn, sx_up, sx_nS1, sx_nS2, sx_nW1, sx_nW2, sx_SW, sx_WS, sy_nS_inj, sy_nW_inj, sx_ob0, sx_ob1, sx_ob2, sx_ob3, sx_ob4, sx_ob5, sx_ob6, sx_ob7, sx_ob8, sx_ob9, sx_ob10, sx_ob11, sx_ob12, sx_ob13, sx_ob14, sx_ob15, sx_ob16, sx_ob17, sx_ob18, sx_ob19, sx_ob20, sx_ob21, sx_ob22, sx_ob23, sx_ob24, sx_ob25, sx_ob26, sx_ob27, sx_ob28, sx_ob29, sx_ob30, sx_ob31, sx_ob32, sx_ob33, sx_ob34, sx_ob35, sx_ob36, sx_fv0_0, sx_fv0_1, sx_fv0_2, sx_fv0_3, sx_fv0_4, sx_fv0_5, sx_fv1_0, sx_fv1_1, sx_fv1_2, sx_fv3_0, sx_fv3_1, sx_fv3_2, sx_fv3_3, sx_fv3_4, sx_fv7_0, sx_fv7_1, sx_fv7_2, sx_fv7_3, sx_fv7_4, sx_fv7_5, sx_fv7_6, sx_fv7_7, sx_fv7_8, sx_fv7_9, sx_fv7_10, sx_fv9_0, sx_fv9_1, sx_fv9_2, sx_fv9_3, sx_fv11_0, sx_fv11_1, sx_fv11_2, sx_fv11_3, sx_fv11_4, sx_fv11_5, sx_fv11_6, sx_fv15_0, sx_fv15_1, sx_fv15_2, sx_fv15_3, sx_fv15_4, sx_fv15_5, sx_fv19_0, sx_fv19_1, sx_fv19_2, sx_fv19_3, sx_fv19_4, sx_fv19_5, sx_fv19_6, sx_fv24_0, sx_fv24_1, sx_fv24_2, sx_fv24_3, sx_fv24_4, sx_fv24_5, sx_fv24_6, sx_fv24_7, sx_fv24_8, sx_fv24_9, sx_fv24_10, sx_fv24_11, sx_fv24_12, sx_fv24_13, sx_fv24_14, sx_fv24_15, sx_fv24_16, sx_fv24_17, sx_fv24_18, sx_fvS_0, sx_fvS_1, sx_fvS_2, sx_fvS_3, sx_fvS_4, sx_fvS_5, sx_fvS_6, sx_fvS_7, sx_fvS_8, sx_fvS_9, sx_ar2, sx_ar4, sx_ar5, sx_ar6, sx_ar8, sx_ar10, sx_ar12, sx_ar13, sx_ar14, sx_ar16, sx_ar17, sx_ar18, sx_ar20, sx_ar21, sx_ar22, sx_ar23, sx_ar25, sx_ar26, sx_ar27, sx_ar28, sx_ar29, sx_ar30, sx_ar31, sx_ar32, sx_ar33, sx_ar34, sx_ar35, sx_ar36, sy_ob_S, sy_ob_W, sy_ar_W, sx_if0, sx_if1, sx_ie0, sx_em, Classical.not_not, sx_cle, sx_clt, sx_cge, sx_cgt, sx_ceq, Nat.reduceLT, Nat.reduceLeDiff, Nat.reduceAdd, Nat.reduceSub, Nat.reduceEqDiff, reduceIte, List.length_cons, List.length_nil, true_and, and_true, and_self, Bool.false_eq_true, true_implies, not_true_eq_false, not_false_eq_true, false_implies, implies_true, ne_eq, reduceCtorEq, Option.some.injEq, false_and, and_false, Int.reduceNeg, Int.reduceToNat, Int.reduceLT, Int.reduceLE, Int.reduceEq, Int.reduceAdd, Int.reduceSub, Int.reduceMul, or_false, false_or, or_true, true_or, forall_const, Int.toNat_natCast, Int.toNat_zero, Int.toNat_one, Nat.zero_add, or_self, Int.neg_eq_zero]
  exact h
/-- rounded up: the least number whose so many times is at least that -/
def sp_0_roundUp (ns : Nat) : sy_Sp := sy_s2 fun v k st post => ((-1000000 ≤ v ∧ v ≤ 1000000) ∧ 1 ≤ k) ∧ post (some (.inl (true, -((-v) / k)))) st
def ct_0_roundUp (ns q : Nat) : Option (Bool × Nat × sy_Sp) := match q with
  | 31 => some (true, 2, sp_M_maxI ns)
  | 51 => some (true, 2, sp_M_floorDiv ns)
  | _ => none
abbrev M_0_roundUp (ns : Nat) : sy_M := Mk_0_roundUp (ct_0_roundUp ns)
theorem cx_0_roundUp_31 {ns : Nat} {v1 v2 : sy_V} {r : List sy_V} {s : sy_S} {f : List sy_V → sy_S → Prop} : sy_call true (ct_0_roundUp ns 31) (v2 :: v1 :: r) s f = (sy_wd r ≤ 8 ∧ (sy_fit v2 ∧ sy_fit v1) ∧ sp_M_maxI ns [sy_kn v1, sy_kn v2] s (fun q t => f (q.toList ++ r) t)) := sx_call2
theorem cx_0_roundUp_51 {ns : Nat} {v1 v2 : sy_V} {r : List sy_V} {s : sy_S} {f : List sy_V → sy_S → Prop} : sy_call true (ct_0_roundUp ns 51) (v2 :: v1 :: r) s f = (sy_wd r ≤ 8 ∧ (sy_fit v2 ∧ sy_fit v1) ∧ sp_M_floorDiv ns [sy_kn v1, sy_kn v2] s (fun q t => f (q.toList ++ r) t)) := sx_call2
theorem mv_0_roundUp (ns : Nat) : sy_MV c_0_roundUp y_0_roundUp.cls (some .int) (M_0_roundUp ns) := ⟨tv_0_roundUp, ff_0_ok, ki_0_ok, kl_0_ok⟩
abbrev rm_0_roundUp : Room := { frames := 1, cells := 0, slots := 0, locals := 22 }
theorem iw_M_floorDiv : Cond.code y_M_floorDiv c_M_floorDiv 3 (some .int) ∈ sy_tb ∧ Cond.initialized y_M_floorDiv.cls ∈ sy_tb ∧ (y_M_floorDiv.cls ≠ "java/lang/invoke/MethodHandle" ∧ y_M_floorDiv.cls ≠ "java/lang/invoke/VarHandle" ∧ (parseMethodDescriptor y_M_floorDiv.desc).map (fun d => d.parameters.length) = some 2) := ⟨sy_inx 609 (by decide +kernel) (by decide +kernel), sy_inx 55 (by decide +kernel) (by decide +kernel), by decide +kernel⟩
theorem is_M_floorDiv : Cond.static y_M_floorDiv ∈ sy_tb := sy_inx 608 (by decide +kernel) (by decide +kernel)
theorem co_0_roundUp (l : Launch) : sy_calls l rm_0_roundUp y_0_roundUp.cls c_0_roundUp 2 (fun ns => (M_0_roundUp ns).2.2.2.2.1) := by
  intro p e s m args below meth c rt wd ad ns A Q X hA q b n sp h
  replace h : ct_0_roundUp ns q = some (b, n, sp) := h
  unfold ct_0_roundUp at h
  split at h
  · cases h; exact sy_coS X hA (mc_M_maxI l) ⟨iw_M_maxI.1, iw_M_maxI.2.1, iw_M_maxI.2.2, ⟨by decide, by decide⟩, rfl, rfl⟩ (sy_inx 601 (by decide +kernel) (by decide +kernel)) is_M_maxI
  · cases h; exact sy_coS X hA (mc_M_floorDiv l) ⟨iw_M_floorDiv.1, iw_M_floorDiv.2.1, iw_M_floorDiv.2.2, ⟨by decide, by decide⟩, rfl, rfl⟩ (sy_inx 607 (by decide +kernel) (by decide +kernel)) is_M_floorDiv
  · cases h
theorem mc_0_roundUp (l : Launch) : sy_MC l y_0_roundUp c_0_roundUp 2 (some .int) rm_0_roundUp sp_0_roundUp := by
  refine sy_meth M_0_roundUp (by decide +kernel) mv_0_roundUp (co_0_roundUp l) ?_
  intro ns as st post WA h hok hrg ⟨hgo0, hin, hwk⟩
  have hgo : ∀ (n pc : Nat) (L k : List sy_V) (st : sy_S), rn_0_roundUp ns (ct_0_roundUp ns) post WA n pc L k st → WA pc L k st := fun n pc L k st h => hgo0 [] n pc L k st h
  replace h := sy_s2_e h hok
  obtain ⟨v, k, rfl, hv, hk, h⟩ := h
  refine ⟨Nat.le_of_ble_eq_true rfl, ?_⟩
  show WA 0 [.inl (true, v), .inl (true, k)] [] st
  obtain ⟨⟨hv1, hk1⟩, h⟩ := h
  refine hgo 100 _ _ _ _ ?_
  simp -implicitDefEqProofs only [↓rx_0_roundUp_0, ↓rx_0_roundUp_1, ↓rx_0_roundUp_2, ↓rx_0_roundUp_3, ↓rx_0_roundUp_4, ↓rx_0_roundUp_7, ↓rx_0_roundUp_10, ↓rx_0_roundUp_11, ↓cx_0_roundUp_31, ↓cx_0_roundUp_51, sp_M_floorDiv, sp_M_maxI, ↓sx_s1, ↓sx_s2, ↓sx_s3, ↓sx_s4, ↓sx_s5, ↓sx_s6, ↓sx_m0, ↓sx_m1, ↓sx_m2, ↓sx_m3, ↓sx_m4, ↓sx_m5, ↓sx_m6, ↓sx_k0_, ↓sx_k1_, ↓sx_k2_, ↓sx_k3_, ↓sx_k4_, ↓sx_k5_, ↓sx_k6_, ↓sx_sLL, ↓sx_sAI, ↓sx_mLL, ↓sx_mIIL, ↓sx_mIILL, ↓sx_mIILLL, ↓sx_qS, ↓sx_qSI, ↓sx_qSIII, sx_rit, sx_rif, sx_rlt, sx_rlf, sx_b0, sx_b1, sx_o0, sx_o1i, sx_o1a, sx_o1l, sx_o2, sx_g0, sx_g1, sx_k1, sx_k2, sx_k3, sx_f1, sx_f2, sx_f3, sx_w0, sx_w1, sx_w2, sx_w3, sx_ts, sx_tn, sx_up, sx_nS1, sx_nS2, sx_nW1, sx_nW2, sx_SW, sx_WS, sy_nS_inj, sy_nW_inj, sx_ob0, sx_ob1, sx_ob2, sx_ob3, sx_ob4, sx_ob5, sx_ob6, sx_ob7, sx_ob8, sx_ob9, sx_ob10, sx_ob11, sx_ob12, sx_ob13, sx_ob14, sx_ob15, sx_ob16, sx_ob17, sx_ob18, sx_ob19, sx_ob20, sx_ob21, sx_ob22, sx_ob23, sx_ob24, sx_ob25, sx_ob26, sx_ob27, sx_ob28, sx_ob29, sx_ob30, sx_ob31, sx_ob32, sx_ob33, sx_ob34, sx_ob35, sx_ob36, sx_fv0_0, sx_fv0_1, sx_fv0_2, sx_fv0_3, sx_fv0_4, sx_fv0_5, sx_fv1_0, sx_fv1_1, sx_fv1_2, sx_fv3_0, sx_fv3_1, sx_fv3_2, sx_fv3_3, sx_fv3_4, sx_fv7_0, sx_fv7_1, sx_fv7_2, sx_fv7_3, sx_fv7_4, sx_fv7_5, sx_fv7_6, sx_fv7_7, sx_fv7_8, sx_fv7_9, sx_fv7_10, sx_fv9_0, sx_fv9_1, sx_fv9_2, sx_fv9_3, sx_fv11_0, sx_fv11_1, sx_fv11_2, sx_fv11_3, sx_fv11_4, sx_fv11_5, sx_fv11_6, sx_fv15_0, sx_fv15_1, sx_fv15_2, sx_fv15_3, sx_fv15_4, sx_fv15_5, sx_fv19_0, sx_fv19_1, sx_fv19_2, sx_fv19_3, sx_fv19_4, sx_fv19_5, sx_fv19_6, sx_fv24_0, sx_fv24_1, sx_fv24_2, sx_fv24_3, sx_fv24_4, sx_fv24_5, sx_fv24_6, sx_fv24_7, sx_fv24_8, sx_fv24_9, sx_fv24_10, sx_fv24_11, sx_fv24_12, sx_fv24_13, sx_fv24_14, sx_fv24_15, sx_fv24_16, sx_fv24_17, sx_fv24_18, sx_fvS_0, sx_fvS_1, sx_fvS_2, sx_fvS_3, sx_fvS_4, sx_fvS_5, sx_fvS_6, sx_fvS_7, sx_fvS_8, sx_fvS_9, sx_ar2, sx_ar4, sx_ar5, sx_ar6, sx_ar8, sx_ar10, sx_ar12, sx_ar13, sx_ar14, sx_ar16, sx_ar17, sx_ar18, sx_ar20, sx_ar21, sx_ar22, sx_ar23, sx_ar25, sx_ar26, sx_ar27, sx_ar28, sx_ar29, sx_ar30, sx_ar31, sx_ar32, sx_ar33, sx_ar34, sx_ar35, sx_ar36, sy_ob_S, sy_ob_W, sy_ar_W, sx_if0, sx_if1, sx_ie0, sx_em, Classical.not_not, sx_cle, sx_clt, sx_cge, sx_cgt, sx_ceq, Nat.reduceLT, Nat.reduceLeDiff, Nat.reduceAdd, Nat.reduceSub, Nat.reduceEqDiff, reduceIte, List.length_cons, List.length_nil, true_and, and_true, and_self, Bool.false_eq_true, true_implies, not_true_eq_false, not_false_eq_true, false_implies, implies_true, ne_eq, reduceCtorEq, Option.some.injEq, false_and, and_false, Int.reduceNeg, Int.reduceToNat, Int.reduceLT, Int.reduceLE, Int.reduceEq, Int.reduceAdd, Int.reduceSub, Int.reduceMul, or_false, false_or, or_true, true_or, forall_const, Int.toNat_natCast, Int.toNat_zero, Int.toNat_one, Nat.zero_add, or_self, Int.neg_eq_zero]
  have e : (if k ≤ 1 then 1 else k) = k := by split <;> omega
  rw [e]
  have h1 : (-v) / k ≤ 1000000 := by
    have := Int.ediv_le_self (a := 1000000) k (by omega)
    have := Int.ediv_le_ediv (a := -v) (b := 1000000) (c := k) (by omega) (by omega)
    omega
  have h2 : -1000001 ≤ (-v) / k := by
    have := Int.ediv_le_ediv (a := -1000000) (b := -v) (c := k) (by omega) (by omega)
    have h3 : -1000000 ≤ (-1000000) / k := (Int.le_ediv_iff_mul_le (by omega)).mpr (by omega)
    omega
  unfold sy_iR at hk
  generalize (-v) / k = z at *
  (repeat' (first | assumption | apply And.intro | intro _)) <;> first | omega | (exfalso; omega) | contradiction
/-- a range is put in -/
def sp_0_addRange (ns : Nat) : sy_Sp := sy_m2 9 fun p q st post => (∀ k, k < 102 → -100000 ≤ st 10 k ∧ st 10 k ≤ 100000) ∧ ∀ g : Nat → Int, (∀ k, -1 ≤ g k - st 10 k ∧ g k - st 10 k ≤ 1) → (∀ j : Nat, j < 101 → x_ps g (j + 1) = x_ps (st 10) (j + 1) + if p ≤ (j : Int) - 50 ∧ (j : Int) - 50 ≤ q then 1 else 0) → post none (c_row st 10 g)
def ct_0_addRange (ns q : Nat) : Option (Bool × Nat × sy_Sp) := match q with
  | 31 => some (true, 2, sp_M_maxI ns)
  | 58 => some (true, 2, sp_M_minI ns)
  | _ => none
abbrev M_0_addRange (ns : Nat) : sy_M := Mk_0_addRange (ct_0_addRange ns)
theorem cx_0_addRange_31 {ns : Nat} {v1 v2 : sy_V} {r : List sy_V} {s : sy_S} {f : List sy_V → sy_S → Prop} : sy_call true (ct_0_addRange ns 31) (v2 :: v1 :: r) s f = (sy_wd r ≤ 8 ∧ (sy_fit v2 ∧ sy_fit v1) ∧ sp_M_maxI ns [sy_kn v1, sy_kn v2] s (fun q t => f (q.toList ++ r) t)) := sx_call2
theorem cx_0_addRange_58 {ns : Nat} {v1 v2 : sy_V} {r : List sy_V} {s : sy_S} {f : List sy_V → sy_S → Prop} : sy_call true (ct_0_addRange ns 58) (v2 :: v1 :: r) s f = (sy_wd r ≤ 8 ∧ (sy_fit v2 ∧ sy_fit v1) ∧ sp_M_minI ns [sy_kn v1, sy_kn v2] s (fun q t => f (q.toList ++ r) t)) := sx_call2
theorem mv_0_addRange (ns : Nat) : sy_MV c_0_addRange y_0_addRange.cls none (M_0_addRange ns) := ⟨tv_0_addRange, ff_0_ok, ki_0_ok, kl_0_ok⟩
abbrev rm_0_addRange : Room := { frames := 1, cells := 0, slots := 0, locals := 21 }
theorem co_0_addRange (l : Launch) : sy_calls l rm_0_addRange y_0_addRange.cls c_0_addRange 5 (fun ns => (M_0_addRange ns).2.2.2.2.1) := by
  intro p e s m args below meth c rt wd ad ns A Q X hA q b n sp h
  replace h : ct_0_addRange ns q = some (b, n, sp) := h
  unfold ct_0_addRange at h
  split at h
  · cases h; exact sy_coS X hA (mc_M_maxI l) ⟨iw_M_maxI.1, iw_M_maxI.2.1, iw_M_maxI.2.2, ⟨by decide, by decide⟩, rfl, rfl⟩ (sy_inx 601 (by decide +kernel) (by decide +kernel)) is_M_maxI
  · cases h; exact sy_coS X hA (mc_M_minI l) ⟨iw_M_minI.1, iw_M_minI.2.1, iw_M_minI.2.2, ⟨by decide, by decide⟩, rfl, rfl⟩ (sy_inx 614 (by decide +kernel) (by decide +kernel)) is_M_minI
  · cases h
theorem rc_0_addRange (ns : Nat) (as : List sy_V) (st : sy_S) (post : sy_R) (h : sp_0_addRange ns as st post) : ∃ b as', as = .inr (.inr (some (some b))) :: as' ∧ sy_ob b = some 0 := sy_m2_r rfl as st post h
theorem mc_0_addRange (l : Launch) : sy_MC l y_0_addRange c_0_addRange 5 none rm_0_addRange sp_0_addRange := by
  refine sy_meth M_0_addRange (by decide +kernel) mv_0_addRange (co_0_addRange l) ?_
  intro ns as st post WA h hok hrg ⟨hgo0, hin, hwk⟩
  have hgo : ∀ (n pc : Nat) (L k : List sy_V) (st : sy_S), rn_0_addRange ns (ct_0_addRange ns) post WA n pc L k st → WA pc L k st := fun n pc L k st h => hgo0 [] n pc L k st h
  replace h := sy_m2_e h hok
  obtain ⟨p, q, rfl, hp, hq, h⟩ := h
  refine ⟨Nat.le_of_ble_eq_true rfl, ?_⟩
  show WA 0 [.inr (.inr (some (some 9))), .inl (true, p), .inl (true, q), .inr (.inr none), .inr (.inr none)] [] st
  obtain ⟨hb, h⟩ := h
  refine hgo 100 _ _ _ _ ?_
  simp -implicitDefEqProofs only [↓rx_0_addRange_0, ↓rx_0_addRange_1, ↓rx_0_addRange_3, ↓rx_0_addRange_6, ↓rx_0_addRange_7, ↓rx_0_addRange_8, ↓rx_0_addRange_10, ↓rx_0_addRange_13, ↓rx_0_addRange_15, ↓rx_0_addRange_16, ↓rx_0_addRange_18, ↓rx_0_addRange_21, ↓rx_0_addRange_22, ↓rx_0_addRange_25, ↓rx_0_addRange_26, ↓rx_0_addRange_28, ↓rx_0_addRange_29, ↓rx_0_addRange_30, ↓rx_0_addRange_31, ↓rx_0_addRange_32, ↓rx_0_addRange_33, ↓rx_0_addRange_34, ↓rx_0_addRange_35, ↓rx_0_addRange_38, ↓rx_0_addRange_40, ↓rx_0_addRange_42, ↓rx_0_addRange_43, ↓rx_0_addRange_44, ↓rx_0_addRange_45, ↓rx_0_addRange_46, ↓rx_0_addRange_47, ↓rx_0_addRange_48, ↓rx_0_addRange_49, ↓rx_0_addRange_50, ↓cx_0_addRange_31, ↓cx_0_addRange_58, sp_M_maxI, sp_M_minI, ↓sx_s1, ↓sx_s2, ↓sx_s3, ↓sx_s4, ↓sx_s5, ↓sx_s6, ↓sx_m0, ↓sx_m1, ↓sx_m2, ↓sx_m3, ↓sx_m4, ↓sx_m5, ↓sx_m6, ↓sx_k0_, ↓sx_k1_, ↓sx_k2_, ↓sx_k3_, ↓sx_k4_, ↓sx_k5_, ↓sx_k6_, ↓sx_sLL, ↓sx_sAI, ↓sx_mLL, ↓sx_mIIL, ↓sx_mIILL, ↓sx_mIILLL, ↓sx_qS, ↓sx_qSI, ↓sx_qSIII, sx_rit, sx_rif, sx_rlt, sx_rlf, sx_b0, sx_b1, sx_o0, sx_o1i, sx_o1a, sx_o1l, sx_o2, sx_g0, sx_g1, sx_k1, sx_k2, sx_k3, sx_f1, sx_f2, sx_f3, sx_w0, sx_w1, sx_w2, sx_w3, sx_ts, sx_tn, sx_up, sx_nS1, sx_nS2, sx_nW1, sx_nW2, sx_SW, sx_WS, sy_nS_inj, sy_nW_inj, sx_ob0, sx_ob1, sx_ob2, sx_ob3, sx_ob4, sx_ob5, sx_ob6, sx_ob7, sx_ob8, sx_ob9, sx_ob10, sx_ob11, sx_ob12, sx_ob13, sx_ob14, sx_ob15, sx_ob16, sx_ob17, sx_ob18, sx_ob19, sx_ob20, sx_ob21, sx_ob22, sx_ob23, sx_ob24, sx_ob25, sx_ob26, sx_ob27, sx_ob28, sx_ob29, sx_ob30, sx_ob31, sx_ob32, sx_ob33, sx_ob34, sx_ob35, sx_ob36, sx_fv0_0, sx_fv0_1, sx_fv0_2, sx_fv0_3, sx_fv0_4, sx_fv0_5, sx_fv1_0, sx_fv1_1, sx_fv1_2, sx_fv3_0, sx_fv3_1, sx_fv3_2, sx_fv3_3, sx_fv3_4, sx_fv7_0, sx_fv7_1, sx_fv7_2, sx_fv7_3, sx_fv7_4, sx_fv7_5, sx_fv7_6, sx_fv7_7, sx_fv7_8, sx_fv7_9, sx_fv7_10, sx_fv9_0, sx_fv9_1, sx_fv9_2, sx_fv9_3, sx_fv11_0, sx_fv11_1, sx_fv11_2, sx_fv11_3, sx_fv11_4, sx_fv11_5, sx_fv11_6, sx_fv15_0, sx_fv15_1, sx_fv15_2, sx_fv15_3, sx_fv15_4, sx_fv15_5, sx_fv19_0, sx_fv19_1, sx_fv19_2, sx_fv19_3, sx_fv19_4, sx_fv19_5, sx_fv19_6, sx_fv24_0, sx_fv24_1, sx_fv24_2, sx_fv24_3, sx_fv24_4, sx_fv24_5, sx_fv24_6, sx_fv24_7, sx_fv24_8, sx_fv24_9, sx_fv24_10, sx_fv24_11, sx_fv24_12, sx_fv24_13, sx_fv24_14, sx_fv24_15, sx_fv24_16, sx_fv24_17, sx_fv24_18, sx_fvS_0, sx_fvS_1, sx_fvS_2, sx_fvS_3, sx_fvS_4, sx_fvS_5, sx_fvS_6, sx_fvS_7, sx_fvS_8, sx_fvS_9, sx_ar2, sx_ar4, sx_ar5, sx_ar6, sx_ar8, sx_ar10, sx_ar12, sx_ar13, sx_ar14, sx_ar16, sx_ar17, sx_ar18, sx_ar20, sx_ar21, sx_ar22, sx_ar23, sx_ar25, sx_ar26, sx_ar27, sx_ar28, sx_ar29, sx_ar30, sx_ar31, sx_ar32, sx_ar33, sx_ar34, sx_ar35, sx_ar36, sy_ob_S, sy_ob_W, sy_ar_W, sx_if0, sx_if1, sx_ie0, sx_em, Classical.not_not, sx_cle, sx_clt, sx_cge, sx_cgt, sx_ceq, Nat.reduceLT, Nat.reduceLeDiff, Nat.reduceAdd, Nat.reduceSub, Nat.reduceEqDiff, reduceIte, List.length_cons, List.length_nil, true_and, and_true, and_self, Bool.false_eq_true, true_implies, not_true_eq_false, not_false_eq_true, false_implies, implies_true, ne_eq, reduceCtorEq, Option.some.injEq, false_and, and_false, Int.reduceNeg, Int.reduceToNat, Int.reduceLT, Int.reduceLE, Int.reduceEq, Int.reduceAdd, Int.reduceSub, Int.reduceMul, or_false, false_or, or_true, true_or, forall_const, Int.toNat_natCast, Int.toNat_zero, Int.toNat_one, Nat.zero_add, or_self, Int.neg_eq_zero]
  have hF : ∀ x : Int, x = (if -50 ≤ p then p else -50) → -50 ≤ x ∧ ∀ s : Int, -50 ≤ s → (x ≤ s ↔ p ≤ s) := fun x hx => by
    subst hx
    split
    · exact ⟨by omega, fun s _ => Iff.rfl⟩
    · exact ⟨by omega, fun s _ => by omega⟩
  have hL : ∀ x : Int, x = (if q ≤ 50 then q else 50) → x ≤ 50 ∧ ∀ s : Int, s ≤ 50 → (s ≤ x ↔ s ≤ q) := fun x hx => by
    subst hx
    split
    · exact ⟨by omega, fun s _ => Iff.rfl⟩
    · exact ⟨by omega, fun s _ => by omega⟩
  obtain ⟨F, eF⟩ : ∃ x : Int, x = (if -50 ≤ p then p else -50) := ⟨_, rfl⟩
  obtain ⟨L, eL⟩ : ∃ x : Int, x = (if q ≤ 50 then q else 50) := ⟨_, rfl⟩
  obtain ⟨f1, f2⟩ := hF F eF
  obtain ⟨l1, l2⟩ := hL L eL
  rw [← eF, ← eL]
  clear hF hL eF eL
  refine ⟨fun c => ?_, fun c => ?_⟩
  · have := h (st 10) (fun k => by omega) (fun j hj => by
      rw [if_neg (fun w => by have := (f2 ((j : Int) - 50) (by omega)).mpr w.1; have := (l2 ((j : Int) - 50) (by omega)).mpr w.2; omega), Int.add_zero])
    rwa [c_row_self] at this
  · obtain ⟨A, eA⟩ : ∃ A : Nat, (F + 50).toNat = A := ⟨_, rfl⟩
    obtain ⟨B, eB⟩ : ∃ B : Nat, (L + 50 + 1).toNat = B := ⟨_, rfl⟩
    rw [eA, eB, if_neg (show ¬ B = A by omega)]
    have hA := hb A (by omega)
    have hB := hb B (by omega)
    refine ⟨by omega, by omega, by omega, by omega, by omega, by omega, ?_⟩
    have u1 : sy_up st 10 A (st 10 A + 1) = c_row st 10 (x_up1 (st 10) A (st 10 A + 1)) := by
      have := c_row_up st 10 (st 10) A (st 10 A + 1)
      rw [c_row_self] at this
      exact this
    have u2 : sy_up (c_row st 10 (x_up1 (st 10) A (st 10 A + 1))) 10 B (st 10 B - 1) = c_row st 10 (x_up1 (x_up1 (st 10) A (st 10 A + 1)) B (x_up1 (st 10) A (st 10 A + 1) B + -1)) := by
      rw [c_row_up]
      have : x_up1 (st 10) A (st 10 A + 1) B = st 10 B := by unfold x_up1; rw [if_neg (by omega)]
      rw [this]
      rfl
    rw [u1, u2]
    refine h _ (fun k => ?_) (fun j hj => ?_)
    · unfold x_up1
      by_cases k1 : k = B
      · subst k1
        rw [if_pos rfl, if_neg (by omega)]; omega
      · rw [if_neg k1]
        by_cases k2 : k = A
        · subst k2
          rw [if_pos rfl]; omega
        · rw [if_neg k2]; omega
    · rw [x_ps_up, x_ps_up]
      have g1 := f2 ((j : Int) - 50) (by omega)
      have g2 := l2 ((j : Int) - 50) (by omega)
      by_cases k1 : p ≤ (j : Int) - 50 ∧ (j : Int) - 50 ≤ q
      · rw [if_pos k1, if_pos (by omega), if_neg (by omega)]; omega
      · rw [if_neg k1]
        by_cases k2 : A < j + 1
        · rw [if_pos k2, if_pos (by omega)]; omega
        · rw [if_neg k2, if_neg (by omega)]; omega
theorem x_fl {A v s : Int} (hv : 0 < v) : s ≤ A / (2 * v) ↔ 2 * (v * s) ≤ A := by
  rw [Int.le_ediv_iff_mul_le (by omega)]
  have e : s * (2 * v) = 2 * (v * s) := by grind
  rw [e]
theorem x_ce {A v s : Int} (hv : 0 < v) : -((-A) / (2 * v)) ≤ s ↔ A ≤ 2 * (v * s) := by
  have h := x_fl (A := -A) (v := v) (s := -s) hv
  have e : 2 * (v * -s) = -(2 * (v * s)) := by grind
  rw [e] at h
  omega
theorem c_row_row (st : sy_S) (a : Nat) (g g2 : Nat → Int) : c_row (c_row st a g) a g2 = c_row st a g2 := by
  funext b j
  by_cases hb : b = a
  · simp [c_row, hb]
  · simp [c_row, hb]
/-- all clocks s that a report allows, as ranges -/
def sp_0_addOf (ns : Nat) : sy_Sp := sy_qSIII ns 9 fun i v w x st post => (c_rng st ∧ (1 ≤ v ∧ v ≤ 10) ∧ (-1 ≤ w ∧ w ≤ 4001) ∧ (-30000 ≤ x ∧ x ≤ 30000) ∧ (∀ k, k < 102 → -90000 ≤ st 10 k ∧ st 10 k ≤ 90000)) ∧ ∀ g : Nat → Int, (∀ k, -2 ≤ g k - st 10 k ∧ g k - st 10 k ≤ 2) → (∀ j : Nat, j < 101 → x_ps (st 10) (j + 1) ≤ x_ps g (j + 1) ∧ (x_ps (st 10) (j + 1) < x_ps g (j + 1) ↔ c_al (st (sy_nS i) 5) (2 * (x + v * ((j : Int) - 50))) (c_lo st i v w) (c_hi st i v w) = true)) → post none (c_row st 10 g)
def ct_0_addOf (ns q : Nat) : Option (Bool × Nat × sy_Sp) := match q with
  | 31 => some (true, 2, sp_M_maxI ns)
  | 37 => some (false, 3, sp_6_lowest ns)
  | 42 => some (false, 3, sp_6_highest ns)
  | 48 => some (true, 2, sp_0_roundUp ns)
  | 51 => some (true, 2, sp_M_floorDiv ns)
  | 54 => some (false, 3, sp_0_addRange ns)
  | _ => none
abbrev M_0_addOf (ns : Nat) : sy_M := Mk_0_addOf (ct_0_addOf ns)
theorem cx_0_addOf_31 {ns : Nat} {v1 v2 : sy_V} {r : List sy_V} {s : sy_S} {f : List sy_V → sy_S → Prop} : sy_call true (ct_0_addOf ns 31) (v2 :: v1 :: r) s f = (sy_wd r ≤ 8 ∧ (sy_fit v2 ∧ sy_fit v1) ∧ sp_M_maxI ns [sy_kn v1, sy_kn v2] s (fun q t => f (q.toList ++ r) t)) := sx_call2
theorem cx_0_addOf_37 {ns : Nat} {v1 v2 v3 : sy_V} {r : List sy_V} {s : sy_S} {f : List sy_V → sy_S → Prop} : sy_call false (ct_0_addOf ns 37) (v3 :: v2 :: v1 :: r) s f = (sy_wd r ≤ 8 ∧ (sy_fit v3 ∧ sy_fit v2 ∧ sy_fit v1) ∧ sp_6_lowest ns [sy_kn v1, sy_kn v2, sy_kn v3] s (fun q t => f (q.toList ++ r) t)) := sx_call3
theorem cx_0_addOf_42 {ns : Nat} {v1 v2 v3 : sy_V} {r : List sy_V} {s : sy_S} {f : List sy_V → sy_S → Prop} : sy_call false (ct_0_addOf ns 42) (v3 :: v2 :: v1 :: r) s f = (sy_wd r ≤ 8 ∧ (sy_fit v3 ∧ sy_fit v2 ∧ sy_fit v1) ∧ sp_6_highest ns [sy_kn v1, sy_kn v2, sy_kn v3] s (fun q t => f (q.toList ++ r) t)) := sx_call3
theorem cx_0_addOf_48 {ns : Nat} {v1 v2 : sy_V} {r : List sy_V} {s : sy_S} {f : List sy_V → sy_S → Prop} : sy_call true (ct_0_addOf ns 48) (v2 :: v1 :: r) s f = (sy_wd r ≤ 8 ∧ (sy_fit v2 ∧ sy_fit v1) ∧ sp_0_roundUp ns [sy_kn v1, sy_kn v2] s (fun q t => f (q.toList ++ r) t)) := sx_call2
theorem cx_0_addOf_51 {ns : Nat} {v1 v2 : sy_V} {r : List sy_V} {s : sy_S} {f : List sy_V → sy_S → Prop} : sy_call true (ct_0_addOf ns 51) (v2 :: v1 :: r) s f = (sy_wd r ≤ 8 ∧ (sy_fit v2 ∧ sy_fit v1) ∧ sp_M_floorDiv ns [sy_kn v1, sy_kn v2] s (fun q t => f (q.toList ++ r) t)) := sx_call2
theorem cx_0_addOf_54 {ns : Nat} {v1 v2 v3 : sy_V} {r : List sy_V} {s : sy_S} {f : List sy_V → sy_S → Prop} : sy_call false (ct_0_addOf ns 54) (v3 :: v2 :: v1 :: r) s f = (sy_wd r ≤ 8 ∧ (sy_fit v3 ∧ sy_fit v2 ∧ sy_fit v1) ∧ sp_0_addRange ns [sy_kn v1, sy_kn v2, sy_kn v3] s (fun q t => f (q.toList ++ r) t)) := sx_call3
theorem mv_0_addOf (ns : Nat) : sy_MV c_0_addOf y_0_addOf.cls none (M_0_addOf ns) := ⟨tv_0_addOf, ff_0_ok, ki_0_ok, kl_0_ok⟩
abbrev rm_0_addOf : Room := { frames := 2, cells := 0, slots := 0, locals := 45 }
theorem iw_6_lowest : Cond.code y_6_lowest c_6_lowest 4 (some .int) ∈ sy_tb ∧ Cond.initialized y_6_lowest.cls ∈ sy_tb ∧ (y_6_lowest.cls ≠ "java/lang/invoke/MethodHandle" ∧ y_6_lowest.cls ≠ "java/lang/invoke/VarHandle" ∧ (parseMethodDescriptor y_6_lowest.desc).map (fun d => d.parameters.length) = some 2) := ⟨sy_inx 505 (by decide +kernel) (by decide +kernel), sy_inx 54 (by decide +kernel) (by decide +kernel), by decide +kernel⟩
theorem ii_6_lowest : Cond.instanceMethod y_6_lowest ∈ sy_tb ∧ Cond.selects y_6_lowest.cls y_6_lowest y_6_lowest ∈ sy_tb := ⟨sy_inx 503 (by decide +kernel) (by decide +kernel), sy_inx 504 (by decide +kernel) (by decide +kernel)⟩
theorem iw_6_highest : Cond.code y_6_highest c_6_highest 4 (some .int) ∈ sy_tb ∧ Cond.initialized y_6_highest.cls ∈ sy_tb ∧ (y_6_highest.cls ≠ "java/lang/invoke/MethodHandle" ∧ y_6_highest.cls ≠ "java/lang/invoke/VarHandle" ∧ (parseMethodDescriptor y_6_highest.desc).map (fun d => d.parameters.length) = some 2) := ⟨sy_inx 510 (by decide +kernel) (by decide +kernel), sy_inx 54 (by decide +kernel) (by decide +kernel), by decide +kernel⟩
theorem ii_6_highest : Cond.instanceMethod y_6_highest ∈ sy_tb ∧ Cond.selects y_6_highest.cls y_6_highest y_6_highest ∈ sy_tb := ⟨sy_inx 508 (by decide +kernel) (by decide +kernel), sy_inx 509 (by decide +kernel) (by decide +kernel)⟩
theorem iw_0_roundUp : Cond.code y_0_roundUp c_0_roundUp 2 (some .int) ∈ sy_tb ∧ Cond.initialized y_0_roundUp.cls ∈ sy_tb ∧ (y_0_roundUp.cls ≠ "java/lang/invoke/MethodHandle" ∧ y_0_roundUp.cls ≠ "java/lang/invoke/VarHandle" ∧ (parseMethodDescriptor y_0_roundUp.desc).map (fun d => d.parameters.length) = some 2) := ⟨sy_inx 606 (by decide +kernel) (by decide +kernel), sy_inx 49 (by decide +kernel) (by decide +kernel), by decide +kernel⟩
theorem is_0_roundUp : Cond.static y_0_roundUp ∈ sy_tb := sy_inx 605 (by decide +kernel) (by decide +kernel)
theorem iw_0_addRange : Cond.code y_0_addRange c_0_addRange 5 none ∈ sy_tb ∧ Cond.initialized y_0_addRange.cls ∈ sy_tb ∧ (y_0_addRange.cls ≠ "java/lang/invoke/MethodHandle" ∧ y_0_addRange.cls ≠ "java/lang/invoke/VarHandle" ∧ (parseMethodDescriptor y_0_addRange.desc).map (fun d => d.parameters.length) = some 2) := ⟨sy_inx 613 (by decide +kernel) (by decide +kernel), sy_inx 49 (by decide +kernel) (by decide +kernel), by decide +kernel⟩
theorem ii_0_addRange : Cond.instanceMethod y_0_addRange ∈ sy_tb ∧ Cond.selects y_0_addRange.cls y_0_addRange y_0_addRange ∈ sy_tb := ⟨sy_inx 612 (by decide +kernel) (by decide +kernel), sy_inx 9 (by decide +kernel) (by decide +kernel)⟩
theorem co_0_addOf (l : Launch) : sy_calls l rm_0_addOf y_0_addOf.cls c_0_addOf 8 (fun ns => (M_0_addOf ns).2.2.2.2.1) := by
  intro p e s m args below meth c rt wd ad ns A Q X hA q b n sp h
  replace h : ct_0_addOf ns q = some (b, n, sp) := h
  unfold ct_0_addOf at h
  split at h
  · cases h; exact sy_coS X hA (mc_M_maxI l) ⟨iw_M_maxI.1, iw_M_maxI.2.1, iw_M_maxI.2.2, ⟨by decide, by decide⟩, rfl, rfl⟩ (sy_inx 601 (by decide +kernel) (by decide +kernel)) is_M_maxI
  · cases h; exact sy_coV (ci := 6) X hA (mc_6_lowest l) ⟨iw_6_lowest.1, iw_6_lowest.2.1, iw_6_lowest.2.2, ⟨by decide, by decide⟩, rfl, rfl⟩ (sy_inx 602 (by decide +kernel) (by decide +kernel)) ii_6_lowest.1 ii_6_lowest.2 (rc_6_lowest ns) ⟨_, rfl, rfl⟩
  · cases h; exact sy_coV (ci := 6) X hA (mc_6_highest l) ⟨iw_6_highest.1, iw_6_highest.2.1, iw_6_highest.2.2, ⟨by decide, by decide⟩, rfl, rfl⟩ (sy_inx 603 (by decide +kernel) (by decide +kernel)) ii_6_highest.1 ii_6_highest.2 (rc_6_highest ns) ⟨_, rfl, rfl⟩
  · cases h; exact sy_coS X hA (mc_0_roundUp l) ⟨iw_0_roundUp.1, iw_0_roundUp.2.1, iw_0_roundUp.2.2, ⟨by decide, by decide⟩, rfl, rfl⟩ (sy_inx 604 (by decide +kernel) (by decide +kernel)) is_0_roundUp
  · cases h; exact sy_coS X hA (mc_M_floorDiv l) ⟨iw_M_floorDiv.1, iw_M_floorDiv.2.1, iw_M_floorDiv.2.2, ⟨by decide, by decide⟩, rfl, rfl⟩ (sy_inx 607 (by decide +kernel) (by decide +kernel)) is_M_floorDiv
  · cases h; exact sy_coV (ci := 0) X hA (mc_0_addRange l) ⟨iw_0_addRange.1, iw_0_addRange.2.1, iw_0_addRange.2.2, ⟨by decide, by decide⟩, rfl, rfl⟩ (sy_inx 610 (by decide +kernel) (by decide +kernel)) ii_0_addRange.1 ii_0_addRange.2 (rc_0_addRange ns) ⟨_, rfl, rfl⟩
  · cases h
theorem rc_0_addOf (ns : Nat) (as : List sy_V) (st : sy_S) (post : sy_R) (h : sp_0_addOf ns as st post) : ∃ b as', as = .inr (.inr (some (some b))) :: as' ∧ sy_ob b = some 0 := sy_qSIII_r rfl as st post h
theorem mc_0_addOf (l : Launch) : sy_MC l y_0_addOf c_0_addOf 8 none rm_0_addOf sp_0_addOf := by
  refine sy_meth M_0_addOf (by decide +kernel) mv_0_addOf (co_0_addOf l) ?_
  intro ns as st post WA h hok hrg ⟨hgo0, hin, hwk⟩
  have hgo : ∀ (n pc : Nat) (L k : List sy_V) (st : sy_S), rn_0_addOf ns (ct_0_addOf ns) post WA n pc L k st → WA pc L k st := fun n pc L k st h => hgo0 [] n pc L k st h
  replace h := sy_qSIII_e h hok
  obtain ⟨i, v, w, x, rfl, hi, hv, hw, hx, h⟩ := h
  refine ⟨Nat.le_of_ble_eq_true rfl, ?_⟩
  show WA 0 [.inr (.inr (some (some 9))), .inr (.inr (some (some (sy_nS i)))), .inl (true, v), .inl (true, w), .inl (true, x), .inr (.inr none), .inr (.inr none), .inr (.inr none)] [] st
  obtain ⟨⟨hr, hv1, hw1, hx1, hb⟩, h⟩ := h
  refine hgo 200 _ _ _ _ ?_
  simp -implicitDefEqProofs only [↓rx_0_addOf_0, ↓rx_0_addOf_1, ↓rx_0_addOf_2, ↓rx_0_addOf_3, ↓rx_0_addOf_6, ↓rx_0_addOf_7, ↓rx_0_addOf_9, ↓rx_0_addOf_10, ↓rx_0_addOf_11, ↓rx_0_addOf_12, ↓rx_0_addOf_15, ↓rx_0_addOf_16, ↓rx_0_addOf_18, ↓rx_0_addOf_19, ↓rx_0_addOf_20, ↓rx_0_addOf_22, ↓rx_0_addOf_23, ↓rx_0_addOf_24, ↓rx_0_addOf_25, ↓rx_0_addOf_28, ↓rx_0_addOf_29, ↓rx_0_addOf_31, ↓rx_0_addOf_32, ↓rx_0_addOf_33, ↓rx_0_addOf_35, ↓rx_0_addOf_36, ↓rx_0_addOf_39, ↓rx_0_addOf_40, ↓rx_0_addOf_43, ↓rx_0_addOf_44, ↓rx_0_addOf_46, ↓rx_0_addOf_48, ↓rx_0_addOf_51, ↓rx_0_addOf_53, ↓rx_0_addOf_55, ↓rx_0_addOf_58, ↓rx_0_addOf_61, ↓rx_0_addOf_64, ↓rx_0_addOf_65, ↓rx_0_addOf_68, ↓rx_0_addOf_69, ↓rx_0_addOf_72, ↓rx_0_addOf_73, ↓rx_0_addOf_75, ↓rx_0_addOf_77, ↓rx_0_addOf_79, ↓rx_0_addOf_82, ↓rx_0_addOf_85, ↓rx_0_addOf_86, ↓rx_0_addOf_88, ↓rx_0_addOf_90, ↓rx_0_addOf_93, ↓rx_0_addOf_95, ↓rx_0_addOf_98, ↓rx_0_addOf_101, ↓rx_0_addOf_102, ↓rx_0_addOf_104, ↓rx_0_addOf_106, ↓rx_0_addOf_109, ↓cx_0_addOf_31, ↓cx_0_addOf_37, ↓cx_0_addOf_42, ↓cx_0_addOf_48, ↓cx_0_addOf_51, ↓cx_0_addOf_54, sp_0_addRange, sp_0_roundUp, sp_6_highest, sp_6_lowest, sp_M_floorDiv, sp_M_maxI, ↓sx_s1, ↓sx_s2, ↓sx_s3, ↓sx_s4, ↓sx_s5, ↓sx_s6, ↓sx_m0, ↓sx_m1, ↓sx_m2, ↓sx_m3, ↓sx_m4, ↓sx_m5, ↓sx_m6, ↓sx_k0_, ↓sx_k1_, ↓sx_k2_, ↓sx_k3_, ↓sx_k4_, ↓sx_k5_, ↓sx_k6_, ↓sx_sLL, ↓sx_sAI, ↓sx_mLL, ↓sx_mIIL, ↓sx_mIILL, ↓sx_mIILLL, ↓sx_qS, ↓sx_qSI, ↓sx_qSIII, sx_rit, sx_rif, sx_rlt, sx_rlf, sx_b0, sx_b1, sx_o0, sx_o1i, sx_o1a, sx_o1l, sx_o2, sx_g0, sx_g1, sx_k1, sx_k2, sx_k3, sx_f1, sx_f2, sx_f3, sx_w0, sx_w1, sx_w2, sx_w3, sx_ts, sx_tn, sx_up, sx_nS1, sx_nS2, sx_nW1, sx_nW2, sx_SW, sx_WS, sy_nS_inj, sy_nW_inj, sx_ob0, sx_ob1, sx_ob2, sx_ob3, sx_ob4, sx_ob5, sx_ob6, sx_ob7, sx_ob8, sx_ob9, sx_ob10, sx_ob11, sx_ob12, sx_ob13, sx_ob14, sx_ob15, sx_ob16, sx_ob17, sx_ob18, sx_ob19, sx_ob20, sx_ob21, sx_ob22, sx_ob23, sx_ob24, sx_ob25, sx_ob26, sx_ob27, sx_ob28, sx_ob29, sx_ob30, sx_ob31, sx_ob32, sx_ob33, sx_ob34, sx_ob35, sx_ob36, sx_fv0_0, sx_fv0_1, sx_fv0_2, sx_fv0_3, sx_fv0_4, sx_fv0_5, sx_fv1_0, sx_fv1_1, sx_fv1_2, sx_fv3_0, sx_fv3_1, sx_fv3_2, sx_fv3_3, sx_fv3_4, sx_fv7_0, sx_fv7_1, sx_fv7_2, sx_fv7_3, sx_fv7_4, sx_fv7_5, sx_fv7_6, sx_fv7_7, sx_fv7_8, sx_fv7_9, sx_fv7_10, sx_fv9_0, sx_fv9_1, sx_fv9_2, sx_fv9_3, sx_fv11_0, sx_fv11_1, sx_fv11_2, sx_fv11_3, sx_fv11_4, sx_fv11_5, sx_fv11_6, sx_fv15_0, sx_fv15_1, sx_fv15_2, sx_fv15_3, sx_fv15_4, sx_fv15_5, sx_fv19_0, sx_fv19_1, sx_fv19_2, sx_fv19_3, sx_fv19_4, sx_fv19_5, sx_fv19_6, sx_fv24_0, sx_fv24_1, sx_fv24_2, sx_fv24_3, sx_fv24_4, sx_fv24_5, sx_fv24_6, sx_fv24_7, sx_fv24_8, sx_fv24_9, sx_fv24_10, sx_fv24_11, sx_fv24_12, sx_fv24_13, sx_fv24_14, sx_fv24_15, sx_fv24_16, sx_fv24_17, sx_fv24_18, sx_fvS_0, sx_fvS_1, sx_fvS_2, sx_fvS_3, sx_fvS_4, sx_fvS_5, sx_fvS_6, sx_fvS_7, sx_fvS_8, sx_fvS_9, sx_ar2, sx_ar4, sx_ar5, sx_ar6, sx_ar8, sx_ar10, sx_ar12, sx_ar13, sx_ar14, sx_ar16, sx_ar17, sx_ar18, sx_ar20, sx_ar21, sx_ar22, sx_ar23, sx_ar25, sx_ar26, sx_ar27, sx_ar28, sx_ar29, sx_ar30, sx_ar31, sx_ar32, sx_ar33, sx_ar34, sx_ar35, sx_ar36, sy_ob_S, sy_ob_W, sy_ar_W, sx_if0, sx_if1, sx_ie0, sx_em, Classical.not_not, sx_cle, sx_clt, sx_cge, sx_cgt, sx_ceq, Nat.reduceLT, Nat.reduceLeDiff, Nat.reduceAdd, Nat.reduceSub, Nat.reduceEqDiff, reduceIte, List.length_cons, List.length_nil, true_and, and_true, and_self, Bool.false_eq_true, true_implies, not_true_eq_false, not_false_eq_true, false_implies, implies_true, ne_eq, reduceCtorEq, Option.some.injEq, false_and, and_false, Int.reduceNeg, Int.reduceToNat, Int.reduceLT, Int.reduceLE, Int.reduceEq, Int.reduceAdd, Int.reduceSub, Int.reduceMul, or_false, false_or, or_true, true_or, forall_const, Int.toNat_natCast, Int.toNat_zero, Int.toNat_one, Nat.zero_add, or_self, Int.neg_eq_zero]
  have e : (if v ≤ 1 then 1 else v) = v := by split <;> omega
  rw [e]
  have hlo := c_lo_rng hr i hv1 hw1
  have hhi := c_hi_rng hr i hv1 hw1
  have hv0 : 0 < v := by omega
  have hb2 : ∀ k, k < 102 → -100000 ≤ st 10 k ∧ st 10 k ≤ 100000 := fun k hk => by have := hb k hk; omega
  unfold c_al at h
  refine ⟨by omega, hi, ⟨hr, hv1, hw1⟩, by omega, hi, ⟨hr, hv1, hw1⟩, by omega, fun c1 => ⟨fun c2 => ⟨hb2, fun g g1 g2 => ?_⟩, fun c2 => ⟨by omega, hb2, fun g g1 g2 => ⟨by omega, ?_⟩⟩⟩, fun c1 => ⟨by omega, by omega, hb2, fun g g1 g2 => ?_⟩⟩
  · refine h g (fun k => by have := g1 k; omega) (fun j hj => ?_)
    have := g2 j hj
    rw [if_pos (by omega)] at this
    rw [if_neg c1, if_neg c2]
    exact ⟨by omega, by simp; omega⟩
  · rw [c_row_eq]
    refine ⟨fun k hk => by have := g1 k; have := hb k hk; omega, fun g' p1 p2 => ?_⟩
    rw [c_row_row]
    refine h g' (fun k => by have := g1 k; have := p1 k; omega) (fun j hj => ?_)
    have q1 := g2 j hj
    have q2 := p2 j hj
    rw [if_neg c1, if_pos c2, decide_eq_true_eq]
    have f1 := x_fl (A := c_lo st i v w - 2 * x) (s := (j : Int) - 50) hv0
    have f2 := x_ce (A := c_hi st i v w - 2 * x) (s := (j : Int) - 50) hv0
    generalize v * ((j : Int) - 50) = z at *
    by_cases k1 : (j : Int) - 50 ≤ (c_lo st i v w - 2 * x) / (2 * v)
    · rw [if_pos ⟨by omega, k1⟩] at q1
      by_cases k2 : -(-(c_hi st i v w - 2 * x) / (2 * v)) ≤ (j : Int) - 50
      · rw [if_pos ⟨k2, by omega⟩] at q2
        exact ⟨by omega, by omega⟩
      · rw [if_neg (fun y => k2 y.1)] at q2
        exact ⟨by omega, by omega⟩
    · rw [if_neg (fun y => k1 y.2)] at q1
      by_cases k2 : -(-(c_hi st i v w - 2 * x) / (2 * v)) ≤ (j : Int) - 50
      · rw [if_pos ⟨k2, by omega⟩] at q2
        exact ⟨by omega, by omega⟩
      · rw [if_neg (fun y => k2 y.1)] at q2
        exact ⟨by omega, by omega⟩
  · refine h g (fun k => by have := g1 k; omega) (fun j hj => ?_)
    have q1 := g2 j hj
    rw [if_pos c1, decide_eq_true_eq]
    have f1 := x_ce (A := c_lo st i v w - 2 * x) (s := (j : Int) - 50) hv0
    have f2 := x_fl (A := c_hi st i v w - 2 * x) (s := (j : Int) - 50) hv0
    generalize v * ((j : Int) - 50) = z at *
    by_cases k1 : -(-(c_lo st i v w - 2 * x) / (2 * v)) ≤ (j : Int) - 50 ∧ (j : Int) - 50 ≤ (c_hi st i v w - 2 * x) / (2 * v)
    · rw [if_pos k1] at q1
      exact ⟨by omega, by omega⟩
    · rw [if_neg k1] at q1
      exact ⟨by omega, by omega⟩
theorem x_fst_no (p : Nat → Bool) : ∀ n : Nat, n ≤ 900 → (x_fst p n = -1000 ↔ xc p n = 0)
  | 0, _ => by simp [x_fst, xc]
  | n + 1, h => by
    have ih := x_fst_no p n (by omega)
    have := xc_rng p n
    have := x_fst_rng p n
    simp only [x_fst, xc]
    by_cases hp : p n = true
    · rw [if_pos hp]
      by_cases hx : x_fst p n = -1000
      · rw [if_pos ⟨hp, hx⟩]; omega
      · rw [if_neg (fun q => hx q.2)]; omega
    · rw [if_neg hp, if_neg (fun q => hp q.1)]; omega
theorem c_u3 (st : sy_S) (a b c a' b' c' : Int) : sy_up (sy_up (sy_up (sy_up (sy_up (sy_up st 9 1 a) 9 2 b) 9 3 c) 9 2 b') 9 3 c') 9 1 a' = sy_up (sy_up (sy_up st 9 1 a') 9 2 b') 9 3 c' := by
  funext n k
  by_cases hn : n = 9
  · subst hn
    by_cases k1 : k = 1
    · simp [sy_up, k1]
    · by_cases k2 : k = 2
      · simp [sy_up, k2]
      · by_cases k3 : k = 3
        · simp [sy_up, k3]
        · simp [sy_up, k1, k2, k3]
  · simp [sy_up, hn]
/-- the ranges are counted together -/
def c_sum (st : sy_S) (n : Nat) : sy_S := sy_up (sy_up (sy_up st 9 1 (xc (fun j => decide (0 < x_ps (st 10) (j + 1))) n)) 9 2 (x_fst (fun j => decide (0 < x_ps (st 10) (j + 1))) n)) 9 3 (x_lst (fun j => decide (0 < x_ps (st 10) (j + 1))) n)
theorem x_ps_rng {g : Nat → Int} (hb : ∀ k, k < 102 → -100000 ≤ g k ∧ g k ≤ 100000) : ∀ n : Nat, n ≤ 102 → -(100000 * (n : Int)) ≤ x_ps g n ∧ x_ps g n ≤ 100000 * n
  | 0, _ => by simp [x_ps]
  | n + 1, h => by
    have := x_ps_rng hb n (by omega)
    have := hb n (by omega)
    simp only [x_ps]
    omega
def sp_0_sumUp (ns : Nat) : sy_Sp := sy_m0 9 fun st post => ((st 9 1 = 0 ∧ st 9 2 = -1000 ∧ st 9 3 = -1000) ∧ (∀ k, k < 102 → -100000 ≤ st 10 k ∧ st 10 k ≤ 100000)) ∧ post none (c_sum st 101)
def ct_0_sumUp (ns q : Nat) : Option (Bool × Nat × sy_Sp) := match q with
  | _ => none
abbrev M_0_sumUp (ns : Nat) : sy_M := Mk_0_sumUp (ct_0_sumUp ns)
theorem mv_0_sumUp (ns : Nat) : sy_MV c_0_sumUp y_0_sumUp.cls none (M_0_sumUp ns) := ⟨tv_0_sumUp, ff_0_ok, ki_0_ok, kl_0_ok⟩
abbrev rm_0_sumUp : Room := { frames := 0, cells := 0, slots := 0, locals := 0 }
theorem co_0_sumUp (l : Launch) : sy_calls l rm_0_sumUp y_0_sumUp.cls c_0_sumUp 3 (fun ns => (M_0_sumUp ns).2.2.2.2.1) := by
  intro p e s m args below meth c rt wd ad ns A Q X hA q b n sp h
  replace h : ct_0_sumUp ns q = some (b, n, sp) := h
  unfold ct_0_sumUp at h
  cases h
theorem rc_0_sumUp (ns : Nat) (as : List sy_V) (st : sy_S) (post : sy_R) (h : sp_0_sumUp ns as st post) : ∃ b as', as = .inr (.inr (some (some b))) :: as' ∧ sy_ob b = some 0 := sy_m0_r rfl as st post h
theorem mc_0_sumUp (l : Launch) : sy_MC l y_0_sumUp c_0_sumUp 3 none rm_0_sumUp sp_0_sumUp := by
  refine sy_meth M_0_sumUp (by decide +kernel) mv_0_sumUp (co_0_sumUp l) ?_
  intro ns as st post WA h hok hrg ⟨hgo0, hin, hwk⟩
  have hgo : ∀ (n pc : Nat) (L k : List sy_V) (st : sy_S), rn_0_sumUp ns (ct_0_sumUp ns) post WA n pc L k st → WA pc L k st := fun n pc L k st h => hgo0 [5] n pc L k st h
  replace h := sy_m0_e h hok
  obtain ⟨rfl, h⟩ := h
  refine ⟨Nat.le_of_ble_eq_true rfl, ?_⟩
  show WA 0 [.inr (.inr (some (some 9))), .inr (.inr none), .inr (.inr none)] [] st
  obtain ⟨⟨⟨z1, z2, z3⟩, hb⟩, h⟩ := h
  have key : ∀ (d j : Nat), j + d = 101 → WA 5 [.inr (.inr (some (some 9))), .inl (true, x_ps (st 10) j), .inl (true, (j : Int) - 50)] [] (c_sum st j) := by
    intro d
    induction d with
    | zero =>
      intro j hj
      refine hgo 100 _ _ _ _ ?_
      simp -implicitDefEqProofs only [↓rx_0_sumUp_0, ↓rx_0_sumUp_1, ↓rx_0_sumUp_2, ↓rx_0_sumUp_4, ↓rx_0_sumUp_5, ↓rx_0_sumUp_6, ↓rx_0_sumUp_8, ↓rx_0_sumUp_11, ↓rx_0_sumUp_12, ↓rx_0_sumUp_13, ↓rx_0_sumUp_16, ↓rx_0_sumUp_17, ↓rx_0_sumUp_19, ↓rx_0_sumUp_20, ↓rx_0_sumUp_21, ↓rx_0_sumUp_22, ↓rx_0_sumUp_23, ↓rx_0_sumUp_24, ↓rx_0_sumUp_27, ↓rx_0_sumUp_28, ↓rx_0_sumUp_29, ↓rx_0_sumUp_32, ↓rx_0_sumUp_35, ↓rx_0_sumUp_36, ↓rx_0_sumUp_39, ↓rx_0_sumUp_40, ↓rx_0_sumUp_43, ↓rx_0_sumUp_46, ↓rx_0_sumUp_47, ↓rx_0_sumUp_48, ↓rx_0_sumUp_51, ↓rx_0_sumUp_52, ↓rx_0_sumUp_52_i, ↓rx_0_sumUp_53, ↓rx_0_sumUp_56, ↓rx_0_sumUp_57, ↓rx_0_sumUp_58, ↓rx_0_sumUp_61, ↓rx_0_sumUp_64, ↓rx_0_sumUp_67, ↓sx_s1, ↓sx_s2, ↓sx_s3, ↓sx_s4, ↓sx_s5, ↓sx_s6, ↓sx_m0, ↓sx_m1, ↓sx_m2, ↓sx_m3, ↓sx_m4, ↓sx_m5, ↓sx_m6, ↓sx_k0_, ↓sx_k1_, ↓sx_k2_, ↓sx_k3_, ↓sx_k4_, ↓sx_k5_, ↓sx_k6_, ↓sx_sLL, ↓sx_sAI, ↓sx_mLL, ↓sx_mIIL, ↓sx_mIILL, ↓sx_mIILLL, ↓sx_qS, ↓sx_qSI, ↓sx_qSIII, sx_rit, sx_rif, sx_rlt, sx_rlf, sx_b0, sx_b1, sx_o0, sx_o1i, sx_o1a, sx_o1l, sx_o2, sx_g0, sx_g1, sx_k1, sx_k2, sx_k3, sx_f1, sx_f2, sx_f3, sx_w0, sx_w1, sx_w2, sx_w3, sx_ts, sx_tn, sx_up, sx_nS1, sx_nS2, sx_nW1, sx_nW2, sx_SW, sx_WS, sy_nS_inj, sy_nW_inj, sx_ob0, sx_ob1, sx_ob2, sx_ob3, sx_ob4, sx_ob5, sx_ob6, sx_ob7, sx_ob8, sx_ob9, sx_ob10, sx_ob11, sx_ob12, sx_ob13, sx_ob14, sx_ob15, sx_ob16, sx_ob17, sx_ob18, sx_ob19, sx_ob20, sx_ob21, sx_ob22, sx_ob23, sx_ob24, sx_ob25, sx_ob26, sx_ob27, sx_ob28, sx_ob29, sx_ob30, sx_ob31, sx_ob32, sx_ob33, sx_ob34, sx_ob35, sx_ob36, sx_fv0_0, sx_fv0_1, sx_fv0_2, sx_fv0_3, sx_fv0_4, sx_fv0_5, sx_fv1_0, sx_fv1_1, sx_fv1_2, sx_fv3_0, sx_fv3_1, sx_fv3_2, sx_fv3_3, sx_fv3_4, sx_fv7_0, sx_fv7_1, sx_fv7_2, sx_fv7_3, sx_fv7_4, sx_fv7_5, sx_fv7_6, sx_fv7_7, sx_fv7_8, sx_fv7_9, sx_fv7_10, sx_fv9_0, sx_fv9_1, sx_fv9_2, sx_fv9_3, sx_fv11_0, sx_fv11_1, sx_fv11_2, sx_fv11_3, sx_fv11_4, sx_fv11_5, sx_fv11_6, sx_fv15_0, sx_fv15_1, sx_fv15_2, sx_fv15_3, sx_fv15_4, sx_fv15_5, sx_fv19_0, sx_fv19_1, sx_fv19_2, sx_fv19_3, sx_fv19_4, sx_fv19_5, sx_fv19_6, sx_fv24_0, sx_fv24_1, sx_fv24_2, sx_fv24_3, sx_fv24_4, sx_fv24_5, sx_fv24_6, sx_fv24_7, sx_fv24_8, sx_fv24_9, sx_fv24_10, sx_fv24_11, sx_fv24_12, sx_fv24_13, sx_fv24_14, sx_fv24_15, sx_fv24_16, sx_fv24_17, sx_fv24_18, sx_fvS_0, sx_fvS_1, sx_fvS_2, sx_fvS_3, sx_fvS_4, sx_fvS_5, sx_fvS_6, sx_fvS_7, sx_fvS_8, sx_fvS_9, sx_ar2, sx_ar4, sx_ar5, sx_ar6, sx_ar8, sx_ar10, sx_ar12, sx_ar13, sx_ar14, sx_ar16, sx_ar17, sx_ar18, sx_ar20, sx_ar21, sx_ar22, sx_ar23, sx_ar25, sx_ar26, sx_ar27, sx_ar28, sx_ar29, sx_ar30, sx_ar31, sx_ar32, sx_ar33, sx_ar34, sx_ar35, sx_ar36, sy_ob_S, sy_ob_W, sy_ar_W, sx_if0, sx_if1, sx_ie0, sx_em, Classical.not_not, sx_cle, sx_clt, sx_cge, sx_cgt, sx_ceq, Nat.reduceLT, Nat.reduceLeDiff, Nat.reduceAdd, Nat.reduceSub, Nat.reduceEqDiff, reduceIte, List.length_cons, List.length_nil, true_and, and_true, and_self, Bool.false_eq_true, true_implies, not_true_eq_false, not_false_eq_true, false_implies, implies_true, ne_eq, reduceCtorEq, Option.some.injEq, false_and, and_false, Int.reduceNeg, Int.reduceToNat, Int.reduceLT, Int.reduceLE, Int.reduceEq, Int.reduceAdd, Int.reduceSub, Int.reduceMul, or_false, false_or, or_true, true_or, forall_const, Int.toNat_natCast, Int.toNat_zero, Int.toNat_one, Nat.zero_add, or_self, Int.neg_eq_zero]
      have e : j = 101 := by omega
      subst e
      exact ⟨fun _ => h, fun q => by omega⟩
    | succ d ih =>
      intro j hj
      refine hgo 100 _ _ _ _ ?_
      simp -implicitDefEqProofs only [↓rx_0_sumUp_0, ↓rx_0_sumUp_1, ↓rx_0_sumUp_2, ↓rx_0_sumUp_4, ↓rx_0_sumUp_5, ↓rx_0_sumUp_6, ↓rx_0_sumUp_8, ↓rx_0_sumUp_11, ↓rx_0_sumUp_12, ↓rx_0_sumUp_13, ↓rx_0_sumUp_16, ↓rx_0_sumUp_17, ↓rx_0_sumUp_19, ↓rx_0_sumUp_20, ↓rx_0_sumUp_21, ↓rx_0_sumUp_22, ↓rx_0_sumUp_23, ↓rx_0_sumUp_24, ↓rx_0_sumUp_27, ↓rx_0_sumUp_28, ↓rx_0_sumUp_29, ↓rx_0_sumUp_32, ↓rx_0_sumUp_35, ↓rx_0_sumUp_36, ↓rx_0_sumUp_39, ↓rx_0_sumUp_40, ↓rx_0_sumUp_43, ↓rx_0_sumUp_46, ↓rx_0_sumUp_47, ↓rx_0_sumUp_48, ↓rx_0_sumUp_51, ↓rx_0_sumUp_52, ↓rx_0_sumUp_52_i, ↓rx_0_sumUp_53, ↓rx_0_sumUp_56, ↓rx_0_sumUp_57, ↓rx_0_sumUp_58, ↓rx_0_sumUp_61, ↓rx_0_sumUp_64, ↓rx_0_sumUp_67, c_sum, ↓sx_s1, ↓sx_s2, ↓sx_s3, ↓sx_s4, ↓sx_s5, ↓sx_s6, ↓sx_m0, ↓sx_m1, ↓sx_m2, ↓sx_m3, ↓sx_m4, ↓sx_m5, ↓sx_m6, ↓sx_k0_, ↓sx_k1_, ↓sx_k2_, ↓sx_k3_, ↓sx_k4_, ↓sx_k5_, ↓sx_k6_, ↓sx_sLL, ↓sx_sAI, ↓sx_mLL, ↓sx_mIIL, ↓sx_mIILL, ↓sx_mIILLL, ↓sx_qS, ↓sx_qSI, ↓sx_qSIII, sx_rit, sx_rif, sx_rlt, sx_rlf, sx_b0, sx_b1, sx_o0, sx_o1i, sx_o1a, sx_o1l, sx_o2, sx_g0, sx_g1, sx_k1, sx_k2, sx_k3, sx_f1, sx_f2, sx_f3, sx_w0, sx_w1, sx_w2, sx_w3, sx_ts, sx_tn, sx_up, sx_nS1, sx_nS2, sx_nW1, sx_nW2, sx_SW, sx_WS, sy_nS_inj, sy_nW_inj, sx_ob0, sx_ob1, sx_ob2, sx_ob3, sx_ob4, sx_ob5, sx_ob6, sx_ob7, sx_ob8, sx_ob9, sx_ob10, sx_ob11, sx_ob12, sx_ob13, sx_ob14, sx_ob15, sx_ob16, sx_ob17, sx_ob18, sx_ob19, sx_ob20, sx_ob21, sx_ob22, sx_ob23, sx_ob24, sx_ob25, sx_ob26, sx_ob27, sx_ob28, sx_ob29, sx_ob30, sx_ob31, sx_ob32, sx_ob33, sx_ob34, sx_ob35, sx_ob36, sx_fv0_0, sx_fv0_1, sx_fv0_2, sx_fv0_3, sx_fv0_4, sx_fv0_5, sx_fv1_0, sx_fv1_1, sx_fv1_2, sx_fv3_0, sx_fv3_1, sx_fv3_2, sx_fv3_3, sx_fv3_4, sx_fv7_0, sx_fv7_1, sx_fv7_2, sx_fv7_3, sx_fv7_4, sx_fv7_5, sx_fv7_6, sx_fv7_7, sx_fv7_8, sx_fv7_9, sx_fv7_10, sx_fv9_0, sx_fv9_1, sx_fv9_2, sx_fv9_3, sx_fv11_0, sx_fv11_1, sx_fv11_2, sx_fv11_3, sx_fv11_4, sx_fv11_5, sx_fv11_6, sx_fv15_0, sx_fv15_1, sx_fv15_2, sx_fv15_3, sx_fv15_4, sx_fv15_5, sx_fv19_0, sx_fv19_1, sx_fv19_2, sx_fv19_3, sx_fv19_4, sx_fv19_5, sx_fv19_6, sx_fv24_0, sx_fv24_1, sx_fv24_2, sx_fv24_3, sx_fv24_4, sx_fv24_5, sx_fv24_6, sx_fv24_7, sx_fv24_8, sx_fv24_9, sx_fv24_10, sx_fv24_11, sx_fv24_12, sx_fv24_13, sx_fv24_14, sx_fv24_15, sx_fv24_16, sx_fv24_17, sx_fv24_18, sx_fvS_0, sx_fvS_1, sx_fvS_2, sx_fvS_3, sx_fvS_4, sx_fvS_5, sx_fvS_6, sx_fvS_7, sx_fvS_8, sx_fvS_9, sx_ar2, sx_ar4, sx_ar5, sx_ar6, sx_ar8, sx_ar10, sx_ar12, sx_ar13, sx_ar14, sx_ar16, sx_ar17, sx_ar18, sx_ar20, sx_ar21, sx_ar22, sx_ar23, sx_ar25, sx_ar26, sx_ar27, sx_ar28, sx_ar29, sx_ar30, sx_ar31, sx_ar32, sx_ar33, sx_ar34, sx_ar35, sx_ar36, sy_ob_S, sy_ob_W, sy_ar_W, sx_if0, sx_if1, sx_ie0, sx_em, Classical.not_not, sx_cle, sx_clt, sx_cge, sx_cgt, sx_ceq, Nat.reduceLT, Nat.reduceLeDiff, Nat.reduceAdd, Nat.reduceSub, Nat.reduceEqDiff, reduceIte, List.length_cons, List.length_nil, true_and, and_true, and_self, Bool.false_eq_true, true_implies, not_true_eq_false, not_false_eq_true, false_implies, implies_true, ne_eq, reduceCtorEq, Option.some.injEq, false_and, and_false, Int.reduceNeg, Int.reduceToNat, Int.reduceLT, Int.reduceLE, Int.reduceEq, Int.reduceAdd, Int.reduceSub, Int.reduceMul, or_false, false_or, or_true, true_or, forall_const, Int.toNat_natCast, Int.toNat_zero, Int.toNat_one, Nat.zero_add, or_self, Int.neg_eq_zero]
      have i1 := ih (j + 1) (by omega)
      have hp := x_ps_rng hb j (by omega)
      have hp1 := x_ps_rng hb (j + 1) (by omega)
      have hc := xc_rng (fun j => decide (0 < x_ps (st 10) (j + 1))) j
      have hfr := x_fst_rng (fun j => decide (0 < x_ps (st 10) (j + 1))) j
      have hf := x_fst_no (fun j => decide (0 < x_ps (st 10) (j + 1))) j (by omega)
      have e : ((j : Int) - 50 + 1) = ((j + 1 : Nat) : Int) - 50 := by omega
      have e1 : ((j : Int) - 50 + 50).toNat = j := by omega
      have e2 : x_ps (st 10) j + st 10 j = x_ps (st 10) (j + 1) := rfl
      rw [e, e1, e2]
      unfold c_sum at i1
      simp only [xc, x_fst, x_lst, decide_eq_true_eq] at i1
      refine ⟨fun q => by omega, fun _ => ⟨by omega, by omega, fun c => ⟨by omega, ?_⟩, fun c => ⟨fun c2 => ⟨by omega, by omega, ?_⟩, fun c2 => ⟨by omega, by omega, ?_⟩⟩⟩⟩
      · rw [if_neg (by omega), if_neg (by omega), if_neg (by omega), Int.add_zero] at i1
        exact i1
      · rw [c_u3]
        have hA : 0 < x_ps (st 10) (j + 1) := by omega
        rw [if_pos hA, if_neg (fun q => c2 (hf.mp q.2)), if_pos hA] at i1
        exact i1
      · rw [c_u3]
        have hA : 0 < x_ps (st 10) (j + 1) := by omega
        rw [if_pos hA, if_pos ⟨hA, hf.mpr c2⟩, if_pos hA] at i1
        exact i1
  refine hgo 100 _ _ _ _ ?_
  simp -implicitDefEqProofs only [↓rx_0_sumUp_0, ↓rx_0_sumUp_1, ↓rx_0_sumUp_2, ↓rx_0_sumUp_4, ↓rx_0_sumUp_5, ↓rx_0_sumUp_6, ↓rx_0_sumUp_8, ↓rx_0_sumUp_11, ↓rx_0_sumUp_12, ↓rx_0_sumUp_13, ↓rx_0_sumUp_16, ↓rx_0_sumUp_17, ↓rx_0_sumUp_19, ↓rx_0_sumUp_20, ↓rx_0_sumUp_21, ↓rx_0_sumUp_22, ↓rx_0_sumUp_23, ↓rx_0_sumUp_24, ↓rx_0_sumUp_27, ↓rx_0_sumUp_28, ↓rx_0_sumUp_29, ↓rx_0_sumUp_32, ↓rx_0_sumUp_35, ↓rx_0_sumUp_36, ↓rx_0_sumUp_39, ↓rx_0_sumUp_40, ↓rx_0_sumUp_43, ↓rx_0_sumUp_46, ↓rx_0_sumUp_47, ↓rx_0_sumUp_48, ↓rx_0_sumUp_51, ↓rx_0_sumUp_52, ↓rx_0_sumUp_52_i, ↓rx_0_sumUp_53, ↓rx_0_sumUp_56, ↓rx_0_sumUp_57, ↓rx_0_sumUp_58, ↓rx_0_sumUp_61, ↓rx_0_sumUp_64, ↓rx_0_sumUp_67, ↓sx_s1, ↓sx_s2, ↓sx_s3, ↓sx_s4, ↓sx_s5, ↓sx_s6, ↓sx_m0, ↓sx_m1, ↓sx_m2, ↓sx_m3, ↓sx_m4, ↓sx_m5, ↓sx_m6, ↓sx_k0_, ↓sx_k1_, ↓sx_k2_, ↓sx_k3_, ↓sx_k4_, ↓sx_k5_, ↓sx_k6_, ↓sx_sLL, ↓sx_sAI, ↓sx_mLL, ↓sx_mIIL, ↓sx_mIILL, ↓sx_mIILLL, ↓sx_qS, ↓sx_qSI, ↓sx_qSIII, sx_rit, sx_rif, sx_rlt, sx_rlf, sx_b0, sx_b1, sx_o0, sx_o1i, sx_o1a, sx_o1l, sx_o2, sx_g0, sx_g1, sx_k1, sx_k2, sx_k3, sx_f1, sx_f2, sx_f3, sx_w0, sx_w1, sx_w2, sx_w3, sx_ts, sx_tn, sx_up, sx_nS1, sx_nS2, sx_nW1, sx_nW2, sx_SW, sx_WS, sy_nS_inj, sy_nW_inj, sx_ob0, sx_ob1, sx_ob2, sx_ob3, sx_ob4, sx_ob5, sx_ob6, sx_ob7, sx_ob8, sx_ob9, sx_ob10, sx_ob11, sx_ob12, sx_ob13, sx_ob14, sx_ob15, sx_ob16, sx_ob17, sx_ob18, sx_ob19, sx_ob20, sx_ob21, sx_ob22, sx_ob23, sx_ob24, sx_ob25, sx_ob26, sx_ob27, sx_ob28, sx_ob29, sx_ob30, sx_ob31, sx_ob32, sx_ob33, sx_ob34, sx_ob35, sx_ob36, sx_fv0_0, sx_fv0_1, sx_fv0_2, sx_fv0_3, sx_fv0_4, sx_fv0_5, sx_fv1_0, sx_fv1_1, sx_fv1_2, sx_fv3_0, sx_fv3_1, sx_fv3_2, sx_fv3_3, sx_fv3_4, sx_fv7_0, sx_fv7_1, sx_fv7_2, sx_fv7_3, sx_fv7_4, sx_fv7_5, sx_fv7_6, sx_fv7_7, sx_fv7_8, sx_fv7_9, sx_fv7_10, sx_fv9_0, sx_fv9_1, sx_fv9_2, sx_fv9_3, sx_fv11_0, sx_fv11_1, sx_fv11_2, sx_fv11_3, sx_fv11_4, sx_fv11_5, sx_fv11_6, sx_fv15_0, sx_fv15_1, sx_fv15_2, sx_fv15_3, sx_fv15_4, sx_fv15_5, sx_fv19_0, sx_fv19_1, sx_fv19_2, sx_fv19_3, sx_fv19_4, sx_fv19_5, sx_fv19_6, sx_fv24_0, sx_fv24_1, sx_fv24_2, sx_fv24_3, sx_fv24_4, sx_fv24_5, sx_fv24_6, sx_fv24_7, sx_fv24_8, sx_fv24_9, sx_fv24_10, sx_fv24_11, sx_fv24_12, sx_fv24_13, sx_fv24_14, sx_fv24_15, sx_fv24_16, sx_fv24_17, sx_fv24_18, sx_fvS_0, sx_fvS_1, sx_fvS_2, sx_fvS_3, sx_fvS_4, sx_fvS_5, sx_fvS_6, sx_fvS_7, sx_fvS_8, sx_fvS_9, sx_ar2, sx_ar4, sx_ar5, sx_ar6, sx_ar8, sx_ar10, sx_ar12, sx_ar13, sx_ar14, sx_ar16, sx_ar17, sx_ar18, sx_ar20, sx_ar21, sx_ar22, sx_ar23, sx_ar25, sx_ar26, sx_ar27, sx_ar28, sx_ar29, sx_ar30, sx_ar31, sx_ar32, sx_ar33, sx_ar34, sx_ar35, sx_ar36, sy_ob_S, sy_ob_W, sy_ar_W, sx_if0, sx_if1, sx_ie0, sx_em, Classical.not_not, sx_cle, sx_clt, sx_cge, sx_cgt, sx_ceq, Nat.reduceLT, Nat.reduceLeDiff, Nat.reduceAdd, Nat.reduceSub, Nat.reduceEqDiff, reduceIte, List.length_cons, List.length_nil, true_and, and_true, and_self, Bool.false_eq_true, true_implies, not_true_eq_false, not_false_eq_true, false_implies, implies_true, ne_eq, reduceCtorEq, Option.some.injEq, false_and, and_false, Int.reduceNeg, Int.reduceToNat, Int.reduceLT, Int.reduceLE, Int.reduceEq, Int.reduceAdd, Int.reduceSub, Int.reduceMul, or_false, false_or, or_true, true_or, forall_const, Int.toNat_natCast, Int.toNat_zero, Int.toNat_one, Nat.zero_add, or_self, Int.neg_eq_zero]
  have k0 := key 101 0 (by omega)
  have e0 : c_sum st 0 = st := by
    have a1 : sy_up st 9 1 0 = st := (congrArg (sy_up st 9 1) z1.symm).trans (sy_up_self st 9 1)
    have a2 : sy_up st 9 2 (-1000) = st := (congrArg (sy_up st 9 2) z2.symm).trans (sy_up_self st 9 2)
    have a3 : sy_up st 9 3 (-1000) = st := (congrArg (sy_up st 9 3) z3.symm).trans (sy_up_self st 9 3)
    show sy_up (sy_up (sy_up st 9 1 0) 9 2 (-1000)) 9 3 (-1000) = st
    rw [a1, a2, a3]
  rw [e0] at k0
  exact k0
