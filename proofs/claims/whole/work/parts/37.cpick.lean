/-! THE CLASS: the planner picks -/
/-- the picks among the first i: how many, the height below, the row -/
def xpk (gw : Int → Nat → Nat → Int) (H O : Nat → Int) (n : Nat) (gap lo : Int) (C : Nat → Int) : Nat → Nat × Int × (Nat → Int)
  | 0 => (0, lo, C)
  | i + 1 => if (xpk gw H O n gap lo C i).1 < n ∧ gw (xpk gw H O n gap lo C i).2.1 (n - 1 - (xpk gw H O n gap lo C i).1) i ≤ gap then ((xpk gw H O n gap lo C i).1 + 1, H i, x_up1 (xpk gw H O n gap lo C i).2.2 (xpk gw H O n gap lo C i).1 (O i)) else xpk gw H O n gap lo C i
theorem xpk_le {gw : Int → Nat → Nat → Int} {H O : Nat → Int} {n : Nat} {gap lo : Int} {C : Nat → Int} : ∀ i, (xpk gw H O n gap lo C i).1 ≤ n
  | 0 => Nat.zero_le n
  | i + 1 => by
    have := xpk_le (gw := gw) (H := H) (O := O) (n := n) (gap := gap) (lo := lo) (C := C) i
    simp only [xpk]
    split
    · rename_i c
      show (xpk gw H O n gap lo C i).1 + 1 ≤ n
      omega
    · exact this
theorem xpk_b {gw : Int → Nat → Nat → Int} {H O : Nat → Int} {n : Nat} {gap lo : Int} {C : Nat → Int} (hl : -2000 ≤ lo ∧ lo ≤ 2000) : ∀ i, (∀ j, j < i → -2000 ≤ H j ∧ H j ≤ 2000) → -2000 ≤ (xpk gw H O n gap lo C i).2.1 ∧ (xpk gw H O n gap lo C i).2.1 ≤ 2000
  | 0, _ => hl
  | i + 1, h => by
    have := xpk_b (gw := gw) (O := O) (n := n) (gap := gap) (C := C) hl i (fun j hj => h j (by omega))
    simp only [xpk]
    split
    · exact h i (by omega)
    · exact this
/-- full: no more is picked -/
theorem xpk_full {gw : Int → Nat → Nat → Int} {H O : Nat → Int} {n : Nat} {gap lo : Int} {C : Nat → Int} {i : Nat} (h : (xpk gw H O n gap lo C i).1 = n) : ∀ d, xpk gw H O n gap lo C (i + d) = xpk gw H O n gap lo C i
  | 0 => rfl
  | d + 1 => by
    have ih := xpk_full h d
    rw [← Nat.add_assoc]
    simp only [xpk]
    rw [ih, if_neg (by omega)]
def c_pk (st : sy_S) (C : Nat → Int) (c : Nat) : sy_S := sy_up (c_row st 23 C) 19 6 c
theorem c_pk_ne (st : sy_S) (C : Nat → Int) (c : Nat) {a : Nat} (h19 : a ≠ 19) (h23 : a ≠ 23) : c_pk st C c a = st a := by
  unfold c_pk
  rw [sy_up_ne _ _ h19, c_row_ne h23]
theorem c_pk_3 (st : sy_S) (C : Nat → Int) (c : Nat) : c_pk st C c 19 3 = st 19 3 := rfl
theorem c_pk_6 (st : sy_S) (C : Nat → Int) (c : Nat) : c_pk st C c 19 6 = c := rfl
theorem c_pk_23 (st : sy_S) (C : Nat → Int) (c : Nat) : c_pk st C c 23 = C := by
  unfold c_pk
  rw [sy_up_ne _ _ (by decide), c_row_eq]
theorem c_pk_up (st : sy_S) (C : Nat → Int) (c k : Nat) (z : Int) (c2 : Nat) (w : Int) (hw : w = c2) : sy_up (sy_up (c_pk st C c) 23 k z) 19 6 w = c_pk st (x_up1 C k z) c2 := by
  subst hw
  unfold c_pk
  have e : c_row st 23 (x_up1 C k z) = sy_up (c_row st 23 C) 23 k z := (c_row_up st 23 C k z).symm
  rw [e]
  funext n j
  by_cases h19 : n = 19
  · subst h19
    by_cases hj : j = 6
    · simp [sy_up, hj]
    · simp [sy_up, hj]
  · simp [sy_up, h19]
theorem c_pk_gw (st : sy_S) (C : Nat → Int) (c : Nat) : c_gw (c_pk st C c) = c_gw st := by
  funext b m j
  unfold c_gw
  rw [c_pk_ne _ _ _ (by decide) (by decide), c_pk_ne _ _ _ (by decide) (by decide)]
def c_pks (st : sy_S) (n : Nat) (lo gap : Int) (i : Nat) : Nat × Int × (Nat → Int) := xpk (c_gw st) (st 21) (st 20) n gap lo (st 23) i
def sp_4_pick (ns : Nat) : sy_Sp := sy_m3 19 fun n lo gap st post => (c_plr st ∧ (1 ≤ n ∧ n ≤ 16) ∧ (-2000 ≤ lo ∧ lo ≤ 2000)) ∧ post none (c_pk st (c_pks st n.toNat lo gap (st 19 3).toNat).2.2 (c_pks st n.toNat lo gap (st 19 3).toNat).1)
def ct_4_pick (ns q : Nat) : Option (Bool × Nat × sy_Sp) := match q with
  | 72 => some (false, 4, sp_4_gapWith ns)
  | _ => none
abbrev M_4_pick (ns : Nat) : sy_M := Mk_4_pick (ct_4_pick ns)
theorem cx_4_pick_72 {ns : Nat} {v1 v2 v3 v4 : sy_V} {r : List sy_V} {s : sy_S} {f : List sy_V → sy_S → Prop} : sy_call false (ct_4_pick ns 72) (v4 :: v3 :: v2 :: v1 :: r) s f = (sy_wd r ≤ 8 ∧ (sy_fit v4 ∧ sy_fit v3 ∧ sy_fit v2 ∧ sy_fit v1) ∧ sp_4_gapWith ns [sy_kn v1, sy_kn v2, sy_kn v3, sy_kn v4] s (fun q t => f (q.toList ++ r) t)) := sx_call4
theorem mv_4_pick (ns : Nat) : sy_MV c_4_pick y_4_pick.cls none (M_4_pick ns) := ⟨tv_4_pick, ff_4_ok, ki_4_ok, kl_4_ok⟩
abbrev rm_4_pick : Room := { frames := 2, cells := 0, slots := 0, locals := 44 }
theorem co_4_pick (l : Launch) : sy_calls l rm_4_pick y_4_pick.cls c_4_pick 6 (fun ns => (M_4_pick ns).2.2.2.2.1) := by
  intro p e s m args below meth c rt wd ad ns A Q X hA q b n sp h
  replace h : ct_4_pick ns q = some (b, n, sp) := h
  unfold ct_4_pick at h
  split at h
  · cases h; exact sy_coV (ci := 4) X hA (mc_4_gapWith l) ⟨iw_4_gapWith.1, iw_4_gapWith.2.1, iw_4_gapWith.2.2, ⟨by decide, by decide⟩, rfl, rfl⟩ (sy_inx 764 (by decide +kernel) (by decide +kernel)) ii_4_gapWith.1 ii_4_gapWith.2 (rc_4_gapWith ns) ⟨_, rfl, rfl⟩
  · cases h
theorem rc_4_pick (ns : Nat) (as : List sy_V) (st : sy_S) (post : sy_R) (h : sp_4_pick ns as st post) : ∃ b as', as = .inr (.inr (some (some b))) :: as' ∧ sy_ob b = some 4 := sy_m3_r rfl as st post h
theorem mc_4_pick (l : Launch) : sy_MC l y_4_pick c_4_pick 6 none rm_4_pick sp_4_pick := by
  refine sy_meth M_4_pick (by decide +kernel) mv_4_pick (co_4_pick l) ?_
  intro ns as st post WA h hok hrg ⟨hgo0, hin, hwk⟩
  have hgo : ∀ (n pc : Nat) (L k : List sy_V) (st : sy_S), rn_4_pick ns (ct_4_pick ns) post WA n pc L k st → WA pc L k st := fun n pc L k st h => hgo0 [11] n pc L k st h
  replace h := sy_m3_e h hok
  obtain ⟨n, lo, gap, rfl, hn, hlo, hgap, h⟩ := h
  refine ⟨Nat.le_of_ble_eq_true rfl, ?_⟩
  show WA 0 [.inr (.inr (some (some 19))), .inl (true, n), .inl (true, lo), .inl (true, gap), .inr (.inr none), .inr (.inr none)] [] st
  obtain ⟨⟨hp, hn0, hl0⟩, h⟩ := h
  have hN := hp.1
  have key : ∀ (d i : Nat), i + d = (st 19 3).toNat → WA 11 [.inr (.inr (some (some 19))), .inl (true, n), .inl (true, lo), .inl (true, gap), .inl (true, (c_pks st n.toNat lo gap i).2.1), .inl (true, (i : Int))] [] (c_pk st (c_pks st n.toNat lo gap i).2.2 (c_pks st n.toNat lo gap i).1) := by
    intro d
    induction d with
    | zero =>
      intro i hi
      refine hgo 100 _ _ _ _ ?_
      simp -implicitDefEqProofs only [↓rx_4_pick_0, ↓rx_4_pick_1, ↓rx_4_pick_2, ↓rx_4_pick_5, ↓rx_4_pick_6, ↓rx_4_pick_8, ↓rx_4_pick_9, ↓rx_4_pick_11, ↓rx_4_pick_13, ↓rx_4_pick_14, ↓rx_4_pick_17, ↓rx_4_pick_20, ↓rx_4_pick_21, ↓rx_4_pick_24, ↓rx_4_pick_25, ↓rx_4_pick_28, ↓rx_4_pick_29, ↓rx_4_pick_31, ↓rx_4_pick_33, ↓rx_4_pick_34, ↓rx_4_pick_35, ↓rx_4_pick_36, ↓rx_4_pick_37, ↓rx_4_pick_40, ↓rx_4_pick_41, ↓rx_4_pick_44, ↓rx_4_pick_45, ↓rx_4_pick_48, ↓rx_4_pick_49, ↓rx_4_pick_52, ↓rx_4_pick_53, ↓rx_4_pick_56, ↓rx_4_pick_57, ↓rx_4_pick_60, ↓rx_4_pick_62, ↓rx_4_pick_63, ↓rx_4_pick_64, ↓rx_4_pick_65, ↓rx_4_pick_65_i, ↓rx_4_pick_66, ↓rx_4_pick_69, ↓rx_4_pick_70, ↓rx_4_pick_71, ↓rx_4_pick_74, ↓rx_4_pick_75, ↓rx_4_pick_78, ↓rx_4_pick_80, ↓rx_4_pick_81, ↓rx_4_pick_83, ↓rx_4_pick_86, ↓rx_4_pick_89, ↓cx_4_pick_72, sp_4_gapWith, c_pk_3, c_pk_6, ↓sx_s1, ↓sx_s2, ↓sx_s3, ↓sx_s4, ↓sx_s5, ↓sx_s6, ↓sx_m0, ↓sx_m1, ↓sx_m2, ↓sx_m3, ↓sx_m4, ↓sx_m5, ↓sx_m6, ↓sx_k0_, ↓sx_k1_, ↓sx_k2_, ↓sx_k3_, ↓sx_k4_, ↓sx_k5_, ↓sx_k6_, ↓sx_sLL, ↓sx_sAI, ↓sx_mLL, ↓sx_mIIL, ↓sx_mIILL, ↓sx_mIILLL, ↓sx_qS, ↓sx_qSI, ↓sx_qSIII, sx_rit, sx_rif, sx_rlt, sx_rlf, sx_b0, sx_b1, sx_o0, sx_o1i, sx_o1a, sx_o1l, sx_o2, sx_g0, sx_g1, sx_k1, sx_k2, sx_k3, sx_f1, sx_f2, sx_f3, sx_w0, sx_w1, sx_w2, sx_w3, sx_ts, sx_tn, sx_up, sx_nS1, sx_nS2, sx_nW1, sx_nW2, sx_SW, sx_WS, sy_nS_inj, sy_nW_inj, sx_ob0, sx_ob1, sx_ob2, sx_ob3, sx_ob4, sx_ob5, sx_ob6, sx_ob7, sx_ob8, sx_ob9, sx_ob10, sx_ob11, sx_ob12, sx_ob13, sx_ob14, sx_ob15, sx_ob16, sx_ob17, sx_ob18, sx_ob19, sx_ob20, sx_ob21, sx_ob22, sx_ob23, sx_ob24, sx_ob25, sx_ob26, sx_ob27, sx_ob28, sx_ob29, sx_ob30, sx_ob31, sx_ob32, sx_ob33, sx_ob34, sx_ob35, sx_ob36, sx_fv0_0, sx_fv0_1, sx_fv0_2, sx_fv0_3, sx_fv0_4, sx_fv0_5, sx_fv1_0, sx_fv1_1, sx_fv1_2, sx_fv3_0, sx_fv3_1, sx_fv3_2, sx_fv3_3, sx_fv3_4, sx_fv7_0, sx_fv7_1, sx_fv7_2, sx_fv7_3, sx_fv7_4, sx_fv7_5, sx_fv7_6, sx_fv7_7, sx_fv7_8, sx_fv7_9, sx_fv7_10, sx_fv9_0, sx_fv9_1, sx_fv9_2, sx_fv9_3, sx_fv11_0, sx_fv11_1, sx_fv11_2, sx_fv11_3, sx_fv11_4, sx_fv11_5, sx_fv11_6, sx_fv15_0, sx_fv15_1, sx_fv15_2, sx_fv15_3, sx_fv15_4, sx_fv15_5, sx_fv19_0, sx_fv19_1, sx_fv19_2, sx_fv19_3, sx_fv19_4, sx_fv19_5, sx_fv19_6, sx_fv24_0, sx_fv24_1, sx_fv24_2, sx_fv24_3, sx_fv24_4, sx_fv24_5, sx_fv24_6, sx_fv24_7, sx_fv24_8, sx_fv24_9, sx_fv24_10, sx_fv24_11, sx_fv24_12, sx_fv24_13, sx_fv24_14, sx_fv24_15, sx_fv24_16, sx_fv24_17, sx_fv24_18, sx_fvS_0, sx_fvS_1, sx_fvS_2, sx_fvS_3, sx_fvS_4, sx_fvS_5, sx_fvS_6, sx_fvS_7, sx_fvS_8, sx_fvS_9, sx_ar2, sx_ar4, sx_ar5, sx_ar6, sx_ar8, sx_ar10, sx_ar12, sx_ar13, sx_ar14, sx_ar16, sx_ar17, sx_ar18, sx_ar20, sx_ar21, sx_ar22, sx_ar23, sx_ar25, sx_ar26, sx_ar27, sx_ar28, sx_ar29, sx_ar30, sx_ar31, sx_ar32, sx_ar33, sx_ar34, sx_ar35, sx_ar36, sy_ob_S, sy_ob_W, sy_ar_W, sx_if0, sx_if1, sx_ie0, sx_em, Classical.not_not, sx_cle, sx_clt, sx_cge, sx_cgt, sx_ceq, Nat.reduceLT, Nat.reduceLeDiff, Nat.reduceAdd, Nat.reduceSub, Nat.reduceEqDiff, reduceIte, List.length_cons, List.length_nil, true_and, and_true, and_self, Bool.false_eq_true, true_implies, not_true_eq_false, not_false_eq_true, false_implies, implies_true, ne_eq, reduceCtorEq, Option.some.injEq, false_and, and_false, Int.reduceNeg, Int.reduceToNat, Int.reduceLT, Int.reduceLE, Int.reduceEq, Int.reduceAdd, Int.reduceSub, Int.reduceMul, or_false, false_or, or_true, true_or, forall_const, Int.toNat_natCast, Int.toNat_zero, Int.toNat_one, Nat.zero_add, or_self, Int.neg_eq_zero]
      have e : i = (st 19 3).toNat := by omega
      rw [← e] at h
      exact ⟨fun _ => h, fun c => by omega⟩
    | succ d ih =>
      intro i hi
      refine hgo 100 _ _ _ _ ?_
      simp -implicitDefEqProofs only [↓rx_4_pick_0, ↓rx_4_pick_1, ↓rx_4_pick_2, ↓rx_4_pick_5, ↓rx_4_pick_6, ↓rx_4_pick_8, ↓rx_4_pick_9, ↓rx_4_pick_11, ↓rx_4_pick_13, ↓rx_4_pick_14, ↓rx_4_pick_17, ↓rx_4_pick_20, ↓rx_4_pick_21, ↓rx_4_pick_24, ↓rx_4_pick_25, ↓rx_4_pick_28, ↓rx_4_pick_29, ↓rx_4_pick_31, ↓rx_4_pick_33, ↓rx_4_pick_34, ↓rx_4_pick_35, ↓rx_4_pick_36, ↓rx_4_pick_37, ↓rx_4_pick_40, ↓rx_4_pick_41, ↓rx_4_pick_44, ↓rx_4_pick_45, ↓rx_4_pick_48, ↓rx_4_pick_49, ↓rx_4_pick_52, ↓rx_4_pick_53, ↓rx_4_pick_56, ↓rx_4_pick_57, ↓rx_4_pick_60, ↓rx_4_pick_62, ↓rx_4_pick_63, ↓rx_4_pick_64, ↓rx_4_pick_65, ↓rx_4_pick_65_i, ↓rx_4_pick_66, ↓rx_4_pick_69, ↓rx_4_pick_70, ↓rx_4_pick_71, ↓rx_4_pick_74, ↓rx_4_pick_75, ↓rx_4_pick_78, ↓rx_4_pick_80, ↓rx_4_pick_81, ↓rx_4_pick_83, ↓rx_4_pick_86, ↓rx_4_pick_89, ↓cx_4_pick_72, sp_4_gapWith, c_pk_3, c_pk_6, c_pk_gw, ↓sx_s1, ↓sx_s2, ↓sx_s3, ↓sx_s4, ↓sx_s5, ↓sx_s6, ↓sx_m0, ↓sx_m1, ↓sx_m2, ↓sx_m3, ↓sx_m4, ↓sx_m5, ↓sx_m6, ↓sx_k0_, ↓sx_k1_, ↓sx_k2_, ↓sx_k3_, ↓sx_k4_, ↓sx_k5_, ↓sx_k6_, ↓sx_sLL, ↓sx_sAI, ↓sx_mLL, ↓sx_mIIL, ↓sx_mIILL, ↓sx_mIILLL, ↓sx_qS, ↓sx_qSI, ↓sx_qSIII, sx_rit, sx_rif, sx_rlt, sx_rlf, sx_b0, sx_b1, sx_o0, sx_o1i, sx_o1a, sx_o1l, sx_o2, sx_g0, sx_g1, sx_k1, sx_k2, sx_k3, sx_f1, sx_f2, sx_f3, sx_w0, sx_w1, sx_w2, sx_w3, sx_ts, sx_tn, sx_up, sx_nS1, sx_nS2, sx_nW1, sx_nW2, sx_SW, sx_WS, sy_nS_inj, sy_nW_inj, sx_ob0, sx_ob1, sx_ob2, sx_ob3, sx_ob4, sx_ob5, sx_ob6, sx_ob7, sx_ob8, sx_ob9, sx_ob10, sx_ob11, sx_ob12, sx_ob13, sx_ob14, sx_ob15, sx_ob16, sx_ob17, sx_ob18, sx_ob19, sx_ob20, sx_ob21, sx_ob22, sx_ob23, sx_ob24, sx_ob25, sx_ob26, sx_ob27, sx_ob28, sx_ob29, sx_ob30, sx_ob31, sx_ob32, sx_ob33, sx_ob34, sx_ob35, sx_ob36, sx_fv0_0, sx_fv0_1, sx_fv0_2, sx_fv0_3, sx_fv0_4, sx_fv0_5, sx_fv1_0, sx_fv1_1, sx_fv1_2, sx_fv3_0, sx_fv3_1, sx_fv3_2, sx_fv3_3, sx_fv3_4, sx_fv7_0, sx_fv7_1, sx_fv7_2, sx_fv7_3, sx_fv7_4, sx_fv7_5, sx_fv7_6, sx_fv7_7, sx_fv7_8, sx_fv7_9, sx_fv7_10, sx_fv9_0, sx_fv9_1, sx_fv9_2, sx_fv9_3, sx_fv11_0, sx_fv11_1, sx_fv11_2, sx_fv11_3, sx_fv11_4, sx_fv11_5, sx_fv11_6, sx_fv15_0, sx_fv15_1, sx_fv15_2, sx_fv15_3, sx_fv15_4, sx_fv15_5, sx_fv19_0, sx_fv19_1, sx_fv19_2, sx_fv19_3, sx_fv19_4, sx_fv19_5, sx_fv19_6, sx_fv24_0, sx_fv24_1, sx_fv24_2, sx_fv24_3, sx_fv24_4, sx_fv24_5, sx_fv24_6, sx_fv24_7, sx_fv24_8, sx_fv24_9, sx_fv24_10, sx_fv24_11, sx_fv24_12, sx_fv24_13, sx_fv24_14, sx_fv24_15, sx_fv24_16, sx_fv24_17, sx_fv24_18, sx_fvS_0, sx_fvS_1, sx_fvS_2, sx_fvS_3, sx_fvS_4, sx_fvS_5, sx_fvS_6, sx_fvS_7, sx_fvS_8, sx_fvS_9, sx_ar2, sx_ar4, sx_ar5, sx_ar6, sx_ar8, sx_ar10, sx_ar12, sx_ar13, sx_ar14, sx_ar16, sx_ar17, sx_ar18, sx_ar20, sx_ar21, sx_ar22, sx_ar23, sx_ar25, sx_ar26, sx_ar27, sx_ar28, sx_ar29, sx_ar30, sx_ar31, sx_ar32, sx_ar33, sx_ar34, sx_ar35, sx_ar36, sy_ob_S, sy_ob_W, sy_ar_W, sx_if0, sx_if1, sx_ie0, sx_em, Classical.not_not, sx_cle, sx_clt, sx_cge, sx_cgt, sx_ceq, Nat.reduceLT, Nat.reduceLeDiff, Nat.reduceAdd, Nat.reduceSub, Nat.reduceEqDiff, reduceIte, List.length_cons, List.length_nil, true_and, and_true, and_self, Bool.false_eq_true, true_implies, not_true_eq_false, not_false_eq_true, false_implies, implies_true, ne_eq, reduceCtorEq, Option.some.injEq, false_and, and_false, Int.reduceNeg, Int.reduceToNat, Int.reduceLT, Int.reduceLE, Int.reduceEq, Int.reduceAdd, Int.reduceSub, Int.reduceMul, or_false, false_or, or_true, true_or, forall_const, Int.toNat_natCast, Int.toNat_zero, Int.toNat_one, Nat.zero_add, or_self, Int.neg_eq_zero]
      have hle : (c_pks st n.toNat lo gap i).1 ≤ n.toNat := xpk_le i
      have hbl : -2000 ≤ (c_pks st n.toNat lo gap i).2.1 ∧ (c_pks st n.toNat lo gap i).2.1 ≤ 2000 := xpk_b hl0 i (fun j hj => hp.2 j (by omega))
      have i1 := ih (i + 1) (by omega)
      have e : ((i : Int) + 1) = ((i + 1 : Nat) : Int) := by omega
      have e1 : (n - 1 - ((c_pks st n.toNat lo gap i).1 : Int)).toNat = n.toNat - 1 - (c_pks st n.toNat lo gap i).1 := by omega
      have hst : c_pks st n.toNat lo gap (i + 1) = if (c_pks st n.toNat lo gap i).1 < n.toNat ∧ c_gw st (c_pks st n.toNat lo gap i).2.1 (n.toNat - 1 - (c_pks st n.toNat lo gap i).1) i ≤ gap then ((c_pks st n.toNat lo gap i).1 + 1, st 21 i, x_up1 (c_pks st n.toNat lo gap i).2.2 (c_pks st n.toNat lo gap i).1 (st 20 i)) else c_pks st n.toNat lo gap i := rfl
      rw [hst] at i1
      rw [e, e1, c_pk_ne _ _ _ (a := 21) (by decide) (by decide), c_pk_ne _ _ _ (a := 20) (by decide) (by decide), c_pk_up _ _ _ _ _ ((c_pks st n.toNat lo gap i).1 + 1) _ (by omega)]
      refine ⟨fun c => by omega, fun _ => ⟨fun c => ?_, fun c => ⟨by omega, ⟨?_, by omega, hbl, by omega⟩, fun c2 => ⟨by omega, ?_⟩, fun c2 => ⟨by omega, by omega, by omega, by omega, by omega, ?_⟩⟩⟩⟩
      · have hf := xpk_full (gw := c_gw st) (H := st 21) (O := st 20) (n := n.toNat) (gap := gap) (lo := lo) (C := st 23) (i := i) (by unfold c_pks at c hle; omega) (d + 1)
        rw [hi] at hf
        unfold c_pks at h ⊢
        rw [hf] at h
        exact h
      · unfold c_plr
        rw [c_pk_3, c_pk_ne _ _ _ (a := 21) (by decide) (by decide)]
        exact hp
      · rw [if_neg (by omega)] at i1
        exact i1
      · rw [if_pos (by omega)] at i1
        exact i1
  refine hgo 100 _ _ _ _ ?_
  simp -implicitDefEqProofs only [↓rx_4_pick_0, ↓rx_4_pick_1, ↓rx_4_pick_2, ↓rx_4_pick_5, ↓rx_4_pick_6, ↓rx_4_pick_8, ↓rx_4_pick_9, ↓rx_4_pick_11, ↓rx_4_pick_13, ↓rx_4_pick_14, ↓rx_4_pick_17, ↓rx_4_pick_20, ↓rx_4_pick_21, ↓rx_4_pick_24, ↓rx_4_pick_25, ↓rx_4_pick_28, ↓rx_4_pick_29, ↓rx_4_pick_31, ↓rx_4_pick_33, ↓rx_4_pick_34, ↓rx_4_pick_35, ↓rx_4_pick_36, ↓rx_4_pick_37, ↓rx_4_pick_40, ↓rx_4_pick_41, ↓rx_4_pick_44, ↓rx_4_pick_45, ↓rx_4_pick_48, ↓rx_4_pick_49, ↓rx_4_pick_52, ↓rx_4_pick_53, ↓rx_4_pick_56, ↓rx_4_pick_57, ↓rx_4_pick_60, ↓rx_4_pick_62, ↓rx_4_pick_63, ↓rx_4_pick_64, ↓rx_4_pick_65, ↓rx_4_pick_65_i, ↓rx_4_pick_66, ↓rx_4_pick_69, ↓rx_4_pick_70, ↓rx_4_pick_71, ↓rx_4_pick_74, ↓rx_4_pick_75, ↓rx_4_pick_78, ↓rx_4_pick_80, ↓rx_4_pick_81, ↓rx_4_pick_83, ↓rx_4_pick_86, ↓rx_4_pick_89, ↓cx_4_pick_72, sp_4_gapWith, ↓sx_s1, ↓sx_s2, ↓sx_s3, ↓sx_s4, ↓sx_s5, ↓sx_s6, ↓sx_m0, ↓sx_m1, ↓sx_m2, ↓sx_m3, ↓sx_m4, ↓sx_m5, ↓sx_m6, ↓sx_k0_, ↓sx_k1_, ↓sx_k2_, ↓sx_k3_, ↓sx_k4_, ↓sx_k5_, ↓sx_k6_, ↓sx_sLL, ↓sx_sAI, ↓sx_mLL, ↓sx_mIIL, ↓sx_mIILL, ↓sx_mIILLL, ↓sx_qS, ↓sx_qSI, ↓sx_qSIII, sx_rit, sx_rif, sx_rlt, sx_rlf, sx_b0, sx_b1, sx_o0, sx_o1i, sx_o1a, sx_o1l, sx_o2, sx_g0, sx_g1, sx_k1, sx_k2, sx_k3, sx_f1, sx_f2, sx_f3, sx_w0, sx_w1, sx_w2, sx_w3, sx_ts, sx_tn, sx_up, sx_nS1, sx_nS2, sx_nW1, sx_nW2, sx_SW, sx_WS, sy_nS_inj, sy_nW_inj, sx_ob0, sx_ob1, sx_ob2, sx_ob3, sx_ob4, sx_ob5, sx_ob6, sx_ob7, sx_ob8, sx_ob9, sx_ob10, sx_ob11, sx_ob12, sx_ob13, sx_ob14, sx_ob15, sx_ob16, sx_ob17, sx_ob18, sx_ob19, sx_ob20, sx_ob21, sx_ob22, sx_ob23, sx_ob24, sx_ob25, sx_ob26, sx_ob27, sx_ob28, sx_ob29, sx_ob30, sx_ob31, sx_ob32, sx_ob33, sx_ob34, sx_ob35, sx_ob36, sx_fv0_0, sx_fv0_1, sx_fv0_2, sx_fv0_3, sx_fv0_4, sx_fv0_5, sx_fv1_0, sx_fv1_1, sx_fv1_2, sx_fv3_0, sx_fv3_1, sx_fv3_2, sx_fv3_3, sx_fv3_4, sx_fv7_0, sx_fv7_1, sx_fv7_2, sx_fv7_3, sx_fv7_4, sx_fv7_5, sx_fv7_6, sx_fv7_7, sx_fv7_8, sx_fv7_9, sx_fv7_10, sx_fv9_0, sx_fv9_1, sx_fv9_2, sx_fv9_3, sx_fv11_0, sx_fv11_1, sx_fv11_2, sx_fv11_3, sx_fv11_4, sx_fv11_5, sx_fv11_6, sx_fv15_0, sx_fv15_1, sx_fv15_2, sx_fv15_3, sx_fv15_4, sx_fv15_5, sx_fv19_0, sx_fv19_1, sx_fv19_2, sx_fv19_3, sx_fv19_4, sx_fv19_5, sx_fv19_6, sx_fv24_0, sx_fv24_1, sx_fv24_2, sx_fv24_3, sx_fv24_4, sx_fv24_5, sx_fv24_6, sx_fv24_7, sx_fv24_8, sx_fv24_9, sx_fv24_10, sx_fv24_11, sx_fv24_12, sx_fv24_13, sx_fv24_14, sx_fv24_15, sx_fv24_16, sx_fv24_17, sx_fv24_18, sx_fvS_0, sx_fvS_1, sx_fvS_2, sx_fvS_3, sx_fvS_4, sx_fvS_5, sx_fvS_6, sx_fvS_7, sx_fvS_8, sx_fvS_9, sx_ar2, sx_ar4, sx_ar5, sx_ar6, sx_ar8, sx_ar10, sx_ar12, sx_ar13, sx_ar14, sx_ar16, sx_ar17, sx_ar18, sx_ar20, sx_ar21, sx_ar22, sx_ar23, sx_ar25, sx_ar26, sx_ar27, sx_ar28, sx_ar29, sx_ar30, sx_ar31, sx_ar32, sx_ar33, sx_ar34, sx_ar35, sx_ar36, sy_ob_S, sy_ob_W, sy_ar_W, sx_if0, sx_if1, sx_ie0, sx_em, Classical.not_not, sx_cle, sx_clt, sx_cge, sx_cgt, sx_ceq, Nat.reduceLT, Nat.reduceLeDiff, Nat.reduceAdd, Nat.reduceSub, Nat.reduceEqDiff, reduceIte, List.length_cons, List.length_nil, true_and, and_true, and_self, Bool.false_eq_true, true_implies, not_true_eq_false, not_false_eq_true, false_implies, implies_true, ne_eq, reduceCtorEq, Option.some.injEq, false_and, and_false, Int.reduceNeg, Int.reduceToNat, Int.reduceLT, Int.reduceLE, Int.reduceEq, Int.reduceAdd, Int.reduceSub, Int.reduceMul, or_false, false_or, or_true, true_or, forall_const, Int.toNat_natCast, Int.toNat_zero, Int.toNat_one, Nat.zero_add, or_self, Int.neg_eq_zero]
  have k0 := key (st 19 3).toNat 0 (by omega)
  have e0 : c_pk st (st 23) 0 = sy_up st 19 6 0 := by
    unfold c_pk
    rw [c_row_self]
    rfl
  have k1 : WA 11 [.inr (.inr (some (some 19))), .inl (true, n), .inl (true, lo), .inl (true, gap), .inl (true, lo), .inl (true, 0)] [] (c_pk st (st 23) 0) := k0
  rw [e0] at k1
  exact k1
theorem xp_D_ext {H G : Nat → Int} {N : Nat} {to : Int} (h : ∀ j, j < N → H j = G j) : ∀ m i, i < N → xp_D H N to m i = xp_D G N to m i
  | 0, i, hi => by simp only [xp_D]; rw [h i hi]
  | m + 1, i, hi => by
    simp only [xp_D]
    refine xm_ext _ (fun j h1 h2 => ?_)
    rw [h j (by omega), h i hi, xp_D_ext h m j (by omega)]
/-- the gap with the i-th next, by heights alone -/
def xp_w (H : Nat → Int) (N : Nat) (to b : Int) (m j : Nat) : Int := x_mx (H j - b) (xp_D H N to m j)
theorem xpk_ext {gw gv : Int → Nat → Nat → Int} {H G O : Nat → Int} {n : Nat} {gap lo : Int} {C : Nat → Int} : ∀ i, (∀ j, j < i → H j = G j) → (∀ b m j, m < n → j < i → gw b m j = gv b m j) → xpk gw H O n gap lo C i = xpk gv G O n gap lo C i
  | 0, _, _ => rfl
  | i + 1, h1, h2 => by
    simp only [xpk]
    rw [xpk_ext i (fun j hj => h1 j (by omega)) (fun b m j hm hj => h2 b m j hm (by omega)), h1 i (by omega)]
    by_cases c : (xpk gv G O n gap lo C i).1 < n
    · rw [h2 _ _ i (by omega) (by omega)]
    · rw [if_neg (fun q => c q.1), if_neg (fun q => c q.1)]
/-- the band, the gap and the picks of a plan -/
def c_O (ns : Nat) (st : sy_S) (lo hi : Int) : Nat → Int := (xq (c_ys st) lo hi (st 20) ns).1
def c_Nb (ns : Nat) (st : sy_S) (lo hi : Int) : Nat := (xq (c_ys st) lo hi (st 20) ns).2
def c_H (ns : Nat) (st : sy_S) (lo hi : Int) (j : Nat) : Int := c_ys st (c_O ns st lo hi j).toNat
def c_gap (ns : Nat) (st : sy_S) (n : Nat) (lo hi : Int) : Int := xm (xp_w (c_H ns st lo hi) (c_Nb ns st lo hi) hi lo (n - 1)) 0 (c_Nb ns st lo hi)
def c_pck (ns : Nat) (st : sy_S) (n : Nat) (lo hi : Int) : Nat × Int × (Nat → Int) := xpk (xp_w (c_H ns st lo hi) (c_Nb ns st lo hi) hi) (c_H ns st lo hi) (c_O ns st lo hi) n (c_gap ns st n lo hi) lo (st 23) (c_Nb ns st lo hi)
theorem c_ch_gw {ns : Nat} {st : sy_S} {n : Nat} {lo up : Int} {h g : Nat → Int} (hh : ∀ j, j < c_Nb ns st lo up → h j = c_H ns st lo up j) (hg : c_gp (c_bd st (c_O ns st lo up) h (c_Nb ns st lo up)) up g n 0) : ∀ b m j, m < n → j < c_Nb ns st lo up → c_gw (c_row (c_bd st (c_O ns st lo up) h (c_Nb ns st lo up)) 22 g) b m j = xp_w (c_H ns st lo up) (c_Nb ns st lo up) up b m j := fun b m j hm hj => by
  have e := hg m j (by rw [c_bd_n]; omega) (Or.inl hm)
  rw [c_bd_21, c_bd_n, Int.toNat_natCast, xp_D_ext hh m j hj] at e
  unfold c_gw xp_w
  rw [c_row_ne (by decide), c_row_eq, c_bd_21, hh j hj, e]
theorem c_ch_fin {ns : Nat} {st : sy_S} {n : Nat} {lo up : Int} {h g : Nat → Int} (hn : 1 ≤ n) (hh : ∀ j, j < c_Nb ns st lo up → h j = c_H ns st lo up j) (hg : c_gp (c_bd st (c_O ns st lo up) h (c_Nb ns st lo up)) up g n 0) : xm (c_gw (c_row (c_bd st (c_O ns st lo up) h (c_Nb ns st lo up)) 22 g) lo (n - 1)) 0 (c_Nb ns st lo up) = c_gap ns st n lo up ∧ c_pks (c_row (c_bd st (c_O ns st lo up) h (c_Nb ns st lo up)) 22 g) n lo (c_gap ns st n lo up) (c_Nb ns st lo up) = c_pck ns st n lo up := by
  have hgw := c_ch_gw hh hg
  refine ⟨xm_ext _ (fun j _ h2 => hgw lo (n - 1) j (by omega) (by omega)), ?_⟩
  unfold c_pks c_pck
  have e20 : c_row (c_bd st (c_O ns st lo up) h (c_Nb ns st lo up)) 22 g 20 = c_O ns st lo up := by rw [c_row_ne (by decide), c_bd_20]
  have e21 : c_row (c_bd st (c_O ns st lo up) h (c_Nb ns st lo up)) 22 g 21 = h := by rw [c_row_ne (by decide), c_bd_21]
  have e23 : c_row (c_bd st (c_O ns st lo up) h (c_Nb ns st lo up)) 22 g 23 = st 23 := by rw [c_row_ne (by decide), c_bd_ne _ _ _ _ (by decide) (by decide) (by decide)]
  rw [e20, e21, e23]
  exact xpk_ext _ hh (fun b m j hm hj => hgw b m j hm hj)
def sp_4_choose (ns : Nat) : sy_Sp := sy_m3 19 fun n lo hi st post => ((c_site ns st ∧ c_rng st) ∧ 1 ≤ n ∧ (-2000 ≤ lo ∧ lo ≤ 2000) ∧ (-2000 ≤ hi ∧ hi ≤ 2000)) ∧ ((c_Nb ns st lo hi : Int) < n → ∀ st' : sy_S, (∀ a, a ≠ 19 → a ≠ 20 → a ≠ 21 → st' a = st a) → st' 19 6 = st 19 6 → post (some (.inl (true, -1))) st') ∧ (n ≤ (c_Nb ns st lo hi : Int) → ∀ st' : sy_S, (∀ a, a ≠ 19 → a ≠ 20 → a ≠ 21 → a ≠ 22 → a ≠ 23 → st' a = st a) → st' 19 6 = ((c_pck ns st n.toNat lo hi).1 : Int) → st' 23 = (c_pck ns st n.toNat lo hi).2.2 → post (some (.inl (true, c_gap ns st n.toNat lo hi))) st')
def ct_4_choose (ns q : Nat) : Option (Bool × Nat × sy_Sp) := match q with
  | 32 => some (false, 3, sp_4_gather ns)
  | 39 => some (false, 3, sp_4_fillGaps ns)
  | 42 => some (false, 4, sp_4_leastGap ns)
  | 46 => some (false, 4, sp_4_pick ns)
  | _ => none
abbrev M_4_choose (ns : Nat) : sy_M := Mk_4_choose (ct_4_choose ns)
theorem cx_4_choose_32 {ns : Nat} {v1 v2 v3 : sy_V} {r : List sy_V} {s : sy_S} {f : List sy_V → sy_S → Prop} : sy_call false (ct_4_choose ns 32) (v3 :: v2 :: v1 :: r) s f = (sy_wd r ≤ 8 ∧ (sy_fit v3 ∧ sy_fit v2 ∧ sy_fit v1) ∧ sp_4_gather ns [sy_kn v1, sy_kn v2, sy_kn v3] s (fun q t => f (q.toList ++ r) t)) := sx_call3
theorem cx_4_choose_39 {ns : Nat} {v1 v2 v3 : sy_V} {r : List sy_V} {s : sy_S} {f : List sy_V → sy_S → Prop} : sy_call false (ct_4_choose ns 39) (v3 :: v2 :: v1 :: r) s f = (sy_wd r ≤ 8 ∧ (sy_fit v3 ∧ sy_fit v2 ∧ sy_fit v1) ∧ sp_4_fillGaps ns [sy_kn v1, sy_kn v2, sy_kn v3] s (fun q t => f (q.toList ++ r) t)) := sx_call3
theorem cx_4_choose_42 {ns : Nat} {v1 v2 v3 v4 : sy_V} {r : List sy_V} {s : sy_S} {f : List sy_V → sy_S → Prop} : sy_call false (ct_4_choose ns 42) (v4 :: v3 :: v2 :: v1 :: r) s f = (sy_wd r ≤ 8 ∧ (sy_fit v4 ∧ sy_fit v3 ∧ sy_fit v2 ∧ sy_fit v1) ∧ sp_4_leastGap ns [sy_kn v1, sy_kn v2, sy_kn v3, sy_kn v4] s (fun q t => f (q.toList ++ r) t)) := sx_call4
theorem cx_4_choose_46 {ns : Nat} {v1 v2 v3 v4 : sy_V} {r : List sy_V} {s : sy_S} {f : List sy_V → sy_S → Prop} : sy_call false (ct_4_choose ns 46) (v4 :: v3 :: v2 :: v1 :: r) s f = (sy_wd r ≤ 8 ∧ (sy_fit v4 ∧ sy_fit v3 ∧ sy_fit v2 ∧ sy_fit v1) ∧ sp_4_pick ns [sy_kn v1, sy_kn v2, sy_kn v3, sy_kn v4] s (fun q t => f (q.toList ++ r) t)) := sx_call4
theorem mv_4_choose (ns : Nat) : sy_MV c_4_choose y_4_choose.cls (some .int) (M_4_choose ns) := ⟨tv_4_choose, ff_4_ok, ki_4_ok, kl_4_ok⟩
abbrev rm_4_choose : Room := { frames := 4, cells := 0, slots := 0, locals := 93 }
theorem iw_4_gather : Cond.code y_4_gather c_4_gather 5 none ∈ sy_tb ∧ Cond.initialized y_4_gather.cls ∈ sy_tb ∧ (y_4_gather.cls ≠ "java/lang/invoke/MethodHandle" ∧ y_4_gather.cls ≠ "java/lang/invoke/VarHandle" ∧ (parseMethodDescriptor y_4_gather.desc).map (fun d => d.parameters.length) = some 2) := ⟨sy_inx 748 (by decide +kernel) (by decide +kernel), sy_inx 52 (by decide +kernel) (by decide +kernel), by decide +kernel⟩
theorem ii_4_gather : Cond.instanceMethod y_4_gather ∈ sy_tb ∧ Cond.selects y_4_gather.cls y_4_gather y_4_gather ∈ sy_tb := ⟨sy_inx 747 (by decide +kernel) (by decide +kernel), sy_inx 20 (by decide +kernel) (by decide +kernel)⟩
theorem iw_4_fillGaps : Cond.code y_4_fillGaps c_4_fillGaps 5 none ∈ sy_tb ∧ Cond.initialized y_4_fillGaps.cls ∈ sy_tb ∧ (y_4_fillGaps.cls ≠ "java/lang/invoke/MethodHandle" ∧ y_4_fillGaps.cls ≠ "java/lang/invoke/VarHandle" ∧ (parseMethodDescriptor y_4_fillGaps.desc).map (fun d => d.parameters.length) = some 2) := ⟨sy_inx 758 (by decide +kernel) (by decide +kernel), sy_inx 52 (by decide +kernel) (by decide +kernel), by decide +kernel⟩
theorem ii_4_fillGaps : Cond.instanceMethod y_4_fillGaps ∈ sy_tb ∧ Cond.selects y_4_fillGaps.cls y_4_fillGaps y_4_fillGaps ∈ sy_tb := ⟨sy_inx 757 (by decide +kernel) (by decide +kernel), sy_inx 22 (by decide +kernel) (by decide +kernel)⟩
theorem iw_4_pick : Cond.code y_4_pick c_4_pick 6 none ∈ sy_tb ∧ Cond.initialized y_4_pick.cls ∈ sy_tb ∧ (y_4_pick.cls ≠ "java/lang/invoke/MethodHandle" ∧ y_4_pick.cls ≠ "java/lang/invoke/VarHandle" ∧ (parseMethodDescriptor y_4_pick.desc).map (fun d => d.parameters.length) = some 3) := ⟨sy_inx 773 (by decide +kernel) (by decide +kernel), sy_inx 52 (by decide +kernel) (by decide +kernel), by decide +kernel⟩
theorem ii_4_pick : Cond.instanceMethod y_4_pick ∈ sy_tb ∧ Cond.selects y_4_pick.cls y_4_pick y_4_pick ∈ sy_tb := ⟨sy_inx 772 (by decide +kernel) (by decide +kernel), sy_inx 25 (by decide +kernel) (by decide +kernel)⟩
theorem co_4_choose (l : Launch) : sy_calls l rm_4_choose y_4_choose.cls c_4_choose 5 (fun ns => (M_4_choose ns).2.2.2.2.1) := by
  intro p e s m args below meth c rt wd ad ns A Q X hA q b n sp h
  replace h : ct_4_choose ns q = some (b, n, sp) := h
  unfold ct_4_choose at h
  split at h
  · cases h; exact sy_coV (ci := 4) X hA (mc_4_gather l) ⟨iw_4_gather.1, iw_4_gather.2.1, iw_4_gather.2.2, ⟨by decide, by decide⟩, rfl, rfl⟩ (sy_inx 745 (by decide +kernel) (by decide +kernel)) ii_4_gather.1 ii_4_gather.2 (rc_4_gather ns) ⟨_, rfl, rfl⟩
  · cases h; exact sy_coV (ci := 4) X hA (mc_4_fillGaps l) ⟨iw_4_fillGaps.1, iw_4_fillGaps.2.1, iw_4_fillGaps.2.2, ⟨by decide, by decide⟩, rfl, rfl⟩ (sy_inx 755 (by decide +kernel) (by decide +kernel)) ii_4_fillGaps.1 ii_4_fillGaps.2 (rc_4_fillGaps ns) ⟨_, rfl, rfl⟩
  · cases h; exact sy_coV (ci := 4) X hA (mc_4_leastGap l) ⟨iw_4_leastGap.1, iw_4_leastGap.2.1, iw_4_leastGap.2.2, ⟨by decide, by decide⟩, rfl, rfl⟩ (sy_inx 759 (by decide +kernel) (by decide +kernel)) ii_4_leastGap.1 ii_4_leastGap.2 (rc_4_leastGap ns) ⟨_, rfl, rfl⟩
  · cases h; exact sy_coV (ci := 4) X hA (mc_4_pick l) ⟨iw_4_pick.1, iw_4_pick.2.1, iw_4_pick.2.2, ⟨by decide, by decide⟩, rfl, rfl⟩ (sy_inx 770 (by decide +kernel) (by decide +kernel)) ii_4_pick.1 ii_4_pick.2 (rc_4_pick ns) ⟨_, rfl, rfl⟩
  · cases h
theorem rc_4_choose (ns : Nat) (as : List sy_V) (st : sy_S) (post : sy_R) (h : sp_4_choose ns as st post) : ∃ b as', as = .inr (.inr (some (some b))) :: as' ∧ sy_ob b = some 4 := sy_m3_r rfl as st post h
theorem mc_4_choose (l : Launch) : sy_MC l y_4_choose c_4_choose 5 (some .int) rm_4_choose sp_4_choose := by
  refine sy_meth M_4_choose (by decide +kernel) mv_4_choose (co_4_choose l) ?_
  intro ns as st post WA h hok hrg ⟨hgo0, hin, hwk⟩
  have hgo : ∀ (n pc : Nat) (L k : List sy_V) (st : sy_S), rn_4_choose ns (ct_4_choose ns) post WA n pc L k st → WA pc L k st := fun n pc L k st h => hgo0 [] n pc L k st h
  replace h := sy_m3_e h hok
  obtain ⟨n, lo, up, rfl, hn, hlo, hup, h⟩ := h
  refine ⟨Nat.le_of_ble_eq_true rfl, ?_⟩
  show WA 0 [.inr (.inr (some (some 19))), .inl (true, n), .inl (true, lo), .inl (true, up), .inr (.inr none)] [] st
  obtain ⟨⟨⟨hs, hr⟩, hn0, hl0, hu0⟩, h1, h2⟩ := h
  refine hgo 100 _ _ _ _ ?_
  simp -implicitDefEqProofs only [↓rx_4_choose_0, ↓rx_4_choose_1, ↓rx_4_choose_2, ↓rx_4_choose_3, ↓rx_4_choose_6, ↓rx_4_choose_7, ↓rx_4_choose_8, ↓rx_4_choose_11, ↓rx_4_choose_12, ↓rx_4_choose_13, ↓rx_4_choose_16, ↓rx_4_choose_19, ↓rx_4_choose_20, ↓rx_4_choose_21, ↓rx_4_choose_22, ↓rx_4_choose_23, ↓rx_4_choose_24, ↓rx_4_choose_27, ↓rx_4_choose_28, ↓rx_4_choose_29, ↓rx_4_choose_30, ↓rx_4_choose_31, ↓rx_4_choose_32, ↓rx_4_choose_33, ↓rx_4_choose_36, ↓rx_4_choose_38, ↓rx_4_choose_39, ↓rx_4_choose_40, ↓rx_4_choose_41, ↓rx_4_choose_43, ↓rx_4_choose_46, ↓rx_4_choose_48, ↓cx_4_choose_32, ↓cx_4_choose_39, ↓cx_4_choose_42, ↓cx_4_choose_46, sp_4_fillGaps, sp_4_gather, sp_4_leastGap, sp_4_pick, ↓sx_s1, ↓sx_s2, ↓sx_s3, ↓sx_s4, ↓sx_s5, ↓sx_s6, ↓sx_m0, ↓sx_m1, ↓sx_m2, ↓sx_m3, ↓sx_m4, ↓sx_m5, ↓sx_m6, ↓sx_k0_, ↓sx_k1_, ↓sx_k2_, ↓sx_k3_, ↓sx_k4_, ↓sx_k5_, ↓sx_k6_, ↓sx_sLL, ↓sx_sAI, ↓sx_mLL, ↓sx_mIIL, ↓sx_mIILL, ↓sx_mIILLL, ↓sx_qS, ↓sx_qSI, ↓sx_qSIII, sx_rit, sx_rif, sx_rlt, sx_rlf, sx_b0, sx_b1, sx_o0, sx_o1i, sx_o1a, sx_o1l, sx_o2, sx_g0, sx_g1, sx_k1, sx_k2, sx_k3, sx_f1, sx_f2, sx_f3, sx_w0, sx_w1, sx_w2, sx_w3, sx_ts, sx_tn, sx_up, sx_nS1, sx_nS2, sx_nW1, sx_nW2, sx_SW, sx_WS, sy_nS_inj, sy_nW_inj, sx_ob0, sx_ob1, sx_ob2, sx_ob3, sx_ob4, sx_ob5, sx_ob6, sx_ob7, sx_ob8, sx_ob9, sx_ob10, sx_ob11, sx_ob12, sx_ob13, sx_ob14, sx_ob15, sx_ob16, sx_ob17, sx_ob18, sx_ob19, sx_ob20, sx_ob21, sx_ob22, sx_ob23, sx_ob24, sx_ob25, sx_ob26, sx_ob27, sx_ob28, sx_ob29, sx_ob30, sx_ob31, sx_ob32, sx_ob33, sx_ob34, sx_ob35, sx_ob36, sx_fv0_0, sx_fv0_1, sx_fv0_2, sx_fv0_3, sx_fv0_4, sx_fv0_5, sx_fv1_0, sx_fv1_1, sx_fv1_2, sx_fv3_0, sx_fv3_1, sx_fv3_2, sx_fv3_3, sx_fv3_4, sx_fv7_0, sx_fv7_1, sx_fv7_2, sx_fv7_3, sx_fv7_4, sx_fv7_5, sx_fv7_6, sx_fv7_7, sx_fv7_8, sx_fv7_9, sx_fv7_10, sx_fv9_0, sx_fv9_1, sx_fv9_2, sx_fv9_3, sx_fv11_0, sx_fv11_1, sx_fv11_2, sx_fv11_3, sx_fv11_4, sx_fv11_5, sx_fv11_6, sx_fv15_0, sx_fv15_1, sx_fv15_2, sx_fv15_3, sx_fv15_4, sx_fv15_5, sx_fv19_0, sx_fv19_1, sx_fv19_2, sx_fv19_3, sx_fv19_4, sx_fv19_5, sx_fv19_6, sx_fv24_0, sx_fv24_1, sx_fv24_2, sx_fv24_3, sx_fv24_4, sx_fv24_5, sx_fv24_6, sx_fv24_7, sx_fv24_8, sx_fv24_9, sx_fv24_10, sx_fv24_11, sx_fv24_12, sx_fv24_13, sx_fv24_14, sx_fv24_15, sx_fv24_16, sx_fv24_17, sx_fv24_18, sx_fvS_0, sx_fvS_1, sx_fvS_2, sx_fvS_3, sx_fvS_4, sx_fvS_5, sx_fvS_6, sx_fvS_7, sx_fvS_8, sx_fvS_9, sx_ar2, sx_ar4, sx_ar5, sx_ar6, sx_ar8, sx_ar10, sx_ar12, sx_ar13, sx_ar14, sx_ar16, sx_ar17, sx_ar18, sx_ar20, sx_ar21, sx_ar22, sx_ar23, sx_ar25, sx_ar26, sx_ar27, sx_ar28, sx_ar29, sx_ar30, sx_ar31, sx_ar32, sx_ar33, sx_ar34, sx_ar35, sx_ar36, sy_ob_S, sy_ob_W, sy_ar_W, sx_if0, sx_if1, sx_ie0, sx_em, Classical.not_not, sx_cle, sx_clt, sx_cge, sx_cgt, sx_ceq, Nat.reduceLT, Nat.reduceLeDiff, Nat.reduceAdd, Nat.reduceSub, Nat.reduceEqDiff, reduceIte, List.length_cons, List.length_nil, true_and, and_true, and_self, Bool.false_eq_true, true_implies, not_true_eq_false, not_false_eq_true, false_implies, implies_true, ne_eq, reduceCtorEq, Option.some.injEq, false_and, and_false, Int.reduceNeg, Int.reduceToNat, Int.reduceLT, Int.reduceLE, Int.reduceEq, Int.reduceAdd, Int.reduceSub, Int.reduceMul, or_false, false_or, or_true, true_or, forall_const, Int.toNat_natCast, Int.toNat_zero, Int.toNat_one, Nat.zero_add, or_self, Int.neg_eq_zero]
  have hle : c_Nb ns st lo up ≤ ns := xq_le (c_ys st) lo up (st 20) ns
  refine ⟨⟨hs, hr⟩, fun h hh => ?_⟩
  have hh2 : ∀ j, j < c_Nb ns st lo up → h j = c_H ns st lo up j := hh
  have hplr : c_plr (c_bd st (c_O ns st lo up) h (c_Nb ns st lo up)) := by
    unfold c_plr
    rw [c_bd_n, c_bd_21]
    refine ⟨⟨by omega, by have := hs.2; omega⟩, fun j hj => ?_⟩
    rw [hh2 j (by omega)]
    exact hr.2.1 _
  have hplr2 : ∀ g, c_plr (c_row (c_bd st (c_O ns st lo up) h (c_Nb ns st lo up)) 22 g) := fun g => by
    unfold c_plr
    rw [c_row_ne (by decide), c_row_ne (by decide)]
    exact hplr
  change (n < 1 → post (some (.inl (true, -1))) (c_bd st (c_O ns st lo up) h (c_Nb ns st lo up))) ∧ _
  refine ⟨fun c => by omega, fun _ => ⟨fun c => ⟨⟨hplr, ⟨hn0, c⟩, hu0⟩, fun g hg => ?_⟩, fun c => ?_⟩⟩
  · have c2 : n ≤ (c_Nb ns st lo up : Int) := c
    have hs2 := hs.2
    refine ⟨by omega, ⟨hplr2 g, hl0, by omega, by omega⟩, ⟨hplr2 g, ⟨hn0, by omega⟩, hl0⟩, ?_⟩
    have e1 : (n - 1).toNat = n.toNat - 1 := by omega
    have e2 : (c_row (c_bd st (c_O ns st lo up) h (c_Nb ns st lo up)) 22 g 19 3).toNat = c_Nb ns st lo up := by
      rw [c_row_ne (by decide), c_bd_n, Int.toNat_natCast]
    have hfin := c_ch_fin (n := n.toNat) (by omega) hh2 hg
    have hpost := h2 c2 (c_pk (c_row (c_bd st (c_O ns st lo up) h (c_Nb ns st lo up)) 22 g) (c_pck ns st n.toNat lo up).2.2 (c_pck ns st n.toNat lo up).1) (fun a a19 a20 a21 a22 a23 => by rw [c_pk_ne _ _ _ a19 a23, c_row_ne a22, c_bd_ne _ _ _ _ a19 a20 a21]) (c_pk_6 _ _ _) (c_pk_23 _ _ _)
    rw [← hfin.2] at hpost
    rw [← hfin.1] at hpost
    change post (some (.inl (true, xm (c_gw (c_row (c_bd st (c_O ns st lo up) h (c_Nb ns st lo up)) 22 g) lo (n - 1).toNat) 0 ((c_row (c_bd st (c_O ns st lo up) h (c_Nb ns st lo up)) 22 g 19 3).toNat - 0)))) (c_pk (c_row (c_bd st (c_O ns st lo up) h (c_Nb ns st lo up)) 22 g) (c_pks (c_row (c_bd st (c_O ns st lo up) h (c_Nb ns st lo up)) 22 g) n.toNat lo (xm (c_gw (c_row (c_bd st (c_O ns st lo up) h (c_Nb ns st lo up)) 22 g) lo (n - 1).toNat) 0 ((c_row (c_bd st (c_O ns st lo up) h (c_Nb ns st lo up)) 22 g 19 3).toNat - 0)) (c_row (c_bd st (c_O ns st lo up) h (c_Nb ns st lo up)) 22 g 19 3).toNat).2.2 (c_pks (c_row (c_bd st (c_O ns st lo up) h (c_Nb ns st lo up)) 22 g) n.toNat lo (xm (c_gw (c_row (c_bd st (c_O ns st lo up) h (c_Nb ns st lo up)) 22 g) lo (n - 1).toNat) 0 ((c_row (c_bd st (c_O ns st lo up) h (c_Nb ns st lo up)) 22 g 19 3).toNat - 0)) (c_row (c_bd st (c_O ns st lo up) h (c_Nb ns st lo up)) 22 g 19 3).toNat).1)
    rw [e2, e1, Nat.sub_zero]
    exact hpost
  · exact h1 (by have c2 : ¬ n ≤ (c_Nb ns st lo up : Int) := c; omega) _ (fun a a19 a20 a21 => c_bd_ne _ _ _ _ a19 a20 a21) (by rfl)
