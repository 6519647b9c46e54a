/-! THE MODEL'S COUNTS -/
/-- how many of the first n have p -/
def xc (p : Nat → Bool) : Nat → Int
  | 0 => 0
  | n + 1 => xc p n + if p n = true then 1 else 0
theorem xc_rng (p : Nat → Bool) : ∀ n : Nat, 0 ≤ xc p n ∧ xc p n ≤ n
  | 0 => by simp [xc]
  | n + 1 => by
    have := xc_rng p n
    simp only [xc]
    split <;> omega
/-- is there one among the first n -/
def xe (p : Nat → Bool) : Nat → Bool
  | 0 => false
  | n + 1 => xe p n || p n
/-- the k-th that has p (from f on, d of them), or -1 -/
def xk (p : Nat → Bool) (k : Int) : Nat → Nat → Int
  | 0, _ => -1
  | d + 1, f => if p f = true ∧ xc p f = k then f else xk p k d (f + 1)
/-- the least or greatest v of those that have p, or -1 -/
def xs (g : Bool) (p : Nat → Bool) (v : Nat → Int) : Nat → Int
  | 0 => -1
  | n + 1 => if p n = true ∧ (xs g p v n = -1 ∨ (if g = true then xs g p v n < v n else v n < xs g p v n)) then v n else xs g p v n
/-- the first of the least, among 0 .. n -/
def xb (w : Nat → Int) : Nat → Nat
  | 0 => 0
  | n + 1 => if w (n + 1) < w (xb w n) then n + 1 else xb w n
def m_wr (ns : Nat) (st : sy_S) (f : Int) : Int := xc (fun s => !m_ag st f s) ns
def m_ft (ns : Nat) (st : sy_S) (f : Nat) : Bool := decide (m_wr ns st f = 0)
def sp_9_wrong (ns : Nat) : sy_Sp := sy_m1 24 fun f st post => (m_ok ns st ∧ 0 ≤ f ∧ f < 4096) ∧ post (some (.inl (true, m_wr ns st f))) st
def ct_9_wrong (ns q : Nat) : Option (Bool × Nat × sy_Sp) := match q with
  | 110 => some (false, 3, sp_9_agree ns)
  | _ => none
abbrev M_9_wrong (ns : Nat) : sy_M := Mk_9_wrong (ct_9_wrong ns)
theorem cx_9_wrong_110 {ns : Nat} {v1 v2 v3 : sy_V} {r : List sy_V} {s : sy_S} {f : List sy_V → sy_S → Prop} : sy_call false (ct_9_wrong ns 110) (v3 :: v2 :: v1 :: r) s f = (sy_wd r ≤ 8 ∧ (sy_fit v3 ∧ sy_fit v2 ∧ sy_fit v1) ∧ sp_9_agree ns [sy_kn v1, sy_kn v2, sy_kn v3] s (fun q t => f (q.toList ++ r) t)) := sx_call3
theorem mv_9_wrong (ns : Nat) : sy_MV c_9_wrong y_9_wrong.cls (some .int) (M_9_wrong ns) := ⟨tv_9_wrong, ff_9_ok, ki_9_ok, kl_9_ok⟩
abbrev rm_9_wrong : Room := { frames := 3, cells := 0, slots := 0, locals := 83 }
theorem co_9_wrong (l : Launch) : sy_calls l rm_9_wrong y_9_wrong.cls c_9_wrong 4 (fun ns => (M_9_wrong ns).2.2.2.2.1) := by
  intro p e s m args below meth c rt wd ad ns A Q X hA q b n sp h
  replace h : ct_9_wrong ns q = some (b, n, sp) := h
  unfold ct_9_wrong at h
  split at h
  · cases h; exact sy_coV (ci := 9) X hA (mc_9_agree l) ⟨iw_9_agree.1, iw_9_agree.2.1, iw_9_agree.2.2, ⟨by decide, by decide⟩, rfl, rfl⟩ (sy_inx 931 (by decide +kernel) (by decide +kernel)) ii_9_agree.1 ii_9_agree.2 (rc_9_agree ns) ⟨_, rfl, rfl⟩
  · cases h
theorem rc_9_wrong (ns : Nat) (as : List sy_V) (st : sy_S) (post : sy_R) (h : sp_9_wrong ns as st post) : ∃ b as', as = .inr (.inr (some (some b))) :: as' ∧ sy_ob b = some 9 := sy_m1_r rfl as st post h
theorem mc_9_wrong (l : Launch) : sy_MC l y_9_wrong c_9_wrong 4 (some .int) rm_9_wrong sp_9_wrong := by
  refine sy_meth M_9_wrong (by decide +kernel) mv_9_wrong (co_9_wrong l) ?_
  intro ns as st post WA h hok hrg ⟨hgo0, hin, hwk⟩
  have hgo : ∀ (n pc : Nat) (L k : List sy_V) (st : sy_S), rn_9_wrong ns (ct_9_wrong ns) post WA n pc L k st → WA pc L k st := fun n pc L k st h => hgo0 [4] n pc L k st h
  replace h := sy_m1_e h hok
  obtain ⟨f, rfl, hf, h⟩ := h
  refine ⟨Nat.le_of_ble_eq_true rfl, ?_⟩
  show WA 0 [.inr (.inr (some (some 24))), .inl (true, f), .inr (.inr none), .inr (.inr none)] [] st
  obtain ⟨⟨hm, hf1⟩, h⟩ := h
  have hn := hm.1
  unfold m_site at hn
  have key : ∀ (d s : Nat), s + d = ns → WA 4 [.inr (.inr (some (some 24))), .inl (true, f), .inl (true, xc (fun s => !m_ag st f s) s), .inl (true, (s : Int))] [] st := by
    intro d
    induction d with
    | zero =>
      intro s hs
      refine hgo 100 _ _ _ _ ?_
      simp -implicitDefEqProofs only [↓rx_9_wrong_0, ↓rx_9_wrong_1, ↓rx_9_wrong_2, ↓rx_9_wrong_3, ↓rx_9_wrong_4, ↓rx_9_wrong_5, ↓rx_9_wrong_6, ↓rx_9_wrong_9, ↓rx_9_wrong_12, ↓rx_9_wrong_13, ↓rx_9_wrong_14, ↓rx_9_wrong_15, ↓rx_9_wrong_16, ↓rx_9_wrong_19, ↓rx_9_wrong_22, ↓rx_9_wrong_23, ↓rx_9_wrong_26, ↓rx_9_wrong_27, ↓rx_9_wrong_28, ↓rx_9_wrong_29, ↓rx_9_wrong_32, ↓rx_9_wrong_35, ↓rx_9_wrong_36, ↓cx_9_wrong_110, sp_9_agree, ↓sx_s1, ↓sx_s2, ↓sx_s3, ↓sx_s4, ↓sx_s5, ↓sx_s6, ↓sx_m0, ↓sx_m1, ↓sx_m2, ↓sx_m3, ↓sx_m4, ↓sx_m5, ↓sx_m6, ↓sx_k0_, ↓sx_k1_, ↓sx_k2_, ↓sx_k3_, ↓sx_k4_, ↓sx_k5_, ↓sx_k6_, ↓sx_sLL, ↓sx_sAI, ↓sx_mLL, ↓sx_mIIL, ↓sx_mIILL, ↓sx_mIILLL, ↓sx_qS, ↓sx_qSI, ↓sx_qSIII, sx_rit, sx_rif, sx_rlt, sx_rlf, sx_b0, sx_b1, sx_o0, sx_o1i, sx_o1a, sx_o1l, sx_o2, sx_g0, sx_g1, sx_k1, sx_k2, sx_k3, sx_f1, sx_f2, sx_f3, sx_w0, sx_w1, sx_w2, sx_w3, sx_ts, sx_tn, sx_up, sx_nS1, sx_nS2, sx_nW1, sx_nW2, sx_SW, sx_WS, sy_nS_inj, sy_nW_inj, sx_ob0, sx_ob1, sx_ob2, sx_ob3, sx_ob4, sx_ob5, sx_ob6, sx_ob7, sx_ob8, sx_ob9, sx_ob10, sx_ob11, sx_ob12, sx_ob13, sx_ob14, sx_ob15, sx_ob16, sx_ob17, sx_ob18, sx_ob19, sx_ob20, sx_ob21, sx_ob22, sx_ob23, sx_ob24, sx_ob25, sx_ob26, sx_ob27, sx_ob28, sx_ob29, sx_ob30, sx_ob31, sx_ob32, sx_ob33, sx_ob34, sx_ob35, sx_ob36, sx_fv0_0, sx_fv0_1, sx_fv0_2, sx_fv0_3, sx_fv0_4, sx_fv0_5, sx_fv1_0, sx_fv1_1, sx_fv1_2, sx_fv3_0, sx_fv3_1, sx_fv3_2, sx_fv3_3, sx_fv3_4, sx_fv7_0, sx_fv7_1, sx_fv7_2, sx_fv7_3, sx_fv7_4, sx_fv7_5, sx_fv7_6, sx_fv7_7, sx_fv7_8, sx_fv7_9, sx_fv7_10, sx_fv9_0, sx_fv9_1, sx_fv9_2, sx_fv9_3, sx_fv11_0, sx_fv11_1, sx_fv11_2, sx_fv11_3, sx_fv11_4, sx_fv11_5, sx_fv11_6, sx_fv15_0, sx_fv15_1, sx_fv15_2, sx_fv15_3, sx_fv15_4, sx_fv15_5, sx_fv19_0, sx_fv19_1, sx_fv19_2, sx_fv19_3, sx_fv19_4, sx_fv19_5, sx_fv19_6, sx_fv24_0, sx_fv24_1, sx_fv24_2, sx_fv24_3, sx_fv24_4, sx_fv24_5, sx_fv24_6, sx_fv24_7, sx_fv24_8, sx_fv24_9, sx_fv24_10, sx_fv24_11, sx_fv24_12, sx_fv24_13, sx_fv24_14, sx_fv24_15, sx_fv24_16, sx_fv24_17, sx_fv24_18, sx_fvS_0, sx_fvS_1, sx_fvS_2, sx_fvS_3, sx_fvS_4, sx_fvS_5, sx_fvS_6, sx_fvS_7, sx_fvS_8, sx_fvS_9, sx_ar2, sx_ar4, sx_ar5, sx_ar6, sx_ar8, sx_ar10, sx_ar12, sx_ar13, sx_ar14, sx_ar16, sx_ar17, sx_ar18, sx_ar20, sx_ar21, sx_ar22, sx_ar23, sx_ar25, sx_ar26, sx_ar27, sx_ar28, sx_ar29, sx_ar30, sx_ar31, sx_ar32, sx_ar33, sx_ar34, sx_ar35, sx_ar36, sy_ob_S, sy_ob_W, sy_ar_W, sx_if0, sx_if1, sx_ie0, sx_em, Classical.not_not, sx_cle, sx_clt, sx_cge, sx_cgt, sx_ceq, Nat.reduceLT, Nat.reduceLeDiff, Nat.reduceAdd, Nat.reduceSub, Nat.reduceEqDiff, reduceIte, List.length_cons, List.length_nil, true_and, and_true, and_self, Bool.false_eq_true, true_implies, not_true_eq_false, not_false_eq_true, false_implies, implies_true, ne_eq, reduceCtorEq, Option.some.injEq, false_and, and_false, Int.reduceNeg, Int.reduceToNat, Int.reduceLT, Int.reduceLE, Int.reduceEq, Int.reduceAdd, Int.reduceSub, Int.reduceMul, or_false, false_or, or_true, true_or, forall_const, Int.toNat_natCast, Int.toNat_zero, Int.toNat_one, Nat.zero_add, or_self, Int.neg_eq_zero]
      rw [hn.1]
      refine ⟨fun _ => ?_, fun q => by omega⟩
      rw [show s = ns by omega]
      exact h
    | succ d ih =>
      intro s hs
      refine hgo 100 _ _ _ _ ?_
      simp -implicitDefEqProofs only [↓rx_9_wrong_0, ↓rx_9_wrong_1, ↓rx_9_wrong_2, ↓rx_9_wrong_3, ↓rx_9_wrong_4, ↓rx_9_wrong_5, ↓rx_9_wrong_6, ↓rx_9_wrong_9, ↓rx_9_wrong_12, ↓rx_9_wrong_13, ↓rx_9_wrong_14, ↓rx_9_wrong_15, ↓rx_9_wrong_16, ↓rx_9_wrong_19, ↓rx_9_wrong_22, ↓rx_9_wrong_23, ↓rx_9_wrong_26, ↓rx_9_wrong_27, ↓rx_9_wrong_28, ↓rx_9_wrong_29, ↓rx_9_wrong_32, ↓rx_9_wrong_35, ↓rx_9_wrong_36, ↓cx_9_wrong_110, sp_9_agree, ↓sx_s1, ↓sx_s2, ↓sx_s3, ↓sx_s4, ↓sx_s5, ↓sx_s6, ↓sx_m0, ↓sx_m1, ↓sx_m2, ↓sx_m3, ↓sx_m4, ↓sx_m5, ↓sx_m6, ↓sx_k0_, ↓sx_k1_, ↓sx_k2_, ↓sx_k3_, ↓sx_k4_, ↓sx_k5_, ↓sx_k6_, ↓sx_sLL, ↓sx_sAI, ↓sx_mLL, ↓sx_mIIL, ↓sx_mIILL, ↓sx_mIILLL, ↓sx_qS, ↓sx_qSI, ↓sx_qSIII, sx_rit, sx_rif, sx_rlt, sx_rlf, sx_b0, sx_b1, sx_o0, sx_o1i, sx_o1a, sx_o1l, sx_o2, sx_g0, sx_g1, sx_k1, sx_k2, sx_k3, sx_f1, sx_f2, sx_f3, sx_w0, sx_w1, sx_w2, sx_w3, sx_ts, sx_tn, sx_up, sx_nS1, sx_nS2, sx_nW1, sx_nW2, sx_SW, sx_WS, sy_nS_inj, sy_nW_inj, sx_ob0, sx_ob1, sx_ob2, sx_ob3, sx_ob4, sx_ob5, sx_ob6, sx_ob7, sx_ob8, sx_ob9, sx_ob10, sx_ob11, sx_ob12, sx_ob13, sx_ob14, sx_ob15, sx_ob16, sx_ob17, sx_ob18, sx_ob19, sx_ob20, sx_ob21, sx_ob22, sx_ob23, sx_ob24, sx_ob25, sx_ob26, sx_ob27, sx_ob28, sx_ob29, sx_ob30, sx_ob31, sx_ob32, sx_ob33, sx_ob34, sx_ob35, sx_ob36, sx_fv0_0, sx_fv0_1, sx_fv0_2, sx_fv0_3, sx_fv0_4, sx_fv0_5, sx_fv1_0, sx_fv1_1, sx_fv1_2, sx_fv3_0, sx_fv3_1, sx_fv3_2, sx_fv3_3, sx_fv3_4, sx_fv7_0, sx_fv7_1, sx_fv7_2, sx_fv7_3, sx_fv7_4, sx_fv7_5, sx_fv7_6, sx_fv7_7, sx_fv7_8, sx_fv7_9, sx_fv7_10, sx_fv9_0, sx_fv9_1, sx_fv9_2, sx_fv9_3, sx_fv11_0, sx_fv11_1, sx_fv11_2, sx_fv11_3, sx_fv11_4, sx_fv11_5, sx_fv11_6, sx_fv15_0, sx_fv15_1, sx_fv15_2, sx_fv15_3, sx_fv15_4, sx_fv15_5, sx_fv19_0, sx_fv19_1, sx_fv19_2, sx_fv19_3, sx_fv19_4, sx_fv19_5, sx_fv19_6, sx_fv24_0, sx_fv24_1, sx_fv24_2, sx_fv24_3, sx_fv24_4, sx_fv24_5, sx_fv24_6, sx_fv24_7, sx_fv24_8, sx_fv24_9, sx_fv24_10, sx_fv24_11, sx_fv24_12, sx_fv24_13, sx_fv24_14, sx_fv24_15, sx_fv24_16, sx_fv24_17, sx_fv24_18, sx_fvS_0, sx_fvS_1, sx_fvS_2, sx_fvS_3, sx_fvS_4, sx_fvS_5, sx_fvS_6, sx_fvS_7, sx_fvS_8, sx_fvS_9, sx_ar2, sx_ar4, sx_ar5, sx_ar6, sx_ar8, sx_ar10, sx_ar12, sx_ar13, sx_ar14, sx_ar16, sx_ar17, sx_ar18, sx_ar20, sx_ar21, sx_ar22, sx_ar23, sx_ar25, sx_ar26, sx_ar27, sx_ar28, sx_ar29, sx_ar30, sx_ar31, sx_ar32, sx_ar33, sx_ar34, sx_ar35, sx_ar36, sy_ob_S, sy_ob_W, sy_ar_W, sx_if0, sx_if1, sx_ie0, sx_em, Classical.not_not, sx_cle, sx_clt, sx_cge, sx_cgt, sx_ceq, Nat.reduceLT, Nat.reduceLeDiff, Nat.reduceAdd, Nat.reduceSub, Nat.reduceEqDiff, reduceIte, List.length_cons, List.length_nil, true_and, and_true, and_self, Bool.false_eq_true, true_implies, not_true_eq_false, not_false_eq_true, false_implies, implies_true, ne_eq, reduceCtorEq, Option.some.injEq, false_and, and_false, Int.reduceNeg, Int.reduceToNat, Int.reduceLT, Int.reduceLE, Int.reduceEq, Int.reduceAdd, Int.reduceSub, Int.reduceMul, or_false, false_or, or_true, true_or, forall_const, Int.toNat_natCast, Int.toNat_zero, Int.toNat_one, Nat.zero_add, or_self, Int.neg_eq_zero]
      have hc := xc_rng (fun s => !m_ag st f s) s
      have i1 := ih (s + 1) (by omega)
      simp only [xc, Bool.not_eq_true'] at i1
      rw [hn.1]
      have e : ((s : Int) + 1) = ((s + 1 : Nat) : Int) := by omega
      rw [e]
      refine ⟨fun q => by omega, fun _ => ⟨⟨hm, hf1, by omega, by omega⟩, fun c => ?_, fun c => ?_⟩⟩
      · rw [if_pos (by simpa using c)] at i1
        exact ⟨by omega, by omega, i1⟩
      · rw [if_neg (by simpa using c), Int.add_zero] at i1
        rw [Int.add_zero]
        exact ⟨by omega, by omega, i1⟩
  refine hgo 100 _ _ _ _ ?_
  simp -implicitDefEqProofs only [↓rx_9_wrong_0, ↓rx_9_wrong_1, ↓rx_9_wrong_2, ↓rx_9_wrong_3, ↓rx_9_wrong_4, ↓rx_9_wrong_5, ↓rx_9_wrong_6, ↓rx_9_wrong_9, ↓rx_9_wrong_12, ↓rx_9_wrong_13, ↓rx_9_wrong_14, ↓rx_9_wrong_15, ↓rx_9_wrong_16, ↓rx_9_wrong_19, ↓rx_9_wrong_22, ↓rx_9_wrong_23, ↓rx_9_wrong_26, ↓rx_9_wrong_27, ↓rx_9_wrong_28, ↓rx_9_wrong_29, ↓rx_9_wrong_32, ↓rx_9_wrong_35, ↓rx_9_wrong_36, ↓cx_9_wrong_110, sp_9_agree, ↓sx_s1, ↓sx_s2, ↓sx_s3, ↓sx_s4, ↓sx_s5, ↓sx_s6, ↓sx_m0, ↓sx_m1, ↓sx_m2, ↓sx_m3, ↓sx_m4, ↓sx_m5, ↓sx_m6, ↓sx_k0_, ↓sx_k1_, ↓sx_k2_, ↓sx_k3_, ↓sx_k4_, ↓sx_k5_, ↓sx_k6_, ↓sx_sLL, ↓sx_sAI, ↓sx_mLL, ↓sx_mIIL, ↓sx_mIILL, ↓sx_mIILLL, ↓sx_qS, ↓sx_qSI, ↓sx_qSIII, sx_rit, sx_rif, sx_rlt, sx_rlf, sx_b0, sx_b1, sx_o0, sx_o1i, sx_o1a, sx_o1l, sx_o2, sx_g0, sx_g1, sx_k1, sx_k2, sx_k3, sx_f1, sx_f2, sx_f3, sx_w0, sx_w1, sx_w2, sx_w3, sx_ts, sx_tn, sx_up, sx_nS1, sx_nS2, sx_nW1, sx_nW2, sx_SW, sx_WS, sy_nS_inj, sy_nW_inj, sx_ob0, sx_ob1, sx_ob2, sx_ob3, sx_ob4, sx_ob5, sx_ob6, sx_ob7, sx_ob8, sx_ob9, sx_ob10, sx_ob11, sx_ob12, sx_ob13, sx_ob14, sx_ob15, sx_ob16, sx_ob17, sx_ob18, sx_ob19, sx_ob20, sx_ob21, sx_ob22, sx_ob23, sx_ob24, sx_ob25, sx_ob26, sx_ob27, sx_ob28, sx_ob29, sx_ob30, sx_ob31, sx_ob32, sx_ob33, sx_ob34, sx_ob35, sx_ob36, sx_fv0_0, sx_fv0_1, sx_fv0_2, sx_fv0_3, sx_fv0_4, sx_fv0_5, sx_fv1_0, sx_fv1_1, sx_fv1_2, sx_fv3_0, sx_fv3_1, sx_fv3_2, sx_fv3_3, sx_fv3_4, sx_fv7_0, sx_fv7_1, sx_fv7_2, sx_fv7_3, sx_fv7_4, sx_fv7_5, sx_fv7_6, sx_fv7_7, sx_fv7_8, sx_fv7_9, sx_fv7_10, sx_fv9_0, sx_fv9_1, sx_fv9_2, sx_fv9_3, sx_fv11_0, sx_fv11_1, sx_fv11_2, sx_fv11_3, sx_fv11_4, sx_fv11_5, sx_fv11_6, sx_fv15_0, sx_fv15_1, sx_fv15_2, sx_fv15_3, sx_fv15_4, sx_fv15_5, sx_fv19_0, sx_fv19_1, sx_fv19_2, sx_fv19_3, sx_fv19_4, sx_fv19_5, sx_fv19_6, sx_fv24_0, sx_fv24_1, sx_fv24_2, sx_fv24_3, sx_fv24_4, sx_fv24_5, sx_fv24_6, sx_fv24_7, sx_fv24_8, sx_fv24_9, sx_fv24_10, sx_fv24_11, sx_fv24_12, sx_fv24_13, sx_fv24_14, sx_fv24_15, sx_fv24_16, sx_fv24_17, sx_fv24_18, sx_fvS_0, sx_fvS_1, sx_fvS_2, sx_fvS_3, sx_fvS_4, sx_fvS_5, sx_fvS_6, sx_fvS_7, sx_fvS_8, sx_fvS_9, sx_ar2, sx_ar4, sx_ar5, sx_ar6, sx_ar8, sx_ar10, sx_ar12, sx_ar13, sx_ar14, sx_ar16, sx_ar17, sx_ar18, sx_ar20, sx_ar21, sx_ar22, sx_ar23, sx_ar25, sx_ar26, sx_ar27, sx_ar28, sx_ar29, sx_ar30, sx_ar31, sx_ar32, sx_ar33, sx_ar34, sx_ar35, sx_ar36, sy_ob_S, sy_ob_W, sy_ar_W, sx_if0, sx_if1, sx_ie0, sx_em, Classical.not_not, sx_cle, sx_clt, sx_cge, sx_cgt, sx_ceq, Nat.reduceLT, Nat.reduceLeDiff, Nat.reduceAdd, Nat.reduceSub, Nat.reduceEqDiff, reduceIte, List.length_cons, List.length_nil, true_and, and_true, and_self, Bool.false_eq_true, true_implies, not_true_eq_false, not_false_eq_true, false_implies, implies_true, ne_eq, reduceCtorEq, Option.some.injEq, false_and, and_false, Int.reduceNeg, Int.reduceToNat, Int.reduceLT, Int.reduceLE, Int.reduceEq, Int.reduceAdd, Int.reduceSub, Int.reduceMul, or_false, false_or, or_true, true_or, forall_const, Int.toNat_natCast, Int.toNat_zero, Int.toNat_one, Nat.zero_add, or_self, Int.neg_eq_zero]
  exact key ns 0 (by omega)
def sp_9_fitting (ns : Nat) : sy_Sp := sy_m0 24 fun st post => m_ok ns st ∧ post (some (.inl (true, xc (m_ft ns st) (m_tot st).toNat))) st
def ct_9_fitting (ns q : Nat) : Option (Bool × Nat × sy_Sp) := match q with
  | 89 => some (false, 1, sp_9_figures ns)
  | 113 => some (false, 2, sp_9_wrong ns)
  | _ => none
abbrev M_9_fitting (ns : Nat) : sy_M := Mk_9_fitting (ct_9_fitting ns)
theorem cx_9_fitting_89 {ns : Nat} {v1 : sy_V} {r : List sy_V} {s : sy_S} {f : List sy_V → sy_S → Prop} : sy_call false (ct_9_fitting ns 89) (v1 :: r) s f = (sy_wd r ≤ 8 ∧ (sy_fit v1) ∧ sp_9_figures ns [sy_kn v1] s (fun q t => f (q.toList ++ r) t)) := sx_call1
theorem cx_9_fitting_113 {ns : Nat} {v1 v2 : sy_V} {r : List sy_V} {s : sy_S} {f : List sy_V → sy_S → Prop} : sy_call false (ct_9_fitting ns 113) (v2 :: v1 :: r) s f = (sy_wd r ≤ 8 ∧ (sy_fit v2 ∧ sy_fit v1) ∧ sp_9_wrong ns [sy_kn v1, sy_kn v2] s (fun q t => f (q.toList ++ r) t)) := sx_call2
theorem mv_9_fitting (ns : Nat) : sy_MV c_9_fitting y_9_fitting.cls (some .int) (M_9_fitting ns) := ⟨tv_9_fitting, ff_9_ok, ki_9_ok, kl_9_ok⟩
abbrev rm_9_fitting : Room := { frames := 4, cells := 0, slots := 0, locals := 106 }
theorem iw_9_wrong : Cond.code y_9_wrong c_9_wrong 4 (some .int) ∈ sy_tb ∧ Cond.initialized y_9_wrong.cls ∈ sy_tb ∧ (y_9_wrong.cls ≠ "java/lang/invoke/MethodHandle" ∧ y_9_wrong.cls ≠ "java/lang/invoke/VarHandle" ∧ (parseMethodDescriptor y_9_wrong.desc).map (fun d => d.parameters.length) = some 1) := ⟨sy_inx 954 (by decide +kernel) (by decide +kernel), sy_inx 53 (by decide +kernel) (by decide +kernel), by decide +kernel⟩
theorem ii_9_wrong : Cond.instanceMethod y_9_wrong ∈ sy_tb ∧ Cond.selects y_9_wrong.cls y_9_wrong y_9_wrong ∈ sy_tb := ⟨sy_inx 953 (by decide +kernel) (by decide +kernel), sy_inx 35 (by decide +kernel) (by decide +kernel)⟩
theorem co_9_fitting (l : Launch) : sy_calls l rm_9_fitting y_9_fitting.cls c_9_fitting 3 (fun ns => (M_9_fitting ns).2.2.2.2.1) := by
  intro p e s m args below meth c rt wd ad ns A Q X hA q b n sp h
  replace h : ct_9_fitting ns q = some (b, n, sp) := h
  unfold ct_9_fitting at h
  split at h
  · cases h; exact sy_coV (ci := 9) X hA (mc_9_figures l) ⟨iw_9_figures.1, iw_9_figures.2.1, iw_9_figures.2.2, ⟨by decide, by decide⟩, rfl, rfl⟩ (sy_inx 922 (by decide +kernel) (by decide +kernel)) ii_9_figures.1 ii_9_figures.2 (rc_9_figures ns) ⟨_, rfl, rfl⟩
  · cases h; exact sy_coV (ci := 9) X hA (mc_9_wrong l) ⟨iw_9_wrong.1, iw_9_wrong.2.1, iw_9_wrong.2.2, ⟨by decide, by decide⟩, rfl, rfl⟩ (sy_inx 951 (by decide +kernel) (by decide +kernel)) ii_9_wrong.1 ii_9_wrong.2 (rc_9_wrong ns) ⟨_, rfl, rfl⟩
  · cases h
theorem rc_9_fitting (ns : Nat) (as : List sy_V) (st : sy_S) (post : sy_R) (h : sp_9_fitting ns as st post) : ∃ b as', as = .inr (.inr (some (some b))) :: as' ∧ sy_ob b = some 9 := sy_m0_r rfl as st post h
theorem mc_9_fitting (l : Launch) : sy_MC l y_9_fitting c_9_fitting 3 (some .int) rm_9_fitting sp_9_fitting := by
  refine sy_meth M_9_fitting (by decide +kernel) mv_9_fitting (co_9_fitting l) ?_
  intro ns as st post WA h hok hrg ⟨hgo0, hin, hwk⟩
  have hgo : ∀ (n pc : Nat) (L k : List sy_V) (st : sy_S), rn_9_fitting ns (ct_9_fitting ns) post WA n pc L k st → WA pc L k st := fun n pc L k st h => hgo0 [4] n pc L k st h
  replace h := sy_m0_e h hok
  obtain ⟨rfl, h⟩ := h
  refine ⟨Nat.le_of_ble_eq_true rfl, ?_⟩
  show WA 0 [.inr (.inr (some (some 24))), .inr (.inr none), .inr (.inr none)] [] st
  obtain ⟨hm, h⟩ := h
  have ht := m_tot_r hm.2.2
  have key : ∀ (d f : Nat), f + d = (m_tot st).toNat → WA 4 [.inr (.inr (some (some 24))), .inl (true, xc (m_ft ns st) f), .inl (true, (f : Int))] [] st := by
    intro d
    induction d with
    | zero =>
      intro f hf
      refine hgo 100 _ _ _ _ ?_
      simp -implicitDefEqProofs only [↓rx_9_fitting_0, ↓rx_9_fitting_1, ↓rx_9_fitting_2, ↓rx_9_fitting_3, ↓rx_9_fitting_4, ↓rx_9_fitting_5, ↓rx_9_fitting_6, ↓rx_9_fitting_9, ↓rx_9_fitting_12, ↓rx_9_fitting_13, ↓rx_9_fitting_14, ↓rx_9_fitting_15, ↓rx_9_fitting_18, ↓rx_9_fitting_21, ↓rx_9_fitting_22, ↓rx_9_fitting_25, ↓rx_9_fitting_26, ↓rx_9_fitting_27, ↓rx_9_fitting_28, ↓rx_9_fitting_31, ↓rx_9_fitting_34, ↓rx_9_fitting_35, ↓cx_9_fitting_89, ↓cx_9_fitting_113, sp_9_figures, sp_9_wrong, ↓sx_s1, ↓sx_s2, ↓sx_s3, ↓sx_s4, ↓sx_s5, ↓sx_s6, ↓sx_m0, ↓sx_m1, ↓sx_m2, ↓sx_m3, ↓sx_m4, ↓sx_m5, ↓sx_m6, ↓sx_k0_, ↓sx_k1_, ↓sx_k2_, ↓sx_k3_, ↓sx_k4_, ↓sx_k5_, ↓sx_k6_, ↓sx_sLL, ↓sx_sAI, ↓sx_mLL, ↓sx_mIIL, ↓sx_mIILL, ↓sx_mIILLL, ↓sx_qS, ↓sx_qSI, ↓sx_qSIII, sx_rit, sx_rif, sx_rlt, sx_rlf, sx_b0, sx_b1, sx_o0, sx_o1i, sx_o1a, sx_o1l, sx_o2, sx_g0, sx_g1, sx_k1, sx_k2, sx_k3, sx_f1, sx_f2, sx_f3, sx_w0, sx_w1, sx_w2, sx_w3, sx_ts, sx_tn, sx_up, sx_nS1, sx_nS2, sx_nW1, sx_nW2, sx_SW, sx_WS, sy_nS_inj, sy_nW_inj, sx_ob0, sx_ob1, sx_ob2, sx_ob3, sx_ob4, sx_ob5, sx_ob6, sx_ob7, sx_ob8, sx_ob9, sx_ob10, sx_ob11, sx_ob12, sx_ob13, sx_ob14, sx_ob15, sx_ob16, sx_ob17, sx_ob18, sx_ob19, sx_ob20, sx_ob21, sx_ob22, sx_ob23, sx_ob24, sx_ob25, sx_ob26, sx_ob27, sx_ob28, sx_ob29, sx_ob30, sx_ob31, sx_ob32, sx_ob33, sx_ob34, sx_ob35, sx_ob36, sx_fv0_0, sx_fv0_1, sx_fv0_2, sx_fv0_3, sx_fv0_4, sx_fv0_5, sx_fv1_0, sx_fv1_1, sx_fv1_2, sx_fv3_0, sx_fv3_1, sx_fv3_2, sx_fv3_3, sx_fv3_4, sx_fv7_0, sx_fv7_1, sx_fv7_2, sx_fv7_3, sx_fv7_4, sx_fv7_5, sx_fv7_6, sx_fv7_7, sx_fv7_8, sx_fv7_9, sx_fv7_10, sx_fv9_0, sx_fv9_1, sx_fv9_2, sx_fv9_3, sx_fv11_0, sx_fv11_1, sx_fv11_2, sx_fv11_3, sx_fv11_4, sx_fv11_5, sx_fv11_6, sx_fv15_0, sx_fv15_1, sx_fv15_2, sx_fv15_3, sx_fv15_4, sx_fv15_5, sx_fv19_0, sx_fv19_1, sx_fv19_2, sx_fv19_3, sx_fv19_4, sx_fv19_5, sx_fv19_6, sx_fv24_0, sx_fv24_1, sx_fv24_2, sx_fv24_3, sx_fv24_4, sx_fv24_5, sx_fv24_6, sx_fv24_7, sx_fv24_8, sx_fv24_9, sx_fv24_10, sx_fv24_11, sx_fv24_12, sx_fv24_13, sx_fv24_14, sx_fv24_15, sx_fv24_16, sx_fv24_17, sx_fv24_18, sx_fvS_0, sx_fvS_1, sx_fvS_2, sx_fvS_3, sx_fvS_4, sx_fvS_5, sx_fvS_6, sx_fvS_7, sx_fvS_8, sx_fvS_9, sx_ar2, sx_ar4, sx_ar5, sx_ar6, sx_ar8, sx_ar10, sx_ar12, sx_ar13, sx_ar14, sx_ar16, sx_ar17, sx_ar18, sx_ar20, sx_ar21, sx_ar22, sx_ar23, sx_ar25, sx_ar26, sx_ar27, sx_ar28, sx_ar29, sx_ar30, sx_ar31, sx_ar32, sx_ar33, sx_ar34, sx_ar35, sx_ar36, sy_ob_S, sy_ob_W, sy_ar_W, sx_if0, sx_if1, sx_ie0, sx_em, Classical.not_not, sx_cle, sx_clt, sx_cge, sx_cgt, sx_ceq, Nat.reduceLT, Nat.reduceLeDiff, Nat.reduceAdd, Nat.reduceSub, Nat.reduceEqDiff, reduceIte, List.length_cons, List.length_nil, true_and, and_true, and_self, Bool.false_eq_true, true_implies, not_true_eq_false, not_false_eq_true, false_implies, implies_true, ne_eq, reduceCtorEq, Option.some.injEq, false_and, and_false, Int.reduceNeg, Int.reduceToNat, Int.reduceLT, Int.reduceLE, Int.reduceEq, Int.reduceAdd, Int.reduceSub, Int.reduceMul, or_false, false_or, or_true, true_or, forall_const, Int.toNat_natCast, Int.toNat_zero, Int.toNat_one, Nat.zero_add, or_self, Int.neg_eq_zero]
      refine ⟨hm, fun _ => ?_, fun q => by omega⟩
      rw [show f = (m_tot st).toNat by omega]
      exact h
    | succ d ih =>
      intro f hf
      refine hgo 100 _ _ _ _ ?_
      simp -implicitDefEqProofs only [↓rx_9_fitting_0, ↓rx_9_fitting_1, ↓rx_9_fitting_2, ↓rx_9_fitting_3, ↓rx_9_fitting_4, ↓rx_9_fitting_5, ↓rx_9_fitting_6, ↓rx_9_fitting_9, ↓rx_9_fitting_12, ↓rx_9_fitting_13, ↓rx_9_fitting_14, ↓rx_9_fitting_15, ↓rx_9_fitting_18, ↓rx_9_fitting_21, ↓rx_9_fitting_22, ↓rx_9_fitting_25, ↓rx_9_fitting_26, ↓rx_9_fitting_27, ↓rx_9_fitting_28, ↓rx_9_fitting_31, ↓rx_9_fitting_34, ↓rx_9_fitting_35, ↓cx_9_fitting_89, ↓cx_9_fitting_113, sp_9_figures, sp_9_wrong, ↓sx_s1, ↓sx_s2, ↓sx_s3, ↓sx_s4, ↓sx_s5, ↓sx_s6, ↓sx_m0, ↓sx_m1, ↓sx_m2, ↓sx_m3, ↓sx_m4, ↓sx_m5, ↓sx_m6, ↓sx_k0_, ↓sx_k1_, ↓sx_k2_, ↓sx_k3_, ↓sx_k4_, ↓sx_k5_, ↓sx_k6_, ↓sx_sLL, ↓sx_sAI, ↓sx_mLL, ↓sx_mIIL, ↓sx_mIILL, ↓sx_mIILLL, ↓sx_qS, ↓sx_qSI, ↓sx_qSIII, sx_rit, sx_rif, sx_rlt, sx_rlf, sx_b0, sx_b1, sx_o0, sx_o1i, sx_o1a, sx_o1l, sx_o2, sx_g0, sx_g1, sx_k1, sx_k2, sx_k3, sx_f1, sx_f2, sx_f3, sx_w0, sx_w1, sx_w2, sx_w3, sx_ts, sx_tn, sx_up, sx_nS1, sx_nS2, sx_nW1, sx_nW2, sx_SW, sx_WS, sy_nS_inj, sy_nW_inj, sx_ob0, sx_ob1, sx_ob2, sx_ob3, sx_ob4, sx_ob5, sx_ob6, sx_ob7, sx_ob8, sx_ob9, sx_ob10, sx_ob11, sx_ob12, sx_ob13, sx_ob14, sx_ob15, sx_ob16, sx_ob17, sx_ob18, sx_ob19, sx_ob20, sx_ob21, sx_ob22, sx_ob23, sx_ob24, sx_ob25, sx_ob26, sx_ob27, sx_ob28, sx_ob29, sx_ob30, sx_ob31, sx_ob32, sx_ob33, sx_ob34, sx_ob35, sx_ob36, sx_fv0_0, sx_fv0_1, sx_fv0_2, sx_fv0_3, sx_fv0_4, sx_fv0_5, sx_fv1_0, sx_fv1_1, sx_fv1_2, sx_fv3_0, sx_fv3_1, sx_fv3_2, sx_fv3_3, sx_fv3_4, sx_fv7_0, sx_fv7_1, sx_fv7_2, sx_fv7_3, sx_fv7_4, sx_fv7_5, sx_fv7_6, sx_fv7_7, sx_fv7_8, sx_fv7_9, sx_fv7_10, sx_fv9_0, sx_fv9_1, sx_fv9_2, sx_fv9_3, sx_fv11_0, sx_fv11_1, sx_fv11_2, sx_fv11_3, sx_fv11_4, sx_fv11_5, sx_fv11_6, sx_fv15_0, sx_fv15_1, sx_fv15_2, sx_fv15_3, sx_fv15_4, sx_fv15_5, sx_fv19_0, sx_fv19_1, sx_fv19_2, sx_fv19_3, sx_fv19_4, sx_fv19_5, sx_fv19_6, sx_fv24_0, sx_fv24_1, sx_fv24_2, sx_fv24_3, sx_fv24_4, sx_fv24_5, sx_fv24_6, sx_fv24_7, sx_fv24_8, sx_fv24_9, sx_fv24_10, sx_fv24_11, sx_fv24_12, sx_fv24_13, sx_fv24_14, sx_fv24_15, sx_fv24_16, sx_fv24_17, sx_fv24_18, sx_fvS_0, sx_fvS_1, sx_fvS_2, sx_fvS_3, sx_fvS_4, sx_fvS_5, sx_fvS_6, sx_fvS_7, sx_fvS_8, sx_fvS_9, sx_ar2, sx_ar4, sx_ar5, sx_ar6, sx_ar8, sx_ar10, sx_ar12, sx_ar13, sx_ar14, sx_ar16, sx_ar17, sx_ar18, sx_ar20, sx_ar21, sx_ar22, sx_ar23, sx_ar25, sx_ar26, sx_ar27, sx_ar28, sx_ar29, sx_ar30, sx_ar31, sx_ar32, sx_ar33, sx_ar34, sx_ar35, sx_ar36, sy_ob_S, sy_ob_W, sy_ar_W, sx_if0, sx_if1, sx_ie0, sx_em, Classical.not_not, sx_cle, sx_clt, sx_cge, sx_cgt, sx_ceq, Nat.reduceLT, Nat.reduceLeDiff, Nat.reduceAdd, Nat.reduceSub, Nat.reduceEqDiff, reduceIte, List.length_cons, List.length_nil, true_and, and_true, and_self, Bool.false_eq_true, true_implies, not_true_eq_false, not_false_eq_true, false_implies, implies_true, ne_eq, reduceCtorEq, Option.some.injEq, false_and, and_false, Int.reduceNeg, Int.reduceToNat, Int.reduceLT, Int.reduceLE, Int.reduceEq, Int.reduceAdd, Int.reduceSub, Int.reduceMul, or_false, false_or, or_true, true_or, forall_const, Int.toNat_natCast, Int.toNat_zero, Int.toNat_one, Nat.zero_add, or_self, Int.neg_eq_zero]
      have hc := xc_rng (m_ft ns st) f
      have i1 := ih (f + 1) (by omega)
      simp only [xc, m_ft, decide_eq_true_eq] at i1
      have e : ((f : Int) + 1) = ((f + 1 : Nat) : Int) := by omega
      rw [e]
      refine ⟨hm, fun q => by omega, fun _ => ⟨⟨hm, by omega, by omega⟩, fun c => ?_, fun c => ?_⟩⟩
      · rw [if_neg c, Int.add_zero] at i1
        rw [Int.add_zero]
        exact ⟨by omega, by omega, i1⟩
      · rw [if_pos c] at i1
        exact ⟨by omega, by omega, i1⟩
  refine hgo 100 _ _ _ _ ?_
  simp -implicitDefEqProofs only [↓rx_9_fitting_0, ↓rx_9_fitting_1, ↓rx_9_fitting_2, ↓rx_9_fitting_3, ↓rx_9_fitting_4, ↓rx_9_fitting_5, ↓rx_9_fitting_6, ↓rx_9_fitting_9, ↓rx_9_fitting_12, ↓rx_9_fitting_13, ↓rx_9_fitting_14, ↓rx_9_fitting_15, ↓rx_9_fitting_18, ↓rx_9_fitting_21, ↓rx_9_fitting_22, ↓rx_9_fitting_25, ↓rx_9_fitting_26, ↓rx_9_fitting_27, ↓rx_9_fitting_28, ↓rx_9_fitting_31, ↓rx_9_fitting_34, ↓rx_9_fitting_35, ↓cx_9_fitting_89, ↓cx_9_fitting_113, sp_9_figures, sp_9_wrong, ↓sx_s1, ↓sx_s2, ↓sx_s3, ↓sx_s4, ↓sx_s5, ↓sx_s6, ↓sx_m0, ↓sx_m1, ↓sx_m2, ↓sx_m3, ↓sx_m4, ↓sx_m5, ↓sx_m6, ↓sx_k0_, ↓sx_k1_, ↓sx_k2_, ↓sx_k3_, ↓sx_k4_, ↓sx_k5_, ↓sx_k6_, ↓sx_sLL, ↓sx_sAI, ↓sx_mLL, ↓sx_mIIL, ↓sx_mIILL, ↓sx_mIILLL, ↓sx_qS, ↓sx_qSI, ↓sx_qSIII, sx_rit, sx_rif, sx_rlt, sx_rlf, sx_b0, sx_b1, sx_o0, sx_o1i, sx_o1a, sx_o1l, sx_o2, sx_g0, sx_g1, sx_k1, sx_k2, sx_k3, sx_f1, sx_f2, sx_f3, sx_w0, sx_w1, sx_w2, sx_w3, sx_ts, sx_tn, sx_up, sx_nS1, sx_nS2, sx_nW1, sx_nW2, sx_SW, sx_WS, sy_nS_inj, sy_nW_inj, sx_ob0, sx_ob1, sx_ob2, sx_ob3, sx_ob4, sx_ob5, sx_ob6, sx_ob7, sx_ob8, sx_ob9, sx_ob10, sx_ob11, sx_ob12, sx_ob13, sx_ob14, sx_ob15, sx_ob16, sx_ob17, sx_ob18, sx_ob19, sx_ob20, sx_ob21, sx_ob22, sx_ob23, sx_ob24, sx_ob25, sx_ob26, sx_ob27, sx_ob28, sx_ob29, sx_ob30, sx_ob31, sx_ob32, sx_ob33, sx_ob34, sx_ob35, sx_ob36, sx_fv0_0, sx_fv0_1, sx_fv0_2, sx_fv0_3, sx_fv0_4, sx_fv0_5, sx_fv1_0, sx_fv1_1, sx_fv1_2, sx_fv3_0, sx_fv3_1, sx_fv3_2, sx_fv3_3, sx_fv3_4, sx_fv7_0, sx_fv7_1, sx_fv7_2, sx_fv7_3, sx_fv7_4, sx_fv7_5, sx_fv7_6, sx_fv7_7, sx_fv7_8, sx_fv7_9, sx_fv7_10, sx_fv9_0, sx_fv9_1, sx_fv9_2, sx_fv9_3, sx_fv11_0, sx_fv11_1, sx_fv11_2, sx_fv11_3, sx_fv11_4, sx_fv11_5, sx_fv11_6, sx_fv15_0, sx_fv15_1, sx_fv15_2, sx_fv15_3, sx_fv15_4, sx_fv15_5, sx_fv19_0, sx_fv19_1, sx_fv19_2, sx_fv19_3, sx_fv19_4, sx_fv19_5, sx_fv19_6, sx_fv24_0, sx_fv24_1, sx_fv24_2, sx_fv24_3, sx_fv24_4, sx_fv24_5, sx_fv24_6, sx_fv24_7, sx_fv24_8, sx_fv24_9, sx_fv24_10, sx_fv24_11, sx_fv24_12, sx_fv24_13, sx_fv24_14, sx_fv24_15, sx_fv24_16, sx_fv24_17, sx_fv24_18, sx_fvS_0, sx_fvS_1, sx_fvS_2, sx_fvS_3, sx_fvS_4, sx_fvS_5, sx_fvS_6, sx_fvS_7, sx_fvS_8, sx_fvS_9, sx_ar2, sx_ar4, sx_ar5, sx_ar6, sx_ar8, sx_ar10, sx_ar12, sx_ar13, sx_ar14, sx_ar16, sx_ar17, sx_ar18, sx_ar20, sx_ar21, sx_ar22, sx_ar23, sx_ar25, sx_ar26, sx_ar27, sx_ar28, sx_ar29, sx_ar30, sx_ar31, sx_ar32, sx_ar33, sx_ar34, sx_ar35, sx_ar36, sy_ob_S, sy_ob_W, sy_ar_W, sx_if0, sx_if1, sx_ie0, sx_em, Classical.not_not, sx_cle, sx_clt, sx_cge, sx_cgt, sx_ceq, Nat.reduceLT, Nat.reduceLeDiff, Nat.reduceAdd, Nat.reduceSub, Nat.reduceEqDiff, reduceIte, List.length_cons, List.length_nil, true_and, and_true, and_self, Bool.false_eq_true, true_implies, not_true_eq_false, not_false_eq_true, false_implies, implies_true, ne_eq, reduceCtorEq, Option.some.injEq, false_and, and_false, Int.reduceNeg, Int.reduceToNat, Int.reduceLT, Int.reduceLE, Int.reduceEq, Int.reduceAdd, Int.reduceSub, Int.reduceMul, or_false, false_or, or_true, true_or, forall_const, Int.toNat_natCast, Int.toNat_zero, Int.toNat_one, Nat.zero_add, or_self, Int.neg_eq_zero]
  exact key (m_tot st).toNat 0 (by omega)
def sp_9_anyFits (ns : Nat) : sy_Sp := sy_m0 24 fun st post => m_ok ns st ∧ post (some (.inl (true, if xe (m_ft ns st) (m_tot st).toNat = true then 1 else 0))) st
def ct_9_anyFits (ns q : Nat) : Option (Bool × Nat × sy_Sp) := match q with
  | 89 => some (false, 1, sp_9_figures ns)
  | 113 => some (false, 2, sp_9_wrong ns)
  | _ => none
abbrev M_9_anyFits (ns : Nat) : sy_M := Mk_9_anyFits (ct_9_anyFits ns)
theorem cx_9_anyFits_89 {ns : Nat} {v1 : sy_V} {r : List sy_V} {s : sy_S} {f : List sy_V → sy_S → Prop} : sy_call false (ct_9_anyFits ns 89) (v1 :: r) s f = (sy_wd r ≤ 8 ∧ (sy_fit v1) ∧ sp_9_figures ns [sy_kn v1] s (fun q t => f (q.toList ++ r) t)) := sx_call1
theorem cx_9_anyFits_113 {ns : Nat} {v1 v2 : sy_V} {r : List sy_V} {s : sy_S} {f : List sy_V → sy_S → Prop} : sy_call false (ct_9_anyFits ns 113) (v2 :: v1 :: r) s f = (sy_wd r ≤ 8 ∧ (sy_fit v2 ∧ sy_fit v1) ∧ sp_9_wrong ns [sy_kn v1, sy_kn v2] s (fun q t => f (q.toList ++ r) t)) := sx_call2
theorem mv_9_anyFits (ns : Nat) : sy_MV c_9_anyFits y_9_anyFits.cls (some .boolean) (M_9_anyFits ns) := ⟨tv_9_anyFits, ff_9_ok, ki_9_ok, kl_9_ok⟩
abbrev rm_9_anyFits : Room := { frames := 4, cells := 0, slots := 0, locals := 106 }
theorem co_9_anyFits (l : Launch) : sy_calls l rm_9_anyFits y_9_anyFits.cls c_9_anyFits 2 (fun ns => (M_9_anyFits ns).2.2.2.2.1) := by
  intro p e s m args below meth c rt wd ad ns A Q X hA q b n sp h
  replace h : ct_9_anyFits ns q = some (b, n, sp) := h
  unfold ct_9_anyFits at h
  split at h
  · cases h; exact sy_coV (ci := 9) X hA (mc_9_figures l) ⟨iw_9_figures.1, iw_9_figures.2.1, iw_9_figures.2.2, ⟨by decide, by decide⟩, rfl, rfl⟩ (sy_inx 922 (by decide +kernel) (by decide +kernel)) ii_9_figures.1 ii_9_figures.2 (rc_9_figures ns) ⟨_, rfl, rfl⟩
  · cases h; exact sy_coV (ci := 9) X hA (mc_9_wrong l) ⟨iw_9_wrong.1, iw_9_wrong.2.1, iw_9_wrong.2.2, ⟨by decide, by decide⟩, rfl, rfl⟩ (sy_inx 951 (by decide +kernel) (by decide +kernel)) ii_9_wrong.1 ii_9_wrong.2 (rc_9_wrong ns) ⟨_, rfl, rfl⟩
  · cases h
theorem rc_9_anyFits (ns : Nat) (as : List sy_V) (st : sy_S) (post : sy_R) (h : sp_9_anyFits ns as st post) : ∃ b as', as = .inr (.inr (some (some b))) :: as' ∧ sy_ob b = some 9 := sy_m0_r rfl as st post h
theorem mc_9_anyFits (l : Launch) : sy_MC l y_9_anyFits c_9_anyFits 2 (some .boolean) rm_9_anyFits sp_9_anyFits := by
  refine sy_meth M_9_anyFits (by decide +kernel) mv_9_anyFits (co_9_anyFits l) ?_
  intro ns as st post WA h hok hrg ⟨hgo0, hin, hwk⟩
  have hgo : ∀ (n pc : Nat) (L k : List sy_V) (st : sy_S), rn_9_anyFits ns (ct_9_anyFits ns) post WA n pc L k st → WA pc L k st := fun n pc L k st h => hgo0 [2] n pc L k st h
  replace h := sy_m0_e h hok
  obtain ⟨rfl, h⟩ := h
  refine ⟨Nat.le_of_ble_eq_true rfl, ?_⟩
  show WA 0 [.inr (.inr (some (some 24))), .inr (.inr none)] [] st
  obtain ⟨hm, h⟩ := h
  have ht := m_tot_r hm.2.2
  have key : ∀ (d f : Nat), f + d = (m_tot st).toNat → xe (m_ft ns st) f = false → WA 2 [.inr (.inr (some (some 24))), .inl (true, (f : Int))] [] st := by
    intro d
    induction d with
    | zero =>
      intro f hf hx
      refine hgo 100 _ _ _ _ ?_
      simp -implicitDefEqProofs only [↓rx_9_anyFits_0, ↓rx_9_anyFits_1, ↓rx_9_anyFits_2, ↓rx_9_anyFits_3, ↓rx_9_anyFits_4, ↓rx_9_anyFits_7, ↓rx_9_anyFits_10, ↓rx_9_anyFits_11, ↓rx_9_anyFits_12, ↓rx_9_anyFits_15, ↓rx_9_anyFits_18, ↓rx_9_anyFits_19, ↓rx_9_anyFits_20, ↓rx_9_anyFits_23, ↓rx_9_anyFits_26, ↓rx_9_anyFits_27, ↓cx_9_anyFits_89, ↓cx_9_anyFits_113, sp_9_figures, sp_9_wrong, ↓sx_s1, ↓sx_s2, ↓sx_s3, ↓sx_s4, ↓sx_s5, ↓sx_s6, ↓sx_m0, ↓sx_m1, ↓sx_m2, ↓sx_m3, ↓sx_m4, ↓sx_m5, ↓sx_m6, ↓sx_k0_, ↓sx_k1_, ↓sx_k2_, ↓sx_k3_, ↓sx_k4_, ↓sx_k5_, ↓sx_k6_, ↓sx_sLL, ↓sx_sAI, ↓sx_mLL, ↓sx_mIIL, ↓sx_mIILL, ↓sx_mIILLL, ↓sx_qS, ↓sx_qSI, ↓sx_qSIII, sx_rit, sx_rif, sx_rlt, sx_rlf, sx_b0, sx_b1, sx_o0, sx_o1i, sx_o1a, sx_o1l, sx_o2, sx_g0, sx_g1, sx_k1, sx_k2, sx_k3, sx_f1, sx_f2, sx_f3, sx_w0, sx_w1, sx_w2, sx_w3, sx_ts, sx_tn, sx_up, sx_nS1, sx_nS2, sx_nW1, sx_nW2, sx_SW, sx_WS, sy_nS_inj, sy_nW_inj, sx_ob0, sx_ob1, sx_ob2, sx_ob3, sx_ob4, sx_ob5, sx_ob6, sx_ob7, sx_ob8, sx_ob9, sx_ob10, sx_ob11, sx_ob12, sx_ob13, sx_ob14, sx_ob15, sx_ob16, sx_ob17, sx_ob18, sx_ob19, sx_ob20, sx_ob21, sx_ob22, sx_ob23, sx_ob24, sx_ob25, sx_ob26, sx_ob27, sx_ob28, sx_ob29, sx_ob30, sx_ob31, sx_ob32, sx_ob33, sx_ob34, sx_ob35, sx_ob36, sx_fv0_0, sx_fv0_1, sx_fv0_2, sx_fv0_3, sx_fv0_4, sx_fv0_5, sx_fv1_0, sx_fv1_1, sx_fv1_2, sx_fv3_0, sx_fv3_1, sx_fv3_2, sx_fv3_3, sx_fv3_4, sx_fv7_0, sx_fv7_1, sx_fv7_2, sx_fv7_3, sx_fv7_4, sx_fv7_5, sx_fv7_6, sx_fv7_7, sx_fv7_8, sx_fv7_9, sx_fv7_10, sx_fv9_0, sx_fv9_1, sx_fv9_2, sx_fv9_3, sx_fv11_0, sx_fv11_1, sx_fv11_2, sx_fv11_3, sx_fv11_4, sx_fv11_5, sx_fv11_6, sx_fv15_0, sx_fv15_1, sx_fv15_2, sx_fv15_3, sx_fv15_4, sx_fv15_5, sx_fv19_0, sx_fv19_1, sx_fv19_2, sx_fv19_3, sx_fv19_4, sx_fv19_5, sx_fv19_6, sx_fv24_0, sx_fv24_1, sx_fv24_2, sx_fv24_3, sx_fv24_4, sx_fv24_5, sx_fv24_6, sx_fv24_7, sx_fv24_8, sx_fv24_9, sx_fv24_10, sx_fv24_11, sx_fv24_12, sx_fv24_13, sx_fv24_14, sx_fv24_15, sx_fv24_16, sx_fv24_17, sx_fv24_18, sx_fvS_0, sx_fvS_1, sx_fvS_2, sx_fvS_3, sx_fvS_4, sx_fvS_5, sx_fvS_6, sx_fvS_7, sx_fvS_8, sx_fvS_9, sx_ar2, sx_ar4, sx_ar5, sx_ar6, sx_ar8, sx_ar10, sx_ar12, sx_ar13, sx_ar14, sx_ar16, sx_ar17, sx_ar18, sx_ar20, sx_ar21, sx_ar22, sx_ar23, sx_ar25, sx_ar26, sx_ar27, sx_ar28, sx_ar29, sx_ar30, sx_ar31, sx_ar32, sx_ar33, sx_ar34, sx_ar35, sx_ar36, sy_ob_S, sy_ob_W, sy_ar_W, sx_if0, sx_if1, sx_ie0, sx_em, Classical.not_not, sx_cle, sx_clt, sx_cge, sx_cgt, sx_ceq, Nat.reduceLT, Nat.reduceLeDiff, Nat.reduceAdd, Nat.reduceSub, Nat.reduceEqDiff, reduceIte, List.length_cons, List.length_nil, true_and, and_true, and_self, Bool.false_eq_true, true_implies, not_true_eq_false, not_false_eq_true, false_implies, implies_true, ne_eq, reduceCtorEq, Option.some.injEq, false_and, and_false, Int.reduceNeg, Int.reduceToNat, Int.reduceLT, Int.reduceLE, Int.reduceEq, Int.reduceAdd, Int.reduceSub, Int.reduceMul, or_false, false_or, or_true, true_or, forall_const, Int.toNat_natCast, Int.toNat_zero, Int.toNat_one, Nat.zero_add, or_self, Int.neg_eq_zero]
      refine ⟨hm, fun _ => ?_, fun q => by omega⟩
      rw [show f = (m_tot st).toNat by omega] at hx
      rwa [hx, if_neg (by decide)] at h
    | succ d ih =>
      intro f hf hx
      refine hgo 100 _ _ _ _ ?_
      simp -implicitDefEqProofs only [↓rx_9_anyFits_0, ↓rx_9_anyFits_1, ↓rx_9_anyFits_2, ↓rx_9_anyFits_3, ↓rx_9_anyFits_4, ↓rx_9_anyFits_7, ↓rx_9_anyFits_10, ↓rx_9_anyFits_11, ↓rx_9_anyFits_12, ↓rx_9_anyFits_15, ↓rx_9_anyFits_18, ↓rx_9_anyFits_19, ↓rx_9_anyFits_20, ↓rx_9_anyFits_23, ↓rx_9_anyFits_26, ↓rx_9_anyFits_27, ↓cx_9_anyFits_89, ↓cx_9_anyFits_113, sp_9_figures, sp_9_wrong, ↓sx_s1, ↓sx_s2, ↓sx_s3, ↓sx_s4, ↓sx_s5, ↓sx_s6, ↓sx_m0, ↓sx_m1, ↓sx_m2, ↓sx_m3, ↓sx_m4, ↓sx_m5, ↓sx_m6, ↓sx_k0_, ↓sx_k1_, ↓sx_k2_, ↓sx_k3_, ↓sx_k4_, ↓sx_k5_, ↓sx_k6_, ↓sx_sLL, ↓sx_sAI, ↓sx_mLL, ↓sx_mIIL, ↓sx_mIILL, ↓sx_mIILLL, ↓sx_qS, ↓sx_qSI, ↓sx_qSIII, sx_rit, sx_rif, sx_rlt, sx_rlf, sx_b0, sx_b1, sx_o0, sx_o1i, sx_o1a, sx_o1l, sx_o2, sx_g0, sx_g1, sx_k1, sx_k2, sx_k3, sx_f1, sx_f2, sx_f3, sx_w0, sx_w1, sx_w2, sx_w3, sx_ts, sx_tn, sx_up, sx_nS1, sx_nS2, sx_nW1, sx_nW2, sx_SW, sx_WS, sy_nS_inj, sy_nW_inj, sx_ob0, sx_ob1, sx_ob2, sx_ob3, sx_ob4, sx_ob5, sx_ob6, sx_ob7, sx_ob8, sx_ob9, sx_ob10, sx_ob11, sx_ob12, sx_ob13, sx_ob14, sx_ob15, sx_ob16, sx_ob17, sx_ob18, sx_ob19, sx_ob20, sx_ob21, sx_ob22, sx_ob23, sx_ob24, sx_ob25, sx_ob26, sx_ob27, sx_ob28, sx_ob29, sx_ob30, sx_ob31, sx_ob32, sx_ob33, sx_ob34, sx_ob35, sx_ob36, sx_fv0_0, sx_fv0_1, sx_fv0_2, sx_fv0_3, sx_fv0_4, sx_fv0_5, sx_fv1_0, sx_fv1_1, sx_fv1_2, sx_fv3_0, sx_fv3_1, sx_fv3_2, sx_fv3_3, sx_fv3_4, sx_fv7_0, sx_fv7_1, sx_fv7_2, sx_fv7_3, sx_fv7_4, sx_fv7_5, sx_fv7_6, sx_fv7_7, sx_fv7_8, sx_fv7_9, sx_fv7_10, sx_fv9_0, sx_fv9_1, sx_fv9_2, sx_fv9_3, sx_fv11_0, sx_fv11_1, sx_fv11_2, sx_fv11_3, sx_fv11_4, sx_fv11_5, sx_fv11_6, sx_fv15_0, sx_fv15_1, sx_fv15_2, sx_fv15_3, sx_fv15_4, sx_fv15_5, sx_fv19_0, sx_fv19_1, sx_fv19_2, sx_fv19_3, sx_fv19_4, sx_fv19_5, sx_fv19_6, sx_fv24_0, sx_fv24_1, sx_fv24_2, sx_fv24_3, sx_fv24_4, sx_fv24_5, sx_fv24_6, sx_fv24_7, sx_fv24_8, sx_fv24_9, sx_fv24_10, sx_fv24_11, sx_fv24_12, sx_fv24_13, sx_fv24_14, sx_fv24_15, sx_fv24_16, sx_fv24_17, sx_fv24_18, sx_fvS_0, sx_fvS_1, sx_fvS_2, sx_fvS_3, sx_fvS_4, sx_fvS_5, sx_fvS_6, sx_fvS_7, sx_fvS_8, sx_fvS_9, sx_ar2, sx_ar4, sx_ar5, sx_ar6, sx_ar8, sx_ar10, sx_ar12, sx_ar13, sx_ar14, sx_ar16, sx_ar17, sx_ar18, sx_ar20, sx_ar21, sx_ar22, sx_ar23, sx_ar25, sx_ar26, sx_ar27, sx_ar28, sx_ar29, sx_ar30, sx_ar31, sx_ar32, sx_ar33, sx_ar34, sx_ar35, sx_ar36, sy_ob_S, sy_ob_W, sy_ar_W, sx_if0, sx_if1, sx_ie0, sx_em, Classical.not_not, sx_cle, sx_clt, sx_cge, sx_cgt, sx_ceq, Nat.reduceLT, Nat.reduceLeDiff, Nat.reduceAdd, Nat.reduceSub, Nat.reduceEqDiff, reduceIte, List.length_cons, List.length_nil, true_and, and_true, and_self, Bool.false_eq_true, true_implies, not_true_eq_false, not_false_eq_true, false_implies, implies_true, ne_eq, reduceCtorEq, Option.some.injEq, false_and, and_false, Int.reduceNeg, Int.reduceToNat, Int.reduceLT, Int.reduceLE, Int.reduceEq, Int.reduceAdd, Int.reduceSub, Int.reduceMul, or_false, false_or, or_true, true_or, forall_const, Int.toNat_natCast, Int.toNat_zero, Int.toNat_one, Nat.zero_add, or_self, Int.neg_eq_zero]
      refine ⟨hm, fun q => by omega, fun _ => ⟨⟨hm, by omega, by omega⟩, fun c => ⟨by omega, ?_⟩, fun c => ?_⟩⟩
      · have e : ((f : Int) + 1) = ((f + 1 : Nat) : Int) := by omega
        rw [e]
        refine ih (f + 1) (by omega) ?_
        simp [xe, hx, m_ft, c]
      · have hy : xe (m_ft ns st) (f + 1) = true := by simp [xe, m_ft, c]
        have hz : ∀ e, xe (m_ft ns st) (f + 1 + e) = true := fun e => by
          induction e with
          | zero => exact hy
          | succ e ih2 => rw [← Nat.add_assoc]; simp only [xe, ih2, Bool.true_or]
        have := hz ((m_tot st).toNat - (f + 1))
        rw [show f + 1 + ((m_tot st).toNat - (f + 1)) = (m_tot st).toNat by omega] at this
        rwa [this, if_pos rfl] at h
  refine hgo 100 _ _ _ _ ?_
  simp -implicitDefEqProofs only [↓rx_9_anyFits_0, ↓rx_9_anyFits_1, ↓rx_9_anyFits_2, ↓rx_9_anyFits_3, ↓rx_9_anyFits_4, ↓rx_9_anyFits_7, ↓rx_9_anyFits_10, ↓rx_9_anyFits_11, ↓rx_9_anyFits_12, ↓rx_9_anyFits_15, ↓rx_9_anyFits_18, ↓rx_9_anyFits_19, ↓rx_9_anyFits_20, ↓rx_9_anyFits_23, ↓rx_9_anyFits_26, ↓rx_9_anyFits_27, ↓cx_9_anyFits_89, ↓cx_9_anyFits_113, sp_9_figures, sp_9_wrong, ↓sx_s1, ↓sx_s2, ↓sx_s3, ↓sx_s4, ↓sx_s5, ↓sx_s6, ↓sx_m0, ↓sx_m1, ↓sx_m2, ↓sx_m3, ↓sx_m4, ↓sx_m5, ↓sx_m6, ↓sx_k0_, ↓sx_k1_, ↓sx_k2_, ↓sx_k3_, ↓sx_k4_, ↓sx_k5_, ↓sx_k6_, ↓sx_sLL, ↓sx_sAI, ↓sx_mLL, ↓sx_mIIL, ↓sx_mIILL, ↓sx_mIILLL, ↓sx_qS, ↓sx_qSI, ↓sx_qSIII, sx_rit, sx_rif, sx_rlt, sx_rlf, sx_b0, sx_b1, sx_o0, sx_o1i, sx_o1a, sx_o1l, sx_o2, sx_g0, sx_g1, sx_k1, sx_k2, sx_k3, sx_f1, sx_f2, sx_f3, sx_w0, sx_w1, sx_w2, sx_w3, sx_ts, sx_tn, sx_up, sx_nS1, sx_nS2, sx_nW1, sx_nW2, sx_SW, sx_WS, sy_nS_inj, sy_nW_inj, sx_ob0, sx_ob1, sx_ob2, sx_ob3, sx_ob4, sx_ob5, sx_ob6, sx_ob7, sx_ob8, sx_ob9, sx_ob10, sx_ob11, sx_ob12, sx_ob13, sx_ob14, sx_ob15, sx_ob16, sx_ob17, sx_ob18, sx_ob19, sx_ob20, sx_ob21, sx_ob22, sx_ob23, sx_ob24, sx_ob25, sx_ob26, sx_ob27, sx_ob28, sx_ob29, sx_ob30, sx_ob31, sx_ob32, sx_ob33, sx_ob34, sx_ob35, sx_ob36, sx_fv0_0, sx_fv0_1, sx_fv0_2, sx_fv0_3, sx_fv0_4, sx_fv0_5, sx_fv1_0, sx_fv1_1, sx_fv1_2, sx_fv3_0, sx_fv3_1, sx_fv3_2, sx_fv3_3, sx_fv3_4, sx_fv7_0, sx_fv7_1, sx_fv7_2, sx_fv7_3, sx_fv7_4, sx_fv7_5, sx_fv7_6, sx_fv7_7, sx_fv7_8, sx_fv7_9, sx_fv7_10, sx_fv9_0, sx_fv9_1, sx_fv9_2, sx_fv9_3, sx_fv11_0, sx_fv11_1, sx_fv11_2, sx_fv11_3, sx_fv11_4, sx_fv11_5, sx_fv11_6, sx_fv15_0, sx_fv15_1, sx_fv15_2, sx_fv15_3, sx_fv15_4, sx_fv15_5, sx_fv19_0, sx_fv19_1, sx_fv19_2, sx_fv19_3, sx_fv19_4, sx_fv19_5, sx_fv19_6, sx_fv24_0, sx_fv24_1, sx_fv24_2, sx_fv24_3, sx_fv24_4, sx_fv24_5, sx_fv24_6, sx_fv24_7, sx_fv24_8, sx_fv24_9, sx_fv24_10, sx_fv24_11, sx_fv24_12, sx_fv24_13, sx_fv24_14, sx_fv24_15, sx_fv24_16, sx_fv24_17, sx_fv24_18, sx_fvS_0, sx_fvS_1, sx_fvS_2, sx_fvS_3, sx_fvS_4, sx_fvS_5, sx_fvS_6, sx_fvS_7, sx_fvS_8, sx_fvS_9, sx_ar2, sx_ar4, sx_ar5, sx_ar6, sx_ar8, sx_ar10, sx_ar12, sx_ar13, sx_ar14, sx_ar16, sx_ar17, sx_ar18, sx_ar20, sx_ar21, sx_ar22, sx_ar23, sx_ar25, sx_ar26, sx_ar27, sx_ar28, sx_ar29, sx_ar30, sx_ar31, sx_ar32, sx_ar33, sx_ar34, sx_ar35, sx_ar36, sy_ob_S, sy_ob_W, sy_ar_W, sx_if0, sx_if1, sx_ie0, sx_em, Classical.not_not, sx_cle, sx_clt, sx_cge, sx_cgt, sx_ceq, Nat.reduceLT, Nat.reduceLeDiff, Nat.reduceAdd, Nat.reduceSub, Nat.reduceEqDiff, reduceIte, List.length_cons, List.length_nil, true_and, and_true, and_self, Bool.false_eq_true, true_implies, not_true_eq_false, not_false_eq_true, false_implies, implies_true, ne_eq, reduceCtorEq, Option.some.injEq, false_and, and_false, Int.reduceNeg, Int.reduceToNat, Int.reduceLT, Int.reduceLE, Int.reduceEq, Int.reduceAdd, Int.reduceSub, Int.reduceMul, or_false, false_or, or_true, true_or, forall_const, Int.toNat_natCast, Int.toNat_zero, Int.toNat_one, Nat.zero_add, or_self, Int.neg_eq_zero]
  exact key (m_tot st).toNat 0 (by omega) rfl
