/-! THE MODEL: can the rest be done within a bound -/
/-- from i on, past all heights within the bound above a; d are left -/
def xa (H : Nat → Int) (bd a : Int) : Nat → Nat → Nat
  | 0, i => i
  | d + 1, i => if H i - a ≤ bd then xa H bd a d (i + 1) else i
theorem xa_ge (H : Nat → Int) (bd a : Int) : ∀ d i, i ≤ xa H bd a d i ∧ xa H bd a d i ≤ i + d
  | 0, i => ⟨Nat.le_refl i, Nat.le_refl i⟩
  | d + 1, i => by
    have := xa_ge H bd a d (i + 1)
    simp only [xa]
    split <;> omega
/-- the fewest sites that reach `to`, always the highest within the bound -/
def xgr (H : Nat → Int) (N : Nat) (to bd : Int) : Nat → Int → Nat → Option Nat
  | 0, _, _ => none
  | f + 1, a, i => if to - a ≤ bd then some 0 else if xa H bd a (N - i) i = i then none else (xgr H N to bd f (H (xa H bd a (N - i) i - 1)) (xa H bd a (N - i) i)).map (· + 1)
def xcn (o : Option Nat) (used left room : Int) : Int := match o with
  | none => 0
  | some u => if used + u ≤ left ∧ left ≤ room then 1 else 0
theorem xcn_map (o : Option Nat) (used left room : Int) : xcn (o.map (· + 1)) used left room = xcn o (used + 1) left room := by
  cases o with
  | none => rfl
  | some u =>
    show (if used + ((u + 1 : Nat) : Int) ≤ left ∧ left ≤ room then (1 : Int) else 0) = if used + 1 + (u : Int) ≤ left ∧ left ≤ room then 1 else 0
    have e : used + ((u + 1 : Nat) : Int) = used + 1 + (u : Int) := by omega
    rw [e]
def m_bH (st : sy_S) (j : Nat) : Int := st 25 (st 35 j).toNat
def m_bd (st : sy_S) (N : Nat) : Prop := N ≤ 16 ∧ (∀ j, j < N → 0 ≤ st 35 j ∧ st 35 j < 16) ∧ ∀ i, -2000 ≤ st 25 i ∧ st 25 i ≤ 2000
def sp_9_can (ns : Nat) : sy_Sp := sy_m6 24 fun hh k left many to bd st post => ((0 ≤ many ∧ m_bd st many.toNat) ∧ (-2000 ≤ hh ∧ hh ≤ 2000) ∧ (0 ≤ k ∧ k ≤ many) ∧ (0 ≤ left ∧ left ≤ 100) ∧ (-2000 ≤ to ∧ to ≤ 2000) ∧ (-10000 ≤ bd ∧ bd ≤ 10000)) ∧ post (some (.inl (true, xcn (xgr (m_bH st) many.toNat to bd (many.toNat + 1 - k.toNat) hh k.toNat) 0 left (many - k)))) st
def ct_9_can (ns q : Nat) : Option (Bool × Nat × sy_Sp) := match q with
  | _ => none
abbrev M_9_can (ns : Nat) : sy_M := Mk_9_can (ct_9_can ns)
theorem mv_9_can (ns : Nat) : sy_MV c_9_can y_9_can.cls (some .boolean) (M_9_can ns) := ⟨tv_9_can, ff_9_ok, ki_9_ok, kl_9_ok⟩
abbrev rm_9_can : Room := { frames := 0, cells := 0, slots := 0, locals := 0 }
theorem co_9_can (l : Launch) : sy_calls l rm_9_can y_9_can.cls c_9_can 11 (fun ns => (M_9_can ns).2.2.2.2.1) := by
  intro p e s m args below meth c rt wd ad ns A Q X hA q b n sp h
  replace h : ct_9_can ns q = some (b, n, sp) := h
  unfold ct_9_can at h
  cases h
theorem rc_9_can (ns : Nat) (as : List sy_V) (st : sy_S) (post : sy_R) (h : sp_9_can ns as st post) : ∃ b as', as = .inr (.inr (some (some b))) :: as' ∧ sy_ob b = some 9 := sy_m6_r rfl as st post h
theorem mc_9_can (l : Launch) : sy_MC l y_9_can c_9_can 11 (some .boolean) rm_9_can sp_9_can := by
  refine sy_meth M_9_can (by decide +kernel) mv_9_can (co_9_can l) ?_
  intro ns as st post WA h hok hrg ⟨hgo0, hin, hwk⟩
  have hgo : ∀ (n pc : Nat) (L k : List sy_V) (st : sy_S), rn_9_can ns (ct_9_can ns) post WA n pc L k st → WA pc L k st := fun n pc L k st h => hgo0 [9, 22] n pc L k st h
  replace h := sy_m6_e h hok
  obtain ⟨ht, k, left, many, to, bd, rfl, hht, hk, hleft, hmany, hto, hbd, h⟩ := h
  refine ⟨Nat.le_of_ble_eq_true rfl, ?_⟩
  show WA 0 [.inr (.inr (some (some 24))), .inl (true, ht), .inl (true, k), .inl (true, left), .inl (true, many), .inl (true, to), .inl (true, bd), .inr (.inr none), .inr (.inr none), .inr (.inr none), .inr (.inr none)] [] st
  obtain ⟨⟨⟨hM, hN, hB, hY⟩, hh0, hk0, hl0, ht0, hb0⟩, h⟩ := h
  have hH : ∀ j, -2000 ≤ m_bH st j ∧ m_bH st j ≤ 2000 := fun j => hY _
  have key : ∀ (f i u : Nat) (a : Int), i ≤ many.toNat → many.toNat + 1 - i ≤ f → u ≤ i → (-2000 ≤ a ∧ a ≤ 2000) → post (some (.inl (true, xcn (xgr (m_bH st) many.toNat to bd f a i) u left (many - k)))) st → WA 9 [.inr (.inr (some (some 24))), .inl (true, ht), .inl (true, k), .inl (true, left), .inl (true, many), .inl (true, to), .inl (true, bd), .inl (true, a), .inl (true, (u : Int)), .inl (true, (i : Int)), .inr (.inr none)] [] st := by
    intro f
    induction f with
    | zero =>
      intro i u a hi hf hu ha h
      omega
    | succ f ih =>
      intro i u a hi hf hu ha h
      simp only [xgr] at h
      have hend : ∀ j : Nat, j ≤ many.toNat → i ≤ j → xa (m_bH st) bd a (many.toNat - i) i = j → ¬ to - a ≤ bd → (¬(if j = i then -1 else (j : Int) - 1) = -1 →
          ((0 ≤ if j = i then -1 else (j : Int) - 1) ∧ (if j = i then -1 else (j : Int) - 1) < ((16 : Nat) : Int)) ∧
            (0 ≤ st 35 (if j = i then -1 else (j : Int) - 1).toNat ∧ st 35 (if j = i then -1 else (j : Int) - 1).toNat < ((16 : Nat) : Int)) ∧
              (-2147483648 ≤ (u : Int) + 1 ∧ (u : Int) + 1 < 2147483648) ∧
                WA 9 [.inr (.inr (some (some 24))), .inl (true, ht), .inl (true, k), .inl (true, left), .inl (true, many), .inl (true, to), .inl (true, bd), .inl (true, st 25 (st 35 (if j = i then -1 else (j : Int) - 1).toNat).toNat), .inl (true, (u : Int) + 1), .inl (true, (j : Int)), .inl (true, if j = i then -1 else (j : Int) - 1)] [] st) ∧
        ((if j = i then -1 else (j : Int) - 1) = -1 → post (some (Sum.inl (true, 0))) st) := by
        intro j hj hij hx hc
        rw [if_neg hc, hx] at h
        by_cases e : j = i
        · rw [if_pos e] at h
          simp only [if_pos e]
          exact ⟨fun c => absurd trivial c, fun _ => h⟩
        · rw [if_neg e, xcn_map] at h
          simp only [if_neg e]
          have e1 : ((j : Int) - 1).toNat = j - 1 := by omega
          have hb := hB (j - 1) (by omega)
          rw [e1]
          refine ⟨fun c => ⟨by omega, by omega, by omega, ?_⟩, fun c => by omega⟩
          have e2 : (u : Int) + 1 = ((u + 1 : Nat) : Int) := by omega
          rw [e2] at h ⊢
          exact hwk _ _ _ _ _ (by exact ⟨Or.inl rfl, Or.inl rfl, Or.inl rfl, Or.inl rfl, Or.inl rfl, Or.inl rfl, Or.inl rfl, Or.inl rfl, Or.inl rfl, Or.inl rfl, Or.inr rfl, trivial⟩) (ih j (u + 1) (m_bH st (j - 1)) hj (by omega) (by omega) (hH _) h)
      have key2 : ∀ (d j : Nat), j + d = many.toNat → i ≤ j → xa (m_bH st) bd a (many.toNat - i) i = xa (m_bH st) bd a d j → ¬ to - a ≤ bd → WA 22 [.inr (.inr (some (some 24))), .inl (true, ht), .inl (true, k), .inl (true, left), .inl (true, many), .inl (true, to), .inl (true, bd), .inl (true, a), .inl (true, (u : Int)), .inl (true, (j : Int)), .inl (true, if j = i then -1 else (j : Int) - 1)] [] st := by
        intro d
        induction d with
        | zero =>
          intro j hj hij hx hc
          refine hgo 100 _ _ _ _ ?_
          simp -implicitDefEqProofs only [↓rx_9_can_0, ↓rx_9_can_1, ↓rx_9_can_3, ↓rx_9_can_4, ↓rx_9_can_6, ↓rx_9_can_7, ↓rx_9_can_9, ↓rx_9_can_11, ↓rx_9_can_13, ↓rx_9_can_14, ↓rx_9_can_16, ↓rx_9_can_19, ↓rx_9_can_20, ↓rx_9_can_22, ↓rx_9_can_24, ↓rx_9_can_26, ↓rx_9_can_29, ↓rx_9_can_30, ↓rx_9_can_33, ↓rx_9_can_34, ↓rx_9_can_37, ↓rx_9_can_39, ↓rx_9_can_40, ↓rx_9_can_41, ↓rx_9_can_43, ↓rx_9_can_44, ↓rx_9_can_46, ↓rx_9_can_49, ↓rx_9_can_51, ↓rx_9_can_53, ↓rx_9_can_56, ↓rx_9_can_59, ↓rx_9_can_61, ↓rx_9_can_62, ↓rx_9_can_65, ↓rx_9_can_66, ↓rx_9_can_67, ↓rx_9_can_68, ↓rx_9_can_71, ↓rx_9_can_72, ↓rx_9_can_75, ↓rx_9_can_77, ↓rx_9_can_78, ↓rx_9_can_79, ↓rx_9_can_81, ↓rx_9_can_84, ↓rx_9_can_87, ↓rx_9_can_89, ↓rx_9_can_90, ↓rx_9_can_93, ↓rx_9_can_95, ↓rx_9_can_96, ↓rx_9_can_97, ↓rx_9_can_98, ↓rx_9_can_101, ↓rx_9_can_102, ↓rx_9_can_105, ↓rx_9_can_106, ↓sx_s1, ↓sx_s2, ↓sx_s3, ↓sx_s4, ↓sx_s5, ↓sx_s6, ↓sx_m0, ↓sx_m1, ↓sx_m2, ↓sx_m3, ↓sx_m4, ↓sx_m5, ↓sx_m6, ↓sx_k0_, ↓sx_k1_, ↓sx_k2_, ↓sx_k3_, ↓sx_k4_, ↓sx_k5_, ↓sx_k6_, ↓sx_sLL, ↓sx_sAI, ↓sx_mLL, ↓sx_mIIL, ↓sx_mIILL, ↓sx_mIILLL, ↓sx_qS, ↓sx_qSI, ↓sx_qSIII, sx_rit, sx_rif, sx_rlt, sx_rlf, sx_b0, sx_b1, sx_o0, sx_o1i, sx_o1a, sx_o1l, sx_o2, sx_g0, sx_g1, sx_k1, sx_k2, sx_k3, sx_f1, sx_f2, sx_f3, sx_w0, sx_w1, sx_w2, sx_w3, sx_ts, sx_tn, sx_up, sx_nS1, sx_nS2, sx_nW1, sx_nW2, sx_SW, sx_WS, sy_nS_inj, sy_nW_inj, sx_ob0, sx_ob1, sx_ob2, sx_ob3, sx_ob4, sx_ob5, sx_ob6, sx_ob7, sx_ob8, sx_ob9, sx_ob10, sx_ob11, sx_ob12, sx_ob13, sx_ob14, sx_ob15, sx_ob16, sx_ob17, sx_ob18, sx_ob19, sx_ob20, sx_ob21, sx_ob22, sx_ob23, sx_ob24, sx_ob25, sx_ob26, sx_ob27, sx_ob28, sx_ob29, sx_ob30, sx_ob31, sx_ob32, sx_ob33, sx_ob34, sx_ob35, sx_ob36, sx_fv0_0, sx_fv0_1, sx_fv0_2, sx_fv0_3, sx_fv0_4, sx_fv0_5, sx_fv1_0, sx_fv1_1, sx_fv1_2, sx_fv3_0, sx_fv3_1, sx_fv3_2, sx_fv3_3, sx_fv3_4, sx_fv7_0, sx_fv7_1, sx_fv7_2, sx_fv7_3, sx_fv7_4, sx_fv7_5, sx_fv7_6, sx_fv7_7, sx_fv7_8, sx_fv7_9, sx_fv7_10, sx_fv9_0, sx_fv9_1, sx_fv9_2, sx_fv9_3, sx_fv11_0, sx_fv11_1, sx_fv11_2, sx_fv11_3, sx_fv11_4, sx_fv11_5, sx_fv11_6, sx_fv15_0, sx_fv15_1, sx_fv15_2, sx_fv15_3, sx_fv15_4, sx_fv15_5, sx_fv19_0, sx_fv19_1, sx_fv19_2, sx_fv19_3, sx_fv19_4, sx_fv19_5, sx_fv19_6, sx_fv24_0, sx_fv24_1, sx_fv24_2, sx_fv24_3, sx_fv24_4, sx_fv24_5, sx_fv24_6, sx_fv24_7, sx_fv24_8, sx_fv24_9, sx_fv24_10, sx_fv24_11, sx_fv24_12, sx_fv24_13, sx_fv24_14, sx_fv24_15, sx_fv24_16, sx_fv24_17, sx_fv24_18, sx_fvS_0, sx_fvS_1, sx_fvS_2, sx_fvS_3, sx_fvS_4, sx_fvS_5, sx_fvS_6, sx_fvS_7, sx_fvS_8, sx_fvS_9, sx_ar2, sx_ar4, sx_ar5, sx_ar6, sx_ar8, sx_ar10, sx_ar12, sx_ar13, sx_ar14, sx_ar16, sx_ar17, sx_ar18, sx_ar20, sx_ar21, sx_ar22, sx_ar23, sx_ar25, sx_ar26, sx_ar27, sx_ar28, sx_ar29, sx_ar30, sx_ar31, sx_ar32, sx_ar33, sx_ar34, sx_ar35, sx_ar36, sy_ob_S, sy_ob_W, sy_ar_W, sx_if0, sx_if1, sx_ie0, sx_em, Classical.not_not, sx_cle, sx_clt, sx_cge, sx_cgt, sx_ceq, Nat.reduceLT, Nat.reduceLeDiff, Nat.reduceAdd, Nat.reduceSub, Nat.reduceEqDiff, reduceIte, List.length_cons, List.length_nil, true_and, and_true, and_self, Bool.false_eq_true, true_implies, not_true_eq_false, not_false_eq_true, false_implies, implies_true, ne_eq, reduceCtorEq, Option.some.injEq, false_and, and_false, Int.reduceNeg, Int.reduceToNat, Int.reduceLT, Int.reduceLE, Int.reduceEq, Int.reduceAdd, Int.reduceSub, Int.reduceMul, or_false, false_or, or_true, true_or, forall_const, Int.toNat_natCast, Int.toNat_zero, Int.toNat_one, Nat.zero_add, or_self, Int.neg_eq_zero]
          exact ⟨fun _ => hend j (by omega) hij hx hc, fun c => by omega⟩
        | succ d ih2 =>
          intro j hj hij hx hc
          refine hgo 100 _ _ _ _ ?_
          simp -implicitDefEqProofs only [↓rx_9_can_0, ↓rx_9_can_1, ↓rx_9_can_3, ↓rx_9_can_4, ↓rx_9_can_6, ↓rx_9_can_7, ↓rx_9_can_9, ↓rx_9_can_11, ↓rx_9_can_13, ↓rx_9_can_14, ↓rx_9_can_16, ↓rx_9_can_19, ↓rx_9_can_20, ↓rx_9_can_22, ↓rx_9_can_24, ↓rx_9_can_26, ↓rx_9_can_29, ↓rx_9_can_30, ↓rx_9_can_33, ↓rx_9_can_34, ↓rx_9_can_37, ↓rx_9_can_39, ↓rx_9_can_40, ↓rx_9_can_41, ↓rx_9_can_43, ↓rx_9_can_44, ↓rx_9_can_46, ↓rx_9_can_49, ↓rx_9_can_51, ↓rx_9_can_53, ↓rx_9_can_56, ↓rx_9_can_59, ↓rx_9_can_61, ↓rx_9_can_62, ↓rx_9_can_65, ↓rx_9_can_66, ↓rx_9_can_67, ↓rx_9_can_68, ↓rx_9_can_71, ↓rx_9_can_72, ↓rx_9_can_75, ↓rx_9_can_77, ↓rx_9_can_78, ↓rx_9_can_79, ↓rx_9_can_81, ↓rx_9_can_84, ↓rx_9_can_87, ↓rx_9_can_89, ↓rx_9_can_90, ↓rx_9_can_93, ↓rx_9_can_95, ↓rx_9_can_96, ↓rx_9_can_97, ↓rx_9_can_98, ↓rx_9_can_101, ↓rx_9_can_102, ↓rx_9_can_105, ↓rx_9_can_106, ↓sx_s1, ↓sx_s2, ↓sx_s3, ↓sx_s4, ↓sx_s5, ↓sx_s6, ↓sx_m0, ↓sx_m1, ↓sx_m2, ↓sx_m3, ↓sx_m4, ↓sx_m5, ↓sx_m6, ↓sx_k0_, ↓sx_k1_, ↓sx_k2_, ↓sx_k3_, ↓sx_k4_, ↓sx_k5_, ↓sx_k6_, ↓sx_sLL, ↓sx_sAI, ↓sx_mLL, ↓sx_mIIL, ↓sx_mIILL, ↓sx_mIILLL, ↓sx_qS, ↓sx_qSI, ↓sx_qSIII, sx_rit, sx_rif, sx_rlt, sx_rlf, sx_b0, sx_b1, sx_o0, sx_o1i, sx_o1a, sx_o1l, sx_o2, sx_g0, sx_g1, sx_k1, sx_k2, sx_k3, sx_f1, sx_f2, sx_f3, sx_w0, sx_w1, sx_w2, sx_w3, sx_ts, sx_tn, sx_up, sx_nS1, sx_nS2, sx_nW1, sx_nW2, sx_SW, sx_WS, sy_nS_inj, sy_nW_inj, sx_ob0, sx_ob1, sx_ob2, sx_ob3, sx_ob4, sx_ob5, sx_ob6, sx_ob7, sx_ob8, sx_ob9, sx_ob10, sx_ob11, sx_ob12, sx_ob13, sx_ob14, sx_ob15, sx_ob16, sx_ob17, sx_ob18, sx_ob19, sx_ob20, sx_ob21, sx_ob22, sx_ob23, sx_ob24, sx_ob25, sx_ob26, sx_ob27, sx_ob28, sx_ob29, sx_ob30, sx_ob31, sx_ob32, sx_ob33, sx_ob34, sx_ob35, sx_ob36, sx_fv0_0, sx_fv0_1, sx_fv0_2, sx_fv0_3, sx_fv0_4, sx_fv0_5, sx_fv1_0, sx_fv1_1, sx_fv1_2, sx_fv3_0, sx_fv3_1, sx_fv3_2, sx_fv3_3, sx_fv3_4, sx_fv7_0, sx_fv7_1, sx_fv7_2, sx_fv7_3, sx_fv7_4, sx_fv7_5, sx_fv7_6, sx_fv7_7, sx_fv7_8, sx_fv7_9, sx_fv7_10, sx_fv9_0, sx_fv9_1, sx_fv9_2, sx_fv9_3, sx_fv11_0, sx_fv11_1, sx_fv11_2, sx_fv11_3, sx_fv11_4, sx_fv11_5, sx_fv11_6, sx_fv15_0, sx_fv15_1, sx_fv15_2, sx_fv15_3, sx_fv15_4, sx_fv15_5, sx_fv19_0, sx_fv19_1, sx_fv19_2, sx_fv19_3, sx_fv19_4, sx_fv19_5, sx_fv19_6, sx_fv24_0, sx_fv24_1, sx_fv24_2, sx_fv24_3, sx_fv24_4, sx_fv24_5, sx_fv24_6, sx_fv24_7, sx_fv24_8, sx_fv24_9, sx_fv24_10, sx_fv24_11, sx_fv24_12, sx_fv24_13, sx_fv24_14, sx_fv24_15, sx_fv24_16, sx_fv24_17, sx_fv24_18, sx_fvS_0, sx_fvS_1, sx_fvS_2, sx_fvS_3, sx_fvS_4, sx_fvS_5, sx_fvS_6, sx_fvS_7, sx_fvS_8, sx_fvS_9, sx_ar2, sx_ar4, sx_ar5, sx_ar6, sx_ar8, sx_ar10, sx_ar12, sx_ar13, sx_ar14, sx_ar16, sx_ar17, sx_ar18, sx_ar20, sx_ar21, sx_ar22, sx_ar23, sx_ar25, sx_ar26, sx_ar27, sx_ar28, sx_ar29, sx_ar30, sx_ar31, sx_ar32, sx_ar33, sx_ar34, sx_ar35, sx_ar36, sy_ob_S, sy_ob_W, sy_ar_W, sx_if0, sx_if1, sx_ie0, sx_em, Classical.not_not, sx_cle, sx_clt, sx_cge, sx_cgt, sx_ceq, Nat.reduceLT, Nat.reduceLeDiff, Nat.reduceAdd, Nat.reduceSub, Nat.reduceEqDiff, reduceIte, List.length_cons, List.length_nil, true_and, and_true, and_self, Bool.false_eq_true, true_implies, not_true_eq_false, not_false_eq_true, false_implies, implies_true, ne_eq, reduceCtorEq, Option.some.injEq, false_and, and_false, Int.reduceNeg, Int.reduceToNat, Int.reduceLT, Int.reduceLE, Int.reduceEq, Int.reduceAdd, Int.reduceSub, Int.reduceMul, or_false, false_or, or_true, true_or, forall_const, Int.toNat_natCast, Int.toNat_zero, Int.toNat_one, Nat.zero_add, or_self, Int.neg_eq_zero]
          have hb := hB j (by omega)
          have hHj := hH j
          simp only [xa] at hx
          unfold m_bH at hHj
          refine ⟨fun c => by omega, fun _ => ⟨by omega, by omega, by omega, fun c => ?_, fun c => ⟨by omega, ?_⟩⟩⟩
          · rw [if_neg (show ¬ m_bH st j - a ≤ bd by unfold m_bH; omega)] at hx
            exact hend j (by omega) hij hx hc
          · rw [if_pos (show m_bH st j - a ≤ bd by unfold m_bH; omega)] at hx
            have i2 := ih2 (j + 1) (by omega) (by omega) hx hc
            rw [if_neg (by omega)] at i2
            have e1 : ((j + 1 : Nat) : Int) - 1 = (j : Int) := by omega
            have e2 : ((j + 1 : Nat) : Int) = (j : Int) + 1 := by omega
            rw [e1, e2] at i2
            exact i2
      refine hgo 100 _ _ _ _ ?_
      simp -implicitDefEqProofs only [↓rx_9_can_0, ↓rx_9_can_1, ↓rx_9_can_3, ↓rx_9_can_4, ↓rx_9_can_6, ↓rx_9_can_7, ↓rx_9_can_9, ↓rx_9_can_11, ↓rx_9_can_13, ↓rx_9_can_14, ↓rx_9_can_16, ↓rx_9_can_19, ↓rx_9_can_20, ↓rx_9_can_22, ↓rx_9_can_24, ↓rx_9_can_26, ↓rx_9_can_29, ↓rx_9_can_30, ↓rx_9_can_33, ↓rx_9_can_34, ↓rx_9_can_37, ↓rx_9_can_39, ↓rx_9_can_40, ↓rx_9_can_41, ↓rx_9_can_43, ↓rx_9_can_44, ↓rx_9_can_46, ↓rx_9_can_49, ↓rx_9_can_51, ↓rx_9_can_53, ↓rx_9_can_56, ↓rx_9_can_59, ↓rx_9_can_61, ↓rx_9_can_62, ↓rx_9_can_65, ↓rx_9_can_66, ↓rx_9_can_67, ↓rx_9_can_68, ↓rx_9_can_71, ↓rx_9_can_72, ↓rx_9_can_75, ↓rx_9_can_77, ↓rx_9_can_78, ↓rx_9_can_79, ↓rx_9_can_81, ↓rx_9_can_84, ↓rx_9_can_87, ↓rx_9_can_89, ↓rx_9_can_90, ↓rx_9_can_93, ↓rx_9_can_95, ↓rx_9_can_96, ↓rx_9_can_97, ↓rx_9_can_98, ↓rx_9_can_101, ↓rx_9_can_102, ↓rx_9_can_105, ↓rx_9_can_106, ↓sx_s1, ↓sx_s2, ↓sx_s3, ↓sx_s4, ↓sx_s5, ↓sx_s6, ↓sx_m0, ↓sx_m1, ↓sx_m2, ↓sx_m3, ↓sx_m4, ↓sx_m5, ↓sx_m6, ↓sx_k0_, ↓sx_k1_, ↓sx_k2_, ↓sx_k3_, ↓sx_k4_, ↓sx_k5_, ↓sx_k6_, ↓sx_sLL, ↓sx_sAI, ↓sx_mLL, ↓sx_mIIL, ↓sx_mIILL, ↓sx_mIILLL, ↓sx_qS, ↓sx_qSI, ↓sx_qSIII, sx_rit, sx_rif, sx_rlt, sx_rlf, sx_b0, sx_b1, sx_o0, sx_o1i, sx_o1a, sx_o1l, sx_o2, sx_g0, sx_g1, sx_k1, sx_k2, sx_k3, sx_f1, sx_f2, sx_f3, sx_w0, sx_w1, sx_w2, sx_w3, sx_ts, sx_tn, sx_up, sx_nS1, sx_nS2, sx_nW1, sx_nW2, sx_SW, sx_WS, sy_nS_inj, sy_nW_inj, sx_ob0, sx_ob1, sx_ob2, sx_ob3, sx_ob4, sx_ob5, sx_ob6, sx_ob7, sx_ob8, sx_ob9, sx_ob10, sx_ob11, sx_ob12, sx_ob13, sx_ob14, sx_ob15, sx_ob16, sx_ob17, sx_ob18, sx_ob19, sx_ob20, sx_ob21, sx_ob22, sx_ob23, sx_ob24, sx_ob25, sx_ob26, sx_ob27, sx_ob28, sx_ob29, sx_ob30, sx_ob31, sx_ob32, sx_ob33, sx_ob34, sx_ob35, sx_ob36, sx_fv0_0, sx_fv0_1, sx_fv0_2, sx_fv0_3, sx_fv0_4, sx_fv0_5, sx_fv1_0, sx_fv1_1, sx_fv1_2, sx_fv3_0, sx_fv3_1, sx_fv3_2, sx_fv3_3, sx_fv3_4, sx_fv7_0, sx_fv7_1, sx_fv7_2, sx_fv7_3, sx_fv7_4, sx_fv7_5, sx_fv7_6, sx_fv7_7, sx_fv7_8, sx_fv7_9, sx_fv7_10, sx_fv9_0, sx_fv9_1, sx_fv9_2, sx_fv9_3, sx_fv11_0, sx_fv11_1, sx_fv11_2, sx_fv11_3, sx_fv11_4, sx_fv11_5, sx_fv11_6, sx_fv15_0, sx_fv15_1, sx_fv15_2, sx_fv15_3, sx_fv15_4, sx_fv15_5, sx_fv19_0, sx_fv19_1, sx_fv19_2, sx_fv19_3, sx_fv19_4, sx_fv19_5, sx_fv19_6, sx_fv24_0, sx_fv24_1, sx_fv24_2, sx_fv24_3, sx_fv24_4, sx_fv24_5, sx_fv24_6, sx_fv24_7, sx_fv24_8, sx_fv24_9, sx_fv24_10, sx_fv24_11, sx_fv24_12, sx_fv24_13, sx_fv24_14, sx_fv24_15, sx_fv24_16, sx_fv24_17, sx_fv24_18, sx_fvS_0, sx_fvS_1, sx_fvS_2, sx_fvS_3, sx_fvS_4, sx_fvS_5, sx_fvS_6, sx_fvS_7, sx_fvS_8, sx_fvS_9, sx_ar2, sx_ar4, sx_ar5, sx_ar6, sx_ar8, sx_ar10, sx_ar12, sx_ar13, sx_ar14, sx_ar16, sx_ar17, sx_ar18, sx_ar20, sx_ar21, sx_ar22, sx_ar23, sx_ar25, sx_ar26, sx_ar27, sx_ar28, sx_ar29, sx_ar30, sx_ar31, sx_ar32, sx_ar33, sx_ar34, sx_ar35, sx_ar36, sy_ob_S, sy_ob_W, sy_ar_W, sx_if0, sx_if1, sx_ie0, sx_em, Classical.not_not, sx_cle, sx_clt, sx_cge, sx_cgt, sx_ceq, Nat.reduceLT, Nat.reduceLeDiff, Nat.reduceAdd, Nat.reduceSub, Nat.reduceEqDiff, reduceIte, List.length_cons, List.length_nil, true_and, and_true, and_self, Bool.false_eq_true, true_implies, not_true_eq_false, not_false_eq_true, false_implies, implies_true, ne_eq, reduceCtorEq, Option.some.injEq, false_and, and_false, Int.reduceNeg, Int.reduceToNat, Int.reduceLT, Int.reduceLE, Int.reduceEq, Int.reduceAdd, Int.reduceSub, Int.reduceMul, or_false, false_or, or_true, true_or, forall_const, Int.toNat_natCast, Int.toNat_zero, Int.toNat_one, Nat.zero_add, or_self, Int.neg_eq_zero]
      refine ⟨by omega, fun c => ?_, fun c => ?_⟩
      · rw [if_pos c] at h
        have h' : post (some (.inl (true, if (u : Int) + ((0 : Nat) : Int) ≤ left ∧ left ≤ many - k then 1 else 0))) st := h
        refine ⟨fun c2 => ?_, fun c2 => ⟨by omega, fun c3 => ?_, fun c3 => ?_⟩⟩
        · rw [if_neg (by omega)] at h'; exact h'
        · rw [if_neg (by omega)] at h'; exact h'
        · rw [if_pos (by omega)] at h'; exact h'
      · have i2 := key2 (many.toNat - i) i (by omega) (Nat.le_refl i) rfl c
        rw [if_pos rfl] at i2
        exact i2
  refine hgo 100 _ _ _ _ ?_
  simp -implicitDefEqProofs only [↓rx_9_can_0, ↓rx_9_can_1, ↓rx_9_can_3, ↓rx_9_can_4, ↓rx_9_can_6, ↓rx_9_can_7, ↓rx_9_can_9, ↓rx_9_can_11, ↓rx_9_can_13, ↓rx_9_can_14, ↓rx_9_can_16, ↓rx_9_can_19, ↓rx_9_can_20, ↓rx_9_can_22, ↓rx_9_can_24, ↓rx_9_can_26, ↓rx_9_can_29, ↓rx_9_can_30, ↓rx_9_can_33, ↓rx_9_can_34, ↓rx_9_can_37, ↓rx_9_can_39, ↓rx_9_can_40, ↓rx_9_can_41, ↓rx_9_can_43, ↓rx_9_can_44, ↓rx_9_can_46, ↓rx_9_can_49, ↓rx_9_can_51, ↓rx_9_can_53, ↓rx_9_can_56, ↓rx_9_can_59, ↓rx_9_can_61, ↓rx_9_can_62, ↓rx_9_can_65, ↓rx_9_can_66, ↓rx_9_can_67, ↓rx_9_can_68, ↓rx_9_can_71, ↓rx_9_can_72, ↓rx_9_can_75, ↓rx_9_can_77, ↓rx_9_can_78, ↓rx_9_can_79, ↓rx_9_can_81, ↓rx_9_can_84, ↓rx_9_can_87, ↓rx_9_can_89, ↓rx_9_can_90, ↓rx_9_can_93, ↓rx_9_can_95, ↓rx_9_can_96, ↓rx_9_can_97, ↓rx_9_can_98, ↓rx_9_can_101, ↓rx_9_can_102, ↓rx_9_can_105, ↓rx_9_can_106, ↓sx_s1, ↓sx_s2, ↓sx_s3, ↓sx_s4, ↓sx_s5, ↓sx_s6, ↓sx_m0, ↓sx_m1, ↓sx_m2, ↓sx_m3, ↓sx_m4, ↓sx_m5, ↓sx_m6, ↓sx_k0_, ↓sx_k1_, ↓sx_k2_, ↓sx_k3_, ↓sx_k4_, ↓sx_k5_, ↓sx_k6_, ↓sx_sLL, ↓sx_sAI, ↓sx_mLL, ↓sx_mIIL, ↓sx_mIILL, ↓sx_mIILLL, ↓sx_qS, ↓sx_qSI, ↓sx_qSIII, sx_rit, sx_rif, sx_rlt, sx_rlf, sx_b0, sx_b1, sx_o0, sx_o1i, sx_o1a, sx_o1l, sx_o2, sx_g0, sx_g1, sx_k1, sx_k2, sx_k3, sx_f1, sx_f2, sx_f3, sx_w0, sx_w1, sx_w2, sx_w3, sx_ts, sx_tn, sx_up, sx_nS1, sx_nS2, sx_nW1, sx_nW2, sx_SW, sx_WS, sy_nS_inj, sy_nW_inj, sx_ob0, sx_ob1, sx_ob2, sx_ob3, sx_ob4, sx_ob5, sx_ob6, sx_ob7, sx_ob8, sx_ob9, sx_ob10, sx_ob11, sx_ob12, sx_ob13, sx_ob14, sx_ob15, sx_ob16, sx_ob17, sx_ob18, sx_ob19, sx_ob20, sx_ob21, sx_ob22, sx_ob23, sx_ob24, sx_ob25, sx_ob26, sx_ob27, sx_ob28, sx_ob29, sx_ob30, sx_ob31, sx_ob32, sx_ob33, sx_ob34, sx_ob35, sx_ob36, sx_fv0_0, sx_fv0_1, sx_fv0_2, sx_fv0_3, sx_fv0_4, sx_fv0_5, sx_fv1_0, sx_fv1_1, sx_fv1_2, sx_fv3_0, sx_fv3_1, sx_fv3_2, sx_fv3_3, sx_fv3_4, sx_fv7_0, sx_fv7_1, sx_fv7_2, sx_fv7_3, sx_fv7_4, sx_fv7_5, sx_fv7_6, sx_fv7_7, sx_fv7_8, sx_fv7_9, sx_fv7_10, sx_fv9_0, sx_fv9_1, sx_fv9_2, sx_fv9_3, sx_fv11_0, sx_fv11_1, sx_fv11_2, sx_fv11_3, sx_fv11_4, sx_fv11_5, sx_fv11_6, sx_fv15_0, sx_fv15_1, sx_fv15_2, sx_fv15_3, sx_fv15_4, sx_fv15_5, sx_fv19_0, sx_fv19_1, sx_fv19_2, sx_fv19_3, sx_fv19_4, sx_fv19_5, sx_fv19_6, sx_fv24_0, sx_fv24_1, sx_fv24_2, sx_fv24_3, sx_fv24_4, sx_fv24_5, sx_fv24_6, sx_fv24_7, sx_fv24_8, sx_fv24_9, sx_fv24_10, sx_fv24_11, sx_fv24_12, sx_fv24_13, sx_fv24_14, sx_fv24_15, sx_fv24_16, sx_fv24_17, sx_fv24_18, sx_fvS_0, sx_fvS_1, sx_fvS_2, sx_fvS_3, sx_fvS_4, sx_fvS_5, sx_fvS_6, sx_fvS_7, sx_fvS_8, sx_fvS_9, sx_ar2, sx_ar4, sx_ar5, sx_ar6, sx_ar8, sx_ar10, sx_ar12, sx_ar13, sx_ar14, sx_ar16, sx_ar17, sx_ar18, sx_ar20, sx_ar21, sx_ar22, sx_ar23, sx_ar25, sx_ar26, sx_ar27, sx_ar28, sx_ar29, sx_ar30, sx_ar31, sx_ar32, sx_ar33, sx_ar34, sx_ar35, sx_ar36, sy_ob_S, sy_ob_W, sy_ar_W, sx_if0, sx_if1, sx_ie0, sx_em, Classical.not_not, sx_cle, sx_clt, sx_cge, sx_cgt, sx_ceq, Nat.reduceLT, Nat.reduceLeDiff, Nat.reduceAdd, Nat.reduceSub, Nat.reduceEqDiff, reduceIte, List.length_cons, List.length_nil, true_and, and_true, and_self, Bool.false_eq_true, true_implies, not_true_eq_false, not_false_eq_true, false_implies, implies_true, ne_eq, reduceCtorEq, Option.some.injEq, false_and, and_false, Int.reduceNeg, Int.reduceToNat, Int.reduceLT, Int.reduceLE, Int.reduceEq, Int.reduceAdd, Int.reduceSub, Int.reduceMul, or_false, false_or, or_true, true_or, forall_const, Int.toNat_natCast, Int.toNat_zero, Int.toNat_one, Nat.zero_add, or_self, Int.neg_eq_zero]
  have k0 := key (many.toNat + 1 - k.toNat) k.toNat 0 ht (by omega) (by omega) (by omega) hh0 h
  rw [Int.toNat_of_nonneg hk0.1] at k0
  exact k0
