/-! THE MODEL: what is asked of the hull -/
theorem m_hw_c {ns : Nat} {st s : sy_S} {m : Nat} (hr : m_rng st) (hns : ns ≤ 16) (h : m_hw ns st s m) {k : Nat} (hk : k < m) : ∃ a : Nat, s 34 k = a ∧ a < 32 ∧ s 32 a = (xh_c (m_L ns st) k).1 ∧ s 33 a = (xh_c (m_L ns st) k).2 ∧ xh_in (xh_c (m_L ns st) k) ∧ m_P s a = xh_c (m_L ns st) k := by
  have h1 := h.2.2 k hk
  have hn := m_ga_n h.1
  have hl := m_L_len ns st
  have e := Int.toNat_of_nonneg h1.1.1
  refine ⟨(s 34 k).toNat, e.symm, by omega, ?_, ?_, ?_, h1.2⟩
  · rw [← h1.2]; rfl
  · rw [← h1.2]; rfl
  · rw [← h1.2]; exact m_ga_in hr h.1 (by omega)
theorem m_hw_j {ns : Nat} {st : sy_S} {m : Nat} (h : xh_k (m_L ns st) m) {k : Nat} (hk : k < m) : ∃ j : Nat, ((k : Int) + 1).tmod (m : Int) = (j : Int) ∧ j < m ∧ xh_c (m_L ns st) j = xh_c (m_L ns st) (k + 1) := by
  rcases h with ⟨_, z⟩ | ⟨_, h2, h3, _⟩
  · omega
  · exact ⟨(k + 1) % m, by rw [Int.tmod_eq_emod_of_nonneg (by omega), Int.natCast_emod]; rfl, Nat.mod_lt _ h2, xh_per3 h3 _⟩
theorem m_hw_le {ns : Nat} {st : sy_S} {m : Nat} (h : xh_k (m_L ns st) m) (hns : ns ≤ 16) : m ≤ 32 := by
  have := xh_k_le h
  have := m_L_len ns st
  omega
theorem m_ar_r {ns : Nat} {st s : sy_S} {m : Nat} (hr : m_rng st) (hns : ns ≤ 16) (hm : xh_k (m_L ns st) m) (h : m_hw ns st s m) : ∀ k, k ≤ m → -(62000000 * (k : Int)) ≤ xh_ar (m_L ns st) k ∧ xh_ar (m_L ns st) k ≤ 62000000 * (k : Int)
  | 0, _ => by simp [xh_ar]
  | k + 1, hk => by
    have ih := m_ar_r hr hns hm h k (by omega)
    obtain ⟨j, _, j2, j3⟩ := m_hw_j hm (k := k) (by omega)
    obtain ⟨_, _, _, _, _, r1, _⟩ := m_hw_c hr hns h (k := k) (by omega)
    obtain ⟨_, _, _, _, _, r2, _⟩ := m_hw_c hr hns h j2
    rw [j3] at r2
    have := xh_cr_rng r1 r2
    simp only [xh_ar]
    omega
def sp_9_inside (ns : Nat) : sy_Sp := sy_m1 24 fun w st post => m_ok ns st ∧ (∀ s, m_hk ns st s → (w = 0 → post (some (.inl (true, s 24 14))) s) ∧ (w = 1 → post (some (.inl (true, xh_ar (m_L ns st) (s 24 14).toNat))) s)) ∧ (w ≠ 0 → w ≠ 1 → post (some (.inl (true, -1))) st)
def ct_9_inside (ns q : Nat) : Option (Bool × Nat × sy_Sp) := match q with
  | 69 => some (true, 3, sp_9_is ns)
  | 132 => some (false, 1, sp_9_hull ns)
  | _ => none
abbrev M_9_inside (ns : Nat) : sy_M := Mk_9_inside (ct_9_inside ns)
theorem cx_9_inside_69 {ns : Nat} {v1 v2 v3 : sy_V} {r : List sy_V} {s : sy_S} {f : List sy_V → sy_S → Prop} : sy_call true (ct_9_inside ns 69) (v3 :: v2 :: v1 :: r) s f = (sy_wd r ≤ 8 ∧ (sy_fit v3 ∧ sy_fit v2 ∧ sy_fit v1) ∧ sp_9_is ns [sy_kn v1, sy_kn v2, sy_kn v3] s (fun q t => f (q.toList ++ r) t)) := sx_call3
theorem cx_9_inside_132 {ns : Nat} {v1 : sy_V} {r : List sy_V} {s : sy_S} {f : List sy_V → sy_S → Prop} : sy_call false (ct_9_inside ns 132) (v1 :: r) s f = (sy_wd r ≤ 8 ∧ (sy_fit v1) ∧ sp_9_hull ns [sy_kn v1] s (fun q t => f (q.toList ++ r) t)) := sx_call1
theorem mv_9_inside (ns : Nat) : sy_MV c_9_inside y_9_inside.cls (some .int) (M_9_inside ns) := ⟨tv_9_inside, ff_9_ok, ki_9_ok, kl_9_ok⟩
abbrev rm_9_inside : Room := { frames := 3, cells := 0, slots := 0, locals := 71 }
theorem iw_9_hull : Cond.code y_9_hull c_9_hull 8 none ∈ sy_tb ∧ Cond.initialized y_9_hull.cls ∈ sy_tb ∧ (y_9_hull.cls ≠ "java/lang/invoke/MethodHandle" ∧ y_9_hull.cls ≠ "java/lang/invoke/VarHandle" ∧ (parseMethodDescriptor y_9_hull.desc).map (fun d => d.parameters.length) = some 0) := ⟨sy_inx 990 (by decide +kernel) (by decide +kernel), sy_inx 53 (by decide +kernel) (by decide +kernel), by decide +kernel⟩
theorem ii_9_hull : Cond.instanceMethod y_9_hull ∈ sy_tb ∧ Cond.selects y_9_hull.cls y_9_hull y_9_hull ∈ sy_tb := ⟨sy_inx 989 (by decide +kernel) (by decide +kernel), sy_inx 38 (by decide +kernel) (by decide +kernel)⟩
theorem co_9_inside (l : Launch) : sy_calls l rm_9_inside y_9_inside.cls c_9_inside 7 (fun ns => (M_9_inside ns).2.2.2.2.1) := by
  intro p e s m args below meth c rt wd ad ns A Q X hA q b n sp h
  replace h : ct_9_inside ns q = some (b, n, sp) := h
  unfold ct_9_inside at h
  split at h
  · cases h; exact sy_coS X hA (mc_9_is l) ⟨iw_9_is.1, iw_9_is.2.1, iw_9_is.2.2, ⟨by decide, by decide⟩, rfl, rfl⟩ (sy_inx 859 (by decide +kernel) (by decide +kernel)) is_9_is
  · cases h; exact sy_coV (ci := 9) X hA (mc_9_hull l) ⟨iw_9_hull.1, iw_9_hull.2.1, iw_9_hull.2.2, ⟨by decide, by decide⟩, rfl, rfl⟩ (sy_inx 987 (by decide +kernel) (by decide +kernel)) ii_9_hull.1 ii_9_hull.2 (rc_9_hull ns) ⟨_, rfl, rfl⟩
  · cases h
theorem rc_9_inside (ns : Nat) (as : List sy_V) (st : sy_S) (post : sy_R) (h : sp_9_inside ns as st post) : ∃ b as', as = .inr (.inr (some (some b))) :: as' ∧ sy_ob b = some 9 := sy_m1_r rfl as st post h
theorem mc_9_inside (l : Launch) : sy_MC l y_9_inside c_9_inside 7 (some .int) rm_9_inside sp_9_inside := by
  refine sy_meth M_9_inside (by decide +kernel) mv_9_inside (co_9_inside l) ?_
  intro ns as st post WA h hok hrg ⟨hgo0, hin, hwk⟩
  have hgo : ∀ (n pc : Nat) (L k : List sy_V) (st : sy_S), rn_9_inside ns (ct_9_inside ns) post WA n pc L k st → WA pc L k st := fun n pc L k st h => hgo0 [29] n pc L k st h
  replace h := sy_m1_e h hok
  obtain ⟨w, rfl, hw, h⟩ := h
  refine ⟨Nat.le_of_ble_eq_true rfl, ?_⟩
  show WA 0 [.inr (.inr (some (some 24))), .inl (true, w), .inr (.inr none), .inr (.inr none), .inr (.inr none), .inr (.inr none), .inr (.inr none)] [] st
  obtain ⟨hm, h1, h2⟩ := h
  have key : ∀ s m, xh_k (m_L ns st) m → m_hw ns st s m → w = 1 → ∀ (d k : Nat), k + d = m → WA 29 [.inr (.inr (some (some 24))), .inl (true, w), .inr (.inl (true, xh_ar (m_L ns st) k)), .inr (.inr none), .inl (true, (k : Int)), .inr (.inr none), .inr (.inr none)] [] s := by
    intro s m hk hw hw1 d
    have e14 := hw.2.1
    have hm32 := m_hw_le hk hm.1.2
    induction d with
    | zero =>
      intro k hkd
      have a1 := m_ar_r hm.2.1 hm.1.2 hk hw k (by omega)
      have h3 := (h1 s ⟨m, hk, hw⟩).2 hw1
      refine hgo 100 _ _ _ _ ?_
      simp -implicitDefEqProofs only [↓rx_9_inside_0, ↓rx_9_inside_1, ↓rx_9_inside_2, ↓rx_9_inside_3, ↓rx_9_inside_6, ↓rx_9_inside_9, ↓rx_9_inside_10, ↓rx_9_inside_11, ↓rx_9_inside_12, ↓rx_9_inside_15, ↓rx_9_inside_16, ↓rx_9_inside_19, ↓rx_9_inside_20, ↓rx_9_inside_23, ↓rx_9_inside_24, ↓rx_9_inside_25, ↓rx_9_inside_26, ↓rx_9_inside_27, ↓rx_9_inside_29, ↓rx_9_inside_31, ↓rx_9_inside_32, ↓rx_9_inside_35, ↓rx_9_inside_38, ↓rx_9_inside_39, ↓rx_9_inside_42, ↓rx_9_inside_44, ↓rx_9_inside_45, ↓rx_9_inside_47, ↓rx_9_inside_48, ↓rx_9_inside_51, ↓rx_9_inside_53, ↓rx_9_inside_54, ↓rx_9_inside_55, ↓rx_9_inside_56, ↓rx_9_inside_59, ↓rx_9_inside_60, ↓rx_9_inside_61, ↓rx_9_inside_63, ↓rx_9_inside_64, ↓rx_9_inside_65, ↓rx_9_inside_68, ↓rx_9_inside_70, ↓rx_9_inside_71, ↓rx_9_inside_72, ↓rx_9_inside_75, ↓rx_9_inside_77, ↓rx_9_inside_78, ↓rx_9_inside_79, ↓rx_9_inside_80, ↓rx_9_inside_83, ↓rx_9_inside_85, ↓rx_9_inside_86, ↓rx_9_inside_87, ↓rx_9_inside_90, ↓rx_9_inside_92, ↓rx_9_inside_93, ↓rx_9_inside_94, ↓rx_9_inside_95, ↓rx_9_inside_96, ↓rx_9_inside_97, ↓rx_9_inside_100, ↓rx_9_inside_103, ↓rx_9_inside_104, ↓rx_9_inside_105, ↓cx_9_inside_69, ↓cx_9_inside_132, sp_9_hull, sp_9_is, e14, ↓sx_s1, ↓sx_s2, ↓sx_s3, ↓sx_s4, ↓sx_s5, ↓sx_s6, ↓sx_m0, ↓sx_m1, ↓sx_m2, ↓sx_m3, ↓sx_m4, ↓sx_m5, ↓sx_m6, ↓sx_k0_, ↓sx_k1_, ↓sx_k2_, ↓sx_k3_, ↓sx_k4_, ↓sx_k5_, ↓sx_k6_, ↓sx_sLL, ↓sx_sAI, ↓sx_mLL, ↓sx_mIIL, ↓sx_mIILL, ↓sx_mIILLL, ↓sx_qS, ↓sx_qSI, ↓sx_qSIII, sx_rit, sx_rif, sx_rlt, sx_rlf, sx_b0, sx_b1, sx_o0, sx_o1i, sx_o1a, sx_o1l, sx_o2, sx_g0, sx_g1, sx_k1, sx_k2, sx_k3, sx_f1, sx_f2, sx_f3, sx_w0, sx_w1, sx_w2, sx_w3, sx_ts, sx_tn, sx_up, sx_nS1, sx_nS2, sx_nW1, sx_nW2, sx_SW, sx_WS, sy_nS_inj, sy_nW_inj, sx_ob0, sx_ob1, sx_ob2, sx_ob3, sx_ob4, sx_ob5, sx_ob6, sx_ob7, sx_ob8, sx_ob9, sx_ob10, sx_ob11, sx_ob12, sx_ob13, sx_ob14, sx_ob15, sx_ob16, sx_ob17, sx_ob18, sx_ob19, sx_ob20, sx_ob21, sx_ob22, sx_ob23, sx_ob24, sx_ob25, sx_ob26, sx_ob27, sx_ob28, sx_ob29, sx_ob30, sx_ob31, sx_ob32, sx_ob33, sx_ob34, sx_ob35, sx_ob36, sx_fv0_0, sx_fv0_1, sx_fv0_2, sx_fv0_3, sx_fv0_4, sx_fv0_5, sx_fv1_0, sx_fv1_1, sx_fv1_2, sx_fv3_0, sx_fv3_1, sx_fv3_2, sx_fv3_3, sx_fv3_4, sx_fv7_0, sx_fv7_1, sx_fv7_2, sx_fv7_3, sx_fv7_4, sx_fv7_5, sx_fv7_6, sx_fv7_7, sx_fv7_8, sx_fv7_9, sx_fv7_10, sx_fv9_0, sx_fv9_1, sx_fv9_2, sx_fv9_3, sx_fv11_0, sx_fv11_1, sx_fv11_2, sx_fv11_3, sx_fv11_4, sx_fv11_5, sx_fv11_6, sx_fv15_0, sx_fv15_1, sx_fv15_2, sx_fv15_3, sx_fv15_4, sx_fv15_5, sx_fv19_0, sx_fv19_1, sx_fv19_2, sx_fv19_3, sx_fv19_4, sx_fv19_5, sx_fv19_6, sx_fv24_0, sx_fv24_1, sx_fv24_2, sx_fv24_3, sx_fv24_4, sx_fv24_5, sx_fv24_6, sx_fv24_7, sx_fv24_8, sx_fv24_9, sx_fv24_10, sx_fv24_11, sx_fv24_12, sx_fv24_13, sx_fv24_14, sx_fv24_15, sx_fv24_16, sx_fv24_17, sx_fv24_18, sx_fvS_0, sx_fvS_1, sx_fvS_2, sx_fvS_3, sx_fvS_4, sx_fvS_5, sx_fvS_6, sx_fvS_7, sx_fvS_8, sx_fvS_9, sx_ar2, sx_ar4, sx_ar5, sx_ar6, sx_ar8, sx_ar10, sx_ar12, sx_ar13, sx_ar14, sx_ar16, sx_ar17, sx_ar18, sx_ar20, sx_ar21, sx_ar22, sx_ar23, sx_ar25, sx_ar26, sx_ar27, sx_ar28, sx_ar29, sx_ar30, sx_ar31, sx_ar32, sx_ar33, sx_ar34, sx_ar35, sx_ar36, sy_ob_S, sy_ob_W, sy_ar_W, sx_if0, sx_if1, sx_ie0, sx_em, Classical.not_not, sx_cle, sx_clt, sx_cge, sx_cgt, sx_ceq, Nat.reduceLT, Nat.reduceLeDiff, Nat.reduceAdd, Nat.reduceSub, Nat.reduceEqDiff, reduceIte, List.length_cons, List.length_nil, true_and, and_true, and_self, Bool.false_eq_true, true_implies, not_true_eq_false, not_false_eq_true, false_implies, implies_true, ne_eq, reduceCtorEq, Option.some.injEq, false_and, and_false, Int.reduceNeg, Int.reduceToNat, Int.reduceLT, Int.reduceLE, Int.reduceEq, Int.reduceAdd, Int.reduceSub, Int.reduceMul, or_false, false_or, or_true, true_or, forall_const, Int.toNat_natCast, Int.toNat_zero, Int.toNat_one, Nat.zero_add, or_self, Int.neg_eq_zero]
      have e : k = m := by omega
      rw [e14, Int.toNat_natCast, ← e] at h3
      exact ⟨fun _ => ⟨by omega, h3⟩, fun c => absurd (show (m : Int) ≤ k by omega) c⟩
    | succ d ih =>
      intro k hkd
      obtain ⟨a, a1, a2, a3, a4, a5, _⟩ := m_hw_c hm.2.1 hm.1.2 hw (k := k) (by omega)
      obtain ⟨j, j1, j2, j3⟩ := m_hw_j hk (k := k) (by omega)
      obtain ⟨b, b1, b2, b3, b4, b5, _⟩ := m_hw_c hm.2.1 hm.1.2 hw j2
      have q1 := m_ar_r hm.2.1 hm.1.2 hk hw k (by omega)
      have q2 := m_ar_r hm.2.1 hm.1.2 hk hw (k + 1) (by omega)
      rw [j3] at b3 b4 b5
      refine hgo 100 _ _ _ _ ?_
      simp -implicitDefEqProofs only [↓rx_9_inside_0, ↓rx_9_inside_1, ↓rx_9_inside_2, ↓rx_9_inside_3, ↓rx_9_inside_6, ↓rx_9_inside_9, ↓rx_9_inside_10, ↓rx_9_inside_11, ↓rx_9_inside_12, ↓rx_9_inside_15, ↓rx_9_inside_16, ↓rx_9_inside_19, ↓rx_9_inside_20, ↓rx_9_inside_23, ↓rx_9_inside_24, ↓rx_9_inside_25, ↓rx_9_inside_26, ↓rx_9_inside_27, ↓rx_9_inside_29, ↓rx_9_inside_31, ↓rx_9_inside_32, ↓rx_9_inside_35, ↓rx_9_inside_38, ↓rx_9_inside_39, ↓rx_9_inside_42, ↓rx_9_inside_44, ↓rx_9_inside_45, ↓rx_9_inside_47, ↓rx_9_inside_48, ↓rx_9_inside_51, ↓rx_9_inside_53, ↓rx_9_inside_54, ↓rx_9_inside_55, ↓rx_9_inside_56, ↓rx_9_inside_59, ↓rx_9_inside_60, ↓rx_9_inside_61, ↓rx_9_inside_63, ↓rx_9_inside_64, ↓rx_9_inside_65, ↓rx_9_inside_68, ↓rx_9_inside_70, ↓rx_9_inside_71, ↓rx_9_inside_72, ↓rx_9_inside_75, ↓rx_9_inside_77, ↓rx_9_inside_78, ↓rx_9_inside_79, ↓rx_9_inside_80, ↓rx_9_inside_83, ↓rx_9_inside_85, ↓rx_9_inside_86, ↓rx_9_inside_87, ↓rx_9_inside_90, ↓rx_9_inside_92, ↓rx_9_inside_93, ↓rx_9_inside_94, ↓rx_9_inside_95, ↓rx_9_inside_96, ↓rx_9_inside_97, ↓rx_9_inside_100, ↓rx_9_inside_103, ↓rx_9_inside_104, ↓rx_9_inside_105, ↓cx_9_inside_69, ↓cx_9_inside_132, sp_9_hull, sp_9_is, e14, a1, b1, j1, a3, a4, b3, b4, ↓sx_s1, ↓sx_s2, ↓sx_s3, ↓sx_s4, ↓sx_s5, ↓sx_s6, ↓sx_m0, ↓sx_m1, ↓sx_m2, ↓sx_m3, ↓sx_m4, ↓sx_m5, ↓sx_m6, ↓sx_k0_, ↓sx_k1_, ↓sx_k2_, ↓sx_k3_, ↓sx_k4_, ↓sx_k5_, ↓sx_k6_, ↓sx_sLL, ↓sx_sAI, ↓sx_mLL, ↓sx_mIIL, ↓sx_mIILL, ↓sx_mIILLL, ↓sx_qS, ↓sx_qSI, ↓sx_qSIII, sx_rit, sx_rif, sx_rlt, sx_rlf, sx_b0, sx_b1, sx_o0, sx_o1i, sx_o1a, sx_o1l, sx_o2, sx_g0, sx_g1, sx_k1, sx_k2, sx_k3, sx_f1, sx_f2, sx_f3, sx_w0, sx_w1, sx_w2, sx_w3, sx_ts, sx_tn, sx_up, sx_nS1, sx_nS2, sx_nW1, sx_nW2, sx_SW, sx_WS, sy_nS_inj, sy_nW_inj, sx_ob0, sx_ob1, sx_ob2, sx_ob3, sx_ob4, sx_ob5, sx_ob6, sx_ob7, sx_ob8, sx_ob9, sx_ob10, sx_ob11, sx_ob12, sx_ob13, sx_ob14, sx_ob15, sx_ob16, sx_ob17, sx_ob18, sx_ob19, sx_ob20, sx_ob21, sx_ob22, sx_ob23, sx_ob24, sx_ob25, sx_ob26, sx_ob27, sx_ob28, sx_ob29, sx_ob30, sx_ob31, sx_ob32, sx_ob33, sx_ob34, sx_ob35, sx_ob36, sx_fv0_0, sx_fv0_1, sx_fv0_2, sx_fv0_3, sx_fv0_4, sx_fv0_5, sx_fv1_0, sx_fv1_1, sx_fv1_2, sx_fv3_0, sx_fv3_1, sx_fv3_2, sx_fv3_3, sx_fv3_4, sx_fv7_0, sx_fv7_1, sx_fv7_2, sx_fv7_3, sx_fv7_4, sx_fv7_5, sx_fv7_6, sx_fv7_7, sx_fv7_8, sx_fv7_9, sx_fv7_10, sx_fv9_0, sx_fv9_1, sx_fv9_2, sx_fv9_3, sx_fv11_0, sx_fv11_1, sx_fv11_2, sx_fv11_3, sx_fv11_4, sx_fv11_5, sx_fv11_6, sx_fv15_0, sx_fv15_1, sx_fv15_2, sx_fv15_3, sx_fv15_4, sx_fv15_5, sx_fv19_0, sx_fv19_1, sx_fv19_2, sx_fv19_3, sx_fv19_4, sx_fv19_5, sx_fv19_6, sx_fv24_0, sx_fv24_1, sx_fv24_2, sx_fv24_3, sx_fv24_4, sx_fv24_5, sx_fv24_6, sx_fv24_7, sx_fv24_8, sx_fv24_9, sx_fv24_10, sx_fv24_11, sx_fv24_12, sx_fv24_13, sx_fv24_14, sx_fv24_15, sx_fv24_16, sx_fv24_17, sx_fv24_18, sx_fvS_0, sx_fvS_1, sx_fvS_2, sx_fvS_3, sx_fvS_4, sx_fvS_5, sx_fvS_6, sx_fvS_7, sx_fvS_8, sx_fvS_9, sx_ar2, sx_ar4, sx_ar5, sx_ar6, sx_ar8, sx_ar10, sx_ar12, sx_ar13, sx_ar14, sx_ar16, sx_ar17, sx_ar18, sx_ar20, sx_ar21, sx_ar22, sx_ar23, sx_ar25, sx_ar26, sx_ar27, sx_ar28, sx_ar29, sx_ar30, sx_ar31, sx_ar32, sx_ar33, sx_ar34, sx_ar35, sx_ar36, sy_ob_S, sy_ob_W, sy_ar_W, sx_if0, sx_if1, sx_ie0, sx_em, Classical.not_not, sx_cle, sx_clt, sx_cge, sx_cgt, sx_ceq, Nat.reduceLT, Nat.reduceLeDiff, Nat.reduceAdd, Nat.reduceSub, Nat.reduceEqDiff, reduceIte, List.length_cons, List.length_nil, true_and, and_true, and_self, Bool.false_eq_true, true_implies, not_true_eq_false, not_false_eq_true, false_implies, implies_true, ne_eq, reduceCtorEq, Option.some.injEq, false_and, and_false, Int.reduceNeg, Int.reduceToNat, Int.reduceLT, Int.reduceLE, Int.reduceEq, Int.reduceAdd, Int.reduceSub, Int.reduceMul, or_false, false_or, or_true, true_or, forall_const, Int.toNat_natCast, Int.toNat_zero, Int.toNat_one, Nat.zero_add, or_self, Int.neg_eq_zero]
      have e : ((k : Int) + 1) = ((k + 1 : Nat) : Int) := by omega
      have i1 := ih (k + 1) (by omega)
      simp only [xh_ar] at i1 q2
      rw [Int.mul_comm (xh_c (m_L ns st) (k + 1)).1, e]
      exact ⟨fun c => by omega, fun _ => ⟨by omega, by omega, by omega, by omega, by omega, by omega, by omega, by omega, by omega, by omega, hwk _ _ _ _ _ (by exact ⟨Or.inl rfl, Or.inl rfl, Or.inl rfl, Or.inl rfl, Or.inl rfl, Or.inr rfl, Or.inr rfl, trivial⟩) i1⟩⟩
  refine hgo 100 _ _ _ _ ?_
  simp -implicitDefEqProofs only [↓rx_9_inside_0, ↓rx_9_inside_1, ↓rx_9_inside_2, ↓rx_9_inside_3, ↓rx_9_inside_6, ↓rx_9_inside_9, ↓rx_9_inside_10, ↓rx_9_inside_11, ↓rx_9_inside_12, ↓rx_9_inside_15, ↓rx_9_inside_16, ↓rx_9_inside_19, ↓rx_9_inside_20, ↓rx_9_inside_23, ↓rx_9_inside_24, ↓rx_9_inside_25, ↓rx_9_inside_26, ↓rx_9_inside_27, ↓rx_9_inside_29, ↓rx_9_inside_31, ↓rx_9_inside_32, ↓rx_9_inside_35, ↓rx_9_inside_38, ↓rx_9_inside_39, ↓rx_9_inside_42, ↓rx_9_inside_44, ↓rx_9_inside_45, ↓rx_9_inside_47, ↓rx_9_inside_48, ↓rx_9_inside_51, ↓rx_9_inside_53, ↓rx_9_inside_54, ↓rx_9_inside_55, ↓rx_9_inside_56, ↓rx_9_inside_59, ↓rx_9_inside_60, ↓rx_9_inside_61, ↓rx_9_inside_63, ↓rx_9_inside_64, ↓rx_9_inside_65, ↓rx_9_inside_68, ↓rx_9_inside_70, ↓rx_9_inside_71, ↓rx_9_inside_72, ↓rx_9_inside_75, ↓rx_9_inside_77, ↓rx_9_inside_78, ↓rx_9_inside_79, ↓rx_9_inside_80, ↓rx_9_inside_83, ↓rx_9_inside_85, ↓rx_9_inside_86, ↓rx_9_inside_87, ↓rx_9_inside_90, ↓rx_9_inside_92, ↓rx_9_inside_93, ↓rx_9_inside_94, ↓rx_9_inside_95, ↓rx_9_inside_96, ↓rx_9_inside_97, ↓rx_9_inside_100, ↓rx_9_inside_103, ↓rx_9_inside_104, ↓rx_9_inside_105, ↓cx_9_inside_69, ↓cx_9_inside_132, sp_9_hull, sp_9_is, ↓sx_s1, ↓sx_s2, ↓sx_s3, ↓sx_s4, ↓sx_s5, ↓sx_s6, ↓sx_m0, ↓sx_m1, ↓sx_m2, ↓sx_m3, ↓sx_m4, ↓sx_m5, ↓sx_m6, ↓sx_k0_, ↓sx_k1_, ↓sx_k2_, ↓sx_k3_, ↓sx_k4_, ↓sx_k5_, ↓sx_k6_, ↓sx_sLL, ↓sx_sAI, ↓sx_mLL, ↓sx_mIIL, ↓sx_mIILL, ↓sx_mIILLL, ↓sx_qS, ↓sx_qSI, ↓sx_qSIII, sx_rit, sx_rif, sx_rlt, sx_rlf, sx_b0, sx_b1, sx_o0, sx_o1i, sx_o1a, sx_o1l, sx_o2, sx_g0, sx_g1, sx_k1, sx_k2, sx_k3, sx_f1, sx_f2, sx_f3, sx_w0, sx_w1, sx_w2, sx_w3, sx_ts, sx_tn, sx_up, sx_nS1, sx_nS2, sx_nW1, sx_nW2, sx_SW, sx_WS, sy_nS_inj, sy_nW_inj, sx_ob0, sx_ob1, sx_ob2, sx_ob3, sx_ob4, sx_ob5, sx_ob6, sx_ob7, sx_ob8, sx_ob9, sx_ob10, sx_ob11, sx_ob12, sx_ob13, sx_ob14, sx_ob15, sx_ob16, sx_ob17, sx_ob18, sx_ob19, sx_ob20, sx_ob21, sx_ob22, sx_ob23, sx_ob24, sx_ob25, sx_ob26, sx_ob27, sx_ob28, sx_ob29, sx_ob30, sx_ob31, sx_ob32, sx_ob33, sx_ob34, sx_ob35, sx_ob36, sx_fv0_0, sx_fv0_1, sx_fv0_2, sx_fv0_3, sx_fv0_4, sx_fv0_5, sx_fv1_0, sx_fv1_1, sx_fv1_2, sx_fv3_0, sx_fv3_1, sx_fv3_2, sx_fv3_3, sx_fv3_4, sx_fv7_0, sx_fv7_1, sx_fv7_2, sx_fv7_3, sx_fv7_4, sx_fv7_5, sx_fv7_6, sx_fv7_7, sx_fv7_8, sx_fv7_9, sx_fv7_10, sx_fv9_0, sx_fv9_1, sx_fv9_2, sx_fv9_3, sx_fv11_0, sx_fv11_1, sx_fv11_2, sx_fv11_3, sx_fv11_4, sx_fv11_5, sx_fv11_6, sx_fv15_0, sx_fv15_1, sx_fv15_2, sx_fv15_3, sx_fv15_4, sx_fv15_5, sx_fv19_0, sx_fv19_1, sx_fv19_2, sx_fv19_3, sx_fv19_4, sx_fv19_5, sx_fv19_6, sx_fv24_0, sx_fv24_1, sx_fv24_2, sx_fv24_3, sx_fv24_4, sx_fv24_5, sx_fv24_6, sx_fv24_7, sx_fv24_8, sx_fv24_9, sx_fv24_10, sx_fv24_11, sx_fv24_12, sx_fv24_13, sx_fv24_14, sx_fv24_15, sx_fv24_16, sx_fv24_17, sx_fv24_18, sx_fvS_0, sx_fvS_1, sx_fvS_2, sx_fvS_3, sx_fvS_4, sx_fvS_5, sx_fvS_6, sx_fvS_7, sx_fvS_8, sx_fvS_9, sx_ar2, sx_ar4, sx_ar5, sx_ar6, sx_ar8, sx_ar10, sx_ar12, sx_ar13, sx_ar14, sx_ar16, sx_ar17, sx_ar18, sx_ar20, sx_ar21, sx_ar22, sx_ar23, sx_ar25, sx_ar26, sx_ar27, sx_ar28, sx_ar29, sx_ar30, sx_ar31, sx_ar32, sx_ar33, sx_ar34, sx_ar35, sx_ar36, sy_ob_S, sy_ob_W, sy_ar_W, sx_if0, sx_if1, sx_ie0, sx_em, Classical.not_not, sx_cle, sx_clt, sx_cge, sx_cgt, sx_ceq, Nat.reduceLT, Nat.reduceLeDiff, Nat.reduceAdd, Nat.reduceSub, Nat.reduceEqDiff, reduceIte, List.length_cons, List.length_nil, true_and, and_true, and_self, Bool.false_eq_true, true_implies, not_true_eq_false, not_false_eq_true, false_implies, implies_true, ne_eq, reduceCtorEq, Option.some.injEq, false_and, and_false, Int.reduceNeg, Int.reduceToNat, Int.reduceLT, Int.reduceLE, Int.reduceEq, Int.reduceAdd, Int.reduceSub, Int.reduceMul, or_false, false_or, or_true, true_or, forall_const, Int.toNat_natCast, Int.toNat_zero, Int.toNat_one, Nat.zero_add, or_self, Int.neg_eq_zero]
  refine ⟨fun c => ⟨hm, fun s hk => ⟨fun c2 => ?_, fun c2 => (h1 s hk).1 c2⟩⟩, fun c => h2 (by omega) (by omega)⟩
  obtain ⟨m, hk1, hw⟩ := hk
  exact key s m hk1 hw (by omega) m 0 (by omega)
def sp_9_corner (ns : Nat) : sy_Sp := sy_m2 24 fun k w st post => m_ok ns st ∧ ∀ s, m_hk ns st s → post (some (.inl (true, if (0 ≤ k ∧ k < s 24 14) ∧ (0 ≤ w ∧ w ≤ 1) then (if w = 0 then (xh_c (m_L ns st) k.toNat).1 else (xh_c (m_L ns st) k.toNat).2) else -1000000))) s
def ct_9_corner (ns q : Nat) : Option (Bool × Nat × sy_Sp) := match q with
  | 69 => some (true, 3, sp_9_is ns)
  | 132 => some (false, 1, sp_9_hull ns)
  | _ => none
abbrev M_9_corner (ns : Nat) : sy_M := Mk_9_corner (ct_9_corner ns)
theorem cx_9_corner_69 {ns : Nat} {v1 v2 v3 : sy_V} {r : List sy_V} {s : sy_S} {f : List sy_V → sy_S → Prop} : sy_call true (ct_9_corner ns 69) (v3 :: v2 :: v1 :: r) s f = (sy_wd r ≤ 8 ∧ (sy_fit v3 ∧ sy_fit v2 ∧ sy_fit v1) ∧ sp_9_is ns [sy_kn v1, sy_kn v2, sy_kn v3] s (fun q t => f (q.toList ++ r) t)) := sx_call3
theorem cx_9_corner_132 {ns : Nat} {v1 : sy_V} {r : List sy_V} {s : sy_S} {f : List sy_V → sy_S → Prop} : sy_call false (ct_9_corner ns 132) (v1 :: r) s f = (sy_wd r ≤ 8 ∧ (sy_fit v1) ∧ sp_9_hull ns [sy_kn v1] s (fun q t => f (q.toList ++ r) t)) := sx_call1
theorem mv_9_corner (ns : Nat) : sy_MV c_9_corner y_9_corner.cls (some .int) (M_9_corner ns) := ⟨tv_9_corner, ff_9_ok, ki_9_ok, kl_9_ok⟩
abbrev rm_9_corner : Room := { frames := 3, cells := 0, slots := 0, locals := 71 }
theorem co_9_corner (l : Launch) : sy_calls l rm_9_corner y_9_corner.cls c_9_corner 3 (fun ns => (M_9_corner ns).2.2.2.2.1) := by
  intro p e s m args below meth c rt wd ad ns A Q X hA q b n sp h
  replace h : ct_9_corner ns q = some (b, n, sp) := h
  unfold ct_9_corner at h
  split at h
  · cases h; exact sy_coS X hA (mc_9_is l) ⟨iw_9_is.1, iw_9_is.2.1, iw_9_is.2.2, ⟨by decide, by decide⟩, rfl, rfl⟩ (sy_inx 859 (by decide +kernel) (by decide +kernel)) is_9_is
  · cases h; exact sy_coV (ci := 9) X hA (mc_9_hull l) ⟨iw_9_hull.1, iw_9_hull.2.1, iw_9_hull.2.2, ⟨by decide, by decide⟩, rfl, rfl⟩ (sy_inx 987 (by decide +kernel) (by decide +kernel)) ii_9_hull.1 ii_9_hull.2 (rc_9_hull ns) ⟨_, rfl, rfl⟩
  · cases h
theorem rc_9_corner (ns : Nat) (as : List sy_V) (st : sy_S) (post : sy_R) (h : sp_9_corner ns as st post) : ∃ b as', as = .inr (.inr (some (some b))) :: as' ∧ sy_ob b = some 9 := sy_m2_r rfl as st post h
theorem mc_9_corner (l : Launch) : sy_MC l y_9_corner c_9_corner 3 (some .int) rm_9_corner sp_9_corner := by
  refine sy_meth M_9_corner (by decide +kernel) mv_9_corner (co_9_corner l) ?_
  intro ns as st post WA h hok hrg ⟨hgo0, hin, hwk⟩
  have hgo : ∀ (n pc : Nat) (L k : List sy_V) (st : sy_S), rn_9_corner ns (ct_9_corner ns) post WA n pc L k st → WA pc L k st := fun n pc L k st h => hgo0 [] n pc L k st h
  replace h := sy_m2_e h hok
  obtain ⟨k, w, rfl, hk, hw, h⟩ := h
  refine ⟨Nat.le_of_ble_eq_true rfl, ?_⟩
  show WA 0 [.inr (.inr (some (some 24))), .inl (true, k), .inl (true, w)] [] st
  obtain ⟨hm, h1⟩ := h
  refine hgo 100 _ _ _ _ ?_
  simp -implicitDefEqProofs only [↓rx_9_corner_0, ↓rx_9_corner_1, ↓rx_9_corner_4, ↓rx_9_corner_5, ↓rx_9_corner_8, ↓rx_9_corner_9, ↓rx_9_corner_10, ↓rx_9_corner_13, ↓rx_9_corner_16, ↓rx_9_corner_17, ↓rx_9_corner_18, ↓rx_9_corner_19, ↓rx_9_corner_22, ↓rx_9_corner_25, ↓rx_9_corner_27, ↓rx_9_corner_28, ↓rx_9_corner_29, ↓rx_9_corner_32, ↓rx_9_corner_33, ↓rx_9_corner_36, ↓rx_9_corner_37, ↓rx_9_corner_40, ↓rx_9_corner_41, ↓rx_9_corner_42, ↓rx_9_corner_43, ↓rx_9_corner_46, ↓rx_9_corner_47, ↓rx_9_corner_50, ↓rx_9_corner_51, ↓rx_9_corner_54, ↓rx_9_corner_55, ↓rx_9_corner_56, ↓rx_9_corner_57, ↓rx_9_corner_58, ↓cx_9_corner_69, ↓cx_9_corner_132, sp_9_hull, sp_9_is, ↓sx_s1, ↓sx_s2, ↓sx_s3, ↓sx_s4, ↓sx_s5, ↓sx_s6, ↓sx_m0, ↓sx_m1, ↓sx_m2, ↓sx_m3, ↓sx_m4, ↓sx_m5, ↓sx_m6, ↓sx_k0_, ↓sx_k1_, ↓sx_k2_, ↓sx_k3_, ↓sx_k4_, ↓sx_k5_, ↓sx_k6_, ↓sx_sLL, ↓sx_sAI, ↓sx_mLL, ↓sx_mIIL, ↓sx_mIILL, ↓sx_mIILLL, ↓sx_qS, ↓sx_qSI, ↓sx_qSIII, sx_rit, sx_rif, sx_rlt, sx_rlf, sx_b0, sx_b1, sx_o0, sx_o1i, sx_o1a, sx_o1l, sx_o2, sx_g0, sx_g1, sx_k1, sx_k2, sx_k3, sx_f1, sx_f2, sx_f3, sx_w0, sx_w1, sx_w2, sx_w3, sx_ts, sx_tn, sx_up, sx_nS1, sx_nS2, sx_nW1, sx_nW2, sx_SW, sx_WS, sy_nS_inj, sy_nW_inj, sx_ob0, sx_ob1, sx_ob2, sx_ob3, sx_ob4, sx_ob5, sx_ob6, sx_ob7, sx_ob8, sx_ob9, sx_ob10, sx_ob11, sx_ob12, sx_ob13, sx_ob14, sx_ob15, sx_ob16, sx_ob17, sx_ob18, sx_ob19, sx_ob20, sx_ob21, sx_ob22, sx_ob23, sx_ob24, sx_ob25, sx_ob26, sx_ob27, sx_ob28, sx_ob29, sx_ob30, sx_ob31, sx_ob32, sx_ob33, sx_ob34, sx_ob35, sx_ob36, sx_fv0_0, sx_fv0_1, sx_fv0_2, sx_fv0_3, sx_fv0_4, sx_fv0_5, sx_fv1_0, sx_fv1_1, sx_fv1_2, sx_fv3_0, sx_fv3_1, sx_fv3_2, sx_fv3_3, sx_fv3_4, sx_fv7_0, sx_fv7_1, sx_fv7_2, sx_fv7_3, sx_fv7_4, sx_fv7_5, sx_fv7_6, sx_fv7_7, sx_fv7_8, sx_fv7_9, sx_fv7_10, sx_fv9_0, sx_fv9_1, sx_fv9_2, sx_fv9_3, sx_fv11_0, sx_fv11_1, sx_fv11_2, sx_fv11_3, sx_fv11_4, sx_fv11_5, sx_fv11_6, sx_fv15_0, sx_fv15_1, sx_fv15_2, sx_fv15_3, sx_fv15_4, sx_fv15_5, sx_fv19_0, sx_fv19_1, sx_fv19_2, sx_fv19_3, sx_fv19_4, sx_fv19_5, sx_fv19_6, sx_fv24_0, sx_fv24_1, sx_fv24_2, sx_fv24_3, sx_fv24_4, sx_fv24_5, sx_fv24_6, sx_fv24_7, sx_fv24_8, sx_fv24_9, sx_fv24_10, sx_fv24_11, sx_fv24_12, sx_fv24_13, sx_fv24_14, sx_fv24_15, sx_fv24_16, sx_fv24_17, sx_fv24_18, sx_fvS_0, sx_fvS_1, sx_fvS_2, sx_fvS_3, sx_fvS_4, sx_fvS_5, sx_fvS_6, sx_fvS_7, sx_fvS_8, sx_fvS_9, sx_ar2, sx_ar4, sx_ar5, sx_ar6, sx_ar8, sx_ar10, sx_ar12, sx_ar13, sx_ar14, sx_ar16, sx_ar17, sx_ar18, sx_ar20, sx_ar21, sx_ar22, sx_ar23, sx_ar25, sx_ar26, sx_ar27, sx_ar28, sx_ar29, sx_ar30, sx_ar31, sx_ar32, sx_ar33, sx_ar34, sx_ar35, sx_ar36, sy_ob_S, sy_ob_W, sy_ar_W, sx_if0, sx_if1, sx_ie0, sx_em, Classical.not_not, sx_cle, sx_clt, sx_cge, sx_cgt, sx_ceq, Nat.reduceLT, Nat.reduceLeDiff, Nat.reduceAdd, Nat.reduceSub, Nat.reduceEqDiff, reduceIte, List.length_cons, List.length_nil, true_and, and_true, and_self, Bool.false_eq_true, true_implies, not_true_eq_false, not_false_eq_true, false_implies, implies_true, ne_eq, reduceCtorEq, Option.some.injEq, false_and, and_false, Int.reduceNeg, Int.reduceToNat, Int.reduceLT, Int.reduceLE, Int.reduceEq, Int.reduceAdd, Int.reduceSub, Int.reduceMul, or_false, false_or, or_true, true_or, forall_const, Int.toNat_natCast, Int.toNat_zero, Int.toNat_one, Nat.zero_add, or_self, Int.neg_eq_zero]
  refine ⟨hm, fun s hk => ?_⟩
  have h3 := h1 s hk
  obtain ⟨m, hk1, hw⟩ := hk
  have e14 := hw.2.1
  have hm32 := m_hw_le hk1 hm.1.2
  refine ⟨fun c => ?_, fun c => ⟨fun c2 => ?_, fun c2 => ⟨fun c3 => ?_, fun c3 => ?_⟩⟩⟩
  · rw [if_neg (by omega)] at h3; exact h3
  · rw [if_neg (by omega)] at h3; exact h3
  · obtain ⟨a, a1, a2, a3, a4, a5, _⟩ := m_hw_c hm.2.1 hm.1.2 hw (k := k.toNat) (by omega)
    rw [a1, Int.toNat_natCast, a3, a4]
    have b1 := a5.1; have b2 := a5.2
    refine ⟨fun c4 => ⟨by omega, by omega, by omega, ?_⟩, fun c4 => ⟨by omega, by omega, by omega, ?_⟩⟩
    · rw [if_pos (by omega), if_neg c4] at h3; exact h3
    · rw [if_pos (by omega), if_pos c4] at h3; exact h3
  · rw [if_neg (by omega)] at h3; exact h3
