/-! THE CLASS: the hull is worked out -/
/-- the hull as it should be -/
def c_hv (ns : Nat) (st : sy_S) : Prop := xh_k (c_L ns st) (st 11 5).toNat ∧ ∀ k, k < (st 11 5).toNat → c_P st (st 14 k).toNat = xh_c (c_L ns st) k
def c_hul (ns : Nat) (st : sy_S) : Prop := c_hr st ∧ (st 11 6 = 0 ∨ (st 11 6 = 1 ∧ c_hv ns st))
def c_dst (ns : Nat) (st : sy_S) : Prop := ∀ i j, i < ns → j < ns → st (sy_nS i) 0 = st (sy_nS j) 0 → i = j
def c_hk (ns : Nat) (st s : sy_S) : Prop := c_hs st s ∧ c_hr s ∧ s 11 6 = 1 ∧ c_hv ns s
def c_hw (ns : Nat) (st s : sy_S) (k : Nat) : Prop := c_hs st s ∧ c_hr s ∧ s 11 6 = 1 ∧ s 11 5 = k ∧ (List.range (s 11 3).toNat).map (c_P s) = c_L ns st ∧ ∀ j, j < k → c_P s (s 14 j).toNat = xh_c (c_L ns st) j
def c_co (s : sy_S) (k : Nat) (a : Int) : sy_S := sy_up (sy_up s 14 k a) 11 5 ((k : Int) + 1)
theorem c_co_P (s : sy_S) (k : Nat) (a : Int) : c_P (c_co s k a) = c_P s := by
  funext j
  unfold c_P c_co
  rw [sy_up_ne _ _ (by omega), sy_up_ne _ _ (by omega), sy_up_ne _ _ (by omega), sy_up_ne _ _ (by omega)]
theorem c_co_k (s : sy_S) (k : Nat) (a : Int) {j : Nat} (h : j ≠ 5) : c_co s k a 11 j = s 11 j := by unfold c_co sy_up; simp [h]
theorem c_co_5 (s : sy_S) (k : Nat) (a : Int) : c_co s k a 11 5 = (k : Int) + 1 := by unfold c_co sy_up; simp
theorem c_co_14 (s : sy_S) (k : Nat) (a : Int) (j : Nat) : c_co s k a 14 j = if j = k then a else s 14 j := by unfold c_co sy_up; simp
theorem c_hw_co {ns : Nat} {st s : sy_S} {k : Nat} (h : c_hw ns st s k) (hk : k < 32) {a : Int} (ha : 0 ≤ a ∧ a < 32) (hc : c_P s a.toNat = xh_c (c_L ns st) k) : c_hw ns st (c_co s k a) (k + 1) := by
  obtain ⟨h1, h2, h3, h4, h5, h6⟩ := h
  refine ⟨fun b hb => ?_, ⟨by rw [c_co_k _ _ _ (by omega)]; exact h2.1, by rw [c_co_5]; omega, fun j => ?_, fun j => ?_, fun j => ?_⟩, by rw [c_co_k _ _ _ (by omega)]; exact h3, by rw [c_co_5]; omega, by rw [c_co_k _ _ _ (by omega), c_co_P]; exact h5, fun j hj => ?_⟩
  · unfold c_co; rw [sy_up_ne _ _ (by omega), sy_up_ne _ _ (by omega)]; exact h1 b hb
  · unfold c_co; rw [sy_up_ne _ _ (by omega), sy_up_ne _ _ (by omega)]; exact h2.2.2.1 j
  · unfold c_co; rw [sy_up_ne _ _ (by omega), sy_up_ne _ _ (by omega)]; exact h2.2.2.2.1 j
  · rw [c_co_14]; split
    · exact ha
    · exact h2.2.2.2.2 j
  · rw [c_co_P, c_co_14]
    by_cases e : j = k
    · rw [if_pos e, e]; exact hc
    · rw [if_neg e]; exact h6 j (by omega)
theorem c_hw_hk {ns : Nat} {st s : sy_S} {m : Nat} (h : c_hw ns st s m) (hm : xh_k (c_L ns st) m) : c_hk ns st s := by
  obtain ⟨h1, h2, h3, h4, h5, h6⟩ := h
  refine ⟨h1, h2, h3, ?_⟩
  unfold c_hv
  rw [c_hs_L h1, h4]
  exact ⟨hm, h6⟩
def sp_2_refresh (ns : Nat) : sy_Sp := sy_m0 11 fun st post => (c_site ns st ∧ c_rng st ∧ c_dst ns st ∧ c_hul ns st) ∧ ∀ s, c_hk ns st s → post none s
def ct_2_refresh (ns q : Nat) : Option (Bool × Nat × sy_Sp) := match q with
  | 54 => some (false, 1, sp_2_gather ns)
  | 60 => some (false, 1, sp_2_lowestPoint ns)
  | 64 => some (false, 2, sp_2_nextCorner ns)
  | _ => none
abbrev M_2_refresh (ns : Nat) : sy_M := Mk_2_refresh (ct_2_refresh ns)
theorem cx_2_refresh_54 {ns : Nat} {v1 : sy_V} {r : List sy_V} {s : sy_S} {f : List sy_V → sy_S → Prop} : sy_call false (ct_2_refresh ns 54) (v1 :: r) s f = (sy_wd r ≤ 8 ∧ (sy_fit v1) ∧ sp_2_gather ns [sy_kn v1] s (fun q t => f (q.toList ++ r) t)) := sx_call1
theorem cx_2_refresh_60 {ns : Nat} {v1 : sy_V} {r : List sy_V} {s : sy_S} {f : List sy_V → sy_S → Prop} : sy_call false (ct_2_refresh ns 60) (v1 :: r) s f = (sy_wd r ≤ 8 ∧ (sy_fit v1) ∧ sp_2_lowestPoint ns [sy_kn v1] s (fun q t => f (q.toList ++ r) t)) := sx_call1
theorem cx_2_refresh_64 {ns : Nat} {v1 v2 : sy_V} {r : List sy_V} {s : sy_S} {f : List sy_V → sy_S → Prop} : sy_call false (ct_2_refresh ns 64) (v2 :: v1 :: r) s f = (sy_wd r ≤ 8 ∧ (sy_fit v2 ∧ sy_fit v1) ∧ sp_2_nextCorner ns [sy_kn v1, sy_kn v2] s (fun q t => f (q.toList ++ r) t)) := sx_call2
theorem mv_2_refresh (ns : Nat) : sy_MV c_2_refresh y_2_refresh.cls none (M_2_refresh ns) := ⟨tv_2_refresh, ff_2_ok, ki_2_ok, kl_2_ok⟩
abbrev rm_2_refresh : Room := { frames := 3, cells := 0, slots := 0, locals := 74 }
theorem iw_2_gather : Cond.code y_2_gather c_2_gather 3 none ∈ sy_tb ∧ Cond.initialized y_2_gather.cls ∈ sy_tb ∧ (y_2_gather.cls ≠ "java/lang/invoke/MethodHandle" ∧ y_2_gather.cls ≠ "java/lang/invoke/VarHandle" ∧ (parseMethodDescriptor y_2_gather.desc).map (fun d => d.parameters.length) = some 0) := ⟨sy_inx 634 (by decide +kernel) (by decide +kernel), sy_inx 50 (by decide +kernel) (by decide +kernel), by decide +kernel⟩
theorem ii_2_gather : Cond.instanceMethod y_2_gather ∈ sy_tb ∧ Cond.selects y_2_gather.cls y_2_gather y_2_gather ∈ sy_tb := ⟨sy_inx 633 (by decide +kernel) (by decide +kernel), sy_inx 11 (by decide +kernel) (by decide +kernel)⟩
theorem iw_2_lowestPoint : Cond.code y_2_lowestPoint c_2_lowestPoint 3 (some .int) ∈ sy_tb ∧ Cond.initialized y_2_lowestPoint.cls ∈ sy_tb ∧ (y_2_lowestPoint.cls ≠ "java/lang/invoke/MethodHandle" ∧ y_2_lowestPoint.cls ≠ "java/lang/invoke/VarHandle" ∧ (parseMethodDescriptor y_2_lowestPoint.desc).map (fun d => d.parameters.length) = some 0) := ⟨sy_inx 644 (by decide +kernel) (by decide +kernel), sy_inx 50 (by decide +kernel) (by decide +kernel), by decide +kernel⟩
theorem ii_2_lowestPoint : Cond.instanceMethod y_2_lowestPoint ∈ sy_tb ∧ Cond.selects y_2_lowestPoint.cls y_2_lowestPoint y_2_lowestPoint ∈ sy_tb := ⟨sy_inx 643 (by decide +kernel) (by decide +kernel), sy_inx 13 (by decide +kernel) (by decide +kernel)⟩
theorem iw_2_nextCorner : Cond.code y_2_nextCorner c_2_nextCorner 4 (some .int) ∈ sy_tb ∧ Cond.initialized y_2_nextCorner.cls ∈ sy_tb ∧ (y_2_nextCorner.cls ≠ "java/lang/invoke/MethodHandle" ∧ y_2_nextCorner.cls ≠ "java/lang/invoke/VarHandle" ∧ (parseMethodDescriptor y_2_nextCorner.desc).map (fun d => d.parameters.length) = some 1) := ⟨sy_inx 648 (by decide +kernel) (by decide +kernel), sy_inx 50 (by decide +kernel) (by decide +kernel), by decide +kernel⟩
theorem ii_2_nextCorner : Cond.instanceMethod y_2_nextCorner ∈ sy_tb ∧ Cond.selects y_2_nextCorner.cls y_2_nextCorner y_2_nextCorner ∈ sy_tb := ⟨sy_inx 647 (by decide +kernel) (by decide +kernel), sy_inx 14 (by decide +kernel) (by decide +kernel)⟩
theorem co_2_refresh (l : Launch) : sy_calls l rm_2_refresh y_2_refresh.cls c_2_refresh 4 (fun ns => (M_2_refresh ns).2.2.2.2.1) := by
  intro p e s m args below meth c rt wd ad ns A Q X hA q b n sp h
  replace h : ct_2_refresh ns q = some (b, n, sp) := h
  unfold ct_2_refresh at h
  split at h
  · cases h; exact sy_coV (ci := 2) X hA (mc_2_gather l) ⟨iw_2_gather.1, iw_2_gather.2.1, iw_2_gather.2.2, ⟨by decide, by decide⟩, rfl, rfl⟩ (sy_inx 631 (by decide +kernel) (by decide +kernel)) ii_2_gather.1 ii_2_gather.2 (rc_2_gather ns) ⟨_, rfl, rfl⟩
  · cases h; exact sy_coV (ci := 2) X hA (mc_2_lowestPoint l) ⟨iw_2_lowestPoint.1, iw_2_lowestPoint.2.1, iw_2_lowestPoint.2.2, ⟨by decide, by decide⟩, rfl, rfl⟩ (sy_inx 641 (by decide +kernel) (by decide +kernel)) ii_2_lowestPoint.1 ii_2_lowestPoint.2 (rc_2_lowestPoint ns) ⟨_, rfl, rfl⟩
  · cases h; exact sy_coV (ci := 2) X hA (mc_2_nextCorner l) ⟨iw_2_nextCorner.1, iw_2_nextCorner.2.1, iw_2_nextCorner.2.2, ⟨by decide, by decide⟩, rfl, rfl⟩ (sy_inx 645 (by decide +kernel) (by decide +kernel)) ii_2_nextCorner.1 ii_2_nextCorner.2 (rc_2_nextCorner ns) ⟨_, rfl, rfl⟩
  · cases h
theorem rc_2_refresh (ns : Nat) (as : List sy_V) (st : sy_S) (post : sy_R) (h : sp_2_refresh ns as st post) : ∃ b as', as = .inr (.inr (some (some b))) :: as' ∧ sy_ob b = some 2 := sy_m0_r rfl as st post h
theorem mc_2_refresh (l : Launch) : sy_MC l y_2_refresh c_2_refresh 4 none rm_2_refresh sp_2_refresh := by
  refine sy_meth M_2_refresh (by decide +kernel) mv_2_refresh (co_2_refresh l) ?_
  intro ns as st post WA h hok hrg ⟨hgo0, hin, hwk⟩
  have hgo : ∀ (n pc : Nat) (L k : List sy_V) (st : sy_S), rn_2_refresh ns (ct_2_refresh ns) post WA n pc L k st → WA pc L k st := fun n pc L k st h => hgo0 [39] n pc L k st h
  replace h := sy_m0_e h hok
  obtain ⟨rfl, h⟩ := h
  refine ⟨Nat.le_of_ble_eq_true rfl, ?_⟩
  show WA 0 [.inr (.inr (some (some 11))), .inr (.inr none), .inr (.inr none), .inr (.inr none)] [] st
  obtain ⟨⟨hs, hr, hd, hh, hkn⟩, h⟩ := h
  have hns := hs.2
  obtain ⟨m, hm1, hm2⟩ := xh_k_ex (c_L ns st)
  have hll := c_L_len ns st
  have hnd : (c_L ns st).Nodup := xh_pc_nodup ns hd
  have key : ∀ (d k : Nat), k + d + 1 = m → ∀ (s : sy_S) (a b : Nat), c_hw ns st s k → (a : Int) < s 11 3 → (b : Int) < s 11 3 → c_P s a = xh_c (c_L ns st) k → c_P s b = xh_c (c_L ns st) 0 → WA 39 [.inr (.inr (some (some 11))), .inl (true, (b : Int)), .inl (true, (a : Int)), .inl (true, (k : Int))] [] s := by
    intro d
    induction d with
    | zero =>
      intro k hk s a b hw ha hb pa pb
      refine hgo 100 _ _ _ _ ?_
      simp -implicitDefEqProofs only [↓rx_2_refresh_0, ↓rx_2_refresh_1, ↓rx_2_refresh_4, ↓rx_2_refresh_7, ↓rx_2_refresh_8, ↓rx_2_refresh_9, ↓rx_2_refresh_10, ↓rx_2_refresh_13, ↓rx_2_refresh_14, ↓rx_2_refresh_17, ↓rx_2_refresh_18, ↓rx_2_refresh_19, ↓rx_2_refresh_22, ↓rx_2_refresh_23, ↓rx_2_refresh_26, ↓rx_2_refresh_29, ↓rx_2_refresh_30, ↓rx_2_refresh_31, ↓rx_2_refresh_34, ↓rx_2_refresh_35, ↓rx_2_refresh_36, ↓rx_2_refresh_37, ↓rx_2_refresh_38, ↓rx_2_refresh_39, ↓rx_2_refresh_40, ↓rx_2_refresh_41, ↓rx_2_refresh_44, ↓rx_2_refresh_47, ↓rx_2_refresh_48, ↓rx_2_refresh_51, ↓rx_2_refresh_52, ↓rx_2_refresh_55, ↓rx_2_refresh_56, ↓rx_2_refresh_57, ↓rx_2_refresh_58, ↓rx_2_refresh_58_i, ↓rx_2_refresh_59, ↓rx_2_refresh_62, ↓rx_2_refresh_63, ↓rx_2_refresh_64, ↓rx_2_refresh_67, ↓rx_2_refresh_68, ↓rx_2_refresh_69, ↓rx_2_refresh_72, ↓rx_2_refresh_73, ↓rx_2_refresh_74, ↓rx_2_refresh_75, ↓rx_2_refresh_78, ↓rx_2_refresh_79, ↓rx_2_refresh_82, ↓rx_2_refresh_85, ↓cx_2_refresh_54, ↓cx_2_refresh_60, ↓cx_2_refresh_64, sp_2_gather, sp_2_lowestPoint, sp_2_nextCorner, ↓sx_s1, ↓sx_s2, ↓sx_s3, ↓sx_s4, ↓sx_s5, ↓sx_s6, ↓sx_m0, ↓sx_m1, ↓sx_m2, ↓sx_m3, ↓sx_m4, ↓sx_m5, ↓sx_m6, ↓sx_k0_, ↓sx_k1_, ↓sx_k2_, ↓sx_k3_, ↓sx_k4_, ↓sx_k5_, ↓sx_k6_, ↓sx_sLL, ↓sx_sAI, ↓sx_mLL, ↓sx_mIIL, ↓sx_mIILL, ↓sx_mIILLL, ↓sx_qS, ↓sx_qSI, ↓sx_qSIII, sx_rit, sx_rif, sx_rlt, sx_rlf, sx_b0, sx_b1, sx_o0, sx_o1i, sx_o1a, sx_o1l, sx_o2, sx_g0, sx_g1, sx_k1, sx_k2, sx_k3, sx_f1, sx_f2, sx_f3, sx_w0, sx_w1, sx_w2, sx_w3, sx_ts, sx_tn, sx_up, sx_nS1, sx_nS2, sx_nW1, sx_nW2, sx_SW, sx_WS, sy_nS_inj, sy_nW_inj, sx_ob0, sx_ob1, sx_ob2, sx_ob3, sx_ob4, sx_ob5, sx_ob6, sx_ob7, sx_ob8, sx_ob9, sx_ob10, sx_ob11, sx_ob12, sx_ob13, sx_ob14, sx_ob15, sx_ob16, sx_ob17, sx_ob18, sx_ob19, sx_ob20, sx_ob21, sx_ob22, sx_ob23, sx_ob24, sx_ob25, sx_ob26, sx_ob27, sx_ob28, sx_ob29, sx_ob30, sx_ob31, sx_ob32, sx_ob33, sx_ob34, sx_ob35, sx_ob36, sx_fv0_0, sx_fv0_1, sx_fv0_2, sx_fv0_3, sx_fv0_4, sx_fv0_5, sx_fv1_0, sx_fv1_1, sx_fv1_2, sx_fv3_0, sx_fv3_1, sx_fv3_2, sx_fv3_3, sx_fv3_4, sx_fv7_0, sx_fv7_1, sx_fv7_2, sx_fv7_3, sx_fv7_4, sx_fv7_5, sx_fv7_6, sx_fv7_7, sx_fv7_8, sx_fv7_9, sx_fv7_10, sx_fv9_0, sx_fv9_1, sx_fv9_2, sx_fv9_3, sx_fv11_0, sx_fv11_1, sx_fv11_2, sx_fv11_3, sx_fv11_4, sx_fv11_5, sx_fv11_6, sx_fv15_0, sx_fv15_1, sx_fv15_2, sx_fv15_3, sx_fv15_4, sx_fv15_5, sx_fv19_0, sx_fv19_1, sx_fv19_2, sx_fv19_3, sx_fv19_4, sx_fv19_5, sx_fv19_6, sx_fv24_0, sx_fv24_1, sx_fv24_2, sx_fv24_3, sx_fv24_4, sx_fv24_5, sx_fv24_6, sx_fv24_7, sx_fv24_8, sx_fv24_9, sx_fv24_10, sx_fv24_11, sx_fv24_12, sx_fv24_13, sx_fv24_14, sx_fv24_15, sx_fv24_16, sx_fv24_17, sx_fv24_18, sx_fvS_0, sx_fvS_1, sx_fvS_2, sx_fvS_3, sx_fvS_4, sx_fvS_5, sx_fvS_6, sx_fvS_7, sx_fvS_8, sx_fvS_9, sx_ar2, sx_ar4, sx_ar5, sx_ar6, sx_ar8, sx_ar10, sx_ar12, sx_ar13, sx_ar14, sx_ar16, sx_ar17, sx_ar18, sx_ar20, sx_ar21, sx_ar22, sx_ar23, sx_ar25, sx_ar26, sx_ar27, sx_ar28, sx_ar29, sx_ar30, sx_ar31, sx_ar32, sx_ar33, sx_ar34, sx_ar35, sx_ar36, sy_ob_S, sy_ob_W, sy_ar_W, sx_if0, sx_if1, sx_ie0, sx_em, Classical.not_not, sx_cle, sx_clt, sx_cge, sx_cgt, sx_ceq, Nat.reduceLT, Nat.reduceLeDiff, Nat.reduceAdd, Nat.reduceSub, Nat.reduceEqDiff, reduceIte, List.length_cons, List.length_nil, true_and, and_true, and_self, Bool.false_eq_true, true_implies, not_true_eq_false, not_false_eq_true, false_implies, implies_true, ne_eq, reduceCtorEq, Option.some.injEq, false_and, and_false, Int.reduceNeg, Int.reduceToNat, Int.reduceLT, Int.reduceLE, Int.reduceEq, Int.reduceAdd, Int.reduceSub, Int.reduceMul, or_false, false_or, or_true, true_or, forall_const, Int.toNat_natCast, Int.toNat_zero, Int.toNat_one, Nat.zero_add, or_self, Int.neg_eq_zero]
      have hn := hw.2.1.1
      have hL := hw.2.2.2.2.1
      have e5 := hw.2.2.2.1
      have hlen := congrArg List.length hL
      rw [List.length_map, List.length_range] at hlen
      have ec : sy_up (sy_up s 14 (s 11 5).toNat a) 11 5 (s 11 5 + 1) = c_co s k a := by rw [e5, Int.toNat_natCast]; rfl
      rw [ec, c_co_P, hL]
      have hw2 := c_hw_co hw (a := a) (by omega) (by omega) (by rw [Int.toNat_natCast]; exact pa)
      have hLn : c_L ns st ≠ [] := fun q => by rw [q] at hlen; simp at hlen; omega
      refine ⟨fun c => by omega, fun _ => ⟨by omega, by omega, ⟨hw2.2.1, by omega, hnd⟩, fun b1 hb1 pb1 => ⟨fun c => ?_, fun c => ?_⟩⟩⟩
      · exfalso
        rcases hm2 with ⟨z, _⟩ | ⟨_, _, z, _⟩
        · exact hLn z
        · rw [pa] at pb1
          have e : xh_c (c_L ns st) m = xh_n (c_L ns st) (xh_c (c_L ns st) k) := by rw [show m = k + 1 by omega]; rfl
          rw [← e, z, ← pb] at pb1
          exact c (by have := xh_idx (hL ▸ hnd) (by omega) (by omega) pb1; omega)
      · exact h _ (c_hw_hk hw2 (by rw [show k + 1 = m by omega]; exact hm2))
    | succ d ih =>
      intro k hk s a b hw ha hb pa pb
      refine hgo 100 _ _ _ _ ?_
      simp -implicitDefEqProofs only [↓rx_2_refresh_0, ↓rx_2_refresh_1, ↓rx_2_refresh_4, ↓rx_2_refresh_7, ↓rx_2_refresh_8, ↓rx_2_refresh_9, ↓rx_2_refresh_10, ↓rx_2_refresh_13, ↓rx_2_refresh_14, ↓rx_2_refresh_17, ↓rx_2_refresh_18, ↓rx_2_refresh_19, ↓rx_2_refresh_22, ↓rx_2_refresh_23, ↓rx_2_refresh_26, ↓rx_2_refresh_29, ↓rx_2_refresh_30, ↓rx_2_refresh_31, ↓rx_2_refresh_34, ↓rx_2_refresh_35, ↓rx_2_refresh_36, ↓rx_2_refresh_37, ↓rx_2_refresh_38, ↓rx_2_refresh_39, ↓rx_2_refresh_40, ↓rx_2_refresh_41, ↓rx_2_refresh_44, ↓rx_2_refresh_47, ↓rx_2_refresh_48, ↓rx_2_refresh_51, ↓rx_2_refresh_52, ↓rx_2_refresh_55, ↓rx_2_refresh_56, ↓rx_2_refresh_57, ↓rx_2_refresh_58, ↓rx_2_refresh_58_i, ↓rx_2_refresh_59, ↓rx_2_refresh_62, ↓rx_2_refresh_63, ↓rx_2_refresh_64, ↓rx_2_refresh_67, ↓rx_2_refresh_68, ↓rx_2_refresh_69, ↓rx_2_refresh_72, ↓rx_2_refresh_73, ↓rx_2_refresh_74, ↓rx_2_refresh_75, ↓rx_2_refresh_78, ↓rx_2_refresh_79, ↓rx_2_refresh_82, ↓rx_2_refresh_85, ↓cx_2_refresh_54, ↓cx_2_refresh_60, ↓cx_2_refresh_64, sp_2_gather, sp_2_lowestPoint, sp_2_nextCorner, ↓sx_s1, ↓sx_s2, ↓sx_s3, ↓sx_s4, ↓sx_s5, ↓sx_s6, ↓sx_m0, ↓sx_m1, ↓sx_m2, ↓sx_m3, ↓sx_m4, ↓sx_m5, ↓sx_m6, ↓sx_k0_, ↓sx_k1_, ↓sx_k2_, ↓sx_k3_, ↓sx_k4_, ↓sx_k5_, ↓sx_k6_, ↓sx_sLL, ↓sx_sAI, ↓sx_mLL, ↓sx_mIIL, ↓sx_mIILL, ↓sx_mIILLL, ↓sx_qS, ↓sx_qSI, ↓sx_qSIII, sx_rit, sx_rif, sx_rlt, sx_rlf, sx_b0, sx_b1, sx_o0, sx_o1i, sx_o1a, sx_o1l, sx_o2, sx_g0, sx_g1, sx_k1, sx_k2, sx_k3, sx_f1, sx_f2, sx_f3, sx_w0, sx_w1, sx_w2, sx_w3, sx_ts, sx_tn, sx_up, sx_nS1, sx_nS2, sx_nW1, sx_nW2, sx_SW, sx_WS, sy_nS_inj, sy_nW_inj, sx_ob0, sx_ob1, sx_ob2, sx_ob3, sx_ob4, sx_ob5, sx_ob6, sx_ob7, sx_ob8, sx_ob9, sx_ob10, sx_ob11, sx_ob12, sx_ob13, sx_ob14, sx_ob15, sx_ob16, sx_ob17, sx_ob18, sx_ob19, sx_ob20, sx_ob21, sx_ob22, sx_ob23, sx_ob24, sx_ob25, sx_ob26, sx_ob27, sx_ob28, sx_ob29, sx_ob30, sx_ob31, sx_ob32, sx_ob33, sx_ob34, sx_ob35, sx_ob36, sx_fv0_0, sx_fv0_1, sx_fv0_2, sx_fv0_3, sx_fv0_4, sx_fv0_5, sx_fv1_0, sx_fv1_1, sx_fv1_2, sx_fv3_0, sx_fv3_1, sx_fv3_2, sx_fv3_3, sx_fv3_4, sx_fv7_0, sx_fv7_1, sx_fv7_2, sx_fv7_3, sx_fv7_4, sx_fv7_5, sx_fv7_6, sx_fv7_7, sx_fv7_8, sx_fv7_9, sx_fv7_10, sx_fv9_0, sx_fv9_1, sx_fv9_2, sx_fv9_3, sx_fv11_0, sx_fv11_1, sx_fv11_2, sx_fv11_3, sx_fv11_4, sx_fv11_5, sx_fv11_6, sx_fv15_0, sx_fv15_1, sx_fv15_2, sx_fv15_3, sx_fv15_4, sx_fv15_5, sx_fv19_0, sx_fv19_1, sx_fv19_2, sx_fv19_3, sx_fv19_4, sx_fv19_5, sx_fv19_6, sx_fv24_0, sx_fv24_1, sx_fv24_2, sx_fv24_3, sx_fv24_4, sx_fv24_5, sx_fv24_6, sx_fv24_7, sx_fv24_8, sx_fv24_9, sx_fv24_10, sx_fv24_11, sx_fv24_12, sx_fv24_13, sx_fv24_14, sx_fv24_15, sx_fv24_16, sx_fv24_17, sx_fv24_18, sx_fvS_0, sx_fvS_1, sx_fvS_2, sx_fvS_3, sx_fvS_4, sx_fvS_5, sx_fvS_6, sx_fvS_7, sx_fvS_8, sx_fvS_9, sx_ar2, sx_ar4, sx_ar5, sx_ar6, sx_ar8, sx_ar10, sx_ar12, sx_ar13, sx_ar14, sx_ar16, sx_ar17, sx_ar18, sx_ar20, sx_ar21, sx_ar22, sx_ar23, sx_ar25, sx_ar26, sx_ar27, sx_ar28, sx_ar29, sx_ar30, sx_ar31, sx_ar32, sx_ar33, sx_ar34, sx_ar35, sx_ar36, sy_ob_S, sy_ob_W, sy_ar_W, sx_if0, sx_if1, sx_ie0, sx_em, Classical.not_not, sx_cle, sx_clt, sx_cge, sx_cgt, sx_ceq, Nat.reduceLT, Nat.reduceLeDiff, Nat.reduceAdd, Nat.reduceSub, Nat.reduceEqDiff, reduceIte, List.length_cons, List.length_nil, true_and, and_true, and_self, Bool.false_eq_true, true_implies, not_true_eq_false, not_false_eq_true, false_implies, implies_true, ne_eq, reduceCtorEq, Option.some.injEq, false_and, and_false, Int.reduceNeg, Int.reduceToNat, Int.reduceLT, Int.reduceLE, Int.reduceEq, Int.reduceAdd, Int.reduceSub, Int.reduceMul, or_false, false_or, or_true, true_or, forall_const, Int.toNat_natCast, Int.toNat_zero, Int.toNat_one, Nat.zero_add, or_self, Int.neg_eq_zero]
      have hn := hw.2.1.1
      have hL := hw.2.2.2.2.1
      have e5 := hw.2.2.2.1
      have hlen := congrArg List.length hL
      rw [List.length_map, List.length_range] at hlen
      have ec : sy_up (sy_up s 14 (s 11 5).toNat a) 11 5 (s 11 5 + 1) = c_co s k a := by rw [e5, Int.toNat_natCast]; rfl
      rw [ec, c_co_P, hL]
      have hw2 := c_hw_co hw (a := a) (by omega) (by omega) (by rw [Int.toNat_natCast]; exact pa)
      have hLn : c_L ns st ≠ [] := fun q => by rw [q] at hlen; simp at hlen; omega
      refine ⟨fun c => by omega, fun _ => ⟨by omega, by omega, ⟨hw2.2.1, by omega, hnd⟩, fun b1 hb1 pb1 => ⟨fun c => ?_, fun c => ?_⟩⟩⟩
      · have e : ((k : Int) + 1) = ((k + 1 : Nat) : Int) := by omega
        rw [e]
        refine ⟨by omega, ih (k + 1) (by omega) _ b1 b hw2 (by rw [c_co_k _ _ _ (by omega)]; exact hb1) (by rw [c_co_k _ _ _ (by omega)]; exact hb) ?_ (by rw [c_co_P]; exact pb)⟩
        rw [c_co_P, pb1, pa]; rfl
      · exfalso
        rcases hm2 with ⟨z, _⟩ | ⟨_, _, _, z⟩
        · exact hLn z
        · refine z (k + 1) (by omega) (by omega) ?_
          rw [← pb, show b = b1 by omega, pb1, pa]; rfl
  have e0 : c_hs st (sy_up st 11 6 1) := fun a ha => by rw [sy_up_ne _ _ (by omega)]
  have hr0 : c_hr (sy_up st 11 6 1) := by
    obtain ⟨h1, h2, h3, h4, h5⟩ := hh
    exact ⟨h1, h2, fun j => by rw [sy_up_ne _ _ (by omega)]; exact h3 j, fun j => by rw [sy_up_ne _ _ (by omega)]; exact h4 j, fun j => by rw [sy_up_ne _ _ (by omega)]; exact h5 j⟩
  have hr1 : ∀ s, c_ga (sy_up st 11 6 1) s (c_L ns (sy_up st 11 6 1)) → c_hr (sy_up s 11 5 0) := fun s hg => by
    obtain ⟨h1, h2, h3, h4, h5⟩ := hg.2.2.2.1
    exact ⟨h1, by unfold sy_up; simp, fun j => by rw [sy_up_ne _ _ (by omega)]; exact h3 j, fun j => by rw [sy_up_ne _ _ (by omega)]; exact h4 j, fun j => by rw [sy_up_ne _ _ (by omega)]; exact h5 j⟩
  have hw0 : ∀ s, c_ga (sy_up st 11 6 1) s (c_L ns (sy_up st 11 6 1)) → c_hw ns st (sy_up s 11 5 0) 0 := fun s hg => by
    refine ⟨fun a ha => by rw [sy_up_ne _ _ (by omega), hg.1 a ha, e0 a ha], hr1 s hg, ?_, rfl, ?_, fun j hj => by omega⟩
    · show s 11 6 = 1
      rw [hg.2.1 6 (by omega)]; rfl
    · have e2 : c_P (sy_up s 11 5 0) = c_P s := by
        funext j; unfold c_P; rw [sy_up_ne _ _ (by omega), sy_up_ne _ _ (by omega)]
      rw [e2, ← c_hs_L e0]
      exact hg.2.2.2.2
  refine hgo 100 _ _ _ _ ?_
  simp -implicitDefEqProofs only [↓rx_2_refresh_0, ↓rx_2_refresh_1, ↓rx_2_refresh_4, ↓rx_2_refresh_7, ↓rx_2_refresh_8, ↓rx_2_refresh_9, ↓rx_2_refresh_10, ↓rx_2_refresh_13, ↓rx_2_refresh_14, ↓rx_2_refresh_17, ↓rx_2_refresh_18, ↓rx_2_refresh_19, ↓rx_2_refresh_22, ↓rx_2_refresh_23, ↓rx_2_refresh_26, ↓rx_2_refresh_29, ↓rx_2_refresh_30, ↓rx_2_refresh_31, ↓rx_2_refresh_34, ↓rx_2_refresh_35, ↓rx_2_refresh_36, ↓rx_2_refresh_37, ↓rx_2_refresh_38, ↓rx_2_refresh_39, ↓rx_2_refresh_40, ↓rx_2_refresh_41, ↓rx_2_refresh_44, ↓rx_2_refresh_47, ↓rx_2_refresh_48, ↓rx_2_refresh_51, ↓rx_2_refresh_52, ↓rx_2_refresh_55, ↓rx_2_refresh_56, ↓rx_2_refresh_57, ↓rx_2_refresh_58, ↓rx_2_refresh_58_i, ↓rx_2_refresh_59, ↓rx_2_refresh_62, ↓rx_2_refresh_63, ↓rx_2_refresh_64, ↓rx_2_refresh_67, ↓rx_2_refresh_68, ↓rx_2_refresh_69, ↓rx_2_refresh_72, ↓rx_2_refresh_73, ↓rx_2_refresh_74, ↓rx_2_refresh_75, ↓rx_2_refresh_78, ↓rx_2_refresh_79, ↓rx_2_refresh_82, ↓rx_2_refresh_85, ↓cx_2_refresh_54, ↓cx_2_refresh_60, ↓cx_2_refresh_64, sp_2_gather, sp_2_lowestPoint, sp_2_nextCorner, ↓sx_s1, ↓sx_s2, ↓sx_s3, ↓sx_s4, ↓sx_s5, ↓sx_s6, ↓sx_m0, ↓sx_m1, ↓sx_m2, ↓sx_m3, ↓sx_m4, ↓sx_m5, ↓sx_m6, ↓sx_k0_, ↓sx_k1_, ↓sx_k2_, ↓sx_k3_, ↓sx_k4_, ↓sx_k5_, ↓sx_k6_, ↓sx_sLL, ↓sx_sAI, ↓sx_mLL, ↓sx_mIIL, ↓sx_mIILL, ↓sx_mIILLL, ↓sx_qS, ↓sx_qSI, ↓sx_qSIII, sx_rit, sx_rif, sx_rlt, sx_rlf, sx_b0, sx_b1, sx_o0, sx_o1i, sx_o1a, sx_o1l, sx_o2, sx_g0, sx_g1, sx_k1, sx_k2, sx_k3, sx_f1, sx_f2, sx_f3, sx_w0, sx_w1, sx_w2, sx_w3, sx_ts, sx_tn, sx_up, sx_nS1, sx_nS2, sx_nW1, sx_nW2, sx_SW, sx_WS, sy_nS_inj, sy_nW_inj, sx_ob0, sx_ob1, sx_ob2, sx_ob3, sx_ob4, sx_ob5, sx_ob6, sx_ob7, sx_ob8, sx_ob9, sx_ob10, sx_ob11, sx_ob12, sx_ob13, sx_ob14, sx_ob15, sx_ob16, sx_ob17, sx_ob18, sx_ob19, sx_ob20, sx_ob21, sx_ob22, sx_ob23, sx_ob24, sx_ob25, sx_ob26, sx_ob27, sx_ob28, sx_ob29, sx_ob30, sx_ob31, sx_ob32, sx_ob33, sx_ob34, sx_ob35, sx_ob36, sx_fv0_0, sx_fv0_1, sx_fv0_2, sx_fv0_3, sx_fv0_4, sx_fv0_5, sx_fv1_0, sx_fv1_1, sx_fv1_2, sx_fv3_0, sx_fv3_1, sx_fv3_2, sx_fv3_3, sx_fv3_4, sx_fv7_0, sx_fv7_1, sx_fv7_2, sx_fv7_3, sx_fv7_4, sx_fv7_5, sx_fv7_6, sx_fv7_7, sx_fv7_8, sx_fv7_9, sx_fv7_10, sx_fv9_0, sx_fv9_1, sx_fv9_2, sx_fv9_3, sx_fv11_0, sx_fv11_1, sx_fv11_2, sx_fv11_3, sx_fv11_4, sx_fv11_5, sx_fv11_6, sx_fv15_0, sx_fv15_1, sx_fv15_2, sx_fv15_3, sx_fv15_4, sx_fv15_5, sx_fv19_0, sx_fv19_1, sx_fv19_2, sx_fv19_3, sx_fv19_4, sx_fv19_5, sx_fv19_6, sx_fv24_0, sx_fv24_1, sx_fv24_2, sx_fv24_3, sx_fv24_4, sx_fv24_5, sx_fv24_6, sx_fv24_7, sx_fv24_8, sx_fv24_9, sx_fv24_10, sx_fv24_11, sx_fv24_12, sx_fv24_13, sx_fv24_14, sx_fv24_15, sx_fv24_16, sx_fv24_17, sx_fv24_18, sx_fvS_0, sx_fvS_1, sx_fvS_2, sx_fvS_3, sx_fvS_4, sx_fvS_5, sx_fvS_6, sx_fvS_7, sx_fvS_8, sx_fvS_9, sx_ar2, sx_ar4, sx_ar5, sx_ar6, sx_ar8, sx_ar10, sx_ar12, sx_ar13, sx_ar14, sx_ar16, sx_ar17, sx_ar18, sx_ar20, sx_ar21, sx_ar22, sx_ar23, sx_ar25, sx_ar26, sx_ar27, sx_ar28, sx_ar29, sx_ar30, sx_ar31, sx_ar32, sx_ar33, sx_ar34, sx_ar35, sx_ar36, sy_ob_S, sy_ob_W, sy_ar_W, sx_if0, sx_if1, sx_ie0, sx_em, Classical.not_not, sx_cle, sx_clt, sx_cge, sx_cgt, sx_ceq, Nat.reduceLT, Nat.reduceLeDiff, Nat.reduceAdd, Nat.reduceSub, Nat.reduceEqDiff, reduceIte, List.length_cons, List.length_nil, true_and, and_true, and_self, Bool.false_eq_true, true_implies, not_true_eq_false, not_false_eq_true, false_implies, implies_true, ne_eq, reduceCtorEq, Option.some.injEq, false_and, and_false, Int.reduceNeg, Int.reduceToNat, Int.reduceLT, Int.reduceLE, Int.reduceEq, Int.reduceAdd, Int.reduceSub, Int.reduceMul, or_false, false_or, or_true, true_or, forall_const, Int.toNat_natCast, Int.toNat_zero, Int.toNat_one, Nat.zero_add, or_self, Int.neg_eq_zero]
  refine ⟨fun c => ⟨⟨?_, ?_, ?_⟩, fun s hg => ⟨fun c2 => ⟨⟨?_, ?_⟩, fun b hb pb => ?_⟩, fun c2 => ?_⟩⟩, fun c => h st ⟨fun _ _ => rfl, hh, hkn.resolve_left c⟩⟩
  · unfold c_site; rw [sy_up_ne _ _ (by omega)]; exact hs
  · exact c_hs_rng e0 hr
  · exact hr0
  · exact hr1 s hg
  · have := hg.2.2.2.1.1; omega
  · have hw := hw0 s hg
    have hL := hw.2.2.2.2.1
    have e3 : sy_up s 11 5 0 11 3 = s 11 3 := rfl
    rw [e3] at hL
    have hgL := c_ga_n hg
    rw [c_hs_L e0] at hgL
    have pb0 : c_P (sy_up s 11 5 0) b = xh_c (c_L ns st) 0 := by
      rw [pb, hL]
      show _ = xh_0 _
      unfold xh_0
      congr 1
      rw [← hL, List.headD_eq_head?_getD, List.head?_map, List.head?_range, if_neg (by omega)]
      rfl
    refine key (m - 1) 0 ?_ _ b b hw hb hb pb0 pb0
    rcases hm2 with ⟨z, _⟩ | ⟨_, z, _⟩
    · rw [z] at hgL; simp at hgL; omega
    · omega
  · have hgL := c_ga_n hg
    rw [c_hs_L e0] at hgL
    have hLn : c_L ns st = [] := List.length_eq_zero_iff.mp (by omega)
    exact h _ (c_hw_hk (hw0 s hg) (Or.inl ⟨hLn, rfl⟩))
