/-! THE CLASS: the hull's points -/
def c_ch (st : sy_S) (i : Nat) : Bool := decide (st (sy_nS i) 5 = 1)
def c_L (ns : Nat) (st : sy_S) : List (Int × Int) := xh_pc (c_ch st) (fun i => c_at st i (st 1 2) (st (sy_nS i) 7)) (fun i => c_at st i (st 1 2) (st (sy_nS i) 8)) (fun i => st (sy_nS i) 0) ns
def c_hs (st s : sy_S) : Prop := ∀ a, a ≤ 10 ∨ 15 ≤ a → s a = st a
theorem c_hs_S {st s : sy_S} (h : c_hs st s) (i : Nat) : s (sy_nS i) = st (sy_nS i) := h _ (by unfold sy_nS; omega)
theorem c_hs_L {st s : sy_S} (h : c_hs st s) (n : Nat) : c_L n s = c_L n st := by
  unfold c_L c_ch c_at
  simp only [c_hs_S h, h 1 (by omega)]
theorem c_hs_rng {st s : sy_S} (h : c_hs st s) (hr : c_rng st) : c_rng s := c_rng_of (h 1 (by omega)) (c_hs_S h) hr
theorem c_ap_hs {st s : sy_S} (h : c_hs st s) (x y : Int) : c_hs st (c_ap s x y) := fun a ha => by
  unfold c_ap
  rw [sy_up_ne _ _ (by omega), sy_up_ne _ _ (by omega), sy_up_ne _ _ (by omega)]
  exact h a ha
theorem c_ap_n (s : sy_S) (x y : Int) : c_ap s x y 11 3 = s 11 3 + 1 := rfl
theorem c_ap_k (s : sy_S) (x y : Int) {k : Nat} (h : k ≠ 3) : c_ap s x y 11 k = s 11 k := by
  unfold c_ap sy_up; simp [h]
theorem c_ap_14 (s : sy_S) (x y : Int) : c_ap s x y 14 = s 14 := by
  unfold c_ap
  rw [sy_up_ne _ _ (by omega), sy_up_ne _ _ (by omega), sy_up_ne _ _ (by omega)]
theorem c_ap_12 (s : sy_S) (x y : Int) (j : Nat) : c_ap s x y 12 j = if j = (s 11 3).toNat then x else s 12 j := by
  unfold c_ap sy_up; simp
theorem c_ap_13 (s : sy_S) (x y : Int) (j : Nat) : c_ap s x y 13 j = if j = (s 11 3).toNat then y else s 13 j := by
  unfold c_ap sy_up; simp
theorem c_ap_L {s : sy_S} (h : 0 ≤ s 11 3) (x y : Int) : (List.range (c_ap s x y 11 3).toNat).map (c_P (c_ap s x y)) = (List.range (s 11 3).toNat).map (c_P s) ++ [(x, y)] := by
  rw [c_ap_n, show (s 11 3 + 1).toNat = (s 11 3).toNat + 1 by omega, xh_rs]
  congr 1
  · refine List.map_congr_left (fun j hj => ?_)
    have : j ≠ (s 11 3).toNat := by have := List.mem_range.mp hj; omega
    unfold c_P
    rw [c_ap_12, c_ap_13, if_neg this, if_neg this]
  · unfold c_P
    rw [c_ap_12, c_ap_13, if_pos rfl, if_pos rfl]
theorem c_ap_hr {s : sy_S} (h : c_hr s) {x y : Int} (hx : -15500 ≤ x ∧ x ≤ 15500) (hy : -2000 ≤ y ∧ y ≤ 2000) (hn : s 11 3 < 32) : c_hr (c_ap s x y) := by
  obtain ⟨h1, h2, h3, h4, h5⟩ := h
  refine ⟨by rw [c_ap_n]; omega, by rw [c_ap_k _ _ _ (by omega)]; exact h2, fun j => ?_, fun j => ?_, fun j => by rw [c_ap_14]; exact h5 j⟩
  · rw [c_ap_12]; split
    · exact hx
    · exact h3 j
  · rw [c_ap_13]; split
    · exact hy
    · exact h4 j
/-- what the gathering leaves -/
def c_ga (st s : sy_S) (L : List (Int × Int)) : Prop := c_hs st s ∧ (∀ k, k ≠ 3 → s 11 k = st 11 k) ∧ s 14 = st 14 ∧ c_hr s ∧ (List.range (s 11 3).toNat).map (c_P s) = L
theorem c_ga_ap {st s : sy_S} {L : List (Int × Int)} (h : c_ga st s L) {x y : Int} (hx : -15500 ≤ x ∧ x ≤ 15500) (hy : -2000 ≤ y ∧ y ≤ 2000) (hn : s 11 3 < 32) : c_ga st (c_ap s x y) (L ++ [(x, y)]) := by
  obtain ⟨h1, h2, h3, h4, h5⟩ := h
  exact ⟨c_ap_hs h1 x y, fun k hk => by rw [c_ap_k _ _ _ hk]; exact h2 k hk, by rw [c_ap_14]; exact h3, c_ap_hr h4 hx hy hn, by rw [c_ap_L h4.1.1, h5]⟩
theorem c_ga_n {st s : sy_S} {L : List (Int × Int)} (h : c_ga st s L) : s 11 3 = L.length := by
  have h1 := h.2.2.2.1.1
  have := congrArg List.length h.2.2.2.2
  rw [List.length_map, List.length_range] at this
  omega
theorem c_at_inj {st : sy_S} (hr : c_rng st) (i : Nat) {t u : Int} : c_at st i (st 1 2) t = c_at st i (st 1 2) u ↔ t = u := by
  unfold c_at
  have h0 := hr.1
  refine ⟨fun e => ?_, fun e => by rw [e]⟩
  have : st 1 2 * (t - st (sy_nS i) 4) = st 1 2 * (u - st (sy_nS i) 4) := by omega
  have := Int.eq_of_mul_eq_mul_left (by omega) this
  omega
theorem c_ap_S (s : sy_S) (x y : Int) (i : Nat) : c_ap s x y (sy_nS i) = s (sy_nS i) := by
  unfold c_ap
  rw [sy_up_ne _ _ (by unfold sy_nS; omega), sy_up_ne _ _ (by unfold sy_nS; omega), sy_up_ne _ _ (by unfold sy_nS; omega)]
theorem c_ap_1 (s : sy_S) (x y : Int) : c_ap s x y 1 = s 1 := by
  unfold c_ap
  rw [sy_up_ne _ _ (by omega), sy_up_ne _ _ (by omega), sy_up_ne _ _ (by omega)]
theorem c_ap_at (s : sy_S) (x y : Int) (i : Nat) (v t : Int) : c_at (c_ap s x y) i v t = c_at s i v t := by
  unfold c_at; rw [c_ap_S]
theorem c_L_succ (i : Nat) (st : sy_S) : c_L (i + 1) st = c_L i st ++ (if c_ch st i = true then xh_one (c_at st i (st 1 2) (st (sy_nS i) 7)) (c_at st i (st 1 2) (st (sy_nS i) 8)) (st (sy_nS i) 0) else []) := rfl
theorem c_L_len (i : Nat) (st : sy_S) : (c_L i st).length ≤ 2 * i := xh_pc_len _ _ _ _ i
def sp_2_gather (ns : Nat) : sy_Sp := sy_m0 11 fun st post => (c_site ns st ∧ c_rng st ∧ c_hr st) ∧ ∀ s, c_ga st s (c_L ns st) → post none s
def ct_2_gather (ns q : Nat) : Option (Bool × Nat × sy_Sp) := match q with
  | 70 => some (false, 2, sp_7_at ns)
  | 85 => some (false, 3, sp_6_placeOf ns)
  | 92 => some (false, 3, sp_2_addPoint ns)
  | _ => none
abbrev M_2_gather (ns : Nat) : sy_M := Mk_2_gather (ct_2_gather ns)
theorem cx_2_gather_70 {ns : Nat} {v1 v2 : sy_V} {r : List sy_V} {s : sy_S} {f : List sy_V → sy_S → Prop} : sy_call false (ct_2_gather ns 70) (v2 :: v1 :: r) s f = (sy_wd r ≤ 8 ∧ (sy_fit v2 ∧ sy_fit v1) ∧ sp_7_at ns [sy_kn v1, sy_kn v2] s (fun q t => f (q.toList ++ r) t)) := sx_call2
theorem cx_2_gather_85 {ns : Nat} {v1 v2 v3 : sy_V} {r : List sy_V} {s : sy_S} {f : List sy_V → sy_S → Prop} : sy_call false (ct_2_gather ns 85) (v3 :: v2 :: v1 :: r) s f = (sy_wd r ≤ 8 ∧ (sy_fit v3 ∧ sy_fit v2 ∧ sy_fit v1) ∧ sp_6_placeOf ns [sy_kn v1, sy_kn v2, sy_kn v3] s (fun q t => f (q.toList ++ r) t)) := sx_call3
theorem cx_2_gather_92 {ns : Nat} {v1 v2 v3 : sy_V} {r : List sy_V} {s : sy_S} {f : List sy_V → sy_S → Prop} : sy_call false (ct_2_gather ns 92) (v3 :: v2 :: v1 :: r) s f = (sy_wd r ≤ 8 ∧ (sy_fit v3 ∧ sy_fit v2 ∧ sy_fit v1) ∧ sp_2_addPoint ns [sy_kn v1, sy_kn v2, sy_kn v3] s (fun q t => f (q.toList ++ r) t)) := sx_call3
theorem mv_2_gather (ns : Nat) : sy_MV c_2_gather y_2_gather.cls none (M_2_gather ns) := ⟨tv_2_gather, ff_2_ok, ki_2_ok, kl_2_ok⟩
abbrev rm_2_gather : Room := { frames := 1, cells := 0, slots := 0, locals := 22 }
theorem iw_2_addPoint : Cond.code y_2_addPoint c_2_addPoint 3 none ∈ sy_tb ∧ Cond.initialized y_2_addPoint.cls ∈ sy_tb ∧ (y_2_addPoint.cls ≠ "java/lang/invoke/MethodHandle" ∧ y_2_addPoint.cls ≠ "java/lang/invoke/VarHandle" ∧ (parseMethodDescriptor y_2_addPoint.desc).map (fun d => d.parameters.length) = some 2) := ⟨sy_inx 640 (by decide +kernel) (by decide +kernel), sy_inx 50 (by decide +kernel) (by decide +kernel), by decide +kernel⟩
theorem ii_2_addPoint : Cond.instanceMethod y_2_addPoint ∈ sy_tb ∧ Cond.selects y_2_addPoint.cls y_2_addPoint y_2_addPoint ∈ sy_tb := ⟨sy_inx 639 (by decide +kernel) (by decide +kernel), sy_inx 12 (by decide +kernel) (by decide +kernel)⟩
theorem co_2_gather (l : Launch) : sy_calls l rm_2_gather y_2_gather.cls c_2_gather 3 (fun ns => (M_2_gather ns).2.2.2.2.1) := by
  intro p e s m args below meth c rt wd ad ns A Q X hA q b n sp h
  replace h : ct_2_gather ns q = some (b, n, sp) := h
  unfold ct_2_gather at h
  split at h
  · cases h; exact sy_coV (ci := 7) X hA (mc_7_at l) ⟨iw_7_at.1, iw_7_at.2.1, iw_7_at.2.2, ⟨by decide, by decide⟩, rfl, rfl⟩ (sy_inx 635 (by decide +kernel) (by decide +kernel)) ii_7_at.1 ii_7_at.2 (rc_7_at ns) ⟨_, rfl, rfl⟩
  · cases h; exact sy_coV (ci := 6) X hA (mc_6_placeOf l) ⟨iw_6_placeOf.1, iw_6_placeOf.2.1, iw_6_placeOf.2.2, ⟨by decide, by decide⟩, rfl, rfl⟩ (sy_inx 636 (by decide +kernel) (by decide +kernel)) ii_6_placeOf.1 ii_6_placeOf.2 (rc_6_placeOf ns) ⟨_, rfl, rfl⟩
  · cases h; exact sy_coV (ci := 2) X hA (mc_2_addPoint l) ⟨iw_2_addPoint.1, iw_2_addPoint.2.1, iw_2_addPoint.2.2, ⟨by decide, by decide⟩, rfl, rfl⟩ (sy_inx 637 (by decide +kernel) (by decide +kernel)) ii_2_addPoint.1 ii_2_addPoint.2 (rc_2_addPoint ns) ⟨_, rfl, rfl⟩
  · cases h
theorem rc_2_gather (ns : Nat) (as : List sy_V) (st : sy_S) (post : sy_R) (h : sp_2_gather ns as st post) : ∃ b as', as = .inr (.inr (some (some b))) :: as' ∧ sy_ob b = some 2 := sy_m0_r rfl as st post h
theorem mc_2_gather (l : Launch) : sy_MC l y_2_gather c_2_gather 3 none rm_2_gather sp_2_gather := by
  refine sy_meth M_2_gather (by decide +kernel) mv_2_gather (co_2_gather l) ?_
  intro ns as st post WA h hok hrg ⟨hgo0, hin, hwk⟩
  have hgo : ∀ (n pc : Nat) (L k : List sy_V) (st : sy_S), rn_2_gather ns (ct_2_gather ns) post WA n pc L k st → WA pc L k st := fun n pc L k st h => hgo0 [7] n pc L k st h
  replace h := sy_m0_e h hok
  obtain ⟨rfl, h⟩ := h
  refine ⟨Nat.le_of_ble_eq_true rfl, ?_⟩
  show WA 0 [.inr (.inr (some (some 11))), .inr (.inr none), .inr (.inr none)] [] st
  obtain ⟨⟨hs, hr, hh⟩, h⟩ := h
  have hns := hs.2
  have key : ∀ (d i : Nat), i + d = ns → ∀ s, c_ga st s (c_L i st) → WA 7 [.inr (.inr (some (some 11))), .inl (true, (i : Int)), .inr (.inr none)] [] s := by
    intro d
    induction d with
    | zero =>
      intro i hi s hg
      have e1 := hg.1 1 (by omega)
      have hsn := hs.1
      refine hgo 100 _ _ _ _ ?_
      simp -implicitDefEqProofs only [↓rx_2_gather_0, ↓rx_2_gather_1, ↓rx_2_gather_2, ↓rx_2_gather_5, ↓rx_2_gather_6, ↓rx_2_gather_7, ↓rx_2_gather_8, ↓rx_2_gather_9, ↓rx_2_gather_12, ↓rx_2_gather_15, ↓rx_2_gather_18, ↓rx_2_gather_19, ↓rx_2_gather_22, ↓rx_2_gather_23, ↓rx_2_gather_26, ↓rx_2_gather_27, ↓rx_2_gather_28, ↓rx_2_gather_28_n, ↓rx_2_gather_31, ↓rx_2_gather_32, ↓rx_2_gather_35, ↓rx_2_gather_36, ↓rx_2_gather_39, ↓rx_2_gather_40, ↓rx_2_gather_41, ↓rx_2_gather_42, ↓rx_2_gather_45, ↓rx_2_gather_48, ↓rx_2_gather_49, ↓rx_2_gather_52, ↓rx_2_gather_55, ↓rx_2_gather_56, ↓rx_2_gather_59, ↓rx_2_gather_62, ↓rx_2_gather_63, ↓rx_2_gather_66, ↓rx_2_gather_67, ↓rx_2_gather_70, ↓rx_2_gather_73, ↓rx_2_gather_74, ↓rx_2_gather_75, ↓rx_2_gather_76, ↓rx_2_gather_79, ↓rx_2_gather_82, ↓rx_2_gather_83, ↓rx_2_gather_86, ↓rx_2_gather_89, ↓rx_2_gather_90, ↓rx_2_gather_93, ↓rx_2_gather_96, ↓rx_2_gather_99, ↓rx_2_gather_102, ↓cx_2_gather_70, ↓cx_2_gather_85, ↓cx_2_gather_92, sp_2_addPoint, sp_6_placeOf, sp_7_at, e1, ↓sx_s1, ↓sx_s2, ↓sx_s3, ↓sx_s4, ↓sx_s5, ↓sx_s6, ↓sx_m0, ↓sx_m1, ↓sx_m2, ↓sx_m3, ↓sx_m4, ↓sx_m5, ↓sx_m6, ↓sx_k0_, ↓sx_k1_, ↓sx_k2_, ↓sx_k3_, ↓sx_k4_, ↓sx_k5_, ↓sx_k6_, ↓sx_sLL, ↓sx_sAI, ↓sx_mLL, ↓sx_mIIL, ↓sx_mIILL, ↓sx_mIILLL, ↓sx_qS, ↓sx_qSI, ↓sx_qSIII, sx_rit, sx_rif, sx_rlt, sx_rlf, sx_b0, sx_b1, sx_o0, sx_o1i, sx_o1a, sx_o1l, sx_o2, sx_g0, sx_g1, sx_k1, sx_k2, sx_k3, sx_f1, sx_f2, sx_f3, sx_w0, sx_w1, sx_w2, sx_w3, sx_ts, sx_tn, sx_up, sx_nS1, sx_nS2, sx_nW1, sx_nW2, sx_SW, sx_WS, sy_nS_inj, sy_nW_inj, sx_ob0, sx_ob1, sx_ob2, sx_ob3, sx_ob4, sx_ob5, sx_ob6, sx_ob7, sx_ob8, sx_ob9, sx_ob10, sx_ob11, sx_ob12, sx_ob13, sx_ob14, sx_ob15, sx_ob16, sx_ob17, sx_ob18, sx_ob19, sx_ob20, sx_ob21, sx_ob22, sx_ob23, sx_ob24, sx_ob25, sx_ob26, sx_ob27, sx_ob28, sx_ob29, sx_ob30, sx_ob31, sx_ob32, sx_ob33, sx_ob34, sx_ob35, sx_ob36, sx_fv0_0, sx_fv0_1, sx_fv0_2, sx_fv0_3, sx_fv0_4, sx_fv0_5, sx_fv1_0, sx_fv1_1, sx_fv1_2, sx_fv3_0, sx_fv3_1, sx_fv3_2, sx_fv3_3, sx_fv3_4, sx_fv7_0, sx_fv7_1, sx_fv7_2, sx_fv7_3, sx_fv7_4, sx_fv7_5, sx_fv7_6, sx_fv7_7, sx_fv7_8, sx_fv7_9, sx_fv7_10, sx_fv9_0, sx_fv9_1, sx_fv9_2, sx_fv9_3, sx_fv11_0, sx_fv11_1, sx_fv11_2, sx_fv11_3, sx_fv11_4, sx_fv11_5, sx_fv11_6, sx_fv15_0, sx_fv15_1, sx_fv15_2, sx_fv15_3, sx_fv15_4, sx_fv15_5, sx_fv19_0, sx_fv19_1, sx_fv19_2, sx_fv19_3, sx_fv19_4, sx_fv19_5, sx_fv19_6, sx_fv24_0, sx_fv24_1, sx_fv24_2, sx_fv24_3, sx_fv24_4, sx_fv24_5, sx_fv24_6, sx_fv24_7, sx_fv24_8, sx_fv24_9, sx_fv24_10, sx_fv24_11, sx_fv24_12, sx_fv24_13, sx_fv24_14, sx_fv24_15, sx_fv24_16, sx_fv24_17, sx_fv24_18, sx_fvS_0, sx_fvS_1, sx_fvS_2, sx_fvS_3, sx_fvS_4, sx_fvS_5, sx_fvS_6, sx_fvS_7, sx_fvS_8, sx_fvS_9, sx_ar2, sx_ar4, sx_ar5, sx_ar6, sx_ar8, sx_ar10, sx_ar12, sx_ar13, sx_ar14, sx_ar16, sx_ar17, sx_ar18, sx_ar20, sx_ar21, sx_ar22, sx_ar23, sx_ar25, sx_ar26, sx_ar27, sx_ar28, sx_ar29, sx_ar30, sx_ar31, sx_ar32, sx_ar33, sx_ar34, sx_ar35, sx_ar36, sy_ob_S, sy_ob_W, sy_ar_W, sx_if0, sx_if1, sx_ie0, sx_em, Classical.not_not, sx_cle, sx_clt, sx_cge, sx_cgt, sx_ceq, Nat.reduceLT, Nat.reduceLeDiff, Nat.reduceAdd, Nat.reduceSub, Nat.reduceEqDiff, reduceIte, List.length_cons, List.length_nil, true_and, and_true, and_self, Bool.false_eq_true, true_implies, not_true_eq_false, not_false_eq_true, false_implies, implies_true, ne_eq, reduceCtorEq, Option.some.injEq, false_and, and_false, Int.reduceNeg, Int.reduceToNat, Int.reduceLT, Int.reduceLE, Int.reduceEq, Int.reduceAdd, Int.reduceSub, Int.reduceMul, or_false, false_or, or_true, true_or, forall_const, Int.toNat_natCast, Int.toNat_zero, Int.toNat_one, Nat.zero_add, or_self, Int.neg_eq_zero]
      have e : i = ns := by omega
      subst e
      exact ⟨fun _ => h s hg, fun c => by omega⟩
    | succ d ih =>
      intro i hi s hg
      have e1 := hg.1 1 (by omega)
      have eS := c_hs_S hg.1
      have hsn := hs.1
      have ea : ∀ v t, c_at s i v t = c_at st i v t := fun v t => by unfold c_at; rw [eS]
      have hn := c_ga_n hg
      have hl := c_L_len i st
      have t7 := hr.2.2.2.2.2 i 7 (by omega) (by omega)
      have t8 := hr.2.2.2.2.2 i 8 (by omega) (by omega)
      have a7 := c_at_rng hr i hr.1 t7
      have a8 := c_at_rng hr i hr.1 t8
      have hy := hr.2.1 i
      have cs : c_site ns s := by unfold c_site; rw [e1]; exact hs
      refine hgo 100 _ _ _ _ ?_
      simp -implicitDefEqProofs only [↓rx_2_gather_0, ↓rx_2_gather_1, ↓rx_2_gather_2, ↓rx_2_gather_5, ↓rx_2_gather_6, ↓rx_2_gather_7, ↓rx_2_gather_8, ↓rx_2_gather_9, ↓rx_2_gather_12, ↓rx_2_gather_15, ↓rx_2_gather_18, ↓rx_2_gather_19, ↓rx_2_gather_22, ↓rx_2_gather_23, ↓rx_2_gather_26, ↓rx_2_gather_27, ↓rx_2_gather_28, ↓rx_2_gather_28_n, ↓rx_2_gather_31, ↓rx_2_gather_32, ↓rx_2_gather_35, ↓rx_2_gather_36, ↓rx_2_gather_39, ↓rx_2_gather_40, ↓rx_2_gather_41, ↓rx_2_gather_42, ↓rx_2_gather_45, ↓rx_2_gather_48, ↓rx_2_gather_49, ↓rx_2_gather_52, ↓rx_2_gather_55, ↓rx_2_gather_56, ↓rx_2_gather_59, ↓rx_2_gather_62, ↓rx_2_gather_63, ↓rx_2_gather_66, ↓rx_2_gather_67, ↓rx_2_gather_70, ↓rx_2_gather_73, ↓rx_2_gather_74, ↓rx_2_gather_75, ↓rx_2_gather_76, ↓rx_2_gather_79, ↓rx_2_gather_82, ↓rx_2_gather_83, ↓rx_2_gather_86, ↓rx_2_gather_89, ↓rx_2_gather_90, ↓rx_2_gather_93, ↓rx_2_gather_96, ↓rx_2_gather_99, ↓rx_2_gather_102, ↓cx_2_gather_70, ↓cx_2_gather_85, ↓cx_2_gather_92, sp_2_addPoint, sp_6_placeOf, sp_7_at, e1, eS, c_ap_S, c_ap_1, c_ap_at, ea, ↓sx_s1, ↓sx_s2, ↓sx_s3, ↓sx_s4, ↓sx_s5, ↓sx_s6, ↓sx_m0, ↓sx_m1, ↓sx_m2, ↓sx_m3, ↓sx_m4, ↓sx_m5, ↓sx_m6, ↓sx_k0_, ↓sx_k1_, ↓sx_k2_, ↓sx_k3_, ↓sx_k4_, ↓sx_k5_, ↓sx_k6_, ↓sx_sLL, ↓sx_sAI, ↓sx_mLL, ↓sx_mIIL, ↓sx_mIILL, ↓sx_mIILLL, ↓sx_qS, ↓sx_qSI, ↓sx_qSIII, sx_rit, sx_rif, sx_rlt, sx_rlf, sx_b0, sx_b1, sx_o0, sx_o1i, sx_o1a, sx_o1l, sx_o2, sx_g0, sx_g1, sx_k1, sx_k2, sx_k3, sx_f1, sx_f2, sx_f3, sx_w0, sx_w1, sx_w2, sx_w3, sx_ts, sx_tn, sx_up, sx_nS1, sx_nS2, sx_nW1, sx_nW2, sx_SW, sx_WS, sy_nS_inj, sy_nW_inj, sx_ob0, sx_ob1, sx_ob2, sx_ob3, sx_ob4, sx_ob5, sx_ob6, sx_ob7, sx_ob8, sx_ob9, sx_ob10, sx_ob11, sx_ob12, sx_ob13, sx_ob14, sx_ob15, sx_ob16, sx_ob17, sx_ob18, sx_ob19, sx_ob20, sx_ob21, sx_ob22, sx_ob23, sx_ob24, sx_ob25, sx_ob26, sx_ob27, sx_ob28, sx_ob29, sx_ob30, sx_ob31, sx_ob32, sx_ob33, sx_ob34, sx_ob35, sx_ob36, sx_fv0_0, sx_fv0_1, sx_fv0_2, sx_fv0_3, sx_fv0_4, sx_fv0_5, sx_fv1_0, sx_fv1_1, sx_fv1_2, sx_fv3_0, sx_fv3_1, sx_fv3_2, sx_fv3_3, sx_fv3_4, sx_fv7_0, sx_fv7_1, sx_fv7_2, sx_fv7_3, sx_fv7_4, sx_fv7_5, sx_fv7_6, sx_fv7_7, sx_fv7_8, sx_fv7_9, sx_fv7_10, sx_fv9_0, sx_fv9_1, sx_fv9_2, sx_fv9_3, sx_fv11_0, sx_fv11_1, sx_fv11_2, sx_fv11_3, sx_fv11_4, sx_fv11_5, sx_fv11_6, sx_fv15_0, sx_fv15_1, sx_fv15_2, sx_fv15_3, sx_fv15_4, sx_fv15_5, sx_fv19_0, sx_fv19_1, sx_fv19_2, sx_fv19_3, sx_fv19_4, sx_fv19_5, sx_fv19_6, sx_fv24_0, sx_fv24_1, sx_fv24_2, sx_fv24_3, sx_fv24_4, sx_fv24_5, sx_fv24_6, sx_fv24_7, sx_fv24_8, sx_fv24_9, sx_fv24_10, sx_fv24_11, sx_fv24_12, sx_fv24_13, sx_fv24_14, sx_fv24_15, sx_fv24_16, sx_fv24_17, sx_fv24_18, sx_fvS_0, sx_fvS_1, sx_fvS_2, sx_fvS_3, sx_fvS_4, sx_fvS_5, sx_fvS_6, sx_fvS_7, sx_fvS_8, sx_fvS_9, sx_ar2, sx_ar4, sx_ar5, sx_ar6, sx_ar8, sx_ar10, sx_ar12, sx_ar13, sx_ar14, sx_ar16, sx_ar17, sx_ar18, sx_ar20, sx_ar21, sx_ar22, sx_ar23, sx_ar25, sx_ar26, sx_ar27, sx_ar28, sx_ar29, sx_ar30, sx_ar31, sx_ar32, sx_ar33, sx_ar34, sx_ar35, sx_ar36, sy_ob_S, sy_ob_W, sy_ar_W, sx_if0, sx_if1, sx_ie0, sx_em, Classical.not_not, sx_cle, sx_clt, sx_cge, sx_cgt, sx_ceq, Nat.reduceLT, Nat.reduceLeDiff, Nat.reduceAdd, Nat.reduceSub, Nat.reduceEqDiff, reduceIte, List.length_cons, List.length_nil, true_and, and_true, and_self, Bool.false_eq_true, true_implies, not_true_eq_false, not_false_eq_true, false_implies, implies_true, ne_eq, reduceCtorEq, Option.some.injEq, false_and, and_false, Int.reduceNeg, Int.reduceToNat, Int.reduceLT, Int.reduceLE, Int.reduceEq, Int.reduceAdd, Int.reduceSub, Int.reduceMul, or_false, false_or, or_true, true_or, forall_const, Int.toNat_natCast, Int.toNat_zero, Int.toNat_one, Nat.zero_add, or_self, Int.neg_eq_zero]
      have e : ((i : Int) + 1) = ((i + 1 : Nat) : Int) := by omega
      rw [e]
      have cL := c_L_succ i st
      have hw : ∀ {s' v}, c_ga st s' (c_L (i + 1) st) → WA 7 [.inr (.inr (some (some 11))), .inl (true, ((i + 1 : Nat) : Int)), v] [] s' := fun q => hwk _ _ _ _ _ (by exact ⟨Or.inl rfl, Or.inl rfl, Or.inr rfl, trivial⟩) (ih (i + 1) (by omega) _ q)
      refine ⟨fun c => by omega, fun _ => ⟨cs, fun _ => ⟨fun c => ⟨by omega, hw ?_⟩, fun c => ⟨by omega, ⟨c_hs_rng hg.1 hr, hr.1, t7⟩, by omega, fun c2 => ⟨by omega, hw ?_⟩, fun c2 => ⟨by omega, ⟨c_hs_rng (c_ap_hs hg.1 _ _) hr, hr.1, t8⟩, ⟨by rw [c_ap_n]; omega, by rw [c_ap_n]; omega⟩, by omega, hw ?_⟩⟩⟩, fun c => by omega⟩⟩
      · rw [cL, if_neg (by unfold c_ch; rw [decide_eq_true_eq]; exact c), List.append_nil]; exact hg
      · rw [cL, if_pos (by unfold c_ch; rw [decide_eq_true_eq]; exact c)]
        unfold xh_one
        rw [if_pos ((c_at_inj hr i).mpr c2)]
        exact c_ga_ap hg a7 hy (by omega)
      · rw [cL, if_pos (by unfold c_ch; rw [decide_eq_true_eq]; exact c)]
        unfold xh_one
        rw [if_neg (fun q => c2 ((c_at_inj hr i).mp q))]
        have g1 := c_ga_ap hg a7 hy (by omega)
        have g2 := c_ga_ap g1 a8 hy (by rw [c_ap_n]; omega)
        rw [List.append_assoc] at g2
        exact g2
  refine hgo 100 _ _ _ _ ?_
  simp -implicitDefEqProofs only [↓rx_2_gather_0, ↓rx_2_gather_1, ↓rx_2_gather_2, ↓rx_2_gather_5, ↓rx_2_gather_6, ↓rx_2_gather_7, ↓rx_2_gather_8, ↓rx_2_gather_9, ↓rx_2_gather_12, ↓rx_2_gather_15, ↓rx_2_gather_18, ↓rx_2_gather_19, ↓rx_2_gather_22, ↓rx_2_gather_23, ↓rx_2_gather_26, ↓rx_2_gather_27, ↓rx_2_gather_28, ↓rx_2_gather_28_n, ↓rx_2_gather_31, ↓rx_2_gather_32, ↓rx_2_gather_35, ↓rx_2_gather_36, ↓rx_2_gather_39, ↓rx_2_gather_40, ↓rx_2_gather_41, ↓rx_2_gather_42, ↓rx_2_gather_45, ↓rx_2_gather_48, ↓rx_2_gather_49, ↓rx_2_gather_52, ↓rx_2_gather_55, ↓rx_2_gather_56, ↓rx_2_gather_59, ↓rx_2_gather_62, ↓rx_2_gather_63, ↓rx_2_gather_66, ↓rx_2_gather_67, ↓rx_2_gather_70, ↓rx_2_gather_73, ↓rx_2_gather_74, ↓rx_2_gather_75, ↓rx_2_gather_76, ↓rx_2_gather_79, ↓rx_2_gather_82, ↓rx_2_gather_83, ↓rx_2_gather_86, ↓rx_2_gather_89, ↓rx_2_gather_90, ↓rx_2_gather_93, ↓rx_2_gather_96, ↓rx_2_gather_99, ↓rx_2_gather_102, ↓cx_2_gather_70, ↓cx_2_gather_85, ↓cx_2_gather_92, sp_2_addPoint, sp_6_placeOf, sp_7_at, ↓sx_s1, ↓sx_s2, ↓sx_s3, ↓sx_s4, ↓sx_s5, ↓sx_s6, ↓sx_m0, ↓sx_m1, ↓sx_m2, ↓sx_m3, ↓sx_m4, ↓sx_m5, ↓sx_m6, ↓sx_k0_, ↓sx_k1_, ↓sx_k2_, ↓sx_k3_, ↓sx_k4_, ↓sx_k5_, ↓sx_k6_, ↓sx_sLL, ↓sx_sAI, ↓sx_mLL, ↓sx_mIIL, ↓sx_mIILL, ↓sx_mIILLL, ↓sx_qS, ↓sx_qSI, ↓sx_qSIII, sx_rit, sx_rif, sx_rlt, sx_rlf, sx_b0, sx_b1, sx_o0, sx_o1i, sx_o1a, sx_o1l, sx_o2, sx_g0, sx_g1, sx_k1, sx_k2, sx_k3, sx_f1, sx_f2, sx_f3, sx_w0, sx_w1, sx_w2, sx_w3, sx_ts, sx_tn, sx_up, sx_nS1, sx_nS2, sx_nW1, sx_nW2, sx_SW, sx_WS, sy_nS_inj, sy_nW_inj, sx_ob0, sx_ob1, sx_ob2, sx_ob3, sx_ob4, sx_ob5, sx_ob6, sx_ob7, sx_ob8, sx_ob9, sx_ob10, sx_ob11, sx_ob12, sx_ob13, sx_ob14, sx_ob15, sx_ob16, sx_ob17, sx_ob18, sx_ob19, sx_ob20, sx_ob21, sx_ob22, sx_ob23, sx_ob24, sx_ob25, sx_ob26, sx_ob27, sx_ob28, sx_ob29, sx_ob30, sx_ob31, sx_ob32, sx_ob33, sx_ob34, sx_ob35, sx_ob36, sx_fv0_0, sx_fv0_1, sx_fv0_2, sx_fv0_3, sx_fv0_4, sx_fv0_5, sx_fv1_0, sx_fv1_1, sx_fv1_2, sx_fv3_0, sx_fv3_1, sx_fv3_2, sx_fv3_3, sx_fv3_4, sx_fv7_0, sx_fv7_1, sx_fv7_2, sx_fv7_3, sx_fv7_4, sx_fv7_5, sx_fv7_6, sx_fv7_7, sx_fv7_8, sx_fv7_9, sx_fv7_10, sx_fv9_0, sx_fv9_1, sx_fv9_2, sx_fv9_3, sx_fv11_0, sx_fv11_1, sx_fv11_2, sx_fv11_3, sx_fv11_4, sx_fv11_5, sx_fv11_6, sx_fv15_0, sx_fv15_1, sx_fv15_2, sx_fv15_3, sx_fv15_4, sx_fv15_5, sx_fv19_0, sx_fv19_1, sx_fv19_2, sx_fv19_3, sx_fv19_4, sx_fv19_5, sx_fv19_6, sx_fv24_0, sx_fv24_1, sx_fv24_2, sx_fv24_3, sx_fv24_4, sx_fv24_5, sx_fv24_6, sx_fv24_7, sx_fv24_8, sx_fv24_9, sx_fv24_10, sx_fv24_11, sx_fv24_12, sx_fv24_13, sx_fv24_14, sx_fv24_15, sx_fv24_16, sx_fv24_17, sx_fv24_18, sx_fvS_0, sx_fvS_1, sx_fvS_2, sx_fvS_3, sx_fvS_4, sx_fvS_5, sx_fvS_6, sx_fvS_7, sx_fvS_8, sx_fvS_9, sx_ar2, sx_ar4, sx_ar5, sx_ar6, sx_ar8, sx_ar10, sx_ar12, sx_ar13, sx_ar14, sx_ar16, sx_ar17, sx_ar18, sx_ar20, sx_ar21, sx_ar22, sx_ar23, sx_ar25, sx_ar26, sx_ar27, sx_ar28, sx_ar29, sx_ar30, sx_ar31, sx_ar32, sx_ar33, sx_ar34, sx_ar35, sx_ar36, sy_ob_S, sy_ob_W, sy_ar_W, sx_if0, sx_if1, sx_ie0, sx_em, Classical.not_not, sx_cle, sx_clt, sx_cge, sx_cgt, sx_ceq, Nat.reduceLT, Nat.reduceLeDiff, Nat.reduceAdd, Nat.reduceSub, Nat.reduceEqDiff, reduceIte, List.length_cons, List.length_nil, true_and, and_true, and_self, Bool.false_eq_true, true_implies, not_true_eq_false, not_false_eq_true, false_implies, implies_true, ne_eq, reduceCtorEq, Option.some.injEq, false_and, and_false, Int.reduceNeg, Int.reduceToNat, Int.reduceLT, Int.reduceLE, Int.reduceEq, Int.reduceAdd, Int.reduceSub, Int.reduceMul, or_false, false_or, or_true, true_or, forall_const, Int.toNat_natCast, Int.toNat_zero, Int.toNat_one, Nat.zero_add, or_self, Int.neg_eq_zero]
  refine key ns 0 (by omega) _ ⟨fun a ha => by rw [sy_up_ne _ _ (by omega)], fun k hk => by unfold sy_up; simp [hk], by rw [sy_up_ne _ _ (by omega)], ?_, rfl⟩
  obtain ⟨h1, h2, h3, h4, h5⟩ := hh
  exact ⟨by unfold sy_up; simp, by unfold sy_up; simp; exact h2, fun j => by rw [sy_up_ne _ _ (by omega)]; exact h3 j, fun j => by rw [sy_up_ne _ _ (by omega)]; exact h4 j, fun j => by rw [sy_up_ne _ _ (by omega)]; exact h5 j⟩
