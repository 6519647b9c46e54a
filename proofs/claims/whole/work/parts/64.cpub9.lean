/-! THE CLASS: ring, inside, corner, quarrels -/
def c_ev (st : sy_S) (f : Int) (k : Nat) : Bool := x_ev (c_da st k) (c_db st k) (c_fg st f 0) (st 15 5)
def c_ring (st : sy_S) (f w : Int) : Int := if (0 ≤ f ∧ f < st 3 4) ∧ (0 ≤ w ∧ w ≤ 2) then (if w = 0 then xc (c_ev st f) (st 15 4).toNat else if xc (c_ev st f) (st 15 4).toNat < st 15 4 ∨ st 15 4 = 0 then -1 else xr (decide (w = 2)) (c_p st (c_fg st f 0) (c_fg st f 1)) (c_q st (c_fg st f 0) (c_fg st f 1)) (st 15 4).toNat) else -1
def sp_8_ring (ns : Nat) : sy_Sp := sy_m2 0 fun f w st post => (c_site ns st ∧ c_rng st ∧ c_dips ns st ∧ c_net st) ∧ post (some (.inr (.inl (true, c_ring st f w)))) st
def ct_8_ring (ns q : Nat) : Option (Bool × Nat × sy_Sp) := match q with
  | 114 => some (false, 2, sp_3_has ns)
  | 120 => some (false, 3, sp_3_valueOf ns)
  | 185 => some (false, 2, sp_1_howManyEven ns)
  | 188 => some (false, 4, sp_1_square ns)
  | _ => none
abbrev M_8_ring (ns : Nat) : sy_M := Mk_8_ring (ct_8_ring ns)
theorem cx_8_ring_114 {ns : Nat} {v1 v2 : sy_V} {r : List sy_V} {s : sy_S} {f : List sy_V → sy_S → Prop} : sy_call false (ct_8_ring ns 114) (v2 :: v1 :: r) s f = (sy_wd r ≤ 8 ∧ (sy_fit v2 ∧ sy_fit v1) ∧ sp_3_has ns [sy_kn v1, sy_kn v2] s (fun q t => f (q.toList ++ r) t)) := sx_call2
theorem cx_8_ring_120 {ns : Nat} {v1 v2 v3 : sy_V} {r : List sy_V} {s : sy_S} {f : List sy_V → sy_S → Prop} : sy_call false (ct_8_ring ns 120) (v3 :: v2 :: v1 :: r) s f = (sy_wd r ≤ 8 ∧ (sy_fit v3 ∧ sy_fit v2 ∧ sy_fit v1) ∧ sp_3_valueOf ns [sy_kn v1, sy_kn v2, sy_kn v3] s (fun q t => f (q.toList ++ r) t)) := sx_call3
theorem cx_8_ring_185 {ns : Nat} {v1 v2 : sy_V} {r : List sy_V} {s : sy_S} {f : List sy_V → sy_S → Prop} : sy_call false (ct_8_ring ns 185) (v2 :: v1 :: r) s f = (sy_wd r ≤ 8 ∧ (sy_fit v2 ∧ sy_fit v1) ∧ sp_1_howManyEven ns [sy_kn v1, sy_kn v2] s (fun q t => f (q.toList ++ r) t)) := sx_call2
theorem cx_8_ring_188 {ns : Nat} {v1 v2 v3 v4 : sy_V} {r : List sy_V} {s : sy_S} {f : List sy_V → sy_S → Prop} : sy_call false (ct_8_ring ns 188) (v4 :: v3 :: v2 :: v1 :: r) s f = (sy_wd r ≤ 8 ∧ (sy_fit v4 ∧ sy_fit v3 ∧ sy_fit v2 ∧ sy_fit v1) ∧ sp_1_square ns [sy_kn v1, sy_kn v2, sy_kn v3, sy_kn v4] s (fun q t => f (q.toList ++ r) t)) := sx_call4
theorem mv_8_ring (ns : Nat) : sy_MV c_8_ring y_8_ring.cls (some .long) (M_8_ring ns) := ⟨tv_8_ring, ff_8_ok, ki_8_ok, kl_8_ok⟩
abbrev rm_8_ring : Room := { frames := 2, cells := 0, slots := 0, locals := 58 }
theorem iw_1_howManyEven : Cond.code y_1_howManyEven c_1_howManyEven 7 (some .int) ∈ sy_tb ∧ Cond.initialized y_1_howManyEven.cls ∈ sy_tb ∧ (y_1_howManyEven.cls ≠ "java/lang/invoke/MethodHandle" ∧ y_1_howManyEven.cls ≠ "java/lang/invoke/VarHandle" ∧ (parseMethodDescriptor y_1_howManyEven.desc).map (fun d => d.parameters.length) = some 1) := ⟨sy_inx 720 (by decide +kernel) (by decide +kernel), sy_inx 51 (by decide +kernel) (by decide +kernel), by decide +kernel⟩
theorem ii_1_howManyEven : Cond.instanceMethod y_1_howManyEven ∈ sy_tb ∧ Cond.selects y_1_howManyEven.cls y_1_howManyEven y_1_howManyEven ∈ sy_tb := ⟨sy_inx 718 (by decide +kernel) (by decide +kernel), sy_inx 719 (by decide +kernel) (by decide +kernel)⟩
theorem iw_1_square : Cond.code y_1_square c_1_square 16 (some .long) ∈ sy_tb ∧ Cond.initialized y_1_square.cls ∈ sy_tb ∧ (y_1_square.cls ≠ "java/lang/invoke/MethodHandle" ∧ y_1_square.cls ≠ "java/lang/invoke/VarHandle" ∧ (parseMethodDescriptor y_1_square.desc).map (fun d => d.parameters.length) = some 3) := ⟨sy_inx 729 (by decide +kernel) (by decide +kernel), sy_inx 51 (by decide +kernel) (by decide +kernel), by decide +kernel⟩
theorem ii_1_square : Cond.instanceMethod y_1_square ∈ sy_tb ∧ Cond.selects y_1_square.cls y_1_square y_1_square ∈ sy_tb := ⟨sy_inx 727 (by decide +kernel) (by decide +kernel), sy_inx 728 (by decide +kernel) (by decide +kernel)⟩
theorem co_8_ring (l : Launch) : sy_calls l rm_8_ring y_8_ring.cls c_8_ring 5 (fun ns => (M_8_ring ns).2.2.2.2.1) := by
  intro p e s m args below meth c rt wd ad ns A Q X hA q b n sp h
  replace h : ct_8_ring ns q = some (b, n, sp) := h
  unfold ct_8_ring at h
  split at h
  · cases h; exact sy_coV (ci := 3) X hA (mc_3_has l) ⟨iw_3_has.1, iw_3_has.2.1, iw_3_has.2.2, ⟨by decide, by decide⟩, rfl, rfl⟩ (sy_inx 446 (by decide +kernel) (by decide +kernel)) ii_3_has.1 ii_3_has.2 (rc_3_has ns) ⟨_, rfl, rfl⟩
  · cases h; exact sy_coV (ci := 3) X hA (mc_3_valueOf l) ⟨iw_3_valueOf.1, iw_3_valueOf.2.1, iw_3_valueOf.2.2, ⟨by decide, by decide⟩, rfl, rfl⟩ (sy_inx 451 (by decide +kernel) (by decide +kernel)) ii_3_valueOf.1 ii_3_valueOf.2 (rc_3_valueOf ns) ⟨_, rfl, rfl⟩
  · cases h; exact sy_coV (ci := 1) X hA (mc_1_howManyEven l) ⟨iw_1_howManyEven.1, iw_1_howManyEven.2.1, iw_1_howManyEven.2.2, ⟨by decide, by decide⟩, rfl, rfl⟩ (sy_inx 717 (by decide +kernel) (by decide +kernel)) ii_1_howManyEven.1 ii_1_howManyEven.2 (rc_1_howManyEven ns) ⟨_, rfl, rfl⟩
  · cases h; exact sy_coV (ci := 1) X hA (mc_1_square l) ⟨iw_1_square.1, iw_1_square.2.1, iw_1_square.2.2, ⟨by decide, by decide⟩, rfl, rfl⟩ (sy_inx 726 (by decide +kernel) (by decide +kernel)) ii_1_square.1 ii_1_square.2 (rc_1_square ns) ⟨_, rfl, rfl⟩
  · cases h
theorem rc_8_ring (ns : Nat) (as : List sy_V) (st : sy_S) (post : sy_R) (h : sp_8_ring ns as st post) : ∃ b as', as = .inr (.inr (some (some b))) :: as' ∧ sy_ob b = some 8 := sy_m2_r rfl as st post h
theorem mc_8_ring (l : Launch) : sy_MC l y_8_ring c_8_ring 5 (some .long) rm_8_ring sp_8_ring := by
  refine sy_meth M_8_ring (by decide +kernel) mv_8_ring (co_8_ring l) ?_
  intro ns as st post WA h hok hrg ⟨hgo0, hin, hwk⟩
  have hgo : ∀ (n pc : Nat) (L k : List sy_V) (st : sy_S), rn_8_ring ns (ct_8_ring ns) post WA n pc L k st → WA pc L k st := fun n pc L k st h => hgo0 [] n pc L k st h
  replace h := sy_m2_e h hok
  obtain ⟨f, w, rfl, hf, hw, h⟩ := h
  refine ⟨Nat.le_of_ble_eq_true rfl, ?_⟩
  show WA 0 [.inr (.inr (some (some 0))), .inl (true, f), .inl (true, w), .inr (.inr none), .inr (.inr none)] [] st
  obtain ⟨⟨hs, hr, hd, hn⟩, h⟩ := h
  have hT := (c_tot_r hn).1
  have fr := xg_f_rng hn.1 f
  have hx : -30000 ≤ c_fg st f 0 ∧ c_fg st f 0 ≤ 30000 := by have := fr.1; unfold c_fg; omega
  have hy : -10000 ≤ c_fg st f 1 ∧ c_fg st f 1 ≤ 10000 := by have := fr.2.1; unfold c_fg; omega
  refine hgo 100 _ _ _ _ ?_
  simp -implicitDefEqProofs only [↓rx_8_ring_0, ↓rx_8_ring_1, ↓rx_8_ring_4, ↓rx_8_ring_5, ↓rx_8_ring_8, ↓rx_8_ring_11, ↓rx_8_ring_14, ↓rx_8_ring_15, ↓rx_8_ring_16, ↓rx_8_ring_19, ↓rx_8_ring_20, ↓rx_8_ring_21, ↓rx_8_ring_24, ↓rx_8_ring_25, ↓rx_8_ring_26, ↓rx_8_ring_29, ↓rx_8_ring_30, ↓rx_8_ring_31, ↓rx_8_ring_34, ↓rx_8_ring_36, ↓rx_8_ring_37, ↓rx_8_ring_40, ↓rx_8_ring_41, ↓rx_8_ring_44, ↓rx_8_ring_45, ↓rx_8_ring_48, ↓rx_8_ring_49, ↓rx_8_ring_50, ↓rx_8_ring_51, ↓rx_8_ring_52, ↓rx_8_ring_55, ↓rx_8_ring_56, ↓rx_8_ring_57, ↓rx_8_ring_60, ↓rx_8_ring_61, ↓rx_8_ring_64, ↓rx_8_ring_67, ↓rx_8_ring_70, ↓rx_8_ring_71, ↓rx_8_ring_74, ↓rx_8_ring_75, ↓rx_8_ring_78, ↓rx_8_ring_79, ↓rx_8_ring_82, ↓rx_8_ring_85, ↓rx_8_ring_88, ↓rx_8_ring_91, ↓rx_8_ring_92, ↓rx_8_ring_93, ↓rx_8_ring_96, ↓rx_8_ring_97, ↓rx_8_ring_99, ↓rx_8_ring_100, ↓rx_8_ring_101, ↓rx_8_ring_104, ↓rx_8_ring_105, ↓rx_8_ring_108, ↓rx_8_ring_109, ↓rx_8_ring_112, ↓cx_8_ring_114, ↓cx_8_ring_120, ↓cx_8_ring_185, ↓cx_8_ring_188, sp_1_howManyEven, sp_1_square, sp_3_has, sp_3_valueOf, ↓sx_s1, ↓sx_s2, ↓sx_s3, ↓sx_s4, ↓sx_s5, ↓sx_s6, ↓sx_m0, ↓sx_m1, ↓sx_m2, ↓sx_m3, ↓sx_m4, ↓sx_m5, ↓sx_m6, ↓sx_k0_, ↓sx_k1_, ↓sx_k2_, ↓sx_k3_, ↓sx_k4_, ↓sx_k5_, ↓sx_k6_, ↓sx_sLL, ↓sx_sAI, ↓sx_mLL, ↓sx_mIIL, ↓sx_mIILL, ↓sx_mIILLL, ↓sx_qS, ↓sx_qSI, ↓sx_qSIII, sx_rit, sx_rif, sx_rlt, sx_rlf, sx_b0, sx_b1, sx_o0, sx_o1i, sx_o1a, sx_o1l, sx_o2, sx_g0, sx_g1, sx_k1, sx_k2, sx_k3, sx_f1, sx_f2, sx_f3, sx_w0, sx_w1, sx_w2, sx_w3, sx_ts, sx_tn, sx_up, sx_nS1, sx_nS2, sx_nW1, sx_nW2, sx_SW, sx_WS, sy_nS_inj, sy_nW_inj, sx_ob0, sx_ob1, sx_ob2, sx_ob3, sx_ob4, sx_ob5, sx_ob6, sx_ob7, sx_ob8, sx_ob9, sx_ob10, sx_ob11, sx_ob12, sx_ob13, sx_ob14, sx_ob15, sx_ob16, sx_ob17, sx_ob18, sx_ob19, sx_ob20, sx_ob21, sx_ob22, sx_ob23, sx_ob24, sx_ob25, sx_ob26, sx_ob27, sx_ob28, sx_ob29, sx_ob30, sx_ob31, sx_ob32, sx_ob33, sx_ob34, sx_ob35, sx_ob36, sx_fv0_0, sx_fv0_1, sx_fv0_2, sx_fv0_3, sx_fv0_4, sx_fv0_5, sx_fv1_0, sx_fv1_1, sx_fv1_2, sx_fv3_0, sx_fv3_1, sx_fv3_2, sx_fv3_3, sx_fv3_4, sx_fv7_0, sx_fv7_1, sx_fv7_2, sx_fv7_3, sx_fv7_4, sx_fv7_5, sx_fv7_6, sx_fv7_7, sx_fv7_8, sx_fv7_9, sx_fv7_10, sx_fv9_0, sx_fv9_1, sx_fv9_2, sx_fv9_3, sx_fv11_0, sx_fv11_1, sx_fv11_2, sx_fv11_3, sx_fv11_4, sx_fv11_5, sx_fv11_6, sx_fv15_0, sx_fv15_1, sx_fv15_2, sx_fv15_3, sx_fv15_4, sx_fv15_5, sx_fv19_0, sx_fv19_1, sx_fv19_2, sx_fv19_3, sx_fv19_4, sx_fv19_5, sx_fv19_6, sx_fv24_0, sx_fv24_1, sx_fv24_2, sx_fv24_3, sx_fv24_4, sx_fv24_5, sx_fv24_6, sx_fv24_7, sx_fv24_8, sx_fv24_9, sx_fv24_10, sx_fv24_11, sx_fv24_12, sx_fv24_13, sx_fv24_14, sx_fv24_15, sx_fv24_16, sx_fv24_17, sx_fv24_18, sx_fvS_0, sx_fvS_1, sx_fvS_2, sx_fvS_3, sx_fvS_4, sx_fvS_5, sx_fvS_6, sx_fvS_7, sx_fvS_8, sx_fvS_9, sx_ar2, sx_ar4, sx_ar5, sx_ar6, sx_ar8, sx_ar10, sx_ar12, sx_ar13, sx_ar14, sx_ar16, sx_ar17, sx_ar18, sx_ar20, sx_ar21, sx_ar22, sx_ar23, sx_ar25, sx_ar26, sx_ar27, sx_ar28, sx_ar29, sx_ar30, sx_ar31, sx_ar32, sx_ar33, sx_ar34, sx_ar35, sx_ar36, sy_ob_S, sy_ob_W, sy_ar_W, sx_if0, sx_if1, sx_ie0, sx_em, Classical.not_not, sx_cle, sx_clt, sx_cge, sx_cgt, sx_ceq, Nat.reduceLT, Nat.reduceLeDiff, Nat.reduceAdd, Nat.reduceSub, Nat.reduceEqDiff, reduceIte, List.length_cons, List.length_nil, true_and, and_true, and_self, Bool.false_eq_true, true_implies, not_true_eq_false, not_false_eq_true, false_implies, implies_true, ne_eq, reduceCtorEq, Option.some.injEq, false_and, and_false, Int.reduceNeg, Int.reduceToNat, Int.reduceLT, Int.reduceLE, Int.reduceEq, Int.reduceAdd, Int.reduceSub, Int.reduceMul, or_false, false_or, or_true, true_or, forall_const, Int.toNat_natCast, Int.toNat_zero, Int.toNat_one, Nat.zero_add, or_self, Int.neg_eq_zero]
  have ec : c_ev st f = fun k => x_ev (c_da st k) (c_db st k) (c_fg st f 0) (st 15 5) := rfl
  unfold c_ring at h
  rw [ec] at h
  have hp : c_site ns st ∧ c_rng st ∧ c_dips ns st := ⟨hs, hr, hd⟩
  have dT : decide True = true := rfl
  have dF : decide False = false := rfl
  rw [dT, dF]
  generalize xc (fun k => x_ev (c_da st k) (c_db st k) (c_fg st f 0) (st 15 5)) (st 15 4).toNat = X at *
  refine ⟨hn, fun c => ⟨⟨hn, by omega⟩, ⟨hn, by omega⟩, fun c0 => ⟨fun c1 => ⟨fun c2 => ?_, fun c2 => ⟨⟨hp, hx⟩, fun c3 => ⟨fun c4 => ⟨⟨hp, hx, hy⟩, ?_⟩, fun c4 => by omega⟩, fun c3 => ?_⟩⟩, fun c1 => ⟨fun c2 => ?_, fun c2 => ⟨fun c3 => ?_, fun c3 => ⟨⟨hp, hx⟩, fun c4 => ⟨fun c5 => absurd c2 c5, fun c5 => ⟨⟨hp, hx, hy⟩, ?_⟩⟩, fun c4 => ?_⟩⟩⟩⟩, fun c0 => ⟨⟨hp, hx⟩, ?_⟩⟩, fun c => ?_⟩
  · rw [if_pos ⟨c, by omega⟩, if_neg c0, if_pos (Or.inr c2)] at h; exact h
  · rw [if_pos ⟨c, by omega⟩, if_neg c0, if_neg (by omega), show decide (w = 2) = false by rw [decide_eq_false_iff_not]; exact c4] at h; exact h
  · rw [if_pos ⟨c, by omega⟩, if_neg c0, if_pos (by omega)] at h; exact h
  · rw [if_neg (by omega)] at h; exact h
  · rw [if_pos ⟨c, by omega⟩, if_neg c0, if_pos (Or.inr c3)] at h; exact h
  · rw [if_pos ⟨c, by omega⟩, if_neg c0, if_neg (by omega), show decide (w = 2) = true by rw [decide_eq_true_eq]; exact c5] at h; exact h
  · rw [if_pos ⟨c, by omega⟩, if_neg c0, if_pos (by omega)] at h; exact h
  · rw [if_pos ⟨c, by omega⟩, if_pos c0] at h; exact h
  · rw [if_neg (fun q => c q.1)] at h; exact h
def sp_8_inside (ns : Nat) : sy_Sp := sy_m1 0 fun w st post => (c_site ns st ∧ c_rng st ∧ c_dst ns st ∧ c_hul ns st) ∧ (∀ s, c_hk ns st s → (w = 0 → post (some (.inl (true, s 11 5))) s) ∧ (w = 1 → post (some (.inl (true, xh_ar (c_L ns st) (s 11 5).toNat))) s)) ∧ (w ≠ 0 → w ≠ 1 → post (some (.inl (true, -1))) st)
def ct_8_inside (ns q : Nat) : Option (Bool × Nat × sy_Sp) := match q with
  | 150 => some (false, 1, sp_2_howMany ns)
  | 153 => some (false, 1, sp_2_areaTwice ns)
  | _ => none
abbrev M_8_inside (ns : Nat) : sy_M := Mk_8_inside (ct_8_inside ns)
theorem cx_8_inside_150 {ns : Nat} {v1 : sy_V} {r : List sy_V} {s : sy_S} {f : List sy_V → sy_S → Prop} : sy_call false (ct_8_inside ns 150) (v1 :: r) s f = (sy_wd r ≤ 8 ∧ (sy_fit v1) ∧ sp_2_howMany ns [sy_kn v1] s (fun q t => f (q.toList ++ r) t)) := sx_call1
theorem cx_8_inside_153 {ns : Nat} {v1 : sy_V} {r : List sy_V} {s : sy_S} {f : List sy_V → sy_S → Prop} : sy_call false (ct_8_inside ns 153) (v1 :: r) s f = (sy_wd r ≤ 8 ∧ (sy_fit v1) ∧ sp_2_areaTwice ns [sy_kn v1] s (fun q t => f (q.toList ++ r) t)) := sx_call1
theorem mv_8_inside (ns : Nat) : sy_MV c_8_inside y_8_inside.cls (some .int) (M_8_inside ns) := ⟨tv_8_inside, ff_8_ok, ki_8_ok, kl_8_ok⟩
abbrev rm_8_inside : Room := { frames := 5, cells := 0, slots := 0, locals := 124 }
theorem iw_2_howMany : Cond.code y_2_howMany c_2_howMany 1 (some .int) ∈ sy_tb ∧ Cond.initialized y_2_howMany.cls ∈ sy_tb ∧ (y_2_howMany.cls ≠ "java/lang/invoke/MethodHandle" ∧ y_2_howMany.cls ≠ "java/lang/invoke/VarHandle" ∧ (parseMethodDescriptor y_2_howMany.desc).map (fun d => d.parameters.length) = some 0) := ⟨sy_inx 626 (by decide +kernel) (by decide +kernel), sy_inx 50 (by decide +kernel) (by decide +kernel), by decide +kernel⟩
theorem ii_2_howMany : Cond.instanceMethod y_2_howMany ∈ sy_tb ∧ Cond.selects y_2_howMany.cls y_2_howMany y_2_howMany ∈ sy_tb := ⟨sy_inx 624 (by decide +kernel) (by decide +kernel), sy_inx 625 (by decide +kernel) (by decide +kernel)⟩
theorem iw_2_areaTwice : Cond.code y_2_areaTwice c_2_areaTwice 8 (some .int) ∈ sy_tb ∧ Cond.initialized y_2_areaTwice.cls ∈ sy_tb ∧ (y_2_areaTwice.cls ≠ "java/lang/invoke/MethodHandle" ∧ y_2_areaTwice.cls ≠ "java/lang/invoke/VarHandle" ∧ (parseMethodDescriptor y_2_areaTwice.desc).map (fun d => d.parameters.length) = some 0) := ⟨sy_inx 664 (by decide +kernel) (by decide +kernel), sy_inx 50 (by decide +kernel) (by decide +kernel), by decide +kernel⟩
theorem ii_2_areaTwice : Cond.instanceMethod y_2_areaTwice ∈ sy_tb ∧ Cond.selects y_2_areaTwice.cls y_2_areaTwice y_2_areaTwice ∈ sy_tb := ⟨sy_inx 662 (by decide +kernel) (by decide +kernel), sy_inx 663 (by decide +kernel) (by decide +kernel)⟩
theorem co_8_inside (l : Launch) : sy_calls l rm_8_inside y_8_inside.cls c_8_inside 2 (fun ns => (M_8_inside ns).2.2.2.2.1) := by
  intro p e s m args below meth c rt wd ad ns A Q X hA q b n sp h
  replace h : ct_8_inside ns q = some (b, n, sp) := h
  unfold ct_8_inside at h
  split at h
  · cases h; exact sy_coV (ci := 2) X hA (mc_2_howMany l) ⟨iw_2_howMany.1, iw_2_howMany.2.1, iw_2_howMany.2.2, ⟨by decide, by decide⟩, rfl, rfl⟩ (sy_inx 623 (by decide +kernel) (by decide +kernel)) ii_2_howMany.1 ii_2_howMany.2 (rc_2_howMany ns) ⟨_, rfl, rfl⟩
  · cases h; exact sy_coV (ci := 2) X hA (mc_2_areaTwice l) ⟨iw_2_areaTwice.1, iw_2_areaTwice.2.1, iw_2_areaTwice.2.2, ⟨by decide, by decide⟩, rfl, rfl⟩ (sy_inx 661 (by decide +kernel) (by decide +kernel)) ii_2_areaTwice.1 ii_2_areaTwice.2 (rc_2_areaTwice ns) ⟨_, rfl, rfl⟩
  · cases h
theorem rc_8_inside (ns : Nat) (as : List sy_V) (st : sy_S) (post : sy_R) (h : sp_8_inside ns as st post) : ∃ b as', as = .inr (.inr (some (some b))) :: as' ∧ sy_ob b = some 8 := sy_m1_r rfl as st post h
theorem mc_8_inside (l : Launch) : sy_MC l y_8_inside c_8_inside 2 (some .int) rm_8_inside sp_8_inside := by
  refine sy_meth M_8_inside (by decide +kernel) mv_8_inside (co_8_inside l) ?_
  intro ns as st post WA h hok hrg ⟨hgo0, hin, hwk⟩
  have hgo : ∀ (n pc : Nat) (L k : List sy_V) (st : sy_S), rn_8_inside ns (ct_8_inside ns) post WA n pc L k st → WA pc L k st := fun n pc L k st h => hgo0 [] n pc L k st h
  replace h := sy_m1_e h hok
  obtain ⟨w, rfl, hw, h⟩ := h
  refine ⟨Nat.le_of_ble_eq_true rfl, ?_⟩
  show WA 0 [.inr (.inr (some (some 0))), .inl (true, w)] [] st
  obtain ⟨hp, h1, h2⟩ := h
  refine hgo 100 _ _ _ _ ?_
  simp -implicitDefEqProofs only [↓rx_8_inside_0, ↓rx_8_inside_1, ↓rx_8_inside_4, ↓rx_8_inside_5, ↓rx_8_inside_8, ↓rx_8_inside_11, ↓rx_8_inside_12, ↓rx_8_inside_13, ↓rx_8_inside_14, ↓rx_8_inside_17, ↓rx_8_inside_18, ↓rx_8_inside_21, ↓rx_8_inside_24, ↓rx_8_inside_27, ↓rx_8_inside_28, ↓cx_8_inside_150, ↓cx_8_inside_153, sp_2_areaTwice, sp_2_howMany, ↓sx_s1, ↓sx_s2, ↓sx_s3, ↓sx_s4, ↓sx_s5, ↓sx_s6, ↓sx_m0, ↓sx_m1, ↓sx_m2, ↓sx_m3, ↓sx_m4, ↓sx_m5, ↓sx_m6, ↓sx_k0_, ↓sx_k1_, ↓sx_k2_, ↓sx_k3_, ↓sx_k4_, ↓sx_k5_, ↓sx_k6_, ↓sx_sLL, ↓sx_sAI, ↓sx_mLL, ↓sx_mIIL, ↓sx_mIILL, ↓sx_mIILLL, ↓sx_qS, ↓sx_qSI, ↓sx_qSIII, sx_rit, sx_rif, sx_rlt, sx_rlf, sx_b0, sx_b1, sx_o0, sx_o1i, sx_o1a, sx_o1l, sx_o2, sx_g0, sx_g1, sx_k1, sx_k2, sx_k3, sx_f1, sx_f2, sx_f3, sx_w0, sx_w1, sx_w2, sx_w3, sx_ts, sx_tn, sx_up, sx_nS1, sx_nS2, sx_nW1, sx_nW2, sx_SW, sx_WS, sy_nS_inj, sy_nW_inj, sx_ob0, sx_ob1, sx_ob2, sx_ob3, sx_ob4, sx_ob5, sx_ob6, sx_ob7, sx_ob8, sx_ob9, sx_ob10, sx_ob11, sx_ob12, sx_ob13, sx_ob14, sx_ob15, sx_ob16, sx_ob17, sx_ob18, sx_ob19, sx_ob20, sx_ob21, sx_ob22, sx_ob23, sx_ob24, sx_ob25, sx_ob26, sx_ob27, sx_ob28, sx_ob29, sx_ob30, sx_ob31, sx_ob32, sx_ob33, sx_ob34, sx_ob35, sx_ob36, sx_fv0_0, sx_fv0_1, sx_fv0_2, sx_fv0_3, sx_fv0_4, sx_fv0_5, sx_fv1_0, sx_fv1_1, sx_fv1_2, sx_fv3_0, sx_fv3_1, sx_fv3_2, sx_fv3_3, sx_fv3_4, sx_fv7_0, sx_fv7_1, sx_fv7_2, sx_fv7_3, sx_fv7_4, sx_fv7_5, sx_fv7_6, sx_fv7_7, sx_fv7_8, sx_fv7_9, sx_fv7_10, sx_fv9_0, sx_fv9_1, sx_fv9_2, sx_fv9_3, sx_fv11_0, sx_fv11_1, sx_fv11_2, sx_fv11_3, sx_fv11_4, sx_fv11_5, sx_fv11_6, sx_fv15_0, sx_fv15_1, sx_fv15_2, sx_fv15_3, sx_fv15_4, sx_fv15_5, sx_fv19_0, sx_fv19_1, sx_fv19_2, sx_fv19_3, sx_fv19_4, sx_fv19_5, sx_fv19_6, sx_fv24_0, sx_fv24_1, sx_fv24_2, sx_fv24_3, sx_fv24_4, sx_fv24_5, sx_fv24_6, sx_fv24_7, sx_fv24_8, sx_fv24_9, sx_fv24_10, sx_fv24_11, sx_fv24_12, sx_fv24_13, sx_fv24_14, sx_fv24_15, sx_fv24_16, sx_fv24_17, sx_fv24_18, sx_fvS_0, sx_fvS_1, sx_fvS_2, sx_fvS_3, sx_fvS_4, sx_fvS_5, sx_fvS_6, sx_fvS_7, sx_fvS_8, sx_fvS_9, sx_ar2, sx_ar4, sx_ar5, sx_ar6, sx_ar8, sx_ar10, sx_ar12, sx_ar13, sx_ar14, sx_ar16, sx_ar17, sx_ar18, sx_ar20, sx_ar21, sx_ar22, sx_ar23, sx_ar25, sx_ar26, sx_ar27, sx_ar28, sx_ar29, sx_ar30, sx_ar31, sx_ar32, sx_ar33, sx_ar34, sx_ar35, sx_ar36, sy_ob_S, sy_ob_W, sy_ar_W, sx_if0, sx_if1, sx_ie0, sx_em, Classical.not_not, sx_cle, sx_clt, sx_cge, sx_cgt, sx_ceq, Nat.reduceLT, Nat.reduceLeDiff, Nat.reduceAdd, Nat.reduceSub, Nat.reduceEqDiff, reduceIte, List.length_cons, List.length_nil, true_and, and_true, and_self, Bool.false_eq_true, true_implies, not_true_eq_false, not_false_eq_true, false_implies, implies_true, ne_eq, reduceCtorEq, Option.some.injEq, false_and, and_false, Int.reduceNeg, Int.reduceToNat, Int.reduceLT, Int.reduceLE, Int.reduceEq, Int.reduceAdd, Int.reduceSub, Int.reduceMul, or_false, false_or, or_true, true_or, forall_const, Int.toNat_natCast, Int.toNat_zero, Int.toNat_one, Nat.zero_add, or_self, Int.neg_eq_zero]
  exact ⟨fun c => ⟨fun c2 => h2 c c2, fun c2 => ⟨hp, fun s hk => (h1 s hk).2 c2⟩⟩, fun c => ⟨hp, fun s hk => (h1 s hk).1 c⟩⟩
def sp_8_corner (ns : Nat) : sy_Sp := sy_m2 0 fun k w st post => (c_site ns st ∧ c_rng st ∧ c_dst ns st ∧ c_hul ns st) ∧ (∀ s, c_hk ns st s → post (some (.inl (true, if (0 ≤ k ∧ k < s 11 5) ∧ (0 ≤ w ∧ w ≤ 1) then (if w = 0 then (xh_c (c_L ns st) k.toNat).1 else (xh_c (c_L ns st) k.toNat).2) else -1000000))) s) ∧ (k < 0 → post (some (.inl (true, -1000000))) st)
def ct_8_corner (ns q : Nat) : Option (Bool × Nat × sy_Sp) := match q with
  | 150 => some (false, 1, sp_2_howMany ns)
  | 156 => some (false, 2, sp_2_alongOf ns)
  | 159 => some (false, 2, sp_2_heightOf ns)
  | _ => none
abbrev M_8_corner (ns : Nat) : sy_M := Mk_8_corner (ct_8_corner ns)
theorem cx_8_corner_150 {ns : Nat} {v1 : sy_V} {r : List sy_V} {s : sy_S} {f : List sy_V → sy_S → Prop} : sy_call false (ct_8_corner ns 150) (v1 :: r) s f = (sy_wd r ≤ 8 ∧ (sy_fit v1) ∧ sp_2_howMany ns [sy_kn v1] s (fun q t => f (q.toList ++ r) t)) := sx_call1
theorem cx_8_corner_156 {ns : Nat} {v1 v2 : sy_V} {r : List sy_V} {s : sy_S} {f : List sy_V → sy_S → Prop} : sy_call false (ct_8_corner ns 156) (v2 :: v1 :: r) s f = (sy_wd r ≤ 8 ∧ (sy_fit v2 ∧ sy_fit v1) ∧ sp_2_alongOf ns [sy_kn v1, sy_kn v2] s (fun q t => f (q.toList ++ r) t)) := sx_call2
theorem cx_8_corner_159 {ns : Nat} {v1 v2 : sy_V} {r : List sy_V} {s : sy_S} {f : List sy_V → sy_S → Prop} : sy_call false (ct_8_corner ns 159) (v2 :: v1 :: r) s f = (sy_wd r ≤ 8 ∧ (sy_fit v2 ∧ sy_fit v1) ∧ sp_2_heightOf ns [sy_kn v1, sy_kn v2] s (fun q t => f (q.toList ++ r) t)) := sx_call2
theorem mv_8_corner (ns : Nat) : sy_MV c_8_corner y_8_corner.cls (some .int) (M_8_corner ns) := ⟨tv_8_corner, ff_8_ok, ki_8_ok, kl_8_ok⟩
abbrev rm_8_corner : Room := { frames := 5, cells := 0, slots := 0, locals := 117 }
theorem co_8_corner (l : Launch) : sy_calls l rm_8_corner y_8_corner.cls c_8_corner 3 (fun ns => (M_8_corner ns).2.2.2.2.1) := by
  intro p e s m args below meth c rt wd ad ns A Q X hA q b n sp h
  replace h : ct_8_corner ns q = some (b, n, sp) := h
  unfold ct_8_corner at h
  split at h
  · cases h; exact sy_coV (ci := 2) X hA (mc_2_howMany l) ⟨iw_2_howMany.1, iw_2_howMany.2.1, iw_2_howMany.2.2, ⟨by decide, by decide⟩, rfl, rfl⟩ (sy_inx 623 (by decide +kernel) (by decide +kernel)) ii_2_howMany.1 ii_2_howMany.2 (rc_2_howMany ns) ⟨_, rfl, rfl⟩
  · cases h; exact sy_coV (ci := 2) X hA (mc_2_alongOf l) ⟨iw_2_alongOf.1, iw_2_alongOf.2.1, iw_2_alongOf.2.2, ⟨by decide, by decide⟩, rfl, rfl⟩ (sy_inx 682 (by decide +kernel) (by decide +kernel)) ii_2_alongOf.1 ii_2_alongOf.2 (rc_2_alongOf ns) ⟨_, rfl, rfl⟩
  · cases h; exact sy_coV (ci := 2) X hA (mc_2_heightOf l) ⟨iw_2_heightOf.1, iw_2_heightOf.2.1, iw_2_heightOf.2.2, ⟨by decide, by decide⟩, rfl, rfl⟩ (sy_inx 683 (by decide +kernel) (by decide +kernel)) ii_2_heightOf.1 ii_2_heightOf.2 (rc_2_heightOf ns) ⟨_, rfl, rfl⟩
  · cases h
theorem rc_8_corner (ns : Nat) (as : List sy_V) (st : sy_S) (post : sy_R) (h : sp_8_corner ns as st post) : ∃ b as', as = .inr (.inr (some (some b))) :: as' ∧ sy_ob b = some 8 := sy_m2_r rfl as st post h
theorem mc_8_corner (l : Launch) : sy_MC l y_8_corner c_8_corner 3 (some .int) rm_8_corner sp_8_corner := by
  refine sy_meth M_8_corner (by decide +kernel) mv_8_corner (co_8_corner l) ?_
  intro ns as st post WA h hok hrg ⟨hgo0, hin, hwk⟩
  have hgo : ∀ (n pc : Nat) (L k : List sy_V) (st : sy_S), rn_8_corner ns (ct_8_corner ns) post WA n pc L k st → WA pc L k st := fun n pc L k st h => hgo0 [] n pc L k st h
  replace h := sy_m2_e h hok
  obtain ⟨k, w, rfl, hk, hw, h⟩ := h
  refine ⟨Nat.le_of_ble_eq_true rfl, ?_⟩
  show WA 0 [.inr (.inr (some (some 0))), .inl (true, k), .inl (true, w)] [] st
  obtain ⟨hp, h1, h2⟩ := h
  refine hgo 100 _ _ _ _ ?_
  simp -implicitDefEqProofs only [↓rx_8_corner_0, ↓rx_8_corner_1, ↓rx_8_corner_4, ↓rx_8_corner_5, ↓rx_8_corner_6, ↓rx_8_corner_9, ↓rx_8_corner_12, ↓rx_8_corner_15, ↓rx_8_corner_17, ↓rx_8_corner_18, ↓rx_8_corner_19, ↓rx_8_corner_22, ↓rx_8_corner_23, ↓rx_8_corner_26, ↓rx_8_corner_27, ↓rx_8_corner_30, ↓rx_8_corner_31, ↓rx_8_corner_32, ↓rx_8_corner_33, ↓rx_8_corner_36, ↓rx_8_corner_37, ↓rx_8_corner_40, ↓rx_8_corner_41, ↓rx_8_corner_44, ↓rx_8_corner_47, ↓rx_8_corner_49, ↓cx_8_corner_150, ↓cx_8_corner_156, ↓cx_8_corner_159, sp_2_alongOf, sp_2_heightOf, sp_2_howMany, ↓sx_s1, ↓sx_s2, ↓sx_s3, ↓sx_s4, ↓sx_s5, ↓sx_s6, ↓sx_m0, ↓sx_m1, ↓sx_m2, ↓sx_m3, ↓sx_m4, ↓sx_m5, ↓sx_m6, ↓sx_k0_, ↓sx_k1_, ↓sx_k2_, ↓sx_k3_, ↓sx_k4_, ↓sx_k5_, ↓sx_k6_, ↓sx_sLL, ↓sx_sAI, ↓sx_mLL, ↓sx_mIIL, ↓sx_mIILL, ↓sx_mIILLL, ↓sx_qS, ↓sx_qSI, ↓sx_qSIII, sx_rit, sx_rif, sx_rlt, sx_rlf, sx_b0, sx_b1, sx_o0, sx_o1i, sx_o1a, sx_o1l, sx_o2, sx_g0, sx_g1, sx_k1, sx_k2, sx_k3, sx_f1, sx_f2, sx_f3, sx_w0, sx_w1, sx_w2, sx_w3, sx_ts, sx_tn, sx_up, sx_nS1, sx_nS2, sx_nW1, sx_nW2, sx_SW, sx_WS, sy_nS_inj, sy_nW_inj, sx_ob0, sx_ob1, sx_ob2, sx_ob3, sx_ob4, sx_ob5, sx_ob6, sx_ob7, sx_ob8, sx_ob9, sx_ob10, sx_ob11, sx_ob12, sx_ob13, sx_ob14, sx_ob15, sx_ob16, sx_ob17, sx_ob18, sx_ob19, sx_ob20, sx_ob21, sx_ob22, sx_ob23, sx_ob24, sx_ob25, sx_ob26, sx_ob27, sx_ob28, sx_ob29, sx_ob30, sx_ob31, sx_ob32, sx_ob33, sx_ob34, sx_ob35, sx_ob36, sx_fv0_0, sx_fv0_1, sx_fv0_2, sx_fv0_3, sx_fv0_4, sx_fv0_5, sx_fv1_0, sx_fv1_1, sx_fv1_2, sx_fv3_0, sx_fv3_1, sx_fv3_2, sx_fv3_3, sx_fv3_4, sx_fv7_0, sx_fv7_1, sx_fv7_2, sx_fv7_3, sx_fv7_4, sx_fv7_5, sx_fv7_6, sx_fv7_7, sx_fv7_8, sx_fv7_9, sx_fv7_10, sx_fv9_0, sx_fv9_1, sx_fv9_2, sx_fv9_3, sx_fv11_0, sx_fv11_1, sx_fv11_2, sx_fv11_3, sx_fv11_4, sx_fv11_5, sx_fv11_6, sx_fv15_0, sx_fv15_1, sx_fv15_2, sx_fv15_3, sx_fv15_4, sx_fv15_5, sx_fv19_0, sx_fv19_1, sx_fv19_2, sx_fv19_3, sx_fv19_4, sx_fv19_5, sx_fv19_6, sx_fv24_0, sx_fv24_1, sx_fv24_2, sx_fv24_3, sx_fv24_4, sx_fv24_5, sx_fv24_6, sx_fv24_7, sx_fv24_8, sx_fv24_9, sx_fv24_10, sx_fv24_11, sx_fv24_12, sx_fv24_13, sx_fv24_14, sx_fv24_15, sx_fv24_16, sx_fv24_17, sx_fv24_18, sx_fvS_0, sx_fvS_1, sx_fvS_2, sx_fvS_3, sx_fvS_4, sx_fvS_5, sx_fvS_6, sx_fvS_7, sx_fvS_8, sx_fvS_9, sx_ar2, sx_ar4, sx_ar5, sx_ar6, sx_ar8, sx_ar10, sx_ar12, sx_ar13, sx_ar14, sx_ar16, sx_ar17, sx_ar18, sx_ar20, sx_ar21, sx_ar22, sx_ar23, sx_ar25, sx_ar26, sx_ar27, sx_ar28, sx_ar29, sx_ar30, sx_ar31, sx_ar32, sx_ar33, sx_ar34, sx_ar35, sx_ar36, sy_ob_S, sy_ob_W, sy_ar_W, sx_if0, sx_if1, sx_ie0, sx_em, Classical.not_not, sx_cle, sx_clt, sx_cge, sx_cgt, sx_ceq, Nat.reduceLT, Nat.reduceLeDiff, Nat.reduceAdd, Nat.reduceSub, Nat.reduceEqDiff, reduceIte, List.length_cons, List.length_nil, true_and, and_true, and_self, Bool.false_eq_true, true_implies, not_true_eq_false, not_false_eq_true, false_implies, implies_true, ne_eq, reduceCtorEq, Option.some.injEq, false_and, and_false, Int.reduceNeg, Int.reduceToNat, Int.reduceLT, Int.reduceLE, Int.reduceEq, Int.reduceAdd, Int.reduceSub, Int.reduceMul, or_false, false_or, or_true, true_or, forall_const, Int.toNat_natCast, Int.toNat_zero, Int.toNat_one, Nat.zero_add, or_self, Int.neg_eq_zero]
  refine ⟨fun c => h2 c, fun c => ⟨hp, fun s hk => ⟨fun c2 => ?_, fun c2 => ?_⟩⟩⟩
  · have h3 := h1 s hk
    have f1 := c_hk_A hk (k := k.toNat) (by omega)
    rw [Int.toNat_of_nonneg (by omega)] at f1
    rw [f1.1, f1.2]
    refine ⟨fun c3 => ⟨fun c4 => ?_, fun c4 => ⟨hk.2.1, ?_⟩⟩, fun c3 => ⟨hk.2.1, ?_⟩⟩
    · rw [if_neg (by omega)] at h3; exact h3
    · rw [if_pos (by omega), if_neg c3] at h3; exact h3
    · rw [if_pos (by omega), if_pos c3] at h3; exact h3
  · have h3 := h1 s hk
    rw [if_neg (by omega)] at h3; exact h3
def sp_8_quarrels (ns : Nat) : sy_Sp := sy_m1 0 fun i st post => (c_site ns st ∧ c_rng st ∧ c_dst ns st ∧ c_hul ns st) ∧ ((0 ≤ i ∧ i < ns) ∧ st (sy_nS i.toNat) 5 = 2 → ∀ s r, c_hk ns st s → ((r = 1 ∧ xh_tc (c_L ns st) (s 11 5).toNat (st (sy_nS i.toNat) 0) (c_at st i.toNat (st 1 2) (st (sy_nS i.toNat) 6)) (c_at st i.toNat (st 1 2) (st (sy_nS i.toNat) 7))) ∨ (r = 0 ∧ ¬ xh_tc (c_L ns st) (s 11 5).toNat (st (sy_nS i.toNat) 0) (c_at st i.toNat (st 1 2) (st (sy_nS i.toNat) 6)) (c_at st i.toNat (st 1 2) (st (sy_nS i.toNat) 7)))) → post (some (.inl (true, r))) s) ∧ (¬ ((0 ≤ i ∧ i < ns) ∧ st (sy_nS i.toNat) 5 = 2) → post (some (.inl (true, -1))) st)
def ct_8_quarrels (ns q : Nat) : Option (Bool × Nat × sy_Sp) := match q with
  | 77 => some (false, 2, sp_7_at ns)
  | 101 => some (false, 3, sp_6_placeOf ns)
  | 171 => some (false, 4, sp_2_touches ns)
  | _ => none
abbrev M_8_quarrels (ns : Nat) : sy_M := Mk_8_quarrels (ct_8_quarrels ns)
theorem cx_8_quarrels_77 {ns : Nat} {v1 v2 : sy_V} {r : List sy_V} {s : sy_S} {f : List sy_V → sy_S → Prop} : sy_call false (ct_8_quarrels ns 77) (v2 :: v1 :: r) s f = (sy_wd r ≤ 8 ∧ (sy_fit v2 ∧ sy_fit v1) ∧ sp_7_at ns [sy_kn v1, sy_kn v2] s (fun q t => f (q.toList ++ r) t)) := sx_call2
theorem cx_8_quarrels_101 {ns : Nat} {v1 v2 v3 : sy_V} {r : List sy_V} {s : sy_S} {f : List sy_V → sy_S → Prop} : sy_call false (ct_8_quarrels ns 101) (v3 :: v2 :: v1 :: r) s f = (sy_wd r ≤ 8 ∧ (sy_fit v3 ∧ sy_fit v2 ∧ sy_fit v1) ∧ sp_6_placeOf ns [sy_kn v1, sy_kn v2, sy_kn v3] s (fun q t => f (q.toList ++ r) t)) := sx_call3
theorem cx_8_quarrels_171 {ns : Nat} {v1 v2 v3 v4 : sy_V} {r : List sy_V} {s : sy_S} {f : List sy_V → sy_S → Prop} : sy_call false (ct_8_quarrels ns 171) (v4 :: v3 :: v2 :: v1 :: r) s f = (sy_wd r ≤ 8 ∧ (sy_fit v4 ∧ sy_fit v3 ∧ sy_fit v2 ∧ sy_fit v1) ∧ sp_2_touches ns [sy_kn v1, sy_kn v2, sy_kn v3, sy_kn v4] s (fun q t => f (q.toList ++ r) t)) := sx_call4
theorem mv_8_quarrels (ns : Nat) : sy_MV c_8_quarrels y_8_quarrels.cls (some .int) (M_8_quarrels ns) := ⟨tv_8_quarrels, ff_8_ok, ki_8_ok, kl_8_ok⟩
abbrev rm_8_quarrels : Room := { frames := 5, cells := 0, slots := 0, locals := 123 }
theorem iw_2_touches : Cond.code y_2_touches c_2_touches 7 (some .boolean) ∈ sy_tb ∧ Cond.initialized y_2_touches.cls ∈ sy_tb ∧ (y_2_touches.cls ≠ "java/lang/invoke/MethodHandle" ∧ y_2_touches.cls ≠ "java/lang/invoke/VarHandle" ∧ (parseMethodDescriptor y_2_touches.desc).map (fun d => d.parameters.length) = some 3) := ⟨sy_inx 691 (by decide +kernel) (by decide +kernel), sy_inx 50 (by decide +kernel) (by decide +kernel), by decide +kernel⟩
theorem ii_2_touches : Cond.instanceMethod y_2_touches ∈ sy_tb ∧ Cond.selects y_2_touches.cls y_2_touches y_2_touches ∈ sy_tb := ⟨sy_inx 689 (by decide +kernel) (by decide +kernel), sy_inx 690 (by decide +kernel) (by decide +kernel)⟩
theorem co_8_quarrels (l : Launch) : sy_calls l rm_8_quarrels y_8_quarrels.cls c_8_quarrels 5 (fun ns => (M_8_quarrels ns).2.2.2.2.1) := by
  intro p e s m args below meth c rt wd ad ns A Q X hA q b n sp h
  replace h : ct_8_quarrels ns q = some (b, n, sp) := h
  unfold ct_8_quarrels at h
  split at h
  · cases h; exact sy_coV (ci := 7) X hA (mc_7_at l) ⟨iw_7_at.1, iw_7_at.2.1, iw_7_at.2.2, ⟨by decide, by decide⟩, rfl, rfl⟩ (sy_inx 377 (by decide +kernel) (by decide +kernel)) ii_7_at.1 ii_7_at.2 (rc_7_at ns) ⟨_, rfl, rfl⟩
  · cases h; exact sy_coV (ci := 6) X hA (mc_6_placeOf l) ⟨iw_6_placeOf.1, iw_6_placeOf.2.1, iw_6_placeOf.2.2, ⟨by decide, by decide⟩, rfl, rfl⟩ (sy_inx 414 (by decide +kernel) (by decide +kernel)) ii_6_placeOf.1 ii_6_placeOf.2 (rc_6_placeOf ns) ⟨_, rfl, rfl⟩
  · cases h; exact sy_coV (ci := 2) X hA (mc_2_touches l) ⟨iw_2_touches.1, iw_2_touches.2.1, iw_2_touches.2.2, ⟨by decide, by decide⟩, rfl, rfl⟩ (sy_inx 688 (by decide +kernel) (by decide +kernel)) ii_2_touches.1 ii_2_touches.2 (rc_2_touches ns) ⟨_, rfl, rfl⟩
  · cases h
theorem rc_8_quarrels (ns : Nat) (as : List sy_V) (st : sy_S) (post : sy_R) (h : sp_8_quarrels ns as st post) : ∃ b as', as = .inr (.inr (some (some b))) :: as' ∧ sy_ob b = some 8 := sy_m1_r rfl as st post h
theorem mc_8_quarrels (l : Launch) : sy_MC l y_8_quarrels c_8_quarrels 5 (some .int) rm_8_quarrels sp_8_quarrels := by
  refine sy_meth M_8_quarrels (by decide +kernel) mv_8_quarrels (co_8_quarrels l) ?_
  intro ns as st post WA h hok hrg ⟨hgo0, hin, hwk⟩
  have hgo : ∀ (n pc : Nat) (L k : List sy_V) (st : sy_S), rn_8_quarrels ns (ct_8_quarrels ns) post WA n pc L k st → WA pc L k st := fun n pc L k st h => hgo0 [] n pc L k st h
  replace h := sy_m1_e h hok
  obtain ⟨i, rfl, hi, h⟩ := h
  refine ⟨Nat.le_of_ble_eq_true rfl, ?_⟩
  show WA 0 [.inr (.inr (some (some 0))), .inl (true, i), .inr (.inr none), .inr (.inr none), .inr (.inr none)] [] st
  obtain ⟨hp, h1, h2⟩ := h
  refine hgo 100 _ _ _ _ ?_
  simp -implicitDefEqProofs only [↓rx_8_quarrels_0, ↓rx_8_quarrels_1, ↓rx_8_quarrels_4, ↓rx_8_quarrels_5, ↓rx_8_quarrels_8, ↓rx_8_quarrels_9, ↓rx_8_quarrels_10, ↓rx_8_quarrels_10_n, ↓rx_8_quarrels_13, ↓rx_8_quarrels_14, ↓rx_8_quarrels_17, ↓rx_8_quarrels_18, ↓rx_8_quarrels_21, ↓rx_8_quarrels_22, ↓rx_8_quarrels_23, ↓rx_8_quarrels_24, ↓rx_8_quarrels_25, ↓rx_8_quarrels_28, ↓rx_8_quarrels_31, ↓rx_8_quarrels_32, ↓rx_8_quarrels_35, ↓rx_8_quarrels_38, ↓rx_8_quarrels_39, ↓rx_8_quarrels_40, ↓rx_8_quarrels_41, ↓rx_8_quarrels_44, ↓rx_8_quarrels_47, ↓rx_8_quarrels_48, ↓rx_8_quarrels_51, ↓rx_8_quarrels_54, ↓rx_8_quarrels_56, ↓rx_8_quarrels_57, ↓rx_8_quarrels_60, ↓rx_8_quarrels_61, ↓rx_8_quarrels_64, ↓rx_8_quarrels_65, ↓rx_8_quarrels_67, ↓rx_8_quarrels_70, ↓rx_8_quarrels_73, ↓rx_8_quarrels_74, ↓rx_8_quarrels_77, ↓rx_8_quarrels_78, ↓cx_8_quarrels_77, ↓cx_8_quarrels_101, ↓cx_8_quarrels_171, sp_2_touches, sp_6_placeOf, sp_7_at, ↓sx_s1, ↓sx_s2, ↓sx_s3, ↓sx_s4, ↓sx_s5, ↓sx_s6, ↓sx_m0, ↓sx_m1, ↓sx_m2, ↓sx_m3, ↓sx_m4, ↓sx_m5, ↓sx_m6, ↓sx_k0_, ↓sx_k1_, ↓sx_k2_, ↓sx_k3_, ↓sx_k4_, ↓sx_k5_, ↓sx_k6_, ↓sx_sLL, ↓sx_sAI, ↓sx_mLL, ↓sx_mIIL, ↓sx_mIILL, ↓sx_mIILLL, ↓sx_qS, ↓sx_qSI, ↓sx_qSIII, sx_rit, sx_rif, sx_rlt, sx_rlf, sx_b0, sx_b1, sx_o0, sx_o1i, sx_o1a, sx_o1l, sx_o2, sx_g0, sx_g1, sx_k1, sx_k2, sx_k3, sx_f1, sx_f2, sx_f3, sx_w0, sx_w1, sx_w2, sx_w3, sx_ts, sx_tn, sx_up, sx_nS1, sx_nS2, sx_nW1, sx_nW2, sx_SW, sx_WS, sy_nS_inj, sy_nW_inj, sx_ob0, sx_ob1, sx_ob2, sx_ob3, sx_ob4, sx_ob5, sx_ob6, sx_ob7, sx_ob8, sx_ob9, sx_ob10, sx_ob11, sx_ob12, sx_ob13, sx_ob14, sx_ob15, sx_ob16, sx_ob17, sx_ob18, sx_ob19, sx_ob20, sx_ob21, sx_ob22, sx_ob23, sx_ob24, sx_ob25, sx_ob26, sx_ob27, sx_ob28, sx_ob29, sx_ob30, sx_ob31, sx_ob32, sx_ob33, sx_ob34, sx_ob35, sx_ob36, sx_fv0_0, sx_fv0_1, sx_fv0_2, sx_fv0_3, sx_fv0_4, sx_fv0_5, sx_fv1_0, sx_fv1_1, sx_fv1_2, sx_fv3_0, sx_fv3_1, sx_fv3_2, sx_fv3_3, sx_fv3_4, sx_fv7_0, sx_fv7_1, sx_fv7_2, sx_fv7_3, sx_fv7_4, sx_fv7_5, sx_fv7_6, sx_fv7_7, sx_fv7_8, sx_fv7_9, sx_fv7_10, sx_fv9_0, sx_fv9_1, sx_fv9_2, sx_fv9_3, sx_fv11_0, sx_fv11_1, sx_fv11_2, sx_fv11_3, sx_fv11_4, sx_fv11_5, sx_fv11_6, sx_fv15_0, sx_fv15_1, sx_fv15_2, sx_fv15_3, sx_fv15_4, sx_fv15_5, sx_fv19_0, sx_fv19_1, sx_fv19_2, sx_fv19_3, sx_fv19_4, sx_fv19_5, sx_fv19_6, sx_fv24_0, sx_fv24_1, sx_fv24_2, sx_fv24_3, sx_fv24_4, sx_fv24_5, sx_fv24_6, sx_fv24_7, sx_fv24_8, sx_fv24_9, sx_fv24_10, sx_fv24_11, sx_fv24_12, sx_fv24_13, sx_fv24_14, sx_fv24_15, sx_fv24_16, sx_fv24_17, sx_fv24_18, sx_fvS_0, sx_fvS_1, sx_fvS_2, sx_fvS_3, sx_fvS_4, sx_fvS_5, sx_fvS_6, sx_fvS_7, sx_fvS_8, sx_fvS_9, sx_ar2, sx_ar4, sx_ar5, sx_ar6, sx_ar8, sx_ar10, sx_ar12, sx_ar13, sx_ar14, sx_ar16, sx_ar17, sx_ar18, sx_ar20, sx_ar21, sx_ar22, sx_ar23, sx_ar25, sx_ar26, sx_ar27, sx_ar28, sx_ar29, sx_ar30, sx_ar31, sx_ar32, sx_ar33, sx_ar34, sx_ar35, sx_ar36, sy_ob_S, sy_ob_W, sy_ar_W, sx_if0, sx_if1, sx_ie0, sx_em, Classical.not_not, sx_cle, sx_clt, sx_cge, sx_cgt, sx_ceq, Nat.reduceLT, Nat.reduceLeDiff, Nat.reduceAdd, Nat.reduceSub, Nat.reduceEqDiff, reduceIte, List.length_cons, List.length_nil, true_and, and_true, and_self, Bool.false_eq_true, true_implies, not_true_eq_false, not_false_eq_true, false_implies, implies_true, ne_eq, reduceCtorEq, Option.some.injEq, false_and, and_false, Int.reduceNeg, Int.reduceToNat, Int.reduceLT, Int.reduceLE, Int.reduceEq, Int.reduceAdd, Int.reduceSub, Int.reduceMul, or_false, false_or, or_true, true_or, forall_const, Int.toNat_natCast, Int.toNat_zero, Int.toNat_one, Nat.zero_add, or_self, Int.neg_eq_zero]
  have hs := hp.1
  have hr := hp.2.1
  have t6 := hr.2.2.2.2.2 i.toNat 6 (by omega) (by omega)
  have t7 := hr.2.2.2.2.2 i.toNat 7 (by omega) (by omega)
  refine ⟨hs, fun c => ⟨fun c2 => ⟨by omega, ⟨hr, hr.1, t6⟩, by omega, ⟨hr, hr.1, t7⟩, ⟨hp, hr.2.1 _, c_at_rng hr _ hr.1 t6, c_at_rng hr _ hr.1 t7⟩, fun s r hk hq => ⟨fun c3 => ?_, fun c3 => ?_⟩⟩, fun c2 => h2 (fun q => c2 q.2)⟩, fun c => h2 (fun q => c q.1)⟩
  · exact h1 ⟨c, c2⟩ s 0 hk (by subst c3; exact hq)
  · have : r = 1 := by rcases hq with ⟨q, _⟩ | ⟨q, _⟩ <;> omega
    subst this
    exact h1 ⟨c, c2⟩ s 1 hk hq
