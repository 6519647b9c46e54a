/-! THE CLASS: the search; which figures agree with what -/
/-- whether figure f agrees with site i's report, if its clock is ld ahead -/
def c_agt (st : sy_S) (f : Int) (i : Nat) (ld : Int) : Bool := xg_ag (c_fg st f 0) (c_fg st f 1) (c_fg st f 2) (c_fg st f 3) (st (sy_nS i) 0) (st (sy_nS i) 5) (st 1 2 * (st (sy_nS i) 6 - ld) - st (sy_nS i) 1) (st 1 2 * (st (sy_nS i) 7 - ld) - st (sy_nS i) 1) (st 1 2 * (st (sy_nS i) 8 - ld) - st (sy_nS i) 1) (st 1 2 * (st (sy_nS i) 9 - ld) - st (sy_nS i) 1)
def c_ag (st : sy_S) (f : Int) (i : Nat) : Bool := c_agt st f i (st (sy_nS i) 4)
theorem c_al_ag {st : sy_S} {i : Nat} {f ld W : Int} (h : xw_ok (st (sy_nS i) 0 - c_fg st f 1) (c_fg st f 2) (c_fg st f 3) W) : c_al (st (sy_nS i) 5) (2 * (c_fg st f 0 + st 1 2 * ld)) (c_lo st i (st 1 2) W) (c_hi st i (st 1 2) W) = c_agt st f i ld := by
  unfold c_agt xg_ag c_al c_lo c_hi
  simp only [Int.mul_sub]
  generalize st 1 2 * st (sy_nS i) 6 = A at *
  generalize st 1 2 * st (sy_nS i) 7 = B at *
  generalize st 1 2 * st (sy_nS i) 8 = C at *
  generalize st 1 2 * st (sy_nS i) 9 = D at *
  generalize st 1 2 * ld = V at *
  generalize c_fg st f 0 = X at *
  generalize st (sy_nS i) 5 = kd at *
  generalize st (sy_nS i) 1 = sx at *
  rcases h with ⟨ho, hW⟩ | ⟨ho, h0, h1, hq⟩
  · rw [ho, if_pos hW, if_pos hW]
    by_cases k1 : kd = 1
    · rw [if_pos k1, if_pos k1]
      simp
      omega
    · rw [if_neg k1, if_neg k1]
      by_cases k2 : kd = 2
      · rw [if_pos k2, if_pos k2]
        simp
        omega
      · rw [if_neg k2, if_neg k2]
  · have hW : ¬ W = -1 := by omega
    rw [ho]
    simp only [if_neg hW]
    have hle : ∀ q, xg_le (c_fg st f 2) (c_fg st f 3) (st (sy_nS i) 0 - c_fg st f 1) q = decide (W ≤ 2 * q) := fun q => by
      rw [Bool.eq_iff_iff, decide_eq_true_eq]; exact (hq q).1
    have hge : ∀ q, xg_ge (c_fg st f 2) (c_fg st f 3) (st (sy_nS i) 0 - c_fg st f 1) q = decide (2 * q ≤ W) := fun q => by
      rw [Bool.eq_iff_iff, decide_eq_true_eq]; exact (hq q).2
    simp only [hle, hge]
    by_cases k1 : kd = 1
    · have k2 : ¬ kd = 2 := by omega
      simp only [if_pos k1, if_neg k2]
      rw [Bool.eq_iff_iff]
      simp only [decide_eq_true_eq, Bool.and_eq_true, Bool.true_and]
      omega
    · simp only [if_neg k1]
      by_cases k2 : kd = 2
      · simp only [if_pos k2]
        rw [Bool.eq_iff_iff]
        simp only [decide_eq_true_eq, Bool.or_eq_true, Bool.not_true, Bool.false_eq_true, false_or]
        omega
      · simp only [if_neg k2]
/-- one shape is judged: its figures' bits are set or cleared -/
def sp_5_judgeShape (ns : Nat) : sy_Sp := sy_qSIII ns 7 fun i b s w st post => (c_net st ∧ c_rng st ∧ (0 ≤ s ∧ s < st 3 3) ∧ (-1 ≤ w ∧ w ≤ 4001)) ∧ ∀ g : Nat → Int, (∀ f : Nat, g f = if ((f : Int) < st 3 4 ∧ (f : Int) % st 3 3 = s) then x_bop b (c_al (st (sy_nS i) 5) (2 * (c_F st 0 + c_B st 0 * ((f : Int) / st 3 3) + st 1 2 * st (sy_nS i) 4)) (c_lo st i (st 1 2) w) (c_hi st i (st 1 2) w)) (st 8 f) else st 8 f) → post none (c_row st 8 g)
def ct_5_judgeShape (ns q : Nat) : Option (Bool × Nat × sy_Sp) := match q with
  | 113 => some (false, 3, sp_6_lowest ns)
  | 117 => some (false, 3, sp_6_highest ns)
  | 120 => some (false, 3, sp_3_nth ns)
  | 126 => some (true, 2, sp_M_maxI ns)
  | 131 => some (false, 4, sp_6_allows ns)
  | _ => none
abbrev M_5_judgeShape (ns : Nat) : sy_M := Mk_5_judgeShape (ct_5_judgeShape ns)
theorem cx_5_judgeShape_113 {ns : Nat} {v1 v2 v3 : sy_V} {r : List sy_V} {s : sy_S} {f : List sy_V → sy_S → Prop} : sy_call false (ct_5_judgeShape ns 113) (v3 :: v2 :: v1 :: r) s f = (sy_wd r ≤ 8 ∧ (sy_fit v3 ∧ sy_fit v2 ∧ sy_fit v1) ∧ sp_6_lowest ns [sy_kn v1, sy_kn v2, sy_kn v3] s (fun q t => f (q.toList ++ r) t)) := sx_call3
theorem cx_5_judgeShape_117 {ns : Nat} {v1 v2 v3 : sy_V} {r : List sy_V} {s : sy_S} {f : List sy_V → sy_S → Prop} : sy_call false (ct_5_judgeShape ns 117) (v3 :: v2 :: v1 :: r) s f = (sy_wd r ≤ 8 ∧ (sy_fit v3 ∧ sy_fit v2 ∧ sy_fit v1) ∧ sp_6_highest ns [sy_kn v1, sy_kn v2, sy_kn v3] s (fun q t => f (q.toList ++ r) t)) := sx_call3
theorem cx_5_judgeShape_120 {ns : Nat} {v1 v2 v3 : sy_V} {r : List sy_V} {s : sy_S} {f : List sy_V → sy_S → Prop} : sy_call false (ct_5_judgeShape ns 120) (v3 :: v2 :: v1 :: r) s f = (sy_wd r ≤ 8 ∧ (sy_fit v3 ∧ sy_fit v2 ∧ sy_fit v1) ∧ sp_3_nth ns [sy_kn v1, sy_kn v2, sy_kn v3] s (fun q t => f (q.toList ++ r) t)) := sx_call3
theorem cx_5_judgeShape_126 {ns : Nat} {v1 v2 : sy_V} {r : List sy_V} {s : sy_S} {f : List sy_V → sy_S → Prop} : sy_call true (ct_5_judgeShape ns 126) (v2 :: v1 :: r) s f = (sy_wd r ≤ 8 ∧ (sy_fit v2 ∧ sy_fit v1) ∧ sp_M_maxI ns [sy_kn v1, sy_kn v2] s (fun q t => f (q.toList ++ r) t)) := sx_call2
theorem cx_5_judgeShape_131 {ns : Nat} {v1 v2 v3 v4 : sy_V} {r : List sy_V} {s : sy_S} {f : List sy_V → sy_S → Prop} : sy_call false (ct_5_judgeShape ns 131) (v4 :: v3 :: v2 :: v1 :: r) s f = (sy_wd r ≤ 8 ∧ (sy_fit v4 ∧ sy_fit v3 ∧ sy_fit v2 ∧ sy_fit v1) ∧ sp_6_allows ns [sy_kn v1, sy_kn v2, sy_kn v3, sy_kn v4] s (fun q t => f (q.toList ++ r) t)) := sx_call4
theorem mv_5_judgeShape (ns : Nat) : sy_MV c_5_judgeShape y_5_judgeShape.cls none (M_5_judgeShape ns) := ⟨tv_5_judgeShape, ff_5_ok, ki_5_ok, kl_5_ok⟩
abbrev rm_5_judgeShape : Room := { frames := 2, cells := 0, slots := 0, locals := 44 }
theorem iw_6_allows : Cond.code y_6_allows c_6_allows 4 (some .boolean) ∈ sy_tb ∧ Cond.initialized y_6_allows.cls ∈ sy_tb ∧ (y_6_allows.cls ≠ "java/lang/invoke/MethodHandle" ∧ y_6_allows.cls ≠ "java/lang/invoke/VarHandle" ∧ (parseMethodDescriptor y_6_allows.desc).map (fun d => d.parameters.length) = some 3) := ⟨sy_inx 519 (by decide +kernel) (by decide +kernel), sy_inx 54 (by decide +kernel) (by decide +kernel), by decide +kernel⟩
theorem ii_6_allows : Cond.instanceMethod y_6_allows ∈ sy_tb ∧ Cond.selects y_6_allows.cls y_6_allows y_6_allows ∈ sy_tb := ⟨sy_inx 517 (by decide +kernel) (by decide +kernel), sy_inx 518 (by decide +kernel) (by decide +kernel)⟩
theorem co_5_judgeShape (l : Launch) : sy_calls l rm_5_judgeShape y_5_judgeShape.cls c_5_judgeShape 11 (fun ns => (M_5_judgeShape ns).2.2.2.2.1) := by
  intro p e s m args below meth c rt wd ad ns A Q X hA q b n sp h
  replace h : ct_5_judgeShape ns q = some (b, n, sp) := h
  unfold ct_5_judgeShape at h
  split at h
  · cases h; exact sy_coV (ci := 6) X hA (mc_6_lowest l) ⟨iw_6_lowest.1, iw_6_lowest.2.1, iw_6_lowest.2.2, ⟨by decide, by decide⟩, rfl, rfl⟩ (sy_inx 502 (by decide +kernel) (by decide +kernel)) ii_6_lowest.1 ii_6_lowest.2 (rc_6_lowest ns) ⟨_, rfl, rfl⟩
  · cases h; exact sy_coV (ci := 6) X hA (mc_6_highest l) ⟨iw_6_highest.1, iw_6_highest.2.1, iw_6_highest.2.2, ⟨by decide, by decide⟩, rfl, rfl⟩ (sy_inx 507 (by decide +kernel) (by decide +kernel)) ii_6_highest.1 ii_6_highest.2 (rc_6_highest ns) ⟨_, rfl, rfl⟩
  · cases h; exact sy_coV (ci := 3) X hA (mc_3_nth l) ⟨iw_3_nth.1, iw_3_nth.2.1, iw_3_nth.2.2, ⟨by decide, by decide⟩, rfl, rfl⟩ (sy_inx 514 (by decide +kernel) (by decide +kernel)) ii_3_nth.1 ii_3_nth.2 (rc_3_nth ns) ⟨_, rfl, rfl⟩
  · cases h; exact sy_coS X hA (mc_M_maxI l) ⟨iw_M_maxI.1, iw_M_maxI.2.1, iw_M_maxI.2.2, ⟨by decide, by decide⟩, rfl, rfl⟩ (sy_inx 515 (by decide +kernel) (by decide +kernel)) is_M_maxI
  · cases h; exact sy_coV (ci := 6) X hA (mc_6_allows l) ⟨iw_6_allows.1, iw_6_allows.2.1, iw_6_allows.2.2, ⟨by decide, by decide⟩, rfl, rfl⟩ (sy_inx 516 (by decide +kernel) (by decide +kernel)) ii_6_allows.1 ii_6_allows.2 (rc_6_allows ns) ⟨_, rfl, rfl⟩
  · cases h
theorem rc_5_judgeShape (ns : Nat) (as : List sy_V) (st : sy_S) (post : sy_R) (h : sp_5_judgeShape ns as st post) : ∃ b as', as = .inr (.inr (some (some b))) :: as' ∧ sy_ob b = some 5 := sy_qSIII_r rfl as st post h
theorem mc_5_judgeShape (l : Launch) : sy_MC l y_5_judgeShape c_5_judgeShape 11 none rm_5_judgeShape sp_5_judgeShape := by
  refine sy_meth M_5_judgeShape (by decide +kernel) mv_5_judgeShape (co_5_judgeShape l) ?_
  intro ns as st post WA h hok hrg ⟨hgo0, hin, hwk⟩
  have hgo : ∀ (n pc : Nat) (L k : List sy_V) (st : sy_S), rn_5_judgeShape ns (ct_5_judgeShape ns) post WA n pc L k st → WA pc L k st := fun n pc L k st h => hgo0 [95] n pc L k st h
  replace h := sy_qSIII_e h hok
  obtain ⟨i, b, s, w, rfl, hi, hb, hs, hw, h⟩ := h
  refine ⟨Nat.le_of_ble_eq_true rfl, ?_⟩
  show WA 0 [.inr (.inr (some (some 7))), .inr (.inr (some (some (sy_nS i)))), .inl (true, b), .inl (true, s), .inl (true, w), .inr (.inr none), .inr (.inr none), .inr (.inr none), .inr (.inr none), .inr (.inr none), .inr (.inr none)] [] st
  obtain ⟨⟨hn, hr, hs1, hw1⟩, h⟩ := h
  have ht := c_tot_r hn
  have hlo := c_lo_rng hr i hr.1 hw1
  have hhi := c_hi_rng hr i hr.1 hw1
  have hN0 := xg_net_N hn.1 0
  have hn0 := c_nth_rng hn (r := 0) (by decide) (k := 0) (by omega)
  have hn1 := c_nth_rng hn (r := 0) (by decide) (k := 1) (by omega)
  have hld := hr.2.2.2.1 i
  have hvl := xg_mul_le (a := st 1 2) (b := st (sy_nS i) 4) (A := 10) (B := 50) (by have := hr.1; omega) (by omega)
  obtain ⟨n, en⟩ : ∃ n : Nat, (n : Int) = st 3 3 := ⟨(st 3 3).toNat, by omega⟩
  obtain ⟨N0, eN⟩ : ∃ N0 : Nat, (N0 : Int) = c_N st 0 := ⟨(c_N st 0).toNat, by omega⟩
  obtain ⟨sh, rfl⟩ : ∃ sh : Nat, s = sh := ⟨s.toNat, by omega⟩
  have etot : st 3 4 = ((N0 * n : Nat) : Int) := by rw [hn.2.2, ← eN, ← en]; simp
  have hB0 := hn.1.1 0
  let G : Nat → Nat → Int := fun q f => if f % n = sh ∧ f / n < q then x_bop b (c_al (st (sy_nS i) 5) (2 * (c_F st 0 + c_B st 0 * ((f / n : Nat) : Int) + st 1 2 * st (sy_nS i) 4)) (c_lo st i (st 1 2) w) (c_hi st i (st 1 2) w)) (st 8 f) else st 8 f
  have key : ∀ (d q : Nat), q + d = N0 → WA 95 [.inr (.inr (some (some 7))), .inr (.inr (some (some (sy_nS i)))), .inl (true, b), .inl (true, (sh : Int)), .inl (true, w), .inl (true, c_lo st i (st 1 2) w), .inl (true, c_hi st i (st 1 2) w), .inl (true, 2 * (c_F st 0 + c_B st 0 * (q : Int) + st 1 2 * st (sy_nS i) 4)), .inl (true, 2 * c_B st 0), .inl (true, (n : Int)), .inl (true, ((n * q + sh : Nat) : Int))] [] (c_row st 8 (G q)) := by
    intro d
    induction d with
    | zero =>
      intro q hq
      refine hgo 100 _ _ _ _ ?_
      simp -implicitDefEqProofs only [↓rx_5_judgeShape_0, ↓rx_5_judgeShape_1, ↓rx_5_judgeShape_2, ↓rx_5_judgeShape_5, ↓rx_5_judgeShape_8, ↓rx_5_judgeShape_10, ↓rx_5_judgeShape_13, ↓rx_5_judgeShape_15, ↓rx_5_judgeShape_16, ↓rx_5_judgeShape_17, ↓rx_5_judgeShape_20, ↓rx_5_judgeShape_23, ↓rx_5_judgeShape_25, ↓rx_5_judgeShape_28, ↓rx_5_judgeShape_30, ↓rx_5_judgeShape_31, ↓rx_5_judgeShape_32, ↓rx_5_judgeShape_35, ↓rx_5_judgeShape_36, ↓rx_5_judgeShape_37, ↓rx_5_judgeShape_40, ↓rx_5_judgeShape_41, ↓rx_5_judgeShape_44, ↓rx_5_judgeShape_47, ↓rx_5_judgeShape_48, ↓rx_5_judgeShape_51, ↓rx_5_judgeShape_52, ↓rx_5_judgeShape_53, ↓rx_5_judgeShape_54, ↓rx_5_judgeShape_56, ↓rx_5_judgeShape_57, ↓rx_5_judgeShape_58, ↓rx_5_judgeShape_61, ↓rx_5_judgeShape_62, ↓rx_5_judgeShape_63, ↓rx_5_judgeShape_66, ↓rx_5_judgeShape_67, ↓rx_5_judgeShape_70, ↓rx_5_judgeShape_71, ↓rx_5_judgeShape_72, ↓rx_5_judgeShape_75, ↓rx_5_judgeShape_76, ↓rx_5_judgeShape_77, ↓rx_5_judgeShape_79, ↓rx_5_judgeShape_80, ↓rx_5_judgeShape_81, ↓rx_5_judgeShape_84, ↓rx_5_judgeShape_87, ↓rx_5_judgeShape_90, ↓rx_5_judgeShape_92, ↓rx_5_judgeShape_93, ↓rx_5_judgeShape_95, ↓rx_5_judgeShape_97, ↓rx_5_judgeShape_98, ↓rx_5_judgeShape_101, ↓rx_5_judgeShape_104, ↓rx_5_judgeShape_107, ↓rx_5_judgeShape_109, ↓rx_5_judgeShape_112, ↓rx_5_judgeShape_115, ↓rx_5_judgeShape_116, ↓rx_5_judgeShape_118, ↓rx_5_judgeShape_120, ↓rx_5_judgeShape_122, ↓rx_5_judgeShape_125, ↓rx_5_judgeShape_128, ↓rx_5_judgeShape_129, ↓rx_5_judgeShape_132, ↓rx_5_judgeShape_134, ↓rx_5_judgeShape_135, ↓rx_5_judgeShape_136, ↓rx_5_judgeShape_137, ↓rx_5_judgeShape_138, ↓rx_5_judgeShape_139, ↓rx_5_judgeShape_140, ↓rx_5_judgeShape_141, ↓rx_5_judgeShape_144, ↓rx_5_judgeShape_145, ↓rx_5_judgeShape_148, ↓rx_5_judgeShape_150, ↓rx_5_judgeShape_151, ↓rx_5_judgeShape_152, ↓rx_5_judgeShape_153, ↓rx_5_judgeShape_154, ↓rx_5_judgeShape_155, ↓rx_5_judgeShape_157, ↓rx_5_judgeShape_159, ↓rx_5_judgeShape_160, ↓rx_5_judgeShape_162, ↓rx_5_judgeShape_164, ↓rx_5_judgeShape_166, ↓rx_5_judgeShape_167, ↓rx_5_judgeShape_169, ↓rx_5_judgeShape_172, ↓cx_5_judgeShape_113, ↓cx_5_judgeShape_117, ↓cx_5_judgeShape_120, ↓cx_5_judgeShape_126, ↓cx_5_judgeShape_131, sp_3_nth, sp_6_allows, sp_6_highest, sp_6_lowest, sp_M_maxI, ↓sx_s1, ↓sx_s2, ↓sx_s3, ↓sx_s4, ↓sx_s5, ↓sx_s6, ↓sx_m0, ↓sx_m1, ↓sx_m2, ↓sx_m3, ↓sx_m4, ↓sx_m5, ↓sx_m6, ↓sx_k0_, ↓sx_k1_, ↓sx_k2_, ↓sx_k3_, ↓sx_k4_, ↓sx_k5_, ↓sx_k6_, ↓sx_sLL, ↓sx_sAI, ↓sx_mLL, ↓sx_mIIL, ↓sx_mIILL, ↓sx_mIILLL, ↓sx_qS, ↓sx_qSI, ↓sx_qSIII, sx_rit, sx_rif, sx_rlt, sx_rlf, sx_b0, sx_b1, sx_o0, sx_o1i, sx_o1a, sx_o1l, sx_o2, sx_g0, sx_g1, sx_k1, sx_k2, sx_k3, sx_f1, sx_f2, sx_f3, sx_w0, sx_w1, sx_w2, sx_w3, sx_ts, sx_tn, sx_up, sx_nS1, sx_nS2, sx_nW1, sx_nW2, sx_SW, sx_WS, sy_nS_inj, sy_nW_inj, sx_ob0, sx_ob1, sx_ob2, sx_ob3, sx_ob4, sx_ob5, sx_ob6, sx_ob7, sx_ob8, sx_ob9, sx_ob10, sx_ob11, sx_ob12, sx_ob13, sx_ob14, sx_ob15, sx_ob16, sx_ob17, sx_ob18, sx_ob19, sx_ob20, sx_ob21, sx_ob22, sx_ob23, sx_ob24, sx_ob25, sx_ob26, sx_ob27, sx_ob28, sx_ob29, sx_ob30, sx_ob31, sx_ob32, sx_ob33, sx_ob34, sx_ob35, sx_ob36, sx_fv0_0, sx_fv0_1, sx_fv0_2, sx_fv0_3, sx_fv0_4, sx_fv0_5, sx_fv1_0, sx_fv1_1, sx_fv1_2, sx_fv3_0, sx_fv3_1, sx_fv3_2, sx_fv3_3, sx_fv3_4, sx_fv7_0, sx_fv7_1, sx_fv7_2, sx_fv7_3, sx_fv7_4, sx_fv7_5, sx_fv7_6, sx_fv7_7, sx_fv7_8, sx_fv7_9, sx_fv7_10, sx_fv9_0, sx_fv9_1, sx_fv9_2, sx_fv9_3, sx_fv11_0, sx_fv11_1, sx_fv11_2, sx_fv11_3, sx_fv11_4, sx_fv11_5, sx_fv11_6, sx_fv15_0, sx_fv15_1, sx_fv15_2, sx_fv15_3, sx_fv15_4, sx_fv15_5, sx_fv19_0, sx_fv19_1, sx_fv19_2, sx_fv19_3, sx_fv19_4, sx_fv19_5, sx_fv19_6, sx_fv24_0, sx_fv24_1, sx_fv24_2, sx_fv24_3, sx_fv24_4, sx_fv24_5, sx_fv24_6, sx_fv24_7, sx_fv24_8, sx_fv24_9, sx_fv24_10, sx_fv24_11, sx_fv24_12, sx_fv24_13, sx_fv24_14, sx_fv24_15, sx_fv24_16, sx_fv24_17, sx_fv24_18, sx_fvS_0, sx_fvS_1, sx_fvS_2, sx_fvS_3, sx_fvS_4, sx_fvS_5, sx_fvS_6, sx_fvS_7, sx_fvS_8, sx_fvS_9, sx_ar2, sx_ar4, sx_ar5, sx_ar6, sx_ar8, sx_ar10, sx_ar12, sx_ar13, sx_ar14, sx_ar16, sx_ar17, sx_ar18, sx_ar20, sx_ar21, sx_ar22, sx_ar23, sx_ar25, sx_ar26, sx_ar27, sx_ar28, sx_ar29, sx_ar30, sx_ar31, sx_ar32, sx_ar33, sx_ar34, sx_ar35, sx_ar36, sy_ob_S, sy_ob_W, sy_ar_W, sx_if0, sx_if1, sx_ie0, sx_em, Classical.not_not, sx_cle, sx_clt, sx_cge, sx_cgt, sx_ceq, Nat.reduceLT, Nat.reduceLeDiff, Nat.reduceAdd, Nat.reduceSub, Nat.reduceEqDiff, reduceIte, List.length_cons, List.length_nil, true_and, and_true, and_self, Bool.false_eq_true, true_implies, not_true_eq_false, not_false_eq_true, false_implies, implies_true, ne_eq, reduceCtorEq, Option.some.injEq, false_and, and_false, Int.reduceNeg, Int.reduceToNat, Int.reduceLT, Int.reduceLE, Int.reduceEq, Int.reduceAdd, Int.reduceSub, Int.reduceMul, or_false, false_or, or_true, true_or, forall_const, Int.toNat_natCast, Int.toNat_zero, Int.toNat_one, Nat.zero_add, or_self, Int.neg_eq_zero]
      have e3 : c_row st 8 (G q) 3 = st 3 := c_row_ne (by decide)
      have hqe : q = N0 := by omega
      subst hqe
      have hge : q * n ≤ n * q + sh := by rw [Nat.mul_comm]; omega
      rw [e3, etot]
      refine ⟨fun _ => ?_, fun c => by omega⟩
      refine h (G q) (fun f => ?_)
      show (if f % n = sh ∧ f / n < q then _ else _) = _
      have hd : f / n < q ↔ f < q * n := Nat.div_lt_iff_lt_mul (by omega)
      have e1 : ((f : Int) / st 3 3) = ((f / n : Nat) : Int) := by rw [← en]; simp
      have e2 : ((f : Int) % st 3 3 = (sh : Int)) ↔ f % n = sh := by rw [← en, ← Int.natCast_emod]; omega
      rw [e1]
      by_cases hc : f % n = sh ∧ f / n < q
      · rw [if_pos hc, if_pos ⟨by rw [etot]; have := hd.mp hc.2; omega, e2.mpr hc.1⟩]
      · rw [if_neg hc, if_neg (fun z => hc ⟨e2.mp z.2, hd.mpr (by have := z.1; rw [etot] at this; omega)⟩)]
    | succ d ih =>
      intro q hq
      refine hgo 100 _ _ _ _ ?_
      simp -implicitDefEqProofs only [↓rx_5_judgeShape_0, ↓rx_5_judgeShape_1, ↓rx_5_judgeShape_2, ↓rx_5_judgeShape_5, ↓rx_5_judgeShape_8, ↓rx_5_judgeShape_10, ↓rx_5_judgeShape_13, ↓rx_5_judgeShape_15, ↓rx_5_judgeShape_16, ↓rx_5_judgeShape_17, ↓rx_5_judgeShape_20, ↓rx_5_judgeShape_23, ↓rx_5_judgeShape_25, ↓rx_5_judgeShape_28, ↓rx_5_judgeShape_30, ↓rx_5_judgeShape_31, ↓rx_5_judgeShape_32, ↓rx_5_judgeShape_35, ↓rx_5_judgeShape_36, ↓rx_5_judgeShape_37, ↓rx_5_judgeShape_40, ↓rx_5_judgeShape_41, ↓rx_5_judgeShape_44, ↓rx_5_judgeShape_47, ↓rx_5_judgeShape_48, ↓rx_5_judgeShape_51, ↓rx_5_judgeShape_52, ↓rx_5_judgeShape_53, ↓rx_5_judgeShape_54, ↓rx_5_judgeShape_56, ↓rx_5_judgeShape_57, ↓rx_5_judgeShape_58, ↓rx_5_judgeShape_61, ↓rx_5_judgeShape_62, ↓rx_5_judgeShape_63, ↓rx_5_judgeShape_66, ↓rx_5_judgeShape_67, ↓rx_5_judgeShape_70, ↓rx_5_judgeShape_71, ↓rx_5_judgeShape_72, ↓rx_5_judgeShape_75, ↓rx_5_judgeShape_76, ↓rx_5_judgeShape_77, ↓rx_5_judgeShape_79, ↓rx_5_judgeShape_80, ↓rx_5_judgeShape_81, ↓rx_5_judgeShape_84, ↓rx_5_judgeShape_87, ↓rx_5_judgeShape_90, ↓rx_5_judgeShape_92, ↓rx_5_judgeShape_93, ↓rx_5_judgeShape_95, ↓rx_5_judgeShape_97, ↓rx_5_judgeShape_98, ↓rx_5_judgeShape_101, ↓rx_5_judgeShape_104, ↓rx_5_judgeShape_107, ↓rx_5_judgeShape_109, ↓rx_5_judgeShape_112, ↓rx_5_judgeShape_115, ↓rx_5_judgeShape_116, ↓rx_5_judgeShape_118, ↓rx_5_judgeShape_120, ↓rx_5_judgeShape_122, ↓rx_5_judgeShape_125, ↓rx_5_judgeShape_128, ↓rx_5_judgeShape_129, ↓rx_5_judgeShape_132, ↓rx_5_judgeShape_134, ↓rx_5_judgeShape_135, ↓rx_5_judgeShape_136, ↓rx_5_judgeShape_137, ↓rx_5_judgeShape_138, ↓rx_5_judgeShape_139, ↓rx_5_judgeShape_140, ↓rx_5_judgeShape_141, ↓rx_5_judgeShape_144, ↓rx_5_judgeShape_145, ↓rx_5_judgeShape_148, ↓rx_5_judgeShape_150, ↓rx_5_judgeShape_151, ↓rx_5_judgeShape_152, ↓rx_5_judgeShape_153, ↓rx_5_judgeShape_154, ↓rx_5_judgeShape_155, ↓rx_5_judgeShape_157, ↓rx_5_judgeShape_159, ↓rx_5_judgeShape_160, ↓rx_5_judgeShape_162, ↓rx_5_judgeShape_164, ↓rx_5_judgeShape_166, ↓rx_5_judgeShape_167, ↓rx_5_judgeShape_169, ↓rx_5_judgeShape_172, ↓cx_5_judgeShape_113, ↓cx_5_judgeShape_117, ↓cx_5_judgeShape_120, ↓cx_5_judgeShape_126, ↓cx_5_judgeShape_131, sp_3_nth, sp_6_allows, sp_6_highest, sp_6_lowest, sp_M_maxI, ↓sx_s1, ↓sx_s2, ↓sx_s3, ↓sx_s4, ↓sx_s5, ↓sx_s6, ↓sx_m0, ↓sx_m1, ↓sx_m2, ↓sx_m3, ↓sx_m4, ↓sx_m5, ↓sx_m6, ↓sx_k0_, ↓sx_k1_, ↓sx_k2_, ↓sx_k3_, ↓sx_k4_, ↓sx_k5_, ↓sx_k6_, ↓sx_sLL, ↓sx_sAI, ↓sx_mLL, ↓sx_mIIL, ↓sx_mIILL, ↓sx_mIILLL, ↓sx_qS, ↓sx_qSI, ↓sx_qSIII, sx_rit, sx_rif, sx_rlt, sx_rlf, sx_b0, sx_b1, sx_o0, sx_o1i, sx_o1a, sx_o1l, sx_o2, sx_g0, sx_g1, sx_k1, sx_k2, sx_k3, sx_f1, sx_f2, sx_f3, sx_w0, sx_w1, sx_w2, sx_w3, sx_ts, sx_tn, sx_up, sx_nS1, sx_nS2, sx_nW1, sx_nW2, sx_SW, sx_WS, sy_nS_inj, sy_nW_inj, sx_ob0, sx_ob1, sx_ob2, sx_ob3, sx_ob4, sx_ob5, sx_ob6, sx_ob7, sx_ob8, sx_ob9, sx_ob10, sx_ob11, sx_ob12, sx_ob13, sx_ob14, sx_ob15, sx_ob16, sx_ob17, sx_ob18, sx_ob19, sx_ob20, sx_ob21, sx_ob22, sx_ob23, sx_ob24, sx_ob25, sx_ob26, sx_ob27, sx_ob28, sx_ob29, sx_ob30, sx_ob31, sx_ob32, sx_ob33, sx_ob34, sx_ob35, sx_ob36, sx_fv0_0, sx_fv0_1, sx_fv0_2, sx_fv0_3, sx_fv0_4, sx_fv0_5, sx_fv1_0, sx_fv1_1, sx_fv1_2, sx_fv3_0, sx_fv3_1, sx_fv3_2, sx_fv3_3, sx_fv3_4, sx_fv7_0, sx_fv7_1, sx_fv7_2, sx_fv7_3, sx_fv7_4, sx_fv7_5, sx_fv7_6, sx_fv7_7, sx_fv7_8, sx_fv7_9, sx_fv7_10, sx_fv9_0, sx_fv9_1, sx_fv9_2, sx_fv9_3, sx_fv11_0, sx_fv11_1, sx_fv11_2, sx_fv11_3, sx_fv11_4, sx_fv11_5, sx_fv11_6, sx_fv15_0, sx_fv15_1, sx_fv15_2, sx_fv15_3, sx_fv15_4, sx_fv15_5, sx_fv19_0, sx_fv19_1, sx_fv19_2, sx_fv19_3, sx_fv19_4, sx_fv19_5, sx_fv19_6, sx_fv24_0, sx_fv24_1, sx_fv24_2, sx_fv24_3, sx_fv24_4, sx_fv24_5, sx_fv24_6, sx_fv24_7, sx_fv24_8, sx_fv24_9, sx_fv24_10, sx_fv24_11, sx_fv24_12, sx_fv24_13, sx_fv24_14, sx_fv24_15, sx_fv24_16, sx_fv24_17, sx_fv24_18, sx_fvS_0, sx_fvS_1, sx_fvS_2, sx_fvS_3, sx_fvS_4, sx_fvS_5, sx_fvS_6, sx_fvS_7, sx_fvS_8, sx_fvS_9, sx_ar2, sx_ar4, sx_ar5, sx_ar6, sx_ar8, sx_ar10, sx_ar12, sx_ar13, sx_ar14, sx_ar16, sx_ar17, sx_ar18, sx_ar20, sx_ar21, sx_ar22, sx_ar23, sx_ar25, sx_ar26, sx_ar27, sx_ar28, sx_ar29, sx_ar30, sx_ar31, sx_ar32, sx_ar33, sx_ar34, sx_ar35, sx_ar36, sy_ob_S, sy_ob_W, sy_ar_W, sx_if0, sx_if1, sx_ie0, sx_em, Classical.not_not, sx_cle, sx_clt, sx_cge, sx_cgt, sx_ceq, Nat.reduceLT, Nat.reduceLeDiff, Nat.reduceAdd, Nat.reduceSub, Nat.reduceEqDiff, reduceIte, List.length_cons, List.length_nil, true_and, and_true, and_self, Bool.false_eq_true, true_implies, not_true_eq_false, not_false_eq_true, false_implies, implies_true, ne_eq, reduceCtorEq, Option.some.injEq, false_and, and_false, Int.reduceNeg, Int.reduceToNat, Int.reduceLT, Int.reduceLE, Int.reduceEq, Int.reduceAdd, Int.reduceSub, Int.reduceMul, or_false, false_or, or_true, true_or, forall_const, Int.toNat_natCast, Int.toNat_zero, Int.toNat_one, Nat.zero_add, or_self, Int.neg_eq_zero]
      have e3 : c_row st 8 (G q) 3 = st 3 := c_row_ne (by decide)
      have eS : c_row st 8 (G q) (sy_nS i) = st (sy_nS i) := c_row_ne (by unfold sy_nS; omega)
      have e8 : c_row st 8 (G q) 8 = G q := c_row_eq st 8 (G q)
      rw [e3, eS, e8, etot]
      have i1 := ih (q + 1) (by omega)
      have hmq : c_B st 0 * ((q + 1 : Nat) : Int) = c_B st 0 * (q : Int) + c_B st 0 := by
        rw [Int.natCast_add, Int.mul_add]; simp
      have hqb := c_nth_rng hn (r := 0) (by decide) (k := (q : Int)) (by omega)
      have em : 2 * (c_F st 0 + c_B st 0 * (q : Int) + st 1 2 * st (sy_nS i) 4) + 2 * c_B st 0 = 2 * (c_F st 0 + c_B st 0 * ((q + 1 : Nat) : Int) + st 1 2 * st (sy_nS i) 4) := by rw [hmq]; omega
      have ef : ((n * q + sh : Nat) : Int) + (n : Int) = ((n * (q + 1) + sh : Nat) : Int) := by rw [Nat.mul_succ]; omega
      have hlt : n * q + sh < N0 * n := by
        have a1 := Nat.mul_le_mul_left n (show q + 1 ≤ N0 by omega)
        rw [Nat.mul_succ, Nat.mul_comm n N0] at a1
        omega
      have hd : (n * q + sh) / n = q := by rw [Nat.mul_add_div (by omega), Nat.div_eq_of_lt (by omega), Nat.add_zero]
      have hmd : (n * q + sh) % n = sh := by rw [Nat.mul_add_mod, Nat.mod_eq_of_lt (by omega)]
      have gq : G q (n * q + sh) = st 8 (n * q + sh) := by
        show (if _ ∧ _ then _ else _) = _
        rw [hd, if_neg (fun z => absurd z.2 (Nat.lt_irrefl q))]
      have gs : (fun j => if j = n * q + sh then x_bop b (c_al (st (sy_nS i) 5) (2 * (c_F st 0 + c_B st 0 * (q : Int) + st 1 2 * st (sy_nS i) 4)) (c_lo st i (st 1 2) w) (c_hi st i (st 1 2) w)) (st 8 (n * q + sh)) else G q j) = G (q + 1) := by
        funext j
        by_cases hj : j = n * q + sh
        · subst hj
          rw [if_pos rfl]
          show _ = (if (n * q + sh) % n = sh ∧ (n * q + sh) / n < q + 1 then _ else _)
          rw [hd, if_pos ⟨hmd, Nat.lt_succ_self q⟩]
        · rw [if_neg hj]
          show (if j % n = sh ∧ j / n < q then _ else _) = (if j % n = sh ∧ j / n < q + 1 then _ else _)
          by_cases hc : j % n = sh ∧ j / n < q
          · rw [if_pos hc, if_pos ⟨hc.1, by omega⟩]
          · rw [if_neg hc, if_neg (fun z => ?_)]
            have h1 : j / n = q := by
              rcases Nat.lt_or_ge (j / n) q with y | y
              · exact absurd ⟨z.1, y⟩ hc
              · omega
            have := Nat.div_add_mod j n
            rw [h1, z.1] at this
            exact hj this.symm
      rw [em, ef, gq, c_row_up, c_row_up]
      have hb1 : ∀ x, x_bop b true x = (Int32.ofInt x &&& Int32.ofInt ((Int32.ofInt b ^^^ Int32.ofInt (-1)).toInt)).toInt := fun x => by unfold x_bop; rw [if_pos rfl]
      have hb0 : ∀ x, x_bop b false x = (Int32.ofInt x ||| Int32.ofInt b).toInt := fun x => by unfold x_bop; rw [if_neg (by decide)]
      have hle9 : N0 * n ≤ 4096 := by omega
      refine ⟨fun c => by omega, fun _ => ⟨fun c => by omega, fun _ => ⟨hi, fun c => ⟨by omega, by omega, by omega, by omega, ?_⟩, fun c => ⟨by omega, by omega, by omega, by omega, ?_⟩⟩⟩⟩
      · rw [← hb0, ← (Bool.not_eq_true _ ▸ c : c_al (st (sy_nS i) 5) (2 * (c_F st 0 + c_B st 0 * (q : Int) + st 1 2 * st (sy_nS i) 4)) (c_lo st i (st 1 2) w) (c_hi st i (st 1 2) w) = false), gs]
        exact i1
      · have gs2 := gs
        rw [c] at gs2
        rw [← hb1, gs2]
        exact i1
  refine hgo 200 _ _ _ _ ?_
  simp -implicitDefEqProofs only [↓rx_5_judgeShape_0, ↓rx_5_judgeShape_1, ↓rx_5_judgeShape_2, ↓rx_5_judgeShape_5, ↓rx_5_judgeShape_8, ↓rx_5_judgeShape_10, ↓rx_5_judgeShape_13, ↓rx_5_judgeShape_15, ↓rx_5_judgeShape_16, ↓rx_5_judgeShape_17, ↓rx_5_judgeShape_20, ↓rx_5_judgeShape_23, ↓rx_5_judgeShape_25, ↓rx_5_judgeShape_28, ↓rx_5_judgeShape_30, ↓rx_5_judgeShape_31, ↓rx_5_judgeShape_32, ↓rx_5_judgeShape_35, ↓rx_5_judgeShape_36, ↓rx_5_judgeShape_37, ↓rx_5_judgeShape_40, ↓rx_5_judgeShape_41, ↓rx_5_judgeShape_44, ↓rx_5_judgeShape_47, ↓rx_5_judgeShape_48, ↓rx_5_judgeShape_51, ↓rx_5_judgeShape_52, ↓rx_5_judgeShape_53, ↓rx_5_judgeShape_54, ↓rx_5_judgeShape_56, ↓rx_5_judgeShape_57, ↓rx_5_judgeShape_58, ↓rx_5_judgeShape_61, ↓rx_5_judgeShape_62, ↓rx_5_judgeShape_63, ↓rx_5_judgeShape_66, ↓rx_5_judgeShape_67, ↓rx_5_judgeShape_70, ↓rx_5_judgeShape_71, ↓rx_5_judgeShape_72, ↓rx_5_judgeShape_75, ↓rx_5_judgeShape_76, ↓rx_5_judgeShape_77, ↓rx_5_judgeShape_79, ↓rx_5_judgeShape_80, ↓rx_5_judgeShape_81, ↓rx_5_judgeShape_84, ↓rx_5_judgeShape_87, ↓rx_5_judgeShape_90, ↓rx_5_judgeShape_92, ↓rx_5_judgeShape_93, ↓rx_5_judgeShape_95, ↓rx_5_judgeShape_97, ↓rx_5_judgeShape_98, ↓rx_5_judgeShape_101, ↓rx_5_judgeShape_104, ↓rx_5_judgeShape_107, ↓rx_5_judgeShape_109, ↓rx_5_judgeShape_112, ↓rx_5_judgeShape_115, ↓rx_5_judgeShape_116, ↓rx_5_judgeShape_118, ↓rx_5_judgeShape_120, ↓rx_5_judgeShape_122, ↓rx_5_judgeShape_125, ↓rx_5_judgeShape_128, ↓rx_5_judgeShape_129, ↓rx_5_judgeShape_132, ↓rx_5_judgeShape_134, ↓rx_5_judgeShape_135, ↓rx_5_judgeShape_136, ↓rx_5_judgeShape_137, ↓rx_5_judgeShape_138, ↓rx_5_judgeShape_139, ↓rx_5_judgeShape_140, ↓rx_5_judgeShape_141, ↓rx_5_judgeShape_144, ↓rx_5_judgeShape_145, ↓rx_5_judgeShape_148, ↓rx_5_judgeShape_150, ↓rx_5_judgeShape_151, ↓rx_5_judgeShape_152, ↓rx_5_judgeShape_153, ↓rx_5_judgeShape_154, ↓rx_5_judgeShape_155, ↓rx_5_judgeShape_157, ↓rx_5_judgeShape_159, ↓rx_5_judgeShape_160, ↓rx_5_judgeShape_162, ↓rx_5_judgeShape_164, ↓rx_5_judgeShape_166, ↓rx_5_judgeShape_167, ↓rx_5_judgeShape_169, ↓rx_5_judgeShape_172, ↓cx_5_judgeShape_113, ↓cx_5_judgeShape_117, ↓cx_5_judgeShape_120, ↓cx_5_judgeShape_126, ↓cx_5_judgeShape_131, sp_3_nth, sp_6_allows, sp_6_highest, sp_6_lowest, sp_M_maxI, ↓sx_s1, ↓sx_s2, ↓sx_s3, ↓sx_s4, ↓sx_s5, ↓sx_s6, ↓sx_m0, ↓sx_m1, ↓sx_m2, ↓sx_m3, ↓sx_m4, ↓sx_m5, ↓sx_m6, ↓sx_k0_, ↓sx_k1_, ↓sx_k2_, ↓sx_k3_, ↓sx_k4_, ↓sx_k5_, ↓sx_k6_, ↓sx_sLL, ↓sx_sAI, ↓sx_mLL, ↓sx_mIIL, ↓sx_mIILL, ↓sx_mIILLL, ↓sx_qS, ↓sx_qSI, ↓sx_qSIII, sx_rit, sx_rif, sx_rlt, sx_rlf, sx_b0, sx_b1, sx_o0, sx_o1i, sx_o1a, sx_o1l, sx_o2, sx_g0, sx_g1, sx_k1, sx_k2, sx_k3, sx_f1, sx_f2, sx_f3, sx_w0, sx_w1, sx_w2, sx_w3, sx_ts, sx_tn, sx_up, sx_nS1, sx_nS2, sx_nW1, sx_nW2, sx_SW, sx_WS, sy_nS_inj, sy_nW_inj, sx_ob0, sx_ob1, sx_ob2, sx_ob3, sx_ob4, sx_ob5, sx_ob6, sx_ob7, sx_ob8, sx_ob9, sx_ob10, sx_ob11, sx_ob12, sx_ob13, sx_ob14, sx_ob15, sx_ob16, sx_ob17, sx_ob18, sx_ob19, sx_ob20, sx_ob21, sx_ob22, sx_ob23, sx_ob24, sx_ob25, sx_ob26, sx_ob27, sx_ob28, sx_ob29, sx_ob30, sx_ob31, sx_ob32, sx_ob33, sx_ob34, sx_ob35, sx_ob36, sx_fv0_0, sx_fv0_1, sx_fv0_2, sx_fv0_3, sx_fv0_4, sx_fv0_5, sx_fv1_0, sx_fv1_1, sx_fv1_2, sx_fv3_0, sx_fv3_1, sx_fv3_2, sx_fv3_3, sx_fv3_4, sx_fv7_0, sx_fv7_1, sx_fv7_2, sx_fv7_3, sx_fv7_4, sx_fv7_5, sx_fv7_6, sx_fv7_7, sx_fv7_8, sx_fv7_9, sx_fv7_10, sx_fv9_0, sx_fv9_1, sx_fv9_2, sx_fv9_3, sx_fv11_0, sx_fv11_1, sx_fv11_2, sx_fv11_3, sx_fv11_4, sx_fv11_5, sx_fv11_6, sx_fv15_0, sx_fv15_1, sx_fv15_2, sx_fv15_3, sx_fv15_4, sx_fv15_5, sx_fv19_0, sx_fv19_1, sx_fv19_2, sx_fv19_3, sx_fv19_4, sx_fv19_5, sx_fv19_6, sx_fv24_0, sx_fv24_1, sx_fv24_2, sx_fv24_3, sx_fv24_4, sx_fv24_5, sx_fv24_6, sx_fv24_7, sx_fv24_8, sx_fv24_9, sx_fv24_10, sx_fv24_11, sx_fv24_12, sx_fv24_13, sx_fv24_14, sx_fv24_15, sx_fv24_16, sx_fv24_17, sx_fv24_18, sx_fvS_0, sx_fvS_1, sx_fvS_2, sx_fvS_3, sx_fvS_4, sx_fvS_5, sx_fvS_6, sx_fvS_7, sx_fvS_8, sx_fvS_9, sx_ar2, sx_ar4, sx_ar5, sx_ar6, sx_ar8, sx_ar10, sx_ar12, sx_ar13, sx_ar14, sx_ar16, sx_ar17, sx_ar18, sx_ar20, sx_ar21, sx_ar22, sx_ar23, sx_ar25, sx_ar26, sx_ar27, sx_ar28, sx_ar29, sx_ar30, sx_ar31, sx_ar32, sx_ar33, sx_ar34, sx_ar35, sx_ar36, sy_ob_S, sy_ob_W, sy_ar_W, sx_if0, sx_if1, sx_ie0, sx_em, Classical.not_not, sx_cle, sx_clt, sx_cge, sx_cgt, sx_ceq, Nat.reduceLT, Nat.reduceLeDiff, Nat.reduceAdd, Nat.reduceSub, Nat.reduceEqDiff, reduceIte, List.length_cons, List.length_nil, true_and, and_true, and_self, Bool.false_eq_true, true_implies, not_true_eq_false, not_false_eq_true, false_implies, implies_true, ne_eq, reduceCtorEq, Option.some.injEq, false_and, and_false, Int.reduceNeg, Int.reduceToNat, Int.reduceLT, Int.reduceLE, Int.reduceEq, Int.reduceAdd, Int.reduceSub, Int.reduceMul, or_false, false_or, or_true, true_or, forall_const, Int.toNat_natCast, Int.toNat_zero, Int.toNat_one, Nat.zero_add, or_self, Int.neg_eq_zero]
  have k0 := key N0 0 (by omega)
  have g0 : G 0 = st 8 := by
    funext f
    show (if f % n = sh ∧ f / n < 0 then _ else _) = _
    rw [if_neg (fun z => absurd z.2 (Nat.not_lt_zero _))]
  have e1 : (if st 3 3 ≤ 1 then 1 else st 3 3) = (n : Int) := by rw [en]; split <;> omega
  have e2 : 2 * (c_F st 0 + c_B st 0 * 1 - (c_F st 0 + c_B st 0 * 0)) = 2 * c_B st 0 := by omega
  have e3 : ((n * 0 + sh : Nat) : Int) = (sh : Int) := by simp
  rw [g0, c_row_self, e3] at k0
  rw [e1, e2]
  exact ⟨hi, ⟨hr, hr.1, hw1⟩, hi, ⟨hr, hr.1, hw1⟩, hn, by omega, hn, hn, by omega, k0⟩
