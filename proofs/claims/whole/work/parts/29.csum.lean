/-! THE CLASS: the search sums up -/
def c_s5 (st : sy_S) (a b c d e : Int) : sy_S := fun n k => if n = 7 then (if k = 4 then a else if k = 5 then b else if k = 6 then c else if k = 7 then d else if k = 8 then e else st 7 k) else st n k
theorem c_s5_ne (st : sy_S) (a b c d e : Int) {n : Nat} (h : n ≠ 7) : c_s5 st a b c d e n = st n := by
  funext k
  simp [c_s5, h]
theorem c_s5_3 (st : sy_S) (a b c d e : Int) : c_s5 st a b c d e 3 = st 3 := c_s5_ne _ _ _ _ _ _ (by decide)
theorem c_s5_8 (st : sy_S) (a b c d e : Int) : c_s5 st a b c d e 8 = st 8 := c_s5_ne _ _ _ _ _ _ (by decide)
theorem c_s5_r4 (st : sy_S) (a b c d e : Int) : c_s5 st a b c d e 7 4 = a := rfl
theorem c_s5_r5 (st : sy_S) (a b c d e : Int) : c_s5 st a b c d e 7 5 = b := rfl
theorem c_s5_r6 (st : sy_S) (a b c d e : Int) : c_s5 st a b c d e 7 6 = c := rfl
theorem c_s5_r7 (st : sy_S) (a b c d e : Int) : c_s5 st a b c d e 7 7 = d := rfl
theorem c_s5_r8 (st : sy_S) (a b c d e : Int) : c_s5 st a b c d e 7 8 = e := rfl
theorem c_s5_s5 (st : sy_S) (a b c d e a' b' c' d' e' : Int) : c_s5 (c_s5 st a b c d e) a' b' c' d' e' = c_s5 st a' b' c' d' e' := by
  funext n k
  by_cases hn : n = 7
  · subst hn
    simp only [c_s5, if_true]
    by_cases k4 : k = 4
    · simp [k4]
    · by_cases k5 : k = 5
      · simp [k5]
      · by_cases k6 : k = 6
        · simp [k6]
        · by_cases k7 : k = 7
          · simp [k7]
          · by_cases k8 : k = 8
            · simp [k8]
            · simp [k4, k5, k6, k7, k8]
  · simp [c_s5, hn]
theorem c_s5_up (st : sy_S) (k : Nat) (z : Int) (hk : 4 ≤ k ∧ k ≤ 8) : sy_up st 7 k z = c_s5 st (if k = 4 then z else st 7 4) (if k = 5 then z else st 7 5) (if k = 6 then z else st 7 6) (if k = 7 then z else st 7 7) (if k = 8 then z else st 7 8) := by
  funext n j
  by_cases hn : n = 7
  · subst hn
    rcases (show k = 4 ∨ k = 5 ∨ k = 6 ∨ k = 7 ∨ k = 8 by omega) with rfl | rfl | rfl | rfl | rfl
    all_goals
      simp only [sy_up, c_s5, if_true, true_and]
      by_cases k4 : j = 4
      · simp [k4]
      · by_cases k5 : j = 5
        · simp [k5]
        · by_cases k6 : j = 6
          · simp [k6]
          · by_cases k7 : j = 7
            · simp [k7]
            · by_cases k8 : j = 8
              · simp [k8]
              · simp [k4, k5, k6, k7, k8]
  · simp [sy_up, c_s5, hn]
theorem c_s5_up4 (st : sy_S) (a b c d e z : Int) : sy_up (c_s5 st a b c d e) 7 4 z = c_s5 st z b c d e := by rw [c_s5_up _ 4 z (by decide), c_s5_s5]; rfl
theorem c_s5_up5 (st : sy_S) (a b c d e z : Int) : sy_up (c_s5 st a b c d e) 7 5 z = c_s5 st a z c d e := by rw [c_s5_up _ 5 z (by decide), c_s5_s5]; rfl
theorem c_s5_up6 (st : sy_S) (a b c d e z : Int) : sy_up (c_s5 st a b c d e) 7 6 z = c_s5 st a b z d e := by rw [c_s5_up _ 6 z (by decide), c_s5_s5]; rfl
theorem c_s5_up7 (st : sy_S) (a b c d e z : Int) : sy_up (c_s5 st a b c d e) 7 7 z = c_s5 st a b c z e := by rw [c_s5_up _ 7 z (by decide), c_s5_s5]; rfl
theorem c_s5_up8 (st : sy_S) (a b c d e z : Int) : sy_up (c_s5 st a b c d e) 7 8 z = c_s5 st a b c d z := by rw [c_s5_up _ 8 z (by decide), c_s5_s5]; rfl
theorem c_s5_self (st : sy_S) : c_s5 st (st 7 4) (st 7 5) (st 7 6) (st 7 7) (st 7 8) = st := by
  have := c_s5_up st 4 (st 7 4) (by decide)
  rw [sy_up_self] at this
  exact this.symm
/-- w times h of a figure -/
def c_wh (st : sy_S) (f : Nat) : Int := c_fg st f 2 * c_fg st f 3
theorem c_wh_rng {st : sy_S} (h : c_net st) (f : Nat) : 1 ≤ c_wh st f ∧ c_wh st f ≤ 4000000 := by
  have hr := xg_f_rng h.1 f
  have a := Int.mul_le_mul (a := c_fg st f 2) (b := c_fg st f 3) (c := 2000) (d := 2000) hr.2.2.1.2 hr.2.2.2.2 (by have := hr.2.2.2.1; unfold c_fg; omega) (by omega)
  have b := Int.mul_le_mul (a := 1) (b := 1) (c := c_fg st f 2) (d := c_fg st f 3) hr.2.2.1.1 hr.2.2.2.1 (by omega) (by have := hr.2.2.1.1; unfold c_fg; omega)
  unfold c_wh
  omega
theorem c_wh_s5 (st : sy_S) (a b c d e : Int) : c_wh (c_s5 st a b c d e) = c_wh st := by
  funext f
  unfold c_wh
  rw [c_fg_of (c_s5_ne _ _ _ _ _ _ (by decide)) (c_s5_ne _ _ _ _ _ _ (by decide)) (c_s5_ne _ _ _ _ _ _ (by decide))]
theorem c_net_s5 {st : sy_S} (h : c_net st) (a b c d e : Int) : c_net (c_s5 st a b c d e) := (c_net_of (c_s5_ne _ _ _ _ _ _ (by decide)) (c_s5_ne _ _ _ _ _ _ (by decide)) (c_s5_ne _ _ _ _ _ _ (by decide)) (c_s5_ne _ _ _ _ _ _ (by decide))).2.2.2 h
def sp_5_addFitting (ns : Nat) : sy_Sp := sy_m1 7 fun f st post => (c_net st ∧ (0 ≤ f ∧ f < 4096) ∧ (0 ≤ st 7 4 ∧ st 7 4 ≤ 5000)) ∧ post none (c_s5 st (st 7 4 + 1) (if st 7 4 = 0 then c_wh st f.toNat else (if st 7 5 ≤ c_wh st f.toNat then st 7 5 else c_wh st f.toNat)) (if c_wh st f.toNat ≤ st 7 6 then st 7 6 else c_wh st f.toNat) (st 7 7) (st 7 8))
def ct_5_addFitting (ns q : Nat) : Option (Bool × Nat × sy_Sp) := match q with
  | 126 => some (true, 2, sp_M_maxI ns)
  | 144 => some (false, 3, sp_3_valueOf ns)
  | 147 => some (true, 2, sp_M_minI ns)
  | _ => none
abbrev M_5_addFitting (ns : Nat) : sy_M := Mk_5_addFitting (ct_5_addFitting ns)
theorem cx_5_addFitting_126 {ns : Nat} {v1 v2 : sy_V} {r : List sy_V} {s : sy_S} {f : List sy_V → sy_S → Prop} : sy_call true (ct_5_addFitting ns 126) (v2 :: v1 :: r) s f = (sy_wd r ≤ 8 ∧ (sy_fit v2 ∧ sy_fit v1) ∧ sp_M_maxI ns [sy_kn v1, sy_kn v2] s (fun q t => f (q.toList ++ r) t)) := sx_call2
theorem cx_5_addFitting_144 {ns : Nat} {v1 v2 v3 : sy_V} {r : List sy_V} {s : sy_S} {f : List sy_V → sy_S → Prop} : sy_call false (ct_5_addFitting ns 144) (v3 :: v2 :: v1 :: r) s f = (sy_wd r ≤ 8 ∧ (sy_fit v3 ∧ sy_fit v2 ∧ sy_fit v1) ∧ sp_3_valueOf ns [sy_kn v1, sy_kn v2, sy_kn v3] s (fun q t => f (q.toList ++ r) t)) := sx_call3
theorem cx_5_addFitting_147 {ns : Nat} {v1 v2 : sy_V} {r : List sy_V} {s : sy_S} {f : List sy_V → sy_S → Prop} : sy_call true (ct_5_addFitting ns 147) (v2 :: v1 :: r) s f = (sy_wd r ≤ 8 ∧ (sy_fit v2 ∧ sy_fit v1) ∧ sp_M_minI ns [sy_kn v1, sy_kn v2] s (fun q t => f (q.toList ++ r) t)) := sx_call2
theorem mv_5_addFitting (ns : Nat) : sy_MV c_5_addFitting y_5_addFitting.cls none (M_5_addFitting ns) := ⟨tv_5_addFitting, ff_5_ok, ki_5_ok, kl_5_ok⟩
abbrev rm_5_addFitting : Room := { frames := 2, cells := 0, slots := 0, locals := 46 }
theorem iw_3_valueOf : Cond.code y_3_valueOf c_3_valueOf 5 (some .int) ∈ sy_tb ∧ Cond.initialized y_3_valueOf.cls ∈ sy_tb ∧ (y_3_valueOf.cls ≠ "java/lang/invoke/MethodHandle" ∧ y_3_valueOf.cls ≠ "java/lang/invoke/VarHandle" ∧ (parseMethodDescriptor y_3_valueOf.desc).map (fun d => d.parameters.length) = some 2) := ⟨sy_inx 454 (by decide +kernel) (by decide +kernel), sy_inx 46 (by decide +kernel) (by decide +kernel), by decide +kernel⟩
theorem ii_3_valueOf : Cond.instanceMethod y_3_valueOf ∈ sy_tb ∧ Cond.selects y_3_valueOf.cls y_3_valueOf y_3_valueOf ∈ sy_tb := ⟨sy_inx 452 (by decide +kernel) (by decide +kernel), sy_inx 453 (by decide +kernel) (by decide +kernel)⟩
theorem co_5_addFitting (l : Launch) : sy_calls l rm_5_addFitting y_5_addFitting.cls c_5_addFitting 3 (fun ns => (M_5_addFitting ns).2.2.2.2.1) := by
  intro p e s m args below meth c rt wd ad ns A Q X hA q b n sp h
  replace h : ct_5_addFitting ns q = some (b, n, sp) := h
  unfold ct_5_addFitting at h
  split at h
  · cases h; exact sy_coS X hA (mc_M_maxI l) ⟨iw_M_maxI.1, iw_M_maxI.2.1, iw_M_maxI.2.2, ⟨by decide, by decide⟩, rfl, rfl⟩ (sy_inx 515 (by decide +kernel) (by decide +kernel)) is_M_maxI
  · cases h; exact sy_coV (ci := 3) X hA (mc_3_valueOf l) ⟨iw_3_valueOf.1, iw_3_valueOf.2.1, iw_3_valueOf.2.2, ⟨by decide, by decide⟩, rfl, rfl⟩ (sy_inx 534 (by decide +kernel) (by decide +kernel)) ii_3_valueOf.1 ii_3_valueOf.2 (rc_3_valueOf ns) ⟨_, rfl, rfl⟩
  · cases h; exact sy_coS X hA (mc_M_minI l) ⟨iw_M_minI.1, iw_M_minI.2.1, iw_M_minI.2.2, ⟨by decide, by decide⟩, rfl, rfl⟩ (sy_inx 535 (by decide +kernel) (by decide +kernel)) is_M_minI
  · cases h
theorem rc_5_addFitting (ns : Nat) (as : List sy_V) (st : sy_S) (post : sy_R) (h : sp_5_addFitting ns as st post) : ∃ b as', as = .inr (.inr (some (some b))) :: as' ∧ sy_ob b = some 5 := sy_m1_r rfl as st post h
theorem mc_5_addFitting (l : Launch) : sy_MC l y_5_addFitting c_5_addFitting 3 none rm_5_addFitting sp_5_addFitting := by
  refine sy_meth M_5_addFitting (by decide +kernel) mv_5_addFitting (co_5_addFitting l) ?_
  intro ns as st post WA h hok hrg ⟨hgo0, hin, hwk⟩
  have hgo : ∀ (n pc : Nat) (L k : List sy_V) (st : sy_S), rn_5_addFitting ns (ct_5_addFitting ns) post WA n pc L k st → WA pc L k st := fun n pc L k st h => hgo0 [] n pc L k st h
  replace h := sy_m1_e h hok
  obtain ⟨f, rfl, hf, h⟩ := h
  refine ⟨Nat.le_of_ble_eq_true rfl, ?_⟩
  show WA 0 [.inr (.inr (some (some 7))), .inl (true, f), .inr (.inr none)] [] st
  obtain ⟨⟨hn, hf1, hc⟩, h⟩ := h
  obtain ⟨q, rfl⟩ : ∃ q : Nat, f = q := ⟨f.toNat, by omega⟩
  rw [Int.toNat_natCast] at h
  have hE := c_wh_rng hn q
  have e9 : c_fg st (q : Int) 2 * c_fg st (q : Int) 3 = c_wh st q := rfl
  have hs : c_s5 st (st 7 4) (st 7 5) (st 7 6) (st 7 7) (st 7 8) = st := c_s5_self st
  refine hgo 100 _ _ _ _ ?_
  simp -implicitDefEqProofs only [↓rx_5_addFitting_0, ↓rx_5_addFitting_1, ↓rx_5_addFitting_4, ↓rx_5_addFitting_5, ↓rx_5_addFitting_6, ↓rx_5_addFitting_9, ↓rx_5_addFitting_10, ↓rx_5_addFitting_13, ↓rx_5_addFitting_14, ↓rx_5_addFitting_15, ↓rx_5_addFitting_18, ↓rx_5_addFitting_19, ↓rx_5_addFitting_20, ↓rx_5_addFitting_21, ↓rx_5_addFitting_22, ↓rx_5_addFitting_25, ↓rx_5_addFitting_28, ↓rx_5_addFitting_29, ↓rx_5_addFitting_32, ↓rx_5_addFitting_33, ↓rx_5_addFitting_36, ↓rx_5_addFitting_37, ↓rx_5_addFitting_40, ↓rx_5_addFitting_43, ↓rx_5_addFitting_44, ↓rx_5_addFitting_45, ↓rx_5_addFitting_48, ↓rx_5_addFitting_49, ↓rx_5_addFitting_52, ↓rx_5_addFitting_55, ↓rx_5_addFitting_56, ↓rx_5_addFitting_56_i, ↓rx_5_addFitting_57, ↓rx_5_addFitting_60, ↓rx_5_addFitting_61, ↓rx_5_addFitting_62, ↓rx_5_addFitting_65, ↓cx_5_addFitting_126, ↓cx_5_addFitting_144, ↓cx_5_addFitting_147, sp_3_valueOf, sp_M_maxI, sp_M_minI, e9, ↓sx_s1, ↓sx_s2, ↓sx_s3, ↓sx_s4, ↓sx_s5, ↓sx_s6, ↓sx_m0, ↓sx_m1, ↓sx_m2, ↓sx_m3, ↓sx_m4, ↓sx_m5, ↓sx_m6, ↓sx_k0_, ↓sx_k1_, ↓sx_k2_, ↓sx_k3_, ↓sx_k4_, ↓sx_k5_, ↓sx_k6_, ↓sx_sLL, ↓sx_sAI, ↓sx_mLL, ↓sx_mIIL, ↓sx_mIILL, ↓sx_mIILLL, ↓sx_qS, ↓sx_qSI, ↓sx_qSIII, sx_rit, sx_rif, sx_rlt, sx_rlf, sx_b0, sx_b1, sx_o0, sx_o1i, sx_o1a, sx_o1l, sx_o2, sx_g0, sx_g1, sx_k1, sx_k2, sx_k3, sx_f1, sx_f2, sx_f3, sx_w0, sx_w1, sx_w2, sx_w3, sx_ts, sx_tn, sx_up, sx_nS1, sx_nS2, sx_nW1, sx_nW2, sx_SW, sx_WS, sy_nS_inj, sy_nW_inj, sx_ob0, sx_ob1, sx_ob2, sx_ob3, sx_ob4, sx_ob5, sx_ob6, sx_ob7, sx_ob8, sx_ob9, sx_ob10, sx_ob11, sx_ob12, sx_ob13, sx_ob14, sx_ob15, sx_ob16, sx_ob17, sx_ob18, sx_ob19, sx_ob20, sx_ob21, sx_ob22, sx_ob23, sx_ob24, sx_ob25, sx_ob26, sx_ob27, sx_ob28, sx_ob29, sx_ob30, sx_ob31, sx_ob32, sx_ob33, sx_ob34, sx_ob35, sx_ob36, sx_fv0_0, sx_fv0_1, sx_fv0_2, sx_fv0_3, sx_fv0_4, sx_fv0_5, sx_fv1_0, sx_fv1_1, sx_fv1_2, sx_fv3_0, sx_fv3_1, sx_fv3_2, sx_fv3_3, sx_fv3_4, sx_fv7_0, sx_fv7_1, sx_fv7_2, sx_fv7_3, sx_fv7_4, sx_fv7_5, sx_fv7_6, sx_fv7_7, sx_fv7_8, sx_fv7_9, sx_fv7_10, sx_fv9_0, sx_fv9_1, sx_fv9_2, sx_fv9_3, sx_fv11_0, sx_fv11_1, sx_fv11_2, sx_fv11_3, sx_fv11_4, sx_fv11_5, sx_fv11_6, sx_fv15_0, sx_fv15_1, sx_fv15_2, sx_fv15_3, sx_fv15_4, sx_fv15_5, sx_fv19_0, sx_fv19_1, sx_fv19_2, sx_fv19_3, sx_fv19_4, sx_fv19_5, sx_fv19_6, sx_fv24_0, sx_fv24_1, sx_fv24_2, sx_fv24_3, sx_fv24_4, sx_fv24_5, sx_fv24_6, sx_fv24_7, sx_fv24_8, sx_fv24_9, sx_fv24_10, sx_fv24_11, sx_fv24_12, sx_fv24_13, sx_fv24_14, sx_fv24_15, sx_fv24_16, sx_fv24_17, sx_fv24_18, sx_fvS_0, sx_fvS_1, sx_fvS_2, sx_fvS_3, sx_fvS_4, sx_fvS_5, sx_fvS_6, sx_fvS_7, sx_fvS_8, sx_fvS_9, sx_ar2, sx_ar4, sx_ar5, sx_ar6, sx_ar8, sx_ar10, sx_ar12, sx_ar13, sx_ar14, sx_ar16, sx_ar17, sx_ar18, sx_ar20, sx_ar21, sx_ar22, sx_ar23, sx_ar25, sx_ar26, sx_ar27, sx_ar28, sx_ar29, sx_ar30, sx_ar31, sx_ar32, sx_ar33, sx_ar34, sx_ar35, sx_ar36, sy_ob_S, sy_ob_W, sy_ar_W, sx_if0, sx_if1, sx_ie0, sx_em, Classical.not_not, sx_cle, sx_clt, sx_cge, sx_cgt, sx_ceq, Nat.reduceLT, Nat.reduceLeDiff, Nat.reduceAdd, Nat.reduceSub, Nat.reduceEqDiff, reduceIte, List.length_cons, List.length_nil, true_and, and_true, and_self, Bool.false_eq_true, true_implies, not_true_eq_false, not_false_eq_true, false_implies, implies_true, ne_eq, reduceCtorEq, Option.some.injEq, false_and, and_false, Int.reduceNeg, Int.reduceToNat, Int.reduceLT, Int.reduceLE, Int.reduceEq, Int.reduceAdd, Int.reduceSub, Int.reduceMul, or_false, false_or, or_true, true_or, forall_const, Int.toNat_natCast, Int.toNat_zero, Int.toNat_one, Nat.zero_add, or_self, Int.neg_eq_zero]
  have h3 : ∀ b c, sy_up (sy_up (sy_up st 7 5 b) 7 6 c) 7 4 (st 7 4 + 1) = c_s5 st (st 7 4 + 1) b c (st 7 7) (st 7 8) := fun b c => by
    have : sy_up (sy_up (sy_up (c_s5 st (st 7 4) (st 7 5) (st 7 6) (st 7 7) (st 7 8)) 7 5 b) 7 6 c) 7 4 (st 7 4 + 1) = c_s5 st (st 7 4 + 1) b c (st 7 7) (st 7 8) := by rw [c_s5_up5, c_s5_up6, c_s5_up4]
    rwa [hs] at this
  rw [h3, h3]
  refine ⟨⟨hn, by omega, by omega⟩, ⟨hn, by omega, by omega⟩, ⟨by omega, by omega⟩, fun c => ⟨⟨by omega, by omega⟩, ?_⟩, fun c => ⟨⟨by omega, by omega⟩, ?_⟩⟩
  · rwa [if_neg c] at h
  · rwa [if_pos c] at h
theorem x_pc_zero {n : Nat} (h : n < 65536) : x_pc n = 0 ↔ n = 0 := by
  have e := x_pc_ct 16 n (by decide) h
  constructor
  · intro hz
    have hx : xc (fun i => n.testBit i) 16 = 0 := by omega
    have hall : ∀ k, xc (fun i => n.testBit i) k = 0 → ∀ i, i < k → n.testBit i = false := by
      intro k
      induction k with
      | zero => intro _ i hi; omega
      | succ k ih =>
        intro hk i hi
        have r := xc_rng (fun i => n.testBit i) k
        simp only [xc] at hk
        by_cases hb : n.testBit k = true
        · rw [if_pos hb] at hk; omega
        · rw [if_neg hb] at hk
          rcases (show i < k ∨ i = k by omega) with q | q
          · exact ih (by omega) i q
          · subst q; simpa using hb
    apply Nat.eq_of_testBit_eq
    intro i
    rw [Nat.zero_testBit]
    by_cases hi : i < 16
    · exact hall 16 hx i hi
    · exact Nat.testBit_lt_two_pow (Nat.lt_of_lt_of_le h (Nat.pow_le_pow_right (n := 2) (by decide) (show 16 ≤ i by omega)))
  · rintro rfl
    rfl
theorem x_pc_le {n : Nat} (h : n < 65536) : (x_pc n : Int) ≤ 16 := by
  have e := x_pc_ct 16 n (by decide) h
  have r := xc_rng (fun i => n.testBit i) 16
  omega
theorem xs_no {g : Bool} {p : Nat → Bool} {v : Nat → Int} (hv : ∀ f, 1 ≤ v f ∧ v f ≤ 4000000) : ∀ n, (xs g p v n = -1 ↔ xc p n = 0)
  | 0 => by simp [xs, xc]
  | n + 1 => by
    have ih := xs_no (g := g) (p := p) hv n
    have h1 := hv n
    have h2 := xc_rng p n
    simp only [xs, xc]
    by_cases hp : p n = true
    · rw [if_pos hp]
      by_cases hc : xs g p v n = -1
      · rw [if_pos ⟨hp, Or.inl hc⟩]; omega
      · split <;> omega
    · rw [if_neg hp, if_neg (fun z => hp z.1)]; omega
/-- the sums over the first q figures -/
def c_sm (st : sy_S) (q : Nat) : sy_S := c_s5 st (xc (fun f => decide (st 8 f = 0)) q) (xs false (fun f => decide (st 8 f = 0)) (c_wh st) q) (xs true (fun f => decide (st 8 f = 0)) (c_wh st) q) (if q = 0 then 17 else (x_pc (st 8 (xb (fun f => (x_pc (st 8 f).toNat : Int)) (q - 1))).toNat : Int)) (if q = 0 then -1 else (xb (fun f => (x_pc (st 8 f).toNat : Int)) (q - 1) : Int))
def sp_5_sumUp (ns : Nat) : sy_Sp := sy_m0 7 fun st post => (c_net st ∧ ∀ f : Nat, (f : Int) < st 3 4 → 0 ≤ st 8 f ∧ st 8 f < 65536) ∧ post none (c_sm st (st 3 4).toNat)
def ct_5_sumUp (ns q : Nat) : Option (Bool × Nat × sy_Sp) := match q with
  | 135 => some (true, 1, sp_N_bitCount ns)
  | 141 => some (false, 2, sp_5_addFitting ns)
  | _ => none
abbrev M_5_sumUp (ns : Nat) : sy_M := Mk_5_sumUp (ct_5_sumUp ns)
theorem cx_5_sumUp_135 {ns : Nat} {v1 : sy_V} {r : List sy_V} {s : sy_S} {f : List sy_V → sy_S → Prop} : sy_call true (ct_5_sumUp ns 135) (v1 :: r) s f = (sy_wd r ≤ 8 ∧ (sy_fit v1) ∧ sp_N_bitCount ns [sy_kn v1] s (fun q t => f (q.toList ++ r) t)) := sx_call1
theorem cx_5_sumUp_141 {ns : Nat} {v1 v2 : sy_V} {r : List sy_V} {s : sy_S} {f : List sy_V → sy_S → Prop} : sy_call false (ct_5_sumUp ns 141) (v2 :: v1 :: r) s f = (sy_wd r ≤ 8 ∧ (sy_fit v2 ∧ sy_fit v1) ∧ sp_5_addFitting ns [sy_kn v1, sy_kn v2] s (fun q t => f (q.toList ++ r) t)) := sx_call2
theorem mv_5_sumUp (ns : Nat) : sy_MV c_5_sumUp y_5_sumUp.cls none (M_5_sumUp ns) := ⟨tv_5_sumUp, ff_5_ok, ki_5_ok, kl_5_ok⟩
abbrev rm_5_sumUp : Room := { frames := 3, cells := 0, slots := 0, locals := 68 }
theorem iw_N_bitCount : Cond.code y_N_bitCount c_N_bitCount 1 (some .int) ∈ sy_tb ∧ Cond.initialized y_N_bitCount.cls ∈ sy_tb ∧ (y_N_bitCount.cls ≠ "java/lang/invoke/MethodHandle" ∧ y_N_bitCount.cls ≠ "java/lang/invoke/VarHandle" ∧ (parseMethodDescriptor y_N_bitCount.desc).map (fun d => d.parameters.length) = some 1) := ⟨sy_inx 526 (by decide +kernel) (by decide +kernel), sy_inx 56 (by decide +kernel) (by decide +kernel), by decide +kernel⟩
theorem is_N_bitCount : Cond.static y_N_bitCount ∈ sy_tb := sy_inx 525 (by decide +kernel) (by decide +kernel)
theorem iw_5_addFitting : Cond.code y_5_addFitting c_5_addFitting 3 none ∈ sy_tb ∧ Cond.initialized y_5_addFitting.cls ∈ sy_tb ∧ (y_5_addFitting.cls ≠ "java/lang/invoke/MethodHandle" ∧ y_5_addFitting.cls ≠ "java/lang/invoke/VarHandle" ∧ (parseMethodDescriptor y_5_addFitting.desc).map (fun d => d.parameters.length) = some 1) := ⟨sy_inx 533 (by decide +kernel) (by decide +kernel), sy_inx 48 (by decide +kernel) (by decide +kernel), by decide +kernel⟩
theorem ii_5_addFitting : Cond.instanceMethod y_5_addFitting ∈ sy_tb ∧ Cond.selects y_5_addFitting.cls y_5_addFitting y_5_addFitting ∈ sy_tb := ⟨sy_inx 532 (by decide +kernel) (by decide +kernel), sy_inx 7 (by decide +kernel) (by decide +kernel)⟩
theorem co_5_sumUp (l : Launch) : sy_calls l rm_5_sumUp y_5_sumUp.cls c_5_sumUp 3 (fun ns => (M_5_sumUp ns).2.2.2.2.1) := by
  intro p e s m args below meth c rt wd ad ns A Q X hA q b n sp h
  replace h : ct_5_sumUp ns q = some (b, n, sp) := h
  unfold ct_5_sumUp at h
  split at h
  · cases h; exact sy_coS X hA (mc_N_bitCount l) ⟨iw_N_bitCount.1, iw_N_bitCount.2.1, iw_N_bitCount.2.2, ⟨by decide, by decide⟩, rfl, rfl⟩ (sy_inx 524 (by decide +kernel) (by decide +kernel)) is_N_bitCount
  · cases h; exact sy_coV (ci := 5) X hA (mc_5_addFitting l) ⟨iw_5_addFitting.1, iw_5_addFitting.2.1, iw_5_addFitting.2.2, ⟨by decide, by decide⟩, rfl, rfl⟩ (sy_inx 530 (by decide +kernel) (by decide +kernel)) ii_5_addFitting.1 ii_5_addFitting.2 (rc_5_addFitting ns) ⟨_, rfl, rfl⟩
  · cases h
theorem rc_5_sumUp (ns : Nat) (as : List sy_V) (st : sy_S) (post : sy_R) (h : sp_5_sumUp ns as st post) : ∃ b as', as = .inr (.inr (some (some b))) :: as' ∧ sy_ob b = some 5 := sy_m0_r rfl as st post h
theorem mc_5_sumUp (l : Launch) : sy_MC l y_5_sumUp c_5_sumUp 3 none rm_5_sumUp sp_5_sumUp := by
  refine sy_meth M_5_sumUp (by decide +kernel) mv_5_sumUp (co_5_sumUp l) ?_
  intro ns as st post WA h hok hrg ⟨hgo0, hin, hwk⟩
  have hgo : ∀ (n pc : Nat) (L k : List sy_V) (st : sy_S), rn_5_sumUp ns (ct_5_sumUp ns) post WA n pc L k st → WA pc L k st := fun n pc L k st h => hgo0 [28] n pc L k st h
  replace h := sy_m0_e h hok
  obtain ⟨rfl, h⟩ := h
  refine ⟨Nat.le_of_ble_eq_true rfl, ?_⟩
  show WA 0 [.inr (.inr (some (some 7))), .inr (.inr none), .inr (.inr none)] [] st
  obtain ⟨⟨hn, hb⟩, h⟩ := h
  have ht := c_tot_r hn
  have hs : c_s5 st (st 7 4) (st 7 5) (st 7 6) (st 7 7) (st 7 8) = st := c_s5_self st
  have key : ∀ (d q : Nat), q + d = (st 3 4).toNat → WA 28 [.inr (.inr (some (some 7))), .inl (true, (q : Int)), .inr (.inr none)] [] (c_sm st q) := by
    intro d
    induction d with
    | zero =>
      intro q hq
      refine hgo 100 _ _ _ _ ?_
      simp -implicitDefEqProofs only [↓rx_5_sumUp_0, ↓rx_5_sumUp_1, ↓rx_5_sumUp_2, ↓rx_5_sumUp_5, ↓rx_5_sumUp_6, ↓rx_5_sumUp_7, ↓rx_5_sumUp_10, ↓rx_5_sumUp_11, ↓rx_5_sumUp_12, ↓rx_5_sumUp_15, ↓rx_5_sumUp_16, ↓rx_5_sumUp_18, ↓rx_5_sumUp_21, ↓rx_5_sumUp_22, ↓rx_5_sumUp_23, ↓rx_5_sumUp_26, ↓rx_5_sumUp_27, ↓rx_5_sumUp_28, ↓rx_5_sumUp_29, ↓rx_5_sumUp_30, ↓rx_5_sumUp_33, ↓rx_5_sumUp_36, ↓rx_5_sumUp_39, ↓rx_5_sumUp_40, ↓rx_5_sumUp_43, ↓rx_5_sumUp_46, ↓rx_5_sumUp_47, ↓rx_5_sumUp_50, ↓rx_5_sumUp_51, ↓rx_5_sumUp_52, ↓rx_5_sumUp_55, ↓rx_5_sumUp_56, ↓rx_5_sumUp_57, ↓rx_5_sumUp_60, ↓rx_5_sumUp_61, ↓rx_5_sumUp_62, ↓rx_5_sumUp_65, ↓rx_5_sumUp_66, ↓rx_5_sumUp_67, ↓rx_5_sumUp_70, ↓rx_5_sumUp_73, ↓rx_5_sumUp_74, ↓rx_5_sumUp_75, ↓rx_5_sumUp_78, ↓rx_5_sumUp_79, ↓rx_5_sumUp_80, ↓rx_5_sumUp_83, ↓rx_5_sumUp_86, ↓rx_5_sumUp_89, ↓cx_5_sumUp_135, ↓cx_5_sumUp_141, sp_5_addFitting, sp_N_bitCount, ↓sx_s1, ↓sx_s2, ↓sx_s3, ↓sx_s4, ↓sx_s5, ↓sx_s6, ↓sx_m0, ↓sx_m1, ↓sx_m2, ↓sx_m3, ↓sx_m4, ↓sx_m5, ↓sx_m6, ↓sx_k0_, ↓sx_k1_, ↓sx_k2_, ↓sx_k3_, ↓sx_k4_, ↓sx_k5_, ↓sx_k6_, ↓sx_sLL, ↓sx_sAI, ↓sx_mLL, ↓sx_mIIL, ↓sx_mIILL, ↓sx_mIILLL, ↓sx_qS, ↓sx_qSI, ↓sx_qSIII, sx_rit, sx_rif, sx_rlt, sx_rlf, sx_b0, sx_b1, sx_o0, sx_o1i, sx_o1a, sx_o1l, sx_o2, sx_g0, sx_g1, sx_k1, sx_k2, sx_k3, sx_f1, sx_f2, sx_f3, sx_w0, sx_w1, sx_w2, sx_w3, sx_ts, sx_tn, sx_up, sx_nS1, sx_nS2, sx_nW1, sx_nW2, sx_SW, sx_WS, sy_nS_inj, sy_nW_inj, sx_ob0, sx_ob1, sx_ob2, sx_ob3, sx_ob4, sx_ob5, sx_ob6, sx_ob7, sx_ob8, sx_ob9, sx_ob10, sx_ob11, sx_ob12, sx_ob13, sx_ob14, sx_ob15, sx_ob16, sx_ob17, sx_ob18, sx_ob19, sx_ob20, sx_ob21, sx_ob22, sx_ob23, sx_ob24, sx_ob25, sx_ob26, sx_ob27, sx_ob28, sx_ob29, sx_ob30, sx_ob31, sx_ob32, sx_ob33, sx_ob34, sx_ob35, sx_ob36, sx_fv0_0, sx_fv0_1, sx_fv0_2, sx_fv0_3, sx_fv0_4, sx_fv0_5, sx_fv1_0, sx_fv1_1, sx_fv1_2, sx_fv3_0, sx_fv3_1, sx_fv3_2, sx_fv3_3, sx_fv3_4, sx_fv7_0, sx_fv7_1, sx_fv7_2, sx_fv7_3, sx_fv7_4, sx_fv7_5, sx_fv7_6, sx_fv7_7, sx_fv7_8, sx_fv7_9, sx_fv7_10, sx_fv9_0, sx_fv9_1, sx_fv9_2, sx_fv9_3, sx_fv11_0, sx_fv11_1, sx_fv11_2, sx_fv11_3, sx_fv11_4, sx_fv11_5, sx_fv11_6, sx_fv15_0, sx_fv15_1, sx_fv15_2, sx_fv15_3, sx_fv15_4, sx_fv15_5, sx_fv19_0, sx_fv19_1, sx_fv19_2, sx_fv19_3, sx_fv19_4, sx_fv19_5, sx_fv19_6, sx_fv24_0, sx_fv24_1, sx_fv24_2, sx_fv24_3, sx_fv24_4, sx_fv24_5, sx_fv24_6, sx_fv24_7, sx_fv24_8, sx_fv24_9, sx_fv24_10, sx_fv24_11, sx_fv24_12, sx_fv24_13, sx_fv24_14, sx_fv24_15, sx_fv24_16, sx_fv24_17, sx_fv24_18, sx_fvS_0, sx_fvS_1, sx_fvS_2, sx_fvS_3, sx_fvS_4, sx_fvS_5, sx_fvS_6, sx_fvS_7, sx_fvS_8, sx_fvS_9, sx_ar2, sx_ar4, sx_ar5, sx_ar6, sx_ar8, sx_ar10, sx_ar12, sx_ar13, sx_ar14, sx_ar16, sx_ar17, sx_ar18, sx_ar20, sx_ar21, sx_ar22, sx_ar23, sx_ar25, sx_ar26, sx_ar27, sx_ar28, sx_ar29, sx_ar30, sx_ar31, sx_ar32, sx_ar33, sx_ar34, sx_ar35, sx_ar36, sy_ob_S, sy_ob_W, sy_ar_W, sx_if0, sx_if1, sx_ie0, sx_em, Classical.not_not, sx_cle, sx_clt, sx_cge, sx_cgt, sx_ceq, Nat.reduceLT, Nat.reduceLeDiff, Nat.reduceAdd, Nat.reduceSub, Nat.reduceEqDiff, reduceIte, List.length_cons, List.length_nil, true_and, and_true, and_self, Bool.false_eq_true, true_implies, not_true_eq_false, not_false_eq_true, false_implies, implies_true, ne_eq, reduceCtorEq, Option.some.injEq, false_and, and_false, Int.reduceNeg, Int.reduceToNat, Int.reduceLT, Int.reduceLE, Int.reduceEq, Int.reduceAdd, Int.reduceSub, Int.reduceMul, or_false, false_or, or_true, true_or, forall_const, Int.toNat_natCast, Int.toNat_zero, Int.toNat_one, Nat.zero_add, or_self, Int.neg_eq_zero]
      have e3 : c_sm st q 3 = st 3 := c_s5_3 _ _ _ _ _ _
      rw [e3]
      have e : q = (st 3 4).toNat := by omega
      subst e
      exact ⟨fun _ => h, fun c => by omega⟩
    | succ d ih =>
      intro q hq
      refine hgo 100 _ _ _ _ ?_
      simp -implicitDefEqProofs only [↓rx_5_sumUp_0, ↓rx_5_sumUp_1, ↓rx_5_sumUp_2, ↓rx_5_sumUp_5, ↓rx_5_sumUp_6, ↓rx_5_sumUp_7, ↓rx_5_sumUp_10, ↓rx_5_sumUp_11, ↓rx_5_sumUp_12, ↓rx_5_sumUp_15, ↓rx_5_sumUp_16, ↓rx_5_sumUp_18, ↓rx_5_sumUp_21, ↓rx_5_sumUp_22, ↓rx_5_sumUp_23, ↓rx_5_sumUp_26, ↓rx_5_sumUp_27, ↓rx_5_sumUp_28, ↓rx_5_sumUp_29, ↓rx_5_sumUp_30, ↓rx_5_sumUp_33, ↓rx_5_sumUp_36, ↓rx_5_sumUp_39, ↓rx_5_sumUp_40, ↓rx_5_sumUp_43, ↓rx_5_sumUp_46, ↓rx_5_sumUp_47, ↓rx_5_sumUp_50, ↓rx_5_sumUp_51, ↓rx_5_sumUp_52, ↓rx_5_sumUp_55, ↓rx_5_sumUp_56, ↓rx_5_sumUp_57, ↓rx_5_sumUp_60, ↓rx_5_sumUp_61, ↓rx_5_sumUp_62, ↓rx_5_sumUp_65, ↓rx_5_sumUp_66, ↓rx_5_sumUp_67, ↓rx_5_sumUp_70, ↓rx_5_sumUp_73, ↓rx_5_sumUp_74, ↓rx_5_sumUp_75, ↓rx_5_sumUp_78, ↓rx_5_sumUp_79, ↓rx_5_sumUp_80, ↓rx_5_sumUp_83, ↓rx_5_sumUp_86, ↓rx_5_sumUp_89, ↓cx_5_sumUp_135, ↓cx_5_sumUp_141, sp_5_addFitting, sp_N_bitCount, c_sm, c_s5_3, c_s5_8, c_s5_r4, c_s5_r5, c_s5_r6, c_s5_r7, c_s5_r8, c_s5_up7, c_s5_up8, c_s5_s5, c_wh_s5, ↓sx_s1, ↓sx_s2, ↓sx_s3, ↓sx_s4, ↓sx_s5, ↓sx_s6, ↓sx_m0, ↓sx_m1, ↓sx_m2, ↓sx_m3, ↓sx_m4, ↓sx_m5, ↓sx_m6, ↓sx_k0_, ↓sx_k1_, ↓sx_k2_, ↓sx_k3_, ↓sx_k4_, ↓sx_k5_, ↓sx_k6_, ↓sx_sLL, ↓sx_sAI, ↓sx_mLL, ↓sx_mIIL, ↓sx_mIILL, ↓sx_mIILLL, ↓sx_qS, ↓sx_qSI, ↓sx_qSIII, sx_rit, sx_rif, sx_rlt, sx_rlf, sx_b0, sx_b1, sx_o0, sx_o1i, sx_o1a, sx_o1l, sx_o2, sx_g0, sx_g1, sx_k1, sx_k2, sx_k3, sx_f1, sx_f2, sx_f3, sx_w0, sx_w1, sx_w2, sx_w3, sx_ts, sx_tn, sx_up, sx_nS1, sx_nS2, sx_nW1, sx_nW2, sx_SW, sx_WS, sy_nS_inj, sy_nW_inj, sx_ob0, sx_ob1, sx_ob2, sx_ob3, sx_ob4, sx_ob5, sx_ob6, sx_ob7, sx_ob8, sx_ob9, sx_ob10, sx_ob11, sx_ob12, sx_ob13, sx_ob14, sx_ob15, sx_ob16, sx_ob17, sx_ob18, sx_ob19, sx_ob20, sx_ob21, sx_ob22, sx_ob23, sx_ob24, sx_ob25, sx_ob26, sx_ob27, sx_ob28, sx_ob29, sx_ob30, sx_ob31, sx_ob32, sx_ob33, sx_ob34, sx_ob35, sx_ob36, sx_fv0_0, sx_fv0_1, sx_fv0_2, sx_fv0_3, sx_fv0_4, sx_fv0_5, sx_fv1_0, sx_fv1_1, sx_fv1_2, sx_fv3_0, sx_fv3_1, sx_fv3_2, sx_fv3_3, sx_fv3_4, sx_fv7_0, sx_fv7_1, sx_fv7_2, sx_fv7_3, sx_fv7_4, sx_fv7_5, sx_fv7_6, sx_fv7_7, sx_fv7_8, sx_fv7_9, sx_fv7_10, sx_fv9_0, sx_fv9_1, sx_fv9_2, sx_fv9_3, sx_fv11_0, sx_fv11_1, sx_fv11_2, sx_fv11_3, sx_fv11_4, sx_fv11_5, sx_fv11_6, sx_fv15_0, sx_fv15_1, sx_fv15_2, sx_fv15_3, sx_fv15_4, sx_fv15_5, sx_fv19_0, sx_fv19_1, sx_fv19_2, sx_fv19_3, sx_fv19_4, sx_fv19_5, sx_fv19_6, sx_fv24_0, sx_fv24_1, sx_fv24_2, sx_fv24_3, sx_fv24_4, sx_fv24_5, sx_fv24_6, sx_fv24_7, sx_fv24_8, sx_fv24_9, sx_fv24_10, sx_fv24_11, sx_fv24_12, sx_fv24_13, sx_fv24_14, sx_fv24_15, sx_fv24_16, sx_fv24_17, sx_fv24_18, sx_fvS_0, sx_fvS_1, sx_fvS_2, sx_fvS_3, sx_fvS_4, sx_fvS_5, sx_fvS_6, sx_fvS_7, sx_fvS_8, sx_fvS_9, sx_ar2, sx_ar4, sx_ar5, sx_ar6, sx_ar8, sx_ar10, sx_ar12, sx_ar13, sx_ar14, sx_ar16, sx_ar17, sx_ar18, sx_ar20, sx_ar21, sx_ar22, sx_ar23, sx_ar25, sx_ar26, sx_ar27, sx_ar28, sx_ar29, sx_ar30, sx_ar31, sx_ar32, sx_ar33, sx_ar34, sx_ar35, sx_ar36, sy_ob_S, sy_ob_W, sy_ar_W, sx_if0, sx_if1, sx_ie0, sx_em, Classical.not_not, sx_cle, sx_clt, sx_cge, sx_cgt, sx_ceq, Nat.reduceLT, Nat.reduceLeDiff, Nat.reduceAdd, Nat.reduceSub, Nat.reduceEqDiff, reduceIte, List.length_cons, List.length_nil, true_and, and_true, and_self, Bool.false_eq_true, true_implies, not_true_eq_false, not_false_eq_true, false_implies, implies_true, ne_eq, reduceCtorEq, Option.some.injEq, false_and, and_false, Int.reduceNeg, Int.reduceToNat, Int.reduceLT, Int.reduceLE, Int.reduceEq, Int.reduceAdd, Int.reduceSub, Int.reduceMul, or_false, false_or, or_true, true_or, forall_const, Int.toNat_natCast, Int.toNat_zero, Int.toNat_one, Nat.zero_add, or_self, Int.neg_eq_zero]
      have i1 := ih (q + 1) (by omega)
      have hx := hb q (by omega)
      have hpz := x_pc_zero (n := (st 8 q).toNat) (by omega)
      have hpl := x_pc_le (n := (st 8 q).toNat) (by omega)
      have hv := c_wh_rng hn
      have hcr := xc_rng (fun f => decide (st 8 f = 0)) q
      have hsn := xs_no (g := false) (p := fun f => decide (st 8 f = 0)) hv q
      have hln := xs_no (g := true) (p := fun f => decide (st 8 f = 0)) hv q
      have hsr := xs_rng true (fun f => decide (st 8 f = 0)) hv q
      have hvq := hv q
      have hnet2 := c_net_s5 hn
      have e : ((q : Int) + 1) = ((q + 1 : Nat) : Int) := by omega
      rw [e]
      unfold c_sm at i1
      simp only [xc, xs, decide_eq_true_eq, if_neg (Nat.succ_ne_zero q), Nat.add_sub_cancel] at i1
      -- the first of the least
      have hbx : ∀ FW FB : Int, FW = (if q = 0 then 17 else (x_pc (st 8 (xb (fun f => (x_pc (st 8 f).toNat : Int)) (q - 1))).toNat : Int)) → FB = (if q = 0 then -1 else (xb (fun f => (x_pc (st 8 f).toNat : Int)) (q - 1) : Int)) →
          (FW ≤ (x_pc (st 8 q).toNat : Int) → FW = (x_pc (st 8 (xb (fun f => (x_pc (st 8 f).toNat : Int)) q)).toNat : Int) ∧ FB = (xb (fun f => (x_pc (st 8 f).toNat : Int)) q : Int)) ∧ (¬ FW ≤ (x_pc (st 8 q).toNat : Int) → xb (fun f => (x_pc (st 8 f).toNat : Int)) q = q) := by
        intro FW FB h1 h2
        rcases q with _ | q
        · rw [if_pos rfl] at h1
          exact ⟨fun c => by omega, fun _ => rfl⟩
        · rw [if_neg (Nat.succ_ne_zero q), Nat.add_sub_cancel] at h1 h2
          have ex : xb (fun f => (x_pc (st 8 f).toNat : Int)) (q + 1) = if (x_pc (st 8 (q + 1)).toNat : Int) < (x_pc (st 8 (xb (fun f => (x_pc (st 8 f).toNat : Int)) q)).toNat : Int) then q + 1 else xb (fun f => (x_pc (st 8 f).toNat : Int)) q := rfl
          refine ⟨fun c => ?_, fun c => ?_⟩
          · rw [ex, if_neg (by omega)]
            exact ⟨h1, h2⟩
          · rw [ex, if_pos (by omega)]
      generalize (if q = 0 then 17 else (x_pc (st 8 (xb (fun f => (x_pc (st 8 f).toNat : Int)) (q - 1))).toNat : Int)) = FW at *
      generalize (if q = 0 then -1 else (xb (fun f => (x_pc (st 8 f).toNat : Int)) (q - 1) : Int)) = FB at *
      obtain ⟨hb1, hb2⟩ := hbx FW FB rfl rfl
      have j1 : ∀ v : sy_V, WA 28 [.inr (.inr (some (some 7))), .inl (true, ((q + 1 : Nat) : Int)), v] [] _ := fun v => hwk _ _ _ _ _ (by exact ⟨Or.inl rfl, Or.inl rfl, Or.inr rfl, trivial⟩) i1
      have hz9 : ((x_pc (st 8 q).toNat : Int) = 0) ↔ st 8 q = 0 := by omega
      refine ⟨fun c => by omega, fun _ => ⟨fun c => by omega, fun _ => ⟨by omega, hx, fun c => ⟨fun c2 => ⟨by omega, ?_⟩, fun c2 => ⟨by omega, ?_⟩⟩, fun c => ⟨⟨hnet2 _ _ _ _ _, by omega, by omega⟩, fun c2 => ⟨by omega, ?_⟩, fun c2 => ⟨by omega, ?_⟩⟩⟩⟩⟩
      · have j2 := j1 (.inl (true, (x_pc (st 8 q).toNat : Int)))
        have hne : ¬ st 8 q = 0 := fun z => c (hz9.mpr z)
        rw [if_neg hne, if_neg (fun z => hne z.1), if_neg (fun z => hne z.1), Int.add_zero] at j2
        rw [(hb1 c2).1, (hb1 c2).2]
        exact j2
      · have j2 := j1 (.inl (true, (x_pc (st 8 q).toNat : Int)))
        have hne : ¬ st 8 q = 0 := fun z => c (hz9.mpr z)
        rw [if_neg hne, if_neg (fun z => hne z.1), if_neg (fun z => hne z.1), Int.add_zero, hb2 c2] at j2
        exact j2
      all_goals
        have j2 := j1 (.inl (true, (x_pc (st 8 q).toNat : Int)))
        have hz : st 8 q = 0 := hz9.mp c
        rw [if_pos hz] at j2
        have s1 : (if xc (fun f => decide (st 8 f = 0)) q = 0 then c_wh st q else if xs false (fun f => decide (st 8 f = 0)) (c_wh st) q ≤ c_wh st q then xs false (fun f => decide (st 8 f = 0)) (c_wh st) q else c_wh st q) = (if st 8 q = 0 ∧ (xs false (fun f => decide (st 8 f = 0)) (c_wh st) q = -1 ∨ if false = true then xs false (fun f => decide (st 8 f = 0)) (c_wh st) q < c_wh st q else c_wh st q < xs false (fun f => decide (st 8 f = 0)) (c_wh st) q) then c_wh st q else xs false (fun f => decide (st 8 f = 0)) (c_wh st) q) := by
          by_cases z1 : xc (fun f => decide (st 8 f = 0)) q = 0
          · rw [if_pos z1, if_pos ⟨hz, Or.inl (hsn.mpr z1)⟩]
          · rw [if_neg z1]
            by_cases z2 : xs false (fun f => decide (st 8 f = 0)) (c_wh st) q ≤ c_wh st q
            · rw [if_pos z2, if_neg (fun z => z.2.elim (fun y => z1 (hsn.mp y)) (fun y => by rw [if_neg (by decide)] at y; omega))]
            · rw [if_neg z2, if_pos ⟨hz, Or.inr (by rw [if_neg (by decide)]; omega)⟩]
        have s2 : (if c_wh st q ≤ xs true (fun f => decide (st 8 f = 0)) (c_wh st) q then xs true (fun f => decide (st 8 f = 0)) (c_wh st) q else c_wh st q) = (if st 8 q = 0 ∧ (xs true (fun f => decide (st 8 f = 0)) (c_wh st) q = -1 ∨ if true = true then xs true (fun f => decide (st 8 f = 0)) (c_wh st) q < c_wh st q else c_wh st q < xs true (fun f => decide (st 8 f = 0)) (c_wh st) q) then c_wh st q else xs true (fun f => decide (st 8 f = 0)) (c_wh st) q) := by
          by_cases z2 : c_wh st q ≤ xs true (fun f => decide (st 8 f = 0)) (c_wh st) q
          · rw [if_pos z2, if_neg (fun z => z.2.elim (fun y => by omega) (fun y => by rw [if_pos rfl] at y; omega))]
          · rw [if_neg z2, if_pos ⟨hz, Or.inr (by rw [if_pos rfl]; omega)⟩]
        rw [s1, s2]
      · rw [(hb1 c2).1, (hb1 c2).2]
        exact j2
      · rw [hb2 c2] at j2
        exact j2
  refine hgo 100 _ _ _ _ ?_
  simp -implicitDefEqProofs only [↓rx_5_sumUp_0, ↓rx_5_sumUp_1, ↓rx_5_sumUp_2, ↓rx_5_sumUp_5, ↓rx_5_sumUp_6, ↓rx_5_sumUp_7, ↓rx_5_sumUp_10, ↓rx_5_sumUp_11, ↓rx_5_sumUp_12, ↓rx_5_sumUp_15, ↓rx_5_sumUp_16, ↓rx_5_sumUp_18, ↓rx_5_sumUp_21, ↓rx_5_sumUp_22, ↓rx_5_sumUp_23, ↓rx_5_sumUp_26, ↓rx_5_sumUp_27, ↓rx_5_sumUp_28, ↓rx_5_sumUp_29, ↓rx_5_sumUp_30, ↓rx_5_sumUp_33, ↓rx_5_sumUp_36, ↓rx_5_sumUp_39, ↓rx_5_sumUp_40, ↓rx_5_sumUp_43, ↓rx_5_sumUp_46, ↓rx_5_sumUp_47, ↓rx_5_sumUp_50, ↓rx_5_sumUp_51, ↓rx_5_sumUp_52, ↓rx_5_sumUp_55, ↓rx_5_sumUp_56, ↓rx_5_sumUp_57, ↓rx_5_sumUp_60, ↓rx_5_sumUp_61, ↓rx_5_sumUp_62, ↓rx_5_sumUp_65, ↓rx_5_sumUp_66, ↓rx_5_sumUp_67, ↓rx_5_sumUp_70, ↓rx_5_sumUp_73, ↓rx_5_sumUp_74, ↓rx_5_sumUp_75, ↓rx_5_sumUp_78, ↓rx_5_sumUp_79, ↓rx_5_sumUp_80, ↓rx_5_sumUp_83, ↓rx_5_sumUp_86, ↓rx_5_sumUp_89, ↓cx_5_sumUp_135, ↓cx_5_sumUp_141, sp_5_addFitting, sp_N_bitCount, ↓sx_s1, ↓sx_s2, ↓sx_s3, ↓sx_s4, ↓sx_s5, ↓sx_s6, ↓sx_m0, ↓sx_m1, ↓sx_m2, ↓sx_m3, ↓sx_m4, ↓sx_m5, ↓sx_m6, ↓sx_k0_, ↓sx_k1_, ↓sx_k2_, ↓sx_k3_, ↓sx_k4_, ↓sx_k5_, ↓sx_k6_, ↓sx_sLL, ↓sx_sAI, ↓sx_mLL, ↓sx_mIIL, ↓sx_mIILL, ↓sx_mIILLL, ↓sx_qS, ↓sx_qSI, ↓sx_qSIII, sx_rit, sx_rif, sx_rlt, sx_rlf, sx_b0, sx_b1, sx_o0, sx_o1i, sx_o1a, sx_o1l, sx_o2, sx_g0, sx_g1, sx_k1, sx_k2, sx_k3, sx_f1, sx_f2, sx_f3, sx_w0, sx_w1, sx_w2, sx_w3, sx_ts, sx_tn, sx_up, sx_nS1, sx_nS2, sx_nW1, sx_nW2, sx_SW, sx_WS, sy_nS_inj, sy_nW_inj, sx_ob0, sx_ob1, sx_ob2, sx_ob3, sx_ob4, sx_ob5, sx_ob6, sx_ob7, sx_ob8, sx_ob9, sx_ob10, sx_ob11, sx_ob12, sx_ob13, sx_ob14, sx_ob15, sx_ob16, sx_ob17, sx_ob18, sx_ob19, sx_ob20, sx_ob21, sx_ob22, sx_ob23, sx_ob24, sx_ob25, sx_ob26, sx_ob27, sx_ob28, sx_ob29, sx_ob30, sx_ob31, sx_ob32, sx_ob33, sx_ob34, sx_ob35, sx_ob36, sx_fv0_0, sx_fv0_1, sx_fv0_2, sx_fv0_3, sx_fv0_4, sx_fv0_5, sx_fv1_0, sx_fv1_1, sx_fv1_2, sx_fv3_0, sx_fv3_1, sx_fv3_2, sx_fv3_3, sx_fv3_4, sx_fv7_0, sx_fv7_1, sx_fv7_2, sx_fv7_3, sx_fv7_4, sx_fv7_5, sx_fv7_6, sx_fv7_7, sx_fv7_8, sx_fv7_9, sx_fv7_10, sx_fv9_0, sx_fv9_1, sx_fv9_2, sx_fv9_3, sx_fv11_0, sx_fv11_1, sx_fv11_2, sx_fv11_3, sx_fv11_4, sx_fv11_5, sx_fv11_6, sx_fv15_0, sx_fv15_1, sx_fv15_2, sx_fv15_3, sx_fv15_4, sx_fv15_5, sx_fv19_0, sx_fv19_1, sx_fv19_2, sx_fv19_3, sx_fv19_4, sx_fv19_5, sx_fv19_6, sx_fv24_0, sx_fv24_1, sx_fv24_2, sx_fv24_3, sx_fv24_4, sx_fv24_5, sx_fv24_6, sx_fv24_7, sx_fv24_8, sx_fv24_9, sx_fv24_10, sx_fv24_11, sx_fv24_12, sx_fv24_13, sx_fv24_14, sx_fv24_15, sx_fv24_16, sx_fv24_17, sx_fv24_18, sx_fvS_0, sx_fvS_1, sx_fvS_2, sx_fvS_3, sx_fvS_4, sx_fvS_5, sx_fvS_6, sx_fvS_7, sx_fvS_8, sx_fvS_9, sx_ar2, sx_ar4, sx_ar5, sx_ar6, sx_ar8, sx_ar10, sx_ar12, sx_ar13, sx_ar14, sx_ar16, sx_ar17, sx_ar18, sx_ar20, sx_ar21, sx_ar22, sx_ar23, sx_ar25, sx_ar26, sx_ar27, sx_ar28, sx_ar29, sx_ar30, sx_ar31, sx_ar32, sx_ar33, sx_ar34, sx_ar35, sx_ar36, sy_ob_S, sy_ob_W, sy_ar_W, sx_if0, sx_if1, sx_ie0, sx_em, Classical.not_not, sx_cle, sx_clt, sx_cge, sx_cgt, sx_ceq, Nat.reduceLT, Nat.reduceLeDiff, Nat.reduceAdd, Nat.reduceSub, Nat.reduceEqDiff, reduceIte, List.length_cons, List.length_nil, true_and, and_true, and_self, Bool.false_eq_true, true_implies, not_true_eq_false, not_false_eq_true, false_implies, implies_true, ne_eq, reduceCtorEq, Option.some.injEq, false_and, and_false, Int.reduceNeg, Int.reduceToNat, Int.reduceLT, Int.reduceLE, Int.reduceEq, Int.reduceAdd, Int.reduceSub, Int.reduceMul, or_false, false_or, or_true, true_or, forall_const, Int.toNat_natCast, Int.toNat_zero, Int.toNat_one, Nat.zero_add, or_self, Int.neg_eq_zero]
  have k0 := key (st 3 4).toNat 0 (by omega)
  have e0 : c_sm st 0 = sy_up (sy_up (sy_up (sy_up (sy_up st 7 4 0) 7 5 (-1)) 7 6 (-1)) 7 7 17) 7 8 (-1) := by
    have : sy_up (sy_up (sy_up (sy_up (sy_up (c_s5 st (st 7 4) (st 7 5) (st 7 6) (st 7 7) (st 7 8)) 7 4 0) 7 5 (-1)) 7 6 (-1)) 7 7 17) 7 8 (-1) = c_sm st 0 := by rw [c_s5_up4, c_s5_up5, c_s5_up6, c_s5_up7, c_s5_up8]; rfl
    rw [hs] at this
    exact this.symm
  rw [e0] at k0
  exact k0
