/-! THE MODEL'S FIGURES -/
theorem xg_k_pos {N : Nat → Int} (hN : ∀ r, 1 ≤ N r ∧ N r ≤ 8) {f : Int} (hf : 0 ≤ f) (w : Nat) : 0 ≤ xg_k N f w ∧ xg_k N f w ≤ f := by
  have h1 := hN 1
  have h2 := hN 2
  have h3 := hN 3
  have a3 : 0 ≤ f / N 3 ∧ f / N 3 ≤ f := ⟨Int.ediv_nonneg hf (by omega), Int.ediv_le_self _ hf⟩
  have a2 : 0 ≤ f / N 3 / N 2 ∧ f / N 3 / N 2 ≤ f / N 3 := ⟨Int.ediv_nonneg a3.1 (by omega), Int.ediv_le_self _ a3.1⟩
  have a1 : 0 ≤ f / N 3 / N 2 / N 1 ∧ f / N 3 / N 2 / N 1 ≤ f / N 3 / N 2 := ⟨Int.ediv_nonneg a2.1 (by omega), Int.ediv_le_self _ a2.1⟩
  unfold xg_k
  split <;> omega
theorem xg_net_N {F B N : Nat → Int} (h : xg_net F B N) (r : Nat) : 1 ≤ N r ∧ N r ≤ 8 := ⟨(h.1 r).2.2.1, (h.1 r).2.2.2⟩
theorem xg_mod {F B N : Nat → Int} (h : xg_net F B N) {f : Int} (w : Nat) : 0 ≤ B w * (xg_k N f w % N w) ∧ B w * (xg_k N f w % N w) ≤ B w * (N w - 1) ∧ B w * (N w - 1) ≤ 7000 := by
  obtain ⟨b1, b2, n1, n2⟩ := h.1 w
  have m1 := Int.emod_nonneg (xg_k N f w) (b := N w) (by omega)
  have m2 := Int.emod_lt_of_pos (xg_k N f w) (b := N w) (by omega)
  have := Int.mul_nonneg (a := B w) (by omega) m1
  have := Int.mul_le_mul_of_nonneg_left (show xg_k N f w % N w ≤ N w - 1 by omega) (show 0 ≤ B w by omega)
  have := Int.mul_le_mul (a := B w) (b := N w - 1) (c := 1000) (d := 7) (by omega) (by omega) (by omega) (by omega)
  omega
theorem xg_f_rng {F B N : Nat → Int} (h : xg_net F B N) (f : Int) : (-15000 ≤ xg_f F B N f 0 ∧ xg_f F B N f 0 ≤ 22000) ∧ (-2000 ≤ xg_f F B N f 1 ∧ xg_f F B N f 1 ≤ 9000) ∧ (1 ≤ xg_f F B N f 2 ∧ xg_f F B N f 2 ≤ 2000) ∧ (1 ≤ xg_f F B N f 3 ∧ xg_f F B N f 3 ≤ 2000) := by
  have a0 := xg_mod h (f := f) 0
  have a1 := xg_mod h (f := f) 1
  have a2 := xg_mod h (f := f) 2
  have a3 := xg_mod h (f := f) 3
  obtain ⟨-, c0, c1, c2, c3⟩ := h
  unfold xg_f
  omega
theorem m_fg_rng {st : sy_S} (h : m_net st) (f : Int) {w : Nat} (hw : w ≤ 3) : -15000 ≤ m_fg st f w ∧ m_fg st f w ≤ 22000 := by
  have := xg_f_rng h f
  unfold m_fg
  rcases (show w = 0 ∨ w = 1 ∨ w = 2 ∨ w = 3 by omega) with rfl | rfl | rfl | rfl <;> omega
theorem m_N_at (st : sy_S) {r : Nat} (h : r < 4) : m_N st r = st 30 (3 * r + 2) := by unfold m_N; rw [if_pos h]
theorem m_B_at (st : sy_S) {r : Nat} (h : r < 4) : m_B st r = st 30 (3 * r + 1) := by unfold m_B; rw [if_pos h]
theorem xg_k_next (N : Nat → Int) (f : Int) {r : Nat} (h : 1 ≤ r ∧ r ≤ 3) : xg_k N f r / N r = xg_k N f (r - 1) := by
  rcases (show r = 1 ∨ r = 2 ∨ r = 3 by omega) with rfl | rfl | rfl <;> rfl
def sp_9_part (ns : Nat) : sy_Sp := sy_m2 24 fun f w st post => (m_ok ns st ∧ (0 ≤ f ∧ f < 4096) ∧ 0 ≤ w ∧ w ≤ 3) ∧ post (some (.inl (true, m_fg st f w.toNat))) st
def ct_9_part (ns q : Nat) : Option (Bool × Nat × sy_Sp) := match q with
  | _ => none
abbrev M_9_part (ns : Nat) : sy_M := Mk_9_part (ct_9_part ns)
theorem mv_9_part (ns : Nat) : sy_MV c_9_part y_9_part.cls (some .int) (M_9_part ns) := ⟨tv_9_part, ff_9_ok, ki_9_ok, kl_9_ok⟩
abbrev rm_9_part : Room := { frames := 0, cells := 0, slots := 0, locals := 0 }
theorem co_9_part (l : Launch) : sy_calls l rm_9_part y_9_part.cls c_9_part 5 (fun ns => (M_9_part ns).2.2.2.2.1) := by
  intro p e s m args below meth c rt wd ad ns A Q X hA q b n sp h
  replace h : ct_9_part ns q = some (b, n, sp) := h
  unfold ct_9_part at h
  cases h
theorem rc_9_part (ns : Nat) (as : List sy_V) (st : sy_S) (post : sy_R) (h : sp_9_part ns as st post) : ∃ b as', as = .inr (.inr (some (some b))) :: as' ∧ sy_ob b = some 9 := sy_m2_r rfl as st post h
theorem mc_9_part (l : Launch) : sy_MC l y_9_part c_9_part 5 (some .int) rm_9_part sp_9_part := by
  refine sy_meth M_9_part (by decide +kernel) mv_9_part (co_9_part l) ?_
  intro ns as st post WA h hok hrg ⟨hgo0, hin, hwk⟩
  have hgo : ∀ (n pc : Nat) (L k : List sy_V) (st : sy_S), rn_9_part ns (ct_9_part ns) post WA n pc L k st → WA pc L k st := fun n pc L k st h => hgo0 [5] n pc L k st h
  replace h := sy_m2_e h hok
  obtain ⟨f, w, rfl, hf, hw, h⟩ := h
  refine ⟨Nat.le_of_ble_eq_true rfl, ?_⟩
  show WA 0 [.inr (.inr (some (some 24))), .inl (true, f), .inl (true, w), .inr (.inr none), .inr (.inr none)] [] st
  obtain ⟨⟨hm, hf1, hw1⟩, h⟩ := h
  have hN := fun r => xg_net_N hm.2.2 r
  have key : ∀ (d r : Nat), (r : Int) = w + d → r ≤ 3 → WA 5 [.inr (.inr (some (some 24))), .inl (true, f), .inl (true, w), .inl (true, xg_k (m_N st) f r), .inl (true, (r : Int))] [] st := by
    intro d
    induction d with
    | zero =>
      intro r hr hr3
      refine hgo 100 _ _ _ _ ?_
      simp -implicitDefEqProofs only [↓rx_9_part_0, ↓rx_9_part_1, ↓rx_9_part_2, ↓rx_9_part_3, ↓rx_9_part_5, ↓rx_9_part_7, ↓rx_9_part_8, ↓rx_9_part_11, ↓rx_9_part_12, ↓rx_9_part_13, ↓rx_9_part_16, ↓rx_9_part_17, ↓rx_9_part_19, ↓rx_9_part_20, ↓rx_9_part_21, ↓rx_9_part_22, ↓rx_9_part_23, ↓rx_9_part_24, ↓rx_9_part_25, ↓rx_9_part_28, ↓rx_9_part_31, ↓rx_9_part_32, ↓rx_9_part_35, ↓rx_9_part_36, ↓rx_9_part_37, ↓rx_9_part_38, ↓rx_9_part_39, ↓rx_9_part_40, ↓rx_9_part_43, ↓rx_9_part_44, ↓rx_9_part_45, ↓rx_9_part_46, ↓rx_9_part_47, ↓rx_9_part_48, ↓rx_9_part_49, ↓rx_9_part_50, ↓rx_9_part_51, ↓rx_9_part_54, ↓rx_9_part_55, ↓rx_9_part_56, ↓rx_9_part_57, ↓rx_9_part_58, ↓rx_9_part_59, ↓rx_9_part_60, ↓rx_9_part_61, ↓rx_9_part_62, ↓rx_9_part_63, ↓sx_s1, ↓sx_s2, ↓sx_s3, ↓sx_s4, ↓sx_s5, ↓sx_s6, ↓sx_m0, ↓sx_m1, ↓sx_m2, ↓sx_m3, ↓sx_m4, ↓sx_m5, ↓sx_m6, ↓sx_k0_, ↓sx_k1_, ↓sx_k2_, ↓sx_k3_, ↓sx_k4_, ↓sx_k5_, ↓sx_k6_, ↓sx_sLL, ↓sx_sAI, ↓sx_mLL, ↓sx_mIIL, ↓sx_mIILL, ↓sx_mIILLL, ↓sx_qS, ↓sx_qSI, ↓sx_qSIII, sx_rit, sx_rif, sx_rlt, sx_rlf, sx_b0, sx_b1, sx_o0, sx_o1i, sx_o1a, sx_o1l, sx_o2, sx_g0, sx_g1, sx_k1, sx_k2, sx_k3, sx_f1, sx_f2, sx_f3, sx_w0, sx_w1, sx_w2, sx_w3, sx_ts, sx_tn, sx_up, sx_nS1, sx_nS2, sx_nW1, sx_nW2, sx_SW, sx_WS, sy_nS_inj, sy_nW_inj, sx_ob0, sx_ob1, sx_ob2, sx_ob3, sx_ob4, sx_ob5, sx_ob6, sx_ob7, sx_ob8, sx_ob9, sx_ob10, sx_ob11, sx_ob12, sx_ob13, sx_ob14, sx_ob15, sx_ob16, sx_ob17, sx_ob18, sx_ob19, sx_ob20, sx_ob21, sx_ob22, sx_ob23, sx_ob24, sx_ob25, sx_ob26, sx_ob27, sx_ob28, sx_ob29, sx_ob30, sx_ob31, sx_ob32, sx_ob33, sx_ob34, sx_ob35, sx_ob36, sx_fv0_0, sx_fv0_1, sx_fv0_2, sx_fv0_3, sx_fv0_4, sx_fv0_5, sx_fv1_0, sx_fv1_1, sx_fv1_2, sx_fv3_0, sx_fv3_1, sx_fv3_2, sx_fv3_3, sx_fv3_4, sx_fv7_0, sx_fv7_1, sx_fv7_2, sx_fv7_3, sx_fv7_4, sx_fv7_5, sx_fv7_6, sx_fv7_7, sx_fv7_8, sx_fv7_9, sx_fv7_10, sx_fv9_0, sx_fv9_1, sx_fv9_2, sx_fv9_3, sx_fv11_0, sx_fv11_1, sx_fv11_2, sx_fv11_3, sx_fv11_4, sx_fv11_5, sx_fv11_6, sx_fv15_0, sx_fv15_1, sx_fv15_2, sx_fv15_3, sx_fv15_4, sx_fv15_5, sx_fv19_0, sx_fv19_1, sx_fv19_2, sx_fv19_3, sx_fv19_4, sx_fv19_5, sx_fv19_6, sx_fv24_0, sx_fv24_1, sx_fv24_2, sx_fv24_3, sx_fv24_4, sx_fv24_5, sx_fv24_6, sx_fv24_7, sx_fv24_8, sx_fv24_9, sx_fv24_10, sx_fv24_11, sx_fv24_12, sx_fv24_13, sx_fv24_14, sx_fv24_15, sx_fv24_16, sx_fv24_17, sx_fv24_18, sx_fvS_0, sx_fvS_1, sx_fvS_2, sx_fvS_3, sx_fvS_4, sx_fvS_5, sx_fvS_6, sx_fvS_7, sx_fvS_8, sx_fvS_9, sx_ar2, sx_ar4, sx_ar5, sx_ar6, sx_ar8, sx_ar10, sx_ar12, sx_ar13, sx_ar14, sx_ar16, sx_ar17, sx_ar18, sx_ar20, sx_ar21, sx_ar22, sx_ar23, sx_ar25, sx_ar26, sx_ar27, sx_ar28, sx_ar29, sx_ar30, sx_ar31, sx_ar32, sx_ar33, sx_ar34, sx_ar35, sx_ar36, sy_ob_S, sy_ob_W, sy_ar_W, sx_if0, sx_if1, sx_ie0, sx_em, Classical.not_not, sx_cle, sx_clt, sx_cge, sx_cgt, sx_ceq, Nat.reduceLT, Nat.reduceLeDiff, Nat.reduceAdd, Nat.reduceSub, Nat.reduceEqDiff, reduceIte, List.length_cons, List.length_nil, true_and, and_true, and_self, Bool.false_eq_true, true_implies, not_true_eq_false, not_false_eq_true, false_implies, implies_true, ne_eq, reduceCtorEq, Option.some.injEq, false_and, and_false, Int.reduceNeg, Int.reduceToNat, Int.reduceLT, Int.reduceLE, Int.reduceEq, Int.reduceAdd, Int.reduceSub, Int.reduceMul, or_false, false_or, or_true, true_or, forall_const, Int.toNat_natCast, Int.toNat_zero, Int.toNat_one, Nat.zero_add, or_self, Int.neg_eq_zero]
      have e0 : (3 * w).toNat = 3 * w.toNat := by omega
      have e1 : (3 * w + 1).toNat = 3 * w.toNat + 1 := by omega
      have e2 : (3 * w + 2).toNat = 3 * w.toNat + 2 := by omega
      have ew : w.toNat = r := by omega
      have hr := m_fg_rng hm.2.2 f (w := r) hr3
      have hk := xg_k_pos hN (f := f) hf1.1 r
      have hn := hN r
      rw [ew] at h
      unfold m_fg xg_f m_F at h hr
      rw [m_B_at st (by omega), m_N_at st (by omega)] at h hr
      rw [m_N_at st (by omega)] at hn
      rw [e0, e1, e2, ew, Int.tmod_eq_emod_of_nonneg hk.1]
      refine ⟨fun _ => ⟨by omega, by omega, by omega, by omega, by omega, h⟩, fun q => by omega⟩
    | succ d ih =>
      intro r hr hr3
      refine hgo 100 _ _ _ _ ?_
      simp -implicitDefEqProofs only [↓rx_9_part_0, ↓rx_9_part_1, ↓rx_9_part_2, ↓rx_9_part_3, ↓rx_9_part_5, ↓rx_9_part_7, ↓rx_9_part_8, ↓rx_9_part_11, ↓rx_9_part_12, ↓rx_9_part_13, ↓rx_9_part_16, ↓rx_9_part_17, ↓rx_9_part_19, ↓rx_9_part_20, ↓rx_9_part_21, ↓rx_9_part_22, ↓rx_9_part_23, ↓rx_9_part_24, ↓rx_9_part_25, ↓rx_9_part_28, ↓rx_9_part_31, ↓rx_9_part_32, ↓rx_9_part_35, ↓rx_9_part_36, ↓rx_9_part_37, ↓rx_9_part_38, ↓rx_9_part_39, ↓rx_9_part_40, ↓rx_9_part_43, ↓rx_9_part_44, ↓rx_9_part_45, ↓rx_9_part_46, ↓rx_9_part_47, ↓rx_9_part_48, ↓rx_9_part_49, ↓rx_9_part_50, ↓rx_9_part_51, ↓rx_9_part_54, ↓rx_9_part_55, ↓rx_9_part_56, ↓rx_9_part_57, ↓rx_9_part_58, ↓rx_9_part_59, ↓rx_9_part_60, ↓rx_9_part_61, ↓rx_9_part_62, ↓rx_9_part_63, ↓sx_s1, ↓sx_s2, ↓sx_s3, ↓sx_s4, ↓sx_s5, ↓sx_s6, ↓sx_m0, ↓sx_m1, ↓sx_m2, ↓sx_m3, ↓sx_m4, ↓sx_m5, ↓sx_m6, ↓sx_k0_, ↓sx_k1_, ↓sx_k2_, ↓sx_k3_, ↓sx_k4_, ↓sx_k5_, ↓sx_k6_, ↓sx_sLL, ↓sx_sAI, ↓sx_mLL, ↓sx_mIIL, ↓sx_mIILL, ↓sx_mIILLL, ↓sx_qS, ↓sx_qSI, ↓sx_qSIII, sx_rit, sx_rif, sx_rlt, sx_rlf, sx_b0, sx_b1, sx_o0, sx_o1i, sx_o1a, sx_o1l, sx_o2, sx_g0, sx_g1, sx_k1, sx_k2, sx_k3, sx_f1, sx_f2, sx_f3, sx_w0, sx_w1, sx_w2, sx_w3, sx_ts, sx_tn, sx_up, sx_nS1, sx_nS2, sx_nW1, sx_nW2, sx_SW, sx_WS, sy_nS_inj, sy_nW_inj, sx_ob0, sx_ob1, sx_ob2, sx_ob3, sx_ob4, sx_ob5, sx_ob6, sx_ob7, sx_ob8, sx_ob9, sx_ob10, sx_ob11, sx_ob12, sx_ob13, sx_ob14, sx_ob15, sx_ob16, sx_ob17, sx_ob18, sx_ob19, sx_ob20, sx_ob21, sx_ob22, sx_ob23, sx_ob24, sx_ob25, sx_ob26, sx_ob27, sx_ob28, sx_ob29, sx_ob30, sx_ob31, sx_ob32, sx_ob33, sx_ob34, sx_ob35, sx_ob36, sx_fv0_0, sx_fv0_1, sx_fv0_2, sx_fv0_3, sx_fv0_4, sx_fv0_5, sx_fv1_0, sx_fv1_1, sx_fv1_2, sx_fv3_0, sx_fv3_1, sx_fv3_2, sx_fv3_3, sx_fv3_4, sx_fv7_0, sx_fv7_1, sx_fv7_2, sx_fv7_3, sx_fv7_4, sx_fv7_5, sx_fv7_6, sx_fv7_7, sx_fv7_8, sx_fv7_9, sx_fv7_10, sx_fv9_0, sx_fv9_1, sx_fv9_2, sx_fv9_3, sx_fv11_0, sx_fv11_1, sx_fv11_2, sx_fv11_3, sx_fv11_4, sx_fv11_5, sx_fv11_6, sx_fv15_0, sx_fv15_1, sx_fv15_2, sx_fv15_3, sx_fv15_4, sx_fv15_5, sx_fv19_0, sx_fv19_1, sx_fv19_2, sx_fv19_3, sx_fv19_4, sx_fv19_5, sx_fv19_6, sx_fv24_0, sx_fv24_1, sx_fv24_2, sx_fv24_3, sx_fv24_4, sx_fv24_5, sx_fv24_6, sx_fv24_7, sx_fv24_8, sx_fv24_9, sx_fv24_10, sx_fv24_11, sx_fv24_12, sx_fv24_13, sx_fv24_14, sx_fv24_15, sx_fv24_16, sx_fv24_17, sx_fv24_18, sx_fvS_0, sx_fvS_1, sx_fvS_2, sx_fvS_3, sx_fvS_4, sx_fvS_5, sx_fvS_6, sx_fvS_7, sx_fvS_8, sx_fvS_9, sx_ar2, sx_ar4, sx_ar5, sx_ar6, sx_ar8, sx_ar10, sx_ar12, sx_ar13, sx_ar14, sx_ar16, sx_ar17, sx_ar18, sx_ar20, sx_ar21, sx_ar22, sx_ar23, sx_ar25, sx_ar26, sx_ar27, sx_ar28, sx_ar29, sx_ar30, sx_ar31, sx_ar32, sx_ar33, sx_ar34, sx_ar35, sx_ar36, sy_ob_S, sy_ob_W, sy_ar_W, sx_if0, sx_if1, sx_ie0, sx_em, Classical.not_not, sx_cle, sx_clt, sx_cge, sx_cgt, sx_ceq, Nat.reduceLT, Nat.reduceLeDiff, Nat.reduceAdd, Nat.reduceSub, Nat.reduceEqDiff, reduceIte, List.length_cons, List.length_nil, true_and, and_true, and_self, Bool.false_eq_true, true_implies, not_true_eq_false, not_false_eq_true, false_implies, implies_true, ne_eq, reduceCtorEq, Option.some.injEq, false_and, and_false, Int.reduceNeg, Int.reduceToNat, Int.reduceLT, Int.reduceLE, Int.reduceEq, Int.reduceAdd, Int.reduceSub, Int.reduceMul, or_false, false_or, or_true, true_or, forall_const, Int.toNat_natCast, Int.toNat_zero, Int.toNat_one, Nat.zero_add, or_self, Int.neg_eq_zero]
      have e2 : (3 * (r : Int) + 2).toNat = 3 * r + 2 := by omega
      have hk := xg_k_pos hN (f := f) hf1.1 r
      have hk1 := xg_k_pos hN (f := f) hf1.1 (r - 1)
      have hn := hN r
      have hnx := xg_k_next (m_N st) f (r := r) (by omega)
      have := ih (r - 1) (by omega) (by omega)
      rw [m_N_at st (by omega)] at hn hnx
      rw [e2, Int.tdiv_eq_ediv_of_nonneg hk.1, hnx, show (r : Int) + -1 = ((r - 1 : Nat) : Int) by omega]
      exact ⟨fun q => by omega, fun _ => ⟨by omega, by omega, by omega, by omega, this⟩⟩
  refine hgo 100 _ _ _ _ ?_
  simp -implicitDefEqProofs only [↓rx_9_part_0, ↓rx_9_part_1, ↓rx_9_part_2, ↓rx_9_part_3, ↓rx_9_part_5, ↓rx_9_part_7, ↓rx_9_part_8, ↓rx_9_part_11, ↓rx_9_part_12, ↓rx_9_part_13, ↓rx_9_part_16, ↓rx_9_part_17, ↓rx_9_part_19, ↓rx_9_part_20, ↓rx_9_part_21, ↓rx_9_part_22, ↓rx_9_part_23, ↓rx_9_part_24, ↓rx_9_part_25, ↓rx_9_part_28, ↓rx_9_part_31, ↓rx_9_part_32, ↓rx_9_part_35, ↓rx_9_part_36, ↓rx_9_part_37, ↓rx_9_part_38, ↓rx_9_part_39, ↓rx_9_part_40, ↓rx_9_part_43, ↓rx_9_part_44, ↓rx_9_part_45, ↓rx_9_part_46, ↓rx_9_part_47, ↓rx_9_part_48, ↓rx_9_part_49, ↓rx_9_part_50, ↓rx_9_part_51, ↓rx_9_part_54, ↓rx_9_part_55, ↓rx_9_part_56, ↓rx_9_part_57, ↓rx_9_part_58, ↓rx_9_part_59, ↓rx_9_part_60, ↓rx_9_part_61, ↓rx_9_part_62, ↓rx_9_part_63, ↓sx_s1, ↓sx_s2, ↓sx_s3, ↓sx_s4, ↓sx_s5, ↓sx_s6, ↓sx_m0, ↓sx_m1, ↓sx_m2, ↓sx_m3, ↓sx_m4, ↓sx_m5, ↓sx_m6, ↓sx_k0_, ↓sx_k1_, ↓sx_k2_, ↓sx_k3_, ↓sx_k4_, ↓sx_k5_, ↓sx_k6_, ↓sx_sLL, ↓sx_sAI, ↓sx_mLL, ↓sx_mIIL, ↓sx_mIILL, ↓sx_mIILLL, ↓sx_qS, ↓sx_qSI, ↓sx_qSIII, sx_rit, sx_rif, sx_rlt, sx_rlf, sx_b0, sx_b1, sx_o0, sx_o1i, sx_o1a, sx_o1l, sx_o2, sx_g0, sx_g1, sx_k1, sx_k2, sx_k3, sx_f1, sx_f2, sx_f3, sx_w0, sx_w1, sx_w2, sx_w3, sx_ts, sx_tn, sx_up, sx_nS1, sx_nS2, sx_nW1, sx_nW2, sx_SW, sx_WS, sy_nS_inj, sy_nW_inj, sx_ob0, sx_ob1, sx_ob2, sx_ob3, sx_ob4, sx_ob5, sx_ob6, sx_ob7, sx_ob8, sx_ob9, sx_ob10, sx_ob11, sx_ob12, sx_ob13, sx_ob14, sx_ob15, sx_ob16, sx_ob17, sx_ob18, sx_ob19, sx_ob20, sx_ob21, sx_ob22, sx_ob23, sx_ob24, sx_ob25, sx_ob26, sx_ob27, sx_ob28, sx_ob29, sx_ob30, sx_ob31, sx_ob32, sx_ob33, sx_ob34, sx_ob35, sx_ob36, sx_fv0_0, sx_fv0_1, sx_fv0_2, sx_fv0_3, sx_fv0_4, sx_fv0_5, sx_fv1_0, sx_fv1_1, sx_fv1_2, sx_fv3_0, sx_fv3_1, sx_fv3_2, sx_fv3_3, sx_fv3_4, sx_fv7_0, sx_fv7_1, sx_fv7_2, sx_fv7_3, sx_fv7_4, sx_fv7_5, sx_fv7_6, sx_fv7_7, sx_fv7_8, sx_fv7_9, sx_fv7_10, sx_fv9_0, sx_fv9_1, sx_fv9_2, sx_fv9_3, sx_fv11_0, sx_fv11_1, sx_fv11_2, sx_fv11_3, sx_fv11_4, sx_fv11_5, sx_fv11_6, sx_fv15_0, sx_fv15_1, sx_fv15_2, sx_fv15_3, sx_fv15_4, sx_fv15_5, sx_fv19_0, sx_fv19_1, sx_fv19_2, sx_fv19_3, sx_fv19_4, sx_fv19_5, sx_fv19_6, sx_fv24_0, sx_fv24_1, sx_fv24_2, sx_fv24_3, sx_fv24_4, sx_fv24_5, sx_fv24_6, sx_fv24_7, sx_fv24_8, sx_fv24_9, sx_fv24_10, sx_fv24_11, sx_fv24_12, sx_fv24_13, sx_fv24_14, sx_fv24_15, sx_fv24_16, sx_fv24_17, sx_fv24_18, sx_fvS_0, sx_fvS_1, sx_fvS_2, sx_fvS_3, sx_fvS_4, sx_fvS_5, sx_fvS_6, sx_fvS_7, sx_fvS_8, sx_fvS_9, sx_ar2, sx_ar4, sx_ar5, sx_ar6, sx_ar8, sx_ar10, sx_ar12, sx_ar13, sx_ar14, sx_ar16, sx_ar17, sx_ar18, sx_ar20, sx_ar21, sx_ar22, sx_ar23, sx_ar25, sx_ar26, sx_ar27, sx_ar28, sx_ar29, sx_ar30, sx_ar31, sx_ar32, sx_ar33, sx_ar34, sx_ar35, sx_ar36, sy_ob_S, sy_ob_W, sy_ar_W, sx_if0, sx_if1, sx_ie0, sx_em, Classical.not_not, sx_cle, sx_clt, sx_cge, sx_cgt, sx_ceq, Nat.reduceLT, Nat.reduceLeDiff, Nat.reduceAdd, Nat.reduceSub, Nat.reduceEqDiff, reduceIte, List.length_cons, List.length_nil, true_and, and_true, and_self, Bool.false_eq_true, true_implies, not_true_eq_false, not_false_eq_true, false_implies, implies_true, ne_eq, reduceCtorEq, Option.some.injEq, false_and, and_false, Int.reduceNeg, Int.reduceToNat, Int.reduceLT, Int.reduceLE, Int.reduceEq, Int.reduceAdd, Int.reduceSub, Int.reduceMul, or_false, false_or, or_true, true_or, forall_const, Int.toNat_natCast, Int.toNat_zero, Int.toNat_one, Nat.zero_add, or_self, Int.neg_eq_zero]
  exact key (3 - w.toNat) 3 (by omega) (by omega)

theorem m_tot_rng {N : Nat → Int} (hN : ∀ r, 1 ≤ N r ∧ N r ≤ 8) : (1 ≤ N 0 * N 1 ∧ N 0 * N 1 ≤ 64) ∧ (1 ≤ N 0 * N 1 * N 2 ∧ N 0 * N 1 * N 2 ≤ 512) ∧ 1 ≤ xg_tot N ∧ xg_tot N ≤ 4096 := by
  have h0 := hN 0
  have h1 := hN 1
  have h2 := hN 2
  have h3 := hN 3
  have a1 := Int.mul_le_mul (a := N 0) (b := N 1) (c := 8) (d := 8) (by omega) (by omega) (by omega) (by omega)
  have b1 := Int.mul_le_mul (a := 1) (b := 1) (c := N 0) (d := N 1) (by omega) (by omega) (by omega) (by omega)
  have a2 := Int.mul_le_mul (a := N 0 * N 1) (b := N 2) (c := 64) (d := 8) (by omega) (by omega) (by omega) (by omega)
  have b2 := Int.mul_le_mul (a := 1) (b := 1) (c := N 0 * N 1) (d := N 2) (by omega) (by omega) (by omega) (by omega)
  have a3 := Int.mul_le_mul (a := N 0 * N 1 * N 2) (b := N 3) (c := 512) (d := 8) (by omega) (by omega) (by omega) (by omega)
  have b3 := Int.mul_le_mul (a := 1) (b := 1) (c := N 0 * N 1 * N 2) (d := N 3) (by omega) (by omega) (by omega) (by omega)
  unfold xg_tot
  omega
def m_tot (st : sy_S) : Int := st 30 2 * st 30 5 * st 30 8 * st 30 11
theorem m_tot_eq (st : sy_S) : m_tot st = xg_tot (m_N st) := by
  unfold m_tot xg_tot
  rw [m_N_at st (by decide), m_N_at st (by decide), m_N_at st (by decide), m_N_at st (by decide)]
theorem m_tot_r {st : sy_S} (h : m_net st) : 1 ≤ m_tot st ∧ m_tot st ≤ 4096 := by
  rw [m_tot_eq]
  exact (m_tot_rng (fun r => xg_net_N h r)).2.2
def sp_9_figures (ns : Nat) : sy_Sp := sy_m0 24 fun st post => m_ok ns st ∧ post (some (.inl (true, m_tot st))) st
def ct_9_figures (ns q : Nat) : Option (Bool × Nat × sy_Sp) := match q with
  | _ => none
abbrev M_9_figures (ns : Nat) : sy_M := Mk_9_figures (ct_9_figures ns)
theorem mv_9_figures (ns : Nat) : sy_MV c_9_figures y_9_figures.cls (some .int) (M_9_figures ns) := ⟨tv_9_figures, ff_9_ok, ki_9_ok, kl_9_ok⟩
abbrev rm_9_figures : Room := { frames := 0, cells := 0, slots := 0, locals := 0 }
theorem co_9_figures (l : Launch) : sy_calls l rm_9_figures y_9_figures.cls c_9_figures 1 (fun ns => (M_9_figures ns).2.2.2.2.1) := by
  intro p e s m args below meth c rt wd ad ns A Q X hA q b n sp h
  replace h : ct_9_figures ns q = some (b, n, sp) := h
  unfold ct_9_figures at h
  cases h
theorem rc_9_figures (ns : Nat) (as : List sy_V) (st : sy_S) (post : sy_R) (h : sp_9_figures ns as st post) : ∃ b as', as = .inr (.inr (some (some b))) :: as' ∧ sy_ob b = some 9 := sy_m0_r rfl as st post h
theorem mc_9_figures (l : Launch) : sy_MC l y_9_figures c_9_figures 1 (some .int) rm_9_figures sp_9_figures := by
  refine sy_meth M_9_figures (by decide +kernel) mv_9_figures (co_9_figures l) ?_
  intro ns as st post WA h hok hrg ⟨hgo0, hin, hwk⟩
  have hgo : ∀ (n pc : Nat) (L k : List sy_V) (st : sy_S), rn_9_figures ns (ct_9_figures ns) post WA n pc L k st → WA pc L k st := fun n pc L k st h => hgo0 [] n pc L k st h
  replace h := sy_m0_e h hok
  obtain ⟨rfl, h⟩ := h
  refine ⟨Nat.le_of_ble_eq_true rfl, ?_⟩
  show WA 0 [.inr (.inr (some (some 24)))] [] st
  refine hgo 100 _ _ _ _ ?_
  simp -implicitDefEqProofs only [↓rx_9_figures_0, ↓rx_9_figures_1, ↓rx_9_figures_4, ↓rx_9_figures_5, ↓rx_9_figures_6, ↓rx_9_figures_7, ↓rx_9_figures_10, ↓rx_9_figures_11, ↓rx_9_figures_12, ↓rx_9_figures_13, ↓rx_9_figures_14, ↓rx_9_figures_17, ↓rx_9_figures_19, ↓rx_9_figures_20, ↓rx_9_figures_21, ↓rx_9_figures_22, ↓rx_9_figures_25, ↓rx_9_figures_27, ↓rx_9_figures_28, ↓rx_9_figures_29, ↓sx_s1, ↓sx_s2, ↓sx_s3, ↓sx_s4, ↓sx_s5, ↓sx_s6, ↓sx_m0, ↓sx_m1, ↓sx_m2, ↓sx_m3, ↓sx_m4, ↓sx_m5, ↓sx_m6, ↓sx_k0_, ↓sx_k1_, ↓sx_k2_, ↓sx_k3_, ↓sx_k4_, ↓sx_k5_, ↓sx_k6_, ↓sx_sLL, ↓sx_sAI, ↓sx_mLL, ↓sx_mIIL, ↓sx_mIILL, ↓sx_mIILLL, ↓sx_qS, ↓sx_qSI, ↓sx_qSIII, sx_rit, sx_rif, sx_rlt, sx_rlf, sx_b0, sx_b1, sx_o0, sx_o1i, sx_o1a, sx_o1l, sx_o2, sx_g0, sx_g1, sx_k1, sx_k2, sx_k3, sx_f1, sx_f2, sx_f3, sx_w0, sx_w1, sx_w2, sx_w3, sx_ts, sx_tn, sx_up, sx_nS1, sx_nS2, sx_nW1, sx_nW2, sx_SW, sx_WS, sy_nS_inj, sy_nW_inj, sx_ob0, sx_ob1, sx_ob2, sx_ob3, sx_ob4, sx_ob5, sx_ob6, sx_ob7, sx_ob8, sx_ob9, sx_ob10, sx_ob11, sx_ob12, sx_ob13, sx_ob14, sx_ob15, sx_ob16, sx_ob17, sx_ob18, sx_ob19, sx_ob20, sx_ob21, sx_ob22, sx_ob23, sx_ob24, sx_ob25, sx_ob26, sx_ob27, sx_ob28, sx_ob29, sx_ob30, sx_ob31, sx_ob32, sx_ob33, sx_ob34, sx_ob35, sx_ob36, sx_fv0_0, sx_fv0_1, sx_fv0_2, sx_fv0_3, sx_fv0_4, sx_fv0_5, sx_fv1_0, sx_fv1_1, sx_fv1_2, sx_fv3_0, sx_fv3_1, sx_fv3_2, sx_fv3_3, sx_fv3_4, sx_fv7_0, sx_fv7_1, sx_fv7_2, sx_fv7_3, sx_fv7_4, sx_fv7_5, sx_fv7_6, sx_fv7_7, sx_fv7_8, sx_fv7_9, sx_fv7_10, sx_fv9_0, sx_fv9_1, sx_fv9_2, sx_fv9_3, sx_fv11_0, sx_fv11_1, sx_fv11_2, sx_fv11_3, sx_fv11_4, sx_fv11_5, sx_fv11_6, sx_fv15_0, sx_fv15_1, sx_fv15_2, sx_fv15_3, sx_fv15_4, sx_fv15_5, sx_fv19_0, sx_fv19_1, sx_fv19_2, sx_fv19_3, sx_fv19_4, sx_fv19_5, sx_fv19_6, sx_fv24_0, sx_fv24_1, sx_fv24_2, sx_fv24_3, sx_fv24_4, sx_fv24_5, sx_fv24_6, sx_fv24_7, sx_fv24_8, sx_fv24_9, sx_fv24_10, sx_fv24_11, sx_fv24_12, sx_fv24_13, sx_fv24_14, sx_fv24_15, sx_fv24_16, sx_fv24_17, sx_fv24_18, sx_fvS_0, sx_fvS_1, sx_fvS_2, sx_fvS_3, sx_fvS_4, sx_fvS_5, sx_fvS_6, sx_fvS_7, sx_fvS_8, sx_fvS_9, sx_ar2, sx_ar4, sx_ar5, sx_ar6, sx_ar8, sx_ar10, sx_ar12, sx_ar13, sx_ar14, sx_ar16, sx_ar17, sx_ar18, sx_ar20, sx_ar21, sx_ar22, sx_ar23, sx_ar25, sx_ar26, sx_ar27, sx_ar28, sx_ar29, sx_ar30, sx_ar31, sx_ar32, sx_ar33, sx_ar34, sx_ar35, sx_ar36, sy_ob_S, sy_ob_W, sy_ar_W, sx_if0, sx_if1, sx_ie0, sx_em, Classical.not_not, sx_cle, sx_clt, sx_cge, sx_cgt, sx_ceq, Nat.reduceLT, Nat.reduceLeDiff, Nat.reduceAdd, Nat.reduceSub, Nat.reduceEqDiff, reduceIte, List.length_cons, List.length_nil, true_and, and_true, and_self, Bool.false_eq_true, true_implies, not_true_eq_false, not_false_eq_true, false_implies, implies_true, ne_eq, reduceCtorEq, Option.some.injEq, false_and, and_false, Int.reduceNeg, Int.reduceToNat, Int.reduceLT, Int.reduceLE, Int.reduceEq, Int.reduceAdd, Int.reduceSub, Int.reduceMul, or_false, false_or, or_true, true_or, forall_const, Int.toNat_natCast, Int.toNat_zero, Int.toNat_one, Nat.zero_add, or_self, Int.neg_eq_zero]
  obtain ⟨hm, h⟩ := h
  have := m_tot_r hm.2.2
  unfold m_tot at this h
  exact ⟨by omega, by omega, by omega, by omega, by omega, h⟩
def sp_9_isFigure (ns : Nat) : sy_Sp := sy_m1 24 fun f st post => m_ok ns st ∧ post (some (.inl (true, if 0 ≤ f ∧ f < m_tot st then 1 else 0))) st
def ct_9_isFigure (ns q : Nat) : Option (Bool × Nat × sy_Sp) := match q with
  | 89 => some (false, 1, sp_9_figures ns)
  | _ => none
abbrev M_9_isFigure (ns : Nat) : sy_M := Mk_9_isFigure (ct_9_isFigure ns)
theorem cx_9_isFigure_89 {ns : Nat} {v1 : sy_V} {r : List sy_V} {s : sy_S} {f : List sy_V → sy_S → Prop} : sy_call false (ct_9_isFigure ns 89) (v1 :: r) s f = (sy_wd r ≤ 8 ∧ (sy_fit v1) ∧ sp_9_figures ns [sy_kn v1] s (fun q t => f (q.toList ++ r) t)) := sx_call1
theorem mv_9_isFigure (ns : Nat) : sy_MV c_9_isFigure y_9_isFigure.cls (some .boolean) (M_9_isFigure ns) := ⟨tv_9_isFigure, ff_9_ok, ki_9_ok, kl_9_ok⟩
abbrev rm_9_isFigure : Room := { frames := 1, cells := 0, slots := 0, locals := 20 }
theorem iw_9_figures : Cond.code y_9_figures c_9_figures 1 (some .int) ∈ sy_tb ∧ Cond.initialized y_9_figures.cls ∈ sy_tb ∧ (y_9_figures.cls ≠ "java/lang/invoke/MethodHandle" ∧ y_9_figures.cls ≠ "java/lang/invoke/VarHandle" ∧ (parseMethodDescriptor y_9_figures.desc).map (fun d => d.parameters.length) = some 0) := ⟨sy_inx 913 (by decide +kernel) (by decide +kernel), sy_inx 53 (by decide +kernel) (by decide +kernel), by decide +kernel⟩
theorem ii_9_figures : Cond.instanceMethod y_9_figures ∈ sy_tb ∧ Cond.selects y_9_figures.cls y_9_figures y_9_figures ∈ sy_tb := ⟨sy_inx 911 (by decide +kernel) (by decide +kernel), sy_inx 912 (by decide +kernel) (by decide +kernel)⟩
theorem co_9_isFigure (l : Launch) : sy_calls l rm_9_isFigure y_9_isFigure.cls c_9_isFigure 2 (fun ns => (M_9_isFigure ns).2.2.2.2.1) := by
  intro p e s m args below meth c rt wd ad ns A Q X hA q b n sp h
  replace h : ct_9_isFigure ns q = some (b, n, sp) := h
  unfold ct_9_isFigure at h
  split at h
  · cases h; exact sy_coV (ci := 9) X hA (mc_9_figures l) ⟨iw_9_figures.1, iw_9_figures.2.1, iw_9_figures.2.2, ⟨by decide, by decide⟩, rfl, rfl⟩ (sy_inx 922 (by decide +kernel) (by decide +kernel)) ii_9_figures.1 ii_9_figures.2 (rc_9_figures ns) ⟨_, rfl, rfl⟩
  · cases h
theorem rc_9_isFigure (ns : Nat) (as : List sy_V) (st : sy_S) (post : sy_R) (h : sp_9_isFigure ns as st post) : ∃ b as', as = .inr (.inr (some (some b))) :: as' ∧ sy_ob b = some 9 := sy_m1_r rfl as st post h
theorem mc_9_isFigure (l : Launch) : sy_MC l y_9_isFigure c_9_isFigure 2 (some .boolean) rm_9_isFigure sp_9_isFigure := by
  refine sy_meth M_9_isFigure (by decide +kernel) mv_9_isFigure (co_9_isFigure l) ?_
  intro ns as st post WA h hok hrg ⟨hgo0, hin, hwk⟩
  have hgo : ∀ (n pc : Nat) (L k : List sy_V) (st : sy_S), rn_9_isFigure ns (ct_9_isFigure ns) post WA n pc L k st → WA pc L k st := fun n pc L k st h => hgo0 [] n pc L k st h
  replace h := sy_m1_e h hok
  obtain ⟨f, rfl, hf, h⟩ := h
  refine ⟨Nat.le_of_ble_eq_true rfl, ?_⟩
  show WA 0 [.inr (.inr (some (some 24))), .inl (true, f)] [] st
  refine hgo 100 _ _ _ _ ?_
  simp -implicitDefEqProofs only [↓rx_9_isFigure_0, ↓rx_9_isFigure_1, ↓rx_9_isFigure_4, ↓rx_9_isFigure_5, ↓rx_9_isFigure_6, ↓rx_9_isFigure_9, ↓rx_9_isFigure_12, ↓rx_9_isFigure_13, ↓rx_9_isFigure_16, ↓rx_9_isFigure_17, ↓cx_9_isFigure_89, sp_9_figures, ↓sx_s1, ↓sx_s2, ↓sx_s3, ↓sx_s4, ↓sx_s5, ↓sx_s6, ↓sx_m0, ↓sx_m1, ↓sx_m2, ↓sx_m3, ↓sx_m4, ↓sx_m5, ↓sx_m6, ↓sx_k0_, ↓sx_k1_, ↓sx_k2_, ↓sx_k3_, ↓sx_k4_, ↓sx_k5_, ↓sx_k6_, ↓sx_sLL, ↓sx_sAI, ↓sx_mLL, ↓sx_mIIL, ↓sx_mIILL, ↓sx_mIILLL, ↓sx_qS, ↓sx_qSI, ↓sx_qSIII, sx_rit, sx_rif, sx_rlt, sx_rlf, sx_b0, sx_b1, sx_o0, sx_o1i, sx_o1a, sx_o1l, sx_o2, sx_g0, sx_g1, sx_k1, sx_k2, sx_k3, sx_f1, sx_f2, sx_f3, sx_w0, sx_w1, sx_w2, sx_w3, sx_ts, sx_tn, sx_up, sx_nS1, sx_nS2, sx_nW1, sx_nW2, sx_SW, sx_WS, sy_nS_inj, sy_nW_inj, sx_ob0, sx_ob1, sx_ob2, sx_ob3, sx_ob4, sx_ob5, sx_ob6, sx_ob7, sx_ob8, sx_ob9, sx_ob10, sx_ob11, sx_ob12, sx_ob13, sx_ob14, sx_ob15, sx_ob16, sx_ob17, sx_ob18, sx_ob19, sx_ob20, sx_ob21, sx_ob22, sx_ob23, sx_ob24, sx_ob25, sx_ob26, sx_ob27, sx_ob28, sx_ob29, sx_ob30, sx_ob31, sx_ob32, sx_ob33, sx_ob34, sx_ob35, sx_ob36, sx_fv0_0, sx_fv0_1, sx_fv0_2, sx_fv0_3, sx_fv0_4, sx_fv0_5, sx_fv1_0, sx_fv1_1, sx_fv1_2, sx_fv3_0, sx_fv3_1, sx_fv3_2, sx_fv3_3, sx_fv3_4, sx_fv7_0, sx_fv7_1, sx_fv7_2, sx_fv7_3, sx_fv7_4, sx_fv7_5, sx_fv7_6, sx_fv7_7, sx_fv7_8, sx_fv7_9, sx_fv7_10, sx_fv9_0, sx_fv9_1, sx_fv9_2, sx_fv9_3, sx_fv11_0, sx_fv11_1, sx_fv11_2, sx_fv11_3, sx_fv11_4, sx_fv11_5, sx_fv11_6, sx_fv15_0, sx_fv15_1, sx_fv15_2, sx_fv15_3, sx_fv15_4, sx_fv15_5, sx_fv19_0, sx_fv19_1, sx_fv19_2, sx_fv19_3, sx_fv19_4, sx_fv19_5, sx_fv19_6, sx_fv24_0, sx_fv24_1, sx_fv24_2, sx_fv24_3, sx_fv24_4, sx_fv24_5, sx_fv24_6, sx_fv24_7, sx_fv24_8, sx_fv24_9, sx_fv24_10, sx_fv24_11, sx_fv24_12, sx_fv24_13, sx_fv24_14, sx_fv24_15, sx_fv24_16, sx_fv24_17, sx_fv24_18, sx_fvS_0, sx_fvS_1, sx_fvS_2, sx_fvS_3, sx_fvS_4, sx_fvS_5, sx_fvS_6, sx_fvS_7, sx_fvS_8, sx_fvS_9, sx_ar2, sx_ar4, sx_ar5, sx_ar6, sx_ar8, sx_ar10, sx_ar12, sx_ar13, sx_ar14, sx_ar16, sx_ar17, sx_ar18, sx_ar20, sx_ar21, sx_ar22, sx_ar23, sx_ar25, sx_ar26, sx_ar27, sx_ar28, sx_ar29, sx_ar30, sx_ar31, sx_ar32, sx_ar33, sx_ar34, sx_ar35, sx_ar36, sy_ob_S, sy_ob_W, sy_ar_W, sx_if0, sx_if1, sx_ie0, sx_em, Classical.not_not, sx_cle, sx_clt, sx_cge, sx_cgt, sx_ceq, Nat.reduceLT, Nat.reduceLeDiff, Nat.reduceAdd, Nat.reduceSub, Nat.reduceEqDiff, reduceIte, List.length_cons, List.length_nil, true_and, and_true, and_self, Bool.false_eq_true, true_implies, not_true_eq_false, not_false_eq_true, false_implies, implies_true, ne_eq, reduceCtorEq, Option.some.injEq, false_and, and_false, Int.reduceNeg, Int.reduceToNat, Int.reduceLT, Int.reduceLE, Int.reduceEq, Int.reduceAdd, Int.reduceSub, Int.reduceMul, or_false, false_or, or_true, true_or, forall_const, Int.toNat_natCast, Int.toNat_zero, Int.toNat_one, Nat.zero_add, or_self, Int.neg_eq_zero]
  obtain ⟨hm, h⟩ := h
  by_cases hC : 0 ≤ f ∧ f < m_tot st
  · simp only [if_pos hC] at h
    (repeat' (first | assumption | apply And.intro | intro _)) <;> first | omega | (exfalso; omega) | contradiction | exact hm
  · simp only [if_neg hC] at h
    (repeat' (first | assumption | apply And.intro | intro _)) <;> first | omega | (exfalso; omega) | contradiction | exact hm
def sp_9_figure (ns : Nat) : sy_Sp := sy_m2 24 fun f w st post => m_ok ns st ∧ post (some (.inl (true, if (0 ≤ f ∧ f < m_tot st) ∧ (0 ≤ w ∧ w ≤ 3) then m_fg st f w.toNat else -1000000))) st
def ct_9_figure (ns q : Nat) : Option (Bool × Nat × sy_Sp) := match q with
  | 69 => some (true, 3, sp_9_is ns)
  | 93 => some (false, 2, sp_9_isFigure ns)
  | 96 => some (false, 3, sp_9_part ns)
  | _ => none
abbrev M_9_figure (ns : Nat) : sy_M := Mk_9_figure (ct_9_figure ns)
theorem cx_9_figure_69 {ns : Nat} {v1 v2 v3 : sy_V} {r : List sy_V} {s : sy_S} {f : List sy_V → sy_S → Prop} : sy_call true (ct_9_figure ns 69) (v3 :: v2 :: v1 :: r) s f = (sy_wd r ≤ 8 ∧ (sy_fit v3 ∧ sy_fit v2 ∧ sy_fit v1) ∧ sp_9_is ns [sy_kn v1, sy_kn v2, sy_kn v3] s (fun q t => f (q.toList ++ r) t)) := sx_call3
theorem cx_9_figure_93 {ns : Nat} {v1 v2 : sy_V} {r : List sy_V} {s : sy_S} {f : List sy_V → sy_S → Prop} : sy_call false (ct_9_figure ns 93) (v2 :: v1 :: r) s f = (sy_wd r ≤ 8 ∧ (sy_fit v2 ∧ sy_fit v1) ∧ sp_9_isFigure ns [sy_kn v1, sy_kn v2] s (fun q t => f (q.toList ++ r) t)) := sx_call2
theorem cx_9_figure_96 {ns : Nat} {v1 v2 v3 : sy_V} {r : List sy_V} {s : sy_S} {f : List sy_V → sy_S → Prop} : sy_call false (ct_9_figure ns 96) (v3 :: v2 :: v1 :: r) s f = (sy_wd r ≤ 8 ∧ (sy_fit v3 ∧ sy_fit v2 ∧ sy_fit v1) ∧ sp_9_part ns [sy_kn v1, sy_kn v2, sy_kn v3] s (fun q t => f (q.toList ++ r) t)) := sx_call3
theorem mv_9_figure (ns : Nat) : sy_MV c_9_figure y_9_figure.cls (some .int) (M_9_figure ns) := ⟨tv_9_figure, ff_9_ok, ki_9_ok, kl_9_ok⟩
abbrev rm_9_figure : Room := { frames := 2, cells := 0, slots := 0, locals := 41 }
theorem iw_9_isFigure : Cond.code y_9_isFigure c_9_isFigure 2 (some .boolean) ∈ sy_tb ∧ Cond.initialized y_9_isFigure.cls ∈ sy_tb ∧ (y_9_isFigure.cls ≠ "java/lang/invoke/MethodHandle" ∧ y_9_isFigure.cls ≠ "java/lang/invoke/VarHandle" ∧ (parseMethodDescriptor y_9_isFigure.desc).map (fun d => d.parameters.length) = some 1) := ⟨sy_inx 921 (by decide +kernel) (by decide +kernel), sy_inx 53 (by decide +kernel) (by decide +kernel), by decide +kernel⟩
theorem ii_9_isFigure : Cond.instanceMethod y_9_isFigure ∈ sy_tb ∧ Cond.selects y_9_isFigure.cls y_9_isFigure y_9_isFigure ∈ sy_tb := ⟨sy_inx 920 (by decide +kernel) (by decide +kernel), sy_inx 29 (by decide +kernel) (by decide +kernel)⟩
theorem iw_9_part : Cond.code y_9_part c_9_part 5 (some .int) ∈ sy_tb ∧ Cond.initialized y_9_part.cls ∈ sy_tb ∧ (y_9_part.cls ≠ "java/lang/invoke/MethodHandle" ∧ y_9_part.cls ≠ "java/lang/invoke/VarHandle" ∧ (parseMethodDescriptor y_9_part.desc).map (fun d => d.parameters.length) = some 2) := ⟨sy_inx 926 (by decide +kernel) (by decide +kernel), sy_inx 53 (by decide +kernel) (by decide +kernel), by decide +kernel⟩
theorem ii_9_part : Cond.instanceMethod y_9_part ∈ sy_tb ∧ Cond.selects y_9_part.cls y_9_part y_9_part ∈ sy_tb := ⟨sy_inx 925 (by decide +kernel) (by decide +kernel), sy_inx 30 (by decide +kernel) (by decide +kernel)⟩
theorem co_9_figure (l : Launch) : sy_calls l rm_9_figure y_9_figure.cls c_9_figure 3 (fun ns => (M_9_figure ns).2.2.2.2.1) := by
  intro p e s m args below meth c rt wd ad ns A Q X hA q b n sp h
  replace h : ct_9_figure ns q = some (b, n, sp) := h
  unfold ct_9_figure at h
  split at h
  · cases h; exact sy_coS X hA (mc_9_is l) ⟨iw_9_is.1, iw_9_is.2.1, iw_9_is.2.2, ⟨by decide, by decide⟩, rfl, rfl⟩ (sy_inx 859 (by decide +kernel) (by decide +kernel)) is_9_is
  · cases h; exact sy_coV (ci := 9) X hA (mc_9_isFigure l) ⟨iw_9_isFigure.1, iw_9_isFigure.2.1, iw_9_isFigure.2.2, ⟨by decide, by decide⟩, rfl, rfl⟩ (sy_inx 918 (by decide +kernel) (by decide +kernel)) ii_9_isFigure.1 ii_9_isFigure.2 (rc_9_isFigure ns) ⟨_, rfl, rfl⟩
  · cases h; exact sy_coV (ci := 9) X hA (mc_9_part l) ⟨iw_9_part.1, iw_9_part.2.1, iw_9_part.2.2, ⟨by decide, by decide⟩, rfl, rfl⟩ (sy_inx 923 (by decide +kernel) (by decide +kernel)) ii_9_part.1 ii_9_part.2 (rc_9_part ns) ⟨_, rfl, rfl⟩
  · cases h
theorem rc_9_figure (ns : Nat) (as : List sy_V) (st : sy_S) (post : sy_R) (h : sp_9_figure ns as st post) : ∃ b as', as = .inr (.inr (some (some b))) :: as' ∧ sy_ob b = some 9 := sy_m2_r rfl as st post h
theorem mc_9_figure (l : Launch) : sy_MC l y_9_figure c_9_figure 3 (some .int) rm_9_figure sp_9_figure := by
  refine sy_meth M_9_figure (by decide +kernel) mv_9_figure (co_9_figure l) ?_
  intro ns as st post WA h hok hrg ⟨hgo0, hin, hwk⟩
  have hgo : ∀ (n pc : Nat) (L k : List sy_V) (st : sy_S), rn_9_figure ns (ct_9_figure ns) post WA n pc L k st → WA pc L k st := fun n pc L k st h => hgo0 [] n pc L k st h
  replace h := sy_m2_e h hok
  obtain ⟨f, w, rfl, hf, hw, h⟩ := h
  refine ⟨Nat.le_of_ble_eq_true rfl, ?_⟩
  show WA 0 [.inr (.inr (some (some 24))), .inl (true, f), .inl (true, w)] [] st
  refine hgo 100 _ _ _ _ ?_
  simp -implicitDefEqProofs only [↓rx_9_figure_0, ↓rx_9_figure_1, ↓rx_9_figure_2, ↓rx_9_figure_5, ↓rx_9_figure_8, ↓rx_9_figure_9, ↓rx_9_figure_10, ↓rx_9_figure_11, ↓rx_9_figure_14, ↓rx_9_figure_17, ↓rx_9_figure_19, ↓rx_9_figure_22, ↓rx_9_figure_23, ↓rx_9_figure_24, ↓rx_9_figure_25, ↓rx_9_figure_28, ↓cx_9_figure_69, ↓cx_9_figure_93, ↓cx_9_figure_96, sp_9_is, sp_9_isFigure, sp_9_part, ↓sx_s1, ↓sx_s2, ↓sx_s3, ↓sx_s4, ↓sx_s5, ↓sx_s6, ↓sx_m0, ↓sx_m1, ↓sx_m2, ↓sx_m3, ↓sx_m4, ↓sx_m5, ↓sx_m6, ↓sx_k0_, ↓sx_k1_, ↓sx_k2_, ↓sx_k3_, ↓sx_k4_, ↓sx_k5_, ↓sx_k6_, ↓sx_sLL, ↓sx_sAI, ↓sx_mLL, ↓sx_mIIL, ↓sx_mIILL, ↓sx_mIILLL, ↓sx_qS, ↓sx_qSI, ↓sx_qSIII, sx_rit, sx_rif, sx_rlt, sx_rlf, sx_b0, sx_b1, sx_o0, sx_o1i, sx_o1a, sx_o1l, sx_o2, sx_g0, sx_g1, sx_k1, sx_k2, sx_k3, sx_f1, sx_f2, sx_f3, sx_w0, sx_w1, sx_w2, sx_w3, sx_ts, sx_tn, sx_up, sx_nS1, sx_nS2, sx_nW1, sx_nW2, sx_SW, sx_WS, sy_nS_inj, sy_nW_inj, sx_ob0, sx_ob1, sx_ob2, sx_ob3, sx_ob4, sx_ob5, sx_ob6, sx_ob7, sx_ob8, sx_ob9, sx_ob10, sx_ob11, sx_ob12, sx_ob13, sx_ob14, sx_ob15, sx_ob16, sx_ob17, sx_ob18, sx_ob19, sx_ob20, sx_ob21, sx_ob22, sx_ob23, sx_ob24, sx_ob25, sx_ob26, sx_ob27, sx_ob28, sx_ob29, sx_ob30, sx_ob31, sx_ob32, sx_ob33, sx_ob34, sx_ob35, sx_ob36, sx_fv0_0, sx_fv0_1, sx_fv0_2, sx_fv0_3, sx_fv0_4, sx_fv0_5, sx_fv1_0, sx_fv1_1, sx_fv1_2, sx_fv3_0, sx_fv3_1, sx_fv3_2, sx_fv3_3, sx_fv3_4, sx_fv7_0, sx_fv7_1, sx_fv7_2, sx_fv7_3, sx_fv7_4, sx_fv7_5, sx_fv7_6, sx_fv7_7, sx_fv7_8, sx_fv7_9, sx_fv7_10, sx_fv9_0, sx_fv9_1, sx_fv9_2, sx_fv9_3, sx_fv11_0, sx_fv11_1, sx_fv11_2, sx_fv11_3, sx_fv11_4, sx_fv11_5, sx_fv11_6, sx_fv15_0, sx_fv15_1, sx_fv15_2, sx_fv15_3, sx_fv15_4, sx_fv15_5, sx_fv19_0, sx_fv19_1, sx_fv19_2, sx_fv19_3, sx_fv19_4, sx_fv19_5, sx_fv19_6, sx_fv24_0, sx_fv24_1, sx_fv24_2, sx_fv24_3, sx_fv24_4, sx_fv24_5, sx_fv24_6, sx_fv24_7, sx_fv24_8, sx_fv24_9, sx_fv24_10, sx_fv24_11, sx_fv24_12, sx_fv24_13, sx_fv24_14, sx_fv24_15, sx_fv24_16, sx_fv24_17, sx_fv24_18, sx_fvS_0, sx_fvS_1, sx_fvS_2, sx_fvS_3, sx_fvS_4, sx_fvS_5, sx_fvS_6, sx_fvS_7, sx_fvS_8, sx_fvS_9, sx_ar2, sx_ar4, sx_ar5, sx_ar6, sx_ar8, sx_ar10, sx_ar12, sx_ar13, sx_ar14, sx_ar16, sx_ar17, sx_ar18, sx_ar20, sx_ar21, sx_ar22, sx_ar23, sx_ar25, sx_ar26, sx_ar27, sx_ar28, sx_ar29, sx_ar30, sx_ar31, sx_ar32, sx_ar33, sx_ar34, sx_ar35, sx_ar36, sy_ob_S, sy_ob_W, sy_ar_W, sx_if0, sx_if1, sx_ie0, sx_em, Classical.not_not, sx_cle, sx_clt, sx_cge, sx_cgt, sx_ceq, Nat.reduceLT, Nat.reduceLeDiff, Nat.reduceAdd, Nat.reduceSub, Nat.reduceEqDiff, reduceIte, List.length_cons, List.length_nil, true_and, and_true, and_self, Bool.false_eq_true, true_implies, not_true_eq_false, not_false_eq_true, false_implies, implies_true, ne_eq, reduceCtorEq, Option.some.injEq, false_and, and_false, Int.reduceNeg, Int.reduceToNat, Int.reduceLT, Int.reduceLE, Int.reduceEq, Int.reduceAdd, Int.reduceSub, Int.reduceMul, or_false, false_or, or_true, true_or, forall_const, Int.toNat_natCast, Int.toNat_zero, Int.toNat_one, Nat.zero_add, or_self, Int.neg_eq_zero]
  obtain ⟨hm, h⟩ := h
  have := m_tot_r hm.2.2
  by_cases hC : (0 ≤ f ∧ f < m_tot st) ∧ (0 ≤ w ∧ w ≤ 3)
  · simp only [if_pos hC] at h
    (repeat' (first | assumption | apply And.intro | intro _)) <;> first | omega | (exfalso; omega) | contradiction | exact hm
  · simp only [if_neg hC] at h
    (repeat' (first | assumption | apply And.intro | intro _)) <;> first | omega | (exfalso; omega) | contradiction | exact hm
/-- the half width against q, as the model tells it -/
def xg_h (w h d q : Int) : Int := if q < 0 then 1 else if w * w * (h * h - d * d) < q * q * h * h then -1 else if q * q * h * h < w * w * (h * h - d * d) then 1 else 0
theorem xg_h_le (w h d q : Int) : (xg_h w h d q ≤ 0) = (xg_le w h d q = true) := by
  unfold xg_h xg_le
  rw [decide_eq_true_eq]
  apply propext
  split
  · omega
  · split
    · omega
    · split <;> omega
theorem xg_h_gt (w h d q : Int) : (0 < xg_h w h d q) = ¬ (xg_le w h d q = true) := by
  rw [← xg_h_le]
  exact propext (by omega)
theorem xg_h_lt (w h d q : Int) : (xg_h w h d q < 0) = ¬ (xg_ge w h d q = true) := by
  unfold xg_h xg_ge
  rw [decide_eq_true_eq]
  apply propext
  split
  · omega
  · split
    · omega
    · split <;> omega
theorem xg_sq {a A : Int} (h : -A ≤ a ∧ a ≤ A) : 0 ≤ a * a ∧ a * a ≤ A * A := by
  have := xg_mul_le h h
  have h0 : 0 ≤ a * a := by
    rcases (show 0 ≤ a ∨ a ≤ 0 by omega) with q | q
    · exact Int.mul_nonneg q q
    · exact Int.mul_nonneg_of_nonpos_of_nonpos q q
  omega
/-- the numbers of the half width stay in range -/
theorem xg_rng {w h d q : Int} (hw : 1 ≤ w ∧ w ≤ 2000) (hh : 1 ≤ h ∧ h ≤ 2000) (hd : -11000 ≤ d ∧ d ≤ 11000) (hq : -50000 ≤ q ∧ q ≤ 50000) :
    (-484000000000000 ≤ w * w * (h * h - d * d) ∧ w * w * (h * h - d * d) ≤ 484000000000000) ∧ 0 ≤ q * q * h * h ∧ q * q * h * h ≤ 10000000000000000 := by
  have w2 := xg_sq (a := w) (A := 2000) (by omega)
  have h2 := xg_sq (a := h) (A := 2000) (by omega)
  have d2 := xg_sq (a := d) (A := 11000) (by omega)
  have q2 := xg_sq (a := q) (A := 50000) (by omega)
  have e := xg_mul_le (a := w * w) (b := h * h - d * d) (A := 4000000) (B := 121000000) (by omega) (by omega)
  have f := xg_mul_le (a := q * q) (b := h * h) (A := 2500000000) (B := 4000000) (by omega) (by omega)
  have g := Int.mul_nonneg q2.1 h2.1
  have ee : q * q * h * h = q * q * (h * h) := by rw [Int.mul_assoc]
  omega
def sp_9_half (ns : Nat) : sy_Sp := sy_mIIL 24 fun f y q st post => (m_ok ns st ∧ (0 ≤ f ∧ f < 4096) ∧ (-2000 ≤ y ∧ y ≤ 2000) ∧ -50000 ≤ q ∧ q ≤ 50000) ∧ post (some (.inl (true, xg_h (m_fg st f 2) (m_fg st f 3) (y - m_fg st f 1) q))) st
def ct_9_half (ns q : Nat) : Option (Bool × Nat × sy_Sp) := match q with
  | 96 => some (false, 3, sp_9_part ns)
  | _ => none
abbrev M_9_half (ns : Nat) : sy_M := Mk_9_half (ct_9_half ns)
theorem cx_9_half_96 {ns : Nat} {v1 v2 v3 : sy_V} {r : List sy_V} {s : sy_S} {f : List sy_V → sy_S → Prop} : sy_call false (ct_9_half ns 96) (v3 :: v2 :: v1 :: r) s f = (sy_wd r ≤ 8 ∧ (sy_fit v3 ∧ sy_fit v2 ∧ sy_fit v1) ∧ sp_9_part ns [sy_kn v1, sy_kn v2, sy_kn v3] s (fun q t => f (q.toList ++ r) t)) := sx_call3
theorem mv_9_half (ns : Nat) : sy_MV c_9_half y_9_half.cls (some .int) (M_9_half ns) := ⟨tv_9_half, ff_9_ok, ki_9_ok, kl_9_ok⟩
abbrev rm_9_half : Room := { frames := 1, cells := 0, slots := 0, locals := 24 }
theorem co_9_half (l : Launch) : sy_calls l rm_9_half y_9_half.cls c_9_half 15 (fun ns => (M_9_half ns).2.2.2.2.1) := by
  intro p e s m args below meth c rt wd ad ns A Q X hA q b n sp h
  replace h : ct_9_half ns q = some (b, n, sp) := h
  unfold ct_9_half at h
  split at h
  · cases h; exact sy_coV (ci := 9) X hA (mc_9_part l) ⟨iw_9_part.1, iw_9_part.2.1, iw_9_part.2.2, ⟨by decide, by decide⟩, rfl, rfl⟩ (sy_inx 923 (by decide +kernel) (by decide +kernel)) ii_9_part.1 ii_9_part.2 (rc_9_part ns) ⟨_, rfl, rfl⟩
  · cases h
theorem rc_9_half (ns : Nat) (as : List sy_V) (st : sy_S) (post : sy_R) (h : sp_9_half ns as st post) : ∃ b as', as = .inr (.inr (some (some b))) :: as' ∧ sy_ob b = some 9 := sy_mIIL_r rfl as st post h
theorem mc_9_half (l : Launch) : sy_MC l y_9_half c_9_half 15 (some .int) rm_9_half sp_9_half := by
  refine sy_meth M_9_half (by decide +kernel) mv_9_half (co_9_half l) ?_
  intro ns as st post WA h hok hrg ⟨hgo0, hin, hwk⟩
  have hgo : ∀ (n pc : Nat) (L k : List sy_V) (st : sy_S), rn_9_half ns (ct_9_half ns) post WA n pc L k st → WA pc L k st := fun n pc L k st h => hgo0 [] n pc L k st h
  replace h := sy_mIIL_e h hok
  obtain ⟨f, y, q, rfl, hf, hy, hq, h⟩ := h
  refine ⟨Nat.le_of_ble_eq_true rfl, ?_⟩
  show WA 0 [.inr (.inr (some (some 24))), .inl (true, f), .inl (true, y), .inr (.inl (true, q)), .inr (.inr none), .inr (.inr none), .inr (.inr none), .inr (.inr none), .inr (.inr none), .inr (.inr none), .inr (.inr none), .inr (.inr none), .inr (.inr none), .inr (.inr none), .inr (.inr none)] [] st
  refine hgo 200 _ _ _ _ ?_
  simp -implicitDefEqProofs only [↓rx_9_half_0, ↓rx_9_half_1, ↓rx_9_half_2, ↓rx_9_half_3, ↓rx_9_half_6, ↓rx_9_half_7, ↓rx_9_half_8, ↓rx_9_half_9, ↓rx_9_half_10, ↓rx_9_half_11, ↓rx_9_half_14, ↓rx_9_half_15, ↓rx_9_half_17, ↓rx_9_half_18, ↓rx_9_half_19, ↓rx_9_half_20, ↓rx_9_half_23, ↓rx_9_half_24, ↓rx_9_half_26, ↓rx_9_half_27, ↓rx_9_half_28, ↓rx_9_half_29, ↓rx_9_half_30, ↓rx_9_half_33, ↓rx_9_half_34, ↓rx_9_half_35, ↓rx_9_half_37, ↓rx_9_half_39, ↓rx_9_half_41, ↓rx_9_half_42, ↓rx_9_half_44, ↓rx_9_half_46, ↓rx_9_half_47, ↓rx_9_half_49, ↓rx_9_half_51, ↓rx_9_half_52, ↓rx_9_half_53, ↓rx_9_half_54, ↓rx_9_half_56, ↓rx_9_half_57, ↓rx_9_half_58, ↓rx_9_half_59, ↓rx_9_half_61, ↓rx_9_half_62, ↓rx_9_half_64, ↓rx_9_half_65, ↓rx_9_half_67, ↓rx_9_half_69, ↓rx_9_half_71, ↓rx_9_half_72, ↓rx_9_half_75, ↓rx_9_half_76, ↓rx_9_half_79, ↓rx_9_half_81, ↓rx_9_half_83, ↓rx_9_half_84, ↓rx_9_half_87, ↓rx_9_half_88, ↓rx_9_half_91, ↓rx_9_half_92, ↓cx_9_half_96, sp_9_part, ↓sx_s1, ↓sx_s2, ↓sx_s3, ↓sx_s4, ↓sx_s5, ↓sx_s6, ↓sx_m0, ↓sx_m1, ↓sx_m2, ↓sx_m3, ↓sx_m4, ↓sx_m5, ↓sx_m6, ↓sx_k0_, ↓sx_k1_, ↓sx_k2_, ↓sx_k3_, ↓sx_k4_, ↓sx_k5_, ↓sx_k6_, ↓sx_sLL, ↓sx_sAI, ↓sx_mLL, ↓sx_mIIL, ↓sx_mIILL, ↓sx_mIILLL, ↓sx_qS, ↓sx_qSI, ↓sx_qSIII, sx_rit, sx_rif, sx_rlt, sx_rlf, sx_b0, sx_b1, sx_o0, sx_o1i, sx_o1a, sx_o1l, sx_o2, sx_g0, sx_g1, sx_k1, sx_k2, sx_k3, sx_f1, sx_f2, sx_f3, sx_w0, sx_w1, sx_w2, sx_w3, sx_ts, sx_tn, sx_up, sx_nS1, sx_nS2, sx_nW1, sx_nW2, sx_SW, sx_WS, sy_nS_inj, sy_nW_inj, sx_ob0, sx_ob1, sx_ob2, sx_ob3, sx_ob4, sx_ob5, sx_ob6, sx_ob7, sx_ob8, sx_ob9, sx_ob10, sx_ob11, sx_ob12, sx_ob13, sx_ob14, sx_ob15, sx_ob16, sx_ob17, sx_ob18, sx_ob19, sx_ob20, sx_ob21, sx_ob22, sx_ob23, sx_ob24, sx_ob25, sx_ob26, sx_ob27, sx_ob28, sx_ob29, sx_ob30, sx_ob31, sx_ob32, sx_ob33, sx_ob34, sx_ob35, sx_ob36, sx_fv0_0, sx_fv0_1, sx_fv0_2, sx_fv0_3, sx_fv0_4, sx_fv0_5, sx_fv1_0, sx_fv1_1, sx_fv1_2, sx_fv3_0, sx_fv3_1, sx_fv3_2, sx_fv3_3, sx_fv3_4, sx_fv7_0, sx_fv7_1, sx_fv7_2, sx_fv7_3, sx_fv7_4, sx_fv7_5, sx_fv7_6, sx_fv7_7, sx_fv7_8, sx_fv7_9, sx_fv7_10, sx_fv9_0, sx_fv9_1, sx_fv9_2, sx_fv9_3, sx_fv11_0, sx_fv11_1, sx_fv11_2, sx_fv11_3, sx_fv11_4, sx_fv11_5, sx_fv11_6, sx_fv15_0, sx_fv15_1, sx_fv15_2, sx_fv15_3, sx_fv15_4, sx_fv15_5, sx_fv19_0, sx_fv19_1, sx_fv19_2, sx_fv19_3, sx_fv19_4, sx_fv19_5, sx_fv19_6, sx_fv24_0, sx_fv24_1, sx_fv24_2, sx_fv24_3, sx_fv24_4, sx_fv24_5, sx_fv24_6, sx_fv24_7, sx_fv24_8, sx_fv24_9, sx_fv24_10, sx_fv24_11, sx_fv24_12, sx_fv24_13, sx_fv24_14, sx_fv24_15, sx_fv24_16, sx_fv24_17, sx_fv24_18, sx_fvS_0, sx_fvS_1, sx_fvS_2, sx_fvS_3, sx_fvS_4, sx_fvS_5, sx_fvS_6, sx_fvS_7, sx_fvS_8, sx_fvS_9, sx_ar2, sx_ar4, sx_ar5, sx_ar6, sx_ar8, sx_ar10, sx_ar12, sx_ar13, sx_ar14, sx_ar16, sx_ar17, sx_ar18, sx_ar20, sx_ar21, sx_ar22, sx_ar23, sx_ar25, sx_ar26, sx_ar27, sx_ar28, sx_ar29, sx_ar30, sx_ar31, sx_ar32, sx_ar33, sx_ar34, sx_ar35, sx_ar36, sy_ob_S, sy_ob_W, sy_ar_W, sx_if0, sx_if1, sx_ie0, sx_em, Classical.not_not, sx_cle, sx_clt, sx_cge, sx_cgt, sx_ceq, Nat.reduceLT, Nat.reduceLeDiff, Nat.reduceAdd, Nat.reduceSub, Nat.reduceEqDiff, reduceIte, List.length_cons, List.length_nil, true_and, and_true, and_self, Bool.false_eq_true, true_implies, not_true_eq_false, not_false_eq_true, false_implies, implies_true, ne_eq, reduceCtorEq, Option.some.injEq, false_and, and_false, Int.reduceNeg, Int.reduceToNat, Int.reduceLT, Int.reduceLE, Int.reduceEq, Int.reduceAdd, Int.reduceSub, Int.reduceMul, or_false, false_or, or_true, true_or, forall_const, Int.toNat_natCast, Int.toNat_zero, Int.toNat_one, Nat.zero_add, or_self, Int.neg_eq_zero]
  obtain ⟨⟨hm, hf1, hy1, hq1⟩, h⟩ := h
  have hr := xg_f_rng hm.2.2 f
  have e1 : (1 : Int).toNat = 1 := rfl
  have e2 : (2 : Int).toNat = 2 := rfl
  have e3 : (3 : Int).toNat = 3 := rfl
  have hR := xg_rng (w := m_fg st f 2) (h := m_fg st f 3) (d := y - m_fg st f 1) (q := q) hr.2.2.1 hr.2.2.2 (by unfold m_fg; omega) hq1
  unfold xg_h at h
  have hd : -11000 ≤ y - m_fg st f 1 ∧ y - m_fg st f 1 ≤ 11000 := by unfold m_fg; omega
  generalize m_fg st f 2 * m_fg st f 2 * (m_fg st f 3 * m_fg st f 3 - (y - m_fg st f 1) * (y - m_fg st f 1)) = E at *
  generalize q * q * m_fg st f 3 * m_fg st f 3 = O at *
  refine ⟨fun c0 => ⟨⟨hm, hf1⟩, ⟨hm, hf1⟩, ⟨hm, hf1⟩, ⟨by omega, by omega⟩, ⟨by omega, by omega⟩, ⟨by omega, by omega⟩, fun c1 => ⟨fun c2 => ?_, fun c2 => ?_⟩, fun c1 => ?_⟩, fun c0 => ?_⟩
  · rwa [if_neg (by omega), if_neg (by omega), if_neg (by omega)] at h
  · rwa [if_neg (by omega), if_neg (by omega), if_pos (by omega)] at h
  · rwa [if_neg (by omega), if_pos (by omega)] at h
  · rwa [if_pos (by omega)] at h
def sp_9_goes (ns : Nat) : sy_Sp := sy_m2 24 fun f y st post => (m_ok ns st ∧ (0 ≤ f ∧ f < 4096) ∧ (-2000 ≤ y ∧ y ≤ 2000)) ∧ post (some (.inl (true, if xg_on (m_fg st f 3) (y - m_fg st f 1) = true then 1 else 0))) st
def ct_9_goes (ns q : Nat) : Option (Bool × Nat × sy_Sp) := match q with
  | 96 => some (false, 3, sp_9_part ns)
  | _ => none
abbrev M_9_goes (ns : Nat) : sy_M := Mk_9_goes (ct_9_goes ns)
theorem cx_9_goes_96 {ns : Nat} {v1 v2 v3 : sy_V} {r : List sy_V} {s : sy_S} {f : List sy_V → sy_S → Prop} : sy_call false (ct_9_goes ns 96) (v3 :: v2 :: v1 :: r) s f = (sy_wd r ≤ 8 ∧ (sy_fit v3 ∧ sy_fit v2 ∧ sy_fit v1) ∧ sp_9_part ns [sy_kn v1, sy_kn v2, sy_kn v3] s (fun q t => f (q.toList ++ r) t)) := sx_call3
theorem mv_9_goes (ns : Nat) : sy_MV c_9_goes y_9_goes.cls (some .boolean) (M_9_goes ns) := ⟨tv_9_goes, ff_9_ok, ki_9_ok, kl_9_ok⟩
abbrev rm_9_goes : Room := { frames := 1, cells := 0, slots := 0, locals := 24 }
theorem co_9_goes (l : Launch) : sy_calls l rm_9_goes y_9_goes.cls c_9_goes 5 (fun ns => (M_9_goes ns).2.2.2.2.1) := by
  intro p e s m args below meth c rt wd ad ns A Q X hA q b n sp h
  replace h : ct_9_goes ns q = some (b, n, sp) := h
  unfold ct_9_goes at h
  split at h
  · cases h; exact sy_coV (ci := 9) X hA (mc_9_part l) ⟨iw_9_part.1, iw_9_part.2.1, iw_9_part.2.2, ⟨by decide, by decide⟩, rfl, rfl⟩ (sy_inx 923 (by decide +kernel) (by decide +kernel)) ii_9_part.1 ii_9_part.2 (rc_9_part ns) ⟨_, rfl, rfl⟩
  · cases h
theorem rc_9_goes (ns : Nat) (as : List sy_V) (st : sy_S) (post : sy_R) (h : sp_9_goes ns as st post) : ∃ b as', as = .inr (.inr (some (some b))) :: as' ∧ sy_ob b = some 9 := sy_m2_r rfl as st post h
theorem mc_9_goes (l : Launch) : sy_MC l y_9_goes c_9_goes 5 (some .boolean) rm_9_goes sp_9_goes := by
  refine sy_meth M_9_goes (by decide +kernel) mv_9_goes (co_9_goes l) ?_
  intro ns as st post WA h hok hrg ⟨hgo0, hin, hwk⟩
  have hgo : ∀ (n pc : Nat) (L k : List sy_V) (st : sy_S), rn_9_goes ns (ct_9_goes ns) post WA n pc L k st → WA pc L k st := fun n pc L k st h => hgo0 [] n pc L k st h
  replace h := sy_m2_e h hok
  obtain ⟨f, y, rfl, hf, hy, h⟩ := h
  refine ⟨Nat.le_of_ble_eq_true rfl, ?_⟩
  show WA 0 [.inr (.inr (some (some 24))), .inl (true, f), .inl (true, y), .inr (.inr none), .inr (.inr none)] [] st
  refine hgo 200 _ _ _ _ ?_
  simp -implicitDefEqProofs only [↓rx_9_goes_0, ↓rx_9_goes_1, ↓rx_9_goes_2, ↓rx_9_goes_3, ↓rx_9_goes_4, ↓rx_9_goes_7, ↓rx_9_goes_8, ↓rx_9_goes_9, ↓rx_9_goes_10, ↓rx_9_goes_11, ↓rx_9_goes_12, ↓rx_9_goes_13, ↓rx_9_goes_16, ↓rx_9_goes_17, ↓rx_9_goes_18, ↓rx_9_goes_21, ↓rx_9_goes_22, ↓rx_9_goes_23, ↓rx_9_goes_24, ↓rx_9_goes_25, ↓rx_9_goes_28, ↓rx_9_goes_29, ↓rx_9_goes_30, ↓rx_9_goes_33, ↓rx_9_goes_34, ↓rx_9_goes_37, ↓rx_9_goes_38, ↓cx_9_goes_96, sp_9_part, ↓sx_s1, ↓sx_s2, ↓sx_s3, ↓sx_s4, ↓sx_s5, ↓sx_s6, ↓sx_m0, ↓sx_m1, ↓sx_m2, ↓sx_m3, ↓sx_m4, ↓sx_m5, ↓sx_m6, ↓sx_k0_, ↓sx_k1_, ↓sx_k2_, ↓sx_k3_, ↓sx_k4_, ↓sx_k5_, ↓sx_k6_, ↓sx_sLL, ↓sx_sAI, ↓sx_mLL, ↓sx_mIIL, ↓sx_mIILL, ↓sx_mIILLL, ↓sx_qS, ↓sx_qSI, ↓sx_qSIII, sx_rit, sx_rif, sx_rlt, sx_rlf, sx_b0, sx_b1, sx_o0, sx_o1i, sx_o1a, sx_o1l, sx_o2, sx_g0, sx_g1, sx_k1, sx_k2, sx_k3, sx_f1, sx_f2, sx_f3, sx_w0, sx_w1, sx_w2, sx_w3, sx_ts, sx_tn, sx_up, sx_nS1, sx_nS2, sx_nW1, sx_nW2, sx_SW, sx_WS, sy_nS_inj, sy_nW_inj, sx_ob0, sx_ob1, sx_ob2, sx_ob3, sx_ob4, sx_ob5, sx_ob6, sx_ob7, sx_ob8, sx_ob9, sx_ob10, sx_ob11, sx_ob12, sx_ob13, sx_ob14, sx_ob15, sx_ob16, sx_ob17, sx_ob18, sx_ob19, sx_ob20, sx_ob21, sx_ob22, sx_ob23, sx_ob24, sx_ob25, sx_ob26, sx_ob27, sx_ob28, sx_ob29, sx_ob30, sx_ob31, sx_ob32, sx_ob33, sx_ob34, sx_ob35, sx_ob36, sx_fv0_0, sx_fv0_1, sx_fv0_2, sx_fv0_3, sx_fv0_4, sx_fv0_5, sx_fv1_0, sx_fv1_1, sx_fv1_2, sx_fv3_0, sx_fv3_1, sx_fv3_2, sx_fv3_3, sx_fv3_4, sx_fv7_0, sx_fv7_1, sx_fv7_2, sx_fv7_3, sx_fv7_4, sx_fv7_5, sx_fv7_6, sx_fv7_7, sx_fv7_8, sx_fv7_9, sx_fv7_10, sx_fv9_0, sx_fv9_1, sx_fv9_2, sx_fv9_3, sx_fv11_0, sx_fv11_1, sx_fv11_2, sx_fv11_3, sx_fv11_4, sx_fv11_5, sx_fv11_6, sx_fv15_0, sx_fv15_1, sx_fv15_2, sx_fv15_3, sx_fv15_4, sx_fv15_5, sx_fv19_0, sx_fv19_1, sx_fv19_2, sx_fv19_3, sx_fv19_4, sx_fv19_5, sx_fv19_6, sx_fv24_0, sx_fv24_1, sx_fv24_2, sx_fv24_3, sx_fv24_4, sx_fv24_5, sx_fv24_6, sx_fv24_7, sx_fv24_8, sx_fv24_9, sx_fv24_10, sx_fv24_11, sx_fv24_12, sx_fv24_13, sx_fv24_14, sx_fv24_15, sx_fv24_16, sx_fv24_17, sx_fv24_18, sx_fvS_0, sx_fvS_1, sx_fvS_2, sx_fvS_3, sx_fvS_4, sx_fvS_5, sx_fvS_6, sx_fvS_7, sx_fvS_8, sx_fvS_9, sx_ar2, sx_ar4, sx_ar5, sx_ar6, sx_ar8, sx_ar10, sx_ar12, sx_ar13, sx_ar14, sx_ar16, sx_ar17, sx_ar18, sx_ar20, sx_ar21, sx_ar22, sx_ar23, sx_ar25, sx_ar26, sx_ar27, sx_ar28, sx_ar29, sx_ar30, sx_ar31, sx_ar32, sx_ar33, sx_ar34, sx_ar35, sx_ar36, sy_ob_S, sy_ob_W, sy_ar_W, sx_if0, sx_if1, sx_ie0, sx_em, Classical.not_not, sx_cle, sx_clt, sx_cge, sx_cgt, sx_ceq, Nat.reduceLT, Nat.reduceLeDiff, Nat.reduceAdd, Nat.reduceSub, Nat.reduceEqDiff, reduceIte, List.length_cons, List.length_nil, true_and, and_true, and_self, Bool.false_eq_true, true_implies, not_true_eq_false, not_false_eq_true, false_implies, implies_true, ne_eq, reduceCtorEq, Option.some.injEq, false_and, and_false, Int.reduceNeg, Int.reduceToNat, Int.reduceLT, Int.reduceLE, Int.reduceEq, Int.reduceAdd, Int.reduceSub, Int.reduceMul, or_false, false_or, or_true, true_or, forall_const, Int.toNat_natCast, Int.toNat_zero, Int.toNat_one, Nat.zero_add, or_self, Int.neg_eq_zero]
  obtain ⟨⟨hm, hf1, hy1⟩, h⟩ := h
  have hr := xg_f_rng hm.2.2 f
  have hd : -11000 ≤ y - m_fg st f 1 ∧ y - m_fg st f 1 ≤ 11000 := by unfold m_fg; omega
  have hh : 1 ≤ m_fg st f 3 ∧ m_fg st f 3 ≤ 2000 := hr.2.2.2
  unfold xg_on at h
  simp only [decide_eq_true_eq] at h
  by_cases hC : -m_fg st f 3 < y - m_fg st f 1 ∧ y - m_fg st f 1 < m_fg st f 3
  · rw [if_pos hC] at h
    (repeat' (first | assumption | apply And.intro | intro _)) <;> first | omega | (exfalso; omega) | contradiction
  · rw [if_neg hC] at h
    (repeat' (first | assumption | apply And.intro | intro _)) <;> first | omega | (exfalso; omega) | contradiction
def sp_9_agree (ns : Nat) : sy_Sp := sy_m2 24 fun f s st post => (m_ok ns st ∧ (0 ≤ f ∧ f < 4096) ∧ (0 ≤ s ∧ s < 16)) ∧ post (some (.inl (true, if m_ag st f s.toNat = true then 1 else 0))) st
def ct_9_agree (ns q : Nat) : Option (Bool × Nat × sy_Sp) := match q with
  | 96 => some (false, 3, sp_9_part ns)
  | 99 => some (false, 3, sp_9_goes ns)
  | 103 => some (false, 3, sp_9_end ns)
  | 106 => some (false, 4, sp_9_half ns)
  | _ => none
abbrev M_9_agree (ns : Nat) : sy_M := Mk_9_agree (ct_9_agree ns)
theorem cx_9_agree_96 {ns : Nat} {v1 v2 v3 : sy_V} {r : List sy_V} {s : sy_S} {f : List sy_V → sy_S → Prop} : sy_call false (ct_9_agree ns 96) (v3 :: v2 :: v1 :: r) s f = (sy_wd r ≤ 8 ∧ (sy_fit v3 ∧ sy_fit v2 ∧ sy_fit v1) ∧ sp_9_part ns [sy_kn v1, sy_kn v2, sy_kn v3] s (fun q t => f (q.toList ++ r) t)) := sx_call3
theorem cx_9_agree_99 {ns : Nat} {v1 v2 v3 : sy_V} {r : List sy_V} {s : sy_S} {f : List sy_V → sy_S → Prop} : sy_call false (ct_9_agree ns 99) (v3 :: v2 :: v1 :: r) s f = (sy_wd r ≤ 8 ∧ (sy_fit v3 ∧ sy_fit v2 ∧ sy_fit v1) ∧ sp_9_goes ns [sy_kn v1, sy_kn v2, sy_kn v3] s (fun q t => f (q.toList ++ r) t)) := sx_call3
theorem cx_9_agree_103 {ns : Nat} {v1 v2 v3 : sy_V} {r : List sy_V} {s : sy_S} {f : List sy_V → sy_S → Prop} : sy_call false (ct_9_agree ns 103) (v3 :: v2 :: v1 :: r) s f = (sy_wd r ≤ 8 ∧ (sy_fit v3 ∧ sy_fit v2 ∧ sy_fit v1) ∧ sp_9_end ns [sy_kn v1, sy_kn v2, sy_kn v3] s (fun q t => f (q.toList ++ r) t)) := sx_call3
theorem cx_9_agree_106 {ns : Nat} {v1 v2 v3 v4 : sy_V} {r : List sy_V} {s : sy_S} {f : List sy_V → sy_S → Prop} : sy_call false (ct_9_agree ns 106) (v4 :: v3 :: v2 :: v1 :: r) s f = (sy_wd r ≤ 8 ∧ (sy_fit v4 ∧ sy_fit v3 ∧ sy_fit v2 ∧ sy_fit v1) ∧ sp_9_half ns [sy_kn v1, sy_kn v2, sy_kn v3, sy_kn v4] s (fun q t => f (q.toList ++ r) t)) := sx_call4
theorem mv_9_agree (ns : Nat) : sy_MV c_9_agree y_9_agree.cls (some .boolean) (M_9_agree ns) := ⟨tv_9_agree, ff_9_ok, ki_9_ok, kl_9_ok⟩
abbrev rm_9_agree : Room := { frames := 2, cells := 0, slots := 0, locals := 58 }
theorem iw_9_goes : Cond.code y_9_goes c_9_goes 5 (some .boolean) ∈ sy_tb ∧ Cond.initialized y_9_goes.cls ∈ sy_tb ∧ (y_9_goes.cls ≠ "java/lang/invoke/MethodHandle" ∧ y_9_goes.cls ≠ "java/lang/invoke/VarHandle" ∧ (parseMethodDescriptor y_9_goes.desc).map (fun d => d.parameters.length) = some 2) := ⟨sy_inx 938 (by decide +kernel) (by decide +kernel), sy_inx 53 (by decide +kernel) (by decide +kernel), by decide +kernel⟩
theorem ii_9_goes : Cond.instanceMethod y_9_goes ∈ sy_tb ∧ Cond.selects y_9_goes.cls y_9_goes y_9_goes ∈ sy_tb := ⟨sy_inx 937 (by decide +kernel) (by decide +kernel), sy_inx 32 (by decide +kernel) (by decide +kernel)⟩
theorem iw_9_end : Cond.code y_9_end c_9_end 3 (some .int) ∈ sy_tb ∧ Cond.initialized y_9_end.cls ∈ sy_tb ∧ (y_9_end.cls ≠ "java/lang/invoke/MethodHandle" ∧ y_9_end.cls ≠ "java/lang/invoke/VarHandle" ∧ (parseMethodDescriptor y_9_end.desc).map (fun d => d.parameters.length) = some 2) := ⟨sy_inx 942 (by decide +kernel) (by decide +kernel), sy_inx 53 (by decide +kernel) (by decide +kernel), by decide +kernel⟩
theorem ii_9_end : Cond.instanceMethod y_9_end ∈ sy_tb ∧ Cond.selects y_9_end.cls y_9_end y_9_end ∈ sy_tb := ⟨sy_inx 941 (by decide +kernel) (by decide +kernel), sy_inx 33 (by decide +kernel) (by decide +kernel)⟩
theorem iw_9_half : Cond.code y_9_half c_9_half 15 (some .int) ∈ sy_tb ∧ Cond.initialized y_9_half.cls ∈ sy_tb ∧ (y_9_half.cls ≠ "java/lang/invoke/MethodHandle" ∧ y_9_half.cls ≠ "java/lang/invoke/VarHandle" ∧ (parseMethodDescriptor y_9_half.desc).map (fun d => d.parameters.length) = some 3) := ⟨sy_inx 946 (by decide +kernel) (by decide +kernel), sy_inx 53 (by decide +kernel) (by decide +kernel), by decide +kernel⟩
theorem ii_9_half : Cond.instanceMethod y_9_half ∈ sy_tb ∧ Cond.selects y_9_half.cls y_9_half y_9_half ∈ sy_tb := ⟨sy_inx 945 (by decide +kernel) (by decide +kernel), sy_inx 34 (by decide +kernel) (by decide +kernel)⟩
theorem co_9_agree (l : Launch) : sy_calls l rm_9_agree y_9_agree.cls c_9_agree 6 (fun ns => (M_9_agree ns).2.2.2.2.1) := by
  intro p e s m args below meth c rt wd ad ns A Q X hA q b n sp h
  replace h : ct_9_agree ns q = some (b, n, sp) := h
  unfold ct_9_agree at h
  split at h
  · cases h; exact sy_coV (ci := 9) X hA (mc_9_part l) ⟨iw_9_part.1, iw_9_part.2.1, iw_9_part.2.2, ⟨by decide, by decide⟩, rfl, rfl⟩ (sy_inx 923 (by decide +kernel) (by decide +kernel)) ii_9_part.1 ii_9_part.2 (rc_9_part ns) ⟨_, rfl, rfl⟩
  · cases h; exact sy_coV (ci := 9) X hA (mc_9_goes l) ⟨iw_9_goes.1, iw_9_goes.2.1, iw_9_goes.2.2, ⟨by decide, by decide⟩, rfl, rfl⟩ (sy_inx 935 (by decide +kernel) (by decide +kernel)) ii_9_goes.1 ii_9_goes.2 (rc_9_goes ns) ⟨_, rfl, rfl⟩
  · cases h; exact sy_coV (ci := 9) X hA (mc_9_end l) ⟨iw_9_end.1, iw_9_end.2.1, iw_9_end.2.2, ⟨by decide, by decide⟩, rfl, rfl⟩ (sy_inx 939 (by decide +kernel) (by decide +kernel)) ii_9_end.1 ii_9_end.2 (rc_9_end ns) ⟨_, rfl, rfl⟩
  · cases h; exact sy_coV (ci := 9) X hA (mc_9_half l) ⟨iw_9_half.1, iw_9_half.2.1, iw_9_half.2.2, ⟨by decide, by decide⟩, rfl, rfl⟩ (sy_inx 943 (by decide +kernel) (by decide +kernel)) ii_9_half.1 ii_9_half.2 (rc_9_half ns) ⟨_, rfl, rfl⟩
  · cases h
theorem rc_9_agree (ns : Nat) (as : List sy_V) (st : sy_S) (post : sy_R) (h : sp_9_agree ns as st post) : ∃ b as', as = .inr (.inr (some (some b))) :: as' ∧ sy_ob b = some 9 := sy_m2_r rfl as st post h
theorem mc_9_agree (l : Launch) : sy_MC l y_9_agree c_9_agree 6 (some .boolean) rm_9_agree sp_9_agree := by
  refine sy_meth M_9_agree (by decide +kernel) mv_9_agree (co_9_agree l) ?_
  intro ns as st post WA h hok hrg ⟨hgo0, hin, hwk⟩
  have hgo : ∀ (n pc : Nat) (L k : List sy_V) (st : sy_S), rn_9_agree ns (ct_9_agree ns) post WA n pc L k st → WA pc L k st := fun n pc L k st h => hgo0 [] n pc L k st h
  replace h := sy_m2_e h hok
  obtain ⟨f, x, rfl, hf, hx, h⟩ := h
  refine ⟨Nat.le_of_ble_eq_true rfl, ?_⟩
  show WA 0 [.inr (.inr (some (some 24))), .inl (true, f), .inl (true, x), .inr (.inr none), .inr (.inr none), .inr (.inr none)] [] st
  refine hgo 300 _ _ _ _ ?_
  simp -implicitDefEqProofs only [↓rx_9_agree_0, ↓rx_9_agree_1, ↓rx_9_agree_4, ↓rx_9_agree_5, ↓rx_9_agree_6, ↓rx_9_agree_9, ↓rx_9_agree_10, ↓rx_9_agree_13, ↓rx_9_agree_14, ↓rx_9_agree_15, ↓rx_9_agree_16, ↓rx_9_agree_19, ↓rx_9_agree_20, ↓rx_9_agree_21, ↓rx_9_agree_22, ↓rx_9_agree_23, ↓rx_9_agree_24, ↓rx_9_agree_27, ↓rx_9_agree_28, ↓rx_9_agree_29, ↓rx_9_agree_32, ↓rx_9_agree_33, ↓rx_9_agree_34, ↓rx_9_agree_35, ↓rx_9_agree_36, ↓rx_9_agree_39, ↓rx_9_agree_41, ↓rx_9_agree_42, ↓rx_9_agree_45, ↓rx_9_agree_46, ↓rx_9_agree_47, ↓rx_9_agree_48, ↓rx_9_agree_51, ↓rx_9_agree_52, ↓rx_9_agree_55, ↓rx_9_agree_56, ↓rx_9_agree_57, ↓rx_9_agree_58, ↓rx_9_agree_59, ↓rx_9_agree_60, ↓rx_9_agree_63, ↓rx_9_agree_64, ↓rx_9_agree_65, ↓rx_9_agree_67, ↓rx_9_agree_68, ↓rx_9_agree_69, ↓rx_9_agree_70, ↓rx_9_agree_73, ↓rx_9_agree_74, ↓rx_9_agree_75, ↓rx_9_agree_78, ↓rx_9_agree_81, ↓rx_9_agree_82, ↓rx_9_agree_83, ↓rx_9_agree_84, ↓rx_9_agree_87, ↓rx_9_agree_88, ↓rx_9_agree_89, ↓rx_9_agree_91, ↓rx_9_agree_92, ↓rx_9_agree_93, ↓rx_9_agree_94, ↓rx_9_agree_97, ↓rx_9_agree_98, ↓rx_9_agree_99, ↓rx_9_agree_102, ↓rx_9_agree_105, ↓rx_9_agree_106, ↓rx_9_agree_109, ↓rx_9_agree_110, ↓rx_9_agree_112, ↓rx_9_agree_114, ↓rx_9_agree_117, ↓rx_9_agree_118, ↓rx_9_agree_119, ↓rx_9_agree_120, ↓rx_9_agree_123, ↓rx_9_agree_124, ↓rx_9_agree_125, ↓rx_9_agree_126, ↓rx_9_agree_127, ↓rx_9_agree_128, ↓rx_9_agree_131, ↓rx_9_agree_133, ↓rx_9_agree_134, ↓rx_9_agree_135, ↓rx_9_agree_138, ↓rx_9_agree_141, ↓rx_9_agree_142, ↓rx_9_agree_143, ↓rx_9_agree_144, ↓rx_9_agree_147, ↓rx_9_agree_148, ↓rx_9_agree_149, ↓rx_9_agree_150, ↓rx_9_agree_151, ↓rx_9_agree_152, ↓rx_9_agree_155, ↓rx_9_agree_157, ↓rx_9_agree_158, ↓rx_9_agree_159, ↓rx_9_agree_162, ↓rx_9_agree_165, ↓rx_9_agree_166, ↓rx_9_agree_169, ↓rx_9_agree_170, ↓rx_9_agree_171, ↓rx_9_agree_172, ↓rx_9_agree_175, ↓rx_9_agree_176, ↓rx_9_agree_177, ↓rx_9_agree_178, ↓rx_9_agree_181, ↓rx_9_agree_182, ↓rx_9_agree_183, ↓rx_9_agree_185, ↓rx_9_agree_186, ↓rx_9_agree_187, ↓rx_9_agree_188, ↓rx_9_agree_191, ↓rx_9_agree_192, ↓rx_9_agree_193, ↓rx_9_agree_196, ↓rx_9_agree_199, ↓rx_9_agree_200, ↓rx_9_agree_201, ↓rx_9_agree_202, ↓rx_9_agree_205, ↓rx_9_agree_206, ↓rx_9_agree_207, ↓rx_9_agree_208, ↓rx_9_agree_209, ↓rx_9_agree_210, ↓rx_9_agree_213, ↓rx_9_agree_215, ↓rx_9_agree_216, ↓rx_9_agree_217, ↓rx_9_agree_220, ↓rx_9_agree_223, ↓rx_9_agree_224, ↓rx_9_agree_227, ↓rx_9_agree_228, ↓cx_9_agree_96, ↓cx_9_agree_99, ↓cx_9_agree_103, ↓cx_9_agree_106, sp_9_end, sp_9_goes, sp_9_half, sp_9_part, xg_h_le, xg_h_gt, xg_h_lt, ↓sx_s1, ↓sx_s2, ↓sx_s3, ↓sx_s4, ↓sx_s5, ↓sx_s6, ↓sx_m0, ↓sx_m1, ↓sx_m2, ↓sx_m3, ↓sx_m4, ↓sx_m5, ↓sx_m6, ↓sx_k0_, ↓sx_k1_, ↓sx_k2_, ↓sx_k3_, ↓sx_k4_, ↓sx_k5_, ↓sx_k6_, ↓sx_sLL, ↓sx_sAI, ↓sx_mLL, ↓sx_mIIL, ↓sx_mIILL, ↓sx_mIILLL, ↓sx_qS, ↓sx_qSI, ↓sx_qSIII, sx_rit, sx_rif, sx_rlt, sx_rlf, sx_b0, sx_b1, sx_o0, sx_o1i, sx_o1a, sx_o1l, sx_o2, sx_g0, sx_g1, sx_k1, sx_k2, sx_k3, sx_f1, sx_f2, sx_f3, sx_w0, sx_w1, sx_w2, sx_w3, sx_ts, sx_tn, sx_up, sx_nS1, sx_nS2, sx_nW1, sx_nW2, sx_SW, sx_WS, sy_nS_inj, sy_nW_inj, sx_ob0, sx_ob1, sx_ob2, sx_ob3, sx_ob4, sx_ob5, sx_ob6, sx_ob7, sx_ob8, sx_ob9, sx_ob10, sx_ob11, sx_ob12, sx_ob13, sx_ob14, sx_ob15, sx_ob16, sx_ob17, sx_ob18, sx_ob19, sx_ob20, sx_ob21, sx_ob22, sx_ob23, sx_ob24, sx_ob25, sx_ob26, sx_ob27, sx_ob28, sx_ob29, sx_ob30, sx_ob31, sx_ob32, sx_ob33, sx_ob34, sx_ob35, sx_ob36, sx_fv0_0, sx_fv0_1, sx_fv0_2, sx_fv0_3, sx_fv0_4, sx_fv0_5, sx_fv1_0, sx_fv1_1, sx_fv1_2, sx_fv3_0, sx_fv3_1, sx_fv3_2, sx_fv3_3, sx_fv3_4, sx_fv7_0, sx_fv7_1, sx_fv7_2, sx_fv7_3, sx_fv7_4, sx_fv7_5, sx_fv7_6, sx_fv7_7, sx_fv7_8, sx_fv7_9, sx_fv7_10, sx_fv9_0, sx_fv9_1, sx_fv9_2, sx_fv9_3, sx_fv11_0, sx_fv11_1, sx_fv11_2, sx_fv11_3, sx_fv11_4, sx_fv11_5, sx_fv11_6, sx_fv15_0, sx_fv15_1, sx_fv15_2, sx_fv15_3, sx_fv15_4, sx_fv15_5, sx_fv19_0, sx_fv19_1, sx_fv19_2, sx_fv19_3, sx_fv19_4, sx_fv19_5, sx_fv19_6, sx_fv24_0, sx_fv24_1, sx_fv24_2, sx_fv24_3, sx_fv24_4, sx_fv24_5, sx_fv24_6, sx_fv24_7, sx_fv24_8, sx_fv24_9, sx_fv24_10, sx_fv24_11, sx_fv24_12, sx_fv24_13, sx_fv24_14, sx_fv24_15, sx_fv24_16, sx_fv24_17, sx_fv24_18, sx_fvS_0, sx_fvS_1, sx_fvS_2, sx_fvS_3, sx_fvS_4, sx_fvS_5, sx_fvS_6, sx_fvS_7, sx_fvS_8, sx_fvS_9, sx_ar2, sx_ar4, sx_ar5, sx_ar6, sx_ar8, sx_ar10, sx_ar12, sx_ar13, sx_ar14, sx_ar16, sx_ar17, sx_ar18, sx_ar20, sx_ar21, sx_ar22, sx_ar23, sx_ar25, sx_ar26, sx_ar27, sx_ar28, sx_ar29, sx_ar30, sx_ar31, sx_ar32, sx_ar33, sx_ar34, sx_ar35, sx_ar36, sy_ob_S, sy_ob_W, sy_ar_W, sx_if0, sx_if1, sx_ie0, sx_em, Classical.not_not, sx_cle, sx_clt, sx_cge, sx_cgt, sx_ceq, Nat.reduceLT, Nat.reduceLeDiff, Nat.reduceAdd, Nat.reduceSub, Nat.reduceEqDiff, reduceIte, List.length_cons, List.length_nil, true_and, and_true, and_self, Bool.false_eq_true, true_implies, not_true_eq_false, not_false_eq_true, false_implies, implies_true, ne_eq, reduceCtorEq, Option.some.injEq, false_and, and_false, Int.reduceNeg, Int.reduceToNat, Int.reduceLT, Int.reduceLE, Int.reduceEq, Int.reduceAdd, Int.reduceSub, Int.reduceMul, or_false, false_or, or_true, true_or, forall_const, Int.toNat_natCast, Int.toNat_zero, Int.toNat_one, Nat.zero_add, or_self, Int.neg_eq_zero]
  obtain ⟨⟨hm, hf1, hx1⟩, h⟩ := h
  have hr : (-15000 ≤ m_fg st f 0 ∧ m_fg st f 0 ≤ 22000) := (xg_f_rng hm.2.2 f).1
  have hy := hm.2.1.2.1 x.toNat
  have hkd := hm.2.1.2.2.2.2.2 x.toNat
  have he : ∀ i, -15500 ≤ m_en st x.toNat i ∧ m_en st x.toNat i ≤ 15500 := fun i => by
    have := m_pl_rng hm.2.1 x.toNat (hm.2.1.2.2.2.2.1 (4 * x.toNat + i))
    exact ⟨this.1, this.2.1⟩
  have he0 := he 0
  have he1 := he 1
  have he2 := he 2
  have he3 := he 3
  unfold m_ag xg_ag at h
  clear hgo hgo0 hin hwk hok hrg he
  generalize xg_on (m_fg st f 3) (st 25 x.toNat - m_fg st f 1) = bo at *
  generalize xg_le (m_fg st f 2) (m_fg st f 3) (st 25 x.toNat - m_fg st f 1) (m_fg st f 0 - m_en st x.toNat 0) = b0 at *
  generalize xg_ge (m_fg st f 2) (m_fg st f 3) (st 25 x.toNat - m_fg st f 1) (m_fg st f 0 - m_en st x.toNat 1) = b1 at *
  generalize xg_ge (m_fg st f 2) (m_fg st f 3) (st 25 x.toNat - m_fg st f 1) (m_en st x.toNat 2 - m_fg st f 0) = b2 at *
  generalize xg_le (m_fg st f 2) (m_fg st f 3) (st 25 x.toNat - m_fg st f 1) (m_en st x.toNat 3 - m_fg st f 0) = b3 at *
  generalize xg_le (m_fg st f 2) (m_fg st f 3) (st 25 x.toNat - m_fg st f 1) (m_fg st f 0 - m_en st x.toNat 1) = b4 at *
  generalize xg_le (m_fg st f 2) (m_fg st f 3) (st 25 x.toNat - m_fg st f 1) (m_en st x.toNat 0 - m_fg st f 0) = b5 at *
  generalize st 28 x.toNat = kd at *
  generalize m_fg st f 0 = z0 at *
  generalize m_en st x.toNat 0 = z1 at *
  generalize m_en st x.toNat 1 = z2 at *
  generalize m_en st x.toNat 2 = z3 at *
  generalize m_en st x.toNat 3 = z4 at *
  generalize st 25 x.toNat = z5 at *
  (repeat' (first | assumption | apply And.intro | intro _)) <;> first | omega | (exfalso; omega) | (simp_all; done) | (have h2 : kd = 2 := (by omega); simp_all; done)
def sp_9_agrees (ns : Nat) : sy_Sp := sy_m2 24 fun f s st post => m_ok ns st ∧ post (some (.inl (true, if (0 ≤ f ∧ f < m_tot st) ∧ (0 ≤ s ∧ s < ns) then (if m_ag st f s.toNat = true then 1 else 0) else -1))) st
def ct_9_agrees (ns q : Nat) : Option (Bool × Nat × sy_Sp) := match q with
  | 73 => some (false, 2, sp_9_isSite ns)
  | 93 => some (false, 2, sp_9_isFigure ns)
  | 110 => some (false, 3, sp_9_agree ns)
  | _ => none
abbrev M_9_agrees (ns : Nat) : sy_M := Mk_9_agrees (ct_9_agrees ns)
theorem cx_9_agrees_73 {ns : Nat} {v1 v2 : sy_V} {r : List sy_V} {s : sy_S} {f : List sy_V → sy_S → Prop} : sy_call false (ct_9_agrees ns 73) (v2 :: v1 :: r) s f = (sy_wd r ≤ 8 ∧ (sy_fit v2 ∧ sy_fit v1) ∧ sp_9_isSite ns [sy_kn v1, sy_kn v2] s (fun q t => f (q.toList ++ r) t)) := sx_call2
theorem cx_9_agrees_93 {ns : Nat} {v1 v2 : sy_V} {r : List sy_V} {s : sy_S} {f : List sy_V → sy_S → Prop} : sy_call false (ct_9_agrees ns 93) (v2 :: v1 :: r) s f = (sy_wd r ≤ 8 ∧ (sy_fit v2 ∧ sy_fit v1) ∧ sp_9_isFigure ns [sy_kn v1, sy_kn v2] s (fun q t => f (q.toList ++ r) t)) := sx_call2
theorem cx_9_agrees_110 {ns : Nat} {v1 v2 v3 : sy_V} {r : List sy_V} {s : sy_S} {f : List sy_V → sy_S → Prop} : sy_call false (ct_9_agrees ns 110) (v3 :: v2 :: v1 :: r) s f = (sy_wd r ≤ 8 ∧ (sy_fit v3 ∧ sy_fit v2 ∧ sy_fit v1) ∧ sp_9_agree ns [sy_kn v1, sy_kn v2, sy_kn v3] s (fun q t => f (q.toList ++ r) t)) := sx_call3
theorem mv_9_agrees (ns : Nat) : sy_MV c_9_agrees y_9_agrees.cls (some .int) (M_9_agrees ns) := ⟨tv_9_agrees, ff_9_ok, ki_9_ok, kl_9_ok⟩
abbrev rm_9_agrees : Room := { frames := 3, cells := 0, slots := 0, locals := 83 }
theorem iw_9_agree : Cond.code y_9_agree c_9_agree 6 (some .boolean) ∈ sy_tb ∧ Cond.initialized y_9_agree.cls ∈ sy_tb ∧ (y_9_agree.cls ≠ "java/lang/invoke/MethodHandle" ∧ y_9_agree.cls ≠ "java/lang/invoke/VarHandle" ∧ (parseMethodDescriptor y_9_agree.desc).map (fun d => d.parameters.length) = some 2) := ⟨sy_inx 934 (by decide +kernel) (by decide +kernel), sy_inx 53 (by decide +kernel) (by decide +kernel), by decide +kernel⟩
theorem ii_9_agree : Cond.instanceMethod y_9_agree ∈ sy_tb ∧ Cond.selects y_9_agree.cls y_9_agree y_9_agree ∈ sy_tb := ⟨sy_inx 933 (by decide +kernel) (by decide +kernel), sy_inx 31 (by decide +kernel) (by decide +kernel)⟩
theorem co_9_agrees (l : Launch) : sy_calls l rm_9_agrees y_9_agrees.cls c_9_agrees 3 (fun ns => (M_9_agrees ns).2.2.2.2.1) := by
  intro p e s m args below meth c rt wd ad ns A Q X hA q b n sp h
  replace h : ct_9_agrees ns q = some (b, n, sp) := h
  unfold ct_9_agrees at h
  split at h
  · cases h; exact sy_coV (ci := 9) X hA (mc_9_isSite l) ⟨iw_9_isSite.1, iw_9_isSite.2.1, iw_9_isSite.2.2, ⟨by decide, by decide⟩, rfl, rfl⟩ (sy_inx 870 (by decide +kernel) (by decide +kernel)) ii_9_isSite.1 ii_9_isSite.2 (rc_9_isSite ns) ⟨_, rfl, rfl⟩
  · cases h; exact sy_coV (ci := 9) X hA (mc_9_isFigure l) ⟨iw_9_isFigure.1, iw_9_isFigure.2.1, iw_9_isFigure.2.2, ⟨by decide, by decide⟩, rfl, rfl⟩ (sy_inx 918 (by decide +kernel) (by decide +kernel)) ii_9_isFigure.1 ii_9_isFigure.2 (rc_9_isFigure ns) ⟨_, rfl, rfl⟩
  · cases h; exact sy_coV (ci := 9) X hA (mc_9_agree l) ⟨iw_9_agree.1, iw_9_agree.2.1, iw_9_agree.2.2, ⟨by decide, by decide⟩, rfl, rfl⟩ (sy_inx 931 (by decide +kernel) (by decide +kernel)) ii_9_agree.1 ii_9_agree.2 (rc_9_agree ns) ⟨_, rfl, rfl⟩
  · cases h
theorem rc_9_agrees (ns : Nat) (as : List sy_V) (st : sy_S) (post : sy_R) (h : sp_9_agrees ns as st post) : ∃ b as', as = .inr (.inr (some (some b))) :: as' ∧ sy_ob b = some 9 := sy_m2_r rfl as st post h
theorem mc_9_agrees (l : Launch) : sy_MC l y_9_agrees c_9_agrees 3 (some .int) rm_9_agrees sp_9_agrees := by
  refine sy_meth M_9_agrees (by decide +kernel) mv_9_agrees (co_9_agrees l) ?_
  intro ns as st post WA h hok hrg ⟨hgo0, hin, hwk⟩
  have hgo : ∀ (n pc : Nat) (L k : List sy_V) (st : sy_S), rn_9_agrees ns (ct_9_agrees ns) post WA n pc L k st → WA pc L k st := fun n pc L k st h => hgo0 [] n pc L k st h
  replace h := sy_m2_e h hok
  obtain ⟨f, x, rfl, hf, hx, h⟩ := h
  refine ⟨Nat.le_of_ble_eq_true rfl, ?_⟩
  show WA 0 [.inr (.inr (some (some 24))), .inl (true, f), .inl (true, x)] [] st
  refine hgo 300 _ _ _ _ ?_
  simp -implicitDefEqProofs only [↓rx_9_agrees_0, ↓rx_9_agrees_1, ↓rx_9_agrees_2, ↓rx_9_agrees_5, ↓rx_9_agrees_8, ↓rx_9_agrees_9, ↓rx_9_agrees_10, ↓rx_9_agrees_13, ↓rx_9_agrees_16, ↓rx_9_agrees_17, ↓rx_9_agrees_20, ↓rx_9_agrees_21, ↓rx_9_agrees_22, ↓rx_9_agrees_23, ↓rx_9_agrees_26, ↓rx_9_agrees_29, ↓rx_9_agrees_30, ↓rx_9_agrees_33, ↓rx_9_agrees_34, ↓cx_9_agrees_73, ↓cx_9_agrees_93, ↓cx_9_agrees_110, sp_9_agree, sp_9_isFigure, sp_9_isSite, ↓sx_s1, ↓sx_s2, ↓sx_s3, ↓sx_s4, ↓sx_s5, ↓sx_s6, ↓sx_m0, ↓sx_m1, ↓sx_m2, ↓sx_m3, ↓sx_m4, ↓sx_m5, ↓sx_m6, ↓sx_k0_, ↓sx_k1_, ↓sx_k2_, ↓sx_k3_, ↓sx_k4_, ↓sx_k5_, ↓sx_k6_, ↓sx_sLL, ↓sx_sAI, ↓sx_mLL, ↓sx_mIIL, ↓sx_mIILL, ↓sx_mIILLL, ↓sx_qS, ↓sx_qSI, ↓sx_qSIII, sx_rit, sx_rif, sx_rlt, sx_rlf, sx_b0, sx_b1, sx_o0, sx_o1i, sx_o1a, sx_o1l, sx_o2, sx_g0, sx_g1, sx_k1, sx_k2, sx_k3, sx_f1, sx_f2, sx_f3, sx_w0, sx_w1, sx_w2, sx_w3, sx_ts, sx_tn, sx_up, sx_nS1, sx_nS2, sx_nW1, sx_nW2, sx_SW, sx_WS, sy_nS_inj, sy_nW_inj, sx_ob0, sx_ob1, sx_ob2, sx_ob3, sx_ob4, sx_ob5, sx_ob6, sx_ob7, sx_ob8, sx_ob9, sx_ob10, sx_ob11, sx_ob12, sx_ob13, sx_ob14, sx_ob15, sx_ob16, sx_ob17, sx_ob18, sx_ob19, sx_ob20, sx_ob21, sx_ob22, sx_ob23, sx_ob24, sx_ob25, sx_ob26, sx_ob27, sx_ob28, sx_ob29, sx_ob30, sx_ob31, sx_ob32, sx_ob33, sx_ob34, sx_ob35, sx_ob36, sx_fv0_0, sx_fv0_1, sx_fv0_2, sx_fv0_3, sx_fv0_4, sx_fv0_5, sx_fv1_0, sx_fv1_1, sx_fv1_2, sx_fv3_0, sx_fv3_1, sx_fv3_2, sx_fv3_3, sx_fv3_4, sx_fv7_0, sx_fv7_1, sx_fv7_2, sx_fv7_3, sx_fv7_4, sx_fv7_5, sx_fv7_6, sx_fv7_7, sx_fv7_8, sx_fv7_9, sx_fv7_10, sx_fv9_0, sx_fv9_1, sx_fv9_2, sx_fv9_3, sx_fv11_0, sx_fv11_1, sx_fv11_2, sx_fv11_3, sx_fv11_4, sx_fv11_5, sx_fv11_6, sx_fv15_0, sx_fv15_1, sx_fv15_2, sx_fv15_3, sx_fv15_4, sx_fv15_5, sx_fv19_0, sx_fv19_1, sx_fv19_2, sx_fv19_3, sx_fv19_4, sx_fv19_5, sx_fv19_6, sx_fv24_0, sx_fv24_1, sx_fv24_2, sx_fv24_3, sx_fv24_4, sx_fv24_5, sx_fv24_6, sx_fv24_7, sx_fv24_8, sx_fv24_9, sx_fv24_10, sx_fv24_11, sx_fv24_12, sx_fv24_13, sx_fv24_14, sx_fv24_15, sx_fv24_16, sx_fv24_17, sx_fv24_18, sx_fvS_0, sx_fvS_1, sx_fvS_2, sx_fvS_3, sx_fvS_4, sx_fvS_5, sx_fvS_6, sx_fvS_7, sx_fvS_8, sx_fvS_9, sx_ar2, sx_ar4, sx_ar5, sx_ar6, sx_ar8, sx_ar10, sx_ar12, sx_ar13, sx_ar14, sx_ar16, sx_ar17, sx_ar18, sx_ar20, sx_ar21, sx_ar22, sx_ar23, sx_ar25, sx_ar26, sx_ar27, sx_ar28, sx_ar29, sx_ar30, sx_ar31, sx_ar32, sx_ar33, sx_ar34, sx_ar35, sx_ar36, sy_ob_S, sy_ob_W, sy_ar_W, sx_if0, sx_if1, sx_ie0, sx_em, Classical.not_not, sx_cle, sx_clt, sx_cge, sx_cgt, sx_ceq, Nat.reduceLT, Nat.reduceLeDiff, Nat.reduceAdd, Nat.reduceSub, Nat.reduceEqDiff, reduceIte, List.length_cons, List.length_nil, true_and, and_true, and_self, Bool.false_eq_true, true_implies, not_true_eq_false, not_false_eq_true, false_implies, implies_true, ne_eq, reduceCtorEq, Option.some.injEq, false_and, and_false, Int.reduceNeg, Int.reduceToNat, Int.reduceLT, Int.reduceLE, Int.reduceEq, Int.reduceAdd, Int.reduceSub, Int.reduceMul, or_false, false_or, or_true, true_or, forall_const, Int.toNat_natCast, Int.toNat_zero, Int.toNat_one, Nat.zero_add, or_self, Int.neg_eq_zero]
  obtain ⟨hm, h⟩ := h
  have ht := m_tot_r hm.2.2
  have hn := hm.1
  unfold m_site at hn
  rw [hn.1]
  by_cases hC : (0 ≤ f ∧ f < m_tot st) ∧ (0 ≤ x ∧ x < ns)
  · rw [if_pos hC] at h
    by_cases hA : m_ag st f x.toNat = true
    · rw [if_pos hA] at h
      (repeat' (first | assumption | apply And.intro | intro _)) <;> first | omega | (exfalso; omega) | contradiction
    · rw [if_neg hA] at h
      (repeat' (first | assumption | apply And.intro | intro _)) <;> first | omega | (exfalso; omega) | contradiction
  · rw [if_neg hC] at h
    (repeat' (first | assumption | apply And.intro | intro _)) <;> first | omega | (exfalso; omega) | contradiction
