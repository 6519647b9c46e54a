/-! THE CLASS: the net -/
def sp_3_isRow (ns : Nat) : sy_Sp := sy_s1 fun r st post => post (some (.inl (true, if 0 ≤ r ∧ r < 4 then 1 else 0))) st
def ct_3_isRow (ns q : Nat) : Option (Bool × Nat × sy_Sp) := match q with
  | _ => none
abbrev M_3_isRow (ns : Nat) : sy_M := Mk_3_isRow (ct_3_isRow ns)
theorem mv_3_isRow (ns : Nat) : sy_MV c_3_isRow y_3_isRow.cls (some .boolean) (M_3_isRow ns) := ⟨tv_3_isRow, ff_3_ok, ki_3_ok, kl_3_ok⟩
abbrev rm_3_isRow : Room := { frames := 0, cells := 0, slots := 0, locals := 0 }
theorem co_3_isRow (l : Launch) : sy_calls l rm_3_isRow y_3_isRow.cls c_3_isRow 1 (fun ns => (M_3_isRow ns).2.2.2.2.1) := by
  intro p e s m args below meth c rt wd ad ns A Q X hA q b n sp h
  replace h : ct_3_isRow ns q = some (b, n, sp) := h
  unfold ct_3_isRow at h
  cases h
theorem mc_3_isRow (l : Launch) : sy_MC l y_3_isRow c_3_isRow 1 (some .boolean) rm_3_isRow sp_3_isRow := by
  refine sy_meth M_3_isRow (by decide +kernel) mv_3_isRow (co_3_isRow l) ?_
  intro ns as st post WA h hok hrg ⟨hgo0, hin, hwk⟩
  have hgo : ∀ (n pc : Nat) (L k : List sy_V) (st : sy_S), rn_3_isRow ns (ct_3_isRow ns) post WA n pc L k st → WA pc L k st := fun n pc L k st h => hgo0 [] n pc L k st h
  replace h := sy_s1_e h hok
  obtain ⟨r, rfl, hr, h⟩ := h
  refine ⟨Nat.le_of_ble_eq_true rfl, ?_⟩
  show WA 0 [.inl (true, r)] [] st
  refine hgo 100 _ _ _ _ ?_
  simp -implicitDefEqProofs only [↓rx_3_isRow_0, ↓rx_3_isRow_1, ↓rx_3_isRow_4, ↓rx_3_isRow_5, ↓rx_3_isRow_6, ↓rx_3_isRow_9, ↓rx_3_isRow_10, ↓rx_3_isRow_13, ↓rx_3_isRow_14, ↓sx_s1, ↓sx_s2, ↓sx_s3, ↓sx_s4, ↓sx_s5, ↓sx_s6, ↓sx_m0, ↓sx_m1, ↓sx_m2, ↓sx_m3, ↓sx_m4, ↓sx_m5, ↓sx_m6, ↓sx_k0_, ↓sx_k1_, ↓sx_k2_, ↓sx_k3_, ↓sx_k4_, ↓sx_k5_, ↓sx_k6_, ↓sx_sLL, ↓sx_sAI, ↓sx_mLL, ↓sx_mIIL, ↓sx_mIILL, ↓sx_mIILLL, ↓sx_qS, ↓sx_qSI, ↓sx_qSIII, sx_rit, sx_rif, sx_rlt, sx_rlf, sx_b0, sx_b1, sx_o0, sx_o1i, sx_o1a, sx_o1l, sx_o2, sx_g0, sx_g1, sx_k1, sx_k2, sx_k3, sx_f1, sx_f2, sx_f3, sx_w0, sx_w1, sx_w2, sx_w3, sx_ts, sx_tn, sx_up, sx_nS1, sx_nS2, sx_nW1, sx_nW2, sx_SW, sx_WS, sy_nS_inj, sy_nW_inj, sx_ob0, sx_ob1, sx_ob2, sx_ob3, sx_ob4, sx_ob5, sx_ob6, sx_ob7, sx_ob8, sx_ob9, sx_ob10, sx_ob11, sx_ob12, sx_ob13, sx_ob14, sx_ob15, sx_ob16, sx_ob17, sx_ob18, sx_ob19, sx_ob20, sx_ob21, sx_ob22, sx_ob23, sx_ob24, sx_ob25, sx_ob26, sx_ob27, sx_ob28, sx_ob29, sx_ob30, sx_ob31, sx_ob32, sx_ob33, sx_ob34, sx_ob35, sx_ob36, sx_fv0_0, sx_fv0_1, sx_fv0_2, sx_fv0_3, sx_fv0_4, sx_fv0_5, sx_fv1_0, sx_fv1_1, sx_fv1_2, sx_fv3_0, sx_fv3_1, sx_fv3_2, sx_fv3_3, sx_fv3_4, sx_fv7_0, sx_fv7_1, sx_fv7_2, sx_fv7_3, sx_fv7_4, sx_fv7_5, sx_fv7_6, sx_fv7_7, sx_fv7_8, sx_fv7_9, sx_fv7_10, sx_fv9_0, sx_fv9_1, sx_fv9_2, sx_fv9_3, sx_fv11_0, sx_fv11_1, sx_fv11_2, sx_fv11_3, sx_fv11_4, sx_fv11_5, sx_fv11_6, sx_fv15_0, sx_fv15_1, sx_fv15_2, sx_fv15_3, sx_fv15_4, sx_fv15_5, sx_fv19_0, sx_fv19_1, sx_fv19_2, sx_fv19_3, sx_fv19_4, sx_fv19_5, sx_fv19_6, sx_fv24_0, sx_fv24_1, sx_fv24_2, sx_fv24_3, sx_fv24_4, sx_fv24_5, sx_fv24_6, sx_fv24_7, sx_fv24_8, sx_fv24_9, sx_fv24_10, sx_fv24_11, sx_fv24_12, sx_fv24_13, sx_fv24_14, sx_fv24_15, sx_fv24_16, sx_fv24_17, sx_fv24_18, sx_fvS_0, sx_fvS_1, sx_fvS_2, sx_fvS_3, sx_fvS_4, sx_fvS_5, sx_fvS_6, sx_fvS_7, sx_fvS_8, sx_fvS_9, sx_ar2, sx_ar4, sx_ar5, sx_ar6, sx_ar8, sx_ar10, sx_ar12, sx_ar13, sx_ar14, sx_ar16, sx_ar17, sx_ar18, sx_ar20, sx_ar21, sx_ar22, sx_ar23, sx_ar25, sx_ar26, sx_ar27, sx_ar28, sx_ar29, sx_ar30, sx_ar31, sx_ar32, sx_ar33, sx_ar34, sx_ar35, sx_ar36, sy_ob_S, sy_ob_W, sy_ar_W, sx_if0, sx_if1, sx_ie0, sx_em, Classical.not_not, sx_cle, sx_clt, sx_cge, sx_cgt, sx_ceq, Nat.reduceLT, Nat.reduceLeDiff, Nat.reduceAdd, Nat.reduceSub, Nat.reduceEqDiff, reduceIte, List.length_cons, List.length_nil, true_and, and_true, and_self, Bool.false_eq_true, true_implies, not_true_eq_false, not_false_eq_true, false_implies, implies_true, ne_eq, reduceCtorEq, Option.some.injEq, false_and, and_false, Int.reduceNeg, Int.reduceToNat, Int.reduceLT, Int.reduceLE, Int.reduceEq, Int.reduceAdd, Int.reduceSub, Int.reduceMul, or_false, false_or, or_true, true_or, forall_const, Int.toNat_natCast, Int.toNat_zero, Int.toNat_one, Nat.zero_add, or_self, Int.neg_eq_zero]
  by_cases hC : 0 ≤ r ∧ r < 4
  · rw [if_pos hC] at h
    (repeat' (first | assumption | apply And.intro | intro _)) <;> first | omega | (exfalso; omega) | contradiction
  · rw [if_neg hC] at h
    (repeat' (first | assumption | apply And.intro | intro _)) <;> first | omega | (exfalso; omega) | contradiction
def x_fstk (r f : Int) : Prop := (r = 0 → -15000 ≤ f ∧ f ≤ 15000) ∧ (r = 1 → -2000 ≤ f ∧ f ≤ 2000) ∧ (¬ r = 0 → ¬ r = 1 → 1 ≤ f ∧ f ≤ 2000)
def sp_3_isFirst (ns : Nat) : sy_Sp := sy_s2 fun r f st post => (x_fstk r f → post (some (.inl (true, 1))) st) ∧ (¬ x_fstk r f → post (some (.inl (true, 0))) st)
def ct_3_isFirst (ns q : Nat) : Option (Bool × Nat × sy_Sp) := match q with
  | 36 => some (true, 3, sp_8_within ns)
  | 75 => some (true, 1, sp_8_isHeight ns)
  | _ => none
abbrev M_3_isFirst (ns : Nat) : sy_M := Mk_3_isFirst (ct_3_isFirst ns)
theorem cx_3_isFirst_36 {ns : Nat} {v1 v2 v3 : sy_V} {r : List sy_V} {s : sy_S} {f : List sy_V → sy_S → Prop} : sy_call true (ct_3_isFirst ns 36) (v3 :: v2 :: v1 :: r) s f = (sy_wd r ≤ 8 ∧ (sy_fit v3 ∧ sy_fit v2 ∧ sy_fit v1) ∧ sp_8_within ns [sy_kn v1, sy_kn v2, sy_kn v3] s (fun q t => f (q.toList ++ r) t)) := sx_call3
theorem cx_3_isFirst_75 {ns : Nat} {v1 : sy_V} {r : List sy_V} {s : sy_S} {f : List sy_V → sy_S → Prop} : sy_call true (ct_3_isFirst ns 75) (v1 :: r) s f = (sy_wd r ≤ 8 ∧ (sy_fit v1) ∧ sp_8_isHeight ns [sy_kn v1] s (fun q t => f (q.toList ++ r) t)) := sx_call1
theorem mv_3_isFirst (ns : Nat) : sy_MV c_3_isFirst y_3_isFirst.cls (some .boolean) (M_3_isFirst ns) := ⟨tv_3_isFirst, ff_3_ok, ki_3_ok, kl_3_ok⟩
abbrev rm_3_isFirst : Room := { frames := 2, cells := 0, slots := 0, locals := 42 }
theorem iw_8_isHeight : Cond.code y_8_isHeight c_8_isHeight 1 (some .boolean) ∈ sy_tb ∧ Cond.initialized y_8_isHeight.cls ∈ sy_tb ∧ (y_8_isHeight.cls ≠ "java/lang/invoke/MethodHandle" ∧ y_8_isHeight.cls ≠ "java/lang/invoke/VarHandle" ∧ (parseMethodDescriptor y_8_isHeight.desc).map (fun d => d.parameters.length) = some 1) := ⟨sy_inx 305 (by decide +kernel) (by decide +kernel), sy_inx 44 (by decide +kernel) (by decide +kernel), by decide +kernel⟩
theorem is_8_isHeight : Cond.static y_8_isHeight ∈ sy_tb := sy_inx 304 (by decide +kernel) (by decide +kernel)
theorem co_3_isFirst (l : Launch) : sy_calls l rm_3_isFirst y_3_isFirst.cls c_3_isFirst 2 (fun ns => (M_3_isFirst ns).2.2.2.2.1) := by
  intro p e s m args below meth c rt wd ad ns A Q X hA q b n sp h
  replace h : ct_3_isFirst ns q = some (b, n, sp) := h
  unfold ct_3_isFirst at h
  split at h
  · cases h; exact sy_coN (host := "StarHide") X hA (mc_8_within l) ⟨iw_8_within.1, iw_8_within.2.1, iw_8_within.2.2, ⟨by decide, by decide⟩, rfl, rfl⟩ (by decide +kernel) is_8_within
  · cases h; exact sy_coN (host := "StarHide") X hA (mc_8_isHeight l) ⟨iw_8_isHeight.1, iw_8_isHeight.2.1, iw_8_isHeight.2.2, ⟨by decide, by decide⟩, rfl, rfl⟩ (by decide +kernel) is_8_isHeight
  · cases h
theorem mc_3_isFirst (l : Launch) : sy_MC l y_3_isFirst c_3_isFirst 2 (some .boolean) rm_3_isFirst sp_3_isFirst := by
  refine sy_meth M_3_isFirst (by decide +kernel) mv_3_isFirst (co_3_isFirst l) ?_
  intro ns as st post WA h hok hrg ⟨hgo0, hin, hwk⟩
  have hgo : ∀ (n pc : Nat) (L k : List sy_V) (st : sy_S), rn_3_isFirst ns (ct_3_isFirst ns) post WA n pc L k st → WA pc L k st := fun n pc L k st h => hgo0 [] n pc L k st h
  replace h := sy_s2_e h hok
  obtain ⟨r, f, rfl, hr, hf, h⟩ := h
  refine ⟨Nat.le_of_ble_eq_true rfl, ?_⟩
  show WA 0 [.inl (true, r), .inl (true, f)] [] st
  refine hgo 100 _ _ _ _ ?_
  simp -implicitDefEqProofs only [↓rx_3_isFirst_0, ↓rx_3_isFirst_1, ↓rx_3_isFirst_4, ↓rx_3_isFirst_5, ↓rx_3_isFirst_8, ↓rx_3_isFirst_11, ↓rx_3_isFirst_14, ↓rx_3_isFirst_15, ↓rx_3_isFirst_16, ↓rx_3_isFirst_17, ↓rx_3_isFirst_20, ↓rx_3_isFirst_21, ↓rx_3_isFirst_24, ↓rx_3_isFirst_27, ↓rx_3_isFirst_28, ↓rx_3_isFirst_29, ↓rx_3_isFirst_32, ↓rx_3_isFirst_35, ↓cx_3_isFirst_36, ↓cx_3_isFirst_75, sp_8_isHeight, sp_8_within, ↓sx_s1, ↓sx_s2, ↓sx_s3, ↓sx_s4, ↓sx_s5, ↓sx_s6, ↓sx_m0, ↓sx_m1, ↓sx_m2, ↓sx_m3, ↓sx_m4, ↓sx_m5, ↓sx_m6, ↓sx_k0_, ↓sx_k1_, ↓sx_k2_, ↓sx_k3_, ↓sx_k4_, ↓sx_k5_, ↓sx_k6_, ↓sx_sLL, ↓sx_sAI, ↓sx_mLL, ↓sx_mIIL, ↓sx_mIILL, ↓sx_mIILLL, ↓sx_qS, ↓sx_qSI, ↓sx_qSIII, sx_rit, sx_rif, sx_rlt, sx_rlf, sx_b0, sx_b1, sx_o0, sx_o1i, sx_o1a, sx_o1l, sx_o2, sx_g0, sx_g1, sx_k1, sx_k2, sx_k3, sx_f1, sx_f2, sx_f3, sx_w0, sx_w1, sx_w2, sx_w3, sx_ts, sx_tn, sx_up, sx_nS1, sx_nS2, sx_nW1, sx_nW2, sx_SW, sx_WS, sy_nS_inj, sy_nW_inj, sx_ob0, sx_ob1, sx_ob2, sx_ob3, sx_ob4, sx_ob5, sx_ob6, sx_ob7, sx_ob8, sx_ob9, sx_ob10, sx_ob11, sx_ob12, sx_ob13, sx_ob14, sx_ob15, sx_ob16, sx_ob17, sx_ob18, sx_ob19, sx_ob20, sx_ob21, sx_ob22, sx_ob23, sx_ob24, sx_ob25, sx_ob26, sx_ob27, sx_ob28, sx_ob29, sx_ob30, sx_ob31, sx_ob32, sx_ob33, sx_ob34, sx_ob35, sx_ob36, sx_fv0_0, sx_fv0_1, sx_fv0_2, sx_fv0_3, sx_fv0_4, sx_fv0_5, sx_fv1_0, sx_fv1_1, sx_fv1_2, sx_fv3_0, sx_fv3_1, sx_fv3_2, sx_fv3_3, sx_fv3_4, sx_fv7_0, sx_fv7_1, sx_fv7_2, sx_fv7_3, sx_fv7_4, sx_fv7_5, sx_fv7_6, sx_fv7_7, sx_fv7_8, sx_fv7_9, sx_fv7_10, sx_fv9_0, sx_fv9_1, sx_fv9_2, sx_fv9_3, sx_fv11_0, sx_fv11_1, sx_fv11_2, sx_fv11_3, sx_fv11_4, sx_fv11_5, sx_fv11_6, sx_fv15_0, sx_fv15_1, sx_fv15_2, sx_fv15_3, sx_fv15_4, sx_fv15_5, sx_fv19_0, sx_fv19_1, sx_fv19_2, sx_fv19_3, sx_fv19_4, sx_fv19_5, sx_fv19_6, sx_fv24_0, sx_fv24_1, sx_fv24_2, sx_fv24_3, sx_fv24_4, sx_fv24_5, sx_fv24_6, sx_fv24_7, sx_fv24_8, sx_fv24_9, sx_fv24_10, sx_fv24_11, sx_fv24_12, sx_fv24_13, sx_fv24_14, sx_fv24_15, sx_fv24_16, sx_fv24_17, sx_fv24_18, sx_fvS_0, sx_fvS_1, sx_fvS_2, sx_fvS_3, sx_fvS_4, sx_fvS_5, sx_fvS_6, sx_fvS_7, sx_fvS_8, sx_fvS_9, sx_ar2, sx_ar4, sx_ar5, sx_ar6, sx_ar8, sx_ar10, sx_ar12, sx_ar13, sx_ar14, sx_ar16, sx_ar17, sx_ar18, sx_ar20, sx_ar21, sx_ar22, sx_ar23, sx_ar25, sx_ar26, sx_ar27, sx_ar28, sx_ar29, sx_ar30, sx_ar31, sx_ar32, sx_ar33, sx_ar34, sx_ar35, sx_ar36, sy_ob_S, sy_ob_W, sy_ar_W, sx_if0, sx_if1, sx_ie0, sx_em, Classical.not_not, sx_cle, sx_clt, sx_cge, sx_cgt, sx_ceq, Nat.reduceLT, Nat.reduceLeDiff, Nat.reduceAdd, Nat.reduceSub, Nat.reduceEqDiff, reduceIte, List.length_cons, List.length_nil, true_and, and_true, and_self, Bool.false_eq_true, true_implies, not_true_eq_false, not_false_eq_true, false_implies, implies_true, ne_eq, reduceCtorEq, Option.some.injEq, false_and, and_false, Int.reduceNeg, Int.reduceToNat, Int.reduceLT, Int.reduceLE, Int.reduceEq, Int.reduceAdd, Int.reduceSub, Int.reduceMul, or_false, false_or, or_true, true_or, forall_const, Int.toNat_natCast, Int.toNat_zero, Int.toNat_one, Nat.zero_add, or_self, Int.neg_eq_zero]
  obtain ⟨h1, h2⟩ := h
  unfold x_fstk at h1 h2
  refine ⟨fun c => ⟨fun c2 => ?_, fun c2 => ?_⟩, fun c => ?_⟩
  · by_cases hC : 1 ≤ f ∧ f ≤ 2000
    · rw [if_pos hC]; apply h1; omega
    · rw [if_neg hC]; apply h2; omega
  · by_cases hC : -2000 ≤ f ∧ f ≤ 2000
    · rw [if_pos hC]; apply h1; omega
    · rw [if_neg hC]; apply h2; omega
  · by_cases hC : -15000 ≤ f ∧ f ≤ 15000
    · rw [if_pos hC]; apply h1; omega
    · rw [if_neg hC]; apply h2; omega
theorem c_N_at (st : sy_S) {r : Nat} (h : r < 4) : c_N st r = st 6 r := by unfold c_N; rw [if_pos h]
theorem c_B_at (st : sy_S) {r : Nat} (h : r < 4) : c_B st r = st 5 r := by unfold c_B; rw [if_pos h]
/-- the net's row r is put -/
def c_put0 (st : sy_S) (r : Nat) (f b n : Int) : sy_S := sy_up (sy_up (sy_up st 4 r f) 5 r b) 6 r n
def c_put (st : sy_S) (r : Nat) (f b n : Int) : sy_S :=
  sy_up (sy_up (c_put0 st r f b n) 3 3 (c_N (c_put0 st r f b n) 1 * c_N (c_put0 st r f b n) 2 * c_N (c_put0 st r f b n) 3)) 3 4 (c_N (c_put0 st r f b n) 0 * (c_N (c_put0 st r f b n) 1 * c_N (c_put0 st r f b n) 2 * c_N (c_put0 st r f b n) 3))
theorem c_put0_N {st : sy_S} (h : c_net st) {r : Nat} {f b n : Int} (hn : 1 ≤ n ∧ n ≤ 8) (k : Nat) : 1 ≤ c_N (c_put0 st r f b n) k ∧ c_N (c_put0 st r f b n) k ≤ 8 := by
  have := xg_net_N h.1 k
  unfold c_N at this ⊢
  split
  · rename_i hk
    rw [if_pos hk] at this
    by_cases hr : k = r
    · simp [c_put0, sy_up, hr]; exact hn
    · simp [c_put0, sy_up, hr]; exact this
  · omega
theorem x_prod3 {a b c : Int} (ha : 1 ≤ a ∧ a ≤ 8) (hb : 1 ≤ b ∧ b ≤ 8) (hc : 1 ≤ c ∧ c ≤ 8) : (1 ≤ a * b ∧ a * b ≤ 64) ∧ 1 ≤ a * b * c ∧ a * b * c ≤ 512 := by
  have a1 := Int.mul_le_mul (a := a) (b := b) (c := 8) (d := 8) (by omega) (by omega) (by omega) (by omega)
  have b1 := Int.mul_le_mul (a := 1) (b := 1) (c := a) (d := b) (by omega) (by omega) (by omega) (by omega)
  have a2 := Int.mul_le_mul (a := a * b) (b := c) (c := 64) (d := 8) (by omega) (by omega) (by omega) (by omega)
  have b2 := Int.mul_le_mul (a := 1) (b := 1) (c := a * b) (d := c) (by omega) (by omega) (by omega) (by omega)
  omega
theorem x_prod2 {a b : Int} (ha : 1 ≤ a ∧ a ≤ 8) (hb : 1 ≤ b ∧ b ≤ 512) : 1 ≤ a * b ∧ a * b ≤ 4096 := by
  have a1 := Int.mul_le_mul (a := a) (b := b) (c := 8) (d := 512) (by omega) (by omega) (by omega) (by omega)
  have b1 := Int.mul_le_mul (a := 1) (b := 1) (c := a) (d := b) (by omega) (by omega) (by omega) (by omega)
  omega
def sp_3_put (ns : Nat) : sy_Sp := sy_m4 3 fun r f b n st post => c_net st ∧ (x_netk r f b n → post (some (.inl (true, 1))) (c_put st r.toNat f b n)) ∧ (¬ x_netk r f b n → post (some (.inl (true, 0))) st)
def ct_3_put (ns q : Nat) : Option (Bool × Nat × sy_Sp) := match q with
  | 32 => some (true, 1, sp_3_isRow ns)
  | 36 => some (true, 3, sp_8_within ns)
  | 42 => some (true, 2, sp_3_isFirst ns)
  | _ => none
abbrev M_3_put (ns : Nat) : sy_M := Mk_3_put (ct_3_put ns)
theorem cx_3_put_32 {ns : Nat} {v1 : sy_V} {r : List sy_V} {s : sy_S} {f : List sy_V → sy_S → Prop} : sy_call true (ct_3_put ns 32) (v1 :: r) s f = (sy_wd r ≤ 8 ∧ (sy_fit v1) ∧ sp_3_isRow ns [sy_kn v1] s (fun q t => f (q.toList ++ r) t)) := sx_call1
theorem cx_3_put_36 {ns : Nat} {v1 v2 v3 : sy_V} {r : List sy_V} {s : sy_S} {f : List sy_V → sy_S → Prop} : sy_call true (ct_3_put ns 36) (v3 :: v2 :: v1 :: r) s f = (sy_wd r ≤ 8 ∧ (sy_fit v3 ∧ sy_fit v2 ∧ sy_fit v1) ∧ sp_8_within ns [sy_kn v1, sy_kn v2, sy_kn v3] s (fun q t => f (q.toList ++ r) t)) := sx_call3
theorem cx_3_put_42 {ns : Nat} {v1 v2 : sy_V} {r : List sy_V} {s : sy_S} {f : List sy_V → sy_S → Prop} : sy_call true (ct_3_put ns 42) (v2 :: v1 :: r) s f = (sy_wd r ≤ 8 ∧ (sy_fit v2 ∧ sy_fit v1) ∧ sp_3_isFirst ns [sy_kn v1, sy_kn v2] s (fun q t => f (q.toList ++ r) t)) := sx_call2
theorem mv_3_put (ns : Nat) : sy_MV c_3_put y_3_put.cls (some .boolean) (M_3_put ns) := ⟨tv_3_put, ff_3_ok, ki_3_ok, kl_3_ok⟩
abbrev rm_3_put : Room := { frames := 3, cells := 0, slots := 0, locals := 63 }
theorem iw_3_isRow : Cond.code y_3_isRow c_3_isRow 1 (some .boolean) ∈ sy_tb ∧ Cond.initialized y_3_isRow.cls ∈ sy_tb ∧ (y_3_isRow.cls ≠ "java/lang/invoke/MethodHandle" ∧ y_3_isRow.cls ≠ "java/lang/invoke/VarHandle" ∧ (parseMethodDescriptor y_3_isRow.desc).map (fun d => d.parameters.length) = some 1) := ⟨sy_inx 428 (by decide +kernel) (by decide +kernel), sy_inx 46 (by decide +kernel) (by decide +kernel), by decide +kernel⟩
theorem is_3_isRow : Cond.static y_3_isRow ∈ sy_tb := sy_inx 427 (by decide +kernel) (by decide +kernel)
theorem iw_3_isFirst : Cond.code y_3_isFirst c_3_isFirst 2 (some .boolean) ∈ sy_tb ∧ Cond.initialized y_3_isFirst.cls ∈ sy_tb ∧ (y_3_isFirst.cls ≠ "java/lang/invoke/MethodHandle" ∧ y_3_isFirst.cls ≠ "java/lang/invoke/VarHandle" ∧ (parseMethodDescriptor y_3_isFirst.desc).map (fun d => d.parameters.length) = some 2) := ⟨sy_inx 432 (by decide +kernel) (by decide +kernel), sy_inx 46 (by decide +kernel) (by decide +kernel), by decide +kernel⟩
theorem is_3_isFirst : Cond.static y_3_isFirst ∈ sy_tb := sy_inx 431 (by decide +kernel) (by decide +kernel)
theorem co_3_put (l : Launch) : sy_calls l rm_3_put y_3_put.cls c_3_put 5 (fun ns => (M_3_put ns).2.2.2.2.1) := by
  intro p e s m args below meth c rt wd ad ns A Q X hA q b n sp h
  replace h : ct_3_put ns q = some (b, n, sp) := h
  unfold ct_3_put at h
  split at h
  · cases h; exact sy_coS X hA (mc_3_isRow l) ⟨iw_3_isRow.1, iw_3_isRow.2.1, iw_3_isRow.2.2, ⟨by decide, by decide⟩, rfl, rfl⟩ (sy_inx 426 (by decide +kernel) (by decide +kernel)) is_3_isRow
  · cases h; exact sy_coN (host := "StarHide") X hA (mc_8_within l) ⟨iw_8_within.1, iw_8_within.2.1, iw_8_within.2.2, ⟨by decide, by decide⟩, rfl, rfl⟩ (by decide +kernel) is_8_within
  · cases h; exact sy_coS X hA (mc_3_isFirst l) ⟨iw_3_isFirst.1, iw_3_isFirst.2.1, iw_3_isFirst.2.2, ⟨by decide, by decide⟩, rfl, rfl⟩ (sy_inx 430 (by decide +kernel) (by decide +kernel)) is_3_isFirst
  · cases h
theorem rc_3_put (ns : Nat) (as : List sy_V) (st : sy_S) (post : sy_R) (h : sp_3_put ns as st post) : ∃ b as', as = .inr (.inr (some (some b))) :: as' ∧ sy_ob b = some 3 := sy_m4_r rfl as st post h
theorem mc_3_put (l : Launch) : sy_MC l y_3_put c_3_put 5 (some .boolean) rm_3_put sp_3_put := by
  refine sy_meth M_3_put (by decide +kernel) mv_3_put (co_3_put l) ?_
  intro ns as st post WA h hok hrg ⟨hgo0, hin, hwk⟩
  have hgo : ∀ (n pc : Nat) (L k : List sy_V) (st : sy_S), rn_3_put ns (ct_3_put ns) post WA n pc L k st → WA pc L k st := fun n pc L k st h => hgo0 [] n pc L k st h
  replace h := sy_m4_e h hok
  obtain ⟨r, f, b, n, rfl, hr, hf, hb, hn, h⟩ := h
  refine ⟨Nat.le_of_ble_eq_true rfl, ?_⟩
  show WA 0 [.inr (.inr (some (some 3))), .inl (true, r), .inl (true, f), .inl (true, b), .inl (true, n)] [] st
  refine hgo 200 _ _ _ _ ?_
  simp -implicitDefEqProofs only [↓rx_3_put_0, ↓rx_3_put_1, ↓rx_3_put_4, ↓rx_3_put_7, ↓rx_3_put_8, ↓rx_3_put_9, ↓rx_3_put_12, ↓rx_3_put_15, ↓rx_3_put_18, ↓rx_3_put_20, ↓rx_3_put_21, ↓rx_3_put_23, ↓rx_3_put_26, ↓rx_3_put_29, ↓rx_3_put_30, ↓rx_3_put_31, ↓rx_3_put_34, ↓rx_3_put_37, ↓rx_3_put_38, ↓rx_3_put_39, ↓rx_3_put_40, ↓rx_3_put_41, ↓rx_3_put_44, ↓rx_3_put_45, ↓rx_3_put_46, ↓rx_3_put_48, ↓rx_3_put_49, ↓rx_3_put_50, ↓rx_3_put_51, ↓rx_3_put_52, ↓rx_3_put_55, ↓rx_3_put_58, ↓rx_3_put_59, ↓rx_3_put_60, ↓rx_3_put_61, ↓rx_3_put_64, ↓rx_3_put_65, ↓rx_3_put_66, ↓rx_3_put_67, ↓rx_3_put_68, ↓rx_3_put_71, ↓rx_3_put_72, ↓rx_3_put_73, ↓rx_3_put_74, ↓rx_3_put_75, ↓rx_3_put_78, ↓rx_3_put_79, ↓rx_3_put_81, ↓rx_3_put_82, ↓rx_3_put_83, ↓rx_3_put_84, ↓rx_3_put_87, ↓rx_3_put_88, ↓rx_3_put_89, ↓rx_3_put_90, ↓rx_3_put_93, ↓rx_3_put_94, ↓rx_3_put_95, ↓rx_3_put_96, ↓rx_3_put_97, ↓rx_3_put_100, ↓rx_3_put_101, ↓rx_3_put_102, ↓rx_3_put_103, ↓rx_3_put_106, ↓rx_3_put_107, ↓rx_3_put_108, ↓rx_3_put_111, ↓rx_3_put_112, ↓rx_3_put_113, ↓rx_3_put_114, ↓rx_3_put_117, ↓rx_3_put_118, ↓rx_3_put_121, ↓rx_3_put_122, ↓cx_3_put_32, ↓cx_3_put_36, ↓cx_3_put_42, sp_3_isFirst, sp_3_isRow, sp_8_within, ↓sx_s1, ↓sx_s2, ↓sx_s3, ↓sx_s4, ↓sx_s5, ↓sx_s6, ↓sx_m0, ↓sx_m1, ↓sx_m2, ↓sx_m3, ↓sx_m4, ↓sx_m5, ↓sx_m6, ↓sx_k0_, ↓sx_k1_, ↓sx_k2_, ↓sx_k3_, ↓sx_k4_, ↓sx_k5_, ↓sx_k6_, ↓sx_sLL, ↓sx_sAI, ↓sx_mLL, ↓sx_mIIL, ↓sx_mIILL, ↓sx_mIILLL, ↓sx_qS, ↓sx_qSI, ↓sx_qSIII, sx_rit, sx_rif, sx_rlt, sx_rlf, sx_b0, sx_b1, sx_o0, sx_o1i, sx_o1a, sx_o1l, sx_o2, sx_g0, sx_g1, sx_k1, sx_k2, sx_k3, sx_f1, sx_f2, sx_f3, sx_w0, sx_w1, sx_w2, sx_w3, sx_ts, sx_tn, sx_up, sx_nS1, sx_nS2, sx_nW1, sx_nW2, sx_SW, sx_WS, sy_nS_inj, sy_nW_inj, sx_ob0, sx_ob1, sx_ob2, sx_ob3, sx_ob4, sx_ob5, sx_ob6, sx_ob7, sx_ob8, sx_ob9, sx_ob10, sx_ob11, sx_ob12, sx_ob13, sx_ob14, sx_ob15, sx_ob16, sx_ob17, sx_ob18, sx_ob19, sx_ob20, sx_ob21, sx_ob22, sx_ob23, sx_ob24, sx_ob25, sx_ob26, sx_ob27, sx_ob28, sx_ob29, sx_ob30, sx_ob31, sx_ob32, sx_ob33, sx_ob34, sx_ob35, sx_ob36, sx_fv0_0, sx_fv0_1, sx_fv0_2, sx_fv0_3, sx_fv0_4, sx_fv0_5, sx_fv1_0, sx_fv1_1, sx_fv1_2, sx_fv3_0, sx_fv3_1, sx_fv3_2, sx_fv3_3, sx_fv3_4, sx_fv7_0, sx_fv7_1, sx_fv7_2, sx_fv7_3, sx_fv7_4, sx_fv7_5, sx_fv7_6, sx_fv7_7, sx_fv7_8, sx_fv7_9, sx_fv7_10, sx_fv9_0, sx_fv9_1, sx_fv9_2, sx_fv9_3, sx_fv11_0, sx_fv11_1, sx_fv11_2, sx_fv11_3, sx_fv11_4, sx_fv11_5, sx_fv11_6, sx_fv15_0, sx_fv15_1, sx_fv15_2, sx_fv15_3, sx_fv15_4, sx_fv15_5, sx_fv19_0, sx_fv19_1, sx_fv19_2, sx_fv19_3, sx_fv19_4, sx_fv19_5, sx_fv19_6, sx_fv24_0, sx_fv24_1, sx_fv24_2, sx_fv24_3, sx_fv24_4, sx_fv24_5, sx_fv24_6, sx_fv24_7, sx_fv24_8, sx_fv24_9, sx_fv24_10, sx_fv24_11, sx_fv24_12, sx_fv24_13, sx_fv24_14, sx_fv24_15, sx_fv24_16, sx_fv24_17, sx_fv24_18, sx_fvS_0, sx_fvS_1, sx_fvS_2, sx_fvS_3, sx_fvS_4, sx_fvS_5, sx_fvS_6, sx_fvS_7, sx_fvS_8, sx_fvS_9, sx_ar2, sx_ar4, sx_ar5, sx_ar6, sx_ar8, sx_ar10, sx_ar12, sx_ar13, sx_ar14, sx_ar16, sx_ar17, sx_ar18, sx_ar20, sx_ar21, sx_ar22, sx_ar23, sx_ar25, sx_ar26, sx_ar27, sx_ar28, sx_ar29, sx_ar30, sx_ar31, sx_ar32, sx_ar33, sx_ar34, sx_ar35, sx_ar36, sy_ob_S, sy_ob_W, sy_ar_W, sx_if0, sx_if1, sx_ie0, sx_em, Classical.not_not, sx_cle, sx_clt, sx_cge, sx_cgt, sx_ceq, Nat.reduceLT, Nat.reduceLeDiff, Nat.reduceAdd, Nat.reduceSub, Nat.reduceEqDiff, reduceIte, List.length_cons, List.length_nil, true_and, and_true, and_self, Bool.false_eq_true, true_implies, not_true_eq_false, not_false_eq_true, false_implies, implies_true, ne_eq, reduceCtorEq, Option.some.injEq, false_and, and_false, Int.reduceNeg, Int.reduceToNat, Int.reduceLT, Int.reduceLE, Int.reduceEq, Int.reduceAdd, Int.reduceSub, Int.reduceMul, or_false, false_or, or_true, true_or, forall_const, Int.toNat_natCast, Int.toNat_zero, Int.toNat_one, Nat.zero_add, or_self, Int.neg_eq_zero]
  obtain ⟨hnet, ht, hf0⟩ := h
  unfold sy_iR at hf hb hn hr
  have hmul : (1 ≤ n ∧ n ≤ 8) → (1 ≤ b ∧ b ≤ 1000) → 0 ≤ b * (n - 1) ∧ b * (n - 1) ≤ 7000 := fun p q => by
    have := Int.mul_nonneg (a := b) (b := n - 1) (by omega) (by omega)
    have := Int.mul_le_mul (a := b) (b := n - 1) (c := 1000) (d := 7) (by omega) (by omega) (by omega) (by omega)
    omega
  have eN : ∀ k, k < 4 → c_N (c_put0 st r.toNat f b n) k = (if k = r.toNat then n else st 6 k) := fun k hk => by
    rw [c_N_at _ hk]
    by_cases hr : k = r.toNat
    · simp [c_put0, sy_up, hr]
    · simp [c_put0, sy_up, hr]
  have hB : (1 ≤ n ∧ n ≤ 8) → ∀ k, k < 4 → 1 ≤ (if k = r.toNat then n else st 6 k) ∧ (if k = r.toNat then n else st 6 k) ≤ 8 := fun hn8 k hk => by
    rw [← eN k hk]; exact c_put0_N hnet hn8 k
  have hB0 := fun q => hB q 0 (by decide)
  have hB1 := fun q => hB q 1 (by decide)
  have hB2 := fun q => hB q 2 (by decide)
  have hB3 := fun q => hB q 3 (by decide)
  unfold c_put at ht
  simp only [eN 0 (by decide), eN 1 (by decide), eN 2 (by decide), eN 3 (by decide)] at ht
  unfold c_put0 at ht
  clear hB eN
  generalize (if 0 = r.toNat then n else st 6 0) = M0 at *
  generalize (if 1 = r.toNat then n else st 6 1) = M1 at *
  generalize (if 2 = r.toNat then n else st 6 2) = M2 at *
  generalize (if 3 = r.toNat then n else st 6 3) = M3 at *
  have hP3 : (1 ≤ n ∧ n ≤ 8) → 1 ≤ M1 * M2 * M3 ∧ M1 * M2 * M3 ≤ 512 := fun q => (x_prod3 (hB1 q) (hB2 q) (hB3 q)).2
  have hP4 : (1 ≤ n ∧ n ≤ 8) → 1 ≤ M0 * (M1 * M2 * M3) ∧ M0 * (M1 * M2 * M3) ≤ 4096 := fun q => x_prod2 (hB0 q) (hP3 q)
  unfold x_netk at ht hf0
  unfold x_fstk
  generalize M1 * M2 * M3 = P3 at *
  generalize M0 * P3 = P4 at *
  generalize b * (n - 1) = P at *
  clear hnet hgo hgo0 hin hwk hok hrg hB0 hB1 hB2 hB3
  (repeat' (first | apply And.intro | intro _)) <;> first | omega | (exfalso; omega) | (apply hf0; omega) | (apply ht; omega)
def sp_3_has (ns : Nat) : sy_Sp := sy_m1 3 fun f st post => c_net st ∧ post (some (.inl (true, if 0 ≤ f ∧ f < st 3 4 then 1 else 0))) st
theorem c_tot_r {st : sy_S} (h : c_net st) : (1 ≤ st 3 4 ∧ st 3 4 ≤ 4096) ∧ 1 ≤ st 3 3 ∧ st 3 3 ≤ 512 := by
  have a := (x_prod3 (xg_net_N h.1 1) (xg_net_N h.1 2) (xg_net_N h.1 3)).2
  rw [← h.2.1] at a
  have b := x_prod2 (xg_net_N h.1 0) a
  rw [← h.2.2] at b
  exact ⟨b, a⟩
def ct_3_has (ns q : Nat) : Option (Bool × Nat × sy_Sp) := match q with
  | _ => none
abbrev M_3_has (ns : Nat) : sy_M := Mk_3_has (ct_3_has ns)
theorem mv_3_has (ns : Nat) : sy_MV c_3_has y_3_has.cls (some .boolean) (M_3_has ns) := ⟨tv_3_has, ff_3_ok, ki_3_ok, kl_3_ok⟩
abbrev rm_3_has : Room := { frames := 0, cells := 0, slots := 0, locals := 0 }
theorem co_3_has (l : Launch) : sy_calls l rm_3_has y_3_has.cls c_3_has 2 (fun ns => (M_3_has ns).2.2.2.2.1) := by
  intro p e s m args below meth c rt wd ad ns A Q X hA q b n sp h
  replace h : ct_3_has ns q = some (b, n, sp) := h
  unfold ct_3_has at h
  cases h
theorem rc_3_has (ns : Nat) (as : List sy_V) (st : sy_S) (post : sy_R) (h : sp_3_has ns as st post) : ∃ b as', as = .inr (.inr (some (some b))) :: as' ∧ sy_ob b = some 3 := sy_m1_r rfl as st post h
theorem mc_3_has (l : Launch) : sy_MC l y_3_has c_3_has 2 (some .boolean) rm_3_has sp_3_has := by
  refine sy_meth M_3_has (by decide +kernel) mv_3_has (co_3_has l) ?_
  intro ns as st post WA h hok hrg ⟨hgo0, hin, hwk⟩
  have hgo : ∀ (n pc : Nat) (L k : List sy_V) (st : sy_S), rn_3_has ns (ct_3_has ns) post WA n pc L k st → WA pc L k st := fun n pc L k st h => hgo0 [] n pc L k st h
  replace h := sy_m1_e h hok
  obtain ⟨f, rfl, hf, h⟩ := h
  refine ⟨Nat.le_of_ble_eq_true rfl, ?_⟩
  show WA 0 [.inr (.inr (some (some 3))), .inl (true, f)] [] st
  refine hgo 100 _ _ _ _ ?_
  simp -implicitDefEqProofs only [↓rx_3_has_0, ↓rx_3_has_1, ↓rx_3_has_4, ↓rx_3_has_5, ↓rx_3_has_6, ↓rx_3_has_9, ↓rx_3_has_12, ↓rx_3_has_13, ↓rx_3_has_16, ↓rx_3_has_19, ↓rx_3_has_20, ↓rx_3_has_23, ↓rx_3_has_24, ↓sx_s1, ↓sx_s2, ↓sx_s3, ↓sx_s4, ↓sx_s5, ↓sx_s6, ↓sx_m0, ↓sx_m1, ↓sx_m2, ↓sx_m3, ↓sx_m4, ↓sx_m5, ↓sx_m6, ↓sx_k0_, ↓sx_k1_, ↓sx_k2_, ↓sx_k3_, ↓sx_k4_, ↓sx_k5_, ↓sx_k6_, ↓sx_sLL, ↓sx_sAI, ↓sx_mLL, ↓sx_mIIL, ↓sx_mIILL, ↓sx_mIILLL, ↓sx_qS, ↓sx_qSI, ↓sx_qSIII, sx_rit, sx_rif, sx_rlt, sx_rlf, sx_b0, sx_b1, sx_o0, sx_o1i, sx_o1a, sx_o1l, sx_o2, sx_g0, sx_g1, sx_k1, sx_k2, sx_k3, sx_f1, sx_f2, sx_f3, sx_w0, sx_w1, sx_w2, sx_w3, sx_ts, sx_tn, sx_up, sx_nS1, sx_nS2, sx_nW1, sx_nW2, sx_SW, sx_WS, sy_nS_inj, sy_nW_inj, sx_ob0, sx_ob1, sx_ob2, sx_ob3, sx_ob4, sx_ob5, sx_ob6, sx_ob7, sx_ob8, sx_ob9, sx_ob10, sx_ob11, sx_ob12, sx_ob13, sx_ob14, sx_ob15, sx_ob16, sx_ob17, sx_ob18, sx_ob19, sx_ob20, sx_ob21, sx_ob22, sx_ob23, sx_ob24, sx_ob25, sx_ob26, sx_ob27, sx_ob28, sx_ob29, sx_ob30, sx_ob31, sx_ob32, sx_ob33, sx_ob34, sx_ob35, sx_ob36, sx_fv0_0, sx_fv0_1, sx_fv0_2, sx_fv0_3, sx_fv0_4, sx_fv0_5, sx_fv1_0, sx_fv1_1, sx_fv1_2, sx_fv3_0, sx_fv3_1, sx_fv3_2, sx_fv3_3, sx_fv3_4, sx_fv7_0, sx_fv7_1, sx_fv7_2, sx_fv7_3, sx_fv7_4, sx_fv7_5, sx_fv7_6, sx_fv7_7, sx_fv7_8, sx_fv7_9, sx_fv7_10, sx_fv9_0, sx_fv9_1, sx_fv9_2, sx_fv9_3, sx_fv11_0, sx_fv11_1, sx_fv11_2, sx_fv11_3, sx_fv11_4, sx_fv11_5, sx_fv11_6, sx_fv15_0, sx_fv15_1, sx_fv15_2, sx_fv15_3, sx_fv15_4, sx_fv15_5, sx_fv19_0, sx_fv19_1, sx_fv19_2, sx_fv19_3, sx_fv19_4, sx_fv19_5, sx_fv19_6, sx_fv24_0, sx_fv24_1, sx_fv24_2, sx_fv24_3, sx_fv24_4, sx_fv24_5, sx_fv24_6, sx_fv24_7, sx_fv24_8, sx_fv24_9, sx_fv24_10, sx_fv24_11, sx_fv24_12, sx_fv24_13, sx_fv24_14, sx_fv24_15, sx_fv24_16, sx_fv24_17, sx_fv24_18, sx_fvS_0, sx_fvS_1, sx_fvS_2, sx_fvS_3, sx_fvS_4, sx_fvS_5, sx_fvS_6, sx_fvS_7, sx_fvS_8, sx_fvS_9, sx_ar2, sx_ar4, sx_ar5, sx_ar6, sx_ar8, sx_ar10, sx_ar12, sx_ar13, sx_ar14, sx_ar16, sx_ar17, sx_ar18, sx_ar20, sx_ar21, sx_ar22, sx_ar23, sx_ar25, sx_ar26, sx_ar27, sx_ar28, sx_ar29, sx_ar30, sx_ar31, sx_ar32, sx_ar33, sx_ar34, sx_ar35, sx_ar36, sy_ob_S, sy_ob_W, sy_ar_W, sx_if0, sx_if1, sx_ie0, sx_em, Classical.not_not, sx_cle, sx_clt, sx_cge, sx_cgt, sx_ceq, Nat.reduceLT, Nat.reduceLeDiff, Nat.reduceAdd, Nat.reduceSub, Nat.reduceEqDiff, reduceIte, List.length_cons, List.length_nil, true_and, and_true, and_self, Bool.false_eq_true, true_implies, not_true_eq_false, not_false_eq_true, false_implies, implies_true, ne_eq, reduceCtorEq, Option.some.injEq, false_and, and_false, Int.reduceNeg, Int.reduceToNat, Int.reduceLT, Int.reduceLE, Int.reduceEq, Int.reduceAdd, Int.reduceSub, Int.reduceMul, or_false, false_or, or_true, true_or, forall_const, Int.toNat_natCast, Int.toNat_zero, Int.toNat_one, Nat.zero_add, or_self, Int.neg_eq_zero]
  obtain ⟨hn, h⟩ := h
  have := c_tot_r hn
  by_cases hC : 0 ≤ f ∧ f < st 3 4
  · rw [if_pos hC] at h
    (repeat' (first | assumption | apply And.intro | intro _)) <;> first | omega | (exfalso; omega) | contradiction
  · rw [if_neg hC] at h
    (repeat' (first | assumption | apply And.intro | intro _)) <;> first | omega | (exfalso; omega) | contradiction
def sp_3_inRow (ns : Nat) : sy_Sp := sy_m1 3 fun r st post => (0 ≤ r ∧ r < 4) ∧ post (some (.inl (true, c_N st r.toNat))) st
def ct_3_inRow (ns q : Nat) : Option (Bool × Nat × sy_Sp) := match q with
  | _ => none
abbrev M_3_inRow (ns : Nat) : sy_M := Mk_3_inRow (ct_3_inRow ns)
theorem mv_3_inRow (ns : Nat) : sy_MV c_3_inRow y_3_inRow.cls (some .int) (M_3_inRow ns) := ⟨tv_3_inRow, ff_3_ok, ki_3_ok, kl_3_ok⟩
abbrev rm_3_inRow : Room := { frames := 0, cells := 0, slots := 0, locals := 0 }
theorem co_3_inRow (l : Launch) : sy_calls l rm_3_inRow y_3_inRow.cls c_3_inRow 2 (fun ns => (M_3_inRow ns).2.2.2.2.1) := by
  intro p e s m args below meth c rt wd ad ns A Q X hA q b n sp h
  replace h : ct_3_inRow ns q = some (b, n, sp) := h
  unfold ct_3_inRow at h
  cases h
theorem rc_3_inRow (ns : Nat) (as : List sy_V) (st : sy_S) (post : sy_R) (h : sp_3_inRow ns as st post) : ∃ b as', as = .inr (.inr (some (some b))) :: as' ∧ sy_ob b = some 3 := sy_m1_r rfl as st post h
theorem mc_3_inRow (l : Launch) : sy_MC l y_3_inRow c_3_inRow 2 (some .int) rm_3_inRow sp_3_inRow := by
  refine sy_meth M_3_inRow (by decide +kernel) mv_3_inRow (co_3_inRow l) ?_
  intro ns as st post WA h hok hrg ⟨hgo0, hin, hwk⟩
  have hgo : ∀ (n pc : Nat) (L k : List sy_V) (st : sy_S), rn_3_inRow ns (ct_3_inRow ns) post WA n pc L k st → WA pc L k st := fun n pc L k st h => hgo0 [] n pc L k st h
  replace h := sy_m1_e h hok
  obtain ⟨r, rfl, hr, h⟩ := h
  refine ⟨Nat.le_of_ble_eq_true rfl, ?_⟩
  show WA 0 [.inr (.inr (some (some 3))), .inl (true, r)] [] st
  refine hgo 100 _ _ _ _ ?_
  simp -implicitDefEqProofs only [↓rx_3_inRow_0, ↓rx_3_inRow_1, ↓rx_3_inRow_4, ↓rx_3_inRow_5, ↓rx_3_inRow_6, ↓rx_3_inRow_9, ↓rx_3_inRow_10, ↓rx_3_inRow_13, ↓rx_3_inRow_14, ↓rx_3_inRow_17, ↓rx_3_inRow_18, ↓rx_3_inRow_19, ↓sx_s1, ↓sx_s2, ↓sx_s3, ↓sx_s4, ↓sx_s5, ↓sx_s6, ↓sx_m0, ↓sx_m1, ↓sx_m2, ↓sx_m3, ↓sx_m4, ↓sx_m5, ↓sx_m6, ↓sx_k0_, ↓sx_k1_, ↓sx_k2_, ↓sx_k3_, ↓sx_k4_, ↓sx_k5_, ↓sx_k6_, ↓sx_sLL, ↓sx_sAI, ↓sx_mLL, ↓sx_mIIL, ↓sx_mIILL, ↓sx_mIILLL, ↓sx_qS, ↓sx_qSI, ↓sx_qSIII, sx_rit, sx_rif, sx_rlt, sx_rlf, sx_b0, sx_b1, sx_o0, sx_o1i, sx_o1a, sx_o1l, sx_o2, sx_g0, sx_g1, sx_k1, sx_k2, sx_k3, sx_f1, sx_f2, sx_f3, sx_w0, sx_w1, sx_w2, sx_w3, sx_ts, sx_tn, sx_up, sx_nS1, sx_nS2, sx_nW1, sx_nW2, sx_SW, sx_WS, sy_nS_inj, sy_nW_inj, sx_ob0, sx_ob1, sx_ob2, sx_ob3, sx_ob4, sx_ob5, sx_ob6, sx_ob7, sx_ob8, sx_ob9, sx_ob10, sx_ob11, sx_ob12, sx_ob13, sx_ob14, sx_ob15, sx_ob16, sx_ob17, sx_ob18, sx_ob19, sx_ob20, sx_ob21, sx_ob22, sx_ob23, sx_ob24, sx_ob25, sx_ob26, sx_ob27, sx_ob28, sx_ob29, sx_ob30, sx_ob31, sx_ob32, sx_ob33, sx_ob34, sx_ob35, sx_ob36, sx_fv0_0, sx_fv0_1, sx_fv0_2, sx_fv0_3, sx_fv0_4, sx_fv0_5, sx_fv1_0, sx_fv1_1, sx_fv1_2, sx_fv3_0, sx_fv3_1, sx_fv3_2, sx_fv3_3, sx_fv3_4, sx_fv7_0, sx_fv7_1, sx_fv7_2, sx_fv7_3, sx_fv7_4, sx_fv7_5, sx_fv7_6, sx_fv7_7, sx_fv7_8, sx_fv7_9, sx_fv7_10, sx_fv9_0, sx_fv9_1, sx_fv9_2, sx_fv9_3, sx_fv11_0, sx_fv11_1, sx_fv11_2, sx_fv11_3, sx_fv11_4, sx_fv11_5, sx_fv11_6, sx_fv15_0, sx_fv15_1, sx_fv15_2, sx_fv15_3, sx_fv15_4, sx_fv15_5, sx_fv19_0, sx_fv19_1, sx_fv19_2, sx_fv19_3, sx_fv19_4, sx_fv19_5, sx_fv19_6, sx_fv24_0, sx_fv24_1, sx_fv24_2, sx_fv24_3, sx_fv24_4, sx_fv24_5, sx_fv24_6, sx_fv24_7, sx_fv24_8, sx_fv24_9, sx_fv24_10, sx_fv24_11, sx_fv24_12, sx_fv24_13, sx_fv24_14, sx_fv24_15, sx_fv24_16, sx_fv24_17, sx_fv24_18, sx_fvS_0, sx_fvS_1, sx_fvS_2, sx_fvS_3, sx_fvS_4, sx_fvS_5, sx_fvS_6, sx_fvS_7, sx_fvS_8, sx_fvS_9, sx_ar2, sx_ar4, sx_ar5, sx_ar6, sx_ar8, sx_ar10, sx_ar12, sx_ar13, sx_ar14, sx_ar16, sx_ar17, sx_ar18, sx_ar20, sx_ar21, sx_ar22, sx_ar23, sx_ar25, sx_ar26, sx_ar27, sx_ar28, sx_ar29, sx_ar30, sx_ar31, sx_ar32, sx_ar33, sx_ar34, sx_ar35, sx_ar36, sy_ob_S, sy_ob_W, sy_ar_W, sx_if0, sx_if1, sx_ie0, sx_em, Classical.not_not, sx_cle, sx_clt, sx_cge, sx_cgt, sx_ceq, Nat.reduceLT, Nat.reduceLeDiff, Nat.reduceAdd, Nat.reduceSub, Nat.reduceEqDiff, reduceIte, List.length_cons, List.length_nil, true_and, and_true, and_self, Bool.false_eq_true, true_implies, not_true_eq_false, not_false_eq_true, false_implies, implies_true, ne_eq, reduceCtorEq, Option.some.injEq, false_and, and_false, Int.reduceNeg, Int.reduceToNat, Int.reduceLT, Int.reduceLE, Int.reduceEq, Int.reduceAdd, Int.reduceSub, Int.reduceMul, or_false, false_or, or_true, true_or, forall_const, Int.toNat_natCast, Int.toNat_zero, Int.toNat_one, Nat.zero_add, or_self, Int.neg_eq_zero]
  obtain ⟨hr1, h⟩ := h
  rw [c_N_at st (by omega)] at h
  (repeat' (first | assumption | apply And.intro | intro _)) <;> first | omega | (exfalso; omega) | contradiction
def sp_3_nth (ns : Nat) : sy_Sp := sy_m2 3 fun r k st post => (c_net st ∧ (0 ≤ r ∧ r < 4) ∧ 0 ≤ k ∧ k ≤ 8) ∧ post (some (.inl (true, c_F st r.toNat + c_B st r.toNat * k))) st
theorem c_nth_rng {st : sy_S} (h : c_net st) {r : Nat} (hr : r < 4) {k : Int} (hk : 0 ≤ k ∧ k ≤ 8) : -15000 ≤ c_F st r + c_B st r * k ∧ c_F st r + c_B st r * k ≤ 23000 ∧ 0 ≤ c_B st r * k ∧ c_B st r * k ≤ 8000 := by
  obtain ⟨b1, b2, n1, n2⟩ := h.1.1 r
  have := Int.mul_nonneg (a := c_B st r) (b := k) (by omega) (by omega)
  have := Int.mul_le_mul (a := c_B st r) (b := k) (c := 1000) (d := 8) (by omega) (by omega) (by omega) (by omega)
  obtain ⟨-, c0, c1, c2, c3⟩ := h.1
  have m2 := Int.mul_nonneg (a := c_B st 2) (b := c_N st 2 - 1) (by have := h.1.1 2; omega) (by have := h.1.1 2; omega)
  have m3 := Int.mul_nonneg (a := c_B st 3) (b := c_N st 3 - 1) (by have := h.1.1 3; omega) (by have := h.1.1 3; omega)
  rcases (show r = 0 ∨ r = 1 ∨ r = 2 ∨ r = 3 by omega) with rfl | rfl | rfl | rfl <;> omega
def ct_3_nth (ns q : Nat) : Option (Bool × Nat × sy_Sp) := match q with
  | _ => none
abbrev M_3_nth (ns : Nat) : sy_M := Mk_3_nth (ct_3_nth ns)
theorem mv_3_nth (ns : Nat) : sy_MV c_3_nth y_3_nth.cls (some .int) (M_3_nth ns) := ⟨tv_3_nth, ff_3_ok, ki_3_ok, kl_3_ok⟩
abbrev rm_3_nth : Room := { frames := 0, cells := 0, slots := 0, locals := 0 }
theorem co_3_nth (l : Launch) : sy_calls l rm_3_nth y_3_nth.cls c_3_nth 3 (fun ns => (M_3_nth ns).2.2.2.2.1) := by
  intro p e s m args below meth c rt wd ad ns A Q X hA q b n sp h
  replace h : ct_3_nth ns q = some (b, n, sp) := h
  unfold ct_3_nth at h
  cases h
theorem rc_3_nth (ns : Nat) (as : List sy_V) (st : sy_S) (post : sy_R) (h : sp_3_nth ns as st post) : ∃ b as', as = .inr (.inr (some (some b))) :: as' ∧ sy_ob b = some 3 := sy_m2_r rfl as st post h
theorem mc_3_nth (l : Launch) : sy_MC l y_3_nth c_3_nth 3 (some .int) rm_3_nth sp_3_nth := by
  refine sy_meth M_3_nth (by decide +kernel) mv_3_nth (co_3_nth l) ?_
  intro ns as st post WA h hok hrg ⟨hgo0, hin, hwk⟩
  have hgo : ∀ (n pc : Nat) (L k : List sy_V) (st : sy_S), rn_3_nth ns (ct_3_nth ns) post WA n pc L k st → WA pc L k st := fun n pc L k st h => hgo0 [] n pc L k st h
  replace h := sy_m2_e h hok
  obtain ⟨r, k, rfl, hr, hk, h⟩ := h
  refine ⟨Nat.le_of_ble_eq_true rfl, ?_⟩
  show WA 0 [.inr (.inr (some (some 3))), .inl (true, r), .inl (true, k)] [] st
  refine hgo 100 _ _ _ _ ?_
  simp -implicitDefEqProofs only [↓rx_3_nth_0, ↓rx_3_nth_1, ↓rx_3_nth_4, ↓rx_3_nth_5, ↓rx_3_nth_6, ↓rx_3_nth_9, ↓rx_3_nth_10, ↓rx_3_nth_13, ↓rx_3_nth_14, ↓rx_3_nth_17, ↓rx_3_nth_18, ↓rx_3_nth_19, ↓rx_3_nth_20, ↓rx_3_nth_23, ↓rx_3_nth_24, ↓rx_3_nth_25, ↓rx_3_nth_26, ↓rx_3_nth_27, ↓rx_3_nth_28, ↓sx_s1, ↓sx_s2, ↓sx_s3, ↓sx_s4, ↓sx_s5, ↓sx_s6, ↓sx_m0, ↓sx_m1, ↓sx_m2, ↓sx_m3, ↓sx_m4, ↓sx_m5, ↓sx_m6, ↓sx_k0_, ↓sx_k1_, ↓sx_k2_, ↓sx_k3_, ↓sx_k4_, ↓sx_k5_, ↓sx_k6_, ↓sx_sLL, ↓sx_sAI, ↓sx_mLL, ↓sx_mIIL, ↓sx_mIILL, ↓sx_mIILLL, ↓sx_qS, ↓sx_qSI, ↓sx_qSIII, sx_rit, sx_rif, sx_rlt, sx_rlf, sx_b0, sx_b1, sx_o0, sx_o1i, sx_o1a, sx_o1l, sx_o2, sx_g0, sx_g1, sx_k1, sx_k2, sx_k3, sx_f1, sx_f2, sx_f3, sx_w0, sx_w1, sx_w2, sx_w3, sx_ts, sx_tn, sx_up, sx_nS1, sx_nS2, sx_nW1, sx_nW2, sx_SW, sx_WS, sy_nS_inj, sy_nW_inj, sx_ob0, sx_ob1, sx_ob2, sx_ob3, sx_ob4, sx_ob5, sx_ob6, sx_ob7, sx_ob8, sx_ob9, sx_ob10, sx_ob11, sx_ob12, sx_ob13, sx_ob14, sx_ob15, sx_ob16, sx_ob17, sx_ob18, sx_ob19, sx_ob20, sx_ob21, sx_ob22, sx_ob23, sx_ob24, sx_ob25, sx_ob26, sx_ob27, sx_ob28, sx_ob29, sx_ob30, sx_ob31, sx_ob32, sx_ob33, sx_ob34, sx_ob35, sx_ob36, sx_fv0_0, sx_fv0_1, sx_fv0_2, sx_fv0_3, sx_fv0_4, sx_fv0_5, sx_fv1_0, sx_fv1_1, sx_fv1_2, sx_fv3_0, sx_fv3_1, sx_fv3_2, sx_fv3_3, sx_fv3_4, sx_fv7_0, sx_fv7_1, sx_fv7_2, sx_fv7_3, sx_fv7_4, sx_fv7_5, sx_fv7_6, sx_fv7_7, sx_fv7_8, sx_fv7_9, sx_fv7_10, sx_fv9_0, sx_fv9_1, sx_fv9_2, sx_fv9_3, sx_fv11_0, sx_fv11_1, sx_fv11_2, sx_fv11_3, sx_fv11_4, sx_fv11_5, sx_fv11_6, sx_fv15_0, sx_fv15_1, sx_fv15_2, sx_fv15_3, sx_fv15_4, sx_fv15_5, sx_fv19_0, sx_fv19_1, sx_fv19_2, sx_fv19_3, sx_fv19_4, sx_fv19_5, sx_fv19_6, sx_fv24_0, sx_fv24_1, sx_fv24_2, sx_fv24_3, sx_fv24_4, sx_fv24_5, sx_fv24_6, sx_fv24_7, sx_fv24_8, sx_fv24_9, sx_fv24_10, sx_fv24_11, sx_fv24_12, sx_fv24_13, sx_fv24_14, sx_fv24_15, sx_fv24_16, sx_fv24_17, sx_fv24_18, sx_fvS_0, sx_fvS_1, sx_fvS_2, sx_fvS_3, sx_fvS_4, sx_fvS_5, sx_fvS_6, sx_fvS_7, sx_fvS_8, sx_fvS_9, sx_ar2, sx_ar4, sx_ar5, sx_ar6, sx_ar8, sx_ar10, sx_ar12, sx_ar13, sx_ar14, sx_ar16, sx_ar17, sx_ar18, sx_ar20, sx_ar21, sx_ar22, sx_ar23, sx_ar25, sx_ar26, sx_ar27, sx_ar28, sx_ar29, sx_ar30, sx_ar31, sx_ar32, sx_ar33, sx_ar34, sx_ar35, sx_ar36, sy_ob_S, sy_ob_W, sy_ar_W, sx_if0, sx_if1, sx_ie0, sx_em, Classical.not_not, sx_cle, sx_clt, sx_cge, sx_cgt, sx_ceq, Nat.reduceLT, Nat.reduceLeDiff, Nat.reduceAdd, Nat.reduceSub, Nat.reduceEqDiff, reduceIte, List.length_cons, List.length_nil, true_and, and_true, and_self, Bool.false_eq_true, true_implies, not_true_eq_false, not_false_eq_true, false_implies, implies_true, ne_eq, reduceCtorEq, Option.some.injEq, false_and, and_false, Int.reduceNeg, Int.reduceToNat, Int.reduceLT, Int.reduceLE, Int.reduceEq, Int.reduceAdd, Int.reduceSub, Int.reduceMul, or_false, false_or, or_true, true_or, forall_const, Int.toNat_natCast, Int.toNat_zero, Int.toNat_one, Nat.zero_add, or_self, Int.neg_eq_zero]
  obtain ⟨⟨hn, hr1, hk1⟩, h⟩ := h
  have := c_nth_rng hn (r := r.toNat) (by omega) hk1
  unfold c_F at h this
  rw [c_B_at st (by omega)] at h this
  (repeat' (first | assumption | apply And.intro | intro _)) <;> first | omega | (exfalso; omega) | contradiction
def c_fg (st : sy_S) (f : Int) (w : Nat) : Int := xg_f (c_F st) (c_B st) (c_N st) f w
def sp_3_valueOf (ns : Nat) : sy_Sp := sy_m2 3 fun f w st post => (c_net st ∧ (0 ≤ f ∧ f < 4096) ∧ 0 ≤ w ∧ w ≤ 3) ∧ post (some (.inl (true, c_fg st f w.toNat))) st
def ct_3_valueOf (ns q : Nat) : Option (Bool × Nat × sy_Sp) := match q with
  | 46 => some (false, 2, sp_3_inRow ns)
  | 50 => some (true, 2, sp_M_maxI ns)
  | 56 => some (false, 3, sp_3_nth ns)
  | _ => none
abbrev M_3_valueOf (ns : Nat) : sy_M := Mk_3_valueOf (ct_3_valueOf ns)
theorem cx_3_valueOf_46 {ns : Nat} {v1 v2 : sy_V} {r : List sy_V} {s : sy_S} {f : List sy_V → sy_S → Prop} : sy_call false (ct_3_valueOf ns 46) (v2 :: v1 :: r) s f = (sy_wd r ≤ 8 ∧ (sy_fit v2 ∧ sy_fit v1) ∧ sp_3_inRow ns [sy_kn v1, sy_kn v2] s (fun q t => f (q.toList ++ r) t)) := sx_call2
theorem cx_3_valueOf_50 {ns : Nat} {v1 v2 : sy_V} {r : List sy_V} {s : sy_S} {f : List sy_V → sy_S → Prop} : sy_call true (ct_3_valueOf ns 50) (v2 :: v1 :: r) s f = (sy_wd r ≤ 8 ∧ (sy_fit v2 ∧ sy_fit v1) ∧ sp_M_maxI ns [sy_kn v1, sy_kn v2] s (fun q t => f (q.toList ++ r) t)) := sx_call2
theorem cx_3_valueOf_56 {ns : Nat} {v1 v2 v3 : sy_V} {r : List sy_V} {s : sy_S} {f : List sy_V → sy_S → Prop} : sy_call false (ct_3_valueOf ns 56) (v3 :: v2 :: v1 :: r) s f = (sy_wd r ≤ 8 ∧ (sy_fit v3 ∧ sy_fit v2 ∧ sy_fit v1) ∧ sp_3_nth ns [sy_kn v1, sy_kn v2, sy_kn v3] s (fun q t => f (q.toList ++ r) t)) := sx_call3
theorem mv_3_valueOf (ns : Nat) : sy_MV c_3_valueOf y_3_valueOf.cls (some .int) (M_3_valueOf ns) := ⟨tv_3_valueOf, ff_3_ok, ki_3_ok, kl_3_ok⟩
abbrev rm_3_valueOf : Room := { frames := 1, cells := 0, slots := 0, locals := 22 }
theorem iw_3_inRow : Cond.code y_3_inRow c_3_inRow 2 (some .int) ∈ sy_tb ∧ Cond.initialized y_3_inRow.cls ∈ sy_tb ∧ (y_3_inRow.cls ≠ "java/lang/invoke/MethodHandle" ∧ y_3_inRow.cls ≠ "java/lang/invoke/VarHandle" ∧ (parseMethodDescriptor y_3_inRow.desc).map (fun d => d.parameters.length) = some 1) := ⟨sy_inx 458 (by decide +kernel) (by decide +kernel), sy_inx 46 (by decide +kernel) (by decide +kernel), by decide +kernel⟩
theorem ii_3_inRow : Cond.instanceMethod y_3_inRow ∈ sy_tb ∧ Cond.selects y_3_inRow.cls y_3_inRow y_3_inRow ∈ sy_tb := ⟨sy_inx 456 (by decide +kernel) (by decide +kernel), sy_inx 457 (by decide +kernel) (by decide +kernel)⟩
theorem iw_3_nth : Cond.code y_3_nth c_3_nth 3 (some .int) ∈ sy_tb ∧ Cond.initialized y_3_nth.cls ∈ sy_tb ∧ (y_3_nth.cls ≠ "java/lang/invoke/MethodHandle" ∧ y_3_nth.cls ≠ "java/lang/invoke/VarHandle" ∧ (parseMethodDescriptor y_3_nth.desc).map (fun d => d.parameters.length) = some 2) := ⟨sy_inx 465 (by decide +kernel) (by decide +kernel), sy_inx 46 (by decide +kernel) (by decide +kernel), by decide +kernel⟩
theorem ii_3_nth : Cond.instanceMethod y_3_nth ∈ sy_tb ∧ Cond.selects y_3_nth.cls y_3_nth y_3_nth ∈ sy_tb := ⟨sy_inx 463 (by decide +kernel) (by decide +kernel), sy_inx 464 (by decide +kernel) (by decide +kernel)⟩
theorem co_3_valueOf (l : Launch) : sy_calls l rm_3_valueOf y_3_valueOf.cls c_3_valueOf 5 (fun ns => (M_3_valueOf ns).2.2.2.2.1) := by
  intro p e s m args below meth c rt wd ad ns A Q X hA q b n sp h
  replace h : ct_3_valueOf ns q = some (b, n, sp) := h
  unfold ct_3_valueOf at h
  split at h
  · cases h; exact sy_coV (ci := 3) X hA (mc_3_inRow l) ⟨iw_3_inRow.1, iw_3_inRow.2.1, iw_3_inRow.2.2, ⟨by decide, by decide⟩, rfl, rfl⟩ (sy_inx 455 (by decide +kernel) (by decide +kernel)) ii_3_inRow.1 ii_3_inRow.2 (rc_3_inRow ns) ⟨_, rfl, rfl⟩
  · cases h; exact sy_coS X hA (mc_M_maxI l) ⟨iw_M_maxI.1, iw_M_maxI.2.1, iw_M_maxI.2.2, ⟨by decide, by decide⟩, rfl, rfl⟩ (sy_inx 459 (by decide +kernel) (by decide +kernel)) is_M_maxI
  · cases h; exact sy_coV (ci := 3) X hA (mc_3_nth l) ⟨iw_3_nth.1, iw_3_nth.2.1, iw_3_nth.2.2, ⟨by decide, by decide⟩, rfl, rfl⟩ (sy_inx 462 (by decide +kernel) (by decide +kernel)) ii_3_nth.1 ii_3_nth.2 (rc_3_nth ns) ⟨_, rfl, rfl⟩
  · cases h
theorem rc_3_valueOf (ns : Nat) (as : List sy_V) (st : sy_S) (post : sy_R) (h : sp_3_valueOf ns as st post) : ∃ b as', as = .inr (.inr (some (some b))) :: as' ∧ sy_ob b = some 3 := sy_m2_r rfl as st post h
theorem mc_3_valueOf (l : Launch) : sy_MC l y_3_valueOf c_3_valueOf 5 (some .int) rm_3_valueOf sp_3_valueOf := by
  refine sy_meth M_3_valueOf (by decide +kernel) mv_3_valueOf (co_3_valueOf l) ?_
  intro ns as st post WA h hok hrg ⟨hgo0, hin, hwk⟩
  have hgo : ∀ (n pc : Nat) (L k : List sy_V) (st : sy_S), rn_3_valueOf ns (ct_3_valueOf ns) post WA n pc L k st → WA pc L k st := fun n pc L k st h => hgo0 [5] n pc L k st h
  replace h := sy_m2_e h hok
  obtain ⟨f, w, rfl, hf, hw, h⟩ := h
  refine ⟨Nat.le_of_ble_eq_true rfl, ?_⟩
  show WA 0 [.inr (.inr (some (some 3))), .inl (true, f), .inl (true, w), .inr (.inr none), .inr (.inr none)] [] st
  obtain ⟨⟨hm, hf1, hw1⟩, h⟩ := h
  have hN := fun r => xg_net_N hm.1 r
  have hmx : ∀ r, (if c_N st r ≤ 1 then 1 else c_N st r) = c_N st r := fun r => by have := hN r; split <;> omega
  have key : ∀ (d r : Nat), (r : Int) = w + d → r ≤ 3 → WA 5 [.inr (.inr (some (some 3))), .inl (true, f), .inl (true, w), .inl (true, xg_k (c_N st) f r), .inl (true, (r : Int))] [] st := by
    intro d
    induction d with
    | zero =>
      intro r hr hr3
      refine hgo 100 _ _ _ _ ?_
      simp -implicitDefEqProofs only [↓rx_3_valueOf_0, ↓rx_3_valueOf_1, ↓rx_3_valueOf_2, ↓rx_3_valueOf_3, ↓rx_3_valueOf_5, ↓rx_3_valueOf_7, ↓rx_3_valueOf_8, ↓rx_3_valueOf_11, ↓rx_3_valueOf_12, ↓rx_3_valueOf_13, ↓rx_3_valueOf_14, ↓rx_3_valueOf_16, ↓rx_3_valueOf_19, ↓rx_3_valueOf_22, ↓rx_3_valueOf_23, ↓rx_3_valueOf_24, ↓rx_3_valueOf_27, ↓rx_3_valueOf_30, ↓rx_3_valueOf_31, ↓rx_3_valueOf_32, ↓rx_3_valueOf_33, ↓rx_3_valueOf_34, ↓rx_3_valueOf_35, ↓rx_3_valueOf_36, ↓rx_3_valueOf_39, ↓rx_3_valueOf_42, ↓rx_3_valueOf_43, ↓rx_3_valueOf_46, ↓cx_3_valueOf_46, ↓cx_3_valueOf_50, ↓cx_3_valueOf_56, sp_3_inRow, sp_3_nth, sp_M_maxI, hmx, ↓sx_s1, ↓sx_s2, ↓sx_s3, ↓sx_s4, ↓sx_s5, ↓sx_s6, ↓sx_m0, ↓sx_m1, ↓sx_m2, ↓sx_m3, ↓sx_m4, ↓sx_m5, ↓sx_m6, ↓sx_k0_, ↓sx_k1_, ↓sx_k2_, ↓sx_k3_, ↓sx_k4_, ↓sx_k5_, ↓sx_k6_, ↓sx_sLL, ↓sx_sAI, ↓sx_mLL, ↓sx_mIIL, ↓sx_mIILL, ↓sx_mIILLL, ↓sx_qS, ↓sx_qSI, ↓sx_qSIII, sx_rit, sx_rif, sx_rlt, sx_rlf, sx_b0, sx_b1, sx_o0, sx_o1i, sx_o1a, sx_o1l, sx_o2, sx_g0, sx_g1, sx_k1, sx_k2, sx_k3, sx_f1, sx_f2, sx_f3, sx_w0, sx_w1, sx_w2, sx_w3, sx_ts, sx_tn, sx_up, sx_nS1, sx_nS2, sx_nW1, sx_nW2, sx_SW, sx_WS, sy_nS_inj, sy_nW_inj, sx_ob0, sx_ob1, sx_ob2, sx_ob3, sx_ob4, sx_ob5, sx_ob6, sx_ob7, sx_ob8, sx_ob9, sx_ob10, sx_ob11, sx_ob12, sx_ob13, sx_ob14, sx_ob15, sx_ob16, sx_ob17, sx_ob18, sx_ob19, sx_ob20, sx_ob21, sx_ob22, sx_ob23, sx_ob24, sx_ob25, sx_ob26, sx_ob27, sx_ob28, sx_ob29, sx_ob30, sx_ob31, sx_ob32, sx_ob33, sx_ob34, sx_ob35, sx_ob36, sx_fv0_0, sx_fv0_1, sx_fv0_2, sx_fv0_3, sx_fv0_4, sx_fv0_5, sx_fv1_0, sx_fv1_1, sx_fv1_2, sx_fv3_0, sx_fv3_1, sx_fv3_2, sx_fv3_3, sx_fv3_4, sx_fv7_0, sx_fv7_1, sx_fv7_2, sx_fv7_3, sx_fv7_4, sx_fv7_5, sx_fv7_6, sx_fv7_7, sx_fv7_8, sx_fv7_9, sx_fv7_10, sx_fv9_0, sx_fv9_1, sx_fv9_2, sx_fv9_3, sx_fv11_0, sx_fv11_1, sx_fv11_2, sx_fv11_3, sx_fv11_4, sx_fv11_5, sx_fv11_6, sx_fv15_0, sx_fv15_1, sx_fv15_2, sx_fv15_3, sx_fv15_4, sx_fv15_5, sx_fv19_0, sx_fv19_1, sx_fv19_2, sx_fv19_3, sx_fv19_4, sx_fv19_5, sx_fv19_6, sx_fv24_0, sx_fv24_1, sx_fv24_2, sx_fv24_3, sx_fv24_4, sx_fv24_5, sx_fv24_6, sx_fv24_7, sx_fv24_8, sx_fv24_9, sx_fv24_10, sx_fv24_11, sx_fv24_12, sx_fv24_13, sx_fv24_14, sx_fv24_15, sx_fv24_16, sx_fv24_17, sx_fv24_18, sx_fvS_0, sx_fvS_1, sx_fvS_2, sx_fvS_3, sx_fvS_4, sx_fvS_5, sx_fvS_6, sx_fvS_7, sx_fvS_8, sx_fvS_9, sx_ar2, sx_ar4, sx_ar5, sx_ar6, sx_ar8, sx_ar10, sx_ar12, sx_ar13, sx_ar14, sx_ar16, sx_ar17, sx_ar18, sx_ar20, sx_ar21, sx_ar22, sx_ar23, sx_ar25, sx_ar26, sx_ar27, sx_ar28, sx_ar29, sx_ar30, sx_ar31, sx_ar32, sx_ar33, sx_ar34, sx_ar35, sx_ar36, sy_ob_S, sy_ob_W, sy_ar_W, sx_if0, sx_if1, sx_ie0, sx_em, Classical.not_not, sx_cle, sx_clt, sx_cge, sx_cgt, sx_ceq, Nat.reduceLT, Nat.reduceLeDiff, Nat.reduceAdd, Nat.reduceSub, Nat.reduceEqDiff, reduceIte, List.length_cons, List.length_nil, true_and, and_true, and_self, Bool.false_eq_true, true_implies, not_true_eq_false, not_false_eq_true, false_implies, implies_true, ne_eq, reduceCtorEq, Option.some.injEq, false_and, and_false, Int.reduceNeg, Int.reduceToNat, Int.reduceLT, Int.reduceLE, Int.reduceEq, Int.reduceAdd, Int.reduceSub, Int.reduceMul, or_false, false_or, or_true, true_or, forall_const, Int.toNat_natCast, Int.toNat_zero, Int.toNat_one, Nat.zero_add, or_self, Int.neg_eq_zero]
      have ew : w.toNat = r := by omega
      have hk := xg_k_pos hN (f := f) hf1.1 r
      have hn := hN r
      have hm1 := Int.emod_nonneg (xg_k (c_N st) f r) (b := c_N st r) (by omega)
      have hm2 := Int.emod_lt_of_pos (xg_k (c_N st) f r) (b := c_N st r) (by omega)
      rw [ew] at h
      unfold c_fg xg_f at h
      rw [ew, Int.tmod_eq_emod_of_nonneg hk.1]
      refine ⟨fun _ => ⟨by omega, by omega, ⟨by omega, by omega⟩, ⟨hm, by omega, by omega, by omega⟩, h⟩, fun q => by omega⟩
    | succ d ih =>
      intro r hr hr3
      refine hgo 100 _ _ _ _ ?_
      simp -implicitDefEqProofs only [↓rx_3_valueOf_0, ↓rx_3_valueOf_1, ↓rx_3_valueOf_2, ↓rx_3_valueOf_3, ↓rx_3_valueOf_5, ↓rx_3_valueOf_7, ↓rx_3_valueOf_8, ↓rx_3_valueOf_11, ↓rx_3_valueOf_12, ↓rx_3_valueOf_13, ↓rx_3_valueOf_14, ↓rx_3_valueOf_16, ↓rx_3_valueOf_19, ↓rx_3_valueOf_22, ↓rx_3_valueOf_23, ↓rx_3_valueOf_24, ↓rx_3_valueOf_27, ↓rx_3_valueOf_30, ↓rx_3_valueOf_31, ↓rx_3_valueOf_32, ↓rx_3_valueOf_33, ↓rx_3_valueOf_34, ↓rx_3_valueOf_35, ↓rx_3_valueOf_36, ↓rx_3_valueOf_39, ↓rx_3_valueOf_42, ↓rx_3_valueOf_43, ↓rx_3_valueOf_46, ↓cx_3_valueOf_46, ↓cx_3_valueOf_50, ↓cx_3_valueOf_56, sp_3_inRow, sp_3_nth, sp_M_maxI, hmx, ↓sx_s1, ↓sx_s2, ↓sx_s3, ↓sx_s4, ↓sx_s5, ↓sx_s6, ↓sx_m0, ↓sx_m1, ↓sx_m2, ↓sx_m3, ↓sx_m4, ↓sx_m5, ↓sx_m6, ↓sx_k0_, ↓sx_k1_, ↓sx_k2_, ↓sx_k3_, ↓sx_k4_, ↓sx_k5_, ↓sx_k6_, ↓sx_sLL, ↓sx_sAI, ↓sx_mLL, ↓sx_mIIL, ↓sx_mIILL, ↓sx_mIILLL, ↓sx_qS, ↓sx_qSI, ↓sx_qSIII, sx_rit, sx_rif, sx_rlt, sx_rlf, sx_b0, sx_b1, sx_o0, sx_o1i, sx_o1a, sx_o1l, sx_o2, sx_g0, sx_g1, sx_k1, sx_k2, sx_k3, sx_f1, sx_f2, sx_f3, sx_w0, sx_w1, sx_w2, sx_w3, sx_ts, sx_tn, sx_up, sx_nS1, sx_nS2, sx_nW1, sx_nW2, sx_SW, sx_WS, sy_nS_inj, sy_nW_inj, sx_ob0, sx_ob1, sx_ob2, sx_ob3, sx_ob4, sx_ob5, sx_ob6, sx_ob7, sx_ob8, sx_ob9, sx_ob10, sx_ob11, sx_ob12, sx_ob13, sx_ob14, sx_ob15, sx_ob16, sx_ob17, sx_ob18, sx_ob19, sx_ob20, sx_ob21, sx_ob22, sx_ob23, sx_ob24, sx_ob25, sx_ob26, sx_ob27, sx_ob28, sx_ob29, sx_ob30, sx_ob31, sx_ob32, sx_ob33, sx_ob34, sx_ob35, sx_ob36, sx_fv0_0, sx_fv0_1, sx_fv0_2, sx_fv0_3, sx_fv0_4, sx_fv0_5, sx_fv1_0, sx_fv1_1, sx_fv1_2, sx_fv3_0, sx_fv3_1, sx_fv3_2, sx_fv3_3, sx_fv3_4, sx_fv7_0, sx_fv7_1, sx_fv7_2, sx_fv7_3, sx_fv7_4, sx_fv7_5, sx_fv7_6, sx_fv7_7, sx_fv7_8, sx_fv7_9, sx_fv7_10, sx_fv9_0, sx_fv9_1, sx_fv9_2, sx_fv9_3, sx_fv11_0, sx_fv11_1, sx_fv11_2, sx_fv11_3, sx_fv11_4, sx_fv11_5, sx_fv11_6, sx_fv15_0, sx_fv15_1, sx_fv15_2, sx_fv15_3, sx_fv15_4, sx_fv15_5, sx_fv19_0, sx_fv19_1, sx_fv19_2, sx_fv19_3, sx_fv19_4, sx_fv19_5, sx_fv19_6, sx_fv24_0, sx_fv24_1, sx_fv24_2, sx_fv24_3, sx_fv24_4, sx_fv24_5, sx_fv24_6, sx_fv24_7, sx_fv24_8, sx_fv24_9, sx_fv24_10, sx_fv24_11, sx_fv24_12, sx_fv24_13, sx_fv24_14, sx_fv24_15, sx_fv24_16, sx_fv24_17, sx_fv24_18, sx_fvS_0, sx_fvS_1, sx_fvS_2, sx_fvS_3, sx_fvS_4, sx_fvS_5, sx_fvS_6, sx_fvS_7, sx_fvS_8, sx_fvS_9, sx_ar2, sx_ar4, sx_ar5, sx_ar6, sx_ar8, sx_ar10, sx_ar12, sx_ar13, sx_ar14, sx_ar16, sx_ar17, sx_ar18, sx_ar20, sx_ar21, sx_ar22, sx_ar23, sx_ar25, sx_ar26, sx_ar27, sx_ar28, sx_ar29, sx_ar30, sx_ar31, sx_ar32, sx_ar33, sx_ar34, sx_ar35, sx_ar36, sy_ob_S, sy_ob_W, sy_ar_W, sx_if0, sx_if1, sx_ie0, sx_em, Classical.not_not, sx_cle, sx_clt, sx_cge, sx_cgt, sx_ceq, Nat.reduceLT, Nat.reduceLeDiff, Nat.reduceAdd, Nat.reduceSub, Nat.reduceEqDiff, reduceIte, List.length_cons, List.length_nil, true_and, and_true, and_self, Bool.false_eq_true, true_implies, not_true_eq_false, not_false_eq_true, false_implies, implies_true, ne_eq, reduceCtorEq, Option.some.injEq, false_and, and_false, Int.reduceNeg, Int.reduceToNat, Int.reduceLT, Int.reduceLE, Int.reduceEq, Int.reduceAdd, Int.reduceSub, Int.reduceMul, or_false, false_or, or_true, true_or, forall_const, Int.toNat_natCast, Int.toNat_zero, Int.toNat_one, Nat.zero_add, or_self, Int.neg_eq_zero]
      have hk := xg_k_pos hN (f := f) hf1.1 r
      have hk1 := xg_k_pos hN (f := f) hf1.1 (r - 1)
      have hn := hN r
      have hnx := xg_k_next (c_N st) f (r := r) (by omega)
      have := ih (r - 1) (by omega) (by omega)
      rw [Int.tdiv_eq_ediv_of_nonneg hk.1, hnx, show (r : Int) + -1 = ((r - 1 : Nat) : Int) by omega]
      exact ⟨fun q => by omega, fun _ => ⟨by omega, by omega, by omega, by omega, this⟩⟩
  refine hgo 100 _ _ _ _ ?_
  simp -implicitDefEqProofs only [↓rx_3_valueOf_0, ↓rx_3_valueOf_1, ↓rx_3_valueOf_2, ↓rx_3_valueOf_3, ↓rx_3_valueOf_5, ↓rx_3_valueOf_7, ↓rx_3_valueOf_8, ↓rx_3_valueOf_11, ↓rx_3_valueOf_12, ↓rx_3_valueOf_13, ↓rx_3_valueOf_14, ↓rx_3_valueOf_16, ↓rx_3_valueOf_19, ↓rx_3_valueOf_22, ↓rx_3_valueOf_23, ↓rx_3_valueOf_24, ↓rx_3_valueOf_27, ↓rx_3_valueOf_30, ↓rx_3_valueOf_31, ↓rx_3_valueOf_32, ↓rx_3_valueOf_33, ↓rx_3_valueOf_34, ↓rx_3_valueOf_35, ↓rx_3_valueOf_36, ↓rx_3_valueOf_39, ↓rx_3_valueOf_42, ↓rx_3_valueOf_43, ↓rx_3_valueOf_46, ↓cx_3_valueOf_46, ↓cx_3_valueOf_50, ↓cx_3_valueOf_56, sp_3_inRow, sp_3_nth, sp_M_maxI, ↓sx_s1, ↓sx_s2, ↓sx_s3, ↓sx_s4, ↓sx_s5, ↓sx_s6, ↓sx_m0, ↓sx_m1, ↓sx_m2, ↓sx_m3, ↓sx_m4, ↓sx_m5, ↓sx_m6, ↓sx_k0_, ↓sx_k1_, ↓sx_k2_, ↓sx_k3_, ↓sx_k4_, ↓sx_k5_, ↓sx_k6_, ↓sx_sLL, ↓sx_sAI, ↓sx_mLL, ↓sx_mIIL, ↓sx_mIILL, ↓sx_mIILLL, ↓sx_qS, ↓sx_qSI, ↓sx_qSIII, sx_rit, sx_rif, sx_rlt, sx_rlf, sx_b0, sx_b1, sx_o0, sx_o1i, sx_o1a, sx_o1l, sx_o2, sx_g0, sx_g1, sx_k1, sx_k2, sx_k3, sx_f1, sx_f2, sx_f3, sx_w0, sx_w1, sx_w2, sx_w3, sx_ts, sx_tn, sx_up, sx_nS1, sx_nS2, sx_nW1, sx_nW2, sx_SW, sx_WS, sy_nS_inj, sy_nW_inj, sx_ob0, sx_ob1, sx_ob2, sx_ob3, sx_ob4, sx_ob5, sx_ob6, sx_ob7, sx_ob8, sx_ob9, sx_ob10, sx_ob11, sx_ob12, sx_ob13, sx_ob14, sx_ob15, sx_ob16, sx_ob17, sx_ob18, sx_ob19, sx_ob20, sx_ob21, sx_ob22, sx_ob23, sx_ob24, sx_ob25, sx_ob26, sx_ob27, sx_ob28, sx_ob29, sx_ob30, sx_ob31, sx_ob32, sx_ob33, sx_ob34, sx_ob35, sx_ob36, sx_fv0_0, sx_fv0_1, sx_fv0_2, sx_fv0_3, sx_fv0_4, sx_fv0_5, sx_fv1_0, sx_fv1_1, sx_fv1_2, sx_fv3_0, sx_fv3_1, sx_fv3_2, sx_fv3_3, sx_fv3_4, sx_fv7_0, sx_fv7_1, sx_fv7_2, sx_fv7_3, sx_fv7_4, sx_fv7_5, sx_fv7_6, sx_fv7_7, sx_fv7_8, sx_fv7_9, sx_fv7_10, sx_fv9_0, sx_fv9_1, sx_fv9_2, sx_fv9_3, sx_fv11_0, sx_fv11_1, sx_fv11_2, sx_fv11_3, sx_fv11_4, sx_fv11_5, sx_fv11_6, sx_fv15_0, sx_fv15_1, sx_fv15_2, sx_fv15_3, sx_fv15_4, sx_fv15_5, sx_fv19_0, sx_fv19_1, sx_fv19_2, sx_fv19_3, sx_fv19_4, sx_fv19_5, sx_fv19_6, sx_fv24_0, sx_fv24_1, sx_fv24_2, sx_fv24_3, sx_fv24_4, sx_fv24_5, sx_fv24_6, sx_fv24_7, sx_fv24_8, sx_fv24_9, sx_fv24_10, sx_fv24_11, sx_fv24_12, sx_fv24_13, sx_fv24_14, sx_fv24_15, sx_fv24_16, sx_fv24_17, sx_fv24_18, sx_fvS_0, sx_fvS_1, sx_fvS_2, sx_fvS_3, sx_fvS_4, sx_fvS_5, sx_fvS_6, sx_fvS_7, sx_fvS_8, sx_fvS_9, sx_ar2, sx_ar4, sx_ar5, sx_ar6, sx_ar8, sx_ar10, sx_ar12, sx_ar13, sx_ar14, sx_ar16, sx_ar17, sx_ar18, sx_ar20, sx_ar21, sx_ar22, sx_ar23, sx_ar25, sx_ar26, sx_ar27, sx_ar28, sx_ar29, sx_ar30, sx_ar31, sx_ar32, sx_ar33, sx_ar34, sx_ar35, sx_ar36, sy_ob_S, sy_ob_W, sy_ar_W, sx_if0, sx_if1, sx_ie0, sx_em, Classical.not_not, sx_cle, sx_clt, sx_cge, sx_cgt, sx_ceq, Nat.reduceLT, Nat.reduceLeDiff, Nat.reduceAdd, Nat.reduceSub, Nat.reduceEqDiff, reduceIte, List.length_cons, List.length_nil, true_and, and_true, and_self, Bool.false_eq_true, true_implies, not_true_eq_false, not_false_eq_true, false_implies, implies_true, ne_eq, reduceCtorEq, Option.some.injEq, false_and, and_false, Int.reduceNeg, Int.reduceToNat, Int.reduceLT, Int.reduceLE, Int.reduceEq, Int.reduceAdd, Int.reduceSub, Int.reduceMul, or_false, false_or, or_true, true_or, forall_const, Int.toNat_natCast, Int.toNat_zero, Int.toNat_one, Nat.zero_add, or_self, Int.neg_eq_zero]
  exact key (3 - w.toNat) 3 (by omega) (by omega)
