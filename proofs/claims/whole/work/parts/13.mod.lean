/-! THE MODEL: what its cells mean, and its small methods -/
/-- an ellipse of half widths w, h: it goes at the height d away from its middle; its half width there against q -/
def xg_on (h d : Int) : Bool := decide (-h < d ∧ d < h)
def xg_le (w h d q : Int) : Bool := decide (0 ≤ q ∧ w * w * (h * h - d * d) ≤ q * q * h * h)
def xg_ge (w h d q : Int) : Bool := decide (q < 0 ∨ q * q * h * h ≤ w * w * (h * h - d * d))
/-- whether it agrees with a report (kind; the places of its ticks) at the height Y -/
def xg_ag (x y w h Y kd pa pb pc pd : Int) : Bool :=
  if kd = 1 then xg_on h (Y - y) && (xg_le w h (Y - y) (x - pa) && xg_ge w h (Y - y) (x - pb) && (xg_ge w h (Y - y) (pc - x) && xg_le w h (Y - y) (pd - x)))
  else if kd = 2 then !xg_on h (Y - y) || (xg_le w h (Y - y) (x - pb) || xg_le w h (Y - y) (pa - x)) else true
/-- the number in its row of a figure's part: by how many each later row has -/
def xg_k (N : Nat → Int) (f : Int) (w : Nat) : Int := match w with
  | 0 => f / N 3 / N 2 / N 1
  | 1 => f / N 3 / N 2
  | 2 => f / N 3
  | _ => f
def xg_f (F B N : Nat → Int) (f : Int) (w : Nat) : Int := F w + B w * (xg_k N f w % N w)
/-- a net that can be -/
def xg_net (F B N : Nat → Int) : Prop :=
  (∀ r, 1 ≤ B r ∧ B r ≤ 1000 ∧ 1 ≤ N r ∧ N r ≤ 8) ∧ (-15000 ≤ F 0 ∧ F 0 ≤ 15000) ∧ (-2000 ≤ F 1 ∧ F 1 ≤ 2000) ∧ (1 ≤ F 2 ∧ F 2 + B 2 * (N 2 - 1) ≤ 2000) ∧ (1 ≤ F 3 ∧ F 3 + B 3 * (N 3 - 1) ≤ 2000)
def xg_tot (N : Nat → Int) : Int := N 0 * N 1 * N 2 * N 3
/-- the model's data -/
def m_F (st : sy_S) (r : Nat) : Int := st 30 (3 * r)
def m_B (st : sy_S) (r : Nat) : Int := if r < 4 then st 30 (3 * r + 1) else 1
def m_N (st : sy_S) (r : Nat) : Int := if r < 4 then st 30 (3 * r + 2) else 1
def m_pl (st : sy_S) (s : Nat) (t : Int) : Int := st 24 0 * (t - st 27 s) - st 26 s
def m_en (st : sy_S) (s i : Nat) : Int := m_pl st s (st 29 (4 * s + i))
def m_fg (st : sy_S) (f : Int) (w : Nat) : Int := xg_f (m_F st) (m_B st) (m_N st) f w
def m_ag (st : sy_S) (f : Int) (s : Nat) : Bool := xg_ag (m_fg st f 0) (m_fg st f 1) (m_fg st f 2) (m_fg st f 3) (st 25 s) (st 28 s) (m_en st s 0) (m_en st s 1) (m_en st s 2) (m_en st s 3)
def m_site (ns : Nat) (st : sy_S) : Prop := st 24 1 = ns ∧ ns ≤ 16
def m_rng (st : sy_S) : Prop := (1 ≤ st 24 0 ∧ st 24 0 ≤ 10) ∧ (∀ i, -2000 ≤ st 25 i ∧ st 25 i ≤ 2000) ∧ (∀ i, -5000 ≤ st 26 i ∧ st 26 i ≤ 5000) ∧ (∀ i, -50 ≤ st 27 i ∧ st 27 i ≤ 50) ∧ (∀ i, -1000 ≤ st 29 i ∧ st 29 i ≤ 1000) ∧ (∀ i, 0 ≤ st 28 i ∧ st 28 i ≤ 3)
def m_net (st : sy_S) : Prop := xg_net (m_F st) (m_B st) (m_N st)
/-- what the methods of the model ask -/
def m_ok (ns : Nat) (st : sy_S) : Prop := m_site ns st ∧ m_rng st ∧ m_net st
theorem xg_mul_le {a b A B : Int} (h1 : -A ≤ a ∧ a ≤ A) (h2 : -B ≤ b ∧ b ≤ B) : -(A * B) ≤ a * b ∧ a * b ≤ A * B := by
  have h : (a * b).natAbs ≤ A.natAbs * B.natAbs := by
    rw [Int.natAbs_mul]
    exact Nat.mul_le_mul (by omega) (by omega)
  have e : ((A.natAbs * B.natAbs : Nat) : Int) = A * B := by
    rw [Int.natCast_mul, Int.natAbs_of_nonneg (by omega), Int.natAbs_of_nonneg (by omega)]
  omega
theorem m_pl_rng {st : sy_S} (h : m_rng st) (s : Nat) {t : Int} (ht : -1000 ≤ t ∧ t ≤ 1000) : -15500 ≤ m_pl st s t ∧ m_pl st s t ≤ 15500 ∧ -10500 ≤ st 24 0 * (t - st 27 s) ∧ st 24 0 * (t - st 27 s) ≤ 10500 := by
  obtain ⟨h1, h2, h3, h4, h5, h6⟩ := h
  have a := h3 s
  have b := h4 s
  have := xg_mul_le (a := st 24 0) (b := t - st 27 s) (A := 10) (B := 1050) (by omega) (by omega)
  unfold m_pl
  omega
def sp_9_isSite (ns : Nat) : sy_Sp := sy_m1 24 fun s st post => post (some (.inl (true, if 0 ≤ s ∧ s < st 24 1 then 1 else 0))) st
def ct_9_isSite (ns q : Nat) : Option (Bool × Nat × sy_Sp) := match q with
  | _ => none
abbrev M_9_isSite (ns : Nat) : sy_M := Mk_9_isSite (ct_9_isSite ns)
theorem mv_9_isSite (ns : Nat) : sy_MV c_9_isSite y_9_isSite.cls (some .boolean) (M_9_isSite ns) := ⟨tv_9_isSite, ff_9_ok, ki_9_ok, kl_9_ok⟩
abbrev rm_9_isSite : Room := { frames := 0, cells := 0, slots := 0, locals := 0 }
theorem co_9_isSite (l : Launch) : sy_calls l rm_9_isSite y_9_isSite.cls c_9_isSite 2 (fun ns => (M_9_isSite ns).2.2.2.2.1) := by
  intro p e s m args below meth c rt wd ad ns A Q X hA q b n sp h
  replace h : ct_9_isSite ns q = some (b, n, sp) := h
  unfold ct_9_isSite at h
  cases h
theorem rc_9_isSite (ns : Nat) (as : List sy_V) (st : sy_S) (post : sy_R) (h : sp_9_isSite ns as st post) : ∃ b as', as = .inr (.inr (some (some b))) :: as' ∧ sy_ob b = some 9 := sy_m1_r rfl as st post h
theorem mc_9_isSite (l : Launch) : sy_MC l y_9_isSite c_9_isSite 2 (some .boolean) rm_9_isSite sp_9_isSite := by
  refine sy_meth M_9_isSite (by decide +kernel) mv_9_isSite (co_9_isSite l) ?_
  intro ns as st post WA h hok hrg ⟨hgo0, hin, hwk⟩
  have hgo : ∀ (n pc : Nat) (L k : List sy_V) (st : sy_S), rn_9_isSite ns (ct_9_isSite ns) post WA n pc L k st → WA pc L k st := fun n pc L k st h => hgo0 [] n pc L k st h
  replace h := sy_m1_e h hok
  obtain ⟨x, rfl, hx, h⟩ := h
  refine ⟨Nat.le_of_ble_eq_true rfl, ?_⟩
  show WA 0 [.inr (.inr (some (some 24))), .inl (true, x)] [] st
  refine hgo 100 _ _ _ _ ?_
  simp -implicitDefEqProofs only [↓rx_9_isSite_0, ↓rx_9_isSite_1, ↓rx_9_isSite_4, ↓rx_9_isSite_5, ↓rx_9_isSite_6, ↓rx_9_isSite_9, ↓rx_9_isSite_12, ↓rx_9_isSite_13, ↓rx_9_isSite_16, ↓rx_9_isSite_17, ↓sx_s1, ↓sx_s2, ↓sx_s3, ↓sx_s4, ↓sx_s5, ↓sx_s6, ↓sx_m0, ↓sx_m1, ↓sx_m2, ↓sx_m3, ↓sx_m4, ↓sx_m5, ↓sx_m6, ↓sx_k0_, ↓sx_k1_, ↓sx_k2_, ↓sx_k3_, ↓sx_k4_, ↓sx_k5_, ↓sx_k6_, ↓sx_sLL, ↓sx_sAI, ↓sx_mLL, ↓sx_mIIL, ↓sx_mIILL, ↓sx_mIILLL, ↓sx_qS, ↓sx_qSI, ↓sx_qSIII, sx_rit, sx_rif, sx_rlt, sx_rlf, sx_b0, sx_b1, sx_o0, sx_o1i, sx_o1a, sx_o1l, sx_o2, sx_g0, sx_g1, sx_k1, sx_k2, sx_k3, sx_f1, sx_f2, sx_f3, sx_w0, sx_w1, sx_w2, sx_w3, sx_ts, sx_tn, sx_up, sx_nS1, sx_nS2, sx_nW1, sx_nW2, sx_SW, sx_WS, sy_nS_inj, sy_nW_inj, sx_ob0, sx_ob1, sx_ob2, sx_ob3, sx_ob4, sx_ob5, sx_ob6, sx_ob7, sx_ob8, sx_ob9, sx_ob10, sx_ob11, sx_ob12, sx_ob13, sx_ob14, sx_ob15, sx_ob16, sx_ob17, sx_ob18, sx_ob19, sx_ob20, sx_ob21, sx_ob22, sx_ob23, sx_ob24, sx_ob25, sx_ob26, sx_ob27, sx_ob28, sx_ob29, sx_ob30, sx_ob31, sx_ob32, sx_ob33, sx_ob34, sx_ob35, sx_ob36, sx_fv0_0, sx_fv0_1, sx_fv0_2, sx_fv0_3, sx_fv0_4, sx_fv0_5, sx_fv1_0, sx_fv1_1, sx_fv1_2, sx_fv3_0, sx_fv3_1, sx_fv3_2, sx_fv3_3, sx_fv3_4, sx_fv7_0, sx_fv7_1, sx_fv7_2, sx_fv7_3, sx_fv7_4, sx_fv7_5, sx_fv7_6, sx_fv7_7, sx_fv7_8, sx_fv7_9, sx_fv7_10, sx_fv9_0, sx_fv9_1, sx_fv9_2, sx_fv9_3, sx_fv11_0, sx_fv11_1, sx_fv11_2, sx_fv11_3, sx_fv11_4, sx_fv11_5, sx_fv11_6, sx_fv15_0, sx_fv15_1, sx_fv15_2, sx_fv15_3, sx_fv15_4, sx_fv15_5, sx_fv19_0, sx_fv19_1, sx_fv19_2, sx_fv19_3, sx_fv19_4, sx_fv19_5, sx_fv19_6, sx_fv24_0, sx_fv24_1, sx_fv24_2, sx_fv24_3, sx_fv24_4, sx_fv24_5, sx_fv24_6, sx_fv24_7, sx_fv24_8, sx_fv24_9, sx_fv24_10, sx_fv24_11, sx_fv24_12, sx_fv24_13, sx_fv24_14, sx_fv24_15, sx_fv24_16, sx_fv24_17, sx_fv24_18, sx_fvS_0, sx_fvS_1, sx_fvS_2, sx_fvS_3, sx_fvS_4, sx_fvS_5, sx_fvS_6, sx_fvS_7, sx_fvS_8, sx_fvS_9, sx_ar2, sx_ar4, sx_ar5, sx_ar6, sx_ar8, sx_ar10, sx_ar12, sx_ar13, sx_ar14, sx_ar16, sx_ar17, sx_ar18, sx_ar20, sx_ar21, sx_ar22, sx_ar23, sx_ar25, sx_ar26, sx_ar27, sx_ar28, sx_ar29, sx_ar30, sx_ar31, sx_ar32, sx_ar33, sx_ar34, sx_ar35, sx_ar36, sy_ob_S, sy_ob_W, sy_ar_W, sx_if0, sx_if1, sx_ie0, sx_em, Classical.not_not, sx_cle, sx_clt, sx_cge, sx_cgt, sx_ceq, Nat.reduceLT, Nat.reduceLeDiff, Nat.reduceAdd, Nat.reduceSub, Nat.reduceEqDiff, reduceIte, List.length_cons, List.length_nil, true_and, and_true, and_self, Bool.false_eq_true, true_implies, not_true_eq_false, not_false_eq_true, false_implies, implies_true, ne_eq, reduceCtorEq, Option.some.injEq, false_and, and_false, Int.reduceNeg, Int.reduceToNat, Int.reduceLT, Int.reduceLE, Int.reduceEq, Int.reduceAdd, Int.reduceSub, Int.reduceMul, or_false, false_or, or_true, true_or, forall_const, Int.toNat_natCast, Int.toNat_zero, Int.toNat_one, Nat.zero_add, or_self, Int.neg_eq_zero]
  grind
def sp_9_placeOf (ns : Nat) : sy_Sp := sy_m2 24 fun s t st post => (m_ok ns st ∧ (0 ≤ s ∧ s < 16) ∧ -1000 ≤ t ∧ t ≤ 1000) ∧ post (some (.inl (true, m_pl st s.toNat t))) st
def ct_9_placeOf (ns q : Nat) : Option (Bool × Nat × sy_Sp) := match q with
  | _ => none
abbrev M_9_placeOf (ns : Nat) : sy_M := Mk_9_placeOf (ct_9_placeOf ns)
theorem mv_9_placeOf (ns : Nat) : sy_MV c_9_placeOf y_9_placeOf.cls (some .int) (M_9_placeOf ns) := ⟨tv_9_placeOf, ff_9_ok, ki_9_ok, kl_9_ok⟩
abbrev rm_9_placeOf : Room := { frames := 0, cells := 0, slots := 0, locals := 0 }
theorem co_9_placeOf (l : Launch) : sy_calls l rm_9_placeOf y_9_placeOf.cls c_9_placeOf 3 (fun ns => (M_9_placeOf ns).2.2.2.2.1) := by
  intro p e s m args below meth c rt wd ad ns A Q X hA q b n sp h
  replace h : ct_9_placeOf ns q = some (b, n, sp) := h
  unfold ct_9_placeOf at h
  cases h
theorem rc_9_placeOf (ns : Nat) (as : List sy_V) (st : sy_S) (post : sy_R) (h : sp_9_placeOf ns as st post) : ∃ b as', as = .inr (.inr (some (some b))) :: as' ∧ sy_ob b = some 9 := sy_m2_r rfl as st post h
theorem mc_9_placeOf (l : Launch) : sy_MC l y_9_placeOf c_9_placeOf 3 (some .int) rm_9_placeOf sp_9_placeOf := by
  refine sy_meth M_9_placeOf (by decide +kernel) mv_9_placeOf (co_9_placeOf l) ?_
  intro ns as st post WA h hok hrg ⟨hgo0, hin, hwk⟩
  have hgo : ∀ (n pc : Nat) (L k : List sy_V) (st : sy_S), rn_9_placeOf ns (ct_9_placeOf ns) post WA n pc L k st → WA pc L k st := fun n pc L k st h => hgo0 [] n pc L k st h
  replace h := sy_m2_e h hok
  obtain ⟨x, t, rfl, hx, ht, h⟩ := h
  refine ⟨Nat.le_of_ble_eq_true rfl, ?_⟩
  show WA 0 [.inr (.inr (some (some 24))), .inl (true, x), .inl (true, t)] [] st
  refine hgo 100 _ _ _ _ ?_
  simp -implicitDefEqProofs only [↓rx_9_placeOf_0, ↓rx_9_placeOf_1, ↓rx_9_placeOf_4, ↓rx_9_placeOf_5, ↓rx_9_placeOf_6, ↓rx_9_placeOf_9, ↓rx_9_placeOf_10, ↓rx_9_placeOf_11, ↓rx_9_placeOf_12, ↓rx_9_placeOf_13, ↓rx_9_placeOf_14, ↓rx_9_placeOf_17, ↓rx_9_placeOf_18, ↓rx_9_placeOf_19, ↓rx_9_placeOf_20, ↓sx_s1, ↓sx_s2, ↓sx_s3, ↓sx_s4, ↓sx_s5, ↓sx_s6, ↓sx_m0, ↓sx_m1, ↓sx_m2, ↓sx_m3, ↓sx_m4, ↓sx_m5, ↓sx_m6, ↓sx_k0_, ↓sx_k1_, ↓sx_k2_, ↓sx_k3_, ↓sx_k4_, ↓sx_k5_, ↓sx_k6_, ↓sx_sLL, ↓sx_sAI, ↓sx_mLL, ↓sx_mIIL, ↓sx_mIILL, ↓sx_mIILLL, ↓sx_qS, ↓sx_qSI, ↓sx_qSIII, sx_rit, sx_rif, sx_rlt, sx_rlf, sx_b0, sx_b1, sx_o0, sx_o1i, sx_o1a, sx_o1l, sx_o2, sx_g0, sx_g1, sx_k1, sx_k2, sx_k3, sx_f1, sx_f2, sx_f3, sx_w0, sx_w1, sx_w2, sx_w3, sx_ts, sx_tn, sx_up, sx_nS1, sx_nS2, sx_nW1, sx_nW2, sx_SW, sx_WS, sy_nS_inj, sy_nW_inj, sx_ob0, sx_ob1, sx_ob2, sx_ob3, sx_ob4, sx_ob5, sx_ob6, sx_ob7, sx_ob8, sx_ob9, sx_ob10, sx_ob11, sx_ob12, sx_ob13, sx_ob14, sx_ob15, sx_ob16, sx_ob17, sx_ob18, sx_ob19, sx_ob20, sx_ob21, sx_ob22, sx_ob23, sx_ob24, sx_ob25, sx_ob26, sx_ob27, sx_ob28, sx_ob29, sx_ob30, sx_ob31, sx_ob32, sx_ob33, sx_ob34, sx_ob35, sx_ob36, sx_fv0_0, sx_fv0_1, sx_fv0_2, sx_fv0_3, sx_fv0_4, sx_fv0_5, sx_fv1_0, sx_fv1_1, sx_fv1_2, sx_fv3_0, sx_fv3_1, sx_fv3_2, sx_fv3_3, sx_fv3_4, sx_fv7_0, sx_fv7_1, sx_fv7_2, sx_fv7_3, sx_fv7_4, sx_fv7_5, sx_fv7_6, sx_fv7_7, sx_fv7_8, sx_fv7_9, sx_fv7_10, sx_fv9_0, sx_fv9_1, sx_fv9_2, sx_fv9_3, sx_fv11_0, sx_fv11_1, sx_fv11_2, sx_fv11_3, sx_fv11_4, sx_fv11_5, sx_fv11_6, sx_fv15_0, sx_fv15_1, sx_fv15_2, sx_fv15_3, sx_fv15_4, sx_fv15_5, sx_fv19_0, sx_fv19_1, sx_fv19_2, sx_fv19_3, sx_fv19_4, sx_fv19_5, sx_fv19_6, sx_fv24_0, sx_fv24_1, sx_fv24_2, sx_fv24_3, sx_fv24_4, sx_fv24_5, sx_fv24_6, sx_fv24_7, sx_fv24_8, sx_fv24_9, sx_fv24_10, sx_fv24_11, sx_fv24_12, sx_fv24_13, sx_fv24_14, sx_fv24_15, sx_fv24_16, sx_fv24_17, sx_fv24_18, sx_fvS_0, sx_fvS_1, sx_fvS_2, sx_fvS_3, sx_fvS_4, sx_fvS_5, sx_fvS_6, sx_fvS_7, sx_fvS_8, sx_fvS_9, sx_ar2, sx_ar4, sx_ar5, sx_ar6, sx_ar8, sx_ar10, sx_ar12, sx_ar13, sx_ar14, sx_ar16, sx_ar17, sx_ar18, sx_ar20, sx_ar21, sx_ar22, sx_ar23, sx_ar25, sx_ar26, sx_ar27, sx_ar28, sx_ar29, sx_ar30, sx_ar31, sx_ar32, sx_ar33, sx_ar34, sx_ar35, sx_ar36, sy_ob_S, sy_ob_W, sy_ar_W, sx_if0, sx_if1, sx_ie0, sx_em, Classical.not_not, sx_cle, sx_clt, sx_cge, sx_cgt, sx_ceq, Nat.reduceLT, Nat.reduceLeDiff, Nat.reduceAdd, Nat.reduceSub, Nat.reduceEqDiff, reduceIte, List.length_cons, List.length_nil, true_and, and_true, and_self, Bool.false_eq_true, true_implies, not_true_eq_false, not_false_eq_true, false_implies, implies_true, ne_eq, reduceCtorEq, Option.some.injEq, false_and, and_false, Int.reduceNeg, Int.reduceToNat, Int.reduceLT, Int.reduceLE, Int.reduceEq, Int.reduceAdd, Int.reduceSub, Int.reduceMul, or_false, false_or, or_true, true_or, forall_const, Int.toNat_natCast, Int.toNat_zero, Int.toNat_one, Nat.zero_add, or_self, Int.neg_eq_zero]
  obtain ⟨⟨hm, hx1, ht1⟩, h⟩ := h
  have := m_pl_rng hm.2.1 x.toNat ht1
  unfold m_pl at this h
  exact ⟨by omega, by omega, by omega, h⟩
def sp_9_end (ns : Nat) : sy_Sp := sy_m2 24 fun s i st post => (m_ok ns st ∧ (0 ≤ s ∧ s < 16) ∧ 0 ≤ i ∧ i < 4) ∧ post (some (.inl (true, m_en st s.toNat i.toNat))) st
def ct_9_end (ns q : Nat) : Option (Bool × Nat × sy_Sp) := match q with
  | 84 => some (false, 3, sp_9_placeOf ns)
  | _ => none
abbrev M_9_end (ns : Nat) : sy_M := Mk_9_end (ct_9_end ns)
theorem cx_9_end_84 {ns : Nat} {v1 v2 v3 : sy_V} {r : List sy_V} {s : sy_S} {f : List sy_V → sy_S → Prop} : sy_call false (ct_9_end ns 84) (v3 :: v2 :: v1 :: r) s f = (sy_wd r ≤ 8 ∧ (sy_fit v3 ∧ sy_fit v2 ∧ sy_fit v1) ∧ sp_9_placeOf ns [sy_kn v1, sy_kn v2, sy_kn v3] s (fun q t => f (q.toList ++ r) t)) := sx_call3
theorem mv_9_end (ns : Nat) : sy_MV c_9_end y_9_end.cls (some .int) (M_9_end ns) := ⟨tv_9_end, ff_9_ok, ki_9_ok, kl_9_ok⟩
abbrev rm_9_end : Room := { frames := 1, cells := 0, slots := 0, locals := 22 }
theorem iw_9_placeOf : Cond.code y_9_placeOf c_9_placeOf 3 (some .int) ∈ sy_tb ∧ Cond.initialized y_9_placeOf.cls ∈ sy_tb ∧ (y_9_placeOf.cls ≠ "java/lang/invoke/MethodHandle" ∧ y_9_placeOf.cls ≠ "java/lang/invoke/VarHandle" ∧ (parseMethodDescriptor y_9_placeOf.desc).map (fun d => d.parameters.length) = some 2) := ⟨sy_inx 905 (by decide +kernel) (by decide +kernel), sy_inx 53 (by decide +kernel) (by decide +kernel), by decide +kernel⟩
theorem ii_9_placeOf : Cond.instanceMethod y_9_placeOf ∈ sy_tb ∧ Cond.selects y_9_placeOf.cls y_9_placeOf y_9_placeOf ∈ sy_tb := ⟨sy_inx 904 (by decide +kernel) (by decide +kernel), sy_inx 28 (by decide +kernel) (by decide +kernel)⟩
theorem co_9_end (l : Launch) : sy_calls l rm_9_end y_9_end.cls c_9_end 3 (fun ns => (M_9_end ns).2.2.2.2.1) := by
  intro p e s m args below meth c rt wd ad ns A Q X hA q b n sp h
  replace h : ct_9_end ns q = some (b, n, sp) := h
  unfold ct_9_end at h
  split at h
  · cases h; exact sy_coV (ci := 9) X hA (mc_9_placeOf l) ⟨iw_9_placeOf.1, iw_9_placeOf.2.1, iw_9_placeOf.2.2, ⟨by decide, by decide⟩, rfl, rfl⟩ (sy_inx 902 (by decide +kernel) (by decide +kernel)) ii_9_placeOf.1 ii_9_placeOf.2 (rc_9_placeOf ns) ⟨_, rfl, rfl⟩
  · cases h
theorem rc_9_end (ns : Nat) (as : List sy_V) (st : sy_S) (post : sy_R) (h : sp_9_end ns as st post) : ∃ b as', as = .inr (.inr (some (some b))) :: as' ∧ sy_ob b = some 9 := sy_m2_r rfl as st post h
theorem mc_9_end (l : Launch) : sy_MC l y_9_end c_9_end 3 (some .int) rm_9_end sp_9_end := by
  refine sy_meth M_9_end (by decide +kernel) mv_9_end (co_9_end l) ?_
  intro ns as st post WA h hok hrg ⟨hgo0, hin, hwk⟩
  have hgo : ∀ (n pc : Nat) (L k : List sy_V) (st : sy_S), rn_9_end ns (ct_9_end ns) post WA n pc L k st → WA pc L k st := fun n pc L k st h => hgo0 [] n pc L k st h
  replace h := sy_m2_e h hok
  obtain ⟨x, i, rfl, hx, hi, h⟩ := h
  refine ⟨Nat.le_of_ble_eq_true rfl, ?_⟩
  show WA 0 [.inr (.inr (some (some 24))), .inl (true, x), .inl (true, i)] [] st
  refine hgo 100 _ _ _ _ ?_
  simp -implicitDefEqProofs only [↓rx_9_end_0, ↓rx_9_end_1, ↓rx_9_end_2, ↓rx_9_end_3, ↓rx_9_end_6, ↓rx_9_end_7, ↓rx_9_end_8, ↓rx_9_end_9, ↓rx_9_end_10, ↓rx_9_end_11, ↓rx_9_end_12, ↓rx_9_end_15, ↓cx_9_end_84, sp_9_placeOf, ↓sx_s1, ↓sx_s2, ↓sx_s3, ↓sx_s4, ↓sx_s5, ↓sx_s6, ↓sx_m0, ↓sx_m1, ↓sx_m2, ↓sx_m3, ↓sx_m4, ↓sx_m5, ↓sx_m6, ↓sx_k0_, ↓sx_k1_, ↓sx_k2_, ↓sx_k3_, ↓sx_k4_, ↓sx_k5_, ↓sx_k6_, ↓sx_sLL, ↓sx_sAI, ↓sx_mLL, ↓sx_mIIL, ↓sx_mIILL, ↓sx_mIILLL, ↓sx_qS, ↓sx_qSI, ↓sx_qSIII, sx_rit, sx_rif, sx_rlt, sx_rlf, sx_b0, sx_b1, sx_o0, sx_o1i, sx_o1a, sx_o1l, sx_o2, sx_g0, sx_g1, sx_k1, sx_k2, sx_k3, sx_f1, sx_f2, sx_f3, sx_w0, sx_w1, sx_w2, sx_w3, sx_ts, sx_tn, sx_up, sx_nS1, sx_nS2, sx_nW1, sx_nW2, sx_SW, sx_WS, sy_nS_inj, sy_nW_inj, sx_ob0, sx_ob1, sx_ob2, sx_ob3, sx_ob4, sx_ob5, sx_ob6, sx_ob7, sx_ob8, sx_ob9, sx_ob10, sx_ob11, sx_ob12, sx_ob13, sx_ob14, sx_ob15, sx_ob16, sx_ob17, sx_ob18, sx_ob19, sx_ob20, sx_ob21, sx_ob22, sx_ob23, sx_ob24, sx_ob25, sx_ob26, sx_ob27, sx_ob28, sx_ob29, sx_ob30, sx_ob31, sx_ob32, sx_ob33, sx_ob34, sx_ob35, sx_ob36, sx_fv0_0, sx_fv0_1, sx_fv0_2, sx_fv0_3, sx_fv0_4, sx_fv0_5, sx_fv1_0, sx_fv1_1, sx_fv1_2, sx_fv3_0, sx_fv3_1, sx_fv3_2, sx_fv3_3, sx_fv3_4, sx_fv7_0, sx_fv7_1, sx_fv7_2, sx_fv7_3, sx_fv7_4, sx_fv7_5, sx_fv7_6, sx_fv7_7, sx_fv7_8, sx_fv7_9, sx_fv7_10, sx_fv9_0, sx_fv9_1, sx_fv9_2, sx_fv9_3, sx_fv11_0, sx_fv11_1, sx_fv11_2, sx_fv11_3, sx_fv11_4, sx_fv11_5, sx_fv11_6, sx_fv15_0, sx_fv15_1, sx_fv15_2, sx_fv15_3, sx_fv15_4, sx_fv15_5, sx_fv19_0, sx_fv19_1, sx_fv19_2, sx_fv19_3, sx_fv19_4, sx_fv19_5, sx_fv19_6, sx_fv24_0, sx_fv24_1, sx_fv24_2, sx_fv24_3, sx_fv24_4, sx_fv24_5, sx_fv24_6, sx_fv24_7, sx_fv24_8, sx_fv24_9, sx_fv24_10, sx_fv24_11, sx_fv24_12, sx_fv24_13, sx_fv24_14, sx_fv24_15, sx_fv24_16, sx_fv24_17, sx_fv24_18, sx_fvS_0, sx_fvS_1, sx_fvS_2, sx_fvS_3, sx_fvS_4, sx_fvS_5, sx_fvS_6, sx_fvS_7, sx_fvS_8, sx_fvS_9, sx_ar2, sx_ar4, sx_ar5, sx_ar6, sx_ar8, sx_ar10, sx_ar12, sx_ar13, sx_ar14, sx_ar16, sx_ar17, sx_ar18, sx_ar20, sx_ar21, sx_ar22, sx_ar23, sx_ar25, sx_ar26, sx_ar27, sx_ar28, sx_ar29, sx_ar30, sx_ar31, sx_ar32, sx_ar33, sx_ar34, sx_ar35, sx_ar36, sy_ob_S, sy_ob_W, sy_ar_W, sx_if0, sx_if1, sx_ie0, sx_em, Classical.not_not, sx_cle, sx_clt, sx_cge, sx_cgt, sx_ceq, Nat.reduceLT, Nat.reduceLeDiff, Nat.reduceAdd, Nat.reduceSub, Nat.reduceEqDiff, reduceIte, List.length_cons, List.length_nil, true_and, and_true, and_self, Bool.false_eq_true, true_implies, not_true_eq_false, not_false_eq_true, false_implies, implies_true, ne_eq, reduceCtorEq, Option.some.injEq, false_and, and_false, Int.reduceNeg, Int.reduceToNat, Int.reduceLT, Int.reduceLE, Int.reduceEq, Int.reduceAdd, Int.reduceSub, Int.reduceMul, or_false, false_or, or_true, true_or, forall_const, Int.toNat_natCast, Int.toNat_zero, Int.toNat_one, Nat.zero_add, or_self, Int.neg_eq_zero]
  obtain ⟨⟨hm, hx1, hi1⟩, h⟩ := h
  have e : (4 * x + i).toNat = 4 * x.toNat + i.toNat := by omega
  have := hm.2.1.2.2.2.2.1 (4 * x.toNat + i.toNat)
  rw [e]
  exact ⟨by omega, ⟨hm, hx1, this⟩, h⟩
def sp_9_place (ns : Nat) : sy_Sp := sy_m2 24 fun s t st post => m_ok ns st ∧ post (some (.inl (true, if (0 ≤ s ∧ s < ns) ∧ (-1000 ≤ t ∧ t ≤ 1000) then m_pl st s.toNat t else -1000000))) st
def ct_9_place (ns q : Nat) : Option (Bool × Nat × sy_Sp) := match q with
  | 73 => some (false, 2, sp_9_isSite ns)
  | 77 => some (true, 1, sp_9_isTick ns)
  | 84 => some (false, 3, sp_9_placeOf ns)
  | _ => none
abbrev M_9_place (ns : Nat) : sy_M := Mk_9_place (ct_9_place ns)
theorem cx_9_place_73 {ns : Nat} {v1 v2 : sy_V} {r : List sy_V} {s : sy_S} {f : List sy_V → sy_S → Prop} : sy_call false (ct_9_place ns 73) (v2 :: v1 :: r) s f = (sy_wd r ≤ 8 ∧ (sy_fit v2 ∧ sy_fit v1) ∧ sp_9_isSite ns [sy_kn v1, sy_kn v2] s (fun q t => f (q.toList ++ r) t)) := sx_call2
theorem cx_9_place_77 {ns : Nat} {v1 : sy_V} {r : List sy_V} {s : sy_S} {f : List sy_V → sy_S → Prop} : sy_call true (ct_9_place ns 77) (v1 :: r) s f = (sy_wd r ≤ 8 ∧ (sy_fit v1) ∧ sp_9_isTick ns [sy_kn v1] s (fun q t => f (q.toList ++ r) t)) := sx_call1
theorem cx_9_place_84 {ns : Nat} {v1 v2 v3 : sy_V} {r : List sy_V} {s : sy_S} {f : List sy_V → sy_S → Prop} : sy_call false (ct_9_place ns 84) (v3 :: v2 :: v1 :: r) s f = (sy_wd r ≤ 8 ∧ (sy_fit v3 ∧ sy_fit v2 ∧ sy_fit v1) ∧ sp_9_placeOf ns [sy_kn v1, sy_kn v2, sy_kn v3] s (fun q t => f (q.toList ++ r) t)) := sx_call3
theorem mv_9_place (ns : Nat) : sy_MV c_9_place y_9_place.cls (some .int) (M_9_place ns) := ⟨tv_9_place, ff_9_ok, ki_9_ok, kl_9_ok⟩
abbrev rm_9_place : Room := { frames := 2, cells := 0, slots := 0, locals := 42 }
theorem iw_9_isSite : Cond.code y_9_isSite c_9_isSite 2 (some .boolean) ∈ sy_tb ∧ Cond.initialized y_9_isSite.cls ∈ sy_tb ∧ (y_9_isSite.cls ≠ "java/lang/invoke/MethodHandle" ∧ y_9_isSite.cls ≠ "java/lang/invoke/VarHandle" ∧ (parseMethodDescriptor y_9_isSite.desc).map (fun d => d.parameters.length) = some 1) := ⟨sy_inx 873 (by decide +kernel) (by decide +kernel), sy_inx 53 (by decide +kernel) (by decide +kernel), by decide +kernel⟩
theorem ii_9_isSite : Cond.instanceMethod y_9_isSite ∈ sy_tb ∧ Cond.selects y_9_isSite.cls y_9_isSite y_9_isSite ∈ sy_tb := ⟨sy_inx 872 (by decide +kernel) (by decide +kernel), sy_inx 26 (by decide +kernel) (by decide +kernel)⟩
theorem iw_9_isTick : Cond.code y_9_isTick c_9_isTick 1 (some .boolean) ∈ sy_tb ∧ Cond.initialized y_9_isTick.cls ∈ sy_tb ∧ (y_9_isTick.cls ≠ "java/lang/invoke/MethodHandle" ∧ y_9_isTick.cls ≠ "java/lang/invoke/VarHandle" ∧ (parseMethodDescriptor y_9_isTick.desc).map (fun d => d.parameters.length) = some 1) := ⟨sy_inx 880 (by decide +kernel) (by decide +kernel), sy_inx 53 (by decide +kernel) (by decide +kernel), by decide +kernel⟩
theorem is_9_isTick : Cond.static y_9_isTick ∈ sy_tb := sy_inx 879 (by decide +kernel) (by decide +kernel)
theorem co_9_place (l : Launch) : sy_calls l rm_9_place y_9_place.cls c_9_place 3 (fun ns => (M_9_place ns).2.2.2.2.1) := by
  intro p e s m args below meth c rt wd ad ns A Q X hA q b n sp h
  replace h : ct_9_place ns q = some (b, n, sp) := h
  unfold ct_9_place at h
  split at h
  · cases h; exact sy_coV (ci := 9) X hA (mc_9_isSite l) ⟨iw_9_isSite.1, iw_9_isSite.2.1, iw_9_isSite.2.2, ⟨by decide, by decide⟩, rfl, rfl⟩ (sy_inx 870 (by decide +kernel) (by decide +kernel)) ii_9_isSite.1 ii_9_isSite.2 (rc_9_isSite ns) ⟨_, rfl, rfl⟩
  · cases h; exact sy_coS X hA (mc_9_isTick l) ⟨iw_9_isTick.1, iw_9_isTick.2.1, iw_9_isTick.2.2, ⟨by decide, by decide⟩, rfl, rfl⟩ (sy_inx 878 (by decide +kernel) (by decide +kernel)) is_9_isTick
  · cases h; exact sy_coV (ci := 9) X hA (mc_9_placeOf l) ⟨iw_9_placeOf.1, iw_9_placeOf.2.1, iw_9_placeOf.2.2, ⟨by decide, by decide⟩, rfl, rfl⟩ (sy_inx 902 (by decide +kernel) (by decide +kernel)) ii_9_placeOf.1 ii_9_placeOf.2 (rc_9_placeOf ns) ⟨_, rfl, rfl⟩
  · cases h
theorem rc_9_place (ns : Nat) (as : List sy_V) (st : sy_S) (post : sy_R) (h : sp_9_place ns as st post) : ∃ b as', as = .inr (.inr (some (some b))) :: as' ∧ sy_ob b = some 9 := sy_m2_r rfl as st post h
theorem mc_9_place (l : Launch) : sy_MC l y_9_place c_9_place 3 (some .int) rm_9_place sp_9_place := by
  refine sy_meth M_9_place (by decide +kernel) mv_9_place (co_9_place l) ?_
  intro ns as st post WA h hok hrg ⟨hgo0, hin, hwk⟩
  have hgo : ∀ (n pc : Nat) (L k : List sy_V) (st : sy_S), rn_9_place ns (ct_9_place ns) post WA n pc L k st → WA pc L k st := fun n pc L k st h => hgo0 [] n pc L k st h
  replace h := sy_m2_e h hok
  obtain ⟨x, t, rfl, hx, ht, h⟩ := h
  refine ⟨Nat.le_of_ble_eq_true rfl, ?_⟩
  show WA 0 [.inr (.inr (some (some 24))), .inl (true, x), .inl (true, t)] [] st
  refine hgo 100 _ _ _ _ ?_
  simp -implicitDefEqProofs only [↓rx_9_place_0, ↓rx_9_place_1, ↓rx_9_place_2, ↓rx_9_place_5, ↓rx_9_place_8, ↓rx_9_place_9, ↓rx_9_place_12, ↓rx_9_place_15, ↓rx_9_place_17, ↓rx_9_place_20, ↓rx_9_place_21, ↓rx_9_place_22, ↓rx_9_place_23, ↓rx_9_place_26, ↓cx_9_place_73, ↓cx_9_place_77, ↓cx_9_place_84, sp_9_isSite, sp_9_isTick, sp_9_placeOf, ↓sx_s1, ↓sx_s2, ↓sx_s3, ↓sx_s4, ↓sx_s5, ↓sx_s6, ↓sx_m0, ↓sx_m1, ↓sx_m2, ↓sx_m3, ↓sx_m4, ↓sx_m5, ↓sx_m6, ↓sx_k0_, ↓sx_k1_, ↓sx_k2_, ↓sx_k3_, ↓sx_k4_, ↓sx_k5_, ↓sx_k6_, ↓sx_sLL, ↓sx_sAI, ↓sx_mLL, ↓sx_mIIL, ↓sx_mIILL, ↓sx_mIILLL, ↓sx_qS, ↓sx_qSI, ↓sx_qSIII, sx_rit, sx_rif, sx_rlt, sx_rlf, sx_b0, sx_b1, sx_o0, sx_o1i, sx_o1a, sx_o1l, sx_o2, sx_g0, sx_g1, sx_k1, sx_k2, sx_k3, sx_f1, sx_f2, sx_f3, sx_w0, sx_w1, sx_w2, sx_w3, sx_ts, sx_tn, sx_up, sx_nS1, sx_nS2, sx_nW1, sx_nW2, sx_SW, sx_WS, sy_nS_inj, sy_nW_inj, sx_ob0, sx_ob1, sx_ob2, sx_ob3, sx_ob4, sx_ob5, sx_ob6, sx_ob7, sx_ob8, sx_ob9, sx_ob10, sx_ob11, sx_ob12, sx_ob13, sx_ob14, sx_ob15, sx_ob16, sx_ob17, sx_ob18, sx_ob19, sx_ob20, sx_ob21, sx_ob22, sx_ob23, sx_ob24, sx_ob25, sx_ob26, sx_ob27, sx_ob28, sx_ob29, sx_ob30, sx_ob31, sx_ob32, sx_ob33, sx_ob34, sx_ob35, sx_ob36, sx_fv0_0, sx_fv0_1, sx_fv0_2, sx_fv0_3, sx_fv0_4, sx_fv0_5, sx_fv1_0, sx_fv1_1, sx_fv1_2, sx_fv3_0, sx_fv3_1, sx_fv3_2, sx_fv3_3, sx_fv3_4, sx_fv7_0, sx_fv7_1, sx_fv7_2, sx_fv7_3, sx_fv7_4, sx_fv7_5, sx_fv7_6, sx_fv7_7, sx_fv7_8, sx_fv7_9, sx_fv7_10, sx_fv9_0, sx_fv9_1, sx_fv9_2, sx_fv9_3, sx_fv11_0, sx_fv11_1, sx_fv11_2, sx_fv11_3, sx_fv11_4, sx_fv11_5, sx_fv11_6, sx_fv15_0, sx_fv15_1, sx_fv15_2, sx_fv15_3, sx_fv15_4, sx_fv15_5, sx_fv19_0, sx_fv19_1, sx_fv19_2, sx_fv19_3, sx_fv19_4, sx_fv19_5, sx_fv19_6, sx_fv24_0, sx_fv24_1, sx_fv24_2, sx_fv24_3, sx_fv24_4, sx_fv24_5, sx_fv24_6, sx_fv24_7, sx_fv24_8, sx_fv24_9, sx_fv24_10, sx_fv24_11, sx_fv24_12, sx_fv24_13, sx_fv24_14, sx_fv24_15, sx_fv24_16, sx_fv24_17, sx_fv24_18, sx_fvS_0, sx_fvS_1, sx_fvS_2, sx_fvS_3, sx_fvS_4, sx_fvS_5, sx_fvS_6, sx_fvS_7, sx_fvS_8, sx_fvS_9, sx_ar2, sx_ar4, sx_ar5, sx_ar6, sx_ar8, sx_ar10, sx_ar12, sx_ar13, sx_ar14, sx_ar16, sx_ar17, sx_ar18, sx_ar20, sx_ar21, sx_ar22, sx_ar23, sx_ar25, sx_ar26, sx_ar27, sx_ar28, sx_ar29, sx_ar30, sx_ar31, sx_ar32, sx_ar33, sx_ar34, sx_ar35, sx_ar36, sy_ob_S, sy_ob_W, sy_ar_W, sx_if0, sx_if1, sx_ie0, sx_em, Classical.not_not, sx_cle, sx_clt, sx_cge, sx_cgt, sx_ceq, Nat.reduceLT, Nat.reduceLeDiff, Nat.reduceAdd, Nat.reduceSub, Nat.reduceEqDiff, reduceIte, List.length_cons, List.length_nil, true_and, and_true, and_self, Bool.false_eq_true, true_implies, not_true_eq_false, not_false_eq_true, false_implies, implies_true, ne_eq, reduceCtorEq, Option.some.injEq, false_and, and_false, Int.reduceNeg, Int.reduceToNat, Int.reduceLT, Int.reduceLE, Int.reduceEq, Int.reduceAdd, Int.reduceSub, Int.reduceMul, or_false, false_or, or_true, true_or, forall_const, Int.toNat_natCast, Int.toNat_zero, Int.toNat_one, Nat.zero_add, or_self, Int.neg_eq_zero]
  obtain ⟨hm, h⟩ := h
  have hn := hm.1
  unfold m_site at hn
  rw [hn.1]
  by_cases h1 : 0 ≤ x ∧ x < ns
  · by_cases h2 : -1000 ≤ t ∧ t ≤ 1000
    · rw [if_pos ⟨h1, h2⟩] at h
      exact ⟨fun q => absurd h1 q, fun _ => ⟨fun _ => ⟨⟨hm, by omega, h2⟩, h⟩, fun q => absurd h2 q⟩⟩
    · rw [if_neg (fun q => h2 q.2)] at h
      exact ⟨fun q => h, fun _ => ⟨fun q => absurd q h2, fun _ => h⟩⟩
  · rw [if_neg (fun q => h1 q.1)] at h
    exact ⟨fun q => h, fun q => absurd q h1⟩
def sp_9_speed (ns : Nat) : sy_Sp := sy_m1 24 fun v st post => m_ok ns st ∧ post (some (.inl (true, if 1 ≤ v ∧ v ≤ 10 then st 24 0 else -1))) (if 1 ≤ v ∧ v ≤ 10 then sy_up st 24 0 v else st)
def ct_9_speed (ns q : Nat) : Option (Bool × Nat × sy_Sp) := match q with
  | 69 => some (true, 3, sp_9_is ns)
  | _ => none
abbrev M_9_speed (ns : Nat) : sy_M := Mk_9_speed (ct_9_speed ns)
theorem cx_9_speed_69 {ns : Nat} {v1 v2 v3 : sy_V} {r : List sy_V} {s : sy_S} {f : List sy_V → sy_S → Prop} : sy_call true (ct_9_speed ns 69) (v3 :: v2 :: v1 :: r) s f = (sy_wd r ≤ 8 ∧ (sy_fit v3 ∧ sy_fit v2 ∧ sy_fit v1) ∧ sp_9_is ns [sy_kn v1, sy_kn v2, sy_kn v3] s (fun q t => f (q.toList ++ r) t)) := sx_call3
theorem mv_9_speed (ns : Nat) : sy_MV c_9_speed y_9_speed.cls (some .int) (M_9_speed ns) := ⟨tv_9_speed, ff_9_ok, ki_9_ok, kl_9_ok⟩
abbrev rm_9_speed : Room := { frames := 1, cells := 0, slots := 0, locals := 22 }
theorem co_9_speed (l : Launch) : sy_calls l rm_9_speed y_9_speed.cls c_9_speed 3 (fun ns => (M_9_speed ns).2.2.2.2.1) := by
  intro p e s m args below meth c rt wd ad ns A Q X hA q b n sp h
  replace h : ct_9_speed ns q = some (b, n, sp) := h
  unfold ct_9_speed at h
  split at h
  · cases h; exact sy_coS X hA (mc_9_is l) ⟨iw_9_is.1, iw_9_is.2.1, iw_9_is.2.2, ⟨by decide, by decide⟩, rfl, rfl⟩ (sy_inx 859 (by decide +kernel) (by decide +kernel)) is_9_is
  · cases h
theorem rc_9_speed (ns : Nat) (as : List sy_V) (st : sy_S) (post : sy_R) (h : sp_9_speed ns as st post) : ∃ b as', as = .inr (.inr (some (some b))) :: as' ∧ sy_ob b = some 9 := sy_m1_r rfl as st post h
theorem mc_9_speed (l : Launch) : sy_MC l y_9_speed c_9_speed 3 (some .int) rm_9_speed sp_9_speed := by
  refine sy_meth M_9_speed (by decide +kernel) mv_9_speed (co_9_speed l) ?_
  intro ns as st post WA h hok hrg ⟨hgo0, hin, hwk⟩
  have hgo : ∀ (n pc : Nat) (L k : List sy_V) (st : sy_S), rn_9_speed ns (ct_9_speed ns) post WA n pc L k st → WA pc L k st := fun n pc L k st h => hgo0 [] n pc L k st h
  replace h := sy_m1_e h hok
  obtain ⟨v, rfl, hv, h⟩ := h
  refine ⟨Nat.le_of_ble_eq_true rfl, ?_⟩
  show WA 0 [.inr (.inr (some (some 24))), .inl (true, v), .inr (.inr none)] [] st
  refine hgo 100 _ _ _ _ ?_
  simp -implicitDefEqProofs only [↓rx_9_speed_0, ↓rx_9_speed_1, ↓rx_9_speed_2, ↓rx_9_speed_4, ↓rx_9_speed_7, ↓rx_9_speed_10, ↓rx_9_speed_11, ↓rx_9_speed_12, ↓rx_9_speed_13, ↓rx_9_speed_16, ↓rx_9_speed_17, ↓rx_9_speed_18, ↓rx_9_speed_19, ↓rx_9_speed_22, ↓rx_9_speed_23, ↓cx_9_speed_69, sp_9_is, ↓sx_s1, ↓sx_s2, ↓sx_s3, ↓sx_s4, ↓sx_s5, ↓sx_s6, ↓sx_m0, ↓sx_m1, ↓sx_m2, ↓sx_m3, ↓sx_m4, ↓sx_m5, ↓sx_m6, ↓sx_k0_, ↓sx_k1_, ↓sx_k2_, ↓sx_k3_, ↓sx_k4_, ↓sx_k5_, ↓sx_k6_, ↓sx_sLL, ↓sx_sAI, ↓sx_mLL, ↓sx_mIIL, ↓sx_mIILL, ↓sx_mIILLL, ↓sx_qS, ↓sx_qSI, ↓sx_qSIII, sx_rit, sx_rif, sx_rlt, sx_rlf, sx_b0, sx_b1, sx_o0, sx_o1i, sx_o1a, sx_o1l, sx_o2, sx_g0, sx_g1, sx_k1, sx_k2, sx_k3, sx_f1, sx_f2, sx_f3, sx_w0, sx_w1, sx_w2, sx_w3, sx_ts, sx_tn, sx_up, sx_nS1, sx_nS2, sx_nW1, sx_nW2, sx_SW, sx_WS, sy_nS_inj, sy_nW_inj, sx_ob0, sx_ob1, sx_ob2, sx_ob3, sx_ob4, sx_ob5, sx_ob6, sx_ob7, sx_ob8, sx_ob9, sx_ob10, sx_ob11, sx_ob12, sx_ob13, sx_ob14, sx_ob15, sx_ob16, sx_ob17, sx_ob18, sx_ob19, sx_ob20, sx_ob21, sx_ob22, sx_ob23, sx_ob24, sx_ob25, sx_ob26, sx_ob27, sx_ob28, sx_ob29, sx_ob30, sx_ob31, sx_ob32, sx_ob33, sx_ob34, sx_ob35, sx_ob36, sx_fv0_0, sx_fv0_1, sx_fv0_2, sx_fv0_3, sx_fv0_4, sx_fv0_5, sx_fv1_0, sx_fv1_1, sx_fv1_2, sx_fv3_0, sx_fv3_1, sx_fv3_2, sx_fv3_3, sx_fv3_4, sx_fv7_0, sx_fv7_1, sx_fv7_2, sx_fv7_3, sx_fv7_4, sx_fv7_5, sx_fv7_6, sx_fv7_7, sx_fv7_8, sx_fv7_9, sx_fv7_10, sx_fv9_0, sx_fv9_1, sx_fv9_2, sx_fv9_3, sx_fv11_0, sx_fv11_1, sx_fv11_2, sx_fv11_3, sx_fv11_4, sx_fv11_5, sx_fv11_6, sx_fv15_0, sx_fv15_1, sx_fv15_2, sx_fv15_3, sx_fv15_4, sx_fv15_5, sx_fv19_0, sx_fv19_1, sx_fv19_2, sx_fv19_3, sx_fv19_4, sx_fv19_5, sx_fv19_6, sx_fv24_0, sx_fv24_1, sx_fv24_2, sx_fv24_3, sx_fv24_4, sx_fv24_5, sx_fv24_6, sx_fv24_7, sx_fv24_8, sx_fv24_9, sx_fv24_10, sx_fv24_11, sx_fv24_12, sx_fv24_13, sx_fv24_14, sx_fv24_15, sx_fv24_16, sx_fv24_17, sx_fv24_18, sx_fvS_0, sx_fvS_1, sx_fvS_2, sx_fvS_3, sx_fvS_4, sx_fvS_5, sx_fvS_6, sx_fvS_7, sx_fvS_8, sx_fvS_9, sx_ar2, sx_ar4, sx_ar5, sx_ar6, sx_ar8, sx_ar10, sx_ar12, sx_ar13, sx_ar14, sx_ar16, sx_ar17, sx_ar18, sx_ar20, sx_ar21, sx_ar22, sx_ar23, sx_ar25, sx_ar26, sx_ar27, sx_ar28, sx_ar29, sx_ar30, sx_ar31, sx_ar32, sx_ar33, sx_ar34, sx_ar35, sx_ar36, sy_ob_S, sy_ob_W, sy_ar_W, sx_if0, sx_if1, sx_ie0, sx_em, Classical.not_not, sx_cle, sx_clt, sx_cge, sx_cgt, sx_ceq, Nat.reduceLT, Nat.reduceLeDiff, Nat.reduceAdd, Nat.reduceSub, Nat.reduceEqDiff, reduceIte, List.length_cons, List.length_nil, true_and, and_true, and_self, Bool.false_eq_true, true_implies, not_true_eq_false, not_false_eq_true, false_implies, implies_true, ne_eq, reduceCtorEq, Option.some.injEq, false_and, and_false, Int.reduceNeg, Int.reduceToNat, Int.reduceLT, Int.reduceLE, Int.reduceEq, Int.reduceAdd, Int.reduceSub, Int.reduceMul, or_false, false_or, or_true, true_or, forall_const, Int.toNat_natCast, Int.toNat_zero, Int.toNat_one, Nat.zero_add, or_self, Int.neg_eq_zero]
  obtain ⟨hm, h⟩ := h
  by_cases hC : 1 ≤ v ∧ v ≤ 10
  · simp only [if_pos hC] at h
    (repeat' (first | assumption | apply And.intro | intro _)) <;> first | omega | (exfalso; omega) | contradiction
  · simp only [if_neg hC] at h
    (repeat' (first | assumption | apply And.intro | intro _)) <;> first | omega | (exfalso; omega) | contradiction
def sp_9_ahead (ns : Nat) : sy_Sp := sy_m2 24 fun s t st post => m_ok ns st ∧ post (some (.inl (true, if (0 ≤ s ∧ s < ns) ∧ (-50 ≤ t ∧ t ≤ 50) then st 27 s.toNat else -1000))) (if (0 ≤ s ∧ s < ns) ∧ (-50 ≤ t ∧ t ≤ 50) then sy_up st 27 s.toNat t else st)
def ct_9_ahead (ns q : Nat) : Option (Bool × Nat × sy_Sp) := match q with
  | 69 => some (true, 3, sp_9_is ns)
  | 73 => some (false, 2, sp_9_isSite ns)
  | _ => none
abbrev M_9_ahead (ns : Nat) : sy_M := Mk_9_ahead (ct_9_ahead ns)
theorem cx_9_ahead_69 {ns : Nat} {v1 v2 v3 : sy_V} {r : List sy_V} {s : sy_S} {f : List sy_V → sy_S → Prop} : sy_call true (ct_9_ahead ns 69) (v3 :: v2 :: v1 :: r) s f = (sy_wd r ≤ 8 ∧ (sy_fit v3 ∧ sy_fit v2 ∧ sy_fit v1) ∧ sp_9_is ns [sy_kn v1, sy_kn v2, sy_kn v3] s (fun q t => f (q.toList ++ r) t)) := sx_call3
theorem cx_9_ahead_73 {ns : Nat} {v1 v2 : sy_V} {r : List sy_V} {s : sy_S} {f : List sy_V → sy_S → Prop} : sy_call false (ct_9_ahead ns 73) (v2 :: v1 :: r) s f = (sy_wd r ≤ 8 ∧ (sy_fit v2 ∧ sy_fit v1) ∧ sp_9_isSite ns [sy_kn v1, sy_kn v2] s (fun q t => f (q.toList ++ r) t)) := sx_call2
theorem mv_9_ahead (ns : Nat) : sy_MV c_9_ahead y_9_ahead.cls (some .int) (M_9_ahead ns) := ⟨tv_9_ahead, ff_9_ok, ki_9_ok, kl_9_ok⟩
abbrev rm_9_ahead : Room := { frames := 1, cells := 0, slots := 0, locals := 22 }
theorem co_9_ahead (l : Launch) : sy_calls l rm_9_ahead y_9_ahead.cls c_9_ahead 4 (fun ns => (M_9_ahead ns).2.2.2.2.1) := by
  intro p e s m args below meth c rt wd ad ns A Q X hA q b n sp h
  replace h : ct_9_ahead ns q = some (b, n, sp) := h
  unfold ct_9_ahead at h
  split at h
  · cases h; exact sy_coS X hA (mc_9_is l) ⟨iw_9_is.1, iw_9_is.2.1, iw_9_is.2.2, ⟨by decide, by decide⟩, rfl, rfl⟩ (sy_inx 859 (by decide +kernel) (by decide +kernel)) is_9_is
  · cases h; exact sy_coV (ci := 9) X hA (mc_9_isSite l) ⟨iw_9_isSite.1, iw_9_isSite.2.1, iw_9_isSite.2.2, ⟨by decide, by decide⟩, rfl, rfl⟩ (sy_inx 870 (by decide +kernel) (by decide +kernel)) ii_9_isSite.1 ii_9_isSite.2 (rc_9_isSite ns) ⟨_, rfl, rfl⟩
  · cases h
theorem rc_9_ahead (ns : Nat) (as : List sy_V) (st : sy_S) (post : sy_R) (h : sp_9_ahead ns as st post) : ∃ b as', as = .inr (.inr (some (some b))) :: as' ∧ sy_ob b = some 9 := sy_m2_r rfl as st post h
theorem mc_9_ahead (l : Launch) : sy_MC l y_9_ahead c_9_ahead 4 (some .int) rm_9_ahead sp_9_ahead := by
  refine sy_meth M_9_ahead (by decide +kernel) mv_9_ahead (co_9_ahead l) ?_
  intro ns as st post WA h hok hrg ⟨hgo0, hin, hwk⟩
  have hgo : ∀ (n pc : Nat) (L k : List sy_V) (st : sy_S), rn_9_ahead ns (ct_9_ahead ns) post WA n pc L k st → WA pc L k st := fun n pc L k st h => hgo0 [] n pc L k st h
  replace h := sy_m2_e h hok
  obtain ⟨x, t, rfl, hx, ht, h⟩ := h
  refine ⟨Nat.le_of_ble_eq_true rfl, ?_⟩
  show WA 0 [.inr (.inr (some (some 24))), .inl (true, x), .inl (true, t), .inr (.inr none)] [] st
  refine hgo 100 _ _ _ _ ?_
  simp -implicitDefEqProofs only [↓rx_9_ahead_0, ↓rx_9_ahead_1, ↓rx_9_ahead_2, ↓rx_9_ahead_5, ↓rx_9_ahead_8, ↓rx_9_ahead_9, ↓rx_9_ahead_11, ↓rx_9_ahead_13, ↓rx_9_ahead_16, ↓rx_9_ahead_19, ↓rx_9_ahead_22, ↓rx_9_ahead_23, ↓rx_9_ahead_24, ↓rx_9_ahead_27, ↓rx_9_ahead_28, ↓rx_9_ahead_29, ↓rx_9_ahead_30, ↓rx_9_ahead_31, ↓rx_9_ahead_34, ↓rx_9_ahead_35, ↓rx_9_ahead_36, ↓rx_9_ahead_37, ↓rx_9_ahead_38, ↓cx_9_ahead_69, ↓cx_9_ahead_73, sp_9_is, sp_9_isSite, ↓sx_s1, ↓sx_s2, ↓sx_s3, ↓sx_s4, ↓sx_s5, ↓sx_s6, ↓sx_m0, ↓sx_m1, ↓sx_m2, ↓sx_m3, ↓sx_m4, ↓sx_m5, ↓sx_m6, ↓sx_k0_, ↓sx_k1_, ↓sx_k2_, ↓sx_k3_, ↓sx_k4_, ↓sx_k5_, ↓sx_k6_, ↓sx_sLL, ↓sx_sAI, ↓sx_mLL, ↓sx_mIIL, ↓sx_mIILL, ↓sx_mIILLL, ↓sx_qS, ↓sx_qSI, ↓sx_qSIII, sx_rit, sx_rif, sx_rlt, sx_rlf, sx_b0, sx_b1, sx_o0, sx_o1i, sx_o1a, sx_o1l, sx_o2, sx_g0, sx_g1, sx_k1, sx_k2, sx_k3, sx_f1, sx_f2, sx_f3, sx_w0, sx_w1, sx_w2, sx_w3, sx_ts, sx_tn, sx_up, sx_nS1, sx_nS2, sx_nW1, sx_nW2, sx_SW, sx_WS, sy_nS_inj, sy_nW_inj, sx_ob0, sx_ob1, sx_ob2, sx_ob3, sx_ob4, sx_ob5, sx_ob6, sx_ob7, sx_ob8, sx_ob9, sx_ob10, sx_ob11, sx_ob12, sx_ob13, sx_ob14, sx_ob15, sx_ob16, sx_ob17, sx_ob18, sx_ob19, sx_ob20, sx_ob21, sx_ob22, sx_ob23, sx_ob24, sx_ob25, sx_ob26, sx_ob27, sx_ob28, sx_ob29, sx_ob30, sx_ob31, sx_ob32, sx_ob33, sx_ob34, sx_ob35, sx_ob36, sx_fv0_0, sx_fv0_1, sx_fv0_2, sx_fv0_3, sx_fv0_4, sx_fv0_5, sx_fv1_0, sx_fv1_1, sx_fv1_2, sx_fv3_0, sx_fv3_1, sx_fv3_2, sx_fv3_3, sx_fv3_4, sx_fv7_0, sx_fv7_1, sx_fv7_2, sx_fv7_3, sx_fv7_4, sx_fv7_5, sx_fv7_6, sx_fv7_7, sx_fv7_8, sx_fv7_9, sx_fv7_10, sx_fv9_0, sx_fv9_1, sx_fv9_2, sx_fv9_3, sx_fv11_0, sx_fv11_1, sx_fv11_2, sx_fv11_3, sx_fv11_4, sx_fv11_5, sx_fv11_6, sx_fv15_0, sx_fv15_1, sx_fv15_2, sx_fv15_3, sx_fv15_4, sx_fv15_5, sx_fv19_0, sx_fv19_1, sx_fv19_2, sx_fv19_3, sx_fv19_4, sx_fv19_5, sx_fv19_6, sx_fv24_0, sx_fv24_1, sx_fv24_2, sx_fv24_3, sx_fv24_4, sx_fv24_5, sx_fv24_6, sx_fv24_7, sx_fv24_8, sx_fv24_9, sx_fv24_10, sx_fv24_11, sx_fv24_12, sx_fv24_13, sx_fv24_14, sx_fv24_15, sx_fv24_16, sx_fv24_17, sx_fv24_18, sx_fvS_0, sx_fvS_1, sx_fvS_2, sx_fvS_3, sx_fvS_4, sx_fvS_5, sx_fvS_6, sx_fvS_7, sx_fvS_8, sx_fvS_9, sx_ar2, sx_ar4, sx_ar5, sx_ar6, sx_ar8, sx_ar10, sx_ar12, sx_ar13, sx_ar14, sx_ar16, sx_ar17, sx_ar18, sx_ar20, sx_ar21, sx_ar22, sx_ar23, sx_ar25, sx_ar26, sx_ar27, sx_ar28, sx_ar29, sx_ar30, sx_ar31, sx_ar32, sx_ar33, sx_ar34, sx_ar35, sx_ar36, sy_ob_S, sy_ob_W, sy_ar_W, sx_if0, sx_if1, sx_ie0, sx_em, Classical.not_not, sx_cle, sx_clt, sx_cge, sx_cgt, sx_ceq, Nat.reduceLT, Nat.reduceLeDiff, Nat.reduceAdd, Nat.reduceSub, Nat.reduceEqDiff, reduceIte, List.length_cons, List.length_nil, true_and, and_true, and_self, Bool.false_eq_true, true_implies, not_true_eq_false, not_false_eq_true, false_implies, implies_true, ne_eq, reduceCtorEq, Option.some.injEq, false_and, and_false, Int.reduceNeg, Int.reduceToNat, Int.reduceLT, Int.reduceLE, Int.reduceEq, Int.reduceAdd, Int.reduceSub, Int.reduceMul, or_false, false_or, or_true, true_or, forall_const, Int.toNat_natCast, Int.toNat_zero, Int.toNat_one, Nat.zero_add, or_self, Int.neg_eq_zero]
  obtain ⟨hm, h⟩ := h
  have hn := hm.1
  unfold m_site at hn
  rw [hn.1]
  by_cases hC : (0 ≤ x ∧ x < ns) ∧ (-50 ≤ t ∧ t ≤ 50)
  · simp only [if_pos hC] at h
    (repeat' (first | assumption | apply And.intro | intro _)) <;> first | omega | (exfalso; omega) | contradiction
  · simp only [if_neg hC] at h
    (repeat' (first | assumption | apply And.intro | intro _)) <;> first | omega | (exfalso; omega) | contradiction
def m_tell (st : sy_S) (s : Nat) (kd a b c d : Int) : sy_S := sy_up (sy_up (sy_up (sy_up (sy_up st 28 s kd) 29 (4 * s) a) 29 (4 * s + 1) b) 29 (4 * s + 2) c) 29 (4 * s + 3) d
def sp_9_told (ns : Nat) : sy_Sp := sy_m6 24 fun s kd a b c d st post => (0 ≤ s ∧ s < 16) ∧ post none (m_tell st s.toNat kd a b c d)
def ct_9_told (ns q : Nat) : Option (Bool × Nat × sy_Sp) := match q with
  | _ => none
abbrev M_9_told (ns : Nat) : sy_M := Mk_9_told (ct_9_told ns)
theorem mv_9_told (ns : Nat) : sy_MV c_9_told y_9_told.cls none (M_9_told ns) := ⟨tv_9_told, ff_9_ok, ki_9_ok, kl_9_ok⟩
abbrev rm_9_told : Room := { frames := 0, cells := 0, slots := 0, locals := 0 }
theorem co_9_told (l : Launch) : sy_calls l rm_9_told y_9_told.cls c_9_told 7 (fun ns => (M_9_told ns).2.2.2.2.1) := by
  intro p e s m args below meth c rt wd ad ns A Q X hA q b n sp h
  replace h : ct_9_told ns q = some (b, n, sp) := h
  unfold ct_9_told at h
  cases h
theorem rc_9_told (ns : Nat) (as : List sy_V) (st : sy_S) (post : sy_R) (h : sp_9_told ns as st post) : ∃ b as', as = .inr (.inr (some (some b))) :: as' ∧ sy_ob b = some 9 := sy_m6_r rfl as st post h
theorem mc_9_told (l : Launch) : sy_MC l y_9_told c_9_told 7 none rm_9_told sp_9_told := by
  refine sy_meth M_9_told (by decide +kernel) mv_9_told (co_9_told l) ?_
  intro ns as st post WA h hok hrg ⟨hgo0, hin, hwk⟩
  have hgo : ∀ (n pc : Nat) (L k : List sy_V) (st : sy_S), rn_9_told ns (ct_9_told ns) post WA n pc L k st → WA pc L k st := fun n pc L k st h => hgo0 [] n pc L k st h
  replace h := sy_m6_e h hok
  obtain ⟨x, kd, a, b, c, d, rfl, hx, hkd, ha, hb, hc, hd, h⟩ := h
  refine ⟨Nat.le_of_ble_eq_true rfl, ?_⟩
  show WA 0 [.inr (.inr (some (some 24))), .inl (true, x), .inl (true, kd), .inl (true, a), .inl (true, b), .inl (true, c), .inl (true, d)] [] st
  refine hgo 100 _ _ _ _ ?_
  simp -implicitDefEqProofs only [↓rx_9_told_0, ↓rx_9_told_1, ↓rx_9_told_4, ↓rx_9_told_5, ↓rx_9_told_6, ↓rx_9_told_7, ↓rx_9_told_8, ↓rx_9_told_11, ↓rx_9_told_12, ↓rx_9_told_13, ↓rx_9_told_14, ↓rx_9_told_15, ↓rx_9_told_16, ↓rx_9_told_17, ↓rx_9_told_20, ↓rx_9_told_21, ↓rx_9_told_22, ↓rx_9_told_23, ↓rx_9_told_24, ↓rx_9_told_25, ↓rx_9_told_27, ↓rx_9_told_28, ↓rx_9_told_29, ↓rx_9_told_32, ↓rx_9_told_33, ↓rx_9_told_34, ↓rx_9_told_35, ↓rx_9_told_36, ↓rx_9_told_37, ↓rx_9_told_39, ↓rx_9_told_40, ↓rx_9_told_41, ↓rx_9_told_44, ↓rx_9_told_45, ↓rx_9_told_46, ↓rx_9_told_47, ↓rx_9_told_48, ↓rx_9_told_49, ↓rx_9_told_51, ↓rx_9_told_52, ↓sx_s1, ↓sx_s2, ↓sx_s3, ↓sx_s4, ↓sx_s5, ↓sx_s6, ↓sx_m0, ↓sx_m1, ↓sx_m2, ↓sx_m3, ↓sx_m4, ↓sx_m5, ↓sx_m6, ↓sx_k0_, ↓sx_k1_, ↓sx_k2_, ↓sx_k3_, ↓sx_k4_, ↓sx_k5_, ↓sx_k6_, ↓sx_sLL, ↓sx_sAI, ↓sx_mLL, ↓sx_mIIL, ↓sx_mIILL, ↓sx_mIILLL, ↓sx_qS, ↓sx_qSI, ↓sx_qSIII, sx_rit, sx_rif, sx_rlt, sx_rlf, sx_b0, sx_b1, sx_o0, sx_o1i, sx_o1a, sx_o1l, sx_o2, sx_g0, sx_g1, sx_k1, sx_k2, sx_k3, sx_f1, sx_f2, sx_f3, sx_w0, sx_w1, sx_w2, sx_w3, sx_ts, sx_tn, sx_up, sx_nS1, sx_nS2, sx_nW1, sx_nW2, sx_SW, sx_WS, sy_nS_inj, sy_nW_inj, sx_ob0, sx_ob1, sx_ob2, sx_ob3, sx_ob4, sx_ob5, sx_ob6, sx_ob7, sx_ob8, sx_ob9, sx_ob10, sx_ob11, sx_ob12, sx_ob13, sx_ob14, sx_ob15, sx_ob16, sx_ob17, sx_ob18, sx_ob19, sx_ob20, sx_ob21, sx_ob22, sx_ob23, sx_ob24, sx_ob25, sx_ob26, sx_ob27, sx_ob28, sx_ob29, sx_ob30, sx_ob31, sx_ob32, sx_ob33, sx_ob34, sx_ob35, sx_ob36, sx_fv0_0, sx_fv0_1, sx_fv0_2, sx_fv0_3, sx_fv0_4, sx_fv0_5, sx_fv1_0, sx_fv1_1, sx_fv1_2, sx_fv3_0, sx_fv3_1, sx_fv3_2, sx_fv3_3, sx_fv3_4, sx_fv7_0, sx_fv7_1, sx_fv7_2, sx_fv7_3, sx_fv7_4, sx_fv7_5, sx_fv7_6, sx_fv7_7, sx_fv7_8, sx_fv7_9, sx_fv7_10, sx_fv9_0, sx_fv9_1, sx_fv9_2, sx_fv9_3, sx_fv11_0, sx_fv11_1, sx_fv11_2, sx_fv11_3, sx_fv11_4, sx_fv11_5, sx_fv11_6, sx_fv15_0, sx_fv15_1, sx_fv15_2, sx_fv15_3, sx_fv15_4, sx_fv15_5, sx_fv19_0, sx_fv19_1, sx_fv19_2, sx_fv19_3, sx_fv19_4, sx_fv19_5, sx_fv19_6, sx_fv24_0, sx_fv24_1, sx_fv24_2, sx_fv24_3, sx_fv24_4, sx_fv24_5, sx_fv24_6, sx_fv24_7, sx_fv24_8, sx_fv24_9, sx_fv24_10, sx_fv24_11, sx_fv24_12, sx_fv24_13, sx_fv24_14, sx_fv24_15, sx_fv24_16, sx_fv24_17, sx_fv24_18, sx_fvS_0, sx_fvS_1, sx_fvS_2, sx_fvS_3, sx_fvS_4, sx_fvS_5, sx_fvS_6, sx_fvS_7, sx_fvS_8, sx_fvS_9, sx_ar2, sx_ar4, sx_ar5, sx_ar6, sx_ar8, sx_ar10, sx_ar12, sx_ar13, sx_ar14, sx_ar16, sx_ar17, sx_ar18, sx_ar20, sx_ar21, sx_ar22, sx_ar23, sx_ar25, sx_ar26, sx_ar27, sx_ar28, sx_ar29, sx_ar30, sx_ar31, sx_ar32, sx_ar33, sx_ar34, sx_ar35, sx_ar36, sy_ob_S, sy_ob_W, sy_ar_W, sx_if0, sx_if1, sx_ie0, sx_em, Classical.not_not, sx_cle, sx_clt, sx_cge, sx_cgt, sx_ceq, Nat.reduceLT, Nat.reduceLeDiff, Nat.reduceAdd, Nat.reduceSub, Nat.reduceEqDiff, reduceIte, List.length_cons, List.length_nil, true_and, and_true, and_self, Bool.false_eq_true, true_implies, not_true_eq_false, not_false_eq_true, false_implies, implies_true, ne_eq, reduceCtorEq, Option.some.injEq, false_and, and_false, Int.reduceNeg, Int.reduceToNat, Int.reduceLT, Int.reduceLE, Int.reduceEq, Int.reduceAdd, Int.reduceSub, Int.reduceMul, or_false, false_or, or_true, true_or, forall_const, Int.toNat_natCast, Int.toNat_zero, Int.toNat_one, Nat.zero_add, or_self, Int.neg_eq_zero]
  obtain ⟨hx1, h⟩ := h
  have e0 : (4 * x).toNat = 4 * x.toNat := by omega
  have e1 : (4 * x + 1).toNat = 4 * x.toNat + 1 := by omega
  have e2 : (4 * x + 2).toNat = 4 * x.toNat + 2 := by omega
  have e3 : (4 * x + 3).toNat = 4 * x.toNat + 3 := by omega
  rw [e0, e1, e2, e3]
  exact ⟨by omega, by omega, by omega, by omega, by omega, h⟩
def sp_9_chord (ns : Nat) : sy_Sp := sy_m5 24 fun s a b c d st post => m_ok ns st ∧ post (some (.inl (true, if (0 ≤ s ∧ s < ns) ∧ -1000 ≤ a ∧ a ≤ b ∧ b ≤ c ∧ c ≤ d ∧ d ≤ 1000 then 1 else 0))) (if (0 ≤ s ∧ s < ns) ∧ -1000 ≤ a ∧ a ≤ b ∧ b ≤ c ∧ c ≤ d ∧ d ≤ 1000 then m_tell st s.toNat 1 a b c d else st)
def ct_9_chord (ns q : Nat) : Option (Bool × Nat × sy_Sp) := match q with
  | 73 => some (false, 2, sp_9_isSite ns)
  | 77 => some (true, 1, sp_9_isTick ns)
  | 80 => some (false, 7, sp_9_told ns)
  | _ => none
abbrev M_9_chord (ns : Nat) : sy_M := Mk_9_chord (ct_9_chord ns)
theorem cx_9_chord_73 {ns : Nat} {v1 v2 : sy_V} {r : List sy_V} {s : sy_S} {f : List sy_V → sy_S → Prop} : sy_call false (ct_9_chord ns 73) (v2 :: v1 :: r) s f = (sy_wd r ≤ 8 ∧ (sy_fit v2 ∧ sy_fit v1) ∧ sp_9_isSite ns [sy_kn v1, sy_kn v2] s (fun q t => f (q.toList ++ r) t)) := sx_call2
theorem cx_9_chord_77 {ns : Nat} {v1 : sy_V} {r : List sy_V} {s : sy_S} {f : List sy_V → sy_S → Prop} : sy_call true (ct_9_chord ns 77) (v1 :: r) s f = (sy_wd r ≤ 8 ∧ (sy_fit v1) ∧ sp_9_isTick ns [sy_kn v1] s (fun q t => f (q.toList ++ r) t)) := sx_call1
theorem cx_9_chord_80 {ns : Nat} {v1 v2 v3 v4 v5 v6 v7 : sy_V} {r : List sy_V} {s : sy_S} {f : List sy_V → sy_S → Prop} : sy_call false (ct_9_chord ns 80) (v7 :: v6 :: v5 :: v4 :: v3 :: v2 :: v1 :: r) s f = (sy_wd r ≤ 8 ∧ (sy_fit v7 ∧ sy_fit v6 ∧ sy_fit v5 ∧ sy_fit v4 ∧ sy_fit v3 ∧ sy_fit v2 ∧ sy_fit v1) ∧ sp_9_told ns [sy_kn v1, sy_kn v2, sy_kn v3, sy_kn v4, sy_kn v5, sy_kn v6, sy_kn v7] s (fun q t => f (q.toList ++ r) t)) := sx_call7
theorem mv_9_chord (ns : Nat) : sy_MV c_9_chord y_9_chord.cls (some .boolean) (M_9_chord ns) := ⟨tv_9_chord, ff_9_ok, ki_9_ok, kl_9_ok⟩
abbrev rm_9_chord : Room := { frames := 2, cells := 0, slots := 0, locals := 42 }
theorem iw_9_told : Cond.code y_9_told c_9_told 7 none ∈ sy_tb ∧ Cond.initialized y_9_told.cls ∈ sy_tb ∧ (y_9_told.cls ≠ "java/lang/invoke/MethodHandle" ∧ y_9_told.cls ≠ "java/lang/invoke/VarHandle" ∧ (parseMethodDescriptor y_9_told.desc).map (fun d => d.parameters.length) = some 6) := ⟨sy_inx 884 (by decide +kernel) (by decide +kernel), sy_inx 53 (by decide +kernel) (by decide +kernel), by decide +kernel⟩
theorem ii_9_told : Cond.instanceMethod y_9_told ∈ sy_tb ∧ Cond.selects y_9_told.cls y_9_told y_9_told ∈ sy_tb := ⟨sy_inx 883 (by decide +kernel) (by decide +kernel), sy_inx 27 (by decide +kernel) (by decide +kernel)⟩
theorem co_9_chord (l : Launch) : sy_calls l rm_9_chord y_9_chord.cls c_9_chord 6 (fun ns => (M_9_chord ns).2.2.2.2.1) := by
  intro p e s m args below meth c rt wd ad ns A Q X hA q b n sp h
  replace h : ct_9_chord ns q = some (b, n, sp) := h
  unfold ct_9_chord at h
  split at h
  · cases h; exact sy_coV (ci := 9) X hA (mc_9_isSite l) ⟨iw_9_isSite.1, iw_9_isSite.2.1, iw_9_isSite.2.2, ⟨by decide, by decide⟩, rfl, rfl⟩ (sy_inx 870 (by decide +kernel) (by decide +kernel)) ii_9_isSite.1 ii_9_isSite.2 (rc_9_isSite ns) ⟨_, rfl, rfl⟩
  · cases h; exact sy_coS X hA (mc_9_isTick l) ⟨iw_9_isTick.1, iw_9_isTick.2.1, iw_9_isTick.2.2, ⟨by decide, by decide⟩, rfl, rfl⟩ (sy_inx 878 (by decide +kernel) (by decide +kernel)) is_9_isTick
  · cases h; exact sy_coV (ci := 9) X hA (mc_9_told l) ⟨iw_9_told.1, iw_9_told.2.1, iw_9_told.2.2, ⟨by decide, by decide⟩, rfl, rfl⟩ (sy_inx 881 (by decide +kernel) (by decide +kernel)) ii_9_told.1 ii_9_told.2 (rc_9_told ns) ⟨_, rfl, rfl⟩
  · cases h
theorem rc_9_chord (ns : Nat) (as : List sy_V) (st : sy_S) (post : sy_R) (h : sp_9_chord ns as st post) : ∃ b as', as = .inr (.inr (some (some b))) :: as' ∧ sy_ob b = some 9 := sy_m5_r rfl as st post h
theorem mc_9_chord (l : Launch) : sy_MC l y_9_chord c_9_chord 6 (some .boolean) rm_9_chord sp_9_chord := by
  refine sy_meth M_9_chord (by decide +kernel) mv_9_chord (co_9_chord l) ?_
  intro ns as st post WA h hok hrg ⟨hgo0, hin, hwk⟩
  have hgo : ∀ (n pc : Nat) (L k : List sy_V) (st : sy_S), rn_9_chord ns (ct_9_chord ns) post WA n pc L k st → WA pc L k st := fun n pc L k st h => hgo0 [] n pc L k st h
  replace h := sy_m5_e h hok
  obtain ⟨x, a, b, c, d, rfl, hx, ha, hb, hc, hd, h⟩ := h
  refine ⟨Nat.le_of_ble_eq_true rfl, ?_⟩
  show WA 0 [.inr (.inr (some (some 24))), .inl (true, x), .inl (true, a), .inl (true, b), .inl (true, c), .inl (true, d)] [] st
  refine hgo 100 _ _ _ _ ?_
  simp -implicitDefEqProofs only [↓rx_9_chord_0, ↓rx_9_chord_1, ↓rx_9_chord_2, ↓rx_9_chord_5, ↓rx_9_chord_8, ↓rx_9_chord_9, ↓rx_9_chord_12, ↓rx_9_chord_15, ↓rx_9_chord_17, ↓rx_9_chord_20, ↓rx_9_chord_23, ↓rx_9_chord_24, ↓rx_9_chord_25, ↓rx_9_chord_28, ↓rx_9_chord_29, ↓rx_9_chord_31, ↓rx_9_chord_34, ↓rx_9_chord_36, ↓rx_9_chord_38, ↓rx_9_chord_41, ↓rx_9_chord_42, ↓rx_9_chord_43, ↓rx_9_chord_44, ↓rx_9_chord_45, ↓rx_9_chord_46, ↓rx_9_chord_47, ↓rx_9_chord_48, ↓rx_9_chord_50, ↓rx_9_chord_52, ↓rx_9_chord_55, ↓rx_9_chord_56, ↓cx_9_chord_73, ↓cx_9_chord_77, ↓cx_9_chord_80, sp_9_isSite, sp_9_isTick, sp_9_told, ↓sx_s1, ↓sx_s2, ↓sx_s3, ↓sx_s4, ↓sx_s5, ↓sx_s6, ↓sx_m0, ↓sx_m1, ↓sx_m2, ↓sx_m3, ↓sx_m4, ↓sx_m5, ↓sx_m6, ↓sx_k0_, ↓sx_k1_, ↓sx_k2_, ↓sx_k3_, ↓sx_k4_, ↓sx_k5_, ↓sx_k6_, ↓sx_sLL, ↓sx_sAI, ↓sx_mLL, ↓sx_mIIL, ↓sx_mIILL, ↓sx_mIILLL, ↓sx_qS, ↓sx_qSI, ↓sx_qSIII, sx_rit, sx_rif, sx_rlt, sx_rlf, sx_b0, sx_b1, sx_o0, sx_o1i, sx_o1a, sx_o1l, sx_o2, sx_g0, sx_g1, sx_k1, sx_k2, sx_k3, sx_f1, sx_f2, sx_f3, sx_w0, sx_w1, sx_w2, sx_w3, sx_ts, sx_tn, sx_up, sx_nS1, sx_nS2, sx_nW1, sx_nW2, sx_SW, sx_WS, sy_nS_inj, sy_nW_inj, sx_ob0, sx_ob1, sx_ob2, sx_ob3, sx_ob4, sx_ob5, sx_ob6, sx_ob7, sx_ob8, sx_ob9, sx_ob10, sx_ob11, sx_ob12, sx_ob13, sx_ob14, sx_ob15, sx_ob16, sx_ob17, sx_ob18, sx_ob19, sx_ob20, sx_ob21, sx_ob22, sx_ob23, sx_ob24, sx_ob25, sx_ob26, sx_ob27, sx_ob28, sx_ob29, sx_ob30, sx_ob31, sx_ob32, sx_ob33, sx_ob34, sx_ob35, sx_ob36, sx_fv0_0, sx_fv0_1, sx_fv0_2, sx_fv0_3, sx_fv0_4, sx_fv0_5, sx_fv1_0, sx_fv1_1, sx_fv1_2, sx_fv3_0, sx_fv3_1, sx_fv3_2, sx_fv3_3, sx_fv3_4, sx_fv7_0, sx_fv7_1, sx_fv7_2, sx_fv7_3, sx_fv7_4, sx_fv7_5, sx_fv7_6, sx_fv7_7, sx_fv7_8, sx_fv7_9, sx_fv7_10, sx_fv9_0, sx_fv9_1, sx_fv9_2, sx_fv9_3, sx_fv11_0, sx_fv11_1, sx_fv11_2, sx_fv11_3, sx_fv11_4, sx_fv11_5, sx_fv11_6, sx_fv15_0, sx_fv15_1, sx_fv15_2, sx_fv15_3, sx_fv15_4, sx_fv15_5, sx_fv19_0, sx_fv19_1, sx_fv19_2, sx_fv19_3, sx_fv19_4, sx_fv19_5, sx_fv19_6, sx_fv24_0, sx_fv24_1, sx_fv24_2, sx_fv24_3, sx_fv24_4, sx_fv24_5, sx_fv24_6, sx_fv24_7, sx_fv24_8, sx_fv24_9, sx_fv24_10, sx_fv24_11, sx_fv24_12, sx_fv24_13, sx_fv24_14, sx_fv24_15, sx_fv24_16, sx_fv24_17, sx_fv24_18, sx_fvS_0, sx_fvS_1, sx_fvS_2, sx_fvS_3, sx_fvS_4, sx_fvS_5, sx_fvS_6, sx_fvS_7, sx_fvS_8, sx_fvS_9, sx_ar2, sx_ar4, sx_ar5, sx_ar6, sx_ar8, sx_ar10, sx_ar12, sx_ar13, sx_ar14, sx_ar16, sx_ar17, sx_ar18, sx_ar20, sx_ar21, sx_ar22, sx_ar23, sx_ar25, sx_ar26, sx_ar27, sx_ar28, sx_ar29, sx_ar30, sx_ar31, sx_ar32, sx_ar33, sx_ar34, sx_ar35, sx_ar36, sy_ob_S, sy_ob_W, sy_ar_W, sx_if0, sx_if1, sx_ie0, sx_em, Classical.not_not, sx_cle, sx_clt, sx_cge, sx_cgt, sx_ceq, Nat.reduceLT, Nat.reduceLeDiff, Nat.reduceAdd, Nat.reduceSub, Nat.reduceEqDiff, reduceIte, List.length_cons, List.length_nil, true_and, and_true, and_self, Bool.false_eq_true, true_implies, not_true_eq_false, not_false_eq_true, false_implies, implies_true, ne_eq, reduceCtorEq, Option.some.injEq, false_and, and_false, Int.reduceNeg, Int.reduceToNat, Int.reduceLT, Int.reduceLE, Int.reduceEq, Int.reduceAdd, Int.reduceSub, Int.reduceMul, or_false, false_or, or_true, true_or, forall_const, Int.toNat_natCast, Int.toNat_zero, Int.toNat_one, Nat.zero_add, or_self, Int.neg_eq_zero]
  obtain ⟨hm, h⟩ := h
  have hn := hm.1
  unfold m_site at hn
  rw [hn.1]
  by_cases hC : (0 ≤ x ∧ x < ns) ∧ -1000 ≤ a ∧ a ≤ b ∧ b ≤ c ∧ c ≤ d ∧ d ≤ 1000
  · simp only [if_pos hC] at h
    (repeat' (first | assumption | apply And.intro | intro _)) <;> first | omega | (exfalso; omega) | contradiction
  · simp only [if_neg hC] at h
    (repeat' (first | assumption | apply And.intro | intro _)) <;> first | omega | (exfalso; omega) | contradiction
def sp_9_miss (ns : Nat) : sy_Sp := sy_m3 24 fun s a b st post => m_ok ns st ∧ post (some (.inl (true, if (0 ≤ s ∧ s < ns) ∧ -1000 ≤ a ∧ a ≤ b ∧ b ≤ 1000 then 1 else 0))) (if (0 ≤ s ∧ s < ns) ∧ -1000 ≤ a ∧ a ≤ b ∧ b ≤ 1000 then m_tell st s.toNat 2 a b 0 0 else st)
def ct_9_miss (ns q : Nat) : Option (Bool × Nat × sy_Sp) := match q with
  | 73 => some (false, 2, sp_9_isSite ns)
  | 77 => some (true, 1, sp_9_isTick ns)
  | 80 => some (false, 7, sp_9_told ns)
  | _ => none
abbrev M_9_miss (ns : Nat) : sy_M := Mk_9_miss (ct_9_miss ns)
theorem cx_9_miss_73 {ns : Nat} {v1 v2 : sy_V} {r : List sy_V} {s : sy_S} {f : List sy_V → sy_S → Prop} : sy_call false (ct_9_miss ns 73) (v2 :: v1 :: r) s f = (sy_wd r ≤ 8 ∧ (sy_fit v2 ∧ sy_fit v1) ∧ sp_9_isSite ns [sy_kn v1, sy_kn v2] s (fun q t => f (q.toList ++ r) t)) := sx_call2
theorem cx_9_miss_77 {ns : Nat} {v1 : sy_V} {r : List sy_V} {s : sy_S} {f : List sy_V → sy_S → Prop} : sy_call true (ct_9_miss ns 77) (v1 :: r) s f = (sy_wd r ≤ 8 ∧ (sy_fit v1) ∧ sp_9_isTick ns [sy_kn v1] s (fun q t => f (q.toList ++ r) t)) := sx_call1
theorem cx_9_miss_80 {ns : Nat} {v1 v2 v3 v4 v5 v6 v7 : sy_V} {r : List sy_V} {s : sy_S} {f : List sy_V → sy_S → Prop} : sy_call false (ct_9_miss ns 80) (v7 :: v6 :: v5 :: v4 :: v3 :: v2 :: v1 :: r) s f = (sy_wd r ≤ 8 ∧ (sy_fit v7 ∧ sy_fit v6 ∧ sy_fit v5 ∧ sy_fit v4 ∧ sy_fit v3 ∧ sy_fit v2 ∧ sy_fit v1) ∧ sp_9_told ns [sy_kn v1, sy_kn v2, sy_kn v3, sy_kn v4, sy_kn v5, sy_kn v6, sy_kn v7] s (fun q t => f (q.toList ++ r) t)) := sx_call7
theorem mv_9_miss (ns : Nat) : sy_MV c_9_miss y_9_miss.cls (some .boolean) (M_9_miss ns) := ⟨tv_9_miss, ff_9_ok, ki_9_ok, kl_9_ok⟩
abbrev rm_9_miss : Room := { frames := 2, cells := 0, slots := 0, locals := 42 }
theorem co_9_miss (l : Launch) : sy_calls l rm_9_miss y_9_miss.cls c_9_miss 4 (fun ns => (M_9_miss ns).2.2.2.2.1) := by
  intro p e s m args below meth c rt wd ad ns A Q X hA q b n sp h
  replace h : ct_9_miss ns q = some (b, n, sp) := h
  unfold ct_9_miss at h
  split at h
  · cases h; exact sy_coV (ci := 9) X hA (mc_9_isSite l) ⟨iw_9_isSite.1, iw_9_isSite.2.1, iw_9_isSite.2.2, ⟨by decide, by decide⟩, rfl, rfl⟩ (sy_inx 870 (by decide +kernel) (by decide +kernel)) ii_9_isSite.1 ii_9_isSite.2 (rc_9_isSite ns) ⟨_, rfl, rfl⟩
  · cases h; exact sy_coS X hA (mc_9_isTick l) ⟨iw_9_isTick.1, iw_9_isTick.2.1, iw_9_isTick.2.2, ⟨by decide, by decide⟩, rfl, rfl⟩ (sy_inx 878 (by decide +kernel) (by decide +kernel)) is_9_isTick
  · cases h; exact sy_coV (ci := 9) X hA (mc_9_told l) ⟨iw_9_told.1, iw_9_told.2.1, iw_9_told.2.2, ⟨by decide, by decide⟩, rfl, rfl⟩ (sy_inx 881 (by decide +kernel) (by decide +kernel)) ii_9_told.1 ii_9_told.2 (rc_9_told ns) ⟨_, rfl, rfl⟩
  · cases h
theorem rc_9_miss (ns : Nat) (as : List sy_V) (st : sy_S) (post : sy_R) (h : sp_9_miss ns as st post) : ∃ b as', as = .inr (.inr (some (some b))) :: as' ∧ sy_ob b = some 9 := sy_m3_r rfl as st post h
theorem mc_9_miss (l : Launch) : sy_MC l y_9_miss c_9_miss 4 (some .boolean) rm_9_miss sp_9_miss := by
  refine sy_meth M_9_miss (by decide +kernel) mv_9_miss (co_9_miss l) ?_
  intro ns as st post WA h hok hrg ⟨hgo0, hin, hwk⟩
  have hgo : ∀ (n pc : Nat) (L k : List sy_V) (st : sy_S), rn_9_miss ns (ct_9_miss ns) post WA n pc L k st → WA pc L k st := fun n pc L k st h => hgo0 [] n pc L k st h
  replace h := sy_m3_e h hok
  obtain ⟨x, a, b, rfl, hx, ha, hb, h⟩ := h
  refine ⟨Nat.le_of_ble_eq_true rfl, ?_⟩
  show WA 0 [.inr (.inr (some (some 24))), .inl (true, x), .inl (true, a), .inl (true, b)] [] st
  refine hgo 100 _ _ _ _ ?_
  simp -implicitDefEqProofs only [↓rx_9_miss_0, ↓rx_9_miss_1, ↓rx_9_miss_2, ↓rx_9_miss_5, ↓rx_9_miss_8, ↓rx_9_miss_9, ↓rx_9_miss_12, ↓rx_9_miss_15, ↓rx_9_miss_16, ↓rx_9_miss_19, ↓rx_9_miss_22, ↓rx_9_miss_23, ↓rx_9_miss_24, ↓rx_9_miss_27, ↓rx_9_miss_28, ↓rx_9_miss_29, ↓rx_9_miss_30, ↓rx_9_miss_31, ↓rx_9_miss_32, ↓rx_9_miss_33, ↓rx_9_miss_34, ↓rx_9_miss_35, ↓rx_9_miss_36, ↓rx_9_miss_39, ↓rx_9_miss_40, ↓cx_9_miss_73, ↓cx_9_miss_77, ↓cx_9_miss_80, sp_9_isSite, sp_9_isTick, sp_9_told, ↓sx_s1, ↓sx_s2, ↓sx_s3, ↓sx_s4, ↓sx_s5, ↓sx_s6, ↓sx_m0, ↓sx_m1, ↓sx_m2, ↓sx_m3, ↓sx_m4, ↓sx_m5, ↓sx_m6, ↓sx_k0_, ↓sx_k1_, ↓sx_k2_, ↓sx_k3_, ↓sx_k4_, ↓sx_k5_, ↓sx_k6_, ↓sx_sLL, ↓sx_sAI, ↓sx_mLL, ↓sx_mIIL, ↓sx_mIILL, ↓sx_mIILLL, ↓sx_qS, ↓sx_qSI, ↓sx_qSIII, sx_rit, sx_rif, sx_rlt, sx_rlf, sx_b0, sx_b1, sx_o0, sx_o1i, sx_o1a, sx_o1l, sx_o2, sx_g0, sx_g1, sx_k1, sx_k2, sx_k3, sx_f1, sx_f2, sx_f3, sx_w0, sx_w1, sx_w2, sx_w3, sx_ts, sx_tn, sx_up, sx_nS1, sx_nS2, sx_nW1, sx_nW2, sx_SW, sx_WS, sy_nS_inj, sy_nW_inj, sx_ob0, sx_ob1, sx_ob2, sx_ob3, sx_ob4, sx_ob5, sx_ob6, sx_ob7, sx_ob8, sx_ob9, sx_ob10, sx_ob11, sx_ob12, sx_ob13, sx_ob14, sx_ob15, sx_ob16, sx_ob17, sx_ob18, sx_ob19, sx_ob20, sx_ob21, sx_ob22, sx_ob23, sx_ob24, sx_ob25, sx_ob26, sx_ob27, sx_ob28, sx_ob29, sx_ob30, sx_ob31, sx_ob32, sx_ob33, sx_ob34, sx_ob35, sx_ob36, sx_fv0_0, sx_fv0_1, sx_fv0_2, sx_fv0_3, sx_fv0_4, sx_fv0_5, sx_fv1_0, sx_fv1_1, sx_fv1_2, sx_fv3_0, sx_fv3_1, sx_fv3_2, sx_fv3_3, sx_fv3_4, sx_fv7_0, sx_fv7_1, sx_fv7_2, sx_fv7_3, sx_fv7_4, sx_fv7_5, sx_fv7_6, sx_fv7_7, sx_fv7_8, sx_fv7_9, sx_fv7_10, sx_fv9_0, sx_fv9_1, sx_fv9_2, sx_fv9_3, sx_fv11_0, sx_fv11_1, sx_fv11_2, sx_fv11_3, sx_fv11_4, sx_fv11_5, sx_fv11_6, sx_fv15_0, sx_fv15_1, sx_fv15_2, sx_fv15_3, sx_fv15_4, sx_fv15_5, sx_fv19_0, sx_fv19_1, sx_fv19_2, sx_fv19_3, sx_fv19_4, sx_fv19_5, sx_fv19_6, sx_fv24_0, sx_fv24_1, sx_fv24_2, sx_fv24_3, sx_fv24_4, sx_fv24_5, sx_fv24_6, sx_fv24_7, sx_fv24_8, sx_fv24_9, sx_fv24_10, sx_fv24_11, sx_fv24_12, sx_fv24_13, sx_fv24_14, sx_fv24_15, sx_fv24_16, sx_fv24_17, sx_fv24_18, sx_fvS_0, sx_fvS_1, sx_fvS_2, sx_fvS_3, sx_fvS_4, sx_fvS_5, sx_fvS_6, sx_fvS_7, sx_fvS_8, sx_fvS_9, sx_ar2, sx_ar4, sx_ar5, sx_ar6, sx_ar8, sx_ar10, sx_ar12, sx_ar13, sx_ar14, sx_ar16, sx_ar17, sx_ar18, sx_ar20, sx_ar21, sx_ar22, sx_ar23, sx_ar25, sx_ar26, sx_ar27, sx_ar28, sx_ar29, sx_ar30, sx_ar31, sx_ar32, sx_ar33, sx_ar34, sx_ar35, sx_ar36, sy_ob_S, sy_ob_W, sy_ar_W, sx_if0, sx_if1, sx_ie0, sx_em, Classical.not_not, sx_cle, sx_clt, sx_cge, sx_cgt, sx_ceq, Nat.reduceLT, Nat.reduceLeDiff, Nat.reduceAdd, Nat.reduceSub, Nat.reduceEqDiff, reduceIte, List.length_cons, List.length_nil, true_and, and_true, and_self, Bool.false_eq_true, true_implies, not_true_eq_false, not_false_eq_true, false_implies, implies_true, ne_eq, reduceCtorEq, Option.some.injEq, false_and, and_false, Int.reduceNeg, Int.reduceToNat, Int.reduceLT, Int.reduceLE, Int.reduceEq, Int.reduceAdd, Int.reduceSub, Int.reduceMul, or_false, false_or, or_true, true_or, forall_const, Int.toNat_natCast, Int.toNat_zero, Int.toNat_one, Nat.zero_add, or_self, Int.neg_eq_zero]
  obtain ⟨hm, h⟩ := h
  have hn := hm.1
  unfold m_site at hn
  rw [hn.1]
  by_cases hC : (0 ≤ x ∧ x < ns) ∧ -1000 ≤ a ∧ a ≤ b ∧ b ≤ 1000
  · simp only [if_pos hC] at h
    (repeat' (first | assumption | apply And.intro | intro _)) <;> first | omega | (exfalso; omega) | contradiction
  · simp only [if_neg hC] at h
    (repeat' (first | assumption | apply And.intro | intro _)) <;> first | omega | (exfalso; omega) | contradiction
def sp_9_cloud (ns : Nat) : sy_Sp := sy_m1 24 fun s st post => m_ok ns st ∧ post (some (.inl (true, if 0 ≤ s ∧ s < ns then 1 else 0))) (if 0 ≤ s ∧ s < ns then m_tell st s.toNat 3 0 0 0 0 else st)
def ct_9_cloud (ns q : Nat) : Option (Bool × Nat × sy_Sp) := match q with
  | 73 => some (false, 2, sp_9_isSite ns)
  | 80 => some (false, 7, sp_9_told ns)
  | _ => none
abbrev M_9_cloud (ns : Nat) : sy_M := Mk_9_cloud (ct_9_cloud ns)
theorem cx_9_cloud_73 {ns : Nat} {v1 v2 : sy_V} {r : List sy_V} {s : sy_S} {f : List sy_V → sy_S → Prop} : sy_call false (ct_9_cloud ns 73) (v2 :: v1 :: r) s f = (sy_wd r ≤ 8 ∧ (sy_fit v2 ∧ sy_fit v1) ∧ sp_9_isSite ns [sy_kn v1, sy_kn v2] s (fun q t => f (q.toList ++ r) t)) := sx_call2
theorem cx_9_cloud_80 {ns : Nat} {v1 v2 v3 v4 v5 v6 v7 : sy_V} {r : List sy_V} {s : sy_S} {f : List sy_V → sy_S → Prop} : sy_call false (ct_9_cloud ns 80) (v7 :: v6 :: v5 :: v4 :: v3 :: v2 :: v1 :: r) s f = (sy_wd r ≤ 8 ∧ (sy_fit v7 ∧ sy_fit v6 ∧ sy_fit v5 ∧ sy_fit v4 ∧ sy_fit v3 ∧ sy_fit v2 ∧ sy_fit v1) ∧ sp_9_told ns [sy_kn v1, sy_kn v2, sy_kn v3, sy_kn v4, sy_kn v5, sy_kn v6, sy_kn v7] s (fun q t => f (q.toList ++ r) t)) := sx_call7
theorem mv_9_cloud (ns : Nat) : sy_MV c_9_cloud y_9_cloud.cls (some .boolean) (M_9_cloud ns) := ⟨tv_9_cloud, ff_9_ok, ki_9_ok, kl_9_ok⟩
abbrev rm_9_cloud : Room := { frames := 1, cells := 0, slots := 0, locals := 26 }
theorem co_9_cloud (l : Launch) : sy_calls l rm_9_cloud y_9_cloud.cls c_9_cloud 2 (fun ns => (M_9_cloud ns).2.2.2.2.1) := by
  intro p e s m args below meth c rt wd ad ns A Q X hA q b n sp h
  replace h : ct_9_cloud ns q = some (b, n, sp) := h
  unfold ct_9_cloud at h
  split at h
  · cases h; exact sy_coV (ci := 9) X hA (mc_9_isSite l) ⟨iw_9_isSite.1, iw_9_isSite.2.1, iw_9_isSite.2.2, ⟨by decide, by decide⟩, rfl, rfl⟩ (sy_inx 870 (by decide +kernel) (by decide +kernel)) ii_9_isSite.1 ii_9_isSite.2 (rc_9_isSite ns) ⟨_, rfl, rfl⟩
  · cases h; exact sy_coV (ci := 9) X hA (mc_9_told l) ⟨iw_9_told.1, iw_9_told.2.1, iw_9_told.2.2, ⟨by decide, by decide⟩, rfl, rfl⟩ (sy_inx 881 (by decide +kernel) (by decide +kernel)) ii_9_told.1 ii_9_told.2 (rc_9_told ns) ⟨_, rfl, rfl⟩
  · cases h
theorem rc_9_cloud (ns : Nat) (as : List sy_V) (st : sy_S) (post : sy_R) (h : sp_9_cloud ns as st post) : ∃ b as', as = .inr (.inr (some (some b))) :: as' ∧ sy_ob b = some 9 := sy_m1_r rfl as st post h
theorem mc_9_cloud (l : Launch) : sy_MC l y_9_cloud c_9_cloud 2 (some .boolean) rm_9_cloud sp_9_cloud := by
  refine sy_meth M_9_cloud (by decide +kernel) mv_9_cloud (co_9_cloud l) ?_
  intro ns as st post WA h hok hrg ⟨hgo0, hin, hwk⟩
  have hgo : ∀ (n pc : Nat) (L k : List sy_V) (st : sy_S), rn_9_cloud ns (ct_9_cloud ns) post WA n pc L k st → WA pc L k st := fun n pc L k st h => hgo0 [] n pc L k st h
  replace h := sy_m1_e h hok
  obtain ⟨x, rfl, hx, h⟩ := h
  refine ⟨Nat.le_of_ble_eq_true rfl, ?_⟩
  show WA 0 [.inr (.inr (some (some 24))), .inl (true, x)] [] st
  refine hgo 100 _ _ _ _ ?_
  simp -implicitDefEqProofs only [↓rx_9_cloud_0, ↓rx_9_cloud_1, ↓rx_9_cloud_2, ↓rx_9_cloud_5, ↓rx_9_cloud_8, ↓rx_9_cloud_9, ↓rx_9_cloud_10, ↓rx_9_cloud_11, ↓rx_9_cloud_12, ↓rx_9_cloud_13, ↓rx_9_cloud_14, ↓rx_9_cloud_15, ↓rx_9_cloud_16, ↓rx_9_cloud_17, ↓rx_9_cloud_20, ↓rx_9_cloud_21, ↓cx_9_cloud_73, ↓cx_9_cloud_80, sp_9_isSite, sp_9_told, ↓sx_s1, ↓sx_s2, ↓sx_s3, ↓sx_s4, ↓sx_s5, ↓sx_s6, ↓sx_m0, ↓sx_m1, ↓sx_m2, ↓sx_m3, ↓sx_m4, ↓sx_m5, ↓sx_m6, ↓sx_k0_, ↓sx_k1_, ↓sx_k2_, ↓sx_k3_, ↓sx_k4_, ↓sx_k5_, ↓sx_k6_, ↓sx_sLL, ↓sx_sAI, ↓sx_mLL, ↓sx_mIIL, ↓sx_mIILL, ↓sx_mIILLL, ↓sx_qS, ↓sx_qSI, ↓sx_qSIII, sx_rit, sx_rif, sx_rlt, sx_rlf, sx_b0, sx_b1, sx_o0, sx_o1i, sx_o1a, sx_o1l, sx_o2, sx_g0, sx_g1, sx_k1, sx_k2, sx_k3, sx_f1, sx_f2, sx_f3, sx_w0, sx_w1, sx_w2, sx_w3, sx_ts, sx_tn, sx_up, sx_nS1, sx_nS2, sx_nW1, sx_nW2, sx_SW, sx_WS, sy_nS_inj, sy_nW_inj, sx_ob0, sx_ob1, sx_ob2, sx_ob3, sx_ob4, sx_ob5, sx_ob6, sx_ob7, sx_ob8, sx_ob9, sx_ob10, sx_ob11, sx_ob12, sx_ob13, sx_ob14, sx_ob15, sx_ob16, sx_ob17, sx_ob18, sx_ob19, sx_ob20, sx_ob21, sx_ob22, sx_ob23, sx_ob24, sx_ob25, sx_ob26, sx_ob27, sx_ob28, sx_ob29, sx_ob30, sx_ob31, sx_ob32, sx_ob33, sx_ob34, sx_ob35, sx_ob36, sx_fv0_0, sx_fv0_1, sx_fv0_2, sx_fv0_3, sx_fv0_4, sx_fv0_5, sx_fv1_0, sx_fv1_1, sx_fv1_2, sx_fv3_0, sx_fv3_1, sx_fv3_2, sx_fv3_3, sx_fv3_4, sx_fv7_0, sx_fv7_1, sx_fv7_2, sx_fv7_3, sx_fv7_4, sx_fv7_5, sx_fv7_6, sx_fv7_7, sx_fv7_8, sx_fv7_9, sx_fv7_10, sx_fv9_0, sx_fv9_1, sx_fv9_2, sx_fv9_3, sx_fv11_0, sx_fv11_1, sx_fv11_2, sx_fv11_3, sx_fv11_4, sx_fv11_5, sx_fv11_6, sx_fv15_0, sx_fv15_1, sx_fv15_2, sx_fv15_3, sx_fv15_4, sx_fv15_5, sx_fv19_0, sx_fv19_1, sx_fv19_2, sx_fv19_3, sx_fv19_4, sx_fv19_5, sx_fv19_6, sx_fv24_0, sx_fv24_1, sx_fv24_2, sx_fv24_3, sx_fv24_4, sx_fv24_5, sx_fv24_6, sx_fv24_7, sx_fv24_8, sx_fv24_9, sx_fv24_10, sx_fv24_11, sx_fv24_12, sx_fv24_13, sx_fv24_14, sx_fv24_15, sx_fv24_16, sx_fv24_17, sx_fv24_18, sx_fvS_0, sx_fvS_1, sx_fvS_2, sx_fvS_3, sx_fvS_4, sx_fvS_5, sx_fvS_6, sx_fvS_7, sx_fvS_8, sx_fvS_9, sx_ar2, sx_ar4, sx_ar5, sx_ar6, sx_ar8, sx_ar10, sx_ar12, sx_ar13, sx_ar14, sx_ar16, sx_ar17, sx_ar18, sx_ar20, sx_ar21, sx_ar22, sx_ar23, sx_ar25, sx_ar26, sx_ar27, sx_ar28, sx_ar29, sx_ar30, sx_ar31, sx_ar32, sx_ar33, sx_ar34, sx_ar35, sx_ar36, sy_ob_S, sy_ob_W, sy_ar_W, sx_if0, sx_if1, sx_ie0, sx_em, Classical.not_not, sx_cle, sx_clt, sx_cge, sx_cgt, sx_ceq, Nat.reduceLT, Nat.reduceLeDiff, Nat.reduceAdd, Nat.reduceSub, Nat.reduceEqDiff, reduceIte, List.length_cons, List.length_nil, true_and, and_true, and_self, Bool.false_eq_true, true_implies, not_true_eq_false, not_false_eq_true, false_implies, implies_true, ne_eq, reduceCtorEq, Option.some.injEq, false_and, and_false, Int.reduceNeg, Int.reduceToNat, Int.reduceLT, Int.reduceLE, Int.reduceEq, Int.reduceAdd, Int.reduceSub, Int.reduceMul, or_false, false_or, or_true, true_or, forall_const, Int.toNat_natCast, Int.toNat_zero, Int.toNat_one, Nat.zero_add, or_self, Int.neg_eq_zero]
  obtain ⟨hm, h⟩ := h
  have hn := hm.1
  unfold m_site at hn
  rw [hn.1]
  by_cases hC : 0 ≤ x ∧ x < ns
  · simp only [if_pos hC] at h
    (repeat' (first | assumption | apply And.intro | intro _)) <;> first | omega | (exfalso; omega) | contradiction
  · simp only [if_neg hC] at h
    (repeat' (first | assumption | apply And.intro | intro _)) <;> first | omega | (exfalso; omega) | contradiction
def sp_9_unsay (ns : Nat) : sy_Sp := sy_m1 24 fun s st post => m_ok ns st ∧ post (some (.inl (true, if (0 ≤ s ∧ s < ns) ∧ st 28 s.toNat ≠ 0 then 1 else 0))) (if (0 ≤ s ∧ s < ns) ∧ st 28 s.toNat ≠ 0 then sy_up st 28 s.toNat 0 else st)
def ct_9_unsay (ns q : Nat) : Option (Bool × Nat × sy_Sp) := match q with
  | 73 => some (false, 2, sp_9_isSite ns)
  | _ => none
abbrev M_9_unsay (ns : Nat) : sy_M := Mk_9_unsay (ct_9_unsay ns)
theorem cx_9_unsay_73 {ns : Nat} {v1 v2 : sy_V} {r : List sy_V} {s : sy_S} {f : List sy_V → sy_S → Prop} : sy_call false (ct_9_unsay ns 73) (v2 :: v1 :: r) s f = (sy_wd r ≤ 8 ∧ (sy_fit v2 ∧ sy_fit v1) ∧ sp_9_isSite ns [sy_kn v1, sy_kn v2] s (fun q t => f (q.toList ++ r) t)) := sx_call2
theorem mv_9_unsay (ns : Nat) : sy_MV c_9_unsay y_9_unsay.cls (some .boolean) (M_9_unsay ns) := ⟨tv_9_unsay, ff_9_ok, ki_9_ok, kl_9_ok⟩
abbrev rm_9_unsay : Room := { frames := 1, cells := 0, slots := 0, locals := 21 }
theorem co_9_unsay (l : Launch) : sy_calls l rm_9_unsay y_9_unsay.cls c_9_unsay 2 (fun ns => (M_9_unsay ns).2.2.2.2.1) := by
  intro p e s m args below meth c rt wd ad ns A Q X hA q b n sp h
  replace h : ct_9_unsay ns q = some (b, n, sp) := h
  unfold ct_9_unsay at h
  split at h
  · cases h; exact sy_coV (ci := 9) X hA (mc_9_isSite l) ⟨iw_9_isSite.1, iw_9_isSite.2.1, iw_9_isSite.2.2, ⟨by decide, by decide⟩, rfl, rfl⟩ (sy_inx 870 (by decide +kernel) (by decide +kernel)) ii_9_isSite.1 ii_9_isSite.2 (rc_9_isSite ns) ⟨_, rfl, rfl⟩
  · cases h
theorem rc_9_unsay (ns : Nat) (as : List sy_V) (st : sy_S) (post : sy_R) (h : sp_9_unsay ns as st post) : ∃ b as', as = .inr (.inr (some (some b))) :: as' ∧ sy_ob b = some 9 := sy_m1_r rfl as st post h
theorem mc_9_unsay (l : Launch) : sy_MC l y_9_unsay c_9_unsay 2 (some .boolean) rm_9_unsay sp_9_unsay := by
  refine sy_meth M_9_unsay (by decide +kernel) mv_9_unsay (co_9_unsay l) ?_
  intro ns as st post WA h hok hrg ⟨hgo0, hin, hwk⟩
  have hgo : ∀ (n pc : Nat) (L k : List sy_V) (st : sy_S), rn_9_unsay ns (ct_9_unsay ns) post WA n pc L k st → WA pc L k st := fun n pc L k st h => hgo0 [] n pc L k st h
  replace h := sy_m1_e h hok
  obtain ⟨x, rfl, hx, h⟩ := h
  refine ⟨Nat.le_of_ble_eq_true rfl, ?_⟩
  show WA 0 [.inr (.inr (some (some 24))), .inl (true, x)] [] st
  refine hgo 100 _ _ _ _ ?_
  simp -implicitDefEqProofs only [↓rx_9_unsay_0, ↓rx_9_unsay_1, ↓rx_9_unsay_2, ↓rx_9_unsay_5, ↓rx_9_unsay_8, ↓rx_9_unsay_9, ↓rx_9_unsay_12, ↓rx_9_unsay_13, ↓rx_9_unsay_14, ↓rx_9_unsay_17, ↓rx_9_unsay_18, ↓rx_9_unsay_19, ↓rx_9_unsay_20, ↓rx_9_unsay_23, ↓rx_9_unsay_24, ↓rx_9_unsay_25, ↓rx_9_unsay_26, ↓rx_9_unsay_27, ↓cx_9_unsay_73, sp_9_isSite, ↓sx_s1, ↓sx_s2, ↓sx_s3, ↓sx_s4, ↓sx_s5, ↓sx_s6, ↓sx_m0, ↓sx_m1, ↓sx_m2, ↓sx_m3, ↓sx_m4, ↓sx_m5, ↓sx_m6, ↓sx_k0_, ↓sx_k1_, ↓sx_k2_, ↓sx_k3_, ↓sx_k4_, ↓sx_k5_, ↓sx_k6_, ↓sx_sLL, ↓sx_sAI, ↓sx_mLL, ↓sx_mIIL, ↓sx_mIILL, ↓sx_mIILLL, ↓sx_qS, ↓sx_qSI, ↓sx_qSIII, sx_rit, sx_rif, sx_rlt, sx_rlf, sx_b0, sx_b1, sx_o0, sx_o1i, sx_o1a, sx_o1l, sx_o2, sx_g0, sx_g1, sx_k1, sx_k2, sx_k3, sx_f1, sx_f2, sx_f3, sx_w0, sx_w1, sx_w2, sx_w3, sx_ts, sx_tn, sx_up, sx_nS1, sx_nS2, sx_nW1, sx_nW2, sx_SW, sx_WS, sy_nS_inj, sy_nW_inj, sx_ob0, sx_ob1, sx_ob2, sx_ob3, sx_ob4, sx_ob5, sx_ob6, sx_ob7, sx_ob8, sx_ob9, sx_ob10, sx_ob11, sx_ob12, sx_ob13, sx_ob14, sx_ob15, sx_ob16, sx_ob17, sx_ob18, sx_ob19, sx_ob20, sx_ob21, sx_ob22, sx_ob23, sx_ob24, sx_ob25, sx_ob26, sx_ob27, sx_ob28, sx_ob29, sx_ob30, sx_ob31, sx_ob32, sx_ob33, sx_ob34, sx_ob35, sx_ob36, sx_fv0_0, sx_fv0_1, sx_fv0_2, sx_fv0_3, sx_fv0_4, sx_fv0_5, sx_fv1_0, sx_fv1_1, sx_fv1_2, sx_fv3_0, sx_fv3_1, sx_fv3_2, sx_fv3_3, sx_fv3_4, sx_fv7_0, sx_fv7_1, sx_fv7_2, sx_fv7_3, sx_fv7_4, sx_fv7_5, sx_fv7_6, sx_fv7_7, sx_fv7_8, sx_fv7_9, sx_fv7_10, sx_fv9_0, sx_fv9_1, sx_fv9_2, sx_fv9_3, sx_fv11_0, sx_fv11_1, sx_fv11_2, sx_fv11_3, sx_fv11_4, sx_fv11_5, sx_fv11_6, sx_fv15_0, sx_fv15_1, sx_fv15_2, sx_fv15_3, sx_fv15_4, sx_fv15_5, sx_fv19_0, sx_fv19_1, sx_fv19_2, sx_fv19_3, sx_fv19_4, sx_fv19_5, sx_fv19_6, sx_fv24_0, sx_fv24_1, sx_fv24_2, sx_fv24_3, sx_fv24_4, sx_fv24_5, sx_fv24_6, sx_fv24_7, sx_fv24_8, sx_fv24_9, sx_fv24_10, sx_fv24_11, sx_fv24_12, sx_fv24_13, sx_fv24_14, sx_fv24_15, sx_fv24_16, sx_fv24_17, sx_fv24_18, sx_fvS_0, sx_fvS_1, sx_fvS_2, sx_fvS_3, sx_fvS_4, sx_fvS_5, sx_fvS_6, sx_fvS_7, sx_fvS_8, sx_fvS_9, sx_ar2, sx_ar4, sx_ar5, sx_ar6, sx_ar8, sx_ar10, sx_ar12, sx_ar13, sx_ar14, sx_ar16, sx_ar17, sx_ar18, sx_ar20, sx_ar21, sx_ar22, sx_ar23, sx_ar25, sx_ar26, sx_ar27, sx_ar28, sx_ar29, sx_ar30, sx_ar31, sx_ar32, sx_ar33, sx_ar34, sx_ar35, sx_ar36, sy_ob_S, sy_ob_W, sy_ar_W, sx_if0, sx_if1, sx_ie0, sx_em, Classical.not_not, sx_cle, sx_clt, sx_cge, sx_cgt, sx_ceq, Nat.reduceLT, Nat.reduceLeDiff, Nat.reduceAdd, Nat.reduceSub, Nat.reduceEqDiff, reduceIte, List.length_cons, List.length_nil, true_and, and_true, and_self, Bool.false_eq_true, true_implies, not_true_eq_false, not_false_eq_true, false_implies, implies_true, ne_eq, reduceCtorEq, Option.some.injEq, false_and, and_false, Int.reduceNeg, Int.reduceToNat, Int.reduceLT, Int.reduceLE, Int.reduceEq, Int.reduceAdd, Int.reduceSub, Int.reduceMul, or_false, false_or, or_true, true_or, forall_const, Int.toNat_natCast, Int.toNat_zero, Int.toNat_one, Nat.zero_add, or_self, Int.neg_eq_zero]
  obtain ⟨hm, h⟩ := h
  have hn := hm.1
  unfold m_site at hn
  rw [hn.1]
  by_cases hC : (0 ≤ x ∧ x < ns) ∧ st 28 x.toNat ≠ 0
  · simp only [if_pos hC] at h
    (repeat' (first | assumption | apply And.intro | intro _)) <;> first | omega | (exfalso; omega) | contradiction
  · simp only [if_neg hC] at h
    (repeat' (first | assumption | apply And.intro | intro _)) <;> first | omega | (exfalso; omega) | contradiction
