/-! THE MODEL: forms with longs; the side of a point -/
def sy_qLL (a : Nat) (f : Int → Int → sy_S → sy_R → Prop) : sy_Sp := fun as st post => match as with
  | [.inr (.inr (some (some b))), .inr (.inl (_, x1)), .inr (.inl (_, x2))] => b = a ∧ f x1 x2 st post
  | _ => False
theorem sy_qLL_e {a : Nat} {f : Int → Int → sy_S → sy_R → Prop} {as : List sy_V} {st : sy_S} {post : sy_R} {N : Nat} (h : sy_qLL a f as st post) (hok : ∀ v ∈ as, sy_ok N v ∧ sy_kn v = v ∧ sy_set v = true) : ∃ (x1 x2 : Int), as = [.inr (.inr (some (some a))), .inr (.inl (true, x1)), .inr (.inl (true, x2))] ∧ sy_lR x1 ∧ sy_lR x2 ∧ f x1 x2 st post := by
  unfold sy_qLL at h
  split at h
  · rename_i b b1 x1 b2 x2
    obtain ⟨o1, e1, -⟩ := hok (.inr (.inl (b1, x1))) (by simp)
    injection e1 with e1; injection e1 with e1; injection e1 with e1 _; subst e1
    obtain ⟨o2, e2, -⟩ := hok (.inr (.inl (b2, x2))) (by simp)
    injection e2 with e2; injection e2 with e2; injection e2 with e2 _; subst e2
    obtain ⟨rfl, h⟩ := h
    exact ⟨x1, x2, rfl, o1, o2, h⟩
  · exact h.elim
theorem sx_qLL {a b : Nat} {f : Int → Int → sy_S → sy_R → Prop} {c1 c2 : Bool} {x1 x2 : Int} {st : sy_S} {post : sy_R} : sy_qLL a f [.inr (.inr (some (some b))), .inr (.inl (c1, x1)), .inr (.inl (c2, x2))] st post = (b = a ∧ f x1 x2 st post) := rfl
theorem sy_qLL_r {a c : Nat} {f : Int → Int → sy_S → sy_R → Prop} (hc : sy_ob a = some c) (as : List sy_V) (st : sy_S) (post : sy_R) (h : sy_qLL a f as st post) : ∃ b as', as = .inr (.inr (some (some b))) :: as' ∧ sy_ob b = some c := by
  unfold sy_qLL at h
  split at h
  · obtain ⟨rfl, h⟩ := h
    exact ⟨_, _, rfl, hc⟩
  · exact h.elim
def sy_qIILL (a : Nat) (f : Int → Int → Int → Int → sy_S → sy_R → Prop) : sy_Sp := fun as st post => match as with
  | [.inr (.inr (some (some b))), .inl (_, x1), .inl (_, x2), .inr (.inl (_, x3)), .inr (.inl (_, x4))] => b = a ∧ f x1 x2 x3 x4 st post
  | _ => False
theorem sy_qIILL_e {a : Nat} {f : Int → Int → Int → Int → sy_S → sy_R → Prop} {as : List sy_V} {st : sy_S} {post : sy_R} {N : Nat} (h : sy_qIILL a f as st post) (hok : ∀ v ∈ as, sy_ok N v ∧ sy_kn v = v ∧ sy_set v = true) : ∃ (x1 x2 x3 x4 : Int), as = [.inr (.inr (some (some a))), .inl (true, x1), .inl (true, x2), .inr (.inl (true, x3)), .inr (.inl (true, x4))] ∧ sy_iR x1 ∧ sy_iR x2 ∧ sy_lR x3 ∧ sy_lR x4 ∧ f x1 x2 x3 x4 st post := by
  unfold sy_qIILL at h
  split at h
  · rename_i b b1 x1 b2 x2 b3 x3 b4 x4
    obtain ⟨o1, e1, -⟩ := hok (.inl (b1, x1)) (by simp)
    injection e1 with e1; injection e1 with e1 _; subst e1
    obtain ⟨o2, e2, -⟩ := hok (.inl (b2, x2)) (by simp)
    injection e2 with e2; injection e2 with e2 _; subst e2
    obtain ⟨o3, e3, -⟩ := hok (.inr (.inl (b3, x3))) (by simp)
    injection e3 with e3; injection e3 with e3; injection e3 with e3 _; subst e3
    obtain ⟨o4, e4, -⟩ := hok (.inr (.inl (b4, x4))) (by simp)
    injection e4 with e4; injection e4 with e4; injection e4 with e4 _; subst e4
    obtain ⟨rfl, h⟩ := h
    exact ⟨x1, x2, x3, x4, rfl, o1, o2, o3, o4, h⟩
  · exact h.elim
theorem sx_qIILL {a b : Nat} {f : Int → Int → Int → Int → sy_S → sy_R → Prop} {c1 c2 c3 c4 : Bool} {x1 x2 x3 x4 : Int} {st : sy_S} {post : sy_R} : sy_qIILL a f [.inr (.inr (some (some b))), .inl (c1, x1), .inl (c2, x2), .inr (.inl (c3, x3)), .inr (.inl (c4, x4))] st post = (b = a ∧ f x1 x2 x3 x4 st post) := rfl
theorem sy_qIILL_r {a c : Nat} {f : Int → Int → Int → Int → sy_S → sy_R → Prop} (hc : sy_ob a = some c) (as : List sy_V) (st : sy_S) (post : sy_R) (h : sy_qIILL a f as st post) : ∃ b as', as = .inr (.inr (some (some b))) :: as' ∧ sy_ob b = some c := by
  unfold sy_qIILL at h
  split at h
  · obtain ⟨rfl, h⟩ := h
    exact ⟨_, _, rfl, hc⟩
  · exact h.elim
def sy_qIILLL (a : Nat) (f : Int → Int → Int → Int → Int → sy_S → sy_R → Prop) : sy_Sp := fun as st post => match as with
  | [.inr (.inr (some (some b))), .inl (_, x1), .inl (_, x2), .inr (.inl (_, x3)), .inr (.inl (_, x4)), .inr (.inl (_, x5))] => b = a ∧ f x1 x2 x3 x4 x5 st post
  | _ => False
theorem sy_qIILLL_e {a : Nat} {f : Int → Int → Int → Int → Int → sy_S → sy_R → Prop} {as : List sy_V} {st : sy_S} {post : sy_R} {N : Nat} (h : sy_qIILLL a f as st post) (hok : ∀ v ∈ as, sy_ok N v ∧ sy_kn v = v ∧ sy_set v = true) : ∃ (x1 x2 x3 x4 x5 : Int), as = [.inr (.inr (some (some a))), .inl (true, x1), .inl (true, x2), .inr (.inl (true, x3)), .inr (.inl (true, x4)), .inr (.inl (true, x5))] ∧ sy_iR x1 ∧ sy_iR x2 ∧ sy_lR x3 ∧ sy_lR x4 ∧ sy_lR x5 ∧ f x1 x2 x3 x4 x5 st post := by
  unfold sy_qIILLL at h
  split at h
  · rename_i b b1 x1 b2 x2 b3 x3 b4 x4 b5 x5
    obtain ⟨o1, e1, -⟩ := hok (.inl (b1, x1)) (by simp)
    injection e1 with e1; injection e1 with e1 _; subst e1
    obtain ⟨o2, e2, -⟩ := hok (.inl (b2, x2)) (by simp)
    injection e2 with e2; injection e2 with e2 _; subst e2
    obtain ⟨o3, e3, -⟩ := hok (.inr (.inl (b3, x3))) (by simp)
    injection e3 with e3; injection e3 with e3; injection e3 with e3 _; subst e3
    obtain ⟨o4, e4, -⟩ := hok (.inr (.inl (b4, x4))) (by simp)
    injection e4 with e4; injection e4 with e4; injection e4 with e4 _; subst e4
    obtain ⟨o5, e5, -⟩ := hok (.inr (.inl (b5, x5))) (by simp)
    injection e5 with e5; injection e5 with e5; injection e5 with e5 _; subst e5
    obtain ⟨rfl, h⟩ := h
    exact ⟨x1, x2, x3, x4, x5, rfl, o1, o2, o3, o4, o5, h⟩
  · exact h.elim
theorem sx_qIILLL {a b : Nat} {f : Int → Int → Int → Int → Int → sy_S → sy_R → Prop} {c1 c2 c3 c4 c5 : Bool} {x1 x2 x3 x4 x5 : Int} {st : sy_S} {post : sy_R} : sy_qIILLL a f [.inr (.inr (some (some b))), .inl (c1, x1), .inl (c2, x2), .inr (.inl (c3, x3)), .inr (.inl (c4, x4)), .inr (.inl (c5, x5))] st post = (b = a ∧ f x1 x2 x3 x4 x5 st post) := rfl
theorem sy_qIILLL_r {a c : Nat} {f : Int → Int → Int → Int → Int → sy_S → sy_R → Prop} (hc : sy_ob a = some c) (as : List sy_V) (st : sy_S) (post : sy_R) (h : sy_qIILLL a f as st post) : ∃ b as', as = .inr (.inr (some (some b))) :: as' ∧ sy_ob b = some c := by
  unfold sy_qIILLL at h
  split at h
  · obtain ⟨rfl, h⟩ := h
    exact ⟨_, _, rfl, hc⟩
  · exact h.elim
def m_P (st : sy_S) (j : Nat) : Int × Int := (st 32 j, st 33 j)
def xh_in (p : Int × Int) : Prop := (-15500 ≤ p.1 ∧ p.1 ≤ 15500) ∧ (-2000 ≤ p.2 ∧ p.2 ≤ 2000)
def sp_9_side (ns : Nat) : sy_Sp := sy_qIILL 24 fun a b x y st post => ((0 ≤ a ∧ a < 32) ∧ (0 ≤ b ∧ b < 32) ∧ xh_in (m_P st a.toNat) ∧ xh_in (m_P st b.toNat) ∧ xh_in (x, y)) ∧ post (some (.inr (.inl (true, xh_t (m_P st a.toNat) (m_P st b.toNat) (x, y))))) st
def ct_9_side (ns q : Nat) : Option (Bool × Nat × sy_Sp) := match q with
  | _ => none
abbrev M_9_side (ns : Nat) : sy_M := Mk_9_side (ct_9_side ns)
theorem mv_9_side (ns : Nat) : sy_MV c_9_side y_9_side.cls (some .long) (M_9_side ns) := ⟨tv_9_side, ff_9_ok, ki_9_ok, kl_9_ok⟩
abbrev rm_9_side : Room := { frames := 0, cells := 0, slots := 0, locals := 0 }
theorem co_9_side (l : Launch) : sy_calls l rm_9_side y_9_side.cls c_9_side 7 (fun ns => (M_9_side ns).2.2.2.2.1) := by
  intro p e s m args below meth c rt wd ad ns A Q X hA q b n sp h
  replace h : ct_9_side ns q = some (b, n, sp) := h
  unfold ct_9_side at h
  cases h
theorem rc_9_side (ns : Nat) (as : List sy_V) (st : sy_S) (post : sy_R) (h : sp_9_side ns as st post) : ∃ b as', as = .inr (.inr (some (some b))) :: as' ∧ sy_ob b = some 9 := sy_qIILL_r rfl as st post h
theorem mc_9_side (l : Launch) : sy_MC l y_9_side c_9_side 7 (some .long) rm_9_side sp_9_side := by
  refine sy_meth M_9_side (by decide +kernel) mv_9_side (co_9_side l) ?_
  intro ns as st post WA h hok hrg ⟨hgo0, hin, hwk⟩
  have hgo : ∀ (n pc : Nat) (L k : List sy_V) (st : sy_S), rn_9_side ns (ct_9_side ns) post WA n pc L k st → WA pc L k st := fun n pc L k st h => hgo0 [] n pc L k st h
  replace h := sy_qIILL_e h hok
  obtain ⟨a, b, x, y, rfl, ha, hb, hx, hy, h⟩ := h
  refine ⟨Nat.le_of_ble_eq_true rfl, ?_⟩
  show WA 0 [.inr (.inr (some (some 24))), .inl (true, a), .inl (true, b), .inr (.inl (true, x)), .inr (.inr none), .inr (.inl (true, y)), .inr (.inr none)] [] st
  obtain ⟨⟨ha2, hb2, ra, rb, rx⟩, h⟩ := h
  have q := xh_t_rng ra.1 rb.1 rx.1 ra.2 rb.2 rx.2
  refine hgo 100 _ _ _ _ ?_
  simp -implicitDefEqProofs only [↓rx_9_side_0, ↓rx_9_side_1, ↓rx_9_side_4, ↓rx_9_side_5, ↓rx_9_side_6, ↓rx_9_side_7, ↓rx_9_side_10, ↓rx_9_side_11, ↓rx_9_side_12, ↓rx_9_side_13, ↓rx_9_side_15, ↓rx_9_side_16, ↓rx_9_side_19, ↓rx_9_side_20, ↓rx_9_side_21, ↓rx_9_side_22, ↓rx_9_side_23, ↓rx_9_side_24, ↓rx_9_side_27, ↓rx_9_side_28, ↓rx_9_side_29, ↓rx_9_side_30, ↓rx_9_side_33, ↓rx_9_side_34, ↓rx_9_side_35, ↓rx_9_side_36, ↓rx_9_side_37, ↓rx_9_side_38, ↓rx_9_side_41, ↓rx_9_side_42, ↓rx_9_side_43, ↓rx_9_side_44, ↓rx_9_side_45, ↓rx_9_side_46, ↓sx_s1, ↓sx_s2, ↓sx_s3, ↓sx_s4, ↓sx_s5, ↓sx_s6, ↓sx_m0, ↓sx_m1, ↓sx_m2, ↓sx_m3, ↓sx_m4, ↓sx_m5, ↓sx_m6, ↓sx_k0_, ↓sx_k1_, ↓sx_k2_, ↓sx_k3_, ↓sx_k4_, ↓sx_k5_, ↓sx_k6_, ↓sx_sLL, ↓sx_sAI, ↓sx_mLL, ↓sx_mIIL, ↓sx_mIILL, ↓sx_mIILLL, ↓sx_qS, ↓sx_qSI, ↓sx_qSIII, sx_rit, sx_rif, sx_rlt, sx_rlf, sx_b0, sx_b1, sx_o0, sx_o1i, sx_o1a, sx_o1l, sx_o2, sx_g0, sx_g1, sx_k1, sx_k2, sx_k3, sx_f1, sx_f2, sx_f3, sx_w0, sx_w1, sx_w2, sx_w3, sx_ts, sx_tn, sx_up, sx_nS1, sx_nS2, sx_nW1, sx_nW2, sx_SW, sx_WS, sy_nS_inj, sy_nW_inj, sx_ob0, sx_ob1, sx_ob2, sx_ob3, sx_ob4, sx_ob5, sx_ob6, sx_ob7, sx_ob8, sx_ob9, sx_ob10, sx_ob11, sx_ob12, sx_ob13, sx_ob14, sx_ob15, sx_ob16, sx_ob17, sx_ob18, sx_ob19, sx_ob20, sx_ob21, sx_ob22, sx_ob23, sx_ob24, sx_ob25, sx_ob26, sx_ob27, sx_ob28, sx_ob29, sx_ob30, sx_ob31, sx_ob32, sx_ob33, sx_ob34, sx_ob35, sx_ob36, sx_fv0_0, sx_fv0_1, sx_fv0_2, sx_fv0_3, sx_fv0_4, sx_fv0_5, sx_fv1_0, sx_fv1_1, sx_fv1_2, sx_fv3_0, sx_fv3_1, sx_fv3_2, sx_fv3_3, sx_fv3_4, sx_fv7_0, sx_fv7_1, sx_fv7_2, sx_fv7_3, sx_fv7_4, sx_fv7_5, sx_fv7_6, sx_fv7_7, sx_fv7_8, sx_fv7_9, sx_fv7_10, sx_fv9_0, sx_fv9_1, sx_fv9_2, sx_fv9_3, sx_fv11_0, sx_fv11_1, sx_fv11_2, sx_fv11_3, sx_fv11_4, sx_fv11_5, sx_fv11_6, sx_fv15_0, sx_fv15_1, sx_fv15_2, sx_fv15_3, sx_fv15_4, sx_fv15_5, sx_fv19_0, sx_fv19_1, sx_fv19_2, sx_fv19_3, sx_fv19_4, sx_fv19_5, sx_fv19_6, sx_fv24_0, sx_fv24_1, sx_fv24_2, sx_fv24_3, sx_fv24_4, sx_fv24_5, sx_fv24_6, sx_fv24_7, sx_fv24_8, sx_fv24_9, sx_fv24_10, sx_fv24_11, sx_fv24_12, sx_fv24_13, sx_fv24_14, sx_fv24_15, sx_fv24_16, sx_fv24_17, sx_fv24_18, sx_fvS_0, sx_fvS_1, sx_fvS_2, sx_fvS_3, sx_fvS_4, sx_fvS_5, sx_fvS_6, sx_fvS_7, sx_fvS_8, sx_fvS_9, sx_ar2, sx_ar4, sx_ar5, sx_ar6, sx_ar8, sx_ar10, sx_ar12, sx_ar13, sx_ar14, sx_ar16, sx_ar17, sx_ar18, sx_ar20, sx_ar21, sx_ar22, sx_ar23, sx_ar25, sx_ar26, sx_ar27, sx_ar28, sx_ar29, sx_ar30, sx_ar31, sx_ar32, sx_ar33, sx_ar34, sx_ar35, sx_ar36, sy_ob_S, sy_ob_W, sy_ar_W, sx_if0, sx_if1, sx_ie0, sx_em, Classical.not_not, sx_cle, sx_clt, sx_cge, sx_cgt, sx_ceq, Nat.reduceLT, Nat.reduceLeDiff, Nat.reduceAdd, Nat.reduceSub, Nat.reduceEqDiff, reduceIte, List.length_cons, List.length_nil, true_and, and_true, and_self, Bool.false_eq_true, true_implies, not_true_eq_false, not_false_eq_true, false_implies, implies_true, ne_eq, reduceCtorEq, Option.some.injEq, false_and, and_false, Int.reduceNeg, Int.reduceToNat, Int.reduceLT, Int.reduceLE, Int.reduceEq, Int.reduceAdd, Int.reduceSub, Int.reduceMul, or_false, false_or, or_true, true_or, forall_const, Int.toNat_natCast, Int.toNat_zero, Int.toNat_one, Nat.zero_add, or_self, Int.neg_eq_zero]
  unfold xh_t at h
  unfold xh_in at ra rb rx
  unfold m_P at q h ra rb
  simp only at q h ra rb rx
  exact ⟨by omega, by omega, by omega, by omega, by omega, by omega, by omega, h⟩
/-- what the hull may change -/
def m_hs (st s : sy_S) : Prop := (∀ a, a ≠ 24 → a ≠ 32 → a ≠ 33 → a ≠ 34 → s a = st a) ∧ ∀ k, k ≠ 11 → k ≠ 14 → s 24 k = st 24 k
theorem m_hs_ok {ns : Nat} {st s : sy_S} (h : m_hs st s) (hm : m_ok ns st) : m_ok ns s := by
  obtain ⟨h1, h2⟩ := h
  unfold m_ok m_site m_rng m_net m_F m_B m_N at *
  rw [h2 0 (by decide) (by decide), h2 1 (by decide) (by decide), h1 25 (by decide) (by decide) (by decide) (by decide), h1 26 (by decide) (by decide) (by decide) (by decide), h1 27 (by decide) (by decide) (by decide) (by decide), h1 28 (by decide) (by decide) (by decide) (by decide), h1 29 (by decide) (by decide) (by decide) (by decide), h1 30 (by decide) (by decide) (by decide) (by decide)]
  exact hm
theorem m_hs_en {st s : sy_S} (h : m_hs st s) (i k : Nat) : m_en s i k = m_en st i k := by
  unfold m_en m_pl
  rw [h.2 0 (by decide) (by decide), h.1 26 (by decide) (by decide) (by decide) (by decide), h.1 27 (by decide) (by decide) (by decide) (by decide), h.1 29 (by decide) (by decide) (by decide) (by decide)]
def m_ch (st : sy_S) (i : Nat) : Bool := decide (st 28 i = 1)
def m_L (ns : Nat) (st : sy_S) : List (Int × Int) := xh_pm (m_ch st) (fun i => m_en st i 1) (fun i => m_en st i 2) (fun i => st 25 i) ns
theorem m_L_succ (i : Nat) (st : sy_S) : m_L (i + 1) st = m_L i st ++ (if m_ch st i = true then [(m_en st i 1, st 25 i), (m_en st i 2, st 25 i)] else []) := rfl
theorem m_L_len (i : Nat) (st : sy_S) : (m_L i st).length ≤ 2 * i := xh_pm_len _ _ _ _ i
theorem m_L_in {st : sy_S} (hr : m_rng st) : ∀ n, ∀ r ∈ m_L n st, xh_in r
  | 0, r, h => by simp [m_L, xh_pm] at h
  | n + 1, r, h => by
    rw [m_L_succ] at h
    rcases List.mem_append.mp h with z | z
    · exact m_L_in hr n r z
    · have a1 := m_pl_rng hr n (hr.2.2.2.2.1 (4 * n + 1))
      have a2 := m_pl_rng hr n (hr.2.2.2.2.1 (4 * n + 2))
      have a3 := hr.2.1 n
      split at z
      · rcases List.mem_cons.mp z with z | z
        · subst z; exact ⟨⟨a1.1, a1.2.1⟩, a3⟩
        · rw [List.mem_singleton] at z; subst z; exact ⟨⟨a2.1, a2.2.1⟩, a3⟩
      · simp at z
def m_ap (st : sy_S) (x y : Int) : sy_S := sy_up (sy_up (sy_up st 32 (st 24 11).toNat x) 33 (st 24 11).toNat y) 24 11 (st 24 11 + 1)
theorem m_ap_hs {st s : sy_S} (h : m_hs st s) (x y : Int) : m_hs st (m_ap s x y) := by
  refine ⟨fun a h1 h2 h3 h4 => ?_, fun k h1 h2 => ?_⟩
  · unfold m_ap
    rw [sy_up_ne _ _ h1, sy_up_ne _ _ h3, sy_up_ne _ _ h2]
    exact h.1 a h1 h2 h3 h4
  · rw [← h.2 k h1 h2]
    unfold m_ap sy_up; simp [h1]
theorem m_ap_n (s : sy_S) (x y : Int) : m_ap s x y 24 11 = s 24 11 + 1 := rfl
theorem m_ap_32 (s : sy_S) (x y : Int) (j : Nat) : m_ap s x y 32 j = if j = (s 24 11).toNat then x else s 32 j := by
  unfold m_ap sy_up; simp
theorem m_ap_33 (s : sy_S) (x y : Int) (j : Nat) : m_ap s x y 33 j = if j = (s 24 11).toNat then y else s 33 j := by
  unfold m_ap sy_up; simp
theorem m_ap_L {s : sy_S} (h : 0 ≤ s 24 11) (x y : Int) : (List.range (m_ap s x y 24 11).toNat).map (m_P (m_ap s x y)) = (List.range (s 24 11).toNat).map (m_P s) ++ [(x, y)] := by
  rw [m_ap_n, show (s 24 11 + 1).toNat = (s 24 11).toNat + 1 by omega, xh_rs]
  congr 1
  · refine List.map_congr_left (fun j hj => ?_)
    have : j ≠ (s 24 11).toNat := by have := List.mem_range.mp hj; omega
    unfold m_P
    rw [m_ap_32, m_ap_33, if_neg this, if_neg this]
  · unfold m_P
    rw [m_ap_32, m_ap_33, if_pos rfl, if_pos rfl]
def m_ga (st s : sy_S) (L : List (Int × Int)) : Prop := m_hs st s ∧ 0 ≤ s 24 11 ∧ (List.range (s 24 11).toNat).map (m_P s) = L
theorem m_ga_ap {st s : sy_S} {L : List (Int × Int)} (h : m_ga st s L) (x y : Int) : m_ga st (m_ap s x y) (L ++ [(x, y)]) := by
  obtain ⟨h1, h2, h3⟩ := h
  exact ⟨m_ap_hs h1 x y, by rw [m_ap_n]; omega, by rw [m_ap_L h2, h3]⟩
theorem m_ga_n {st s : sy_S} {L : List (Int × Int)} (h : m_ga st s L) : s 24 11 = L.length := by
  have h1 := h.2.1
  have := congrArg List.length h.2.2
  rw [List.length_map, List.length_range] at this
  omega
theorem m_ga_in {ns : Nat} {st s : sy_S} (hr : m_rng st) (h : m_ga st s (m_L ns st)) {j : Nat} (hj : (j : Int) < s 24 11) : xh_in (m_P s j) := by
  refine m_L_in hr ns _ ?_
  rw [← h.2.2]
  exact List.mem_map.mpr ⟨j, List.mem_range.mpr (by omega), rfl⟩
/-- the corners so far -/
def m_hw (ns : Nat) (st s : sy_S) (k : Nat) : Prop := m_ga st s (m_L ns st) ∧ s 24 14 = k ∧ ∀ j, j < k → (0 ≤ s 34 j ∧ s 34 j < s 24 11) ∧ m_P s (s 34 j).toNat = xh_c (m_L ns st) j
def m_co (s : sy_S) (k : Nat) (a : Int) : sy_S := sy_up (sy_up s 34 k a) 24 14 ((k : Int) + 1)
theorem m_co_P (s : sy_S) (k : Nat) (a : Int) : m_P (m_co s k a) = m_P s := by
  funext j
  unfold m_P m_co
  rw [sy_up_ne _ _ (by omega), sy_up_ne _ _ (by omega), sy_up_ne _ _ (by omega), sy_up_ne _ _ (by omega)]
theorem m_co_k (s : sy_S) (k : Nat) (a : Int) {j : Nat} (h : j ≠ 14) : m_co s k a 24 j = s 24 j := by unfold m_co sy_up; simp [h]
theorem m_co_14 (s : sy_S) (k : Nat) (a : Int) : m_co s k a 24 14 = (k : Int) + 1 := by unfold m_co sy_up; simp
theorem m_co_34 (s : sy_S) (k : Nat) (a : Int) (j : Nat) : m_co s k a 34 j = if j = k then a else s 34 j := by unfold m_co sy_up; simp
theorem m_hw_co {ns : Nat} {st s : sy_S} {k : Nat} (h : m_hw ns st s k) {a : Int} (ha : 0 ≤ a ∧ a < s 24 11) (hc : m_P s a.toNat = xh_c (m_L ns st) k) : m_hw ns st (m_co s k a) (k + 1) := by
  obtain ⟨⟨⟨g1, g2⟩, g3, g4⟩, h2, h3⟩ := h
  refine ⟨⟨⟨fun b b1 b2 b3 b4 => ?_, fun j j1 j2 => ?_⟩, by rw [m_co_k _ _ _ (by decide)]; exact g3, by rw [m_co_k _ _ _ (by decide), m_co_P]; exact g4⟩, by rw [m_co_14]; omega, fun j hj => ?_⟩
  · unfold m_co; rw [sy_up_ne _ _ b1, sy_up_ne _ _ b4]; exact g1 b b1 b2 b3 b4
  · rw [m_co_k _ _ _ j2]; exact g2 j j1 j2
  · rw [m_co_P, m_co_34, m_co_k _ _ _ (by decide)]
    by_cases e : j = k
    · rw [if_pos e, e]; exact ⟨ha, hc⟩
    · rw [if_neg e]; exact h3 j (by omega)
def m_hk (ns : Nat) (st s : sy_S) : Prop := ∃ m, xh_k (m_L ns st) m ∧ m_hw ns st s m
def xh_F (P : Nat → Int × Int) (p : Int × Int) (k : Nat) : Int × Int := ((List.range k).map P).foldl (xh_s p) p
theorem xh_F_succ (P : Nat → Int × Int) (p : Int × Int) (k : Nat) : xh_F P p (k + 1) = xh_s p (xh_F P p k) (P k) := by
  unfold xh_F
  rw [xh_rs, List.foldl_append]; rfl
