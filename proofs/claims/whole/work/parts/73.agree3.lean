/-! CLASS AND MODEL: plan, dips -/
theorem xq_same {ys zs : Nat → Int} {lo hi : Int} {O P : Nat → Int} : ∀ s, (∀ i, i < s → ys i = zs i) → (xq ys lo hi O s).2 = (xq zs lo hi P s).2 ∧ ∀ j, j < (xq ys lo hi O s).2 → (xq ys lo hi O s).1 j = (xq zs lo hi P s).1 j
  | 0, _ => ⟨rfl, fun j hj => absurd hj (by simp [xq])⟩
  | s + 1, h => by
    obtain ⟨i1, i2⟩ := xq_same (ys := ys) (zs := zs) (lo := lo) (hi := hi) (O := O) (P := P) s (fun i hi => h i (by omega))
    simp only [xq]
    rw [← h s (by omega)]
    split
    · have e : xi_pos (fun j => ys ((xq ys lo hi O s).1 j).toNat) (ys s) (xq ys lo hi O s).2 = xi_pos (fun j => zs ((xq zs lo hi P s).1 j).toNat) (ys s) (xq zs lo hi P s).2 := by
        rw [← i1]
        refine xi_ext _ (fun j hj => ?_)
        have b := (xq_in (ys := ys) (lo := lo) (hi := hi) (O := O) s j hj).1
        show ys _ = zs _
        rw [← i2 j hj]
        exact h _ (by omega)
      refine ⟨by show _ + 1 = _ + 1; rw [i1], fun j hj => ?_⟩
      show x_ins _ _ _ _ j = x_ins _ _ _ _ j
      have hj : j < (xq ys lo hi O s).2 + 1 := hj
      rw [← e, ← i1]
      unfold x_ins
      split
      · rfl
      · split
        · exact i2 (j - 1) (by omega)
        · rename_i n1 n2
          have hp := xi_le (fun j => ys ((xq ys lo hi O s).1 j).toNat) (ys s) (xq ys lo hi O s).2
          exact i2 j (by omega)
    · exact ⟨i1, i2⟩
theorem xE_ext {H G : Nat → Int} {N : Nat} {to bd : Int} (h : ∀ j, j < N → H j = G j) : ∀ m a k, xE H N to bd m a k ↔ xE G N to bd m a k
  | 0, a, k => Iff.rfl
  | m + 1, a, k => by
    simp only [xE]
    constructor
    · rintro ⟨j, j1, j2, j3, j4⟩
      exact ⟨j, j1, j2, by rw [← h j j2]; exact j3, by rw [← h j j2]; exact (xE_ext h m _ _).mp j4⟩
    · rintro ⟨j, j1, j2, j3, j4⟩
      exact ⟨j, j1, j2, by rw [h j j2]; exact j3, by rw [h j j2]; exact (xE_ext h m _ _).mpr j4⟩
theorem xP_ext {H G : Nat → Int} {N : Nat} {to bd lo : Int} {n : Nat} {p : Nat → Nat} (h : ∀ j, j < N → H j = G j) (hp : ∀ j, j < n → p j < N) (j : Nat) (hj : j < n) (q : xP H N to bd lo n p j) : xP G N to bd lo n p j := by
  unfold xP at *
  have e1 : (if j = 0 then lo else H (p (j - 1))) = (if j = 0 then lo else G (p (j - 1))) := by
    split
    · rfl
    · exact h _ (hp (j - 1) (by omega))
  obtain ⟨q1, q2, ⟨q3, q4⟩, q5⟩ := q
  rw [e1] at q3 q5
  refine ⟨q1, q2, ⟨by rw [← h _ q2]; exact q3, by rw [← h _ q2]; exact (xE_ext h _ _ _).mp q4⟩, fun k k1 k2 z => q5 k k1 k2 ⟨by rw [h k (by omega)]; exact z.1, by rw [h k (by omega)]; exact (xE_ext h _ _ _).mpr z.2⟩⟩
theorem r_band {ns : Nat} {st : sy_S} (h : Rel ns st) (lo hi : Int) : c_Nb ns st lo hi = m_Nb ns st lo hi ∧ (∀ j, j < c_Nb ns st lo hi → c_O ns st lo hi j = m_bO ns st lo hi j) ∧ ∀ j, j < c_Nb ns st lo hi → c_H ns st lo hi j = m_H ns st lo hi j := by
  have hy : ∀ i, i < ns → c_ys st i = st 25 i := fun i hi => (h.2.2.2.2.1.2 i hi).1.1
  obtain ⟨a1, a2⟩ := xq_same (lo := lo) (hi := hi) (O := st 20) (P := st 35) ns hy
  refine ⟨a1, a2, fun j hj => ?_⟩
  unfold c_H m_H
  have e : c_O ns st lo hi j = m_bO ns st lo hi j := a2 j hj
  rw [e]
  have b := (xq_in (ys := c_ys st) (lo := lo) (hi := hi) (O := st 20) ns j hj).1
  have b2 : 0 ≤ c_O ns st lo hi j ∧ c_O ns st lo hi j < ns := b
  rw [e] at b2
  exact hy _ (by omega)
theorem r_CS_of2 {ns : Nat} {st s : sy_S} (h1 : s 1 = st 1) (h3 : s 3 = st 3) (h4 : s 4 = st 4) (h5 : s 5 = st 5) (h6 : s 6 = st 6) (hS : ∀ i k, k ≠ 3 → s (sy_nS i) k = st (sy_nS i) k) (h8 : s 8 = st 8) (h7 : ∀ k, 3 ≤ k → k ≤ 10 → k ≠ 9 → s 7 k = st 7 k) (h9 : s 9 = st 9) (hw : ∀ i, i < ns → c_wk s i) (h : r_CS ns st) : r_CS ns s := by
  refine ⟨c_sv_of h1 h3 h4 h5 h6 h8 hS (fun k k1 k2 => h7 k k1 (by omega) (by omega)) hw h.1, ?_⟩
  have hf := c_fg_of h4 h5 h6
  rcases h.2 with q | ⟨i, q1, q2, p, q3, q4⟩
  · exact Or.inl (by rw [h7 10 (by decide) (by decide) (by decide)]; exact q)
  · exact Or.inr ⟨i, q1, by rw [h7 10 (by decide) (by decide) (by decide)]; exact q2, p, c_ckb_of h1 h3 hf hS q3, by rw [h9]; exact q4⟩
theorem r_CH_of2 {ns : Nat} {st s : sy_S} (h1 : s 1 = st 1) (hS : ∀ i k, k ≠ 3 → s (sy_nS i) k = st (sy_nS i) k) (h11 : ∀ k, k = 3 ∨ k = 5 ∨ k = 6 → s 11 k = st 11 k) (h12 : s 12 = st 12) (h13 : s 13 = st 13) (h14 : s 14 = st 14) (h : r_CH ns st) : r_CH ns s := by
  obtain ⟨⟨a1, a2⟩, a3⟩ := h
  refine ⟨⟨?_, ?_⟩, fun i j hi hj e => a3 i j hi hj (by rw [hS i 0 (by decide), hS j 0 (by decide)] at e; exact e)⟩
  · unfold c_hr at *
    rw [h11 3 (by decide), h11 5 (by decide), h12, h13, h14]; exact a1
  · rw [h11 6 (by decide)]
    refine a2.imp id (fun q => ⟨q.1, ?_⟩)
    unfold c_hv c_P at *
    rw [c_L_of h1 hS, h11 5 (by decide), h12, h13, h14]; exact q.2
/-- cells of the class that class's search and hull do not look at -/
theorem r_CSH {ns : Nat} {st s : sy_S} (h : Rel ns st) (l : ∀ a, a < 15 ∨ 37 ≤ a → s a = st a) : r_CS ns s ∧ r_CH ns s := by
  have lS := fun i => l (sy_nS i) (by unfold sy_nS; omega)
  have lW := fun i => l (sy_nW i) (by unfold sy_nW; omega)
  have hf := c_fg_of (l 4 (by omega)) (l 5 (by omega)) (l 6 (by omega))
  exact ⟨r_CS_of2 (l 1 (by omega)) (l 3 (by omega)) (l 4 (by omega)) (l 5 (by omega)) (l 6 (by omega)) (fun i k _ => by rw [lS i]) (l 8 (by omega)) (fun k _ _ _ => by rw [l 7 (by omega)]) (l 9 (by omega)) (fun i hi => c_wk_of (l 3 (by omega)) hf (by rw [lS i]) (by rw [lS i]) (lW i) (h.1.1.1.2.2.2 i hi)) h.1, r_CH_of2 (l 1 (by omega)) (fun i k _ => by rw [lS i]) (fun k _ => by rw [l 11 (by omega)]) (l 12 (by omega)) (l 13 (by omega)) (l 14 (by omega)) h.2.1⟩
/-- only the planner's own cells have changed -/
theorem r_plc {ns : Nat} {st s : sy_S} (h : Rel ns st) (h1 : ∀ a, a ≠ 19 → a ≠ 20 → a ≠ 21 → a ≠ 22 → a ≠ 23 → s a = st a) : (r_CS ns s ∧ r_CH ns s ∧ c_dips ns s ∧ r_MI ns s ∧ r_TS ns s ∧ r_TN s ∧ r_TD s) ∧ s 24 = st 24 ∧ s 25 = st 25 ∧ s 35 = st 35 ∧ s 36 = st 36 := by
  have l := fun (a : Nat) (ha : a < 19 ∨ 23 < a) => h1 a (by omega) (by omega) (by omega) (by omega) (by omega)
  have lS := fun i => l (sy_nS i) (by unfold sy_nS; omega)
  have hm : r_m st s := ⟨fun k _ _ => by rw [l 24 (by omega)], l 25 (by omega), l 26 (by omega), l 27 (by omega), l 28 (by omega), l 29 (by omega), l 30 (by omega), l 31 (by omega), l 36 (by omega)⟩
  obtain ⟨c1, c2⟩ := r_CSH h (fun a ha => l a (by omega))
  refine ⟨⟨c1, c2, ?_, r_MI_of hm h.2.2.2.1, ?_, ?_, ?_⟩, l 24 (by omega), l 25 (by omega), l 35 (by omega), l 36 (by omega)⟩
  · unfold c_dips; rw [l 15 (by omega), l 16 (by omega), l 17 (by omega), l 18 (by omega)]; exact h.2.2.1.1
  · refine ⟨by rw [l 1 (by omega), l 24 (by omega)]; exact h.2.2.2.2.1.1, fun i hi => ?_⟩
    rw [lS i, l 25 (by omega), l 26 (by omega), l 27 (by omega), l 28 (by omega), l 29 (by omega)]
    exact h.2.2.2.2.1.2 i hi
  · unfold r_TN; rw [l 4 (by omega), l 5 (by omega), l 6 (by omega), l 30 (by omega)]; exact h.2.2.2.2.2.1
  · unfold r_TD; rw [l 15 (by omega), l 16 (by omega), l 17 (by omega), l 18 (by omega), l 24 (by omega), l 31 (by omega)]; exact h.2.2.2.2.2.2.1
theorem pr_plan {ns : Nat} {st : sy_S} (h : Rel ns st) (n lo hi : Int) : r_pair ns st sp_8_plan sp_9_plan [.inl (true, n), .inl (true, lo), .inl (true, hi)] := by
  obtain ⟨b1, b2, b3⟩ := r_band h lo hi
  have hns := h.1.1.1.1.2
  refine ⟨rfl, ⟨h.1.1.1.1, h.1.1.1.2.1⟩, fun c => ?_, fun c => ⟨fun c2 s h1 h2 => ?_, fun c2 s h1 h2 h3 => ?_⟩⟩
  · exact ⟨rfl, h.2.2.2.1.1, fun _ => ⟨rfl, h⟩, fun q => absurd q c⟩
  · obtain ⟨⟨k1, k2, k3, k4, k5, k6, k7⟩, e24, e25, e35, e36⟩ := r_plc h (fun a a1 a2 a3 a4 a5 => h1 a a1 a2 a3)
    have eN : m_Nb ns s lo hi = m_Nb ns st lo hi := by unfold m_Nb; rw [e25, e35]
    have g : Rel ns s := ⟨k1, k2, ⟨k3, by rw [h2]; exact h.2.2.1.2⟩, k4, k5, k6, k7, by unfold r_TP; rw [h2, h1 23 (by decide) (by decide) (by decide), e24, e36]; exact h.2.2.2.2.2.2.2⟩
    refine ⟨rfl, g.2.2.2.1.1, fun q => absurd c q, fun _ => ⟨fun _ => ⟨rfl, ?_⟩, fun q => by omega⟩⟩
    generalize m_bO ns s lo hi = O
    have lo2 : ∀ a, a ≠ 35 → c_row s 35 O a = s a := fun a ha => c_row_ne ha
    have hm : r_m s (c_row s 35 O) := ⟨fun k _ _ => by rw [lo2 24 (by decide)], lo2 25 (by decide), lo2 26 (by decide), lo2 27 (by decide), lo2 28 (by decide), lo2 29 (by decide), lo2 30 (by decide), lo2 31 (by decide), lo2 36 (by decide)⟩
    have hc : r_c s (c_row s 35 O) := ⟨⟨lo2 1 (by decide), lo2 3 (by decide), lo2 4 (by decide), lo2 5 (by decide), lo2 6 (by decide)⟩, ⟨lo2 15 (by decide), lo2 16 (by decide), lo2 17 (by decide), lo2 18 (by decide)⟩, ⟨by rw [lo2 19 (by decide)], lo2 23 (by decide)⟩, fun i k _ => by rw [lo2 (sy_nS i) (by unfold sy_nS; omega)]⟩
    obtain ⟨c1, c2⟩ := r_CSH g (s := c_row s 35 O) (fun a ha => lo2 a (by omega))
    exact Rel_q g hc hm c1 c2
  · obtain ⟨⟨k1, k2, k3, k4, k5, k6, k7⟩, e24, e25, e35, e36⟩ := r_plc h h1
    have eN : m_Nb ns s lo hi = m_Nb ns st lo hi := by unfold m_Nb; rw [e25, e35]
    have eO : m_bO ns s lo hi = m_bO ns st lo hi := by unfold m_bO; rw [e25, e35]
    have eH : m_H ns s lo hi = m_H ns st lo hi := by unfold m_H; rw [e25, eO]
    refine ⟨rfl, k4.1, fun q => absurd c q, fun _ => ⟨fun q => by omega, fun _ bd p C hE hmin hP => ?_⟩⟩
    rw [eN, eH] at hE hmin
    have hHe : ∀ j, j < m_Nb ns st lo hi → m_H ns st lo hi j = c_H ns st lo hi j := fun j hj => (b3 j (by rw [b1]; exact hj)).symm
    have hin : ∀ j, j < c_Nb ns st lo hi → (0 ≤ c_O ns st lo hi j ∧ c_O ns st lo hi j < ns) ∧ lo ≤ c_H ns st lo hi j ∧ c_H ns st lo hi j ≤ hi := fun j hj => xq_in (ys := c_ys st) (lo := lo) (hi := hi) (O := st 20) ns j hj
    have hmono : ∀ i j, i ≤ j → j < c_Nb ns st lo hi → c_H ns st lo hi i ≤ c_H ns st lo hi j := fun i j hij hj => xq_mono (ys := c_ys st) (lo := lo) (hi := hi) (O := st 20) ns i j hij hj
    rw [xE_ext hHe, ← b1] at hE
    replace hmin : ∀ b : Nat, b < bd → ¬ xE (c_H ns st lo hi) (c_Nb ns st lo hi) hi b n.toNat lo 0 := fun b hb q => hmin b hb (by rw [xE_ext hHe, ← b1]; exact q)
    unfold m_plk at c
    have hbd : bd ≤ 4000 := by
      rcases Nat.lt_or_ge 4000 bd with z | z
      · exfalso
        refine hmin 4000 z ?_
        have := xE_pads (bd := ((4000 : Nat) : Int)) hmono (fun j hj => (hin j hj).2.2) (h := lo) (k := 0) (fun j _ hj => (hin j hj).2.1) (m := 0) n.toNat (by omega) (by show hi - lo ≤ ((4000 : Nat) : Int); omega)
        rw [Nat.zero_add] at this
        exact this
      · exact z
    have hgap : c_gap ns st n.toNat lo hi = bd := x_gap_same (fun j hj => (hin j hj).2.1) (by omega) hbd hE hmin
    have hP0 : ∀ j, j < n.toNat → p j < m_Nb ns st lo hi := fun j hj => by have := (hP j hj).1.2.1; rw [eN] at this; exact this
    have hP2 : ∀ j, j < n.toNat → xP (c_H ns st lo hi) (c_Nb ns st lo hi) hi bd lo n.toNat p j := fun j hj => by
      have := (hP j hj).1
      rw [eN, eH] at this
      rw [b1]
      exact xP_ext hHe hP0 j hj this
    have hpk := x_pick_n (O := c_O ns st lo hi) (C := st 23) hbd hP2
    have hpck : (c_pck ns st n.toNat lo hi).1 = n.toNat ∧ ∀ j, j < n.toNat → (c_pck ns st n.toNat lo hi).2.2 j = c_O ns st lo hi (p j) := by
      unfold c_pck
      rw [hgap]
      exact hpk
    have hN16 : c_Nb ns st lo hi ≤ ns := xq_le _ _ _ _ ns
    have hC : ∀ j, j < n.toNat → C j = s 23 j := fun j hj => by
      rw [h3, hpck.2 j hj, (hP j hj).2, eO]
      exact (b2 (p j) (by rw [b1]; exact hP0 j hj)).symm
    have hn6 : s 19 6 = n := by rw [h2, hpck.1]; omega
    refine ⟨by rw [hgap], ?_⟩
    rw [eO]
    generalize m_bO ns st lo hi = O
    have lo2 : ∀ a, a ≠ 35 → a ≠ 36 → a ≠ 24 → sy_up (c_row (c_row s 35 O) 36 C) 24 18 n a = s a := fun a a1 a2 a3 => by rw [sy_up_ne _ _ a3, c_row_ne a2, c_row_ne a1]
    have e36' : sy_up (c_row (c_row s 35 O) 36 C) 24 18 n 36 = C := by rw [sy_up_ne _ _ (by decide), c_row_eq]
    have e24' : ∀ k, k ≠ 18 → sy_up (c_row (c_row s 35 O) 36 C) 24 18 n 24 k = s 24 k := fun k hk => by
      show (if _ then _ else _) = _
      rw [if_neg (by omega), c_row_ne (by decide), c_row_ne (by decide)]
    have e18 : sy_up (c_row (c_row s 35 O) 36 C) 24 18 n 24 18 = n := by unfold sy_up; simp
    generalize sy_up (c_row (c_row s 35 O) 36 C) 24 18 n = t at *
    have lS := fun i => lo2 (sy_nS i) (by unfold sy_nS; omega) (by unfold sy_nS; omega) (by unfold sy_nS; omega)
    have lW := fun i => lo2 (sy_nW i) (by unfold sy_nW; omega) (by unfold sy_nW; omega) (by unfold sy_nW; omega)
    have l := fun (a : Nat) (ha : a < 24 ∨ 36 < a) => lo2 a (by omega) (by omega) (by omega)
    have hf := c_fg_of (l 4 (by omega)) (l 5 (by omega)) (l 6 (by omega))
    have c1 : r_CS ns t := r_CS_of2 (l 1 (by omega)) (l 3 (by omega)) (l 4 (by omega)) (l 5 (by omega)) (l 6 (by omega)) (fun i k _ => by rw [lS i]) (l 8 (by omega)) (fun k _ _ _ => by rw [l 7 (by omega)]) (l 9 (by omega)) (fun i hi => c_wk_of (l 3 (by omega)) hf (by rw [lS i]) (by rw [lS i]) (lW i) (k1.1.1.2.2.2 i hi)) k1
    have c2' : r_CH ns t := r_CH_of2 (l 1 (by omega)) (fun i k _ => by rw [lS i]) (fun k _ => by rw [l 11 (by omega)]) (l 12 (by omega)) (l 13 (by omega)) (l 14 (by omega)) k2
    have l2 := fun (a : Nat) (ha : 24 < a ∧ a < 35) => lo2 a (by omega) (by omega) (by omega)
    refine ⟨c1, c2', ⟨?_, by rw [l 19 (by omega), hn6]; omega⟩, ?_, ?_, ?_, ?_, ?_⟩
    · unfold c_dips; rw [l 15 (by omega), l 16 (by omega), l 17 (by omega), l 18 (by omega)]; exact k3
    · unfold r_MI m_ok m_site m_rng m_net m_F m_B m_N m_dips at *
      rw [e24' 0 (by decide), e24' 1 (by decide), e24' 8 (by decide), e24' 10 (by decide), l2 25 (by omega), l2 26 (by omega), l2 27 (by omega), l2 28 (by omega), l2 29 (by omega), l2 30 (by omega), l2 31 (by omega)]
      exact k4
    · refine ⟨by rw [l 1 (by omega), e24' 0 (by decide)]; exact k5.1, fun i hi => ?_⟩
      rw [lS i, l2 25 (by omega), l2 26 (by omega), l2 27 (by omega), l2 28 (by omega), l2 29 (by omega)]
      exact k5.2 i hi
    · unfold r_TN; rw [l 4 (by omega), l 5 (by omega), l 6 (by omega), l2 30 (by omega)]; exact k6
    · unfold r_TD; rw [l 15 (by omega), l 16 (by omega), l 17 (by omega), l 18 (by omega), e24' 8 (by decide), e24' 10 (by decide), l2 31 (by omega)]; exact k7
    · unfold r_TP; rw [l 19 (by omega), l 23 (by omega), e18, e36', hn6]
      exact ⟨rfl, fun k hk => (hC k (by omega)).symm⟩
