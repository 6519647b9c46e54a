/-! CLASS AND MODEL: what changes them -/
theorem r_dp {ns : Nat} {st t : sy_S} (h : Rel ns st) (l : ∀ a, a < 15 ∨ (18 < a ∧ a < 24) ∨ (24 < a ∧ a < 31) ∨ 31 < a → t a = st a) (l24 : ∀ k, k ≠ 8 → k ≠ 10 → t 24 k = st 24 k) (hc : c_dips ns t) (hm : m_dips ns t) (hd : r_TD t) : Rel ns t := by
  obtain ⟨c1, c2⟩ := r_CSH h (s := t) (fun a ha => l a (by omega))
  refine ⟨c1, c2, ⟨hc, by rw [l 19 (by omega)]; exact h.2.2.1.2⟩, ?_, ?_, ?_, hd, ?_⟩
  · have k4 := h.2.2.2.1
    refine ⟨?_, hm, ?_⟩
    · have k := k4.1
      unfold m_ok m_site m_rng m_net m_F m_B m_N at *
      rw [l24 0 (by decide) (by decide), l24 1 (by decide) (by decide), l 25 (by omega), l 26 (by omega), l 27 (by omega), l 28 (by omega), l 29 (by omega), l 30 (by omega)]
      exact k
    · rw [l 27 (by omega), l 28 (by omega), l 29 (by omega)]; exact k4.2.2
  · refine ⟨by rw [l 1 (by omega), l24 0 (by decide) (by decide)]; exact h.2.2.2.2.1.1, fun i hi => ?_⟩
    rw [l (sy_nS i) (by unfold sy_nS; omega), l 25 (by omega), l 26 (by omega), l 27 (by omega), l 28 (by omega), l 29 (by omega)]
    exact h.2.2.2.2.1.2 i hi
  · unfold r_TN; rw [l 4 (by omega), l 5 (by omega), l 6 (by omega), l 30 (by omega)]; exact h.2.2.2.2.2.1
  · unfold r_TP; rw [l 19 (by omega), l 23 (by omega), l24 18 (by decide) (by decide), l 36 (by omega)]; exact h.2.2.2.2.2.2.2
theorem pr_even {ns : Nat} {st : sy_S} (h : Rel ns st) (v : Int) : r_pair ns st sp_8_even sp_9_even [.inl (true, v)] := by
  have hd := h.2.2.2.2.2.2.1
  refine ⟨rfl, rfl, ?_⟩
  by_cases c : 0 ≤ v ∧ v ≤ 1000
  · simp only [if_pos c]
    refine ⟨by rw [sy_up_ne _ _ (by decide), hd.2.1], ?_⟩
    have l : ∀ a, a ≠ 15 → a ≠ 24 → sy_up (sy_up st 15 5 v) 24 10 v a = st a := fun a a1 a2 => by rw [sy_up_ne _ _ a2, sy_up_ne _ _ a1]
    have e15 : ∀ k, k ≠ 5 → sy_up (sy_up st 15 5 v) 24 10 v 15 k = st 15 k := fun k hk => by unfold sy_up; simp [hk]
    have e24 : ∀ k, k ≠ 10 → sy_up (sy_up st 15 5 v) 24 10 v 24 k = st 24 k := fun k hk => by unfold sy_up; simp [hk]
    have f15 : sy_up (sy_up st 15 5 v) 24 10 v 15 5 = v := by unfold sy_up; simp
    have f24 : sy_up (sy_up st 15 5 v) 24 10 v 24 10 = v := by unfold sy_up; simp
    generalize sy_up (sy_up st 15 5 v) 24 10 v = t at *
    refine r_dp h (fun a ha => l a (by omega) (by omega)) (fun k _ k2 => e24 k k2) ?_ ?_ ?_
    · have k := h.2.2.1.1
      unfold c_dips at *
      rw [e15 4 (by decide), f15, l 16 (by decide) (by decide), l 17 (by decide) (by decide), l 18 (by decide) (by decide)]
      exact ⟨k.1, c, k.2.2⟩
    · have k := h.2.2.2.1.2.1
      unfold m_dips at *
      rw [e24 8 (by decide), f24, l 31 (by decide) (by decide)]
      exact ⟨k.1, c, k.2.2⟩
    · unfold r_TD at *
      rw [e15 4 (by decide), f15, l 16 (by decide) (by decide), l 17 (by decide) (by decide), l 18 (by decide) (by decide), e24 8 (by decide), f24, l 31 (by decide) (by decide)]
      exact ⟨hd.1, rfl, hd.2.2⟩
  · simp only [if_neg c]
    exact ⟨trivial, h⟩
theorem pr_calm {ns : Nat} {st : sy_S} (h : Rel ns st) : r_pair ns st sp_8_calm sp_9_calm [] := by
  have hd := h.2.2.2.2.2.2.1
  refine ⟨rfl, rfl, by rw [sy_up_ne _ _ (by decide), hd.1], ?_⟩
  have l : ∀ a, a ≠ 15 → a ≠ 24 → sy_up (sy_up st 15 4 0) 24 8 0 a = st a := fun a a1 a2 => by rw [sy_up_ne _ _ a2, sy_up_ne _ _ a1]
  have e15 : ∀ k, k ≠ 4 → sy_up (sy_up st 15 4 0) 24 8 0 15 k = st 15 k := fun k hk => by unfold sy_up; simp [hk]
  have e24 : ∀ k, k ≠ 8 → sy_up (sy_up st 15 4 0) 24 8 0 24 k = st 24 k := fun k hk => by unfold sy_up; simp [hk]
  have f15 : sy_up (sy_up st 15 4 0) 24 8 0 15 4 = 0 := by unfold sy_up; simp
  have f24 : sy_up (sy_up st 15 4 0) 24 8 0 24 8 = 0 := by unfold sy_up; simp
  generalize sy_up (sy_up st 15 4 0) 24 8 0 = t at *
  refine r_dp h (fun a ha => l a (by omega) (by omega)) (fun k k1 _ => e24 k k1) ?_ ?_ ?_
  · have k := h.2.2.1.1
    unfold c_dips at *
    rw [e15 5 (by decide), f15]
    exact ⟨by omega, k.2.1, fun k hk => by omega⟩
  · have k := h.2.2.2.1.2.1
    unfold m_dips at *
    rw [e24 10 (by decide), f24]
    exact ⟨by omega, k.2.1, fun k hk => by omega⟩
  · unfold r_TD at *
    rw [e15 5 (by decide), f15, e24 10 (by decide), f24]
    exact ⟨rfl, hd.2.1, fun k hk => by omega⟩
theorem pr_dip {ns : Nat} {st : sy_S} (h : Rel ns st) (i a b : Int) : r_pair ns st sp_8_dip sp_9_dip [.inl (true, i), .inl (true, a), .inl (true, b)] := by
  have hd := h.2.2.2.2.2.2.1
  have kc := h.2.2.1.1
  have km := h.2.2.2.1.2.1
  have hd1 : st 15 4 = st 24 8 := hd.1
  have kc1 := kc.1
  refine ⟨rfl, ⟨h.1.1.1.1, kc.1⟩, fun c => ?_, fun c => ?_⟩
  · have f24 : c_dip st i a b 24 = st 24 := by unfold c_dip; rw [sy_up_ne _ _ (by decide), sy_up_ne _ _ (by decide), sy_up_ne _ _ (by decide), sy_up_ne _ _ (by decide)]
    have dk : m_dipk ns (c_dip st i a b) i a b := by unfold m_dipk; rw [f24, ← hd.1]; omega
    refine ⟨rfl, ⟨by unfold m_site; rw [f24]; exact h.2.2.2.1.1.1, by rw [f24]; exact km.1⟩, fun _ => ⟨by rw [f24, hd.1], ?_⟩, fun q => absurd dk q⟩
    have l : ∀ q, q ≠ 15 → q ≠ 16 → q ≠ 17 → q ≠ 18 → q ≠ 24 → q ≠ 31 → m_dip (c_dip st i a b) i a b q = st q := fun q q1 q2 q3 q4 q5 q6 => by
      unfold m_dip c_dip
      rw [sy_up_ne _ _ q5, sy_up_ne _ _ q6, sy_up_ne _ _ q6, sy_up_ne _ _ q6, sy_up_ne _ _ q1, sy_up_ne _ _ q4, sy_up_ne _ _ q3, sy_up_ne _ _ q2]
    have e24 : ∀ k, k ≠ 8 → m_dip (c_dip st i a b) i a b 24 k = st 24 k := fun k hk => by unfold m_dip c_dip sy_up; simp [hk]
    have f8 : m_dip (c_dip st i a b) i a b 24 8 = st 15 4 + 1 := by unfold m_dip c_dip sy_up; simp; exact hd.1.symm
    have f15 : m_dip (c_dip st i a b) i a b 15 4 = st 15 4 + 1 := by unfold m_dip c_dip sy_up; simp
    have g15 : m_dip (c_dip st i a b) i a b 15 5 = st 15 5 := by unfold m_dip c_dip sy_up; simp
    have f16 : ∀ k, m_dip (c_dip st i a b) i a b 16 k = if k = (st 15 4).toNat then i else st 16 k := fun k => by unfold m_dip c_dip sy_up; simp
    have f17 : ∀ k, m_dip (c_dip st i a b) i a b 17 k = if k = (st 15 4).toNat then a else st 17 k := fun k => by unfold m_dip c_dip sy_up; simp
    have f18 : ∀ k, m_dip (c_dip st i a b) i a b 18 k = if k = (st 15 4).toNat then b else st 18 k := fun k => by unfold m_dip c_dip sy_up; simp
    have f31 : ∀ k, m_dip (c_dip st i a b) i a b 31 k = if k = 3 * (st 15 4).toNat + 2 then b else if k = 3 * (st 15 4).toNat + 1 then a else if k = 3 * (st 15 4).toNat then i else st 31 k := fun k => by
      have e8 : c_dip st i a b 24 8 = st 15 4 := by rw [f24, hd.1]
      unfold m_dip
      rw [e8]
      rw [sy_up_ne _ _ (by decide)]
      unfold sy_up
      simp only [and_true, true_and, if_true]
      have e31 : c_dip st i a b 31 k = st 31 k := by unfold c_dip; rw [sy_up_ne _ _ (by decide), sy_up_ne _ _ (by decide), sy_up_ne _ _ (by decide), sy_up_ne _ _ (by decide)]
      rw [e31]
    generalize m_dip (c_dip st i a b) i a b = t at *
    refine r_dp h (fun q hq => l q (by omega) (by omega) (by omega) (by omega) (by omega) (by omega)) (fun k k1 _ => e24 k k1) ?_ ?_ ?_
    · unfold c_dips at *
      rw [f15, g15]
      refine ⟨by omega, kc.2.1, fun k hk => ?_⟩
      rw [f16, f17, f18]
      by_cases e : k = (st 15 4).toNat
      · rw [if_pos e, if_pos e, if_pos e]; omega
      · rw [if_neg e, if_neg e, if_neg e]; exact kc.2.2 k (by omega)
    · unfold m_dips at *
      rw [f8, e24 10 (by decide)]
      refine ⟨by omega, km.2.1, fun k hk => ?_⟩
      rw [f31, f31, f31]
      by_cases e : k = (st 15 4).toNat
      · rw [if_neg (by omega), if_neg (by omega), if_pos (by omega), if_neg (by omega), if_pos (by omega), if_pos (by omega)]; omega
      · rw [if_neg (by omega), if_neg (by omega), if_neg (by omega), if_neg (by omega), if_neg (by omega), if_neg (by omega), if_neg (by omega), if_neg (by omega), if_neg (by omega)]
        exact km.2.2 k (by omega)
    · unfold r_TD at *
      rw [f15, g15, f8, e24 10 (by decide)]
      refine ⟨rfl, hd.2.1, fun k hk => ?_⟩
      rw [f16, f17, f18, f31, f31, f31]
      by_cases e : k = (st 15 4).toNat
      · rw [if_pos e, if_pos e, if_pos e, if_neg (by omega), if_neg (by omega), if_pos (by omega), if_neg (by omega), if_pos (by omega), if_pos (by omega)]
        exact ⟨rfl, rfl, rfl⟩
      · rw [if_neg e, if_neg e, if_neg e, if_neg (by omega), if_neg (by omega), if_neg (by omega), if_neg (by omega), if_neg (by omega), if_neg (by omega), if_neg (by omega), if_neg (by omega), if_neg (by omega)]
        exact hd.2.2 k (by omega)
  · refine ⟨rfl, ⟨h.2.2.2.1.1.1, km.1⟩, fun q => absurd ?_ c, fun _ => ⟨rfl, h⟩⟩
    unfold m_dipk at q
    rw [← hd.1] at q
    have := kc.1
    omega
/-- data of sites have changed, and what was known of them is forgotten -/
theorem r_upd {ns : Nat} {st t : sy_S} (h : Rel ns st) (l : ∀ a, (1 < a ∧ a < 7) ∨ (7 < a ∧ a < 11) ∨ (11 < a ∧ a < 24) ∨ (24 < a ∧ a < 27) ∨ (29 < a ∧ a < 37) → t a = st a) (l1 : ∀ k, k ≠ 2 → t 1 k = st 1 k) (lS : ∀ i, t (sy_nS i) 0 = st (sy_nS i) 0 ∧ t (sy_nS i) 3 = st (sy_nS i) 3) (lW : ∀ i, t (sy_nW i) = st (sy_nW i)) (l11 : ∀ k, k ≠ 6 → t 11 k = st 11 k) (l116 : t 11 6 = 0) (l710 : t 7 10 = -1) (l24 : ∀ k, k ≠ 0 → t 24 k = st 24 k) (hr : c_rng t) (hst : ∀ j, j < ns → x_bt (t 7 3) j = false → x_bt (st 7 3) j = false ∧ ∀ f : Int, c_ag t f j = c_ag st f j) (hz : t 7 3 ≠ 0) (hmr : m_rng t) (hmk : (∀ i, ns ≤ i → t 27 i = 0 ∧ t 28 i = 0) ∧ ∀ i, i < ns → t 28 i = 2 → t 29 (4 * i) ≤ t 29 (4 * i + 1)) (hTS : r_TS ns t) : Rel ns t := by
  have hf := c_fg_of (l 4 (by omega)) (l 5 (by omega)) (l 6 (by omega))
  refine ⟨⟨⟨⟨?_, hr, ?_, fun i hi => c_wk_of (l 3 (by omega)) hf (lS i).1 (lS i).2 (lW i) (h.1.1.1.2.2.2 i hi)⟩, ?_, ?_, fun q => absurd q hz⟩, Or.inl l710⟩, ⟨⟨?_, Or.inl l116⟩, ?_⟩, ⟨?_, ?_⟩, ⟨⟨?_, hmr, ?_⟩, ?_, hmk⟩, hTS, ?_, ?_, ?_⟩
  · unfold c_site; rw [l1 1 (by decide)]; exact h.1.1.1.1
  · exact (c_net_of (l 3 (by omega)) (l 4 (by omega)) (l 5 (by omega)) (l 6 (by omega))).2.2.2 h.1.1.1.2.2.1
  · intro f i a b; rw [l 8 (by omega)]; exact h.1.1.2.1 f i a b
  · intro f i a b c
    obtain ⟨c1, c2⟩ := hst i b c
    rw [l 8 (by omega), c2]
    rw [l 3 (by omega)] at a
    exact h.1.1.2.2.1 f i a b c1
  · have k := h.2.1.1.1
    unfold c_hr at *
    rw [l11 3 (by decide), l11 5 (by decide), l 12 (by omega), l 13 (by omega), l 14 (by omega)]; exact k
  · intro i j hi hj e
    rw [(lS i).1, (lS j).1] at e
    exact h.2.1.2 i j hi hj e
  · have k := h.2.2.1.1
    unfold c_dips at *
    rw [l 15 (by omega), l 16 (by omega), l 17 (by omega), l 18 (by omega)]; exact k
  · rw [l 19 (by omega)]; exact h.2.2.1.2
  · unfold m_site; rw [l24 1 (by decide)]; exact h.2.2.2.1.1.1
  · have k := h.2.2.2.1.1.2.2
    unfold m_net m_F m_B m_N at *
    rw [l 30 (by omega)]; exact k
  · have k := h.2.2.2.1.2.1
    unfold m_dips at *
    rw [l24 8 (by decide), l24 10 (by decide), l 31 (by omega)]; exact k
  · unfold r_TN; rw [l 4 (by omega), l 5 (by omega), l 6 (by omega), l 30 (by omega)]; exact h.2.2.2.2.2.1
  · unfold r_TD; rw [l 15 (by omega), l 16 (by omega), l 17 (by omega), l 18 (by omega), l24 8 (by decide), l24 10 (by decide), l 31 (by omega)]; exact h.2.2.2.2.2.2.1
  · unfold r_TP; rw [l 19 (by omega), l 23 (by omega), l24 18 (by decide), l 36 (by omega)]; exact h.2.2.2.2.2.2.2
