/-! CLASS AND MODEL: what ties them -/
def r_CS (ns : Nat) (st : sy_S) : Prop := c_sv ns st ∧ c_ckk ns st
def r_CH (ns : Nat) (st : sy_S) : Prop := c_hul ns st ∧ c_dst ns st
def r_CD (ns : Nat) (st : sy_S) : Prop := c_dips ns st ∧ 0 ≤ st 19 6 ∧ st 19 6 ≤ 16
def r_MI (ns : Nat) (st : sy_S) : Prop := m_ok ns st ∧ m_dips ns st ∧ (∀ i, ns ≤ i → st 27 i = 0 ∧ st 28 i = 0) ∧ ∀ i, i < ns → st 28 i = 2 → st 29 (4 * i) ≤ st 29 (4 * i + 1)
def r_TS (ns : Nat) (st : sy_S) : Prop := st 1 2 = st 24 0 ∧ ∀ i, i < ns → (st (sy_nS i) 0 = st 25 i ∧ st (sy_nS i) 1 = st 26 i ∧ st (sy_nS i) 4 = st 27 i ∧ st (sy_nS i) 5 = st 28 i) ∧ (st 28 i = 1 → ∀ k, k < 4 → st (sy_nS i) (6 + k) = st 29 (4 * i + k)) ∧ (st 28 i = 2 → ∀ k, k < 2 → st (sy_nS i) (6 + k) = st 29 (4 * i + k))
def r_TN (st : sy_S) : Prop := ∀ r, r < 4 → st 4 r = st 30 (3 * r) ∧ st 5 r = st 30 (3 * r + 1) ∧ st 6 r = st 30 (3 * r + 2)
def r_TD (st : sy_S) : Prop := st 15 4 = st 24 8 ∧ st 15 5 = st 24 10 ∧ ∀ k : Nat, (k : Int) < st 15 4 → st 16 k = st 31 (3 * k) ∧ st 17 k = st 31 (3 * k + 1) ∧ st 18 k = st 31 (3 * k + 2)
def r_TP (st : sy_S) : Prop := st 19 6 = st 24 18 ∧ ∀ k : Nat, (k : Int) < st 19 6 → st 23 k = st 36 k
def Rel (ns : Nat) (st : sy_S) : Prop := r_CS ns st ∧ r_CH ns st ∧ r_CD ns st ∧ r_MI ns st ∧ r_TS ns st ∧ r_TN st ∧ r_TD st ∧ r_TP st
/-- what may change without harm -/
def r_c (st s : sy_S) : Prop := (s 1 = st 1 ∧ s 3 = st 3 ∧ s 4 = st 4 ∧ s 5 = st 5 ∧ s 6 = st 6) ∧ (s 15 = st 15 ∧ s 16 = st 16 ∧ s 17 = st 17 ∧ s 18 = st 18) ∧ (s 19 6 = st 19 6 ∧ s 23 = st 23) ∧ ∀ i k, k ≠ 3 → s (sy_nS i) k = st (sy_nS i) k
def r_m (st s : sy_S) : Prop := (∀ k, k ≠ 11 → k ≠ 14 → s 24 k = st 24 k) ∧ s 25 = st 25 ∧ s 26 = st 26 ∧ s 27 = st 27 ∧ s 28 = st 28 ∧ s 29 = st 29 ∧ s 30 = st 30 ∧ s 31 = st 31 ∧ s 36 = st 36
theorem r_c_rf (st : sy_S) : r_c st st := ⟨⟨rfl, rfl, rfl, rfl, rfl⟩, ⟨rfl, rfl, rfl, rfl⟩, ⟨rfl, rfl⟩, fun _ _ _ => rfl⟩
theorem r_m_rf (st : sy_S) : r_m st st := ⟨fun _ _ _ => rfl, rfl, rfl, rfl, rfl, rfl, rfl, rfl, rfl⟩
theorem r_MI_of {ns : Nat} {st s : sy_S} (h : r_m st s) (hm : r_MI ns st) : r_MI ns s := by
  obtain ⟨h1, h25, h26, h27, h28, h29, h30, h31, h36⟩ := h
  unfold r_MI m_ok m_site m_rng m_net m_F m_B m_N m_dips at *
  rw [h1 0 (by decide) (by decide), h1 1 (by decide) (by decide), h1 8 (by decide) (by decide), h1 10 (by decide) (by decide), h25, h26, h27, h28, h29, h30, h31]
  exact hm
theorem r_CD_of {ns : Nat} {st s : sy_S} (h : r_c st s) (hm : r_CD ns st) : r_CD ns s := by
  obtain ⟨_, ⟨h15, h16, h17, h18⟩, ⟨h19, _⟩, _⟩ := h
  unfold r_CD c_dips at *
  rw [h15, h16, h17, h18, h19]
  exact hm
theorem r_TS_of {ns : Nat} {st s : sy_S} (h : r_c st s) (g : r_m st s) (hm : r_TS ns st) : r_TS ns s := by
  obtain ⟨⟨h1, _⟩, _, _, hS⟩ := h
  obtain ⟨g1, g25, g26, g27, g28, g29, _⟩ := g
  obtain ⟨m1, m2⟩ := hm
  refine ⟨by rw [h1, g1 0 (by decide) (by decide)]; exact m1, fun i hi => ?_⟩
  obtain ⟨a1, a2, a3⟩ := m2 i hi
  rw [g25, g26, g27, g28, g29, hS i 0 (by decide), hS i 1 (by decide), hS i 4 (by decide), hS i 5 (by decide)]
  exact ⟨a1, fun c k hk => by rw [hS i (6 + k) (by omega)]; exact a2 c k hk, fun c k hk => by rw [hS i (6 + k) (by omega)]; exact a3 c k hk⟩
theorem r_TN_of {st s : sy_S} (h : r_c st s) (g : r_m st s) (hm : r_TN st) : r_TN s := by
  obtain ⟨⟨_, _, h4, h5, h6⟩, _⟩ := h
  obtain ⟨_, _, _, _, _, _, g30, _⟩ := g
  unfold r_TN; rw [h4, h5, h6, g30]; exact hm
theorem r_TD_of {st s : sy_S} (h : r_c st s) (g : r_m st s) (hm : r_TD st) : r_TD s := by
  obtain ⟨_, ⟨h15, h16, h17, h18⟩, _⟩ := h
  obtain ⟨g1, _, _, _, _, _, _, g31, _⟩ := g
  unfold r_TD; rw [h15, h16, h17, h18, g1 8 (by decide) (by decide), g1 10 (by decide) (by decide), g31]; exact hm
theorem r_TP_of {st s : sy_S} (h : r_c st s) (g : r_m st s) (hm : r_TP st) : r_TP s := by
  obtain ⟨_, _, ⟨h19, h23⟩, _⟩ := h
  obtain ⟨g1, _, _, _, _, _, _, _, g36⟩ := g
  unfold r_TP; rw [h19, h23, g1 18 (by decide) (by decide), g36]; exact hm
theorem Rel_q {ns : Nat} {st s : sy_S} (h : Rel ns st) (hc : r_c st s) (hm : r_m st s) (h1 : r_CS ns s) (h2 : r_CH ns s) : Rel ns s :=
  ⟨h1, h2, r_CD_of hc h.2.2.1, r_MI_of hm h.2.2.2.1, r_TS_of hc hm h.2.2.2.2.1, r_TN_of hc hm h.2.2.2.2.2.1, r_TD_of hc hm h.2.2.2.2.2.2.1, r_TP_of hc hm h.2.2.2.2.2.2.2⟩
theorem r_CS_of {ns : Nat} {st s : sy_S} (hc : r_c st s) (h8 : s 8 = st 8) (h7 : ∀ k, 3 ≤ k → k ≤ 10 → k ≠ 9 → s 7 k = st 7 k) (h9 : s 9 = st 9) (hw : ∀ i, i < ns → c_wk s i) (h : r_CS ns st) : r_CS ns s := by
  obtain ⟨⟨h1, h3, h4, h5, h6⟩, _, _, hS⟩ := hc
  refine ⟨c_sv_of h1 h3 h4 h5 h6 h8 hS (fun k k1 k2 => h7 k k1 (by omega) (by omega)) hw h.1, ?_⟩
  have hf := c_fg_of h4 h5 h6
  rcases h.2 with q | ⟨i, q1, q2, p, q3, q4⟩
  · exact Or.inl (by rw [h7 10 (by decide) (by decide) (by decide)]; exact q)
  · exact Or.inr ⟨i, q1, by rw [h7 10 (by decide) (by decide) (by decide)]; exact q2, p, c_ckb_of h1 h3 hf hS q3, by rw [h9]; exact q4⟩
theorem c_L_of {ns : Nat} {st s : sy_S} (h1 : s 1 = st 1) (hS : ∀ i k, k ≠ 3 → s (sy_nS i) k = st (sy_nS i) k) : c_L ns s = c_L ns st := by
  unfold c_L c_ch c_at
  simp only [hS _ 0 (by decide), hS _ 1 (by decide), hS _ 4 (by decide), hS _ 5 (by decide), hS _ 7 (by decide), hS _ 8 (by decide), h1]
theorem r_CH_of {ns : Nat} {st s : sy_S} (hc : r_c st s) (h11 : ∀ k, k = 3 ∨ k = 5 ∨ k = 6 → s 11 k = st 11 k) (h12 : s 12 = st 12) (h13 : s 13 = st 13) (h14 : s 14 = st 14) (h : r_CH ns st) : r_CH ns s := by
  obtain ⟨⟨h1, _⟩, _, _, hS⟩ := hc
  obtain ⟨⟨a1, a2⟩, a3⟩ := h
  refine ⟨⟨?_, ?_⟩, fun i j hi hj e => a3 i j hi hj (by rw [hS i 0 (by decide), hS j 0 (by decide)] at e; exact e)⟩
  · unfold c_hr at *
    rw [h11 3 (by decide), h11 5 (by decide), h12, h13, h14]; exact a1
  · rw [h11 6 (by decide)]
    refine a2.imp id (fun q => ⟨q.1, ?_⟩)
    unfold c_hv c_P at *
    rw [c_L_of h1 hS, h11 5 (by decide), h12, h13, h14]; exact q.2
theorem c_wk_of {st s : sy_S} {i : Nat} (h3 : s 3 = st 3) (hf : c_fg s = c_fg st) (hS : s (sy_nS i) 0 = st (sy_nS i) 0) (hm : s (sy_nS i) 3 = st (sy_nS i) 3) (hW : s (sy_nW i) = st (sy_nW i)) (h : c_wk st i) : c_wk s i := fun q => c_wok_of h3 hf hS hW (h (by rw [← hm]; exact q))
/-- the search has been brought up to date -/
theorem r_rf {ns : Nat} {st s : sy_S} (h : Rel ns st) (hr : c_rf ns st s) : Rel ns s := by
  have lo := fun (a : Nat) (h1 : a < 37) (h2 : a ≠ 7) (h3 : a ≠ 8) => c_same_low hr.1 h1 h2 h3
  have hc : r_c st s := ⟨⟨lo 1 (by decide) (by decide) (by decide), lo 3 (by decide) (by decide) (by decide), lo 4 (by decide) (by decide) (by decide), lo 5 (by decide) (by decide) (by decide), lo 6 (by decide) (by decide) (by decide)⟩, ⟨lo 15 (by decide) (by decide) (by decide), lo 16 (by decide) (by decide) (by decide), lo 17 (by decide) (by decide) (by decide), lo 18 (by decide) (by decide) (by decide)⟩, ⟨by rw [lo 19 (by decide) (by decide) (by decide)], lo 23 (by decide) (by decide) (by decide)⟩, hr.1.2.1⟩
  have hm : r_m st s := ⟨fun k _ _ => by rw [lo 24 (by decide) (by decide) (by decide)], lo 25 (by decide) (by decide) (by decide), lo 26 (by decide) (by decide) (by decide), lo 27 (by decide) (by decide) (by decide), lo 28 (by decide) (by decide) (by decide), lo 29 (by decide) (by decide) (by decide), lo 30 (by decide) (by decide) (by decide), lo 31 (by decide) (by decide) (by decide), lo 36 (by decide) (by decide) (by decide)⟩
  refine Rel_q h hc hm ⟨c_rf_sv hr h.1.1, ?_⟩ (r_CH_of hc (fun k _ => by rw [lo 11 (by decide) (by decide) (by decide)]) (lo 12 (by decide) (by decide) (by decide)) (lo 13 (by decide) (by decide) (by decide)) (lo 14 (by decide) (by decide) (by decide)) h.2.1)
  have hf := c_same_fg hr.1
  rcases h.1.2 with q | ⟨i, q1, q2, p, q3, q4⟩
  · exact Or.inl (by rw [hr.1.2.2]; exact q)
  · exact Or.inr ⟨i, q1, by rw [hr.1.2.2]; exact q2, p, c_ckb_of hc.1.1 hc.1.2.1 hf hr.1.2.1 q3, by rw [lo 9 (by decide) (by decide) (by decide)]; exact q4⟩
theorem r_ckr {ns : Nat} {st s : sy_S} (h : Rel ns st) (hr : c_ckr ns st s) : Rel ns s := by
  have lo := fun (a : Nat) (h1 : a < 37) (h2 : a ≠ 7) (h3 : a ≠ 8) (h4 : a ≠ 9) (h5 : a ≠ 10) => hr.1 a h2 h3 h4 h5 (fun i _ => ⟨c_W_ne h1, by unfold sy_nS; omega⟩)
  have hc : r_c st s := ⟨⟨lo 1 (by decide) (by decide) (by decide) (by decide) (by decide), lo 3 (by decide) (by decide) (by decide) (by decide) (by decide), lo 4 (by decide) (by decide) (by decide) (by decide) (by decide), lo 5 (by decide) (by decide) (by decide) (by decide) (by decide), lo 6 (by decide) (by decide) (by decide) (by decide) (by decide)⟩, ⟨lo 15 (by decide) (by decide) (by decide) (by decide) (by decide), lo 16 (by decide) (by decide) (by decide) (by decide) (by decide), lo 17 (by decide) (by decide) (by decide) (by decide) (by decide), lo 18 (by decide) (by decide) (by decide) (by decide) (by decide)⟩, ⟨by rw [lo 19 (by decide) (by decide) (by decide) (by decide) (by decide)], lo 23 (by decide) (by decide) (by decide) (by decide) (by decide)⟩, hr.2.1⟩
  have hm : r_m st s := ⟨fun k _ _ => by rw [lo 24 (by decide) (by decide) (by decide) (by decide) (by decide)], lo 25 (by decide) (by decide) (by decide) (by decide) (by decide), lo 26 (by decide) (by decide) (by decide) (by decide) (by decide), lo 27 (by decide) (by decide) (by decide) (by decide) (by decide), lo 28 (by decide) (by decide) (by decide) (by decide) (by decide), lo 29 (by decide) (by decide) (by decide) (by decide) (by decide), lo 30 (by decide) (by decide) (by decide) (by decide) (by decide), lo 31 (by decide) (by decide) (by decide) (by decide) (by decide), lo 36 (by decide) (by decide) (by decide) (by decide) (by decide)⟩
  exact Rel_q h hc hm ⟨hr.2.2.1, hr.2.2.2⟩ (r_CH_of hc (fun k _ => by rw [lo 11 (by decide) (by decide) (by decide) (by decide) (by decide)]) (lo 12 (by decide) (by decide) (by decide) (by decide) (by decide)) (lo 13 (by decide) (by decide) (by decide) (by decide) (by decide)) (lo 14 (by decide) (by decide) (by decide) (by decide) (by decide)) h.2.1)
theorem r_hk {ns : Nat} {st s : sy_S} (h : Rel ns st) (hr : c_hk ns st s) : Rel ns s := by
  have lo := hr.1
  have hc : r_c st s := ⟨⟨lo 1 (by omega), lo 3 (by omega), lo 4 (by omega), lo 5 (by omega), lo 6 (by omega)⟩, ⟨lo 15 (by omega), lo 16 (by omega), lo 17 (by omega), lo 18 (by omega)⟩, ⟨by rw [lo 19 (by omega)], lo 23 (by omega)⟩, fun i k _ => by rw [lo (sy_nS i) (by unfold sy_nS; omega)]⟩
  have hm : r_m st s := ⟨fun k _ _ => by rw [lo 24 (by omega)], lo 25 (by omega), lo 26 (by omega), lo 27 (by omega), lo 28 (by omega), lo 29 (by omega), lo 30 (by omega), lo 31 (by omega), lo 36 (by omega)⟩
  refine Rel_q h hc hm (r_CS_of hc (lo 8 (by omega)) (fun k _ _ _ => by rw [lo 7 (by omega)]) (lo 9 (by omega)) (fun i hi => c_wk_of (lo 3 (by omega)) (c_fg_of (lo 4 (by omega)) (lo 5 (by omega)) (lo 6 (by omega))) (by rw [lo (sy_nS i) (by unfold sy_nS; omega)]) (by rw [lo (sy_nS i) (by unfold sy_nS; omega)]) (lo (sy_nW i) (by unfold sy_nW; omega)) (h.1.1.1.2.2.2 i hi)) h.1) ⟨⟨hr.2.1, Or.inr ⟨hr.2.2.1, hr.2.2.2⟩⟩, ?_⟩
  exact fun i j hi hj e => h.2.1.2 i j hi hj (by rw [lo (sy_nS i) (by unfold sy_nS; omega), lo (sy_nS j) (by unfold sy_nS; omega)] at e; exact e)
theorem r_mhk {ns : Nat} {st s : sy_S} (h : Rel ns st) (hr : m_hk ns st s) : Rel ns s := by
  obtain ⟨m, _, hw⟩ := hr
  have lo := fun (a : Nat) (h1 : a ≠ 24) (h2 : a ≠ 32) (h3 : a ≠ 33) (h4 : a ≠ 34) => hw.1.1.1 a h1 h2 h3 h4
  have lS := fun i => lo (sy_nS i) (by unfold sy_nS; omega) (by unfold sy_nS; omega) (by unfold sy_nS; omega) (by unfold sy_nS; omega)
  have lW := fun i => lo (sy_nW i) (by unfold sy_nW; omega) (by unfold sy_nW; omega) (by unfold sy_nW; omega) (by unfold sy_nW; omega)
  have l1 := lo 1 (by decide) (by decide) (by decide) (by decide)
  have l3 := lo 3 (by decide) (by decide) (by decide) (by decide)
  have l4 := lo 4 (by decide) (by decide) (by decide) (by decide)
  have l5 := lo 5 (by decide) (by decide) (by decide) (by decide)
  have l6 := lo 6 (by decide) (by decide) (by decide) (by decide)
  have hc : r_c st s := ⟨⟨l1, l3, l4, l5, l6⟩, ⟨lo 15 (by decide) (by decide) (by decide) (by decide), lo 16 (by decide) (by decide) (by decide) (by decide), lo 17 (by decide) (by decide) (by decide) (by decide), lo 18 (by decide) (by decide) (by decide) (by decide)⟩, ⟨by rw [lo 19 (by decide) (by decide) (by decide) (by decide)], lo 23 (by decide) (by decide) (by decide) (by decide)⟩, fun i k _ => by rw [lS i]⟩
  have hm : r_m st s := ⟨hw.1.1.2, lo 25 (by decide) (by decide) (by decide) (by decide), lo 26 (by decide) (by decide) (by decide) (by decide), lo 27 (by decide) (by decide) (by decide) (by decide), lo 28 (by decide) (by decide) (by decide) (by decide), lo 29 (by decide) (by decide) (by decide) (by decide), lo 30 (by decide) (by decide) (by decide) (by decide), lo 31 (by decide) (by decide) (by decide) (by decide), lo 36 (by decide) (by decide) (by decide) (by decide)⟩
  exact Rel_q h hc hm (r_CS_of hc (lo 8 (by decide) (by decide) (by decide) (by decide)) (fun k _ _ _ => by rw [lo 7 (by decide) (by decide) (by decide) (by decide)]) (lo 9 (by decide) (by decide) (by decide) (by decide)) (fun i hi => c_wk_of l3 (c_fg_of l4 l5 l6) (by rw [lS i]) (by rw [lS i]) (lW i) (h.1.1.1.2.2.2 i hi)) h.1) (r_CH_of hc (fun k _ => by rw [lo 11 (by decide) (by decide) (by decide) (by decide)]) (lo 12 (by decide) (by decide) (by decide) (by decide)) (lo 13 (by decide) (by decide) (by decide) (by decide)) (lo 14 (by decide) (by decide) (by decide) (by decide)) h.2.1)
