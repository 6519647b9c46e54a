/-! CLASS AND MODEL: site -/
def c_new (st : sy_S) (ns : Nat) (y x : Int) : sy_S := fun a k => if a = 1 then (if k = 1 then (ns : Int) + 1 else st 1 k) else if a = sy_nS ns then (if k = 0 then y else if k = 1 then x else 0) else if a = sy_nW ns then 0 else st a k
theorem c_new_1 (st : sy_S) (ns : Nat) (y x : Int) (k : Nat) : c_new st ns y x 1 k = if k = 1 then (ns : Int) + 1 else st 1 k := by unfold c_new; rw [if_pos rfl]
theorem c_new_S (st : sy_S) (ns : Nat) (y x : Int) (k : Nat) : c_new st ns y x (sy_nS ns) k = if k = 0 then y else if k = 1 then x else 0 := by unfold c_new; rw [if_neg (by unfold sy_nS; omega), if_pos rfl]
theorem c_new_ne (st : sy_S) (ns : Nat) (y x : Int) {a : Nat} (h1 : a ≠ 1) (h2 : a ≠ sy_nS ns) (h3 : a ≠ sy_nW ns) : c_new st ns y x a = st a := by funext k; unfold c_new; rw [if_neg h1, if_neg h2, if_neg h3]
theorem xh_pc_ext {ch ch' : Nat → Bool} {b c y b' c' y' : Nat → Int} : ∀ n, (∀ i, i < n → ch i = ch' i ∧ b i = b' i ∧ c i = c' i ∧ y i = y' i) → xh_pc ch b c y n = xh_pc ch' b' c' y' n
  | 0, _ => rfl
  | n + 1, h => by
    obtain ⟨h1, h2, h3, h4⟩ := h n (by omega)
    simp only [xh_pc]
    rw [xh_pc_ext n (fun i hi => h i (by omega)), h1, h2, h3, h4]
theorem r_site {ns : Nat} {st : sy_S} (h : Rel ns st) (hn : ns < 16) {y x : Int} (hy : -2000 ≤ y ∧ y ≤ 2000) (hx : -5000 ≤ x ∧ x ≤ 5000) (hd : ∀ j, j < ns → st (sy_nS j) 0 ≠ y) : Rel (ns + 1) (m_add (c_new st ns y x) y x) := by
  have e24 : ∀ k, k ≠ 1 → m_add (c_new st ns y x) y x 24 k = st 24 k := fun k hk => by
    have : c_new st ns y x 24 = st 24 := c_new_ne _ _ _ _ (by decide) (by unfold sy_nS; omega) (by unfold sy_nW; omega)
    unfold m_add
    show (if _ then _ else _) = _
    rw [if_neg (by omega), sy_up_ne _ _ (by decide), sy_up_ne _ _ (by decide), this]
  have n24 : c_new st ns y x 24 1 = (ns : Int) := by
    rw [c_new_ne _ _ _ _ (by decide) (by unfold sy_nS; omega) (by unfold sy_nW; omega)]; exact h.2.2.2.1.1.1.1
  have f24 : m_add (c_new st ns y x) y x 24 1 = (ns : Int) + 1 := by unfold m_add; rw [n24]; unfold sy_up; simp
  have l : ∀ a, a ≠ 1 → a ≠ 24 → a ≠ 25 → a ≠ 26 → a ≠ sy_nS ns → a ≠ sy_nW ns → m_add (c_new st ns y x) y x a = st a := fun a a1 a2 a3 a4 a5 a6 => by
    unfold m_add; rw [sy_up_ne _ _ a2, sy_up_ne _ _ a4, sy_up_ne _ _ a3, c_new_ne _ _ _ _ a1 a5 a6]
  have f25 : ∀ k, m_add (c_new st ns y x) y x 25 k = if k = ns then y else st 25 k := fun k => by
    have : c_new st ns y x 25 = st 25 := c_new_ne _ _ _ _ (by decide) (by unfold sy_nS; omega) (by unfold sy_nW; omega)
    unfold m_add; rw [n24, sy_up_ne _ _ (by decide), sy_up_ne _ _ (by decide), ← this]; unfold sy_up; simp
  have f26 : ∀ k, m_add (c_new st ns y x) y x 26 k = if k = ns then x else st 26 k := fun k => by
    have : c_new st ns y x 26 = st 26 := c_new_ne _ _ _ _ (by decide) (by unfold sy_nS; omega) (by unfold sy_nW; omega)
    unfold m_add; rw [n24, sy_up_ne _ _ (by decide), ← this]; unfold sy_up; simp [c_new]
  have f1 : ∀ k, m_add (c_new st ns y x) y x 1 k = if k = 1 then (ns : Int) + 1 else st 1 k := fun k => by
    unfold m_add; rw [sy_up_ne _ _ (by decide), sy_up_ne _ _ (by decide), sy_up_ne _ _ (by decide), c_new_1]
  have fS : ∀ k, m_add (c_new st ns y x) y x (sy_nS ns) k = if k = 0 then y else if k = 1 then x else 0 := fun k => by
    unfold m_add; rw [sy_up_ne _ _ (by unfold sy_nS; omega), sy_up_ne _ _ (by unfold sy_nS; omega), sy_up_ne _ _ (by unfold sy_nS; omega), c_new_S]
  generalize m_add (c_new st ns y x) y x = t at *
  have le := fun (a : Nat) (ha : a < 37) (a1 : a ≠ 1) (a2 : a ≠ 24) (a3 : a ≠ 25) (a4 : a ≠ 26) => l a a1 a2 a3 a4 (by unfold sy_nS; omega) (by unfold sy_nW; omega)
  have lSj : ∀ j, j ≠ ns → t (sy_nS j) = st (sy_nS j) := fun j hj => l _ (by unfold sy_nS; omega) (by unfold sy_nS; omega) (by unfold sy_nS; omega) (by unfold sy_nS; omega) (fun q => hj (sy_nS_iff.mp q)) (sy_nS_nW j ns)
  have lWj : ∀ j, j ≠ ns → t (sy_nW j) = st (sy_nW j) := fun j hj => l _ (by unfold sy_nW; omega) (by unfold sy_nW; omega) (by unfold sy_nW; omega) (by unfold sy_nW; omega) (by unfold sy_nW sy_nS; omega) (by unfold sy_nW; omega)
  have t12 : t 1 2 = st 1 2 := by rw [f1, if_neg (by decide)]
  have hf : c_fg t = c_fg st := c_fg_of (le 4 (by decide) (by decide) (by decide) (by decide) (by decide)) (le 5 (by decide) (by decide) (by decide) (by decide) (by decide)) (le 6 (by decide) (by decide) (by decide) (by decide) (by decide))
  have e3 := le 3 (by decide) (by decide) (by decide) (by decide) (by decide)
  have e8 := le 8 (by decide) (by decide) (by decide) (by decide) (by decide)
  have e7 := le 7 (by decide) (by decide) (by decide) (by decide) (by decide)
  have agt : ∀ j, j ≠ ns → ∀ f ld : Int, c_agt t f j ld = c_agt st f j ld := fun j hj f ld => by unfold c_agt; rw [hf, lSj j hj, t12]
  have agj : ∀ j, j ≠ ns → ∀ f : Int, c_ag t f j = c_ag st f j := fun j hj f => by unfold c_ag; rw [agt j hj, lSj j hj]
  have agn : ∀ f : Int, c_ag t f ns = true := fun f => by
    unfold c_ag c_agt xg_ag
    have e5 : t (sy_nS ns) 5 = 0 := by rw [fS]; rfl
    rw [e5, if_neg (by decide), if_neg (by decide)]
  have wr : ∀ f : Int, c_wr (ns + 1) t f = c_wr ns st f := fun f => by
    unfold c_wr
    show xc _ ns + (if (!c_ag t f ns) = true then 1 else 0) = _
    rw [agn f, if_neg (by decide), Int.add_zero]
    exact xc_ext ns (fun i hi => by rw [agj i (by omega)])
  have ft : c_ft (ns + 1) t = c_ft ns st := by funext f; unfold c_ft; rw [wr]
  have hrng := h.1.1.1.2.1
  have hm := h.2.2.2.1.1.2.1
  have hMI := h.2.2.2.1
  have hcs := h.1.1
  have hL : c_L (ns + 1) t = c_L ns st := by
    rw [c_L_succ]
    have : c_ch t ns = false := by unfold c_ch; rw [fS 5]; rfl
    rw [this, if_neg (by decide), List.append_nil]
    unfold c_L
    refine xh_pc_ext ns (fun i hi => ?_)
    unfold c_ch c_at
    rw [lSj i (by omega), t12]
    exact ⟨rfl, rfl, rfl, rfl⟩
  have L := fun (a : Nat) (ha : (1 < a ∧ a < 24) ∨ (26 < a ∧ a < 37)) => le a (by omega) (by omega) (by omega) (by omega) (by omega)
  refine ⟨⟨⟨⟨⟨by rw [f1, if_pos rfl]; omega, by omega⟩, ?_, ?_, ?_⟩, ?_, ?_, ?_⟩, ?_⟩, ⟨⟨?_, ?_⟩, ?_⟩, ⟨?_, ?_⟩, ⟨⟨⟨by rw [f24]; omega, by omega⟩, ?_, ?_⟩, ?_, ?_, ?_⟩, ⟨?_, fun i hi => ?_⟩, ?_, ?_, ?_⟩
  · unfold c_rng at *
    rw [t12]
    refine ⟨hrng.1, fun j => ?_, fun j => ?_, fun j => ?_, fun j => ?_, fun j k k1 k2 => ?_⟩
    · by_cases e : j = ns
      · subst e; rw [fS]; exact hy
      · rw [lSj j e]; exact hrng.2.1 j
    · by_cases e : j = ns
      · subst e; rw [fS]; exact hx
      · rw [lSj j e]; exact hrng.2.2.1 j
    · by_cases e : j = ns
      · subst e; rw [fS]; simp
      · rw [lSj j e]; exact hrng.2.2.2.1 j
    · by_cases e : j = ns
      · subst e; rw [fS]; simp
      · rw [lSj j e]; exact hrng.2.2.2.2.1 j
    · by_cases e : j = ns
      · subst e; rw [fS, if_neg (by omega), if_neg (by omega)]; omega
      · rw [lSj j e]; exact hrng.2.2.2.2.2 j k k1 k2
  · exact (c_net_of e3 (L 4 (by omega)) (L 5 (by omega)) (L 6 (by omega))).2.2.2 hcs.1.2.2.1
  · intro i hi
    by_cases e : i = ns
    · subst e; intro q; rw [fS] at q; exact absurd rfl q
    · exact c_wk_of e3 hf (by rw [lSj i e]) (by rw [lSj i e]) (lWj i e) (hcs.1.2.2.2 i (by omega))
  · intro f i a b; rw [e8]; exact hcs.2.1 f i (by omega) b
  · intro f i a b c
    rw [e3] at a; rw [e7] at c; rw [e8]
    by_cases e : i = ns
    · subst e; rw [agn]; exact hcs.2.1 f i (Nat.le_refl _) (by omega)
    · rw [agj i e]; exact hcs.2.2.1 f i a (by omega) c
  · intro q
    rw [e7] at q
    have := hcs.2.2.2 q
    unfold c_sums c_best at *
    have ew : (fun f : Nat => c_wr (ns + 1) t (f : Int)) = fun f : Nat => c_wr ns st (f : Int) := by funext f; exact wr f
    rw [e7, e3, ft, c_wh_of hf, ew, wr]
    exact this
  · have := h.1.2
    unfold c_ckk at *
    rw [e7]
    rcases this with q | ⟨i, q1, q2, p, q3, q4⟩
    · exact Or.inl q
    · refine Or.inr ⟨i, by omega, q2, p, fun j hj => ?_, by rw [L 9 (by omega)]; exact q4⟩
      rw [q3 j hj, e3]
      unfold c_ckn c_oth
      constructor
      · rintro ⟨f, f1, f2, f3⟩
        exact ⟨f, f1, fun k hk hne => (by
          by_cases e : k = ns
          · subst e; exact agn _
          · rw [agj k e]; exact f2 k (by omega) hne), by rw [agt i (by omega)]; exact f3⟩
      · rintro ⟨f, f1, f2, f3⟩
        exact ⟨f, f1, fun k hk hne => (by rw [← agj k (by omega)]; exact f2 k (by omega) hne), by rw [← agt i (by omega)]; exact f3⟩
  · have k := h.2.1.1.1
    unfold c_hr at *
    rw [L 11 (by omega), L 12 (by omega), L 13 (by omega), L 14 (by omega)]; exact k
  · have k := h.2.1.1.2
    rw [L 11 (by omega)]
    refine k.imp id (fun q => ⟨q.1, ?_⟩)
    have q2 := q.2
    unfold c_hv c_P at *
    rw [hL, L 11 (by omega), L 12 (by omega), L 13 (by omega), L 14 (by omega)]; exact q2
  · intro i j hi hj e
    by_cases ei : i = ns
    · by_cases ej : j = ns
      · omega
      · subst ei
        rw [fS, if_pos rfl, lSj j ej] at e
        exact absurd e.symm (hd j (by omega))
    · by_cases ej : j = ns
      · subst ej
        rw [fS, if_pos rfl, lSj i ei] at e
        exact absurd e (hd i (by omega))
      · rw [lSj i ei, lSj j ej] at e
        exact h.2.1.2 i j (by omega) (by omega) e
  · have k := h.2.2.1.1
    unfold c_dips at *
    rw [L 15 (by omega), L 16 (by omega), L 17 (by omega), L 18 (by omega)]
    exact ⟨k.1, k.2.1, fun q hq => by have := k.2.2 q hq; omega⟩
  · rw [L 19 (by omega)]; exact h.2.2.1.2
  · unfold m_rng at *
    rw [e24 0 (by decide), L 27 (by omega), L 28 (by omega), L 29 (by omega)]
    refine ⟨hm.1, fun j => ?_, fun j => ?_, hm.2.2.2⟩
    · rw [f25]; split
      · exact hy
      · exact hm.2.1 j
    · rw [f26]; split
      · exact hx
      · exact hm.2.2.1 j
  · have k := hMI.1.2.2
    unfold m_net m_F m_B m_N at *
    rw [L 30 (by omega)]; exact k
  · have k := hMI.2.1
    unfold m_dips at *
    rw [e24 8 (by decide), e24 10 (by decide), L 31 (by omega)]
    exact ⟨k.1, k.2.1, fun q hq => by have := k.2.2 q hq; omega⟩
  · intro i hi; rw [L 27 (by omega), L 28 (by omega)]; exact hMI.2.2.1 i (by omega)
  · intro i hi q
    rw [L 28 (by omega)] at q
    rw [L 29 (by omega)]
    by_cases e : i = ns
    · subst e; rw [(hMI.2.2.1 i (by omega)).2] at q; omega
    · exact hMI.2.2.2 i (by omega) q
  · rw [t12, e24 0 (by decide)]; exact h.2.2.2.2.1.1
  · rw [f25, f26, L 27 (by omega), L 28 (by omega), L 29 (by omega)]
    by_cases e : i = ns
    · subst e
      obtain ⟨z1, z2⟩ := hMI.2.2.1 i (by omega)
      rw [if_pos rfl, if_pos rfl, fS, fS, fS, fS, z1, z2]
      exact ⟨⟨rfl, rfl, rfl, rfl⟩, fun q => by omega, fun q => by omega⟩
    · rw [if_neg e, if_neg e, lSj i e]
      exact h.2.2.2.2.1.2 i (by omega)
  · unfold r_TN; rw [L 4 (by omega), L 5 (by omega), L 6 (by omega), L 30 (by omega)]; exact h.2.2.2.2.2.1
  · unfold r_TD; rw [L 15 (by omega), L 16 (by omega), L 17 (by omega), L 18 (by omega), e24 8 (by decide), e24 10 (by decide), L 31 (by omega)]; exact h.2.2.2.2.2.2.1
  · unfold r_TP; rw [L 19 (by omega), L 23 (by omega), e24 18 (by decide), L 36 (by omega)]; exact h.2.2.2.2.2.2.2
