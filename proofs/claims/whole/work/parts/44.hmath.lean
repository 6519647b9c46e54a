/-! MATHEMATICS: the smallest figure without dents -/
def xh_t (p q r : Int × Int) : Int := (q.1 - p.1) * (r.2 - p.2) - (q.2 - p.2) * (r.1 - p.1)
def xh_q (p q : Int × Int) : Int := (p.1 - q.1) * (p.1 - q.1) + (p.2 - q.2) * (p.2 - q.2)
def xh_o (p q r : Int × Int) : Int := (q.1 - p.1) * (r.1 - p.1) + (q.2 - p.2) * (r.2 - p.2)
def xh_s (p b r : Int × Int) : Int × Int := if r ≠ p ∧ (b = p ∨ xh_t p b r < 0 ∨ (xh_t p b r = 0 ∧ xh_q p b < xh_q p r)) then r else b
def xh_n (L : List (Int × Int)) (p : Int × Int) : Int × Int := L.foldl (xh_s p) p
def xh_l (b r : Int × Int) : Int × Int := if r.2 < b.2 ∨ (r.2 = b.2 ∧ r.1 < b.1) then r else b
def xh_0 (L : List (Int × Int)) : Int × Int := L.foldl xh_l (L.headD (0, 0))
def xh_c (L : List (Int × Int)) : Nat → Int × Int
  | 0 => xh_0 L
  | k + 1 => xh_n L (xh_c L k)
/-- a half plane with one half of its border -/
def xh_h (s u w : Int) : Prop := 0 < u ∨ (u = 0 ∧ 0 < s * w)
def xh_e (L : List (Int × Int)) (p : Int × Int) : Prop := ∃ d1 d2 s : Int, (s = 1 ∨ s = -1) ∧ 0 < d1 * d1 + d2 * d2 ∧ ∀ r ∈ L, r ≠ p → xh_h s (d1 * (r.2 - p.2) - d2 * (r.1 - p.1)) (d1 * (r.1 - p.1) + d2 * (r.2 - p.2))
def xh_b (p b r : Int × Int) : Prop := 0 < xh_t p b r ∨ (xh_t p b r = 0 ∧ xh_q p r ≤ xh_q p b)

theorem xh_nn {a b : Int} (ha : 0 < a) (h : 0 ≤ a * b) : 0 ≤ b := by
  rcases Int.lt_or_le b 0 with c | c
  · have := Int.mul_neg_of_pos_of_neg ha c; omega
  · exact c
theorem xh_sq_nn (a : Int) : 0 ≤ a * a := by
  rcases Int.lt_or_le a 0 with c | c
  · have := Int.mul_nonneg (a := -a) (b := -a) (by omega) (by omega); rw [Int.neg_mul_neg] at this; exact this
  · exact Int.mul_nonneg c c
theorem xh_sq_pos {a : Int} (h : a ≠ 0) : 0 < a * a := by
  rcases Int.lt_or_le a 0 with c | c
  · have := Int.mul_pos (a := -a) (b := -a) (by omega) (by omega); rw [Int.neg_mul_neg] at this; exact this
  · exact Int.mul_pos (by omega) (by omega)
theorem xh_opp0 {D ur wr us ws c o s : Int} (hs : s = 1 ∨ s = -1) (hD : 0 < D) (e1 : D * c = wr * us - ur * ws) (e2 : D * o = wr * ws + ur * us) (hr : xh_h s ur wr) (hh : xh_h s us ws) (hc : c = 0) : 0 < o := by
  subst hc
  rw [Int.mul_zero] at e1
  refine Int.pos_of_mul_pos_right (a := D) ?_ hD
  rw [e2]
  rcases hr with r1 | ⟨r1, r2⟩ <;> rcases hh with s1 | ⟨s1, s2⟩
  · have a1 : 0 ≤ us * (wr * ws) := by
      have : us * (wr * ws) = ur * (ws * ws) := by grind
      rw [this]; exact Int.mul_nonneg (by omega) (xh_sq_nn ws)
    have a2 := xh_nn s1 a1
    have a3 := Int.mul_pos r1 s1
    omega
  · subst s1
    have : ur * ws = 0 := by grind
    rcases Int.mul_eq_zero.mp this with z | z
    · omega
    · rw [z, Int.mul_zero] at s2; omega
  · subst r1
    have : us * wr = 0 := by grind
    rcases Int.mul_eq_zero.mp this with z | z
    · omega
    · rw [z, Int.mul_zero] at r2; omega
  · subst r1 s1
    rw [Int.mul_zero]
    rcases hs with z | z <;> subst z
    · have := Int.mul_pos r2 s2; grind
    · have := Int.mul_pos r2 s2; grind
theorem xh_opp {L : List (Int × Int)} {p r s : Int × Int} (h : xh_e L p) (hr : r ∈ L) (hs : s ∈ L) (r1 : r ≠ p) (s1 : s ≠ p) (ht : xh_t p r s = 0) : 0 < xh_o p r s := by
  obtain ⟨d1, d2, g, hg, hD, hh⟩ := h
  refine xh_opp0 (D := d1 * d1 + d2 * d2) hg hD ?_ ?_ (hh r hr r1) (hh s hs s1) ht
  · unfold xh_t; grind
  · unfold xh_o; grind
theorem xh_tr0 {D ub wb ur wr us ws cbr cbs crs g : Int} (hg : g = 1 ∨ g = -1) (hD : 0 < D) (e1 : D * cbr = wb * ur - ub * wr) (e2 : D * cbs = wb * us - ub * ws) (e3 : D * crs = wr * us - ur * ws) (hb : xh_h g ub wb) (hr : xh_h g ur wr) (hs : xh_h g us ws) (h1 : cbr < 0) (h2 : 0 ≤ cbs) : 0 < crs := by
  have f1 : wb * ur - ub * wr < 0 := by rw [← e1]; exact Int.mul_neg_of_pos_of_neg hD h1
  have f2 : 0 ≤ wb * us - ub * ws := by rw [← e2]; exact Int.mul_nonneg (by omega) h2
  refine Int.pos_of_mul_pos_right (a := D) ?_ hD
  rw [e3]
  clear e1 e2 e3 hD h1 h2
  have ur0 : 0 ≤ ur := by rcases hr with z | ⟨z, _⟩ <;> omega
  have us0 : 0 ≤ us := by rcases hs with z | ⟨z, _⟩ <;> omega
  rcases hb with b1 | ⟨b1, b2⟩
  · refine Int.pos_of_mul_pos_right (a := ub) ?_ b1
    have pl : ub * (wr * us - ur * ws) = ur * (wb * us - ub * ws) + us * (-(wb * ur - ub * wr)) := by grind
    rw [pl]
    have p1 := Int.mul_nonneg ur0 f2
    rcases hs with s1 | ⟨s1, s2⟩
    · have p2 := Int.mul_pos s1 (b := -(wb * ur - ub * wr)) (by omega)
      omega
    · subst s1
      have n1 : 0 ≤ ub * (-ws) := by grind
      have n2 := xh_nn b1 n1
      have n3 : ws < 0 := by
        rcases Int.lt_or_le ws 0 with z | z
        · exact z
        · have : ws = 0 := by omega
          rw [this, Int.mul_zero] at s2; omega
      have n4 := Int.mul_pos b1 (b := -ws) (by omega)
      rcases hr with r1 | ⟨r1, r2⟩
      · have := Int.mul_pos r1 n4
        grind
      · subst r1
        have m1 : 0 < ub * wr := by grind
        have m2 := Int.pos_of_mul_pos_right m1 b1
        rcases hg with z | z <;> subst z <;> omega
  · subst b1
    have k1 : wb * ur < 0 := by grind
    have k2 : 0 ≤ wb * us := by grind
    have wbn : wb < 0 := by
      rcases Int.lt_or_le wb 0 with z | z
      · exact z
      · have := Int.mul_nonneg z ur0; omega
    have urp : 0 < ur := by
      rcases Int.lt_or_le 0 ur with z | z
      · exact z
      · have : ur = 0 := by omega
        subst this; omega
    have usz : us = 0 := by
      rcases Int.lt_or_le 0 us with z | z
      · have := Int.mul_neg_of_neg_of_pos wbn z; omega
      · omega
    subst usz
    have wsn : ws < 0 := by
      rcases hs with s1 | ⟨s1, s2⟩
      · omega
      · rcases hg with z | z <;> subst z <;> omega
    have := Int.mul_pos urp (b := -ws) (by omega)
    grind
theorem xh_tr {L : List (Int × Int)} {p b r s : Int × Int} (h : xh_e L p) (hb : b ∈ L) (hr : r ∈ L) (hs : s ∈ L) (b1 : b ≠ p) (r1 : r ≠ p) (s1 : s ≠ p) (h1 : xh_t p b r < 0 ∨ (xh_t p b r = 0 ∧ xh_q p b < xh_q p r)) (h2 : xh_b p b s) : xh_b p r s := by
  rcases h1 with h1 | ⟨h1, h3⟩
  · obtain ⟨d1, d2, g, hg, hD, hh⟩ := h
    have h4 : 0 ≤ xh_t p b s := by rcases h2 with z | ⟨z, _⟩ <;> omega
    refine Or.inl (xh_tr0 (D := d1 * d1 + d2 * d2) hg hD ?_ ?_ ?_ (hh b hb b1) (hh r hr r1) (hh s hs s1) h1 h4)
    · unfold xh_t; grind
    · unfold xh_t; grind
    · unfold xh_t; grind
  · have ho := xh_opp h hb hr b1 r1 h1
    have e : xh_q p b * xh_t p r s = xh_o p b r * xh_t p b s - xh_t p b r * xh_o p b s := by unfold xh_q xh_t xh_o; grind
    rw [h1, Int.zero_mul, Int.sub_zero] at e
    have qp : 0 < xh_q p b := by
      unfold xh_q
      have u1 := xh_sq_nn (p.1 - b.1)
      have u2 := xh_sq_nn (p.2 - b.2)
      rcases Decidable.em (p.1 = b.1) with z | z
      · have : p.2 - b.2 ≠ 0 := fun q => b1 (Prod.ext z.symm (by omega))
        have := xh_sq_pos this
        omega
      · have := xh_sq_pos (a := p.1 - b.1) (by omega)
        omega
    rcases h2 with z | ⟨z, z2⟩
    · refine Or.inl (Int.pos_of_mul_pos_right (a := xh_q p b) ?_ qp)
      rw [e]; exact Int.mul_pos ho z
    · rw [z, Int.mul_zero] at e
      rcases Int.mul_eq_zero.mp e with z3 | z3
      · omega
      · exact Or.inr ⟨z3, by omega⟩
def xh_g (p : Int × Int) (S : List (Int × Int)) (b : Int × Int) : Prop := (b = p ∧ ∀ r ∈ S, r = p) ∨ (b ∈ S ∧ b ≠ p ∧ ∀ r ∈ S, r ≠ p → xh_b p b r)
theorem xh_t_self (p b : Int × Int) : xh_t p b b = 0 := by unfold xh_t; grind
theorem xh_g_step {L S : List (Int × Int)} {p b x : Int × Int} (h : xh_e L p) (hS : ∀ r ∈ S, r ∈ L) (hx : x ∈ L) (hg : xh_g p S b) : xh_g p (S ++ [x]) (xh_s p b x) := by
  unfold xh_s
  by_cases hxp : x = p
  · rw [if_neg (fun q => q.1 hxp)]
    rcases hg with ⟨g1, g2⟩ | ⟨g1, g2, g3⟩
    · refine Or.inl ⟨g1, fun r hr => ?_⟩
      rcases List.mem_append.mp hr with z | z
      · exact g2 r z
      · rw [List.mem_singleton.mp z]; exact hxp
    · refine Or.inr ⟨List.mem_append_left _ g1, g2, fun r hr hr2 => ?_⟩
      rcases List.mem_append.mp hr with z | z
      · exact g3 r z hr2
      · rw [List.mem_singleton.mp z] at hr2; exact absurd hxp hr2
  · rcases hg with ⟨g1, g2⟩ | ⟨g1, g2, g3⟩
    · rw [if_pos ⟨hxp, Or.inl g1⟩]
      refine Or.inr ⟨List.mem_append_right _ (List.mem_singleton.mpr rfl), hxp, fun r hr hr2 => ?_⟩
      rcases List.mem_append.mp hr with z | z
      · exact absurd (g2 r z) hr2
      · rw [List.mem_singleton.mp z]; exact Or.inr ⟨xh_t_self _ _, by omega⟩
    · by_cases hc : xh_t p b x < 0 ∨ (xh_t p b x = 0 ∧ xh_q p b < xh_q p x)
      · rw [if_pos ⟨hxp, Or.inr hc⟩]
        refine Or.inr ⟨List.mem_append_right _ (List.mem_singleton.mpr rfl), hxp, fun r hr hr2 => ?_⟩
        rcases List.mem_append.mp hr with z | z
        · exact xh_tr h (hS b g1) hx (hS r z) g2 hxp hr2 hc (g3 r z hr2)
        · rw [List.mem_singleton.mp z]; exact Or.inr ⟨xh_t_self _ _, by omega⟩
      · rw [if_neg (fun q => hc (q.2.resolve_left g2))]
        refine Or.inr ⟨List.mem_append_left _ g1, g2, fun r hr hr2 => ?_⟩
        rcases List.mem_append.mp hr with z | z
        · exact g3 r z hr2
        · rw [List.mem_singleton.mp z]; unfold xh_b; omega
theorem xh_g_fold {L : List (Int × Int)} {p : Int × Int} (h : xh_e L p) : ∀ (T S : List (Int × Int)) (b : Int × Int), (∀ r ∈ S ++ T, r ∈ L) → xh_g p S b → xh_g p (S ++ T) (T.foldl (xh_s p) b)
  | [], S, b, _, hg => by rw [List.append_nil]; exact hg
  | x :: T, S, b, hS, hg => by
    rw [List.foldl_cons, show S ++ x :: T = (S ++ [x]) ++ T by simp]
    refine xh_g_fold h T (S ++ [x]) _ ?_ (xh_g_step h (fun r hr => hS r (List.mem_append_left _ hr)) (hS x (by simp)) hg)
    intro r hr; exact hS r (by simpa using hr)
theorem xh_next {L : List (Int × Int)} {p : Int × Int} (h : xh_e L p) : xh_g p L (xh_n L p) := xh_g_fold h L [] p (fun _ hr => hr) (Or.inl ⟨rfl, by simp⟩)
theorem xh_q_pos {p q : Int × Int} (h : q ≠ p) : 0 < xh_q p q := by
  unfold xh_q
  have u1 := xh_sq_nn (p.1 - q.1)
  have u2 := xh_sq_nn (p.2 - q.2)
  rcases Decidable.em (p.1 = q.1) with z | z
  · have : p.2 - q.2 ≠ 0 := fun q => h (Prod.ext z.symm (by omega))
    have := xh_sq_pos this
    omega
  · have := xh_sq_pos (a := p.1 - q.1) (by omega)
    omega
theorem xh_e_next {L : List (Int × Int)} {p : Int × Int} (hp : p ∈ L) (h : xh_e L p) : xh_e L (xh_n L p) ∧ xh_n L p ∈ L := by
  rcases xh_next h with ⟨g1, g2⟩ | ⟨g1, g2, g3⟩
  · rw [g1]; exact ⟨h, hp⟩
  · refine ⟨?_, g1⟩
    generalize xh_n L p = q at *
    refine ⟨q.1 - p.1, q.2 - p.2, -1, Or.inr rfl, ?_, fun r hr hrq => ?_⟩
    · have := xh_q_pos g2; unfold xh_q at this; grind
    · have e1 : (q.1 - p.1) * (r.2 - q.2) - (q.2 - p.2) * (r.1 - q.1) = xh_t p q r := by unfold xh_t; grind
      have e2 : 2 * ((q.1 - p.1) * (r.1 - q.1) + (q.2 - p.2) * (r.2 - q.2)) = xh_q p r - xh_q p q - xh_q q r := by unfold xh_q; grind
      have e3 := xh_q_pos hrq
      rw [e1]
      by_cases hrp : r = p
      · refine Or.inr ⟨by rw [hrp]; unfold xh_t; grind, ?_⟩
        have : xh_q p r = 0 := by rw [hrp]; unfold xh_q; grind
        have := xh_q_pos g2
        omega
      · rcases g3 r hr hrp with z | ⟨z, z2⟩
        · exact Or.inl z
        · exact Or.inr ⟨z, by omega⟩
/-- three in one line -/
theorem xh_K {L : List (Int × Int)} {p a b : Int × Int} (hp : xh_e L p) (ha : xh_e L a) (mp : p ∈ L) (ma : a ∈ L) (mb : b ∈ L) (h1 : a ≠ p) (h2 : b ≠ p) (h3 : b ≠ a) (ht : xh_t p b a = 0) (hq : xh_q p a ≤ xh_q p b) : False := by
  have o1 := xh_opp hp mb ma h2 h1 ht
  have o2 := xh_opp ha mb mp h3 (Ne.symm h1) (by unfold xh_t at *; grind)
  have e1 : xh_o a b p = xh_q p a - xh_o p b a := by unfold xh_o xh_q; grind
  have e2 : xh_o p b a * xh_o p b a + xh_t p b a * xh_t p b a = xh_q p a * xh_q p b := by unfold xh_o xh_q xh_t; grind
  rw [ht, Int.mul_zero, Int.add_zero] at e2
  have a1 : xh_o p b a < xh_q p a := by omega
  have a2 := Int.mul_lt_mul_of_pos_left a1 o1
  have a3 := Int.mul_lt_mul_of_pos_left (show xh_o p b a < xh_q p b by omega) (show 0 < xh_q p a by omega)
  rw [Int.mul_comm] at a3
  grind
theorem xh_inj {L : List (Int × Int)} {p a : Int × Int} (hp : xh_e L p) (ha : xh_e L a) (mp : p ∈ L) (ma : a ∈ L) (h : xh_n L p = xh_n L a) : p = a := by
  apply Decidable.byContradiction
  intro hne
  rcases xh_next hp with ⟨g1, g2⟩ | ⟨g1, g2, g3⟩
  · exact hne (g2 a ma).symm
  · rcases xh_next ha with ⟨k1, k2⟩ | ⟨k1, k2, k3⟩
    · exact hne (k2 p mp)
    · rw [← h] at k2 k3
      have b1 := g3 a ma (Ne.symm hne)
      have b2 := k3 p mp hne
      generalize xh_n L p = q at *
      have e : xh_t a q p = - xh_t p q a := by unfold xh_t; grind
      unfold xh_b at b1 b2
      exact xh_K hp ha mp ma g1 (Ne.symm hne) g2 k2 (by omega) (by omega)
theorem xh_l_in : ∀ (L : List (Int × Int)) (b : Int × Int), L.foldl xh_l b = b ∨ L.foldl xh_l b ∈ L
  | [], b => Or.inl rfl
  | x :: L, b => by
    rw [List.foldl_cons]
    rcases xh_l_in L (xh_l b x) with z | z
    · rw [z]; unfold xh_l; split
      · exact Or.inr (by simp)
      · exact Or.inl rfl
    · exact Or.inr (by simp [z])
theorem xh_l_le : ∀ (L : List (Int × Int)) (b : Int × Int), ∀ r, (r = b ∨ r ∈ L) → (L.foldl xh_l b).2 < r.2 ∨ ((L.foldl xh_l b).2 = r.2 ∧ (L.foldl xh_l b).1 ≤ r.1)
  | [], b, r, h => by rcases h with z | z
                      · subst z; exact Or.inr ⟨rfl, Int.le_refl _⟩
                      · simp at z
  | x :: L, b, r, h => by
    rw [List.foldl_cons]
    have i1 := xh_l_le L (xh_l b x) (xh_l b x) (Or.inl rfl)
    have i2 : ∀ r ∈ L, _ := fun r hr => xh_l_le L (xh_l b x) r (Or.inr hr)
    have k1 : (xh_l b x).2 < b.2 ∨ ((xh_l b x).2 = b.2 ∧ (xh_l b x).1 ≤ b.1) := by unfold xh_l; split <;> omega
    have k2 : (xh_l b x).2 < x.2 ∨ ((xh_l b x).2 = x.2 ∧ (xh_l b x).1 ≤ x.1) := by unfold xh_l; split <;> omega
    generalize L.foldl xh_l (xh_l b x) = F at *
    generalize xh_l b x = G at *
    rcases h with z | z
    · subst z; omega
    · rcases List.mem_cons.mp z with z | z
      · subst z; omega
      · exact i2 r z
theorem xh_0_ok {L : List (Int × Int)} (h : L ≠ []) : xh_e L (xh_0 L) ∧ xh_0 L ∈ L := by
  unfold xh_0
  have hm : L.headD (0, 0) ∈ L := by
    cases L with
    | nil => exact absurd rfl h
    | cons x L => simp
  refine ⟨⟨1, 0, 1, Or.inl rfl, by omega, fun r hr hne => ?_⟩, ?_⟩
  · have := xh_l_le L (L.headD (0, 0)) r (Or.inr hr)
    generalize L.foldl xh_l (L.headD (0, 0)) = b at *
    unfold xh_h
    have hn : ¬ (r.1 = b.1 ∧ r.2 = b.2) := fun q => hne (Prod.ext q.1 q.2)
    omega
  · rcases xh_l_in L (L.headD (0, 0)) with z | z
    · rw [z]; exact hm
    · exact z
theorem xh_c_ok {L : List (Int × Int)} (h : L ≠ []) : ∀ k, xh_e L (xh_c L k) ∧ xh_c L k ∈ L
  | 0 => xh_0_ok h
  | k + 1 => xh_e_next (xh_c_ok h k).2 (xh_c_ok h k).1
theorem xh_back {L : List (Int × Int)} (h : L ≠ []) : ∀ i j, xh_c L i = xh_c L (i + j) → xh_c L j = xh_c L 0
  | 0, j, e => by rw [Nat.zero_add] at e; exact e.symm
  | i + 1, j, e => by
    rw [show i + 1 + j = (i + j) + 1 by omega] at e
    exact xh_back h i j (xh_inj (xh_c_ok h i).1 (xh_c_ok h (i + j)).1 (xh_c_ok h i).2 (xh_c_ok h (i + j)).2 e)
theorem xh_pig : ∀ (n : Nat) (g : Nat → Nat), (∀ k, k ≤ n → g k < n) → ∃ i j, i < j ∧ j ≤ n ∧ g i = g j
  | 0, g, h => absurd (h 0 (by omega)) (by omega)
  | n + 1, g, h => by
    by_cases hc : ∃ i, i < n + 1 ∧ g i = g (n + 1)
    · obtain ⟨i, h1, h2⟩ := hc
      exact ⟨i, n + 1, h1, by omega, h2⟩
    · have hc2 : ∀ i, i < n + 1 → g i ≠ g (n + 1) := fun i hi e => hc ⟨i, hi, e⟩
      obtain ⟨i, j, h1, h2, h3⟩ := xh_pig n (fun k => if g k = n then g (n + 1) else g k) (fun k hk => by
        have := h k (by omega); have := h (n + 1) (by omega); have := hc2 k (by omega)
        split <;> omega)
      have a1 := hc2 i (by omega)
      have a2 := hc2 j (by omega)
      refine ⟨i, j, h1, by omega, ?_⟩
      split at h3 <;> split at h3 <;> omega
theorem xh_ret {L : List (Int × Int)} (h : L ≠ []) : ∃ j, 0 < j ∧ j ≤ L.length ∧ xh_c L j = xh_c L 0 := by
  have hg : ∀ k, ∃ i, i < L.length ∧ L[i]? = some (xh_c L k) := fun k => by
    obtain ⟨i, h1, h2⟩ := List.getElem_of_mem (xh_c_ok h k).2
    exact ⟨i, h1, by rw [List.getElem?_eq_getElem h1, h2]⟩
  obtain ⟨i, j, h1, h2, h3⟩ := xh_pig L.length (fun k => Classical.choose (hg k)) (fun k _ => (Classical.choose_spec (hg k)).1)
  have e1 := (Classical.choose_spec (hg i)).2
  have e2 := (Classical.choose_spec (hg j)).2
  rw [h3, e2] at e1
  refine ⟨j - i, by omega, by omega, xh_back h i (j - i) ?_⟩
  rw [show i + (j - i) = j by omega]
  exact (Option.some.inj e1).symm
def xh_k (L : List (Int × Int)) (m : Nat) : Prop := (L = [] ∧ m = 0) ∨ (L ≠ [] ∧ 0 < m ∧ xh_c L m = xh_c L 0 ∧ ∀ j, 0 < j → j < m → xh_c L j ≠ xh_c L 0)
theorem xh_k_ex (L : List (Int × Int)) : ∃ m, m ≤ L.length ∧ xh_k L m := by
  by_cases h : L = []
  · exact ⟨0, by omega, Or.inl ⟨h, rfl⟩⟩
  · obtain ⟨j, h1, h2, h3⟩ := xh_ret h
    have key : ∀ j, 0 < j → j ≤ L.length → xh_c L j = xh_c L 0 → ∃ m, m ≤ L.length ∧ xh_k L m := by
      intro j
      induction j using Nat.strongRecOn with
      | ind j ih =>
        intro h1 h2 h3
        by_cases hc : ∃ i, 0 < i ∧ i < j ∧ xh_c L i = xh_c L 0
        · obtain ⟨i, i1, i2, i3⟩ := hc
          exact ih i i2 i1 (by omega) i3
        · exact ⟨j, h2, Or.inr ⟨h, h1, h3, fun i i1 i2 i3 => hc ⟨i, i1, i2, i3⟩⟩⟩
    exact key j h1 h2 h3
theorem xh_k_un {L : List (Int × Int)} {m k : Nat} (h : xh_k L m) (g : xh_k L k) : m = k := by
  rcases h with ⟨h1, h2⟩ | ⟨h1, h2, h3, h4⟩ <;> rcases g with ⟨g1, g2⟩ | ⟨g1, g2, g3, g4⟩
  · omega
  · exact absurd h1 g1
  · exact absurd g1 h1
  · rcases Nat.lt_trichotomy m k with z | z | z
    · exact absurd h3 (g4 m h2 z)
    · exact z
    · exact absurd g3 (h4 k g2 z)
theorem xh_k_le {L : List (Int × Int)} {m : Nat} (h : xh_k L m) : m ≤ L.length := by
  obtain ⟨k, h1, h2⟩ := xh_k_ex L
  rw [xh_k_un h h2]; exact h1
theorem xh_per {L : List (Int × Int)} {m : Nat} (h : xh_c L m = xh_c L 0) : ∀ k, xh_c L (k + m) = xh_c L k
  | 0 => by rw [Nat.zero_add]; exact h
  | k + 1 => by rw [show k + 1 + m = (k + m) + 1 by omega]; show xh_n L (xh_c L (k + m)) = _; rw [xh_per h k]; rfl
theorem xh_per2 {L : List (Int × Int)} {m : Nat} (h : xh_c L m = xh_c L 0) (k : Nat) : ∀ d, xh_c L (k + d * m) = xh_c L k
  | 0 => by rw [Nat.zero_mul, Nat.add_zero]
  | d + 1 => by rw [show k + (d + 1) * m = (k + d * m) + m by rw [Nat.succ_mul]; omega, xh_per h, xh_per2 h k d]
theorem xh_per3 {L : List (Int × Int)} {m : Nat} (h : xh_c L m = xh_c L 0) (k : Nat) : xh_c L (k % m) = xh_c L k := by
  have e : k % m + k / m * m = k := by rw [Nat.mul_comm]; exact Nat.mod_add_div k m
  have := xh_per2 h (k % m) (k / m)
  rw [e] at this; exact this.symm
theorem xh_mod1 {L : List (Int × Int)} {m : Nat} (h : xh_c L m = xh_c L 0) (k : Nat) : xh_c L ((k % m) + 1) = xh_c L (k + 1) := by
  show xh_n L _ = xh_n L _; rw [xh_per3 h]
theorem xh_A {L : List (Int × Int)} (h : L ≠ []) (k : Nat) (r : Int × Int) (hr : r ∈ L) : 0 ≤ xh_t (xh_c L k) (xh_c L (k + 1)) r := by
  by_cases hc : r = xh_c L k
  · rw [hc]; unfold xh_t; grind
  · rcases xh_next (xh_c_ok h k).1 with ⟨g1, g2⟩ | ⟨g1, g2, g3⟩
    · exact absurd (g2 r hr) hc
    · have := g3 r hr hc
      unfold xh_b at this
      show 0 ≤ xh_t (xh_c L k) (xh_n L (xh_c L k)) r
      omega
theorem xh_B {L : List (Int × Int)} {m : Nat} (h : xh_k L m) (h2 : 2 < m) (k : Nat) : 0 < xh_t (xh_c L (k + 1)) (xh_c L (k + 2)) (xh_c L k) := by
  rcases h with h | ⟨h, _, _, h4⟩
  · omega
  · have n1 : xh_c L k ≠ xh_c L (k + 1) := fun e => h4 1 (by omega) (by omega) (xh_back h k 1 e)
    have n2 : xh_c L (k + 1) ≠ xh_c L (k + 2) := fun e => h4 1 (by omega) (by omega) (xh_back h (k + 1) 1 e)
    have n3 : xh_c L k ≠ xh_c L (k + 2) := fun e => h4 2 (by omega) (by omega) (xh_back h k 2 e)
    rcases xh_next (xh_c_ok h (k + 1)).1 with ⟨g1, g2⟩ | ⟨g1, g2, g3⟩
    · exact absurd (g2 _ (xh_c_ok h k).2) n1
    · rcases g3 _ (xh_c_ok h k).2 n1 with z | ⟨z, z2⟩
      · exact z
      · exact absurd (xh_K (xh_c_ok h (k + 1)).1 (xh_c_ok h k).1 (xh_c_ok h (k + 1)).2 (xh_c_ok h k).2 (xh_c_ok h (k + 2)).2 n1 (Ne.symm n2) (Ne.symm n3) z z2) id
theorem xh_max (v : Nat → Int) : ∀ n : Nat, ∃ k, k ≤ n ∧ ∀ j, j ≤ n → v j ≤ v k
  | 0 => ⟨0, by omega, fun j hj => by rw [show j = 0 by omega]; exact Int.le_refl _⟩
  | n + 1 => by
    obtain ⟨k, h1, h2⟩ := xh_max v n
    by_cases hc : v k ≤ v (n + 1)
    · exact ⟨n + 1, by omega, fun j hj => by
        rcases Nat.lt_or_ge j (n + 1) with z | z
        · have := h2 j (by omega); omega
        · rw [show j = n + 1 by omega]; exact Int.le_refl _⟩
    · exact ⟨k, by omega, fun j hj => by
        rcases Nat.lt_or_ge j (n + 1) with z | z
        · exact h2 j (by omega)
        · rw [show j = n + 1 by omega]; omega⟩
def xh_up (L : List (Int × Int)) (y : Int) (k : Nat) : Prop := (xh_c L k).2 < y ∧ y < (xh_c L (k + 1)).2
def xh_dn (L : List (Int × Int)) (y : Int) (k : Nat) : Prop := y < (xh_c L k).2 ∧ (xh_c L (k + 1)).2 < y
def xh_d (L : List (Int × Int)) (k : Nat) (x y : Int) : Int := xh_t (xh_c L k) (xh_c L (k + 1)) (x, y)
def xh_tc (L : List (Int × Int)) (m : Nat) (y f g : Int) : Prop := (∃ k, k < m ∧ (xh_up L y k ∨ xh_dn L y k)) ∧ ∀ k, k < m → (xh_up L y k → 0 ≤ xh_d L k f y) ∧ (xh_dn L y k → 0 ≤ xh_d L k g y)
def xh_has (L : List (Int × Int)) (m : Nat) (x y : Int) : Prop := m ≠ 0 ∧ ((m = 1 ∧ (xh_c L 0).1 = x ∧ (xh_c L 0).2 = y) ∨ (m ≠ 1 ∧ (∀ k, k < m → 0 ≤ xh_d L k x y) ∧ (2 < m ∨ ((x - (xh_c L 0).1) * (x - (xh_c L 1).1) ≤ 0 ∧ (y - (xh_c L 0).2) * (y - (xh_c L 1).2) ≤ 0))))
def xh_me (a b : Int × Int) (f g y : Int) : Prop := if a.2 = b.2 then a.2 = y ∧ (if a.1 < b.1 then a.1 else b.1) ≤ g ∧ f ≤ (if b.1 < a.1 then a.1 else b.1) else if ((a.2 < y ↔ b.2 < y) ∧ a.2 ≠ y ∧ b.2 ≠ y) then False else if 0 < b.2 - a.2 then f * (b.2 - a.2) ≤ a.1 * (b.2 - a.2) + (b.1 - a.1) * (y - a.2) ∧ a.1 * (b.2 - a.2) + (b.1 - a.1) * (y - a.2) ≤ g * (b.2 - a.2) else a.1 * (b.2 - a.2) + (b.1 - a.1) * (y - a.2) ≤ f * (b.2 - a.2) ∧ g * (b.2 - a.2) ≤ a.1 * (b.2 - a.2) + (b.1 - a.1) * (y - a.2)
def xh_tm (L : List (Int × Int)) (m : Nat) (y f g : Int) : Prop := (m = 1 ∧ (xh_c L 0).2 = y ∧ f ≤ (xh_c L 0).1 ∧ (xh_c L 0).1 ≤ g) ∨ xh_has L m f y ∨ xh_has L m g y ∨ (1 < m ∧ ∃ k, k < m ∧ xh_me (xh_c L k) (xh_c L (k + 1)) f g y)
theorem xh_me_iff {a b : Int × Int} {f g y : Int} (h1 : a.2 ≠ y) (h2 : b.2 ≠ y) : xh_me a b f g y ↔ ((a.2 < y ∧ y < b.2 ∧ 0 ≤ xh_t a b (f, y) ∧ xh_t a b (g, y) ≤ 0) ∨ (y < a.2 ∧ b.2 < y ∧ xh_t a b (f, y) ≤ 0 ∧ 0 ≤ xh_t a b (g, y))) := by
  have e1 : xh_t a b (f, y) = a.1 * (b.2 - a.2) + (b.1 - a.1) * (y - a.2) - f * (b.2 - a.2) := by unfold xh_t; simp only; grind
  have e2 : xh_t a b (g, y) = a.1 * (b.2 - a.2) + (b.1 - a.1) * (y - a.2) - g * (b.2 - a.2) := by unfold xh_t; simp only; grind
  unfold xh_me
  rw [e1, e2]
  generalize a.1 * (b.2 - a.2) + (b.1 - a.1) * (y - a.2) = P
  generalize f * (b.2 - a.2) = F
  generalize g * (b.2 - a.2) = G
  split
  · omega
  · split
    · exact ⟨False.elim, fun q => by omega⟩
    · rename_i n1 n2
      have n3 : ¬ (a.2 < y ↔ b.2 < y) := fun q => n2 ⟨q, h1, h2⟩
      have n4 : (a.2 < y ∧ y < b.2) ∨ (y < a.2 ∧ b.2 < y) := by
        by_cases u : a.2 < y
        · by_cases v : b.2 < y
          · exact absurd ⟨fun _ => v, fun _ => u⟩ n3
          · omega
        · by_cases v : b.2 < y
          · omega
          · exact absurd ⟨fun q => absurd q u, fun q => absurd q v⟩ n3
      clear n2 n3
      split <;> omega
theorem xh_low {L : List (Int × Int)} {m : Nat} (h : xh_k L m) (h2 : 2 < m) {x y : Int} (hd : ∀ k, k < m → 0 ≤ xh_d L k x y) (hy : ∀ k, (xh_c L k).2 ≠ y) : ∃ k, k < m ∧ (xh_up L y k ∨ xh_dn L y k) := by
  have hk := h
  rcases h with h | ⟨h, h3, h4, h5⟩
  · omega
  apply Classical.byContradiction
  intro hn
  have hda : ∀ k, 0 ≤ xh_d L k x y := fun k => by
    have := hd (k % m) (Nat.mod_lt _ h3)
    unfold xh_d at *
    rw [xh_mod1 h4, xh_per3 h4] at this; exact this
  have hs : ∀ k, ((xh_c L k).2 < y ↔ (xh_c L (k + 1)).2 < y) := fun k => by
    have i1 : ¬ (xh_up L y (k % m) ∨ xh_dn L y (k % m)) := fun q => hn ⟨k % m, Nat.mod_lt _ h3, q⟩
    unfold xh_up xh_dn at i1
    rw [xh_mod1 h4, xh_per3 h4] at i1
    have := hy k; have := hy (k + 1)
    omega
  have hall : ∀ k, ((xh_c L 0).2 < y ↔ (xh_c L k).2 < y) := fun k => by
    induction k with
    | zero => exact Iff.rfl
    | succ k ih => exact ih.trans (hs k)
  have pl : ∀ k, (y - (xh_c L (k + 1)).2) * xh_t (xh_c L (k + 1)) (xh_c L (k + 2)) (xh_c L k) = ((xh_c L (k + 2)).2 - (xh_c L (k + 1)).2) * xh_d L k x y + ((xh_c L k).2 - (xh_c L (k + 1)).2) * xh_d L (k + 1) x y := fun k => by
    unfold xh_d xh_t; simp only; grind
  by_cases h0 : (xh_c L 0).2 < y
  · obtain ⟨k, k1, k2⟩ := xh_max (fun j => (xh_c L j).2) m
    have ka : ∀ j, (xh_c L j).2 ≤ (xh_c L (k + m)).2 := fun j => by
      have := k2 (j % m) (by have := Nat.mod_lt j h3; omega)
      rw [xh_per3 h4] at this; rw [xh_per h4]; exact this
    have p1 := pl (k + m - 1)
    have b1 := xh_B hk h2 (k + m - 1)
    rw [show k + m - 1 + 2 = k + m + 1 by omega, show k + m - 1 + 1 = k + m by omega] at p1 b1
    have a1 := (hall (k + m)).mp h0
    have q1 := Int.mul_pos (show 0 < y - (xh_c L (k + m)).2 by omega) b1
    have q2 := Int.mul_nonneg (show 0 ≤ -((xh_c L (k + m + 1)).2 - (xh_c L (k + m)).2) by have := ka (k + m + 1); omega) (hda (k + m - 1))
    have q3 := Int.mul_nonneg (show 0 ≤ -((xh_c L (k + m - 1)).2 - (xh_c L (k + m)).2) by have := ka (k + m - 1); omega) (hda (k + m))
    rw [Int.neg_mul] at q2 q3
    omega
  · obtain ⟨k, k1, k2⟩ := xh_max (fun j => -(xh_c L j).2) m
    have ka : ∀ j, (xh_c L (k + m)).2 ≤ (xh_c L j).2 := fun j => by
      have := k2 (j % m) (by have := Nat.mod_lt j h3; omega)
      rw [xh_per3 h4] at this; rw [xh_per h4]; omega
    have p1 := pl (k + m - 1)
    have b1 := xh_B hk h2 (k + m - 1)
    rw [show k + m - 1 + 2 = k + m + 1 by omega, show k + m - 1 + 1 = k + m by omega] at p1 b1
    have a1 := hall (k + m)
    have a2 := hy (k + m)
    have q1 := Int.mul_pos (show 0 < -(y - (xh_c L (k + m)).2) by omega) b1
    have q2 := Int.mul_nonneg (show 0 ≤ ((xh_c L (k + m + 1)).2 - (xh_c L (k + m)).2) by have := ka (k + m + 1); omega) (hda (k + m - 1))
    have q3 := Int.mul_nonneg (show 0 ≤ ((xh_c L (k + m - 1)).2 - (xh_c L (k + m)).2) by have := ka (k + m - 1); omega) (hda (k + m))
    rw [Int.neg_mul] at q1
    omega
theorem xh_ex_dn {L : List (Int × Int)} {m : Nat} (h3 : 0 < m) (h4 : xh_c L m = xh_c L 0) {y : Int} (hy : ∀ k, (xh_c L k).2 ≠ y) {k : Nat} (hu : xh_up L y k) : ∃ j, j < m ∧ xh_dn L y j := by
  apply Classical.byContradiction
  intro hn
  have hs : ∀ j, y < (xh_c L j).2 → y < (xh_c L (j + 1)).2 := fun j hj => by
    have i1 : ¬ xh_dn L y (j % m) := fun q => hn ⟨j % m, Nat.mod_lt _ h3, q⟩
    unfold xh_dn at i1
    rw [xh_mod1 h4, xh_per3 h4] at i1
    have := hy (j + 1)
    omega
  have ha : ∀ d, y < (xh_c L (k + 1 + d)).2 := fun d => by
    induction d with
    | zero => exact hu.2
    | succ d ih => exact hs _ ih
  have := ha (m - 1)
  rw [show k + 1 + (m - 1) = k + m by omega, xh_per h4] at this
  have := hu.1
  omega
theorem xh_ex_up {L : List (Int × Int)} {m : Nat} (h3 : 0 < m) (h4 : xh_c L m = xh_c L 0) {y : Int} (hy : ∀ k, (xh_c L k).2 ≠ y) {k : Nat} (hu : xh_dn L y k) : ∃ j, j < m ∧ xh_up L y j := by
  apply Classical.byContradiction
  intro hn
  have hs : ∀ j, (xh_c L j).2 < y → (xh_c L (j + 1)).2 < y := fun j hj => by
    have i1 : ¬ xh_up L y (j % m) := fun q => hn ⟨j % m, Nat.mod_lt _ h3, q⟩
    unfold xh_up at i1
    rw [xh_mod1 h4, xh_per3 h4] at i1
    have := hy (j + 1)
    omega
  have ha : ∀ d, (xh_c L (k + 1 + d)).2 < y := fun d => by
    induction d with
    | zero => exact hu.2
    | succ d ih => exact hs _ ih
  have := ha (m - 1)
  rw [show k + 1 + (m - 1) = k + m by omega, xh_per h4] at this
  have := hu.1
  omega
theorem xh_mix {P Q a b c d : Int × Int} {f y : Int} (ha : 0 ≤ xh_t P Q a) (hb : 0 ≤ xh_t P Q b) (hc : 0 ≤ xh_t P Q c) (hd : 0 ≤ xh_t P Q d) (h1 : a.2 < y) (h2 : y < b.2) (h3 : y < c.2) (h4 : d.2 < y) (h5 : 0 < xh_t a b (f, y)) (h6 : 0 < xh_t c d (f, y)) : 0 ≤ xh_t P Q (f, y) := by
  have id : (xh_t a b (f, y) * (c.2 - d.2) + xh_t c d (f, y) * (b.2 - a.2)) * xh_t P Q (f, y) = ((y - a.2) * xh_t P Q b + (b.2 - y) * xh_t P Q a) * xh_t c d (f, y) + ((y - d.2) * xh_t P Q c + (c.2 - y) * xh_t P Q d) * xh_t a b (f, y) := by
    unfold xh_t; simp only; grind
  have p1 := Int.mul_pos h5 (show 0 < c.2 - d.2 by omega)
  have p2 := Int.mul_pos h6 (show 0 < b.2 - a.2 by omega)
  refine xh_nn (Int.add_pos p1 p2) ?_
  rw [id]
  refine Int.add_nonneg (Int.mul_nonneg (Int.add_nonneg ?_ ?_) (by omega)) (Int.mul_nonneg (Int.add_nonneg ?_ ?_) (by omega)) <;> refine Int.mul_nonneg ?_ ?_ <;> omega
theorem xh_same {L : List (Int × Int)} {m : Nat} (hk : xh_k L m) {y f g : Int} (hfg : f ≤ g) (hy : ∀ k, (xh_c L k).2 ≠ y) : xh_tc L m y f g ↔ xh_tm L m y f g := by
  have hkk := hk
  rcases hk with ⟨h, hm⟩ | ⟨h, h3, h4, h5⟩
  · subst hm
    constructor
    · rintro ⟨⟨k, k1, _⟩, _⟩; omega
    · rintro (⟨z, _⟩ | ⟨z, _⟩ | ⟨z, _⟩ | ⟨z, _⟩) <;> omega
  have sl : ∀ k x z, xh_d L k x y = xh_d L k z y + ((xh_c L (k + 1)).2 - (xh_c L k).2) * (z - x) := fun k x z => by unfold xh_d xh_t; simp only; grind
  constructor
  · rintro ⟨⟨k, k1, k2⟩, k3⟩
    obtain ⟨e, e1, e2⟩ : ∃ e, e < m ∧ xh_up L y e := by
      rcases k2 with z | z
      · exact ⟨k, k1, z⟩
      · exact xh_ex_up h3 h4 hy z
    obtain ⟨d, d1, d2⟩ := xh_ex_dn h3 h4 hy e2
    have f1 := (k3 e e1).1 e2
    have f2 := (k3 d d1).2 d2
    have hm1 : 1 < m := by
      rcases Nat.lt_or_ge 1 m with z | z
      · exact z
      · have : m = 1 := by omega
        subst this
        have z0 := xh_per h4 e
        unfold xh_up at e2
        rw [z0] at e2
        omega
    by_cases c1 : xh_d L e g y ≤ 0
    · exact Or.inr (Or.inr (Or.inr ⟨hm1, e, e1, (xh_me_iff (hy _) (hy _)).mpr (Or.inl ⟨e2.1, e2.2, f1, c1⟩)⟩))
    by_cases c2 : xh_d L d f y ≤ 0
    · exact Or.inr (Or.inr (Or.inr ⟨hm1, d, d1, (xh_me_iff (hy _) (hy _)).mpr (Or.inr ⟨d2.1, d2.2, c2, f2⟩)⟩))
    have c3 : 0 < xh_d L e f y := by
      rw [sl e f g]
      have := Int.mul_nonneg (show 0 ≤ (xh_c L (e + 1)).2 - (xh_c L e).2 by have := e2.1; have := e2.2; omega) (show 0 ≤ g - f by omega)
      omega
    have c4 : 0 < xh_d L d f y := by omega
    refine Or.inr (Or.inl ⟨by omega, Or.inr ⟨by omega, fun k _ => ?_, ?_⟩⟩)
    · exact xh_mix (xh_A h k _ (xh_c_ok h e).2) (xh_A h k _ (xh_c_ok h (e + 1)).2) (xh_A h k _ (xh_c_ok h d).2) (xh_A h k _ (xh_c_ok h (d + 1)).2) e2.1 e2.2 d2.1 d2.2 c3 c4
    · rcases Nat.lt_or_ge 2 m with z | z
      · exact Or.inl z
      · exfalso
        have : m = 2 := by omega
        subst this
        have q : xh_c L d = xh_c L (e + 1) ∧ xh_c L (d + 1) = xh_c L e := by
          have z0 : ∀ k, xh_c L (k + 2) = xh_c L k := xh_per h4
          have a1 := e2.1; have a2 := e2.2; have a3 := d2.1; have a4 := d2.2
          have : (d = 0 ∨ d = 1) ∧ (e = 0 ∨ e = 1) := by omega
          rcases this with ⟨u | u, v | v⟩ <;> subst u <;> subst v
          · omega
          · exact ⟨(z0 0).symm, rfl⟩
          · exact ⟨rfl, z0 0⟩
          · omega
        have : xh_d L d f y = - xh_d L e f y := by unfold xh_d; rw [q.1, q.2]; unfold xh_t; simp only; grind
        omega
  · have hh : ∀ x, f ≤ x → x ≤ g → xh_has L m x y → xh_tc L m y f g := by
      rintro x x1 x2 ⟨_, ⟨_, _, z⟩ | ⟨n1, n2, n3⟩⟩
      · exact absurd z (hy 0)
      · refine ⟨?_, fun k hk => ⟨fun u => ?_, fun u => ?_⟩⟩
        · rcases Nat.lt_or_ge 2 m with z | z
          · exact xh_low hkk z n2 hy
          · refine ⟨0, h3, ?_⟩
            have n4 := (n3.resolve_left (by omega)).2
            have y0 := hy 0; have y1 := hy 1
            unfold xh_up xh_dn
            show ((xh_c L 0).2 < y ∧ y < (xh_c L 1).2) ∨ (y < (xh_c L 0).2 ∧ (xh_c L 1).2 < y)
            apply Classical.byContradiction
            intro hn
            have : (y < (xh_c L 0).2 ∧ y < (xh_c L 1).2) ∨ ((xh_c L 0).2 < y ∧ (xh_c L 1).2 < y) := by omega
            rcases this with ⟨u, v⟩ | ⟨u, v⟩
            · have := Int.mul_pos (show 0 < (xh_c L 0).2 - y by omega) (show 0 < (xh_c L 1).2 - y by omega)
              grind
            · have := Int.mul_pos (show 0 < y - (xh_c L 0).2 by omega) (show 0 < y - (xh_c L 1).2 by omega)
              omega
        · rw [sl k f x]
          have := n2 k hk
          have := Int.mul_nonneg (show 0 ≤ (xh_c L (k + 1)).2 - (xh_c L k).2 by have := u.1; have := u.2; omega) (show 0 ≤ x - f by omega)
          omega
        · rw [sl k g x]
          have := n2 k hk
          have := Int.mul_nonneg (show 0 ≤ -((xh_c L (k + 1)).2 - (xh_c L k).2) by have := u.1; have := u.2; omega) (show 0 ≤ -(x - g) by omega)
          rw [Int.neg_mul_neg] at this
          omega
    rintro (⟨_, z, _⟩ | z | z | ⟨z, k, k1, k2⟩)
    · exact absurd z (hy 0)
    · exact hh f (by omega) hfg z
    · exact hh g hfg (by omega) z
    · rw [xh_me_iff (hy _) (hy _)] at k2
      refine ⟨⟨k, k1, ?_⟩, fun j hj => ?_⟩
      · rcases k2 with ⟨u, v, _⟩ | ⟨u, v, _⟩
        · exact Or.inl ⟨u, v⟩
        · exact Or.inr ⟨u, v⟩
      · have pa := xh_A h j _ (xh_c_ok h k).2
        have pb := xh_A h j _ (xh_c_ok h (k + 1)).2
        rcases k2 with ⟨u, v, w1, w2⟩ | ⟨u, v, w1, w2⟩
        · have s1 := Int.mul_nonneg (show 0 ≤ y - (xh_c L k).2 by omega) pb
          have s2 := Int.mul_nonneg (show 0 ≤ (xh_c L (k + 1)).2 - y by omega) pa
          refine ⟨fun q => ?_, fun q => ?_⟩
          · refine xh_nn (a := (xh_c L (k + 1)).2 - (xh_c L k).2) (by omega) ?_
            have s3 := Int.mul_nonneg (show 0 ≤ (xh_c L (j + 1)).2 - (xh_c L j).2 by have := q.1; have := q.2; omega) w1
            have id : ((xh_c L (k + 1)).2 - (xh_c L k).2) * xh_d L j f y = (y - (xh_c L k).2) * xh_t (xh_c L j) (xh_c L (j + 1)) (xh_c L (k + 1)) + ((xh_c L (k + 1)).2 - y) * xh_t (xh_c L j) (xh_c L (j + 1)) (xh_c L k) + ((xh_c L (j + 1)).2 - (xh_c L j).2) * xh_t (xh_c L k) (xh_c L (k + 1)) (f, y) := by
              unfold xh_d xh_t; simp only; grind
            omega
          · refine xh_nn (a := (xh_c L (k + 1)).2 - (xh_c L k).2) (by omega) ?_
            have s3 := Int.mul_nonneg (show 0 ≤ -((xh_c L (j + 1)).2 - (xh_c L j).2) by have := q.1; have := q.2; omega) (show 0 ≤ - xh_t (xh_c L k) (xh_c L (k + 1)) (g, y) by omega)
            rw [Int.neg_mul_neg] at s3
            have id : ((xh_c L (k + 1)).2 - (xh_c L k).2) * xh_d L j g y = (y - (xh_c L k).2) * xh_t (xh_c L j) (xh_c L (j + 1)) (xh_c L (k + 1)) + ((xh_c L (k + 1)).2 - y) * xh_t (xh_c L j) (xh_c L (j + 1)) (xh_c L k) + ((xh_c L (j + 1)).2 - (xh_c L j).2) * xh_t (xh_c L k) (xh_c L (k + 1)) (g, y) := by
              unfold xh_d xh_t; simp only; grind
            omega
        · have s1 := Int.mul_nonneg (show 0 ≤ y - (xh_c L (k + 1)).2 by omega) pa
          have s2 := Int.mul_nonneg (show 0 ≤ (xh_c L k).2 - y by omega) pb
          refine ⟨fun q => ?_, fun q => ?_⟩
          · refine xh_nn (a := (xh_c L k).2 - (xh_c L (k + 1)).2) (by omega) ?_
            have s3 := Int.mul_nonneg (show 0 ≤ (xh_c L (j + 1)).2 - (xh_c L j).2 by have := q.1; have := q.2; omega) (show 0 ≤ - xh_t (xh_c L k) (xh_c L (k + 1)) (f, y) by omega)
            rw [Int.mul_neg] at s3
            have id : ((xh_c L k).2 - (xh_c L (k + 1)).2) * xh_d L j f y = (y - (xh_c L (k + 1)).2) * xh_t (xh_c L j) (xh_c L (j + 1)) (xh_c L k) + ((xh_c L k).2 - y) * xh_t (xh_c L j) (xh_c L (j + 1)) (xh_c L (k + 1)) + -(((xh_c L (j + 1)).2 - (xh_c L j).2) * xh_t (xh_c L k) (xh_c L (k + 1)) (f, y)) := by
              unfold xh_d xh_t; simp only; grind
            omega
          · refine xh_nn (a := (xh_c L k).2 - (xh_c L (k + 1)).2) (by omega) ?_
            have s3 := Int.mul_nonneg (show 0 ≤ -((xh_c L (j + 1)).2 - (xh_c L j).2) by have := q.1; have := q.2; omega) w2
            rw [Int.neg_mul] at s3
            have id : ((xh_c L k).2 - (xh_c L (k + 1)).2) * xh_d L j g y = (y - (xh_c L (k + 1)).2) * xh_t (xh_c L j) (xh_c L (j + 1)) (xh_c L k) + ((xh_c L k).2 - y) * xh_t (xh_c L j) (xh_c L (j + 1)) (xh_c L (k + 1)) + -(((xh_c L (j + 1)).2 - (xh_c L j).2) * xh_t (xh_c L k) (xh_c L (k + 1)) (g, y)) := by
              unfold xh_d xh_t; simp only; grind
            omega
