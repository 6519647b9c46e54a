/-! MATHEMATICS: the points of the sites, with doubles and without -/
theorem xh_s_dup (p b r : Int × Int) : xh_s p (xh_s p b r) r = xh_s p b r := by
  unfold xh_s
  by_cases h : r ≠ p ∧ (b = p ∨ xh_t p b r < 0 ∨ (xh_t p b r = 0 ∧ xh_q p b < xh_q p r))
  · rw [if_pos h]; split <;> rfl
  · rw [if_neg h, if_neg h]
theorem xh_l_dup (b r : Int × Int) : xh_l (xh_l b r) r = xh_l b r := by
  unfold xh_l
  by_cases h : r.2 < b.2 ∨ (r.2 = b.2 ∧ r.1 < b.1)
  · rw [if_pos h]; split <;> rfl
  · rw [if_neg h, if_neg h]
def xh_one (b c y : Int) : List (Int × Int) := if b = c then [(b, y)] else [(b, y), (c, y)]
def xh_pc (ch : Nat → Bool) (b c y : Nat → Int) : Nat → List (Int × Int)
  | 0 => []
  | i + 1 => xh_pc ch b c y i ++ (if ch i = true then xh_one (b i) (c i) (y i) else [])
def xh_pm (ch : Nat → Bool) (b c y : Nat → Int) : Nat → List (Int × Int)
  | 0 => []
  | i + 1 => xh_pm ch b c y i ++ (if ch i = true then [(b i, y i), (c i, y i)] else [])
theorem xh_fold_same {α : Type} (g : α → Int × Int → α) (hg : ∀ b r, g (g b r) r = g b r) (s : α) (ch : Nat → Bool) (b c y : Nat → Int) : ∀ n, (xh_pc ch b c y n).foldl g s = (xh_pm ch b c y n).foldl g s
  | 0 => rfl
  | n + 1 => by
    simp only [xh_pc, xh_pm, List.foldl_append, xh_fold_same g hg s ch b c y n]
    split
    · unfold xh_one
      split
      · rename_i e
        simp only [List.foldl_cons, List.foldl_nil, ← e, hg]
      · rfl
    · rfl
theorem xh_head_same (ch : Nat → Bool) (b c y : Nat → Int) : ∀ n, (xh_pc ch b c y n).head? = (xh_pm ch b c y n).head?
  | 0 => rfl
  | n + 1 => by
    simp only [xh_pc, xh_pm, List.head?_append, xh_head_same ch b c y n]
    split
    · unfold xh_one; split <;> rfl
    · rfl
theorem xh_c_same (ch : Nat → Bool) (b c y : Nat → Int) (n : Nat) : ∀ k, xh_c (xh_pc ch b c y n) k = xh_c (xh_pm ch b c y n) k
  | 0 => by
    show xh_0 _ = xh_0 _
    unfold xh_0
    rw [xh_fold_same xh_l xh_l_dup, List.headD_eq_head?_getD, List.headD_eq_head?_getD, xh_head_same]
  | k + 1 => by
    show xh_n _ _ = xh_n _ _
    unfold xh_n
    rw [xh_c_same ch b c y n k, xh_fold_same _ (xh_s_dup _)]
theorem xh_nil_same (ch : Nat → Bool) (b c y : Nat → Int) (n : Nat) : xh_pc ch b c y n = [] ↔ xh_pm ch b c y n = [] := by
  rw [← List.head?_eq_none_iff, ← List.head?_eq_none_iff, xh_head_same]
theorem xh_k_same (ch : Nat → Bool) (b c y : Nat → Int) (n m : Nat) : xh_k (xh_pc ch b c y n) m ↔ xh_k (xh_pm ch b c y n) m := by
  unfold xh_k
  simp only [xh_c_same, ne_eq, xh_nil_same]
theorem xh_pc_len (ch : Nat → Bool) (b c y : Nat → Int) : ∀ n, (xh_pc ch b c y n).length ≤ 2 * n
  | 0 => Nat.le_refl 0
  | n + 1 => by
    have := xh_pc_len ch b c y n
    simp only [xh_pc, List.length_append]
    split
    · unfold xh_one; split <;> simp <;> omega
    · simp; omega
theorem xh_pm_len (ch : Nat → Bool) (b c y : Nat → Int) : ∀ n, (xh_pm ch b c y n).length ≤ 2 * n
  | 0 => Nat.le_refl 0
  | n + 1 => by
    have := xh_pm_len ch b c y n
    simp only [xh_pm, List.length_append]
    split
    · simp; omega
    · simp; omega
theorem xh_pc_mem {ch : Nat → Bool} {b c y : Nat → Int} {r : Int × Int} : ∀ n, r ∈ xh_pc ch b c y n → ∃ i, i < n ∧ ch i = true ∧ r.2 = y i ∧ (r.1 = b i ∨ r.1 = c i)
  | 0, h => by simp [xh_pc] at h
  | n + 1, h => by
    simp only [xh_pc] at h
    rcases List.mem_append.mp h with z | z
    · obtain ⟨i, h1, h2⟩ := xh_pc_mem n z
      exact ⟨i, by omega, h2⟩
    · split at z
      · rename_i hc
        refine ⟨n, by omega, hc, ?_⟩
        unfold xh_one at z
        split at z
        · rw [List.mem_singleton] at z; subst z; exact ⟨rfl, Or.inl rfl⟩
        · rcases List.mem_cons.mp z with z | z
          · subst z; exact ⟨rfl, Or.inl rfl⟩
          · rw [List.mem_singleton] at z; subst z; exact ⟨rfl, Or.inr rfl⟩
      · simp at z
theorem xh_pc_nodup {ch : Nat → Bool} {b c y : Nat → Int} : ∀ n, (∀ i j, i < n → j < n → y i = y j → i = j) → (xh_pc ch b c y n).Nodup
  | 0, _ => List.nodup_nil
  | n + 1, h => by
    simp only [xh_pc]
    rw [List.nodup_append]
    refine ⟨xh_pc_nodup n (fun i j hi hj => h i j (by omega) (by omega)), ?_, fun r hr s hs e => ?_⟩
    · split
      · unfold xh_one
        split
        · simp
        · rename_i e; simp [e]
      · simp
    · obtain ⟨i, h1, _, h2, _⟩ := xh_pc_mem n hr
      subst e
      have : r.2 = y n := by
        split at hs
        · unfold xh_one at hs
          split at hs
          · rw [List.mem_singleton] at hs; rw [hs]
          · rcases List.mem_cons.mp hs with z | z
            · rw [z]
            · rw [List.mem_singleton] at z; rw [z]
        · simp at hs
      have := h i n (by omega) (by omega) (by omega)
      omega
theorem xh_idx {P : Nat → Int × Int} {N i j : Nat} (h : ((List.range N).map P).Nodup) (hi : i < N) (hj : j < N) (e : P i = P j) : i = j := by
  have := (List.getElem_inj (h₀ := by simpa using hi) (h₁ := by simpa using hj) h).mp (by simpa using e)
  exact this
theorem xh_rs (P : Nat → Int × Int) (n : Nat) : (List.range (n + 1)).map P = (List.range n).map P ++ [P n] := by
  rw [List.range_succ, List.map_append]; rfl
