/-! PLANS: the band is in order -/
theorem xi_above {H : Nat → Int} {y : Int} : ∀ n j, xi_pos H y n ≤ j → j < n → y < H j
  | 0, j, _, h => by omega
  | n + 1, j, h1, h2 => by
    simp only [xi_pos] at h1
    by_cases c : H n ≤ y
    · rw [if_pos c] at h1; omega
    · rw [if_neg c] at h1
      by_cases e : j = n
      · subst e; omega
      · exact xi_above n j h1 (by omega)
theorem xi_below {H : Nat → Int} {y : Int} : ∀ n, 0 < xi_pos H y n → H (xi_pos H y n - 1) ≤ y
  | 0, h => by simp [xi_pos] at h
  | n + 1, h => by
    simp only [xi_pos] at h ⊢
    by_cases c : H n ≤ y
    · rw [if_pos c]; exact c
    · rw [if_neg c] at h ⊢
      exact xi_below n h
/-- every site of the band is one of the first s, and its height is in the band -/
theorem xq_in {ys : Nat → Int} {lo hi : Int} {O : Nat → Int} : ∀ s j, j < (xq ys lo hi O s).2 → (0 ≤ (xq ys lo hi O s).1 j ∧ (xq ys lo hi O s).1 j < s) ∧ lo ≤ ys ((xq ys lo hi O s).1 j).toNat ∧ ys ((xq ys lo hi O s).1 j).toNat ≤ hi
  | 0, j, h => by simp [xq] at h
  | s + 1, j, h => by
    have ih := xq_in (ys := ys) (lo := lo) (hi := hi) (O := O) s
    simp only [xq] at h ⊢
    by_cases c : lo ≤ ys s ∧ ys s ≤ hi
    · rw [if_pos c] at h ⊢
      have hp := xi_le (fun j => ys ((xq ys lo hi O s).1 j).toNat) (ys s) (xq ys lo hi O s).2
      show (0 ≤ x_ins _ _ _ _ j ∧ x_ins _ _ _ _ j < _) ∧ lo ≤ ys (x_ins _ _ _ _ j).toNat ∧ ys (x_ins _ _ _ _ j).toNat ≤ hi
      have hj : j < (xq ys lo hi O s).2 + 1 := h
      unfold x_ins
      by_cases e : j = xi_pos (fun j => ys ((xq ys lo hi O s).1 j).toNat) (ys s) (xq ys lo hi O s).2
      · rw [if_pos e, Int.toNat_natCast]
        exact ⟨by omega, c⟩
      · rw [if_neg e]
        by_cases c2 : xi_pos (fun j => ys ((xq ys lo hi O s).1 j).toNat) (ys s) (xq ys lo hi O s).2 < j ∧ j ≤ (xq ys lo hi O s).2
        · rw [if_pos c2]
          have := ih (j - 1) (by omega)
          exact ⟨by omega, this.2⟩
        · rw [if_neg c2]
          have := ih j (by omega)
          exact ⟨by omega, this.2⟩
    · rw [if_neg c] at h ⊢
      have := ih j h
      exact ⟨by omega, this.2⟩
/-- put in its place, a value keeps the order -/
theorem x_ins_mono {H : Nat → Int} {y : Int} {n : Nat} (hm : ∀ i j, i ≤ j → j < n → H i ≤ H j) : ∀ i j, i ≤ j → j < n + 1 → x_ins H (xi_pos H y n) n y i ≤ x_ins H (xi_pos H y n) n y j := fun i j hij hj => by
  have hp := xi_le H y n
  have hab := xi_above (H := H) (y := y) n
  have hbe := xi_below (H := H) (y := y) n
  generalize xi_pos H y n = p at *
  have hlow : ∀ i, i < p → H i ≤ y := fun i hi => by
    have a := hbe (by omega)
    have b := hm i (p - 1) (by omega) (by omega)
    omega
  unfold x_ins
  by_cases e1 : i = p
  · rw [if_pos e1]
    by_cases e2 : j = p
    · rw [if_pos e2]; omega
    · rw [if_neg e2, if_pos (by omega)]
      have := hab (j - 1) (by omega) (by omega)
      omega
  · rw [if_neg e1]
    by_cases e2 : j = p
    · rw [if_pos e2, if_neg (by omega)]
      exact hlow i (by omega)
    · rw [if_neg e2]
      by_cases c1 : p < i ∧ i ≤ n
      · rw [if_pos c1, if_pos (by omega)]
        exact hm (i - 1) (j - 1) (by omega) (by omega)
      · rw [if_neg c1]
        by_cases c2 : p < j ∧ j ≤ n
        · rw [if_pos c2]
          exact hm i (j - 1) (by omega) (by omega)
        · rw [if_neg c2]
          exact hm i j hij (by omega)
theorem xq_mono {ys : Nat → Int} {lo hi : Int} {O : Nat → Int} : ∀ s i j, i ≤ j → j < (xq ys lo hi O s).2 → ys ((xq ys lo hi O s).1 i).toNat ≤ ys ((xq ys lo hi O s).1 j).toNat
  | 0, i, j, _, h => by simp [xq] at h
  | s + 1, i, j, hij, h => by
    have ih := xq_mono (ys := ys) (lo := lo) (hi := hi) (O := O) s
    simp only [xq] at h ⊢
    by_cases c : lo ≤ ys s ∧ ys s ≤ hi
    · rw [if_pos c] at h ⊢
      have hp := xi_le (fun j => ys ((xq ys lo hi O s).1 j).toNat) (ys s) (xq ys lo hi O s).2
      have hj : j < (xq ys lo hi O s).2 + 1 := h
      have a := x_ins_h (ys := ys) (O := (xq ys lo hi O s).1) (h := fun j => ys ((xq ys lo hi O s).1 j).toNat) (s := s) hp (fun _ _ => rfl)
      show ys (x_ins _ _ _ _ i).toNat ≤ ys (x_ins _ _ _ _ j).toNat
      rw [← a i (by omega), ← a j hj]
      exact x_ins_mono ih i j hij hj
    · rw [if_neg c] at h ⊢
      exact ih i j hij h
