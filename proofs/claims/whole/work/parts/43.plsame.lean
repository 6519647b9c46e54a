/-! PLANS: both sides choose the same -/
theorem xm_ge {w : Nat → Int} {s : Nat} {z : Int} (hz : z ≤ 1000000) : ∀ d, (∀ j, s ≤ j → j < s + d → z ≤ w j) → z ≤ xm w s d
  | 0, _ => hz
  | d + 1, h => by
    have ih := xm_ge hz d (fun j a b => h j a (by omega))
    have := h (s + d) (by omega) (by omega)
    simp only [xm, x_mn]
    split <;> omega
theorem x_gap_same {H : Nat → Int} {N n bd : Nat} {lo hi : Int} (hlo : ∀ j, j < N → lo ≤ H j) (hn : 1 ≤ n) (hb : bd ≤ 4000) (hE : xE H N hi bd n lo 0) (hmin : ∀ b : Nat, b < bd → ¬ xE H N hi b n lo 0) : xm (xp_w H N hi lo (n - 1)) 0 N = bd := by
  have e : n - 1 + 1 = n := by omega
  have h1 : xm (xp_w H N hi lo (n - 1)) 0 N ≤ bd := by
    have := (xm_E (H := H) (N := N) (to := hi) (bd := (bd : Int)) (h := lo) (by omega) (n - 1) 0).mpr (by rw [e]; exact hE)
    exact this
  have h0 : 0 ≤ xm (xp_w H N hi lo (n - 1)) 0 N := by
    refine xm_ge (by decide) N (fun j _ hj => ?_)
    have := hlo j (by omega)
    unfold xp_w x_mx
    split <;> omega
  by_cases c : xm (xp_w H N hi lo (n - 1)) 0 N = bd
  · exact c
  · exfalso
    have hlt : (xm (xp_w H N hi lo (n - 1)) 0 N).toNat < bd := by omega
    apply hmin _ hlt
    have := (xm_E (H := H) (N := N) (to := hi) (bd := (((xm (xp_w H N hi lo (n - 1)) 0 N).toNat : Nat) : Int)) (h := lo) (by omega) (n - 1) 0).mp (by rw [Int.toNat_of_nonneg h0]; exact Int.le_refl _)
    rwa [e] at this
theorem x_pick_same {H O : Nat → Int} {N n bd : Nat} {lo hi : Int} {p : Nat → Nat} {C : Nat → Int} (hb : bd ≤ 4000) (hP : ∀ j, j < n → xP H N hi bd lo n p j) : ∀ i, i ≤ N → (∀ j, j < (xpk (xp_w H N hi) H O n bd lo C i).1 → p j < i) ∧ ((xpk (xp_w H N hi) H O n bd lo C i).1 < n → i ≤ p (xpk (xp_w H N hi) H O n bd lo C i).1) ∧ (xpk (xp_w H N hi) H O n bd lo C i).2.1 = (if (xpk (xp_w H N hi) H O n bd lo C i).1 = 0 then lo else H (p ((xpk (xp_w H N hi) H O n bd lo C i).1 - 1))) ∧ ∀ j, j < (xpk (xp_w H N hi) H O n bd lo C i).1 → (xpk (xp_w H N hi) H O n bd lo C i).2.2 j = O (p j)
  | 0, _ => ⟨fun j hj => absurd hj (Nat.not_lt_zero j), fun _ => Nat.zero_le _, rfl, fun j hj => absurd hj (Nat.not_lt_zero j)⟩
  | i + 1, hi1 => by
    have ih := x_pick_same (O := O) (C := C) hb hP i (by omega)
    have hle := xpk_le (gw := xp_w H N hi) (H := H) (O := O) (n := n) (gap := (bd : Int)) (lo := lo) (C := C) i
    obtain ⟨X, hX⟩ : ∃ X, xpk (xp_w H N hi) H O n bd lo C i = X := ⟨_, rfl⟩
    have hst : xpk (xp_w H N hi) H O n bd lo C (i + 1) = if X.1 < n ∧ xp_w H N hi X.2.1 (n - 1 - X.1) i ≤ bd then (X.1 + 1, H i, x_up1 X.2.2 X.1 (O i)) else X := by
      subst hX
      rfl
    rw [hst]
    rw [hX] at ih hle
    clear hst hX
    obtain ⟨i1, i2, i3, i4⟩ := ih
    have hw : xp_w H N hi X.2.1 (n - 1 - X.1) i ≤ bd ↔ (H i - X.2.1 ≤ bd ∧ xE H N hi bd (n - 1 - X.1) (H i) (i + 1)) := by
      unfold xp_w
      rw [x_mx_le, xp_E (by omega)]
    by_cases c : X.1 < n
    · obtain ⟨q1, q2, q3, q4⟩ := hP X.1 c
      rw [← i3] at q3 q4
      have hge := i2 c
      by_cases e : i = p X.1
      · rw [if_pos ⟨c, hw.mpr (by rw [e]; exact q3)⟩]
        refine ⟨fun j hj => ?_, fun hc => ?_, ?_, fun j hj => ?_⟩
        · have hj2 : j < X.1 + 1 := hj
          by_cases ej : j = X.1
          · subst ej; omega
          · have := i1 j (by omega); omega
        · have hc2 : X.1 + 1 < n := hc
          have hn := (hP (X.1 + 1) hc2).1
          rw [if_neg (by omega)] at hn
          have e3 : X.1 + 1 - 1 = X.1 := by omega
          rw [e3] at hn
          show i + 1 ≤ p (X.1 + 1)
          omega
        · show H i = if X.1 + 1 = 0 then lo else H (p (X.1 + 1 - 1))
          rw [if_neg (by omega), e]
          rfl
        · have hj2 : j < X.1 + 1 := hj
          show x_up1 X.2.2 X.1 (O i) j = O (p j)
          unfold x_up1
          by_cases ej : j = X.1
          · rw [if_pos ej, ej, e]
          · rw [if_neg ej]; exact i4 j (by omega)
      · have hs : (if X.1 = 0 then 0 else p (X.1 - 1) + 1) ≤ i := by
          split
          · exact Nat.zero_le i
          · have := i1 (X.1 - 1) (by omega); omega
        have hno := q4 i hs (by omega)
        rw [if_neg (fun z => hno (hw.mp z.2))]
        exact ⟨fun j hj => by have := i1 j hj; omega, fun _ => by omega, i3, i4⟩
    · rw [if_neg (fun z => c z.1)]
      exact ⟨fun j hj => by have := i1 j hj; omega, fun z => absurd z c, i3, i4⟩
theorem x_pick_n {H O : Nat → Int} {N n bd : Nat} {lo hi : Int} {p : Nat → Nat} {C : Nat → Int} (hb : bd ≤ 4000) (hP : ∀ j, j < n → xP H N hi bd lo n p j) : (xpk (xp_w H N hi) H O n bd lo C N).1 = n ∧ ∀ j, j < n → (xpk (xp_w H N hi) H O n bd lo C N).2.2 j = O (p j) := by
  have h := x_pick_same (O := O) (C := C) hb hP N (Nat.le_refl N)
  have hle := xpk_le (gw := xp_w H N hi) (H := H) (O := O) (n := n) (gap := (bd : Int)) (lo := lo) (C := C) N
  have e : (xpk (xp_w H N hi) H O n bd lo C N).1 = n := by
    by_cases c : (xpk (xp_w H N hi) H O n bd lo C N).1 < n
    · have a := h.2.1 c
      have b := (hP _ c).2.1
      omega
    · omega
  exact ⟨e, fun j hj => h.2.2.2 j (by omega)⟩
