/-! PLANS: always the highest site within the bound -/
/-- one site more does no harm, if there is one -/
theorem xE_pad {H : Nat → Int} {N : Nat} {to bd : Int} (hm : ∀ i j, i ≤ j → j < N → H i ≤ H j) (ht : ∀ j, j < N → H j ≤ to) : ∀ m h k, (∀ j, k ≤ j → j < N → h ≤ H j) → k + m + 1 ≤ N → xE H N to bd m h k → xE H N to bd (m + 1) h k
  | 0, h, k, hk, hr, he => by
    simp only [xE] at he
    have h1 := hk k (by omega) (by omega)
    have h2 := ht k (by omega)
    exact ⟨k, by omega, by omega, by omega, by simp only [xE]; omega⟩
  | m + 1, h, k, hk, hr, he => by
    obtain ⟨j, h1, h2, h3, h4⟩ := he
    have hroom := xE_room m (H j) (j + 1) (by omega) h4
    by_cases c : j + 1 + m + 1 ≤ N
    · exact ⟨j, h1, h2, h3, xE_pad hm ht m (H j) (j + 1) (fun i hi hn => hm j i (by omega) hn) c h4⟩
    · have hkj : k < j := by omega
      have a := hm k j (by omega) h2
      have b := hk k (by omega) (by omega)
      exact ⟨k, by omega, by omega, by omega, j, by omega, h2, by omega, h4⟩
theorem xE_pads {H : Nat → Int} {N : Nat} {to bd : Int} (hm : ∀ i j, i ≤ j → j < N → H i ≤ H j) (ht : ∀ j, j < N → H j ≤ to) {h : Int} {k : Nat} (hk : ∀ j, k ≤ j → j < N → h ≤ H j) {m : Nat} : ∀ d, k + m + d ≤ N → xE H N to bd m h k → xE H N to bd (m + d) h k
  | 0, _, he => he
  | d + 1, hr, he => xE_pad hm ht (m + d) h k hk (by omega) (xE_pads hm ht hk d (by omega) he)
/-- sites below the height are not needed -/
theorem xE_skip {H : Nat → Int} {N : Nat} {to bd : Int} {p : Nat} {h : Int} (hp : ∀ i, i < p → i < N → H i ≤ h) : ∀ m k, xE H N to bd m h k → ∃ m', m' ≤ m ∧ xE H N to bd m' h p
  | 0, k, he => ⟨0, Nat.le_refl 0, he⟩
  | m + 1, k, he => by
    obtain ⟨j, h1, h2, h3, h4⟩ := he
    by_cases c : p ≤ j
    · exact ⟨m + 1, Nat.le_refl _, j, c, h2, h3, h4⟩
    · obtain ⟨m', a, b⟩ := xE_skip hp m (j + 1) (xE_up m (H j) h (j + 1) (hp j (by omega) h2) h4)
      exact ⟨m', by omega, b⟩
theorem xa_in {H : Nat → Int} {bd a : Int} : ∀ d i j, i ≤ j → j < xa H bd a d i → H j - a ≤ bd
  | 0, i, j, h1, h2 => by simp only [xa] at h2; omega
  | d + 1, i, j, h1, h2 => by
    simp only [xa] at h2
    by_cases c : H i - a ≤ bd
    · rw [if_pos c] at h2
      by_cases e : j = i
      · subst e; exact c
      · exact xa_in d (i + 1) j (by omega) h2
    · rw [if_neg c] at h2; omega
theorem xa_out {H : Nat → Int} {bd a : Int} : ∀ d i, xa H bd a d i < i + d → ¬ H (xa H bd a d i) - a ≤ bd
  | 0, i, h => by simp only [xa] at h; omega
  | d + 1, i, h => by
    simp only [xa] at h ⊢
    by_cases c : H i - a ≤ bd
    · rw [if_pos c] at h ⊢
      exact xa_out d (i + 1) (by omega)
    · rw [if_neg c]; exact c
/-- what is found is a choice -/
theorem xgr_E {H : Nat → Int} {N : Nat} {to bd : Int} : ∀ f h k u, k ≤ N → xgr H N to bd f h k = some u → xE H N to bd u h k
  | 0, _, _, _, _, he => by simp [xgr] at he
  | f + 1, h, k, u, hk, he => by
    simp only [xgr] at he
    by_cases c : to - h ≤ bd
    · rw [if_pos c] at he
      have e : u = 0 := by simpa using he.symm
      subst e
      exact c
    · rw [if_neg c] at he
      have hx := xa_ge H bd h (N - k) k
      by_cases c2 : xa H bd h (N - k) k = k
      · rw [if_pos c2] at he; simp at he
      · rw [if_neg c2] at he
        obtain ⟨v, hv, e⟩ := Option.map_eq_some_iff.mp he
        subst e
        have ih := xgr_E f _ _ v (by omega) hv
        refine ⟨xa H bd h (N - k) k - 1, by omega, by omega, xa_in (N - k) k _ (by omega) (by omega), ?_⟩
        have e2 : xa H bd h (N - k) k - 1 + 1 = xa H bd h (N - k) k := by omega
        rw [e2]
        exact ih
/-- no choice is shorter -/
theorem xgr_min {H : Nat → Int} {N : Nat} {to bd : Int} (hm : ∀ i j, i ≤ j → j < N → H i ≤ H j) : ∀ f h k m, k ≤ N → N + 1 - k ≤ f → xE H N to bd m h k → ∃ u, u ≤ m ∧ xgr H N to bd f h k = some u
  | 0, _, k, _, hk, hf, _ => by omega
  | f + 1, h, k, m, hk, hf, he => by
    simp only [xgr]
    by_cases c : to - h ≤ bd
    · rw [if_pos c]
      exact ⟨0, Nat.zero_le m, rfl⟩
    · rw [if_neg c]
      cases m with
      | zero => exact absurd he c
      | succ m =>
        obtain ⟨j, h1, h2, h3, h4⟩ := he
        have hx := xa_ge H bd h (N - k) k
        have hjp : j < xa H bd h (N - k) k := by
          apply Nat.lt_of_not_le
          intro hle
          have ho := xa_out (H := H) (bd := bd) (a := h) (N - k) k (by omega)
          have := hm _ j hle h2
          omega
        rw [if_neg (by omega)]
        have hup := xE_up m (H j) (H (xa H bd h (N - k) k - 1)) (j + 1) (hm j _ (by omega) (by omega)) h4
        obtain ⟨m', a, b⟩ := xE_skip (p := xa H bd h (N - k) k) (fun i hi hn => hm i _ (by omega) (by omega)) m (j + 1) hup
        obtain ⟨u, q1, q2⟩ := xgr_min hm f _ _ m' (by omega) (by omega) b
        rw [q2]
        exact ⟨u + 1, by omega, rfl⟩
/-- the model's can says whether there is a choice -/
theorem xcn_E {H : Nat → Int} {N : Nat} {to bd : Int} (hm : ∀ i j, i ≤ j → j < N → H i ≤ H j) (ht : ∀ j, j < N → H j ≤ to) {h : Int} {k left : Nat} (hN : k ≤ N) (hk : ∀ j, k ≤ j → j < N → h ≤ H j) : (xcn (xgr H N to bd (N + 1 - k) h k) 0 left ((N : Int) - k) = 1 ↔ xE H N to bd left h k) ∧ (xcn (xgr H N to bd (N + 1 - k) h k) 0 left ((N : Int) - k) = 0 ↔ ¬ xE H N to bd left h k) := by
  have key : (xcn (xgr H N to bd (N + 1 - k) h k) 0 left ((N : Int) - k) = 1 ∧ xE H N to bd left h k) ∨ (xcn (xgr H N to bd (N + 1 - k) h k) 0 left ((N : Int) - k) = 0 ∧ ¬ xE H N to bd left h k) := by
    by_cases he : xE H N to bd left h k
    · left
      obtain ⟨u, q1, q2⟩ := xgr_min hm (N + 1 - k) h k left hN (Nat.le_refl _) he
      have hr := xE_room left h k hN he
      rw [q2]
      refine ⟨?_, he⟩
      show (if (0 : Int) + (u : Int) ≤ left ∧ (left : Int) ≤ (N : Int) - k then (1 : Int) else 0) = 1
      rw [if_pos (by omega)]
    · right
      refine ⟨?_, he⟩
      cases ho : xgr H N to bd (N + 1 - k) h k with
      | none => rfl
      | some u =>
        show (if (0 : Int) + (u : Int) ≤ left ∧ (left : Int) ≤ (N : Int) - k then (1 : Int) else 0) = 0
        rw [if_neg]
        intro q
        apply he
        have hE := xgr_E _ h k u hN ho
        have := xE_pads hm ht hk (m := u) (left - u) (by omega) hE
        rwa [show u + (left - u) = left by omega] at this
  rcases key with ⟨a, b⟩ | ⟨a, b⟩
  · exact ⟨⟨fun _ => b, fun _ => a⟩, ⟨fun z => by omega, fun z => absurd b z⟩⟩
  · exact ⟨⟨fun z => by omega, fun z => absurd z b⟩, ⟨fun _ => b, fun _ => a⟩⟩
