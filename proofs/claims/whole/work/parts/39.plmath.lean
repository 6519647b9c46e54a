/-! PLANS: what the gaps mean -/
/-- exactly m more sites, from the k-th on, with all gaps within bd from h up to `to` -/
def xE (H : Nat → Int) (N : Nat) (to bd : Int) : Nat → Int → Nat → Prop
  | 0, h, _ => to - h ≤ bd
  | m + 1, h, k => ∃ j, k ≤ j ∧ j < N ∧ H j - h ≤ bd ∧ xE H N to bd m (H j) (j + 1)
theorem xm_le {w : Nat → Int} {s : Nat} {bd : Int} (hb : bd < 1000000) : ∀ d, xm w s d ≤ bd ↔ ∃ j, s ≤ j ∧ j < s + d ∧ w j ≤ bd
  | 0 => by
    simp only [xm]
    exact ⟨fun h => by omega, fun ⟨j, h1, h2, _⟩ => by omega⟩
  | d + 1 => by
    have ih := xm_le (w := w) (s := s) hb d
    simp only [xm, x_mn]
    constructor
    · intro h
      by_cases c : xm w s d ≤ w (s + d)
      · rw [if_pos c] at h
        obtain ⟨j, h1, h2, h3⟩ := ih.mp h
        exact ⟨j, h1, by omega, h3⟩
      · rw [if_neg c] at h
        exact ⟨s + d, by omega, by omega, h⟩
    · rintro ⟨j, h1, h2, h3⟩
      by_cases e : j = s + d
      · subst e
        split <;> omega
      · have := ih.mpr ⟨j, h1, by omega, h3⟩
        split <;> omega
theorem x_mx_le {a b c : Int} : x_mx a b ≤ c ↔ a ≤ c ∧ b ≤ c := by
  unfold x_mx
  split <;> omega
/-- the least greatest gap is within bd just if a choice is -/
theorem xp_E {H : Nat → Int} {N : Nat} {to bd : Int} (hb : bd < 1000000) : ∀ m j, xp_D H N to m j ≤ bd ↔ xE H N to bd m (H j) (j + 1)
  | 0, j => Iff.rfl
  | m + 1, j => by
    simp only [xp_D, xE]
    rw [xm_le hb]
    constructor
    · rintro ⟨i, h1, h2, h3⟩
      rw [x_mx_le, xp_E hb m i] at h3
      exact ⟨i, h1, by omega, h3.1, h3.2⟩
    · rintro ⟨i, h1, h2, h3, h4⟩
      exact ⟨i, h1, by omega, by rw [x_mx_le, xp_E hb m i]; exact ⟨h3, h4⟩⟩
theorem xm_E {H : Nat → Int} {N : Nat} {to bd h : Int} (hb : bd < 1000000) (m k : Nat) : xm (xp_w H N to h m) k (N - k) ≤ bd ↔ xE H N to bd (m + 1) h k := by
  simp only [xE]
  rw [xm_le hb]
  unfold xp_w
  constructor
  · rintro ⟨i, h1, h2, h3⟩
    rw [x_mx_le, xp_E hb m i] at h3
    exact ⟨i, h1, by omega, h3.1, h3.2⟩
  · rintro ⟨i, h1, h2, h3, h4⟩
    exact ⟨i, h1, by omega, by rw [x_mx_le, xp_E hb m i]; exact ⟨h3, h4⟩⟩
/-- a choice needs as many sites -/
theorem xE_room {H : Nat → Int} {N : Nat} {to bd : Int} : ∀ m h k, k ≤ N → xE H N to bd m h k → m ≤ N - k
  | 0, _, _, _, _ => Nat.zero_le _
  | m + 1, h, k, hk, he => by
    obtain ⟨j, h1, h2, _, h4⟩ := he
    have := xE_room m (H j) (j + 1) (by omega) h4
    omega
/-- a higher start, no later, does no harm: what can be done from h can be done from above it -/
theorem xE_up {H : Nat → Int} {N : Nat} {to bd : Int} : ∀ m h h' k, h ≤ h' → xE H N to bd m h k → xE H N to bd m h' k
  | 0, h, h', _, hh, he => by
    simp only [xE] at he ⊢
    omega
  | m + 1, h, h', k, hh, he => by
    obtain ⟨j, h1, h2, h3, h4⟩ := he
    exact ⟨j, h1, h2, by omega, h4⟩
