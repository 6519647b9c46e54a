/-! CLASS AND MODEL: speed, ahead, chord, miss, cloud, unsay -/
theorem c_chg_ne (st : sy_S) (i : Nat) {a : Nat} (h7 : a ≠ 7) (h11 : a ≠ 11) : c_chg st i a = st a := by
  unfold c_chg c_forget
  rw [sy_up_ne _ _ h11, sy_up_ne _ _ h7, sy_up_ne _ _ h7]
theorem c_chg_11 (st : sy_S) (i : Nat) {k : Nat} (h : k ≠ 6) : c_chg st i 11 k = st 11 k := by unfold c_chg c_forget sy_up; simp [h]
theorem c_chg_116 (st : sy_S) (i : Nat) : c_chg st i 11 6 = 0 := by unfold c_chg c_forget sy_up; simp
theorem c_chg_710 (st : sy_S) (i : Nat) : c_chg st i 7 10 = -1 := by unfold c_chg c_forget sy_up; simp
theorem c_chg_73 (st : sy_S) (i : Nat) : c_chg st i 7 3 = (Int32.ofInt (st 7 3) ||| Int32.ofInt (x_pw i)).toInt := by unfold c_chg c_forget sy_up; simp
theorem c_chg_bt (st : sy_S) {i : Nat} (hi : i < 16) {j : Nat} (hj : j < 32) : x_bt (c_chg st i 7 3) j = (x_bt (st 7 3) j || decide (j = i)) := by rw [c_chg_73, x_or_bt hi _ hj]
theorem c_chg_z (st : sy_S) {i : Nat} (hi : i < 16) : c_chg st i 7 3 ≠ 0 := fun q => by
  have := c_chg_bt st hi (j := i) (by omega)
  rw [q, x_z0] at this
  simp at this
theorem c_tell_ne (st : sy_S) (i : Nat) (kd a b c d : Int) {q : Nat} (h : q ≠ sy_nS i) : c_tell st i kd a b c d q = st q := by
  unfold c_tell
  rw [sy_up_ne _ _ h, sy_up_ne _ _ h, sy_up_ne _ _ h, sy_up_ne _ _ h, sy_up_ne _ _ h]
theorem c_tell_at (st : sy_S) (i : Nat) (kd a b c d : Int) (k : Nat) : c_tell st i kd a b c d (sy_nS i) k = if k = 9 then d else if k = 8 then c else if k = 7 then b else if k = 6 then a else if k = 5 then kd else st (sy_nS i) k := by
  unfold c_tell sy_up
  simp
theorem sy_nS_iff {i j : Nat} : sy_nS i = sy_nS j ↔ i = j := by unfold sy_nS; omega
theorem r_tell {ns : Nat} {st t : sy_S} (h : Rel ns st) {i : Nat} (hi : i < ns) {kd a b c d : Int} (hk : 0 ≤ kd ∧ kd ≤ 3) (ha : -1000 ≤ a ∧ a ≤ 1000) (hb : -1000 ≤ b ∧ b ≤ 1000) (hc : -1000 ≤ c ∧ c ≤ 1000) (hd : -1000 ≤ d ∧ d ≤ 1000) (h2 : kd = 2 → a ≤ b)
    (ht : ∀ q, q ≠ 28 → q ≠ 29 → t q = c_chg (c_tell st i kd a b c d) i q) (t28 : ∀ j, t 28 j = if j = i then kd else st 28 j) (t29 : ∀ j k, j ≠ i → k < 4 → t 29 (4 * j + k) = st 29 (4 * j + k)) (t29i : kd = 1 ∨ kd = 2 → t 29 (4 * i) = a ∧ t 29 (4 * i + 1) = b ∧ t 29 (4 * i + 2) = c ∧ t 29 (4 * i + 3) = d) (t29r : ∀ q, -1000 ≤ t 29 q ∧ t 29 q ≤ 1000) : Rel ns t := by
  have hns := h.1.1.1.1.2
  have eN : ∀ q, q ≠ 7 → q ≠ 11 → q ≠ 28 → q ≠ 29 → q ≠ sy_nS i → t q = st q := fun q q1 q2 q3 q4 q5 => by rw [ht q q3 q4, c_chg_ne _ _ q1 q2, c_tell_ne _ _ _ _ _ _ _ q5]
  have eL : ∀ q, q ≠ 7 → q ≠ 11 → q ≠ 28 → q ≠ 29 → q < 37 → t q = st q := fun q q1 q2 q3 q4 q5 => eN q q1 q2 q3 q4 (by unfold sy_nS; omega)
  have eS : ∀ k, t (sy_nS i) k = if k = 9 then d else if k = 8 then c else if k = 7 then b else if k = 6 then a else if k = 5 then kd else st (sy_nS i) k := fun k => by
    rw [ht _ (by unfold sy_nS; omega) (by unfold sy_nS; omega), c_chg_ne _ _ (by unfold sy_nS; omega) (by unfold sy_nS; omega), c_tell_at]
  have eSj : ∀ j, j ≠ i → t (sy_nS j) = st (sy_nS j) := fun j hj => eN _ (by unfold sy_nS; omega) (by unfold sy_nS; omega) (by unfold sy_nS; omega) (by unfold sy_nS; omega) (fun q => hj (sy_nS_iff.mp q))
  have e7 : ∀ k, t 7 k = c_chg (c_tell st i kd a b c d) i 7 k := fun k => by rw [ht 7 (by decide) (by decide)]
  have e11 : ∀ k, t 11 k = c_chg (c_tell st i kd a b c d) i 11 k := fun k => by rw [ht 11 (by decide) (by decide)]
  have T7 : c_tell st i kd a b c d 7 = st 7 := c_tell_ne _ _ _ _ _ _ _ (by unfold sy_nS; omega)
  have T11 : c_tell st i kd a b c d 11 = st 11 := c_tell_ne _ _ _ _ _ _ _ (by unfold sy_nS; omega)
  have hrng := h.1.1.1.2.1
  have hm := h.2.2.2.1.1.2.1
  refine r_upd h (fun q hq => eL q (by omega) (by omega) (by omega) (by omega) (by omega)) (fun k _ => by rw [eL 1 (by omega) (by omega) (by omega) (by omega) (by omega)]) (fun j => ?_) (fun j => eN _ (by unfold sy_nW; omega) (by unfold sy_nW; omega) (by unfold sy_nW; omega) (by unfold sy_nW; omega) (by unfold sy_nW sy_nS; omega)) (fun k hk2 => by rw [e11, c_chg_11 _ _ hk2, T11]) (by rw [e11, c_chg_116]) (by rw [e7, c_chg_710]) (fun k _ => by rw [eL 24 (by omega) (by omega) (by omega) (by omega) (by omega)]) ?_ ?_ (by rw [e7]; exact c_chg_z _ (by omega)) ?_ ⟨?_, ?_⟩ ⟨?_, ?_⟩
  · by_cases e : j = i
    · subst e; rw [eS, eS]; exact ⟨rfl, rfl⟩
    · rw [eSj j e]; exact ⟨rfl, rfl⟩
  · unfold c_rng at *
    rw [eL 1 (by omega) (by omega) (by omega) (by omega) (by omega)]
    refine ⟨hrng.1, fun j => ?_, fun j => ?_, fun j => ?_, fun j => ?_, fun j k k1 k2 => ?_⟩
    · by_cases e : j = i
      · subst e; rw [eS]; exact hrng.2.1 j
      · rw [eSj j e]; exact hrng.2.1 j
    · by_cases e : j = i
      · subst e; rw [eS]; exact hrng.2.2.1 j
      · rw [eSj j e]; exact hrng.2.2.1 j
    · by_cases e : j = i
      · subst e; rw [eS]; exact hrng.2.2.2.1 j
      · rw [eSj j e]; exact hrng.2.2.2.1 j
    · by_cases e : j = i
      · subst e; rw [eS]; exact hk
      · rw [eSj j e]; exact hrng.2.2.2.2.1 j
    · by_cases e : j = i
      · subst e; rw [eS]; (repeat' split) <;> first | assumption | omega
      · rw [eSj j e]; exact hrng.2.2.2.2.2 j k k1 k2
  · intro j hj q
    rw [e7, c_chg_bt _ (by omega) (by omega), T7] at q
    rw [Bool.or_eq_false_iff, decide_eq_false_iff_not] at q
    exact ⟨q.1, fun f => c_ag_of (eL 1 (by omega) (by omega) (by omega) (by omega) (by omega)) (c_fg_of (eL 4 (by omega) (by omega) (by omega) (by omega) (by omega)) (eL 5 (by omega) (by omega) (by omega) (by omega) (by omega)) (eL 6 (by omega) (by omega) (by omega) (by omega) (by omega))) (fun k _ => by rw [eSj j q.2]) f⟩
  · unfold m_rng at *
    rw [eL 24 (by omega) (by omega) (by omega) (by omega) (by omega), eL 25 (by omega) (by omega) (by omega) (by omega) (by omega), eL 26 (by omega) (by omega) (by omega) (by omega) (by omega), eL 27 (by omega) (by omega) (by omega) (by omega) (by omega)]
    refine ⟨hm.1, hm.2.1, hm.2.2.1, hm.2.2.2.1, t29r, fun j => ?_⟩
    rw [t28]; split
    · exact hk
    · exact hm.2.2.2.2.2 j
  · intro j hj
    rw [eL 27 (by omega) (by omega) (by omega) (by omega) (by omega), t28, if_neg (by omega)]
    exact h.2.2.2.1.2.2.1 j hj
  · intro j hj q
    rw [t28] at q
    by_cases e : j = i
    · subst e
      rw [if_pos rfl] at q
      obtain ⟨x1, x2, _⟩ := t29i (Or.inr q)
      rw [x1, x2]; exact h2 q
    · rw [if_neg e] at q
      have x1 := t29 j 0 e (by omega); have x2 := t29 j 1 e (by omega)
      rw [Nat.add_zero] at x1
      rw [x1, x2]
      exact h.2.2.2.1.2.2.2 j hj q
  · rw [eL 1 (by omega) (by omega) (by omega) (by omega) (by omega), eL 24 (by omega) (by omega) (by omega) (by omega) (by omega)]
    exact h.2.2.2.2.1.1
  · intro j hj
    rw [t28, eL 25 (by omega) (by omega) (by omega) (by omega) (by omega), eL 26 (by omega) (by omega) (by omega) (by omega) (by omega), eL 27 (by omega) (by omega) (by omega) (by omega) (by omega)]
    obtain ⟨⟨a0, a1, a4, a5⟩, b1, b2⟩ := h.2.2.2.2.1.2 j hj
    by_cases e : j = i
    · subst e
      rw [if_pos rfl, eS, eS, eS, eS]
      refine ⟨⟨a0, a1, a4, rfl⟩, fun q k hk4 => ?_, fun q k hk4 => ?_⟩
      · obtain ⟨x0, x1, x2, x3⟩ := t29i (Or.inl q)
        rw [eS]
        have : k = 0 ∨ k = 1 ∨ k = 2 ∨ k = 3 := by omega
        rcases this with rfl | rfl | rfl | rfl
        · show _ = t 29 (4 * j); rw [x0]; rfl
        · rw [x1]; rfl
        · rw [x2]; rfl
        · rw [x3]; rfl
      · obtain ⟨x0, x1, _⟩ := t29i (Or.inr q)
        rw [eS]
        have : k = 0 ∨ k = 1 := by omega
        rcases this with rfl | rfl
        · show _ = t 29 (4 * j); rw [x0]; rfl
        · rw [x1]; rfl
    · rw [if_neg e, eSj j e]
      exact ⟨⟨a0, a1, a4, a5⟩, fun q k hk4 => by rw [t29 j k e hk4]; exact b1 q k hk4, fun q k hk4 => by rw [t29 j k e (by omega)]; exact b2 q k hk4⟩
theorem r_tell2 {ns : Nat} {st : sy_S} (h : Rel ns st) {i : Nat} (hi : i < ns) {kd a b c d : Int} (hk : 0 ≤ kd ∧ kd ≤ 3) (ha : -1000 ≤ a ∧ a ≤ 1000) (hb : -1000 ≤ b ∧ b ≤ 1000) (hc : -1000 ≤ c ∧ c ≤ 1000) (hd : -1000 ≤ d ∧ d ≤ 1000) (h2 : kd = 2 → a ≤ b) : Rel ns (m_tell (c_chg (c_tell st i kd a b c d) i) i kd a b c d) := by
  have e28 : c_chg (c_tell st i kd a b c d) i 28 = st 28 := by rw [c_chg_ne _ _ (by decide) (by decide), c_tell_ne _ _ _ _ _ _ _ (by unfold sy_nS; omega)]
  have e29 : c_chg (c_tell st i kd a b c d) i 29 = st 29 := by rw [c_chg_ne _ _ (by decide) (by decide), c_tell_ne _ _ _ _ _ _ _ (by unfold sy_nS; omega)]
  have f29 : ∀ q, m_tell (c_chg (c_tell st i kd a b c d) i) i kd a b c d 29 q = if q = 4 * i + 3 then d else if q = 4 * i + 2 then c else if q = 4 * i + 1 then b else if q = 4 * i then a else st 29 q := fun q => by
    rw [← e29]
    unfold m_tell sy_up
    simp
  refine r_tell h hi hk ha hb hc hd h2 (fun q q1 q2 => ?_) (fun j => ?_) (fun j k hj hk4 => ?_) (fun _ => ?_) (fun q => ?_)
  · unfold m_tell
    rw [sy_up_ne _ _ q2, sy_up_ne _ _ q2, sy_up_ne _ _ q2, sy_up_ne _ _ q2, sy_up_ne _ _ q1]
  · rw [← e28]
    unfold m_tell sy_up
    simp
  · rw [f29, if_neg (by omega), if_neg (by omega), if_neg (by omega), if_neg (by omega)]
  · rw [f29, f29, f29, f29]
    refine ⟨?_, ?_, ?_, ?_⟩
    · rw [if_neg (by omega), if_neg (by omega), if_neg (by omega), if_pos rfl]
    · rw [if_neg (by omega), if_neg (by omega), if_pos rfl]
    · rw [if_neg (by omega), if_pos rfl]
    · rw [if_pos rfl]
  · rw [f29]
    have := h.2.2.2.1.1.2.1.2.2.2.2.1 q
    (repeat' split) <;> assumption
theorem r_mok {ns : Nat} {st : sy_S} (h : Rel ns st) {i : Nat} {kd a b c d : Int} : m_ok ns (c_chg (c_tell st i kd a b c d) i) := by
  have l : ∀ q, q ≠ 7 → q ≠ 11 → q < 37 → c_chg (c_tell st i kd a b c d) i q = st q := fun q q1 q2 q3 => by rw [c_chg_ne _ _ q1 q2, c_tell_ne _ _ _ _ _ _ _ (by unfold sy_nS; omega)]
  have k := h.2.2.2.1.1
  unfold m_ok m_site m_rng m_net m_F m_B m_N at *
  rw [l 24 (by decide) (by decide) (by decide), l 25 (by decide) (by decide) (by decide), l 26 (by decide) (by decide) (by decide), l 27 (by decide) (by decide) (by decide), l 28 (by decide) (by decide) (by decide), l 29 (by decide) (by decide) (by decide), l 30 (by decide) (by decide) (by decide)]
  exact k
theorem pr_chord {ns : Nat} {st : sy_S} (h : Rel ns st) (i a b c d : Int) : r_pair ns st sp_8_chord sp_9_chord [.inl (true, i), .inl (true, a), .inl (true, b), .inl (true, c), .inl (true, d)] := by
  refine ⟨rfl, h.1.1.1.1, fun q => ?_, fun q => ?_⟩
  · refine ⟨rfl, r_mok h, ?_⟩
    simp only [if_pos q]
    exact ⟨trivial, r_tell2 h (by omega) (by omega) (by omega) (by omega) (by omega) (by omega) (fun z => by omega)⟩
  · refine ⟨rfl, h.2.2.2.1.1, ?_⟩
    simp only [if_neg q]
    exact ⟨trivial, h⟩
theorem pr_miss {ns : Nat} {st : sy_S} (h : Rel ns st) (i a b : Int) : r_pair ns st sp_8_miss sp_9_miss [.inl (true, i), .inl (true, a), .inl (true, b)] := by
  refine ⟨rfl, h.1.1.1.1, fun q => ?_, fun q => ?_⟩
  · refine ⟨rfl, r_mok h, ?_⟩
    simp only [if_pos q]
    exact ⟨trivial, r_tell2 h (by omega) (by omega) (by omega) (by omega) (by omega) (by omega) (fun z => by omega)⟩
  · refine ⟨rfl, h.2.2.2.1.1, ?_⟩
    simp only [if_neg q]
    exact ⟨trivial, h⟩
theorem pr_cloud {ns : Nat} {st : sy_S} (h : Rel ns st) (i : Int) : r_pair ns st sp_8_cloud sp_9_cloud [.inl (true, i)] := by
  refine ⟨rfl, h.1.1.1.1, fun q => ?_, fun q => ?_⟩
  · refine ⟨rfl, r_mok h, ?_⟩
    simp only [if_pos q]
    exact ⟨trivial, r_tell2 h (by omega) (by omega) (by omega) (by omega) (by omega) (by omega) (fun z => by omega)⟩
  · refine ⟨rfl, h.2.2.2.1.1, ?_⟩
    simp only [if_neg q]
    exact ⟨trivial, h⟩
theorem pr_unsay {ns : Nat} {st : sy_S} (h : Rel ns st) (i : Int) : r_pair ns st sp_8_unsay sp_9_unsay [.inl (true, i)] := by
  refine ⟨rfl, h.1.1.1.1, fun q => ?_, fun q => ?_⟩
  · have e28 : c_chg (c_tell st i.toNat 0 0 0 0 0) i.toNat 28 = st 28 := by rw [c_chg_ne _ _ (by decide) (by decide), c_tell_ne _ _ _ _ _ _ _ (by unfold sy_nS; omega)]
    have e29 : c_chg (c_tell st i.toNat 0 0 0 0 0) i.toNat 29 = st 29 := by rw [c_chg_ne _ _ (by decide) (by decide), c_tell_ne _ _ _ _ _ _ _ (by unfold sy_nS; omega)]
    have hn : st 28 i.toNat ≠ 0 := by rw [← (h.2.2.2.2.1.2 i.toNat (by omega)).1.2.2.2]; exact q.2
    refine ⟨rfl, r_mok h, ?_⟩
    rw [e28]
    simp only [if_pos (show (0 ≤ i ∧ i < ns) ∧ st 28 i.toNat ≠ 0 from ⟨q.1, hn⟩)]
    refine ⟨trivial, r_tell h (i := i.toNat) (by omega) (kd := 0) (a := 0) (b := 0) (c := 0) (d := 0) (by omega) (by omega) (by omega) (by omega) (by omega) (fun z => by omega) (fun q q1 q2 => by rw [sy_up_ne _ _ q1]) (fun j => ?_) (fun j k hj hk4 => by rw [sy_up_ne _ _ (by decide), e29]) (fun z => by omega) (fun z => by rw [sy_up_ne _ _ (by decide), e29]; exact h.2.2.2.1.1.2.1.2.2.2.2.1 z)⟩
    rw [← e28]
    unfold sy_up
    simp
  · refine ⟨rfl, h.2.2.2.1.1, ?_⟩
    have q2 : ¬ ((0 ≤ i ∧ i < ns) ∧ st 28 i.toNat ≠ 0) := fun z => q ⟨z.1, by rw [(h.2.2.2.2.1.2 i.toNat (by omega)).1.2.2.2]; exact z.2⟩
    simp only [if_neg q2]
    exact ⟨trivial, h⟩
