/-! CLASS AND MODEL: speed, ahead, net -/
theorem pr_speed {ns : Nat} {st : sy_S} (h : Rel ns st) (v : Int) : r_pair ns st sp_8_speed sp_9_speed [.inl (true, v)] := by
  refine ⟨rfl, fun c => ?_, fun c => ?_⟩
  · have l0 : ∀ a, a ≠ 1 → a ≠ 7 → a ≠ 11 → sy_up (sy_up (sy_up (sy_up st 1 2 v) 7 3 (-1)) 7 10 (-1)) 11 6 0 a = st a := fun a a1 a2 a3 => by rw [sy_up_ne _ _ a3, sy_up_ne _ _ a2, sy_up_ne _ _ a2, sy_up_ne _ _ a1]
    have e1 : ∀ k, sy_up (sy_up (sy_up (sy_up st 1 2 v) 7 3 (-1)) 7 10 (-1)) 11 6 0 1 k = if k = 2 then v else st 1 k := fun k => by unfold sy_up; simp
    have e73 : sy_up (sy_up (sy_up (sy_up st 1 2 v) 7 3 (-1)) 7 10 (-1)) 11 6 0 7 3 = -1 := by unfold sy_up; simp
    have e710 : sy_up (sy_up (sy_up (sy_up st 1 2 v) 7 3 (-1)) 7 10 (-1)) 11 6 0 7 10 = -1 := by unfold sy_up; simp
    have e11 : ∀ k, k ≠ 6 → sy_up (sy_up (sy_up (sy_up st 1 2 v) 7 3 (-1)) 7 10 (-1)) 11 6 0 11 k = st 11 k := fun k hk => by unfold sy_up; simp [hk]
    have e116 : sy_up (sy_up (sy_up (sy_up st 1 2 v) 7 3 (-1)) 7 10 (-1)) 11 6 0 11 6 = 0 := by unfold sy_up; simp
    generalize sy_up (sy_up (sy_up (sy_up st 1 2 v) 7 3 (-1)) 7 10 (-1)) 11 6 0 = X at *
    have l24 := l0 24 (by decide) (by decide) (by decide)
    refine ⟨rfl, ?_, ?_⟩
    · have k := h.2.2.2.1.1
      unfold m_ok m_site m_rng m_net m_F m_B m_N at *
      rw [l24, l0 25 (by decide) (by decide) (by decide), l0 26 (by decide) (by decide) (by decide), l0 27 (by decide) (by decide) (by decide), l0 28 (by decide) (by decide) (by decide), l0 29 (by decide) (by decide) (by decide), l0 30 (by decide) (by decide) (by decide)]
      exact k
    · simp only [if_pos c]
      refine ⟨by rw [l24, h.2.2.2.2.1.1], ?_⟩
      have l : ∀ a, a ≠ 1 → a ≠ 7 → a ≠ 11 → a ≠ 24 → sy_up X 24 0 v a = st a := fun a a1 a2 a3 a4 => by rw [sy_up_ne _ _ a4]; exact l0 a a1 a2 a3
      have m24 : ∀ k, sy_up X 24 0 v 24 k = if k = 0 then v else st 24 k := fun k => by rw [← l24]; unfold sy_up; simp
      have x1 : sy_up X 24 0 v 1 = X 1 := sy_up_ne _ _ (by decide)
      have x7 : sy_up X 24 0 v 7 = X 7 := sy_up_ne _ _ (by decide)
      have x11 : sy_up X 24 0 v 11 = X 11 := sy_up_ne _ _ (by decide)
      generalize sy_up X 24 0 v = t at *
      have lS := fun i => l (sy_nS i) (by unfold sy_nS; omega) (by unfold sy_nS; omega) (by unfold sy_nS; omega) (by unfold sy_nS; omega)
      have lW := fun i => l (sy_nW i) (by unfold sy_nW; omega) (by unfold sy_nW; omega) (by unfold sy_nW; omega) (by unfold sy_nW; omega)
      have hrng := h.1.1.1.2.1
      have hm := h.2.2.2.1.1.2.1
      refine r_upd h (fun a ha => l a (by omega) (by omega) (by omega) (by omega)) (fun k hk => by rw [x1, e1, if_neg hk]) (fun i => by rw [lS i]; exact ⟨rfl, rfl⟩) lW (fun k hk => by rw [x11, e11 k hk]) (by rw [x11, e116]) (by rw [x7, e710]) (fun k hk => by rw [m24, if_neg hk]) ?_ (fun j hj q => ?_) (by rw [x7, e73]; decide) ?_ ?_ ⟨?_, fun i hi => ?_⟩
      · unfold c_rng at *
        rw [x1, e1, if_pos rfl]
        refine ⟨c, fun j => ?_, fun j => ?_, fun j => ?_, fun j => ?_, fun j k k1 k2 => ?_⟩
        · rw [lS j]; exact hrng.2.1 j
        · rw [lS j]; exact hrng.2.2.1 j
        · rw [lS j]; exact hrng.2.2.2.1 j
        · rw [lS j]; exact hrng.2.2.2.2.1 j
        · rw [lS j]; exact hrng.2.2.2.2.2 j k k1 k2
      · rw [x7, e73, x_m1 j (by have := h.1.1.1.1.2; omega)] at q
        cases q
      · unfold m_rng at *
        rw [m24, if_pos rfl, l 25 (by decide) (by decide) (by decide) (by decide), l 26 (by decide) (by decide) (by decide) (by decide), l 27 (by decide) (by decide) (by decide) (by decide), l 28 (by decide) (by decide) (by decide) (by decide), l 29 (by decide) (by decide) (by decide) (by decide)]
        exact ⟨c, hm.2⟩
      · rw [l 27 (by decide) (by decide) (by decide) (by decide), l 28 (by decide) (by decide) (by decide) (by decide), l 29 (by decide) (by decide) (by decide) (by decide)]
        exact h.2.2.2.1.2.2
      · rw [x1, e1, if_pos rfl, m24, if_pos rfl]
      · rw [lS i, l 25 (by decide) (by decide) (by decide) (by decide), l 26 (by decide) (by decide) (by decide) (by decide), l 27 (by decide) (by decide) (by decide) (by decide), l 28 (by decide) (by decide) (by decide) (by decide), l 29 (by decide) (by decide) (by decide) (by decide)]
        exact h.2.2.2.2.1.2 i hi
  · refine ⟨rfl, h.2.2.2.1.1, ?_⟩
    simp only [if_neg c]
    exact ⟨trivial, h⟩
theorem pr_ahead {ns : Nat} {st : sy_S} (h : Rel ns st) (i v : Int) : r_pair ns st sp_8_ahead sp_9_ahead [.inl (true, i), .inl (true, v)] := by
  have hns := h.1.1.1.1.2
  refine ⟨rfl, h.1.1.1.1, fun c => ?_, fun c => ?_⟩
  · have hi : i.toNat < ns := by omega
    obtain ⟨n, hn⟩ : ∃ n, i.toNat = n := ⟨_, rfl⟩
    rw [hn] at hi ⊢
    have l0 : ∀ a, a ≠ 7 → a ≠ 11 → a ≠ sy_nS n → c_chg (sy_up st (sy_nS n) 4 v) n a = st a := fun a a1 a2 a3 => by rw [c_chg_ne _ _ a1 a2, sy_up_ne _ _ a3]
    have eS : ∀ k, c_chg (sy_up st (sy_nS n) 4 v) n (sy_nS n) k = if k = 4 then v else st (sy_nS n) k := fun k => by
      rw [c_chg_ne _ _ (by unfold sy_nS; omega) (by unfold sy_nS; omega)]
      unfold sy_up; simp
    have U7 : sy_up st (sy_nS n) 4 v 7 = st 7 := sy_up_ne _ _ (by unfold sy_nS; omega)
    have U11 : sy_up st (sy_nS n) 4 v 11 = st 11 := sy_up_ne _ _ (by unfold sy_nS; omega)
    have b7 : ∀ j, j < 32 → x_bt (c_chg (sy_up st (sy_nS n) 4 v) n 7 3) j = (x_bt (st 7 3) j || decide (j = n)) := fun j hj => by rw [c_chg_bt _ (by omega) hj, U7]
    have z7 := c_chg_z (sy_up st (sy_nS n) 4 v) (i := n) (by omega)
    have e710 := c_chg_710 (sy_up st (sy_nS n) 4 v) n
    have e116 := c_chg_116 (sy_up st (sy_nS n) 4 v) n
    have e11 : ∀ k, k ≠ 6 → c_chg (sy_up st (sy_nS n) 4 v) n 11 k = st 11 k := fun k hk => by rw [c_chg_11 _ _ hk, U11]
    generalize c_chg (sy_up st (sy_nS n) 4 v) n = X at *
    have lq := fun (a : Nat) (ha : a < 37) (a1 : a ≠ 7) (a2 : a ≠ 11) => l0 a a1 a2 (by unfold sy_nS; omega)
    refine ⟨rfl, ?_, ?_⟩
    · have k := h.2.2.2.1.1
      unfold m_ok m_site m_rng m_net m_F m_B m_N at *
      rw [lq 24 (by decide) (by decide) (by decide), lq 25 (by decide) (by decide) (by decide), lq 26 (by decide) (by decide) (by decide), lq 27 (by decide) (by decide) (by decide), lq 28 (by decide) (by decide) (by decide), lq 29 (by decide) (by decide) (by decide), lq 30 (by decide) (by decide) (by decide)]
      exact k
    · simp only [if_pos c, hn]
      obtain ⟨⟨a0, a1, a4, a5⟩, b1, b2⟩ := h.2.2.2.2.1.2 n hi
      refine ⟨by rw [lq 27 (by decide) (by decide) (by decide), a4], ?_⟩
      have l : ∀ a, a ≠ 7 → a ≠ 11 → a ≠ 27 → a ≠ sy_nS n → sy_up X 27 n v a = st a := fun a q1 q2 q3 q4 => by rw [sy_up_ne _ _ q3]; exact l0 a q1 q2 q4
      have le := fun (a : Nat) (ha : a < 37) (q1 : a ≠ 7) (q2 : a ≠ 11) (q3 : a ≠ 27) => l a q1 q2 q3 (by unfold sy_nS; omega)
      have m27 : ∀ k, sy_up X 27 n v 27 k = if k = n then v else st 27 k := fun k => by rw [← lq 27 (by decide) (by decide) (by decide)]; unfold sy_up; simp
      have xS : sy_up X 27 n v (sy_nS n) = X (sy_nS n) := sy_up_ne _ _ (by unfold sy_nS; omega)
      have x7 : sy_up X 27 n v 7 = X 7 := sy_up_ne _ _ (by decide)
      have x11 : sy_up X 27 n v 11 = X 11 := sy_up_ne _ _ (by decide)
      generalize sy_up X 27 n v = t at *
      have lSj : ∀ j, j ≠ n → t (sy_nS j) = st (sy_nS j) := fun j hj => l _ (by unfold sy_nS; omega) (by unfold sy_nS; omega) (by unfold sy_nS; omega) (fun q => hj (sy_nS_iff.mp q))
      have lW := fun i => l (sy_nW i) (by unfold sy_nW; omega) (by unfold sy_nW; omega) (by unfold sy_nW; omega) (by unfold sy_nW sy_nS; omega)
      have hrng := h.1.1.1.2.1
      have hm := h.2.2.2.1.1.2.1
      refine r_upd h (fun a ha => le a (by omega) (by omega) (by omega) (by omega)) (fun k hk => by rw [le 1 (by decide) (by decide) (by decide) (by decide)]) (fun j => ?_) lW (fun k hk => by rw [x11, e11 k hk]) (by rw [x11, e116]) (by rw [x7, e710]) (fun k hk => by rw [le 24 (by decide) (by decide) (by decide) (by decide)]) ?_ (fun j hj q => ?_) (by rw [x7]; exact z7) ?_ ?_ ⟨?_, fun j hj => ?_⟩
      · by_cases e : j = n
        · subst e; rw [xS, eS, eS]; exact ⟨rfl, rfl⟩
        · rw [lSj j e]; exact ⟨rfl, rfl⟩
      · unfold c_rng at *
        rw [le 1 (by decide) (by decide) (by decide) (by decide)]
        refine ⟨hrng.1, fun j => ?_, fun j => ?_, fun j => ?_, fun j => ?_, fun j k k1 k2 => ?_⟩
        · by_cases e : j = n
          · subst e; rw [xS, eS]; exact hrng.2.1 j
          · rw [lSj j e]; exact hrng.2.1 j
        · by_cases e : j = n
          · subst e; rw [xS, eS]; exact hrng.2.2.1 j
          · rw [lSj j e]; exact hrng.2.2.1 j
        · by_cases e : j = n
          · subst e; rw [xS, eS]; exact c.2
          · rw [lSj j e]; exact hrng.2.2.2.1 j
        · by_cases e : j = n
          · subst e; rw [xS, eS]; exact hrng.2.2.2.2.1 j
          · rw [lSj j e]; exact hrng.2.2.2.2.1 j
        · by_cases e : j = n
          · subst e; rw [xS, eS, if_neg (by omega)]; exact hrng.2.2.2.2.2 j k k1 k2
          · rw [lSj j e]; exact hrng.2.2.2.2.2 j k k1 k2
      · rw [x7, b7 j (by omega), Bool.or_eq_false_iff, decide_eq_false_iff_not] at q
        exact ⟨q.1, fun f => c_ag_of (le 1 (by decide) (by decide) (by decide) (by decide)) (c_fg_of (le 4 (by decide) (by decide) (by decide) (by decide)) (le 5 (by decide) (by decide) (by decide) (by decide)) (le 6 (by decide) (by decide) (by decide) (by decide))) (fun k _ => by rw [lSj j q.2]) f⟩
      · unfold m_rng at *
        rw [le 24 (by decide) (by decide) (by decide) (by decide), le 25 (by decide) (by decide) (by decide) (by decide), le 26 (by decide) (by decide) (by decide) (by decide), le 28 (by decide) (by decide) (by decide) (by decide), le 29 (by decide) (by decide) (by decide) (by decide)]
        refine ⟨hm.1, hm.2.1, hm.2.2.1, fun j => ?_, hm.2.2.2.2⟩
        rw [m27]; split
        · exact c.2
        · exact hm.2.2.2.1 j
      · rw [le 28 (by decide) (by decide) (by decide) (by decide), le 29 (by decide) (by decide) (by decide) (by decide)]
        refine ⟨fun j hj => ?_, h.2.2.2.1.2.2.2⟩
        rw [m27, if_neg (by omega)]
        exact h.2.2.2.1.2.2.1 j hj
      · rw [le 1 (by decide) (by decide) (by decide) (by decide), le 24 (by decide) (by decide) (by decide) (by decide)]
        exact h.2.2.2.2.1.1
      · rw [le 25 (by decide) (by decide) (by decide) (by decide), le 26 (by decide) (by decide) (by decide) (by decide), le 28 (by decide) (by decide) (by decide) (by decide), le 29 (by decide) (by decide) (by decide) (by decide), m27]
        by_cases e : j = n
        · subst e
          rw [if_pos rfl, xS, eS, eS, eS, eS]
          exact ⟨⟨a0, a1, rfl, a5⟩, fun q k hk => by rw [eS, if_neg (by omega)]; exact b1 q k hk, fun q k hk => by rw [eS, if_neg (by omega)]; exact b2 q k hk⟩
        · rw [if_neg e, lSj j e]
          exact h.2.2.2.2.1.2 j hj
  · refine ⟨rfl, h.2.2.2.1.1, ?_⟩
    simp only [if_neg c]
    exact ⟨trivial, h⟩
