/-! CLASS AND MODEL: net -/
theorem c_fw_ne (st : sy_S) {a : Nat} (h : ∀ i, a ≠ sy_nS i) : ∀ n, c_fw st n a = st a
  | 0 => rfl
  | n + 1 => by
    show sy_up (c_fw st n) (sy_nS n) 3 0 a = st a
    rw [sy_up_ne _ _ (h n), c_fw_ne st h n]
theorem c_fw_at (st : sy_S) (i k : Nat) : ∀ n, c_fw st n (sy_nS i) k = if i < n ∧ k = 3 then 0 else st (sy_nS i) k
  | 0 => by rw [if_neg (by omega)]; rfl
  | n + 1 => by
    show sy_up (c_fw st n) (sy_nS n) 3 0 (sy_nS i) k = _
    by_cases e : i = n
    · subst e
      by_cases hk : k = 3
      · subst hk; rw [if_pos (by omega)]; unfold sy_up; simp
      · rw [if_neg (by omega)]
        have : sy_up (c_fw st i) (sy_nS i) 3 0 (sy_nS i) k = c_fw st i (sy_nS i) k := by unfold sy_up; simp [hk]
        rw [this, c_fw_at st i k i, if_neg (by omega)]
    · rw [sy_up_ne _ _ (fun q => e (sy_nS_iff.mp q)), c_fw_at st i k n]
      by_cases hc : i < n ∧ k = 3
      · rw [if_pos hc, if_pos (by omega)]
      · rw [if_neg hc, if_neg (by omega)]
def x_set (F : Nat → Int) (r : Nat) (v : Int) : Nat → Int := fun q => if q = r then v else F q
theorem xg_net_set {F B N : Nat → Int} (h : xg_net F B N) {r f b n : Int} (hk : x_netk r f b n) : xg_net (x_set F r.toNat f) (x_set B r.toNat b) (x_set N r.toNat n) := by
  obtain ⟨h1, h2, h3, h4, h5⟩ := h
  obtain ⟨k1, k2, k3, k4, k5, k6⟩ := hk
  unfold xg_net x_set
  refine ⟨fun q => ?_, ?_, ?_, ?_, ?_⟩
  · have := h1 q
    by_cases e : q = r.toNat
    · rw [if_pos e, if_pos e]; omega
    · rw [if_neg e, if_neg e]; exact this
  · by_cases e : 0 = r.toNat
    · rw [if_pos e]; exact k4 (by omega)
    · rw [if_neg e]; exact h2
  · by_cases e : 1 = r.toNat
    · rw [if_pos e]; exact k5 (by omega)
    · rw [if_neg e]; exact h3
  · by_cases e : 2 = r.toNat
    · rw [if_pos e, if_pos e, if_pos e]; exact k6 (by omega)
    · rw [if_neg e, if_neg e, if_neg e]; exact h4
  · by_cases e : 3 = r.toNat
    · rw [if_pos e, if_pos e, if_pos e]; exact k6 (by omega)
    · rw [if_neg e, if_neg e, if_neg e]; exact h5
theorem c_put_4 (st : sy_S) (r : Nat) (f b n : Int) (q : Nat) : c_put st r f b n 4 q = (if q = r then f else st 4 q) ∧ c_put st r f b n 5 q = (if q = r then b else st 5 q) ∧ c_put st r f b n 6 q = (if q = r then n else st 6 q) := by
  unfold c_put c_put0
  refine ⟨?_, ?_, ?_⟩ <;> (rw [sy_up_ne _ _ (by decide), sy_up_ne _ _ (by decide)]; unfold sy_up; simp)
theorem c_put_ne (st : sy_S) (r : Nat) (f b n : Int) {a : Nat} (h3 : a ≠ 3) (h4 : a ≠ 4) (h5 : a ≠ 5) (h6 : a ≠ 6) : c_put st r f b n a = st a := by
  unfold c_put c_put0
  rw [sy_up_ne _ _ h3, sy_up_ne _ _ h3, sy_up_ne _ _ h6, sy_up_ne _ _ h5, sy_up_ne _ _ h4]
theorem c_put_FBN (st X : sy_S) {r : Nat} (hr : r < 4) (f b n : Int) (e4 : X 4 = c_put st r f b n 4) (e5 : X 5 = c_put st r f b n 5) (e6 : X 6 = c_put st r f b n 6) : c_F X = x_set (c_F st) r f ∧ c_B X = x_set (c_B st) r b ∧ c_N X = x_set (c_N st) r n := by
  refine ⟨?_, ?_, ?_⟩ <;> funext q
  · unfold c_F x_set; rw [e4, (c_put_4 st r f b n q).1]
  · show (if q < 4 then X 5 q else 1) = if q = r then b else (if q < 4 then st 5 q else 1)
    rw [e5, (c_put_4 st r f b n q).2.1]
    by_cases h : q < 4
    · rw [if_pos h, if_pos h]
    · rw [if_neg h, if_neg h, if_neg (by omega)]
  · show (if q < 4 then X 6 q else 1) = if q = r then n else (if q < 4 then st 6 q else 1)
    rw [e6, (c_put_4 st r f b n q).2.2]
    by_cases h : q < 4
    · rw [if_pos h, if_pos h]
    · rw [if_neg h, if_neg h, if_neg (by omega)]
theorem r_net {ns : Nat} {st X : sy_S} (h : Rel ns st) {r f b n : Int} (hk : x_netk r f b n) (l : ∀ a, a ≠ 3 → a ≠ 4 → a ≠ 5 → a ≠ 6 → a ≠ 7 → (∀ i, a ≠ sy_nS i) → X a = st a) (lc : ∀ a, a = 3 ∨ a = 4 ∨ a = 5 ∨ a = 6 → X a = c_put st r.toNat f b n a) (l73 : X 7 3 = -1) (l710 : X 7 10 = -1) (lS : ∀ i k, k ≠ 3 → X (sy_nS i) k = st (sy_nS i) k) (lS3 : ∀ i, i < ns → (r ≠ 0 → X (sy_nS i) 3 = 0) ∧ (r = 0 → X (sy_nS i) 3 = st (sy_nS i) 3)) : Rel ns (m_put X r.toNat f b n) := by
  have hns := h.1.1.1.1.2
  have hr4 : r.toNat < 4 := by have := hk.1; omega
  have lW : ∀ i, X (sy_nW i) = st (sy_nW i) := fun i => l _ (by unfold sy_nW; omega) (by unfold sy_nW; omega) (by unfold sy_nW; omega) (by unfold sy_nW; omega) (by unfold sy_nW; omega) (fun j => by unfold sy_nW sy_nS; omega)
  have le := fun (a : Nat) (ha : a < 37) (a3 : a ≠ 3) (a4 : a ≠ 4) (a5 : a ≠ 5) (a6 : a ≠ 6) (a7 : a ≠ 7) => l a a3 a4 a5 a6 a7 (fun i => by unfold sy_nS; omega)
  obtain ⟨eF, eB, eN⟩ := c_put_FBN st X hr4 f b n (lc 4 (by omega)) (lc 5 (by omega)) (lc 6 (by omega))
  obtain ⟨pF, pB, pN⟩ := c_put_FBN st (c_put0 st r.toNat f b n) hr4 f b n (by unfold c_put; rw [sy_up_ne _ _ (by decide), sy_up_ne _ _ (by decide)]) (by unfold c_put; rw [sy_up_ne _ _ (by decide), sy_up_ne _ _ (by decide)]) (by unfold c_put; rw [sy_up_ne _ _ (by decide), sy_up_ne _ _ (by decide)])
  have hn0 := h.1.1.1.2.2.1
  have e33 : X 3 3 = x_set (c_N st) r.toNat n 1 * x_set (c_N st) r.toNat n 2 * x_set (c_N st) r.toNat n 3 := by
    rw [lc 3 (by omega), ← pN]; unfold c_put; unfold sy_up; simp
  have e34 : X 3 4 = x_set (c_N st) r.toNat n 0 * X 3 3 := by
    rw [e33, lc 3 (by omega), ← pN]; unfold c_put; unfold sy_up; simp
  have cn : c_net X := by
    unfold c_net
    rw [eF, eB, eN]
    exact ⟨xg_net_set hn0.1 hk, e33, e34⟩
  have cw : ∀ i, i < ns → c_wk X i := fun i hi q => by
    by_cases r0 : r = 0
    · have := h.1.1.1.2.2.2 i hi (by rw [← (lS3 i hi).2 r0]; exact q)
      subst r0
      have eNk : ∀ k, 1 ≤ k → x_set (c_N st) (0 : Int).toNat n k = c_N st k := fun k hk1 => by unfold x_set; rw [if_neg (by simp; omega)]
      intro s hs
      rw [e33, eNk 1 (by omega), eNk 2 (by omega), eNk 3 (by omega), ← hn0.2.1] at hs
      have efg : ∀ w, 1 ≤ w → w ≤ 3 → c_fg X s w = c_fg st s w := fun w w1 w3 => by
        unfold c_fg xg_f
        rw [eF, eB, eN]
        have : ∀ G : Nat → Int, ∀ v, x_set G (0 : Int).toNat v w = G w := fun G v => by unfold x_set; rw [if_neg (by simp; omega)]
        rw [this, this, this]
        have hx : xg_k (x_set (c_N st) (0 : Int).toNat n) s w = xg_k (c_N st) s w := by
          have : w = 1 ∨ w = 2 ∨ w = 3 := by omega
          rcases this with rfl | rfl | rfl
          · show (s : Int) / x_set (c_N st) (0 : Int).toNat n 3 / x_set (c_N st) (0 : Int).toNat n 2 = _
            rw [eNk 2 (by omega), eNk 3 (by omega)]; rfl
          · show (s : Int) / x_set (c_N st) (0 : Int).toNat n 3 = _
            rw [eNk 3 (by omega)]; rfl
          · rfl
        rw [hx]
      rw [efg 1 (by omega) (by omega), efg 2 (by omega) (by omega), efg 3 (by omega) (by omega), lS i 0 (by decide), lW i]
      exact this s hs
    · exact absurd ((lS3 i hi).1 r0) q
  have e8 := le 8 (by decide) (by decide) (by decide) (by decide) (by decide) (by decide)
  have l1 := le 1 (by decide) (by decide) (by decide) (by decide) (by decide) (by decide)
  have cs : c_sv ns X := ⟨⟨by unfold c_site; rw [l1]; exact h.1.1.1.1, c_rng_of2 l1 lS h.1.1.1.2.1, cn, cw⟩, fun f i a b => by rw [e8]; exact h.1.1.2.1 f i a b, fun f i _ hi q => (by rw [l73, x_m1 i (by omega)] at q; exact absurd q (by decide)), fun q => (by rw [l73] at q; omega)⟩
  have hm : ∀ a, a ≠ 30 → m_put X r.toNat f b n a = X a := fun a ha => by unfold m_put; rw [sy_up_ne _ _ ha, sy_up_ne _ _ ha, sy_up_ne _ _ ha]
  have m30 : ∀ q, q < 4 → m_put X r.toNat f b n 30 (3 * q) = (if q = r.toNat then f else st 30 (3 * q)) ∧ m_put X r.toNat f b n 30 (3 * q + 1) = (if q = r.toNat then b else st 30 (3 * q + 1)) ∧ m_put X r.toNat f b n 30 (3 * q + 2) = (if q = r.toNat then n else st 30 (3 * q + 2)) := fun q hq => by
    have e30 := le 30 (by decide) (by decide) (by decide) (by decide) (by decide) (by decide)
    unfold m_put sy_up
    simp only [and_true, true_and, if_true]
    rw [e30]
    refine ⟨?_, ?_, ?_⟩
    · by_cases e : q = r.toNat
      · rw [if_neg (by omega), if_neg (by omega), if_pos (by omega), if_pos e]
      · rw [if_neg (by omega), if_neg (by omega), if_neg (by omega), if_neg e]
    · by_cases e : q = r.toNat
      · rw [if_neg (by omega), if_pos (by omega), if_pos e]
      · rw [if_neg (by omega), if_neg (by omega), if_neg (by omega), if_neg e]
    · by_cases e : q = r.toNat
      · rw [if_pos (by omega), if_pos e]
      · rw [if_neg (by omega), if_neg (by omega), if_neg (by omega), if_neg e]
  generalize m_put X r.toNat f b n = t at *
  have hT : r_TN t := fun q hq => by
    obtain ⟨t1, t2, t3⟩ := h.2.2.2.2.2.1 q hq
    obtain ⟨c1, c2, c3⟩ := c_put_4 st r.toNat f b n q
    obtain ⟨d1, d2, d3⟩ := m30 q hq
    rw [hm 4 (by decide), hm 5 (by decide), hm 6 (by decide), lc 4 (by omega), lc 5 (by omega), lc 6 (by omega), c1, c2, c3, d1, d2, d3, t1, t2, t3]
    exact ⟨rfl, rfl, rfl⟩
  have mn : m_net t := by
    have e : m_F t = x_set (m_F t) r.toNat (m_F t r.toNat) := by funext q; unfold x_set; split <;> simp_all
    have hF : ∀ w, w < 4 → m_F t w = c_F t w ∧ m_B t w = c_B t w ∧ m_N t w = c_N t w := fun w hw => by
      obtain ⟨a, b, c⟩ := r_FBN hT hw
      exact ⟨a.symm, b.symm, c.symm⟩
    have hc : xg_net (c_F t) (c_B t) (c_N t) := (by
      have := (c_net_of (st := X) (st' := t) (hm 3 (by decide)) (hm 4 (by decide)) (hm 5 (by decide)) (hm 6 (by decide)))
      rw [this.1, this.2.1, this.2.2.1]; exact cn.1)
    unfold m_net
    obtain ⟨h1, h2, h3, h4, h5⟩ := hc
    refine ⟨fun w => ?_, ?_, ?_, ?_, ?_⟩
    · by_cases hw : w < 4
      · rw [(hF w hw).2.1, (hF w hw).2.2]; exact h1 w
      · unfold m_B m_N; rw [if_neg hw, if_neg hw]; omega
    · rw [(hF 0 (by omega)).1]; exact h2
    · rw [(hF 1 (by omega)).1]; exact h3
    · rw [(hF 2 (by omega)).1, (hF 2 (by omega)).2.1, (hF 2 (by omega)).2.2]; exact h4
    · rw [(hF 3 (by omega)).1, (hF 3 (by omega)).2.1, (hF 3 (by omega)).2.2]; exact h5
  have tS := fun i => hm (sy_nS i) (by unfold sy_nS; omega)
  have tW := fun i => hm (sy_nW i) (by unfold sy_nW; omega)
  have hl := fun (a : Nat) (ha : a < 37) (a3 : a ≠ 3) (a4 : a ≠ 4) (a5 : a ≠ 5) (a6 : a ≠ 6) (a7 : a ≠ 7) (a30 : a ≠ 30) => (hm a a30).trans (le a ha a3 a4 a5 a6 a7)
  have C1 : r_CS ns t := by
    refine r_CS_of2 (hm 1 (by decide)) (hm 3 (by decide)) (hm 4 (by decide)) (hm 5 (by decide)) (hm 6 (by decide)) (fun i k _ => by rw [tS i]) (hm 8 (by decide)) (fun k _ _ _ => by rw [hm 7 (by decide)]) (hm 9 (by decide)) (fun i hi => c_wk_of (hm 3 (by decide)) (c_fg_of (hm 4 (by decide)) (hm 5 (by decide)) (hm 6 (by decide))) (by rw [tS i]) (by rw [tS i]) (tW i) (cw i hi)) ⟨cs, Or.inl l710⟩
  have C2 : r_CH ns t := r_CH_of2 (hl 1 (by decide) (by decide) (by decide) (by decide) (by decide) (by decide) (by decide)) (fun i k hk => by rw [tS i]; exact lS i k hk) (fun k _ => by rw [hl 11 (by decide) (by decide) (by decide) (by decide) (by decide) (by decide) (by decide)]) (hl 12 (by decide) (by decide) (by decide) (by decide) (by decide) (by decide) (by decide)) (hl 13 (by decide) (by decide) (by decide) (by decide) (by decide) (by decide) (by decide)) (hl 14 (by decide) (by decide) (by decide) (by decide) (by decide) (by decide) (by decide)) h.2.1
  have L := fun (a : Nat) (ha : 14 < a ∧ a < 37 ∧ a ≠ 30) => hl a (by omega) (by omega) (by omega) (by omega) (by omega) (by omega) (by omega)
  refine ⟨C1, C2, ⟨?_, by rw [L 19 (by omega)]; exact h.2.2.1.2⟩, ⟨⟨?_, ?_, mn⟩, ?_, ?_⟩, ⟨?_, fun i hi => ?_⟩, hT, ?_, ?_⟩
  · have k := h.2.2.1.1
    unfold c_dips at *
    rw [L 15 (by omega), L 16 (by omega), L 17 (by omega), L 18 (by omega)]; exact k
  · unfold m_site; rw [L 24 (by omega)]; exact h.2.2.2.1.1.1
  · have k := h.2.2.2.1.1.2.1
    unfold m_rng at *
    rw [L 24 (by omega), L 25 (by omega), L 26 (by omega), L 27 (by omega), L 28 (by omega), L 29 (by omega)]; exact k
  · have k := h.2.2.2.1.2.1
    unfold m_dips at *
    rw [L 24 (by omega), L 31 (by omega)]; exact k
  · rw [L 27 (by omega), L 28 (by omega), L 29 (by omega)]; exact h.2.2.2.1.2.2
  · rw [hl 1 (by decide) (by decide) (by decide) (by decide) (by decide) (by decide) (by decide), L 24 (by omega)]; exact h.2.2.2.2.1.1
  · obtain ⟨a1, a2, a3⟩ := h.2.2.2.2.1.2 i hi
    rw [tS i, lS i 0 (by decide), lS i 1 (by decide), lS i 4 (by decide), lS i 5 (by decide), L 25 (by omega), L 26 (by omega), L 27 (by omega), L 28 (by omega), L 29 (by omega)]
    exact ⟨a1, fun q k hk => by rw [lS i (6 + k) (by omega)]; exact a2 q k hk, fun q k hk => by rw [lS i (6 + k) (by omega)]; exact a3 q k hk⟩
  · unfold r_TD; rw [L 15 (by omega), L 16 (by omega), L 17 (by omega), L 18 (by omega), L 24 (by omega), L 31 (by omega)]; exact h.2.2.2.2.2.2.1
  · unfold r_TP; rw [L 19 (by omega), L 23 (by omega), L 24 (by omega), L 36 (by omega)]; exact h.2.2.2.2.2.2.2
theorem pr_net {ns : Nat} {st : sy_S} (h : Rel ns st) (r f b n : Int) : r_pair ns st sp_8_net sp_9_net [.inl (true, r), .inl (true, f), .inl (true, b), .inl (true, n)] := by
  have hu : ∀ (Y : sy_S) (a : Nat), a ≠ 7 → sy_up (sy_up Y 7 3 (-1)) 7 10 (-1) a = Y a := fun Y a ha => by rw [sy_up_ne _ _ ha, sy_up_ne _ _ ha]
  refine ⟨rfl, ⟨h.1.1.1.1, h.1.1.1.2.2.1⟩, fun c => ⟨fun r0 => ?_, fun r0 => ?_⟩, fun c => ?_⟩
  · refine ⟨rfl, fun _ => ⟨rfl, r_net h c (fun a a3 a4 a5 a6 a7 aS => ?_) (fun a ha => ?_) (by unfold sy_up; simp) (by unfold sy_up; simp) (fun i k hk => ?_) (fun i hi => ⟨fun _ => ?_, fun q => absurd q r0⟩)⟩, fun q => absurd c q⟩
    · rw [hu _ a a7, c_fw_ne _ aS, c_put_ne _ _ _ _ _ a3 a4 a5 a6]
    · rw [hu _ a (by omega), c_fw_ne _ (fun i => by unfold sy_nS; omega)]
    · rw [hu _ _ (by unfold sy_nS; omega), c_fw_at, if_neg (by omega), c_put_ne _ _ _ _ _ (by unfold sy_nS; omega) (by unfold sy_nS; omega) (by unfold sy_nS; omega) (by unfold sy_nS; omega)]
    · rw [hu _ _ (by unfold sy_nS; omega), c_fw_at, if_pos ⟨hi, rfl⟩]
  · refine ⟨rfl, fun _ => ⟨rfl, r_net h c (fun a a3 a4 a5 a6 a7 aS => ?_) (fun a ha => ?_) (by unfold sy_up; simp) (by unfold sy_up; simp) (fun i k hk => ?_) (fun i hi => ⟨fun q => absurd r0 q, fun _ => ?_⟩)⟩, fun q => absurd c q⟩
    · rw [hu _ a a7, c_put_ne _ _ _ _ _ a3 a4 a5 a6]
    · rw [hu _ a (by omega)]
    · rw [hu _ _ (by unfold sy_nS; omega), c_put_ne _ _ _ _ _ (by unfold sy_nS; omega) (by unfold sy_nS; omega) (by unfold sy_nS; omega) (by unfold sy_nS; omega)]
    · rw [hu _ _ (by unfold sy_nS; omega), c_put_ne _ _ _ _ _ (by unfold sy_nS; omega) (by unfold sy_nS; omega) (by unfold sy_nS; omega) (by unfold sy_nS; omega)]
  · exact ⟨rfl, fun q => absurd q c, fun _ => ⟨rfl, h⟩⟩
