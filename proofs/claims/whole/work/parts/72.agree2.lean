/-! CLASS AND MODEL: clock, ring, hull, plan, dips -/
theorem x_fst_ext {p q : Nat → Bool} : ∀ n, (∀ i, i < n → p i = q i) → x_fst p n = x_fst q n
  | 0, _ => rfl
  | n + 1, h => by simp only [x_fst]; rw [x_fst_ext n (fun i hi => h i (by omega)), h n (by omega)]
theorem x_lst_ext {p q : Nat → Bool} : ∀ n, (∀ i, i < n → p i = q i) → x_lst p n = x_lst q n
  | 0, _ => rfl
  | n + 1, h => by simp only [x_lst]; rw [x_lst_ext n (fun i hi => h i (by omega)), h n (by omega)]
theorem xe_iff {p : Nat → Bool} : ∀ n, xe p n = true ↔ ∃ f, f < n ∧ p f = true
  | 0 => by simp [xe]
  | n + 1 => by
    simp only [xe, Bool.or_eq_true, xe_iff n]
    constructor
    · rintro (⟨f, h1, h2⟩ | h)
      · exact ⟨f, by omega, h2⟩
      · exact ⟨n, by omega, h⟩
    · rintro ⟨f, h1, h2⟩
      rcases Nat.lt_or_ge f n with z | z
      · exact Or.inl ⟨f, z, h2⟩
      · rw [show f = n by omega] at h2; exact Or.inr h2
theorem xc_zero {p : Nat → Bool} : ∀ n, xc p n = 0 ↔ ∀ i, i < n → p i = false
  | 0 => by simp [xc]
  | n + 1 => by
    have hr := xc_rng p n
    simp only [xc]
    constructor
    · intro h i hi
      split at h
      · omega
      · rename_i c
        rcases Nat.lt_or_ge i n with z | z
        · exact (xc_zero n).mp (by omega) i z
        · rw [show i = n by omega]; simpa using c
    · intro h
      rw [if_neg (by rw [h n (by omega)]; decide), (xc_zero n).mpr (fun i hi => h i (by omega))]
      rfl
theorem r_ck {ns : Nat} {st : sy_S} (h : Rel ns st) {i : Nat} (hi : i < ns) (j : Nat) : m_ck ns st i j = true ↔ c_ckn ns st i j (st 3 4).toNat := by
  unfold m_ck c_ckn
  rw [xe_iff, r_tot h]
  have key : ∀ f : Nat, (m_ft ns (sy_up st 27 i ((j : Int) - 50)) f = true ↔ (c_oth ns st i f ∧ c_agt st f i ((j : Int) - 50) = true)) := fun f => by
    have hfg : ∀ w, m_fg (sy_up st 27 i ((j : Int) - 50)) f w = m_fg st f w := fun w => by
      unfold m_fg m_F m_B m_N
      rw [sy_up_ne _ _ (by decide)]
    have hag : ∀ k, m_ag (sy_up st 27 i ((j : Int) - 50)) f k = if k = i then c_agt st f i ((j : Int) - 50) else m_ag st f k := fun k => by
      by_cases e : k = i
      · subst e
        rw [if_pos rfl, r_agt h hi]
        unfold m_ag m_en m_pl
        rw [hfg, hfg, hfg, hfg]
        rw [sy_up_ne (a := 27) _ _ (show (25 : Nat) ≠ 27 by decide), sy_up_ne (a := 27) _ _ (show (28 : Nat) ≠ 27 by decide), sy_up_ne (a := 27) _ _ (show (29 : Nat) ≠ 27 by decide), sy_up_ne (a := 27) _ _ (show (24 : Nat) ≠ 27 by decide), sy_up_ne (a := 27) _ _ (show (26 : Nat) ≠ 27 by decide)]
        have e27 : sy_up st 27 k ((j : Int) - 50) 27 k = (j : Int) - 50 := by unfold sy_up; simp
        rw [e27]
      · rw [if_neg e]
        unfold m_ag m_en m_pl
        rw [hfg, hfg, hfg, hfg]
        rw [sy_up_ne (a := 27) _ _ (show (25 : Nat) ≠ 27 by decide), sy_up_ne (a := 27) _ _ (show (28 : Nat) ≠ 27 by decide), sy_up_ne (a := 27) _ _ (show (29 : Nat) ≠ 27 by decide), sy_up_ne (a := 27) _ _ (show (24 : Nat) ≠ 27 by decide), sy_up_ne (a := 27) _ _ (show (26 : Nat) ≠ 27 by decide)]
        have e27 : sy_up st 27 i ((j : Int) - 50) 27 k = st 27 k := by unfold sy_up; simp [e]
        rw [e27]
    unfold m_ft m_wr
    rw [decide_eq_true_eq, xc_zero]
    constructor
    · intro q
      refine ⟨fun k hk hne => ?_, ?_⟩
      · have := q k hk
        rw [hag, if_neg hne, ← r_ag h hk] at this
        simpa using this
      · have := q i hi
        rw [hag, if_pos rfl] at this
        simpa using this
    · rintro ⟨q1, q2⟩ k hk
      rw [hag]
      by_cases e : k = i
      · rw [if_pos e, q2]; rfl
      · rw [if_neg e, ← r_ag h hk, q1 k hk e]; rfl
  constructor
  · rintro ⟨f, f1, f2⟩; exact ⟨f, f1, (key f).mp f2⟩
  · rintro ⟨f, f1, f2⟩; exact ⟨f, f1, (key f).mpr f2⟩
theorem pr_clock {ns : Nat} {st : sy_S} (h : Rel ns st) (i w : Int) : r_pair ns st sp_8_clock sp_9_clock [.inl (true, i), .inl (true, w)] := by
  refine ⟨rfl, h.1, fun c => ?_, fun c s p hr hb => ?_⟩
  · refine ⟨rfl, h.2.2.2.1.1, ?_, h⟩
    rw [if_neg (fun q => c q.1)]
  · have g := r_ckr h hr
    have lo := fun (a : Nat) (h1 : a < 37) (h2 : a ≠ 7) (h3 : a ≠ 8) (h4 : a ≠ 9) (h5 : a ≠ 10) => hr.1 a h2 h3 h4 h5 (fun i _ => ⟨c_W_ne h1, by unfold sy_nS; omega⟩)
    have hb2 := c_ckb_of (lo 1 (by decide) (by decide) (by decide) (by decide) (by decide)) (lo 3 (by decide) (by decide) (by decide) (by decide) (by decide)) (c_fg_of (lo 4 (by decide) (by decide) (by decide) (by decide) (by decide)) (lo 5 (by decide) (by decide) (by decide) (by decide) (by decide)) (lo 6 (by decide) (by decide) (by decide) (by decide) (by decide))) hr.2.1 hb
    have hp : ∀ j, j < 101 → m_ck ns s i.toNat j = p j := fun j hj => by
      have a := r_ck g (i := i.toNat) (by omega) j
      have b := hb2 j hj
      cases hx : m_ck ns s i.toNat j <;> cases hy : p j <;> simp_all
    refine ⟨rfl, g.2.2.2.1.1, ?_, g⟩
    unfold m_clock c_ckv
    rw [xc_ext 101 hp, x_fst_ext 101 hp, x_lst_ext 101 hp]
    by_cases c2 : 0 ≤ w ∧ w ≤ 2
    · rw [if_pos ⟨c, c2⟩]
      by_cases w0 : w = 0
      · rw [if_pos w0, if_pos w0]
      · rw [if_neg w0, if_neg w0]
        by_cases w1 : w = 1
        · rw [if_pos w1, if_pos w1]
        · rw [if_neg w1, if_neg w1, if_pos (by omega)]
    · rw [if_neg (fun q => c2 q.2), if_neg (by omega), if_neg (by omega), if_neg (by omega)]
theorem xr_ext {g : Bool} {p q p' q' : Nat → Int} : ∀ n, (∀ i, i < n → p i = p' i) → (∀ i, i < n → q i = q' i) → xr g p q n = xr g p' q' n
  | 0, _, _ => rfl
  | n + 1, h1, h2 => by
    simp only [xr]
    rw [xr_ext n (fun i hi => h1 i (by omega)) (fun i hi => h2 i (by omega)), h1 n (by omega), h2 n (by omega)]
theorem pr_ring {ns : Nat} {st : sy_S} (h : Rel ns st) (f w : Int) : r_pair ns st sp_8_ring sp_9_ring [.inl (true, f), .inl (true, w)] := by
  refine ⟨rfl, ⟨h.1.1.1.1, h.1.1.1.2.1, h.2.2.1.1, h.1.1.1.2.2.1⟩, rfl, ⟨h.2.2.2.1.1, h.2.2.2.1.2.1⟩, ?_, h⟩
  obtain ⟨d1, d2, d3⟩ := h.2.2.2.2.2.2.1
  have hd := h.2.2.1.1
  have hk : ∀ k : Nat, k < (st 15 4).toNat → c_da st k = m_da st k ∧ c_db st k = m_db st k ∧ c_dy st k = m_dy st k := fun k hk => by
    have hk2 : (k : Int) < st 15 4 := by omega
    obtain ⟨e1, e2, e3⟩ := d3 k hk2
    obtain ⟨a1, a2, a3⟩ := hd.2.2 k hk2
    unfold c_da c_db c_dy m_da m_db m_dy
    rw [r_at h (by omega), r_at h (by omega), e1, e2, e3]
    refine ⟨rfl, rfl, ?_⟩
    rw [← e1]
    exact (h.2.2.2.2.1.2 (st 16 k).toNat (by omega)).1.1
  have hT := h.2.2.2.2.2.1
  have f0 := r_fg hT f (w := 0) (by omega)
  have f1 := r_fg hT f (w := 1) (by omega)
  unfold m_ring c_ring
  rw [← d1, ← r_tot h]
  have e1 : xc (m_ev st f) (st 15 4).toNat = xc (c_ev st f) (st 15 4).toNat := xc_ext _ (fun k hk2 => by
    have := hk k hk2
    unfold m_ev c_ev
    rw [← this.1, ← this.2.1, ← f0, ← d2])
  have e2 : ∀ g, xr g (m_p st f) (m_q st f) (st 15 4).toNat = xr g (c_p st (c_fg st f 0) (c_fg st f 1)) (c_q st (c_fg st f 0) (c_fg st f 1)) (st 15 4).toNat := fun g => xr_ext _ (fun k hk2 => by
    have := hk k hk2
    unfold m_p c_p
    rw [← this.1, ← this.2.2, ← f0, ← f1]) (fun k hk2 => by
    have := hk k hk2
    unfold m_q c_q
    rw [← this.2.1, ← this.2.2, ← f0, ← f1])
  rw [e1, e2]
theorem xh_pm_ext {ch ch' : Nat → Bool} {b c y b' c' y' : Nat → Int} : ∀ n, (∀ i, i < n → ch i = ch' i ∧ (ch i = true → b i = b' i ∧ c i = c' i ∧ y i = y' i)) → xh_pm ch b c y n = xh_pm ch' b' c' y' n
  | 0, _ => rfl
  | n + 1, h => by
    simp only [xh_pm]
    rw [xh_pm_ext n (fun i hi => h i (by omega)), ← (h n (by omega)).1]
    split
    · rename_i q
      obtain ⟨e1, e2, e3⟩ := (h n (by omega)).2 q
      rw [e1, e2, e3]
    · rfl
theorem r_L {ns : Nat} {st : sy_S} (h : Rel ns st) : m_L ns st = xh_pm (c_ch st) (fun i => c_at st i (st 1 2) (st (sy_nS i) 7)) (fun i => c_at st i (st 1 2) (st (sy_nS i) 8)) (fun i => st (sy_nS i) 0) ns := by
  refine (xh_pm_ext ns (fun i hi => ?_)).symm
  obtain ⟨⟨a0, a1, a4, a5⟩, b1, _⟩ := h.2.2.2.2.1.2 i hi
  unfold c_ch m_ch
  rw [a5]
  refine ⟨rfl, fun q => ?_⟩
  rw [decide_eq_true_eq] at q
  have e1 := b1 q 1 (by omega); have e2 := b1 q 2 (by omega)
  simp only [show 6 + 1 = 7 from rfl, show 6 + 2 = 8 from rfl] at e1 e2
  refine ⟨?_, ?_, a0⟩
  · show c_at st i (st 1 2) (st (sy_nS i) 7) = _
    rw [r_at h hi, e1]; rfl
  · show c_at st i (st 1 2) (st (sy_nS i) 8) = _
    rw [r_at h hi, e2]; rfl
theorem r_xc {ns : Nat} {st : sy_S} (h : Rel ns st) : xh_c (c_L ns st) = xh_c (m_L ns st) := by
  funext k
  rw [r_L h]
  exact xh_c_same _ _ _ _ ns k
theorem r_xk {ns : Nat} {st : sy_S} (h : Rel ns st) (m : Nat) : xh_k (c_L ns st) m ↔ xh_k (m_L ns st) m := by
  rw [r_L h]
  exact xh_k_same _ _ _ _ ns m
theorem r_ar {L M : List (Int × Int)} (h : xh_c L = xh_c M) : ∀ k, xh_ar L k = xh_ar M k
  | 0 => rfl
  | k + 1 => by simp only [xh_ar]; rw [r_ar h k, h]
theorem r_two {ns : Nat} {st s t : sy_S} (h : Rel ns st) (hk : c_hk ns st s) (hm : m_hk ns s t) : t 24 14 = s 11 5 ∧ xh_c (c_L ns st) = xh_c (m_L ns s) ∧ c_L ns s = c_L ns st := by
  have g := r_hk h hk
  have eL := c_hs_L hk.1 ns
  obtain ⟨m, hm1, hw⟩ := hm
  have e14 := hw.2.1
  have k1 := (c_hk_m hk).1
  rw [← eL, r_xk g] at k1
  have := xh_k_un k1 hm1
  have r5 := hk.2.1.2.1
  exact ⟨by omega, by rw [← eL]; exact r_xc g, eL⟩
theorem pr_inside {ns : Nat} {st : sy_S} (h : Rel ns st) (w : Int) : r_pair ns st sp_8_inside sp_9_inside [.inl (true, w)] := by
  refine ⟨rfl, ⟨h.1.1.1.1, h.1.1.1.2.1, h.2.1.2, h.2.1.1⟩, fun s hk => ?_, fun w0 w1 => ?_⟩
  · have g := r_hk h hk
    refine ⟨fun c => ⟨rfl, g.2.2.2.1.1, fun t hm => ⟨fun _ => ⟨?_, r_mhk g hm⟩, fun c2 => by omega⟩, fun c2 _ => absurd c c2⟩, fun c => ⟨rfl, g.2.2.2.1.1, fun t hm => ⟨fun c2 => by omega, fun _ => ⟨?_, r_mhk g hm⟩⟩, fun _ c2 => absurd c c2⟩⟩
    · rw [(r_two h hk hm).1]
    · obtain ⟨e1, e2, e3⟩ := r_two h hk hm
      rw [e1, r_ar e2]
  · exact ⟨rfl, h.2.2.2.1.1, fun t hm => ⟨fun c => absurd c w0, fun c => absurd c w1⟩, fun _ _ => ⟨rfl, h⟩⟩
theorem pr_corner {ns : Nat} {st : sy_S} (h : Rel ns st) (k w : Int) : r_pair ns st sp_8_corner sp_9_corner [.inl (true, k), .inl (true, w)] := by
  refine ⟨rfl, ⟨h.1.1.1.1, h.1.1.1.2.1, h.2.1.2, h.2.1.1⟩, fun s hk => ?_, fun c => ?_⟩
  · have g := r_hk h hk
    refine ⟨rfl, g.2.2.2.1.1, fun t hm => ⟨?_, r_mhk g hm⟩⟩
    obtain ⟨e1, e2, e3⟩ := r_two h hk hm
    rw [e1, e2]
  · refine ⟨rfl, h.2.2.2.1.1, fun t hm => ⟨?_, r_mhk h hm⟩⟩
    rw [if_neg (by omega)]
theorem pr_quarrels {ns : Nat} {st : sy_S} (h : Rel ns st) (i : Int) : r_pair ns st sp_8_quarrels sp_9_quarrels [.inl (true, i)] := by
  have hTS := h.2.2.2.2.1
  refine ⟨rfl, ⟨h.1.1.1.1, h.1.1.1.2.1, h.2.1.2, h.2.1.1⟩, fun c s r hk hr => ?_, fun c => ?_⟩
  · have g := r_hk h hk
    have hi : i.toNat < ns := by omega
    obtain ⟨⟨a0, a1, a4, a5⟩, _, b2⟩ := hTS.2 i.toNat hi
    have kd2 : st 28 i.toNat = 2 := by rw [← a5]; exact c.2
    have lo := hk.1
    have e28 := lo 28 (by omega); have e25 := lo 25 (by omega); have e24 := lo 24 (by omega); have e26 := lo 26 (by omega); have e27 := lo 27 (by omega); have e29 := lo 29 (by omega)
    have een : ∀ q, m_en s i.toNat q = m_en st i.toNat q := fun q => by unfold m_en m_pl; rw [e24, e26, e27, e29]
    have x0 := b2 kd2 0 (by omega); have x1 := b2 kd2 1 (by omega)
    simp only [show 6 + 0 = 6 from rfl, show 6 + 1 = 7 from rfl] at x0 x1
    rw [r_at h hi, r_at h hi, a0, x0, x1] at hr
    have hr : (r = 1 ∧ xh_tc (c_L ns st) (s 11 5).toNat (st 25 i.toNat) (m_en st i.toNat 0) (m_en st i.toNat 1)) ∨ (r = 0 ∧ ¬ xh_tc (c_L ns st) (s 11 5).toNat (st 25 i.toNat) (m_en st i.toNat 0) (m_en st i.toNat 1)) := hr
    refine ⟨rfl, g.2.2.2.1.1, fun _ t m r2 hm em hr2 => ⟨?_, r_mhk g hm⟩, fun q => absurd ⟨c.1, by rw [e28]; exact kd2⟩ q⟩
    rw [e25, een, een] at hr2
    obtain ⟨e1, e2, e3⟩ := r_two h hk hm
    have km := (c_hk_m hk).1
    have em2 : (s 11 5).toNat = m := by omega
    rw [em2] at hr km
    have hle : m_en st i.toNat 0 ≤ m_en st i.toNat 1 := by
      unfold m_en m_pl
      have := h.2.2.2.1.2.2.2 i.toNat hi kd2
      have hv := h.2.2.2.1.1.2.1.1
      have := Int.mul_le_mul_of_nonneg_left (c := st 24 0) (show st 29 (4 * i.toNat + 0) - st 27 i.toNat ≤ st 29 (4 * i.toNat + 1) - st 27 i.toNat by rw [Nat.add_zero]; omega) (by omega)
      omega
    have hiff : xh_tc (c_L ns st) m (st 25 i.toNat) (m_en st i.toNat 0) (m_en st i.toNat 1) ↔ xh_tm (m_L ns s) m (st 25 i.toNat) (m_en st i.toNat 0) (m_en st i.toNat 1) := by
      have e4 : xh_tm (m_L ns s) m (st 25 i.toNat) (m_en st i.toNat 0) (m_en st i.toNat 1) ↔ xh_tm (c_L ns st) m (st 25 i.toNat) (m_en st i.toNat 0) (m_en st i.toNat 1) := by
        unfold xh_tm xh_has xh_d
        rw [e2]
      rw [e4]
      by_cases hL : c_L ns st = []
      · have : m = 0 := by
          rcases km with ⟨_, z⟩ | ⟨z, _⟩
          · exact z
          · exact absurd hL z
        subst this
        constructor
        · rintro ⟨⟨k, k1, _⟩, _⟩; omega
        · rintro (⟨z, _⟩ | ⟨z, _⟩ | ⟨z, _⟩ | ⟨z, _⟩) <;> omega
      · refine xh_same km hle (fun k => ?_)
        obtain ⟨j, j1, j2, j3, _⟩ := xh_pc_mem ns (xh_c_ok hL k).2
        intro e
        unfold c_ch at j2
        rw [decide_eq_true_eq] at j2
        have j4 := h.2.1.2 j i.toNat j1 hi (by rw [a0, ← e]; exact j3.symm)
        rw [j4] at j2
        rw [a5, kd2] at j2
        omega
    rcases hr with ⟨q1, q2⟩ | ⟨q1, q2⟩ <;> rcases hr2 with ⟨p1, p2⟩ | ⟨p1, p2⟩
    · rw [q1, p1]
    · exact absurd (hiff.mp q2) p2
    · exact absurd (hiff.mpr p2) q2
    · rw [q1, p1]
  · refine ⟨rfl, h.2.2.2.1.1, fun q => absurd ⟨q.1, ?_⟩ c, fun _ => ⟨rfl, h⟩⟩
    rw [(hTS.2 i.toNat (by omega)).1.2.2.2]; exact q.2
