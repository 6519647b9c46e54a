/-! THE CLASS: the clocks of a site -/
/-- whether figure f agrees with all sites but i -/
def c_oth (ns : Nat) (st : sy_S) (i : Nat) (f : Nat) : Prop := ∀ j, j < ns → j ≠ i → c_ag st f j = true
/-- whether a clock j - 50 of site i lets a figure below n fit -/
def c_ckn (ns : Nat) (st : sy_S) (i : Nat) (j n : Nat) : Prop := ∃ f, f < n ∧ c_oth ns st i f ∧ c_agt st f i ((j : Int) - 50) = true
/-- what finding the clocks leaves: the ranges, the three sums, and the widths of the site -/
def c_fc (ns : Nat) (st st' : sy_S) (i : Nat) : Prop := (∀ a, a ≠ 9 → a ≠ 10 → a ≠ sy_nW i → a ≠ sy_nS i → st' a = st a) ∧ (∀ k, k ≠ 3 → st' (sy_nS i) k = st (sy_nS i) k) ∧ c_wk st' i ∧ ∃ p : Nat → Bool, (∀ j, j < 101 → (p j = true ↔ c_ckn ns st i j (st 3 4).toNat)) ∧ st' 9 1 = xc p 101 ∧ st' 9 2 = x_fst p 101 ∧ st' 9 3 = x_lst p 101
/-- all bits but one are clear -/
theorem x_but {z : Int} (hz : sy_iR z) {i : Nat} (hi : i < 16) : ((Int32.ofInt z &&& Int32.ofInt (Int32.ofInt (x_pw i) ^^^ Int32.ofInt (-1)).toInt).toInt = 0) ↔ ∀ j, j < 32 → j ≠ i → x_bt z j = false := by
  show x_bop (x_pw i) true z = 0 ↔ _
  rw [x_zero (x_bop_rng _ _ _)]
  refine ⟨fun h j hj hne => ?_, fun h j hj => ?_⟩
  · have := h j hj
    rw [x_bop_bt hi _ _ hj, if_neg hne] at this
    exact this
  · rw [x_bop_bt hi _ _ hj]
    by_cases hji : j = i
    · rw [if_pos hji]; rfl
    · rw [if_neg hji]; exact h j hj hji
/-- the loop over the figures -/
def c_fl (ns : Nat) (st s : sy_S) (i f : Nat) : Prop := (∀ a, a ≠ 9 → a ≠ 10 → a ≠ sy_nW i → a ≠ sy_nS i → s a = st a) ∧ (∀ k, k ≠ 3 → s (sy_nS i) k = st (sy_nS i) k) ∧ c_wok s i ∧ (s 9 1 = 0 ∧ s 9 2 = -1000 ∧ s 9 3 = -1000) ∧ (∀ k, k < 102 → -(2 * (f : Int)) ≤ s 10 k ∧ s 10 k ≤ 2 * f) ∧ ∀ j, j < 101 → 0 ≤ x_ps (s 10) (j + 1) ∧ (0 < x_ps (s 10) (j + 1) ↔ c_ckn ns st i j f)
theorem c_fl_low {ns : Nat} {st s : sy_S} {i f : Nat} (h : c_fl ns st s i f) {a : Nat} (ha : a < 37) (h9 : a ≠ 9) (h10 : a ≠ 10) : s a = st a := h.1 a h9 h10 (c_W_ne ha) (by unfold sy_nS; omega)
theorem c_fl_S {ns : Nat} {st s : sy_S} {i f : Nat} (h : c_fl ns st s i f) (n k : Nat) (hk : k ≠ 3) : s (sy_nS n) k = st (sy_nS n) k := by
  by_cases hn : n = i
  · subst hn; exact h.2.1 k hk
  · rw [h.1 (sy_nS n) (by unfold sy_nS; omega) (by unfold sy_nS; omega) (c_WS_ne i n) (fun z => hn ((sy_nS_inj n i).mp z))]
theorem c_fl_fg {ns : Nat} {st s : sy_S} {i f : Nat} (h : c_fl ns st s i f) : c_fg s = c_fg st := c_fg_of (c_fl_low h (by decide) (by decide) (by decide)) (c_fl_low h (by decide) (by decide) (by decide)) (c_fl_low h (by decide) (by decide) (by decide))
theorem c_ckn_s {ns : Nat} {st : sy_S} {i j f : Nat} : c_ckn ns st i j (f + 1) ↔ c_ckn ns st i j f ∨ (c_oth ns st i f ∧ c_agt st f i ((j : Int) - 50) = true) := by
  unfold c_ckn
  constructor
  · rintro ⟨g, h1, h2, h3⟩
    by_cases hg : g = f
    · subst hg; exact Or.inr ⟨h2, h3⟩
    · exact Or.inl ⟨g, by omega, h2, h3⟩
  · rintro (⟨g, h1, h2⟩ | h)
    · exact ⟨g, by omega, h2⟩
    · exact ⟨f, by omega, h⟩
theorem c_fl_skip {ns : Nat} {st s : sy_S} {i f : Nat} (h : c_fl ns st s i f) (hn : ¬ c_oth ns st i f) : c_fl ns st s i (f + 1) := by
  obtain ⟨h1, h2, h3, h4, h5, h6⟩ := h
  refine ⟨h1, h2, h3, h4, fun k hk => by have := h5 k hk; omega, fun j hj => ⟨(h6 j hj).1, ?_⟩⟩
  rw [c_ckn_s, (h6 j hj).2]
  exact ⟨Or.inl, fun z => z.elim id (fun z => absurd z.1 hn)⟩
theorem c_fl_add {ns : Nat} {st s : sy_S} {i f : Nat} {g : Nat → Int} (h : c_fl ns st s i f) (ho : c_oth ns st i f) (g1 : ∀ k, -2 ≤ g k - s 10 k ∧ g k - s 10 k ≤ 2) (g2 : ∀ j : Nat, j < 101 → x_ps (s 10) (j + 1) ≤ x_ps g (j + 1) ∧ (x_ps (s 10) (j + 1) < x_ps g (j + 1) ↔ c_agt st f i ((j : Int) - 50) = true)) : c_fl ns st (c_row s 10 g) i (f + 1) := by
  have hne : ∀ a, a ≠ 10 → c_row s 10 g a = s a := fun a ha => by funext k; simp [c_row, ha]
  have h10 : c_row s 10 g 10 = g := by funext k; simp [c_row]
  have hS10 : sy_nS i ≠ 10 := by unfold sy_nS; omega
  have hW10 : sy_nW i ≠ 10 := by unfold sy_nW; omega
  obtain ⟨h1, h2, h3, h4, h5, h6⟩ := h
  refine ⟨fun a a9 a10 aw as => by rw [hne a a10]; exact h1 a a9 a10 aw as, fun k hk => by rw [hne _ hS10]; exact h2 k hk, ?_, by rw [hne 9 (by decide)]; exact h4, fun k hk => ?_, fun j hj => ?_⟩
  · exact c_wok_of (hne 3 (by decide)) (c_fg_of (hne 4 (by decide)) (hne 5 (by decide)) (hne 6 (by decide))) (by rw [hne _ hS10]) (hne _ hW10) h3
  · rw [h10]
    have := h5 k hk
    have := g1 k
    omega
  · rw [h10, c_ckn_s]
    have q := h6 j hj
    have w := g2 j hj
    refine ⟨by omega, fun z => ?_, fun z => ?_⟩
    · by_cases hz : 0 < x_ps (s 10) (j + 1)
      · exact Or.inl (q.2.mp hz)
      · exact Or.inr ⟨ho, w.2.mp (by omega)⟩
    · rcases z with z | z
      · have := q.2.mpr z; omega
      · have := w.2.mpr z.2; omega
/-- the bits say whether all others agree -/
theorem c_oth_bt {ns : Nat} {st : sy_S} (hrg : sy_rg st) (hns : ns ≤ 16) (hh : c_hib ns st) (hr : c_right ns st) {i f : Nat} (hi : i < ns) (hf : (f : Int) < st 3 4) : ((Int32.ofInt (st 8 f) &&& Int32.ofInt (Int32.ofInt (x_pw i) ^^^ Int32.ofInt (-1)).toInt).toInt = 0) ↔ c_oth ns st i f := by
  rw [x_but (sy_rg_i hrg (by decide)) (by omega)]
  refine ⟨fun h j hj hne => ?_, fun h j hj hne => ?_⟩
  · have := h j (by omega) hne
    rw [hr f j hf hj] at this
    simpa using this
  · by_cases hjn : j < ns
    · rw [hr f j hf hjn, h j hjn hne]; rfl
    · exact hh f j (by omega) hj
theorem c_sum_at (s : sy_S) (n : Nat) : c_sum s n 9 1 = xc (fun j => decide (0 < x_ps (s 10) (j + 1))) n ∧ c_sum s n 9 2 = x_fst (fun j => decide (0 < x_ps (s 10) (j + 1))) n ∧ c_sum s n 9 3 = x_lst (fun j => decide (0 < x_ps (s 10) (j + 1))) n := ⟨rfl, rfl, rfl⟩
theorem c_fl_end {ns : Nat} {st s : sy_S} {i : Nat} (hl : c_fl ns st s i (st 3 4).toNat) : c_fc ns st (c_sum s 101) i := by
  have hne : ∀ a, a ≠ 9 → c_sum s 101 a = s a := fun a ha => by
    unfold c_sum
    rw [sy_up_ne _ _ ha, sy_up_ne _ _ ha, sy_up_ne _ _ ha]
  have hS9 : sy_nS i ≠ 9 := by unfold sy_nS; omega
  have hW9 : sy_nW i ≠ 9 := by unfold sy_nW; omega
  obtain ⟨h1, h2, h3, h4, h5, h6⟩ := hl
  refine ⟨fun a a9 a10 aw as => by rw [hne a a9]; exact h1 a a9 a10 aw as, fun k hk => by rw [hne _ hS9]; exact h2 k hk, fun _ => ?_, (fun j => decide (0 < x_ps (s 10) (j + 1))), fun j hj => ?_, c_sum_at s 101⟩
  · exact c_wok_of (hne 3 (by decide)) (c_fg_of (hne 4 (by decide)) (hne 5 (by decide)) (hne 6 (by decide))) (by rw [hne _ hS9]) (hne _ hW9) h3
  · rw [decide_eq_true_eq]
    exact (h6 j hj).2
theorem x_ps_z {g : Nat → Int} : ∀ n, (∀ k, k < n → g k = 0) → x_ps g n = 0
  | 0, _ => rfl
  | n + 1, h => by
    simp only [x_ps]
    rw [x_ps_z n (fun k hk => h k (by omega)), h n (by omega)]
    rfl
theorem c_fl_0 {ns : Nat} {st s : sy_S} {i : Nat} (h1 : ∀ a, a ≠ 9 → a ≠ 10 → a ≠ sy_nW i → a ≠ sy_nS i → s a = st a) (h2 : ∀ k, k ≠ 3 → s (sy_nS i) k = st (sy_nS i) k) (h3 : c_wok s i) (h4 : s 9 1 = 0 ∧ s 9 2 = -1000 ∧ s 9 3 = -1000) (h5 : ∀ k, k < 102 → s 10 k = 0) : c_fl ns st s i 0 := by
  refine ⟨h1, h2, h3, h4, fun k hk => by rw [h5 k hk]; omega, fun j hj => ?_⟩
  rw [x_ps_z (j + 1) (fun k hk => h5 k (by omega))]
  exact ⟨by omega, fun z => by omega, fun ⟨f, hf, _⟩ => by omega⟩
def sp_5_findClocks (ns : Nat) : sy_Sp := sy_m1 7 fun i st post => (c_sv ns st ∧ c_right ns st ∧ (0 ≤ i ∧ i < ns)) ∧ ∀ st', c_fc ns st st' i.toNat → post none st'
def ct_5_findClocks (ns q : Nat) : Option (Bool × Nat × sy_Sp) := match q with
  | 76 => some (false, 2, sp_7_at ns)
  | 96 => some (false, 2, sp_3_measure ns)
  | 120 => some (false, 3, sp_3_nth ns)
  | 126 => some (true, 2, sp_M_maxI ns)
  | 150 => some (false, 1, sp_0_clear ns)
  | 153 => some (false, 5, sp_0_addOf ns)
  | 156 => some (false, 1, sp_0_sumUp ns)
  | _ => none
abbrev M_5_findClocks (ns : Nat) : sy_M := Mk_5_findClocks (ct_5_findClocks ns)
theorem cx_5_findClocks_76 {ns : Nat} {v1 v2 : sy_V} {r : List sy_V} {s : sy_S} {f : List sy_V → sy_S → Prop} : sy_call false (ct_5_findClocks ns 76) (v2 :: v1 :: r) s f = (sy_wd r ≤ 8 ∧ (sy_fit v2 ∧ sy_fit v1) ∧ sp_7_at ns [sy_kn v1, sy_kn v2] s (fun q t => f (q.toList ++ r) t)) := sx_call2
theorem cx_5_findClocks_96 {ns : Nat} {v1 v2 : sy_V} {r : List sy_V} {s : sy_S} {f : List sy_V → sy_S → Prop} : sy_call false (ct_5_findClocks ns 96) (v2 :: v1 :: r) s f = (sy_wd r ≤ 8 ∧ (sy_fit v2 ∧ sy_fit v1) ∧ sp_3_measure ns [sy_kn v1, sy_kn v2] s (fun q t => f (q.toList ++ r) t)) := sx_call2
theorem cx_5_findClocks_120 {ns : Nat} {v1 v2 v3 : sy_V} {r : List sy_V} {s : sy_S} {f : List sy_V → sy_S → Prop} : sy_call false (ct_5_findClocks ns 120) (v3 :: v2 :: v1 :: r) s f = (sy_wd r ≤ 8 ∧ (sy_fit v3 ∧ sy_fit v2 ∧ sy_fit v1) ∧ sp_3_nth ns [sy_kn v1, sy_kn v2, sy_kn v3] s (fun q t => f (q.toList ++ r) t)) := sx_call3
theorem cx_5_findClocks_126 {ns : Nat} {v1 v2 : sy_V} {r : List sy_V} {s : sy_S} {f : List sy_V → sy_S → Prop} : sy_call true (ct_5_findClocks ns 126) (v2 :: v1 :: r) s f = (sy_wd r ≤ 8 ∧ (sy_fit v2 ∧ sy_fit v1) ∧ sp_M_maxI ns [sy_kn v1, sy_kn v2] s (fun q t => f (q.toList ++ r) t)) := sx_call2
theorem cx_5_findClocks_150 {ns : Nat} {v1 : sy_V} {r : List sy_V} {s : sy_S} {f : List sy_V → sy_S → Prop} : sy_call false (ct_5_findClocks ns 150) (v1 :: r) s f = (sy_wd r ≤ 8 ∧ (sy_fit v1) ∧ sp_0_clear ns [sy_kn v1] s (fun q t => f (q.toList ++ r) t)) := sx_call1
theorem cx_5_findClocks_153 {ns : Nat} {v1 v2 v3 v4 v5 : sy_V} {r : List sy_V} {s : sy_S} {f : List sy_V → sy_S → Prop} : sy_call false (ct_5_findClocks ns 153) (v5 :: v4 :: v3 :: v2 :: v1 :: r) s f = (sy_wd r ≤ 8 ∧ (sy_fit v5 ∧ sy_fit v4 ∧ sy_fit v3 ∧ sy_fit v2 ∧ sy_fit v1) ∧ sp_0_addOf ns [sy_kn v1, sy_kn v2, sy_kn v3, sy_kn v4, sy_kn v5] s (fun q t => f (q.toList ++ r) t)) := sx_call5
theorem cx_5_findClocks_156 {ns : Nat} {v1 : sy_V} {r : List sy_V} {s : sy_S} {f : List sy_V → sy_S → Prop} : sy_call false (ct_5_findClocks ns 156) (v1 :: r) s f = (sy_wd r ≤ 8 ∧ (sy_fit v1) ∧ sp_0_sumUp ns [sy_kn v1] s (fun q t => f (q.toList ++ r) t)) := sx_call1
theorem mv_5_findClocks (ns : Nat) : sy_MV c_5_findClocks y_5_findClocks.cls none (M_5_findClocks ns) := ⟨tv_5_findClocks, ff_5_ok, ki_5_ok, kl_5_ok⟩
abbrev rm_5_findClocks : Room := { frames := 3, cells := 0, slots := 0, locals := 72 }
theorem iw_0_clear : Cond.code y_0_clear c_0_clear 1 none ∈ sy_tb ∧ Cond.initialized y_0_clear.cls ∈ sy_tb ∧ (y_0_clear.cls ≠ "java/lang/invoke/MethodHandle" ∧ y_0_clear.cls ≠ "java/lang/invoke/VarHandle" ∧ (parseMethodDescriptor y_0_clear.desc).map (fun d => d.parameters.length) = some 0) := ⟨sy_inx 595 (by decide +kernel) (by decide +kernel), sy_inx 49 (by decide +kernel) (by decide +kernel), by decide +kernel⟩
theorem ii_0_clear : Cond.instanceMethod y_0_clear ∈ sy_tb ∧ Cond.selects y_0_clear.cls y_0_clear y_0_clear ∈ sy_tb := ⟨sy_inx 593 (by decide +kernel) (by decide +kernel), sy_inx 594 (by decide +kernel) (by decide +kernel)⟩
theorem iw_0_addOf : Cond.code y_0_addOf c_0_addOf 8 none ∈ sy_tb ∧ Cond.initialized y_0_addOf.cls ∈ sy_tb ∧ (y_0_addOf.cls ≠ "java/lang/invoke/MethodHandle" ∧ y_0_addOf.cls ≠ "java/lang/invoke/VarHandle" ∧ (parseMethodDescriptor y_0_addOf.desc).map (fun d => d.parameters.length) = some 4) := ⟨sy_inx 600 (by decide +kernel) (by decide +kernel), sy_inx 49 (by decide +kernel) (by decide +kernel), by decide +kernel⟩
theorem ii_0_addOf : Cond.instanceMethod y_0_addOf ∈ sy_tb ∧ Cond.selects y_0_addOf.cls y_0_addOf y_0_addOf ∈ sy_tb := ⟨sy_inx 598 (by decide +kernel) (by decide +kernel), sy_inx 599 (by decide +kernel) (by decide +kernel)⟩
theorem iw_0_sumUp : Cond.code y_0_sumUp c_0_sumUp 3 none ∈ sy_tb ∧ Cond.initialized y_0_sumUp.cls ∈ sy_tb ∧ (y_0_sumUp.cls ≠ "java/lang/invoke/MethodHandle" ∧ y_0_sumUp.cls ≠ "java/lang/invoke/VarHandle" ∧ (parseMethodDescriptor y_0_sumUp.desc).map (fun d => d.parameters.length) = some 0) := ⟨sy_inx 618 (by decide +kernel) (by decide +kernel), sy_inx 49 (by decide +kernel) (by decide +kernel), by decide +kernel⟩
theorem ii_0_sumUp : Cond.instanceMethod y_0_sumUp ∈ sy_tb ∧ Cond.selects y_0_sumUp.cls y_0_sumUp y_0_sumUp ∈ sy_tb := ⟨sy_inx 616 (by decide +kernel) (by decide +kernel), sy_inx 617 (by decide +kernel) (by decide +kernel)⟩
theorem co_5_findClocks (l : Launch) : sy_calls l rm_5_findClocks y_5_findClocks.cls c_5_findClocks 7 (fun ns => (M_5_findClocks ns).2.2.2.2.1) := by
  intro p e s m args below meth c rt wd ad ns A Q X hA q b n sp h
  replace h : ct_5_findClocks ns q = some (b, n, sp) := h
  unfold ct_5_findClocks at h
  split at h
  · cases h; exact sy_coV (ci := 7) X hA (mc_7_at l) ⟨iw_7_at.1, iw_7_at.2.1, iw_7_at.2.2, ⟨by decide, by decide⟩, rfl, rfl⟩ (sy_inx 478 (by decide +kernel) (by decide +kernel)) ii_7_at.1 ii_7_at.2 (rc_7_at ns) ⟨_, rfl, rfl⟩
  · cases h; exact sy_coV (ci := 3) X hA (mc_3_measure l) ⟨iw_3_measure.1, iw_3_measure.2.1, iw_3_measure.2.2, ⟨by decide, by decide⟩, rfl, rfl⟩ (sy_inx 491 (by decide +kernel) (by decide +kernel)) ii_3_measure.1 ii_3_measure.2 (rc_3_measure ns) ⟨_, rfl, rfl⟩
  · cases h; exact sy_coV (ci := 3) X hA (mc_3_nth l) ⟨iw_3_nth.1, iw_3_nth.2.1, iw_3_nth.2.2, ⟨by decide, by decide⟩, rfl, rfl⟩ (sy_inx 514 (by decide +kernel) (by decide +kernel)) ii_3_nth.1 ii_3_nth.2 (rc_3_nth ns) ⟨_, rfl, rfl⟩
  · cases h; exact sy_coS X hA (mc_M_maxI l) ⟨iw_M_maxI.1, iw_M_maxI.2.1, iw_M_maxI.2.2, ⟨by decide, by decide⟩, rfl, rfl⟩ (sy_inx 515 (by decide +kernel) (by decide +kernel)) is_M_maxI
  · cases h; exact sy_coV (ci := 0) X hA (mc_0_clear l) ⟨iw_0_clear.1, iw_0_clear.2.1, iw_0_clear.2.2, ⟨by decide, by decide⟩, rfl, rfl⟩ (sy_inx 592 (by decide +kernel) (by decide +kernel)) ii_0_clear.1 ii_0_clear.2 (rc_0_clear ns) ⟨_, rfl, rfl⟩
  · cases h; exact sy_coV (ci := 0) X hA (mc_0_addOf l) ⟨iw_0_addOf.1, iw_0_addOf.2.1, iw_0_addOf.2.2, ⟨by decide, by decide⟩, rfl, rfl⟩ (sy_inx 597 (by decide +kernel) (by decide +kernel)) ii_0_addOf.1 ii_0_addOf.2 (rc_0_addOf ns) ⟨_, rfl, rfl⟩
  · cases h; exact sy_coV (ci := 0) X hA (mc_0_sumUp l) ⟨iw_0_sumUp.1, iw_0_sumUp.2.1, iw_0_sumUp.2.2, ⟨by decide, by decide⟩, rfl, rfl⟩ (sy_inx 615 (by decide +kernel) (by decide +kernel)) ii_0_sumUp.1 ii_0_sumUp.2 (rc_0_sumUp ns) ⟨_, rfl, rfl⟩
  · cases h
theorem rc_5_findClocks (ns : Nat) (as : List sy_V) (st : sy_S) (post : sy_R) (h : sp_5_findClocks ns as st post) : ∃ b as', as = .inr (.inr (some (some b))) :: as' ∧ sy_ob b = some 5 := sy_m1_r rfl as st post h
theorem mc_5_findClocks (l : Launch) : sy_MC l y_5_findClocks c_5_findClocks 7 none rm_5_findClocks sp_5_findClocks := by
  refine sy_meth M_5_findClocks (by decide +kernel) mv_5_findClocks (co_5_findClocks l) ?_
  intro ns as st post WA h hok hrg ⟨hgo0, hin, hwk⟩
  have hgo : ∀ (n pc : Nat) (L k : List sy_V) (st : sy_S), rn_5_findClocks ns (ct_5_findClocks ns) post WA n pc L k st → WA pc L k st := fun n pc L k st h => hgo0 [44] n pc L k st h
  replace h := sy_m1_e h hok
  obtain ⟨i, rfl, hi, h⟩ := h
  refine ⟨Nat.le_of_ble_eq_true rfl, ?_⟩
  show WA 0 [.inr (.inr (some (some 7))), .inl (true, i), .inr (.inr none), .inr (.inr none), .inr (.inr none), .inr (.inr none), .inr (.inr none)] [] st
  obtain ⟨⟨hv, hrt, hi0⟩, h⟩ := h
  obtain ⟨⟨hs, hr, hn, hwkk⟩, hhib, hst, hsum⟩ := hv
  have hs' := hs
  unfold c_site at hs
  obtain ⟨n, rfl⟩ : ∃ n : Nat, i = n := ⟨i.toNat, by omega⟩
  rw [Int.toNat_natCast] at h
  have hT := c_tot_r hn
  have hnn : n < ns := by omega
  have key : ∀ (d f : Nat) (s : sy_S), f + d = (st 3 4).toNat → c_fl ns st s n f → WA 44 [.inr (.inr (some (some 7))), .inl (true, (n : Int)), .inr (.inr (some (some (sy_nS n)))), .inl (true, st 3 3), .inl (true, (f : Int)), .inr (.inr none), .inr (.inr none)] [] s := by
    intro d
    induction d with
    | zero =>
      intro f s hf hl
      refine hgo 100 _ _ _ _ ?_
      simp -implicitDefEqProofs only [↓rx_5_findClocks_0, ↓rx_5_findClocks_1, ↓rx_5_findClocks_4, ↓rx_5_findClocks_7, ↓rx_5_findClocks_8, ↓rx_5_findClocks_11, ↓rx_5_findClocks_12, ↓rx_5_findClocks_15, ↓rx_5_findClocks_16, ↓rx_5_findClocks_17, ↓rx_5_findClocks_17_n, ↓rx_5_findClocks_20, ↓rx_5_findClocks_21, ↓rx_5_findClocks_22, ↓rx_5_findClocks_25, ↓rx_5_findClocks_26, ↓rx_5_findClocks_29, ↓rx_5_findClocks_30, ↓rx_5_findClocks_31, ↓rx_5_findClocks_34, ↓rx_5_findClocks_37, ↓rx_5_findClocks_40, ↓rx_5_findClocks_41, ↓rx_5_findClocks_42, ↓rx_5_findClocks_44, ↓rx_5_findClocks_46, ↓rx_5_findClocks_47, ↓rx_5_findClocks_50, ↓rx_5_findClocks_53, ↓rx_5_findClocks_56, ↓rx_5_findClocks_58, ↓rx_5_findClocks_61, ↓rx_5_findClocks_64, ↓rx_5_findClocks_66, ↓rx_5_findClocks_67, ↓rx_5_findClocks_68, ↓rx_5_findClocks_70, ↓rx_5_findClocks_71, ↓rx_5_findClocks_74, ↓rx_5_findClocks_76, ↓rx_5_findClocks_77, ↓rx_5_findClocks_78, ↓rx_5_findClocks_79, ↓rx_5_findClocks_80, ↓rx_5_findClocks_81, ↓rx_5_findClocks_82, ↓rx_5_findClocks_83, ↓rx_5_findClocks_86, ↓rx_5_findClocks_88, ↓rx_5_findClocks_91, ↓rx_5_findClocks_94, ↓rx_5_findClocks_95, ↓rx_5_findClocks_98, ↓rx_5_findClocks_99, ↓rx_5_findClocks_101, ↓rx_5_findClocks_102, ↓rx_5_findClocks_103, ↓rx_5_findClocks_106, ↓rx_5_findClocks_108, ↓rx_5_findClocks_109, ↓rx_5_findClocks_112, ↓rx_5_findClocks_113, ↓rx_5_findClocks_114, ↓rx_5_findClocks_117, ↓rx_5_findClocks_120, ↓rx_5_findClocks_121, ↓rx_5_findClocks_124, ↓rx_5_findClocks_126, ↓rx_5_findClocks_127, ↓rx_5_findClocks_129, ↓rx_5_findClocks_132, ↓rx_5_findClocks_135, ↓rx_5_findClocks_138, ↓rx_5_findClocks_139, ↓rx_5_findClocks_142, ↓rx_5_findClocks_145, ↓cx_5_findClocks_76, ↓cx_5_findClocks_96, ↓cx_5_findClocks_120, ↓cx_5_findClocks_126, ↓cx_5_findClocks_150, ↓cx_5_findClocks_153, ↓cx_5_findClocks_156, sp_0_addOf, sp_0_clear, sp_0_sumUp, sp_3_measure, sp_3_nth, sp_7_at, sp_M_maxI, ↓sx_s1, ↓sx_s2, ↓sx_s3, ↓sx_s4, ↓sx_s5, ↓sx_s6, ↓sx_m0, ↓sx_m1, ↓sx_m2, ↓sx_m3, ↓sx_m4, ↓sx_m5, ↓sx_m6, ↓sx_k0_, ↓sx_k1_, ↓sx_k2_, ↓sx_k3_, ↓sx_k4_, ↓sx_k5_, ↓sx_k6_, ↓sx_sLL, ↓sx_sAI, ↓sx_mLL, ↓sx_mIIL, ↓sx_mIILL, ↓sx_mIILLL, ↓sx_qS, ↓sx_qSI, ↓sx_qSIII, sx_rit, sx_rif, sx_rlt, sx_rlf, sx_b0, sx_b1, sx_o0, sx_o1i, sx_o1a, sx_o1l, sx_o2, sx_g0, sx_g1, sx_k1, sx_k2, sx_k3, sx_f1, sx_f2, sx_f3, sx_w0, sx_w1, sx_w2, sx_w3, sx_ts, sx_tn, sx_up, sx_nS1, sx_nS2, sx_nW1, sx_nW2, sx_SW, sx_WS, sy_nS_inj, sy_nW_inj, sx_ob0, sx_ob1, sx_ob2, sx_ob3, sx_ob4, sx_ob5, sx_ob6, sx_ob7, sx_ob8, sx_ob9, sx_ob10, sx_ob11, sx_ob12, sx_ob13, sx_ob14, sx_ob15, sx_ob16, sx_ob17, sx_ob18, sx_ob19, sx_ob20, sx_ob21, sx_ob22, sx_ob23, sx_ob24, sx_ob25, sx_ob26, sx_ob27, sx_ob28, sx_ob29, sx_ob30, sx_ob31, sx_ob32, sx_ob33, sx_ob34, sx_ob35, sx_ob36, sx_fv0_0, sx_fv0_1, sx_fv0_2, sx_fv0_3, sx_fv0_4, sx_fv0_5, sx_fv1_0, sx_fv1_1, sx_fv1_2, sx_fv3_0, sx_fv3_1, sx_fv3_2, sx_fv3_3, sx_fv3_4, sx_fv7_0, sx_fv7_1, sx_fv7_2, sx_fv7_3, sx_fv7_4, sx_fv7_5, sx_fv7_6, sx_fv7_7, sx_fv7_8, sx_fv7_9, sx_fv7_10, sx_fv9_0, sx_fv9_1, sx_fv9_2, sx_fv9_3, sx_fv11_0, sx_fv11_1, sx_fv11_2, sx_fv11_3, sx_fv11_4, sx_fv11_5, sx_fv11_6, sx_fv15_0, sx_fv15_1, sx_fv15_2, sx_fv15_3, sx_fv15_4, sx_fv15_5, sx_fv19_0, sx_fv19_1, sx_fv19_2, sx_fv19_3, sx_fv19_4, sx_fv19_5, sx_fv19_6, sx_fv24_0, sx_fv24_1, sx_fv24_2, sx_fv24_3, sx_fv24_4, sx_fv24_5, sx_fv24_6, sx_fv24_7, sx_fv24_8, sx_fv24_9, sx_fv24_10, sx_fv24_11, sx_fv24_12, sx_fv24_13, sx_fv24_14, sx_fv24_15, sx_fv24_16, sx_fv24_17, sx_fv24_18, sx_fvS_0, sx_fvS_1, sx_fvS_2, sx_fvS_3, sx_fvS_4, sx_fvS_5, sx_fvS_6, sx_fvS_7, sx_fvS_8, sx_fvS_9, sx_ar2, sx_ar4, sx_ar5, sx_ar6, sx_ar8, sx_ar10, sx_ar12, sx_ar13, sx_ar14, sx_ar16, sx_ar17, sx_ar18, sx_ar20, sx_ar21, sx_ar22, sx_ar23, sx_ar25, sx_ar26, sx_ar27, sx_ar28, sx_ar29, sx_ar30, sx_ar31, sx_ar32, sx_ar33, sx_ar34, sx_ar35, sx_ar36, sy_ob_S, sy_ob_W, sy_ar_W, sx_if0, sx_if1, sx_ie0, sx_em, Classical.not_not, sx_cle, sx_clt, sx_cge, sx_cgt, sx_ceq, Nat.reduceLT, Nat.reduceLeDiff, Nat.reduceAdd, Nat.reduceSub, Nat.reduceEqDiff, reduceIte, List.length_cons, List.length_nil, true_and, and_true, and_self, Bool.false_eq_true, true_implies, not_true_eq_false, not_false_eq_true, false_implies, implies_true, ne_eq, reduceCtorEq, Option.some.injEq, false_and, and_false, Int.reduceNeg, Int.reduceToNat, Int.reduceLT, Int.reduceLE, Int.reduceEq, Int.reduceAdd, Int.reduceSub, Int.reduceMul, or_false, false_or, or_true, true_or, forall_const, Int.toNat_natCast, Int.toNat_zero, Int.toNat_one, Nat.zero_add, or_self, Int.neg_eq_zero]
      rw [c_fl_low hl (a := 3) (by decide) (by decide) (by decide)]
      refine ⟨fun _ => ⟨⟨hl.2.2.2.1, fun k hk => by have := hl.2.2.2.2.1 k hk; omega⟩, h _ ?_⟩, fun c => by omega⟩
      have e0 : f = (st 3 4).toNat := by omega
      subst e0
      exact c_fl_end hl
    | succ d ih =>
      intro f s hf hl
      refine hgo 100 _ _ _ _ ?_
      simp -implicitDefEqProofs only [↓rx_5_findClocks_0, ↓rx_5_findClocks_1, ↓rx_5_findClocks_4, ↓rx_5_findClocks_7, ↓rx_5_findClocks_8, ↓rx_5_findClocks_11, ↓rx_5_findClocks_12, ↓rx_5_findClocks_15, ↓rx_5_findClocks_16, ↓rx_5_findClocks_17, ↓rx_5_findClocks_17_n, ↓rx_5_findClocks_20, ↓rx_5_findClocks_21, ↓rx_5_findClocks_22, ↓rx_5_findClocks_25, ↓rx_5_findClocks_26, ↓rx_5_findClocks_29, ↓rx_5_findClocks_30, ↓rx_5_findClocks_31, ↓rx_5_findClocks_34, ↓rx_5_findClocks_37, ↓rx_5_findClocks_40, ↓rx_5_findClocks_41, ↓rx_5_findClocks_42, ↓rx_5_findClocks_44, ↓rx_5_findClocks_46, ↓rx_5_findClocks_47, ↓rx_5_findClocks_50, ↓rx_5_findClocks_53, ↓rx_5_findClocks_56, ↓rx_5_findClocks_58, ↓rx_5_findClocks_61, ↓rx_5_findClocks_64, ↓rx_5_findClocks_66, ↓rx_5_findClocks_67, ↓rx_5_findClocks_68, ↓rx_5_findClocks_70, ↓rx_5_findClocks_71, ↓rx_5_findClocks_74, ↓rx_5_findClocks_76, ↓rx_5_findClocks_77, ↓rx_5_findClocks_78, ↓rx_5_findClocks_79, ↓rx_5_findClocks_80, ↓rx_5_findClocks_81, ↓rx_5_findClocks_82, ↓rx_5_findClocks_83, ↓rx_5_findClocks_86, ↓rx_5_findClocks_88, ↓rx_5_findClocks_91, ↓rx_5_findClocks_94, ↓rx_5_findClocks_95, ↓rx_5_findClocks_98, ↓rx_5_findClocks_99, ↓rx_5_findClocks_101, ↓rx_5_findClocks_102, ↓rx_5_findClocks_103, ↓rx_5_findClocks_106, ↓rx_5_findClocks_108, ↓rx_5_findClocks_109, ↓rx_5_findClocks_112, ↓rx_5_findClocks_113, ↓rx_5_findClocks_114, ↓rx_5_findClocks_117, ↓rx_5_findClocks_120, ↓rx_5_findClocks_121, ↓rx_5_findClocks_124, ↓rx_5_findClocks_126, ↓rx_5_findClocks_127, ↓rx_5_findClocks_129, ↓rx_5_findClocks_132, ↓rx_5_findClocks_135, ↓rx_5_findClocks_138, ↓rx_5_findClocks_139, ↓rx_5_findClocks_142, ↓rx_5_findClocks_145, ↓cx_5_findClocks_76, ↓cx_5_findClocks_96, ↓cx_5_findClocks_120, ↓cx_5_findClocks_126, ↓cx_5_findClocks_150, ↓cx_5_findClocks_153, ↓cx_5_findClocks_156, sp_0_addOf, sp_0_clear, sp_0_sumUp, sp_3_measure, sp_3_nth, sp_7_at, sp_M_maxI, ↓sx_s1, ↓sx_s2, ↓sx_s3, ↓sx_s4, ↓sx_s5, ↓sx_s6, ↓sx_m0, ↓sx_m1, ↓sx_m2, ↓sx_m3, ↓sx_m4, ↓sx_m5, ↓sx_m6, ↓sx_k0_, ↓sx_k1_, ↓sx_k2_, ↓sx_k3_, ↓sx_k4_, ↓sx_k5_, ↓sx_k6_, ↓sx_sLL, ↓sx_sAI, ↓sx_mLL, ↓sx_mIIL, ↓sx_mIILL, ↓sx_mIILLL, ↓sx_qS, ↓sx_qSI, ↓sx_qSIII, sx_rit, sx_rif, sx_rlt, sx_rlf, sx_b0, sx_b1, sx_o0, sx_o1i, sx_o1a, sx_o1l, sx_o2, sx_g0, sx_g1, sx_k1, sx_k2, sx_k3, sx_f1, sx_f2, sx_f3, sx_w0, sx_w1, sx_w2, sx_w3, sx_ts, sx_tn, sx_up, sx_nS1, sx_nS2, sx_nW1, sx_nW2, sx_SW, sx_WS, sy_nS_inj, sy_nW_inj, sx_ob0, sx_ob1, sx_ob2, sx_ob3, sx_ob4, sx_ob5, sx_ob6, sx_ob7, sx_ob8, sx_ob9, sx_ob10, sx_ob11, sx_ob12, sx_ob13, sx_ob14, sx_ob15, sx_ob16, sx_ob17, sx_ob18, sx_ob19, sx_ob20, sx_ob21, sx_ob22, sx_ob23, sx_ob24, sx_ob25, sx_ob26, sx_ob27, sx_ob28, sx_ob29, sx_ob30, sx_ob31, sx_ob32, sx_ob33, sx_ob34, sx_ob35, sx_ob36, sx_fv0_0, sx_fv0_1, sx_fv0_2, sx_fv0_3, sx_fv0_4, sx_fv0_5, sx_fv1_0, sx_fv1_1, sx_fv1_2, sx_fv3_0, sx_fv3_1, sx_fv3_2, sx_fv3_3, sx_fv3_4, sx_fv7_0, sx_fv7_1, sx_fv7_2, sx_fv7_3, sx_fv7_4, sx_fv7_5, sx_fv7_6, sx_fv7_7, sx_fv7_8, sx_fv7_9, sx_fv7_10, sx_fv9_0, sx_fv9_1, sx_fv9_2, sx_fv9_3, sx_fv11_0, sx_fv11_1, sx_fv11_2, sx_fv11_3, sx_fv11_4, sx_fv11_5, sx_fv11_6, sx_fv15_0, sx_fv15_1, sx_fv15_2, sx_fv15_3, sx_fv15_4, sx_fv15_5, sx_fv19_0, sx_fv19_1, sx_fv19_2, sx_fv19_3, sx_fv19_4, sx_fv19_5, sx_fv19_6, sx_fv24_0, sx_fv24_1, sx_fv24_2, sx_fv24_3, sx_fv24_4, sx_fv24_5, sx_fv24_6, sx_fv24_7, sx_fv24_8, sx_fv24_9, sx_fv24_10, sx_fv24_11, sx_fv24_12, sx_fv24_13, sx_fv24_14, sx_fv24_15, sx_fv24_16, sx_fv24_17, sx_fv24_18, sx_fvS_0, sx_fvS_1, sx_fvS_2, sx_fvS_3, sx_fvS_4, sx_fvS_5, sx_fvS_6, sx_fvS_7, sx_fvS_8, sx_fvS_9, sx_ar2, sx_ar4, sx_ar5, sx_ar6, sx_ar8, sx_ar10, sx_ar12, sx_ar13, sx_ar14, sx_ar16, sx_ar17, sx_ar18, sx_ar20, sx_ar21, sx_ar22, sx_ar23, sx_ar25, sx_ar26, sx_ar27, sx_ar28, sx_ar29, sx_ar30, sx_ar31, sx_ar32, sx_ar33, sx_ar34, sx_ar35, sx_ar36, sy_ob_S, sy_ob_W, sy_ar_W, sx_if0, sx_if1, sx_ie0, sx_em, Classical.not_not, sx_cle, sx_clt, sx_cge, sx_cgt, sx_ceq, Nat.reduceLT, Nat.reduceLeDiff, Nat.reduceAdd, Nat.reduceSub, Nat.reduceEqDiff, reduceIte, List.length_cons, List.length_nil, true_and, and_true, and_self, Bool.false_eq_true, true_implies, not_true_eq_false, not_false_eq_true, false_implies, implies_true, ne_eq, reduceCtorEq, Option.some.injEq, false_and, and_false, Int.reduceNeg, Int.reduceToNat, Int.reduceLT, Int.reduceLE, Int.reduceEq, Int.reduceAdd, Int.reduceSub, Int.reduceMul, or_false, false_or, or_true, true_or, forall_const, Int.toNat_natCast, Int.toNat_zero, Int.toNat_one, Nat.zero_add, or_self, Int.neg_eq_zero]
      have l1 := c_fl_low hl (a := 1) (by decide) (by decide) (by decide)
      have l3 := c_fl_low hl (a := 3) (by decide) (by decide) (by decide)
      have l4 := c_fl_low hl (a := 4) (by decide) (by decide) (by decide)
      have l5 := c_fl_low hl (a := 5) (by decide) (by decide) (by decide)
      have l6 := c_fl_low hl (a := 6) (by decide) (by decide) (by decide)
      have l8 := c_fl_low hl (a := 8) (by decide) (by decide) (by decide)
      have hfg := c_fl_fg hl
      have hns : c_net s := (c_net_of l3 l4 l5 l6).2.2.2 hn
      have hrs : c_rng s := c_rng_of2 l1 (c_fl_S hl) hr
      have hob := c_oth_bt hrg hs.2 hhib hrt (i := n) (f := f) hnn (by omega)
      rw [x_pw] at hob
      have e : ((f : Int) + 1) = ((f + 1 : Nat) : Int) := by omega
      have et : (f : Int).tmod (st 3 3) = (f : Int) % st 3 3 := Int.tmod_eq_emod_of_nonneg (by omega)
      have ed : (f : Int).tdiv (st 3 3) = (f : Int) / st 3 3 := Int.tdiv_eq_ediv_of_nonneg (by omega)
      have m1 := Int.emod_nonneg (f : Int) (b := st 3 3) (by omega)
      have m2 := Int.emod_lt_of_pos (f : Int) (b := st 3 3) (by omega)
      have hsh := c_fg_shape hn f (by omega)
      have d1 : 0 ≤ (f : Int) / st 3 3 := Int.ediv_nonneg (by omega) (by omega)
      have d2 : (f : Int) / st 3 3 < c_N st 0 := by
        apply Int.ediv_lt_of_lt_mul (by omega)
        rw [← hn.2.2]; omega
      have d3 := xg_net_N hn.1 0
      have hw := hl.2.2.1 ((f : Int) % st 3 3).toNat (by rw [l3]; omega)
      rw [Int.toNat_of_nonneg m1, hfg, ← hsh.2 1 (by omega) (by omega), ← hsh.2 2 (by omega) (by omega), ← hsh.2 3 (by omega) (by omega), ← hfg] at hw
      have hwr : -1 ≤ s (sy_nW n) ((f : Int) % st 3 3).toNat ∧ s (sy_nW n) ((f : Int) % st 3 3).toNat ≤ 4001 := by
        rcases hw with ⟨_, hW⟩ | ⟨_, h0, h1, _⟩ <;> omega
      have hF : c_F s 0 + c_B s 0 * ((f : Int) / st 3 3) = c_fg s f 0 := by
        rw [(c_net_of l3 l4 l5 l6).1, (c_net_of l3 l4 l5 l6).2.1, hfg]
        exact hsh.1.symm
      have hFr := xg_f_rng hns.1 f
      have hrs1 := hrs.1
      rw [l3, l8, e, et, ed, hF, hob]
      refine ⟨fun c => by omega, fun _ => ⟨fun c => by omega, fun _ => ⟨by omega, by omega, by omega, fun c => ⟨by omega, ?_⟩, fun c => ⟨fun c2 => by omega, fun _ => ⟨by omega, by omega, ⟨hns, by omega, by omega⟩, by omega, hnn, ⟨hrs, hrs1, hwr, ⟨?_, ?_⟩, fun k hk => by have := hl.2.2.2.2.1 k hk; omega⟩, fun g g1 g2 => ⟨by omega, ?_⟩⟩⟩⟩⟩⟩
      · exact hwk _ _ _ _ _ (by exact ⟨Or.inl rfl, Or.inl rfl, Or.inl rfl, Or.inl rfl, Or.inl rfl, Or.inr rfl, Or.inr rfl, trivial⟩) (ih (f + 1) s (by omega) (c_fl_skip hl c))
      · have := hFr.1; unfold c_fg; omega
      · have := hFr.1; unfold c_fg; omega
      · refine hwk _ _ _ _ _ (by exact ⟨Or.inl rfl, Or.inl rfl, Or.inl rfl, Or.inl rfl, Or.inl rfl, Or.inr rfl, Or.inr rfl, trivial⟩) (ih (f + 1) _ (by omega) (c_fl_add hl c g1 (fun j hj => ?_)))
        have := g2 j hj
        rw [c_al_ag hw, c_agt_of l1 hfg (fun k hk => c_fl_S hl n k hk)] at this
        exact this
  have hcl : ∀ a, a ≠ 9 → a ≠ 10 → c_clr st a = st a := fun a a9 a10 => by
    unfold c_clr
    rw [sy_up_ne _ _ a9, sy_up_ne _ _ a9, sy_up_ne _ _ a9]
    funext k
    simp [c_row, a10]
  refine hgo 100 _ _ _ _ ?_
  simp -implicitDefEqProofs only [↓rx_5_findClocks_0, ↓rx_5_findClocks_1, ↓rx_5_findClocks_4, ↓rx_5_findClocks_7, ↓rx_5_findClocks_8, ↓rx_5_findClocks_11, ↓rx_5_findClocks_12, ↓rx_5_findClocks_15, ↓rx_5_findClocks_16, ↓rx_5_findClocks_17, ↓rx_5_findClocks_17_n, ↓rx_5_findClocks_20, ↓rx_5_findClocks_21, ↓rx_5_findClocks_22, ↓rx_5_findClocks_25, ↓rx_5_findClocks_26, ↓rx_5_findClocks_29, ↓rx_5_findClocks_30, ↓rx_5_findClocks_31, ↓rx_5_findClocks_34, ↓rx_5_findClocks_37, ↓rx_5_findClocks_40, ↓rx_5_findClocks_41, ↓rx_5_findClocks_42, ↓rx_5_findClocks_44, ↓rx_5_findClocks_46, ↓rx_5_findClocks_47, ↓rx_5_findClocks_50, ↓rx_5_findClocks_53, ↓rx_5_findClocks_56, ↓rx_5_findClocks_58, ↓rx_5_findClocks_61, ↓rx_5_findClocks_64, ↓rx_5_findClocks_66, ↓rx_5_findClocks_67, ↓rx_5_findClocks_68, ↓rx_5_findClocks_70, ↓rx_5_findClocks_71, ↓rx_5_findClocks_74, ↓rx_5_findClocks_76, ↓rx_5_findClocks_77, ↓rx_5_findClocks_78, ↓rx_5_findClocks_79, ↓rx_5_findClocks_80, ↓rx_5_findClocks_81, ↓rx_5_findClocks_82, ↓rx_5_findClocks_83, ↓rx_5_findClocks_86, ↓rx_5_findClocks_88, ↓rx_5_findClocks_91, ↓rx_5_findClocks_94, ↓rx_5_findClocks_95, ↓rx_5_findClocks_98, ↓rx_5_findClocks_99, ↓rx_5_findClocks_101, ↓rx_5_findClocks_102, ↓rx_5_findClocks_103, ↓rx_5_findClocks_106, ↓rx_5_findClocks_108, ↓rx_5_findClocks_109, ↓rx_5_findClocks_112, ↓rx_5_findClocks_113, ↓rx_5_findClocks_114, ↓rx_5_findClocks_117, ↓rx_5_findClocks_120, ↓rx_5_findClocks_121, ↓rx_5_findClocks_124, ↓rx_5_findClocks_126, ↓rx_5_findClocks_127, ↓rx_5_findClocks_129, ↓rx_5_findClocks_132, ↓rx_5_findClocks_135, ↓rx_5_findClocks_138, ↓rx_5_findClocks_139, ↓rx_5_findClocks_142, ↓rx_5_findClocks_145, ↓cx_5_findClocks_76, ↓cx_5_findClocks_96, ↓cx_5_findClocks_120, ↓cx_5_findClocks_126, ↓cx_5_findClocks_150, ↓cx_5_findClocks_153, ↓cx_5_findClocks_156, sp_0_addOf, sp_0_clear, sp_0_sumUp, sp_3_measure, sp_3_nth, sp_7_at, sp_M_maxI, ↓sx_s1, ↓sx_s2, ↓sx_s3, ↓sx_s4, ↓sx_s5, ↓sx_s6, ↓sx_m0, ↓sx_m1, ↓sx_m2, ↓sx_m3, ↓sx_m4, ↓sx_m5, ↓sx_m6, ↓sx_k0_, ↓sx_k1_, ↓sx_k2_, ↓sx_k3_, ↓sx_k4_, ↓sx_k5_, ↓sx_k6_, ↓sx_sLL, ↓sx_sAI, ↓sx_mLL, ↓sx_mIIL, ↓sx_mIILL, ↓sx_mIILLL, ↓sx_qS, ↓sx_qSI, ↓sx_qSIII, sx_rit, sx_rif, sx_rlt, sx_rlf, sx_b0, sx_b1, sx_o0, sx_o1i, sx_o1a, sx_o1l, sx_o2, sx_g0, sx_g1, sx_k1, sx_k2, sx_k3, sx_f1, sx_f2, sx_f3, sx_w0, sx_w1, sx_w2, sx_w3, sx_ts, sx_tn, sx_up, sx_nS1, sx_nS2, sx_nW1, sx_nW2, sx_SW, sx_WS, sy_nS_inj, sy_nW_inj, sx_ob0, sx_ob1, sx_ob2, sx_ob3, sx_ob4, sx_ob5, sx_ob6, sx_ob7, sx_ob8, sx_ob9, sx_ob10, sx_ob11, sx_ob12, sx_ob13, sx_ob14, sx_ob15, sx_ob16, sx_ob17, sx_ob18, sx_ob19, sx_ob20, sx_ob21, sx_ob22, sx_ob23, sx_ob24, sx_ob25, sx_ob26, sx_ob27, sx_ob28, sx_ob29, sx_ob30, sx_ob31, sx_ob32, sx_ob33, sx_ob34, sx_ob35, sx_ob36, sx_fv0_0, sx_fv0_1, sx_fv0_2, sx_fv0_3, sx_fv0_4, sx_fv0_5, sx_fv1_0, sx_fv1_1, sx_fv1_2, sx_fv3_0, sx_fv3_1, sx_fv3_2, sx_fv3_3, sx_fv3_4, sx_fv7_0, sx_fv7_1, sx_fv7_2, sx_fv7_3, sx_fv7_4, sx_fv7_5, sx_fv7_6, sx_fv7_7, sx_fv7_8, sx_fv7_9, sx_fv7_10, sx_fv9_0, sx_fv9_1, sx_fv9_2, sx_fv9_3, sx_fv11_0, sx_fv11_1, sx_fv11_2, sx_fv11_3, sx_fv11_4, sx_fv11_5, sx_fv11_6, sx_fv15_0, sx_fv15_1, sx_fv15_2, sx_fv15_3, sx_fv15_4, sx_fv15_5, sx_fv19_0, sx_fv19_1, sx_fv19_2, sx_fv19_3, sx_fv19_4, sx_fv19_5, sx_fv19_6, sx_fv24_0, sx_fv24_1, sx_fv24_2, sx_fv24_3, sx_fv24_4, sx_fv24_5, sx_fv24_6, sx_fv24_7, sx_fv24_8, sx_fv24_9, sx_fv24_10, sx_fv24_11, sx_fv24_12, sx_fv24_13, sx_fv24_14, sx_fv24_15, sx_fv24_16, sx_fv24_17, sx_fv24_18, sx_fvS_0, sx_fvS_1, sx_fvS_2, sx_fvS_3, sx_fvS_4, sx_fvS_5, sx_fvS_6, sx_fvS_7, sx_fvS_8, sx_fvS_9, sx_ar2, sx_ar4, sx_ar5, sx_ar6, sx_ar8, sx_ar10, sx_ar12, sx_ar13, sx_ar14, sx_ar16, sx_ar17, sx_ar18, sx_ar20, sx_ar21, sx_ar22, sx_ar23, sx_ar25, sx_ar26, sx_ar27, sx_ar28, sx_ar29, sx_ar30, sx_ar31, sx_ar32, sx_ar33, sx_ar34, sx_ar35, sx_ar36, sy_ob_S, sy_ob_W, sy_ar_W, sx_if0, sx_if1, sx_ie0, sx_em, Classical.not_not, sx_cle, sx_clt, sx_cge, sx_cgt, sx_ceq, Nat.reduceLT, Nat.reduceLeDiff, Nat.reduceAdd, Nat.reduceSub, Nat.reduceEqDiff, reduceIte, List.length_cons, List.length_nil, true_and, and_true, and_self, Bool.false_eq_true, true_implies, not_true_eq_false, not_false_eq_true, false_implies, implies_true, ne_eq, reduceCtorEq, Option.some.injEq, false_and, and_false, Int.reduceNeg, Int.reduceToNat, Int.reduceLT, Int.reduceLE, Int.reduceEq, Int.reduceAdd, Int.reduceSub, Int.reduceMul, or_false, false_or, or_true, true_or, forall_const, Int.toNat_natCast, Int.toNat_zero, Int.toNat_one, Nat.zero_add, or_self, Int.neg_eq_zero]
  have hS9 : sy_nS n ≠ 9 := by unfold sy_nS; omega
  have hW9 : sy_nW n ≠ 9 := by unfold sy_nW; omega
  have hS10 : sy_nS n ≠ 10 := by unfold sy_nS; omega
  have hW10 : sy_nW n ≠ 10 := by unfold sy_nW; omega
  have c3 := hcl 3 (by decide) (by decide)
  have hfg : c_fg (c_clr st) = c_fg st := c_fg_of (hcl 4 (by decide) (by decide)) (hcl 5 (by decide) (by decide)) (hcl 6 (by decide) (by decide))
  have emax : (if c_clr st 3 3 ≤ 1 then 1 else c_clr st 3 3) = st 3 3 := by rw [c3]; split <;> omega
  refine ⟨by unfold c_site; rw [hcl 1 (by decide) (by decide)]; exact hs, fun _ => ⟨by omega, ⟨(c_net_of c3 (hcl 4 (by decide) (by decide)) (hcl 5 (by decide) (by decide)) (hcl 6 (by decide) (by decide))).2.2.2 hn, c_rng_of2 (hcl 1 (by decide) (by decide)) (fun i k _ => by rw [hcl (sy_nS i) (by unfold sy_nS; omega) (by unfold sy_nS; omega)]) hr⟩, fun c => ?_, fun c g hg => ?_⟩, fun c => absurd hi0 c⟩
  · rw [emax]
    refine key (st 3 4).toNat 0 _ (by omega) (c_fl_0 (fun a a9 a10 _ _ => hcl a a9 a10) (fun k _ => by rw [hcl _ hS9 hS10]) ?_ ⟨rfl, rfl, rfl⟩ (fun k hk => ?_))
    · rw [hcl _ hS9 hS10] at c
      exact c_wok_of c3 hfg (by rw [hcl _ hS9 hS10]) (hcl _ hW9 hW10) (hwkk n hnn c)
    · show (if k < 102 then 0 else st 10 k) = 0
      rw [if_pos hk]
  · have e3 : c_row (c_clr st) (sy_nW n) g 3 = st 3 := by
      rw [c_row_ne (c_W_ne (by decide)), c3]
    have hall : ∀ a, a ≠ 9 → a ≠ 10 → a ≠ sy_nW n → a ≠ sy_nS n → sy_up (c_row (c_clr st) (sy_nW n) g) (sy_nS n) 3 1 a = st a := fun a a9 a10 aw as => by
      rw [sy_up_ne _ _ as, c_row_ne aw, hcl a a9 a10]
    have hlow : ∀ a, a < 37 → sy_up (c_row (c_clr st) (sy_nW n) g) (sy_nS n) 3 1 a = c_clr st a := fun a ha => by
      rw [sy_up_ne _ _ (by unfold sy_nS; omega), c_row_ne (c_W_ne ha)]
    have hSk : ∀ k, k ≠ 3 → sy_up (c_row (c_clr st) (sy_nW n) g) (sy_nS n) 3 1 (sy_nS n) k = st (sy_nS n) k := fun k hk => by
      simp only [sy_up, hk, and_false, if_false]
      rw [c_row_ne (c_WS_ne n n), hcl _ hS9 hS10]
    have emax2 : (if c_row (c_clr st) (sy_nW n) g 3 3 ≤ 1 then 1 else c_row (c_clr st) (sy_nW n) g 3 3) = st 3 3 := by rw [e3]; split <;> omega
    rw [emax2]
    refine key (st 3 4).toNat 0 _ (by omega) (c_fl_0 hall hSk ?_ ?_ (fun k hk => ?_))
    · unfold c_wok
      rw [hlow 3 (by decide), c_fg_of (hlow 4 (by decide)) (hlow 5 (by decide)) (hlow 6 (by decide)), hSk 0 (by decide), sy_up_ne _ _ (sy_nW_nS n n), c_row_eq]
      rw [hcl _ hS9 hS10] at hg
      exact hg
    · rw [hlow 9 (by decide)]; exact ⟨rfl, rfl, rfl⟩
    · rw [hlow 10 (by decide)]
      show (if k < 102 then 0 else st 10 k) = 0
      rw [if_pos hk]
/-- the clock's answer -/
def c_ckb (ns : Nat) (st : sy_S) (i : Nat) (p : Nat → Bool) : Prop := ∀ j, j < 101 → (p j = true ↔ c_ckn ns st i j (st 3 4).toNat)
def c_ckp (ns : Nat) (st st' : sy_S) (i : Nat) : Prop := ∃ p : Nat → Bool, c_ckb ns st i p ∧ st' 9 1 = xc p 101 ∧ st' 9 2 = x_fst p 101 ∧ st' 9 3 = x_lst p 101
/-- what is kept of the clocks found last -/
def c_ckk (ns : Nat) (st : sy_S) : Prop := st 7 10 = -1 ∨ (∃ i : Nat, i < ns ∧ st 7 10 = i ∧ c_ckp ns st st i)
/-- what asking for a clock leaves -/
def c_ckr (ns : Nat) (st st' : sy_S) : Prop := (∀ a, a ≠ 7 → a ≠ 8 → a ≠ 9 → a ≠ 10 → (∀ i, i < ns → a ≠ sy_nW i ∧ a ≠ sy_nS i) → st' a = st a) ∧ (∀ i k, k ≠ 3 → st' (sy_nS i) k = st (sy_nS i) k) ∧ c_sv ns st' ∧ c_ckk ns st'
def c_ckv (w : Int) (p : Nat → Bool) : Int := if w = 0 then xc p 101 else if w = 1 then x_fst p 101 else if w = 2 then x_lst p 101 else -1000
theorem x_lst_no {p : Nat → Bool} : ∀ n : Nat, xc p n = 0 → x_lst p n = -1000
  | 0, _ => rfl
  | n + 1, h => by
    have := xc_rng p n
    simp only [xc] at h
    simp only [x_lst]
    by_cases hp : p n = true
    · rw [if_pos hp] at h; omega
    · rw [if_neg hp] at h ⊢
      exact x_lst_no n (by omega)
/-- the search's data carried over -/
theorem c_sv_of {ns : Nat} {st st' : sy_S} (h1 : st' 1 = st 1) (h3 : st' 3 = st 3) (h4 : st' 4 = st 4) (h5 : st' 5 = st 5) (h6 : st' 6 = st 6) (h8 : st' 8 = st 8) (hS : ∀ i k, k ≠ 3 → st' (sy_nS i) k = st (sy_nS i) k) (h7 : ∀ k, 3 ≤ k → k ≤ 8 → st' 7 k = st 7 k) (hw : ∀ i, i < ns → c_wk st' i) (hv : c_sv ns st) : c_sv ns st' := by
  have hfg := c_fg_of h4 h5 h6
  obtain ⟨⟨hs, hr, hn, hwkk⟩, hhib, hst, hsum⟩ := hv
  have hwr : ∀ f : Int, c_wr ns st' f = c_wr ns st f := c_wr_of h1 hfg hS
  have hft : c_ft ns st' = c_ft ns st := by funext f; unfold c_ft; rw [hwr]
  have hb : c_best ns st' = c_best ns st := by unfold c_best; rw [h3]; exact xb_ext _ (fun i _ => hwr i)
  refine ⟨⟨?_, c_rng_of2 h1 hS hr, (c_net_of h3 h4 h5 h6).2.2.2 hn, hw⟩, fun f i a b => by rw [h8]; exact hhib f i a b, fun f i hf hi hb => ?_, fun hz => ?_⟩
  · unfold c_site at hs ⊢; rw [h1]; exact hs
  · rw [h3] at hf
    rw [h7 3 (by decide) (by decide)] at hb
    rw [h8, c_ag_of h1 hfg (fun k hk => hS i k hk)]
    exact hst f i hf hi hb
  · rw [h7 3 (by decide) (by decide)] at hz
    obtain ⟨a, b, c, d, e⟩ := hsum hz
    unfold c_sums
    rw [h7 4 (by decide) (by decide), h7 5 (by decide) (by decide), h7 6 (by decide) (by decide), h7 7 (by decide) (by decide), h7 8 (by decide) (by decide), hft, c_wh_of hfg, h3, hb, hwr]
    exact ⟨a, b, c, d, e⟩
theorem c_ckn_of {ns : Nat} {st st' : sy_S} (h1 : st' 1 = st 1) (hf : c_fg st' = c_fg st) (hS : ∀ i k, k ≠ 3 → st' (sy_nS i) k = st (sy_nS i) k) (i j n : Nat) : c_ckn ns st' i j n ↔ c_ckn ns st i j n := by
  have e : ∀ f : Nat, c_oth ns st' i f ↔ c_oth ns st i f := fun f => by
    unfold c_oth
    simp only [fun g : Nat => c_ag_of (i := g) h1 hf (fun k hk => hS g k hk) f]
  unfold c_ckn
  simp only [e, c_agt_of h1 hf (fun k hk => hS i k hk)]
theorem c_ckb_of {ns : Nat} {st st' : sy_S} (h1 : st' 1 = st 1) (h3 : st' 3 = st 3) (hf : c_fg st' = c_fg st) (hS : ∀ i k, k ≠ 3 → st' (sy_nS i) k = st (sy_nS i) k) {i : Nat} {p : Nat → Bool} (h : c_ckb ns st i p) : c_ckb ns st' i p := fun j hj => by
  rw [c_ckn_of h1 hf hS, h3]
  exact h j hj
theorem c_ck_tail {post : sy_R} {st : sy_S} {w a b c : Int} {p : Nat → Bool} (ha : a = xc p 101) (hb : b = x_fst p 101) (hc : c = x_lst p 101) (h : post (some (.inl (true, c_ckv w p))) st) : (¬w = 0 →
          (w = 1 →
              (¬a = 0 →
                  (¬w = 1 → post (some (Sum.inl (true, c))) st) ∧
                    (w = 1 → post (some (Sum.inl (true, b))) st)) ∧
                (a = 0 → post (some (Sum.inl (true, -1000))) st)) ∧
            (¬w = 1 →
              (¬w = 2 → post (some (Sum.inl (true, -1000))) st) ∧
                (w = 2 →
                  (¬a = 0 →
                      (¬w = 1 → post (some (Sum.inl (true, c))) st) ∧
                        (w = 1 → post (some (Sum.inl (true, b))) st)) ∧
                    (a = 0 → post (some (Sum.inl (true, -1000))) st)))) ∧
        (w = 0 → post (some (Sum.inl (true, a))) st) := by
  have n1 := x_fst_no p 101 (by decide)
  have n2 := x_lst_no (p := p) 101
  unfold c_ckv at h
  generalize xc p 101 = A at *
  generalize x_fst p 101 = B at *
  generalize x_lst p 101 = C at *
  subst ha hb hc
  refine ⟨fun w0 => ⟨fun w1 => ⟨fun z => ⟨fun q => absurd w1 q, fun _ => ?_⟩, fun z => ?_⟩, fun w1 => ⟨fun w2 => ?_, fun w2 => ⟨fun z => ⟨fun _ => ?_, fun q => absurd q w1⟩, fun z => ?_⟩⟩⟩, fun w0 => ?_⟩
  · rwa [if_neg w0, if_pos w1] at h
  · rw [if_neg w0, if_pos w1, n1.mpr z] at h; exact h
  · rwa [if_neg w0, if_neg w1, if_neg w2] at h
  · rwa [if_neg w0, if_neg w1, if_pos w2] at h
  · rw [if_neg w0, if_neg w1, if_pos w2, n2 z] at h; exact h
  · rwa [if_pos w0] at h
def sp_5_clockOf (ns : Nat) : sy_Sp := sy_m2 7 fun i w st post => (c_sv ns st ∧ c_ckk ns st ∧ (0 ≤ i ∧ i < ns)) ∧ ∀ st' p, c_ckr ns st st' → c_ckb ns st i.toNat p → post (some (.inl (true, c_ckv w p))) st'
def ct_5_clockOf (ns q : Nat) : Option (Bool × Nat × sy_Sp) := match q with
  | 39 => some (false, 1, sp_5_refresh ns)
  | 60 => some (false, 2, sp_5_findClocks ns)
  | _ => none
abbrev M_5_clockOf (ns : Nat) : sy_M := Mk_5_clockOf (ct_5_clockOf ns)
theorem cx_5_clockOf_39 {ns : Nat} {v1 : sy_V} {r : List sy_V} {s : sy_S} {f : List sy_V → sy_S → Prop} : sy_call false (ct_5_clockOf ns 39) (v1 :: r) s f = (sy_wd r ≤ 8 ∧ (sy_fit v1) ∧ sp_5_refresh ns [sy_kn v1] s (fun q t => f (q.toList ++ r) t)) := sx_call1
theorem cx_5_clockOf_60 {ns : Nat} {v1 v2 : sy_V} {r : List sy_V} {s : sy_S} {f : List sy_V → sy_S → Prop} : sy_call false (ct_5_clockOf ns 60) (v2 :: v1 :: r) s f = (sy_wd r ≤ 8 ∧ (sy_fit v2 ∧ sy_fit v1) ∧ sp_5_findClocks ns [sy_kn v1, sy_kn v2] s (fun q t => f (q.toList ++ r) t)) := sx_call2
theorem mv_5_clockOf (ns : Nat) : sy_MV c_5_clockOf y_5_clockOf.cls (some .int) (M_5_clockOf ns) := ⟨tv_5_clockOf, ff_5_ok, ki_5_ok, kl_5_ok⟩
abbrev rm_5_clockOf : Room := { frames := 5, cells := 0, slots := 0, locals := 119 }
theorem iw_5_findClocks : Cond.code y_5_findClocks c_5_findClocks 7 none ∈ sy_tb ∧ Cond.initialized y_5_findClocks.cls ∈ sy_tb ∧ (y_5_findClocks.cls ≠ "java/lang/invoke/MethodHandle" ∧ y_5_findClocks.cls ≠ "java/lang/invoke/VarHandle" ∧ (parseMethodDescriptor y_5_findClocks.desc).map (fun d => d.parameters.length) = some 1) := ⟨sy_inx 591 (by decide +kernel) (by decide +kernel), sy_inx 48 (by decide +kernel) (by decide +kernel), by decide +kernel⟩
theorem ii_5_findClocks : Cond.instanceMethod y_5_findClocks ∈ sy_tb ∧ Cond.selects y_5_findClocks.cls y_5_findClocks y_5_findClocks ∈ sy_tb := ⟨sy_inx 590 (by decide +kernel) (by decide +kernel), sy_inx 8 (by decide +kernel) (by decide +kernel)⟩
theorem co_5_clockOf (l : Launch) : sy_calls l rm_5_clockOf y_5_clockOf.cls c_5_clockOf 3 (fun ns => (M_5_clockOf ns).2.2.2.2.1) := by
  intro p e s m args below meth c rt wd ad ns A Q X hA q b n sp h
  replace h : ct_5_clockOf ns q = some (b, n, sp) := h
  unfold ct_5_clockOf at h
  split at h
  · cases h; exact sy_coV (ci := 5) X hA (mc_5_refresh l) ⟨iw_5_refresh.1, iw_5_refresh.2.1, iw_5_refresh.2.2, ⟨by decide, by decide⟩, rfl, rfl⟩ (sy_inx 474 (by decide +kernel) (by decide +kernel)) ii_5_refresh.1 ii_5_refresh.2 (rc_5_refresh ns) ⟨_, rfl, rfl⟩
  · cases h; exact sy_coV (ci := 5) X hA (mc_5_findClocks l) ⟨iw_5_findClocks.1, iw_5_findClocks.2.1, iw_5_findClocks.2.2, ⟨by decide, by decide⟩, rfl, rfl⟩ (sy_inx 588 (by decide +kernel) (by decide +kernel)) ii_5_findClocks.1 ii_5_findClocks.2 (rc_5_findClocks ns) ⟨_, rfl, rfl⟩
  · cases h
theorem rc_5_clockOf (ns : Nat) (as : List sy_V) (st : sy_S) (post : sy_R) (h : sp_5_clockOf ns as st post) : ∃ b as', as = .inr (.inr (some (some b))) :: as' ∧ sy_ob b = some 5 := sy_m2_r rfl as st post h
theorem mc_5_clockOf (l : Launch) : sy_MC l y_5_clockOf c_5_clockOf 3 (some .int) rm_5_clockOf sp_5_clockOf := by
  refine sy_meth M_5_clockOf (by decide +kernel) mv_5_clockOf (co_5_clockOf l) ?_
  intro ns as st post WA h hok hrg ⟨hgo0, hin, hwk⟩
  have hgo : ∀ (n pc : Nat) (L k : List sy_V) (st : sy_S), rn_5_clockOf ns (ct_5_clockOf ns) post WA n pc L k st → WA pc L k st := fun n pc L k st h => hgo0 [] n pc L k st h
  replace h := sy_m2_e h hok
  obtain ⟨i, w, rfl, hi, hw, h⟩ := h
  refine ⟨Nat.le_of_ble_eq_true rfl, ?_⟩
  show WA 0 [.inr (.inr (some (some 7))), .inl (true, i), .inl (true, w)] [] st
  obtain ⟨⟨hv, hc, hi0⟩, h⟩ := h
  obtain ⟨n, rfl⟩ : ∃ n : Nat, i = n := ⟨i.toNat, by omega⟩
  rw [Int.toNat_natCast] at h
  have hnn : n < ns := by omega
  refine hgo 100 _ _ _ _ ?_
  simp -implicitDefEqProofs only [↓rx_5_clockOf_0, ↓rx_5_clockOf_1, ↓rx_5_clockOf_4, ↓rx_5_clockOf_5, ↓rx_5_clockOf_8, ↓rx_5_clockOf_9, ↓rx_5_clockOf_12, ↓rx_5_clockOf_13, ↓rx_5_clockOf_14, ↓rx_5_clockOf_17, ↓rx_5_clockOf_18, ↓rx_5_clockOf_19, ↓rx_5_clockOf_22, ↓rx_5_clockOf_23, ↓rx_5_clockOf_26, ↓rx_5_clockOf_27, ↓rx_5_clockOf_30, ↓rx_5_clockOf_33, ↓rx_5_clockOf_34, ↓rx_5_clockOf_35, ↓rx_5_clockOf_36, ↓rx_5_clockOf_39, ↓rx_5_clockOf_40, ↓rx_5_clockOf_41, ↓rx_5_clockOf_44, ↓rx_5_clockOf_45, ↓rx_5_clockOf_48, ↓rx_5_clockOf_51, ↓rx_5_clockOf_54, ↓rx_5_clockOf_57, ↓rx_5_clockOf_58, ↓rx_5_clockOf_59, ↓rx_5_clockOf_60, ↓rx_5_clockOf_63, ↓rx_5_clockOf_64, ↓rx_5_clockOf_67, ↓rx_5_clockOf_70, ↓rx_5_clockOf_73, ↓rx_5_clockOf_74, ↓rx_5_clockOf_77, ↓rx_5_clockOf_80, ↓cx_5_clockOf_39, ↓cx_5_clockOf_60, sp_5_findClocks, sp_5_refresh, ↓sx_s1, ↓sx_s2, ↓sx_s3, ↓sx_s4, ↓sx_s5, ↓sx_s6, ↓sx_m0, ↓sx_m1, ↓sx_m2, ↓sx_m3, ↓sx_m4, ↓sx_m5, ↓sx_m6, ↓sx_k0_, ↓sx_k1_, ↓sx_k2_, ↓sx_k3_, ↓sx_k4_, ↓sx_k5_, ↓sx_k6_, ↓sx_sLL, ↓sx_sAI, ↓sx_mLL, ↓sx_mIIL, ↓sx_mIILL, ↓sx_mIILLL, ↓sx_qS, ↓sx_qSI, ↓sx_qSIII, sx_rit, sx_rif, sx_rlt, sx_rlf, sx_b0, sx_b1, sx_o0, sx_o1i, sx_o1a, sx_o1l, sx_o2, sx_g0, sx_g1, sx_k1, sx_k2, sx_k3, sx_f1, sx_f2, sx_f3, sx_w0, sx_w1, sx_w2, sx_w3, sx_ts, sx_tn, sx_up, sx_nS1, sx_nS2, sx_nW1, sx_nW2, sx_SW, sx_WS, sy_nS_inj, sy_nW_inj, sx_ob0, sx_ob1, sx_ob2, sx_ob3, sx_ob4, sx_ob5, sx_ob6, sx_ob7, sx_ob8, sx_ob9, sx_ob10, sx_ob11, sx_ob12, sx_ob13, sx_ob14, sx_ob15, sx_ob16, sx_ob17, sx_ob18, sx_ob19, sx_ob20, sx_ob21, sx_ob22, sx_ob23, sx_ob24, sx_ob25, sx_ob26, sx_ob27, sx_ob28, sx_ob29, sx_ob30, sx_ob31, sx_ob32, sx_ob33, sx_ob34, sx_ob35, sx_ob36, sx_fv0_0, sx_fv0_1, sx_fv0_2, sx_fv0_3, sx_fv0_4, sx_fv0_5, sx_fv1_0, sx_fv1_1, sx_fv1_2, sx_fv3_0, sx_fv3_1, sx_fv3_2, sx_fv3_3, sx_fv3_4, sx_fv7_0, sx_fv7_1, sx_fv7_2, sx_fv7_3, sx_fv7_4, sx_fv7_5, sx_fv7_6, sx_fv7_7, sx_fv7_8, sx_fv7_9, sx_fv7_10, sx_fv9_0, sx_fv9_1, sx_fv9_2, sx_fv9_3, sx_fv11_0, sx_fv11_1, sx_fv11_2, sx_fv11_3, sx_fv11_4, sx_fv11_5, sx_fv11_6, sx_fv15_0, sx_fv15_1, sx_fv15_2, sx_fv15_3, sx_fv15_4, sx_fv15_5, sx_fv19_0, sx_fv19_1, sx_fv19_2, sx_fv19_3, sx_fv19_4, sx_fv19_5, sx_fv19_6, sx_fv24_0, sx_fv24_1, sx_fv24_2, sx_fv24_3, sx_fv24_4, sx_fv24_5, sx_fv24_6, sx_fv24_7, sx_fv24_8, sx_fv24_9, sx_fv24_10, sx_fv24_11, sx_fv24_12, sx_fv24_13, sx_fv24_14, sx_fv24_15, sx_fv24_16, sx_fv24_17, sx_fv24_18, sx_fvS_0, sx_fvS_1, sx_fvS_2, sx_fvS_3, sx_fvS_4, sx_fvS_5, sx_fvS_6, sx_fvS_7, sx_fvS_8, sx_fvS_9, sx_ar2, sx_ar4, sx_ar5, sx_ar6, sx_ar8, sx_ar10, sx_ar12, sx_ar13, sx_ar14, sx_ar16, sx_ar17, sx_ar18, sx_ar20, sx_ar21, sx_ar22, sx_ar23, sx_ar25, sx_ar26, sx_ar27, sx_ar28, sx_ar29, sx_ar30, sx_ar31, sx_ar32, sx_ar33, sx_ar34, sx_ar35, sx_ar36, sy_ob_S, sy_ob_W, sy_ar_W, sx_if0, sx_if1, sx_ie0, sx_em, Classical.not_not, sx_cle, sx_clt, sx_cge, sx_cgt, sx_ceq, Nat.reduceLT, Nat.reduceLeDiff, Nat.reduceAdd, Nat.reduceSub, Nat.reduceEqDiff, reduceIte, List.length_cons, List.length_nil, true_and, and_true, and_self, Bool.false_eq_true, true_implies, not_true_eq_false, not_false_eq_true, false_implies, implies_true, ne_eq, reduceCtorEq, Option.some.injEq, false_and, and_false, Int.reduceNeg, Int.reduceToNat, Int.reduceLT, Int.reduceLE, Int.reduceEq, Int.reduceAdd, Int.reduceSub, Int.reduceMul, or_false, false_or, or_true, true_or, forall_const, Int.toNat_natCast, Int.toNat_zero, Int.toNat_one, Nat.zero_add, or_self, Int.neg_eq_zero]
  refine ⟨fun c => ?_, fun c => ⟨hv, fun s hf => ⟨⟨c_rf_sv hf hv, hf.2.2.2.2.1, hi0⟩, fun s' hc => ?_⟩⟩⟩
  · rcases hc with hc | ⟨m, hm, e, p, hp, h1, h2, h3⟩
    · omega
    · have hin : m = n := by omega
      subst hin
      exact c_ck_tail h1 h2 h3 (h st p ⟨fun _ _ _ _ _ _ => rfl, fun _ _ _ => rfl, hv, Or.inr ⟨m, hm, e, p, hp, h1, h2, h3⟩⟩ hp)
  · obtain ⟨f1, f2, f3, p, hp, p1, p2, p3⟩ := hc
    have hsm := hf.1
    have hlow : ∀ a, a < 37 → a ≠ 7 → a ≠ 9 → a ≠ 10 → sy_up s' 7 10 n a = s a := fun a ha a7 a9 a10 => by
      rw [sy_up_ne _ _ a7]
      exact f1 a a9 a10 (c_W_ne ha) (by unfold sy_nS; omega)
    have hS : ∀ i k, k ≠ 3 → sy_up s' 7 10 n (sy_nS i) k = s (sy_nS i) k := fun i k hk => by
      rw [sy_up_ne _ _ (c_S_7 i)]
      by_cases hin : i = n
      · subst hin; exact f2 k hk
      · rw [f1 (sy_nS i) (by unfold sy_nS; omega) (by unfold sy_nS; omega) (c_WS_ne n i) (fun z => hin ((sy_nS_inj i n).mp z))]
    have hfg : c_fg (sy_up s' 7 10 n) = c_fg s := c_fg_of (hlow 4 (by decide) (by decide) (by decide) (by decide)) (hlow 5 (by decide) (by decide) (by decide) (by decide)) (hlow 6 (by decide) (by decide) (by decide) (by decide))
    have hck : c_ckb ns (sy_up s' 7 10 n) n p := c_ckb_of (hlow 1 (by decide) (by decide) (by decide) (by decide)) (hlow 3 (by decide) (by decide) (by decide) (by decide)) hfg hS hp
    have hst : c_ckb ns st n p := c_ckb_of (c_same_low hsm (by decide) (by decide) (by decide)).symm (c_same_low hsm (by decide) (by decide) (by decide)).symm (c_same_fg hsm).symm (fun i k hk => (hsm.2.1 i k hk).symm) hp
    refine c_ck_tail p1 p2 p3 (h _ p ⟨fun a a7 a8 a9 a10 hh => ?_, fun i k hk => ?_, ?_, Or.inr ⟨n, hnn, rfl, p, hck, p1, p2, p3⟩⟩ hst)
    · rw [sy_up_ne _ _ a7, f1 a a9 a10 (hh n hnn).1 (hh n hnn).2]
      exact hsm.1 a a7 a8 hh
    · rw [hS i k hk]; exact hsm.2.1 i k hk
    · refine c_sv_of (hlow 1 (by decide) (by decide) (by decide) (by decide)) (hlow 3 (by decide) (by decide) (by decide) (by decide)) (hlow 4 (by decide) (by decide) (by decide) (by decide)) (hlow 5 (by decide) (by decide) (by decide) (by decide)) (hlow 6 (by decide) (by decide) (by decide) (by decide)) (hlow 8 (by decide) (by decide) (by decide) (by decide)) hS (fun k h3 h8 => ?_) (fun i hi => ?_) (c_rf_sv hf hv)
      · have : sy_up s' 7 10 n 7 k = s' 7 k := by
          simp only [sy_up, true_and]
          rw [if_neg (by omega)]
        rw [this, f1 7 (by decide) (by decide) (c_W_ne (by decide)) (by unfold sy_nS; omega)]
      · intro hne
        rw [sy_up_ne _ _ (c_S_7 i)] at hne
        by_cases hin : i = n
        · subst hin
          exact c_wok_of (sy_up_ne _ _ (by decide)) (c_fg_of (sy_up_ne _ _ (by decide)) (sy_up_ne _ _ (by decide)) (sy_up_ne _ _ (by decide))) (by rw [sy_up_ne _ _ (c_S_7 i)]) (sy_up_ne _ _ (c_W_7 i)) (f3 hne)
        · have eS := f1 (sy_nS i) (by unfold sy_nS; omega) (by unfold sy_nS; omega) (c_WS_ne n i) (fun z => hin ((sy_nS_inj i n).mp z))
          have eW := f1 (sy_nW i) (by unfold sy_nW; omega) (by unfold sy_nW; omega) (fun z => hin ((sy_nW_inj i n).mp z)) (sy_nW_nS i n)
          rw [eS] at hne
          exact c_wok_of (hlow 3 (by decide) (by decide) (by decide) (by decide)) hfg (by rw [sy_up_ne _ _ (c_S_7 i), eS]) (by rw [sy_up_ne _ _ (c_W_7 i), eW]) (hf.2.2.1 i hi hne)
