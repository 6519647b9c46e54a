/-! THE CLASS: the search is brought up to date -/
def c_wr (ns : Nat) (st : sy_S) (f : Int) : Int := xc (fun i => !c_ag st f i) ns
def c_ft (ns : Nat) (st : sy_S) (f : Nat) : Bool := decide (c_wr ns st f = 0)
def c_best (ns : Nat) (st : sy_S) : Nat := xb (fun f => c_wr ns st f) ((st 3 4).toNat - 1)
def c_sums (ns : Nat) (st : sy_S) : Prop := st 7 4 = xc (c_ft ns st) (st 3 4).toNat ∧ st 7 5 = xs false (c_ft ns st) (c_wh st) (st 3 4).toNat ∧ st 7 6 = xs true (c_ft ns st) (c_wh st) (st 3 4).toNat ∧ st 7 7 = c_wr ns st (c_best ns st) ∧ st 7 8 = c_best ns st
def c_hib (ns : Nat) (st : sy_S) : Prop := ∀ f i, ns ≤ i → i < 32 → x_bt (st 8 f) i = false
def c_right (ns : Nat) (st : sy_S) : Prop := ∀ f i : Nat, (f : Int) < st 3 4 → i < ns → x_bt (st 8 f) i = !c_ag st f i
/-- what holds of the search at all times -/
def c_sv (ns : Nat) (st : sy_S) : Prop := (c_site ns st ∧ c_rng st ∧ c_net st ∧ ∀ i, i < ns → c_wk st i) ∧ c_hib ns st ∧ (∀ f i : Nat, (f : Int) < st 3 4 → i < ns → x_bt (st 7 3) i = false → x_bt (st 8 f) i = !c_ag st f i) ∧ (st 7 3 = 0 → c_sums ns st)
/-- what a refresh leaves as it is -/
def c_same (ns : Nat) (st st' : sy_S) : Prop := (∀ a, a ≠ 7 → a ≠ 8 → (∀ i, i < ns → a ≠ sy_nW i ∧ a ≠ sy_nS i) → st' a = st a) ∧ (∀ i k, k ≠ 3 → st' (sy_nS i) k = st (sy_nS i) k) ∧ st' 7 10 = st 7 10
def c_rf (ns : Nat) (st st' : sy_S) : Prop := c_same ns st st' ∧ st' 7 3 = 0 ∧ (∀ i, i < ns → c_wk st' i) ∧ c_hib ns st' ∧ c_right ns st' ∧ c_sums ns st'
theorem x_lt16 {z : Int} (hz : sy_iR z) (h : ∀ i, 16 ≤ i → i < 32 → x_bt z i = false) : 0 ≤ z ∧ z < 65536 := by
  have h1 : (Int32.ofInt z).toBitVec.toNat < 2 ^ 16 := by
    apply Nat.lt_pow_two_of_testBit
    intro i hi
    rw [BitVec.testBit_toNat]
    by_cases h32 : i < 32
    · exact h i hi h32
    · exact BitVec.getLsbD_of_ge _ _ (by omega)
  have h2 := sy_t32 hz
  have h3 : (Int32.ofInt z).toInt = (Int32.ofInt z).toBitVec.toInt := rfl
  rw [h3, BitVec.toInt_eq_toNat_of_lt (by omega)] at h2
  omega
theorem xc_ext {p q : Nat → Bool} : ∀ n, (∀ i, i < n → p i = q i) → xc p n = xc q n
  | 0, _ => rfl
  | n + 1, h => by
    simp only [xc]
    rw [xc_ext n (fun i hi => h i (by omega)), h n (by omega)]
theorem xc_more {p : Nat → Bool} (n : Nat) : ∀ k, (∀ i, n ≤ i → i < n + k → p i = false) → xc p (n + k) = xc p n
  | 0, _ => rfl
  | k + 1, h => by
    rw [← Nat.add_assoc]
    simp only [xc]
    rw [xc_more n k (fun i h1 h2 => h i h1 (by omega)), h (n + k) (by omega) (by omega), if_neg (by decide), Int.add_zero]
theorem xs_ext {g : Bool} {p q : Nat → Bool} {v w : Nat → Int} : ∀ n, (∀ i, i < n → p i = q i) → (∀ i, i < n → v i = w i) → xs g p v n = xs g q w n
  | 0, _, _ => rfl
  | n + 1, h, h2 => by
    simp only [xs]
    rw [xs_ext n (fun i hi => h i (by omega)) (fun i hi => h2 i (by omega)), h n (by omega), h2 n (by omega)]
theorem xb_ext {v w : Nat → Int} : ∀ n, (∀ i, i ≤ n → v i = w i) → xb v n = xb w n
  | 0, _ => rfl
  | n + 1, h => by
    have e := xb_ext n (fun i hi => h i (by omega))
    have := xb_le w n
    simp only [xb]
    rw [e, h (n + 1) (by omega), h (xb w n) (by omega)]
/-- with all bits right: how many are wrong, and whether none -/
theorem c_bits {ns : Nat} {st : sy_S} (hrg : sy_rg st) (hns : ns ≤ 16) (hh : c_hib ns st) (hr : c_right ns st) {f : Nat} (hf : (f : Int) < st 3 4) : (0 ≤ st 8 f ∧ st 8 f < 65536) ∧ (x_pc (st 8 f).toNat : Int) = c_wr ns st f ∧ (st 8 f = 0 ↔ c_wr ns st f = 0) := by
  have hz : sy_iR (st 8 f) := sy_rg_i hrg (by decide)
  have h16 := x_lt16 hz (fun i h1 h2 => hh f i (by omega) h2)
  have e1 := x_pc_ct 16 (st 8 f).toNat (by decide) (by omega)
  have e2 : ∀ i, i < 16 → (st 8 f).toNat.testBit i = x_bt (st 8 f) i := fun i hi => by
    rw [← x_bt_nat i (by omega), Int.toNat_of_nonneg h16.1]
  rw [xc_ext 16 e2] at e1
  have e3 : xc (fun i => x_bt (st 8 f) i) 16 = c_wr ns st f := by
    have := xc_more (p := fun i => x_bt (st 8 f) i) ns (16 - ns) (fun i h1 h2 => hh f i h1 (by omega))
    rw [show ns + (16 - ns) = 16 by omega] at this
    rw [this]
    exact xc_ext ns (fun i hi => hr f i hf hi)
  have e4 := x_pc_zero (n := (st 8 f).toNat) (by omega)
  have e5 := e1.symm.trans e3
  refine ⟨h16, e5, ?_⟩
  rw [← e5]
  omega
def c_lp (ns : Nat) (st s : sy_S) (q : Nat) : Prop := (∀ a, a ≠ 8 → (∀ i, i < ns → a ≠ sy_nW i ∧ a ≠ sy_nS i) → s a = st a) ∧ (∀ i k, k ≠ 3 → s (sy_nS i) k = st (sy_nS i) k) ∧ (∀ i, i < ns → c_wk s i) ∧ c_hib ns s ∧ (∀ f i : Nat, (f : Int) < st 3 4 → i < ns → (i < q ∨ x_bt (st 7 3) i = false) → x_bt (s 8 f) i = !c_ag st f i)
theorem c_lp_low {ns : Nat} {st s : sy_S} {q : Nat} (h : c_lp ns st s q) {a : Nat} (ha : a < 37) (h8 : a ≠ 8) : s a = st a := h.1 a h8 (fun i _ => ⟨c_W_ne ha, by unfold sy_nS; omega⟩)
theorem c_lp_fg {ns : Nat} {st s : sy_S} {q : Nat} (h : c_lp ns st s q) : c_fg s = c_fg st := c_fg_of (c_lp_low h (by decide) (by decide)) (c_lp_low h (by decide) (by decide)) (c_lp_low h (by decide) (by decide))
/-- one more site is judged -/
theorem c_lp_jd {ns : Nat} {st s s' : sy_S} {q : Nat} (hq : q < ns) (hns : ns ≤ 16) (h : c_lp ns st s q) (hj : c_jd s s' q (x_pw q)) : c_lp ns st s' (q + 1) := by
  have hfg := c_lp_fg h
  have h1 := c_lp_low h (a := 1) (by decide) (by decide)
  have h3 := c_lp_low h (a := 3) (by decide) (by decide)
  obtain ⟨g1, g2, g3, g4, g5⟩ := h
  obtain ⟨j1, j2, j3, j4⟩ := hj
  have hlow' : ∀ a, a < 37 → a ≠ 8 → s' a = s a := fun a ha h8 => j1 a h8 (c_W_ne ha) (by unfold sy_nS; omega)
  have hfg' : c_fg s' = c_fg s := c_fg_of (hlow' 4 (by decide) (by decide)) (hlow' 5 (by decide) (by decide)) (hlow' 6 (by decide) (by decide))
  have hS : ∀ i k, k ≠ 3 → s' (sy_nS i) k = s (sy_nS i) k := fun i k hk => by
    by_cases hiq : i = q
    · subst hiq; exact j2 k hk
    · rw [j1 (sy_nS i) (by unfold sy_nS; omega) (c_WS_ne q i) (fun z => hiq ((sy_nS_inj i q).mp z))]
  refine ⟨fun a h8 ha => ?_, fun i k hk => (hS i k hk).trans (g2 i k hk), fun i hi => ?_, fun f i h1' h2' => ?_, fun f i hf hi hc => ?_⟩
  · rw [j1 a h8 (ha q hq).1 (ha q hq).2]; exact g1 a h8 ha
  · by_cases hiq : i = q
    · subst hiq; exact j3
    · intro hne
      have e1 : s' (sy_nS i) = s (sy_nS i) := j1 (sy_nS i) (by unfold sy_nS; omega) (c_WS_ne q i) (fun z => hiq ((sy_nS_inj i q).mp z))
      have e2 : s' (sy_nW i) = s (sy_nW i) := j1 (sy_nW i) (by unfold sy_nW; omega) (fun z => hiq ((sy_nW_inj i q).mp z)) (sy_nW_nS i q)
      rw [e1] at hne
      exact c_wok_of (hlow' 3 (by decide) (by decide)) hfg' (by rw [e1]) e2 (g3 i hi hne)
  · rw [j4 f]
    split
    · rw [x_bop_bt (by omega) _ _ h2', if_neg (by omega)]; exact g4 f i h1' h2'
    · exact g4 f i h1' h2'
  · rw [j4 f, h3, if_pos hf, x_bop_bt (by omega) _ _ (by omega)]
    by_cases hiq : i = q
    · subst hiq
      rw [if_pos rfl, c_ag_of h1 hfg (fun k hk => g2 i k hk)]
    · rw [if_neg hiq]
      exact g5 f i hf hi (hc.elim (fun z => Or.inl (by omega)) Or.inr)
theorem c_lp_skip {ns : Nat} {st s : sy_S} {q : Nat} (h : c_lp ns st s q) (hb : ¬ x_bt (st 7 3) q = true) : c_lp ns st s (q + 1) := by
  obtain ⟨g1, g2, g3, g4, g5⟩ := h
  refine ⟨g1, g2, g3, g4, fun f i hf hi hc => g5 f i hf hi ?_⟩
  rcases hc with hc | hc
  · by_cases hiq : i = q
    · subst hiq; right; simpa using hb
    · left; omega
  · exact Or.inr hc
/-- a change of the search's own fields changes no answer -/
theorem c_wr_of {ns : Nat} {st st' : sy_S} (h1 : st' 1 = st 1) (hf : c_fg st' = c_fg st) (hS : ∀ i k, k ≠ 3 → st' (sy_nS i) k = st (sy_nS i) k) (f : Int) : c_wr ns st' f = c_wr ns st f := by
  unfold c_wr
  exact xc_ext ns (fun i _ => by rw [c_ag_of h1 hf (fun k hk => hS i k hk)])
theorem c_wh_of {st st' : sy_S} (hf : c_fg st' = c_fg st) : c_wh st' = c_wh st := by
  funext f
  unfold c_wh
  rw [hf]
theorem c_sm_ne {st : sy_S} {q a : Nat} (h : a ≠ 7) : c_sm st q a = st a := c_s5_ne _ _ _ _ _ _ h
theorem c_S_7 (i : Nat) : sy_nS i ≠ 7 := by unfold sy_nS; omega
theorem c_S_8 (i : Nat) : sy_nS i ≠ 8 := by unfold sy_nS; omega
theorem c_W_7 (i : Nat) : sy_nW i ≠ 7 := by unfold sy_nW; omega
theorem c_sm_sums {ns : Nat} {s : sy_S} (hrg : sy_rg s) (hns : ns ≤ 16) (hn : c_net s) (hh : c_hib ns s) (hr : c_right ns s) : c_sums ns (c_sm (sy_up s 7 3 0) (s 3 4).toNat) := by
  have hT := (c_tot_r hn).1
  have hne : ∀ a, a ≠ 7 → c_sm (sy_up s 7 3 0) (s 3 4).toNat a = s a := fun a ha => by
    rw [c_sm_ne ha]
    exact sy_up_ne _ _ ha
  have hfg : c_fg (c_sm (sy_up s 7 3 0) (s 3 4).toNat) = c_fg s := c_fg_of (hne 4 (by decide)) (hne 5 (by decide)) (hne 6 (by decide))
  have hwr : ∀ f : Int, c_wr ns (c_sm (sy_up s 7 3 0) (s 3 4).toNat) f = c_wr ns s f := c_wr_of (hne 1 (by decide)) hfg (fun i k _ => by rw [hne _ (c_S_7 i)])
  have hwh := c_wh_of hfg
  have hwh2 : c_wh (sy_up s 7 3 0) = c_wh s := c_wh_of (c_fg_of (sy_up_ne _ _ (by decide)) (sy_up_ne _ _ (by decide)) (sy_up_ne _ _ (by decide)))
  have h8 : ∀ f, (sy_up s 7 3 0) 8 f = s 8 f := fun f => rfl
  have hlt : ∀ i, i < (s 3 4).toNat → (i : Int) < s 3 4 := fun i hi => by omega
  have b3 : ∀ i, i < (s 3 4).toNat → decide ((sy_up s 7 3 0) 8 i = 0) = c_ft ns s i := fun i hi => by
    unfold c_ft
    rw [h8]
    exact decide_eq_decide.mpr (c_bits hrg hns hh hr (hlt i hi)).2.2
  have hft : ∀ i, c_ft ns (c_sm (sy_up s 7 3 0) (s 3 4).toNat) i = c_ft ns s i := fun i => by
    unfold c_ft; rw [hwr]
  have hb : xb (fun f => (x_pc ((sy_up s 7 3 0) 8 f).toNat : Int)) ((s 3 4).toNat - 1) = c_best ns (c_sm (sy_up s 7 3 0) (s 3 4).toNat) := by
    unfold c_best
    rw [hne 3 (by decide)]
    refine xb_ext _ (fun i hi => ?_)
    rw [hwr]
    exact (c_bits hrg hns hh hr (hlt i (by omega))).2.1
  have hq0 : ¬ (s 3 4).toNat = 0 := by omega
  have hbl : c_best ns (c_sm (sy_up s 7 3 0) (s 3 4).toNat) < (s 3 4).toNat := by
    rw [← hb]
    have := xb_le (fun f => (x_pc ((sy_up s 7 3 0) 8 f).toNat : Int)) ((s 3 4).toNat - 1)
    omega
  refine ⟨?_, ?_, ?_, ?_, ?_⟩
  · rw [hne 3 (by decide)]
    exact xc_ext _ (fun i hi => (b3 i hi).trans (hft i).symm)
  · rw [hne 3 (by decide), hwh]
    exact xs_ext _ (fun i hi => (b3 i hi).trans (hft i).symm) (fun i _ => by rw [hwh2])
  · rw [hne 3 (by decide), hwh]
    exact xs_ext _ (fun i hi => (b3 i hi).trans (hft i).symm) (fun i _ => by rw [hwh2])
  · rw [hwr, ← (c_bits hrg hns hh hr (hlt _ hbl)).2.1, ← hb]
    exact if_neg hq0
  · rw [← hb]
    exact if_neg hq0
theorem c_lp_end {ns : Nat} {st s : sy_S} (hrg : sy_rg s) (hns : ns ≤ 16) (hn : c_net st) (hl : c_lp ns st s ns) : (c_net (sy_up s 7 3 0) ∧ ∀ f : Nat, (f : Int) < s 3 4 → 0 ≤ s 8 f ∧ s 8 f < 65536) ∧ c_rf ns st (c_sm (sy_up s 7 3 0) (s 3 4).toNat) := by
  have h1 := c_lp_low hl (a := 1) (by decide) (by decide)
  have h3 := c_lp_low hl (a := 3) (by decide) (by decide)
  have h4 := c_lp_low hl (a := 4) (by decide) (by decide)
  have h5 := c_lp_low hl (a := 5) (by decide) (by decide)
  have h6 := c_lp_low hl (a := 6) (by decide) (by decide)
  have h7 := c_lp_low hl (a := 7) (by decide) (by decide)
  have hfg := c_lp_fg hl
  obtain ⟨g1, g2, g3, g4, g5⟩ := hl
  have hns' : c_net s := (c_net_of h3 h4 h5 h6).2.2.2 hn
  have hne : ∀ a, a ≠ 7 → c_sm (sy_up s 7 3 0) (s 3 4).toNat a = s a := fun a ha => by
    rw [c_sm_ne ha]
    exact sy_up_ne _ _ ha
  have hne0 : ∀ a, a ≠ 7 → (sy_up s 7 3 0) a = s a := fun a ha => by
    exact sy_up_ne _ _ ha
  have hr : c_right ns s := fun f i hf hi => by
    rw [h3] at hf
    rw [g5 f i hf hi (Or.inl hi), c_ag_of h1 hfg (fun k hk => g2 i k hk)]
  have hfg' : c_fg (c_sm (sy_up s 7 3 0) (s 3 4).toNat) = c_fg s := c_fg_of (hne 4 (by decide)) (hne 5 (by decide)) (hne 6 (by decide))
  refine ⟨⟨(c_net_of (hne0 3 (by decide)) (hne0 4 (by decide)) (hne0 5 (by decide)) (hne0 6 (by decide))).2.2.2 hns', fun f hf => (c_bits hrg hns g4 hr hf).1⟩, ⟨fun a a7 a8 ha => ?_, fun i k hk => ?_, ?_⟩, rfl, fun i hi hne3 => ?_, fun f i h1' h2' => ?_, fun f i hf hi => ?_, c_sm_sums hrg hns hns' g4 hr⟩
  · rw [hne a a7]; exact g1 a a8 ha
  · rw [hne _ (c_S_7 i)]; exact g2 i k hk
  · show s 7 10 = st 7 10
    rw [h7]
  · rw [hne _ (c_S_7 i)] at hne3
    exact c_wok_of (hne 3 (by decide)) hfg' (by rw [hne _ (c_S_7 i)]) (hne _ (c_W_7 i)) (g3 i hi hne3)
  · rw [hne 8 (by decide)]; exact g4 f i h1' h2'
  · rw [hne 3 (by decide)] at hf
    rw [hne 8 (by decide), hr f i hf hi, c_ag_of (hne 1 (by decide)) hfg' (fun k hk => by rw [hne _ (c_S_7 i)])]
def sp_5_refresh (ns : Nat) : sy_Sp := sy_m0 7 fun st post => c_sv ns st ∧ ∀ st', c_rf ns st st' → post none st'
def ct_5_refresh (ns q : Nat) : Option (Bool × Nat × sy_Sp) := match q with
  | 76 => some (false, 2, sp_7_at ns)
  | 80 => some (false, 3, sp_5_judge ns)
  | 84 => some (false, 1, sp_5_sumUp ns)
  | _ => none
abbrev M_5_refresh (ns : Nat) : sy_M := Mk_5_refresh (ct_5_refresh ns)
theorem cx_5_refresh_76 {ns : Nat} {v1 v2 : sy_V} {r : List sy_V} {s : sy_S} {f : List sy_V → sy_S → Prop} : sy_call false (ct_5_refresh ns 76) (v2 :: v1 :: r) s f = (sy_wd r ≤ 8 ∧ (sy_fit v2 ∧ sy_fit v1) ∧ sp_7_at ns [sy_kn v1, sy_kn v2] s (fun q t => f (q.toList ++ r) t)) := sx_call2
theorem cx_5_refresh_80 {ns : Nat} {v1 v2 v3 : sy_V} {r : List sy_V} {s : sy_S} {f : List sy_V → sy_S → Prop} : sy_call false (ct_5_refresh ns 80) (v3 :: v2 :: v1 :: r) s f = (sy_wd r ≤ 8 ∧ (sy_fit v3 ∧ sy_fit v2 ∧ sy_fit v1) ∧ sp_5_judge ns [sy_kn v1, sy_kn v2, sy_kn v3] s (fun q t => f (q.toList ++ r) t)) := sx_call3
theorem cx_5_refresh_84 {ns : Nat} {v1 : sy_V} {r : List sy_V} {s : sy_S} {f : List sy_V → sy_S → Prop} : sy_call false (ct_5_refresh ns 84) (v1 :: r) s f = (sy_wd r ≤ 8 ∧ (sy_fit v1) ∧ sp_5_sumUp ns [sy_kn v1] s (fun q t => f (q.toList ++ r) t)) := sx_call1
theorem mv_5_refresh (ns : Nat) : sy_MV c_5_refresh y_5_refresh.cls none (M_5_refresh ns) := ⟨tv_5_refresh, ff_5_ok, ki_5_ok, kl_5_ok⟩
abbrev rm_5_refresh : Room := { frames := 4, cells := 0, slots := 0, locals := 97 }
theorem iw_5_judge : Cond.code y_5_judge c_5_judge 4 none ∈ sy_tb ∧ Cond.initialized y_5_judge.cls ∈ sy_tb ∧ (y_5_judge.cls ≠ "java/lang/invoke/MethodHandle" ∧ y_5_judge.cls ≠ "java/lang/invoke/VarHandle" ∧ (parseMethodDescriptor y_5_judge.desc).map (fun d => d.parameters.length) = some 2) := ⟨sy_inx 482 (by decide +kernel) (by decide +kernel), sy_inx 48 (by decide +kernel) (by decide +kernel), by decide +kernel⟩
theorem ii_5_judge : Cond.instanceMethod y_5_judge ∈ sy_tb ∧ Cond.selects y_5_judge.cls y_5_judge y_5_judge ∈ sy_tb := ⟨sy_inx 481 (by decide +kernel) (by decide +kernel), sy_inx 3 (by decide +kernel) (by decide +kernel)⟩
theorem iw_5_sumUp : Cond.code y_5_sumUp c_5_sumUp 3 none ∈ sy_tb ∧ Cond.initialized y_5_sumUp.cls ∈ sy_tb ∧ (y_5_sumUp.cls ≠ "java/lang/invoke/MethodHandle" ∧ y_5_sumUp.cls ≠ "java/lang/invoke/VarHandle" ∧ (parseMethodDescriptor y_5_sumUp.desc).map (fun d => d.parameters.length) = some 0) := ⟨sy_inx 523 (by decide +kernel) (by decide +kernel), sy_inx 48 (by decide +kernel) (by decide +kernel), by decide +kernel⟩
theorem ii_5_sumUp : Cond.instanceMethod y_5_sumUp ∈ sy_tb ∧ Cond.selects y_5_sumUp.cls y_5_sumUp y_5_sumUp ∈ sy_tb := ⟨sy_inx 522 (by decide +kernel) (by decide +kernel), sy_inx 6 (by decide +kernel) (by decide +kernel)⟩
theorem co_5_refresh (l : Launch) : sy_calls l rm_5_refresh y_5_refresh.cls c_5_refresh 3 (fun ns => (M_5_refresh ns).2.2.2.2.1) := by
  intro p e s m args below meth c rt wd ad ns A Q X hA q b n sp h
  replace h : ct_5_refresh ns q = some (b, n, sp) := h
  unfold ct_5_refresh at h
  split at h
  · cases h; exact sy_coV (ci := 7) X hA (mc_7_at l) ⟨iw_7_at.1, iw_7_at.2.1, iw_7_at.2.2, ⟨by decide, by decide⟩, rfl, rfl⟩ (sy_inx 478 (by decide +kernel) (by decide +kernel)) ii_7_at.1 ii_7_at.2 (rc_7_at ns) ⟨_, rfl, rfl⟩
  · cases h; exact sy_coV (ci := 5) X hA (mc_5_judge l) ⟨iw_5_judge.1, iw_5_judge.2.1, iw_5_judge.2.2, ⟨by decide, by decide⟩, rfl, rfl⟩ (sy_inx 479 (by decide +kernel) (by decide +kernel)) ii_5_judge.1 ii_5_judge.2 (rc_5_judge ns) ⟨_, rfl, rfl⟩
  · cases h; exact sy_coV (ci := 5) X hA (mc_5_sumUp l) ⟨iw_5_sumUp.1, iw_5_sumUp.2.1, iw_5_sumUp.2.2, ⟨by decide, by decide⟩, rfl, rfl⟩ (sy_inx 520 (by decide +kernel) (by decide +kernel)) ii_5_sumUp.1 ii_5_sumUp.2 (rc_5_sumUp ns) ⟨_, rfl, rfl⟩
  · cases h
theorem rc_5_refresh (ns : Nat) (as : List sy_V) (st : sy_S) (post : sy_R) (h : sp_5_refresh ns as st post) : ∃ b as', as = .inr (.inr (some (some b))) :: as' ∧ sy_ob b = some 5 := sy_m0_r rfl as st post h
theorem mc_5_refresh (l : Launch) : sy_MC l y_5_refresh c_5_refresh 3 none rm_5_refresh sp_5_refresh := by
  refine sy_meth M_5_refresh (by decide +kernel) mv_5_refresh (co_5_refresh l) ?_
  intro ns as st post WA h hok hrg ⟨hgo0, hin, hwk⟩
  have hgo : ∀ (n pc : Nat) (L k : List sy_V) (st : sy_S), rn_5_refresh ns (ct_5_refresh ns) post WA n pc L k st → WA pc L k st := fun n pc L k st h => hgo0 [10] n pc L k st h
  replace h := sy_m0_e h hok
  obtain ⟨rfl, h⟩ := h
  refine ⟨Nat.le_of_ble_eq_true rfl, ?_⟩
  show WA 0 [.inr (.inr (some (some 7))), .inr (.inr none), .inr (.inr none)] [] st
  obtain ⟨⟨⟨hs, hr, hn, hwkk⟩, hhib, hst, hsum⟩, h⟩ := h
  have hs' := hs
  unfold c_site at hs
  by_cases h0 : st 7 3 = 0
  · refine hgo 100 _ _ _ _ ?_
    simp -implicitDefEqProofs only [↓rx_5_refresh_0, ↓rx_5_refresh_1, ↓rx_5_refresh_4, ↓rx_5_refresh_7, ↓rx_5_refresh_8, ↓rx_5_refresh_9, ↓rx_5_refresh_10, ↓rx_5_refresh_11, ↓rx_5_refresh_12, ↓rx_5_refresh_15, ↓rx_5_refresh_18, ↓rx_5_refresh_21, ↓rx_5_refresh_22, ↓rx_5_refresh_25, ↓rx_5_refresh_26, ↓rx_5_refresh_29, ↓rx_5_refresh_30, ↓rx_5_refresh_31, ↓rx_5_refresh_31_n, ↓rx_5_refresh_34, ↓rx_5_refresh_35, ↓rx_5_refresh_38, ↓rx_5_refresh_39, ↓rx_5_refresh_40, ↓rx_5_refresh_41, ↓rx_5_refresh_42, ↓rx_5_refresh_43, ↓rx_5_refresh_46, ↓rx_5_refresh_47, ↓rx_5_refresh_48, ↓rx_5_refresh_49, ↓rx_5_refresh_50, ↓rx_5_refresh_51, ↓rx_5_refresh_54, ↓rx_5_refresh_57, ↓rx_5_refresh_60, ↓rx_5_refresh_61, ↓rx_5_refresh_62, ↓rx_5_refresh_65, ↓rx_5_refresh_66, ↓rx_5_refresh_69, ↓cx_5_refresh_76, ↓cx_5_refresh_80, ↓cx_5_refresh_84, sp_5_judge, sp_5_sumUp, sp_7_at, ↓sx_s1, ↓sx_s2, ↓sx_s3, ↓sx_s4, ↓sx_s5, ↓sx_s6, ↓sx_m0, ↓sx_m1, ↓sx_m2, ↓sx_m3, ↓sx_m4, ↓sx_m5, ↓sx_m6, ↓sx_k0_, ↓sx_k1_, ↓sx_k2_, ↓sx_k3_, ↓sx_k4_, ↓sx_k5_, ↓sx_k6_, ↓sx_sLL, ↓sx_sAI, ↓sx_mLL, ↓sx_mIIL, ↓sx_mIILL, ↓sx_mIILLL, ↓sx_qS, ↓sx_qSI, ↓sx_qSIII, sx_rit, sx_rif, sx_rlt, sx_rlf, sx_b0, sx_b1, sx_o0, sx_o1i, sx_o1a, sx_o1l, sx_o2, sx_g0, sx_g1, sx_k1, sx_k2, sx_k3, sx_f1, sx_f2, sx_f3, sx_w0, sx_w1, sx_w2, sx_w3, sx_ts, sx_tn, sx_up, sx_nS1, sx_nS2, sx_nW1, sx_nW2, sx_SW, sx_WS, sy_nS_inj, sy_nW_inj, sx_ob0, sx_ob1, sx_ob2, sx_ob3, sx_ob4, sx_ob5, sx_ob6, sx_ob7, sx_ob8, sx_ob9, sx_ob10, sx_ob11, sx_ob12, sx_ob13, sx_ob14, sx_ob15, sx_ob16, sx_ob17, sx_ob18, sx_ob19, sx_ob20, sx_ob21, sx_ob22, sx_ob23, sx_ob24, sx_ob25, sx_ob26, sx_ob27, sx_ob28, sx_ob29, sx_ob30, sx_ob31, sx_ob32, sx_ob33, sx_ob34, sx_ob35, sx_ob36, sx_fv0_0, sx_fv0_1, sx_fv0_2, sx_fv0_3, sx_fv0_4, sx_fv0_5, sx_fv1_0, sx_fv1_1, sx_fv1_2, sx_fv3_0, sx_fv3_1, sx_fv3_2, sx_fv3_3, sx_fv3_4, sx_fv7_0, sx_fv7_1, sx_fv7_2, sx_fv7_3, sx_fv7_4, sx_fv7_5, sx_fv7_6, sx_fv7_7, sx_fv7_8, sx_fv7_9, sx_fv7_10, sx_fv9_0, sx_fv9_1, sx_fv9_2, sx_fv9_3, sx_fv11_0, sx_fv11_1, sx_fv11_2, sx_fv11_3, sx_fv11_4, sx_fv11_5, sx_fv11_6, sx_fv15_0, sx_fv15_1, sx_fv15_2, sx_fv15_3, sx_fv15_4, sx_fv15_5, sx_fv19_0, sx_fv19_1, sx_fv19_2, sx_fv19_3, sx_fv19_4, sx_fv19_5, sx_fv19_6, sx_fv24_0, sx_fv24_1, sx_fv24_2, sx_fv24_3, sx_fv24_4, sx_fv24_5, sx_fv24_6, sx_fv24_7, sx_fv24_8, sx_fv24_9, sx_fv24_10, sx_fv24_11, sx_fv24_12, sx_fv24_13, sx_fv24_14, sx_fv24_15, sx_fv24_16, sx_fv24_17, sx_fv24_18, sx_fvS_0, sx_fvS_1, sx_fvS_2, sx_fvS_3, sx_fvS_4, sx_fvS_5, sx_fvS_6, sx_fvS_7, sx_fvS_8, sx_fvS_9, sx_ar2, sx_ar4, sx_ar5, sx_ar6, sx_ar8, sx_ar10, sx_ar12, sx_ar13, sx_ar14, sx_ar16, sx_ar17, sx_ar18, sx_ar20, sx_ar21, sx_ar22, sx_ar23, sx_ar25, sx_ar26, sx_ar27, sx_ar28, sx_ar29, sx_ar30, sx_ar31, sx_ar32, sx_ar33, sx_ar34, sx_ar35, sx_ar36, sy_ob_S, sy_ob_W, sy_ar_W, sx_if0, sx_if1, sx_ie0, sx_em, Classical.not_not, sx_cle, sx_clt, sx_cge, sx_cgt, sx_ceq, Nat.reduceLT, Nat.reduceLeDiff, Nat.reduceAdd, Nat.reduceSub, Nat.reduceEqDiff, reduceIte, List.length_cons, List.length_nil, true_and, and_true, and_self, Bool.false_eq_true, true_implies, not_true_eq_false, not_false_eq_true, false_implies, implies_true, ne_eq, reduceCtorEq, Option.some.injEq, false_and, and_false, Int.reduceNeg, Int.reduceToNat, Int.reduceLT, Int.reduceLE, Int.reduceEq, Int.reduceAdd, Int.reduceSub, Int.reduceMul, or_false, false_or, or_true, true_or, forall_const, Int.toNat_natCast, Int.toNat_zero, Int.toNat_one, Nat.zero_add, or_self, Int.neg_eq_zero]
    refine ⟨fun c => absurd h0 c, fun _ => h st ⟨⟨fun _ _ _ _ => rfl, fun _ _ _ => rfl, rfl⟩, h0, hwkk, hhib, fun f i hf hi => hst f i hf hi (by rw [h0]; exact x_z0 i), hsum h0⟩⟩
  · have key : ∀ (d q : Nat) (s : sy_S), q + d = ns → c_lp ns st s q → WA 10 [.inr (.inr (some (some 7))), .inl (true, (q : Int)), .inr (.inr none)] [] s := by
      intro d
      induction d with
      | zero =>
        intro q s hq hl
        refine hin _ _ _ _ (fun _ _ hrg2 => ?_)
        refine hgo 100 _ _ _ _ ?_
        simp -implicitDefEqProofs only [↓rx_5_refresh_0, ↓rx_5_refresh_1, ↓rx_5_refresh_4, ↓rx_5_refresh_7, ↓rx_5_refresh_8, ↓rx_5_refresh_9, ↓rx_5_refresh_10, ↓rx_5_refresh_11, ↓rx_5_refresh_12, ↓rx_5_refresh_15, ↓rx_5_refresh_18, ↓rx_5_refresh_21, ↓rx_5_refresh_22, ↓rx_5_refresh_25, ↓rx_5_refresh_26, ↓rx_5_refresh_29, ↓rx_5_refresh_30, ↓rx_5_refresh_31, ↓rx_5_refresh_31_n, ↓rx_5_refresh_34, ↓rx_5_refresh_35, ↓rx_5_refresh_38, ↓rx_5_refresh_39, ↓rx_5_refresh_40, ↓rx_5_refresh_41, ↓rx_5_refresh_42, ↓rx_5_refresh_43, ↓rx_5_refresh_46, ↓rx_5_refresh_47, ↓rx_5_refresh_48, ↓rx_5_refresh_49, ↓rx_5_refresh_50, ↓rx_5_refresh_51, ↓rx_5_refresh_54, ↓rx_5_refresh_57, ↓rx_5_refresh_60, ↓rx_5_refresh_61, ↓rx_5_refresh_62, ↓rx_5_refresh_65, ↓rx_5_refresh_66, ↓rx_5_refresh_69, ↓cx_5_refresh_76, ↓cx_5_refresh_80, ↓cx_5_refresh_84, sp_5_judge, sp_5_sumUp, sp_7_at, ↓sx_s1, ↓sx_s2, ↓sx_s3, ↓sx_s4, ↓sx_s5, ↓sx_s6, ↓sx_m0, ↓sx_m1, ↓sx_m2, ↓sx_m3, ↓sx_m4, ↓sx_m5, ↓sx_m6, ↓sx_k0_, ↓sx_k1_, ↓sx_k2_, ↓sx_k3_, ↓sx_k4_, ↓sx_k5_, ↓sx_k6_, ↓sx_sLL, ↓sx_sAI, ↓sx_mLL, ↓sx_mIIL, ↓sx_mIILL, ↓sx_mIILLL, ↓sx_qS, ↓sx_qSI, ↓sx_qSIII, sx_rit, sx_rif, sx_rlt, sx_rlf, sx_b0, sx_b1, sx_o0, sx_o1i, sx_o1a, sx_o1l, sx_o2, sx_g0, sx_g1, sx_k1, sx_k2, sx_k3, sx_f1, sx_f2, sx_f3, sx_w0, sx_w1, sx_w2, sx_w3, sx_ts, sx_tn, sx_up, sx_nS1, sx_nS2, sx_nW1, sx_nW2, sx_SW, sx_WS, sy_nS_inj, sy_nW_inj, sx_ob0, sx_ob1, sx_ob2, sx_ob3, sx_ob4, sx_ob5, sx_ob6, sx_ob7, sx_ob8, sx_ob9, sx_ob10, sx_ob11, sx_ob12, sx_ob13, sx_ob14, sx_ob15, sx_ob16, sx_ob17, sx_ob18, sx_ob19, sx_ob20, sx_ob21, sx_ob22, sx_ob23, sx_ob24, sx_ob25, sx_ob26, sx_ob27, sx_ob28, sx_ob29, sx_ob30, sx_ob31, sx_ob32, sx_ob33, sx_ob34, sx_ob35, sx_ob36, sx_fv0_0, sx_fv0_1, sx_fv0_2, sx_fv0_3, sx_fv0_4, sx_fv0_5, sx_fv1_0, sx_fv1_1, sx_fv1_2, sx_fv3_0, sx_fv3_1, sx_fv3_2, sx_fv3_3, sx_fv3_4, sx_fv7_0, sx_fv7_1, sx_fv7_2, sx_fv7_3, sx_fv7_4, sx_fv7_5, sx_fv7_6, sx_fv7_7, sx_fv7_8, sx_fv7_9, sx_fv7_10, sx_fv9_0, sx_fv9_1, sx_fv9_2, sx_fv9_3, sx_fv11_0, sx_fv11_1, sx_fv11_2, sx_fv11_3, sx_fv11_4, sx_fv11_5, sx_fv11_6, sx_fv15_0, sx_fv15_1, sx_fv15_2, sx_fv15_3, sx_fv15_4, sx_fv15_5, sx_fv19_0, sx_fv19_1, sx_fv19_2, sx_fv19_3, sx_fv19_4, sx_fv19_5, sx_fv19_6, sx_fv24_0, sx_fv24_1, sx_fv24_2, sx_fv24_3, sx_fv24_4, sx_fv24_5, sx_fv24_6, sx_fv24_7, sx_fv24_8, sx_fv24_9, sx_fv24_10, sx_fv24_11, sx_fv24_12, sx_fv24_13, sx_fv24_14, sx_fv24_15, sx_fv24_16, sx_fv24_17, sx_fv24_18, sx_fvS_0, sx_fvS_1, sx_fvS_2, sx_fvS_3, sx_fvS_4, sx_fvS_5, sx_fvS_6, sx_fvS_7, sx_fvS_8, sx_fvS_9, sx_ar2, sx_ar4, sx_ar5, sx_ar6, sx_ar8, sx_ar10, sx_ar12, sx_ar13, sx_ar14, sx_ar16, sx_ar17, sx_ar18, sx_ar20, sx_ar21, sx_ar22, sx_ar23, sx_ar25, sx_ar26, sx_ar27, sx_ar28, sx_ar29, sx_ar30, sx_ar31, sx_ar32, sx_ar33, sx_ar34, sx_ar35, sx_ar36, sy_ob_S, sy_ob_W, sy_ar_W, sx_if0, sx_if1, sx_ie0, sx_em, Classical.not_not, sx_cle, sx_clt, sx_cge, sx_cgt, sx_ceq, Nat.reduceLT, Nat.reduceLeDiff, Nat.reduceAdd, Nat.reduceSub, Nat.reduceEqDiff, reduceIte, List.length_cons, List.length_nil, true_and, and_true, and_self, Bool.false_eq_true, true_implies, not_true_eq_false, not_false_eq_true, false_implies, implies_true, ne_eq, reduceCtorEq, Option.some.injEq, false_and, and_false, Int.reduceNeg, Int.reduceToNat, Int.reduceLT, Int.reduceLE, Int.reduceEq, Int.reduceAdd, Int.reduceSub, Int.reduceMul, or_false, false_or, or_true, true_or, forall_const, Int.toNat_natCast, Int.toNat_zero, Int.toNat_one, Nat.zero_add, or_self, Int.neg_eq_zero]
        have e1 := c_lp_low hl (a := 1) (by decide) (by decide)
        rw [e1, hs.1]
        refine ⟨fun _ => ?_, fun c => by omega⟩
        have hqn : q = ns := by omega
        subst hqn
        have hend := c_lp_end hrg2 hs.2 hn hl
        exact ⟨hend.1, h _ hend.2⟩
      | succ d ih =>
        intro q s hq hl
        refine hgo 100 _ _ _ _ ?_
        simp -implicitDefEqProofs only [↓rx_5_refresh_0, ↓rx_5_refresh_1, ↓rx_5_refresh_4, ↓rx_5_refresh_7, ↓rx_5_refresh_8, ↓rx_5_refresh_9, ↓rx_5_refresh_10, ↓rx_5_refresh_11, ↓rx_5_refresh_12, ↓rx_5_refresh_15, ↓rx_5_refresh_18, ↓rx_5_refresh_21, ↓rx_5_refresh_22, ↓rx_5_refresh_25, ↓rx_5_refresh_26, ↓rx_5_refresh_29, ↓rx_5_refresh_30, ↓rx_5_refresh_31, ↓rx_5_refresh_31_n, ↓rx_5_refresh_34, ↓rx_5_refresh_35, ↓rx_5_refresh_38, ↓rx_5_refresh_39, ↓rx_5_refresh_40, ↓rx_5_refresh_41, ↓rx_5_refresh_42, ↓rx_5_refresh_43, ↓rx_5_refresh_46, ↓rx_5_refresh_47, ↓rx_5_refresh_48, ↓rx_5_refresh_49, ↓rx_5_refresh_50, ↓rx_5_refresh_51, ↓rx_5_refresh_54, ↓rx_5_refresh_57, ↓rx_5_refresh_60, ↓rx_5_refresh_61, ↓rx_5_refresh_62, ↓rx_5_refresh_65, ↓rx_5_refresh_66, ↓rx_5_refresh_69, ↓cx_5_refresh_76, ↓cx_5_refresh_80, ↓cx_5_refresh_84, sp_5_judge, sp_5_sumUp, sp_7_at, ↓sx_s1, ↓sx_s2, ↓sx_s3, ↓sx_s4, ↓sx_s5, ↓sx_s6, ↓sx_m0, ↓sx_m1, ↓sx_m2, ↓sx_m3, ↓sx_m4, ↓sx_m5, ↓sx_m6, ↓sx_k0_, ↓sx_k1_, ↓sx_k2_, ↓sx_k3_, ↓sx_k4_, ↓sx_k5_, ↓sx_k6_, ↓sx_sLL, ↓sx_sAI, ↓sx_mLL, ↓sx_mIIL, ↓sx_mIILL, ↓sx_mIILLL, ↓sx_qS, ↓sx_qSI, ↓sx_qSIII, sx_rit, sx_rif, sx_rlt, sx_rlf, sx_b0, sx_b1, sx_o0, sx_o1i, sx_o1a, sx_o1l, sx_o2, sx_g0, sx_g1, sx_k1, sx_k2, sx_k3, sx_f1, sx_f2, sx_f3, sx_w0, sx_w1, sx_w2, sx_w3, sx_ts, sx_tn, sx_up, sx_nS1, sx_nS2, sx_nW1, sx_nW2, sx_SW, sx_WS, sy_nS_inj, sy_nW_inj, sx_ob0, sx_ob1, sx_ob2, sx_ob3, sx_ob4, sx_ob5, sx_ob6, sx_ob7, sx_ob8, sx_ob9, sx_ob10, sx_ob11, sx_ob12, sx_ob13, sx_ob14, sx_ob15, sx_ob16, sx_ob17, sx_ob18, sx_ob19, sx_ob20, sx_ob21, sx_ob22, sx_ob23, sx_ob24, sx_ob25, sx_ob26, sx_ob27, sx_ob28, sx_ob29, sx_ob30, sx_ob31, sx_ob32, sx_ob33, sx_ob34, sx_ob35, sx_ob36, sx_fv0_0, sx_fv0_1, sx_fv0_2, sx_fv0_3, sx_fv0_4, sx_fv0_5, sx_fv1_0, sx_fv1_1, sx_fv1_2, sx_fv3_0, sx_fv3_1, sx_fv3_2, sx_fv3_3, sx_fv3_4, sx_fv7_0, sx_fv7_1, sx_fv7_2, sx_fv7_3, sx_fv7_4, sx_fv7_5, sx_fv7_6, sx_fv7_7, sx_fv7_8, sx_fv7_9, sx_fv7_10, sx_fv9_0, sx_fv9_1, sx_fv9_2, sx_fv9_3, sx_fv11_0, sx_fv11_1, sx_fv11_2, sx_fv11_3, sx_fv11_4, sx_fv11_5, sx_fv11_6, sx_fv15_0, sx_fv15_1, sx_fv15_2, sx_fv15_3, sx_fv15_4, sx_fv15_5, sx_fv19_0, sx_fv19_1, sx_fv19_2, sx_fv19_3, sx_fv19_4, sx_fv19_5, sx_fv19_6, sx_fv24_0, sx_fv24_1, sx_fv24_2, sx_fv24_3, sx_fv24_4, sx_fv24_5, sx_fv24_6, sx_fv24_7, sx_fv24_8, sx_fv24_9, sx_fv24_10, sx_fv24_11, sx_fv24_12, sx_fv24_13, sx_fv24_14, sx_fv24_15, sx_fv24_16, sx_fv24_17, sx_fv24_18, sx_fvS_0, sx_fvS_1, sx_fvS_2, sx_fvS_3, sx_fvS_4, sx_fvS_5, sx_fvS_6, sx_fvS_7, sx_fvS_8, sx_fvS_9, sx_ar2, sx_ar4, sx_ar5, sx_ar6, sx_ar8, sx_ar10, sx_ar12, sx_ar13, sx_ar14, sx_ar16, sx_ar17, sx_ar18, sx_ar20, sx_ar21, sx_ar22, sx_ar23, sx_ar25, sx_ar26, sx_ar27, sx_ar28, sx_ar29, sx_ar30, sx_ar31, sx_ar32, sx_ar33, sx_ar34, sx_ar35, sx_ar36, sy_ob_S, sy_ob_W, sy_ar_W, sx_if0, sx_if1, sx_ie0, sx_em, Classical.not_not, sx_cle, sx_clt, sx_cge, sx_cgt, sx_ceq, Nat.reduceLT, Nat.reduceLeDiff, Nat.reduceAdd, Nat.reduceSub, Nat.reduceEqDiff, reduceIte, List.length_cons, List.length_nil, true_and, and_true, and_self, Bool.false_eq_true, true_implies, not_true_eq_false, not_false_eq_true, false_implies, implies_true, ne_eq, reduceCtorEq, Option.some.injEq, false_and, and_false, Int.reduceNeg, Int.reduceToNat, Int.reduceLT, Int.reduceLE, Int.reduceEq, Int.reduceAdd, Int.reduceSub, Int.reduceMul, or_false, false_or, or_true, true_or, forall_const, Int.toNat_natCast, Int.toNat_zero, Int.toNat_one, Nat.zero_add, or_self, Int.neg_eq_zero]
        have e1 := c_lp_low hl (a := 1) (by decide) (by decide)
        have e7 := c_lp_low hl (a := 7) (by decide) (by decide)
        have hask := x_ask (z := st 7 3) (i := q) (by omega)
        have e : ((q : Int) + 1) = ((q + 1 : Nat) : Int) := by omega
        have h3 := c_lp_low hl (a := 3) (by decide) (by decide)
        have h4 := c_lp_low hl (a := 4) (by decide) (by decide)
        have h5 := c_lp_low hl (a := 5) (by decide) (by decide)
        have h6 := c_lp_low hl (a := 6) (by decide) (by decide)
        rw [e1, e7, hs.1, hask, e]
        refine ⟨fun c => by omega, fun _ => ⟨by unfold c_site; rw [e1]; exact hs, fun _ => ⟨fun hb => ⟨by omega, ?_⟩, fun hb => ⟨by omega, ⟨(c_net_of h3 h4 h5 h6).2.2.2 hn, c_rng_of2 e1 hl.2.1 hr, hl.2.2.1 q (by omega)⟩, fun st' hj => ⟨by omega, ?_⟩⟩⟩, fun c => by omega⟩⟩
        · exact hwk _ _ _ _ _ (by exact ⟨Or.inl rfl, Or.inl rfl, Or.inr rfl, trivial⟩) (ih (q + 1) s (by omega) (c_lp_skip hl hb))
        · exact hwk _ _ _ _ _ (by exact ⟨Or.inl rfl, Or.inl rfl, Or.inr rfl, trivial⟩) (ih (q + 1) st' (by omega) (c_lp_jd (by omega) hs.2 hl hj))
    refine hgo 100 _ _ _ _ ?_
    simp -implicitDefEqProofs only [↓rx_5_refresh_0, ↓rx_5_refresh_1, ↓rx_5_refresh_4, ↓rx_5_refresh_7, ↓rx_5_refresh_8, ↓rx_5_refresh_9, ↓rx_5_refresh_10, ↓rx_5_refresh_11, ↓rx_5_refresh_12, ↓rx_5_refresh_15, ↓rx_5_refresh_18, ↓rx_5_refresh_21, ↓rx_5_refresh_22, ↓rx_5_refresh_25, ↓rx_5_refresh_26, ↓rx_5_refresh_29, ↓rx_5_refresh_30, ↓rx_5_refresh_31, ↓rx_5_refresh_31_n, ↓rx_5_refresh_34, ↓rx_5_refresh_35, ↓rx_5_refresh_38, ↓rx_5_refresh_39, ↓rx_5_refresh_40, ↓rx_5_refresh_41, ↓rx_5_refresh_42, ↓rx_5_refresh_43, ↓rx_5_refresh_46, ↓rx_5_refresh_47, ↓rx_5_refresh_48, ↓rx_5_refresh_49, ↓rx_5_refresh_50, ↓rx_5_refresh_51, ↓rx_5_refresh_54, ↓rx_5_refresh_57, ↓rx_5_refresh_60, ↓rx_5_refresh_61, ↓rx_5_refresh_62, ↓rx_5_refresh_65, ↓rx_5_refresh_66, ↓rx_5_refresh_69, ↓cx_5_refresh_76, ↓cx_5_refresh_80, ↓cx_5_refresh_84, sp_5_judge, sp_5_sumUp, sp_7_at, ↓sx_s1, ↓sx_s2, ↓sx_s3, ↓sx_s4, ↓sx_s5, ↓sx_s6, ↓sx_m0, ↓sx_m1, ↓sx_m2, ↓sx_m3, ↓sx_m4, ↓sx_m5, ↓sx_m6, ↓sx_k0_, ↓sx_k1_, ↓sx_k2_, ↓sx_k3_, ↓sx_k4_, ↓sx_k5_, ↓sx_k6_, ↓sx_sLL, ↓sx_sAI, ↓sx_mLL, ↓sx_mIIL, ↓sx_mIILL, ↓sx_mIILLL, ↓sx_qS, ↓sx_qSI, ↓sx_qSIII, sx_rit, sx_rif, sx_rlt, sx_rlf, sx_b0, sx_b1, sx_o0, sx_o1i, sx_o1a, sx_o1l, sx_o2, sx_g0, sx_g1, sx_k1, sx_k2, sx_k3, sx_f1, sx_f2, sx_f3, sx_w0, sx_w1, sx_w2, sx_w3, sx_ts, sx_tn, sx_up, sx_nS1, sx_nS2, sx_nW1, sx_nW2, sx_SW, sx_WS, sy_nS_inj, sy_nW_inj, sx_ob0, sx_ob1, sx_ob2, sx_ob3, sx_ob4, sx_ob5, sx_ob6, sx_ob7, sx_ob8, sx_ob9, sx_ob10, sx_ob11, sx_ob12, sx_ob13, sx_ob14, sx_ob15, sx_ob16, sx_ob17, sx_ob18, sx_ob19, sx_ob20, sx_ob21, sx_ob22, sx_ob23, sx_ob24, sx_ob25, sx_ob26, sx_ob27, sx_ob28, sx_ob29, sx_ob30, sx_ob31, sx_ob32, sx_ob33, sx_ob34, sx_ob35, sx_ob36, sx_fv0_0, sx_fv0_1, sx_fv0_2, sx_fv0_3, sx_fv0_4, sx_fv0_5, sx_fv1_0, sx_fv1_1, sx_fv1_2, sx_fv3_0, sx_fv3_1, sx_fv3_2, sx_fv3_3, sx_fv3_4, sx_fv7_0, sx_fv7_1, sx_fv7_2, sx_fv7_3, sx_fv7_4, sx_fv7_5, sx_fv7_6, sx_fv7_7, sx_fv7_8, sx_fv7_9, sx_fv7_10, sx_fv9_0, sx_fv9_1, sx_fv9_2, sx_fv9_3, sx_fv11_0, sx_fv11_1, sx_fv11_2, sx_fv11_3, sx_fv11_4, sx_fv11_5, sx_fv11_6, sx_fv15_0, sx_fv15_1, sx_fv15_2, sx_fv15_3, sx_fv15_4, sx_fv15_5, sx_fv19_0, sx_fv19_1, sx_fv19_2, sx_fv19_3, sx_fv19_4, sx_fv19_5, sx_fv19_6, sx_fv24_0, sx_fv24_1, sx_fv24_2, sx_fv24_3, sx_fv24_4, sx_fv24_5, sx_fv24_6, sx_fv24_7, sx_fv24_8, sx_fv24_9, sx_fv24_10, sx_fv24_11, sx_fv24_12, sx_fv24_13, sx_fv24_14, sx_fv24_15, sx_fv24_16, sx_fv24_17, sx_fv24_18, sx_fvS_0, sx_fvS_1, sx_fvS_2, sx_fvS_3, sx_fvS_4, sx_fvS_5, sx_fvS_6, sx_fvS_7, sx_fvS_8, sx_fvS_9, sx_ar2, sx_ar4, sx_ar5, sx_ar6, sx_ar8, sx_ar10, sx_ar12, sx_ar13, sx_ar14, sx_ar16, sx_ar17, sx_ar18, sx_ar20, sx_ar21, sx_ar22, sx_ar23, sx_ar25, sx_ar26, sx_ar27, sx_ar28, sx_ar29, sx_ar30, sx_ar31, sx_ar32, sx_ar33, sx_ar34, sx_ar35, sx_ar36, sy_ob_S, sy_ob_W, sy_ar_W, sx_if0, sx_if1, sx_ie0, sx_em, Classical.not_not, sx_cle, sx_clt, sx_cge, sx_cgt, sx_ceq, Nat.reduceLT, Nat.reduceLeDiff, Nat.reduceAdd, Nat.reduceSub, Nat.reduceEqDiff, reduceIte, List.length_cons, List.length_nil, true_and, and_true, and_self, Bool.false_eq_true, true_implies, not_true_eq_false, not_false_eq_true, false_implies, implies_true, ne_eq, reduceCtorEq, Option.some.injEq, false_and, and_false, Int.reduceNeg, Int.reduceToNat, Int.reduceLT, Int.reduceLE, Int.reduceEq, Int.reduceAdd, Int.reduceSub, Int.reduceMul, or_false, false_or, or_true, true_or, forall_const, Int.toNat_natCast, Int.toNat_zero, Int.toNat_one, Nat.zero_add, or_self, Int.neg_eq_zero]
    refine ⟨fun _ => ?_, fun c => absurd c h0⟩
    exact key ns 0 st (by omega) ⟨fun _ _ _ => rfl, fun _ _ _ => rfl, hwkk, hhib, fun f i hf hi hc => hst f i hf hi (hc.elim (fun z => absurd z (Nat.not_lt_zero i)) id)⟩
