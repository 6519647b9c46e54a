/-! CLASS AND MODEL: they say the same -/
theorem r_FBN {st : sy_S} (h : r_TN st) {w : Nat} (hw : w < 4) : c_F st w = m_F st w ∧ c_B st w = m_B st w ∧ c_N st w = m_N st w := by
  unfold c_F c_B c_N m_F m_B m_N
  rw [if_pos hw, if_pos hw, if_pos hw, if_pos hw]
  exact h w hw
theorem r_fg {st : sy_S} (h : r_TN st) (f : Int) {w : Nat} (hw : w < 4) : c_fg st f w = m_fg st f w := by
  unfold c_fg m_fg xg_f
  have a := r_FBN h hw
  have b1 := (r_FBN h (w := 1) (by omega)).2.2
  have b2 := (r_FBN h (w := 2) (by omega)).2.2
  have b3 := (r_FBN h (w := 3) (by omega)).2.2
  rw [a.1, a.2.1, a.2.2]
  congr 3
  unfold xg_k
  rw [b1, b2, b3]
theorem r_tot {ns : Nat} {st : sy_S} (h : Rel ns st) : st 3 4 = m_tot st := by
  have hn := h.1.1.1.2.2.1
  have hT := h.2.2.2.2.2.1
  rw [hn.2.2, hn.2.1, (r_FBN hT (w := 0) (by omega)).2.2, (r_FBN hT (w := 1) (by omega)).2.2, (r_FBN hT (w := 2) (by omega)).2.2, (r_FBN hT (w := 3) (by omega)).2.2]
  show _ = m_N st 0 * m_N st 1 * m_N st 2 * m_N st 3
  grind
theorem r_agt {ns : Nat} {st : sy_S} (h : Rel ns st) {i : Nat} (hi : i < ns) (f ld : Int) : c_agt st f i ld = xg_ag (m_fg st f 0) (m_fg st f 1) (m_fg st f 2) (m_fg st f 3) (st 25 i) (st 28 i) (st 24 0 * (st 29 (4 * i + 0) - ld) - st 26 i) (st 24 0 * (st 29 (4 * i + 1) - ld) - st 26 i) (st 24 0 * (st 29 (4 * i + 2) - ld) - st 26 i) (st 24 0 * (st 29 (4 * i + 3) - ld) - st 26 i) := by
  have hT := h.2.2.2.2.2.1
  obtain ⟨t1, t2⟩ := h.2.2.2.2.1
  obtain ⟨⟨a0, a1, a4, a5⟩, b1, b2⟩ := t2 i hi
  unfold c_agt
  rw [r_fg hT f (w := 0) (by omega), r_fg hT f (w := 1) (by omega), r_fg hT f (w := 2) (by omega), r_fg hT f (w := 3) (by omega), a0, a1, a5, t1]
  unfold xg_ag
  by_cases k1 : st 28 i = 1
  · have e0 := b1 k1 0 (by omega); have e1 := b1 k1 1 (by omega); have e2 := b1 k1 2 (by omega); have e3 := b1 k1 3 (by omega)
    simp only [show 6 + 0 = 6 from rfl, show 6 + 1 = 7 from rfl, show 6 + 2 = 8 from rfl, show 6 + 3 = 9 from rfl] at e0 e1 e2 e3
    rw [e0, e1, e2, e3]
  · rw [if_neg k1, if_neg k1]
    by_cases k2 : st 28 i = 2
    · have e0 := b2 k2 0 (by omega); have e1 := b2 k2 1 (by omega)
      simp only [show 6 + 0 = 6 from rfl, show 6 + 1 = 7 from rfl] at e0 e1
      rw [e0, e1]
    · rw [if_neg k2, if_neg k2]
theorem r_ag {ns : Nat} {st : sy_S} (h : Rel ns st) {i : Nat} (hi : i < ns) (f : Int) : c_ag st f i = m_ag st f i := by
  unfold c_ag
  rw [r_agt h hi, (h.2.2.2.2.1.2 i hi).1.2.2.1]
  rfl
theorem r_wr {ns : Nat} {st : sy_S} (h : Rel ns st) (f : Int) : c_wr ns st f = m_wr ns st f := xc_ext ns (fun i hi => by rw [r_ag h hi])
theorem r_ft {ns : Nat} {st : sy_S} (h : Rel ns st) : c_ft ns st = m_ft ns st := by
  funext f
  unfold c_ft m_ft
  rw [r_wr h]
theorem r_wh {ns : Nat} {st : sy_S} (h : Rel ns st) : c_wh st = m_wh st := by
  funext f
  unfold c_wh m_wh
  rw [r_fg h.2.2.2.2.2.1 _ (by omega), r_fg h.2.2.2.2.2.1 _ (by omega)]
theorem r_best {ns : Nat} {st : sy_S} (h : Rel ns st) : c_best ns st = m_best ns st := by
  unfold c_best m_best
  rw [r_tot h]
  exact xb_ext _ (fun i _ => r_wr h _)
theorem r_at {ns : Nat} {st : sy_S} (h : Rel ns st) {i : Nat} (hi : i < ns) (t : Int) : c_at st i (st 1 2) t = m_pl st i t := by
  obtain ⟨t1, t2⟩ := h.2.2.2.2.1
  obtain ⟨⟨a0, a1, a4, a5⟩, _⟩ := t2 i hi
  unfold c_at m_pl
  rw [t1, a1, a4]
def r_pair (ns : Nat) (st : sy_S) (sp8 sp9 : Nat → sy_Sp) (as : List sy_V) : Prop := sp8 ns (.inr (.inr (some (some 0))) :: as) st (fun r st1 => sp9 ns (.inr (.inr (some (some 24))) :: as) st1 (fun r2 st2 => r2 = r ∧ Rel ns st2))
theorem pr_figures {ns : Nat} {st : sy_S} (h : Rel ns st) : r_pair ns st sp_8_figures sp_9_figures [] := by
  refine ⟨rfl, rfl, h.2.2.2.1.1, ?_, h⟩
  rw [r_tot h]
theorem pr_fitting {ns : Nat} {st : sy_S} (h : Rel ns st) : r_pair ns st sp_8_fitting sp_9_fitting [] := by
  refine ⟨rfl, h.1.1, fun s hr => ?_⟩
  have g := r_rf h hr
  refine ⟨rfl, g.2.2.2.1.1, ?_, g⟩
  rw [← r_ft g, ← r_tot g, c_same_ft hr.1, c_same_low hr.1 (a := 3) (by decide) (by decide) (by decide)]
theorem pr_fits {ns : Nat} {st : sy_S} (h : Rel ns st) (k : Int) : r_pair ns st sp_8_fits sp_9_fits [.inl (true, k)] := by
  refine ⟨rfl, h.1.1, fun s hr => ?_⟩
  have g := r_rf h hr
  refine ⟨rfl, g.2.2.2.1.1, ?_, g⟩
  rw [← r_ft g, ← r_tot g, c_same_ft hr.1, c_same_low hr.1 (a := 3) (by decide) (by decide) (by decide)]
theorem c_same_wh {ns : Nat} {st st' : sy_S} (h : c_same ns st st') : c_wh st' = c_wh st := c_wh_of (c_same_fg h)
theorem pr_size {ns : Nat} {st : sy_S} (h : Rel ns st) (k : Int) : r_pair ns st sp_8_size sp_9_size [.inl (true, k)] := by
  refine ⟨rfl, h.1.1, fun s hr => ?_⟩
  have g := r_rf h hr
  refine ⟨rfl, g.2.2.2.1.1, ?_, g⟩
  rw [← r_ft g, ← r_tot g, ← r_wh g, c_same_ft hr.1, c_same_wh hr.1, c_same_low hr.1 (a := 3) (by decide) (by decide) (by decide)]
theorem pr_planned {ns : Nat} {st : sy_S} (h : Rel ns st) (i : Int) : r_pair ns st sp_8_planned sp_9_planned [.inl (true, i)] := by
  have hp := h.2.2.2.2.2.2.2
  have hd := h.2.2.1.2
  refine ⟨rfl, hd.2, rfl, by rw [← hp.1]; exact hd.2, ?_, h⟩
  rw [← hp.1]
  split
  · rename_i q; rw [hp.2 i.toNat (by omega)]
  · rfl
theorem pr_place {ns : Nat} {st : sy_S} (h : Rel ns st) (i t : Int) : r_pair ns st sp_8_place sp_9_place [.inl (true, i), .inl (true, t)] := by
  refine ⟨rfl, ⟨h.1.1.1.1, h.1.1.1.2.1⟩, rfl, h.2.2.2.1.1, ?_, h⟩
  split
  · rename_i q; rw [r_at h (by omega)]
  · rfl
theorem pr_figure {ns : Nat} {st : sy_S} (h : Rel ns st) (f w : Int) : r_pair ns st sp_8_figure sp_9_figure [.inl (true, f), .inl (true, w)] := by
  refine ⟨rfl, h.1.1.1.2.2.1, rfl, h.2.2.2.1.1, ?_, h⟩
  rw [r_tot h]
  split
  · rename_i q; rw [r_fg h.2.2.2.2.2.1 f (w := w.toNat) (by omega)]
  · rfl
theorem pr_agrees {ns : Nat} {st : sy_S} (h : Rel ns st) (f i : Int) : r_pair ns st sp_8_agrees sp_9_agrees [.inl (true, f), .inl (true, i)] := by
  refine ⟨rfl, h.1.1, fun c s hr => ?_, fun c => ?_⟩
  · have g := r_rf h hr
    refine ⟨rfl, g.2.2.2.1.1, ?_, g⟩
    have e3 := c_same_low hr.1 (a := 3) (by decide) (by decide) (by decide)
    rw [← r_tot g, e3, if_pos c, ← r_ag g (by omega), c_same_ag hr.1]
  · refine ⟨rfl, h.2.2.2.1.1, ?_, h⟩
    rw [← r_tot h, if_neg c]
theorem pr_bad {ns : Nat} {st : sy_S} (h : Rel ns st) (w : Int) : r_pair ns st sp_8_bad sp_9_bad [.inl (true, w)] := by
  refine ⟨rfl, h.1.1, fun c s hr => ?_, fun c => ?_⟩
  · have g := r_rf h hr
    refine ⟨rfl, g.2.2.2.1.1, ?_, g⟩
    rw [← r_best g, ← r_wr g, c_same_best hr.1, c_same_wr hr.1]
    rcases c with c | c
    · rw [if_neg (by omega), if_pos c, if_neg (by omega)]
    · rw [if_pos c, if_pos c]
  · refine ⟨rfl, h.2.2.2.1.1, ?_, h⟩
    rw [if_neg (fun q => c (Or.inr q)), if_neg (fun q => c (Or.inl q))]
theorem pr_isBad {ns : Nat} {st : sy_S} (h : Rel ns st) (i : Int) : r_pair ns st sp_8_isBad sp_9_isBad [.inl (true, i)] := by
  refine ⟨rfl, h.1.1, fun c => ?_, fun c s1 s hr1 hr => ?_⟩
  · refine ⟨rfl, h.2.2.2.1.1, ?_, h⟩
    rw [if_neg c]
  · have g1 := r_rf h hr1
    have g := r_rf g1 hr
    refine ⟨rfl, g.2.2.2.1.1, ?_, g⟩
    rw [if_pos c, ← r_best g, ← r_ag g (by omega), c_same_best hr.1, c_same_best hr1.1, c_same_ag hr.1, c_same_ag hr1.1]
theorem pr_all {ns : Nat} {st : sy_S} (h : Rel ns st) (w : Int) : r_pair ns st sp_8_all sp_9_all [.inl (true, w)] := by
  refine ⟨rfl, h.1.1.1.1, rfl, h.2.2.2.1.1.1, ?_, h⟩
  have e1 : st 24 1 = st 1 1 := by rw [h.2.2.2.1.1.1.1, h.1.1.1.1.1]
  have e2 : xc (fun s => decide (st 28 s = w)) ns = xc (fun i => decide (st (sy_nS i) 5 = w)) ns := xc_ext ns (fun i hi => by rw [(h.2.2.2.2.1.2 i hi).1.2.2.2])
  rw [e1, e2, ← h.2.2.2.2.2.2.1.1]
