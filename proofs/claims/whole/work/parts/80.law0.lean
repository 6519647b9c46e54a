/-! THE CLAIM OUT OF ONE WALK OF THE LAW'S BODY. Your part is whole_start (and what it stands on); all else here is the same for every law, but numbers. -/
def R_law : String := "StarHideLaw"
def lw_P (b : Addr) (xs : List Int32) (args : Array Value) (s : State) : Prop := args = #[.ref b] ∧ s.IntsAt b xs ∧ xs.length ≤ 3072 ∧ (Jvm.Cond.and given_1 narrow_1).before args s = true
def lw_Q (_ : Array Value) (s : State) (o : Outcome) (t : State) : Prop := o = .returned (some (.int 1)) ∧ Framed s o t [] 600000 7302250
def lw_Z (below : List Frame) (a : Array Value) (s : State) : State → Prop := fun t => ∃ o, t.status = .running ∧ Ended t below o ∧ lw_Q a s o t
/-- the law's own end, with 1 on the stack, nothing written that was there before, its room as the claim has it -/
theorem lw_ret {p : Program} {l : Launch} {e : Env} {s : State} {m : MethodId} {below : List Frame} {meth : Method} {c : Code} {b : Nat} (hx : p.tables.exec = Jvm.exec) (hb : c.code = code) (hr : meth.sig.returnType = ret) (hlocks : meth.locks = false) {pc : Nat} {H : Heap} {ls : Array Slot} (hdg : decode code pc = .ok (.ireturn, 1)) : W p l e room_1 s m #[Value.ref b] below meth c H [] 600000 7302250 (lw_Z below #[Value.ref b] s) (F0 m pc ls [.int 1]) := by
  intro T hT X
  obtain ⟨fs, hret, hrun, hended, hW, hframe⟩ := X.leave (v := some (.int 1)) (hlocks := hlocks) (fun h => by rw [hr] at h; cases h)
  have hmeth' : T.vm.method? m = some meth := X.method'
  refine ⟨T.setFrames fs, ?_, .returned (some (.int 1)), hrun, hended, rfl, ⟨_, rfl⟩, hW, hframe⟩
  jvm_step X.here [X.here.top, hx, hb, hdg, hmeth', hr, ret, narrow_b1]
  (try refine ⟨rfl, ?_⟩); (try refine ⟨rfl, ?_⟩)
  first | (intro acts; rw [hret _ acts rfl rfl rfl]) | rw [hret _ _ rfl rfl rfl]
  exact Steps.refl _
/-- what holds at the law's entry: the machine, the code, the tables' words (any of lw_tbl by 'hts w (by decide +kernel)'), the script of L ints xs at the cell b, what the Statement gives of the start (any of its parts by flat_of_before) -/
def lw_At (p : Program) (s : State) (m : MethodId) (meth : Method) (c : Code) (b L : Nat) (xs : Nat → Int32) : Prop :=
  p.tables.exec = Jvm.exec ∧ c.code = code ∧ meth.sig.returnType = ret ∧ c.maxLocals = 4 ∧ s.vm.findClass R_law = some m.cls ∧ (∀ w ∈ lw_tbl, w.before #[Value.ref b] s = true) ∧ va_X b L xs s s.heap ∧ b < s.heap.size ∧ meth.locks = false ∧ (Jvm.Cond.and given_1 narrow_1).before #[Value.ref b] s = true

/-! shapes of answers -/
theorem sh_i (c : Int) : (∃ z : Int, (some (Sum.inl (true, c)) : Option sy_V) = some (Sum.inl (true, z))) = True := eq_true ⟨c, rfl⟩
theorem sh_l (c : Int) : (∃ z : Int, (some (Sum.inr (Sum.inl (true, c))) : Option sy_V) = some (Sum.inr (Sum.inl (true, z)))) = True := eq_true ⟨c, rfl⟩
def r_pairi (ns : Nat) (st : sy_S) (sp8 sp9 : Nat → sy_Sp) (as : List sy_V) : Prop := sp8 ns (.inr (.inr (some (some 0))) :: as) st (fun r st1 => (∃ z : Int, r = some (.inl (true, z))) ∧ sp9 ns (.inr (.inr (some (some 24))) :: as) st1 (fun r2 st2 => r2 = r ∧ Rel ns st2))
def r_pairl (ns : Nat) (st : sy_S) (sp8 sp9 : Nat → sy_Sp) (as : List sy_V) : Prop := sp8 ns (.inr (.inr (some (some 0))) :: as) st (fun r st1 => (∃ z : Int, r = some (.inr (.inl (true, z)))) ∧ sp9 ns (.inr (.inr (some (some 24))) :: as) st1 (fun r2 st2 => r2 = r ∧ Rel ns st2))
theorem pi_speed {ns : Nat} {st : sy_S} {a1 : Int} (h : r_pair ns st sp_8_speed sp_9_speed [.inl (true, a1)]) : r_pairi ns st sp_8_speed sp_9_speed [.inl (true, a1)] := by
  unfold r_pair at h
  unfold r_pairi
  simp only [sp_8_speed, sy_m1, sh_i, true_and] at h ⊢
  exact h
theorem pi_ahead {ns : Nat} {st : sy_S} {a1 a2 : Int} (h : r_pair ns st sp_8_ahead sp_9_ahead [.inl (true, a1), .inl (true, a2)]) : r_pairi ns st sp_8_ahead sp_9_ahead [.inl (true, a1), .inl (true, a2)] := by
  unfold r_pair at h
  unfold r_pairi
  simp only [sp_8_ahead, sy_m2, sh_i, true_and] at h ⊢
  exact h
theorem pi_chord {ns : Nat} {st : sy_S} {a1 a2 a3 a4 a5 : Int} (h : r_pair ns st sp_8_chord sp_9_chord [.inl (true, a1), .inl (true, a2), .inl (true, a3), .inl (true, a4), .inl (true, a5)]) : r_pairi ns st sp_8_chord sp_9_chord [.inl (true, a1), .inl (true, a2), .inl (true, a3), .inl (true, a4), .inl (true, a5)] := by
  unfold r_pair at h
  unfold r_pairi
  simp only [sp_8_chord, sy_m5, sh_i, true_and] at h ⊢
  exact h
theorem pi_miss {ns : Nat} {st : sy_S} {a1 a2 a3 : Int} (h : r_pair ns st sp_8_miss sp_9_miss [.inl (true, a1), .inl (true, a2), .inl (true, a3)]) : r_pairi ns st sp_8_miss sp_9_miss [.inl (true, a1), .inl (true, a2), .inl (true, a3)] := by
  unfold r_pair at h
  unfold r_pairi
  simp only [sp_8_miss, sy_m3, sh_i, true_and] at h ⊢
  exact h
theorem pi_cloud {ns : Nat} {st : sy_S} {a1 : Int} (h : r_pair ns st sp_8_cloud sp_9_cloud [.inl (true, a1)]) : r_pairi ns st sp_8_cloud sp_9_cloud [.inl (true, a1)] := by
  unfold r_pair at h
  unfold r_pairi
  simp only [sp_8_cloud, sy_m1, sh_i, true_and] at h ⊢
  exact h
theorem pi_unsay {ns : Nat} {st : sy_S} {a1 : Int} (h : r_pair ns st sp_8_unsay sp_9_unsay [.inl (true, a1)]) : r_pairi ns st sp_8_unsay sp_9_unsay [.inl (true, a1)] := by
  unfold r_pair at h
  unfold r_pairi
  simp only [sp_8_unsay, sy_m1, sh_i, true_and] at h ⊢
  exact h
theorem pi_place {ns : Nat} {st : sy_S} {a1 a2 : Int} (h : r_pair ns st sp_8_place sp_9_place [.inl (true, a1), .inl (true, a2)]) : r_pairi ns st sp_8_place sp_9_place [.inl (true, a1), .inl (true, a2)] := by
  unfold r_pair at h
  unfold r_pairi
  simp only [sp_8_place, sy_m2, sh_i, true_and] at h ⊢
  exact h
theorem pi_net {ns : Nat} {st : sy_S} {a1 a2 a3 a4 : Int} (h : r_pair ns st sp_8_net sp_9_net [.inl (true, a1), .inl (true, a2), .inl (true, a3), .inl (true, a4)]) : r_pairi ns st sp_8_net sp_9_net [.inl (true, a1), .inl (true, a2), .inl (true, a3), .inl (true, a4)] := by
  unfold r_pair at h
  unfold r_pairi
  simp only [sp_8_net, sy_m4, sh_i, true_and] at h ⊢
  exact h
theorem pi_figures {ns : Nat} {st : sy_S} (h : r_pair ns st sp_8_figures sp_9_figures []) : r_pairi ns st sp_8_figures sp_9_figures [] := by
  unfold r_pair at h
  unfold r_pairi
  simp only [sp_8_figures, sy_m0, sh_i, true_and] at h ⊢
  exact h
theorem pi_figure {ns : Nat} {st : sy_S} {a1 a2 : Int} (h : r_pair ns st sp_8_figure sp_9_figure [.inl (true, a1), .inl (true, a2)]) : r_pairi ns st sp_8_figure sp_9_figure [.inl (true, a1), .inl (true, a2)] := by
  unfold r_pair at h
  unfold r_pairi
  simp only [sp_8_figure, sy_m2, sh_i, true_and] at h ⊢
  exact h
theorem pi_agrees {ns : Nat} {st : sy_S} {a1 a2 : Int} (h : r_pair ns st sp_8_agrees sp_9_agrees [.inl (true, a1), .inl (true, a2)]) : r_pairi ns st sp_8_agrees sp_9_agrees [.inl (true, a1), .inl (true, a2)] := by
  unfold r_pair at h
  unfold r_pairi
  simp only [sp_8_agrees, sy_m2, sh_i, true_and] at h ⊢
  exact h
theorem pi_fitting {ns : Nat} {st : sy_S} (h : r_pair ns st sp_8_fitting sp_9_fitting []) : r_pairi ns st sp_8_fitting sp_9_fitting [] := by
  unfold r_pair at h
  unfold r_pairi
  simp only [sp_8_fitting, sy_m0, sh_i, true_and] at h ⊢
  exact h
theorem pi_fits {ns : Nat} {st : sy_S} {a1 : Int} (h : r_pair ns st sp_8_fits sp_9_fits [.inl (true, a1)]) : r_pairi ns st sp_8_fits sp_9_fits [.inl (true, a1)] := by
  unfold r_pair at h
  unfold r_pairi
  simp only [sp_8_fits, sy_m1, sh_i, true_and] at h ⊢
  exact h
theorem pi_size {ns : Nat} {st : sy_S} {a1 : Int} (h : r_pair ns st sp_8_size sp_9_size [.inl (true, a1)]) : r_pairi ns st sp_8_size sp_9_size [.inl (true, a1)] := by
  unfold r_pair at h
  unfold r_pairi
  simp only [sp_8_size, sy_m1, sh_i, true_and] at h ⊢
  exact h
theorem pi_bad {ns : Nat} {st : sy_S} {a1 : Int} (h : r_pair ns st sp_8_bad sp_9_bad [.inl (true, a1)]) : r_pairi ns st sp_8_bad sp_9_bad [.inl (true, a1)] := by
  unfold r_pair at h
  unfold r_pairi
  simp only [sp_8_bad, sy_m1, sh_i, true_and] at h ⊢
  exact h
theorem pi_isBad {ns : Nat} {st : sy_S} {a1 : Int} (h : r_pair ns st sp_8_isBad sp_9_isBad [.inl (true, a1)]) : r_pairi ns st sp_8_isBad sp_9_isBad [.inl (true, a1)] := by
  unfold r_pair at h
  unfold r_pairi
  simp only [sp_8_isBad, sy_m1, sh_i, true_and] at h ⊢
  exact h
theorem pi_clock {ns : Nat} {st : sy_S} {a1 a2 : Int} (h : r_pair ns st sp_8_clock sp_9_clock [.inl (true, a1), .inl (true, a2)]) : r_pairi ns st sp_8_clock sp_9_clock [.inl (true, a1), .inl (true, a2)] := by
  unfold r_pair at h
  unfold r_pairi
  simp only [sp_8_clock, sy_m2, sh_i, true_and] at h ⊢
  exact h
theorem pi_inside {ns : Nat} {st : sy_S} {a1 : Int} (h : r_pair ns st sp_8_inside sp_9_inside [.inl (true, a1)]) : r_pairi ns st sp_8_inside sp_9_inside [.inl (true, a1)] := by
  unfold r_pair at h
  unfold r_pairi
  simp only [sp_8_inside, sy_m1, sh_i, true_and] at h ⊢
  exact h
theorem pi_corner {ns : Nat} {st : sy_S} {a1 a2 : Int} (h : r_pair ns st sp_8_corner sp_9_corner [.inl (true, a1), .inl (true, a2)]) : r_pairi ns st sp_8_corner sp_9_corner [.inl (true, a1), .inl (true, a2)] := by
  unfold r_pair at h
  unfold r_pairi
  simp only [sp_8_corner, sy_m2, sh_i, true_and] at h ⊢
  exact h
theorem pi_quarrels {ns : Nat} {st : sy_S} {a1 : Int} (h : r_pair ns st sp_8_quarrels sp_9_quarrels [.inl (true, a1)]) : r_pairi ns st sp_8_quarrels sp_9_quarrels [.inl (true, a1)] := by
  unfold r_pair at h
  unfold r_pairi
  simp only [sp_8_quarrels, sy_m1, sh_i, true_and] at h ⊢
  exact h
theorem pi_dip {ns : Nat} {st : sy_S} {a1 a2 a3 : Int} (h : r_pair ns st sp_8_dip sp_9_dip [.inl (true, a1), .inl (true, a2), .inl (true, a3)]) : r_pairi ns st sp_8_dip sp_9_dip [.inl (true, a1), .inl (true, a2), .inl (true, a3)] := by
  unfold r_pair at h
  unfold r_pairi
  simp only [sp_8_dip, sy_m3, sh_i, true_and] at h ⊢
  exact h
theorem pi_even {ns : Nat} {st : sy_S} {a1 : Int} (h : r_pair ns st sp_8_even sp_9_even [.inl (true, a1)]) : r_pairi ns st sp_8_even sp_9_even [.inl (true, a1)] := by
  unfold r_pair at h
  unfold r_pairi
  simp only [sp_8_even, sy_m1, sh_i, true_and] at h ⊢
  exact h
theorem pi_calm {ns : Nat} {st : sy_S} (h : r_pair ns st sp_8_calm sp_9_calm []) : r_pairi ns st sp_8_calm sp_9_calm [] := by
  unfold r_pair at h
  unfold r_pairi
  simp only [sp_8_calm, sy_m0, sh_i, true_and] at h ⊢
  exact h
theorem pi_ring {ns : Nat} {st : sy_S} {a1 a2 : Int} (h : r_pair ns st sp_8_ring sp_9_ring [.inl (true, a1), .inl (true, a2)]) : r_pairl ns st sp_8_ring sp_9_ring [.inl (true, a1), .inl (true, a2)] := by
  unfold r_pair at h
  unfold r_pairl
  simp only [sp_8_ring, sy_m2, sh_l, true_and] at h ⊢
  exact h
theorem pi_plan {ns : Nat} {st : sy_S} {a1 a2 a3 : Int} (h : r_pair ns st sp_8_plan sp_9_plan [.inl (true, a1), .inl (true, a2), .inl (true, a3)]) : r_pairi ns st sp_8_plan sp_9_plan [.inl (true, a1), .inl (true, a2), .inl (true, a3)] := by
  unfold r_pair at h
  unfold r_pairi
  simp only [sp_8_plan, sy_m3, sh_i, true_and] at h ⊢
  exact h
theorem pi_planned {ns : Nat} {st : sy_S} {a1 : Int} (h : r_pair ns st sp_8_planned sp_9_planned [.inl (true, a1)]) : r_pairi ns st sp_8_planned sp_9_planned [.inl (true, a1)] := by
  unfold r_pair at h
  unfold r_pairi
  simp only [sp_8_planned, sy_m1, sh_i, true_and] at h ⊢
  exact h
theorem pi_all {ns : Nat} {st : sy_S} {a1 : Int} (h : r_pair ns st sp_8_all sp_9_all [.inl (true, a1)]) : r_pairi ns st sp_8_all sp_9_all [.inl (true, a1)] := by
  unfold r_pair at h
  unfold r_pairi
  simp only [sp_8_all, sy_m1, sh_i, true_and] at h ⊢
  exact h
/-! a site, on both sides -/
theorem ps_yes {ns : Nat} {st : sy_S} {y x : Int} (h : Rel ns st) (hc : sa_can8 ns st y x) : sp_9_site (ns + 1) [.inr (.inr (some (some 24))), .inl (true, y), .inl (true, x)] (c_new st ns y x) (fun r st2 => r = some (.inl (true, (ns : Int))) ∧ Rel (ns + 1) st2) := by
  obtain ⟨⟨hy, hx⟩, hn, hd⟩ := hc
  have e24 : c_new st ns y x 24 = st 24 := c_new_ne _ _ _ _ (by decide) (by unfold sy_nS; omega) (by unfold sy_nW; omega)
  have e25 : c_new st ns y x 25 = st 25 := c_new_ne _ _ _ _ (by decide) (by unfold sy_nS; omega) (by unfold sy_nW; omega)
  have n24 : st 24 1 = ns := h.2.2.2.1.1.1.1
  have hnew : m_new (c_new st ns y x) y x := by
    refine ⟨hy, hx, by rw [e24, n24]; omega, fun j hj => ?_⟩
    rw [e24, n24] at hj
    rw [e25, ← (h.2.2.2.2.1.2 j (by omega)).1.1]
    exact hd j (by omega)
  refine ⟨rfl, ⟨by rw [e24, n24]; omega, by rw [e24, n24]; omega⟩, fun _ => ⟨by rw [e24, n24], r_site h hn hy hx hd⟩, fun q => absurd hnew q⟩
theorem ps_no {ns : Nat} {st : sy_S} {y x : Int} (h : Rel ns st) (hc : ¬ sa_can8 ns st y x) : sp_9_site ns [.inr (.inr (some (some 24))), .inl (true, y), .inl (true, x)] st (fun r st2 => r = some (.inl (true, (-1 : Int))) ∧ Rel ns st2) := by
  have n24 : st 24 1 = ns := h.2.2.2.1.1.1.1
  have hs : ns ≤ 16 := h.1.1.1.1.2
  refine ⟨rfl, ⟨by rw [n24]; omega, by rw [n24]; omega⟩, fun q => ?_, fun _ => ⟨rfl, h⟩⟩
  obtain ⟨q1, q2, q3, q4⟩ := q
  rw [n24] at q3
  refine absurd ⟨⟨q1, q2⟩, by omega, fun j hj => ?_⟩ hc
  rw [(h.2.2.2.2.1.2 j hj).1.1]
  exact q4 j (by rw [n24]; omega)
/-! the law's small steps -/
theorem lw_and (a : Int32) : ∃ k : Nat, k < 32 ∧ a &&& 31 = nI k := by
  refine ⟨(a &&& 31).toBitVec.toNat, ?_, ?_⟩
  · rw [Int32.toBitVec_and, BitVec.toNat_and]
    exact Nat.lt_of_le_of_lt Nat.and_le_right (by decide)
  · rw [← Int32.toBitVec_inj]
    show _ = BitVec.ofNat 32 _
    rw [BitVec.ofNat_toNat, BitVec.setWidth_eq]
theorem lw_cmp (x : Int64) : lg_cmp x x = 0 := by
  unfold lg_cmp
  rw [if_neg (Int64.lt_irrefl), if_pos rfl]
theorem lw_ok {ns b : Nat} (hb : b < 37 + 2 * ns) (vs : List Int32) : ∀ v ∈ (.inr (.inr (some (some b))) :: vs.map (fun z => .inl (true, z.toInt)) : List sy_V), sy_ok (37 + 2 * ns) v ∧ sy_kn v = v ∧ sy_set v = true := by
  intro v hv
  rcases List.mem_cons.mp hv with rfl | hv
  · exact ⟨hb, rfl, rfl⟩
  · obtain ⟨z, _, rfl⟩ := List.mem_map.mp hv
    exact ⟨sy_iR_of z, rfl, rfl⟩
theorem lw_ok1 {ns b : Nat} (hb : b < 37 + 2 * ns) {z : Int} (hz : sy_iR z) : ∀ v ∈ ([.inr (.inr (some (some b))), .inl (true, z)] : List sy_V), sy_ok (37 + 2 * ns) v ∧ sy_kn v = v ∧ sy_set v = true := by
  intro v hv
  simp only [List.mem_cons, List.not_mem_nil, or_false] at hv
  rcases hv with rfl | rfl
  · exact ⟨hb, rfl, rfl⟩
  · exact ⟨hz, rfl, rfl⟩
abbrev lw_A (s : State) : Nat → Prop := fun q => s.heap.size ≤ q
def lw_C (p : Program) (s : State) (m : MethodId) (meth : Method) (c : Code) (b L : Nat) (xs : Nat → Int32) (wd : sy_D) : Prop := lw_At p s m meth c b L xs ∧ sk_K wd s ∧ sy_KK wd s
theorem lw_fix {p : Program} {s : State} {m : MethodId} {meth : Method} {c : Code} {b L : Nat} {xs : Nat → Int32} {wd : sy_D} (C0 : lw_C p s m meth c b L xs wd) : CallFix p m c code 4 s #[Value.ref b] sy_tb R_law := by
  obtain ⟨⟨hx, hb, hr, hml, hown, hts, hX, hbl, hlocks, hgv⟩, hK, hKK⟩ := C0
  exact ⟨hx, hb, hml, hown, fun w hw => hts w (List.mem_filter.mp hw).1⟩
section LW
variable {p : Program} {l : Launch} {e : Env} {s : State} {m : MethodId} {below : List Frame} {meth : Method} {c : Code} {b L : Nat} {xs : Nat → Int32} {wd : sy_D} {H : Heap} {locs : List Loc} {cells slots : Nat} {ls : Array Slot} {i ax am : Nat} {Q : State → Prop}
theorem lw_arg (C0 : lw_C p s m meth c b L xs wd) (hS : va_S (lw_A s) s.heap H locs) (hl : lv_has ls 4 [(0, .ref b), (1, .ref ax), (2, .ref am), (3, .int (nI i))]) (hi : i + 5 < L) (hL : L ≤ 3072) {pc k : Nat} (hk : k ≤ 5) {kz : Int} (hkz : Int32.ofInt kz = nI k) (d0 : decode code pc = .ok (.aload_n 0, 1)) (d1 : decode code (pc + 1) = .ok (.iload_n 3, 1)) (d2 : decode code (pc + 1 + 1) = .ok (.iconst kz, 1)) (d3 : decode code (pc + 1 + 1 + 1) = .ok (.iadd, 1)) (d4 : decode code (pc + 1 + 1 + 1 + 1) = .ok (.iaload, 1)) {rest : List Value}
    (kk : W p l e room_1 s m #[Value.ref b] below meth c H locs cells slots Q (F0 m (pc + 5) ls (.int (Int32.ofInt (xs (i + k)).toInt) :: rest))) : W p l e room_1 s m #[Value.ref b] below meth c H locs cells slots Q (F0 m pc ls rest) := by
  obtain ⟨⟨hx, hb, hr, hml, hown, hts, hX, hbl, hlocks, hgv⟩, hK, hKK⟩ := C0
  have hbA : ¬ lw_A s b := Nat.not_le.mpr hbl
  refine lv_aload_n hx hb d0 rfl (lv_at hl 0 rfl) ?_
  refine lv_iload_n hx hb d1 rfl (lv_at hl 3 rfl) ?_
  refine lv_iconst hx hb d2 hkz ?_
  refine lv_iadd hx hb d3 ?_
  rw [nI_add]
  refine va_sld hx hb hX hbl hbA hS (vp_in_nI (by omega) (by omega)) d4 ?_
  rw [nI_clamp (by omega), ← Int32.ofInt_toInt (xs (i + k))]
  exact kk
end LW

