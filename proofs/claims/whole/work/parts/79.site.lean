/-! CALLS OUT OF A WALK BY HAND; Sites.add, StarHide.site -/
section SQ
variable {p : Program} {l : Launch} {e : Env} {R : Room} {s : State} {m : MethodId} {args : Array Value} {below : List Frame} {meth : Method} {c : Code} {cc : ByteArray} {own : String} {nL : Nat} {wd : sy_D} {ad : Nat → Nat} {ns : Nat} {A : Nat → Prop} {Q : State → Prop} {H : Heap} {locs : List Loc} {cells slots : Nat} {pc : Nat} {ls : Array Slot}
theorem sq_after {rest st0 : List Value} {post : sy_R} {a : Array Value} (hr : va_Run p l e R s m args below meth c H locs cells slots 0 0 (F0 m pc ls st0) rest (sy_Qc wd ad ns (sy_A ad ns H.size) post a) (sy_A ad ns H.size))
    (hA : ∀ q, sy_A ad ns H.size q → A q) (hS : va_S A s.heap H locs)
    (kk : ∀ (r : Option sy_V) (st' : sy_S) (H' : Heap) (locs' : List Loc), post r st' → (∀ v ∈ r.toList, sy_ok (37 + 2 * ns) v) → sy_WO wd ad ns st' A H' → va_S A s.heap H' locs' → W p l e R s m args below meth c H' locs' cells slots Q (F0 m (pc + 3) ls ((r.map (sy_cv ad)).toList ++ rest))) : W p l e R s m args below meth c H locs cells slots Q (F0 m pc ls st0) := by
  intro T hT X
  obtain ⟨v, st₀, t, T', L9, h0, X', hL9, e1, e2, ⟨r, st', hv, hp, hro, hWO, hz, hkp⟩, stp⟩ := hr T hT X
  injection hv with hv
  subst hv
  rw [h0] at hz hkp
  have hS1 : va_S A s.heap T'.heap (locs ++ L9) := ⟨Nat.le_trans hS.1 (by rw [e1]; exact hz), fun q h1 h2 => by rw [e1, hkp q (Nat.lt_of_lt_of_le h1 hS.1) (fun z => h2 (hA q z))]; exact hS.2.1 q h1 h2, fun q hq => by
      rcases List.mem_append.mp hq with h | h
      · exact hS.2.2 q h
      · exact hA _ (hL9 q h)⟩
  obtain ⟨t2, a1, b1⟩ := kk r st' T'.heap (locs ++ L9) hp hro ⟨by rw [e1]; exact hWO.1, hWO.2.1.weaken (fun _ _ _ h => hA _ h), hWO.2.2⟩ hS1 T' rfl X'
  exact ⟨t2, stp t2 a1, b1⟩
theorem sq_V {y : MethodName} {cc' : ByteArray} {nL' n q ci : Nat} {rt' : Option FieldType} {rm : Room} {sp : Nat → sy_Sp} (S : CallFix p m c cc nL s args sy_tb own) (hKK : sy_KK wd s) (hA : ∀ q, s.heap.size ≤ q → A q)
    (hM : sy_MC l y cc' nL' rt' rm sp) (hw : sy_ws own q y cc' nL' rt' rm R n) (hl : Cond.methodLink own q y ∈ sy_tb) (hi : Cond.instanceMethod y ∈ sy_tb ∧ Cond.selects y.cls y y ∈ sy_tb)
    {b : Nat} (ho : sy_ob b = some ci) (hc : ∃ r, sy_cl[ci]? = some r ∧ r.1 = y.cls) {as' : List sy_V} {st : sy_S} {post : sy_R} (hok : ∀ v ∈ (.inr (.inr (some (some b))) :: as' : List sy_V), sy_ok (37 + 2 * ns) v ∧ sy_kn v = v ∧ sy_set v = true) (hn : as'.length = n)
    (hsp : sp ns (.inr (.inr (some (some b))) :: as') st post) {rest stk : List Value} (hstk : (as'.map (sy_cv ad)).reverse ++ .ref (ad b) :: rest = stk) (hrest : (rest.map fun v => v.category).sum ≤ 8) (hcs : cells ≤ R.cells ∧ slots ≤ R.slots) (hlz : ls.size = nL) (hd : decode cc pc = .ok (.invokevirtual q, 3)) (hW : sy_WO wd ad ns st A H) (hS : va_S A s.heap H locs)
    (kk : ∀ (r : Option sy_V) (st' : sy_S) (H' : Heap) (locs' : List Loc), post r st' → (∀ v ∈ r.toList, sy_ok (37 + 2 * ns) v) → sy_WO wd ad ns st' A H' → va_S A s.heap H' locs' → W p l e R s m args below meth c H' locs' cells slots Q (F0 m (pc + 3) ls ((r.map (sy_cv ad)).toList ++ rest))) : W p l e R s m args below meth c H locs cells slots Q (F0 m pc ls stk) := by
  subst hstk
  obtain ⟨hx, hb, hml, hown, hts⟩ := S
  obtain ⟨w1, w2, w3, w4, w5, w6⟩ := hw
  obtain ⟨⟨C, T, N⟩, hc1, hc2⟩ := hc
  have hb9 : b < 37 + 2 * ns := (hok _ List.mem_cons_self).1
  have he := (sy_wl_get wd ad ns st hb9).trans (congrArg (fun e => some (ad b, e)) (sy_e_ob wd ad ns st ho))
  have hcw : CallW R s args own y.cls q y cc' nL' rt' (.code y cc' nL' rt' :: sy_tb) rm 0 0 n := ⟨callB_of n hts (sy_good y cc' nL' rt' w1) rfl w5 w6 (hts _ w2) (hts _ hl) w3 w4, hts _ hi.1, hts _ hi.2⟩
  have hrec := va_recv hKK.1 hW.1 hc1 he
  rw [show y.cls = C from hc2.symm] at hcw
  exact sq_after (va_runV (As := as'.map (sy_cv ad)) (rest := rest) ⟨hx, hb, hml, hown, hts⟩ (hM wd ad ns H.size _ st post hsp hok) hcw ⟨sy_blind, hrec, fun U hU hWm => ⟨rfl, by rw [hU], ⟨by rw [hU]; exact hW.1, hW.2.1.weaken (fun _ _ _ _ => trivial), hW.2.2⟩, sy_KK_warm hWm hKK⟩⟩ rfl (by simpa using hn) hlz rfl (lv_room hrest) hd hcs) (sy_A_in (sz := 0) hA hS.1 hW.2.1) hS kk
theorem sq_S {y : MethodName} {cc' : ByteArray} {nL' n q : Nat} {rt' : Option FieldType} {rm : Room} {sp : Nat → sy_Sp} (S : CallFix p m c cc nL s args sy_tb own) (hKK : sy_KK wd s) (hA : ∀ q, s.heap.size ≤ q → A q)
    (hM : sy_MC l y cc' nL' rt' rm sp) (hw : sy_ws own q y cc' nL' rt' rm R n) (hl : Cond.methodLink own q y ∈ sy_tb) (hs : Cond.static y ∈ sy_tb)
    {as : List sy_V} {st : sy_S} {post : sy_R} (hok : ∀ v ∈ as, sy_ok (37 + 2 * ns) v ∧ sy_kn v = v ∧ sy_set v = true) (hn : as.length = n)
    (hsp : sp ns as st post) {rest stk : List Value} (hstk : (as.map (sy_cv ad)).reverse ++ rest = stk) (hrest : (rest.map fun v => v.category).sum ≤ 8) (hcs : cells ≤ R.cells ∧ slots ≤ R.slots) (hlz : ls.size = nL) (hd : decode cc pc = .ok (.invokestatic q, 3)) (hW : sy_WO wd ad ns st A H) (hS : va_S A s.heap H locs)
    (kk : ∀ (r : Option sy_V) (st' : sy_S) (H' : Heap) (locs' : List Loc), post r st' → (∀ v ∈ r.toList, sy_ok (37 + 2 * ns) v) → sy_WO wd ad ns st' A H' → va_S A s.heap H' locs' → W p l e R s m args below meth c H' locs' cells slots Q (F0 m (pc + 3) ls ((r.map (sy_cv ad)).toList ++ rest))) : W p l e R s m args below meth c H locs cells slots Q (F0 m pc ls stk) := by
  subst hstk
  obtain ⟨hx, hb, hml, hown, hts⟩ := S
  obtain ⟨w1, w2, w3, w4, w5, w6⟩ := hw
  have hcw : CallB R s args own q y cc' nL' rt' (.code y cc' nL' rt' :: sy_tb) rm 0 0 n ∧ (Cond.static y).before args s = true := ⟨callB_of n hts (sy_good y cc' nL' rt' w1) rfl w5 w6 (hts _ w2) (hts _ hl) w3 w4, hts _ hs⟩
  exact sq_after (va_runS (As := as.map (sy_cv ad)) (rest := rest) ⟨hx, hb, hml, hown, hts⟩ (hM wd ad ns H.size _ st post hsp hok) hcw ⟨sy_blind, fun U hU hWm => ⟨rfl, by rw [hU], ⟨by rw [hU]; exact hW.1, hW.2.1.weaken (fun _ _ _ _ => trivial), hW.2.2⟩, sy_KK_warm hWm hKK⟩⟩ rfl (by simpa using hn) hlz rfl (lv_room hrest) hd hcs) (sy_A_in (sz := 0) hA hS.1 hW.2.1) hS kk
end SQ
/-! THE WORLD GROWS BY A SITE -/
theorem sq_nI {n : Nat} (h : n < 2 ^ 31) : Int32.ofInt (n : Int) = nI n := by
  rw [← Int32.toInt_inj, nI_toInt h, sy_t32 ⟨by omega, by omega⟩]
def sy_ad2 (ad : Nat → Nat) (ns q u : Nat) : Nat → Nat := fun a => if a = sy_nS ns then q else if a = sy_nW ns then u else ad a
theorem sy_ad2_lt (ad : Nat → Nat) (ns q u : Nat) {a : Nat} (h : a < 37 + 2 * ns) : sy_ad2 ad ns q u a = ad a := by
  unfold sy_ad2 sy_nS sy_nW
  rw [if_neg (by omega), if_neg (by omega)]
theorem sy_rf_to {a k b : Nat} (h : sy_rf a k = some b) : b < 37 ∨ (37 ≤ a ∧ b = a + 1) := by
  unfold sy_rf at h
  split at h <;> first | (cases h; left; decide) | (split at h <;> first | (cases h; right; exact ⟨by assumption, rfl⟩) | cases h) | cases h
theorem sq_odd {a c : Nat} (h : sy_ob a = some c) : a < 37 ∨ a % 2 = 1 := by
  unfold sy_ob at h
  split at h <;> first | (left; decide) | (split at h <;> first | (right; omega) | cases h)
theorem sy_ar_k (a : Nat) : (sy_ar a).1 = 0 ∨ (sy_ar a).1 = 1 ∨ a = 2 := by
  unfold sy_ar
  split <;> first | (left; rfl) | (right; left; rfl) | (right; right; rfl)
theorem sq_e (wd : sy_D) (ad : Nat → Nat) (ns q u : Nat) (st : sy_S) (y x : Int) {a : Nat} (ha : a < 37 + 2 * ns) (h1 : a ≠ 1) (h2 : a ≠ 2) : sy_e wd (sy_ad2 ad ns q u) (ns + 1) (c_new st ns y x) a = sy_e wd ad ns st a := by
  have hst : c_new st ns y x a = st a := c_new_ne _ _ _ _ h1 (by unfold sy_nS; omega) (by unfold sy_nW; omega)
  cases ho : sy_ob a with
  | some c0 =>
    rw [sy_e_ob _ _ _ _ ho, sy_e_ob _ _ _ _ ho]
    refine congrArg (fun L => Sum.inr (c0, L)) (List.map_congr_left fun k _ => ?_)
    unfold sy_fv
    rw [hst]
    cases hr : sy_rf a k with
    | none => rfl
    | some b =>
      have hb : b < 37 + 2 * ns := by
        rcases sy_rf_to hr with h | ⟨h, rfl⟩
        · omega
        · rcases sq_odd ho with g | g <;> omega
      show Value.ref (sy_ad2 ad ns q u b) = Value.ref (ad b)
      rw [sy_ad2_lt _ _ _ _ hb]
  | none =>
    rcases sy_ar_k a with h | h | h
    · rw [sy_e_i _ _ _ _ ho h, sy_e_i _ _ _ _ ho h, hst]
    · rw [sy_e_l _ _ _ _ ho h, sy_e_l _ _ _ _ ho h, hst]
    · exact absurd h h2
theorem sq_wl (wd : sy_D) (ad : Nat → Nat) (ns q u : Nat) (st : sy_S) (y x : Int) {e1 e2 e3 e4 : va_E} (h1 : sy_e wd (sy_ad2 ad ns q u) (ns + 1) (c_new st ns y x) 1 = e1) (h2 : sy_e wd (sy_ad2 ad ns q u) (ns + 1) (c_new st ns y x) 2 = e2) (h3 : sy_e wd (sy_ad2 ad ns q u) (ns + 1) (c_new st ns y x) (sy_nS ns) = e3) (h4 : sy_e wd (sy_ad2 ad ns q u) (ns + 1) (c_new st ns y x) (sy_nW ns) = e4) :
    ((sy_wl wd ad ns st ++ [(q, e3), (u, e4)]).set 2 (ad 2, e2)).set 1 (ad 1, e1) = sy_wl wd (sy_ad2 ad ns q u) (ns + 1) (c_new st ns y x) := by
  have hlen : (sy_wl wd ad ns st).length = 37 + 2 * ns := by simp [sy_wl]
  apply List.ext_getElem?
  intro i
  by_cases i1 : i = 1
  · subst i1
    rw [List.getElem?_set_self (by rw [List.length_set, List.length_append, hlen]; omega), sy_wl_get _ _ _ _ (by omega), h1, sy_ad2_lt _ _ _ _ (by omega)]
  rw [List.getElem?_set_ne (fun q => i1 q.symm)]
  by_cases i2 : i = 2
  · subst i2
    rw [List.getElem?_set_self (by rw [List.length_append, hlen]; omega), sy_wl_get _ _ _ _ (by omega), h2, sy_ad2_lt _ _ _ _ (by omega)]
  rw [List.getElem?_set_ne (fun q => i2 q.symm)]
  by_cases i3 : i < 37 + 2 * ns
  · rw [List.getElem?_append_left (by rw [hlen]; exact i3), sy_wl_get _ _ _ _ i3, sy_wl_get _ _ _ _ (by omega), sq_e _ _ _ _ _ _ _ _ i3 i1 i2, sy_ad2_lt _ _ _ _ i3]
  rw [List.getElem?_append_right (by rw [hlen]; omega), hlen]
  by_cases i4 : i = 37 + 2 * ns
  · subst i4
    rw [sy_wl_get _ _ _ _ (by omega), Nat.sub_self]
    have : sy_nS ns = 37 + 2 * ns := rfl
    rw [← this, h3]
    unfold sy_ad2
    rw [if_pos rfl]
    rfl
  by_cases i5 : i = 38 + 2 * ns
  · subst i5
    rw [sy_wl_get _ _ _ _ (by omega), show 38 + 2 * ns - (37 + 2 * ns) = 1 by omega]
    have : sy_nW ns = 38 + 2 * ns := rfl
    rw [← this, h4]
    unfold sy_ad2
    rw [if_neg (sy_nW_nS ns ns), if_pos rfl]
    rfl
  · rw [List.getElem?_eq_none (by simp; omega), List.getElem?_eq_none (by simp [sy_wl]; omega)]
theorem sq_e1 (wd : sy_D) (ad : Nat → Nat) (ns q u : Nat) (st : sy_S) (y x : Int) (hn : ns < 16) : sy_e wd (sy_ad2 ad ns q u) (ns + 1) (c_new st ns y x) 1 = .inr (7, [.ref (ad 2), .int (nI (ns + 1)), .int (Int32.ofInt (st 1 2))]) := by
  show Sum.inr (7, [Value.ref (sy_ad2 ad ns q u 2), Value.int (Int32.ofInt (c_new st ns y x 1 1)), Value.int (Int32.ofInt (c_new st ns y x 1 2))]) = _
  rw [sy_ad2_lt _ _ _ _ (by omega), c_new_1, c_new_1, if_pos rfl, if_neg (by decide), ← sq_nI (by omega)]
  rfl
theorem sq_e2 (wd : sy_D) (ad : Nat → Nat) (ns q u : Nat) (st : sy_S) (y x : Int) : sy_e wd (sy_ad2 ad ns q u) (ns + 1) (c_new st ns y x) 2 = .inl (wd.2.2.2, 16, .inr (.inr (.inr (.inr (va_up (fun j => if j < ns then some (ad (sy_nS j)) else none) ns (some q)))))) := by
  show Sum.inl (wd.2.2.2, 16, Sum.inr (Sum.inr (Sum.inr (Sum.inr fun j => if j < ns + 1 then some (sy_ad2 ad ns q u (sy_nS j)) else none)))) = _
  refine congrArg (fun f => Sum.inl (wd.2.2.2, 16, Sum.inr (Sum.inr (Sum.inr (Sum.inr f))))) (funext fun j => ?_)
  unfold va_up
  by_cases hj : j = ns
  · subst hj
    rw [if_pos (by omega), if_pos rfl]
    unfold sy_ad2
    rw [if_pos rfl]
  · rw [if_neg hj]
    dsimp only
    by_cases h : j < ns
    · rw [if_pos (by omega), if_pos h, sy_ad2_lt _ _ _ _ (by unfold sy_nS; omega)]
    · rw [if_neg (by omega), if_neg h]
theorem sq_e3 (wd : sy_D) (ad : Nat → Nat) (ns q u : Nat) (st : sy_S) (y x : Int) : sy_e wd (sy_ad2 ad ns q u) (ns + 1) (c_new st ns y x) (sy_nS ns) = .inr (6, [.int (Int32.ofInt y), .int (Int32.ofInt x), .ref u, .int 0, .int 0, .int 0, .int 0, .int 0, .int 0, .int 0]) := by
  rw [sy_e_ob _ _ _ _ (sy_ob_S ns)]
  refine congrArg (fun L => Sum.inr (6, L)) ?_
  show [sy_cv (sy_ad2 ad ns q u) (sy_fv (c_new st ns y x) (sy_nS ns) 0), sy_cv (sy_ad2 ad ns q u) (sy_fv (c_new st ns y x) (sy_nS ns) 1), sy_cv (sy_ad2 ad ns q u) (sy_fv (c_new st ns y x) (sy_nS ns) 2), sy_cv (sy_ad2 ad ns q u) (sy_fv (c_new st ns y x) (sy_nS ns) 3), sy_cv (sy_ad2 ad ns q u) (sy_fv (c_new st ns y x) (sy_nS ns) 4), sy_cv (sy_ad2 ad ns q u) (sy_fv (c_new st ns y x) (sy_nS ns) 5), sy_cv (sy_ad2 ad ns q u) (sy_fv (c_new st ns y x) (sy_nS ns) 6), sy_cv (sy_ad2 ad ns q u) (sy_fv (c_new st ns y x) (sy_nS ns) 7), sy_cv (sy_ad2 ad ns q u) (sy_fv (c_new st ns y x) (sy_nS ns) 8), sy_cv (sy_ad2 ad ns q u) (sy_fv (c_new st ns y x) (sy_nS ns) 9)] = _
  unfold sy_fv
  rw [sy_rf_S2, sy_rf_S ns (j := 0) (by decide), sy_rf_S ns (j := 1) (by decide), sy_rf_S ns (j := 3) (by decide), sy_rf_S ns (j := 4) (by decide), sy_rf_S ns (j := 5) (by decide), sy_rf_S ns (j := 6) (by decide), sy_rf_S ns (j := 7) (by decide), sy_rf_S ns (j := 8) (by decide), sy_rf_S ns (j := 9) (by decide)]
  show [Value.int (Int32.ofInt (c_new st ns y x (sy_nS ns) 0)), Value.int (Int32.ofInt (c_new st ns y x (sy_nS ns) 1)), Value.ref (sy_ad2 ad ns q u (sy_nW ns)), Value.int (Int32.ofInt (c_new st ns y x (sy_nS ns) 3)), Value.int (Int32.ofInt (c_new st ns y x (sy_nS ns) 4)), Value.int (Int32.ofInt (c_new st ns y x (sy_nS ns) 5)), Value.int (Int32.ofInt (c_new st ns y x (sy_nS ns) 6)), Value.int (Int32.ofInt (c_new st ns y x (sy_nS ns) 7)), Value.int (Int32.ofInt (c_new st ns y x (sy_nS ns) 8)), Value.int (Int32.ofInt (c_new st ns y x (sy_nS ns) 9))] = _
  have hu : sy_ad2 ad ns q u (sy_nW ns) = u := by
    unfold sy_ad2
    rw [if_neg (sy_nW_nS ns ns), if_pos rfl]
  rw [c_new_S, c_new_S, c_new_S, c_new_S, c_new_S, c_new_S, c_new_S, c_new_S, c_new_S, hu]
  rfl
theorem sq_e4 (wd : sy_D) (ad : Nat → Nat) (ns q u : Nat) (st : sy_S) (y x : Int) : sy_e wd (sy_ad2 ad ns q u) (ns + 1) (c_new st ns y x) (sy_nW ns) = .inl (wd.2.1, 512, .inl (fun _ => 0)) := by
  rw [sy_e_i _ _ _ _ (sy_ob_W ns) (by rw [sy_ar_W]), sy_ar_W]
  refine congrArg (fun f => Sum.inl (wd.2.1, 512, Sum.inl f)) (funext fun j => ?_)
  unfold c_new
  rw [if_neg (by unfold sy_nW; omega), if_neg (sy_nW_nS ns ns), if_pos rfl]
  rfl
theorem sq_rg {st : sy_S} {ns : Nat} {y x : Int} (h : sy_rg st) (hn : ns < 16) (hy : sy_iR y) (hx : sy_iR x) : sy_rg (c_new st ns y x) := by
  intro a k
  have z : sy_iR 0 := sy_z32
  unfold c_new
  by_cases h1 : a = 1
  · subst h1
    rw [if_neg (by decide), if_pos rfl]
    split
    · unfold sy_iR; omega
    · have := h 1 k; rw [if_neg (by decide)] at this; exact this
  · rw [if_neg h1]
    by_cases h2 : a = sy_nS ns
    · rw [if_neg (by unfold sy_nS at h2; omega), if_pos h2]
      split
      · exact hy
      · split
        · exact hx
        · exact z
    · rw [if_neg h2]
      by_cases h3 : a = sy_nW ns
      · rw [if_neg (by unfold sy_nW at h3; omega), if_pos h3]; exact z
      · rw [if_neg h3]; exact h a k
/-! CONTRACTS THAT MAY MAKE A SITE -/
def sa_pc (wd : sy_D) (ad : Nat → Nat) (ns : Nat) (st : sy_S) (As : List Value) (sz : Nat) : Array Value → State → Prop := va_Pc As (fun U => U.heap.size = sz ∧ sy_WO wd ad ns st (fun _ => True) U.heap ∧ sk_K wd U ∧ sy_KK wd U)
def sa_end (wd : sy_D) (ad : Nat → Nat) (ns : Nat) (st : sy_S) (y x : Int) (can : Prop) (A : Nat → Prop) (v : Option Value) (H : Heap) : Prop := (can ∧ v = some (.int (nI ns)) ∧ ∃ ad' : Nat → Nat, (∀ a, a < 37 + 2 * ns → ad' a = ad a) ∧ sy_WO wd ad' (ns + 1) (c_new st ns y x) A H) ∨ (¬ can ∧ v = some (.int (-1)) ∧ sy_WO wd ad ns st A H)
def sa_qc (wd : sy_D) (ad : Nat → Nat) (ns : Nat) (st : sy_S) (y x : Int) (can : Prop) (sz : Nat) : Array Value → State → Outcome → State → Prop := fun _ s0 oc t => (∃ v, oc = .returned v ∧ sa_end wd ad ns st y x can (sy_A ad ns sz) v t.heap) ∧ va_F (sy_A ad ns sz) s0 t
theorem sa_blind {wd : sy_D} {ad : Nat → Nat} {ns : Nat} {st : sy_S} {As : List Value} {sz : Nat} : FrameBlind (sa_pc wd ad ns st As sz) := by
  intro a U g mk q
  obtain ⟨q0, q1, q2, q3, q4⟩ := q
  exact ⟨q0, q1, q2, sk_K_same (u := U) (U := U.calling g mk a) rfl q3, sy_KK_same (u := U) (U := U.calling g mk a) rfl q4⟩
def sa_X (p : Program) (s : State) (m : MethodId) (args : Array Value) (meth : Method) (c : Code) (cc : ByteArray) (y : MethodName) (nL : Nat) (wd : sy_D) : Prop := p.tables.exec = Jvm.exec ∧ c.code = cc ∧ c.maxLocals = nL ∧ s.vm.findClass y.cls = some m.cls ∧ (∀ w ∈ sy_tb, w.before args s = true) ∧ meth.sig.returnType = some .int ∧ meth.locks = false ∧ sk_K wd s ∧ sy_KK wd s
def sa_Met (l : Launch) (y : MethodName) (cc : ByteArray) (nL : Nat) (rm : Room) (b : Nat) (f : Nat → sy_S → Int → Int → Prop) : Prop := ∀ (wd : sy_D) (ad : Nat → Nat) (ns : Nat) (st : sy_S) (yy xx : Int), c_site ns st → sy_iR yy → sy_iR xx → ∀ sz, Met l y (.code y cc nL (some .int) :: sy_tb) rm (sa_pc wd ad ns st [.ref (ad b), .int (Int32.ofInt yy), .int (Int32.ofInt xx)] sz) (sa_qc wd ad ns st yy xx (f ns st yy xx) sz) 2 522 (sy_A ad ns sz)
theorem sa_of {l : Launch} {y : MethodName} {cc : ByteArray} {nL b : Nat} {rm : Room} {f : Nat → sy_S → Int → Int → Prop} (hy : plainFor y = true) (hn : 3 ≤ nL) (hrm : rm.cells = 2 ∧ rm.slots = 522)
    (body : ∀ (wd : sy_D) (ad : Nat → Nat) (ns : Nat) (st : sy_S) (yy xx : Int) (p : Program) (e : Env) (s : State) (m : MethodId) (below : List Frame) (meth : Method) (c : Code) (ls : Array Slot), c_site ns st → sy_iR yy → sy_iR xx → sa_X p s m [.ref (ad b), .int (Int32.ofInt yy), .int (Int32.ofInt xx)].toArray meth c cc y nL wd → sy_WO wd ad ns st (sy_A ad ns s.heap.size) s.heap → lv_has ls nL [(0, .ref (ad b)), (1, .int (Int32.ofInt yy)), (2, .int (Int32.ofInt xx))] → W p l e rm s m [.ref (ad b), .int (Int32.ofInt yy), .int (Int32.ofInt xx)].toArray below meth c s.heap [] 0 0 (MQ below (sa_qc wd ad ns st yy xx (f ns st yy xx) s.heap.size) [.ref (ad b), .int (Int32.ofInt yy), .int (Int32.ofInt xx)].toArray s 2 522 (sy_A ad ns s.heap.size)) (F0 m 0 ls [])) : sa_Met l y cc nL rm b f := by
  intro wd ad ns st yy xx hsite hyy hxx sz
  refine va_MetF (cc := cc) (maxL := nL) (ret := some .int) hy rfl ?_
  intro p e s m args below meth c s₁ B hml hv
  obtain ⟨rfl, hsz, hWO, hK, hYY⟩ := hv
  subst hsz
  have hts0 := atoms_spec (ws := .code y cc nL (some .int) :: sy_tb) B.pre
  have hl := lv_entry [.ref (ad b), .int (Int32.ofInt yy), .int (Int32.ofInt xx)] (n := nL) (show 3 ≤ nL from hn)
  have hD : va_D (sy_A ad ns s.heap.size) (sy_wl wd ad ns st) := ⟨hWO.2.1.1, fun k q hk => by
    have hlt : k < 37 + 2 * ns := by simpa [sy_wl] using (List.getElem?_eq_some_iff.mp hk).1
    rw [sy_wl_get wd ad ns st hlt] at hk
    rw [← Option.some.inj hk]
    exact Or.inl ⟨k, hlt, rfl⟩⟩
  rw [lg_entry_eq]
  exact body wd ad ns st yy xx p e s m below meth c _ hsite hyy hxx ⟨B.exec, B.bytes, hml, findClass_of_methodNamed B.named, fun w hw => hts0 w (List.mem_cons_of_mem _ hw), B.returns, B.notSynchronized, hK, hYY⟩ ⟨hWO.1, hD, hWO.2.2⟩ hl
section SA
variable {p : Program} {l : Launch} {e : Env} {R : Room} {s : State} {m : MethodId} {args : Array Value} {below : List Frame} {meth : Method} {c : Code} {cc : ByteArray} {own : String} {nL : Nat} {wd : sy_D} {ad : Nat → Nat} {ns : Nat} {A : Nat → Prop} {Q : State → Prop} {H : Heap} {locs : List Loc} {cells slots : Nat} {pc : Nat} {ls : Array Slot}
theorem sa_V {y : MethodName} {cc' : ByteArray} {nL' q ci b : Nat} {rm : Room} {f : Nat → sy_S → Int → Int → Prop} {st : sy_S} {yy xx : Int} (S : CallFix p m c cc nL s args sy_tb own) (hK : sk_K wd s) (hKK : sy_KK wd s) (hA : ∀ q, s.heap.size ≤ q → A q)
    (hM : sa_Met l y cc' nL' rm b f) (hw : Cond.code y cc' nL' (some .int) ∈ sy_tb ∧ Cond.initialized y.cls ∈ sy_tb ∧ (y.cls ≠ "java/lang/invoke/MethodHandle" ∧ y.cls ≠ "java/lang/invoke/VarHandle" ∧ (parseMethodDescriptor y.desc).map (fun d => d.parameters.length) = some 2)) (hrm : (rm.frames + 1 ≤ R.frames ∧ 8 + (nL' + 11) + rm.locals ≤ R.locals) ∧ rm.cells = 2 ∧ rm.slots = 522) (hl : Cond.methodLink own q y ∈ sy_tb) (hi : Cond.instanceMethod y ∈ sy_tb ∧ Cond.selects y.cls y y ∈ sy_tb)
    (hb9 : b < 37 + 2 * ns) (ho : sy_ob b = some ci) (hc : ∃ r, sy_cl[ci]? = some r ∧ r.1 = y.cls) (hsite : c_site ns st) (hyy : sy_iR yy) (hxx : sy_iR xx) {rest : List Value} (hrest : (rest.map fun v => v.category).sum ≤ 8) (hcs : cells + 2 ≤ R.cells ∧ slots + 522 ≤ R.slots) (hlz : ls.size = nL) (hd : decode cc pc = .ok (.invokevirtual q, 3)) (hW : sy_WO wd ad ns st A H) (hS : va_S A s.heap H locs)
    (kk : ∀ (v : Value) (H' : Heap) (locs' : List Loc), sa_end wd ad ns st yy xx (f ns st yy xx) A (some v) H' → va_S A s.heap H' locs' → W p l e R s m args below meth c H' locs' (cells + 2) (slots + 522) Q (F0 m (pc + 3) ls (v :: rest))) : W p l e R s m args below meth c H locs cells slots Q (F0 m pc ls (.int (Int32.ofInt xx) :: .int (Int32.ofInt yy) :: .ref (ad b) :: rest)) := by
  obtain ⟨hx, hb, hml, hown, hts⟩ := S
  obtain ⟨w1, w2, w3⟩ := hw
  obtain ⟨w4, w5, w6⟩ := hrm
  obtain ⟨⟨C, T, N⟩, hc1, hc2⟩ := hc
  have he := (sy_wl_get wd ad ns st hb9).trans (congrArg (fun e => some (ad b, e)) (sy_e_ob wd ad ns st ho))
  have hcw : CallW R s args own y.cls q y cc' nL' (some .int) (.code y cc' nL' (some .int) :: sy_tb) rm 2 522 2 := ⟨callB_of 2 hts (sy_good y cc' nL' (some .int) w1) rfl w5 w6 (hts _ w2) (hts _ hl) w3 w4, hts _ hi.1, hts _ hi.2⟩
  have hrec := va_recv hKK.1 hW.1 hc1 he
  rw [show y.cls = C from hc2.symm] at hcw
  have hA2 : ∀ q, sy_A ad ns H.size q → A q := sy_A_in (sz := 0) hA hS.1 hW.2.1
  have hr := va_runV (p := p) (l := l) (e := e) (R := R) (s := s) (m := m) (args := args) (below := below) (meth := meth) (c := c) (H := H) (locs := locs) (cells := cells) (slots := slots) (g := F0 m pc ls (.int (Int32.ofInt xx) :: .int (Int32.ofInt yy) :: .ref (ad b) :: rest)) (As := [.int (Int32.ofInt yy), .int (Int32.ofInt xx)]) (rest := rest) ⟨hx, hb, hml, hown, hts⟩ (hM wd ad ns st yy xx hsite hyy hxx H.size) hcw ⟨sa_blind, hrec, fun U hU hWm => ⟨rfl, by rw [hU], ⟨by rw [hU]; exact hW.1, hW.2.1.weaken (fun _ _ _ _ => trivial), hW.2.2⟩, sk_K_warm hWm hK, sy_KK_warm hWm hKK⟩⟩ rfl rfl hlz rfl (lv_room hrest) hd hcs
  intro T0 hT X
  obtain ⟨v, st₀, t, T', L9, h0, X', hL9, e1, e2, ⟨⟨v0, hv, hend⟩, hz, hkp⟩, stp⟩ := hr T0 hT X
  injection hv with hv
  subst hv
  rw [h0] at hz hkp
  have hS1 : va_S A s.heap T'.heap (locs ++ L9) := ⟨Nat.le_trans hS.1 (by rw [e1]; exact hz), fun q h1 h2 => by rw [e1, hkp q (Nat.lt_of_lt_of_le h1 hS.1) (fun z => h2 (hA2 q z))]; exact hS.2.1 q h1 h2, fun q hq => by
      rcases List.mem_append.mp hq with h | h
      · exact hS.2.2 q h
      · exact hA2 _ (hL9 q h)⟩
  have key : ∃ v1, v = some v1 ∧ sa_end wd ad ns st yy xx (f ns st yy xx) A (some v1) T'.heap := by
    rw [e1]
    rcases hend with ⟨g1, g2, ad', g3, g4⟩ | ⟨g1, g2, g3⟩
    · exact ⟨_, g2, Or.inl ⟨g1, rfl, ad', g3, g4.1, g4.2.1.weaken (fun _ _ _ h => hA2 _ h), g4.2.2⟩⟩
    · exact ⟨_, g2, Or.inr ⟨g1, rfl, g3.1, g3.2.1.weaken (fun _ _ _ h => hA2 _ h), g3.2.2⟩⟩
  obtain ⟨v1, rfl, hend2⟩ := key
  obtain ⟨t2, a1, b1⟩ := kk v1 T'.heap (locs ++ L9) hend2 hS1 T' rfl X'
  exact ⟨t2, stp t2 a1, b1⟩
end SA

theorem dk_7_add_0 : decode c_7_add 0 = .ok (.aload_n 0, 1) := by decide +kernel
theorem dk_7_add_1 : decode c_7_add 1 = .ok (.getfield 21, 3) := by decide +kernel
theorem dk_7_add_4 : decode c_7_add 4 = .ok (.bipush 16, 2) := by decide +kernel
theorem dk_7_add_6 : decode c_7_add 6 = .ok (.if_icmp .ge 11, 3) := by decide +kernel
theorem dk_7_add_9 : decode c_7_add 9 = .ok (.aload_n 0, 1) := by decide +kernel
theorem dk_7_add_10 : decode c_7_add 10 = .ok (.iload_n 1, 1) := by decide +kernel
theorem dk_7_add_11 : decode c_7_add 11 = .ok (.invokevirtual 24, 3) := by decide +kernel
theorem dk_7_add_14 : decode c_7_add 14 = .ok (.ifCond .eq 5, 3) := by decide +kernel
theorem dk_7_add_17 : decode c_7_add 17 = .ok (.iconst (-1), 1) := by decide +kernel
theorem dk_7_add_18 : decode c_7_add 18 = .ok (.ireturn, 1) := by decide +kernel
theorem dk_7_add_19 : decode c_7_add 19 = .ok (.aload_n 0, 1) := by decide +kernel
theorem dk_7_add_20 : decode c_7_add 20 = .ok (.getfield 11, 3) := by decide +kernel
theorem dk_7_add_23 : decode c_7_add 23 = .ok (.aload_n 0, 1) := by decide +kernel
theorem dk_7_add_24 : decode c_7_add 24 = .ok (.getfield 21, 3) := by decide +kernel
theorem dk_7_add_27 : decode c_7_add 27 = .ok (.new 9, 3) := by decide +kernel
theorem dk_7_add_30 : decode c_7_add 30 = .ok (.dup, 1) := by decide +kernel
theorem dk_7_add_31 : decode c_7_add 31 = .ok (.iload_n 1, 1) := by decide +kernel
theorem dk_7_add_32 : decode c_7_add 32 = .ok (.iload_n 2, 1) := by decide +kernel
theorem dk_7_add_33 : decode c_7_add 33 = .ok (.invokespecial 28, 3) := by decide +kernel
theorem dk_7_add_36 : decode c_7_add 36 = .ok (.aastore, 1) := by decide +kernel
theorem dk_7_add_37 : decode c_7_add 37 = .ok (.aload_n 0, 1) := by decide +kernel
theorem dk_7_add_38 : decode c_7_add 38 = .ok (.dup, 1) := by decide +kernel
theorem dk_7_add_39 : decode c_7_add 39 = .ok (.getfield 21, 3) := by decide +kernel
theorem dk_7_add_42 : decode c_7_add 42 = .ok (.iconst 1, 1) := by decide +kernel
theorem dk_7_add_43 : decode c_7_add 43 = .ok (.iadd, 1) := by decide +kernel
theorem dk_7_add_44 : decode c_7_add 44 = .ok (.putfield 21, 3) := by decide +kernel
theorem dk_7_add_47 : decode c_7_add 47 = .ok (.aload_n 0, 1) := by decide +kernel
theorem dk_7_add_48 : decode c_7_add 48 = .ok (.getfield 21, 3) := by decide +kernel
theorem dk_7_add_51 : decode c_7_add 51 = .ok (.iconst 1, 1) := by decide +kernel
theorem dk_7_add_52 : decode c_7_add 52 = .ok (.isub, 1) := by decide +kernel
theorem dk_7_add_53 : decode c_7_add 53 = .ok (.ireturn, 1) := by decide +kernel
theorem dk_8_site_0 : decode c_8_site 0 = .ok (.iload_n 1, 1) := by decide +kernel
theorem dk_8_site_1 : decode c_8_site 1 = .ok (.invokestatic 69, 3) := by decide +kernel
theorem dk_8_site_4 : decode c_8_site 4 = .ok (.ifCond .eq 16, 3) := by decide +kernel
theorem dk_8_site_7 : decode c_8_site 7 = .ok (.iload_n 2, 1) := by decide +kernel
theorem dk_8_site_8 : decode c_8_site 8 = .ok (.sipush (-5000), 3) := by decide +kernel
theorem dk_8_site_11 : decode c_8_site 11 = .ok (.sipush 5000, 3) := by decide +kernel
theorem dk_8_site_14 : decode c_8_site 14 = .ok (.invokestatic 55, 3) := by decide +kernel
theorem dk_8_site_17 : decode c_8_site 17 = .ok (.ifCond .ne 5, 3) := by decide +kernel
theorem dk_8_site_20 : decode c_8_site 20 = .ok (.iconst (-1), 1) := by decide +kernel
theorem dk_8_site_21 : decode c_8_site 21 = .ok (.ireturn, 1) := by decide +kernel
theorem dk_8_site_22 : decode c_8_site 22 = .ok (.aload_n 0, 1) := by decide +kernel
theorem dk_8_site_23 : decode c_8_site 23 = .ok (.getfield 10, 3) := by decide +kernel
theorem dk_8_site_26 : decode c_8_site 26 = .ok (.iload_n 1, 1) := by decide +kernel
theorem dk_8_site_27 : decode c_8_site 27 = .ok (.iload_n 2, 1) := by decide +kernel
theorem dk_8_site_28 : decode c_8_site 28 = .ok (.invokevirtual 73, 3) := by decide +kernel
theorem dk_8_site_31 : decode c_8_site 31 = .ok (.ireturn, 1) := by decide +kernel
theorem jw_7_isTaken : Cond.code y_7_isTaken c_7_isTaken 4 (some .boolean) ∈ sy_tb ∧ Cond.initialized y_7_isTaken.cls ∈ sy_tb ∧ (y_7_isTaken.cls ≠ "java/lang/invoke/MethodHandle" ∧ y_7_isTaken.cls ≠ "java/lang/invoke/VarHandle" ∧ (parseMethodDescriptor y_7_isTaken.desc).map (fun d => d.parameters.length) = some 1) := ⟨sy_inx 313 (by decide +kernel) (by decide +kernel), sy_inx 45 (by decide +kernel) (by decide +kernel), by decide +kernel⟩
theorem ji_7_isTaken : Cond.instanceMethod y_7_isTaken ∈ sy_tb ∧ Cond.selects y_7_isTaken.cls y_7_isTaken y_7_isTaken ∈ sy_tb := ⟨sy_inx 312 (by decide +kernel) (by decide +kernel), sy_inx 0 (by decide +kernel) (by decide +kernel)⟩
theorem jw_8_isHeight : Cond.code y_8_isHeight c_8_isHeight 1 (some .boolean) ∈ sy_tb ∧ Cond.initialized y_8_isHeight.cls ∈ sy_tb ∧ (y_8_isHeight.cls ≠ "java/lang/invoke/MethodHandle" ∧ y_8_isHeight.cls ≠ "java/lang/invoke/VarHandle" ∧ (parseMethodDescriptor y_8_isHeight.desc).map (fun d => d.parameters.length) = some 1) := ⟨sy_inx 305 (by decide +kernel) (by decide +kernel), sy_inx 44 (by decide +kernel) (by decide +kernel), by decide +kernel⟩
theorem js_8_isHeight : Cond.static y_8_isHeight ∈ sy_tb := sy_inx 304 (by decide +kernel) (by decide +kernel)
theorem jw_8_within : Cond.code y_8_within c_8_within 3 (some .boolean) ∈ sy_tb ∧ Cond.initialized y_8_within.cls ∈ sy_tb ∧ (y_8_within.cls ≠ "java/lang/invoke/MethodHandle" ∧ y_8_within.cls ≠ "java/lang/invoke/VarHandle" ∧ (parseMethodDescriptor y_8_within.desc).map (fun d => d.parameters.length) = some 3) := ⟨sy_inx 290 (by decide +kernel) (by decide +kernel), sy_inx 44 (by decide +kernel) (by decide +kernel), by decide +kernel⟩
theorem js_8_within : Cond.static y_8_within ∈ sy_tb := sy_inx 289 (by decide +kernel) (by decide +kernel)
theorem jw_7_add : Cond.code y_7_add c_7_add 3 (some .int) ∈ sy_tb ∧ Cond.initialized y_7_add.cls ∈ sy_tb ∧ (y_7_add.cls ≠ "java/lang/invoke/MethodHandle" ∧ y_7_add.cls ≠ "java/lang/invoke/VarHandle" ∧ (parseMethodDescriptor y_7_add.desc).map (fun d => d.parameters.length) = some 2) := ⟨sy_inx 309 (by decide +kernel) (by decide +kernel), sy_inx 45 (by decide +kernel) (by decide +kernel), by decide +kernel⟩
theorem ji_7_add : Cond.instanceMethod y_7_add ∈ sy_tb ∧ Cond.selects y_7_add.cls y_7_add y_7_add ∈ sy_tb := ⟨sy_inx 307 (by decide +kernel) (by decide +kernel), sy_inx 308 (by decide +kernel) (by decide +kernel)⟩
theorem jw_8_site : Cond.code y_8_site c_8_site 3 (some .int) ∈ sy_tb ∧ Cond.initialized y_8_site.cls ∈ sy_tb ∧ (y_8_site.cls ≠ "java/lang/invoke/MethodHandle" ∧ y_8_site.cls ≠ "java/lang/invoke/VarHandle" ∧ (parseMethodDescriptor y_8_site.desc).map (fun d => d.parameters.length) = some 2) := ⟨sy_inx 302 (by decide +kernel) (by decide +kernel), sy_inx 44 (by decide +kernel) (by decide +kernel), by decide +kernel⟩
theorem ji_8_site : Cond.instanceMethod y_8_site ∈ sy_tb ∧ Cond.selects y_8_site.cls y_8_site y_8_site ∈ sy_tb := ⟨sy_inx 300 (by decide +kernel) (by decide +kernel), sy_inx 301 (by decide +kernel) (by decide +kernel)⟩
abbrev rk_7_add : Room := { frames := 2, cells := 2, slots := 522, locals := 44 }
abbrev rk_8_site : Room := { frames := 3, cells := 2, slots := 522, locals := 66 }
def sa_can7 (ns : Nat) (st : sy_S) (y _ : Int) : Prop := ns < 16 ∧ ∀ j, j < ns → st (sy_nS j) 0 ≠ y
def sa_can8 (ns : Nat) (st : sy_S) (y x : Int) : Prop := ((-2000 ≤ y ∧ y ≤ 2000) ∧ -5000 ≤ x ∧ x ≤ 5000) ∧ sa_can7 ns st y x
set_option maxHeartbeats 4000000 in
set_option maxRecDepth 100000 in
theorem k_7_add (l : Launch) : sa_Met l y_7_add c_7_add 3 rk_7_add 1 sa_can7 := by
  refine sa_of (by decide +kernel) (by decide) ⟨rfl, rfl⟩ ?_
  intro wd ad ns st yy xx p e s m below meth c ls hsite hyy hxx hXX hWO hl
  obtain ⟨hx, hb, hml, hown, hts, hr, hlk, hKK, hYY⟩ := hXX
  have hK := hKK.1
  have hown : s.vm.findClass R_7 = some m.cls := hown
  have hA : ∀ q : Nat, s.heap.size ≤ q → sy_A ad ns s.heap.size q := fun q h => Or.inr h
  have hS : va_S (sy_A ad ns s.heap.size) s.heap s.heap [] := va_S.rf
  have hn16 : ns ≤ 16 := hsite.2
  have hcnt : Int32.ofInt (st 1 1) = nI ns := by rw [hsite.1]; exact sq_nI (by omega)
  have hg1 : (sy_wl wd ad ns st)[1]? = some (ad 1, .inr (7, [.ref (ad 2), .int (nI ns), .int (Int32.ofInt (st 1 2))])) := by
    rw [← hcnt]; exact sy_wl_get wd ad ns st (by omega)
  have hg2 : (sy_wl wd ad ns st)[2]? = some (ad 2, .inl (wd.2.2.2, 16, .inr (.inr (.inr (.inr fun j => if j < ns then some (ad (sy_nS j)) else none))))) := sy_wl_get wd ad ns st (by omega)
  have hlen : (sy_wl wd ad ns st).length = 37 + 2 * ns := by simp [sy_wl]
  have fin : ¬ sa_can7 ns st yy xx → ∀ (H : Heap) (locs : List Loc), sy_WO wd ad ns st (sy_A ad ns s.heap.size) H → va_S (sy_A ad ns s.heap.size) s.heap H locs → W p l e rk_7_add s m [.ref (ad 1), .int (Int32.ofInt yy), .int (Int32.ofInt xx)].toArray below meth c H locs 0 0 (MQ below (sa_qc wd ad ns st yy xx (sa_can7 ns st yy xx) s.heap.size) [.ref (ad 1), .int (Int32.ofInt yy), .int (Int32.ofInt xx)].toArray s 2 522 (sy_A ad ns s.heap.size)) (F0 m 17 ls []) := by
    intro hno H locs hWO hS
    refine lv_iconst hx hb dk_7_add_17 (v := -1) rfl ?_
    refine W.widen (k := 2) (n := 522) (by decide) (by decide) ?_
    exact W.iret hx hb hr (fun t ht hW => ⟨⟨_, rfl, Or.inr ⟨hno, rfl, by rw [ht]; exact hWO⟩⟩, hS.F ht⟩) hS.2.2 dk_7_add_18 hlk

  refine lv_aload_n hx hb dk_7_add_0 rfl (lv_at hl 0 rfl) ?_
  refine va_get (D := wd.1) (ci := 7) (C := R_7) (T := F_7) (N := 3) hx hb hts i_7 hown hK hWO.1 1 hg1 rfl 1 (by decide) (hts (.fieldLink R_7 21 "StarHide$Sites" "count" "I") (sy_inx 74 (by decide +kernel) (by decide +kernel))) (fun _ h9 => h9) rfl dk_7_add_1 ?_
  refine lv_bipush hx hb dk_7_add_4 (v := 16) rfl ?_
  refine lv_icmp_ge hx hb dk_7_add_6 (tgt := 17) (by decide) (fun c1 => ?_) (fun c1 => ?_)
  · refine fin (fun q => ?_) s.heap [] hWO hS
    exact absurd c1 (nI_ge (a := ns) (b := 16) q.1 (by decide))
  have hn : ns < 16 := by
    rcases Nat.lt_or_ge ns 16 with q | q
    · exact q
    · exact absurd (nI_le (a := 16) (b := ns) q (by omega)) c1
  refine lv_aload_n hx hb dk_7_add_9 rfl (lv_at hl 0 rfl) ?_
  refine lv_iload_n hx hb dk_7_add_10 rfl (lv_at hl 1 rfl) ?_
  refine sq_V (ci := 7) (b := 1) (as' := [.inl (true, yy)]) (post := fun r st' => st' = st ∧ r = some (.inl (true, if xe (fun i => decide (st (sy_nS i) 0 = yy)) ns = true then 1 else 0))) ⟨hx, hb, hml, hown, hts⟩ hYY hA (mc_7_isTaken l) ⟨jw_7_isTaken.1, jw_7_isTaken.2.1, jw_7_isTaken.2.2, ⟨by decide, by decide⟩, rfl, rfl⟩ (sy_inx 310 (by decide +kernel) (by decide +kernel)) ji_7_isTaken rfl ⟨_, rfl, rfl⟩ ?_ rfl ⟨rfl, hsite, rfl, rfl⟩ rfl (by decide) ⟨by decide, by decide⟩ hl.1 dk_7_add_11 hWO hS (fun r st' H locs hp _ hWO2 hS2 => ?_)
  · intro v hv
    simp only [List.mem_cons, List.not_mem_nil, or_false] at hv
    rcases hv with rfl | rfl
    · exact ⟨show 1 < 37 + 2 * ns by omega, rfl, rfl⟩
    · exact ⟨hyy, rfl, rfl⟩
  obtain ⟨rfl, rfl⟩ := hp
  by_cases hk : xe (fun i => decide (st' (sy_nS i) 0 = yy)) ns = true
  · rw [if_pos hk]
    refine lv_if_eq hx hb dk_7_add_14 (tgt := 19) (by decide) (fun c2 => absurd c2 (by decide)) (fun c2 => ?_)
    refine fin (fun q => ?_) H locs hWO2 hS2
    obtain ⟨j, hj, hjj⟩ := (xe_iff ns).mp hk
    exact q.2 j hj (by simpa using hjj)
  rw [if_neg hk]
  refine lv_if_eq hx hb dk_7_add_14 (tgt := 19) (by decide) (fun c2 => ?_) (fun c2 => absurd (by decide) c2)
  have hcan : sa_can7 ns st' yy xx := ⟨hn, fun j hj q => hk ((xe_iff ns).mpr ⟨j, hj, by simpa using q⟩)⟩
  obtain ⟨hP, hD, hrg⟩ := hWO2
  replace hS := hS2

  refine lv_aload_n hx hb dk_7_add_19 rfl (lv_at hl 0 rfl) ?_
  refine va_get (D := wd.1) (ci := 7) (C := R_7) (T := F_7) (N := 3) hx hb hts i_7 hown hK hP 1 hg1 rfl 0 (by decide) (hts (.fieldLink R_7 11 "StarHide$Sites" "list" "[LStarHide$Site;") (sy_inx 73 (by decide +kernel) (by decide +kernel))) (fun _ h9 => h9) rfl dk_7_add_20 ?_
  refine lv_aload_n hx hb dk_7_add_23 rfl (lv_at hl 0 rfl) ?_
  refine va_get (D := wd.1) (ci := 7) (C := R_7) (T := F_7) (N := 3) hx hb hts i_7 hown hK hP 1 hg1 rfl 1 (by decide) (hts (.fieldLink R_7 21 "StarHide$Sites" "count" "I") (sy_inx 74 (by decide +kernel) (by decide +kernel))) (fun _ h9 => h9) rfl dk_7_add_24 ?_
  refine va_new (ci := 6) (fs := [Value.int 0, Value.int 0, Value.null, Value.int 0, Value.int 0, Value.int 0, Value.int 0, Value.int 0, Value.int 0, Value.int 0]) (C := R_6) (T := F_6) (N := 10) hx hb hts i_6 t_6 t_6_ok hown (hts (.classLink R_7 9 R_6) (sy_inx 71 (by decide +kernel) (by decide +kernel))) (hts (.instantiable R_6 10) (sy_inx 318 (by decide +kernel) (by decide +kernel))) (hts (.initialized R_6) (sy_inx 54 (by decide +kernel) (by decide +kernel))) hK hP hD hS hA rfl (fun j hj => by rcases (show j = 0 ∨ j = 1 ∨ j = 2 ∨ j = 3 ∨ j = 4 ∨ j = 5 ∨ j = 6 ∨ j = 7 ∨ j = 8 ∨ j = 9 by omega) with rfl | rfl | rfl | rfl | rfl | rfl | rfl | rfl | rfl | rfl <;> rfl) (by decide) (by decide) dk_7_add_27 (fun q H hP2 hD2 hS => ?_)
  refine lv_dup hx hb dk_7_add_30 rfl ?_
  refine lv_iload_n hx hb dk_7_add_31 rfl (lv_at hl 1 rfl) ?_
  refine lv_iload_n hx hb dk_7_add_32 rfl (lv_at hl 2 rfl) ?_
  have hlast : (sy_wl wd ad ns st' ++ [(q, Sum.inr (6, [Value.int 0, Value.int 0, Value.null, Value.int 0, Value.int 0, Value.int 0, Value.int 0, Value.int 0, Value.int 0, Value.int 0]))])[37 + 2 * ns]? = some (q, Sum.inr (6, [Value.int 0, Value.int 0, Value.null, Value.int 0, Value.int 0, Value.int 0, Value.int 0, Value.int 0, Value.int 0, Value.int 0])) := by
    rw [List.getElem?_append_right (by rw [hlen]; omega), hlen, Nat.sub_self]; rfl
  have hPc := hP2.sub (ws' := [(q, .inr (6, [Value.int 0, Value.int 0, Value.null, Value.int 0, Value.int 0, Value.int 0, Value.int 0, Value.int 0, Value.int 0, Value.int 0]))]) [37 + 2 * ns] (by simp only [List.filterMap, hlast])
  have hDc := hD2.sub (ws' := [(q, .inr (6, [Value.int 0, Value.int 0, Value.null, Value.int 0, Value.int 0, Value.int 0, Value.int 0, Value.int 0, Value.int 0, Value.int 0]))]) [37 + 2 * ns] (by rfl) (by simp only [List.map, hlast])
  have hFc := va_free (wc := [(q, .inr (6, [Value.int 0, Value.int 0, Value.null, Value.int 0, Value.int 0, Value.int 0, Value.int 0, Value.int 0, Value.int 0, Value.int 0]))]) hD2 hS hA [37 + 2 * ns] (by simp only [List.map, hlast])

  refine va_callv (va_runI (As := [.int (Int32.ofInt yy), .int (Int32.ofInt xx)]) (rest := [.ref q, .int (nI ns), .ref (ad 2)]) ⟨hx, hb, hml, hown, hts⟩ (k_6_init l wd q (Int32.ofInt yy) (Int32.ofInt xx) H.size) (cwI 2 hts (sy_good y_6_init c_6_init 3 none (sy_inx 321 (by decide +kernel) (by decide +kernel))) rfl rfl rfl (hts (.initialized y_6_init.cls) (sy_inx 54 (by decide +kernel) (by decide +kernel))) (hts (.methodLink R_7 28 y_6_init) (sy_inx 319 (by decide +kernel) (by decide +kernel))) (hts (.instanceMethod y_6_init) (sy_inx 320 (by decide +kernel) (by decide +kernel))) rfl (by decide +kernel) ⟨by decide, by decide⟩) ⟨sk_blind, fun U hU hW => ⟨rfl, by rw [hU], by rw [hU]; exact hPc, sk_K_warm hW hKK, hDc.weaken (fun _ _ _ _ => trivial)⟩⟩ rfl rfl hl.1 rfl (lv_room (Nat.le_of_ble_eq_true rfl)) dk_7_add_33 ⟨by decide, by decide⟩) hS (fun q _ h => hFc q h) hFc (fun u t H1 locs ht hvm _ hB hz1 hk1 hS => ?_)
  obtain ⟨hP1, hD1⟩ := hB
  rw [ht] at hP1
  have hin : ∀ (k : Nat) (x : Nat × va_E), (sy_wl wd ad ns st')[k]? = some x → (sy_wl wd ad ns st' ++ [(q, Sum.inr (6, [Value.int 0, Value.int 0, Value.null, Value.int 0, Value.int 0, Value.int 0, Value.int 0, Value.int 0, Value.int 0, Value.int 0]))])[k]? = some x := fun k x hk => by
    rw [List.getElem?_append_left (List.getElem?_eq_some_iff.mp hk).1]; exact hk
  have hapart : ∀ (k : Nat) (x : Nat × va_E), (sy_wl wd ad ns st')[k]? = some x → x.1 < H.size ∧ ¬ va_A [(q, Sum.inr (6, [Value.int 0, Value.int 0, Value.null, Value.int 0, Value.int 0, Value.int 0, Value.int 0, Value.int 0, Value.int 0, Value.int 0]))] H.size x.1 := fun k x hk => by
    refine ⟨(hP2 k x (hin k x hk)).lt, fun z => ?_⟩
    rcases z with ⟨k2, e2, h2⟩ | h2
    · have hk2 : k2 < 1 := (List.getElem?_eq_some_iff.mp h2).1
      rw [show k2 = 0 by omega] at h2
      cases h2
      have := hD2.1 k (37 + 2 * ns) x _ (hin k x hk) hlast rfl
      have hlt := (List.getElem?_eq_some_iff.mp hk).1
      rw [hlen] at hlt
      omega
    · exact absurd (hP2 k x (hin k x hk)).lt (by omega)
  have hPo : va_P wd.1 sy_cl (sy_wl wd ad ns st') H1 := fun k x hk => (hP2 k x (hin k x hk)).kept (hk1 x.1 (hapart k x hk).1 (hapart k x hk).2)
  have hP := hPo.app hP1
  have hDo : va_D (sy_A ad ns s.heap.size) (sy_wl wd ad ns st') := hD
  have hD := hDo.app (hD1.weaken (fun _ _ _ h => hFc _ h)) (fun i j a b ha hb2 hab => (hapart i a ha).2 (hab ▸ hD1.2 j b hb2))
  generalize H1 = H at hP hS ⊢
  have hg1 : (sy_wl wd ad ns st' ++ [(q, Sum.inr (6, [Value.int (Int32.ofInt yy), Value.int (Int32.ofInt xx), Value.ref (u 0), Value.int 0, Value.int 0, Value.int 0, Value.int 0, Value.int 0, Value.int 0, Value.int 0])), ((u 0), Sum.inl (wd.2.1, 512, Sum.inl (fun _ => 0)))])[1]? = some (ad 1, .inr (7, [.ref (ad 2), .int (nI ns), .int (Int32.ofInt (st' 1 2))])) := by
    rw [List.getElem?_append_left (by rw [hlen]; omega)]; exact hg1
  have hg2 : (sy_wl wd ad ns st' ++ [(q, Sum.inr (6, [Value.int (Int32.ofInt yy), Value.int (Int32.ofInt xx), Value.ref (u 0), Value.int 0, Value.int 0, Value.int 0, Value.int 0, Value.int 0, Value.int 0, Value.int 0])), ((u 0), Sum.inl (wd.2.1, 512, Sum.inl (fun _ => 0)))])[2]? = some (ad 2, .inl (wd.2.2.2, 16, .inr (.inr (.inr (.inr fun j => if j < ns then some (ad (sy_nS j)) else none))))) := by
    rw [List.getElem?_append_left (by rw [hlen]; omega)]; exact hg2
  have hgq : (sy_wl wd ad ns st' ++ [(q, Sum.inr (6, [Value.int (Int32.ofInt yy), Value.int (Int32.ofInt xx), Value.ref (u 0), Value.int 0, Value.int 0, Value.int 0, Value.int 0, Value.int 0, Value.int 0, Value.int 0])), ((u 0), Sum.inl (wd.2.1, 512, Sum.inl (fun _ => 0)))])[37 + 2 * ns]? = some (q, Sum.inr (6, [Value.int (Int32.ofInt yy), Value.int (Int32.ofInt xx), Value.ref (u 0), Value.int 0, Value.int 0, Value.int 0, Value.int 0, Value.int 0, Value.int 0, Value.int 0])) := by
    rw [List.getElem?_append_right (by rw [hlen]; omega), hlen, Nat.sub_self]; rfl
  have hll : (sy_wl wd ad ns st' ++ [(q, Sum.inr (6, [Value.int (Int32.ofInt yy), Value.int (Int32.ofInt xx), Value.ref (u 0), Value.int 0, Value.int 0, Value.int 0, Value.int 0, Value.int 0, Value.int 0, Value.int 0])), ((u 0), Sum.inl (wd.2.1, 512, Sum.inl (fun _ => 0)))]).length = 39 + 2 * ns := by simp [sy_wl]; omega
  refine va_astq hx hb hK hP hD hS 2 2 (37 + 2 * ns) 6 (r := (R_6, F_6, 10)) hg2 rfl hgq rfl (i := nI ns) (vp_in_nI hn (by decide)) dk_7_add_36 (fun H locs hP hD hS => ?_)
  rw [nI_clamp (by omega)] at hP hD

  have hg1 : ((sy_wl wd ad ns st' ++ [(q, Sum.inr (6, [Value.int (Int32.ofInt yy), Value.int (Int32.ofInt xx), Value.ref (u 0), Value.int 0, Value.int 0, Value.int 0, Value.int 0, Value.int 0, Value.int 0, Value.int 0])), ((u 0), Sum.inl (wd.2.1, 512, Sum.inl (fun _ => 0)))]).set 2 (ad 2, Sum.inl (wd.2.2.2, 16, Sum.inr (Sum.inr (Sum.inr (Sum.inr (va_up (fun j => if j < ns then some (ad (sy_nS j)) else none) ns (some q))))))))[1]? = some (ad 1, .inr (7, [.ref (ad 2), .int (nI ns), .int (Int32.ofInt (st' 1 2))])) := by
    rw [List.getElem?_set_ne (by decide)]; exact hg1
  refine lv_aload_n hx hb dk_7_add_37 rfl (lv_at hl 0 rfl) ?_
  refine lv_dup hx hb dk_7_add_38 rfl ?_
  refine va_get (D := wd.1) (ci := 7) (C := R_7) (T := F_7) (N := 3) hx hb hts i_7 hown hK hP 1 hg1 rfl 1 (by decide) (hts (.fieldLink R_7 21 "StarHide$Sites" "count" "I") (sy_inx 74 (by decide +kernel) (by decide +kernel))) (fun _ h9 => h9) rfl dk_7_add_39 ?_
  refine lv_iconst hx hb dk_7_add_42 (v := 1) rfl ?_
  refine lv_iadd hx hb dk_7_add_43 ?_
  rw [nI_1]
  refine va_put (D := wd.1) (ci := 7) (v := .int (nI (ns + 1))) (ty := .int) (C := R_7) (T := F_7) (N := 3) hx hb hts i_7 t_7 t_7_ok n_7 hown hK hP hD hS 1 hg1 rfl 1 (by decide) (hts (.fieldLink R_7 21 "StarHide$Sites" "count" "I") (sy_inx 74 (by decide +kernel) (by decide +kernel))) (fun _ h9 => h9) rfl (by decide +kernel) rfl rfl (sk_lt rfl) dk_7_add_44 (fun H locs hP hD hS => ?_)
  have hg1 : (((sy_wl wd ad ns st' ++ [(q, Sum.inr (6, [Value.int (Int32.ofInt yy), Value.int (Int32.ofInt xx), Value.ref (u 0), Value.int 0, Value.int 0, Value.int 0, Value.int 0, Value.int 0, Value.int 0, Value.int 0])), ((u 0), Sum.inl (wd.2.1, 512, Sum.inl (fun _ => 0)))]).set 2 (ad 2, Sum.inl (wd.2.2.2, 16, Sum.inr (Sum.inr (Sum.inr (Sum.inr (va_up (fun j => if j < ns then some (ad (sy_nS j)) else none) ns (some q)))))))).set 1 (ad 1, Sum.inr (7, [Value.ref (ad 2), Value.int (nI (ns + 1)), Value.int (Int32.ofInt (st' 1 2))])))[1]? = some (ad 1, .inr (7, [.ref (ad 2), .int (nI (ns + 1)), .int (Int32.ofInt (st' 1 2))])) := by
    rw [List.getElem?_set_self (by rw [List.length_set, hll]; omega)]
  refine lv_aload_n hx hb dk_7_add_47 rfl (lv_at hl 0 rfl) ?_
  refine va_get (D := wd.1) (ci := 7) (C := R_7) (T := F_7) (N := 3) hx hb hts i_7 hown hK hP 1 hg1 rfl 1 (by decide) (hts (.fieldLink R_7 21 "StarHide$Sites" "count" "I") (sy_inx 74 (by decide +kernel) (by decide +kernel))) (fun _ h9 => h9) rfl dk_7_add_48 ?_
  refine lv_iconst hx hb dk_7_add_51 (v := 1) rfl ?_
  refine lv_isub hx hb dk_7_add_52 ?_
  rw [nI_pred]
  have hw := sq_wl wd ad ns q (u 0) st' yy xx (sq_e1 wd ad ns q (u 0) st' yy xx hn) (sq_e2 wd ad ns q (u 0) st' yy xx) (sq_e3 wd ad ns q (u 0) st' yy xx) (sq_e4 wd ad ns q (u 0) st' yy xx)
  have hP : va_P wd.1 sy_cl (sy_wl wd (sy_ad2 ad ns q (u 0)) (ns + 1) (c_new st' ns yy xx)) H := hw ▸ hP
  have hD : va_D (sy_A ad ns s.heap.size) (sy_wl wd (sy_ad2 ad ns q (u 0)) (ns + 1) (c_new st' ns yy xx)) := hw ▸ hD
  refine W.widen (k := 2) (n := 522) (by decide) (by decide) ?_
  exact W.iret hx hb hr (fun t ht hW => ⟨⟨_, rfl, Or.inl ⟨hcan, rfl, sy_ad2 ad ns q (u 0), fun a ha => sy_ad2_lt ad ns q (u 0) ha, by rw [ht]; exact ⟨hP, hD, sq_rg hrg hn hyy hxx⟩⟩⟩, hS.F ht⟩) hS.2.2 dk_7_add_53 hlk

set_option maxHeartbeats 4000000 in
set_option maxRecDepth 100000 in
theorem k_8_site (l : Launch) : sa_Met l y_8_site c_8_site 3 rk_8_site 0 sa_can8 := by
  refine sa_of (by decide +kernel) (by decide) ⟨rfl, rfl⟩ ?_
  intro wd ad ns st yy xx p e s m below meth c ls hsite hyy hxx hXX hWO hl
  obtain ⟨hx, hb, hml, hown, hts, hr, hlk, hKK, hYY⟩ := hXX
  have hK := hKK.1
  have hown : s.vm.findClass R_8 = some m.cls := hown
  have hA : ∀ q : Nat, s.heap.size ≤ q → sy_A ad ns s.heap.size q := fun q h => Or.inr h
  have hS : va_S (sy_A ad ns s.heap.size) s.heap s.heap [] := va_S.rf
  have fin : ¬ sa_can8 ns st yy xx → ∀ (H : Heap) (locs : List Loc), sy_WO wd ad ns st (sy_A ad ns s.heap.size) H → va_S (sy_A ad ns s.heap.size) s.heap H locs → W p l e rk_8_site s m [.ref (ad 0), .int (Int32.ofInt yy), .int (Int32.ofInt xx)].toArray below meth c H locs 0 0 (MQ below (sa_qc wd ad ns st yy xx (sa_can8 ns st yy xx) s.heap.size) [.ref (ad 0), .int (Int32.ofInt yy), .int (Int32.ofInt xx)].toArray s 2 522 (sy_A ad ns s.heap.size)) (F0 m 20 ls []) := by
    intro hno H locs hWO hS
    refine lv_iconst hx hb dk_8_site_20 (v := -1) rfl ?_
    refine W.widen (k := 2) (n := 522) (by decide) (by decide) ?_
    exact W.iret hx hb hr (fun t ht hW => ⟨⟨_, rfl, Or.inr ⟨hno, rfl, by rw [ht]; exact hWO⟩⟩, hS.F ht⟩) hS.2.2 dk_8_site_21 hlk
  refine lv_iload_n hx hb dk_8_site_0 rfl (lv_at hl 1 rfl) ?_
  refine sq_S (as := [.inl (true, yy)]) (rest := []) (post := fun r st' => st' = st ∧ r = some (.inl (true, if -2000 ≤ yy ∧ yy ≤ 2000 then 1 else 0))) ⟨hx, hb, hml, hown, hts⟩ hYY hA (mc_8_isHeight l) ⟨jw_8_isHeight.1, jw_8_isHeight.2.1, jw_8_isHeight.2.2, ⟨by decide, by decide⟩, rfl, rfl⟩ (sy_inx 303 (by decide +kernel) (by decide +kernel)) js_8_isHeight ?_ rfl ⟨rfl, rfl⟩ rfl (by decide) ⟨by decide, by decide⟩ hl.1 dk_8_site_1 hWO hS (fun r st' H locs hp _ hWO2 hS2 => ?_)
  · intro v hv
    simp only [List.mem_cons, List.not_mem_nil, or_false] at hv
    subst hv
    exact ⟨hyy, rfl, rfl⟩
  obtain ⟨rfl, rfl⟩ := hp
  by_cases hk : -2000 ≤ yy ∧ yy ≤ 2000
  case neg =>
    rw [if_neg hk]
    refine lv_if_eq hx hb dk_8_site_4 (tgt := 20) (by decide) (fun c2 => ?_) (fun c2 => absurd (by decide) c2)
    exact fin (fun q => hk q.1.1) H locs hWO2 hS2
  rw [if_pos hk]
  refine lv_if_eq hx hb dk_8_site_4 (tgt := 20) (by decide) (fun c2 => absurd c2 (by decide)) (fun c2 => ?_)
  refine lv_iload_n hx hb dk_8_site_7 rfl (lv_at hl 2 rfl) ?_
  refine lv_sipush hx hb dk_8_site_8 (v := Int32.ofInt (-5000)) (by decide) ?_
  refine lv_sipush hx hb dk_8_site_11 (v := Int32.ofInt 5000) (by decide) ?_
  refine sq_S (as := [.inl (true, xx), .inl (true, -5000), .inl (true, 5000)]) (rest := []) (post := fun r st2 => st2 = st' ∧ r = some (.inl (true, if -5000 ≤ xx ∧ xx ≤ 5000 then 1 else 0))) ⟨hx, hb, hml, hown, hts⟩ hYY hA (mc_8_within l) ⟨jw_8_within.1, jw_8_within.2.1, jw_8_within.2.2, ⟨by decide, by decide⟩, rfl, rfl⟩ (sy_inx 288 (by decide +kernel) (by decide +kernel)) js_8_within ?_ rfl ⟨rfl, rfl⟩ rfl (by decide) ⟨by decide, by decide⟩ hl.1 dk_8_site_14 hWO2 hS2 (fun r st2 H locs hp _ hWO3 hS3 => ?_)
  · intro v hv
    simp only [List.mem_cons, List.not_mem_nil, or_false] at hv
    rcases hv with rfl | rfl | rfl
    · exact ⟨hxx, rfl, rfl⟩
    · exact ⟨⟨by decide, by decide⟩, rfl, rfl⟩
    · exact ⟨⟨by decide, by decide⟩, rfl, rfl⟩
  obtain ⟨rfl, rfl⟩ := hp
  by_cases hk2 : -5000 ≤ xx ∧ xx ≤ 5000
  case neg =>
    rw [if_neg hk2]
    refine lv_if_ne hx hb dk_8_site_17 (tgt := 22) (by decide) (fun c2 => absurd (by decide) c2) (fun c2 => ?_)
    exact fin (fun q => hk2 q.1.2) H locs hWO3 hS3
  rw [if_pos hk2]
  refine lv_if_ne hx hb dk_8_site_17 (tgt := 22) (by decide) (fun c2 => ?_) (fun c2 => absurd c2 (by decide))

  have hg0 := (sy_wl_get wd ad ns st2 (a := 0) (by omega)).trans (congrArg (fun e => some (ad 0, e)) (sy_e_ob wd ad ns st2 (a := 0) (c := 8) rfl))
  refine lv_aload_n hx hb dk_8_site_22 rfl (lv_at hl 0 rfl) ?_
  refine va_get (D := wd.1) (ci := 8) (C := R_8) (T := F_8) (N := 6) (v := .ref (ad 1)) hx hb hts i_8 hown hK hWO3.1 0 hg0 rfl 0 (by decide) (hts (.fieldLink R_8 10 "StarHide" "sites" "LStarHide$Sites;") (sy_inx 265 (by decide +kernel) (by decide +kernel))) (fun _ h9 => h9) rfl dk_8_site_23 ?_
  refine lv_iload_n hx hb dk_8_site_26 rfl (lv_at hl 1 rfl) ?_
  refine lv_iload_n hx hb dk_8_site_27 rfl (lv_at hl 2 rfl) ?_
  refine sa_V (ci := 7) (b := 1) (f := sa_can7) ⟨hx, hb, hml, hown, hts⟩ hKK hYY hA (k_7_add l) jw_7_add ⟨⟨by decide, by decide⟩, rfl, rfl⟩ (sy_inx 306 (by decide +kernel) (by decide +kernel)) ji_7_add (by omega) rfl ⟨_, rfl, rfl⟩ hsite hyy hxx (by decide) ⟨by decide, by decide⟩ hl.1 dk_8_site_28 hWO3 hS3 (fun v H locs hend hS => ?_)
  rcases hend with ⟨g1, g2, ad', g3, g4⟩ | ⟨g1, g2, g3⟩
  · cases g2
    exact W.iret hx hb hr (fun t ht hW => ⟨⟨_, rfl, Or.inl ⟨⟨⟨hk, hk2⟩, g1⟩, rfl, ad', g3, by rw [ht]; exact g4⟩⟩, hS.F ht⟩) hS.2.2 dk_8_site_31 hlk
  · cases g2
    exact W.iret hx hb hr (fun t ht hW => ⟨⟨_, rfl, Or.inr ⟨fun q => g1 q.2, rfl, by rw [ht]; exact g3⟩⟩, hS.F ht⟩) hS.2.2 dk_8_site_31 hlk

