/-! METHODS AND CALLS over the abstract machine -/
def sy_A (ad : Nat → Nat) (ns sz : Nat) : Nat → Prop := fun q => (∃ a, a < 37 + 2 * ns ∧ ad a = q) ∨ sz ≤ q
/-- a method's contract: from what its meaning asks to what it promises -/
def sy_MC (l : Launch) (y : MethodName) (cc : ByteArray) (nL : Nat) (rt : Option FieldType) (rm : Room) (sp : Nat → sy_Sp) : Prop :=
  ∀ (wd : sy_D) (ad : Nat → Nat) (ns sz : Nat) (as : List sy_V) (st : sy_S) (post : sy_R), sp ns as st post → (∀ v ∈ as, sy_ok (37 + 2 * ns) v ∧ sy_kn v = v ∧ sy_set v = true) →
    Met l y (.code y cc nL rt :: sy_tb) rm (va_Pc (as.map (sy_cv ad)) (fun U => U.heap.size = sz ∧ sy_WO wd ad ns st (fun _ => True) U.heap ∧ sy_KK wd U)) (sy_Qc wd ad ns (sy_A ad ns sz) post) 0 0 (sy_A ad ns sz)
/-- what a method's tables say is so -/
def sy_MV (cc : ByteArray) (own : String) (rt : Option FieldType) (M : sy_M) : Prop :=
  (∀ pc i, M.1 pc = some i → sy_chk cc rt M.2.2.2.2.2 pc i = true) ∧ (∀ q c j, M.2.1 q = some (c, j) → sy_fldk own q c j) ∧ (∀ q z, M.2.2.1 q = some z → sy_iR z ∧ Cond.constant own q (Int32.ofInt z) ∈ sy_tb) ∧ (∀ q z, M.2.2.2.1 q = some z → sy_lR z ∧ Cond.constantLong own q (Int64.ofInt z) ∈ sy_tb)
section SYM
variable {p : Program} {l : Launch} {e : Env} {R : Room} {s : State} {m : MethodId} {args : Array Value} {below : List Frame} {meth : Method} {c : Code} {cc : ByteArray} {own : String} {nL : Nat} {rt : Option FieldType} {wd : sy_D} {ad : Nat → Nat} {ns : Nat} {A : Nat → Prop} {Q : State → Prop}
theorem sy_run_ok {M : sy_M} {stops : List Nat} {post : sy_R} {K : sy_K} (X : sy_CX p s m args meth c cc own nL rt wd) (hV : sy_MV cc own rt M)
    (hco : ∀ q b n sp, M.2.2.2.2.1 q = some (b, n, sp) → sy_CO p l e R s m args below meth c cc nL wd ad ns A Q b q n sp)
    (hQ : Q = MQ below (sy_Qc wd ad ns A post) args s 0 0 A) (hK : ∀ pc L k st, K pc L k st → sy_WA p l e R s m args below meth c nL wd ad ns A Q pc L k st) :
    ∀ (n pc : Nat) (L k : List sy_V) (st : sy_S), sy_run ns M stops post K n pc L k st → sy_WA p l e R s m args below meth c nL wd ad ns A Q pc L k st := by
  intro n
  induction n with
  | zero => exact fun pc L k st h => hK _ _ _ _ h
  | succ n ih =>
    intro pc L k st h
    unfold sy_run at h
    split at h
    · rename_i i hi
      refine sy_step X (hV.1 _ _ hi) hV.2.1 hV.2.2.1 hV.2.2.2 hco hQ (fun pc' L' k' st' h' => ?_) h
      split at h'
      · exact hK _ _ _ _ h'
      · exact ih _ _ _ _ h'
    · exact h.elim
theorem sy_nw_on : ∀ w ∈ sy_nw, w.onTables = true := by decide +kernel
theorem sy_KK_same {u U : State} (h : u.vm = U.vm) (hK : sy_KK wd u) : sy_KK wd U := ⟨va_K.moved (by rw [h]; exact Vm.Alike.refl _) hK.1, fun w hw => va_Nw.same (sy_nw_on w hw) h (hK.2 w hw)⟩
theorem sy_KK_warm {u U : State} (hW : u.WarmedH U.vm) (hK : sy_KK wd u) : sy_KK wd U := by
  refine ⟨va_K.moved hW.alike hK.1, fun w hw => ?_⟩
  have h := hK.2 w hw
  simp only [sy_nw, List.mem_cons, List.not_mem_nil, or_false] at hw
  rcases hw with rfl | rfl | rfl
  · exact va_Nw.warmM hW h
  · exact va_Nw.warmM hW h
  · exact va_Nw.warmM hW h
theorem sy_blind {as : List sy_V} {st : sy_S} {sz : Nat} : FrameBlind (va_Pc (as.map (sy_cv ad)) (fun U => U.heap.size = sz ∧ sy_WO wd ad ns st (fun _ => True) U.heap ∧ sy_KK wd U)) := by
  intro a U g mk q
  obtain ⟨q0, q1, q2, q3⟩ := q
  exact ⟨q0, q1, q2, sy_KK_same (u := U) (U := U.calling g mk a) rfl q3⟩
/-- behind a call -/
theorem sy_after {H : Heap} {locs : List Loc} {ls : Array Slot} {pc : Nat} {L rest : List sy_V} {st0 : List Value} {post : sy_R} {a : Array Value} (hr : va_Run p l e R s m args below meth c H locs 0 0 0 0 (F0 m pc ls st0) (rest.map (sy_cv ad)) (sy_Qc wd ad ns (sy_A ad ns H.size) post a) (sy_A ad ns H.size))
    (hA : ∀ q, sy_A ad ns H.size q → A q) (hS : va_S A s.heap H locs) (hL : ∀ v ∈ L, sy_ok (37 + 2 * ns) v) (hk : ∀ v ∈ rest, sy_ok (37 + 2 * ns) v) (hlen : L.length = nL) (hl : lv_has ls nL (sy_lv ad 0 L))
    (kk : ∀ r st', post r st' → sy_WA p l e R s m args below meth c nL wd ad ns A Q (pc + 3) L (r.toList ++ rest) st') : W p l e R s m args below meth c H locs 0 0 Q (F0 m pc ls st0) := by
  intro T hT X
  obtain ⟨v, st₀, t, T', L9, h0, X', hL9, e1, e2, ⟨r, st', hv, hp, hro, hWO, hz, hkp⟩, stp⟩ := hr T hT X
  injection hv with hv
  subst hv
  rw [h0] at hz hkp
  have hS1 : va_S A s.heap T'.heap (locs ++ L9) := ⟨Nat.le_trans hS.1 (by rw [e1]; exact hz), fun q h1 h2 => by rw [e1, hkp q (Nat.lt_of_lt_of_le h1 hS.1) (fun z => h2 (hA q z))]; exact hS.2.1 q h1 h2, fun q hq => by
      rcases List.mem_append.mp hq with h | h
      · exact hS.2.2 q h
      · exact hA _ (hL9 q h)⟩
  have hk2 : ∀ v ∈ r.toList ++ rest, sy_ok (37 + 2 * ns) v := fun v hv => by
    rcases List.mem_append.mp hv with h | h
    · exact hro v h
    · exact hk v h
  obtain ⟨t2, a1, b1⟩ := kk r st' hp hL hk2 hlen T'.heap (locs ++ L9) ls ⟨by rw [e1]; exact hWO.1, hWO.2.1.weaken (fun _ _ _ h => hA _ h), hWO.2.2⟩ hS1 hl T' rfl X'
  refine ⟨t2, stp t2 ?_, b1⟩
  have e5 : (r.toList ++ rest).map (sy_cv ad) = (r.map (sy_cv ad)).toList ++ rest.map (sy_cv ad) := by cases r <;> simp
  rw [e5] at a1
  exact a1
theorem sy_A_in {sz : Nat} {H : Heap} {st : sy_S} (hA : ∀ q, s.heap.size ≤ q → A q) (hsz : s.heap.size ≤ H.size) (hD : va_D A (sy_wl wd ad ns st)) : ∀ q, sy_A ad ns H.size q → A q := by
  intro q h
  rcases h with ⟨a, ha, rfl⟩ | h
  · exact hD.2 a _ (sy_wl_get wd ad ns st ha)
  · exact hA q (Nat.le_trans hsz h)
theorem sy_good (y : MethodName) (cc : ByteArray) (nL : Nat) (rt : Option FieldType) (h : Cond.code y cc nL rt ∈ sy_tb) : GoodIn sy_tb (.code y cc nL rt :: sy_tb) := by
  intro w hw
  have hm : w ∈ sy_tb := by
    rcases List.mem_cons.mp hw with rfl | hw
    · exact h
    · exact hw
  exact ⟨hm, good_of_word (List.mem_filter.mp hm).2⟩
/-- what a call asks of the tables, and of the room -/
def sy_ws (own : String) (q : Nat) (y : MethodName) (cc : ByteArray) (nL : Nat) (rt : Option FieldType) (rm R : Room) (n : Nat) : Prop :=
  Cond.code y cc nL rt ∈ sy_tb ∧ Cond.initialized y.cls ∈ sy_tb ∧ (y.cls ≠ "java/lang/invoke/MethodHandle" ∧ y.cls ≠ "java/lang/invoke/VarHandle" ∧ (parseMethodDescriptor y.desc).map (fun d => d.parameters.length) = some n) ∧ (rm.frames + 1 ≤ R.frames ∧ 8 + (nL + 11) + rm.locals ≤ R.locals) ∧ rm.cells = 0 ∧ rm.slots = 0
theorem sy_coV {y : MethodName} {cc' : ByteArray} {nL' n q ci : Nat} {rt' : Option FieldType} {rm : Room} {sp : Nat → sy_Sp} (X : sy_CX p s m args meth c cc own nL rt wd) (hA : ∀ q, s.heap.size ≤ q → A q)
    (hM : sy_MC l y cc' nL' rt' rm sp) (hw : sy_ws own q y cc' nL' rt' rm R n) (hl : Cond.methodLink own q y ∈ sy_tb) (hi : Cond.instanceMethod y ∈ sy_tb) (hs : Cond.selects y.cls y y ∈ sy_tb)
    (hrc : ∀ as st post, sp ns as st post → ∃ b as', as = .inr (.inr (some (some b))) :: as' ∧ sy_ob b = some ci) (hc : ∃ r, sy_cl[ci]? = some r ∧ r.1 = y.cls) :
    sy_CO p l e R s m args below meth c cc nL wd ad ns A Q false q (n + 1) (sp ns) := by
  intro pc L as rest st post hd hn hok hsp kk hwd hL hk hlen H locs ls hW hS hl9
  obtain ⟨hx, hb, hml, hown, hts, hr, hlk, hKK⟩ := X
  obtain ⟨w1, w2, w3, w4, w5, w6⟩ := hw
  obtain ⟨b, as', rfl, ho⟩ := hrc _ _ _ hsp
  obtain ⟨⟨C, T, N⟩, hc1, hc2⟩ := hc
  have hb9 : b < 37 + 2 * ns := (hok _ List.mem_cons_self).1
  have he := (sy_wl_get wd ad ns st hb9).trans (congrArg (fun e => some (ad b, e)) (sy_e_ob wd ad ns st ho))
  have hcw : CallW R s args own y.cls q y cc' nL' rt' (.code y cc' nL' rt' :: sy_tb) rm 0 0 n := ⟨callB_of n hts (sy_good y cc' nL' rt' w1) rfl w5 w6 (hts _ w2) (hts _ hl) w3 w4, hts _ hi, hts _ hs⟩
  have e9 : ((Sum.inr (Sum.inr (some (some b))) :: as').reverse ++ rest).map (sy_cv ad) = (as'.map (sy_cv ad)).reverse ++ .ref (ad b) :: rest.map (sy_cv ad) := by simp [sy_cv]
  rw [e9]
  have hrec := va_recv hKK.1 hW.1 hc1 he
  rw [show y.cls = C from hc2.symm] at hcw
  refine sy_after (va_runV (As := as'.map (sy_cv ad)) (rest := rest.map (sy_cv ad)) ⟨hx, hb, hml, hown, hts⟩ (hM wd ad ns H.size _ st post hsp hok) hcw ⟨sy_blind, hrec, fun U hU hWm => ⟨rfl, by rw [hU], ⟨by rw [hU]; exact hW.1, hW.2.1.weaken (fun _ _ _ _ => trivial), hW.2.2⟩, sy_KK_warm hWm hKK⟩⟩ rfl (by simpa using hn) hl9.1 rfl ?_ hd ⟨Nat.zero_le _, Nat.zero_le _⟩) (sy_A_in (sz := 0) hA hS.1 hW.2.1) hS hL (fun v hv => hk v (List.mem_append_right _ hv)) hlen hl9 kk
  rw [show (F0 m pc ls ((as'.map (sy_cv ad)).reverse ++ .ref (ad b) :: rest.map (sy_cv ad))).monitorRoom = 0 from rfl, sy_wd_sum]
  omega
theorem sy_coS {y : MethodName} {cc' : ByteArray} {nL' n q : Nat} {rt' : Option FieldType} {rm : Room} {sp : Nat → sy_Sp} (X : sy_CX p s m args meth c cc own nL rt wd) (hA : ∀ q, s.heap.size ≤ q → A q)
    (hM : sy_MC l y cc' nL' rt' rm sp) (hw : sy_ws own q y cc' nL' rt' rm R n) (hl : Cond.methodLink own q y ∈ sy_tb) (hs : Cond.static y ∈ sy_tb) :
    sy_CO p l e R s m args below meth c cc nL wd ad ns A Q true q n (sp ns) := by
  intro pc L as rest st post hd hn hok hsp kk hwd hL hk hlen H locs ls hW hS hl9
  obtain ⟨hx, hb, hml, hown, hts, hr, hlk, hKK⟩ := X
  obtain ⟨w1, w2, w3, w4, w5, w6⟩ := hw
  have hcw : CallB R s args own q y cc' nL' rt' (.code y cc' nL' rt' :: sy_tb) rm 0 0 n ∧ (Cond.static y).before args s = true := ⟨callB_of n hts (sy_good y cc' nL' rt' w1) rfl w5 w6 (hts _ w2) (hts _ hl) w3 w4, hts _ hs⟩
  have e9 : (as.reverse ++ rest).map (sy_cv ad) = (as.map (sy_cv ad)).reverse ++ rest.map (sy_cv ad) := by simp
  rw [e9]
  refine sy_after (va_runS (As := as.map (sy_cv ad)) (rest := rest.map (sy_cv ad)) ⟨hx, hb, hml, hown, hts⟩ (hM wd ad ns H.size _ st post hsp hok) hcw ⟨sy_blind, fun U hU hWm => ⟨rfl, by rw [hU], ⟨by rw [hU]; exact hW.1, hW.2.1.weaken (fun _ _ _ _ => trivial), hW.2.2⟩, sy_KK_warm hWm hKK⟩⟩ rfl (by simpa using hn) hl9.1 rfl ?_ hd ⟨Nat.zero_le _, Nat.zero_le _⟩) (sy_A_in (sz := 0) hA hS.1 hW.2.1) hS hL (fun v hv => hk v (List.mem_append_right _ hv)) hlen hl9 kk
  rw [show (F0 m pc ls ((as.map (sy_cv ad)).reverse ++ rest.map (sy_cv ad))).monitorRoom = 0 from rfl, sy_wd_sum]
  omega
theorem sy_coN {y : MethodName} {host : String} {cc' : ByteArray} {nL' n q : Nat} {rt' : Option FieldType} {rm : Room} {sp : Nat → sy_Sp} (X : sy_CX p s m args meth c cc own nL rt wd) (hA : ∀ q, s.heap.size ≤ q → A q)
    (hM : sy_MC l y cc' nL' rt' rm sp) (hw : sy_ws own q y cc' nL' rt' rm R n) (hl : Cond.methodLinkNest own q y host ∈ sy_nw) (hs : Cond.static y ∈ sy_tb) :
    sy_CO p l e R s m args below meth c cc nL wd ad ns A Q true q n (sp ns) := by
  intro pc L as rest st post hd hn hok hsp kk hwd hL hk hlen H locs ls hW hS hl9
  obtain ⟨hx, hb, hml, hown, hts, hr, hlk, hKK⟩ := X
  obtain ⟨w1, w2, w3, w4, w5, w6⟩ := hw
  have hcw : va_CN R s args own q y host cc' nL' rt' (.code y cc' nL' rt' :: sy_tb) rm 0 0 n ∧ (Cond.static y).before args s = true ∧ True := ⟨va_cnB n hts (sy_good y cc' nL' rt' w1) rfl w5 w6 (hKK.2 _ hl) (hts _ w2) w3 w4, hts _ hs, trivial⟩
  have e9 : (as.reverse ++ rest).map (sy_cv ad) = (as.map (sy_cv ad)).reverse ++ rest.map (sy_cv ad) := by simp
  rw [e9]
  refine sy_after (va_runSN (As := as.map (sy_cv ad)) (rest := rest.map (sy_cv ad)) ⟨hx, hb, hml, hown, hts⟩ (hM wd ad ns H.size _ st post hsp hok) hcw ⟨sy_blind, fun U hU hWm => ⟨rfl, by rw [hU], ⟨by rw [hU]; exact hW.1, hW.2.1.weaken (fun _ _ _ _ => trivial), hW.2.2⟩, sy_KK_warm hWm hKK⟩⟩ rfl (by simpa using hn) hl9.1 rfl ?_ hd ⟨Nat.zero_le _, Nat.zero_le _⟩) (sy_A_in (sz := 0) hA hS.1 hW.2.1) hS hL (fun v hv => hk v (List.mem_append_right _ hv)) hlen hl9 kk
  rw [show (F0 m pc ls ((as.map (sy_cv ad)).reverse ++ rest.map (sy_cv ad))).monitorRoom = 0 from rfl, sy_wd_sum]
  omega
end SYM
/-- all of a method's calls are sound -/
def sy_calls (l : Launch) (R : Room) (own : String) (cc : ByteArray) (nL : Nat) (ct : Nat → Nat → Option (Bool × Nat × sy_Sp)) : Prop :=
  ∀ (p : Program) (e : Env) (s : State) (m : MethodId) (args : Array Value) (below : List Frame) (meth : Method) (c : Code) (rt : Option FieldType) (wd : sy_D) (ad : Nat → Nat) (ns : Nat) (A : Nat → Prop) (Q : State → Prop), sy_CX p s m args meth c cc own nL rt wd → (∀ q, s.heap.size ≤ q → A q) →
    ∀ q b n sp, ct ns q = some (b, n, sp) → sy_CO p l e R s m args below meth c cc nL wd ad ns A Q b q n sp
theorem sy_ent_lv (ad : Nat → Nat) : ∀ (as : List sy_V) (i : Nat) (q : Nat × Value), (∀ v ∈ as, sy_set v = true) → q ∈ sy_lv ad i (sy_ent as) → q ∈ lv_args i (as.map (sy_cv ad))
  | [], i, q, hs, h => by simp [sy_ent, sy_lv] at h
  | v :: r, i, q, hs, h => by
    have hv := hs v List.mem_cons_self
    have hr := fun u hu => hs u (List.mem_cons_of_mem v hu)
    have hcat := sy_cv_cat ad v
    simp only [List.map_cons, lv_args]
    cases hc : sy_cat2 v
    · rw [hc] at hcat
      have hcat : ¬ (sy_cv ad v).category = 2 := by simpa using hcat
      simp only [sy_ent, hc, Bool.false_eq_true, if_false, sy_lv, hv, if_true] at h
      rcases List.mem_cons.mp h with rfl | h
      · exact List.mem_cons_self
      · rw [if_neg hcat]; exact List.mem_cons_of_mem _ (sy_ent_lv ad r (i + 1) q hr h)
    · rw [hc] at hcat
      have hcat : (sy_cv ad v).category = 2 := by simpa using hcat
      simp only [sy_ent, hc, if_true, sy_lv, hv] at h
      rcases List.mem_cons.mp h with rfl | h
      · exact List.mem_cons_self
      · rw [if_pos hcat]
        refine List.mem_cons_of_mem _ (sy_ent_lv ad r (i + 2) q hr ?_)
        simpa [sy_set] using h
theorem sy_rep_lv (ad : Nat → Nat) : ∀ (L : List sy_V) (n i : Nat), sy_lv ad i (L ++ List.replicate n (.inr (.inr none))) = sy_lv ad i L
  | [], 0, i => rfl
  | [], n + 1, i => by
    have := sy_rep_lv ad [] n (i + 1)
    simp only [List.nil_append] at this ⊢
    rw [List.replicate_succ]
    simp [sy_lv, sy_set, this]
  | v :: r, n, i => by
    simp only [List.cons_append, sy_lv, sy_rep_lv ad r n (i + 1)]
theorem sy_ent_len (ad : Nat → Nat) : ∀ as : List sy_V, (lg_sl (as.map (sy_cv ad))).length = (sy_ent as).length
  | [] => rfl
  | v :: r => by
    have ih := sy_ent_len ad r
    have hcat := sy_cv_cat ad v
    simp only [List.map_cons, lg_sl, List.flatMap_cons, List.length_append, sy_ent] at ih ⊢
    rw [ih]
    cases hc : sy_cat2 v
    · rw [hc] at hcat
      have hcat : ¬ (sy_cv ad v).category = 2 := by simpa using hcat
      simp [hcat]; omega
    · rw [hc] at hcat
      have hcat : (sy_cv ad v).category = 2 := by simpa using hcat
      simp [hcat]; omega
theorem sy_ent_ok {N : Nat} : ∀ (as : List sy_V), (∀ v ∈ as, sy_ok N v) → ∀ v ∈ sy_ent as, sy_ok N v
  | [], h, v, hv => by simp [sy_ent] at hv
  | a :: r, h, v, hv => by
    have ih := sy_ent_ok r (fun u hu => h u (List.mem_cons_of_mem _ hu))
    simp only [sy_ent] at hv
    split at hv
    · simp only [List.mem_cons] at hv
      rcases hv with rfl | rfl | hv
      · exact h _ List.mem_cons_self
      · trivial
      · exact ih v hv
    · simp only [List.mem_cons] at hv
      rcases hv with rfl | hv
      · exact h _ List.mem_cons_self
      · exact ih v hv
/-- fewer known locals -/
def sy_sub : List sy_V → List sy_V → Prop
  | [], [] => True
  | a :: r, b :: t => (a = b ∨ a = .inr (.inr none)) ∧ sy_sub r t
  | _, _ => False
theorem sy_sub_len : ∀ (L L' : List sy_V), sy_sub L' L → L'.length = L.length
  | [], [], _ => rfl
  | [], b :: t, h => h.elim
  | a :: r, [], h => h.elim
  | a :: r, b :: t, h => by simp [sy_sub_len r t h.2]
theorem sy_sub_lv (ad : Nat → Nat) : ∀ (L L' : List sy_V) (i : Nat), sy_sub L' L → ∀ q ∈ sy_lv ad i L', q ∈ sy_lv ad i L
  | [], [], i, _, q, hq => hq
  | [], b :: t, i, h, q, hq => h.elim
  | a :: r, [], i, h, q, hq => h.elim
  | a :: r, b :: t, i, h, q, hq => by
    have ih := sy_sub_lv ad r t (i + 1) h.2 q
    rcases h.1 with rfl | rfl
    · simp only [sy_lv] at hq ⊢
      split at hq
      · rename_i hb
        rw [if_pos hb]
        rcases List.mem_cons.mp hq with rfl | hq
        · exact List.mem_cons_self
        · exact List.mem_cons_of_mem _ (ih hq)
      · rename_i hb
        rw [if_neg hb]
        exact ih hq
    · have hq := ih (by simpa [sy_lv, sy_set] using hq)
      unfold sy_lv
      split
      · exact List.mem_cons_of_mem _ hq
      · exact hq
theorem sy_sub_ok {N : Nat} : ∀ (L L' : List sy_V), sy_sub L' L → (∀ v ∈ L, sy_ok N v) → ∀ v ∈ L', sy_ok N v
  | [], [], _, h, v, hv => h v hv
  | [], b :: t, h, _, v, hv => h.elim
  | a :: r, [], h, _, v, hv => h.elim
  | a :: r, b :: t, h, hL, v, hv => by
    rcases List.mem_cons.mp hv with rfl | hv
    · rcases h.1 with rfl | rfl
      · exact hL _ List.mem_cons_self
      · trivial
    · exact sy_sub_ok r t h.2 (fun u hu => hL u (List.mem_cons_of_mem _ hu)) v hv
/-- what the body of a method's proof may use: running on; knowing ranges; forgetting locals -/
def sy_go (ns : Nat) (M : sy_M) (post : sy_R) (WA : sy_K) : Prop :=
  (∀ (stops : List Nat) (n pc : Nat) (L k : List sy_V) (st : sy_S), sy_run ns M stops post WA n pc L k st → WA pc L k st) ∧
  (∀ (pc : Nat) (L k : List sy_V) (st : sy_S), ((∀ v ∈ L, sy_ok (37 + 2 * ns) v) → (∀ v ∈ k, sy_ok (37 + 2 * ns) v) → sy_rg st → WA pc L k st) → WA pc L k st) ∧
  (∀ (pc : Nat) (L L' k : List sy_V) (st : sy_S), sy_sub L' L → WA pc L' k st → WA pc L k st)
theorem sy_meth {l : Launch} {y : MethodName} {cc : ByteArray} {nL : Nat} {rt : Option FieldType} {rm : Room} {sp : Nat → sy_Sp} (M : Nat → sy_M) (hy : plainFor y = true) (hV : ∀ ns, sy_MV cc y.cls rt (M ns)) (hco : sy_calls l rm y.cls cc nL (fun ns => (M ns).2.2.2.2.1))
    (body : ∀ (ns : Nat) (as : List sy_V) (st : sy_S) (post : sy_R) (WA : sy_K), sp ns as st post → (∀ v ∈ as, sy_ok (37 + 2 * ns) v ∧ sy_kn v = v ∧ sy_set v = true) → sy_rg st → sy_go ns (M ns) post WA → (sy_ent as).length ≤ nL ∧ WA 0 (sy_ent as ++ List.replicate (nL - (sy_ent as).length) (.inr (.inr none))) [] st) :
    sy_MC l y cc nL rt rm sp := by
  intro wd ad ns sz as st post hsp hok
  refine va_MetF (cc := cc) (maxL := nL) (ret := rt) hy rfl ?_
  intro p e s m args below meth c s₁ B hml hv
  obtain ⟨rfl, hsz, hWO, hKK⟩ := hv
  subst hsz
  have hts0 := atoms_spec (ws := .code y cc nL rt :: sy_tb) B.pre
  have hts : ∀ w ∈ sy_tb, w.before (as.map (sy_cv ad)).toArray s = true := fun w hw => hts0 w (List.mem_cons_of_mem _ hw)
  have X : sy_CX p s m (as.map (sy_cv ad)).toArray meth c cc y.cls nL rt wd := ⟨B.exec, B.bytes, hml, findClass_of_methodNamed B.named, hts, B.returns, B.notSynchronized, hKK⟩
  have hA : ∀ q, s.heap.size ≤ q → sy_A ad ns s.heap.size q := fun q h => Or.inr h
  have hD : va_D (sy_A ad ns s.heap.size) (sy_wl wd ad ns st) := ⟨hWO.2.1.1, fun k q hk => by
    have hlt : k < 37 + 2 * ns := by simpa [sy_wl] using (List.getElem?_eq_some_iff.mp hk).1
    rw [sy_wl_get wd ad ns st hlt] at hk
    rw [← Option.some.inj hk]
    exact Or.inl ⟨k, hlt, rfl⟩⟩
  have hok' : ∀ v ∈ as, sy_ok (37 + 2 * ns) v := fun v hv => (hok v hv).1
  have key := body ns as st post (sy_WA p l e rm s m (as.map (sy_cv ad)).toArray below meth c nL wd ad ns (sy_A ad ns s.heap.size) (MQ below (sy_Qc wd ad ns (sy_A ad ns s.heap.size) post) (as.map (sy_cv ad)).toArray s 0 0 (sy_A ad ns s.heap.size))) hsp hok hWO.2.2
    ⟨fun stops n pc L k st h => sy_run_ok X (hV ns) (hco p e s m _ below meth c rt wd ad ns _ _ X hA) rfl (fun _ _ _ _ h => h) n pc L k st h,
     fun pc L k st h hL hk hlen H locs ls hW hS hl => h hL hk hW.2.2 hL hk hlen H locs ls hW hS hl,
     fun pc L L' k st hs h hL hk hlen H locs ls hW hS hl => h (sy_sub_ok _ _ hs hL) hk (by rw [sy_sub_len _ _ hs]; exact hlen) H locs ls hW hS (sy_has_mono hl (sy_sub_lv ad _ _ 0 hs))⟩
  obtain ⟨hle, key⟩ := key
  have hl := lv_entry (as.map (sy_cv ad)) (n := nL) (by rw [sy_ent_len]; exact hle)
  rw [lg_entry_eq]
  refine key (fun v hv => ?_) (fun _ h => by cases h) (by simp; omega) s.heap [] _ ⟨hWO.1, hD, hWO.2.2⟩ va_S.rf (sy_has_mono hl fun q hq => ?_)
  · rcases List.mem_append.mp hv with hv | hv
    · exact sy_ent_ok as hok' v hv
    · rw [(List.mem_replicate.mp hv).2]; trivial
  · rw [sy_rep_lv] at hq
    exact sy_ent_lv ad as 0 q (fun v hv => (hok v hv).2.2) hq
/-! FORMS OF MEANINGS: static (s), of the object of a given name (m), of a site (k); with so many ints -/
theorem sy_ob_S (i : Nat) : sy_ob (sy_nS i) = some 6 := by
  unfold sy_ob sy_nS
  split <;> first | omega | (rw [if_pos ⟨by omega, by omega⟩])
theorem sy_ob_W (i : Nat) : sy_ob (sy_nW i) = none := by
  unfold sy_ob sy_nW
  split <;> first | omega | (rw [if_neg (by omega)])
theorem sy_ar_W (i : Nat) : sy_ar (sy_nW i) = (0, 512) := by
  unfold sy_ar sy_nW
  split <;> first | omega | rfl
theorem sy_rf_S2 (i : Nat) : sy_rf (sy_nS i) 2 = some (sy_nW i) := by
  unfold sy_rf sy_nS
  split <;> first | omega | (rw [if_pos (by omega)]; simp [sy_nW]; omega) | (exfalso; simp_all)
theorem sy_rf_S (i : Nat) {j : Nat} (h : j ≠ 2) : sy_rf (sy_nS i) j = none := sy_rf_hi (by unfold sy_nS; omega) h
theorem sy_nS_inj (i j : Nat) : sy_nS i = sy_nS j ↔ i = j := by unfold sy_nS; omega
theorem sy_nW_inj (i j : Nat) : sy_nW i = sy_nW j ↔ i = j := by unfold sy_nW; omega
theorem sy_nS_nW (i j : Nat) : ¬ sy_nS i = sy_nW j := by unfold sy_nS sy_nW; omega
theorem sy_nW_nS (i j : Nat) : ¬ sy_nW i = sy_nS j := by unfold sy_nS sy_nW; omega
theorem sy_nS_ge (i : Nat) : 37 ≤ sy_nS i := by unfold sy_nS; omega
theorem sy_nW_ge (i : Nat) : 37 ≤ sy_nW i := by unfold sy_nW; omega
def sy_s1 (f : Int → sy_S → sy_R → Prop) : sy_Sp := fun as st post => match as with
  | [.inl (_, x1)] => f x1 st post
  | _ => False
theorem sy_s1_e {f : Int → sy_S → sy_R → Prop} {as : List sy_V} {st : sy_S} {post : sy_R} {N : Nat} (h : sy_s1 f as st post) (hok : ∀ v ∈ as, sy_ok N v ∧ sy_kn v = v ∧ sy_set v = true) : ∃ (x1 : Int), as = [.inl (true, x1)] ∧ sy_iR x1 ∧ f x1 st post := by
  unfold sy_s1 at h
  split at h
  · rename_i b1 x1
    have e1 := hok (.inl (b1, x1)) (by simp)
    obtain ⟨o1, e1, -⟩ := e1
    injection e1 with e1; injection e1 with e1 _; subst e1
    exact ⟨x1, rfl, o1, h⟩
  · exact h.elim
def sy_s2 (f : Int → Int → sy_S → sy_R → Prop) : sy_Sp := fun as st post => match as with
  | [.inl (_, x1), .inl (_, x2)] => f x1 x2 st post
  | _ => False
theorem sy_s2_e {f : Int → Int → sy_S → sy_R → Prop} {as : List sy_V} {st : sy_S} {post : sy_R} {N : Nat} (h : sy_s2 f as st post) (hok : ∀ v ∈ as, sy_ok N v ∧ sy_kn v = v ∧ sy_set v = true) : ∃ (x1 : Int) (x2 : Int), as = [.inl (true, x1), .inl (true, x2)] ∧ sy_iR x1 ∧ sy_iR x2 ∧ f x1 x2 st post := by
  unfold sy_s2 at h
  split at h
  · rename_i b1 x1 b2 x2
    have e1 := hok (.inl (b1, x1)) (by simp)
    obtain ⟨o1, e1, -⟩ := e1
    injection e1 with e1; injection e1 with e1 _; subst e1
    have e2 := hok (.inl (b2, x2)) (by simp)
    obtain ⟨o2, e2, -⟩ := e2
    injection e2 with e2; injection e2 with e2 _; subst e2
    exact ⟨x1, x2, rfl, o1, o2, h⟩
  · exact h.elim
def sy_s3 (f : Int → Int → Int → sy_S → sy_R → Prop) : sy_Sp := fun as st post => match as with
  | [.inl (_, x1), .inl (_, x2), .inl (_, x3)] => f x1 x2 x3 st post
  | _ => False
theorem sy_s3_e {f : Int → Int → Int → sy_S → sy_R → Prop} {as : List sy_V} {st : sy_S} {post : sy_R} {N : Nat} (h : sy_s3 f as st post) (hok : ∀ v ∈ as, sy_ok N v ∧ sy_kn v = v ∧ sy_set v = true) : ∃ (x1 : Int) (x2 : Int) (x3 : Int), as = [.inl (true, x1), .inl (true, x2), .inl (true, x3)] ∧ sy_iR x1 ∧ sy_iR x2 ∧ sy_iR x3 ∧ f x1 x2 x3 st post := by
  unfold sy_s3 at h
  split at h
  · rename_i b1 x1 b2 x2 b3 x3
    have e1 := hok (.inl (b1, x1)) (by simp)
    obtain ⟨o1, e1, -⟩ := e1
    injection e1 with e1; injection e1 with e1 _; subst e1
    have e2 := hok (.inl (b2, x2)) (by simp)
    obtain ⟨o2, e2, -⟩ := e2
    injection e2 with e2; injection e2 with e2 _; subst e2
    have e3 := hok (.inl (b3, x3)) (by simp)
    obtain ⟨o3, e3, -⟩ := e3
    injection e3 with e3; injection e3 with e3 _; subst e3
    exact ⟨x1, x2, x3, rfl, o1, o2, o3, h⟩
  · exact h.elim
def sy_s4 (f : Int → Int → Int → Int → sy_S → sy_R → Prop) : sy_Sp := fun as st post => match as with
  | [.inl (_, x1), .inl (_, x2), .inl (_, x3), .inl (_, x4)] => f x1 x2 x3 x4 st post
  | _ => False
theorem sy_s4_e {f : Int → Int → Int → Int → sy_S → sy_R → Prop} {as : List sy_V} {st : sy_S} {post : sy_R} {N : Nat} (h : sy_s4 f as st post) (hok : ∀ v ∈ as, sy_ok N v ∧ sy_kn v = v ∧ sy_set v = true) : ∃ (x1 : Int) (x2 : Int) (x3 : Int) (x4 : Int), as = [.inl (true, x1), .inl (true, x2), .inl (true, x3), .inl (true, x4)] ∧ sy_iR x1 ∧ sy_iR x2 ∧ sy_iR x3 ∧ sy_iR x4 ∧ f x1 x2 x3 x4 st post := by
  unfold sy_s4 at h
  split at h
  · rename_i b1 x1 b2 x2 b3 x3 b4 x4
    have e1 := hok (.inl (b1, x1)) (by simp)
    obtain ⟨o1, e1, -⟩ := e1
    injection e1 with e1; injection e1 with e1 _; subst e1
    have e2 := hok (.inl (b2, x2)) (by simp)
    obtain ⟨o2, e2, -⟩ := e2
    injection e2 with e2; injection e2 with e2 _; subst e2
    have e3 := hok (.inl (b3, x3)) (by simp)
    obtain ⟨o3, e3, -⟩ := e3
    injection e3 with e3; injection e3 with e3 _; subst e3
    have e4 := hok (.inl (b4, x4)) (by simp)
    obtain ⟨o4, e4, -⟩ := e4
    injection e4 with e4; injection e4 with e4 _; subst e4
    exact ⟨x1, x2, x3, x4, rfl, o1, o2, o3, o4, h⟩
  · exact h.elim
def sy_s5 (f : Int → Int → Int → Int → Int → sy_S → sy_R → Prop) : sy_Sp := fun as st post => match as with
  | [.inl (_, x1), .inl (_, x2), .inl (_, x3), .inl (_, x4), .inl (_, x5)] => f x1 x2 x3 x4 x5 st post
  | _ => False
theorem sy_s5_e {f : Int → Int → Int → Int → Int → sy_S → sy_R → Prop} {as : List sy_V} {st : sy_S} {post : sy_R} {N : Nat} (h : sy_s5 f as st post) (hok : ∀ v ∈ as, sy_ok N v ∧ sy_kn v = v ∧ sy_set v = true) : ∃ (x1 : Int) (x2 : Int) (x3 : Int) (x4 : Int) (x5 : Int), as = [.inl (true, x1), .inl (true, x2), .inl (true, x3), .inl (true, x4), .inl (true, x5)] ∧ sy_iR x1 ∧ sy_iR x2 ∧ sy_iR x3 ∧ sy_iR x4 ∧ sy_iR x5 ∧ f x1 x2 x3 x4 x5 st post := by
  unfold sy_s5 at h
  split at h
  · rename_i b1 x1 b2 x2 b3 x3 b4 x4 b5 x5
    have e1 := hok (.inl (b1, x1)) (by simp)
    obtain ⟨o1, e1, -⟩ := e1
    injection e1 with e1; injection e1 with e1 _; subst e1
    have e2 := hok (.inl (b2, x2)) (by simp)
    obtain ⟨o2, e2, -⟩ := e2
    injection e2 with e2; injection e2 with e2 _; subst e2
    have e3 := hok (.inl (b3, x3)) (by simp)
    obtain ⟨o3, e3, -⟩ := e3
    injection e3 with e3; injection e3 with e3 _; subst e3
    have e4 := hok (.inl (b4, x4)) (by simp)
    obtain ⟨o4, e4, -⟩ := e4
    injection e4 with e4; injection e4 with e4 _; subst e4
    have e5 := hok (.inl (b5, x5)) (by simp)
    obtain ⟨o5, e5, -⟩ := e5
    injection e5 with e5; injection e5 with e5 _; subst e5
    exact ⟨x1, x2, x3, x4, x5, rfl, o1, o2, o3, o4, o5, h⟩
  · exact h.elim
def sy_s6 (f : Int → Int → Int → Int → Int → Int → sy_S → sy_R → Prop) : sy_Sp := fun as st post => match as with
  | [.inl (_, x1), .inl (_, x2), .inl (_, x3), .inl (_, x4), .inl (_, x5), .inl (_, x6)] => f x1 x2 x3 x4 x5 x6 st post
  | _ => False
theorem sy_s6_e {f : Int → Int → Int → Int → Int → Int → sy_S → sy_R → Prop} {as : List sy_V} {st : sy_S} {post : sy_R} {N : Nat} (h : sy_s6 f as st post) (hok : ∀ v ∈ as, sy_ok N v ∧ sy_kn v = v ∧ sy_set v = true) : ∃ (x1 : Int) (x2 : Int) (x3 : Int) (x4 : Int) (x5 : Int) (x6 : Int), as = [.inl (true, x1), .inl (true, x2), .inl (true, x3), .inl (true, x4), .inl (true, x5), .inl (true, x6)] ∧ sy_iR x1 ∧ sy_iR x2 ∧ sy_iR x3 ∧ sy_iR x4 ∧ sy_iR x5 ∧ sy_iR x6 ∧ f x1 x2 x3 x4 x5 x6 st post := by
  unfold sy_s6 at h
  split at h
  · rename_i b1 x1 b2 x2 b3 x3 b4 x4 b5 x5 b6 x6
    have e1 := hok (.inl (b1, x1)) (by simp)
    obtain ⟨o1, e1, -⟩ := e1
    injection e1 with e1; injection e1 with e1 _; subst e1
    have e2 := hok (.inl (b2, x2)) (by simp)
    obtain ⟨o2, e2, -⟩ := e2
    injection e2 with e2; injection e2 with e2 _; subst e2
    have e3 := hok (.inl (b3, x3)) (by simp)
    obtain ⟨o3, e3, -⟩ := e3
    injection e3 with e3; injection e3 with e3 _; subst e3
    have e4 := hok (.inl (b4, x4)) (by simp)
    obtain ⟨o4, e4, -⟩ := e4
    injection e4 with e4; injection e4 with e4 _; subst e4
    have e5 := hok (.inl (b5, x5)) (by simp)
    obtain ⟨o5, e5, -⟩ := e5
    injection e5 with e5; injection e5 with e5 _; subst e5
    have e6 := hok (.inl (b6, x6)) (by simp)
    obtain ⟨o6, e6, -⟩ := e6
    injection e6 with e6; injection e6 with e6 _; subst e6
    exact ⟨x1, x2, x3, x4, x5, x6, rfl, o1, o2, o3, o4, o5, o6, h⟩
  · exact h.elim
def sy_m0 (a : Nat) (f : sy_S → sy_R → Prop) : sy_Sp := fun as st post => match as with
  | [.inr (.inr (some (some b)))] => b = a ∧ f st post
  | _ => False
theorem sy_m0_e {a : Nat} {f : sy_S → sy_R → Prop} {as : List sy_V} {st : sy_S} {post : sy_R} {N : Nat} (h : sy_m0 a f as st post) (hok : ∀ v ∈ as, sy_ok N v ∧ sy_kn v = v ∧ sy_set v = true) : as = [.inr (.inr (some (some a)))] ∧ f st post := by
  unfold sy_m0 at h
  split at h
  · rename_i b
    obtain ⟨rfl, h⟩ := h
    exact ⟨rfl, h⟩
  · exact h.elim
theorem sy_m0_r {a c : Nat} {f : sy_S → sy_R → Prop} (hc : sy_ob a = some c) (as : List sy_V) (st : sy_S) (post : sy_R) (h : sy_m0 a f as st post) : ∃ b as', as = .inr (.inr (some (some b))) :: as' ∧ sy_ob b = some c := by
  unfold sy_m0 at h
  split at h
  · obtain ⟨rfl, h⟩ := h
    exact ⟨_, _, rfl, hc⟩
  · exact h.elim
def sy_m1 (a : Nat) (f : Int → sy_S → sy_R → Prop) : sy_Sp := fun as st post => match as with
  | [.inr (.inr (some (some b))), .inl (_, x1)] => b = a ∧ f x1 st post
  | _ => False
theorem sy_m1_e {a : Nat} {f : Int → sy_S → sy_R → Prop} {as : List sy_V} {st : sy_S} {post : sy_R} {N : Nat} (h : sy_m1 a f as st post) (hok : ∀ v ∈ as, sy_ok N v ∧ sy_kn v = v ∧ sy_set v = true) : ∃ (x1 : Int), as = [.inr (.inr (some (some a))), .inl (true, x1)] ∧ sy_iR x1 ∧ f x1 st post := by
  unfold sy_m1 at h
  split at h
  · rename_i b b1 x1
    have e1 := hok (.inl (b1, x1)) (by simp)
    obtain ⟨o1, e1, -⟩ := e1
    injection e1 with e1; injection e1 with e1 _; subst e1
    obtain ⟨rfl, h⟩ := h
    exact ⟨x1, rfl, o1, h⟩
  · exact h.elim
theorem sy_m1_r {a c : Nat} {f : Int → sy_S → sy_R → Prop} (hc : sy_ob a = some c) (as : List sy_V) (st : sy_S) (post : sy_R) (h : sy_m1 a f as st post) : ∃ b as', as = .inr (.inr (some (some b))) :: as' ∧ sy_ob b = some c := by
  unfold sy_m1 at h
  split at h
  · obtain ⟨rfl, h⟩ := h
    exact ⟨_, _, rfl, hc⟩
  · exact h.elim
def sy_m2 (a : Nat) (f : Int → Int → sy_S → sy_R → Prop) : sy_Sp := fun as st post => match as with
  | [.inr (.inr (some (some b))), .inl (_, x1), .inl (_, x2)] => b = a ∧ f x1 x2 st post
  | _ => False
theorem sy_m2_e {a : Nat} {f : Int → Int → sy_S → sy_R → Prop} {as : List sy_V} {st : sy_S} {post : sy_R} {N : Nat} (h : sy_m2 a f as st post) (hok : ∀ v ∈ as, sy_ok N v ∧ sy_kn v = v ∧ sy_set v = true) : ∃ (x1 : Int) (x2 : Int), as = [.inr (.inr (some (some a))), .inl (true, x1), .inl (true, x2)] ∧ sy_iR x1 ∧ sy_iR x2 ∧ f x1 x2 st post := by
  unfold sy_m2 at h
  split at h
  · rename_i b b1 x1 b2 x2
    have e1 := hok (.inl (b1, x1)) (by simp)
    obtain ⟨o1, e1, -⟩ := e1
    injection e1 with e1; injection e1 with e1 _; subst e1
    have e2 := hok (.inl (b2, x2)) (by simp)
    obtain ⟨o2, e2, -⟩ := e2
    injection e2 with e2; injection e2 with e2 _; subst e2
    obtain ⟨rfl, h⟩ := h
    exact ⟨x1, x2, rfl, o1, o2, h⟩
  · exact h.elim
theorem sy_m2_r {a c : Nat} {f : Int → Int → sy_S → sy_R → Prop} (hc : sy_ob a = some c) (as : List sy_V) (st : sy_S) (post : sy_R) (h : sy_m2 a f as st post) : ∃ b as', as = .inr (.inr (some (some b))) :: as' ∧ sy_ob b = some c := by
  unfold sy_m2 at h
  split at h
  · obtain ⟨rfl, h⟩ := h
    exact ⟨_, _, rfl, hc⟩
  · exact h.elim
def sy_m3 (a : Nat) (f : Int → Int → Int → sy_S → sy_R → Prop) : sy_Sp := fun as st post => match as with
  | [.inr (.inr (some (some b))), .inl (_, x1), .inl (_, x2), .inl (_, x3)] => b = a ∧ f x1 x2 x3 st post
  | _ => False
theorem sy_m3_e {a : Nat} {f : Int → Int → Int → sy_S → sy_R → Prop} {as : List sy_V} {st : sy_S} {post : sy_R} {N : Nat} (h : sy_m3 a f as st post) (hok : ∀ v ∈ as, sy_ok N v ∧ sy_kn v = v ∧ sy_set v = true) : ∃ (x1 : Int) (x2 : Int) (x3 : Int), as = [.inr (.inr (some (some a))), .inl (true, x1), .inl (true, x2), .inl (true, x3)] ∧ sy_iR x1 ∧ sy_iR x2 ∧ sy_iR x3 ∧ f x1 x2 x3 st post := by
  unfold sy_m3 at h
  split at h
  · rename_i b b1 x1 b2 x2 b3 x3
    have e1 := hok (.inl (b1, x1)) (by simp)
    obtain ⟨o1, e1, -⟩ := e1
    injection e1 with e1; injection e1 with e1 _; subst e1
    have e2 := hok (.inl (b2, x2)) (by simp)
    obtain ⟨o2, e2, -⟩ := e2
    injection e2 with e2; injection e2 with e2 _; subst e2
    have e3 := hok (.inl (b3, x3)) (by simp)
    obtain ⟨o3, e3, -⟩ := e3
    injection e3 with e3; injection e3 with e3 _; subst e3
    obtain ⟨rfl, h⟩ := h
    exact ⟨x1, x2, x3, rfl, o1, o2, o3, h⟩
  · exact h.elim
theorem sy_m3_r {a c : Nat} {f : Int → Int → Int → sy_S → sy_R → Prop} (hc : sy_ob a = some c) (as : List sy_V) (st : sy_S) (post : sy_R) (h : sy_m3 a f as st post) : ∃ b as', as = .inr (.inr (some (some b))) :: as' ∧ sy_ob b = some c := by
  unfold sy_m3 at h
  split at h
  · obtain ⟨rfl, h⟩ := h
    exact ⟨_, _, rfl, hc⟩
  · exact h.elim
def sy_m4 (a : Nat) (f : Int → Int → Int → Int → sy_S → sy_R → Prop) : sy_Sp := fun as st post => match as with
  | [.inr (.inr (some (some b))), .inl (_, x1), .inl (_, x2), .inl (_, x3), .inl (_, x4)] => b = a ∧ f x1 x2 x3 x4 st post
  | _ => False
theorem sy_m4_e {a : Nat} {f : Int → Int → Int → Int → sy_S → sy_R → Prop} {as : List sy_V} {st : sy_S} {post : sy_R} {N : Nat} (h : sy_m4 a f as st post) (hok : ∀ v ∈ as, sy_ok N v ∧ sy_kn v = v ∧ sy_set v = true) : ∃ (x1 : Int) (x2 : Int) (x3 : Int) (x4 : Int), as = [.inr (.inr (some (some a))), .inl (true, x1), .inl (true, x2), .inl (true, x3), .inl (true, x4)] ∧ sy_iR x1 ∧ sy_iR x2 ∧ sy_iR x3 ∧ sy_iR x4 ∧ f x1 x2 x3 x4 st post := by
  unfold sy_m4 at h
  split at h
  · rename_i b b1 x1 b2 x2 b3 x3 b4 x4
    have e1 := hok (.inl (b1, x1)) (by simp)
    obtain ⟨o1, e1, -⟩ := e1
    injection e1 with e1; injection e1 with e1 _; subst e1
    have e2 := hok (.inl (b2, x2)) (by simp)
    obtain ⟨o2, e2, -⟩ := e2
    injection e2 with e2; injection e2 with e2 _; subst e2
    have e3 := hok (.inl (b3, x3)) (by simp)
    obtain ⟨o3, e3, -⟩ := e3
    injection e3 with e3; injection e3 with e3 _; subst e3
    have e4 := hok (.inl (b4, x4)) (by simp)
    obtain ⟨o4, e4, -⟩ := e4
    injection e4 with e4; injection e4 with e4 _; subst e4
    obtain ⟨rfl, h⟩ := h
    exact ⟨x1, x2, x3, x4, rfl, o1, o2, o3, o4, h⟩
  · exact h.elim
theorem sy_m4_r {a c : Nat} {f : Int → Int → Int → Int → sy_S → sy_R → Prop} (hc : sy_ob a = some c) (as : List sy_V) (st : sy_S) (post : sy_R) (h : sy_m4 a f as st post) : ∃ b as', as = .inr (.inr (some (some b))) :: as' ∧ sy_ob b = some c := by
  unfold sy_m4 at h
  split at h
  · obtain ⟨rfl, h⟩ := h
    exact ⟨_, _, rfl, hc⟩
  · exact h.elim
def sy_m5 (a : Nat) (f : Int → Int → Int → Int → Int → sy_S → sy_R → Prop) : sy_Sp := fun as st post => match as with
  | [.inr (.inr (some (some b))), .inl (_, x1), .inl (_, x2), .inl (_, x3), .inl (_, x4), .inl (_, x5)] => b = a ∧ f x1 x2 x3 x4 x5 st post
  | _ => False
theorem sy_m5_e {a : Nat} {f : Int → Int → Int → Int → Int → sy_S → sy_R → Prop} {as : List sy_V} {st : sy_S} {post : sy_R} {N : Nat} (h : sy_m5 a f as st post) (hok : ∀ v ∈ as, sy_ok N v ∧ sy_kn v = v ∧ sy_set v = true) : ∃ (x1 : Int) (x2 : Int) (x3 : Int) (x4 : Int) (x5 : Int), as = [.inr (.inr (some (some a))), .inl (true, x1), .inl (true, x2), .inl (true, x3), .inl (true, x4), .inl (true, x5)] ∧ sy_iR x1 ∧ sy_iR x2 ∧ sy_iR x3 ∧ sy_iR x4 ∧ sy_iR x5 ∧ f x1 x2 x3 x4 x5 st post := by
  unfold sy_m5 at h
  split at h
  · rename_i b b1 x1 b2 x2 b3 x3 b4 x4 b5 x5
    have e1 := hok (.inl (b1, x1)) (by simp)
    obtain ⟨o1, e1, -⟩ := e1
    injection e1 with e1; injection e1 with e1 _; subst e1
    have e2 := hok (.inl (b2, x2)) (by simp)
    obtain ⟨o2, e2, -⟩ := e2
    injection e2 with e2; injection e2 with e2 _; subst e2
    have e3 := hok (.inl (b3, x3)) (by simp)
    obtain ⟨o3, e3, -⟩ := e3
    injection e3 with e3; injection e3 with e3 _; subst e3
    have e4 := hok (.inl (b4, x4)) (by simp)
    obtain ⟨o4, e4, -⟩ := e4
    injection e4 with e4; injection e4 with e4 _; subst e4
    have e5 := hok (.inl (b5, x5)) (by simp)
    obtain ⟨o5, e5, -⟩ := e5
    injection e5 with e5; injection e5 with e5 _; subst e5
    obtain ⟨rfl, h⟩ := h
    exact ⟨x1, x2, x3, x4, x5, rfl, o1, o2, o3, o4, o5, h⟩
  · exact h.elim
theorem sy_m5_r {a c : Nat} {f : Int → Int → Int → Int → Int → sy_S → sy_R → Prop} (hc : sy_ob a = some c) (as : List sy_V) (st : sy_S) (post : sy_R) (h : sy_m5 a f as st post) : ∃ b as', as = .inr (.inr (some (some b))) :: as' ∧ sy_ob b = some c := by
  unfold sy_m5 at h
  split at h
  · obtain ⟨rfl, h⟩ := h
    exact ⟨_, _, rfl, hc⟩
  · exact h.elim
def sy_m6 (a : Nat) (f : Int → Int → Int → Int → Int → Int → sy_S → sy_R → Prop) : sy_Sp := fun as st post => match as with
  | [.inr (.inr (some (some b))), .inl (_, x1), .inl (_, x2), .inl (_, x3), .inl (_, x4), .inl (_, x5), .inl (_, x6)] => b = a ∧ f x1 x2 x3 x4 x5 x6 st post
  | _ => False
theorem sy_m6_e {a : Nat} {f : Int → Int → Int → Int → Int → Int → sy_S → sy_R → Prop} {as : List sy_V} {st : sy_S} {post : sy_R} {N : Nat} (h : sy_m6 a f as st post) (hok : ∀ v ∈ as, sy_ok N v ∧ sy_kn v = v ∧ sy_set v = true) : ∃ (x1 : Int) (x2 : Int) (x3 : Int) (x4 : Int) (x5 : Int) (x6 : Int), as = [.inr (.inr (some (some a))), .inl (true, x1), .inl (true, x2), .inl (true, x3), .inl (true, x4), .inl (true, x5), .inl (true, x6)] ∧ sy_iR x1 ∧ sy_iR x2 ∧ sy_iR x3 ∧ sy_iR x4 ∧ sy_iR x5 ∧ sy_iR x6 ∧ f x1 x2 x3 x4 x5 x6 st post := by
  unfold sy_m6 at h
  split at h
  · rename_i b b1 x1 b2 x2 b3 x3 b4 x4 b5 x5 b6 x6
    have e1 := hok (.inl (b1, x1)) (by simp)
    obtain ⟨o1, e1, -⟩ := e1
    injection e1 with e1; injection e1 with e1 _; subst e1
    have e2 := hok (.inl (b2, x2)) (by simp)
    obtain ⟨o2, e2, -⟩ := e2
    injection e2 with e2; injection e2 with e2 _; subst e2
    have e3 := hok (.inl (b3, x3)) (by simp)
    obtain ⟨o3, e3, -⟩ := e3
    injection e3 with e3; injection e3 with e3 _; subst e3
    have e4 := hok (.inl (b4, x4)) (by simp)
    obtain ⟨o4, e4, -⟩ := e4
    injection e4 with e4; injection e4 with e4 _; subst e4
    have e5 := hok (.inl (b5, x5)) (by simp)
    obtain ⟨o5, e5, -⟩ := e5
    injection e5 with e5; injection e5 with e5 _; subst e5
    have e6 := hok (.inl (b6, x6)) (by simp)
    obtain ⟨o6, e6, -⟩ := e6
    injection e6 with e6; injection e6 with e6 _; subst e6
    obtain ⟨rfl, h⟩ := h
    exact ⟨x1, x2, x3, x4, x5, x6, rfl, o1, o2, o3, o4, o5, o6, h⟩
  · exact h.elim
theorem sy_m6_r {a c : Nat} {f : Int → Int → Int → Int → Int → Int → sy_S → sy_R → Prop} (hc : sy_ob a = some c) (as : List sy_V) (st : sy_S) (post : sy_R) (h : sy_m6 a f as st post) : ∃ b as', as = .inr (.inr (some (some b))) :: as' ∧ sy_ob b = some c := by
  unfold sy_m6 at h
  split at h
  · obtain ⟨rfl, h⟩ := h
    exact ⟨_, _, rfl, hc⟩
  · exact h.elim
def sy_k0 (ns : Nat) (f : Nat → sy_S → sy_R → Prop) : sy_Sp := fun as st post => match as with
  | [.inr (.inr (some (some b)))] => ∃ i, i < ns ∧ b = sy_nS i ∧ f i st post
  | _ => False
theorem sy_k0_e {ns : Nat} {f : Nat → sy_S → sy_R → Prop} {as : List sy_V} {st : sy_S} {post : sy_R} {N : Nat} (h : sy_k0 ns f as st post) (hok : ∀ v ∈ as, sy_ok N v ∧ sy_kn v = v ∧ sy_set v = true) : ∃ i, as = [.inr (.inr (some (some (sy_nS i))))] ∧ i < ns ∧ f i st post := by
  unfold sy_k0 at h
  split at h
  · rename_i b
    obtain ⟨i, hi, rfl, h⟩ := h
    exact ⟨i, rfl, hi, h⟩
  · exact h.elim
theorem sy_k0_r {ns : Nat} {f : Nat → sy_S → sy_R → Prop} (as : List sy_V) (st : sy_S) (post : sy_R) (h : sy_k0 ns f as st post) : ∃ b as', as = .inr (.inr (some (some b))) :: as' ∧ sy_ob b = some 6 := by
  unfold sy_k0 at h
  split at h
  · obtain ⟨i, hi, rfl, h⟩ := h
    exact ⟨_, _, rfl, sy_ob_S i⟩
  · exact h.elim
def sy_k1 (ns : Nat) (f : Nat → Int → sy_S → sy_R → Prop) : sy_Sp := fun as st post => match as with
  | [.inr (.inr (some (some b))), .inl (_, x1)] => ∃ i, i < ns ∧ b = sy_nS i ∧ f i x1 st post
  | _ => False
theorem sy_k1_e {ns : Nat} {f : Nat → Int → sy_S → sy_R → Prop} {as : List sy_V} {st : sy_S} {post : sy_R} {N : Nat} (h : sy_k1 ns f as st post) (hok : ∀ v ∈ as, sy_ok N v ∧ sy_kn v = v ∧ sy_set v = true) : ∃ i, ∃ (x1 : Int), as = [.inr (.inr (some (some (sy_nS i)))), .inl (true, x1)] ∧ i < ns ∧ sy_iR x1 ∧ f i x1 st post := by
  unfold sy_k1 at h
  split at h
  · rename_i b b1 x1
    have e1 := hok (.inl (b1, x1)) (by simp)
    obtain ⟨o1, e1, -⟩ := e1
    injection e1 with e1; injection e1 with e1 _; subst e1
    obtain ⟨i, hi, rfl, h⟩ := h
    exact ⟨i, x1, rfl, hi, o1, h⟩
  · exact h.elim
theorem sy_k1_r {ns : Nat} {f : Nat → Int → sy_S → sy_R → Prop} (as : List sy_V) (st : sy_S) (post : sy_R) (h : sy_k1 ns f as st post) : ∃ b as', as = .inr (.inr (some (some b))) :: as' ∧ sy_ob b = some 6 := by
  unfold sy_k1 at h
  split at h
  · obtain ⟨i, hi, rfl, h⟩ := h
    exact ⟨_, _, rfl, sy_ob_S i⟩
  · exact h.elim
def sy_k2 (ns : Nat) (f : Nat → Int → Int → sy_S → sy_R → Prop) : sy_Sp := fun as st post => match as with
  | [.inr (.inr (some (some b))), .inl (_, x1), .inl (_, x2)] => ∃ i, i < ns ∧ b = sy_nS i ∧ f i x1 x2 st post
  | _ => False
theorem sy_k2_e {ns : Nat} {f : Nat → Int → Int → sy_S → sy_R → Prop} {as : List sy_V} {st : sy_S} {post : sy_R} {N : Nat} (h : sy_k2 ns f as st post) (hok : ∀ v ∈ as, sy_ok N v ∧ sy_kn v = v ∧ sy_set v = true) : ∃ i, ∃ (x1 : Int) (x2 : Int), as = [.inr (.inr (some (some (sy_nS i)))), .inl (true, x1), .inl (true, x2)] ∧ i < ns ∧ sy_iR x1 ∧ sy_iR x2 ∧ f i x1 x2 st post := by
  unfold sy_k2 at h
  split at h
  · rename_i b b1 x1 b2 x2
    have e1 := hok (.inl (b1, x1)) (by simp)
    obtain ⟨o1, e1, -⟩ := e1
    injection e1 with e1; injection e1 with e1 _; subst e1
    have e2 := hok (.inl (b2, x2)) (by simp)
    obtain ⟨o2, e2, -⟩ := e2
    injection e2 with e2; injection e2 with e2 _; subst e2
    obtain ⟨i, hi, rfl, h⟩ := h
    exact ⟨i, x1, x2, rfl, hi, o1, o2, h⟩
  · exact h.elim
theorem sy_k2_r {ns : Nat} {f : Nat → Int → Int → sy_S → sy_R → Prop} (as : List sy_V) (st : sy_S) (post : sy_R) (h : sy_k2 ns f as st post) : ∃ b as', as = .inr (.inr (some (some b))) :: as' ∧ sy_ob b = some 6 := by
  unfold sy_k2 at h
  split at h
  · obtain ⟨i, hi, rfl, h⟩ := h
    exact ⟨_, _, rfl, sy_ob_S i⟩
  · exact h.elim
def sy_k3 (ns : Nat) (f : Nat → Int → Int → Int → sy_S → sy_R → Prop) : sy_Sp := fun as st post => match as with
  | [.inr (.inr (some (some b))), .inl (_, x1), .inl (_, x2), .inl (_, x3)] => ∃ i, i < ns ∧ b = sy_nS i ∧ f i x1 x2 x3 st post
  | _ => False
theorem sy_k3_e {ns : Nat} {f : Nat → Int → Int → Int → sy_S → sy_R → Prop} {as : List sy_V} {st : sy_S} {post : sy_R} {N : Nat} (h : sy_k3 ns f as st post) (hok : ∀ v ∈ as, sy_ok N v ∧ sy_kn v = v ∧ sy_set v = true) : ∃ i, ∃ (x1 : Int) (x2 : Int) (x3 : Int), as = [.inr (.inr (some (some (sy_nS i)))), .inl (true, x1), .inl (true, x2), .inl (true, x3)] ∧ i < ns ∧ sy_iR x1 ∧ sy_iR x2 ∧ sy_iR x3 ∧ f i x1 x2 x3 st post := by
  unfold sy_k3 at h
  split at h
  · rename_i b b1 x1 b2 x2 b3 x3
    have e1 := hok (.inl (b1, x1)) (by simp)
    obtain ⟨o1, e1, -⟩ := e1
    injection e1 with e1; injection e1 with e1 _; subst e1
    have e2 := hok (.inl (b2, x2)) (by simp)
    obtain ⟨o2, e2, -⟩ := e2
    injection e2 with e2; injection e2 with e2 _; subst e2
    have e3 := hok (.inl (b3, x3)) (by simp)
    obtain ⟨o3, e3, -⟩ := e3
    injection e3 with e3; injection e3 with e3 _; subst e3
    obtain ⟨i, hi, rfl, h⟩ := h
    exact ⟨i, x1, x2, x3, rfl, hi, o1, o2, o3, h⟩
  · exact h.elim
theorem sy_k3_r {ns : Nat} {f : Nat → Int → Int → Int → sy_S → sy_R → Prop} (as : List sy_V) (st : sy_S) (post : sy_R) (h : sy_k3 ns f as st post) : ∃ b as', as = .inr (.inr (some (some b))) :: as' ∧ sy_ob b = some 6 := by
  unfold sy_k3 at h
  split at h
  · obtain ⟨i, hi, rfl, h⟩ := h
    exact ⟨_, _, rfl, sy_ob_S i⟩
  · exact h.elim
def sy_k4 (ns : Nat) (f : Nat → Int → Int → Int → Int → sy_S → sy_R → Prop) : sy_Sp := fun as st post => match as with
  | [.inr (.inr (some (some b))), .inl (_, x1), .inl (_, x2), .inl (_, x3), .inl (_, x4)] => ∃ i, i < ns ∧ b = sy_nS i ∧ f i x1 x2 x3 x4 st post
  | _ => False
theorem sy_k4_e {ns : Nat} {f : Nat → Int → Int → Int → Int → sy_S → sy_R → Prop} {as : List sy_V} {st : sy_S} {post : sy_R} {N : Nat} (h : sy_k4 ns f as st post) (hok : ∀ v ∈ as, sy_ok N v ∧ sy_kn v = v ∧ sy_set v = true) : ∃ i, ∃ (x1 : Int) (x2 : Int) (x3 : Int) (x4 : Int), as = [.inr (.inr (some (some (sy_nS i)))), .inl (true, x1), .inl (true, x2), .inl (true, x3), .inl (true, x4)] ∧ i < ns ∧ sy_iR x1 ∧ sy_iR x2 ∧ sy_iR x3 ∧ sy_iR x4 ∧ f i x1 x2 x3 x4 st post := by
  unfold sy_k4 at h
  split at h
  · rename_i b b1 x1 b2 x2 b3 x3 b4 x4
    have e1 := hok (.inl (b1, x1)) (by simp)
    obtain ⟨o1, e1, -⟩ := e1
    injection e1 with e1; injection e1 with e1 _; subst e1
    have e2 := hok (.inl (b2, x2)) (by simp)
    obtain ⟨o2, e2, -⟩ := e2
    injection e2 with e2; injection e2 with e2 _; subst e2
    have e3 := hok (.inl (b3, x3)) (by simp)
    obtain ⟨o3, e3, -⟩ := e3
    injection e3 with e3; injection e3 with e3 _; subst e3
    have e4 := hok (.inl (b4, x4)) (by simp)
    obtain ⟨o4, e4, -⟩ := e4
    injection e4 with e4; injection e4 with e4 _; subst e4
    obtain ⟨i, hi, rfl, h⟩ := h
    exact ⟨i, x1, x2, x3, x4, rfl, hi, o1, o2, o3, o4, h⟩
  · exact h.elim
theorem sy_k4_r {ns : Nat} {f : Nat → Int → Int → Int → Int → sy_S → sy_R → Prop} (as : List sy_V) (st : sy_S) (post : sy_R) (h : sy_k4 ns f as st post) : ∃ b as', as = .inr (.inr (some (some b))) :: as' ∧ sy_ob b = some 6 := by
  unfold sy_k4 at h
  split at h
  · obtain ⟨i, hi, rfl, h⟩ := h
    exact ⟨_, _, rfl, sy_ob_S i⟩
  · exact h.elim
def sy_k5 (ns : Nat) (f : Nat → Int → Int → Int → Int → Int → sy_S → sy_R → Prop) : sy_Sp := fun as st post => match as with
  | [.inr (.inr (some (some b))), .inl (_, x1), .inl (_, x2), .inl (_, x3), .inl (_, x4), .inl (_, x5)] => ∃ i, i < ns ∧ b = sy_nS i ∧ f i x1 x2 x3 x4 x5 st post
  | _ => False
theorem sy_k5_e {ns : Nat} {f : Nat → Int → Int → Int → Int → Int → sy_S → sy_R → Prop} {as : List sy_V} {st : sy_S} {post : sy_R} {N : Nat} (h : sy_k5 ns f as st post) (hok : ∀ v ∈ as, sy_ok N v ∧ sy_kn v = v ∧ sy_set v = true) : ∃ i, ∃ (x1 : Int) (x2 : Int) (x3 : Int) (x4 : Int) (x5 : Int), as = [.inr (.inr (some (some (sy_nS i)))), .inl (true, x1), .inl (true, x2), .inl (true, x3), .inl (true, x4), .inl (true, x5)] ∧ i < ns ∧ sy_iR x1 ∧ sy_iR x2 ∧ sy_iR x3 ∧ sy_iR x4 ∧ sy_iR x5 ∧ f i x1 x2 x3 x4 x5 st post := by
  unfold sy_k5 at h
  split at h
  · rename_i b b1 x1 b2 x2 b3 x3 b4 x4 b5 x5
    have e1 := hok (.inl (b1, x1)) (by simp)
    obtain ⟨o1, e1, -⟩ := e1
    injection e1 with e1; injection e1 with e1 _; subst e1
    have e2 := hok (.inl (b2, x2)) (by simp)
    obtain ⟨o2, e2, -⟩ := e2
    injection e2 with e2; injection e2 with e2 _; subst e2
    have e3 := hok (.inl (b3, x3)) (by simp)
    obtain ⟨o3, e3, -⟩ := e3
    injection e3 with e3; injection e3 with e3 _; subst e3
    have e4 := hok (.inl (b4, x4)) (by simp)
    obtain ⟨o4, e4, -⟩ := e4
    injection e4 with e4; injection e4 with e4 _; subst e4
    have e5 := hok (.inl (b5, x5)) (by simp)
    obtain ⟨o5, e5, -⟩ := e5
    injection e5 with e5; injection e5 with e5 _; subst e5
    obtain ⟨i, hi, rfl, h⟩ := h
    exact ⟨i, x1, x2, x3, x4, x5, rfl, hi, o1, o2, o3, o4, o5, h⟩
  · exact h.elim
theorem sy_k5_r {ns : Nat} {f : Nat → Int → Int → Int → Int → Int → sy_S → sy_R → Prop} (as : List sy_V) (st : sy_S) (post : sy_R) (h : sy_k5 ns f as st post) : ∃ b as', as = .inr (.inr (some (some b))) :: as' ∧ sy_ob b = some 6 := by
  unfold sy_k5 at h
  split at h
  · obtain ⟨i, hi, rfl, h⟩ := h
    exact ⟨_, _, rfl, sy_ob_S i⟩
  · exact h.elim
def sy_k6 (ns : Nat) (f : Nat → Int → Int → Int → Int → Int → Int → sy_S → sy_R → Prop) : sy_Sp := fun as st post => match as with
  | [.inr (.inr (some (some b))), .inl (_, x1), .inl (_, x2), .inl (_, x3), .inl (_, x4), .inl (_, x5), .inl (_, x6)] => ∃ i, i < ns ∧ b = sy_nS i ∧ f i x1 x2 x3 x4 x5 x6 st post
  | _ => False
theorem sy_k6_e {ns : Nat} {f : Nat → Int → Int → Int → Int → Int → Int → sy_S → sy_R → Prop} {as : List sy_V} {st : sy_S} {post : sy_R} {N : Nat} (h : sy_k6 ns f as st post) (hok : ∀ v ∈ as, sy_ok N v ∧ sy_kn v = v ∧ sy_set v = true) : ∃ i, ∃ (x1 : Int) (x2 : Int) (x3 : Int) (x4 : Int) (x5 : Int) (x6 : Int), as = [.inr (.inr (some (some (sy_nS i)))), .inl (true, x1), .inl (true, x2), .inl (true, x3), .inl (true, x4), .inl (true, x5), .inl (true, x6)] ∧ i < ns ∧ sy_iR x1 ∧ sy_iR x2 ∧ sy_iR x3 ∧ sy_iR x4 ∧ sy_iR x5 ∧ sy_iR x6 ∧ f i x1 x2 x3 x4 x5 x6 st post := by
  unfold sy_k6 at h
  split at h
  · rename_i b b1 x1 b2 x2 b3 x3 b4 x4 b5 x5 b6 x6
    have e1 := hok (.inl (b1, x1)) (by simp)
    obtain ⟨o1, e1, -⟩ := e1
    injection e1 with e1; injection e1 with e1 _; subst e1
    have e2 := hok (.inl (b2, x2)) (by simp)
    obtain ⟨o2, e2, -⟩ := e2
    injection e2 with e2; injection e2 with e2 _; subst e2
    have e3 := hok (.inl (b3, x3)) (by simp)
    obtain ⟨o3, e3, -⟩ := e3
    injection e3 with e3; injection e3 with e3 _; subst e3
    have e4 := hok (.inl (b4, x4)) (by simp)
    obtain ⟨o4, e4, -⟩ := e4
    injection e4 with e4; injection e4 with e4 _; subst e4
    have e5 := hok (.inl (b5, x5)) (by simp)
    obtain ⟨o5, e5, -⟩ := e5
    injection e5 with e5; injection e5 with e5 _; subst e5
    have e6 := hok (.inl (b6, x6)) (by simp)
    obtain ⟨o6, e6, -⟩ := e6
    injection e6 with e6; injection e6 with e6 _; subst e6
    obtain ⟨i, hi, rfl, h⟩ := h
    exact ⟨i, x1, x2, x3, x4, x5, x6, rfl, hi, o1, o2, o3, o4, o5, o6, h⟩
  · exact h.elim
theorem sy_k6_r {ns : Nat} {f : Nat → Int → Int → Int → Int → Int → Int → sy_S → sy_R → Prop} (as : List sy_V) (st : sy_S) (post : sy_R) (h : sy_k6 ns f as st post) : ∃ b as', as = .inr (.inr (some (some b))) :: as' ∧ sy_ob b = some 6 := by
  unfold sy_k6 at h
  split at h
  · obtain ⟨i, hi, rfl, h⟩ := h
    exact ⟨_, _, rfl, sy_ob_S i⟩
  · exact h.elim
