/-! ONE STEP IS SOUND -/
def sy_len (i : Instr) : Nat := match i with
  | .bipush _ => 2 | .ldc _ => 2 | .iload _ => 2 | .lload _ => 2 | .aload _ => 2 | .istore _ => 2 | .lstore _ => 2 | .astore _ => 2
  | .sipush _ => 3 | .ldc_w _ => 3 | .ldc2_w _ => 3 | .iinc _ _ => 3 | .goto _ => 3 | .if_icmp _ _ => 3 | .ifCond _ _ => 3 | .ifnull _ => 3 | .ifnonnull _ => 3 | .getfield _ => 3 | .putfield _ => 3 | .invokevirtual _ => 3 | .invokestatic _ => 3
  | _ => 1
def sy_jmp (i : Instr) : Option Int := match i with
  | .goto o => some o | .if_icmp _ o => some o | .ifCond _ o => some o | .ifnull o => some o | .ifnonnull o => some o | .tableswitch d _ _ _ => some d
  | _ => none
def sy_isT (i : Instr) : Bool := match i with
  | .tableswitch _ _ _ _ => true
  | _ => false
def sy_sml (i : Instr) : Bool := match i with
  | .iconst z => decide (-128 ≤ z ∧ z < 128) | .bipush z => decide (-128 ≤ z ∧ z < 128) | .sipush z => decide (-32768 ≤ z ∧ z < 32768)
  | _ => true
def sy_rty (rt : Option FieldType) (bl : Bool) (i : Instr) : Bool := match i with
  | .ireturn => decide (rt = some (match bl with
    | true => .boolean
    | false => .int))
  | .lreturn => decide (rt = some .long)
  | .areturn => match rt with
    | some (.object _) => true
    | _ => false
  | .return_ => decide (rt = none)
  | _ => true
def sy_swk (pc : Nat) (i : Instr) : Bool := match i with
  | .tableswitch _ lo hi os => decide (hi - lo + 1 = os.toList.length) && os.toList.all (fun o => decide (0 ≤ (pc : Int) + o))
  | _ => true
/-- an entry of a method's table is what the bytes say -/
def sy_chk (cc : ByteArray) (rt : Option FieldType) (bl : Bool) (pc : Nat) (i : sy_I) : Bool :=
  (if sy_isT i.1 then decide (decode cc pc = .ok (i.1, i.2.1 - pc)) else decide (decode cc pc = .ok (i.1, sy_len i.1)) && decide (i.2.1 = pc + sy_len i.1)) &&
  ((match sy_jmp i.1 with
    | some o => decide ((pc : Int) + o = i.2.2)
    | none => true) && (sy_sml i.1 && (sy_rty rt bl i.1 && sy_swk pc i.1)))
theorem sy_chk_e {cc : ByteArray} {rt : Option FieldType} {bl : Bool} {pc nxt tgt : Nat} {i : Instr} (h : sy_chk cc rt bl pc (i, nxt, tgt) = true) (ht : sy_isT i = false) : decode cc pc = .ok (i, sy_len i) ∧ nxt = pc + sy_len i := by
  simp only [sy_chk, ht, Bool.false_eq_true, if_false, Bool.and_eq_true, decide_eq_true_eq] at h
  exact h.1
theorem sy_chk_j {cc : ByteArray} {rt : Option FieldType} {bl : Bool} {pc nxt tgt : Nat} {i : Instr} {o : Int} (h : sy_chk cc rt bl pc (i, nxt, tgt) = true) (hj : sy_jmp i = some o) : (pc : Int) + o = tgt := by
  simp only [sy_chk, hj, Bool.and_eq_true, decide_eq_true_eq] at h
  exact h.2.1
theorem sy_chk_s {cc : ByteArray} {rt : Option FieldType} {bl : Bool} {pc nxt tgt : Nat} {i : Instr} (h : sy_chk cc rt bl pc (i, nxt, tgt) = true) : sy_sml i = true ∧ sy_rty rt bl i = true ∧ sy_swk pc i = true := by
  simp only [sy_chk, Bool.and_eq_true] at h
  exact h.2.2
theorem sy_chk_t {cc : ByteArray} {rt : Option FieldType} {bl : Bool} {pc nxt tgt : Nat} {i : Instr} (h : sy_chk cc rt bl pc (i, nxt, tgt) = true) (ht : sy_isT i = true) : decode cc pc = .ok (i, nxt - pc) := by
  simp only [sy_chk, ht, if_true, Bool.and_eq_true, decide_eq_true_eq] at h
  exact h.1
/-- the classes' words -/
def sy_clk (C : String) (T : u_T) (N : Nat) : Prop := (∀ w ∈ u_ws C T N, w ∈ sy_tb) ∧ (∃ ty : Nat → FieldType, ∀ k, k < N → parseFieldDescriptor (T k).2.2.1 = some (ty k)) ∧ (∀ a, a < N → ∀ b, b < N → a ≠ b → (T a).2.1 ≠ (T b).2.1)
theorem sy_cl_ok : ∀ (c : Nat) (q : vw_C), sy_cl[c]? = some q → sy_clk q.1 q.2.1 q.2.2 ∧ q.2.2 = sy_nf c := by
  intro c q h
  match c, h with
  | 0, h => cases h; exact ⟨⟨i_0, ⟨t_0, t_0_ok⟩, n_0⟩, rfl⟩
  | 1, h => cases h; exact ⟨⟨i_1, ⟨t_1, t_1_ok⟩, n_1⟩, rfl⟩
  | 2, h => cases h; exact ⟨⟨i_2, ⟨t_2, t_2_ok⟩, n_2⟩, rfl⟩
  | 3, h => cases h; exact ⟨⟨i_3, ⟨t_3, t_3_ok⟩, n_3⟩, rfl⟩
  | 4, h => cases h; exact ⟨⟨i_4, ⟨t_4, t_4_ok⟩, n_4⟩, rfl⟩
  | 5, h => cases h; exact ⟨⟨i_5, ⟨t_5, t_5_ok⟩, n_5⟩, rfl⟩
  | 6, h => cases h; exact ⟨⟨i_6, ⟨t_6, t_6_ok⟩, n_6⟩, rfl⟩
  | 7, h => cases h; exact ⟨⟨i_7, ⟨t_7, t_7_ok⟩, n_7⟩, rfl⟩
  | 8, h => cases h; exact ⟨⟨i_8, ⟨t_8, t_8_ok⟩, n_8⟩, rfl⟩
  | 9, h => cases h; exact ⟨⟨i_9, ⟨t_9, t_9_ok⟩, n_9⟩, rfl⟩
  | c + 10, h => simp [sy_cl] at h
/-- a field's entry: its link stands in the tables -/
def sy_fldk (own : String) (q c j : Nat) : Prop := ∃ (C : String) (T : u_T) (N : Nat), sy_cl[c]? = some (C, T, N) ∧ j < N ∧ Cond.fieldLink own q (T j).1 (T j).2.1 (T j).2.2.1 ∈ sy_tb
theorem sy_pt_ok : ∀ (c j : Nat) (t : Bool), sy_pt c j = some t → ∃ (C : String) (T : u_T) (N : Nat), sy_cl[c]? = some (C, T, N) ∧ (T j).2.2.2 = false ∧ parseFieldDescriptor (T j).2.2.1 = some (match t with
    | true => .boolean
    | false => .int) := by
  intro c j t h
  unfold sy_pt at h
  split at h <;> (first | (cases h; refine ⟨_, _, _, rfl, ?_, ?_⟩ <;> first | rfl | decide +kernel) | cases h)
theorem sy_pt_19 : ∀ (c j : Nat) (t : Bool), sy_pt c j = some t → j < 19 := by
  intro c j t h
  unfold sy_pt at h
  split at h <;> first | omega | cases h
theorem sy_pt_tab : ∀ a, a < 37 → ∀ j, j < 19 → (match sy_ob a with
    | some c => match sy_pt c j with
      | some _ => decide (sy_rf a j = none)
      | none => true
    | none => true) = true := by decide +kernel
theorem sy_ob_hi {a c : Nat} (h : 37 ≤ a) (ho : sy_ob a = some c) : c = 6 := by
  unfold sy_ob at ho
  split at ho <;> first | omega | (split at ho <;> cases ho; rfl)
theorem sy_rf_hi {a j : Nat} (h : 37 ≤ a) (hj : j ≠ 2) : sy_rf a j = none := by
  unfold sy_rf
  split <;> first | omega | rfl
theorem sy_pt_rf (a c j : Nat) (t : Bool) (ho : sy_ob a = some c) (hp : sy_pt c j = some t) : sy_rf a j = none := by
  by_cases h : a < 37
  · have := sy_pt_tab a h j (sy_pt_19 c j t hp)
    rw [ho] at this
    simp only [hp, decide_eq_true_eq] at this
    exact this
  · have hc := sy_ob_hi (by omega) ho
    subst hc
    refine sy_rf_hi (by omega) (fun q => ?_)
    subst q
    cases hp
def sy_CX (p : Program) (s : State) (m : MethodId) (args : Array Value) (meth : Method) (c : Code) (cc : ByteArray) (own : String) (nL : Nat) (rt : Option FieldType) (wd : sy_D) : Prop :=
  p.tables.exec = Jvm.exec ∧ c.code = cc ∧ c.maxLocals = nL ∧ s.vm.findClass own = some m.cls ∧ (∀ w ∈ sy_tb, w.before args s = true) ∧ meth.sig.returnType = rt ∧ meth.locks = false ∧ sy_KK wd s
def sy_Qc (wd : sy_D) (ad : Nat → Nat) (ns : Nat) (A : Nat → Prop) (post : sy_R) : Array Value → State → Outcome → State → Prop := fun _ st oc t =>
  ∃ (r : Option sy_V) (st' : sy_S), oc = .returned (r.map (sy_cv ad)) ∧ post r st' ∧ (∀ v ∈ r.toList, sy_ok (37 + 2 * ns) v) ∧ sy_WO wd ad ns st' A t.heap ∧ va_F A st t
