/-! WHAT MAKES OBJECTS: over the kit's own rows -/
abbrev sk_ty (wd : sy_D) : List (ClassId × FieldType) := [(wd.2.1, .int), (wd.2.2.1, .long), (wd.2.2.2, .object R_6)]
def sk_N : List Cond := [.methodLinkNest "StarHide" 9 ⟨"StarHide$Sites", "<init>", "()V"⟩ "StarHide", .methodLinkNest "StarHide$Search" 23 ⟨"StarHide$Clocks", "<init>", "()V"⟩ "StarHide"]
def sk_K (wd : sy_D) (U : State) : Prop := va_K wd.1 sy_cl (sk_ty wd) U ∧ va_AO R_6 U ∧ ∀ w ∈ sk_N, va_Nw w U
theorem sk_N_on : ∀ w ∈ sk_N, w.onTables = true := by decide +kernel
theorem sk_K_same {wd : sy_D} {u U : State} (h : u.vm = U.vm) (hK : sk_K wd u) : sk_K wd U := ⟨va_K.moved (by rw [h]; exact Vm.Alike.refl _) hK.1, va_AO.moved (by rw [h]; exact Vm.Alike.refl _) hK.2.1, fun w hw => va_Nw.same (sk_N_on w hw) h (hK.2.2 w hw)⟩
theorem sk_K_warm {wd : sy_D} {u U : State} (hW : u.WarmedH U.vm) (hK : sk_K wd u) : sk_K wd U := by
  refine ⟨va_K.moved hW.alike hK.1, va_AO.moved hW.alike hK.2.1, fun w hw => ?_⟩
  have h := hK.2.2 w hw
  simp only [sk_N, List.mem_cons, List.not_mem_nil, or_false] at hw
  rcases hw with rfl | rfl
  all_goals exact va_Nw.warmM hW h
/-- the start of a maker, and its end: the world has grown from w0 to w1 -/
def sk_pc (wd : sy_D) (As : List Value) (w0 : va_W) (sz : Nat) : Array Value → State → Prop := va_Pc As (fun U => U.heap.size = sz ∧ va_P wd.1 sy_cl w0 U.heap ∧ sk_K wd U ∧ va_D (fun _ => True) w0)
def sk_qc (wd : sy_D) (w0 : va_W) (w1 : (Nat → Nat) → va_W) (sz : Nat) : Array Value → State → Outcome → State → Prop := va_Qv (fun _ : Nat → Nat => True) (fun u t => va_P wd.1 sy_cl (w1 u) t.heap ∧ va_D (va_A w0 sz) (w1 u)) (va_A w0 sz)
def sk_Met (l : Launch) (y : MethodName) (cc : ByteArray) (nL : Nat) (rm : Room) (wd : sy_D) (As : List Value) (w0 : va_W) (w1 : (Nat → Nat) → va_W) : Prop := ∀ sz, Met l y (.code y cc nL none :: sy_tb) rm (sk_pc wd As w0 sz) (sk_qc wd w0 w1 sz) rm.cells rm.slots (va_A w0 sz)
theorem sk_blind {wd : sy_D} {As : List Value} {w0 : va_W} {sz : Nat} : FrameBlind (sk_pc wd As w0 sz) := by
  intro a U g mk q
  obtain ⟨q0, q1, q2, q3, q4⟩ := q
  exact ⟨q0, q1, q2, sk_K_same (u := U) (U := U.calling g mk a) rfl q3, q4⟩
def sk_X (p : Program) (s : State) (m : MethodId) (args : Array Value) (meth : Method) (c : Code) (cc : ByteArray) (y : MethodName) (nL : Nat) (wd : sy_D) : Prop := p.tables.exec = Jvm.exec ∧ c.code = cc ∧ c.maxLocals = nL ∧ s.vm.findClass y.cls = some m.cls ∧ (∀ w ∈ sy_tb, w.before args s = true) ∧ meth.sig.returnType = none ∧ meth.name = y.name ∧ meth.locks = false ∧ sk_K wd s
theorem sk_of {l : Launch} {y : MethodName} {cc : ByteArray} {nL : Nat} {rm : Room} {wd : sy_D} {As : List Value} {w0 : va_W} {w1 : (Nat → Nat) → va_W} (hy : plainFor y = true) (hn : (lg_sl As).length ≤ nL)
    (body : ∀ (p : Program) (e : Env) (s : State) (m : MethodId) (below : List Frame) (meth : Method) (c : Code) (ls : Array Slot) (A : Nat → Prop), A = va_A w0 s.heap.size → sk_X p s m As.toArray meth c cc y nL wd → va_P wd.1 sy_cl w0 s.heap → va_D A w0 → lv_has ls nL (lv_args 0 As) → W p l e rm s m As.toArray below meth c s.heap [] 0 0 (MQ below (sk_qc wd w0 w1 s.heap.size) As.toArray s rm.cells rm.slots A) (F0 m 0 ls [])) : sk_Met l y cc nL rm wd As w0 w1 := by
  intro sz
  refine va_MetF (cc := cc) (maxL := nL) (ret := none) hy rfl ?_
  intro p e s m args below meth c s₁ B hml hv
  obtain ⟨rfl, hsz, hP, hK, hD0⟩ := hv
  subst hsz
  have hts0 := atoms_spec (ws := .code y cc nL none :: sy_tb) B.pre
  have hl := lv_entry As (n := nL) hn
  rw [lg_entry_eq]
  exact body p e s m below meth c _ _ rfl ⟨B.exec, B.bytes, hml, findClass_of_methodNamed B.named, fun w hw => hts0 w (List.mem_cons_of_mem _ hw), B.returns, (name_of_methodNamed B.named B.method).1, B.notSynchronized, hK⟩ hP hD0.self hl
section SKR
variable {p : Program} {l : Launch} {e : Env} {R : Room} {s : State} {m : MethodId} {args : Array Value} {below : List Frame} {meth : Method} {c : Code} {H H0 : Heap} {locs : List Loc} {cells slots : Nat} {Q : State → Prop} {cc : ByteArray} {pc : Nat} {ls : Array Slot} {rest : List Value} {wd : sy_D} {A : Nat → Prop} {ws : va_W}
theorem sk_newi (hx : p.tables.exec = Jvm.exec) (hb : c.code = cc) (harr : (Cond.arrayClass .int).before args s = true) (hK : va_K wd.1 sy_cl (sk_ty wd) s) (hP : va_P wd.1 sy_cl ws H) (hD : va_D A ws) (hS : va_S A H0 H locs) (hA : ∀ q, H0.size ≤ q → A q) {n : Int32} {N : Nat} (hn : ¬ n < 0) (hN : n.toNatClampNeg = N) (hby : N * 4 ≤ 536870912) (hc : cells + 1 ≤ R.cells) (hs : slots + N ≤ R.slots) (hd : decode cc pc = .ok (.newarray .int, 2))
    (kk : ∀ (q : Nat) (H1 : Heap), va_P wd.1 sy_cl (ws ++ [(q, .inl (wd.2.1, N, .inl fun _ => 0))]) H1 → va_D A (ws ++ [(q, .inl (wd.2.1, N, .inl fun _ => 0))]) → va_S A H0 H1 locs → W p l e R s m args below meth c H1 locs (cells + 1) (slots + N) Q (F0 m (pc + 2) ls (.ref q :: rest))) : W p l e R s m args below meth c H locs cells slots Q (F0 m pc ls (.int n :: rest)) := by
  refine va_newa (atype := .int) (ty := .int) (a0 := (N, .inl fun _ => 0)) hx hb harr rfl hK hP hD hS hA (fun cA => rfl) hn hN hby hc hs hd (fun q cA H1 hK1 hP1 hD1 hS1 => ?_)
  have e1 := (hK1.2 3 (cA, .int) rfl).2
  have e2 := (hK.2 0 (wd.2.1, .int) rfl).2
  have e : cA = wd.2.1 := Option.some.inj (e1.symm.trans e2)
  subst e
  exact kk q H1 hP1 hD1 hS1
theorem sk_newl (hx : p.tables.exec = Jvm.exec) (hb : c.code = cc) (harr : (Cond.arrayClass .long).before args s = true) (hK : va_K wd.1 sy_cl (sk_ty wd) s) (hP : va_P wd.1 sy_cl ws H) (hD : va_D A ws) (hS : va_S A H0 H locs) (hA : ∀ q, H0.size ≤ q → A q) {n : Int32} {N : Nat} (hn : ¬ n < 0) (hN : n.toNatClampNeg = N) (hby : N * 8 ≤ 536870912) (hc : cells + 1 ≤ R.cells) (hs : slots + N ≤ R.slots) (hd : decode cc pc = .ok (.newarray .long, 2))
    (kk : ∀ (q : Nat) (H1 : Heap), va_P wd.1 sy_cl (ws ++ [(q, .inl (wd.2.2.1, N, .inr (.inl fun _ => 0)))]) H1 → va_D A (ws ++ [(q, .inl (wd.2.2.1, N, .inr (.inl fun _ => 0)))]) → va_S A H0 H1 locs → W p l e R s m args below meth c H1 locs (cells + 1) (slots + N) Q (F0 m (pc + 2) ls (.ref q :: rest))) : W p l e R s m args below meth c H locs cells slots Q (F0 m pc ls (.int n :: rest)) := by
  refine va_newa (atype := .long) (ty := .long) (a0 := (N, .inr (.inl fun _ => 0))) hx hb harr rfl hK hP hD hS hA (fun cA => rfl) hn hN hby hc hs hd (fun q cA H1 hK1 hP1 hD1 hS1 => ?_)
  have e1 := (hK1.2 3 (cA, .long) rfl).2
  have e2 := (hK.2 1 (wd.2.2.1, .long) rfl).2
  have e : cA = wd.2.2.1 := Option.some.inj (e1.symm.trans e2)
  subst e
  exact kk q H1 hP1 hD1 hS1
theorem sk_newq {own : String} {index : Nat} (hx : p.tables.exec = Jvm.exec) (hb : c.code = cc) (hown : s.vm.findClass own = some m.cls) (hcl : (Cond.classLink own index R_6).before args s = true) (hKK : sk_K wd s) (hP : va_P wd.1 sy_cl ws H) (hD : va_D A ws) (hS : va_S A H0 H locs) (hA : ∀ q, H0.size ≤ q → A q) {n : Int32} {N : Nat} (hn : ¬ n < 0) (hN : n.toNatClampNeg = N) (hby : N * 4 ≤ 536870912) (hc : cells + 1 ≤ R.cells) (hs : slots + N ≤ R.slots) (hd : decode cc pc = .ok (.anewarray index, 3))
    (kk : ∀ (q : Nat) (H1 : Heap), va_P wd.1 sy_cl (ws ++ [(q, .inl (wd.2.2.2, N, .inr (.inr (.inr (.inr fun _ => none)))))]) H1 → va_D A (ws ++ [(q, .inl (wd.2.2.2, N, .inr (.inr (.inr (.inr fun _ => none)))))]) → va_S A H0 H1 locs → W p l e R s m args below meth c H1 locs (cells + 1) (slots + N) Q (F0 m (pc + 3) ls (.ref q :: rest))) : W p l e R s m args below meth c H locs cells slots Q (F0 m pc ls (.int n :: rest)) := by
  refine va_newq hx hb hown hcl hKK.2.1 hKK.1 hP hD hS hA hn hN hby hc hs hd (fun q cA H1 hK1 hP1 hD1 hS1 => ?_)
  obtain ⟨_, _, _, _, _, e1⟩ := (hK1.2 3 (cA, .object R_6) rfl).2
  obtain ⟨_, _, _, _, _, e2⟩ := (hKK.1.2 2 (wd.2.2.2, .object R_6) rfl).2
  have e : cA = wd.2.2.2 := Option.some.inj (e1.symm.trans e2)
  subst e
  exact kk q H1 hP1 hD1 hS1
end SKR
theorem sk_lt {a b : Nat} (h : Nat.ble (a + 1) b = true) : a < b := Nat.le_of_ble_eq_true h
