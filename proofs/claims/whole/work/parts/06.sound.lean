section SYS
variable {p : Program} {l : Launch} {e : Env} {R : Room} {s : State} {m : MethodId} {args : Array Value} {below : List Frame} {meth : Method} {c : Code} {cc : ByteArray} {own : String} {nL : Nat} {rt : Option FieldType} {wd : sy_D} {ad : Nat → Nat} {ns : Nat} {A : Nat → Prop} {Q : State → Prop}
/-- a call is sound: from the callee's meaning to the caller's next instruction -/
def sy_CO (p : Program) (l : Launch) (e : Env) (R : Room) (s : State) (m : MethodId) (args : Array Value) (below : List Frame) (meth : Method) (c : Code) (cc : ByteArray) (nL : Nat) (wd : sy_D) (ad : Nat → Nat) (ns : Nat) (A : Nat → Prop) (Q : State → Prop) (b : Bool) (q n : Nat) (sp : sy_Sp) : Prop :=
  ∀ (pc : Nat) (L as rest : List sy_V) (st : sy_S) (post : sy_R), decode cc pc = .ok (match b with
    | true => Instr.invokestatic q
    | false => Instr.invokevirtual q, 3) → as.length = n → (∀ v ∈ as, sy_ok (37 + 2 * ns) v ∧ sy_kn v = v ∧ sy_set v = true) → sp as st post → (∀ r st', post r st' → sy_WA p l e R s m args below meth c nL wd ad ns A Q (pc + 3) L (r.toList ++ rest) st') → sy_wd rest ≤ 8 → sy_WA p l e R s m args below meth c nL wd ad ns A Q pc L (as.reverse ++ rest) st
theorem sy_nil : ∀ v ∈ ([] : List sy_V), sy_ok (37 + 2 * ns) v := fun _ h => by cases h
theorem sy_cons {v : sy_V} {k : List sy_V} {N : Nat} (hv : sy_ok N v) (hk : ∀ u ∈ k, sy_ok N u) : ∀ u ∈ v :: k, sy_ok N u := fun u h => by
  rcases List.mem_cons.mp h with rfl | h
  · exact hv
  · exact hk u h
theorem sy_hd {v : sy_V} {k : List sy_V} {N : Nat} (h : ∀ u ∈ v :: k, sy_ok N u) : sy_ok N v := h v List.mem_cons_self
theorem sy_tl {v : sy_V} {k : List sy_V} {N : Nat} (h : ∀ u ∈ v :: k, sy_ok N u) : ∀ u ∈ k, sy_ok N u := fun u hu => h u (List.mem_cons_of_mem _ hu)
theorem sy_ok_iR {N : Nat} {z : Int} (h : sy_iR z) : sy_ok N (.inl (true, z)) := h
theorem sy_iR_lR {z : Int} (h : sy_iR z) : sy_lR z := by unfold sy_iR at h; unfold sy_lR; omega
theorem sy_rg_i {st : sy_S} {a k : Nat} (h : sy_rg st) (ha : ¬ (a = 32 ∨ a = 33)) : sy_iR (st a k) := by
  have := h a k
  rwa [if_neg ha] at this
theorem sy_rg_l {st : sy_S} {a k : Nat} (h : sy_rg st) : sy_lR (st a k) := by
  have := h a k
  by_cases ha : a = 32 ∨ a = 33
  · rwa [if_pos ha] at this
  · rw [if_neg ha] at this; exact sy_iR_lR this
theorem sy_ar1 {a : Nat} (h : sy_ob a = none ∧ (sy_ar a).1 = 1) : a = 32 ∨ a = 33 := by
  have := h.2
  unfold sy_ar at this
  split at this <;> simp at this <;> simp
theorem sy_ar0 {a : Nat} (h : (sy_ar a).1 = 0) : ¬ (a = 32 ∨ a = 33) := by
  rintro (rfl | rfl) <;> simp [sy_ar] at h
theorem sy_ar_le (a : Nat) : (sy_ar a).2 ≤ 4096 := by
  unfold sy_ar
  split <;> decide
theorem sy_ob32 {a c : Nat} (h : sy_ob a = some c) : ¬ (a = 32 ∨ a = 33) := by
  rintro (rfl | rfl) <;> simp [sy_ob] at h
theorem sy_in {i : Int} {n : Nat} (h : 0 ≤ i ∧ i < n) (hn : n ≤ 4096) : vp_in (Int32.ofInt i) n := by
  rw [vp_in_iff, sy_t32 ⟨by omega, by omega⟩]
  exact h
theorem sy_cl0 {i : Int} {n : Nat} (h : 0 ≤ i ∧ i < n) (hn : n ≤ 4096) : (Int32.ofInt i).toNatClampNeg = i.toNat := by
  show (Int32.ofInt i).toInt.toNat = i.toNat
  rw [sy_t32 ⟨by omega, by omega⟩]
theorem sy_e_ob (wd : sy_D) (ad : Nat → Nat) (ns : Nat) (st : sy_S) {a c : Nat} (h : sy_ob a = some c) : sy_e wd ad ns st a = .inr (c, (List.range (sy_nf c)).map fun k => sy_cv ad (sy_fv st a k)) := by
  unfold sy_e; rw [h]
theorem sy_e_i (wd : sy_D) (ad : Nat → Nat) (ns : Nat) (st : sy_S) {a : Nat} (h : sy_ob a = none) (h0 : (sy_ar a).1 = 0) : sy_e wd ad ns st a = .inl (wd.2.1, (sy_ar a).2, .inl fun j => Int32.ofInt (st a j)) := by
  unfold sy_e; rw [h]; simp only [h0]
theorem sy_e_l (wd : sy_D) (ad : Nat → Nat) (ns : Nat) (st : sy_S) {a : Nat} (h : sy_ob a = none) (h0 : (sy_ar a).1 = 1) : sy_e wd ad ns st a = .inl (wd.2.2.1, (sy_ar a).2, .inr (.inl fun j => Int64.ofInt (st a j))) := by
  unfold sy_e; rw [h]; simp only [h0]
theorem sy_fv_ok {N : Nat} {st : sy_S} {a k : Nat} (hN : 37 ≤ N) (hp : a < 37 ∨ a + 1 < N) (ha : ¬ (a = 32 ∨ a = 33)) (h : sy_rg st) : sy_ok N (sy_fv st a k) := by
  unfold sy_fv
  split
  · rename_i b hb
    show b < N
    unfold sy_rf at hb
    split at hb <;> first | (cases hb; omega) | (split at hb <;> cases hb; omega) | cases hb
  · exact sy_rg_i h ha
theorem sy_ob_odd {a c ns : Nat} (h : sy_ob a = some c) (ha : a < 37 + 2 * ns) : a < 37 ∨ a + 1 < 37 + 2 * ns := by
  by_cases h1 : a < 37
  · exact Or.inl h1
  · right
    unfold sy_ob at h
    split at h <;> first | omega | (split at h <;> first | (rename_i q; omega) | cases h)
theorem sy_fs_set (ad : Nat → Nat) (st : sy_S) {a c j : Nat} (z : Int) (hr : sy_rf a j = none) : ((List.range (sy_nf c)).map fun k => sy_cv ad (sy_fv st a k)).set j (.int (Int32.ofInt z)) = (List.range (sy_nf c)).map fun k => sy_cv ad (sy_fv (sy_up st a j z) a k) := by
  apply List.ext_getElem?
  intro i
  by_cases hi : i = j
  · subst hi
    by_cases hl : i < sy_nf c
    · rw [List.getElem?_set_self (by simpa using hl)]
      simp [hl, sy_fv, hr, sy_up, sy_cv]
    · rw [List.getElem?_eq_none (by simpa using hl), List.getElem?_eq_none (by simpa using hl)]
  · rw [List.getElem?_set_ne (fun q => hi q.symm)]
    have : sy_fv (sy_up st a j z) a i = sy_fv st a i := by
      unfold sy_fv
      split
      · rfl
      · simp [sy_up, hi]
    by_cases hl : i < sy_nf c
    · simp [hl, this]
    · rw [List.getElem?_eq_none (by simpa using hl), List.getElem?_eq_none (by simpa using hl)]
theorem sy_wd_sum (ad : Nat → Nat) : ∀ k : List sy_V, ((k.map (sy_cv ad)).map fun v => v.category).sum = sy_wd k
  | [] => rfl
  | v :: r => by
    have ih := sy_wd_sum ad r
    simp only [List.map_cons, List.sum_cons, sy_wd, ih]
    rcases v with ⟨b, z⟩ | ⟨b, z⟩ | _ | _ | n <;> rfl
theorem sy_kn_cv (ad : Nat → Nat) (v : sy_V) : sy_cv ad (sy_kn v) = sy_cv ad v := by
  rcases v with ⟨b, z⟩ | ⟨b, z⟩ | _ | _ | n <;> rfl
theorem sy_kn_ok {N : Nat} {v : sy_V} (h : sy_ok N v) (hf : sy_fit v) : sy_ok N (sy_kn v) ∧ sy_kn (sy_kn v) = sy_kn v ∧ sy_set (sy_kn v) = true := by
  rcases v with ⟨b, z⟩ | ⟨b, z⟩ | _ | _ | n
  · exact ⟨sy_ri_iR hf h, rfl, rfl⟩
  · exact ⟨sy_rl_lR hf h, rfl, rfl⟩
  · exact hf.elim
  · exact ⟨trivial, rfl, rfl⟩
  · exact ⟨h, rfl, rfl⟩
theorem sy_sw_e {pc : Nat} {z : Int} {f : Nat → Prop} : ∀ (os : List Int) (lo : Int) (j : Nat) (o : Int), sy_sw pc z f lo os → os[j]? = some o → z = lo + j → f ((pc : Int) + o).toNat
  | [], lo, j, o, h, hj, hz => by simp at hj
  | a :: os, lo, 0, o, h, hj, hz => by
    simp at hj
    subst hj
    exact h.1 (by omega)
  | a :: os, lo, j + 1, o, h, hj, hz => by
    simp at hj
    exact sy_sw_e os (lo + 1) j o h.2 hj (by omega)
theorem sy_ret_e {b : Bool} {k : List sy_V} {st : sy_S} {post : sy_R} (h : sy_ret b k st post) : ∃ a z, k = [.inl (a, z)] ∧ sy_ri a z ∧ sy_b01 b z ∧ post (some (.inl (true, z))) st := by
  unfold sy_ret at h
  split at h
  · exact ⟨_, _, rfl, h⟩
  · exact h.elim
theorem sy_lret_e {k : List sy_V} {st : sy_S} {post : sy_R} (h : sy_lret k st post) : ∃ a z, k = [.inr (.inl (a, z))] ∧ sy_rl a z ∧ post (some (.inr (.inl (true, z)))) st := by
  unfold sy_lret at h
  split at h
  · exact ⟨_, _, rfl, h⟩
  · exact h.elim
theorem sy_aret_e {k : List sy_V} {st : sy_S} {post : sy_R} (h : sy_aret k st post) : ∃ q, k = [.inr (.inr (some q))] ∧ post (some (.inr (.inr (some q)))) st := by
  unfold sy_aret at h
  split at h
  · exact ⟨_, rfl, h⟩
  · exact h.elim
theorem sy_vret_e {k : List sy_V} {st : sy_S} {post : sy_R} (h : sy_vret k st post) : k = [] ∧ post none st := by
  unfold sy_vret at h
  split at h
  · exact ⟨rfl, h⟩
  · exact h.elim
theorem sy_dup_e {k : List sy_V} {f : List sy_V → Prop} (h : sy_dup k f) : ∃ v r, k = v :: r ∧ sy_cat2 v = false ∧ f (v :: v :: r) := by
  unfold sy_dup at h
  split at h
  · exact ⟨_, _, rfl, rfl, h⟩
  · exact ⟨_, _, rfl, rfl, h⟩
  · exact h.elim
theorem sy_dup2_e {k : List sy_V} {f : List sy_V → Prop} (h : sy_dup2 k f) : ∃ v u r, k = v :: u :: r ∧ sy_cat2 v = false ∧ sy_cat2 u = false ∧ f (v :: u :: v :: u :: r) := by
  unfold sy_dup2 at h
  split at h
  · exact ⟨_, _, _, rfl, rfl, rfl, h⟩
  · exact h.elim
theorem sy_cat_1 (ad : Nat → Nat) {v : sy_V} (h : sy_cat2 v = false) : (sy_cv ad v).category = 1 := by
  rcases v with ⟨b, z⟩ | ⟨b, z⟩ | _ | _ | n <;> first | rfl | cases h
theorem sy_rty_a {rt : Option FieldType} {bl : Bool} (h : sy_rty rt bl .areturn = true) : ∃ C, rt = some (.object C) := by
  simp only [sy_rty] at h
  split at h
  · exact ⟨_, rfl⟩
  · cases h
set_option maxHeartbeats 4000000 in
/-- THE STEP -/
theorem sy_step {M : sy_M} {pc : Nat} {i : sy_I} {L k : List sy_V} {st : sy_S} {post : sy_R} {K : sy_K} (X : sy_CX p s m args meth c cc own nL rt wd)
    (hchk : sy_chk cc rt M.2.2.2.2.2 pc i = true) (hfl : ∀ q c j, M.2.1 q = some (c, j) → sy_fldk own q c j)
    (hci : ∀ q z, M.2.2.1 q = some z → sy_iR z ∧ Cond.constant own q (Int32.ofInt z) ∈ sy_tb) (hcl : ∀ q z, M.2.2.2.1 q = some z → sy_lR z ∧ Cond.constantLong own q (Int64.ofInt z) ∈ sy_tb)
    (hco : ∀ q b n sp, M.2.2.2.2.1 q = some (b, n, sp) → sy_CO p l e R s m args below meth c cc nL wd ad ns A Q b q n sp)
    (hQ : Q = MQ below (sy_Qc wd ad ns A post) args s 0 0 A)
    (hK : ∀ pc L k st, K pc L k st → sy_WA p l e R s m args below meth c nL wd ad ns A Q pc L k st) (h : sy_st ns M i pc L k st post K) : sy_WA p l e R s m args below meth c nL wd ad ns A Q pc L k st := by
  obtain ⟨ins, nxt, tgt⟩ := i
  intro hL hk hlen H locs ls hW hS hl
  obtain ⟨hx, hb, hml, hown, hts, hr, hlk, hKK⟩ := X
  obtain ⟨hP, hD, hG⟩ := id hW
  cases ins
  case iconst z =>
    obtain ⟨hd, rfl⟩ := sy_chk_e hchk rfl
    have hz := (sy_chk_s hchk).1
    simp only [sy_sml, decide_eq_true_eq] at hz
    refine lv_iconst hx hb hd rfl ?_
    exact hK _ _ _ _ h hL (sy_cons (show sy_iR z from ⟨by omega, by omega⟩) hk) hlen H locs ls hW hS hl
  case bipush z =>
    obtain ⟨hd, rfl⟩ := sy_chk_e hchk rfl
    have hz := (sy_chk_s hchk).1
    simp only [sy_sml, decide_eq_true_eq] at hz
    refine lv_bipush hx hb hd (sy_b8 hz.1 hz.2) ?_
    exact hK _ _ _ _ h hL (sy_cons (show sy_iR z from ⟨by omega, by omega⟩) hk) hlen H locs ls hW hS hl
  case sipush z =>
    obtain ⟨hd, rfl⟩ := sy_chk_e hchk rfl
    have hz := (sy_chk_s hchk).1
    simp only [sy_sml, decide_eq_true_eq] at hz
    refine lv_sipush hx hb hd (sy_b16 hz.1 hz.2) ?_
    exact hK _ _ _ _ h hL (sy_cons (show sy_iR z from ⟨by omega, by omega⟩) hk) hlen H locs ls hW hS hl
  case ldc q =>
    obtain ⟨hd, rfl⟩ := sy_chk_e hchk rfl
    obtain ⟨z, hq, h⟩ := sy_cst_e h
    obtain ⟨hz, hw⟩ := hci _ _ hq
    refine lv_ldc hx hb hown (hts _ hw) hd ?_
    exact hK _ _ _ _ h hL (sy_cons hz hk) hlen H locs ls hW hS hl
  case ldc_w q =>
    obtain ⟨hd, rfl⟩ := sy_chk_e hchk rfl
    obtain ⟨z, hq, h⟩ := sy_cst_e h
    obtain ⟨hz, hw⟩ := hci _ _ hq
    refine lv_ldcw hx hb hown (hts _ hw) hd ?_
    exact hK _ _ _ _ h hL (sy_cons hz hk) hlen H locs ls hW hS hl
  case ldc2_w q =>
    obtain ⟨hd, rfl⟩ := sy_chk_e hchk rfl
    obtain ⟨z, hq, h⟩ := sy_cst_e h
    obtain ⟨hz, hw⟩ := hcl _ _ hq
    refine lv_ldc2 hx hb hown (hts _ hw) hd ?_
    exact hK _ _ _ _ h hL (sy_cons hz hk) hlen H locs ls hW hS hl
  case lconst z =>
    obtain ⟨hd, rfl⟩ := sy_chk_e hchk rfl
    have hz := z.isLt
    refine lv_lconst hx hb hd (v := Int64.ofInt (z.val : Int)) rfl ?_
    exact hK _ _ _ _ h hL (sy_cons (show sy_lR (z.val : Int) from ⟨by omega, by omega⟩) hk) hlen H locs ls hW hS hl
  case aconst_null =>
    obtain ⟨hd, rfl⟩ := sy_chk_e hchk rfl
    refine lv_null hx hb hd ?_
    exact hK _ _ _ _ h hL (sy_cons trivial hk) hlen H locs ls hW hS hl
  case iload_n q =>
    obtain ⟨hd, rfl⟩ := sy_chk_e hchk rfl
    obtain ⟨z, hq, h⟩ := sy_ldi_e h
    have hz : sy_iR z := hL (.inl (true, z)) (hq ▸ sy_loc_in L _ (by rw [hq]; rfl))
    refine lv_iload_n hx hb hd rfl (sy_at hl hq rfl) ?_
    exact hK _ _ _ _ h hL (sy_cons hz hk) hlen H locs ls hW hS hl
  case iload q =>
    obtain ⟨hd, rfl⟩ := sy_chk_e hchk rfl
    obtain ⟨z, hq, h⟩ := sy_ldi_e h
    have hz : sy_iR z := hL (.inl (true, z)) (hq ▸ sy_loc_in L _ (by rw [hq]; rfl))
    refine lv_iload hx hb hd (sy_at hl hq rfl) ?_
    exact hK _ _ _ _ h hL (sy_cons hz hk) hlen H locs ls hW hS hl
  case lload_n q =>
    obtain ⟨hd, rfl⟩ := sy_chk_e hchk rfl
    obtain ⟨z, hq, h⟩ := sy_ldl_e h
    have hz : sy_lR z := hL (.inr (.inl (true, z))) (hq ▸ sy_loc_in L _ (by rw [hq]; rfl))
    refine lv_lload_n hx hb hd rfl (sy_at hl hq rfl) ?_
    exact hK _ _ _ _ h hL (sy_cons hz hk) hlen H locs ls hW hS hl
  case lload q =>
    obtain ⟨hd, rfl⟩ := sy_chk_e hchk rfl
    obtain ⟨z, hq, h⟩ := sy_ldl_e h
    have hz : sy_lR z := hL (.inr (.inl (true, z))) (hq ▸ sy_loc_in L _ (by rw [hq]; rfl))
    refine lv_lload hx hb hd (sy_at hl hq rfl) ?_
    exact hK _ _ _ _ h hL (sy_cons hz hk) hlen H locs ls hW hS hl
  case aload_n q =>
    obtain ⟨hd, rfl⟩ := sy_chk_e hchk rfl
    obtain ⟨o, hq, h⟩ := sy_lda_e h
    have hz : sy_ok (37 + 2 * ns) (.inr (.inr (some o))) := hL _ (hq ▸ sy_loc_in L _ (by rw [hq]; rfl))
    cases o with
    | none =>
      refine lv_aload_nN hx hb hd rfl (sy_at hl hq rfl) ?_
      exact hK _ _ _ _ h hL (sy_cons hz hk) hlen H locs ls hW hS hl
    | some a =>
      refine lv_aload_n hx hb hd rfl (sy_at hl hq rfl) ?_
      exact hK _ _ _ _ h hL (sy_cons hz hk) hlen H locs ls hW hS hl
  case aload q =>
    obtain ⟨hd, rfl⟩ := sy_chk_e hchk rfl
    obtain ⟨o, hq, h⟩ := sy_lda_e h
    have hz : sy_ok (37 + 2 * ns) (.inr (.inr (some o))) := hL _ (hq ▸ sy_loc_in L _ (by rw [hq]; rfl))
    cases o with
    | none =>
      refine lv_aloadN hx hb hd (sy_at hl hq rfl) ?_
      exact hK _ _ _ _ h hL (sy_cons hz hk) hlen H locs ls hW hS hl
    | some a =>
      refine lv_aload hx hb hd (sy_at hl hq rfl) ?_
      exact hK _ _ _ _ h hL (sy_cons hz hk) hlen H locs ls hW hS hl
  case istore_n q =>
    obtain ⟨hd, rfl⟩ := sy_chk_e hchk rfl
    obtain ⟨b, z, r, rfl, h1, h2, h⟩ := sy_i1_e h
    have hz := sy_ri_iR h1 (sy_hd hk)
    refine lv_istore_n hx hb hd rfl hl (by omega) rfl fun ls' hl' => ?_
    exact hK _ _ _ _ h (sy_sto_ok hL hz) (sy_tl hk) (by rw [sy_sto_len]; exact hlen) H locs ls' hW hS (sy_sto_has (v := .inl (true, z)) rfl hl')
  case istore q =>
    obtain ⟨hd, rfl⟩ := sy_chk_e hchk rfl
    obtain ⟨b, z, r, rfl, h1, h2, h⟩ := sy_i1_e h
    have hz := sy_ri_iR h1 (sy_hd hk)
    refine lv_istore hx hb hd hl (by omega) rfl fun ls' hl' => ?_
    exact hK _ _ _ _ h (sy_sto_ok hL hz) (sy_tl hk) (by rw [sy_sto_len]; exact hlen) H locs ls' hW hS (sy_sto_has (v := .inl (true, z)) rfl hl')
  case lstore_n q =>
    obtain ⟨hd, rfl⟩ := sy_chk_e hchk rfl
    obtain ⟨b, z, r, rfl, h1, h2, h⟩ := sy_l1_e h
    have hz := sy_rl_lR h1 (sy_hd hk)
    refine lv_lstore_n hx hb hd rfl hl (by omega) rfl fun ls' hl' => ?_
    exact hK _ _ _ _ h (sy_gone_ok (sy_sto_ok hL hz)) (sy_tl hk) (by rw [sy_gone_len, sy_sto_len]; exact hlen) H locs ls' hW hS (sy_lsto_has (v := .inr (.inl (true, z))) rfl hl')
  case lstore q =>
    obtain ⟨hd, rfl⟩ := sy_chk_e hchk rfl
    obtain ⟨b, z, r, rfl, h1, h2, h⟩ := sy_l1_e h
    have hz := sy_rl_lR h1 (sy_hd hk)
    refine lv_lstore hx hb hd hl (by omega) rfl fun ls' hl' => ?_
    exact hK _ _ _ _ h (sy_gone_ok (sy_sto_ok hL hz)) (sy_tl hk) (by rw [sy_gone_len, sy_sto_len]; exact hlen) H locs ls' hW hS (sy_lsto_has (v := .inr (.inl (true, z))) rfl hl')
  case astore_n q =>
    obtain ⟨hd, rfl⟩ := sy_chk_e hchk rfl
    obtain ⟨o, r, rfl, h2, h⟩ := sy_n1_e h
    have hz := sy_hd hk
    cases o with
    | none =>
      refine lv_astore_nN hx hb hd rfl hl (by omega) rfl fun ls' hl' => ?_
      exact hK _ _ _ _ h (sy_sto_ok hL hz) (sy_tl hk) (by rw [sy_sto_len]; exact hlen) H locs ls' hW hS (sy_sto_has (v := .inr (.inr (some none))) rfl hl')
    | some a =>
      refine lv_astore_n hx hb hd rfl hl (by omega) rfl fun ls' hl' => ?_
      exact hK _ _ _ _ h (sy_sto_ok hL hz) (sy_tl hk) (by rw [sy_sto_len]; exact hlen) H locs ls' hW hS (sy_sto_has (v := .inr (.inr (some (some a)))) rfl hl')
  case astore q =>
    obtain ⟨hd, rfl⟩ := sy_chk_e hchk rfl
    obtain ⟨o, r, rfl, h2, h⟩ := sy_n1_e h
    have hz := sy_hd hk
    cases o with
    | none =>
      refine lv_astoreN hx hb hd hl (by omega) rfl fun ls' hl' => ?_
      exact hK _ _ _ _ h (sy_sto_ok hL hz) (sy_tl hk) (by rw [sy_sto_len]; exact hlen) H locs ls' hW hS (sy_sto_has (v := .inr (.inr (some none))) rfl hl')
    | some a =>
      refine lv_astore hx hb hd hl (by omega) rfl fun ls' hl' => ?_
      exact hK _ _ _ _ h (sy_sto_ok hL hz) (sy_tl hk) (by rw [sy_sto_len]; exact hlen) H locs ls' hW hS (sy_sto_has (v := .inr (.inr (some (some a)))) rfl hl')
  case iinc q z =>
    obtain ⟨hd, rfl⟩ := sy_chk_e hchk rfl
    obtain ⟨x, hq, h1, h⟩ := sy_ldi_e h
    obtain ⟨w, hw⟩ := sy_at_k (ad := ad) hq rfl
    have hlt : q < nL := by
      have := (Array.getElem?_eq_some_iff.mp (sy_at hl hq rfl)).1
      rwa [hl.1] at this
    refine lv_iinc hx hb hd hl hw (v := Int32.ofInt (x + z)) (by rw [Int32.ofInt_add]) hlt rfl fun ls' hl' => ?_
    exact hK _ _ _ _ h (sy_sto_ok hL h1) hk (by rw [sy_sto_len]; exact hlen) H locs ls' hW hS (sy_sto_has (v := .inl (true, x + z)) rfl hl')
  case iadd =>
    obtain ⟨hd, rfl⟩ := sy_chk_e hchk rfl
    obtain ⟨a, x, b, y, r, rfl, h⟩ := sy_i2_e h
    refine lv_iadd hx hb hd ?_
    rw [← Int32.ofInt_add]
    exact hK _ _ _ _ h hL (sy_cons trivial (sy_tl (sy_tl hk))) hlen H locs ls hW hS hl
  case isub =>
    obtain ⟨hd, rfl⟩ := sy_chk_e hchk rfl
    obtain ⟨a, x, b, y, r, rfl, h⟩ := sy_i2_e h
    refine lv_isub hx hb hd ?_
    rw [← Int32.ofInt_sub]
    exact hK _ _ _ _ h hL (sy_cons trivial (sy_tl (sy_tl hk))) hlen H locs ls hW hS hl
  case imul =>
    obtain ⟨hd, rfl⟩ := sy_chk_e hchk rfl
    obtain ⟨a, x, b, y, r, rfl, h⟩ := sy_i2_e h
    refine lv_imul hx hb hd ?_
    rw [← Int32.ofInt_mul]
    exact hK _ _ _ _ h hL (sy_cons trivial (sy_tl (sy_tl hk))) hlen H locs ls hW hS hl
  case ineg =>
    obtain ⟨hd, rfl⟩ := sy_chk_e hchk rfl
    obtain ⟨b, x, r, rfl, h⟩ := sy_i1_e h
    refine lv_ineg hx hb hd ?_
    rw [← Int32.ofInt_neg]
    exact hK _ _ _ _ h hL (sy_cons trivial (sy_tl hk)) hlen H locs ls hW hS hl
  case idiv =>
    obtain ⟨hd, rfl⟩ := sy_chk_e hchk rfl
    obtain ⟨a, x, b, y, r, rfl, h1, h2, h3, h⟩ := sy_i2_e h
    have hx1 := sy_ri_iR h1 (sy_hd (sy_tl hk))
    have hy1 := sy_ri_iR h2 (sy_hd hk)
    refine lv_idiv hx hb hd (fun q => h3 ((sy_eq32 hy1 sy_z32).mp q)) ?_
    rw [sy_tdiv x y hx1 hy1]
    exact hK _ _ _ _ h hL (sy_cons trivial (sy_tl (sy_tl hk))) hlen H locs ls hW hS hl
  case irem =>
    obtain ⟨hd, rfl⟩ := sy_chk_e hchk rfl
    obtain ⟨a, x, b, y, r, rfl, h1, h2, h3, h⟩ := sy_i2_e h
    have hx1 := sy_ri_iR h1 (sy_hd (sy_tl hk))
    have hy1 := sy_ri_iR h2 (sy_hd hk)
    refine lv_irem hx hb hd (fun q => h3 ((sy_eq32 hy1 sy_z32).mp q)) ?_
    rw [sy_tmod x y hx1 hy1]
    exact hK _ _ _ _ h hL (sy_cons trivial (sy_tl (sy_tl hk))) hlen H locs ls hW hS hl
  case iand =>
    obtain ⟨hd, rfl⟩ := sy_chk_e hchk rfl
    obtain ⟨a, x, b, y, r, rfl, h⟩ := sy_i2_e h
    refine lv_iand hx hb hd ?_
    have h9 := hK _ _ _ _ h hL (sy_cons (sy_iR_of _) (sy_tl (sy_tl hk))) hlen H locs ls hW hS hl
    rw [List.map_cons, sy_cv, Int32.ofInt_toInt] at h9
    exact h9
  case ior =>
    obtain ⟨hd, rfl⟩ := sy_chk_e hchk rfl
    obtain ⟨a, x, b, y, r, rfl, h⟩ := sy_i2_e h
    refine lv_ior hx hb hd ?_
    have h9 := hK _ _ _ _ h hL (sy_cons (sy_iR_of _) (sy_tl (sy_tl hk))) hlen H locs ls hW hS hl
    rw [List.map_cons, sy_cv, Int32.ofInt_toInt] at h9
    exact h9
  case ixor =>
    obtain ⟨hd, rfl⟩ := sy_chk_e hchk rfl
    obtain ⟨a, x, b, y, r, rfl, h⟩ := sy_i2_e h
    refine lv_ixor hx hb hd ?_
    have h9 := hK _ _ _ _ h hL (sy_cons (sy_iR_of _) (sy_tl (sy_tl hk))) hlen H locs ls hW hS hl
    rw [List.map_cons, sy_cv, Int32.ofInt_toInt] at h9
    exact h9
  case ishl =>
    obtain ⟨hd, rfl⟩ := sy_chk_e hchk rfl
    obtain ⟨a, x, b, y, r, rfl, h⟩ := sy_i2_e h
    refine lv_ishl hx hb hd ?_
    have h9 := hK _ _ _ _ h hL (sy_cons (sy_iR_of _) (sy_tl (sy_tl hk))) hlen H locs ls hW hS hl
    rw [List.map_cons, sy_cv, Int32.ofInt_toInt] at h9
    exact h9
  case ishr =>
    obtain ⟨hd, rfl⟩ := sy_chk_e hchk rfl
    obtain ⟨a, x, b, y, r, rfl, h⟩ := sy_i2_e h
    refine lv_ishr hx hb hd ?_
    have h9 := hK _ _ _ _ h hL (sy_cons (sy_iR_of _) (sy_tl (sy_tl hk))) hlen H locs ls hW hS hl
    rw [List.map_cons, sy_cv, Int32.ofInt_toInt] at h9
    exact h9
  case iushr =>
    obtain ⟨hd, rfl⟩ := sy_chk_e hchk rfl
    obtain ⟨a, x, b, y, r, rfl, h⟩ := sy_i2_e h
    refine lv_iushr hx hb hd rfl ?_
    have h9 := hK _ _ _ _ h hL (sy_cons (sy_iR_of _) (sy_tl (sy_tl hk))) hlen H locs ls hW hS hl
    rw [List.map_cons, sy_cv, Int32.ofInt_toInt] at h9
    exact h9
  case ladd =>
    obtain ⟨hd, rfl⟩ := sy_chk_e hchk rfl
    obtain ⟨a, x, b, y, r, rfl, h⟩ := sy_l2_e h
    refine lv_ladd hx hb hd ?_
    rw [← Int64.ofInt_add]
    exact hK _ _ _ _ h hL (sy_cons trivial (sy_tl (sy_tl hk))) hlen H locs ls hW hS hl
  case lsub =>
    obtain ⟨hd, rfl⟩ := sy_chk_e hchk rfl
    obtain ⟨a, x, b, y, r, rfl, h⟩ := sy_l2_e h
    refine lv_lsub hx hb hd ?_
    rw [← Int64.ofInt_sub]
    exact hK _ _ _ _ h hL (sy_cons trivial (sy_tl (sy_tl hk))) hlen H locs ls hW hS hl
  case lmul =>
    obtain ⟨hd, rfl⟩ := sy_chk_e hchk rfl
    obtain ⟨a, x, b, y, r, rfl, h⟩ := sy_l2_e h
    refine lv_lmul hx hb hd ?_
    rw [← Int64.ofInt_mul]
    exact hK _ _ _ _ h hL (sy_cons trivial (sy_tl (sy_tl hk))) hlen H locs ls hW hS hl
  case lneg =>
    obtain ⟨hd, rfl⟩ := sy_chk_e hchk rfl
    obtain ⟨b, x, r, rfl, h⟩ := sy_l1_e h
    refine lv_lneg hx hb hd ?_
    rw [← Int64.ofInt_neg]
    exact hK _ _ _ _ h hL (sy_cons trivial (sy_tl hk)) hlen H locs ls hW hS hl
  case lcmp =>
    obtain ⟨hd, rfl⟩ := sy_chk_e hchk rfl
    obtain ⟨a, x, b, y, r, rfl, h1, h2, h⟩ := sy_l2_e h
    refine W.lcmp hx hb hd ?_
    rw [sy_lcmp (sy_rl_lR h1 (sy_hd (sy_tl hk))) (sy_rl_lR h2 (sy_hd hk))]
    exact hK _ _ _ _ h hL (sy_cons (sy_cmp_R x y) (sy_tl (sy_tl hk))) hlen H locs ls hW hS hl
  case i2l =>
    obtain ⟨hd, rfl⟩ := sy_chk_e hchk rfl
    obtain ⟨b, x, r, rfl, h1, h⟩ := sy_i1_e h
    have hz := sy_ri_iR h1 (sy_hd hk)
    refine lv_i2l hx hb hd (sy_i2l hz) ?_
    exact hK _ _ _ _ h hL (sy_cons (sy_iR_lR hz) (sy_tl hk)) hlen H locs ls hW hS hl
  case l2i =>
    obtain ⟨hd, rfl⟩ := sy_chk_e hchk rfl
    obtain ⟨b, x, r, rfl, h⟩ := sy_l1_e h
    refine lv_l2i hx hb hd (sy_l2i x) ?_
    exact hK _ _ _ _ h hL (sy_cons trivial (sy_tl hk)) hlen H locs ls hW hS hl
  case dup =>
    obtain ⟨hd, rfl⟩ := sy_chk_e hchk rfl
    replace h : sy_dup k (fun r => K (pc + sy_len .dup) L r st) := h
    obtain ⟨v, r, rfl, hv, h⟩ := sy_dup_e h
    refine lv_dup hx hb hd (sy_cat_1 ad hv) ?_
    exact hK _ _ _ _ h hL (sy_cons (sy_hd hk) hk) hlen H locs ls hW hS hl
  case dup2 =>
    obtain ⟨hd, rfl⟩ := sy_chk_e hchk rfl
    replace h : sy_dup2 k (fun r => K (pc + sy_len .dup2) L r st) := h
    obtain ⟨v, u, r, rfl, hv, hu, h⟩ := sy_dup2_e h
    refine lv_dup2_11 hx hb hd (sy_cat_1 ad hv) (sy_cat_1 ad hu) ?_
    exact hK _ _ _ _ h hL (sy_cons (sy_hd hk) (sy_cons (sy_hd (sy_tl hk)) hk)) hlen H locs ls hW hS hl
  case goto off =>
    obtain ⟨hd, rfl⟩ := sy_chk_e hchk rfl
    refine lv_goto hx hb hd (sy_chk_j hchk rfl) ?_
    exact hK _ _ _ _ h hL hk hlen H locs ls hW hS hl
  case if_icmp cnd off =>
    obtain ⟨hd, rfl⟩ := sy_chk_e hchk rfl
    have hj := sy_chk_j hchk rfl
    cases cnd
    · obtain ⟨a, x, b, y, r, rfl, h1, h2, hk2⟩ := sy_i2_e h
      have hx1 := sy_ri_iR h1 (sy_hd (sy_tl hk))
      have hy1 := sy_ri_iR h2 (sy_hd hk)
      refine lv_icmp_eq hx hb hd hj (fun c1 => ?_) (fun c1 => ?_)
      · exact hK _ _ _ _ (hk2.1 ((sy_eq32 hx1 hy1).mp c1)) hL (sy_tl (sy_tl hk)) hlen H locs ls hW hS hl
      · exact hK _ _ _ _ (hk2.2 (fun q => c1 ((sy_eq32 hx1 hy1).mpr q))) hL (sy_tl (sy_tl hk)) hlen H locs ls hW hS hl
    · obtain ⟨a, x, b, y, r, rfl, h1, h2, hk2⟩ := sy_i2_e h
      have hx1 := sy_ri_iR h1 (sy_hd (sy_tl hk))
      have hy1 := sy_ri_iR h2 (sy_hd hk)
      refine lv_icmp_ne hx hb hd hj (fun c1 => ?_) (fun c1 => ?_)
      · exact hK _ _ _ _ (hk2.1 (fun q => c1 ((sy_eq32 hx1 hy1).mpr q))) hL (sy_tl (sy_tl hk)) hlen H locs ls hW hS hl
      · exact hK _ _ _ _ (hk2.2 ((sy_eq32 hx1 hy1).mp c1)) hL (sy_tl (sy_tl hk)) hlen H locs ls hW hS hl
    · obtain ⟨a, x, b, y, r, rfl, h1, h2, hk2⟩ := sy_i2_e h
      have hx1 := sy_ri_iR h1 (sy_hd (sy_tl hk))
      have hy1 := sy_ri_iR h2 (sy_hd hk)
      refine lv_icmp_lt hx hb hd hj (fun c1 => ?_) (fun c1 => ?_)
      · exact hK _ _ _ _ (hk2.1 ((sy_lt32 hx1 hy1).mp c1)) hL (sy_tl (sy_tl hk)) hlen H locs ls hW hS hl
      · exact hK _ _ _ _ (hk2.2 (fun q => c1 ((sy_lt32 hx1 hy1).mpr q))) hL (sy_tl (sy_tl hk)) hlen H locs ls hW hS hl
    · obtain ⟨a, x, b, y, r, rfl, h1, h2, hk2⟩ := sy_i2_e h
      have hx1 := sy_ri_iR h1 (sy_hd (sy_tl hk))
      have hy1 := sy_ri_iR h2 (sy_hd hk)
      refine lv_icmp_ge hx hb hd hj (fun c1 => ?_) (fun c1 => ?_)
      · exact hK _ _ _ _ (hk2.1 ((sy_le32 hy1 hx1).mp c1)) hL (sy_tl (sy_tl hk)) hlen H locs ls hW hS hl
      · exact hK _ _ _ _ (hk2.2 (fun q => c1 ((sy_le32 hy1 hx1).mpr q))) hL (sy_tl (sy_tl hk)) hlen H locs ls hW hS hl
    · obtain ⟨a, x, b, y, r, rfl, h1, h2, hk2⟩ := sy_i2_e h
      have hx1 := sy_ri_iR h1 (sy_hd (sy_tl hk))
      have hy1 := sy_ri_iR h2 (sy_hd hk)
      refine lv_icmp_gt hx hb hd hj (fun c1 => ?_) (fun c1 => ?_)
      · exact hK _ _ _ _ (hk2.1 ((sy_lt32 hy1 hx1).mp c1)) hL (sy_tl (sy_tl hk)) hlen H locs ls hW hS hl
      · exact hK _ _ _ _ (hk2.2 (fun q => c1 ((sy_lt32 hy1 hx1).mpr q))) hL (sy_tl (sy_tl hk)) hlen H locs ls hW hS hl
    · obtain ⟨a, x, b, y, r, rfl, h1, h2, hk2⟩ := sy_i2_e h
      have hx1 := sy_ri_iR h1 (sy_hd (sy_tl hk))
      have hy1 := sy_ri_iR h2 (sy_hd hk)
      refine lv_icmp_le hx hb hd hj (fun c1 => ?_) (fun c1 => ?_)
      · exact hK _ _ _ _ (hk2.1 ((sy_le32 hx1 hy1).mp c1)) hL (sy_tl (sy_tl hk)) hlen H locs ls hW hS hl
      · exact hK _ _ _ _ (hk2.2 (fun q => c1 ((sy_le32 hx1 hy1).mpr q))) hL (sy_tl (sy_tl hk)) hlen H locs ls hW hS hl
  case ifCond cnd off =>
    obtain ⟨hd, rfl⟩ := sy_chk_e hchk rfl
    have hj := sy_chk_j hchk rfl
    have hy1 := sy_z32
    cases cnd
    · obtain ⟨a, x, r, rfl, h1, hk2⟩ := sy_i1_e h
      have hx1 := sy_ri_iR h1 (sy_hd hk)
      refine lv_if_eq hx hb hd hj (fun c1 => ?_) (fun c1 => ?_)
      · exact hK _ _ _ _ (hk2.1 ((sy_eq32 hx1 hy1).mp c1)) hL (sy_tl hk) hlen H locs ls hW hS hl
      · exact hK _ _ _ _ (hk2.2 (fun q => c1 ((sy_eq32 hx1 hy1).mpr q))) hL (sy_tl hk) hlen H locs ls hW hS hl
    · obtain ⟨a, x, r, rfl, h1, hk2⟩ := sy_i1_e h
      have hx1 := sy_ri_iR h1 (sy_hd hk)
      refine lv_if_ne hx hb hd hj (fun c1 => ?_) (fun c1 => ?_)
      · exact hK _ _ _ _ (hk2.1 (fun q => c1 ((sy_eq32 hx1 hy1).mpr q))) hL (sy_tl hk) hlen H locs ls hW hS hl
      · exact hK _ _ _ _ (hk2.2 ((sy_eq32 hx1 hy1).mp c1)) hL (sy_tl hk) hlen H locs ls hW hS hl
    · obtain ⟨a, x, r, rfl, h1, hk2⟩ := sy_i1_e h
      have hx1 := sy_ri_iR h1 (sy_hd hk)
      refine lv_if_lt hx hb hd hj (fun c1 => ?_) (fun c1 => ?_)
      · exact hK _ _ _ _ (hk2.1 ((sy_lt32 hx1 hy1).mp c1)) hL (sy_tl hk) hlen H locs ls hW hS hl
      · exact hK _ _ _ _ (hk2.2 (fun q => c1 ((sy_lt32 hx1 hy1).mpr q))) hL (sy_tl hk) hlen H locs ls hW hS hl
    · obtain ⟨a, x, r, rfl, h1, hk2⟩ := sy_i1_e h
      have hx1 := sy_ri_iR h1 (sy_hd hk)
      refine lv_if_ge hx hb hd hj (fun c1 => ?_) (fun c1 => ?_)
      · exact hK _ _ _ _ (hk2.1 ((sy_le32 hy1 hx1).mp c1)) hL (sy_tl hk) hlen H locs ls hW hS hl
      · exact hK _ _ _ _ (hk2.2 (fun q => c1 ((sy_le32 hy1 hx1).mpr q))) hL (sy_tl hk) hlen H locs ls hW hS hl
    · obtain ⟨a, x, r, rfl, h1, hk2⟩ := sy_i1_e h
      have hx1 := sy_ri_iR h1 (sy_hd hk)
      refine lv_if_gt hx hb hd hj (fun c1 => ?_) (fun c1 => ?_)
      · exact hK _ _ _ _ (hk2.1 ((sy_lt32 hy1 hx1).mp c1)) hL (sy_tl hk) hlen H locs ls hW hS hl
      · exact hK _ _ _ _ (hk2.2 (fun q => c1 ((sy_lt32 hy1 hx1).mpr q))) hL (sy_tl hk) hlen H locs ls hW hS hl
    · obtain ⟨a, x, r, rfl, h1, hk2⟩ := sy_i1_e h
      have hx1 := sy_ri_iR h1 (sy_hd hk)
      refine lv_if_le hx hb hd hj (fun c1 => ?_) (fun c1 => ?_)
      · exact hK _ _ _ _ (hk2.1 ((sy_le32 hx1 hy1).mp c1)) hL (sy_tl hk) hlen H locs ls hW hS hl
      · exact hK _ _ _ _ (hk2.2 (fun q => c1 ((sy_le32 hx1 hy1).mpr q))) hL (sy_tl hk) hlen H locs ls hW hS hl
  case ifnull off =>
    obtain ⟨hd, rfl⟩ := sy_chk_e hchk rfl
    obtain ⟨o, r, rfl, h⟩ := sy_n1_e h
    cases o with
    | none =>
      refine lv_ifnullN hx hb hd (sy_chk_j hchk rfl) ?_
      exact hK _ _ _ _ h hL (sy_tl hk) hlen H locs ls hW hS hl
    | some a =>
      refine lv_ifnull hx hb hd ?_
      exact hK _ _ _ _ h hL (sy_tl hk) hlen H locs ls hW hS hl
  case ifnonnull off =>
    obtain ⟨hd, rfl⟩ := sy_chk_e hchk rfl
    obtain ⟨o, r, rfl, h⟩ := sy_n1_e h
    cases o with
    | none =>
      refine lv_ifnonnullN hx hb hd ?_
      exact hK _ _ _ _ h hL (sy_tl hk) hlen H locs ls hW hS hl
    | some a =>
      refine lv_ifnonnull hx hb hd (sy_chk_j hchk rfl) ?_
      exact hK _ _ _ _ h hL (sy_tl hk) hlen H locs ls hW hS hl
  case getfield q =>
    obtain ⟨hd, rfl⟩ := sy_chk_e hchk rfl
    have h : sy_get (M.2.1 q) k st fun r => K (pc + sy_len (.getfield q)) L r st := h
    unfold sy_get at h
    split at h
    · rename_i c0 j hq
      obtain ⟨a, r, rfl, ho, h⟩ := sy_a1_e h
      obtain ⟨C, T, N, g1, g2, g3⟩ := hfl _ _ _ hq
      obtain ⟨⟨w1, -, -⟩, hN⟩ := sy_cl_ok _ _ g1
      have ha : a < 37 + 2 * ns := sy_hd hk
      have he := (sy_wl_get wd ad ns st ha).trans (congrArg (fun e => some (ad a, e)) (sy_e_ob wd ad ns st ho))
      refine va_get (v := sy_cv ad (sy_fv st a j)) hx hb hts w1 hown hKK.1 hP a he g1 j g2 (hts _ g3) (fun _ h9 => h9) (by simp [← hN, g2]) hd ?_
      exact hK _ _ _ _ h hL (sy_cons (sy_fv_ok (by omega) (sy_ob_odd ho ha) (sy_ob32 ho) hG) (sy_tl hk)) hlen H locs ls hW hS hl
    · exact h.elim
  case putfield q =>
    obtain ⟨hd, rfl⟩ := sy_chk_e hchk rfl
    have h : sy_put (M.2.1 q) k st fun r t => K (pc + sy_len (.putfield q)) L r t := h
    unfold sy_put at h
    split at h
    · rename_i c0 j hq
      obtain ⟨b, z, r0, rfl, h⟩ := sy_i1_e h
      obtain ⟨a, r, rfl, ho, hz, h⟩ := sy_a1_e h
      split at h
      · rename_i t ht
        obtain ⟨hbz, h⟩ := h
        have hz := sy_ri_iR hz (sy_hd hk)
        obtain ⟨C, T, N, g1, g2, g3⟩ := hfl _ _ _ hq
        obtain ⟨⟨w1, ⟨ty, w2⟩, w3⟩, hN⟩ := sy_cl_ok _ _ g1
        obtain ⟨C', T', N', g1', p1, p2⟩ := sy_pt_ok _ _ _ ht
        have e9 := Option.some.inj (g1.symm.trans g1')
        injection e9 with e1 e9
        injection e9 with e2 e3
        subst e1; subst e2; subst e3
        have ha : a < 37 + 2 * ns := sy_hd (sy_tl hk)
        have hrf := sy_pt_rf a c0 j t ho ht
        have he := (sy_wl_get wd ad ns st ha).trans (congrArg (fun e => some (ad a, e)) (sy_e_ob wd ad ns st ho))
        refine va_put (v := .int (Int32.ofInt z)) hx hb hts w1 ty w2 w3 hown hKK.1 hP hD hS a he g1 j g2 (hts _ g3) (fun _ h9 => h9) p1 p2 ?_ ?_ (by simp [← hN, g2]) hd fun H1 locs1 hP1 hD1 hS1 => ?_
        · cases t
          · rfl
          · rcases hbz with rfl | rfl <;> rfl
        · cases t
          · rfl
          · rcases hbz with rfl | rfl <;> rfl
        · have e5 : (sy_wl wd ad ns st).set a (ad a, .inr (c0, ((List.range (sy_nf c0)).map fun k => sy_cv ad (sy_fv st a k)).set j (.int (Int32.ofInt z)))) = sy_wl wd ad ns (sy_up st a j z) := by
            refine sy_wl_set wd ad ns st _ ?_ (fun b hb => sy_e_ne wd ad ns st j z hb)
            rw [sy_e_ob wd ad ns _ ho, sy_fs_set ad st z hrf]
          rw [e5] at hP1 hD1
          exact hK _ _ _ _ h hL (sy_tl (sy_tl hk)) hlen H1 locs1 ls ⟨hP1, hD1, sy_rg_up hG (by rw [if_neg (sy_ob32 ho)]; exact hz)⟩ hS1 hl
      · exact h.elim
    · exact h.elim
  case iaload =>
    obtain ⟨hd, rfl⟩ := sy_chk_e hchk rfl
    obtain ⟨b, j, a, r, rfl, hj, ho, h0, h⟩ := sy_arr_e h
    have ha : a < 37 + 2 * ns := sy_hd (sy_tl hk)
    have he := (sy_wl_get wd ad ns st ha).trans (congrArg (fun e => some (ad a, e)) (sy_e_i wd ad ns st ho h0))
    refine va_iald hx hb hKK.1 hP a 0 he rfl (sy_in hj (sy_ar_le a)) hd ?_
    rw [sy_cl0 hj (sy_ar_le a)]
    exact hK _ _ _ _ h hL (sy_cons (sy_rg_i hG (sy_ar0 h0)) (sy_tl (sy_tl hk))) hlen H locs ls hW hS hl
  case laload =>
    obtain ⟨hd, rfl⟩ := sy_chk_e hchk rfl
    obtain ⟨b, j, a, r, rfl, hj, ho, h0, h⟩ := sy_arr_e h
    have ha : a < 37 + 2 * ns := sy_hd (sy_tl hk)
    have he := (sy_wl_get wd ad ns st ha).trans (congrArg (fun e => some (ad a, e)) (sy_e_l wd ad ns st ho h0))
    refine va_lald hx hb hKK.1 hP a 1 he rfl (sy_in hj (sy_ar_le a)) hd ?_
    rw [sy_cl0 hj (sy_ar_le a)]
    exact hK _ _ _ _ h hL (sy_cons (sy_rg_l hG) (sy_tl (sy_tl hk))) hlen H locs ls hW hS hl
  case aaload =>
    obtain ⟨hd, rfl⟩ := sy_chk_e hchk rfl
    obtain ⟨b, j, a, r, rfl, hj, rfl, h1, h2⟩ := sy_arr_e h
    have ha : 2 < 37 + 2 * ns := by omega
    have he := sy_wl_get wd ad ns st ha
    refine va_aldq hx hb hKK.1 hP 2 2 he rfl (sy_in hj (sy_ar_le 2)) hd ?_
    rw [sy_cl0 hj (sy_ar_le 2)]
    by_cases hc : j < ns
    · have hc2 : j.toNat < ns := by omega
      rw [if_pos hc2]
      exact hK _ _ _ _ (h1 hc) hL (sy_cons (show sy_nS j.toNat < 37 + 2 * ns by unfold sy_nS; omega) (sy_tl (sy_tl hk))) hlen H locs ls hW hS hl
    · have hc2 : ¬ j.toNat < ns := by omega
      rw [if_neg hc2]
      exact hK _ _ _ _ (h2 hc) hL (sy_cons trivial (sy_tl (sy_tl hk))) hlen H locs ls hW hS hl
  case iastore =>
    obtain ⟨hd, rfl⟩ := sy_chk_e hchk rfl
    obtain ⟨b, z, r0, rfl, hz, h⟩ := sy_i1_e h
    obtain ⟨b2, j, a, r, rfl, hj, ho, h0, h⟩ := sy_arr_e h
    have hz := sy_ri_iR hz (sy_hd hk)
    have ha : a < 37 + 2 * ns := sy_hd (sy_tl (sy_tl hk))
    have he := (sy_wl_get wd ad ns st ha).trans (congrArg (fun e => some (ad a, e)) (sy_e_i wd ad ns st ho h0))
    refine va_iast hx hb hKK.1 hP hD hS a 0 he rfl (sy_in hj (sy_ar_le a)) hd fun H1 locs1 hP1 hD1 hS1 => ?_
    have e5 : (sy_wl wd ad ns st).set a (ad a, .inl (wd.2.1, (sy_ar a).2, .inl (upd (fun j => Int32.ofInt (st a j)) (Int32.ofInt j).toNatClampNeg (Int32.ofInt z)))) = sy_wl wd ad ns (sy_up st a j.toNat z) := by
      refine sy_wl_set wd ad ns st _ ?_ (fun b hb => sy_e_ne wd ad ns st _ z hb)
      rw [sy_e_i wd ad ns _ ho h0, sy_cl0 hj (sy_ar_le a)]
      congr 4
      funext i
      by_cases hi : i = j.toNat
      · simp [upd, sy_up, hi]
      · simp [upd, sy_up, hi]
    rw [e5] at hP1 hD1
    exact hK _ _ _ _ h hL (sy_tl (sy_tl (sy_tl hk))) hlen H1 locs1 ls ⟨hP1, hD1, sy_rg_up hG (by rw [if_neg (sy_ar0 h0)]; exact hz)⟩ hS1 hl
  case lastore =>
    obtain ⟨hd, rfl⟩ := sy_chk_e hchk rfl
    obtain ⟨b, z, r0, rfl, hz, h⟩ := sy_l1_e h
    obtain ⟨b2, j, a, r, rfl, hj, ho, h0, h⟩ := sy_arr_e h
    have hz := sy_rl_lR hz (sy_hd hk)
    have ha : a < 37 + 2 * ns := sy_hd (sy_tl (sy_tl hk))
    have he := (sy_wl_get wd ad ns st ha).trans (congrArg (fun e => some (ad a, e)) (sy_e_l wd ad ns st ho h0))
    refine va_last hx hb hKK.1 hP hD hS a 1 he rfl (sy_in hj (sy_ar_le a)) hd fun H1 locs1 hP1 hD1 hS1 => ?_
    have e5 : (sy_wl wd ad ns st).set a (ad a, .inl (wd.2.2.1, (sy_ar a).2, .inr (.inl (vp_updL (fun j => Int64.ofInt (st a j)) (Int32.ofInt j).toNatClampNeg (Int64.ofInt z))))) = sy_wl wd ad ns (sy_up st a j.toNat z) := by
      refine sy_wl_set wd ad ns st _ ?_ (fun b hb => sy_e_ne wd ad ns st _ z hb)
      rw [sy_e_l wd ad ns _ ho h0, sy_cl0 hj (sy_ar_le a)]
      congr 5
      funext i
      by_cases hi : i = j.toNat
      · simp [vp_updL, sy_up, hi]
      · simp [vp_updL, sy_up, hi]
    rw [e5] at hP1 hD1
    exact hK _ _ _ _ h hL (sy_tl (sy_tl (sy_tl hk))) hlen H1 locs1 ls ⟨hP1, hD1, sy_rg_up hG (by rw [if_pos (sy_ar1 ⟨ho, h0⟩)]; exact hz)⟩ hS1 hl
  case arraylength =>
    obtain ⟨hd, rfl⟩ := sy_chk_e hchk rfl
    obtain ⟨a, r, rfl, ho, h⟩ := sy_a1_e h
    have ha : a < 37 + 2 * ns := sy_hd hk
    have hn := sy_ar_le a
    have he := sy_wl_get wd ad ns st ha
    have h9 := hK _ _ _ _ h hL (sy_cons (show sy_iR ((sy_ar a).2 : Int) from ⟨by omega, by omega⟩) (sy_tl hk)) hlen H locs ls hW hS hl
    have hc : (sy_ar a).1 = 0 ∨ (sy_ar a).1 = 1 ∨ (sy_ar a).1 = 2 := by
      unfold sy_ar
      split <;> simp
    unfold sy_e at he
    rw [ho] at he
    rcases hc with hc | hc | hc
    · simp only [hc] at he
      exact va_alen hx hb hKK.1 hP a 0 he rfl rfl hd h9
    · simp only [hc] at he
      exact va_alen hx hb hKK.1 hP a 1 he rfl rfl hd h9
    · simp only [hc] at he
      exact va_alen hx hb hKK.1 hP a 2 he rfl rfl hd h9
  case invokevirtual q =>
    obtain ⟨hd, rfl⟩ := sy_chk_e hchk rfl
    have h : sy_call false (M.2.2.2.2.1 q) k st fun r t => K (pc + sy_len (.invokevirtual q)) L r t := h
    unfold sy_call at h
    split at h
    · rename_i b n sp hq
      obtain ⟨rfl, hn, hw, hf, h⟩ := h
      have hc := hco _ _ _ _ hq pc L ((k.take n).reverse.map sy_kn) (k.drop n) st _ hd (by simp; omega) (fun v hv => ?_) h (fun r st' hp => hK _ _ _ _ hp) hw hL ?_ hlen H locs ls hW hS hl
      · rw [List.map_append, List.map_reverse, List.map_map, List.map_reverse] at hc
        have e6 : (sy_cv ad ∘ sy_kn) = sy_cv ad := funext fun v => sy_kn_cv ad v
        rw [e6, List.reverse_reverse, ← List.map_append, List.take_append_drop] at hc
        exact hc
      · obtain ⟨u, hu, rfl⟩ := List.mem_map.mp hv
        have hu := List.mem_reverse.mp hu
        exact sy_kn_ok (hk u (List.mem_of_mem_take hu)) (hf u hu)
      · intro v hv
        rcases List.mem_append.mp hv with hv | hv
        · obtain ⟨u, hu, rfl⟩ := List.mem_map.mp (List.mem_reverse.mp hv)
          have hu := List.mem_reverse.mp hu
          exact (sy_kn_ok (hk u (List.mem_of_mem_take hu)) (hf u hu)).1
        · exact hk v (List.mem_of_mem_drop hv)
    · exact h.elim
  case invokestatic q =>
    obtain ⟨hd, rfl⟩ := sy_chk_e hchk rfl
    have h : sy_call true (M.2.2.2.2.1 q) k st fun r t => K (pc + sy_len (.invokestatic q)) L r t := h
    unfold sy_call at h
    split at h
    · rename_i b n sp hq
      obtain ⟨rfl, hn, hw, hf, h⟩ := h
      have hc := hco _ _ _ _ hq pc L ((k.take n).reverse.map sy_kn) (k.drop n) st _ hd (by simp; omega) (fun v hv => ?_) h (fun r st' hp => hK _ _ _ _ hp) hw hL ?_ hlen H locs ls hW hS hl
      · rw [List.map_append, List.map_reverse, List.map_map, List.map_reverse] at hc
        have e6 : (sy_cv ad ∘ sy_kn) = sy_cv ad := funext fun v => sy_kn_cv ad v
        rw [e6, List.reverse_reverse, ← List.map_append, List.take_append_drop] at hc
        exact hc
      · obtain ⟨u, hu, rfl⟩ := List.mem_map.mp hv
        have hu := List.mem_reverse.mp hu
        exact sy_kn_ok (hk u (List.mem_of_mem_take hu)) (hf u hu)
      · intro v hv
        rcases List.mem_append.mp hv with hv | hv
        · obtain ⟨u, hu, rfl⟩ := List.mem_map.mp (List.mem_reverse.mp hv)
          have hu := List.mem_reverse.mp hu
          exact (sy_kn_ok (hk u (List.mem_of_mem_take hu)) (hf u hu)).1
        · exact hk v (List.mem_of_mem_drop hv)
    · exact h.elim
  case tableswitch df lo hi os =>
    have hd := sy_chk_t hchk rfl
    have hsw := (sy_chk_s hchk).2.2
    simp only [sy_swk, Bool.and_eq_true, decide_eq_true_eq, List.all_eq_true] at hsw
    obtain ⟨b, z, r, rfl, hz, h1, h2⟩ := sy_i1_e h
    have hz := sy_ri_iR hz (sy_hd hk)
    have e7 := sy_t32 hz
    by_cases hc : z < lo ∨ hi < z
    · refine lv_tableOut hx hb hd (by rw [e7]; exact hc) (sy_chk_j hchk rfl) ?_
      exact hK _ _ _ _ (h1 hc) hL (sy_tl hk) hlen H locs ls hW hS hl
    · have hj : (z - lo).toNat < os.toList.length := by omega
      have ho : os.toList[(z - lo).toNat]? = some (os.toList[(z - lo).toNat]) := List.getElem?_eq_getElem hj
      have h0 := hsw.2 _ (List.getElem_mem hj)
      refine lv_tableIn hx hb hd (by rw [e7]; omega) (by rw [e7]; omega) (off := os.toList[(z - lo).toNat]) (tgt := ((pc : Int) + os.toList[(z - lo).toNat]).toNat) (by rw [e7, ← Array.getElem?_toList]; exact ho) (by omega) ?_
      exact hK _ _ _ _ (sy_sw_e os.toList lo (z - lo).toNat _ h2 ho (by omega)) hL (sy_tl hk) hlen H locs ls hW hS hl
  case ireturn =>
    obtain ⟨hd, rfl⟩ := sy_chk_e hchk rfl
    have hty := (sy_chk_s hchk).2.1
    simp only [sy_rty, decide_eq_true_eq] at hty
    obtain ⟨a, z, rfl, hz, hb1, h⟩ := sy_ret_e h
    have hz := sy_ri_iR hz (sy_hd hk)
    subst hQ
    refine W.zret hx hb (hr.trans hty) ?_ (fun t ht hW9 => ?_) hS.2.2 hd hlk
    · cases hbl : M.2.2.2.2.2
      · rfl
      · rw [hbl] at hb1
        rcases hb1 with rfl | rfl <;> rfl
    · exact ⟨some (.inl (true, z)), st, rfl, h, fun v hv => by rw [List.mem_singleton.mp hv]; exact hz, by rw [ht]; exact hW, hS.F ht⟩
  case lreturn =>
    obtain ⟨hd, rfl⟩ := sy_chk_e hchk rfl
    have hty := (sy_chk_s hchk).2.1
    simp only [sy_rty, decide_eq_true_eq] at hty
    obtain ⟨a, z, rfl, hz, h⟩ := sy_lret_e h
    have hz := sy_rl_lR hz (sy_hd hk)
    subst hQ
    refine W.lret hx hb (hr.trans hty) (fun t ht hW9 => ?_) hS.2.2 hd hlk
    exact ⟨some (.inr (.inl (true, z))), st, rfl, h, fun v hv => by rw [List.mem_singleton.mp hv]; exact hz, by rw [ht]; exact hW, hS.F ht⟩
  case areturn =>
    obtain ⟨hd, rfl⟩ := sy_chk_e hchk rfl
    obtain ⟨C, rfl⟩ := sy_rty_a (sy_chk_s hchk).2.1
    obtain ⟨q, rfl, h⟩ := sy_aret_e h
    have hz := sy_hd hk
    subst hQ
    refine W.aret hx hb hr (Or.inl ⟨C, rfl⟩) (v := sy_cv ad (.inr (.inr (some q)))) (by cases q with
      | none => exact Or.inl rfl
      | some n => exact Or.inr ⟨_, rfl⟩) (fun t ht hW9 => ?_) hS.2.2 hd hlk
    exact ⟨some (.inr (.inr (some q))), st, rfl, h, fun v hv => by rw [List.mem_singleton.mp hv]; exact hz, by rw [ht]; exact hW, hS.F ht⟩
  case return_ =>
    obtain ⟨hd, rfl⟩ := sy_chk_e hchk rfl
    have hty := (sy_chk_s hchk).2.1
    simp only [sy_rty, decide_eq_true_eq] at hty
    obtain ⟨rfl, h⟩ := sy_vret_e h
    subst hQ
    refine W.vret hx hb (hr.trans hty) (fun t ht hW9 => ?_) hS.2.2 hd hlk
    exact ⟨none, st, rfl, h, (fun v hv => absurd hv List.not_mem_nil), by rw [ht]; exact hW, hS.F ht⟩
  all_goals exact (show False from h).elim
end SYS
