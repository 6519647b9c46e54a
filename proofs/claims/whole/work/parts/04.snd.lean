/-! SOUNDNESS OF THE ABSTRACT MACHINE, over the kit's rows -/
abbrev sy_D : Type := va_G × ClassId × ClassId × ClassId
def sy_nf (c : Nat) : Nat := match c with
  | 0 => 4 | 1 => 6 | 2 => 7 | 3 => 5 | 4 => 7 | 5 => 11 | 6 => 10 | 7 => 3 | 8 => 6 | _ => 19
def sy_e (wd : sy_D) (ad : Nat → Nat) (ns : Nat) (st : sy_S) (a : Nat) : va_E := match sy_ob a with
  | some c => .inr (c, (List.range (sy_nf c)).map fun k => sy_cv ad (sy_fv st a k))
  | none => .inl (match (sy_ar a).1 with
    | 0 => (wd.2.1, (sy_ar a).2, .inl fun j => Int32.ofInt (st a j))
    | 1 => (wd.2.2.1, (sy_ar a).2, .inr (.inl fun j => Int64.ofInt (st a j)))
    | _ => (wd.2.2.2, (sy_ar a).2, .inr (.inr (.inr (.inr fun j => if j < ns then some (ad (sy_nS j)) else none)))))
def sy_wl (wd : sy_D) (ad : Nat → Nat) (ns : Nat) (st : sy_S) : va_W := (List.range (37 + 2 * ns)).map fun a => (ad a, sy_e wd ad ns st a)
def sy_rg (st : sy_S) : Prop := ∀ a k, if a = 32 ∨ a = 33 then sy_lR (st a k) else sy_iR (st a k)
def sy_WO (wd : sy_D) (ad : Nat → Nat) (ns : Nat) (st : sy_S) (A : Nat → Prop) (H : Heap) : Prop := va_P wd.1 sy_cl (sy_wl wd ad ns st) H ∧ va_D A (sy_wl wd ad ns st) ∧ sy_rg st
def sy_nw : List Cond := [.methodLinkNest "StarHide$Net" 36 ⟨"StarHide", "within", "(III)Z"⟩ "StarHide", .methodLinkNest "StarHide$Net" 75 ⟨"StarHide", "isHeight", "(I)Z"⟩ "StarHide", .methodLinkNest "StarHide$Planner" 64 ⟨"StarHide", "within", "(III)Z"⟩ "StarHide"]
def sy_KK (wd : sy_D) (U : State) : Prop := va_K wd.1 sy_cl [(wd.2.1, .int), (wd.2.2.1, .long), (wd.2.2.2, .object R_6)] U ∧ ∀ w ∈ sy_nw, va_Nw w U
theorem sy_nw_in : ∀ w ∈ sy_nw, w ∈ lw_tbl := by decide +kernel
def sy_WA (p : Program) (l : Launch) (e : Env) (R : Room) (s : State) (m : MethodId) (args : Array Value) (below : List Frame) (meth : Method) (c : Code) (nL : Nat) (wd : sy_D) (ad : Nat → Nat) (ns : Nat) (A : Nat → Prop) (Q : State → Prop) : sy_K := fun pc L k st =>
  (∀ v ∈ L, sy_ok (37 + 2 * ns) v) → (∀ v ∈ k, sy_ok (37 + 2 * ns) v) → L.length = nL → ∀ (H : Heap) (locs : List Loc) (ls : Array Slot), sy_WO wd ad ns st A H → va_S A s.heap H locs → lv_has ls nL (sy_lv ad 0 L) → W p l e R s m args below meth c H locs 0 0 Q (F0 m pc ls (k.map (sy_cv ad)))
/-! plain facts -/
theorem sy_t32 {z : Int} (h : sy_iR z) : (Int32.ofInt z).toInt = z := Int32.toInt_ofInt_of_le h.1 h.2
theorem sy_t64 {z : Int} (h : sy_lR z) : (Int64.ofInt z).toInt = z := Int64.toInt_ofInt_of_le h.1 h.2
theorem sy_iR_of (x : Int32) : sy_iR x.toInt := ⟨Int32.le_toInt x, Int32.toInt_lt x⟩
theorem sy_lt32 {x y : Int} (hx : sy_iR x) (hy : sy_iR y) : Int32.ofInt x < Int32.ofInt y ↔ x < y := by rw [Int32.lt_iff_toInt_lt, sy_t32 hx, sy_t32 hy]
theorem sy_le32 {x y : Int} (hx : sy_iR x) (hy : sy_iR y) : Int32.ofInt x ≤ Int32.ofInt y ↔ x ≤ y := by rw [Int32.le_iff_toInt_le, sy_t32 hx, sy_t32 hy]
theorem sy_eq32 {x y : Int} (hx : sy_iR x) (hy : sy_iR y) : Int32.ofInt x = Int32.ofInt y ↔ x = y := by rw [← Int32.toInt_inj, sy_t32 hx, sy_t32 hy]
theorem sy_lt64 {x y : Int} (hx : sy_lR x) (hy : sy_lR y) : Int64.ofInt x < Int64.ofInt y ↔ x < y := by rw [Int64.lt_iff_toInt_lt, sy_t64 hx, sy_t64 hy]
theorem sy_eq64 {x y : Int} (hx : sy_lR x) (hy : sy_lR y) : Int64.ofInt x = Int64.ofInt y ↔ x = y := by rw [← Int64.toInt_inj, sy_t64 hx, sy_t64 hy]
theorem sy_z32 : sy_iR 0 := ⟨by decide, by decide⟩
theorem sy_0 : Int32.ofInt 0 = 0 := rfl
theorem sy_tdiv (x y : Int) (hx : sy_iR x) (hy : sy_iR y) : Int32.ofInt x / Int32.ofInt y = Int32.ofInt (x.tdiv y) := by
  rw [← Int32.toInt_inj, Int32.toInt_div, sy_t32 hx, sy_t32 hy, Int32.toInt_ofInt]
theorem sy_tmod (x y : Int) (hx : sy_iR x) (hy : sy_iR y) : Int32.ofInt x - Int32.ofInt x / Int32.ofInt y * Int32.ofInt y = Int32.ofInt (x.tmod y) := by
  rw [sy_tdiv x y hx hy, ← Int32.ofInt_mul, ← Int32.ofInt_sub, Int.tmod_def, Int.mul_comm]
theorem sy_b8 {z : Int} (h1 : -128 ≤ z) (h2 : z < 128) : (Int8.ofInt z).toInt32 = Int32.ofInt z := by
  rw [← Int32.toInt_inj, Int8.toInt_toInt32, Int8.toInt_ofInt_of_le h1 h2, sy_t32 ⟨by omega, by omega⟩]
theorem sy_b16 {z : Int} (h1 : -32768 ≤ z) (h2 : z < 32768) : (Int16.ofInt z).toInt32 = Int32.ofInt z := by
  rw [← Int32.toInt_inj, Int16.toInt_toInt32, Int16.toInt_ofInt_of_le h1 h2, sy_t32 ⟨by omega, by omega⟩]
theorem sy_i2l {z : Int} (h : sy_iR z) : (Int32.ofInt z).toInt64 = Int64.ofInt z := by
  have h2 : sy_lR z := by unfold sy_iR at h; unfold sy_lR; omega
  rw [← Int64.toInt_inj, Int32.toInt_toInt64, sy_t32 h, sy_t64 h2]
theorem sy_l2i (z : Int) : (Int64.ofInt z).toInt32 = Int32.ofInt z := by
  rw [← Int32.toInt_inj, Int64.toInt_toInt32, Int64.toInt_ofInt, Int32.toInt_ofInt]
  exact Int.bmod_bmod_of_dvd (by decide)
theorem sy_lcmp {x y : Int} (hx : sy_lR x) (hy : sy_lR y) : lg_cmp (Int64.ofInt x) (Int64.ofInt y) = Int32.ofInt (sy_cmp x y) := by
  unfold lg_cmp sy_cmp
  by_cases h : y < x
  · rw [if_pos ((sy_lt64 hy hx).mpr h), if_pos h]; rfl
  · rw [if_neg (fun q => h ((sy_lt64 hy hx).mp q)), if_neg h]
    by_cases h2 : x = y
    · rw [if_pos ((sy_eq64 hx hy).mpr h2), if_pos h2]; rfl
    · rw [if_neg (fun q => h2 ((sy_eq64 hx hy).mp q)), if_neg h2]; rfl
theorem sy_ri_iR {b : Bool} {z : Int} {N : Nat} (h : sy_ri b z) (ho : sy_ok N (.inl (b, z))) : sy_iR z := by
  cases b
  · exact h
  · exact ho
theorem sy_rl_lR {b : Bool} {z : Int} {N : Nat} (h : sy_rl b z) (ho : sy_ok N (.inr (.inl (b, z)))) : sy_lR z := by
  cases b
  · exact h
  · exact ho
theorem sy_cmp_R (x y : Int) : sy_iR (sy_cmp x y) := by
  unfold sy_cmp sy_iR
  split
  · omega
  · split <;> omega
theorem sy_i1_e {k : List sy_V} {f : Bool → Int → List sy_V → Prop} (h : sy_i1 k f) : ∃ b x r, k = .inl (b, x) :: r ∧ f b x r := by
  unfold sy_i1 at h
  split at h
  · exact ⟨_, _, _, rfl, h⟩
  · exact h.elim
theorem sy_l1_e {k : List sy_V} {f : Bool → Int → List sy_V → Prop} (h : sy_l1 k f) : ∃ b x r, k = .inr (.inl (b, x)) :: r ∧ f b x r := by
  unfold sy_l1 at h
  split at h
  · exact ⟨_, _, _, rfl, h⟩
  · exact h.elim
theorem sy_n1_e {k : List sy_V} {f : Option Nat → List sy_V → Prop} (h : sy_n1 k f) : ∃ o r, k = .inr (.inr (some o)) :: r ∧ f o r := by
  unfold sy_n1 at h
  split at h
  · exact ⟨_, _, rfl, h⟩
  · exact h.elim
theorem sy_a1_e {k : List sy_V} {f : Nat → List sy_V → Prop} (h : sy_a1 k f) : ∃ a r, k = .inr (.inr (some (some a))) :: r ∧ f a r := by
  unfold sy_a1 at h
  split at h
  · exact ⟨_, _, rfl, h⟩
  · exact h.elim
theorem sy_i2_e {k : List sy_V} {f : Bool → Int → Bool → Int → List sy_V → Prop} (h : sy_i2 k f) : ∃ a x b y r, k = .inl (b, y) :: .inl (a, x) :: r ∧ f a x b y r := by
  obtain ⟨b, y, r, rfl, h1⟩ := sy_i1_e h
  obtain ⟨a, x, r2, rfl, h2⟩ := sy_i1_e h1
  exact ⟨a, x, b, y, r2, rfl, h2⟩
theorem sy_l2_e {k : List sy_V} {f : Bool → Int → Bool → Int → List sy_V → Prop} (h : sy_l2 k f) : ∃ a x b y r, k = .inr (.inl (b, y)) :: .inr (.inl (a, x)) :: r ∧ f a x b y r := by
  obtain ⟨b, y, r, rfl, h1⟩ := sy_l1_e h
  obtain ⟨a, x, r2, rfl, h2⟩ := sy_l1_e h1
  exact ⟨a, x, b, y, r2, rfl, h2⟩
theorem sy_arr_e {k : List sy_V} {f : Int → Nat → List sy_V → Prop} (h : sy_arr k f) : ∃ b i a r, k = .inl (b, i) :: .inr (.inr (some (some a))) :: r ∧ (0 ≤ i ∧ i < (sy_ar a).2) ∧ f i a r := by
  obtain ⟨b, y, r, rfl, h1⟩ := sy_i1_e h
  obtain ⟨a, r2, rfl, h2⟩ := sy_a1_e h1
  exact ⟨b, y, a, r2, rfl, h2⟩
theorem sy_ldi_e {v : sy_V} {f : Int → Prop} (h : sy_ldi v f) : ∃ z, v = .inl (true, z) ∧ f z := by
  unfold sy_ldi at h
  split at h
  · exact ⟨_, rfl, h⟩
  · exact h.elim
theorem sy_ldl_e {v : sy_V} {f : Int → Prop} (h : sy_ldl v f) : ∃ z, v = .inr (.inl (true, z)) ∧ f z := by
  unfold sy_ldl at h
  split at h
  · exact ⟨_, rfl, h⟩
  · exact h.elim
theorem sy_lda_e {v : sy_V} {f : Option Nat → Prop} (h : sy_lda v f) : ∃ o, v = .inr (.inr (some o)) ∧ f o := by
  unfold sy_lda at h
  split at h
  · exact ⟨_, rfl, h⟩
  · exact h.elim
theorem sy_cst_e {q : Option Int} {f : Int → Prop} (h : sy_cst q f) : ∃ z, q = some z ∧ f z := by
  unfold sy_cst at h
  split at h
  · exact ⟨_, rfl, h⟩
  · exact h.elim
/-! the locals -/
theorem sy_loc_in : ∀ (L : List sy_V) (i : Nat), sy_set (sy_loc L i) = true → sy_loc L i ∈ L
  | [], 0, h => by simp [sy_loc, sy_set] at h
  | [], i + 1, h => by simp [sy_loc, sy_set] at h
  | a :: r, 0, h => by simp [sy_loc]
  | a :: r, i + 1, h => by
    simp only [sy_loc] at h ⊢
    exact List.mem_cons_of_mem _ (sy_loc_in r i h)
theorem sy_lv_loc (ad : Nat → Nat) : ∀ (L : List sy_V) (i j : Nat), sy_set (sy_loc L i) = true → (j + i, sy_cv ad (sy_loc L i)) ∈ sy_lv ad j L
  | [], 0, j, h => by simp [sy_loc, sy_set] at h
  | [], i + 1, j, h => by simp [sy_loc, sy_set] at h
  | a :: r, 0, j, h => by
    simp only [sy_loc] at h ⊢
    simp [sy_lv, h]
  | a :: r, i + 1, j, h => by
    simp only [sy_loc] at h ⊢
    have := sy_lv_loc ad r i (j + 1) h
    rw [show j + (i + 1) = j + 1 + i by omega]
    unfold sy_lv
    split
    · exact List.mem_cons_of_mem _ this
    · exact this
theorem sy_lv_e (ad : Nat → Nat) : ∀ (L : List sy_V) (j : Nat) (q : Nat × Value), q ∈ sy_lv ad j L → ∃ i, q = (j + i, sy_cv ad (sy_loc L i)) ∧ sy_set (sy_loc L i) = true
  | [], j, q, h => by simp [sy_lv] at h
  | a :: r, j, q, h => by
    unfold sy_lv at h
    split at h
    · rcases List.mem_cons.mp h with rfl | h
      · exact ⟨0, by simp [sy_loc], by simpa [sy_loc]⟩
      · obtain ⟨i, h1, h2⟩ := sy_lv_e ad r (j + 1) q h
        exact ⟨i + 1, by rw [h1, show j + 1 + i = j + (i + 1) by omega]; simp [sy_loc], by simpa [sy_loc]⟩
    · obtain ⟨i, h1, h2⟩ := sy_lv_e ad r (j + 1) q h
      exact ⟨i + 1, by rw [h1, show j + 1 + i = j + (i + 1) by omega]; simp [sy_loc], by simpa [sy_loc]⟩
theorem sy_sto_len : ∀ (L : List sy_V) (i : Nat) (v : sy_V), (sy_sto L i v).length = L.length
  | [], 0, v => rfl
  | [], 1, v => rfl
  | [], i + 2, v => rfl
  | a :: r, 0, v => rfl
  | a :: r, 1, v => by simp [sy_sto, sy_sto_len r 0 v]
  | a :: r, i + 2, v => by simp [sy_sto, sy_sto_len r (i + 1) v]
theorem sy_gone_len : ∀ (L : List sy_V) (i : Nat), (sy_gone L i).length = L.length
  | [], 0 => rfl
  | [], i + 1 => rfl
  | a :: r, 0 => rfl
  | a :: r, i + 1 => by simp [sy_gone, sy_gone_len r i]
theorem sy_loc_nil (j : Nat) : sy_loc [] j = .inr (.inr none) := by cases j <;> rfl
/-- what stands in the locals behind a store: the new value, or an old one that the store leaves -/
theorem sy_sto_loc : ∀ (L : List sy_V) (i : Nat) (v : sy_V) (j : Nat), sy_set (sy_loc (sy_sto L i v) j) = true → (j = i ∧ sy_loc (sy_sto L i v) j = v) ∨ (j ≠ i ∧ sy_loc (sy_sto L i v) j = sy_loc L j ∧ ¬ (j + 1 = i ∧ sy_cat2 (sy_loc L j) = true))
  | [], 0, v, j, h => by rw [sy_sto, sy_loc_nil] at h; simp [sy_set] at h
  | [], 1, v, j, h => by rw [sy_sto, sy_loc_nil] at h; simp [sy_set] at h
  | [], i + 2, v, j, h => by rw [sy_sto, sy_loc_nil] at h; simp [sy_set] at h
  | a :: r, 0, v, 0, h => Or.inl ⟨rfl, rfl⟩
  | a :: r, 0, v, j + 1, h => Or.inr ⟨by omega, rfl, by omega⟩
  | a :: r, 1, v, 0, h => by
    simp only [sy_sto, sy_loc] at h ⊢
    by_cases hc : sy_cat2 a = true
    · rw [if_pos hc] at h; simp [sy_set] at h
    · rw [if_neg hc]; exact Or.inr ⟨by omega, rfl, fun q => hc q.2⟩
  | a :: r, 1, v, j + 1, h => by
    simp only [sy_sto, sy_loc] at h ⊢
    rcases sy_sto_loc r 0 v j h with ⟨h1, h2⟩ | ⟨h1, h2, h3⟩
    · exact Or.inl ⟨by omega, h2⟩
    · exact Or.inr ⟨by omega, h2, by omega⟩
  | a :: r, i + 2, v, 0, h => Or.inr ⟨by omega, rfl, fun q => by omega⟩
  | a :: r, i + 2, v, j + 1, h => by
    simp only [sy_sto, sy_loc] at h ⊢
    rcases sy_sto_loc r (i + 1) v j h with ⟨h1, h2⟩ | ⟨h1, h2, h3⟩
    · exact Or.inl ⟨by omega, h2⟩
    · exact Or.inr ⟨by omega, h2, fun q => h3 ⟨by omega, q.2⟩⟩
theorem sy_gone_loc : ∀ (L : List sy_V) (i : Nat) (j : Nat), sy_set (sy_loc (sy_gone L i) j) = true → j ≠ i ∧ sy_loc (sy_gone L i) j = sy_loc L j
  | [], 0, j, h => by rw [sy_gone, sy_loc_nil] at h; simp [sy_set] at h
  | [], i + 1, j, h => by rw [sy_gone, sy_loc_nil] at h; simp [sy_set] at h
  | a :: r, 0, 0, h => by simp [sy_gone, sy_loc, sy_set] at h
  | a :: r, 0, j + 1, h => ⟨by omega, rfl⟩
  | a :: r, i + 1, 0, h => ⟨by omega, rfl⟩
  | a :: r, i + 1, j + 1, h => by
    simp only [sy_gone, sy_loc] at h ⊢
    obtain ⟨h1, h2⟩ := sy_gone_loc r i j h
    exact ⟨by omega, h2⟩
theorem sy_cv_cat (ad : Nat → Nat) (v : sy_V) : ((sy_cv ad v).category == 2) = sy_cat2 v := by
  rcases v with ⟨b, z⟩ | ⟨b, z⟩ | _ | _ | n <;> rfl
theorem sy_has_mono {ls : Array Slot} {n : Nat} {l l' : List (Nat × Value)} (h : lv_has ls n l) (hs : ∀ q ∈ l', q ∈ l) : lv_has ls n l' := ⟨h.1, h.2.1, fun q hq => h.2.2 q (hs q hq)⟩
theorem sy_sto_has {ad : Nat → Nat} {ls : Array Slot} {n i : Nat} {L : List sy_V} {v : sy_V} {lv' : List (Nat × Value)} (hl : (i, sy_cv ad v) :: (sy_lv ad 0 L).filter (fun q => !(q.1 == i) && !(q.1 + 1 == i && q.2.category == 2)) = lv') (h : lv_has ls n lv') : lv_has ls n (sy_lv ad 0 (sy_sto L i v)) := by
  refine sy_has_mono h fun q hq => ?_
  obtain ⟨j, rfl, hj⟩ := sy_lv_e ad _ 0 q hq
  rw [Nat.zero_add, ← hl]
  rcases sy_sto_loc L i v j hj with ⟨h1, h2⟩ | ⟨h1, h2, h3⟩
  · rw [h2, h1]; exact List.mem_cons_self
  · rw [h2] at hj ⊢
    refine List.mem_cons_of_mem _ (List.mem_filter.mpr ⟨?_, ?_⟩)
    · have := sy_lv_loc ad L j 0 hj
      rwa [Nat.zero_add] at this
    · rw [sy_cv_cat]
      simp only [Bool.and_eq_true, Bool.not_eq_true', beq_eq_false_iff_ne, ne_eq, Bool.and_eq_false_iff]
      refine ⟨h1, ?_⟩
      by_cases h4 : j + 1 = i
      · right
        cases hc : sy_cat2 (sy_loc L j)
        · rfl
        · exact absurd ⟨h4, hc⟩ h3
      · left; exact h4
theorem sy_lsto_has {ad : Nat → Nat} {ls : Array Slot} {n i : Nat} {L : List sy_V} {v : sy_V} {lv' : List (Nat × Value)} (hl : (i, sy_cv ad v) :: (sy_lv ad 0 L).filter (fun q => !(q.1 == i) && (!(q.1 == i + 1) && !(q.1 + 1 == i && q.2.category == 2))) = lv') (h : lv_has ls n lv') : lv_has ls n (sy_lv ad 0 (sy_gone (sy_sto L i v) (i + 1))) := by
  refine sy_has_mono h fun q hq => ?_
  obtain ⟨j, rfl, hj⟩ := sy_lv_e ad _ 0 q hq
  rw [Nat.zero_add, ← hl]
  obtain ⟨g1, g2⟩ := sy_gone_loc _ _ _ hj
  rw [g2] at hj ⊢
  rcases sy_sto_loc L i v j hj with ⟨h1, h2⟩ | ⟨h1, h2, h3⟩
  · rw [h2, h1]; exact List.mem_cons_self
  · rw [h2] at hj ⊢
    refine List.mem_cons_of_mem _ (List.mem_filter.mpr ⟨?_, ?_⟩)
    · have := sy_lv_loc ad L j 0 hj
      rwa [Nat.zero_add] at this
    · rw [sy_cv_cat]
      simp only [Bool.and_eq_true, Bool.not_eq_true', beq_eq_false_iff_ne, ne_eq, Bool.and_eq_false_iff]
      refine ⟨h1, g1, ?_⟩
      by_cases h4 : j + 1 = i
      · right
        cases hc : sy_cat2 (sy_loc L j)
        · rfl
        · exact absurd ⟨h4, hc⟩ h3
      · left; exact h4
theorem sy_in_loc : ∀ (L : List sy_V) (v : sy_V), v ∈ L → ∃ j, sy_loc L j = v
  | [], v, h => by simp at h
  | a :: r, v, h => by
    rcases List.mem_cons.mp h with rfl | h
    · exact ⟨0, rfl⟩
    · obtain ⟨j, hj⟩ := sy_in_loc r v h
      exact ⟨j + 1, hj⟩
theorem sy_ok_unset (N : Nat) (v : sy_V) (h : sy_set v = false) : sy_ok N v := by
  rcases v with ⟨b, z⟩ | ⟨b, z⟩ | _ | _ | n <;> simp [sy_set, sy_ok] at h ⊢
theorem sy_sto_ok {N i : Nat} {L : List sy_V} {v : sy_V} (hL : ∀ u ∈ L, sy_ok N u) (hv : sy_ok N v) : ∀ u ∈ sy_sto L i v, sy_ok N u := by
  intro u hu
  obtain ⟨j, rfl⟩ := sy_in_loc _ _ hu
  cases hs : sy_set (sy_loc (sy_sto L i v) j)
  · exact sy_ok_unset N _ hs
  · rcases sy_sto_loc L i v j hs with ⟨h1, h2⟩ | ⟨h1, h2, h3⟩
    · rw [h2]; exact hv
    · rw [h2] at hs ⊢; exact hL _ (sy_loc_in L j hs)
theorem sy_gone_ok {N i : Nat} {L : List sy_V} (hL : ∀ u ∈ L, sy_ok N u) : ∀ u ∈ sy_gone L i, sy_ok N u := by
  intro u hu
  obtain ⟨j, rfl⟩ := sy_in_loc _ _ hu
  cases hs : sy_set (sy_loc (sy_gone L i) j)
  · exact sy_ok_unset N _ hs
  · obtain ⟨h1, h2⟩ := sy_gone_loc L i j hs
    rw [h2] at hs ⊢; exact hL _ (sy_loc_in L j hs)
theorem sy_at {ad : Nat → Nat} {ls : Array Slot} {n i : Nat} {L : List sy_V} {v : sy_V} (h : lv_has ls n (sy_lv ad 0 L)) (hi : sy_loc L i = v) (hs : sy_set v = true) : ls[i]? = some (.val (sy_cv ad v)) := by
  subst hi
  have := sy_lv_loc ad L i 0 hs
  rw [Nat.zero_add] at this
  exact h.2.2 _ this
theorem sy_at_k {ad : Nat → Nat} {i : Nat} {L : List sy_V} {v : sy_V} (hi : sy_loc L i = v) (hs : sy_set v = true) : ∃ k : Nat, (sy_lv ad 0 L)[k]? = some (i, sy_cv ad v) := by
  subst hi
  have := sy_lv_loc ad L i 0 hs
  rw [Nat.zero_add] at this
  exact List.mem_iff_getElem?.mp this
/-! the world -/
theorem sy_wl_get (wd : sy_D) (ad : Nat → Nat) (ns : Nat) (st : sy_S) {a : Nat} (h : a < 37 + 2 * ns) : (sy_wl wd ad ns st)[a]? = some (ad a, sy_e wd ad ns st a) := by
  simp [sy_wl, h]
theorem sy_wl_set (wd : sy_D) (ad : Nat → Nat) (ns : Nat) (st st' : sy_S) {a : Nat} {e : va_E} (he : sy_e wd ad ns st' a = e) (ho : ∀ b, b ≠ a → sy_e wd ad ns st' b = sy_e wd ad ns st b) : (sy_wl wd ad ns st).set a (ad a, e) = sy_wl wd ad ns st' := by
  apply List.ext_getElem?
  intro i
  by_cases hi : i = a
  · subst hi
    by_cases hl : i < 37 + 2 * ns
    · rw [List.getElem?_set_self (by simpa [sy_wl] using hl), sy_wl_get _ _ _ _ hl, he]
    · rw [List.getElem?_eq_none (by simpa [sy_wl] using hl), List.getElem?_eq_none (by simpa [sy_wl] using hl)]
  · rw [List.getElem?_set_ne (fun q => hi q.symm)]
    by_cases hl : i < 37 + 2 * ns
    · rw [sy_wl_get _ _ _ _ hl, sy_wl_get _ _ _ _ hl, ho i hi]
    · rw [List.getElem?_eq_none (by simpa [sy_wl] using hl), List.getElem?_eq_none (by simpa [sy_wl] using hl)]
theorem sy_up_ne {s : sy_S} {a b : Nat} (k : Nat) (z : Int) (h : b ≠ a) : sy_up s a k z b = s b := by
  funext j
  simp [sy_up, h]
theorem sy_e_ne (wd : sy_D) (ad : Nat → Nat) (ns : Nat) (st : sy_S) {a b : Nat} (k : Nat) (z : Int) (h : b ≠ a) : sy_e wd ad ns (sy_up st a k z) b = sy_e wd ad ns st b := by
  unfold sy_e sy_fv
  simp only [sy_up_ne k z h]
theorem sy_rg_up {st : sy_S} {a k : Nat} {z : Int} (h : sy_rg st) (hz : if a = 32 ∨ a = 33 then sy_lR z else sy_iR z) : sy_rg (sy_up st a k z) := by
  intro b j
  by_cases hb : b = a ∧ j = k
  · obtain ⟨rfl, rfl⟩ := hb
    simpa [sy_up] using hz
  · have : sy_up st a k z b j = st b j := by simp [sy_up, hb]
    rw [this]; exact h b j
theorem sy_cl_nf : ∀ c, c < 10 → ∃ r, sy_cl[c]? = some r ∧ r.2.2 = sy_nf c := by
  intro c hc
  match c, hc with
  | 0, _ => exact ⟨_, rfl, rfl⟩
  | 1, _ => exact ⟨_, rfl, rfl⟩
  | 2, _ => exact ⟨_, rfl, rfl⟩
  | 3, _ => exact ⟨_, rfl, rfl⟩
  | 4, _ => exact ⟨_, rfl, rfl⟩
  | 5, _ => exact ⟨_, rfl, rfl⟩
  | 6, _ => exact ⟨_, rfl, rfl⟩
  | 7, _ => exact ⟨_, rfl, rfl⟩
  | 8, _ => exact ⟨_, rfl, rfl⟩
  | 9, _ => exact ⟨_, rfl, rfl⟩
  | c + 10, h => omega
