def y_5_init : MethodName := ⟨"StarHide$Search", "<init>", "(LStarHide$Sites;LStarHide$Net;)V"⟩
abbrev c_5_init : ByteArray := prog_7_method_1_code
def y_5_forget : MethodName := ⟨"StarHide$Search", "forget", "(I)V"⟩
abbrev c_5_forget : ByteArray := prog_7_method_2_code
def tc_5_forget (pc : Nat) : Option sy_I := match pc with
  | 0 => some (.aload_n 0, 1, 0)
  | 1 => some (.dup, 2, 0)
  | 2 => some (.getfield 17, 5, 0)
  | 5 => some (.iconst 1, 6, 0)
  | 6 => some (.iload_n 1, 7, 0)
  | 7 => some (.ishl, 8, 0)
  | 8 => some (.ior, 9, 0)
  | 9 => some (.putfield 17, 12, 0)
  | 12 => some (.aload_n 0, 13, 0)
  | 13 => some (.iconst (-1), 14, 0)
  | 14 => some (.putfield 28, 17, 0)
  | 17 => some (.return_, 18, 0)
  | _ => none
theorem tv_5_forget : ∀ pc i, sy_lk 18 tc_5_forget pc = some i → sy_chk c_5_forget none false pc i = true := sy_lk_ok 18 tc_5_forget (by decide +kernel)
def Mk_5_forget (ct : Nat → Option (Bool × Nat × sy_Sp)) : sy_M := (sy_lk 18 tc_5_forget, ff_5, ki_5, kl_5, ct, false)
def rn_5_forget (ns : Nat) (ct : Nat → Option (Bool × Nat × sy_Sp)) (R : sy_R) (K : sy_K) : Nat → sy_K := sy_run ns (Mk_5_forget ct) [] R K
theorem rx_5_forget_0 {ns n ct R K s k z v1} : rn_5_forget ns ct R K (n + 1) 0 [.inr (.inr (some z)), v1] k s = (rn_5_forget ns ct R K n 1 [.inr (.inr (some z)), v1] (.inr (.inr (some z)) :: k) s) := rfl
theorem rx_5_forget_1_i {ns n ct R K s L k a} : rn_5_forget ns ct R K (n + 1) 1 L (.inl a :: k) s = (rn_5_forget ns ct R K n 2 L (.inl a :: .inl a :: k) s) := rfl
theorem rx_5_forget_1 {ns n ct R K s L k a} : rn_5_forget ns ct R K (n + 1) 1 L (.inr (.inr a) :: k) s = (rn_5_forget ns ct R K n 2 L (.inr (.inr a) :: .inr (.inr a) :: k) s) := rfl
theorem rx_5_forget_2 {ns n ct R K s L k a} : rn_5_forget ns ct R K (n + 1) 2 L (.inr (.inr (some (some a))) :: k) s = (sy_ob a = some 5 ∧ rn_5_forget ns ct R K n 5 L (sy_fv s a 3 :: k) s) := rfl
theorem rx_5_forget_5 {ns n ct R K s L k} : rn_5_forget ns ct R K (n + 1) 5 L k s = (rn_5_forget ns ct R K n 6 L (.inl (true, 1) :: k) s) := rfl
theorem rx_5_forget_6 {ns n ct R K s k z v0} : rn_5_forget ns ct R K (n + 1) 6 [v0, .inl (true, z)] k s = (rn_5_forget ns ct R K n 7 [v0, .inl (true, z)] (.inl (true, z) :: k) s) := rfl
theorem rx_5_forget_7 {ns n ct R K s L k a b x y} : rn_5_forget ns ct R K (n + 1) 7 L (.inl (b, y) :: .inl (a, x) :: k) s = (rn_5_forget ns ct R K n 8 L (.inl (true, (Int32.ofInt x <<< (Int32.ofInt y &&& 31)).toInt) :: k) s) := rfl
theorem rx_5_forget_8 {ns n ct R K s L k a b x y} : rn_5_forget ns ct R K (n + 1) 8 L (.inl (b, y) :: .inl (a, x) :: k) s = (rn_5_forget ns ct R K n 9 L (.inl (true, (Int32.ofInt x ||| Int32.ofInt y).toInt) :: k) s) := rfl
theorem rx_5_forget_9 {ns n ct R K s L k a b z} : rn_5_forget ns ct R K (n + 1) 9 L (.inl (b, z) :: .inr (.inr (some (some a))) :: k) s = (sy_ob a = some 5 ∧ sy_ri b z ∧ sy_b01 false z ∧ rn_5_forget ns ct R K n 12 L k (sy_up s a 3 z)) := rfl
theorem rx_5_forget_12 {ns n ct R K s k z v1} : rn_5_forget ns ct R K (n + 1) 12 [.inr (.inr (some z)), v1] k s = (rn_5_forget ns ct R K n 13 [.inr (.inr (some z)), v1] (.inr (.inr (some z)) :: k) s) := rfl
theorem rx_5_forget_13 {ns n ct R K s L k} : rn_5_forget ns ct R K (n + 1) 13 L k s = (rn_5_forget ns ct R K n 14 L (.inl (true, (-1)) :: k) s) := rfl
theorem rx_5_forget_14 {ns n ct R K s L k a b z} : rn_5_forget ns ct R K (n + 1) 14 L (.inl (b, z) :: .inr (.inr (some (some a))) :: k) s = (sy_ob a = some 5 ∧ sy_ri b z ∧ sy_b01 false z ∧ rn_5_forget ns ct R K n 17 L k (sy_up s a 10 z)) := rfl
theorem rx_5_forget_17 {ns n ct R K s L} : rn_5_forget ns ct R K (n + 1) 17 L [] s = (R none s) := rfl
def y_5_forgetAll : MethodName := ⟨"StarHide$Search", "forgetAll", "()V"⟩
abbrev c_5_forgetAll : ByteArray := prog_7_method_3_code
def tc_5_forgetAll (pc : Nat) : Option sy_I := match pc with
  | 0 => some (.aload_n 0, 1, 0)
  | 1 => some (.iconst (-1), 2, 0)
  | 2 => some (.putfield 17, 5, 0)
  | 5 => some (.aload_n 0, 6, 0)
  | 6 => some (.iconst (-1), 7, 0)
  | 7 => some (.putfield 28, 10, 0)
  | 10 => some (.return_, 11, 0)
  | _ => none
theorem tv_5_forgetAll : ∀ pc i, sy_lk 11 tc_5_forgetAll pc = some i → sy_chk c_5_forgetAll none false pc i = true := sy_lk_ok 11 tc_5_forgetAll (by decide +kernel)
def Mk_5_forgetAll (ct : Nat → Option (Bool × Nat × sy_Sp)) : sy_M := (sy_lk 11 tc_5_forgetAll, ff_5, ki_5, kl_5, ct, false)
def rn_5_forgetAll (ns : Nat) (ct : Nat → Option (Bool × Nat × sy_Sp)) (R : sy_R) (K : sy_K) : Nat → sy_K := sy_run ns (Mk_5_forgetAll ct) [] R K
theorem rx_5_forgetAll_0 {ns n ct R K s k z} : rn_5_forgetAll ns ct R K (n + 1) 0 [.inr (.inr (some z))] k s = (rn_5_forgetAll ns ct R K n 1 [.inr (.inr (some z))] (.inr (.inr (some z)) :: k) s) := rfl
theorem rx_5_forgetAll_1 {ns n ct R K s L k} : rn_5_forgetAll ns ct R K (n + 1) 1 L k s = (rn_5_forgetAll ns ct R K n 2 L (.inl (true, (-1)) :: k) s) := rfl
theorem rx_5_forgetAll_2 {ns n ct R K s L k a b z} : rn_5_forgetAll ns ct R K (n + 1) 2 L (.inl (b, z) :: .inr (.inr (some (some a))) :: k) s = (sy_ob a = some 5 ∧ sy_ri b z ∧ sy_b01 false z ∧ rn_5_forgetAll ns ct R K n 5 L k (sy_up s a 3 z)) := rfl
theorem rx_5_forgetAll_5 {ns n ct R K s k z} : rn_5_forgetAll ns ct R K (n + 1) 5 [.inr (.inr (some z))] k s = (rn_5_forgetAll ns ct R K n 6 [.inr (.inr (some z))] (.inr (.inr (some z)) :: k) s) := rfl
theorem rx_5_forgetAll_6 {ns n ct R K s L k} : rn_5_forgetAll ns ct R K (n + 1) 6 L k s = (rn_5_forgetAll ns ct R K n 7 L (.inl (true, (-1)) :: k) s) := rfl
theorem rx_5_forgetAll_7 {ns n ct R K s L k a b z} : rn_5_forgetAll ns ct R K (n + 1) 7 L (.inl (b, z) :: .inr (.inr (some (some a))) :: k) s = (sy_ob a = some 5 ∧ sy_ri b z ∧ sy_b01 false z ∧ rn_5_forgetAll ns ct R K n 10 L k (sy_up s a 10 z)) := rfl
theorem rx_5_forgetAll_10 {ns n ct R K s L} : rn_5_forgetAll ns ct R K (n + 1) 10 L [] s = (R none s) := rfl
def y_5_isAgainst : MethodName := ⟨"StarHide$Search", "isAgainst", "(II)Z"⟩
abbrev c_5_isAgainst : ByteArray := prog_7_method_4_code
def tc_5_isAgainst (pc : Nat) : Option sy_I := match pc with
  | 0 => some (.aload_n 0, 1, 0)
  | 1 => some (.invokevirtual 39, 4, 0)
  | 4 => some (.iload_n 1, 5, 0)
  | 5 => some (.ifCond .lt 28, 8, 33)
  | 8 => some (.iload_n 1, 9, 0)
  | 9 => some (.sipush 4096, 12, 0)
  | 12 => some (.if_icmp .ge 21, 15, 33)
  | 15 => some (.aload_n 0, 16, 0)
  | 16 => some (.getfield 11, 19, 0)
  | 19 => some (.iload_n 1, 20, 0)
  | 20 => some (.iaload, 21, 0)
  | 21 => some (.iload_n 2, 22, 0)
  | 22 => some (.ishr, 23, 0)
  | 23 => some (.iconst 1, 24, 0)
  | 24 => some (.iand, 25, 0)
  | 25 => some (.iconst 1, 26, 0)
  | 26 => some (.if_icmp .ne 7, 29, 33)
  | 29 => some (.iconst 1, 30, 0)
  | 30 => some (.goto 4, 33, 34)
  | 33 => some (.iconst 0, 34, 0)
  | 34 => some (.ireturn, 35, 0)
  | _ => none
theorem tv_5_isAgainst : ∀ pc i, sy_lk 35 tc_5_isAgainst pc = some i → sy_chk c_5_isAgainst (some .boolean) true pc i = true := sy_lk_ok 35 tc_5_isAgainst (by decide +kernel)
def Mk_5_isAgainst (ct : Nat → Option (Bool × Nat × sy_Sp)) : sy_M := (sy_lk 35 tc_5_isAgainst, ff_5, ki_5, kl_5, ct, true)
def rn_5_isAgainst (ns : Nat) (ct : Nat → Option (Bool × Nat × sy_Sp)) (R : sy_R) (K : sy_K) : Nat → sy_K := sy_run ns (Mk_5_isAgainst ct) [] R K
theorem rx_5_isAgainst_0 {ns n ct R K s k z v1 v2} : rn_5_isAgainst ns ct R K (n + 1) 0 [.inr (.inr (some z)), v1, v2] k s = (rn_5_isAgainst ns ct R K n 1 [.inr (.inr (some z)), v1, v2] (.inr (.inr (some z)) :: k) s) := rfl
theorem rx_5_isAgainst_1 {ns n ct R K s L k} : rn_5_isAgainst ns ct R K (n + 1) 1 L k s = (sy_call false (ct 39) k s fun r t => rn_5_isAgainst ns ct R K n 4 L r t) := rfl
theorem rx_5_isAgainst_4 {ns n ct R K s k z v0 v2} : rn_5_isAgainst ns ct R K (n + 1) 4 [v0, .inl (true, z), v2] k s = (rn_5_isAgainst ns ct R K n 5 [v0, .inl (true, z), v2] (.inl (true, z) :: k) s) := rfl
theorem rx_5_isAgainst_5 {ns n ct R K s L k a x} : rn_5_isAgainst ns ct R K (n + 1) 5 L (.inl (a, x) :: k) s = (sy_ri a x ∧ (x < 0 → rn_5_isAgainst ns ct R K n 33 L k s) ∧ (¬ x < 0 → rn_5_isAgainst ns ct R K n 8 L k s)) := rfl
theorem rx_5_isAgainst_8 {ns n ct R K s k z v0 v2} : rn_5_isAgainst ns ct R K (n + 1) 8 [v0, .inl (true, z), v2] k s = (rn_5_isAgainst ns ct R K n 9 [v0, .inl (true, z), v2] (.inl (true, z) :: k) s) := rfl
theorem rx_5_isAgainst_9 {ns n ct R K s L k} : rn_5_isAgainst ns ct R K (n + 1) 9 L k s = (rn_5_isAgainst ns ct R K n 12 L (.inl (true, 4096) :: k) s) := rfl
theorem rx_5_isAgainst_12 {ns n ct R K s L k a b x y} : rn_5_isAgainst ns ct R K (n + 1) 12 L (.inl (b, y) :: .inl (a, x) :: k) s = (sy_ri a x ∧ sy_ri b y ∧ (y ≤ x → rn_5_isAgainst ns ct R K n 33 L k s) ∧ (¬ y ≤ x → rn_5_isAgainst ns ct R K n 15 L k s)) := rfl
theorem rx_5_isAgainst_15 {ns n ct R K s k z v1 v2} : rn_5_isAgainst ns ct R K (n + 1) 15 [.inr (.inr (some z)), v1, v2] k s = (rn_5_isAgainst ns ct R K n 16 [.inr (.inr (some z)), v1, v2] (.inr (.inr (some z)) :: k) s) := rfl
theorem rx_5_isAgainst_16 {ns n ct R K s L k a} : rn_5_isAgainst ns ct R K (n + 1) 16 L (.inr (.inr (some (some a))) :: k) s = (sy_ob a = some 5 ∧ rn_5_isAgainst ns ct R K n 19 L (sy_fv s a 2 :: k) s) := rfl
theorem rx_5_isAgainst_19 {ns n ct R K s k z v0 v2} : rn_5_isAgainst ns ct R K (n + 1) 19 [v0, .inl (true, z), v2] k s = (rn_5_isAgainst ns ct R K n 20 [v0, .inl (true, z), v2] (.inl (true, z) :: k) s) := rfl
theorem rx_5_isAgainst_20 {ns n ct R K s L k a b z} : rn_5_isAgainst ns ct R K (n + 1) 20 L (.inl (b, z) :: .inr (.inr (some (some a))) :: k) s = ((0 ≤ z ∧ z < (sy_ar a).2) ∧ sy_ob a = none ∧ (sy_ar a).1 = 0 ∧ rn_5_isAgainst ns ct R K n 21 L (.inl (true, s a z.toNat) :: k) s) := rfl
theorem rx_5_isAgainst_21 {ns n ct R K s k z v0 v1} : rn_5_isAgainst ns ct R K (n + 1) 21 [v0, v1, .inl (true, z)] k s = (rn_5_isAgainst ns ct R K n 22 [v0, v1, .inl (true, z)] (.inl (true, z) :: k) s) := rfl
theorem rx_5_isAgainst_22 {ns n ct R K s L k a b x y} : rn_5_isAgainst ns ct R K (n + 1) 22 L (.inl (b, y) :: .inl (a, x) :: k) s = (rn_5_isAgainst ns ct R K n 23 L (.inl (true, (Int32.ofInt x >>> (Int32.ofInt y &&& 31)).toInt) :: k) s) := rfl
theorem rx_5_isAgainst_23 {ns n ct R K s L k} : rn_5_isAgainst ns ct R K (n + 1) 23 L k s = (rn_5_isAgainst ns ct R K n 24 L (.inl (true, 1) :: k) s) := rfl
theorem rx_5_isAgainst_24 {ns n ct R K s L k a b x y} : rn_5_isAgainst ns ct R K (n + 1) 24 L (.inl (b, y) :: .inl (a, x) :: k) s = (rn_5_isAgainst ns ct R K n 25 L (.inl (true, (Int32.ofInt x &&& Int32.ofInt y).toInt) :: k) s) := rfl
theorem rx_5_isAgainst_25 {ns n ct R K s L k} : rn_5_isAgainst ns ct R K (n + 1) 25 L k s = (rn_5_isAgainst ns ct R K n 26 L (.inl (true, 1) :: k) s) := rfl
theorem rx_5_isAgainst_26 {ns n ct R K s L k a b x y} : rn_5_isAgainst ns ct R K (n + 1) 26 L (.inl (b, y) :: .inl (a, x) :: k) s = (sy_ri a x ∧ sy_ri b y ∧ (¬ x = y → rn_5_isAgainst ns ct R K n 33 L k s) ∧ (x = y → rn_5_isAgainst ns ct R K n 29 L k s)) := rfl
theorem rx_5_isAgainst_29 {ns n ct R K s L k} : rn_5_isAgainst ns ct R K (n + 1) 29 L k s = (rn_5_isAgainst ns ct R K n 30 L (.inl (true, 1) :: k) s) := rfl
theorem rx_5_isAgainst_30 {ns n ct R K s L k} : rn_5_isAgainst ns ct R K (n + 1) 30 L k s = (rn_5_isAgainst ns ct R K n 34 L k s) := rfl
theorem rx_5_isAgainst_33 {ns n ct R K s L k} : rn_5_isAgainst ns ct R K (n + 1) 33 L k s = (rn_5_isAgainst ns ct R K n 34 L (.inl (true, 0) :: k) s) := rfl
theorem rx_5_isAgainst_34 {ns n ct R K s L a z} : rn_5_isAgainst ns ct R K (n + 1) 34 L [.inl (a, z)] s = (sy_ri a z ∧ sy_b01 true z ∧ R (some (.inl (true, z))) s) := rfl
def y_5_howManyFit : MethodName := ⟨"StarHide$Search", "howManyFit", "()I"⟩
abbrev c_5_howManyFit : ByteArray := prog_7_method_5_code
def tc_5_howManyFit (pc : Nat) : Option sy_I := match pc with
  | 0 => some (.aload_n 0, 1, 0)
  | 1 => some (.invokevirtual 39, 4, 0)
  | 4 => some (.aload_n 0, 5, 0)
  | 5 => some (.getfield 42, 8, 0)
  | 8 => some (.ireturn, 9, 0)
  | _ => none
theorem tv_5_howManyFit : ∀ pc i, sy_lk 9 tc_5_howManyFit pc = some i → sy_chk c_5_howManyFit (some .int) false pc i = true := sy_lk_ok 9 tc_5_howManyFit (by decide +kernel)
def Mk_5_howManyFit (ct : Nat → Option (Bool × Nat × sy_Sp)) : sy_M := (sy_lk 9 tc_5_howManyFit, ff_5, ki_5, kl_5, ct, false)
def rn_5_howManyFit (ns : Nat) (ct : Nat → Option (Bool × Nat × sy_Sp)) (R : sy_R) (K : sy_K) : Nat → sy_K := sy_run ns (Mk_5_howManyFit ct) [] R K
theorem rx_5_howManyFit_0 {ns n ct R K s k z} : rn_5_howManyFit ns ct R K (n + 1) 0 [.inr (.inr (some z))] k s = (rn_5_howManyFit ns ct R K n 1 [.inr (.inr (some z))] (.inr (.inr (some z)) :: k) s) := rfl
theorem rx_5_howManyFit_1 {ns n ct R K s L k} : rn_5_howManyFit ns ct R K (n + 1) 1 L k s = (sy_call false (ct 39) k s fun r t => rn_5_howManyFit ns ct R K n 4 L r t) := rfl
theorem rx_5_howManyFit_4 {ns n ct R K s k z} : rn_5_howManyFit ns ct R K (n + 1) 4 [.inr (.inr (some z))] k s = (rn_5_howManyFit ns ct R K n 5 [.inr (.inr (some z))] (.inr (.inr (some z)) :: k) s) := rfl
theorem rx_5_howManyFit_5 {ns n ct R K s L k a} : rn_5_howManyFit ns ct R K (n + 1) 5 L (.inr (.inr (some (some a))) :: k) s = (sy_ob a = some 5 ∧ rn_5_howManyFit ns ct R K n 8 L (sy_fv s a 4 :: k) s) := rfl
theorem rx_5_howManyFit_8 {ns n ct R K s L a z} : rn_5_howManyFit ns ct R K (n + 1) 8 L [.inl (a, z)] s = (sy_ri a z ∧ sy_b01 false z ∧ R (some (.inl (true, z))) s) := rfl
def y_5_leastSize : MethodName := ⟨"StarHide$Search", "leastSize", "()I"⟩
abbrev c_5_leastSize : ByteArray := prog_7_method_6_code
def tc_5_leastSize (pc : Nat) : Option sy_I := match pc with
  | 0 => some (.aload_n 0, 1, 0)
  | 1 => some (.invokevirtual 39, 4, 0)
  | 4 => some (.aload_n 0, 5, 0)
  | 5 => some (.getfield 45, 8, 0)
  | 8 => some (.ireturn, 9, 0)
  | _ => none
theorem tv_5_leastSize : ∀ pc i, sy_lk 9 tc_5_leastSize pc = some i → sy_chk c_5_leastSize (some .int) false pc i = true := sy_lk_ok 9 tc_5_leastSize (by decide +kernel)
def Mk_5_leastSize (ct : Nat → Option (Bool × Nat × sy_Sp)) : sy_M := (sy_lk 9 tc_5_leastSize, ff_5, ki_5, kl_5, ct, false)
def rn_5_leastSize (ns : Nat) (ct : Nat → Option (Bool × Nat × sy_Sp)) (R : sy_R) (K : sy_K) : Nat → sy_K := sy_run ns (Mk_5_leastSize ct) [] R K
theorem rx_5_leastSize_0 {ns n ct R K s k z} : rn_5_leastSize ns ct R K (n + 1) 0 [.inr (.inr (some z))] k s = (rn_5_leastSize ns ct R K n 1 [.inr (.inr (some z))] (.inr (.inr (some z)) :: k) s) := rfl
theorem rx_5_leastSize_1 {ns n ct R K s L k} : rn_5_leastSize ns ct R K (n + 1) 1 L k s = (sy_call false (ct 39) k s fun r t => rn_5_leastSize ns ct R K n 4 L r t) := rfl
theorem rx_5_leastSize_4 {ns n ct R K s k z} : rn_5_leastSize ns ct R K (n + 1) 4 [.inr (.inr (some z))] k s = (rn_5_leastSize ns ct R K n 5 [.inr (.inr (some z))] (.inr (.inr (some z)) :: k) s) := rfl
theorem rx_5_leastSize_5 {ns n ct R K s L k a} : rn_5_leastSize ns ct R K (n + 1) 5 L (.inr (.inr (some (some a))) :: k) s = (sy_ob a = some 5 ∧ rn_5_leastSize ns ct R K n 8 L (sy_fv s a 5 :: k) s) := rfl
theorem rx_5_leastSize_8 {ns n ct R K s L a z} : rn_5_leastSize ns ct R K (n + 1) 8 L [.inl (a, z)] s = (sy_ri a z ∧ sy_b01 false z ∧ R (some (.inl (true, z))) s) := rfl
def y_5_greatestSize : MethodName := ⟨"StarHide$Search", "greatestSize", "()I"⟩
abbrev c_5_greatestSize : ByteArray := prog_7_method_7_code
def tc_5_greatestSize (pc : Nat) : Option sy_I := match pc with
  | 0 => some (.aload_n 0, 1, 0)
  | 1 => some (.invokevirtual 39, 4, 0)
  | 4 => some (.aload_n 0, 5, 0)
  | 5 => some (.getfield 48, 8, 0)
  | 8 => some (.ireturn, 9, 0)
  | _ => none
theorem tv_5_greatestSize : ∀ pc i, sy_lk 9 tc_5_greatestSize pc = some i → sy_chk c_5_greatestSize (some .int) false pc i = true := sy_lk_ok 9 tc_5_greatestSize (by decide +kernel)
def Mk_5_greatestSize (ct : Nat → Option (Bool × Nat × sy_Sp)) : sy_M := (sy_lk 9 tc_5_greatestSize, ff_5, ki_5, kl_5, ct, false)
def rn_5_greatestSize (ns : Nat) (ct : Nat → Option (Bool × Nat × sy_Sp)) (R : sy_R) (K : sy_K) : Nat → sy_K := sy_run ns (Mk_5_greatestSize ct) [] R K
theorem rx_5_greatestSize_0 {ns n ct R K s k z} : rn_5_greatestSize ns ct R K (n + 1) 0 [.inr (.inr (some z))] k s = (rn_5_greatestSize ns ct R K n 1 [.inr (.inr (some z))] (.inr (.inr (some z)) :: k) s) := rfl
theorem rx_5_greatestSize_1 {ns n ct R K s L k} : rn_5_greatestSize ns ct R K (n + 1) 1 L k s = (sy_call false (ct 39) k s fun r t => rn_5_greatestSize ns ct R K n 4 L r t) := rfl
theorem rx_5_greatestSize_4 {ns n ct R K s k z} : rn_5_greatestSize ns ct R K (n + 1) 4 [.inr (.inr (some z))] k s = (rn_5_greatestSize ns ct R K n 5 [.inr (.inr (some z))] (.inr (.inr (some z)) :: k) s) := rfl
theorem rx_5_greatestSize_5 {ns n ct R K s L k a} : rn_5_greatestSize ns ct R K (n + 1) 5 L (.inr (.inr (some (some a))) :: k) s = (sy_ob a = some 5 ∧ rn_5_greatestSize ns ct R K n 8 L (sy_fv s a 6 :: k) s) := rfl
theorem rx_5_greatestSize_8 {ns n ct R K s L a z} : rn_5_greatestSize ns ct R K (n + 1) 8 L [.inl (a, z)] s = (sy_ri a z ∧ sy_b01 false z ∧ R (some (.inl (true, z))) s) := rfl
def y_5_fewestFalse : MethodName := ⟨"StarHide$Search", "fewestFalse", "()I"⟩
abbrev c_5_fewestFalse : ByteArray := prog_7_method_8_code
def tc_5_fewestFalse (pc : Nat) : Option sy_I := match pc with
  | 0 => some (.aload_n 0, 1, 0)
  | 1 => some (.invokevirtual 39, 4, 0)
  | 4 => some (.aload_n 0, 5, 0)
  | 5 => some (.getfield 51, 8, 0)
  | 8 => some (.ireturn, 9, 0)
  | _ => none
theorem tv_5_fewestFalse : ∀ pc i, sy_lk 9 tc_5_fewestFalse pc = some i → sy_chk c_5_fewestFalse (some .int) false pc i = true := sy_lk_ok 9 tc_5_fewestFalse (by decide +kernel)
def Mk_5_fewestFalse (ct : Nat → Option (Bool × Nat × sy_Sp)) : sy_M := (sy_lk 9 tc_5_fewestFalse, ff_5, ki_5, kl_5, ct, false)
def rn_5_fewestFalse (ns : Nat) (ct : Nat → Option (Bool × Nat × sy_Sp)) (R : sy_R) (K : sy_K) : Nat → sy_K := sy_run ns (Mk_5_fewestFalse ct) [] R K
theorem rx_5_fewestFalse_0 {ns n ct R K s k z} : rn_5_fewestFalse ns ct R K (n + 1) 0 [.inr (.inr (some z))] k s = (rn_5_fewestFalse ns ct R K n 1 [.inr (.inr (some z))] (.inr (.inr (some z)) :: k) s) := rfl
theorem rx_5_fewestFalse_1 {ns n ct R K s L k} : rn_5_fewestFalse ns ct R K (n + 1) 1 L k s = (sy_call false (ct 39) k s fun r t => rn_5_fewestFalse ns ct R K n 4 L r t) := rfl
theorem rx_5_fewestFalse_4 {ns n ct R K s k z} : rn_5_fewestFalse ns ct R K (n + 1) 4 [.inr (.inr (some z))] k s = (rn_5_fewestFalse ns ct R K n 5 [.inr (.inr (some z))] (.inr (.inr (some z)) :: k) s) := rfl
theorem rx_5_fewestFalse_5 {ns n ct R K s L k a} : rn_5_fewestFalse ns ct R K (n + 1) 5 L (.inr (.inr (some (some a))) :: k) s = (sy_ob a = some 5 ∧ rn_5_fewestFalse ns ct R K n 8 L (sy_fv s a 7 :: k) s) := rfl
theorem rx_5_fewestFalse_8 {ns n ct R K s L a z} : rn_5_fewestFalse ns ct R K (n + 1) 8 L [.inl (a, z)] s = (sy_ri a z ∧ sy_b01 false z ∧ R (some (.inl (true, z))) s) := rfl
def y_5_figureOfFewest : MethodName := ⟨"StarHide$Search", "figureOfFewest", "()I"⟩
abbrev c_5_figureOfFewest : ByteArray := prog_7_method_9_code
def tc_5_figureOfFewest (pc : Nat) : Option sy_I := match pc with
  | 0 => some (.aload_n 0, 1, 0)
  | 1 => some (.invokevirtual 39, 4, 0)
  | 4 => some (.aload_n 0, 5, 0)
  | 5 => some (.getfield 54, 8, 0)
  | 8 => some (.ireturn, 9, 0)
  | _ => none
theorem tv_5_figureOfFewest : ∀ pc i, sy_lk 9 tc_5_figureOfFewest pc = some i → sy_chk c_5_figureOfFewest (some .int) false pc i = true := sy_lk_ok 9 tc_5_figureOfFewest (by decide +kernel)
def Mk_5_figureOfFewest (ct : Nat → Option (Bool × Nat × sy_Sp)) : sy_M := (sy_lk 9 tc_5_figureOfFewest, ff_5, ki_5, kl_5, ct, false)
def rn_5_figureOfFewest (ns : Nat) (ct : Nat → Option (Bool × Nat × sy_Sp)) (R : sy_R) (K : sy_K) : Nat → sy_K := sy_run ns (Mk_5_figureOfFewest ct) [] R K
theorem rx_5_figureOfFewest_0 {ns n ct R K s k z} : rn_5_figureOfFewest ns ct R K (n + 1) 0 [.inr (.inr (some z))] k s = (rn_5_figureOfFewest ns ct R K n 1 [.inr (.inr (some z))] (.inr (.inr (some z)) :: k) s) := rfl
theorem rx_5_figureOfFewest_1 {ns n ct R K s L k} : rn_5_figureOfFewest ns ct R K (n + 1) 1 L k s = (sy_call false (ct 39) k s fun r t => rn_5_figureOfFewest ns ct R K n 4 L r t) := rfl
theorem rx_5_figureOfFewest_4 {ns n ct R K s k z} : rn_5_figureOfFewest ns ct R K (n + 1) 4 [.inr (.inr (some z))] k s = (rn_5_figureOfFewest ns ct R K n 5 [.inr (.inr (some z))] (.inr (.inr (some z)) :: k) s) := rfl
theorem rx_5_figureOfFewest_5 {ns n ct R K s L k a} : rn_5_figureOfFewest ns ct R K (n + 1) 5 L (.inr (.inr (some (some a))) :: k) s = (sy_ob a = some 5 ∧ rn_5_figureOfFewest ns ct R K n 8 L (sy_fv s a 8 :: k) s) := rfl
theorem rx_5_figureOfFewest_8 {ns n ct R K s L a z} : rn_5_figureOfFewest ns ct R K (n + 1) 8 L [.inl (a, z)] s = (sy_ri a z ∧ sy_b01 false z ∧ R (some (.inl (true, z))) s) := rfl
def y_5_nthThatFits : MethodName := ⟨"StarHide$Search", "nthThatFits", "(I)I"⟩
abbrev c_5_nthThatFits : ByteArray := prog_7_method_10_code
def tc_5_nthThatFits (pc : Nat) : Option sy_I := match pc with
  | 0 => some (.aload_n 0, 1, 0)
  | 1 => some (.invokevirtual 39, 4, 0)
  | 4 => some (.iload_n 1, 5, 0)
  | 5 => some (.ifCond .lt 11, 8, 16)
  | 8 => some (.iload_n 1, 9, 0)
  | 9 => some (.aload_n 0, 10, 0)
  | 10 => some (.getfield 42, 13, 0)
  | 13 => some (.if_icmp .lt 5, 16, 18)
  | 16 => some (.iconst (-1), 17, 0)
  | 17 => some (.ireturn, 18, 0)
  | 18 => some (.iload_n 1, 19, 0)
  | 19 => some (.istore_n 2, 20, 0)
  | 20 => some (.iconst 0, 21, 0)
  | 21 => some (.istore_n 3, 22, 0)
  | 22 => some (.iload_n 3, 23, 0)
  | 23 => some (.aload_n 0, 24, 0)
  | 24 => some (.getfield 35, 27, 0)
  | 27 => some (.getfield 57, 30, 0)
  | 30 => some (.if_icmp .ge 34, 33, 64)
  | 33 => some (.iload_n 3, 34, 0)
  | 34 => some (.sipush 4096, 37, 0)
  | 37 => some (.if_icmp .ge 27, 40, 64)
  | 40 => some (.aload_n 0, 41, 0)
  | 41 => some (.getfield 11, 44, 0)
  | 44 => some (.iload_n 3, 45, 0)
  | 45 => some (.iaload, 46, 0)
  | 46 => some (.ifCond .ne 12, 49, 58)
  | 49 => some (.iload_n 2, 50, 0)
  | 50 => some (.ifCond .ne 5, 53, 55)
  | 53 => some (.iload_n 3, 54, 0)
  | 54 => some (.ireturn, 55, 0)
  | 55 => some (.iinc 2 (-1), 58, 0)
  | 58 => some (.iinc 3 1, 61, 0)
  | 61 => some (.goto (-39), 64, 22)
  | 64 => some (.iconst (-1), 65, 0)
  | 65 => some (.ireturn, 66, 0)
  | _ => none
theorem tv_5_nthThatFits : ∀ pc i, sy_lk 66 tc_5_nthThatFits pc = some i → sy_chk c_5_nthThatFits (some .int) false pc i = true := sy_lk_ok 66 tc_5_nthThatFits (by decide +kernel)
def Mk_5_nthThatFits (ct : Nat → Option (Bool × Nat × sy_Sp)) : sy_M := (sy_lk 66 tc_5_nthThatFits, ff_5, ki_5, kl_5, ct, false)
def rn_5_nthThatFits (ns : Nat) (ct : Nat → Option (Bool × Nat × sy_Sp)) (R : sy_R) (K : sy_K) : Nat → sy_K := sy_run ns (Mk_5_nthThatFits ct) [22] R K
theorem rx_5_nthThatFits_0 {ns n ct R K s k z v1 v2 v3} : rn_5_nthThatFits ns ct R K (n + 1) 0 [.inr (.inr (some z)), v1, v2, v3] k s = (rn_5_nthThatFits ns ct R K n 1 [.inr (.inr (some z)), v1, v2, v3] (.inr (.inr (some z)) :: k) s) := rfl
theorem rx_5_nthThatFits_1 {ns n ct R K s L k} : rn_5_nthThatFits ns ct R K (n + 1) 1 L k s = (sy_call false (ct 39) k s fun r t => rn_5_nthThatFits ns ct R K n 4 L r t) := rfl
theorem rx_5_nthThatFits_4 {ns n ct R K s k z v0 v2 v3} : rn_5_nthThatFits ns ct R K (n + 1) 4 [v0, .inl (true, z), v2, v3] k s = (rn_5_nthThatFits ns ct R K n 5 [v0, .inl (true, z), v2, v3] (.inl (true, z) :: k) s) := rfl
theorem rx_5_nthThatFits_5 {ns n ct R K s L k a x} : rn_5_nthThatFits ns ct R K (n + 1) 5 L (.inl (a, x) :: k) s = (sy_ri a x ∧ (x < 0 → rn_5_nthThatFits ns ct R K n 16 L k s) ∧ (¬ x < 0 → rn_5_nthThatFits ns ct R K n 8 L k s)) := rfl
theorem rx_5_nthThatFits_8 {ns n ct R K s k z v0 v2 v3} : rn_5_nthThatFits ns ct R K (n + 1) 8 [v0, .inl (true, z), v2, v3] k s = (rn_5_nthThatFits ns ct R K n 9 [v0, .inl (true, z), v2, v3] (.inl (true, z) :: k) s) := rfl
theorem rx_5_nthThatFits_9 {ns n ct R K s k z v1 v2 v3} : rn_5_nthThatFits ns ct R K (n + 1) 9 [.inr (.inr (some z)), v1, v2, v3] k s = (rn_5_nthThatFits ns ct R K n 10 [.inr (.inr (some z)), v1, v2, v3] (.inr (.inr (some z)) :: k) s) := rfl
theorem rx_5_nthThatFits_10 {ns n ct R K s L k a} : rn_5_nthThatFits ns ct R K (n + 1) 10 L (.inr (.inr (some (some a))) :: k) s = (sy_ob a = some 5 ∧ rn_5_nthThatFits ns ct R K n 13 L (sy_fv s a 4 :: k) s) := rfl
theorem rx_5_nthThatFits_13 {ns n ct R K s L k a b x y} : rn_5_nthThatFits ns ct R K (n + 1) 13 L (.inl (b, y) :: .inl (a, x) :: k) s = (sy_ri a x ∧ sy_ri b y ∧ (x < y → rn_5_nthThatFits ns ct R K n 18 L k s) ∧ (¬ x < y → rn_5_nthThatFits ns ct R K n 16 L k s)) := rfl
theorem rx_5_nthThatFits_16 {ns n ct R K s L k} : rn_5_nthThatFits ns ct R K (n + 1) 16 L k s = (rn_5_nthThatFits ns ct R K n 17 L (.inl (true, (-1)) :: k) s) := rfl
theorem rx_5_nthThatFits_17 {ns n ct R K s L a z} : rn_5_nthThatFits ns ct R K (n + 1) 17 L [.inl (a, z)] s = (sy_ri a z ∧ sy_b01 false z ∧ R (some (.inl (true, z))) s) := rfl
theorem rx_5_nthThatFits_18 {ns n ct R K s k z v0 v2 v3} : rn_5_nthThatFits ns ct R K (n + 1) 18 [v0, .inl (true, z), v2, v3] k s = (rn_5_nthThatFits ns ct R K n 19 [v0, .inl (true, z), v2, v3] (.inl (true, z) :: k) s) := rfl
theorem rx_5_nthThatFits_19 {ns n ct R K s L k b z} : rn_5_nthThatFits ns ct R K (n + 1) 19 L (.inl (b, z) :: k) s = (sy_ri b z ∧ 2 < L.length ∧ rn_5_nthThatFits ns ct R K n 20 (sy_sto L 2 (.inl (true, z))) k s) := rfl
theorem rx_5_nthThatFits_20 {ns n ct R K s L k} : rn_5_nthThatFits ns ct R K (n + 1) 20 L k s = (rn_5_nthThatFits ns ct R K n 21 L (.inl (true, 0) :: k) s) := rfl
theorem rx_5_nthThatFits_21 {ns n ct R K s L k b z} : rn_5_nthThatFits ns ct R K (n + 1) 21 L (.inl (b, z) :: k) s = (sy_ri b z ∧ 3 < L.length ∧ K 22 (sy_sto L 3 (.inl (true, z))) k s) := rfl
theorem rx_5_nthThatFits_22 {ns n ct R K s k z v0 v1 v2} : rn_5_nthThatFits ns ct R K (n + 1) 22 [v0, v1, v2, .inl (true, z)] k s = (rn_5_nthThatFits ns ct R K n 23 [v0, v1, v2, .inl (true, z)] (.inl (true, z) :: k) s) := rfl
theorem rx_5_nthThatFits_23 {ns n ct R K s k z v1 v2 v3} : rn_5_nthThatFits ns ct R K (n + 1) 23 [.inr (.inr (some z)), v1, v2, v3] k s = (rn_5_nthThatFits ns ct R K n 24 [.inr (.inr (some z)), v1, v2, v3] (.inr (.inr (some z)) :: k) s) := rfl
theorem rx_5_nthThatFits_24 {ns n ct R K s L k a} : rn_5_nthThatFits ns ct R K (n + 1) 24 L (.inr (.inr (some (some a))) :: k) s = (sy_ob a = some 5 ∧ rn_5_nthThatFits ns ct R K n 27 L (sy_fv s a 1 :: k) s) := rfl
theorem rx_5_nthThatFits_27 {ns n ct R K s L k a} : rn_5_nthThatFits ns ct R K (n + 1) 27 L (.inr (.inr (some (some a))) :: k) s = (sy_ob a = some 3 ∧ rn_5_nthThatFits ns ct R K n 30 L (sy_fv s a 4 :: k) s) := rfl
theorem rx_5_nthThatFits_30 {ns n ct R K s L k a b x y} : rn_5_nthThatFits ns ct R K (n + 1) 30 L (.inl (b, y) :: .inl (a, x) :: k) s = (sy_ri a x ∧ sy_ri b y ∧ (y ≤ x → rn_5_nthThatFits ns ct R K n 64 L k s) ∧ (¬ y ≤ x → rn_5_nthThatFits ns ct R K n 33 L k s)) := rfl
theorem rx_5_nthThatFits_33 {ns n ct R K s k z v0 v1 v2} : rn_5_nthThatFits ns ct R K (n + 1) 33 [v0, v1, v2, .inl (true, z)] k s = (rn_5_nthThatFits ns ct R K n 34 [v0, v1, v2, .inl (true, z)] (.inl (true, z) :: k) s) := rfl
theorem rx_5_nthThatFits_34 {ns n ct R K s L k} : rn_5_nthThatFits ns ct R K (n + 1) 34 L k s = (rn_5_nthThatFits ns ct R K n 37 L (.inl (true, 4096) :: k) s) := rfl
theorem rx_5_nthThatFits_37 {ns n ct R K s L k a b x y} : rn_5_nthThatFits ns ct R K (n + 1) 37 L (.inl (b, y) :: .inl (a, x) :: k) s = (sy_ri a x ∧ sy_ri b y ∧ (y ≤ x → rn_5_nthThatFits ns ct R K n 64 L k s) ∧ (¬ y ≤ x → rn_5_nthThatFits ns ct R K n 40 L k s)) := rfl
theorem rx_5_nthThatFits_40 {ns n ct R K s k z v1 v2 v3} : rn_5_nthThatFits ns ct R K (n + 1) 40 [.inr (.inr (some z)), v1, v2, v3] k s = (rn_5_nthThatFits ns ct R K n 41 [.inr (.inr (some z)), v1, v2, v3] (.inr (.inr (some z)) :: k) s) := rfl
theorem rx_5_nthThatFits_41 {ns n ct R K s L k a} : rn_5_nthThatFits ns ct R K (n + 1) 41 L (.inr (.inr (some (some a))) :: k) s = (sy_ob a = some 5 ∧ rn_5_nthThatFits ns ct R K n 44 L (sy_fv s a 2 :: k) s) := rfl
theorem rx_5_nthThatFits_44 {ns n ct R K s k z v0 v1 v2} : rn_5_nthThatFits ns ct R K (n + 1) 44 [v0, v1, v2, .inl (true, z)] k s = (rn_5_nthThatFits ns ct R K n 45 [v0, v1, v2, .inl (true, z)] (.inl (true, z) :: k) s) := rfl
theorem rx_5_nthThatFits_45 {ns n ct R K s L k a b z} : rn_5_nthThatFits ns ct R K (n + 1) 45 L (.inl (b, z) :: .inr (.inr (some (some a))) :: k) s = ((0 ≤ z ∧ z < (sy_ar a).2) ∧ sy_ob a = none ∧ (sy_ar a).1 = 0 ∧ rn_5_nthThatFits ns ct R K n 46 L (.inl (true, s a z.toNat) :: k) s) := rfl
theorem rx_5_nthThatFits_46 {ns n ct R K s L k a x} : rn_5_nthThatFits ns ct R K (n + 1) 46 L (.inl (a, x) :: k) s = (sy_ri a x ∧ (¬ x = 0 → rn_5_nthThatFits ns ct R K n 58 L k s) ∧ (x = 0 → rn_5_nthThatFits ns ct R K n 49 L k s)) := rfl
theorem rx_5_nthThatFits_49 {ns n ct R K s k z v0 v1 v3} : rn_5_nthThatFits ns ct R K (n + 1) 49 [v0, v1, .inl (true, z), v3] k s = (rn_5_nthThatFits ns ct R K n 50 [v0, v1, .inl (true, z), v3] (.inl (true, z) :: k) s) := rfl
theorem rx_5_nthThatFits_50 {ns n ct R K s L k a x} : rn_5_nthThatFits ns ct R K (n + 1) 50 L (.inl (a, x) :: k) s = (sy_ri a x ∧ (¬ x = 0 → rn_5_nthThatFits ns ct R K n 55 L k s) ∧ (x = 0 → rn_5_nthThatFits ns ct R K n 53 L k s)) := rfl
theorem rx_5_nthThatFits_53 {ns n ct R K s k z v0 v1 v2} : rn_5_nthThatFits ns ct R K (n + 1) 53 [v0, v1, v2, .inl (true, z)] k s = (rn_5_nthThatFits ns ct R K n 54 [v0, v1, v2, .inl (true, z)] (.inl (true, z) :: k) s) := rfl
theorem rx_5_nthThatFits_54 {ns n ct R K s L a z} : rn_5_nthThatFits ns ct R K (n + 1) 54 L [.inl (a, z)] s = (sy_ri a z ∧ sy_b01 false z ∧ R (some (.inl (true, z))) s) := rfl
theorem rx_5_nthThatFits_55 {ns n ct R K s k z v0 v1 v3} : rn_5_nthThatFits ns ct R K (n + 1) 55 [v0, v1, .inl (true, z), v3] k s = ((-2147483648 ≤ z + (-1) ∧ z + (-1) < 2147483648) ∧ rn_5_nthThatFits ns ct R K n 58 (sy_sto [v0, v1, .inl (true, z), v3] 2 (.inl (true, z + (-1)))) k s) := rfl
theorem rx_5_nthThatFits_58 {ns n ct R K s k z v0 v1 v2} : rn_5_nthThatFits ns ct R K (n + 1) 58 [v0, v1, v2, .inl (true, z)] k s = ((-2147483648 ≤ z + 1 ∧ z + 1 < 2147483648) ∧ rn_5_nthThatFits ns ct R K n 61 (sy_sto [v0, v1, v2, .inl (true, z)] 3 (.inl (true, z + 1))) k s) := rfl
theorem rx_5_nthThatFits_61 {ns n ct R K s L k} : rn_5_nthThatFits ns ct R K (n + 1) 61 L k s = (K 22 L k s) := rfl
theorem rx_5_nthThatFits_64 {ns n ct R K s L k} : rn_5_nthThatFits ns ct R K (n + 1) 64 L k s = (rn_5_nthThatFits ns ct R K n 65 L (.inl (true, (-1)) :: k) s) := rfl
theorem rx_5_nthThatFits_65 {ns n ct R K s L a z} : rn_5_nthThatFits ns ct R K (n + 1) 65 L [.inl (a, z)] s = (sy_ri a z ∧ sy_b01 false z ∧ R (some (.inl (true, z))) s) := rfl
def y_5_clockOf : MethodName := ⟨"StarHide$Search", "clockOf", "(II)I"⟩
abbrev c_5_clockOf : ByteArray := prog_7_method_11_code
def tc_5_clockOf (pc : Nat) : Option sy_I := match pc with
  | 0 => some (.aload_n 0, 1, 0)
  | 1 => some (.getfield 28, 4, 0)
  | 4 => some (.iload_n 1, 5, 0)
  | 5 => some (.if_icmp .eq 17, 8, 22)
  | 8 => some (.aload_n 0, 9, 0)
  | 9 => some (.invokevirtual 39, 12, 0)
  | 12 => some (.aload_n 0, 13, 0)
  | 13 => some (.iload_n 1, 14, 0)
  | 14 => some (.invokevirtual 60, 17, 0)
  | 17 => some (.aload_n 0, 18, 0)
  | 18 => some (.iload_n 1, 19, 0)
  | 19 => some (.putfield 28, 22, 0)
  | 22 => some (.iload_n 2, 23, 0)
  | 23 => some (.ifCond .ne 11, 26, 34)
  | 26 => some (.aload_n 0, 27, 0)
  | 27 => some (.getfield 24, 30, 0)
  | 30 => some (.getfield 64, 33, 0)
  | 33 => some (.ireturn, 34, 0)
  | 34 => some (.iload_n 2, 35, 0)
  | 35 => some (.iconst 1, 36, 0)
  | 36 => some (.if_icmp .eq 8, 39, 44)
  | 39 => some (.iload_n 2, 40, 0)
  | 40 => some (.iconst 2, 41, 0)
  | 41 => some (.if_icmp .ne 13, 44, 54)
  | 44 => some (.aload_n 0, 45, 0)
  | 45 => some (.getfield 24, 48, 0)
  | 48 => some (.getfield 64, 51, 0)
  | 51 => some (.ifCond .ne 7, 54, 58)
  | 54 => some (.sipush (-1000), 57, 0)
  | 57 => some (.ireturn, 58, 0)
  | 58 => some (.iload_n 2, 59, 0)
  | 59 => some (.iconst 1, 60, 0)
  | 60 => some (.if_icmp .ne 13, 63, 73)
  | 63 => some (.aload_n 0, 64, 0)
  | 64 => some (.getfield 24, 67, 0)
  | 67 => some (.getfield 67, 70, 0)
  | 70 => some (.goto 10, 73, 80)
  | 73 => some (.aload_n 0, 74, 0)
  | 74 => some (.getfield 24, 77, 0)
  | 77 => some (.getfield 70, 80, 0)
  | 80 => some (.ireturn, 81, 0)
  | _ => none
theorem tv_5_clockOf : ∀ pc i, sy_lk 81 tc_5_clockOf pc = some i → sy_chk c_5_clockOf (some .int) false pc i = true := sy_lk_ok 81 tc_5_clockOf (by decide +kernel)
def Mk_5_clockOf (ct : Nat → Option (Bool × Nat × sy_Sp)) : sy_M := (sy_lk 81 tc_5_clockOf, ff_5, ki_5, kl_5, ct, false)
def rn_5_clockOf (ns : Nat) (ct : Nat → Option (Bool × Nat × sy_Sp)) (R : sy_R) (K : sy_K) : Nat → sy_K := sy_run ns (Mk_5_clockOf ct) [] R K
theorem rx_5_clockOf_0 {ns n ct R K s k z v1 v2} : rn_5_clockOf ns ct R K (n + 1) 0 [.inr (.inr (some z)), v1, v2] k s = (rn_5_clockOf ns ct R K n 1 [.inr (.inr (some z)), v1, v2] (.inr (.inr (some z)) :: k) s) := rfl
theorem rx_5_clockOf_1 {ns n ct R K s L k a} : rn_5_clockOf ns ct R K (n + 1) 1 L (.inr (.inr (some (some a))) :: k) s = (sy_ob a = some 5 ∧ rn_5_clockOf ns ct R K n 4 L (sy_fv s a 10 :: k) s) := rfl
theorem rx_5_clockOf_4 {ns n ct R K s k z v0 v2} : rn_5_clockOf ns ct R K (n + 1) 4 [v0, .inl (true, z), v2] k s = (rn_5_clockOf ns ct R K n 5 [v0, .inl (true, z), v2] (.inl (true, z) :: k) s) := rfl
theorem rx_5_clockOf_5 {ns n ct R K s L k a b x y} : rn_5_clockOf ns ct R K (n + 1) 5 L (.inl (b, y) :: .inl (a, x) :: k) s = (sy_ri a x ∧ sy_ri b y ∧ (x = y → rn_5_clockOf ns ct R K n 22 L k s) ∧ (¬ x = y → rn_5_clockOf ns ct R K n 8 L k s)) := rfl
theorem rx_5_clockOf_8 {ns n ct R K s k z v1 v2} : rn_5_clockOf ns ct R K (n + 1) 8 [.inr (.inr (some z)), v1, v2] k s = (rn_5_clockOf ns ct R K n 9 [.inr (.inr (some z)), v1, v2] (.inr (.inr (some z)) :: k) s) := rfl
theorem rx_5_clockOf_9 {ns n ct R K s L k} : rn_5_clockOf ns ct R K (n + 1) 9 L k s = (sy_call false (ct 39) k s fun r t => rn_5_clockOf ns ct R K n 12 L r t) := rfl
theorem rx_5_clockOf_12 {ns n ct R K s k z v1 v2} : rn_5_clockOf ns ct R K (n + 1) 12 [.inr (.inr (some z)), v1, v2] k s = (rn_5_clockOf ns ct R K n 13 [.inr (.inr (some z)), v1, v2] (.inr (.inr (some z)) :: k) s) := rfl
theorem rx_5_clockOf_13 {ns n ct R K s k z v0 v2} : rn_5_clockOf ns ct R K (n + 1) 13 [v0, .inl (true, z), v2] k s = (rn_5_clockOf ns ct R K n 14 [v0, .inl (true, z), v2] (.inl (true, z) :: k) s) := rfl
theorem rx_5_clockOf_14 {ns n ct R K s L k} : rn_5_clockOf ns ct R K (n + 1) 14 L k s = (sy_call false (ct 60) k s fun r t => rn_5_clockOf ns ct R K n 17 L r t) := rfl
theorem rx_5_clockOf_17 {ns n ct R K s k z v1 v2} : rn_5_clockOf ns ct R K (n + 1) 17 [.inr (.inr (some z)), v1, v2] k s = (rn_5_clockOf ns ct R K n 18 [.inr (.inr (some z)), v1, v2] (.inr (.inr (some z)) :: k) s) := rfl
theorem rx_5_clockOf_18 {ns n ct R K s k z v0 v2} : rn_5_clockOf ns ct R K (n + 1) 18 [v0, .inl (true, z), v2] k s = (rn_5_clockOf ns ct R K n 19 [v0, .inl (true, z), v2] (.inl (true, z) :: k) s) := rfl
theorem rx_5_clockOf_19 {ns n ct R K s L k a b z} : rn_5_clockOf ns ct R K (n + 1) 19 L (.inl (b, z) :: .inr (.inr (some (some a))) :: k) s = (sy_ob a = some 5 ∧ sy_ri b z ∧ sy_b01 false z ∧ rn_5_clockOf ns ct R K n 22 L k (sy_up s a 10 z)) := rfl
theorem rx_5_clockOf_22 {ns n ct R K s k z v0 v1} : rn_5_clockOf ns ct R K (n + 1) 22 [v0, v1, .inl (true, z)] k s = (rn_5_clockOf ns ct R K n 23 [v0, v1, .inl (true, z)] (.inl (true, z) :: k) s) := rfl
theorem rx_5_clockOf_23 {ns n ct R K s L k a x} : rn_5_clockOf ns ct R K (n + 1) 23 L (.inl (a, x) :: k) s = (sy_ri a x ∧ (¬ x = 0 → rn_5_clockOf ns ct R K n 34 L k s) ∧ (x = 0 → rn_5_clockOf ns ct R K n 26 L k s)) := rfl
theorem rx_5_clockOf_26 {ns n ct R K s k z v1 v2} : rn_5_clockOf ns ct R K (n + 1) 26 [.inr (.inr (some z)), v1, v2] k s = (rn_5_clockOf ns ct R K n 27 [.inr (.inr (some z)), v1, v2] (.inr (.inr (some z)) :: k) s) := rfl
theorem rx_5_clockOf_27 {ns n ct R K s L k a} : rn_5_clockOf ns ct R K (n + 1) 27 L (.inr (.inr (some (some a))) :: k) s = (sy_ob a = some 5 ∧ rn_5_clockOf ns ct R K n 30 L (sy_fv s a 9 :: k) s) := rfl
theorem rx_5_clockOf_30 {ns n ct R K s L k a} : rn_5_clockOf ns ct R K (n + 1) 30 L (.inr (.inr (some (some a))) :: k) s = (sy_ob a = some 0 ∧ rn_5_clockOf ns ct R K n 33 L (sy_fv s a 1 :: k) s) := rfl
theorem rx_5_clockOf_33 {ns n ct R K s L a z} : rn_5_clockOf ns ct R K (n + 1) 33 L [.inl (a, z)] s = (sy_ri a z ∧ sy_b01 false z ∧ R (some (.inl (true, z))) s) := rfl
theorem rx_5_clockOf_34 {ns n ct R K s k z v0 v1} : rn_5_clockOf ns ct R K (n + 1) 34 [v0, v1, .inl (true, z)] k s = (rn_5_clockOf ns ct R K n 35 [v0, v1, .inl (true, z)] (.inl (true, z) :: k) s) := rfl
theorem rx_5_clockOf_35 {ns n ct R K s L k} : rn_5_clockOf ns ct R K (n + 1) 35 L k s = (rn_5_clockOf ns ct R K n 36 L (.inl (true, 1) :: k) s) := rfl
theorem rx_5_clockOf_36 {ns n ct R K s L k a b x y} : rn_5_clockOf ns ct R K (n + 1) 36 L (.inl (b, y) :: .inl (a, x) :: k) s = (sy_ri a x ∧ sy_ri b y ∧ (x = y → rn_5_clockOf ns ct R K n 44 L k s) ∧ (¬ x = y → rn_5_clockOf ns ct R K n 39 L k s)) := rfl
theorem rx_5_clockOf_39 {ns n ct R K s k z v0 v1} : rn_5_clockOf ns ct R K (n + 1) 39 [v0, v1, .inl (true, z)] k s = (rn_5_clockOf ns ct R K n 40 [v0, v1, .inl (true, z)] (.inl (true, z) :: k) s) := rfl
theorem rx_5_clockOf_40 {ns n ct R K s L k} : rn_5_clockOf ns ct R K (n + 1) 40 L k s = (rn_5_clockOf ns ct R K n 41 L (.inl (true, 2) :: k) s) := rfl
theorem rx_5_clockOf_41 {ns n ct R K s L k a b x y} : rn_5_clockOf ns ct R K (n + 1) 41 L (.inl (b, y) :: .inl (a, x) :: k) s = (sy_ri a x ∧ sy_ri b y ∧ (¬ x = y → rn_5_clockOf ns ct R K n 54 L k s) ∧ (x = y → rn_5_clockOf ns ct R K n 44 L k s)) := rfl
theorem rx_5_clockOf_44 {ns n ct R K s k z v1 v2} : rn_5_clockOf ns ct R K (n + 1) 44 [.inr (.inr (some z)), v1, v2] k s = (rn_5_clockOf ns ct R K n 45 [.inr (.inr (some z)), v1, v2] (.inr (.inr (some z)) :: k) s) := rfl
theorem rx_5_clockOf_45 {ns n ct R K s L k a} : rn_5_clockOf ns ct R K (n + 1) 45 L (.inr (.inr (some (some a))) :: k) s = (sy_ob a = some 5 ∧ rn_5_clockOf ns ct R K n 48 L (sy_fv s a 9 :: k) s) := rfl
theorem rx_5_clockOf_48 {ns n ct R K s L k a} : rn_5_clockOf ns ct R K (n + 1) 48 L (.inr (.inr (some (some a))) :: k) s = (sy_ob a = some 0 ∧ rn_5_clockOf ns ct R K n 51 L (sy_fv s a 1 :: k) s) := rfl
theorem rx_5_clockOf_51 {ns n ct R K s L k a x} : rn_5_clockOf ns ct R K (n + 1) 51 L (.inl (a, x) :: k) s = (sy_ri a x ∧ (¬ x = 0 → rn_5_clockOf ns ct R K n 58 L k s) ∧ (x = 0 → rn_5_clockOf ns ct R K n 54 L k s)) := rfl
theorem rx_5_clockOf_54 {ns n ct R K s L k} : rn_5_clockOf ns ct R K (n + 1) 54 L k s = (rn_5_clockOf ns ct R K n 57 L (.inl (true, (-1000)) :: k) s) := rfl
theorem rx_5_clockOf_57 {ns n ct R K s L a z} : rn_5_clockOf ns ct R K (n + 1) 57 L [.inl (a, z)] s = (sy_ri a z ∧ sy_b01 false z ∧ R (some (.inl (true, z))) s) := rfl
theorem rx_5_clockOf_58 {ns n ct R K s k z v0 v1} : rn_5_clockOf ns ct R K (n + 1) 58 [v0, v1, .inl (true, z)] k s = (rn_5_clockOf ns ct R K n 59 [v0, v1, .inl (true, z)] (.inl (true, z) :: k) s) := rfl
theorem rx_5_clockOf_59 {ns n ct R K s L k} : rn_5_clockOf ns ct R K (n + 1) 59 L k s = (rn_5_clockOf ns ct R K n 60 L (.inl (true, 1) :: k) s) := rfl
theorem rx_5_clockOf_60 {ns n ct R K s L k a b x y} : rn_5_clockOf ns ct R K (n + 1) 60 L (.inl (b, y) :: .inl (a, x) :: k) s = (sy_ri a x ∧ sy_ri b y ∧ (¬ x = y → rn_5_clockOf ns ct R K n 73 L k s) ∧ (x = y → rn_5_clockOf ns ct R K n 63 L k s)) := rfl
theorem rx_5_clockOf_63 {ns n ct R K s k z v1 v2} : rn_5_clockOf ns ct R K (n + 1) 63 [.inr (.inr (some z)), v1, v2] k s = (rn_5_clockOf ns ct R K n 64 [.inr (.inr (some z)), v1, v2] (.inr (.inr (some z)) :: k) s) := rfl
theorem rx_5_clockOf_64 {ns n ct R K s L k a} : rn_5_clockOf ns ct R K (n + 1) 64 L (.inr (.inr (some (some a))) :: k) s = (sy_ob a = some 5 ∧ rn_5_clockOf ns ct R K n 67 L (sy_fv s a 9 :: k) s) := rfl
theorem rx_5_clockOf_67 {ns n ct R K s L k a} : rn_5_clockOf ns ct R K (n + 1) 67 L (.inr (.inr (some (some a))) :: k) s = (sy_ob a = some 0 ∧ rn_5_clockOf ns ct R K n 70 L (sy_fv s a 2 :: k) s) := rfl
theorem rx_5_clockOf_70 {ns n ct R K s L k} : rn_5_clockOf ns ct R K (n + 1) 70 L k s = (rn_5_clockOf ns ct R K n 80 L k s) := rfl
theorem rx_5_clockOf_73 {ns n ct R K s k z v1 v2} : rn_5_clockOf ns ct R K (n + 1) 73 [.inr (.inr (some z)), v1, v2] k s = (rn_5_clockOf ns ct R K n 74 [.inr (.inr (some z)), v1, v2] (.inr (.inr (some z)) :: k) s) := rfl
theorem rx_5_clockOf_74 {ns n ct R K s L k a} : rn_5_clockOf ns ct R K (n + 1) 74 L (.inr (.inr (some (some a))) :: k) s = (sy_ob a = some 5 ∧ rn_5_clockOf ns ct R K n 77 L (sy_fv s a 9 :: k) s) := rfl
theorem rx_5_clockOf_77 {ns n ct R K s L k a} : rn_5_clockOf ns ct R K (n + 1) 77 L (.inr (.inr (some (some a))) :: k) s = (sy_ob a = some 0 ∧ rn_5_clockOf ns ct R K n 80 L (sy_fv s a 3 :: k) s) := rfl
theorem rx_5_clockOf_80 {ns n ct R K s L a z} : rn_5_clockOf ns ct R K (n + 1) 80 L [.inl (a, z)] s = (sy_ri a z ∧ sy_b01 false z ∧ R (some (.inl (true, z))) s) := rfl
def y_5_refresh : MethodName := ⟨"StarHide$Search", "refresh", "()V"⟩
abbrev c_5_refresh : ByteArray := prog_7_method_12_code
def tc_5_refresh (pc : Nat) : Option sy_I := match pc with
  | 0 => some (.aload_n 0, 1, 0)
  | 1 => some (.getfield 17, 4, 0)
  | 4 => some (.ifCond .ne 4, 7, 8)
  | 7 => some (.return_, 8, 0)
  | 8 => some (.iconst 0, 9, 0)
  | 9 => some (.istore_n 1, 10, 0)
  | 10 => some (.iload_n 1, 11, 0)
  | 11 => some (.aload_n 0, 12, 0)
  | 12 => some (.getfield 31, 15, 0)
  | 15 => some (.getfield 73, 18, 0)
  | 18 => some (.if_icmp .ge 42, 21, 60)
  | 21 => some (.aload_n 0, 22, 0)
  | 22 => some (.getfield 31, 25, 0)
  | 25 => some (.iload_n 1, 26, 0)
  | 26 => some (.invokevirtual 76, 29, 0)
  | 29 => some (.astore_n 2, 30, 0)
  | 30 => some (.aload_n 2, 31, 0)
  | 31 => some (.ifnull 23, 34, 54)
  | 34 => some (.aload_n 0, 35, 0)
  | 35 => some (.getfield 17, 38, 0)
  | 38 => some (.iload_n 1, 39, 0)
  | 39 => some (.ishr, 40, 0)
  | 40 => some (.iconst 1, 41, 0)
  | 41 => some (.iand, 42, 0)
  | 42 => some (.iconst 1, 43, 0)
  | 43 => some (.if_icmp .ne 11, 46, 54)
  | 46 => some (.aload_n 0, 47, 0)
  | 47 => some (.aload_n 2, 48, 0)
  | 48 => some (.iconst 1, 49, 0)
  | 49 => some (.iload_n 1, 50, 0)
  | 50 => some (.ishl, 51, 0)
  | 51 => some (.invokevirtual 80, 54, 0)
  | 54 => some (.iinc 1 1, 57, 0)
  | 57 => some (.goto (-47), 60, 10)
  | 60 => some (.aload_n 0, 61, 0)
  | 61 => some (.iconst 0, 62, 0)
  | 62 => some (.putfield 17, 65, 0)
  | 65 => some (.aload_n 0, 66, 0)
  | 66 => some (.invokevirtual 84, 69, 0)
  | 69 => some (.return_, 70, 0)
  | _ => none
theorem tv_5_refresh : ∀ pc i, sy_lk 70 tc_5_refresh pc = some i → sy_chk c_5_refresh none false pc i = true := sy_lk_ok 70 tc_5_refresh (by decide +kernel)
def Mk_5_refresh (ct : Nat → Option (Bool × Nat × sy_Sp)) : sy_M := (sy_lk 70 tc_5_refresh, ff_5, ki_5, kl_5, ct, false)
def rn_5_refresh (ns : Nat) (ct : Nat → Option (Bool × Nat × sy_Sp)) (R : sy_R) (K : sy_K) : Nat → sy_K := sy_run ns (Mk_5_refresh ct) [10] R K
theorem rx_5_refresh_0 {ns n ct R K s k z v1 v2} : rn_5_refresh ns ct R K (n + 1) 0 [.inr (.inr (some z)), v1, v2] k s = (rn_5_refresh ns ct R K n 1 [.inr (.inr (some z)), v1, v2] (.inr (.inr (some z)) :: k) s) := rfl
theorem rx_5_refresh_1 {ns n ct R K s L k a} : rn_5_refresh ns ct R K (n + 1) 1 L (.inr (.inr (some (some a))) :: k) s = (sy_ob a = some 5 ∧ rn_5_refresh ns ct R K n 4 L (sy_fv s a 3 :: k) s) := rfl
theorem rx_5_refresh_4 {ns n ct R K s L k a x} : rn_5_refresh ns ct R K (n + 1) 4 L (.inl (a, x) :: k) s = (sy_ri a x ∧ (¬ x = 0 → rn_5_refresh ns ct R K n 8 L k s) ∧ (x = 0 → rn_5_refresh ns ct R K n 7 L k s)) := rfl
theorem rx_5_refresh_7 {ns n ct R K s L} : rn_5_refresh ns ct R K (n + 1) 7 L [] s = (R none s) := rfl
theorem rx_5_refresh_8 {ns n ct R K s L k} : rn_5_refresh ns ct R K (n + 1) 8 L k s = (rn_5_refresh ns ct R K n 9 L (.inl (true, 0) :: k) s) := rfl
theorem rx_5_refresh_9 {ns n ct R K s L k b z} : rn_5_refresh ns ct R K (n + 1) 9 L (.inl (b, z) :: k) s = (sy_ri b z ∧ 1 < L.length ∧ K 10 (sy_sto L 1 (.inl (true, z))) k s) := rfl
theorem rx_5_refresh_10 {ns n ct R K s k z v0 v2} : rn_5_refresh ns ct R K (n + 1) 10 [v0, .inl (true, z), v2] k s = (rn_5_refresh ns ct R K n 11 [v0, .inl (true, z), v2] (.inl (true, z) :: k) s) := rfl
theorem rx_5_refresh_11 {ns n ct R K s k z v1 v2} : rn_5_refresh ns ct R K (n + 1) 11 [.inr (.inr (some z)), v1, v2] k s = (rn_5_refresh ns ct R K n 12 [.inr (.inr (some z)), v1, v2] (.inr (.inr (some z)) :: k) s) := rfl
theorem rx_5_refresh_12 {ns n ct R K s L k a} : rn_5_refresh ns ct R K (n + 1) 12 L (.inr (.inr (some (some a))) :: k) s = (sy_ob a = some 5 ∧ rn_5_refresh ns ct R K n 15 L (sy_fv s a 0 :: k) s) := rfl
theorem rx_5_refresh_15 {ns n ct R K s L k a} : rn_5_refresh ns ct R K (n + 1) 15 L (.inr (.inr (some (some a))) :: k) s = (sy_ob a = some 7 ∧ rn_5_refresh ns ct R K n 18 L (sy_fv s a 1 :: k) s) := rfl
theorem rx_5_refresh_18 {ns n ct R K s L k a b x y} : rn_5_refresh ns ct R K (n + 1) 18 L (.inl (b, y) :: .inl (a, x) :: k) s = (sy_ri a x ∧ sy_ri b y ∧ (y ≤ x → rn_5_refresh ns ct R K n 60 L k s) ∧ (¬ y ≤ x → rn_5_refresh ns ct R K n 21 L k s)) := rfl
theorem rx_5_refresh_21 {ns n ct R K s k z v1 v2} : rn_5_refresh ns ct R K (n + 1) 21 [.inr (.inr (some z)), v1, v2] k s = (rn_5_refresh ns ct R K n 22 [.inr (.inr (some z)), v1, v2] (.inr (.inr (some z)) :: k) s) := rfl
theorem rx_5_refresh_22 {ns n ct R K s L k a} : rn_5_refresh ns ct R K (n + 1) 22 L (.inr (.inr (some (some a))) :: k) s = (sy_ob a = some 5 ∧ rn_5_refresh ns ct R K n 25 L (sy_fv s a 0 :: k) s) := rfl
theorem rx_5_refresh_25 {ns n ct R K s k z v0 v2} : rn_5_refresh ns ct R K (n + 1) 25 [v0, .inl (true, z), v2] k s = (rn_5_refresh ns ct R K n 26 [v0, .inl (true, z), v2] (.inl (true, z) :: k) s) := rfl
theorem rx_5_refresh_26 {ns n ct R K s L k} : rn_5_refresh ns ct R K (n + 1) 26 L k s = (sy_call false (ct 76) k s fun r t => rn_5_refresh ns ct R K n 29 L r t) := rfl
theorem rx_5_refresh_29 {ns n ct R K s L k z} : rn_5_refresh ns ct R K (n + 1) 29 L (.inr (.inr (some z)) :: k) s = (2 < L.length ∧ rn_5_refresh ns ct R K n 30 (sy_sto L 2 (.inr (.inr (some z)))) k s) := rfl
theorem rx_5_refresh_30 {ns n ct R K s k z v0 v1} : rn_5_refresh ns ct R K (n + 1) 30 [v0, v1, .inr (.inr (some z))] k s = (rn_5_refresh ns ct R K n 31 [v0, v1, .inr (.inr (some z))] (.inr (.inr (some z)) :: k) s) := rfl
theorem rx_5_refresh_31_n {ns n ct R K s L k} : rn_5_refresh ns ct R K (n + 1) 31 L (.inr (.inr (some none)) :: k) s = (rn_5_refresh ns ct R K n 54 L k s) := rfl
theorem rx_5_refresh_31 {ns n ct R K s L k a} : rn_5_refresh ns ct R K (n + 1) 31 L (.inr (.inr (some (some a))) :: k) s = (rn_5_refresh ns ct R K n 34 L k s) := rfl
theorem rx_5_refresh_34 {ns n ct R K s k z v1 v2} : rn_5_refresh ns ct R K (n + 1) 34 [.inr (.inr (some z)), v1, v2] k s = (rn_5_refresh ns ct R K n 35 [.inr (.inr (some z)), v1, v2] (.inr (.inr (some z)) :: k) s) := rfl
theorem rx_5_refresh_35 {ns n ct R K s L k a} : rn_5_refresh ns ct R K (n + 1) 35 L (.inr (.inr (some (some a))) :: k) s = (sy_ob a = some 5 ∧ rn_5_refresh ns ct R K n 38 L (sy_fv s a 3 :: k) s) := rfl
theorem rx_5_refresh_38 {ns n ct R K s k z v0 v2} : rn_5_refresh ns ct R K (n + 1) 38 [v0, .inl (true, z), v2] k s = (rn_5_refresh ns ct R K n 39 [v0, .inl (true, z), v2] (.inl (true, z) :: k) s) := rfl
theorem rx_5_refresh_39 {ns n ct R K s L k a b x y} : rn_5_refresh ns ct R K (n + 1) 39 L (.inl (b, y) :: .inl (a, x) :: k) s = (rn_5_refresh ns ct R K n 40 L (.inl (true, (Int32.ofInt x >>> (Int32.ofInt y &&& 31)).toInt) :: k) s) := rfl
theorem rx_5_refresh_40 {ns n ct R K s L k} : rn_5_refresh ns ct R K (n + 1) 40 L k s = (rn_5_refresh ns ct R K n 41 L (.inl (true, 1) :: k) s) := rfl
theorem rx_5_refresh_41 {ns n ct R K s L k a b x y} : rn_5_refresh ns ct R K (n + 1) 41 L (.inl (b, y) :: .inl (a, x) :: k) s = (rn_5_refresh ns ct R K n 42 L (.inl (true, (Int32.ofInt x &&& Int32.ofInt y).toInt) :: k) s) := rfl
theorem rx_5_refresh_42 {ns n ct R K s L k} : rn_5_refresh ns ct R K (n + 1) 42 L k s = (rn_5_refresh ns ct R K n 43 L (.inl (true, 1) :: k) s) := rfl
theorem rx_5_refresh_43 {ns n ct R K s L k a b x y} : rn_5_refresh ns ct R K (n + 1) 43 L (.inl (b, y) :: .inl (a, x) :: k) s = (sy_ri a x ∧ sy_ri b y ∧ (¬ x = y → rn_5_refresh ns ct R K n 54 L k s) ∧ (x = y → rn_5_refresh ns ct R K n 46 L k s)) := rfl
theorem rx_5_refresh_46 {ns n ct R K s k z v1 v2} : rn_5_refresh ns ct R K (n + 1) 46 [.inr (.inr (some z)), v1, v2] k s = (rn_5_refresh ns ct R K n 47 [.inr (.inr (some z)), v1, v2] (.inr (.inr (some z)) :: k) s) := rfl
theorem rx_5_refresh_47 {ns n ct R K s k z v0 v1} : rn_5_refresh ns ct R K (n + 1) 47 [v0, v1, .inr (.inr (some z))] k s = (rn_5_refresh ns ct R K n 48 [v0, v1, .inr (.inr (some z))] (.inr (.inr (some z)) :: k) s) := rfl
theorem rx_5_refresh_48 {ns n ct R K s L k} : rn_5_refresh ns ct R K (n + 1) 48 L k s = (rn_5_refresh ns ct R K n 49 L (.inl (true, 1) :: k) s) := rfl
theorem rx_5_refresh_49 {ns n ct R K s k z v0 v2} : rn_5_refresh ns ct R K (n + 1) 49 [v0, .inl (true, z), v2] k s = (rn_5_refresh ns ct R K n 50 [v0, .inl (true, z), v2] (.inl (true, z) :: k) s) := rfl
theorem rx_5_refresh_50 {ns n ct R K s L k a b x y} : rn_5_refresh ns ct R K (n + 1) 50 L (.inl (b, y) :: .inl (a, x) :: k) s = (rn_5_refresh ns ct R K n 51 L (.inl (true, (Int32.ofInt x <<< (Int32.ofInt y &&& 31)).toInt) :: k) s) := rfl
theorem rx_5_refresh_51 {ns n ct R K s L k} : rn_5_refresh ns ct R K (n + 1) 51 L k s = (sy_call false (ct 80) k s fun r t => rn_5_refresh ns ct R K n 54 L r t) := rfl
theorem rx_5_refresh_54 {ns n ct R K s k z v0 v2} : rn_5_refresh ns ct R K (n + 1) 54 [v0, .inl (true, z), v2] k s = ((-2147483648 ≤ z + 1 ∧ z + 1 < 2147483648) ∧ rn_5_refresh ns ct R K n 57 (sy_sto [v0, .inl (true, z), v2] 1 (.inl (true, z + 1))) k s) := rfl
theorem rx_5_refresh_57 {ns n ct R K s L k} : rn_5_refresh ns ct R K (n + 1) 57 L k s = (K 10 L k s) := rfl
theorem rx_5_refresh_60 {ns n ct R K s k z v1 v2} : rn_5_refresh ns ct R K (n + 1) 60 [.inr (.inr (some z)), v1, v2] k s = (rn_5_refresh ns ct R K n 61 [.inr (.inr (some z)), v1, v2] (.inr (.inr (some z)) :: k) s) := rfl
theorem rx_5_refresh_61 {ns n ct R K s L k} : rn_5_refresh ns ct R K (n + 1) 61 L k s = (rn_5_refresh ns ct R K n 62 L (.inl (true, 0) :: k) s) := rfl
theorem rx_5_refresh_62 {ns n ct R K s L k a b z} : rn_5_refresh ns ct R K (n + 1) 62 L (.inl (b, z) :: .inr (.inr (some (some a))) :: k) s = (sy_ob a = some 5 ∧ sy_ri b z ∧ sy_b01 false z ∧ rn_5_refresh ns ct R K n 65 L k (sy_up s a 3 z)) := rfl
theorem rx_5_refresh_65 {ns n ct R K s k z v1 v2} : rn_5_refresh ns ct R K (n + 1) 65 [.inr (.inr (some z)), v1, v2] k s = (rn_5_refresh ns ct R K n 66 [.inr (.inr (some z)), v1, v2] (.inr (.inr (some z)) :: k) s) := rfl
theorem rx_5_refresh_66 {ns n ct R K s L k} : rn_5_refresh ns ct R K (n + 1) 66 L k s = (sy_call false (ct 84) k s fun r t => rn_5_refresh ns ct R K n 69 L r t) := rfl
theorem rx_5_refresh_69 {ns n ct R K s L} : rn_5_refresh ns ct R K (n + 1) 69 L [] s = (R none s) := rfl
def y_5_judge : MethodName := ⟨"StarHide$Search", "judge", "(LStarHide$Site;I)V"⟩
abbrev c_5_judge : ByteArray := prog_7_method_13_code
def tc_5_judge (pc : Nat) : Option sy_I := match pc with
  | 0 => some (.aload_n 1, 1, 0)
  | 1 => some (.invokevirtual 87, 4, 0)
  | 4 => some (.ifCond .ne 9, 7, 13)
  | 7 => some (.aload_n 0, 8, 0)
  | 8 => some (.iload_n 2, 9, 0)
  | 9 => some (.invokevirtual 93, 12, 0)
  | 12 => some (.return_, 13, 0)
  | 13 => some (.aload_n 0, 14, 0)
  | 14 => some (.getfield 35, 17, 0)
  | 17 => some (.aload_n 1, 18, 0)
  | 18 => some (.invokevirtual 96, 21, 0)
  | 21 => some (.iconst 0, 22, 0)
  | 22 => some (.istore_n 3, 23, 0)
  | 23 => some (.iload_n 3, 24, 0)
  | 24 => some (.aload_n 0, 25, 0)
  | 25 => some (.getfield 35, 28, 0)
  | 28 => some (.getfield 100, 31, 0)
  | 31 => some (.if_icmp .ge 29, 34, 60)
  | 34 => some (.iload_n 3, 35, 0)
  | 35 => some (.sipush 512, 38, 0)
  | 38 => some (.if_icmp .ge 22, 41, 60)
  | 41 => some (.aload_n 0, 42, 0)
  | 42 => some (.aload_n 1, 43, 0)
  | 43 => some (.iload_n 2, 44, 0)
  | 44 => some (.iload_n 3, 45, 0)
  | 45 => some (.aload_n 1, 46, 0)
  | 46 => some (.getfield 103, 49, 0)
  | 49 => some (.iload_n 3, 50, 0)
  | 50 => some (.iaload, 51, 0)
  | 51 => some (.invokevirtual 106, 54, 0)
  | 54 => some (.iinc 3 1, 57, 0)
  | 57 => some (.goto (-34), 60, 23)
  | 60 => some (.return_, 61, 0)
  | _ => none
theorem tv_5_judge : ∀ pc i, sy_lk 61 tc_5_judge pc = some i → sy_chk c_5_judge none false pc i = true := sy_lk_ok 61 tc_5_judge (by decide +kernel)
def Mk_5_judge (ct : Nat → Option (Bool × Nat × sy_Sp)) : sy_M := (sy_lk 61 tc_5_judge, ff_5, ki_5, kl_5, ct, false)
def rn_5_judge (ns : Nat) (ct : Nat → Option (Bool × Nat × sy_Sp)) (R : sy_R) (K : sy_K) : Nat → sy_K := sy_run ns (Mk_5_judge ct) [23] R K
theorem rx_5_judge_0 {ns n ct R K s k z v0 v2 v3} : rn_5_judge ns ct R K (n + 1) 0 [v0, .inr (.inr (some z)), v2, v3] k s = (rn_5_judge ns ct R K n 1 [v0, .inr (.inr (some z)), v2, v3] (.inr (.inr (some z)) :: k) s) := rfl
theorem rx_5_judge_1 {ns n ct R K s L k} : rn_5_judge ns ct R K (n + 1) 1 L k s = (sy_call false (ct 87) k s fun r t => rn_5_judge ns ct R K n 4 L r t) := rfl
theorem rx_5_judge_4 {ns n ct R K s L k a x} : rn_5_judge ns ct R K (n + 1) 4 L (.inl (a, x) :: k) s = (sy_ri a x ∧ (¬ x = 0 → rn_5_judge ns ct R K n 13 L k s) ∧ (x = 0 → rn_5_judge ns ct R K n 7 L k s)) := rfl
theorem rx_5_judge_7 {ns n ct R K s k z v1 v2 v3} : rn_5_judge ns ct R K (n + 1) 7 [.inr (.inr (some z)), v1, v2, v3] k s = (rn_5_judge ns ct R K n 8 [.inr (.inr (some z)), v1, v2, v3] (.inr (.inr (some z)) :: k) s) := rfl
theorem rx_5_judge_8 {ns n ct R K s k z v0 v1 v3} : rn_5_judge ns ct R K (n + 1) 8 [v0, v1, .inl (true, z), v3] k s = (rn_5_judge ns ct R K n 9 [v0, v1, .inl (true, z), v3] (.inl (true, z) :: k) s) := rfl
theorem rx_5_judge_9 {ns n ct R K s L k} : rn_5_judge ns ct R K (n + 1) 9 L k s = (sy_call false (ct 93) k s fun r t => rn_5_judge ns ct R K n 12 L r t) := rfl
theorem rx_5_judge_12 {ns n ct R K s L} : rn_5_judge ns ct R K (n + 1) 12 L [] s = (R none s) := rfl
theorem rx_5_judge_13 {ns n ct R K s k z v1 v2 v3} : rn_5_judge ns ct R K (n + 1) 13 [.inr (.inr (some z)), v1, v2, v3] k s = (rn_5_judge ns ct R K n 14 [.inr (.inr (some z)), v1, v2, v3] (.inr (.inr (some z)) :: k) s) := rfl
theorem rx_5_judge_14 {ns n ct R K s L k a} : rn_5_judge ns ct R K (n + 1) 14 L (.inr (.inr (some (some a))) :: k) s = (sy_ob a = some 5 ∧ rn_5_judge ns ct R K n 17 L (sy_fv s a 1 :: k) s) := rfl
theorem rx_5_judge_17 {ns n ct R K s k z v0 v2 v3} : rn_5_judge ns ct R K (n + 1) 17 [v0, .inr (.inr (some z)), v2, v3] k s = (rn_5_judge ns ct R K n 18 [v0, .inr (.inr (some z)), v2, v3] (.inr (.inr (some z)) :: k) s) := rfl
theorem rx_5_judge_18 {ns n ct R K s L k} : rn_5_judge ns ct R K (n + 1) 18 L k s = (sy_call false (ct 96) k s fun r t => rn_5_judge ns ct R K n 21 L r t) := rfl
theorem rx_5_judge_21 {ns n ct R K s L k} : rn_5_judge ns ct R K (n + 1) 21 L k s = (rn_5_judge ns ct R K n 22 L (.inl (true, 0) :: k) s) := rfl
theorem rx_5_judge_22 {ns n ct R K s L k b z} : rn_5_judge ns ct R K (n + 1) 22 L (.inl (b, z) :: k) s = (sy_ri b z ∧ 3 < L.length ∧ K 23 (sy_sto L 3 (.inl (true, z))) k s) := rfl
theorem rx_5_judge_23 {ns n ct R K s k z v0 v1 v2} : rn_5_judge ns ct R K (n + 1) 23 [v0, v1, v2, .inl (true, z)] k s = (rn_5_judge ns ct R K n 24 [v0, v1, v2, .inl (true, z)] (.inl (true, z) :: k) s) := rfl
theorem rx_5_judge_24 {ns n ct R K s k z v1 v2 v3} : rn_5_judge ns ct R K (n + 1) 24 [.inr (.inr (some z)), v1, v2, v3] k s = (rn_5_judge ns ct R K n 25 [.inr (.inr (some z)), v1, v2, v3] (.inr (.inr (some z)) :: k) s) := rfl
theorem rx_5_judge_25 {ns n ct R K s L k a} : rn_5_judge ns ct R K (n + 1) 25 L (.inr (.inr (some (some a))) :: k) s = (sy_ob a = some 5 ∧ rn_5_judge ns ct R K n 28 L (sy_fv s a 1 :: k) s) := rfl
theorem rx_5_judge_28 {ns n ct R K s L k a} : rn_5_judge ns ct R K (n + 1) 28 L (.inr (.inr (some (some a))) :: k) s = (sy_ob a = some 3 ∧ rn_5_judge ns ct R K n 31 L (sy_fv s a 3 :: k) s) := rfl
theorem rx_5_judge_31 {ns n ct R K s L k a b x y} : rn_5_judge ns ct R K (n + 1) 31 L (.inl (b, y) :: .inl (a, x) :: k) s = (sy_ri a x ∧ sy_ri b y ∧ (y ≤ x → rn_5_judge ns ct R K n 60 L k s) ∧ (¬ y ≤ x → rn_5_judge ns ct R K n 34 L k s)) := rfl
theorem rx_5_judge_34 {ns n ct R K s k z v0 v1 v2} : rn_5_judge ns ct R K (n + 1) 34 [v0, v1, v2, .inl (true, z)] k s = (rn_5_judge ns ct R K n 35 [v0, v1, v2, .inl (true, z)] (.inl (true, z) :: k) s) := rfl
theorem rx_5_judge_35 {ns n ct R K s L k} : rn_5_judge ns ct R K (n + 1) 35 L k s = (rn_5_judge ns ct R K n 38 L (.inl (true, 512) :: k) s) := rfl
theorem rx_5_judge_38 {ns n ct R K s L k a b x y} : rn_5_judge ns ct R K (n + 1) 38 L (.inl (b, y) :: .inl (a, x) :: k) s = (sy_ri a x ∧ sy_ri b y ∧ (y ≤ x → rn_5_judge ns ct R K n 60 L k s) ∧ (¬ y ≤ x → rn_5_judge ns ct R K n 41 L k s)) := rfl
theorem rx_5_judge_41 {ns n ct R K s k z v1 v2 v3} : rn_5_judge ns ct R K (n + 1) 41 [.inr (.inr (some z)), v1, v2, v3] k s = (rn_5_judge ns ct R K n 42 [.inr (.inr (some z)), v1, v2, v3] (.inr (.inr (some z)) :: k) s) := rfl
theorem rx_5_judge_42 {ns n ct R K s k z v0 v2 v3} : rn_5_judge ns ct R K (n + 1) 42 [v0, .inr (.inr (some z)), v2, v3] k s = (rn_5_judge ns ct R K n 43 [v0, .inr (.inr (some z)), v2, v3] (.inr (.inr (some z)) :: k) s) := rfl
theorem rx_5_judge_43 {ns n ct R K s k z v0 v1 v3} : rn_5_judge ns ct R K (n + 1) 43 [v0, v1, .inl (true, z), v3] k s = (rn_5_judge ns ct R K n 44 [v0, v1, .inl (true, z), v3] (.inl (true, z) :: k) s) := rfl
theorem rx_5_judge_44 {ns n ct R K s k z v0 v1 v2} : rn_5_judge ns ct R K (n + 1) 44 [v0, v1, v2, .inl (true, z)] k s = (rn_5_judge ns ct R K n 45 [v0, v1, v2, .inl (true, z)] (.inl (true, z) :: k) s) := rfl
theorem rx_5_judge_45 {ns n ct R K s k z v0 v2 v3} : rn_5_judge ns ct R K (n + 1) 45 [v0, .inr (.inr (some z)), v2, v3] k s = (rn_5_judge ns ct R K n 46 [v0, .inr (.inr (some z)), v2, v3] (.inr (.inr (some z)) :: k) s) := rfl
theorem rx_5_judge_46 {ns n ct R K s L k a} : rn_5_judge ns ct R K (n + 1) 46 L (.inr (.inr (some (some a))) :: k) s = (sy_ob a = some 6 ∧ rn_5_judge ns ct R K n 49 L (sy_fv s a 2 :: k) s) := rfl
theorem rx_5_judge_49 {ns n ct R K s k z v0 v1 v2} : rn_5_judge ns ct R K (n + 1) 49 [v0, v1, v2, .inl (true, z)] k s = (rn_5_judge ns ct R K n 50 [v0, v1, v2, .inl (true, z)] (.inl (true, z) :: k) s) := rfl
theorem rx_5_judge_50 {ns n ct R K s L k a b z} : rn_5_judge ns ct R K (n + 1) 50 L (.inl (b, z) :: .inr (.inr (some (some a))) :: k) s = ((0 ≤ z ∧ z < (sy_ar a).2) ∧ sy_ob a = none ∧ (sy_ar a).1 = 0 ∧ rn_5_judge ns ct R K n 51 L (.inl (true, s a z.toNat) :: k) s) := rfl
theorem rx_5_judge_51 {ns n ct R K s L k} : rn_5_judge ns ct R K (n + 1) 51 L k s = (sy_call false (ct 106) k s fun r t => rn_5_judge ns ct R K n 54 L r t) := rfl
theorem rx_5_judge_54 {ns n ct R K s k z v0 v1 v2} : rn_5_judge ns ct R K (n + 1) 54 [v0, v1, v2, .inl (true, z)] k s = ((-2147483648 ≤ z + 1 ∧ z + 1 < 2147483648) ∧ rn_5_judge ns ct R K n 57 (sy_sto [v0, v1, v2, .inl (true, z)] 3 (.inl (true, z + 1))) k s) := rfl
theorem rx_5_judge_57 {ns n ct R K s L k} : rn_5_judge ns ct R K (n + 1) 57 L k s = (K 23 L k s) := rfl
theorem rx_5_judge_60 {ns n ct R K s L} : rn_5_judge ns ct R K (n + 1) 60 L [] s = (R none s) := rfl
def y_5_judgeShape : MethodName := ⟨"StarHide$Search", "judgeShape", "(LStarHide$Site;III)V"⟩
abbrev c_5_judgeShape : ByteArray := prog_7_method_14_code
def tc_5_judgeShape (pc : Nat) : Option sy_I := match pc with
  | 0 => some (.aload_n 1, 1, 0)
  | 1 => some (.aload_n 0, 2, 0)
  | 2 => some (.getfield 31, 5, 0)
  | 5 => some (.getfield 110, 8, 0)
  | 8 => some (.iload 4, 10, 0)
  | 10 => some (.invokevirtual 113, 13, 0)
  | 13 => some (.istore 5, 15, 0)
  | 15 => some (.aload_n 1, 16, 0)
  | 16 => some (.aload_n 0, 17, 0)
  | 17 => some (.getfield 31, 20, 0)
  | 20 => some (.getfield 110, 23, 0)
  | 23 => some (.iload 4, 25, 0)
  | 25 => some (.invokevirtual 117, 28, 0)
  | 28 => some (.istore 6, 30, 0)
  | 30 => some (.iconst 2, 31, 0)
  | 31 => some (.aload_n 0, 32, 0)
  | 32 => some (.getfield 35, 35, 0)
  | 35 => some (.iconst 0, 36, 0)
  | 36 => some (.iconst 0, 37, 0)
  | 37 => some (.invokevirtual 120, 40, 0)
  | 40 => some (.aload_n 0, 41, 0)
  | 41 => some (.getfield 31, 44, 0)
  | 44 => some (.getfield 110, 47, 0)
  | 47 => some (.aload_n 1, 48, 0)
  | 48 => some (.getfield 123, 51, 0)
  | 51 => some (.imul, 52, 0)
  | 52 => some (.iadd, 53, 0)
  | 53 => some (.imul, 54, 0)
  | 54 => some (.istore 7, 56, 0)
  | 56 => some (.iconst 2, 57, 0)
  | 57 => some (.aload_n 0, 58, 0)
  | 58 => some (.getfield 35, 61, 0)
  | 61 => some (.iconst 0, 62, 0)
  | 62 => some (.iconst 1, 63, 0)
  | 63 => some (.invokevirtual 120, 66, 0)
  | 66 => some (.aload_n 0, 67, 0)
  | 67 => some (.getfield 35, 70, 0)
  | 70 => some (.iconst 0, 71, 0)
  | 71 => some (.iconst 0, 72, 0)
  | 72 => some (.invokevirtual 120, 75, 0)
  | 75 => some (.isub, 76, 0)
  | 76 => some (.imul, 77, 0)
  | 77 => some (.istore 8, 79, 0)
  | 79 => some (.iconst 1, 80, 0)
  | 80 => some (.aload_n 0, 81, 0)
  | 81 => some (.getfield 35, 84, 0)
  | 84 => some (.getfield 100, 87, 0)
  | 87 => some (.invokestatic 126, 90, 0)
  | 90 => some (.istore 9, 92, 0)
  | 92 => some (.iload_n 3, 93, 0)
  | 93 => some (.istore 10, 95, 0)
  | 95 => some (.iload 10, 97, 0)
  | 97 => some (.aload_n 0, 98, 0)
  | 98 => some (.getfield 35, 101, 0)
  | 101 => some (.getfield 57, 104, 0)
  | 104 => some (.if_icmp .ge 68, 107, 172)
  | 107 => some (.iload 10, 109, 0)
  | 109 => some (.sipush 4096, 112, 0)
  | 112 => some (.if_icmp .ge 60, 115, 172)
  | 115 => some (.aload_n 1, 116, 0)
  | 116 => some (.iload 7, 118, 0)
  | 118 => some (.iload 5, 120, 0)
  | 120 => some (.iload 6, 122, 0)
  | 122 => some (.invokevirtual 131, 125, 0)
  | 125 => some (.ifCond .eq 19, 128, 144)
  | 128 => some (.aload_n 0, 129, 0)
  | 129 => some (.getfield 11, 132, 0)
  | 132 => some (.iload 10, 134, 0)
  | 134 => some (.dup2, 135, 0)
  | 135 => some (.iaload, 136, 0)
  | 136 => some (.iload_n 2, 137, 0)
  | 137 => some (.iconst (-1), 138, 0)
  | 138 => some (.ixor, 139, 0)
  | 139 => some (.iand, 140, 0)
  | 140 => some (.iastore, 141, 0)
  | 141 => some (.goto 14, 144, 155)
  | 144 => some (.aload_n 0, 145, 0)
  | 145 => some (.getfield 11, 148, 0)
  | 148 => some (.iload 10, 150, 0)
  | 150 => some (.dup2, 151, 0)
  | 151 => some (.iaload, 152, 0)
  | 152 => some (.iload_n 2, 153, 0)
  | 153 => some (.ior, 154, 0)
  | 154 => some (.iastore, 155, 0)
  | 155 => some (.iload 7, 157, 0)
  | 157 => some (.iload 8, 159, 0)
  | 159 => some (.iadd, 160, 0)
  | 160 => some (.istore 7, 162, 0)
  | 162 => some (.iload 10, 164, 0)
  | 164 => some (.iload 9, 166, 0)
  | 166 => some (.iadd, 167, 0)
  | 167 => some (.istore 10, 169, 0)
  | 169 => some (.goto (-74), 172, 95)
  | 172 => some (.return_, 173, 0)
  | _ => none
theorem tv_5_judgeShape : ∀ pc i, sy_lk 173 tc_5_judgeShape pc = some i → sy_chk c_5_judgeShape none false pc i = true := sy_lk_ok 173 tc_5_judgeShape (by decide +kernel)
def Mk_5_judgeShape (ct : Nat → Option (Bool × Nat × sy_Sp)) : sy_M := (sy_lk 173 tc_5_judgeShape, ff_5, ki_5, kl_5, ct, false)
def rn_5_judgeShape (ns : Nat) (ct : Nat → Option (Bool × Nat × sy_Sp)) (R : sy_R) (K : sy_K) : Nat → sy_K := sy_run ns (Mk_5_judgeShape ct) [95] R K
theorem rx_5_judgeShape_0 {ns n ct R K s k z v0 v2 v3 v4 v5 v6 v7 v8 v9 v10} : rn_5_judgeShape ns ct R K (n + 1) 0 [v0, .inr (.inr (some z)), v2, v3, v4, v5, v6, v7, v8, v9, v10] k s = (rn_5_judgeShape ns ct R K n 1 [v0, .inr (.inr (some z)), v2, v3, v4, v5, v6, v7, v8, v9, v10] (.inr (.inr (some z)) :: k) s) := rfl
theorem rx_5_judgeShape_1 {ns n ct R K s k z v1 v2 v3 v4 v5 v6 v7 v8 v9 v10} : rn_5_judgeShape ns ct R K (n + 1) 1 [.inr (.inr (some z)), v1, v2, v3, v4, v5, v6, v7, v8, v9, v10] k s = (rn_5_judgeShape ns ct R K n 2 [.inr (.inr (some z)), v1, v2, v3, v4, v5, v6, v7, v8, v9, v10] (.inr (.inr (some z)) :: k) s) := rfl
theorem rx_5_judgeShape_2 {ns n ct R K s L k a} : rn_5_judgeShape ns ct R K (n + 1) 2 L (.inr (.inr (some (some a))) :: k) s = (sy_ob a = some 5 ∧ rn_5_judgeShape ns ct R K n 5 L (sy_fv s a 0 :: k) s) := rfl
theorem rx_5_judgeShape_5 {ns n ct R K s L k a} : rn_5_judgeShape ns ct R K (n + 1) 5 L (.inr (.inr (some (some a))) :: k) s = (sy_ob a = some 7 ∧ rn_5_judgeShape ns ct R K n 8 L (sy_fv s a 2 :: k) s) := rfl
theorem rx_5_judgeShape_8 {ns n ct R K s k z v0 v1 v2 v3 v5 v6 v7 v8 v9 v10} : rn_5_judgeShape ns ct R K (n + 1) 8 [v0, v1, v2, v3, .inl (true, z), v5, v6, v7, v8, v9, v10] k s = (rn_5_judgeShape ns ct R K n 10 [v0, v1, v2, v3, .inl (true, z), v5, v6, v7, v8, v9, v10] (.inl (true, z) :: k) s) := rfl
theorem rx_5_judgeShape_10 {ns n ct R K s L k} : rn_5_judgeShape ns ct R K (n + 1) 10 L k s = (sy_call false (ct 113) k s fun r t => rn_5_judgeShape ns ct R K n 13 L r t) := rfl
theorem rx_5_judgeShape_13 {ns n ct R K s L k b z} : rn_5_judgeShape ns ct R K (n + 1) 13 L (.inl (b, z) :: k) s = (sy_ri b z ∧ 5 < L.length ∧ rn_5_judgeShape ns ct R K n 15 (sy_sto L 5 (.inl (true, z))) k s) := rfl
theorem rx_5_judgeShape_15 {ns n ct R K s k z v0 v2 v3 v4 v5 v6 v7 v8 v9 v10} : rn_5_judgeShape ns ct R K (n + 1) 15 [v0, .inr (.inr (some z)), v2, v3, v4, v5, v6, v7, v8, v9, v10] k s = (rn_5_judgeShape ns ct R K n 16 [v0, .inr (.inr (some z)), v2, v3, v4, v5, v6, v7, v8, v9, v10] (.inr (.inr (some z)) :: k) s) := rfl
theorem rx_5_judgeShape_16 {ns n ct R K s k z v1 v2 v3 v4 v5 v6 v7 v8 v9 v10} : rn_5_judgeShape ns ct R K (n + 1) 16 [.inr (.inr (some z)), v1, v2, v3, v4, v5, v6, v7, v8, v9, v10] k s = (rn_5_judgeShape ns ct R K n 17 [.inr (.inr (some z)), v1, v2, v3, v4, v5, v6, v7, v8, v9, v10] (.inr (.inr (some z)) :: k) s) := rfl
theorem rx_5_judgeShape_17 {ns n ct R K s L k a} : rn_5_judgeShape ns ct R K (n + 1) 17 L (.inr (.inr (some (some a))) :: k) s = (sy_ob a = some 5 ∧ rn_5_judgeShape ns ct R K n 20 L (sy_fv s a 0 :: k) s) := rfl
theorem rx_5_judgeShape_20 {ns n ct R K s L k a} : rn_5_judgeShape ns ct R K (n + 1) 20 L (.inr (.inr (some (some a))) :: k) s = (sy_ob a = some 7 ∧ rn_5_judgeShape ns ct R K n 23 L (sy_fv s a 2 :: k) s) := rfl
theorem rx_5_judgeShape_23 {ns n ct R K s k z v0 v1 v2 v3 v5 v6 v7 v8 v9 v10} : rn_5_judgeShape ns ct R K (n + 1) 23 [v0, v1, v2, v3, .inl (true, z), v5, v6, v7, v8, v9, v10] k s = (rn_5_judgeShape ns ct R K n 25 [v0, v1, v2, v3, .inl (true, z), v5, v6, v7, v8, v9, v10] (.inl (true, z) :: k) s) := rfl
theorem rx_5_judgeShape_25 {ns n ct R K s L k} : rn_5_judgeShape ns ct R K (n + 1) 25 L k s = (sy_call false (ct 117) k s fun r t => rn_5_judgeShape ns ct R K n 28 L r t) := rfl
theorem rx_5_judgeShape_28 {ns n ct R K s L k b z} : rn_5_judgeShape ns ct R K (n + 1) 28 L (.inl (b, z) :: k) s = (sy_ri b z ∧ 6 < L.length ∧ rn_5_judgeShape ns ct R K n 30 (sy_sto L 6 (.inl (true, z))) k s) := rfl
theorem rx_5_judgeShape_30 {ns n ct R K s L k} : rn_5_judgeShape ns ct R K (n + 1) 30 L k s = (rn_5_judgeShape ns ct R K n 31 L (.inl (true, 2) :: k) s) := rfl
theorem rx_5_judgeShape_31 {ns n ct R K s k z v1 v2 v3 v4 v5 v6 v7 v8 v9 v10} : rn_5_judgeShape ns ct R K (n + 1) 31 [.inr (.inr (some z)), v1, v2, v3, v4, v5, v6, v7, v8, v9, v10] k s = (rn_5_judgeShape ns ct R K n 32 [.inr (.inr (some z)), v1, v2, v3, v4, v5, v6, v7, v8, v9, v10] (.inr (.inr (some z)) :: k) s) := rfl
theorem rx_5_judgeShape_32 {ns n ct R K s L k a} : rn_5_judgeShape ns ct R K (n + 1) 32 L (.inr (.inr (some (some a))) :: k) s = (sy_ob a = some 5 ∧ rn_5_judgeShape ns ct R K n 35 L (sy_fv s a 1 :: k) s) := rfl
theorem rx_5_judgeShape_35 {ns n ct R K s L k} : rn_5_judgeShape ns ct R K (n + 1) 35 L k s = (rn_5_judgeShape ns ct R K n 36 L (.inl (true, 0) :: k) s) := rfl
theorem rx_5_judgeShape_36 {ns n ct R K s L k} : rn_5_judgeShape ns ct R K (n + 1) 36 L k s = (rn_5_judgeShape ns ct R K n 37 L (.inl (true, 0) :: k) s) := rfl
theorem rx_5_judgeShape_37 {ns n ct R K s L k} : rn_5_judgeShape ns ct R K (n + 1) 37 L k s = (sy_call false (ct 120) k s fun r t => rn_5_judgeShape ns ct R K n 40 L r t) := rfl
theorem rx_5_judgeShape_40 {ns n ct R K s k z v1 v2 v3 v4 v5 v6 v7 v8 v9 v10} : rn_5_judgeShape ns ct R K (n + 1) 40 [.inr (.inr (some z)), v1, v2, v3, v4, v5, v6, v7, v8, v9, v10] k s = (rn_5_judgeShape ns ct R K n 41 [.inr (.inr (some z)), v1, v2, v3, v4, v5, v6, v7, v8, v9, v10] (.inr (.inr (some z)) :: k) s) := rfl
theorem rx_5_judgeShape_41 {ns n ct R K s L k a} : rn_5_judgeShape ns ct R K (n + 1) 41 L (.inr (.inr (some (some a))) :: k) s = (sy_ob a = some 5 ∧ rn_5_judgeShape ns ct R K n 44 L (sy_fv s a 0 :: k) s) := rfl
theorem rx_5_judgeShape_44 {ns n ct R K s L k a} : rn_5_judgeShape ns ct R K (n + 1) 44 L (.inr (.inr (some (some a))) :: k) s = (sy_ob a = some 7 ∧ rn_5_judgeShape ns ct R K n 47 L (sy_fv s a 2 :: k) s) := rfl
theorem rx_5_judgeShape_47 {ns n ct R K s k z v0 v2 v3 v4 v5 v6 v7 v8 v9 v10} : rn_5_judgeShape ns ct R K (n + 1) 47 [v0, .inr (.inr (some z)), v2, v3, v4, v5, v6, v7, v8, v9, v10] k s = (rn_5_judgeShape ns ct R K n 48 [v0, .inr (.inr (some z)), v2, v3, v4, v5, v6, v7, v8, v9, v10] (.inr (.inr (some z)) :: k) s) := rfl
theorem rx_5_judgeShape_48 {ns n ct R K s L k a} : rn_5_judgeShape ns ct R K (n + 1) 48 L (.inr (.inr (some (some a))) :: k) s = (sy_ob a = some 6 ∧ rn_5_judgeShape ns ct R K n 51 L (sy_fv s a 4 :: k) s) := rfl
theorem rx_5_judgeShape_51 {ns n ct R K s L k a b x y} : rn_5_judgeShape ns ct R K (n + 1) 51 L (.inl (b, y) :: .inl (a, x) :: k) s = (rn_5_judgeShape ns ct R K n 52 L (.inl (false, x * y) :: k) s) := rfl
theorem rx_5_judgeShape_52 {ns n ct R K s L k a b x y} : rn_5_judgeShape ns ct R K (n + 1) 52 L (.inl (b, y) :: .inl (a, x) :: k) s = (rn_5_judgeShape ns ct R K n 53 L (.inl (false, x + y) :: k) s) := rfl
theorem rx_5_judgeShape_53 {ns n ct R K s L k a b x y} : rn_5_judgeShape ns ct R K (n + 1) 53 L (.inl (b, y) :: .inl (a, x) :: k) s = (rn_5_judgeShape ns ct R K n 54 L (.inl (false, x * y) :: k) s) := rfl
theorem rx_5_judgeShape_54 {ns n ct R K s L k b z} : rn_5_judgeShape ns ct R K (n + 1) 54 L (.inl (b, z) :: k) s = (sy_ri b z ∧ 7 < L.length ∧ rn_5_judgeShape ns ct R K n 56 (sy_sto L 7 (.inl (true, z))) k s) := rfl
theorem rx_5_judgeShape_56 {ns n ct R K s L k} : rn_5_judgeShape ns ct R K (n + 1) 56 L k s = (rn_5_judgeShape ns ct R K n 57 L (.inl (true, 2) :: k) s) := rfl
theorem rx_5_judgeShape_57 {ns n ct R K s k z v1 v2 v3 v4 v5 v6 v7 v8 v9 v10} : rn_5_judgeShape ns ct R K (n + 1) 57 [.inr (.inr (some z)), v1, v2, v3, v4, v5, v6, v7, v8, v9, v10] k s = (rn_5_judgeShape ns ct R K n 58 [.inr (.inr (some z)), v1, v2, v3, v4, v5, v6, v7, v8, v9, v10] (.inr (.inr (some z)) :: k) s) := rfl
theorem rx_5_judgeShape_58 {ns n ct R K s L k a} : rn_5_judgeShape ns ct R K (n + 1) 58 L (.inr (.inr (some (some a))) :: k) s = (sy_ob a = some 5 ∧ rn_5_judgeShape ns ct R K n 61 L (sy_fv s a 1 :: k) s) := rfl
theorem rx_5_judgeShape_61 {ns n ct R K s L k} : rn_5_judgeShape ns ct R K (n + 1) 61 L k s = (rn_5_judgeShape ns ct R K n 62 L (.inl (true, 0) :: k) s) := rfl
theorem rx_5_judgeShape_62 {ns n ct R K s L k} : rn_5_judgeShape ns ct R K (n + 1) 62 L k s = (rn_5_judgeShape ns ct R K n 63 L (.inl (true, 1) :: k) s) := rfl
theorem rx_5_judgeShape_63 {ns n ct R K s L k} : rn_5_judgeShape ns ct R K (n + 1) 63 L k s = (sy_call false (ct 120) k s fun r t => rn_5_judgeShape ns ct R K n 66 L r t) := rfl
theorem rx_5_judgeShape_66 {ns n ct R K s k z v1 v2 v3 v4 v5 v6 v7 v8 v9 v10} : rn_5_judgeShape ns ct R K (n + 1) 66 [.inr (.inr (some z)), v1, v2, v3, v4, v5, v6, v7, v8, v9, v10] k s = (rn_5_judgeShape ns ct R K n 67 [.inr (.inr (some z)), v1, v2, v3, v4, v5, v6, v7, v8, v9, v10] (.inr (.inr (some z)) :: k) s) := rfl
theorem rx_5_judgeShape_67 {ns n ct R K s L k a} : rn_5_judgeShape ns ct R K (n + 1) 67 L (.inr (.inr (some (some a))) :: k) s = (sy_ob a = some 5 ∧ rn_5_judgeShape ns ct R K n 70 L (sy_fv s a 1 :: k) s) := rfl
theorem rx_5_judgeShape_70 {ns n ct R K s L k} : rn_5_judgeShape ns ct R K (n + 1) 70 L k s = (rn_5_judgeShape ns ct R K n 71 L (.inl (true, 0) :: k) s) := rfl
theorem rx_5_judgeShape_71 {ns n ct R K s L k} : rn_5_judgeShape ns ct R K (n + 1) 71 L k s = (rn_5_judgeShape ns ct R K n 72 L (.inl (true, 0) :: k) s) := rfl
theorem rx_5_judgeShape_72 {ns n ct R K s L k} : rn_5_judgeShape ns ct R K (n + 1) 72 L k s = (sy_call false (ct 120) k s fun r t => rn_5_judgeShape ns ct R K n 75 L r t) := rfl
theorem rx_5_judgeShape_75 {ns n ct R K s L k a b x y} : rn_5_judgeShape ns ct R K (n + 1) 75 L (.inl (b, y) :: .inl (a, x) :: k) s = (rn_5_judgeShape ns ct R K n 76 L (.inl (false, x - y) :: k) s) := rfl
theorem rx_5_judgeShape_76 {ns n ct R K s L k a b x y} : rn_5_judgeShape ns ct R K (n + 1) 76 L (.inl (b, y) :: .inl (a, x) :: k) s = (rn_5_judgeShape ns ct R K n 77 L (.inl (false, x * y) :: k) s) := rfl
theorem rx_5_judgeShape_77 {ns n ct R K s L k b z} : rn_5_judgeShape ns ct R K (n + 1) 77 L (.inl (b, z) :: k) s = (sy_ri b z ∧ 8 < L.length ∧ rn_5_judgeShape ns ct R K n 79 (sy_sto L 8 (.inl (true, z))) k s) := rfl
theorem rx_5_judgeShape_79 {ns n ct R K s L k} : rn_5_judgeShape ns ct R K (n + 1) 79 L k s = (rn_5_judgeShape ns ct R K n 80 L (.inl (true, 1) :: k) s) := rfl
theorem rx_5_judgeShape_80 {ns n ct R K s k z v1 v2 v3 v4 v5 v6 v7 v8 v9 v10} : rn_5_judgeShape ns ct R K (n + 1) 80 [.inr (.inr (some z)), v1, v2, v3, v4, v5, v6, v7, v8, v9, v10] k s = (rn_5_judgeShape ns ct R K n 81 [.inr (.inr (some z)), v1, v2, v3, v4, v5, v6, v7, v8, v9, v10] (.inr (.inr (some z)) :: k) s) := rfl
theorem rx_5_judgeShape_81 {ns n ct R K s L k a} : rn_5_judgeShape ns ct R K (n + 1) 81 L (.inr (.inr (some (some a))) :: k) s = (sy_ob a = some 5 ∧ rn_5_judgeShape ns ct R K n 84 L (sy_fv s a 1 :: k) s) := rfl
theorem rx_5_judgeShape_84 {ns n ct R K s L k a} : rn_5_judgeShape ns ct R K (n + 1) 84 L (.inr (.inr (some (some a))) :: k) s = (sy_ob a = some 3 ∧ rn_5_judgeShape ns ct R K n 87 L (sy_fv s a 3 :: k) s) := rfl
theorem rx_5_judgeShape_87 {ns n ct R K s L k} : rn_5_judgeShape ns ct R K (n + 1) 87 L k s = (sy_call true (ct 126) k s fun r t => rn_5_judgeShape ns ct R K n 90 L r t) := rfl
theorem rx_5_judgeShape_90 {ns n ct R K s L k b z} : rn_5_judgeShape ns ct R K (n + 1) 90 L (.inl (b, z) :: k) s = (sy_ri b z ∧ 9 < L.length ∧ rn_5_judgeShape ns ct R K n 92 (sy_sto L 9 (.inl (true, z))) k s) := rfl
theorem rx_5_judgeShape_92 {ns n ct R K s k z v0 v1 v2 v4 v5 v6 v7 v8 v9 v10} : rn_5_judgeShape ns ct R K (n + 1) 92 [v0, v1, v2, .inl (true, z), v4, v5, v6, v7, v8, v9, v10] k s = (rn_5_judgeShape ns ct R K n 93 [v0, v1, v2, .inl (true, z), v4, v5, v6, v7, v8, v9, v10] (.inl (true, z) :: k) s) := rfl
theorem rx_5_judgeShape_93 {ns n ct R K s L k b z} : rn_5_judgeShape ns ct R K (n + 1) 93 L (.inl (b, z) :: k) s = (sy_ri b z ∧ 10 < L.length ∧ K 95 (sy_sto L 10 (.inl (true, z))) k s) := rfl
theorem rx_5_judgeShape_95 {ns n ct R K s k z v0 v1 v2 v3 v4 v5 v6 v7 v8 v9} : rn_5_judgeShape ns ct R K (n + 1) 95 [v0, v1, v2, v3, v4, v5, v6, v7, v8, v9, .inl (true, z)] k s = (rn_5_judgeShape ns ct R K n 97 [v0, v1, v2, v3, v4, v5, v6, v7, v8, v9, .inl (true, z)] (.inl (true, z) :: k) s) := rfl
theorem rx_5_judgeShape_97 {ns n ct R K s k z v1 v2 v3 v4 v5 v6 v7 v8 v9 v10} : rn_5_judgeShape ns ct R K (n + 1) 97 [.inr (.inr (some z)), v1, v2, v3, v4, v5, v6, v7, v8, v9, v10] k s = (rn_5_judgeShape ns ct R K n 98 [.inr (.inr (some z)), v1, v2, v3, v4, v5, v6, v7, v8, v9, v10] (.inr (.inr (some z)) :: k) s) := rfl
theorem rx_5_judgeShape_98 {ns n ct R K s L k a} : rn_5_judgeShape ns ct R K (n + 1) 98 L (.inr (.inr (some (some a))) :: k) s = (sy_ob a = some 5 ∧ rn_5_judgeShape ns ct R K n 101 L (sy_fv s a 1 :: k) s) := rfl
theorem rx_5_judgeShape_101 {ns n ct R K s L k a} : rn_5_judgeShape ns ct R K (n + 1) 101 L (.inr (.inr (some (some a))) :: k) s = (sy_ob a = some 3 ∧ rn_5_judgeShape ns ct R K n 104 L (sy_fv s a 4 :: k) s) := rfl
theorem rx_5_judgeShape_104 {ns n ct R K s L k a b x y} : rn_5_judgeShape ns ct R K (n + 1) 104 L (.inl (b, y) :: .inl (a, x) :: k) s = (sy_ri a x ∧ sy_ri b y ∧ (y ≤ x → rn_5_judgeShape ns ct R K n 172 L k s) ∧ (¬ y ≤ x → rn_5_judgeShape ns ct R K n 107 L k s)) := rfl
theorem rx_5_judgeShape_107 {ns n ct R K s k z v0 v1 v2 v3 v4 v5 v6 v7 v8 v9} : rn_5_judgeShape ns ct R K (n + 1) 107 [v0, v1, v2, v3, v4, v5, v6, v7, v8, v9, .inl (true, z)] k s = (rn_5_judgeShape ns ct R K n 109 [v0, v1, v2, v3, v4, v5, v6, v7, v8, v9, .inl (true, z)] (.inl (true, z) :: k) s) := rfl
theorem rx_5_judgeShape_109 {ns n ct R K s L k} : rn_5_judgeShape ns ct R K (n + 1) 109 L k s = (rn_5_judgeShape ns ct R K n 112 L (.inl (true, 4096) :: k) s) := rfl
theorem rx_5_judgeShape_112 {ns n ct R K s L k a b x y} : rn_5_judgeShape ns ct R K (n + 1) 112 L (.inl (b, y) :: .inl (a, x) :: k) s = (sy_ri a x ∧ sy_ri b y ∧ (y ≤ x → rn_5_judgeShape ns ct R K n 172 L k s) ∧ (¬ y ≤ x → rn_5_judgeShape ns ct R K n 115 L k s)) := rfl
theorem rx_5_judgeShape_115 {ns n ct R K s k z v0 v2 v3 v4 v5 v6 v7 v8 v9 v10} : rn_5_judgeShape ns ct R K (n + 1) 115 [v0, .inr (.inr (some z)), v2, v3, v4, v5, v6, v7, v8, v9, v10] k s = (rn_5_judgeShape ns ct R K n 116 [v0, .inr (.inr (some z)), v2, v3, v4, v5, v6, v7, v8, v9, v10] (.inr (.inr (some z)) :: k) s) := rfl
theorem rx_5_judgeShape_116 {ns n ct R K s k z v0 v1 v2 v3 v4 v5 v6 v8 v9 v10} : rn_5_judgeShape ns ct R K (n + 1) 116 [v0, v1, v2, v3, v4, v5, v6, .inl (true, z), v8, v9, v10] k s = (rn_5_judgeShape ns ct R K n 118 [v0, v1, v2, v3, v4, v5, v6, .inl (true, z), v8, v9, v10] (.inl (true, z) :: k) s) := rfl
theorem rx_5_judgeShape_118 {ns n ct R K s k z v0 v1 v2 v3 v4 v6 v7 v8 v9 v10} : rn_5_judgeShape ns ct R K (n + 1) 118 [v0, v1, v2, v3, v4, .inl (true, z), v6, v7, v8, v9, v10] k s = (rn_5_judgeShape ns ct R K n 120 [v0, v1, v2, v3, v4, .inl (true, z), v6, v7, v8, v9, v10] (.inl (true, z) :: k) s) := rfl
theorem rx_5_judgeShape_120 {ns n ct R K s k z v0 v1 v2 v3 v4 v5 v7 v8 v9 v10} : rn_5_judgeShape ns ct R K (n + 1) 120 [v0, v1, v2, v3, v4, v5, .inl (true, z), v7, v8, v9, v10] k s = (rn_5_judgeShape ns ct R K n 122 [v0, v1, v2, v3, v4, v5, .inl (true, z), v7, v8, v9, v10] (.inl (true, z) :: k) s) := rfl
theorem rx_5_judgeShape_122 {ns n ct R K s L k} : rn_5_judgeShape ns ct R K (n + 1) 122 L k s = (sy_call false (ct 131) k s fun r t => rn_5_judgeShape ns ct R K n 125 L r t) := rfl
theorem rx_5_judgeShape_125 {ns n ct R K s L k a x} : rn_5_judgeShape ns ct R K (n + 1) 125 L (.inl (a, x) :: k) s = (sy_ri a x ∧ (x = 0 → rn_5_judgeShape ns ct R K n 144 L k s) ∧ (¬ x = 0 → rn_5_judgeShape ns ct R K n 128 L k s)) := rfl
theorem rx_5_judgeShape_128 {ns n ct R K s k z v1 v2 v3 v4 v5 v6 v7 v8 v9 v10} : rn_5_judgeShape ns ct R K (n + 1) 128 [.inr (.inr (some z)), v1, v2, v3, v4, v5, v6, v7, v8, v9, v10] k s = (rn_5_judgeShape ns ct R K n 129 [.inr (.inr (some z)), v1, v2, v3, v4, v5, v6, v7, v8, v9, v10] (.inr (.inr (some z)) :: k) s) := rfl
theorem rx_5_judgeShape_129 {ns n ct R K s L k a} : rn_5_judgeShape ns ct R K (n + 1) 129 L (.inr (.inr (some (some a))) :: k) s = (sy_ob a = some 5 ∧ rn_5_judgeShape ns ct R K n 132 L (sy_fv s a 2 :: k) s) := rfl
theorem rx_5_judgeShape_132 {ns n ct R K s k z v0 v1 v2 v3 v4 v5 v6 v7 v8 v9} : rn_5_judgeShape ns ct R K (n + 1) 132 [v0, v1, v2, v3, v4, v5, v6, v7, v8, v9, .inl (true, z)] k s = (rn_5_judgeShape ns ct R K n 134 [v0, v1, v2, v3, v4, v5, v6, v7, v8, v9, .inl (true, z)] (.inl (true, z) :: k) s) := rfl
theorem rx_5_judgeShape_134 {ns n ct R K s L k a b} : rn_5_judgeShape ns ct R K (n + 1) 134 L (.inl a :: .inr (.inr b) :: k) s = (rn_5_judgeShape ns ct R K n 135 L (.inl a :: .inr (.inr b) :: .inl a :: .inr (.inr b) :: k) s) := rfl
theorem rx_5_judgeShape_135 {ns n ct R K s L k a b z} : rn_5_judgeShape ns ct R K (n + 1) 135 L (.inl (b, z) :: .inr (.inr (some (some a))) :: k) s = ((0 ≤ z ∧ z < (sy_ar a).2) ∧ sy_ob a = none ∧ (sy_ar a).1 = 0 ∧ rn_5_judgeShape ns ct R K n 136 L (.inl (true, s a z.toNat) :: k) s) := rfl
theorem rx_5_judgeShape_136 {ns n ct R K s k z v0 v1 v3 v4 v5 v6 v7 v8 v9 v10} : rn_5_judgeShape ns ct R K (n + 1) 136 [v0, v1, .inl (true, z), v3, v4, v5, v6, v7, v8, v9, v10] k s = (rn_5_judgeShape ns ct R K n 137 [v0, v1, .inl (true, z), v3, v4, v5, v6, v7, v8, v9, v10] (.inl (true, z) :: k) s) := rfl
theorem rx_5_judgeShape_137 {ns n ct R K s L k} : rn_5_judgeShape ns ct R K (n + 1) 137 L k s = (rn_5_judgeShape ns ct R K n 138 L (.inl (true, (-1)) :: k) s) := rfl
theorem rx_5_judgeShape_138 {ns n ct R K s L k a b x y} : rn_5_judgeShape ns ct R K (n + 1) 138 L (.inl (b, y) :: .inl (a, x) :: k) s = (rn_5_judgeShape ns ct R K n 139 L (.inl (true, (Int32.ofInt x ^^^ Int32.ofInt y).toInt) :: k) s) := rfl
theorem rx_5_judgeShape_139 {ns n ct R K s L k a b x y} : rn_5_judgeShape ns ct R K (n + 1) 139 L (.inl (b, y) :: .inl (a, x) :: k) s = (rn_5_judgeShape ns ct R K n 140 L (.inl (true, (Int32.ofInt x &&& Int32.ofInt y).toInt) :: k) s) := rfl
theorem rx_5_judgeShape_140 {ns n ct R K s L k a b c z y} : rn_5_judgeShape ns ct R K (n + 1) 140 L (.inl (c, y) :: .inl (b, z) :: .inr (.inr (some (some a))) :: k) s = (sy_ri c y ∧ (0 ≤ z ∧ z < (sy_ar a).2) ∧ sy_ob a = none ∧ (sy_ar a).1 = 0 ∧ rn_5_judgeShape ns ct R K n 141 L k (sy_up s a z.toNat y)) := rfl
theorem rx_5_judgeShape_141 {ns n ct R K s L k} : rn_5_judgeShape ns ct R K (n + 1) 141 L k s = (rn_5_judgeShape ns ct R K n 155 L k s) := rfl
theorem rx_5_judgeShape_144 {ns n ct R K s k z v1 v2 v3 v4 v5 v6 v7 v8 v9 v10} : rn_5_judgeShape ns ct R K (n + 1) 144 [.inr (.inr (some z)), v1, v2, v3, v4, v5, v6, v7, v8, v9, v10] k s = (rn_5_judgeShape ns ct R K n 145 [.inr (.inr (some z)), v1, v2, v3, v4, v5, v6, v7, v8, v9, v10] (.inr (.inr (some z)) :: k) s) := rfl
theorem rx_5_judgeShape_145 {ns n ct R K s L k a} : rn_5_judgeShape ns ct R K (n + 1) 145 L (.inr (.inr (some (some a))) :: k) s = (sy_ob a = some 5 ∧ rn_5_judgeShape ns ct R K n 148 L (sy_fv s a 2 :: k) s) := rfl
theorem rx_5_judgeShape_148 {ns n ct R K s k z v0 v1 v2 v3 v4 v5 v6 v7 v8 v9} : rn_5_judgeShape ns ct R K (n + 1) 148 [v0, v1, v2, v3, v4, v5, v6, v7, v8, v9, .inl (true, z)] k s = (rn_5_judgeShape ns ct R K n 150 [v0, v1, v2, v3, v4, v5, v6, v7, v8, v9, .inl (true, z)] (.inl (true, z) :: k) s) := rfl
theorem rx_5_judgeShape_150 {ns n ct R K s L k a b} : rn_5_judgeShape ns ct R K (n + 1) 150 L (.inl a :: .inr (.inr b) :: k) s = (rn_5_judgeShape ns ct R K n 151 L (.inl a :: .inr (.inr b) :: .inl a :: .inr (.inr b) :: k) s) := rfl
theorem rx_5_judgeShape_151 {ns n ct R K s L k a b z} : rn_5_judgeShape ns ct R K (n + 1) 151 L (.inl (b, z) :: .inr (.inr (some (some a))) :: k) s = ((0 ≤ z ∧ z < (sy_ar a).2) ∧ sy_ob a = none ∧ (sy_ar a).1 = 0 ∧ rn_5_judgeShape ns ct R K n 152 L (.inl (true, s a z.toNat) :: k) s) := rfl
theorem rx_5_judgeShape_152 {ns n ct R K s k z v0 v1 v3 v4 v5 v6 v7 v8 v9 v10} : rn_5_judgeShape ns ct R K (n + 1) 152 [v0, v1, .inl (true, z), v3, v4, v5, v6, v7, v8, v9, v10] k s = (rn_5_judgeShape ns ct R K n 153 [v0, v1, .inl (true, z), v3, v4, v5, v6, v7, v8, v9, v10] (.inl (true, z) :: k) s) := rfl
theorem rx_5_judgeShape_153 {ns n ct R K s L k a b x y} : rn_5_judgeShape ns ct R K (n + 1) 153 L (.inl (b, y) :: .inl (a, x) :: k) s = (rn_5_judgeShape ns ct R K n 154 L (.inl (true, (Int32.ofInt x ||| Int32.ofInt y).toInt) :: k) s) := rfl
theorem rx_5_judgeShape_154 {ns n ct R K s L k a b c z y} : rn_5_judgeShape ns ct R K (n + 1) 154 L (.inl (c, y) :: .inl (b, z) :: .inr (.inr (some (some a))) :: k) s = (sy_ri c y ∧ (0 ≤ z ∧ z < (sy_ar a).2) ∧ sy_ob a = none ∧ (sy_ar a).1 = 0 ∧ rn_5_judgeShape ns ct R K n 155 L k (sy_up s a z.toNat y)) := rfl
theorem rx_5_judgeShape_155 {ns n ct R K s k z v0 v1 v2 v3 v4 v5 v6 v8 v9 v10} : rn_5_judgeShape ns ct R K (n + 1) 155 [v0, v1, v2, v3, v4, v5, v6, .inl (true, z), v8, v9, v10] k s = (rn_5_judgeShape ns ct R K n 157 [v0, v1, v2, v3, v4, v5, v6, .inl (true, z), v8, v9, v10] (.inl (true, z) :: k) s) := rfl
theorem rx_5_judgeShape_157 {ns n ct R K s k z v0 v1 v2 v3 v4 v5 v6 v7 v9 v10} : rn_5_judgeShape ns ct R K (n + 1) 157 [v0, v1, v2, v3, v4, v5, v6, v7, .inl (true, z), v9, v10] k s = (rn_5_judgeShape ns ct R K n 159 [v0, v1, v2, v3, v4, v5, v6, v7, .inl (true, z), v9, v10] (.inl (true, z) :: k) s) := rfl
theorem rx_5_judgeShape_159 {ns n ct R K s L k a b x y} : rn_5_judgeShape ns ct R K (n + 1) 159 L (.inl (b, y) :: .inl (a, x) :: k) s = (rn_5_judgeShape ns ct R K n 160 L (.inl (false, x + y) :: k) s) := rfl
theorem rx_5_judgeShape_160 {ns n ct R K s L k b z} : rn_5_judgeShape ns ct R K (n + 1) 160 L (.inl (b, z) :: k) s = (sy_ri b z ∧ 7 < L.length ∧ rn_5_judgeShape ns ct R K n 162 (sy_sto L 7 (.inl (true, z))) k s) := rfl
theorem rx_5_judgeShape_162 {ns n ct R K s k z v0 v1 v2 v3 v4 v5 v6 v7 v8 v9} : rn_5_judgeShape ns ct R K (n + 1) 162 [v0, v1, v2, v3, v4, v5, v6, v7, v8, v9, .inl (true, z)] k s = (rn_5_judgeShape ns ct R K n 164 [v0, v1, v2, v3, v4, v5, v6, v7, v8, v9, .inl (true, z)] (.inl (true, z) :: k) s) := rfl
theorem rx_5_judgeShape_164 {ns n ct R K s k z v0 v1 v2 v3 v4 v5 v6 v7 v8 v10} : rn_5_judgeShape ns ct R K (n + 1) 164 [v0, v1, v2, v3, v4, v5, v6, v7, v8, .inl (true, z), v10] k s = (rn_5_judgeShape ns ct R K n 166 [v0, v1, v2, v3, v4, v5, v6, v7, v8, .inl (true, z), v10] (.inl (true, z) :: k) s) := rfl
theorem rx_5_judgeShape_166 {ns n ct R K s L k a b x y} : rn_5_judgeShape ns ct R K (n + 1) 166 L (.inl (b, y) :: .inl (a, x) :: k) s = (rn_5_judgeShape ns ct R K n 167 L (.inl (false, x + y) :: k) s) := rfl
theorem rx_5_judgeShape_167 {ns n ct R K s L k b z} : rn_5_judgeShape ns ct R K (n + 1) 167 L (.inl (b, z) :: k) s = (sy_ri b z ∧ 10 < L.length ∧ rn_5_judgeShape ns ct R K n 169 (sy_sto L 10 (.inl (true, z))) k s) := rfl
theorem rx_5_judgeShape_169 {ns n ct R K s L k} : rn_5_judgeShape ns ct R K (n + 1) 169 L k s = (K 95 L k s) := rfl
theorem rx_5_judgeShape_172 {ns n ct R K s L} : rn_5_judgeShape ns ct R K (n + 1) 172 L [] s = (R none s) := rfl
def y_5_clearAll : MethodName := ⟨"StarHide$Search", "clearAll", "(I)V"⟩
abbrev c_5_clearAll : ByteArray := prog_7_method_15_code
def tc_5_clearAll (pc : Nat) : Option sy_I := match pc with
  | 0 => some (.iconst 0, 1, 0)
  | 1 => some (.istore_n 2, 2, 0)
  | 2 => some (.iload_n 2, 3, 0)
  | 3 => some (.aload_n 0, 4, 0)
  | 4 => some (.getfield 35, 7, 0)
  | 7 => some (.getfield 57, 10, 0)
  | 10 => some (.if_icmp .ge 28, 13, 38)
  | 13 => some (.iload_n 2, 14, 0)
  | 14 => some (.sipush 4096, 17, 0)
  | 17 => some (.if_icmp .ge 21, 20, 38)
  | 20 => some (.aload_n 0, 21, 0)
  | 21 => some (.getfield 11, 24, 0)
  | 24 => some (.iload_n 2, 25, 0)
  | 25 => some (.dup2, 26, 0)
  | 26 => some (.iaload, 27, 0)
  | 27 => some (.iload_n 1, 28, 0)
  | 28 => some (.iconst (-1), 29, 0)
  | 29 => some (.ixor, 30, 0)
  | 30 => some (.iand, 31, 0)
  | 31 => some (.iastore, 32, 0)
  | 32 => some (.iinc 2 1, 35, 0)
  | 35 => some (.goto (-33), 38, 2)
  | 38 => some (.return_, 39, 0)
  | _ => none
theorem tv_5_clearAll : ∀ pc i, sy_lk 39 tc_5_clearAll pc = some i → sy_chk c_5_clearAll none false pc i = true := sy_lk_ok 39 tc_5_clearAll (by decide +kernel)
def Mk_5_clearAll (ct : Nat → Option (Bool × Nat × sy_Sp)) : sy_M := (sy_lk 39 tc_5_clearAll, ff_5, ki_5, kl_5, ct, false)
def rn_5_clearAll (ns : Nat) (ct : Nat → Option (Bool × Nat × sy_Sp)) (R : sy_R) (K : sy_K) : Nat → sy_K := sy_run ns (Mk_5_clearAll ct) [2] R K
theorem rx_5_clearAll_0 {ns n ct R K s L k} : rn_5_clearAll ns ct R K (n + 1) 0 L k s = (rn_5_clearAll ns ct R K n 1 L (.inl (true, 0) :: k) s) := rfl
theorem rx_5_clearAll_1 {ns n ct R K s L k b z} : rn_5_clearAll ns ct R K (n + 1) 1 L (.inl (b, z) :: k) s = (sy_ri b z ∧ 2 < L.length ∧ K 2 (sy_sto L 2 (.inl (true, z))) k s) := rfl
theorem rx_5_clearAll_2 {ns n ct R K s k z v0 v1} : rn_5_clearAll ns ct R K (n + 1) 2 [v0, v1, .inl (true, z)] k s = (rn_5_clearAll ns ct R K n 3 [v0, v1, .inl (true, z)] (.inl (true, z) :: k) s) := rfl
theorem rx_5_clearAll_3 {ns n ct R K s k z v1 v2} : rn_5_clearAll ns ct R K (n + 1) 3 [.inr (.inr (some z)), v1, v2] k s = (rn_5_clearAll ns ct R K n 4 [.inr (.inr (some z)), v1, v2] (.inr (.inr (some z)) :: k) s) := rfl
theorem rx_5_clearAll_4 {ns n ct R K s L k a} : rn_5_clearAll ns ct R K (n + 1) 4 L (.inr (.inr (some (some a))) :: k) s = (sy_ob a = some 5 ∧ rn_5_clearAll ns ct R K n 7 L (sy_fv s a 1 :: k) s) := rfl
theorem rx_5_clearAll_7 {ns n ct R K s L k a} : rn_5_clearAll ns ct R K (n + 1) 7 L (.inr (.inr (some (some a))) :: k) s = (sy_ob a = some 3 ∧ rn_5_clearAll ns ct R K n 10 L (sy_fv s a 4 :: k) s) := rfl
theorem rx_5_clearAll_10 {ns n ct R K s L k a b x y} : rn_5_clearAll ns ct R K (n + 1) 10 L (.inl (b, y) :: .inl (a, x) :: k) s = (sy_ri a x ∧ sy_ri b y ∧ (y ≤ x → rn_5_clearAll ns ct R K n 38 L k s) ∧ (¬ y ≤ x → rn_5_clearAll ns ct R K n 13 L k s)) := rfl
theorem rx_5_clearAll_13 {ns n ct R K s k z v0 v1} : rn_5_clearAll ns ct R K (n + 1) 13 [v0, v1, .inl (true, z)] k s = (rn_5_clearAll ns ct R K n 14 [v0, v1, .inl (true, z)] (.inl (true, z) :: k) s) := rfl
theorem rx_5_clearAll_14 {ns n ct R K s L k} : rn_5_clearAll ns ct R K (n + 1) 14 L k s = (rn_5_clearAll ns ct R K n 17 L (.inl (true, 4096) :: k) s) := rfl
theorem rx_5_clearAll_17 {ns n ct R K s L k a b x y} : rn_5_clearAll ns ct R K (n + 1) 17 L (.inl (b, y) :: .inl (a, x) :: k) s = (sy_ri a x ∧ sy_ri b y ∧ (y ≤ x → rn_5_clearAll ns ct R K n 38 L k s) ∧ (¬ y ≤ x → rn_5_clearAll ns ct R K n 20 L k s)) := rfl
theorem rx_5_clearAll_20 {ns n ct R K s k z v1 v2} : rn_5_clearAll ns ct R K (n + 1) 20 [.inr (.inr (some z)), v1, v2] k s = (rn_5_clearAll ns ct R K n 21 [.inr (.inr (some z)), v1, v2] (.inr (.inr (some z)) :: k) s) := rfl
theorem rx_5_clearAll_21 {ns n ct R K s L k a} : rn_5_clearAll ns ct R K (n + 1) 21 L (.inr (.inr (some (some a))) :: k) s = (sy_ob a = some 5 ∧ rn_5_clearAll ns ct R K n 24 L (sy_fv s a 2 :: k) s) := rfl
theorem rx_5_clearAll_24 {ns n ct R K s k z v0 v1} : rn_5_clearAll ns ct R K (n + 1) 24 [v0, v1, .inl (true, z)] k s = (rn_5_clearAll ns ct R K n 25 [v0, v1, .inl (true, z)] (.inl (true, z) :: k) s) := rfl
theorem rx_5_clearAll_25 {ns n ct R K s L k a b} : rn_5_clearAll ns ct R K (n + 1) 25 L (.inl a :: .inr (.inr b) :: k) s = (rn_5_clearAll ns ct R K n 26 L (.inl a :: .inr (.inr b) :: .inl a :: .inr (.inr b) :: k) s) := rfl
theorem rx_5_clearAll_26 {ns n ct R K s L k a b z} : rn_5_clearAll ns ct R K (n + 1) 26 L (.inl (b, z) :: .inr (.inr (some (some a))) :: k) s = ((0 ≤ z ∧ z < (sy_ar a).2) ∧ sy_ob a = none ∧ (sy_ar a).1 = 0 ∧ rn_5_clearAll ns ct R K n 27 L (.inl (true, s a z.toNat) :: k) s) := rfl
theorem rx_5_clearAll_27 {ns n ct R K s k z v0 v2} : rn_5_clearAll ns ct R K (n + 1) 27 [v0, .inl (true, z), v2] k s = (rn_5_clearAll ns ct R K n 28 [v0, .inl (true, z), v2] (.inl (true, z) :: k) s) := rfl
theorem rx_5_clearAll_28 {ns n ct R K s L k} : rn_5_clearAll ns ct R K (n + 1) 28 L k s = (rn_5_clearAll ns ct R K n 29 L (.inl (true, (-1)) :: k) s) := rfl
theorem rx_5_clearAll_29 {ns n ct R K s L k a b x y} : rn_5_clearAll ns ct R K (n + 1) 29 L (.inl (b, y) :: .inl (a, x) :: k) s = (rn_5_clearAll ns ct R K n 30 L (.inl (true, (Int32.ofInt x ^^^ Int32.ofInt y).toInt) :: k) s) := rfl
theorem rx_5_clearAll_30 {ns n ct R K s L k a b x y} : rn_5_clearAll ns ct R K (n + 1) 30 L (.inl (b, y) :: .inl (a, x) :: k) s = (rn_5_clearAll ns ct R K n 31 L (.inl (true, (Int32.ofInt x &&& Int32.ofInt y).toInt) :: k) s) := rfl
theorem rx_5_clearAll_31 {ns n ct R K s L k a b c z y} : rn_5_clearAll ns ct R K (n + 1) 31 L (.inl (c, y) :: .inl (b, z) :: .inr (.inr (some (some a))) :: k) s = (sy_ri c y ∧ (0 ≤ z ∧ z < (sy_ar a).2) ∧ sy_ob a = none ∧ (sy_ar a).1 = 0 ∧ rn_5_clearAll ns ct R K n 32 L k (sy_up s a z.toNat y)) := rfl
theorem rx_5_clearAll_32 {ns n ct R K s k z v0 v1} : rn_5_clearAll ns ct R K (n + 1) 32 [v0, v1, .inl (true, z)] k s = ((-2147483648 ≤ z + 1 ∧ z + 1 < 2147483648) ∧ rn_5_clearAll ns ct R K n 35 (sy_sto [v0, v1, .inl (true, z)] 2 (.inl (true, z + 1))) k s) := rfl
theorem rx_5_clearAll_35 {ns n ct R K s L k} : rn_5_clearAll ns ct R K (n + 1) 35 L k s = (K 2 L k s) := rfl
theorem rx_5_clearAll_38 {ns n ct R K s L} : rn_5_clearAll ns ct R K (n + 1) 38 L [] s = (R none s) := rfl
def y_5_sumUp : MethodName := ⟨"StarHide$Search", "sumUp", "()V"⟩
abbrev c_5_sumUp : ByteArray := prog_7_method_16_code
def tc_5_sumUp (pc : Nat) : Option sy_I := match pc with
  | 0 => some (.aload_n 0, 1, 0)
  | 1 => some (.iconst 0, 2, 0)
  | 2 => some (.putfield 42, 5, 0)
  | 5 => some (.aload_n 0, 6, 0)
  | 6 => some (.iconst (-1), 7, 0)
  | 7 => some (.putfield 45, 10, 0)
  | 10 => some (.aload_n 0, 11, 0)
  | 11 => some (.iconst (-1), 12, 0)
  | 12 => some (.putfield 48, 15, 0)
  | 15 => some (.aload_n 0, 16, 0)
  | 16 => some (.bipush 17, 18, 0)
  | 18 => some (.putfield 51, 21, 0)
  | 21 => some (.aload_n 0, 22, 0)
  | 22 => some (.iconst (-1), 23, 0)
  | 23 => some (.putfield 54, 26, 0)
  | 26 => some (.iconst 0, 27, 0)
  | 27 => some (.istore_n 1, 28, 0)
  | 28 => some (.iload_n 1, 29, 0)
  | 29 => some (.aload_n 0, 30, 0)
  | 30 => some (.getfield 35, 33, 0)
  | 33 => some (.getfield 57, 36, 0)
  | 36 => some (.if_icmp .ge 53, 39, 89)
  | 39 => some (.iload_n 1, 40, 0)
  | 40 => some (.sipush 4096, 43, 0)
  | 43 => some (.if_icmp .ge 46, 46, 89)
  | 46 => some (.aload_n 0, 47, 0)
  | 47 => some (.getfield 11, 50, 0)
  | 50 => some (.iload_n 1, 51, 0)
  | 51 => some (.iaload, 52, 0)
  | 52 => some (.invokestatic 135, 55, 0)
  | 55 => some (.istore_n 2, 56, 0)
  | 56 => some (.iload_n 2, 57, 0)
  | 57 => some (.ifCond .ne 8, 60, 65)
  | 60 => some (.aload_n 0, 61, 0)
  | 61 => some (.iload_n 1, 62, 0)
  | 62 => some (.invokevirtual 141, 65, 0)
  | 65 => some (.iload_n 2, 66, 0)
  | 66 => some (.aload_n 0, 67, 0)
  | 67 => some (.getfield 51, 70, 0)
  | 70 => some (.if_icmp .ge 13, 73, 83)
  | 73 => some (.aload_n 0, 74, 0)
  | 74 => some (.iload_n 2, 75, 0)
  | 75 => some (.putfield 51, 78, 0)
  | 78 => some (.aload_n 0, 79, 0)
  | 79 => some (.iload_n 1, 80, 0)
  | 80 => some (.putfield 54, 83, 0)
  | 83 => some (.iinc 1 1, 86, 0)
  | 86 => some (.goto (-58), 89, 28)
  | 89 => some (.return_, 90, 0)
  | _ => none
theorem tv_5_sumUp : ∀ pc i, sy_lk 90 tc_5_sumUp pc = some i → sy_chk c_5_sumUp none false pc i = true := sy_lk_ok 90 tc_5_sumUp (by decide +kernel)
def Mk_5_sumUp (ct : Nat → Option (Bool × Nat × sy_Sp)) : sy_M := (sy_lk 90 tc_5_sumUp, ff_5, ki_5, kl_5, ct, false)
def rn_5_sumUp (ns : Nat) (ct : Nat → Option (Bool × Nat × sy_Sp)) (R : sy_R) (K : sy_K) : Nat → sy_K := sy_run ns (Mk_5_sumUp ct) [28] R K
theorem rx_5_sumUp_0 {ns n ct R K s k z v1 v2} : rn_5_sumUp ns ct R K (n + 1) 0 [.inr (.inr (some z)), v1, v2] k s = (rn_5_sumUp ns ct R K n 1 [.inr (.inr (some z)), v1, v2] (.inr (.inr (some z)) :: k) s) := rfl
theorem rx_5_sumUp_1 {ns n ct R K s L k} : rn_5_sumUp ns ct R K (n + 1) 1 L k s = (rn_5_sumUp ns ct R K n 2 L (.inl (true, 0) :: k) s) := rfl
theorem rx_5_sumUp_2 {ns n ct R K s L k a b z} : rn_5_sumUp ns ct R K (n + 1) 2 L (.inl (b, z) :: .inr (.inr (some (some a))) :: k) s = (sy_ob a = some 5 ∧ sy_ri b z ∧ sy_b01 false z ∧ rn_5_sumUp ns ct R K n 5 L k (sy_up s a 4 z)) := rfl
theorem rx_5_sumUp_5 {ns n ct R K s k z v1 v2} : rn_5_sumUp ns ct R K (n + 1) 5 [.inr (.inr (some z)), v1, v2] k s = (rn_5_sumUp ns ct R K n 6 [.inr (.inr (some z)), v1, v2] (.inr (.inr (some z)) :: k) s) := rfl
theorem rx_5_sumUp_6 {ns n ct R K s L k} : rn_5_sumUp ns ct R K (n + 1) 6 L k s = (rn_5_sumUp ns ct R K n 7 L (.inl (true, (-1)) :: k) s) := rfl
theorem rx_5_sumUp_7 {ns n ct R K s L k a b z} : rn_5_sumUp ns ct R K (n + 1) 7 L (.inl (b, z) :: .inr (.inr (some (some a))) :: k) s = (sy_ob a = some 5 ∧ sy_ri b z ∧ sy_b01 false z ∧ rn_5_sumUp ns ct R K n 10 L k (sy_up s a 5 z)) := rfl
theorem rx_5_sumUp_10 {ns n ct R K s k z v1 v2} : rn_5_sumUp ns ct R K (n + 1) 10 [.inr (.inr (some z)), v1, v2] k s = (rn_5_sumUp ns ct R K n 11 [.inr (.inr (some z)), v1, v2] (.inr (.inr (some z)) :: k) s) := rfl
theorem rx_5_sumUp_11 {ns n ct R K s L k} : rn_5_sumUp ns ct R K (n + 1) 11 L k s = (rn_5_sumUp ns ct R K n 12 L (.inl (true, (-1)) :: k) s) := rfl
theorem rx_5_sumUp_12 {ns n ct R K s L k a b z} : rn_5_sumUp ns ct R K (n + 1) 12 L (.inl (b, z) :: .inr (.inr (some (some a))) :: k) s = (sy_ob a = some 5 ∧ sy_ri b z ∧ sy_b01 false z ∧ rn_5_sumUp ns ct R K n 15 L k (sy_up s a 6 z)) := rfl
theorem rx_5_sumUp_15 {ns n ct R K s k z v1 v2} : rn_5_sumUp ns ct R K (n + 1) 15 [.inr (.inr (some z)), v1, v2] k s = (rn_5_sumUp ns ct R K n 16 [.inr (.inr (some z)), v1, v2] (.inr (.inr (some z)) :: k) s) := rfl
theorem rx_5_sumUp_16 {ns n ct R K s L k} : rn_5_sumUp ns ct R K (n + 1) 16 L k s = (rn_5_sumUp ns ct R K n 18 L (.inl (true, 17) :: k) s) := rfl
theorem rx_5_sumUp_18 {ns n ct R K s L k a b z} : rn_5_sumUp ns ct R K (n + 1) 18 L (.inl (b, z) :: .inr (.inr (some (some a))) :: k) s = (sy_ob a = some 5 ∧ sy_ri b z ∧ sy_b01 false z ∧ rn_5_sumUp ns ct R K n 21 L k (sy_up s a 7 z)) := rfl
theorem rx_5_sumUp_21 {ns n ct R K s k z v1 v2} : rn_5_sumUp ns ct R K (n + 1) 21 [.inr (.inr (some z)), v1, v2] k s = (rn_5_sumUp ns ct R K n 22 [.inr (.inr (some z)), v1, v2] (.inr (.inr (some z)) :: k) s) := rfl
theorem rx_5_sumUp_22 {ns n ct R K s L k} : rn_5_sumUp ns ct R K (n + 1) 22 L k s = (rn_5_sumUp ns ct R K n 23 L (.inl (true, (-1)) :: k) s) := rfl
theorem rx_5_sumUp_23 {ns n ct R K s L k a b z} : rn_5_sumUp ns ct R K (n + 1) 23 L (.inl (b, z) :: .inr (.inr (some (some a))) :: k) s = (sy_ob a = some 5 ∧ sy_ri b z ∧ sy_b01 false z ∧ rn_5_sumUp ns ct R K n 26 L k (sy_up s a 8 z)) := rfl
theorem rx_5_sumUp_26 {ns n ct R K s L k} : rn_5_sumUp ns ct R K (n + 1) 26 L k s = (rn_5_sumUp ns ct R K n 27 L (.inl (true, 0) :: k) s) := rfl
theorem rx_5_sumUp_27 {ns n ct R K s L k b z} : rn_5_sumUp ns ct R K (n + 1) 27 L (.inl (b, z) :: k) s = (sy_ri b z ∧ 1 < L.length ∧ K 28 (sy_sto L 1 (.inl (true, z))) k s) := rfl
theorem rx_5_sumUp_28 {ns n ct R K s k z v0 v2} : rn_5_sumUp ns ct R K (n + 1) 28 [v0, .inl (true, z), v2] k s = (rn_5_sumUp ns ct R K n 29 [v0, .inl (true, z), v2] (.inl (true, z) :: k) s) := rfl
theorem rx_5_sumUp_29 {ns n ct R K s k z v1 v2} : rn_5_sumUp ns ct R K (n + 1) 29 [.inr (.inr (some z)), v1, v2] k s = (rn_5_sumUp ns ct R K n 30 [.inr (.inr (some z)), v1, v2] (.inr (.inr (some z)) :: k) s) := rfl
theorem rx_5_sumUp_30 {ns n ct R K s L k a} : rn_5_sumUp ns ct R K (n + 1) 30 L (.inr (.inr (some (some a))) :: k) s = (sy_ob a = some 5 ∧ rn_5_sumUp ns ct R K n 33 L (sy_fv s a 1 :: k) s) := rfl
theorem rx_5_sumUp_33 {ns n ct R K s L k a} : rn_5_sumUp ns ct R K (n + 1) 33 L (.inr (.inr (some (some a))) :: k) s = (sy_ob a = some 3 ∧ rn_5_sumUp ns ct R K n 36 L (sy_fv s a 4 :: k) s) := rfl
theorem rx_5_sumUp_36 {ns n ct R K s L k a b x y} : rn_5_sumUp ns ct R K (n + 1) 36 L (.inl (b, y) :: .inl (a, x) :: k) s = (sy_ri a x ∧ sy_ri b y ∧ (y ≤ x → rn_5_sumUp ns ct R K n 89 L k s) ∧ (¬ y ≤ x → rn_5_sumUp ns ct R K n 39 L k s)) := rfl
theorem rx_5_sumUp_39 {ns n ct R K s k z v0 v2} : rn_5_sumUp ns ct R K (n + 1) 39 [v0, .inl (true, z), v2] k s = (rn_5_sumUp ns ct R K n 40 [v0, .inl (true, z), v2] (.inl (true, z) :: k) s) := rfl
theorem rx_5_sumUp_40 {ns n ct R K s L k} : rn_5_sumUp ns ct R K (n + 1) 40 L k s = (rn_5_sumUp ns ct R K n 43 L (.inl (true, 4096) :: k) s) := rfl
theorem rx_5_sumUp_43 {ns n ct R K s L k a b x y} : rn_5_sumUp ns ct R K (n + 1) 43 L (.inl (b, y) :: .inl (a, x) :: k) s = (sy_ri a x ∧ sy_ri b y ∧ (y ≤ x → rn_5_sumUp ns ct R K n 89 L k s) ∧ (¬ y ≤ x → rn_5_sumUp ns ct R K n 46 L k s)) := rfl
theorem rx_5_sumUp_46 {ns n ct R K s k z v1 v2} : rn_5_sumUp ns ct R K (n + 1) 46 [.inr (.inr (some z)), v1, v2] k s = (rn_5_sumUp ns ct R K n 47 [.inr (.inr (some z)), v1, v2] (.inr (.inr (some z)) :: k) s) := rfl
theorem rx_5_sumUp_47 {ns n ct R K s L k a} : rn_5_sumUp ns ct R K (n + 1) 47 L (.inr (.inr (some (some a))) :: k) s = (sy_ob a = some 5 ∧ rn_5_sumUp ns ct R K n 50 L (sy_fv s a 2 :: k) s) := rfl
theorem rx_5_sumUp_50 {ns n ct R K s k z v0 v2} : rn_5_sumUp ns ct R K (n + 1) 50 [v0, .inl (true, z), v2] k s = (rn_5_sumUp ns ct R K n 51 [v0, .inl (true, z), v2] (.inl (true, z) :: k) s) := rfl
theorem rx_5_sumUp_51 {ns n ct R K s L k a b z} : rn_5_sumUp ns ct R K (n + 1) 51 L (.inl (b, z) :: .inr (.inr (some (some a))) :: k) s = ((0 ≤ z ∧ z < (sy_ar a).2) ∧ sy_ob a = none ∧ (sy_ar a).1 = 0 ∧ rn_5_sumUp ns ct R K n 52 L (.inl (true, s a z.toNat) :: k) s) := rfl
theorem rx_5_sumUp_52 {ns n ct R K s L k} : rn_5_sumUp ns ct R K (n + 1) 52 L k s = (sy_call true (ct 135) k s fun r t => rn_5_sumUp ns ct R K n 55 L r t) := rfl
theorem rx_5_sumUp_55 {ns n ct R K s L k b z} : rn_5_sumUp ns ct R K (n + 1) 55 L (.inl (b, z) :: k) s = (sy_ri b z ∧ 2 < L.length ∧ rn_5_sumUp ns ct R K n 56 (sy_sto L 2 (.inl (true, z))) k s) := rfl
theorem rx_5_sumUp_56 {ns n ct R K s k z v0 v1} : rn_5_sumUp ns ct R K (n + 1) 56 [v0, v1, .inl (true, z)] k s = (rn_5_sumUp ns ct R K n 57 [v0, v1, .inl (true, z)] (.inl (true, z) :: k) s) := rfl
theorem rx_5_sumUp_57 {ns n ct R K s L k a x} : rn_5_sumUp ns ct R K (n + 1) 57 L (.inl (a, x) :: k) s = (sy_ri a x ∧ (¬ x = 0 → rn_5_sumUp ns ct R K n 65 L k s) ∧ (x = 0 → rn_5_sumUp ns ct R K n 60 L k s)) := rfl
theorem rx_5_sumUp_60 {ns n ct R K s k z v1 v2} : rn_5_sumUp ns ct R K (n + 1) 60 [.inr (.inr (some z)), v1, v2] k s = (rn_5_sumUp ns ct R K n 61 [.inr (.inr (some z)), v1, v2] (.inr (.inr (some z)) :: k) s) := rfl
theorem rx_5_sumUp_61 {ns n ct R K s k z v0 v2} : rn_5_sumUp ns ct R K (n + 1) 61 [v0, .inl (true, z), v2] k s = (rn_5_sumUp ns ct R K n 62 [v0, .inl (true, z), v2] (.inl (true, z) :: k) s) := rfl
theorem rx_5_sumUp_62 {ns n ct R K s L k} : rn_5_sumUp ns ct R K (n + 1) 62 L k s = (sy_call false (ct 141) k s fun r t => rn_5_sumUp ns ct R K n 65 L r t) := rfl
theorem rx_5_sumUp_65 {ns n ct R K s k z v0 v1} : rn_5_sumUp ns ct R K (n + 1) 65 [v0, v1, .inl (true, z)] k s = (rn_5_sumUp ns ct R K n 66 [v0, v1, .inl (true, z)] (.inl (true, z) :: k) s) := rfl
theorem rx_5_sumUp_66 {ns n ct R K s k z v1 v2} : rn_5_sumUp ns ct R K (n + 1) 66 [.inr (.inr (some z)), v1, v2] k s = (rn_5_sumUp ns ct R K n 67 [.inr (.inr (some z)), v1, v2] (.inr (.inr (some z)) :: k) s) := rfl
theorem rx_5_sumUp_67 {ns n ct R K s L k a} : rn_5_sumUp ns ct R K (n + 1) 67 L (.inr (.inr (some (some a))) :: k) s = (sy_ob a = some 5 ∧ rn_5_sumUp ns ct R K n 70 L (sy_fv s a 7 :: k) s) := rfl
theorem rx_5_sumUp_70 {ns n ct R K s L k a b x y} : rn_5_sumUp ns ct R K (n + 1) 70 L (.inl (b, y) :: .inl (a, x) :: k) s = (sy_ri a x ∧ sy_ri b y ∧ (y ≤ x → rn_5_sumUp ns ct R K n 83 L k s) ∧ (¬ y ≤ x → rn_5_sumUp ns ct R K n 73 L k s)) := rfl
theorem rx_5_sumUp_73 {ns n ct R K s k z v1 v2} : rn_5_sumUp ns ct R K (n + 1) 73 [.inr (.inr (some z)), v1, v2] k s = (rn_5_sumUp ns ct R K n 74 [.inr (.inr (some z)), v1, v2] (.inr (.inr (some z)) :: k) s) := rfl
theorem rx_5_sumUp_74 {ns n ct R K s k z v0 v1} : rn_5_sumUp ns ct R K (n + 1) 74 [v0, v1, .inl (true, z)] k s = (rn_5_sumUp ns ct R K n 75 [v0, v1, .inl (true, z)] (.inl (true, z) :: k) s) := rfl
theorem rx_5_sumUp_75 {ns n ct R K s L k a b z} : rn_5_sumUp ns ct R K (n + 1) 75 L (.inl (b, z) :: .inr (.inr (some (some a))) :: k) s = (sy_ob a = some 5 ∧ sy_ri b z ∧ sy_b01 false z ∧ rn_5_sumUp ns ct R K n 78 L k (sy_up s a 7 z)) := rfl
theorem rx_5_sumUp_78 {ns n ct R K s k z v1 v2} : rn_5_sumUp ns ct R K (n + 1) 78 [.inr (.inr (some z)), v1, v2] k s = (rn_5_sumUp ns ct R K n 79 [.inr (.inr (some z)), v1, v2] (.inr (.inr (some z)) :: k) s) := rfl
theorem rx_5_sumUp_79 {ns n ct R K s k z v0 v2} : rn_5_sumUp ns ct R K (n + 1) 79 [v0, .inl (true, z), v2] k s = (rn_5_sumUp ns ct R K n 80 [v0, .inl (true, z), v2] (.inl (true, z) :: k) s) := rfl
theorem rx_5_sumUp_80 {ns n ct R K s L k a b z} : rn_5_sumUp ns ct R K (n + 1) 80 L (.inl (b, z) :: .inr (.inr (some (some a))) :: k) s = (sy_ob a = some 5 ∧ sy_ri b z ∧ sy_b01 false z ∧ rn_5_sumUp ns ct R K n 83 L k (sy_up s a 8 z)) := rfl
theorem rx_5_sumUp_83 {ns n ct R K s k z v0 v2} : rn_5_sumUp ns ct R K (n + 1) 83 [v0, .inl (true, z), v2] k s = ((-2147483648 ≤ z + 1 ∧ z + 1 < 2147483648) ∧ rn_5_sumUp ns ct R K n 86 (sy_sto [v0, .inl (true, z), v2] 1 (.inl (true, z + 1))) k s) := rfl
theorem rx_5_sumUp_86 {ns n ct R K s L k} : rn_5_sumUp ns ct R K (n + 1) 86 L k s = (K 28 L k s) := rfl
theorem rx_5_sumUp_89 {ns n ct R K s L} : rn_5_sumUp ns ct R K (n + 1) 89 L [] s = (R none s) := rfl
def y_5_addFitting : MethodName := ⟨"StarHide$Search", "addFitting", "(I)V"⟩
abbrev c_5_addFitting : ByteArray := prog_7_method_17_code
def tc_5_addFitting (pc : Nat) : Option sy_I := match pc with
  | 0 => some (.aload_n 0, 1, 0)
  | 1 => some (.getfield 35, 4, 0)
  | 4 => some (.iload_n 1, 5, 0)
  | 5 => some (.iconst 2, 6, 0)
  | 6 => some (.invokevirtual 144, 9, 0)
  | 9 => some (.aload_n 0, 10, 0)
  | 10 => some (.getfield 35, 13, 0)
  | 13 => some (.iload_n 1, 14, 0)
  | 14 => some (.iconst 3, 15, 0)
  | 15 => some (.invokevirtual 144, 18, 0)
  | 18 => some (.imul, 19, 0)
  | 19 => some (.istore_n 2, 20, 0)
  | 20 => some (.aload_n 0, 21, 0)
  | 21 => some (.aload_n 0, 22, 0)
  | 22 => some (.getfield 42, 25, 0)
  | 25 => some (.ifCond .ne 7, 28, 32)
  | 28 => some (.iload_n 2, 29, 0)
  | 29 => some (.goto 11, 32, 40)
  | 32 => some (.aload_n 0, 33, 0)
  | 33 => some (.getfield 45, 36, 0)
  | 36 => some (.iload_n 2, 37, 0)
  | 37 => some (.invokestatic 147, 40, 0)
  | 40 => some (.putfield 45, 43, 0)
  | 43 => some (.aload_n 0, 44, 0)
  | 44 => some (.aload_n 0, 45, 0)
  | 45 => some (.getfield 48, 48, 0)
  | 48 => some (.iload_n 2, 49, 0)
  | 49 => some (.invokestatic 126, 52, 0)
  | 52 => some (.putfield 48, 55, 0)
  | 55 => some (.aload_n 0, 56, 0)
  | 56 => some (.dup, 57, 0)
  | 57 => some (.getfield 42, 60, 0)
  | 60 => some (.iconst 1, 61, 0)
  | 61 => some (.iadd, 62, 0)
  | 62 => some (.putfield 42, 65, 0)
  | 65 => some (.return_, 66, 0)
  | _ => none
theorem tv_5_addFitting : ∀ pc i, sy_lk 66 tc_5_addFitting pc = some i → sy_chk c_5_addFitting none false pc i = true := sy_lk_ok 66 tc_5_addFitting (by decide +kernel)
def Mk_5_addFitting (ct : Nat → Option (Bool × Nat × sy_Sp)) : sy_M := (sy_lk 66 tc_5_addFitting, ff_5, ki_5, kl_5, ct, false)
def rn_5_addFitting (ns : Nat) (ct : Nat → Option (Bool × Nat × sy_Sp)) (R : sy_R) (K : sy_K) : Nat → sy_K := sy_run ns (Mk_5_addFitting ct) [] R K
theorem rx_5_addFitting_0 {ns n ct R K s k z v1 v2} : rn_5_addFitting ns ct R K (n + 1) 0 [.inr (.inr (some z)), v1, v2] k s = (rn_5_addFitting ns ct R K n 1 [.inr (.inr (some z)), v1, v2] (.inr (.inr (some z)) :: k) s) := rfl
theorem rx_5_addFitting_1 {ns n ct R K s L k a} : rn_5_addFitting ns ct R K (n + 1) 1 L (.inr (.inr (some (some a))) :: k) s = (sy_ob a = some 5 ∧ rn_5_addFitting ns ct R K n 4 L (sy_fv s a 1 :: k) s) := rfl
theorem rx_5_addFitting_4 {ns n ct R K s k z v0 v2} : rn_5_addFitting ns ct R K (n + 1) 4 [v0, .inl (true, z), v2] k s = (rn_5_addFitting ns ct R K n 5 [v0, .inl (true, z), v2] (.inl (true, z) :: k) s) := rfl
theorem rx_5_addFitting_5 {ns n ct R K s L k} : rn_5_addFitting ns ct R K (n + 1) 5 L k s = (rn_5_addFitting ns ct R K n 6 L (.inl (true, 2) :: k) s) := rfl
theorem rx_5_addFitting_6 {ns n ct R K s L k} : rn_5_addFitting ns ct R K (n + 1) 6 L k s = (sy_call false (ct 144) k s fun r t => rn_5_addFitting ns ct R K n 9 L r t) := rfl
theorem rx_5_addFitting_9 {ns n ct R K s k z v1 v2} : rn_5_addFitting ns ct R K (n + 1) 9 [.inr (.inr (some z)), v1, v2] k s = (rn_5_addFitting ns ct R K n 10 [.inr (.inr (some z)), v1, v2] (.inr (.inr (some z)) :: k) s) := rfl
theorem rx_5_addFitting_10 {ns n ct R K s L k a} : rn_5_addFitting ns ct R K (n + 1) 10 L (.inr (.inr (some (some a))) :: k) s = (sy_ob a = some 5 ∧ rn_5_addFitting ns ct R K n 13 L (sy_fv s a 1 :: k) s) := rfl
theorem rx_5_addFitting_13 {ns n ct R K s k z v0 v2} : rn_5_addFitting ns ct R K (n + 1) 13 [v0, .inl (true, z), v2] k s = (rn_5_addFitting ns ct R K n 14 [v0, .inl (true, z), v2] (.inl (true, z) :: k) s) := rfl
theorem rx_5_addFitting_14 {ns n ct R K s L k} : rn_5_addFitting ns ct R K (n + 1) 14 L k s = (rn_5_addFitting ns ct R K n 15 L (.inl (true, 3) :: k) s) := rfl
theorem rx_5_addFitting_15 {ns n ct R K s L k} : rn_5_addFitting ns ct R K (n + 1) 15 L k s = (sy_call false (ct 144) k s fun r t => rn_5_addFitting ns ct R K n 18 L r t) := rfl
theorem rx_5_addFitting_18 {ns n ct R K s L k a b x y} : rn_5_addFitting ns ct R K (n + 1) 18 L (.inl (b, y) :: .inl (a, x) :: k) s = (rn_5_addFitting ns ct R K n 19 L (.inl (false, x * y) :: k) s) := rfl
theorem rx_5_addFitting_19 {ns n ct R K s L k b z} : rn_5_addFitting ns ct R K (n + 1) 19 L (.inl (b, z) :: k) s = (sy_ri b z ∧ 2 < L.length ∧ rn_5_addFitting ns ct R K n 20 (sy_sto L 2 (.inl (true, z))) k s) := rfl
theorem rx_5_addFitting_20 {ns n ct R K s k z v1 v2} : rn_5_addFitting ns ct R K (n + 1) 20 [.inr (.inr (some z)), v1, v2] k s = (rn_5_addFitting ns ct R K n 21 [.inr (.inr (some z)), v1, v2] (.inr (.inr (some z)) :: k) s) := rfl
theorem rx_5_addFitting_21 {ns n ct R K s k z v1 v2} : rn_5_addFitting ns ct R K (n + 1) 21 [.inr (.inr (some z)), v1, v2] k s = (rn_5_addFitting ns ct R K n 22 [.inr (.inr (some z)), v1, v2] (.inr (.inr (some z)) :: k) s) := rfl
theorem rx_5_addFitting_22 {ns n ct R K s L k a} : rn_5_addFitting ns ct R K (n + 1) 22 L (.inr (.inr (some (some a))) :: k) s = (sy_ob a = some 5 ∧ rn_5_addFitting ns ct R K n 25 L (sy_fv s a 4 :: k) s) := rfl
theorem rx_5_addFitting_25 {ns n ct R K s L k a x} : rn_5_addFitting ns ct R K (n + 1) 25 L (.inl (a, x) :: k) s = (sy_ri a x ∧ (¬ x = 0 → rn_5_addFitting ns ct R K n 32 L k s) ∧ (x = 0 → rn_5_addFitting ns ct R K n 28 L k s)) := rfl
theorem rx_5_addFitting_28 {ns n ct R K s k z v0 v1} : rn_5_addFitting ns ct R K (n + 1) 28 [v0, v1, .inl (true, z)] k s = (rn_5_addFitting ns ct R K n 29 [v0, v1, .inl (true, z)] (.inl (true, z) :: k) s) := rfl
theorem rx_5_addFitting_29 {ns n ct R K s L k} : rn_5_addFitting ns ct R K (n + 1) 29 L k s = (rn_5_addFitting ns ct R K n 40 L k s) := rfl
theorem rx_5_addFitting_32 {ns n ct R K s k z v1 v2} : rn_5_addFitting ns ct R K (n + 1) 32 [.inr (.inr (some z)), v1, v2] k s = (rn_5_addFitting ns ct R K n 33 [.inr (.inr (some z)), v1, v2] (.inr (.inr (some z)) :: k) s) := rfl
theorem rx_5_addFitting_33 {ns n ct R K s L k a} : rn_5_addFitting ns ct R K (n + 1) 33 L (.inr (.inr (some (some a))) :: k) s = (sy_ob a = some 5 ∧ rn_5_addFitting ns ct R K n 36 L (sy_fv s a 5 :: k) s) := rfl
theorem rx_5_addFitting_36 {ns n ct R K s k z v0 v1} : rn_5_addFitting ns ct R K (n + 1) 36 [v0, v1, .inl (true, z)] k s = (rn_5_addFitting ns ct R K n 37 [v0, v1, .inl (true, z)] (.inl (true, z) :: k) s) := rfl
theorem rx_5_addFitting_37 {ns n ct R K s L k} : rn_5_addFitting ns ct R K (n + 1) 37 L k s = (sy_call true (ct 147) k s fun r t => rn_5_addFitting ns ct R K n 40 L r t) := rfl
theorem rx_5_addFitting_40 {ns n ct R K s L k a b z} : rn_5_addFitting ns ct R K (n + 1) 40 L (.inl (b, z) :: .inr (.inr (some (some a))) :: k) s = (sy_ob a = some 5 ∧ sy_ri b z ∧ sy_b01 false z ∧ rn_5_addFitting ns ct R K n 43 L k (sy_up s a 5 z)) := rfl
theorem rx_5_addFitting_43 {ns n ct R K s k z v1 v2} : rn_5_addFitting ns ct R K (n + 1) 43 [.inr (.inr (some z)), v1, v2] k s = (rn_5_addFitting ns ct R K n 44 [.inr (.inr (some z)), v1, v2] (.inr (.inr (some z)) :: k) s) := rfl
theorem rx_5_addFitting_44 {ns n ct R K s k z v1 v2} : rn_5_addFitting ns ct R K (n + 1) 44 [.inr (.inr (some z)), v1, v2] k s = (rn_5_addFitting ns ct R K n 45 [.inr (.inr (some z)), v1, v2] (.inr (.inr (some z)) :: k) s) := rfl
theorem rx_5_addFitting_45 {ns n ct R K s L k a} : rn_5_addFitting ns ct R K (n + 1) 45 L (.inr (.inr (some (some a))) :: k) s = (sy_ob a = some 5 ∧ rn_5_addFitting ns ct R K n 48 L (sy_fv s a 6 :: k) s) := rfl
theorem rx_5_addFitting_48 {ns n ct R K s k z v0 v1} : rn_5_addFitting ns ct R K (n + 1) 48 [v0, v1, .inl (true, z)] k s = (rn_5_addFitting ns ct R K n 49 [v0, v1, .inl (true, z)] (.inl (true, z) :: k) s) := rfl
theorem rx_5_addFitting_49 {ns n ct R K s L k} : rn_5_addFitting ns ct R K (n + 1) 49 L k s = (sy_call true (ct 126) k s fun r t => rn_5_addFitting ns ct R K n 52 L r t) := rfl
theorem rx_5_addFitting_52 {ns n ct R K s L k a b z} : rn_5_addFitting ns ct R K (n + 1) 52 L (.inl (b, z) :: .inr (.inr (some (some a))) :: k) s = (sy_ob a = some 5 ∧ sy_ri b z ∧ sy_b01 false z ∧ rn_5_addFitting ns ct R K n 55 L k (sy_up s a 6 z)) := rfl
theorem rx_5_addFitting_55 {ns n ct R K s k z v1 v2} : rn_5_addFitting ns ct R K (n + 1) 55 [.inr (.inr (some z)), v1, v2] k s = (rn_5_addFitting ns ct R K n 56 [.inr (.inr (some z)), v1, v2] (.inr (.inr (some z)) :: k) s) := rfl
theorem rx_5_addFitting_56_i {ns n ct R K s L k a} : rn_5_addFitting ns ct R K (n + 1) 56 L (.inl a :: k) s = (rn_5_addFitting ns ct R K n 57 L (.inl a :: .inl a :: k) s) := rfl
theorem rx_5_addFitting_56 {ns n ct R K s L k a} : rn_5_addFitting ns ct R K (n + 1) 56 L (.inr (.inr a) :: k) s = (rn_5_addFitting ns ct R K n 57 L (.inr (.inr a) :: .inr (.inr a) :: k) s) := rfl
theorem rx_5_addFitting_57 {ns n ct R K s L k a} : rn_5_addFitting ns ct R K (n + 1) 57 L (.inr (.inr (some (some a))) :: k) s = (sy_ob a = some 5 ∧ rn_5_addFitting ns ct R K n 60 L (sy_fv s a 4 :: k) s) := rfl
theorem rx_5_addFitting_60 {ns n ct R K s L k} : rn_5_addFitting ns ct R K (n + 1) 60 L k s = (rn_5_addFitting ns ct R K n 61 L (.inl (true, 1) :: k) s) := rfl
theorem rx_5_addFitting_61 {ns n ct R K s L k a b x y} : rn_5_addFitting ns ct R K (n + 1) 61 L (.inl (b, y) :: .inl (a, x) :: k) s = (rn_5_addFitting ns ct R K n 62 L (.inl (false, x + y) :: k) s) := rfl
theorem rx_5_addFitting_62 {ns n ct R K s L k a b z} : rn_5_addFitting ns ct R K (n + 1) 62 L (.inl (b, z) :: .inr (.inr (some (some a))) :: k) s = (sy_ob a = some 5 ∧ sy_ri b z ∧ sy_b01 false z ∧ rn_5_addFitting ns ct R K n 65 L k (sy_up s a 4 z)) := rfl
theorem rx_5_addFitting_65 {ns n ct R K s L} : rn_5_addFitting ns ct R K (n + 1) 65 L [] s = (R none s) := rfl
def y_5_findClocks : MethodName := ⟨"StarHide$Search", "findClocks", "(I)V"⟩
abbrev c_5_findClocks : ByteArray := prog_7_method_18_code
def tc_5_findClocks (pc : Nat) : Option sy_I := match pc with
  | 0 => some (.aload_n 0, 1, 0)
  | 1 => some (.getfield 24, 4, 0)
  | 4 => some (.invokevirtual 150, 7, 0)
  | 7 => some (.aload_n 0, 8, 0)
  | 8 => some (.getfield 31, 11, 0)
  | 11 => some (.iload_n 1, 12, 0)
  | 12 => some (.invokevirtual 76, 15, 0)
  | 15 => some (.astore_n 2, 16, 0)
  | 16 => some (.aload_n 2, 17, 0)
  | 17 => some (.ifnonnull 4, 20, 21)
  | 20 => some (.return_, 21, 0)
  | 21 => some (.aload_n 0, 22, 0)
  | 22 => some (.getfield 35, 25, 0)
  | 25 => some (.aload_n 2, 26, 0)
  | 26 => some (.invokevirtual 96, 29, 0)
  | 29 => some (.iconst 1, 30, 0)
  | 30 => some (.aload_n 0, 31, 0)
  | 31 => some (.getfield 35, 34, 0)
  | 34 => some (.getfield 100, 37, 0)
  | 37 => some (.invokestatic 126, 40, 0)
  | 40 => some (.istore_n 3, 41, 0)
  | 41 => some (.iconst 0, 42, 0)
  | 42 => some (.istore 4, 44, 0)
  | 44 => some (.iload 4, 46, 0)
  | 46 => some (.aload_n 0, 47, 0)
  | 47 => some (.getfield 35, 50, 0)
  | 50 => some (.getfield 57, 53, 0)
  | 53 => some (.if_icmp .ge 85, 56, 138)
  | 56 => some (.iload 4, 58, 0)
  | 58 => some (.sipush 4096, 61, 0)
  | 61 => some (.if_icmp .ge 77, 64, 138)
  | 64 => some (.iload 4, 66, 0)
  | 66 => some (.iload_n 3, 67, 0)
  | 67 => some (.irem, 68, 0)
  | 68 => some (.istore 5, 70, 0)
  | 70 => some (.aload_n 0, 71, 0)
  | 71 => some (.getfield 11, 74, 0)
  | 74 => some (.iload 4, 76, 0)
  | 76 => some (.iaload, 77, 0)
  | 77 => some (.iconst 1, 78, 0)
  | 78 => some (.iload_n 1, 79, 0)
  | 79 => some (.ishl, 80, 0)
  | 80 => some (.iconst (-1), 81, 0)
  | 81 => some (.ixor, 82, 0)
  | 82 => some (.iand, 83, 0)
  | 83 => some (.ifCond .ne 49, 86, 132)
  | 86 => some (.iload 5, 88, 0)
  | 88 => some (.sipush 512, 91, 0)
  | 91 => some (.if_icmp .ge 41, 94, 132)
  | 94 => some (.aload_n 0, 95, 0)
  | 95 => some (.getfield 35, 98, 0)
  | 98 => some (.iconst 0, 99, 0)
  | 99 => some (.iload 4, 101, 0)
  | 101 => some (.iload_n 3, 102, 0)
  | 102 => some (.idiv, 103, 0)
  | 103 => some (.invokevirtual 120, 106, 0)
  | 106 => some (.istore 6, 108, 0)
  | 108 => some (.aload_n 0, 109, 0)
  | 109 => some (.getfield 24, 112, 0)
  | 112 => some (.aload_n 2, 113, 0)
  | 113 => some (.aload_n 0, 114, 0)
  | 114 => some (.getfield 31, 117, 0)
  | 117 => some (.getfield 110, 120, 0)
  | 120 => some (.aload_n 2, 121, 0)
  | 121 => some (.getfield 103, 124, 0)
  | 124 => some (.iload 5, 126, 0)
  | 126 => some (.iaload, 127, 0)
  | 127 => some (.iload 6, 129, 0)
  | 129 => some (.invokevirtual 153, 132, 0)
  | 132 => some (.iinc 4 1, 135, 0)
  | 135 => some (.goto (-91), 138, 44)
  | 138 => some (.aload_n 0, 139, 0)
  | 139 => some (.getfield 24, 142, 0)
  | 142 => some (.invokevirtual 156, 145, 0)
  | 145 => some (.return_, 146, 0)
  | _ => none
theorem tv_5_findClocks : ∀ pc i, sy_lk 146 tc_5_findClocks pc = some i → sy_chk c_5_findClocks none false pc i = true := sy_lk_ok 146 tc_5_findClocks (by decide +kernel)
def Mk_5_findClocks (ct : Nat → Option (Bool × Nat × sy_Sp)) : sy_M := (sy_lk 146 tc_5_findClocks, ff_5, ki_5, kl_5, ct, false)
def rn_5_findClocks (ns : Nat) (ct : Nat → Option (Bool × Nat × sy_Sp)) (R : sy_R) (K : sy_K) : Nat → sy_K := sy_run ns (Mk_5_findClocks ct) [44] R K
theorem rx_5_findClocks_0 {ns n ct R K s k z v1 v2 v3 v4 v5 v6} : rn_5_findClocks ns ct R K (n + 1) 0 [.inr (.inr (some z)), v1, v2, v3, v4, v5, v6] k s = (rn_5_findClocks ns ct R K n 1 [.inr (.inr (some z)), v1, v2, v3, v4, v5, v6] (.inr (.inr (some z)) :: k) s) := rfl
theorem rx_5_findClocks_1 {ns n ct R K s L k a} : rn_5_findClocks ns ct R K (n + 1) 1 L (.inr (.inr (some (some a))) :: k) s = (sy_ob a = some 5 ∧ rn_5_findClocks ns ct R K n 4 L (sy_fv s a 9 :: k) s) := rfl
theorem rx_5_findClocks_4 {ns n ct R K s L k} : rn_5_findClocks ns ct R K (n + 1) 4 L k s = (sy_call false (ct 150) k s fun r t => rn_5_findClocks ns ct R K n 7 L r t) := rfl
theorem rx_5_findClocks_7 {ns n ct R K s k z v1 v2 v3 v4 v5 v6} : rn_5_findClocks ns ct R K (n + 1) 7 [.inr (.inr (some z)), v1, v2, v3, v4, v5, v6] k s = (rn_5_findClocks ns ct R K n 8 [.inr (.inr (some z)), v1, v2, v3, v4, v5, v6] (.inr (.inr (some z)) :: k) s) := rfl
theorem rx_5_findClocks_8 {ns n ct R K s L k a} : rn_5_findClocks ns ct R K (n + 1) 8 L (.inr (.inr (some (some a))) :: k) s = (sy_ob a = some 5 ∧ rn_5_findClocks ns ct R K n 11 L (sy_fv s a 0 :: k) s) := rfl
theorem rx_5_findClocks_11 {ns n ct R K s k z v0 v2 v3 v4 v5 v6} : rn_5_findClocks ns ct R K (n + 1) 11 [v0, .inl (true, z), v2, v3, v4, v5, v6] k s = (rn_5_findClocks ns ct R K n 12 [v0, .inl (true, z), v2, v3, v4, v5, v6] (.inl (true, z) :: k) s) := rfl
theorem rx_5_findClocks_12 {ns n ct R K s L k} : rn_5_findClocks ns ct R K (n + 1) 12 L k s = (sy_call false (ct 76) k s fun r t => rn_5_findClocks ns ct R K n 15 L r t) := rfl
theorem rx_5_findClocks_15 {ns n ct R K s L k z} : rn_5_findClocks ns ct R K (n + 1) 15 L (.inr (.inr (some z)) :: k) s = (2 < L.length ∧ rn_5_findClocks ns ct R K n 16 (sy_sto L 2 (.inr (.inr (some z)))) k s) := rfl
theorem rx_5_findClocks_16 {ns n ct R K s k z v0 v1 v3 v4 v5 v6} : rn_5_findClocks ns ct R K (n + 1) 16 [v0, v1, .inr (.inr (some z)), v3, v4, v5, v6] k s = (rn_5_findClocks ns ct R K n 17 [v0, v1, .inr (.inr (some z)), v3, v4, v5, v6] (.inr (.inr (some z)) :: k) s) := rfl
theorem rx_5_findClocks_17_n {ns n ct R K s L k} : rn_5_findClocks ns ct R K (n + 1) 17 L (.inr (.inr (some none)) :: k) s = (rn_5_findClocks ns ct R K n 20 L k s) := rfl
theorem rx_5_findClocks_17 {ns n ct R K s L k a} : rn_5_findClocks ns ct R K (n + 1) 17 L (.inr (.inr (some (some a))) :: k) s = (rn_5_findClocks ns ct R K n 21 L k s) := rfl
theorem rx_5_findClocks_20 {ns n ct R K s L} : rn_5_findClocks ns ct R K (n + 1) 20 L [] s = (R none s) := rfl
theorem rx_5_findClocks_21 {ns n ct R K s k z v1 v2 v3 v4 v5 v6} : rn_5_findClocks ns ct R K (n + 1) 21 [.inr (.inr (some z)), v1, v2, v3, v4, v5, v6] k s = (rn_5_findClocks ns ct R K n 22 [.inr (.inr (some z)), v1, v2, v3, v4, v5, v6] (.inr (.inr (some z)) :: k) s) := rfl
theorem rx_5_findClocks_22 {ns n ct R K s L k a} : rn_5_findClocks ns ct R K (n + 1) 22 L (.inr (.inr (some (some a))) :: k) s = (sy_ob a = some 5 ∧ rn_5_findClocks ns ct R K n 25 L (sy_fv s a 1 :: k) s) := rfl
theorem rx_5_findClocks_25 {ns n ct R K s k z v0 v1 v3 v4 v5 v6} : rn_5_findClocks ns ct R K (n + 1) 25 [v0, v1, .inr (.inr (some z)), v3, v4, v5, v6] k s = (rn_5_findClocks ns ct R K n 26 [v0, v1, .inr (.inr (some z)), v3, v4, v5, v6] (.inr (.inr (some z)) :: k) s) := rfl
theorem rx_5_findClocks_26 {ns n ct R K s L k} : rn_5_findClocks ns ct R K (n + 1) 26 L k s = (sy_call false (ct 96) k s fun r t => rn_5_findClocks ns ct R K n 29 L r t) := rfl
theorem rx_5_findClocks_29 {ns n ct R K s L k} : rn_5_findClocks ns ct R K (n + 1) 29 L k s = (rn_5_findClocks ns ct R K n 30 L (.inl (true, 1) :: k) s) := rfl
theorem rx_5_findClocks_30 {ns n ct R K s k z v1 v2 v3 v4 v5 v6} : rn_5_findClocks ns ct R K (n + 1) 30 [.inr (.inr (some z)), v1, v2, v3, v4, v5, v6] k s = (rn_5_findClocks ns ct R K n 31 [.inr (.inr (some z)), v1, v2, v3, v4, v5, v6] (.inr (.inr (some z)) :: k) s) := rfl
theorem rx_5_findClocks_31 {ns n ct R K s L k a} : rn_5_findClocks ns ct R K (n + 1) 31 L (.inr (.inr (some (some a))) :: k) s = (sy_ob a = some 5 ∧ rn_5_findClocks ns ct R K n 34 L (sy_fv s a 1 :: k) s) := rfl
theorem rx_5_findClocks_34 {ns n ct R K s L k a} : rn_5_findClocks ns ct R K (n + 1) 34 L (.inr (.inr (some (some a))) :: k) s = (sy_ob a = some 3 ∧ rn_5_findClocks ns ct R K n 37 L (sy_fv s a 3 :: k) s) := rfl
theorem rx_5_findClocks_37 {ns n ct R K s L k} : rn_5_findClocks ns ct R K (n + 1) 37 L k s = (sy_call true (ct 126) k s fun r t => rn_5_findClocks ns ct R K n 40 L r t) := rfl
theorem rx_5_findClocks_40 {ns n ct R K s L k b z} : rn_5_findClocks ns ct R K (n + 1) 40 L (.inl (b, z) :: k) s = (sy_ri b z ∧ 3 < L.length ∧ rn_5_findClocks ns ct R K n 41 (sy_sto L 3 (.inl (true, z))) k s) := rfl
theorem rx_5_findClocks_41 {ns n ct R K s L k} : rn_5_findClocks ns ct R K (n + 1) 41 L k s = (rn_5_findClocks ns ct R K n 42 L (.inl (true, 0) :: k) s) := rfl
theorem rx_5_findClocks_42 {ns n ct R K s L k b z} : rn_5_findClocks ns ct R K (n + 1) 42 L (.inl (b, z) :: k) s = (sy_ri b z ∧ 4 < L.length ∧ K 44 (sy_sto L 4 (.inl (true, z))) k s) := rfl
theorem rx_5_findClocks_44 {ns n ct R K s k z v0 v1 v2 v3 v5 v6} : rn_5_findClocks ns ct R K (n + 1) 44 [v0, v1, v2, v3, .inl (true, z), v5, v6] k s = (rn_5_findClocks ns ct R K n 46 [v0, v1, v2, v3, .inl (true, z), v5, v6] (.inl (true, z) :: k) s) := rfl
theorem rx_5_findClocks_46 {ns n ct R K s k z v1 v2 v3 v4 v5 v6} : rn_5_findClocks ns ct R K (n + 1) 46 [.inr (.inr (some z)), v1, v2, v3, v4, v5, v6] k s = (rn_5_findClocks ns ct R K n 47 [.inr (.inr (some z)), v1, v2, v3, v4, v5, v6] (.inr (.inr (some z)) :: k) s) := rfl
theorem rx_5_findClocks_47 {ns n ct R K s L k a} : rn_5_findClocks ns ct R K (n + 1) 47 L (.inr (.inr (some (some a))) :: k) s = (sy_ob a = some 5 ∧ rn_5_findClocks ns ct R K n 50 L (sy_fv s a 1 :: k) s) := rfl
theorem rx_5_findClocks_50 {ns n ct R K s L k a} : rn_5_findClocks ns ct R K (n + 1) 50 L (.inr (.inr (some (some a))) :: k) s = (sy_ob a = some 3 ∧ rn_5_findClocks ns ct R K n 53 L (sy_fv s a 4 :: k) s) := rfl
theorem rx_5_findClocks_53 {ns n ct R K s L k a b x y} : rn_5_findClocks ns ct R K (n + 1) 53 L (.inl (b, y) :: .inl (a, x) :: k) s = (sy_ri a x ∧ sy_ri b y ∧ (y ≤ x → rn_5_findClocks ns ct R K n 138 L k s) ∧ (¬ y ≤ x → rn_5_findClocks ns ct R K n 56 L k s)) := rfl
theorem rx_5_findClocks_56 {ns n ct R K s k z v0 v1 v2 v3 v5 v6} : rn_5_findClocks ns ct R K (n + 1) 56 [v0, v1, v2, v3, .inl (true, z), v5, v6] k s = (rn_5_findClocks ns ct R K n 58 [v0, v1, v2, v3, .inl (true, z), v5, v6] (.inl (true, z) :: k) s) := rfl
theorem rx_5_findClocks_58 {ns n ct R K s L k} : rn_5_findClocks ns ct R K (n + 1) 58 L k s = (rn_5_findClocks ns ct R K n 61 L (.inl (true, 4096) :: k) s) := rfl
theorem rx_5_findClocks_61 {ns n ct R K s L k a b x y} : rn_5_findClocks ns ct R K (n + 1) 61 L (.inl (b, y) :: .inl (a, x) :: k) s = (sy_ri a x ∧ sy_ri b y ∧ (y ≤ x → rn_5_findClocks ns ct R K n 138 L k s) ∧ (¬ y ≤ x → rn_5_findClocks ns ct R K n 64 L k s)) := rfl
theorem rx_5_findClocks_64 {ns n ct R K s k z v0 v1 v2 v3 v5 v6} : rn_5_findClocks ns ct R K (n + 1) 64 [v0, v1, v2, v3, .inl (true, z), v5, v6] k s = (rn_5_findClocks ns ct R K n 66 [v0, v1, v2, v3, .inl (true, z), v5, v6] (.inl (true, z) :: k) s) := rfl
theorem rx_5_findClocks_66 {ns n ct R K s k z v0 v1 v2 v4 v5 v6} : rn_5_findClocks ns ct R K (n + 1) 66 [v0, v1, v2, .inl (true, z), v4, v5, v6] k s = (rn_5_findClocks ns ct R K n 67 [v0, v1, v2, .inl (true, z), v4, v5, v6] (.inl (true, z) :: k) s) := rfl
theorem rx_5_findClocks_67 {ns n ct R K s L k a b x y} : rn_5_findClocks ns ct R K (n + 1) 67 L (.inl (b, y) :: .inl (a, x) :: k) s = (sy_ri a x ∧ sy_ri b y ∧ y ≠ 0 ∧ rn_5_findClocks ns ct R K n 68 L (.inl (false, x.tmod y) :: k) s) := rfl
theorem rx_5_findClocks_68 {ns n ct R K s L k b z} : rn_5_findClocks ns ct R K (n + 1) 68 L (.inl (b, z) :: k) s = (sy_ri b z ∧ 5 < L.length ∧ rn_5_findClocks ns ct R K n 70 (sy_sto L 5 (.inl (true, z))) k s) := rfl
theorem rx_5_findClocks_70 {ns n ct R K s k z v1 v2 v3 v4 v5 v6} : rn_5_findClocks ns ct R K (n + 1) 70 [.inr (.inr (some z)), v1, v2, v3, v4, v5, v6] k s = (rn_5_findClocks ns ct R K n 71 [.inr (.inr (some z)), v1, v2, v3, v4, v5, v6] (.inr (.inr (some z)) :: k) s) := rfl
theorem rx_5_findClocks_71 {ns n ct R K s L k a} : rn_5_findClocks ns ct R K (n + 1) 71 L (.inr (.inr (some (some a))) :: k) s = (sy_ob a = some 5 ∧ rn_5_findClocks ns ct R K n 74 L (sy_fv s a 2 :: k) s) := rfl
theorem rx_5_findClocks_74 {ns n ct R K s k z v0 v1 v2 v3 v5 v6} : rn_5_findClocks ns ct R K (n + 1) 74 [v0, v1, v2, v3, .inl (true, z), v5, v6] k s = (rn_5_findClocks ns ct R K n 76 [v0, v1, v2, v3, .inl (true, z), v5, v6] (.inl (true, z) :: k) s) := rfl
theorem rx_5_findClocks_76 {ns n ct R K s L k a b z} : rn_5_findClocks ns ct R K (n + 1) 76 L (.inl (b, z) :: .inr (.inr (some (some a))) :: k) s = ((0 ≤ z ∧ z < (sy_ar a).2) ∧ sy_ob a = none ∧ (sy_ar a).1 = 0 ∧ rn_5_findClocks ns ct R K n 77 L (.inl (true, s a z.toNat) :: k) s) := rfl
theorem rx_5_findClocks_77 {ns n ct R K s L k} : rn_5_findClocks ns ct R K (n + 1) 77 L k s = (rn_5_findClocks ns ct R K n 78 L (.inl (true, 1) :: k) s) := rfl
theorem rx_5_findClocks_78 {ns n ct R K s k z v0 v2 v3 v4 v5 v6} : rn_5_findClocks ns ct R K (n + 1) 78 [v0, .inl (true, z), v2, v3, v4, v5, v6] k s = (rn_5_findClocks ns ct R K n 79 [v0, .inl (true, z), v2, v3, v4, v5, v6] (.inl (true, z) :: k) s) := rfl
theorem rx_5_findClocks_79 {ns n ct R K s L k a b x y} : rn_5_findClocks ns ct R K (n + 1) 79 L (.inl (b, y) :: .inl (a, x) :: k) s = (rn_5_findClocks ns ct R K n 80 L (.inl (true, (Int32.ofInt x <<< (Int32.ofInt y &&& 31)).toInt) :: k) s) := rfl
theorem rx_5_findClocks_80 {ns n ct R K s L k} : rn_5_findClocks ns ct R K (n + 1) 80 L k s = (rn_5_findClocks ns ct R K n 81 L (.inl (true, (-1)) :: k) s) := rfl
theorem rx_5_findClocks_81 {ns n ct R K s L k a b x y} : rn_5_findClocks ns ct R K (n + 1) 81 L (.inl (b, y) :: .inl (a, x) :: k) s = (rn_5_findClocks ns ct R K n 82 L (.inl (true, (Int32.ofInt x ^^^ Int32.ofInt y).toInt) :: k) s) := rfl
theorem rx_5_findClocks_82 {ns n ct R K s L k a b x y} : rn_5_findClocks ns ct R K (n + 1) 82 L (.inl (b, y) :: .inl (a, x) :: k) s = (rn_5_findClocks ns ct R K n 83 L (.inl (true, (Int32.ofInt x &&& Int32.ofInt y).toInt) :: k) s) := rfl
theorem rx_5_findClocks_83 {ns n ct R K s L k a x} : rn_5_findClocks ns ct R K (n + 1) 83 L (.inl (a, x) :: k) s = (sy_ri a x ∧ (¬ x = 0 → rn_5_findClocks ns ct R K n 132 L k s) ∧ (x = 0 → rn_5_findClocks ns ct R K n 86 L k s)) := rfl
theorem rx_5_findClocks_86 {ns n ct R K s k z v0 v1 v2 v3 v4 v6} : rn_5_findClocks ns ct R K (n + 1) 86 [v0, v1, v2, v3, v4, .inl (true, z), v6] k s = (rn_5_findClocks ns ct R K n 88 [v0, v1, v2, v3, v4, .inl (true, z), v6] (.inl (true, z) :: k) s) := rfl
theorem rx_5_findClocks_88 {ns n ct R K s L k} : rn_5_findClocks ns ct R K (n + 1) 88 L k s = (rn_5_findClocks ns ct R K n 91 L (.inl (true, 512) :: k) s) := rfl
theorem rx_5_findClocks_91 {ns n ct R K s L k a b x y} : rn_5_findClocks ns ct R K (n + 1) 91 L (.inl (b, y) :: .inl (a, x) :: k) s = (sy_ri a x ∧ sy_ri b y ∧ (y ≤ x → rn_5_findClocks ns ct R K n 132 L k s) ∧ (¬ y ≤ x → rn_5_findClocks ns ct R K n 94 L k s)) := rfl
theorem rx_5_findClocks_94 {ns n ct R K s k z v1 v2 v3 v4 v5 v6} : rn_5_findClocks ns ct R K (n + 1) 94 [.inr (.inr (some z)), v1, v2, v3, v4, v5, v6] k s = (rn_5_findClocks ns ct R K n 95 [.inr (.inr (some z)), v1, v2, v3, v4, v5, v6] (.inr (.inr (some z)) :: k) s) := rfl
theorem rx_5_findClocks_95 {ns n ct R K s L k a} : rn_5_findClocks ns ct R K (n + 1) 95 L (.inr (.inr (some (some a))) :: k) s = (sy_ob a = some 5 ∧ rn_5_findClocks ns ct R K n 98 L (sy_fv s a 1 :: k) s) := rfl
theorem rx_5_findClocks_98 {ns n ct R K s L k} : rn_5_findClocks ns ct R K (n + 1) 98 L k s = (rn_5_findClocks ns ct R K n 99 L (.inl (true, 0) :: k) s) := rfl
theorem rx_5_findClocks_99 {ns n ct R K s k z v0 v1 v2 v3 v5 v6} : rn_5_findClocks ns ct R K (n + 1) 99 [v0, v1, v2, v3, .inl (true, z), v5, v6] k s = (rn_5_findClocks ns ct R K n 101 [v0, v1, v2, v3, .inl (true, z), v5, v6] (.inl (true, z) :: k) s) := rfl
theorem rx_5_findClocks_101 {ns n ct R K s k z v0 v1 v2 v4 v5 v6} : rn_5_findClocks ns ct R K (n + 1) 101 [v0, v1, v2, .inl (true, z), v4, v5, v6] k s = (rn_5_findClocks ns ct R K n 102 [v0, v1, v2, .inl (true, z), v4, v5, v6] (.inl (true, z) :: k) s) := rfl
theorem rx_5_findClocks_102 {ns n ct R K s L k a b x y} : rn_5_findClocks ns ct R K (n + 1) 102 L (.inl (b, y) :: .inl (a, x) :: k) s = (sy_ri a x ∧ sy_ri b y ∧ y ≠ 0 ∧ rn_5_findClocks ns ct R K n 103 L (.inl (false, x.tdiv y) :: k) s) := rfl
theorem rx_5_findClocks_103 {ns n ct R K s L k} : rn_5_findClocks ns ct R K (n + 1) 103 L k s = (sy_call false (ct 120) k s fun r t => rn_5_findClocks ns ct R K n 106 L r t) := rfl
theorem rx_5_findClocks_106 {ns n ct R K s L k b z} : rn_5_findClocks ns ct R K (n + 1) 106 L (.inl (b, z) :: k) s = (sy_ri b z ∧ 6 < L.length ∧ rn_5_findClocks ns ct R K n 108 (sy_sto L 6 (.inl (true, z))) k s) := rfl
theorem rx_5_findClocks_108 {ns n ct R K s k z v1 v2 v3 v4 v5 v6} : rn_5_findClocks ns ct R K (n + 1) 108 [.inr (.inr (some z)), v1, v2, v3, v4, v5, v6] k s = (rn_5_findClocks ns ct R K n 109 [.inr (.inr (some z)), v1, v2, v3, v4, v5, v6] (.inr (.inr (some z)) :: k) s) := rfl
theorem rx_5_findClocks_109 {ns n ct R K s L k a} : rn_5_findClocks ns ct R K (n + 1) 109 L (.inr (.inr (some (some a))) :: k) s = (sy_ob a = some 5 ∧ rn_5_findClocks ns ct R K n 112 L (sy_fv s a 9 :: k) s) := rfl
theorem rx_5_findClocks_112 {ns n ct R K s k z v0 v1 v3 v4 v5 v6} : rn_5_findClocks ns ct R K (n + 1) 112 [v0, v1, .inr (.inr (some z)), v3, v4, v5, v6] k s = (rn_5_findClocks ns ct R K n 113 [v0, v1, .inr (.inr (some z)), v3, v4, v5, v6] (.inr (.inr (some z)) :: k) s) := rfl
theorem rx_5_findClocks_113 {ns n ct R K s k z v1 v2 v3 v4 v5 v6} : rn_5_findClocks ns ct R K (n + 1) 113 [.inr (.inr (some z)), v1, v2, v3, v4, v5, v6] k s = (rn_5_findClocks ns ct R K n 114 [.inr (.inr (some z)), v1, v2, v3, v4, v5, v6] (.inr (.inr (some z)) :: k) s) := rfl
theorem rx_5_findClocks_114 {ns n ct R K s L k a} : rn_5_findClocks ns ct R K (n + 1) 114 L (.inr (.inr (some (some a))) :: k) s = (sy_ob a = some 5 ∧ rn_5_findClocks ns ct R K n 117 L (sy_fv s a 0 :: k) s) := rfl
theorem rx_5_findClocks_117 {ns n ct R K s L k a} : rn_5_findClocks ns ct R K (n + 1) 117 L (.inr (.inr (some (some a))) :: k) s = (sy_ob a = some 7 ∧ rn_5_findClocks ns ct R K n 120 L (sy_fv s a 2 :: k) s) := rfl
theorem rx_5_findClocks_120 {ns n ct R K s k z v0 v1 v3 v4 v5 v6} : rn_5_findClocks ns ct R K (n + 1) 120 [v0, v1, .inr (.inr (some z)), v3, v4, v5, v6] k s = (rn_5_findClocks ns ct R K n 121 [v0, v1, .inr (.inr (some z)), v3, v4, v5, v6] (.inr (.inr (some z)) :: k) s) := rfl
theorem rx_5_findClocks_121 {ns n ct R K s L k a} : rn_5_findClocks ns ct R K (n + 1) 121 L (.inr (.inr (some (some a))) :: k) s = (sy_ob a = some 6 ∧ rn_5_findClocks ns ct R K n 124 L (sy_fv s a 2 :: k) s) := rfl
theorem rx_5_findClocks_124 {ns n ct R K s k z v0 v1 v2 v3 v4 v6} : rn_5_findClocks ns ct R K (n + 1) 124 [v0, v1, v2, v3, v4, .inl (true, z), v6] k s = (rn_5_findClocks ns ct R K n 126 [v0, v1, v2, v3, v4, .inl (true, z), v6] (.inl (true, z) :: k) s) := rfl
theorem rx_5_findClocks_126 {ns n ct R K s L k a b z} : rn_5_findClocks ns ct R K (n + 1) 126 L (.inl (b, z) :: .inr (.inr (some (some a))) :: k) s = ((0 ≤ z ∧ z < (sy_ar a).2) ∧ sy_ob a = none ∧ (sy_ar a).1 = 0 ∧ rn_5_findClocks ns ct R K n 127 L (.inl (true, s a z.toNat) :: k) s) := rfl
theorem rx_5_findClocks_127 {ns n ct R K s k z v0 v1 v2 v3 v4 v5} : rn_5_findClocks ns ct R K (n + 1) 127 [v0, v1, v2, v3, v4, v5, .inl (true, z)] k s = (rn_5_findClocks ns ct R K n 129 [v0, v1, v2, v3, v4, v5, .inl (true, z)] (.inl (true, z) :: k) s) := rfl
theorem rx_5_findClocks_129 {ns n ct R K s L k} : rn_5_findClocks ns ct R K (n + 1) 129 L k s = (sy_call false (ct 153) k s fun r t => rn_5_findClocks ns ct R K n 132 L r t) := rfl
theorem rx_5_findClocks_132 {ns n ct R K s k z v0 v1 v2 v3 v5 v6} : rn_5_findClocks ns ct R K (n + 1) 132 [v0, v1, v2, v3, .inl (true, z), v5, v6] k s = ((-2147483648 ≤ z + 1 ∧ z + 1 < 2147483648) ∧ rn_5_findClocks ns ct R K n 135 (sy_sto [v0, v1, v2, v3, .inl (true, z), v5, v6] 4 (.inl (true, z + 1))) k s) := rfl
theorem rx_5_findClocks_135 {ns n ct R K s L k} : rn_5_findClocks ns ct R K (n + 1) 135 L k s = (K 44 L k s) := rfl
theorem rx_5_findClocks_138 {ns n ct R K s k z v1 v2 v3 v4 v5 v6} : rn_5_findClocks ns ct R K (n + 1) 138 [.inr (.inr (some z)), v1, v2, v3, v4, v5, v6] k s = (rn_5_findClocks ns ct R K n 139 [.inr (.inr (some z)), v1, v2, v3, v4, v5, v6] (.inr (.inr (some z)) :: k) s) := rfl
theorem rx_5_findClocks_139 {ns n ct R K s L k a} : rn_5_findClocks ns ct R K (n + 1) 139 L (.inr (.inr (some (some a))) :: k) s = (sy_ob a = some 5 ∧ rn_5_findClocks ns ct R K n 142 L (sy_fv s a 9 :: k) s) := rfl
theorem rx_5_findClocks_142 {ns n ct R K s L k} : rn_5_findClocks ns ct R K (n + 1) 142 L k s = (sy_call false (ct 156) k s fun r t => rn_5_findClocks ns ct R K n 145 L r t) := rfl
theorem rx_5_findClocks_145 {ns n ct R K s L} : rn_5_findClocks ns ct R K (n + 1) 145 L [] s = (R none s) := rfl
def y_6_init : MethodName := ⟨"StarHide$Site", "<init>", "(II)V"⟩
abbrev c_6_init : ByteArray := prog_8_method_1_code
def y_6_tell : MethodName := ⟨"StarHide$Site", "tell", "(IIIII)V"⟩
abbrev c_6_tell : ByteArray := prog_8_method_2_code
def tc_6_tell (pc : Nat) : Option sy_I := match pc with
  | 0 => some (.aload_n 0, 1, 0)
  | 1 => some (.iload_n 1, 2, 0)
  | 2 => some (.putfield 24, 5, 0)
  | 5 => some (.aload_n 0, 6, 0)
  | 6 => some (.iload_n 2, 7, 0)
  | 7 => some (.putfield 27, 10, 0)
  | 10 => some (.aload_n 0, 11, 0)
  | 11 => some (.iload_n 3, 12, 0)
  | 12 => some (.putfield 30, 15, 0)
  | 15 => some (.aload_n 0, 16, 0)
  | 16 => some (.iload 4, 18, 0)
  | 18 => some (.putfield 33, 21, 0)
  | 21 => some (.aload_n 0, 22, 0)
  | 22 => some (.iload 5, 24, 0)
  | 24 => some (.putfield 36, 27, 0)
  | 27 => some (.return_, 28, 0)
  | _ => none
theorem tv_6_tell : ∀ pc i, sy_lk 28 tc_6_tell pc = some i → sy_chk c_6_tell none false pc i = true := sy_lk_ok 28 tc_6_tell (by decide +kernel)
def Mk_6_tell (ct : Nat → Option (Bool × Nat × sy_Sp)) : sy_M := (sy_lk 28 tc_6_tell, ff_6, ki_6, kl_6, ct, false)
def rn_6_tell (ns : Nat) (ct : Nat → Option (Bool × Nat × sy_Sp)) (R : sy_R) (K : sy_K) : Nat → sy_K := sy_run ns (Mk_6_tell ct) [] R K
theorem rx_6_tell_0 {ns n ct R K s k z v1 v2 v3 v4 v5} : rn_6_tell ns ct R K (n + 1) 0 [.inr (.inr (some z)), v1, v2, v3, v4, v5] k s = (rn_6_tell ns ct R K n 1 [.inr (.inr (some z)), v1, v2, v3, v4, v5] (.inr (.inr (some z)) :: k) s) := rfl
theorem rx_6_tell_1 {ns n ct R K s k z v0 v2 v3 v4 v5} : rn_6_tell ns ct R K (n + 1) 1 [v0, .inl (true, z), v2, v3, v4, v5] k s = (rn_6_tell ns ct R K n 2 [v0, .inl (true, z), v2, v3, v4, v5] (.inl (true, z) :: k) s) := rfl
theorem rx_6_tell_2 {ns n ct R K s L k a b z} : rn_6_tell ns ct R K (n + 1) 2 L (.inl (b, z) :: .inr (.inr (some (some a))) :: k) s = (sy_ob a = some 6 ∧ sy_ri b z ∧ sy_b01 false z ∧ rn_6_tell ns ct R K n 5 L k (sy_up s a 5 z)) := rfl
theorem rx_6_tell_5 {ns n ct R K s k z v1 v2 v3 v4 v5} : rn_6_tell ns ct R K (n + 1) 5 [.inr (.inr (some z)), v1, v2, v3, v4, v5] k s = (rn_6_tell ns ct R K n 6 [.inr (.inr (some z)), v1, v2, v3, v4, v5] (.inr (.inr (some z)) :: k) s) := rfl
theorem rx_6_tell_6 {ns n ct R K s k z v0 v1 v3 v4 v5} : rn_6_tell ns ct R K (n + 1) 6 [v0, v1, .inl (true, z), v3, v4, v5] k s = (rn_6_tell ns ct R K n 7 [v0, v1, .inl (true, z), v3, v4, v5] (.inl (true, z) :: k) s) := rfl
theorem rx_6_tell_7 {ns n ct R K s L k a b z} : rn_6_tell ns ct R K (n + 1) 7 L (.inl (b, z) :: .inr (.inr (some (some a))) :: k) s = (sy_ob a = some 6 ∧ sy_ri b z ∧ sy_b01 false z ∧ rn_6_tell ns ct R K n 10 L k (sy_up s a 6 z)) := rfl
theorem rx_6_tell_10 {ns n ct R K s k z v1 v2 v3 v4 v5} : rn_6_tell ns ct R K (n + 1) 10 [.inr (.inr (some z)), v1, v2, v3, v4, v5] k s = (rn_6_tell ns ct R K n 11 [.inr (.inr (some z)), v1, v2, v3, v4, v5] (.inr (.inr (some z)) :: k) s) := rfl
theorem rx_6_tell_11 {ns n ct R K s k z v0 v1 v2 v4 v5} : rn_6_tell ns ct R K (n + 1) 11 [v0, v1, v2, .inl (true, z), v4, v5] k s = (rn_6_tell ns ct R K n 12 [v0, v1, v2, .inl (true, z), v4, v5] (.inl (true, z) :: k) s) := rfl
theorem rx_6_tell_12 {ns n ct R K s L k a b z} : rn_6_tell ns ct R K (n + 1) 12 L (.inl (b, z) :: .inr (.inr (some (some a))) :: k) s = (sy_ob a = some 6 ∧ sy_ri b z ∧ sy_b01 false z ∧ rn_6_tell ns ct R K n 15 L k (sy_up s a 7 z)) := rfl
theorem rx_6_tell_15 {ns n ct R K s k z v1 v2 v3 v4 v5} : rn_6_tell ns ct R K (n + 1) 15 [.inr (.inr (some z)), v1, v2, v3, v4, v5] k s = (rn_6_tell ns ct R K n 16 [.inr (.inr (some z)), v1, v2, v3, v4, v5] (.inr (.inr (some z)) :: k) s) := rfl
theorem rx_6_tell_16 {ns n ct R K s k z v0 v1 v2 v3 v5} : rn_6_tell ns ct R K (n + 1) 16 [v0, v1, v2, v3, .inl (true, z), v5] k s = (rn_6_tell ns ct R K n 18 [v0, v1, v2, v3, .inl (true, z), v5] (.inl (true, z) :: k) s) := rfl
theorem rx_6_tell_18 {ns n ct R K s L k a b z} : rn_6_tell ns ct R K (n + 1) 18 L (.inl (b, z) :: .inr (.inr (some (some a))) :: k) s = (sy_ob a = some 6 ∧ sy_ri b z ∧ sy_b01 false z ∧ rn_6_tell ns ct R K n 21 L k (sy_up s a 8 z)) := rfl
theorem rx_6_tell_21 {ns n ct R K s k z v1 v2 v3 v4 v5} : rn_6_tell ns ct R K (n + 1) 21 [.inr (.inr (some z)), v1, v2, v3, v4, v5] k s = (rn_6_tell ns ct R K n 22 [.inr (.inr (some z)), v1, v2, v3, v4, v5] (.inr (.inr (some z)) :: k) s) := rfl
theorem rx_6_tell_22 {ns n ct R K s k z v0 v1 v2 v3 v4} : rn_6_tell ns ct R K (n + 1) 22 [v0, v1, v2, v3, v4, .inl (true, z)] k s = (rn_6_tell ns ct R K n 24 [v0, v1, v2, v3, v4, .inl (true, z)] (.inl (true, z) :: k) s) := rfl
theorem rx_6_tell_24 {ns n ct R K s L k a b z} : rn_6_tell ns ct R K (n + 1) 24 L (.inl (b, z) :: .inr (.inr (some (some a))) :: k) s = (sy_ob a = some 6 ∧ sy_ri b z ∧ sy_b01 false z ∧ rn_6_tell ns ct R K n 27 L k (sy_up s a 9 z)) := rfl
theorem rx_6_tell_27 {ns n ct R K s L} : rn_6_tell ns ct R K (n + 1) 27 L [] s = (R none s) := rfl
def y_6_isChoosy : MethodName := ⟨"StarHide$Site", "isChoosy", "()Z"⟩
abbrev c_6_isChoosy : ByteArray := prog_8_method_3_code
def tc_6_isChoosy (pc : Nat) : Option sy_I := match pc with
  | 0 => some (.aload_n 0, 1, 0)
  | 1 => some (.getfield 24, 4, 0)
  | 4 => some (.iconst 1, 5, 0)
  | 5 => some (.if_icmp .eq 11, 8, 16)
  | 8 => some (.aload_n 0, 9, 0)
  | 9 => some (.getfield 24, 12, 0)
  | 12 => some (.iconst 2, 13, 0)
  | 13 => some (.if_icmp .ne 7, 16, 20)
  | 16 => some (.iconst 1, 17, 0)
  | 17 => some (.goto 4, 20, 21)
  | 20 => some (.iconst 0, 21, 0)
  | 21 => some (.ireturn, 22, 0)
  | _ => none
theorem tv_6_isChoosy : ∀ pc i, sy_lk 22 tc_6_isChoosy pc = some i → sy_chk c_6_isChoosy (some .boolean) true pc i = true := sy_lk_ok 22 tc_6_isChoosy (by decide +kernel)
def Mk_6_isChoosy (ct : Nat → Option (Bool × Nat × sy_Sp)) : sy_M := (sy_lk 22 tc_6_isChoosy, ff_6, ki_6, kl_6, ct, true)
def rn_6_isChoosy (ns : Nat) (ct : Nat → Option (Bool × Nat × sy_Sp)) (R : sy_R) (K : sy_K) : Nat → sy_K := sy_run ns (Mk_6_isChoosy ct) [] R K
theorem rx_6_isChoosy_0 {ns n ct R K s k z} : rn_6_isChoosy ns ct R K (n + 1) 0 [.inr (.inr (some z))] k s = (rn_6_isChoosy ns ct R K n 1 [.inr (.inr (some z))] (.inr (.inr (some z)) :: k) s) := rfl
theorem rx_6_isChoosy_1 {ns n ct R K s L k a} : rn_6_isChoosy ns ct R K (n + 1) 1 L (.inr (.inr (some (some a))) :: k) s = (sy_ob a = some 6 ∧ rn_6_isChoosy ns ct R K n 4 L (sy_fv s a 5 :: k) s) := rfl
theorem rx_6_isChoosy_4 {ns n ct R K s L k} : rn_6_isChoosy ns ct R K (n + 1) 4 L k s = (rn_6_isChoosy ns ct R K n 5 L (.inl (true, 1) :: k) s) := rfl
theorem rx_6_isChoosy_5 {ns n ct R K s L k a b x y} : rn_6_isChoosy ns ct R K (n + 1) 5 L (.inl (b, y) :: .inl (a, x) :: k) s = (sy_ri a x ∧ sy_ri b y ∧ (x = y → rn_6_isChoosy ns ct R K n 16 L k s) ∧ (¬ x = y → rn_6_isChoosy ns ct R K n 8 L k s)) := rfl
theorem rx_6_isChoosy_8 {ns n ct R K s k z} : rn_6_isChoosy ns ct R K (n + 1) 8 [.inr (.inr (some z))] k s = (rn_6_isChoosy ns ct R K n 9 [.inr (.inr (some z))] (.inr (.inr (some z)) :: k) s) := rfl
theorem rx_6_isChoosy_9 {ns n ct R K s L k a} : rn_6_isChoosy ns ct R K (n + 1) 9 L (.inr (.inr (some (some a))) :: k) s = (sy_ob a = some 6 ∧ rn_6_isChoosy ns ct R K n 12 L (sy_fv s a 5 :: k) s) := rfl
theorem rx_6_isChoosy_12 {ns n ct R K s L k} : rn_6_isChoosy ns ct R K (n + 1) 12 L k s = (rn_6_isChoosy ns ct R K n 13 L (.inl (true, 2) :: k) s) := rfl
theorem rx_6_isChoosy_13 {ns n ct R K s L k a b x y} : rn_6_isChoosy ns ct R K (n + 1) 13 L (.inl (b, y) :: .inl (a, x) :: k) s = (sy_ri a x ∧ sy_ri b y ∧ (¬ x = y → rn_6_isChoosy ns ct R K n 20 L k s) ∧ (x = y → rn_6_isChoosy ns ct R K n 16 L k s)) := rfl
theorem rx_6_isChoosy_16 {ns n ct R K s L k} : rn_6_isChoosy ns ct R K (n + 1) 16 L k s = (rn_6_isChoosy ns ct R K n 17 L (.inl (true, 1) :: k) s) := rfl
theorem rx_6_isChoosy_17 {ns n ct R K s L k} : rn_6_isChoosy ns ct R K (n + 1) 17 L k s = (rn_6_isChoosy ns ct R K n 21 L k s) := rfl
theorem rx_6_isChoosy_20 {ns n ct R K s L k} : rn_6_isChoosy ns ct R K (n + 1) 20 L k s = (rn_6_isChoosy ns ct R K n 21 L (.inl (true, 0) :: k) s) := rfl
theorem rx_6_isChoosy_21 {ns n ct R K s L a z} : rn_6_isChoosy ns ct R K (n + 1) 21 L [.inl (a, z)] s = (sy_ri a z ∧ sy_b01 true z ∧ R (some (.inl (true, z))) s) := rfl
def y_6_placeOf : MethodName := ⟨"StarHide$Site", "placeOf", "(II)I"⟩
abbrev c_6_placeOf : ByteArray := prog_8_method_4_code
def tc_6_placeOf (pc : Nat) : Option sy_I := match pc with
  | 0 => some (.iload_n 1, 1, 0)
  | 1 => some (.iload_n 2, 2, 0)
  | 2 => some (.aload_n 0, 3, 0)
  | 3 => some (.getfield 39, 6, 0)
  | 6 => some (.isub, 7, 0)
  | 7 => some (.imul, 8, 0)
  | 8 => some (.aload_n 0, 9, 0)
  | 9 => some (.getfield 15, 12, 0)
  | 12 => some (.isub, 13, 0)
  | 13 => some (.ireturn, 14, 0)
  | _ => none
theorem tv_6_placeOf : ∀ pc i, sy_lk 14 tc_6_placeOf pc = some i → sy_chk c_6_placeOf (some .int) false pc i = true := sy_lk_ok 14 tc_6_placeOf (by decide +kernel)
def Mk_6_placeOf (ct : Nat → Option (Bool × Nat × sy_Sp)) : sy_M := (sy_lk 14 tc_6_placeOf, ff_6, ki_6, kl_6, ct, false)
def rn_6_placeOf (ns : Nat) (ct : Nat → Option (Bool × Nat × sy_Sp)) (R : sy_R) (K : sy_K) : Nat → sy_K := sy_run ns (Mk_6_placeOf ct) [] R K
theorem rx_6_placeOf_0 {ns n ct R K s k z v0 v2} : rn_6_placeOf ns ct R K (n + 1) 0 [v0, .inl (true, z), v2] k s = (rn_6_placeOf ns ct R K n 1 [v0, .inl (true, z), v2] (.inl (true, z) :: k) s) := rfl
theorem rx_6_placeOf_1 {ns n ct R K s k z v0 v1} : rn_6_placeOf ns ct R K (n + 1) 1 [v0, v1, .inl (true, z)] k s = (rn_6_placeOf ns ct R K n 2 [v0, v1, .inl (true, z)] (.inl (true, z) :: k) s) := rfl
theorem rx_6_placeOf_2 {ns n ct R K s k z v1 v2} : rn_6_placeOf ns ct R K (n + 1) 2 [.inr (.inr (some z)), v1, v2] k s = (rn_6_placeOf ns ct R K n 3 [.inr (.inr (some z)), v1, v2] (.inr (.inr (some z)) :: k) s) := rfl
theorem rx_6_placeOf_3 {ns n ct R K s L k a} : rn_6_placeOf ns ct R K (n + 1) 3 L (.inr (.inr (some (some a))) :: k) s = (sy_ob a = some 6 ∧ rn_6_placeOf ns ct R K n 6 L (sy_fv s a 4 :: k) s) := rfl
theorem rx_6_placeOf_6 {ns n ct R K s L k a b x y} : rn_6_placeOf ns ct R K (n + 1) 6 L (.inl (b, y) :: .inl (a, x) :: k) s = (rn_6_placeOf ns ct R K n 7 L (.inl (false, x - y) :: k) s) := rfl
theorem rx_6_placeOf_7 {ns n ct R K s L k a b x y} : rn_6_placeOf ns ct R K (n + 1) 7 L (.inl (b, y) :: .inl (a, x) :: k) s = (rn_6_placeOf ns ct R K n 8 L (.inl (false, x * y) :: k) s) := rfl
theorem rx_6_placeOf_8 {ns n ct R K s k z v1 v2} : rn_6_placeOf ns ct R K (n + 1) 8 [.inr (.inr (some z)), v1, v2] k s = (rn_6_placeOf ns ct R K n 9 [.inr (.inr (some z)), v1, v2] (.inr (.inr (some z)) :: k) s) := rfl
theorem rx_6_placeOf_9 {ns n ct R K s L k a} : rn_6_placeOf ns ct R K (n + 1) 9 L (.inr (.inr (some (some a))) :: k) s = (sy_ob a = some 6 ∧ rn_6_placeOf ns ct R K n 12 L (sy_fv s a 1 :: k) s) := rfl
theorem rx_6_placeOf_12 {ns n ct R K s L k a b x y} : rn_6_placeOf ns ct R K (n + 1) 12 L (.inl (b, y) :: .inl (a, x) :: k) s = (rn_6_placeOf ns ct R K n 13 L (.inl (false, x - y) :: k) s) := rfl
theorem rx_6_placeOf_13 {ns n ct R K s L a z} : rn_6_placeOf ns ct R K (n + 1) 13 L [.inl (a, z)] s = (sy_ri a z ∧ sy_b01 false z ∧ R (some (.inl (true, z))) s) := rfl
def y_6_lowest : MethodName := ⟨"StarHide$Site", "lowest", "(II)I"⟩
abbrev c_6_lowest : ByteArray := prog_8_method_5_code
def tc_6_lowest (pc : Nat) : Option sy_I := match pc with
  | 0 => some (.iload_n 2, 1, 0)
  | 1 => some (.iconst (-1), 2, 0)
  | 2 => some (.if_icmp .ne 5, 5, 7)
  | 5 => some (.iconst 1, 6, 0)
  | 6 => some (.ireturn, 7, 0)
  | 7 => some (.iconst 2, 8, 0)
  | 8 => some (.iload_n 1, 9, 0)
  | 9 => some (.aload_n 0, 10, 0)
  | 10 => some (.getfield 27, 13, 0)
  | 13 => some (.imul, 14, 0)
  | 14 => some (.aload_n 0, 15, 0)
  | 15 => some (.getfield 15, 18, 0)
  | 18 => some (.isub, 19, 0)
  | 19 => some (.imul, 20, 0)
  | 20 => some (.istore_n 3, 21, 0)
  | 21 => some (.aload_n 0, 22, 0)
  | 22 => some (.getfield 24, 25, 0)
  | 25 => some (.iconst 2, 26, 0)
  | 26 => some (.if_icmp .ne 7, 29, 33)
  | 29 => some (.iload_n 3, 30, 0)
  | 30 => some (.iload_n 2, 31, 0)
  | 31 => some (.isub, 32, 0)
  | 32 => some (.ireturn, 33, 0)
  | 33 => some (.iload_n 3, 34, 0)
  | 34 => some (.iload_n 2, 35, 0)
  | 35 => some (.iadd, 36, 0)
  | 36 => some (.iconst 2, 37, 0)
  | 37 => some (.iload_n 1, 38, 0)
  | 38 => some (.aload_n 0, 39, 0)
  | 39 => some (.getfield 33, 42, 0)
  | 42 => some (.imul, 43, 0)
  | 43 => some (.aload_n 0, 44, 0)
  | 44 => some (.getfield 15, 47, 0)
  | 47 => some (.isub, 48, 0)
  | 48 => some (.imul, 49, 0)
  | 49 => some (.iload_n 2, 50, 0)
  | 50 => some (.isub, 51, 0)
  | 51 => some (.invokestatic 42, 54, 0)
  | 54 => some (.ireturn, 55, 0)
  | _ => none
theorem tv_6_lowest : ∀ pc i, sy_lk 55 tc_6_lowest pc = some i → sy_chk c_6_lowest (some .int) false pc i = true := sy_lk_ok 55 tc_6_lowest (by decide +kernel)
def Mk_6_lowest (ct : Nat → Option (Bool × Nat × sy_Sp)) : sy_M := (sy_lk 55 tc_6_lowest, ff_6, ki_6, kl_6, ct, false)
def rn_6_lowest (ns : Nat) (ct : Nat → Option (Bool × Nat × sy_Sp)) (R : sy_R) (K : sy_K) : Nat → sy_K := sy_run ns (Mk_6_lowest ct) [] R K
theorem rx_6_lowest_0 {ns n ct R K s k z v0 v1 v3} : rn_6_lowest ns ct R K (n + 1) 0 [v0, v1, .inl (true, z), v3] k s = (rn_6_lowest ns ct R K n 1 [v0, v1, .inl (true, z), v3] (.inl (true, z) :: k) s) := rfl
theorem rx_6_lowest_1 {ns n ct R K s L k} : rn_6_lowest ns ct R K (n + 1) 1 L k s = (rn_6_lowest ns ct R K n 2 L (.inl (true, (-1)) :: k) s) := rfl
theorem rx_6_lowest_2 {ns n ct R K s L k a b x y} : rn_6_lowest ns ct R K (n + 1) 2 L (.inl (b, y) :: .inl (a, x) :: k) s = (sy_ri a x ∧ sy_ri b y ∧ (¬ x = y → rn_6_lowest ns ct R K n 7 L k s) ∧ (x = y → rn_6_lowest ns ct R K n 5 L k s)) := rfl
theorem rx_6_lowest_5 {ns n ct R K s L k} : rn_6_lowest ns ct R K (n + 1) 5 L k s = (rn_6_lowest ns ct R K n 6 L (.inl (true, 1) :: k) s) := rfl
theorem rx_6_lowest_6 {ns n ct R K s L a z} : rn_6_lowest ns ct R K (n + 1) 6 L [.inl (a, z)] s = (sy_ri a z ∧ sy_b01 false z ∧ R (some (.inl (true, z))) s) := rfl
theorem rx_6_lowest_7 {ns n ct R K s L k} : rn_6_lowest ns ct R K (n + 1) 7 L k s = (rn_6_lowest ns ct R K n 8 L (.inl (true, 2) :: k) s) := rfl
theorem rx_6_lowest_8 {ns n ct R K s k z v0 v2 v3} : rn_6_lowest ns ct R K (n + 1) 8 [v0, .inl (true, z), v2, v3] k s = (rn_6_lowest ns ct R K n 9 [v0, .inl (true, z), v2, v3] (.inl (true, z) :: k) s) := rfl
theorem rx_6_lowest_9 {ns n ct R K s k z v1 v2 v3} : rn_6_lowest ns ct R K (n + 1) 9 [.inr (.inr (some z)), v1, v2, v3] k s = (rn_6_lowest ns ct R K n 10 [.inr (.inr (some z)), v1, v2, v3] (.inr (.inr (some z)) :: k) s) := rfl
theorem rx_6_lowest_10 {ns n ct R K s L k a} : rn_6_lowest ns ct R K (n + 1) 10 L (.inr (.inr (some (some a))) :: k) s = (sy_ob a = some 6 ∧ rn_6_lowest ns ct R K n 13 L (sy_fv s a 6 :: k) s) := rfl
theorem rx_6_lowest_13 {ns n ct R K s L k a b x y} : rn_6_lowest ns ct R K (n + 1) 13 L (.inl (b, y) :: .inl (a, x) :: k) s = (rn_6_lowest ns ct R K n 14 L (.inl (false, x * y) :: k) s) := rfl
theorem rx_6_lowest_14 {ns n ct R K s k z v1 v2 v3} : rn_6_lowest ns ct R K (n + 1) 14 [.inr (.inr (some z)), v1, v2, v3] k s = (rn_6_lowest ns ct R K n 15 [.inr (.inr (some z)), v1, v2, v3] (.inr (.inr (some z)) :: k) s) := rfl
theorem rx_6_lowest_15 {ns n ct R K s L k a} : rn_6_lowest ns ct R K (n + 1) 15 L (.inr (.inr (some (some a))) :: k) s = (sy_ob a = some 6 ∧ rn_6_lowest ns ct R K n 18 L (sy_fv s a 1 :: k) s) := rfl
theorem rx_6_lowest_18 {ns n ct R K s L k a b x y} : rn_6_lowest ns ct R K (n + 1) 18 L (.inl (b, y) :: .inl (a, x) :: k) s = (rn_6_lowest ns ct R K n 19 L (.inl (false, x - y) :: k) s) := rfl
theorem rx_6_lowest_19 {ns n ct R K s L k a b x y} : rn_6_lowest ns ct R K (n + 1) 19 L (.inl (b, y) :: .inl (a, x) :: k) s = (rn_6_lowest ns ct R K n 20 L (.inl (false, x * y) :: k) s) := rfl
theorem rx_6_lowest_20 {ns n ct R K s L k b z} : rn_6_lowest ns ct R K (n + 1) 20 L (.inl (b, z) :: k) s = (sy_ri b z ∧ 3 < L.length ∧ rn_6_lowest ns ct R K n 21 (sy_sto L 3 (.inl (true, z))) k s) := rfl
theorem rx_6_lowest_21 {ns n ct R K s k z v1 v2 v3} : rn_6_lowest ns ct R K (n + 1) 21 [.inr (.inr (some z)), v1, v2, v3] k s = (rn_6_lowest ns ct R K n 22 [.inr (.inr (some z)), v1, v2, v3] (.inr (.inr (some z)) :: k) s) := rfl
theorem rx_6_lowest_22 {ns n ct R K s L k a} : rn_6_lowest ns ct R K (n + 1) 22 L (.inr (.inr (some (some a))) :: k) s = (sy_ob a = some 6 ∧ rn_6_lowest ns ct R K n 25 L (sy_fv s a 5 :: k) s) := rfl
theorem rx_6_lowest_25 {ns n ct R K s L k} : rn_6_lowest ns ct R K (n + 1) 25 L k s = (rn_6_lowest ns ct R K n 26 L (.inl (true, 2) :: k) s) := rfl
theorem rx_6_lowest_26 {ns n ct R K s L k a b x y} : rn_6_lowest ns ct R K (n + 1) 26 L (.inl (b, y) :: .inl (a, x) :: k) s = (sy_ri a x ∧ sy_ri b y ∧ (¬ x = y → rn_6_lowest ns ct R K n 33 L k s) ∧ (x = y → rn_6_lowest ns ct R K n 29 L k s)) := rfl
theorem rx_6_lowest_29 {ns n ct R K s k z v0 v1 v2} : rn_6_lowest ns ct R K (n + 1) 29 [v0, v1, v2, .inl (true, z)] k s = (rn_6_lowest ns ct R K n 30 [v0, v1, v2, .inl (true, z)] (.inl (true, z) :: k) s) := rfl
theorem rx_6_lowest_30 {ns n ct R K s k z v0 v1 v3} : rn_6_lowest ns ct R K (n + 1) 30 [v0, v1, .inl (true, z), v3] k s = (rn_6_lowest ns ct R K n 31 [v0, v1, .inl (true, z), v3] (.inl (true, z) :: k) s) := rfl
theorem rx_6_lowest_31 {ns n ct R K s L k a b x y} : rn_6_lowest ns ct R K (n + 1) 31 L (.inl (b, y) :: .inl (a, x) :: k) s = (rn_6_lowest ns ct R K n 32 L (.inl (false, x - y) :: k) s) := rfl
theorem rx_6_lowest_32 {ns n ct R K s L a z} : rn_6_lowest ns ct R K (n + 1) 32 L [.inl (a, z)] s = (sy_ri a z ∧ sy_b01 false z ∧ R (some (.inl (true, z))) s) := rfl
theorem rx_6_lowest_33 {ns n ct R K s k z v0 v1 v2} : rn_6_lowest ns ct R K (n + 1) 33 [v0, v1, v2, .inl (true, z)] k s = (rn_6_lowest ns ct R K n 34 [v0, v1, v2, .inl (true, z)] (.inl (true, z) :: k) s) := rfl
theorem rx_6_lowest_34 {ns n ct R K s k z v0 v1 v3} : rn_6_lowest ns ct R K (n + 1) 34 [v0, v1, .inl (true, z), v3] k s = (rn_6_lowest ns ct R K n 35 [v0, v1, .inl (true, z), v3] (.inl (true, z) :: k) s) := rfl
theorem rx_6_lowest_35 {ns n ct R K s L k a b x y} : rn_6_lowest ns ct R K (n + 1) 35 L (.inl (b, y) :: .inl (a, x) :: k) s = (rn_6_lowest ns ct R K n 36 L (.inl (false, x + y) :: k) s) := rfl
theorem rx_6_lowest_36 {ns n ct R K s L k} : rn_6_lowest ns ct R K (n + 1) 36 L k s = (rn_6_lowest ns ct R K n 37 L (.inl (true, 2) :: k) s) := rfl
theorem rx_6_lowest_37 {ns n ct R K s k z v0 v2 v3} : rn_6_lowest ns ct R K (n + 1) 37 [v0, .inl (true, z), v2, v3] k s = (rn_6_lowest ns ct R K n 38 [v0, .inl (true, z), v2, v3] (.inl (true, z) :: k) s) := rfl
theorem rx_6_lowest_38 {ns n ct R K s k z v1 v2 v3} : rn_6_lowest ns ct R K (n + 1) 38 [.inr (.inr (some z)), v1, v2, v3] k s = (rn_6_lowest ns ct R K n 39 [.inr (.inr (some z)), v1, v2, v3] (.inr (.inr (some z)) :: k) s) := rfl
theorem rx_6_lowest_39 {ns n ct R K s L k a} : rn_6_lowest ns ct R K (n + 1) 39 L (.inr (.inr (some (some a))) :: k) s = (sy_ob a = some 6 ∧ rn_6_lowest ns ct R K n 42 L (sy_fv s a 8 :: k) s) := rfl
theorem rx_6_lowest_42 {ns n ct R K s L k a b x y} : rn_6_lowest ns ct R K (n + 1) 42 L (.inl (b, y) :: .inl (a, x) :: k) s = (rn_6_lowest ns ct R K n 43 L (.inl (false, x * y) :: k) s) := rfl
theorem rx_6_lowest_43 {ns n ct R K s k z v1 v2 v3} : rn_6_lowest ns ct R K (n + 1) 43 [.inr (.inr (some z)), v1, v2, v3] k s = (rn_6_lowest ns ct R K n 44 [.inr (.inr (some z)), v1, v2, v3] (.inr (.inr (some z)) :: k) s) := rfl
theorem rx_6_lowest_44 {ns n ct R K s L k a} : rn_6_lowest ns ct R K (n + 1) 44 L (.inr (.inr (some (some a))) :: k) s = (sy_ob a = some 6 ∧ rn_6_lowest ns ct R K n 47 L (sy_fv s a 1 :: k) s) := rfl
theorem rx_6_lowest_47 {ns n ct R K s L k a b x y} : rn_6_lowest ns ct R K (n + 1) 47 L (.inl (b, y) :: .inl (a, x) :: k) s = (rn_6_lowest ns ct R K n 48 L (.inl (false, x - y) :: k) s) := rfl
theorem rx_6_lowest_48 {ns n ct R K s L k a b x y} : rn_6_lowest ns ct R K (n + 1) 48 L (.inl (b, y) :: .inl (a, x) :: k) s = (rn_6_lowest ns ct R K n 49 L (.inl (false, x * y) :: k) s) := rfl
theorem rx_6_lowest_49 {ns n ct R K s k z v0 v1 v3} : rn_6_lowest ns ct R K (n + 1) 49 [v0, v1, .inl (true, z), v3] k s = (rn_6_lowest ns ct R K n 50 [v0, v1, .inl (true, z), v3] (.inl (true, z) :: k) s) := rfl
theorem rx_6_lowest_50 {ns n ct R K s L k a b x y} : rn_6_lowest ns ct R K (n + 1) 50 L (.inl (b, y) :: .inl (a, x) :: k) s = (rn_6_lowest ns ct R K n 51 L (.inl (false, x - y) :: k) s) := rfl
theorem rx_6_lowest_51 {ns n ct R K s L k} : rn_6_lowest ns ct R K (n + 1) 51 L k s = (sy_call true (ct 42) k s fun r t => rn_6_lowest ns ct R K n 54 L r t) := rfl
theorem rx_6_lowest_54 {ns n ct R K s L a z} : rn_6_lowest ns ct R K (n + 1) 54 L [.inl (a, z)] s = (sy_ri a z ∧ sy_b01 false z ∧ R (some (.inl (true, z))) s) := rfl
def y_6_highest : MethodName := ⟨"StarHide$Site", "highest", "(II)I"⟩
abbrev c_6_highest : ByteArray := prog_8_method_6_code
def tc_6_highest (pc : Nat) : Option sy_I := match pc with
  | 0 => some (.iload_n 2, 1, 0)
  | 1 => some (.iconst (-1), 2, 0)
  | 2 => some (.if_icmp .ne 5, 5, 7)
  | 5 => some (.iconst 0, 6, 0)
  | 6 => some (.ireturn, 7, 0)
  | 7 => some (.iconst 2, 8, 0)
  | 8 => some (.iload_n 1, 9, 0)
  | 9 => some (.aload_n 0, 10, 0)
  | 10 => some (.getfield 30, 13, 0)
  | 13 => some (.imul, 14, 0)
  | 14 => some (.aload_n 0, 15, 0)
  | 15 => some (.getfield 15, 18, 0)
  | 18 => some (.isub, 19, 0)
  | 19 => some (.imul, 20, 0)
  | 20 => some (.istore_n 3, 21, 0)
  | 21 => some (.aload_n 0, 22, 0)
  | 22 => some (.getfield 24, 25, 0)
  | 25 => some (.iconst 2, 26, 0)
  | 26 => some (.if_icmp .ne 7, 29, 33)
  | 29 => some (.iload_n 3, 30, 0)
  | 30 => some (.iload_n 2, 31, 0)
  | 31 => some (.iadd, 32, 0)
  | 32 => some (.ireturn, 33, 0)
  | 33 => some (.iload_n 3, 34, 0)
  | 34 => some (.iload_n 2, 35, 0)
  | 35 => some (.iadd, 36, 0)
  | 36 => some (.iconst 2, 37, 0)
  | 37 => some (.iload_n 1, 38, 0)
  | 38 => some (.aload_n 0, 39, 0)
  | 39 => some (.getfield 36, 42, 0)
  | 42 => some (.imul, 43, 0)
  | 43 => some (.aload_n 0, 44, 0)
  | 44 => some (.getfield 15, 47, 0)
  | 47 => some (.isub, 48, 0)
  | 48 => some (.imul, 49, 0)
  | 49 => some (.iload_n 2, 50, 0)
  | 50 => some (.isub, 51, 0)
  | 51 => some (.invokestatic 48, 54, 0)
  | 54 => some (.ireturn, 55, 0)
  | _ => none
theorem tv_6_highest : ∀ pc i, sy_lk 55 tc_6_highest pc = some i → sy_chk c_6_highest (some .int) false pc i = true := sy_lk_ok 55 tc_6_highest (by decide +kernel)
def Mk_6_highest (ct : Nat → Option (Bool × Nat × sy_Sp)) : sy_M := (sy_lk 55 tc_6_highest, ff_6, ki_6, kl_6, ct, false)
def rn_6_highest (ns : Nat) (ct : Nat → Option (Bool × Nat × sy_Sp)) (R : sy_R) (K : sy_K) : Nat → sy_K := sy_run ns (Mk_6_highest ct) [] R K
theorem rx_6_highest_0 {ns n ct R K s k z v0 v1 v3} : rn_6_highest ns ct R K (n + 1) 0 [v0, v1, .inl (true, z), v3] k s = (rn_6_highest ns ct R K n 1 [v0, v1, .inl (true, z), v3] (.inl (true, z) :: k) s) := rfl
theorem rx_6_highest_1 {ns n ct R K s L k} : rn_6_highest ns ct R K (n + 1) 1 L k s = (rn_6_highest ns ct R K n 2 L (.inl (true, (-1)) :: k) s) := rfl
theorem rx_6_highest_2 {ns n ct R K s L k a b x y} : rn_6_highest ns ct R K (n + 1) 2 L (.inl (b, y) :: .inl (a, x) :: k) s = (sy_ri a x ∧ sy_ri b y ∧ (¬ x = y → rn_6_highest ns ct R K n 7 L k s) ∧ (x = y → rn_6_highest ns ct R K n 5 L k s)) := rfl
theorem rx_6_highest_5 {ns n ct R K s L k} : rn_6_highest ns ct R K (n + 1) 5 L k s = (rn_6_highest ns ct R K n 6 L (.inl (true, 0) :: k) s) := rfl
theorem rx_6_highest_6 {ns n ct R K s L a z} : rn_6_highest ns ct R K (n + 1) 6 L [.inl (a, z)] s = (sy_ri a z ∧ sy_b01 false z ∧ R (some (.inl (true, z))) s) := rfl
theorem rx_6_highest_7 {ns n ct R K s L k} : rn_6_highest ns ct R K (n + 1) 7 L k s = (rn_6_highest ns ct R K n 8 L (.inl (true, 2) :: k) s) := rfl
theorem rx_6_highest_8 {ns n ct R K s k z v0 v2 v3} : rn_6_highest ns ct R K (n + 1) 8 [v0, .inl (true, z), v2, v3] k s = (rn_6_highest ns ct R K n 9 [v0, .inl (true, z), v2, v3] (.inl (true, z) :: k) s) := rfl
theorem rx_6_highest_9 {ns n ct R K s k z v1 v2 v3} : rn_6_highest ns ct R K (n + 1) 9 [.inr (.inr (some z)), v1, v2, v3] k s = (rn_6_highest ns ct R K n 10 [.inr (.inr (some z)), v1, v2, v3] (.inr (.inr (some z)) :: k) s) := rfl
theorem rx_6_highest_10 {ns n ct R K s L k a} : rn_6_highest ns ct R K (n + 1) 10 L (.inr (.inr (some (some a))) :: k) s = (sy_ob a = some 6 ∧ rn_6_highest ns ct R K n 13 L (sy_fv s a 7 :: k) s) := rfl
theorem rx_6_highest_13 {ns n ct R K s L k a b x y} : rn_6_highest ns ct R K (n + 1) 13 L (.inl (b, y) :: .inl (a, x) :: k) s = (rn_6_highest ns ct R K n 14 L (.inl (false, x * y) :: k) s) := rfl
theorem rx_6_highest_14 {ns n ct R K s k z v1 v2 v3} : rn_6_highest ns ct R K (n + 1) 14 [.inr (.inr (some z)), v1, v2, v3] k s = (rn_6_highest ns ct R K n 15 [.inr (.inr (some z)), v1, v2, v3] (.inr (.inr (some z)) :: k) s) := rfl
theorem rx_6_highest_15 {ns n ct R K s L k a} : rn_6_highest ns ct R K (n + 1) 15 L (.inr (.inr (some (some a))) :: k) s = (sy_ob a = some 6 ∧ rn_6_highest ns ct R K n 18 L (sy_fv s a 1 :: k) s) := rfl
theorem rx_6_highest_18 {ns n ct R K s L k a b x y} : rn_6_highest ns ct R K (n + 1) 18 L (.inl (b, y) :: .inl (a, x) :: k) s = (rn_6_highest ns ct R K n 19 L (.inl (false, x - y) :: k) s) := rfl
theorem rx_6_highest_19 {ns n ct R K s L k a b x y} : rn_6_highest ns ct R K (n + 1) 19 L (.inl (b, y) :: .inl (a, x) :: k) s = (rn_6_highest ns ct R K n 20 L (.inl (false, x * y) :: k) s) := rfl
theorem rx_6_highest_20 {ns n ct R K s L k b z} : rn_6_highest ns ct R K (n + 1) 20 L (.inl (b, z) :: k) s = (sy_ri b z ∧ 3 < L.length ∧ rn_6_highest ns ct R K n 21 (sy_sto L 3 (.inl (true, z))) k s) := rfl
theorem rx_6_highest_21 {ns n ct R K s k z v1 v2 v3} : rn_6_highest ns ct R K (n + 1) 21 [.inr (.inr (some z)), v1, v2, v3] k s = (rn_6_highest ns ct R K n 22 [.inr (.inr (some z)), v1, v2, v3] (.inr (.inr (some z)) :: k) s) := rfl
theorem rx_6_highest_22 {ns n ct R K s L k a} : rn_6_highest ns ct R K (n + 1) 22 L (.inr (.inr (some (some a))) :: k) s = (sy_ob a = some 6 ∧ rn_6_highest ns ct R K n 25 L (sy_fv s a 5 :: k) s) := rfl
theorem rx_6_highest_25 {ns n ct R K s L k} : rn_6_highest ns ct R K (n + 1) 25 L k s = (rn_6_highest ns ct R K n 26 L (.inl (true, 2) :: k) s) := rfl
theorem rx_6_highest_26 {ns n ct R K s L k a b x y} : rn_6_highest ns ct R K (n + 1) 26 L (.inl (b, y) :: .inl (a, x) :: k) s = (sy_ri a x ∧ sy_ri b y ∧ (¬ x = y → rn_6_highest ns ct R K n 33 L k s) ∧ (x = y → rn_6_highest ns ct R K n 29 L k s)) := rfl
theorem rx_6_highest_29 {ns n ct R K s k z v0 v1 v2} : rn_6_highest ns ct R K (n + 1) 29 [v0, v1, v2, .inl (true, z)] k s = (rn_6_highest ns ct R K n 30 [v0, v1, v2, .inl (true, z)] (.inl (true, z) :: k) s) := rfl
theorem rx_6_highest_30 {ns n ct R K s k z v0 v1 v3} : rn_6_highest ns ct R K (n + 1) 30 [v0, v1, .inl (true, z), v3] k s = (rn_6_highest ns ct R K n 31 [v0, v1, .inl (true, z), v3] (.inl (true, z) :: k) s) := rfl
theorem rx_6_highest_31 {ns n ct R K s L k a b x y} : rn_6_highest ns ct R K (n + 1) 31 L (.inl (b, y) :: .inl (a, x) :: k) s = (rn_6_highest ns ct R K n 32 L (.inl (false, x + y) :: k) s) := rfl
theorem rx_6_highest_32 {ns n ct R K s L a z} : rn_6_highest ns ct R K (n + 1) 32 L [.inl (a, z)] s = (sy_ri a z ∧ sy_b01 false z ∧ R (some (.inl (true, z))) s) := rfl
theorem rx_6_highest_33 {ns n ct R K s k z v0 v1 v2} : rn_6_highest ns ct R K (n + 1) 33 [v0, v1, v2, .inl (true, z)] k s = (rn_6_highest ns ct R K n 34 [v0, v1, v2, .inl (true, z)] (.inl (true, z) :: k) s) := rfl
theorem rx_6_highest_34 {ns n ct R K s k z v0 v1 v3} : rn_6_highest ns ct R K (n + 1) 34 [v0, v1, .inl (true, z), v3] k s = (rn_6_highest ns ct R K n 35 [v0, v1, .inl (true, z), v3] (.inl (true, z) :: k) s) := rfl
theorem rx_6_highest_35 {ns n ct R K s L k a b x y} : rn_6_highest ns ct R K (n + 1) 35 L (.inl (b, y) :: .inl (a, x) :: k) s = (rn_6_highest ns ct R K n 36 L (.inl (false, x + y) :: k) s) := rfl
theorem rx_6_highest_36 {ns n ct R K s L k} : rn_6_highest ns ct R K (n + 1) 36 L k s = (rn_6_highest ns ct R K n 37 L (.inl (true, 2) :: k) s) := rfl
theorem rx_6_highest_37 {ns n ct R K s k z v0 v2 v3} : rn_6_highest ns ct R K (n + 1) 37 [v0, .inl (true, z), v2, v3] k s = (rn_6_highest ns ct R K n 38 [v0, .inl (true, z), v2, v3] (.inl (true, z) :: k) s) := rfl
theorem rx_6_highest_38 {ns n ct R K s k z v1 v2 v3} : rn_6_highest ns ct R K (n + 1) 38 [.inr (.inr (some z)), v1, v2, v3] k s = (rn_6_highest ns ct R K n 39 [.inr (.inr (some z)), v1, v2, v3] (.inr (.inr (some z)) :: k) s) := rfl
theorem rx_6_highest_39 {ns n ct R K s L k a} : rn_6_highest ns ct R K (n + 1) 39 L (.inr (.inr (some (some a))) :: k) s = (sy_ob a = some 6 ∧ rn_6_highest ns ct R K n 42 L (sy_fv s a 9 :: k) s) := rfl
theorem rx_6_highest_42 {ns n ct R K s L k a b x y} : rn_6_highest ns ct R K (n + 1) 42 L (.inl (b, y) :: .inl (a, x) :: k) s = (rn_6_highest ns ct R K n 43 L (.inl (false, x * y) :: k) s) := rfl
theorem rx_6_highest_43 {ns n ct R K s k z v1 v2 v3} : rn_6_highest ns ct R K (n + 1) 43 [.inr (.inr (some z)), v1, v2, v3] k s = (rn_6_highest ns ct R K n 44 [.inr (.inr (some z)), v1, v2, v3] (.inr (.inr (some z)) :: k) s) := rfl
theorem rx_6_highest_44 {ns n ct R K s L k a} : rn_6_highest ns ct R K (n + 1) 44 L (.inr (.inr (some (some a))) :: k) s = (sy_ob a = some 6 ∧ rn_6_highest ns ct R K n 47 L (sy_fv s a 1 :: k) s) := rfl
theorem rx_6_highest_47 {ns n ct R K s L k a b x y} : rn_6_highest ns ct R K (n + 1) 47 L (.inl (b, y) :: .inl (a, x) :: k) s = (rn_6_highest ns ct R K n 48 L (.inl (false, x - y) :: k) s) := rfl
theorem rx_6_highest_48 {ns n ct R K s L k a b x y} : rn_6_highest ns ct R K (n + 1) 48 L (.inl (b, y) :: .inl (a, x) :: k) s = (rn_6_highest ns ct R K n 49 L (.inl (false, x * y) :: k) s) := rfl
theorem rx_6_highest_49 {ns n ct R K s k z v0 v1 v3} : rn_6_highest ns ct R K (n + 1) 49 [v0, v1, .inl (true, z), v3] k s = (rn_6_highest ns ct R K n 50 [v0, v1, .inl (true, z), v3] (.inl (true, z) :: k) s) := rfl
theorem rx_6_highest_50 {ns n ct R K s L k a b x y} : rn_6_highest ns ct R K (n + 1) 50 L (.inl (b, y) :: .inl (a, x) :: k) s = (rn_6_highest ns ct R K n 51 L (.inl (false, x - y) :: k) s) := rfl
theorem rx_6_highest_51 {ns n ct R K s L k} : rn_6_highest ns ct R K (n + 1) 51 L k s = (sy_call true (ct 48) k s fun r t => rn_6_highest ns ct R K n 54 L r t) := rfl
theorem rx_6_highest_54 {ns n ct R K s L a z} : rn_6_highest ns ct R K (n + 1) 54 L [.inl (a, z)] s = (sy_ri a z ∧ sy_b01 false z ∧ R (some (.inl (true, z))) s) := rfl
def y_6_allows : MethodName := ⟨"StarHide$Site", "allows", "(III)Z"⟩
abbrev c_6_allows : ByteArray := prog_8_method_7_code
def tc_6_allows (pc : Nat) : Option sy_I := match pc with
  | 0 => some (.aload_n 0, 1, 0)
  | 1 => some (.getfield 24, 4, 0)
  | 4 => some (.iconst 1, 5, 0)
  | 5 => some (.if_icmp .ne 19, 8, 24)
  | 8 => some (.iload_n 2, 9, 0)
  | 9 => some (.iload_n 1, 10, 0)
  | 10 => some (.if_icmp .gt 12, 13, 22)
  | 13 => some (.iload_n 1, 14, 0)
  | 14 => some (.iload_n 3, 15, 0)
  | 15 => some (.if_icmp .gt 7, 18, 22)
  | 18 => some (.iconst 1, 19, 0)
  | 19 => some (.goto 4, 22, 23)
  | 22 => some (.iconst 0, 23, 0)
  | 23 => some (.ireturn, 24, 0)
  | 24 => some (.aload_n 0, 25, 0)
  | 25 => some (.getfield 24, 28, 0)
  | 28 => some (.iconst 2, 29, 0)
  | 29 => some (.if_icmp .ne 13, 32, 42)
  | 32 => some (.iload_n 1, 33, 0)
  | 33 => some (.iload_n 2, 34, 0)
  | 34 => some (.if_icmp .le 8, 37, 42)
  | 37 => some (.iload_n 1, 38, 0)
  | 38 => some (.iload_n 3, 39, 0)
  | 39 => some (.if_icmp .lt 7, 42, 46)
  | 42 => some (.iconst 1, 43, 0)
  | 43 => some (.goto 4, 46, 47)
  | 46 => some (.iconst 0, 47, 0)
  | 47 => some (.ireturn, 48, 0)
  | _ => none
theorem tv_6_allows : ∀ pc i, sy_lk 48 tc_6_allows pc = some i → sy_chk c_6_allows (some .boolean) true pc i = true := sy_lk_ok 48 tc_6_allows (by decide +kernel)
def Mk_6_allows (ct : Nat → Option (Bool × Nat × sy_Sp)) : sy_M := (sy_lk 48 tc_6_allows, ff_6, ki_6, kl_6, ct, true)
def rn_6_allows (ns : Nat) (ct : Nat → Option (Bool × Nat × sy_Sp)) (R : sy_R) (K : sy_K) : Nat → sy_K := sy_run ns (Mk_6_allows ct) [] R K
theorem rx_6_allows_0 {ns n ct R K s k z v1 v2 v3} : rn_6_allows ns ct R K (n + 1) 0 [.inr (.inr (some z)), v1, v2, v3] k s = (rn_6_allows ns ct R K n 1 [.inr (.inr (some z)), v1, v2, v3] (.inr (.inr (some z)) :: k) s) := rfl
theorem rx_6_allows_1 {ns n ct R K s L k a} : rn_6_allows ns ct R K (n + 1) 1 L (.inr (.inr (some (some a))) :: k) s = (sy_ob a = some 6 ∧ rn_6_allows ns ct R K n 4 L (sy_fv s a 5 :: k) s) := rfl
theorem rx_6_allows_4 {ns n ct R K s L k} : rn_6_allows ns ct R K (n + 1) 4 L k s = (rn_6_allows ns ct R K n 5 L (.inl (true, 1) :: k) s) := rfl
theorem rx_6_allows_5 {ns n ct R K s L k a b x y} : rn_6_allows ns ct R K (n + 1) 5 L (.inl (b, y) :: .inl (a, x) :: k) s = (sy_ri a x ∧ sy_ri b y ∧ (¬ x = y → rn_6_allows ns ct R K n 24 L k s) ∧ (x = y → rn_6_allows ns ct R K n 8 L k s)) := rfl
theorem rx_6_allows_8 {ns n ct R K s k z v0 v1 v3} : rn_6_allows ns ct R K (n + 1) 8 [v0, v1, .inl (true, z), v3] k s = (rn_6_allows ns ct R K n 9 [v0, v1, .inl (true, z), v3] (.inl (true, z) :: k) s) := rfl
theorem rx_6_allows_9 {ns n ct R K s k z v0 v2 v3} : rn_6_allows ns ct R K (n + 1) 9 [v0, .inl (true, z), v2, v3] k s = (rn_6_allows ns ct R K n 10 [v0, .inl (true, z), v2, v3] (.inl (true, z) :: k) s) := rfl
theorem rx_6_allows_10 {ns n ct R K s L k a b x y} : rn_6_allows ns ct R K (n + 1) 10 L (.inl (b, y) :: .inl (a, x) :: k) s = (sy_ri a x ∧ sy_ri b y ∧ (y < x → rn_6_allows ns ct R K n 22 L k s) ∧ (¬ y < x → rn_6_allows ns ct R K n 13 L k s)) := rfl
theorem rx_6_allows_13 {ns n ct R K s k z v0 v2 v3} : rn_6_allows ns ct R K (n + 1) 13 [v0, .inl (true, z), v2, v3] k s = (rn_6_allows ns ct R K n 14 [v0, .inl (true, z), v2, v3] (.inl (true, z) :: k) s) := rfl
theorem rx_6_allows_14 {ns n ct R K s k z v0 v1 v2} : rn_6_allows ns ct R K (n + 1) 14 [v0, v1, v2, .inl (true, z)] k s = (rn_6_allows ns ct R K n 15 [v0, v1, v2, .inl (true, z)] (.inl (true, z) :: k) s) := rfl
theorem rx_6_allows_15 {ns n ct R K s L k a b x y} : rn_6_allows ns ct R K (n + 1) 15 L (.inl (b, y) :: .inl (a, x) :: k) s = (sy_ri a x ∧ sy_ri b y ∧ (y < x → rn_6_allows ns ct R K n 22 L k s) ∧ (¬ y < x → rn_6_allows ns ct R K n 18 L k s)) := rfl
theorem rx_6_allows_18 {ns n ct R K s L k} : rn_6_allows ns ct R K (n + 1) 18 L k s = (rn_6_allows ns ct R K n 19 L (.inl (true, 1) :: k) s) := rfl
theorem rx_6_allows_19 {ns n ct R K s L k} : rn_6_allows ns ct R K (n + 1) 19 L k s = (rn_6_allows ns ct R K n 23 L k s) := rfl
theorem rx_6_allows_22 {ns n ct R K s L k} : rn_6_allows ns ct R K (n + 1) 22 L k s = (rn_6_allows ns ct R K n 23 L (.inl (true, 0) :: k) s) := rfl
theorem rx_6_allows_23 {ns n ct R K s L a z} : rn_6_allows ns ct R K (n + 1) 23 L [.inl (a, z)] s = (sy_ri a z ∧ sy_b01 true z ∧ R (some (.inl (true, z))) s) := rfl
theorem rx_6_allows_24 {ns n ct R K s k z v1 v2 v3} : rn_6_allows ns ct R K (n + 1) 24 [.inr (.inr (some z)), v1, v2, v3] k s = (rn_6_allows ns ct R K n 25 [.inr (.inr (some z)), v1, v2, v3] (.inr (.inr (some z)) :: k) s) := rfl
theorem rx_6_allows_25 {ns n ct R K s L k a} : rn_6_allows ns ct R K (n + 1) 25 L (.inr (.inr (some (some a))) :: k) s = (sy_ob a = some 6 ∧ rn_6_allows ns ct R K n 28 L (sy_fv s a 5 :: k) s) := rfl
theorem rx_6_allows_28 {ns n ct R K s L k} : rn_6_allows ns ct R K (n + 1) 28 L k s = (rn_6_allows ns ct R K n 29 L (.inl (true, 2) :: k) s) := rfl
theorem rx_6_allows_29 {ns n ct R K s L k a b x y} : rn_6_allows ns ct R K (n + 1) 29 L (.inl (b, y) :: .inl (a, x) :: k) s = (sy_ri a x ∧ sy_ri b y ∧ (¬ x = y → rn_6_allows ns ct R K n 42 L k s) ∧ (x = y → rn_6_allows ns ct R K n 32 L k s)) := rfl
theorem rx_6_allows_32 {ns n ct R K s k z v0 v2 v3} : rn_6_allows ns ct R K (n + 1) 32 [v0, .inl (true, z), v2, v3] k s = (rn_6_allows ns ct R K n 33 [v0, .inl (true, z), v2, v3] (.inl (true, z) :: k) s) := rfl
theorem rx_6_allows_33 {ns n ct R K s k z v0 v1 v3} : rn_6_allows ns ct R K (n + 1) 33 [v0, v1, .inl (true, z), v3] k s = (rn_6_allows ns ct R K n 34 [v0, v1, .inl (true, z), v3] (.inl (true, z) :: k) s) := rfl
theorem rx_6_allows_34 {ns n ct R K s L k a b x y} : rn_6_allows ns ct R K (n + 1) 34 L (.inl (b, y) :: .inl (a, x) :: k) s = (sy_ri a x ∧ sy_ri b y ∧ (x ≤ y → rn_6_allows ns ct R K n 42 L k s) ∧ (¬ x ≤ y → rn_6_allows ns ct R K n 37 L k s)) := rfl
theorem rx_6_allows_37 {ns n ct R K s k z v0 v2 v3} : rn_6_allows ns ct R K (n + 1) 37 [v0, .inl (true, z), v2, v3] k s = (rn_6_allows ns ct R K n 38 [v0, .inl (true, z), v2, v3] (.inl (true, z) :: k) s) := rfl
theorem rx_6_allows_38 {ns n ct R K s k z v0 v1 v2} : rn_6_allows ns ct R K (n + 1) 38 [v0, v1, v2, .inl (true, z)] k s = (rn_6_allows ns ct R K n 39 [v0, v1, v2, .inl (true, z)] (.inl (true, z) :: k) s) := rfl
theorem rx_6_allows_39 {ns n ct R K s L k a b x y} : rn_6_allows ns ct R K (n + 1) 39 L (.inl (b, y) :: .inl (a, x) :: k) s = (sy_ri a x ∧ sy_ri b y ∧ (x < y → rn_6_allows ns ct R K n 46 L k s) ∧ (¬ x < y → rn_6_allows ns ct R K n 42 L k s)) := rfl
theorem rx_6_allows_42 {ns n ct R K s L k} : rn_6_allows ns ct R K (n + 1) 42 L k s = (rn_6_allows ns ct R K n 43 L (.inl (true, 1) :: k) s) := rfl
theorem rx_6_allows_43 {ns n ct R K s L k} : rn_6_allows ns ct R K (n + 1) 43 L k s = (rn_6_allows ns ct R K n 47 L k s) := rfl
theorem rx_6_allows_46 {ns n ct R K s L k} : rn_6_allows ns ct R K (n + 1) 46 L k s = (rn_6_allows ns ct R K n 47 L (.inl (true, 0) :: k) s) := rfl
theorem rx_6_allows_47 {ns n ct R K s L a z} : rn_6_allows ns ct R K (n + 1) 47 L [.inl (a, z)] s = (sy_ri a z ∧ sy_b01 true z ∧ R (some (.inl (true, z))) s) := rfl
def y_7_init : MethodName := ⟨"StarHide$Sites", "<init>", "()V"⟩
abbrev c_7_init : ByteArray := prog_9_method_1_code
def y_7_at : MethodName := ⟨"StarHide$Sites", "at", "(I)LStarHide$Site;"⟩
abbrev c_7_at : ByteArray := prog_9_method_2_code
def tc_7_at (pc : Nat) : Option sy_I := match pc with
  | 0 => some (.iload_n 1, 1, 0)
  | 1 => some (.ifCond .lt 17, 4, 18)
  | 4 => some (.iload_n 1, 5, 0)
  | 5 => some (.aload_n 0, 6, 0)
  | 6 => some (.getfield 21, 9, 0)
  | 9 => some (.if_icmp .ge 9, 12, 18)
  | 12 => some (.iload_n 1, 13, 0)
  | 13 => some (.bipush 16, 15, 0)
  | 15 => some (.if_icmp .lt 7, 18, 22)
  | 18 => some (.aconst_null, 19, 0)
  | 19 => some (.goto 9, 22, 28)
  | 22 => some (.aload_n 0, 23, 0)
  | 23 => some (.getfield 11, 26, 0)
  | 26 => some (.iload_n 1, 27, 0)
  | 27 => some (.aaload, 28, 0)
  | 28 => some (.areturn, 29, 0)
  | _ => none
theorem tv_7_at : ∀ pc i, sy_lk 29 tc_7_at pc = some i → sy_chk c_7_at (some (.object "StarHide$Site")) false pc i = true := sy_lk_ok 29 tc_7_at (by decide +kernel)
def Mk_7_at (ct : Nat → Option (Bool × Nat × sy_Sp)) : sy_M := (sy_lk 29 tc_7_at, ff_7, ki_7, kl_7, ct, false)
def rn_7_at (ns : Nat) (ct : Nat → Option (Bool × Nat × sy_Sp)) (R : sy_R) (K : sy_K) : Nat → sy_K := sy_run ns (Mk_7_at ct) [] R K
theorem rx_7_at_0 {ns n ct R K s k z v0} : rn_7_at ns ct R K (n + 1) 0 [v0, .inl (true, z)] k s = (rn_7_at ns ct R K n 1 [v0, .inl (true, z)] (.inl (true, z) :: k) s) := rfl
theorem rx_7_at_1 {ns n ct R K s L k a x} : rn_7_at ns ct R K (n + 1) 1 L (.inl (a, x) :: k) s = (sy_ri a x ∧ (x < 0 → rn_7_at ns ct R K n 18 L k s) ∧ (¬ x < 0 → rn_7_at ns ct R K n 4 L k s)) := rfl
theorem rx_7_at_4 {ns n ct R K s k z v0} : rn_7_at ns ct R K (n + 1) 4 [v0, .inl (true, z)] k s = (rn_7_at ns ct R K n 5 [v0, .inl (true, z)] (.inl (true, z) :: k) s) := rfl
theorem rx_7_at_5 {ns n ct R K s k z v1} : rn_7_at ns ct R K (n + 1) 5 [.inr (.inr (some z)), v1] k s = (rn_7_at ns ct R K n 6 [.inr (.inr (some z)), v1] (.inr (.inr (some z)) :: k) s) := rfl
theorem rx_7_at_6 {ns n ct R K s L k a} : rn_7_at ns ct R K (n + 1) 6 L (.inr (.inr (some (some a))) :: k) s = (sy_ob a = some 7 ∧ rn_7_at ns ct R K n 9 L (sy_fv s a 1 :: k) s) := rfl
theorem rx_7_at_9 {ns n ct R K s L k a b x y} : rn_7_at ns ct R K (n + 1) 9 L (.inl (b, y) :: .inl (a, x) :: k) s = (sy_ri a x ∧ sy_ri b y ∧ (y ≤ x → rn_7_at ns ct R K n 18 L k s) ∧ (¬ y ≤ x → rn_7_at ns ct R K n 12 L k s)) := rfl
theorem rx_7_at_12 {ns n ct R K s k z v0} : rn_7_at ns ct R K (n + 1) 12 [v0, .inl (true, z)] k s = (rn_7_at ns ct R K n 13 [v0, .inl (true, z)] (.inl (true, z) :: k) s) := rfl
theorem rx_7_at_13 {ns n ct R K s L k} : rn_7_at ns ct R K (n + 1) 13 L k s = (rn_7_at ns ct R K n 15 L (.inl (true, 16) :: k) s) := rfl
theorem rx_7_at_15 {ns n ct R K s L k a b x y} : rn_7_at ns ct R K (n + 1) 15 L (.inl (b, y) :: .inl (a, x) :: k) s = (sy_ri a x ∧ sy_ri b y ∧ (x < y → rn_7_at ns ct R K n 22 L k s) ∧ (¬ x < y → rn_7_at ns ct R K n 18 L k s)) := rfl
theorem rx_7_at_18 {ns n ct R K s L k} : rn_7_at ns ct R K (n + 1) 18 L k s = (rn_7_at ns ct R K n 19 L (.inr (.inr (some none)) :: k) s) := rfl
theorem rx_7_at_19 {ns n ct R K s L k} : rn_7_at ns ct R K (n + 1) 19 L k s = (rn_7_at ns ct R K n 28 L k s) := rfl
theorem rx_7_at_22 {ns n ct R K s k z v1} : rn_7_at ns ct R K (n + 1) 22 [.inr (.inr (some z)), v1] k s = (rn_7_at ns ct R K n 23 [.inr (.inr (some z)), v1] (.inr (.inr (some z)) :: k) s) := rfl
theorem rx_7_at_23 {ns n ct R K s L k a} : rn_7_at ns ct R K (n + 1) 23 L (.inr (.inr (some (some a))) :: k) s = (sy_ob a = some 7 ∧ rn_7_at ns ct R K n 26 L (sy_fv s a 0 :: k) s) := rfl
theorem rx_7_at_26 {ns n ct R K s k z v0} : rn_7_at ns ct R K (n + 1) 26 [v0, .inl (true, z)] k s = (rn_7_at ns ct R K n 27 [v0, .inl (true, z)] (.inl (true, z) :: k) s) := rfl
theorem rx_7_at_27 {ns n ct R K s L k a b z} : rn_7_at ns ct R K (n + 1) 27 L (.inl (b, z) :: .inr (.inr (some (some a))) :: k) s = ((0 ≤ z ∧ z < (sy_ar a).2) ∧ a = 2 ∧ (z < ns → rn_7_at ns ct R K n 28 L (.inr (.inr (some (some (sy_nS z.toNat)))) :: k) s) ∧ (¬ z < ns → rn_7_at ns ct R K n 28 L (.inr (.inr (some none)) :: k) s)) := rfl
theorem rx_7_at_28 {ns n ct R K s L z} : rn_7_at ns ct R K (n + 1) 28 L [.inr (.inr (some z))] s = (R (some (.inr (.inr (some z)))) s) := rfl
def y_7_add : MethodName := ⟨"StarHide$Sites", "add", "(II)I"⟩
abbrev c_7_add : ByteArray := prog_9_method_3_code
def y_7_howMany : MethodName := ⟨"StarHide$Sites", "howMany", "(I)I"⟩
abbrev c_7_howMany : ByteArray := prog_9_method_4_code
def tc_7_howMany (pc : Nat) : Option sy_I := match pc with
  | 0 => some (.iconst 0, 1, 0)
  | 1 => some (.istore_n 2, 2, 0)
  | 2 => some (.iconst 0, 3, 0)
  | 3 => some (.istore_n 3, 4, 0)
  | 4 => some (.iload_n 3, 5, 0)
  | 5 => some (.aload_n 0, 6, 0)
  | 6 => some (.getfield 21, 9, 0)
  | 9 => some (.if_icmp .ge 33, 12, 42)
  | 12 => some (.aload_n 0, 13, 0)
  | 13 => some (.iload_n 3, 14, 0)
  | 14 => some (.invokevirtual 31, 17, 0)
  | 17 => some (.astore 4, 19, 0)
  | 19 => some (.aload 4, 21, 0)
  | 21 => some (.ifnull 15, 24, 36)
  | 24 => some (.aload 4, 26, 0)
  | 26 => some (.getfield 35, 29, 0)
  | 29 => some (.iload_n 1, 30, 0)
  | 30 => some (.if_icmp .ne 6, 33, 36)
  | 33 => some (.iinc 2 1, 36, 0)
  | 36 => some (.iinc 3 1, 39, 0)
  | 39 => some (.goto (-35), 42, 4)
  | 42 => some (.iload_n 2, 43, 0)
  | 43 => some (.ireturn, 44, 0)
  | _ => none
theorem tv_7_howMany : ∀ pc i, sy_lk 44 tc_7_howMany pc = some i → sy_chk c_7_howMany (some .int) false pc i = true := sy_lk_ok 44 tc_7_howMany (by decide +kernel)
def Mk_7_howMany (ct : Nat → Option (Bool × Nat × sy_Sp)) : sy_M := (sy_lk 44 tc_7_howMany, ff_7, ki_7, kl_7, ct, false)
def rn_7_howMany (ns : Nat) (ct : Nat → Option (Bool × Nat × sy_Sp)) (R : sy_R) (K : sy_K) : Nat → sy_K := sy_run ns (Mk_7_howMany ct) [4] R K
theorem rx_7_howMany_0 {ns n ct R K s L k} : rn_7_howMany ns ct R K (n + 1) 0 L k s = (rn_7_howMany ns ct R K n 1 L (.inl (true, 0) :: k) s) := rfl
theorem rx_7_howMany_1 {ns n ct R K s L k b z} : rn_7_howMany ns ct R K (n + 1) 1 L (.inl (b, z) :: k) s = (sy_ri b z ∧ 2 < L.length ∧ rn_7_howMany ns ct R K n 2 (sy_sto L 2 (.inl (true, z))) k s) := rfl
theorem rx_7_howMany_2 {ns n ct R K s L k} : rn_7_howMany ns ct R K (n + 1) 2 L k s = (rn_7_howMany ns ct R K n 3 L (.inl (true, 0) :: k) s) := rfl
theorem rx_7_howMany_3 {ns n ct R K s L k b z} : rn_7_howMany ns ct R K (n + 1) 3 L (.inl (b, z) :: k) s = (sy_ri b z ∧ 3 < L.length ∧ K 4 (sy_sto L 3 (.inl (true, z))) k s) := rfl
theorem rx_7_howMany_4 {ns n ct R K s k z v0 v1 v2 v4} : rn_7_howMany ns ct R K (n + 1) 4 [v0, v1, v2, .inl (true, z), v4] k s = (rn_7_howMany ns ct R K n 5 [v0, v1, v2, .inl (true, z), v4] (.inl (true, z) :: k) s) := rfl
theorem rx_7_howMany_5 {ns n ct R K s k z v1 v2 v3 v4} : rn_7_howMany ns ct R K (n + 1) 5 [.inr (.inr (some z)), v1, v2, v3, v4] k s = (rn_7_howMany ns ct R K n 6 [.inr (.inr (some z)), v1, v2, v3, v4] (.inr (.inr (some z)) :: k) s) := rfl
theorem rx_7_howMany_6 {ns n ct R K s L k a} : rn_7_howMany ns ct R K (n + 1) 6 L (.inr (.inr (some (some a))) :: k) s = (sy_ob a = some 7 ∧ rn_7_howMany ns ct R K n 9 L (sy_fv s a 1 :: k) s) := rfl
theorem rx_7_howMany_9 {ns n ct R K s L k a b x y} : rn_7_howMany ns ct R K (n + 1) 9 L (.inl (b, y) :: .inl (a, x) :: k) s = (sy_ri a x ∧ sy_ri b y ∧ (y ≤ x → rn_7_howMany ns ct R K n 42 L k s) ∧ (¬ y ≤ x → rn_7_howMany ns ct R K n 12 L k s)) := rfl
theorem rx_7_howMany_12 {ns n ct R K s k z v1 v2 v3 v4} : rn_7_howMany ns ct R K (n + 1) 12 [.inr (.inr (some z)), v1, v2, v3, v4] k s = (rn_7_howMany ns ct R K n 13 [.inr (.inr (some z)), v1, v2, v3, v4] (.inr (.inr (some z)) :: k) s) := rfl
theorem rx_7_howMany_13 {ns n ct R K s k z v0 v1 v2 v4} : rn_7_howMany ns ct R K (n + 1) 13 [v0, v1, v2, .inl (true, z), v4] k s = (rn_7_howMany ns ct R K n 14 [v0, v1, v2, .inl (true, z), v4] (.inl (true, z) :: k) s) := rfl
theorem rx_7_howMany_14 {ns n ct R K s L k} : rn_7_howMany ns ct R K (n + 1) 14 L k s = (sy_call false (ct 31) k s fun r t => rn_7_howMany ns ct R K n 17 L r t) := rfl
theorem rx_7_howMany_17 {ns n ct R K s L k z} : rn_7_howMany ns ct R K (n + 1) 17 L (.inr (.inr (some z)) :: k) s = (4 < L.length ∧ rn_7_howMany ns ct R K n 19 (sy_sto L 4 (.inr (.inr (some z)))) k s) := rfl
theorem rx_7_howMany_19 {ns n ct R K s k z v0 v1 v2 v3} : rn_7_howMany ns ct R K (n + 1) 19 [v0, v1, v2, v3, .inr (.inr (some z))] k s = (rn_7_howMany ns ct R K n 21 [v0, v1, v2, v3, .inr (.inr (some z))] (.inr (.inr (some z)) :: k) s) := rfl
theorem rx_7_howMany_21_n {ns n ct R K s L k} : rn_7_howMany ns ct R K (n + 1) 21 L (.inr (.inr (some none)) :: k) s = (rn_7_howMany ns ct R K n 36 L k s) := rfl
theorem rx_7_howMany_21 {ns n ct R K s L k a} : rn_7_howMany ns ct R K (n + 1) 21 L (.inr (.inr (some (some a))) :: k) s = (rn_7_howMany ns ct R K n 24 L k s) := rfl
theorem rx_7_howMany_24 {ns n ct R K s k z v0 v1 v2 v3} : rn_7_howMany ns ct R K (n + 1) 24 [v0, v1, v2, v3, .inr (.inr (some z))] k s = (rn_7_howMany ns ct R K n 26 [v0, v1, v2, v3, .inr (.inr (some z))] (.inr (.inr (some z)) :: k) s) := rfl
theorem rx_7_howMany_26 {ns n ct R K s L k a} : rn_7_howMany ns ct R K (n + 1) 26 L (.inr (.inr (some (some a))) :: k) s = (sy_ob a = some 6 ∧ rn_7_howMany ns ct R K n 29 L (sy_fv s a 5 :: k) s) := rfl
theorem rx_7_howMany_29 {ns n ct R K s k z v0 v2 v3 v4} : rn_7_howMany ns ct R K (n + 1) 29 [v0, .inl (true, z), v2, v3, v4] k s = (rn_7_howMany ns ct R K n 30 [v0, .inl (true, z), v2, v3, v4] (.inl (true, z) :: k) s) := rfl
theorem rx_7_howMany_30 {ns n ct R K s L k a b x y} : rn_7_howMany ns ct R K (n + 1) 30 L (.inl (b, y) :: .inl (a, x) :: k) s = (sy_ri a x ∧ sy_ri b y ∧ (¬ x = y → rn_7_howMany ns ct R K n 36 L k s) ∧ (x = y → rn_7_howMany ns ct R K n 33 L k s)) := rfl
theorem rx_7_howMany_33 {ns n ct R K s k z v0 v1 v3 v4} : rn_7_howMany ns ct R K (n + 1) 33 [v0, v1, .inl (true, z), v3, v4] k s = ((-2147483648 ≤ z + 1 ∧ z + 1 < 2147483648) ∧ rn_7_howMany ns ct R K n 36 (sy_sto [v0, v1, .inl (true, z), v3, v4] 2 (.inl (true, z + 1))) k s) := rfl
theorem rx_7_howMany_36 {ns n ct R K s k z v0 v1 v2 v4} : rn_7_howMany ns ct R K (n + 1) 36 [v0, v1, v2, .inl (true, z), v4] k s = ((-2147483648 ≤ z + 1 ∧ z + 1 < 2147483648) ∧ rn_7_howMany ns ct R K n 39 (sy_sto [v0, v1, v2, .inl (true, z), v4] 3 (.inl (true, z + 1))) k s) := rfl
theorem rx_7_howMany_39 {ns n ct R K s L k} : rn_7_howMany ns ct R K (n + 1) 39 L k s = (K 4 L k s) := rfl
theorem rx_7_howMany_42 {ns n ct R K s k z v0 v1 v3 v4} : rn_7_howMany ns ct R K (n + 1) 42 [v0, v1, .inl (true, z), v3, v4] k s = (rn_7_howMany ns ct R K n 43 [v0, v1, .inl (true, z), v3, v4] (.inl (true, z) :: k) s) := rfl
theorem rx_7_howMany_43 {ns n ct R K s L a z} : rn_7_howMany ns ct R K (n + 1) 43 L [.inl (a, z)] s = (sy_ri a z ∧ sy_b01 false z ∧ R (some (.inl (true, z))) s) := rfl
def y_7_forgetWidths : MethodName := ⟨"StarHide$Sites", "forgetWidths", "()V"⟩
abbrev c_7_forgetWidths : ByteArray := prog_9_method_5_code
def tc_7_forgetWidths (pc : Nat) : Option sy_I := match pc with
  | 0 => some (.iconst 0, 1, 0)
  | 1 => some (.istore_n 1, 2, 0)
  | 2 => some (.iload_n 1, 3, 0)
  | 3 => some (.aload_n 0, 4, 0)
  | 4 => some (.getfield 21, 7, 0)
  | 7 => some (.if_icmp .ge 24, 10, 31)
  | 10 => some (.aload_n 0, 11, 0)
  | 11 => some (.iload_n 1, 12, 0)
  | 12 => some (.invokevirtual 31, 15, 0)
  | 15 => some (.astore_n 2, 16, 0)
  | 16 => some (.aload_n 2, 17, 0)
  | 17 => some (.ifnull 8, 20, 25)
  | 20 => some (.aload_n 2, 21, 0)
  | 21 => some (.iconst 0, 22, 0)
  | 22 => some (.putfield 38, 25, 0)
  | 25 => some (.iinc 1 1, 28, 0)
  | 28 => some (.goto (-26), 31, 2)
  | 31 => some (.return_, 32, 0)
  | _ => none
theorem tv_7_forgetWidths : ∀ pc i, sy_lk 32 tc_7_forgetWidths pc = some i → sy_chk c_7_forgetWidths none false pc i = true := sy_lk_ok 32 tc_7_forgetWidths (by decide +kernel)
def Mk_7_forgetWidths (ct : Nat → Option (Bool × Nat × sy_Sp)) : sy_M := (sy_lk 32 tc_7_forgetWidths, ff_7, ki_7, kl_7, ct, false)
def rn_7_forgetWidths (ns : Nat) (ct : Nat → Option (Bool × Nat × sy_Sp)) (R : sy_R) (K : sy_K) : Nat → sy_K := sy_run ns (Mk_7_forgetWidths ct) [2] R K
theorem rx_7_forgetWidths_0 {ns n ct R K s L k} : rn_7_forgetWidths ns ct R K (n + 1) 0 L k s = (rn_7_forgetWidths ns ct R K n 1 L (.inl (true, 0) :: k) s) := rfl
theorem rx_7_forgetWidths_1 {ns n ct R K s L k b z} : rn_7_forgetWidths ns ct R K (n + 1) 1 L (.inl (b, z) :: k) s = (sy_ri b z ∧ 1 < L.length ∧ K 2 (sy_sto L 1 (.inl (true, z))) k s) := rfl
theorem rx_7_forgetWidths_2 {ns n ct R K s k z v0 v2} : rn_7_forgetWidths ns ct R K (n + 1) 2 [v0, .inl (true, z), v2] k s = (rn_7_forgetWidths ns ct R K n 3 [v0, .inl (true, z), v2] (.inl (true, z) :: k) s) := rfl
theorem rx_7_forgetWidths_3 {ns n ct R K s k z v1 v2} : rn_7_forgetWidths ns ct R K (n + 1) 3 [.inr (.inr (some z)), v1, v2] k s = (rn_7_forgetWidths ns ct R K n 4 [.inr (.inr (some z)), v1, v2] (.inr (.inr (some z)) :: k) s) := rfl
theorem rx_7_forgetWidths_4 {ns n ct R K s L k a} : rn_7_forgetWidths ns ct R K (n + 1) 4 L (.inr (.inr (some (some a))) :: k) s = (sy_ob a = some 7 ∧ rn_7_forgetWidths ns ct R K n 7 L (sy_fv s a 1 :: k) s) := rfl
theorem rx_7_forgetWidths_7 {ns n ct R K s L k a b x y} : rn_7_forgetWidths ns ct R K (n + 1) 7 L (.inl (b, y) :: .inl (a, x) :: k) s = (sy_ri a x ∧ sy_ri b y ∧ (y ≤ x → rn_7_forgetWidths ns ct R K n 31 L k s) ∧ (¬ y ≤ x → rn_7_forgetWidths ns ct R K n 10 L k s)) := rfl
theorem rx_7_forgetWidths_10 {ns n ct R K s k z v1 v2} : rn_7_forgetWidths ns ct R K (n + 1) 10 [.inr (.inr (some z)), v1, v2] k s = (rn_7_forgetWidths ns ct R K n 11 [.inr (.inr (some z)), v1, v2] (.inr (.inr (some z)) :: k) s) := rfl
theorem rx_7_forgetWidths_11 {ns n ct R K s k z v0 v2} : rn_7_forgetWidths ns ct R K (n + 1) 11 [v0, .inl (true, z), v2] k s = (rn_7_forgetWidths ns ct R K n 12 [v0, .inl (true, z), v2] (.inl (true, z) :: k) s) := rfl
theorem rx_7_forgetWidths_12 {ns n ct R K s L k} : rn_7_forgetWidths ns ct R K (n + 1) 12 L k s = (sy_call false (ct 31) k s fun r t => rn_7_forgetWidths ns ct R K n 15 L r t) := rfl
theorem rx_7_forgetWidths_15 {ns n ct R K s L k z} : rn_7_forgetWidths ns ct R K (n + 1) 15 L (.inr (.inr (some z)) :: k) s = (2 < L.length ∧ rn_7_forgetWidths ns ct R K n 16 (sy_sto L 2 (.inr (.inr (some z)))) k s) := rfl
theorem rx_7_forgetWidths_16 {ns n ct R K s k z v0 v1} : rn_7_forgetWidths ns ct R K (n + 1) 16 [v0, v1, .inr (.inr (some z))] k s = (rn_7_forgetWidths ns ct R K n 17 [v0, v1, .inr (.inr (some z))] (.inr (.inr (some z)) :: k) s) := rfl
theorem rx_7_forgetWidths_17_n {ns n ct R K s L k} : rn_7_forgetWidths ns ct R K (n + 1) 17 L (.inr (.inr (some none)) :: k) s = (rn_7_forgetWidths ns ct R K n 25 L k s) := rfl
theorem rx_7_forgetWidths_17 {ns n ct R K s L k a} : rn_7_forgetWidths ns ct R K (n + 1) 17 L (.inr (.inr (some (some a))) :: k) s = (rn_7_forgetWidths ns ct R K n 20 L k s) := rfl
theorem rx_7_forgetWidths_20 {ns n ct R K s k z v0 v1} : rn_7_forgetWidths ns ct R K (n + 1) 20 [v0, v1, .inr (.inr (some z))] k s = (rn_7_forgetWidths ns ct R K n 21 [v0, v1, .inr (.inr (some z))] (.inr (.inr (some z)) :: k) s) := rfl
theorem rx_7_forgetWidths_21 {ns n ct R K s L k} : rn_7_forgetWidths ns ct R K (n + 1) 21 L k s = (rn_7_forgetWidths ns ct R K n 22 L (.inl (true, 0) :: k) s) := rfl
theorem rx_7_forgetWidths_22 {ns n ct R K s L k a b z} : rn_7_forgetWidths ns ct R K (n + 1) 22 L (.inl (b, z) :: .inr (.inr (some (some a))) :: k) s = (sy_ob a = some 6 ∧ sy_ri b z ∧ sy_b01 true z ∧ rn_7_forgetWidths ns ct R K n 25 L k (sy_up s a 3 z)) := rfl
theorem rx_7_forgetWidths_25 {ns n ct R K s k z v0 v2} : rn_7_forgetWidths ns ct R K (n + 1) 25 [v0, .inl (true, z), v2] k s = ((-2147483648 ≤ z + 1 ∧ z + 1 < 2147483648) ∧ rn_7_forgetWidths ns ct R K n 28 (sy_sto [v0, .inl (true, z), v2] 1 (.inl (true, z + 1))) k s) := rfl
theorem rx_7_forgetWidths_28 {ns n ct R K s L k} : rn_7_forgetWidths ns ct R K (n + 1) 28 L k s = (K 2 L k s) := rfl
theorem rx_7_forgetWidths_31 {ns n ct R K s L} : rn_7_forgetWidths ns ct R K (n + 1) 31 L [] s = (R none s) := rfl
def y_7_isTaken : MethodName := ⟨"StarHide$Sites", "isTaken", "(I)Z"⟩
abbrev c_7_isTaken : ByteArray := prog_9_method_6_code
def tc_7_isTaken (pc : Nat) : Option sy_I := match pc with
  | 0 => some (.iconst 0, 1, 0)
  | 1 => some (.istore_n 2, 2, 0)
  | 2 => some (.iload_n 2, 3, 0)
  | 3 => some (.aload_n 0, 4, 0)
  | 4 => some (.getfield 21, 7, 0)
  | 7 => some (.if_icmp .ge 29, 10, 36)
  | 10 => some (.aload_n 0, 11, 0)
  | 11 => some (.iload_n 2, 12, 0)
  | 12 => some (.invokevirtual 31, 15, 0)
  | 15 => some (.astore_n 3, 16, 0)
  | 16 => some (.aload_n 3, 17, 0)
  | 17 => some (.ifnull 13, 20, 30)
  | 20 => some (.aload_n 3, 21, 0)
  | 21 => some (.getfield 42, 24, 0)
  | 24 => some (.iload_n 1, 25, 0)
  | 25 => some (.if_icmp .ne 5, 28, 30)
  | 28 => some (.iconst 1, 29, 0)
  | 29 => some (.ireturn, 30, 0)
  | 30 => some (.iinc 2 1, 33, 0)
  | 33 => some (.goto (-31), 36, 2)
  | 36 => some (.iconst 0, 37, 0)
  | 37 => some (.ireturn, 38, 0)
  | _ => none
theorem tv_7_isTaken : ∀ pc i, sy_lk 38 tc_7_isTaken pc = some i → sy_chk c_7_isTaken (some .boolean) true pc i = true := sy_lk_ok 38 tc_7_isTaken (by decide +kernel)
def Mk_7_isTaken (ct : Nat → Option (Bool × Nat × sy_Sp)) : sy_M := (sy_lk 38 tc_7_isTaken, ff_7, ki_7, kl_7, ct, true)
def rn_7_isTaken (ns : Nat) (ct : Nat → Option (Bool × Nat × sy_Sp)) (R : sy_R) (K : sy_K) : Nat → sy_K := sy_run ns (Mk_7_isTaken ct) [2] R K
theorem rx_7_isTaken_0 {ns n ct R K s L k} : rn_7_isTaken ns ct R K (n + 1) 0 L k s = (rn_7_isTaken ns ct R K n 1 L (.inl (true, 0) :: k) s) := rfl
theorem rx_7_isTaken_1 {ns n ct R K s L k b z} : rn_7_isTaken ns ct R K (n + 1) 1 L (.inl (b, z) :: k) s = (sy_ri b z ∧ 2 < L.length ∧ K 2 (sy_sto L 2 (.inl (true, z))) k s) := rfl
theorem rx_7_isTaken_2 {ns n ct R K s k z v0 v1 v3} : rn_7_isTaken ns ct R K (n + 1) 2 [v0, v1, .inl (true, z), v3] k s = (rn_7_isTaken ns ct R K n 3 [v0, v1, .inl (true, z), v3] (.inl (true, z) :: k) s) := rfl
theorem rx_7_isTaken_3 {ns n ct R K s k z v1 v2 v3} : rn_7_isTaken ns ct R K (n + 1) 3 [.inr (.inr (some z)), v1, v2, v3] k s = (rn_7_isTaken ns ct R K n 4 [.inr (.inr (some z)), v1, v2, v3] (.inr (.inr (some z)) :: k) s) := rfl
theorem rx_7_isTaken_4 {ns n ct R K s L k a} : rn_7_isTaken ns ct R K (n + 1) 4 L (.inr (.inr (some (some a))) :: k) s = (sy_ob a = some 7 ∧ rn_7_isTaken ns ct R K n 7 L (sy_fv s a 1 :: k) s) := rfl
theorem rx_7_isTaken_7 {ns n ct R K s L k a b x y} : rn_7_isTaken ns ct R K (n + 1) 7 L (.inl (b, y) :: .inl (a, x) :: k) s = (sy_ri a x ∧ sy_ri b y ∧ (y ≤ x → rn_7_isTaken ns ct R K n 36 L k s) ∧ (¬ y ≤ x → rn_7_isTaken ns ct R K n 10 L k s)) := rfl
theorem rx_7_isTaken_10 {ns n ct R K s k z v1 v2 v3} : rn_7_isTaken ns ct R K (n + 1) 10 [.inr (.inr (some z)), v1, v2, v3] k s = (rn_7_isTaken ns ct R K n 11 [.inr (.inr (some z)), v1, v2, v3] (.inr (.inr (some z)) :: k) s) := rfl
theorem rx_7_isTaken_11 {ns n ct R K s k z v0 v1 v3} : rn_7_isTaken ns ct R K (n + 1) 11 [v0, v1, .inl (true, z), v3] k s = (rn_7_isTaken ns ct R K n 12 [v0, v1, .inl (true, z), v3] (.inl (true, z) :: k) s) := rfl
theorem rx_7_isTaken_12 {ns n ct R K s L k} : rn_7_isTaken ns ct R K (n + 1) 12 L k s = (sy_call false (ct 31) k s fun r t => rn_7_isTaken ns ct R K n 15 L r t) := rfl
theorem rx_7_isTaken_15 {ns n ct R K s L k z} : rn_7_isTaken ns ct R K (n + 1) 15 L (.inr (.inr (some z)) :: k) s = (3 < L.length ∧ rn_7_isTaken ns ct R K n 16 (sy_sto L 3 (.inr (.inr (some z)))) k s) := rfl
theorem rx_7_isTaken_16 {ns n ct R K s k z v0 v1 v2} : rn_7_isTaken ns ct R K (n + 1) 16 [v0, v1, v2, .inr (.inr (some z))] k s = (rn_7_isTaken ns ct R K n 17 [v0, v1, v2, .inr (.inr (some z))] (.inr (.inr (some z)) :: k) s) := rfl
theorem rx_7_isTaken_17_n {ns n ct R K s L k} : rn_7_isTaken ns ct R K (n + 1) 17 L (.inr (.inr (some none)) :: k) s = (rn_7_isTaken ns ct R K n 30 L k s) := rfl
theorem rx_7_isTaken_17 {ns n ct R K s L k a} : rn_7_isTaken ns ct R K (n + 1) 17 L (.inr (.inr (some (some a))) :: k) s = (rn_7_isTaken ns ct R K n 20 L k s) := rfl
theorem rx_7_isTaken_20 {ns n ct R K s k z v0 v1 v2} : rn_7_isTaken ns ct R K (n + 1) 20 [v0, v1, v2, .inr (.inr (some z))] k s = (rn_7_isTaken ns ct R K n 21 [v0, v1, v2, .inr (.inr (some z))] (.inr (.inr (some z)) :: k) s) := rfl
theorem rx_7_isTaken_21 {ns n ct R K s L k a} : rn_7_isTaken ns ct R K (n + 1) 21 L (.inr (.inr (some (some a))) :: k) s = (sy_ob a = some 6 ∧ rn_7_isTaken ns ct R K n 24 L (sy_fv s a 0 :: k) s) := rfl
theorem rx_7_isTaken_24 {ns n ct R K s k z v0 v2 v3} : rn_7_isTaken ns ct R K (n + 1) 24 [v0, .inl (true, z), v2, v3] k s = (rn_7_isTaken ns ct R K n 25 [v0, .inl (true, z), v2, v3] (.inl (true, z) :: k) s) := rfl
theorem rx_7_isTaken_25 {ns n ct R K s L k a b x y} : rn_7_isTaken ns ct R K (n + 1) 25 L (.inl (b, y) :: .inl (a, x) :: k) s = (sy_ri a x ∧ sy_ri b y ∧ (¬ x = y → rn_7_isTaken ns ct R K n 30 L k s) ∧ (x = y → rn_7_isTaken ns ct R K n 28 L k s)) := rfl
theorem rx_7_isTaken_28 {ns n ct R K s L k} : rn_7_isTaken ns ct R K (n + 1) 28 L k s = (rn_7_isTaken ns ct R K n 29 L (.inl (true, 1) :: k) s) := rfl
theorem rx_7_isTaken_29 {ns n ct R K s L a z} : rn_7_isTaken ns ct R K (n + 1) 29 L [.inl (a, z)] s = (sy_ri a z ∧ sy_b01 true z ∧ R (some (.inl (true, z))) s) := rfl
theorem rx_7_isTaken_30 {ns n ct R K s k z v0 v1 v3} : rn_7_isTaken ns ct R K (n + 1) 30 [v0, v1, .inl (true, z), v3] k s = ((-2147483648 ≤ z + 1 ∧ z + 1 < 2147483648) ∧ rn_7_isTaken ns ct R K n 33 (sy_sto [v0, v1, .inl (true, z), v3] 2 (.inl (true, z + 1))) k s) := rfl
theorem rx_7_isTaken_33 {ns n ct R K s L k} : rn_7_isTaken ns ct R K (n + 1) 33 L k s = (K 2 L k s) := rfl
theorem rx_7_isTaken_36 {ns n ct R K s L k} : rn_7_isTaken ns ct R K (n + 1) 36 L k s = (rn_7_isTaken ns ct R K n 37 L (.inl (true, 0) :: k) s) := rfl
theorem rx_7_isTaken_37 {ns n ct R K s L a z} : rn_7_isTaken ns ct R K (n + 1) 37 L [.inl (a, z)] s = (sy_ri a z ∧ sy_b01 true z ∧ R (some (.inl (true, z))) s) := rfl
def y_8_init : MethodName := ⟨"StarHide", "<init>", "()V"⟩
abbrev c_8_init : ByteArray := prog_1_method_1_code
def y_8_speed : MethodName := ⟨"StarHide", "speed", "(I)I"⟩
abbrev c_8_speed : ByteArray := prog_1_method_2_code
def tc_8_speed (pc : Nat) : Option sy_I := match pc with
  | 0 => some (.iload_n 1, 1, 0)
  | 1 => some (.iconst 1, 2, 0)
  | 2 => some (.bipush 10, 4, 0)
  | 4 => some (.invokestatic 55, 7, 0)
  | 7 => some (.ifCond .ne 5, 10, 12)
  | 10 => some (.iconst (-1), 11, 0)
  | 11 => some (.ireturn, 12, 0)
  | 12 => some (.aload_n 0, 13, 0)
  | 13 => some (.getfield 10, 16, 0)
  | 16 => some (.getfield 59, 19, 0)
  | 19 => some (.istore_n 2, 20, 0)
  | 20 => some (.aload_n 0, 21, 0)
  | 21 => some (.getfield 10, 24, 0)
  | 24 => some (.iload_n 1, 25, 0)
  | 25 => some (.putfield 59, 28, 0)
  | 28 => some (.aload_n 0, 29, 0)
  | 29 => some (.getfield 28, 32, 0)
  | 32 => some (.invokevirtual 63, 35, 0)
  | 35 => some (.aload_n 0, 36, 0)
  | 36 => some (.getfield 37, 39, 0)
  | 39 => some (.invokevirtual 66, 42, 0)
  | 42 => some (.iload_n 2, 43, 0)
  | 43 => some (.ireturn, 44, 0)
  | _ => none
theorem tv_8_speed : ∀ pc i, sy_lk 44 tc_8_speed pc = some i → sy_chk c_8_speed (some .int) false pc i = true := sy_lk_ok 44 tc_8_speed (by decide +kernel)
def Mk_8_speed (ct : Nat → Option (Bool × Nat × sy_Sp)) : sy_M := (sy_lk 44 tc_8_speed, ff_8, ki_8, kl_8, ct, false)
def rn_8_speed (ns : Nat) (ct : Nat → Option (Bool × Nat × sy_Sp)) (R : sy_R) (K : sy_K) : Nat → sy_K := sy_run ns (Mk_8_speed ct) [] R K
theorem rx_8_speed_0 {ns n ct R K s k z v0 v2} : rn_8_speed ns ct R K (n + 1) 0 [v0, .inl (true, z), v2] k s = (rn_8_speed ns ct R K n 1 [v0, .inl (true, z), v2] (.inl (true, z) :: k) s) := rfl
theorem rx_8_speed_1 {ns n ct R K s L k} : rn_8_speed ns ct R K (n + 1) 1 L k s = (rn_8_speed ns ct R K n 2 L (.inl (true, 1) :: k) s) := rfl
theorem rx_8_speed_2 {ns n ct R K s L k} : rn_8_speed ns ct R K (n + 1) 2 L k s = (rn_8_speed ns ct R K n 4 L (.inl (true, 10) :: k) s) := rfl
theorem rx_8_speed_4 {ns n ct R K s L k} : rn_8_speed ns ct R K (n + 1) 4 L k s = (sy_call true (ct 55) k s fun r t => rn_8_speed ns ct R K n 7 L r t) := rfl
theorem rx_8_speed_7 {ns n ct R K s L k a x} : rn_8_speed ns ct R K (n + 1) 7 L (.inl (a, x) :: k) s = (sy_ri a x ∧ (¬ x = 0 → rn_8_speed ns ct R K n 12 L k s) ∧ (x = 0 → rn_8_speed ns ct R K n 10 L k s)) := rfl
theorem rx_8_speed_10 {ns n ct R K s L k} : rn_8_speed ns ct R K (n + 1) 10 L k s = (rn_8_speed ns ct R K n 11 L (.inl (true, (-1)) :: k) s) := rfl
theorem rx_8_speed_11 {ns n ct R K s L a z} : rn_8_speed ns ct R K (n + 1) 11 L [.inl (a, z)] s = (sy_ri a z ∧ sy_b01 false z ∧ R (some (.inl (true, z))) s) := rfl
theorem rx_8_speed_12 {ns n ct R K s k z v1 v2} : rn_8_speed ns ct R K (n + 1) 12 [.inr (.inr (some z)), v1, v2] k s = (rn_8_speed ns ct R K n 13 [.inr (.inr (some z)), v1, v2] (.inr (.inr (some z)) :: k) s) := rfl
theorem rx_8_speed_13 {ns n ct R K s L k a} : rn_8_speed ns ct R K (n + 1) 13 L (.inr (.inr (some (some a))) :: k) s = (sy_ob a = some 8 ∧ rn_8_speed ns ct R K n 16 L (sy_fv s a 0 :: k) s) := rfl
theorem rx_8_speed_16 {ns n ct R K s L k a} : rn_8_speed ns ct R K (n + 1) 16 L (.inr (.inr (some (some a))) :: k) s = (sy_ob a = some 7 ∧ rn_8_speed ns ct R K n 19 L (sy_fv s a 2 :: k) s) := rfl
theorem rx_8_speed_19 {ns n ct R K s L k b z} : rn_8_speed ns ct R K (n + 1) 19 L (.inl (b, z) :: k) s = (sy_ri b z ∧ 2 < L.length ∧ rn_8_speed ns ct R K n 20 (sy_sto L 2 (.inl (true, z))) k s) := rfl
theorem rx_8_speed_20 {ns n ct R K s k z v1 v2} : rn_8_speed ns ct R K (n + 1) 20 [.inr (.inr (some z)), v1, v2] k s = (rn_8_speed ns ct R K n 21 [.inr (.inr (some z)), v1, v2] (.inr (.inr (some z)) :: k) s) := rfl
theorem rx_8_speed_21 {ns n ct R K s L k a} : rn_8_speed ns ct R K (n + 1) 21 L (.inr (.inr (some (some a))) :: k) s = (sy_ob a = some 8 ∧ rn_8_speed ns ct R K n 24 L (sy_fv s a 0 :: k) s) := rfl
theorem rx_8_speed_24 {ns n ct R K s k z v0 v2} : rn_8_speed ns ct R K (n + 1) 24 [v0, .inl (true, z), v2] k s = (rn_8_speed ns ct R K n 25 [v0, .inl (true, z), v2] (.inl (true, z) :: k) s) := rfl
theorem rx_8_speed_25 {ns n ct R K s L k a b z} : rn_8_speed ns ct R K (n + 1) 25 L (.inl (b, z) :: .inr (.inr (some (some a))) :: k) s = (sy_ob a = some 7 ∧ sy_ri b z ∧ sy_b01 false z ∧ rn_8_speed ns ct R K n 28 L k (sy_up s a 2 z)) := rfl
theorem rx_8_speed_28 {ns n ct R K s k z v1 v2} : rn_8_speed ns ct R K (n + 1) 28 [.inr (.inr (some z)), v1, v2] k s = (rn_8_speed ns ct R K n 29 [.inr (.inr (some z)), v1, v2] (.inr (.inr (some z)) :: k) s) := rfl
theorem rx_8_speed_29 {ns n ct R K s L k a} : rn_8_speed ns ct R K (n + 1) 29 L (.inr (.inr (some (some a))) :: k) s = (sy_ob a = some 8 ∧ rn_8_speed ns ct R K n 32 L (sy_fv s a 2 :: k) s) := rfl
theorem rx_8_speed_32 {ns n ct R K s L k} : rn_8_speed ns ct R K (n + 1) 32 L k s = (sy_call false (ct 63) k s fun r t => rn_8_speed ns ct R K n 35 L r t) := rfl
theorem rx_8_speed_35 {ns n ct R K s k z v1 v2} : rn_8_speed ns ct R K (n + 1) 35 [.inr (.inr (some z)), v1, v2] k s = (rn_8_speed ns ct R K n 36 [.inr (.inr (some z)), v1, v2] (.inr (.inr (some z)) :: k) s) := rfl
theorem rx_8_speed_36 {ns n ct R K s L k a} : rn_8_speed ns ct R K (n + 1) 36 L (.inr (.inr (some (some a))) :: k) s = (sy_ob a = some 8 ∧ rn_8_speed ns ct R K n 39 L (sy_fv s a 3 :: k) s) := rfl
theorem rx_8_speed_39 {ns n ct R K s L k} : rn_8_speed ns ct R K (n + 1) 39 L k s = (sy_call false (ct 66) k s fun r t => rn_8_speed ns ct R K n 42 L r t) := rfl
theorem rx_8_speed_42 {ns n ct R K s k z v0 v1} : rn_8_speed ns ct R K (n + 1) 42 [v0, v1, .inl (true, z)] k s = (rn_8_speed ns ct R K n 43 [v0, v1, .inl (true, z)] (.inl (true, z) :: k) s) := rfl
theorem rx_8_speed_43 {ns n ct R K s L a z} : rn_8_speed ns ct R K (n + 1) 43 L [.inl (a, z)] s = (sy_ri a z ∧ sy_b01 false z ∧ R (some (.inl (true, z))) s) := rfl
def y_8_site : MethodName := ⟨"StarHide", "site", "(II)I"⟩
abbrev c_8_site : ByteArray := prog_1_method_3_code
def tc_8_site (pc : Nat) : Option sy_I := match pc with
  | 0 => some (.iload_n 1, 1, 0)
  | 1 => some (.invokestatic 69, 4, 0)
  | 4 => some (.ifCond .eq 16, 7, 20)
  | 7 => some (.iload_n 2, 8, 0)
  | 8 => some (.sipush (-5000), 11, 0)
  | 11 => some (.sipush 5000, 14, 0)
  | 14 => some (.invokestatic 55, 17, 0)
  | 17 => some (.ifCond .ne 5, 20, 22)
  | 20 => some (.iconst (-1), 21, 0)
  | 21 => some (.ireturn, 22, 0)
  | 22 => some (.aload_n 0, 23, 0)
  | 23 => some (.getfield 10, 26, 0)
  | 26 => some (.iload_n 1, 27, 0)
  | 27 => some (.iload_n 2, 28, 0)
  | 28 => some (.invokevirtual 73, 31, 0)
  | 31 => some (.ireturn, 32, 0)
  | _ => none
theorem tv_8_site : ∀ pc i, sy_lk 32 tc_8_site pc = some i → sy_chk c_8_site (some .int) false pc i = true := sy_lk_ok 32 tc_8_site (by decide +kernel)
def Mk_8_site (ct : Nat → Option (Bool × Nat × sy_Sp)) : sy_M := (sy_lk 32 tc_8_site, ff_8, ki_8, kl_8, ct, false)
def rn_8_site (ns : Nat) (ct : Nat → Option (Bool × Nat × sy_Sp)) (R : sy_R) (K : sy_K) : Nat → sy_K := sy_run ns (Mk_8_site ct) [] R K
theorem rx_8_site_0 {ns n ct R K s k z v0 v2} : rn_8_site ns ct R K (n + 1) 0 [v0, .inl (true, z), v2] k s = (rn_8_site ns ct R K n 1 [v0, .inl (true, z), v2] (.inl (true, z) :: k) s) := rfl
theorem rx_8_site_1 {ns n ct R K s L k} : rn_8_site ns ct R K (n + 1) 1 L k s = (sy_call true (ct 69) k s fun r t => rn_8_site ns ct R K n 4 L r t) := rfl
theorem rx_8_site_4 {ns n ct R K s L k a x} : rn_8_site ns ct R K (n + 1) 4 L (.inl (a, x) :: k) s = (sy_ri a x ∧ (x = 0 → rn_8_site ns ct R K n 20 L k s) ∧ (¬ x = 0 → rn_8_site ns ct R K n 7 L k s)) := rfl
theorem rx_8_site_7 {ns n ct R K s k z v0 v1} : rn_8_site ns ct R K (n + 1) 7 [v0, v1, .inl (true, z)] k s = (rn_8_site ns ct R K n 8 [v0, v1, .inl (true, z)] (.inl (true, z) :: k) s) := rfl
theorem rx_8_site_8 {ns n ct R K s L k} : rn_8_site ns ct R K (n + 1) 8 L k s = (rn_8_site ns ct R K n 11 L (.inl (true, (-5000)) :: k) s) := rfl
theorem rx_8_site_11 {ns n ct R K s L k} : rn_8_site ns ct R K (n + 1) 11 L k s = (rn_8_site ns ct R K n 14 L (.inl (true, 5000) :: k) s) := rfl
theorem rx_8_site_14 {ns n ct R K s L k} : rn_8_site ns ct R K (n + 1) 14 L k s = (sy_call true (ct 55) k s fun r t => rn_8_site ns ct R K n 17 L r t) := rfl
theorem rx_8_site_17 {ns n ct R K s L k a x} : rn_8_site ns ct R K (n + 1) 17 L (.inl (a, x) :: k) s = (sy_ri a x ∧ (¬ x = 0 → rn_8_site ns ct R K n 22 L k s) ∧ (x = 0 → rn_8_site ns ct R K n 20 L k s)) := rfl
theorem rx_8_site_20 {ns n ct R K s L k} : rn_8_site ns ct R K (n + 1) 20 L k s = (rn_8_site ns ct R K n 21 L (.inl (true, (-1)) :: k) s) := rfl
theorem rx_8_site_21 {ns n ct R K s L a z} : rn_8_site ns ct R K (n + 1) 21 L [.inl (a, z)] s = (sy_ri a z ∧ sy_b01 false z ∧ R (some (.inl (true, z))) s) := rfl
theorem rx_8_site_22 {ns n ct R K s k z v1 v2} : rn_8_site ns ct R K (n + 1) 22 [.inr (.inr (some z)), v1, v2] k s = (rn_8_site ns ct R K n 23 [.inr (.inr (some z)), v1, v2] (.inr (.inr (some z)) :: k) s) := rfl
theorem rx_8_site_23 {ns n ct R K s L k a} : rn_8_site ns ct R K (n + 1) 23 L (.inr (.inr (some (some a))) :: k) s = (sy_ob a = some 8 ∧ rn_8_site ns ct R K n 26 L (sy_fv s a 0 :: k) s) := rfl
theorem rx_8_site_26 {ns n ct R K s k z v0 v2} : rn_8_site ns ct R K (n + 1) 26 [v0, .inl (true, z), v2] k s = (rn_8_site ns ct R K n 27 [v0, .inl (true, z), v2] (.inl (true, z) :: k) s) := rfl
theorem rx_8_site_27 {ns n ct R K s k z v0 v1} : rn_8_site ns ct R K (n + 1) 27 [v0, v1, .inl (true, z)] k s = (rn_8_site ns ct R K n 28 [v0, v1, .inl (true, z)] (.inl (true, z) :: k) s) := rfl
theorem rx_8_site_28 {ns n ct R K s L k} : rn_8_site ns ct R K (n + 1) 28 L k s = (sy_call false (ct 73) k s fun r t => rn_8_site ns ct R K n 31 L r t) := rfl
theorem rx_8_site_31 {ns n ct R K s L a z} : rn_8_site ns ct R K (n + 1) 31 L [.inl (a, z)] s = (sy_ri a z ∧ sy_b01 false z ∧ R (some (.inl (true, z))) s) := rfl
def y_8_ahead : MethodName := ⟨"StarHide", "ahead", "(II)I"⟩
abbrev c_8_ahead : ByteArray := prog_1_method_4_code
def tc_8_ahead (pc : Nat) : Option sy_I := match pc with
  | 0 => some (.aload_n 0, 1, 0)
  | 1 => some (.getfield 10, 4, 0)
  | 4 => some (.iload_n 1, 5, 0)
  | 5 => some (.invokevirtual 77, 8, 0)
  | 8 => some (.astore_n 3, 9, 0)
  | 9 => some (.aload_n 3, 10, 0)
  | 10 => some (.ifnull 14, 13, 24)
  | 13 => some (.iload_n 2, 14, 0)
  | 14 => some (.bipush (-50), 16, 0)
  | 16 => some (.bipush 50, 18, 0)
  | 18 => some (.invokestatic 55, 21, 0)
  | 21 => some (.ifCond .ne 7, 24, 28)
  | 24 => some (.sipush (-1000), 27, 0)
  | 27 => some (.ireturn, 28, 0)
  | 28 => some (.aload_n 3, 29, 0)
  | 29 => some (.getfield 81, 32, 0)
  | 32 => some (.istore 4, 34, 0)
  | 34 => some (.aload_n 3, 35, 0)
  | 35 => some (.iload_n 2, 36, 0)
  | 36 => some (.putfield 81, 39, 0)
  | 39 => some (.aload_n 0, 40, 0)
  | 40 => some (.iload_n 1, 41, 0)
  | 41 => some (.invokevirtual 86, 44, 0)
  | 44 => some (.iload 4, 46, 0)
  | 46 => some (.ireturn, 47, 0)
  | _ => none
theorem tv_8_ahead : ∀ pc i, sy_lk 47 tc_8_ahead pc = some i → sy_chk c_8_ahead (some .int) false pc i = true := sy_lk_ok 47 tc_8_ahead (by decide +kernel)
def Mk_8_ahead (ct : Nat → Option (Bool × Nat × sy_Sp)) : sy_M := (sy_lk 47 tc_8_ahead, ff_8, ki_8, kl_8, ct, false)
def rn_8_ahead (ns : Nat) (ct : Nat → Option (Bool × Nat × sy_Sp)) (R : sy_R) (K : sy_K) : Nat → sy_K := sy_run ns (Mk_8_ahead ct) [] R K
theorem rx_8_ahead_0 {ns n ct R K s k z v1 v2 v3 v4} : rn_8_ahead ns ct R K (n + 1) 0 [.inr (.inr (some z)), v1, v2, v3, v4] k s = (rn_8_ahead ns ct R K n 1 [.inr (.inr (some z)), v1, v2, v3, v4] (.inr (.inr (some z)) :: k) s) := rfl
theorem rx_8_ahead_1 {ns n ct R K s L k a} : rn_8_ahead ns ct R K (n + 1) 1 L (.inr (.inr (some (some a))) :: k) s = (sy_ob a = some 8 ∧ rn_8_ahead ns ct R K n 4 L (sy_fv s a 0 :: k) s) := rfl
theorem rx_8_ahead_4 {ns n ct R K s k z v0 v2 v3 v4} : rn_8_ahead ns ct R K (n + 1) 4 [v0, .inl (true, z), v2, v3, v4] k s = (rn_8_ahead ns ct R K n 5 [v0, .inl (true, z), v2, v3, v4] (.inl (true, z) :: k) s) := rfl
theorem rx_8_ahead_5 {ns n ct R K s L k} : rn_8_ahead ns ct R K (n + 1) 5 L k s = (sy_call false (ct 77) k s fun r t => rn_8_ahead ns ct R K n 8 L r t) := rfl
theorem rx_8_ahead_8 {ns n ct R K s L k z} : rn_8_ahead ns ct R K (n + 1) 8 L (.inr (.inr (some z)) :: k) s = (3 < L.length ∧ rn_8_ahead ns ct R K n 9 (sy_sto L 3 (.inr (.inr (some z)))) k s) := rfl
theorem rx_8_ahead_9 {ns n ct R K s k z v0 v1 v2 v4} : rn_8_ahead ns ct R K (n + 1) 9 [v0, v1, v2, .inr (.inr (some z)), v4] k s = (rn_8_ahead ns ct R K n 10 [v0, v1, v2, .inr (.inr (some z)), v4] (.inr (.inr (some z)) :: k) s) := rfl
theorem rx_8_ahead_10_n {ns n ct R K s L k} : rn_8_ahead ns ct R K (n + 1) 10 L (.inr (.inr (some none)) :: k) s = (rn_8_ahead ns ct R K n 24 L k s) := rfl
theorem rx_8_ahead_10 {ns n ct R K s L k a} : rn_8_ahead ns ct R K (n + 1) 10 L (.inr (.inr (some (some a))) :: k) s = (rn_8_ahead ns ct R K n 13 L k s) := rfl
theorem rx_8_ahead_13 {ns n ct R K s k z v0 v1 v3 v4} : rn_8_ahead ns ct R K (n + 1) 13 [v0, v1, .inl (true, z), v3, v4] k s = (rn_8_ahead ns ct R K n 14 [v0, v1, .inl (true, z), v3, v4] (.inl (true, z) :: k) s) := rfl
theorem rx_8_ahead_14 {ns n ct R K s L k} : rn_8_ahead ns ct R K (n + 1) 14 L k s = (rn_8_ahead ns ct R K n 16 L (.inl (true, (-50)) :: k) s) := rfl
theorem rx_8_ahead_16 {ns n ct R K s L k} : rn_8_ahead ns ct R K (n + 1) 16 L k s = (rn_8_ahead ns ct R K n 18 L (.inl (true, 50) :: k) s) := rfl
theorem rx_8_ahead_18 {ns n ct R K s L k} : rn_8_ahead ns ct R K (n + 1) 18 L k s = (sy_call true (ct 55) k s fun r t => rn_8_ahead ns ct R K n 21 L r t) := rfl
theorem rx_8_ahead_21 {ns n ct R K s L k a x} : rn_8_ahead ns ct R K (n + 1) 21 L (.inl (a, x) :: k) s = (sy_ri a x ∧ (¬ x = 0 → rn_8_ahead ns ct R K n 28 L k s) ∧ (x = 0 → rn_8_ahead ns ct R K n 24 L k s)) := rfl
theorem rx_8_ahead_24 {ns n ct R K s L k} : rn_8_ahead ns ct R K (n + 1) 24 L k s = (rn_8_ahead ns ct R K n 27 L (.inl (true, (-1000)) :: k) s) := rfl
theorem rx_8_ahead_27 {ns n ct R K s L a z} : rn_8_ahead ns ct R K (n + 1) 27 L [.inl (a, z)] s = (sy_ri a z ∧ sy_b01 false z ∧ R (some (.inl (true, z))) s) := rfl
theorem rx_8_ahead_28 {ns n ct R K s k z v0 v1 v2 v4} : rn_8_ahead ns ct R K (n + 1) 28 [v0, v1, v2, .inr (.inr (some z)), v4] k s = (rn_8_ahead ns ct R K n 29 [v0, v1, v2, .inr (.inr (some z)), v4] (.inr (.inr (some z)) :: k) s) := rfl
theorem rx_8_ahead_29 {ns n ct R K s L k a} : rn_8_ahead ns ct R K (n + 1) 29 L (.inr (.inr (some (some a))) :: k) s = (sy_ob a = some 6 ∧ rn_8_ahead ns ct R K n 32 L (sy_fv s a 4 :: k) s) := rfl
theorem rx_8_ahead_32 {ns n ct R K s L k b z} : rn_8_ahead ns ct R K (n + 1) 32 L (.inl (b, z) :: k) s = (sy_ri b z ∧ 4 < L.length ∧ rn_8_ahead ns ct R K n 34 (sy_sto L 4 (.inl (true, z))) k s) := rfl
theorem rx_8_ahead_34 {ns n ct R K s k z v0 v1 v2 v4} : rn_8_ahead ns ct R K (n + 1) 34 [v0, v1, v2, .inr (.inr (some z)), v4] k s = (rn_8_ahead ns ct R K n 35 [v0, v1, v2, .inr (.inr (some z)), v4] (.inr (.inr (some z)) :: k) s) := rfl
theorem rx_8_ahead_35 {ns n ct R K s k z v0 v1 v3 v4} : rn_8_ahead ns ct R K (n + 1) 35 [v0, v1, .inl (true, z), v3, v4] k s = (rn_8_ahead ns ct R K n 36 [v0, v1, .inl (true, z), v3, v4] (.inl (true, z) :: k) s) := rfl
theorem rx_8_ahead_36 {ns n ct R K s L k a b z} : rn_8_ahead ns ct R K (n + 1) 36 L (.inl (b, z) :: .inr (.inr (some (some a))) :: k) s = (sy_ob a = some 6 ∧ sy_ri b z ∧ sy_b01 false z ∧ rn_8_ahead ns ct R K n 39 L k (sy_up s a 4 z)) := rfl
theorem rx_8_ahead_39 {ns n ct R K s k z v1 v2 v3 v4} : rn_8_ahead ns ct R K (n + 1) 39 [.inr (.inr (some z)), v1, v2, v3, v4] k s = (rn_8_ahead ns ct R K n 40 [.inr (.inr (some z)), v1, v2, v3, v4] (.inr (.inr (some z)) :: k) s) := rfl
theorem rx_8_ahead_40 {ns n ct R K s k z v0 v2 v3 v4} : rn_8_ahead ns ct R K (n + 1) 40 [v0, .inl (true, z), v2, v3, v4] k s = (rn_8_ahead ns ct R K n 41 [v0, .inl (true, z), v2, v3, v4] (.inl (true, z) :: k) s) := rfl
theorem rx_8_ahead_41 {ns n ct R K s L k} : rn_8_ahead ns ct R K (n + 1) 41 L k s = (sy_call false (ct 86) k s fun r t => rn_8_ahead ns ct R K n 44 L r t) := rfl
theorem rx_8_ahead_44 {ns n ct R K s k z v0 v1 v2 v3} : rn_8_ahead ns ct R K (n + 1) 44 [v0, v1, v2, v3, .inl (true, z)] k s = (rn_8_ahead ns ct R K n 46 [v0, v1, v2, v3, .inl (true, z)] (.inl (true, z) :: k) s) := rfl
theorem rx_8_ahead_46 {ns n ct R K s L a z} : rn_8_ahead ns ct R K (n + 1) 46 L [.inl (a, z)] s = (sy_ri a z ∧ sy_b01 false z ∧ R (some (.inl (true, z))) s) := rfl
def y_8_chord : MethodName := ⟨"StarHide", "chord", "(IIIII)Z"⟩
abbrev c_8_chord : ByteArray := prog_1_method_5_code
def tc_8_chord (pc : Nat) : Option sy_I := match pc with
  | 0 => some (.aload_n 0, 1, 0)
  | 1 => some (.getfield 10, 4, 0)
  | 4 => some (.iload_n 1, 5, 0)
  | 5 => some (.invokevirtual 77, 8, 0)
  | 8 => some (.astore 6, 10, 0)
  | 10 => some (.aload 6, 12, 0)
  | 12 => some (.ifnull 36, 15, 48)
  | 15 => some (.iload_n 2, 16, 0)
  | 16 => some (.invokestatic 90, 19, 0)
  | 19 => some (.ifCond .eq 29, 22, 48)
  | 22 => some (.iload 5, 24, 0)
  | 24 => some (.invokestatic 90, 27, 0)
  | 27 => some (.ifCond .eq 21, 30, 48)
  | 30 => some (.iload_n 2, 31, 0)
  | 31 => some (.iload_n 3, 32, 0)
  | 32 => some (.if_icmp .gt 16, 35, 48)
  | 35 => some (.iload_n 3, 36, 0)
  | 36 => some (.iload 4, 38, 0)
  | 38 => some (.if_icmp .gt 10, 41, 48)
  | 41 => some (.iload 4, 43, 0)
  | 43 => some (.iload 5, 45, 0)
  | 45 => some (.if_icmp .le 5, 48, 50)
  | 48 => some (.iconst 0, 49, 0)
  | 49 => some (.ireturn, 50, 0)
  | 50 => some (.aload 6, 52, 0)
  | 52 => some (.iconst 1, 53, 0)
  | 53 => some (.iload_n 2, 54, 0)
  | 54 => some (.iload_n 3, 55, 0)
  | 55 => some (.iload 4, 57, 0)
  | 57 => some (.iload 5, 59, 0)
  | 59 => some (.invokevirtual 93, 62, 0)
  | 62 => some (.aload_n 0, 63, 0)
  | 63 => some (.iload_n 1, 64, 0)
  | 64 => some (.invokevirtual 86, 67, 0)
  | 67 => some (.iconst 1, 68, 0)
  | 68 => some (.ireturn, 69, 0)
  | _ => none
theorem tv_8_chord : ∀ pc i, sy_lk 69 tc_8_chord pc = some i → sy_chk c_8_chord (some .boolean) true pc i = true := sy_lk_ok 69 tc_8_chord (by decide +kernel)
def Mk_8_chord (ct : Nat → Option (Bool × Nat × sy_Sp)) : sy_M := (sy_lk 69 tc_8_chord, ff_8, ki_8, kl_8, ct, true)
def rn_8_chord (ns : Nat) (ct : Nat → Option (Bool × Nat × sy_Sp)) (R : sy_R) (K : sy_K) : Nat → sy_K := sy_run ns (Mk_8_chord ct) [] R K
theorem rx_8_chord_0 {ns n ct R K s k z v1 v2 v3 v4 v5 v6} : rn_8_chord ns ct R K (n + 1) 0 [.inr (.inr (some z)), v1, v2, v3, v4, v5, v6] k s = (rn_8_chord ns ct R K n 1 [.inr (.inr (some z)), v1, v2, v3, v4, v5, v6] (.inr (.inr (some z)) :: k) s) := rfl
theorem rx_8_chord_1 {ns n ct R K s L k a} : rn_8_chord ns ct R K (n + 1) 1 L (.inr (.inr (some (some a))) :: k) s = (sy_ob a = some 8 ∧ rn_8_chord ns ct R K n 4 L (sy_fv s a 0 :: k) s) := rfl
theorem rx_8_chord_4 {ns n ct R K s k z v0 v2 v3 v4 v5 v6} : rn_8_chord ns ct R K (n + 1) 4 [v0, .inl (true, z), v2, v3, v4, v5, v6] k s = (rn_8_chord ns ct R K n 5 [v0, .inl (true, z), v2, v3, v4, v5, v6] (.inl (true, z) :: k) s) := rfl
theorem rx_8_chord_5 {ns n ct R K s L k} : rn_8_chord ns ct R K (n + 1) 5 L k s = (sy_call false (ct 77) k s fun r t => rn_8_chord ns ct R K n 8 L r t) := rfl
theorem rx_8_chord_8 {ns n ct R K s L k z} : rn_8_chord ns ct R K (n + 1) 8 L (.inr (.inr (some z)) :: k) s = (6 < L.length ∧ rn_8_chord ns ct R K n 10 (sy_sto L 6 (.inr (.inr (some z)))) k s) := rfl
theorem rx_8_chord_10 {ns n ct R K s k z v0 v1 v2 v3 v4 v5} : rn_8_chord ns ct R K (n + 1) 10 [v0, v1, v2, v3, v4, v5, .inr (.inr (some z))] k s = (rn_8_chord ns ct R K n 12 [v0, v1, v2, v3, v4, v5, .inr (.inr (some z))] (.inr (.inr (some z)) :: k) s) := rfl
theorem rx_8_chord_12_n {ns n ct R K s L k} : rn_8_chord ns ct R K (n + 1) 12 L (.inr (.inr (some none)) :: k) s = (rn_8_chord ns ct R K n 48 L k s) := rfl
theorem rx_8_chord_12 {ns n ct R K s L k a} : rn_8_chord ns ct R K (n + 1) 12 L (.inr (.inr (some (some a))) :: k) s = (rn_8_chord ns ct R K n 15 L k s) := rfl
theorem rx_8_chord_15 {ns n ct R K s k z v0 v1 v3 v4 v5 v6} : rn_8_chord ns ct R K (n + 1) 15 [v0, v1, .inl (true, z), v3, v4, v5, v6] k s = (rn_8_chord ns ct R K n 16 [v0, v1, .inl (true, z), v3, v4, v5, v6] (.inl (true, z) :: k) s) := rfl
theorem rx_8_chord_16 {ns n ct R K s L k} : rn_8_chord ns ct R K (n + 1) 16 L k s = (sy_call true (ct 90) k s fun r t => rn_8_chord ns ct R K n 19 L r t) := rfl
theorem rx_8_chord_19 {ns n ct R K s L k a x} : rn_8_chord ns ct R K (n + 1) 19 L (.inl (a, x) :: k) s = (sy_ri a x ∧ (x = 0 → rn_8_chord ns ct R K n 48 L k s) ∧ (¬ x = 0 → rn_8_chord ns ct R K n 22 L k s)) := rfl
theorem rx_8_chord_22 {ns n ct R K s k z v0 v1 v2 v3 v4 v6} : rn_8_chord ns ct R K (n + 1) 22 [v0, v1, v2, v3, v4, .inl (true, z), v6] k s = (rn_8_chord ns ct R K n 24 [v0, v1, v2, v3, v4, .inl (true, z), v6] (.inl (true, z) :: k) s) := rfl
theorem rx_8_chord_24 {ns n ct R K s L k} : rn_8_chord ns ct R K (n + 1) 24 L k s = (sy_call true (ct 90) k s fun r t => rn_8_chord ns ct R K n 27 L r t) := rfl
theorem rx_8_chord_27 {ns n ct R K s L k a x} : rn_8_chord ns ct R K (n + 1) 27 L (.inl (a, x) :: k) s = (sy_ri a x ∧ (x = 0 → rn_8_chord ns ct R K n 48 L k s) ∧ (¬ x = 0 → rn_8_chord ns ct R K n 30 L k s)) := rfl
theorem rx_8_chord_30 {ns n ct R K s k z v0 v1 v3 v4 v5 v6} : rn_8_chord ns ct R K (n + 1) 30 [v0, v1, .inl (true, z), v3, v4, v5, v6] k s = (rn_8_chord ns ct R K n 31 [v0, v1, .inl (true, z), v3, v4, v5, v6] (.inl (true, z) :: k) s) := rfl
theorem rx_8_chord_31 {ns n ct R K s k z v0 v1 v2 v4 v5 v6} : rn_8_chord ns ct R K (n + 1) 31 [v0, v1, v2, .inl (true, z), v4, v5, v6] k s = (rn_8_chord ns ct R K n 32 [v0, v1, v2, .inl (true, z), v4, v5, v6] (.inl (true, z) :: k) s) := rfl
theorem rx_8_chord_32 {ns n ct R K s L k a b x y} : rn_8_chord ns ct R K (n + 1) 32 L (.inl (b, y) :: .inl (a, x) :: k) s = (sy_ri a x ∧ sy_ri b y ∧ (y < x → rn_8_chord ns ct R K n 48 L k s) ∧ (¬ y < x → rn_8_chord ns ct R K n 35 L k s)) := rfl
theorem rx_8_chord_35 {ns n ct R K s k z v0 v1 v2 v4 v5 v6} : rn_8_chord ns ct R K (n + 1) 35 [v0, v1, v2, .inl (true, z), v4, v5, v6] k s = (rn_8_chord ns ct R K n 36 [v0, v1, v2, .inl (true, z), v4, v5, v6] (.inl (true, z) :: k) s) := rfl
theorem rx_8_chord_36 {ns n ct R K s k z v0 v1 v2 v3 v5 v6} : rn_8_chord ns ct R K (n + 1) 36 [v0, v1, v2, v3, .inl (true, z), v5, v6] k s = (rn_8_chord ns ct R K n 38 [v0, v1, v2, v3, .inl (true, z), v5, v6] (.inl (true, z) :: k) s) := rfl
theorem rx_8_chord_38 {ns n ct R K s L k a b x y} : rn_8_chord ns ct R K (n + 1) 38 L (.inl (b, y) :: .inl (a, x) :: k) s = (sy_ri a x ∧ sy_ri b y ∧ (y < x → rn_8_chord ns ct R K n 48 L k s) ∧ (¬ y < x → rn_8_chord ns ct R K n 41 L k s)) := rfl
theorem rx_8_chord_41 {ns n ct R K s k z v0 v1 v2 v3 v5 v6} : rn_8_chord ns ct R K (n + 1) 41 [v0, v1, v2, v3, .inl (true, z), v5, v6] k s = (rn_8_chord ns ct R K n 43 [v0, v1, v2, v3, .inl (true, z), v5, v6] (.inl (true, z) :: k) s) := rfl
theorem rx_8_chord_43 {ns n ct R K s k z v0 v1 v2 v3 v4 v6} : rn_8_chord ns ct R K (n + 1) 43 [v0, v1, v2, v3, v4, .inl (true, z), v6] k s = (rn_8_chord ns ct R K n 45 [v0, v1, v2, v3, v4, .inl (true, z), v6] (.inl (true, z) :: k) s) := rfl
theorem rx_8_chord_45 {ns n ct R K s L k a b x y} : rn_8_chord ns ct R K (n + 1) 45 L (.inl (b, y) :: .inl (a, x) :: k) s = (sy_ri a x ∧ sy_ri b y ∧ (x ≤ y → rn_8_chord ns ct R K n 50 L k s) ∧ (¬ x ≤ y → rn_8_chord ns ct R K n 48 L k s)) := rfl
theorem rx_8_chord_48 {ns n ct R K s L k} : rn_8_chord ns ct R K (n + 1) 48 L k s = (rn_8_chord ns ct R K n 49 L (.inl (true, 0) :: k) s) := rfl
theorem rx_8_chord_49 {ns n ct R K s L a z} : rn_8_chord ns ct R K (n + 1) 49 L [.inl (a, z)] s = (sy_ri a z ∧ sy_b01 true z ∧ R (some (.inl (true, z))) s) := rfl
theorem rx_8_chord_50 {ns n ct R K s k z v0 v1 v2 v3 v4 v5} : rn_8_chord ns ct R K (n + 1) 50 [v0, v1, v2, v3, v4, v5, .inr (.inr (some z))] k s = (rn_8_chord ns ct R K n 52 [v0, v1, v2, v3, v4, v5, .inr (.inr (some z))] (.inr (.inr (some z)) :: k) s) := rfl
theorem rx_8_chord_52 {ns n ct R K s L k} : rn_8_chord ns ct R K (n + 1) 52 L k s = (rn_8_chord ns ct R K n 53 L (.inl (true, 1) :: k) s) := rfl
theorem rx_8_chord_53 {ns n ct R K s k z v0 v1 v3 v4 v5 v6} : rn_8_chord ns ct R K (n + 1) 53 [v0, v1, .inl (true, z), v3, v4, v5, v6] k s = (rn_8_chord ns ct R K n 54 [v0, v1, .inl (true, z), v3, v4, v5, v6] (.inl (true, z) :: k) s) := rfl
theorem rx_8_chord_54 {ns n ct R K s k z v0 v1 v2 v4 v5 v6} : rn_8_chord ns ct R K (n + 1) 54 [v0, v1, v2, .inl (true, z), v4, v5, v6] k s = (rn_8_chord ns ct R K n 55 [v0, v1, v2, .inl (true, z), v4, v5, v6] (.inl (true, z) :: k) s) := rfl
theorem rx_8_chord_55 {ns n ct R K s k z v0 v1 v2 v3 v5 v6} : rn_8_chord ns ct R K (n + 1) 55 [v0, v1, v2, v3, .inl (true, z), v5, v6] k s = (rn_8_chord ns ct R K n 57 [v0, v1, v2, v3, .inl (true, z), v5, v6] (.inl (true, z) :: k) s) := rfl
theorem rx_8_chord_57 {ns n ct R K s k z v0 v1 v2 v3 v4 v6} : rn_8_chord ns ct R K (n + 1) 57 [v0, v1, v2, v3, v4, .inl (true, z), v6] k s = (rn_8_chord ns ct R K n 59 [v0, v1, v2, v3, v4, .inl (true, z), v6] (.inl (true, z) :: k) s) := rfl
theorem rx_8_chord_59 {ns n ct R K s L k} : rn_8_chord ns ct R K (n + 1) 59 L k s = (sy_call false (ct 93) k s fun r t => rn_8_chord ns ct R K n 62 L r t) := rfl
theorem rx_8_chord_62 {ns n ct R K s k z v1 v2 v3 v4 v5 v6} : rn_8_chord ns ct R K (n + 1) 62 [.inr (.inr (some z)), v1, v2, v3, v4, v5, v6] k s = (rn_8_chord ns ct R K n 63 [.inr (.inr (some z)), v1, v2, v3, v4, v5, v6] (.inr (.inr (some z)) :: k) s) := rfl
theorem rx_8_chord_63 {ns n ct R K s k z v0 v2 v3 v4 v5 v6} : rn_8_chord ns ct R K (n + 1) 63 [v0, .inl (true, z), v2, v3, v4, v5, v6] k s = (rn_8_chord ns ct R K n 64 [v0, .inl (true, z), v2, v3, v4, v5, v6] (.inl (true, z) :: k) s) := rfl
theorem rx_8_chord_64 {ns n ct R K s L k} : rn_8_chord ns ct R K (n + 1) 64 L k s = (sy_call false (ct 86) k s fun r t => rn_8_chord ns ct R K n 67 L r t) := rfl
theorem rx_8_chord_67 {ns n ct R K s L k} : rn_8_chord ns ct R K (n + 1) 67 L k s = (rn_8_chord ns ct R K n 68 L (.inl (true, 1) :: k) s) := rfl
theorem rx_8_chord_68 {ns n ct R K s L a z} : rn_8_chord ns ct R K (n + 1) 68 L [.inl (a, z)] s = (sy_ri a z ∧ sy_b01 true z ∧ R (some (.inl (true, z))) s) := rfl
def y_8_miss : MethodName := ⟨"StarHide", "miss", "(III)Z"⟩
abbrev c_8_miss : ByteArray := prog_1_method_6_code
def tc_8_miss (pc : Nat) : Option sy_I := match pc with
  | 0 => some (.aload_n 0, 1, 0)
  | 1 => some (.getfield 10, 4, 0)
  | 4 => some (.iload_n 1, 5, 0)
  | 5 => some (.invokevirtual 77, 8, 0)
  | 8 => some (.astore 4, 10, 0)
  | 10 => some (.aload 4, 12, 0)
  | 12 => some (.ifnull 22, 15, 34)
  | 15 => some (.iload_n 2, 16, 0)
  | 16 => some (.invokestatic 90, 19, 0)
  | 19 => some (.ifCond .eq 15, 22, 34)
  | 22 => some (.iload_n 3, 23, 0)
  | 23 => some (.invokestatic 90, 26, 0)
  | 26 => some (.ifCond .eq 8, 29, 34)
  | 29 => some (.iload_n 2, 30, 0)
  | 30 => some (.iload_n 3, 31, 0)
  | 31 => some (.if_icmp .le 5, 34, 36)
  | 34 => some (.iconst 0, 35, 0)
  | 35 => some (.ireturn, 36, 0)
  | 36 => some (.aload 4, 38, 0)
  | 38 => some (.iconst 2, 39, 0)
  | 39 => some (.iload_n 2, 40, 0)
  | 40 => some (.iload_n 3, 41, 0)
  | 41 => some (.iconst 0, 42, 0)
  | 42 => some (.iconst 0, 43, 0)
  | 43 => some (.invokevirtual 93, 46, 0)
  | 46 => some (.aload_n 0, 47, 0)
  | 47 => some (.iload_n 1, 48, 0)
  | 48 => some (.invokevirtual 86, 51, 0)
  | 51 => some (.iconst 1, 52, 0)
  | 52 => some (.ireturn, 53, 0)
  | _ => none
theorem tv_8_miss : ∀ pc i, sy_lk 53 tc_8_miss pc = some i → sy_chk c_8_miss (some .boolean) true pc i = true := sy_lk_ok 53 tc_8_miss (by decide +kernel)
def Mk_8_miss (ct : Nat → Option (Bool × Nat × sy_Sp)) : sy_M := (sy_lk 53 tc_8_miss, ff_8, ki_8, kl_8, ct, true)
def rn_8_miss (ns : Nat) (ct : Nat → Option (Bool × Nat × sy_Sp)) (R : sy_R) (K : sy_K) : Nat → sy_K := sy_run ns (Mk_8_miss ct) [] R K
theorem rx_8_miss_0 {ns n ct R K s k z v1 v2 v3 v4} : rn_8_miss ns ct R K (n + 1) 0 [.inr (.inr (some z)), v1, v2, v3, v4] k s = (rn_8_miss ns ct R K n 1 [.inr (.inr (some z)), v1, v2, v3, v4] (.inr (.inr (some z)) :: k) s) := rfl
theorem rx_8_miss_1 {ns n ct R K s L k a} : rn_8_miss ns ct R K (n + 1) 1 L (.inr (.inr (some (some a))) :: k) s = (sy_ob a = some 8 ∧ rn_8_miss ns ct R K n 4 L (sy_fv s a 0 :: k) s) := rfl
theorem rx_8_miss_4 {ns n ct R K s k z v0 v2 v3 v4} : rn_8_miss ns ct R K (n + 1) 4 [v0, .inl (true, z), v2, v3, v4] k s = (rn_8_miss ns ct R K n 5 [v0, .inl (true, z), v2, v3, v4] (.inl (true, z) :: k) s) := rfl
theorem rx_8_miss_5 {ns n ct R K s L k} : rn_8_miss ns ct R K (n + 1) 5 L k s = (sy_call false (ct 77) k s fun r t => rn_8_miss ns ct R K n 8 L r t) := rfl
theorem rx_8_miss_8 {ns n ct R K s L k z} : rn_8_miss ns ct R K (n + 1) 8 L (.inr (.inr (some z)) :: k) s = (4 < L.length ∧ rn_8_miss ns ct R K n 10 (sy_sto L 4 (.inr (.inr (some z)))) k s) := rfl
theorem rx_8_miss_10 {ns n ct R K s k z v0 v1 v2 v3} : rn_8_miss ns ct R K (n + 1) 10 [v0, v1, v2, v3, .inr (.inr (some z))] k s = (rn_8_miss ns ct R K n 12 [v0, v1, v2, v3, .inr (.inr (some z))] (.inr (.inr (some z)) :: k) s) := rfl
theorem rx_8_miss_12_n {ns n ct R K s L k} : rn_8_miss ns ct R K (n + 1) 12 L (.inr (.inr (some none)) :: k) s = (rn_8_miss ns ct R K n 34 L k s) := rfl
theorem rx_8_miss_12 {ns n ct R K s L k a} : rn_8_miss ns ct R K (n + 1) 12 L (.inr (.inr (some (some a))) :: k) s = (rn_8_miss ns ct R K n 15 L k s) := rfl
theorem rx_8_miss_15 {ns n ct R K s k z v0 v1 v3 v4} : rn_8_miss ns ct R K (n + 1) 15 [v0, v1, .inl (true, z), v3, v4] k s = (rn_8_miss ns ct R K n 16 [v0, v1, .inl (true, z), v3, v4] (.inl (true, z) :: k) s) := rfl
theorem rx_8_miss_16 {ns n ct R K s L k} : rn_8_miss ns ct R K (n + 1) 16 L k s = (sy_call true (ct 90) k s fun r t => rn_8_miss ns ct R K n 19 L r t) := rfl
theorem rx_8_miss_19 {ns n ct R K s L k a x} : rn_8_miss ns ct R K (n + 1) 19 L (.inl (a, x) :: k) s = (sy_ri a x ∧ (x = 0 → rn_8_miss ns ct R K n 34 L k s) ∧ (¬ x = 0 → rn_8_miss ns ct R K n 22 L k s)) := rfl
theorem rx_8_miss_22 {ns n ct R K s k z v0 v1 v2 v4} : rn_8_miss ns ct R K (n + 1) 22 [v0, v1, v2, .inl (true, z), v4] k s = (rn_8_miss ns ct R K n 23 [v0, v1, v2, .inl (true, z), v4] (.inl (true, z) :: k) s) := rfl
theorem rx_8_miss_23 {ns n ct R K s L k} : rn_8_miss ns ct R K (n + 1) 23 L k s = (sy_call true (ct 90) k s fun r t => rn_8_miss ns ct R K n 26 L r t) := rfl
theorem rx_8_miss_26 {ns n ct R K s L k a x} : rn_8_miss ns ct R K (n + 1) 26 L (.inl (a, x) :: k) s = (sy_ri a x ∧ (x = 0 → rn_8_miss ns ct R K n 34 L k s) ∧ (¬ x = 0 → rn_8_miss ns ct R K n 29 L k s)) := rfl
theorem rx_8_miss_29 {ns n ct R K s k z v0 v1 v3 v4} : rn_8_miss ns ct R K (n + 1) 29 [v0, v1, .inl (true, z), v3, v4] k s = (rn_8_miss ns ct R K n 30 [v0, v1, .inl (true, z), v3, v4] (.inl (true, z) :: k) s) := rfl
theorem rx_8_miss_30 {ns n ct R K s k z v0 v1 v2 v4} : rn_8_miss ns ct R K (n + 1) 30 [v0, v1, v2, .inl (true, z), v4] k s = (rn_8_miss ns ct R K n 31 [v0, v1, v2, .inl (true, z), v4] (.inl (true, z) :: k) s) := rfl
theorem rx_8_miss_31 {ns n ct R K s L k a b x y} : rn_8_miss ns ct R K (n + 1) 31 L (.inl (b, y) :: .inl (a, x) :: k) s = (sy_ri a x ∧ sy_ri b y ∧ (x ≤ y → rn_8_miss ns ct R K n 36 L k s) ∧ (¬ x ≤ y → rn_8_miss ns ct R K n 34 L k s)) := rfl
theorem rx_8_miss_34 {ns n ct R K s L k} : rn_8_miss ns ct R K (n + 1) 34 L k s = (rn_8_miss ns ct R K n 35 L (.inl (true, 0) :: k) s) := rfl
theorem rx_8_miss_35 {ns n ct R K s L a z} : rn_8_miss ns ct R K (n + 1) 35 L [.inl (a, z)] s = (sy_ri a z ∧ sy_b01 true z ∧ R (some (.inl (true, z))) s) := rfl
theorem rx_8_miss_36 {ns n ct R K s k z v0 v1 v2 v3} : rn_8_miss ns ct R K (n + 1) 36 [v0, v1, v2, v3, .inr (.inr (some z))] k s = (rn_8_miss ns ct R K n 38 [v0, v1, v2, v3, .inr (.inr (some z))] (.inr (.inr (some z)) :: k) s) := rfl
theorem rx_8_miss_38 {ns n ct R K s L k} : rn_8_miss ns ct R K (n + 1) 38 L k s = (rn_8_miss ns ct R K n 39 L (.inl (true, 2) :: k) s) := rfl
theorem rx_8_miss_39 {ns n ct R K s k z v0 v1 v3 v4} : rn_8_miss ns ct R K (n + 1) 39 [v0, v1, .inl (true, z), v3, v4] k s = (rn_8_miss ns ct R K n 40 [v0, v1, .inl (true, z), v3, v4] (.inl (true, z) :: k) s) := rfl
theorem rx_8_miss_40 {ns n ct R K s k z v0 v1 v2 v4} : rn_8_miss ns ct R K (n + 1) 40 [v0, v1, v2, .inl (true, z), v4] k s = (rn_8_miss ns ct R K n 41 [v0, v1, v2, .inl (true, z), v4] (.inl (true, z) :: k) s) := rfl
theorem rx_8_miss_41 {ns n ct R K s L k} : rn_8_miss ns ct R K (n + 1) 41 L k s = (rn_8_miss ns ct R K n 42 L (.inl (true, 0) :: k) s) := rfl
theorem rx_8_miss_42 {ns n ct R K s L k} : rn_8_miss ns ct R K (n + 1) 42 L k s = (rn_8_miss ns ct R K n 43 L (.inl (true, 0) :: k) s) := rfl
theorem rx_8_miss_43 {ns n ct R K s L k} : rn_8_miss ns ct R K (n + 1) 43 L k s = (sy_call false (ct 93) k s fun r t => rn_8_miss ns ct R K n 46 L r t) := rfl
theorem rx_8_miss_46 {ns n ct R K s k z v1 v2 v3 v4} : rn_8_miss ns ct R K (n + 1) 46 [.inr (.inr (some z)), v1, v2, v3, v4] k s = (rn_8_miss ns ct R K n 47 [.inr (.inr (some z)), v1, v2, v3, v4] (.inr (.inr (some z)) :: k) s) := rfl
theorem rx_8_miss_47 {ns n ct R K s k z v0 v2 v3 v4} : rn_8_miss ns ct R K (n + 1) 47 [v0, .inl (true, z), v2, v3, v4] k s = (rn_8_miss ns ct R K n 48 [v0, .inl (true, z), v2, v3, v4] (.inl (true, z) :: k) s) := rfl
theorem rx_8_miss_48 {ns n ct R K s L k} : rn_8_miss ns ct R K (n + 1) 48 L k s = (sy_call false (ct 86) k s fun r t => rn_8_miss ns ct R K n 51 L r t) := rfl
theorem rx_8_miss_51 {ns n ct R K s L k} : rn_8_miss ns ct R K (n + 1) 51 L k s = (rn_8_miss ns ct R K n 52 L (.inl (true, 1) :: k) s) := rfl
theorem rx_8_miss_52 {ns n ct R K s L a z} : rn_8_miss ns ct R K (n + 1) 52 L [.inl (a, z)] s = (sy_ri a z ∧ sy_b01 true z ∧ R (some (.inl (true, z))) s) := rfl
def y_8_cloud : MethodName := ⟨"StarHide", "cloud", "(I)Z"⟩
abbrev c_8_cloud : ByteArray := prog_1_method_7_code
def tc_8_cloud (pc : Nat) : Option sy_I := match pc with
  | 0 => some (.aload_n 0, 1, 0)
  | 1 => some (.getfield 10, 4, 0)
  | 4 => some (.iload_n 1, 5, 0)
  | 5 => some (.invokevirtual 77, 8, 0)
  | 8 => some (.astore_n 2, 9, 0)
  | 9 => some (.aload_n 2, 10, 0)
  | 10 => some (.ifnonnull 5, 13, 15)
  | 13 => some (.iconst 0, 14, 0)
  | 14 => some (.ireturn, 15, 0)
  | 15 => some (.aload_n 2, 16, 0)
  | 16 => some (.iconst 3, 17, 0)
  | 17 => some (.iconst 0, 18, 0)
  | 18 => some (.iconst 0, 19, 0)
  | 19 => some (.iconst 0, 20, 0)
  | 20 => some (.iconst 0, 21, 0)
  | 21 => some (.invokevirtual 93, 24, 0)
  | 24 => some (.aload_n 0, 25, 0)
  | 25 => some (.iload_n 1, 26, 0)
  | 26 => some (.invokevirtual 86, 29, 0)
  | 29 => some (.iconst 1, 30, 0)
  | 30 => some (.ireturn, 31, 0)
  | _ => none
theorem tv_8_cloud : ∀ pc i, sy_lk 31 tc_8_cloud pc = some i → sy_chk c_8_cloud (some .boolean) true pc i = true := sy_lk_ok 31 tc_8_cloud (by decide +kernel)
def Mk_8_cloud (ct : Nat → Option (Bool × Nat × sy_Sp)) : sy_M := (sy_lk 31 tc_8_cloud, ff_8, ki_8, kl_8, ct, true)
def rn_8_cloud (ns : Nat) (ct : Nat → Option (Bool × Nat × sy_Sp)) (R : sy_R) (K : sy_K) : Nat → sy_K := sy_run ns (Mk_8_cloud ct) [] R K
theorem rx_8_cloud_0 {ns n ct R K s k z v1 v2} : rn_8_cloud ns ct R K (n + 1) 0 [.inr (.inr (some z)), v1, v2] k s = (rn_8_cloud ns ct R K n 1 [.inr (.inr (some z)), v1, v2] (.inr (.inr (some z)) :: k) s) := rfl
theorem rx_8_cloud_1 {ns n ct R K s L k a} : rn_8_cloud ns ct R K (n + 1) 1 L (.inr (.inr (some (some a))) :: k) s = (sy_ob a = some 8 ∧ rn_8_cloud ns ct R K n 4 L (sy_fv s a 0 :: k) s) := rfl
theorem rx_8_cloud_4 {ns n ct R K s k z v0 v2} : rn_8_cloud ns ct R K (n + 1) 4 [v0, .inl (true, z), v2] k s = (rn_8_cloud ns ct R K n 5 [v0, .inl (true, z), v2] (.inl (true, z) :: k) s) := rfl
theorem rx_8_cloud_5 {ns n ct R K s L k} : rn_8_cloud ns ct R K (n + 1) 5 L k s = (sy_call false (ct 77) k s fun r t => rn_8_cloud ns ct R K n 8 L r t) := rfl
theorem rx_8_cloud_8 {ns n ct R K s L k z} : rn_8_cloud ns ct R K (n + 1) 8 L (.inr (.inr (some z)) :: k) s = (2 < L.length ∧ rn_8_cloud ns ct R K n 9 (sy_sto L 2 (.inr (.inr (some z)))) k s) := rfl
theorem rx_8_cloud_9 {ns n ct R K s k z v0 v1} : rn_8_cloud ns ct R K (n + 1) 9 [v0, v1, .inr (.inr (some z))] k s = (rn_8_cloud ns ct R K n 10 [v0, v1, .inr (.inr (some z))] (.inr (.inr (some z)) :: k) s) := rfl
theorem rx_8_cloud_10_n {ns n ct R K s L k} : rn_8_cloud ns ct R K (n + 1) 10 L (.inr (.inr (some none)) :: k) s = (rn_8_cloud ns ct R K n 13 L k s) := rfl
theorem rx_8_cloud_10 {ns n ct R K s L k a} : rn_8_cloud ns ct R K (n + 1) 10 L (.inr (.inr (some (some a))) :: k) s = (rn_8_cloud ns ct R K n 15 L k s) := rfl
theorem rx_8_cloud_13 {ns n ct R K s L k} : rn_8_cloud ns ct R K (n + 1) 13 L k s = (rn_8_cloud ns ct R K n 14 L (.inl (true, 0) :: k) s) := rfl
theorem rx_8_cloud_14 {ns n ct R K s L a z} : rn_8_cloud ns ct R K (n + 1) 14 L [.inl (a, z)] s = (sy_ri a z ∧ sy_b01 true z ∧ R (some (.inl (true, z))) s) := rfl
theorem rx_8_cloud_15 {ns n ct R K s k z v0 v1} : rn_8_cloud ns ct R K (n + 1) 15 [v0, v1, .inr (.inr (some z))] k s = (rn_8_cloud ns ct R K n 16 [v0, v1, .inr (.inr (some z))] (.inr (.inr (some z)) :: k) s) := rfl
theorem rx_8_cloud_16 {ns n ct R K s L k} : rn_8_cloud ns ct R K (n + 1) 16 L k s = (rn_8_cloud ns ct R K n 17 L (.inl (true, 3) :: k) s) := rfl
theorem rx_8_cloud_17 {ns n ct R K s L k} : rn_8_cloud ns ct R K (n + 1) 17 L k s = (rn_8_cloud ns ct R K n 18 L (.inl (true, 0) :: k) s) := rfl
theorem rx_8_cloud_18 {ns n ct R K s L k} : rn_8_cloud ns ct R K (n + 1) 18 L k s = (rn_8_cloud ns ct R K n 19 L (.inl (true, 0) :: k) s) := rfl
theorem rx_8_cloud_19 {ns n ct R K s L k} : rn_8_cloud ns ct R K (n + 1) 19 L k s = (rn_8_cloud ns ct R K n 20 L (.inl (true, 0) :: k) s) := rfl
theorem rx_8_cloud_20 {ns n ct R K s L k} : rn_8_cloud ns ct R K (n + 1) 20 L k s = (rn_8_cloud ns ct R K n 21 L (.inl (true, 0) :: k) s) := rfl
theorem rx_8_cloud_21 {ns n ct R K s L k} : rn_8_cloud ns ct R K (n + 1) 21 L k s = (sy_call false (ct 93) k s fun r t => rn_8_cloud ns ct R K n 24 L r t) := rfl
theorem rx_8_cloud_24 {ns n ct R K s k z v1 v2} : rn_8_cloud ns ct R K (n + 1) 24 [.inr (.inr (some z)), v1, v2] k s = (rn_8_cloud ns ct R K n 25 [.inr (.inr (some z)), v1, v2] (.inr (.inr (some z)) :: k) s) := rfl
theorem rx_8_cloud_25 {ns n ct R K s k z v0 v2} : rn_8_cloud ns ct R K (n + 1) 25 [v0, .inl (true, z), v2] k s = (rn_8_cloud ns ct R K n 26 [v0, .inl (true, z), v2] (.inl (true, z) :: k) s) := rfl
theorem rx_8_cloud_26 {ns n ct R K s L k} : rn_8_cloud ns ct R K (n + 1) 26 L k s = (sy_call false (ct 86) k s fun r t => rn_8_cloud ns ct R K n 29 L r t) := rfl
theorem rx_8_cloud_29 {ns n ct R K s L k} : rn_8_cloud ns ct R K (n + 1) 29 L k s = (rn_8_cloud ns ct R K n 30 L (.inl (true, 1) :: k) s) := rfl
theorem rx_8_cloud_30 {ns n ct R K s L a z} : rn_8_cloud ns ct R K (n + 1) 30 L [.inl (a, z)] s = (sy_ri a z ∧ sy_b01 true z ∧ R (some (.inl (true, z))) s) := rfl
def y_8_unsay : MethodName := ⟨"StarHide", "unsay", "(I)Z"⟩
abbrev c_8_unsay : ByteArray := prog_1_method_8_code
def tc_8_unsay (pc : Nat) : Option sy_I := match pc with
  | 0 => some (.aload_n 0, 1, 0)
  | 1 => some (.getfield 10, 4, 0)
  | 4 => some (.iload_n 1, 5, 0)
  | 5 => some (.invokevirtual 77, 8, 0)
  | 8 => some (.astore_n 2, 9, 0)
  | 9 => some (.aload_n 2, 10, 0)
  | 10 => some (.ifnull 10, 13, 20)
  | 13 => some (.aload_n 2, 14, 0)
  | 14 => some (.getfield 97, 17, 0)
  | 17 => some (.ifCond .ne 5, 20, 22)
  | 20 => some (.iconst 0, 21, 0)
  | 21 => some (.ireturn, 22, 0)
  | 22 => some (.aload_n 2, 23, 0)
  | 23 => some (.iconst 0, 24, 0)
  | 24 => some (.iconst 0, 25, 0)
  | 25 => some (.iconst 0, 26, 0)
  | 26 => some (.iconst 0, 27, 0)
  | 27 => some (.iconst 0, 28, 0)
  | 28 => some (.invokevirtual 93, 31, 0)
  | 31 => some (.aload_n 0, 32, 0)
  | 32 => some (.iload_n 1, 33, 0)
  | 33 => some (.invokevirtual 86, 36, 0)
  | 36 => some (.iconst 1, 37, 0)
  | 37 => some (.ireturn, 38, 0)
  | _ => none
theorem tv_8_unsay : ∀ pc i, sy_lk 38 tc_8_unsay pc = some i → sy_chk c_8_unsay (some .boolean) true pc i = true := sy_lk_ok 38 tc_8_unsay (by decide +kernel)
def Mk_8_unsay (ct : Nat → Option (Bool × Nat × sy_Sp)) : sy_M := (sy_lk 38 tc_8_unsay, ff_8, ki_8, kl_8, ct, true)
def rn_8_unsay (ns : Nat) (ct : Nat → Option (Bool × Nat × sy_Sp)) (R : sy_R) (K : sy_K) : Nat → sy_K := sy_run ns (Mk_8_unsay ct) [] R K
theorem rx_8_unsay_0 {ns n ct R K s k z v1 v2} : rn_8_unsay ns ct R K (n + 1) 0 [.inr (.inr (some z)), v1, v2] k s = (rn_8_unsay ns ct R K n 1 [.inr (.inr (some z)), v1, v2] (.inr (.inr (some z)) :: k) s) := rfl
theorem rx_8_unsay_1 {ns n ct R K s L k a} : rn_8_unsay ns ct R K (n + 1) 1 L (.inr (.inr (some (some a))) :: k) s = (sy_ob a = some 8 ∧ rn_8_unsay ns ct R K n 4 L (sy_fv s a 0 :: k) s) := rfl
theorem rx_8_unsay_4 {ns n ct R K s k z v0 v2} : rn_8_unsay ns ct R K (n + 1) 4 [v0, .inl (true, z), v2] k s = (rn_8_unsay ns ct R K n 5 [v0, .inl (true, z), v2] (.inl (true, z) :: k) s) := rfl
theorem rx_8_unsay_5 {ns n ct R K s L k} : rn_8_unsay ns ct R K (n + 1) 5 L k s = (sy_call false (ct 77) k s fun r t => rn_8_unsay ns ct R K n 8 L r t) := rfl
theorem rx_8_unsay_8 {ns n ct R K s L k z} : rn_8_unsay ns ct R K (n + 1) 8 L (.inr (.inr (some z)) :: k) s = (2 < L.length ∧ rn_8_unsay ns ct R K n 9 (sy_sto L 2 (.inr (.inr (some z)))) k s) := rfl
theorem rx_8_unsay_9 {ns n ct R K s k z v0 v1} : rn_8_unsay ns ct R K (n + 1) 9 [v0, v1, .inr (.inr (some z))] k s = (rn_8_unsay ns ct R K n 10 [v0, v1, .inr (.inr (some z))] (.inr (.inr (some z)) :: k) s) := rfl
theorem rx_8_unsay_10_n {ns n ct R K s L k} : rn_8_unsay ns ct R K (n + 1) 10 L (.inr (.inr (some none)) :: k) s = (rn_8_unsay ns ct R K n 20 L k s) := rfl
theorem rx_8_unsay_10 {ns n ct R K s L k a} : rn_8_unsay ns ct R K (n + 1) 10 L (.inr (.inr (some (some a))) :: k) s = (rn_8_unsay ns ct R K n 13 L k s) := rfl
theorem rx_8_unsay_13 {ns n ct R K s k z v0 v1} : rn_8_unsay ns ct R K (n + 1) 13 [v0, v1, .inr (.inr (some z))] k s = (rn_8_unsay ns ct R K n 14 [v0, v1, .inr (.inr (some z))] (.inr (.inr (some z)) :: k) s) := rfl
theorem rx_8_unsay_14 {ns n ct R K s L k a} : rn_8_unsay ns ct R K (n + 1) 14 L (.inr (.inr (some (some a))) :: k) s = (sy_ob a = some 6 ∧ rn_8_unsay ns ct R K n 17 L (sy_fv s a 5 :: k) s) := rfl
theorem rx_8_unsay_17 {ns n ct R K s L k a x} : rn_8_unsay ns ct R K (n + 1) 17 L (.inl (a, x) :: k) s = (sy_ri a x ∧ (¬ x = 0 → rn_8_unsay ns ct R K n 22 L k s) ∧ (x = 0 → rn_8_unsay ns ct R K n 20 L k s)) := rfl
theorem rx_8_unsay_20 {ns n ct R K s L k} : rn_8_unsay ns ct R K (n + 1) 20 L k s = (rn_8_unsay ns ct R K n 21 L (.inl (true, 0) :: k) s) := rfl
theorem rx_8_unsay_21 {ns n ct R K s L a z} : rn_8_unsay ns ct R K (n + 1) 21 L [.inl (a, z)] s = (sy_ri a z ∧ sy_b01 true z ∧ R (some (.inl (true, z))) s) := rfl
theorem rx_8_unsay_22 {ns n ct R K s k z v0 v1} : rn_8_unsay ns ct R K (n + 1) 22 [v0, v1, .inr (.inr (some z))] k s = (rn_8_unsay ns ct R K n 23 [v0, v1, .inr (.inr (some z))] (.inr (.inr (some z)) :: k) s) := rfl
theorem rx_8_unsay_23 {ns n ct R K s L k} : rn_8_unsay ns ct R K (n + 1) 23 L k s = (rn_8_unsay ns ct R K n 24 L (.inl (true, 0) :: k) s) := rfl
theorem rx_8_unsay_24 {ns n ct R K s L k} : rn_8_unsay ns ct R K (n + 1) 24 L k s = (rn_8_unsay ns ct R K n 25 L (.inl (true, 0) :: k) s) := rfl
theorem rx_8_unsay_25 {ns n ct R K s L k} : rn_8_unsay ns ct R K (n + 1) 25 L k s = (rn_8_unsay ns ct R K n 26 L (.inl (true, 0) :: k) s) := rfl
theorem rx_8_unsay_26 {ns n ct R K s L k} : rn_8_unsay ns ct R K (n + 1) 26 L k s = (rn_8_unsay ns ct R K n 27 L (.inl (true, 0) :: k) s) := rfl
theorem rx_8_unsay_27 {ns n ct R K s L k} : rn_8_unsay ns ct R K (n + 1) 27 L k s = (rn_8_unsay ns ct R K n 28 L (.inl (true, 0) :: k) s) := rfl
theorem rx_8_unsay_28 {ns n ct R K s L k} : rn_8_unsay ns ct R K (n + 1) 28 L k s = (sy_call false (ct 93) k s fun r t => rn_8_unsay ns ct R K n 31 L r t) := rfl
theorem rx_8_unsay_31 {ns n ct R K s k z v1 v2} : rn_8_unsay ns ct R K (n + 1) 31 [.inr (.inr (some z)), v1, v2] k s = (rn_8_unsay ns ct R K n 32 [.inr (.inr (some z)), v1, v2] (.inr (.inr (some z)) :: k) s) := rfl
theorem rx_8_unsay_32 {ns n ct R K s k z v0 v2} : rn_8_unsay ns ct R K (n + 1) 32 [v0, .inl (true, z), v2] k s = (rn_8_unsay ns ct R K n 33 [v0, .inl (true, z), v2] (.inl (true, z) :: k) s) := rfl
theorem rx_8_unsay_33 {ns n ct R K s L k} : rn_8_unsay ns ct R K (n + 1) 33 L k s = (sy_call false (ct 86) k s fun r t => rn_8_unsay ns ct R K n 36 L r t) := rfl
theorem rx_8_unsay_36 {ns n ct R K s L k} : rn_8_unsay ns ct R K (n + 1) 36 L k s = (rn_8_unsay ns ct R K n 37 L (.inl (true, 1) :: k) s) := rfl
theorem rx_8_unsay_37 {ns n ct R K s L a z} : rn_8_unsay ns ct R K (n + 1) 37 L [.inl (a, z)] s = (sy_ri a z ∧ sy_b01 true z ∧ R (some (.inl (true, z))) s) := rfl
def y_8_place : MethodName := ⟨"StarHide", "place", "(II)I"⟩
abbrev c_8_place : ByteArray := prog_1_method_9_code
def tc_8_place (pc : Nat) : Option sy_I := match pc with
  | 0 => some (.aload_n 0, 1, 0)
  | 1 => some (.getfield 10, 4, 0)
  | 4 => some (.iload_n 1, 5, 0)
  | 5 => some (.invokevirtual 77, 8, 0)
  | 8 => some (.astore_n 3, 9, 0)
  | 9 => some (.aload_n 3, 10, 0)
  | 10 => some (.ifnull 10, 13, 20)
  | 13 => some (.iload_n 2, 14, 0)
  | 14 => some (.invokestatic 90, 17, 0)
  | 17 => some (.ifCond .ne 8, 20, 25)
  | 20 => some (.ldc 100, 22, 0)
  | 22 => some (.goto 15, 25, 37)
  | 25 => some (.aload_n 3, 26, 0)
  | 26 => some (.aload_n 0, 27, 0)
  | 27 => some (.getfield 10, 30, 0)
  | 30 => some (.getfield 59, 33, 0)
  | 33 => some (.iload_n 2, 34, 0)
  | 34 => some (.invokevirtual 101, 37, 0)
  | 37 => some (.ireturn, 38, 0)
  | _ => none
theorem tv_8_place : ∀ pc i, sy_lk 38 tc_8_place pc = some i → sy_chk c_8_place (some .int) false pc i = true := sy_lk_ok 38 tc_8_place (by decide +kernel)
def Mk_8_place (ct : Nat → Option (Bool × Nat × sy_Sp)) : sy_M := (sy_lk 38 tc_8_place, ff_8, ki_8, kl_8, ct, false)
def rn_8_place (ns : Nat) (ct : Nat → Option (Bool × Nat × sy_Sp)) (R : sy_R) (K : sy_K) : Nat → sy_K := sy_run ns (Mk_8_place ct) [] R K
theorem rx_8_place_0 {ns n ct R K s k z v1 v2 v3} : rn_8_place ns ct R K (n + 1) 0 [.inr (.inr (some z)), v1, v2, v3] k s = (rn_8_place ns ct R K n 1 [.inr (.inr (some z)), v1, v2, v3] (.inr (.inr (some z)) :: k) s) := rfl
theorem rx_8_place_1 {ns n ct R K s L k a} : rn_8_place ns ct R K (n + 1) 1 L (.inr (.inr (some (some a))) :: k) s = (sy_ob a = some 8 ∧ rn_8_place ns ct R K n 4 L (sy_fv s a 0 :: k) s) := rfl
theorem rx_8_place_4 {ns n ct R K s k z v0 v2 v3} : rn_8_place ns ct R K (n + 1) 4 [v0, .inl (true, z), v2, v3] k s = (rn_8_place ns ct R K n 5 [v0, .inl (true, z), v2, v3] (.inl (true, z) :: k) s) := rfl
theorem rx_8_place_5 {ns n ct R K s L k} : rn_8_place ns ct R K (n + 1) 5 L k s = (sy_call false (ct 77) k s fun r t => rn_8_place ns ct R K n 8 L r t) := rfl
theorem rx_8_place_8 {ns n ct R K s L k z} : rn_8_place ns ct R K (n + 1) 8 L (.inr (.inr (some z)) :: k) s = (3 < L.length ∧ rn_8_place ns ct R K n 9 (sy_sto L 3 (.inr (.inr (some z)))) k s) := rfl
theorem rx_8_place_9 {ns n ct R K s k z v0 v1 v2} : rn_8_place ns ct R K (n + 1) 9 [v0, v1, v2, .inr (.inr (some z))] k s = (rn_8_place ns ct R K n 10 [v0, v1, v2, .inr (.inr (some z))] (.inr (.inr (some z)) :: k) s) := rfl
theorem rx_8_place_10_n {ns n ct R K s L k} : rn_8_place ns ct R K (n + 1) 10 L (.inr (.inr (some none)) :: k) s = (rn_8_place ns ct R K n 20 L k s) := rfl
theorem rx_8_place_10 {ns n ct R K s L k a} : rn_8_place ns ct R K (n + 1) 10 L (.inr (.inr (some (some a))) :: k) s = (rn_8_place ns ct R K n 13 L k s) := rfl
theorem rx_8_place_13 {ns n ct R K s k z v0 v1 v3} : rn_8_place ns ct R K (n + 1) 13 [v0, v1, .inl (true, z), v3] k s = (rn_8_place ns ct R K n 14 [v0, v1, .inl (true, z), v3] (.inl (true, z) :: k) s) := rfl
theorem rx_8_place_14 {ns n ct R K s L k} : rn_8_place ns ct R K (n + 1) 14 L k s = (sy_call true (ct 90) k s fun r t => rn_8_place ns ct R K n 17 L r t) := rfl
theorem rx_8_place_17 {ns n ct R K s L k a x} : rn_8_place ns ct R K (n + 1) 17 L (.inl (a, x) :: k) s = (sy_ri a x ∧ (¬ x = 0 → rn_8_place ns ct R K n 25 L k s) ∧ (x = 0 → rn_8_place ns ct R K n 20 L k s)) := rfl
theorem rx_8_place_20 {ns n ct R K s L k} : rn_8_place ns ct R K (n + 1) 20 L k s = (rn_8_place ns ct R K n 22 L (.inl (true, -1000000) :: k) s) := rfl
theorem rx_8_place_22 {ns n ct R K s L k} : rn_8_place ns ct R K (n + 1) 22 L k s = (rn_8_place ns ct R K n 37 L k s) := rfl
theorem rx_8_place_25 {ns n ct R K s k z v0 v1 v2} : rn_8_place ns ct R K (n + 1) 25 [v0, v1, v2, .inr (.inr (some z))] k s = (rn_8_place ns ct R K n 26 [v0, v1, v2, .inr (.inr (some z))] (.inr (.inr (some z)) :: k) s) := rfl
theorem rx_8_place_26 {ns n ct R K s k z v1 v2 v3} : rn_8_place ns ct R K (n + 1) 26 [.inr (.inr (some z)), v1, v2, v3] k s = (rn_8_place ns ct R K n 27 [.inr (.inr (some z)), v1, v2, v3] (.inr (.inr (some z)) :: k) s) := rfl
theorem rx_8_place_27 {ns n ct R K s L k a} : rn_8_place ns ct R K (n + 1) 27 L (.inr (.inr (some (some a))) :: k) s = (sy_ob a = some 8 ∧ rn_8_place ns ct R K n 30 L (sy_fv s a 0 :: k) s) := rfl
theorem rx_8_place_30 {ns n ct R K s L k a} : rn_8_place ns ct R K (n + 1) 30 L (.inr (.inr (some (some a))) :: k) s = (sy_ob a = some 7 ∧ rn_8_place ns ct R K n 33 L (sy_fv s a 2 :: k) s) := rfl
theorem rx_8_place_33 {ns n ct R K s k z v0 v1 v3} : rn_8_place ns ct R K (n + 1) 33 [v0, v1, .inl (true, z), v3] k s = (rn_8_place ns ct R K n 34 [v0, v1, .inl (true, z), v3] (.inl (true, z) :: k) s) := rfl
theorem rx_8_place_34 {ns n ct R K s L k} : rn_8_place ns ct R K (n + 1) 34 L k s = (sy_call false (ct 101) k s fun r t => rn_8_place ns ct R K n 37 L r t) := rfl
theorem rx_8_place_37 {ns n ct R K s L a z} : rn_8_place ns ct R K (n + 1) 37 L [.inl (a, z)] s = (sy_ri a z ∧ sy_b01 false z ∧ R (some (.inl (true, z))) s) := rfl
def y_8_net : MethodName := ⟨"StarHide", "net", "(IIII)Z"⟩
abbrev c_8_net : ByteArray := prog_1_method_10_code
def tc_8_net (pc : Nat) : Option sy_I := match pc with
  | 0 => some (.aload_n 0, 1, 0)
  | 1 => some (.getfield 19, 4, 0)
  | 4 => some (.iload_n 1, 5, 0)
  | 5 => some (.iload_n 2, 6, 0)
  | 6 => some (.iload_n 3, 7, 0)
  | 7 => some (.iload 4, 9, 0)
  | 9 => some (.invokevirtual 104, 12, 0)
  | 12 => some (.ifCond .ne 5, 15, 17)
  | 15 => some (.iconst 0, 16, 0)
  | 16 => some (.ireturn, 17, 0)
  | 17 => some (.iload_n 1, 18, 0)
  | 18 => some (.ifCond .eq 10, 21, 28)
  | 21 => some (.aload_n 0, 22, 0)
  | 22 => some (.getfield 10, 25, 0)
  | 25 => some (.invokevirtual 108, 28, 0)
  | 28 => some (.aload_n 0, 29, 0)
  | 29 => some (.getfield 28, 32, 0)
  | 32 => some (.invokevirtual 63, 35, 0)
  | 35 => some (.iconst 1, 36, 0)
  | 36 => some (.ireturn, 37, 0)
  | _ => none
theorem tv_8_net : ∀ pc i, sy_lk 37 tc_8_net pc = some i → sy_chk c_8_net (some .boolean) true pc i = true := sy_lk_ok 37 tc_8_net (by decide +kernel)
def Mk_8_net (ct : Nat → Option (Bool × Nat × sy_Sp)) : sy_M := (sy_lk 37 tc_8_net, ff_8, ki_8, kl_8, ct, true)
def rn_8_net (ns : Nat) (ct : Nat → Option (Bool × Nat × sy_Sp)) (R : sy_R) (K : sy_K) : Nat → sy_K := sy_run ns (Mk_8_net ct) [] R K
theorem rx_8_net_0 {ns n ct R K s k z v1 v2 v3 v4} : rn_8_net ns ct R K (n + 1) 0 [.inr (.inr (some z)), v1, v2, v3, v4] k s = (rn_8_net ns ct R K n 1 [.inr (.inr (some z)), v1, v2, v3, v4] (.inr (.inr (some z)) :: k) s) := rfl
theorem rx_8_net_1 {ns n ct R K s L k a} : rn_8_net ns ct R K (n + 1) 1 L (.inr (.inr (some (some a))) :: k) s = (sy_ob a = some 8 ∧ rn_8_net ns ct R K n 4 L (sy_fv s a 1 :: k) s) := rfl
theorem rx_8_net_4 {ns n ct R K s k z v0 v2 v3 v4} : rn_8_net ns ct R K (n + 1) 4 [v0, .inl (true, z), v2, v3, v4] k s = (rn_8_net ns ct R K n 5 [v0, .inl (true, z), v2, v3, v4] (.inl (true, z) :: k) s) := rfl
theorem rx_8_net_5 {ns n ct R K s k z v0 v1 v3 v4} : rn_8_net ns ct R K (n + 1) 5 [v0, v1, .inl (true, z), v3, v4] k s = (rn_8_net ns ct R K n 6 [v0, v1, .inl (true, z), v3, v4] (.inl (true, z) :: k) s) := rfl
theorem rx_8_net_6 {ns n ct R K s k z v0 v1 v2 v4} : rn_8_net ns ct R K (n + 1) 6 [v0, v1, v2, .inl (true, z), v4] k s = (rn_8_net ns ct R K n 7 [v0, v1, v2, .inl (true, z), v4] (.inl (true, z) :: k) s) := rfl
theorem rx_8_net_7 {ns n ct R K s k z v0 v1 v2 v3} : rn_8_net ns ct R K (n + 1) 7 [v0, v1, v2, v3, .inl (true, z)] k s = (rn_8_net ns ct R K n 9 [v0, v1, v2, v3, .inl (true, z)] (.inl (true, z) :: k) s) := rfl
theorem rx_8_net_9 {ns n ct R K s L k} : rn_8_net ns ct R K (n + 1) 9 L k s = (sy_call false (ct 104) k s fun r t => rn_8_net ns ct R K n 12 L r t) := rfl
theorem rx_8_net_12 {ns n ct R K s L k a x} : rn_8_net ns ct R K (n + 1) 12 L (.inl (a, x) :: k) s = (sy_ri a x ∧ (¬ x = 0 → rn_8_net ns ct R K n 17 L k s) ∧ (x = 0 → rn_8_net ns ct R K n 15 L k s)) := rfl
theorem rx_8_net_15 {ns n ct R K s L k} : rn_8_net ns ct R K (n + 1) 15 L k s = (rn_8_net ns ct R K n 16 L (.inl (true, 0) :: k) s) := rfl
theorem rx_8_net_16 {ns n ct R K s L a z} : rn_8_net ns ct R K (n + 1) 16 L [.inl (a, z)] s = (sy_ri a z ∧ sy_b01 true z ∧ R (some (.inl (true, z))) s) := rfl
theorem rx_8_net_17 {ns n ct R K s k z v0 v2 v3 v4} : rn_8_net ns ct R K (n + 1) 17 [v0, .inl (true, z), v2, v3, v4] k s = (rn_8_net ns ct R K n 18 [v0, .inl (true, z), v2, v3, v4] (.inl (true, z) :: k) s) := rfl
theorem rx_8_net_18 {ns n ct R K s L k a x} : rn_8_net ns ct R K (n + 1) 18 L (.inl (a, x) :: k) s = (sy_ri a x ∧ (x = 0 → rn_8_net ns ct R K n 28 L k s) ∧ (¬ x = 0 → rn_8_net ns ct R K n 21 L k s)) := rfl
theorem rx_8_net_21 {ns n ct R K s k z v1 v2 v3 v4} : rn_8_net ns ct R K (n + 1) 21 [.inr (.inr (some z)), v1, v2, v3, v4] k s = (rn_8_net ns ct R K n 22 [.inr (.inr (some z)), v1, v2, v3, v4] (.inr (.inr (some z)) :: k) s) := rfl
theorem rx_8_net_22 {ns n ct R K s L k a} : rn_8_net ns ct R K (n + 1) 22 L (.inr (.inr (some (some a))) :: k) s = (sy_ob a = some 8 ∧ rn_8_net ns ct R K n 25 L (sy_fv s a 0 :: k) s) := rfl
theorem rx_8_net_25 {ns n ct R K s L k} : rn_8_net ns ct R K (n + 1) 25 L k s = (sy_call false (ct 108) k s fun r t => rn_8_net ns ct R K n 28 L r t) := rfl
theorem rx_8_net_28 {ns n ct R K s k z v1 v2 v3 v4} : rn_8_net ns ct R K (n + 1) 28 [.inr (.inr (some z)), v1, v2, v3, v4] k s = (rn_8_net ns ct R K n 29 [.inr (.inr (some z)), v1, v2, v3, v4] (.inr (.inr (some z)) :: k) s) := rfl
theorem rx_8_net_29 {ns n ct R K s L k a} : rn_8_net ns ct R K (n + 1) 29 L (.inr (.inr (some (some a))) :: k) s = (sy_ob a = some 8 ∧ rn_8_net ns ct R K n 32 L (sy_fv s a 2 :: k) s) := rfl
theorem rx_8_net_32 {ns n ct R K s L k} : rn_8_net ns ct R K (n + 1) 32 L k s = (sy_call false (ct 63) k s fun r t => rn_8_net ns ct R K n 35 L r t) := rfl
theorem rx_8_net_35 {ns n ct R K s L k} : rn_8_net ns ct R K (n + 1) 35 L k s = (rn_8_net ns ct R K n 36 L (.inl (true, 1) :: k) s) := rfl
theorem rx_8_net_36 {ns n ct R K s L a z} : rn_8_net ns ct R K (n + 1) 36 L [.inl (a, z)] s = (sy_ri a z ∧ sy_b01 true z ∧ R (some (.inl (true, z))) s) := rfl
def y_8_figures : MethodName := ⟨"StarHide", "figures", "()I"⟩
abbrev c_8_figures : ByteArray := prog_1_method_11_code
def tc_8_figures (pc : Nat) : Option sy_I := match pc with
  | 0 => some (.aload_n 0, 1, 0)
  | 1 => some (.getfield 19, 4, 0)
  | 4 => some (.getfield 111, 7, 0)
  | 7 => some (.ireturn, 8, 0)
  | _ => none
theorem tv_8_figures : ∀ pc i, sy_lk 8 tc_8_figures pc = some i → sy_chk c_8_figures (some .int) false pc i = true := sy_lk_ok 8 tc_8_figures (by decide +kernel)
def Mk_8_figures (ct : Nat → Option (Bool × Nat × sy_Sp)) : sy_M := (sy_lk 8 tc_8_figures, ff_8, ki_8, kl_8, ct, false)
def rn_8_figures (ns : Nat) (ct : Nat → Option (Bool × Nat × sy_Sp)) (R : sy_R) (K : sy_K) : Nat → sy_K := sy_run ns (Mk_8_figures ct) [] R K
theorem rx_8_figures_0 {ns n ct R K s k z} : rn_8_figures ns ct R K (n + 1) 0 [.inr (.inr (some z))] k s = (rn_8_figures ns ct R K n 1 [.inr (.inr (some z))] (.inr (.inr (some z)) :: k) s) := rfl
theorem rx_8_figures_1 {ns n ct R K s L k a} : rn_8_figures ns ct R K (n + 1) 1 L (.inr (.inr (some (some a))) :: k) s = (sy_ob a = some 8 ∧ rn_8_figures ns ct R K n 4 L (sy_fv s a 1 :: k) s) := rfl
theorem rx_8_figures_4 {ns n ct R K s L k a} : rn_8_figures ns ct R K (n + 1) 4 L (.inr (.inr (some (some a))) :: k) s = (sy_ob a = some 3 ∧ rn_8_figures ns ct R K n 7 L (sy_fv s a 4 :: k) s) := rfl
theorem rx_8_figures_7 {ns n ct R K s L a z} : rn_8_figures ns ct R K (n + 1) 7 L [.inl (a, z)] s = (sy_ri a z ∧ sy_b01 false z ∧ R (some (.inl (true, z))) s) := rfl
def y_8_figure : MethodName := ⟨"StarHide", "figure", "(II)I"⟩
abbrev c_8_figure : ByteArray := prog_1_method_12_code
def tc_8_figure (pc : Nat) : Option sy_I := match pc with
  | 0 => some (.aload_n 0, 1, 0)
  | 1 => some (.getfield 19, 4, 0)
  | 4 => some (.iload_n 1, 5, 0)
  | 5 => some (.invokevirtual 114, 8, 0)
  | 8 => some (.ifCond .eq 22, 11, 30)
  | 11 => some (.iload_n 2, 12, 0)
  | 12 => some (.invokestatic 117, 15, 0)
  | 15 => some (.ifCond .eq 15, 18, 30)
  | 18 => some (.aload_n 0, 19, 0)
  | 19 => some (.getfield 19, 22, 0)
  | 22 => some (.iload_n 1, 23, 0)
  | 23 => some (.iload_n 2, 24, 0)
  | 24 => some (.invokevirtual 120, 27, 0)
  | 27 => some (.goto 5, 30, 32)
  | 30 => some (.ldc 100, 32, 0)
  | 32 => some (.ireturn, 33, 0)
  | _ => none
theorem tv_8_figure : ∀ pc i, sy_lk 33 tc_8_figure pc = some i → sy_chk c_8_figure (some .int) false pc i = true := sy_lk_ok 33 tc_8_figure (by decide +kernel)
def Mk_8_figure (ct : Nat → Option (Bool × Nat × sy_Sp)) : sy_M := (sy_lk 33 tc_8_figure, ff_8, ki_8, kl_8, ct, false)
def rn_8_figure (ns : Nat) (ct : Nat → Option (Bool × Nat × sy_Sp)) (R : sy_R) (K : sy_K) : Nat → sy_K := sy_run ns (Mk_8_figure ct) [] R K
theorem rx_8_figure_0 {ns n ct R K s k z v1 v2} : rn_8_figure ns ct R K (n + 1) 0 [.inr (.inr (some z)), v1, v2] k s = (rn_8_figure ns ct R K n 1 [.inr (.inr (some z)), v1, v2] (.inr (.inr (some z)) :: k) s) := rfl
theorem rx_8_figure_1 {ns n ct R K s L k a} : rn_8_figure ns ct R K (n + 1) 1 L (.inr (.inr (some (some a))) :: k) s = (sy_ob a = some 8 ∧ rn_8_figure ns ct R K n 4 L (sy_fv s a 1 :: k) s) := rfl
theorem rx_8_figure_4 {ns n ct R K s k z v0 v2} : rn_8_figure ns ct R K (n + 1) 4 [v0, .inl (true, z), v2] k s = (rn_8_figure ns ct R K n 5 [v0, .inl (true, z), v2] (.inl (true, z) :: k) s) := rfl
theorem rx_8_figure_5 {ns n ct R K s L k} : rn_8_figure ns ct R K (n + 1) 5 L k s = (sy_call false (ct 114) k s fun r t => rn_8_figure ns ct R K n 8 L r t) := rfl
theorem rx_8_figure_8 {ns n ct R K s L k a x} : rn_8_figure ns ct R K (n + 1) 8 L (.inl (a, x) :: k) s = (sy_ri a x ∧ (x = 0 → rn_8_figure ns ct R K n 30 L k s) ∧ (¬ x = 0 → rn_8_figure ns ct R K n 11 L k s)) := rfl
theorem rx_8_figure_11 {ns n ct R K s k z v0 v1} : rn_8_figure ns ct R K (n + 1) 11 [v0, v1, .inl (true, z)] k s = (rn_8_figure ns ct R K n 12 [v0, v1, .inl (true, z)] (.inl (true, z) :: k) s) := rfl
theorem rx_8_figure_12 {ns n ct R K s L k} : rn_8_figure ns ct R K (n + 1) 12 L k s = (sy_call true (ct 117) k s fun r t => rn_8_figure ns ct R K n 15 L r t) := rfl
theorem rx_8_figure_15 {ns n ct R K s L k a x} : rn_8_figure ns ct R K (n + 1) 15 L (.inl (a, x) :: k) s = (sy_ri a x ∧ (x = 0 → rn_8_figure ns ct R K n 30 L k s) ∧ (¬ x = 0 → rn_8_figure ns ct R K n 18 L k s)) := rfl
theorem rx_8_figure_18 {ns n ct R K s k z v1 v2} : rn_8_figure ns ct R K (n + 1) 18 [.inr (.inr (some z)), v1, v2] k s = (rn_8_figure ns ct R K n 19 [.inr (.inr (some z)), v1, v2] (.inr (.inr (some z)) :: k) s) := rfl
theorem rx_8_figure_19 {ns n ct R K s L k a} : rn_8_figure ns ct R K (n + 1) 19 L (.inr (.inr (some (some a))) :: k) s = (sy_ob a = some 8 ∧ rn_8_figure ns ct R K n 22 L (sy_fv s a 1 :: k) s) := rfl
theorem rx_8_figure_22 {ns n ct R K s k z v0 v2} : rn_8_figure ns ct R K (n + 1) 22 [v0, .inl (true, z), v2] k s = (rn_8_figure ns ct R K n 23 [v0, .inl (true, z), v2] (.inl (true, z) :: k) s) := rfl
theorem rx_8_figure_23 {ns n ct R K s k z v0 v1} : rn_8_figure ns ct R K (n + 1) 23 [v0, v1, .inl (true, z)] k s = (rn_8_figure ns ct R K n 24 [v0, v1, .inl (true, z)] (.inl (true, z) :: k) s) := rfl
theorem rx_8_figure_24 {ns n ct R K s L k} : rn_8_figure ns ct R K (n + 1) 24 L k s = (sy_call false (ct 120) k s fun r t => rn_8_figure ns ct R K n 27 L r t) := rfl
theorem rx_8_figure_27 {ns n ct R K s L k} : rn_8_figure ns ct R K (n + 1) 27 L k s = (rn_8_figure ns ct R K n 32 L k s) := rfl
theorem rx_8_figure_30 {ns n ct R K s L k} : rn_8_figure ns ct R K (n + 1) 30 L k s = (rn_8_figure ns ct R K n 32 L (.inl (true, -1000000) :: k) s) := rfl
theorem rx_8_figure_32 {ns n ct R K s L a z} : rn_8_figure ns ct R K (n + 1) 32 L [.inl (a, z)] s = (sy_ri a z ∧ sy_b01 false z ∧ R (some (.inl (true, z))) s) := rfl
def y_8_agrees : MethodName := ⟨"StarHide", "agrees", "(II)I"⟩
abbrev c_8_agrees : ByteArray := prog_1_method_13_code
def tc_8_agrees (pc : Nat) : Option sy_I := match pc with
  | 0 => some (.aload_n 0, 1, 0)
  | 1 => some (.getfield 19, 4, 0)
  | 4 => some (.iload_n 1, 5, 0)
  | 5 => some (.invokevirtual 114, 8, 0)
  | 8 => some (.ifCond .eq 14, 11, 22)
  | 11 => some (.aload_n 0, 12, 0)
  | 12 => some (.getfield 10, 15, 0)
  | 15 => some (.iload_n 2, 16, 0)
  | 16 => some (.invokevirtual 77, 19, 0)
  | 19 => some (.ifnonnull 5, 22, 24)
  | 22 => some (.iconst (-1), 23, 0)
  | 23 => some (.ireturn, 24, 0)
  | 24 => some (.aload_n 0, 25, 0)
  | 25 => some (.getfield 28, 28, 0)
  | 28 => some (.iload_n 1, 29, 0)
  | 29 => some (.iload_n 2, 30, 0)
  | 30 => some (.invokevirtual 123, 33, 0)
  | 33 => some (.ifCond .eq 7, 36, 40)
  | 36 => some (.iconst 0, 37, 0)
  | 37 => some (.goto 4, 40, 41)
  | 40 => some (.iconst 1, 41, 0)
  | 41 => some (.ireturn, 42, 0)
  | _ => none
theorem tv_8_agrees : ∀ pc i, sy_lk 42 tc_8_agrees pc = some i → sy_chk c_8_agrees (some .int) false pc i = true := sy_lk_ok 42 tc_8_agrees (by decide +kernel)
def Mk_8_agrees (ct : Nat → Option (Bool × Nat × sy_Sp)) : sy_M := (sy_lk 42 tc_8_agrees, ff_8, ki_8, kl_8, ct, false)
def rn_8_agrees (ns : Nat) (ct : Nat → Option (Bool × Nat × sy_Sp)) (R : sy_R) (K : sy_K) : Nat → sy_K := sy_run ns (Mk_8_agrees ct) [] R K
theorem rx_8_agrees_0 {ns n ct R K s k z v1 v2} : rn_8_agrees ns ct R K (n + 1) 0 [.inr (.inr (some z)), v1, v2] k s = (rn_8_agrees ns ct R K n 1 [.inr (.inr (some z)), v1, v2] (.inr (.inr (some z)) :: k) s) := rfl
theorem rx_8_agrees_1 {ns n ct R K s L k a} : rn_8_agrees ns ct R K (n + 1) 1 L (.inr (.inr (some (some a))) :: k) s = (sy_ob a = some 8 ∧ rn_8_agrees ns ct R K n 4 L (sy_fv s a 1 :: k) s) := rfl
theorem rx_8_agrees_4 {ns n ct R K s k z v0 v2} : rn_8_agrees ns ct R K (n + 1) 4 [v0, .inl (true, z), v2] k s = (rn_8_agrees ns ct R K n 5 [v0, .inl (true, z), v2] (.inl (true, z) :: k) s) := rfl
theorem rx_8_agrees_5 {ns n ct R K s L k} : rn_8_agrees ns ct R K (n + 1) 5 L k s = (sy_call false (ct 114) k s fun r t => rn_8_agrees ns ct R K n 8 L r t) := rfl
theorem rx_8_agrees_8 {ns n ct R K s L k a x} : rn_8_agrees ns ct R K (n + 1) 8 L (.inl (a, x) :: k) s = (sy_ri a x ∧ (x = 0 → rn_8_agrees ns ct R K n 22 L k s) ∧ (¬ x = 0 → rn_8_agrees ns ct R K n 11 L k s)) := rfl
theorem rx_8_agrees_11 {ns n ct R K s k z v1 v2} : rn_8_agrees ns ct R K (n + 1) 11 [.inr (.inr (some z)), v1, v2] k s = (rn_8_agrees ns ct R K n 12 [.inr (.inr (some z)), v1, v2] (.inr (.inr (some z)) :: k) s) := rfl
theorem rx_8_agrees_12 {ns n ct R K s L k a} : rn_8_agrees ns ct R K (n + 1) 12 L (.inr (.inr (some (some a))) :: k) s = (sy_ob a = some 8 ∧ rn_8_agrees ns ct R K n 15 L (sy_fv s a 0 :: k) s) := rfl
theorem rx_8_agrees_15 {ns n ct R K s k z v0 v1} : rn_8_agrees ns ct R K (n + 1) 15 [v0, v1, .inl (true, z)] k s = (rn_8_agrees ns ct R K n 16 [v0, v1, .inl (true, z)] (.inl (true, z) :: k) s) := rfl
theorem rx_8_agrees_16 {ns n ct R K s L k} : rn_8_agrees ns ct R K (n + 1) 16 L k s = (sy_call false (ct 77) k s fun r t => rn_8_agrees ns ct R K n 19 L r t) := rfl
theorem rx_8_agrees_19_n {ns n ct R K s L k} : rn_8_agrees ns ct R K (n + 1) 19 L (.inr (.inr (some none)) :: k) s = (rn_8_agrees ns ct R K n 22 L k s) := rfl
theorem rx_8_agrees_19 {ns n ct R K s L k a} : rn_8_agrees ns ct R K (n + 1) 19 L (.inr (.inr (some (some a))) :: k) s = (rn_8_agrees ns ct R K n 24 L k s) := rfl
theorem rx_8_agrees_22 {ns n ct R K s L k} : rn_8_agrees ns ct R K (n + 1) 22 L k s = (rn_8_agrees ns ct R K n 23 L (.inl (true, (-1)) :: k) s) := rfl
theorem rx_8_agrees_23 {ns n ct R K s L a z} : rn_8_agrees ns ct R K (n + 1) 23 L [.inl (a, z)] s = (sy_ri a z ∧ sy_b01 false z ∧ R (some (.inl (true, z))) s) := rfl
theorem rx_8_agrees_24 {ns n ct R K s k z v1 v2} : rn_8_agrees ns ct R K (n + 1) 24 [.inr (.inr (some z)), v1, v2] k s = (rn_8_agrees ns ct R K n 25 [.inr (.inr (some z)), v1, v2] (.inr (.inr (some z)) :: k) s) := rfl
theorem rx_8_agrees_25 {ns n ct R K s L k a} : rn_8_agrees ns ct R K (n + 1) 25 L (.inr (.inr (some (some a))) :: k) s = (sy_ob a = some 8 ∧ rn_8_agrees ns ct R K n 28 L (sy_fv s a 2 :: k) s) := rfl
theorem rx_8_agrees_28 {ns n ct R K s k z v0 v2} : rn_8_agrees ns ct R K (n + 1) 28 [v0, .inl (true, z), v2] k s = (rn_8_agrees ns ct R K n 29 [v0, .inl (true, z), v2] (.inl (true, z) :: k) s) := rfl
theorem rx_8_agrees_29 {ns n ct R K s k z v0 v1} : rn_8_agrees ns ct R K (n + 1) 29 [v0, v1, .inl (true, z)] k s = (rn_8_agrees ns ct R K n 30 [v0, v1, .inl (true, z)] (.inl (true, z) :: k) s) := rfl
theorem rx_8_agrees_30 {ns n ct R K s L k} : rn_8_agrees ns ct R K (n + 1) 30 L k s = (sy_call false (ct 123) k s fun r t => rn_8_agrees ns ct R K n 33 L r t) := rfl
theorem rx_8_agrees_33 {ns n ct R K s L k a x} : rn_8_agrees ns ct R K (n + 1) 33 L (.inl (a, x) :: k) s = (sy_ri a x ∧ (x = 0 → rn_8_agrees ns ct R K n 40 L k s) ∧ (¬ x = 0 → rn_8_agrees ns ct R K n 36 L k s)) := rfl
theorem rx_8_agrees_36 {ns n ct R K s L k} : rn_8_agrees ns ct R K (n + 1) 36 L k s = (rn_8_agrees ns ct R K n 37 L (.inl (true, 0) :: k) s) := rfl
theorem rx_8_agrees_37 {ns n ct R K s L k} : rn_8_agrees ns ct R K (n + 1) 37 L k s = (rn_8_agrees ns ct R K n 41 L k s) := rfl
theorem rx_8_agrees_40 {ns n ct R K s L k} : rn_8_agrees ns ct R K (n + 1) 40 L k s = (rn_8_agrees ns ct R K n 41 L (.inl (true, 1) :: k) s) := rfl
theorem rx_8_agrees_41 {ns n ct R K s L a z} : rn_8_agrees ns ct R K (n + 1) 41 L [.inl (a, z)] s = (sy_ri a z ∧ sy_b01 false z ∧ R (some (.inl (true, z))) s) := rfl
def y_8_fitting : MethodName := ⟨"StarHide", "fitting", "()I"⟩
abbrev c_8_fitting : ByteArray := prog_1_method_14_code
def tc_8_fitting (pc : Nat) : Option sy_I := match pc with
  | 0 => some (.aload_n 0, 1, 0)
  | 1 => some (.getfield 28, 4, 0)
  | 4 => some (.invokevirtual 127, 7, 0)
  | 7 => some (.ireturn, 8, 0)
  | _ => none
theorem tv_8_fitting : ∀ pc i, sy_lk 8 tc_8_fitting pc = some i → sy_chk c_8_fitting (some .int) false pc i = true := sy_lk_ok 8 tc_8_fitting (by decide +kernel)
def Mk_8_fitting (ct : Nat → Option (Bool × Nat × sy_Sp)) : sy_M := (sy_lk 8 tc_8_fitting, ff_8, ki_8, kl_8, ct, false)
def rn_8_fitting (ns : Nat) (ct : Nat → Option (Bool × Nat × sy_Sp)) (R : sy_R) (K : sy_K) : Nat → sy_K := sy_run ns (Mk_8_fitting ct) [] R K
theorem rx_8_fitting_0 {ns n ct R K s k z} : rn_8_fitting ns ct R K (n + 1) 0 [.inr (.inr (some z))] k s = (rn_8_fitting ns ct R K n 1 [.inr (.inr (some z))] (.inr (.inr (some z)) :: k) s) := rfl
theorem rx_8_fitting_1 {ns n ct R K s L k a} : rn_8_fitting ns ct R K (n + 1) 1 L (.inr (.inr (some (some a))) :: k) s = (sy_ob a = some 8 ∧ rn_8_fitting ns ct R K n 4 L (sy_fv s a 2 :: k) s) := rfl
theorem rx_8_fitting_4 {ns n ct R K s L k} : rn_8_fitting ns ct R K (n + 1) 4 L k s = (sy_call false (ct 127) k s fun r t => rn_8_fitting ns ct R K n 7 L r t) := rfl
theorem rx_8_fitting_7 {ns n ct R K s L a z} : rn_8_fitting ns ct R K (n + 1) 7 L [.inl (a, z)] s = (sy_ri a z ∧ sy_b01 false z ∧ R (some (.inl (true, z))) s) := rfl
def y_8_fits : MethodName := ⟨"StarHide", "fits", "(I)I"⟩
abbrev c_8_fits : ByteArray := prog_1_method_15_code
def tc_8_fits (pc : Nat) : Option sy_I := match pc with
  | 0 => some (.aload_n 0, 1, 0)
  | 1 => some (.getfield 28, 4, 0)
  | 4 => some (.iload_n 1, 5, 0)
  | 5 => some (.invokevirtual 131, 8, 0)
  | 8 => some (.ireturn, 9, 0)
  | _ => none
theorem tv_8_fits : ∀ pc i, sy_lk 9 tc_8_fits pc = some i → sy_chk c_8_fits (some .int) false pc i = true := sy_lk_ok 9 tc_8_fits (by decide +kernel)
def Mk_8_fits (ct : Nat → Option (Bool × Nat × sy_Sp)) : sy_M := (sy_lk 9 tc_8_fits, ff_8, ki_8, kl_8, ct, false)
def rn_8_fits (ns : Nat) (ct : Nat → Option (Bool × Nat × sy_Sp)) (R : sy_R) (K : sy_K) : Nat → sy_K := sy_run ns (Mk_8_fits ct) [] R K
theorem rx_8_fits_0 {ns n ct R K s k z v1} : rn_8_fits ns ct R K (n + 1) 0 [.inr (.inr (some z)), v1] k s = (rn_8_fits ns ct R K n 1 [.inr (.inr (some z)), v1] (.inr (.inr (some z)) :: k) s) := rfl
theorem rx_8_fits_1 {ns n ct R K s L k a} : rn_8_fits ns ct R K (n + 1) 1 L (.inr (.inr (some (some a))) :: k) s = (sy_ob a = some 8 ∧ rn_8_fits ns ct R K n 4 L (sy_fv s a 2 :: k) s) := rfl
theorem rx_8_fits_4 {ns n ct R K s k z v0} : rn_8_fits ns ct R K (n + 1) 4 [v0, .inl (true, z)] k s = (rn_8_fits ns ct R K n 5 [v0, .inl (true, z)] (.inl (true, z) :: k) s) := rfl
theorem rx_8_fits_5 {ns n ct R K s L k} : rn_8_fits ns ct R K (n + 1) 5 L k s = (sy_call false (ct 131) k s fun r t => rn_8_fits ns ct R K n 8 L r t) := rfl
theorem rx_8_fits_8 {ns n ct R K s L a z} : rn_8_fits ns ct R K (n + 1) 8 L [.inl (a, z)] s = (sy_ri a z ∧ sy_b01 false z ∧ R (some (.inl (true, z))) s) := rfl
def y_8_size : MethodName := ⟨"StarHide", "size", "(Z)I"⟩
abbrev c_8_size : ByteArray := prog_1_method_16_code
def tc_8_size (pc : Nat) : Option sy_I := match pc with
  | 0 => some (.iload_n 1, 1, 0)
  | 1 => some (.ifCond .eq 13, 4, 14)
  | 4 => some (.aload_n 0, 5, 0)
  | 5 => some (.getfield 28, 8, 0)
  | 8 => some (.invokevirtual 135, 11, 0)
  | 11 => some (.goto 10, 14, 21)
  | 14 => some (.aload_n 0, 15, 0)
  | 15 => some (.getfield 28, 18, 0)
  | 18 => some (.invokevirtual 138, 21, 0)
  | 21 => some (.ireturn, 22, 0)
  | _ => none
theorem tv_8_size : ∀ pc i, sy_lk 22 tc_8_size pc = some i → sy_chk c_8_size (some .int) false pc i = true := sy_lk_ok 22 tc_8_size (by decide +kernel)
def Mk_8_size (ct : Nat → Option (Bool × Nat × sy_Sp)) : sy_M := (sy_lk 22 tc_8_size, ff_8, ki_8, kl_8, ct, false)
def rn_8_size (ns : Nat) (ct : Nat → Option (Bool × Nat × sy_Sp)) (R : sy_R) (K : sy_K) : Nat → sy_K := sy_run ns (Mk_8_size ct) [] R K
theorem rx_8_size_0 {ns n ct R K s k z v0} : rn_8_size ns ct R K (n + 1) 0 [v0, .inl (true, z)] k s = (rn_8_size ns ct R K n 1 [v0, .inl (true, z)] (.inl (true, z) :: k) s) := rfl
theorem rx_8_size_1 {ns n ct R K s L k a x} : rn_8_size ns ct R K (n + 1) 1 L (.inl (a, x) :: k) s = (sy_ri a x ∧ (x = 0 → rn_8_size ns ct R K n 14 L k s) ∧ (¬ x = 0 → rn_8_size ns ct R K n 4 L k s)) := rfl
theorem rx_8_size_4 {ns n ct R K s k z v1} : rn_8_size ns ct R K (n + 1) 4 [.inr (.inr (some z)), v1] k s = (rn_8_size ns ct R K n 5 [.inr (.inr (some z)), v1] (.inr (.inr (some z)) :: k) s) := rfl
theorem rx_8_size_5 {ns n ct R K s L k a} : rn_8_size ns ct R K (n + 1) 5 L (.inr (.inr (some (some a))) :: k) s = (sy_ob a = some 8 ∧ rn_8_size ns ct R K n 8 L (sy_fv s a 2 :: k) s) := rfl
theorem rx_8_size_8 {ns n ct R K s L k} : rn_8_size ns ct R K (n + 1) 8 L k s = (sy_call false (ct 135) k s fun r t => rn_8_size ns ct R K n 11 L r t) := rfl
theorem rx_8_size_11 {ns n ct R K s L k} : rn_8_size ns ct R K (n + 1) 11 L k s = (rn_8_size ns ct R K n 21 L k s) := rfl
theorem rx_8_size_14 {ns n ct R K s k z v1} : rn_8_size ns ct R K (n + 1) 14 [.inr (.inr (some z)), v1] k s = (rn_8_size ns ct R K n 15 [.inr (.inr (some z)), v1] (.inr (.inr (some z)) :: k) s) := rfl
theorem rx_8_size_15 {ns n ct R K s L k a} : rn_8_size ns ct R K (n + 1) 15 L (.inr (.inr (some (some a))) :: k) s = (sy_ob a = some 8 ∧ rn_8_size ns ct R K n 18 L (sy_fv s a 2 :: k) s) := rfl
theorem rx_8_size_18 {ns n ct R K s L k} : rn_8_size ns ct R K (n + 1) 18 L k s = (sy_call false (ct 138) k s fun r t => rn_8_size ns ct R K n 21 L r t) := rfl
theorem rx_8_size_21 {ns n ct R K s L a z} : rn_8_size ns ct R K (n + 1) 21 L [.inl (a, z)] s = (sy_ri a z ∧ sy_b01 false z ∧ R (some (.inl (true, z))) s) := rfl
def y_8_bad : MethodName := ⟨"StarHide", "bad", "(I)I"⟩
abbrev c_8_bad : ByteArray := prog_1_method_17_code
def tc_8_bad (pc : Nat) : Option sy_I := match pc with
  | 0 => some (.iload_n 1, 1, 0)
  | 1 => some (.ifCond .ne 11, 4, 12)
  | 4 => some (.aload_n 0, 5, 0)
  | 5 => some (.getfield 28, 8, 0)
  | 8 => some (.invokevirtual 141, 11, 0)
  | 11 => some (.ireturn, 12, 0)
  | 12 => some (.iload_n 1, 13, 0)
  | 13 => some (.iconst 1, 14, 0)
  | 14 => some (.if_icmp .ne 13, 17, 27)
  | 17 => some (.aload_n 0, 18, 0)
  | 18 => some (.getfield 28, 21, 0)
  | 21 => some (.invokevirtual 144, 24, 0)
  | 24 => some (.goto 4, 27, 28)
  | 27 => some (.iconst (-1), 28, 0)
  | 28 => some (.ireturn, 29, 0)
  | _ => none
theorem tv_8_bad : ∀ pc i, sy_lk 29 tc_8_bad pc = some i → sy_chk c_8_bad (some .int) false pc i = true := sy_lk_ok 29 tc_8_bad (by decide +kernel)
def Mk_8_bad (ct : Nat → Option (Bool × Nat × sy_Sp)) : sy_M := (sy_lk 29 tc_8_bad, ff_8, ki_8, kl_8, ct, false)
def rn_8_bad (ns : Nat) (ct : Nat → Option (Bool × Nat × sy_Sp)) (R : sy_R) (K : sy_K) : Nat → sy_K := sy_run ns (Mk_8_bad ct) [] R K
theorem rx_8_bad_0 {ns n ct R K s k z v0} : rn_8_bad ns ct R K (n + 1) 0 [v0, .inl (true, z)] k s = (rn_8_bad ns ct R K n 1 [v0, .inl (true, z)] (.inl (true, z) :: k) s) := rfl
theorem rx_8_bad_1 {ns n ct R K s L k a x} : rn_8_bad ns ct R K (n + 1) 1 L (.inl (a, x) :: k) s = (sy_ri a x ∧ (¬ x = 0 → rn_8_bad ns ct R K n 12 L k s) ∧ (x = 0 → rn_8_bad ns ct R K n 4 L k s)) := rfl
theorem rx_8_bad_4 {ns n ct R K s k z v1} : rn_8_bad ns ct R K (n + 1) 4 [.inr (.inr (some z)), v1] k s = (rn_8_bad ns ct R K n 5 [.inr (.inr (some z)), v1] (.inr (.inr (some z)) :: k) s) := rfl
theorem rx_8_bad_5 {ns n ct R K s L k a} : rn_8_bad ns ct R K (n + 1) 5 L (.inr (.inr (some (some a))) :: k) s = (sy_ob a = some 8 ∧ rn_8_bad ns ct R K n 8 L (sy_fv s a 2 :: k) s) := rfl
theorem rx_8_bad_8 {ns n ct R K s L k} : rn_8_bad ns ct R K (n + 1) 8 L k s = (sy_call false (ct 141) k s fun r t => rn_8_bad ns ct R K n 11 L r t) := rfl
theorem rx_8_bad_11 {ns n ct R K s L a z} : rn_8_bad ns ct R K (n + 1) 11 L [.inl (a, z)] s = (sy_ri a z ∧ sy_b01 false z ∧ R (some (.inl (true, z))) s) := rfl
theorem rx_8_bad_12 {ns n ct R K s k z v0} : rn_8_bad ns ct R K (n + 1) 12 [v0, .inl (true, z)] k s = (rn_8_bad ns ct R K n 13 [v0, .inl (true, z)] (.inl (true, z) :: k) s) := rfl
theorem rx_8_bad_13 {ns n ct R K s L k} : rn_8_bad ns ct R K (n + 1) 13 L k s = (rn_8_bad ns ct R K n 14 L (.inl (true, 1) :: k) s) := rfl
theorem rx_8_bad_14 {ns n ct R K s L k a b x y} : rn_8_bad ns ct R K (n + 1) 14 L (.inl (b, y) :: .inl (a, x) :: k) s = (sy_ri a x ∧ sy_ri b y ∧ (¬ x = y → rn_8_bad ns ct R K n 27 L k s) ∧ (x = y → rn_8_bad ns ct R K n 17 L k s)) := rfl
theorem rx_8_bad_17 {ns n ct R K s k z v1} : rn_8_bad ns ct R K (n + 1) 17 [.inr (.inr (some z)), v1] k s = (rn_8_bad ns ct R K n 18 [.inr (.inr (some z)), v1] (.inr (.inr (some z)) :: k) s) := rfl
theorem rx_8_bad_18 {ns n ct R K s L k a} : rn_8_bad ns ct R K (n + 1) 18 L (.inr (.inr (some (some a))) :: k) s = (sy_ob a = some 8 ∧ rn_8_bad ns ct R K n 21 L (sy_fv s a 2 :: k) s) := rfl
theorem rx_8_bad_21 {ns n ct R K s L k} : rn_8_bad ns ct R K (n + 1) 21 L k s = (sy_call false (ct 144) k s fun r t => rn_8_bad ns ct R K n 24 L r t) := rfl
theorem rx_8_bad_24 {ns n ct R K s L k} : rn_8_bad ns ct R K (n + 1) 24 L k s = (rn_8_bad ns ct R K n 28 L k s) := rfl
theorem rx_8_bad_27 {ns n ct R K s L k} : rn_8_bad ns ct R K (n + 1) 27 L k s = (rn_8_bad ns ct R K n 28 L (.inl (true, (-1)) :: k) s) := rfl
theorem rx_8_bad_28 {ns n ct R K s L a z} : rn_8_bad ns ct R K (n + 1) 28 L [.inl (a, z)] s = (sy_ri a z ∧ sy_b01 false z ∧ R (some (.inl (true, z))) s) := rfl
def y_8_isBad : MethodName := ⟨"StarHide", "isBad", "(I)I"⟩
abbrev c_8_isBad : ByteArray := prog_1_method_18_code
def tc_8_isBad (pc : Nat) : Option sy_I := match pc with
  | 0 => some (.aload_n 0, 1, 0)
  | 1 => some (.getfield 10, 4, 0)
  | 4 => some (.iload_n 1, 5, 0)
  | 5 => some (.invokevirtual 77, 8, 0)
  | 8 => some (.ifnonnull 5, 11, 13)
  | 11 => some (.iconst (-1), 12, 0)
  | 12 => some (.ireturn, 13, 0)
  | 13 => some (.aload_n 0, 14, 0)
  | 14 => some (.getfield 28, 17, 0)
  | 17 => some (.aload_n 0, 18, 0)
  | 18 => some (.getfield 28, 21, 0)
  | 21 => some (.invokevirtual 144, 24, 0)
  | 24 => some (.iload_n 1, 25, 0)
  | 25 => some (.invokevirtual 123, 28, 0)
  | 28 => some (.ifCond .eq 7, 31, 35)
  | 31 => some (.iconst 1, 32, 0)
  | 32 => some (.goto 4, 35, 36)
  | 35 => some (.iconst 0, 36, 0)
  | 36 => some (.ireturn, 37, 0)
  | _ => none
theorem tv_8_isBad : ∀ pc i, sy_lk 37 tc_8_isBad pc = some i → sy_chk c_8_isBad (some .int) false pc i = true := sy_lk_ok 37 tc_8_isBad (by decide +kernel)
def Mk_8_isBad (ct : Nat → Option (Bool × Nat × sy_Sp)) : sy_M := (sy_lk 37 tc_8_isBad, ff_8, ki_8, kl_8, ct, false)
def rn_8_isBad (ns : Nat) (ct : Nat → Option (Bool × Nat × sy_Sp)) (R : sy_R) (K : sy_K) : Nat → sy_K := sy_run ns (Mk_8_isBad ct) [] R K
theorem rx_8_isBad_0 {ns n ct R K s k z v1} : rn_8_isBad ns ct R K (n + 1) 0 [.inr (.inr (some z)), v1] k s = (rn_8_isBad ns ct R K n 1 [.inr (.inr (some z)), v1] (.inr (.inr (some z)) :: k) s) := rfl
theorem rx_8_isBad_1 {ns n ct R K s L k a} : rn_8_isBad ns ct R K (n + 1) 1 L (.inr (.inr (some (some a))) :: k) s = (sy_ob a = some 8 ∧ rn_8_isBad ns ct R K n 4 L (sy_fv s a 0 :: k) s) := rfl
theorem rx_8_isBad_4 {ns n ct R K s k z v0} : rn_8_isBad ns ct R K (n + 1) 4 [v0, .inl (true, z)] k s = (rn_8_isBad ns ct R K n 5 [v0, .inl (true, z)] (.inl (true, z) :: k) s) := rfl
theorem rx_8_isBad_5 {ns n ct R K s L k} : rn_8_isBad ns ct R K (n + 1) 5 L k s = (sy_call false (ct 77) k s fun r t => rn_8_isBad ns ct R K n 8 L r t) := rfl
theorem rx_8_isBad_8_n {ns n ct R K s L k} : rn_8_isBad ns ct R K (n + 1) 8 L (.inr (.inr (some none)) :: k) s = (rn_8_isBad ns ct R K n 11 L k s) := rfl
theorem rx_8_isBad_8 {ns n ct R K s L k a} : rn_8_isBad ns ct R K (n + 1) 8 L (.inr (.inr (some (some a))) :: k) s = (rn_8_isBad ns ct R K n 13 L k s) := rfl
theorem rx_8_isBad_11 {ns n ct R K s L k} : rn_8_isBad ns ct R K (n + 1) 11 L k s = (rn_8_isBad ns ct R K n 12 L (.inl (true, (-1)) :: k) s) := rfl
theorem rx_8_isBad_12 {ns n ct R K s L a z} : rn_8_isBad ns ct R K (n + 1) 12 L [.inl (a, z)] s = (sy_ri a z ∧ sy_b01 false z ∧ R (some (.inl (true, z))) s) := rfl
theorem rx_8_isBad_13 {ns n ct R K s k z v1} : rn_8_isBad ns ct R K (n + 1) 13 [.inr (.inr (some z)), v1] k s = (rn_8_isBad ns ct R K n 14 [.inr (.inr (some z)), v1] (.inr (.inr (some z)) :: k) s) := rfl
theorem rx_8_isBad_14 {ns n ct R K s L k a} : rn_8_isBad ns ct R K (n + 1) 14 L (.inr (.inr (some (some a))) :: k) s = (sy_ob a = some 8 ∧ rn_8_isBad ns ct R K n 17 L (sy_fv s a 2 :: k) s) := rfl
theorem rx_8_isBad_17 {ns n ct R K s k z v1} : rn_8_isBad ns ct R K (n + 1) 17 [.inr (.inr (some z)), v1] k s = (rn_8_isBad ns ct R K n 18 [.inr (.inr (some z)), v1] (.inr (.inr (some z)) :: k) s) := rfl
theorem rx_8_isBad_18 {ns n ct R K s L k a} : rn_8_isBad ns ct R K (n + 1) 18 L (.inr (.inr (some (some a))) :: k) s = (sy_ob a = some 8 ∧ rn_8_isBad ns ct R K n 21 L (sy_fv s a 2 :: k) s) := rfl
theorem rx_8_isBad_21 {ns n ct R K s L k} : rn_8_isBad ns ct R K (n + 1) 21 L k s = (sy_call false (ct 144) k s fun r t => rn_8_isBad ns ct R K n 24 L r t) := rfl
theorem rx_8_isBad_24 {ns n ct R K s k z v0} : rn_8_isBad ns ct R K (n + 1) 24 [v0, .inl (true, z)] k s = (rn_8_isBad ns ct R K n 25 [v0, .inl (true, z)] (.inl (true, z) :: k) s) := rfl
theorem rx_8_isBad_25 {ns n ct R K s L k} : rn_8_isBad ns ct R K (n + 1) 25 L k s = (sy_call false (ct 123) k s fun r t => rn_8_isBad ns ct R K n 28 L r t) := rfl
theorem rx_8_isBad_28 {ns n ct R K s L k a x} : rn_8_isBad ns ct R K (n + 1) 28 L (.inl (a, x) :: k) s = (sy_ri a x ∧ (x = 0 → rn_8_isBad ns ct R K n 35 L k s) ∧ (¬ x = 0 → rn_8_isBad ns ct R K n 31 L k s)) := rfl
theorem rx_8_isBad_31 {ns n ct R K s L k} : rn_8_isBad ns ct R K (n + 1) 31 L k s = (rn_8_isBad ns ct R K n 32 L (.inl (true, 1) :: k) s) := rfl
theorem rx_8_isBad_32 {ns n ct R K s L k} : rn_8_isBad ns ct R K (n + 1) 32 L k s = (rn_8_isBad ns ct R K n 36 L k s) := rfl
theorem rx_8_isBad_35 {ns n ct R K s L k} : rn_8_isBad ns ct R K (n + 1) 35 L k s = (rn_8_isBad ns ct R K n 36 L (.inl (true, 0) :: k) s) := rfl
theorem rx_8_isBad_36 {ns n ct R K s L a z} : rn_8_isBad ns ct R K (n + 1) 36 L [.inl (a, z)] s = (sy_ri a z ∧ sy_b01 false z ∧ R (some (.inl (true, z))) s) := rfl
def y_8_clock : MethodName := ⟨"StarHide", "clock", "(II)I"⟩
abbrev c_8_clock : ByteArray := prog_1_method_19_code
def tc_8_clock (pc : Nat) : Option sy_I := match pc with
  | 0 => some (.aload_n 0, 1, 0)
  | 1 => some (.getfield 10, 4, 0)
  | 4 => some (.iload_n 1, 5, 0)
  | 5 => some (.invokevirtual 77, 8, 0)
  | 8 => some (.ifnonnull 9, 11, 17)
  | 11 => some (.sipush (-1000), 14, 0)
  | 14 => some (.goto 12, 17, 26)
  | 17 => some (.aload_n 0, 18, 0)
  | 18 => some (.getfield 28, 21, 0)
  | 21 => some (.iload_n 1, 22, 0)
  | 22 => some (.iload_n 2, 23, 0)
  | 23 => some (.invokevirtual 147, 26, 0)
  | 26 => some (.ireturn, 27, 0)
  | _ => none
theorem tv_8_clock : ∀ pc i, sy_lk 27 tc_8_clock pc = some i → sy_chk c_8_clock (some .int) false pc i = true := sy_lk_ok 27 tc_8_clock (by decide +kernel)
def Mk_8_clock (ct : Nat → Option (Bool × Nat × sy_Sp)) : sy_M := (sy_lk 27 tc_8_clock, ff_8, ki_8, kl_8, ct, false)
def rn_8_clock (ns : Nat) (ct : Nat → Option (Bool × Nat × sy_Sp)) (R : sy_R) (K : sy_K) : Nat → sy_K := sy_run ns (Mk_8_clock ct) [] R K
theorem rx_8_clock_0 {ns n ct R K s k z v1 v2} : rn_8_clock ns ct R K (n + 1) 0 [.inr (.inr (some z)), v1, v2] k s = (rn_8_clock ns ct R K n 1 [.inr (.inr (some z)), v1, v2] (.inr (.inr (some z)) :: k) s) := rfl
theorem rx_8_clock_1 {ns n ct R K s L k a} : rn_8_clock ns ct R K (n + 1) 1 L (.inr (.inr (some (some a))) :: k) s = (sy_ob a = some 8 ∧ rn_8_clock ns ct R K n 4 L (sy_fv s a 0 :: k) s) := rfl
theorem rx_8_clock_4 {ns n ct R K s k z v0 v2} : rn_8_clock ns ct R K (n + 1) 4 [v0, .inl (true, z), v2] k s = (rn_8_clock ns ct R K n 5 [v0, .inl (true, z), v2] (.inl (true, z) :: k) s) := rfl
theorem rx_8_clock_5 {ns n ct R K s L k} : rn_8_clock ns ct R K (n + 1) 5 L k s = (sy_call false (ct 77) k s fun r t => rn_8_clock ns ct R K n 8 L r t) := rfl
theorem rx_8_clock_8_n {ns n ct R K s L k} : rn_8_clock ns ct R K (n + 1) 8 L (.inr (.inr (some none)) :: k) s = (rn_8_clock ns ct R K n 11 L k s) := rfl
theorem rx_8_clock_8 {ns n ct R K s L k a} : rn_8_clock ns ct R K (n + 1) 8 L (.inr (.inr (some (some a))) :: k) s = (rn_8_clock ns ct R K n 17 L k s) := rfl
theorem rx_8_clock_11 {ns n ct R K s L k} : rn_8_clock ns ct R K (n + 1) 11 L k s = (rn_8_clock ns ct R K n 14 L (.inl (true, (-1000)) :: k) s) := rfl
theorem rx_8_clock_14 {ns n ct R K s L k} : rn_8_clock ns ct R K (n + 1) 14 L k s = (rn_8_clock ns ct R K n 26 L k s) := rfl
theorem rx_8_clock_17 {ns n ct R K s k z v1 v2} : rn_8_clock ns ct R K (n + 1) 17 [.inr (.inr (some z)), v1, v2] k s = (rn_8_clock ns ct R K n 18 [.inr (.inr (some z)), v1, v2] (.inr (.inr (some z)) :: k) s) := rfl
theorem rx_8_clock_18 {ns n ct R K s L k a} : rn_8_clock ns ct R K (n + 1) 18 L (.inr (.inr (some (some a))) :: k) s = (sy_ob a = some 8 ∧ rn_8_clock ns ct R K n 21 L (sy_fv s a 2 :: k) s) := rfl
theorem rx_8_clock_21 {ns n ct R K s k z v0 v2} : rn_8_clock ns ct R K (n + 1) 21 [v0, .inl (true, z), v2] k s = (rn_8_clock ns ct R K n 22 [v0, .inl (true, z), v2] (.inl (true, z) :: k) s) := rfl
theorem rx_8_clock_22 {ns n ct R K s k z v0 v1} : rn_8_clock ns ct R K (n + 1) 22 [v0, v1, .inl (true, z)] k s = (rn_8_clock ns ct R K n 23 [v0, v1, .inl (true, z)] (.inl (true, z) :: k) s) := rfl
theorem rx_8_clock_23 {ns n ct R K s L k} : rn_8_clock ns ct R K (n + 1) 23 L k s = (sy_call false (ct 147) k s fun r t => rn_8_clock ns ct R K n 26 L r t) := rfl
theorem rx_8_clock_26 {ns n ct R K s L a z} : rn_8_clock ns ct R K (n + 1) 26 L [.inl (a, z)] s = (sy_ri a z ∧ sy_b01 false z ∧ R (some (.inl (true, z))) s) := rfl
def y_8_inside : MethodName := ⟨"StarHide", "inside", "(I)I"⟩
abbrev c_8_inside : ByteArray := prog_1_method_20_code
def tc_8_inside (pc : Nat) : Option sy_I := match pc with
  | 0 => some (.iload_n 1, 1, 0)
  | 1 => some (.ifCond .ne 11, 4, 12)
  | 4 => some (.aload_n 0, 5, 0)
  | 5 => some (.getfield 37, 8, 0)
  | 8 => some (.invokevirtual 150, 11, 0)
  | 11 => some (.ireturn, 12, 0)
  | 12 => some (.iload_n 1, 13, 0)
  | 13 => some (.iconst 1, 14, 0)
  | 14 => some (.if_icmp .ne 13, 17, 27)
  | 17 => some (.aload_n 0, 18, 0)
  | 18 => some (.getfield 37, 21, 0)
  | 21 => some (.invokevirtual 153, 24, 0)
  | 24 => some (.goto 4, 27, 28)
  | 27 => some (.iconst (-1), 28, 0)
  | 28 => some (.ireturn, 29, 0)
  | _ => none
theorem tv_8_inside : ∀ pc i, sy_lk 29 tc_8_inside pc = some i → sy_chk c_8_inside (some .int) false pc i = true := sy_lk_ok 29 tc_8_inside (by decide +kernel)
def Mk_8_inside (ct : Nat → Option (Bool × Nat × sy_Sp)) : sy_M := (sy_lk 29 tc_8_inside, ff_8, ki_8, kl_8, ct, false)
def rn_8_inside (ns : Nat) (ct : Nat → Option (Bool × Nat × sy_Sp)) (R : sy_R) (K : sy_K) : Nat → sy_K := sy_run ns (Mk_8_inside ct) [] R K
theorem rx_8_inside_0 {ns n ct R K s k z v0} : rn_8_inside ns ct R K (n + 1) 0 [v0, .inl (true, z)] k s = (rn_8_inside ns ct R K n 1 [v0, .inl (true, z)] (.inl (true, z) :: k) s) := rfl
theorem rx_8_inside_1 {ns n ct R K s L k a x} : rn_8_inside ns ct R K (n + 1) 1 L (.inl (a, x) :: k) s = (sy_ri a x ∧ (¬ x = 0 → rn_8_inside ns ct R K n 12 L k s) ∧ (x = 0 → rn_8_inside ns ct R K n 4 L k s)) := rfl
theorem rx_8_inside_4 {ns n ct R K s k z v1} : rn_8_inside ns ct R K (n + 1) 4 [.inr (.inr (some z)), v1] k s = (rn_8_inside ns ct R K n 5 [.inr (.inr (some z)), v1] (.inr (.inr (some z)) :: k) s) := rfl
theorem rx_8_inside_5 {ns n ct R K s L k a} : rn_8_inside ns ct R K (n + 1) 5 L (.inr (.inr (some (some a))) :: k) s = (sy_ob a = some 8 ∧ rn_8_inside ns ct R K n 8 L (sy_fv s a 3 :: k) s) := rfl
theorem rx_8_inside_8 {ns n ct R K s L k} : rn_8_inside ns ct R K (n + 1) 8 L k s = (sy_call false (ct 150) k s fun r t => rn_8_inside ns ct R K n 11 L r t) := rfl
theorem rx_8_inside_11 {ns n ct R K s L a z} : rn_8_inside ns ct R K (n + 1) 11 L [.inl (a, z)] s = (sy_ri a z ∧ sy_b01 false z ∧ R (some (.inl (true, z))) s) := rfl
theorem rx_8_inside_12 {ns n ct R K s k z v0} : rn_8_inside ns ct R K (n + 1) 12 [v0, .inl (true, z)] k s = (rn_8_inside ns ct R K n 13 [v0, .inl (true, z)] (.inl (true, z) :: k) s) := rfl
theorem rx_8_inside_13 {ns n ct R K s L k} : rn_8_inside ns ct R K (n + 1) 13 L k s = (rn_8_inside ns ct R K n 14 L (.inl (true, 1) :: k) s) := rfl
theorem rx_8_inside_14 {ns n ct R K s L k a b x y} : rn_8_inside ns ct R K (n + 1) 14 L (.inl (b, y) :: .inl (a, x) :: k) s = (sy_ri a x ∧ sy_ri b y ∧ (¬ x = y → rn_8_inside ns ct R K n 27 L k s) ∧ (x = y → rn_8_inside ns ct R K n 17 L k s)) := rfl
theorem rx_8_inside_17 {ns n ct R K s k z v1} : rn_8_inside ns ct R K (n + 1) 17 [.inr (.inr (some z)), v1] k s = (rn_8_inside ns ct R K n 18 [.inr (.inr (some z)), v1] (.inr (.inr (some z)) :: k) s) := rfl
theorem rx_8_inside_18 {ns n ct R K s L k a} : rn_8_inside ns ct R K (n + 1) 18 L (.inr (.inr (some (some a))) :: k) s = (sy_ob a = some 8 ∧ rn_8_inside ns ct R K n 21 L (sy_fv s a 3 :: k) s) := rfl
theorem rx_8_inside_21 {ns n ct R K s L k} : rn_8_inside ns ct R K (n + 1) 21 L k s = (sy_call false (ct 153) k s fun r t => rn_8_inside ns ct R K n 24 L r t) := rfl
theorem rx_8_inside_24 {ns n ct R K s L k} : rn_8_inside ns ct R K (n + 1) 24 L k s = (rn_8_inside ns ct R K n 28 L k s) := rfl
theorem rx_8_inside_27 {ns n ct R K s L k} : rn_8_inside ns ct R K (n + 1) 27 L k s = (rn_8_inside ns ct R K n 28 L (.inl (true, (-1)) :: k) s) := rfl
theorem rx_8_inside_28 {ns n ct R K s L a z} : rn_8_inside ns ct R K (n + 1) 28 L [.inl (a, z)] s = (sy_ri a z ∧ sy_b01 false z ∧ R (some (.inl (true, z))) s) := rfl
def y_8_corner : MethodName := ⟨"StarHide", "corner", "(II)I"⟩
abbrev c_8_corner : ByteArray := prog_1_method_21_code
def tc_8_corner (pc : Nat) : Option sy_I := match pc with
  | 0 => some (.iload_n 1, 1, 0)
  | 1 => some (.ifCond .lt 14, 4, 15)
  | 4 => some (.iload_n 1, 5, 0)
  | 5 => some (.aload_n 0, 6, 0)
  | 6 => some (.getfield 37, 9, 0)
  | 9 => some (.invokevirtual 150, 12, 0)
  | 12 => some (.if_icmp .lt 6, 15, 18)
  | 15 => some (.ldc 100, 17, 0)
  | 17 => some (.ireturn, 18, 0)
  | 18 => some (.iload_n 2, 19, 0)
  | 19 => some (.ifCond .ne 12, 22, 31)
  | 22 => some (.aload_n 0, 23, 0)
  | 23 => some (.getfield 37, 26, 0)
  | 26 => some (.iload_n 1, 27, 0)
  | 27 => some (.invokevirtual 156, 30, 0)
  | 30 => some (.ireturn, 31, 0)
  | 31 => some (.iload_n 2, 32, 0)
  | 32 => some (.iconst 1, 33, 0)
  | 33 => some (.if_icmp .ne 14, 36, 47)
  | 36 => some (.aload_n 0, 37, 0)
  | 37 => some (.getfield 37, 40, 0)
  | 40 => some (.iload_n 1, 41, 0)
  | 41 => some (.invokevirtual 159, 44, 0)
  | 44 => some (.goto 5, 47, 49)
  | 47 => some (.ldc 100, 49, 0)
  | 49 => some (.ireturn, 50, 0)
  | _ => none
theorem tv_8_corner : ∀ pc i, sy_lk 50 tc_8_corner pc = some i → sy_chk c_8_corner (some .int) false pc i = true := sy_lk_ok 50 tc_8_corner (by decide +kernel)
def Mk_8_corner (ct : Nat → Option (Bool × Nat × sy_Sp)) : sy_M := (sy_lk 50 tc_8_corner, ff_8, ki_8, kl_8, ct, false)
def rn_8_corner (ns : Nat) (ct : Nat → Option (Bool × Nat × sy_Sp)) (R : sy_R) (K : sy_K) : Nat → sy_K := sy_run ns (Mk_8_corner ct) [] R K
theorem rx_8_corner_0 {ns n ct R K s k z v0 v2} : rn_8_corner ns ct R K (n + 1) 0 [v0, .inl (true, z), v2] k s = (rn_8_corner ns ct R K n 1 [v0, .inl (true, z), v2] (.inl (true, z) :: k) s) := rfl
theorem rx_8_corner_1 {ns n ct R K s L k a x} : rn_8_corner ns ct R K (n + 1) 1 L (.inl (a, x) :: k) s = (sy_ri a x ∧ (x < 0 → rn_8_corner ns ct R K n 15 L k s) ∧ (¬ x < 0 → rn_8_corner ns ct R K n 4 L k s)) := rfl
theorem rx_8_corner_4 {ns n ct R K s k z v0 v2} : rn_8_corner ns ct R K (n + 1) 4 [v0, .inl (true, z), v2] k s = (rn_8_corner ns ct R K n 5 [v0, .inl (true, z), v2] (.inl (true, z) :: k) s) := rfl
theorem rx_8_corner_5 {ns n ct R K s k z v1 v2} : rn_8_corner ns ct R K (n + 1) 5 [.inr (.inr (some z)), v1, v2] k s = (rn_8_corner ns ct R K n 6 [.inr (.inr (some z)), v1, v2] (.inr (.inr (some z)) :: k) s) := rfl
theorem rx_8_corner_6 {ns n ct R K s L k a} : rn_8_corner ns ct R K (n + 1) 6 L (.inr (.inr (some (some a))) :: k) s = (sy_ob a = some 8 ∧ rn_8_corner ns ct R K n 9 L (sy_fv s a 3 :: k) s) := rfl
theorem rx_8_corner_9 {ns n ct R K s L k} : rn_8_corner ns ct R K (n + 1) 9 L k s = (sy_call false (ct 150) k s fun r t => rn_8_corner ns ct R K n 12 L r t) := rfl
theorem rx_8_corner_12 {ns n ct R K s L k a b x y} : rn_8_corner ns ct R K (n + 1) 12 L (.inl (b, y) :: .inl (a, x) :: k) s = (sy_ri a x ∧ sy_ri b y ∧ (x < y → rn_8_corner ns ct R K n 18 L k s) ∧ (¬ x < y → rn_8_corner ns ct R K n 15 L k s)) := rfl
theorem rx_8_corner_15 {ns n ct R K s L k} : rn_8_corner ns ct R K (n + 1) 15 L k s = (rn_8_corner ns ct R K n 17 L (.inl (true, -1000000) :: k) s) := rfl
theorem rx_8_corner_17 {ns n ct R K s L a z} : rn_8_corner ns ct R K (n + 1) 17 L [.inl (a, z)] s = (sy_ri a z ∧ sy_b01 false z ∧ R (some (.inl (true, z))) s) := rfl
theorem rx_8_corner_18 {ns n ct R K s k z v0 v1} : rn_8_corner ns ct R K (n + 1) 18 [v0, v1, .inl (true, z)] k s = (rn_8_corner ns ct R K n 19 [v0, v1, .inl (true, z)] (.inl (true, z) :: k) s) := rfl
theorem rx_8_corner_19 {ns n ct R K s L k a x} : rn_8_corner ns ct R K (n + 1) 19 L (.inl (a, x) :: k) s = (sy_ri a x ∧ (¬ x = 0 → rn_8_corner ns ct R K n 31 L k s) ∧ (x = 0 → rn_8_corner ns ct R K n 22 L k s)) := rfl
theorem rx_8_corner_22 {ns n ct R K s k z v1 v2} : rn_8_corner ns ct R K (n + 1) 22 [.inr (.inr (some z)), v1, v2] k s = (rn_8_corner ns ct R K n 23 [.inr (.inr (some z)), v1, v2] (.inr (.inr (some z)) :: k) s) := rfl
theorem rx_8_corner_23 {ns n ct R K s L k a} : rn_8_corner ns ct R K (n + 1) 23 L (.inr (.inr (some (some a))) :: k) s = (sy_ob a = some 8 ∧ rn_8_corner ns ct R K n 26 L (sy_fv s a 3 :: k) s) := rfl
theorem rx_8_corner_26 {ns n ct R K s k z v0 v2} : rn_8_corner ns ct R K (n + 1) 26 [v0, .inl (true, z), v2] k s = (rn_8_corner ns ct R K n 27 [v0, .inl (true, z), v2] (.inl (true, z) :: k) s) := rfl
theorem rx_8_corner_27 {ns n ct R K s L k} : rn_8_corner ns ct R K (n + 1) 27 L k s = (sy_call false (ct 156) k s fun r t => rn_8_corner ns ct R K n 30 L r t) := rfl
theorem rx_8_corner_30 {ns n ct R K s L a z} : rn_8_corner ns ct R K (n + 1) 30 L [.inl (a, z)] s = (sy_ri a z ∧ sy_b01 false z ∧ R (some (.inl (true, z))) s) := rfl
theorem rx_8_corner_31 {ns n ct R K s k z v0 v1} : rn_8_corner ns ct R K (n + 1) 31 [v0, v1, .inl (true, z)] k s = (rn_8_corner ns ct R K n 32 [v0, v1, .inl (true, z)] (.inl (true, z) :: k) s) := rfl
theorem rx_8_corner_32 {ns n ct R K s L k} : rn_8_corner ns ct R K (n + 1) 32 L k s = (rn_8_corner ns ct R K n 33 L (.inl (true, 1) :: k) s) := rfl
theorem rx_8_corner_33 {ns n ct R K s L k a b x y} : rn_8_corner ns ct R K (n + 1) 33 L (.inl (b, y) :: .inl (a, x) :: k) s = (sy_ri a x ∧ sy_ri b y ∧ (¬ x = y → rn_8_corner ns ct R K n 47 L k s) ∧ (x = y → rn_8_corner ns ct R K n 36 L k s)) := rfl
theorem rx_8_corner_36 {ns n ct R K s k z v1 v2} : rn_8_corner ns ct R K (n + 1) 36 [.inr (.inr (some z)), v1, v2] k s = (rn_8_corner ns ct R K n 37 [.inr (.inr (some z)), v1, v2] (.inr (.inr (some z)) :: k) s) := rfl
theorem rx_8_corner_37 {ns n ct R K s L k a} : rn_8_corner ns ct R K (n + 1) 37 L (.inr (.inr (some (some a))) :: k) s = (sy_ob a = some 8 ∧ rn_8_corner ns ct R K n 40 L (sy_fv s a 3 :: k) s) := rfl
theorem rx_8_corner_40 {ns n ct R K s k z v0 v2} : rn_8_corner ns ct R K (n + 1) 40 [v0, .inl (true, z), v2] k s = (rn_8_corner ns ct R K n 41 [v0, .inl (true, z), v2] (.inl (true, z) :: k) s) := rfl
theorem rx_8_corner_41 {ns n ct R K s L k} : rn_8_corner ns ct R K (n + 1) 41 L k s = (sy_call false (ct 159) k s fun r t => rn_8_corner ns ct R K n 44 L r t) := rfl
theorem rx_8_corner_44 {ns n ct R K s L k} : rn_8_corner ns ct R K (n + 1) 44 L k s = (rn_8_corner ns ct R K n 49 L k s) := rfl
theorem rx_8_corner_47 {ns n ct R K s L k} : rn_8_corner ns ct R K (n + 1) 47 L k s = (rn_8_corner ns ct R K n 49 L (.inl (true, -1000000) :: k) s) := rfl
theorem rx_8_corner_49 {ns n ct R K s L a z} : rn_8_corner ns ct R K (n + 1) 49 L [.inl (a, z)] s = (sy_ri a z ∧ sy_b01 false z ∧ R (some (.inl (true, z))) s) := rfl
def y_8_quarrels : MethodName := ⟨"StarHide", "quarrels", "(I)I"⟩
abbrev c_8_quarrels : ByteArray := prog_1_method_22_code
def tc_8_quarrels (pc : Nat) : Option sy_I := match pc with
  | 0 => some (.aload_n 0, 1, 0)
  | 1 => some (.getfield 10, 4, 0)
  | 4 => some (.iload_n 1, 5, 0)
  | 5 => some (.invokevirtual 77, 8, 0)
  | 8 => some (.astore_n 2, 9, 0)
  | 9 => some (.aload_n 2, 10, 0)
  | 10 => some (.ifnull 11, 13, 21)
  | 13 => some (.aload_n 2, 14, 0)
  | 14 => some (.getfield 97, 17, 0)
  | 17 => some (.iconst 2, 18, 0)
  | 18 => some (.if_icmp .eq 5, 21, 23)
  | 21 => some (.iconst (-1), 22, 0)
  | 22 => some (.ireturn, 23, 0)
  | 23 => some (.aload_n 2, 24, 0)
  | 24 => some (.aload_n 0, 25, 0)
  | 25 => some (.getfield 10, 28, 0)
  | 28 => some (.getfield 59, 31, 0)
  | 31 => some (.aload_n 2, 32, 0)
  | 32 => some (.getfield 162, 35, 0)
  | 35 => some (.invokevirtual 101, 38, 0)
  | 38 => some (.istore_n 3, 39, 0)
  | 39 => some (.aload_n 2, 40, 0)
  | 40 => some (.aload_n 0, 41, 0)
  | 41 => some (.getfield 10, 44, 0)
  | 44 => some (.getfield 59, 47, 0)
  | 47 => some (.aload_n 2, 48, 0)
  | 48 => some (.getfield 165, 51, 0)
  | 51 => some (.invokevirtual 101, 54, 0)
  | 54 => some (.istore 4, 56, 0)
  | 56 => some (.aload_n 0, 57, 0)
  | 57 => some (.getfield 37, 60, 0)
  | 60 => some (.aload_n 2, 61, 0)
  | 61 => some (.getfield 168, 64, 0)
  | 64 => some (.iload_n 3, 65, 0)
  | 65 => some (.iload 4, 67, 0)
  | 67 => some (.invokevirtual 171, 70, 0)
  | 70 => some (.ifCond .eq 7, 73, 77)
  | 73 => some (.iconst 1, 74, 0)
  | 74 => some (.goto 4, 77, 78)
  | 77 => some (.iconst 0, 78, 0)
  | 78 => some (.ireturn, 79, 0)
  | _ => none
theorem tv_8_quarrels : ∀ pc i, sy_lk 79 tc_8_quarrels pc = some i → sy_chk c_8_quarrels (some .int) false pc i = true := sy_lk_ok 79 tc_8_quarrels (by decide +kernel)
def Mk_8_quarrels (ct : Nat → Option (Bool × Nat × sy_Sp)) : sy_M := (sy_lk 79 tc_8_quarrels, ff_8, ki_8, kl_8, ct, false)
def rn_8_quarrels (ns : Nat) (ct : Nat → Option (Bool × Nat × sy_Sp)) (R : sy_R) (K : sy_K) : Nat → sy_K := sy_run ns (Mk_8_quarrels ct) [] R K
theorem rx_8_quarrels_0 {ns n ct R K s k z v1 v2 v3 v4} : rn_8_quarrels ns ct R K (n + 1) 0 [.inr (.inr (some z)), v1, v2, v3, v4] k s = (rn_8_quarrels ns ct R K n 1 [.inr (.inr (some z)), v1, v2, v3, v4] (.inr (.inr (some z)) :: k) s) := rfl
theorem rx_8_quarrels_1 {ns n ct R K s L k a} : rn_8_quarrels ns ct R K (n + 1) 1 L (.inr (.inr (some (some a))) :: k) s = (sy_ob a = some 8 ∧ rn_8_quarrels ns ct R K n 4 L (sy_fv s a 0 :: k) s) := rfl
theorem rx_8_quarrels_4 {ns n ct R K s k z v0 v2 v3 v4} : rn_8_quarrels ns ct R K (n + 1) 4 [v0, .inl (true, z), v2, v3, v4] k s = (rn_8_quarrels ns ct R K n 5 [v0, .inl (true, z), v2, v3, v4] (.inl (true, z) :: k) s) := rfl
theorem rx_8_quarrels_5 {ns n ct R K s L k} : rn_8_quarrels ns ct R K (n + 1) 5 L k s = (sy_call false (ct 77) k s fun r t => rn_8_quarrels ns ct R K n 8 L r t) := rfl
theorem rx_8_quarrels_8 {ns n ct R K s L k z} : rn_8_quarrels ns ct R K (n + 1) 8 L (.inr (.inr (some z)) :: k) s = (2 < L.length ∧ rn_8_quarrels ns ct R K n 9 (sy_sto L 2 (.inr (.inr (some z)))) k s) := rfl
theorem rx_8_quarrels_9 {ns n ct R K s k z v0 v1 v3 v4} : rn_8_quarrels ns ct R K (n + 1) 9 [v0, v1, .inr (.inr (some z)), v3, v4] k s = (rn_8_quarrels ns ct R K n 10 [v0, v1, .inr (.inr (some z)), v3, v4] (.inr (.inr (some z)) :: k) s) := rfl
theorem rx_8_quarrels_10_n {ns n ct R K s L k} : rn_8_quarrels ns ct R K (n + 1) 10 L (.inr (.inr (some none)) :: k) s = (rn_8_quarrels ns ct R K n 21 L k s) := rfl
theorem rx_8_quarrels_10 {ns n ct R K s L k a} : rn_8_quarrels ns ct R K (n + 1) 10 L (.inr (.inr (some (some a))) :: k) s = (rn_8_quarrels ns ct R K n 13 L k s) := rfl
theorem rx_8_quarrels_13 {ns n ct R K s k z v0 v1 v3 v4} : rn_8_quarrels ns ct R K (n + 1) 13 [v0, v1, .inr (.inr (some z)), v3, v4] k s = (rn_8_quarrels ns ct R K n 14 [v0, v1, .inr (.inr (some z)), v3, v4] (.inr (.inr (some z)) :: k) s) := rfl
theorem rx_8_quarrels_14 {ns n ct R K s L k a} : rn_8_quarrels ns ct R K (n + 1) 14 L (.inr (.inr (some (some a))) :: k) s = (sy_ob a = some 6 ∧ rn_8_quarrels ns ct R K n 17 L (sy_fv s a 5 :: k) s) := rfl
theorem rx_8_quarrels_17 {ns n ct R K s L k} : rn_8_quarrels ns ct R K (n + 1) 17 L k s = (rn_8_quarrels ns ct R K n 18 L (.inl (true, 2) :: k) s) := rfl
theorem rx_8_quarrels_18 {ns n ct R K s L k a b x y} : rn_8_quarrels ns ct R K (n + 1) 18 L (.inl (b, y) :: .inl (a, x) :: k) s = (sy_ri a x ∧ sy_ri b y ∧ (x = y → rn_8_quarrels ns ct R K n 23 L k s) ∧ (¬ x = y → rn_8_quarrels ns ct R K n 21 L k s)) := rfl
theorem rx_8_quarrels_21 {ns n ct R K s L k} : rn_8_quarrels ns ct R K (n + 1) 21 L k s = (rn_8_quarrels ns ct R K n 22 L (.inl (true, (-1)) :: k) s) := rfl
theorem rx_8_quarrels_22 {ns n ct R K s L a z} : rn_8_quarrels ns ct R K (n + 1) 22 L [.inl (a, z)] s = (sy_ri a z ∧ sy_b01 false z ∧ R (some (.inl (true, z))) s) := rfl
theorem rx_8_quarrels_23 {ns n ct R K s k z v0 v1 v3 v4} : rn_8_quarrels ns ct R K (n + 1) 23 [v0, v1, .inr (.inr (some z)), v3, v4] k s = (rn_8_quarrels ns ct R K n 24 [v0, v1, .inr (.inr (some z)), v3, v4] (.inr (.inr (some z)) :: k) s) := rfl
theorem rx_8_quarrels_24 {ns n ct R K s k z v1 v2 v3 v4} : rn_8_quarrels ns ct R K (n + 1) 24 [.inr (.inr (some z)), v1, v2, v3, v4] k s = (rn_8_quarrels ns ct R K n 25 [.inr (.inr (some z)), v1, v2, v3, v4] (.inr (.inr (some z)) :: k) s) := rfl
theorem rx_8_quarrels_25 {ns n ct R K s L k a} : rn_8_quarrels ns ct R K (n + 1) 25 L (.inr (.inr (some (some a))) :: k) s = (sy_ob a = some 8 ∧ rn_8_quarrels ns ct R K n 28 L (sy_fv s a 0 :: k) s) := rfl
theorem rx_8_quarrels_28 {ns n ct R K s L k a} : rn_8_quarrels ns ct R K (n + 1) 28 L (.inr (.inr (some (some a))) :: k) s = (sy_ob a = some 7 ∧ rn_8_quarrels ns ct R K n 31 L (sy_fv s a 2 :: k) s) := rfl
theorem rx_8_quarrels_31 {ns n ct R K s k z v0 v1 v3 v4} : rn_8_quarrels ns ct R K (n + 1) 31 [v0, v1, .inr (.inr (some z)), v3, v4] k s = (rn_8_quarrels ns ct R K n 32 [v0, v1, .inr (.inr (some z)), v3, v4] (.inr (.inr (some z)) :: k) s) := rfl
theorem rx_8_quarrels_32 {ns n ct R K s L k a} : rn_8_quarrels ns ct R K (n + 1) 32 L (.inr (.inr (some (some a))) :: k) s = (sy_ob a = some 6 ∧ rn_8_quarrels ns ct R K n 35 L (sy_fv s a 6 :: k) s) := rfl
theorem rx_8_quarrels_35 {ns n ct R K s L k} : rn_8_quarrels ns ct R K (n + 1) 35 L k s = (sy_call false (ct 101) k s fun r t => rn_8_quarrels ns ct R K n 38 L r t) := rfl
theorem rx_8_quarrels_38 {ns n ct R K s L k b z} : rn_8_quarrels ns ct R K (n + 1) 38 L (.inl (b, z) :: k) s = (sy_ri b z ∧ 3 < L.length ∧ rn_8_quarrels ns ct R K n 39 (sy_sto L 3 (.inl (true, z))) k s) := rfl
theorem rx_8_quarrels_39 {ns n ct R K s k z v0 v1 v3 v4} : rn_8_quarrels ns ct R K (n + 1) 39 [v0, v1, .inr (.inr (some z)), v3, v4] k s = (rn_8_quarrels ns ct R K n 40 [v0, v1, .inr (.inr (some z)), v3, v4] (.inr (.inr (some z)) :: k) s) := rfl
theorem rx_8_quarrels_40 {ns n ct R K s k z v1 v2 v3 v4} : rn_8_quarrels ns ct R K (n + 1) 40 [.inr (.inr (some z)), v1, v2, v3, v4] k s = (rn_8_quarrels ns ct R K n 41 [.inr (.inr (some z)), v1, v2, v3, v4] (.inr (.inr (some z)) :: k) s) := rfl
theorem rx_8_quarrels_41 {ns n ct R K s L k a} : rn_8_quarrels ns ct R K (n + 1) 41 L (.inr (.inr (some (some a))) :: k) s = (sy_ob a = some 8 ∧ rn_8_quarrels ns ct R K n 44 L (sy_fv s a 0 :: k) s) := rfl
theorem rx_8_quarrels_44 {ns n ct R K s L k a} : rn_8_quarrels ns ct R K (n + 1) 44 L (.inr (.inr (some (some a))) :: k) s = (sy_ob a = some 7 ∧ rn_8_quarrels ns ct R K n 47 L (sy_fv s a 2 :: k) s) := rfl
theorem rx_8_quarrels_47 {ns n ct R K s k z v0 v1 v3 v4} : rn_8_quarrels ns ct R K (n + 1) 47 [v0, v1, .inr (.inr (some z)), v3, v4] k s = (rn_8_quarrels ns ct R K n 48 [v0, v1, .inr (.inr (some z)), v3, v4] (.inr (.inr (some z)) :: k) s) := rfl
theorem rx_8_quarrels_48 {ns n ct R K s L k a} : rn_8_quarrels ns ct R K (n + 1) 48 L (.inr (.inr (some (some a))) :: k) s = (sy_ob a = some 6 ∧ rn_8_quarrels ns ct R K n 51 L (sy_fv s a 7 :: k) s) := rfl
theorem rx_8_quarrels_51 {ns n ct R K s L k} : rn_8_quarrels ns ct R K (n + 1) 51 L k s = (sy_call false (ct 101) k s fun r t => rn_8_quarrels ns ct R K n 54 L r t) := rfl
theorem rx_8_quarrels_54 {ns n ct R K s L k b z} : rn_8_quarrels ns ct R K (n + 1) 54 L (.inl (b, z) :: k) s = (sy_ri b z ∧ 4 < L.length ∧ rn_8_quarrels ns ct R K n 56 (sy_sto L 4 (.inl (true, z))) k s) := rfl
theorem rx_8_quarrels_56 {ns n ct R K s k z v1 v2 v3 v4} : rn_8_quarrels ns ct R K (n + 1) 56 [.inr (.inr (some z)), v1, v2, v3, v4] k s = (rn_8_quarrels ns ct R K n 57 [.inr (.inr (some z)), v1, v2, v3, v4] (.inr (.inr (some z)) :: k) s) := rfl
theorem rx_8_quarrels_57 {ns n ct R K s L k a} : rn_8_quarrels ns ct R K (n + 1) 57 L (.inr (.inr (some (some a))) :: k) s = (sy_ob a = some 8 ∧ rn_8_quarrels ns ct R K n 60 L (sy_fv s a 3 :: k) s) := rfl
theorem rx_8_quarrels_60 {ns n ct R K s k z v0 v1 v3 v4} : rn_8_quarrels ns ct R K (n + 1) 60 [v0, v1, .inr (.inr (some z)), v3, v4] k s = (rn_8_quarrels ns ct R K n 61 [v0, v1, .inr (.inr (some z)), v3, v4] (.inr (.inr (some z)) :: k) s) := rfl
theorem rx_8_quarrels_61 {ns n ct R K s L k a} : rn_8_quarrels ns ct R K (n + 1) 61 L (.inr (.inr (some (some a))) :: k) s = (sy_ob a = some 6 ∧ rn_8_quarrels ns ct R K n 64 L (sy_fv s a 0 :: k) s) := rfl
theorem rx_8_quarrels_64 {ns n ct R K s k z v0 v1 v2 v4} : rn_8_quarrels ns ct R K (n + 1) 64 [v0, v1, v2, .inl (true, z), v4] k s = (rn_8_quarrels ns ct R K n 65 [v0, v1, v2, .inl (true, z), v4] (.inl (true, z) :: k) s) := rfl
theorem rx_8_quarrels_65 {ns n ct R K s k z v0 v1 v2 v3} : rn_8_quarrels ns ct R K (n + 1) 65 [v0, v1, v2, v3, .inl (true, z)] k s = (rn_8_quarrels ns ct R K n 67 [v0, v1, v2, v3, .inl (true, z)] (.inl (true, z) :: k) s) := rfl
theorem rx_8_quarrels_67 {ns n ct R K s L k} : rn_8_quarrels ns ct R K (n + 1) 67 L k s = (sy_call false (ct 171) k s fun r t => rn_8_quarrels ns ct R K n 70 L r t) := rfl
theorem rx_8_quarrels_70 {ns n ct R K s L k a x} : rn_8_quarrels ns ct R K (n + 1) 70 L (.inl (a, x) :: k) s = (sy_ri a x ∧ (x = 0 → rn_8_quarrels ns ct R K n 77 L k s) ∧ (¬ x = 0 → rn_8_quarrels ns ct R K n 73 L k s)) := rfl
theorem rx_8_quarrels_73 {ns n ct R K s L k} : rn_8_quarrels ns ct R K (n + 1) 73 L k s = (rn_8_quarrels ns ct R K n 74 L (.inl (true, 1) :: k) s) := rfl
theorem rx_8_quarrels_74 {ns n ct R K s L k} : rn_8_quarrels ns ct R K (n + 1) 74 L k s = (rn_8_quarrels ns ct R K n 78 L k s) := rfl
theorem rx_8_quarrels_77 {ns n ct R K s L k} : rn_8_quarrels ns ct R K (n + 1) 77 L k s = (rn_8_quarrels ns ct R K n 78 L (.inl (true, 0) :: k) s) := rfl
theorem rx_8_quarrels_78 {ns n ct R K s L a z} : rn_8_quarrels ns ct R K (n + 1) 78 L [.inl (a, z)] s = (sy_ri a z ∧ sy_b01 false z ∧ R (some (.inl (true, z))) s) := rfl
def y_8_dip : MethodName := ⟨"StarHide", "dip", "(III)I"⟩
abbrev c_8_dip : ByteArray := prog_1_method_23_code
def tc_8_dip (pc : Nat) : Option sy_I := match pc with
  | 0 => some (.aload_n 0, 1, 0)
  | 1 => some (.getfield 10, 4, 0)
  | 4 => some (.iload_n 1, 5, 0)
  | 5 => some (.invokevirtual 77, 8, 0)
  | 8 => some (.ifnull 22, 11, 30)
  | 11 => some (.iload_n 2, 12, 0)
  | 12 => some (.invokestatic 90, 15, 0)
  | 15 => some (.ifCond .eq 15, 18, 30)
  | 18 => some (.iload_n 3, 19, 0)
  | 19 => some (.invokestatic 90, 22, 0)
  | 22 => some (.ifCond .eq 8, 25, 30)
  | 25 => some (.iload_n 2, 26, 0)
  | 26 => some (.iload_n 3, 27, 0)
  | 27 => some (.if_icmp .lt 5, 30, 32)
  | 30 => some (.iconst (-1), 31, 0)
  | 31 => some (.ireturn, 32, 0)
  | 32 => some (.aload_n 0, 33, 0)
  | 33 => some (.getfield 44, 36, 0)
  | 36 => some (.iload_n 1, 37, 0)
  | 37 => some (.iload_n 2, 38, 0)
  | 38 => some (.iload_n 3, 39, 0)
  | 39 => some (.invokevirtual 174, 42, 0)
  | 42 => some (.ireturn, 43, 0)
  | _ => none
theorem tv_8_dip : ∀ pc i, sy_lk 43 tc_8_dip pc = some i → sy_chk c_8_dip (some .int) false pc i = true := sy_lk_ok 43 tc_8_dip (by decide +kernel)
def Mk_8_dip (ct : Nat → Option (Bool × Nat × sy_Sp)) : sy_M := (sy_lk 43 tc_8_dip, ff_8, ki_8, kl_8, ct, false)
def rn_8_dip (ns : Nat) (ct : Nat → Option (Bool × Nat × sy_Sp)) (R : sy_R) (K : sy_K) : Nat → sy_K := sy_run ns (Mk_8_dip ct) [] R K
theorem rx_8_dip_0 {ns n ct R K s k z v1 v2 v3} : rn_8_dip ns ct R K (n + 1) 0 [.inr (.inr (some z)), v1, v2, v3] k s = (rn_8_dip ns ct R K n 1 [.inr (.inr (some z)), v1, v2, v3] (.inr (.inr (some z)) :: k) s) := rfl
theorem rx_8_dip_1 {ns n ct R K s L k a} : rn_8_dip ns ct R K (n + 1) 1 L (.inr (.inr (some (some a))) :: k) s = (sy_ob a = some 8 ∧ rn_8_dip ns ct R K n 4 L (sy_fv s a 0 :: k) s) := rfl
theorem rx_8_dip_4 {ns n ct R K s k z v0 v2 v3} : rn_8_dip ns ct R K (n + 1) 4 [v0, .inl (true, z), v2, v3] k s = (rn_8_dip ns ct R K n 5 [v0, .inl (true, z), v2, v3] (.inl (true, z) :: k) s) := rfl
theorem rx_8_dip_5 {ns n ct R K s L k} : rn_8_dip ns ct R K (n + 1) 5 L k s = (sy_call false (ct 77) k s fun r t => rn_8_dip ns ct R K n 8 L r t) := rfl
theorem rx_8_dip_8_n {ns n ct R K s L k} : rn_8_dip ns ct R K (n + 1) 8 L (.inr (.inr (some none)) :: k) s = (rn_8_dip ns ct R K n 30 L k s) := rfl
theorem rx_8_dip_8 {ns n ct R K s L k a} : rn_8_dip ns ct R K (n + 1) 8 L (.inr (.inr (some (some a))) :: k) s = (rn_8_dip ns ct R K n 11 L k s) := rfl
theorem rx_8_dip_11 {ns n ct R K s k z v0 v1 v3} : rn_8_dip ns ct R K (n + 1) 11 [v0, v1, .inl (true, z), v3] k s = (rn_8_dip ns ct R K n 12 [v0, v1, .inl (true, z), v3] (.inl (true, z) :: k) s) := rfl
theorem rx_8_dip_12 {ns n ct R K s L k} : rn_8_dip ns ct R K (n + 1) 12 L k s = (sy_call true (ct 90) k s fun r t => rn_8_dip ns ct R K n 15 L r t) := rfl
theorem rx_8_dip_15 {ns n ct R K s L k a x} : rn_8_dip ns ct R K (n + 1) 15 L (.inl (a, x) :: k) s = (sy_ri a x ∧ (x = 0 → rn_8_dip ns ct R K n 30 L k s) ∧ (¬ x = 0 → rn_8_dip ns ct R K n 18 L k s)) := rfl
theorem rx_8_dip_18 {ns n ct R K s k z v0 v1 v2} : rn_8_dip ns ct R K (n + 1) 18 [v0, v1, v2, .inl (true, z)] k s = (rn_8_dip ns ct R K n 19 [v0, v1, v2, .inl (true, z)] (.inl (true, z) :: k) s) := rfl
theorem rx_8_dip_19 {ns n ct R K s L k} : rn_8_dip ns ct R K (n + 1) 19 L k s = (sy_call true (ct 90) k s fun r t => rn_8_dip ns ct R K n 22 L r t) := rfl
theorem rx_8_dip_22 {ns n ct R K s L k a x} : rn_8_dip ns ct R K (n + 1) 22 L (.inl (a, x) :: k) s = (sy_ri a x ∧ (x = 0 → rn_8_dip ns ct R K n 30 L k s) ∧ (¬ x = 0 → rn_8_dip ns ct R K n 25 L k s)) := rfl
theorem rx_8_dip_25 {ns n ct R K s k z v0 v1 v3} : rn_8_dip ns ct R K (n + 1) 25 [v0, v1, .inl (true, z), v3] k s = (rn_8_dip ns ct R K n 26 [v0, v1, .inl (true, z), v3] (.inl (true, z) :: k) s) := rfl
theorem rx_8_dip_26 {ns n ct R K s k z v0 v1 v2} : rn_8_dip ns ct R K (n + 1) 26 [v0, v1, v2, .inl (true, z)] k s = (rn_8_dip ns ct R K n 27 [v0, v1, v2, .inl (true, z)] (.inl (true, z) :: k) s) := rfl
theorem rx_8_dip_27 {ns n ct R K s L k a b x y} : rn_8_dip ns ct R K (n + 1) 27 L (.inl (b, y) :: .inl (a, x) :: k) s = (sy_ri a x ∧ sy_ri b y ∧ (x < y → rn_8_dip ns ct R K n 32 L k s) ∧ (¬ x < y → rn_8_dip ns ct R K n 30 L k s)) := rfl
theorem rx_8_dip_30 {ns n ct R K s L k} : rn_8_dip ns ct R K (n + 1) 30 L k s = (rn_8_dip ns ct R K n 31 L (.inl (true, (-1)) :: k) s) := rfl
theorem rx_8_dip_31 {ns n ct R K s L a z} : rn_8_dip ns ct R K (n + 1) 31 L [.inl (a, z)] s = (sy_ri a z ∧ sy_b01 false z ∧ R (some (.inl (true, z))) s) := rfl
theorem rx_8_dip_32 {ns n ct R K s k z v1 v2 v3} : rn_8_dip ns ct R K (n + 1) 32 [.inr (.inr (some z)), v1, v2, v3] k s = (rn_8_dip ns ct R K n 33 [.inr (.inr (some z)), v1, v2, v3] (.inr (.inr (some z)) :: k) s) := rfl
theorem rx_8_dip_33 {ns n ct R K s L k a} : rn_8_dip ns ct R K (n + 1) 33 L (.inr (.inr (some (some a))) :: k) s = (sy_ob a = some 8 ∧ rn_8_dip ns ct R K n 36 L (sy_fv s a 4 :: k) s) := rfl
theorem rx_8_dip_36 {ns n ct R K s k z v0 v2 v3} : rn_8_dip ns ct R K (n + 1) 36 [v0, .inl (true, z), v2, v3] k s = (rn_8_dip ns ct R K n 37 [v0, .inl (true, z), v2, v3] (.inl (true, z) :: k) s) := rfl
theorem rx_8_dip_37 {ns n ct R K s k z v0 v1 v3} : rn_8_dip ns ct R K (n + 1) 37 [v0, v1, .inl (true, z), v3] k s = (rn_8_dip ns ct R K n 38 [v0, v1, .inl (true, z), v3] (.inl (true, z) :: k) s) := rfl
theorem rx_8_dip_38 {ns n ct R K s k z v0 v1 v2} : rn_8_dip ns ct R K (n + 1) 38 [v0, v1, v2, .inl (true, z)] k s = (rn_8_dip ns ct R K n 39 [v0, v1, v2, .inl (true, z)] (.inl (true, z) :: k) s) := rfl
theorem rx_8_dip_39 {ns n ct R K s L k} : rn_8_dip ns ct R K (n + 1) 39 L k s = (sy_call false (ct 174) k s fun r t => rn_8_dip ns ct R K n 42 L r t) := rfl
theorem rx_8_dip_42 {ns n ct R K s L a z} : rn_8_dip ns ct R K (n + 1) 42 L [.inl (a, z)] s = (sy_ri a z ∧ sy_b01 false z ∧ R (some (.inl (true, z))) s) := rfl
def y_8_even : MethodName := ⟨"StarHide", "even", "(I)I"⟩
abbrev c_8_even : ByteArray := prog_1_method_24_code
def tc_8_even (pc : Nat) : Option sy_I := match pc with
  | 0 => some (.iload_n 1, 1, 0)
  | 1 => some (.iconst 0, 2, 0)
  | 2 => some (.sipush 1000, 5, 0)
  | 5 => some (.invokestatic 55, 8, 0)
  | 8 => some (.ifCond .ne 5, 11, 13)
  | 11 => some (.iconst (-1), 12, 0)
  | 12 => some (.ireturn, 13, 0)
  | 13 => some (.aload_n 0, 14, 0)
  | 14 => some (.getfield 44, 17, 0)
  | 17 => some (.getfield 177, 20, 0)
  | 20 => some (.istore_n 2, 21, 0)
  | 21 => some (.aload_n 0, 22, 0)
  | 22 => some (.getfield 44, 25, 0)
  | 25 => some (.iload_n 1, 26, 0)
  | 26 => some (.putfield 177, 29, 0)
  | 29 => some (.iload_n 2, 30, 0)
  | 30 => some (.ireturn, 31, 0)
  | _ => none
theorem tv_8_even : ∀ pc i, sy_lk 31 tc_8_even pc = some i → sy_chk c_8_even (some .int) false pc i = true := sy_lk_ok 31 tc_8_even (by decide +kernel)
def Mk_8_even (ct : Nat → Option (Bool × Nat × sy_Sp)) : sy_M := (sy_lk 31 tc_8_even, ff_8, ki_8, kl_8, ct, false)
def rn_8_even (ns : Nat) (ct : Nat → Option (Bool × Nat × sy_Sp)) (R : sy_R) (K : sy_K) : Nat → sy_K := sy_run ns (Mk_8_even ct) [] R K
theorem rx_8_even_0 {ns n ct R K s k z v0 v2} : rn_8_even ns ct R K (n + 1) 0 [v0, .inl (true, z), v2] k s = (rn_8_even ns ct R K n 1 [v0, .inl (true, z), v2] (.inl (true, z) :: k) s) := rfl
theorem rx_8_even_1 {ns n ct R K s L k} : rn_8_even ns ct R K (n + 1) 1 L k s = (rn_8_even ns ct R K n 2 L (.inl (true, 0) :: k) s) := rfl
theorem rx_8_even_2 {ns n ct R K s L k} : rn_8_even ns ct R K (n + 1) 2 L k s = (rn_8_even ns ct R K n 5 L (.inl (true, 1000) :: k) s) := rfl
theorem rx_8_even_5 {ns n ct R K s L k} : rn_8_even ns ct R K (n + 1) 5 L k s = (sy_call true (ct 55) k s fun r t => rn_8_even ns ct R K n 8 L r t) := rfl
theorem rx_8_even_8 {ns n ct R K s L k a x} : rn_8_even ns ct R K (n + 1) 8 L (.inl (a, x) :: k) s = (sy_ri a x ∧ (¬ x = 0 → rn_8_even ns ct R K n 13 L k s) ∧ (x = 0 → rn_8_even ns ct R K n 11 L k s)) := rfl
theorem rx_8_even_11 {ns n ct R K s L k} : rn_8_even ns ct R K (n + 1) 11 L k s = (rn_8_even ns ct R K n 12 L (.inl (true, (-1)) :: k) s) := rfl
theorem rx_8_even_12 {ns n ct R K s L a z} : rn_8_even ns ct R K (n + 1) 12 L [.inl (a, z)] s = (sy_ri a z ∧ sy_b01 false z ∧ R (some (.inl (true, z))) s) := rfl
theorem rx_8_even_13 {ns n ct R K s k z v1 v2} : rn_8_even ns ct R K (n + 1) 13 [.inr (.inr (some z)), v1, v2] k s = (rn_8_even ns ct R K n 14 [.inr (.inr (some z)), v1, v2] (.inr (.inr (some z)) :: k) s) := rfl
theorem rx_8_even_14 {ns n ct R K s L k a} : rn_8_even ns ct R K (n + 1) 14 L (.inr (.inr (some (some a))) :: k) s = (sy_ob a = some 8 ∧ rn_8_even ns ct R K n 17 L (sy_fv s a 4 :: k) s) := rfl
theorem rx_8_even_17 {ns n ct R K s L k a} : rn_8_even ns ct R K (n + 1) 17 L (.inr (.inr (some (some a))) :: k) s = (sy_ob a = some 1 ∧ rn_8_even ns ct R K n 20 L (sy_fv s a 5 :: k) s) := rfl
theorem rx_8_even_20 {ns n ct R K s L k b z} : rn_8_even ns ct R K (n + 1) 20 L (.inl (b, z) :: k) s = (sy_ri b z ∧ 2 < L.length ∧ rn_8_even ns ct R K n 21 (sy_sto L 2 (.inl (true, z))) k s) := rfl
theorem rx_8_even_21 {ns n ct R K s k z v1 v2} : rn_8_even ns ct R K (n + 1) 21 [.inr (.inr (some z)), v1, v2] k s = (rn_8_even ns ct R K n 22 [.inr (.inr (some z)), v1, v2] (.inr (.inr (some z)) :: k) s) := rfl
theorem rx_8_even_22 {ns n ct R K s L k a} : rn_8_even ns ct R K (n + 1) 22 L (.inr (.inr (some (some a))) :: k) s = (sy_ob a = some 8 ∧ rn_8_even ns ct R K n 25 L (sy_fv s a 4 :: k) s) := rfl
theorem rx_8_even_25 {ns n ct R K s k z v0 v2} : rn_8_even ns ct R K (n + 1) 25 [v0, .inl (true, z), v2] k s = (rn_8_even ns ct R K n 26 [v0, .inl (true, z), v2] (.inl (true, z) :: k) s) := rfl
theorem rx_8_even_26 {ns n ct R K s L k a b z} : rn_8_even ns ct R K (n + 1) 26 L (.inl (b, z) :: .inr (.inr (some (some a))) :: k) s = (sy_ob a = some 1 ∧ sy_ri b z ∧ sy_b01 false z ∧ rn_8_even ns ct R K n 29 L k (sy_up s a 5 z)) := rfl
theorem rx_8_even_29 {ns n ct R K s k z v0 v1} : rn_8_even ns ct R K (n + 1) 29 [v0, v1, .inl (true, z)] k s = (rn_8_even ns ct R K n 30 [v0, v1, .inl (true, z)] (.inl (true, z) :: k) s) := rfl
theorem rx_8_even_30 {ns n ct R K s L a z} : rn_8_even ns ct R K (n + 1) 30 L [.inl (a, z)] s = (sy_ri a z ∧ sy_b01 false z ∧ R (some (.inl (true, z))) s) := rfl
def y_8_calm : MethodName := ⟨"StarHide", "calm", "()I"⟩
abbrev c_8_calm : ByteArray := prog_1_method_25_code
def tc_8_calm (pc : Nat) : Option sy_I := match pc with
  | 0 => some (.aload_n 0, 1, 0)
  | 1 => some (.getfield 44, 4, 0)
  | 4 => some (.getfield 180, 7, 0)
  | 7 => some (.istore_n 1, 8, 0)
  | 8 => some (.aload_n 0, 9, 0)
  | 9 => some (.getfield 44, 12, 0)
  | 12 => some (.iconst 0, 13, 0)
  | 13 => some (.putfield 180, 16, 0)
  | 16 => some (.iload_n 1, 17, 0)
  | 17 => some (.ireturn, 18, 0)
  | _ => none
theorem tv_8_calm : ∀ pc i, sy_lk 18 tc_8_calm pc = some i → sy_chk c_8_calm (some .int) false pc i = true := sy_lk_ok 18 tc_8_calm (by decide +kernel)
def Mk_8_calm (ct : Nat → Option (Bool × Nat × sy_Sp)) : sy_M := (sy_lk 18 tc_8_calm, ff_8, ki_8, kl_8, ct, false)
def rn_8_calm (ns : Nat) (ct : Nat → Option (Bool × Nat × sy_Sp)) (R : sy_R) (K : sy_K) : Nat → sy_K := sy_run ns (Mk_8_calm ct) [] R K
theorem rx_8_calm_0 {ns n ct R K s k z v1} : rn_8_calm ns ct R K (n + 1) 0 [.inr (.inr (some z)), v1] k s = (rn_8_calm ns ct R K n 1 [.inr (.inr (some z)), v1] (.inr (.inr (some z)) :: k) s) := rfl
theorem rx_8_calm_1 {ns n ct R K s L k a} : rn_8_calm ns ct R K (n + 1) 1 L (.inr (.inr (some (some a))) :: k) s = (sy_ob a = some 8 ∧ rn_8_calm ns ct R K n 4 L (sy_fv s a 4 :: k) s) := rfl
theorem rx_8_calm_4 {ns n ct R K s L k a} : rn_8_calm ns ct R K (n + 1) 4 L (.inr (.inr (some (some a))) :: k) s = (sy_ob a = some 1 ∧ rn_8_calm ns ct R K n 7 L (sy_fv s a 4 :: k) s) := rfl
theorem rx_8_calm_7 {ns n ct R K s L k b z} : rn_8_calm ns ct R K (n + 1) 7 L (.inl (b, z) :: k) s = (sy_ri b z ∧ 1 < L.length ∧ rn_8_calm ns ct R K n 8 (sy_sto L 1 (.inl (true, z))) k s) := rfl
theorem rx_8_calm_8 {ns n ct R K s k z v1} : rn_8_calm ns ct R K (n + 1) 8 [.inr (.inr (some z)), v1] k s = (rn_8_calm ns ct R K n 9 [.inr (.inr (some z)), v1] (.inr (.inr (some z)) :: k) s) := rfl
theorem rx_8_calm_9 {ns n ct R K s L k a} : rn_8_calm ns ct R K (n + 1) 9 L (.inr (.inr (some (some a))) :: k) s = (sy_ob a = some 8 ∧ rn_8_calm ns ct R K n 12 L (sy_fv s a 4 :: k) s) := rfl
theorem rx_8_calm_12 {ns n ct R K s L k} : rn_8_calm ns ct R K (n + 1) 12 L k s = (rn_8_calm ns ct R K n 13 L (.inl (true, 0) :: k) s) := rfl
theorem rx_8_calm_13 {ns n ct R K s L k a b z} : rn_8_calm ns ct R K (n + 1) 13 L (.inl (b, z) :: .inr (.inr (some (some a))) :: k) s = (sy_ob a = some 1 ∧ sy_ri b z ∧ sy_b01 false z ∧ rn_8_calm ns ct R K n 16 L k (sy_up s a 4 z)) := rfl
theorem rx_8_calm_16 {ns n ct R K s k z v0} : rn_8_calm ns ct R K (n + 1) 16 [v0, .inl (true, z)] k s = (rn_8_calm ns ct R K n 17 [v0, .inl (true, z)] (.inl (true, z) :: k) s) := rfl
theorem rx_8_calm_17 {ns n ct R K s L a z} : rn_8_calm ns ct R K (n + 1) 17 L [.inl (a, z)] s = (sy_ri a z ∧ sy_b01 false z ∧ R (some (.inl (true, z))) s) := rfl
def y_8_ring : MethodName := ⟨"StarHide", "ring", "(II)J"⟩
abbrev c_8_ring : ByteArray := prog_1_method_26_code
def tc_8_ring (pc : Nat) : Option sy_I := match pc with
  | 0 => some (.aload_n 0, 1, 0)
  | 1 => some (.getfield 19, 4, 0)
  | 4 => some (.iload_n 1, 5, 0)
  | 5 => some (.invokevirtual 114, 8, 0)
  | 8 => some (.ifCond .ne 7, 11, 15)
  | 11 => some (.ldc2_w 183, 14, 0)
  | 14 => some (.lreturn, 15, 0)
  | 15 => some (.aload_n 0, 16, 0)
  | 16 => some (.getfield 19, 19, 0)
  | 19 => some (.iload_n 1, 20, 0)
  | 20 => some (.iconst 0, 21, 0)
  | 21 => some (.invokevirtual 120, 24, 0)
  | 24 => some (.istore_n 3, 25, 0)
  | 25 => some (.aload_n 0, 26, 0)
  | 26 => some (.getfield 19, 29, 0)
  | 29 => some (.iload_n 1, 30, 0)
  | 30 => some (.iconst 1, 31, 0)
  | 31 => some (.invokevirtual 120, 34, 0)
  | 34 => some (.istore 4, 36, 0)
  | 36 => some (.iload_n 2, 37, 0)
  | 37 => some (.ifCond .ne 13, 40, 50)
  | 40 => some (.aload_n 0, 41, 0)
  | 41 => some (.getfield 44, 44, 0)
  | 44 => some (.iload_n 3, 45, 0)
  | 45 => some (.invokevirtual 185, 48, 0)
  | 48 => some (.i2l, 49, 0)
  | 49 => some (.lreturn, 50, 0)
  | 50 => some (.iload_n 2, 51, 0)
  | 51 => some (.iconst 1, 52, 0)
  | 52 => some (.if_icmp .eq 8, 55, 60)
  | 55 => some (.iload_n 2, 56, 0)
  | 56 => some (.iconst 2, 57, 0)
  | 57 => some (.if_icmp .ne 31, 60, 88)
  | 60 => some (.aload_n 0, 61, 0)
  | 61 => some (.getfield 44, 64, 0)
  | 64 => some (.getfield 180, 67, 0)
  | 67 => some (.ifCond .eq 21, 70, 88)
  | 70 => some (.aload_n 0, 71, 0)
  | 71 => some (.getfield 44, 74, 0)
  | 74 => some (.iload_n 3, 75, 0)
  | 75 => some (.invokevirtual 185, 78, 0)
  | 78 => some (.aload_n 0, 79, 0)
  | 79 => some (.getfield 44, 82, 0)
  | 82 => some (.getfield 180, 85, 0)
  | 85 => some (.if_icmp .ge 7, 88, 92)
  | 88 => some (.ldc2_w 183, 91, 0)
  | 91 => some (.lreturn, 92, 0)
  | 92 => some (.aload_n 0, 93, 0)
  | 93 => some (.getfield 44, 96, 0)
  | 96 => some (.iload_n 3, 97, 0)
  | 97 => some (.iload 4, 99, 0)
  | 99 => some (.iload_n 2, 100, 0)
  | 100 => some (.iconst 2, 101, 0)
  | 101 => some (.if_icmp .ne 7, 104, 108)
  | 104 => some (.iconst 1, 105, 0)
  | 105 => some (.goto 4, 108, 109)
  | 108 => some (.iconst 0, 109, 0)
  | 109 => some (.invokevirtual 188, 112, 0)
  | 112 => some (.lreturn, 113, 0)
  | _ => none
theorem tv_8_ring : ∀ pc i, sy_lk 113 tc_8_ring pc = some i → sy_chk c_8_ring (some .long) false pc i = true := sy_lk_ok 113 tc_8_ring (by decide +kernel)
def Mk_8_ring (ct : Nat → Option (Bool × Nat × sy_Sp)) : sy_M := (sy_lk 113 tc_8_ring, ff_8, ki_8, kl_8, ct, false)
def rn_8_ring (ns : Nat) (ct : Nat → Option (Bool × Nat × sy_Sp)) (R : sy_R) (K : sy_K) : Nat → sy_K := sy_run ns (Mk_8_ring ct) [] R K
theorem rx_8_ring_0 {ns n ct R K s k z v1 v2 v3 v4} : rn_8_ring ns ct R K (n + 1) 0 [.inr (.inr (some z)), v1, v2, v3, v4] k s = (rn_8_ring ns ct R K n 1 [.inr (.inr (some z)), v1, v2, v3, v4] (.inr (.inr (some z)) :: k) s) := rfl
theorem rx_8_ring_1 {ns n ct R K s L k a} : rn_8_ring ns ct R K (n + 1) 1 L (.inr (.inr (some (some a))) :: k) s = (sy_ob a = some 8 ∧ rn_8_ring ns ct R K n 4 L (sy_fv s a 1 :: k) s) := rfl
theorem rx_8_ring_4 {ns n ct R K s k z v0 v2 v3 v4} : rn_8_ring ns ct R K (n + 1) 4 [v0, .inl (true, z), v2, v3, v4] k s = (rn_8_ring ns ct R K n 5 [v0, .inl (true, z), v2, v3, v4] (.inl (true, z) :: k) s) := rfl
theorem rx_8_ring_5 {ns n ct R K s L k} : rn_8_ring ns ct R K (n + 1) 5 L k s = (sy_call false (ct 114) k s fun r t => rn_8_ring ns ct R K n 8 L r t) := rfl
theorem rx_8_ring_8 {ns n ct R K s L k a x} : rn_8_ring ns ct R K (n + 1) 8 L (.inl (a, x) :: k) s = (sy_ri a x ∧ (¬ x = 0 → rn_8_ring ns ct R K n 15 L k s) ∧ (x = 0 → rn_8_ring ns ct R K n 11 L k s)) := rfl
theorem rx_8_ring_11 {ns n ct R K s L k} : rn_8_ring ns ct R K (n + 1) 11 L k s = (rn_8_ring ns ct R K n 14 L (.inr (.inl (true, -1)) :: k) s) := rfl
theorem rx_8_ring_14 {ns n ct R K s L a z} : rn_8_ring ns ct R K (n + 1) 14 L [.inr (.inl (a, z))] s = (sy_rl a z ∧ R (some (.inr (.inl (true, z)))) s) := rfl
theorem rx_8_ring_15 {ns n ct R K s k z v1 v2 v3 v4} : rn_8_ring ns ct R K (n + 1) 15 [.inr (.inr (some z)), v1, v2, v3, v4] k s = (rn_8_ring ns ct R K n 16 [.inr (.inr (some z)), v1, v2, v3, v4] (.inr (.inr (some z)) :: k) s) := rfl
theorem rx_8_ring_16 {ns n ct R K s L k a} : rn_8_ring ns ct R K (n + 1) 16 L (.inr (.inr (some (some a))) :: k) s = (sy_ob a = some 8 ∧ rn_8_ring ns ct R K n 19 L (sy_fv s a 1 :: k) s) := rfl
theorem rx_8_ring_19 {ns n ct R K s k z v0 v2 v3 v4} : rn_8_ring ns ct R K (n + 1) 19 [v0, .inl (true, z), v2, v3, v4] k s = (rn_8_ring ns ct R K n 20 [v0, .inl (true, z), v2, v3, v4] (.inl (true, z) :: k) s) := rfl
theorem rx_8_ring_20 {ns n ct R K s L k} : rn_8_ring ns ct R K (n + 1) 20 L k s = (rn_8_ring ns ct R K n 21 L (.inl (true, 0) :: k) s) := rfl
theorem rx_8_ring_21 {ns n ct R K s L k} : rn_8_ring ns ct R K (n + 1) 21 L k s = (sy_call false (ct 120) k s fun r t => rn_8_ring ns ct R K n 24 L r t) := rfl
theorem rx_8_ring_24 {ns n ct R K s L k b z} : rn_8_ring ns ct R K (n + 1) 24 L (.inl (b, z) :: k) s = (sy_ri b z ∧ 3 < L.length ∧ rn_8_ring ns ct R K n 25 (sy_sto L 3 (.inl (true, z))) k s) := rfl
theorem rx_8_ring_25 {ns n ct R K s k z v1 v2 v3 v4} : rn_8_ring ns ct R K (n + 1) 25 [.inr (.inr (some z)), v1, v2, v3, v4] k s = (rn_8_ring ns ct R K n 26 [.inr (.inr (some z)), v1, v2, v3, v4] (.inr (.inr (some z)) :: k) s) := rfl
theorem rx_8_ring_26 {ns n ct R K s L k a} : rn_8_ring ns ct R K (n + 1) 26 L (.inr (.inr (some (some a))) :: k) s = (sy_ob a = some 8 ∧ rn_8_ring ns ct R K n 29 L (sy_fv s a 1 :: k) s) := rfl
theorem rx_8_ring_29 {ns n ct R K s k z v0 v2 v3 v4} : rn_8_ring ns ct R K (n + 1) 29 [v0, .inl (true, z), v2, v3, v4] k s = (rn_8_ring ns ct R K n 30 [v0, .inl (true, z), v2, v3, v4] (.inl (true, z) :: k) s) := rfl
theorem rx_8_ring_30 {ns n ct R K s L k} : rn_8_ring ns ct R K (n + 1) 30 L k s = (rn_8_ring ns ct R K n 31 L (.inl (true, 1) :: k) s) := rfl
theorem rx_8_ring_31 {ns n ct R K s L k} : rn_8_ring ns ct R K (n + 1) 31 L k s = (sy_call false (ct 120) k s fun r t => rn_8_ring ns ct R K n 34 L r t) := rfl
theorem rx_8_ring_34 {ns n ct R K s L k b z} : rn_8_ring ns ct R K (n + 1) 34 L (.inl (b, z) :: k) s = (sy_ri b z ∧ 4 < L.length ∧ rn_8_ring ns ct R K n 36 (sy_sto L 4 (.inl (true, z))) k s) := rfl
theorem rx_8_ring_36 {ns n ct R K s k z v0 v1 v3 v4} : rn_8_ring ns ct R K (n + 1) 36 [v0, v1, .inl (true, z), v3, v4] k s = (rn_8_ring ns ct R K n 37 [v0, v1, .inl (true, z), v3, v4] (.inl (true, z) :: k) s) := rfl
theorem rx_8_ring_37 {ns n ct R K s L k a x} : rn_8_ring ns ct R K (n + 1) 37 L (.inl (a, x) :: k) s = (sy_ri a x ∧ (¬ x = 0 → rn_8_ring ns ct R K n 50 L k s) ∧ (x = 0 → rn_8_ring ns ct R K n 40 L k s)) := rfl
theorem rx_8_ring_40 {ns n ct R K s k z v1 v2 v3 v4} : rn_8_ring ns ct R K (n + 1) 40 [.inr (.inr (some z)), v1, v2, v3, v4] k s = (rn_8_ring ns ct R K n 41 [.inr (.inr (some z)), v1, v2, v3, v4] (.inr (.inr (some z)) :: k) s) := rfl
theorem rx_8_ring_41 {ns n ct R K s L k a} : rn_8_ring ns ct R K (n + 1) 41 L (.inr (.inr (some (some a))) :: k) s = (sy_ob a = some 8 ∧ rn_8_ring ns ct R K n 44 L (sy_fv s a 4 :: k) s) := rfl
theorem rx_8_ring_44 {ns n ct R K s k z v0 v1 v2 v4} : rn_8_ring ns ct R K (n + 1) 44 [v0, v1, v2, .inl (true, z), v4] k s = (rn_8_ring ns ct R K n 45 [v0, v1, v2, .inl (true, z), v4] (.inl (true, z) :: k) s) := rfl
theorem rx_8_ring_45 {ns n ct R K s L k} : rn_8_ring ns ct R K (n + 1) 45 L k s = (sy_call false (ct 185) k s fun r t => rn_8_ring ns ct R K n 48 L r t) := rfl
theorem rx_8_ring_48 {ns n ct R K s L k a x} : rn_8_ring ns ct R K (n + 1) 48 L (.inl (a, x) :: k) s = (sy_ri a x ∧ rn_8_ring ns ct R K n 49 L (.inr (.inl (true, x)) :: k) s) := rfl
theorem rx_8_ring_49 {ns n ct R K s L a z} : rn_8_ring ns ct R K (n + 1) 49 L [.inr (.inl (a, z))] s = (sy_rl a z ∧ R (some (.inr (.inl (true, z)))) s) := rfl
theorem rx_8_ring_50 {ns n ct R K s k z v0 v1 v3 v4} : rn_8_ring ns ct R K (n + 1) 50 [v0, v1, .inl (true, z), v3, v4] k s = (rn_8_ring ns ct R K n 51 [v0, v1, .inl (true, z), v3, v4] (.inl (true, z) :: k) s) := rfl
theorem rx_8_ring_51 {ns n ct R K s L k} : rn_8_ring ns ct R K (n + 1) 51 L k s = (rn_8_ring ns ct R K n 52 L (.inl (true, 1) :: k) s) := rfl
theorem rx_8_ring_52 {ns n ct R K s L k a b x y} : rn_8_ring ns ct R K (n + 1) 52 L (.inl (b, y) :: .inl (a, x) :: k) s = (sy_ri a x ∧ sy_ri b y ∧ (x = y → rn_8_ring ns ct R K n 60 L k s) ∧ (¬ x = y → rn_8_ring ns ct R K n 55 L k s)) := rfl
theorem rx_8_ring_55 {ns n ct R K s k z v0 v1 v3 v4} : rn_8_ring ns ct R K (n + 1) 55 [v0, v1, .inl (true, z), v3, v4] k s = (rn_8_ring ns ct R K n 56 [v0, v1, .inl (true, z), v3, v4] (.inl (true, z) :: k) s) := rfl
theorem rx_8_ring_56 {ns n ct R K s L k} : rn_8_ring ns ct R K (n + 1) 56 L k s = (rn_8_ring ns ct R K n 57 L (.inl (true, 2) :: k) s) := rfl
theorem rx_8_ring_57 {ns n ct R K s L k a b x y} : rn_8_ring ns ct R K (n + 1) 57 L (.inl (b, y) :: .inl (a, x) :: k) s = (sy_ri a x ∧ sy_ri b y ∧ (¬ x = y → rn_8_ring ns ct R K n 88 L k s) ∧ (x = y → rn_8_ring ns ct R K n 60 L k s)) := rfl
theorem rx_8_ring_60 {ns n ct R K s k z v1 v2 v3 v4} : rn_8_ring ns ct R K (n + 1) 60 [.inr (.inr (some z)), v1, v2, v3, v4] k s = (rn_8_ring ns ct R K n 61 [.inr (.inr (some z)), v1, v2, v3, v4] (.inr (.inr (some z)) :: k) s) := rfl
theorem rx_8_ring_61 {ns n ct R K s L k a} : rn_8_ring ns ct R K (n + 1) 61 L (.inr (.inr (some (some a))) :: k) s = (sy_ob a = some 8 ∧ rn_8_ring ns ct R K n 64 L (sy_fv s a 4 :: k) s) := rfl
theorem rx_8_ring_64 {ns n ct R K s L k a} : rn_8_ring ns ct R K (n + 1) 64 L (.inr (.inr (some (some a))) :: k) s = (sy_ob a = some 1 ∧ rn_8_ring ns ct R K n 67 L (sy_fv s a 4 :: k) s) := rfl
theorem rx_8_ring_67 {ns n ct R K s L k a x} : rn_8_ring ns ct R K (n + 1) 67 L (.inl (a, x) :: k) s = (sy_ri a x ∧ (x = 0 → rn_8_ring ns ct R K n 88 L k s) ∧ (¬ x = 0 → rn_8_ring ns ct R K n 70 L k s)) := rfl
theorem rx_8_ring_70 {ns n ct R K s k z v1 v2 v3 v4} : rn_8_ring ns ct R K (n + 1) 70 [.inr (.inr (some z)), v1, v2, v3, v4] k s = (rn_8_ring ns ct R K n 71 [.inr (.inr (some z)), v1, v2, v3, v4] (.inr (.inr (some z)) :: k) s) := rfl
theorem rx_8_ring_71 {ns n ct R K s L k a} : rn_8_ring ns ct R K (n + 1) 71 L (.inr (.inr (some (some a))) :: k) s = (sy_ob a = some 8 ∧ rn_8_ring ns ct R K n 74 L (sy_fv s a 4 :: k) s) := rfl
theorem rx_8_ring_74 {ns n ct R K s k z v0 v1 v2 v4} : rn_8_ring ns ct R K (n + 1) 74 [v0, v1, v2, .inl (true, z), v4] k s = (rn_8_ring ns ct R K n 75 [v0, v1, v2, .inl (true, z), v4] (.inl (true, z) :: k) s) := rfl
theorem rx_8_ring_75 {ns n ct R K s L k} : rn_8_ring ns ct R K (n + 1) 75 L k s = (sy_call false (ct 185) k s fun r t => rn_8_ring ns ct R K n 78 L r t) := rfl
theorem rx_8_ring_78 {ns n ct R K s k z v1 v2 v3 v4} : rn_8_ring ns ct R K (n + 1) 78 [.inr (.inr (some z)), v1, v2, v3, v4] k s = (rn_8_ring ns ct R K n 79 [.inr (.inr (some z)), v1, v2, v3, v4] (.inr (.inr (some z)) :: k) s) := rfl
theorem rx_8_ring_79 {ns n ct R K s L k a} : rn_8_ring ns ct R K (n + 1) 79 L (.inr (.inr (some (some a))) :: k) s = (sy_ob a = some 8 ∧ rn_8_ring ns ct R K n 82 L (sy_fv s a 4 :: k) s) := rfl
theorem rx_8_ring_82 {ns n ct R K s L k a} : rn_8_ring ns ct R K (n + 1) 82 L (.inr (.inr (some (some a))) :: k) s = (sy_ob a = some 1 ∧ rn_8_ring ns ct R K n 85 L (sy_fv s a 4 :: k) s) := rfl
theorem rx_8_ring_85 {ns n ct R K s L k a b x y} : rn_8_ring ns ct R K (n + 1) 85 L (.inl (b, y) :: .inl (a, x) :: k) s = (sy_ri a x ∧ sy_ri b y ∧ (y ≤ x → rn_8_ring ns ct R K n 92 L k s) ∧ (¬ y ≤ x → rn_8_ring ns ct R K n 88 L k s)) := rfl
theorem rx_8_ring_88 {ns n ct R K s L k} : rn_8_ring ns ct R K (n + 1) 88 L k s = (rn_8_ring ns ct R K n 91 L (.inr (.inl (true, -1)) :: k) s) := rfl
theorem rx_8_ring_91 {ns n ct R K s L a z} : rn_8_ring ns ct R K (n + 1) 91 L [.inr (.inl (a, z))] s = (sy_rl a z ∧ R (some (.inr (.inl (true, z)))) s) := rfl
theorem rx_8_ring_92 {ns n ct R K s k z v1 v2 v3 v4} : rn_8_ring ns ct R K (n + 1) 92 [.inr (.inr (some z)), v1, v2, v3, v4] k s = (rn_8_ring ns ct R K n 93 [.inr (.inr (some z)), v1, v2, v3, v4] (.inr (.inr (some z)) :: k) s) := rfl
theorem rx_8_ring_93 {ns n ct R K s L k a} : rn_8_ring ns ct R K (n + 1) 93 L (.inr (.inr (some (some a))) :: k) s = (sy_ob a = some 8 ∧ rn_8_ring ns ct R K n 96 L (sy_fv s a 4 :: k) s) := rfl
theorem rx_8_ring_96 {ns n ct R K s k z v0 v1 v2 v4} : rn_8_ring ns ct R K (n + 1) 96 [v0, v1, v2, .inl (true, z), v4] k s = (rn_8_ring ns ct R K n 97 [v0, v1, v2, .inl (true, z), v4] (.inl (true, z) :: k) s) := rfl
theorem rx_8_ring_97 {ns n ct R K s k z v0 v1 v2 v3} : rn_8_ring ns ct R K (n + 1) 97 [v0, v1, v2, v3, .inl (true, z)] k s = (rn_8_ring ns ct R K n 99 [v0, v1, v2, v3, .inl (true, z)] (.inl (true, z) :: k) s) := rfl
theorem rx_8_ring_99 {ns n ct R K s k z v0 v1 v3 v4} : rn_8_ring ns ct R K (n + 1) 99 [v0, v1, .inl (true, z), v3, v4] k s = (rn_8_ring ns ct R K n 100 [v0, v1, .inl (true, z), v3, v4] (.inl (true, z) :: k) s) := rfl
theorem rx_8_ring_100 {ns n ct R K s L k} : rn_8_ring ns ct R K (n + 1) 100 L k s = (rn_8_ring ns ct R K n 101 L (.inl (true, 2) :: k) s) := rfl
theorem rx_8_ring_101 {ns n ct R K s L k a b x y} : rn_8_ring ns ct R K (n + 1) 101 L (.inl (b, y) :: .inl (a, x) :: k) s = (sy_ri a x ∧ sy_ri b y ∧ (¬ x = y → rn_8_ring ns ct R K n 108 L k s) ∧ (x = y → rn_8_ring ns ct R K n 104 L k s)) := rfl
theorem rx_8_ring_104 {ns n ct R K s L k} : rn_8_ring ns ct R K (n + 1) 104 L k s = (rn_8_ring ns ct R K n 105 L (.inl (true, 1) :: k) s) := rfl
theorem rx_8_ring_105 {ns n ct R K s L k} : rn_8_ring ns ct R K (n + 1) 105 L k s = (rn_8_ring ns ct R K n 109 L k s) := rfl
theorem rx_8_ring_108 {ns n ct R K s L k} : rn_8_ring ns ct R K (n + 1) 108 L k s = (rn_8_ring ns ct R K n 109 L (.inl (true, 0) :: k) s) := rfl
theorem rx_8_ring_109 {ns n ct R K s L k} : rn_8_ring ns ct R K (n + 1) 109 L k s = (sy_call false (ct 188) k s fun r t => rn_8_ring ns ct R K n 112 L r t) := rfl
theorem rx_8_ring_112 {ns n ct R K s L a z} : rn_8_ring ns ct R K (n + 1) 112 L [.inr (.inl (a, z))] s = (sy_rl a z ∧ R (some (.inr (.inl (true, z)))) s) := rfl
def y_8_plan : MethodName := ⟨"StarHide", "plan", "(III)I"⟩
abbrev c_8_plan : ByteArray := prog_1_method_27_code
def tc_8_plan (pc : Nat) : Option sy_I := match pc with
  | 0 => some (.iload_n 1, 1, 0)
  | 1 => some (.iconst 1, 2, 0)
  | 2 => some (.if_icmp .lt 22, 5, 24)
  | 5 => some (.iload_n 2, 6, 0)
  | 6 => some (.invokestatic 69, 9, 0)
  | 9 => some (.ifCond .eq 15, 12, 24)
  | 12 => some (.iload_n 3, 13, 0)
  | 13 => some (.invokestatic 69, 16, 0)
  | 16 => some (.ifCond .eq 8, 19, 24)
  | 19 => some (.iload_n 2, 20, 0)
  | 20 => some (.iload_n 3, 21, 0)
  | 21 => some (.if_icmp .lt 5, 24, 26)
  | 24 => some (.iconst (-1), 25, 0)
  | 25 => some (.ireturn, 26, 0)
  | 26 => some (.aload_n 0, 27, 0)
  | 27 => some (.getfield 51, 30, 0)
  | 30 => some (.iload_n 1, 31, 0)
  | 31 => some (.iload_n 2, 32, 0)
  | 32 => some (.iload_n 3, 33, 0)
  | 33 => some (.invokevirtual 192, 36, 0)
  | 36 => some (.ireturn, 37, 0)
  | _ => none
theorem tv_8_plan : ∀ pc i, sy_lk 37 tc_8_plan pc = some i → sy_chk c_8_plan (some .int) false pc i = true := sy_lk_ok 37 tc_8_plan (by decide +kernel)
def Mk_8_plan (ct : Nat → Option (Bool × Nat × sy_Sp)) : sy_M := (sy_lk 37 tc_8_plan, ff_8, ki_8, kl_8, ct, false)
def rn_8_plan (ns : Nat) (ct : Nat → Option (Bool × Nat × sy_Sp)) (R : sy_R) (K : sy_K) : Nat → sy_K := sy_run ns (Mk_8_plan ct) [] R K
theorem rx_8_plan_0 {ns n ct R K s k z v0 v2 v3} : rn_8_plan ns ct R K (n + 1) 0 [v0, .inl (true, z), v2, v3] k s = (rn_8_plan ns ct R K n 1 [v0, .inl (true, z), v2, v3] (.inl (true, z) :: k) s) := rfl
theorem rx_8_plan_1 {ns n ct R K s L k} : rn_8_plan ns ct R K (n + 1) 1 L k s = (rn_8_plan ns ct R K n 2 L (.inl (true, 1) :: k) s) := rfl
theorem rx_8_plan_2 {ns n ct R K s L k a b x y} : rn_8_plan ns ct R K (n + 1) 2 L (.inl (b, y) :: .inl (a, x) :: k) s = (sy_ri a x ∧ sy_ri b y ∧ (x < y → rn_8_plan ns ct R K n 24 L k s) ∧ (¬ x < y → rn_8_plan ns ct R K n 5 L k s)) := rfl
theorem rx_8_plan_5 {ns n ct R K s k z v0 v1 v3} : rn_8_plan ns ct R K (n + 1) 5 [v0, v1, .inl (true, z), v3] k s = (rn_8_plan ns ct R K n 6 [v0, v1, .inl (true, z), v3] (.inl (true, z) :: k) s) := rfl
theorem rx_8_plan_6 {ns n ct R K s L k} : rn_8_plan ns ct R K (n + 1) 6 L k s = (sy_call true (ct 69) k s fun r t => rn_8_plan ns ct R K n 9 L r t) := rfl
theorem rx_8_plan_9 {ns n ct R K s L k a x} : rn_8_plan ns ct R K (n + 1) 9 L (.inl (a, x) :: k) s = (sy_ri a x ∧ (x = 0 → rn_8_plan ns ct R K n 24 L k s) ∧ (¬ x = 0 → rn_8_plan ns ct R K n 12 L k s)) := rfl
theorem rx_8_plan_12 {ns n ct R K s k z v0 v1 v2} : rn_8_plan ns ct R K (n + 1) 12 [v0, v1, v2, .inl (true, z)] k s = (rn_8_plan ns ct R K n 13 [v0, v1, v2, .inl (true, z)] (.inl (true, z) :: k) s) := rfl
theorem rx_8_plan_13 {ns n ct R K s L k} : rn_8_plan ns ct R K (n + 1) 13 L k s = (sy_call true (ct 69) k s fun r t => rn_8_plan ns ct R K n 16 L r t) := rfl
theorem rx_8_plan_16 {ns n ct R K s L k a x} : rn_8_plan ns ct R K (n + 1) 16 L (.inl (a, x) :: k) s = (sy_ri a x ∧ (x = 0 → rn_8_plan ns ct R K n 24 L k s) ∧ (¬ x = 0 → rn_8_plan ns ct R K n 19 L k s)) := rfl
theorem rx_8_plan_19 {ns n ct R K s k z v0 v1 v3} : rn_8_plan ns ct R K (n + 1) 19 [v0, v1, .inl (true, z), v3] k s = (rn_8_plan ns ct R K n 20 [v0, v1, .inl (true, z), v3] (.inl (true, z) :: k) s) := rfl
theorem rx_8_plan_20 {ns n ct R K s k z v0 v1 v2} : rn_8_plan ns ct R K (n + 1) 20 [v0, v1, v2, .inl (true, z)] k s = (rn_8_plan ns ct R K n 21 [v0, v1, v2, .inl (true, z)] (.inl (true, z) :: k) s) := rfl
theorem rx_8_plan_21 {ns n ct R K s L k a b x y} : rn_8_plan ns ct R K (n + 1) 21 L (.inl (b, y) :: .inl (a, x) :: k) s = (sy_ri a x ∧ sy_ri b y ∧ (x < y → rn_8_plan ns ct R K n 26 L k s) ∧ (¬ x < y → rn_8_plan ns ct R K n 24 L k s)) := rfl
theorem rx_8_plan_24 {ns n ct R K s L k} : rn_8_plan ns ct R K (n + 1) 24 L k s = (rn_8_plan ns ct R K n 25 L (.inl (true, (-1)) :: k) s) := rfl
theorem rx_8_plan_25 {ns n ct R K s L a z} : rn_8_plan ns ct R K (n + 1) 25 L [.inl (a, z)] s = (sy_ri a z ∧ sy_b01 false z ∧ R (some (.inl (true, z))) s) := rfl
theorem rx_8_plan_26 {ns n ct R K s k z v1 v2 v3} : rn_8_plan ns ct R K (n + 1) 26 [.inr (.inr (some z)), v1, v2, v3] k s = (rn_8_plan ns ct R K n 27 [.inr (.inr (some z)), v1, v2, v3] (.inr (.inr (some z)) :: k) s) := rfl
theorem rx_8_plan_27 {ns n ct R K s L k a} : rn_8_plan ns ct R K (n + 1) 27 L (.inr (.inr (some (some a))) :: k) s = (sy_ob a = some 8 ∧ rn_8_plan ns ct R K n 30 L (sy_fv s a 5 :: k) s) := rfl
theorem rx_8_plan_30 {ns n ct R K s k z v0 v2 v3} : rn_8_plan ns ct R K (n + 1) 30 [v0, .inl (true, z), v2, v3] k s = (rn_8_plan ns ct R K n 31 [v0, .inl (true, z), v2, v3] (.inl (true, z) :: k) s) := rfl
theorem rx_8_plan_31 {ns n ct R K s k z v0 v1 v3} : rn_8_plan ns ct R K (n + 1) 31 [v0, v1, .inl (true, z), v3] k s = (rn_8_plan ns ct R K n 32 [v0, v1, .inl (true, z), v3] (.inl (true, z) :: k) s) := rfl
theorem rx_8_plan_32 {ns n ct R K s k z v0 v1 v2} : rn_8_plan ns ct R K (n + 1) 32 [v0, v1, v2, .inl (true, z)] k s = (rn_8_plan ns ct R K n 33 [v0, v1, v2, .inl (true, z)] (.inl (true, z) :: k) s) := rfl
theorem rx_8_plan_33 {ns n ct R K s L k} : rn_8_plan ns ct R K (n + 1) 33 L k s = (sy_call false (ct 192) k s fun r t => rn_8_plan ns ct R K n 36 L r t) := rfl
theorem rx_8_plan_36 {ns n ct R K s L a z} : rn_8_plan ns ct R K (n + 1) 36 L [.inl (a, z)] s = (sy_ri a z ∧ sy_b01 false z ∧ R (some (.inl (true, z))) s) := rfl
def y_8_planned : MethodName := ⟨"StarHide", "planned", "(I)I"⟩
abbrev c_8_planned : ByteArray := prog_1_method_28_code
def tc_8_planned (pc : Nat) : Option sy_I := match pc with
  | 0 => some (.aload_n 0, 1, 0)
  | 1 => some (.getfield 51, 4, 0)
  | 4 => some (.iload_n 1, 5, 0)
  | 5 => some (.invokevirtual 195, 8, 0)
  | 8 => some (.ireturn, 9, 0)
  | _ => none
theorem tv_8_planned : ∀ pc i, sy_lk 9 tc_8_planned pc = some i → sy_chk c_8_planned (some .int) false pc i = true := sy_lk_ok 9 tc_8_planned (by decide +kernel)
def Mk_8_planned (ct : Nat → Option (Bool × Nat × sy_Sp)) : sy_M := (sy_lk 9 tc_8_planned, ff_8, ki_8, kl_8, ct, false)
def rn_8_planned (ns : Nat) (ct : Nat → Option (Bool × Nat × sy_Sp)) (R : sy_R) (K : sy_K) : Nat → sy_K := sy_run ns (Mk_8_planned ct) [] R K
theorem rx_8_planned_0 {ns n ct R K s k z v1} : rn_8_planned ns ct R K (n + 1) 0 [.inr (.inr (some z)), v1] k s = (rn_8_planned ns ct R K n 1 [.inr (.inr (some z)), v1] (.inr (.inr (some z)) :: k) s) := rfl
theorem rx_8_planned_1 {ns n ct R K s L k a} : rn_8_planned ns ct R K (n + 1) 1 L (.inr (.inr (some (some a))) :: k) s = (sy_ob a = some 8 ∧ rn_8_planned ns ct R K n 4 L (sy_fv s a 5 :: k) s) := rfl
theorem rx_8_planned_4 {ns n ct R K s k z v0} : rn_8_planned ns ct R K (n + 1) 4 [v0, .inl (true, z)] k s = (rn_8_planned ns ct R K n 5 [v0, .inl (true, z)] (.inl (true, z) :: k) s) := rfl
theorem rx_8_planned_5 {ns n ct R K s L k} : rn_8_planned ns ct R K (n + 1) 5 L k s = (sy_call false (ct 195) k s fun r t => rn_8_planned ns ct R K n 8 L r t) := rfl
theorem rx_8_planned_8 {ns n ct R K s L a z} : rn_8_planned ns ct R K (n + 1) 8 L [.inl (a, z)] s = (sy_ri a z ∧ sy_b01 false z ∧ R (some (.inl (true, z))) s) := rfl
def y_8_all : MethodName := ⟨"StarHide", "all", "(I)I"⟩
abbrev c_8_all : ByteArray := prog_1_method_29_code
def tc_8_all (pc : Nat) : Option sy_I := match pc with
  | 0 => some (.iload_n 1, 1, 0)
  | 1 => some (.tableswitch 78 0 4 #[35, 43, 52, 61, 70], 36, 79)
  | 36 => some (.aload_n 0, 37, 0)
  | 37 => some (.getfield 10, 40, 0)
  | 40 => some (.getfield 198, 43, 0)
  | 43 => some (.ireturn, 44, 0)
  | 44 => some (.aload_n 0, 45, 0)
  | 45 => some (.getfield 10, 48, 0)
  | 48 => some (.iconst 1, 49, 0)
  | 49 => some (.invokevirtual 199, 52, 0)
  | 52 => some (.ireturn, 53, 0)
  | 53 => some (.aload_n 0, 54, 0)
  | 54 => some (.getfield 10, 57, 0)
  | 57 => some (.iconst 2, 58, 0)
  | 58 => some (.invokevirtual 199, 61, 0)
  | 61 => some (.ireturn, 62, 0)
  | 62 => some (.aload_n 0, 63, 0)
  | 63 => some (.getfield 10, 66, 0)
  | 66 => some (.iconst 3, 67, 0)
  | 67 => some (.invokevirtual 199, 70, 0)
  | 70 => some (.ireturn, 71, 0)
  | 71 => some (.aload_n 0, 72, 0)
  | 72 => some (.getfield 44, 75, 0)
  | 75 => some (.getfield 180, 78, 0)
  | 78 => some (.ireturn, 79, 0)
  | 79 => some (.iconst (-1), 80, 0)
  | 80 => some (.ireturn, 81, 0)
  | _ => none
theorem tv_8_all : ∀ pc i, sy_lk 81 tc_8_all pc = some i → sy_chk c_8_all (some .int) false pc i = true := sy_lk_ok 81 tc_8_all (by decide +kernel)
def Mk_8_all (ct : Nat → Option (Bool × Nat × sy_Sp)) : sy_M := (sy_lk 81 tc_8_all, ff_8, ki_8, kl_8, ct, false)
def rn_8_all (ns : Nat) (ct : Nat → Option (Bool × Nat × sy_Sp)) (R : sy_R) (K : sy_K) : Nat → sy_K := sy_run ns (Mk_8_all ct) [] R K
theorem rx_8_all_0 {ns n ct R K s k z v0} : rn_8_all ns ct R K (n + 1) 0 [v0, .inl (true, z)] k s = (rn_8_all ns ct R K n 1 [v0, .inl (true, z)] (.inl (true, z) :: k) s) := rfl
theorem rx_8_all_1 {ns n ct R K s L k a x} : rn_8_all ns ct R K (n + 1) 1 L (.inl (a, x) :: k) s = (sy_ri a x ∧ ((x < 0 ∨ 4 < x) → rn_8_all ns ct R K n 79 L k s) ∧ (x = 0 → rn_8_all ns ct R K n 36 L k s) ∧ (x = 1 → rn_8_all ns ct R K n 44 L k s) ∧ (x = 2 → rn_8_all ns ct R K n 53 L k s) ∧ (x = 3 → rn_8_all ns ct R K n 62 L k s) ∧ (x = 4 → rn_8_all ns ct R K n 71 L k s) ∧ True) := rfl
theorem rx_8_all_36 {ns n ct R K s k z v1} : rn_8_all ns ct R K (n + 1) 36 [.inr (.inr (some z)), v1] k s = (rn_8_all ns ct R K n 37 [.inr (.inr (some z)), v1] (.inr (.inr (some z)) :: k) s) := rfl
theorem rx_8_all_37 {ns n ct R K s L k a} : rn_8_all ns ct R K (n + 1) 37 L (.inr (.inr (some (some a))) :: k) s = (sy_ob a = some 8 ∧ rn_8_all ns ct R K n 40 L (sy_fv s a 0 :: k) s) := rfl
theorem rx_8_all_40 {ns n ct R K s L k a} : rn_8_all ns ct R K (n + 1) 40 L (.inr (.inr (some (some a))) :: k) s = (sy_ob a = some 7 ∧ rn_8_all ns ct R K n 43 L (sy_fv s a 1 :: k) s) := rfl
theorem rx_8_all_43 {ns n ct R K s L a z} : rn_8_all ns ct R K (n + 1) 43 L [.inl (a, z)] s = (sy_ri a z ∧ sy_b01 false z ∧ R (some (.inl (true, z))) s) := rfl
theorem rx_8_all_44 {ns n ct R K s k z v1} : rn_8_all ns ct R K (n + 1) 44 [.inr (.inr (some z)), v1] k s = (rn_8_all ns ct R K n 45 [.inr (.inr (some z)), v1] (.inr (.inr (some z)) :: k) s) := rfl
theorem rx_8_all_45 {ns n ct R K s L k a} : rn_8_all ns ct R K (n + 1) 45 L (.inr (.inr (some (some a))) :: k) s = (sy_ob a = some 8 ∧ rn_8_all ns ct R K n 48 L (sy_fv s a 0 :: k) s) := rfl
theorem rx_8_all_48 {ns n ct R K s L k} : rn_8_all ns ct R K (n + 1) 48 L k s = (rn_8_all ns ct R K n 49 L (.inl (true, 1) :: k) s) := rfl
theorem rx_8_all_49 {ns n ct R K s L k} : rn_8_all ns ct R K (n + 1) 49 L k s = (sy_call false (ct 199) k s fun r t => rn_8_all ns ct R K n 52 L r t) := rfl
theorem rx_8_all_52 {ns n ct R K s L a z} : rn_8_all ns ct R K (n + 1) 52 L [.inl (a, z)] s = (sy_ri a z ∧ sy_b01 false z ∧ R (some (.inl (true, z))) s) := rfl
theorem rx_8_all_53 {ns n ct R K s k z v1} : rn_8_all ns ct R K (n + 1) 53 [.inr (.inr (some z)), v1] k s = (rn_8_all ns ct R K n 54 [.inr (.inr (some z)), v1] (.inr (.inr (some z)) :: k) s) := rfl
theorem rx_8_all_54 {ns n ct R K s L k a} : rn_8_all ns ct R K (n + 1) 54 L (.inr (.inr (some (some a))) :: k) s = (sy_ob a = some 8 ∧ rn_8_all ns ct R K n 57 L (sy_fv s a 0 :: k) s) := rfl
theorem rx_8_all_57 {ns n ct R K s L k} : rn_8_all ns ct R K (n + 1) 57 L k s = (rn_8_all ns ct R K n 58 L (.inl (true, 2) :: k) s) := rfl
theorem rx_8_all_58 {ns n ct R K s L k} : rn_8_all ns ct R K (n + 1) 58 L k s = (sy_call false (ct 199) k s fun r t => rn_8_all ns ct R K n 61 L r t) := rfl
theorem rx_8_all_61 {ns n ct R K s L a z} : rn_8_all ns ct R K (n + 1) 61 L [.inl (a, z)] s = (sy_ri a z ∧ sy_b01 false z ∧ R (some (.inl (true, z))) s) := rfl
theorem rx_8_all_62 {ns n ct R K s k z v1} : rn_8_all ns ct R K (n + 1) 62 [.inr (.inr (some z)), v1] k s = (rn_8_all ns ct R K n 63 [.inr (.inr (some z)), v1] (.inr (.inr (some z)) :: k) s) := rfl
theorem rx_8_all_63 {ns n ct R K s L k a} : rn_8_all ns ct R K (n + 1) 63 L (.inr (.inr (some (some a))) :: k) s = (sy_ob a = some 8 ∧ rn_8_all ns ct R K n 66 L (sy_fv s a 0 :: k) s) := rfl
theorem rx_8_all_66 {ns n ct R K s L k} : rn_8_all ns ct R K (n + 1) 66 L k s = (rn_8_all ns ct R K n 67 L (.inl (true, 3) :: k) s) := rfl
theorem rx_8_all_67 {ns n ct R K s L k} : rn_8_all ns ct R K (n + 1) 67 L k s = (sy_call false (ct 199) k s fun r t => rn_8_all ns ct R K n 70 L r t) := rfl
theorem rx_8_all_70 {ns n ct R K s L a z} : rn_8_all ns ct R K (n + 1) 70 L [.inl (a, z)] s = (sy_ri a z ∧ sy_b01 false z ∧ R (some (.inl (true, z))) s) := rfl
theorem rx_8_all_71 {ns n ct R K s k z v1} : rn_8_all ns ct R K (n + 1) 71 [.inr (.inr (some z)), v1] k s = (rn_8_all ns ct R K n 72 [.inr (.inr (some z)), v1] (.inr (.inr (some z)) :: k) s) := rfl
theorem rx_8_all_72 {ns n ct R K s L k a} : rn_8_all ns ct R K (n + 1) 72 L (.inr (.inr (some (some a))) :: k) s = (sy_ob a = some 8 ∧ rn_8_all ns ct R K n 75 L (sy_fv s a 4 :: k) s) := rfl
theorem rx_8_all_75 {ns n ct R K s L k a} : rn_8_all ns ct R K (n + 1) 75 L (.inr (.inr (some (some a))) :: k) s = (sy_ob a = some 1 ∧ rn_8_all ns ct R K n 78 L (sy_fv s a 4 :: k) s) := rfl
theorem rx_8_all_78 {ns n ct R K s L a z} : rn_8_all ns ct R K (n + 1) 78 L [.inl (a, z)] s = (sy_ri a z ∧ sy_b01 false z ∧ R (some (.inl (true, z))) s) := rfl
theorem rx_8_all_79 {ns n ct R K s L k} : rn_8_all ns ct R K (n + 1) 79 L k s = (rn_8_all ns ct R K n 80 L (.inl (true, (-1)) :: k) s) := rfl
theorem rx_8_all_80 {ns n ct R K s L a z} : rn_8_all ns ct R K (n + 1) 80 L [.inl (a, z)] s = (sy_ri a z ∧ sy_b01 false z ∧ R (some (.inl (true, z))) s) := rfl
def y_8_changed : MethodName := ⟨"StarHide", "changed", "(I)V"⟩
abbrev c_8_changed : ByteArray := prog_1_method_30_code
def tc_8_changed (pc : Nat) : Option sy_I := match pc with
  | 0 => some (.aload_n 0, 1, 0)
  | 1 => some (.getfield 28, 4, 0)
  | 4 => some (.iload_n 1, 5, 0)
  | 5 => some (.invokevirtual 201, 8, 0)
  | 8 => some (.aload_n 0, 9, 0)
  | 9 => some (.getfield 37, 12, 0)
  | 12 => some (.invokevirtual 66, 15, 0)
  | 15 => some (.return_, 16, 0)
  | _ => none
theorem tv_8_changed : ∀ pc i, sy_lk 16 tc_8_changed pc = some i → sy_chk c_8_changed none false pc i = true := sy_lk_ok 16 tc_8_changed (by decide +kernel)
def Mk_8_changed (ct : Nat → Option (Bool × Nat × sy_Sp)) : sy_M := (sy_lk 16 tc_8_changed, ff_8, ki_8, kl_8, ct, false)
def rn_8_changed (ns : Nat) (ct : Nat → Option (Bool × Nat × sy_Sp)) (R : sy_R) (K : sy_K) : Nat → sy_K := sy_run ns (Mk_8_changed ct) [] R K
theorem rx_8_changed_0 {ns n ct R K s k z v1} : rn_8_changed ns ct R K (n + 1) 0 [.inr (.inr (some z)), v1] k s = (rn_8_changed ns ct R K n 1 [.inr (.inr (some z)), v1] (.inr (.inr (some z)) :: k) s) := rfl
theorem rx_8_changed_1 {ns n ct R K s L k a} : rn_8_changed ns ct R K (n + 1) 1 L (.inr (.inr (some (some a))) :: k) s = (sy_ob a = some 8 ∧ rn_8_changed ns ct R K n 4 L (sy_fv s a 2 :: k) s) := rfl
theorem rx_8_changed_4 {ns n ct R K s k z v0} : rn_8_changed ns ct R K (n + 1) 4 [v0, .inl (true, z)] k s = (rn_8_changed ns ct R K n 5 [v0, .inl (true, z)] (.inl (true, z) :: k) s) := rfl
theorem rx_8_changed_5 {ns n ct R K s L k} : rn_8_changed ns ct R K (n + 1) 5 L k s = (sy_call false (ct 201) k s fun r t => rn_8_changed ns ct R K n 8 L r t) := rfl
theorem rx_8_changed_8 {ns n ct R K s k z v1} : rn_8_changed ns ct R K (n + 1) 8 [.inr (.inr (some z)), v1] k s = (rn_8_changed ns ct R K n 9 [.inr (.inr (some z)), v1] (.inr (.inr (some z)) :: k) s) := rfl
theorem rx_8_changed_9 {ns n ct R K s L k a} : rn_8_changed ns ct R K (n + 1) 9 L (.inr (.inr (some (some a))) :: k) s = (sy_ob a = some 8 ∧ rn_8_changed ns ct R K n 12 L (sy_fv s a 3 :: k) s) := rfl
theorem rx_8_changed_12 {ns n ct R K s L k} : rn_8_changed ns ct R K (n + 1) 12 L k s = (sy_call false (ct 66) k s fun r t => rn_8_changed ns ct R K n 15 L r t) := rfl
theorem rx_8_changed_15 {ns n ct R K s L} : rn_8_changed ns ct R K (n + 1) 15 L [] s = (R none s) := rfl
def y_8_isTick : MethodName := ⟨"StarHide", "isTick", "(I)Z"⟩
abbrev c_8_isTick : ByteArray := prog_1_method_31_code
def tc_8_isTick (pc : Nat) : Option sy_I := match pc with
  | 0 => some (.iload_n 0, 1, 0)
  | 1 => some (.sipush (-1000), 4, 0)
  | 4 => some (.sipush 1000, 7, 0)
  | 7 => some (.invokestatic 55, 10, 0)
  | 10 => some (.ireturn, 11, 0)
  | _ => none
theorem tv_8_isTick : ∀ pc i, sy_lk 11 tc_8_isTick pc = some i → sy_chk c_8_isTick (some .boolean) true pc i = true := sy_lk_ok 11 tc_8_isTick (by decide +kernel)
def Mk_8_isTick (ct : Nat → Option (Bool × Nat × sy_Sp)) : sy_M := (sy_lk 11 tc_8_isTick, ff_8, ki_8, kl_8, ct, true)
def rn_8_isTick (ns : Nat) (ct : Nat → Option (Bool × Nat × sy_Sp)) (R : sy_R) (K : sy_K) : Nat → sy_K := sy_run ns (Mk_8_isTick ct) [] R K
theorem rx_8_isTick_0 {ns n ct R K s k z} : rn_8_isTick ns ct R K (n + 1) 0 [.inl (true, z)] k s = (rn_8_isTick ns ct R K n 1 [.inl (true, z)] (.inl (true, z) :: k) s) := rfl
theorem rx_8_isTick_1 {ns n ct R K s L k} : rn_8_isTick ns ct R K (n + 1) 1 L k s = (rn_8_isTick ns ct R K n 4 L (.inl (true, (-1000)) :: k) s) := rfl
theorem rx_8_isTick_4 {ns n ct R K s L k} : rn_8_isTick ns ct R K (n + 1) 4 L k s = (rn_8_isTick ns ct R K n 7 L (.inl (true, 1000) :: k) s) := rfl
theorem rx_8_isTick_7 {ns n ct R K s L k} : rn_8_isTick ns ct R K (n + 1) 7 L k s = (sy_call true (ct 55) k s fun r t => rn_8_isTick ns ct R K n 10 L r t) := rfl
theorem rx_8_isTick_10 {ns n ct R K s L a z} : rn_8_isTick ns ct R K (n + 1) 10 L [.inl (a, z)] s = (sy_ri a z ∧ sy_b01 true z ∧ R (some (.inl (true, z))) s) := rfl
def y_8_isHeight : MethodName := ⟨"StarHide", "isHeight", "(I)Z"⟩
abbrev c_8_isHeight : ByteArray := prog_1_method_32_code
def tc_8_isHeight (pc : Nat) : Option sy_I := match pc with
  | 0 => some (.iload_n 0, 1, 0)
  | 1 => some (.sipush (-2000), 4, 0)
  | 4 => some (.sipush 2000, 7, 0)
  | 7 => some (.invokestatic 55, 10, 0)
  | 10 => some (.ireturn, 11, 0)
  | _ => none
theorem tv_8_isHeight : ∀ pc i, sy_lk 11 tc_8_isHeight pc = some i → sy_chk c_8_isHeight (some .boolean) true pc i = true := sy_lk_ok 11 tc_8_isHeight (by decide +kernel)
def Mk_8_isHeight (ct : Nat → Option (Bool × Nat × sy_Sp)) : sy_M := (sy_lk 11 tc_8_isHeight, ff_8, ki_8, kl_8, ct, true)
def rn_8_isHeight (ns : Nat) (ct : Nat → Option (Bool × Nat × sy_Sp)) (R : sy_R) (K : sy_K) : Nat → sy_K := sy_run ns (Mk_8_isHeight ct) [] R K
theorem rx_8_isHeight_0 {ns n ct R K s k z} : rn_8_isHeight ns ct R K (n + 1) 0 [.inl (true, z)] k s = (rn_8_isHeight ns ct R K n 1 [.inl (true, z)] (.inl (true, z) :: k) s) := rfl
theorem rx_8_isHeight_1 {ns n ct R K s L k} : rn_8_isHeight ns ct R K (n + 1) 1 L k s = (rn_8_isHeight ns ct R K n 4 L (.inl (true, (-2000)) :: k) s) := rfl
theorem rx_8_isHeight_4 {ns n ct R K s L k} : rn_8_isHeight ns ct R K (n + 1) 4 L k s = (rn_8_isHeight ns ct R K n 7 L (.inl (true, 2000) :: k) s) := rfl
theorem rx_8_isHeight_7 {ns n ct R K s L k} : rn_8_isHeight ns ct R K (n + 1) 7 L k s = (sy_call true (ct 55) k s fun r t => rn_8_isHeight ns ct R K n 10 L r t) := rfl
theorem rx_8_isHeight_10 {ns n ct R K s L a z} : rn_8_isHeight ns ct R K (n + 1) 10 L [.inl (a, z)] s = (sy_ri a z ∧ sy_b01 true z ∧ R (some (.inl (true, z))) s) := rfl
def y_8_within : MethodName := ⟨"StarHide", "within", "(III)Z"⟩
abbrev c_8_within : ByteArray := prog_1_method_33_code
def tc_8_within (pc : Nat) : Option sy_I := match pc with
  | 0 => some (.iload_n 0, 1, 0)
  | 1 => some (.iload_n 1, 2, 0)
  | 2 => some (.if_icmp .lt 12, 5, 14)
  | 5 => some (.iload_n 0, 6, 0)
  | 6 => some (.iload_n 2, 7, 0)
  | 7 => some (.if_icmp .gt 7, 10, 14)
  | 10 => some (.iconst 1, 11, 0)
  | 11 => some (.goto 4, 14, 15)
  | 14 => some (.iconst 0, 15, 0)
  | 15 => some (.ireturn, 16, 0)
  | _ => none
theorem tv_8_within : ∀ pc i, sy_lk 16 tc_8_within pc = some i → sy_chk c_8_within (some .boolean) true pc i = true := sy_lk_ok 16 tc_8_within (by decide +kernel)
def Mk_8_within (ct : Nat → Option (Bool × Nat × sy_Sp)) : sy_M := (sy_lk 16 tc_8_within, ff_8, ki_8, kl_8, ct, true)
def rn_8_within (ns : Nat) (ct : Nat → Option (Bool × Nat × sy_Sp)) (R : sy_R) (K : sy_K) : Nat → sy_K := sy_run ns (Mk_8_within ct) [] R K
theorem rx_8_within_0 {ns n ct R K s k z v1 v2} : rn_8_within ns ct R K (n + 1) 0 [.inl (true, z), v1, v2] k s = (rn_8_within ns ct R K n 1 [.inl (true, z), v1, v2] (.inl (true, z) :: k) s) := rfl
theorem rx_8_within_1 {ns n ct R K s k z v0 v2} : rn_8_within ns ct R K (n + 1) 1 [v0, .inl (true, z), v2] k s = (rn_8_within ns ct R K n 2 [v0, .inl (true, z), v2] (.inl (true, z) :: k) s) := rfl
theorem rx_8_within_2 {ns n ct R K s L k a b x y} : rn_8_within ns ct R K (n + 1) 2 L (.inl (b, y) :: .inl (a, x) :: k) s = (sy_ri a x ∧ sy_ri b y ∧ (x < y → rn_8_within ns ct R K n 14 L k s) ∧ (¬ x < y → rn_8_within ns ct R K n 5 L k s)) := rfl
theorem rx_8_within_5 {ns n ct R K s k z v1 v2} : rn_8_within ns ct R K (n + 1) 5 [.inl (true, z), v1, v2] k s = (rn_8_within ns ct R K n 6 [.inl (true, z), v1, v2] (.inl (true, z) :: k) s) := rfl
theorem rx_8_within_6 {ns n ct R K s k z v0 v1} : rn_8_within ns ct R K (n + 1) 6 [v0, v1, .inl (true, z)] k s = (rn_8_within ns ct R K n 7 [v0, v1, .inl (true, z)] (.inl (true, z) :: k) s) := rfl
theorem rx_8_within_7 {ns n ct R K s L k a b x y} : rn_8_within ns ct R K (n + 1) 7 L (.inl (b, y) :: .inl (a, x) :: k) s = (sy_ri a x ∧ sy_ri b y ∧ (y < x → rn_8_within ns ct R K n 14 L k s) ∧ (¬ y < x → rn_8_within ns ct R K n 10 L k s)) := rfl
theorem rx_8_within_10 {ns n ct R K s L k} : rn_8_within ns ct R K (n + 1) 10 L k s = (rn_8_within ns ct R K n 11 L (.inl (true, 1) :: k) s) := rfl
theorem rx_8_within_11 {ns n ct R K s L k} : rn_8_within ns ct R K (n + 1) 11 L k s = (rn_8_within ns ct R K n 15 L k s) := rfl
theorem rx_8_within_14 {ns n ct R K s L k} : rn_8_within ns ct R K (n + 1) 14 L k s = (rn_8_within ns ct R K n 15 L (.inl (true, 0) :: k) s) := rfl
theorem rx_8_within_15 {ns n ct R K s L a z} : rn_8_within ns ct R K (n + 1) 15 L [.inl (a, z)] s = (sy_ri a z ∧ sy_b01 true z ∧ R (some (.inl (true, z))) s) := rfl
def y_N_bitCount : MethodName := ⟨"java/lang/Integer", "bitCount", "(I)I"⟩
abbrev c_N_bitCount : ByteArray := prog_12_method_49_code
def tc_N_bitCount (pc : Nat) : Option sy_I := match pc with
  | 0 => some (.iload_n 0, 1, 0)
  | 1 => some (.iload_n 0, 2, 0)
  | 2 => some (.iconst 1, 3, 0)
  | 3 => some (.iushr, 4, 0)
  | 4 => some (.ldc_w 265, 7, 0)
  | 7 => some (.iand, 8, 0)
  | 8 => some (.isub, 9, 0)
  | 9 => some (.istore_n 0, 10, 0)
  | 10 => some (.iload_n 0, 11, 0)
  | 11 => some (.ldc_w 266, 14, 0)
  | 14 => some (.iand, 15, 0)
  | 15 => some (.iload_n 0, 16, 0)
  | 16 => some (.iconst 2, 17, 0)
  | 17 => some (.iushr, 18, 0)
  | 18 => some (.ldc_w 266, 21, 0)
  | 21 => some (.iand, 22, 0)
  | 22 => some (.iadd, 23, 0)
  | 23 => some (.istore_n 0, 24, 0)
  | 24 => some (.iload_n 0, 25, 0)
  | 25 => some (.iload_n 0, 26, 0)
  | 26 => some (.iconst 4, 27, 0)
  | 27 => some (.iushr, 28, 0)
  | 28 => some (.iadd, 29, 0)
  | 29 => some (.ldc_w 267, 32, 0)
  | 32 => some (.iand, 33, 0)
  | 33 => some (.istore_n 0, 34, 0)
  | 34 => some (.iload_n 0, 35, 0)
  | 35 => some (.iload_n 0, 36, 0)
  | 36 => some (.bipush 8, 38, 0)
  | 38 => some (.iushr, 39, 0)
  | 39 => some (.iadd, 40, 0)
  | 40 => some (.istore_n 0, 41, 0)
  | 41 => some (.iload_n 0, 42, 0)
  | 42 => some (.iload_n 0, 43, 0)
  | 43 => some (.bipush 16, 45, 0)
  | 45 => some (.iushr, 46, 0)
  | 46 => some (.iadd, 47, 0)
  | 47 => some (.istore_n 0, 48, 0)
  | 48 => some (.iload_n 0, 49, 0)
  | 49 => some (.bipush 63, 51, 0)
  | 51 => some (.iand, 52, 0)
  | 52 => some (.ireturn, 53, 0)
  | _ => none
theorem tv_N_bitCount : ∀ pc i, sy_lk 53 tc_N_bitCount pc = some i → sy_chk c_N_bitCount (some .int) false pc i = true := sy_lk_ok 53 tc_N_bitCount (by decide +kernel)
def Mk_N_bitCount (ct : Nat → Option (Bool × Nat × sy_Sp)) : sy_M := (sy_lk 53 tc_N_bitCount, ff_N, ki_N, kl_N, ct, false)
def rn_N_bitCount (ns : Nat) (ct : Nat → Option (Bool × Nat × sy_Sp)) (R : sy_R) (K : sy_K) : Nat → sy_K := sy_run ns (Mk_N_bitCount ct) [] R K
theorem rx_N_bitCount_0 {ns n ct R K s k z} : rn_N_bitCount ns ct R K (n + 1) 0 [.inl (true, z)] k s = (rn_N_bitCount ns ct R K n 1 [.inl (true, z)] (.inl (true, z) :: k) s) := rfl
theorem rx_N_bitCount_1 {ns n ct R K s k z} : rn_N_bitCount ns ct R K (n + 1) 1 [.inl (true, z)] k s = (rn_N_bitCount ns ct R K n 2 [.inl (true, z)] (.inl (true, z) :: k) s) := rfl
theorem rx_N_bitCount_2 {ns n ct R K s L k} : rn_N_bitCount ns ct R K (n + 1) 2 L k s = (rn_N_bitCount ns ct R K n 3 L (.inl (true, 1) :: k) s) := rfl
theorem rx_N_bitCount_3 {ns n ct R K s L k a b x y} : rn_N_bitCount ns ct R K (n + 1) 3 L (.inl (b, y) :: .inl (a, x) :: k) s = (rn_N_bitCount ns ct R K n 4 L (.inl (true, ((Int32.ofInt x).toUInt32 >>> ((Int32.ofInt y).toUInt32 &&& Int32.toUInt32 31)).toInt32.toInt) :: k) s) := rfl
theorem rx_N_bitCount_4 {ns n ct R K s L k} : rn_N_bitCount ns ct R K (n + 1) 4 L k s = (rn_N_bitCount ns ct R K n 7 L (.inl (true, 1431655765) :: k) s) := rfl
theorem rx_N_bitCount_7 {ns n ct R K s L k a b x y} : rn_N_bitCount ns ct R K (n + 1) 7 L (.inl (b, y) :: .inl (a, x) :: k) s = (rn_N_bitCount ns ct R K n 8 L (.inl (true, (Int32.ofInt x &&& Int32.ofInt y).toInt) :: k) s) := rfl
theorem rx_N_bitCount_8 {ns n ct R K s L k a b x y} : rn_N_bitCount ns ct R K (n + 1) 8 L (.inl (b, y) :: .inl (a, x) :: k) s = (rn_N_bitCount ns ct R K n 9 L (.inl (false, x - y) :: k) s) := rfl
theorem rx_N_bitCount_9 {ns n ct R K s L k b z} : rn_N_bitCount ns ct R K (n + 1) 9 L (.inl (b, z) :: k) s = (sy_ri b z ∧ 0 < L.length ∧ rn_N_bitCount ns ct R K n 10 (sy_sto L 0 (.inl (true, z))) k s) := rfl
theorem rx_N_bitCount_10 {ns n ct R K s k z} : rn_N_bitCount ns ct R K (n + 1) 10 [.inl (true, z)] k s = (rn_N_bitCount ns ct R K n 11 [.inl (true, z)] (.inl (true, z) :: k) s) := rfl
theorem rx_N_bitCount_11 {ns n ct R K s L k} : rn_N_bitCount ns ct R K (n + 1) 11 L k s = (rn_N_bitCount ns ct R K n 14 L (.inl (true, 858993459) :: k) s) := rfl
theorem rx_N_bitCount_14 {ns n ct R K s L k a b x y} : rn_N_bitCount ns ct R K (n + 1) 14 L (.inl (b, y) :: .inl (a, x) :: k) s = (rn_N_bitCount ns ct R K n 15 L (.inl (true, (Int32.ofInt x &&& Int32.ofInt y).toInt) :: k) s) := rfl
theorem rx_N_bitCount_15 {ns n ct R K s k z} : rn_N_bitCount ns ct R K (n + 1) 15 [.inl (true, z)] k s = (rn_N_bitCount ns ct R K n 16 [.inl (true, z)] (.inl (true, z) :: k) s) := rfl
theorem rx_N_bitCount_16 {ns n ct R K s L k} : rn_N_bitCount ns ct R K (n + 1) 16 L k s = (rn_N_bitCount ns ct R K n 17 L (.inl (true, 2) :: k) s) := rfl
theorem rx_N_bitCount_17 {ns n ct R K s L k a b x y} : rn_N_bitCount ns ct R K (n + 1) 17 L (.inl (b, y) :: .inl (a, x) :: k) s = (rn_N_bitCount ns ct R K n 18 L (.inl (true, ((Int32.ofInt x).toUInt32 >>> ((Int32.ofInt y).toUInt32 &&& Int32.toUInt32 31)).toInt32.toInt) :: k) s) := rfl
theorem rx_N_bitCount_18 {ns n ct R K s L k} : rn_N_bitCount ns ct R K (n + 1) 18 L k s = (rn_N_bitCount ns ct R K n 21 L (.inl (true, 858993459) :: k) s) := rfl
theorem rx_N_bitCount_21 {ns n ct R K s L k a b x y} : rn_N_bitCount ns ct R K (n + 1) 21 L (.inl (b, y) :: .inl (a, x) :: k) s = (rn_N_bitCount ns ct R K n 22 L (.inl (true, (Int32.ofInt x &&& Int32.ofInt y).toInt) :: k) s) := rfl
theorem rx_N_bitCount_22 {ns n ct R K s L k a b x y} : rn_N_bitCount ns ct R K (n + 1) 22 L (.inl (b, y) :: .inl (a, x) :: k) s = (rn_N_bitCount ns ct R K n 23 L (.inl (false, x + y) :: k) s) := rfl
theorem rx_N_bitCount_23 {ns n ct R K s L k b z} : rn_N_bitCount ns ct R K (n + 1) 23 L (.inl (b, z) :: k) s = (sy_ri b z ∧ 0 < L.length ∧ rn_N_bitCount ns ct R K n 24 (sy_sto L 0 (.inl (true, z))) k s) := rfl
theorem rx_N_bitCount_24 {ns n ct R K s k z} : rn_N_bitCount ns ct R K (n + 1) 24 [.inl (true, z)] k s = (rn_N_bitCount ns ct R K n 25 [.inl (true, z)] (.inl (true, z) :: k) s) := rfl
theorem rx_N_bitCount_25 {ns n ct R K s k z} : rn_N_bitCount ns ct R K (n + 1) 25 [.inl (true, z)] k s = (rn_N_bitCount ns ct R K n 26 [.inl (true, z)] (.inl (true, z) :: k) s) := rfl
theorem rx_N_bitCount_26 {ns n ct R K s L k} : rn_N_bitCount ns ct R K (n + 1) 26 L k s = (rn_N_bitCount ns ct R K n 27 L (.inl (true, 4) :: k) s) := rfl
theorem rx_N_bitCount_27 {ns n ct R K s L k a b x y} : rn_N_bitCount ns ct R K (n + 1) 27 L (.inl (b, y) :: .inl (a, x) :: k) s = (rn_N_bitCount ns ct R K n 28 L (.inl (true, ((Int32.ofInt x).toUInt32 >>> ((Int32.ofInt y).toUInt32 &&& Int32.toUInt32 31)).toInt32.toInt) :: k) s) := rfl
theorem rx_N_bitCount_28 {ns n ct R K s L k a b x y} : rn_N_bitCount ns ct R K (n + 1) 28 L (.inl (b, y) :: .inl (a, x) :: k) s = (rn_N_bitCount ns ct R K n 29 L (.inl (false, x + y) :: k) s) := rfl
theorem rx_N_bitCount_29 {ns n ct R K s L k} : rn_N_bitCount ns ct R K (n + 1) 29 L k s = (rn_N_bitCount ns ct R K n 32 L (.inl (true, 252645135) :: k) s) := rfl
theorem rx_N_bitCount_32 {ns n ct R K s L k a b x y} : rn_N_bitCount ns ct R K (n + 1) 32 L (.inl (b, y) :: .inl (a, x) :: k) s = (rn_N_bitCount ns ct R K n 33 L (.inl (true, (Int32.ofInt x &&& Int32.ofInt y).toInt) :: k) s) := rfl
theorem rx_N_bitCount_33 {ns n ct R K s L k b z} : rn_N_bitCount ns ct R K (n + 1) 33 L (.inl (b, z) :: k) s = (sy_ri b z ∧ 0 < L.length ∧ rn_N_bitCount ns ct R K n 34 (sy_sto L 0 (.inl (true, z))) k s) := rfl
theorem rx_N_bitCount_34 {ns n ct R K s k z} : rn_N_bitCount ns ct R K (n + 1) 34 [.inl (true, z)] k s = (rn_N_bitCount ns ct R K n 35 [.inl (true, z)] (.inl (true, z) :: k) s) := rfl
theorem rx_N_bitCount_35 {ns n ct R K s k z} : rn_N_bitCount ns ct R K (n + 1) 35 [.inl (true, z)] k s = (rn_N_bitCount ns ct R K n 36 [.inl (true, z)] (.inl (true, z) :: k) s) := rfl
theorem rx_N_bitCount_36 {ns n ct R K s L k} : rn_N_bitCount ns ct R K (n + 1) 36 L k s = (rn_N_bitCount ns ct R K n 38 L (.inl (true, 8) :: k) s) := rfl
theorem rx_N_bitCount_38 {ns n ct R K s L k a b x y} : rn_N_bitCount ns ct R K (n + 1) 38 L (.inl (b, y) :: .inl (a, x) :: k) s = (rn_N_bitCount ns ct R K n 39 L (.inl (true, ((Int32.ofInt x).toUInt32 >>> ((Int32.ofInt y).toUInt32 &&& Int32.toUInt32 31)).toInt32.toInt) :: k) s) := rfl
theorem rx_N_bitCount_39 {ns n ct R K s L k a b x y} : rn_N_bitCount ns ct R K (n + 1) 39 L (.inl (b, y) :: .inl (a, x) :: k) s = (rn_N_bitCount ns ct R K n 40 L (.inl (false, x + y) :: k) s) := rfl
theorem rx_N_bitCount_40 {ns n ct R K s L k b z} : rn_N_bitCount ns ct R K (n + 1) 40 L (.inl (b, z) :: k) s = (sy_ri b z ∧ 0 < L.length ∧ rn_N_bitCount ns ct R K n 41 (sy_sto L 0 (.inl (true, z))) k s) := rfl
theorem rx_N_bitCount_41 {ns n ct R K s k z} : rn_N_bitCount ns ct R K (n + 1) 41 [.inl (true, z)] k s = (rn_N_bitCount ns ct R K n 42 [.inl (true, z)] (.inl (true, z) :: k) s) := rfl
theorem rx_N_bitCount_42 {ns n ct R K s k z} : rn_N_bitCount ns ct R K (n + 1) 42 [.inl (true, z)] k s = (rn_N_bitCount ns ct R K n 43 [.inl (true, z)] (.inl (true, z) :: k) s) := rfl
theorem rx_N_bitCount_43 {ns n ct R K s L k} : rn_N_bitCount ns ct R K (n + 1) 43 L k s = (rn_N_bitCount ns ct R K n 45 L (.inl (true, 16) :: k) s) := rfl
theorem rx_N_bitCount_45 {ns n ct R K s L k a b x y} : rn_N_bitCount ns ct R K (n + 1) 45 L (.inl (b, y) :: .inl (a, x) :: k) s = (rn_N_bitCount ns ct R K n 46 L (.inl (true, ((Int32.ofInt x).toUInt32 >>> ((Int32.ofInt y).toUInt32 &&& Int32.toUInt32 31)).toInt32.toInt) :: k) s) := rfl
theorem rx_N_bitCount_46 {ns n ct R K s L k a b x y} : rn_N_bitCount ns ct R K (n + 1) 46 L (.inl (b, y) :: .inl (a, x) :: k) s = (rn_N_bitCount ns ct R K n 47 L (.inl (false, x + y) :: k) s) := rfl
theorem rx_N_bitCount_47 {ns n ct R K s L k b z} : rn_N_bitCount ns ct R K (n + 1) 47 L (.inl (b, z) :: k) s = (sy_ri b z ∧ 0 < L.length ∧ rn_N_bitCount ns ct R K n 48 (sy_sto L 0 (.inl (true, z))) k s) := rfl
theorem rx_N_bitCount_48 {ns n ct R K s k z} : rn_N_bitCount ns ct R K (n + 1) 48 [.inl (true, z)] k s = (rn_N_bitCount ns ct R K n 49 [.inl (true, z)] (.inl (true, z) :: k) s) := rfl
theorem rx_N_bitCount_49 {ns n ct R K s L k} : rn_N_bitCount ns ct R K (n + 1) 49 L k s = (rn_N_bitCount ns ct R K n 51 L (.inl (true, 63) :: k) s) := rfl
theorem rx_N_bitCount_51 {ns n ct R K s L k a b x y} : rn_N_bitCount ns ct R K (n + 1) 51 L (.inl (b, y) :: .inl (a, x) :: k) s = (rn_N_bitCount ns ct R K n 52 L (.inl (true, (Int32.ofInt x &&& Int32.ofInt y).toInt) :: k) s) := rfl
theorem rx_N_bitCount_52 {ns n ct R K s L a z} : rn_N_bitCount ns ct R K (n + 1) 52 L [.inl (a, z)] s = (sy_ri a z ∧ sy_b01 false z ∧ R (some (.inl (true, z))) s) := rfl
def y_M_floorDiv : MethodName := ⟨"java/lang/Math", "floorDiv", "(II)I"⟩
abbrev c_M_floorDiv : ByteArray := prog_13_method_47_code
def tc_M_floorDiv (pc : Nat) : Option sy_I := match pc with
  | 0 => some (.iload_n 0, 1, 0)
  | 1 => some (.iload_n 1, 2, 0)
  | 2 => some (.idiv, 3, 0)
  | 3 => some (.istore_n 2, 4, 0)
  | 4 => some (.iload_n 0, 5, 0)
  | 5 => some (.iload_n 1, 6, 0)
  | 6 => some (.ixor, 7, 0)
  | 7 => some (.ifCond .ge 14, 10, 21)
  | 10 => some (.iload_n 2, 11, 0)
  | 11 => some (.iload_n 1, 12, 0)
  | 12 => some (.imul, 13, 0)
  | 13 => some (.iload_n 0, 14, 0)
  | 14 => some (.if_icmp .eq 7, 17, 21)
  | 17 => some (.iload_n 2, 18, 0)
  | 18 => some (.iconst 1, 19, 0)
  | 19 => some (.isub, 20, 0)
  | 20 => some (.ireturn, 21, 0)
  | 21 => some (.iload_n 2, 22, 0)
  | 22 => some (.ireturn, 23, 0)
  | _ => none
theorem tv_M_floorDiv : ∀ pc i, sy_lk 23 tc_M_floorDiv pc = some i → sy_chk c_M_floorDiv (some .int) false pc i = true := sy_lk_ok 23 tc_M_floorDiv (by decide +kernel)
def Mk_M_floorDiv (ct : Nat → Option (Bool × Nat × sy_Sp)) : sy_M := (sy_lk 23 tc_M_floorDiv, ff_M, ki_M, kl_M, ct, false)
def rn_M_floorDiv (ns : Nat) (ct : Nat → Option (Bool × Nat × sy_Sp)) (R : sy_R) (K : sy_K) : Nat → sy_K := sy_run ns (Mk_M_floorDiv ct) [] R K
theorem rx_M_floorDiv_0 {ns n ct R K s k z v1 v2} : rn_M_floorDiv ns ct R K (n + 1) 0 [.inl (true, z), v1, v2] k s = (rn_M_floorDiv ns ct R K n 1 [.inl (true, z), v1, v2] (.inl (true, z) :: k) s) := rfl
theorem rx_M_floorDiv_1 {ns n ct R K s k z v0 v2} : rn_M_floorDiv ns ct R K (n + 1) 1 [v0, .inl (true, z), v2] k s = (rn_M_floorDiv ns ct R K n 2 [v0, .inl (true, z), v2] (.inl (true, z) :: k) s) := rfl
theorem rx_M_floorDiv_2 {ns n ct R K s L k a b x y} : rn_M_floorDiv ns ct R K (n + 1) 2 L (.inl (b, y) :: .inl (a, x) :: k) s = (sy_ri a x ∧ sy_ri b y ∧ y ≠ 0 ∧ rn_M_floorDiv ns ct R K n 3 L (.inl (false, x.tdiv y) :: k) s) := rfl
theorem rx_M_floorDiv_3 {ns n ct R K s L k b z} : rn_M_floorDiv ns ct R K (n + 1) 3 L (.inl (b, z) :: k) s = (sy_ri b z ∧ 2 < L.length ∧ rn_M_floorDiv ns ct R K n 4 (sy_sto L 2 (.inl (true, z))) k s) := rfl
theorem rx_M_floorDiv_4 {ns n ct R K s k z v1 v2} : rn_M_floorDiv ns ct R K (n + 1) 4 [.inl (true, z), v1, v2] k s = (rn_M_floorDiv ns ct R K n 5 [.inl (true, z), v1, v2] (.inl (true, z) :: k) s) := rfl
theorem rx_M_floorDiv_5 {ns n ct R K s k z v0 v2} : rn_M_floorDiv ns ct R K (n + 1) 5 [v0, .inl (true, z), v2] k s = (rn_M_floorDiv ns ct R K n 6 [v0, .inl (true, z), v2] (.inl (true, z) :: k) s) := rfl
theorem rx_M_floorDiv_6 {ns n ct R K s L k a b x y} : rn_M_floorDiv ns ct R K (n + 1) 6 L (.inl (b, y) :: .inl (a, x) :: k) s = (rn_M_floorDiv ns ct R K n 7 L (.inl (true, (Int32.ofInt x ^^^ Int32.ofInt y).toInt) :: k) s) := rfl
theorem rx_M_floorDiv_7 {ns n ct R K s L k a x} : rn_M_floorDiv ns ct R K (n + 1) 7 L (.inl (a, x) :: k) s = (sy_ri a x ∧ (0 ≤ x → rn_M_floorDiv ns ct R K n 21 L k s) ∧ (¬ 0 ≤ x → rn_M_floorDiv ns ct R K n 10 L k s)) := rfl
theorem rx_M_floorDiv_10 {ns n ct R K s k z v0 v1} : rn_M_floorDiv ns ct R K (n + 1) 10 [v0, v1, .inl (true, z)] k s = (rn_M_floorDiv ns ct R K n 11 [v0, v1, .inl (true, z)] (.inl (true, z) :: k) s) := rfl
theorem rx_M_floorDiv_11 {ns n ct R K s k z v0 v2} : rn_M_floorDiv ns ct R K (n + 1) 11 [v0, .inl (true, z), v2] k s = (rn_M_floorDiv ns ct R K n 12 [v0, .inl (true, z), v2] (.inl (true, z) :: k) s) := rfl
theorem rx_M_floorDiv_12 {ns n ct R K s L k a b x y} : rn_M_floorDiv ns ct R K (n + 1) 12 L (.inl (b, y) :: .inl (a, x) :: k) s = (rn_M_floorDiv ns ct R K n 13 L (.inl (false, x * y) :: k) s) := rfl
theorem rx_M_floorDiv_13 {ns n ct R K s k z v1 v2} : rn_M_floorDiv ns ct R K (n + 1) 13 [.inl (true, z), v1, v2] k s = (rn_M_floorDiv ns ct R K n 14 [.inl (true, z), v1, v2] (.inl (true, z) :: k) s) := rfl
theorem rx_M_floorDiv_14 {ns n ct R K s L k a b x y} : rn_M_floorDiv ns ct R K (n + 1) 14 L (.inl (b, y) :: .inl (a, x) :: k) s = (sy_ri a x ∧ sy_ri b y ∧ (x = y → rn_M_floorDiv ns ct R K n 21 L k s) ∧ (¬ x = y → rn_M_floorDiv ns ct R K n 17 L k s)) := rfl
theorem rx_M_floorDiv_17 {ns n ct R K s k z v0 v1} : rn_M_floorDiv ns ct R K (n + 1) 17 [v0, v1, .inl (true, z)] k s = (rn_M_floorDiv ns ct R K n 18 [v0, v1, .inl (true, z)] (.inl (true, z) :: k) s) := rfl
theorem rx_M_floorDiv_18 {ns n ct R K s L k} : rn_M_floorDiv ns ct R K (n + 1) 18 L k s = (rn_M_floorDiv ns ct R K n 19 L (.inl (true, 1) :: k) s) := rfl
theorem rx_M_floorDiv_19 {ns n ct R K s L k a b x y} : rn_M_floorDiv ns ct R K (n + 1) 19 L (.inl (b, y) :: .inl (a, x) :: k) s = (rn_M_floorDiv ns ct R K n 20 L (.inl (false, x - y) :: k) s) := rfl
theorem rx_M_floorDiv_20 {ns n ct R K s L a z} : rn_M_floorDiv ns ct R K (n + 1) 20 L [.inl (a, z)] s = (sy_ri a z ∧ sy_b01 false z ∧ R (some (.inl (true, z))) s) := rfl
theorem rx_M_floorDiv_21 {ns n ct R K s k z v0 v1} : rn_M_floorDiv ns ct R K (n + 1) 21 [v0, v1, .inl (true, z)] k s = (rn_M_floorDiv ns ct R K n 22 [v0, v1, .inl (true, z)] (.inl (true, z) :: k) s) := rfl
theorem rx_M_floorDiv_22 {ns n ct R K s L a z} : rn_M_floorDiv ns ct R K (n + 1) 22 L [.inl (a, z)] s = (sy_ri a z ∧ sy_b01 false z ∧ R (some (.inl (true, z))) s) := rfl
def y_M_abs : MethodName := ⟨"java/lang/Math", "abs", "(I)I"⟩
abbrev c_M_abs : ByteArray := prog_13_method_59_code
def tc_M_abs (pc : Nat) : Option sy_I := match pc with
  | 0 => some (.iload_n 0, 1, 0)
  | 1 => some (.ifCond .ge 8, 4, 9)
  | 4 => some (.iload_n 0, 5, 0)
  | 5 => some (.ineg, 6, 0)
  | 6 => some (.goto 4, 9, 10)
  | 9 => some (.iload_n 0, 10, 0)
  | 10 => some (.ireturn, 11, 0)
  | _ => none
theorem tv_M_abs : ∀ pc i, sy_lk 11 tc_M_abs pc = some i → sy_chk c_M_abs (some .int) false pc i = true := sy_lk_ok 11 tc_M_abs (by decide +kernel)
def Mk_M_abs (ct : Nat → Option (Bool × Nat × sy_Sp)) : sy_M := (sy_lk 11 tc_M_abs, ff_M, ki_M, kl_M, ct, false)
def rn_M_abs (ns : Nat) (ct : Nat → Option (Bool × Nat × sy_Sp)) (R : sy_R) (K : sy_K) : Nat → sy_K := sy_run ns (Mk_M_abs ct) [] R K
theorem rx_M_abs_0 {ns n ct R K s k z} : rn_M_abs ns ct R K (n + 1) 0 [.inl (true, z)] k s = (rn_M_abs ns ct R K n 1 [.inl (true, z)] (.inl (true, z) :: k) s) := rfl
theorem rx_M_abs_1 {ns n ct R K s L k a x} : rn_M_abs ns ct R K (n + 1) 1 L (.inl (a, x) :: k) s = (sy_ri a x ∧ (0 ≤ x → rn_M_abs ns ct R K n 9 L k s) ∧ (¬ 0 ≤ x → rn_M_abs ns ct R K n 4 L k s)) := rfl
theorem rx_M_abs_4 {ns n ct R K s k z} : rn_M_abs ns ct R K (n + 1) 4 [.inl (true, z)] k s = (rn_M_abs ns ct R K n 5 [.inl (true, z)] (.inl (true, z) :: k) s) := rfl
theorem rx_M_abs_5 {ns n ct R K s L k a x} : rn_M_abs ns ct R K (n + 1) 5 L (.inl (a, x) :: k) s = (rn_M_abs ns ct R K n 6 L (.inl (false, -x) :: k) s) := rfl
theorem rx_M_abs_6 {ns n ct R K s L k} : rn_M_abs ns ct R K (n + 1) 6 L k s = (rn_M_abs ns ct R K n 10 L k s) := rfl
theorem rx_M_abs_9 {ns n ct R K s k z} : rn_M_abs ns ct R K (n + 1) 9 [.inl (true, z)] k s = (rn_M_abs ns ct R K n 10 [.inl (true, z)] (.inl (true, z) :: k) s) := rfl
theorem rx_M_abs_10 {ns n ct R K s L a z} : rn_M_abs ns ct R K (n + 1) 10 L [.inl (a, z)] s = (sy_ri a z ∧ sy_b01 false z ∧ R (some (.inl (true, z))) s) := rfl
def y_M_maxI : MethodName := ⟨"java/lang/Math", "max", "(II)I"⟩
abbrev c_M_maxI : ByteArray := prog_13_method_65_code
def tc_M_maxI (pc : Nat) : Option sy_I := match pc with
  | 0 => some (.iload_n 0, 1, 0)
  | 1 => some (.iload_n 1, 2, 0)
  | 2 => some (.if_icmp .lt 7, 5, 9)
  | 5 => some (.iload_n 0, 6, 0)
  | 6 => some (.goto 4, 9, 10)
  | 9 => some (.iload_n 1, 10, 0)
  | 10 => some (.ireturn, 11, 0)
  | _ => none
theorem tv_M_maxI : ∀ pc i, sy_lk 11 tc_M_maxI pc = some i → sy_chk c_M_maxI (some .int) false pc i = true := sy_lk_ok 11 tc_M_maxI (by decide +kernel)
def Mk_M_maxI (ct : Nat → Option (Bool × Nat × sy_Sp)) : sy_M := (sy_lk 11 tc_M_maxI, ff_M, ki_M, kl_M, ct, false)
def rn_M_maxI (ns : Nat) (ct : Nat → Option (Bool × Nat × sy_Sp)) (R : sy_R) (K : sy_K) : Nat → sy_K := sy_run ns (Mk_M_maxI ct) [] R K
theorem rx_M_maxI_0 {ns n ct R K s k z v1} : rn_M_maxI ns ct R K (n + 1) 0 [.inl (true, z), v1] k s = (rn_M_maxI ns ct R K n 1 [.inl (true, z), v1] (.inl (true, z) :: k) s) := rfl
theorem rx_M_maxI_1 {ns n ct R K s k z v0} : rn_M_maxI ns ct R K (n + 1) 1 [v0, .inl (true, z)] k s = (rn_M_maxI ns ct R K n 2 [v0, .inl (true, z)] (.inl (true, z) :: k) s) := rfl
theorem rx_M_maxI_2 {ns n ct R K s L k a b x y} : rn_M_maxI ns ct R K (n + 1) 2 L (.inl (b, y) :: .inl (a, x) :: k) s = (sy_ri a x ∧ sy_ri b y ∧ (x < y → rn_M_maxI ns ct R K n 9 L k s) ∧ (¬ x < y → rn_M_maxI ns ct R K n 5 L k s)) := rfl
theorem rx_M_maxI_5 {ns n ct R K s k z v1} : rn_M_maxI ns ct R K (n + 1) 5 [.inl (true, z), v1] k s = (rn_M_maxI ns ct R K n 6 [.inl (true, z), v1] (.inl (true, z) :: k) s) := rfl
theorem rx_M_maxI_6 {ns n ct R K s L k} : rn_M_maxI ns ct R K (n + 1) 6 L k s = (rn_M_maxI ns ct R K n 10 L k s) := rfl
theorem rx_M_maxI_9 {ns n ct R K s k z v0} : rn_M_maxI ns ct R K (n + 1) 9 [v0, .inl (true, z)] k s = (rn_M_maxI ns ct R K n 10 [v0, .inl (true, z)] (.inl (true, z) :: k) s) := rfl
theorem rx_M_maxI_10 {ns n ct R K s L a z} : rn_M_maxI ns ct R K (n + 1) 10 L [.inl (a, z)] s = (sy_ri a z ∧ sy_b01 false z ∧ R (some (.inl (true, z))) s) := rfl
def y_M_maxL : MethodName := ⟨"java/lang/Math", "max", "(JJ)J"⟩
abbrev c_M_maxL : ByteArray := prog_13_method_66_code
def tc_M_maxL (pc : Nat) : Option sy_I := match pc with
  | 0 => some (.lload_n 0, 1, 0)
  | 1 => some (.lload_n 2, 2, 0)
  | 2 => some (.lcmp, 3, 0)
  | 3 => some (.ifCond .lt 7, 6, 10)
  | 6 => some (.lload_n 0, 7, 0)
  | 7 => some (.goto 4, 10, 11)
  | 10 => some (.lload_n 2, 11, 0)
  | 11 => some (.lreturn, 12, 0)
  | _ => none
theorem tv_M_maxL : ∀ pc i, sy_lk 12 tc_M_maxL pc = some i → sy_chk c_M_maxL (some .long) false pc i = true := sy_lk_ok 12 tc_M_maxL (by decide +kernel)
def Mk_M_maxL (ct : Nat → Option (Bool × Nat × sy_Sp)) : sy_M := (sy_lk 12 tc_M_maxL, ff_M, ki_M, kl_M, ct, false)
def rn_M_maxL (ns : Nat) (ct : Nat → Option (Bool × Nat × sy_Sp)) (R : sy_R) (K : sy_K) : Nat → sy_K := sy_run ns (Mk_M_maxL ct) [] R K
theorem rx_M_maxL_0 {ns n ct R K s k z v1 v2 v3} : rn_M_maxL ns ct R K (n + 1) 0 [.inr (.inl (true, z)), v1, v2, v3] k s = (rn_M_maxL ns ct R K n 1 [.inr (.inl (true, z)), v1, v2, v3] (.inr (.inl (true, z)) :: k) s) := rfl
theorem rx_M_maxL_1 {ns n ct R K s k z v0 v1 v3} : rn_M_maxL ns ct R K (n + 1) 1 [v0, v1, .inr (.inl (true, z)), v3] k s = (rn_M_maxL ns ct R K n 2 [v0, v1, .inr (.inl (true, z)), v3] (.inr (.inl (true, z)) :: k) s) := rfl
theorem rx_M_maxL_2 {ns n ct R K s L k a b x y} : rn_M_maxL ns ct R K (n + 1) 2 L (.inr (.inl (b, y)) :: .inr (.inl (a, x)) :: k) s = (sy_rl a x ∧ sy_rl b y ∧ rn_M_maxL ns ct R K n 3 L (.inl (true, sy_cmp x y) :: k) s) := rfl
theorem rx_M_maxL_3 {ns n ct R K s L k a x} : rn_M_maxL ns ct R K (n + 1) 3 L (.inl (a, x) :: k) s = (sy_ri a x ∧ (x < 0 → rn_M_maxL ns ct R K n 10 L k s) ∧ (¬ x < 0 → rn_M_maxL ns ct R K n 6 L k s)) := rfl
theorem rx_M_maxL_6 {ns n ct R K s k z v1 v2 v3} : rn_M_maxL ns ct R K (n + 1) 6 [.inr (.inl (true, z)), v1, v2, v3] k s = (rn_M_maxL ns ct R K n 7 [.inr (.inl (true, z)), v1, v2, v3] (.inr (.inl (true, z)) :: k) s) := rfl
theorem rx_M_maxL_7 {ns n ct R K s L k} : rn_M_maxL ns ct R K (n + 1) 7 L k s = (rn_M_maxL ns ct R K n 11 L k s) := rfl
theorem rx_M_maxL_10 {ns n ct R K s k z v0 v1 v3} : rn_M_maxL ns ct R K (n + 1) 10 [v0, v1, .inr (.inl (true, z)), v3] k s = (rn_M_maxL ns ct R K n 11 [v0, v1, .inr (.inl (true, z)), v3] (.inr (.inl (true, z)) :: k) s) := rfl
theorem rx_M_maxL_11 {ns n ct R K s L a z} : rn_M_maxL ns ct R K (n + 1) 11 L [.inr (.inl (a, z))] s = (sy_rl a z ∧ R (some (.inr (.inl (true, z)))) s) := rfl
def y_M_minI : MethodName := ⟨"java/lang/Math", "min", "(II)I"⟩
abbrev c_M_minI : ByteArray := prog_13_method_69_code
def tc_M_minI (pc : Nat) : Option sy_I := match pc with
  | 0 => some (.iload_n 0, 1, 0)
  | 1 => some (.iload_n 1, 2, 0)
  | 2 => some (.if_icmp .gt 7, 5, 9)
  | 5 => some (.iload_n 0, 6, 0)
  | 6 => some (.goto 4, 9, 10)
  | 9 => some (.iload_n 1, 10, 0)
  | 10 => some (.ireturn, 11, 0)
  | _ => none
theorem tv_M_minI : ∀ pc i, sy_lk 11 tc_M_minI pc = some i → sy_chk c_M_minI (some .int) false pc i = true := sy_lk_ok 11 tc_M_minI (by decide +kernel)
def Mk_M_minI (ct : Nat → Option (Bool × Nat × sy_Sp)) : sy_M := (sy_lk 11 tc_M_minI, ff_M, ki_M, kl_M, ct, false)
def rn_M_minI (ns : Nat) (ct : Nat → Option (Bool × Nat × sy_Sp)) (R : sy_R) (K : sy_K) : Nat → sy_K := sy_run ns (Mk_M_minI ct) [] R K
theorem rx_M_minI_0 {ns n ct R K s k z v1} : rn_M_minI ns ct R K (n + 1) 0 [.inl (true, z), v1] k s = (rn_M_minI ns ct R K n 1 [.inl (true, z), v1] (.inl (true, z) :: k) s) := rfl
theorem rx_M_minI_1 {ns n ct R K s k z v0} : rn_M_minI ns ct R K (n + 1) 1 [v0, .inl (true, z)] k s = (rn_M_minI ns ct R K n 2 [v0, .inl (true, z)] (.inl (true, z) :: k) s) := rfl
theorem rx_M_minI_2 {ns n ct R K s L k a b x y} : rn_M_minI ns ct R K (n + 1) 2 L (.inl (b, y) :: .inl (a, x) :: k) s = (sy_ri a x ∧ sy_ri b y ∧ (y < x → rn_M_minI ns ct R K n 9 L k s) ∧ (¬ y < x → rn_M_minI ns ct R K n 5 L k s)) := rfl
theorem rx_M_minI_5 {ns n ct R K s k z v1} : rn_M_minI ns ct R K (n + 1) 5 [.inl (true, z), v1] k s = (rn_M_minI ns ct R K n 6 [.inl (true, z), v1] (.inl (true, z) :: k) s) := rfl
theorem rx_M_minI_6 {ns n ct R K s L k} : rn_M_minI ns ct R K (n + 1) 6 L k s = (rn_M_minI ns ct R K n 10 L k s) := rfl
theorem rx_M_minI_9 {ns n ct R K s k z v0} : rn_M_minI ns ct R K (n + 1) 9 [v0, .inl (true, z)] k s = (rn_M_minI ns ct R K n 10 [v0, .inl (true, z)] (.inl (true, z) :: k) s) := rfl
theorem rx_M_minI_10 {ns n ct R K s L a z} : rn_M_minI ns ct R K (n + 1) 10 L [.inl (a, z)] s = (sy_ri a z ∧ sy_b01 false z ∧ R (some (.inl (true, z))) s) := rfl
def y_M_minL : MethodName := ⟨"java/lang/Math", "min", "(JJ)J"⟩
abbrev c_M_minL : ByteArray := prog_13_method_70_code
def tc_M_minL (pc : Nat) : Option sy_I := match pc with
  | 0 => some (.lload_n 0, 1, 0)
  | 1 => some (.lload_n 2, 2, 0)
  | 2 => some (.lcmp, 3, 0)
  | 3 => some (.ifCond .gt 7, 6, 10)
  | 6 => some (.lload_n 0, 7, 0)
  | 7 => some (.goto 4, 10, 11)
  | 10 => some (.lload_n 2, 11, 0)
  | 11 => some (.lreturn, 12, 0)
  | _ => none
theorem tv_M_minL : ∀ pc i, sy_lk 12 tc_M_minL pc = some i → sy_chk c_M_minL (some .long) false pc i = true := sy_lk_ok 12 tc_M_minL (by decide +kernel)
def Mk_M_minL (ct : Nat → Option (Bool × Nat × sy_Sp)) : sy_M := (sy_lk 12 tc_M_minL, ff_M, ki_M, kl_M, ct, false)
def rn_M_minL (ns : Nat) (ct : Nat → Option (Bool × Nat × sy_Sp)) (R : sy_R) (K : sy_K) : Nat → sy_K := sy_run ns (Mk_M_minL ct) [] R K
theorem rx_M_minL_0 {ns n ct R K s k z v1 v2 v3} : rn_M_minL ns ct R K (n + 1) 0 [.inr (.inl (true, z)), v1, v2, v3] k s = (rn_M_minL ns ct R K n 1 [.inr (.inl (true, z)), v1, v2, v3] (.inr (.inl (true, z)) :: k) s) := rfl
theorem rx_M_minL_1 {ns n ct R K s k z v0 v1 v3} : rn_M_minL ns ct R K (n + 1) 1 [v0, v1, .inr (.inl (true, z)), v3] k s = (rn_M_minL ns ct R K n 2 [v0, v1, .inr (.inl (true, z)), v3] (.inr (.inl (true, z)) :: k) s) := rfl
theorem rx_M_minL_2 {ns n ct R K s L k a b x y} : rn_M_minL ns ct R K (n + 1) 2 L (.inr (.inl (b, y)) :: .inr (.inl (a, x)) :: k) s = (sy_rl a x ∧ sy_rl b y ∧ rn_M_minL ns ct R K n 3 L (.inl (true, sy_cmp x y) :: k) s) := rfl
theorem rx_M_minL_3 {ns n ct R K s L k a x} : rn_M_minL ns ct R K (n + 1) 3 L (.inl (a, x) :: k) s = (sy_ri a x ∧ (0 < x → rn_M_minL ns ct R K n 10 L k s) ∧ (¬ 0 < x → rn_M_minL ns ct R K n 6 L k s)) := rfl
theorem rx_M_minL_6 {ns n ct R K s k z v1 v2 v3} : rn_M_minL ns ct R K (n + 1) 6 [.inr (.inl (true, z)), v1, v2, v3] k s = (rn_M_minL ns ct R K n 7 [.inr (.inl (true, z)), v1, v2, v3] (.inr (.inl (true, z)) :: k) s) := rfl
theorem rx_M_minL_7 {ns n ct R K s L k} : rn_M_minL ns ct R K (n + 1) 7 L k s = (rn_M_minL ns ct R K n 11 L k s) := rfl
theorem rx_M_minL_10 {ns n ct R K s k z v0 v1 v3} : rn_M_minL ns ct R K (n + 1) 10 [v0, v1, .inr (.inl (true, z)), v3] k s = (rn_M_minL ns ct R K n 11 [v0, v1, .inr (.inl (true, z)), v3] (.inr (.inl (true, z)) :: k) s) := rfl
theorem rx_M_minL_11 {ns n ct R K s L a z} : rn_M_minL ns ct R K (n + 1) 11 L [.inr (.inl (a, z))] s = (sy_rl a z ∧ R (some (.inr (.inl (true, z)))) s) := rfl
def y_U_fill : MethodName := ⟨"java/util/Arrays", "fill", "([II)V"⟩
abbrev c_U_fill : ByteArray := prog_14_method_103_code
def tc_U_fill (pc : Nat) : Option sy_I := match pc with
  | 0 => some (.iconst 0, 1, 0)
  | 1 => some (.istore_n 2, 2, 0)
  | 2 => some (.aload_n 0, 3, 0)
  | 3 => some (.arraylength, 4, 0)
  | 4 => some (.istore_n 3, 5, 0)
  | 5 => some (.iload_n 2, 6, 0)
  | 6 => some (.iload_n 3, 7, 0)
  | 7 => some (.if_icmp .ge 13, 10, 20)
  | 10 => some (.aload_n 0, 11, 0)
  | 11 => some (.iload_n 2, 12, 0)
  | 12 => some (.iload_n 1, 13, 0)
  | 13 => some (.iastore, 14, 0)
  | 14 => some (.iinc 2 1, 17, 0)
  | 17 => some (.goto (-12), 20, 5)
  | 20 => some (.return_, 21, 0)
  | _ => none
theorem tv_U_fill : ∀ pc i, sy_lk 21 tc_U_fill pc = some i → sy_chk c_U_fill none false pc i = true := sy_lk_ok 21 tc_U_fill (by decide +kernel)
def Mk_U_fill (ct : Nat → Option (Bool × Nat × sy_Sp)) : sy_M := (sy_lk 21 tc_U_fill, ff_U, ki_U, kl_U, ct, false)
def rn_U_fill (ns : Nat) (ct : Nat → Option (Bool × Nat × sy_Sp)) (R : sy_R) (K : sy_K) : Nat → sy_K := sy_run ns (Mk_U_fill ct) [5] R K
theorem rx_U_fill_0 {ns n ct R K s L k} : rn_U_fill ns ct R K (n + 1) 0 L k s = (rn_U_fill ns ct R K n 1 L (.inl (true, 0) :: k) s) := rfl
theorem rx_U_fill_1 {ns n ct R K s L k b z} : rn_U_fill ns ct R K (n + 1) 1 L (.inl (b, z) :: k) s = (sy_ri b z ∧ 2 < L.length ∧ rn_U_fill ns ct R K n 2 (sy_sto L 2 (.inl (true, z))) k s) := rfl
theorem rx_U_fill_2 {ns n ct R K s k z v1 v2 v3} : rn_U_fill ns ct R K (n + 1) 2 [.inr (.inr (some z)), v1, v2, v3] k s = (rn_U_fill ns ct R K n 3 [.inr (.inr (some z)), v1, v2, v3] (.inr (.inr (some z)) :: k) s) := rfl
theorem rx_U_fill_3 {ns n ct R K s L k a} : rn_U_fill ns ct R K (n + 1) 3 L (.inr (.inr (some (some a))) :: k) s = (sy_ob a = none ∧ rn_U_fill ns ct R K n 4 L (.inl (true, (sy_ar a).2) :: k) s) := rfl
theorem rx_U_fill_4 {ns n ct R K s L k b z} : rn_U_fill ns ct R K (n + 1) 4 L (.inl (b, z) :: k) s = (sy_ri b z ∧ 3 < L.length ∧ K 5 (sy_sto L 3 (.inl (true, z))) k s) := rfl
theorem rx_U_fill_5 {ns n ct R K s k z v0 v1 v3} : rn_U_fill ns ct R K (n + 1) 5 [v0, v1, .inl (true, z), v3] k s = (rn_U_fill ns ct R K n 6 [v0, v1, .inl (true, z), v3] (.inl (true, z) :: k) s) := rfl
theorem rx_U_fill_6 {ns n ct R K s k z v0 v1 v2} : rn_U_fill ns ct R K (n + 1) 6 [v0, v1, v2, .inl (true, z)] k s = (rn_U_fill ns ct R K n 7 [v0, v1, v2, .inl (true, z)] (.inl (true, z) :: k) s) := rfl
theorem rx_U_fill_7 {ns n ct R K s L k a b x y} : rn_U_fill ns ct R K (n + 1) 7 L (.inl (b, y) :: .inl (a, x) :: k) s = (sy_ri a x ∧ sy_ri b y ∧ (y ≤ x → rn_U_fill ns ct R K n 20 L k s) ∧ (¬ y ≤ x → rn_U_fill ns ct R K n 10 L k s)) := rfl
theorem rx_U_fill_10 {ns n ct R K s k z v1 v2 v3} : rn_U_fill ns ct R K (n + 1) 10 [.inr (.inr (some z)), v1, v2, v3] k s = (rn_U_fill ns ct R K n 11 [.inr (.inr (some z)), v1, v2, v3] (.inr (.inr (some z)) :: k) s) := rfl
theorem rx_U_fill_11 {ns n ct R K s k z v0 v1 v3} : rn_U_fill ns ct R K (n + 1) 11 [v0, v1, .inl (true, z), v3] k s = (rn_U_fill ns ct R K n 12 [v0, v1, .inl (true, z), v3] (.inl (true, z) :: k) s) := rfl
theorem rx_U_fill_12 {ns n ct R K s k z v0 v2 v3} : rn_U_fill ns ct R K (n + 1) 12 [v0, .inl (true, z), v2, v3] k s = (rn_U_fill ns ct R K n 13 [v0, .inl (true, z), v2, v3] (.inl (true, z) :: k) s) := rfl
theorem rx_U_fill_13 {ns n ct R K s L k a b c z y} : rn_U_fill ns ct R K (n + 1) 13 L (.inl (c, y) :: .inl (b, z) :: .inr (.inr (some (some a))) :: k) s = (sy_ri c y ∧ (0 ≤ z ∧ z < (sy_ar a).2) ∧ sy_ob a = none ∧ (sy_ar a).1 = 0 ∧ rn_U_fill ns ct R K n 14 L k (sy_up s a z.toNat y)) := rfl
theorem rx_U_fill_14 {ns n ct R K s k z v0 v1 v3} : rn_U_fill ns ct R K (n + 1) 14 [v0, v1, .inl (true, z), v3] k s = ((-2147483648 ≤ z + 1 ∧ z + 1 < 2147483648) ∧ rn_U_fill ns ct R K n 17 (sy_sto [v0, v1, .inl (true, z), v3] 2 (.inl (true, z + 1))) k s) := rfl
theorem rx_U_fill_17 {ns n ct R K s L k} : rn_U_fill ns ct R K (n + 1) 17 L k s = (K 5 L k s) := rfl
theorem rx_U_fill_20 {ns n ct R K s L} : rn_U_fill ns ct R K (n + 1) 20 L [] s = (R none s) := rfl
