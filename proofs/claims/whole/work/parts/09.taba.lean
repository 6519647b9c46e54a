def y_0_init : MethodName := ⟨"StarHide$Clocks", "<init>", "()V"⟩
abbrev c_0_init : ByteArray := prog_2_method_1_code
def y_0_clear : MethodName := ⟨"StarHide$Clocks", "clear", "()V"⟩
abbrev c_0_clear : ByteArray := prog_2_method_2_code
def tc_0_clear (pc : Nat) : Option sy_I := match pc with
  | 0 => some (.aload_n 0, 1, 0)
  | 1 => some (.getfield 9, 4, 0)
  | 4 => some (.iconst 0, 5, 0)
  | 5 => some (.invokestatic 15, 8, 0)
  | 8 => some (.aload_n 0, 9, 0)
  | 9 => some (.iconst 0, 10, 0)
  | 10 => some (.putfield 21, 13, 0)
  | 13 => some (.aload_n 0, 14, 0)
  | 14 => some (.sipush (-1000), 17, 0)
  | 17 => some (.putfield 25, 20, 0)
  | 20 => some (.aload_n 0, 21, 0)
  | 21 => some (.sipush (-1000), 24, 0)
  | 24 => some (.putfield 28, 27, 0)
  | 27 => some (.return_, 28, 0)
  | _ => none
theorem tv_0_clear : ∀ pc i, sy_lk 28 tc_0_clear pc = some i → sy_chk c_0_clear none false pc i = true := sy_lk_ok 28 tc_0_clear (by decide +kernel)
def Mk_0_clear (ct : Nat → Option (Bool × Nat × sy_Sp)) : sy_M := (sy_lk 28 tc_0_clear, ff_0, ki_0, kl_0, ct, false)
def rn_0_clear (ns : Nat) (ct : Nat → Option (Bool × Nat × sy_Sp)) (R : sy_R) (K : sy_K) : Nat → sy_K := sy_run ns (Mk_0_clear ct) [] R K
theorem rx_0_clear_0 {ns n ct R K s k z} : rn_0_clear ns ct R K (n + 1) 0 [.inr (.inr (some z))] k s = (rn_0_clear ns ct R K n 1 [.inr (.inr (some z))] (.inr (.inr (some z)) :: k) s) := rfl
theorem rx_0_clear_1 {ns n ct R K s L k a} : rn_0_clear ns ct R K (n + 1) 1 L (.inr (.inr (some (some a))) :: k) s = (sy_ob a = some 0 ∧ rn_0_clear ns ct R K n 4 L (sy_fv s a 0 :: k) s) := rfl
theorem rx_0_clear_4 {ns n ct R K s L k} : rn_0_clear ns ct R K (n + 1) 4 L k s = (rn_0_clear ns ct R K n 5 L (.inl (true, 0) :: k) s) := rfl
theorem rx_0_clear_5 {ns n ct R K s L k} : rn_0_clear ns ct R K (n + 1) 5 L k s = (sy_call true (ct 15) k s fun r t => rn_0_clear ns ct R K n 8 L r t) := rfl
theorem rx_0_clear_8 {ns n ct R K s k z} : rn_0_clear ns ct R K (n + 1) 8 [.inr (.inr (some z))] k s = (rn_0_clear ns ct R K n 9 [.inr (.inr (some z))] (.inr (.inr (some z)) :: k) s) := rfl
theorem rx_0_clear_9 {ns n ct R K s L k} : rn_0_clear ns ct R K (n + 1) 9 L k s = (rn_0_clear ns ct R K n 10 L (.inl (true, 0) :: k) s) := rfl
theorem rx_0_clear_10 {ns n ct R K s L k a b z} : rn_0_clear ns ct R K (n + 1) 10 L (.inl (b, z) :: .inr (.inr (some (some a))) :: k) s = (sy_ob a = some 0 ∧ sy_ri b z ∧ sy_b01 false z ∧ rn_0_clear ns ct R K n 13 L k (sy_up s a 1 z)) := rfl
theorem rx_0_clear_13 {ns n ct R K s k z} : rn_0_clear ns ct R K (n + 1) 13 [.inr (.inr (some z))] k s = (rn_0_clear ns ct R K n 14 [.inr (.inr (some z))] (.inr (.inr (some z)) :: k) s) := rfl
theorem rx_0_clear_14 {ns n ct R K s L k} : rn_0_clear ns ct R K (n + 1) 14 L k s = (rn_0_clear ns ct R K n 17 L (.inl (true, (-1000)) :: k) s) := rfl
theorem rx_0_clear_17 {ns n ct R K s L k a b z} : rn_0_clear ns ct R K (n + 1) 17 L (.inl (b, z) :: .inr (.inr (some (some a))) :: k) s = (sy_ob a = some 0 ∧ sy_ri b z ∧ sy_b01 false z ∧ rn_0_clear ns ct R K n 20 L k (sy_up s a 2 z)) := rfl
theorem rx_0_clear_20 {ns n ct R K s k z} : rn_0_clear ns ct R K (n + 1) 20 [.inr (.inr (some z))] k s = (rn_0_clear ns ct R K n 21 [.inr (.inr (some z))] (.inr (.inr (some z)) :: k) s) := rfl
theorem rx_0_clear_21 {ns n ct R K s L k} : rn_0_clear ns ct R K (n + 1) 21 L k s = (rn_0_clear ns ct R K n 24 L (.inl (true, (-1000)) :: k) s) := rfl
theorem rx_0_clear_24 {ns n ct R K s L k a b z} : rn_0_clear ns ct R K (n + 1) 24 L (.inl (b, z) :: .inr (.inr (some (some a))) :: k) s = (sy_ob a = some 0 ∧ sy_ri b z ∧ sy_b01 false z ∧ rn_0_clear ns ct R K n 27 L k (sy_up s a 3 z)) := rfl
theorem rx_0_clear_27 {ns n ct R K s L} : rn_0_clear ns ct R K (n + 1) 27 L [] s = (R none s) := rfl
def y_0_addOf : MethodName := ⟨"StarHide$Clocks", "addOf", "(LStarHide$Site;III)V"⟩
abbrev c_0_addOf : ByteArray := prog_2_method_3_code
def tc_0_addOf (pc : Nat) : Option sy_I := match pc with
  | 0 => some (.iconst 2, 1, 0)
  | 1 => some (.iconst 1, 2, 0)
  | 2 => some (.iload_n 2, 3, 0)
  | 3 => some (.invokestatic 31, 6, 0)
  | 6 => some (.imul, 7, 0)
  | 7 => some (.istore 5, 9, 0)
  | 9 => some (.aload_n 1, 10, 0)
  | 10 => some (.iload_n 2, 11, 0)
  | 11 => some (.iload_n 3, 12, 0)
  | 12 => some (.invokevirtual 37, 15, 0)
  | 15 => some (.iconst 2, 16, 0)
  | 16 => some (.iload 4, 18, 0)
  | 18 => some (.imul, 19, 0)
  | 19 => some (.isub, 20, 0)
  | 20 => some (.istore 6, 22, 0)
  | 22 => some (.aload_n 1, 23, 0)
  | 23 => some (.iload_n 2, 24, 0)
  | 24 => some (.iload_n 3, 25, 0)
  | 25 => some (.invokevirtual 42, 28, 0)
  | 28 => some (.iconst 2, 29, 0)
  | 29 => some (.iload 4, 31, 0)
  | 31 => some (.imul, 32, 0)
  | 32 => some (.isub, 33, 0)
  | 33 => some (.istore 7, 35, 0)
  | 35 => some (.aload_n 1, 36, 0)
  | 36 => some (.getfield 45, 39, 0)
  | 39 => some (.iconst 1, 40, 0)
  | 40 => some (.if_icmp .ne 24, 43, 64)
  | 43 => some (.aload_n 0, 44, 0)
  | 44 => some (.iload 6, 46, 0)
  | 46 => some (.iload 5, 48, 0)
  | 48 => some (.invokestatic 48, 51, 0)
  | 51 => some (.iload 7, 53, 0)
  | 53 => some (.iload 5, 55, 0)
  | 55 => some (.invokestatic 51, 58, 0)
  | 58 => some (.invokevirtual 54, 61, 0)
  | 61 => some (.goto 48, 64, 109)
  | 64 => some (.aload_n 1, 65, 0)
  | 65 => some (.getfield 45, 68, 0)
  | 68 => some (.iconst 2, 69, 0)
  | 69 => some (.if_icmp .ne 32, 72, 101)
  | 72 => some (.aload_n 0, 73, 0)
  | 73 => some (.bipush (-50), 75, 0)
  | 75 => some (.iload 6, 77, 0)
  | 77 => some (.iload 5, 79, 0)
  | 79 => some (.invokestatic 51, 82, 0)
  | 82 => some (.invokevirtual 54, 85, 0)
  | 85 => some (.aload_n 0, 86, 0)
  | 86 => some (.iload 7, 88, 0)
  | 88 => some (.iload 5, 90, 0)
  | 90 => some (.invokestatic 48, 93, 0)
  | 93 => some (.bipush 50, 95, 0)
  | 95 => some (.invokevirtual 54, 98, 0)
  | 98 => some (.goto 11, 101, 109)
  | 101 => some (.aload_n 0, 102, 0)
  | 102 => some (.bipush (-50), 104, 0)
  | 104 => some (.bipush 50, 106, 0)
  | 106 => some (.invokevirtual 54, 109, 0)
  | 109 => some (.return_, 110, 0)
  | _ => none
theorem tv_0_addOf : ∀ pc i, sy_lk 110 tc_0_addOf pc = some i → sy_chk c_0_addOf none false pc i = true := sy_lk_ok 110 tc_0_addOf (by decide +kernel)
def Mk_0_addOf (ct : Nat → Option (Bool × Nat × sy_Sp)) : sy_M := (sy_lk 110 tc_0_addOf, ff_0, ki_0, kl_0, ct, false)
def rn_0_addOf (ns : Nat) (ct : Nat → Option (Bool × Nat × sy_Sp)) (R : sy_R) (K : sy_K) : Nat → sy_K := sy_run ns (Mk_0_addOf ct) [] R K
theorem rx_0_addOf_0 {ns n ct R K s L k} : rn_0_addOf ns ct R K (n + 1) 0 L k s = (rn_0_addOf ns ct R K n 1 L (.inl (true, 2) :: k) s) := rfl
theorem rx_0_addOf_1 {ns n ct R K s L k} : rn_0_addOf ns ct R K (n + 1) 1 L k s = (rn_0_addOf ns ct R K n 2 L (.inl (true, 1) :: k) s) := rfl
theorem rx_0_addOf_2 {ns n ct R K s k z v0 v1 v3 v4 v5 v6 v7} : rn_0_addOf ns ct R K (n + 1) 2 [v0, v1, .inl (true, z), v3, v4, v5, v6, v7] k s = (rn_0_addOf ns ct R K n 3 [v0, v1, .inl (true, z), v3, v4, v5, v6, v7] (.inl (true, z) :: k) s) := rfl
theorem rx_0_addOf_3 {ns n ct R K s L k} : rn_0_addOf ns ct R K (n + 1) 3 L k s = (sy_call true (ct 31) k s fun r t => rn_0_addOf ns ct R K n 6 L r t) := rfl
theorem rx_0_addOf_6 {ns n ct R K s L k a b x y} : rn_0_addOf ns ct R K (n + 1) 6 L (.inl (b, y) :: .inl (a, x) :: k) s = (rn_0_addOf ns ct R K n 7 L (.inl (false, x * y) :: k) s) := rfl
theorem rx_0_addOf_7 {ns n ct R K s L k b z} : rn_0_addOf ns ct R K (n + 1) 7 L (.inl (b, z) :: k) s = (sy_ri b z ∧ 5 < L.length ∧ rn_0_addOf ns ct R K n 9 (sy_sto L 5 (.inl (true, z))) k s) := rfl
theorem rx_0_addOf_9 {ns n ct R K s k z v0 v2 v3 v4 v5 v6 v7} : rn_0_addOf ns ct R K (n + 1) 9 [v0, .inr (.inr (some z)), v2, v3, v4, v5, v6, v7] k s = (rn_0_addOf ns ct R K n 10 [v0, .inr (.inr (some z)), v2, v3, v4, v5, v6, v7] (.inr (.inr (some z)) :: k) s) := rfl
theorem rx_0_addOf_10 {ns n ct R K s k z v0 v1 v3 v4 v5 v6 v7} : rn_0_addOf ns ct R K (n + 1) 10 [v0, v1, .inl (true, z), v3, v4, v5, v6, v7] k s = (rn_0_addOf ns ct R K n 11 [v0, v1, .inl (true, z), v3, v4, v5, v6, v7] (.inl (true, z) :: k) s) := rfl
theorem rx_0_addOf_11 {ns n ct R K s k z v0 v1 v2 v4 v5 v6 v7} : rn_0_addOf ns ct R K (n + 1) 11 [v0, v1, v2, .inl (true, z), v4, v5, v6, v7] k s = (rn_0_addOf ns ct R K n 12 [v0, v1, v2, .inl (true, z), v4, v5, v6, v7] (.inl (true, z) :: k) s) := rfl
theorem rx_0_addOf_12 {ns n ct R K s L k} : rn_0_addOf ns ct R K (n + 1) 12 L k s = (sy_call false (ct 37) k s fun r t => rn_0_addOf ns ct R K n 15 L r t) := rfl
theorem rx_0_addOf_15 {ns n ct R K s L k} : rn_0_addOf ns ct R K (n + 1) 15 L k s = (rn_0_addOf ns ct R K n 16 L (.inl (true, 2) :: k) s) := rfl
theorem rx_0_addOf_16 {ns n ct R K s k z v0 v1 v2 v3 v5 v6 v7} : rn_0_addOf ns ct R K (n + 1) 16 [v0, v1, v2, v3, .inl (true, z), v5, v6, v7] k s = (rn_0_addOf ns ct R K n 18 [v0, v1, v2, v3, .inl (true, z), v5, v6, v7] (.inl (true, z) :: k) s) := rfl
theorem rx_0_addOf_18 {ns n ct R K s L k a b x y} : rn_0_addOf ns ct R K (n + 1) 18 L (.inl (b, y) :: .inl (a, x) :: k) s = (rn_0_addOf ns ct R K n 19 L (.inl (false, x * y) :: k) s) := rfl
theorem rx_0_addOf_19 {ns n ct R K s L k a b x y} : rn_0_addOf ns ct R K (n + 1) 19 L (.inl (b, y) :: .inl (a, x) :: k) s = (rn_0_addOf ns ct R K n 20 L (.inl (false, x - y) :: k) s) := rfl
theorem rx_0_addOf_20 {ns n ct R K s L k b z} : rn_0_addOf ns ct R K (n + 1) 20 L (.inl (b, z) :: k) s = (sy_ri b z ∧ 6 < L.length ∧ rn_0_addOf ns ct R K n 22 (sy_sto L 6 (.inl (true, z))) k s) := rfl
theorem rx_0_addOf_22 {ns n ct R K s k z v0 v2 v3 v4 v5 v6 v7} : rn_0_addOf ns ct R K (n + 1) 22 [v0, .inr (.inr (some z)), v2, v3, v4, v5, v6, v7] k s = (rn_0_addOf ns ct R K n 23 [v0, .inr (.inr (some z)), v2, v3, v4, v5, v6, v7] (.inr (.inr (some z)) :: k) s) := rfl
theorem rx_0_addOf_23 {ns n ct R K s k z v0 v1 v3 v4 v5 v6 v7} : rn_0_addOf ns ct R K (n + 1) 23 [v0, v1, .inl (true, z), v3, v4, v5, v6, v7] k s = (rn_0_addOf ns ct R K n 24 [v0, v1, .inl (true, z), v3, v4, v5, v6, v7] (.inl (true, z) :: k) s) := rfl
theorem rx_0_addOf_24 {ns n ct R K s k z v0 v1 v2 v4 v5 v6 v7} : rn_0_addOf ns ct R K (n + 1) 24 [v0, v1, v2, .inl (true, z), v4, v5, v6, v7] k s = (rn_0_addOf ns ct R K n 25 [v0, v1, v2, .inl (true, z), v4, v5, v6, v7] (.inl (true, z) :: k) s) := rfl
theorem rx_0_addOf_25 {ns n ct R K s L k} : rn_0_addOf ns ct R K (n + 1) 25 L k s = (sy_call false (ct 42) k s fun r t => rn_0_addOf ns ct R K n 28 L r t) := rfl
theorem rx_0_addOf_28 {ns n ct R K s L k} : rn_0_addOf ns ct R K (n + 1) 28 L k s = (rn_0_addOf ns ct R K n 29 L (.inl (true, 2) :: k) s) := rfl
theorem rx_0_addOf_29 {ns n ct R K s k z v0 v1 v2 v3 v5 v6 v7} : rn_0_addOf ns ct R K (n + 1) 29 [v0, v1, v2, v3, .inl (true, z), v5, v6, v7] k s = (rn_0_addOf ns ct R K n 31 [v0, v1, v2, v3, .inl (true, z), v5, v6, v7] (.inl (true, z) :: k) s) := rfl
theorem rx_0_addOf_31 {ns n ct R K s L k a b x y} : rn_0_addOf ns ct R K (n + 1) 31 L (.inl (b, y) :: .inl (a, x) :: k) s = (rn_0_addOf ns ct R K n 32 L (.inl (false, x * y) :: k) s) := rfl
theorem rx_0_addOf_32 {ns n ct R K s L k a b x y} : rn_0_addOf ns ct R K (n + 1) 32 L (.inl (b, y) :: .inl (a, x) :: k) s = (rn_0_addOf ns ct R K n 33 L (.inl (false, x - y) :: k) s) := rfl
theorem rx_0_addOf_33 {ns n ct R K s L k b z} : rn_0_addOf ns ct R K (n + 1) 33 L (.inl (b, z) :: k) s = (sy_ri b z ∧ 7 < L.length ∧ rn_0_addOf ns ct R K n 35 (sy_sto L 7 (.inl (true, z))) k s) := rfl
theorem rx_0_addOf_35 {ns n ct R K s k z v0 v2 v3 v4 v5 v6 v7} : rn_0_addOf ns ct R K (n + 1) 35 [v0, .inr (.inr (some z)), v2, v3, v4, v5, v6, v7] k s = (rn_0_addOf ns ct R K n 36 [v0, .inr (.inr (some z)), v2, v3, v4, v5, v6, v7] (.inr (.inr (some z)) :: k) s) := rfl
theorem rx_0_addOf_36 {ns n ct R K s L k a} : rn_0_addOf ns ct R K (n + 1) 36 L (.inr (.inr (some (some a))) :: k) s = (sy_ob a = some 6 ∧ rn_0_addOf ns ct R K n 39 L (sy_fv s a 5 :: k) s) := rfl
theorem rx_0_addOf_39 {ns n ct R K s L k} : rn_0_addOf ns ct R K (n + 1) 39 L k s = (rn_0_addOf ns ct R K n 40 L (.inl (true, 1) :: k) s) := rfl
theorem rx_0_addOf_40 {ns n ct R K s L k a b x y} : rn_0_addOf ns ct R K (n + 1) 40 L (.inl (b, y) :: .inl (a, x) :: k) s = (sy_ri a x ∧ sy_ri b y ∧ (¬ x = y → rn_0_addOf ns ct R K n 64 L k s) ∧ (x = y → rn_0_addOf ns ct R K n 43 L k s)) := rfl
theorem rx_0_addOf_43 {ns n ct R K s k z v1 v2 v3 v4 v5 v6 v7} : rn_0_addOf ns ct R K (n + 1) 43 [.inr (.inr (some z)), v1, v2, v3, v4, v5, v6, v7] k s = (rn_0_addOf ns ct R K n 44 [.inr (.inr (some z)), v1, v2, v3, v4, v5, v6, v7] (.inr (.inr (some z)) :: k) s) := rfl
theorem rx_0_addOf_44 {ns n ct R K s k z v0 v1 v2 v3 v4 v5 v7} : rn_0_addOf ns ct R K (n + 1) 44 [v0, v1, v2, v3, v4, v5, .inl (true, z), v7] k s = (rn_0_addOf ns ct R K n 46 [v0, v1, v2, v3, v4, v5, .inl (true, z), v7] (.inl (true, z) :: k) s) := rfl
theorem rx_0_addOf_46 {ns n ct R K s k z v0 v1 v2 v3 v4 v6 v7} : rn_0_addOf ns ct R K (n + 1) 46 [v0, v1, v2, v3, v4, .inl (true, z), v6, v7] k s = (rn_0_addOf ns ct R K n 48 [v0, v1, v2, v3, v4, .inl (true, z), v6, v7] (.inl (true, z) :: k) s) := rfl
theorem rx_0_addOf_48 {ns n ct R K s L k} : rn_0_addOf ns ct R K (n + 1) 48 L k s = (sy_call true (ct 48) k s fun r t => rn_0_addOf ns ct R K n 51 L r t) := rfl
theorem rx_0_addOf_51 {ns n ct R K s k z v0 v1 v2 v3 v4 v5 v6} : rn_0_addOf ns ct R K (n + 1) 51 [v0, v1, v2, v3, v4, v5, v6, .inl (true, z)] k s = (rn_0_addOf ns ct R K n 53 [v0, v1, v2, v3, v4, v5, v6, .inl (true, z)] (.inl (true, z) :: k) s) := rfl
theorem rx_0_addOf_53 {ns n ct R K s k z v0 v1 v2 v3 v4 v6 v7} : rn_0_addOf ns ct R K (n + 1) 53 [v0, v1, v2, v3, v4, .inl (true, z), v6, v7] k s = (rn_0_addOf ns ct R K n 55 [v0, v1, v2, v3, v4, .inl (true, z), v6, v7] (.inl (true, z) :: k) s) := rfl
theorem rx_0_addOf_55 {ns n ct R K s L k} : rn_0_addOf ns ct R K (n + 1) 55 L k s = (sy_call true (ct 51) k s fun r t => rn_0_addOf ns ct R K n 58 L r t) := rfl
theorem rx_0_addOf_58 {ns n ct R K s L k} : rn_0_addOf ns ct R K (n + 1) 58 L k s = (sy_call false (ct 54) k s fun r t => rn_0_addOf ns ct R K n 61 L r t) := rfl
theorem rx_0_addOf_61 {ns n ct R K s L k} : rn_0_addOf ns ct R K (n + 1) 61 L k s = (rn_0_addOf ns ct R K n 109 L k s) := rfl
theorem rx_0_addOf_64 {ns n ct R K s k z v0 v2 v3 v4 v5 v6 v7} : rn_0_addOf ns ct R K (n + 1) 64 [v0, .inr (.inr (some z)), v2, v3, v4, v5, v6, v7] k s = (rn_0_addOf ns ct R K n 65 [v0, .inr (.inr (some z)), v2, v3, v4, v5, v6, v7] (.inr (.inr (some z)) :: k) s) := rfl
theorem rx_0_addOf_65 {ns n ct R K s L k a} : rn_0_addOf ns ct R K (n + 1) 65 L (.inr (.inr (some (some a))) :: k) s = (sy_ob a = some 6 ∧ rn_0_addOf ns ct R K n 68 L (sy_fv s a 5 :: k) s) := rfl
theorem rx_0_addOf_68 {ns n ct R K s L k} : rn_0_addOf ns ct R K (n + 1) 68 L k s = (rn_0_addOf ns ct R K n 69 L (.inl (true, 2) :: k) s) := rfl
theorem rx_0_addOf_69 {ns n ct R K s L k a b x y} : rn_0_addOf ns ct R K (n + 1) 69 L (.inl (b, y) :: .inl (a, x) :: k) s = (sy_ri a x ∧ sy_ri b y ∧ (¬ x = y → rn_0_addOf ns ct R K n 101 L k s) ∧ (x = y → rn_0_addOf ns ct R K n 72 L k s)) := rfl
theorem rx_0_addOf_72 {ns n ct R K s k z v1 v2 v3 v4 v5 v6 v7} : rn_0_addOf ns ct R K (n + 1) 72 [.inr (.inr (some z)), v1, v2, v3, v4, v5, v6, v7] k s = (rn_0_addOf ns ct R K n 73 [.inr (.inr (some z)), v1, v2, v3, v4, v5, v6, v7] (.inr (.inr (some z)) :: k) s) := rfl
theorem rx_0_addOf_73 {ns n ct R K s L k} : rn_0_addOf ns ct R K (n + 1) 73 L k s = (rn_0_addOf ns ct R K n 75 L (.inl (true, (-50)) :: k) s) := rfl
theorem rx_0_addOf_75 {ns n ct R K s k z v0 v1 v2 v3 v4 v5 v7} : rn_0_addOf ns ct R K (n + 1) 75 [v0, v1, v2, v3, v4, v5, .inl (true, z), v7] k s = (rn_0_addOf ns ct R K n 77 [v0, v1, v2, v3, v4, v5, .inl (true, z), v7] (.inl (true, z) :: k) s) := rfl
theorem rx_0_addOf_77 {ns n ct R K s k z v0 v1 v2 v3 v4 v6 v7} : rn_0_addOf ns ct R K (n + 1) 77 [v0, v1, v2, v3, v4, .inl (true, z), v6, v7] k s = (rn_0_addOf ns ct R K n 79 [v0, v1, v2, v3, v4, .inl (true, z), v6, v7] (.inl (true, z) :: k) s) := rfl
theorem rx_0_addOf_79 {ns n ct R K s L k} : rn_0_addOf ns ct R K (n + 1) 79 L k s = (sy_call true (ct 51) k s fun r t => rn_0_addOf ns ct R K n 82 L r t) := rfl
theorem rx_0_addOf_82 {ns n ct R K s L k} : rn_0_addOf ns ct R K (n + 1) 82 L k s = (sy_call false (ct 54) k s fun r t => rn_0_addOf ns ct R K n 85 L r t) := rfl
theorem rx_0_addOf_85 {ns n ct R K s k z v1 v2 v3 v4 v5 v6 v7} : rn_0_addOf ns ct R K (n + 1) 85 [.inr (.inr (some z)), v1, v2, v3, v4, v5, v6, v7] k s = (rn_0_addOf ns ct R K n 86 [.inr (.inr (some z)), v1, v2, v3, v4, v5, v6, v7] (.inr (.inr (some z)) :: k) s) := rfl
theorem rx_0_addOf_86 {ns n ct R K s k z v0 v1 v2 v3 v4 v5 v6} : rn_0_addOf ns ct R K (n + 1) 86 [v0, v1, v2, v3, v4, v5, v6, .inl (true, z)] k s = (rn_0_addOf ns ct R K n 88 [v0, v1, v2, v3, v4, v5, v6, .inl (true, z)] (.inl (true, z) :: k) s) := rfl
theorem rx_0_addOf_88 {ns n ct R K s k z v0 v1 v2 v3 v4 v6 v7} : rn_0_addOf ns ct R K (n + 1) 88 [v0, v1, v2, v3, v4, .inl (true, z), v6, v7] k s = (rn_0_addOf ns ct R K n 90 [v0, v1, v2, v3, v4, .inl (true, z), v6, v7] (.inl (true, z) :: k) s) := rfl
theorem rx_0_addOf_90 {ns n ct R K s L k} : rn_0_addOf ns ct R K (n + 1) 90 L k s = (sy_call true (ct 48) k s fun r t => rn_0_addOf ns ct R K n 93 L r t) := rfl
theorem rx_0_addOf_93 {ns n ct R K s L k} : rn_0_addOf ns ct R K (n + 1) 93 L k s = (rn_0_addOf ns ct R K n 95 L (.inl (true, 50) :: k) s) := rfl
theorem rx_0_addOf_95 {ns n ct R K s L k} : rn_0_addOf ns ct R K (n + 1) 95 L k s = (sy_call false (ct 54) k s fun r t => rn_0_addOf ns ct R K n 98 L r t) := rfl
theorem rx_0_addOf_98 {ns n ct R K s L k} : rn_0_addOf ns ct R K (n + 1) 98 L k s = (rn_0_addOf ns ct R K n 109 L k s) := rfl
theorem rx_0_addOf_101 {ns n ct R K s k z v1 v2 v3 v4 v5 v6 v7} : rn_0_addOf ns ct R K (n + 1) 101 [.inr (.inr (some z)), v1, v2, v3, v4, v5, v6, v7] k s = (rn_0_addOf ns ct R K n 102 [.inr (.inr (some z)), v1, v2, v3, v4, v5, v6, v7] (.inr (.inr (some z)) :: k) s) := rfl
theorem rx_0_addOf_102 {ns n ct R K s L k} : rn_0_addOf ns ct R K (n + 1) 102 L k s = (rn_0_addOf ns ct R K n 104 L (.inl (true, (-50)) :: k) s) := rfl
theorem rx_0_addOf_104 {ns n ct R K s L k} : rn_0_addOf ns ct R K (n + 1) 104 L k s = (rn_0_addOf ns ct R K n 106 L (.inl (true, 50) :: k) s) := rfl
theorem rx_0_addOf_106 {ns n ct R K s L k} : rn_0_addOf ns ct R K (n + 1) 106 L k s = (sy_call false (ct 54) k s fun r t => rn_0_addOf ns ct R K n 109 L r t) := rfl
theorem rx_0_addOf_109 {ns n ct R K s L} : rn_0_addOf ns ct R K (n + 1) 109 L [] s = (R none s) := rfl
def y_0_sumUp : MethodName := ⟨"StarHide$Clocks", "sumUp", "()V"⟩
abbrev c_0_sumUp : ByteArray := prog_2_method_4_code
def tc_0_sumUp (pc : Nat) : Option sy_I := match pc with
  | 0 => some (.iconst 0, 1, 0)
  | 1 => some (.istore_n 1, 2, 0)
  | 2 => some (.bipush (-50), 4, 0)
  | 4 => some (.istore_n 2, 5, 0)
  | 5 => some (.iload_n 2, 6, 0)
  | 6 => some (.bipush 50, 8, 0)
  | 8 => some (.if_icmp .gt 59, 11, 67)
  | 11 => some (.iload_n 1, 12, 0)
  | 12 => some (.aload_n 0, 13, 0)
  | 13 => some (.getfield 9, 16, 0)
  | 16 => some (.iload_n 2, 17, 0)
  | 17 => some (.bipush 50, 19, 0)
  | 19 => some (.iadd, 20, 0)
  | 20 => some (.iaload, 21, 0)
  | 21 => some (.iadd, 22, 0)
  | 22 => some (.istore_n 1, 23, 0)
  | 23 => some (.iload_n 1, 24, 0)
  | 24 => some (.ifCond .le 37, 27, 61)
  | 27 => some (.aload_n 0, 28, 0)
  | 28 => some (.aload_n 0, 29, 0)
  | 29 => some (.getfield 21, 32, 0)
  | 32 => some (.ifCond .ne 7, 35, 39)
  | 35 => some (.iload_n 2, 36, 0)
  | 36 => some (.goto 7, 39, 43)
  | 39 => some (.aload_n 0, 40, 0)
  | 40 => some (.getfield 25, 43, 0)
  | 43 => some (.putfield 25, 46, 0)
  | 46 => some (.aload_n 0, 47, 0)
  | 47 => some (.iload_n 2, 48, 0)
  | 48 => some (.putfield 28, 51, 0)
  | 51 => some (.aload_n 0, 52, 0)
  | 52 => some (.dup, 53, 0)
  | 53 => some (.getfield 21, 56, 0)
  | 56 => some (.iconst 1, 57, 0)
  | 57 => some (.iadd, 58, 0)
  | 58 => some (.putfield 21, 61, 0)
  | 61 => some (.iinc 2 1, 64, 0)
  | 64 => some (.goto (-59), 67, 5)
  | 67 => some (.return_, 68, 0)
  | _ => none
theorem tv_0_sumUp : ∀ pc i, sy_lk 68 tc_0_sumUp pc = some i → sy_chk c_0_sumUp none false pc i = true := sy_lk_ok 68 tc_0_sumUp (by decide +kernel)
def Mk_0_sumUp (ct : Nat → Option (Bool × Nat × sy_Sp)) : sy_M := (sy_lk 68 tc_0_sumUp, ff_0, ki_0, kl_0, ct, false)
def rn_0_sumUp (ns : Nat) (ct : Nat → Option (Bool × Nat × sy_Sp)) (R : sy_R) (K : sy_K) : Nat → sy_K := sy_run ns (Mk_0_sumUp ct) [5] R K
theorem rx_0_sumUp_0 {ns n ct R K s L k} : rn_0_sumUp ns ct R K (n + 1) 0 L k s = (rn_0_sumUp ns ct R K n 1 L (.inl (true, 0) :: k) s) := rfl
theorem rx_0_sumUp_1 {ns n ct R K s L k b z} : rn_0_sumUp ns ct R K (n + 1) 1 L (.inl (b, z) :: k) s = (sy_ri b z ∧ 1 < L.length ∧ rn_0_sumUp ns ct R K n 2 (sy_sto L 1 (.inl (true, z))) k s) := rfl
theorem rx_0_sumUp_2 {ns n ct R K s L k} : rn_0_sumUp ns ct R K (n + 1) 2 L k s = (rn_0_sumUp ns ct R K n 4 L (.inl (true, (-50)) :: k) s) := rfl
theorem rx_0_sumUp_4 {ns n ct R K s L k b z} : rn_0_sumUp ns ct R K (n + 1) 4 L (.inl (b, z) :: k) s = (sy_ri b z ∧ 2 < L.length ∧ K 5 (sy_sto L 2 (.inl (true, z))) k s) := rfl
theorem rx_0_sumUp_5 {ns n ct R K s k z v0 v1} : rn_0_sumUp ns ct R K (n + 1) 5 [v0, v1, .inl (true, z)] k s = (rn_0_sumUp ns ct R K n 6 [v0, v1, .inl (true, z)] (.inl (true, z) :: k) s) := rfl
theorem rx_0_sumUp_6 {ns n ct R K s L k} : rn_0_sumUp ns ct R K (n + 1) 6 L k s = (rn_0_sumUp ns ct R K n 8 L (.inl (true, 50) :: k) s) := rfl
theorem rx_0_sumUp_8 {ns n ct R K s L k a b x y} : rn_0_sumUp ns ct R K (n + 1) 8 L (.inl (b, y) :: .inl (a, x) :: k) s = (sy_ri a x ∧ sy_ri b y ∧ (y < x → rn_0_sumUp ns ct R K n 67 L k s) ∧ (¬ y < x → rn_0_sumUp ns ct R K n 11 L k s)) := rfl
theorem rx_0_sumUp_11 {ns n ct R K s k z v0 v2} : rn_0_sumUp ns ct R K (n + 1) 11 [v0, .inl (true, z), v2] k s = (rn_0_sumUp ns ct R K n 12 [v0, .inl (true, z), v2] (.inl (true, z) :: k) s) := rfl
theorem rx_0_sumUp_12 {ns n ct R K s k z v1 v2} : rn_0_sumUp ns ct R K (n + 1) 12 [.inr (.inr (some z)), v1, v2] k s = (rn_0_sumUp ns ct R K n 13 [.inr (.inr (some z)), v1, v2] (.inr (.inr (some z)) :: k) s) := rfl
theorem rx_0_sumUp_13 {ns n ct R K s L k a} : rn_0_sumUp ns ct R K (n + 1) 13 L (.inr (.inr (some (some a))) :: k) s = (sy_ob a = some 0 ∧ rn_0_sumUp ns ct R K n 16 L (sy_fv s a 0 :: k) s) := rfl
theorem rx_0_sumUp_16 {ns n ct R K s k z v0 v1} : rn_0_sumUp ns ct R K (n + 1) 16 [v0, v1, .inl (true, z)] k s = (rn_0_sumUp ns ct R K n 17 [v0, v1, .inl (true, z)] (.inl (true, z) :: k) s) := rfl
theorem rx_0_sumUp_17 {ns n ct R K s L k} : rn_0_sumUp ns ct R K (n + 1) 17 L k s = (rn_0_sumUp ns ct R K n 19 L (.inl (true, 50) :: k) s) := rfl
theorem rx_0_sumUp_19 {ns n ct R K s L k a b x y} : rn_0_sumUp ns ct R K (n + 1) 19 L (.inl (b, y) :: .inl (a, x) :: k) s = (rn_0_sumUp ns ct R K n 20 L (.inl (false, x + y) :: k) s) := rfl
theorem rx_0_sumUp_20 {ns n ct R K s L k a b z} : rn_0_sumUp ns ct R K (n + 1) 20 L (.inl (b, z) :: .inr (.inr (some (some a))) :: k) s = ((0 ≤ z ∧ z < (sy_ar a).2) ∧ sy_ob a = none ∧ (sy_ar a).1 = 0 ∧ rn_0_sumUp ns ct R K n 21 L (.inl (true, s a z.toNat) :: k) s) := rfl
theorem rx_0_sumUp_21 {ns n ct R K s L k a b x y} : rn_0_sumUp ns ct R K (n + 1) 21 L (.inl (b, y) :: .inl (a, x) :: k) s = (rn_0_sumUp ns ct R K n 22 L (.inl (false, x + y) :: k) s) := rfl
theorem rx_0_sumUp_22 {ns n ct R K s L k b z} : rn_0_sumUp ns ct R K (n + 1) 22 L (.inl (b, z) :: k) s = (sy_ri b z ∧ 1 < L.length ∧ rn_0_sumUp ns ct R K n 23 (sy_sto L 1 (.inl (true, z))) k s) := rfl
theorem rx_0_sumUp_23 {ns n ct R K s k z v0 v2} : rn_0_sumUp ns ct R K (n + 1) 23 [v0, .inl (true, z), v2] k s = (rn_0_sumUp ns ct R K n 24 [v0, .inl (true, z), v2] (.inl (true, z) :: k) s) := rfl
theorem rx_0_sumUp_24 {ns n ct R K s L k a x} : rn_0_sumUp ns ct R K (n + 1) 24 L (.inl (a, x) :: k) s = (sy_ri a x ∧ (x ≤ 0 → rn_0_sumUp ns ct R K n 61 L k s) ∧ (¬ x ≤ 0 → rn_0_sumUp ns ct R K n 27 L k s)) := rfl
theorem rx_0_sumUp_27 {ns n ct R K s k z v1 v2} : rn_0_sumUp ns ct R K (n + 1) 27 [.inr (.inr (some z)), v1, v2] k s = (rn_0_sumUp ns ct R K n 28 [.inr (.inr (some z)), v1, v2] (.inr (.inr (some z)) :: k) s) := rfl
theorem rx_0_sumUp_28 {ns n ct R K s k z v1 v2} : rn_0_sumUp ns ct R K (n + 1) 28 [.inr (.inr (some z)), v1, v2] k s = (rn_0_sumUp ns ct R K n 29 [.inr (.inr (some z)), v1, v2] (.inr (.inr (some z)) :: k) s) := rfl
theorem rx_0_sumUp_29 {ns n ct R K s L k a} : rn_0_sumUp ns ct R K (n + 1) 29 L (.inr (.inr (some (some a))) :: k) s = (sy_ob a = some 0 ∧ rn_0_sumUp ns ct R K n 32 L (sy_fv s a 1 :: k) s) := rfl
theorem rx_0_sumUp_32 {ns n ct R K s L k a x} : rn_0_sumUp ns ct R K (n + 1) 32 L (.inl (a, x) :: k) s = (sy_ri a x ∧ (¬ x = 0 → rn_0_sumUp ns ct R K n 39 L k s) ∧ (x = 0 → rn_0_sumUp ns ct R K n 35 L k s)) := rfl
theorem rx_0_sumUp_35 {ns n ct R K s k z v0 v1} : rn_0_sumUp ns ct R K (n + 1) 35 [v0, v1, .inl (true, z)] k s = (rn_0_sumUp ns ct R K n 36 [v0, v1, .inl (true, z)] (.inl (true, z) :: k) s) := rfl
theorem rx_0_sumUp_36 {ns n ct R K s L k} : rn_0_sumUp ns ct R K (n + 1) 36 L k s = (rn_0_sumUp ns ct R K n 43 L k s) := rfl
theorem rx_0_sumUp_39 {ns n ct R K s k z v1 v2} : rn_0_sumUp ns ct R K (n + 1) 39 [.inr (.inr (some z)), v1, v2] k s = (rn_0_sumUp ns ct R K n 40 [.inr (.inr (some z)), v1, v2] (.inr (.inr (some z)) :: k) s) := rfl
theorem rx_0_sumUp_40 {ns n ct R K s L k a} : rn_0_sumUp ns ct R K (n + 1) 40 L (.inr (.inr (some (some a))) :: k) s = (sy_ob a = some 0 ∧ rn_0_sumUp ns ct R K n 43 L (sy_fv s a 2 :: k) s) := rfl
theorem rx_0_sumUp_43 {ns n ct R K s L k a b z} : rn_0_sumUp ns ct R K (n + 1) 43 L (.inl (b, z) :: .inr (.inr (some (some a))) :: k) s = (sy_ob a = some 0 ∧ sy_ri b z ∧ sy_b01 false z ∧ rn_0_sumUp ns ct R K n 46 L k (sy_up s a 2 z)) := rfl
theorem rx_0_sumUp_46 {ns n ct R K s k z v1 v2} : rn_0_sumUp ns ct R K (n + 1) 46 [.inr (.inr (some z)), v1, v2] k s = (rn_0_sumUp ns ct R K n 47 [.inr (.inr (some z)), v1, v2] (.inr (.inr (some z)) :: k) s) := rfl
theorem rx_0_sumUp_47 {ns n ct R K s k z v0 v1} : rn_0_sumUp ns ct R K (n + 1) 47 [v0, v1, .inl (true, z)] k s = (rn_0_sumUp ns ct R K n 48 [v0, v1, .inl (true, z)] (.inl (true, z) :: k) s) := rfl
theorem rx_0_sumUp_48 {ns n ct R K s L k a b z} : rn_0_sumUp ns ct R K (n + 1) 48 L (.inl (b, z) :: .inr (.inr (some (some a))) :: k) s = (sy_ob a = some 0 ∧ sy_ri b z ∧ sy_b01 false z ∧ rn_0_sumUp ns ct R K n 51 L k (sy_up s a 3 z)) := rfl
theorem rx_0_sumUp_51 {ns n ct R K s k z v1 v2} : rn_0_sumUp ns ct R K (n + 1) 51 [.inr (.inr (some z)), v1, v2] k s = (rn_0_sumUp ns ct R K n 52 [.inr (.inr (some z)), v1, v2] (.inr (.inr (some z)) :: k) s) := rfl
theorem rx_0_sumUp_52_i {ns n ct R K s L k a} : rn_0_sumUp ns ct R K (n + 1) 52 L (.inl a :: k) s = (rn_0_sumUp ns ct R K n 53 L (.inl a :: .inl a :: k) s) := rfl
theorem rx_0_sumUp_52 {ns n ct R K s L k a} : rn_0_sumUp ns ct R K (n + 1) 52 L (.inr (.inr a) :: k) s = (rn_0_sumUp ns ct R K n 53 L (.inr (.inr a) :: .inr (.inr a) :: k) s) := rfl
theorem rx_0_sumUp_53 {ns n ct R K s L k a} : rn_0_sumUp ns ct R K (n + 1) 53 L (.inr (.inr (some (some a))) :: k) s = (sy_ob a = some 0 ∧ rn_0_sumUp ns ct R K n 56 L (sy_fv s a 1 :: k) s) := rfl
theorem rx_0_sumUp_56 {ns n ct R K s L k} : rn_0_sumUp ns ct R K (n + 1) 56 L k s = (rn_0_sumUp ns ct R K n 57 L (.inl (true, 1) :: k) s) := rfl
theorem rx_0_sumUp_57 {ns n ct R K s L k a b x y} : rn_0_sumUp ns ct R K (n + 1) 57 L (.inl (b, y) :: .inl (a, x) :: k) s = (rn_0_sumUp ns ct R K n 58 L (.inl (false, x + y) :: k) s) := rfl
theorem rx_0_sumUp_58 {ns n ct R K s L k a b z} : rn_0_sumUp ns ct R K (n + 1) 58 L (.inl (b, z) :: .inr (.inr (some (some a))) :: k) s = (sy_ob a = some 0 ∧ sy_ri b z ∧ sy_b01 false z ∧ rn_0_sumUp ns ct R K n 61 L k (sy_up s a 1 z)) := rfl
theorem rx_0_sumUp_61 {ns n ct R K s k z v0 v1} : rn_0_sumUp ns ct R K (n + 1) 61 [v0, v1, .inl (true, z)] k s = ((-2147483648 ≤ z + 1 ∧ z + 1 < 2147483648) ∧ rn_0_sumUp ns ct R K n 64 (sy_sto [v0, v1, .inl (true, z)] 2 (.inl (true, z + 1))) k s) := rfl
theorem rx_0_sumUp_64 {ns n ct R K s L k} : rn_0_sumUp ns ct R K (n + 1) 64 L k s = (K 5 L k s) := rfl
theorem rx_0_sumUp_67 {ns n ct R K s L} : rn_0_sumUp ns ct R K (n + 1) 67 L [] s = (R none s) := rfl
def y_0_addRange : MethodName := ⟨"StarHide$Clocks", "addRange", "(II)V"⟩
abbrev c_0_addRange : ByteArray := prog_2_method_5_code
def tc_0_addRange (pc : Nat) : Option sy_I := match pc with
  | 0 => some (.iload_n 1, 1, 0)
  | 1 => some (.bipush (-50), 3, 0)
  | 3 => some (.invokestatic 31, 6, 0)
  | 6 => some (.istore_n 3, 7, 0)
  | 7 => some (.iload_n 2, 8, 0)
  | 8 => some (.bipush 50, 10, 0)
  | 10 => some (.invokestatic 58, 13, 0)
  | 13 => some (.istore 4, 15, 0)
  | 15 => some (.iload_n 3, 16, 0)
  | 16 => some (.iload 4, 18, 0)
  | 18 => some (.if_icmp .gt 32, 21, 50)
  | 21 => some (.aload_n 0, 22, 0)
  | 22 => some (.getfield 9, 25, 0)
  | 25 => some (.iload_n 3, 26, 0)
  | 26 => some (.bipush 50, 28, 0)
  | 28 => some (.iadd, 29, 0)
  | 29 => some (.dup2, 30, 0)
  | 30 => some (.iaload, 31, 0)
  | 31 => some (.iconst 1, 32, 0)
  | 32 => some (.iadd, 33, 0)
  | 33 => some (.iastore, 34, 0)
  | 34 => some (.aload_n 0, 35, 0)
  | 35 => some (.getfield 9, 38, 0)
  | 38 => some (.iload 4, 40, 0)
  | 40 => some (.bipush 50, 42, 0)
  | 42 => some (.iadd, 43, 0)
  | 43 => some (.iconst 1, 44, 0)
  | 44 => some (.iadd, 45, 0)
  | 45 => some (.dup2, 46, 0)
  | 46 => some (.iaload, 47, 0)
  | 47 => some (.iconst 1, 48, 0)
  | 48 => some (.isub, 49, 0)
  | 49 => some (.iastore, 50, 0)
  | 50 => some (.return_, 51, 0)
  | _ => none
theorem tv_0_addRange : ∀ pc i, sy_lk 51 tc_0_addRange pc = some i → sy_chk c_0_addRange none false pc i = true := sy_lk_ok 51 tc_0_addRange (by decide +kernel)
def Mk_0_addRange (ct : Nat → Option (Bool × Nat × sy_Sp)) : sy_M := (sy_lk 51 tc_0_addRange, ff_0, ki_0, kl_0, ct, false)
def rn_0_addRange (ns : Nat) (ct : Nat → Option (Bool × Nat × sy_Sp)) (R : sy_R) (K : sy_K) : Nat → sy_K := sy_run ns (Mk_0_addRange ct) [] R K
theorem rx_0_addRange_0 {ns n ct R K s k z v0 v2 v3 v4} : rn_0_addRange ns ct R K (n + 1) 0 [v0, .inl (true, z), v2, v3, v4] k s = (rn_0_addRange ns ct R K n 1 [v0, .inl (true, z), v2, v3, v4] (.inl (true, z) :: k) s) := rfl
theorem rx_0_addRange_1 {ns n ct R K s L k} : rn_0_addRange ns ct R K (n + 1) 1 L k s = (rn_0_addRange ns ct R K n 3 L (.inl (true, (-50)) :: k) s) := rfl
theorem rx_0_addRange_3 {ns n ct R K s L k} : rn_0_addRange ns ct R K (n + 1) 3 L k s = (sy_call true (ct 31) k s fun r t => rn_0_addRange ns ct R K n 6 L r t) := rfl
theorem rx_0_addRange_6 {ns n ct R K s L k b z} : rn_0_addRange ns ct R K (n + 1) 6 L (.inl (b, z) :: k) s = (sy_ri b z ∧ 3 < L.length ∧ rn_0_addRange ns ct R K n 7 (sy_sto L 3 (.inl (true, z))) k s) := rfl
theorem rx_0_addRange_7 {ns n ct R K s k z v0 v1 v3 v4} : rn_0_addRange ns ct R K (n + 1) 7 [v0, v1, .inl (true, z), v3, v4] k s = (rn_0_addRange ns ct R K n 8 [v0, v1, .inl (true, z), v3, v4] (.inl (true, z) :: k) s) := rfl
theorem rx_0_addRange_8 {ns n ct R K s L k} : rn_0_addRange ns ct R K (n + 1) 8 L k s = (rn_0_addRange ns ct R K n 10 L (.inl (true, 50) :: k) s) := rfl
theorem rx_0_addRange_10 {ns n ct R K s L k} : rn_0_addRange ns ct R K (n + 1) 10 L k s = (sy_call true (ct 58) k s fun r t => rn_0_addRange ns ct R K n 13 L r t) := rfl
theorem rx_0_addRange_13 {ns n ct R K s L k b z} : rn_0_addRange ns ct R K (n + 1) 13 L (.inl (b, z) :: k) s = (sy_ri b z ∧ 4 < L.length ∧ rn_0_addRange ns ct R K n 15 (sy_sto L 4 (.inl (true, z))) k s) := rfl
theorem rx_0_addRange_15 {ns n ct R K s k z v0 v1 v2 v4} : rn_0_addRange ns ct R K (n + 1) 15 [v0, v1, v2, .inl (true, z), v4] k s = (rn_0_addRange ns ct R K n 16 [v0, v1, v2, .inl (true, z), v4] (.inl (true, z) :: k) s) := rfl
theorem rx_0_addRange_16 {ns n ct R K s k z v0 v1 v2 v3} : rn_0_addRange ns ct R K (n + 1) 16 [v0, v1, v2, v3, .inl (true, z)] k s = (rn_0_addRange ns ct R K n 18 [v0, v1, v2, v3, .inl (true, z)] (.inl (true, z) :: k) s) := rfl
theorem rx_0_addRange_18 {ns n ct R K s L k a b x y} : rn_0_addRange ns ct R K (n + 1) 18 L (.inl (b, y) :: .inl (a, x) :: k) s = (sy_ri a x ∧ sy_ri b y ∧ (y < x → rn_0_addRange ns ct R K n 50 L k s) ∧ (¬ y < x → rn_0_addRange ns ct R K n 21 L k s)) := rfl
theorem rx_0_addRange_21 {ns n ct R K s k z v1 v2 v3 v4} : rn_0_addRange ns ct R K (n + 1) 21 [.inr (.inr (some z)), v1, v2, v3, v4] k s = (rn_0_addRange ns ct R K n 22 [.inr (.inr (some z)), v1, v2, v3, v4] (.inr (.inr (some z)) :: k) s) := rfl
theorem rx_0_addRange_22 {ns n ct R K s L k a} : rn_0_addRange ns ct R K (n + 1) 22 L (.inr (.inr (some (some a))) :: k) s = (sy_ob a = some 0 ∧ rn_0_addRange ns ct R K n 25 L (sy_fv s a 0 :: k) s) := rfl
theorem rx_0_addRange_25 {ns n ct R K s k z v0 v1 v2 v4} : rn_0_addRange ns ct R K (n + 1) 25 [v0, v1, v2, .inl (true, z), v4] k s = (rn_0_addRange ns ct R K n 26 [v0, v1, v2, .inl (true, z), v4] (.inl (true, z) :: k) s) := rfl
theorem rx_0_addRange_26 {ns n ct R K s L k} : rn_0_addRange ns ct R K (n + 1) 26 L k s = (rn_0_addRange ns ct R K n 28 L (.inl (true, 50) :: k) s) := rfl
theorem rx_0_addRange_28 {ns n ct R K s L k a b x y} : rn_0_addRange ns ct R K (n + 1) 28 L (.inl (b, y) :: .inl (a, x) :: k) s = (rn_0_addRange ns ct R K n 29 L (.inl (false, x + y) :: k) s) := rfl
theorem rx_0_addRange_29 {ns n ct R K s L k a b} : rn_0_addRange ns ct R K (n + 1) 29 L (.inl a :: .inr (.inr b) :: k) s = (rn_0_addRange ns ct R K n 30 L (.inl a :: .inr (.inr b) :: .inl a :: .inr (.inr b) :: k) s) := rfl
theorem rx_0_addRange_30 {ns n ct R K s L k a b z} : rn_0_addRange ns ct R K (n + 1) 30 L (.inl (b, z) :: .inr (.inr (some (some a))) :: k) s = ((0 ≤ z ∧ z < (sy_ar a).2) ∧ sy_ob a = none ∧ (sy_ar a).1 = 0 ∧ rn_0_addRange ns ct R K n 31 L (.inl (true, s a z.toNat) :: k) s) := rfl
theorem rx_0_addRange_31 {ns n ct R K s L k} : rn_0_addRange ns ct R K (n + 1) 31 L k s = (rn_0_addRange ns ct R K n 32 L (.inl (true, 1) :: k) s) := rfl
theorem rx_0_addRange_32 {ns n ct R K s L k a b x y} : rn_0_addRange ns ct R K (n + 1) 32 L (.inl (b, y) :: .inl (a, x) :: k) s = (rn_0_addRange ns ct R K n 33 L (.inl (false, x + y) :: k) s) := rfl
theorem rx_0_addRange_33 {ns n ct R K s L k a b c z y} : rn_0_addRange ns ct R K (n + 1) 33 L (.inl (c, y) :: .inl (b, z) :: .inr (.inr (some (some a))) :: k) s = (sy_ri c y ∧ (0 ≤ z ∧ z < (sy_ar a).2) ∧ sy_ob a = none ∧ (sy_ar a).1 = 0 ∧ rn_0_addRange ns ct R K n 34 L k (sy_up s a z.toNat y)) := rfl
theorem rx_0_addRange_34 {ns n ct R K s k z v1 v2 v3 v4} : rn_0_addRange ns ct R K (n + 1) 34 [.inr (.inr (some z)), v1, v2, v3, v4] k s = (rn_0_addRange ns ct R K n 35 [.inr (.inr (some z)), v1, v2, v3, v4] (.inr (.inr (some z)) :: k) s) := rfl
theorem rx_0_addRange_35 {ns n ct R K s L k a} : rn_0_addRange ns ct R K (n + 1) 35 L (.inr (.inr (some (some a))) :: k) s = (sy_ob a = some 0 ∧ rn_0_addRange ns ct R K n 38 L (sy_fv s a 0 :: k) s) := rfl
theorem rx_0_addRange_38 {ns n ct R K s k z v0 v1 v2 v3} : rn_0_addRange ns ct R K (n + 1) 38 [v0, v1, v2, v3, .inl (true, z)] k s = (rn_0_addRange ns ct R K n 40 [v0, v1, v2, v3, .inl (true, z)] (.inl (true, z) :: k) s) := rfl
theorem rx_0_addRange_40 {ns n ct R K s L k} : rn_0_addRange ns ct R K (n + 1) 40 L k s = (rn_0_addRange ns ct R K n 42 L (.inl (true, 50) :: k) s) := rfl
theorem rx_0_addRange_42 {ns n ct R K s L k a b x y} : rn_0_addRange ns ct R K (n + 1) 42 L (.inl (b, y) :: .inl (a, x) :: k) s = (rn_0_addRange ns ct R K n 43 L (.inl (false, x + y) :: k) s) := rfl
theorem rx_0_addRange_43 {ns n ct R K s L k} : rn_0_addRange ns ct R K (n + 1) 43 L k s = (rn_0_addRange ns ct R K n 44 L (.inl (true, 1) :: k) s) := rfl
theorem rx_0_addRange_44 {ns n ct R K s L k a b x y} : rn_0_addRange ns ct R K (n + 1) 44 L (.inl (b, y) :: .inl (a, x) :: k) s = (rn_0_addRange ns ct R K n 45 L (.inl (false, x + y) :: k) s) := rfl
theorem rx_0_addRange_45 {ns n ct R K s L k a b} : rn_0_addRange ns ct R K (n + 1) 45 L (.inl a :: .inr (.inr b) :: k) s = (rn_0_addRange ns ct R K n 46 L (.inl a :: .inr (.inr b) :: .inl a :: .inr (.inr b) :: k) s) := rfl
theorem rx_0_addRange_46 {ns n ct R K s L k a b z} : rn_0_addRange ns ct R K (n + 1) 46 L (.inl (b, z) :: .inr (.inr (some (some a))) :: k) s = ((0 ≤ z ∧ z < (sy_ar a).2) ∧ sy_ob a = none ∧ (sy_ar a).1 = 0 ∧ rn_0_addRange ns ct R K n 47 L (.inl (true, s a z.toNat) :: k) s) := rfl
theorem rx_0_addRange_47 {ns n ct R K s L k} : rn_0_addRange ns ct R K (n + 1) 47 L k s = (rn_0_addRange ns ct R K n 48 L (.inl (true, 1) :: k) s) := rfl
theorem rx_0_addRange_48 {ns n ct R K s L k a b x y} : rn_0_addRange ns ct R K (n + 1) 48 L (.inl (b, y) :: .inl (a, x) :: k) s = (rn_0_addRange ns ct R K n 49 L (.inl (false, x - y) :: k) s) := rfl
theorem rx_0_addRange_49 {ns n ct R K s L k a b c z y} : rn_0_addRange ns ct R K (n + 1) 49 L (.inl (c, y) :: .inl (b, z) :: .inr (.inr (some (some a))) :: k) s = (sy_ri c y ∧ (0 ≤ z ∧ z < (sy_ar a).2) ∧ sy_ob a = none ∧ (sy_ar a).1 = 0 ∧ rn_0_addRange ns ct R K n 50 L k (sy_up s a z.toNat y)) := rfl
theorem rx_0_addRange_50 {ns n ct R K s L} : rn_0_addRange ns ct R K (n + 1) 50 L [] s = (R none s) := rfl
def y_0_roundUp : MethodName := ⟨"StarHide$Clocks", "roundUp", "(II)I"⟩
abbrev c_0_roundUp : ByteArray := prog_2_method_6_code
def tc_0_roundUp (pc : Nat) : Option sy_I := match pc with
  | 0 => some (.iload_n 0, 1, 0)
  | 1 => some (.ineg, 2, 0)
  | 2 => some (.iconst 1, 3, 0)
  | 3 => some (.iload_n 1, 4, 0)
  | 4 => some (.invokestatic 31, 7, 0)
  | 7 => some (.invokestatic 51, 10, 0)
  | 10 => some (.ineg, 11, 0)
  | 11 => some (.ireturn, 12, 0)
  | _ => none
theorem tv_0_roundUp : ∀ pc i, sy_lk 12 tc_0_roundUp pc = some i → sy_chk c_0_roundUp (some .int) false pc i = true := sy_lk_ok 12 tc_0_roundUp (by decide +kernel)
def Mk_0_roundUp (ct : Nat → Option (Bool × Nat × sy_Sp)) : sy_M := (sy_lk 12 tc_0_roundUp, ff_0, ki_0, kl_0, ct, false)
def rn_0_roundUp (ns : Nat) (ct : Nat → Option (Bool × Nat × sy_Sp)) (R : sy_R) (K : sy_K) : Nat → sy_K := sy_run ns (Mk_0_roundUp ct) [] R K
theorem rx_0_roundUp_0 {ns n ct R K s k z v1} : rn_0_roundUp ns ct R K (n + 1) 0 [.inl (true, z), v1] k s = (rn_0_roundUp ns ct R K n 1 [.inl (true, z), v1] (.inl (true, z) :: k) s) := rfl
theorem rx_0_roundUp_1 {ns n ct R K s L k a x} : rn_0_roundUp ns ct R K (n + 1) 1 L (.inl (a, x) :: k) s = (rn_0_roundUp ns ct R K n 2 L (.inl (false, -x) :: k) s) := rfl
theorem rx_0_roundUp_2 {ns n ct R K s L k} : rn_0_roundUp ns ct R K (n + 1) 2 L k s = (rn_0_roundUp ns ct R K n 3 L (.inl (true, 1) :: k) s) := rfl
theorem rx_0_roundUp_3 {ns n ct R K s k z v0} : rn_0_roundUp ns ct R K (n + 1) 3 [v0, .inl (true, z)] k s = (rn_0_roundUp ns ct R K n 4 [v0, .inl (true, z)] (.inl (true, z) :: k) s) := rfl
theorem rx_0_roundUp_4 {ns n ct R K s L k} : rn_0_roundUp ns ct R K (n + 1) 4 L k s = (sy_call true (ct 31) k s fun r t => rn_0_roundUp ns ct R K n 7 L r t) := rfl
theorem rx_0_roundUp_7 {ns n ct R K s L k} : rn_0_roundUp ns ct R K (n + 1) 7 L k s = (sy_call true (ct 51) k s fun r t => rn_0_roundUp ns ct R K n 10 L r t) := rfl
theorem rx_0_roundUp_10 {ns n ct R K s L k a x} : rn_0_roundUp ns ct R K (n + 1) 10 L (.inl (a, x) :: k) s = (rn_0_roundUp ns ct R K n 11 L (.inl (false, -x) :: k) s) := rfl
theorem rx_0_roundUp_11 {ns n ct R K s L a z} : rn_0_roundUp ns ct R K (n + 1) 11 L [.inl (a, z)] s = (sy_ri a z ∧ sy_b01 false z ∧ R (some (.inl (true, z))) s) := rfl
def y_1_init : MethodName := ⟨"StarHide$Dips", "<init>", "(LStarHide$Sites;)V"⟩
abbrev c_1_init : ByteArray := prog_3_method_1_code
def y_1_add : MethodName := ⟨"StarHide$Dips", "add", "(III)I"⟩
abbrev c_1_add : ByteArray := prog_3_method_2_code
def tc_1_add (pc : Nat) : Option sy_I := match pc with
  | 0 => some (.aload_n 0, 1, 0)
  | 1 => some (.getfield 29, 4, 0)
  | 4 => some (.bipush 10, 6, 0)
  | 6 => some (.if_icmp .lt 5, 9, 11)
  | 9 => some (.iconst (-1), 10, 0)
  | 10 => some (.ireturn, 11, 0)
  | 11 => some (.aload_n 0, 12, 0)
  | 12 => some (.getfield 11, 15, 0)
  | 15 => some (.aload_n 0, 16, 0)
  | 16 => some (.getfield 29, 19, 0)
  | 19 => some (.iload_n 1, 20, 0)
  | 20 => some (.iastore, 21, 0)
  | 21 => some (.aload_n 0, 22, 0)
  | 22 => some (.getfield 15, 25, 0)
  | 25 => some (.aload_n 0, 26, 0)
  | 26 => some (.getfield 29, 29, 0)
  | 29 => some (.iload_n 2, 30, 0)
  | 30 => some (.iastore, 31, 0)
  | 31 => some (.aload_n 0, 32, 0)
  | 32 => some (.getfield 18, 35, 0)
  | 35 => some (.aload_n 0, 36, 0)
  | 36 => some (.getfield 29, 39, 0)
  | 39 => some (.iload_n 3, 40, 0)
  | 40 => some (.iastore, 41, 0)
  | 41 => some (.aload_n 0, 42, 0)
  | 42 => some (.dup, 43, 0)
  | 43 => some (.getfield 29, 46, 0)
  | 46 => some (.iconst 1, 47, 0)
  | 47 => some (.iadd, 48, 0)
  | 48 => some (.putfield 29, 51, 0)
  | 51 => some (.aload_n 0, 52, 0)
  | 52 => some (.getfield 29, 55, 0)
  | 55 => some (.ireturn, 56, 0)
  | _ => none
theorem tv_1_add : ∀ pc i, sy_lk 56 tc_1_add pc = some i → sy_chk c_1_add (some .int) false pc i = true := sy_lk_ok 56 tc_1_add (by decide +kernel)
def Mk_1_add (ct : Nat → Option (Bool × Nat × sy_Sp)) : sy_M := (sy_lk 56 tc_1_add, ff_1, ki_1, kl_1, ct, false)
def rn_1_add (ns : Nat) (ct : Nat → Option (Bool × Nat × sy_Sp)) (R : sy_R) (K : sy_K) : Nat → sy_K := sy_run ns (Mk_1_add ct) [] R K
theorem rx_1_add_0 {ns n ct R K s k z v1 v2 v3} : rn_1_add ns ct R K (n + 1) 0 [.inr (.inr (some z)), v1, v2, v3] k s = (rn_1_add ns ct R K n 1 [.inr (.inr (some z)), v1, v2, v3] (.inr (.inr (some z)) :: k) s) := rfl
theorem rx_1_add_1 {ns n ct R K s L k a} : rn_1_add ns ct R K (n + 1) 1 L (.inr (.inr (some (some a))) :: k) s = (sy_ob a = some 1 ∧ rn_1_add ns ct R K n 4 L (sy_fv s a 4 :: k) s) := rfl
theorem rx_1_add_4 {ns n ct R K s L k} : rn_1_add ns ct R K (n + 1) 4 L k s = (rn_1_add ns ct R K n 6 L (.inl (true, 10) :: k) s) := rfl
theorem rx_1_add_6 {ns n ct R K s L k a b x y} : rn_1_add ns ct R K (n + 1) 6 L (.inl (b, y) :: .inl (a, x) :: k) s = (sy_ri a x ∧ sy_ri b y ∧ (x < y → rn_1_add ns ct R K n 11 L k s) ∧ (¬ x < y → rn_1_add ns ct R K n 9 L k s)) := rfl
theorem rx_1_add_9 {ns n ct R K s L k} : rn_1_add ns ct R K (n + 1) 9 L k s = (rn_1_add ns ct R K n 10 L (.inl (true, (-1)) :: k) s) := rfl
theorem rx_1_add_10 {ns n ct R K s L a z} : rn_1_add ns ct R K (n + 1) 10 L [.inl (a, z)] s = (sy_ri a z ∧ sy_b01 false z ∧ R (some (.inl (true, z))) s) := rfl
theorem rx_1_add_11 {ns n ct R K s k z v1 v2 v3} : rn_1_add ns ct R K (n + 1) 11 [.inr (.inr (some z)), v1, v2, v3] k s = (rn_1_add ns ct R K n 12 [.inr (.inr (some z)), v1, v2, v3] (.inr (.inr (some z)) :: k) s) := rfl
theorem rx_1_add_12 {ns n ct R K s L k a} : rn_1_add ns ct R K (n + 1) 12 L (.inr (.inr (some (some a))) :: k) s = (sy_ob a = some 1 ∧ rn_1_add ns ct R K n 15 L (sy_fv s a 1 :: k) s) := rfl
theorem rx_1_add_15 {ns n ct R K s k z v1 v2 v3} : rn_1_add ns ct R K (n + 1) 15 [.inr (.inr (some z)), v1, v2, v3] k s = (rn_1_add ns ct R K n 16 [.inr (.inr (some z)), v1, v2, v3] (.inr (.inr (some z)) :: k) s) := rfl
theorem rx_1_add_16 {ns n ct R K s L k a} : rn_1_add ns ct R K (n + 1) 16 L (.inr (.inr (some (some a))) :: k) s = (sy_ob a = some 1 ∧ rn_1_add ns ct R K n 19 L (sy_fv s a 4 :: k) s) := rfl
theorem rx_1_add_19 {ns n ct R K s k z v0 v2 v3} : rn_1_add ns ct R K (n + 1) 19 [v0, .inl (true, z), v2, v3] k s = (rn_1_add ns ct R K n 20 [v0, .inl (true, z), v2, v3] (.inl (true, z) :: k) s) := rfl
theorem rx_1_add_20 {ns n ct R K s L k a b c z y} : rn_1_add ns ct R K (n + 1) 20 L (.inl (c, y) :: .inl (b, z) :: .inr (.inr (some (some a))) :: k) s = (sy_ri c y ∧ (0 ≤ z ∧ z < (sy_ar a).2) ∧ sy_ob a = none ∧ (sy_ar a).1 = 0 ∧ rn_1_add ns ct R K n 21 L k (sy_up s a z.toNat y)) := rfl
theorem rx_1_add_21 {ns n ct R K s k z v1 v2 v3} : rn_1_add ns ct R K (n + 1) 21 [.inr (.inr (some z)), v1, v2, v3] k s = (rn_1_add ns ct R K n 22 [.inr (.inr (some z)), v1, v2, v3] (.inr (.inr (some z)) :: k) s) := rfl
theorem rx_1_add_22 {ns n ct R K s L k a} : rn_1_add ns ct R K (n + 1) 22 L (.inr (.inr (some (some a))) :: k) s = (sy_ob a = some 1 ∧ rn_1_add ns ct R K n 25 L (sy_fv s a 2 :: k) s) := rfl
theorem rx_1_add_25 {ns n ct R K s k z v1 v2 v3} : rn_1_add ns ct R K (n + 1) 25 [.inr (.inr (some z)), v1, v2, v3] k s = (rn_1_add ns ct R K n 26 [.inr (.inr (some z)), v1, v2, v3] (.inr (.inr (some z)) :: k) s) := rfl
theorem rx_1_add_26 {ns n ct R K s L k a} : rn_1_add ns ct R K (n + 1) 26 L (.inr (.inr (some (some a))) :: k) s = (sy_ob a = some 1 ∧ rn_1_add ns ct R K n 29 L (sy_fv s a 4 :: k) s) := rfl
theorem rx_1_add_29 {ns n ct R K s k z v0 v1 v3} : rn_1_add ns ct R K (n + 1) 29 [v0, v1, .inl (true, z), v3] k s = (rn_1_add ns ct R K n 30 [v0, v1, .inl (true, z), v3] (.inl (true, z) :: k) s) := rfl
theorem rx_1_add_30 {ns n ct R K s L k a b c z y} : rn_1_add ns ct R K (n + 1) 30 L (.inl (c, y) :: .inl (b, z) :: .inr (.inr (some (some a))) :: k) s = (sy_ri c y ∧ (0 ≤ z ∧ z < (sy_ar a).2) ∧ sy_ob a = none ∧ (sy_ar a).1 = 0 ∧ rn_1_add ns ct R K n 31 L k (sy_up s a z.toNat y)) := rfl
theorem rx_1_add_31 {ns n ct R K s k z v1 v2 v3} : rn_1_add ns ct R K (n + 1) 31 [.inr (.inr (some z)), v1, v2, v3] k s = (rn_1_add ns ct R K n 32 [.inr (.inr (some z)), v1, v2, v3] (.inr (.inr (some z)) :: k) s) := rfl
theorem rx_1_add_32 {ns n ct R K s L k a} : rn_1_add ns ct R K (n + 1) 32 L (.inr (.inr (some (some a))) :: k) s = (sy_ob a = some 1 ∧ rn_1_add ns ct R K n 35 L (sy_fv s a 3 :: k) s) := rfl
theorem rx_1_add_35 {ns n ct R K s k z v1 v2 v3} : rn_1_add ns ct R K (n + 1) 35 [.inr (.inr (some z)), v1, v2, v3] k s = (rn_1_add ns ct R K n 36 [.inr (.inr (some z)), v1, v2, v3] (.inr (.inr (some z)) :: k) s) := rfl
theorem rx_1_add_36 {ns n ct R K s L k a} : rn_1_add ns ct R K (n + 1) 36 L (.inr (.inr (some (some a))) :: k) s = (sy_ob a = some 1 ∧ rn_1_add ns ct R K n 39 L (sy_fv s a 4 :: k) s) := rfl
theorem rx_1_add_39 {ns n ct R K s k z v0 v1 v2} : rn_1_add ns ct R K (n + 1) 39 [v0, v1, v2, .inl (true, z)] k s = (rn_1_add ns ct R K n 40 [v0, v1, v2, .inl (true, z)] (.inl (true, z) :: k) s) := rfl
theorem rx_1_add_40 {ns n ct R K s L k a b c z y} : rn_1_add ns ct R K (n + 1) 40 L (.inl (c, y) :: .inl (b, z) :: .inr (.inr (some (some a))) :: k) s = (sy_ri c y ∧ (0 ≤ z ∧ z < (sy_ar a).2) ∧ sy_ob a = none ∧ (sy_ar a).1 = 0 ∧ rn_1_add ns ct R K n 41 L k (sy_up s a z.toNat y)) := rfl
theorem rx_1_add_41 {ns n ct R K s k z v1 v2 v3} : rn_1_add ns ct R K (n + 1) 41 [.inr (.inr (some z)), v1, v2, v3] k s = (rn_1_add ns ct R K n 42 [.inr (.inr (some z)), v1, v2, v3] (.inr (.inr (some z)) :: k) s) := rfl
theorem rx_1_add_42_i {ns n ct R K s L k a} : rn_1_add ns ct R K (n + 1) 42 L (.inl a :: k) s = (rn_1_add ns ct R K n 43 L (.inl a :: .inl a :: k) s) := rfl
theorem rx_1_add_42 {ns n ct R K s L k a} : rn_1_add ns ct R K (n + 1) 42 L (.inr (.inr a) :: k) s = (rn_1_add ns ct R K n 43 L (.inr (.inr a) :: .inr (.inr a) :: k) s) := rfl
theorem rx_1_add_43 {ns n ct R K s L k a} : rn_1_add ns ct R K (n + 1) 43 L (.inr (.inr (some (some a))) :: k) s = (sy_ob a = some 1 ∧ rn_1_add ns ct R K n 46 L (sy_fv s a 4 :: k) s) := rfl
theorem rx_1_add_46 {ns n ct R K s L k} : rn_1_add ns ct R K (n + 1) 46 L k s = (rn_1_add ns ct R K n 47 L (.inl (true, 1) :: k) s) := rfl
theorem rx_1_add_47 {ns n ct R K s L k a b x y} : rn_1_add ns ct R K (n + 1) 47 L (.inl (b, y) :: .inl (a, x) :: k) s = (rn_1_add ns ct R K n 48 L (.inl (false, x + y) :: k) s) := rfl
theorem rx_1_add_48 {ns n ct R K s L k a b z} : rn_1_add ns ct R K (n + 1) 48 L (.inl (b, z) :: .inr (.inr (some (some a))) :: k) s = (sy_ob a = some 1 ∧ sy_ri b z ∧ sy_b01 false z ∧ rn_1_add ns ct R K n 51 L k (sy_up s a 4 z)) := rfl
theorem rx_1_add_51 {ns n ct R K s k z v1 v2 v3} : rn_1_add ns ct R K (n + 1) 51 [.inr (.inr (some z)), v1, v2, v3] k s = (rn_1_add ns ct R K n 52 [.inr (.inr (some z)), v1, v2, v3] (.inr (.inr (some z)) :: k) s) := rfl
theorem rx_1_add_52 {ns n ct R K s L k a} : rn_1_add ns ct R K (n + 1) 52 L (.inr (.inr (some (some a))) :: k) s = (sy_ob a = some 1 ∧ rn_1_add ns ct R K n 55 L (sy_fv s a 4 :: k) s) := rfl
theorem rx_1_add_55 {ns n ct R K s L a z} : rn_1_add ns ct R K (n + 1) 55 L [.inl (a, z)] s = (sy_ri a z ∧ sy_b01 false z ∧ R (some (.inl (true, z))) s) := rfl
def y_1_howManyEven : MethodName := ⟨"StarHide$Dips", "howManyEven", "(I)I"⟩
abbrev c_1_howManyEven : ByteArray := prog_3_method_3_code
def tc_1_howManyEven (pc : Nat) : Option sy_I := match pc with
  | 0 => some (.iconst 0, 1, 0)
  | 1 => some (.istore_n 2, 2, 0)
  | 2 => some (.iconst 0, 3, 0)
  | 3 => some (.istore_n 3, 4, 0)
  | 4 => some (.iload_n 3, 5, 0)
  | 5 => some (.aload_n 0, 6, 0)
  | 6 => some (.getfield 29, 9, 0)
  | 9 => some (.if_icmp .ge 91, 12, 100)
  | 12 => some (.aload_n 0, 13, 0)
  | 13 => some (.getfield 25, 16, 0)
  | 16 => some (.aload_n 0, 17, 0)
  | 17 => some (.getfield 11, 20, 0)
  | 20 => some (.iload_n 3, 21, 0)
  | 21 => some (.iaload, 22, 0)
  | 22 => some (.invokevirtual 32, 25, 0)
  | 25 => some (.astore 4, 27, 0)
  | 27 => some (.aload 4, 29, 0)
  | 29 => some (.ifnull 65, 32, 94)
  | 32 => some (.aload 4, 34, 0)
  | 34 => some (.aload_n 0, 35, 0)
  | 35 => some (.getfield 25, 38, 0)
  | 38 => some (.getfield 38, 41, 0)
  | 41 => some (.aload_n 0, 42, 0)
  | 42 => some (.getfield 15, 45, 0)
  | 45 => some (.iload_n 3, 46, 0)
  | 46 => some (.iaload, 47, 0)
  | 47 => some (.invokevirtual 41, 50, 0)
  | 50 => some (.istore 5, 52, 0)
  | 52 => some (.aload 4, 54, 0)
  | 54 => some (.aload_n 0, 55, 0)
  | 55 => some (.getfield 25, 58, 0)
  | 58 => some (.getfield 38, 61, 0)
  | 61 => some (.aload_n 0, 62, 0)
  | 62 => some (.getfield 18, 65, 0)
  | 65 => some (.iload_n 3, 66, 0)
  | 66 => some (.iaload, 67, 0)
  | 67 => some (.invokevirtual 41, 70, 0)
  | 70 => some (.istore 6, 72, 0)
  | 72 => some (.iload 5, 74, 0)
  | 74 => some (.iload 6, 76, 0)
  | 76 => some (.iadd, 77, 0)
  | 77 => some (.iconst 2, 78, 0)
  | 78 => some (.iload_n 1, 79, 0)
  | 79 => some (.imul, 80, 0)
  | 80 => some (.isub, 81, 0)
  | 81 => some (.invokestatic 47, 84, 0)
  | 84 => some (.aload_n 0, 85, 0)
  | 85 => some (.getfield 21, 88, 0)
  | 88 => some (.if_icmp .gt 6, 91, 94)
  | 91 => some (.iinc 2 1, 94, 0)
  | 94 => some (.iinc 3 1, 97, 0)
  | 97 => some (.goto (-93), 100, 4)
  | 100 => some (.iload_n 2, 101, 0)
  | 101 => some (.ireturn, 102, 0)
  | _ => none
theorem tv_1_howManyEven : ∀ pc i, sy_lk 102 tc_1_howManyEven pc = some i → sy_chk c_1_howManyEven (some .int) false pc i = true := sy_lk_ok 102 tc_1_howManyEven (by decide +kernel)
def Mk_1_howManyEven (ct : Nat → Option (Bool × Nat × sy_Sp)) : sy_M := (sy_lk 102 tc_1_howManyEven, ff_1, ki_1, kl_1, ct, false)
def rn_1_howManyEven (ns : Nat) (ct : Nat → Option (Bool × Nat × sy_Sp)) (R : sy_R) (K : sy_K) : Nat → sy_K := sy_run ns (Mk_1_howManyEven ct) [4] R K
theorem rx_1_howManyEven_0 {ns n ct R K s L k} : rn_1_howManyEven ns ct R K (n + 1) 0 L k s = (rn_1_howManyEven ns ct R K n 1 L (.inl (true, 0) :: k) s) := rfl
theorem rx_1_howManyEven_1 {ns n ct R K s L k b z} : rn_1_howManyEven ns ct R K (n + 1) 1 L (.inl (b, z) :: k) s = (sy_ri b z ∧ 2 < L.length ∧ rn_1_howManyEven ns ct R K n 2 (sy_sto L 2 (.inl (true, z))) k s) := rfl
theorem rx_1_howManyEven_2 {ns n ct R K s L k} : rn_1_howManyEven ns ct R K (n + 1) 2 L k s = (rn_1_howManyEven ns ct R K n 3 L (.inl (true, 0) :: k) s) := rfl
theorem rx_1_howManyEven_3 {ns n ct R K s L k b z} : rn_1_howManyEven ns ct R K (n + 1) 3 L (.inl (b, z) :: k) s = (sy_ri b z ∧ 3 < L.length ∧ K 4 (sy_sto L 3 (.inl (true, z))) k s) := rfl
theorem rx_1_howManyEven_4 {ns n ct R K s k z v0 v1 v2 v4 v5 v6} : rn_1_howManyEven ns ct R K (n + 1) 4 [v0, v1, v2, .inl (true, z), v4, v5, v6] k s = (rn_1_howManyEven ns ct R K n 5 [v0, v1, v2, .inl (true, z), v4, v5, v6] (.inl (true, z) :: k) s) := rfl
theorem rx_1_howManyEven_5 {ns n ct R K s k z v1 v2 v3 v4 v5 v6} : rn_1_howManyEven ns ct R K (n + 1) 5 [.inr (.inr (some z)), v1, v2, v3, v4, v5, v6] k s = (rn_1_howManyEven ns ct R K n 6 [.inr (.inr (some z)), v1, v2, v3, v4, v5, v6] (.inr (.inr (some z)) :: k) s) := rfl
theorem rx_1_howManyEven_6 {ns n ct R K s L k a} : rn_1_howManyEven ns ct R K (n + 1) 6 L (.inr (.inr (some (some a))) :: k) s = (sy_ob a = some 1 ∧ rn_1_howManyEven ns ct R K n 9 L (sy_fv s a 4 :: k) s) := rfl
theorem rx_1_howManyEven_9 {ns n ct R K s L k a b x y} : rn_1_howManyEven ns ct R K (n + 1) 9 L (.inl (b, y) :: .inl (a, x) :: k) s = (sy_ri a x ∧ sy_ri b y ∧ (y ≤ x → rn_1_howManyEven ns ct R K n 100 L k s) ∧ (¬ y ≤ x → rn_1_howManyEven ns ct R K n 12 L k s)) := rfl
theorem rx_1_howManyEven_12 {ns n ct R K s k z v1 v2 v3 v4 v5 v6} : rn_1_howManyEven ns ct R K (n + 1) 12 [.inr (.inr (some z)), v1, v2, v3, v4, v5, v6] k s = (rn_1_howManyEven ns ct R K n 13 [.inr (.inr (some z)), v1, v2, v3, v4, v5, v6] (.inr (.inr (some z)) :: k) s) := rfl
theorem rx_1_howManyEven_13 {ns n ct R K s L k a} : rn_1_howManyEven ns ct R K (n + 1) 13 L (.inr (.inr (some (some a))) :: k) s = (sy_ob a = some 1 ∧ rn_1_howManyEven ns ct R K n 16 L (sy_fv s a 0 :: k) s) := rfl
theorem rx_1_howManyEven_16 {ns n ct R K s k z v1 v2 v3 v4 v5 v6} : rn_1_howManyEven ns ct R K (n + 1) 16 [.inr (.inr (some z)), v1, v2, v3, v4, v5, v6] k s = (rn_1_howManyEven ns ct R K n 17 [.inr (.inr (some z)), v1, v2, v3, v4, v5, v6] (.inr (.inr (some z)) :: k) s) := rfl
theorem rx_1_howManyEven_17 {ns n ct R K s L k a} : rn_1_howManyEven ns ct R K (n + 1) 17 L (.inr (.inr (some (some a))) :: k) s = (sy_ob a = some 1 ∧ rn_1_howManyEven ns ct R K n 20 L (sy_fv s a 1 :: k) s) := rfl
theorem rx_1_howManyEven_20 {ns n ct R K s k z v0 v1 v2 v4 v5 v6} : rn_1_howManyEven ns ct R K (n + 1) 20 [v0, v1, v2, .inl (true, z), v4, v5, v6] k s = (rn_1_howManyEven ns ct R K n 21 [v0, v1, v2, .inl (true, z), v4, v5, v6] (.inl (true, z) :: k) s) := rfl
theorem rx_1_howManyEven_21 {ns n ct R K s L k a b z} : rn_1_howManyEven ns ct R K (n + 1) 21 L (.inl (b, z) :: .inr (.inr (some (some a))) :: k) s = ((0 ≤ z ∧ z < (sy_ar a).2) ∧ sy_ob a = none ∧ (sy_ar a).1 = 0 ∧ rn_1_howManyEven ns ct R K n 22 L (.inl (true, s a z.toNat) :: k) s) := rfl
theorem rx_1_howManyEven_22 {ns n ct R K s L k} : rn_1_howManyEven ns ct R K (n + 1) 22 L k s = (sy_call false (ct 32) k s fun r t => rn_1_howManyEven ns ct R K n 25 L r t) := rfl
theorem rx_1_howManyEven_25 {ns n ct R K s L k z} : rn_1_howManyEven ns ct R K (n + 1) 25 L (.inr (.inr (some z)) :: k) s = (4 < L.length ∧ rn_1_howManyEven ns ct R K n 27 (sy_sto L 4 (.inr (.inr (some z)))) k s) := rfl
theorem rx_1_howManyEven_27 {ns n ct R K s k z v0 v1 v2 v3 v5 v6} : rn_1_howManyEven ns ct R K (n + 1) 27 [v0, v1, v2, v3, .inr (.inr (some z)), v5, v6] k s = (rn_1_howManyEven ns ct R K n 29 [v0, v1, v2, v3, .inr (.inr (some z)), v5, v6] (.inr (.inr (some z)) :: k) s) := rfl
theorem rx_1_howManyEven_29_n {ns n ct R K s L k} : rn_1_howManyEven ns ct R K (n + 1) 29 L (.inr (.inr (some none)) :: k) s = (rn_1_howManyEven ns ct R K n 94 L k s) := rfl
theorem rx_1_howManyEven_29 {ns n ct R K s L k a} : rn_1_howManyEven ns ct R K (n + 1) 29 L (.inr (.inr (some (some a))) :: k) s = (rn_1_howManyEven ns ct R K n 32 L k s) := rfl
theorem rx_1_howManyEven_32 {ns n ct R K s k z v0 v1 v2 v3 v5 v6} : rn_1_howManyEven ns ct R K (n + 1) 32 [v0, v1, v2, v3, .inr (.inr (some z)), v5, v6] k s = (rn_1_howManyEven ns ct R K n 34 [v0, v1, v2, v3, .inr (.inr (some z)), v5, v6] (.inr (.inr (some z)) :: k) s) := rfl
theorem rx_1_howManyEven_34 {ns n ct R K s k z v1 v2 v3 v4 v5 v6} : rn_1_howManyEven ns ct R K (n + 1) 34 [.inr (.inr (some z)), v1, v2, v3, v4, v5, v6] k s = (rn_1_howManyEven ns ct R K n 35 [.inr (.inr (some z)), v1, v2, v3, v4, v5, v6] (.inr (.inr (some z)) :: k) s) := rfl
theorem rx_1_howManyEven_35 {ns n ct R K s L k a} : rn_1_howManyEven ns ct R K (n + 1) 35 L (.inr (.inr (some (some a))) :: k) s = (sy_ob a = some 1 ∧ rn_1_howManyEven ns ct R K n 38 L (sy_fv s a 0 :: k) s) := rfl
theorem rx_1_howManyEven_38 {ns n ct R K s L k a} : rn_1_howManyEven ns ct R K (n + 1) 38 L (.inr (.inr (some (some a))) :: k) s = (sy_ob a = some 7 ∧ rn_1_howManyEven ns ct R K n 41 L (sy_fv s a 2 :: k) s) := rfl
theorem rx_1_howManyEven_41 {ns n ct R K s k z v1 v2 v3 v4 v5 v6} : rn_1_howManyEven ns ct R K (n + 1) 41 [.inr (.inr (some z)), v1, v2, v3, v4, v5, v6] k s = (rn_1_howManyEven ns ct R K n 42 [.inr (.inr (some z)), v1, v2, v3, v4, v5, v6] (.inr (.inr (some z)) :: k) s) := rfl
theorem rx_1_howManyEven_42 {ns n ct R K s L k a} : rn_1_howManyEven ns ct R K (n + 1) 42 L (.inr (.inr (some (some a))) :: k) s = (sy_ob a = some 1 ∧ rn_1_howManyEven ns ct R K n 45 L (sy_fv s a 2 :: k) s) := rfl
theorem rx_1_howManyEven_45 {ns n ct R K s k z v0 v1 v2 v4 v5 v6} : rn_1_howManyEven ns ct R K (n + 1) 45 [v0, v1, v2, .inl (true, z), v4, v5, v6] k s = (rn_1_howManyEven ns ct R K n 46 [v0, v1, v2, .inl (true, z), v4, v5, v6] (.inl (true, z) :: k) s) := rfl
theorem rx_1_howManyEven_46 {ns n ct R K s L k a b z} : rn_1_howManyEven ns ct R K (n + 1) 46 L (.inl (b, z) :: .inr (.inr (some (some a))) :: k) s = ((0 ≤ z ∧ z < (sy_ar a).2) ∧ sy_ob a = none ∧ (sy_ar a).1 = 0 ∧ rn_1_howManyEven ns ct R K n 47 L (.inl (true, s a z.toNat) :: k) s) := rfl
theorem rx_1_howManyEven_47 {ns n ct R K s L k} : rn_1_howManyEven ns ct R K (n + 1) 47 L k s = (sy_call false (ct 41) k s fun r t => rn_1_howManyEven ns ct R K n 50 L r t) := rfl
theorem rx_1_howManyEven_50 {ns n ct R K s L k b z} : rn_1_howManyEven ns ct R K (n + 1) 50 L (.inl (b, z) :: k) s = (sy_ri b z ∧ 5 < L.length ∧ rn_1_howManyEven ns ct R K n 52 (sy_sto L 5 (.inl (true, z))) k s) := rfl
theorem rx_1_howManyEven_52 {ns n ct R K s k z v0 v1 v2 v3 v5 v6} : rn_1_howManyEven ns ct R K (n + 1) 52 [v0, v1, v2, v3, .inr (.inr (some z)), v5, v6] k s = (rn_1_howManyEven ns ct R K n 54 [v0, v1, v2, v3, .inr (.inr (some z)), v5, v6] (.inr (.inr (some z)) :: k) s) := rfl
theorem rx_1_howManyEven_54 {ns n ct R K s k z v1 v2 v3 v4 v5 v6} : rn_1_howManyEven ns ct R K (n + 1) 54 [.inr (.inr (some z)), v1, v2, v3, v4, v5, v6] k s = (rn_1_howManyEven ns ct R K n 55 [.inr (.inr (some z)), v1, v2, v3, v4, v5, v6] (.inr (.inr (some z)) :: k) s) := rfl
theorem rx_1_howManyEven_55 {ns n ct R K s L k a} : rn_1_howManyEven ns ct R K (n + 1) 55 L (.inr (.inr (some (some a))) :: k) s = (sy_ob a = some 1 ∧ rn_1_howManyEven ns ct R K n 58 L (sy_fv s a 0 :: k) s) := rfl
theorem rx_1_howManyEven_58 {ns n ct R K s L k a} : rn_1_howManyEven ns ct R K (n + 1) 58 L (.inr (.inr (some (some a))) :: k) s = (sy_ob a = some 7 ∧ rn_1_howManyEven ns ct R K n 61 L (sy_fv s a 2 :: k) s) := rfl
theorem rx_1_howManyEven_61 {ns n ct R K s k z v1 v2 v3 v4 v5 v6} : rn_1_howManyEven ns ct R K (n + 1) 61 [.inr (.inr (some z)), v1, v2, v3, v4, v5, v6] k s = (rn_1_howManyEven ns ct R K n 62 [.inr (.inr (some z)), v1, v2, v3, v4, v5, v6] (.inr (.inr (some z)) :: k) s) := rfl
theorem rx_1_howManyEven_62 {ns n ct R K s L k a} : rn_1_howManyEven ns ct R K (n + 1) 62 L (.inr (.inr (some (some a))) :: k) s = (sy_ob a = some 1 ∧ rn_1_howManyEven ns ct R K n 65 L (sy_fv s a 3 :: k) s) := rfl
theorem rx_1_howManyEven_65 {ns n ct R K s k z v0 v1 v2 v4 v5 v6} : rn_1_howManyEven ns ct R K (n + 1) 65 [v0, v1, v2, .inl (true, z), v4, v5, v6] k s = (rn_1_howManyEven ns ct R K n 66 [v0, v1, v2, .inl (true, z), v4, v5, v6] (.inl (true, z) :: k) s) := rfl
theorem rx_1_howManyEven_66 {ns n ct R K s L k a b z} : rn_1_howManyEven ns ct R K (n + 1) 66 L (.inl (b, z) :: .inr (.inr (some (some a))) :: k) s = ((0 ≤ z ∧ z < (sy_ar a).2) ∧ sy_ob a = none ∧ (sy_ar a).1 = 0 ∧ rn_1_howManyEven ns ct R K n 67 L (.inl (true, s a z.toNat) :: k) s) := rfl
theorem rx_1_howManyEven_67 {ns n ct R K s L k} : rn_1_howManyEven ns ct R K (n + 1) 67 L k s = (sy_call false (ct 41) k s fun r t => rn_1_howManyEven ns ct R K n 70 L r t) := rfl
theorem rx_1_howManyEven_70 {ns n ct R K s L k b z} : rn_1_howManyEven ns ct R K (n + 1) 70 L (.inl (b, z) :: k) s = (sy_ri b z ∧ 6 < L.length ∧ rn_1_howManyEven ns ct R K n 72 (sy_sto L 6 (.inl (true, z))) k s) := rfl
theorem rx_1_howManyEven_72 {ns n ct R K s k z v0 v1 v2 v3 v4 v6} : rn_1_howManyEven ns ct R K (n + 1) 72 [v0, v1, v2, v3, v4, .inl (true, z), v6] k s = (rn_1_howManyEven ns ct R K n 74 [v0, v1, v2, v3, v4, .inl (true, z), v6] (.inl (true, z) :: k) s) := rfl
theorem rx_1_howManyEven_74 {ns n ct R K s k z v0 v1 v2 v3 v4 v5} : rn_1_howManyEven ns ct R K (n + 1) 74 [v0, v1, v2, v3, v4, v5, .inl (true, z)] k s = (rn_1_howManyEven ns ct R K n 76 [v0, v1, v2, v3, v4, v5, .inl (true, z)] (.inl (true, z) :: k) s) := rfl
theorem rx_1_howManyEven_76 {ns n ct R K s L k a b x y} : rn_1_howManyEven ns ct R K (n + 1) 76 L (.inl (b, y) :: .inl (a, x) :: k) s = (rn_1_howManyEven ns ct R K n 77 L (.inl (false, x + y) :: k) s) := rfl
theorem rx_1_howManyEven_77 {ns n ct R K s L k} : rn_1_howManyEven ns ct R K (n + 1) 77 L k s = (rn_1_howManyEven ns ct R K n 78 L (.inl (true, 2) :: k) s) := rfl
theorem rx_1_howManyEven_78 {ns n ct R K s k z v0 v2 v3 v4 v5 v6} : rn_1_howManyEven ns ct R K (n + 1) 78 [v0, .inl (true, z), v2, v3, v4, v5, v6] k s = (rn_1_howManyEven ns ct R K n 79 [v0, .inl (true, z), v2, v3, v4, v5, v6] (.inl (true, z) :: k) s) := rfl
theorem rx_1_howManyEven_79 {ns n ct R K s L k a b x y} : rn_1_howManyEven ns ct R K (n + 1) 79 L (.inl (b, y) :: .inl (a, x) :: k) s = (rn_1_howManyEven ns ct R K n 80 L (.inl (false, x * y) :: k) s) := rfl
theorem rx_1_howManyEven_80 {ns n ct R K s L k a b x y} : rn_1_howManyEven ns ct R K (n + 1) 80 L (.inl (b, y) :: .inl (a, x) :: k) s = (rn_1_howManyEven ns ct R K n 81 L (.inl (false, x - y) :: k) s) := rfl
theorem rx_1_howManyEven_81 {ns n ct R K s L k} : rn_1_howManyEven ns ct R K (n + 1) 81 L k s = (sy_call true (ct 47) k s fun r t => rn_1_howManyEven ns ct R K n 84 L r t) := rfl
theorem rx_1_howManyEven_84 {ns n ct R K s k z v1 v2 v3 v4 v5 v6} : rn_1_howManyEven ns ct R K (n + 1) 84 [.inr (.inr (some z)), v1, v2, v3, v4, v5, v6] k s = (rn_1_howManyEven ns ct R K n 85 [.inr (.inr (some z)), v1, v2, v3, v4, v5, v6] (.inr (.inr (some z)) :: k) s) := rfl
theorem rx_1_howManyEven_85 {ns n ct R K s L k a} : rn_1_howManyEven ns ct R K (n + 1) 85 L (.inr (.inr (some (some a))) :: k) s = (sy_ob a = some 1 ∧ rn_1_howManyEven ns ct R K n 88 L (sy_fv s a 5 :: k) s) := rfl
theorem rx_1_howManyEven_88 {ns n ct R K s L k a b x y} : rn_1_howManyEven ns ct R K (n + 1) 88 L (.inl (b, y) :: .inl (a, x) :: k) s = (sy_ri a x ∧ sy_ri b y ∧ (y < x → rn_1_howManyEven ns ct R K n 94 L k s) ∧ (¬ y < x → rn_1_howManyEven ns ct R K n 91 L k s)) := rfl
theorem rx_1_howManyEven_91 {ns n ct R K s k z v0 v1 v3 v4 v5 v6} : rn_1_howManyEven ns ct R K (n + 1) 91 [v0, v1, .inl (true, z), v3, v4, v5, v6] k s = ((-2147483648 ≤ z + 1 ∧ z + 1 < 2147483648) ∧ rn_1_howManyEven ns ct R K n 94 (sy_sto [v0, v1, .inl (true, z), v3, v4, v5, v6] 2 (.inl (true, z + 1))) k s) := rfl
theorem rx_1_howManyEven_94 {ns n ct R K s k z v0 v1 v2 v4 v5 v6} : rn_1_howManyEven ns ct R K (n + 1) 94 [v0, v1, v2, .inl (true, z), v4, v5, v6] k s = ((-2147483648 ≤ z + 1 ∧ z + 1 < 2147483648) ∧ rn_1_howManyEven ns ct R K n 97 (sy_sto [v0, v1, v2, .inl (true, z), v4, v5, v6] 3 (.inl (true, z + 1))) k s) := rfl
theorem rx_1_howManyEven_97 {ns n ct R K s L k} : rn_1_howManyEven ns ct R K (n + 1) 97 L k s = (K 4 L k s) := rfl
theorem rx_1_howManyEven_100 {ns n ct R K s k z v0 v1 v3 v4 v5 v6} : rn_1_howManyEven ns ct R K (n + 1) 100 [v0, v1, .inl (true, z), v3, v4, v5, v6] k s = (rn_1_howManyEven ns ct R K n 101 [v0, v1, .inl (true, z), v3, v4, v5, v6] (.inl (true, z) :: k) s) := rfl
theorem rx_1_howManyEven_101 {ns n ct R K s L a z} : rn_1_howManyEven ns ct R K (n + 1) 101 L [.inl (a, z)] s = (sy_ri a z ∧ sy_b01 false z ∧ R (some (.inl (true, z))) s) := rfl
def y_1_square : MethodName := ⟨"StarHide$Dips", "square", "(IIZ)J"⟩
abbrev c_1_square : ByteArray := prog_3_method_4_code
def tc_1_square (pc : Nat) : Option sy_I := match pc with
  | 0 => some (.ldc2_w 53, 3, 0)
  | 3 => some (.lstore 4, 5, 0)
  | 5 => some (.iconst 0, 6, 0)
  | 6 => some (.istore 6, 8, 0)
  | 8 => some (.iload 6, 10, 0)
  | 10 => some (.aload_n 0, 11, 0)
  | 11 => some (.getfield 29, 14, 0)
  | 14 => some (.if_icmp .ge 180, 17, 194)
  | 17 => some (.aload_n 0, 18, 0)
  | 18 => some (.getfield 25, 21, 0)
  | 21 => some (.aload_n 0, 22, 0)
  | 22 => some (.getfield 11, 25, 0)
  | 25 => some (.iload 6, 27, 0)
  | 27 => some (.iaload, 28, 0)
  | 28 => some (.invokevirtual 32, 31, 0)
  | 31 => some (.astore 7, 33, 0)
  | 33 => some (.aload 7, 35, 0)
  | 35 => some (.ifnull 153, 38, 188)
  | 38 => some (.aload 7, 40, 0)
  | 40 => some (.getfield 55, 43, 0)
  | 43 => some (.iload_n 2, 44, 0)
  | 44 => some (.isub, 45, 0)
  | 45 => some (.i2l, 46, 0)
  | 46 => some (.aload 7, 48, 0)
  | 48 => some (.getfield 55, 51, 0)
  | 51 => some (.iload_n 2, 52, 0)
  | 52 => some (.isub, 53, 0)
  | 53 => some (.i2l, 54, 0)
  | 54 => some (.lmul, 55, 0)
  | 55 => some (.lstore 8, 57, 0)
  | 57 => some (.aload 7, 59, 0)
  | 59 => some (.aload_n 0, 60, 0)
  | 60 => some (.getfield 25, 63, 0)
  | 63 => some (.getfield 38, 66, 0)
  | 66 => some (.aload_n 0, 67, 0)
  | 67 => some (.getfield 15, 70, 0)
  | 70 => some (.iload 6, 72, 0)
  | 72 => some (.iaload, 73, 0)
  | 73 => some (.invokevirtual 41, 76, 0)
  | 76 => some (.iload_n 1, 77, 0)
  | 77 => some (.isub, 78, 0)
  | 78 => some (.i2l, 79, 0)
  | 79 => some (.lstore 10, 81, 0)
  | 81 => some (.aload 7, 83, 0)
  | 83 => some (.aload_n 0, 84, 0)
  | 84 => some (.getfield 25, 87, 0)
  | 87 => some (.getfield 38, 90, 0)
  | 90 => some (.aload_n 0, 91, 0)
  | 91 => some (.getfield 18, 94, 0)
  | 94 => some (.iload 6, 96, 0)
  | 96 => some (.iaload, 97, 0)
  | 97 => some (.invokevirtual 41, 100, 0)
  | 100 => some (.iload_n 1, 101, 0)
  | 101 => some (.isub, 102, 0)
  | 102 => some (.i2l, 103, 0)
  | 103 => some (.lstore 12, 105, 0)
  | 105 => some (.iload_n 3, 106, 0)
  | 106 => some (.ifCond .eq 19, 109, 125)
  | 109 => some (.lload 10, 111, 0)
  | 111 => some (.lload 10, 113, 0)
  | 113 => some (.lmul, 114, 0)
  | 114 => some (.lload 12, 116, 0)
  | 116 => some (.lload 12, 118, 0)
  | 118 => some (.lmul, 119, 0)
  | 119 => some (.invokestatic 58, 122, 0)
  | 122 => some (.goto 16, 125, 138)
  | 125 => some (.lload 10, 127, 0)
  | 127 => some (.lload 10, 129, 0)
  | 129 => some (.lmul, 130, 0)
  | 130 => some (.lload 12, 132, 0)
  | 132 => some (.lload 12, 134, 0)
  | 134 => some (.lmul, 135, 0)
  | 135 => some (.invokestatic 62, 138, 0)
  | 138 => some (.lstore 14, 140, 0)
  | 140 => some (.lload 4, 142, 0)
  | 142 => some (.ldc2_w 53, 145, 0)
  | 145 => some (.lcmp, 146, 0)
  | 146 => some (.ifCond .ne 13, 149, 159)
  | 149 => some (.lload 8, 151, 0)
  | 151 => some (.lload 14, 153, 0)
  | 153 => some (.ladd, 154, 0)
  | 154 => some (.lstore 4, 156, 0)
  | 156 => some (.goto 32, 159, 188)
  | 159 => some (.iload_n 3, 160, 0)
  | 160 => some (.ifCond .eq 16, 163, 176)
  | 163 => some (.lload 4, 165, 0)
  | 165 => some (.lload 8, 167, 0)
  | 167 => some (.lload 14, 169, 0)
  | 169 => some (.ladd, 170, 0)
  | 170 => some (.invokestatic 58, 173, 0)
  | 173 => some (.goto 13, 176, 186)
  | 176 => some (.lload 4, 178, 0)
  | 178 => some (.lload 8, 180, 0)
  | 180 => some (.lload 14, 182, 0)
  | 182 => some (.ladd, 183, 0)
  | 183 => some (.invokestatic 62, 186, 0)
  | 186 => some (.lstore 4, 188, 0)
  | 188 => some (.iinc 6 1, 191, 0)
  | 191 => some (.goto (-183), 194, 8)
  | 194 => some (.lload 4, 196, 0)
  | 196 => some (.lreturn, 197, 0)
  | _ => none
theorem tv_1_square : ∀ pc i, sy_lk 197 tc_1_square pc = some i → sy_chk c_1_square (some .long) false pc i = true := sy_lk_ok 197 tc_1_square (by decide +kernel)
def Mk_1_square (ct : Nat → Option (Bool × Nat × sy_Sp)) : sy_M := (sy_lk 197 tc_1_square, ff_1, ki_1, kl_1, ct, false)
def rn_1_square (ns : Nat) (ct : Nat → Option (Bool × Nat × sy_Sp)) (R : sy_R) (K : sy_K) : Nat → sy_K := sy_run ns (Mk_1_square ct) [8] R K
theorem rx_1_square_0 {ns n ct R K s L k} : rn_1_square ns ct R K (n + 1) 0 L k s = (rn_1_square ns ct R K n 3 L (.inr (.inl (true, -1)) :: k) s) := rfl
theorem rx_1_square_3 {ns n ct R K s L k b z} : rn_1_square ns ct R K (n + 1) 3 L (.inr (.inl (b, z)) :: k) s = (sy_rl b z ∧ 5 < L.length ∧ rn_1_square ns ct R K n 5 (sy_gone (sy_sto L 4 (.inr (.inl (true, z)))) 5) k s) := rfl
theorem rx_1_square_5 {ns n ct R K s L k} : rn_1_square ns ct R K (n + 1) 5 L k s = (rn_1_square ns ct R K n 6 L (.inl (true, 0) :: k) s) := rfl
theorem rx_1_square_6 {ns n ct R K s L k b z} : rn_1_square ns ct R K (n + 1) 6 L (.inl (b, z) :: k) s = (sy_ri b z ∧ 6 < L.length ∧ K 8 (sy_sto L 6 (.inl (true, z))) k s) := rfl
theorem rx_1_square_8 {ns n ct R K s k z v0 v1 v2 v3 v4 v5 v7 v8 v9 v10 v11 v12 v13 v14 v15} : rn_1_square ns ct R K (n + 1) 8 [v0, v1, v2, v3, v4, v5, .inl (true, z), v7, v8, v9, v10, v11, v12, v13, v14, v15] k s = (rn_1_square ns ct R K n 10 [v0, v1, v2, v3, v4, v5, .inl (true, z), v7, v8, v9, v10, v11, v12, v13, v14, v15] (.inl (true, z) :: k) s) := rfl
theorem rx_1_square_10 {ns n ct R K s k z v1 v2 v3 v4 v5 v6 v7 v8 v9 v10 v11 v12 v13 v14 v15} : rn_1_square ns ct R K (n + 1) 10 [.inr (.inr (some z)), v1, v2, v3, v4, v5, v6, v7, v8, v9, v10, v11, v12, v13, v14, v15] k s = (rn_1_square ns ct R K n 11 [.inr (.inr (some z)), v1, v2, v3, v4, v5, v6, v7, v8, v9, v10, v11, v12, v13, v14, v15] (.inr (.inr (some z)) :: k) s) := rfl
theorem rx_1_square_11 {ns n ct R K s L k a} : rn_1_square ns ct R K (n + 1) 11 L (.inr (.inr (some (some a))) :: k) s = (sy_ob a = some 1 ∧ rn_1_square ns ct R K n 14 L (sy_fv s a 4 :: k) s) := rfl
theorem rx_1_square_14 {ns n ct R K s L k a b x y} : rn_1_square ns ct R K (n + 1) 14 L (.inl (b, y) :: .inl (a, x) :: k) s = (sy_ri a x ∧ sy_ri b y ∧ (y ≤ x → rn_1_square ns ct R K n 194 L k s) ∧ (¬ y ≤ x → rn_1_square ns ct R K n 17 L k s)) := rfl
theorem rx_1_square_17 {ns n ct R K s k z v1 v2 v3 v4 v5 v6 v7 v8 v9 v10 v11 v12 v13 v14 v15} : rn_1_square ns ct R K (n + 1) 17 [.inr (.inr (some z)), v1, v2, v3, v4, v5, v6, v7, v8, v9, v10, v11, v12, v13, v14, v15] k s = (rn_1_square ns ct R K n 18 [.inr (.inr (some z)), v1, v2, v3, v4, v5, v6, v7, v8, v9, v10, v11, v12, v13, v14, v15] (.inr (.inr (some z)) :: k) s) := rfl
theorem rx_1_square_18 {ns n ct R K s L k a} : rn_1_square ns ct R K (n + 1) 18 L (.inr (.inr (some (some a))) :: k) s = (sy_ob a = some 1 ∧ rn_1_square ns ct R K n 21 L (sy_fv s a 0 :: k) s) := rfl
theorem rx_1_square_21 {ns n ct R K s k z v1 v2 v3 v4 v5 v6 v7 v8 v9 v10 v11 v12 v13 v14 v15} : rn_1_square ns ct R K (n + 1) 21 [.inr (.inr (some z)), v1, v2, v3, v4, v5, v6, v7, v8, v9, v10, v11, v12, v13, v14, v15] k s = (rn_1_square ns ct R K n 22 [.inr (.inr (some z)), v1, v2, v3, v4, v5, v6, v7, v8, v9, v10, v11, v12, v13, v14, v15] (.inr (.inr (some z)) :: k) s) := rfl
theorem rx_1_square_22 {ns n ct R K s L k a} : rn_1_square ns ct R K (n + 1) 22 L (.inr (.inr (some (some a))) :: k) s = (sy_ob a = some 1 ∧ rn_1_square ns ct R K n 25 L (sy_fv s a 1 :: k) s) := rfl
theorem rx_1_square_25 {ns n ct R K s k z v0 v1 v2 v3 v4 v5 v7 v8 v9 v10 v11 v12 v13 v14 v15} : rn_1_square ns ct R K (n + 1) 25 [v0, v1, v2, v3, v4, v5, .inl (true, z), v7, v8, v9, v10, v11, v12, v13, v14, v15] k s = (rn_1_square ns ct R K n 27 [v0, v1, v2, v3, v4, v5, .inl (true, z), v7, v8, v9, v10, v11, v12, v13, v14, v15] (.inl (true, z) :: k) s) := rfl
theorem rx_1_square_27 {ns n ct R K s L k a b z} : rn_1_square ns ct R K (n + 1) 27 L (.inl (b, z) :: .inr (.inr (some (some a))) :: k) s = ((0 ≤ z ∧ z < (sy_ar a).2) ∧ sy_ob a = none ∧ (sy_ar a).1 = 0 ∧ rn_1_square ns ct R K n 28 L (.inl (true, s a z.toNat) :: k) s) := rfl
theorem rx_1_square_28 {ns n ct R K s L k} : rn_1_square ns ct R K (n + 1) 28 L k s = (sy_call false (ct 32) k s fun r t => rn_1_square ns ct R K n 31 L r t) := rfl
theorem rx_1_square_31 {ns n ct R K s L k z} : rn_1_square ns ct R K (n + 1) 31 L (.inr (.inr (some z)) :: k) s = (7 < L.length ∧ rn_1_square ns ct R K n 33 (sy_sto L 7 (.inr (.inr (some z)))) k s) := rfl
theorem rx_1_square_33 {ns n ct R K s k z v0 v1 v2 v3 v4 v5 v6 v8 v9 v10 v11 v12 v13 v14 v15} : rn_1_square ns ct R K (n + 1) 33 [v0, v1, v2, v3, v4, v5, v6, .inr (.inr (some z)), v8, v9, v10, v11, v12, v13, v14, v15] k s = (rn_1_square ns ct R K n 35 [v0, v1, v2, v3, v4, v5, v6, .inr (.inr (some z)), v8, v9, v10, v11, v12, v13, v14, v15] (.inr (.inr (some z)) :: k) s) := rfl
theorem rx_1_square_35_n {ns n ct R K s L k} : rn_1_square ns ct R K (n + 1) 35 L (.inr (.inr (some none)) :: k) s = (rn_1_square ns ct R K n 188 L k s) := rfl
theorem rx_1_square_35 {ns n ct R K s L k a} : rn_1_square ns ct R K (n + 1) 35 L (.inr (.inr (some (some a))) :: k) s = (rn_1_square ns ct R K n 38 L k s) := rfl
theorem rx_1_square_38 {ns n ct R K s k z v0 v1 v2 v3 v4 v5 v6 v8 v9 v10 v11 v12 v13 v14 v15} : rn_1_square ns ct R K (n + 1) 38 [v0, v1, v2, v3, v4, v5, v6, .inr (.inr (some z)), v8, v9, v10, v11, v12, v13, v14, v15] k s = (rn_1_square ns ct R K n 40 [v0, v1, v2, v3, v4, v5, v6, .inr (.inr (some z)), v8, v9, v10, v11, v12, v13, v14, v15] (.inr (.inr (some z)) :: k) s) := rfl
theorem rx_1_square_40 {ns n ct R K s L k a} : rn_1_square ns ct R K (n + 1) 40 L (.inr (.inr (some (some a))) :: k) s = (sy_ob a = some 6 ∧ rn_1_square ns ct R K n 43 L (sy_fv s a 0 :: k) s) := rfl
theorem rx_1_square_43 {ns n ct R K s k z v0 v1 v3 v4 v5 v6 v7 v8 v9 v10 v11 v12 v13 v14 v15} : rn_1_square ns ct R K (n + 1) 43 [v0, v1, .inl (true, z), v3, v4, v5, v6, v7, v8, v9, v10, v11, v12, v13, v14, v15] k s = (rn_1_square ns ct R K n 44 [v0, v1, .inl (true, z), v3, v4, v5, v6, v7, v8, v9, v10, v11, v12, v13, v14, v15] (.inl (true, z) :: k) s) := rfl
theorem rx_1_square_44 {ns n ct R K s L k a b x y} : rn_1_square ns ct R K (n + 1) 44 L (.inl (b, y) :: .inl (a, x) :: k) s = (rn_1_square ns ct R K n 45 L (.inl (false, x - y) :: k) s) := rfl
theorem rx_1_square_45 {ns n ct R K s L k a x} : rn_1_square ns ct R K (n + 1) 45 L (.inl (a, x) :: k) s = (sy_ri a x ∧ rn_1_square ns ct R K n 46 L (.inr (.inl (true, x)) :: k) s) := rfl
theorem rx_1_square_46 {ns n ct R K s k z v0 v1 v2 v3 v4 v5 v6 v8 v9 v10 v11 v12 v13 v14 v15} : rn_1_square ns ct R K (n + 1) 46 [v0, v1, v2, v3, v4, v5, v6, .inr (.inr (some z)), v8, v9, v10, v11, v12, v13, v14, v15] k s = (rn_1_square ns ct R K n 48 [v0, v1, v2, v3, v4, v5, v6, .inr (.inr (some z)), v8, v9, v10, v11, v12, v13, v14, v15] (.inr (.inr (some z)) :: k) s) := rfl
theorem rx_1_square_48 {ns n ct R K s L k a} : rn_1_square ns ct R K (n + 1) 48 L (.inr (.inr (some (some a))) :: k) s = (sy_ob a = some 6 ∧ rn_1_square ns ct R K n 51 L (sy_fv s a 0 :: k) s) := rfl
theorem rx_1_square_51 {ns n ct R K s k z v0 v1 v3 v4 v5 v6 v7 v8 v9 v10 v11 v12 v13 v14 v15} : rn_1_square ns ct R K (n + 1) 51 [v0, v1, .inl (true, z), v3, v4, v5, v6, v7, v8, v9, v10, v11, v12, v13, v14, v15] k s = (rn_1_square ns ct R K n 52 [v0, v1, .inl (true, z), v3, v4, v5, v6, v7, v8, v9, v10, v11, v12, v13, v14, v15] (.inl (true, z) :: k) s) := rfl
theorem rx_1_square_52 {ns n ct R K s L k a b x y} : rn_1_square ns ct R K (n + 1) 52 L (.inl (b, y) :: .inl (a, x) :: k) s = (rn_1_square ns ct R K n 53 L (.inl (false, x - y) :: k) s) := rfl
theorem rx_1_square_53 {ns n ct R K s L k a x} : rn_1_square ns ct R K (n + 1) 53 L (.inl (a, x) :: k) s = (sy_ri a x ∧ rn_1_square ns ct R K n 54 L (.inr (.inl (true, x)) :: k) s) := rfl
theorem rx_1_square_54 {ns n ct R K s L k a b x y} : rn_1_square ns ct R K (n + 1) 54 L (.inr (.inl (b, y)) :: .inr (.inl (a, x)) :: k) s = (rn_1_square ns ct R K n 55 L (.inr (.inl (false, x * y)) :: k) s) := rfl
theorem rx_1_square_55 {ns n ct R K s L k b z} : rn_1_square ns ct R K (n + 1) 55 L (.inr (.inl (b, z)) :: k) s = (sy_rl b z ∧ 9 < L.length ∧ rn_1_square ns ct R K n 57 (sy_gone (sy_sto L 8 (.inr (.inl (true, z)))) 9) k s) := rfl
theorem rx_1_square_57 {ns n ct R K s k z v0 v1 v2 v3 v4 v5 v6 v8 v9 v10 v11 v12 v13 v14 v15} : rn_1_square ns ct R K (n + 1) 57 [v0, v1, v2, v3, v4, v5, v6, .inr (.inr (some z)), v8, v9, v10, v11, v12, v13, v14, v15] k s = (rn_1_square ns ct R K n 59 [v0, v1, v2, v3, v4, v5, v6, .inr (.inr (some z)), v8, v9, v10, v11, v12, v13, v14, v15] (.inr (.inr (some z)) :: k) s) := rfl
theorem rx_1_square_59 {ns n ct R K s k z v1 v2 v3 v4 v5 v6 v7 v8 v9 v10 v11 v12 v13 v14 v15} : rn_1_square ns ct R K (n + 1) 59 [.inr (.inr (some z)), v1, v2, v3, v4, v5, v6, v7, v8, v9, v10, v11, v12, v13, v14, v15] k s = (rn_1_square ns ct R K n 60 [.inr (.inr (some z)), v1, v2, v3, v4, v5, v6, v7, v8, v9, v10, v11, v12, v13, v14, v15] (.inr (.inr (some z)) :: k) s) := rfl
theorem rx_1_square_60 {ns n ct R K s L k a} : rn_1_square ns ct R K (n + 1) 60 L (.inr (.inr (some (some a))) :: k) s = (sy_ob a = some 1 ∧ rn_1_square ns ct R K n 63 L (sy_fv s a 0 :: k) s) := rfl
theorem rx_1_square_63 {ns n ct R K s L k a} : rn_1_square ns ct R K (n + 1) 63 L (.inr (.inr (some (some a))) :: k) s = (sy_ob a = some 7 ∧ rn_1_square ns ct R K n 66 L (sy_fv s a 2 :: k) s) := rfl
theorem rx_1_square_66 {ns n ct R K s k z v1 v2 v3 v4 v5 v6 v7 v8 v9 v10 v11 v12 v13 v14 v15} : rn_1_square ns ct R K (n + 1) 66 [.inr (.inr (some z)), v1, v2, v3, v4, v5, v6, v7, v8, v9, v10, v11, v12, v13, v14, v15] k s = (rn_1_square ns ct R K n 67 [.inr (.inr (some z)), v1, v2, v3, v4, v5, v6, v7, v8, v9, v10, v11, v12, v13, v14, v15] (.inr (.inr (some z)) :: k) s) := rfl
theorem rx_1_square_67 {ns n ct R K s L k a} : rn_1_square ns ct R K (n + 1) 67 L (.inr (.inr (some (some a))) :: k) s = (sy_ob a = some 1 ∧ rn_1_square ns ct R K n 70 L (sy_fv s a 2 :: k) s) := rfl
theorem rx_1_square_70 {ns n ct R K s k z v0 v1 v2 v3 v4 v5 v7 v8 v9 v10 v11 v12 v13 v14 v15} : rn_1_square ns ct R K (n + 1) 70 [v0, v1, v2, v3, v4, v5, .inl (true, z), v7, v8, v9, v10, v11, v12, v13, v14, v15] k s = (rn_1_square ns ct R K n 72 [v0, v1, v2, v3, v4, v5, .inl (true, z), v7, v8, v9, v10, v11, v12, v13, v14, v15] (.inl (true, z) :: k) s) := rfl
theorem rx_1_square_72 {ns n ct R K s L k a b z} : rn_1_square ns ct R K (n + 1) 72 L (.inl (b, z) :: .inr (.inr (some (some a))) :: k) s = ((0 ≤ z ∧ z < (sy_ar a).2) ∧ sy_ob a = none ∧ (sy_ar a).1 = 0 ∧ rn_1_square ns ct R K n 73 L (.inl (true, s a z.toNat) :: k) s) := rfl
theorem rx_1_square_73 {ns n ct R K s L k} : rn_1_square ns ct R K (n + 1) 73 L k s = (sy_call false (ct 41) k s fun r t => rn_1_square ns ct R K n 76 L r t) := rfl
theorem rx_1_square_76 {ns n ct R K s k z v0 v2 v3 v4 v5 v6 v7 v8 v9 v10 v11 v12 v13 v14 v15} : rn_1_square ns ct R K (n + 1) 76 [v0, .inl (true, z), v2, v3, v4, v5, v6, v7, v8, v9, v10, v11, v12, v13, v14, v15] k s = (rn_1_square ns ct R K n 77 [v0, .inl (true, z), v2, v3, v4, v5, v6, v7, v8, v9, v10, v11, v12, v13, v14, v15] (.inl (true, z) :: k) s) := rfl
theorem rx_1_square_77 {ns n ct R K s L k a b x y} : rn_1_square ns ct R K (n + 1) 77 L (.inl (b, y) :: .inl (a, x) :: k) s = (rn_1_square ns ct R K n 78 L (.inl (false, x - y) :: k) s) := rfl
theorem rx_1_square_78 {ns n ct R K s L k a x} : rn_1_square ns ct R K (n + 1) 78 L (.inl (a, x) :: k) s = (sy_ri a x ∧ rn_1_square ns ct R K n 79 L (.inr (.inl (true, x)) :: k) s) := rfl
theorem rx_1_square_79 {ns n ct R K s L k b z} : rn_1_square ns ct R K (n + 1) 79 L (.inr (.inl (b, z)) :: k) s = (sy_rl b z ∧ 11 < L.length ∧ rn_1_square ns ct R K n 81 (sy_gone (sy_sto L 10 (.inr (.inl (true, z)))) 11) k s) := rfl
theorem rx_1_square_81 {ns n ct R K s k z v0 v1 v2 v3 v4 v5 v6 v8 v9 v10 v11 v12 v13 v14 v15} : rn_1_square ns ct R K (n + 1) 81 [v0, v1, v2, v3, v4, v5, v6, .inr (.inr (some z)), v8, v9, v10, v11, v12, v13, v14, v15] k s = (rn_1_square ns ct R K n 83 [v0, v1, v2, v3, v4, v5, v6, .inr (.inr (some z)), v8, v9, v10, v11, v12, v13, v14, v15] (.inr (.inr (some z)) :: k) s) := rfl
theorem rx_1_square_83 {ns n ct R K s k z v1 v2 v3 v4 v5 v6 v7 v8 v9 v10 v11 v12 v13 v14 v15} : rn_1_square ns ct R K (n + 1) 83 [.inr (.inr (some z)), v1, v2, v3, v4, v5, v6, v7, v8, v9, v10, v11, v12, v13, v14, v15] k s = (rn_1_square ns ct R K n 84 [.inr (.inr (some z)), v1, v2, v3, v4, v5, v6, v7, v8, v9, v10, v11, v12, v13, v14, v15] (.inr (.inr (some z)) :: k) s) := rfl
theorem rx_1_square_84 {ns n ct R K s L k a} : rn_1_square ns ct R K (n + 1) 84 L (.inr (.inr (some (some a))) :: k) s = (sy_ob a = some 1 ∧ rn_1_square ns ct R K n 87 L (sy_fv s a 0 :: k) s) := rfl
theorem rx_1_square_87 {ns n ct R K s L k a} : rn_1_square ns ct R K (n + 1) 87 L (.inr (.inr (some (some a))) :: k) s = (sy_ob a = some 7 ∧ rn_1_square ns ct R K n 90 L (sy_fv s a 2 :: k) s) := rfl
theorem rx_1_square_90 {ns n ct R K s k z v1 v2 v3 v4 v5 v6 v7 v8 v9 v10 v11 v12 v13 v14 v15} : rn_1_square ns ct R K (n + 1) 90 [.inr (.inr (some z)), v1, v2, v3, v4, v5, v6, v7, v8, v9, v10, v11, v12, v13, v14, v15] k s = (rn_1_square ns ct R K n 91 [.inr (.inr (some z)), v1, v2, v3, v4, v5, v6, v7, v8, v9, v10, v11, v12, v13, v14, v15] (.inr (.inr (some z)) :: k) s) := rfl
theorem rx_1_square_91 {ns n ct R K s L k a} : rn_1_square ns ct R K (n + 1) 91 L (.inr (.inr (some (some a))) :: k) s = (sy_ob a = some 1 ∧ rn_1_square ns ct R K n 94 L (sy_fv s a 3 :: k) s) := rfl
theorem rx_1_square_94 {ns n ct R K s k z v0 v1 v2 v3 v4 v5 v7 v8 v9 v10 v11 v12 v13 v14 v15} : rn_1_square ns ct R K (n + 1) 94 [v0, v1, v2, v3, v4, v5, .inl (true, z), v7, v8, v9, v10, v11, v12, v13, v14, v15] k s = (rn_1_square ns ct R K n 96 [v0, v1, v2, v3, v4, v5, .inl (true, z), v7, v8, v9, v10, v11, v12, v13, v14, v15] (.inl (true, z) :: k) s) := rfl
theorem rx_1_square_96 {ns n ct R K s L k a b z} : rn_1_square ns ct R K (n + 1) 96 L (.inl (b, z) :: .inr (.inr (some (some a))) :: k) s = ((0 ≤ z ∧ z < (sy_ar a).2) ∧ sy_ob a = none ∧ (sy_ar a).1 = 0 ∧ rn_1_square ns ct R K n 97 L (.inl (true, s a z.toNat) :: k) s) := rfl
theorem rx_1_square_97 {ns n ct R K s L k} : rn_1_square ns ct R K (n + 1) 97 L k s = (sy_call false (ct 41) k s fun r t => rn_1_square ns ct R K n 100 L r t) := rfl
theorem rx_1_square_100 {ns n ct R K s k z v0 v2 v3 v4 v5 v6 v7 v8 v9 v10 v11 v12 v13 v14 v15} : rn_1_square ns ct R K (n + 1) 100 [v0, .inl (true, z), v2, v3, v4, v5, v6, v7, v8, v9, v10, v11, v12, v13, v14, v15] k s = (rn_1_square ns ct R K n 101 [v0, .inl (true, z), v2, v3, v4, v5, v6, v7, v8, v9, v10, v11, v12, v13, v14, v15] (.inl (true, z) :: k) s) := rfl
theorem rx_1_square_101 {ns n ct R K s L k a b x y} : rn_1_square ns ct R K (n + 1) 101 L (.inl (b, y) :: .inl (a, x) :: k) s = (rn_1_square ns ct R K n 102 L (.inl (false, x - y) :: k) s) := rfl
theorem rx_1_square_102 {ns n ct R K s L k a x} : rn_1_square ns ct R K (n + 1) 102 L (.inl (a, x) :: k) s = (sy_ri a x ∧ rn_1_square ns ct R K n 103 L (.inr (.inl (true, x)) :: k) s) := rfl
theorem rx_1_square_103 {ns n ct R K s L k b z} : rn_1_square ns ct R K (n + 1) 103 L (.inr (.inl (b, z)) :: k) s = (sy_rl b z ∧ 13 < L.length ∧ rn_1_square ns ct R K n 105 (sy_gone (sy_sto L 12 (.inr (.inl (true, z)))) 13) k s) := rfl
theorem rx_1_square_105 {ns n ct R K s k z v0 v1 v2 v4 v5 v6 v7 v8 v9 v10 v11 v12 v13 v14 v15} : rn_1_square ns ct R K (n + 1) 105 [v0, v1, v2, .inl (true, z), v4, v5, v6, v7, v8, v9, v10, v11, v12, v13, v14, v15] k s = (rn_1_square ns ct R K n 106 [v0, v1, v2, .inl (true, z), v4, v5, v6, v7, v8, v9, v10, v11, v12, v13, v14, v15] (.inl (true, z) :: k) s) := rfl
theorem rx_1_square_106 {ns n ct R K s L k a x} : rn_1_square ns ct R K (n + 1) 106 L (.inl (a, x) :: k) s = (sy_ri a x ∧ (x = 0 → rn_1_square ns ct R K n 125 L k s) ∧ (¬ x = 0 → rn_1_square ns ct R K n 109 L k s)) := rfl
theorem rx_1_square_109 {ns n ct R K s k z v0 v1 v2 v3 v4 v5 v6 v7 v8 v9 v11 v12 v13 v14 v15} : rn_1_square ns ct R K (n + 1) 109 [v0, v1, v2, v3, v4, v5, v6, v7, v8, v9, .inr (.inl (true, z)), v11, v12, v13, v14, v15] k s = (rn_1_square ns ct R K n 111 [v0, v1, v2, v3, v4, v5, v6, v7, v8, v9, .inr (.inl (true, z)), v11, v12, v13, v14, v15] (.inr (.inl (true, z)) :: k) s) := rfl
theorem rx_1_square_111 {ns n ct R K s k z v0 v1 v2 v3 v4 v5 v6 v7 v8 v9 v11 v12 v13 v14 v15} : rn_1_square ns ct R K (n + 1) 111 [v0, v1, v2, v3, v4, v5, v6, v7, v8, v9, .inr (.inl (true, z)), v11, v12, v13, v14, v15] k s = (rn_1_square ns ct R K n 113 [v0, v1, v2, v3, v4, v5, v6, v7, v8, v9, .inr (.inl (true, z)), v11, v12, v13, v14, v15] (.inr (.inl (true, z)) :: k) s) := rfl
theorem rx_1_square_113 {ns n ct R K s L k a b x y} : rn_1_square ns ct R K (n + 1) 113 L (.inr (.inl (b, y)) :: .inr (.inl (a, x)) :: k) s = (rn_1_square ns ct R K n 114 L (.inr (.inl (false, x * y)) :: k) s) := rfl
theorem rx_1_square_114 {ns n ct R K s k z v0 v1 v2 v3 v4 v5 v6 v7 v8 v9 v10 v11 v13 v14 v15} : rn_1_square ns ct R K (n + 1) 114 [v0, v1, v2, v3, v4, v5, v6, v7, v8, v9, v10, v11, .inr (.inl (true, z)), v13, v14, v15] k s = (rn_1_square ns ct R K n 116 [v0, v1, v2, v3, v4, v5, v6, v7, v8, v9, v10, v11, .inr (.inl (true, z)), v13, v14, v15] (.inr (.inl (true, z)) :: k) s) := rfl
theorem rx_1_square_116 {ns n ct R K s k z v0 v1 v2 v3 v4 v5 v6 v7 v8 v9 v10 v11 v13 v14 v15} : rn_1_square ns ct R K (n + 1) 116 [v0, v1, v2, v3, v4, v5, v6, v7, v8, v9, v10, v11, .inr (.inl (true, z)), v13, v14, v15] k s = (rn_1_square ns ct R K n 118 [v0, v1, v2, v3, v4, v5, v6, v7, v8, v9, v10, v11, .inr (.inl (true, z)), v13, v14, v15] (.inr (.inl (true, z)) :: k) s) := rfl
theorem rx_1_square_118 {ns n ct R K s L k a b x y} : rn_1_square ns ct R K (n + 1) 118 L (.inr (.inl (b, y)) :: .inr (.inl (a, x)) :: k) s = (rn_1_square ns ct R K n 119 L (.inr (.inl (false, x * y)) :: k) s) := rfl
theorem rx_1_square_119 {ns n ct R K s L k} : rn_1_square ns ct R K (n + 1) 119 L k s = (sy_call true (ct 58) k s fun r t => rn_1_square ns ct R K n 122 L r t) := rfl
theorem rx_1_square_122 {ns n ct R K s L k} : rn_1_square ns ct R K (n + 1) 122 L k s = (rn_1_square ns ct R K n 138 L k s) := rfl
theorem rx_1_square_125 {ns n ct R K s k z v0 v1 v2 v3 v4 v5 v6 v7 v8 v9 v11 v12 v13 v14 v15} : rn_1_square ns ct R K (n + 1) 125 [v0, v1, v2, v3, v4, v5, v6, v7, v8, v9, .inr (.inl (true, z)), v11, v12, v13, v14, v15] k s = (rn_1_square ns ct R K n 127 [v0, v1, v2, v3, v4, v5, v6, v7, v8, v9, .inr (.inl (true, z)), v11, v12, v13, v14, v15] (.inr (.inl (true, z)) :: k) s) := rfl
theorem rx_1_square_127 {ns n ct R K s k z v0 v1 v2 v3 v4 v5 v6 v7 v8 v9 v11 v12 v13 v14 v15} : rn_1_square ns ct R K (n + 1) 127 [v0, v1, v2, v3, v4, v5, v6, v7, v8, v9, .inr (.inl (true, z)), v11, v12, v13, v14, v15] k s = (rn_1_square ns ct R K n 129 [v0, v1, v2, v3, v4, v5, v6, v7, v8, v9, .inr (.inl (true, z)), v11, v12, v13, v14, v15] (.inr (.inl (true, z)) :: k) s) := rfl
theorem rx_1_square_129 {ns n ct R K s L k a b x y} : rn_1_square ns ct R K (n + 1) 129 L (.inr (.inl (b, y)) :: .inr (.inl (a, x)) :: k) s = (rn_1_square ns ct R K n 130 L (.inr (.inl (false, x * y)) :: k) s) := rfl
theorem rx_1_square_130 {ns n ct R K s k z v0 v1 v2 v3 v4 v5 v6 v7 v8 v9 v10 v11 v13 v14 v15} : rn_1_square ns ct R K (n + 1) 130 [v0, v1, v2, v3, v4, v5, v6, v7, v8, v9, v10, v11, .inr (.inl (true, z)), v13, v14, v15] k s = (rn_1_square ns ct R K n 132 [v0, v1, v2, v3, v4, v5, v6, v7, v8, v9, v10, v11, .inr (.inl (true, z)), v13, v14, v15] (.inr (.inl (true, z)) :: k) s) := rfl
theorem rx_1_square_132 {ns n ct R K s k z v0 v1 v2 v3 v4 v5 v6 v7 v8 v9 v10 v11 v13 v14 v15} : rn_1_square ns ct R K (n + 1) 132 [v0, v1, v2, v3, v4, v5, v6, v7, v8, v9, v10, v11, .inr (.inl (true, z)), v13, v14, v15] k s = (rn_1_square ns ct R K n 134 [v0, v1, v2, v3, v4, v5, v6, v7, v8, v9, v10, v11, .inr (.inl (true, z)), v13, v14, v15] (.inr (.inl (true, z)) :: k) s) := rfl
theorem rx_1_square_134 {ns n ct R K s L k a b x y} : rn_1_square ns ct R K (n + 1) 134 L (.inr (.inl (b, y)) :: .inr (.inl (a, x)) :: k) s = (rn_1_square ns ct R K n 135 L (.inr (.inl (false, x * y)) :: k) s) := rfl
theorem rx_1_square_135 {ns n ct R K s L k} : rn_1_square ns ct R K (n + 1) 135 L k s = (sy_call true (ct 62) k s fun r t => rn_1_square ns ct R K n 138 L r t) := rfl
theorem rx_1_square_138 {ns n ct R K s L k b z} : rn_1_square ns ct R K (n + 1) 138 L (.inr (.inl (b, z)) :: k) s = (sy_rl b z ∧ 15 < L.length ∧ rn_1_square ns ct R K n 140 (sy_gone (sy_sto L 14 (.inr (.inl (true, z)))) 15) k s) := rfl
theorem rx_1_square_140 {ns n ct R K s k z v0 v1 v2 v3 v5 v6 v7 v8 v9 v10 v11 v12 v13 v14 v15} : rn_1_square ns ct R K (n + 1) 140 [v0, v1, v2, v3, .inr (.inl (true, z)), v5, v6, v7, v8, v9, v10, v11, v12, v13, v14, v15] k s = (rn_1_square ns ct R K n 142 [v0, v1, v2, v3, .inr (.inl (true, z)), v5, v6, v7, v8, v9, v10, v11, v12, v13, v14, v15] (.inr (.inl (true, z)) :: k) s) := rfl
theorem rx_1_square_142 {ns n ct R K s L k} : rn_1_square ns ct R K (n + 1) 142 L k s = (rn_1_square ns ct R K n 145 L (.inr (.inl (true, -1)) :: k) s) := rfl
theorem rx_1_square_145 {ns n ct R K s L k a b x y} : rn_1_square ns ct R K (n + 1) 145 L (.inr (.inl (b, y)) :: .inr (.inl (a, x)) :: k) s = (sy_rl a x ∧ sy_rl b y ∧ rn_1_square ns ct R K n 146 L (.inl (true, sy_cmp x y) :: k) s) := rfl
theorem rx_1_square_146 {ns n ct R K s L k a x} : rn_1_square ns ct R K (n + 1) 146 L (.inl (a, x) :: k) s = (sy_ri a x ∧ (¬ x = 0 → rn_1_square ns ct R K n 159 L k s) ∧ (x = 0 → rn_1_square ns ct R K n 149 L k s)) := rfl
theorem rx_1_square_149 {ns n ct R K s k z v0 v1 v2 v3 v4 v5 v6 v7 v9 v10 v11 v12 v13 v14 v15} : rn_1_square ns ct R K (n + 1) 149 [v0, v1, v2, v3, v4, v5, v6, v7, .inr (.inl (true, z)), v9, v10, v11, v12, v13, v14, v15] k s = (rn_1_square ns ct R K n 151 [v0, v1, v2, v3, v4, v5, v6, v7, .inr (.inl (true, z)), v9, v10, v11, v12, v13, v14, v15] (.inr (.inl (true, z)) :: k) s) := rfl
theorem rx_1_square_151 {ns n ct R K s k z v0 v1 v2 v3 v4 v5 v6 v7 v8 v9 v10 v11 v12 v13 v15} : rn_1_square ns ct R K (n + 1) 151 [v0, v1, v2, v3, v4, v5, v6, v7, v8, v9, v10, v11, v12, v13, .inr (.inl (true, z)), v15] k s = (rn_1_square ns ct R K n 153 [v0, v1, v2, v3, v4, v5, v6, v7, v8, v9, v10, v11, v12, v13, .inr (.inl (true, z)), v15] (.inr (.inl (true, z)) :: k) s) := rfl
theorem rx_1_square_153 {ns n ct R K s L k a b x y} : rn_1_square ns ct R K (n + 1) 153 L (.inr (.inl (b, y)) :: .inr (.inl (a, x)) :: k) s = (rn_1_square ns ct R K n 154 L (.inr (.inl (false, x + y)) :: k) s) := rfl
theorem rx_1_square_154 {ns n ct R K s L k b z} : rn_1_square ns ct R K (n + 1) 154 L (.inr (.inl (b, z)) :: k) s = (sy_rl b z ∧ 5 < L.length ∧ rn_1_square ns ct R K n 156 (sy_gone (sy_sto L 4 (.inr (.inl (true, z)))) 5) k s) := rfl
theorem rx_1_square_156 {ns n ct R K s L k} : rn_1_square ns ct R K (n + 1) 156 L k s = (rn_1_square ns ct R K n 188 L k s) := rfl
theorem rx_1_square_159 {ns n ct R K s k z v0 v1 v2 v4 v5 v6 v7 v8 v9 v10 v11 v12 v13 v14 v15} : rn_1_square ns ct R K (n + 1) 159 [v0, v1, v2, .inl (true, z), v4, v5, v6, v7, v8, v9, v10, v11, v12, v13, v14, v15] k s = (rn_1_square ns ct R K n 160 [v0, v1, v2, .inl (true, z), v4, v5, v6, v7, v8, v9, v10, v11, v12, v13, v14, v15] (.inl (true, z) :: k) s) := rfl
theorem rx_1_square_160 {ns n ct R K s L k a x} : rn_1_square ns ct R K (n + 1) 160 L (.inl (a, x) :: k) s = (sy_ri a x ∧ (x = 0 → rn_1_square ns ct R K n 176 L k s) ∧ (¬ x = 0 → rn_1_square ns ct R K n 163 L k s)) := rfl
theorem rx_1_square_163 {ns n ct R K s k z v0 v1 v2 v3 v5 v6 v7 v8 v9 v10 v11 v12 v13 v14 v15} : rn_1_square ns ct R K (n + 1) 163 [v0, v1, v2, v3, .inr (.inl (true, z)), v5, v6, v7, v8, v9, v10, v11, v12, v13, v14, v15] k s = (rn_1_square ns ct R K n 165 [v0, v1, v2, v3, .inr (.inl (true, z)), v5, v6, v7, v8, v9, v10, v11, v12, v13, v14, v15] (.inr (.inl (true, z)) :: k) s) := rfl
theorem rx_1_square_165 {ns n ct R K s k z v0 v1 v2 v3 v4 v5 v6 v7 v9 v10 v11 v12 v13 v14 v15} : rn_1_square ns ct R K (n + 1) 165 [v0, v1, v2, v3, v4, v5, v6, v7, .inr (.inl (true, z)), v9, v10, v11, v12, v13, v14, v15] k s = (rn_1_square ns ct R K n 167 [v0, v1, v2, v3, v4, v5, v6, v7, .inr (.inl (true, z)), v9, v10, v11, v12, v13, v14, v15] (.inr (.inl (true, z)) :: k) s) := rfl
theorem rx_1_square_167 {ns n ct R K s k z v0 v1 v2 v3 v4 v5 v6 v7 v8 v9 v10 v11 v12 v13 v15} : rn_1_square ns ct R K (n + 1) 167 [v0, v1, v2, v3, v4, v5, v6, v7, v8, v9, v10, v11, v12, v13, .inr (.inl (true, z)), v15] k s = (rn_1_square ns ct R K n 169 [v0, v1, v2, v3, v4, v5, v6, v7, v8, v9, v10, v11, v12, v13, .inr (.inl (true, z)), v15] (.inr (.inl (true, z)) :: k) s) := rfl
theorem rx_1_square_169 {ns n ct R K s L k a b x y} : rn_1_square ns ct R K (n + 1) 169 L (.inr (.inl (b, y)) :: .inr (.inl (a, x)) :: k) s = (rn_1_square ns ct R K n 170 L (.inr (.inl (false, x + y)) :: k) s) := rfl
theorem rx_1_square_170 {ns n ct R K s L k} : rn_1_square ns ct R K (n + 1) 170 L k s = (sy_call true (ct 58) k s fun r t => rn_1_square ns ct R K n 173 L r t) := rfl
theorem rx_1_square_173 {ns n ct R K s L k} : rn_1_square ns ct R K (n + 1) 173 L k s = (rn_1_square ns ct R K n 186 L k s) := rfl
theorem rx_1_square_176 {ns n ct R K s k z v0 v1 v2 v3 v5 v6 v7 v8 v9 v10 v11 v12 v13 v14 v15} : rn_1_square ns ct R K (n + 1) 176 [v0, v1, v2, v3, .inr (.inl (true, z)), v5, v6, v7, v8, v9, v10, v11, v12, v13, v14, v15] k s = (rn_1_square ns ct R K n 178 [v0, v1, v2, v3, .inr (.inl (true, z)), v5, v6, v7, v8, v9, v10, v11, v12, v13, v14, v15] (.inr (.inl (true, z)) :: k) s) := rfl
theorem rx_1_square_178 {ns n ct R K s k z v0 v1 v2 v3 v4 v5 v6 v7 v9 v10 v11 v12 v13 v14 v15} : rn_1_square ns ct R K (n + 1) 178 [v0, v1, v2, v3, v4, v5, v6, v7, .inr (.inl (true, z)), v9, v10, v11, v12, v13, v14, v15] k s = (rn_1_square ns ct R K n 180 [v0, v1, v2, v3, v4, v5, v6, v7, .inr (.inl (true, z)), v9, v10, v11, v12, v13, v14, v15] (.inr (.inl (true, z)) :: k) s) := rfl
theorem rx_1_square_180 {ns n ct R K s k z v0 v1 v2 v3 v4 v5 v6 v7 v8 v9 v10 v11 v12 v13 v15} : rn_1_square ns ct R K (n + 1) 180 [v0, v1, v2, v3, v4, v5, v6, v7, v8, v9, v10, v11, v12, v13, .inr (.inl (true, z)), v15] k s = (rn_1_square ns ct R K n 182 [v0, v1, v2, v3, v4, v5, v6, v7, v8, v9, v10, v11, v12, v13, .inr (.inl (true, z)), v15] (.inr (.inl (true, z)) :: k) s) := rfl
theorem rx_1_square_182 {ns n ct R K s L k a b x y} : rn_1_square ns ct R K (n + 1) 182 L (.inr (.inl (b, y)) :: .inr (.inl (a, x)) :: k) s = (rn_1_square ns ct R K n 183 L (.inr (.inl (false, x + y)) :: k) s) := rfl
theorem rx_1_square_183 {ns n ct R K s L k} : rn_1_square ns ct R K (n + 1) 183 L k s = (sy_call true (ct 62) k s fun r t => rn_1_square ns ct R K n 186 L r t) := rfl
theorem rx_1_square_186 {ns n ct R K s L k b z} : rn_1_square ns ct R K (n + 1) 186 L (.inr (.inl (b, z)) :: k) s = (sy_rl b z ∧ 5 < L.length ∧ rn_1_square ns ct R K n 188 (sy_gone (sy_sto L 4 (.inr (.inl (true, z)))) 5) k s) := rfl
theorem rx_1_square_188 {ns n ct R K s k z v0 v1 v2 v3 v4 v5 v7 v8 v9 v10 v11 v12 v13 v14 v15} : rn_1_square ns ct R K (n + 1) 188 [v0, v1, v2, v3, v4, v5, .inl (true, z), v7, v8, v9, v10, v11, v12, v13, v14, v15] k s = ((-2147483648 ≤ z + 1 ∧ z + 1 < 2147483648) ∧ rn_1_square ns ct R K n 191 (sy_sto [v0, v1, v2, v3, v4, v5, .inl (true, z), v7, v8, v9, v10, v11, v12, v13, v14, v15] 6 (.inl (true, z + 1))) k s) := rfl
theorem rx_1_square_191 {ns n ct R K s L k} : rn_1_square ns ct R K (n + 1) 191 L k s = (K 8 L k s) := rfl
theorem rx_1_square_194 {ns n ct R K s k z v0 v1 v2 v3 v5 v6 v7 v8 v9 v10 v11 v12 v13 v14 v15} : rn_1_square ns ct R K (n + 1) 194 [v0, v1, v2, v3, .inr (.inl (true, z)), v5, v6, v7, v8, v9, v10, v11, v12, v13, v14, v15] k s = (rn_1_square ns ct R K n 196 [v0, v1, v2, v3, .inr (.inl (true, z)), v5, v6, v7, v8, v9, v10, v11, v12, v13, v14, v15] (.inr (.inl (true, z)) :: k) s) := rfl
theorem rx_1_square_196 {ns n ct R K s L a z} : rn_1_square ns ct R K (n + 1) 196 L [.inr (.inl (a, z))] s = (sy_rl a z ∧ R (some (.inr (.inl (true, z)))) s) := rfl
def y_2_init : MethodName := ⟨"StarHide$Hull", "<init>", "(LStarHide$Sites;)V"⟩
abbrev c_2_init : ByteArray := prog_4_method_1_code
def y_2_forget : MethodName := ⟨"StarHide$Hull", "forget", "()V"⟩
abbrev c_2_forget : ByteArray := prog_4_method_2_code
def tc_2_forget (pc : Nat) : Option sy_I := match pc with
  | 0 => some (.aload_n 0, 1, 0)
  | 1 => some (.iconst 0, 2, 0)
  | 2 => some (.putfield 25, 5, 0)
  | 5 => some (.return_, 6, 0)
  | _ => none
theorem tv_2_forget : ∀ pc i, sy_lk 6 tc_2_forget pc = some i → sy_chk c_2_forget none false pc i = true := sy_lk_ok 6 tc_2_forget (by decide +kernel)
def Mk_2_forget (ct : Nat → Option (Bool × Nat × sy_Sp)) : sy_M := (sy_lk 6 tc_2_forget, ff_2, ki_2, kl_2, ct, false)
def rn_2_forget (ns : Nat) (ct : Nat → Option (Bool × Nat × sy_Sp)) (R : sy_R) (K : sy_K) : Nat → sy_K := sy_run ns (Mk_2_forget ct) [] R K
theorem rx_2_forget_0 {ns n ct R K s k z} : rn_2_forget ns ct R K (n + 1) 0 [.inr (.inr (some z))] k s = (rn_2_forget ns ct R K n 1 [.inr (.inr (some z))] (.inr (.inr (some z)) :: k) s) := rfl
theorem rx_2_forget_1 {ns n ct R K s L k} : rn_2_forget ns ct R K (n + 1) 1 L k s = (rn_2_forget ns ct R K n 2 L (.inl (true, 0) :: k) s) := rfl
theorem rx_2_forget_2 {ns n ct R K s L k a b z} : rn_2_forget ns ct R K (n + 1) 2 L (.inl (b, z) :: .inr (.inr (some (some a))) :: k) s = (sy_ob a = some 2 ∧ sy_ri b z ∧ sy_b01 true z ∧ rn_2_forget ns ct R K n 5 L k (sy_up s a 6 z)) := rfl
theorem rx_2_forget_5 {ns n ct R K s L} : rn_2_forget ns ct R K (n + 1) 5 L [] s = (R none s) := rfl
def y_2_howMany : MethodName := ⟨"StarHide$Hull", "howMany", "()I"⟩
abbrev c_2_howMany : ByteArray := prog_4_method_3_code
def tc_2_howMany (pc : Nat) : Option sy_I := match pc with
  | 0 => some (.aload_n 0, 1, 0)
  | 1 => some (.invokevirtual 29, 4, 0)
  | 4 => some (.aload_n 0, 5, 0)
  | 5 => some (.getfield 32, 8, 0)
  | 8 => some (.ireturn, 9, 0)
  | _ => none
theorem tv_2_howMany : ∀ pc i, sy_lk 9 tc_2_howMany pc = some i → sy_chk c_2_howMany (some .int) false pc i = true := sy_lk_ok 9 tc_2_howMany (by decide +kernel)
def Mk_2_howMany (ct : Nat → Option (Bool × Nat × sy_Sp)) : sy_M := (sy_lk 9 tc_2_howMany, ff_2, ki_2, kl_2, ct, false)
def rn_2_howMany (ns : Nat) (ct : Nat → Option (Bool × Nat × sy_Sp)) (R : sy_R) (K : sy_K) : Nat → sy_K := sy_run ns (Mk_2_howMany ct) [] R K
theorem rx_2_howMany_0 {ns n ct R K s k z} : rn_2_howMany ns ct R K (n + 1) 0 [.inr (.inr (some z))] k s = (rn_2_howMany ns ct R K n 1 [.inr (.inr (some z))] (.inr (.inr (some z)) :: k) s) := rfl
theorem rx_2_howMany_1 {ns n ct R K s L k} : rn_2_howMany ns ct R K (n + 1) 1 L k s = (sy_call false (ct 29) k s fun r t => rn_2_howMany ns ct R K n 4 L r t) := rfl
theorem rx_2_howMany_4 {ns n ct R K s k z} : rn_2_howMany ns ct R K (n + 1) 4 [.inr (.inr (some z))] k s = (rn_2_howMany ns ct R K n 5 [.inr (.inr (some z))] (.inr (.inr (some z)) :: k) s) := rfl
theorem rx_2_howMany_5 {ns n ct R K s L k a} : rn_2_howMany ns ct R K (n + 1) 5 L (.inr (.inr (some (some a))) :: k) s = (sy_ob a = some 2 ∧ rn_2_howMany ns ct R K n 8 L (sy_fv s a 5 :: k) s) := rfl
theorem rx_2_howMany_8 {ns n ct R K s L a z} : rn_2_howMany ns ct R K (n + 1) 8 L [.inl (a, z)] s = (sy_ri a z ∧ sy_b01 false z ∧ R (some (.inl (true, z))) s) := rfl
def y_2_areaTwice : MethodName := ⟨"StarHide$Hull", "areaTwice", "()I"⟩
abbrev c_2_areaTwice : ByteArray := prog_4_method_4_code
def tc_2_areaTwice (pc : Nat) : Option sy_I := match pc with
  | 0 => some (.aload_n 0, 1, 0)
  | 1 => some (.invokevirtual 29, 4, 0)
  | 4 => some (.lconst 0, 5, 0)
  | 5 => some (.lstore_n 1, 6, 0)
  | 6 => some (.iconst 0, 7, 0)
  | 7 => some (.istore_n 3, 8, 0)
  | 8 => some (.iload_n 3, 9, 0)
  | 9 => some (.aload_n 0, 10, 0)
  | 10 => some (.getfield 32, 13, 0)
  | 13 => some (.if_icmp .ge 55, 16, 68)
  | 16 => some (.aload_n 0, 17, 0)
  | 17 => some (.iload_n 3, 18, 0)
  | 18 => some (.invokevirtual 36, 21, 0)
  | 21 => some (.i2l, 22, 0)
  | 22 => some (.lstore 4, 24, 0)
  | 24 => some (.aload_n 0, 25, 0)
  | 25 => some (.iload_n 3, 26, 0)
  | 26 => some (.invokevirtual 40, 29, 0)
  | 29 => some (.i2l, 30, 0)
  | 30 => some (.lstore 6, 32, 0)
  | 32 => some (.lload_n 1, 33, 0)
  | 33 => some (.lload 4, 35, 0)
  | 35 => some (.aload_n 0, 36, 0)
  | 36 => some (.aload_n 0, 37, 0)
  | 37 => some (.iload_n 3, 38, 0)
  | 38 => some (.invokevirtual 43, 41, 0)
  | 41 => some (.invokevirtual 40, 44, 0)
  | 44 => some (.i2l, 45, 0)
  | 45 => some (.lmul, 46, 0)
  | 46 => some (.lload 6, 48, 0)
  | 48 => some (.aload_n 0, 49, 0)
  | 49 => some (.aload_n 0, 50, 0)
  | 50 => some (.iload_n 3, 51, 0)
  | 51 => some (.invokevirtual 43, 54, 0)
  | 54 => some (.invokevirtual 36, 57, 0)
  | 57 => some (.i2l, 58, 0)
  | 58 => some (.lmul, 59, 0)
  | 59 => some (.lsub, 60, 0)
  | 60 => some (.ladd, 61, 0)
  | 61 => some (.lstore_n 1, 62, 0)
  | 62 => some (.iinc 3 1, 65, 0)
  | 65 => some (.goto (-57), 68, 8)
  | 68 => some (.lload_n 1, 69, 0)
  | 69 => some (.l2i, 70, 0)
  | 70 => some (.ireturn, 71, 0)
  | _ => none
theorem tv_2_areaTwice : ∀ pc i, sy_lk 71 tc_2_areaTwice pc = some i → sy_chk c_2_areaTwice (some .int) false pc i = true := sy_lk_ok 71 tc_2_areaTwice (by decide +kernel)
def Mk_2_areaTwice (ct : Nat → Option (Bool × Nat × sy_Sp)) : sy_M := (sy_lk 71 tc_2_areaTwice, ff_2, ki_2, kl_2, ct, false)
def rn_2_areaTwice (ns : Nat) (ct : Nat → Option (Bool × Nat × sy_Sp)) (R : sy_R) (K : sy_K) : Nat → sy_K := sy_run ns (Mk_2_areaTwice ct) [8] R K
theorem rx_2_areaTwice_0 {ns n ct R K s k z v1 v2 v3 v4 v5 v6 v7} : rn_2_areaTwice ns ct R K (n + 1) 0 [.inr (.inr (some z)), v1, v2, v3, v4, v5, v6, v7] k s = (rn_2_areaTwice ns ct R K n 1 [.inr (.inr (some z)), v1, v2, v3, v4, v5, v6, v7] (.inr (.inr (some z)) :: k) s) := rfl
theorem rx_2_areaTwice_1 {ns n ct R K s L k} : rn_2_areaTwice ns ct R K (n + 1) 1 L k s = (sy_call false (ct 29) k s fun r t => rn_2_areaTwice ns ct R K n 4 L r t) := rfl
theorem rx_2_areaTwice_4 {ns n ct R K s L k} : rn_2_areaTwice ns ct R K (n + 1) 4 L k s = (rn_2_areaTwice ns ct R K n 5 L (.inr (.inl (true, 0)) :: k) s) := rfl
theorem rx_2_areaTwice_5 {ns n ct R K s L k b z} : rn_2_areaTwice ns ct R K (n + 1) 5 L (.inr (.inl (b, z)) :: k) s = (sy_rl b z ∧ 2 < L.length ∧ rn_2_areaTwice ns ct R K n 6 (sy_gone (sy_sto L 1 (.inr (.inl (true, z)))) 2) k s) := rfl
theorem rx_2_areaTwice_6 {ns n ct R K s L k} : rn_2_areaTwice ns ct R K (n + 1) 6 L k s = (rn_2_areaTwice ns ct R K n 7 L (.inl (true, 0) :: k) s) := rfl
theorem rx_2_areaTwice_7 {ns n ct R K s L k b z} : rn_2_areaTwice ns ct R K (n + 1) 7 L (.inl (b, z) :: k) s = (sy_ri b z ∧ 3 < L.length ∧ K 8 (sy_sto L 3 (.inl (true, z))) k s) := rfl
theorem rx_2_areaTwice_8 {ns n ct R K s k z v0 v1 v2 v4 v5 v6 v7} : rn_2_areaTwice ns ct R K (n + 1) 8 [v0, v1, v2, .inl (true, z), v4, v5, v6, v7] k s = (rn_2_areaTwice ns ct R K n 9 [v0, v1, v2, .inl (true, z), v4, v5, v6, v7] (.inl (true, z) :: k) s) := rfl
theorem rx_2_areaTwice_9 {ns n ct R K s k z v1 v2 v3 v4 v5 v6 v7} : rn_2_areaTwice ns ct R K (n + 1) 9 [.inr (.inr (some z)), v1, v2, v3, v4, v5, v6, v7] k s = (rn_2_areaTwice ns ct R K n 10 [.inr (.inr (some z)), v1, v2, v3, v4, v5, v6, v7] (.inr (.inr (some z)) :: k) s) := rfl
theorem rx_2_areaTwice_10 {ns n ct R K s L k a} : rn_2_areaTwice ns ct R K (n + 1) 10 L (.inr (.inr (some (some a))) :: k) s = (sy_ob a = some 2 ∧ rn_2_areaTwice ns ct R K n 13 L (sy_fv s a 5 :: k) s) := rfl
theorem rx_2_areaTwice_13 {ns n ct R K s L k a b x y} : rn_2_areaTwice ns ct R K (n + 1) 13 L (.inl (b, y) :: .inl (a, x) :: k) s = (sy_ri a x ∧ sy_ri b y ∧ (y ≤ x → rn_2_areaTwice ns ct R K n 68 L k s) ∧ (¬ y ≤ x → rn_2_areaTwice ns ct R K n 16 L k s)) := rfl
theorem rx_2_areaTwice_16 {ns n ct R K s k z v1 v2 v3 v4 v5 v6 v7} : rn_2_areaTwice ns ct R K (n + 1) 16 [.inr (.inr (some z)), v1, v2, v3, v4, v5, v6, v7] k s = (rn_2_areaTwice ns ct R K n 17 [.inr (.inr (some z)), v1, v2, v3, v4, v5, v6, v7] (.inr (.inr (some z)) :: k) s) := rfl
theorem rx_2_areaTwice_17 {ns n ct R K s k z v0 v1 v2 v4 v5 v6 v7} : rn_2_areaTwice ns ct R K (n + 1) 17 [v0, v1, v2, .inl (true, z), v4, v5, v6, v7] k s = (rn_2_areaTwice ns ct R K n 18 [v0, v1, v2, .inl (true, z), v4, v5, v6, v7] (.inl (true, z) :: k) s) := rfl
theorem rx_2_areaTwice_18 {ns n ct R K s L k} : rn_2_areaTwice ns ct R K (n + 1) 18 L k s = (sy_call false (ct 36) k s fun r t => rn_2_areaTwice ns ct R K n 21 L r t) := rfl
theorem rx_2_areaTwice_21 {ns n ct R K s L k a x} : rn_2_areaTwice ns ct R K (n + 1) 21 L (.inl (a, x) :: k) s = (sy_ri a x ∧ rn_2_areaTwice ns ct R K n 22 L (.inr (.inl (true, x)) :: k) s) := rfl
theorem rx_2_areaTwice_22 {ns n ct R K s L k b z} : rn_2_areaTwice ns ct R K (n + 1) 22 L (.inr (.inl (b, z)) :: k) s = (sy_rl b z ∧ 5 < L.length ∧ rn_2_areaTwice ns ct R K n 24 (sy_gone (sy_sto L 4 (.inr (.inl (true, z)))) 5) k s) := rfl
theorem rx_2_areaTwice_24 {ns n ct R K s k z v1 v2 v3 v4 v5 v6 v7} : rn_2_areaTwice ns ct R K (n + 1) 24 [.inr (.inr (some z)), v1, v2, v3, v4, v5, v6, v7] k s = (rn_2_areaTwice ns ct R K n 25 [.inr (.inr (some z)), v1, v2, v3, v4, v5, v6, v7] (.inr (.inr (some z)) :: k) s) := rfl
theorem rx_2_areaTwice_25 {ns n ct R K s k z v0 v1 v2 v4 v5 v6 v7} : rn_2_areaTwice ns ct R K (n + 1) 25 [v0, v1, v2, .inl (true, z), v4, v5, v6, v7] k s = (rn_2_areaTwice ns ct R K n 26 [v0, v1, v2, .inl (true, z), v4, v5, v6, v7] (.inl (true, z) :: k) s) := rfl
theorem rx_2_areaTwice_26 {ns n ct R K s L k} : rn_2_areaTwice ns ct R K (n + 1) 26 L k s = (sy_call false (ct 40) k s fun r t => rn_2_areaTwice ns ct R K n 29 L r t) := rfl
theorem rx_2_areaTwice_29 {ns n ct R K s L k a x} : rn_2_areaTwice ns ct R K (n + 1) 29 L (.inl (a, x) :: k) s = (sy_ri a x ∧ rn_2_areaTwice ns ct R K n 30 L (.inr (.inl (true, x)) :: k) s) := rfl
theorem rx_2_areaTwice_30 {ns n ct R K s L k b z} : rn_2_areaTwice ns ct R K (n + 1) 30 L (.inr (.inl (b, z)) :: k) s = (sy_rl b z ∧ 7 < L.length ∧ rn_2_areaTwice ns ct R K n 32 (sy_gone (sy_sto L 6 (.inr (.inl (true, z)))) 7) k s) := rfl
theorem rx_2_areaTwice_32 {ns n ct R K s k z v0 v2 v3 v4 v5 v6 v7} : rn_2_areaTwice ns ct R K (n + 1) 32 [v0, .inr (.inl (true, z)), v2, v3, v4, v5, v6, v7] k s = (rn_2_areaTwice ns ct R K n 33 [v0, .inr (.inl (true, z)), v2, v3, v4, v5, v6, v7] (.inr (.inl (true, z)) :: k) s) := rfl
theorem rx_2_areaTwice_33 {ns n ct R K s k z v0 v1 v2 v3 v5 v6 v7} : rn_2_areaTwice ns ct R K (n + 1) 33 [v0, v1, v2, v3, .inr (.inl (true, z)), v5, v6, v7] k s = (rn_2_areaTwice ns ct R K n 35 [v0, v1, v2, v3, .inr (.inl (true, z)), v5, v6, v7] (.inr (.inl (true, z)) :: k) s) := rfl
theorem rx_2_areaTwice_35 {ns n ct R K s k z v1 v2 v3 v4 v5 v6 v7} : rn_2_areaTwice ns ct R K (n + 1) 35 [.inr (.inr (some z)), v1, v2, v3, v4, v5, v6, v7] k s = (rn_2_areaTwice ns ct R K n 36 [.inr (.inr (some z)), v1, v2, v3, v4, v5, v6, v7] (.inr (.inr (some z)) :: k) s) := rfl
theorem rx_2_areaTwice_36 {ns n ct R K s k z v1 v2 v3 v4 v5 v6 v7} : rn_2_areaTwice ns ct R K (n + 1) 36 [.inr (.inr (some z)), v1, v2, v3, v4, v5, v6, v7] k s = (rn_2_areaTwice ns ct R K n 37 [.inr (.inr (some z)), v1, v2, v3, v4, v5, v6, v7] (.inr (.inr (some z)) :: k) s) := rfl
theorem rx_2_areaTwice_37 {ns n ct R K s k z v0 v1 v2 v4 v5 v6 v7} : rn_2_areaTwice ns ct R K (n + 1) 37 [v0, v1, v2, .inl (true, z), v4, v5, v6, v7] k s = (rn_2_areaTwice ns ct R K n 38 [v0, v1, v2, .inl (true, z), v4, v5, v6, v7] (.inl (true, z) :: k) s) := rfl
theorem rx_2_areaTwice_38 {ns n ct R K s L k} : rn_2_areaTwice ns ct R K (n + 1) 38 L k s = (sy_call false (ct 43) k s fun r t => rn_2_areaTwice ns ct R K n 41 L r t) := rfl
theorem rx_2_areaTwice_41 {ns n ct R K s L k} : rn_2_areaTwice ns ct R K (n + 1) 41 L k s = (sy_call false (ct 40) k s fun r t => rn_2_areaTwice ns ct R K n 44 L r t) := rfl
theorem rx_2_areaTwice_44 {ns n ct R K s L k a x} : rn_2_areaTwice ns ct R K (n + 1) 44 L (.inl (a, x) :: k) s = (sy_ri a x ∧ rn_2_areaTwice ns ct R K n 45 L (.inr (.inl (true, x)) :: k) s) := rfl
theorem rx_2_areaTwice_45 {ns n ct R K s L k a b x y} : rn_2_areaTwice ns ct R K (n + 1) 45 L (.inr (.inl (b, y)) :: .inr (.inl (a, x)) :: k) s = (rn_2_areaTwice ns ct R K n 46 L (.inr (.inl (false, x * y)) :: k) s) := rfl
theorem rx_2_areaTwice_46 {ns n ct R K s k z v0 v1 v2 v3 v4 v5 v7} : rn_2_areaTwice ns ct R K (n + 1) 46 [v0, v1, v2, v3, v4, v5, .inr (.inl (true, z)), v7] k s = (rn_2_areaTwice ns ct R K n 48 [v0, v1, v2, v3, v4, v5, .inr (.inl (true, z)), v7] (.inr (.inl (true, z)) :: k) s) := rfl
theorem rx_2_areaTwice_48 {ns n ct R K s k z v1 v2 v3 v4 v5 v6 v7} : rn_2_areaTwice ns ct R K (n + 1) 48 [.inr (.inr (some z)), v1, v2, v3, v4, v5, v6, v7] k s = (rn_2_areaTwice ns ct R K n 49 [.inr (.inr (some z)), v1, v2, v3, v4, v5, v6, v7] (.inr (.inr (some z)) :: k) s) := rfl
theorem rx_2_areaTwice_49 {ns n ct R K s k z v1 v2 v3 v4 v5 v6 v7} : rn_2_areaTwice ns ct R K (n + 1) 49 [.inr (.inr (some z)), v1, v2, v3, v4, v5, v6, v7] k s = (rn_2_areaTwice ns ct R K n 50 [.inr (.inr (some z)), v1, v2, v3, v4, v5, v6, v7] (.inr (.inr (some z)) :: k) s) := rfl
theorem rx_2_areaTwice_50 {ns n ct R K s k z v0 v1 v2 v4 v5 v6 v7} : rn_2_areaTwice ns ct R K (n + 1) 50 [v0, v1, v2, .inl (true, z), v4, v5, v6, v7] k s = (rn_2_areaTwice ns ct R K n 51 [v0, v1, v2, .inl (true, z), v4, v5, v6, v7] (.inl (true, z) :: k) s) := rfl
theorem rx_2_areaTwice_51 {ns n ct R K s L k} : rn_2_areaTwice ns ct R K (n + 1) 51 L k s = (sy_call false (ct 43) k s fun r t => rn_2_areaTwice ns ct R K n 54 L r t) := rfl
theorem rx_2_areaTwice_54 {ns n ct R K s L k} : rn_2_areaTwice ns ct R K (n + 1) 54 L k s = (sy_call false (ct 36) k s fun r t => rn_2_areaTwice ns ct R K n 57 L r t) := rfl
theorem rx_2_areaTwice_57 {ns n ct R K s L k a x} : rn_2_areaTwice ns ct R K (n + 1) 57 L (.inl (a, x) :: k) s = (sy_ri a x ∧ rn_2_areaTwice ns ct R K n 58 L (.inr (.inl (true, x)) :: k) s) := rfl
theorem rx_2_areaTwice_58 {ns n ct R K s L k a b x y} : rn_2_areaTwice ns ct R K (n + 1) 58 L (.inr (.inl (b, y)) :: .inr (.inl (a, x)) :: k) s = (rn_2_areaTwice ns ct R K n 59 L (.inr (.inl (false, x * y)) :: k) s) := rfl
theorem rx_2_areaTwice_59 {ns n ct R K s L k a b x y} : rn_2_areaTwice ns ct R K (n + 1) 59 L (.inr (.inl (b, y)) :: .inr (.inl (a, x)) :: k) s = (rn_2_areaTwice ns ct R K n 60 L (.inr (.inl (false, x - y)) :: k) s) := rfl
theorem rx_2_areaTwice_60 {ns n ct R K s L k a b x y} : rn_2_areaTwice ns ct R K (n + 1) 60 L (.inr (.inl (b, y)) :: .inr (.inl (a, x)) :: k) s = (rn_2_areaTwice ns ct R K n 61 L (.inr (.inl (false, x + y)) :: k) s) := rfl
theorem rx_2_areaTwice_61 {ns n ct R K s L k b z} : rn_2_areaTwice ns ct R K (n + 1) 61 L (.inr (.inl (b, z)) :: k) s = (sy_rl b z ∧ 2 < L.length ∧ rn_2_areaTwice ns ct R K n 62 (sy_gone (sy_sto L 1 (.inr (.inl (true, z)))) 2) k s) := rfl
theorem rx_2_areaTwice_62 {ns n ct R K s k z v0 v1 v2 v4 v5 v6 v7} : rn_2_areaTwice ns ct R K (n + 1) 62 [v0, v1, v2, .inl (true, z), v4, v5, v6, v7] k s = ((-2147483648 ≤ z + 1 ∧ z + 1 < 2147483648) ∧ rn_2_areaTwice ns ct R K n 65 (sy_sto [v0, v1, v2, .inl (true, z), v4, v5, v6, v7] 3 (.inl (true, z + 1))) k s) := rfl
theorem rx_2_areaTwice_65 {ns n ct R K s L k} : rn_2_areaTwice ns ct R K (n + 1) 65 L k s = (K 8 L k s) := rfl
theorem rx_2_areaTwice_68 {ns n ct R K s k z v0 v2 v3 v4 v5 v6 v7} : rn_2_areaTwice ns ct R K (n + 1) 68 [v0, .inr (.inl (true, z)), v2, v3, v4, v5, v6, v7] k s = (rn_2_areaTwice ns ct R K n 69 [v0, .inr (.inl (true, z)), v2, v3, v4, v5, v6, v7] (.inr (.inl (true, z)) :: k) s) := rfl
theorem rx_2_areaTwice_69 {ns n ct R K s L k a x} : rn_2_areaTwice ns ct R K (n + 1) 69 L (.inr (.inl (a, x)) :: k) s = (rn_2_areaTwice ns ct R K n 70 L (.inl (false, x) :: k) s) := rfl
theorem rx_2_areaTwice_70 {ns n ct R K s L a z} : rn_2_areaTwice ns ct R K (n + 1) 70 L [.inl (a, z)] s = (sy_ri a z ∧ sy_b01 false z ∧ R (some (.inl (true, z))) s) := rfl
def y_2_alongOf : MethodName := ⟨"StarHide$Hull", "alongOf", "(I)I"⟩
abbrev c_2_alongOf : ByteArray := prog_4_method_5_code
def tc_2_alongOf (pc : Nat) : Option sy_I := match pc with
  | 0 => some (.iload_n 1, 1, 0)
  | 1 => some (.ifCond .lt 11, 4, 12)
  | 4 => some (.iload_n 1, 5, 0)
  | 5 => some (.aload_n 0, 6, 0)
  | 6 => some (.getfield 32, 9, 0)
  | 9 => some (.if_icmp .lt 8, 12, 17)
  | 12 => some (.ldc 46, 14, 0)
  | 14 => some (.goto 14, 17, 28)
  | 17 => some (.aload_n 0, 18, 0)
  | 18 => some (.getfield 11, 21, 0)
  | 21 => some (.aload_n 0, 22, 0)
  | 22 => some (.getfield 18, 25, 0)
  | 25 => some (.iload_n 1, 26, 0)
  | 26 => some (.iaload, 27, 0)
  | 27 => some (.iaload, 28, 0)
  | 28 => some (.ireturn, 29, 0)
  | _ => none
theorem tv_2_alongOf : ∀ pc i, sy_lk 29 tc_2_alongOf pc = some i → sy_chk c_2_alongOf (some .int) false pc i = true := sy_lk_ok 29 tc_2_alongOf (by decide +kernel)
def Mk_2_alongOf (ct : Nat → Option (Bool × Nat × sy_Sp)) : sy_M := (sy_lk 29 tc_2_alongOf, ff_2, ki_2, kl_2, ct, false)
def rn_2_alongOf (ns : Nat) (ct : Nat → Option (Bool × Nat × sy_Sp)) (R : sy_R) (K : sy_K) : Nat → sy_K := sy_run ns (Mk_2_alongOf ct) [] R K
theorem rx_2_alongOf_0 {ns n ct R K s k z v0} : rn_2_alongOf ns ct R K (n + 1) 0 [v0, .inl (true, z)] k s = (rn_2_alongOf ns ct R K n 1 [v0, .inl (true, z)] (.inl (true, z) :: k) s) := rfl
theorem rx_2_alongOf_1 {ns n ct R K s L k a x} : rn_2_alongOf ns ct R K (n + 1) 1 L (.inl (a, x) :: k) s = (sy_ri a x ∧ (x < 0 → rn_2_alongOf ns ct R K n 12 L k s) ∧ (¬ x < 0 → rn_2_alongOf ns ct R K n 4 L k s)) := rfl
theorem rx_2_alongOf_4 {ns n ct R K s k z v0} : rn_2_alongOf ns ct R K (n + 1) 4 [v0, .inl (true, z)] k s = (rn_2_alongOf ns ct R K n 5 [v0, .inl (true, z)] (.inl (true, z) :: k) s) := rfl
theorem rx_2_alongOf_5 {ns n ct R K s k z v1} : rn_2_alongOf ns ct R K (n + 1) 5 [.inr (.inr (some z)), v1] k s = (rn_2_alongOf ns ct R K n 6 [.inr (.inr (some z)), v1] (.inr (.inr (some z)) :: k) s) := rfl
theorem rx_2_alongOf_6 {ns n ct R K s L k a} : rn_2_alongOf ns ct R K (n + 1) 6 L (.inr (.inr (some (some a))) :: k) s = (sy_ob a = some 2 ∧ rn_2_alongOf ns ct R K n 9 L (sy_fv s a 5 :: k) s) := rfl
theorem rx_2_alongOf_9 {ns n ct R K s L k a b x y} : rn_2_alongOf ns ct R K (n + 1) 9 L (.inl (b, y) :: .inl (a, x) :: k) s = (sy_ri a x ∧ sy_ri b y ∧ (x < y → rn_2_alongOf ns ct R K n 17 L k s) ∧ (¬ x < y → rn_2_alongOf ns ct R K n 12 L k s)) := rfl
theorem rx_2_alongOf_12 {ns n ct R K s L k} : rn_2_alongOf ns ct R K (n + 1) 12 L k s = (rn_2_alongOf ns ct R K n 14 L (.inl (true, -1000000) :: k) s) := rfl
theorem rx_2_alongOf_14 {ns n ct R K s L k} : rn_2_alongOf ns ct R K (n + 1) 14 L k s = (rn_2_alongOf ns ct R K n 28 L k s) := rfl
theorem rx_2_alongOf_17 {ns n ct R K s k z v1} : rn_2_alongOf ns ct R K (n + 1) 17 [.inr (.inr (some z)), v1] k s = (rn_2_alongOf ns ct R K n 18 [.inr (.inr (some z)), v1] (.inr (.inr (some z)) :: k) s) := rfl
theorem rx_2_alongOf_18 {ns n ct R K s L k a} : rn_2_alongOf ns ct R K (n + 1) 18 L (.inr (.inr (some (some a))) :: k) s = (sy_ob a = some 2 ∧ rn_2_alongOf ns ct R K n 21 L (sy_fv s a 1 :: k) s) := rfl
theorem rx_2_alongOf_21 {ns n ct R K s k z v1} : rn_2_alongOf ns ct R K (n + 1) 21 [.inr (.inr (some z)), v1] k s = (rn_2_alongOf ns ct R K n 22 [.inr (.inr (some z)), v1] (.inr (.inr (some z)) :: k) s) := rfl
theorem rx_2_alongOf_22 {ns n ct R K s L k a} : rn_2_alongOf ns ct R K (n + 1) 22 L (.inr (.inr (some (some a))) :: k) s = (sy_ob a = some 2 ∧ rn_2_alongOf ns ct R K n 25 L (sy_fv s a 4 :: k) s) := rfl
theorem rx_2_alongOf_25 {ns n ct R K s k z v0} : rn_2_alongOf ns ct R K (n + 1) 25 [v0, .inl (true, z)] k s = (rn_2_alongOf ns ct R K n 26 [v0, .inl (true, z)] (.inl (true, z) :: k) s) := rfl
theorem rx_2_alongOf_26 {ns n ct R K s L k a b z} : rn_2_alongOf ns ct R K (n + 1) 26 L (.inl (b, z) :: .inr (.inr (some (some a))) :: k) s = ((0 ≤ z ∧ z < (sy_ar a).2) ∧ sy_ob a = none ∧ (sy_ar a).1 = 0 ∧ rn_2_alongOf ns ct R K n 27 L (.inl (true, s a z.toNat) :: k) s) := rfl
theorem rx_2_alongOf_27 {ns n ct R K s L k a b z} : rn_2_alongOf ns ct R K (n + 1) 27 L (.inl (b, z) :: .inr (.inr (some (some a))) :: k) s = ((0 ≤ z ∧ z < (sy_ar a).2) ∧ sy_ob a = none ∧ (sy_ar a).1 = 0 ∧ rn_2_alongOf ns ct R K n 28 L (.inl (true, s a z.toNat) :: k) s) := rfl
theorem rx_2_alongOf_28 {ns n ct R K s L a z} : rn_2_alongOf ns ct R K (n + 1) 28 L [.inl (a, z)] s = (sy_ri a z ∧ sy_b01 false z ∧ R (some (.inl (true, z))) s) := rfl
def y_2_heightOf : MethodName := ⟨"StarHide$Hull", "heightOf", "(I)I"⟩
abbrev c_2_heightOf : ByteArray := prog_4_method_6_code
def tc_2_heightOf (pc : Nat) : Option sy_I := match pc with
  | 0 => some (.iload_n 1, 1, 0)
  | 1 => some (.ifCond .lt 11, 4, 12)
  | 4 => some (.iload_n 1, 5, 0)
  | 5 => some (.aload_n 0, 6, 0)
  | 6 => some (.getfield 32, 9, 0)
  | 9 => some (.if_icmp .lt 8, 12, 17)
  | 12 => some (.ldc 46, 14, 0)
  | 14 => some (.goto 14, 17, 28)
  | 17 => some (.aload_n 0, 18, 0)
  | 18 => some (.getfield 15, 21, 0)
  | 21 => some (.aload_n 0, 22, 0)
  | 22 => some (.getfield 18, 25, 0)
  | 25 => some (.iload_n 1, 26, 0)
  | 26 => some (.iaload, 27, 0)
  | 27 => some (.iaload, 28, 0)
  | 28 => some (.ireturn, 29, 0)
  | _ => none
theorem tv_2_heightOf : ∀ pc i, sy_lk 29 tc_2_heightOf pc = some i → sy_chk c_2_heightOf (some .int) false pc i = true := sy_lk_ok 29 tc_2_heightOf (by decide +kernel)
def Mk_2_heightOf (ct : Nat → Option (Bool × Nat × sy_Sp)) : sy_M := (sy_lk 29 tc_2_heightOf, ff_2, ki_2, kl_2, ct, false)
def rn_2_heightOf (ns : Nat) (ct : Nat → Option (Bool × Nat × sy_Sp)) (R : sy_R) (K : sy_K) : Nat → sy_K := sy_run ns (Mk_2_heightOf ct) [] R K
theorem rx_2_heightOf_0 {ns n ct R K s k z v0} : rn_2_heightOf ns ct R K (n + 1) 0 [v0, .inl (true, z)] k s = (rn_2_heightOf ns ct R K n 1 [v0, .inl (true, z)] (.inl (true, z) :: k) s) := rfl
theorem rx_2_heightOf_1 {ns n ct R K s L k a x} : rn_2_heightOf ns ct R K (n + 1) 1 L (.inl (a, x) :: k) s = (sy_ri a x ∧ (x < 0 → rn_2_heightOf ns ct R K n 12 L k s) ∧ (¬ x < 0 → rn_2_heightOf ns ct R K n 4 L k s)) := rfl
theorem rx_2_heightOf_4 {ns n ct R K s k z v0} : rn_2_heightOf ns ct R K (n + 1) 4 [v0, .inl (true, z)] k s = (rn_2_heightOf ns ct R K n 5 [v0, .inl (true, z)] (.inl (true, z) :: k) s) := rfl
theorem rx_2_heightOf_5 {ns n ct R K s k z v1} : rn_2_heightOf ns ct R K (n + 1) 5 [.inr (.inr (some z)), v1] k s = (rn_2_heightOf ns ct R K n 6 [.inr (.inr (some z)), v1] (.inr (.inr (some z)) :: k) s) := rfl
theorem rx_2_heightOf_6 {ns n ct R K s L k a} : rn_2_heightOf ns ct R K (n + 1) 6 L (.inr (.inr (some (some a))) :: k) s = (sy_ob a = some 2 ∧ rn_2_heightOf ns ct R K n 9 L (sy_fv s a 5 :: k) s) := rfl
theorem rx_2_heightOf_9 {ns n ct R K s L k a b x y} : rn_2_heightOf ns ct R K (n + 1) 9 L (.inl (b, y) :: .inl (a, x) :: k) s = (sy_ri a x ∧ sy_ri b y ∧ (x < y → rn_2_heightOf ns ct R K n 17 L k s) ∧ (¬ x < y → rn_2_heightOf ns ct R K n 12 L k s)) := rfl
theorem rx_2_heightOf_12 {ns n ct R K s L k} : rn_2_heightOf ns ct R K (n + 1) 12 L k s = (rn_2_heightOf ns ct R K n 14 L (.inl (true, -1000000) :: k) s) := rfl
theorem rx_2_heightOf_14 {ns n ct R K s L k} : rn_2_heightOf ns ct R K (n + 1) 14 L k s = (rn_2_heightOf ns ct R K n 28 L k s) := rfl
theorem rx_2_heightOf_17 {ns n ct R K s k z v1} : rn_2_heightOf ns ct R K (n + 1) 17 [.inr (.inr (some z)), v1] k s = (rn_2_heightOf ns ct R K n 18 [.inr (.inr (some z)), v1] (.inr (.inr (some z)) :: k) s) := rfl
theorem rx_2_heightOf_18 {ns n ct R K s L k a} : rn_2_heightOf ns ct R K (n + 1) 18 L (.inr (.inr (some (some a))) :: k) s = (sy_ob a = some 2 ∧ rn_2_heightOf ns ct R K n 21 L (sy_fv s a 2 :: k) s) := rfl
theorem rx_2_heightOf_21 {ns n ct R K s k z v1} : rn_2_heightOf ns ct R K (n + 1) 21 [.inr (.inr (some z)), v1] k s = (rn_2_heightOf ns ct R K n 22 [.inr (.inr (some z)), v1] (.inr (.inr (some z)) :: k) s) := rfl
theorem rx_2_heightOf_22 {ns n ct R K s L k a} : rn_2_heightOf ns ct R K (n + 1) 22 L (.inr (.inr (some (some a))) :: k) s = (sy_ob a = some 2 ∧ rn_2_heightOf ns ct R K n 25 L (sy_fv s a 4 :: k) s) := rfl
theorem rx_2_heightOf_25 {ns n ct R K s k z v0} : rn_2_heightOf ns ct R K (n + 1) 25 [v0, .inl (true, z)] k s = (rn_2_heightOf ns ct R K n 26 [v0, .inl (true, z)] (.inl (true, z) :: k) s) := rfl
theorem rx_2_heightOf_26 {ns n ct R K s L k a b z} : rn_2_heightOf ns ct R K (n + 1) 26 L (.inl (b, z) :: .inr (.inr (some (some a))) :: k) s = ((0 ≤ z ∧ z < (sy_ar a).2) ∧ sy_ob a = none ∧ (sy_ar a).1 = 0 ∧ rn_2_heightOf ns ct R K n 27 L (.inl (true, s a z.toNat) :: k) s) := rfl
theorem rx_2_heightOf_27 {ns n ct R K s L k a b z} : rn_2_heightOf ns ct R K (n + 1) 27 L (.inl (b, z) :: .inr (.inr (some (some a))) :: k) s = ((0 ≤ z ∧ z < (sy_ar a).2) ∧ sy_ob a = none ∧ (sy_ar a).1 = 0 ∧ rn_2_heightOf ns ct R K n 28 L (.inl (true, s a z.toNat) :: k) s) := rfl
theorem rx_2_heightOf_28 {ns n ct R K s L a z} : rn_2_heightOf ns ct R K (n + 1) 28 L [.inl (a, z)] s = (sy_ri a z ∧ sy_b01 false z ∧ R (some (.inl (true, z))) s) := rfl
def y_2_touches : MethodName := ⟨"StarHide$Hull", "touches", "(III)Z"⟩
abbrev c_2_touches : ByteArray := prog_4_method_7_code
def tc_2_touches (pc : Nat) : Option sy_I := match pc with
  | 0 => some (.aload_n 0, 1, 0)
  | 1 => some (.invokevirtual 29, 4, 0)
  | 4 => some (.iconst 0, 5, 0)
  | 5 => some (.istore 4, 7, 0)
  | 7 => some (.iconst 0, 8, 0)
  | 8 => some (.istore 5, 10, 0)
  | 10 => some (.iload 5, 12, 0)
  | 12 => some (.aload_n 0, 13, 0)
  | 13 => some (.getfield 32, 16, 0)
  | 16 => some (.if_icmp .ge 100, 19, 116)
  | 19 => some (.aload_n 0, 20, 0)
  | 20 => some (.iload 5, 22, 0)
  | 22 => some (.invokevirtual 43, 25, 0)
  | 25 => some (.istore 6, 27, 0)
  | 27 => some (.aload_n 0, 28, 0)
  | 28 => some (.iload 5, 30, 0)
  | 30 => some (.invokevirtual 40, 33, 0)
  | 33 => some (.iload_n 1, 34, 0)
  | 34 => some (.if_icmp .ge 36, 37, 70)
  | 37 => some (.iload_n 1, 38, 0)
  | 38 => some (.aload_n 0, 39, 0)
  | 39 => some (.iload 6, 41, 0)
  | 41 => some (.invokevirtual 40, 44, 0)
  | 44 => some (.if_icmp .ge 26, 47, 70)
  | 47 => some (.aload_n 0, 48, 0)
  | 48 => some (.iload 5, 50, 0)
  | 50 => some (.iload 6, 52, 0)
  | 52 => some (.iload_n 2, 53, 0)
  | 53 => some (.iload_n 1, 54, 0)
  | 54 => some (.invokevirtual 47, 57, 0)
  | 57 => some (.lconst 0, 58, 0)
  | 58 => some (.lcmp, 59, 0)
  | 59 => some (.ifCond .ge 5, 62, 64)
  | 62 => some (.iconst 0, 63, 0)
  | 63 => some (.ireturn, 64, 0)
  | 64 => some (.iinc 4 1, 67, 0)
  | 67 => some (.goto 43, 70, 110)
  | 70 => some (.aload_n 0, 71, 0)
  | 71 => some (.iload 5, 73, 0)
  | 73 => some (.invokevirtual 40, 76, 0)
  | 76 => some (.iload_n 1, 77, 0)
  | 77 => some (.if_icmp .le 33, 80, 110)
  | 80 => some (.iload_n 1, 81, 0)
  | 81 => some (.aload_n 0, 82, 0)
  | 82 => some (.iload 6, 84, 0)
  | 84 => some (.invokevirtual 40, 87, 0)
  | 87 => some (.if_icmp .le 23, 90, 110)
  | 90 => some (.aload_n 0, 91, 0)
  | 91 => some (.iload 5, 93, 0)
  | 93 => some (.iload 6, 95, 0)
  | 95 => some (.iload_n 3, 96, 0)
  | 96 => some (.iload_n 1, 97, 0)
  | 97 => some (.invokevirtual 47, 100, 0)
  | 100 => some (.lconst 0, 101, 0)
  | 101 => some (.lcmp, 102, 0)
  | 102 => some (.ifCond .ge 5, 105, 107)
  | 105 => some (.iconst 0, 106, 0)
  | 106 => some (.ireturn, 107, 0)
  | 107 => some (.iinc 4 1, 110, 0)
  | 110 => some (.iinc 5 1, 113, 0)
  | 113 => some (.goto (-103), 116, 10)
  | 116 => some (.iload 4, 118, 0)
  | 118 => some (.ifCond .le 7, 121, 125)
  | 121 => some (.iconst 1, 122, 0)
  | 122 => some (.goto 4, 125, 126)
  | 125 => some (.iconst 0, 126, 0)
  | 126 => some (.ireturn, 127, 0)
  | _ => none
theorem tv_2_touches : ∀ pc i, sy_lk 127 tc_2_touches pc = some i → sy_chk c_2_touches (some .boolean) true pc i = true := sy_lk_ok 127 tc_2_touches (by decide +kernel)
def Mk_2_touches (ct : Nat → Option (Bool × Nat × sy_Sp)) : sy_M := (sy_lk 127 tc_2_touches, ff_2, ki_2, kl_2, ct, true)
def rn_2_touches (ns : Nat) (ct : Nat → Option (Bool × Nat × sy_Sp)) (R : sy_R) (K : sy_K) : Nat → sy_K := sy_run ns (Mk_2_touches ct) [10] R K
theorem rx_2_touches_0 {ns n ct R K s k z v1 v2 v3 v4 v5 v6} : rn_2_touches ns ct R K (n + 1) 0 [.inr (.inr (some z)), v1, v2, v3, v4, v5, v6] k s = (rn_2_touches ns ct R K n 1 [.inr (.inr (some z)), v1, v2, v3, v4, v5, v6] (.inr (.inr (some z)) :: k) s) := rfl
theorem rx_2_touches_1 {ns n ct R K s L k} : rn_2_touches ns ct R K (n + 1) 1 L k s = (sy_call false (ct 29) k s fun r t => rn_2_touches ns ct R K n 4 L r t) := rfl
theorem rx_2_touches_4 {ns n ct R K s L k} : rn_2_touches ns ct R K (n + 1) 4 L k s = (rn_2_touches ns ct R K n 5 L (.inl (true, 0) :: k) s) := rfl
theorem rx_2_touches_5 {ns n ct R K s L k b z} : rn_2_touches ns ct R K (n + 1) 5 L (.inl (b, z) :: k) s = (sy_ri b z ∧ 4 < L.length ∧ rn_2_touches ns ct R K n 7 (sy_sto L 4 (.inl (true, z))) k s) := rfl
theorem rx_2_touches_7 {ns n ct R K s L k} : rn_2_touches ns ct R K (n + 1) 7 L k s = (rn_2_touches ns ct R K n 8 L (.inl (true, 0) :: k) s) := rfl
theorem rx_2_touches_8 {ns n ct R K s L k b z} : rn_2_touches ns ct R K (n + 1) 8 L (.inl (b, z) :: k) s = (sy_ri b z ∧ 5 < L.length ∧ K 10 (sy_sto L 5 (.inl (true, z))) k s) := rfl
theorem rx_2_touches_10 {ns n ct R K s k z v0 v1 v2 v3 v4 v6} : rn_2_touches ns ct R K (n + 1) 10 [v0, v1, v2, v3, v4, .inl (true, z), v6] k s = (rn_2_touches ns ct R K n 12 [v0, v1, v2, v3, v4, .inl (true, z), v6] (.inl (true, z) :: k) s) := rfl
theorem rx_2_touches_12 {ns n ct R K s k z v1 v2 v3 v4 v5 v6} : rn_2_touches ns ct R K (n + 1) 12 [.inr (.inr (some z)), v1, v2, v3, v4, v5, v6] k s = (rn_2_touches ns ct R K n 13 [.inr (.inr (some z)), v1, v2, v3, v4, v5, v6] (.inr (.inr (some z)) :: k) s) := rfl
theorem rx_2_touches_13 {ns n ct R K s L k a} : rn_2_touches ns ct R K (n + 1) 13 L (.inr (.inr (some (some a))) :: k) s = (sy_ob a = some 2 ∧ rn_2_touches ns ct R K n 16 L (sy_fv s a 5 :: k) s) := rfl
theorem rx_2_touches_16 {ns n ct R K s L k a b x y} : rn_2_touches ns ct R K (n + 1) 16 L (.inl (b, y) :: .inl (a, x) :: k) s = (sy_ri a x ∧ sy_ri b y ∧ (y ≤ x → rn_2_touches ns ct R K n 116 L k s) ∧ (¬ y ≤ x → rn_2_touches ns ct R K n 19 L k s)) := rfl
theorem rx_2_touches_19 {ns n ct R K s k z v1 v2 v3 v4 v5 v6} : rn_2_touches ns ct R K (n + 1) 19 [.inr (.inr (some z)), v1, v2, v3, v4, v5, v6] k s = (rn_2_touches ns ct R K n 20 [.inr (.inr (some z)), v1, v2, v3, v4, v5, v6] (.inr (.inr (some z)) :: k) s) := rfl
theorem rx_2_touches_20 {ns n ct R K s k z v0 v1 v2 v3 v4 v6} : rn_2_touches ns ct R K (n + 1) 20 [v0, v1, v2, v3, v4, .inl (true, z), v6] k s = (rn_2_touches ns ct R K n 22 [v0, v1, v2, v3, v4, .inl (true, z), v6] (.inl (true, z) :: k) s) := rfl
theorem rx_2_touches_22 {ns n ct R K s L k} : rn_2_touches ns ct R K (n + 1) 22 L k s = (sy_call false (ct 43) k s fun r t => rn_2_touches ns ct R K n 25 L r t) := rfl
theorem rx_2_touches_25 {ns n ct R K s L k b z} : rn_2_touches ns ct R K (n + 1) 25 L (.inl (b, z) :: k) s = (sy_ri b z ∧ 6 < L.length ∧ rn_2_touches ns ct R K n 27 (sy_sto L 6 (.inl (true, z))) k s) := rfl
theorem rx_2_touches_27 {ns n ct R K s k z v1 v2 v3 v4 v5 v6} : rn_2_touches ns ct R K (n + 1) 27 [.inr (.inr (some z)), v1, v2, v3, v4, v5, v6] k s = (rn_2_touches ns ct R K n 28 [.inr (.inr (some z)), v1, v2, v3, v4, v5, v6] (.inr (.inr (some z)) :: k) s) := rfl
theorem rx_2_touches_28 {ns n ct R K s k z v0 v1 v2 v3 v4 v6} : rn_2_touches ns ct R K (n + 1) 28 [v0, v1, v2, v3, v4, .inl (true, z), v6] k s = (rn_2_touches ns ct R K n 30 [v0, v1, v2, v3, v4, .inl (true, z), v6] (.inl (true, z) :: k) s) := rfl
theorem rx_2_touches_30 {ns n ct R K s L k} : rn_2_touches ns ct R K (n + 1) 30 L k s = (sy_call false (ct 40) k s fun r t => rn_2_touches ns ct R K n 33 L r t) := rfl
theorem rx_2_touches_33 {ns n ct R K s k z v0 v2 v3 v4 v5 v6} : rn_2_touches ns ct R K (n + 1) 33 [v0, .inl (true, z), v2, v3, v4, v5, v6] k s = (rn_2_touches ns ct R K n 34 [v0, .inl (true, z), v2, v3, v4, v5, v6] (.inl (true, z) :: k) s) := rfl
theorem rx_2_touches_34 {ns n ct R K s L k a b x y} : rn_2_touches ns ct R K (n + 1) 34 L (.inl (b, y) :: .inl (a, x) :: k) s = (sy_ri a x ∧ sy_ri b y ∧ (y ≤ x → rn_2_touches ns ct R K n 70 L k s) ∧ (¬ y ≤ x → rn_2_touches ns ct R K n 37 L k s)) := rfl
theorem rx_2_touches_37 {ns n ct R K s k z v0 v2 v3 v4 v5 v6} : rn_2_touches ns ct R K (n + 1) 37 [v0, .inl (true, z), v2, v3, v4, v5, v6] k s = (rn_2_touches ns ct R K n 38 [v0, .inl (true, z), v2, v3, v4, v5, v6] (.inl (true, z) :: k) s) := rfl
theorem rx_2_touches_38 {ns n ct R K s k z v1 v2 v3 v4 v5 v6} : rn_2_touches ns ct R K (n + 1) 38 [.inr (.inr (some z)), v1, v2, v3, v4, v5, v6] k s = (rn_2_touches ns ct R K n 39 [.inr (.inr (some z)), v1, v2, v3, v4, v5, v6] (.inr (.inr (some z)) :: k) s) := rfl
theorem rx_2_touches_39 {ns n ct R K s k z v0 v1 v2 v3 v4 v5} : rn_2_touches ns ct R K (n + 1) 39 [v0, v1, v2, v3, v4, v5, .inl (true, z)] k s = (rn_2_touches ns ct R K n 41 [v0, v1, v2, v3, v4, v5, .inl (true, z)] (.inl (true, z) :: k) s) := rfl
theorem rx_2_touches_41 {ns n ct R K s L k} : rn_2_touches ns ct R K (n + 1) 41 L k s = (sy_call false (ct 40) k s fun r t => rn_2_touches ns ct R K n 44 L r t) := rfl
theorem rx_2_touches_44 {ns n ct R K s L k a b x y} : rn_2_touches ns ct R K (n + 1) 44 L (.inl (b, y) :: .inl (a, x) :: k) s = (sy_ri a x ∧ sy_ri b y ∧ (y ≤ x → rn_2_touches ns ct R K n 70 L k s) ∧ (¬ y ≤ x → rn_2_touches ns ct R K n 47 L k s)) := rfl
theorem rx_2_touches_47 {ns n ct R K s k z v1 v2 v3 v4 v5 v6} : rn_2_touches ns ct R K (n + 1) 47 [.inr (.inr (some z)), v1, v2, v3, v4, v5, v6] k s = (rn_2_touches ns ct R K n 48 [.inr (.inr (some z)), v1, v2, v3, v4, v5, v6] (.inr (.inr (some z)) :: k) s) := rfl
theorem rx_2_touches_48 {ns n ct R K s k z v0 v1 v2 v3 v4 v6} : rn_2_touches ns ct R K (n + 1) 48 [v0, v1, v2, v3, v4, .inl (true, z), v6] k s = (rn_2_touches ns ct R K n 50 [v0, v1, v2, v3, v4, .inl (true, z), v6] (.inl (true, z) :: k) s) := rfl
theorem rx_2_touches_50 {ns n ct R K s k z v0 v1 v2 v3 v4 v5} : rn_2_touches ns ct R K (n + 1) 50 [v0, v1, v2, v3, v4, v5, .inl (true, z)] k s = (rn_2_touches ns ct R K n 52 [v0, v1, v2, v3, v4, v5, .inl (true, z)] (.inl (true, z) :: k) s) := rfl
theorem rx_2_touches_52 {ns n ct R K s k z v0 v1 v3 v4 v5 v6} : rn_2_touches ns ct R K (n + 1) 52 [v0, v1, .inl (true, z), v3, v4, v5, v6] k s = (rn_2_touches ns ct R K n 53 [v0, v1, .inl (true, z), v3, v4, v5, v6] (.inl (true, z) :: k) s) := rfl
theorem rx_2_touches_53 {ns n ct R K s k z v0 v2 v3 v4 v5 v6} : rn_2_touches ns ct R K (n + 1) 53 [v0, .inl (true, z), v2, v3, v4, v5, v6] k s = (rn_2_touches ns ct R K n 54 [v0, .inl (true, z), v2, v3, v4, v5, v6] (.inl (true, z) :: k) s) := rfl
theorem rx_2_touches_54 {ns n ct R K s L k} : rn_2_touches ns ct R K (n + 1) 54 L k s = (sy_call false (ct 47) k s fun r t => rn_2_touches ns ct R K n 57 L r t) := rfl
theorem rx_2_touches_57 {ns n ct R K s L k} : rn_2_touches ns ct R K (n + 1) 57 L k s = (rn_2_touches ns ct R K n 58 L (.inr (.inl (true, 0)) :: k) s) := rfl
theorem rx_2_touches_58 {ns n ct R K s L k a b x y} : rn_2_touches ns ct R K (n + 1) 58 L (.inr (.inl (b, y)) :: .inr (.inl (a, x)) :: k) s = (sy_rl a x ∧ sy_rl b y ∧ rn_2_touches ns ct R K n 59 L (.inl (true, sy_cmp x y) :: k) s) := rfl
theorem rx_2_touches_59 {ns n ct R K s L k a x} : rn_2_touches ns ct R K (n + 1) 59 L (.inl (a, x) :: k) s = (sy_ri a x ∧ (0 ≤ x → rn_2_touches ns ct R K n 64 L k s) ∧ (¬ 0 ≤ x → rn_2_touches ns ct R K n 62 L k s)) := rfl
theorem rx_2_touches_62 {ns n ct R K s L k} : rn_2_touches ns ct R K (n + 1) 62 L k s = (rn_2_touches ns ct R K n 63 L (.inl (true, 0) :: k) s) := rfl
theorem rx_2_touches_63 {ns n ct R K s L a z} : rn_2_touches ns ct R K (n + 1) 63 L [.inl (a, z)] s = (sy_ri a z ∧ sy_b01 true z ∧ R (some (.inl (true, z))) s) := rfl
theorem rx_2_touches_64 {ns n ct R K s k z v0 v1 v2 v3 v5 v6} : rn_2_touches ns ct R K (n + 1) 64 [v0, v1, v2, v3, .inl (true, z), v5, v6] k s = ((-2147483648 ≤ z + 1 ∧ z + 1 < 2147483648) ∧ rn_2_touches ns ct R K n 67 (sy_sto [v0, v1, v2, v3, .inl (true, z), v5, v6] 4 (.inl (true, z + 1))) k s) := rfl
theorem rx_2_touches_67 {ns n ct R K s L k} : rn_2_touches ns ct R K (n + 1) 67 L k s = (rn_2_touches ns ct R K n 110 L k s) := rfl
theorem rx_2_touches_70 {ns n ct R K s k z v1 v2 v3 v4 v5 v6} : rn_2_touches ns ct R K (n + 1) 70 [.inr (.inr (some z)), v1, v2, v3, v4, v5, v6] k s = (rn_2_touches ns ct R K n 71 [.inr (.inr (some z)), v1, v2, v3, v4, v5, v6] (.inr (.inr (some z)) :: k) s) := rfl
theorem rx_2_touches_71 {ns n ct R K s k z v0 v1 v2 v3 v4 v6} : rn_2_touches ns ct R K (n + 1) 71 [v0, v1, v2, v3, v4, .inl (true, z), v6] k s = (rn_2_touches ns ct R K n 73 [v0, v1, v2, v3, v4, .inl (true, z), v6] (.inl (true, z) :: k) s) := rfl
theorem rx_2_touches_73 {ns n ct R K s L k} : rn_2_touches ns ct R K (n + 1) 73 L k s = (sy_call false (ct 40) k s fun r t => rn_2_touches ns ct R K n 76 L r t) := rfl
theorem rx_2_touches_76 {ns n ct R K s k z v0 v2 v3 v4 v5 v6} : rn_2_touches ns ct R K (n + 1) 76 [v0, .inl (true, z), v2, v3, v4, v5, v6] k s = (rn_2_touches ns ct R K n 77 [v0, .inl (true, z), v2, v3, v4, v5, v6] (.inl (true, z) :: k) s) := rfl
theorem rx_2_touches_77 {ns n ct R K s L k a b x y} : rn_2_touches ns ct R K (n + 1) 77 L (.inl (b, y) :: .inl (a, x) :: k) s = (sy_ri a x ∧ sy_ri b y ∧ (x ≤ y → rn_2_touches ns ct R K n 110 L k s) ∧ (¬ x ≤ y → rn_2_touches ns ct R K n 80 L k s)) := rfl
theorem rx_2_touches_80 {ns n ct R K s k z v0 v2 v3 v4 v5 v6} : rn_2_touches ns ct R K (n + 1) 80 [v0, .inl (true, z), v2, v3, v4, v5, v6] k s = (rn_2_touches ns ct R K n 81 [v0, .inl (true, z), v2, v3, v4, v5, v6] (.inl (true, z) :: k) s) := rfl
theorem rx_2_touches_81 {ns n ct R K s k z v1 v2 v3 v4 v5 v6} : rn_2_touches ns ct R K (n + 1) 81 [.inr (.inr (some z)), v1, v2, v3, v4, v5, v6] k s = (rn_2_touches ns ct R K n 82 [.inr (.inr (some z)), v1, v2, v3, v4, v5, v6] (.inr (.inr (some z)) :: k) s) := rfl
theorem rx_2_touches_82 {ns n ct R K s k z v0 v1 v2 v3 v4 v5} : rn_2_touches ns ct R K (n + 1) 82 [v0, v1, v2, v3, v4, v5, .inl (true, z)] k s = (rn_2_touches ns ct R K n 84 [v0, v1, v2, v3, v4, v5, .inl (true, z)] (.inl (true, z) :: k) s) := rfl
theorem rx_2_touches_84 {ns n ct R K s L k} : rn_2_touches ns ct R K (n + 1) 84 L k s = (sy_call false (ct 40) k s fun r t => rn_2_touches ns ct R K n 87 L r t) := rfl
theorem rx_2_touches_87 {ns n ct R K s L k a b x y} : rn_2_touches ns ct R K (n + 1) 87 L (.inl (b, y) :: .inl (a, x) :: k) s = (sy_ri a x ∧ sy_ri b y ∧ (x ≤ y → rn_2_touches ns ct R K n 110 L k s) ∧ (¬ x ≤ y → rn_2_touches ns ct R K n 90 L k s)) := rfl
theorem rx_2_touches_90 {ns n ct R K s k z v1 v2 v3 v4 v5 v6} : rn_2_touches ns ct R K (n + 1) 90 [.inr (.inr (some z)), v1, v2, v3, v4, v5, v6] k s = (rn_2_touches ns ct R K n 91 [.inr (.inr (some z)), v1, v2, v3, v4, v5, v6] (.inr (.inr (some z)) :: k) s) := rfl
theorem rx_2_touches_91 {ns n ct R K s k z v0 v1 v2 v3 v4 v6} : rn_2_touches ns ct R K (n + 1) 91 [v0, v1, v2, v3, v4, .inl (true, z), v6] k s = (rn_2_touches ns ct R K n 93 [v0, v1, v2, v3, v4, .inl (true, z), v6] (.inl (true, z) :: k) s) := rfl
theorem rx_2_touches_93 {ns n ct R K s k z v0 v1 v2 v3 v4 v5} : rn_2_touches ns ct R K (n + 1) 93 [v0, v1, v2, v3, v4, v5, .inl (true, z)] k s = (rn_2_touches ns ct R K n 95 [v0, v1, v2, v3, v4, v5, .inl (true, z)] (.inl (true, z) :: k) s) := rfl
theorem rx_2_touches_95 {ns n ct R K s k z v0 v1 v2 v4 v5 v6} : rn_2_touches ns ct R K (n + 1) 95 [v0, v1, v2, .inl (true, z), v4, v5, v6] k s = (rn_2_touches ns ct R K n 96 [v0, v1, v2, .inl (true, z), v4, v5, v6] (.inl (true, z) :: k) s) := rfl
theorem rx_2_touches_96 {ns n ct R K s k z v0 v2 v3 v4 v5 v6} : rn_2_touches ns ct R K (n + 1) 96 [v0, .inl (true, z), v2, v3, v4, v5, v6] k s = (rn_2_touches ns ct R K n 97 [v0, .inl (true, z), v2, v3, v4, v5, v6] (.inl (true, z) :: k) s) := rfl
theorem rx_2_touches_97 {ns n ct R K s L k} : rn_2_touches ns ct R K (n + 1) 97 L k s = (sy_call false (ct 47) k s fun r t => rn_2_touches ns ct R K n 100 L r t) := rfl
theorem rx_2_touches_100 {ns n ct R K s L k} : rn_2_touches ns ct R K (n + 1) 100 L k s = (rn_2_touches ns ct R K n 101 L (.inr (.inl (true, 0)) :: k) s) := rfl
theorem rx_2_touches_101 {ns n ct R K s L k a b x y} : rn_2_touches ns ct R K (n + 1) 101 L (.inr (.inl (b, y)) :: .inr (.inl (a, x)) :: k) s = (sy_rl a x ∧ sy_rl b y ∧ rn_2_touches ns ct R K n 102 L (.inl (true, sy_cmp x y) :: k) s) := rfl
theorem rx_2_touches_102 {ns n ct R K s L k a x} : rn_2_touches ns ct R K (n + 1) 102 L (.inl (a, x) :: k) s = (sy_ri a x ∧ (0 ≤ x → rn_2_touches ns ct R K n 107 L k s) ∧ (¬ 0 ≤ x → rn_2_touches ns ct R K n 105 L k s)) := rfl
theorem rx_2_touches_105 {ns n ct R K s L k} : rn_2_touches ns ct R K (n + 1) 105 L k s = (rn_2_touches ns ct R K n 106 L (.inl (true, 0) :: k) s) := rfl
theorem rx_2_touches_106 {ns n ct R K s L a z} : rn_2_touches ns ct R K (n + 1) 106 L [.inl (a, z)] s = (sy_ri a z ∧ sy_b01 true z ∧ R (some (.inl (true, z))) s) := rfl
theorem rx_2_touches_107 {ns n ct R K s k z v0 v1 v2 v3 v5 v6} : rn_2_touches ns ct R K (n + 1) 107 [v0, v1, v2, v3, .inl (true, z), v5, v6] k s = ((-2147483648 ≤ z + 1 ∧ z + 1 < 2147483648) ∧ rn_2_touches ns ct R K n 110 (sy_sto [v0, v1, v2, v3, .inl (true, z), v5, v6] 4 (.inl (true, z + 1))) k s) := rfl
theorem rx_2_touches_110 {ns n ct R K s k z v0 v1 v2 v3 v4 v6} : rn_2_touches ns ct R K (n + 1) 110 [v0, v1, v2, v3, v4, .inl (true, z), v6] k s = ((-2147483648 ≤ z + 1 ∧ z + 1 < 2147483648) ∧ rn_2_touches ns ct R K n 113 (sy_sto [v0, v1, v2, v3, v4, .inl (true, z), v6] 5 (.inl (true, z + 1))) k s) := rfl
theorem rx_2_touches_113 {ns n ct R K s L k} : rn_2_touches ns ct R K (n + 1) 113 L k s = (K 10 L k s) := rfl
theorem rx_2_touches_116 {ns n ct R K s k z v0 v1 v2 v3 v5 v6} : rn_2_touches ns ct R K (n + 1) 116 [v0, v1, v2, v3, .inl (true, z), v5, v6] k s = (rn_2_touches ns ct R K n 118 [v0, v1, v2, v3, .inl (true, z), v5, v6] (.inl (true, z) :: k) s) := rfl
theorem rx_2_touches_118 {ns n ct R K s L k a x} : rn_2_touches ns ct R K (n + 1) 118 L (.inl (a, x) :: k) s = (sy_ri a x ∧ (x ≤ 0 → rn_2_touches ns ct R K n 125 L k s) ∧ (¬ x ≤ 0 → rn_2_touches ns ct R K n 121 L k s)) := rfl
theorem rx_2_touches_121 {ns n ct R K s L k} : rn_2_touches ns ct R K (n + 1) 121 L k s = (rn_2_touches ns ct R K n 122 L (.inl (true, 1) :: k) s) := rfl
theorem rx_2_touches_122 {ns n ct R K s L k} : rn_2_touches ns ct R K (n + 1) 122 L k s = (rn_2_touches ns ct R K n 126 L k s) := rfl
theorem rx_2_touches_125 {ns n ct R K s L k} : rn_2_touches ns ct R K (n + 1) 125 L k s = (rn_2_touches ns ct R K n 126 L (.inl (true, 0) :: k) s) := rfl
theorem rx_2_touches_126 {ns n ct R K s L a z} : rn_2_touches ns ct R K (n + 1) 126 L [.inl (a, z)] s = (sy_ri a z ∧ sy_b01 true z ∧ R (some (.inl (true, z))) s) := rfl
def y_2_after : MethodName := ⟨"StarHide$Hull", "after", "(I)I"⟩
abbrev c_2_after : ByteArray := prog_4_method_8_code
def tc_2_after (pc : Nat) : Option sy_I := match pc with
  | 0 => some (.iload_n 1, 1, 0)
  | 1 => some (.iconst 1, 2, 0)
  | 2 => some (.iadd, 3, 0)
  | 3 => some (.aload_n 0, 4, 0)
  | 4 => some (.getfield 32, 7, 0)
  | 7 => some (.if_icmp .ge 9, 10, 16)
  | 10 => some (.iload_n 1, 11, 0)
  | 11 => some (.iconst 1, 12, 0)
  | 12 => some (.iadd, 13, 0)
  | 13 => some (.goto 4, 16, 17)
  | 16 => some (.iconst 0, 17, 0)
  | 17 => some (.ireturn, 18, 0)
  | _ => none
theorem tv_2_after : ∀ pc i, sy_lk 18 tc_2_after pc = some i → sy_chk c_2_after (some .int) false pc i = true := sy_lk_ok 18 tc_2_after (by decide +kernel)
def Mk_2_after (ct : Nat → Option (Bool × Nat × sy_Sp)) : sy_M := (sy_lk 18 tc_2_after, ff_2, ki_2, kl_2, ct, false)
def rn_2_after (ns : Nat) (ct : Nat → Option (Bool × Nat × sy_Sp)) (R : sy_R) (K : sy_K) : Nat → sy_K := sy_run ns (Mk_2_after ct) [] R K
theorem rx_2_after_0 {ns n ct R K s k z v0} : rn_2_after ns ct R K (n + 1) 0 [v0, .inl (true, z)] k s = (rn_2_after ns ct R K n 1 [v0, .inl (true, z)] (.inl (true, z) :: k) s) := rfl
theorem rx_2_after_1 {ns n ct R K s L k} : rn_2_after ns ct R K (n + 1) 1 L k s = (rn_2_after ns ct R K n 2 L (.inl (true, 1) :: k) s) := rfl
theorem rx_2_after_2 {ns n ct R K s L k a b x y} : rn_2_after ns ct R K (n + 1) 2 L (.inl (b, y) :: .inl (a, x) :: k) s = (rn_2_after ns ct R K n 3 L (.inl (false, x + y) :: k) s) := rfl
theorem rx_2_after_3 {ns n ct R K s k z v1} : rn_2_after ns ct R K (n + 1) 3 [.inr (.inr (some z)), v1] k s = (rn_2_after ns ct R K n 4 [.inr (.inr (some z)), v1] (.inr (.inr (some z)) :: k) s) := rfl
theorem rx_2_after_4 {ns n ct R K s L k a} : rn_2_after ns ct R K (n + 1) 4 L (.inr (.inr (some (some a))) :: k) s = (sy_ob a = some 2 ∧ rn_2_after ns ct R K n 7 L (sy_fv s a 5 :: k) s) := rfl
theorem rx_2_after_7 {ns n ct R K s L k a b x y} : rn_2_after ns ct R K (n + 1) 7 L (.inl (b, y) :: .inl (a, x) :: k) s = (sy_ri a x ∧ sy_ri b y ∧ (y ≤ x → rn_2_after ns ct R K n 16 L k s) ∧ (¬ y ≤ x → rn_2_after ns ct R K n 10 L k s)) := rfl
theorem rx_2_after_10 {ns n ct R K s k z v0} : rn_2_after ns ct R K (n + 1) 10 [v0, .inl (true, z)] k s = (rn_2_after ns ct R K n 11 [v0, .inl (true, z)] (.inl (true, z) :: k) s) := rfl
theorem rx_2_after_11 {ns n ct R K s L k} : rn_2_after ns ct R K (n + 1) 11 L k s = (rn_2_after ns ct R K n 12 L (.inl (true, 1) :: k) s) := rfl
theorem rx_2_after_12 {ns n ct R K s L k a b x y} : rn_2_after ns ct R K (n + 1) 12 L (.inl (b, y) :: .inl (a, x) :: k) s = (rn_2_after ns ct R K n 13 L (.inl (false, x + y) :: k) s) := rfl
theorem rx_2_after_13 {ns n ct R K s L k} : rn_2_after ns ct R K (n + 1) 13 L k s = (rn_2_after ns ct R K n 17 L k s) := rfl
theorem rx_2_after_16 {ns n ct R K s L k} : rn_2_after ns ct R K (n + 1) 16 L k s = (rn_2_after ns ct R K n 17 L (.inl (true, 0) :: k) s) := rfl
theorem rx_2_after_17 {ns n ct R K s L a z} : rn_2_after ns ct R K (n + 1) 17 L [.inl (a, z)] s = (sy_ri a z ∧ sy_b01 false z ∧ R (some (.inl (true, z))) s) := rfl
def y_2_sideOf : MethodName := ⟨"StarHide$Hull", "sideOf", "(IIII)J"⟩
abbrev c_2_sideOf : ByteArray := prog_4_method_9_code
def tc_2_sideOf (pc : Nat) : Option sy_I := match pc with
  | 0 => some (.aload_n 0, 1, 0)
  | 1 => some (.aload_n 0, 2, 0)
  | 2 => some (.getfield 18, 5, 0)
  | 5 => some (.iload_n 1, 6, 0)
  | 6 => some (.iaload, 7, 0)
  | 7 => some (.aload_n 0, 8, 0)
  | 8 => some (.getfield 18, 11, 0)
  | 11 => some (.iload_n 2, 12, 0)
  | 12 => some (.iaload, 13, 0)
  | 13 => some (.iload_n 3, 14, 0)
  | 14 => some (.iload 4, 16, 0)
  | 16 => some (.invokevirtual 51, 19, 0)
  | 19 => some (.lreturn, 20, 0)
  | _ => none
theorem tv_2_sideOf : ∀ pc i, sy_lk 20 tc_2_sideOf pc = some i → sy_chk c_2_sideOf (some .long) false pc i = true := sy_lk_ok 20 tc_2_sideOf (by decide +kernel)
def Mk_2_sideOf (ct : Nat → Option (Bool × Nat × sy_Sp)) : sy_M := (sy_lk 20 tc_2_sideOf, ff_2, ki_2, kl_2, ct, false)
def rn_2_sideOf (ns : Nat) (ct : Nat → Option (Bool × Nat × sy_Sp)) (R : sy_R) (K : sy_K) : Nat → sy_K := sy_run ns (Mk_2_sideOf ct) [] R K
theorem rx_2_sideOf_0 {ns n ct R K s k z v1 v2 v3 v4} : rn_2_sideOf ns ct R K (n + 1) 0 [.inr (.inr (some z)), v1, v2, v3, v4] k s = (rn_2_sideOf ns ct R K n 1 [.inr (.inr (some z)), v1, v2, v3, v4] (.inr (.inr (some z)) :: k) s) := rfl
theorem rx_2_sideOf_1 {ns n ct R K s k z v1 v2 v3 v4} : rn_2_sideOf ns ct R K (n + 1) 1 [.inr (.inr (some z)), v1, v2, v3, v4] k s = (rn_2_sideOf ns ct R K n 2 [.inr (.inr (some z)), v1, v2, v3, v4] (.inr (.inr (some z)) :: k) s) := rfl
theorem rx_2_sideOf_2 {ns n ct R K s L k a} : rn_2_sideOf ns ct R K (n + 1) 2 L (.inr (.inr (some (some a))) :: k) s = (sy_ob a = some 2 ∧ rn_2_sideOf ns ct R K n 5 L (sy_fv s a 4 :: k) s) := rfl
theorem rx_2_sideOf_5 {ns n ct R K s k z v0 v2 v3 v4} : rn_2_sideOf ns ct R K (n + 1) 5 [v0, .inl (true, z), v2, v3, v4] k s = (rn_2_sideOf ns ct R K n 6 [v0, .inl (true, z), v2, v3, v4] (.inl (true, z) :: k) s) := rfl
theorem rx_2_sideOf_6 {ns n ct R K s L k a b z} : rn_2_sideOf ns ct R K (n + 1) 6 L (.inl (b, z) :: .inr (.inr (some (some a))) :: k) s = ((0 ≤ z ∧ z < (sy_ar a).2) ∧ sy_ob a = none ∧ (sy_ar a).1 = 0 ∧ rn_2_sideOf ns ct R K n 7 L (.inl (true, s a z.toNat) :: k) s) := rfl
theorem rx_2_sideOf_7 {ns n ct R K s k z v1 v2 v3 v4} : rn_2_sideOf ns ct R K (n + 1) 7 [.inr (.inr (some z)), v1, v2, v3, v4] k s = (rn_2_sideOf ns ct R K n 8 [.inr (.inr (some z)), v1, v2, v3, v4] (.inr (.inr (some z)) :: k) s) := rfl
theorem rx_2_sideOf_8 {ns n ct R K s L k a} : rn_2_sideOf ns ct R K (n + 1) 8 L (.inr (.inr (some (some a))) :: k) s = (sy_ob a = some 2 ∧ rn_2_sideOf ns ct R K n 11 L (sy_fv s a 4 :: k) s) := rfl
theorem rx_2_sideOf_11 {ns n ct R K s k z v0 v1 v3 v4} : rn_2_sideOf ns ct R K (n + 1) 11 [v0, v1, .inl (true, z), v3, v4] k s = (rn_2_sideOf ns ct R K n 12 [v0, v1, .inl (true, z), v3, v4] (.inl (true, z) :: k) s) := rfl
theorem rx_2_sideOf_12 {ns n ct R K s L k a b z} : rn_2_sideOf ns ct R K (n + 1) 12 L (.inl (b, z) :: .inr (.inr (some (some a))) :: k) s = ((0 ≤ z ∧ z < (sy_ar a).2) ∧ sy_ob a = none ∧ (sy_ar a).1 = 0 ∧ rn_2_sideOf ns ct R K n 13 L (.inl (true, s a z.toNat) :: k) s) := rfl
theorem rx_2_sideOf_13 {ns n ct R K s k z v0 v1 v2 v4} : rn_2_sideOf ns ct R K (n + 1) 13 [v0, v1, v2, .inl (true, z), v4] k s = (rn_2_sideOf ns ct R K n 14 [v0, v1, v2, .inl (true, z), v4] (.inl (true, z) :: k) s) := rfl
theorem rx_2_sideOf_14 {ns n ct R K s k z v0 v1 v2 v3} : rn_2_sideOf ns ct R K (n + 1) 14 [v0, v1, v2, v3, .inl (true, z)] k s = (rn_2_sideOf ns ct R K n 16 [v0, v1, v2, v3, .inl (true, z)] (.inl (true, z) :: k) s) := rfl
theorem rx_2_sideOf_16 {ns n ct R K s L k} : rn_2_sideOf ns ct R K (n + 1) 16 L k s = (sy_call false (ct 51) k s fun r t => rn_2_sideOf ns ct R K n 19 L r t) := rfl
theorem rx_2_sideOf_19 {ns n ct R K s L a z} : rn_2_sideOf ns ct R K (n + 1) 19 L [.inr (.inl (a, z))] s = (sy_rl a z ∧ R (some (.inr (.inl (true, z)))) s) := rfl
def y_2_turn : MethodName := ⟨"StarHide$Hull", "turn", "(IIII)J"⟩
abbrev c_2_turn : ByteArray := prog_4_method_10_code
def tc_2_turn (pc : Nat) : Option sy_I := match pc with
  | 0 => some (.aload_n 0, 1, 0)
  | 1 => some (.getfield 11, 4, 0)
  | 4 => some (.iload_n 2, 5, 0)
  | 5 => some (.iaload, 6, 0)
  | 6 => some (.i2l, 7, 0)
  | 7 => some (.aload_n 0, 8, 0)
  | 8 => some (.getfield 11, 11, 0)
  | 11 => some (.iload_n 1, 12, 0)
  | 12 => some (.iaload, 13, 0)
  | 13 => some (.i2l, 14, 0)
  | 14 => some (.lsub, 15, 0)
  | 15 => some (.iload 4, 17, 0)
  | 17 => some (.aload_n 0, 18, 0)
  | 18 => some (.getfield 15, 21, 0)
  | 21 => some (.iload_n 1, 22, 0)
  | 22 => some (.iaload, 23, 0)
  | 23 => some (.isub, 24, 0)
  | 24 => some (.i2l, 25, 0)
  | 25 => some (.lmul, 26, 0)
  | 26 => some (.aload_n 0, 27, 0)
  | 27 => some (.getfield 15, 30, 0)
  | 30 => some (.iload_n 2, 31, 0)
  | 31 => some (.iaload, 32, 0)
  | 32 => some (.i2l, 33, 0)
  | 33 => some (.aload_n 0, 34, 0)
  | 34 => some (.getfield 15, 37, 0)
  | 37 => some (.iload_n 1, 38, 0)
  | 38 => some (.iaload, 39, 0)
  | 39 => some (.i2l, 40, 0)
  | 40 => some (.lsub, 41, 0)
  | 41 => some (.iload_n 3, 42, 0)
  | 42 => some (.aload_n 0, 43, 0)
  | 43 => some (.getfield 11, 46, 0)
  | 46 => some (.iload_n 1, 47, 0)
  | 47 => some (.iaload, 48, 0)
  | 48 => some (.isub, 49, 0)
  | 49 => some (.i2l, 50, 0)
  | 50 => some (.lmul, 51, 0)
  | 51 => some (.lsub, 52, 0)
  | 52 => some (.lreturn, 53, 0)
  | _ => none
theorem tv_2_turn : ∀ pc i, sy_lk 53 tc_2_turn pc = some i → sy_chk c_2_turn (some .long) false pc i = true := sy_lk_ok 53 tc_2_turn (by decide +kernel)
def Mk_2_turn (ct : Nat → Option (Bool × Nat × sy_Sp)) : sy_M := (sy_lk 53 tc_2_turn, ff_2, ki_2, kl_2, ct, false)
def rn_2_turn (ns : Nat) (ct : Nat → Option (Bool × Nat × sy_Sp)) (R : sy_R) (K : sy_K) : Nat → sy_K := sy_run ns (Mk_2_turn ct) [] R K
theorem rx_2_turn_0 {ns n ct R K s k z v1 v2 v3 v4} : rn_2_turn ns ct R K (n + 1) 0 [.inr (.inr (some z)), v1, v2, v3, v4] k s = (rn_2_turn ns ct R K n 1 [.inr (.inr (some z)), v1, v2, v3, v4] (.inr (.inr (some z)) :: k) s) := rfl
theorem rx_2_turn_1 {ns n ct R K s L k a} : rn_2_turn ns ct R K (n + 1) 1 L (.inr (.inr (some (some a))) :: k) s = (sy_ob a = some 2 ∧ rn_2_turn ns ct R K n 4 L (sy_fv s a 1 :: k) s) := rfl
theorem rx_2_turn_4 {ns n ct R K s k z v0 v1 v3 v4} : rn_2_turn ns ct R K (n + 1) 4 [v0, v1, .inl (true, z), v3, v4] k s = (rn_2_turn ns ct R K n 5 [v0, v1, .inl (true, z), v3, v4] (.inl (true, z) :: k) s) := rfl
theorem rx_2_turn_5 {ns n ct R K s L k a b z} : rn_2_turn ns ct R K (n + 1) 5 L (.inl (b, z) :: .inr (.inr (some (some a))) :: k) s = ((0 ≤ z ∧ z < (sy_ar a).2) ∧ sy_ob a = none ∧ (sy_ar a).1 = 0 ∧ rn_2_turn ns ct R K n 6 L (.inl (true, s a z.toNat) :: k) s) := rfl
theorem rx_2_turn_6 {ns n ct R K s L k a x} : rn_2_turn ns ct R K (n + 1) 6 L (.inl (a, x) :: k) s = (sy_ri a x ∧ rn_2_turn ns ct R K n 7 L (.inr (.inl (true, x)) :: k) s) := rfl
theorem rx_2_turn_7 {ns n ct R K s k z v1 v2 v3 v4} : rn_2_turn ns ct R K (n + 1) 7 [.inr (.inr (some z)), v1, v2, v3, v4] k s = (rn_2_turn ns ct R K n 8 [.inr (.inr (some z)), v1, v2, v3, v4] (.inr (.inr (some z)) :: k) s) := rfl
theorem rx_2_turn_8 {ns n ct R K s L k a} : rn_2_turn ns ct R K (n + 1) 8 L (.inr (.inr (some (some a))) :: k) s = (sy_ob a = some 2 ∧ rn_2_turn ns ct R K n 11 L (sy_fv s a 1 :: k) s) := rfl
theorem rx_2_turn_11 {ns n ct R K s k z v0 v2 v3 v4} : rn_2_turn ns ct R K (n + 1) 11 [v0, .inl (true, z), v2, v3, v4] k s = (rn_2_turn ns ct R K n 12 [v0, .inl (true, z), v2, v3, v4] (.inl (true, z) :: k) s) := rfl
theorem rx_2_turn_12 {ns n ct R K s L k a b z} : rn_2_turn ns ct R K (n + 1) 12 L (.inl (b, z) :: .inr (.inr (some (some a))) :: k) s = ((0 ≤ z ∧ z < (sy_ar a).2) ∧ sy_ob a = none ∧ (sy_ar a).1 = 0 ∧ rn_2_turn ns ct R K n 13 L (.inl (true, s a z.toNat) :: k) s) := rfl
theorem rx_2_turn_13 {ns n ct R K s L k a x} : rn_2_turn ns ct R K (n + 1) 13 L (.inl (a, x) :: k) s = (sy_ri a x ∧ rn_2_turn ns ct R K n 14 L (.inr (.inl (true, x)) :: k) s) := rfl
theorem rx_2_turn_14 {ns n ct R K s L k a b x y} : rn_2_turn ns ct R K (n + 1) 14 L (.inr (.inl (b, y)) :: .inr (.inl (a, x)) :: k) s = (rn_2_turn ns ct R K n 15 L (.inr (.inl (false, x - y)) :: k) s) := rfl
theorem rx_2_turn_15 {ns n ct R K s k z v0 v1 v2 v3} : rn_2_turn ns ct R K (n + 1) 15 [v0, v1, v2, v3, .inl (true, z)] k s = (rn_2_turn ns ct R K n 17 [v0, v1, v2, v3, .inl (true, z)] (.inl (true, z) :: k) s) := rfl
theorem rx_2_turn_17 {ns n ct R K s k z v1 v2 v3 v4} : rn_2_turn ns ct R K (n + 1) 17 [.inr (.inr (some z)), v1, v2, v3, v4] k s = (rn_2_turn ns ct R K n 18 [.inr (.inr (some z)), v1, v2, v3, v4] (.inr (.inr (some z)) :: k) s) := rfl
theorem rx_2_turn_18 {ns n ct R K s L k a} : rn_2_turn ns ct R K (n + 1) 18 L (.inr (.inr (some (some a))) :: k) s = (sy_ob a = some 2 ∧ rn_2_turn ns ct R K n 21 L (sy_fv s a 2 :: k) s) := rfl
theorem rx_2_turn_21 {ns n ct R K s k z v0 v2 v3 v4} : rn_2_turn ns ct R K (n + 1) 21 [v0, .inl (true, z), v2, v3, v4] k s = (rn_2_turn ns ct R K n 22 [v0, .inl (true, z), v2, v3, v4] (.inl (true, z) :: k) s) := rfl
theorem rx_2_turn_22 {ns n ct R K s L k a b z} : rn_2_turn ns ct R K (n + 1) 22 L (.inl (b, z) :: .inr (.inr (some (some a))) :: k) s = ((0 ≤ z ∧ z < (sy_ar a).2) ∧ sy_ob a = none ∧ (sy_ar a).1 = 0 ∧ rn_2_turn ns ct R K n 23 L (.inl (true, s a z.toNat) :: k) s) := rfl
theorem rx_2_turn_23 {ns n ct R K s L k a b x y} : rn_2_turn ns ct R K (n + 1) 23 L (.inl (b, y) :: .inl (a, x) :: k) s = (rn_2_turn ns ct R K n 24 L (.inl (false, x - y) :: k) s) := rfl
theorem rx_2_turn_24 {ns n ct R K s L k a x} : rn_2_turn ns ct R K (n + 1) 24 L (.inl (a, x) :: k) s = (sy_ri a x ∧ rn_2_turn ns ct R K n 25 L (.inr (.inl (true, x)) :: k) s) := rfl
theorem rx_2_turn_25 {ns n ct R K s L k a b x y} : rn_2_turn ns ct R K (n + 1) 25 L (.inr (.inl (b, y)) :: .inr (.inl (a, x)) :: k) s = (rn_2_turn ns ct R K n 26 L (.inr (.inl (false, x * y)) :: k) s) := rfl
theorem rx_2_turn_26 {ns n ct R K s k z v1 v2 v3 v4} : rn_2_turn ns ct R K (n + 1) 26 [.inr (.inr (some z)), v1, v2, v3, v4] k s = (rn_2_turn ns ct R K n 27 [.inr (.inr (some z)), v1, v2, v3, v4] (.inr (.inr (some z)) :: k) s) := rfl
theorem rx_2_turn_27 {ns n ct R K s L k a} : rn_2_turn ns ct R K (n + 1) 27 L (.inr (.inr (some (some a))) :: k) s = (sy_ob a = some 2 ∧ rn_2_turn ns ct R K n 30 L (sy_fv s a 2 :: k) s) := rfl
theorem rx_2_turn_30 {ns n ct R K s k z v0 v1 v3 v4} : rn_2_turn ns ct R K (n + 1) 30 [v0, v1, .inl (true, z), v3, v4] k s = (rn_2_turn ns ct R K n 31 [v0, v1, .inl (true, z), v3, v4] (.inl (true, z) :: k) s) := rfl
theorem rx_2_turn_31 {ns n ct R K s L k a b z} : rn_2_turn ns ct R K (n + 1) 31 L (.inl (b, z) :: .inr (.inr (some (some a))) :: k) s = ((0 ≤ z ∧ z < (sy_ar a).2) ∧ sy_ob a = none ∧ (sy_ar a).1 = 0 ∧ rn_2_turn ns ct R K n 32 L (.inl (true, s a z.toNat) :: k) s) := rfl
theorem rx_2_turn_32 {ns n ct R K s L k a x} : rn_2_turn ns ct R K (n + 1) 32 L (.inl (a, x) :: k) s = (sy_ri a x ∧ rn_2_turn ns ct R K n 33 L (.inr (.inl (true, x)) :: k) s) := rfl
theorem rx_2_turn_33 {ns n ct R K s k z v1 v2 v3 v4} : rn_2_turn ns ct R K (n + 1) 33 [.inr (.inr (some z)), v1, v2, v3, v4] k s = (rn_2_turn ns ct R K n 34 [.inr (.inr (some z)), v1, v2, v3, v4] (.inr (.inr (some z)) :: k) s) := rfl
theorem rx_2_turn_34 {ns n ct R K s L k a} : rn_2_turn ns ct R K (n + 1) 34 L (.inr (.inr (some (some a))) :: k) s = (sy_ob a = some 2 ∧ rn_2_turn ns ct R K n 37 L (sy_fv s a 2 :: k) s) := rfl
theorem rx_2_turn_37 {ns n ct R K s k z v0 v2 v3 v4} : rn_2_turn ns ct R K (n + 1) 37 [v0, .inl (true, z), v2, v3, v4] k s = (rn_2_turn ns ct R K n 38 [v0, .inl (true, z), v2, v3, v4] (.inl (true, z) :: k) s) := rfl
theorem rx_2_turn_38 {ns n ct R K s L k a b z} : rn_2_turn ns ct R K (n + 1) 38 L (.inl (b, z) :: .inr (.inr (some (some a))) :: k) s = ((0 ≤ z ∧ z < (sy_ar a).2) ∧ sy_ob a = none ∧ (sy_ar a).1 = 0 ∧ rn_2_turn ns ct R K n 39 L (.inl (true, s a z.toNat) :: k) s) := rfl
theorem rx_2_turn_39 {ns n ct R K s L k a x} : rn_2_turn ns ct R K (n + 1) 39 L (.inl (a, x) :: k) s = (sy_ri a x ∧ rn_2_turn ns ct R K n 40 L (.inr (.inl (true, x)) :: k) s) := rfl
theorem rx_2_turn_40 {ns n ct R K s L k a b x y} : rn_2_turn ns ct R K (n + 1) 40 L (.inr (.inl (b, y)) :: .inr (.inl (a, x)) :: k) s = (rn_2_turn ns ct R K n 41 L (.inr (.inl (false, x - y)) :: k) s) := rfl
theorem rx_2_turn_41 {ns n ct R K s k z v0 v1 v2 v4} : rn_2_turn ns ct R K (n + 1) 41 [v0, v1, v2, .inl (true, z), v4] k s = (rn_2_turn ns ct R K n 42 [v0, v1, v2, .inl (true, z), v4] (.inl (true, z) :: k) s) := rfl
theorem rx_2_turn_42 {ns n ct R K s k z v1 v2 v3 v4} : rn_2_turn ns ct R K (n + 1) 42 [.inr (.inr (some z)), v1, v2, v3, v4] k s = (rn_2_turn ns ct R K n 43 [.inr (.inr (some z)), v1, v2, v3, v4] (.inr (.inr (some z)) :: k) s) := rfl
theorem rx_2_turn_43 {ns n ct R K s L k a} : rn_2_turn ns ct R K (n + 1) 43 L (.inr (.inr (some (some a))) :: k) s = (sy_ob a = some 2 ∧ rn_2_turn ns ct R K n 46 L (sy_fv s a 1 :: k) s) := rfl
theorem rx_2_turn_46 {ns n ct R K s k z v0 v2 v3 v4} : rn_2_turn ns ct R K (n + 1) 46 [v0, .inl (true, z), v2, v3, v4] k s = (rn_2_turn ns ct R K n 47 [v0, .inl (true, z), v2, v3, v4] (.inl (true, z) :: k) s) := rfl
theorem rx_2_turn_47 {ns n ct R K s L k a b z} : rn_2_turn ns ct R K (n + 1) 47 L (.inl (b, z) :: .inr (.inr (some (some a))) :: k) s = ((0 ≤ z ∧ z < (sy_ar a).2) ∧ sy_ob a = none ∧ (sy_ar a).1 = 0 ∧ rn_2_turn ns ct R K n 48 L (.inl (true, s a z.toNat) :: k) s) := rfl
theorem rx_2_turn_48 {ns n ct R K s L k a b x y} : rn_2_turn ns ct R K (n + 1) 48 L (.inl (b, y) :: .inl (a, x) :: k) s = (rn_2_turn ns ct R K n 49 L (.inl (false, x - y) :: k) s) := rfl
theorem rx_2_turn_49 {ns n ct R K s L k a x} : rn_2_turn ns ct R K (n + 1) 49 L (.inl (a, x) :: k) s = (sy_ri a x ∧ rn_2_turn ns ct R K n 50 L (.inr (.inl (true, x)) :: k) s) := rfl
theorem rx_2_turn_50 {ns n ct R K s L k a b x y} : rn_2_turn ns ct R K (n + 1) 50 L (.inr (.inl (b, y)) :: .inr (.inl (a, x)) :: k) s = (rn_2_turn ns ct R K n 51 L (.inr (.inl (false, x * y)) :: k) s) := rfl
theorem rx_2_turn_51 {ns n ct R K s L k a b x y} : rn_2_turn ns ct R K (n + 1) 51 L (.inr (.inl (b, y)) :: .inr (.inl (a, x)) :: k) s = (rn_2_turn ns ct R K n 52 L (.inr (.inl (false, x - y)) :: k) s) := rfl
theorem rx_2_turn_52 {ns n ct R K s L a z} : rn_2_turn ns ct R K (n + 1) 52 L [.inr (.inl (a, z))] s = (sy_rl a z ∧ R (some (.inr (.inl (true, z)))) s) := rfl
def y_2_refresh : MethodName := ⟨"StarHide$Hull", "refresh", "()V"⟩
abbrev c_2_refresh : ByteArray := prog_4_method_11_code
def tc_2_refresh (pc : Nat) : Option sy_I := match pc with
  | 0 => some (.aload_n 0, 1, 0)
  | 1 => some (.getfield 25, 4, 0)
  | 4 => some (.ifCond .eq 4, 7, 8)
  | 7 => some (.return_, 8, 0)
  | 8 => some (.aload_n 0, 9, 0)
  | 9 => some (.iconst 1, 10, 0)
  | 10 => some (.putfield 25, 13, 0)
  | 13 => some (.aload_n 0, 14, 0)
  | 14 => some (.invokevirtual 54, 17, 0)
  | 17 => some (.aload_n 0, 18, 0)
  | 18 => some (.iconst 0, 19, 0)
  | 19 => some (.putfield 32, 22, 0)
  | 22 => some (.aload_n 0, 23, 0)
  | 23 => some (.getfield 57, 26, 0)
  | 26 => some (.ifCond .ne 4, 29, 30)
  | 29 => some (.return_, 30, 0)
  | 30 => some (.aload_n 0, 31, 0)
  | 31 => some (.invokevirtual 60, 34, 0)
  | 34 => some (.istore_n 1, 35, 0)
  | 35 => some (.iload_n 1, 36, 0)
  | 36 => some (.istore_n 2, 37, 0)
  | 37 => some (.iconst 0, 38, 0)
  | 38 => some (.istore_n 3, 39, 0)
  | 39 => some (.iload_n 3, 40, 0)
  | 40 => some (.aload_n 0, 41, 0)
  | 41 => some (.getfield 57, 44, 0)
  | 44 => some (.if_icmp .ge 41, 47, 85)
  | 47 => some (.aload_n 0, 48, 0)
  | 48 => some (.getfield 18, 51, 0)
  | 51 => some (.aload_n 0, 52, 0)
  | 52 => some (.getfield 32, 55, 0)
  | 55 => some (.iload_n 2, 56, 0)
  | 56 => some (.iastore, 57, 0)
  | 57 => some (.aload_n 0, 58, 0)
  | 58 => some (.dup, 59, 0)
  | 59 => some (.getfield 32, 62, 0)
  | 62 => some (.iconst 1, 63, 0)
  | 63 => some (.iadd, 64, 0)
  | 64 => some (.putfield 32, 67, 0)
  | 67 => some (.aload_n 0, 68, 0)
  | 68 => some (.iload_n 2, 69, 0)
  | 69 => some (.invokevirtual 64, 72, 0)
  | 72 => some (.istore_n 2, 73, 0)
  | 73 => some (.iload_n 2, 74, 0)
  | 74 => some (.iload_n 1, 75, 0)
  | 75 => some (.if_icmp .ne 4, 78, 79)
  | 78 => some (.return_, 79, 0)
  | 79 => some (.iinc 3 1, 82, 0)
  | 82 => some (.goto (-43), 85, 39)
  | 85 => some (.return_, 86, 0)
  | _ => none
theorem tv_2_refresh : ∀ pc i, sy_lk 86 tc_2_refresh pc = some i → sy_chk c_2_refresh none false pc i = true := sy_lk_ok 86 tc_2_refresh (by decide +kernel)
def Mk_2_refresh (ct : Nat → Option (Bool × Nat × sy_Sp)) : sy_M := (sy_lk 86 tc_2_refresh, ff_2, ki_2, kl_2, ct, false)
def rn_2_refresh (ns : Nat) (ct : Nat → Option (Bool × Nat × sy_Sp)) (R : sy_R) (K : sy_K) : Nat → sy_K := sy_run ns (Mk_2_refresh ct) [39] R K
theorem rx_2_refresh_0 {ns n ct R K s k z v1 v2 v3} : rn_2_refresh ns ct R K (n + 1) 0 [.inr (.inr (some z)), v1, v2, v3] k s = (rn_2_refresh ns ct R K n 1 [.inr (.inr (some z)), v1, v2, v3] (.inr (.inr (some z)) :: k) s) := rfl
theorem rx_2_refresh_1 {ns n ct R K s L k a} : rn_2_refresh ns ct R K (n + 1) 1 L (.inr (.inr (some (some a))) :: k) s = (sy_ob a = some 2 ∧ rn_2_refresh ns ct R K n 4 L (sy_fv s a 6 :: k) s) := rfl
theorem rx_2_refresh_4 {ns n ct R K s L k a x} : rn_2_refresh ns ct R K (n + 1) 4 L (.inl (a, x) :: k) s = (sy_ri a x ∧ (x = 0 → rn_2_refresh ns ct R K n 8 L k s) ∧ (¬ x = 0 → rn_2_refresh ns ct R K n 7 L k s)) := rfl
theorem rx_2_refresh_7 {ns n ct R K s L} : rn_2_refresh ns ct R K (n + 1) 7 L [] s = (R none s) := rfl
theorem rx_2_refresh_8 {ns n ct R K s k z v1 v2 v3} : rn_2_refresh ns ct R K (n + 1) 8 [.inr (.inr (some z)), v1, v2, v3] k s = (rn_2_refresh ns ct R K n 9 [.inr (.inr (some z)), v1, v2, v3] (.inr (.inr (some z)) :: k) s) := rfl
theorem rx_2_refresh_9 {ns n ct R K s L k} : rn_2_refresh ns ct R K (n + 1) 9 L k s = (rn_2_refresh ns ct R K n 10 L (.inl (true, 1) :: k) s) := rfl
theorem rx_2_refresh_10 {ns n ct R K s L k a b z} : rn_2_refresh ns ct R K (n + 1) 10 L (.inl (b, z) :: .inr (.inr (some (some a))) :: k) s = (sy_ob a = some 2 ∧ sy_ri b z ∧ sy_b01 true z ∧ rn_2_refresh ns ct R K n 13 L k (sy_up s a 6 z)) := rfl
theorem rx_2_refresh_13 {ns n ct R K s k z v1 v2 v3} : rn_2_refresh ns ct R K (n + 1) 13 [.inr (.inr (some z)), v1, v2, v3] k s = (rn_2_refresh ns ct R K n 14 [.inr (.inr (some z)), v1, v2, v3] (.inr (.inr (some z)) :: k) s) := rfl
theorem rx_2_refresh_14 {ns n ct R K s L k} : rn_2_refresh ns ct R K (n + 1) 14 L k s = (sy_call false (ct 54) k s fun r t => rn_2_refresh ns ct R K n 17 L r t) := rfl
theorem rx_2_refresh_17 {ns n ct R K s k z v1 v2 v3} : rn_2_refresh ns ct R K (n + 1) 17 [.inr (.inr (some z)), v1, v2, v3] k s = (rn_2_refresh ns ct R K n 18 [.inr (.inr (some z)), v1, v2, v3] (.inr (.inr (some z)) :: k) s) := rfl
theorem rx_2_refresh_18 {ns n ct R K s L k} : rn_2_refresh ns ct R K (n + 1) 18 L k s = (rn_2_refresh ns ct R K n 19 L (.inl (true, 0) :: k) s) := rfl
theorem rx_2_refresh_19 {ns n ct R K s L k a b z} : rn_2_refresh ns ct R K (n + 1) 19 L (.inl (b, z) :: .inr (.inr (some (some a))) :: k) s = (sy_ob a = some 2 ∧ sy_ri b z ∧ sy_b01 false z ∧ rn_2_refresh ns ct R K n 22 L k (sy_up s a 5 z)) := rfl
theorem rx_2_refresh_22 {ns n ct R K s k z v1 v2 v3} : rn_2_refresh ns ct R K (n + 1) 22 [.inr (.inr (some z)), v1, v2, v3] k s = (rn_2_refresh ns ct R K n 23 [.inr (.inr (some z)), v1, v2, v3] (.inr (.inr (some z)) :: k) s) := rfl
theorem rx_2_refresh_23 {ns n ct R K s L k a} : rn_2_refresh ns ct R K (n + 1) 23 L (.inr (.inr (some (some a))) :: k) s = (sy_ob a = some 2 ∧ rn_2_refresh ns ct R K n 26 L (sy_fv s a 3 :: k) s) := rfl
theorem rx_2_refresh_26 {ns n ct R K s L k a x} : rn_2_refresh ns ct R K (n + 1) 26 L (.inl (a, x) :: k) s = (sy_ri a x ∧ (¬ x = 0 → rn_2_refresh ns ct R K n 30 L k s) ∧ (x = 0 → rn_2_refresh ns ct R K n 29 L k s)) := rfl
theorem rx_2_refresh_29 {ns n ct R K s L} : rn_2_refresh ns ct R K (n + 1) 29 L [] s = (R none s) := rfl
theorem rx_2_refresh_30 {ns n ct R K s k z v1 v2 v3} : rn_2_refresh ns ct R K (n + 1) 30 [.inr (.inr (some z)), v1, v2, v3] k s = (rn_2_refresh ns ct R K n 31 [.inr (.inr (some z)), v1, v2, v3] (.inr (.inr (some z)) :: k) s) := rfl
theorem rx_2_refresh_31 {ns n ct R K s L k} : rn_2_refresh ns ct R K (n + 1) 31 L k s = (sy_call false (ct 60) k s fun r t => rn_2_refresh ns ct R K n 34 L r t) := rfl
theorem rx_2_refresh_34 {ns n ct R K s L k b z} : rn_2_refresh ns ct R K (n + 1) 34 L (.inl (b, z) :: k) s = (sy_ri b z ∧ 1 < L.length ∧ rn_2_refresh ns ct R K n 35 (sy_sto L 1 (.inl (true, z))) k s) := rfl
theorem rx_2_refresh_35 {ns n ct R K s k z v0 v2 v3} : rn_2_refresh ns ct R K (n + 1) 35 [v0, .inl (true, z), v2, v3] k s = (rn_2_refresh ns ct R K n 36 [v0, .inl (true, z), v2, v3] (.inl (true, z) :: k) s) := rfl
theorem rx_2_refresh_36 {ns n ct R K s L k b z} : rn_2_refresh ns ct R K (n + 1) 36 L (.inl (b, z) :: k) s = (sy_ri b z ∧ 2 < L.length ∧ rn_2_refresh ns ct R K n 37 (sy_sto L 2 (.inl (true, z))) k s) := rfl
theorem rx_2_refresh_37 {ns n ct R K s L k} : rn_2_refresh ns ct R K (n + 1) 37 L k s = (rn_2_refresh ns ct R K n 38 L (.inl (true, 0) :: k) s) := rfl
theorem rx_2_refresh_38 {ns n ct R K s L k b z} : rn_2_refresh ns ct R K (n + 1) 38 L (.inl (b, z) :: k) s = (sy_ri b z ∧ 3 < L.length ∧ K 39 (sy_sto L 3 (.inl (true, z))) k s) := rfl
theorem rx_2_refresh_39 {ns n ct R K s k z v0 v1 v2} : rn_2_refresh ns ct R K (n + 1) 39 [v0, v1, v2, .inl (true, z)] k s = (rn_2_refresh ns ct R K n 40 [v0, v1, v2, .inl (true, z)] (.inl (true, z) :: k) s) := rfl
theorem rx_2_refresh_40 {ns n ct R K s k z v1 v2 v3} : rn_2_refresh ns ct R K (n + 1) 40 [.inr (.inr (some z)), v1, v2, v3] k s = (rn_2_refresh ns ct R K n 41 [.inr (.inr (some z)), v1, v2, v3] (.inr (.inr (some z)) :: k) s) := rfl
theorem rx_2_refresh_41 {ns n ct R K s L k a} : rn_2_refresh ns ct R K (n + 1) 41 L (.inr (.inr (some (some a))) :: k) s = (sy_ob a = some 2 ∧ rn_2_refresh ns ct R K n 44 L (sy_fv s a 3 :: k) s) := rfl
theorem rx_2_refresh_44 {ns n ct R K s L k a b x y} : rn_2_refresh ns ct R K (n + 1) 44 L (.inl (b, y) :: .inl (a, x) :: k) s = (sy_ri a x ∧ sy_ri b y ∧ (y ≤ x → rn_2_refresh ns ct R K n 85 L k s) ∧ (¬ y ≤ x → rn_2_refresh ns ct R K n 47 L k s)) := rfl
theorem rx_2_refresh_47 {ns n ct R K s k z v1 v2 v3} : rn_2_refresh ns ct R K (n + 1) 47 [.inr (.inr (some z)), v1, v2, v3] k s = (rn_2_refresh ns ct R K n 48 [.inr (.inr (some z)), v1, v2, v3] (.inr (.inr (some z)) :: k) s) := rfl
theorem rx_2_refresh_48 {ns n ct R K s L k a} : rn_2_refresh ns ct R K (n + 1) 48 L (.inr (.inr (some (some a))) :: k) s = (sy_ob a = some 2 ∧ rn_2_refresh ns ct R K n 51 L (sy_fv s a 4 :: k) s) := rfl
theorem rx_2_refresh_51 {ns n ct R K s k z v1 v2 v3} : rn_2_refresh ns ct R K (n + 1) 51 [.inr (.inr (some z)), v1, v2, v3] k s = (rn_2_refresh ns ct R K n 52 [.inr (.inr (some z)), v1, v2, v3] (.inr (.inr (some z)) :: k) s) := rfl
theorem rx_2_refresh_52 {ns n ct R K s L k a} : rn_2_refresh ns ct R K (n + 1) 52 L (.inr (.inr (some (some a))) :: k) s = (sy_ob a = some 2 ∧ rn_2_refresh ns ct R K n 55 L (sy_fv s a 5 :: k) s) := rfl
theorem rx_2_refresh_55 {ns n ct R K s k z v0 v1 v3} : rn_2_refresh ns ct R K (n + 1) 55 [v0, v1, .inl (true, z), v3] k s = (rn_2_refresh ns ct R K n 56 [v0, v1, .inl (true, z), v3] (.inl (true, z) :: k) s) := rfl
theorem rx_2_refresh_56 {ns n ct R K s L k a b c z y} : rn_2_refresh ns ct R K (n + 1) 56 L (.inl (c, y) :: .inl (b, z) :: .inr (.inr (some (some a))) :: k) s = (sy_ri c y ∧ (0 ≤ z ∧ z < (sy_ar a).2) ∧ sy_ob a = none ∧ (sy_ar a).1 = 0 ∧ rn_2_refresh ns ct R K n 57 L k (sy_up s a z.toNat y)) := rfl
theorem rx_2_refresh_57 {ns n ct R K s k z v1 v2 v3} : rn_2_refresh ns ct R K (n + 1) 57 [.inr (.inr (some z)), v1, v2, v3] k s = (rn_2_refresh ns ct R K n 58 [.inr (.inr (some z)), v1, v2, v3] (.inr (.inr (some z)) :: k) s) := rfl
theorem rx_2_refresh_58_i {ns n ct R K s L k a} : rn_2_refresh ns ct R K (n + 1) 58 L (.inl a :: k) s = (rn_2_refresh ns ct R K n 59 L (.inl a :: .inl a :: k) s) := rfl
theorem rx_2_refresh_58 {ns n ct R K s L k a} : rn_2_refresh ns ct R K (n + 1) 58 L (.inr (.inr a) :: k) s = (rn_2_refresh ns ct R K n 59 L (.inr (.inr a) :: .inr (.inr a) :: k) s) := rfl
theorem rx_2_refresh_59 {ns n ct R K s L k a} : rn_2_refresh ns ct R K (n + 1) 59 L (.inr (.inr (some (some a))) :: k) s = (sy_ob a = some 2 ∧ rn_2_refresh ns ct R K n 62 L (sy_fv s a 5 :: k) s) := rfl
theorem rx_2_refresh_62 {ns n ct R K s L k} : rn_2_refresh ns ct R K (n + 1) 62 L k s = (rn_2_refresh ns ct R K n 63 L (.inl (true, 1) :: k) s) := rfl
theorem rx_2_refresh_63 {ns n ct R K s L k a b x y} : rn_2_refresh ns ct R K (n + 1) 63 L (.inl (b, y) :: .inl (a, x) :: k) s = (rn_2_refresh ns ct R K n 64 L (.inl (false, x + y) :: k) s) := rfl
theorem rx_2_refresh_64 {ns n ct R K s L k a b z} : rn_2_refresh ns ct R K (n + 1) 64 L (.inl (b, z) :: .inr (.inr (some (some a))) :: k) s = (sy_ob a = some 2 ∧ sy_ri b z ∧ sy_b01 false z ∧ rn_2_refresh ns ct R K n 67 L k (sy_up s a 5 z)) := rfl
theorem rx_2_refresh_67 {ns n ct R K s k z v1 v2 v3} : rn_2_refresh ns ct R K (n + 1) 67 [.inr (.inr (some z)), v1, v2, v3] k s = (rn_2_refresh ns ct R K n 68 [.inr (.inr (some z)), v1, v2, v3] (.inr (.inr (some z)) :: k) s) := rfl
theorem rx_2_refresh_68 {ns n ct R K s k z v0 v1 v3} : rn_2_refresh ns ct R K (n + 1) 68 [v0, v1, .inl (true, z), v3] k s = (rn_2_refresh ns ct R K n 69 [v0, v1, .inl (true, z), v3] (.inl (true, z) :: k) s) := rfl
theorem rx_2_refresh_69 {ns n ct R K s L k} : rn_2_refresh ns ct R K (n + 1) 69 L k s = (sy_call false (ct 64) k s fun r t => rn_2_refresh ns ct R K n 72 L r t) := rfl
theorem rx_2_refresh_72 {ns n ct R K s L k b z} : rn_2_refresh ns ct R K (n + 1) 72 L (.inl (b, z) :: k) s = (sy_ri b z ∧ 2 < L.length ∧ rn_2_refresh ns ct R K n 73 (sy_sto L 2 (.inl (true, z))) k s) := rfl
theorem rx_2_refresh_73 {ns n ct R K s k z v0 v1 v3} : rn_2_refresh ns ct R K (n + 1) 73 [v0, v1, .inl (true, z), v3] k s = (rn_2_refresh ns ct R K n 74 [v0, v1, .inl (true, z), v3] (.inl (true, z) :: k) s) := rfl
theorem rx_2_refresh_74 {ns n ct R K s k z v0 v2 v3} : rn_2_refresh ns ct R K (n + 1) 74 [v0, .inl (true, z), v2, v3] k s = (rn_2_refresh ns ct R K n 75 [v0, .inl (true, z), v2, v3] (.inl (true, z) :: k) s) := rfl
theorem rx_2_refresh_75 {ns n ct R K s L k a b x y} : rn_2_refresh ns ct R K (n + 1) 75 L (.inl (b, y) :: .inl (a, x) :: k) s = (sy_ri a x ∧ sy_ri b y ∧ (¬ x = y → rn_2_refresh ns ct R K n 79 L k s) ∧ (x = y → rn_2_refresh ns ct R K n 78 L k s)) := rfl
theorem rx_2_refresh_78 {ns n ct R K s L} : rn_2_refresh ns ct R K (n + 1) 78 L [] s = (R none s) := rfl
theorem rx_2_refresh_79 {ns n ct R K s k z v0 v1 v2} : rn_2_refresh ns ct R K (n + 1) 79 [v0, v1, v2, .inl (true, z)] k s = ((-2147483648 ≤ z + 1 ∧ z + 1 < 2147483648) ∧ rn_2_refresh ns ct R K n 82 (sy_sto [v0, v1, v2, .inl (true, z)] 3 (.inl (true, z + 1))) k s) := rfl
theorem rx_2_refresh_82 {ns n ct R K s L k} : rn_2_refresh ns ct R K (n + 1) 82 L k s = (K 39 L k s) := rfl
theorem rx_2_refresh_85 {ns n ct R K s L} : rn_2_refresh ns ct R K (n + 1) 85 L [] s = (R none s) := rfl
def y_2_gather : MethodName := ⟨"StarHide$Hull", "gather", "()V"⟩
abbrev c_2_gather : ByteArray := prog_4_method_12_code
def tc_2_gather (pc : Nat) : Option sy_I := match pc with
  | 0 => some (.aload_n 0, 1, 0)
  | 1 => some (.iconst 0, 2, 0)
  | 2 => some (.putfield 57, 5, 0)
  | 5 => some (.iconst 0, 6, 0)
  | 6 => some (.istore_n 1, 7, 0)
  | 7 => some (.iload_n 1, 8, 0)
  | 8 => some (.aload_n 0, 9, 0)
  | 9 => some (.getfield 21, 12, 0)
  | 12 => some (.getfield 67, 15, 0)
  | 15 => some (.if_icmp .ge 87, 18, 102)
  | 18 => some (.aload_n 0, 19, 0)
  | 19 => some (.getfield 21, 22, 0)
  | 22 => some (.iload_n 1, 23, 0)
  | 23 => some (.invokevirtual 70, 26, 0)
  | 26 => some (.astore_n 2, 27, 0)
  | 27 => some (.aload_n 2, 28, 0)
  | 28 => some (.ifnull 68, 31, 96)
  | 31 => some (.aload_n 2, 32, 0)
  | 32 => some (.getfield 74, 35, 0)
  | 35 => some (.iconst 1, 36, 0)
  | 36 => some (.if_icmp .ne 60, 39, 96)
  | 39 => some (.aload_n 0, 40, 0)
  | 40 => some (.aload_n 2, 41, 0)
  | 41 => some (.aload_n 0, 42, 0)
  | 42 => some (.getfield 21, 45, 0)
  | 45 => some (.getfield 79, 48, 0)
  | 48 => some (.aload_n 2, 49, 0)
  | 49 => some (.getfield 82, 52, 0)
  | 52 => some (.invokevirtual 85, 55, 0)
  | 55 => some (.aload_n 2, 56, 0)
  | 56 => some (.getfield 89, 59, 0)
  | 59 => some (.invokevirtual 92, 62, 0)
  | 62 => some (.aload_n 2, 63, 0)
  | 63 => some (.getfield 82, 66, 0)
  | 66 => some (.aload_n 2, 67, 0)
  | 67 => some (.getfield 96, 70, 0)
  | 70 => some (.if_icmp .eq 26, 73, 96)
  | 73 => some (.aload_n 0, 74, 0)
  | 74 => some (.aload_n 2, 75, 0)
  | 75 => some (.aload_n 0, 76, 0)
  | 76 => some (.getfield 21, 79, 0)
  | 79 => some (.getfield 79, 82, 0)
  | 82 => some (.aload_n 2, 83, 0)
  | 83 => some (.getfield 96, 86, 0)
  | 86 => some (.invokevirtual 85, 89, 0)
  | 89 => some (.aload_n 2, 90, 0)
  | 90 => some (.getfield 89, 93, 0)
  | 93 => some (.invokevirtual 92, 96, 0)
  | 96 => some (.iinc 1 1, 99, 0)
  | 99 => some (.goto (-92), 102, 7)
  | 102 => some (.return_, 103, 0)
  | _ => none
theorem tv_2_gather : ∀ pc i, sy_lk 103 tc_2_gather pc = some i → sy_chk c_2_gather none false pc i = true := sy_lk_ok 103 tc_2_gather (by decide +kernel)
def Mk_2_gather (ct : Nat → Option (Bool × Nat × sy_Sp)) : sy_M := (sy_lk 103 tc_2_gather, ff_2, ki_2, kl_2, ct, false)
def rn_2_gather (ns : Nat) (ct : Nat → Option (Bool × Nat × sy_Sp)) (R : sy_R) (K : sy_K) : Nat → sy_K := sy_run ns (Mk_2_gather ct) [7] R K
theorem rx_2_gather_0 {ns n ct R K s k z v1 v2} : rn_2_gather ns ct R K (n + 1) 0 [.inr (.inr (some z)), v1, v2] k s = (rn_2_gather ns ct R K n 1 [.inr (.inr (some z)), v1, v2] (.inr (.inr (some z)) :: k) s) := rfl
theorem rx_2_gather_1 {ns n ct R K s L k} : rn_2_gather ns ct R K (n + 1) 1 L k s = (rn_2_gather ns ct R K n 2 L (.inl (true, 0) :: k) s) := rfl
theorem rx_2_gather_2 {ns n ct R K s L k a b z} : rn_2_gather ns ct R K (n + 1) 2 L (.inl (b, z) :: .inr (.inr (some (some a))) :: k) s = (sy_ob a = some 2 ∧ sy_ri b z ∧ sy_b01 false z ∧ rn_2_gather ns ct R K n 5 L k (sy_up s a 3 z)) := rfl
theorem rx_2_gather_5 {ns n ct R K s L k} : rn_2_gather ns ct R K (n + 1) 5 L k s = (rn_2_gather ns ct R K n 6 L (.inl (true, 0) :: k) s) := rfl
theorem rx_2_gather_6 {ns n ct R K s L k b z} : rn_2_gather ns ct R K (n + 1) 6 L (.inl (b, z) :: k) s = (sy_ri b z ∧ 1 < L.length ∧ K 7 (sy_sto L 1 (.inl (true, z))) k s) := rfl
theorem rx_2_gather_7 {ns n ct R K s k z v0 v2} : rn_2_gather ns ct R K (n + 1) 7 [v0, .inl (true, z), v2] k s = (rn_2_gather ns ct R K n 8 [v0, .inl (true, z), v2] (.inl (true, z) :: k) s) := rfl
theorem rx_2_gather_8 {ns n ct R K s k z v1 v2} : rn_2_gather ns ct R K (n + 1) 8 [.inr (.inr (some z)), v1, v2] k s = (rn_2_gather ns ct R K n 9 [.inr (.inr (some z)), v1, v2] (.inr (.inr (some z)) :: k) s) := rfl
theorem rx_2_gather_9 {ns n ct R K s L k a} : rn_2_gather ns ct R K (n + 1) 9 L (.inr (.inr (some (some a))) :: k) s = (sy_ob a = some 2 ∧ rn_2_gather ns ct R K n 12 L (sy_fv s a 0 :: k) s) := rfl
theorem rx_2_gather_12 {ns n ct R K s L k a} : rn_2_gather ns ct R K (n + 1) 12 L (.inr (.inr (some (some a))) :: k) s = (sy_ob a = some 7 ∧ rn_2_gather ns ct R K n 15 L (sy_fv s a 1 :: k) s) := rfl
theorem rx_2_gather_15 {ns n ct R K s L k a b x y} : rn_2_gather ns ct R K (n + 1) 15 L (.inl (b, y) :: .inl (a, x) :: k) s = (sy_ri a x ∧ sy_ri b y ∧ (y ≤ x → rn_2_gather ns ct R K n 102 L k s) ∧ (¬ y ≤ x → rn_2_gather ns ct R K n 18 L k s)) := rfl
theorem rx_2_gather_18 {ns n ct R K s k z v1 v2} : rn_2_gather ns ct R K (n + 1) 18 [.inr (.inr (some z)), v1, v2] k s = (rn_2_gather ns ct R K n 19 [.inr (.inr (some z)), v1, v2] (.inr (.inr (some z)) :: k) s) := rfl
theorem rx_2_gather_19 {ns n ct R K s L k a} : rn_2_gather ns ct R K (n + 1) 19 L (.inr (.inr (some (some a))) :: k) s = (sy_ob a = some 2 ∧ rn_2_gather ns ct R K n 22 L (sy_fv s a 0 :: k) s) := rfl
theorem rx_2_gather_22 {ns n ct R K s k z v0 v2} : rn_2_gather ns ct R K (n + 1) 22 [v0, .inl (true, z), v2] k s = (rn_2_gather ns ct R K n 23 [v0, .inl (true, z), v2] (.inl (true, z) :: k) s) := rfl
theorem rx_2_gather_23 {ns n ct R K s L k} : rn_2_gather ns ct R K (n + 1) 23 L k s = (sy_call false (ct 70) k s fun r t => rn_2_gather ns ct R K n 26 L r t) := rfl
theorem rx_2_gather_26 {ns n ct R K s L k z} : rn_2_gather ns ct R K (n + 1) 26 L (.inr (.inr (some z)) :: k) s = (2 < L.length ∧ rn_2_gather ns ct R K n 27 (sy_sto L 2 (.inr (.inr (some z)))) k s) := rfl
theorem rx_2_gather_27 {ns n ct R K s k z v0 v1} : rn_2_gather ns ct R K (n + 1) 27 [v0, v1, .inr (.inr (some z))] k s = (rn_2_gather ns ct R K n 28 [v0, v1, .inr (.inr (some z))] (.inr (.inr (some z)) :: k) s) := rfl
theorem rx_2_gather_28_n {ns n ct R K s L k} : rn_2_gather ns ct R K (n + 1) 28 L (.inr (.inr (some none)) :: k) s = (rn_2_gather ns ct R K n 96 L k s) := rfl
theorem rx_2_gather_28 {ns n ct R K s L k a} : rn_2_gather ns ct R K (n + 1) 28 L (.inr (.inr (some (some a))) :: k) s = (rn_2_gather ns ct R K n 31 L k s) := rfl
theorem rx_2_gather_31 {ns n ct R K s k z v0 v1} : rn_2_gather ns ct R K (n + 1) 31 [v0, v1, .inr (.inr (some z))] k s = (rn_2_gather ns ct R K n 32 [v0, v1, .inr (.inr (some z))] (.inr (.inr (some z)) :: k) s) := rfl
theorem rx_2_gather_32 {ns n ct R K s L k a} : rn_2_gather ns ct R K (n + 1) 32 L (.inr (.inr (some (some a))) :: k) s = (sy_ob a = some 6 ∧ rn_2_gather ns ct R K n 35 L (sy_fv s a 5 :: k) s) := rfl
theorem rx_2_gather_35 {ns n ct R K s L k} : rn_2_gather ns ct R K (n + 1) 35 L k s = (rn_2_gather ns ct R K n 36 L (.inl (true, 1) :: k) s) := rfl
theorem rx_2_gather_36 {ns n ct R K s L k a b x y} : rn_2_gather ns ct R K (n + 1) 36 L (.inl (b, y) :: .inl (a, x) :: k) s = (sy_ri a x ∧ sy_ri b y ∧ (¬ x = y → rn_2_gather ns ct R K n 96 L k s) ∧ (x = y → rn_2_gather ns ct R K n 39 L k s)) := rfl
theorem rx_2_gather_39 {ns n ct R K s k z v1 v2} : rn_2_gather ns ct R K (n + 1) 39 [.inr (.inr (some z)), v1, v2] k s = (rn_2_gather ns ct R K n 40 [.inr (.inr (some z)), v1, v2] (.inr (.inr (some z)) :: k) s) := rfl
theorem rx_2_gather_40 {ns n ct R K s k z v0 v1} : rn_2_gather ns ct R K (n + 1) 40 [v0, v1, .inr (.inr (some z))] k s = (rn_2_gather ns ct R K n 41 [v0, v1, .inr (.inr (some z))] (.inr (.inr (some z)) :: k) s) := rfl
theorem rx_2_gather_41 {ns n ct R K s k z v1 v2} : rn_2_gather ns ct R K (n + 1) 41 [.inr (.inr (some z)), v1, v2] k s = (rn_2_gather ns ct R K n 42 [.inr (.inr (some z)), v1, v2] (.inr (.inr (some z)) :: k) s) := rfl
theorem rx_2_gather_42 {ns n ct R K s L k a} : rn_2_gather ns ct R K (n + 1) 42 L (.inr (.inr (some (some a))) :: k) s = (sy_ob a = some 2 ∧ rn_2_gather ns ct R K n 45 L (sy_fv s a 0 :: k) s) := rfl
theorem rx_2_gather_45 {ns n ct R K s L k a} : rn_2_gather ns ct R K (n + 1) 45 L (.inr (.inr (some (some a))) :: k) s = (sy_ob a = some 7 ∧ rn_2_gather ns ct R K n 48 L (sy_fv s a 2 :: k) s) := rfl
theorem rx_2_gather_48 {ns n ct R K s k z v0 v1} : rn_2_gather ns ct R K (n + 1) 48 [v0, v1, .inr (.inr (some z))] k s = (rn_2_gather ns ct R K n 49 [v0, v1, .inr (.inr (some z))] (.inr (.inr (some z)) :: k) s) := rfl
theorem rx_2_gather_49 {ns n ct R K s L k a} : rn_2_gather ns ct R K (n + 1) 49 L (.inr (.inr (some (some a))) :: k) s = (sy_ob a = some 6 ∧ rn_2_gather ns ct R K n 52 L (sy_fv s a 7 :: k) s) := rfl
theorem rx_2_gather_52 {ns n ct R K s L k} : rn_2_gather ns ct R K (n + 1) 52 L k s = (sy_call false (ct 85) k s fun r t => rn_2_gather ns ct R K n 55 L r t) := rfl
theorem rx_2_gather_55 {ns n ct R K s k z v0 v1} : rn_2_gather ns ct R K (n + 1) 55 [v0, v1, .inr (.inr (some z))] k s = (rn_2_gather ns ct R K n 56 [v0, v1, .inr (.inr (some z))] (.inr (.inr (some z)) :: k) s) := rfl
theorem rx_2_gather_56 {ns n ct R K s L k a} : rn_2_gather ns ct R K (n + 1) 56 L (.inr (.inr (some (some a))) :: k) s = (sy_ob a = some 6 ∧ rn_2_gather ns ct R K n 59 L (sy_fv s a 0 :: k) s) := rfl
theorem rx_2_gather_59 {ns n ct R K s L k} : rn_2_gather ns ct R K (n + 1) 59 L k s = (sy_call false (ct 92) k s fun r t => rn_2_gather ns ct R K n 62 L r t) := rfl
theorem rx_2_gather_62 {ns n ct R K s k z v0 v1} : rn_2_gather ns ct R K (n + 1) 62 [v0, v1, .inr (.inr (some z))] k s = (rn_2_gather ns ct R K n 63 [v0, v1, .inr (.inr (some z))] (.inr (.inr (some z)) :: k) s) := rfl
theorem rx_2_gather_63 {ns n ct R K s L k a} : rn_2_gather ns ct R K (n + 1) 63 L (.inr (.inr (some (some a))) :: k) s = (sy_ob a = some 6 ∧ rn_2_gather ns ct R K n 66 L (sy_fv s a 7 :: k) s) := rfl
theorem rx_2_gather_66 {ns n ct R K s k z v0 v1} : rn_2_gather ns ct R K (n + 1) 66 [v0, v1, .inr (.inr (some z))] k s = (rn_2_gather ns ct R K n 67 [v0, v1, .inr (.inr (some z))] (.inr (.inr (some z)) :: k) s) := rfl
theorem rx_2_gather_67 {ns n ct R K s L k a} : rn_2_gather ns ct R K (n + 1) 67 L (.inr (.inr (some (some a))) :: k) s = (sy_ob a = some 6 ∧ rn_2_gather ns ct R K n 70 L (sy_fv s a 8 :: k) s) := rfl
theorem rx_2_gather_70 {ns n ct R K s L k a b x y} : rn_2_gather ns ct R K (n + 1) 70 L (.inl (b, y) :: .inl (a, x) :: k) s = (sy_ri a x ∧ sy_ri b y ∧ (x = y → rn_2_gather ns ct R K n 96 L k s) ∧ (¬ x = y → rn_2_gather ns ct R K n 73 L k s)) := rfl
theorem rx_2_gather_73 {ns n ct R K s k z v1 v2} : rn_2_gather ns ct R K (n + 1) 73 [.inr (.inr (some z)), v1, v2] k s = (rn_2_gather ns ct R K n 74 [.inr (.inr (some z)), v1, v2] (.inr (.inr (some z)) :: k) s) := rfl
theorem rx_2_gather_74 {ns n ct R K s k z v0 v1} : rn_2_gather ns ct R K (n + 1) 74 [v0, v1, .inr (.inr (some z))] k s = (rn_2_gather ns ct R K n 75 [v0, v1, .inr (.inr (some z))] (.inr (.inr (some z)) :: k) s) := rfl
theorem rx_2_gather_75 {ns n ct R K s k z v1 v2} : rn_2_gather ns ct R K (n + 1) 75 [.inr (.inr (some z)), v1, v2] k s = (rn_2_gather ns ct R K n 76 [.inr (.inr (some z)), v1, v2] (.inr (.inr (some z)) :: k) s) := rfl
theorem rx_2_gather_76 {ns n ct R K s L k a} : rn_2_gather ns ct R K (n + 1) 76 L (.inr (.inr (some (some a))) :: k) s = (sy_ob a = some 2 ∧ rn_2_gather ns ct R K n 79 L (sy_fv s a 0 :: k) s) := rfl
theorem rx_2_gather_79 {ns n ct R K s L k a} : rn_2_gather ns ct R K (n + 1) 79 L (.inr (.inr (some (some a))) :: k) s = (sy_ob a = some 7 ∧ rn_2_gather ns ct R K n 82 L (sy_fv s a 2 :: k) s) := rfl
theorem rx_2_gather_82 {ns n ct R K s k z v0 v1} : rn_2_gather ns ct R K (n + 1) 82 [v0, v1, .inr (.inr (some z))] k s = (rn_2_gather ns ct R K n 83 [v0, v1, .inr (.inr (some z))] (.inr (.inr (some z)) :: k) s) := rfl
theorem rx_2_gather_83 {ns n ct R K s L k a} : rn_2_gather ns ct R K (n + 1) 83 L (.inr (.inr (some (some a))) :: k) s = (sy_ob a = some 6 ∧ rn_2_gather ns ct R K n 86 L (sy_fv s a 8 :: k) s) := rfl
theorem rx_2_gather_86 {ns n ct R K s L k} : rn_2_gather ns ct R K (n + 1) 86 L k s = (sy_call false (ct 85) k s fun r t => rn_2_gather ns ct R K n 89 L r t) := rfl
theorem rx_2_gather_89 {ns n ct R K s k z v0 v1} : rn_2_gather ns ct R K (n + 1) 89 [v0, v1, .inr (.inr (some z))] k s = (rn_2_gather ns ct R K n 90 [v0, v1, .inr (.inr (some z))] (.inr (.inr (some z)) :: k) s) := rfl
theorem rx_2_gather_90 {ns n ct R K s L k a} : rn_2_gather ns ct R K (n + 1) 90 L (.inr (.inr (some (some a))) :: k) s = (sy_ob a = some 6 ∧ rn_2_gather ns ct R K n 93 L (sy_fv s a 0 :: k) s) := rfl
theorem rx_2_gather_93 {ns n ct R K s L k} : rn_2_gather ns ct R K (n + 1) 93 L k s = (sy_call false (ct 92) k s fun r t => rn_2_gather ns ct R K n 96 L r t) := rfl
theorem rx_2_gather_96 {ns n ct R K s k z v0 v2} : rn_2_gather ns ct R K (n + 1) 96 [v0, .inl (true, z), v2] k s = ((-2147483648 ≤ z + 1 ∧ z + 1 < 2147483648) ∧ rn_2_gather ns ct R K n 99 (sy_sto [v0, .inl (true, z), v2] 1 (.inl (true, z + 1))) k s) := rfl
theorem rx_2_gather_99 {ns n ct R K s L k} : rn_2_gather ns ct R K (n + 1) 99 L k s = (K 7 L k s) := rfl
theorem rx_2_gather_102 {ns n ct R K s L} : rn_2_gather ns ct R K (n + 1) 102 L [] s = (R none s) := rfl
def y_2_addPoint : MethodName := ⟨"StarHide$Hull", "addPoint", "(II)V"⟩
abbrev c_2_addPoint : ByteArray := prog_4_method_13_code
def tc_2_addPoint (pc : Nat) : Option sy_I := match pc with
  | 0 => some (.aload_n 0, 1, 0)
  | 1 => some (.getfield 57, 4, 0)
  | 4 => some (.bipush 32, 6, 0)
  | 6 => some (.if_icmp .ge 33, 9, 39)
  | 9 => some (.aload_n 0, 10, 0)
  | 10 => some (.getfield 11, 13, 0)
  | 13 => some (.aload_n 0, 14, 0)
  | 14 => some (.getfield 57, 17, 0)
  | 17 => some (.iload_n 1, 18, 0)
  | 18 => some (.iastore, 19, 0)
  | 19 => some (.aload_n 0, 20, 0)
  | 20 => some (.getfield 15, 23, 0)
  | 23 => some (.aload_n 0, 24, 0)
  | 24 => some (.getfield 57, 27, 0)
  | 27 => some (.iload_n 2, 28, 0)
  | 28 => some (.iastore, 29, 0)
  | 29 => some (.aload_n 0, 30, 0)
  | 30 => some (.dup, 31, 0)
  | 31 => some (.getfield 57, 34, 0)
  | 34 => some (.iconst 1, 35, 0)
  | 35 => some (.iadd, 36, 0)
  | 36 => some (.putfield 57, 39, 0)
  | 39 => some (.return_, 40, 0)
  | _ => none
theorem tv_2_addPoint : ∀ pc i, sy_lk 40 tc_2_addPoint pc = some i → sy_chk c_2_addPoint none false pc i = true := sy_lk_ok 40 tc_2_addPoint (by decide +kernel)
def Mk_2_addPoint (ct : Nat → Option (Bool × Nat × sy_Sp)) : sy_M := (sy_lk 40 tc_2_addPoint, ff_2, ki_2, kl_2, ct, false)
def rn_2_addPoint (ns : Nat) (ct : Nat → Option (Bool × Nat × sy_Sp)) (R : sy_R) (K : sy_K) : Nat → sy_K := sy_run ns (Mk_2_addPoint ct) [] R K
theorem rx_2_addPoint_0 {ns n ct R K s k z v1 v2} : rn_2_addPoint ns ct R K (n + 1) 0 [.inr (.inr (some z)), v1, v2] k s = (rn_2_addPoint ns ct R K n 1 [.inr (.inr (some z)), v1, v2] (.inr (.inr (some z)) :: k) s) := rfl
theorem rx_2_addPoint_1 {ns n ct R K s L k a} : rn_2_addPoint ns ct R K (n + 1) 1 L (.inr (.inr (some (some a))) :: k) s = (sy_ob a = some 2 ∧ rn_2_addPoint ns ct R K n 4 L (sy_fv s a 3 :: k) s) := rfl
theorem rx_2_addPoint_4 {ns n ct R K s L k} : rn_2_addPoint ns ct R K (n + 1) 4 L k s = (rn_2_addPoint ns ct R K n 6 L (.inl (true, 32) :: k) s) := rfl
theorem rx_2_addPoint_6 {ns n ct R K s L k a b x y} : rn_2_addPoint ns ct R K (n + 1) 6 L (.inl (b, y) :: .inl (a, x) :: k) s = (sy_ri a x ∧ sy_ri b y ∧ (y ≤ x → rn_2_addPoint ns ct R K n 39 L k s) ∧ (¬ y ≤ x → rn_2_addPoint ns ct R K n 9 L k s)) := rfl
theorem rx_2_addPoint_9 {ns n ct R K s k z v1 v2} : rn_2_addPoint ns ct R K (n + 1) 9 [.inr (.inr (some z)), v1, v2] k s = (rn_2_addPoint ns ct R K n 10 [.inr (.inr (some z)), v1, v2] (.inr (.inr (some z)) :: k) s) := rfl
theorem rx_2_addPoint_10 {ns n ct R K s L k a} : rn_2_addPoint ns ct R K (n + 1) 10 L (.inr (.inr (some (some a))) :: k) s = (sy_ob a = some 2 ∧ rn_2_addPoint ns ct R K n 13 L (sy_fv s a 1 :: k) s) := rfl
theorem rx_2_addPoint_13 {ns n ct R K s k z v1 v2} : rn_2_addPoint ns ct R K (n + 1) 13 [.inr (.inr (some z)), v1, v2] k s = (rn_2_addPoint ns ct R K n 14 [.inr (.inr (some z)), v1, v2] (.inr (.inr (some z)) :: k) s) := rfl
theorem rx_2_addPoint_14 {ns n ct R K s L k a} : rn_2_addPoint ns ct R K (n + 1) 14 L (.inr (.inr (some (some a))) :: k) s = (sy_ob a = some 2 ∧ rn_2_addPoint ns ct R K n 17 L (sy_fv s a 3 :: k) s) := rfl
theorem rx_2_addPoint_17 {ns n ct R K s k z v0 v2} : rn_2_addPoint ns ct R K (n + 1) 17 [v0, .inl (true, z), v2] k s = (rn_2_addPoint ns ct R K n 18 [v0, .inl (true, z), v2] (.inl (true, z) :: k) s) := rfl
theorem rx_2_addPoint_18 {ns n ct R K s L k a b c z y} : rn_2_addPoint ns ct R K (n + 1) 18 L (.inl (c, y) :: .inl (b, z) :: .inr (.inr (some (some a))) :: k) s = (sy_ri c y ∧ (0 ≤ z ∧ z < (sy_ar a).2) ∧ sy_ob a = none ∧ (sy_ar a).1 = 0 ∧ rn_2_addPoint ns ct R K n 19 L k (sy_up s a z.toNat y)) := rfl
theorem rx_2_addPoint_19 {ns n ct R K s k z v1 v2} : rn_2_addPoint ns ct R K (n + 1) 19 [.inr (.inr (some z)), v1, v2] k s = (rn_2_addPoint ns ct R K n 20 [.inr (.inr (some z)), v1, v2] (.inr (.inr (some z)) :: k) s) := rfl
theorem rx_2_addPoint_20 {ns n ct R K s L k a} : rn_2_addPoint ns ct R K (n + 1) 20 L (.inr (.inr (some (some a))) :: k) s = (sy_ob a = some 2 ∧ rn_2_addPoint ns ct R K n 23 L (sy_fv s a 2 :: k) s) := rfl
theorem rx_2_addPoint_23 {ns n ct R K s k z v1 v2} : rn_2_addPoint ns ct R K (n + 1) 23 [.inr (.inr (some z)), v1, v2] k s = (rn_2_addPoint ns ct R K n 24 [.inr (.inr (some z)), v1, v2] (.inr (.inr (some z)) :: k) s) := rfl
theorem rx_2_addPoint_24 {ns n ct R K s L k a} : rn_2_addPoint ns ct R K (n + 1) 24 L (.inr (.inr (some (some a))) :: k) s = (sy_ob a = some 2 ∧ rn_2_addPoint ns ct R K n 27 L (sy_fv s a 3 :: k) s) := rfl
theorem rx_2_addPoint_27 {ns n ct R K s k z v0 v1} : rn_2_addPoint ns ct R K (n + 1) 27 [v0, v1, .inl (true, z)] k s = (rn_2_addPoint ns ct R K n 28 [v0, v1, .inl (true, z)] (.inl (true, z) :: k) s) := rfl
theorem rx_2_addPoint_28 {ns n ct R K s L k a b c z y} : rn_2_addPoint ns ct R K (n + 1) 28 L (.inl (c, y) :: .inl (b, z) :: .inr (.inr (some (some a))) :: k) s = (sy_ri c y ∧ (0 ≤ z ∧ z < (sy_ar a).2) ∧ sy_ob a = none ∧ (sy_ar a).1 = 0 ∧ rn_2_addPoint ns ct R K n 29 L k (sy_up s a z.toNat y)) := rfl
theorem rx_2_addPoint_29 {ns n ct R K s k z v1 v2} : rn_2_addPoint ns ct R K (n + 1) 29 [.inr (.inr (some z)), v1, v2] k s = (rn_2_addPoint ns ct R K n 30 [.inr (.inr (some z)), v1, v2] (.inr (.inr (some z)) :: k) s) := rfl
theorem rx_2_addPoint_30_i {ns n ct R K s L k a} : rn_2_addPoint ns ct R K (n + 1) 30 L (.inl a :: k) s = (rn_2_addPoint ns ct R K n 31 L (.inl a :: .inl a :: k) s) := rfl
theorem rx_2_addPoint_30 {ns n ct R K s L k a} : rn_2_addPoint ns ct R K (n + 1) 30 L (.inr (.inr a) :: k) s = (rn_2_addPoint ns ct R K n 31 L (.inr (.inr a) :: .inr (.inr a) :: k) s) := rfl
theorem rx_2_addPoint_31 {ns n ct R K s L k a} : rn_2_addPoint ns ct R K (n + 1) 31 L (.inr (.inr (some (some a))) :: k) s = (sy_ob a = some 2 ∧ rn_2_addPoint ns ct R K n 34 L (sy_fv s a 3 :: k) s) := rfl
theorem rx_2_addPoint_34 {ns n ct R K s L k} : rn_2_addPoint ns ct R K (n + 1) 34 L k s = (rn_2_addPoint ns ct R K n 35 L (.inl (true, 1) :: k) s) := rfl
theorem rx_2_addPoint_35 {ns n ct R K s L k a b x y} : rn_2_addPoint ns ct R K (n + 1) 35 L (.inl (b, y) :: .inl (a, x) :: k) s = (rn_2_addPoint ns ct R K n 36 L (.inl (false, x + y) :: k) s) := rfl
theorem rx_2_addPoint_36 {ns n ct R K s L k a b z} : rn_2_addPoint ns ct R K (n + 1) 36 L (.inl (b, z) :: .inr (.inr (some (some a))) :: k) s = (sy_ob a = some 2 ∧ sy_ri b z ∧ sy_b01 false z ∧ rn_2_addPoint ns ct R K n 39 L k (sy_up s a 3 z)) := rfl
theorem rx_2_addPoint_39 {ns n ct R K s L} : rn_2_addPoint ns ct R K (n + 1) 39 L [] s = (R none s) := rfl
def y_2_lowestPoint : MethodName := ⟨"StarHide$Hull", "lowestPoint", "()I"⟩
abbrev c_2_lowestPoint : ByteArray := prog_4_method_14_code
def tc_2_lowestPoint (pc : Nat) : Option sy_I := match pc with
  | 0 => some (.iconst 0, 1, 0)
  | 1 => some (.istore_n 1, 2, 0)
  | 2 => some (.iconst 1, 3, 0)
  | 3 => some (.istore_n 2, 4, 0)
  | 4 => some (.iload_n 2, 5, 0)
  | 5 => some (.aload_n 0, 6, 0)
  | 6 => some (.getfield 57, 9, 0)
  | 9 => some (.if_icmp .ge 56, 12, 65)
  | 12 => some (.aload_n 0, 13, 0)
  | 13 => some (.getfield 15, 16, 0)
  | 16 => some (.iload_n 2, 17, 0)
  | 17 => some (.iaload, 18, 0)
  | 18 => some (.aload_n 0, 19, 0)
  | 19 => some (.getfield 15, 22, 0)
  | 22 => some (.iload_n 1, 23, 0)
  | 23 => some (.iaload, 24, 0)
  | 24 => some (.if_icmp .lt 33, 27, 57)
  | 27 => some (.aload_n 0, 28, 0)
  | 28 => some (.getfield 15, 31, 0)
  | 31 => some (.iload_n 2, 32, 0)
  | 32 => some (.iaload, 33, 0)
  | 33 => some (.aload_n 0, 34, 0)
  | 34 => some (.getfield 15, 37, 0)
  | 37 => some (.iload_n 1, 38, 0)
  | 38 => some (.iaload, 39, 0)
  | 39 => some (.if_icmp .ne 20, 42, 59)
  | 42 => some (.aload_n 0, 43, 0)
  | 43 => some (.getfield 11, 46, 0)
  | 46 => some (.iload_n 2, 47, 0)
  | 47 => some (.iaload, 48, 0)
  | 48 => some (.aload_n 0, 49, 0)
  | 49 => some (.getfield 11, 52, 0)
  | 52 => some (.iload_n 1, 53, 0)
  | 53 => some (.iaload, 54, 0)
  | 54 => some (.if_icmp .ge 5, 57, 59)
  | 57 => some (.iload_n 2, 58, 0)
  | 58 => some (.istore_n 1, 59, 0)
  | 59 => some (.iinc 2 1, 62, 0)
  | 62 => some (.goto (-58), 65, 4)
  | 65 => some (.iload_n 1, 66, 0)
  | 66 => some (.ireturn, 67, 0)
  | _ => none
theorem tv_2_lowestPoint : ∀ pc i, sy_lk 67 tc_2_lowestPoint pc = some i → sy_chk c_2_lowestPoint (some .int) false pc i = true := sy_lk_ok 67 tc_2_lowestPoint (by decide +kernel)
def Mk_2_lowestPoint (ct : Nat → Option (Bool × Nat × sy_Sp)) : sy_M := (sy_lk 67 tc_2_lowestPoint, ff_2, ki_2, kl_2, ct, false)
def rn_2_lowestPoint (ns : Nat) (ct : Nat → Option (Bool × Nat × sy_Sp)) (R : sy_R) (K : sy_K) : Nat → sy_K := sy_run ns (Mk_2_lowestPoint ct) [4] R K
theorem rx_2_lowestPoint_0 {ns n ct R K s L k} : rn_2_lowestPoint ns ct R K (n + 1) 0 L k s = (rn_2_lowestPoint ns ct R K n 1 L (.inl (true, 0) :: k) s) := rfl
theorem rx_2_lowestPoint_1 {ns n ct R K s L k b z} : rn_2_lowestPoint ns ct R K (n + 1) 1 L (.inl (b, z) :: k) s = (sy_ri b z ∧ 1 < L.length ∧ rn_2_lowestPoint ns ct R K n 2 (sy_sto L 1 (.inl (true, z))) k s) := rfl
theorem rx_2_lowestPoint_2 {ns n ct R K s L k} : rn_2_lowestPoint ns ct R K (n + 1) 2 L k s = (rn_2_lowestPoint ns ct R K n 3 L (.inl (true, 1) :: k) s) := rfl
theorem rx_2_lowestPoint_3 {ns n ct R K s L k b z} : rn_2_lowestPoint ns ct R K (n + 1) 3 L (.inl (b, z) :: k) s = (sy_ri b z ∧ 2 < L.length ∧ K 4 (sy_sto L 2 (.inl (true, z))) k s) := rfl
theorem rx_2_lowestPoint_4 {ns n ct R K s k z v0 v1} : rn_2_lowestPoint ns ct R K (n + 1) 4 [v0, v1, .inl (true, z)] k s = (rn_2_lowestPoint ns ct R K n 5 [v0, v1, .inl (true, z)] (.inl (true, z) :: k) s) := rfl
theorem rx_2_lowestPoint_5 {ns n ct R K s k z v1 v2} : rn_2_lowestPoint ns ct R K (n + 1) 5 [.inr (.inr (some z)), v1, v2] k s = (rn_2_lowestPoint ns ct R K n 6 [.inr (.inr (some z)), v1, v2] (.inr (.inr (some z)) :: k) s) := rfl
theorem rx_2_lowestPoint_6 {ns n ct R K s L k a} : rn_2_lowestPoint ns ct R K (n + 1) 6 L (.inr (.inr (some (some a))) :: k) s = (sy_ob a = some 2 ∧ rn_2_lowestPoint ns ct R K n 9 L (sy_fv s a 3 :: k) s) := rfl
theorem rx_2_lowestPoint_9 {ns n ct R K s L k a b x y} : rn_2_lowestPoint ns ct R K (n + 1) 9 L (.inl (b, y) :: .inl (a, x) :: k) s = (sy_ri a x ∧ sy_ri b y ∧ (y ≤ x → rn_2_lowestPoint ns ct R K n 65 L k s) ∧ (¬ y ≤ x → rn_2_lowestPoint ns ct R K n 12 L k s)) := rfl
theorem rx_2_lowestPoint_12 {ns n ct R K s k z v1 v2} : rn_2_lowestPoint ns ct R K (n + 1) 12 [.inr (.inr (some z)), v1, v2] k s = (rn_2_lowestPoint ns ct R K n 13 [.inr (.inr (some z)), v1, v2] (.inr (.inr (some z)) :: k) s) := rfl
theorem rx_2_lowestPoint_13 {ns n ct R K s L k a} : rn_2_lowestPoint ns ct R K (n + 1) 13 L (.inr (.inr (some (some a))) :: k) s = (sy_ob a = some 2 ∧ rn_2_lowestPoint ns ct R K n 16 L (sy_fv s a 2 :: k) s) := rfl
theorem rx_2_lowestPoint_16 {ns n ct R K s k z v0 v1} : rn_2_lowestPoint ns ct R K (n + 1) 16 [v0, v1, .inl (true, z)] k s = (rn_2_lowestPoint ns ct R K n 17 [v0, v1, .inl (true, z)] (.inl (true, z) :: k) s) := rfl
theorem rx_2_lowestPoint_17 {ns n ct R K s L k a b z} : rn_2_lowestPoint ns ct R K (n + 1) 17 L (.inl (b, z) :: .inr (.inr (some (some a))) :: k) s = ((0 ≤ z ∧ z < (sy_ar a).2) ∧ sy_ob a = none ∧ (sy_ar a).1 = 0 ∧ rn_2_lowestPoint ns ct R K n 18 L (.inl (true, s a z.toNat) :: k) s) := rfl
theorem rx_2_lowestPoint_18 {ns n ct R K s k z v1 v2} : rn_2_lowestPoint ns ct R K (n + 1) 18 [.inr (.inr (some z)), v1, v2] k s = (rn_2_lowestPoint ns ct R K n 19 [.inr (.inr (some z)), v1, v2] (.inr (.inr (some z)) :: k) s) := rfl
theorem rx_2_lowestPoint_19 {ns n ct R K s L k a} : rn_2_lowestPoint ns ct R K (n + 1) 19 L (.inr (.inr (some (some a))) :: k) s = (sy_ob a = some 2 ∧ rn_2_lowestPoint ns ct R K n 22 L (sy_fv s a 2 :: k) s) := rfl
theorem rx_2_lowestPoint_22 {ns n ct R K s k z v0 v2} : rn_2_lowestPoint ns ct R K (n + 1) 22 [v0, .inl (true, z), v2] k s = (rn_2_lowestPoint ns ct R K n 23 [v0, .inl (true, z), v2] (.inl (true, z) :: k) s) := rfl
theorem rx_2_lowestPoint_23 {ns n ct R K s L k a b z} : rn_2_lowestPoint ns ct R K (n + 1) 23 L (.inl (b, z) :: .inr (.inr (some (some a))) :: k) s = ((0 ≤ z ∧ z < (sy_ar a).2) ∧ sy_ob a = none ∧ (sy_ar a).1 = 0 ∧ rn_2_lowestPoint ns ct R K n 24 L (.inl (true, s a z.toNat) :: k) s) := rfl
theorem rx_2_lowestPoint_24 {ns n ct R K s L k a b x y} : rn_2_lowestPoint ns ct R K (n + 1) 24 L (.inl (b, y) :: .inl (a, x) :: k) s = (sy_ri a x ∧ sy_ri b y ∧ (x < y → rn_2_lowestPoint ns ct R K n 57 L k s) ∧ (¬ x < y → rn_2_lowestPoint ns ct R K n 27 L k s)) := rfl
theorem rx_2_lowestPoint_27 {ns n ct R K s k z v1 v2} : rn_2_lowestPoint ns ct R K (n + 1) 27 [.inr (.inr (some z)), v1, v2] k s = (rn_2_lowestPoint ns ct R K n 28 [.inr (.inr (some z)), v1, v2] (.inr (.inr (some z)) :: k) s) := rfl
theorem rx_2_lowestPoint_28 {ns n ct R K s L k a} : rn_2_lowestPoint ns ct R K (n + 1) 28 L (.inr (.inr (some (some a))) :: k) s = (sy_ob a = some 2 ∧ rn_2_lowestPoint ns ct R K n 31 L (sy_fv s a 2 :: k) s) := rfl
theorem rx_2_lowestPoint_31 {ns n ct R K s k z v0 v1} : rn_2_lowestPoint ns ct R K (n + 1) 31 [v0, v1, .inl (true, z)] k s = (rn_2_lowestPoint ns ct R K n 32 [v0, v1, .inl (true, z)] (.inl (true, z) :: k) s) := rfl
theorem rx_2_lowestPoint_32 {ns n ct R K s L k a b z} : rn_2_lowestPoint ns ct R K (n + 1) 32 L (.inl (b, z) :: .inr (.inr (some (some a))) :: k) s = ((0 ≤ z ∧ z < (sy_ar a).2) ∧ sy_ob a = none ∧ (sy_ar a).1 = 0 ∧ rn_2_lowestPoint ns ct R K n 33 L (.inl (true, s a z.toNat) :: k) s) := rfl
theorem rx_2_lowestPoint_33 {ns n ct R K s k z v1 v2} : rn_2_lowestPoint ns ct R K (n + 1) 33 [.inr (.inr (some z)), v1, v2] k s = (rn_2_lowestPoint ns ct R K n 34 [.inr (.inr (some z)), v1, v2] (.inr (.inr (some z)) :: k) s) := rfl
theorem rx_2_lowestPoint_34 {ns n ct R K s L k a} : rn_2_lowestPoint ns ct R K (n + 1) 34 L (.inr (.inr (some (some a))) :: k) s = (sy_ob a = some 2 ∧ rn_2_lowestPoint ns ct R K n 37 L (sy_fv s a 2 :: k) s) := rfl
theorem rx_2_lowestPoint_37 {ns n ct R K s k z v0 v2} : rn_2_lowestPoint ns ct R K (n + 1) 37 [v0, .inl (true, z), v2] k s = (rn_2_lowestPoint ns ct R K n 38 [v0, .inl (true, z), v2] (.inl (true, z) :: k) s) := rfl
theorem rx_2_lowestPoint_38 {ns n ct R K s L k a b z} : rn_2_lowestPoint ns ct R K (n + 1) 38 L (.inl (b, z) :: .inr (.inr (some (some a))) :: k) s = ((0 ≤ z ∧ z < (sy_ar a).2) ∧ sy_ob a = none ∧ (sy_ar a).1 = 0 ∧ rn_2_lowestPoint ns ct R K n 39 L (.inl (true, s a z.toNat) :: k) s) := rfl
theorem rx_2_lowestPoint_39 {ns n ct R K s L k a b x y} : rn_2_lowestPoint ns ct R K (n + 1) 39 L (.inl (b, y) :: .inl (a, x) :: k) s = (sy_ri a x ∧ sy_ri b y ∧ (¬ x = y → rn_2_lowestPoint ns ct R K n 59 L k s) ∧ (x = y → rn_2_lowestPoint ns ct R K n 42 L k s)) := rfl
theorem rx_2_lowestPoint_42 {ns n ct R K s k z v1 v2} : rn_2_lowestPoint ns ct R K (n + 1) 42 [.inr (.inr (some z)), v1, v2] k s = (rn_2_lowestPoint ns ct R K n 43 [.inr (.inr (some z)), v1, v2] (.inr (.inr (some z)) :: k) s) := rfl
theorem rx_2_lowestPoint_43 {ns n ct R K s L k a} : rn_2_lowestPoint ns ct R K (n + 1) 43 L (.inr (.inr (some (some a))) :: k) s = (sy_ob a = some 2 ∧ rn_2_lowestPoint ns ct R K n 46 L (sy_fv s a 1 :: k) s) := rfl
theorem rx_2_lowestPoint_46 {ns n ct R K s k z v0 v1} : rn_2_lowestPoint ns ct R K (n + 1) 46 [v0, v1, .inl (true, z)] k s = (rn_2_lowestPoint ns ct R K n 47 [v0, v1, .inl (true, z)] (.inl (true, z) :: k) s) := rfl
theorem rx_2_lowestPoint_47 {ns n ct R K s L k a b z} : rn_2_lowestPoint ns ct R K (n + 1) 47 L (.inl (b, z) :: .inr (.inr (some (some a))) :: k) s = ((0 ≤ z ∧ z < (sy_ar a).2) ∧ sy_ob a = none ∧ (sy_ar a).1 = 0 ∧ rn_2_lowestPoint ns ct R K n 48 L (.inl (true, s a z.toNat) :: k) s) := rfl
theorem rx_2_lowestPoint_48 {ns n ct R K s k z v1 v2} : rn_2_lowestPoint ns ct R K (n + 1) 48 [.inr (.inr (some z)), v1, v2] k s = (rn_2_lowestPoint ns ct R K n 49 [.inr (.inr (some z)), v1, v2] (.inr (.inr (some z)) :: k) s) := rfl
theorem rx_2_lowestPoint_49 {ns n ct R K s L k a} : rn_2_lowestPoint ns ct R K (n + 1) 49 L (.inr (.inr (some (some a))) :: k) s = (sy_ob a = some 2 ∧ rn_2_lowestPoint ns ct R K n 52 L (sy_fv s a 1 :: k) s) := rfl
theorem rx_2_lowestPoint_52 {ns n ct R K s k z v0 v2} : rn_2_lowestPoint ns ct R K (n + 1) 52 [v0, .inl (true, z), v2] k s = (rn_2_lowestPoint ns ct R K n 53 [v0, .inl (true, z), v2] (.inl (true, z) :: k) s) := rfl
theorem rx_2_lowestPoint_53 {ns n ct R K s L k a b z} : rn_2_lowestPoint ns ct R K (n + 1) 53 L (.inl (b, z) :: .inr (.inr (some (some a))) :: k) s = ((0 ≤ z ∧ z < (sy_ar a).2) ∧ sy_ob a = none ∧ (sy_ar a).1 = 0 ∧ rn_2_lowestPoint ns ct R K n 54 L (.inl (true, s a z.toNat) :: k) s) := rfl
theorem rx_2_lowestPoint_54 {ns n ct R K s L k a b x y} : rn_2_lowestPoint ns ct R K (n + 1) 54 L (.inl (b, y) :: .inl (a, x) :: k) s = (sy_ri a x ∧ sy_ri b y ∧ (y ≤ x → rn_2_lowestPoint ns ct R K n 59 L k s) ∧ (¬ y ≤ x → rn_2_lowestPoint ns ct R K n 57 L k s)) := rfl
theorem rx_2_lowestPoint_57 {ns n ct R K s k z v0 v1} : rn_2_lowestPoint ns ct R K (n + 1) 57 [v0, v1, .inl (true, z)] k s = (rn_2_lowestPoint ns ct R K n 58 [v0, v1, .inl (true, z)] (.inl (true, z) :: k) s) := rfl
theorem rx_2_lowestPoint_58 {ns n ct R K s L k b z} : rn_2_lowestPoint ns ct R K (n + 1) 58 L (.inl (b, z) :: k) s = (sy_ri b z ∧ 1 < L.length ∧ rn_2_lowestPoint ns ct R K n 59 (sy_sto L 1 (.inl (true, z))) k s) := rfl
theorem rx_2_lowestPoint_59 {ns n ct R K s k z v0 v1} : rn_2_lowestPoint ns ct R K (n + 1) 59 [v0, v1, .inl (true, z)] k s = ((-2147483648 ≤ z + 1 ∧ z + 1 < 2147483648) ∧ rn_2_lowestPoint ns ct R K n 62 (sy_sto [v0, v1, .inl (true, z)] 2 (.inl (true, z + 1))) k s) := rfl
theorem rx_2_lowestPoint_62 {ns n ct R K s L k} : rn_2_lowestPoint ns ct R K (n + 1) 62 L k s = (K 4 L k s) := rfl
theorem rx_2_lowestPoint_65 {ns n ct R K s k z v0 v2} : rn_2_lowestPoint ns ct R K (n + 1) 65 [v0, .inl (true, z), v2] k s = (rn_2_lowestPoint ns ct R K n 66 [v0, .inl (true, z), v2] (.inl (true, z) :: k) s) := rfl
theorem rx_2_lowestPoint_66 {ns n ct R K s L a z} : rn_2_lowestPoint ns ct R K (n + 1) 66 L [.inl (a, z)] s = (sy_ri a z ∧ sy_b01 false z ∧ R (some (.inl (true, z))) s) := rfl
def y_2_nextCorner : MethodName := ⟨"StarHide$Hull", "nextCorner", "(I)I"⟩
abbrev c_2_nextCorner : ByteArray := prog_4_method_15_code
def tc_2_nextCorner (pc : Nat) : Option sy_I := match pc with
  | 0 => some (.iload_n 1, 1, 0)
  | 1 => some (.istore_n 2, 2, 0)
  | 2 => some (.iconst 0, 3, 0)
  | 3 => some (.istore_n 3, 4, 0)
  | 4 => some (.iload_n 3, 5, 0)
  | 5 => some (.aload_n 0, 6, 0)
  | 6 => some (.getfield 57, 9, 0)
  | 9 => some (.if_icmp .ge 31, 12, 40)
  | 12 => some (.iload_n 3, 13, 0)
  | 13 => some (.iload_n 1, 14, 0)
  | 14 => some (.if_icmp .eq 20, 17, 34)
  | 17 => some (.iload_n 2, 18, 0)
  | 18 => some (.iload_n 1, 19, 0)
  | 19 => some (.if_icmp .eq 13, 22, 32)
  | 22 => some (.aload_n 0, 23, 0)
  | 23 => some (.iload_n 1, 24, 0)
  | 24 => some (.iload_n 2, 25, 0)
  | 25 => some (.iload_n 3, 26, 0)
  | 26 => some (.invokevirtual 99, 29, 0)
  | 29 => some (.ifCond .eq 5, 32, 34)
  | 32 => some (.iload_n 3, 33, 0)
  | 33 => some (.istore_n 2, 34, 0)
  | 34 => some (.iinc 3 1, 37, 0)
  | 37 => some (.goto (-33), 40, 4)
  | 40 => some (.iload_n 2, 41, 0)
  | 41 => some (.ireturn, 42, 0)
  | _ => none
theorem tv_2_nextCorner : ∀ pc i, sy_lk 42 tc_2_nextCorner pc = some i → sy_chk c_2_nextCorner (some .int) false pc i = true := sy_lk_ok 42 tc_2_nextCorner (by decide +kernel)
def Mk_2_nextCorner (ct : Nat → Option (Bool × Nat × sy_Sp)) : sy_M := (sy_lk 42 tc_2_nextCorner, ff_2, ki_2, kl_2, ct, false)
def rn_2_nextCorner (ns : Nat) (ct : Nat → Option (Bool × Nat × sy_Sp)) (R : sy_R) (K : sy_K) : Nat → sy_K := sy_run ns (Mk_2_nextCorner ct) [4] R K
theorem rx_2_nextCorner_0 {ns n ct R K s k z v0 v2 v3} : rn_2_nextCorner ns ct R K (n + 1) 0 [v0, .inl (true, z), v2, v3] k s = (rn_2_nextCorner ns ct R K n 1 [v0, .inl (true, z), v2, v3] (.inl (true, z) :: k) s) := rfl
theorem rx_2_nextCorner_1 {ns n ct R K s L k b z} : rn_2_nextCorner ns ct R K (n + 1) 1 L (.inl (b, z) :: k) s = (sy_ri b z ∧ 2 < L.length ∧ rn_2_nextCorner ns ct R K n 2 (sy_sto L 2 (.inl (true, z))) k s) := rfl
theorem rx_2_nextCorner_2 {ns n ct R K s L k} : rn_2_nextCorner ns ct R K (n + 1) 2 L k s = (rn_2_nextCorner ns ct R K n 3 L (.inl (true, 0) :: k) s) := rfl
theorem rx_2_nextCorner_3 {ns n ct R K s L k b z} : rn_2_nextCorner ns ct R K (n + 1) 3 L (.inl (b, z) :: k) s = (sy_ri b z ∧ 3 < L.length ∧ K 4 (sy_sto L 3 (.inl (true, z))) k s) := rfl
theorem rx_2_nextCorner_4 {ns n ct R K s k z v0 v1 v2} : rn_2_nextCorner ns ct R K (n + 1) 4 [v0, v1, v2, .inl (true, z)] k s = (rn_2_nextCorner ns ct R K n 5 [v0, v1, v2, .inl (true, z)] (.inl (true, z) :: k) s) := rfl
theorem rx_2_nextCorner_5 {ns n ct R K s k z v1 v2 v3} : rn_2_nextCorner ns ct R K (n + 1) 5 [.inr (.inr (some z)), v1, v2, v3] k s = (rn_2_nextCorner ns ct R K n 6 [.inr (.inr (some z)), v1, v2, v3] (.inr (.inr (some z)) :: k) s) := rfl
theorem rx_2_nextCorner_6 {ns n ct R K s L k a} : rn_2_nextCorner ns ct R K (n + 1) 6 L (.inr (.inr (some (some a))) :: k) s = (sy_ob a = some 2 ∧ rn_2_nextCorner ns ct R K n 9 L (sy_fv s a 3 :: k) s) := rfl
theorem rx_2_nextCorner_9 {ns n ct R K s L k a b x y} : rn_2_nextCorner ns ct R K (n + 1) 9 L (.inl (b, y) :: .inl (a, x) :: k) s = (sy_ri a x ∧ sy_ri b y ∧ (y ≤ x → rn_2_nextCorner ns ct R K n 40 L k s) ∧ (¬ y ≤ x → rn_2_nextCorner ns ct R K n 12 L k s)) := rfl
theorem rx_2_nextCorner_12 {ns n ct R K s k z v0 v1 v2} : rn_2_nextCorner ns ct R K (n + 1) 12 [v0, v1, v2, .inl (true, z)] k s = (rn_2_nextCorner ns ct R K n 13 [v0, v1, v2, .inl (true, z)] (.inl (true, z) :: k) s) := rfl
theorem rx_2_nextCorner_13 {ns n ct R K s k z v0 v2 v3} : rn_2_nextCorner ns ct R K (n + 1) 13 [v0, .inl (true, z), v2, v3] k s = (rn_2_nextCorner ns ct R K n 14 [v0, .inl (true, z), v2, v3] (.inl (true, z) :: k) s) := rfl
theorem rx_2_nextCorner_14 {ns n ct R K s L k a b x y} : rn_2_nextCorner ns ct R K (n + 1) 14 L (.inl (b, y) :: .inl (a, x) :: k) s = (sy_ri a x ∧ sy_ri b y ∧ (x = y → rn_2_nextCorner ns ct R K n 34 L k s) ∧ (¬ x = y → rn_2_nextCorner ns ct R K n 17 L k s)) := rfl
theorem rx_2_nextCorner_17 {ns n ct R K s k z v0 v1 v3} : rn_2_nextCorner ns ct R K (n + 1) 17 [v0, v1, .inl (true, z), v3] k s = (rn_2_nextCorner ns ct R K n 18 [v0, v1, .inl (true, z), v3] (.inl (true, z) :: k) s) := rfl
theorem rx_2_nextCorner_18 {ns n ct R K s k z v0 v2 v3} : rn_2_nextCorner ns ct R K (n + 1) 18 [v0, .inl (true, z), v2, v3] k s = (rn_2_nextCorner ns ct R K n 19 [v0, .inl (true, z), v2, v3] (.inl (true, z) :: k) s) := rfl
theorem rx_2_nextCorner_19 {ns n ct R K s L k a b x y} : rn_2_nextCorner ns ct R K (n + 1) 19 L (.inl (b, y) :: .inl (a, x) :: k) s = (sy_ri a x ∧ sy_ri b y ∧ (x = y → rn_2_nextCorner ns ct R K n 32 L k s) ∧ (¬ x = y → rn_2_nextCorner ns ct R K n 22 L k s)) := rfl
theorem rx_2_nextCorner_22 {ns n ct R K s k z v1 v2 v3} : rn_2_nextCorner ns ct R K (n + 1) 22 [.inr (.inr (some z)), v1, v2, v3] k s = (rn_2_nextCorner ns ct R K n 23 [.inr (.inr (some z)), v1, v2, v3] (.inr (.inr (some z)) :: k) s) := rfl
theorem rx_2_nextCorner_23 {ns n ct R K s k z v0 v2 v3} : rn_2_nextCorner ns ct R K (n + 1) 23 [v0, .inl (true, z), v2, v3] k s = (rn_2_nextCorner ns ct R K n 24 [v0, .inl (true, z), v2, v3] (.inl (true, z) :: k) s) := rfl
theorem rx_2_nextCorner_24 {ns n ct R K s k z v0 v1 v3} : rn_2_nextCorner ns ct R K (n + 1) 24 [v0, v1, .inl (true, z), v3] k s = (rn_2_nextCorner ns ct R K n 25 [v0, v1, .inl (true, z), v3] (.inl (true, z) :: k) s) := rfl
theorem rx_2_nextCorner_25 {ns n ct R K s k z v0 v1 v2} : rn_2_nextCorner ns ct R K (n + 1) 25 [v0, v1, v2, .inl (true, z)] k s = (rn_2_nextCorner ns ct R K n 26 [v0, v1, v2, .inl (true, z)] (.inl (true, z) :: k) s) := rfl
theorem rx_2_nextCorner_26 {ns n ct R K s L k} : rn_2_nextCorner ns ct R K (n + 1) 26 L k s = (sy_call false (ct 99) k s fun r t => rn_2_nextCorner ns ct R K n 29 L r t) := rfl
theorem rx_2_nextCorner_29 {ns n ct R K s L k a x} : rn_2_nextCorner ns ct R K (n + 1) 29 L (.inl (a, x) :: k) s = (sy_ri a x ∧ (x = 0 → rn_2_nextCorner ns ct R K n 34 L k s) ∧ (¬ x = 0 → rn_2_nextCorner ns ct R K n 32 L k s)) := rfl
theorem rx_2_nextCorner_32 {ns n ct R K s k z v0 v1 v2} : rn_2_nextCorner ns ct R K (n + 1) 32 [v0, v1, v2, .inl (true, z)] k s = (rn_2_nextCorner ns ct R K n 33 [v0, v1, v2, .inl (true, z)] (.inl (true, z) :: k) s) := rfl
theorem rx_2_nextCorner_33 {ns n ct R K s L k b z} : rn_2_nextCorner ns ct R K (n + 1) 33 L (.inl (b, z) :: k) s = (sy_ri b z ∧ 2 < L.length ∧ rn_2_nextCorner ns ct R K n 34 (sy_sto L 2 (.inl (true, z))) k s) := rfl
theorem rx_2_nextCorner_34 {ns n ct R K s k z v0 v1 v2} : rn_2_nextCorner ns ct R K (n + 1) 34 [v0, v1, v2, .inl (true, z)] k s = ((-2147483648 ≤ z + 1 ∧ z + 1 < 2147483648) ∧ rn_2_nextCorner ns ct R K n 37 (sy_sto [v0, v1, v2, .inl (true, z)] 3 (.inl (true, z + 1))) k s) := rfl
theorem rx_2_nextCorner_37 {ns n ct R K s L k} : rn_2_nextCorner ns ct R K (n + 1) 37 L k s = (K 4 L k s) := rfl
theorem rx_2_nextCorner_40 {ns n ct R K s k z v0 v1 v3} : rn_2_nextCorner ns ct R K (n + 1) 40 [v0, v1, .inl (true, z), v3] k s = (rn_2_nextCorner ns ct R K n 41 [v0, v1, .inl (true, z), v3] (.inl (true, z) :: k) s) := rfl
theorem rx_2_nextCorner_41 {ns n ct R K s L a z} : rn_2_nextCorner ns ct R K (n + 1) 41 L [.inl (a, z)] s = (sy_ri a z ∧ sy_b01 false z ∧ R (some (.inl (true, z))) s) := rfl
def y_2_isFurtherRight : MethodName := ⟨"StarHide$Hull", "isFurtherRight", "(III)Z"⟩
abbrev c_2_isFurtherRight : ByteArray := prog_4_method_16_code
def tc_2_isFurtherRight (pc : Nat) : Option sy_I := match pc with
  | 0 => some (.aload_n 0, 1, 0)
  | 1 => some (.iload_n 1, 2, 0)
  | 2 => some (.iload_n 2, 3, 0)
  | 3 => some (.aload_n 0, 4, 0)
  | 4 => some (.getfield 11, 7, 0)
  | 7 => some (.iload_n 3, 8, 0)
  | 8 => some (.iaload, 9, 0)
  | 9 => some (.aload_n 0, 10, 0)
  | 10 => some (.getfield 15, 13, 0)
  | 13 => some (.iload_n 3, 14, 0)
  | 14 => some (.iaload, 15, 0)
  | 15 => some (.invokevirtual 51, 18, 0)
  | 18 => some (.lstore 4, 20, 0)
  | 20 => some (.lload 4, 22, 0)
  | 22 => some (.lconst 0, 23, 0)
  | 23 => some (.lcmp, 24, 0)
  | 24 => some (.ifCond .lt 26, 27, 50)
  | 27 => some (.lload 4, 29, 0)
  | 29 => some (.lconst 0, 30, 0)
  | 30 => some (.lcmp, 31, 0)
  | 31 => some (.ifCond .ne 23, 34, 54)
  | 34 => some (.aload_n 0, 35, 0)
  | 35 => some (.iload_n 1, 36, 0)
  | 36 => some (.iload_n 3, 37, 0)
  | 37 => some (.invokevirtual 103, 40, 0)
  | 40 => some (.aload_n 0, 41, 0)
  | 41 => some (.iload_n 1, 42, 0)
  | 42 => some (.iload_n 2, 43, 0)
  | 43 => some (.invokevirtual 103, 46, 0)
  | 46 => some (.lcmp, 47, 0)
  | 47 => some (.ifCond .le 7, 50, 54)
  | 50 => some (.iconst 1, 51, 0)
  | 51 => some (.goto 4, 54, 55)
  | 54 => some (.iconst 0, 55, 0)
  | 55 => some (.ireturn, 56, 0)
  | _ => none
theorem tv_2_isFurtherRight : ∀ pc i, sy_lk 56 tc_2_isFurtherRight pc = some i → sy_chk c_2_isFurtherRight (some .boolean) true pc i = true := sy_lk_ok 56 tc_2_isFurtherRight (by decide +kernel)
def Mk_2_isFurtherRight (ct : Nat → Option (Bool × Nat × sy_Sp)) : sy_M := (sy_lk 56 tc_2_isFurtherRight, ff_2, ki_2, kl_2, ct, true)
def rn_2_isFurtherRight (ns : Nat) (ct : Nat → Option (Bool × Nat × sy_Sp)) (R : sy_R) (K : sy_K) : Nat → sy_K := sy_run ns (Mk_2_isFurtherRight ct) [] R K
theorem rx_2_isFurtherRight_0 {ns n ct R K s k z v1 v2 v3 v4 v5} : rn_2_isFurtherRight ns ct R K (n + 1) 0 [.inr (.inr (some z)), v1, v2, v3, v4, v5] k s = (rn_2_isFurtherRight ns ct R K n 1 [.inr (.inr (some z)), v1, v2, v3, v4, v5] (.inr (.inr (some z)) :: k) s) := rfl
theorem rx_2_isFurtherRight_1 {ns n ct R K s k z v0 v2 v3 v4 v5} : rn_2_isFurtherRight ns ct R K (n + 1) 1 [v0, .inl (true, z), v2, v3, v4, v5] k s = (rn_2_isFurtherRight ns ct R K n 2 [v0, .inl (true, z), v2, v3, v4, v5] (.inl (true, z) :: k) s) := rfl
theorem rx_2_isFurtherRight_2 {ns n ct R K s k z v0 v1 v3 v4 v5} : rn_2_isFurtherRight ns ct R K (n + 1) 2 [v0, v1, .inl (true, z), v3, v4, v5] k s = (rn_2_isFurtherRight ns ct R K n 3 [v0, v1, .inl (true, z), v3, v4, v5] (.inl (true, z) :: k) s) := rfl
theorem rx_2_isFurtherRight_3 {ns n ct R K s k z v1 v2 v3 v4 v5} : rn_2_isFurtherRight ns ct R K (n + 1) 3 [.inr (.inr (some z)), v1, v2, v3, v4, v5] k s = (rn_2_isFurtherRight ns ct R K n 4 [.inr (.inr (some z)), v1, v2, v3, v4, v5] (.inr (.inr (some z)) :: k) s) := rfl
theorem rx_2_isFurtherRight_4 {ns n ct R K s L k a} : rn_2_isFurtherRight ns ct R K (n + 1) 4 L (.inr (.inr (some (some a))) :: k) s = (sy_ob a = some 2 ∧ rn_2_isFurtherRight ns ct R K n 7 L (sy_fv s a 1 :: k) s) := rfl
theorem rx_2_isFurtherRight_7 {ns n ct R K s k z v0 v1 v2 v4 v5} : rn_2_isFurtherRight ns ct R K (n + 1) 7 [v0, v1, v2, .inl (true, z), v4, v5] k s = (rn_2_isFurtherRight ns ct R K n 8 [v0, v1, v2, .inl (true, z), v4, v5] (.inl (true, z) :: k) s) := rfl
theorem rx_2_isFurtherRight_8 {ns n ct R K s L k a b z} : rn_2_isFurtherRight ns ct R K (n + 1) 8 L (.inl (b, z) :: .inr (.inr (some (some a))) :: k) s = ((0 ≤ z ∧ z < (sy_ar a).2) ∧ sy_ob a = none ∧ (sy_ar a).1 = 0 ∧ rn_2_isFurtherRight ns ct R K n 9 L (.inl (true, s a z.toNat) :: k) s) := rfl
theorem rx_2_isFurtherRight_9 {ns n ct R K s k z v1 v2 v3 v4 v5} : rn_2_isFurtherRight ns ct R K (n + 1) 9 [.inr (.inr (some z)), v1, v2, v3, v4, v5] k s = (rn_2_isFurtherRight ns ct R K n 10 [.inr (.inr (some z)), v1, v2, v3, v4, v5] (.inr (.inr (some z)) :: k) s) := rfl
theorem rx_2_isFurtherRight_10 {ns n ct R K s L k a} : rn_2_isFurtherRight ns ct R K (n + 1) 10 L (.inr (.inr (some (some a))) :: k) s = (sy_ob a = some 2 ∧ rn_2_isFurtherRight ns ct R K n 13 L (sy_fv s a 2 :: k) s) := rfl
theorem rx_2_isFurtherRight_13 {ns n ct R K s k z v0 v1 v2 v4 v5} : rn_2_isFurtherRight ns ct R K (n + 1) 13 [v0, v1, v2, .inl (true, z), v4, v5] k s = (rn_2_isFurtherRight ns ct R K n 14 [v0, v1, v2, .inl (true, z), v4, v5] (.inl (true, z) :: k) s) := rfl
theorem rx_2_isFurtherRight_14 {ns n ct R K s L k a b z} : rn_2_isFurtherRight ns ct R K (n + 1) 14 L (.inl (b, z) :: .inr (.inr (some (some a))) :: k) s = ((0 ≤ z ∧ z < (sy_ar a).2) ∧ sy_ob a = none ∧ (sy_ar a).1 = 0 ∧ rn_2_isFurtherRight ns ct R K n 15 L (.inl (true, s a z.toNat) :: k) s) := rfl
theorem rx_2_isFurtherRight_15 {ns n ct R K s L k} : rn_2_isFurtherRight ns ct R K (n + 1) 15 L k s = (sy_call false (ct 51) k s fun r t => rn_2_isFurtherRight ns ct R K n 18 L r t) := rfl
theorem rx_2_isFurtherRight_18 {ns n ct R K s L k b z} : rn_2_isFurtherRight ns ct R K (n + 1) 18 L (.inr (.inl (b, z)) :: k) s = (sy_rl b z ∧ 5 < L.length ∧ rn_2_isFurtherRight ns ct R K n 20 (sy_gone (sy_sto L 4 (.inr (.inl (true, z)))) 5) k s) := rfl
theorem rx_2_isFurtherRight_20 {ns n ct R K s k z v0 v1 v2 v3 v5} : rn_2_isFurtherRight ns ct R K (n + 1) 20 [v0, v1, v2, v3, .inr (.inl (true, z)), v5] k s = (rn_2_isFurtherRight ns ct R K n 22 [v0, v1, v2, v3, .inr (.inl (true, z)), v5] (.inr (.inl (true, z)) :: k) s) := rfl
theorem rx_2_isFurtherRight_22 {ns n ct R K s L k} : rn_2_isFurtherRight ns ct R K (n + 1) 22 L k s = (rn_2_isFurtherRight ns ct R K n 23 L (.inr (.inl (true, 0)) :: k) s) := rfl
theorem rx_2_isFurtherRight_23 {ns n ct R K s L k a b x y} : rn_2_isFurtherRight ns ct R K (n + 1) 23 L (.inr (.inl (b, y)) :: .inr (.inl (a, x)) :: k) s = (sy_rl a x ∧ sy_rl b y ∧ rn_2_isFurtherRight ns ct R K n 24 L (.inl (true, sy_cmp x y) :: k) s) := rfl
theorem rx_2_isFurtherRight_24 {ns n ct R K s L k a x} : rn_2_isFurtherRight ns ct R K (n + 1) 24 L (.inl (a, x) :: k) s = (sy_ri a x ∧ (x < 0 → rn_2_isFurtherRight ns ct R K n 50 L k s) ∧ (¬ x < 0 → rn_2_isFurtherRight ns ct R K n 27 L k s)) := rfl
theorem rx_2_isFurtherRight_27 {ns n ct R K s k z v0 v1 v2 v3 v5} : rn_2_isFurtherRight ns ct R K (n + 1) 27 [v0, v1, v2, v3, .inr (.inl (true, z)), v5] k s = (rn_2_isFurtherRight ns ct R K n 29 [v0, v1, v2, v3, .inr (.inl (true, z)), v5] (.inr (.inl (true, z)) :: k) s) := rfl
theorem rx_2_isFurtherRight_29 {ns n ct R K s L k} : rn_2_isFurtherRight ns ct R K (n + 1) 29 L k s = (rn_2_isFurtherRight ns ct R K n 30 L (.inr (.inl (true, 0)) :: k) s) := rfl
theorem rx_2_isFurtherRight_30 {ns n ct R K s L k a b x y} : rn_2_isFurtherRight ns ct R K (n + 1) 30 L (.inr (.inl (b, y)) :: .inr (.inl (a, x)) :: k) s = (sy_rl a x ∧ sy_rl b y ∧ rn_2_isFurtherRight ns ct R K n 31 L (.inl (true, sy_cmp x y) :: k) s) := rfl
theorem rx_2_isFurtherRight_31 {ns n ct R K s L k a x} : rn_2_isFurtherRight ns ct R K (n + 1) 31 L (.inl (a, x) :: k) s = (sy_ri a x ∧ (¬ x = 0 → rn_2_isFurtherRight ns ct R K n 54 L k s) ∧ (x = 0 → rn_2_isFurtherRight ns ct R K n 34 L k s)) := rfl
theorem rx_2_isFurtherRight_34 {ns n ct R K s k z v1 v2 v3 v4 v5} : rn_2_isFurtherRight ns ct R K (n + 1) 34 [.inr (.inr (some z)), v1, v2, v3, v4, v5] k s = (rn_2_isFurtherRight ns ct R K n 35 [.inr (.inr (some z)), v1, v2, v3, v4, v5] (.inr (.inr (some z)) :: k) s) := rfl
theorem rx_2_isFurtherRight_35 {ns n ct R K s k z v0 v2 v3 v4 v5} : rn_2_isFurtherRight ns ct R K (n + 1) 35 [v0, .inl (true, z), v2, v3, v4, v5] k s = (rn_2_isFurtherRight ns ct R K n 36 [v0, .inl (true, z), v2, v3, v4, v5] (.inl (true, z) :: k) s) := rfl
theorem rx_2_isFurtherRight_36 {ns n ct R K s k z v0 v1 v2 v4 v5} : rn_2_isFurtherRight ns ct R K (n + 1) 36 [v0, v1, v2, .inl (true, z), v4, v5] k s = (rn_2_isFurtherRight ns ct R K n 37 [v0, v1, v2, .inl (true, z), v4, v5] (.inl (true, z) :: k) s) := rfl
theorem rx_2_isFurtherRight_37 {ns n ct R K s L k} : rn_2_isFurtherRight ns ct R K (n + 1) 37 L k s = (sy_call false (ct 103) k s fun r t => rn_2_isFurtherRight ns ct R K n 40 L r t) := rfl
theorem rx_2_isFurtherRight_40 {ns n ct R K s k z v1 v2 v3 v4 v5} : rn_2_isFurtherRight ns ct R K (n + 1) 40 [.inr (.inr (some z)), v1, v2, v3, v4, v5] k s = (rn_2_isFurtherRight ns ct R K n 41 [.inr (.inr (some z)), v1, v2, v3, v4, v5] (.inr (.inr (some z)) :: k) s) := rfl
theorem rx_2_isFurtherRight_41 {ns n ct R K s k z v0 v2 v3 v4 v5} : rn_2_isFurtherRight ns ct R K (n + 1) 41 [v0, .inl (true, z), v2, v3, v4, v5] k s = (rn_2_isFurtherRight ns ct R K n 42 [v0, .inl (true, z), v2, v3, v4, v5] (.inl (true, z) :: k) s) := rfl
theorem rx_2_isFurtherRight_42 {ns n ct R K s k z v0 v1 v3 v4 v5} : rn_2_isFurtherRight ns ct R K (n + 1) 42 [v0, v1, .inl (true, z), v3, v4, v5] k s = (rn_2_isFurtherRight ns ct R K n 43 [v0, v1, .inl (true, z), v3, v4, v5] (.inl (true, z) :: k) s) := rfl
theorem rx_2_isFurtherRight_43 {ns n ct R K s L k} : rn_2_isFurtherRight ns ct R K (n + 1) 43 L k s = (sy_call false (ct 103) k s fun r t => rn_2_isFurtherRight ns ct R K n 46 L r t) := rfl
theorem rx_2_isFurtherRight_46 {ns n ct R K s L k a b x y} : rn_2_isFurtherRight ns ct R K (n + 1) 46 L (.inr (.inl (b, y)) :: .inr (.inl (a, x)) :: k) s = (sy_rl a x ∧ sy_rl b y ∧ rn_2_isFurtherRight ns ct R K n 47 L (.inl (true, sy_cmp x y) :: k) s) := rfl
theorem rx_2_isFurtherRight_47 {ns n ct R K s L k a x} : rn_2_isFurtherRight ns ct R K (n + 1) 47 L (.inl (a, x) :: k) s = (sy_ri a x ∧ (x ≤ 0 → rn_2_isFurtherRight ns ct R K n 54 L k s) ∧ (¬ x ≤ 0 → rn_2_isFurtherRight ns ct R K n 50 L k s)) := rfl
theorem rx_2_isFurtherRight_50 {ns n ct R K s L k} : rn_2_isFurtherRight ns ct R K (n + 1) 50 L k s = (rn_2_isFurtherRight ns ct R K n 51 L (.inl (true, 1) :: k) s) := rfl
theorem rx_2_isFurtherRight_51 {ns n ct R K s L k} : rn_2_isFurtherRight ns ct R K (n + 1) 51 L k s = (rn_2_isFurtherRight ns ct R K n 55 L k s) := rfl
theorem rx_2_isFurtherRight_54 {ns n ct R K s L k} : rn_2_isFurtherRight ns ct R K (n + 1) 54 L k s = (rn_2_isFurtherRight ns ct R K n 55 L (.inl (true, 0) :: k) s) := rfl
theorem rx_2_isFurtherRight_55 {ns n ct R K s L a z} : rn_2_isFurtherRight ns ct R K (n + 1) 55 L [.inl (a, z)] s = (sy_ri a z ∧ sy_b01 true z ∧ R (some (.inl (true, z))) s) := rfl
def y_2_squareBetween : MethodName := ⟨"StarHide$Hull", "squareBetween", "(II)J"⟩
abbrev c_2_squareBetween : ByteArray := prog_4_method_17_code
def tc_2_squareBetween (pc : Nat) : Option sy_I := match pc with
  | 0 => some (.aload_n 0, 1, 0)
  | 1 => some (.getfield 11, 4, 0)
  | 4 => some (.iload_n 1, 5, 0)
  | 5 => some (.iaload, 6, 0)
  | 6 => some (.aload_n 0, 7, 0)
  | 7 => some (.getfield 11, 10, 0)
  | 10 => some (.iload_n 2, 11, 0)
  | 11 => some (.iaload, 12, 0)
  | 12 => some (.isub, 13, 0)
  | 13 => some (.i2l, 14, 0)
  | 14 => some (.lstore_n 3, 15, 0)
  | 15 => some (.aload_n 0, 16, 0)
  | 16 => some (.getfield 15, 19, 0)
  | 19 => some (.iload_n 1, 20, 0)
  | 20 => some (.iaload, 21, 0)
  | 21 => some (.aload_n 0, 22, 0)
  | 22 => some (.getfield 15, 25, 0)
  | 25 => some (.iload_n 2, 26, 0)
  | 26 => some (.iaload, 27, 0)
  | 27 => some (.isub, 28, 0)
  | 28 => some (.i2l, 29, 0)
  | 29 => some (.lstore 5, 31, 0)
  | 31 => some (.lload_n 3, 32, 0)
  | 32 => some (.lload_n 3, 33, 0)
  | 33 => some (.lmul, 34, 0)
  | 34 => some (.lload 5, 36, 0)
  | 36 => some (.lload 5, 38, 0)
  | 38 => some (.lmul, 39, 0)
  | 39 => some (.ladd, 40, 0)
  | 40 => some (.lreturn, 41, 0)
  | _ => none
theorem tv_2_squareBetween : ∀ pc i, sy_lk 41 tc_2_squareBetween pc = some i → sy_chk c_2_squareBetween (some .long) false pc i = true := sy_lk_ok 41 tc_2_squareBetween (by decide +kernel)
def Mk_2_squareBetween (ct : Nat → Option (Bool × Nat × sy_Sp)) : sy_M := (sy_lk 41 tc_2_squareBetween, ff_2, ki_2, kl_2, ct, false)
def rn_2_squareBetween (ns : Nat) (ct : Nat → Option (Bool × Nat × sy_Sp)) (R : sy_R) (K : sy_K) : Nat → sy_K := sy_run ns (Mk_2_squareBetween ct) [] R K
theorem rx_2_squareBetween_0 {ns n ct R K s k z v1 v2 v3 v4 v5 v6} : rn_2_squareBetween ns ct R K (n + 1) 0 [.inr (.inr (some z)), v1, v2, v3, v4, v5, v6] k s = (rn_2_squareBetween ns ct R K n 1 [.inr (.inr (some z)), v1, v2, v3, v4, v5, v6] (.inr (.inr (some z)) :: k) s) := rfl
theorem rx_2_squareBetween_1 {ns n ct R K s L k a} : rn_2_squareBetween ns ct R K (n + 1) 1 L (.inr (.inr (some (some a))) :: k) s = (sy_ob a = some 2 ∧ rn_2_squareBetween ns ct R K n 4 L (sy_fv s a 1 :: k) s) := rfl
theorem rx_2_squareBetween_4 {ns n ct R K s k z v0 v2 v3 v4 v5 v6} : rn_2_squareBetween ns ct R K (n + 1) 4 [v0, .inl (true, z), v2, v3, v4, v5, v6] k s = (rn_2_squareBetween ns ct R K n 5 [v0, .inl (true, z), v2, v3, v4, v5, v6] (.inl (true, z) :: k) s) := rfl
theorem rx_2_squareBetween_5 {ns n ct R K s L k a b z} : rn_2_squareBetween ns ct R K (n + 1) 5 L (.inl (b, z) :: .inr (.inr (some (some a))) :: k) s = ((0 ≤ z ∧ z < (sy_ar a).2) ∧ sy_ob a = none ∧ (sy_ar a).1 = 0 ∧ rn_2_squareBetween ns ct R K n 6 L (.inl (true, s a z.toNat) :: k) s) := rfl
theorem rx_2_squareBetween_6 {ns n ct R K s k z v1 v2 v3 v4 v5 v6} : rn_2_squareBetween ns ct R K (n + 1) 6 [.inr (.inr (some z)), v1, v2, v3, v4, v5, v6] k s = (rn_2_squareBetween ns ct R K n 7 [.inr (.inr (some z)), v1, v2, v3, v4, v5, v6] (.inr (.inr (some z)) :: k) s) := rfl
theorem rx_2_squareBetween_7 {ns n ct R K s L k a} : rn_2_squareBetween ns ct R K (n + 1) 7 L (.inr (.inr (some (some a))) :: k) s = (sy_ob a = some 2 ∧ rn_2_squareBetween ns ct R K n 10 L (sy_fv s a 1 :: k) s) := rfl
theorem rx_2_squareBetween_10 {ns n ct R K s k z v0 v1 v3 v4 v5 v6} : rn_2_squareBetween ns ct R K (n + 1) 10 [v0, v1, .inl (true, z), v3, v4, v5, v6] k s = (rn_2_squareBetween ns ct R K n 11 [v0, v1, .inl (true, z), v3, v4, v5, v6] (.inl (true, z) :: k) s) := rfl
theorem rx_2_squareBetween_11 {ns n ct R K s L k a b z} : rn_2_squareBetween ns ct R K (n + 1) 11 L (.inl (b, z) :: .inr (.inr (some (some a))) :: k) s = ((0 ≤ z ∧ z < (sy_ar a).2) ∧ sy_ob a = none ∧ (sy_ar a).1 = 0 ∧ rn_2_squareBetween ns ct R K n 12 L (.inl (true, s a z.toNat) :: k) s) := rfl
theorem rx_2_squareBetween_12 {ns n ct R K s L k a b x y} : rn_2_squareBetween ns ct R K (n + 1) 12 L (.inl (b, y) :: .inl (a, x) :: k) s = (rn_2_squareBetween ns ct R K n 13 L (.inl (false, x - y) :: k) s) := rfl
theorem rx_2_squareBetween_13 {ns n ct R K s L k a x} : rn_2_squareBetween ns ct R K (n + 1) 13 L (.inl (a, x) :: k) s = (sy_ri a x ∧ rn_2_squareBetween ns ct R K n 14 L (.inr (.inl (true, x)) :: k) s) := rfl
theorem rx_2_squareBetween_14 {ns n ct R K s L k b z} : rn_2_squareBetween ns ct R K (n + 1) 14 L (.inr (.inl (b, z)) :: k) s = (sy_rl b z ∧ 4 < L.length ∧ rn_2_squareBetween ns ct R K n 15 (sy_gone (sy_sto L 3 (.inr (.inl (true, z)))) 4) k s) := rfl
theorem rx_2_squareBetween_15 {ns n ct R K s k z v1 v2 v3 v4 v5 v6} : rn_2_squareBetween ns ct R K (n + 1) 15 [.inr (.inr (some z)), v1, v2, v3, v4, v5, v6] k s = (rn_2_squareBetween ns ct R K n 16 [.inr (.inr (some z)), v1, v2, v3, v4, v5, v6] (.inr (.inr (some z)) :: k) s) := rfl
theorem rx_2_squareBetween_16 {ns n ct R K s L k a} : rn_2_squareBetween ns ct R K (n + 1) 16 L (.inr (.inr (some (some a))) :: k) s = (sy_ob a = some 2 ∧ rn_2_squareBetween ns ct R K n 19 L (sy_fv s a 2 :: k) s) := rfl
theorem rx_2_squareBetween_19 {ns n ct R K s k z v0 v2 v3 v4 v5 v6} : rn_2_squareBetween ns ct R K (n + 1) 19 [v0, .inl (true, z), v2, v3, v4, v5, v6] k s = (rn_2_squareBetween ns ct R K n 20 [v0, .inl (true, z), v2, v3, v4, v5, v6] (.inl (true, z) :: k) s) := rfl
theorem rx_2_squareBetween_20 {ns n ct R K s L k a b z} : rn_2_squareBetween ns ct R K (n + 1) 20 L (.inl (b, z) :: .inr (.inr (some (some a))) :: k) s = ((0 ≤ z ∧ z < (sy_ar a).2) ∧ sy_ob a = none ∧ (sy_ar a).1 = 0 ∧ rn_2_squareBetween ns ct R K n 21 L (.inl (true, s a z.toNat) :: k) s) := rfl
theorem rx_2_squareBetween_21 {ns n ct R K s k z v1 v2 v3 v4 v5 v6} : rn_2_squareBetween ns ct R K (n + 1) 21 [.inr (.inr (some z)), v1, v2, v3, v4, v5, v6] k s = (rn_2_squareBetween ns ct R K n 22 [.inr (.inr (some z)), v1, v2, v3, v4, v5, v6] (.inr (.inr (some z)) :: k) s) := rfl
theorem rx_2_squareBetween_22 {ns n ct R K s L k a} : rn_2_squareBetween ns ct R K (n + 1) 22 L (.inr (.inr (some (some a))) :: k) s = (sy_ob a = some 2 ∧ rn_2_squareBetween ns ct R K n 25 L (sy_fv s a 2 :: k) s) := rfl
theorem rx_2_squareBetween_25 {ns n ct R K s k z v0 v1 v3 v4 v5 v6} : rn_2_squareBetween ns ct R K (n + 1) 25 [v0, v1, .inl (true, z), v3, v4, v5, v6] k s = (rn_2_squareBetween ns ct R K n 26 [v0, v1, .inl (true, z), v3, v4, v5, v6] (.inl (true, z) :: k) s) := rfl
theorem rx_2_squareBetween_26 {ns n ct R K s L k a b z} : rn_2_squareBetween ns ct R K (n + 1) 26 L (.inl (b, z) :: .inr (.inr (some (some a))) :: k) s = ((0 ≤ z ∧ z < (sy_ar a).2) ∧ sy_ob a = none ∧ (sy_ar a).1 = 0 ∧ rn_2_squareBetween ns ct R K n 27 L (.inl (true, s a z.toNat) :: k) s) := rfl
theorem rx_2_squareBetween_27 {ns n ct R K s L k a b x y} : rn_2_squareBetween ns ct R K (n + 1) 27 L (.inl (b, y) :: .inl (a, x) :: k) s = (rn_2_squareBetween ns ct R K n 28 L (.inl (false, x - y) :: k) s) := rfl
theorem rx_2_squareBetween_28 {ns n ct R K s L k a x} : rn_2_squareBetween ns ct R K (n + 1) 28 L (.inl (a, x) :: k) s = (sy_ri a x ∧ rn_2_squareBetween ns ct R K n 29 L (.inr (.inl (true, x)) :: k) s) := rfl
theorem rx_2_squareBetween_29 {ns n ct R K s L k b z} : rn_2_squareBetween ns ct R K (n + 1) 29 L (.inr (.inl (b, z)) :: k) s = (sy_rl b z ∧ 6 < L.length ∧ rn_2_squareBetween ns ct R K n 31 (sy_gone (sy_sto L 5 (.inr (.inl (true, z)))) 6) k s) := rfl
theorem rx_2_squareBetween_31 {ns n ct R K s k z v0 v1 v2 v4 v5 v6} : rn_2_squareBetween ns ct R K (n + 1) 31 [v0, v1, v2, .inr (.inl (true, z)), v4, v5, v6] k s = (rn_2_squareBetween ns ct R K n 32 [v0, v1, v2, .inr (.inl (true, z)), v4, v5, v6] (.inr (.inl (true, z)) :: k) s) := rfl
theorem rx_2_squareBetween_32 {ns n ct R K s k z v0 v1 v2 v4 v5 v6} : rn_2_squareBetween ns ct R K (n + 1) 32 [v0, v1, v2, .inr (.inl (true, z)), v4, v5, v6] k s = (rn_2_squareBetween ns ct R K n 33 [v0, v1, v2, .inr (.inl (true, z)), v4, v5, v6] (.inr (.inl (true, z)) :: k) s) := rfl
theorem rx_2_squareBetween_33 {ns n ct R K s L k a b x y} : rn_2_squareBetween ns ct R K (n + 1) 33 L (.inr (.inl (b, y)) :: .inr (.inl (a, x)) :: k) s = (rn_2_squareBetween ns ct R K n 34 L (.inr (.inl (false, x * y)) :: k) s) := rfl
theorem rx_2_squareBetween_34 {ns n ct R K s k z v0 v1 v2 v3 v4 v6} : rn_2_squareBetween ns ct R K (n + 1) 34 [v0, v1, v2, v3, v4, .inr (.inl (true, z)), v6] k s = (rn_2_squareBetween ns ct R K n 36 [v0, v1, v2, v3, v4, .inr (.inl (true, z)), v6] (.inr (.inl (true, z)) :: k) s) := rfl
theorem rx_2_squareBetween_36 {ns n ct R K s k z v0 v1 v2 v3 v4 v6} : rn_2_squareBetween ns ct R K (n + 1) 36 [v0, v1, v2, v3, v4, .inr (.inl (true, z)), v6] k s = (rn_2_squareBetween ns ct R K n 38 [v0, v1, v2, v3, v4, .inr (.inl (true, z)), v6] (.inr (.inl (true, z)) :: k) s) := rfl
theorem rx_2_squareBetween_38 {ns n ct R K s L k a b x y} : rn_2_squareBetween ns ct R K (n + 1) 38 L (.inr (.inl (b, y)) :: .inr (.inl (a, x)) :: k) s = (rn_2_squareBetween ns ct R K n 39 L (.inr (.inl (false, x * y)) :: k) s) := rfl
theorem rx_2_squareBetween_39 {ns n ct R K s L k a b x y} : rn_2_squareBetween ns ct R K (n + 1) 39 L (.inr (.inl (b, y)) :: .inr (.inl (a, x)) :: k) s = (rn_2_squareBetween ns ct R K n 40 L (.inr (.inl (false, x + y)) :: k) s) := rfl
theorem rx_2_squareBetween_40 {ns n ct R K s L a z} : rn_2_squareBetween ns ct R K (n + 1) 40 L [.inr (.inl (a, z))] s = (sy_rl a z ∧ R (some (.inr (.inl (true, z)))) s) := rfl
def y_3_init : MethodName := ⟨"StarHide$Net", "<init>", "()V"⟩
abbrev c_3_init : ByteArray := prog_5_method_1_code
def y_3_isRow : MethodName := ⟨"StarHide$Net", "isRow", "(I)Z"⟩
abbrev c_3_isRow : ByteArray := prog_5_method_2_code
def tc_3_isRow (pc : Nat) : Option sy_I := match pc with
  | 0 => some (.iload_n 0, 1, 0)
  | 1 => some (.ifCond .lt 12, 4, 13)
  | 4 => some (.iload_n 0, 5, 0)
  | 5 => some (.iconst 4, 6, 0)
  | 6 => some (.if_icmp .ge 7, 9, 13)
  | 9 => some (.iconst 1, 10, 0)
  | 10 => some (.goto 4, 13, 14)
  | 13 => some (.iconst 0, 14, 0)
  | 14 => some (.ireturn, 15, 0)
  | _ => none
theorem tv_3_isRow : ∀ pc i, sy_lk 15 tc_3_isRow pc = some i → sy_chk c_3_isRow (some .boolean) true pc i = true := sy_lk_ok 15 tc_3_isRow (by decide +kernel)
def Mk_3_isRow (ct : Nat → Option (Bool × Nat × sy_Sp)) : sy_M := (sy_lk 15 tc_3_isRow, ff_3, ki_3, kl_3, ct, true)
def rn_3_isRow (ns : Nat) (ct : Nat → Option (Bool × Nat × sy_Sp)) (R : sy_R) (K : sy_K) : Nat → sy_K := sy_run ns (Mk_3_isRow ct) [] R K
theorem rx_3_isRow_0 {ns n ct R K s k z} : rn_3_isRow ns ct R K (n + 1) 0 [.inl (true, z)] k s = (rn_3_isRow ns ct R K n 1 [.inl (true, z)] (.inl (true, z) :: k) s) := rfl
theorem rx_3_isRow_1 {ns n ct R K s L k a x} : rn_3_isRow ns ct R K (n + 1) 1 L (.inl (a, x) :: k) s = (sy_ri a x ∧ (x < 0 → rn_3_isRow ns ct R K n 13 L k s) ∧ (¬ x < 0 → rn_3_isRow ns ct R K n 4 L k s)) := rfl
theorem rx_3_isRow_4 {ns n ct R K s k z} : rn_3_isRow ns ct R K (n + 1) 4 [.inl (true, z)] k s = (rn_3_isRow ns ct R K n 5 [.inl (true, z)] (.inl (true, z) :: k) s) := rfl
theorem rx_3_isRow_5 {ns n ct R K s L k} : rn_3_isRow ns ct R K (n + 1) 5 L k s = (rn_3_isRow ns ct R K n 6 L (.inl (true, 4) :: k) s) := rfl
theorem rx_3_isRow_6 {ns n ct R K s L k a b x y} : rn_3_isRow ns ct R K (n + 1) 6 L (.inl (b, y) :: .inl (a, x) :: k) s = (sy_ri a x ∧ sy_ri b y ∧ (y ≤ x → rn_3_isRow ns ct R K n 13 L k s) ∧ (¬ y ≤ x → rn_3_isRow ns ct R K n 9 L k s)) := rfl
theorem rx_3_isRow_9 {ns n ct R K s L k} : rn_3_isRow ns ct R K (n + 1) 9 L k s = (rn_3_isRow ns ct R K n 10 L (.inl (true, 1) :: k) s) := rfl
theorem rx_3_isRow_10 {ns n ct R K s L k} : rn_3_isRow ns ct R K (n + 1) 10 L k s = (rn_3_isRow ns ct R K n 14 L k s) := rfl
theorem rx_3_isRow_13 {ns n ct R K s L k} : rn_3_isRow ns ct R K (n + 1) 13 L k s = (rn_3_isRow ns ct R K n 14 L (.inl (true, 0) :: k) s) := rfl
theorem rx_3_isRow_14 {ns n ct R K s L a z} : rn_3_isRow ns ct R K (n + 1) 14 L [.inl (a, z)] s = (sy_ri a z ∧ sy_b01 true z ∧ R (some (.inl (true, z))) s) := rfl
def y_3_put : MethodName := ⟨"StarHide$Net", "put", "(IIII)Z"⟩
abbrev c_3_put : ByteArray := prog_5_method_3_code
def tc_3_put (pc : Nat) : Option sy_I := match pc with
  | 0 => some (.iload_n 1, 1, 0)
  | 1 => some (.invokestatic 32, 4, 0)
  | 4 => some (.ifCond .eq 33, 7, 37)
  | 7 => some (.iload_n 3, 8, 0)
  | 8 => some (.iconst 1, 9, 0)
  | 9 => some (.sipush 1000, 12, 0)
  | 12 => some (.invokestatic 36, 15, 0)
  | 15 => some (.ifCond .eq 22, 18, 37)
  | 18 => some (.iload 4, 20, 0)
  | 20 => some (.iconst 1, 21, 0)
  | 21 => some (.bipush 8, 23, 0)
  | 23 => some (.invokestatic 36, 26, 0)
  | 26 => some (.ifCond .eq 11, 29, 37)
  | 29 => some (.iload_n 1, 30, 0)
  | 30 => some (.iload_n 2, 31, 0)
  | 31 => some (.invokestatic 42, 34, 0)
  | 34 => some (.ifCond .ne 5, 37, 39)
  | 37 => some (.iconst 0, 38, 0)
  | 38 => some (.ireturn, 39, 0)
  | 39 => some (.iload_n 1, 40, 0)
  | 40 => some (.iconst 2, 41, 0)
  | 41 => some (.if_icmp .lt 19, 44, 60)
  | 44 => some (.iload_n 2, 45, 0)
  | 45 => some (.iload_n 3, 46, 0)
  | 46 => some (.iload 4, 48, 0)
  | 48 => some (.iconst 1, 49, 0)
  | 49 => some (.isub, 50, 0)
  | 50 => some (.imul, 51, 0)
  | 51 => some (.iadd, 52, 0)
  | 52 => some (.sipush 2000, 55, 0)
  | 55 => some (.if_icmp .le 5, 58, 60)
  | 58 => some (.iconst 0, 59, 0)
  | 59 => some (.ireturn, 60, 0)
  | 60 => some (.aload_n 0, 61, 0)
  | 61 => some (.getfield 9, 64, 0)
  | 64 => some (.iload_n 1, 65, 0)
  | 65 => some (.iload_n 2, 66, 0)
  | 66 => some (.iastore, 67, 0)
  | 67 => some (.aload_n 0, 68, 0)
  | 68 => some (.getfield 13, 71, 0)
  | 71 => some (.iload_n 1, 72, 0)
  | 72 => some (.iload_n 3, 73, 0)
  | 73 => some (.iastore, 74, 0)
  | 74 => some (.aload_n 0, 75, 0)
  | 75 => some (.getfield 16, 78, 0)
  | 78 => some (.iload_n 1, 79, 0)
  | 79 => some (.iload 4, 81, 0)
  | 81 => some (.iastore, 82, 0)
  | 82 => some (.aload_n 0, 83, 0)
  | 83 => some (.aload_n 0, 84, 0)
  | 84 => some (.getfield 16, 87, 0)
  | 87 => some (.iconst 1, 88, 0)
  | 88 => some (.iaload, 89, 0)
  | 89 => some (.aload_n 0, 90, 0)
  | 90 => some (.getfield 16, 93, 0)
  | 93 => some (.iconst 2, 94, 0)
  | 94 => some (.iaload, 95, 0)
  | 95 => some (.imul, 96, 0)
  | 96 => some (.aload_n 0, 97, 0)
  | 97 => some (.getfield 16, 100, 0)
  | 100 => some (.iconst 3, 101, 0)
  | 101 => some (.iaload, 102, 0)
  | 102 => some (.imul, 103, 0)
  | 103 => some (.putfield 19, 106, 0)
  | 106 => some (.aload_n 0, 107, 0)
  | 107 => some (.aload_n 0, 108, 0)
  | 108 => some (.getfield 16, 111, 0)
  | 111 => some (.iconst 0, 112, 0)
  | 112 => some (.iaload, 113, 0)
  | 113 => some (.aload_n 0, 114, 0)
  | 114 => some (.getfield 19, 117, 0)
  | 117 => some (.imul, 118, 0)
  | 118 => some (.putfield 23, 121, 0)
  | 121 => some (.iconst 1, 122, 0)
  | 122 => some (.ireturn, 123, 0)
  | _ => none
theorem tv_3_put : ∀ pc i, sy_lk 123 tc_3_put pc = some i → sy_chk c_3_put (some .boolean) true pc i = true := sy_lk_ok 123 tc_3_put (by decide +kernel)
def Mk_3_put (ct : Nat → Option (Bool × Nat × sy_Sp)) : sy_M := (sy_lk 123 tc_3_put, ff_3, ki_3, kl_3, ct, true)
def rn_3_put (ns : Nat) (ct : Nat → Option (Bool × Nat × sy_Sp)) (R : sy_R) (K : sy_K) : Nat → sy_K := sy_run ns (Mk_3_put ct) [] R K
theorem rx_3_put_0 {ns n ct R K s k z v0 v2 v3 v4} : rn_3_put ns ct R K (n + 1) 0 [v0, .inl (true, z), v2, v3, v4] k s = (rn_3_put ns ct R K n 1 [v0, .inl (true, z), v2, v3, v4] (.inl (true, z) :: k) s) := rfl
theorem rx_3_put_1 {ns n ct R K s L k} : rn_3_put ns ct R K (n + 1) 1 L k s = (sy_call true (ct 32) k s fun r t => rn_3_put ns ct R K n 4 L r t) := rfl
theorem rx_3_put_4 {ns n ct R K s L k a x} : rn_3_put ns ct R K (n + 1) 4 L (.inl (a, x) :: k) s = (sy_ri a x ∧ (x = 0 → rn_3_put ns ct R K n 37 L k s) ∧ (¬ x = 0 → rn_3_put ns ct R K n 7 L k s)) := rfl
theorem rx_3_put_7 {ns n ct R K s k z v0 v1 v2 v4} : rn_3_put ns ct R K (n + 1) 7 [v0, v1, v2, .inl (true, z), v4] k s = (rn_3_put ns ct R K n 8 [v0, v1, v2, .inl (true, z), v4] (.inl (true, z) :: k) s) := rfl
theorem rx_3_put_8 {ns n ct R K s L k} : rn_3_put ns ct R K (n + 1) 8 L k s = (rn_3_put ns ct R K n 9 L (.inl (true, 1) :: k) s) := rfl
theorem rx_3_put_9 {ns n ct R K s L k} : rn_3_put ns ct R K (n + 1) 9 L k s = (rn_3_put ns ct R K n 12 L (.inl (true, 1000) :: k) s) := rfl
theorem rx_3_put_12 {ns n ct R K s L k} : rn_3_put ns ct R K (n + 1) 12 L k s = (sy_call true (ct 36) k s fun r t => rn_3_put ns ct R K n 15 L r t) := rfl
theorem rx_3_put_15 {ns n ct R K s L k a x} : rn_3_put ns ct R K (n + 1) 15 L (.inl (a, x) :: k) s = (sy_ri a x ∧ (x = 0 → rn_3_put ns ct R K n 37 L k s) ∧ (¬ x = 0 → rn_3_put ns ct R K n 18 L k s)) := rfl
theorem rx_3_put_18 {ns n ct R K s k z v0 v1 v2 v3} : rn_3_put ns ct R K (n + 1) 18 [v0, v1, v2, v3, .inl (true, z)] k s = (rn_3_put ns ct R K n 20 [v0, v1, v2, v3, .inl (true, z)] (.inl (true, z) :: k) s) := rfl
theorem rx_3_put_20 {ns n ct R K s L k} : rn_3_put ns ct R K (n + 1) 20 L k s = (rn_3_put ns ct R K n 21 L (.inl (true, 1) :: k) s) := rfl
theorem rx_3_put_21 {ns n ct R K s L k} : rn_3_put ns ct R K (n + 1) 21 L k s = (rn_3_put ns ct R K n 23 L (.inl (true, 8) :: k) s) := rfl
theorem rx_3_put_23 {ns n ct R K s L k} : rn_3_put ns ct R K (n + 1) 23 L k s = (sy_call true (ct 36) k s fun r t => rn_3_put ns ct R K n 26 L r t) := rfl
theorem rx_3_put_26 {ns n ct R K s L k a x} : rn_3_put ns ct R K (n + 1) 26 L (.inl (a, x) :: k) s = (sy_ri a x ∧ (x = 0 → rn_3_put ns ct R K n 37 L k s) ∧ (¬ x = 0 → rn_3_put ns ct R K n 29 L k s)) := rfl
theorem rx_3_put_29 {ns n ct R K s k z v0 v2 v3 v4} : rn_3_put ns ct R K (n + 1) 29 [v0, .inl (true, z), v2, v3, v4] k s = (rn_3_put ns ct R K n 30 [v0, .inl (true, z), v2, v3, v4] (.inl (true, z) :: k) s) := rfl
theorem rx_3_put_30 {ns n ct R K s k z v0 v1 v3 v4} : rn_3_put ns ct R K (n + 1) 30 [v0, v1, .inl (true, z), v3, v4] k s = (rn_3_put ns ct R K n 31 [v0, v1, .inl (true, z), v3, v4] (.inl (true, z) :: k) s) := rfl
theorem rx_3_put_31 {ns n ct R K s L k} : rn_3_put ns ct R K (n + 1) 31 L k s = (sy_call true (ct 42) k s fun r t => rn_3_put ns ct R K n 34 L r t) := rfl
theorem rx_3_put_34 {ns n ct R K s L k a x} : rn_3_put ns ct R K (n + 1) 34 L (.inl (a, x) :: k) s = (sy_ri a x ∧ (¬ x = 0 → rn_3_put ns ct R K n 39 L k s) ∧ (x = 0 → rn_3_put ns ct R K n 37 L k s)) := rfl
theorem rx_3_put_37 {ns n ct R K s L k} : rn_3_put ns ct R K (n + 1) 37 L k s = (rn_3_put ns ct R K n 38 L (.inl (true, 0) :: k) s) := rfl
theorem rx_3_put_38 {ns n ct R K s L a z} : rn_3_put ns ct R K (n + 1) 38 L [.inl (a, z)] s = (sy_ri a z ∧ sy_b01 true z ∧ R (some (.inl (true, z))) s) := rfl
theorem rx_3_put_39 {ns n ct R K s k z v0 v2 v3 v4} : rn_3_put ns ct R K (n + 1) 39 [v0, .inl (true, z), v2, v3, v4] k s = (rn_3_put ns ct R K n 40 [v0, .inl (true, z), v2, v3, v4] (.inl (true, z) :: k) s) := rfl
theorem rx_3_put_40 {ns n ct R K s L k} : rn_3_put ns ct R K (n + 1) 40 L k s = (rn_3_put ns ct R K n 41 L (.inl (true, 2) :: k) s) := rfl
theorem rx_3_put_41 {ns n ct R K s L k a b x y} : rn_3_put ns ct R K (n + 1) 41 L (.inl (b, y) :: .inl (a, x) :: k) s = (sy_ri a x ∧ sy_ri b y ∧ (x < y → rn_3_put ns ct R K n 60 L k s) ∧ (¬ x < y → rn_3_put ns ct R K n 44 L k s)) := rfl
theorem rx_3_put_44 {ns n ct R K s k z v0 v1 v3 v4} : rn_3_put ns ct R K (n + 1) 44 [v0, v1, .inl (true, z), v3, v4] k s = (rn_3_put ns ct R K n 45 [v0, v1, .inl (true, z), v3, v4] (.inl (true, z) :: k) s) := rfl
theorem rx_3_put_45 {ns n ct R K s k z v0 v1 v2 v4} : rn_3_put ns ct R K (n + 1) 45 [v0, v1, v2, .inl (true, z), v4] k s = (rn_3_put ns ct R K n 46 [v0, v1, v2, .inl (true, z), v4] (.inl (true, z) :: k) s) := rfl
theorem rx_3_put_46 {ns n ct R K s k z v0 v1 v2 v3} : rn_3_put ns ct R K (n + 1) 46 [v0, v1, v2, v3, .inl (true, z)] k s = (rn_3_put ns ct R K n 48 [v0, v1, v2, v3, .inl (true, z)] (.inl (true, z) :: k) s) := rfl
theorem rx_3_put_48 {ns n ct R K s L k} : rn_3_put ns ct R K (n + 1) 48 L k s = (rn_3_put ns ct R K n 49 L (.inl (true, 1) :: k) s) := rfl
theorem rx_3_put_49 {ns n ct R K s L k a b x y} : rn_3_put ns ct R K (n + 1) 49 L (.inl (b, y) :: .inl (a, x) :: k) s = (rn_3_put ns ct R K n 50 L (.inl (false, x - y) :: k) s) := rfl
theorem rx_3_put_50 {ns n ct R K s L k a b x y} : rn_3_put ns ct R K (n + 1) 50 L (.inl (b, y) :: .inl (a, x) :: k) s = (rn_3_put ns ct R K n 51 L (.inl (false, x * y) :: k) s) := rfl
theorem rx_3_put_51 {ns n ct R K s L k a b x y} : rn_3_put ns ct R K (n + 1) 51 L (.inl (b, y) :: .inl (a, x) :: k) s = (rn_3_put ns ct R K n 52 L (.inl (false, x + y) :: k) s) := rfl
theorem rx_3_put_52 {ns n ct R K s L k} : rn_3_put ns ct R K (n + 1) 52 L k s = (rn_3_put ns ct R K n 55 L (.inl (true, 2000) :: k) s) := rfl
theorem rx_3_put_55 {ns n ct R K s L k a b x y} : rn_3_put ns ct R K (n + 1) 55 L (.inl (b, y) :: .inl (a, x) :: k) s = (sy_ri a x ∧ sy_ri b y ∧ (x ≤ y → rn_3_put ns ct R K n 60 L k s) ∧ (¬ x ≤ y → rn_3_put ns ct R K n 58 L k s)) := rfl
theorem rx_3_put_58 {ns n ct R K s L k} : rn_3_put ns ct R K (n + 1) 58 L k s = (rn_3_put ns ct R K n 59 L (.inl (true, 0) :: k) s) := rfl
theorem rx_3_put_59 {ns n ct R K s L a z} : rn_3_put ns ct R K (n + 1) 59 L [.inl (a, z)] s = (sy_ri a z ∧ sy_b01 true z ∧ R (some (.inl (true, z))) s) := rfl
theorem rx_3_put_60 {ns n ct R K s k z v1 v2 v3 v4} : rn_3_put ns ct R K (n + 1) 60 [.inr (.inr (some z)), v1, v2, v3, v4] k s = (rn_3_put ns ct R K n 61 [.inr (.inr (some z)), v1, v2, v3, v4] (.inr (.inr (some z)) :: k) s) := rfl
theorem rx_3_put_61 {ns n ct R K s L k a} : rn_3_put ns ct R K (n + 1) 61 L (.inr (.inr (some (some a))) :: k) s = (sy_ob a = some 3 ∧ rn_3_put ns ct R K n 64 L (sy_fv s a 0 :: k) s) := rfl
theorem rx_3_put_64 {ns n ct R K s k z v0 v2 v3 v4} : rn_3_put ns ct R K (n + 1) 64 [v0, .inl (true, z), v2, v3, v4] k s = (rn_3_put ns ct R K n 65 [v0, .inl (true, z), v2, v3, v4] (.inl (true, z) :: k) s) := rfl
theorem rx_3_put_65 {ns n ct R K s k z v0 v1 v3 v4} : rn_3_put ns ct R K (n + 1) 65 [v0, v1, .inl (true, z), v3, v4] k s = (rn_3_put ns ct R K n 66 [v0, v1, .inl (true, z), v3, v4] (.inl (true, z) :: k) s) := rfl
theorem rx_3_put_66 {ns n ct R K s L k a b c z y} : rn_3_put ns ct R K (n + 1) 66 L (.inl (c, y) :: .inl (b, z) :: .inr (.inr (some (some a))) :: k) s = (sy_ri c y ∧ (0 ≤ z ∧ z < (sy_ar a).2) ∧ sy_ob a = none ∧ (sy_ar a).1 = 0 ∧ rn_3_put ns ct R K n 67 L k (sy_up s a z.toNat y)) := rfl
theorem rx_3_put_67 {ns n ct R K s k z v1 v2 v3 v4} : rn_3_put ns ct R K (n + 1) 67 [.inr (.inr (some z)), v1, v2, v3, v4] k s = (rn_3_put ns ct R K n 68 [.inr (.inr (some z)), v1, v2, v3, v4] (.inr (.inr (some z)) :: k) s) := rfl
theorem rx_3_put_68 {ns n ct R K s L k a} : rn_3_put ns ct R K (n + 1) 68 L (.inr (.inr (some (some a))) :: k) s = (sy_ob a = some 3 ∧ rn_3_put ns ct R K n 71 L (sy_fv s a 1 :: k) s) := rfl
theorem rx_3_put_71 {ns n ct R K s k z v0 v2 v3 v4} : rn_3_put ns ct R K (n + 1) 71 [v0, .inl (true, z), v2, v3, v4] k s = (rn_3_put ns ct R K n 72 [v0, .inl (true, z), v2, v3, v4] (.inl (true, z) :: k) s) := rfl
theorem rx_3_put_72 {ns n ct R K s k z v0 v1 v2 v4} : rn_3_put ns ct R K (n + 1) 72 [v0, v1, v2, .inl (true, z), v4] k s = (rn_3_put ns ct R K n 73 [v0, v1, v2, .inl (true, z), v4] (.inl (true, z) :: k) s) := rfl
theorem rx_3_put_73 {ns n ct R K s L k a b c z y} : rn_3_put ns ct R K (n + 1) 73 L (.inl (c, y) :: .inl (b, z) :: .inr (.inr (some (some a))) :: k) s = (sy_ri c y ∧ (0 ≤ z ∧ z < (sy_ar a).2) ∧ sy_ob a = none ∧ (sy_ar a).1 = 0 ∧ rn_3_put ns ct R K n 74 L k (sy_up s a z.toNat y)) := rfl
theorem rx_3_put_74 {ns n ct R K s k z v1 v2 v3 v4} : rn_3_put ns ct R K (n + 1) 74 [.inr (.inr (some z)), v1, v2, v3, v4] k s = (rn_3_put ns ct R K n 75 [.inr (.inr (some z)), v1, v2, v3, v4] (.inr (.inr (some z)) :: k) s) := rfl
theorem rx_3_put_75 {ns n ct R K s L k a} : rn_3_put ns ct R K (n + 1) 75 L (.inr (.inr (some (some a))) :: k) s = (sy_ob a = some 3 ∧ rn_3_put ns ct R K n 78 L (sy_fv s a 2 :: k) s) := rfl
theorem rx_3_put_78 {ns n ct R K s k z v0 v2 v3 v4} : rn_3_put ns ct R K (n + 1) 78 [v0, .inl (true, z), v2, v3, v4] k s = (rn_3_put ns ct R K n 79 [v0, .inl (true, z), v2, v3, v4] (.inl (true, z) :: k) s) := rfl
theorem rx_3_put_79 {ns n ct R K s k z v0 v1 v2 v3} : rn_3_put ns ct R K (n + 1) 79 [v0, v1, v2, v3, .inl (true, z)] k s = (rn_3_put ns ct R K n 81 [v0, v1, v2, v3, .inl (true, z)] (.inl (true, z) :: k) s) := rfl
theorem rx_3_put_81 {ns n ct R K s L k a b c z y} : rn_3_put ns ct R K (n + 1) 81 L (.inl (c, y) :: .inl (b, z) :: .inr (.inr (some (some a))) :: k) s = (sy_ri c y ∧ (0 ≤ z ∧ z < (sy_ar a).2) ∧ sy_ob a = none ∧ (sy_ar a).1 = 0 ∧ rn_3_put ns ct R K n 82 L k (sy_up s a z.toNat y)) := rfl
theorem rx_3_put_82 {ns n ct R K s k z v1 v2 v3 v4} : rn_3_put ns ct R K (n + 1) 82 [.inr (.inr (some z)), v1, v2, v3, v4] k s = (rn_3_put ns ct R K n 83 [.inr (.inr (some z)), v1, v2, v3, v4] (.inr (.inr (some z)) :: k) s) := rfl
theorem rx_3_put_83 {ns n ct R K s k z v1 v2 v3 v4} : rn_3_put ns ct R K (n + 1) 83 [.inr (.inr (some z)), v1, v2, v3, v4] k s = (rn_3_put ns ct R K n 84 [.inr (.inr (some z)), v1, v2, v3, v4] (.inr (.inr (some z)) :: k) s) := rfl
theorem rx_3_put_84 {ns n ct R K s L k a} : rn_3_put ns ct R K (n + 1) 84 L (.inr (.inr (some (some a))) :: k) s = (sy_ob a = some 3 ∧ rn_3_put ns ct R K n 87 L (sy_fv s a 2 :: k) s) := rfl
theorem rx_3_put_87 {ns n ct R K s L k} : rn_3_put ns ct R K (n + 1) 87 L k s = (rn_3_put ns ct R K n 88 L (.inl (true, 1) :: k) s) := rfl
theorem rx_3_put_88 {ns n ct R K s L k a b z} : rn_3_put ns ct R K (n + 1) 88 L (.inl (b, z) :: .inr (.inr (some (some a))) :: k) s = ((0 ≤ z ∧ z < (sy_ar a).2) ∧ sy_ob a = none ∧ (sy_ar a).1 = 0 ∧ rn_3_put ns ct R K n 89 L (.inl (true, s a z.toNat) :: k) s) := rfl
theorem rx_3_put_89 {ns n ct R K s k z v1 v2 v3 v4} : rn_3_put ns ct R K (n + 1) 89 [.inr (.inr (some z)), v1, v2, v3, v4] k s = (rn_3_put ns ct R K n 90 [.inr (.inr (some z)), v1, v2, v3, v4] (.inr (.inr (some z)) :: k) s) := rfl
theorem rx_3_put_90 {ns n ct R K s L k a} : rn_3_put ns ct R K (n + 1) 90 L (.inr (.inr (some (some a))) :: k) s = (sy_ob a = some 3 ∧ rn_3_put ns ct R K n 93 L (sy_fv s a 2 :: k) s) := rfl
theorem rx_3_put_93 {ns n ct R K s L k} : rn_3_put ns ct R K (n + 1) 93 L k s = (rn_3_put ns ct R K n 94 L (.inl (true, 2) :: k) s) := rfl
theorem rx_3_put_94 {ns n ct R K s L k a b z} : rn_3_put ns ct R K (n + 1) 94 L (.inl (b, z) :: .inr (.inr (some (some a))) :: k) s = ((0 ≤ z ∧ z < (sy_ar a).2) ∧ sy_ob a = none ∧ (sy_ar a).1 = 0 ∧ rn_3_put ns ct R K n 95 L (.inl (true, s a z.toNat) :: k) s) := rfl
theorem rx_3_put_95 {ns n ct R K s L k a b x y} : rn_3_put ns ct R K (n + 1) 95 L (.inl (b, y) :: .inl (a, x) :: k) s = (rn_3_put ns ct R K n 96 L (.inl (false, x * y) :: k) s) := rfl
theorem rx_3_put_96 {ns n ct R K s k z v1 v2 v3 v4} : rn_3_put ns ct R K (n + 1) 96 [.inr (.inr (some z)), v1, v2, v3, v4] k s = (rn_3_put ns ct R K n 97 [.inr (.inr (some z)), v1, v2, v3, v4] (.inr (.inr (some z)) :: k) s) := rfl
theorem rx_3_put_97 {ns n ct R K s L k a} : rn_3_put ns ct R K (n + 1) 97 L (.inr (.inr (some (some a))) :: k) s = (sy_ob a = some 3 ∧ rn_3_put ns ct R K n 100 L (sy_fv s a 2 :: k) s) := rfl
theorem rx_3_put_100 {ns n ct R K s L k} : rn_3_put ns ct R K (n + 1) 100 L k s = (rn_3_put ns ct R K n 101 L (.inl (true, 3) :: k) s) := rfl
theorem rx_3_put_101 {ns n ct R K s L k a b z} : rn_3_put ns ct R K (n + 1) 101 L (.inl (b, z) :: .inr (.inr (some (some a))) :: k) s = ((0 ≤ z ∧ z < (sy_ar a).2) ∧ sy_ob a = none ∧ (sy_ar a).1 = 0 ∧ rn_3_put ns ct R K n 102 L (.inl (true, s a z.toNat) :: k) s) := rfl
theorem rx_3_put_102 {ns n ct R K s L k a b x y} : rn_3_put ns ct R K (n + 1) 102 L (.inl (b, y) :: .inl (a, x) :: k) s = (rn_3_put ns ct R K n 103 L (.inl (false, x * y) :: k) s) := rfl
theorem rx_3_put_103 {ns n ct R K s L k a b z} : rn_3_put ns ct R K (n + 1) 103 L (.inl (b, z) :: .inr (.inr (some (some a))) :: k) s = (sy_ob a = some 3 ∧ sy_ri b z ∧ sy_b01 false z ∧ rn_3_put ns ct R K n 106 L k (sy_up s a 3 z)) := rfl
theorem rx_3_put_106 {ns n ct R K s k z v1 v2 v3 v4} : rn_3_put ns ct R K (n + 1) 106 [.inr (.inr (some z)), v1, v2, v3, v4] k s = (rn_3_put ns ct R K n 107 [.inr (.inr (some z)), v1, v2, v3, v4] (.inr (.inr (some z)) :: k) s) := rfl
theorem rx_3_put_107 {ns n ct R K s k z v1 v2 v3 v4} : rn_3_put ns ct R K (n + 1) 107 [.inr (.inr (some z)), v1, v2, v3, v4] k s = (rn_3_put ns ct R K n 108 [.inr (.inr (some z)), v1, v2, v3, v4] (.inr (.inr (some z)) :: k) s) := rfl
theorem rx_3_put_108 {ns n ct R K s L k a} : rn_3_put ns ct R K (n + 1) 108 L (.inr (.inr (some (some a))) :: k) s = (sy_ob a = some 3 ∧ rn_3_put ns ct R K n 111 L (sy_fv s a 2 :: k) s) := rfl
theorem rx_3_put_111 {ns n ct R K s L k} : rn_3_put ns ct R K (n + 1) 111 L k s = (rn_3_put ns ct R K n 112 L (.inl (true, 0) :: k) s) := rfl
theorem rx_3_put_112 {ns n ct R K s L k a b z} : rn_3_put ns ct R K (n + 1) 112 L (.inl (b, z) :: .inr (.inr (some (some a))) :: k) s = ((0 ≤ z ∧ z < (sy_ar a).2) ∧ sy_ob a = none ∧ (sy_ar a).1 = 0 ∧ rn_3_put ns ct R K n 113 L (.inl (true, s a z.toNat) :: k) s) := rfl
theorem rx_3_put_113 {ns n ct R K s k z v1 v2 v3 v4} : rn_3_put ns ct R K (n + 1) 113 [.inr (.inr (some z)), v1, v2, v3, v4] k s = (rn_3_put ns ct R K n 114 [.inr (.inr (some z)), v1, v2, v3, v4] (.inr (.inr (some z)) :: k) s) := rfl
theorem rx_3_put_114 {ns n ct R K s L k a} : rn_3_put ns ct R K (n + 1) 114 L (.inr (.inr (some (some a))) :: k) s = (sy_ob a = some 3 ∧ rn_3_put ns ct R K n 117 L (sy_fv s a 3 :: k) s) := rfl
theorem rx_3_put_117 {ns n ct R K s L k a b x y} : rn_3_put ns ct R K (n + 1) 117 L (.inl (b, y) :: .inl (a, x) :: k) s = (rn_3_put ns ct R K n 118 L (.inl (false, x * y) :: k) s) := rfl
theorem rx_3_put_118 {ns n ct R K s L k a b z} : rn_3_put ns ct R K (n + 1) 118 L (.inl (b, z) :: .inr (.inr (some (some a))) :: k) s = (sy_ob a = some 3 ∧ sy_ri b z ∧ sy_b01 false z ∧ rn_3_put ns ct R K n 121 L k (sy_up s a 4 z)) := rfl
theorem rx_3_put_121 {ns n ct R K s L k} : rn_3_put ns ct R K (n + 1) 121 L k s = (rn_3_put ns ct R K n 122 L (.inl (true, 1) :: k) s) := rfl
theorem rx_3_put_122 {ns n ct R K s L a z} : rn_3_put ns ct R K (n + 1) 122 L [.inl (a, z)] s = (sy_ri a z ∧ sy_b01 true z ∧ R (some (.inl (true, z))) s) := rfl
def y_3_has : MethodName := ⟨"StarHide$Net", "has", "(I)Z"⟩
abbrev c_3_has : ByteArray := prog_5_method_4_code
def tc_3_has (pc : Nat) : Option sy_I := match pc with
  | 0 => some (.iload_n 1, 1, 0)
  | 1 => some (.ifCond .lt 22, 4, 23)
  | 4 => some (.iload_n 1, 5, 0)
  | 5 => some (.aload_n 0, 6, 0)
  | 6 => some (.getfield 23, 9, 0)
  | 9 => some (.if_icmp .ge 14, 12, 23)
  | 12 => some (.iload_n 1, 13, 0)
  | 13 => some (.sipush 4096, 16, 0)
  | 16 => some (.if_icmp .ge 7, 19, 23)
  | 19 => some (.iconst 1, 20, 0)
  | 20 => some (.goto 4, 23, 24)
  | 23 => some (.iconst 0, 24, 0)
  | 24 => some (.ireturn, 25, 0)
  | _ => none
theorem tv_3_has : ∀ pc i, sy_lk 25 tc_3_has pc = some i → sy_chk c_3_has (some .boolean) true pc i = true := sy_lk_ok 25 tc_3_has (by decide +kernel)
def Mk_3_has (ct : Nat → Option (Bool × Nat × sy_Sp)) : sy_M := (sy_lk 25 tc_3_has, ff_3, ki_3, kl_3, ct, true)
def rn_3_has (ns : Nat) (ct : Nat → Option (Bool × Nat × sy_Sp)) (R : sy_R) (K : sy_K) : Nat → sy_K := sy_run ns (Mk_3_has ct) [] R K
theorem rx_3_has_0 {ns n ct R K s k z v0} : rn_3_has ns ct R K (n + 1) 0 [v0, .inl (true, z)] k s = (rn_3_has ns ct R K n 1 [v0, .inl (true, z)] (.inl (true, z) :: k) s) := rfl
theorem rx_3_has_1 {ns n ct R K s L k a x} : rn_3_has ns ct R K (n + 1) 1 L (.inl (a, x) :: k) s = (sy_ri a x ∧ (x < 0 → rn_3_has ns ct R K n 23 L k s) ∧ (¬ x < 0 → rn_3_has ns ct R K n 4 L k s)) := rfl
theorem rx_3_has_4 {ns n ct R K s k z v0} : rn_3_has ns ct R K (n + 1) 4 [v0, .inl (true, z)] k s = (rn_3_has ns ct R K n 5 [v0, .inl (true, z)] (.inl (true, z) :: k) s) := rfl
theorem rx_3_has_5 {ns n ct R K s k z v1} : rn_3_has ns ct R K (n + 1) 5 [.inr (.inr (some z)), v1] k s = (rn_3_has ns ct R K n 6 [.inr (.inr (some z)), v1] (.inr (.inr (some z)) :: k) s) := rfl
theorem rx_3_has_6 {ns n ct R K s L k a} : rn_3_has ns ct R K (n + 1) 6 L (.inr (.inr (some (some a))) :: k) s = (sy_ob a = some 3 ∧ rn_3_has ns ct R K n 9 L (sy_fv s a 4 :: k) s) := rfl
theorem rx_3_has_9 {ns n ct R K s L k a b x y} : rn_3_has ns ct R K (n + 1) 9 L (.inl (b, y) :: .inl (a, x) :: k) s = (sy_ri a x ∧ sy_ri b y ∧ (y ≤ x → rn_3_has ns ct R K n 23 L k s) ∧ (¬ y ≤ x → rn_3_has ns ct R K n 12 L k s)) := rfl
theorem rx_3_has_12 {ns n ct R K s k z v0} : rn_3_has ns ct R K (n + 1) 12 [v0, .inl (true, z)] k s = (rn_3_has ns ct R K n 13 [v0, .inl (true, z)] (.inl (true, z) :: k) s) := rfl
theorem rx_3_has_13 {ns n ct R K s L k} : rn_3_has ns ct R K (n + 1) 13 L k s = (rn_3_has ns ct R K n 16 L (.inl (true, 4096) :: k) s) := rfl
theorem rx_3_has_16 {ns n ct R K s L k a b x y} : rn_3_has ns ct R K (n + 1) 16 L (.inl (b, y) :: .inl (a, x) :: k) s = (sy_ri a x ∧ sy_ri b y ∧ (y ≤ x → rn_3_has ns ct R K n 23 L k s) ∧ (¬ y ≤ x → rn_3_has ns ct R K n 19 L k s)) := rfl
theorem rx_3_has_19 {ns n ct R K s L k} : rn_3_has ns ct R K (n + 1) 19 L k s = (rn_3_has ns ct R K n 20 L (.inl (true, 1) :: k) s) := rfl
theorem rx_3_has_20 {ns n ct R K s L k} : rn_3_has ns ct R K (n + 1) 20 L k s = (rn_3_has ns ct R K n 24 L k s) := rfl
theorem rx_3_has_23 {ns n ct R K s L k} : rn_3_has ns ct R K (n + 1) 23 L k s = (rn_3_has ns ct R K n 24 L (.inl (true, 0) :: k) s) := rfl
theorem rx_3_has_24 {ns n ct R K s L a z} : rn_3_has ns ct R K (n + 1) 24 L [.inl (a, z)] s = (sy_ri a z ∧ sy_b01 true z ∧ R (some (.inl (true, z))) s) := rfl
def y_3_inRow : MethodName := ⟨"StarHide$Net", "inRow", "(I)I"⟩
abbrev c_3_inRow : ByteArray := prog_5_method_5_code
def tc_3_inRow (pc : Nat) : Option sy_I := match pc with
  | 0 => some (.iload_n 1, 1, 0)
  | 1 => some (.ifCond .lt 8, 4, 9)
  | 4 => some (.iload_n 1, 5, 0)
  | 5 => some (.iconst 4, 6, 0)
  | 6 => some (.if_icmp .lt 7, 9, 13)
  | 9 => some (.iconst 0, 10, 0)
  | 10 => some (.goto 9, 13, 19)
  | 13 => some (.aload_n 0, 14, 0)
  | 14 => some (.getfield 16, 17, 0)
  | 17 => some (.iload_n 1, 18, 0)
  | 18 => some (.iaload, 19, 0)
  | 19 => some (.ireturn, 20, 0)
  | _ => none
theorem tv_3_inRow : ∀ pc i, sy_lk 20 tc_3_inRow pc = some i → sy_chk c_3_inRow (some .int) false pc i = true := sy_lk_ok 20 tc_3_inRow (by decide +kernel)
def Mk_3_inRow (ct : Nat → Option (Bool × Nat × sy_Sp)) : sy_M := (sy_lk 20 tc_3_inRow, ff_3, ki_3, kl_3, ct, false)
def rn_3_inRow (ns : Nat) (ct : Nat → Option (Bool × Nat × sy_Sp)) (R : sy_R) (K : sy_K) : Nat → sy_K := sy_run ns (Mk_3_inRow ct) [] R K
theorem rx_3_inRow_0 {ns n ct R K s k z v0} : rn_3_inRow ns ct R K (n + 1) 0 [v0, .inl (true, z)] k s = (rn_3_inRow ns ct R K n 1 [v0, .inl (true, z)] (.inl (true, z) :: k) s) := rfl
theorem rx_3_inRow_1 {ns n ct R K s L k a x} : rn_3_inRow ns ct R K (n + 1) 1 L (.inl (a, x) :: k) s = (sy_ri a x ∧ (x < 0 → rn_3_inRow ns ct R K n 9 L k s) ∧ (¬ x < 0 → rn_3_inRow ns ct R K n 4 L k s)) := rfl
theorem rx_3_inRow_4 {ns n ct R K s k z v0} : rn_3_inRow ns ct R K (n + 1) 4 [v0, .inl (true, z)] k s = (rn_3_inRow ns ct R K n 5 [v0, .inl (true, z)] (.inl (true, z) :: k) s) := rfl
theorem rx_3_inRow_5 {ns n ct R K s L k} : rn_3_inRow ns ct R K (n + 1) 5 L k s = (rn_3_inRow ns ct R K n 6 L (.inl (true, 4) :: k) s) := rfl
theorem rx_3_inRow_6 {ns n ct R K s L k a b x y} : rn_3_inRow ns ct R K (n + 1) 6 L (.inl (b, y) :: .inl (a, x) :: k) s = (sy_ri a x ∧ sy_ri b y ∧ (x < y → rn_3_inRow ns ct R K n 13 L k s) ∧ (¬ x < y → rn_3_inRow ns ct R K n 9 L k s)) := rfl
theorem rx_3_inRow_9 {ns n ct R K s L k} : rn_3_inRow ns ct R K (n + 1) 9 L k s = (rn_3_inRow ns ct R K n 10 L (.inl (true, 0) :: k) s) := rfl
theorem rx_3_inRow_10 {ns n ct R K s L k} : rn_3_inRow ns ct R K (n + 1) 10 L k s = (rn_3_inRow ns ct R K n 19 L k s) := rfl
theorem rx_3_inRow_13 {ns n ct R K s k z v1} : rn_3_inRow ns ct R K (n + 1) 13 [.inr (.inr (some z)), v1] k s = (rn_3_inRow ns ct R K n 14 [.inr (.inr (some z)), v1] (.inr (.inr (some z)) :: k) s) := rfl
theorem rx_3_inRow_14 {ns n ct R K s L k a} : rn_3_inRow ns ct R K (n + 1) 14 L (.inr (.inr (some (some a))) :: k) s = (sy_ob a = some 3 ∧ rn_3_inRow ns ct R K n 17 L (sy_fv s a 2 :: k) s) := rfl
theorem rx_3_inRow_17 {ns n ct R K s k z v0} : rn_3_inRow ns ct R K (n + 1) 17 [v0, .inl (true, z)] k s = (rn_3_inRow ns ct R K n 18 [v0, .inl (true, z)] (.inl (true, z) :: k) s) := rfl
theorem rx_3_inRow_18 {ns n ct R K s L k a b z} : rn_3_inRow ns ct R K (n + 1) 18 L (.inl (b, z) :: .inr (.inr (some (some a))) :: k) s = ((0 ≤ z ∧ z < (sy_ar a).2) ∧ sy_ob a = none ∧ (sy_ar a).1 = 0 ∧ rn_3_inRow ns ct R K n 19 L (.inl (true, s a z.toNat) :: k) s) := rfl
theorem rx_3_inRow_19 {ns n ct R K s L a z} : rn_3_inRow ns ct R K (n + 1) 19 L [.inl (a, z)] s = (sy_ri a z ∧ sy_b01 false z ∧ R (some (.inl (true, z))) s) := rfl
def y_3_nth : MethodName := ⟨"StarHide$Net", "nth", "(II)I"⟩
abbrev c_3_nth : ByteArray := prog_5_method_6_code
def tc_3_nth (pc : Nat) : Option sy_I := match pc with
  | 0 => some (.iload_n 1, 1, 0)
  | 1 => some (.ifCond .lt 8, 4, 9)
  | 4 => some (.iload_n 1, 5, 0)
  | 5 => some (.iconst 4, 6, 0)
  | 6 => some (.if_icmp .lt 7, 9, 13)
  | 9 => some (.iconst 0, 10, 0)
  | 10 => some (.goto 18, 13, 28)
  | 13 => some (.aload_n 0, 14, 0)
  | 14 => some (.getfield 9, 17, 0)
  | 17 => some (.iload_n 1, 18, 0)
  | 18 => some (.iaload, 19, 0)
  | 19 => some (.aload_n 0, 20, 0)
  | 20 => some (.getfield 13, 23, 0)
  | 23 => some (.iload_n 1, 24, 0)
  | 24 => some (.iaload, 25, 0)
  | 25 => some (.iload_n 2, 26, 0)
  | 26 => some (.imul, 27, 0)
  | 27 => some (.iadd, 28, 0)
  | 28 => some (.ireturn, 29, 0)
  | _ => none
theorem tv_3_nth : ∀ pc i, sy_lk 29 tc_3_nth pc = some i → sy_chk c_3_nth (some .int) false pc i = true := sy_lk_ok 29 tc_3_nth (by decide +kernel)
def Mk_3_nth (ct : Nat → Option (Bool × Nat × sy_Sp)) : sy_M := (sy_lk 29 tc_3_nth, ff_3, ki_3, kl_3, ct, false)
def rn_3_nth (ns : Nat) (ct : Nat → Option (Bool × Nat × sy_Sp)) (R : sy_R) (K : sy_K) : Nat → sy_K := sy_run ns (Mk_3_nth ct) [] R K
theorem rx_3_nth_0 {ns n ct R K s k z v0 v2} : rn_3_nth ns ct R K (n + 1) 0 [v0, .inl (true, z), v2] k s = (rn_3_nth ns ct R K n 1 [v0, .inl (true, z), v2] (.inl (true, z) :: k) s) := rfl
theorem rx_3_nth_1 {ns n ct R K s L k a x} : rn_3_nth ns ct R K (n + 1) 1 L (.inl (a, x) :: k) s = (sy_ri a x ∧ (x < 0 → rn_3_nth ns ct R K n 9 L k s) ∧ (¬ x < 0 → rn_3_nth ns ct R K n 4 L k s)) := rfl
theorem rx_3_nth_4 {ns n ct R K s k z v0 v2} : rn_3_nth ns ct R K (n + 1) 4 [v0, .inl (true, z), v2] k s = (rn_3_nth ns ct R K n 5 [v0, .inl (true, z), v2] (.inl (true, z) :: k) s) := rfl
theorem rx_3_nth_5 {ns n ct R K s L k} : rn_3_nth ns ct R K (n + 1) 5 L k s = (rn_3_nth ns ct R K n 6 L (.inl (true, 4) :: k) s) := rfl
theorem rx_3_nth_6 {ns n ct R K s L k a b x y} : rn_3_nth ns ct R K (n + 1) 6 L (.inl (b, y) :: .inl (a, x) :: k) s = (sy_ri a x ∧ sy_ri b y ∧ (x < y → rn_3_nth ns ct R K n 13 L k s) ∧ (¬ x < y → rn_3_nth ns ct R K n 9 L k s)) := rfl
theorem rx_3_nth_9 {ns n ct R K s L k} : rn_3_nth ns ct R K (n + 1) 9 L k s = (rn_3_nth ns ct R K n 10 L (.inl (true, 0) :: k) s) := rfl
theorem rx_3_nth_10 {ns n ct R K s L k} : rn_3_nth ns ct R K (n + 1) 10 L k s = (rn_3_nth ns ct R K n 28 L k s) := rfl
theorem rx_3_nth_13 {ns n ct R K s k z v1 v2} : rn_3_nth ns ct R K (n + 1) 13 [.inr (.inr (some z)), v1, v2] k s = (rn_3_nth ns ct R K n 14 [.inr (.inr (some z)), v1, v2] (.inr (.inr (some z)) :: k) s) := rfl
theorem rx_3_nth_14 {ns n ct R K s L k a} : rn_3_nth ns ct R K (n + 1) 14 L (.inr (.inr (some (some a))) :: k) s = (sy_ob a = some 3 ∧ rn_3_nth ns ct R K n 17 L (sy_fv s a 0 :: k) s) := rfl
theorem rx_3_nth_17 {ns n ct R K s k z v0 v2} : rn_3_nth ns ct R K (n + 1) 17 [v0, .inl (true, z), v2] k s = (rn_3_nth ns ct R K n 18 [v0, .inl (true, z), v2] (.inl (true, z) :: k) s) := rfl
theorem rx_3_nth_18 {ns n ct R K s L k a b z} : rn_3_nth ns ct R K (n + 1) 18 L (.inl (b, z) :: .inr (.inr (some (some a))) :: k) s = ((0 ≤ z ∧ z < (sy_ar a).2) ∧ sy_ob a = none ∧ (sy_ar a).1 = 0 ∧ rn_3_nth ns ct R K n 19 L (.inl (true, s a z.toNat) :: k) s) := rfl
theorem rx_3_nth_19 {ns n ct R K s k z v1 v2} : rn_3_nth ns ct R K (n + 1) 19 [.inr (.inr (some z)), v1, v2] k s = (rn_3_nth ns ct R K n 20 [.inr (.inr (some z)), v1, v2] (.inr (.inr (some z)) :: k) s) := rfl
theorem rx_3_nth_20 {ns n ct R K s L k a} : rn_3_nth ns ct R K (n + 1) 20 L (.inr (.inr (some (some a))) :: k) s = (sy_ob a = some 3 ∧ rn_3_nth ns ct R K n 23 L (sy_fv s a 1 :: k) s) := rfl
theorem rx_3_nth_23 {ns n ct R K s k z v0 v2} : rn_3_nth ns ct R K (n + 1) 23 [v0, .inl (true, z), v2] k s = (rn_3_nth ns ct R K n 24 [v0, .inl (true, z), v2] (.inl (true, z) :: k) s) := rfl
theorem rx_3_nth_24 {ns n ct R K s L k a b z} : rn_3_nth ns ct R K (n + 1) 24 L (.inl (b, z) :: .inr (.inr (some (some a))) :: k) s = ((0 ≤ z ∧ z < (sy_ar a).2) ∧ sy_ob a = none ∧ (sy_ar a).1 = 0 ∧ rn_3_nth ns ct R K n 25 L (.inl (true, s a z.toNat) :: k) s) := rfl
theorem rx_3_nth_25 {ns n ct R K s k z v0 v1} : rn_3_nth ns ct R K (n + 1) 25 [v0, v1, .inl (true, z)] k s = (rn_3_nth ns ct R K n 26 [v0, v1, .inl (true, z)] (.inl (true, z) :: k) s) := rfl
theorem rx_3_nth_26 {ns n ct R K s L k a b x y} : rn_3_nth ns ct R K (n + 1) 26 L (.inl (b, y) :: .inl (a, x) :: k) s = (rn_3_nth ns ct R K n 27 L (.inl (false, x * y) :: k) s) := rfl
theorem rx_3_nth_27 {ns n ct R K s L k a b x y} : rn_3_nth ns ct R K (n + 1) 27 L (.inl (b, y) :: .inl (a, x) :: k) s = (rn_3_nth ns ct R K n 28 L (.inl (false, x + y) :: k) s) := rfl
theorem rx_3_nth_28 {ns n ct R K s L a z} : rn_3_nth ns ct R K (n + 1) 28 L [.inl (a, z)] s = (sy_ri a z ∧ sy_b01 false z ∧ R (some (.inl (true, z))) s) := rfl
def y_3_valueOf : MethodName := ⟨"StarHide$Net", "valueOf", "(II)I"⟩
abbrev c_3_valueOf : ByteArray := prog_5_method_7_code
def tc_3_valueOf (pc : Nat) : Option sy_I := match pc with
  | 0 => some (.iload_n 1, 1, 0)
  | 1 => some (.istore_n 3, 2, 0)
  | 2 => some (.iconst 3, 3, 0)
  | 3 => some (.istore 4, 5, 0)
  | 5 => some (.iload 4, 7, 0)
  | 7 => some (.iload_n 2, 8, 0)
  | 8 => some (.if_icmp .le 22, 11, 30)
  | 11 => some (.iload_n 3, 12, 0)
  | 12 => some (.iconst 1, 13, 0)
  | 13 => some (.aload_n 0, 14, 0)
  | 14 => some (.iload 4, 16, 0)
  | 16 => some (.invokevirtual 46, 19, 0)
  | 19 => some (.invokestatic 50, 22, 0)
  | 22 => some (.idiv, 23, 0)
  | 23 => some (.istore_n 3, 24, 0)
  | 24 => some (.iinc 4 (-1), 27, 0)
  | 27 => some (.goto (-22), 30, 5)
  | 30 => some (.aload_n 0, 31, 0)
  | 31 => some (.iload_n 2, 32, 0)
  | 32 => some (.iload_n 3, 33, 0)
  | 33 => some (.iconst 1, 34, 0)
  | 34 => some (.aload_n 0, 35, 0)
  | 35 => some (.iload_n 2, 36, 0)
  | 36 => some (.invokevirtual 46, 39, 0)
  | 39 => some (.invokestatic 50, 42, 0)
  | 42 => some (.irem, 43, 0)
  | 43 => some (.invokevirtual 56, 46, 0)
  | 46 => some (.ireturn, 47, 0)
  | _ => none
theorem tv_3_valueOf : ∀ pc i, sy_lk 47 tc_3_valueOf pc = some i → sy_chk c_3_valueOf (some .int) false pc i = true := sy_lk_ok 47 tc_3_valueOf (by decide +kernel)
def Mk_3_valueOf (ct : Nat → Option (Bool × Nat × sy_Sp)) : sy_M := (sy_lk 47 tc_3_valueOf, ff_3, ki_3, kl_3, ct, false)
def rn_3_valueOf (ns : Nat) (ct : Nat → Option (Bool × Nat × sy_Sp)) (R : sy_R) (K : sy_K) : Nat → sy_K := sy_run ns (Mk_3_valueOf ct) [5] R K
theorem rx_3_valueOf_0 {ns n ct R K s k z v0 v2 v3 v4} : rn_3_valueOf ns ct R K (n + 1) 0 [v0, .inl (true, z), v2, v3, v4] k s = (rn_3_valueOf ns ct R K n 1 [v0, .inl (true, z), v2, v3, v4] (.inl (true, z) :: k) s) := rfl
theorem rx_3_valueOf_1 {ns n ct R K s L k b z} : rn_3_valueOf ns ct R K (n + 1) 1 L (.inl (b, z) :: k) s = (sy_ri b z ∧ 3 < L.length ∧ rn_3_valueOf ns ct R K n 2 (sy_sto L 3 (.inl (true, z))) k s) := rfl
theorem rx_3_valueOf_2 {ns n ct R K s L k} : rn_3_valueOf ns ct R K (n + 1) 2 L k s = (rn_3_valueOf ns ct R K n 3 L (.inl (true, 3) :: k) s) := rfl
theorem rx_3_valueOf_3 {ns n ct R K s L k b z} : rn_3_valueOf ns ct R K (n + 1) 3 L (.inl (b, z) :: k) s = (sy_ri b z ∧ 4 < L.length ∧ K 5 (sy_sto L 4 (.inl (true, z))) k s) := rfl
theorem rx_3_valueOf_5 {ns n ct R K s k z v0 v1 v2 v3} : rn_3_valueOf ns ct R K (n + 1) 5 [v0, v1, v2, v3, .inl (true, z)] k s = (rn_3_valueOf ns ct R K n 7 [v0, v1, v2, v3, .inl (true, z)] (.inl (true, z) :: k) s) := rfl
theorem rx_3_valueOf_7 {ns n ct R K s k z v0 v1 v3 v4} : rn_3_valueOf ns ct R K (n + 1) 7 [v0, v1, .inl (true, z), v3, v4] k s = (rn_3_valueOf ns ct R K n 8 [v0, v1, .inl (true, z), v3, v4] (.inl (true, z) :: k) s) := rfl
theorem rx_3_valueOf_8 {ns n ct R K s L k a b x y} : rn_3_valueOf ns ct R K (n + 1) 8 L (.inl (b, y) :: .inl (a, x) :: k) s = (sy_ri a x ∧ sy_ri b y ∧ (x ≤ y → rn_3_valueOf ns ct R K n 30 L k s) ∧ (¬ x ≤ y → rn_3_valueOf ns ct R K n 11 L k s)) := rfl
theorem rx_3_valueOf_11 {ns n ct R K s k z v0 v1 v2 v4} : rn_3_valueOf ns ct R K (n + 1) 11 [v0, v1, v2, .inl (true, z), v4] k s = (rn_3_valueOf ns ct R K n 12 [v0, v1, v2, .inl (true, z), v4] (.inl (true, z) :: k) s) := rfl
theorem rx_3_valueOf_12 {ns n ct R K s L k} : rn_3_valueOf ns ct R K (n + 1) 12 L k s = (rn_3_valueOf ns ct R K n 13 L (.inl (true, 1) :: k) s) := rfl
theorem rx_3_valueOf_13 {ns n ct R K s k z v1 v2 v3 v4} : rn_3_valueOf ns ct R K (n + 1) 13 [.inr (.inr (some z)), v1, v2, v3, v4] k s = (rn_3_valueOf ns ct R K n 14 [.inr (.inr (some z)), v1, v2, v3, v4] (.inr (.inr (some z)) :: k) s) := rfl
theorem rx_3_valueOf_14 {ns n ct R K s k z v0 v1 v2 v3} : rn_3_valueOf ns ct R K (n + 1) 14 [v0, v1, v2, v3, .inl (true, z)] k s = (rn_3_valueOf ns ct R K n 16 [v0, v1, v2, v3, .inl (true, z)] (.inl (true, z) :: k) s) := rfl
theorem rx_3_valueOf_16 {ns n ct R K s L k} : rn_3_valueOf ns ct R K (n + 1) 16 L k s = (sy_call false (ct 46) k s fun r t => rn_3_valueOf ns ct R K n 19 L r t) := rfl
theorem rx_3_valueOf_19 {ns n ct R K s L k} : rn_3_valueOf ns ct R K (n + 1) 19 L k s = (sy_call true (ct 50) k s fun r t => rn_3_valueOf ns ct R K n 22 L r t) := rfl
theorem rx_3_valueOf_22 {ns n ct R K s L k a b x y} : rn_3_valueOf ns ct R K (n + 1) 22 L (.inl (b, y) :: .inl (a, x) :: k) s = (sy_ri a x ∧ sy_ri b y ∧ y ≠ 0 ∧ rn_3_valueOf ns ct R K n 23 L (.inl (false, x.tdiv y) :: k) s) := rfl
theorem rx_3_valueOf_23 {ns n ct R K s L k b z} : rn_3_valueOf ns ct R K (n + 1) 23 L (.inl (b, z) :: k) s = (sy_ri b z ∧ 3 < L.length ∧ rn_3_valueOf ns ct R K n 24 (sy_sto L 3 (.inl (true, z))) k s) := rfl
theorem rx_3_valueOf_24 {ns n ct R K s k z v0 v1 v2 v3} : rn_3_valueOf ns ct R K (n + 1) 24 [v0, v1, v2, v3, .inl (true, z)] k s = ((-2147483648 ≤ z + (-1) ∧ z + (-1) < 2147483648) ∧ rn_3_valueOf ns ct R K n 27 (sy_sto [v0, v1, v2, v3, .inl (true, z)] 4 (.inl (true, z + (-1)))) k s) := rfl
theorem rx_3_valueOf_27 {ns n ct R K s L k} : rn_3_valueOf ns ct R K (n + 1) 27 L k s = (K 5 L k s) := rfl
theorem rx_3_valueOf_30 {ns n ct R K s k z v1 v2 v3 v4} : rn_3_valueOf ns ct R K (n + 1) 30 [.inr (.inr (some z)), v1, v2, v3, v4] k s = (rn_3_valueOf ns ct R K n 31 [.inr (.inr (some z)), v1, v2, v3, v4] (.inr (.inr (some z)) :: k) s) := rfl
theorem rx_3_valueOf_31 {ns n ct R K s k z v0 v1 v3 v4} : rn_3_valueOf ns ct R K (n + 1) 31 [v0, v1, .inl (true, z), v3, v4] k s = (rn_3_valueOf ns ct R K n 32 [v0, v1, .inl (true, z), v3, v4] (.inl (true, z) :: k) s) := rfl
theorem rx_3_valueOf_32 {ns n ct R K s k z v0 v1 v2 v4} : rn_3_valueOf ns ct R K (n + 1) 32 [v0, v1, v2, .inl (true, z), v4] k s = (rn_3_valueOf ns ct R K n 33 [v0, v1, v2, .inl (true, z), v4] (.inl (true, z) :: k) s) := rfl
theorem rx_3_valueOf_33 {ns n ct R K s L k} : rn_3_valueOf ns ct R K (n + 1) 33 L k s = (rn_3_valueOf ns ct R K n 34 L (.inl (true, 1) :: k) s) := rfl
theorem rx_3_valueOf_34 {ns n ct R K s k z v1 v2 v3 v4} : rn_3_valueOf ns ct R K (n + 1) 34 [.inr (.inr (some z)), v1, v2, v3, v4] k s = (rn_3_valueOf ns ct R K n 35 [.inr (.inr (some z)), v1, v2, v3, v4] (.inr (.inr (some z)) :: k) s) := rfl
theorem rx_3_valueOf_35 {ns n ct R K s k z v0 v1 v3 v4} : rn_3_valueOf ns ct R K (n + 1) 35 [v0, v1, .inl (true, z), v3, v4] k s = (rn_3_valueOf ns ct R K n 36 [v0, v1, .inl (true, z), v3, v4] (.inl (true, z) :: k) s) := rfl
theorem rx_3_valueOf_36 {ns n ct R K s L k} : rn_3_valueOf ns ct R K (n + 1) 36 L k s = (sy_call false (ct 46) k s fun r t => rn_3_valueOf ns ct R K n 39 L r t) := rfl
theorem rx_3_valueOf_39 {ns n ct R K s L k} : rn_3_valueOf ns ct R K (n + 1) 39 L k s = (sy_call true (ct 50) k s fun r t => rn_3_valueOf ns ct R K n 42 L r t) := rfl
theorem rx_3_valueOf_42 {ns n ct R K s L k a b x y} : rn_3_valueOf ns ct R K (n + 1) 42 L (.inl (b, y) :: .inl (a, x) :: k) s = (sy_ri a x ∧ sy_ri b y ∧ y ≠ 0 ∧ rn_3_valueOf ns ct R K n 43 L (.inl (false, x.tmod y) :: k) s) := rfl
theorem rx_3_valueOf_43 {ns n ct R K s L k} : rn_3_valueOf ns ct R K (n + 1) 43 L k s = (sy_call false (ct 56) k s fun r t => rn_3_valueOf ns ct R K n 46 L r t) := rfl
theorem rx_3_valueOf_46 {ns n ct R K s L a z} : rn_3_valueOf ns ct R K (n + 1) 46 L [.inl (a, z)] s = (sy_ri a z ∧ sy_b01 false z ∧ R (some (.inl (true, z))) s) := rfl
def y_3_measure : MethodName := ⟨"StarHide$Net", "measure", "(LStarHide$Site;)V"⟩
abbrev c_3_measure : ByteArray := prog_5_method_8_code
def tc_3_measure (pc : Nat) : Option sy_I := match pc with
  | 0 => some (.aload_n 1, 1, 0)
  | 1 => some (.getfield 59, 4, 0)
  | 4 => some (.ifCond .eq 4, 7, 8)
  | 7 => some (.return_, 8, 0)
  | 8 => some (.iconst 0, 9, 0)
  | 9 => some (.istore_n 2, 10, 0)
  | 10 => some (.iconst 0, 11, 0)
  | 11 => some (.istore_n 3, 12, 0)
  | 12 => some (.iload_n 3, 13, 0)
  | 13 => some (.aload_n 0, 14, 0)
  | 14 => some (.iconst 1, 15, 0)
  | 15 => some (.invokevirtual 46, 18, 0)
  | 18 => some (.if_icmp .ge 95, 21, 113)
  | 21 => some (.aload_n 1, 22, 0)
  | 22 => some (.getfield 65, 25, 0)
  | 25 => some (.aload_n 0, 26, 0)
  | 26 => some (.iconst 1, 27, 0)
  | 27 => some (.iload_n 3, 28, 0)
  | 28 => some (.invokevirtual 56, 31, 0)
  | 31 => some (.isub, 32, 0)
  | 32 => some (.istore 4, 34, 0)
  | 34 => some (.iconst 0, 35, 0)
  | 35 => some (.istore 5, 37, 0)
  | 37 => some (.iload 5, 39, 0)
  | 39 => some (.aload_n 0, 40, 0)
  | 40 => some (.iconst 2, 41, 0)
  | 41 => some (.invokevirtual 46, 44, 0)
  | 44 => some (.if_icmp .ge 63, 47, 107)
  | 47 => some (.iconst 0, 48, 0)
  | 48 => some (.istore 6, 50, 0)
  | 50 => some (.iload 6, 52, 0)
  | 52 => some (.aload_n 0, 53, 0)
  | 53 => some (.iconst 3, 54, 0)
  | 54 => some (.invokevirtual 46, 57, 0)
  | 57 => some (.if_icmp .ge 44, 60, 101)
  | 60 => some (.iload_n 2, 61, 0)
  | 61 => some (.sipush 512, 64, 0)
  | 64 => some (.if_icmp .ge 37, 67, 101)
  | 67 => some (.aload_n 1, 68, 0)
  | 68 => some (.getfield 68, 71, 0)
  | 71 => some (.iload_n 2, 72, 0)
  | 72 => some (.iload 4, 74, 0)
  | 74 => some (.aload_n 0, 75, 0)
  | 75 => some (.iconst 2, 76, 0)
  | 76 => some (.iload 5, 78, 0)
  | 78 => some (.invokevirtual 56, 81, 0)
  | 81 => some (.aload_n 0, 82, 0)
  | 82 => some (.iconst 3, 83, 0)
  | 83 => some (.iload 6, 85, 0)
  | 85 => some (.invokevirtual 56, 88, 0)
  | 88 => some (.invokestatic 71, 91, 0)
  | 91 => some (.iastore, 92, 0)
  | 92 => some (.iinc 2 1, 95, 0)
  | 95 => some (.iinc 6 1, 98, 0)
  | 98 => some (.goto (-48), 101, 50)
  | 101 => some (.iinc 5 1, 104, 0)
  | 104 => some (.goto (-67), 107, 37)
  | 107 => some (.iinc 3 1, 110, 0)
  | 110 => some (.goto (-98), 113, 12)
  | 113 => some (.aload_n 1, 114, 0)
  | 114 => some (.iconst 1, 115, 0)
  | 115 => some (.putfield 59, 118, 0)
  | 118 => some (.return_, 119, 0)
  | _ => none
theorem tv_3_measure : ∀ pc i, sy_lk 119 tc_3_measure pc = some i → sy_chk c_3_measure none false pc i = true := sy_lk_ok 119 tc_3_measure (by decide +kernel)
def Mk_3_measure (ct : Nat → Option (Bool × Nat × sy_Sp)) : sy_M := (sy_lk 119 tc_3_measure, ff_3, ki_3, kl_3, ct, false)
def rn_3_measure (ns : Nat) (ct : Nat → Option (Bool × Nat × sy_Sp)) (R : sy_R) (K : sy_K) : Nat → sy_K := sy_run ns (Mk_3_measure ct) [12, 37, 50] R K
theorem rx_3_measure_0 {ns n ct R K s k z v0 v2 v3 v4 v5 v6} : rn_3_measure ns ct R K (n + 1) 0 [v0, .inr (.inr (some z)), v2, v3, v4, v5, v6] k s = (rn_3_measure ns ct R K n 1 [v0, .inr (.inr (some z)), v2, v3, v4, v5, v6] (.inr (.inr (some z)) :: k) s) := rfl
theorem rx_3_measure_1 {ns n ct R K s L k a} : rn_3_measure ns ct R K (n + 1) 1 L (.inr (.inr (some (some a))) :: k) s = (sy_ob a = some 6 ∧ rn_3_measure ns ct R K n 4 L (sy_fv s a 3 :: k) s) := rfl
theorem rx_3_measure_4 {ns n ct R K s L k a x} : rn_3_measure ns ct R K (n + 1) 4 L (.inl (a, x) :: k) s = (sy_ri a x ∧ (x = 0 → rn_3_measure ns ct R K n 8 L k s) ∧ (¬ x = 0 → rn_3_measure ns ct R K n 7 L k s)) := rfl
theorem rx_3_measure_7 {ns n ct R K s L} : rn_3_measure ns ct R K (n + 1) 7 L [] s = (R none s) := rfl
theorem rx_3_measure_8 {ns n ct R K s L k} : rn_3_measure ns ct R K (n + 1) 8 L k s = (rn_3_measure ns ct R K n 9 L (.inl (true, 0) :: k) s) := rfl
theorem rx_3_measure_9 {ns n ct R K s L k b z} : rn_3_measure ns ct R K (n + 1) 9 L (.inl (b, z) :: k) s = (sy_ri b z ∧ 2 < L.length ∧ rn_3_measure ns ct R K n 10 (sy_sto L 2 (.inl (true, z))) k s) := rfl
theorem rx_3_measure_10 {ns n ct R K s L k} : rn_3_measure ns ct R K (n + 1) 10 L k s = (rn_3_measure ns ct R K n 11 L (.inl (true, 0) :: k) s) := rfl
theorem rx_3_measure_11 {ns n ct R K s L k b z} : rn_3_measure ns ct R K (n + 1) 11 L (.inl (b, z) :: k) s = (sy_ri b z ∧ 3 < L.length ∧ K 12 (sy_sto L 3 (.inl (true, z))) k s) := rfl
theorem rx_3_measure_12 {ns n ct R K s k z v0 v1 v2 v4 v5 v6} : rn_3_measure ns ct R K (n + 1) 12 [v0, v1, v2, .inl (true, z), v4, v5, v6] k s = (rn_3_measure ns ct R K n 13 [v0, v1, v2, .inl (true, z), v4, v5, v6] (.inl (true, z) :: k) s) := rfl
theorem rx_3_measure_13 {ns n ct R K s k z v1 v2 v3 v4 v5 v6} : rn_3_measure ns ct R K (n + 1) 13 [.inr (.inr (some z)), v1, v2, v3, v4, v5, v6] k s = (rn_3_measure ns ct R K n 14 [.inr (.inr (some z)), v1, v2, v3, v4, v5, v6] (.inr (.inr (some z)) :: k) s) := rfl
theorem rx_3_measure_14 {ns n ct R K s L k} : rn_3_measure ns ct R K (n + 1) 14 L k s = (rn_3_measure ns ct R K n 15 L (.inl (true, 1) :: k) s) := rfl
theorem rx_3_measure_15 {ns n ct R K s L k} : rn_3_measure ns ct R K (n + 1) 15 L k s = (sy_call false (ct 46) k s fun r t => rn_3_measure ns ct R K n 18 L r t) := rfl
theorem rx_3_measure_18 {ns n ct R K s L k a b x y} : rn_3_measure ns ct R K (n + 1) 18 L (.inl (b, y) :: .inl (a, x) :: k) s = (sy_ri a x ∧ sy_ri b y ∧ (y ≤ x → rn_3_measure ns ct R K n 113 L k s) ∧ (¬ y ≤ x → rn_3_measure ns ct R K n 21 L k s)) := rfl
theorem rx_3_measure_21 {ns n ct R K s k z v0 v2 v3 v4 v5 v6} : rn_3_measure ns ct R K (n + 1) 21 [v0, .inr (.inr (some z)), v2, v3, v4, v5, v6] k s = (rn_3_measure ns ct R K n 22 [v0, .inr (.inr (some z)), v2, v3, v4, v5, v6] (.inr (.inr (some z)) :: k) s) := rfl
theorem rx_3_measure_22 {ns n ct R K s L k a} : rn_3_measure ns ct R K (n + 1) 22 L (.inr (.inr (some (some a))) :: k) s = (sy_ob a = some 6 ∧ rn_3_measure ns ct R K n 25 L (sy_fv s a 0 :: k) s) := rfl
theorem rx_3_measure_25 {ns n ct R K s k z v1 v2 v3 v4 v5 v6} : rn_3_measure ns ct R K (n + 1) 25 [.inr (.inr (some z)), v1, v2, v3, v4, v5, v6] k s = (rn_3_measure ns ct R K n 26 [.inr (.inr (some z)), v1, v2, v3, v4, v5, v6] (.inr (.inr (some z)) :: k) s) := rfl
theorem rx_3_measure_26 {ns n ct R K s L k} : rn_3_measure ns ct R K (n + 1) 26 L k s = (rn_3_measure ns ct R K n 27 L (.inl (true, 1) :: k) s) := rfl
theorem rx_3_measure_27 {ns n ct R K s k z v0 v1 v2 v4 v5 v6} : rn_3_measure ns ct R K (n + 1) 27 [v0, v1, v2, .inl (true, z), v4, v5, v6] k s = (rn_3_measure ns ct R K n 28 [v0, v1, v2, .inl (true, z), v4, v5, v6] (.inl (true, z) :: k) s) := rfl
theorem rx_3_measure_28 {ns n ct R K s L k} : rn_3_measure ns ct R K (n + 1) 28 L k s = (sy_call false (ct 56) k s fun r t => rn_3_measure ns ct R K n 31 L r t) := rfl
theorem rx_3_measure_31 {ns n ct R K s L k a b x y} : rn_3_measure ns ct R K (n + 1) 31 L (.inl (b, y) :: .inl (a, x) :: k) s = (rn_3_measure ns ct R K n 32 L (.inl (false, x - y) :: k) s) := rfl
theorem rx_3_measure_32 {ns n ct R K s L k b z} : rn_3_measure ns ct R K (n + 1) 32 L (.inl (b, z) :: k) s = (sy_ri b z ∧ 4 < L.length ∧ rn_3_measure ns ct R K n 34 (sy_sto L 4 (.inl (true, z))) k s) := rfl
theorem rx_3_measure_34 {ns n ct R K s L k} : rn_3_measure ns ct R K (n + 1) 34 L k s = (rn_3_measure ns ct R K n 35 L (.inl (true, 0) :: k) s) := rfl
theorem rx_3_measure_35 {ns n ct R K s L k b z} : rn_3_measure ns ct R K (n + 1) 35 L (.inl (b, z) :: k) s = (sy_ri b z ∧ 5 < L.length ∧ K 37 (sy_sto L 5 (.inl (true, z))) k s) := rfl
theorem rx_3_measure_37 {ns n ct R K s k z v0 v1 v2 v3 v4 v6} : rn_3_measure ns ct R K (n + 1) 37 [v0, v1, v2, v3, v4, .inl (true, z), v6] k s = (rn_3_measure ns ct R K n 39 [v0, v1, v2, v3, v4, .inl (true, z), v6] (.inl (true, z) :: k) s) := rfl
theorem rx_3_measure_39 {ns n ct R K s k z v1 v2 v3 v4 v5 v6} : rn_3_measure ns ct R K (n + 1) 39 [.inr (.inr (some z)), v1, v2, v3, v4, v5, v6] k s = (rn_3_measure ns ct R K n 40 [.inr (.inr (some z)), v1, v2, v3, v4, v5, v6] (.inr (.inr (some z)) :: k) s) := rfl
theorem rx_3_measure_40 {ns n ct R K s L k} : rn_3_measure ns ct R K (n + 1) 40 L k s = (rn_3_measure ns ct R K n 41 L (.inl (true, 2) :: k) s) := rfl
theorem rx_3_measure_41 {ns n ct R K s L k} : rn_3_measure ns ct R K (n + 1) 41 L k s = (sy_call false (ct 46) k s fun r t => rn_3_measure ns ct R K n 44 L r t) := rfl
theorem rx_3_measure_44 {ns n ct R K s L k a b x y} : rn_3_measure ns ct R K (n + 1) 44 L (.inl (b, y) :: .inl (a, x) :: k) s = (sy_ri a x ∧ sy_ri b y ∧ (y ≤ x → rn_3_measure ns ct R K n 107 L k s) ∧ (¬ y ≤ x → rn_3_measure ns ct R K n 47 L k s)) := rfl
theorem rx_3_measure_47 {ns n ct R K s L k} : rn_3_measure ns ct R K (n + 1) 47 L k s = (rn_3_measure ns ct R K n 48 L (.inl (true, 0) :: k) s) := rfl
theorem rx_3_measure_48 {ns n ct R K s L k b z} : rn_3_measure ns ct R K (n + 1) 48 L (.inl (b, z) :: k) s = (sy_ri b z ∧ 6 < L.length ∧ K 50 (sy_sto L 6 (.inl (true, z))) k s) := rfl
theorem rx_3_measure_50 {ns n ct R K s k z v0 v1 v2 v3 v4 v5} : rn_3_measure ns ct R K (n + 1) 50 [v0, v1, v2, v3, v4, v5, .inl (true, z)] k s = (rn_3_measure ns ct R K n 52 [v0, v1, v2, v3, v4, v5, .inl (true, z)] (.inl (true, z) :: k) s) := rfl
theorem rx_3_measure_52 {ns n ct R K s k z v1 v2 v3 v4 v5 v6} : rn_3_measure ns ct R K (n + 1) 52 [.inr (.inr (some z)), v1, v2, v3, v4, v5, v6] k s = (rn_3_measure ns ct R K n 53 [.inr (.inr (some z)), v1, v2, v3, v4, v5, v6] (.inr (.inr (some z)) :: k) s) := rfl
theorem rx_3_measure_53 {ns n ct R K s L k} : rn_3_measure ns ct R K (n + 1) 53 L k s = (rn_3_measure ns ct R K n 54 L (.inl (true, 3) :: k) s) := rfl
theorem rx_3_measure_54 {ns n ct R K s L k} : rn_3_measure ns ct R K (n + 1) 54 L k s = (sy_call false (ct 46) k s fun r t => rn_3_measure ns ct R K n 57 L r t) := rfl
theorem rx_3_measure_57 {ns n ct R K s L k a b x y} : rn_3_measure ns ct R K (n + 1) 57 L (.inl (b, y) :: .inl (a, x) :: k) s = (sy_ri a x ∧ sy_ri b y ∧ (y ≤ x → rn_3_measure ns ct R K n 101 L k s) ∧ (¬ y ≤ x → rn_3_measure ns ct R K n 60 L k s)) := rfl
theorem rx_3_measure_60 {ns n ct R K s k z v0 v1 v3 v4 v5 v6} : rn_3_measure ns ct R K (n + 1) 60 [v0, v1, .inl (true, z), v3, v4, v5, v6] k s = (rn_3_measure ns ct R K n 61 [v0, v1, .inl (true, z), v3, v4, v5, v6] (.inl (true, z) :: k) s) := rfl
theorem rx_3_measure_61 {ns n ct R K s L k} : rn_3_measure ns ct R K (n + 1) 61 L k s = (rn_3_measure ns ct R K n 64 L (.inl (true, 512) :: k) s) := rfl
theorem rx_3_measure_64 {ns n ct R K s L k a b x y} : rn_3_measure ns ct R K (n + 1) 64 L (.inl (b, y) :: .inl (a, x) :: k) s = (sy_ri a x ∧ sy_ri b y ∧ (y ≤ x → rn_3_measure ns ct R K n 101 L k s) ∧ (¬ y ≤ x → rn_3_measure ns ct R K n 67 L k s)) := rfl
theorem rx_3_measure_67 {ns n ct R K s k z v0 v2 v3 v4 v5 v6} : rn_3_measure ns ct R K (n + 1) 67 [v0, .inr (.inr (some z)), v2, v3, v4, v5, v6] k s = (rn_3_measure ns ct R K n 68 [v0, .inr (.inr (some z)), v2, v3, v4, v5, v6] (.inr (.inr (some z)) :: k) s) := rfl
theorem rx_3_measure_68 {ns n ct R K s L k a} : rn_3_measure ns ct R K (n + 1) 68 L (.inr (.inr (some (some a))) :: k) s = (sy_ob a = some 6 ∧ rn_3_measure ns ct R K n 71 L (sy_fv s a 2 :: k) s) := rfl
theorem rx_3_measure_71 {ns n ct R K s k z v0 v1 v3 v4 v5 v6} : rn_3_measure ns ct R K (n + 1) 71 [v0, v1, .inl (true, z), v3, v4, v5, v6] k s = (rn_3_measure ns ct R K n 72 [v0, v1, .inl (true, z), v3, v4, v5, v6] (.inl (true, z) :: k) s) := rfl
theorem rx_3_measure_72 {ns n ct R K s k z v0 v1 v2 v3 v5 v6} : rn_3_measure ns ct R K (n + 1) 72 [v0, v1, v2, v3, .inl (true, z), v5, v6] k s = (rn_3_measure ns ct R K n 74 [v0, v1, v2, v3, .inl (true, z), v5, v6] (.inl (true, z) :: k) s) := rfl
theorem rx_3_measure_74 {ns n ct R K s k z v1 v2 v3 v4 v5 v6} : rn_3_measure ns ct R K (n + 1) 74 [.inr (.inr (some z)), v1, v2, v3, v4, v5, v6] k s = (rn_3_measure ns ct R K n 75 [.inr (.inr (some z)), v1, v2, v3, v4, v5, v6] (.inr (.inr (some z)) :: k) s) := rfl
theorem rx_3_measure_75 {ns n ct R K s L k} : rn_3_measure ns ct R K (n + 1) 75 L k s = (rn_3_measure ns ct R K n 76 L (.inl (true, 2) :: k) s) := rfl
theorem rx_3_measure_76 {ns n ct R K s k z v0 v1 v2 v3 v4 v6} : rn_3_measure ns ct R K (n + 1) 76 [v0, v1, v2, v3, v4, .inl (true, z), v6] k s = (rn_3_measure ns ct R K n 78 [v0, v1, v2, v3, v4, .inl (true, z), v6] (.inl (true, z) :: k) s) := rfl
theorem rx_3_measure_78 {ns n ct R K s L k} : rn_3_measure ns ct R K (n + 1) 78 L k s = (sy_call false (ct 56) k s fun r t => rn_3_measure ns ct R K n 81 L r t) := rfl
theorem rx_3_measure_81 {ns n ct R K s k z v1 v2 v3 v4 v5 v6} : rn_3_measure ns ct R K (n + 1) 81 [.inr (.inr (some z)), v1, v2, v3, v4, v5, v6] k s = (rn_3_measure ns ct R K n 82 [.inr (.inr (some z)), v1, v2, v3, v4, v5, v6] (.inr (.inr (some z)) :: k) s) := rfl
theorem rx_3_measure_82 {ns n ct R K s L k} : rn_3_measure ns ct R K (n + 1) 82 L k s = (rn_3_measure ns ct R K n 83 L (.inl (true, 3) :: k) s) := rfl
theorem rx_3_measure_83 {ns n ct R K s k z v0 v1 v2 v3 v4 v5} : rn_3_measure ns ct R K (n + 1) 83 [v0, v1, v2, v3, v4, v5, .inl (true, z)] k s = (rn_3_measure ns ct R K n 85 [v0, v1, v2, v3, v4, v5, .inl (true, z)] (.inl (true, z) :: k) s) := rfl
theorem rx_3_measure_85 {ns n ct R K s L k} : rn_3_measure ns ct R K (n + 1) 85 L k s = (sy_call false (ct 56) k s fun r t => rn_3_measure ns ct R K n 88 L r t) := rfl
theorem rx_3_measure_88 {ns n ct R K s L k} : rn_3_measure ns ct R K (n + 1) 88 L k s = (sy_call true (ct 71) k s fun r t => rn_3_measure ns ct R K n 91 L r t) := rfl
theorem rx_3_measure_91 {ns n ct R K s L k a b c z y} : rn_3_measure ns ct R K (n + 1) 91 L (.inl (c, y) :: .inl (b, z) :: .inr (.inr (some (some a))) :: k) s = (sy_ri c y ∧ (0 ≤ z ∧ z < (sy_ar a).2) ∧ sy_ob a = none ∧ (sy_ar a).1 = 0 ∧ rn_3_measure ns ct R K n 92 L k (sy_up s a z.toNat y)) := rfl
theorem rx_3_measure_92 {ns n ct R K s k z v0 v1 v3 v4 v5 v6} : rn_3_measure ns ct R K (n + 1) 92 [v0, v1, .inl (true, z), v3, v4, v5, v6] k s = ((-2147483648 ≤ z + 1 ∧ z + 1 < 2147483648) ∧ rn_3_measure ns ct R K n 95 (sy_sto [v0, v1, .inl (true, z), v3, v4, v5, v6] 2 (.inl (true, z + 1))) k s) := rfl
theorem rx_3_measure_95 {ns n ct R K s k z v0 v1 v2 v3 v4 v5} : rn_3_measure ns ct R K (n + 1) 95 [v0, v1, v2, v3, v4, v5, .inl (true, z)] k s = ((-2147483648 ≤ z + 1 ∧ z + 1 < 2147483648) ∧ rn_3_measure ns ct R K n 98 (sy_sto [v0, v1, v2, v3, v4, v5, .inl (true, z)] 6 (.inl (true, z + 1))) k s) := rfl
theorem rx_3_measure_98 {ns n ct R K s L k} : rn_3_measure ns ct R K (n + 1) 98 L k s = (K 50 L k s) := rfl
theorem rx_3_measure_101 {ns n ct R K s k z v0 v1 v2 v3 v4 v6} : rn_3_measure ns ct R K (n + 1) 101 [v0, v1, v2, v3, v4, .inl (true, z), v6] k s = ((-2147483648 ≤ z + 1 ∧ z + 1 < 2147483648) ∧ rn_3_measure ns ct R K n 104 (sy_sto [v0, v1, v2, v3, v4, .inl (true, z), v6] 5 (.inl (true, z + 1))) k s) := rfl
theorem rx_3_measure_104 {ns n ct R K s L k} : rn_3_measure ns ct R K (n + 1) 104 L k s = (K 37 L k s) := rfl
theorem rx_3_measure_107 {ns n ct R K s k z v0 v1 v2 v4 v5 v6} : rn_3_measure ns ct R K (n + 1) 107 [v0, v1, v2, .inl (true, z), v4, v5, v6] k s = ((-2147483648 ≤ z + 1 ∧ z + 1 < 2147483648) ∧ rn_3_measure ns ct R K n 110 (sy_sto [v0, v1, v2, .inl (true, z), v4, v5, v6] 3 (.inl (true, z + 1))) k s) := rfl
theorem rx_3_measure_110 {ns n ct R K s L k} : rn_3_measure ns ct R K (n + 1) 110 L k s = (K 12 L k s) := rfl
theorem rx_3_measure_113 {ns n ct R K s k z v0 v2 v3 v4 v5 v6} : rn_3_measure ns ct R K (n + 1) 113 [v0, .inr (.inr (some z)), v2, v3, v4, v5, v6] k s = (rn_3_measure ns ct R K n 114 [v0, .inr (.inr (some z)), v2, v3, v4, v5, v6] (.inr (.inr (some z)) :: k) s) := rfl
theorem rx_3_measure_114 {ns n ct R K s L k} : rn_3_measure ns ct R K (n + 1) 114 L k s = (rn_3_measure ns ct R K n 115 L (.inl (true, 1) :: k) s) := rfl
theorem rx_3_measure_115 {ns n ct R K s L k a b z} : rn_3_measure ns ct R K (n + 1) 115 L (.inl (b, z) :: .inr (.inr (some (some a))) :: k) s = (sy_ob a = some 6 ∧ sy_ri b z ∧ sy_b01 true z ∧ rn_3_measure ns ct R K n 118 L k (sy_up s a 3 z)) := rfl
theorem rx_3_measure_118 {ns n ct R K s L} : rn_3_measure ns ct R K (n + 1) 118 L [] s = (R none s) := rfl
def y_3_widthTwice : MethodName := ⟨"StarHide$Net", "widthTwice", "(III)I"⟩
abbrev c_3_widthTwice : ByteArray := prog_5_method_9_code
def tc_3_widthTwice (pc : Nat) : Option sy_I := match pc with
  | 0 => some (.iload_n 0, 1, 0)
  | 1 => some (.iload_n 2, 2, 0)
  | 2 => some (.if_icmp .ge 9, 5, 11)
  | 5 => some (.iload_n 0, 6, 0)
  | 6 => some (.ineg, 7, 0)
  | 7 => some (.iload_n 2, 8, 0)
  | 8 => some (.if_icmp .lt 5, 11, 13)
  | 11 => some (.iconst (-1), 12, 0)
  | 12 => some (.ireturn, 13, 0)
  | 13 => some (.iload_n 2, 14, 0)
  | 14 => some (.i2l, 15, 0)
  | 15 => some (.iload_n 2, 16, 0)
  | 16 => some (.i2l, 17, 0)
  | 17 => some (.lmul, 18, 0)
  | 18 => some (.lstore_n 3, 19, 0)
  | 19 => some (.iload_n 1, 20, 0)
  | 20 => some (.i2l, 21, 0)
  | 21 => some (.iload_n 1, 22, 0)
  | 22 => some (.i2l, 23, 0)
  | 23 => some (.lmul, 24, 0)
  | 24 => some (.lload_n 3, 25, 0)
  | 25 => some (.iload_n 0, 26, 0)
  | 26 => some (.i2l, 27, 0)
  | 27 => some (.iload_n 0, 28, 0)
  | 28 => some (.i2l, 29, 0)
  | 29 => some (.lmul, 30, 0)
  | 30 => some (.lsub, 31, 0)
  | 31 => some (.lmul, 32, 0)
  | 32 => some (.lstore 5, 34, 0)
  | 34 => some (.iconst 0, 35, 0)
  | 35 => some (.istore 7, 37, 0)
  | 37 => some (.sipush 1024, 40, 0)
  | 40 => some (.istore 8, 42, 0)
  | 42 => some (.iload 8, 44, 0)
  | 44 => some (.ifCond .le 40, 47, 84)
  | 47 => some (.iload 7, 49, 0)
  | 49 => some (.iload 8, 51, 0)
  | 51 => some (.iadd, 52, 0)
  | 52 => some (.i2l, 53, 0)
  | 53 => some (.lstore 9, 55, 0)
  | 55 => some (.lload 9, 57, 0)
  | 57 => some (.lload 9, 59, 0)
  | 59 => some (.lmul, 60, 0)
  | 60 => some (.lload_n 3, 61, 0)
  | 61 => some (.lmul, 62, 0)
  | 62 => some (.lload 5, 64, 0)
  | 64 => some (.lcmp, 65, 0)
  | 65 => some (.ifCond .gt 10, 68, 75)
  | 68 => some (.iload 7, 70, 0)
  | 70 => some (.iload 8, 72, 0)
  | 72 => some (.iadd, 73, 0)
  | 73 => some (.istore 7, 75, 0)
  | 75 => some (.iload 8, 77, 0)
  | 77 => some (.iconst 1, 78, 0)
  | 78 => some (.ishr, 79, 0)
  | 79 => some (.istore 8, 81, 0)
  | 81 => some (.goto (-39), 84, 42)
  | 84 => some (.iload 7, 86, 0)
  | 86 => some (.i2l, 87, 0)
  | 87 => some (.iload 7, 89, 0)
  | 89 => some (.i2l, 90, 0)
  | 90 => some (.lmul, 91, 0)
  | 91 => some (.lload_n 3, 92, 0)
  | 92 => some (.lmul, 93, 0)
  | 93 => some (.lload 5, 95, 0)
  | 95 => some (.lcmp, 96, 0)
  | 96 => some (.ifCond .ne 10, 99, 106)
  | 99 => some (.iconst 2, 100, 0)
  | 100 => some (.iload 7, 102, 0)
  | 102 => some (.imul, 103, 0)
  | 103 => some (.goto 9, 106, 112)
  | 106 => some (.iconst 2, 107, 0)
  | 107 => some (.iload 7, 109, 0)
  | 109 => some (.imul, 110, 0)
  | 110 => some (.iconst 1, 111, 0)
  | 111 => some (.iadd, 112, 0)
  | 112 => some (.ireturn, 113, 0)
  | _ => none
theorem tv_3_widthTwice : ∀ pc i, sy_lk 113 tc_3_widthTwice pc = some i → sy_chk c_3_widthTwice (some .int) false pc i = true := sy_lk_ok 113 tc_3_widthTwice (by decide +kernel)
def Mk_3_widthTwice (ct : Nat → Option (Bool × Nat × sy_Sp)) : sy_M := (sy_lk 113 tc_3_widthTwice, ff_3, ki_3, kl_3, ct, false)
def rn_3_widthTwice (ns : Nat) (ct : Nat → Option (Bool × Nat × sy_Sp)) (R : sy_R) (K : sy_K) : Nat → sy_K := sy_run ns (Mk_3_widthTwice ct) [42] R K
theorem rx_3_widthTwice_0 {ns n ct R K s k z v1 v2 v3 v4 v5 v6 v7 v8 v9 v10} : rn_3_widthTwice ns ct R K (n + 1) 0 [.inl (true, z), v1, v2, v3, v4, v5, v6, v7, v8, v9, v10] k s = (rn_3_widthTwice ns ct R K n 1 [.inl (true, z), v1, v2, v3, v4, v5, v6, v7, v8, v9, v10] (.inl (true, z) :: k) s) := rfl
theorem rx_3_widthTwice_1 {ns n ct R K s k z v0 v1 v3 v4 v5 v6 v7 v8 v9 v10} : rn_3_widthTwice ns ct R K (n + 1) 1 [v0, v1, .inl (true, z), v3, v4, v5, v6, v7, v8, v9, v10] k s = (rn_3_widthTwice ns ct R K n 2 [v0, v1, .inl (true, z), v3, v4, v5, v6, v7, v8, v9, v10] (.inl (true, z) :: k) s) := rfl
theorem rx_3_widthTwice_2 {ns n ct R K s L k a b x y} : rn_3_widthTwice ns ct R K (n + 1) 2 L (.inl (b, y) :: .inl (a, x) :: k) s = (sy_ri a x ∧ sy_ri b y ∧ (y ≤ x → rn_3_widthTwice ns ct R K n 11 L k s) ∧ (¬ y ≤ x → rn_3_widthTwice ns ct R K n 5 L k s)) := rfl
theorem rx_3_widthTwice_5 {ns n ct R K s k z v1 v2 v3 v4 v5 v6 v7 v8 v9 v10} : rn_3_widthTwice ns ct R K (n + 1) 5 [.inl (true, z), v1, v2, v3, v4, v5, v6, v7, v8, v9, v10] k s = (rn_3_widthTwice ns ct R K n 6 [.inl (true, z), v1, v2, v3, v4, v5, v6, v7, v8, v9, v10] (.inl (true, z) :: k) s) := rfl
theorem rx_3_widthTwice_6 {ns n ct R K s L k a x} : rn_3_widthTwice ns ct R K (n + 1) 6 L (.inl (a, x) :: k) s = (rn_3_widthTwice ns ct R K n 7 L (.inl (false, -x) :: k) s) := rfl
theorem rx_3_widthTwice_7 {ns n ct R K s k z v0 v1 v3 v4 v5 v6 v7 v8 v9 v10} : rn_3_widthTwice ns ct R K (n + 1) 7 [v0, v1, .inl (true, z), v3, v4, v5, v6, v7, v8, v9, v10] k s = (rn_3_widthTwice ns ct R K n 8 [v0, v1, .inl (true, z), v3, v4, v5, v6, v7, v8, v9, v10] (.inl (true, z) :: k) s) := rfl
theorem rx_3_widthTwice_8 {ns n ct R K s L k a b x y} : rn_3_widthTwice ns ct R K (n + 1) 8 L (.inl (b, y) :: .inl (a, x) :: k) s = (sy_ri a x ∧ sy_ri b y ∧ (x < y → rn_3_widthTwice ns ct R K n 13 L k s) ∧ (¬ x < y → rn_3_widthTwice ns ct R K n 11 L k s)) := rfl
theorem rx_3_widthTwice_11 {ns n ct R K s L k} : rn_3_widthTwice ns ct R K (n + 1) 11 L k s = (rn_3_widthTwice ns ct R K n 12 L (.inl (true, (-1)) :: k) s) := rfl
theorem rx_3_widthTwice_12 {ns n ct R K s L a z} : rn_3_widthTwice ns ct R K (n + 1) 12 L [.inl (a, z)] s = (sy_ri a z ∧ sy_b01 false z ∧ R (some (.inl (true, z))) s) := rfl
theorem rx_3_widthTwice_13 {ns n ct R K s k z v0 v1 v3 v4 v5 v6 v7 v8 v9 v10} : rn_3_widthTwice ns ct R K (n + 1) 13 [v0, v1, .inl (true, z), v3, v4, v5, v6, v7, v8, v9, v10] k s = (rn_3_widthTwice ns ct R K n 14 [v0, v1, .inl (true, z), v3, v4, v5, v6, v7, v8, v9, v10] (.inl (true, z) :: k) s) := rfl
theorem rx_3_widthTwice_14 {ns n ct R K s L k a x} : rn_3_widthTwice ns ct R K (n + 1) 14 L (.inl (a, x) :: k) s = (sy_ri a x ∧ rn_3_widthTwice ns ct R K n 15 L (.inr (.inl (true, x)) :: k) s) := rfl
theorem rx_3_widthTwice_15 {ns n ct R K s k z v0 v1 v3 v4 v5 v6 v7 v8 v9 v10} : rn_3_widthTwice ns ct R K (n + 1) 15 [v0, v1, .inl (true, z), v3, v4, v5, v6, v7, v8, v9, v10] k s = (rn_3_widthTwice ns ct R K n 16 [v0, v1, .inl (true, z), v3, v4, v5, v6, v7, v8, v9, v10] (.inl (true, z) :: k) s) := rfl
theorem rx_3_widthTwice_16 {ns n ct R K s L k a x} : rn_3_widthTwice ns ct R K (n + 1) 16 L (.inl (a, x) :: k) s = (sy_ri a x ∧ rn_3_widthTwice ns ct R K n 17 L (.inr (.inl (true, x)) :: k) s) := rfl
theorem rx_3_widthTwice_17 {ns n ct R K s L k a b x y} : rn_3_widthTwice ns ct R K (n + 1) 17 L (.inr (.inl (b, y)) :: .inr (.inl (a, x)) :: k) s = (rn_3_widthTwice ns ct R K n 18 L (.inr (.inl (false, x * y)) :: k) s) := rfl
theorem rx_3_widthTwice_18 {ns n ct R K s L k b z} : rn_3_widthTwice ns ct R K (n + 1) 18 L (.inr (.inl (b, z)) :: k) s = (sy_rl b z ∧ 4 < L.length ∧ rn_3_widthTwice ns ct R K n 19 (sy_gone (sy_sto L 3 (.inr (.inl (true, z)))) 4) k s) := rfl
theorem rx_3_widthTwice_19 {ns n ct R K s k z v0 v2 v3 v4 v5 v6 v7 v8 v9 v10} : rn_3_widthTwice ns ct R K (n + 1) 19 [v0, .inl (true, z), v2, v3, v4, v5, v6, v7, v8, v9, v10] k s = (rn_3_widthTwice ns ct R K n 20 [v0, .inl (true, z), v2, v3, v4, v5, v6, v7, v8, v9, v10] (.inl (true, z) :: k) s) := rfl
theorem rx_3_widthTwice_20 {ns n ct R K s L k a x} : rn_3_widthTwice ns ct R K (n + 1) 20 L (.inl (a, x) :: k) s = (sy_ri a x ∧ rn_3_widthTwice ns ct R K n 21 L (.inr (.inl (true, x)) :: k) s) := rfl
theorem rx_3_widthTwice_21 {ns n ct R K s k z v0 v2 v3 v4 v5 v6 v7 v8 v9 v10} : rn_3_widthTwice ns ct R K (n + 1) 21 [v0, .inl (true, z), v2, v3, v4, v5, v6, v7, v8, v9, v10] k s = (rn_3_widthTwice ns ct R K n 22 [v0, .inl (true, z), v2, v3, v4, v5, v6, v7, v8, v9, v10] (.inl (true, z) :: k) s) := rfl
theorem rx_3_widthTwice_22 {ns n ct R K s L k a x} : rn_3_widthTwice ns ct R K (n + 1) 22 L (.inl (a, x) :: k) s = (sy_ri a x ∧ rn_3_widthTwice ns ct R K n 23 L (.inr (.inl (true, x)) :: k) s) := rfl
theorem rx_3_widthTwice_23 {ns n ct R K s L k a b x y} : rn_3_widthTwice ns ct R K (n + 1) 23 L (.inr (.inl (b, y)) :: .inr (.inl (a, x)) :: k) s = (rn_3_widthTwice ns ct R K n 24 L (.inr (.inl (false, x * y)) :: k) s) := rfl
theorem rx_3_widthTwice_24 {ns n ct R K s k z v0 v1 v2 v4 v5 v6 v7 v8 v9 v10} : rn_3_widthTwice ns ct R K (n + 1) 24 [v0, v1, v2, .inr (.inl (true, z)), v4, v5, v6, v7, v8, v9, v10] k s = (rn_3_widthTwice ns ct R K n 25 [v0, v1, v2, .inr (.inl (true, z)), v4, v5, v6, v7, v8, v9, v10] (.inr (.inl (true, z)) :: k) s) := rfl
theorem rx_3_widthTwice_25 {ns n ct R K s k z v1 v2 v3 v4 v5 v6 v7 v8 v9 v10} : rn_3_widthTwice ns ct R K (n + 1) 25 [.inl (true, z), v1, v2, v3, v4, v5, v6, v7, v8, v9, v10] k s = (rn_3_widthTwice ns ct R K n 26 [.inl (true, z), v1, v2, v3, v4, v5, v6, v7, v8, v9, v10] (.inl (true, z) :: k) s) := rfl
theorem rx_3_widthTwice_26 {ns n ct R K s L k a x} : rn_3_widthTwice ns ct R K (n + 1) 26 L (.inl (a, x) :: k) s = (sy_ri a x ∧ rn_3_widthTwice ns ct R K n 27 L (.inr (.inl (true, x)) :: k) s) := rfl
theorem rx_3_widthTwice_27 {ns n ct R K s k z v1 v2 v3 v4 v5 v6 v7 v8 v9 v10} : rn_3_widthTwice ns ct R K (n + 1) 27 [.inl (true, z), v1, v2, v3, v4, v5, v6, v7, v8, v9, v10] k s = (rn_3_widthTwice ns ct R K n 28 [.inl (true, z), v1, v2, v3, v4, v5, v6, v7, v8, v9, v10] (.inl (true, z) :: k) s) := rfl
theorem rx_3_widthTwice_28 {ns n ct R K s L k a x} : rn_3_widthTwice ns ct R K (n + 1) 28 L (.inl (a, x) :: k) s = (sy_ri a x ∧ rn_3_widthTwice ns ct R K n 29 L (.inr (.inl (true, x)) :: k) s) := rfl
theorem rx_3_widthTwice_29 {ns n ct R K s L k a b x y} : rn_3_widthTwice ns ct R K (n + 1) 29 L (.inr (.inl (b, y)) :: .inr (.inl (a, x)) :: k) s = (rn_3_widthTwice ns ct R K n 30 L (.inr (.inl (false, x * y)) :: k) s) := rfl
theorem rx_3_widthTwice_30 {ns n ct R K s L k a b x y} : rn_3_widthTwice ns ct R K (n + 1) 30 L (.inr (.inl (b, y)) :: .inr (.inl (a, x)) :: k) s = (rn_3_widthTwice ns ct R K n 31 L (.inr (.inl (false, x - y)) :: k) s) := rfl
theorem rx_3_widthTwice_31 {ns n ct R K s L k a b x y} : rn_3_widthTwice ns ct R K (n + 1) 31 L (.inr (.inl (b, y)) :: .inr (.inl (a, x)) :: k) s = (rn_3_widthTwice ns ct R K n 32 L (.inr (.inl (false, x * y)) :: k) s) := rfl
theorem rx_3_widthTwice_32 {ns n ct R K s L k b z} : rn_3_widthTwice ns ct R K (n + 1) 32 L (.inr (.inl (b, z)) :: k) s = (sy_rl b z ∧ 6 < L.length ∧ rn_3_widthTwice ns ct R K n 34 (sy_gone (sy_sto L 5 (.inr (.inl (true, z)))) 6) k s) := rfl
theorem rx_3_widthTwice_34 {ns n ct R K s L k} : rn_3_widthTwice ns ct R K (n + 1) 34 L k s = (rn_3_widthTwice ns ct R K n 35 L (.inl (true, 0) :: k) s) := rfl
theorem rx_3_widthTwice_35 {ns n ct R K s L k b z} : rn_3_widthTwice ns ct R K (n + 1) 35 L (.inl (b, z) :: k) s = (sy_ri b z ∧ 7 < L.length ∧ rn_3_widthTwice ns ct R K n 37 (sy_sto L 7 (.inl (true, z))) k s) := rfl
theorem rx_3_widthTwice_37 {ns n ct R K s L k} : rn_3_widthTwice ns ct R K (n + 1) 37 L k s = (rn_3_widthTwice ns ct R K n 40 L (.inl (true, 1024) :: k) s) := rfl
theorem rx_3_widthTwice_40 {ns n ct R K s L k b z} : rn_3_widthTwice ns ct R K (n + 1) 40 L (.inl (b, z) :: k) s = (sy_ri b z ∧ 8 < L.length ∧ K 42 (sy_sto L 8 (.inl (true, z))) k s) := rfl
theorem rx_3_widthTwice_42 {ns n ct R K s k z v0 v1 v2 v3 v4 v5 v6 v7 v9 v10} : rn_3_widthTwice ns ct R K (n + 1) 42 [v0, v1, v2, v3, v4, v5, v6, v7, .inl (true, z), v9, v10] k s = (rn_3_widthTwice ns ct R K n 44 [v0, v1, v2, v3, v4, v5, v6, v7, .inl (true, z), v9, v10] (.inl (true, z) :: k) s) := rfl
theorem rx_3_widthTwice_44 {ns n ct R K s L k a x} : rn_3_widthTwice ns ct R K (n + 1) 44 L (.inl (a, x) :: k) s = (sy_ri a x ∧ (x ≤ 0 → rn_3_widthTwice ns ct R K n 84 L k s) ∧ (¬ x ≤ 0 → rn_3_widthTwice ns ct R K n 47 L k s)) := rfl
theorem rx_3_widthTwice_47 {ns n ct R K s k z v0 v1 v2 v3 v4 v5 v6 v8 v9 v10} : rn_3_widthTwice ns ct R K (n + 1) 47 [v0, v1, v2, v3, v4, v5, v6, .inl (true, z), v8, v9, v10] k s = (rn_3_widthTwice ns ct R K n 49 [v0, v1, v2, v3, v4, v5, v6, .inl (true, z), v8, v9, v10] (.inl (true, z) :: k) s) := rfl
theorem rx_3_widthTwice_49 {ns n ct R K s k z v0 v1 v2 v3 v4 v5 v6 v7 v9 v10} : rn_3_widthTwice ns ct R K (n + 1) 49 [v0, v1, v2, v3, v4, v5, v6, v7, .inl (true, z), v9, v10] k s = (rn_3_widthTwice ns ct R K n 51 [v0, v1, v2, v3, v4, v5, v6, v7, .inl (true, z), v9, v10] (.inl (true, z) :: k) s) := rfl
theorem rx_3_widthTwice_51 {ns n ct R K s L k a b x y} : rn_3_widthTwice ns ct R K (n + 1) 51 L (.inl (b, y) :: .inl (a, x) :: k) s = (rn_3_widthTwice ns ct R K n 52 L (.inl (false, x + y) :: k) s) := rfl
theorem rx_3_widthTwice_52 {ns n ct R K s L k a x} : rn_3_widthTwice ns ct R K (n + 1) 52 L (.inl (a, x) :: k) s = (sy_ri a x ∧ rn_3_widthTwice ns ct R K n 53 L (.inr (.inl (true, x)) :: k) s) := rfl
theorem rx_3_widthTwice_53 {ns n ct R K s L k b z} : rn_3_widthTwice ns ct R K (n + 1) 53 L (.inr (.inl (b, z)) :: k) s = (sy_rl b z ∧ 10 < L.length ∧ rn_3_widthTwice ns ct R K n 55 (sy_gone (sy_sto L 9 (.inr (.inl (true, z)))) 10) k s) := rfl
theorem rx_3_widthTwice_55 {ns n ct R K s k z v0 v1 v2 v3 v4 v5 v6 v7 v8 v10} : rn_3_widthTwice ns ct R K (n + 1) 55 [v0, v1, v2, v3, v4, v5, v6, v7, v8, .inr (.inl (true, z)), v10] k s = (rn_3_widthTwice ns ct R K n 57 [v0, v1, v2, v3, v4, v5, v6, v7, v8, .inr (.inl (true, z)), v10] (.inr (.inl (true, z)) :: k) s) := rfl
theorem rx_3_widthTwice_57 {ns n ct R K s k z v0 v1 v2 v3 v4 v5 v6 v7 v8 v10} : rn_3_widthTwice ns ct R K (n + 1) 57 [v0, v1, v2, v3, v4, v5, v6, v7, v8, .inr (.inl (true, z)), v10] k s = (rn_3_widthTwice ns ct R K n 59 [v0, v1, v2, v3, v4, v5, v6, v7, v8, .inr (.inl (true, z)), v10] (.inr (.inl (true, z)) :: k) s) := rfl
theorem rx_3_widthTwice_59 {ns n ct R K s L k a b x y} : rn_3_widthTwice ns ct R K (n + 1) 59 L (.inr (.inl (b, y)) :: .inr (.inl (a, x)) :: k) s = (rn_3_widthTwice ns ct R K n 60 L (.inr (.inl (false, x * y)) :: k) s) := rfl
theorem rx_3_widthTwice_60 {ns n ct R K s k z v0 v1 v2 v4 v5 v6 v7 v8 v9 v10} : rn_3_widthTwice ns ct R K (n + 1) 60 [v0, v1, v2, .inr (.inl (true, z)), v4, v5, v6, v7, v8, v9, v10] k s = (rn_3_widthTwice ns ct R K n 61 [v0, v1, v2, .inr (.inl (true, z)), v4, v5, v6, v7, v8, v9, v10] (.inr (.inl (true, z)) :: k) s) := rfl
theorem rx_3_widthTwice_61 {ns n ct R K s L k a b x y} : rn_3_widthTwice ns ct R K (n + 1) 61 L (.inr (.inl (b, y)) :: .inr (.inl (a, x)) :: k) s = (rn_3_widthTwice ns ct R K n 62 L (.inr (.inl (false, x * y)) :: k) s) := rfl
theorem rx_3_widthTwice_62 {ns n ct R K s k z v0 v1 v2 v3 v4 v6 v7 v8 v9 v10} : rn_3_widthTwice ns ct R K (n + 1) 62 [v0, v1, v2, v3, v4, .inr (.inl (true, z)), v6, v7, v8, v9, v10] k s = (rn_3_widthTwice ns ct R K n 64 [v0, v1, v2, v3, v4, .inr (.inl (true, z)), v6, v7, v8, v9, v10] (.inr (.inl (true, z)) :: k) s) := rfl
theorem rx_3_widthTwice_64 {ns n ct R K s L k a b x y} : rn_3_widthTwice ns ct R K (n + 1) 64 L (.inr (.inl (b, y)) :: .inr (.inl (a, x)) :: k) s = (sy_rl a x ∧ sy_rl b y ∧ rn_3_widthTwice ns ct R K n 65 L (.inl (true, sy_cmp x y) :: k) s) := rfl
theorem rx_3_widthTwice_65 {ns n ct R K s L k a x} : rn_3_widthTwice ns ct R K (n + 1) 65 L (.inl (a, x) :: k) s = (sy_ri a x ∧ (0 < x → rn_3_widthTwice ns ct R K n 75 L k s) ∧ (¬ 0 < x → rn_3_widthTwice ns ct R K n 68 L k s)) := rfl
theorem rx_3_widthTwice_68 {ns n ct R K s k z v0 v1 v2 v3 v4 v5 v6 v8 v9 v10} : rn_3_widthTwice ns ct R K (n + 1) 68 [v0, v1, v2, v3, v4, v5, v6, .inl (true, z), v8, v9, v10] k s = (rn_3_widthTwice ns ct R K n 70 [v0, v1, v2, v3, v4, v5, v6, .inl (true, z), v8, v9, v10] (.inl (true, z) :: k) s) := rfl
theorem rx_3_widthTwice_70 {ns n ct R K s k z v0 v1 v2 v3 v4 v5 v6 v7 v9 v10} : rn_3_widthTwice ns ct R K (n + 1) 70 [v0, v1, v2, v3, v4, v5, v6, v7, .inl (true, z), v9, v10] k s = (rn_3_widthTwice ns ct R K n 72 [v0, v1, v2, v3, v4, v5, v6, v7, .inl (true, z), v9, v10] (.inl (true, z) :: k) s) := rfl
theorem rx_3_widthTwice_72 {ns n ct R K s L k a b x y} : rn_3_widthTwice ns ct R K (n + 1) 72 L (.inl (b, y) :: .inl (a, x) :: k) s = (rn_3_widthTwice ns ct R K n 73 L (.inl (false, x + y) :: k) s) := rfl
theorem rx_3_widthTwice_73 {ns n ct R K s L k b z} : rn_3_widthTwice ns ct R K (n + 1) 73 L (.inl (b, z) :: k) s = (sy_ri b z ∧ 7 < L.length ∧ rn_3_widthTwice ns ct R K n 75 (sy_sto L 7 (.inl (true, z))) k s) := rfl
theorem rx_3_widthTwice_75 {ns n ct R K s k z v0 v1 v2 v3 v4 v5 v6 v7 v9 v10} : rn_3_widthTwice ns ct R K (n + 1) 75 [v0, v1, v2, v3, v4, v5, v6, v7, .inl (true, z), v9, v10] k s = (rn_3_widthTwice ns ct R K n 77 [v0, v1, v2, v3, v4, v5, v6, v7, .inl (true, z), v9, v10] (.inl (true, z) :: k) s) := rfl
theorem rx_3_widthTwice_77 {ns n ct R K s L k} : rn_3_widthTwice ns ct R K (n + 1) 77 L k s = (rn_3_widthTwice ns ct R K n 78 L (.inl (true, 1) :: k) s) := rfl
theorem rx_3_widthTwice_78 {ns n ct R K s L k a b x y} : rn_3_widthTwice ns ct R K (n + 1) 78 L (.inl (b, y) :: .inl (a, x) :: k) s = (rn_3_widthTwice ns ct R K n 79 L (.inl (true, (Int32.ofInt x >>> (Int32.ofInt y &&& 31)).toInt) :: k) s) := rfl
theorem rx_3_widthTwice_79 {ns n ct R K s L k b z} : rn_3_widthTwice ns ct R K (n + 1) 79 L (.inl (b, z) :: k) s = (sy_ri b z ∧ 8 < L.length ∧ rn_3_widthTwice ns ct R K n 81 (sy_sto L 8 (.inl (true, z))) k s) := rfl
theorem rx_3_widthTwice_81 {ns n ct R K s L k} : rn_3_widthTwice ns ct R K (n + 1) 81 L k s = (K 42 L k s) := rfl
theorem rx_3_widthTwice_84 {ns n ct R K s k z v0 v1 v2 v3 v4 v5 v6 v8 v9 v10} : rn_3_widthTwice ns ct R K (n + 1) 84 [v0, v1, v2, v3, v4, v5, v6, .inl (true, z), v8, v9, v10] k s = (rn_3_widthTwice ns ct R K n 86 [v0, v1, v2, v3, v4, v5, v6, .inl (true, z), v8, v9, v10] (.inl (true, z) :: k) s) := rfl
theorem rx_3_widthTwice_86 {ns n ct R K s L k a x} : rn_3_widthTwice ns ct R K (n + 1) 86 L (.inl (a, x) :: k) s = (sy_ri a x ∧ rn_3_widthTwice ns ct R K n 87 L (.inr (.inl (true, x)) :: k) s) := rfl
theorem rx_3_widthTwice_87 {ns n ct R K s k z v0 v1 v2 v3 v4 v5 v6 v8 v9 v10} : rn_3_widthTwice ns ct R K (n + 1) 87 [v0, v1, v2, v3, v4, v5, v6, .inl (true, z), v8, v9, v10] k s = (rn_3_widthTwice ns ct R K n 89 [v0, v1, v2, v3, v4, v5, v6, .inl (true, z), v8, v9, v10] (.inl (true, z) :: k) s) := rfl
theorem rx_3_widthTwice_89 {ns n ct R K s L k a x} : rn_3_widthTwice ns ct R K (n + 1) 89 L (.inl (a, x) :: k) s = (sy_ri a x ∧ rn_3_widthTwice ns ct R K n 90 L (.inr (.inl (true, x)) :: k) s) := rfl
theorem rx_3_widthTwice_90 {ns n ct R K s L k a b x y} : rn_3_widthTwice ns ct R K (n + 1) 90 L (.inr (.inl (b, y)) :: .inr (.inl (a, x)) :: k) s = (rn_3_widthTwice ns ct R K n 91 L (.inr (.inl (false, x * y)) :: k) s) := rfl
theorem rx_3_widthTwice_91 {ns n ct R K s k z v0 v1 v2 v4 v5 v6 v7 v8 v9 v10} : rn_3_widthTwice ns ct R K (n + 1) 91 [v0, v1, v2, .inr (.inl (true, z)), v4, v5, v6, v7, v8, v9, v10] k s = (rn_3_widthTwice ns ct R K n 92 [v0, v1, v2, .inr (.inl (true, z)), v4, v5, v6, v7, v8, v9, v10] (.inr (.inl (true, z)) :: k) s) := rfl
theorem rx_3_widthTwice_92 {ns n ct R K s L k a b x y} : rn_3_widthTwice ns ct R K (n + 1) 92 L (.inr (.inl (b, y)) :: .inr (.inl (a, x)) :: k) s = (rn_3_widthTwice ns ct R K n 93 L (.inr (.inl (false, x * y)) :: k) s) := rfl
theorem rx_3_widthTwice_93 {ns n ct R K s k z v0 v1 v2 v3 v4 v6 v7 v8 v9 v10} : rn_3_widthTwice ns ct R K (n + 1) 93 [v0, v1, v2, v3, v4, .inr (.inl (true, z)), v6, v7, v8, v9, v10] k s = (rn_3_widthTwice ns ct R K n 95 [v0, v1, v2, v3, v4, .inr (.inl (true, z)), v6, v7, v8, v9, v10] (.inr (.inl (true, z)) :: k) s) := rfl
theorem rx_3_widthTwice_95 {ns n ct R K s L k a b x y} : rn_3_widthTwice ns ct R K (n + 1) 95 L (.inr (.inl (b, y)) :: .inr (.inl (a, x)) :: k) s = (sy_rl a x ∧ sy_rl b y ∧ rn_3_widthTwice ns ct R K n 96 L (.inl (true, sy_cmp x y) :: k) s) := rfl
theorem rx_3_widthTwice_96 {ns n ct R K s L k a x} : rn_3_widthTwice ns ct R K (n + 1) 96 L (.inl (a, x) :: k) s = (sy_ri a x ∧ (¬ x = 0 → rn_3_widthTwice ns ct R K n 106 L k s) ∧ (x = 0 → rn_3_widthTwice ns ct R K n 99 L k s)) := rfl
theorem rx_3_widthTwice_99 {ns n ct R K s L k} : rn_3_widthTwice ns ct R K (n + 1) 99 L k s = (rn_3_widthTwice ns ct R K n 100 L (.inl (true, 2) :: k) s) := rfl
theorem rx_3_widthTwice_100 {ns n ct R K s k z v0 v1 v2 v3 v4 v5 v6 v8 v9 v10} : rn_3_widthTwice ns ct R K (n + 1) 100 [v0, v1, v2, v3, v4, v5, v6, .inl (true, z), v8, v9, v10] k s = (rn_3_widthTwice ns ct R K n 102 [v0, v1, v2, v3, v4, v5, v6, .inl (true, z), v8, v9, v10] (.inl (true, z) :: k) s) := rfl
theorem rx_3_widthTwice_102 {ns n ct R K s L k a b x y} : rn_3_widthTwice ns ct R K (n + 1) 102 L (.inl (b, y) :: .inl (a, x) :: k) s = (rn_3_widthTwice ns ct R K n 103 L (.inl (false, x * y) :: k) s) := rfl
theorem rx_3_widthTwice_103 {ns n ct R K s L k} : rn_3_widthTwice ns ct R K (n + 1) 103 L k s = (rn_3_widthTwice ns ct R K n 112 L k s) := rfl
theorem rx_3_widthTwice_106 {ns n ct R K s L k} : rn_3_widthTwice ns ct R K (n + 1) 106 L k s = (rn_3_widthTwice ns ct R K n 107 L (.inl (true, 2) :: k) s) := rfl
theorem rx_3_widthTwice_107 {ns n ct R K s k z v0 v1 v2 v3 v4 v5 v6 v8 v9 v10} : rn_3_widthTwice ns ct R K (n + 1) 107 [v0, v1, v2, v3, v4, v5, v6, .inl (true, z), v8, v9, v10] k s = (rn_3_widthTwice ns ct R K n 109 [v0, v1, v2, v3, v4, v5, v6, .inl (true, z), v8, v9, v10] (.inl (true, z) :: k) s) := rfl
theorem rx_3_widthTwice_109 {ns n ct R K s L k a b x y} : rn_3_widthTwice ns ct R K (n + 1) 109 L (.inl (b, y) :: .inl (a, x) :: k) s = (rn_3_widthTwice ns ct R K n 110 L (.inl (false, x * y) :: k) s) := rfl
theorem rx_3_widthTwice_110 {ns n ct R K s L k} : rn_3_widthTwice ns ct R K (n + 1) 110 L k s = (rn_3_widthTwice ns ct R K n 111 L (.inl (true, 1) :: k) s) := rfl
theorem rx_3_widthTwice_111 {ns n ct R K s L k a b x y} : rn_3_widthTwice ns ct R K (n + 1) 111 L (.inl (b, y) :: .inl (a, x) :: k) s = (rn_3_widthTwice ns ct R K n 112 L (.inl (false, x + y) :: k) s) := rfl
theorem rx_3_widthTwice_112 {ns n ct R K s L a z} : rn_3_widthTwice ns ct R K (n + 1) 112 L [.inl (a, z)] s = (sy_ri a z ∧ sy_b01 false z ∧ R (some (.inl (true, z))) s) := rfl
def y_3_isFirst : MethodName := ⟨"StarHide$Net", "isFirst", "(II)Z"⟩
abbrev c_3_isFirst : ByteArray := prog_5_method_10_code
def tc_3_isFirst (pc : Nat) : Option sy_I := match pc with
  | 0 => some (.iload_n 0, 1, 0)
  | 1 => some (.ifCond .ne 14, 4, 15)
  | 4 => some (.iload_n 1, 5, 0)
  | 5 => some (.sipush (-15000), 8, 0)
  | 8 => some (.sipush 15000, 11, 0)
  | 11 => some (.invokestatic 36, 14, 0)
  | 14 => some (.ireturn, 15, 0)
  | 15 => some (.iload_n 0, 16, 0)
  | 16 => some (.iconst 1, 17, 0)
  | 17 => some (.if_icmp .ne 10, 20, 27)
  | 20 => some (.iload_n 1, 21, 0)
  | 21 => some (.invokestatic 75, 24, 0)
  | 24 => some (.goto 11, 27, 35)
  | 27 => some (.iload_n 1, 28, 0)
  | 28 => some (.iconst 1, 29, 0)
  | 29 => some (.sipush 2000, 32, 0)
  | 32 => some (.invokestatic 36, 35, 0)
  | 35 => some (.ireturn, 36, 0)
  | _ => none
theorem tv_3_isFirst : ∀ pc i, sy_lk 36 tc_3_isFirst pc = some i → sy_chk c_3_isFirst (some .boolean) true pc i = true := sy_lk_ok 36 tc_3_isFirst (by decide +kernel)
def Mk_3_isFirst (ct : Nat → Option (Bool × Nat × sy_Sp)) : sy_M := (sy_lk 36 tc_3_isFirst, ff_3, ki_3, kl_3, ct, true)
def rn_3_isFirst (ns : Nat) (ct : Nat → Option (Bool × Nat × sy_Sp)) (R : sy_R) (K : sy_K) : Nat → sy_K := sy_run ns (Mk_3_isFirst ct) [] R K
theorem rx_3_isFirst_0 {ns n ct R K s k z v1} : rn_3_isFirst ns ct R K (n + 1) 0 [.inl (true, z), v1] k s = (rn_3_isFirst ns ct R K n 1 [.inl (true, z), v1] (.inl (true, z) :: k) s) := rfl
theorem rx_3_isFirst_1 {ns n ct R K s L k a x} : rn_3_isFirst ns ct R K (n + 1) 1 L (.inl (a, x) :: k) s = (sy_ri a x ∧ (¬ x = 0 → rn_3_isFirst ns ct R K n 15 L k s) ∧ (x = 0 → rn_3_isFirst ns ct R K n 4 L k s)) := rfl
theorem rx_3_isFirst_4 {ns n ct R K s k z v0} : rn_3_isFirst ns ct R K (n + 1) 4 [v0, .inl (true, z)] k s = (rn_3_isFirst ns ct R K n 5 [v0, .inl (true, z)] (.inl (true, z) :: k) s) := rfl
theorem rx_3_isFirst_5 {ns n ct R K s L k} : rn_3_isFirst ns ct R K (n + 1) 5 L k s = (rn_3_isFirst ns ct R K n 8 L (.inl (true, (-15000)) :: k) s) := rfl
theorem rx_3_isFirst_8 {ns n ct R K s L k} : rn_3_isFirst ns ct R K (n + 1) 8 L k s = (rn_3_isFirst ns ct R K n 11 L (.inl (true, 15000) :: k) s) := rfl
theorem rx_3_isFirst_11 {ns n ct R K s L k} : rn_3_isFirst ns ct R K (n + 1) 11 L k s = (sy_call true (ct 36) k s fun r t => rn_3_isFirst ns ct R K n 14 L r t) := rfl
theorem rx_3_isFirst_14 {ns n ct R K s L a z} : rn_3_isFirst ns ct R K (n + 1) 14 L [.inl (a, z)] s = (sy_ri a z ∧ sy_b01 true z ∧ R (some (.inl (true, z))) s) := rfl
theorem rx_3_isFirst_15 {ns n ct R K s k z v1} : rn_3_isFirst ns ct R K (n + 1) 15 [.inl (true, z), v1] k s = (rn_3_isFirst ns ct R K n 16 [.inl (true, z), v1] (.inl (true, z) :: k) s) := rfl
theorem rx_3_isFirst_16 {ns n ct R K s L k} : rn_3_isFirst ns ct R K (n + 1) 16 L k s = (rn_3_isFirst ns ct R K n 17 L (.inl (true, 1) :: k) s) := rfl
theorem rx_3_isFirst_17 {ns n ct R K s L k a b x y} : rn_3_isFirst ns ct R K (n + 1) 17 L (.inl (b, y) :: .inl (a, x) :: k) s = (sy_ri a x ∧ sy_ri b y ∧ (¬ x = y → rn_3_isFirst ns ct R K n 27 L k s) ∧ (x = y → rn_3_isFirst ns ct R K n 20 L k s)) := rfl
theorem rx_3_isFirst_20 {ns n ct R K s k z v0} : rn_3_isFirst ns ct R K (n + 1) 20 [v0, .inl (true, z)] k s = (rn_3_isFirst ns ct R K n 21 [v0, .inl (true, z)] (.inl (true, z) :: k) s) := rfl
theorem rx_3_isFirst_21 {ns n ct R K s L k} : rn_3_isFirst ns ct R K (n + 1) 21 L k s = (sy_call true (ct 75) k s fun r t => rn_3_isFirst ns ct R K n 24 L r t) := rfl
theorem rx_3_isFirst_24 {ns n ct R K s L k} : rn_3_isFirst ns ct R K (n + 1) 24 L k s = (rn_3_isFirst ns ct R K n 35 L k s) := rfl
theorem rx_3_isFirst_27 {ns n ct R K s k z v0} : rn_3_isFirst ns ct R K (n + 1) 27 [v0, .inl (true, z)] k s = (rn_3_isFirst ns ct R K n 28 [v0, .inl (true, z)] (.inl (true, z) :: k) s) := rfl
theorem rx_3_isFirst_28 {ns n ct R K s L k} : rn_3_isFirst ns ct R K (n + 1) 28 L k s = (rn_3_isFirst ns ct R K n 29 L (.inl (true, 1) :: k) s) := rfl
theorem rx_3_isFirst_29 {ns n ct R K s L k} : rn_3_isFirst ns ct R K (n + 1) 29 L k s = (rn_3_isFirst ns ct R K n 32 L (.inl (true, 2000) :: k) s) := rfl
theorem rx_3_isFirst_32 {ns n ct R K s L k} : rn_3_isFirst ns ct R K (n + 1) 32 L k s = (sy_call true (ct 36) k s fun r t => rn_3_isFirst ns ct R K n 35 L r t) := rfl
theorem rx_3_isFirst_35 {ns n ct R K s L a z} : rn_3_isFirst ns ct R K (n + 1) 35 L [.inl (a, z)] s = (sy_ri a z ∧ sy_b01 true z ∧ R (some (.inl (true, z))) s) := rfl
def y_4_init : MethodName := ⟨"StarHide$Planner", "<init>", "(LStarHide$Sites;)V"⟩
abbrev c_4_init : ByteArray := prog_6_method_1_code
def y_4_chosenAt : MethodName := ⟨"StarHide$Planner", "chosenAt", "(I)I"⟩
abbrev c_4_chosenAt : ByteArray := prog_6_method_2_code
def tc_4_chosenAt (pc : Nat) : Option sy_I := match pc with
  | 0 => some (.iload_n 1, 1, 0)
  | 1 => some (.ifCond .lt 11, 4, 12)
  | 4 => some (.iload_n 1, 5, 0)
  | 5 => some (.aload_n 0, 6, 0)
  | 6 => some (.getfield 28, 9, 0)
  | 9 => some (.if_icmp .lt 7, 12, 16)
  | 12 => some (.iconst (-1), 13, 0)
  | 13 => some (.goto 9, 16, 22)
  | 16 => some (.aload_n 0, 17, 0)
  | 17 => some (.getfield 21, 20, 0)
  | 20 => some (.iload_n 1, 21, 0)
  | 21 => some (.iaload, 22, 0)
  | 22 => some (.ireturn, 23, 0)
  | _ => none
theorem tv_4_chosenAt : ∀ pc i, sy_lk 23 tc_4_chosenAt pc = some i → sy_chk c_4_chosenAt (some .int) false pc i = true := sy_lk_ok 23 tc_4_chosenAt (by decide +kernel)
def Mk_4_chosenAt (ct : Nat → Option (Bool × Nat × sy_Sp)) : sy_M := (sy_lk 23 tc_4_chosenAt, ff_4, ki_4, kl_4, ct, false)
def rn_4_chosenAt (ns : Nat) (ct : Nat → Option (Bool × Nat × sy_Sp)) (R : sy_R) (K : sy_K) : Nat → sy_K := sy_run ns (Mk_4_chosenAt ct) [] R K
theorem rx_4_chosenAt_0 {ns n ct R K s k z v0} : rn_4_chosenAt ns ct R K (n + 1) 0 [v0, .inl (true, z)] k s = (rn_4_chosenAt ns ct R K n 1 [v0, .inl (true, z)] (.inl (true, z) :: k) s) := rfl
theorem rx_4_chosenAt_1 {ns n ct R K s L k a x} : rn_4_chosenAt ns ct R K (n + 1) 1 L (.inl (a, x) :: k) s = (sy_ri a x ∧ (x < 0 → rn_4_chosenAt ns ct R K n 12 L k s) ∧ (¬ x < 0 → rn_4_chosenAt ns ct R K n 4 L k s)) := rfl
theorem rx_4_chosenAt_4 {ns n ct R K s k z v0} : rn_4_chosenAt ns ct R K (n + 1) 4 [v0, .inl (true, z)] k s = (rn_4_chosenAt ns ct R K n 5 [v0, .inl (true, z)] (.inl (true, z) :: k) s) := rfl
theorem rx_4_chosenAt_5 {ns n ct R K s k z v1} : rn_4_chosenAt ns ct R K (n + 1) 5 [.inr (.inr (some z)), v1] k s = (rn_4_chosenAt ns ct R K n 6 [.inr (.inr (some z)), v1] (.inr (.inr (some z)) :: k) s) := rfl
theorem rx_4_chosenAt_6 {ns n ct R K s L k a} : rn_4_chosenAt ns ct R K (n + 1) 6 L (.inr (.inr (some (some a))) :: k) s = (sy_ob a = some 4 ∧ rn_4_chosenAt ns ct R K n 9 L (sy_fv s a 6 :: k) s) := rfl
theorem rx_4_chosenAt_9 {ns n ct R K s L k a b x y} : rn_4_chosenAt ns ct R K (n + 1) 9 L (.inl (b, y) :: .inl (a, x) :: k) s = (sy_ri a x ∧ sy_ri b y ∧ (x < y → rn_4_chosenAt ns ct R K n 16 L k s) ∧ (¬ x < y → rn_4_chosenAt ns ct R K n 12 L k s)) := rfl
theorem rx_4_chosenAt_12 {ns n ct R K s L k} : rn_4_chosenAt ns ct R K (n + 1) 12 L k s = (rn_4_chosenAt ns ct R K n 13 L (.inl (true, (-1)) :: k) s) := rfl
theorem rx_4_chosenAt_13 {ns n ct R K s L k} : rn_4_chosenAt ns ct R K (n + 1) 13 L k s = (rn_4_chosenAt ns ct R K n 22 L k s) := rfl
theorem rx_4_chosenAt_16 {ns n ct R K s k z v1} : rn_4_chosenAt ns ct R K (n + 1) 16 [.inr (.inr (some z)), v1] k s = (rn_4_chosenAt ns ct R K n 17 [.inr (.inr (some z)), v1] (.inr (.inr (some z)) :: k) s) := rfl
theorem rx_4_chosenAt_17 {ns n ct R K s L k a} : rn_4_chosenAt ns ct R K (n + 1) 17 L (.inr (.inr (some (some a))) :: k) s = (sy_ob a = some 4 ∧ rn_4_chosenAt ns ct R K n 20 L (sy_fv s a 5 :: k) s) := rfl
theorem rx_4_chosenAt_20 {ns n ct R K s k z v0} : rn_4_chosenAt ns ct R K (n + 1) 20 [v0, .inl (true, z)] k s = (rn_4_chosenAt ns ct R K n 21 [v0, .inl (true, z)] (.inl (true, z) :: k) s) := rfl
theorem rx_4_chosenAt_21 {ns n ct R K s L k a b z} : rn_4_chosenAt ns ct R K (n + 1) 21 L (.inl (b, z) :: .inr (.inr (some (some a))) :: k) s = ((0 ≤ z ∧ z < (sy_ar a).2) ∧ sy_ob a = none ∧ (sy_ar a).1 = 0 ∧ rn_4_chosenAt ns ct R K n 22 L (.inl (true, s a z.toNat) :: k) s) := rfl
theorem rx_4_chosenAt_22 {ns n ct R K s L a z} : rn_4_chosenAt ns ct R K (n + 1) 22 L [.inl (a, z)] s = (sy_ri a z ∧ sy_b01 false z ∧ R (some (.inl (true, z))) s) := rfl
def y_4_choose : MethodName := ⟨"StarHide$Planner", "choose", "(III)I"⟩
abbrev c_4_choose : ByteArray := prog_6_method_3_code
def tc_4_choose (pc : Nat) : Option sy_I := match pc with
  | 0 => some (.aload_n 0, 1, 0)
  | 1 => some (.iload_n 2, 2, 0)
  | 2 => some (.iload_n 3, 3, 0)
  | 3 => some (.invokevirtual 32, 6, 0)
  | 6 => some (.iload_n 1, 7, 0)
  | 7 => some (.iconst 1, 8, 0)
  | 8 => some (.if_icmp .lt 11, 11, 19)
  | 11 => some (.iload_n 1, 12, 0)
  | 12 => some (.aload_n 0, 13, 0)
  | 13 => some (.getfield 36, 16, 0)
  | 16 => some (.if_icmp .le 5, 19, 21)
  | 19 => some (.iconst (-1), 20, 0)
  | 20 => some (.ireturn, 21, 0)
  | 21 => some (.aload_n 0, 22, 0)
  | 22 => some (.iload_n 1, 23, 0)
  | 23 => some (.iload_n 3, 24, 0)
  | 24 => some (.invokevirtual 39, 27, 0)
  | 27 => some (.aload_n 0, 28, 0)
  | 28 => some (.iconst 0, 29, 0)
  | 29 => some (.iload_n 2, 30, 0)
  | 30 => some (.iload_n 1, 31, 0)
  | 31 => some (.iconst 1, 32, 0)
  | 32 => some (.isub, 33, 0)
  | 33 => some (.invokevirtual 42, 36, 0)
  | 36 => some (.istore 4, 38, 0)
  | 38 => some (.aload_n 0, 39, 0)
  | 39 => some (.iload_n 1, 40, 0)
  | 40 => some (.iload_n 2, 41, 0)
  | 41 => some (.iload 4, 43, 0)
  | 43 => some (.invokevirtual 46, 46, 0)
  | 46 => some (.iload 4, 48, 0)
  | 48 => some (.ireturn, 49, 0)
  | _ => none
theorem tv_4_choose : ∀ pc i, sy_lk 49 tc_4_choose pc = some i → sy_chk c_4_choose (some .int) false pc i = true := sy_lk_ok 49 tc_4_choose (by decide +kernel)
def Mk_4_choose (ct : Nat → Option (Bool × Nat × sy_Sp)) : sy_M := (sy_lk 49 tc_4_choose, ff_4, ki_4, kl_4, ct, false)
def rn_4_choose (ns : Nat) (ct : Nat → Option (Bool × Nat × sy_Sp)) (R : sy_R) (K : sy_K) : Nat → sy_K := sy_run ns (Mk_4_choose ct) [] R K
theorem rx_4_choose_0 {ns n ct R K s k z v1 v2 v3 v4} : rn_4_choose ns ct R K (n + 1) 0 [.inr (.inr (some z)), v1, v2, v3, v4] k s = (rn_4_choose ns ct R K n 1 [.inr (.inr (some z)), v1, v2, v3, v4] (.inr (.inr (some z)) :: k) s) := rfl
theorem rx_4_choose_1 {ns n ct R K s k z v0 v1 v3 v4} : rn_4_choose ns ct R K (n + 1) 1 [v0, v1, .inl (true, z), v3, v4] k s = (rn_4_choose ns ct R K n 2 [v0, v1, .inl (true, z), v3, v4] (.inl (true, z) :: k) s) := rfl
theorem rx_4_choose_2 {ns n ct R K s k z v0 v1 v2 v4} : rn_4_choose ns ct R K (n + 1) 2 [v0, v1, v2, .inl (true, z), v4] k s = (rn_4_choose ns ct R K n 3 [v0, v1, v2, .inl (true, z), v4] (.inl (true, z) :: k) s) := rfl
theorem rx_4_choose_3 {ns n ct R K s L k} : rn_4_choose ns ct R K (n + 1) 3 L k s = (sy_call false (ct 32) k s fun r t => rn_4_choose ns ct R K n 6 L r t) := rfl
theorem rx_4_choose_6 {ns n ct R K s k z v0 v2 v3 v4} : rn_4_choose ns ct R K (n + 1) 6 [v0, .inl (true, z), v2, v3, v4] k s = (rn_4_choose ns ct R K n 7 [v0, .inl (true, z), v2, v3, v4] (.inl (true, z) :: k) s) := rfl
theorem rx_4_choose_7 {ns n ct R K s L k} : rn_4_choose ns ct R K (n + 1) 7 L k s = (rn_4_choose ns ct R K n 8 L (.inl (true, 1) :: k) s) := rfl
theorem rx_4_choose_8 {ns n ct R K s L k a b x y} : rn_4_choose ns ct R K (n + 1) 8 L (.inl (b, y) :: .inl (a, x) :: k) s = (sy_ri a x ∧ sy_ri b y ∧ (x < y → rn_4_choose ns ct R K n 19 L k s) ∧ (¬ x < y → rn_4_choose ns ct R K n 11 L k s)) := rfl
theorem rx_4_choose_11 {ns n ct R K s k z v0 v2 v3 v4} : rn_4_choose ns ct R K (n + 1) 11 [v0, .inl (true, z), v2, v3, v4] k s = (rn_4_choose ns ct R K n 12 [v0, .inl (true, z), v2, v3, v4] (.inl (true, z) :: k) s) := rfl
theorem rx_4_choose_12 {ns n ct R K s k z v1 v2 v3 v4} : rn_4_choose ns ct R K (n + 1) 12 [.inr (.inr (some z)), v1, v2, v3, v4] k s = (rn_4_choose ns ct R K n 13 [.inr (.inr (some z)), v1, v2, v3, v4] (.inr (.inr (some z)) :: k) s) := rfl
theorem rx_4_choose_13 {ns n ct R K s L k a} : rn_4_choose ns ct R K (n + 1) 13 L (.inr (.inr (some (some a))) :: k) s = (sy_ob a = some 4 ∧ rn_4_choose ns ct R K n 16 L (sy_fv s a 3 :: k) s) := rfl
theorem rx_4_choose_16 {ns n ct R K s L k a b x y} : rn_4_choose ns ct R K (n + 1) 16 L (.inl (b, y) :: .inl (a, x) :: k) s = (sy_ri a x ∧ sy_ri b y ∧ (x ≤ y → rn_4_choose ns ct R K n 21 L k s) ∧ (¬ x ≤ y → rn_4_choose ns ct R K n 19 L k s)) := rfl
theorem rx_4_choose_19 {ns n ct R K s L k} : rn_4_choose ns ct R K (n + 1) 19 L k s = (rn_4_choose ns ct R K n 20 L (.inl (true, (-1)) :: k) s) := rfl
theorem rx_4_choose_20 {ns n ct R K s L a z} : rn_4_choose ns ct R K (n + 1) 20 L [.inl (a, z)] s = (sy_ri a z ∧ sy_b01 false z ∧ R (some (.inl (true, z))) s) := rfl
theorem rx_4_choose_21 {ns n ct R K s k z v1 v2 v3 v4} : rn_4_choose ns ct R K (n + 1) 21 [.inr (.inr (some z)), v1, v2, v3, v4] k s = (rn_4_choose ns ct R K n 22 [.inr (.inr (some z)), v1, v2, v3, v4] (.inr (.inr (some z)) :: k) s) := rfl
theorem rx_4_choose_22 {ns n ct R K s k z v0 v2 v3 v4} : rn_4_choose ns ct R K (n + 1) 22 [v0, .inl (true, z), v2, v3, v4] k s = (rn_4_choose ns ct R K n 23 [v0, .inl (true, z), v2, v3, v4] (.inl (true, z) :: k) s) := rfl
theorem rx_4_choose_23 {ns n ct R K s k z v0 v1 v2 v4} : rn_4_choose ns ct R K (n + 1) 23 [v0, v1, v2, .inl (true, z), v4] k s = (rn_4_choose ns ct R K n 24 [v0, v1, v2, .inl (true, z), v4] (.inl (true, z) :: k) s) := rfl
theorem rx_4_choose_24 {ns n ct R K s L k} : rn_4_choose ns ct R K (n + 1) 24 L k s = (sy_call false (ct 39) k s fun r t => rn_4_choose ns ct R K n 27 L r t) := rfl
theorem rx_4_choose_27 {ns n ct R K s k z v1 v2 v3 v4} : rn_4_choose ns ct R K (n + 1) 27 [.inr (.inr (some z)), v1, v2, v3, v4] k s = (rn_4_choose ns ct R K n 28 [.inr (.inr (some z)), v1, v2, v3, v4] (.inr (.inr (some z)) :: k) s) := rfl
theorem rx_4_choose_28 {ns n ct R K s L k} : rn_4_choose ns ct R K (n + 1) 28 L k s = (rn_4_choose ns ct R K n 29 L (.inl (true, 0) :: k) s) := rfl
theorem rx_4_choose_29 {ns n ct R K s k z v0 v1 v3 v4} : rn_4_choose ns ct R K (n + 1) 29 [v0, v1, .inl (true, z), v3, v4] k s = (rn_4_choose ns ct R K n 30 [v0, v1, .inl (true, z), v3, v4] (.inl (true, z) :: k) s) := rfl
theorem rx_4_choose_30 {ns n ct R K s k z v0 v2 v3 v4} : rn_4_choose ns ct R K (n + 1) 30 [v0, .inl (true, z), v2, v3, v4] k s = (rn_4_choose ns ct R K n 31 [v0, .inl (true, z), v2, v3, v4] (.inl (true, z) :: k) s) := rfl
theorem rx_4_choose_31 {ns n ct R K s L k} : rn_4_choose ns ct R K (n + 1) 31 L k s = (rn_4_choose ns ct R K n 32 L (.inl (true, 1) :: k) s) := rfl
theorem rx_4_choose_32 {ns n ct R K s L k a b x y} : rn_4_choose ns ct R K (n + 1) 32 L (.inl (b, y) :: .inl (a, x) :: k) s = (rn_4_choose ns ct R K n 33 L (.inl (false, x - y) :: k) s) := rfl
theorem rx_4_choose_33 {ns n ct R K s L k} : rn_4_choose ns ct R K (n + 1) 33 L k s = (sy_call false (ct 42) k s fun r t => rn_4_choose ns ct R K n 36 L r t) := rfl
theorem rx_4_choose_36 {ns n ct R K s L k b z} : rn_4_choose ns ct R K (n + 1) 36 L (.inl (b, z) :: k) s = (sy_ri b z ∧ 4 < L.length ∧ rn_4_choose ns ct R K n 38 (sy_sto L 4 (.inl (true, z))) k s) := rfl
theorem rx_4_choose_38 {ns n ct R K s k z v1 v2 v3 v4} : rn_4_choose ns ct R K (n + 1) 38 [.inr (.inr (some z)), v1, v2, v3, v4] k s = (rn_4_choose ns ct R K n 39 [.inr (.inr (some z)), v1, v2, v3, v4] (.inr (.inr (some z)) :: k) s) := rfl
theorem rx_4_choose_39 {ns n ct R K s k z v0 v2 v3 v4} : rn_4_choose ns ct R K (n + 1) 39 [v0, .inl (true, z), v2, v3, v4] k s = (rn_4_choose ns ct R K n 40 [v0, .inl (true, z), v2, v3, v4] (.inl (true, z) :: k) s) := rfl
theorem rx_4_choose_40 {ns n ct R K s k z v0 v1 v3 v4} : rn_4_choose ns ct R K (n + 1) 40 [v0, v1, .inl (true, z), v3, v4] k s = (rn_4_choose ns ct R K n 41 [v0, v1, .inl (true, z), v3, v4] (.inl (true, z) :: k) s) := rfl
theorem rx_4_choose_41 {ns n ct R K s k z v0 v1 v2 v3} : rn_4_choose ns ct R K (n + 1) 41 [v0, v1, v2, v3, .inl (true, z)] k s = (rn_4_choose ns ct R K n 43 [v0, v1, v2, v3, .inl (true, z)] (.inl (true, z) :: k) s) := rfl
theorem rx_4_choose_43 {ns n ct R K s L k} : rn_4_choose ns ct R K (n + 1) 43 L k s = (sy_call false (ct 46) k s fun r t => rn_4_choose ns ct R K n 46 L r t) := rfl
theorem rx_4_choose_46 {ns n ct R K s k z v0 v1 v2 v3} : rn_4_choose ns ct R K (n + 1) 46 [v0, v1, v2, v3, .inl (true, z)] k s = (rn_4_choose ns ct R K n 48 [v0, v1, v2, v3, .inl (true, z)] (.inl (true, z) :: k) s) := rfl
theorem rx_4_choose_48 {ns n ct R K s L a z} : rn_4_choose ns ct R K (n + 1) 48 L [.inl (a, z)] s = (sy_ri a z ∧ sy_b01 false z ∧ R (some (.inl (true, z))) s) := rfl
def y_4_gather : MethodName := ⟨"StarHide$Planner", "gather", "(II)V"⟩
abbrev c_4_gather : ByteArray := prog_6_method_4_code
def tc_4_gather (pc : Nat) : Option sy_I := match pc with
  | 0 => some (.aload_n 0, 1, 0)
  | 1 => some (.iconst 0, 2, 0)
  | 2 => some (.putfield 36, 5, 0)
  | 5 => some (.iconst 0, 6, 0)
  | 6 => some (.istore_n 3, 7, 0)
  | 7 => some (.iload_n 3, 8, 0)
  | 8 => some (.aload_n 0, 9, 0)
  | 9 => some (.getfield 24, 12, 0)
  | 12 => some (.getfield 50, 15, 0)
  | 15 => some (.if_icmp .ge 53, 18, 68)
  | 18 => some (.iload_n 3, 19, 0)
  | 19 => some (.bipush 16, 21, 0)
  | 21 => some (.if_icmp .ge 47, 24, 68)
  | 24 => some (.aload_n 0, 25, 0)
  | 25 => some (.getfield 24, 28, 0)
  | 28 => some (.iload_n 3, 29, 0)
  | 29 => some (.invokevirtual 55, 32, 0)
  | 32 => some (.astore 4, 34, 0)
  | 34 => some (.aload 4, 36, 0)
  | 36 => some (.ifnull 26, 39, 62)
  | 39 => some (.aload 4, 41, 0)
  | 41 => some (.getfield 59, 44, 0)
  | 44 => some (.iload_n 1, 45, 0)
  | 45 => some (.iload_n 2, 46, 0)
  | 46 => some (.invokestatic 64, 49, 0)
  | 49 => some (.ifCond .eq 13, 52, 62)
  | 52 => some (.aload_n 0, 53, 0)
  | 53 => some (.iload_n 3, 54, 0)
  | 54 => some (.aload 4, 56, 0)
  | 56 => some (.getfield 59, 59, 0)
  | 59 => some (.invokevirtual 68, 62, 0)
  | 62 => some (.iinc 3 1, 65, 0)
  | 65 => some (.goto (-58), 68, 7)
  | 68 => some (.return_, 69, 0)
  | _ => none
theorem tv_4_gather : ∀ pc i, sy_lk 69 tc_4_gather pc = some i → sy_chk c_4_gather none false pc i = true := sy_lk_ok 69 tc_4_gather (by decide +kernel)
def Mk_4_gather (ct : Nat → Option (Bool × Nat × sy_Sp)) : sy_M := (sy_lk 69 tc_4_gather, ff_4, ki_4, kl_4, ct, false)
def rn_4_gather (ns : Nat) (ct : Nat → Option (Bool × Nat × sy_Sp)) (R : sy_R) (K : sy_K) : Nat → sy_K := sy_run ns (Mk_4_gather ct) [7] R K
theorem rx_4_gather_0 {ns n ct R K s k z v1 v2 v3 v4} : rn_4_gather ns ct R K (n + 1) 0 [.inr (.inr (some z)), v1, v2, v3, v4] k s = (rn_4_gather ns ct R K n 1 [.inr (.inr (some z)), v1, v2, v3, v4] (.inr (.inr (some z)) :: k) s) := rfl
theorem rx_4_gather_1 {ns n ct R K s L k} : rn_4_gather ns ct R K (n + 1) 1 L k s = (rn_4_gather ns ct R K n 2 L (.inl (true, 0) :: k) s) := rfl
theorem rx_4_gather_2 {ns n ct R K s L k a b z} : rn_4_gather ns ct R K (n + 1) 2 L (.inl (b, z) :: .inr (.inr (some (some a))) :: k) s = (sy_ob a = some 4 ∧ sy_ri b z ∧ sy_b01 false z ∧ rn_4_gather ns ct R K n 5 L k (sy_up s a 3 z)) := rfl
theorem rx_4_gather_5 {ns n ct R K s L k} : rn_4_gather ns ct R K (n + 1) 5 L k s = (rn_4_gather ns ct R K n 6 L (.inl (true, 0) :: k) s) := rfl
theorem rx_4_gather_6 {ns n ct R K s L k b z} : rn_4_gather ns ct R K (n + 1) 6 L (.inl (b, z) :: k) s = (sy_ri b z ∧ 3 < L.length ∧ K 7 (sy_sto L 3 (.inl (true, z))) k s) := rfl
theorem rx_4_gather_7 {ns n ct R K s k z v0 v1 v2 v4} : rn_4_gather ns ct R K (n + 1) 7 [v0, v1, v2, .inl (true, z), v4] k s = (rn_4_gather ns ct R K n 8 [v0, v1, v2, .inl (true, z), v4] (.inl (true, z) :: k) s) := rfl
theorem rx_4_gather_8 {ns n ct R K s k z v1 v2 v3 v4} : rn_4_gather ns ct R K (n + 1) 8 [.inr (.inr (some z)), v1, v2, v3, v4] k s = (rn_4_gather ns ct R K n 9 [.inr (.inr (some z)), v1, v2, v3, v4] (.inr (.inr (some z)) :: k) s) := rfl
theorem rx_4_gather_9 {ns n ct R K s L k a} : rn_4_gather ns ct R K (n + 1) 9 L (.inr (.inr (some (some a))) :: k) s = (sy_ob a = some 4 ∧ rn_4_gather ns ct R K n 12 L (sy_fv s a 0 :: k) s) := rfl
theorem rx_4_gather_12 {ns n ct R K s L k a} : rn_4_gather ns ct R K (n + 1) 12 L (.inr (.inr (some (some a))) :: k) s = (sy_ob a = some 7 ∧ rn_4_gather ns ct R K n 15 L (sy_fv s a 1 :: k) s) := rfl
theorem rx_4_gather_15 {ns n ct R K s L k a b x y} : rn_4_gather ns ct R K (n + 1) 15 L (.inl (b, y) :: .inl (a, x) :: k) s = (sy_ri a x ∧ sy_ri b y ∧ (y ≤ x → rn_4_gather ns ct R K n 68 L k s) ∧ (¬ y ≤ x → rn_4_gather ns ct R K n 18 L k s)) := rfl
theorem rx_4_gather_18 {ns n ct R K s k z v0 v1 v2 v4} : rn_4_gather ns ct R K (n + 1) 18 [v0, v1, v2, .inl (true, z), v4] k s = (rn_4_gather ns ct R K n 19 [v0, v1, v2, .inl (true, z), v4] (.inl (true, z) :: k) s) := rfl
theorem rx_4_gather_19 {ns n ct R K s L k} : rn_4_gather ns ct R K (n + 1) 19 L k s = (rn_4_gather ns ct R K n 21 L (.inl (true, 16) :: k) s) := rfl
theorem rx_4_gather_21 {ns n ct R K s L k a b x y} : rn_4_gather ns ct R K (n + 1) 21 L (.inl (b, y) :: .inl (a, x) :: k) s = (sy_ri a x ∧ sy_ri b y ∧ (y ≤ x → rn_4_gather ns ct R K n 68 L k s) ∧ (¬ y ≤ x → rn_4_gather ns ct R K n 24 L k s)) := rfl
theorem rx_4_gather_24 {ns n ct R K s k z v1 v2 v3 v4} : rn_4_gather ns ct R K (n + 1) 24 [.inr (.inr (some z)), v1, v2, v3, v4] k s = (rn_4_gather ns ct R K n 25 [.inr (.inr (some z)), v1, v2, v3, v4] (.inr (.inr (some z)) :: k) s) := rfl
theorem rx_4_gather_25 {ns n ct R K s L k a} : rn_4_gather ns ct R K (n + 1) 25 L (.inr (.inr (some (some a))) :: k) s = (sy_ob a = some 4 ∧ rn_4_gather ns ct R K n 28 L (sy_fv s a 0 :: k) s) := rfl
theorem rx_4_gather_28 {ns n ct R K s k z v0 v1 v2 v4} : rn_4_gather ns ct R K (n + 1) 28 [v0, v1, v2, .inl (true, z), v4] k s = (rn_4_gather ns ct R K n 29 [v0, v1, v2, .inl (true, z), v4] (.inl (true, z) :: k) s) := rfl
theorem rx_4_gather_29 {ns n ct R K s L k} : rn_4_gather ns ct R K (n + 1) 29 L k s = (sy_call false (ct 55) k s fun r t => rn_4_gather ns ct R K n 32 L r t) := rfl
theorem rx_4_gather_32 {ns n ct R K s L k z} : rn_4_gather ns ct R K (n + 1) 32 L (.inr (.inr (some z)) :: k) s = (4 < L.length ∧ rn_4_gather ns ct R K n 34 (sy_sto L 4 (.inr (.inr (some z)))) k s) := rfl
theorem rx_4_gather_34 {ns n ct R K s k z v0 v1 v2 v3} : rn_4_gather ns ct R K (n + 1) 34 [v0, v1, v2, v3, .inr (.inr (some z))] k s = (rn_4_gather ns ct R K n 36 [v0, v1, v2, v3, .inr (.inr (some z))] (.inr (.inr (some z)) :: k) s) := rfl
theorem rx_4_gather_36_n {ns n ct R K s L k} : rn_4_gather ns ct R K (n + 1) 36 L (.inr (.inr (some none)) :: k) s = (rn_4_gather ns ct R K n 62 L k s) := rfl
theorem rx_4_gather_36 {ns n ct R K s L k a} : rn_4_gather ns ct R K (n + 1) 36 L (.inr (.inr (some (some a))) :: k) s = (rn_4_gather ns ct R K n 39 L k s) := rfl
theorem rx_4_gather_39 {ns n ct R K s k z v0 v1 v2 v3} : rn_4_gather ns ct R K (n + 1) 39 [v0, v1, v2, v3, .inr (.inr (some z))] k s = (rn_4_gather ns ct R K n 41 [v0, v1, v2, v3, .inr (.inr (some z))] (.inr (.inr (some z)) :: k) s) := rfl
theorem rx_4_gather_41 {ns n ct R K s L k a} : rn_4_gather ns ct R K (n + 1) 41 L (.inr (.inr (some (some a))) :: k) s = (sy_ob a = some 6 ∧ rn_4_gather ns ct R K n 44 L (sy_fv s a 0 :: k) s) := rfl
theorem rx_4_gather_44 {ns n ct R K s k z v0 v2 v3 v4} : rn_4_gather ns ct R K (n + 1) 44 [v0, .inl (true, z), v2, v3, v4] k s = (rn_4_gather ns ct R K n 45 [v0, .inl (true, z), v2, v3, v4] (.inl (true, z) :: k) s) := rfl
theorem rx_4_gather_45 {ns n ct R K s k z v0 v1 v3 v4} : rn_4_gather ns ct R K (n + 1) 45 [v0, v1, .inl (true, z), v3, v4] k s = (rn_4_gather ns ct R K n 46 [v0, v1, .inl (true, z), v3, v4] (.inl (true, z) :: k) s) := rfl
theorem rx_4_gather_46 {ns n ct R K s L k} : rn_4_gather ns ct R K (n + 1) 46 L k s = (sy_call true (ct 64) k s fun r t => rn_4_gather ns ct R K n 49 L r t) := rfl
theorem rx_4_gather_49 {ns n ct R K s L k a x} : rn_4_gather ns ct R K (n + 1) 49 L (.inl (a, x) :: k) s = (sy_ri a x ∧ (x = 0 → rn_4_gather ns ct R K n 62 L k s) ∧ (¬ x = 0 → rn_4_gather ns ct R K n 52 L k s)) := rfl
theorem rx_4_gather_52 {ns n ct R K s k z v1 v2 v3 v4} : rn_4_gather ns ct R K (n + 1) 52 [.inr (.inr (some z)), v1, v2, v3, v4] k s = (rn_4_gather ns ct R K n 53 [.inr (.inr (some z)), v1, v2, v3, v4] (.inr (.inr (some z)) :: k) s) := rfl
theorem rx_4_gather_53 {ns n ct R K s k z v0 v1 v2 v4} : rn_4_gather ns ct R K (n + 1) 53 [v0, v1, v2, .inl (true, z), v4] k s = (rn_4_gather ns ct R K n 54 [v0, v1, v2, .inl (true, z), v4] (.inl (true, z) :: k) s) := rfl
theorem rx_4_gather_54 {ns n ct R K s k z v0 v1 v2 v3} : rn_4_gather ns ct R K (n + 1) 54 [v0, v1, v2, v3, .inr (.inr (some z))] k s = (rn_4_gather ns ct R K n 56 [v0, v1, v2, v3, .inr (.inr (some z))] (.inr (.inr (some z)) :: k) s) := rfl
theorem rx_4_gather_56 {ns n ct R K s L k a} : rn_4_gather ns ct R K (n + 1) 56 L (.inr (.inr (some (some a))) :: k) s = (sy_ob a = some 6 ∧ rn_4_gather ns ct R K n 59 L (sy_fv s a 0 :: k) s) := rfl
theorem rx_4_gather_59 {ns n ct R K s L k} : rn_4_gather ns ct R K (n + 1) 59 L k s = (sy_call false (ct 68) k s fun r t => rn_4_gather ns ct R K n 62 L r t) := rfl
theorem rx_4_gather_62 {ns n ct R K s k z v0 v1 v2 v4} : rn_4_gather ns ct R K (n + 1) 62 [v0, v1, v2, .inl (true, z), v4] k s = ((-2147483648 ≤ z + 1 ∧ z + 1 < 2147483648) ∧ rn_4_gather ns ct R K n 65 (sy_sto [v0, v1, v2, .inl (true, z), v4] 3 (.inl (true, z + 1))) k s) := rfl
theorem rx_4_gather_65 {ns n ct R K s L k} : rn_4_gather ns ct R K (n + 1) 65 L k s = (K 7 L k s) := rfl
theorem rx_4_gather_68 {ns n ct R K s L} : rn_4_gather ns ct R K (n + 1) 68 L [] s = (R none s) := rfl
def y_4_insert : MethodName := ⟨"StarHide$Planner", "insert", "(II)V"⟩
abbrev c_4_insert : ByteArray := prog_6_method_5_code
def tc_4_insert (pc : Nat) : Option sy_I := match pc with
  | 0 => some (.aload_n 0, 1, 0)
  | 1 => some (.getfield 36, 4, 0)
  | 4 => some (.istore_n 3, 5, 0)
  | 5 => some (.iload_n 3, 6, 0)
  | 6 => some (.ifCond .le 49, 9, 55)
  | 9 => some (.aload_n 0, 10, 0)
  | 10 => some (.getfield 15, 13, 0)
  | 13 => some (.iload_n 3, 14, 0)
  | 14 => some (.iconst 1, 15, 0)
  | 15 => some (.isub, 16, 0)
  | 16 => some (.iaload, 17, 0)
  | 17 => some (.iload_n 2, 18, 0)
  | 18 => some (.if_icmp .le 37, 21, 55)
  | 21 => some (.aload_n 0, 22, 0)
  | 22 => some (.getfield 9, 25, 0)
  | 25 => some (.iload_n 3, 26, 0)
  | 26 => some (.aload_n 0, 27, 0)
  | 27 => some (.getfield 9, 30, 0)
  | 30 => some (.iload_n 3, 31, 0)
  | 31 => some (.iconst 1, 32, 0)
  | 32 => some (.isub, 33, 0)
  | 33 => some (.iaload, 34, 0)
  | 34 => some (.iastore, 35, 0)
  | 35 => some (.aload_n 0, 36, 0)
  | 36 => some (.getfield 15, 39, 0)
  | 39 => some (.iload_n 3, 40, 0)
  | 40 => some (.aload_n 0, 41, 0)
  | 41 => some (.getfield 15, 44, 0)
  | 44 => some (.iload_n 3, 45, 0)
  | 45 => some (.iconst 1, 46, 0)
  | 46 => some (.isub, 47, 0)
  | 47 => some (.iaload, 48, 0)
  | 48 => some (.iastore, 49, 0)
  | 49 => some (.iinc 3 (-1), 52, 0)
  | 52 => some (.goto (-47), 55, 5)
  | 55 => some (.aload_n 0, 56, 0)
  | 56 => some (.getfield 9, 59, 0)
  | 59 => some (.iload_n 3, 60, 0)
  | 60 => some (.iload_n 1, 61, 0)
  | 61 => some (.iastore, 62, 0)
  | 62 => some (.aload_n 0, 63, 0)
  | 63 => some (.getfield 15, 66, 0)
  | 66 => some (.iload_n 3, 67, 0)
  | 67 => some (.iload_n 2, 68, 0)
  | 68 => some (.iastore, 69, 0)
  | 69 => some (.aload_n 0, 70, 0)
  | 70 => some (.dup, 71, 0)
  | 71 => some (.getfield 36, 74, 0)
  | 74 => some (.iconst 1, 75, 0)
  | 75 => some (.iadd, 76, 0)
  | 76 => some (.putfield 36, 79, 0)
  | 79 => some (.return_, 80, 0)
  | _ => none
theorem tv_4_insert : ∀ pc i, sy_lk 80 tc_4_insert pc = some i → sy_chk c_4_insert none false pc i = true := sy_lk_ok 80 tc_4_insert (by decide +kernel)
def Mk_4_insert (ct : Nat → Option (Bool × Nat × sy_Sp)) : sy_M := (sy_lk 80 tc_4_insert, ff_4, ki_4, kl_4, ct, false)
def rn_4_insert (ns : Nat) (ct : Nat → Option (Bool × Nat × sy_Sp)) (R : sy_R) (K : sy_K) : Nat → sy_K := sy_run ns (Mk_4_insert ct) [5] R K
theorem rx_4_insert_0 {ns n ct R K s k z v1 v2 v3} : rn_4_insert ns ct R K (n + 1) 0 [.inr (.inr (some z)), v1, v2, v3] k s = (rn_4_insert ns ct R K n 1 [.inr (.inr (some z)), v1, v2, v3] (.inr (.inr (some z)) :: k) s) := rfl
theorem rx_4_insert_1 {ns n ct R K s L k a} : rn_4_insert ns ct R K (n + 1) 1 L (.inr (.inr (some (some a))) :: k) s = (sy_ob a = some 4 ∧ rn_4_insert ns ct R K n 4 L (sy_fv s a 3 :: k) s) := rfl
theorem rx_4_insert_4 {ns n ct R K s L k b z} : rn_4_insert ns ct R K (n + 1) 4 L (.inl (b, z) :: k) s = (sy_ri b z ∧ 3 < L.length ∧ K 5 (sy_sto L 3 (.inl (true, z))) k s) := rfl
theorem rx_4_insert_5 {ns n ct R K s k z v0 v1 v2} : rn_4_insert ns ct R K (n + 1) 5 [v0, v1, v2, .inl (true, z)] k s = (rn_4_insert ns ct R K n 6 [v0, v1, v2, .inl (true, z)] (.inl (true, z) :: k) s) := rfl
theorem rx_4_insert_6 {ns n ct R K s L k a x} : rn_4_insert ns ct R K (n + 1) 6 L (.inl (a, x) :: k) s = (sy_ri a x ∧ (x ≤ 0 → rn_4_insert ns ct R K n 55 L k s) ∧ (¬ x ≤ 0 → rn_4_insert ns ct R K n 9 L k s)) := rfl
theorem rx_4_insert_9 {ns n ct R K s k z v1 v2 v3} : rn_4_insert ns ct R K (n + 1) 9 [.inr (.inr (some z)), v1, v2, v3] k s = (rn_4_insert ns ct R K n 10 [.inr (.inr (some z)), v1, v2, v3] (.inr (.inr (some z)) :: k) s) := rfl
theorem rx_4_insert_10 {ns n ct R K s L k a} : rn_4_insert ns ct R K (n + 1) 10 L (.inr (.inr (some (some a))) :: k) s = (sy_ob a = some 4 ∧ rn_4_insert ns ct R K n 13 L (sy_fv s a 2 :: k) s) := rfl
theorem rx_4_insert_13 {ns n ct R K s k z v0 v1 v2} : rn_4_insert ns ct R K (n + 1) 13 [v0, v1, v2, .inl (true, z)] k s = (rn_4_insert ns ct R K n 14 [v0, v1, v2, .inl (true, z)] (.inl (true, z) :: k) s) := rfl
theorem rx_4_insert_14 {ns n ct R K s L k} : rn_4_insert ns ct R K (n + 1) 14 L k s = (rn_4_insert ns ct R K n 15 L (.inl (true, 1) :: k) s) := rfl
theorem rx_4_insert_15 {ns n ct R K s L k a b x y} : rn_4_insert ns ct R K (n + 1) 15 L (.inl (b, y) :: .inl (a, x) :: k) s = (rn_4_insert ns ct R K n 16 L (.inl (false, x - y) :: k) s) := rfl
theorem rx_4_insert_16 {ns n ct R K s L k a b z} : rn_4_insert ns ct R K (n + 1) 16 L (.inl (b, z) :: .inr (.inr (some (some a))) :: k) s = ((0 ≤ z ∧ z < (sy_ar a).2) ∧ sy_ob a = none ∧ (sy_ar a).1 = 0 ∧ rn_4_insert ns ct R K n 17 L (.inl (true, s a z.toNat) :: k) s) := rfl
theorem rx_4_insert_17 {ns n ct R K s k z v0 v1 v3} : rn_4_insert ns ct R K (n + 1) 17 [v0, v1, .inl (true, z), v3] k s = (rn_4_insert ns ct R K n 18 [v0, v1, .inl (true, z), v3] (.inl (true, z) :: k) s) := rfl
theorem rx_4_insert_18 {ns n ct R K s L k a b x y} : rn_4_insert ns ct R K (n + 1) 18 L (.inl (b, y) :: .inl (a, x) :: k) s = (sy_ri a x ∧ sy_ri b y ∧ (x ≤ y → rn_4_insert ns ct R K n 55 L k s) ∧ (¬ x ≤ y → rn_4_insert ns ct R K n 21 L k s)) := rfl
theorem rx_4_insert_21 {ns n ct R K s k z v1 v2 v3} : rn_4_insert ns ct R K (n + 1) 21 [.inr (.inr (some z)), v1, v2, v3] k s = (rn_4_insert ns ct R K n 22 [.inr (.inr (some z)), v1, v2, v3] (.inr (.inr (some z)) :: k) s) := rfl
theorem rx_4_insert_22 {ns n ct R K s L k a} : rn_4_insert ns ct R K (n + 1) 22 L (.inr (.inr (some (some a))) :: k) s = (sy_ob a = some 4 ∧ rn_4_insert ns ct R K n 25 L (sy_fv s a 1 :: k) s) := rfl
theorem rx_4_insert_25 {ns n ct R K s k z v0 v1 v2} : rn_4_insert ns ct R K (n + 1) 25 [v0, v1, v2, .inl (true, z)] k s = (rn_4_insert ns ct R K n 26 [v0, v1, v2, .inl (true, z)] (.inl (true, z) :: k) s) := rfl
theorem rx_4_insert_26 {ns n ct R K s k z v1 v2 v3} : rn_4_insert ns ct R K (n + 1) 26 [.inr (.inr (some z)), v1, v2, v3] k s = (rn_4_insert ns ct R K n 27 [.inr (.inr (some z)), v1, v2, v3] (.inr (.inr (some z)) :: k) s) := rfl
theorem rx_4_insert_27 {ns n ct R K s L k a} : rn_4_insert ns ct R K (n + 1) 27 L (.inr (.inr (some (some a))) :: k) s = (sy_ob a = some 4 ∧ rn_4_insert ns ct R K n 30 L (sy_fv s a 1 :: k) s) := rfl
theorem rx_4_insert_30 {ns n ct R K s k z v0 v1 v2} : rn_4_insert ns ct R K (n + 1) 30 [v0, v1, v2, .inl (true, z)] k s = (rn_4_insert ns ct R K n 31 [v0, v1, v2, .inl (true, z)] (.inl (true, z) :: k) s) := rfl
theorem rx_4_insert_31 {ns n ct R K s L k} : rn_4_insert ns ct R K (n + 1) 31 L k s = (rn_4_insert ns ct R K n 32 L (.inl (true, 1) :: k) s) := rfl
theorem rx_4_insert_32 {ns n ct R K s L k a b x y} : rn_4_insert ns ct R K (n + 1) 32 L (.inl (b, y) :: .inl (a, x) :: k) s = (rn_4_insert ns ct R K n 33 L (.inl (false, x - y) :: k) s) := rfl
theorem rx_4_insert_33 {ns n ct R K s L k a b z} : rn_4_insert ns ct R K (n + 1) 33 L (.inl (b, z) :: .inr (.inr (some (some a))) :: k) s = ((0 ≤ z ∧ z < (sy_ar a).2) ∧ sy_ob a = none ∧ (sy_ar a).1 = 0 ∧ rn_4_insert ns ct R K n 34 L (.inl (true, s a z.toNat) :: k) s) := rfl
theorem rx_4_insert_34 {ns n ct R K s L k a b c z y} : rn_4_insert ns ct R K (n + 1) 34 L (.inl (c, y) :: .inl (b, z) :: .inr (.inr (some (some a))) :: k) s = (sy_ri c y ∧ (0 ≤ z ∧ z < (sy_ar a).2) ∧ sy_ob a = none ∧ (sy_ar a).1 = 0 ∧ rn_4_insert ns ct R K n 35 L k (sy_up s a z.toNat y)) := rfl
theorem rx_4_insert_35 {ns n ct R K s k z v1 v2 v3} : rn_4_insert ns ct R K (n + 1) 35 [.inr (.inr (some z)), v1, v2, v3] k s = (rn_4_insert ns ct R K n 36 [.inr (.inr (some z)), v1, v2, v3] (.inr (.inr (some z)) :: k) s) := rfl
theorem rx_4_insert_36 {ns n ct R K s L k a} : rn_4_insert ns ct R K (n + 1) 36 L (.inr (.inr (some (some a))) :: k) s = (sy_ob a = some 4 ∧ rn_4_insert ns ct R K n 39 L (sy_fv s a 2 :: k) s) := rfl
theorem rx_4_insert_39 {ns n ct R K s k z v0 v1 v2} : rn_4_insert ns ct R K (n + 1) 39 [v0, v1, v2, .inl (true, z)] k s = (rn_4_insert ns ct R K n 40 [v0, v1, v2, .inl (true, z)] (.inl (true, z) :: k) s) := rfl
theorem rx_4_insert_40 {ns n ct R K s k z v1 v2 v3} : rn_4_insert ns ct R K (n + 1) 40 [.inr (.inr (some z)), v1, v2, v3] k s = (rn_4_insert ns ct R K n 41 [.inr (.inr (some z)), v1, v2, v3] (.inr (.inr (some z)) :: k) s) := rfl
theorem rx_4_insert_41 {ns n ct R K s L k a} : rn_4_insert ns ct R K (n + 1) 41 L (.inr (.inr (some (some a))) :: k) s = (sy_ob a = some 4 ∧ rn_4_insert ns ct R K n 44 L (sy_fv s a 2 :: k) s) := rfl
theorem rx_4_insert_44 {ns n ct R K s k z v0 v1 v2} : rn_4_insert ns ct R K (n + 1) 44 [v0, v1, v2, .inl (true, z)] k s = (rn_4_insert ns ct R K n 45 [v0, v1, v2, .inl (true, z)] (.inl (true, z) :: k) s) := rfl
theorem rx_4_insert_45 {ns n ct R K s L k} : rn_4_insert ns ct R K (n + 1) 45 L k s = (rn_4_insert ns ct R K n 46 L (.inl (true, 1) :: k) s) := rfl
theorem rx_4_insert_46 {ns n ct R K s L k a b x y} : rn_4_insert ns ct R K (n + 1) 46 L (.inl (b, y) :: .inl (a, x) :: k) s = (rn_4_insert ns ct R K n 47 L (.inl (false, x - y) :: k) s) := rfl
theorem rx_4_insert_47 {ns n ct R K s L k a b z} : rn_4_insert ns ct R K (n + 1) 47 L (.inl (b, z) :: .inr (.inr (some (some a))) :: k) s = ((0 ≤ z ∧ z < (sy_ar a).2) ∧ sy_ob a = none ∧ (sy_ar a).1 = 0 ∧ rn_4_insert ns ct R K n 48 L (.inl (true, s a z.toNat) :: k) s) := rfl
theorem rx_4_insert_48 {ns n ct R K s L k a b c z y} : rn_4_insert ns ct R K (n + 1) 48 L (.inl (c, y) :: .inl (b, z) :: .inr (.inr (some (some a))) :: k) s = (sy_ri c y ∧ (0 ≤ z ∧ z < (sy_ar a).2) ∧ sy_ob a = none ∧ (sy_ar a).1 = 0 ∧ rn_4_insert ns ct R K n 49 L k (sy_up s a z.toNat y)) := rfl
theorem rx_4_insert_49 {ns n ct R K s k z v0 v1 v2} : rn_4_insert ns ct R K (n + 1) 49 [v0, v1, v2, .inl (true, z)] k s = ((-2147483648 ≤ z + (-1) ∧ z + (-1) < 2147483648) ∧ rn_4_insert ns ct R K n 52 (sy_sto [v0, v1, v2, .inl (true, z)] 3 (.inl (true, z + (-1)))) k s) := rfl
theorem rx_4_insert_52 {ns n ct R K s L k} : rn_4_insert ns ct R K (n + 1) 52 L k s = (K 5 L k s) := rfl
theorem rx_4_insert_55 {ns n ct R K s k z v1 v2 v3} : rn_4_insert ns ct R K (n + 1) 55 [.inr (.inr (some z)), v1, v2, v3] k s = (rn_4_insert ns ct R K n 56 [.inr (.inr (some z)), v1, v2, v3] (.inr (.inr (some z)) :: k) s) := rfl
theorem rx_4_insert_56 {ns n ct R K s L k a} : rn_4_insert ns ct R K (n + 1) 56 L (.inr (.inr (some (some a))) :: k) s = (sy_ob a = some 4 ∧ rn_4_insert ns ct R K n 59 L (sy_fv s a 1 :: k) s) := rfl
theorem rx_4_insert_59 {ns n ct R K s k z v0 v1 v2} : rn_4_insert ns ct R K (n + 1) 59 [v0, v1, v2, .inl (true, z)] k s = (rn_4_insert ns ct R K n 60 [v0, v1, v2, .inl (true, z)] (.inl (true, z) :: k) s) := rfl
theorem rx_4_insert_60 {ns n ct R K s k z v0 v2 v3} : rn_4_insert ns ct R K (n + 1) 60 [v0, .inl (true, z), v2, v3] k s = (rn_4_insert ns ct R K n 61 [v0, .inl (true, z), v2, v3] (.inl (true, z) :: k) s) := rfl
theorem rx_4_insert_61 {ns n ct R K s L k a b c z y} : rn_4_insert ns ct R K (n + 1) 61 L (.inl (c, y) :: .inl (b, z) :: .inr (.inr (some (some a))) :: k) s = (sy_ri c y ∧ (0 ≤ z ∧ z < (sy_ar a).2) ∧ sy_ob a = none ∧ (sy_ar a).1 = 0 ∧ rn_4_insert ns ct R K n 62 L k (sy_up s a z.toNat y)) := rfl
theorem rx_4_insert_62 {ns n ct R K s k z v1 v2 v3} : rn_4_insert ns ct R K (n + 1) 62 [.inr (.inr (some z)), v1, v2, v3] k s = (rn_4_insert ns ct R K n 63 [.inr (.inr (some z)), v1, v2, v3] (.inr (.inr (some z)) :: k) s) := rfl
theorem rx_4_insert_63 {ns n ct R K s L k a} : rn_4_insert ns ct R K (n + 1) 63 L (.inr (.inr (some (some a))) :: k) s = (sy_ob a = some 4 ∧ rn_4_insert ns ct R K n 66 L (sy_fv s a 2 :: k) s) := rfl
theorem rx_4_insert_66 {ns n ct R K s k z v0 v1 v2} : rn_4_insert ns ct R K (n + 1) 66 [v0, v1, v2, .inl (true, z)] k s = (rn_4_insert ns ct R K n 67 [v0, v1, v2, .inl (true, z)] (.inl (true, z) :: k) s) := rfl
theorem rx_4_insert_67 {ns n ct R K s k z v0 v1 v3} : rn_4_insert ns ct R K (n + 1) 67 [v0, v1, .inl (true, z), v3] k s = (rn_4_insert ns ct R K n 68 [v0, v1, .inl (true, z), v3] (.inl (true, z) :: k) s) := rfl
theorem rx_4_insert_68 {ns n ct R K s L k a b c z y} : rn_4_insert ns ct R K (n + 1) 68 L (.inl (c, y) :: .inl (b, z) :: .inr (.inr (some (some a))) :: k) s = (sy_ri c y ∧ (0 ≤ z ∧ z < (sy_ar a).2) ∧ sy_ob a = none ∧ (sy_ar a).1 = 0 ∧ rn_4_insert ns ct R K n 69 L k (sy_up s a z.toNat y)) := rfl
theorem rx_4_insert_69 {ns n ct R K s k z v1 v2 v3} : rn_4_insert ns ct R K (n + 1) 69 [.inr (.inr (some z)), v1, v2, v3] k s = (rn_4_insert ns ct R K n 70 [.inr (.inr (some z)), v1, v2, v3] (.inr (.inr (some z)) :: k) s) := rfl
theorem rx_4_insert_70_i {ns n ct R K s L k a} : rn_4_insert ns ct R K (n + 1) 70 L (.inl a :: k) s = (rn_4_insert ns ct R K n 71 L (.inl a :: .inl a :: k) s) := rfl
theorem rx_4_insert_70 {ns n ct R K s L k a} : rn_4_insert ns ct R K (n + 1) 70 L (.inr (.inr a) :: k) s = (rn_4_insert ns ct R K n 71 L (.inr (.inr a) :: .inr (.inr a) :: k) s) := rfl
theorem rx_4_insert_71 {ns n ct R K s L k a} : rn_4_insert ns ct R K (n + 1) 71 L (.inr (.inr (some (some a))) :: k) s = (sy_ob a = some 4 ∧ rn_4_insert ns ct R K n 74 L (sy_fv s a 3 :: k) s) := rfl
theorem rx_4_insert_74 {ns n ct R K s L k} : rn_4_insert ns ct R K (n + 1) 74 L k s = (rn_4_insert ns ct R K n 75 L (.inl (true, 1) :: k) s) := rfl
theorem rx_4_insert_75 {ns n ct R K s L k a b x y} : rn_4_insert ns ct R K (n + 1) 75 L (.inl (b, y) :: .inl (a, x) :: k) s = (rn_4_insert ns ct R K n 76 L (.inl (false, x + y) :: k) s) := rfl
theorem rx_4_insert_76 {ns n ct R K s L k a b z} : rn_4_insert ns ct R K (n + 1) 76 L (.inl (b, z) :: .inr (.inr (some (some a))) :: k) s = (sy_ob a = some 4 ∧ sy_ri b z ∧ sy_b01 false z ∧ rn_4_insert ns ct R K n 79 L k (sy_up s a 3 z)) := rfl
theorem rx_4_insert_79 {ns n ct R K s L} : rn_4_insert ns ct R K (n + 1) 79 L [] s = (R none s) := rfl
def y_4_fillGaps : MethodName := ⟨"StarHide$Planner", "fillGaps", "(II)V"⟩
abbrev c_4_fillGaps : ByteArray := prog_6_method_6_code
def tc_4_fillGaps (pc : Nat) : Option sy_I := match pc with
  | 0 => some (.iconst 0, 1, 0)
  | 1 => some (.istore_n 3, 2, 0)
  | 2 => some (.iload_n 3, 3, 0)
  | 3 => some (.aload_n 0, 4, 0)
  | 4 => some (.getfield 36, 7, 0)
  | 7 => some (.if_icmp .ge 23, 10, 30)
  | 10 => some (.aload_n 0, 11, 0)
  | 11 => some (.getfield 18, 14, 0)
  | 14 => some (.iload_n 3, 15, 0)
  | 15 => some (.iload_n 2, 16, 0)
  | 16 => some (.aload_n 0, 17, 0)
  | 17 => some (.getfield 15, 20, 0)
  | 20 => some (.iload_n 3, 21, 0)
  | 21 => some (.iaload, 22, 0)
  | 22 => some (.isub, 23, 0)
  | 23 => some (.iastore, 24, 0)
  | 24 => some (.iinc 3 1, 27, 0)
  | 27 => some (.goto (-25), 30, 2)
  | 30 => some (.iconst 1, 31, 0)
  | 31 => some (.istore_n 3, 32, 0)
  | 32 => some (.iload_n 3, 33, 0)
  | 33 => some (.iload_n 1, 34, 0)
  | 34 => some (.if_icmp .ge 57, 37, 91)
  | 37 => some (.iconst 0, 38, 0)
  | 38 => some (.istore 4, 40, 0)
  | 40 => some (.iload 4, 42, 0)
  | 42 => some (.aload_n 0, 43, 0)
  | 43 => some (.getfield 36, 46, 0)
  | 46 => some (.if_icmp .ge 39, 49, 85)
  | 49 => some (.aload_n 0, 50, 0)
  | 50 => some (.getfield 18, 53, 0)
  | 53 => some (.iload_n 3, 54, 0)
  | 54 => some (.bipush 16, 56, 0)
  | 56 => some (.imul, 57, 0)
  | 57 => some (.iload 4, 59, 0)
  | 59 => some (.iadd, 60, 0)
  | 60 => some (.aload_n 0, 61, 0)
  | 61 => some (.iload 4, 63, 0)
  | 63 => some (.iconst 1, 64, 0)
  | 64 => some (.iadd, 65, 0)
  | 65 => some (.aload_n 0, 66, 0)
  | 66 => some (.getfield 15, 69, 0)
  | 69 => some (.iload 4, 71, 0)
  | 71 => some (.iaload, 72, 0)
  | 72 => some (.iload_n 3, 73, 0)
  | 73 => some (.iconst 1, 74, 0)
  | 74 => some (.isub, 75, 0)
  | 75 => some (.invokevirtual 42, 78, 0)
  | 78 => some (.iastore, 79, 0)
  | 79 => some (.iinc 4 1, 82, 0)
  | 82 => some (.goto (-42), 85, 40)
  | 85 => some (.iinc 3 1, 88, 0)
  | 88 => some (.goto (-56), 91, 32)
  | 91 => some (.return_, 92, 0)
  | _ => none
theorem tv_4_fillGaps : ∀ pc i, sy_lk 92 tc_4_fillGaps pc = some i → sy_chk c_4_fillGaps none false pc i = true := sy_lk_ok 92 tc_4_fillGaps (by decide +kernel)
def Mk_4_fillGaps (ct : Nat → Option (Bool × Nat × sy_Sp)) : sy_M := (sy_lk 92 tc_4_fillGaps, ff_4, ki_4, kl_4, ct, false)
def rn_4_fillGaps (ns : Nat) (ct : Nat → Option (Bool × Nat × sy_Sp)) (R : sy_R) (K : sy_K) : Nat → sy_K := sy_run ns (Mk_4_fillGaps ct) [2, 32, 40] R K
theorem rx_4_fillGaps_0 {ns n ct R K s L k} : rn_4_fillGaps ns ct R K (n + 1) 0 L k s = (rn_4_fillGaps ns ct R K n 1 L (.inl (true, 0) :: k) s) := rfl
theorem rx_4_fillGaps_1 {ns n ct R K s L k b z} : rn_4_fillGaps ns ct R K (n + 1) 1 L (.inl (b, z) :: k) s = (sy_ri b z ∧ 3 < L.length ∧ K 2 (sy_sto L 3 (.inl (true, z))) k s) := rfl
theorem rx_4_fillGaps_2 {ns n ct R K s k z v0 v1 v2 v4} : rn_4_fillGaps ns ct R K (n + 1) 2 [v0, v1, v2, .inl (true, z), v4] k s = (rn_4_fillGaps ns ct R K n 3 [v0, v1, v2, .inl (true, z), v4] (.inl (true, z) :: k) s) := rfl
theorem rx_4_fillGaps_3 {ns n ct R K s k z v1 v2 v3 v4} : rn_4_fillGaps ns ct R K (n + 1) 3 [.inr (.inr (some z)), v1, v2, v3, v4] k s = (rn_4_fillGaps ns ct R K n 4 [.inr (.inr (some z)), v1, v2, v3, v4] (.inr (.inr (some z)) :: k) s) := rfl
theorem rx_4_fillGaps_4 {ns n ct R K s L k a} : rn_4_fillGaps ns ct R K (n + 1) 4 L (.inr (.inr (some (some a))) :: k) s = (sy_ob a = some 4 ∧ rn_4_fillGaps ns ct R K n 7 L (sy_fv s a 3 :: k) s) := rfl
theorem rx_4_fillGaps_7 {ns n ct R K s L k a b x y} : rn_4_fillGaps ns ct R K (n + 1) 7 L (.inl (b, y) :: .inl (a, x) :: k) s = (sy_ri a x ∧ sy_ri b y ∧ (y ≤ x → rn_4_fillGaps ns ct R K n 30 L k s) ∧ (¬ y ≤ x → rn_4_fillGaps ns ct R K n 10 L k s)) := rfl
theorem rx_4_fillGaps_10 {ns n ct R K s k z v1 v2 v3 v4} : rn_4_fillGaps ns ct R K (n + 1) 10 [.inr (.inr (some z)), v1, v2, v3, v4] k s = (rn_4_fillGaps ns ct R K n 11 [.inr (.inr (some z)), v1, v2, v3, v4] (.inr (.inr (some z)) :: k) s) := rfl
theorem rx_4_fillGaps_11 {ns n ct R K s L k a} : rn_4_fillGaps ns ct R K (n + 1) 11 L (.inr (.inr (some (some a))) :: k) s = (sy_ob a = some 4 ∧ rn_4_fillGaps ns ct R K n 14 L (sy_fv s a 4 :: k) s) := rfl
theorem rx_4_fillGaps_14 {ns n ct R K s k z v0 v1 v2 v4} : rn_4_fillGaps ns ct R K (n + 1) 14 [v0, v1, v2, .inl (true, z), v4] k s = (rn_4_fillGaps ns ct R K n 15 [v0, v1, v2, .inl (true, z), v4] (.inl (true, z) :: k) s) := rfl
theorem rx_4_fillGaps_15 {ns n ct R K s k z v0 v1 v3 v4} : rn_4_fillGaps ns ct R K (n + 1) 15 [v0, v1, .inl (true, z), v3, v4] k s = (rn_4_fillGaps ns ct R K n 16 [v0, v1, .inl (true, z), v3, v4] (.inl (true, z) :: k) s) := rfl
theorem rx_4_fillGaps_16 {ns n ct R K s k z v1 v2 v3 v4} : rn_4_fillGaps ns ct R K (n + 1) 16 [.inr (.inr (some z)), v1, v2, v3, v4] k s = (rn_4_fillGaps ns ct R K n 17 [.inr (.inr (some z)), v1, v2, v3, v4] (.inr (.inr (some z)) :: k) s) := rfl
theorem rx_4_fillGaps_17 {ns n ct R K s L k a} : rn_4_fillGaps ns ct R K (n + 1) 17 L (.inr (.inr (some (some a))) :: k) s = (sy_ob a = some 4 ∧ rn_4_fillGaps ns ct R K n 20 L (sy_fv s a 2 :: k) s) := rfl
theorem rx_4_fillGaps_20 {ns n ct R K s k z v0 v1 v2 v4} : rn_4_fillGaps ns ct R K (n + 1) 20 [v0, v1, v2, .inl (true, z), v4] k s = (rn_4_fillGaps ns ct R K n 21 [v0, v1, v2, .inl (true, z), v4] (.inl (true, z) :: k) s) := rfl
theorem rx_4_fillGaps_21 {ns n ct R K s L k a b z} : rn_4_fillGaps ns ct R K (n + 1) 21 L (.inl (b, z) :: .inr (.inr (some (some a))) :: k) s = ((0 ≤ z ∧ z < (sy_ar a).2) ∧ sy_ob a = none ∧ (sy_ar a).1 = 0 ∧ rn_4_fillGaps ns ct R K n 22 L (.inl (true, s a z.toNat) :: k) s) := rfl
theorem rx_4_fillGaps_22 {ns n ct R K s L k a b x y} : rn_4_fillGaps ns ct R K (n + 1) 22 L (.inl (b, y) :: .inl (a, x) :: k) s = (rn_4_fillGaps ns ct R K n 23 L (.inl (false, x - y) :: k) s) := rfl
theorem rx_4_fillGaps_23 {ns n ct R K s L k a b c z y} : rn_4_fillGaps ns ct R K (n + 1) 23 L (.inl (c, y) :: .inl (b, z) :: .inr (.inr (some (some a))) :: k) s = (sy_ri c y ∧ (0 ≤ z ∧ z < (sy_ar a).2) ∧ sy_ob a = none ∧ (sy_ar a).1 = 0 ∧ rn_4_fillGaps ns ct R K n 24 L k (sy_up s a z.toNat y)) := rfl
theorem rx_4_fillGaps_24 {ns n ct R K s k z v0 v1 v2 v4} : rn_4_fillGaps ns ct R K (n + 1) 24 [v0, v1, v2, .inl (true, z), v4] k s = ((-2147483648 ≤ z + 1 ∧ z + 1 < 2147483648) ∧ rn_4_fillGaps ns ct R K n 27 (sy_sto [v0, v1, v2, .inl (true, z), v4] 3 (.inl (true, z + 1))) k s) := rfl
theorem rx_4_fillGaps_27 {ns n ct R K s L k} : rn_4_fillGaps ns ct R K (n + 1) 27 L k s = (K 2 L k s) := rfl
theorem rx_4_fillGaps_30 {ns n ct R K s L k} : rn_4_fillGaps ns ct R K (n + 1) 30 L k s = (rn_4_fillGaps ns ct R K n 31 L (.inl (true, 1) :: k) s) := rfl
theorem rx_4_fillGaps_31 {ns n ct R K s L k b z} : rn_4_fillGaps ns ct R K (n + 1) 31 L (.inl (b, z) :: k) s = (sy_ri b z ∧ 3 < L.length ∧ K 32 (sy_sto L 3 (.inl (true, z))) k s) := rfl
theorem rx_4_fillGaps_32 {ns n ct R K s k z v0 v1 v2 v4} : rn_4_fillGaps ns ct R K (n + 1) 32 [v0, v1, v2, .inl (true, z), v4] k s = (rn_4_fillGaps ns ct R K n 33 [v0, v1, v2, .inl (true, z), v4] (.inl (true, z) :: k) s) := rfl
theorem rx_4_fillGaps_33 {ns n ct R K s k z v0 v2 v3 v4} : rn_4_fillGaps ns ct R K (n + 1) 33 [v0, .inl (true, z), v2, v3, v4] k s = (rn_4_fillGaps ns ct R K n 34 [v0, .inl (true, z), v2, v3, v4] (.inl (true, z) :: k) s) := rfl
theorem rx_4_fillGaps_34 {ns n ct R K s L k a b x y} : rn_4_fillGaps ns ct R K (n + 1) 34 L (.inl (b, y) :: .inl (a, x) :: k) s = (sy_ri a x ∧ sy_ri b y ∧ (y ≤ x → rn_4_fillGaps ns ct R K n 91 L k s) ∧ (¬ y ≤ x → rn_4_fillGaps ns ct R K n 37 L k s)) := rfl
theorem rx_4_fillGaps_37 {ns n ct R K s L k} : rn_4_fillGaps ns ct R K (n + 1) 37 L k s = (rn_4_fillGaps ns ct R K n 38 L (.inl (true, 0) :: k) s) := rfl
theorem rx_4_fillGaps_38 {ns n ct R K s L k b z} : rn_4_fillGaps ns ct R K (n + 1) 38 L (.inl (b, z) :: k) s = (sy_ri b z ∧ 4 < L.length ∧ K 40 (sy_sto L 4 (.inl (true, z))) k s) := rfl
theorem rx_4_fillGaps_40 {ns n ct R K s k z v0 v1 v2 v3} : rn_4_fillGaps ns ct R K (n + 1) 40 [v0, v1, v2, v3, .inl (true, z)] k s = (rn_4_fillGaps ns ct R K n 42 [v0, v1, v2, v3, .inl (true, z)] (.inl (true, z) :: k) s) := rfl
theorem rx_4_fillGaps_42 {ns n ct R K s k z v1 v2 v3 v4} : rn_4_fillGaps ns ct R K (n + 1) 42 [.inr (.inr (some z)), v1, v2, v3, v4] k s = (rn_4_fillGaps ns ct R K n 43 [.inr (.inr (some z)), v1, v2, v3, v4] (.inr (.inr (some z)) :: k) s) := rfl
theorem rx_4_fillGaps_43 {ns n ct R K s L k a} : rn_4_fillGaps ns ct R K (n + 1) 43 L (.inr (.inr (some (some a))) :: k) s = (sy_ob a = some 4 ∧ rn_4_fillGaps ns ct R K n 46 L (sy_fv s a 3 :: k) s) := rfl
theorem rx_4_fillGaps_46 {ns n ct R K s L k a b x y} : rn_4_fillGaps ns ct R K (n + 1) 46 L (.inl (b, y) :: .inl (a, x) :: k) s = (sy_ri a x ∧ sy_ri b y ∧ (y ≤ x → rn_4_fillGaps ns ct R K n 85 L k s) ∧ (¬ y ≤ x → rn_4_fillGaps ns ct R K n 49 L k s)) := rfl
theorem rx_4_fillGaps_49 {ns n ct R K s k z v1 v2 v3 v4} : rn_4_fillGaps ns ct R K (n + 1) 49 [.inr (.inr (some z)), v1, v2, v3, v4] k s = (rn_4_fillGaps ns ct R K n 50 [.inr (.inr (some z)), v1, v2, v3, v4] (.inr (.inr (some z)) :: k) s) := rfl
theorem rx_4_fillGaps_50 {ns n ct R K s L k a} : rn_4_fillGaps ns ct R K (n + 1) 50 L (.inr (.inr (some (some a))) :: k) s = (sy_ob a = some 4 ∧ rn_4_fillGaps ns ct R K n 53 L (sy_fv s a 4 :: k) s) := rfl
theorem rx_4_fillGaps_53 {ns n ct R K s k z v0 v1 v2 v4} : rn_4_fillGaps ns ct R K (n + 1) 53 [v0, v1, v2, .inl (true, z), v4] k s = (rn_4_fillGaps ns ct R K n 54 [v0, v1, v2, .inl (true, z), v4] (.inl (true, z) :: k) s) := rfl
theorem rx_4_fillGaps_54 {ns n ct R K s L k} : rn_4_fillGaps ns ct R K (n + 1) 54 L k s = (rn_4_fillGaps ns ct R K n 56 L (.inl (true, 16) :: k) s) := rfl
theorem rx_4_fillGaps_56 {ns n ct R K s L k a b x y} : rn_4_fillGaps ns ct R K (n + 1) 56 L (.inl (b, y) :: .inl (a, x) :: k) s = (rn_4_fillGaps ns ct R K n 57 L (.inl (false, x * y) :: k) s) := rfl
theorem rx_4_fillGaps_57 {ns n ct R K s k z v0 v1 v2 v3} : rn_4_fillGaps ns ct R K (n + 1) 57 [v0, v1, v2, v3, .inl (true, z)] k s = (rn_4_fillGaps ns ct R K n 59 [v0, v1, v2, v3, .inl (true, z)] (.inl (true, z) :: k) s) := rfl
theorem rx_4_fillGaps_59 {ns n ct R K s L k a b x y} : rn_4_fillGaps ns ct R K (n + 1) 59 L (.inl (b, y) :: .inl (a, x) :: k) s = (rn_4_fillGaps ns ct R K n 60 L (.inl (false, x + y) :: k) s) := rfl
theorem rx_4_fillGaps_60 {ns n ct R K s k z v1 v2 v3 v4} : rn_4_fillGaps ns ct R K (n + 1) 60 [.inr (.inr (some z)), v1, v2, v3, v4] k s = (rn_4_fillGaps ns ct R K n 61 [.inr (.inr (some z)), v1, v2, v3, v4] (.inr (.inr (some z)) :: k) s) := rfl
theorem rx_4_fillGaps_61 {ns n ct R K s k z v0 v1 v2 v3} : rn_4_fillGaps ns ct R K (n + 1) 61 [v0, v1, v2, v3, .inl (true, z)] k s = (rn_4_fillGaps ns ct R K n 63 [v0, v1, v2, v3, .inl (true, z)] (.inl (true, z) :: k) s) := rfl
theorem rx_4_fillGaps_63 {ns n ct R K s L k} : rn_4_fillGaps ns ct R K (n + 1) 63 L k s = (rn_4_fillGaps ns ct R K n 64 L (.inl (true, 1) :: k) s) := rfl
theorem rx_4_fillGaps_64 {ns n ct R K s L k a b x y} : rn_4_fillGaps ns ct R K (n + 1) 64 L (.inl (b, y) :: .inl (a, x) :: k) s = (rn_4_fillGaps ns ct R K n 65 L (.inl (false, x + y) :: k) s) := rfl
theorem rx_4_fillGaps_65 {ns n ct R K s k z v1 v2 v3 v4} : rn_4_fillGaps ns ct R K (n + 1) 65 [.inr (.inr (some z)), v1, v2, v3, v4] k s = (rn_4_fillGaps ns ct R K n 66 [.inr (.inr (some z)), v1, v2, v3, v4] (.inr (.inr (some z)) :: k) s) := rfl
theorem rx_4_fillGaps_66 {ns n ct R K s L k a} : rn_4_fillGaps ns ct R K (n + 1) 66 L (.inr (.inr (some (some a))) :: k) s = (sy_ob a = some 4 ∧ rn_4_fillGaps ns ct R K n 69 L (sy_fv s a 2 :: k) s) := rfl
theorem rx_4_fillGaps_69 {ns n ct R K s k z v0 v1 v2 v3} : rn_4_fillGaps ns ct R K (n + 1) 69 [v0, v1, v2, v3, .inl (true, z)] k s = (rn_4_fillGaps ns ct R K n 71 [v0, v1, v2, v3, .inl (true, z)] (.inl (true, z) :: k) s) := rfl
theorem rx_4_fillGaps_71 {ns n ct R K s L k a b z} : rn_4_fillGaps ns ct R K (n + 1) 71 L (.inl (b, z) :: .inr (.inr (some (some a))) :: k) s = ((0 ≤ z ∧ z < (sy_ar a).2) ∧ sy_ob a = none ∧ (sy_ar a).1 = 0 ∧ rn_4_fillGaps ns ct R K n 72 L (.inl (true, s a z.toNat) :: k) s) := rfl
theorem rx_4_fillGaps_72 {ns n ct R K s k z v0 v1 v2 v4} : rn_4_fillGaps ns ct R K (n + 1) 72 [v0, v1, v2, .inl (true, z), v4] k s = (rn_4_fillGaps ns ct R K n 73 [v0, v1, v2, .inl (true, z), v4] (.inl (true, z) :: k) s) := rfl
theorem rx_4_fillGaps_73 {ns n ct R K s L k} : rn_4_fillGaps ns ct R K (n + 1) 73 L k s = (rn_4_fillGaps ns ct R K n 74 L (.inl (true, 1) :: k) s) := rfl
theorem rx_4_fillGaps_74 {ns n ct R K s L k a b x y} : rn_4_fillGaps ns ct R K (n + 1) 74 L (.inl (b, y) :: .inl (a, x) :: k) s = (rn_4_fillGaps ns ct R K n 75 L (.inl (false, x - y) :: k) s) := rfl
theorem rx_4_fillGaps_75 {ns n ct R K s L k} : rn_4_fillGaps ns ct R K (n + 1) 75 L k s = (sy_call false (ct 42) k s fun r t => rn_4_fillGaps ns ct R K n 78 L r t) := rfl
theorem rx_4_fillGaps_78 {ns n ct R K s L k a b c z y} : rn_4_fillGaps ns ct R K (n + 1) 78 L (.inl (c, y) :: .inl (b, z) :: .inr (.inr (some (some a))) :: k) s = (sy_ri c y ∧ (0 ≤ z ∧ z < (sy_ar a).2) ∧ sy_ob a = none ∧ (sy_ar a).1 = 0 ∧ rn_4_fillGaps ns ct R K n 79 L k (sy_up s a z.toNat y)) := rfl
theorem rx_4_fillGaps_79 {ns n ct R K s k z v0 v1 v2 v3} : rn_4_fillGaps ns ct R K (n + 1) 79 [v0, v1, v2, v3, .inl (true, z)] k s = ((-2147483648 ≤ z + 1 ∧ z + 1 < 2147483648) ∧ rn_4_fillGaps ns ct R K n 82 (sy_sto [v0, v1, v2, v3, .inl (true, z)] 4 (.inl (true, z + 1))) k s) := rfl
theorem rx_4_fillGaps_82 {ns n ct R K s L k} : rn_4_fillGaps ns ct R K (n + 1) 82 L k s = (K 40 L k s) := rfl
theorem rx_4_fillGaps_85 {ns n ct R K s k z v0 v1 v2 v4} : rn_4_fillGaps ns ct R K (n + 1) 85 [v0, v1, v2, .inl (true, z), v4] k s = ((-2147483648 ≤ z + 1 ∧ z + 1 < 2147483648) ∧ rn_4_fillGaps ns ct R K n 88 (sy_sto [v0, v1, v2, .inl (true, z), v4] 3 (.inl (true, z + 1))) k s) := rfl
theorem rx_4_fillGaps_88 {ns n ct R K s L k} : rn_4_fillGaps ns ct R K (n + 1) 88 L k s = (K 32 L k s) := rfl
theorem rx_4_fillGaps_91 {ns n ct R K s L} : rn_4_fillGaps ns ct R K (n + 1) 91 L [] s = (R none s) := rfl
def y_4_leastGap : MethodName := ⟨"StarHide$Planner", "leastGap", "(III)I"⟩
abbrev c_4_leastGap : ByteArray := prog_6_method_7_code
def tc_4_leastGap (pc : Nat) : Option sy_I := match pc with
  | 0 => some (.ldc 71, 2, 0)
  | 2 => some (.istore 4, 4, 0)
  | 4 => some (.iload_n 1, 5, 0)
  | 5 => some (.istore 5, 7, 0)
  | 7 => some (.iload 5, 9, 0)
  | 9 => some (.aload_n 0, 10, 0)
  | 10 => some (.getfield 36, 13, 0)
  | 13 => some (.if_icmp .ge 24, 16, 37)
  | 16 => some (.iload 4, 18, 0)
  | 18 => some (.aload_n 0, 19, 0)
  | 19 => some (.iload 5, 21, 0)
  | 21 => some (.iload_n 2, 22, 0)
  | 22 => some (.iload_n 3, 23, 0)
  | 23 => some (.invokevirtual 72, 26, 0)
  | 26 => some (.invokestatic 75, 29, 0)
  | 29 => some (.istore 4, 31, 0)
  | 31 => some (.iinc 5 1, 34, 0)
  | 34 => some (.goto (-27), 37, 7)
  | 37 => some (.iload 4, 39, 0)
  | 39 => some (.ireturn, 40, 0)
  | _ => none
theorem tv_4_leastGap : ∀ pc i, sy_lk 40 tc_4_leastGap pc = some i → sy_chk c_4_leastGap (some .int) false pc i = true := sy_lk_ok 40 tc_4_leastGap (by decide +kernel)
def Mk_4_leastGap (ct : Nat → Option (Bool × Nat × sy_Sp)) : sy_M := (sy_lk 40 tc_4_leastGap, ff_4, ki_4, kl_4, ct, false)
def rn_4_leastGap (ns : Nat) (ct : Nat → Option (Bool × Nat × sy_Sp)) (R : sy_R) (K : sy_K) : Nat → sy_K := sy_run ns (Mk_4_leastGap ct) [7] R K
theorem rx_4_leastGap_0 {ns n ct R K s L k} : rn_4_leastGap ns ct R K (n + 1) 0 L k s = (rn_4_leastGap ns ct R K n 2 L (.inl (true, 1000000) :: k) s) := rfl
theorem rx_4_leastGap_2 {ns n ct R K s L k b z} : rn_4_leastGap ns ct R K (n + 1) 2 L (.inl (b, z) :: k) s = (sy_ri b z ∧ 4 < L.length ∧ rn_4_leastGap ns ct R K n 4 (sy_sto L 4 (.inl (true, z))) k s) := rfl
theorem rx_4_leastGap_4 {ns n ct R K s k z v0 v2 v3 v4 v5} : rn_4_leastGap ns ct R K (n + 1) 4 [v0, .inl (true, z), v2, v3, v4, v5] k s = (rn_4_leastGap ns ct R K n 5 [v0, .inl (true, z), v2, v3, v4, v5] (.inl (true, z) :: k) s) := rfl
theorem rx_4_leastGap_5 {ns n ct R K s L k b z} : rn_4_leastGap ns ct R K (n + 1) 5 L (.inl (b, z) :: k) s = (sy_ri b z ∧ 5 < L.length ∧ K 7 (sy_sto L 5 (.inl (true, z))) k s) := rfl
theorem rx_4_leastGap_7 {ns n ct R K s k z v0 v1 v2 v3 v4} : rn_4_leastGap ns ct R K (n + 1) 7 [v0, v1, v2, v3, v4, .inl (true, z)] k s = (rn_4_leastGap ns ct R K n 9 [v0, v1, v2, v3, v4, .inl (true, z)] (.inl (true, z) :: k) s) := rfl
theorem rx_4_leastGap_9 {ns n ct R K s k z v1 v2 v3 v4 v5} : rn_4_leastGap ns ct R K (n + 1) 9 [.inr (.inr (some z)), v1, v2, v3, v4, v5] k s = (rn_4_leastGap ns ct R K n 10 [.inr (.inr (some z)), v1, v2, v3, v4, v5] (.inr (.inr (some z)) :: k) s) := rfl
theorem rx_4_leastGap_10 {ns n ct R K s L k a} : rn_4_leastGap ns ct R K (n + 1) 10 L (.inr (.inr (some (some a))) :: k) s = (sy_ob a = some 4 ∧ rn_4_leastGap ns ct R K n 13 L (sy_fv s a 3 :: k) s) := rfl
theorem rx_4_leastGap_13 {ns n ct R K s L k a b x y} : rn_4_leastGap ns ct R K (n + 1) 13 L (.inl (b, y) :: .inl (a, x) :: k) s = (sy_ri a x ∧ sy_ri b y ∧ (y ≤ x → rn_4_leastGap ns ct R K n 37 L k s) ∧ (¬ y ≤ x → rn_4_leastGap ns ct R K n 16 L k s)) := rfl
theorem rx_4_leastGap_16 {ns n ct R K s k z v0 v1 v2 v3 v5} : rn_4_leastGap ns ct R K (n + 1) 16 [v0, v1, v2, v3, .inl (true, z), v5] k s = (rn_4_leastGap ns ct R K n 18 [v0, v1, v2, v3, .inl (true, z), v5] (.inl (true, z) :: k) s) := rfl
theorem rx_4_leastGap_18 {ns n ct R K s k z v1 v2 v3 v4 v5} : rn_4_leastGap ns ct R K (n + 1) 18 [.inr (.inr (some z)), v1, v2, v3, v4, v5] k s = (rn_4_leastGap ns ct R K n 19 [.inr (.inr (some z)), v1, v2, v3, v4, v5] (.inr (.inr (some z)) :: k) s) := rfl
theorem rx_4_leastGap_19 {ns n ct R K s k z v0 v1 v2 v3 v4} : rn_4_leastGap ns ct R K (n + 1) 19 [v0, v1, v2, v3, v4, .inl (true, z)] k s = (rn_4_leastGap ns ct R K n 21 [v0, v1, v2, v3, v4, .inl (true, z)] (.inl (true, z) :: k) s) := rfl
theorem rx_4_leastGap_21 {ns n ct R K s k z v0 v1 v3 v4 v5} : rn_4_leastGap ns ct R K (n + 1) 21 [v0, v1, .inl (true, z), v3, v4, v5] k s = (rn_4_leastGap ns ct R K n 22 [v0, v1, .inl (true, z), v3, v4, v5] (.inl (true, z) :: k) s) := rfl
theorem rx_4_leastGap_22 {ns n ct R K s k z v0 v1 v2 v4 v5} : rn_4_leastGap ns ct R K (n + 1) 22 [v0, v1, v2, .inl (true, z), v4, v5] k s = (rn_4_leastGap ns ct R K n 23 [v0, v1, v2, .inl (true, z), v4, v5] (.inl (true, z) :: k) s) := rfl
theorem rx_4_leastGap_23 {ns n ct R K s L k} : rn_4_leastGap ns ct R K (n + 1) 23 L k s = (sy_call false (ct 72) k s fun r t => rn_4_leastGap ns ct R K n 26 L r t) := rfl
theorem rx_4_leastGap_26 {ns n ct R K s L k} : rn_4_leastGap ns ct R K (n + 1) 26 L k s = (sy_call true (ct 75) k s fun r t => rn_4_leastGap ns ct R K n 29 L r t) := rfl
theorem rx_4_leastGap_29 {ns n ct R K s L k b z} : rn_4_leastGap ns ct R K (n + 1) 29 L (.inl (b, z) :: k) s = (sy_ri b z ∧ 4 < L.length ∧ rn_4_leastGap ns ct R K n 31 (sy_sto L 4 (.inl (true, z))) k s) := rfl
theorem rx_4_leastGap_31 {ns n ct R K s k z v0 v1 v2 v3 v4} : rn_4_leastGap ns ct R K (n + 1) 31 [v0, v1, v2, v3, v4, .inl (true, z)] k s = ((-2147483648 ≤ z + 1 ∧ z + 1 < 2147483648) ∧ rn_4_leastGap ns ct R K n 34 (sy_sto [v0, v1, v2, v3, v4, .inl (true, z)] 5 (.inl (true, z + 1))) k s) := rfl
theorem rx_4_leastGap_34 {ns n ct R K s L k} : rn_4_leastGap ns ct R K (n + 1) 34 L k s = (K 7 L k s) := rfl
theorem rx_4_leastGap_37 {ns n ct R K s k z v0 v1 v2 v3 v5} : rn_4_leastGap ns ct R K (n + 1) 37 [v0, v1, v2, v3, .inl (true, z), v5] k s = (rn_4_leastGap ns ct R K n 39 [v0, v1, v2, v3, .inl (true, z), v5] (.inl (true, z) :: k) s) := rfl
theorem rx_4_leastGap_39 {ns n ct R K s L a z} : rn_4_leastGap ns ct R K (n + 1) 39 L [.inl (a, z)] s = (sy_ri a z ∧ sy_b01 false z ∧ R (some (.inl (true, z))) s) := rfl
def y_4_gapWith : MethodName := ⟨"StarHide$Planner", "gapWith", "(III)I"⟩
abbrev c_4_gapWith : ByteArray := prog_6_method_8_code
def tc_4_gapWith (pc : Nat) : Option sy_I := match pc with
  | 0 => some (.aload_n 0, 1, 0)
  | 1 => some (.getfield 15, 4, 0)
  | 4 => some (.iload_n 1, 5, 0)
  | 5 => some (.iaload, 6, 0)
  | 6 => some (.iload_n 2, 7, 0)
  | 7 => some (.isub, 8, 0)
  | 8 => some (.aload_n 0, 9, 0)
  | 9 => some (.getfield 18, 12, 0)
  | 12 => some (.iload_n 3, 13, 0)
  | 13 => some (.bipush 16, 15, 0)
  | 15 => some (.imul, 16, 0)
  | 16 => some (.iload_n 1, 17, 0)
  | 17 => some (.iadd, 18, 0)
  | 18 => some (.iaload, 19, 0)
  | 19 => some (.invokestatic 81, 22, 0)
  | 22 => some (.ireturn, 23, 0)
  | _ => none
theorem tv_4_gapWith : ∀ pc i, sy_lk 23 tc_4_gapWith pc = some i → sy_chk c_4_gapWith (some .int) false pc i = true := sy_lk_ok 23 tc_4_gapWith (by decide +kernel)
def Mk_4_gapWith (ct : Nat → Option (Bool × Nat × sy_Sp)) : sy_M := (sy_lk 23 tc_4_gapWith, ff_4, ki_4, kl_4, ct, false)
def rn_4_gapWith (ns : Nat) (ct : Nat → Option (Bool × Nat × sy_Sp)) (R : sy_R) (K : sy_K) : Nat → sy_K := sy_run ns (Mk_4_gapWith ct) [] R K
theorem rx_4_gapWith_0 {ns n ct R K s k z v1 v2 v3} : rn_4_gapWith ns ct R K (n + 1) 0 [.inr (.inr (some z)), v1, v2, v3] k s = (rn_4_gapWith ns ct R K n 1 [.inr (.inr (some z)), v1, v2, v3] (.inr (.inr (some z)) :: k) s) := rfl
theorem rx_4_gapWith_1 {ns n ct R K s L k a} : rn_4_gapWith ns ct R K (n + 1) 1 L (.inr (.inr (some (some a))) :: k) s = (sy_ob a = some 4 ∧ rn_4_gapWith ns ct R K n 4 L (sy_fv s a 2 :: k) s) := rfl
theorem rx_4_gapWith_4 {ns n ct R K s k z v0 v2 v3} : rn_4_gapWith ns ct R K (n + 1) 4 [v0, .inl (true, z), v2, v3] k s = (rn_4_gapWith ns ct R K n 5 [v0, .inl (true, z), v2, v3] (.inl (true, z) :: k) s) := rfl
theorem rx_4_gapWith_5 {ns n ct R K s L k a b z} : rn_4_gapWith ns ct R K (n + 1) 5 L (.inl (b, z) :: .inr (.inr (some (some a))) :: k) s = ((0 ≤ z ∧ z < (sy_ar a).2) ∧ sy_ob a = none ∧ (sy_ar a).1 = 0 ∧ rn_4_gapWith ns ct R K n 6 L (.inl (true, s a z.toNat) :: k) s) := rfl
theorem rx_4_gapWith_6 {ns n ct R K s k z v0 v1 v3} : rn_4_gapWith ns ct R K (n + 1) 6 [v0, v1, .inl (true, z), v3] k s = (rn_4_gapWith ns ct R K n 7 [v0, v1, .inl (true, z), v3] (.inl (true, z) :: k) s) := rfl
theorem rx_4_gapWith_7 {ns n ct R K s L k a b x y} : rn_4_gapWith ns ct R K (n + 1) 7 L (.inl (b, y) :: .inl (a, x) :: k) s = (rn_4_gapWith ns ct R K n 8 L (.inl (false, x - y) :: k) s) := rfl
theorem rx_4_gapWith_8 {ns n ct R K s k z v1 v2 v3} : rn_4_gapWith ns ct R K (n + 1) 8 [.inr (.inr (some z)), v1, v2, v3] k s = (rn_4_gapWith ns ct R K n 9 [.inr (.inr (some z)), v1, v2, v3] (.inr (.inr (some z)) :: k) s) := rfl
theorem rx_4_gapWith_9 {ns n ct R K s L k a} : rn_4_gapWith ns ct R K (n + 1) 9 L (.inr (.inr (some (some a))) :: k) s = (sy_ob a = some 4 ∧ rn_4_gapWith ns ct R K n 12 L (sy_fv s a 4 :: k) s) := rfl
theorem rx_4_gapWith_12 {ns n ct R K s k z v0 v1 v2} : rn_4_gapWith ns ct R K (n + 1) 12 [v0, v1, v2, .inl (true, z)] k s = (rn_4_gapWith ns ct R K n 13 [v0, v1, v2, .inl (true, z)] (.inl (true, z) :: k) s) := rfl
theorem rx_4_gapWith_13 {ns n ct R K s L k} : rn_4_gapWith ns ct R K (n + 1) 13 L k s = (rn_4_gapWith ns ct R K n 15 L (.inl (true, 16) :: k) s) := rfl
theorem rx_4_gapWith_15 {ns n ct R K s L k a b x y} : rn_4_gapWith ns ct R K (n + 1) 15 L (.inl (b, y) :: .inl (a, x) :: k) s = (rn_4_gapWith ns ct R K n 16 L (.inl (false, x * y) :: k) s) := rfl
theorem rx_4_gapWith_16 {ns n ct R K s k z v0 v2 v3} : rn_4_gapWith ns ct R K (n + 1) 16 [v0, .inl (true, z), v2, v3] k s = (rn_4_gapWith ns ct R K n 17 [v0, .inl (true, z), v2, v3] (.inl (true, z) :: k) s) := rfl
theorem rx_4_gapWith_17 {ns n ct R K s L k a b x y} : rn_4_gapWith ns ct R K (n + 1) 17 L (.inl (b, y) :: .inl (a, x) :: k) s = (rn_4_gapWith ns ct R K n 18 L (.inl (false, x + y) :: k) s) := rfl
theorem rx_4_gapWith_18 {ns n ct R K s L k a b z} : rn_4_gapWith ns ct R K (n + 1) 18 L (.inl (b, z) :: .inr (.inr (some (some a))) :: k) s = ((0 ≤ z ∧ z < (sy_ar a).2) ∧ sy_ob a = none ∧ (sy_ar a).1 = 0 ∧ rn_4_gapWith ns ct R K n 19 L (.inl (true, s a z.toNat) :: k) s) := rfl
theorem rx_4_gapWith_19 {ns n ct R K s L k} : rn_4_gapWith ns ct R K (n + 1) 19 L k s = (sy_call true (ct 81) k s fun r t => rn_4_gapWith ns ct R K n 22 L r t) := rfl
theorem rx_4_gapWith_22 {ns n ct R K s L a z} : rn_4_gapWith ns ct R K (n + 1) 22 L [.inl (a, z)] s = (sy_ri a z ∧ sy_b01 false z ∧ R (some (.inl (true, z))) s) := rfl
def y_4_pick : MethodName := ⟨"StarHide$Planner", "pick", "(III)V"⟩
abbrev c_4_pick : ByteArray := prog_6_method_9_code
def tc_4_pick (pc : Nat) : Option sy_I := match pc with
  | 0 => some (.aload_n 0, 1, 0)
  | 1 => some (.iconst 0, 2, 0)
  | 2 => some (.putfield 28, 5, 0)
  | 5 => some (.iload_n 2, 6, 0)
  | 6 => some (.istore 4, 8, 0)
  | 8 => some (.iconst 0, 9, 0)
  | 9 => some (.istore 5, 11, 0)
  | 11 => some (.iload 5, 13, 0)
  | 13 => some (.aload_n 0, 14, 0)
  | 14 => some (.getfield 36, 17, 0)
  | 17 => some (.if_icmp .ge 72, 20, 89)
  | 20 => some (.aload_n 0, 21, 0)
  | 21 => some (.getfield 28, 24, 0)
  | 24 => some (.iload_n 1, 25, 0)
  | 25 => some (.if_icmp .ge 64, 28, 89)
  | 28 => some (.aload_n 0, 29, 0)
  | 29 => some (.iload 5, 31, 0)
  | 31 => some (.iload 4, 33, 0)
  | 33 => some (.iload_n 1, 34, 0)
  | 34 => some (.iconst 1, 35, 0)
  | 35 => some (.isub, 36, 0)
  | 36 => some (.aload_n 0, 37, 0)
  | 37 => some (.getfield 28, 40, 0)
  | 40 => some (.isub, 41, 0)
  | 41 => some (.invokevirtual 72, 44, 0)
  | 44 => some (.iload_n 3, 45, 0)
  | 45 => some (.if_icmp .gt 38, 48, 83)
  | 48 => some (.aload_n 0, 49, 0)
  | 49 => some (.getfield 21, 52, 0)
  | 52 => some (.aload_n 0, 53, 0)
  | 53 => some (.getfield 28, 56, 0)
  | 56 => some (.aload_n 0, 57, 0)
  | 57 => some (.getfield 9, 60, 0)
  | 60 => some (.iload 5, 62, 0)
  | 62 => some (.iaload, 63, 0)
  | 63 => some (.iastore, 64, 0)
  | 64 => some (.aload_n 0, 65, 0)
  | 65 => some (.dup, 66, 0)
  | 66 => some (.getfield 28, 69, 0)
  | 69 => some (.iconst 1, 70, 0)
  | 70 => some (.iadd, 71, 0)
  | 71 => some (.putfield 28, 74, 0)
  | 74 => some (.aload_n 0, 75, 0)
  | 75 => some (.getfield 15, 78, 0)
  | 78 => some (.iload 5, 80, 0)
  | 80 => some (.iaload, 81, 0)
  | 81 => some (.istore 4, 83, 0)
  | 83 => some (.iinc 5 1, 86, 0)
  | 86 => some (.goto (-75), 89, 11)
  | 89 => some (.return_, 90, 0)
  | _ => none
theorem tv_4_pick : ∀ pc i, sy_lk 90 tc_4_pick pc = some i → sy_chk c_4_pick none false pc i = true := sy_lk_ok 90 tc_4_pick (by decide +kernel)
def Mk_4_pick (ct : Nat → Option (Bool × Nat × sy_Sp)) : sy_M := (sy_lk 90 tc_4_pick, ff_4, ki_4, kl_4, ct, false)
def rn_4_pick (ns : Nat) (ct : Nat → Option (Bool × Nat × sy_Sp)) (R : sy_R) (K : sy_K) : Nat → sy_K := sy_run ns (Mk_4_pick ct) [11] R K
theorem rx_4_pick_0 {ns n ct R K s k z v1 v2 v3 v4 v5} : rn_4_pick ns ct R K (n + 1) 0 [.inr (.inr (some z)), v1, v2, v3, v4, v5] k s = (rn_4_pick ns ct R K n 1 [.inr (.inr (some z)), v1, v2, v3, v4, v5] (.inr (.inr (some z)) :: k) s) := rfl
theorem rx_4_pick_1 {ns n ct R K s L k} : rn_4_pick ns ct R K (n + 1) 1 L k s = (rn_4_pick ns ct R K n 2 L (.inl (true, 0) :: k) s) := rfl
theorem rx_4_pick_2 {ns n ct R K s L k a b z} : rn_4_pick ns ct R K (n + 1) 2 L (.inl (b, z) :: .inr (.inr (some (some a))) :: k) s = (sy_ob a = some 4 ∧ sy_ri b z ∧ sy_b01 false z ∧ rn_4_pick ns ct R K n 5 L k (sy_up s a 6 z)) := rfl
theorem rx_4_pick_5 {ns n ct R K s k z v0 v1 v3 v4 v5} : rn_4_pick ns ct R K (n + 1) 5 [v0, v1, .inl (true, z), v3, v4, v5] k s = (rn_4_pick ns ct R K n 6 [v0, v1, .inl (true, z), v3, v4, v5] (.inl (true, z) :: k) s) := rfl
theorem rx_4_pick_6 {ns n ct R K s L k b z} : rn_4_pick ns ct R K (n + 1) 6 L (.inl (b, z) :: k) s = (sy_ri b z ∧ 4 < L.length ∧ rn_4_pick ns ct R K n 8 (sy_sto L 4 (.inl (true, z))) k s) := rfl
theorem rx_4_pick_8 {ns n ct R K s L k} : rn_4_pick ns ct R K (n + 1) 8 L k s = (rn_4_pick ns ct R K n 9 L (.inl (true, 0) :: k) s) := rfl
theorem rx_4_pick_9 {ns n ct R K s L k b z} : rn_4_pick ns ct R K (n + 1) 9 L (.inl (b, z) :: k) s = (sy_ri b z ∧ 5 < L.length ∧ K 11 (sy_sto L 5 (.inl (true, z))) k s) := rfl
theorem rx_4_pick_11 {ns n ct R K s k z v0 v1 v2 v3 v4} : rn_4_pick ns ct R K (n + 1) 11 [v0, v1, v2, v3, v4, .inl (true, z)] k s = (rn_4_pick ns ct R K n 13 [v0, v1, v2, v3, v4, .inl (true, z)] (.inl (true, z) :: k) s) := rfl
theorem rx_4_pick_13 {ns n ct R K s k z v1 v2 v3 v4 v5} : rn_4_pick ns ct R K (n + 1) 13 [.inr (.inr (some z)), v1, v2, v3, v4, v5] k s = (rn_4_pick ns ct R K n 14 [.inr (.inr (some z)), v1, v2, v3, v4, v5] (.inr (.inr (some z)) :: k) s) := rfl
theorem rx_4_pick_14 {ns n ct R K s L k a} : rn_4_pick ns ct R K (n + 1) 14 L (.inr (.inr (some (some a))) :: k) s = (sy_ob a = some 4 ∧ rn_4_pick ns ct R K n 17 L (sy_fv s a 3 :: k) s) := rfl
theorem rx_4_pick_17 {ns n ct R K s L k a b x y} : rn_4_pick ns ct R K (n + 1) 17 L (.inl (b, y) :: .inl (a, x) :: k) s = (sy_ri a x ∧ sy_ri b y ∧ (y ≤ x → rn_4_pick ns ct R K n 89 L k s) ∧ (¬ y ≤ x → rn_4_pick ns ct R K n 20 L k s)) := rfl
theorem rx_4_pick_20 {ns n ct R K s k z v1 v2 v3 v4 v5} : rn_4_pick ns ct R K (n + 1) 20 [.inr (.inr (some z)), v1, v2, v3, v4, v5] k s = (rn_4_pick ns ct R K n 21 [.inr (.inr (some z)), v1, v2, v3, v4, v5] (.inr (.inr (some z)) :: k) s) := rfl
theorem rx_4_pick_21 {ns n ct R K s L k a} : rn_4_pick ns ct R K (n + 1) 21 L (.inr (.inr (some (some a))) :: k) s = (sy_ob a = some 4 ∧ rn_4_pick ns ct R K n 24 L (sy_fv s a 6 :: k) s) := rfl
theorem rx_4_pick_24 {ns n ct R K s k z v0 v2 v3 v4 v5} : rn_4_pick ns ct R K (n + 1) 24 [v0, .inl (true, z), v2, v3, v4, v5] k s = (rn_4_pick ns ct R K n 25 [v0, .inl (true, z), v2, v3, v4, v5] (.inl (true, z) :: k) s) := rfl
theorem rx_4_pick_25 {ns n ct R K s L k a b x y} : rn_4_pick ns ct R K (n + 1) 25 L (.inl (b, y) :: .inl (a, x) :: k) s = (sy_ri a x ∧ sy_ri b y ∧ (y ≤ x → rn_4_pick ns ct R K n 89 L k s) ∧ (¬ y ≤ x → rn_4_pick ns ct R K n 28 L k s)) := rfl
theorem rx_4_pick_28 {ns n ct R K s k z v1 v2 v3 v4 v5} : rn_4_pick ns ct R K (n + 1) 28 [.inr (.inr (some z)), v1, v2, v3, v4, v5] k s = (rn_4_pick ns ct R K n 29 [.inr (.inr (some z)), v1, v2, v3, v4, v5] (.inr (.inr (some z)) :: k) s) := rfl
theorem rx_4_pick_29 {ns n ct R K s k z v0 v1 v2 v3 v4} : rn_4_pick ns ct R K (n + 1) 29 [v0, v1, v2, v3, v4, .inl (true, z)] k s = (rn_4_pick ns ct R K n 31 [v0, v1, v2, v3, v4, .inl (true, z)] (.inl (true, z) :: k) s) := rfl
theorem rx_4_pick_31 {ns n ct R K s k z v0 v1 v2 v3 v5} : rn_4_pick ns ct R K (n + 1) 31 [v0, v1, v2, v3, .inl (true, z), v5] k s = (rn_4_pick ns ct R K n 33 [v0, v1, v2, v3, .inl (true, z), v5] (.inl (true, z) :: k) s) := rfl
theorem rx_4_pick_33 {ns n ct R K s k z v0 v2 v3 v4 v5} : rn_4_pick ns ct R K (n + 1) 33 [v0, .inl (true, z), v2, v3, v4, v5] k s = (rn_4_pick ns ct R K n 34 [v0, .inl (true, z), v2, v3, v4, v5] (.inl (true, z) :: k) s) := rfl
theorem rx_4_pick_34 {ns n ct R K s L k} : rn_4_pick ns ct R K (n + 1) 34 L k s = (rn_4_pick ns ct R K n 35 L (.inl (true, 1) :: k) s) := rfl
theorem rx_4_pick_35 {ns n ct R K s L k a b x y} : rn_4_pick ns ct R K (n + 1) 35 L (.inl (b, y) :: .inl (a, x) :: k) s = (rn_4_pick ns ct R K n 36 L (.inl (false, x - y) :: k) s) := rfl
theorem rx_4_pick_36 {ns n ct R K s k z v1 v2 v3 v4 v5} : rn_4_pick ns ct R K (n + 1) 36 [.inr (.inr (some z)), v1, v2, v3, v4, v5] k s = (rn_4_pick ns ct R K n 37 [.inr (.inr (some z)), v1, v2, v3, v4, v5] (.inr (.inr (some z)) :: k) s) := rfl
theorem rx_4_pick_37 {ns n ct R K s L k a} : rn_4_pick ns ct R K (n + 1) 37 L (.inr (.inr (some (some a))) :: k) s = (sy_ob a = some 4 ∧ rn_4_pick ns ct R K n 40 L (sy_fv s a 6 :: k) s) := rfl
theorem rx_4_pick_40 {ns n ct R K s L k a b x y} : rn_4_pick ns ct R K (n + 1) 40 L (.inl (b, y) :: .inl (a, x) :: k) s = (rn_4_pick ns ct R K n 41 L (.inl (false, x - y) :: k) s) := rfl
theorem rx_4_pick_41 {ns n ct R K s L k} : rn_4_pick ns ct R K (n + 1) 41 L k s = (sy_call false (ct 72) k s fun r t => rn_4_pick ns ct R K n 44 L r t) := rfl
theorem rx_4_pick_44 {ns n ct R K s k z v0 v1 v2 v4 v5} : rn_4_pick ns ct R K (n + 1) 44 [v0, v1, v2, .inl (true, z), v4, v5] k s = (rn_4_pick ns ct R K n 45 [v0, v1, v2, .inl (true, z), v4, v5] (.inl (true, z) :: k) s) := rfl
theorem rx_4_pick_45 {ns n ct R K s L k a b x y} : rn_4_pick ns ct R K (n + 1) 45 L (.inl (b, y) :: .inl (a, x) :: k) s = (sy_ri a x ∧ sy_ri b y ∧ (y < x → rn_4_pick ns ct R K n 83 L k s) ∧ (¬ y < x → rn_4_pick ns ct R K n 48 L k s)) := rfl
theorem rx_4_pick_48 {ns n ct R K s k z v1 v2 v3 v4 v5} : rn_4_pick ns ct R K (n + 1) 48 [.inr (.inr (some z)), v1, v2, v3, v4, v5] k s = (rn_4_pick ns ct R K n 49 [.inr (.inr (some z)), v1, v2, v3, v4, v5] (.inr (.inr (some z)) :: k) s) := rfl
theorem rx_4_pick_49 {ns n ct R K s L k a} : rn_4_pick ns ct R K (n + 1) 49 L (.inr (.inr (some (some a))) :: k) s = (sy_ob a = some 4 ∧ rn_4_pick ns ct R K n 52 L (sy_fv s a 5 :: k) s) := rfl
theorem rx_4_pick_52 {ns n ct R K s k z v1 v2 v3 v4 v5} : rn_4_pick ns ct R K (n + 1) 52 [.inr (.inr (some z)), v1, v2, v3, v4, v5] k s = (rn_4_pick ns ct R K n 53 [.inr (.inr (some z)), v1, v2, v3, v4, v5] (.inr (.inr (some z)) :: k) s) := rfl
theorem rx_4_pick_53 {ns n ct R K s L k a} : rn_4_pick ns ct R K (n + 1) 53 L (.inr (.inr (some (some a))) :: k) s = (sy_ob a = some 4 ∧ rn_4_pick ns ct R K n 56 L (sy_fv s a 6 :: k) s) := rfl
theorem rx_4_pick_56 {ns n ct R K s k z v1 v2 v3 v4 v5} : rn_4_pick ns ct R K (n + 1) 56 [.inr (.inr (some z)), v1, v2, v3, v4, v5] k s = (rn_4_pick ns ct R K n 57 [.inr (.inr (some z)), v1, v2, v3, v4, v5] (.inr (.inr (some z)) :: k) s) := rfl
theorem rx_4_pick_57 {ns n ct R K s L k a} : rn_4_pick ns ct R K (n + 1) 57 L (.inr (.inr (some (some a))) :: k) s = (sy_ob a = some 4 ∧ rn_4_pick ns ct R K n 60 L (sy_fv s a 1 :: k) s) := rfl
theorem rx_4_pick_60 {ns n ct R K s k z v0 v1 v2 v3 v4} : rn_4_pick ns ct R K (n + 1) 60 [v0, v1, v2, v3, v4, .inl (true, z)] k s = (rn_4_pick ns ct R K n 62 [v0, v1, v2, v3, v4, .inl (true, z)] (.inl (true, z) :: k) s) := rfl
theorem rx_4_pick_62 {ns n ct R K s L k a b z} : rn_4_pick ns ct R K (n + 1) 62 L (.inl (b, z) :: .inr (.inr (some (some a))) :: k) s = ((0 ≤ z ∧ z < (sy_ar a).2) ∧ sy_ob a = none ∧ (sy_ar a).1 = 0 ∧ rn_4_pick ns ct R K n 63 L (.inl (true, s a z.toNat) :: k) s) := rfl
theorem rx_4_pick_63 {ns n ct R K s L k a b c z y} : rn_4_pick ns ct R K (n + 1) 63 L (.inl (c, y) :: .inl (b, z) :: .inr (.inr (some (some a))) :: k) s = (sy_ri c y ∧ (0 ≤ z ∧ z < (sy_ar a).2) ∧ sy_ob a = none ∧ (sy_ar a).1 = 0 ∧ rn_4_pick ns ct R K n 64 L k (sy_up s a z.toNat y)) := rfl
theorem rx_4_pick_64 {ns n ct R K s k z v1 v2 v3 v4 v5} : rn_4_pick ns ct R K (n + 1) 64 [.inr (.inr (some z)), v1, v2, v3, v4, v5] k s = (rn_4_pick ns ct R K n 65 [.inr (.inr (some z)), v1, v2, v3, v4, v5] (.inr (.inr (some z)) :: k) s) := rfl
theorem rx_4_pick_65_i {ns n ct R K s L k a} : rn_4_pick ns ct R K (n + 1) 65 L (.inl a :: k) s = (rn_4_pick ns ct R K n 66 L (.inl a :: .inl a :: k) s) := rfl
theorem rx_4_pick_65 {ns n ct R K s L k a} : rn_4_pick ns ct R K (n + 1) 65 L (.inr (.inr a) :: k) s = (rn_4_pick ns ct R K n 66 L (.inr (.inr a) :: .inr (.inr a) :: k) s) := rfl
theorem rx_4_pick_66 {ns n ct R K s L k a} : rn_4_pick ns ct R K (n + 1) 66 L (.inr (.inr (some (some a))) :: k) s = (sy_ob a = some 4 ∧ rn_4_pick ns ct R K n 69 L (sy_fv s a 6 :: k) s) := rfl
theorem rx_4_pick_69 {ns n ct R K s L k} : rn_4_pick ns ct R K (n + 1) 69 L k s = (rn_4_pick ns ct R K n 70 L (.inl (true, 1) :: k) s) := rfl
theorem rx_4_pick_70 {ns n ct R K s L k a b x y} : rn_4_pick ns ct R K (n + 1) 70 L (.inl (b, y) :: .inl (a, x) :: k) s = (rn_4_pick ns ct R K n 71 L (.inl (false, x + y) :: k) s) := rfl
theorem rx_4_pick_71 {ns n ct R K s L k a b z} : rn_4_pick ns ct R K (n + 1) 71 L (.inl (b, z) :: .inr (.inr (some (some a))) :: k) s = (sy_ob a = some 4 ∧ sy_ri b z ∧ sy_b01 false z ∧ rn_4_pick ns ct R K n 74 L k (sy_up s a 6 z)) := rfl
theorem rx_4_pick_74 {ns n ct R K s k z v1 v2 v3 v4 v5} : rn_4_pick ns ct R K (n + 1) 74 [.inr (.inr (some z)), v1, v2, v3, v4, v5] k s = (rn_4_pick ns ct R K n 75 [.inr (.inr (some z)), v1, v2, v3, v4, v5] (.inr (.inr (some z)) :: k) s) := rfl
theorem rx_4_pick_75 {ns n ct R K s L k a} : rn_4_pick ns ct R K (n + 1) 75 L (.inr (.inr (some (some a))) :: k) s = (sy_ob a = some 4 ∧ rn_4_pick ns ct R K n 78 L (sy_fv s a 2 :: k) s) := rfl
theorem rx_4_pick_78 {ns n ct R K s k z v0 v1 v2 v3 v4} : rn_4_pick ns ct R K (n + 1) 78 [v0, v1, v2, v3, v4, .inl (true, z)] k s = (rn_4_pick ns ct R K n 80 [v0, v1, v2, v3, v4, .inl (true, z)] (.inl (true, z) :: k) s) := rfl
theorem rx_4_pick_80 {ns n ct R K s L k a b z} : rn_4_pick ns ct R K (n + 1) 80 L (.inl (b, z) :: .inr (.inr (some (some a))) :: k) s = ((0 ≤ z ∧ z < (sy_ar a).2) ∧ sy_ob a = none ∧ (sy_ar a).1 = 0 ∧ rn_4_pick ns ct R K n 81 L (.inl (true, s a z.toNat) :: k) s) := rfl
theorem rx_4_pick_81 {ns n ct R K s L k b z} : rn_4_pick ns ct R K (n + 1) 81 L (.inl (b, z) :: k) s = (sy_ri b z ∧ 4 < L.length ∧ rn_4_pick ns ct R K n 83 (sy_sto L 4 (.inl (true, z))) k s) := rfl
theorem rx_4_pick_83 {ns n ct R K s k z v0 v1 v2 v3 v4} : rn_4_pick ns ct R K (n + 1) 83 [v0, v1, v2, v3, v4, .inl (true, z)] k s = ((-2147483648 ≤ z + 1 ∧ z + 1 < 2147483648) ∧ rn_4_pick ns ct R K n 86 (sy_sto [v0, v1, v2, v3, v4, .inl (true, z)] 5 (.inl (true, z + 1))) k s) := rfl
theorem rx_4_pick_86 {ns n ct R K s L k} : rn_4_pick ns ct R K (n + 1) 86 L k s = (K 11 L k s) := rfl
theorem rx_4_pick_89 {ns n ct R K s L} : rn_4_pick ns ct R K (n + 1) 89 L [] s = (R none s) := rfl
