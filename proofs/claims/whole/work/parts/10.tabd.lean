def y_9_isBad : MethodName := ⟨"StarHideModel", "isBad", "(I)I"⟩
abbrev c_9_isBad : ByteArray := prog_11_method_31_code
def tc_9_isBad (pc : Nat) : Option sy_I := match pc with
  | 0 => some (.aload_n 0, 1, 0)
  | 1 => some (.iload_n 1, 2, 0)
  | 2 => some (.invokevirtual 73, 5, 0)
  | 5 => some (.ifCond .ne 7, 8, 12)
  | 8 => some (.iconst (-1), 9, 0)
  | 9 => some (.goto 20, 12, 29)
  | 12 => some (.aload_n 0, 13, 0)
  | 13 => some (.aload_n 0, 14, 0)
  | 14 => some (.invokevirtual 117, 17, 0)
  | 17 => some (.iload_n 1, 18, 0)
  | 18 => some (.invokevirtual 110, 21, 0)
  | 21 => some (.ifCond .eq 7, 24, 28)
  | 24 => some (.iconst 0, 25, 0)
  | 25 => some (.goto 4, 28, 29)
  | 28 => some (.iconst 1, 29, 0)
  | 29 => some (.ireturn, 30, 0)
  | _ => none
theorem tv_9_isBad : ∀ pc i, sy_lk 30 tc_9_isBad pc = some i → sy_chk c_9_isBad (some .int) false pc i = true := sy_lk_ok 30 tc_9_isBad (by decide +kernel)
def Mk_9_isBad (ct : Nat → Option (Bool × Nat × sy_Sp)) : sy_M := (sy_lk 30 tc_9_isBad, ff_9, ki_9, kl_9, ct, false)
def rn_9_isBad (ns : Nat) (ct : Nat → Option (Bool × Nat × sy_Sp)) (R : sy_R) (K : sy_K) : Nat → sy_K := sy_run ns (Mk_9_isBad ct) [] R K
theorem rx_9_isBad_0 {ns n ct R K s k z v1} : rn_9_isBad ns ct R K (n + 1) 0 [.inr (.inr (some z)), v1] k s = (rn_9_isBad ns ct R K n 1 [.inr (.inr (some z)), v1] (.inr (.inr (some z)) :: k) s) := rfl
theorem rx_9_isBad_1 {ns n ct R K s k z v0} : rn_9_isBad ns ct R K (n + 1) 1 [v0, .inl (true, z)] k s = (rn_9_isBad ns ct R K n 2 [v0, .inl (true, z)] (.inl (true, z) :: k) s) := rfl
theorem rx_9_isBad_2 {ns n ct R K s L k} : rn_9_isBad ns ct R K (n + 1) 2 L k s = (sy_call false (ct 73) k s fun r t => rn_9_isBad ns ct R K n 5 L r t) := rfl
theorem rx_9_isBad_5 {ns n ct R K s L k a x} : rn_9_isBad ns ct R K (n + 1) 5 L (.inl (a, x) :: k) s = (sy_ri a x ∧ (¬ x = 0 → rn_9_isBad ns ct R K n 12 L k s) ∧ (x = 0 → rn_9_isBad ns ct R K n 8 L k s)) := rfl
theorem rx_9_isBad_8 {ns n ct R K s L k} : rn_9_isBad ns ct R K (n + 1) 8 L k s = (rn_9_isBad ns ct R K n 9 L (.inl (true, (-1)) :: k) s) := rfl
theorem rx_9_isBad_9 {ns n ct R K s L k} : rn_9_isBad ns ct R K (n + 1) 9 L k s = (rn_9_isBad ns ct R K n 29 L k s) := rfl
theorem rx_9_isBad_12 {ns n ct R K s k z v1} : rn_9_isBad ns ct R K (n + 1) 12 [.inr (.inr (some z)), v1] k s = (rn_9_isBad ns ct R K n 13 [.inr (.inr (some z)), v1] (.inr (.inr (some z)) :: k) s) := rfl
theorem rx_9_isBad_13 {ns n ct R K s k z v1} : rn_9_isBad ns ct R K (n + 1) 13 [.inr (.inr (some z)), v1] k s = (rn_9_isBad ns ct R K n 14 [.inr (.inr (some z)), v1] (.inr (.inr (some z)) :: k) s) := rfl
theorem rx_9_isBad_14 {ns n ct R K s L k} : rn_9_isBad ns ct R K (n + 1) 14 L k s = (sy_call false (ct 117) k s fun r t => rn_9_isBad ns ct R K n 17 L r t) := rfl
theorem rx_9_isBad_17 {ns n ct R K s k z v0} : rn_9_isBad ns ct R K (n + 1) 17 [v0, .inl (true, z)] k s = (rn_9_isBad ns ct R K n 18 [v0, .inl (true, z)] (.inl (true, z) :: k) s) := rfl
theorem rx_9_isBad_18 {ns n ct R K s L k} : rn_9_isBad ns ct R K (n + 1) 18 L k s = (sy_call false (ct 110) k s fun r t => rn_9_isBad ns ct R K n 21 L r t) := rfl
theorem rx_9_isBad_21 {ns n ct R K s L k a x} : rn_9_isBad ns ct R K (n + 1) 21 L (.inl (a, x) :: k) s = (sy_ri a x ∧ (x = 0 → rn_9_isBad ns ct R K n 28 L k s) ∧ (¬ x = 0 → rn_9_isBad ns ct R K n 24 L k s)) := rfl
theorem rx_9_isBad_24 {ns n ct R K s L k} : rn_9_isBad ns ct R K (n + 1) 24 L k s = (rn_9_isBad ns ct R K n 25 L (.inl (true, 0) :: k) s) := rfl
theorem rx_9_isBad_25 {ns n ct R K s L k} : rn_9_isBad ns ct R K (n + 1) 25 L k s = (rn_9_isBad ns ct R K n 29 L k s) := rfl
theorem rx_9_isBad_28 {ns n ct R K s L k} : rn_9_isBad ns ct R K (n + 1) 28 L k s = (rn_9_isBad ns ct R K n 29 L (.inl (true, 1) :: k) s) := rfl
theorem rx_9_isBad_29 {ns n ct R K s L a z} : rn_9_isBad ns ct R K (n + 1) 29 L [.inl (a, z)] s = (sy_ri a z ∧ sy_b01 false z ∧ R (some (.inl (true, z))) s) := rfl
def y_9_anyFits : MethodName := ⟨"StarHideModel", "anyFits", "()Z"⟩
abbrev c_9_anyFits : ByteArray := prog_11_method_32_code
def tc_9_anyFits (pc : Nat) : Option sy_I := match pc with
  | 0 => some (.iconst 0, 1, 0)
  | 1 => some (.istore_n 1, 2, 0)
  | 2 => some (.iload_n 1, 3, 0)
  | 3 => some (.aload_n 0, 4, 0)
  | 4 => some (.invokevirtual 89, 7, 0)
  | 7 => some (.if_icmp .ge 19, 10, 26)
  | 10 => some (.aload_n 0, 11, 0)
  | 11 => some (.iload_n 1, 12, 0)
  | 12 => some (.invokevirtual 113, 15, 0)
  | 15 => some (.ifCond .ne 5, 18, 20)
  | 18 => some (.iconst 1, 19, 0)
  | 19 => some (.ireturn, 20, 0)
  | 20 => some (.iinc 1 1, 23, 0)
  | 23 => some (.goto (-21), 26, 2)
  | 26 => some (.iconst 0, 27, 0)
  | 27 => some (.ireturn, 28, 0)
  | _ => none
theorem tv_9_anyFits : ∀ pc i, sy_lk 28 tc_9_anyFits pc = some i → sy_chk c_9_anyFits (some .boolean) true pc i = true := sy_lk_ok 28 tc_9_anyFits (by decide +kernel)
def Mk_9_anyFits (ct : Nat → Option (Bool × Nat × sy_Sp)) : sy_M := (sy_lk 28 tc_9_anyFits, ff_9, ki_9, kl_9, ct, true)
def rn_9_anyFits (ns : Nat) (ct : Nat → Option (Bool × Nat × sy_Sp)) (R : sy_R) (K : sy_K) : Nat → sy_K := sy_run ns (Mk_9_anyFits ct) [2] R K
theorem rx_9_anyFits_0 {ns n ct R K s L k} : rn_9_anyFits ns ct R K (n + 1) 0 L k s = (rn_9_anyFits ns ct R K n 1 L (.inl (true, 0) :: k) s) := rfl
theorem rx_9_anyFits_1 {ns n ct R K s L k b z} : rn_9_anyFits ns ct R K (n + 1) 1 L (.inl (b, z) :: k) s = (sy_ri b z ∧ 1 < L.length ∧ K 2 (sy_sto L 1 (.inl (true, z))) k s) := rfl
theorem rx_9_anyFits_2 {ns n ct R K s k z v0} : rn_9_anyFits ns ct R K (n + 1) 2 [v0, .inl (true, z)] k s = (rn_9_anyFits ns ct R K n 3 [v0, .inl (true, z)] (.inl (true, z) :: k) s) := rfl
theorem rx_9_anyFits_3 {ns n ct R K s k z v1} : rn_9_anyFits ns ct R K (n + 1) 3 [.inr (.inr (some z)), v1] k s = (rn_9_anyFits ns ct R K n 4 [.inr (.inr (some z)), v1] (.inr (.inr (some z)) :: k) s) := rfl
theorem rx_9_anyFits_4 {ns n ct R K s L k} : rn_9_anyFits ns ct R K (n + 1) 4 L k s = (sy_call false (ct 89) k s fun r t => rn_9_anyFits ns ct R K n 7 L r t) := rfl
theorem rx_9_anyFits_7 {ns n ct R K s L k a b x y} : rn_9_anyFits ns ct R K (n + 1) 7 L (.inl (b, y) :: .inl (a, x) :: k) s = (sy_ri a x ∧ sy_ri b y ∧ (y ≤ x → rn_9_anyFits ns ct R K n 26 L k s) ∧ (¬ y ≤ x → rn_9_anyFits ns ct R K n 10 L k s)) := rfl
theorem rx_9_anyFits_10 {ns n ct R K s k z v1} : rn_9_anyFits ns ct R K (n + 1) 10 [.inr (.inr (some z)), v1] k s = (rn_9_anyFits ns ct R K n 11 [.inr (.inr (some z)), v1] (.inr (.inr (some z)) :: k) s) := rfl
theorem rx_9_anyFits_11 {ns n ct R K s k z v0} : rn_9_anyFits ns ct R K (n + 1) 11 [v0, .inl (true, z)] k s = (rn_9_anyFits ns ct R K n 12 [v0, .inl (true, z)] (.inl (true, z) :: k) s) := rfl
theorem rx_9_anyFits_12 {ns n ct R K s L k} : rn_9_anyFits ns ct R K (n + 1) 12 L k s = (sy_call false (ct 113) k s fun r t => rn_9_anyFits ns ct R K n 15 L r t) := rfl
theorem rx_9_anyFits_15 {ns n ct R K s L k a x} : rn_9_anyFits ns ct R K (n + 1) 15 L (.inl (a, x) :: k) s = (sy_ri a x ∧ (¬ x = 0 → rn_9_anyFits ns ct R K n 20 L k s) ∧ (x = 0 → rn_9_anyFits ns ct R K n 18 L k s)) := rfl
theorem rx_9_anyFits_18 {ns n ct R K s L k} : rn_9_anyFits ns ct R K (n + 1) 18 L k s = (rn_9_anyFits ns ct R K n 19 L (.inl (true, 1) :: k) s) := rfl
theorem rx_9_anyFits_19 {ns n ct R K s L a z} : rn_9_anyFits ns ct R K (n + 1) 19 L [.inl (a, z)] s = (sy_ri a z ∧ sy_b01 true z ∧ R (some (.inl (true, z))) s) := rfl
theorem rx_9_anyFits_20 {ns n ct R K s k z v0} : rn_9_anyFits ns ct R K (n + 1) 20 [v0, .inl (true, z)] k s = ((-2147483648 ≤ z + 1 ∧ z + 1 < 2147483648) ∧ rn_9_anyFits ns ct R K n 23 (sy_sto [v0, .inl (true, z)] 1 (.inl (true, z + 1))) k s) := rfl
theorem rx_9_anyFits_23 {ns n ct R K s L k} : rn_9_anyFits ns ct R K (n + 1) 23 L k s = (K 2 L k s) := rfl
theorem rx_9_anyFits_26 {ns n ct R K s L k} : rn_9_anyFits ns ct R K (n + 1) 26 L k s = (rn_9_anyFits ns ct R K n 27 L (.inl (true, 0) :: k) s) := rfl
theorem rx_9_anyFits_27 {ns n ct R K s L a z} : rn_9_anyFits ns ct R K (n + 1) 27 L [.inl (a, z)] s = (sy_ri a z ∧ sy_b01 true z ∧ R (some (.inl (true, z))) s) := rfl
def y_9_clock : MethodName := ⟨"StarHideModel", "clock", "(II)I"⟩
abbrev c_9_clock : ByteArray := prog_11_method_33_code
def tc_9_clock (pc : Nat) : Option sy_I := match pc with
  | 0 => some (.aload_n 0, 1, 0)
  | 1 => some (.iload_n 1, 2, 0)
  | 2 => some (.invokevirtual 73, 5, 0)
  | 5 => some (.ifCond .eq 12, 8, 17)
  | 8 => some (.iload_n 2, 9, 0)
  | 9 => some (.iconst 0, 10, 0)
  | 10 => some (.iconst 2, 11, 0)
  | 11 => some (.invokestatic 69, 14, 0)
  | 14 => some (.ifCond .ne 7, 17, 21)
  | 17 => some (.sipush (-1000), 20, 0)
  | 20 => some (.ireturn, 21, 0)
  | 21 => some (.aload_n 0, 22, 0)
  | 22 => some (.getfield 23, 25, 0)
  | 25 => some (.iload_n 1, 26, 0)
  | 26 => some (.iaload, 27, 0)
  | 27 => some (.istore_n 3, 28, 0)
  | 28 => some (.iconst 0, 29, 0)
  | 29 => some (.istore 4, 31, 0)
  | 31 => some (.sipush (-1000), 34, 0)
  | 34 => some (.istore 5, 36, 0)
  | 36 => some (.sipush (-1000), 39, 0)
  | 39 => some (.istore 6, 41, 0)
  | 41 => some (.bipush (-50), 43, 0)
  | 43 => some (.istore 7, 45, 0)
  | 45 => some (.iload 7, 47, 0)
  | 47 => some (.bipush 50, 49, 0)
  | 49 => some (.if_icmp .gt 51, 52, 100)
  | 52 => some (.aload_n 0, 53, 0)
  | 53 => some (.getfield 23, 56, 0)
  | 56 => some (.iload_n 1, 57, 0)
  | 57 => some (.iload 7, 59, 0)
  | 59 => some (.iastore, 60, 0)
  | 60 => some (.aload_n 0, 61, 0)
  | 61 => some (.invokevirtual 120, 64, 0)
  | 64 => some (.ifCond .ne 6, 67, 70)
  | 67 => some (.goto 27, 70, 94)
  | 70 => some (.iinc 4 1, 73, 0)
  | 73 => some (.iload 5, 75, 0)
  | 75 => some (.sipush (-1000), 78, 0)
  | 78 => some (.if_icmp .ne 8, 81, 86)
  | 81 => some (.iload 7, 83, 0)
  | 83 => some (.goto 5, 86, 88)
  | 86 => some (.iload 5, 88, 0)
  | 88 => some (.istore 5, 90, 0)
  | 90 => some (.iload 7, 92, 0)
  | 92 => some (.istore 6, 94, 0)
  | 94 => some (.iinc 7 1, 97, 0)
  | 97 => some (.goto (-52), 100, 45)
  | 100 => some (.aload_n 0, 101, 0)
  | 101 => some (.getfield 23, 104, 0)
  | 104 => some (.iload_n 1, 105, 0)
  | 105 => some (.iload_n 3, 106, 0)
  | 106 => some (.iastore, 107, 0)
  | 107 => some (.iload_n 2, 108, 0)
  | 108 => some (.ifCond .ne 8, 111, 116)
  | 111 => some (.iload 4, 113, 0)
  | 113 => some (.goto 15, 116, 128)
  | 116 => some (.iload_n 2, 117, 0)
  | 117 => some (.iconst 1, 118, 0)
  | 118 => some (.if_icmp .ne 8, 121, 126)
  | 121 => some (.iload 5, 123, 0)
  | 123 => some (.goto 5, 126, 128)
  | 126 => some (.iload 6, 128, 0)
  | 128 => some (.ireturn, 129, 0)
  | _ => none
theorem tv_9_clock : ∀ pc i, sy_lk 129 tc_9_clock pc = some i → sy_chk c_9_clock (some .int) false pc i = true := sy_lk_ok 129 tc_9_clock (by decide +kernel)
def Mk_9_clock (ct : Nat → Option (Bool × Nat × sy_Sp)) : sy_M := (sy_lk 129 tc_9_clock, ff_9, ki_9, kl_9, ct, false)
def rn_9_clock (ns : Nat) (ct : Nat → Option (Bool × Nat × sy_Sp)) (R : sy_R) (K : sy_K) : Nat → sy_K := sy_run ns (Mk_9_clock ct) [45] R K
theorem rx_9_clock_0 {ns n ct R K s k z v1 v2 v3 v4 v5 v6 v7} : rn_9_clock ns ct R K (n + 1) 0 [.inr (.inr (some z)), v1, v2, v3, v4, v5, v6, v7] k s = (rn_9_clock ns ct R K n 1 [.inr (.inr (some z)), v1, v2, v3, v4, v5, v6, v7] (.inr (.inr (some z)) :: k) s) := rfl
theorem rx_9_clock_1 {ns n ct R K s k z v0 v2 v3 v4 v5 v6 v7} : rn_9_clock ns ct R K (n + 1) 1 [v0, .inl (true, z), v2, v3, v4, v5, v6, v7] k s = (rn_9_clock ns ct R K n 2 [v0, .inl (true, z), v2, v3, v4, v5, v6, v7] (.inl (true, z) :: k) s) := rfl
theorem rx_9_clock_2 {ns n ct R K s L k} : rn_9_clock ns ct R K (n + 1) 2 L k s = (sy_call false (ct 73) k s fun r t => rn_9_clock ns ct R K n 5 L r t) := rfl
theorem rx_9_clock_5 {ns n ct R K s L k a x} : rn_9_clock ns ct R K (n + 1) 5 L (.inl (a, x) :: k) s = (sy_ri a x ∧ (x = 0 → rn_9_clock ns ct R K n 17 L k s) ∧ (¬ x = 0 → rn_9_clock ns ct R K n 8 L k s)) := rfl
theorem rx_9_clock_8 {ns n ct R K s k z v0 v1 v3 v4 v5 v6 v7} : rn_9_clock ns ct R K (n + 1) 8 [v0, v1, .inl (true, z), v3, v4, v5, v6, v7] k s = (rn_9_clock ns ct R K n 9 [v0, v1, .inl (true, z), v3, v4, v5, v6, v7] (.inl (true, z) :: k) s) := rfl
theorem rx_9_clock_9 {ns n ct R K s L k} : rn_9_clock ns ct R K (n + 1) 9 L k s = (rn_9_clock ns ct R K n 10 L (.inl (true, 0) :: k) s) := rfl
theorem rx_9_clock_10 {ns n ct R K s L k} : rn_9_clock ns ct R K (n + 1) 10 L k s = (rn_9_clock ns ct R K n 11 L (.inl (true, 2) :: k) s) := rfl
theorem rx_9_clock_11 {ns n ct R K s L k} : rn_9_clock ns ct R K (n + 1) 11 L k s = (sy_call true (ct 69) k s fun r t => rn_9_clock ns ct R K n 14 L r t) := rfl
theorem rx_9_clock_14 {ns n ct R K s L k a x} : rn_9_clock ns ct R K (n + 1) 14 L (.inl (a, x) :: k) s = (sy_ri a x ∧ (¬ x = 0 → rn_9_clock ns ct R K n 21 L k s) ∧ (x = 0 → rn_9_clock ns ct R K n 17 L k s)) := rfl
theorem rx_9_clock_17 {ns n ct R K s L k} : rn_9_clock ns ct R K (n + 1) 17 L k s = (rn_9_clock ns ct R K n 20 L (.inl (true, (-1000)) :: k) s) := rfl
theorem rx_9_clock_20 {ns n ct R K s L a z} : rn_9_clock ns ct R K (n + 1) 20 L [.inl (a, z)] s = (sy_ri a z ∧ sy_b01 false z ∧ R (some (.inl (true, z))) s) := rfl
theorem rx_9_clock_21 {ns n ct R K s k z v1 v2 v3 v4 v5 v6 v7} : rn_9_clock ns ct R K (n + 1) 21 [.inr (.inr (some z)), v1, v2, v3, v4, v5, v6, v7] k s = (rn_9_clock ns ct R K n 22 [.inr (.inr (some z)), v1, v2, v3, v4, v5, v6, v7] (.inr (.inr (some z)) :: k) s) := rfl
theorem rx_9_clock_22 {ns n ct R K s L k a} : rn_9_clock ns ct R K (n + 1) 22 L (.inr (.inr (some (some a))) :: k) s = (sy_ob a = some 9 ∧ rn_9_clock ns ct R K n 25 L (sy_fv s a 4 :: k) s) := rfl
theorem rx_9_clock_25 {ns n ct R K s k z v0 v2 v3 v4 v5 v6 v7} : rn_9_clock ns ct R K (n + 1) 25 [v0, .inl (true, z), v2, v3, v4, v5, v6, v7] k s = (rn_9_clock ns ct R K n 26 [v0, .inl (true, z), v2, v3, v4, v5, v6, v7] (.inl (true, z) :: k) s) := rfl
theorem rx_9_clock_26 {ns n ct R K s L k a b z} : rn_9_clock ns ct R K (n + 1) 26 L (.inl (b, z) :: .inr (.inr (some (some a))) :: k) s = ((0 ≤ z ∧ z < (sy_ar a).2) ∧ sy_ob a = none ∧ (sy_ar a).1 = 0 ∧ rn_9_clock ns ct R K n 27 L (.inl (true, s a z.toNat) :: k) s) := rfl
theorem rx_9_clock_27 {ns n ct R K s L k b z} : rn_9_clock ns ct R K (n + 1) 27 L (.inl (b, z) :: k) s = (sy_ri b z ∧ 3 < L.length ∧ rn_9_clock ns ct R K n 28 (sy_sto L 3 (.inl (true, z))) k s) := rfl
theorem rx_9_clock_28 {ns n ct R K s L k} : rn_9_clock ns ct R K (n + 1) 28 L k s = (rn_9_clock ns ct R K n 29 L (.inl (true, 0) :: k) s) := rfl
theorem rx_9_clock_29 {ns n ct R K s L k b z} : rn_9_clock ns ct R K (n + 1) 29 L (.inl (b, z) :: k) s = (sy_ri b z ∧ 4 < L.length ∧ rn_9_clock ns ct R K n 31 (sy_sto L 4 (.inl (true, z))) k s) := rfl
theorem rx_9_clock_31 {ns n ct R K s L k} : rn_9_clock ns ct R K (n + 1) 31 L k s = (rn_9_clock ns ct R K n 34 L (.inl (true, (-1000)) :: k) s) := rfl
theorem rx_9_clock_34 {ns n ct R K s L k b z} : rn_9_clock ns ct R K (n + 1) 34 L (.inl (b, z) :: k) s = (sy_ri b z ∧ 5 < L.length ∧ rn_9_clock ns ct R K n 36 (sy_sto L 5 (.inl (true, z))) k s) := rfl
theorem rx_9_clock_36 {ns n ct R K s L k} : rn_9_clock ns ct R K (n + 1) 36 L k s = (rn_9_clock ns ct R K n 39 L (.inl (true, (-1000)) :: k) s) := rfl
theorem rx_9_clock_39 {ns n ct R K s L k b z} : rn_9_clock ns ct R K (n + 1) 39 L (.inl (b, z) :: k) s = (sy_ri b z ∧ 6 < L.length ∧ rn_9_clock ns ct R K n 41 (sy_sto L 6 (.inl (true, z))) k s) := rfl
theorem rx_9_clock_41 {ns n ct R K s L k} : rn_9_clock ns ct R K (n + 1) 41 L k s = (rn_9_clock ns ct R K n 43 L (.inl (true, (-50)) :: k) s) := rfl
theorem rx_9_clock_43 {ns n ct R K s L k b z} : rn_9_clock ns ct R K (n + 1) 43 L (.inl (b, z) :: k) s = (sy_ri b z ∧ 7 < L.length ∧ K 45 (sy_sto L 7 (.inl (true, z))) k s) := rfl
theorem rx_9_clock_45 {ns n ct R K s k z v0 v1 v2 v3 v4 v5 v6} : rn_9_clock ns ct R K (n + 1) 45 [v0, v1, v2, v3, v4, v5, v6, .inl (true, z)] k s = (rn_9_clock ns ct R K n 47 [v0, v1, v2, v3, v4, v5, v6, .inl (true, z)] (.inl (true, z) :: k) s) := rfl
theorem rx_9_clock_47 {ns n ct R K s L k} : rn_9_clock ns ct R K (n + 1) 47 L k s = (rn_9_clock ns ct R K n 49 L (.inl (true, 50) :: k) s) := rfl
theorem rx_9_clock_49 {ns n ct R K s L k a b x y} : rn_9_clock ns ct R K (n + 1) 49 L (.inl (b, y) :: .inl (a, x) :: k) s = (sy_ri a x ∧ sy_ri b y ∧ (y < x → rn_9_clock ns ct R K n 100 L k s) ∧ (¬ y < x → rn_9_clock ns ct R K n 52 L k s)) := rfl
theorem rx_9_clock_52 {ns n ct R K s k z v1 v2 v3 v4 v5 v6 v7} : rn_9_clock ns ct R K (n + 1) 52 [.inr (.inr (some z)), v1, v2, v3, v4, v5, v6, v7] k s = (rn_9_clock ns ct R K n 53 [.inr (.inr (some z)), v1, v2, v3, v4, v5, v6, v7] (.inr (.inr (some z)) :: k) s) := rfl
theorem rx_9_clock_53 {ns n ct R K s L k a} : rn_9_clock ns ct R K (n + 1) 53 L (.inr (.inr (some (some a))) :: k) s = (sy_ob a = some 9 ∧ rn_9_clock ns ct R K n 56 L (sy_fv s a 4 :: k) s) := rfl
theorem rx_9_clock_56 {ns n ct R K s k z v0 v2 v3 v4 v5 v6 v7} : rn_9_clock ns ct R K (n + 1) 56 [v0, .inl (true, z), v2, v3, v4, v5, v6, v7] k s = (rn_9_clock ns ct R K n 57 [v0, .inl (true, z), v2, v3, v4, v5, v6, v7] (.inl (true, z) :: k) s) := rfl
theorem rx_9_clock_57 {ns n ct R K s k z v0 v1 v2 v3 v4 v5 v6} : rn_9_clock ns ct R K (n + 1) 57 [v0, v1, v2, v3, v4, v5, v6, .inl (true, z)] k s = (rn_9_clock ns ct R K n 59 [v0, v1, v2, v3, v4, v5, v6, .inl (true, z)] (.inl (true, z) :: k) s) := rfl
theorem rx_9_clock_59 {ns n ct R K s L k a b c z y} : rn_9_clock ns ct R K (n + 1) 59 L (.inl (c, y) :: .inl (b, z) :: .inr (.inr (some (some a))) :: k) s = (sy_ri c y ∧ (0 ≤ z ∧ z < (sy_ar a).2) ∧ sy_ob a = none ∧ (sy_ar a).1 = 0 ∧ rn_9_clock ns ct R K n 60 L k (sy_up s a z.toNat y)) := rfl
theorem rx_9_clock_60 {ns n ct R K s k z v1 v2 v3 v4 v5 v6 v7} : rn_9_clock ns ct R K (n + 1) 60 [.inr (.inr (some z)), v1, v2, v3, v4, v5, v6, v7] k s = (rn_9_clock ns ct R K n 61 [.inr (.inr (some z)), v1, v2, v3, v4, v5, v6, v7] (.inr (.inr (some z)) :: k) s) := rfl
theorem rx_9_clock_61 {ns n ct R K s L k} : rn_9_clock ns ct R K (n + 1) 61 L k s = (sy_call false (ct 120) k s fun r t => rn_9_clock ns ct R K n 64 L r t) := rfl
theorem rx_9_clock_64 {ns n ct R K s L k a x} : rn_9_clock ns ct R K (n + 1) 64 L (.inl (a, x) :: k) s = (sy_ri a x ∧ (¬ x = 0 → rn_9_clock ns ct R K n 70 L k s) ∧ (x = 0 → rn_9_clock ns ct R K n 67 L k s)) := rfl
theorem rx_9_clock_67 {ns n ct R K s L k} : rn_9_clock ns ct R K (n + 1) 67 L k s = (rn_9_clock ns ct R K n 94 L k s) := rfl
theorem rx_9_clock_70 {ns n ct R K s k z v0 v1 v2 v3 v5 v6 v7} : rn_9_clock ns ct R K (n + 1) 70 [v0, v1, v2, v3, .inl (true, z), v5, v6, v7] k s = ((-2147483648 ≤ z + 1 ∧ z + 1 < 2147483648) ∧ rn_9_clock ns ct R K n 73 (sy_sto [v0, v1, v2, v3, .inl (true, z), v5, v6, v7] 4 (.inl (true, z + 1))) k s) := rfl
theorem rx_9_clock_73 {ns n ct R K s k z v0 v1 v2 v3 v4 v6 v7} : rn_9_clock ns ct R K (n + 1) 73 [v0, v1, v2, v3, v4, .inl (true, z), v6, v7] k s = (rn_9_clock ns ct R K n 75 [v0, v1, v2, v3, v4, .inl (true, z), v6, v7] (.inl (true, z) :: k) s) := rfl
theorem rx_9_clock_75 {ns n ct R K s L k} : rn_9_clock ns ct R K (n + 1) 75 L k s = (rn_9_clock ns ct R K n 78 L (.inl (true, (-1000)) :: k) s) := rfl
theorem rx_9_clock_78 {ns n ct R K s L k a b x y} : rn_9_clock ns ct R K (n + 1) 78 L (.inl (b, y) :: .inl (a, x) :: k) s = (sy_ri a x ∧ sy_ri b y ∧ (¬ x = y → rn_9_clock ns ct R K n 86 L k s) ∧ (x = y → rn_9_clock ns ct R K n 81 L k s)) := rfl
theorem rx_9_clock_81 {ns n ct R K s k z v0 v1 v2 v3 v4 v5 v6} : rn_9_clock ns ct R K (n + 1) 81 [v0, v1, v2, v3, v4, v5, v6, .inl (true, z)] k s = (rn_9_clock ns ct R K n 83 [v0, v1, v2, v3, v4, v5, v6, .inl (true, z)] (.inl (true, z) :: k) s) := rfl
theorem rx_9_clock_83 {ns n ct R K s L k} : rn_9_clock ns ct R K (n + 1) 83 L k s = (rn_9_clock ns ct R K n 88 L k s) := rfl
theorem rx_9_clock_86 {ns n ct R K s k z v0 v1 v2 v3 v4 v6 v7} : rn_9_clock ns ct R K (n + 1) 86 [v0, v1, v2, v3, v4, .inl (true, z), v6, v7] k s = (rn_9_clock ns ct R K n 88 [v0, v1, v2, v3, v4, .inl (true, z), v6, v7] (.inl (true, z) :: k) s) := rfl
theorem rx_9_clock_88 {ns n ct R K s L k b z} : rn_9_clock ns ct R K (n + 1) 88 L (.inl (b, z) :: k) s = (sy_ri b z ∧ 5 < L.length ∧ rn_9_clock ns ct R K n 90 (sy_sto L 5 (.inl (true, z))) k s) := rfl
theorem rx_9_clock_90 {ns n ct R K s k z v0 v1 v2 v3 v4 v5 v6} : rn_9_clock ns ct R K (n + 1) 90 [v0, v1, v2, v3, v4, v5, v6, .inl (true, z)] k s = (rn_9_clock ns ct R K n 92 [v0, v1, v2, v3, v4, v5, v6, .inl (true, z)] (.inl (true, z) :: k) s) := rfl
theorem rx_9_clock_92 {ns n ct R K s L k b z} : rn_9_clock ns ct R K (n + 1) 92 L (.inl (b, z) :: k) s = (sy_ri b z ∧ 6 < L.length ∧ rn_9_clock ns ct R K n 94 (sy_sto L 6 (.inl (true, z))) k s) := rfl
theorem rx_9_clock_94 {ns n ct R K s k z v0 v1 v2 v3 v4 v5 v6} : rn_9_clock ns ct R K (n + 1) 94 [v0, v1, v2, v3, v4, v5, v6, .inl (true, z)] k s = ((-2147483648 ≤ z + 1 ∧ z + 1 < 2147483648) ∧ rn_9_clock ns ct R K n 97 (sy_sto [v0, v1, v2, v3, v4, v5, v6, .inl (true, z)] 7 (.inl (true, z + 1))) k s) := rfl
theorem rx_9_clock_97 {ns n ct R K s L k} : rn_9_clock ns ct R K (n + 1) 97 L k s = (K 45 L k s) := rfl
theorem rx_9_clock_100 {ns n ct R K s k z v1 v2 v3 v4 v5 v6 v7} : rn_9_clock ns ct R K (n + 1) 100 [.inr (.inr (some z)), v1, v2, v3, v4, v5, v6, v7] k s = (rn_9_clock ns ct R K n 101 [.inr (.inr (some z)), v1, v2, v3, v4, v5, v6, v7] (.inr (.inr (some z)) :: k) s) := rfl
theorem rx_9_clock_101 {ns n ct R K s L k a} : rn_9_clock ns ct R K (n + 1) 101 L (.inr (.inr (some (some a))) :: k) s = (sy_ob a = some 9 ∧ rn_9_clock ns ct R K n 104 L (sy_fv s a 4 :: k) s) := rfl
theorem rx_9_clock_104 {ns n ct R K s k z v0 v2 v3 v4 v5 v6 v7} : rn_9_clock ns ct R K (n + 1) 104 [v0, .inl (true, z), v2, v3, v4, v5, v6, v7] k s = (rn_9_clock ns ct R K n 105 [v0, .inl (true, z), v2, v3, v4, v5, v6, v7] (.inl (true, z) :: k) s) := rfl
theorem rx_9_clock_105 {ns n ct R K s k z v0 v1 v2 v4 v5 v6 v7} : rn_9_clock ns ct R K (n + 1) 105 [v0, v1, v2, .inl (true, z), v4, v5, v6, v7] k s = (rn_9_clock ns ct R K n 106 [v0, v1, v2, .inl (true, z), v4, v5, v6, v7] (.inl (true, z) :: k) s) := rfl
theorem rx_9_clock_106 {ns n ct R K s L k a b c z y} : rn_9_clock ns ct R K (n + 1) 106 L (.inl (c, y) :: .inl (b, z) :: .inr (.inr (some (some a))) :: k) s = (sy_ri c y ∧ (0 ≤ z ∧ z < (sy_ar a).2) ∧ sy_ob a = none ∧ (sy_ar a).1 = 0 ∧ rn_9_clock ns ct R K n 107 L k (sy_up s a z.toNat y)) := rfl
theorem rx_9_clock_107 {ns n ct R K s k z v0 v1 v3 v4 v5 v6 v7} : rn_9_clock ns ct R K (n + 1) 107 [v0, v1, .inl (true, z), v3, v4, v5, v6, v7] k s = (rn_9_clock ns ct R K n 108 [v0, v1, .inl (true, z), v3, v4, v5, v6, v7] (.inl (true, z) :: k) s) := rfl
theorem rx_9_clock_108 {ns n ct R K s L k a x} : rn_9_clock ns ct R K (n + 1) 108 L (.inl (a, x) :: k) s = (sy_ri a x ∧ (¬ x = 0 → rn_9_clock ns ct R K n 116 L k s) ∧ (x = 0 → rn_9_clock ns ct R K n 111 L k s)) := rfl
theorem rx_9_clock_111 {ns n ct R K s k z v0 v1 v2 v3 v5 v6 v7} : rn_9_clock ns ct R K (n + 1) 111 [v0, v1, v2, v3, .inl (true, z), v5, v6, v7] k s = (rn_9_clock ns ct R K n 113 [v0, v1, v2, v3, .inl (true, z), v5, v6, v7] (.inl (true, z) :: k) s) := rfl
theorem rx_9_clock_113 {ns n ct R K s L k} : rn_9_clock ns ct R K (n + 1) 113 L k s = (rn_9_clock ns ct R K n 128 L k s) := rfl
theorem rx_9_clock_116 {ns n ct R K s k z v0 v1 v3 v4 v5 v6 v7} : rn_9_clock ns ct R K (n + 1) 116 [v0, v1, .inl (true, z), v3, v4, v5, v6, v7] k s = (rn_9_clock ns ct R K n 117 [v0, v1, .inl (true, z), v3, v4, v5, v6, v7] (.inl (true, z) :: k) s) := rfl
theorem rx_9_clock_117 {ns n ct R K s L k} : rn_9_clock ns ct R K (n + 1) 117 L k s = (rn_9_clock ns ct R K n 118 L (.inl (true, 1) :: k) s) := rfl
theorem rx_9_clock_118 {ns n ct R K s L k a b x y} : rn_9_clock ns ct R K (n + 1) 118 L (.inl (b, y) :: .inl (a, x) :: k) s = (sy_ri a x ∧ sy_ri b y ∧ (¬ x = y → rn_9_clock ns ct R K n 126 L k s) ∧ (x = y → rn_9_clock ns ct R K n 121 L k s)) := rfl
theorem rx_9_clock_121 {ns n ct R K s k z v0 v1 v2 v3 v4 v6 v7} : rn_9_clock ns ct R K (n + 1) 121 [v0, v1, v2, v3, v4, .inl (true, z), v6, v7] k s = (rn_9_clock ns ct R K n 123 [v0, v1, v2, v3, v4, .inl (true, z), v6, v7] (.inl (true, z) :: k) s) := rfl
theorem rx_9_clock_123 {ns n ct R K s L k} : rn_9_clock ns ct R K (n + 1) 123 L k s = (rn_9_clock ns ct R K n 128 L k s) := rfl
theorem rx_9_clock_126 {ns n ct R K s k z v0 v1 v2 v3 v4 v5 v7} : rn_9_clock ns ct R K (n + 1) 126 [v0, v1, v2, v3, v4, v5, .inl (true, z), v7] k s = (rn_9_clock ns ct R K n 128 [v0, v1, v2, v3, v4, v5, .inl (true, z), v7] (.inl (true, z) :: k) s) := rfl
theorem rx_9_clock_128 {ns n ct R K s L a z} : rn_9_clock ns ct R K (n + 1) 128 L [.inl (a, z)] s = (sy_ri a z ∧ sy_b01 false z ∧ R (some (.inl (true, z))) s) := rfl
def y_9_side : MethodName := ⟨"StarHideModel", "side", "(IIJJ)J"⟩
abbrev c_9_side : ByteArray := prog_11_method_34_code
def tc_9_side (pc : Nat) : Option sy_I := match pc with
  | 0 => some (.aload_n 0, 1, 0)
  | 1 => some (.getfield 47, 4, 0)
  | 4 => some (.iload_n 2, 5, 0)
  | 5 => some (.laload, 6, 0)
  | 6 => some (.aload_n 0, 7, 0)
  | 7 => some (.getfield 47, 10, 0)
  | 10 => some (.iload_n 1, 11, 0)
  | 11 => some (.laload, 12, 0)
  | 12 => some (.lsub, 13, 0)
  | 13 => some (.lload 5, 15, 0)
  | 15 => some (.aload_n 0, 16, 0)
  | 16 => some (.getfield 51, 19, 0)
  | 19 => some (.iload_n 1, 20, 0)
  | 20 => some (.laload, 21, 0)
  | 21 => some (.lsub, 22, 0)
  | 22 => some (.lmul, 23, 0)
  | 23 => some (.aload_n 0, 24, 0)
  | 24 => some (.getfield 51, 27, 0)
  | 27 => some (.iload_n 2, 28, 0)
  | 28 => some (.laload, 29, 0)
  | 29 => some (.aload_n 0, 30, 0)
  | 30 => some (.getfield 51, 33, 0)
  | 33 => some (.iload_n 1, 34, 0)
  | 34 => some (.laload, 35, 0)
  | 35 => some (.lsub, 36, 0)
  | 36 => some (.lload_n 3, 37, 0)
  | 37 => some (.aload_n 0, 38, 0)
  | 38 => some (.getfield 47, 41, 0)
  | 41 => some (.iload_n 1, 42, 0)
  | 42 => some (.laload, 43, 0)
  | 43 => some (.lsub, 44, 0)
  | 44 => some (.lmul, 45, 0)
  | 45 => some (.lsub, 46, 0)
  | 46 => some (.lreturn, 47, 0)
  | _ => none
theorem tv_9_side : ∀ pc i, sy_lk 47 tc_9_side pc = some i → sy_chk c_9_side (some .long) false pc i = true := sy_lk_ok 47 tc_9_side (by decide +kernel)
def Mk_9_side (ct : Nat → Option (Bool × Nat × sy_Sp)) : sy_M := (sy_lk 47 tc_9_side, ff_9, ki_9, kl_9, ct, false)
def rn_9_side (ns : Nat) (ct : Nat → Option (Bool × Nat × sy_Sp)) (R : sy_R) (K : sy_K) : Nat → sy_K := sy_run ns (Mk_9_side ct) [] R K
theorem rx_9_side_0 {ns n ct R K s k z v1 v2 v3 v4 v5 v6} : rn_9_side ns ct R K (n + 1) 0 [.inr (.inr (some z)), v1, v2, v3, v4, v5, v6] k s = (rn_9_side ns ct R K n 1 [.inr (.inr (some z)), v1, v2, v3, v4, v5, v6] (.inr (.inr (some z)) :: k) s) := rfl
theorem rx_9_side_1 {ns n ct R K s L k a} : rn_9_side ns ct R K (n + 1) 1 L (.inr (.inr (some (some a))) :: k) s = (sy_ob a = some 9 ∧ rn_9_side ns ct R K n 4 L (sy_fv s a 12 :: k) s) := rfl
theorem rx_9_side_4 {ns n ct R K s k z v0 v1 v3 v4 v5 v6} : rn_9_side ns ct R K (n + 1) 4 [v0, v1, .inl (true, z), v3, v4, v5, v6] k s = (rn_9_side ns ct R K n 5 [v0, v1, .inl (true, z), v3, v4, v5, v6] (.inl (true, z) :: k) s) := rfl
theorem rx_9_side_5 {ns n ct R K s L k a b z} : rn_9_side ns ct R K (n + 1) 5 L (.inl (b, z) :: .inr (.inr (some (some a))) :: k) s = ((0 ≤ z ∧ z < (sy_ar a).2) ∧ sy_ob a = none ∧ (sy_ar a).1 = 1 ∧ rn_9_side ns ct R K n 6 L (.inr (.inl (true, s a z.toNat)) :: k) s) := rfl
theorem rx_9_side_6 {ns n ct R K s k z v1 v2 v3 v4 v5 v6} : rn_9_side ns ct R K (n + 1) 6 [.inr (.inr (some z)), v1, v2, v3, v4, v5, v6] k s = (rn_9_side ns ct R K n 7 [.inr (.inr (some z)), v1, v2, v3, v4, v5, v6] (.inr (.inr (some z)) :: k) s) := rfl
theorem rx_9_side_7 {ns n ct R K s L k a} : rn_9_side ns ct R K (n + 1) 7 L (.inr (.inr (some (some a))) :: k) s = (sy_ob a = some 9 ∧ rn_9_side ns ct R K n 10 L (sy_fv s a 12 :: k) s) := rfl
theorem rx_9_side_10 {ns n ct R K s k z v0 v2 v3 v4 v5 v6} : rn_9_side ns ct R K (n + 1) 10 [v0, .inl (true, z), v2, v3, v4, v5, v6] k s = (rn_9_side ns ct R K n 11 [v0, .inl (true, z), v2, v3, v4, v5, v6] (.inl (true, z) :: k) s) := rfl
theorem rx_9_side_11 {ns n ct R K s L k a b z} : rn_9_side ns ct R K (n + 1) 11 L (.inl (b, z) :: .inr (.inr (some (some a))) :: k) s = ((0 ≤ z ∧ z < (sy_ar a).2) ∧ sy_ob a = none ∧ (sy_ar a).1 = 1 ∧ rn_9_side ns ct R K n 12 L (.inr (.inl (true, s a z.toNat)) :: k) s) := rfl
theorem rx_9_side_12 {ns n ct R K s L k a b x y} : rn_9_side ns ct R K (n + 1) 12 L (.inr (.inl (b, y)) :: .inr (.inl (a, x)) :: k) s = (rn_9_side ns ct R K n 13 L (.inr (.inl (false, x - y)) :: k) s) := rfl
theorem rx_9_side_13 {ns n ct R K s k z v0 v1 v2 v3 v4 v6} : rn_9_side ns ct R K (n + 1) 13 [v0, v1, v2, v3, v4, .inr (.inl (true, z)), v6] k s = (rn_9_side ns ct R K n 15 [v0, v1, v2, v3, v4, .inr (.inl (true, z)), v6] (.inr (.inl (true, z)) :: k) s) := rfl
theorem rx_9_side_15 {ns n ct R K s k z v1 v2 v3 v4 v5 v6} : rn_9_side ns ct R K (n + 1) 15 [.inr (.inr (some z)), v1, v2, v3, v4, v5, v6] k s = (rn_9_side ns ct R K n 16 [.inr (.inr (some z)), v1, v2, v3, v4, v5, v6] (.inr (.inr (some z)) :: k) s) := rfl
theorem rx_9_side_16 {ns n ct R K s L k a} : rn_9_side ns ct R K (n + 1) 16 L (.inr (.inr (some (some a))) :: k) s = (sy_ob a = some 9 ∧ rn_9_side ns ct R K n 19 L (sy_fv s a 13 :: k) s) := rfl
theorem rx_9_side_19 {ns n ct R K s k z v0 v2 v3 v4 v5 v6} : rn_9_side ns ct R K (n + 1) 19 [v0, .inl (true, z), v2, v3, v4, v5, v6] k s = (rn_9_side ns ct R K n 20 [v0, .inl (true, z), v2, v3, v4, v5, v6] (.inl (true, z) :: k) s) := rfl
theorem rx_9_side_20 {ns n ct R K s L k a b z} : rn_9_side ns ct R K (n + 1) 20 L (.inl (b, z) :: .inr (.inr (some (some a))) :: k) s = ((0 ≤ z ∧ z < (sy_ar a).2) ∧ sy_ob a = none ∧ (sy_ar a).1 = 1 ∧ rn_9_side ns ct R K n 21 L (.inr (.inl (true, s a z.toNat)) :: k) s) := rfl
theorem rx_9_side_21 {ns n ct R K s L k a b x y} : rn_9_side ns ct R K (n + 1) 21 L (.inr (.inl (b, y)) :: .inr (.inl (a, x)) :: k) s = (rn_9_side ns ct R K n 22 L (.inr (.inl (false, x - y)) :: k) s) := rfl
theorem rx_9_side_22 {ns n ct R K s L k a b x y} : rn_9_side ns ct R K (n + 1) 22 L (.inr (.inl (b, y)) :: .inr (.inl (a, x)) :: k) s = (rn_9_side ns ct R K n 23 L (.inr (.inl (false, x * y)) :: k) s) := rfl
theorem rx_9_side_23 {ns n ct R K s k z v1 v2 v3 v4 v5 v6} : rn_9_side ns ct R K (n + 1) 23 [.inr (.inr (some z)), v1, v2, v3, v4, v5, v6] k s = (rn_9_side ns ct R K n 24 [.inr (.inr (some z)), v1, v2, v3, v4, v5, v6] (.inr (.inr (some z)) :: k) s) := rfl
theorem rx_9_side_24 {ns n ct R K s L k a} : rn_9_side ns ct R K (n + 1) 24 L (.inr (.inr (some (some a))) :: k) s = (sy_ob a = some 9 ∧ rn_9_side ns ct R K n 27 L (sy_fv s a 13 :: k) s) := rfl
theorem rx_9_side_27 {ns n ct R K s k z v0 v1 v3 v4 v5 v6} : rn_9_side ns ct R K (n + 1) 27 [v0, v1, .inl (true, z), v3, v4, v5, v6] k s = (rn_9_side ns ct R K n 28 [v0, v1, .inl (true, z), v3, v4, v5, v6] (.inl (true, z) :: k) s) := rfl
theorem rx_9_side_28 {ns n ct R K s L k a b z} : rn_9_side ns ct R K (n + 1) 28 L (.inl (b, z) :: .inr (.inr (some (some a))) :: k) s = ((0 ≤ z ∧ z < (sy_ar a).2) ∧ sy_ob a = none ∧ (sy_ar a).1 = 1 ∧ rn_9_side ns ct R K n 29 L (.inr (.inl (true, s a z.toNat)) :: k) s) := rfl
theorem rx_9_side_29 {ns n ct R K s k z v1 v2 v3 v4 v5 v6} : rn_9_side ns ct R K (n + 1) 29 [.inr (.inr (some z)), v1, v2, v3, v4, v5, v6] k s = (rn_9_side ns ct R K n 30 [.inr (.inr (some z)), v1, v2, v3, v4, v5, v6] (.inr (.inr (some z)) :: k) s) := rfl
theorem rx_9_side_30 {ns n ct R K s L k a} : rn_9_side ns ct R K (n + 1) 30 L (.inr (.inr (some (some a))) :: k) s = (sy_ob a = some 9 ∧ rn_9_side ns ct R K n 33 L (sy_fv s a 13 :: k) s) := rfl
theorem rx_9_side_33 {ns n ct R K s k z v0 v2 v3 v4 v5 v6} : rn_9_side ns ct R K (n + 1) 33 [v0, .inl (true, z), v2, v3, v4, v5, v6] k s = (rn_9_side ns ct R K n 34 [v0, .inl (true, z), v2, v3, v4, v5, v6] (.inl (true, z) :: k) s) := rfl
theorem rx_9_side_34 {ns n ct R K s L k a b z} : rn_9_side ns ct R K (n + 1) 34 L (.inl (b, z) :: .inr (.inr (some (some a))) :: k) s = ((0 ≤ z ∧ z < (sy_ar a).2) ∧ sy_ob a = none ∧ (sy_ar a).1 = 1 ∧ rn_9_side ns ct R K n 35 L (.inr (.inl (true, s a z.toNat)) :: k) s) := rfl
theorem rx_9_side_35 {ns n ct R K s L k a b x y} : rn_9_side ns ct R K (n + 1) 35 L (.inr (.inl (b, y)) :: .inr (.inl (a, x)) :: k) s = (rn_9_side ns ct R K n 36 L (.inr (.inl (false, x - y)) :: k) s) := rfl
theorem rx_9_side_36 {ns n ct R K s k z v0 v1 v2 v4 v5 v6} : rn_9_side ns ct R K (n + 1) 36 [v0, v1, v2, .inr (.inl (true, z)), v4, v5, v6] k s = (rn_9_side ns ct R K n 37 [v0, v1, v2, .inr (.inl (true, z)), v4, v5, v6] (.inr (.inl (true, z)) :: k) s) := rfl
theorem rx_9_side_37 {ns n ct R K s k z v1 v2 v3 v4 v5 v6} : rn_9_side ns ct R K (n + 1) 37 [.inr (.inr (some z)), v1, v2, v3, v4, v5, v6] k s = (rn_9_side ns ct R K n 38 [.inr (.inr (some z)), v1, v2, v3, v4, v5, v6] (.inr (.inr (some z)) :: k) s) := rfl
theorem rx_9_side_38 {ns n ct R K s L k a} : rn_9_side ns ct R K (n + 1) 38 L (.inr (.inr (some (some a))) :: k) s = (sy_ob a = some 9 ∧ rn_9_side ns ct R K n 41 L (sy_fv s a 12 :: k) s) := rfl
theorem rx_9_side_41 {ns n ct R K s k z v0 v2 v3 v4 v5 v6} : rn_9_side ns ct R K (n + 1) 41 [v0, .inl (true, z), v2, v3, v4, v5, v6] k s = (rn_9_side ns ct R K n 42 [v0, .inl (true, z), v2, v3, v4, v5, v6] (.inl (true, z) :: k) s) := rfl
theorem rx_9_side_42 {ns n ct R K s L k a b z} : rn_9_side ns ct R K (n + 1) 42 L (.inl (b, z) :: .inr (.inr (some (some a))) :: k) s = ((0 ≤ z ∧ z < (sy_ar a).2) ∧ sy_ob a = none ∧ (sy_ar a).1 = 1 ∧ rn_9_side ns ct R K n 43 L (.inr (.inl (true, s a z.toNat)) :: k) s) := rfl
theorem rx_9_side_43 {ns n ct R K s L k a b x y} : rn_9_side ns ct R K (n + 1) 43 L (.inr (.inl (b, y)) :: .inr (.inl (a, x)) :: k) s = (rn_9_side ns ct R K n 44 L (.inr (.inl (false, x - y)) :: k) s) := rfl
theorem rx_9_side_44 {ns n ct R K s L k a b x y} : rn_9_side ns ct R K (n + 1) 44 L (.inr (.inl (b, y)) :: .inr (.inl (a, x)) :: k) s = (rn_9_side ns ct R K n 45 L (.inr (.inl (false, x * y)) :: k) s) := rfl
theorem rx_9_side_45 {ns n ct R K s L k a b x y} : rn_9_side ns ct R K (n + 1) 45 L (.inr (.inl (b, y)) :: .inr (.inl (a, x)) :: k) s = (rn_9_side ns ct R K n 46 L (.inr (.inl (false, x - y)) :: k) s) := rfl
theorem rx_9_side_46 {ns n ct R K s L a z} : rn_9_side ns ct R K (n + 1) 46 L [.inr (.inl (a, z))] s = (sy_rl a z ∧ R (some (.inr (.inl (true, z)))) s) := rfl
def y_9_square : MethodName := ⟨"StarHideModel", "square", "(JJ)J"⟩
abbrev c_9_square : ByteArray := prog_11_method_35_code
def tc_9_square (pc : Nat) : Option sy_I := match pc with
  | 0 => some (.lload_n 0, 1, 0)
  | 1 => some (.lload_n 0, 2, 0)
  | 2 => some (.lmul, 3, 0)
  | 3 => some (.lload_n 2, 4, 0)
  | 4 => some (.lload_n 2, 5, 0)
  | 5 => some (.lmul, 6, 0)
  | 6 => some (.ladd, 7, 0)
  | 7 => some (.lreturn, 8, 0)
  | _ => none
theorem tv_9_square : ∀ pc i, sy_lk 8 tc_9_square pc = some i → sy_chk c_9_square (some .long) false pc i = true := sy_lk_ok 8 tc_9_square (by decide +kernel)
def Mk_9_square (ct : Nat → Option (Bool × Nat × sy_Sp)) : sy_M := (sy_lk 8 tc_9_square, ff_9, ki_9, kl_9, ct, false)
def rn_9_square (ns : Nat) (ct : Nat → Option (Bool × Nat × sy_Sp)) (R : sy_R) (K : sy_K) : Nat → sy_K := sy_run ns (Mk_9_square ct) [] R K
theorem rx_9_square_0 {ns n ct R K s k z v1 v2 v3} : rn_9_square ns ct R K (n + 1) 0 [.inr (.inl (true, z)), v1, v2, v3] k s = (rn_9_square ns ct R K n 1 [.inr (.inl (true, z)), v1, v2, v3] (.inr (.inl (true, z)) :: k) s) := rfl
theorem rx_9_square_1 {ns n ct R K s k z v1 v2 v3} : rn_9_square ns ct R K (n + 1) 1 [.inr (.inl (true, z)), v1, v2, v3] k s = (rn_9_square ns ct R K n 2 [.inr (.inl (true, z)), v1, v2, v3] (.inr (.inl (true, z)) :: k) s) := rfl
theorem rx_9_square_2 {ns n ct R K s L k a b x y} : rn_9_square ns ct R K (n + 1) 2 L (.inr (.inl (b, y)) :: .inr (.inl (a, x)) :: k) s = (rn_9_square ns ct R K n 3 L (.inr (.inl (false, x * y)) :: k) s) := rfl
theorem rx_9_square_3 {ns n ct R K s k z v0 v1 v3} : rn_9_square ns ct R K (n + 1) 3 [v0, v1, .inr (.inl (true, z)), v3] k s = (rn_9_square ns ct R K n 4 [v0, v1, .inr (.inl (true, z)), v3] (.inr (.inl (true, z)) :: k) s) := rfl
theorem rx_9_square_4 {ns n ct R K s k z v0 v1 v3} : rn_9_square ns ct R K (n + 1) 4 [v0, v1, .inr (.inl (true, z)), v3] k s = (rn_9_square ns ct R K n 5 [v0, v1, .inr (.inl (true, z)), v3] (.inr (.inl (true, z)) :: k) s) := rfl
theorem rx_9_square_5 {ns n ct R K s L k a b x y} : rn_9_square ns ct R K (n + 1) 5 L (.inr (.inl (b, y)) :: .inr (.inl (a, x)) :: k) s = (rn_9_square ns ct R K n 6 L (.inr (.inl (false, x * y)) :: k) s) := rfl
theorem rx_9_square_6 {ns n ct R K s L k a b x y} : rn_9_square ns ct R K (n + 1) 6 L (.inr (.inl (b, y)) :: .inr (.inl (a, x)) :: k) s = (rn_9_square ns ct R K n 7 L (.inr (.inl (false, x + y)) :: k) s) := rfl
theorem rx_9_square_7 {ns n ct R K s L a z} : rn_9_square ns ct R K (n + 1) 7 L [.inr (.inl (a, z))] s = (sy_rl a z ∧ R (some (.inr (.inl (true, z)))) s) := rfl
def y_9_hull : MethodName := ⟨"StarHideModel", "hull", "()V"⟩
abbrev c_9_hull : ByteArray := prog_11_method_36_code
def tc_9_hull (pc : Nat) : Option sy_I := match pc with
  | 0 => some (.aload_n 0, 1, 0)
  | 1 => some (.iconst 0, 2, 0)
  | 2 => some (.putfield 44, 5, 0)
  | 5 => some (.iconst 0, 6, 0)
  | 6 => some (.istore_n 1, 7, 0)
  | 7 => some (.iload_n 1, 8, 0)
  | 8 => some (.aload_n 0, 9, 0)
  | 9 => some (.getfield 13, 12, 0)
  | 12 => some (.if_icmp .ge 74, 15, 86)
  | 15 => some (.iconst 1, 16, 0)
  | 16 => some (.istore_n 2, 17, 0)
  | 17 => some (.iload_n 2, 18, 0)
  | 18 => some (.iconst 3, 19, 0)
  | 19 => some (.if_icmp .ge 61, 22, 80)
  | 22 => some (.aload_n 0, 23, 0)
  | 23 => some (.getfield 26, 26, 0)
  | 26 => some (.iload_n 1, 27, 0)
  | 27 => some (.iaload, 28, 0)
  | 28 => some (.iconst 1, 29, 0)
  | 29 => some (.if_icmp .ne 51, 32, 80)
  | 32 => some (.aload_n 0, 33, 0)
  | 33 => some (.getfield 47, 36, 0)
  | 36 => some (.aload_n 0, 37, 0)
  | 37 => some (.getfield 44, 40, 0)
  | 40 => some (.aload_n 0, 41, 0)
  | 41 => some (.iload_n 1, 42, 0)
  | 42 => some (.iload_n 2, 43, 0)
  | 43 => some (.invokevirtual 103, 46, 0)
  | 46 => some (.i2l, 47, 0)
  | 47 => some (.lastore, 48, 0)
  | 48 => some (.aload_n 0, 49, 0)
  | 49 => some (.getfield 51, 52, 0)
  | 52 => some (.aload_n 0, 53, 0)
  | 53 => some (.getfield 44, 56, 0)
  | 56 => some (.aload_n 0, 57, 0)
  | 57 => some (.getfield 16, 60, 0)
  | 60 => some (.iload_n 1, 61, 0)
  | 61 => some (.iaload, 62, 0)
  | 62 => some (.i2l, 63, 0)
  | 63 => some (.lastore, 64, 0)
  | 64 => some (.aload_n 0, 65, 0)
  | 65 => some (.dup, 66, 0)
  | 66 => some (.getfield 44, 69, 0)
  | 69 => some (.iconst 1, 70, 0)
  | 70 => some (.iadd, 71, 0)
  | 71 => some (.putfield 44, 74, 0)
  | 74 => some (.iinc 2 1, 77, 0)
  | 77 => some (.goto (-60), 80, 17)
  | 80 => some (.iinc 1 1, 83, 0)
  | 83 => some (.goto (-76), 86, 7)
  | 86 => some (.aload_n 0, 87, 0)
  | 87 => some (.iconst 0, 88, 0)
  | 88 => some (.putfield 54, 91, 0)
  | 91 => some (.aload_n 0, 92, 0)
  | 92 => some (.getfield 44, 95, 0)
  | 95 => some (.ifCond .ne 4, 98, 99)
  | 98 => some (.return_, 99, 0)
  | 99 => some (.iconst 0, 100, 0)
  | 100 => some (.istore_n 1, 101, 0)
  | 101 => some (.iconst 1, 102, 0)
  | 102 => some (.istore_n 2, 103, 0)
  | 103 => some (.iload_n 2, 104, 0)
  | 104 => some (.aload_n 0, 105, 0)
  | 105 => some (.getfield 44, 108, 0)
  | 108 => some (.if_icmp .ge 63, 111, 171)
  | 111 => some (.aload_n 0, 112, 0)
  | 112 => some (.getfield 51, 115, 0)
  | 115 => some (.iload_n 2, 116, 0)
  | 116 => some (.laload, 117, 0)
  | 117 => some (.aload_n 0, 118, 0)
  | 118 => some (.getfield 51, 121, 0)
  | 121 => some (.iload_n 1, 122, 0)
  | 122 => some (.laload, 123, 0)
  | 123 => some (.lcmp, 124, 0)
  | 124 => some (.ifCond .lt 35, 127, 159)
  | 127 => some (.aload_n 0, 128, 0)
  | 128 => some (.getfield 51, 131, 0)
  | 131 => some (.iload_n 2, 132, 0)
  | 132 => some (.laload, 133, 0)
  | 133 => some (.aload_n 0, 134, 0)
  | 134 => some (.getfield 51, 137, 0)
  | 137 => some (.iload_n 1, 138, 0)
  | 138 => some (.laload, 139, 0)
  | 139 => some (.lcmp, 140, 0)
  | 140 => some (.ifCond .ne 23, 143, 163)
  | 143 => some (.aload_n 0, 144, 0)
  | 144 => some (.getfield 47, 147, 0)
  | 147 => some (.iload_n 2, 148, 0)
  | 148 => some (.laload, 149, 0)
  | 149 => some (.aload_n 0, 150, 0)
  | 150 => some (.getfield 47, 153, 0)
  | 153 => some (.iload_n 1, 154, 0)
  | 154 => some (.laload, 155, 0)
  | 155 => some (.lcmp, 156, 0)
  | 156 => some (.ifCond .ge 7, 159, 163)
  | 159 => some (.iload_n 2, 160, 0)
  | 160 => some (.goto 4, 163, 164)
  | 163 => some (.iload_n 1, 164, 0)
  | 164 => some (.istore_n 1, 165, 0)
  | 165 => some (.iinc 2 1, 168, 0)
  | 168 => some (.goto (-65), 171, 103)
  | 171 => some (.iload_n 1, 172, 0)
  | 172 => some (.istore_n 2, 173, 0)
  | 173 => some (.iconst 1, 174, 0)
  | 174 => some (.istore_n 3, 175, 0)
  | 175 => some (.iload_n 3, 176, 0)
  | 176 => some (.ifCond .eq 258, 179, 434)
  | 179 => some (.aload_n 0, 180, 0)
  | 180 => some (.getfield 57, 183, 0)
  | 183 => some (.aload_n 0, 184, 0)
  | 184 => some (.getfield 54, 187, 0)
  | 187 => some (.iload_n 2, 188, 0)
  | 188 => some (.iastore, 189, 0)
  | 189 => some (.aload_n 0, 190, 0)
  | 190 => some (.dup, 191, 0)
  | 191 => some (.getfield 54, 194, 0)
  | 194 => some (.iconst 1, 195, 0)
  | 195 => some (.iadd, 196, 0)
  | 196 => some (.putfield 54, 199, 0)
  | 199 => some (.iconst (-1), 200, 0)
  | 200 => some (.istore 4, 202, 0)
  | 202 => some (.iconst 0, 203, 0)
  | 203 => some (.istore 5, 205, 0)
  | 205 => some (.iload 5, 207, 0)
  | 207 => some (.aload_n 0, 208, 0)
  | 208 => some (.getfield 44, 211, 0)
  | 211 => some (.if_icmp .ge 163, 214, 374)
  | 214 => some (.aload_n 0, 215, 0)
  | 215 => some (.getfield 47, 218, 0)
  | 218 => some (.iload 5, 220, 0)
  | 220 => some (.laload, 221, 0)
  | 221 => some (.aload_n 0, 222, 0)
  | 222 => some (.getfield 47, 225, 0)
  | 225 => some (.iload_n 2, 226, 0)
  | 226 => some (.laload, 227, 0)
  | 227 => some (.lcmp, 228, 0)
  | 228 => some (.ifCond .ne 23, 231, 251)
  | 231 => some (.aload_n 0, 232, 0)
  | 232 => some (.getfield 51, 235, 0)
  | 235 => some (.iload 5, 237, 0)
  | 237 => some (.laload, 238, 0)
  | 238 => some (.aload_n 0, 239, 0)
  | 239 => some (.getfield 51, 242, 0)
  | 242 => some (.iload_n 2, 243, 0)
  | 243 => some (.laload, 244, 0)
  | 244 => some (.lcmp, 245, 0)
  | 245 => some (.ifCond .ne 6, 248, 251)
  | 248 => some (.goto 120, 251, 368)
  | 251 => some (.iload 4, 253, 0)
  | 253 => some (.iconst (-1), 254, 0)
  | 254 => some (.if_icmp .ne 7, 257, 261)
  | 257 => some (.iload 5, 259, 0)
  | 259 => some (.istore 4, 261, 0)
  | 261 => some (.aload_n 0, 262, 0)
  | 262 => some (.iload_n 2, 263, 0)
  | 263 => some (.iload 4, 265, 0)
  | 265 => some (.aload_n 0, 266, 0)
  | 266 => some (.getfield 47, 269, 0)
  | 269 => some (.iload 5, 271, 0)
  | 271 => some (.laload, 272, 0)
  | 272 => some (.aload_n 0, 273, 0)
  | 273 => some (.getfield 51, 276, 0)
  | 276 => some (.iload 5, 278, 0)
  | 278 => some (.laload, 279, 0)
  | 279 => some (.invokevirtual 124, 282, 0)
  | 282 => some (.lstore 6, 284, 0)
  | 284 => some (.lload 6, 286, 0)
  | 286 => some (.lconst 0, 287, 0)
  | 287 => some (.lcmp, 288, 0)
  | 288 => some (.ifCond .lt 76, 291, 364)
  | 291 => some (.lload 6, 293, 0)
  | 293 => some (.lconst 0, 294, 0)
  | 294 => some (.lcmp, 295, 0)
  | 295 => some (.ifCond .ne 73, 298, 368)
  | 298 => some (.aload_n 0, 299, 0)
  | 299 => some (.getfield 47, 302, 0)
  | 302 => some (.iload 5, 304, 0)
  | 304 => some (.laload, 305, 0)
  | 305 => some (.aload_n 0, 306, 0)
  | 306 => some (.getfield 47, 309, 0)
  | 309 => some (.iload_n 2, 310, 0)
  | 310 => some (.laload, 311, 0)
  | 311 => some (.lsub, 312, 0)
  | 312 => some (.aload_n 0, 313, 0)
  | 313 => some (.getfield 51, 316, 0)
  | 316 => some (.iload 5, 318, 0)
  | 318 => some (.laload, 319, 0)
  | 319 => some (.aload_n 0, 320, 0)
  | 320 => some (.getfield 51, 323, 0)
  | 323 => some (.iload_n 2, 324, 0)
  | 324 => some (.laload, 325, 0)
  | 325 => some (.lsub, 326, 0)
  | 326 => some (.invokestatic 128, 329, 0)
  | 329 => some (.aload_n 0, 330, 0)
  | 330 => some (.getfield 47, 333, 0)
  | 333 => some (.iload 4, 335, 0)
  | 335 => some (.laload, 336, 0)
  | 336 => some (.aload_n 0, 337, 0)
  | 337 => some (.getfield 47, 340, 0)
  | 340 => some (.iload_n 2, 341, 0)
  | 341 => some (.laload, 342, 0)
  | 342 => some (.lsub, 343, 0)
  | 343 => some (.aload_n 0, 344, 0)
  | 344 => some (.getfield 51, 347, 0)
  | 347 => some (.iload 4, 349, 0)
  | 349 => some (.laload, 350, 0)
  | 350 => some (.aload_n 0, 351, 0)
  | 351 => some (.getfield 51, 354, 0)
  | 354 => some (.iload_n 2, 355, 0)
  | 355 => some (.laload, 356, 0)
  | 356 => some (.lsub, 357, 0)
  | 357 => some (.invokestatic 128, 360, 0)
  | 360 => some (.lcmp, 361, 0)
  | 361 => some (.ifCond .le 7, 364, 368)
  | 364 => some (.iload 5, 366, 0)
  | 366 => some (.istore 4, 368, 0)
  | 368 => some (.iinc 5 1, 371, 0)
  | 371 => some (.goto (-166), 374, 205)
  | 374 => some (.iload 4, 376, 0)
  | 376 => some (.iconst (-1), 377, 0)
  | 377 => some (.if_icmp .eq 41, 380, 418)
  | 380 => some (.aload_n 0, 381, 0)
  | 381 => some (.getfield 47, 384, 0)
  | 384 => some (.iload 4, 386, 0)
  | 386 => some (.laload, 387, 0)
  | 387 => some (.aload_n 0, 388, 0)
  | 388 => some (.getfield 47, 391, 0)
  | 391 => some (.iload_n 1, 392, 0)
  | 392 => some (.laload, 393, 0)
  | 393 => some (.lcmp, 394, 0)
  | 394 => some (.ifCond .ne 20, 397, 414)
  | 397 => some (.aload_n 0, 398, 0)
  | 398 => some (.getfield 51, 401, 0)
  | 401 => some (.iload 4, 403, 0)
  | 403 => some (.laload, 404, 0)
  | 404 => some (.aload_n 0, 405, 0)
  | 405 => some (.getfield 51, 408, 0)
  | 408 => some (.iload_n 1, 409, 0)
  | 409 => some (.laload, 410, 0)
  | 410 => some (.lcmp, 411, 0)
  | 411 => some (.ifCond .eq 7, 414, 418)
  | 414 => some (.iconst 1, 415, 0)
  | 415 => some (.goto 4, 418, 419)
  | 418 => some (.iconst 0, 419, 0)
  | 419 => some (.istore_n 3, 420, 0)
  | 420 => some (.iload_n 3, 421, 0)
  | 421 => some (.ifCond .eq 8, 424, 429)
  | 424 => some (.iload 4, 426, 0)
  | 426 => some (.goto 4, 429, 430)
  | 429 => some (.iload_n 2, 430, 0)
  | 430 => some (.istore_n 2, 431, 0)
  | 431 => some (.goto (-256), 434, 175)
  | 434 => some (.return_, 435, 0)
  | _ => none
theorem tv_9_hull : ∀ pc i, sy_lk 435 tc_9_hull pc = some i → sy_chk c_9_hull none false pc i = true := sy_lk_ok 435 tc_9_hull (by decide +kernel)
def Mk_9_hull (ct : Nat → Option (Bool × Nat × sy_Sp)) : sy_M := (sy_lk 435 tc_9_hull, ff_9, ki_9, kl_9, ct, false)
def rn_9_hull (ns : Nat) (ct : Nat → Option (Bool × Nat × sy_Sp)) (R : sy_R) (K : sy_K) : Nat → sy_K := sy_run ns (Mk_9_hull ct) [7, 17, 103, 175, 205] R K
theorem rx_9_hull_0 {ns n ct R K s k z v1 v2 v3 v4 v5 v6 v7} : rn_9_hull ns ct R K (n + 1) 0 [.inr (.inr (some z)), v1, v2, v3, v4, v5, v6, v7] k s = (rn_9_hull ns ct R K n 1 [.inr (.inr (some z)), v1, v2, v3, v4, v5, v6, v7] (.inr (.inr (some z)) :: k) s) := rfl
theorem rx_9_hull_1 {ns n ct R K s L k} : rn_9_hull ns ct R K (n + 1) 1 L k s = (rn_9_hull ns ct R K n 2 L (.inl (true, 0) :: k) s) := rfl
theorem rx_9_hull_2 {ns n ct R K s L k a b z} : rn_9_hull ns ct R K (n + 1) 2 L (.inl (b, z) :: .inr (.inr (some (some a))) :: k) s = (sy_ob a = some 9 ∧ sy_ri b z ∧ sy_b01 false z ∧ rn_9_hull ns ct R K n 5 L k (sy_up s a 11 z)) := rfl
theorem rx_9_hull_5 {ns n ct R K s L k} : rn_9_hull ns ct R K (n + 1) 5 L k s = (rn_9_hull ns ct R K n 6 L (.inl (true, 0) :: k) s) := rfl
theorem rx_9_hull_6 {ns n ct R K s L k b z} : rn_9_hull ns ct R K (n + 1) 6 L (.inl (b, z) :: k) s = (sy_ri b z ∧ 1 < L.length ∧ K 7 (sy_sto L 1 (.inl (true, z))) k s) := rfl
theorem rx_9_hull_7 {ns n ct R K s k z v0 v2 v3 v4 v5 v6 v7} : rn_9_hull ns ct R K (n + 1) 7 [v0, .inl (true, z), v2, v3, v4, v5, v6, v7] k s = (rn_9_hull ns ct R K n 8 [v0, .inl (true, z), v2, v3, v4, v5, v6, v7] (.inl (true, z) :: k) s) := rfl
theorem rx_9_hull_8 {ns n ct R K s k z v1 v2 v3 v4 v5 v6 v7} : rn_9_hull ns ct R K (n + 1) 8 [.inr (.inr (some z)), v1, v2, v3, v4, v5, v6, v7] k s = (rn_9_hull ns ct R K n 9 [.inr (.inr (some z)), v1, v2, v3, v4, v5, v6, v7] (.inr (.inr (some z)) :: k) s) := rfl
theorem rx_9_hull_9 {ns n ct R K s L k a} : rn_9_hull ns ct R K (n + 1) 9 L (.inr (.inr (some (some a))) :: k) s = (sy_ob a = some 9 ∧ rn_9_hull ns ct R K n 12 L (sy_fv s a 1 :: k) s) := rfl
theorem rx_9_hull_12 {ns n ct R K s L k a b x y} : rn_9_hull ns ct R K (n + 1) 12 L (.inl (b, y) :: .inl (a, x) :: k) s = (sy_ri a x ∧ sy_ri b y ∧ (y ≤ x → rn_9_hull ns ct R K n 86 L k s) ∧ (¬ y ≤ x → rn_9_hull ns ct R K n 15 L k s)) := rfl
theorem rx_9_hull_15 {ns n ct R K s L k} : rn_9_hull ns ct R K (n + 1) 15 L k s = (rn_9_hull ns ct R K n 16 L (.inl (true, 1) :: k) s) := rfl
theorem rx_9_hull_16 {ns n ct R K s L k b z} : rn_9_hull ns ct R K (n + 1) 16 L (.inl (b, z) :: k) s = (sy_ri b z ∧ 2 < L.length ∧ K 17 (sy_sto L 2 (.inl (true, z))) k s) := rfl
theorem rx_9_hull_17 {ns n ct R K s k z v0 v1 v3 v4 v5 v6 v7} : rn_9_hull ns ct R K (n + 1) 17 [v0, v1, .inl (true, z), v3, v4, v5, v6, v7] k s = (rn_9_hull ns ct R K n 18 [v0, v1, .inl (true, z), v3, v4, v5, v6, v7] (.inl (true, z) :: k) s) := rfl
theorem rx_9_hull_18 {ns n ct R K s L k} : rn_9_hull ns ct R K (n + 1) 18 L k s = (rn_9_hull ns ct R K n 19 L (.inl (true, 3) :: k) s) := rfl
theorem rx_9_hull_19 {ns n ct R K s L k a b x y} : rn_9_hull ns ct R K (n + 1) 19 L (.inl (b, y) :: .inl (a, x) :: k) s = (sy_ri a x ∧ sy_ri b y ∧ (y ≤ x → rn_9_hull ns ct R K n 80 L k s) ∧ (¬ y ≤ x → rn_9_hull ns ct R K n 22 L k s)) := rfl
theorem rx_9_hull_22 {ns n ct R K s k z v1 v2 v3 v4 v5 v6 v7} : rn_9_hull ns ct R K (n + 1) 22 [.inr (.inr (some z)), v1, v2, v3, v4, v5, v6, v7] k s = (rn_9_hull ns ct R K n 23 [.inr (.inr (some z)), v1, v2, v3, v4, v5, v6, v7] (.inr (.inr (some z)) :: k) s) := rfl
theorem rx_9_hull_23 {ns n ct R K s L k a} : rn_9_hull ns ct R K (n + 1) 23 L (.inr (.inr (some (some a))) :: k) s = (sy_ob a = some 9 ∧ rn_9_hull ns ct R K n 26 L (sy_fv s a 5 :: k) s) := rfl
theorem rx_9_hull_26 {ns n ct R K s k z v0 v2 v3 v4 v5 v6 v7} : rn_9_hull ns ct R K (n + 1) 26 [v0, .inl (true, z), v2, v3, v4, v5, v6, v7] k s = (rn_9_hull ns ct R K n 27 [v0, .inl (true, z), v2, v3, v4, v5, v6, v7] (.inl (true, z) :: k) s) := rfl
theorem rx_9_hull_27 {ns n ct R K s L k a b z} : rn_9_hull ns ct R K (n + 1) 27 L (.inl (b, z) :: .inr (.inr (some (some a))) :: k) s = ((0 ≤ z ∧ z < (sy_ar a).2) ∧ sy_ob a = none ∧ (sy_ar a).1 = 0 ∧ rn_9_hull ns ct R K n 28 L (.inl (true, s a z.toNat) :: k) s) := rfl
theorem rx_9_hull_28 {ns n ct R K s L k} : rn_9_hull ns ct R K (n + 1) 28 L k s = (rn_9_hull ns ct R K n 29 L (.inl (true, 1) :: k) s) := rfl
theorem rx_9_hull_29 {ns n ct R K s L k a b x y} : rn_9_hull ns ct R K (n + 1) 29 L (.inl (b, y) :: .inl (a, x) :: k) s = (sy_ri a x ∧ sy_ri b y ∧ (¬ x = y → rn_9_hull ns ct R K n 80 L k s) ∧ (x = y → rn_9_hull ns ct R K n 32 L k s)) := rfl
theorem rx_9_hull_32 {ns n ct R K s k z v1 v2 v3 v4 v5 v6 v7} : rn_9_hull ns ct R K (n + 1) 32 [.inr (.inr (some z)), v1, v2, v3, v4, v5, v6, v7] k s = (rn_9_hull ns ct R K n 33 [.inr (.inr (some z)), v1, v2, v3, v4, v5, v6, v7] (.inr (.inr (some z)) :: k) s) := rfl
theorem rx_9_hull_33 {ns n ct R K s L k a} : rn_9_hull ns ct R K (n + 1) 33 L (.inr (.inr (some (some a))) :: k) s = (sy_ob a = some 9 ∧ rn_9_hull ns ct R K n 36 L (sy_fv s a 12 :: k) s) := rfl
theorem rx_9_hull_36 {ns n ct R K s k z v1 v2 v3 v4 v5 v6 v7} : rn_9_hull ns ct R K (n + 1) 36 [.inr (.inr (some z)), v1, v2, v3, v4, v5, v6, v7] k s = (rn_9_hull ns ct R K n 37 [.inr (.inr (some z)), v1, v2, v3, v4, v5, v6, v7] (.inr (.inr (some z)) :: k) s) := rfl
theorem rx_9_hull_37 {ns n ct R K s L k a} : rn_9_hull ns ct R K (n + 1) 37 L (.inr (.inr (some (some a))) :: k) s = (sy_ob a = some 9 ∧ rn_9_hull ns ct R K n 40 L (sy_fv s a 11 :: k) s) := rfl
theorem rx_9_hull_40 {ns n ct R K s k z v1 v2 v3 v4 v5 v6 v7} : rn_9_hull ns ct R K (n + 1) 40 [.inr (.inr (some z)), v1, v2, v3, v4, v5, v6, v7] k s = (rn_9_hull ns ct R K n 41 [.inr (.inr (some z)), v1, v2, v3, v4, v5, v6, v7] (.inr (.inr (some z)) :: k) s) := rfl
theorem rx_9_hull_41 {ns n ct R K s k z v0 v2 v3 v4 v5 v6 v7} : rn_9_hull ns ct R K (n + 1) 41 [v0, .inl (true, z), v2, v3, v4, v5, v6, v7] k s = (rn_9_hull ns ct R K n 42 [v0, .inl (true, z), v2, v3, v4, v5, v6, v7] (.inl (true, z) :: k) s) := rfl
theorem rx_9_hull_42 {ns n ct R K s k z v0 v1 v3 v4 v5 v6 v7} : rn_9_hull ns ct R K (n + 1) 42 [v0, v1, .inl (true, z), v3, v4, v5, v6, v7] k s = (rn_9_hull ns ct R K n 43 [v0, v1, .inl (true, z), v3, v4, v5, v6, v7] (.inl (true, z) :: k) s) := rfl
theorem rx_9_hull_43 {ns n ct R K s L k} : rn_9_hull ns ct R K (n + 1) 43 L k s = (sy_call false (ct 103) k s fun r t => rn_9_hull ns ct R K n 46 L r t) := rfl
theorem rx_9_hull_46 {ns n ct R K s L k a x} : rn_9_hull ns ct R K (n + 1) 46 L (.inl (a, x) :: k) s = (sy_ri a x ∧ rn_9_hull ns ct R K n 47 L (.inr (.inl (true, x)) :: k) s) := rfl
theorem rx_9_hull_47 {ns n ct R K s L k a b c z y} : rn_9_hull ns ct R K (n + 1) 47 L (.inr (.inl (c, y)) :: .inl (b, z) :: .inr (.inr (some (some a))) :: k) s = (sy_rl c y ∧ (0 ≤ z ∧ z < (sy_ar a).2) ∧ sy_ob a = none ∧ (sy_ar a).1 = 1 ∧ rn_9_hull ns ct R K n 48 L k (sy_up s a z.toNat y)) := rfl
theorem rx_9_hull_48 {ns n ct R K s k z v1 v2 v3 v4 v5 v6 v7} : rn_9_hull ns ct R K (n + 1) 48 [.inr (.inr (some z)), v1, v2, v3, v4, v5, v6, v7] k s = (rn_9_hull ns ct R K n 49 [.inr (.inr (some z)), v1, v2, v3, v4, v5, v6, v7] (.inr (.inr (some z)) :: k) s) := rfl
theorem rx_9_hull_49 {ns n ct R K s L k a} : rn_9_hull ns ct R K (n + 1) 49 L (.inr (.inr (some (some a))) :: k) s = (sy_ob a = some 9 ∧ rn_9_hull ns ct R K n 52 L (sy_fv s a 13 :: k) s) := rfl
theorem rx_9_hull_52 {ns n ct R K s k z v1 v2 v3 v4 v5 v6 v7} : rn_9_hull ns ct R K (n + 1) 52 [.inr (.inr (some z)), v1, v2, v3, v4, v5, v6, v7] k s = (rn_9_hull ns ct R K n 53 [.inr (.inr (some z)), v1, v2, v3, v4, v5, v6, v7] (.inr (.inr (some z)) :: k) s) := rfl
theorem rx_9_hull_53 {ns n ct R K s L k a} : rn_9_hull ns ct R K (n + 1) 53 L (.inr (.inr (some (some a))) :: k) s = (sy_ob a = some 9 ∧ rn_9_hull ns ct R K n 56 L (sy_fv s a 11 :: k) s) := rfl
theorem rx_9_hull_56 {ns n ct R K s k z v1 v2 v3 v4 v5 v6 v7} : rn_9_hull ns ct R K (n + 1) 56 [.inr (.inr (some z)), v1, v2, v3, v4, v5, v6, v7] k s = (rn_9_hull ns ct R K n 57 [.inr (.inr (some z)), v1, v2, v3, v4, v5, v6, v7] (.inr (.inr (some z)) :: k) s) := rfl
theorem rx_9_hull_57 {ns n ct R K s L k a} : rn_9_hull ns ct R K (n + 1) 57 L (.inr (.inr (some (some a))) :: k) s = (sy_ob a = some 9 ∧ rn_9_hull ns ct R K n 60 L (sy_fv s a 2 :: k) s) := rfl
theorem rx_9_hull_60 {ns n ct R K s k z v0 v2 v3 v4 v5 v6 v7} : rn_9_hull ns ct R K (n + 1) 60 [v0, .inl (true, z), v2, v3, v4, v5, v6, v7] k s = (rn_9_hull ns ct R K n 61 [v0, .inl (true, z), v2, v3, v4, v5, v6, v7] (.inl (true, z) :: k) s) := rfl
theorem rx_9_hull_61 {ns n ct R K s L k a b z} : rn_9_hull ns ct R K (n + 1) 61 L (.inl (b, z) :: .inr (.inr (some (some a))) :: k) s = ((0 ≤ z ∧ z < (sy_ar a).2) ∧ sy_ob a = none ∧ (sy_ar a).1 = 0 ∧ rn_9_hull ns ct R K n 62 L (.inl (true, s a z.toNat) :: k) s) := rfl
theorem rx_9_hull_62 {ns n ct R K s L k a x} : rn_9_hull ns ct R K (n + 1) 62 L (.inl (a, x) :: k) s = (sy_ri a x ∧ rn_9_hull ns ct R K n 63 L (.inr (.inl (true, x)) :: k) s) := rfl
theorem rx_9_hull_63 {ns n ct R K s L k a b c z y} : rn_9_hull ns ct R K (n + 1) 63 L (.inr (.inl (c, y)) :: .inl (b, z) :: .inr (.inr (some (some a))) :: k) s = (sy_rl c y ∧ (0 ≤ z ∧ z < (sy_ar a).2) ∧ sy_ob a = none ∧ (sy_ar a).1 = 1 ∧ rn_9_hull ns ct R K n 64 L k (sy_up s a z.toNat y)) := rfl
theorem rx_9_hull_64 {ns n ct R K s k z v1 v2 v3 v4 v5 v6 v7} : rn_9_hull ns ct R K (n + 1) 64 [.inr (.inr (some z)), v1, v2, v3, v4, v5, v6, v7] k s = (rn_9_hull ns ct R K n 65 [.inr (.inr (some z)), v1, v2, v3, v4, v5, v6, v7] (.inr (.inr (some z)) :: k) s) := rfl
theorem rx_9_hull_65_i {ns n ct R K s L k a} : rn_9_hull ns ct R K (n + 1) 65 L (.inl a :: k) s = (rn_9_hull ns ct R K n 66 L (.inl a :: .inl a :: k) s) := rfl
theorem rx_9_hull_65 {ns n ct R K s L k a} : rn_9_hull ns ct R K (n + 1) 65 L (.inr (.inr a) :: k) s = (rn_9_hull ns ct R K n 66 L (.inr (.inr a) :: .inr (.inr a) :: k) s) := rfl
theorem rx_9_hull_66 {ns n ct R K s L k a} : rn_9_hull ns ct R K (n + 1) 66 L (.inr (.inr (some (some a))) :: k) s = (sy_ob a = some 9 ∧ rn_9_hull ns ct R K n 69 L (sy_fv s a 11 :: k) s) := rfl
theorem rx_9_hull_69 {ns n ct R K s L k} : rn_9_hull ns ct R K (n + 1) 69 L k s = (rn_9_hull ns ct R K n 70 L (.inl (true, 1) :: k) s) := rfl
theorem rx_9_hull_70 {ns n ct R K s L k a b x y} : rn_9_hull ns ct R K (n + 1) 70 L (.inl (b, y) :: .inl (a, x) :: k) s = (rn_9_hull ns ct R K n 71 L (.inl (false, x + y) :: k) s) := rfl
theorem rx_9_hull_71 {ns n ct R K s L k a b z} : rn_9_hull ns ct R K (n + 1) 71 L (.inl (b, z) :: .inr (.inr (some (some a))) :: k) s = (sy_ob a = some 9 ∧ sy_ri b z ∧ sy_b01 false z ∧ rn_9_hull ns ct R K n 74 L k (sy_up s a 11 z)) := rfl
theorem rx_9_hull_74 {ns n ct R K s k z v0 v1 v3 v4 v5 v6 v7} : rn_9_hull ns ct R K (n + 1) 74 [v0, v1, .inl (true, z), v3, v4, v5, v6, v7] k s = ((-2147483648 ≤ z + 1 ∧ z + 1 < 2147483648) ∧ rn_9_hull ns ct R K n 77 (sy_sto [v0, v1, .inl (true, z), v3, v4, v5, v6, v7] 2 (.inl (true, z + 1))) k s) := rfl
theorem rx_9_hull_77 {ns n ct R K s L k} : rn_9_hull ns ct R K (n + 1) 77 L k s = (K 17 L k s) := rfl
theorem rx_9_hull_80 {ns n ct R K s k z v0 v2 v3 v4 v5 v6 v7} : rn_9_hull ns ct R K (n + 1) 80 [v0, .inl (true, z), v2, v3, v4, v5, v6, v7] k s = ((-2147483648 ≤ z + 1 ∧ z + 1 < 2147483648) ∧ rn_9_hull ns ct R K n 83 (sy_sto [v0, .inl (true, z), v2, v3, v4, v5, v6, v7] 1 (.inl (true, z + 1))) k s) := rfl
theorem rx_9_hull_83 {ns n ct R K s L k} : rn_9_hull ns ct R K (n + 1) 83 L k s = (K 7 L k s) := rfl
theorem rx_9_hull_86 {ns n ct R K s k z v1 v2 v3 v4 v5 v6 v7} : rn_9_hull ns ct R K (n + 1) 86 [.inr (.inr (some z)), v1, v2, v3, v4, v5, v6, v7] k s = (rn_9_hull ns ct R K n 87 [.inr (.inr (some z)), v1, v2, v3, v4, v5, v6, v7] (.inr (.inr (some z)) :: k) s) := rfl
theorem rx_9_hull_87 {ns n ct R K s L k} : rn_9_hull ns ct R K (n + 1) 87 L k s = (rn_9_hull ns ct R K n 88 L (.inl (true, 0) :: k) s) := rfl
theorem rx_9_hull_88 {ns n ct R K s L k a b z} : rn_9_hull ns ct R K (n + 1) 88 L (.inl (b, z) :: .inr (.inr (some (some a))) :: k) s = (sy_ob a = some 9 ∧ sy_ri b z ∧ sy_b01 false z ∧ rn_9_hull ns ct R K n 91 L k (sy_up s a 14 z)) := rfl
theorem rx_9_hull_91 {ns n ct R K s k z v1 v2 v3 v4 v5 v6 v7} : rn_9_hull ns ct R K (n + 1) 91 [.inr (.inr (some z)), v1, v2, v3, v4, v5, v6, v7] k s = (rn_9_hull ns ct R K n 92 [.inr (.inr (some z)), v1, v2, v3, v4, v5, v6, v7] (.inr (.inr (some z)) :: k) s) := rfl
theorem rx_9_hull_92 {ns n ct R K s L k a} : rn_9_hull ns ct R K (n + 1) 92 L (.inr (.inr (some (some a))) :: k) s = (sy_ob a = some 9 ∧ rn_9_hull ns ct R K n 95 L (sy_fv s a 11 :: k) s) := rfl
theorem rx_9_hull_95 {ns n ct R K s L k a x} : rn_9_hull ns ct R K (n + 1) 95 L (.inl (a, x) :: k) s = (sy_ri a x ∧ (¬ x = 0 → rn_9_hull ns ct R K n 99 L k s) ∧ (x = 0 → rn_9_hull ns ct R K n 98 L k s)) := rfl
theorem rx_9_hull_98 {ns n ct R K s L} : rn_9_hull ns ct R K (n + 1) 98 L [] s = (R none s) := rfl
theorem rx_9_hull_99 {ns n ct R K s L k} : rn_9_hull ns ct R K (n + 1) 99 L k s = (rn_9_hull ns ct R K n 100 L (.inl (true, 0) :: k) s) := rfl
theorem rx_9_hull_100 {ns n ct R K s L k b z} : rn_9_hull ns ct R K (n + 1) 100 L (.inl (b, z) :: k) s = (sy_ri b z ∧ 1 < L.length ∧ rn_9_hull ns ct R K n 101 (sy_sto L 1 (.inl (true, z))) k s) := rfl
theorem rx_9_hull_101 {ns n ct R K s L k} : rn_9_hull ns ct R K (n + 1) 101 L k s = (rn_9_hull ns ct R K n 102 L (.inl (true, 1) :: k) s) := rfl
theorem rx_9_hull_102 {ns n ct R K s L k b z} : rn_9_hull ns ct R K (n + 1) 102 L (.inl (b, z) :: k) s = (sy_ri b z ∧ 2 < L.length ∧ K 103 (sy_sto L 2 (.inl (true, z))) k s) := rfl
theorem rx_9_hull_103 {ns n ct R K s k z v0 v1 v3 v4 v5 v6 v7} : rn_9_hull ns ct R K (n + 1) 103 [v0, v1, .inl (true, z), v3, v4, v5, v6, v7] k s = (rn_9_hull ns ct R K n 104 [v0, v1, .inl (true, z), v3, v4, v5, v6, v7] (.inl (true, z) :: k) s) := rfl
theorem rx_9_hull_104 {ns n ct R K s k z v1 v2 v3 v4 v5 v6 v7} : rn_9_hull ns ct R K (n + 1) 104 [.inr (.inr (some z)), v1, v2, v3, v4, v5, v6, v7] k s = (rn_9_hull ns ct R K n 105 [.inr (.inr (some z)), v1, v2, v3, v4, v5, v6, v7] (.inr (.inr (some z)) :: k) s) := rfl
theorem rx_9_hull_105 {ns n ct R K s L k a} : rn_9_hull ns ct R K (n + 1) 105 L (.inr (.inr (some (some a))) :: k) s = (sy_ob a = some 9 ∧ rn_9_hull ns ct R K n 108 L (sy_fv s a 11 :: k) s) := rfl
theorem rx_9_hull_108 {ns n ct R K s L k a b x y} : rn_9_hull ns ct R K (n + 1) 108 L (.inl (b, y) :: .inl (a, x) :: k) s = (sy_ri a x ∧ sy_ri b y ∧ (y ≤ x → rn_9_hull ns ct R K n 171 L k s) ∧ (¬ y ≤ x → rn_9_hull ns ct R K n 111 L k s)) := rfl
theorem rx_9_hull_111 {ns n ct R K s k z v1 v2 v3 v4 v5 v6 v7} : rn_9_hull ns ct R K (n + 1) 111 [.inr (.inr (some z)), v1, v2, v3, v4, v5, v6, v7] k s = (rn_9_hull ns ct R K n 112 [.inr (.inr (some z)), v1, v2, v3, v4, v5, v6, v7] (.inr (.inr (some z)) :: k) s) := rfl
theorem rx_9_hull_112 {ns n ct R K s L k a} : rn_9_hull ns ct R K (n + 1) 112 L (.inr (.inr (some (some a))) :: k) s = (sy_ob a = some 9 ∧ rn_9_hull ns ct R K n 115 L (sy_fv s a 13 :: k) s) := rfl
theorem rx_9_hull_115 {ns n ct R K s k z v0 v1 v3 v4 v5 v6 v7} : rn_9_hull ns ct R K (n + 1) 115 [v0, v1, .inl (true, z), v3, v4, v5, v6, v7] k s = (rn_9_hull ns ct R K n 116 [v0, v1, .inl (true, z), v3, v4, v5, v6, v7] (.inl (true, z) :: k) s) := rfl
theorem rx_9_hull_116 {ns n ct R K s L k a b z} : rn_9_hull ns ct R K (n + 1) 116 L (.inl (b, z) :: .inr (.inr (some (some a))) :: k) s = ((0 ≤ z ∧ z < (sy_ar a).2) ∧ sy_ob a = none ∧ (sy_ar a).1 = 1 ∧ rn_9_hull ns ct R K n 117 L (.inr (.inl (true, s a z.toNat)) :: k) s) := rfl
theorem rx_9_hull_117 {ns n ct R K s k z v1 v2 v3 v4 v5 v6 v7} : rn_9_hull ns ct R K (n + 1) 117 [.inr (.inr (some z)), v1, v2, v3, v4, v5, v6, v7] k s = (rn_9_hull ns ct R K n 118 [.inr (.inr (some z)), v1, v2, v3, v4, v5, v6, v7] (.inr (.inr (some z)) :: k) s) := rfl
theorem rx_9_hull_118 {ns n ct R K s L k a} : rn_9_hull ns ct R K (n + 1) 118 L (.inr (.inr (some (some a))) :: k) s = (sy_ob a = some 9 ∧ rn_9_hull ns ct R K n 121 L (sy_fv s a 13 :: k) s) := rfl
theorem rx_9_hull_121 {ns n ct R K s k z v0 v2 v3 v4 v5 v6 v7} : rn_9_hull ns ct R K (n + 1) 121 [v0, .inl (true, z), v2, v3, v4, v5, v6, v7] k s = (rn_9_hull ns ct R K n 122 [v0, .inl (true, z), v2, v3, v4, v5, v6, v7] (.inl (true, z) :: k) s) := rfl
theorem rx_9_hull_122 {ns n ct R K s L k a b z} : rn_9_hull ns ct R K (n + 1) 122 L (.inl (b, z) :: .inr (.inr (some (some a))) :: k) s = ((0 ≤ z ∧ z < (sy_ar a).2) ∧ sy_ob a = none ∧ (sy_ar a).1 = 1 ∧ rn_9_hull ns ct R K n 123 L (.inr (.inl (true, s a z.toNat)) :: k) s) := rfl
theorem rx_9_hull_123 {ns n ct R K s L k a b x y} : rn_9_hull ns ct R K (n + 1) 123 L (.inr (.inl (b, y)) :: .inr (.inl (a, x)) :: k) s = (sy_rl a x ∧ sy_rl b y ∧ rn_9_hull ns ct R K n 124 L (.inl (true, sy_cmp x y) :: k) s) := rfl
theorem rx_9_hull_124 {ns n ct R K s L k a x} : rn_9_hull ns ct R K (n + 1) 124 L (.inl (a, x) :: k) s = (sy_ri a x ∧ (x < 0 → rn_9_hull ns ct R K n 159 L k s) ∧ (¬ x < 0 → rn_9_hull ns ct R K n 127 L k s)) := rfl
theorem rx_9_hull_127 {ns n ct R K s k z v1 v2 v3 v4 v5 v6 v7} : rn_9_hull ns ct R K (n + 1) 127 [.inr (.inr (some z)), v1, v2, v3, v4, v5, v6, v7] k s = (rn_9_hull ns ct R K n 128 [.inr (.inr (some z)), v1, v2, v3, v4, v5, v6, v7] (.inr (.inr (some z)) :: k) s) := rfl
theorem rx_9_hull_128 {ns n ct R K s L k a} : rn_9_hull ns ct R K (n + 1) 128 L (.inr (.inr (some (some a))) :: k) s = (sy_ob a = some 9 ∧ rn_9_hull ns ct R K n 131 L (sy_fv s a 13 :: k) s) := rfl
theorem rx_9_hull_131 {ns n ct R K s k z v0 v1 v3 v4 v5 v6 v7} : rn_9_hull ns ct R K (n + 1) 131 [v0, v1, .inl (true, z), v3, v4, v5, v6, v7] k s = (rn_9_hull ns ct R K n 132 [v0, v1, .inl (true, z), v3, v4, v5, v6, v7] (.inl (true, z) :: k) s) := rfl
theorem rx_9_hull_132 {ns n ct R K s L k a b z} : rn_9_hull ns ct R K (n + 1) 132 L (.inl (b, z) :: .inr (.inr (some (some a))) :: k) s = ((0 ≤ z ∧ z < (sy_ar a).2) ∧ sy_ob a = none ∧ (sy_ar a).1 = 1 ∧ rn_9_hull ns ct R K n 133 L (.inr (.inl (true, s a z.toNat)) :: k) s) := rfl
theorem rx_9_hull_133 {ns n ct R K s k z v1 v2 v3 v4 v5 v6 v7} : rn_9_hull ns ct R K (n + 1) 133 [.inr (.inr (some z)), v1, v2, v3, v4, v5, v6, v7] k s = (rn_9_hull ns ct R K n 134 [.inr (.inr (some z)), v1, v2, v3, v4, v5, v6, v7] (.inr (.inr (some z)) :: k) s) := rfl
theorem rx_9_hull_134 {ns n ct R K s L k a} : rn_9_hull ns ct R K (n + 1) 134 L (.inr (.inr (some (some a))) :: k) s = (sy_ob a = some 9 ∧ rn_9_hull ns ct R K n 137 L (sy_fv s a 13 :: k) s) := rfl
theorem rx_9_hull_137 {ns n ct R K s k z v0 v2 v3 v4 v5 v6 v7} : rn_9_hull ns ct R K (n + 1) 137 [v0, .inl (true, z), v2, v3, v4, v5, v6, v7] k s = (rn_9_hull ns ct R K n 138 [v0, .inl (true, z), v2, v3, v4, v5, v6, v7] (.inl (true, z) :: k) s) := rfl
theorem rx_9_hull_138 {ns n ct R K s L k a b z} : rn_9_hull ns ct R K (n + 1) 138 L (.inl (b, z) :: .inr (.inr (some (some a))) :: k) s = ((0 ≤ z ∧ z < (sy_ar a).2) ∧ sy_ob a = none ∧ (sy_ar a).1 = 1 ∧ rn_9_hull ns ct R K n 139 L (.inr (.inl (true, s a z.toNat)) :: k) s) := rfl
theorem rx_9_hull_139 {ns n ct R K s L k a b x y} : rn_9_hull ns ct R K (n + 1) 139 L (.inr (.inl (b, y)) :: .inr (.inl (a, x)) :: k) s = (sy_rl a x ∧ sy_rl b y ∧ rn_9_hull ns ct R K n 140 L (.inl (true, sy_cmp x y) :: k) s) := rfl
theorem rx_9_hull_140 {ns n ct R K s L k a x} : rn_9_hull ns ct R K (n + 1) 140 L (.inl (a, x) :: k) s = (sy_ri a x ∧ (¬ x = 0 → rn_9_hull ns ct R K n 163 L k s) ∧ (x = 0 → rn_9_hull ns ct R K n 143 L k s)) := rfl
theorem rx_9_hull_143 {ns n ct R K s k z v1 v2 v3 v4 v5 v6 v7} : rn_9_hull ns ct R K (n + 1) 143 [.inr (.inr (some z)), v1, v2, v3, v4, v5, v6, v7] k s = (rn_9_hull ns ct R K n 144 [.inr (.inr (some z)), v1, v2, v3, v4, v5, v6, v7] (.inr (.inr (some z)) :: k) s) := rfl
theorem rx_9_hull_144 {ns n ct R K s L k a} : rn_9_hull ns ct R K (n + 1) 144 L (.inr (.inr (some (some a))) :: k) s = (sy_ob a = some 9 ∧ rn_9_hull ns ct R K n 147 L (sy_fv s a 12 :: k) s) := rfl
theorem rx_9_hull_147 {ns n ct R K s k z v0 v1 v3 v4 v5 v6 v7} : rn_9_hull ns ct R K (n + 1) 147 [v0, v1, .inl (true, z), v3, v4, v5, v6, v7] k s = (rn_9_hull ns ct R K n 148 [v0, v1, .inl (true, z), v3, v4, v5, v6, v7] (.inl (true, z) :: k) s) := rfl
theorem rx_9_hull_148 {ns n ct R K s L k a b z} : rn_9_hull ns ct R K (n + 1) 148 L (.inl (b, z) :: .inr (.inr (some (some a))) :: k) s = ((0 ≤ z ∧ z < (sy_ar a).2) ∧ sy_ob a = none ∧ (sy_ar a).1 = 1 ∧ rn_9_hull ns ct R K n 149 L (.inr (.inl (true, s a z.toNat)) :: k) s) := rfl
theorem rx_9_hull_149 {ns n ct R K s k z v1 v2 v3 v4 v5 v6 v7} : rn_9_hull ns ct R K (n + 1) 149 [.inr (.inr (some z)), v1, v2, v3, v4, v5, v6, v7] k s = (rn_9_hull ns ct R K n 150 [.inr (.inr (some z)), v1, v2, v3, v4, v5, v6, v7] (.inr (.inr (some z)) :: k) s) := rfl
theorem rx_9_hull_150 {ns n ct R K s L k a} : rn_9_hull ns ct R K (n + 1) 150 L (.inr (.inr (some (some a))) :: k) s = (sy_ob a = some 9 ∧ rn_9_hull ns ct R K n 153 L (sy_fv s a 12 :: k) s) := rfl
theorem rx_9_hull_153 {ns n ct R K s k z v0 v2 v3 v4 v5 v6 v7} : rn_9_hull ns ct R K (n + 1) 153 [v0, .inl (true, z), v2, v3, v4, v5, v6, v7] k s = (rn_9_hull ns ct R K n 154 [v0, .inl (true, z), v2, v3, v4, v5, v6, v7] (.inl (true, z) :: k) s) := rfl
theorem rx_9_hull_154 {ns n ct R K s L k a b z} : rn_9_hull ns ct R K (n + 1) 154 L (.inl (b, z) :: .inr (.inr (some (some a))) :: k) s = ((0 ≤ z ∧ z < (sy_ar a).2) ∧ sy_ob a = none ∧ (sy_ar a).1 = 1 ∧ rn_9_hull ns ct R K n 155 L (.inr (.inl (true, s a z.toNat)) :: k) s) := rfl
theorem rx_9_hull_155 {ns n ct R K s L k a b x y} : rn_9_hull ns ct R K (n + 1) 155 L (.inr (.inl (b, y)) :: .inr (.inl (a, x)) :: k) s = (sy_rl a x ∧ sy_rl b y ∧ rn_9_hull ns ct R K n 156 L (.inl (true, sy_cmp x y) :: k) s) := rfl
theorem rx_9_hull_156 {ns n ct R K s L k a x} : rn_9_hull ns ct R K (n + 1) 156 L (.inl (a, x) :: k) s = (sy_ri a x ∧ (0 ≤ x → rn_9_hull ns ct R K n 163 L k s) ∧ (¬ 0 ≤ x → rn_9_hull ns ct R K n 159 L k s)) := rfl
theorem rx_9_hull_159 {ns n ct R K s k z v0 v1 v3 v4 v5 v6 v7} : rn_9_hull ns ct R K (n + 1) 159 [v0, v1, .inl (true, z), v3, v4, v5, v6, v7] k s = (rn_9_hull ns ct R K n 160 [v0, v1, .inl (true, z), v3, v4, v5, v6, v7] (.inl (true, z) :: k) s) := rfl
theorem rx_9_hull_160 {ns n ct R K s L k} : rn_9_hull ns ct R K (n + 1) 160 L k s = (rn_9_hull ns ct R K n 164 L k s) := rfl
theorem rx_9_hull_163 {ns n ct R K s k z v0 v2 v3 v4 v5 v6 v7} : rn_9_hull ns ct R K (n + 1) 163 [v0, .inl (true, z), v2, v3, v4, v5, v6, v7] k s = (rn_9_hull ns ct R K n 164 [v0, .inl (true, z), v2, v3, v4, v5, v6, v7] (.inl (true, z) :: k) s) := rfl
theorem rx_9_hull_164 {ns n ct R K s L k b z} : rn_9_hull ns ct R K (n + 1) 164 L (.inl (b, z) :: k) s = (sy_ri b z ∧ 1 < L.length ∧ rn_9_hull ns ct R K n 165 (sy_sto L 1 (.inl (true, z))) k s) := rfl
theorem rx_9_hull_165 {ns n ct R K s k z v0 v1 v3 v4 v5 v6 v7} : rn_9_hull ns ct R K (n + 1) 165 [v0, v1, .inl (true, z), v3, v4, v5, v6, v7] k s = ((-2147483648 ≤ z + 1 ∧ z + 1 < 2147483648) ∧ rn_9_hull ns ct R K n 168 (sy_sto [v0, v1, .inl (true, z), v3, v4, v5, v6, v7] 2 (.inl (true, z + 1))) k s) := rfl
theorem rx_9_hull_168 {ns n ct R K s L k} : rn_9_hull ns ct R K (n + 1) 168 L k s = (K 103 L k s) := rfl
theorem rx_9_hull_171 {ns n ct R K s k z v0 v2 v3 v4 v5 v6 v7} : rn_9_hull ns ct R K (n + 1) 171 [v0, .inl (true, z), v2, v3, v4, v5, v6, v7] k s = (rn_9_hull ns ct R K n 172 [v0, .inl (true, z), v2, v3, v4, v5, v6, v7] (.inl (true, z) :: k) s) := rfl
theorem rx_9_hull_172 {ns n ct R K s L k b z} : rn_9_hull ns ct R K (n + 1) 172 L (.inl (b, z) :: k) s = (sy_ri b z ∧ 2 < L.length ∧ rn_9_hull ns ct R K n 173 (sy_sto L 2 (.inl (true, z))) k s) := rfl
theorem rx_9_hull_173 {ns n ct R K s L k} : rn_9_hull ns ct R K (n + 1) 173 L k s = (rn_9_hull ns ct R K n 174 L (.inl (true, 1) :: k) s) := rfl
theorem rx_9_hull_174 {ns n ct R K s L k b z} : rn_9_hull ns ct R K (n + 1) 174 L (.inl (b, z) :: k) s = (sy_ri b z ∧ 3 < L.length ∧ K 175 (sy_sto L 3 (.inl (true, z))) k s) := rfl
theorem rx_9_hull_175 {ns n ct R K s k z v0 v1 v2 v4 v5 v6 v7} : rn_9_hull ns ct R K (n + 1) 175 [v0, v1, v2, .inl (true, z), v4, v5, v6, v7] k s = (rn_9_hull ns ct R K n 176 [v0, v1, v2, .inl (true, z), v4, v5, v6, v7] (.inl (true, z) :: k) s) := rfl
theorem rx_9_hull_176 {ns n ct R K s L k a x} : rn_9_hull ns ct R K (n + 1) 176 L (.inl (a, x) :: k) s = (sy_ri a x ∧ (x = 0 → rn_9_hull ns ct R K n 434 L k s) ∧ (¬ x = 0 → rn_9_hull ns ct R K n 179 L k s)) := rfl
theorem rx_9_hull_179 {ns n ct R K s k z v1 v2 v3 v4 v5 v6 v7} : rn_9_hull ns ct R K (n + 1) 179 [.inr (.inr (some z)), v1, v2, v3, v4, v5, v6, v7] k s = (rn_9_hull ns ct R K n 180 [.inr (.inr (some z)), v1, v2, v3, v4, v5, v6, v7] (.inr (.inr (some z)) :: k) s) := rfl
theorem rx_9_hull_180 {ns n ct R K s L k a} : rn_9_hull ns ct R K (n + 1) 180 L (.inr (.inr (some (some a))) :: k) s = (sy_ob a = some 9 ∧ rn_9_hull ns ct R K n 183 L (sy_fv s a 15 :: k) s) := rfl
theorem rx_9_hull_183 {ns n ct R K s k z v1 v2 v3 v4 v5 v6 v7} : rn_9_hull ns ct R K (n + 1) 183 [.inr (.inr (some z)), v1, v2, v3, v4, v5, v6, v7] k s = (rn_9_hull ns ct R K n 184 [.inr (.inr (some z)), v1, v2, v3, v4, v5, v6, v7] (.inr (.inr (some z)) :: k) s) := rfl
theorem rx_9_hull_184 {ns n ct R K s L k a} : rn_9_hull ns ct R K (n + 1) 184 L (.inr (.inr (some (some a))) :: k) s = (sy_ob a = some 9 ∧ rn_9_hull ns ct R K n 187 L (sy_fv s a 14 :: k) s) := rfl
theorem rx_9_hull_187 {ns n ct R K s k z v0 v1 v3 v4 v5 v6 v7} : rn_9_hull ns ct R K (n + 1) 187 [v0, v1, .inl (true, z), v3, v4, v5, v6, v7] k s = (rn_9_hull ns ct R K n 188 [v0, v1, .inl (true, z), v3, v4, v5, v6, v7] (.inl (true, z) :: k) s) := rfl
theorem rx_9_hull_188 {ns n ct R K s L k a b c z y} : rn_9_hull ns ct R K (n + 1) 188 L (.inl (c, y) :: .inl (b, z) :: .inr (.inr (some (some a))) :: k) s = (sy_ri c y ∧ (0 ≤ z ∧ z < (sy_ar a).2) ∧ sy_ob a = none ∧ (sy_ar a).1 = 0 ∧ rn_9_hull ns ct R K n 189 L k (sy_up s a z.toNat y)) := rfl
theorem rx_9_hull_189 {ns n ct R K s k z v1 v2 v3 v4 v5 v6 v7} : rn_9_hull ns ct R K (n + 1) 189 [.inr (.inr (some z)), v1, v2, v3, v4, v5, v6, v7] k s = (rn_9_hull ns ct R K n 190 [.inr (.inr (some z)), v1, v2, v3, v4, v5, v6, v7] (.inr (.inr (some z)) :: k) s) := rfl
theorem rx_9_hull_190_i {ns n ct R K s L k a} : rn_9_hull ns ct R K (n + 1) 190 L (.inl a :: k) s = (rn_9_hull ns ct R K n 191 L (.inl a :: .inl a :: k) s) := rfl
theorem rx_9_hull_190 {ns n ct R K s L k a} : rn_9_hull ns ct R K (n + 1) 190 L (.inr (.inr a) :: k) s = (rn_9_hull ns ct R K n 191 L (.inr (.inr a) :: .inr (.inr a) :: k) s) := rfl
theorem rx_9_hull_191 {ns n ct R K s L k a} : rn_9_hull ns ct R K (n + 1) 191 L (.inr (.inr (some (some a))) :: k) s = (sy_ob a = some 9 ∧ rn_9_hull ns ct R K n 194 L (sy_fv s a 14 :: k) s) := rfl
theorem rx_9_hull_194 {ns n ct R K s L k} : rn_9_hull ns ct R K (n + 1) 194 L k s = (rn_9_hull ns ct R K n 195 L (.inl (true, 1) :: k) s) := rfl
theorem rx_9_hull_195 {ns n ct R K s L k a b x y} : rn_9_hull ns ct R K (n + 1) 195 L (.inl (b, y) :: .inl (a, x) :: k) s = (rn_9_hull ns ct R K n 196 L (.inl (false, x + y) :: k) s) := rfl
theorem rx_9_hull_196 {ns n ct R K s L k a b z} : rn_9_hull ns ct R K (n + 1) 196 L (.inl (b, z) :: .inr (.inr (some (some a))) :: k) s = (sy_ob a = some 9 ∧ sy_ri b z ∧ sy_b01 false z ∧ rn_9_hull ns ct R K n 199 L k (sy_up s a 14 z)) := rfl
theorem rx_9_hull_199 {ns n ct R K s L k} : rn_9_hull ns ct R K (n + 1) 199 L k s = (rn_9_hull ns ct R K n 200 L (.inl (true, (-1)) :: k) s) := rfl
theorem rx_9_hull_200 {ns n ct R K s L k b z} : rn_9_hull ns ct R K (n + 1) 200 L (.inl (b, z) :: k) s = (sy_ri b z ∧ 4 < L.length ∧ rn_9_hull ns ct R K n 202 (sy_sto L 4 (.inl (true, z))) k s) := rfl
theorem rx_9_hull_202 {ns n ct R K s L k} : rn_9_hull ns ct R K (n + 1) 202 L k s = (rn_9_hull ns ct R K n 203 L (.inl (true, 0) :: k) s) := rfl
theorem rx_9_hull_203 {ns n ct R K s L k b z} : rn_9_hull ns ct R K (n + 1) 203 L (.inl (b, z) :: k) s = (sy_ri b z ∧ 5 < L.length ∧ K 205 (sy_sto L 5 (.inl (true, z))) k s) := rfl
theorem rx_9_hull_205 {ns n ct R K s k z v0 v1 v2 v3 v4 v6 v7} : rn_9_hull ns ct R K (n + 1) 205 [v0, v1, v2, v3, v4, .inl (true, z), v6, v7] k s = (rn_9_hull ns ct R K n 207 [v0, v1, v2, v3, v4, .inl (true, z), v6, v7] (.inl (true, z) :: k) s) := rfl
theorem rx_9_hull_207 {ns n ct R K s k z v1 v2 v3 v4 v5 v6 v7} : rn_9_hull ns ct R K (n + 1) 207 [.inr (.inr (some z)), v1, v2, v3, v4, v5, v6, v7] k s = (rn_9_hull ns ct R K n 208 [.inr (.inr (some z)), v1, v2, v3, v4, v5, v6, v7] (.inr (.inr (some z)) :: k) s) := rfl
theorem rx_9_hull_208 {ns n ct R K s L k a} : rn_9_hull ns ct R K (n + 1) 208 L (.inr (.inr (some (some a))) :: k) s = (sy_ob a = some 9 ∧ rn_9_hull ns ct R K n 211 L (sy_fv s a 11 :: k) s) := rfl
theorem rx_9_hull_211 {ns n ct R K s L k a b x y} : rn_9_hull ns ct R K (n + 1) 211 L (.inl (b, y) :: .inl (a, x) :: k) s = (sy_ri a x ∧ sy_ri b y ∧ (y ≤ x → rn_9_hull ns ct R K n 374 L k s) ∧ (¬ y ≤ x → rn_9_hull ns ct R K n 214 L k s)) := rfl
theorem rx_9_hull_214 {ns n ct R K s k z v1 v2 v3 v4 v5 v6 v7} : rn_9_hull ns ct R K (n + 1) 214 [.inr (.inr (some z)), v1, v2, v3, v4, v5, v6, v7] k s = (rn_9_hull ns ct R K n 215 [.inr (.inr (some z)), v1, v2, v3, v4, v5, v6, v7] (.inr (.inr (some z)) :: k) s) := rfl
theorem rx_9_hull_215 {ns n ct R K s L k a} : rn_9_hull ns ct R K (n + 1) 215 L (.inr (.inr (some (some a))) :: k) s = (sy_ob a = some 9 ∧ rn_9_hull ns ct R K n 218 L (sy_fv s a 12 :: k) s) := rfl
theorem rx_9_hull_218 {ns n ct R K s k z v0 v1 v2 v3 v4 v6 v7} : rn_9_hull ns ct R K (n + 1) 218 [v0, v1, v2, v3, v4, .inl (true, z), v6, v7] k s = (rn_9_hull ns ct R K n 220 [v0, v1, v2, v3, v4, .inl (true, z), v6, v7] (.inl (true, z) :: k) s) := rfl
theorem rx_9_hull_220 {ns n ct R K s L k a b z} : rn_9_hull ns ct R K (n + 1) 220 L (.inl (b, z) :: .inr (.inr (some (some a))) :: k) s = ((0 ≤ z ∧ z < (sy_ar a).2) ∧ sy_ob a = none ∧ (sy_ar a).1 = 1 ∧ rn_9_hull ns ct R K n 221 L (.inr (.inl (true, s a z.toNat)) :: k) s) := rfl
theorem rx_9_hull_221 {ns n ct R K s k z v1 v2 v3 v4 v5 v6 v7} : rn_9_hull ns ct R K (n + 1) 221 [.inr (.inr (some z)), v1, v2, v3, v4, v5, v6, v7] k s = (rn_9_hull ns ct R K n 222 [.inr (.inr (some z)), v1, v2, v3, v4, v5, v6, v7] (.inr (.inr (some z)) :: k) s) := rfl
theorem rx_9_hull_222 {ns n ct R K s L k a} : rn_9_hull ns ct R K (n + 1) 222 L (.inr (.inr (some (some a))) :: k) s = (sy_ob a = some 9 ∧ rn_9_hull ns ct R K n 225 L (sy_fv s a 12 :: k) s) := rfl
theorem rx_9_hull_225 {ns n ct R K s k z v0 v1 v3 v4 v5 v6 v7} : rn_9_hull ns ct R K (n + 1) 225 [v0, v1, .inl (true, z), v3, v4, v5, v6, v7] k s = (rn_9_hull ns ct R K n 226 [v0, v1, .inl (true, z), v3, v4, v5, v6, v7] (.inl (true, z) :: k) s) := rfl
theorem rx_9_hull_226 {ns n ct R K s L k a b z} : rn_9_hull ns ct R K (n + 1) 226 L (.inl (b, z) :: .inr (.inr (some (some a))) :: k) s = ((0 ≤ z ∧ z < (sy_ar a).2) ∧ sy_ob a = none ∧ (sy_ar a).1 = 1 ∧ rn_9_hull ns ct R K n 227 L (.inr (.inl (true, s a z.toNat)) :: k) s) := rfl
theorem rx_9_hull_227 {ns n ct R K s L k a b x y} : rn_9_hull ns ct R K (n + 1) 227 L (.inr (.inl (b, y)) :: .inr (.inl (a, x)) :: k) s = (sy_rl a x ∧ sy_rl b y ∧ rn_9_hull ns ct R K n 228 L (.inl (true, sy_cmp x y) :: k) s) := rfl
theorem rx_9_hull_228 {ns n ct R K s L k a x} : rn_9_hull ns ct R K (n + 1) 228 L (.inl (a, x) :: k) s = (sy_ri a x ∧ (¬ x = 0 → rn_9_hull ns ct R K n 251 L k s) ∧ (x = 0 → rn_9_hull ns ct R K n 231 L k s)) := rfl
theorem rx_9_hull_231 {ns n ct R K s k z v1 v2 v3 v4 v5 v6 v7} : rn_9_hull ns ct R K (n + 1) 231 [.inr (.inr (some z)), v1, v2, v3, v4, v5, v6, v7] k s = (rn_9_hull ns ct R K n 232 [.inr (.inr (some z)), v1, v2, v3, v4, v5, v6, v7] (.inr (.inr (some z)) :: k) s) := rfl
theorem rx_9_hull_232 {ns n ct R K s L k a} : rn_9_hull ns ct R K (n + 1) 232 L (.inr (.inr (some (some a))) :: k) s = (sy_ob a = some 9 ∧ rn_9_hull ns ct R K n 235 L (sy_fv s a 13 :: k) s) := rfl
theorem rx_9_hull_235 {ns n ct R K s k z v0 v1 v2 v3 v4 v6 v7} : rn_9_hull ns ct R K (n + 1) 235 [v0, v1, v2, v3, v4, .inl (true, z), v6, v7] k s = (rn_9_hull ns ct R K n 237 [v0, v1, v2, v3, v4, .inl (true, z), v6, v7] (.inl (true, z) :: k) s) := rfl
theorem rx_9_hull_237 {ns n ct R K s L k a b z} : rn_9_hull ns ct R K (n + 1) 237 L (.inl (b, z) :: .inr (.inr (some (some a))) :: k) s = ((0 ≤ z ∧ z < (sy_ar a).2) ∧ sy_ob a = none ∧ (sy_ar a).1 = 1 ∧ rn_9_hull ns ct R K n 238 L (.inr (.inl (true, s a z.toNat)) :: k) s) := rfl
theorem rx_9_hull_238 {ns n ct R K s k z v1 v2 v3 v4 v5 v6 v7} : rn_9_hull ns ct R K (n + 1) 238 [.inr (.inr (some z)), v1, v2, v3, v4, v5, v6, v7] k s = (rn_9_hull ns ct R K n 239 [.inr (.inr (some z)), v1, v2, v3, v4, v5, v6, v7] (.inr (.inr (some z)) :: k) s) := rfl
theorem rx_9_hull_239 {ns n ct R K s L k a} : rn_9_hull ns ct R K (n + 1) 239 L (.inr (.inr (some (some a))) :: k) s = (sy_ob a = some 9 ∧ rn_9_hull ns ct R K n 242 L (sy_fv s a 13 :: k) s) := rfl
theorem rx_9_hull_242 {ns n ct R K s k z v0 v1 v3 v4 v5 v6 v7} : rn_9_hull ns ct R K (n + 1) 242 [v0, v1, .inl (true, z), v3, v4, v5, v6, v7] k s = (rn_9_hull ns ct R K n 243 [v0, v1, .inl (true, z), v3, v4, v5, v6, v7] (.inl (true, z) :: k) s) := rfl
theorem rx_9_hull_243 {ns n ct R K s L k a b z} : rn_9_hull ns ct R K (n + 1) 243 L (.inl (b, z) :: .inr (.inr (some (some a))) :: k) s = ((0 ≤ z ∧ z < (sy_ar a).2) ∧ sy_ob a = none ∧ (sy_ar a).1 = 1 ∧ rn_9_hull ns ct R K n 244 L (.inr (.inl (true, s a z.toNat)) :: k) s) := rfl
theorem rx_9_hull_244 {ns n ct R K s L k a b x y} : rn_9_hull ns ct R K (n + 1) 244 L (.inr (.inl (b, y)) :: .inr (.inl (a, x)) :: k) s = (sy_rl a x ∧ sy_rl b y ∧ rn_9_hull ns ct R K n 245 L (.inl (true, sy_cmp x y) :: k) s) := rfl
theorem rx_9_hull_245 {ns n ct R K s L k a x} : rn_9_hull ns ct R K (n + 1) 245 L (.inl (a, x) :: k) s = (sy_ri a x ∧ (¬ x = 0 → rn_9_hull ns ct R K n 251 L k s) ∧ (x = 0 → rn_9_hull ns ct R K n 248 L k s)) := rfl
theorem rx_9_hull_248 {ns n ct R K s L k} : rn_9_hull ns ct R K (n + 1) 248 L k s = (rn_9_hull ns ct R K n 368 L k s) := rfl
theorem rx_9_hull_251 {ns n ct R K s k z v0 v1 v2 v3 v5 v6 v7} : rn_9_hull ns ct R K (n + 1) 251 [v0, v1, v2, v3, .inl (true, z), v5, v6, v7] k s = (rn_9_hull ns ct R K n 253 [v0, v1, v2, v3, .inl (true, z), v5, v6, v7] (.inl (true, z) :: k) s) := rfl
theorem rx_9_hull_253 {ns n ct R K s L k} : rn_9_hull ns ct R K (n + 1) 253 L k s = (rn_9_hull ns ct R K n 254 L (.inl (true, (-1)) :: k) s) := rfl
theorem rx_9_hull_254 {ns n ct R K s L k a b x y} : rn_9_hull ns ct R K (n + 1) 254 L (.inl (b, y) :: .inl (a, x) :: k) s = (sy_ri a x ∧ sy_ri b y ∧ (¬ x = y → rn_9_hull ns ct R K n 261 L k s) ∧ (x = y → rn_9_hull ns ct R K n 257 L k s)) := rfl
theorem rx_9_hull_257 {ns n ct R K s k z v0 v1 v2 v3 v4 v6 v7} : rn_9_hull ns ct R K (n + 1) 257 [v0, v1, v2, v3, v4, .inl (true, z), v6, v7] k s = (rn_9_hull ns ct R K n 259 [v0, v1, v2, v3, v4, .inl (true, z), v6, v7] (.inl (true, z) :: k) s) := rfl
theorem rx_9_hull_259 {ns n ct R K s L k b z} : rn_9_hull ns ct R K (n + 1) 259 L (.inl (b, z) :: k) s = (sy_ri b z ∧ 4 < L.length ∧ rn_9_hull ns ct R K n 261 (sy_sto L 4 (.inl (true, z))) k s) := rfl
theorem rx_9_hull_261 {ns n ct R K s k z v1 v2 v3 v4 v5 v6 v7} : rn_9_hull ns ct R K (n + 1) 261 [.inr (.inr (some z)), v1, v2, v3, v4, v5, v6, v7] k s = (rn_9_hull ns ct R K n 262 [.inr (.inr (some z)), v1, v2, v3, v4, v5, v6, v7] (.inr (.inr (some z)) :: k) s) := rfl
theorem rx_9_hull_262 {ns n ct R K s k z v0 v1 v3 v4 v5 v6 v7} : rn_9_hull ns ct R K (n + 1) 262 [v0, v1, .inl (true, z), v3, v4, v5, v6, v7] k s = (rn_9_hull ns ct R K n 263 [v0, v1, .inl (true, z), v3, v4, v5, v6, v7] (.inl (true, z) :: k) s) := rfl
theorem rx_9_hull_263 {ns n ct R K s k z v0 v1 v2 v3 v5 v6 v7} : rn_9_hull ns ct R K (n + 1) 263 [v0, v1, v2, v3, .inl (true, z), v5, v6, v7] k s = (rn_9_hull ns ct R K n 265 [v0, v1, v2, v3, .inl (true, z), v5, v6, v7] (.inl (true, z) :: k) s) := rfl
theorem rx_9_hull_265 {ns n ct R K s k z v1 v2 v3 v4 v5 v6 v7} : rn_9_hull ns ct R K (n + 1) 265 [.inr (.inr (some z)), v1, v2, v3, v4, v5, v6, v7] k s = (rn_9_hull ns ct R K n 266 [.inr (.inr (some z)), v1, v2, v3, v4, v5, v6, v7] (.inr (.inr (some z)) :: k) s) := rfl
theorem rx_9_hull_266 {ns n ct R K s L k a} : rn_9_hull ns ct R K (n + 1) 266 L (.inr (.inr (some (some a))) :: k) s = (sy_ob a = some 9 ∧ rn_9_hull ns ct R K n 269 L (sy_fv s a 12 :: k) s) := rfl
theorem rx_9_hull_269 {ns n ct R K s k z v0 v1 v2 v3 v4 v6 v7} : rn_9_hull ns ct R K (n + 1) 269 [v0, v1, v2, v3, v4, .inl (true, z), v6, v7] k s = (rn_9_hull ns ct R K n 271 [v0, v1, v2, v3, v4, .inl (true, z), v6, v7] (.inl (true, z) :: k) s) := rfl
theorem rx_9_hull_271 {ns n ct R K s L k a b z} : rn_9_hull ns ct R K (n + 1) 271 L (.inl (b, z) :: .inr (.inr (some (some a))) :: k) s = ((0 ≤ z ∧ z < (sy_ar a).2) ∧ sy_ob a = none ∧ (sy_ar a).1 = 1 ∧ rn_9_hull ns ct R K n 272 L (.inr (.inl (true, s a z.toNat)) :: k) s) := rfl
theorem rx_9_hull_272 {ns n ct R K s k z v1 v2 v3 v4 v5 v6 v7} : rn_9_hull ns ct R K (n + 1) 272 [.inr (.inr (some z)), v1, v2, v3, v4, v5, v6, v7] k s = (rn_9_hull ns ct R K n 273 [.inr (.inr (some z)), v1, v2, v3, v4, v5, v6, v7] (.inr (.inr (some z)) :: k) s) := rfl
theorem rx_9_hull_273 {ns n ct R K s L k a} : rn_9_hull ns ct R K (n + 1) 273 L (.inr (.inr (some (some a))) :: k) s = (sy_ob a = some 9 ∧ rn_9_hull ns ct R K n 276 L (sy_fv s a 13 :: k) s) := rfl
theorem rx_9_hull_276 {ns n ct R K s k z v0 v1 v2 v3 v4 v6 v7} : rn_9_hull ns ct R K (n + 1) 276 [v0, v1, v2, v3, v4, .inl (true, z), v6, v7] k s = (rn_9_hull ns ct R K n 278 [v0, v1, v2, v3, v4, .inl (true, z), v6, v7] (.inl (true, z) :: k) s) := rfl
theorem rx_9_hull_278 {ns n ct R K s L k a b z} : rn_9_hull ns ct R K (n + 1) 278 L (.inl (b, z) :: .inr (.inr (some (some a))) :: k) s = ((0 ≤ z ∧ z < (sy_ar a).2) ∧ sy_ob a = none ∧ (sy_ar a).1 = 1 ∧ rn_9_hull ns ct R K n 279 L (.inr (.inl (true, s a z.toNat)) :: k) s) := rfl
theorem rx_9_hull_279 {ns n ct R K s L k} : rn_9_hull ns ct R K (n + 1) 279 L k s = (sy_call false (ct 124) k s fun r t => rn_9_hull ns ct R K n 282 L r t) := rfl
theorem rx_9_hull_282 {ns n ct R K s L k b z} : rn_9_hull ns ct R K (n + 1) 282 L (.inr (.inl (b, z)) :: k) s = (sy_rl b z ∧ 7 < L.length ∧ rn_9_hull ns ct R K n 284 (sy_gone (sy_sto L 6 (.inr (.inl (true, z)))) 7) k s) := rfl
theorem rx_9_hull_284 {ns n ct R K s k z v0 v1 v2 v3 v4 v5 v7} : rn_9_hull ns ct R K (n + 1) 284 [v0, v1, v2, v3, v4, v5, .inr (.inl (true, z)), v7] k s = (rn_9_hull ns ct R K n 286 [v0, v1, v2, v3, v4, v5, .inr (.inl (true, z)), v7] (.inr (.inl (true, z)) :: k) s) := rfl
theorem rx_9_hull_286 {ns n ct R K s L k} : rn_9_hull ns ct R K (n + 1) 286 L k s = (rn_9_hull ns ct R K n 287 L (.inr (.inl (true, 0)) :: k) s) := rfl
theorem rx_9_hull_287 {ns n ct R K s L k a b x y} : rn_9_hull ns ct R K (n + 1) 287 L (.inr (.inl (b, y)) :: .inr (.inl (a, x)) :: k) s = (sy_rl a x ∧ sy_rl b y ∧ rn_9_hull ns ct R K n 288 L (.inl (true, sy_cmp x y) :: k) s) := rfl
theorem rx_9_hull_288 {ns n ct R K s L k a x} : rn_9_hull ns ct R K (n + 1) 288 L (.inl (a, x) :: k) s = (sy_ri a x ∧ (x < 0 → rn_9_hull ns ct R K n 364 L k s) ∧ (¬ x < 0 → rn_9_hull ns ct R K n 291 L k s)) := rfl
theorem rx_9_hull_291 {ns n ct R K s k z v0 v1 v2 v3 v4 v5 v7} : rn_9_hull ns ct R K (n + 1) 291 [v0, v1, v2, v3, v4, v5, .inr (.inl (true, z)), v7] k s = (rn_9_hull ns ct R K n 293 [v0, v1, v2, v3, v4, v5, .inr (.inl (true, z)), v7] (.inr (.inl (true, z)) :: k) s) := rfl
theorem rx_9_hull_293 {ns n ct R K s L k} : rn_9_hull ns ct R K (n + 1) 293 L k s = (rn_9_hull ns ct R K n 294 L (.inr (.inl (true, 0)) :: k) s) := rfl
theorem rx_9_hull_294 {ns n ct R K s L k a b x y} : rn_9_hull ns ct R K (n + 1) 294 L (.inr (.inl (b, y)) :: .inr (.inl (a, x)) :: k) s = (sy_rl a x ∧ sy_rl b y ∧ rn_9_hull ns ct R K n 295 L (.inl (true, sy_cmp x y) :: k) s) := rfl
theorem rx_9_hull_295 {ns n ct R K s L k a x} : rn_9_hull ns ct R K (n + 1) 295 L (.inl (a, x) :: k) s = (sy_ri a x ∧ (¬ x = 0 → rn_9_hull ns ct R K n 368 L k s) ∧ (x = 0 → rn_9_hull ns ct R K n 298 L k s)) := rfl
theorem rx_9_hull_298 {ns n ct R K s k z v1 v2 v3 v4 v5 v6 v7} : rn_9_hull ns ct R K (n + 1) 298 [.inr (.inr (some z)), v1, v2, v3, v4, v5, v6, v7] k s = (rn_9_hull ns ct R K n 299 [.inr (.inr (some z)), v1, v2, v3, v4, v5, v6, v7] (.inr (.inr (some z)) :: k) s) := rfl
theorem rx_9_hull_299 {ns n ct R K s L k a} : rn_9_hull ns ct R K (n + 1) 299 L (.inr (.inr (some (some a))) :: k) s = (sy_ob a = some 9 ∧ rn_9_hull ns ct R K n 302 L (sy_fv s a 12 :: k) s) := rfl
theorem rx_9_hull_302 {ns n ct R K s k z v0 v1 v2 v3 v4 v6 v7} : rn_9_hull ns ct R K (n + 1) 302 [v0, v1, v2, v3, v4, .inl (true, z), v6, v7] k s = (rn_9_hull ns ct R K n 304 [v0, v1, v2, v3, v4, .inl (true, z), v6, v7] (.inl (true, z) :: k) s) := rfl
theorem rx_9_hull_304 {ns n ct R K s L k a b z} : rn_9_hull ns ct R K (n + 1) 304 L (.inl (b, z) :: .inr (.inr (some (some a))) :: k) s = ((0 ≤ z ∧ z < (sy_ar a).2) ∧ sy_ob a = none ∧ (sy_ar a).1 = 1 ∧ rn_9_hull ns ct R K n 305 L (.inr (.inl (true, s a z.toNat)) :: k) s) := rfl
theorem rx_9_hull_305 {ns n ct R K s k z v1 v2 v3 v4 v5 v6 v7} : rn_9_hull ns ct R K (n + 1) 305 [.inr (.inr (some z)), v1, v2, v3, v4, v5, v6, v7] k s = (rn_9_hull ns ct R K n 306 [.inr (.inr (some z)), v1, v2, v3, v4, v5, v6, v7] (.inr (.inr (some z)) :: k) s) := rfl
theorem rx_9_hull_306 {ns n ct R K s L k a} : rn_9_hull ns ct R K (n + 1) 306 L (.inr (.inr (some (some a))) :: k) s = (sy_ob a = some 9 ∧ rn_9_hull ns ct R K n 309 L (sy_fv s a 12 :: k) s) := rfl
theorem rx_9_hull_309 {ns n ct R K s k z v0 v1 v3 v4 v5 v6 v7} : rn_9_hull ns ct R K (n + 1) 309 [v0, v1, .inl (true, z), v3, v4, v5, v6, v7] k s = (rn_9_hull ns ct R K n 310 [v0, v1, .inl (true, z), v3, v4, v5, v6, v7] (.inl (true, z) :: k) s) := rfl
theorem rx_9_hull_310 {ns n ct R K s L k a b z} : rn_9_hull ns ct R K (n + 1) 310 L (.inl (b, z) :: .inr (.inr (some (some a))) :: k) s = ((0 ≤ z ∧ z < (sy_ar a).2) ∧ sy_ob a = none ∧ (sy_ar a).1 = 1 ∧ rn_9_hull ns ct R K n 311 L (.inr (.inl (true, s a z.toNat)) :: k) s) := rfl
theorem rx_9_hull_311 {ns n ct R K s L k a b x y} : rn_9_hull ns ct R K (n + 1) 311 L (.inr (.inl (b, y)) :: .inr (.inl (a, x)) :: k) s = (rn_9_hull ns ct R K n 312 L (.inr (.inl (false, x - y)) :: k) s) := rfl
theorem rx_9_hull_312 {ns n ct R K s k z v1 v2 v3 v4 v5 v6 v7} : rn_9_hull ns ct R K (n + 1) 312 [.inr (.inr (some z)), v1, v2, v3, v4, v5, v6, v7] k s = (rn_9_hull ns ct R K n 313 [.inr (.inr (some z)), v1, v2, v3, v4, v5, v6, v7] (.inr (.inr (some z)) :: k) s) := rfl
theorem rx_9_hull_313 {ns n ct R K s L k a} : rn_9_hull ns ct R K (n + 1) 313 L (.inr (.inr (some (some a))) :: k) s = (sy_ob a = some 9 ∧ rn_9_hull ns ct R K n 316 L (sy_fv s a 13 :: k) s) := rfl
theorem rx_9_hull_316 {ns n ct R K s k z v0 v1 v2 v3 v4 v6 v7} : rn_9_hull ns ct R K (n + 1) 316 [v0, v1, v2, v3, v4, .inl (true, z), v6, v7] k s = (rn_9_hull ns ct R K n 318 [v0, v1, v2, v3, v4, .inl (true, z), v6, v7] (.inl (true, z) :: k) s) := rfl
theorem rx_9_hull_318 {ns n ct R K s L k a b z} : rn_9_hull ns ct R K (n + 1) 318 L (.inl (b, z) :: .inr (.inr (some (some a))) :: k) s = ((0 ≤ z ∧ z < (sy_ar a).2) ∧ sy_ob a = none ∧ (sy_ar a).1 = 1 ∧ rn_9_hull ns ct R K n 319 L (.inr (.inl (true, s a z.toNat)) :: k) s) := rfl
theorem rx_9_hull_319 {ns n ct R K s k z v1 v2 v3 v4 v5 v6 v7} : rn_9_hull ns ct R K (n + 1) 319 [.inr (.inr (some z)), v1, v2, v3, v4, v5, v6, v7] k s = (rn_9_hull ns ct R K n 320 [.inr (.inr (some z)), v1, v2, v3, v4, v5, v6, v7] (.inr (.inr (some z)) :: k) s) := rfl
theorem rx_9_hull_320 {ns n ct R K s L k a} : rn_9_hull ns ct R K (n + 1) 320 L (.inr (.inr (some (some a))) :: k) s = (sy_ob a = some 9 ∧ rn_9_hull ns ct R K n 323 L (sy_fv s a 13 :: k) s) := rfl
theorem rx_9_hull_323 {ns n ct R K s k z v0 v1 v3 v4 v5 v6 v7} : rn_9_hull ns ct R K (n + 1) 323 [v0, v1, .inl (true, z), v3, v4, v5, v6, v7] k s = (rn_9_hull ns ct R K n 324 [v0, v1, .inl (true, z), v3, v4, v5, v6, v7] (.inl (true, z) :: k) s) := rfl
theorem rx_9_hull_324 {ns n ct R K s L k a b z} : rn_9_hull ns ct R K (n + 1) 324 L (.inl (b, z) :: .inr (.inr (some (some a))) :: k) s = ((0 ≤ z ∧ z < (sy_ar a).2) ∧ sy_ob a = none ∧ (sy_ar a).1 = 1 ∧ rn_9_hull ns ct R K n 325 L (.inr (.inl (true, s a z.toNat)) :: k) s) := rfl
theorem rx_9_hull_325 {ns n ct R K s L k a b x y} : rn_9_hull ns ct R K (n + 1) 325 L (.inr (.inl (b, y)) :: .inr (.inl (a, x)) :: k) s = (rn_9_hull ns ct R K n 326 L (.inr (.inl (false, x - y)) :: k) s) := rfl
theorem rx_9_hull_326 {ns n ct R K s L k} : rn_9_hull ns ct R K (n + 1) 326 L k s = (sy_call true (ct 128) k s fun r t => rn_9_hull ns ct R K n 329 L r t) := rfl
theorem rx_9_hull_329 {ns n ct R K s k z v1 v2 v3 v4 v5 v6 v7} : rn_9_hull ns ct R K (n + 1) 329 [.inr (.inr (some z)), v1, v2, v3, v4, v5, v6, v7] k s = (rn_9_hull ns ct R K n 330 [.inr (.inr (some z)), v1, v2, v3, v4, v5, v6, v7] (.inr (.inr (some z)) :: k) s) := rfl
theorem rx_9_hull_330 {ns n ct R K s L k a} : rn_9_hull ns ct R K (n + 1) 330 L (.inr (.inr (some (some a))) :: k) s = (sy_ob a = some 9 ∧ rn_9_hull ns ct R K n 333 L (sy_fv s a 12 :: k) s) := rfl
theorem rx_9_hull_333 {ns n ct R K s k z v0 v1 v2 v3 v5 v6 v7} : rn_9_hull ns ct R K (n + 1) 333 [v0, v1, v2, v3, .inl (true, z), v5, v6, v7] k s = (rn_9_hull ns ct R K n 335 [v0, v1, v2, v3, .inl (true, z), v5, v6, v7] (.inl (true, z) :: k) s) := rfl
theorem rx_9_hull_335 {ns n ct R K s L k a b z} : rn_9_hull ns ct R K (n + 1) 335 L (.inl (b, z) :: .inr (.inr (some (some a))) :: k) s = ((0 ≤ z ∧ z < (sy_ar a).2) ∧ sy_ob a = none ∧ (sy_ar a).1 = 1 ∧ rn_9_hull ns ct R K n 336 L (.inr (.inl (true, s a z.toNat)) :: k) s) := rfl
theorem rx_9_hull_336 {ns n ct R K s k z v1 v2 v3 v4 v5 v6 v7} : rn_9_hull ns ct R K (n + 1) 336 [.inr (.inr (some z)), v1, v2, v3, v4, v5, v6, v7] k s = (rn_9_hull ns ct R K n 337 [.inr (.inr (some z)), v1, v2, v3, v4, v5, v6, v7] (.inr (.inr (some z)) :: k) s) := rfl
theorem rx_9_hull_337 {ns n ct R K s L k a} : rn_9_hull ns ct R K (n + 1) 337 L (.inr (.inr (some (some a))) :: k) s = (sy_ob a = some 9 ∧ rn_9_hull ns ct R K n 340 L (sy_fv s a 12 :: k) s) := rfl
theorem rx_9_hull_340 {ns n ct R K s k z v0 v1 v3 v4 v5 v6 v7} : rn_9_hull ns ct R K (n + 1) 340 [v0, v1, .inl (true, z), v3, v4, v5, v6, v7] k s = (rn_9_hull ns ct R K n 341 [v0, v1, .inl (true, z), v3, v4, v5, v6, v7] (.inl (true, z) :: k) s) := rfl
theorem rx_9_hull_341 {ns n ct R K s L k a b z} : rn_9_hull ns ct R K (n + 1) 341 L (.inl (b, z) :: .inr (.inr (some (some a))) :: k) s = ((0 ≤ z ∧ z < (sy_ar a).2) ∧ sy_ob a = none ∧ (sy_ar a).1 = 1 ∧ rn_9_hull ns ct R K n 342 L (.inr (.inl (true, s a z.toNat)) :: k) s) := rfl
theorem rx_9_hull_342 {ns n ct R K s L k a b x y} : rn_9_hull ns ct R K (n + 1) 342 L (.inr (.inl (b, y)) :: .inr (.inl (a, x)) :: k) s = (rn_9_hull ns ct R K n 343 L (.inr (.inl (false, x - y)) :: k) s) := rfl
theorem rx_9_hull_343 {ns n ct R K s k z v1 v2 v3 v4 v5 v6 v7} : rn_9_hull ns ct R K (n + 1) 343 [.inr (.inr (some z)), v1, v2, v3, v4, v5, v6, v7] k s = (rn_9_hull ns ct R K n 344 [.inr (.inr (some z)), v1, v2, v3, v4, v5, v6, v7] (.inr (.inr (some z)) :: k) s) := rfl
theorem rx_9_hull_344 {ns n ct R K s L k a} : rn_9_hull ns ct R K (n + 1) 344 L (.inr (.inr (some (some a))) :: k) s = (sy_ob a = some 9 ∧ rn_9_hull ns ct R K n 347 L (sy_fv s a 13 :: k) s) := rfl
theorem rx_9_hull_347 {ns n ct R K s k z v0 v1 v2 v3 v5 v6 v7} : rn_9_hull ns ct R K (n + 1) 347 [v0, v1, v2, v3, .inl (true, z), v5, v6, v7] k s = (rn_9_hull ns ct R K n 349 [v0, v1, v2, v3, .inl (true, z), v5, v6, v7] (.inl (true, z) :: k) s) := rfl
theorem rx_9_hull_349 {ns n ct R K s L k a b z} : rn_9_hull ns ct R K (n + 1) 349 L (.inl (b, z) :: .inr (.inr (some (some a))) :: k) s = ((0 ≤ z ∧ z < (sy_ar a).2) ∧ sy_ob a = none ∧ (sy_ar a).1 = 1 ∧ rn_9_hull ns ct R K n 350 L (.inr (.inl (true, s a z.toNat)) :: k) s) := rfl
theorem rx_9_hull_350 {ns n ct R K s k z v1 v2 v3 v4 v5 v6 v7} : rn_9_hull ns ct R K (n + 1) 350 [.inr (.inr (some z)), v1, v2, v3, v4, v5, v6, v7] k s = (rn_9_hull ns ct R K n 351 [.inr (.inr (some z)), v1, v2, v3, v4, v5, v6, v7] (.inr (.inr (some z)) :: k) s) := rfl
theorem rx_9_hull_351 {ns n ct R K s L k a} : rn_9_hull ns ct R K (n + 1) 351 L (.inr (.inr (some (some a))) :: k) s = (sy_ob a = some 9 ∧ rn_9_hull ns ct R K n 354 L (sy_fv s a 13 :: k) s) := rfl
theorem rx_9_hull_354 {ns n ct R K s k z v0 v1 v3 v4 v5 v6 v7} : rn_9_hull ns ct R K (n + 1) 354 [v0, v1, .inl (true, z), v3, v4, v5, v6, v7] k s = (rn_9_hull ns ct R K n 355 [v0, v1, .inl (true, z), v3, v4, v5, v6, v7] (.inl (true, z) :: k) s) := rfl
theorem rx_9_hull_355 {ns n ct R K s L k a b z} : rn_9_hull ns ct R K (n + 1) 355 L (.inl (b, z) :: .inr (.inr (some (some a))) :: k) s = ((0 ≤ z ∧ z < (sy_ar a).2) ∧ sy_ob a = none ∧ (sy_ar a).1 = 1 ∧ rn_9_hull ns ct R K n 356 L (.inr (.inl (true, s a z.toNat)) :: k) s) := rfl
theorem rx_9_hull_356 {ns n ct R K s L k a b x y} : rn_9_hull ns ct R K (n + 1) 356 L (.inr (.inl (b, y)) :: .inr (.inl (a, x)) :: k) s = (rn_9_hull ns ct R K n 357 L (.inr (.inl (false, x - y)) :: k) s) := rfl
theorem rx_9_hull_357 {ns n ct R K s L k} : rn_9_hull ns ct R K (n + 1) 357 L k s = (sy_call true (ct 128) k s fun r t => rn_9_hull ns ct R K n 360 L r t) := rfl
theorem rx_9_hull_360 {ns n ct R K s L k a b x y} : rn_9_hull ns ct R K (n + 1) 360 L (.inr (.inl (b, y)) :: .inr (.inl (a, x)) :: k) s = (sy_rl a x ∧ sy_rl b y ∧ rn_9_hull ns ct R K n 361 L (.inl (true, sy_cmp x y) :: k) s) := rfl
theorem rx_9_hull_361 {ns n ct R K s L k a x} : rn_9_hull ns ct R K (n + 1) 361 L (.inl (a, x) :: k) s = (sy_ri a x ∧ (x ≤ 0 → rn_9_hull ns ct R K n 368 L k s) ∧ (¬ x ≤ 0 → rn_9_hull ns ct R K n 364 L k s)) := rfl
theorem rx_9_hull_364 {ns n ct R K s k z v0 v1 v2 v3 v4 v6 v7} : rn_9_hull ns ct R K (n + 1) 364 [v0, v1, v2, v3, v4, .inl (true, z), v6, v7] k s = (rn_9_hull ns ct R K n 366 [v0, v1, v2, v3, v4, .inl (true, z), v6, v7] (.inl (true, z) :: k) s) := rfl
theorem rx_9_hull_366 {ns n ct R K s L k b z} : rn_9_hull ns ct R K (n + 1) 366 L (.inl (b, z) :: k) s = (sy_ri b z ∧ 4 < L.length ∧ rn_9_hull ns ct R K n 368 (sy_sto L 4 (.inl (true, z))) k s) := rfl
theorem rx_9_hull_368 {ns n ct R K s k z v0 v1 v2 v3 v4 v6 v7} : rn_9_hull ns ct R K (n + 1) 368 [v0, v1, v2, v3, v4, .inl (true, z), v6, v7] k s = ((-2147483648 ≤ z + 1 ∧ z + 1 < 2147483648) ∧ rn_9_hull ns ct R K n 371 (sy_sto [v0, v1, v2, v3, v4, .inl (true, z), v6, v7] 5 (.inl (true, z + 1))) k s) := rfl
theorem rx_9_hull_371 {ns n ct R K s L k} : rn_9_hull ns ct R K (n + 1) 371 L k s = (K 205 L k s) := rfl
theorem rx_9_hull_374 {ns n ct R K s k z v0 v1 v2 v3 v5 v6 v7} : rn_9_hull ns ct R K (n + 1) 374 [v0, v1, v2, v3, .inl (true, z), v5, v6, v7] k s = (rn_9_hull ns ct R K n 376 [v0, v1, v2, v3, .inl (true, z), v5, v6, v7] (.inl (true, z) :: k) s) := rfl
theorem rx_9_hull_376 {ns n ct R K s L k} : rn_9_hull ns ct R K (n + 1) 376 L k s = (rn_9_hull ns ct R K n 377 L (.inl (true, (-1)) :: k) s) := rfl
theorem rx_9_hull_377 {ns n ct R K s L k a b x y} : rn_9_hull ns ct R K (n + 1) 377 L (.inl (b, y) :: .inl (a, x) :: k) s = (sy_ri a x ∧ sy_ri b y ∧ (x = y → rn_9_hull ns ct R K n 418 L k s) ∧ (¬ x = y → rn_9_hull ns ct R K n 380 L k s)) := rfl
theorem rx_9_hull_380 {ns n ct R K s k z v1 v2 v3 v4 v5 v6 v7} : rn_9_hull ns ct R K (n + 1) 380 [.inr (.inr (some z)), v1, v2, v3, v4, v5, v6, v7] k s = (rn_9_hull ns ct R K n 381 [.inr (.inr (some z)), v1, v2, v3, v4, v5, v6, v7] (.inr (.inr (some z)) :: k) s) := rfl
theorem rx_9_hull_381 {ns n ct R K s L k a} : rn_9_hull ns ct R K (n + 1) 381 L (.inr (.inr (some (some a))) :: k) s = (sy_ob a = some 9 ∧ rn_9_hull ns ct R K n 384 L (sy_fv s a 12 :: k) s) := rfl
theorem rx_9_hull_384 {ns n ct R K s k z v0 v1 v2 v3 v5 v6 v7} : rn_9_hull ns ct R K (n + 1) 384 [v0, v1, v2, v3, .inl (true, z), v5, v6, v7] k s = (rn_9_hull ns ct R K n 386 [v0, v1, v2, v3, .inl (true, z), v5, v6, v7] (.inl (true, z) :: k) s) := rfl
theorem rx_9_hull_386 {ns n ct R K s L k a b z} : rn_9_hull ns ct R K (n + 1) 386 L (.inl (b, z) :: .inr (.inr (some (some a))) :: k) s = ((0 ≤ z ∧ z < (sy_ar a).2) ∧ sy_ob a = none ∧ (sy_ar a).1 = 1 ∧ rn_9_hull ns ct R K n 387 L (.inr (.inl (true, s a z.toNat)) :: k) s) := rfl
theorem rx_9_hull_387 {ns n ct R K s k z v1 v2 v3 v4 v5 v6 v7} : rn_9_hull ns ct R K (n + 1) 387 [.inr (.inr (some z)), v1, v2, v3, v4, v5, v6, v7] k s = (rn_9_hull ns ct R K n 388 [.inr (.inr (some z)), v1, v2, v3, v4, v5, v6, v7] (.inr (.inr (some z)) :: k) s) := rfl
theorem rx_9_hull_388 {ns n ct R K s L k a} : rn_9_hull ns ct R K (n + 1) 388 L (.inr (.inr (some (some a))) :: k) s = (sy_ob a = some 9 ∧ rn_9_hull ns ct R K n 391 L (sy_fv s a 12 :: k) s) := rfl
theorem rx_9_hull_391 {ns n ct R K s k z v0 v2 v3 v4 v5 v6 v7} : rn_9_hull ns ct R K (n + 1) 391 [v0, .inl (true, z), v2, v3, v4, v5, v6, v7] k s = (rn_9_hull ns ct R K n 392 [v0, .inl (true, z), v2, v3, v4, v5, v6, v7] (.inl (true, z) :: k) s) := rfl
theorem rx_9_hull_392 {ns n ct R K s L k a b z} : rn_9_hull ns ct R K (n + 1) 392 L (.inl (b, z) :: .inr (.inr (some (some a))) :: k) s = ((0 ≤ z ∧ z < (sy_ar a).2) ∧ sy_ob a = none ∧ (sy_ar a).1 = 1 ∧ rn_9_hull ns ct R K n 393 L (.inr (.inl (true, s a z.toNat)) :: k) s) := rfl
theorem rx_9_hull_393 {ns n ct R K s L k a b x y} : rn_9_hull ns ct R K (n + 1) 393 L (.inr (.inl (b, y)) :: .inr (.inl (a, x)) :: k) s = (sy_rl a x ∧ sy_rl b y ∧ rn_9_hull ns ct R K n 394 L (.inl (true, sy_cmp x y) :: k) s) := rfl
theorem rx_9_hull_394 {ns n ct R K s L k a x} : rn_9_hull ns ct R K (n + 1) 394 L (.inl (a, x) :: k) s = (sy_ri a x ∧ (¬ x = 0 → rn_9_hull ns ct R K n 414 L k s) ∧ (x = 0 → rn_9_hull ns ct R K n 397 L k s)) := rfl
theorem rx_9_hull_397 {ns n ct R K s k z v1 v2 v3 v4 v5 v6 v7} : rn_9_hull ns ct R K (n + 1) 397 [.inr (.inr (some z)), v1, v2, v3, v4, v5, v6, v7] k s = (rn_9_hull ns ct R K n 398 [.inr (.inr (some z)), v1, v2, v3, v4, v5, v6, v7] (.inr (.inr (some z)) :: k) s) := rfl
theorem rx_9_hull_398 {ns n ct R K s L k a} : rn_9_hull ns ct R K (n + 1) 398 L (.inr (.inr (some (some a))) :: k) s = (sy_ob a = some 9 ∧ rn_9_hull ns ct R K n 401 L (sy_fv s a 13 :: k) s) := rfl
theorem rx_9_hull_401 {ns n ct R K s k z v0 v1 v2 v3 v5 v6 v7} : rn_9_hull ns ct R K (n + 1) 401 [v0, v1, v2, v3, .inl (true, z), v5, v6, v7] k s = (rn_9_hull ns ct R K n 403 [v0, v1, v2, v3, .inl (true, z), v5, v6, v7] (.inl (true, z) :: k) s) := rfl
theorem rx_9_hull_403 {ns n ct R K s L k a b z} : rn_9_hull ns ct R K (n + 1) 403 L (.inl (b, z) :: .inr (.inr (some (some a))) :: k) s = ((0 ≤ z ∧ z < (sy_ar a).2) ∧ sy_ob a = none ∧ (sy_ar a).1 = 1 ∧ rn_9_hull ns ct R K n 404 L (.inr (.inl (true, s a z.toNat)) :: k) s) := rfl
theorem rx_9_hull_404 {ns n ct R K s k z v1 v2 v3 v4 v5 v6 v7} : rn_9_hull ns ct R K (n + 1) 404 [.inr (.inr (some z)), v1, v2, v3, v4, v5, v6, v7] k s = (rn_9_hull ns ct R K n 405 [.inr (.inr (some z)), v1, v2, v3, v4, v5, v6, v7] (.inr (.inr (some z)) :: k) s) := rfl
theorem rx_9_hull_405 {ns n ct R K s L k a} : rn_9_hull ns ct R K (n + 1) 405 L (.inr (.inr (some (some a))) :: k) s = (sy_ob a = some 9 ∧ rn_9_hull ns ct R K n 408 L (sy_fv s a 13 :: k) s) := rfl
theorem rx_9_hull_408 {ns n ct R K s k z v0 v2 v3 v4 v5 v6 v7} : rn_9_hull ns ct R K (n + 1) 408 [v0, .inl (true, z), v2, v3, v4, v5, v6, v7] k s = (rn_9_hull ns ct R K n 409 [v0, .inl (true, z), v2, v3, v4, v5, v6, v7] (.inl (true, z) :: k) s) := rfl
theorem rx_9_hull_409 {ns n ct R K s L k a b z} : rn_9_hull ns ct R K (n + 1) 409 L (.inl (b, z) :: .inr (.inr (some (some a))) :: k) s = ((0 ≤ z ∧ z < (sy_ar a).2) ∧ sy_ob a = none ∧ (sy_ar a).1 = 1 ∧ rn_9_hull ns ct R K n 410 L (.inr (.inl (true, s a z.toNat)) :: k) s) := rfl
theorem rx_9_hull_410 {ns n ct R K s L k a b x y} : rn_9_hull ns ct R K (n + 1) 410 L (.inr (.inl (b, y)) :: .inr (.inl (a, x)) :: k) s = (sy_rl a x ∧ sy_rl b y ∧ rn_9_hull ns ct R K n 411 L (.inl (true, sy_cmp x y) :: k) s) := rfl
theorem rx_9_hull_411 {ns n ct R K s L k a x} : rn_9_hull ns ct R K (n + 1) 411 L (.inl (a, x) :: k) s = (sy_ri a x ∧ (x = 0 → rn_9_hull ns ct R K n 418 L k s) ∧ (¬ x = 0 → rn_9_hull ns ct R K n 414 L k s)) := rfl
theorem rx_9_hull_414 {ns n ct R K s L k} : rn_9_hull ns ct R K (n + 1) 414 L k s = (rn_9_hull ns ct R K n 415 L (.inl (true, 1) :: k) s) := rfl
theorem rx_9_hull_415 {ns n ct R K s L k} : rn_9_hull ns ct R K (n + 1) 415 L k s = (rn_9_hull ns ct R K n 419 L k s) := rfl
theorem rx_9_hull_418 {ns n ct R K s L k} : rn_9_hull ns ct R K (n + 1) 418 L k s = (rn_9_hull ns ct R K n 419 L (.inl (true, 0) :: k) s) := rfl
theorem rx_9_hull_419 {ns n ct R K s L k b z} : rn_9_hull ns ct R K (n + 1) 419 L (.inl (b, z) :: k) s = (sy_ri b z ∧ 3 < L.length ∧ rn_9_hull ns ct R K n 420 (sy_sto L 3 (.inl (true, z))) k s) := rfl
theorem rx_9_hull_420 {ns n ct R K s k z v0 v1 v2 v4 v5 v6 v7} : rn_9_hull ns ct R K (n + 1) 420 [v0, v1, v2, .inl (true, z), v4, v5, v6, v7] k s = (rn_9_hull ns ct R K n 421 [v0, v1, v2, .inl (true, z), v4, v5, v6, v7] (.inl (true, z) :: k) s) := rfl
theorem rx_9_hull_421 {ns n ct R K s L k a x} : rn_9_hull ns ct R K (n + 1) 421 L (.inl (a, x) :: k) s = (sy_ri a x ∧ (x = 0 → rn_9_hull ns ct R K n 429 L k s) ∧ (¬ x = 0 → rn_9_hull ns ct R K n 424 L k s)) := rfl
theorem rx_9_hull_424 {ns n ct R K s k z v0 v1 v2 v3 v5 v6 v7} : rn_9_hull ns ct R K (n + 1) 424 [v0, v1, v2, v3, .inl (true, z), v5, v6, v7] k s = (rn_9_hull ns ct R K n 426 [v0, v1, v2, v3, .inl (true, z), v5, v6, v7] (.inl (true, z) :: k) s) := rfl
theorem rx_9_hull_426 {ns n ct R K s L k} : rn_9_hull ns ct R K (n + 1) 426 L k s = (rn_9_hull ns ct R K n 430 L k s) := rfl
theorem rx_9_hull_429 {ns n ct R K s k z v0 v1 v3 v4 v5 v6 v7} : rn_9_hull ns ct R K (n + 1) 429 [v0, v1, .inl (true, z), v3, v4, v5, v6, v7] k s = (rn_9_hull ns ct R K n 430 [v0, v1, .inl (true, z), v3, v4, v5, v6, v7] (.inl (true, z) :: k) s) := rfl
theorem rx_9_hull_430 {ns n ct R K s L k b z} : rn_9_hull ns ct R K (n + 1) 430 L (.inl (b, z) :: k) s = (sy_ri b z ∧ 2 < L.length ∧ rn_9_hull ns ct R K n 431 (sy_sto L 2 (.inl (true, z))) k s) := rfl
theorem rx_9_hull_431 {ns n ct R K s L k} : rn_9_hull ns ct R K (n + 1) 431 L k s = (K 175 L k s) := rfl
theorem rx_9_hull_434 {ns n ct R K s L} : rn_9_hull ns ct R K (n + 1) 434 L [] s = (R none s) := rfl
def y_9_inside : MethodName := ⟨"StarHideModel", "inside", "(I)I"⟩
abbrev c_9_inside : ByteArray := prog_11_method_37_code
def tc_9_inside (pc : Nat) : Option sy_I := match pc with
  | 0 => some (.iload_n 1, 1, 0)
  | 1 => some (.iconst 0, 2, 0)
  | 2 => some (.iconst 1, 3, 0)
  | 3 => some (.invokestatic 69, 6, 0)
  | 6 => some (.ifCond .ne 5, 9, 11)
  | 9 => some (.iconst (-1), 10, 0)
  | 10 => some (.ireturn, 11, 0)
  | 11 => some (.aload_n 0, 12, 0)
  | 12 => some (.invokevirtual 132, 15, 0)
  | 15 => some (.iload_n 1, 16, 0)
  | 16 => some (.ifCond .ne 8, 19, 24)
  | 19 => some (.aload_n 0, 20, 0)
  | 20 => some (.getfield 54, 23, 0)
  | 23 => some (.ireturn, 24, 0)
  | 24 => some (.lconst 0, 25, 0)
  | 25 => some (.lstore_n 2, 26, 0)
  | 26 => some (.iconst 0, 27, 0)
  | 27 => some (.istore 4, 29, 0)
  | 29 => some (.iload 4, 31, 0)
  | 31 => some (.aload_n 0, 32, 0)
  | 32 => some (.getfield 54, 35, 0)
  | 35 => some (.if_icmp .ge 68, 38, 103)
  | 38 => some (.aload_n 0, 39, 0)
  | 39 => some (.getfield 57, 42, 0)
  | 42 => some (.iload 4, 44, 0)
  | 44 => some (.iaload, 45, 0)
  | 45 => some (.istore 5, 47, 0)
  | 47 => some (.aload_n 0, 48, 0)
  | 48 => some (.getfield 57, 51, 0)
  | 51 => some (.iload 4, 53, 0)
  | 53 => some (.iconst 1, 54, 0)
  | 54 => some (.iadd, 55, 0)
  | 55 => some (.aload_n 0, 56, 0)
  | 56 => some (.getfield 54, 59, 0)
  | 59 => some (.irem, 60, 0)
  | 60 => some (.iaload, 61, 0)
  | 61 => some (.istore 6, 63, 0)
  | 63 => some (.lload_n 2, 64, 0)
  | 64 => some (.aload_n 0, 65, 0)
  | 65 => some (.getfield 47, 68, 0)
  | 68 => some (.iload 5, 70, 0)
  | 70 => some (.laload, 71, 0)
  | 71 => some (.aload_n 0, 72, 0)
  | 72 => some (.getfield 51, 75, 0)
  | 75 => some (.iload 6, 77, 0)
  | 77 => some (.laload, 78, 0)
  | 78 => some (.lmul, 79, 0)
  | 79 => some (.aload_n 0, 80, 0)
  | 80 => some (.getfield 47, 83, 0)
  | 83 => some (.iload 6, 85, 0)
  | 85 => some (.laload, 86, 0)
  | 86 => some (.aload_n 0, 87, 0)
  | 87 => some (.getfield 51, 90, 0)
  | 90 => some (.iload 5, 92, 0)
  | 92 => some (.laload, 93, 0)
  | 93 => some (.lmul, 94, 0)
  | 94 => some (.lsub, 95, 0)
  | 95 => some (.ladd, 96, 0)
  | 96 => some (.lstore_n 2, 97, 0)
  | 97 => some (.iinc 4 1, 100, 0)
  | 100 => some (.goto (-71), 103, 29)
  | 103 => some (.lload_n 2, 104, 0)
  | 104 => some (.l2i, 105, 0)
  | 105 => some (.ireturn, 106, 0)
  | _ => none
theorem tv_9_inside : ∀ pc i, sy_lk 106 tc_9_inside pc = some i → sy_chk c_9_inside (some .int) false pc i = true := sy_lk_ok 106 tc_9_inside (by decide +kernel)
def Mk_9_inside (ct : Nat → Option (Bool × Nat × sy_Sp)) : sy_M := (sy_lk 106 tc_9_inside, ff_9, ki_9, kl_9, ct, false)
def rn_9_inside (ns : Nat) (ct : Nat → Option (Bool × Nat × sy_Sp)) (R : sy_R) (K : sy_K) : Nat → sy_K := sy_run ns (Mk_9_inside ct) [29] R K
theorem rx_9_inside_0 {ns n ct R K s k z v0 v2 v3 v4 v5 v6} : rn_9_inside ns ct R K (n + 1) 0 [v0, .inl (true, z), v2, v3, v4, v5, v6] k s = (rn_9_inside ns ct R K n 1 [v0, .inl (true, z), v2, v3, v4, v5, v6] (.inl (true, z) :: k) s) := rfl
theorem rx_9_inside_1 {ns n ct R K s L k} : rn_9_inside ns ct R K (n + 1) 1 L k s = (rn_9_inside ns ct R K n 2 L (.inl (true, 0) :: k) s) := rfl
theorem rx_9_inside_2 {ns n ct R K s L k} : rn_9_inside ns ct R K (n + 1) 2 L k s = (rn_9_inside ns ct R K n 3 L (.inl (true, 1) :: k) s) := rfl
theorem rx_9_inside_3 {ns n ct R K s L k} : rn_9_inside ns ct R K (n + 1) 3 L k s = (sy_call true (ct 69) k s fun r t => rn_9_inside ns ct R K n 6 L r t) := rfl
theorem rx_9_inside_6 {ns n ct R K s L k a x} : rn_9_inside ns ct R K (n + 1) 6 L (.inl (a, x) :: k) s = (sy_ri a x ∧ (¬ x = 0 → rn_9_inside ns ct R K n 11 L k s) ∧ (x = 0 → rn_9_inside ns ct R K n 9 L k s)) := rfl
theorem rx_9_inside_9 {ns n ct R K s L k} : rn_9_inside ns ct R K (n + 1) 9 L k s = (rn_9_inside ns ct R K n 10 L (.inl (true, (-1)) :: k) s) := rfl
theorem rx_9_inside_10 {ns n ct R K s L a z} : rn_9_inside ns ct R K (n + 1) 10 L [.inl (a, z)] s = (sy_ri a z ∧ sy_b01 false z ∧ R (some (.inl (true, z))) s) := rfl
theorem rx_9_inside_11 {ns n ct R K s k z v1 v2 v3 v4 v5 v6} : rn_9_inside ns ct R K (n + 1) 11 [.inr (.inr (some z)), v1, v2, v3, v4, v5, v6] k s = (rn_9_inside ns ct R K n 12 [.inr (.inr (some z)), v1, v2, v3, v4, v5, v6] (.inr (.inr (some z)) :: k) s) := rfl
theorem rx_9_inside_12 {ns n ct R K s L k} : rn_9_inside ns ct R K (n + 1) 12 L k s = (sy_call false (ct 132) k s fun r t => rn_9_inside ns ct R K n 15 L r t) := rfl
theorem rx_9_inside_15 {ns n ct R K s k z v0 v2 v3 v4 v5 v6} : rn_9_inside ns ct R K (n + 1) 15 [v0, .inl (true, z), v2, v3, v4, v5, v6] k s = (rn_9_inside ns ct R K n 16 [v0, .inl (true, z), v2, v3, v4, v5, v6] (.inl (true, z) :: k) s) := rfl
theorem rx_9_inside_16 {ns n ct R K s L k a x} : rn_9_inside ns ct R K (n + 1) 16 L (.inl (a, x) :: k) s = (sy_ri a x ∧ (¬ x = 0 → rn_9_inside ns ct R K n 24 L k s) ∧ (x = 0 → rn_9_inside ns ct R K n 19 L k s)) := rfl
theorem rx_9_inside_19 {ns n ct R K s k z v1 v2 v3 v4 v5 v6} : rn_9_inside ns ct R K (n + 1) 19 [.inr (.inr (some z)), v1, v2, v3, v4, v5, v6] k s = (rn_9_inside ns ct R K n 20 [.inr (.inr (some z)), v1, v2, v3, v4, v5, v6] (.inr (.inr (some z)) :: k) s) := rfl
theorem rx_9_inside_20 {ns n ct R K s L k a} : rn_9_inside ns ct R K (n + 1) 20 L (.inr (.inr (some (some a))) :: k) s = (sy_ob a = some 9 ∧ rn_9_inside ns ct R K n 23 L (sy_fv s a 14 :: k) s) := rfl
theorem rx_9_inside_23 {ns n ct R K s L a z} : rn_9_inside ns ct R K (n + 1) 23 L [.inl (a, z)] s = (sy_ri a z ∧ sy_b01 false z ∧ R (some (.inl (true, z))) s) := rfl
theorem rx_9_inside_24 {ns n ct R K s L k} : rn_9_inside ns ct R K (n + 1) 24 L k s = (rn_9_inside ns ct R K n 25 L (.inr (.inl (true, 0)) :: k) s) := rfl
theorem rx_9_inside_25 {ns n ct R K s L k b z} : rn_9_inside ns ct R K (n + 1) 25 L (.inr (.inl (b, z)) :: k) s = (sy_rl b z ∧ 3 < L.length ∧ rn_9_inside ns ct R K n 26 (sy_gone (sy_sto L 2 (.inr (.inl (true, z)))) 3) k s) := rfl
theorem rx_9_inside_26 {ns n ct R K s L k} : rn_9_inside ns ct R K (n + 1) 26 L k s = (rn_9_inside ns ct R K n 27 L (.inl (true, 0) :: k) s) := rfl
theorem rx_9_inside_27 {ns n ct R K s L k b z} : rn_9_inside ns ct R K (n + 1) 27 L (.inl (b, z) :: k) s = (sy_ri b z ∧ 4 < L.length ∧ K 29 (sy_sto L 4 (.inl (true, z))) k s) := rfl
theorem rx_9_inside_29 {ns n ct R K s k z v0 v1 v2 v3 v5 v6} : rn_9_inside ns ct R K (n + 1) 29 [v0, v1, v2, v3, .inl (true, z), v5, v6] k s = (rn_9_inside ns ct R K n 31 [v0, v1, v2, v3, .inl (true, z), v5, v6] (.inl (true, z) :: k) s) := rfl
theorem rx_9_inside_31 {ns n ct R K s k z v1 v2 v3 v4 v5 v6} : rn_9_inside ns ct R K (n + 1) 31 [.inr (.inr (some z)), v1, v2, v3, v4, v5, v6] k s = (rn_9_inside ns ct R K n 32 [.inr (.inr (some z)), v1, v2, v3, v4, v5, v6] (.inr (.inr (some z)) :: k) s) := rfl
theorem rx_9_inside_32 {ns n ct R K s L k a} : rn_9_inside ns ct R K (n + 1) 32 L (.inr (.inr (some (some a))) :: k) s = (sy_ob a = some 9 ∧ rn_9_inside ns ct R K n 35 L (sy_fv s a 14 :: k) s) := rfl
theorem rx_9_inside_35 {ns n ct R K s L k a b x y} : rn_9_inside ns ct R K (n + 1) 35 L (.inl (b, y) :: .inl (a, x) :: k) s = (sy_ri a x ∧ sy_ri b y ∧ (y ≤ x → rn_9_inside ns ct R K n 103 L k s) ∧ (¬ y ≤ x → rn_9_inside ns ct R K n 38 L k s)) := rfl
theorem rx_9_inside_38 {ns n ct R K s k z v1 v2 v3 v4 v5 v6} : rn_9_inside ns ct R K (n + 1) 38 [.inr (.inr (some z)), v1, v2, v3, v4, v5, v6] k s = (rn_9_inside ns ct R K n 39 [.inr (.inr (some z)), v1, v2, v3, v4, v5, v6] (.inr (.inr (some z)) :: k) s) := rfl
theorem rx_9_inside_39 {ns n ct R K s L k a} : rn_9_inside ns ct R K (n + 1) 39 L (.inr (.inr (some (some a))) :: k) s = (sy_ob a = some 9 ∧ rn_9_inside ns ct R K n 42 L (sy_fv s a 15 :: k) s) := rfl
theorem rx_9_inside_42 {ns n ct R K s k z v0 v1 v2 v3 v5 v6} : rn_9_inside ns ct R K (n + 1) 42 [v0, v1, v2, v3, .inl (true, z), v5, v6] k s = (rn_9_inside ns ct R K n 44 [v0, v1, v2, v3, .inl (true, z), v5, v6] (.inl (true, z) :: k) s) := rfl
theorem rx_9_inside_44 {ns n ct R K s L k a b z} : rn_9_inside ns ct R K (n + 1) 44 L (.inl (b, z) :: .inr (.inr (some (some a))) :: k) s = ((0 ≤ z ∧ z < (sy_ar a).2) ∧ sy_ob a = none ∧ (sy_ar a).1 = 0 ∧ rn_9_inside ns ct R K n 45 L (.inl (true, s a z.toNat) :: k) s) := rfl
theorem rx_9_inside_45 {ns n ct R K s L k b z} : rn_9_inside ns ct R K (n + 1) 45 L (.inl (b, z) :: k) s = (sy_ri b z ∧ 5 < L.length ∧ rn_9_inside ns ct R K n 47 (sy_sto L 5 (.inl (true, z))) k s) := rfl
theorem rx_9_inside_47 {ns n ct R K s k z v1 v2 v3 v4 v5 v6} : rn_9_inside ns ct R K (n + 1) 47 [.inr (.inr (some z)), v1, v2, v3, v4, v5, v6] k s = (rn_9_inside ns ct R K n 48 [.inr (.inr (some z)), v1, v2, v3, v4, v5, v6] (.inr (.inr (some z)) :: k) s) := rfl
theorem rx_9_inside_48 {ns n ct R K s L k a} : rn_9_inside ns ct R K (n + 1) 48 L (.inr (.inr (some (some a))) :: k) s = (sy_ob a = some 9 ∧ rn_9_inside ns ct R K n 51 L (sy_fv s a 15 :: k) s) := rfl
theorem rx_9_inside_51 {ns n ct R K s k z v0 v1 v2 v3 v5 v6} : rn_9_inside ns ct R K (n + 1) 51 [v0, v1, v2, v3, .inl (true, z), v5, v6] k s = (rn_9_inside ns ct R K n 53 [v0, v1, v2, v3, .inl (true, z), v5, v6] (.inl (true, z) :: k) s) := rfl
theorem rx_9_inside_53 {ns n ct R K s L k} : rn_9_inside ns ct R K (n + 1) 53 L k s = (rn_9_inside ns ct R K n 54 L (.inl (true, 1) :: k) s) := rfl
theorem rx_9_inside_54 {ns n ct R K s L k a b x y} : rn_9_inside ns ct R K (n + 1) 54 L (.inl (b, y) :: .inl (a, x) :: k) s = (rn_9_inside ns ct R K n 55 L (.inl (false, x + y) :: k) s) := rfl
theorem rx_9_inside_55 {ns n ct R K s k z v1 v2 v3 v4 v5 v6} : rn_9_inside ns ct R K (n + 1) 55 [.inr (.inr (some z)), v1, v2, v3, v4, v5, v6] k s = (rn_9_inside ns ct R K n 56 [.inr (.inr (some z)), v1, v2, v3, v4, v5, v6] (.inr (.inr (some z)) :: k) s) := rfl
theorem rx_9_inside_56 {ns n ct R K s L k a} : rn_9_inside ns ct R K (n + 1) 56 L (.inr (.inr (some (some a))) :: k) s = (sy_ob a = some 9 ∧ rn_9_inside ns ct R K n 59 L (sy_fv s a 14 :: k) s) := rfl
theorem rx_9_inside_59 {ns n ct R K s L k a b x y} : rn_9_inside ns ct R K (n + 1) 59 L (.inl (b, y) :: .inl (a, x) :: k) s = (sy_ri a x ∧ sy_ri b y ∧ y ≠ 0 ∧ rn_9_inside ns ct R K n 60 L (.inl (false, x.tmod y) :: k) s) := rfl
theorem rx_9_inside_60 {ns n ct R K s L k a b z} : rn_9_inside ns ct R K (n + 1) 60 L (.inl (b, z) :: .inr (.inr (some (some a))) :: k) s = ((0 ≤ z ∧ z < (sy_ar a).2) ∧ sy_ob a = none ∧ (sy_ar a).1 = 0 ∧ rn_9_inside ns ct R K n 61 L (.inl (true, s a z.toNat) :: k) s) := rfl
theorem rx_9_inside_61 {ns n ct R K s L k b z} : rn_9_inside ns ct R K (n + 1) 61 L (.inl (b, z) :: k) s = (sy_ri b z ∧ 6 < L.length ∧ rn_9_inside ns ct R K n 63 (sy_sto L 6 (.inl (true, z))) k s) := rfl
theorem rx_9_inside_63 {ns n ct R K s k z v0 v1 v3 v4 v5 v6} : rn_9_inside ns ct R K (n + 1) 63 [v0, v1, .inr (.inl (true, z)), v3, v4, v5, v6] k s = (rn_9_inside ns ct R K n 64 [v0, v1, .inr (.inl (true, z)), v3, v4, v5, v6] (.inr (.inl (true, z)) :: k) s) := rfl
theorem rx_9_inside_64 {ns n ct R K s k z v1 v2 v3 v4 v5 v6} : rn_9_inside ns ct R K (n + 1) 64 [.inr (.inr (some z)), v1, v2, v3, v4, v5, v6] k s = (rn_9_inside ns ct R K n 65 [.inr (.inr (some z)), v1, v2, v3, v4, v5, v6] (.inr (.inr (some z)) :: k) s) := rfl
theorem rx_9_inside_65 {ns n ct R K s L k a} : rn_9_inside ns ct R K (n + 1) 65 L (.inr (.inr (some (some a))) :: k) s = (sy_ob a = some 9 ∧ rn_9_inside ns ct R K n 68 L (sy_fv s a 12 :: k) s) := rfl
theorem rx_9_inside_68 {ns n ct R K s k z v0 v1 v2 v3 v4 v6} : rn_9_inside ns ct R K (n + 1) 68 [v0, v1, v2, v3, v4, .inl (true, z), v6] k s = (rn_9_inside ns ct R K n 70 [v0, v1, v2, v3, v4, .inl (true, z), v6] (.inl (true, z) :: k) s) := rfl
theorem rx_9_inside_70 {ns n ct R K s L k a b z} : rn_9_inside ns ct R K (n + 1) 70 L (.inl (b, z) :: .inr (.inr (some (some a))) :: k) s = ((0 ≤ z ∧ z < (sy_ar a).2) ∧ sy_ob a = none ∧ (sy_ar a).1 = 1 ∧ rn_9_inside ns ct R K n 71 L (.inr (.inl (true, s a z.toNat)) :: k) s) := rfl
theorem rx_9_inside_71 {ns n ct R K s k z v1 v2 v3 v4 v5 v6} : rn_9_inside ns ct R K (n + 1) 71 [.inr (.inr (some z)), v1, v2, v3, v4, v5, v6] k s = (rn_9_inside ns ct R K n 72 [.inr (.inr (some z)), v1, v2, v3, v4, v5, v6] (.inr (.inr (some z)) :: k) s) := rfl
theorem rx_9_inside_72 {ns n ct R K s L k a} : rn_9_inside ns ct R K (n + 1) 72 L (.inr (.inr (some (some a))) :: k) s = (sy_ob a = some 9 ∧ rn_9_inside ns ct R K n 75 L (sy_fv s a 13 :: k) s) := rfl
theorem rx_9_inside_75 {ns n ct R K s k z v0 v1 v2 v3 v4 v5} : rn_9_inside ns ct R K (n + 1) 75 [v0, v1, v2, v3, v4, v5, .inl (true, z)] k s = (rn_9_inside ns ct R K n 77 [v0, v1, v2, v3, v4, v5, .inl (true, z)] (.inl (true, z) :: k) s) := rfl
theorem rx_9_inside_77 {ns n ct R K s L k a b z} : rn_9_inside ns ct R K (n + 1) 77 L (.inl (b, z) :: .inr (.inr (some (some a))) :: k) s = ((0 ≤ z ∧ z < (sy_ar a).2) ∧ sy_ob a = none ∧ (sy_ar a).1 = 1 ∧ rn_9_inside ns ct R K n 78 L (.inr (.inl (true, s a z.toNat)) :: k) s) := rfl
theorem rx_9_inside_78 {ns n ct R K s L k a b x y} : rn_9_inside ns ct R K (n + 1) 78 L (.inr (.inl (b, y)) :: .inr (.inl (a, x)) :: k) s = (rn_9_inside ns ct R K n 79 L (.inr (.inl (false, x * y)) :: k) s) := rfl
theorem rx_9_inside_79 {ns n ct R K s k z v1 v2 v3 v4 v5 v6} : rn_9_inside ns ct R K (n + 1) 79 [.inr (.inr (some z)), v1, v2, v3, v4, v5, v6] k s = (rn_9_inside ns ct R K n 80 [.inr (.inr (some z)), v1, v2, v3, v4, v5, v6] (.inr (.inr (some z)) :: k) s) := rfl
theorem rx_9_inside_80 {ns n ct R K s L k a} : rn_9_inside ns ct R K (n + 1) 80 L (.inr (.inr (some (some a))) :: k) s = (sy_ob a = some 9 ∧ rn_9_inside ns ct R K n 83 L (sy_fv s a 12 :: k) s) := rfl
theorem rx_9_inside_83 {ns n ct R K s k z v0 v1 v2 v3 v4 v5} : rn_9_inside ns ct R K (n + 1) 83 [v0, v1, v2, v3, v4, v5, .inl (true, z)] k s = (rn_9_inside ns ct R K n 85 [v0, v1, v2, v3, v4, v5, .inl (true, z)] (.inl (true, z) :: k) s) := rfl
theorem rx_9_inside_85 {ns n ct R K s L k a b z} : rn_9_inside ns ct R K (n + 1) 85 L (.inl (b, z) :: .inr (.inr (some (some a))) :: k) s = ((0 ≤ z ∧ z < (sy_ar a).2) ∧ sy_ob a = none ∧ (sy_ar a).1 = 1 ∧ rn_9_inside ns ct R K n 86 L (.inr (.inl (true, s a z.toNat)) :: k) s) := rfl
theorem rx_9_inside_86 {ns n ct R K s k z v1 v2 v3 v4 v5 v6} : rn_9_inside ns ct R K (n + 1) 86 [.inr (.inr (some z)), v1, v2, v3, v4, v5, v6] k s = (rn_9_inside ns ct R K n 87 [.inr (.inr (some z)), v1, v2, v3, v4, v5, v6] (.inr (.inr (some z)) :: k) s) := rfl
theorem rx_9_inside_87 {ns n ct R K s L k a} : rn_9_inside ns ct R K (n + 1) 87 L (.inr (.inr (some (some a))) :: k) s = (sy_ob a = some 9 ∧ rn_9_inside ns ct R K n 90 L (sy_fv s a 13 :: k) s) := rfl
theorem rx_9_inside_90 {ns n ct R K s k z v0 v1 v2 v3 v4 v6} : rn_9_inside ns ct R K (n + 1) 90 [v0, v1, v2, v3, v4, .inl (true, z), v6] k s = (rn_9_inside ns ct R K n 92 [v0, v1, v2, v3, v4, .inl (true, z), v6] (.inl (true, z) :: k) s) := rfl
theorem rx_9_inside_92 {ns n ct R K s L k a b z} : rn_9_inside ns ct R K (n + 1) 92 L (.inl (b, z) :: .inr (.inr (some (some a))) :: k) s = ((0 ≤ z ∧ z < (sy_ar a).2) ∧ sy_ob a = none ∧ (sy_ar a).1 = 1 ∧ rn_9_inside ns ct R K n 93 L (.inr (.inl (true, s a z.toNat)) :: k) s) := rfl
theorem rx_9_inside_93 {ns n ct R K s L k a b x y} : rn_9_inside ns ct R K (n + 1) 93 L (.inr (.inl (b, y)) :: .inr (.inl (a, x)) :: k) s = (rn_9_inside ns ct R K n 94 L (.inr (.inl (false, x * y)) :: k) s) := rfl
theorem rx_9_inside_94 {ns n ct R K s L k a b x y} : rn_9_inside ns ct R K (n + 1) 94 L (.inr (.inl (b, y)) :: .inr (.inl (a, x)) :: k) s = (rn_9_inside ns ct R K n 95 L (.inr (.inl (false, x - y)) :: k) s) := rfl
theorem rx_9_inside_95 {ns n ct R K s L k a b x y} : rn_9_inside ns ct R K (n + 1) 95 L (.inr (.inl (b, y)) :: .inr (.inl (a, x)) :: k) s = (rn_9_inside ns ct R K n 96 L (.inr (.inl (false, x + y)) :: k) s) := rfl
theorem rx_9_inside_96 {ns n ct R K s L k b z} : rn_9_inside ns ct R K (n + 1) 96 L (.inr (.inl (b, z)) :: k) s = (sy_rl b z ∧ 3 < L.length ∧ rn_9_inside ns ct R K n 97 (sy_gone (sy_sto L 2 (.inr (.inl (true, z)))) 3) k s) := rfl
theorem rx_9_inside_97 {ns n ct R K s k z v0 v1 v2 v3 v5 v6} : rn_9_inside ns ct R K (n + 1) 97 [v0, v1, v2, v3, .inl (true, z), v5, v6] k s = ((-2147483648 ≤ z + 1 ∧ z + 1 < 2147483648) ∧ rn_9_inside ns ct R K n 100 (sy_sto [v0, v1, v2, v3, .inl (true, z), v5, v6] 4 (.inl (true, z + 1))) k s) := rfl
theorem rx_9_inside_100 {ns n ct R K s L k} : rn_9_inside ns ct R K (n + 1) 100 L k s = (K 29 L k s) := rfl
theorem rx_9_inside_103 {ns n ct R K s k z v0 v1 v3 v4 v5 v6} : rn_9_inside ns ct R K (n + 1) 103 [v0, v1, .inr (.inl (true, z)), v3, v4, v5, v6] k s = (rn_9_inside ns ct R K n 104 [v0, v1, .inr (.inl (true, z)), v3, v4, v5, v6] (.inr (.inl (true, z)) :: k) s) := rfl
theorem rx_9_inside_104 {ns n ct R K s L k a x} : rn_9_inside ns ct R K (n + 1) 104 L (.inr (.inl (a, x)) :: k) s = (rn_9_inside ns ct R K n 105 L (.inl (false, x) :: k) s) := rfl
theorem rx_9_inside_105 {ns n ct R K s L a z} : rn_9_inside ns ct R K (n + 1) 105 L [.inl (a, z)] s = (sy_ri a z ∧ sy_b01 false z ∧ R (some (.inl (true, z))) s) := rfl
def y_9_corner : MethodName := ⟨"StarHideModel", "corner", "(II)I"⟩
abbrev c_9_corner : ByteArray := prog_11_method_38_code
def tc_9_corner (pc : Nat) : Option sy_I := match pc with
  | 0 => some (.aload_n 0, 1, 0)
  | 1 => some (.invokevirtual 132, 4, 0)
  | 4 => some (.iload_n 1, 5, 0)
  | 5 => some (.ifCond .lt 20, 8, 25)
  | 8 => some (.iload_n 1, 9, 0)
  | 9 => some (.aload_n 0, 10, 0)
  | 10 => some (.getfield 54, 13, 0)
  | 13 => some (.if_icmp .ge 12, 16, 25)
  | 16 => some (.iload_n 2, 17, 0)
  | 17 => some (.iconst 0, 18, 0)
  | 18 => some (.iconst 1, 19, 0)
  | 19 => some (.invokestatic 69, 22, 0)
  | 22 => some (.ifCond .ne 6, 25, 28)
  | 25 => some (.ldc 88, 27, 0)
  | 27 => some (.ireturn, 28, 0)
  | 28 => some (.iload_n 2, 29, 0)
  | 29 => some (.ifCond .ne 17, 32, 46)
  | 32 => some (.aload_n 0, 33, 0)
  | 33 => some (.getfield 47, 36, 0)
  | 36 => some (.aload_n 0, 37, 0)
  | 37 => some (.getfield 57, 40, 0)
  | 40 => some (.iload_n 1, 41, 0)
  | 41 => some (.iaload, 42, 0)
  | 42 => some (.laload, 43, 0)
  | 43 => some (.goto 14, 46, 57)
  | 46 => some (.aload_n 0, 47, 0)
  | 47 => some (.getfield 51, 50, 0)
  | 50 => some (.aload_n 0, 51, 0)
  | 51 => some (.getfield 57, 54, 0)
  | 54 => some (.iload_n 1, 55, 0)
  | 55 => some (.iaload, 56, 0)
  | 56 => some (.laload, 57, 0)
  | 57 => some (.l2i, 58, 0)
  | 58 => some (.ireturn, 59, 0)
  | _ => none
theorem tv_9_corner : ∀ pc i, sy_lk 59 tc_9_corner pc = some i → sy_chk c_9_corner (some .int) false pc i = true := sy_lk_ok 59 tc_9_corner (by decide +kernel)
def Mk_9_corner (ct : Nat → Option (Bool × Nat × sy_Sp)) : sy_M := (sy_lk 59 tc_9_corner, ff_9, ki_9, kl_9, ct, false)
def rn_9_corner (ns : Nat) (ct : Nat → Option (Bool × Nat × sy_Sp)) (R : sy_R) (K : sy_K) : Nat → sy_K := sy_run ns (Mk_9_corner ct) [] R K
theorem rx_9_corner_0 {ns n ct R K s k z v1 v2} : rn_9_corner ns ct R K (n + 1) 0 [.inr (.inr (some z)), v1, v2] k s = (rn_9_corner ns ct R K n 1 [.inr (.inr (some z)), v1, v2] (.inr (.inr (some z)) :: k) s) := rfl
theorem rx_9_corner_1 {ns n ct R K s L k} : rn_9_corner ns ct R K (n + 1) 1 L k s = (sy_call false (ct 132) k s fun r t => rn_9_corner ns ct R K n 4 L r t) := rfl
theorem rx_9_corner_4 {ns n ct R K s k z v0 v2} : rn_9_corner ns ct R K (n + 1) 4 [v0, .inl (true, z), v2] k s = (rn_9_corner ns ct R K n 5 [v0, .inl (true, z), v2] (.inl (true, z) :: k) s) := rfl
theorem rx_9_corner_5 {ns n ct R K s L k a x} : rn_9_corner ns ct R K (n + 1) 5 L (.inl (a, x) :: k) s = (sy_ri a x ∧ (x < 0 → rn_9_corner ns ct R K n 25 L k s) ∧ (¬ x < 0 → rn_9_corner ns ct R K n 8 L k s)) := rfl
theorem rx_9_corner_8 {ns n ct R K s k z v0 v2} : rn_9_corner ns ct R K (n + 1) 8 [v0, .inl (true, z), v2] k s = (rn_9_corner ns ct R K n 9 [v0, .inl (true, z), v2] (.inl (true, z) :: k) s) := rfl
theorem rx_9_corner_9 {ns n ct R K s k z v1 v2} : rn_9_corner ns ct R K (n + 1) 9 [.inr (.inr (some z)), v1, v2] k s = (rn_9_corner ns ct R K n 10 [.inr (.inr (some z)), v1, v2] (.inr (.inr (some z)) :: k) s) := rfl
theorem rx_9_corner_10 {ns n ct R K s L k a} : rn_9_corner ns ct R K (n + 1) 10 L (.inr (.inr (some (some a))) :: k) s = (sy_ob a = some 9 ∧ rn_9_corner ns ct R K n 13 L (sy_fv s a 14 :: k) s) := rfl
theorem rx_9_corner_13 {ns n ct R K s L k a b x y} : rn_9_corner ns ct R K (n + 1) 13 L (.inl (b, y) :: .inl (a, x) :: k) s = (sy_ri a x ∧ sy_ri b y ∧ (y ≤ x → rn_9_corner ns ct R K n 25 L k s) ∧ (¬ y ≤ x → rn_9_corner ns ct R K n 16 L k s)) := rfl
theorem rx_9_corner_16 {ns n ct R K s k z v0 v1} : rn_9_corner ns ct R K (n + 1) 16 [v0, v1, .inl (true, z)] k s = (rn_9_corner ns ct R K n 17 [v0, v1, .inl (true, z)] (.inl (true, z) :: k) s) := rfl
theorem rx_9_corner_17 {ns n ct R K s L k} : rn_9_corner ns ct R K (n + 1) 17 L k s = (rn_9_corner ns ct R K n 18 L (.inl (true, 0) :: k) s) := rfl
theorem rx_9_corner_18 {ns n ct R K s L k} : rn_9_corner ns ct R K (n + 1) 18 L k s = (rn_9_corner ns ct R K n 19 L (.inl (true, 1) :: k) s) := rfl
theorem rx_9_corner_19 {ns n ct R K s L k} : rn_9_corner ns ct R K (n + 1) 19 L k s = (sy_call true (ct 69) k s fun r t => rn_9_corner ns ct R K n 22 L r t) := rfl
theorem rx_9_corner_22 {ns n ct R K s L k a x} : rn_9_corner ns ct R K (n + 1) 22 L (.inl (a, x) :: k) s = (sy_ri a x ∧ (¬ x = 0 → rn_9_corner ns ct R K n 28 L k s) ∧ (x = 0 → rn_9_corner ns ct R K n 25 L k s)) := rfl
theorem rx_9_corner_25 {ns n ct R K s L k} : rn_9_corner ns ct R K (n + 1) 25 L k s = (rn_9_corner ns ct R K n 27 L (.inl (true, -1000000) :: k) s) := rfl
theorem rx_9_corner_27 {ns n ct R K s L a z} : rn_9_corner ns ct R K (n + 1) 27 L [.inl (a, z)] s = (sy_ri a z ∧ sy_b01 false z ∧ R (some (.inl (true, z))) s) := rfl
theorem rx_9_corner_28 {ns n ct R K s k z v0 v1} : rn_9_corner ns ct R K (n + 1) 28 [v0, v1, .inl (true, z)] k s = (rn_9_corner ns ct R K n 29 [v0, v1, .inl (true, z)] (.inl (true, z) :: k) s) := rfl
theorem rx_9_corner_29 {ns n ct R K s L k a x} : rn_9_corner ns ct R K (n + 1) 29 L (.inl (a, x) :: k) s = (sy_ri a x ∧ (¬ x = 0 → rn_9_corner ns ct R K n 46 L k s) ∧ (x = 0 → rn_9_corner ns ct R K n 32 L k s)) := rfl
theorem rx_9_corner_32 {ns n ct R K s k z v1 v2} : rn_9_corner ns ct R K (n + 1) 32 [.inr (.inr (some z)), v1, v2] k s = (rn_9_corner ns ct R K n 33 [.inr (.inr (some z)), v1, v2] (.inr (.inr (some z)) :: k) s) := rfl
theorem rx_9_corner_33 {ns n ct R K s L k a} : rn_9_corner ns ct R K (n + 1) 33 L (.inr (.inr (some (some a))) :: k) s = (sy_ob a = some 9 ∧ rn_9_corner ns ct R K n 36 L (sy_fv s a 12 :: k) s) := rfl
theorem rx_9_corner_36 {ns n ct R K s k z v1 v2} : rn_9_corner ns ct R K (n + 1) 36 [.inr (.inr (some z)), v1, v2] k s = (rn_9_corner ns ct R K n 37 [.inr (.inr (some z)), v1, v2] (.inr (.inr (some z)) :: k) s) := rfl
theorem rx_9_corner_37 {ns n ct R K s L k a} : rn_9_corner ns ct R K (n + 1) 37 L (.inr (.inr (some (some a))) :: k) s = (sy_ob a = some 9 ∧ rn_9_corner ns ct R K n 40 L (sy_fv s a 15 :: k) s) := rfl
theorem rx_9_corner_40 {ns n ct R K s k z v0 v2} : rn_9_corner ns ct R K (n + 1) 40 [v0, .inl (true, z), v2] k s = (rn_9_corner ns ct R K n 41 [v0, .inl (true, z), v2] (.inl (true, z) :: k) s) := rfl
theorem rx_9_corner_41 {ns n ct R K s L k a b z} : rn_9_corner ns ct R K (n + 1) 41 L (.inl (b, z) :: .inr (.inr (some (some a))) :: k) s = ((0 ≤ z ∧ z < (sy_ar a).2) ∧ sy_ob a = none ∧ (sy_ar a).1 = 0 ∧ rn_9_corner ns ct R K n 42 L (.inl (true, s a z.toNat) :: k) s) := rfl
theorem rx_9_corner_42 {ns n ct R K s L k a b z} : rn_9_corner ns ct R K (n + 1) 42 L (.inl (b, z) :: .inr (.inr (some (some a))) :: k) s = ((0 ≤ z ∧ z < (sy_ar a).2) ∧ sy_ob a = none ∧ (sy_ar a).1 = 1 ∧ rn_9_corner ns ct R K n 43 L (.inr (.inl (true, s a z.toNat)) :: k) s) := rfl
theorem rx_9_corner_43 {ns n ct R K s L k} : rn_9_corner ns ct R K (n + 1) 43 L k s = (rn_9_corner ns ct R K n 57 L k s) := rfl
theorem rx_9_corner_46 {ns n ct R K s k z v1 v2} : rn_9_corner ns ct R K (n + 1) 46 [.inr (.inr (some z)), v1, v2] k s = (rn_9_corner ns ct R K n 47 [.inr (.inr (some z)), v1, v2] (.inr (.inr (some z)) :: k) s) := rfl
theorem rx_9_corner_47 {ns n ct R K s L k a} : rn_9_corner ns ct R K (n + 1) 47 L (.inr (.inr (some (some a))) :: k) s = (sy_ob a = some 9 ∧ rn_9_corner ns ct R K n 50 L (sy_fv s a 13 :: k) s) := rfl
theorem rx_9_corner_50 {ns n ct R K s k z v1 v2} : rn_9_corner ns ct R K (n + 1) 50 [.inr (.inr (some z)), v1, v2] k s = (rn_9_corner ns ct R K n 51 [.inr (.inr (some z)), v1, v2] (.inr (.inr (some z)) :: k) s) := rfl
theorem rx_9_corner_51 {ns n ct R K s L k a} : rn_9_corner ns ct R K (n + 1) 51 L (.inr (.inr (some (some a))) :: k) s = (sy_ob a = some 9 ∧ rn_9_corner ns ct R K n 54 L (sy_fv s a 15 :: k) s) := rfl
theorem rx_9_corner_54 {ns n ct R K s k z v0 v2} : rn_9_corner ns ct R K (n + 1) 54 [v0, .inl (true, z), v2] k s = (rn_9_corner ns ct R K n 55 [v0, .inl (true, z), v2] (.inl (true, z) :: k) s) := rfl
theorem rx_9_corner_55 {ns n ct R K s L k a b z} : rn_9_corner ns ct R K (n + 1) 55 L (.inl (b, z) :: .inr (.inr (some (some a))) :: k) s = ((0 ≤ z ∧ z < (sy_ar a).2) ∧ sy_ob a = none ∧ (sy_ar a).1 = 0 ∧ rn_9_corner ns ct R K n 56 L (.inl (true, s a z.toNat) :: k) s) := rfl
theorem rx_9_corner_56 {ns n ct R K s L k a b z} : rn_9_corner ns ct R K (n + 1) 56 L (.inl (b, z) :: .inr (.inr (some (some a))) :: k) s = ((0 ≤ z ∧ z < (sy_ar a).2) ∧ sy_ob a = none ∧ (sy_ar a).1 = 1 ∧ rn_9_corner ns ct R K n 57 L (.inr (.inl (true, s a z.toNat)) :: k) s) := rfl
theorem rx_9_corner_57 {ns n ct R K s L k a x} : rn_9_corner ns ct R K (n + 1) 57 L (.inr (.inl (a, x)) :: k) s = (rn_9_corner ns ct R K n 58 L (.inl (false, x) :: k) s) := rfl
theorem rx_9_corner_58 {ns n ct R K s L a z} : rn_9_corner ns ct R K (n + 1) 58 L [.inl (a, z)] s = (sy_ri a z ∧ sy_b01 false z ∧ R (some (.inl (true, z))) s) := rfl
def y_9_has : MethodName := ⟨"StarHideModel", "has", "(JJ)Z"⟩
abbrev c_9_has : ByteArray := prog_11_method_39_code
def tc_9_has (pc : Nat) : Option sy_I := match pc with
  | 0 => some (.aload_n 0, 1, 0)
  | 1 => some (.getfield 54, 4, 0)
  | 4 => some (.ifCond .ne 5, 7, 9)
  | 7 => some (.iconst 0, 8, 0)
  | 8 => some (.ireturn, 9, 0)
  | 9 => some (.aload_n 0, 10, 0)
  | 10 => some (.getfield 54, 13, 0)
  | 13 => some (.iconst 1, 14, 0)
  | 14 => some (.if_icmp .ne 41, 17, 55)
  | 17 => some (.aload_n 0, 18, 0)
  | 18 => some (.getfield 47, 21, 0)
  | 21 => some (.aload_n 0, 22, 0)
  | 22 => some (.getfield 57, 25, 0)
  | 25 => some (.iconst 0, 26, 0)
  | 26 => some (.iaload, 27, 0)
  | 27 => some (.laload, 28, 0)
  | 28 => some (.lload_n 1, 29, 0)
  | 29 => some (.lcmp, 30, 0)
  | 30 => some (.ifCond .ne 23, 33, 53)
  | 33 => some (.aload_n 0, 34, 0)
  | 34 => some (.getfield 51, 37, 0)
  | 37 => some (.aload_n 0, 38, 0)
  | 38 => some (.getfield 57, 41, 0)
  | 41 => some (.iconst 0, 42, 0)
  | 42 => some (.iaload, 43, 0)
  | 43 => some (.laload, 44, 0)
  | 44 => some (.lload_n 3, 45, 0)
  | 45 => some (.lcmp, 46, 0)
  | 46 => some (.ifCond .ne 7, 49, 53)
  | 49 => some (.iconst 1, 50, 0)
  | 50 => some (.goto 4, 53, 54)
  | 53 => some (.iconst 0, 54, 0)
  | 54 => some (.ireturn, 55, 0)
  | 55 => some (.iconst 1, 56, 0)
  | 56 => some (.istore 5, 58, 0)
  | 58 => some (.iconst 0, 59, 0)
  | 59 => some (.istore 6, 61, 0)
  | 61 => some (.iload 6, 63, 0)
  | 63 => some (.aload_n 0, 64, 0)
  | 64 => some (.getfield 54, 67, 0)
  | 67 => some (.if_icmp .ge 53, 70, 120)
  | 70 => some (.iload 5, 72, 0)
  | 72 => some (.ifCond .eq 39, 75, 111)
  | 75 => some (.aload_n 0, 76, 0)
  | 76 => some (.aload_n 0, 77, 0)
  | 77 => some (.getfield 57, 80, 0)
  | 80 => some (.iload 6, 82, 0)
  | 82 => some (.iaload, 83, 0)
  | 83 => some (.aload_n 0, 84, 0)
  | 84 => some (.getfield 57, 87, 0)
  | 87 => some (.iload 6, 89, 0)
  | 89 => some (.iconst 1, 90, 0)
  | 90 => some (.iadd, 91, 0)
  | 91 => some (.aload_n 0, 92, 0)
  | 92 => some (.getfield 54, 95, 0)
  | 95 => some (.irem, 96, 0)
  | 96 => some (.iaload, 97, 0)
  | 97 => some (.lload_n 1, 98, 0)
  | 98 => some (.lload_n 3, 99, 0)
  | 99 => some (.invokevirtual 124, 102, 0)
  | 102 => some (.lconst 0, 103, 0)
  | 103 => some (.lcmp, 104, 0)
  | 104 => some (.ifCond .lt 7, 107, 111)
  | 107 => some (.iconst 1, 108, 0)
  | 108 => some (.goto 4, 111, 112)
  | 111 => some (.iconst 0, 112, 0)
  | 112 => some (.istore 5, 114, 0)
  | 114 => some (.iinc 6 1, 117, 0)
  | 117 => some (.goto (-56), 120, 61)
  | 120 => some (.aload_n 0, 121, 0)
  | 121 => some (.getfield 57, 124, 0)
  | 124 => some (.iconst 0, 125, 0)
  | 125 => some (.iaload, 126, 0)
  | 126 => some (.istore 6, 128, 0)
  | 128 => some (.aload_n 0, 129, 0)
  | 129 => some (.getfield 57, 132, 0)
  | 132 => some (.iconst 1, 133, 0)
  | 133 => some (.iaload, 134, 0)
  | 134 => some (.istore 7, 136, 0)
  | 136 => some (.lload_n 1, 137, 0)
  | 137 => some (.aload_n 0, 138, 0)
  | 138 => some (.getfield 47, 141, 0)
  | 141 => some (.iload 6, 143, 0)
  | 143 => some (.laload, 144, 0)
  | 144 => some (.lsub, 145, 0)
  | 145 => some (.lload_n 1, 146, 0)
  | 146 => some (.aload_n 0, 147, 0)
  | 147 => some (.getfield 47, 150, 0)
  | 150 => some (.iload 7, 152, 0)
  | 152 => some (.laload, 153, 0)
  | 153 => some (.lsub, 154, 0)
  | 154 => some (.lmul, 155, 0)
  | 155 => some (.lconst 0, 156, 0)
  | 156 => some (.lcmp, 157, 0)
  | 157 => some (.ifCond .gt 31, 160, 188)
  | 160 => some (.lload_n 3, 161, 0)
  | 161 => some (.aload_n 0, 162, 0)
  | 162 => some (.getfield 51, 165, 0)
  | 165 => some (.iload 6, 167, 0)
  | 167 => some (.laload, 168, 0)
  | 168 => some (.lsub, 169, 0)
  | 169 => some (.lload_n 3, 170, 0)
  | 170 => some (.aload_n 0, 171, 0)
  | 171 => some (.getfield 51, 174, 0)
  | 174 => some (.iload 7, 176, 0)
  | 176 => some (.laload, 177, 0)
  | 177 => some (.lsub, 178, 0)
  | 178 => some (.lmul, 179, 0)
  | 179 => some (.lconst 0, 180, 0)
  | 180 => some (.lcmp, 181, 0)
  | 181 => some (.ifCond .gt 7, 184, 188)
  | 184 => some (.iconst 1, 185, 0)
  | 185 => some (.goto 4, 188, 189)
  | 188 => some (.iconst 0, 189, 0)
  | 189 => some (.istore 8, 191, 0)
  | 191 => some (.iload 5, 193, 0)
  | 193 => some (.ifCond .eq 20, 196, 213)
  | 196 => some (.aload_n 0, 197, 0)
  | 197 => some (.getfield 54, 200, 0)
  | 200 => some (.iconst 2, 201, 0)
  | 201 => some (.if_icmp .gt 8, 204, 209)
  | 204 => some (.iload 8, 206, 0)
  | 206 => some (.ifCond .eq 7, 209, 213)
  | 209 => some (.iconst 1, 210, 0)
  | 210 => some (.goto 4, 213, 214)
  | 213 => some (.iconst 0, 214, 0)
  | 214 => some (.ireturn, 215, 0)
  | _ => none
theorem tv_9_has : ∀ pc i, sy_lk 215 tc_9_has pc = some i → sy_chk c_9_has (some .boolean) true pc i = true := sy_lk_ok 215 tc_9_has (by decide +kernel)
def Mk_9_has (ct : Nat → Option (Bool × Nat × sy_Sp)) : sy_M := (sy_lk 215 tc_9_has, ff_9, ki_9, kl_9, ct, true)
def rn_9_has (ns : Nat) (ct : Nat → Option (Bool × Nat × sy_Sp)) (R : sy_R) (K : sy_K) : Nat → sy_K := sy_run ns (Mk_9_has ct) [61] R K
theorem rx_9_has_0 {ns n ct R K s k z v1 v2 v3 v4 v5 v6 v7 v8} : rn_9_has ns ct R K (n + 1) 0 [.inr (.inr (some z)), v1, v2, v3, v4, v5, v6, v7, v8] k s = (rn_9_has ns ct R K n 1 [.inr (.inr (some z)), v1, v2, v3, v4, v5, v6, v7, v8] (.inr (.inr (some z)) :: k) s) := rfl
theorem rx_9_has_1 {ns n ct R K s L k a} : rn_9_has ns ct R K (n + 1) 1 L (.inr (.inr (some (some a))) :: k) s = (sy_ob a = some 9 ∧ rn_9_has ns ct R K n 4 L (sy_fv s a 14 :: k) s) := rfl
theorem rx_9_has_4 {ns n ct R K s L k a x} : rn_9_has ns ct R K (n + 1) 4 L (.inl (a, x) :: k) s = (sy_ri a x ∧ (¬ x = 0 → rn_9_has ns ct R K n 9 L k s) ∧ (x = 0 → rn_9_has ns ct R K n 7 L k s)) := rfl
theorem rx_9_has_7 {ns n ct R K s L k} : rn_9_has ns ct R K (n + 1) 7 L k s = (rn_9_has ns ct R K n 8 L (.inl (true, 0) :: k) s) := rfl
theorem rx_9_has_8 {ns n ct R K s L a z} : rn_9_has ns ct R K (n + 1) 8 L [.inl (a, z)] s = (sy_ri a z ∧ sy_b01 true z ∧ R (some (.inl (true, z))) s) := rfl
theorem rx_9_has_9 {ns n ct R K s k z v1 v2 v3 v4 v5 v6 v7 v8} : rn_9_has ns ct R K (n + 1) 9 [.inr (.inr (some z)), v1, v2, v3, v4, v5, v6, v7, v8] k s = (rn_9_has ns ct R K n 10 [.inr (.inr (some z)), v1, v2, v3, v4, v5, v6, v7, v8] (.inr (.inr (some z)) :: k) s) := rfl
theorem rx_9_has_10 {ns n ct R K s L k a} : rn_9_has ns ct R K (n + 1) 10 L (.inr (.inr (some (some a))) :: k) s = (sy_ob a = some 9 ∧ rn_9_has ns ct R K n 13 L (sy_fv s a 14 :: k) s) := rfl
theorem rx_9_has_13 {ns n ct R K s L k} : rn_9_has ns ct R K (n + 1) 13 L k s = (rn_9_has ns ct R K n 14 L (.inl (true, 1) :: k) s) := rfl
theorem rx_9_has_14 {ns n ct R K s L k a b x y} : rn_9_has ns ct R K (n + 1) 14 L (.inl (b, y) :: .inl (a, x) :: k) s = (sy_ri a x ∧ sy_ri b y ∧ (¬ x = y → rn_9_has ns ct R K n 55 L k s) ∧ (x = y → rn_9_has ns ct R K n 17 L k s)) := rfl
theorem rx_9_has_17 {ns n ct R K s k z v1 v2 v3 v4 v5 v6 v7 v8} : rn_9_has ns ct R K (n + 1) 17 [.inr (.inr (some z)), v1, v2, v3, v4, v5, v6, v7, v8] k s = (rn_9_has ns ct R K n 18 [.inr (.inr (some z)), v1, v2, v3, v4, v5, v6, v7, v8] (.inr (.inr (some z)) :: k) s) := rfl
theorem rx_9_has_18 {ns n ct R K s L k a} : rn_9_has ns ct R K (n + 1) 18 L (.inr (.inr (some (some a))) :: k) s = (sy_ob a = some 9 ∧ rn_9_has ns ct R K n 21 L (sy_fv s a 12 :: k) s) := rfl
theorem rx_9_has_21 {ns n ct R K s k z v1 v2 v3 v4 v5 v6 v7 v8} : rn_9_has ns ct R K (n + 1) 21 [.inr (.inr (some z)), v1, v2, v3, v4, v5, v6, v7, v8] k s = (rn_9_has ns ct R K n 22 [.inr (.inr (some z)), v1, v2, v3, v4, v5, v6, v7, v8] (.inr (.inr (some z)) :: k) s) := rfl
theorem rx_9_has_22 {ns n ct R K s L k a} : rn_9_has ns ct R K (n + 1) 22 L (.inr (.inr (some (some a))) :: k) s = (sy_ob a = some 9 ∧ rn_9_has ns ct R K n 25 L (sy_fv s a 15 :: k) s) := rfl
theorem rx_9_has_25 {ns n ct R K s L k} : rn_9_has ns ct R K (n + 1) 25 L k s = (rn_9_has ns ct R K n 26 L (.inl (true, 0) :: k) s) := rfl
theorem rx_9_has_26 {ns n ct R K s L k a b z} : rn_9_has ns ct R K (n + 1) 26 L (.inl (b, z) :: .inr (.inr (some (some a))) :: k) s = ((0 ≤ z ∧ z < (sy_ar a).2) ∧ sy_ob a = none ∧ (sy_ar a).1 = 0 ∧ rn_9_has ns ct R K n 27 L (.inl (true, s a z.toNat) :: k) s) := rfl
theorem rx_9_has_27 {ns n ct R K s L k a b z} : rn_9_has ns ct R K (n + 1) 27 L (.inl (b, z) :: .inr (.inr (some (some a))) :: k) s = ((0 ≤ z ∧ z < (sy_ar a).2) ∧ sy_ob a = none ∧ (sy_ar a).1 = 1 ∧ rn_9_has ns ct R K n 28 L (.inr (.inl (true, s a z.toNat)) :: k) s) := rfl
theorem rx_9_has_28 {ns n ct R K s k z v0 v2 v3 v4 v5 v6 v7 v8} : rn_9_has ns ct R K (n + 1) 28 [v0, .inr (.inl (true, z)), v2, v3, v4, v5, v6, v7, v8] k s = (rn_9_has ns ct R K n 29 [v0, .inr (.inl (true, z)), v2, v3, v4, v5, v6, v7, v8] (.inr (.inl (true, z)) :: k) s) := rfl
theorem rx_9_has_29 {ns n ct R K s L k a b x y} : rn_9_has ns ct R K (n + 1) 29 L (.inr (.inl (b, y)) :: .inr (.inl (a, x)) :: k) s = (sy_rl a x ∧ sy_rl b y ∧ rn_9_has ns ct R K n 30 L (.inl (true, sy_cmp x y) :: k) s) := rfl
theorem rx_9_has_30 {ns n ct R K s L k a x} : rn_9_has ns ct R K (n + 1) 30 L (.inl (a, x) :: k) s = (sy_ri a x ∧ (¬ x = 0 → rn_9_has ns ct R K n 53 L k s) ∧ (x = 0 → rn_9_has ns ct R K n 33 L k s)) := rfl
theorem rx_9_has_33 {ns n ct R K s k z v1 v2 v3 v4 v5 v6 v7 v8} : rn_9_has ns ct R K (n + 1) 33 [.inr (.inr (some z)), v1, v2, v3, v4, v5, v6, v7, v8] k s = (rn_9_has ns ct R K n 34 [.inr (.inr (some z)), v1, v2, v3, v4, v5, v6, v7, v8] (.inr (.inr (some z)) :: k) s) := rfl
theorem rx_9_has_34 {ns n ct R K s L k a} : rn_9_has ns ct R K (n + 1) 34 L (.inr (.inr (some (some a))) :: k) s = (sy_ob a = some 9 ∧ rn_9_has ns ct R K n 37 L (sy_fv s a 13 :: k) s) := rfl
theorem rx_9_has_37 {ns n ct R K s k z v1 v2 v3 v4 v5 v6 v7 v8} : rn_9_has ns ct R K (n + 1) 37 [.inr (.inr (some z)), v1, v2, v3, v4, v5, v6, v7, v8] k s = (rn_9_has ns ct R K n 38 [.inr (.inr (some z)), v1, v2, v3, v4, v5, v6, v7, v8] (.inr (.inr (some z)) :: k) s) := rfl
theorem rx_9_has_38 {ns n ct R K s L k a} : rn_9_has ns ct R K (n + 1) 38 L (.inr (.inr (some (some a))) :: k) s = (sy_ob a = some 9 ∧ rn_9_has ns ct R K n 41 L (sy_fv s a 15 :: k) s) := rfl
theorem rx_9_has_41 {ns n ct R K s L k} : rn_9_has ns ct R K (n + 1) 41 L k s = (rn_9_has ns ct R K n 42 L (.inl (true, 0) :: k) s) := rfl
theorem rx_9_has_42 {ns n ct R K s L k a b z} : rn_9_has ns ct R K (n + 1) 42 L (.inl (b, z) :: .inr (.inr (some (some a))) :: k) s = ((0 ≤ z ∧ z < (sy_ar a).2) ∧ sy_ob a = none ∧ (sy_ar a).1 = 0 ∧ rn_9_has ns ct R K n 43 L (.inl (true, s a z.toNat) :: k) s) := rfl
theorem rx_9_has_43 {ns n ct R K s L k a b z} : rn_9_has ns ct R K (n + 1) 43 L (.inl (b, z) :: .inr (.inr (some (some a))) :: k) s = ((0 ≤ z ∧ z < (sy_ar a).2) ∧ sy_ob a = none ∧ (sy_ar a).1 = 1 ∧ rn_9_has ns ct R K n 44 L (.inr (.inl (true, s a z.toNat)) :: k) s) := rfl
theorem rx_9_has_44 {ns n ct R K s k z v0 v1 v2 v4 v5 v6 v7 v8} : rn_9_has ns ct R K (n + 1) 44 [v0, v1, v2, .inr (.inl (true, z)), v4, v5, v6, v7, v8] k s = (rn_9_has ns ct R K n 45 [v0, v1, v2, .inr (.inl (true, z)), v4, v5, v6, v7, v8] (.inr (.inl (true, z)) :: k) s) := rfl
theorem rx_9_has_45 {ns n ct R K s L k a b x y} : rn_9_has ns ct R K (n + 1) 45 L (.inr (.inl (b, y)) :: .inr (.inl (a, x)) :: k) s = (sy_rl a x ∧ sy_rl b y ∧ rn_9_has ns ct R K n 46 L (.inl (true, sy_cmp x y) :: k) s) := rfl
theorem rx_9_has_46 {ns n ct R K s L k a x} : rn_9_has ns ct R K (n + 1) 46 L (.inl (a, x) :: k) s = (sy_ri a x ∧ (¬ x = 0 → rn_9_has ns ct R K n 53 L k s) ∧ (x = 0 → rn_9_has ns ct R K n 49 L k s)) := rfl
theorem rx_9_has_49 {ns n ct R K s L k} : rn_9_has ns ct R K (n + 1) 49 L k s = (rn_9_has ns ct R K n 50 L (.inl (true, 1) :: k) s) := rfl
theorem rx_9_has_50 {ns n ct R K s L k} : rn_9_has ns ct R K (n + 1) 50 L k s = (rn_9_has ns ct R K n 54 L k s) := rfl
theorem rx_9_has_53 {ns n ct R K s L k} : rn_9_has ns ct R K (n + 1) 53 L k s = (rn_9_has ns ct R K n 54 L (.inl (true, 0) :: k) s) := rfl
theorem rx_9_has_54 {ns n ct R K s L a z} : rn_9_has ns ct R K (n + 1) 54 L [.inl (a, z)] s = (sy_ri a z ∧ sy_b01 true z ∧ R (some (.inl (true, z))) s) := rfl
theorem rx_9_has_55 {ns n ct R K s L k} : rn_9_has ns ct R K (n + 1) 55 L k s = (rn_9_has ns ct R K n 56 L (.inl (true, 1) :: k) s) := rfl
theorem rx_9_has_56 {ns n ct R K s L k b z} : rn_9_has ns ct R K (n + 1) 56 L (.inl (b, z) :: k) s = (sy_ri b z ∧ 5 < L.length ∧ rn_9_has ns ct R K n 58 (sy_sto L 5 (.inl (true, z))) k s) := rfl
theorem rx_9_has_58 {ns n ct R K s L k} : rn_9_has ns ct R K (n + 1) 58 L k s = (rn_9_has ns ct R K n 59 L (.inl (true, 0) :: k) s) := rfl
theorem rx_9_has_59 {ns n ct R K s L k b z} : rn_9_has ns ct R K (n + 1) 59 L (.inl (b, z) :: k) s = (sy_ri b z ∧ 6 < L.length ∧ K 61 (sy_sto L 6 (.inl (true, z))) k s) := rfl
theorem rx_9_has_61 {ns n ct R K s k z v0 v1 v2 v3 v4 v5 v7 v8} : rn_9_has ns ct R K (n + 1) 61 [v0, v1, v2, v3, v4, v5, .inl (true, z), v7, v8] k s = (rn_9_has ns ct R K n 63 [v0, v1, v2, v3, v4, v5, .inl (true, z), v7, v8] (.inl (true, z) :: k) s) := rfl
theorem rx_9_has_63 {ns n ct R K s k z v1 v2 v3 v4 v5 v6 v7 v8} : rn_9_has ns ct R K (n + 1) 63 [.inr (.inr (some z)), v1, v2, v3, v4, v5, v6, v7, v8] k s = (rn_9_has ns ct R K n 64 [.inr (.inr (some z)), v1, v2, v3, v4, v5, v6, v7, v8] (.inr (.inr (some z)) :: k) s) := rfl
theorem rx_9_has_64 {ns n ct R K s L k a} : rn_9_has ns ct R K (n + 1) 64 L (.inr (.inr (some (some a))) :: k) s = (sy_ob a = some 9 ∧ rn_9_has ns ct R K n 67 L (sy_fv s a 14 :: k) s) := rfl
theorem rx_9_has_67 {ns n ct R K s L k a b x y} : rn_9_has ns ct R K (n + 1) 67 L (.inl (b, y) :: .inl (a, x) :: k) s = (sy_ri a x ∧ sy_ri b y ∧ (y ≤ x → rn_9_has ns ct R K n 120 L k s) ∧ (¬ y ≤ x → rn_9_has ns ct R K n 70 L k s)) := rfl
theorem rx_9_has_70 {ns n ct R K s k z v0 v1 v2 v3 v4 v6 v7 v8} : rn_9_has ns ct R K (n + 1) 70 [v0, v1, v2, v3, v4, .inl (true, z), v6, v7, v8] k s = (rn_9_has ns ct R K n 72 [v0, v1, v2, v3, v4, .inl (true, z), v6, v7, v8] (.inl (true, z) :: k) s) := rfl
theorem rx_9_has_72 {ns n ct R K s L k a x} : rn_9_has ns ct R K (n + 1) 72 L (.inl (a, x) :: k) s = (sy_ri a x ∧ (x = 0 → rn_9_has ns ct R K n 111 L k s) ∧ (¬ x = 0 → rn_9_has ns ct R K n 75 L k s)) := rfl
theorem rx_9_has_75 {ns n ct R K s k z v1 v2 v3 v4 v5 v6 v7 v8} : rn_9_has ns ct R K (n + 1) 75 [.inr (.inr (some z)), v1, v2, v3, v4, v5, v6, v7, v8] k s = (rn_9_has ns ct R K n 76 [.inr (.inr (some z)), v1, v2, v3, v4, v5, v6, v7, v8] (.inr (.inr (some z)) :: k) s) := rfl
theorem rx_9_has_76 {ns n ct R K s k z v1 v2 v3 v4 v5 v6 v7 v8} : rn_9_has ns ct R K (n + 1) 76 [.inr (.inr (some z)), v1, v2, v3, v4, v5, v6, v7, v8] k s = (rn_9_has ns ct R K n 77 [.inr (.inr (some z)), v1, v2, v3, v4, v5, v6, v7, v8] (.inr (.inr (some z)) :: k) s) := rfl
theorem rx_9_has_77 {ns n ct R K s L k a} : rn_9_has ns ct R K (n + 1) 77 L (.inr (.inr (some (some a))) :: k) s = (sy_ob a = some 9 ∧ rn_9_has ns ct R K n 80 L (sy_fv s a 15 :: k) s) := rfl
theorem rx_9_has_80 {ns n ct R K s k z v0 v1 v2 v3 v4 v5 v7 v8} : rn_9_has ns ct R K (n + 1) 80 [v0, v1, v2, v3, v4, v5, .inl (true, z), v7, v8] k s = (rn_9_has ns ct R K n 82 [v0, v1, v2, v3, v4, v5, .inl (true, z), v7, v8] (.inl (true, z) :: k) s) := rfl
theorem rx_9_has_82 {ns n ct R K s L k a b z} : rn_9_has ns ct R K (n + 1) 82 L (.inl (b, z) :: .inr (.inr (some (some a))) :: k) s = ((0 ≤ z ∧ z < (sy_ar a).2) ∧ sy_ob a = none ∧ (sy_ar a).1 = 0 ∧ rn_9_has ns ct R K n 83 L (.inl (true, s a z.toNat) :: k) s) := rfl
theorem rx_9_has_83 {ns n ct R K s k z v1 v2 v3 v4 v5 v6 v7 v8} : rn_9_has ns ct R K (n + 1) 83 [.inr (.inr (some z)), v1, v2, v3, v4, v5, v6, v7, v8] k s = (rn_9_has ns ct R K n 84 [.inr (.inr (some z)), v1, v2, v3, v4, v5, v6, v7, v8] (.inr (.inr (some z)) :: k) s) := rfl
theorem rx_9_has_84 {ns n ct R K s L k a} : rn_9_has ns ct R K (n + 1) 84 L (.inr (.inr (some (some a))) :: k) s = (sy_ob a = some 9 ∧ rn_9_has ns ct R K n 87 L (sy_fv s a 15 :: k) s) := rfl
theorem rx_9_has_87 {ns n ct R K s k z v0 v1 v2 v3 v4 v5 v7 v8} : rn_9_has ns ct R K (n + 1) 87 [v0, v1, v2, v3, v4, v5, .inl (true, z), v7, v8] k s = (rn_9_has ns ct R K n 89 [v0, v1, v2, v3, v4, v5, .inl (true, z), v7, v8] (.inl (true, z) :: k) s) := rfl
theorem rx_9_has_89 {ns n ct R K s L k} : rn_9_has ns ct R K (n + 1) 89 L k s = (rn_9_has ns ct R K n 90 L (.inl (true, 1) :: k) s) := rfl
theorem rx_9_has_90 {ns n ct R K s L k a b x y} : rn_9_has ns ct R K (n + 1) 90 L (.inl (b, y) :: .inl (a, x) :: k) s = (rn_9_has ns ct R K n 91 L (.inl (false, x + y) :: k) s) := rfl
theorem rx_9_has_91 {ns n ct R K s k z v1 v2 v3 v4 v5 v6 v7 v8} : rn_9_has ns ct R K (n + 1) 91 [.inr (.inr (some z)), v1, v2, v3, v4, v5, v6, v7, v8] k s = (rn_9_has ns ct R K n 92 [.inr (.inr (some z)), v1, v2, v3, v4, v5, v6, v7, v8] (.inr (.inr (some z)) :: k) s) := rfl
theorem rx_9_has_92 {ns n ct R K s L k a} : rn_9_has ns ct R K (n + 1) 92 L (.inr (.inr (some (some a))) :: k) s = (sy_ob a = some 9 ∧ rn_9_has ns ct R K n 95 L (sy_fv s a 14 :: k) s) := rfl
theorem rx_9_has_95 {ns n ct R K s L k a b x y} : rn_9_has ns ct R K (n + 1) 95 L (.inl (b, y) :: .inl (a, x) :: k) s = (sy_ri a x ∧ sy_ri b y ∧ y ≠ 0 ∧ rn_9_has ns ct R K n 96 L (.inl (false, x.tmod y) :: k) s) := rfl
theorem rx_9_has_96 {ns n ct R K s L k a b z} : rn_9_has ns ct R K (n + 1) 96 L (.inl (b, z) :: .inr (.inr (some (some a))) :: k) s = ((0 ≤ z ∧ z < (sy_ar a).2) ∧ sy_ob a = none ∧ (sy_ar a).1 = 0 ∧ rn_9_has ns ct R K n 97 L (.inl (true, s a z.toNat) :: k) s) := rfl
theorem rx_9_has_97 {ns n ct R K s k z v0 v2 v3 v4 v5 v6 v7 v8} : rn_9_has ns ct R K (n + 1) 97 [v0, .inr (.inl (true, z)), v2, v3, v4, v5, v6, v7, v8] k s = (rn_9_has ns ct R K n 98 [v0, .inr (.inl (true, z)), v2, v3, v4, v5, v6, v7, v8] (.inr (.inl (true, z)) :: k) s) := rfl
theorem rx_9_has_98 {ns n ct R K s k z v0 v1 v2 v4 v5 v6 v7 v8} : rn_9_has ns ct R K (n + 1) 98 [v0, v1, v2, .inr (.inl (true, z)), v4, v5, v6, v7, v8] k s = (rn_9_has ns ct R K n 99 [v0, v1, v2, .inr (.inl (true, z)), v4, v5, v6, v7, v8] (.inr (.inl (true, z)) :: k) s) := rfl
theorem rx_9_has_99 {ns n ct R K s L k} : rn_9_has ns ct R K (n + 1) 99 L k s = (sy_call false (ct 124) k s fun r t => rn_9_has ns ct R K n 102 L r t) := rfl
theorem rx_9_has_102 {ns n ct R K s L k} : rn_9_has ns ct R K (n + 1) 102 L k s = (rn_9_has ns ct R K n 103 L (.inr (.inl (true, 0)) :: k) s) := rfl
theorem rx_9_has_103 {ns n ct R K s L k a b x y} : rn_9_has ns ct R K (n + 1) 103 L (.inr (.inl (b, y)) :: .inr (.inl (a, x)) :: k) s = (sy_rl a x ∧ sy_rl b y ∧ rn_9_has ns ct R K n 104 L (.inl (true, sy_cmp x y) :: k) s) := rfl
theorem rx_9_has_104 {ns n ct R K s L k a x} : rn_9_has ns ct R K (n + 1) 104 L (.inl (a, x) :: k) s = (sy_ri a x ∧ (x < 0 → rn_9_has ns ct R K n 111 L k s) ∧ (¬ x < 0 → rn_9_has ns ct R K n 107 L k s)) := rfl
theorem rx_9_has_107 {ns n ct R K s L k} : rn_9_has ns ct R K (n + 1) 107 L k s = (rn_9_has ns ct R K n 108 L (.inl (true, 1) :: k) s) := rfl
theorem rx_9_has_108 {ns n ct R K s L k} : rn_9_has ns ct R K (n + 1) 108 L k s = (rn_9_has ns ct R K n 112 L k s) := rfl
theorem rx_9_has_111 {ns n ct R K s L k} : rn_9_has ns ct R K (n + 1) 111 L k s = (rn_9_has ns ct R K n 112 L (.inl (true, 0) :: k) s) := rfl
theorem rx_9_has_112 {ns n ct R K s L k b z} : rn_9_has ns ct R K (n + 1) 112 L (.inl (b, z) :: k) s = (sy_ri b z ∧ 5 < L.length ∧ rn_9_has ns ct R K n 114 (sy_sto L 5 (.inl (true, z))) k s) := rfl
theorem rx_9_has_114 {ns n ct R K s k z v0 v1 v2 v3 v4 v5 v7 v8} : rn_9_has ns ct R K (n + 1) 114 [v0, v1, v2, v3, v4, v5, .inl (true, z), v7, v8] k s = ((-2147483648 ≤ z + 1 ∧ z + 1 < 2147483648) ∧ rn_9_has ns ct R K n 117 (sy_sto [v0, v1, v2, v3, v4, v5, .inl (true, z), v7, v8] 6 (.inl (true, z + 1))) k s) := rfl
theorem rx_9_has_117 {ns n ct R K s L k} : rn_9_has ns ct R K (n + 1) 117 L k s = (K 61 L k s) := rfl
theorem rx_9_has_120 {ns n ct R K s k z v1 v2 v3 v4 v5 v6 v7 v8} : rn_9_has ns ct R K (n + 1) 120 [.inr (.inr (some z)), v1, v2, v3, v4, v5, v6, v7, v8] k s = (rn_9_has ns ct R K n 121 [.inr (.inr (some z)), v1, v2, v3, v4, v5, v6, v7, v8] (.inr (.inr (some z)) :: k) s) := rfl
theorem rx_9_has_121 {ns n ct R K s L k a} : rn_9_has ns ct R K (n + 1) 121 L (.inr (.inr (some (some a))) :: k) s = (sy_ob a = some 9 ∧ rn_9_has ns ct R K n 124 L (sy_fv s a 15 :: k) s) := rfl
theorem rx_9_has_124 {ns n ct R K s L k} : rn_9_has ns ct R K (n + 1) 124 L k s = (rn_9_has ns ct R K n 125 L (.inl (true, 0) :: k) s) := rfl
theorem rx_9_has_125 {ns n ct R K s L k a b z} : rn_9_has ns ct R K (n + 1) 125 L (.inl (b, z) :: .inr (.inr (some (some a))) :: k) s = ((0 ≤ z ∧ z < (sy_ar a).2) ∧ sy_ob a = none ∧ (sy_ar a).1 = 0 ∧ rn_9_has ns ct R K n 126 L (.inl (true, s a z.toNat) :: k) s) := rfl
theorem rx_9_has_126 {ns n ct R K s L k b z} : rn_9_has ns ct R K (n + 1) 126 L (.inl (b, z) :: k) s = (sy_ri b z ∧ 6 < L.length ∧ rn_9_has ns ct R K n 128 (sy_sto L 6 (.inl (true, z))) k s) := rfl
theorem rx_9_has_128 {ns n ct R K s k z v1 v2 v3 v4 v5 v6 v7 v8} : rn_9_has ns ct R K (n + 1) 128 [.inr (.inr (some z)), v1, v2, v3, v4, v5, v6, v7, v8] k s = (rn_9_has ns ct R K n 129 [.inr (.inr (some z)), v1, v2, v3, v4, v5, v6, v7, v8] (.inr (.inr (some z)) :: k) s) := rfl
theorem rx_9_has_129 {ns n ct R K s L k a} : rn_9_has ns ct R K (n + 1) 129 L (.inr (.inr (some (some a))) :: k) s = (sy_ob a = some 9 ∧ rn_9_has ns ct R K n 132 L (sy_fv s a 15 :: k) s) := rfl
theorem rx_9_has_132 {ns n ct R K s L k} : rn_9_has ns ct R K (n + 1) 132 L k s = (rn_9_has ns ct R K n 133 L (.inl (true, 1) :: k) s) := rfl
theorem rx_9_has_133 {ns n ct R K s L k a b z} : rn_9_has ns ct R K (n + 1) 133 L (.inl (b, z) :: .inr (.inr (some (some a))) :: k) s = ((0 ≤ z ∧ z < (sy_ar a).2) ∧ sy_ob a = none ∧ (sy_ar a).1 = 0 ∧ rn_9_has ns ct R K n 134 L (.inl (true, s a z.toNat) :: k) s) := rfl
theorem rx_9_has_134 {ns n ct R K s L k b z} : rn_9_has ns ct R K (n + 1) 134 L (.inl (b, z) :: k) s = (sy_ri b z ∧ 7 < L.length ∧ rn_9_has ns ct R K n 136 (sy_sto L 7 (.inl (true, z))) k s) := rfl
theorem rx_9_has_136 {ns n ct R K s k z v0 v2 v3 v4 v5 v6 v7 v8} : rn_9_has ns ct R K (n + 1) 136 [v0, .inr (.inl (true, z)), v2, v3, v4, v5, v6, v7, v8] k s = (rn_9_has ns ct R K n 137 [v0, .inr (.inl (true, z)), v2, v3, v4, v5, v6, v7, v8] (.inr (.inl (true, z)) :: k) s) := rfl
theorem rx_9_has_137 {ns n ct R K s k z v1 v2 v3 v4 v5 v6 v7 v8} : rn_9_has ns ct R K (n + 1) 137 [.inr (.inr (some z)), v1, v2, v3, v4, v5, v6, v7, v8] k s = (rn_9_has ns ct R K n 138 [.inr (.inr (some z)), v1, v2, v3, v4, v5, v6, v7, v8] (.inr (.inr (some z)) :: k) s) := rfl
theorem rx_9_has_138 {ns n ct R K s L k a} : rn_9_has ns ct R K (n + 1) 138 L (.inr (.inr (some (some a))) :: k) s = (sy_ob a = some 9 ∧ rn_9_has ns ct R K n 141 L (sy_fv s a 12 :: k) s) := rfl
theorem rx_9_has_141 {ns n ct R K s k z v0 v1 v2 v3 v4 v5 v7 v8} : rn_9_has ns ct R K (n + 1) 141 [v0, v1, v2, v3, v4, v5, .inl (true, z), v7, v8] k s = (rn_9_has ns ct R K n 143 [v0, v1, v2, v3, v4, v5, .inl (true, z), v7, v8] (.inl (true, z) :: k) s) := rfl
theorem rx_9_has_143 {ns n ct R K s L k a b z} : rn_9_has ns ct R K (n + 1) 143 L (.inl (b, z) :: .inr (.inr (some (some a))) :: k) s = ((0 ≤ z ∧ z < (sy_ar a).2) ∧ sy_ob a = none ∧ (sy_ar a).1 = 1 ∧ rn_9_has ns ct R K n 144 L (.inr (.inl (true, s a z.toNat)) :: k) s) := rfl
theorem rx_9_has_144 {ns n ct R K s L k a b x y} : rn_9_has ns ct R K (n + 1) 144 L (.inr (.inl (b, y)) :: .inr (.inl (a, x)) :: k) s = (rn_9_has ns ct R K n 145 L (.inr (.inl (false, x - y)) :: k) s) := rfl
theorem rx_9_has_145 {ns n ct R K s k z v0 v2 v3 v4 v5 v6 v7 v8} : rn_9_has ns ct R K (n + 1) 145 [v0, .inr (.inl (true, z)), v2, v3, v4, v5, v6, v7, v8] k s = (rn_9_has ns ct R K n 146 [v0, .inr (.inl (true, z)), v2, v3, v4, v5, v6, v7, v8] (.inr (.inl (true, z)) :: k) s) := rfl
theorem rx_9_has_146 {ns n ct R K s k z v1 v2 v3 v4 v5 v6 v7 v8} : rn_9_has ns ct R K (n + 1) 146 [.inr (.inr (some z)), v1, v2, v3, v4, v5, v6, v7, v8] k s = (rn_9_has ns ct R K n 147 [.inr (.inr (some z)), v1, v2, v3, v4, v5, v6, v7, v8] (.inr (.inr (some z)) :: k) s) := rfl
theorem rx_9_has_147 {ns n ct R K s L k a} : rn_9_has ns ct R K (n + 1) 147 L (.inr (.inr (some (some a))) :: k) s = (sy_ob a = some 9 ∧ rn_9_has ns ct R K n 150 L (sy_fv s a 12 :: k) s) := rfl
theorem rx_9_has_150 {ns n ct R K s k z v0 v1 v2 v3 v4 v5 v6 v8} : rn_9_has ns ct R K (n + 1) 150 [v0, v1, v2, v3, v4, v5, v6, .inl (true, z), v8] k s = (rn_9_has ns ct R K n 152 [v0, v1, v2, v3, v4, v5, v6, .inl (true, z), v8] (.inl (true, z) :: k) s) := rfl
theorem rx_9_has_152 {ns n ct R K s L k a b z} : rn_9_has ns ct R K (n + 1) 152 L (.inl (b, z) :: .inr (.inr (some (some a))) :: k) s = ((0 ≤ z ∧ z < (sy_ar a).2) ∧ sy_ob a = none ∧ (sy_ar a).1 = 1 ∧ rn_9_has ns ct R K n 153 L (.inr (.inl (true, s a z.toNat)) :: k) s) := rfl
theorem rx_9_has_153 {ns n ct R K s L k a b x y} : rn_9_has ns ct R K (n + 1) 153 L (.inr (.inl (b, y)) :: .inr (.inl (a, x)) :: k) s = (rn_9_has ns ct R K n 154 L (.inr (.inl (false, x - y)) :: k) s) := rfl
theorem rx_9_has_154 {ns n ct R K s L k a b x y} : rn_9_has ns ct R K (n + 1) 154 L (.inr (.inl (b, y)) :: .inr (.inl (a, x)) :: k) s = (rn_9_has ns ct R K n 155 L (.inr (.inl (false, x * y)) :: k) s) := rfl
theorem rx_9_has_155 {ns n ct R K s L k} : rn_9_has ns ct R K (n + 1) 155 L k s = (rn_9_has ns ct R K n 156 L (.inr (.inl (true, 0)) :: k) s) := rfl
theorem rx_9_has_156 {ns n ct R K s L k a b x y} : rn_9_has ns ct R K (n + 1) 156 L (.inr (.inl (b, y)) :: .inr (.inl (a, x)) :: k) s = (sy_rl a x ∧ sy_rl b y ∧ rn_9_has ns ct R K n 157 L (.inl (true, sy_cmp x y) :: k) s) := rfl
theorem rx_9_has_157 {ns n ct R K s L k a x} : rn_9_has ns ct R K (n + 1) 157 L (.inl (a, x) :: k) s = (sy_ri a x ∧ (0 < x → rn_9_has ns ct R K n 188 L k s) ∧ (¬ 0 < x → rn_9_has ns ct R K n 160 L k s)) := rfl
theorem rx_9_has_160 {ns n ct R K s k z v0 v1 v2 v4 v5 v6 v7 v8} : rn_9_has ns ct R K (n + 1) 160 [v0, v1, v2, .inr (.inl (true, z)), v4, v5, v6, v7, v8] k s = (rn_9_has ns ct R K n 161 [v0, v1, v2, .inr (.inl (true, z)), v4, v5, v6, v7, v8] (.inr (.inl (true, z)) :: k) s) := rfl
theorem rx_9_has_161 {ns n ct R K s k z v1 v2 v3 v4 v5 v6 v7 v8} : rn_9_has ns ct R K (n + 1) 161 [.inr (.inr (some z)), v1, v2, v3, v4, v5, v6, v7, v8] k s = (rn_9_has ns ct R K n 162 [.inr (.inr (some z)), v1, v2, v3, v4, v5, v6, v7, v8] (.inr (.inr (some z)) :: k) s) := rfl
theorem rx_9_has_162 {ns n ct R K s L k a} : rn_9_has ns ct R K (n + 1) 162 L (.inr (.inr (some (some a))) :: k) s = (sy_ob a = some 9 ∧ rn_9_has ns ct R K n 165 L (sy_fv s a 13 :: k) s) := rfl
theorem rx_9_has_165 {ns n ct R K s k z v0 v1 v2 v3 v4 v5 v7 v8} : rn_9_has ns ct R K (n + 1) 165 [v0, v1, v2, v3, v4, v5, .inl (true, z), v7, v8] k s = (rn_9_has ns ct R K n 167 [v0, v1, v2, v3, v4, v5, .inl (true, z), v7, v8] (.inl (true, z) :: k) s) := rfl
theorem rx_9_has_167 {ns n ct R K s L k a b z} : rn_9_has ns ct R K (n + 1) 167 L (.inl (b, z) :: .inr (.inr (some (some a))) :: k) s = ((0 ≤ z ∧ z < (sy_ar a).2) ∧ sy_ob a = none ∧ (sy_ar a).1 = 1 ∧ rn_9_has ns ct R K n 168 L (.inr (.inl (true, s a z.toNat)) :: k) s) := rfl
theorem rx_9_has_168 {ns n ct R K s L k a b x y} : rn_9_has ns ct R K (n + 1) 168 L (.inr (.inl (b, y)) :: .inr (.inl (a, x)) :: k) s = (rn_9_has ns ct R K n 169 L (.inr (.inl (false, x - y)) :: k) s) := rfl
theorem rx_9_has_169 {ns n ct R K s k z v0 v1 v2 v4 v5 v6 v7 v8} : rn_9_has ns ct R K (n + 1) 169 [v0, v1, v2, .inr (.inl (true, z)), v4, v5, v6, v7, v8] k s = (rn_9_has ns ct R K n 170 [v0, v1, v2, .inr (.inl (true, z)), v4, v5, v6, v7, v8] (.inr (.inl (true, z)) :: k) s) := rfl
theorem rx_9_has_170 {ns n ct R K s k z v1 v2 v3 v4 v5 v6 v7 v8} : rn_9_has ns ct R K (n + 1) 170 [.inr (.inr (some z)), v1, v2, v3, v4, v5, v6, v7, v8] k s = (rn_9_has ns ct R K n 171 [.inr (.inr (some z)), v1, v2, v3, v4, v5, v6, v7, v8] (.inr (.inr (some z)) :: k) s) := rfl
theorem rx_9_has_171 {ns n ct R K s L k a} : rn_9_has ns ct R K (n + 1) 171 L (.inr (.inr (some (some a))) :: k) s = (sy_ob a = some 9 ∧ rn_9_has ns ct R K n 174 L (sy_fv s a 13 :: k) s) := rfl
theorem rx_9_has_174 {ns n ct R K s k z v0 v1 v2 v3 v4 v5 v6 v8} : rn_9_has ns ct R K (n + 1) 174 [v0, v1, v2, v3, v4, v5, v6, .inl (true, z), v8] k s = (rn_9_has ns ct R K n 176 [v0, v1, v2, v3, v4, v5, v6, .inl (true, z), v8] (.inl (true, z) :: k) s) := rfl
theorem rx_9_has_176 {ns n ct R K s L k a b z} : rn_9_has ns ct R K (n + 1) 176 L (.inl (b, z) :: .inr (.inr (some (some a))) :: k) s = ((0 ≤ z ∧ z < (sy_ar a).2) ∧ sy_ob a = none ∧ (sy_ar a).1 = 1 ∧ rn_9_has ns ct R K n 177 L (.inr (.inl (true, s a z.toNat)) :: k) s) := rfl
theorem rx_9_has_177 {ns n ct R K s L k a b x y} : rn_9_has ns ct R K (n + 1) 177 L (.inr (.inl (b, y)) :: .inr (.inl (a, x)) :: k) s = (rn_9_has ns ct R K n 178 L (.inr (.inl (false, x - y)) :: k) s) := rfl
theorem rx_9_has_178 {ns n ct R K s L k a b x y} : rn_9_has ns ct R K (n + 1) 178 L (.inr (.inl (b, y)) :: .inr (.inl (a, x)) :: k) s = (rn_9_has ns ct R K n 179 L (.inr (.inl (false, x * y)) :: k) s) := rfl
theorem rx_9_has_179 {ns n ct R K s L k} : rn_9_has ns ct R K (n + 1) 179 L k s = (rn_9_has ns ct R K n 180 L (.inr (.inl (true, 0)) :: k) s) := rfl
theorem rx_9_has_180 {ns n ct R K s L k a b x y} : rn_9_has ns ct R K (n + 1) 180 L (.inr (.inl (b, y)) :: .inr (.inl (a, x)) :: k) s = (sy_rl a x ∧ sy_rl b y ∧ rn_9_has ns ct R K n 181 L (.inl (true, sy_cmp x y) :: k) s) := rfl
theorem rx_9_has_181 {ns n ct R K s L k a x} : rn_9_has ns ct R K (n + 1) 181 L (.inl (a, x) :: k) s = (sy_ri a x ∧ (0 < x → rn_9_has ns ct R K n 188 L k s) ∧ (¬ 0 < x → rn_9_has ns ct R K n 184 L k s)) := rfl
theorem rx_9_has_184 {ns n ct R K s L k} : rn_9_has ns ct R K (n + 1) 184 L k s = (rn_9_has ns ct R K n 185 L (.inl (true, 1) :: k) s) := rfl
theorem rx_9_has_185 {ns n ct R K s L k} : rn_9_has ns ct R K (n + 1) 185 L k s = (rn_9_has ns ct R K n 189 L k s) := rfl
theorem rx_9_has_188 {ns n ct R K s L k} : rn_9_has ns ct R K (n + 1) 188 L k s = (rn_9_has ns ct R K n 189 L (.inl (true, 0) :: k) s) := rfl
theorem rx_9_has_189 {ns n ct R K s L k b z} : rn_9_has ns ct R K (n + 1) 189 L (.inl (b, z) :: k) s = (sy_ri b z ∧ 8 < L.length ∧ rn_9_has ns ct R K n 191 (sy_sto L 8 (.inl (true, z))) k s) := rfl
theorem rx_9_has_191 {ns n ct R K s k z v0 v1 v2 v3 v4 v6 v7 v8} : rn_9_has ns ct R K (n + 1) 191 [v0, v1, v2, v3, v4, .inl (true, z), v6, v7, v8] k s = (rn_9_has ns ct R K n 193 [v0, v1, v2, v3, v4, .inl (true, z), v6, v7, v8] (.inl (true, z) :: k) s) := rfl
theorem rx_9_has_193 {ns n ct R K s L k a x} : rn_9_has ns ct R K (n + 1) 193 L (.inl (a, x) :: k) s = (sy_ri a x ∧ (x = 0 → rn_9_has ns ct R K n 213 L k s) ∧ (¬ x = 0 → rn_9_has ns ct R K n 196 L k s)) := rfl
theorem rx_9_has_196 {ns n ct R K s k z v1 v2 v3 v4 v5 v6 v7 v8} : rn_9_has ns ct R K (n + 1) 196 [.inr (.inr (some z)), v1, v2, v3, v4, v5, v6, v7, v8] k s = (rn_9_has ns ct R K n 197 [.inr (.inr (some z)), v1, v2, v3, v4, v5, v6, v7, v8] (.inr (.inr (some z)) :: k) s) := rfl
theorem rx_9_has_197 {ns n ct R K s L k a} : rn_9_has ns ct R K (n + 1) 197 L (.inr (.inr (some (some a))) :: k) s = (sy_ob a = some 9 ∧ rn_9_has ns ct R K n 200 L (sy_fv s a 14 :: k) s) := rfl
theorem rx_9_has_200 {ns n ct R K s L k} : rn_9_has ns ct R K (n + 1) 200 L k s = (rn_9_has ns ct R K n 201 L (.inl (true, 2) :: k) s) := rfl
theorem rx_9_has_201 {ns n ct R K s L k a b x y} : rn_9_has ns ct R K (n + 1) 201 L (.inl (b, y) :: .inl (a, x) :: k) s = (sy_ri a x ∧ sy_ri b y ∧ (y < x → rn_9_has ns ct R K n 209 L k s) ∧ (¬ y < x → rn_9_has ns ct R K n 204 L k s)) := rfl
theorem rx_9_has_204 {ns n ct R K s k z v0 v1 v2 v3 v4 v5 v6 v7} : rn_9_has ns ct R K (n + 1) 204 [v0, v1, v2, v3, v4, v5, v6, v7, .inl (true, z)] k s = (rn_9_has ns ct R K n 206 [v0, v1, v2, v3, v4, v5, v6, v7, .inl (true, z)] (.inl (true, z) :: k) s) := rfl
theorem rx_9_has_206 {ns n ct R K s L k a x} : rn_9_has ns ct R K (n + 1) 206 L (.inl (a, x) :: k) s = (sy_ri a x ∧ (x = 0 → rn_9_has ns ct R K n 213 L k s) ∧ (¬ x = 0 → rn_9_has ns ct R K n 209 L k s)) := rfl
theorem rx_9_has_209 {ns n ct R K s L k} : rn_9_has ns ct R K (n + 1) 209 L k s = (rn_9_has ns ct R K n 210 L (.inl (true, 1) :: k) s) := rfl
theorem rx_9_has_210 {ns n ct R K s L k} : rn_9_has ns ct R K (n + 1) 210 L k s = (rn_9_has ns ct R K n 214 L k s) := rfl
theorem rx_9_has_213 {ns n ct R K s L k} : rn_9_has ns ct R K (n + 1) 213 L k s = (rn_9_has ns ct R K n 214 L (.inl (true, 0) :: k) s) := rfl
theorem rx_9_has_214 {ns n ct R K s L a z} : rn_9_has ns ct R K (n + 1) 214 L [.inl (a, z)] s = (sy_ri a z ∧ sy_b01 true z ∧ R (some (.inl (true, z))) s) := rfl
def y_9_meets : MethodName := ⟨"StarHideModel", "meets", "(IIJJJ)Z"⟩
abbrev c_9_meets : ByteArray := prog_11_method_40_code
def tc_9_meets (pc : Nat) : Option sy_I := match pc with
  | 0 => some (.aload_n 0, 1, 0)
  | 1 => some (.getfield 51, 4, 0)
  | 4 => some (.iload_n 1, 5, 0)
  | 5 => some (.laload, 6, 0)
  | 6 => some (.aload_n 0, 7, 0)
  | 7 => some (.getfield 51, 10, 0)
  | 10 => some (.iload_n 2, 11, 0)
  | 11 => some (.laload, 12, 0)
  | 12 => some (.lcmp, 13, 0)
  | 13 => some (.ifCond .ne 94, 16, 107)
  | 16 => some (.aload_n 0, 17, 0)
  | 17 => some (.getfield 51, 20, 0)
  | 20 => some (.iload_n 1, 21, 0)
  | 21 => some (.laload, 22, 0)
  | 22 => some (.lload 7, 24, 0)
  | 24 => some (.lcmp, 25, 0)
  | 25 => some (.ifCond .ne 80, 28, 105)
  | 28 => some (.aload_n 0, 29, 0)
  | 29 => some (.getfield 47, 32, 0)
  | 32 => some (.iload_n 1, 33, 0)
  | 33 => some (.laload, 34, 0)
  | 34 => some (.aload_n 0, 35, 0)
  | 35 => some (.getfield 47, 38, 0)
  | 38 => some (.iload_n 2, 39, 0)
  | 39 => some (.laload, 40, 0)
  | 40 => some (.lcmp, 41, 0)
  | 41 => some (.ifCond .ge 12, 44, 53)
  | 44 => some (.aload_n 0, 45, 0)
  | 45 => some (.getfield 47, 48, 0)
  | 48 => some (.iload_n 1, 49, 0)
  | 49 => some (.laload, 50, 0)
  | 50 => some (.goto 9, 53, 59)
  | 53 => some (.aload_n 0, 54, 0)
  | 54 => some (.getfield 47, 57, 0)
  | 57 => some (.iload_n 2, 58, 0)
  | 58 => some (.laload, 59, 0)
  | 59 => some (.lload 5, 61, 0)
  | 61 => some (.lcmp, 62, 0)
  | 62 => some (.ifCond .gt 43, 65, 105)
  | 65 => some (.aload_n 0, 66, 0)
  | 66 => some (.getfield 47, 69, 0)
  | 69 => some (.iload_n 1, 70, 0)
  | 70 => some (.laload, 71, 0)
  | 71 => some (.aload_n 0, 72, 0)
  | 72 => some (.getfield 47, 75, 0)
  | 75 => some (.iload_n 2, 76, 0)
  | 76 => some (.laload, 77, 0)
  | 77 => some (.lcmp, 78, 0)
  | 78 => some (.ifCond .le 12, 81, 90)
  | 81 => some (.aload_n 0, 82, 0)
  | 82 => some (.getfield 47, 85, 0)
  | 85 => some (.iload_n 1, 86, 0)
  | 86 => some (.laload, 87, 0)
  | 87 => some (.goto 9, 90, 96)
  | 90 => some (.aload_n 0, 91, 0)
  | 91 => some (.getfield 47, 94, 0)
  | 94 => some (.iload_n 2, 95, 0)
  | 95 => some (.laload, 96, 0)
  | 96 => some (.lload_n 3, 97, 0)
  | 97 => some (.lcmp, 98, 0)
  | 98 => some (.ifCond .lt 7, 101, 105)
  | 101 => some (.iconst 1, 102, 0)
  | 102 => some (.goto 4, 105, 106)
  | 105 => some (.iconst 0, 106, 0)
  | 106 => some (.ireturn, 107, 0)
  | 107 => some (.aload_n 0, 108, 0)
  | 108 => some (.getfield 51, 111, 0)
  | 111 => some (.iload_n 1, 112, 0)
  | 112 => some (.laload, 113, 0)
  | 113 => some (.lload 7, 115, 0)
  | 115 => some (.lcmp, 116, 0)
  | 116 => some (.ifCond .ge 7, 119, 123)
  | 119 => some (.iconst 1, 120, 0)
  | 120 => some (.goto 4, 123, 124)
  | 123 => some (.iconst 0, 124, 0)
  | 124 => some (.aload_n 0, 125, 0)
  | 125 => some (.getfield 51, 128, 0)
  | 128 => some (.iload_n 2, 129, 0)
  | 129 => some (.laload, 130, 0)
  | 130 => some (.lload 7, 132, 0)
  | 132 => some (.lcmp, 133, 0)
  | 133 => some (.ifCond .ge 7, 136, 140)
  | 136 => some (.iconst 1, 137, 0)
  | 137 => some (.goto 4, 140, 141)
  | 140 => some (.iconst 0, 141, 0)
  | 141 => some (.if_icmp .ne 29, 144, 170)
  | 144 => some (.aload_n 0, 145, 0)
  | 145 => some (.getfield 51, 148, 0)
  | 148 => some (.iload_n 1, 149, 0)
  | 149 => some (.laload, 150, 0)
  | 150 => some (.lload 7, 152, 0)
  | 152 => some (.lcmp, 153, 0)
  | 153 => some (.ifCond .eq 17, 156, 170)
  | 156 => some (.aload_n 0, 157, 0)
  | 157 => some (.getfield 51, 160, 0)
  | 160 => some (.iload_n 2, 161, 0)
  | 161 => some (.laload, 162, 0)
  | 162 => some (.lload 7, 164, 0)
  | 164 => some (.lcmp, 165, 0)
  | 165 => some (.ifCond .eq 5, 168, 170)
  | 168 => some (.iconst 0, 169, 0)
  | 169 => some (.ireturn, 170, 0)
  | 170 => some (.aload_n 0, 171, 0)
  | 171 => some (.getfield 51, 174, 0)
  | 174 => some (.iload_n 2, 175, 0)
  | 175 => some (.laload, 176, 0)
  | 176 => some (.aload_n 0, 177, 0)
  | 177 => some (.getfield 51, 180, 0)
  | 180 => some (.iload_n 1, 181, 0)
  | 181 => some (.laload, 182, 0)
  | 182 => some (.lsub, 183, 0)
  | 183 => some (.lstore 9, 185, 0)
  | 185 => some (.aload_n 0, 186, 0)
  | 186 => some (.getfield 47, 189, 0)
  | 189 => some (.iload_n 1, 190, 0)
  | 190 => some (.laload, 191, 0)
  | 191 => some (.lload 9, 193, 0)
  | 193 => some (.lmul, 194, 0)
  | 194 => some (.aload_n 0, 195, 0)
  | 195 => some (.getfield 47, 198, 0)
  | 198 => some (.iload_n 2, 199, 0)
  | 199 => some (.laload, 200, 0)
  | 200 => some (.aload_n 0, 201, 0)
  | 201 => some (.getfield 47, 204, 0)
  | 204 => some (.iload_n 1, 205, 0)
  | 205 => some (.laload, 206, 0)
  | 206 => some (.lsub, 207, 0)
  | 207 => some (.lload 7, 209, 0)
  | 209 => some (.aload_n 0, 210, 0)
  | 210 => some (.getfield 51, 213, 0)
  | 213 => some (.iload_n 1, 214, 0)
  | 214 => some (.laload, 215, 0)
  | 215 => some (.lsub, 216, 0)
  | 216 => some (.lmul, 217, 0)
  | 217 => some (.ladd, 218, 0)
  | 218 => some (.lstore 11, 220, 0)
  | 220 => some (.lload 9, 222, 0)
  | 222 => some (.lconst 0, 223, 0)
  | 223 => some (.lcmp, 224, 0)
  | 224 => some (.ifCond .le 32, 227, 256)
  | 227 => some (.lload 11, 229, 0)
  | 229 => some (.lload_n 3, 230, 0)
  | 230 => some (.lload 9, 232, 0)
  | 232 => some (.lmul, 233, 0)
  | 233 => some (.lcmp, 234, 0)
  | 234 => some (.ifCond .lt 18, 237, 252)
  | 237 => some (.lload 11, 239, 0)
  | 239 => some (.lload 5, 241, 0)
  | 241 => some (.lload 9, 243, 0)
  | 243 => some (.lmul, 244, 0)
  | 244 => some (.lcmp, 245, 0)
  | 245 => some (.ifCond .gt 7, 248, 252)
  | 248 => some (.iconst 1, 249, 0)
  | 249 => some (.goto 33, 252, 282)
  | 252 => some (.iconst 0, 253, 0)
  | 253 => some (.goto 29, 256, 282)
  | 256 => some (.lload 11, 258, 0)
  | 258 => some (.lload_n 3, 259, 0)
  | 259 => some (.lload 9, 261, 0)
  | 261 => some (.lmul, 262, 0)
  | 262 => some (.lcmp, 263, 0)
  | 263 => some (.ifCond .gt 18, 266, 281)
  | 266 => some (.lload 11, 268, 0)
  | 268 => some (.lload 5, 270, 0)
  | 270 => some (.lload 9, 272, 0)
  | 272 => some (.lmul, 273, 0)
  | 273 => some (.lcmp, 274, 0)
  | 274 => some (.ifCond .lt 7, 277, 281)
  | 277 => some (.iconst 1, 278, 0)
  | 278 => some (.goto 4, 281, 282)
  | 281 => some (.iconst 0, 282, 0)
  | 282 => some (.ireturn, 283, 0)
  | _ => none
theorem tv_9_meets : ∀ pc i, sy_lk 283 tc_9_meets pc = some i → sy_chk c_9_meets (some .boolean) true pc i = true := sy_lk_ok 283 tc_9_meets (by decide +kernel)
def Mk_9_meets (ct : Nat → Option (Bool × Nat × sy_Sp)) : sy_M := (sy_lk 283 tc_9_meets, ff_9, ki_9, kl_9, ct, true)
def rn_9_meets (ns : Nat) (ct : Nat → Option (Bool × Nat × sy_Sp)) (R : sy_R) (K : sy_K) : Nat → sy_K := sy_run ns (Mk_9_meets ct) [] R K
theorem rx_9_meets_0 {ns n ct R K s k z v1 v2 v3 v4 v5 v6 v7 v8 v9 v10 v11 v12} : rn_9_meets ns ct R K (n + 1) 0 [.inr (.inr (some z)), v1, v2, v3, v4, v5, v6, v7, v8, v9, v10, v11, v12] k s = (rn_9_meets ns ct R K n 1 [.inr (.inr (some z)), v1, v2, v3, v4, v5, v6, v7, v8, v9, v10, v11, v12] (.inr (.inr (some z)) :: k) s) := rfl
theorem rx_9_meets_1 {ns n ct R K s L k a} : rn_9_meets ns ct R K (n + 1) 1 L (.inr (.inr (some (some a))) :: k) s = (sy_ob a = some 9 ∧ rn_9_meets ns ct R K n 4 L (sy_fv s a 13 :: k) s) := rfl
theorem rx_9_meets_4 {ns n ct R K s k z v0 v2 v3 v4 v5 v6 v7 v8 v9 v10 v11 v12} : rn_9_meets ns ct R K (n + 1) 4 [v0, .inl (true, z), v2, v3, v4, v5, v6, v7, v8, v9, v10, v11, v12] k s = (rn_9_meets ns ct R K n 5 [v0, .inl (true, z), v2, v3, v4, v5, v6, v7, v8, v9, v10, v11, v12] (.inl (true, z) :: k) s) := rfl
theorem rx_9_meets_5 {ns n ct R K s L k a b z} : rn_9_meets ns ct R K (n + 1) 5 L (.inl (b, z) :: .inr (.inr (some (some a))) :: k) s = ((0 ≤ z ∧ z < (sy_ar a).2) ∧ sy_ob a = none ∧ (sy_ar a).1 = 1 ∧ rn_9_meets ns ct R K n 6 L (.inr (.inl (true, s a z.toNat)) :: k) s) := rfl
theorem rx_9_meets_6 {ns n ct R K s k z v1 v2 v3 v4 v5 v6 v7 v8 v9 v10 v11 v12} : rn_9_meets ns ct R K (n + 1) 6 [.inr (.inr (some z)), v1, v2, v3, v4, v5, v6, v7, v8, v9, v10, v11, v12] k s = (rn_9_meets ns ct R K n 7 [.inr (.inr (some z)), v1, v2, v3, v4, v5, v6, v7, v8, v9, v10, v11, v12] (.inr (.inr (some z)) :: k) s) := rfl
theorem rx_9_meets_7 {ns n ct R K s L k a} : rn_9_meets ns ct R K (n + 1) 7 L (.inr (.inr (some (some a))) :: k) s = (sy_ob a = some 9 ∧ rn_9_meets ns ct R K n 10 L (sy_fv s a 13 :: k) s) := rfl
theorem rx_9_meets_10 {ns n ct R K s k z v0 v1 v3 v4 v5 v6 v7 v8 v9 v10 v11 v12} : rn_9_meets ns ct R K (n + 1) 10 [v0, v1, .inl (true, z), v3, v4, v5, v6, v7, v8, v9, v10, v11, v12] k s = (rn_9_meets ns ct R K n 11 [v0, v1, .inl (true, z), v3, v4, v5, v6, v7, v8, v9, v10, v11, v12] (.inl (true, z) :: k) s) := rfl
theorem rx_9_meets_11 {ns n ct R K s L k a b z} : rn_9_meets ns ct R K (n + 1) 11 L (.inl (b, z) :: .inr (.inr (some (some a))) :: k) s = ((0 ≤ z ∧ z < (sy_ar a).2) ∧ sy_ob a = none ∧ (sy_ar a).1 = 1 ∧ rn_9_meets ns ct R K n 12 L (.inr (.inl (true, s a z.toNat)) :: k) s) := rfl
theorem rx_9_meets_12 {ns n ct R K s L k a b x y} : rn_9_meets ns ct R K (n + 1) 12 L (.inr (.inl (b, y)) :: .inr (.inl (a, x)) :: k) s = (sy_rl a x ∧ sy_rl b y ∧ rn_9_meets ns ct R K n 13 L (.inl (true, sy_cmp x y) :: k) s) := rfl
theorem rx_9_meets_13 {ns n ct R K s L k a x} : rn_9_meets ns ct R K (n + 1) 13 L (.inl (a, x) :: k) s = (sy_ri a x ∧ (¬ x = 0 → rn_9_meets ns ct R K n 107 L k s) ∧ (x = 0 → rn_9_meets ns ct R K n 16 L k s)) := rfl
theorem rx_9_meets_16 {ns n ct R K s k z v1 v2 v3 v4 v5 v6 v7 v8 v9 v10 v11 v12} : rn_9_meets ns ct R K (n + 1) 16 [.inr (.inr (some z)), v1, v2, v3, v4, v5, v6, v7, v8, v9, v10, v11, v12] k s = (rn_9_meets ns ct R K n 17 [.inr (.inr (some z)), v1, v2, v3, v4, v5, v6, v7, v8, v9, v10, v11, v12] (.inr (.inr (some z)) :: k) s) := rfl
theorem rx_9_meets_17 {ns n ct R K s L k a} : rn_9_meets ns ct R K (n + 1) 17 L (.inr (.inr (some (some a))) :: k) s = (sy_ob a = some 9 ∧ rn_9_meets ns ct R K n 20 L (sy_fv s a 13 :: k) s) := rfl
theorem rx_9_meets_20 {ns n ct R K s k z v0 v2 v3 v4 v5 v6 v7 v8 v9 v10 v11 v12} : rn_9_meets ns ct R K (n + 1) 20 [v0, .inl (true, z), v2, v3, v4, v5, v6, v7, v8, v9, v10, v11, v12] k s = (rn_9_meets ns ct R K n 21 [v0, .inl (true, z), v2, v3, v4, v5, v6, v7, v8, v9, v10, v11, v12] (.inl (true, z) :: k) s) := rfl
theorem rx_9_meets_21 {ns n ct R K s L k a b z} : rn_9_meets ns ct R K (n + 1) 21 L (.inl (b, z) :: .inr (.inr (some (some a))) :: k) s = ((0 ≤ z ∧ z < (sy_ar a).2) ∧ sy_ob a = none ∧ (sy_ar a).1 = 1 ∧ rn_9_meets ns ct R K n 22 L (.inr (.inl (true, s a z.toNat)) :: k) s) := rfl
theorem rx_9_meets_22 {ns n ct R K s k z v0 v1 v2 v3 v4 v5 v6 v8 v9 v10 v11 v12} : rn_9_meets ns ct R K (n + 1) 22 [v0, v1, v2, v3, v4, v5, v6, .inr (.inl (true, z)), v8, v9, v10, v11, v12] k s = (rn_9_meets ns ct R K n 24 [v0, v1, v2, v3, v4, v5, v6, .inr (.inl (true, z)), v8, v9, v10, v11, v12] (.inr (.inl (true, z)) :: k) s) := rfl
theorem rx_9_meets_24 {ns n ct R K s L k a b x y} : rn_9_meets ns ct R K (n + 1) 24 L (.inr (.inl (b, y)) :: .inr (.inl (a, x)) :: k) s = (sy_rl a x ∧ sy_rl b y ∧ rn_9_meets ns ct R K n 25 L (.inl (true, sy_cmp x y) :: k) s) := rfl
theorem rx_9_meets_25 {ns n ct R K s L k a x} : rn_9_meets ns ct R K (n + 1) 25 L (.inl (a, x) :: k) s = (sy_ri a x ∧ (¬ x = 0 → rn_9_meets ns ct R K n 105 L k s) ∧ (x = 0 → rn_9_meets ns ct R K n 28 L k s)) := rfl
theorem rx_9_meets_28 {ns n ct R K s k z v1 v2 v3 v4 v5 v6 v7 v8 v9 v10 v11 v12} : rn_9_meets ns ct R K (n + 1) 28 [.inr (.inr (some z)), v1, v2, v3, v4, v5, v6, v7, v8, v9, v10, v11, v12] k s = (rn_9_meets ns ct R K n 29 [.inr (.inr (some z)), v1, v2, v3, v4, v5, v6, v7, v8, v9, v10, v11, v12] (.inr (.inr (some z)) :: k) s) := rfl
theorem rx_9_meets_29 {ns n ct R K s L k a} : rn_9_meets ns ct R K (n + 1) 29 L (.inr (.inr (some (some a))) :: k) s = (sy_ob a = some 9 ∧ rn_9_meets ns ct R K n 32 L (sy_fv s a 12 :: k) s) := rfl
theorem rx_9_meets_32 {ns n ct R K s k z v0 v2 v3 v4 v5 v6 v7 v8 v9 v10 v11 v12} : rn_9_meets ns ct R K (n + 1) 32 [v0, .inl (true, z), v2, v3, v4, v5, v6, v7, v8, v9, v10, v11, v12] k s = (rn_9_meets ns ct R K n 33 [v0, .inl (true, z), v2, v3, v4, v5, v6, v7, v8, v9, v10, v11, v12] (.inl (true, z) :: k) s) := rfl
theorem rx_9_meets_33 {ns n ct R K s L k a b z} : rn_9_meets ns ct R K (n + 1) 33 L (.inl (b, z) :: .inr (.inr (some (some a))) :: k) s = ((0 ≤ z ∧ z < (sy_ar a).2) ∧ sy_ob a = none ∧ (sy_ar a).1 = 1 ∧ rn_9_meets ns ct R K n 34 L (.inr (.inl (true, s a z.toNat)) :: k) s) := rfl
theorem rx_9_meets_34 {ns n ct R K s k z v1 v2 v3 v4 v5 v6 v7 v8 v9 v10 v11 v12} : rn_9_meets ns ct R K (n + 1) 34 [.inr (.inr (some z)), v1, v2, v3, v4, v5, v6, v7, v8, v9, v10, v11, v12] k s = (rn_9_meets ns ct R K n 35 [.inr (.inr (some z)), v1, v2, v3, v4, v5, v6, v7, v8, v9, v10, v11, v12] (.inr (.inr (some z)) :: k) s) := rfl
theorem rx_9_meets_35 {ns n ct R K s L k a} : rn_9_meets ns ct R K (n + 1) 35 L (.inr (.inr (some (some a))) :: k) s = (sy_ob a = some 9 ∧ rn_9_meets ns ct R K n 38 L (sy_fv s a 12 :: k) s) := rfl
theorem rx_9_meets_38 {ns n ct R K s k z v0 v1 v3 v4 v5 v6 v7 v8 v9 v10 v11 v12} : rn_9_meets ns ct R K (n + 1) 38 [v0, v1, .inl (true, z), v3, v4, v5, v6, v7, v8, v9, v10, v11, v12] k s = (rn_9_meets ns ct R K n 39 [v0, v1, .inl (true, z), v3, v4, v5, v6, v7, v8, v9, v10, v11, v12] (.inl (true, z) :: k) s) := rfl
theorem rx_9_meets_39 {ns n ct R K s L k a b z} : rn_9_meets ns ct R K (n + 1) 39 L (.inl (b, z) :: .inr (.inr (some (some a))) :: k) s = ((0 ≤ z ∧ z < (sy_ar a).2) ∧ sy_ob a = none ∧ (sy_ar a).1 = 1 ∧ rn_9_meets ns ct R K n 40 L (.inr (.inl (true, s a z.toNat)) :: k) s) := rfl
theorem rx_9_meets_40 {ns n ct R K s L k a b x y} : rn_9_meets ns ct R K (n + 1) 40 L (.inr (.inl (b, y)) :: .inr (.inl (a, x)) :: k) s = (sy_rl a x ∧ sy_rl b y ∧ rn_9_meets ns ct R K n 41 L (.inl (true, sy_cmp x y) :: k) s) := rfl
theorem rx_9_meets_41 {ns n ct R K s L k a x} : rn_9_meets ns ct R K (n + 1) 41 L (.inl (a, x) :: k) s = (sy_ri a x ∧ (0 ≤ x → rn_9_meets ns ct R K n 53 L k s) ∧ (¬ 0 ≤ x → rn_9_meets ns ct R K n 44 L k s)) := rfl
theorem rx_9_meets_44 {ns n ct R K s k z v1 v2 v3 v4 v5 v6 v7 v8 v9 v10 v11 v12} : rn_9_meets ns ct R K (n + 1) 44 [.inr (.inr (some z)), v1, v2, v3, v4, v5, v6, v7, v8, v9, v10, v11, v12] k s = (rn_9_meets ns ct R K n 45 [.inr (.inr (some z)), v1, v2, v3, v4, v5, v6, v7, v8, v9, v10, v11, v12] (.inr (.inr (some z)) :: k) s) := rfl
theorem rx_9_meets_45 {ns n ct R K s L k a} : rn_9_meets ns ct R K (n + 1) 45 L (.inr (.inr (some (some a))) :: k) s = (sy_ob a = some 9 ∧ rn_9_meets ns ct R K n 48 L (sy_fv s a 12 :: k) s) := rfl
theorem rx_9_meets_48 {ns n ct R K s k z v0 v2 v3 v4 v5 v6 v7 v8 v9 v10 v11 v12} : rn_9_meets ns ct R K (n + 1) 48 [v0, .inl (true, z), v2, v3, v4, v5, v6, v7, v8, v9, v10, v11, v12] k s = (rn_9_meets ns ct R K n 49 [v0, .inl (true, z), v2, v3, v4, v5, v6, v7, v8, v9, v10, v11, v12] (.inl (true, z) :: k) s) := rfl
theorem rx_9_meets_49 {ns n ct R K s L k a b z} : rn_9_meets ns ct R K (n + 1) 49 L (.inl (b, z) :: .inr (.inr (some (some a))) :: k) s = ((0 ≤ z ∧ z < (sy_ar a).2) ∧ sy_ob a = none ∧ (sy_ar a).1 = 1 ∧ rn_9_meets ns ct R K n 50 L (.inr (.inl (true, s a z.toNat)) :: k) s) := rfl
theorem rx_9_meets_50 {ns n ct R K s L k} : rn_9_meets ns ct R K (n + 1) 50 L k s = (rn_9_meets ns ct R K n 59 L k s) := rfl
theorem rx_9_meets_53 {ns n ct R K s k z v1 v2 v3 v4 v5 v6 v7 v8 v9 v10 v11 v12} : rn_9_meets ns ct R K (n + 1) 53 [.inr (.inr (some z)), v1, v2, v3, v4, v5, v6, v7, v8, v9, v10, v11, v12] k s = (rn_9_meets ns ct R K n 54 [.inr (.inr (some z)), v1, v2, v3, v4, v5, v6, v7, v8, v9, v10, v11, v12] (.inr (.inr (some z)) :: k) s) := rfl
theorem rx_9_meets_54 {ns n ct R K s L k a} : rn_9_meets ns ct R K (n + 1) 54 L (.inr (.inr (some (some a))) :: k) s = (sy_ob a = some 9 ∧ rn_9_meets ns ct R K n 57 L (sy_fv s a 12 :: k) s) := rfl
theorem rx_9_meets_57 {ns n ct R K s k z v0 v1 v3 v4 v5 v6 v7 v8 v9 v10 v11 v12} : rn_9_meets ns ct R K (n + 1) 57 [v0, v1, .inl (true, z), v3, v4, v5, v6, v7, v8, v9, v10, v11, v12] k s = (rn_9_meets ns ct R K n 58 [v0, v1, .inl (true, z), v3, v4, v5, v6, v7, v8, v9, v10, v11, v12] (.inl (true, z) :: k) s) := rfl
theorem rx_9_meets_58 {ns n ct R K s L k a b z} : rn_9_meets ns ct R K (n + 1) 58 L (.inl (b, z) :: .inr (.inr (some (some a))) :: k) s = ((0 ≤ z ∧ z < (sy_ar a).2) ∧ sy_ob a = none ∧ (sy_ar a).1 = 1 ∧ rn_9_meets ns ct R K n 59 L (.inr (.inl (true, s a z.toNat)) :: k) s) := rfl
theorem rx_9_meets_59 {ns n ct R K s k z v0 v1 v2 v3 v4 v6 v7 v8 v9 v10 v11 v12} : rn_9_meets ns ct R K (n + 1) 59 [v0, v1, v2, v3, v4, .inr (.inl (true, z)), v6, v7, v8, v9, v10, v11, v12] k s = (rn_9_meets ns ct R K n 61 [v0, v1, v2, v3, v4, .inr (.inl (true, z)), v6, v7, v8, v9, v10, v11, v12] (.inr (.inl (true, z)) :: k) s) := rfl
theorem rx_9_meets_61 {ns n ct R K s L k a b x y} : rn_9_meets ns ct R K (n + 1) 61 L (.inr (.inl (b, y)) :: .inr (.inl (a, x)) :: k) s = (sy_rl a x ∧ sy_rl b y ∧ rn_9_meets ns ct R K n 62 L (.inl (true, sy_cmp x y) :: k) s) := rfl
theorem rx_9_meets_62 {ns n ct R K s L k a x} : rn_9_meets ns ct R K (n + 1) 62 L (.inl (a, x) :: k) s = (sy_ri a x ∧ (0 < x → rn_9_meets ns ct R K n 105 L k s) ∧ (¬ 0 < x → rn_9_meets ns ct R K n 65 L k s)) := rfl
theorem rx_9_meets_65 {ns n ct R K s k z v1 v2 v3 v4 v5 v6 v7 v8 v9 v10 v11 v12} : rn_9_meets ns ct R K (n + 1) 65 [.inr (.inr (some z)), v1, v2, v3, v4, v5, v6, v7, v8, v9, v10, v11, v12] k s = (rn_9_meets ns ct R K n 66 [.inr (.inr (some z)), v1, v2, v3, v4, v5, v6, v7, v8, v9, v10, v11, v12] (.inr (.inr (some z)) :: k) s) := rfl
theorem rx_9_meets_66 {ns n ct R K s L k a} : rn_9_meets ns ct R K (n + 1) 66 L (.inr (.inr (some (some a))) :: k) s = (sy_ob a = some 9 ∧ rn_9_meets ns ct R K n 69 L (sy_fv s a 12 :: k) s) := rfl
theorem rx_9_meets_69 {ns n ct R K s k z v0 v2 v3 v4 v5 v6 v7 v8 v9 v10 v11 v12} : rn_9_meets ns ct R K (n + 1) 69 [v0, .inl (true, z), v2, v3, v4, v5, v6, v7, v8, v9, v10, v11, v12] k s = (rn_9_meets ns ct R K n 70 [v0, .inl (true, z), v2, v3, v4, v5, v6, v7, v8, v9, v10, v11, v12] (.inl (true, z) :: k) s) := rfl
theorem rx_9_meets_70 {ns n ct R K s L k a b z} : rn_9_meets ns ct R K (n + 1) 70 L (.inl (b, z) :: .inr (.inr (some (some a))) :: k) s = ((0 ≤ z ∧ z < (sy_ar a).2) ∧ sy_ob a = none ∧ (sy_ar a).1 = 1 ∧ rn_9_meets ns ct R K n 71 L (.inr (.inl (true, s a z.toNat)) :: k) s) := rfl
theorem rx_9_meets_71 {ns n ct R K s k z v1 v2 v3 v4 v5 v6 v7 v8 v9 v10 v11 v12} : rn_9_meets ns ct R K (n + 1) 71 [.inr (.inr (some z)), v1, v2, v3, v4, v5, v6, v7, v8, v9, v10, v11, v12] k s = (rn_9_meets ns ct R K n 72 [.inr (.inr (some z)), v1, v2, v3, v4, v5, v6, v7, v8, v9, v10, v11, v12] (.inr (.inr (some z)) :: k) s) := rfl
theorem rx_9_meets_72 {ns n ct R K s L k a} : rn_9_meets ns ct R K (n + 1) 72 L (.inr (.inr (some (some a))) :: k) s = (sy_ob a = some 9 ∧ rn_9_meets ns ct R K n 75 L (sy_fv s a 12 :: k) s) := rfl
theorem rx_9_meets_75 {ns n ct R K s k z v0 v1 v3 v4 v5 v6 v7 v8 v9 v10 v11 v12} : rn_9_meets ns ct R K (n + 1) 75 [v0, v1, .inl (true, z), v3, v4, v5, v6, v7, v8, v9, v10, v11, v12] k s = (rn_9_meets ns ct R K n 76 [v0, v1, .inl (true, z), v3, v4, v5, v6, v7, v8, v9, v10, v11, v12] (.inl (true, z) :: k) s) := rfl
theorem rx_9_meets_76 {ns n ct R K s L k a b z} : rn_9_meets ns ct R K (n + 1) 76 L (.inl (b, z) :: .inr (.inr (some (some a))) :: k) s = ((0 ≤ z ∧ z < (sy_ar a).2) ∧ sy_ob a = none ∧ (sy_ar a).1 = 1 ∧ rn_9_meets ns ct R K n 77 L (.inr (.inl (true, s a z.toNat)) :: k) s) := rfl
theorem rx_9_meets_77 {ns n ct R K s L k a b x y} : rn_9_meets ns ct R K (n + 1) 77 L (.inr (.inl (b, y)) :: .inr (.inl (a, x)) :: k) s = (sy_rl a x ∧ sy_rl b y ∧ rn_9_meets ns ct R K n 78 L (.inl (true, sy_cmp x y) :: k) s) := rfl
theorem rx_9_meets_78 {ns n ct R K s L k a x} : rn_9_meets ns ct R K (n + 1) 78 L (.inl (a, x) :: k) s = (sy_ri a x ∧ (x ≤ 0 → rn_9_meets ns ct R K n 90 L k s) ∧ (¬ x ≤ 0 → rn_9_meets ns ct R K n 81 L k s)) := rfl
theorem rx_9_meets_81 {ns n ct R K s k z v1 v2 v3 v4 v5 v6 v7 v8 v9 v10 v11 v12} : rn_9_meets ns ct R K (n + 1) 81 [.inr (.inr (some z)), v1, v2, v3, v4, v5, v6, v7, v8, v9, v10, v11, v12] k s = (rn_9_meets ns ct R K n 82 [.inr (.inr (some z)), v1, v2, v3, v4, v5, v6, v7, v8, v9, v10, v11, v12] (.inr (.inr (some z)) :: k) s) := rfl
theorem rx_9_meets_82 {ns n ct R K s L k a} : rn_9_meets ns ct R K (n + 1) 82 L (.inr (.inr (some (some a))) :: k) s = (sy_ob a = some 9 ∧ rn_9_meets ns ct R K n 85 L (sy_fv s a 12 :: k) s) := rfl
theorem rx_9_meets_85 {ns n ct R K s k z v0 v2 v3 v4 v5 v6 v7 v8 v9 v10 v11 v12} : rn_9_meets ns ct R K (n + 1) 85 [v0, .inl (true, z), v2, v3, v4, v5, v6, v7, v8, v9, v10, v11, v12] k s = (rn_9_meets ns ct R K n 86 [v0, .inl (true, z), v2, v3, v4, v5, v6, v7, v8, v9, v10, v11, v12] (.inl (true, z) :: k) s) := rfl
theorem rx_9_meets_86 {ns n ct R K s L k a b z} : rn_9_meets ns ct R K (n + 1) 86 L (.inl (b, z) :: .inr (.inr (some (some a))) :: k) s = ((0 ≤ z ∧ z < (sy_ar a).2) ∧ sy_ob a = none ∧ (sy_ar a).1 = 1 ∧ rn_9_meets ns ct R K n 87 L (.inr (.inl (true, s a z.toNat)) :: k) s) := rfl
theorem rx_9_meets_87 {ns n ct R K s L k} : rn_9_meets ns ct R K (n + 1) 87 L k s = (rn_9_meets ns ct R K n 96 L k s) := rfl
theorem rx_9_meets_90 {ns n ct R K s k z v1 v2 v3 v4 v5 v6 v7 v8 v9 v10 v11 v12} : rn_9_meets ns ct R K (n + 1) 90 [.inr (.inr (some z)), v1, v2, v3, v4, v5, v6, v7, v8, v9, v10, v11, v12] k s = (rn_9_meets ns ct R K n 91 [.inr (.inr (some z)), v1, v2, v3, v4, v5, v6, v7, v8, v9, v10, v11, v12] (.inr (.inr (some z)) :: k) s) := rfl
theorem rx_9_meets_91 {ns n ct R K s L k a} : rn_9_meets ns ct R K (n + 1) 91 L (.inr (.inr (some (some a))) :: k) s = (sy_ob a = some 9 ∧ rn_9_meets ns ct R K n 94 L (sy_fv s a 12 :: k) s) := rfl
theorem rx_9_meets_94 {ns n ct R K s k z v0 v1 v3 v4 v5 v6 v7 v8 v9 v10 v11 v12} : rn_9_meets ns ct R K (n + 1) 94 [v0, v1, .inl (true, z), v3, v4, v5, v6, v7, v8, v9, v10, v11, v12] k s = (rn_9_meets ns ct R K n 95 [v0, v1, .inl (true, z), v3, v4, v5, v6, v7, v8, v9, v10, v11, v12] (.inl (true, z) :: k) s) := rfl
theorem rx_9_meets_95 {ns n ct R K s L k a b z} : rn_9_meets ns ct R K (n + 1) 95 L (.inl (b, z) :: .inr (.inr (some (some a))) :: k) s = ((0 ≤ z ∧ z < (sy_ar a).2) ∧ sy_ob a = none ∧ (sy_ar a).1 = 1 ∧ rn_9_meets ns ct R K n 96 L (.inr (.inl (true, s a z.toNat)) :: k) s) := rfl
theorem rx_9_meets_96 {ns n ct R K s k z v0 v1 v2 v4 v5 v6 v7 v8 v9 v10 v11 v12} : rn_9_meets ns ct R K (n + 1) 96 [v0, v1, v2, .inr (.inl (true, z)), v4, v5, v6, v7, v8, v9, v10, v11, v12] k s = (rn_9_meets ns ct R K n 97 [v0, v1, v2, .inr (.inl (true, z)), v4, v5, v6, v7, v8, v9, v10, v11, v12] (.inr (.inl (true, z)) :: k) s) := rfl
theorem rx_9_meets_97 {ns n ct R K s L k a b x y} : rn_9_meets ns ct R K (n + 1) 97 L (.inr (.inl (b, y)) :: .inr (.inl (a, x)) :: k) s = (sy_rl a x ∧ sy_rl b y ∧ rn_9_meets ns ct R K n 98 L (.inl (true, sy_cmp x y) :: k) s) := rfl
theorem rx_9_meets_98 {ns n ct R K s L k a x} : rn_9_meets ns ct R K (n + 1) 98 L (.inl (a, x) :: k) s = (sy_ri a x ∧ (x < 0 → rn_9_meets ns ct R K n 105 L k s) ∧ (¬ x < 0 → rn_9_meets ns ct R K n 101 L k s)) := rfl
theorem rx_9_meets_101 {ns n ct R K s L k} : rn_9_meets ns ct R K (n + 1) 101 L k s = (rn_9_meets ns ct R K n 102 L (.inl (true, 1) :: k) s) := rfl
theorem rx_9_meets_102 {ns n ct R K s L k} : rn_9_meets ns ct R K (n + 1) 102 L k s = (rn_9_meets ns ct R K n 106 L k s) := rfl
theorem rx_9_meets_105 {ns n ct R K s L k} : rn_9_meets ns ct R K (n + 1) 105 L k s = (rn_9_meets ns ct R K n 106 L (.inl (true, 0) :: k) s) := rfl
theorem rx_9_meets_106 {ns n ct R K s L a z} : rn_9_meets ns ct R K (n + 1) 106 L [.inl (a, z)] s = (sy_ri a z ∧ sy_b01 true z ∧ R (some (.inl (true, z))) s) := rfl
theorem rx_9_meets_107 {ns n ct R K s k z v1 v2 v3 v4 v5 v6 v7 v8 v9 v10 v11 v12} : rn_9_meets ns ct R K (n + 1) 107 [.inr (.inr (some z)), v1, v2, v3, v4, v5, v6, v7, v8, v9, v10, v11, v12] k s = (rn_9_meets ns ct R K n 108 [.inr (.inr (some z)), v1, v2, v3, v4, v5, v6, v7, v8, v9, v10, v11, v12] (.inr (.inr (some z)) :: k) s) := rfl
theorem rx_9_meets_108 {ns n ct R K s L k a} : rn_9_meets ns ct R K (n + 1) 108 L (.inr (.inr (some (some a))) :: k) s = (sy_ob a = some 9 ∧ rn_9_meets ns ct R K n 111 L (sy_fv s a 13 :: k) s) := rfl
theorem rx_9_meets_111 {ns n ct R K s k z v0 v2 v3 v4 v5 v6 v7 v8 v9 v10 v11 v12} : rn_9_meets ns ct R K (n + 1) 111 [v0, .inl (true, z), v2, v3, v4, v5, v6, v7, v8, v9, v10, v11, v12] k s = (rn_9_meets ns ct R K n 112 [v0, .inl (true, z), v2, v3, v4, v5, v6, v7, v8, v9, v10, v11, v12] (.inl (true, z) :: k) s) := rfl
theorem rx_9_meets_112 {ns n ct R K s L k a b z} : rn_9_meets ns ct R K (n + 1) 112 L (.inl (b, z) :: .inr (.inr (some (some a))) :: k) s = ((0 ≤ z ∧ z < (sy_ar a).2) ∧ sy_ob a = none ∧ (sy_ar a).1 = 1 ∧ rn_9_meets ns ct R K n 113 L (.inr (.inl (true, s a z.toNat)) :: k) s) := rfl
theorem rx_9_meets_113 {ns n ct R K s k z v0 v1 v2 v3 v4 v5 v6 v8 v9 v10 v11 v12} : rn_9_meets ns ct R K (n + 1) 113 [v0, v1, v2, v3, v4, v5, v6, .inr (.inl (true, z)), v8, v9, v10, v11, v12] k s = (rn_9_meets ns ct R K n 115 [v0, v1, v2, v3, v4, v5, v6, .inr (.inl (true, z)), v8, v9, v10, v11, v12] (.inr (.inl (true, z)) :: k) s) := rfl
theorem rx_9_meets_115 {ns n ct R K s L k a b x y} : rn_9_meets ns ct R K (n + 1) 115 L (.inr (.inl (b, y)) :: .inr (.inl (a, x)) :: k) s = (sy_rl a x ∧ sy_rl b y ∧ rn_9_meets ns ct R K n 116 L (.inl (true, sy_cmp x y) :: k) s) := rfl
theorem rx_9_meets_116 {ns n ct R K s L k a x} : rn_9_meets ns ct R K (n + 1) 116 L (.inl (a, x) :: k) s = (sy_ri a x ∧ (0 ≤ x → rn_9_meets ns ct R K n 123 L k s) ∧ (¬ 0 ≤ x → rn_9_meets ns ct R K n 119 L k s)) := rfl
theorem rx_9_meets_119 {ns n ct R K s L k} : rn_9_meets ns ct R K (n + 1) 119 L k s = (rn_9_meets ns ct R K n 120 L (.inl (true, 1) :: k) s) := rfl
theorem rx_9_meets_120 {ns n ct R K s L k} : rn_9_meets ns ct R K (n + 1) 120 L k s = (rn_9_meets ns ct R K n 124 L k s) := rfl
theorem rx_9_meets_123 {ns n ct R K s L k} : rn_9_meets ns ct R K (n + 1) 123 L k s = (rn_9_meets ns ct R K n 124 L (.inl (true, 0) :: k) s) := rfl
theorem rx_9_meets_124 {ns n ct R K s k z v1 v2 v3 v4 v5 v6 v7 v8 v9 v10 v11 v12} : rn_9_meets ns ct R K (n + 1) 124 [.inr (.inr (some z)), v1, v2, v3, v4, v5, v6, v7, v8, v9, v10, v11, v12] k s = (rn_9_meets ns ct R K n 125 [.inr (.inr (some z)), v1, v2, v3, v4, v5, v6, v7, v8, v9, v10, v11, v12] (.inr (.inr (some z)) :: k) s) := rfl
theorem rx_9_meets_125 {ns n ct R K s L k a} : rn_9_meets ns ct R K (n + 1) 125 L (.inr (.inr (some (some a))) :: k) s = (sy_ob a = some 9 ∧ rn_9_meets ns ct R K n 128 L (sy_fv s a 13 :: k) s) := rfl
theorem rx_9_meets_128 {ns n ct R K s k z v0 v1 v3 v4 v5 v6 v7 v8 v9 v10 v11 v12} : rn_9_meets ns ct R K (n + 1) 128 [v0, v1, .inl (true, z), v3, v4, v5, v6, v7, v8, v9, v10, v11, v12] k s = (rn_9_meets ns ct R K n 129 [v0, v1, .inl (true, z), v3, v4, v5, v6, v7, v8, v9, v10, v11, v12] (.inl (true, z) :: k) s) := rfl
theorem rx_9_meets_129 {ns n ct R K s L k a b z} : rn_9_meets ns ct R K (n + 1) 129 L (.inl (b, z) :: .inr (.inr (some (some a))) :: k) s = ((0 ≤ z ∧ z < (sy_ar a).2) ∧ sy_ob a = none ∧ (sy_ar a).1 = 1 ∧ rn_9_meets ns ct R K n 130 L (.inr (.inl (true, s a z.toNat)) :: k) s) := rfl
theorem rx_9_meets_130 {ns n ct R K s k z v0 v1 v2 v3 v4 v5 v6 v8 v9 v10 v11 v12} : rn_9_meets ns ct R K (n + 1) 130 [v0, v1, v2, v3, v4, v5, v6, .inr (.inl (true, z)), v8, v9, v10, v11, v12] k s = (rn_9_meets ns ct R K n 132 [v0, v1, v2, v3, v4, v5, v6, .inr (.inl (true, z)), v8, v9, v10, v11, v12] (.inr (.inl (true, z)) :: k) s) := rfl
theorem rx_9_meets_132 {ns n ct R K s L k a b x y} : rn_9_meets ns ct R K (n + 1) 132 L (.inr (.inl (b, y)) :: .inr (.inl (a, x)) :: k) s = (sy_rl a x ∧ sy_rl b y ∧ rn_9_meets ns ct R K n 133 L (.inl (true, sy_cmp x y) :: k) s) := rfl
theorem rx_9_meets_133 {ns n ct R K s L k a x} : rn_9_meets ns ct R K (n + 1) 133 L (.inl (a, x) :: k) s = (sy_ri a x ∧ (0 ≤ x → rn_9_meets ns ct R K n 140 L k s) ∧ (¬ 0 ≤ x → rn_9_meets ns ct R K n 136 L k s)) := rfl
theorem rx_9_meets_136 {ns n ct R K s L k} : rn_9_meets ns ct R K (n + 1) 136 L k s = (rn_9_meets ns ct R K n 137 L (.inl (true, 1) :: k) s) := rfl
theorem rx_9_meets_137 {ns n ct R K s L k} : rn_9_meets ns ct R K (n + 1) 137 L k s = (rn_9_meets ns ct R K n 141 L k s) := rfl
theorem rx_9_meets_140 {ns n ct R K s L k} : rn_9_meets ns ct R K (n + 1) 140 L k s = (rn_9_meets ns ct R K n 141 L (.inl (true, 0) :: k) s) := rfl
theorem rx_9_meets_141 {ns n ct R K s L k a b x y} : rn_9_meets ns ct R K (n + 1) 141 L (.inl (b, y) :: .inl (a, x) :: k) s = (sy_ri a x ∧ sy_ri b y ∧ (¬ x = y → rn_9_meets ns ct R K n 170 L k s) ∧ (x = y → rn_9_meets ns ct R K n 144 L k s)) := rfl
theorem rx_9_meets_144 {ns n ct R K s k z v1 v2 v3 v4 v5 v6 v7 v8 v9 v10 v11 v12} : rn_9_meets ns ct R K (n + 1) 144 [.inr (.inr (some z)), v1, v2, v3, v4, v5, v6, v7, v8, v9, v10, v11, v12] k s = (rn_9_meets ns ct R K n 145 [.inr (.inr (some z)), v1, v2, v3, v4, v5, v6, v7, v8, v9, v10, v11, v12] (.inr (.inr (some z)) :: k) s) := rfl
theorem rx_9_meets_145 {ns n ct R K s L k a} : rn_9_meets ns ct R K (n + 1) 145 L (.inr (.inr (some (some a))) :: k) s = (sy_ob a = some 9 ∧ rn_9_meets ns ct R K n 148 L (sy_fv s a 13 :: k) s) := rfl
theorem rx_9_meets_148 {ns n ct R K s k z v0 v2 v3 v4 v5 v6 v7 v8 v9 v10 v11 v12} : rn_9_meets ns ct R K (n + 1) 148 [v0, .inl (true, z), v2, v3, v4, v5, v6, v7, v8, v9, v10, v11, v12] k s = (rn_9_meets ns ct R K n 149 [v0, .inl (true, z), v2, v3, v4, v5, v6, v7, v8, v9, v10, v11, v12] (.inl (true, z) :: k) s) := rfl
theorem rx_9_meets_149 {ns n ct R K s L k a b z} : rn_9_meets ns ct R K (n + 1) 149 L (.inl (b, z) :: .inr (.inr (some (some a))) :: k) s = ((0 ≤ z ∧ z < (sy_ar a).2) ∧ sy_ob a = none ∧ (sy_ar a).1 = 1 ∧ rn_9_meets ns ct R K n 150 L (.inr (.inl (true, s a z.toNat)) :: k) s) := rfl
theorem rx_9_meets_150 {ns n ct R K s k z v0 v1 v2 v3 v4 v5 v6 v8 v9 v10 v11 v12} : rn_9_meets ns ct R K (n + 1) 150 [v0, v1, v2, v3, v4, v5, v6, .inr (.inl (true, z)), v8, v9, v10, v11, v12] k s = (rn_9_meets ns ct R K n 152 [v0, v1, v2, v3, v4, v5, v6, .inr (.inl (true, z)), v8, v9, v10, v11, v12] (.inr (.inl (true, z)) :: k) s) := rfl
theorem rx_9_meets_152 {ns n ct R K s L k a b x y} : rn_9_meets ns ct R K (n + 1) 152 L (.inr (.inl (b, y)) :: .inr (.inl (a, x)) :: k) s = (sy_rl a x ∧ sy_rl b y ∧ rn_9_meets ns ct R K n 153 L (.inl (true, sy_cmp x y) :: k) s) := rfl
theorem rx_9_meets_153 {ns n ct R K s L k a x} : rn_9_meets ns ct R K (n + 1) 153 L (.inl (a, x) :: k) s = (sy_ri a x ∧ (x = 0 → rn_9_meets ns ct R K n 170 L k s) ∧ (¬ x = 0 → rn_9_meets ns ct R K n 156 L k s)) := rfl
theorem rx_9_meets_156 {ns n ct R K s k z v1 v2 v3 v4 v5 v6 v7 v8 v9 v10 v11 v12} : rn_9_meets ns ct R K (n + 1) 156 [.inr (.inr (some z)), v1, v2, v3, v4, v5, v6, v7, v8, v9, v10, v11, v12] k s = (rn_9_meets ns ct R K n 157 [.inr (.inr (some z)), v1, v2, v3, v4, v5, v6, v7, v8, v9, v10, v11, v12] (.inr (.inr (some z)) :: k) s) := rfl
theorem rx_9_meets_157 {ns n ct R K s L k a} : rn_9_meets ns ct R K (n + 1) 157 L (.inr (.inr (some (some a))) :: k) s = (sy_ob a = some 9 ∧ rn_9_meets ns ct R K n 160 L (sy_fv s a 13 :: k) s) := rfl
theorem rx_9_meets_160 {ns n ct R K s k z v0 v1 v3 v4 v5 v6 v7 v8 v9 v10 v11 v12} : rn_9_meets ns ct R K (n + 1) 160 [v0, v1, .inl (true, z), v3, v4, v5, v6, v7, v8, v9, v10, v11, v12] k s = (rn_9_meets ns ct R K n 161 [v0, v1, .inl (true, z), v3, v4, v5, v6, v7, v8, v9, v10, v11, v12] (.inl (true, z) :: k) s) := rfl
theorem rx_9_meets_161 {ns n ct R K s L k a b z} : rn_9_meets ns ct R K (n + 1) 161 L (.inl (b, z) :: .inr (.inr (some (some a))) :: k) s = ((0 ≤ z ∧ z < (sy_ar a).2) ∧ sy_ob a = none ∧ (sy_ar a).1 = 1 ∧ rn_9_meets ns ct R K n 162 L (.inr (.inl (true, s a z.toNat)) :: k) s) := rfl
theorem rx_9_meets_162 {ns n ct R K s k z v0 v1 v2 v3 v4 v5 v6 v8 v9 v10 v11 v12} : rn_9_meets ns ct R K (n + 1) 162 [v0, v1, v2, v3, v4, v5, v6, .inr (.inl (true, z)), v8, v9, v10, v11, v12] k s = (rn_9_meets ns ct R K n 164 [v0, v1, v2, v3, v4, v5, v6, .inr (.inl (true, z)), v8, v9, v10, v11, v12] (.inr (.inl (true, z)) :: k) s) := rfl
theorem rx_9_meets_164 {ns n ct R K s L k a b x y} : rn_9_meets ns ct R K (n + 1) 164 L (.inr (.inl (b, y)) :: .inr (.inl (a, x)) :: k) s = (sy_rl a x ∧ sy_rl b y ∧ rn_9_meets ns ct R K n 165 L (.inl (true, sy_cmp x y) :: k) s) := rfl
theorem rx_9_meets_165 {ns n ct R K s L k a x} : rn_9_meets ns ct R K (n + 1) 165 L (.inl (a, x) :: k) s = (sy_ri a x ∧ (x = 0 → rn_9_meets ns ct R K n 170 L k s) ∧ (¬ x = 0 → rn_9_meets ns ct R K n 168 L k s)) := rfl
theorem rx_9_meets_168 {ns n ct R K s L k} : rn_9_meets ns ct R K (n + 1) 168 L k s = (rn_9_meets ns ct R K n 169 L (.inl (true, 0) :: k) s) := rfl
theorem rx_9_meets_169 {ns n ct R K s L a z} : rn_9_meets ns ct R K (n + 1) 169 L [.inl (a, z)] s = (sy_ri a z ∧ sy_b01 true z ∧ R (some (.inl (true, z))) s) := rfl
theorem rx_9_meets_170 {ns n ct R K s k z v1 v2 v3 v4 v5 v6 v7 v8 v9 v10 v11 v12} : rn_9_meets ns ct R K (n + 1) 170 [.inr (.inr (some z)), v1, v2, v3, v4, v5, v6, v7, v8, v9, v10, v11, v12] k s = (rn_9_meets ns ct R K n 171 [.inr (.inr (some z)), v1, v2, v3, v4, v5, v6, v7, v8, v9, v10, v11, v12] (.inr (.inr (some z)) :: k) s) := rfl
theorem rx_9_meets_171 {ns n ct R K s L k a} : rn_9_meets ns ct R K (n + 1) 171 L (.inr (.inr (some (some a))) :: k) s = (sy_ob a = some 9 ∧ rn_9_meets ns ct R K n 174 L (sy_fv s a 13 :: k) s) := rfl
theorem rx_9_meets_174 {ns n ct R K s k z v0 v1 v3 v4 v5 v6 v7 v8 v9 v10 v11 v12} : rn_9_meets ns ct R K (n + 1) 174 [v0, v1, .inl (true, z), v3, v4, v5, v6, v7, v8, v9, v10, v11, v12] k s = (rn_9_meets ns ct R K n 175 [v0, v1, .inl (true, z), v3, v4, v5, v6, v7, v8, v9, v10, v11, v12] (.inl (true, z) :: k) s) := rfl
theorem rx_9_meets_175 {ns n ct R K s L k a b z} : rn_9_meets ns ct R K (n + 1) 175 L (.inl (b, z) :: .inr (.inr (some (some a))) :: k) s = ((0 ≤ z ∧ z < (sy_ar a).2) ∧ sy_ob a = none ∧ (sy_ar a).1 = 1 ∧ rn_9_meets ns ct R K n 176 L (.inr (.inl (true, s a z.toNat)) :: k) s) := rfl
theorem rx_9_meets_176 {ns n ct R K s k z v1 v2 v3 v4 v5 v6 v7 v8 v9 v10 v11 v12} : rn_9_meets ns ct R K (n + 1) 176 [.inr (.inr (some z)), v1, v2, v3, v4, v5, v6, v7, v8, v9, v10, v11, v12] k s = (rn_9_meets ns ct R K n 177 [.inr (.inr (some z)), v1, v2, v3, v4, v5, v6, v7, v8, v9, v10, v11, v12] (.inr (.inr (some z)) :: k) s) := rfl
theorem rx_9_meets_177 {ns n ct R K s L k a} : rn_9_meets ns ct R K (n + 1) 177 L (.inr (.inr (some (some a))) :: k) s = (sy_ob a = some 9 ∧ rn_9_meets ns ct R K n 180 L (sy_fv s a 13 :: k) s) := rfl
theorem rx_9_meets_180 {ns n ct R K s k z v0 v2 v3 v4 v5 v6 v7 v8 v9 v10 v11 v12} : rn_9_meets ns ct R K (n + 1) 180 [v0, .inl (true, z), v2, v3, v4, v5, v6, v7, v8, v9, v10, v11, v12] k s = (rn_9_meets ns ct R K n 181 [v0, .inl (true, z), v2, v3, v4, v5, v6, v7, v8, v9, v10, v11, v12] (.inl (true, z) :: k) s) := rfl
theorem rx_9_meets_181 {ns n ct R K s L k a b z} : rn_9_meets ns ct R K (n + 1) 181 L (.inl (b, z) :: .inr (.inr (some (some a))) :: k) s = ((0 ≤ z ∧ z < (sy_ar a).2) ∧ sy_ob a = none ∧ (sy_ar a).1 = 1 ∧ rn_9_meets ns ct R K n 182 L (.inr (.inl (true, s a z.toNat)) :: k) s) := rfl
theorem rx_9_meets_182 {ns n ct R K s L k a b x y} : rn_9_meets ns ct R K (n + 1) 182 L (.inr (.inl (b, y)) :: .inr (.inl (a, x)) :: k) s = (rn_9_meets ns ct R K n 183 L (.inr (.inl (false, x - y)) :: k) s) := rfl
theorem rx_9_meets_183 {ns n ct R K s L k b z} : rn_9_meets ns ct R K (n + 1) 183 L (.inr (.inl (b, z)) :: k) s = (sy_rl b z ∧ 10 < L.length ∧ rn_9_meets ns ct R K n 185 (sy_gone (sy_sto L 9 (.inr (.inl (true, z)))) 10) k s) := rfl
theorem rx_9_meets_185 {ns n ct R K s k z v1 v2 v3 v4 v5 v6 v7 v8 v9 v10 v11 v12} : rn_9_meets ns ct R K (n + 1) 185 [.inr (.inr (some z)), v1, v2, v3, v4, v5, v6, v7, v8, v9, v10, v11, v12] k s = (rn_9_meets ns ct R K n 186 [.inr (.inr (some z)), v1, v2, v3, v4, v5, v6, v7, v8, v9, v10, v11, v12] (.inr (.inr (some z)) :: k) s) := rfl
theorem rx_9_meets_186 {ns n ct R K s L k a} : rn_9_meets ns ct R K (n + 1) 186 L (.inr (.inr (some (some a))) :: k) s = (sy_ob a = some 9 ∧ rn_9_meets ns ct R K n 189 L (sy_fv s a 12 :: k) s) := rfl
theorem rx_9_meets_189 {ns n ct R K s k z v0 v2 v3 v4 v5 v6 v7 v8 v9 v10 v11 v12} : rn_9_meets ns ct R K (n + 1) 189 [v0, .inl (true, z), v2, v3, v4, v5, v6, v7, v8, v9, v10, v11, v12] k s = (rn_9_meets ns ct R K n 190 [v0, .inl (true, z), v2, v3, v4, v5, v6, v7, v8, v9, v10, v11, v12] (.inl (true, z) :: k) s) := rfl
theorem rx_9_meets_190 {ns n ct R K s L k a b z} : rn_9_meets ns ct R K (n + 1) 190 L (.inl (b, z) :: .inr (.inr (some (some a))) :: k) s = ((0 ≤ z ∧ z < (sy_ar a).2) ∧ sy_ob a = none ∧ (sy_ar a).1 = 1 ∧ rn_9_meets ns ct R K n 191 L (.inr (.inl (true, s a z.toNat)) :: k) s) := rfl
theorem rx_9_meets_191 {ns n ct R K s k z v0 v1 v2 v3 v4 v5 v6 v7 v8 v10 v11 v12} : rn_9_meets ns ct R K (n + 1) 191 [v0, v1, v2, v3, v4, v5, v6, v7, v8, .inr (.inl (true, z)), v10, v11, v12] k s = (rn_9_meets ns ct R K n 193 [v0, v1, v2, v3, v4, v5, v6, v7, v8, .inr (.inl (true, z)), v10, v11, v12] (.inr (.inl (true, z)) :: k) s) := rfl
theorem rx_9_meets_193 {ns n ct R K s L k a b x y} : rn_9_meets ns ct R K (n + 1) 193 L (.inr (.inl (b, y)) :: .inr (.inl (a, x)) :: k) s = (rn_9_meets ns ct R K n 194 L (.inr (.inl (false, x * y)) :: k) s) := rfl
theorem rx_9_meets_194 {ns n ct R K s k z v1 v2 v3 v4 v5 v6 v7 v8 v9 v10 v11 v12} : rn_9_meets ns ct R K (n + 1) 194 [.inr (.inr (some z)), v1, v2, v3, v4, v5, v6, v7, v8, v9, v10, v11, v12] k s = (rn_9_meets ns ct R K n 195 [.inr (.inr (some z)), v1, v2, v3, v4, v5, v6, v7, v8, v9, v10, v11, v12] (.inr (.inr (some z)) :: k) s) := rfl
theorem rx_9_meets_195 {ns n ct R K s L k a} : rn_9_meets ns ct R K (n + 1) 195 L (.inr (.inr (some (some a))) :: k) s = (sy_ob a = some 9 ∧ rn_9_meets ns ct R K n 198 L (sy_fv s a 12 :: k) s) := rfl
theorem rx_9_meets_198 {ns n ct R K s k z v0 v1 v3 v4 v5 v6 v7 v8 v9 v10 v11 v12} : rn_9_meets ns ct R K (n + 1) 198 [v0, v1, .inl (true, z), v3, v4, v5, v6, v7, v8, v9, v10, v11, v12] k s = (rn_9_meets ns ct R K n 199 [v0, v1, .inl (true, z), v3, v4, v5, v6, v7, v8, v9, v10, v11, v12] (.inl (true, z) :: k) s) := rfl
theorem rx_9_meets_199 {ns n ct R K s L k a b z} : rn_9_meets ns ct R K (n + 1) 199 L (.inl (b, z) :: .inr (.inr (some (some a))) :: k) s = ((0 ≤ z ∧ z < (sy_ar a).2) ∧ sy_ob a = none ∧ (sy_ar a).1 = 1 ∧ rn_9_meets ns ct R K n 200 L (.inr (.inl (true, s a z.toNat)) :: k) s) := rfl
theorem rx_9_meets_200 {ns n ct R K s k z v1 v2 v3 v4 v5 v6 v7 v8 v9 v10 v11 v12} : rn_9_meets ns ct R K (n + 1) 200 [.inr (.inr (some z)), v1, v2, v3, v4, v5, v6, v7, v8, v9, v10, v11, v12] k s = (rn_9_meets ns ct R K n 201 [.inr (.inr (some z)), v1, v2, v3, v4, v5, v6, v7, v8, v9, v10, v11, v12] (.inr (.inr (some z)) :: k) s) := rfl
theorem rx_9_meets_201 {ns n ct R K s L k a} : rn_9_meets ns ct R K (n + 1) 201 L (.inr (.inr (some (some a))) :: k) s = (sy_ob a = some 9 ∧ rn_9_meets ns ct R K n 204 L (sy_fv s a 12 :: k) s) := rfl
theorem rx_9_meets_204 {ns n ct R K s k z v0 v2 v3 v4 v5 v6 v7 v8 v9 v10 v11 v12} : rn_9_meets ns ct R K (n + 1) 204 [v0, .inl (true, z), v2, v3, v4, v5, v6, v7, v8, v9, v10, v11, v12] k s = (rn_9_meets ns ct R K n 205 [v0, .inl (true, z), v2, v3, v4, v5, v6, v7, v8, v9, v10, v11, v12] (.inl (true, z) :: k) s) := rfl
theorem rx_9_meets_205 {ns n ct R K s L k a b z} : rn_9_meets ns ct R K (n + 1) 205 L (.inl (b, z) :: .inr (.inr (some (some a))) :: k) s = ((0 ≤ z ∧ z < (sy_ar a).2) ∧ sy_ob a = none ∧ (sy_ar a).1 = 1 ∧ rn_9_meets ns ct R K n 206 L (.inr (.inl (true, s a z.toNat)) :: k) s) := rfl
theorem rx_9_meets_206 {ns n ct R K s L k a b x y} : rn_9_meets ns ct R K (n + 1) 206 L (.inr (.inl (b, y)) :: .inr (.inl (a, x)) :: k) s = (rn_9_meets ns ct R K n 207 L (.inr (.inl (false, x - y)) :: k) s) := rfl
theorem rx_9_meets_207 {ns n ct R K s k z v0 v1 v2 v3 v4 v5 v6 v8 v9 v10 v11 v12} : rn_9_meets ns ct R K (n + 1) 207 [v0, v1, v2, v3, v4, v5, v6, .inr (.inl (true, z)), v8, v9, v10, v11, v12] k s = (rn_9_meets ns ct R K n 209 [v0, v1, v2, v3, v4, v5, v6, .inr (.inl (true, z)), v8, v9, v10, v11, v12] (.inr (.inl (true, z)) :: k) s) := rfl
theorem rx_9_meets_209 {ns n ct R K s k z v1 v2 v3 v4 v5 v6 v7 v8 v9 v10 v11 v12} : rn_9_meets ns ct R K (n + 1) 209 [.inr (.inr (some z)), v1, v2, v3, v4, v5, v6, v7, v8, v9, v10, v11, v12] k s = (rn_9_meets ns ct R K n 210 [.inr (.inr (some z)), v1, v2, v3, v4, v5, v6, v7, v8, v9, v10, v11, v12] (.inr (.inr (some z)) :: k) s) := rfl
theorem rx_9_meets_210 {ns n ct R K s L k a} : rn_9_meets ns ct R K (n + 1) 210 L (.inr (.inr (some (some a))) :: k) s = (sy_ob a = some 9 ∧ rn_9_meets ns ct R K n 213 L (sy_fv s a 13 :: k) s) := rfl
theorem rx_9_meets_213 {ns n ct R K s k z v0 v2 v3 v4 v5 v6 v7 v8 v9 v10 v11 v12} : rn_9_meets ns ct R K (n + 1) 213 [v0, .inl (true, z), v2, v3, v4, v5, v6, v7, v8, v9, v10, v11, v12] k s = (rn_9_meets ns ct R K n 214 [v0, .inl (true, z), v2, v3, v4, v5, v6, v7, v8, v9, v10, v11, v12] (.inl (true, z) :: k) s) := rfl
theorem rx_9_meets_214 {ns n ct R K s L k a b z} : rn_9_meets ns ct R K (n + 1) 214 L (.inl (b, z) :: .inr (.inr (some (some a))) :: k) s = ((0 ≤ z ∧ z < (sy_ar a).2) ∧ sy_ob a = none ∧ (sy_ar a).1 = 1 ∧ rn_9_meets ns ct R K n 215 L (.inr (.inl (true, s a z.toNat)) :: k) s) := rfl
theorem rx_9_meets_215 {ns n ct R K s L k a b x y} : rn_9_meets ns ct R K (n + 1) 215 L (.inr (.inl (b, y)) :: .inr (.inl (a, x)) :: k) s = (rn_9_meets ns ct R K n 216 L (.inr (.inl (false, x - y)) :: k) s) := rfl
theorem rx_9_meets_216 {ns n ct R K s L k a b x y} : rn_9_meets ns ct R K (n + 1) 216 L (.inr (.inl (b, y)) :: .inr (.inl (a, x)) :: k) s = (rn_9_meets ns ct R K n 217 L (.inr (.inl (false, x * y)) :: k) s) := rfl
theorem rx_9_meets_217 {ns n ct R K s L k a b x y} : rn_9_meets ns ct R K (n + 1) 217 L (.inr (.inl (b, y)) :: .inr (.inl (a, x)) :: k) s = (rn_9_meets ns ct R K n 218 L (.inr (.inl (false, x + y)) :: k) s) := rfl
theorem rx_9_meets_218 {ns n ct R K s L k b z} : rn_9_meets ns ct R K (n + 1) 218 L (.inr (.inl (b, z)) :: k) s = (sy_rl b z ∧ 12 < L.length ∧ rn_9_meets ns ct R K n 220 (sy_gone (sy_sto L 11 (.inr (.inl (true, z)))) 12) k s) := rfl
theorem rx_9_meets_220 {ns n ct R K s k z v0 v1 v2 v3 v4 v5 v6 v7 v8 v10 v11 v12} : rn_9_meets ns ct R K (n + 1) 220 [v0, v1, v2, v3, v4, v5, v6, v7, v8, .inr (.inl (true, z)), v10, v11, v12] k s = (rn_9_meets ns ct R K n 222 [v0, v1, v2, v3, v4, v5, v6, v7, v8, .inr (.inl (true, z)), v10, v11, v12] (.inr (.inl (true, z)) :: k) s) := rfl
theorem rx_9_meets_222 {ns n ct R K s L k} : rn_9_meets ns ct R K (n + 1) 222 L k s = (rn_9_meets ns ct R K n 223 L (.inr (.inl (true, 0)) :: k) s) := rfl
theorem rx_9_meets_223 {ns n ct R K s L k a b x y} : rn_9_meets ns ct R K (n + 1) 223 L (.inr (.inl (b, y)) :: .inr (.inl (a, x)) :: k) s = (sy_rl a x ∧ sy_rl b y ∧ rn_9_meets ns ct R K n 224 L (.inl (true, sy_cmp x y) :: k) s) := rfl
theorem rx_9_meets_224 {ns n ct R K s L k a x} : rn_9_meets ns ct R K (n + 1) 224 L (.inl (a, x) :: k) s = (sy_ri a x ∧ (x ≤ 0 → rn_9_meets ns ct R K n 256 L k s) ∧ (¬ x ≤ 0 → rn_9_meets ns ct R K n 227 L k s)) := rfl
theorem rx_9_meets_227 {ns n ct R K s k z v0 v1 v2 v3 v4 v5 v6 v7 v8 v9 v10 v12} : rn_9_meets ns ct R K (n + 1) 227 [v0, v1, v2, v3, v4, v5, v6, v7, v8, v9, v10, .inr (.inl (true, z)), v12] k s = (rn_9_meets ns ct R K n 229 [v0, v1, v2, v3, v4, v5, v6, v7, v8, v9, v10, .inr (.inl (true, z)), v12] (.inr (.inl (true, z)) :: k) s) := rfl
theorem rx_9_meets_229 {ns n ct R K s k z v0 v1 v2 v4 v5 v6 v7 v8 v9 v10 v11 v12} : rn_9_meets ns ct R K (n + 1) 229 [v0, v1, v2, .inr (.inl (true, z)), v4, v5, v6, v7, v8, v9, v10, v11, v12] k s = (rn_9_meets ns ct R K n 230 [v0, v1, v2, .inr (.inl (true, z)), v4, v5, v6, v7, v8, v9, v10, v11, v12] (.inr (.inl (true, z)) :: k) s) := rfl
theorem rx_9_meets_230 {ns n ct R K s k z v0 v1 v2 v3 v4 v5 v6 v7 v8 v10 v11 v12} : rn_9_meets ns ct R K (n + 1) 230 [v0, v1, v2, v3, v4, v5, v6, v7, v8, .inr (.inl (true, z)), v10, v11, v12] k s = (rn_9_meets ns ct R K n 232 [v0, v1, v2, v3, v4, v5, v6, v7, v8, .inr (.inl (true, z)), v10, v11, v12] (.inr (.inl (true, z)) :: k) s) := rfl
theorem rx_9_meets_232 {ns n ct R K s L k a b x y} : rn_9_meets ns ct R K (n + 1) 232 L (.inr (.inl (b, y)) :: .inr (.inl (a, x)) :: k) s = (rn_9_meets ns ct R K n 233 L (.inr (.inl (false, x * y)) :: k) s) := rfl
theorem rx_9_meets_233 {ns n ct R K s L k a b x y} : rn_9_meets ns ct R K (n + 1) 233 L (.inr (.inl (b, y)) :: .inr (.inl (a, x)) :: k) s = (sy_rl a x ∧ sy_rl b y ∧ rn_9_meets ns ct R K n 234 L (.inl (true, sy_cmp x y) :: k) s) := rfl
theorem rx_9_meets_234 {ns n ct R K s L k a x} : rn_9_meets ns ct R K (n + 1) 234 L (.inl (a, x) :: k) s = (sy_ri a x ∧ (x < 0 → rn_9_meets ns ct R K n 252 L k s) ∧ (¬ x < 0 → rn_9_meets ns ct R K n 237 L k s)) := rfl
theorem rx_9_meets_237 {ns n ct R K s k z v0 v1 v2 v3 v4 v5 v6 v7 v8 v9 v10 v12} : rn_9_meets ns ct R K (n + 1) 237 [v0, v1, v2, v3, v4, v5, v6, v7, v8, v9, v10, .inr (.inl (true, z)), v12] k s = (rn_9_meets ns ct R K n 239 [v0, v1, v2, v3, v4, v5, v6, v7, v8, v9, v10, .inr (.inl (true, z)), v12] (.inr (.inl (true, z)) :: k) s) := rfl
theorem rx_9_meets_239 {ns n ct R K s k z v0 v1 v2 v3 v4 v6 v7 v8 v9 v10 v11 v12} : rn_9_meets ns ct R K (n + 1) 239 [v0, v1, v2, v3, v4, .inr (.inl (true, z)), v6, v7, v8, v9, v10, v11, v12] k s = (rn_9_meets ns ct R K n 241 [v0, v1, v2, v3, v4, .inr (.inl (true, z)), v6, v7, v8, v9, v10, v11, v12] (.inr (.inl (true, z)) :: k) s) := rfl
theorem rx_9_meets_241 {ns n ct R K s k z v0 v1 v2 v3 v4 v5 v6 v7 v8 v10 v11 v12} : rn_9_meets ns ct R K (n + 1) 241 [v0, v1, v2, v3, v4, v5, v6, v7, v8, .inr (.inl (true, z)), v10, v11, v12] k s = (rn_9_meets ns ct R K n 243 [v0, v1, v2, v3, v4, v5, v6, v7, v8, .inr (.inl (true, z)), v10, v11, v12] (.inr (.inl (true, z)) :: k) s) := rfl
theorem rx_9_meets_243 {ns n ct R K s L k a b x y} : rn_9_meets ns ct R K (n + 1) 243 L (.inr (.inl (b, y)) :: .inr (.inl (a, x)) :: k) s = (rn_9_meets ns ct R K n 244 L (.inr (.inl (false, x * y)) :: k) s) := rfl
theorem rx_9_meets_244 {ns n ct R K s L k a b x y} : rn_9_meets ns ct R K (n + 1) 244 L (.inr (.inl (b, y)) :: .inr (.inl (a, x)) :: k) s = (sy_rl a x ∧ sy_rl b y ∧ rn_9_meets ns ct R K n 245 L (.inl (true, sy_cmp x y) :: k) s) := rfl
theorem rx_9_meets_245 {ns n ct R K s L k a x} : rn_9_meets ns ct R K (n + 1) 245 L (.inl (a, x) :: k) s = (sy_ri a x ∧ (0 < x → rn_9_meets ns ct R K n 252 L k s) ∧ (¬ 0 < x → rn_9_meets ns ct R K n 248 L k s)) := rfl
theorem rx_9_meets_248 {ns n ct R K s L k} : rn_9_meets ns ct R K (n + 1) 248 L k s = (rn_9_meets ns ct R K n 249 L (.inl (true, 1) :: k) s) := rfl
theorem rx_9_meets_249 {ns n ct R K s L k} : rn_9_meets ns ct R K (n + 1) 249 L k s = (rn_9_meets ns ct R K n 282 L k s) := rfl
theorem rx_9_meets_252 {ns n ct R K s L k} : rn_9_meets ns ct R K (n + 1) 252 L k s = (rn_9_meets ns ct R K n 253 L (.inl (true, 0) :: k) s) := rfl
theorem rx_9_meets_253 {ns n ct R K s L k} : rn_9_meets ns ct R K (n + 1) 253 L k s = (rn_9_meets ns ct R K n 282 L k s) := rfl
theorem rx_9_meets_256 {ns n ct R K s k z v0 v1 v2 v3 v4 v5 v6 v7 v8 v9 v10 v12} : rn_9_meets ns ct R K (n + 1) 256 [v0, v1, v2, v3, v4, v5, v6, v7, v8, v9, v10, .inr (.inl (true, z)), v12] k s = (rn_9_meets ns ct R K n 258 [v0, v1, v2, v3, v4, v5, v6, v7, v8, v9, v10, .inr (.inl (true, z)), v12] (.inr (.inl (true, z)) :: k) s) := rfl
theorem rx_9_meets_258 {ns n ct R K s k z v0 v1 v2 v4 v5 v6 v7 v8 v9 v10 v11 v12} : rn_9_meets ns ct R K (n + 1) 258 [v0, v1, v2, .inr (.inl (true, z)), v4, v5, v6, v7, v8, v9, v10, v11, v12] k s = (rn_9_meets ns ct R K n 259 [v0, v1, v2, .inr (.inl (true, z)), v4, v5, v6, v7, v8, v9, v10, v11, v12] (.inr (.inl (true, z)) :: k) s) := rfl
theorem rx_9_meets_259 {ns n ct R K s k z v0 v1 v2 v3 v4 v5 v6 v7 v8 v10 v11 v12} : rn_9_meets ns ct R K (n + 1) 259 [v0, v1, v2, v3, v4, v5, v6, v7, v8, .inr (.inl (true, z)), v10, v11, v12] k s = (rn_9_meets ns ct R K n 261 [v0, v1, v2, v3, v4, v5, v6, v7, v8, .inr (.inl (true, z)), v10, v11, v12] (.inr (.inl (true, z)) :: k) s) := rfl
theorem rx_9_meets_261 {ns n ct R K s L k a b x y} : rn_9_meets ns ct R K (n + 1) 261 L (.inr (.inl (b, y)) :: .inr (.inl (a, x)) :: k) s = (rn_9_meets ns ct R K n 262 L (.inr (.inl (false, x * y)) :: k) s) := rfl
theorem rx_9_meets_262 {ns n ct R K s L k a b x y} : rn_9_meets ns ct R K (n + 1) 262 L (.inr (.inl (b, y)) :: .inr (.inl (a, x)) :: k) s = (sy_rl a x ∧ sy_rl b y ∧ rn_9_meets ns ct R K n 263 L (.inl (true, sy_cmp x y) :: k) s) := rfl
theorem rx_9_meets_263 {ns n ct R K s L k a x} : rn_9_meets ns ct R K (n + 1) 263 L (.inl (a, x) :: k) s = (sy_ri a x ∧ (0 < x → rn_9_meets ns ct R K n 281 L k s) ∧ (¬ 0 < x → rn_9_meets ns ct R K n 266 L k s)) := rfl
theorem rx_9_meets_266 {ns n ct R K s k z v0 v1 v2 v3 v4 v5 v6 v7 v8 v9 v10 v12} : rn_9_meets ns ct R K (n + 1) 266 [v0, v1, v2, v3, v4, v5, v6, v7, v8, v9, v10, .inr (.inl (true, z)), v12] k s = (rn_9_meets ns ct R K n 268 [v0, v1, v2, v3, v4, v5, v6, v7, v8, v9, v10, .inr (.inl (true, z)), v12] (.inr (.inl (true, z)) :: k) s) := rfl
theorem rx_9_meets_268 {ns n ct R K s k z v0 v1 v2 v3 v4 v6 v7 v8 v9 v10 v11 v12} : rn_9_meets ns ct R K (n + 1) 268 [v0, v1, v2, v3, v4, .inr (.inl (true, z)), v6, v7, v8, v9, v10, v11, v12] k s = (rn_9_meets ns ct R K n 270 [v0, v1, v2, v3, v4, .inr (.inl (true, z)), v6, v7, v8, v9, v10, v11, v12] (.inr (.inl (true, z)) :: k) s) := rfl
theorem rx_9_meets_270 {ns n ct R K s k z v0 v1 v2 v3 v4 v5 v6 v7 v8 v10 v11 v12} : rn_9_meets ns ct R K (n + 1) 270 [v0, v1, v2, v3, v4, v5, v6, v7, v8, .inr (.inl (true, z)), v10, v11, v12] k s = (rn_9_meets ns ct R K n 272 [v0, v1, v2, v3, v4, v5, v6, v7, v8, .inr (.inl (true, z)), v10, v11, v12] (.inr (.inl (true, z)) :: k) s) := rfl
theorem rx_9_meets_272 {ns n ct R K s L k a b x y} : rn_9_meets ns ct R K (n + 1) 272 L (.inr (.inl (b, y)) :: .inr (.inl (a, x)) :: k) s = (rn_9_meets ns ct R K n 273 L (.inr (.inl (false, x * y)) :: k) s) := rfl
theorem rx_9_meets_273 {ns n ct R K s L k a b x y} : rn_9_meets ns ct R K (n + 1) 273 L (.inr (.inl (b, y)) :: .inr (.inl (a, x)) :: k) s = (sy_rl a x ∧ sy_rl b y ∧ rn_9_meets ns ct R K n 274 L (.inl (true, sy_cmp x y) :: k) s) := rfl
theorem rx_9_meets_274 {ns n ct R K s L k a x} : rn_9_meets ns ct R K (n + 1) 274 L (.inl (a, x) :: k) s = (sy_ri a x ∧ (x < 0 → rn_9_meets ns ct R K n 281 L k s) ∧ (¬ x < 0 → rn_9_meets ns ct R K n 277 L k s)) := rfl
theorem rx_9_meets_277 {ns n ct R K s L k} : rn_9_meets ns ct R K (n + 1) 277 L k s = (rn_9_meets ns ct R K n 278 L (.inl (true, 1) :: k) s) := rfl
theorem rx_9_meets_278 {ns n ct R K s L k} : rn_9_meets ns ct R K (n + 1) 278 L k s = (rn_9_meets ns ct R K n 282 L k s) := rfl
theorem rx_9_meets_281 {ns n ct R K s L k} : rn_9_meets ns ct R K (n + 1) 281 L k s = (rn_9_meets ns ct R K n 282 L (.inl (true, 0) :: k) s) := rfl
theorem rx_9_meets_282 {ns n ct R K s L a z} : rn_9_meets ns ct R K (n + 1) 282 L [.inl (a, z)] s = (sy_ri a z ∧ sy_b01 true z ∧ R (some (.inl (true, z))) s) := rfl
def y_9_quarrels : MethodName := ⟨"StarHideModel", "quarrels", "(I)I"⟩
abbrev c_9_quarrels : ByteArray := prog_11_method_41_code
def tc_9_quarrels (pc : Nat) : Option sy_I := match pc with
  | 0 => some (.aload_n 0, 1, 0)
  | 1 => some (.iload_n 1, 2, 0)
  | 2 => some (.invokevirtual 73, 5, 0)
  | 5 => some (.ifCond .eq 13, 8, 18)
  | 8 => some (.aload_n 0, 9, 0)
  | 9 => some (.getfield 26, 12, 0)
  | 12 => some (.iload_n 1, 13, 0)
  | 13 => some (.iaload, 14, 0)
  | 14 => some (.iconst 2, 15, 0)
  | 15 => some (.if_icmp .eq 5, 18, 20)
  | 18 => some (.iconst (-1), 19, 0)
  | 19 => some (.ireturn, 20, 0)
  | 20 => some (.aload_n 0, 21, 0)
  | 21 => some (.invokevirtual 132, 24, 0)
  | 24 => some (.aload_n 0, 25, 0)
  | 25 => some (.iload_n 1, 26, 0)
  | 26 => some (.iconst 0, 27, 0)
  | 27 => some (.invokevirtual 103, 30, 0)
  | 30 => some (.i2l, 31, 0)
  | 31 => some (.lstore_n 2, 32, 0)
  | 32 => some (.aload_n 0, 33, 0)
  | 33 => some (.iload_n 1, 34, 0)
  | 34 => some (.iconst 1, 35, 0)
  | 35 => some (.invokevirtual 103, 38, 0)
  | 38 => some (.i2l, 39, 0)
  | 39 => some (.lstore 4, 41, 0)
  | 41 => some (.aload_n 0, 42, 0)
  | 42 => some (.getfield 54, 45, 0)
  | 45 => some (.iconst 1, 46, 0)
  | 46 => some (.if_icmp .ne 62, 49, 108)
  | 49 => some (.aload_n 0, 50, 0)
  | 50 => some (.getfield 51, 53, 0)
  | 53 => some (.aload_n 0, 54, 0)
  | 54 => some (.getfield 57, 57, 0)
  | 57 => some (.iconst 0, 58, 0)
  | 58 => some (.iaload, 59, 0)
  | 59 => some (.laload, 60, 0)
  | 60 => some (.aload_n 0, 61, 0)
  | 61 => some (.getfield 16, 64, 0)
  | 64 => some (.iload_n 1, 65, 0)
  | 65 => some (.iaload, 66, 0)
  | 66 => some (.i2l, 67, 0)
  | 67 => some (.lcmp, 68, 0)
  | 68 => some (.ifCond .ne 40, 71, 108)
  | 71 => some (.aload_n 0, 72, 0)
  | 72 => some (.getfield 47, 75, 0)
  | 75 => some (.aload_n 0, 76, 0)
  | 76 => some (.getfield 57, 79, 0)
  | 79 => some (.iconst 0, 80, 0)
  | 80 => some (.iaload, 81, 0)
  | 81 => some (.laload, 82, 0)
  | 82 => some (.lload_n 2, 83, 0)
  | 83 => some (.lcmp, 84, 0)
  | 84 => some (.ifCond .lt 24, 87, 108)
  | 87 => some (.aload_n 0, 88, 0)
  | 88 => some (.getfield 47, 91, 0)
  | 91 => some (.aload_n 0, 92, 0)
  | 92 => some (.getfield 57, 95, 0)
  | 95 => some (.iconst 0, 96, 0)
  | 96 => some (.iaload, 97, 0)
  | 97 => some (.laload, 98, 0)
  | 98 => some (.lload 4, 100, 0)
  | 100 => some (.lcmp, 101, 0)
  | 101 => some (.ifCond .gt 7, 104, 108)
  | 104 => some (.iconst 1, 105, 0)
  | 105 => some (.goto 4, 108, 109)
  | 108 => some (.iconst 0, 109, 0)
  | 109 => some (.istore 6, 111, 0)
  | 111 => some (.iload 6, 113, 0)
  | 113 => some (.ifCond .ne 34, 116, 147)
  | 116 => some (.aload_n 0, 117, 0)
  | 117 => some (.lload_n 2, 118, 0)
  | 118 => some (.aload_n 0, 119, 0)
  | 119 => some (.getfield 16, 122, 0)
  | 122 => some (.iload_n 1, 123, 0)
  | 123 => some (.iaload, 124, 0)
  | 124 => some (.i2l, 125, 0)
  | 125 => some (.invokevirtual 135, 128, 0)
  | 128 => some (.ifCond .ne 19, 131, 147)
  | 131 => some (.aload_n 0, 132, 0)
  | 132 => some (.lload 4, 134, 0)
  | 134 => some (.aload_n 0, 135, 0)
  | 135 => some (.getfield 16, 138, 0)
  | 138 => some (.iload_n 1, 139, 0)
  | 139 => some (.iaload, 140, 0)
  | 140 => some (.i2l, 141, 0)
  | 141 => some (.invokevirtual 135, 144, 0)
  | 144 => some (.ifCond .eq 7, 147, 151)
  | 147 => some (.iconst 1, 148, 0)
  | 148 => some (.goto 4, 151, 152)
  | 151 => some (.iconst 0, 152, 0)
  | 152 => some (.istore 6, 154, 0)
  | 154 => some (.iconst 0, 155, 0)
  | 155 => some (.istore 7, 157, 0)
  | 157 => some (.iload 7, 159, 0)
  | 159 => some (.aload_n 0, 160, 0)
  | 160 => some (.getfield 54, 163, 0)
  | 163 => some (.if_icmp .ge 67, 166, 230)
  | 166 => some (.aload_n 0, 167, 0)
  | 167 => some (.getfield 54, 170, 0)
  | 170 => some (.iconst 1, 171, 0)
  | 171 => some (.if_icmp .le 59, 174, 230)
  | 174 => some (.iload 6, 176, 0)
  | 176 => some (.ifCond .ne 41, 179, 217)
  | 179 => some (.aload_n 0, 180, 0)
  | 180 => some (.aload_n 0, 181, 0)
  | 181 => some (.getfield 57, 184, 0)
  | 184 => some (.iload 7, 186, 0)
  | 186 => some (.iaload, 187, 0)
  | 187 => some (.aload_n 0, 188, 0)
  | 188 => some (.getfield 57, 191, 0)
  | 191 => some (.iload 7, 193, 0)
  | 193 => some (.iconst 1, 194, 0)
  | 194 => some (.iadd, 195, 0)
  | 195 => some (.aload_n 0, 196, 0)
  | 196 => some (.getfield 54, 199, 0)
  | 199 => some (.irem, 200, 0)
  | 200 => some (.iaload, 201, 0)
  | 201 => some (.lload_n 2, 202, 0)
  | 202 => some (.lload 4, 204, 0)
  | 204 => some (.aload_n 0, 205, 0)
  | 205 => some (.getfield 16, 208, 0)
  | 208 => some (.iload_n 1, 209, 0)
  | 209 => some (.iaload, 210, 0)
  | 210 => some (.i2l, 211, 0)
  | 211 => some (.invokevirtual 139, 214, 0)
  | 214 => some (.ifCond .eq 7, 217, 221)
  | 217 => some (.iconst 1, 218, 0)
  | 218 => some (.goto 4, 221, 222)
  | 221 => some (.iconst 0, 222, 0)
  | 222 => some (.istore 6, 224, 0)
  | 224 => some (.iinc 7 1, 227, 0)
  | 227 => some (.goto (-70), 230, 157)
  | 230 => some (.iload 6, 232, 0)
  | 232 => some (.ifCond .eq 7, 235, 239)
  | 235 => some (.iconst 1, 236, 0)
  | 236 => some (.goto 4, 239, 240)
  | 239 => some (.iconst 0, 240, 0)
  | 240 => some (.ireturn, 241, 0)
  | _ => none
theorem tv_9_quarrels : ∀ pc i, sy_lk 241 tc_9_quarrels pc = some i → sy_chk c_9_quarrels (some .int) false pc i = true := sy_lk_ok 241 tc_9_quarrels (by decide +kernel)
def Mk_9_quarrels (ct : Nat → Option (Bool × Nat × sy_Sp)) : sy_M := (sy_lk 241 tc_9_quarrels, ff_9, ki_9, kl_9, ct, false)
def rn_9_quarrels (ns : Nat) (ct : Nat → Option (Bool × Nat × sy_Sp)) (R : sy_R) (K : sy_K) : Nat → sy_K := sy_run ns (Mk_9_quarrels ct) [157] R K
theorem rx_9_quarrels_0 {ns n ct R K s k z v1 v2 v3 v4 v5 v6 v7} : rn_9_quarrels ns ct R K (n + 1) 0 [.inr (.inr (some z)), v1, v2, v3, v4, v5, v6, v7] k s = (rn_9_quarrels ns ct R K n 1 [.inr (.inr (some z)), v1, v2, v3, v4, v5, v6, v7] (.inr (.inr (some z)) :: k) s) := rfl
theorem rx_9_quarrels_1 {ns n ct R K s k z v0 v2 v3 v4 v5 v6 v7} : rn_9_quarrels ns ct R K (n + 1) 1 [v0, .inl (true, z), v2, v3, v4, v5, v6, v7] k s = (rn_9_quarrels ns ct R K n 2 [v0, .inl (true, z), v2, v3, v4, v5, v6, v7] (.inl (true, z) :: k) s) := rfl
theorem rx_9_quarrels_2 {ns n ct R K s L k} : rn_9_quarrels ns ct R K (n + 1) 2 L k s = (sy_call false (ct 73) k s fun r t => rn_9_quarrels ns ct R K n 5 L r t) := rfl
theorem rx_9_quarrels_5 {ns n ct R K s L k a x} : rn_9_quarrels ns ct R K (n + 1) 5 L (.inl (a, x) :: k) s = (sy_ri a x ∧ (x = 0 → rn_9_quarrels ns ct R K n 18 L k s) ∧ (¬ x = 0 → rn_9_quarrels ns ct R K n 8 L k s)) := rfl
theorem rx_9_quarrels_8 {ns n ct R K s k z v1 v2 v3 v4 v5 v6 v7} : rn_9_quarrels ns ct R K (n + 1) 8 [.inr (.inr (some z)), v1, v2, v3, v4, v5, v6, v7] k s = (rn_9_quarrels ns ct R K n 9 [.inr (.inr (some z)), v1, v2, v3, v4, v5, v6, v7] (.inr (.inr (some z)) :: k) s) := rfl
theorem rx_9_quarrels_9 {ns n ct R K s L k a} : rn_9_quarrels ns ct R K (n + 1) 9 L (.inr (.inr (some (some a))) :: k) s = (sy_ob a = some 9 ∧ rn_9_quarrels ns ct R K n 12 L (sy_fv s a 5 :: k) s) := rfl
theorem rx_9_quarrels_12 {ns n ct R K s k z v0 v2 v3 v4 v5 v6 v7} : rn_9_quarrels ns ct R K (n + 1) 12 [v0, .inl (true, z), v2, v3, v4, v5, v6, v7] k s = (rn_9_quarrels ns ct R K n 13 [v0, .inl (true, z), v2, v3, v4, v5, v6, v7] (.inl (true, z) :: k) s) := rfl
theorem rx_9_quarrels_13 {ns n ct R K s L k a b z} : rn_9_quarrels ns ct R K (n + 1) 13 L (.inl (b, z) :: .inr (.inr (some (some a))) :: k) s = ((0 ≤ z ∧ z < (sy_ar a).2) ∧ sy_ob a = none ∧ (sy_ar a).1 = 0 ∧ rn_9_quarrels ns ct R K n 14 L (.inl (true, s a z.toNat) :: k) s) := rfl
theorem rx_9_quarrels_14 {ns n ct R K s L k} : rn_9_quarrels ns ct R K (n + 1) 14 L k s = (rn_9_quarrels ns ct R K n 15 L (.inl (true, 2) :: k) s) := rfl
theorem rx_9_quarrels_15 {ns n ct R K s L k a b x y} : rn_9_quarrels ns ct R K (n + 1) 15 L (.inl (b, y) :: .inl (a, x) :: k) s = (sy_ri a x ∧ sy_ri b y ∧ (x = y → rn_9_quarrels ns ct R K n 20 L k s) ∧ (¬ x = y → rn_9_quarrels ns ct R K n 18 L k s)) := rfl
theorem rx_9_quarrels_18 {ns n ct R K s L k} : rn_9_quarrels ns ct R K (n + 1) 18 L k s = (rn_9_quarrels ns ct R K n 19 L (.inl (true, (-1)) :: k) s) := rfl
theorem rx_9_quarrels_19 {ns n ct R K s L a z} : rn_9_quarrels ns ct R K (n + 1) 19 L [.inl (a, z)] s = (sy_ri a z ∧ sy_b01 false z ∧ R (some (.inl (true, z))) s) := rfl
theorem rx_9_quarrels_20 {ns n ct R K s k z v1 v2 v3 v4 v5 v6 v7} : rn_9_quarrels ns ct R K (n + 1) 20 [.inr (.inr (some z)), v1, v2, v3, v4, v5, v6, v7] k s = (rn_9_quarrels ns ct R K n 21 [.inr (.inr (some z)), v1, v2, v3, v4, v5, v6, v7] (.inr (.inr (some z)) :: k) s) := rfl
theorem rx_9_quarrels_21 {ns n ct R K s L k} : rn_9_quarrels ns ct R K (n + 1) 21 L k s = (sy_call false (ct 132) k s fun r t => rn_9_quarrels ns ct R K n 24 L r t) := rfl
theorem rx_9_quarrels_24 {ns n ct R K s k z v1 v2 v3 v4 v5 v6 v7} : rn_9_quarrels ns ct R K (n + 1) 24 [.inr (.inr (some z)), v1, v2, v3, v4, v5, v6, v7] k s = (rn_9_quarrels ns ct R K n 25 [.inr (.inr (some z)), v1, v2, v3, v4, v5, v6, v7] (.inr (.inr (some z)) :: k) s) := rfl
theorem rx_9_quarrels_25 {ns n ct R K s k z v0 v2 v3 v4 v5 v6 v7} : rn_9_quarrels ns ct R K (n + 1) 25 [v0, .inl (true, z), v2, v3, v4, v5, v6, v7] k s = (rn_9_quarrels ns ct R K n 26 [v0, .inl (true, z), v2, v3, v4, v5, v6, v7] (.inl (true, z) :: k) s) := rfl
theorem rx_9_quarrels_26 {ns n ct R K s L k} : rn_9_quarrels ns ct R K (n + 1) 26 L k s = (rn_9_quarrels ns ct R K n 27 L (.inl (true, 0) :: k) s) := rfl
theorem rx_9_quarrels_27 {ns n ct R K s L k} : rn_9_quarrels ns ct R K (n + 1) 27 L k s = (sy_call false (ct 103) k s fun r t => rn_9_quarrels ns ct R K n 30 L r t) := rfl
theorem rx_9_quarrels_30 {ns n ct R K s L k a x} : rn_9_quarrels ns ct R K (n + 1) 30 L (.inl (a, x) :: k) s = (sy_ri a x ∧ rn_9_quarrels ns ct R K n 31 L (.inr (.inl (true, x)) :: k) s) := rfl
theorem rx_9_quarrels_31 {ns n ct R K s L k b z} : rn_9_quarrels ns ct R K (n + 1) 31 L (.inr (.inl (b, z)) :: k) s = (sy_rl b z ∧ 3 < L.length ∧ rn_9_quarrels ns ct R K n 32 (sy_gone (sy_sto L 2 (.inr (.inl (true, z)))) 3) k s) := rfl
theorem rx_9_quarrels_32 {ns n ct R K s k z v1 v2 v3 v4 v5 v6 v7} : rn_9_quarrels ns ct R K (n + 1) 32 [.inr (.inr (some z)), v1, v2, v3, v4, v5, v6, v7] k s = (rn_9_quarrels ns ct R K n 33 [.inr (.inr (some z)), v1, v2, v3, v4, v5, v6, v7] (.inr (.inr (some z)) :: k) s) := rfl
theorem rx_9_quarrels_33 {ns n ct R K s k z v0 v2 v3 v4 v5 v6 v7} : rn_9_quarrels ns ct R K (n + 1) 33 [v0, .inl (true, z), v2, v3, v4, v5, v6, v7] k s = (rn_9_quarrels ns ct R K n 34 [v0, .inl (true, z), v2, v3, v4, v5, v6, v7] (.inl (true, z) :: k) s) := rfl
theorem rx_9_quarrels_34 {ns n ct R K s L k} : rn_9_quarrels ns ct R K (n + 1) 34 L k s = (rn_9_quarrels ns ct R K n 35 L (.inl (true, 1) :: k) s) := rfl
theorem rx_9_quarrels_35 {ns n ct R K s L k} : rn_9_quarrels ns ct R K (n + 1) 35 L k s = (sy_call false (ct 103) k s fun r t => rn_9_quarrels ns ct R K n 38 L r t) := rfl
theorem rx_9_quarrels_38 {ns n ct R K s L k a x} : rn_9_quarrels ns ct R K (n + 1) 38 L (.inl (a, x) :: k) s = (sy_ri a x ∧ rn_9_quarrels ns ct R K n 39 L (.inr (.inl (true, x)) :: k) s) := rfl
theorem rx_9_quarrels_39 {ns n ct R K s L k b z} : rn_9_quarrels ns ct R K (n + 1) 39 L (.inr (.inl (b, z)) :: k) s = (sy_rl b z ∧ 5 < L.length ∧ rn_9_quarrels ns ct R K n 41 (sy_gone (sy_sto L 4 (.inr (.inl (true, z)))) 5) k s) := rfl
theorem rx_9_quarrels_41 {ns n ct R K s k z v1 v2 v3 v4 v5 v6 v7} : rn_9_quarrels ns ct R K (n + 1) 41 [.inr (.inr (some z)), v1, v2, v3, v4, v5, v6, v7] k s = (rn_9_quarrels ns ct R K n 42 [.inr (.inr (some z)), v1, v2, v3, v4, v5, v6, v7] (.inr (.inr (some z)) :: k) s) := rfl
theorem rx_9_quarrels_42 {ns n ct R K s L k a} : rn_9_quarrels ns ct R K (n + 1) 42 L (.inr (.inr (some (some a))) :: k) s = (sy_ob a = some 9 ∧ rn_9_quarrels ns ct R K n 45 L (sy_fv s a 14 :: k) s) := rfl
theorem rx_9_quarrels_45 {ns n ct R K s L k} : rn_9_quarrels ns ct R K (n + 1) 45 L k s = (rn_9_quarrels ns ct R K n 46 L (.inl (true, 1) :: k) s) := rfl
theorem rx_9_quarrels_46 {ns n ct R K s L k a b x y} : rn_9_quarrels ns ct R K (n + 1) 46 L (.inl (b, y) :: .inl (a, x) :: k) s = (sy_ri a x ∧ sy_ri b y ∧ (¬ x = y → rn_9_quarrels ns ct R K n 108 L k s) ∧ (x = y → rn_9_quarrels ns ct R K n 49 L k s)) := rfl
theorem rx_9_quarrels_49 {ns n ct R K s k z v1 v2 v3 v4 v5 v6 v7} : rn_9_quarrels ns ct R K (n + 1) 49 [.inr (.inr (some z)), v1, v2, v3, v4, v5, v6, v7] k s = (rn_9_quarrels ns ct R K n 50 [.inr (.inr (some z)), v1, v2, v3, v4, v5, v6, v7] (.inr (.inr (some z)) :: k) s) := rfl
theorem rx_9_quarrels_50 {ns n ct R K s L k a} : rn_9_quarrels ns ct R K (n + 1) 50 L (.inr (.inr (some (some a))) :: k) s = (sy_ob a = some 9 ∧ rn_9_quarrels ns ct R K n 53 L (sy_fv s a 13 :: k) s) := rfl
theorem rx_9_quarrels_53 {ns n ct R K s k z v1 v2 v3 v4 v5 v6 v7} : rn_9_quarrels ns ct R K (n + 1) 53 [.inr (.inr (some z)), v1, v2, v3, v4, v5, v6, v7] k s = (rn_9_quarrels ns ct R K n 54 [.inr (.inr (some z)), v1, v2, v3, v4, v5, v6, v7] (.inr (.inr (some z)) :: k) s) := rfl
theorem rx_9_quarrels_54 {ns n ct R K s L k a} : rn_9_quarrels ns ct R K (n + 1) 54 L (.inr (.inr (some (some a))) :: k) s = (sy_ob a = some 9 ∧ rn_9_quarrels ns ct R K n 57 L (sy_fv s a 15 :: k) s) := rfl
theorem rx_9_quarrels_57 {ns n ct R K s L k} : rn_9_quarrels ns ct R K (n + 1) 57 L k s = (rn_9_quarrels ns ct R K n 58 L (.inl (true, 0) :: k) s) := rfl
theorem rx_9_quarrels_58 {ns n ct R K s L k a b z} : rn_9_quarrels ns ct R K (n + 1) 58 L (.inl (b, z) :: .inr (.inr (some (some a))) :: k) s = ((0 ≤ z ∧ z < (sy_ar a).2) ∧ sy_ob a = none ∧ (sy_ar a).1 = 0 ∧ rn_9_quarrels ns ct R K n 59 L (.inl (true, s a z.toNat) :: k) s) := rfl
theorem rx_9_quarrels_59 {ns n ct R K s L k a b z} : rn_9_quarrels ns ct R K (n + 1) 59 L (.inl (b, z) :: .inr (.inr (some (some a))) :: k) s = ((0 ≤ z ∧ z < (sy_ar a).2) ∧ sy_ob a = none ∧ (sy_ar a).1 = 1 ∧ rn_9_quarrels ns ct R K n 60 L (.inr (.inl (true, s a z.toNat)) :: k) s) := rfl
theorem rx_9_quarrels_60 {ns n ct R K s k z v1 v2 v3 v4 v5 v6 v7} : rn_9_quarrels ns ct R K (n + 1) 60 [.inr (.inr (some z)), v1, v2, v3, v4, v5, v6, v7] k s = (rn_9_quarrels ns ct R K n 61 [.inr (.inr (some z)), v1, v2, v3, v4, v5, v6, v7] (.inr (.inr (some z)) :: k) s) := rfl
theorem rx_9_quarrels_61 {ns n ct R K s L k a} : rn_9_quarrels ns ct R K (n + 1) 61 L (.inr (.inr (some (some a))) :: k) s = (sy_ob a = some 9 ∧ rn_9_quarrels ns ct R K n 64 L (sy_fv s a 2 :: k) s) := rfl
theorem rx_9_quarrels_64 {ns n ct R K s k z v0 v2 v3 v4 v5 v6 v7} : rn_9_quarrels ns ct R K (n + 1) 64 [v0, .inl (true, z), v2, v3, v4, v5, v6, v7] k s = (rn_9_quarrels ns ct R K n 65 [v0, .inl (true, z), v2, v3, v4, v5, v6, v7] (.inl (true, z) :: k) s) := rfl
theorem rx_9_quarrels_65 {ns n ct R K s L k a b z} : rn_9_quarrels ns ct R K (n + 1) 65 L (.inl (b, z) :: .inr (.inr (some (some a))) :: k) s = ((0 ≤ z ∧ z < (sy_ar a).2) ∧ sy_ob a = none ∧ (sy_ar a).1 = 0 ∧ rn_9_quarrels ns ct R K n 66 L (.inl (true, s a z.toNat) :: k) s) := rfl
theorem rx_9_quarrels_66 {ns n ct R K s L k a x} : rn_9_quarrels ns ct R K (n + 1) 66 L (.inl (a, x) :: k) s = (sy_ri a x ∧ rn_9_quarrels ns ct R K n 67 L (.inr (.inl (true, x)) :: k) s) := rfl
theorem rx_9_quarrels_67 {ns n ct R K s L k a b x y} : rn_9_quarrels ns ct R K (n + 1) 67 L (.inr (.inl (b, y)) :: .inr (.inl (a, x)) :: k) s = (sy_rl a x ∧ sy_rl b y ∧ rn_9_quarrels ns ct R K n 68 L (.inl (true, sy_cmp x y) :: k) s) := rfl
theorem rx_9_quarrels_68 {ns n ct R K s L k a x} : rn_9_quarrels ns ct R K (n + 1) 68 L (.inl (a, x) :: k) s = (sy_ri a x ∧ (¬ x = 0 → rn_9_quarrels ns ct R K n 108 L k s) ∧ (x = 0 → rn_9_quarrels ns ct R K n 71 L k s)) := rfl
theorem rx_9_quarrels_71 {ns n ct R K s k z v1 v2 v3 v4 v5 v6 v7} : rn_9_quarrels ns ct R K (n + 1) 71 [.inr (.inr (some z)), v1, v2, v3, v4, v5, v6, v7] k s = (rn_9_quarrels ns ct R K n 72 [.inr (.inr (some z)), v1, v2, v3, v4, v5, v6, v7] (.inr (.inr (some z)) :: k) s) := rfl
theorem rx_9_quarrels_72 {ns n ct R K s L k a} : rn_9_quarrels ns ct R K (n + 1) 72 L (.inr (.inr (some (some a))) :: k) s = (sy_ob a = some 9 ∧ rn_9_quarrels ns ct R K n 75 L (sy_fv s a 12 :: k) s) := rfl
theorem rx_9_quarrels_75 {ns n ct R K s k z v1 v2 v3 v4 v5 v6 v7} : rn_9_quarrels ns ct R K (n + 1) 75 [.inr (.inr (some z)), v1, v2, v3, v4, v5, v6, v7] k s = (rn_9_quarrels ns ct R K n 76 [.inr (.inr (some z)), v1, v2, v3, v4, v5, v6, v7] (.inr (.inr (some z)) :: k) s) := rfl
theorem rx_9_quarrels_76 {ns n ct R K s L k a} : rn_9_quarrels ns ct R K (n + 1) 76 L (.inr (.inr (some (some a))) :: k) s = (sy_ob a = some 9 ∧ rn_9_quarrels ns ct R K n 79 L (sy_fv s a 15 :: k) s) := rfl
theorem rx_9_quarrels_79 {ns n ct R K s L k} : rn_9_quarrels ns ct R K (n + 1) 79 L k s = (rn_9_quarrels ns ct R K n 80 L (.inl (true, 0) :: k) s) := rfl
theorem rx_9_quarrels_80 {ns n ct R K s L k a b z} : rn_9_quarrels ns ct R K (n + 1) 80 L (.inl (b, z) :: .inr (.inr (some (some a))) :: k) s = ((0 ≤ z ∧ z < (sy_ar a).2) ∧ sy_ob a = none ∧ (sy_ar a).1 = 0 ∧ rn_9_quarrels ns ct R K n 81 L (.inl (true, s a z.toNat) :: k) s) := rfl
theorem rx_9_quarrels_81 {ns n ct R K s L k a b z} : rn_9_quarrels ns ct R K (n + 1) 81 L (.inl (b, z) :: .inr (.inr (some (some a))) :: k) s = ((0 ≤ z ∧ z < (sy_ar a).2) ∧ sy_ob a = none ∧ (sy_ar a).1 = 1 ∧ rn_9_quarrels ns ct R K n 82 L (.inr (.inl (true, s a z.toNat)) :: k) s) := rfl
theorem rx_9_quarrels_82 {ns n ct R K s k z v0 v1 v3 v4 v5 v6 v7} : rn_9_quarrels ns ct R K (n + 1) 82 [v0, v1, .inr (.inl (true, z)), v3, v4, v5, v6, v7] k s = (rn_9_quarrels ns ct R K n 83 [v0, v1, .inr (.inl (true, z)), v3, v4, v5, v6, v7] (.inr (.inl (true, z)) :: k) s) := rfl
theorem rx_9_quarrels_83 {ns n ct R K s L k a b x y} : rn_9_quarrels ns ct R K (n + 1) 83 L (.inr (.inl (b, y)) :: .inr (.inl (a, x)) :: k) s = (sy_rl a x ∧ sy_rl b y ∧ rn_9_quarrels ns ct R K n 84 L (.inl (true, sy_cmp x y) :: k) s) := rfl
theorem rx_9_quarrels_84 {ns n ct R K s L k a x} : rn_9_quarrels ns ct R K (n + 1) 84 L (.inl (a, x) :: k) s = (sy_ri a x ∧ (x < 0 → rn_9_quarrels ns ct R K n 108 L k s) ∧ (¬ x < 0 → rn_9_quarrels ns ct R K n 87 L k s)) := rfl
theorem rx_9_quarrels_87 {ns n ct R K s k z v1 v2 v3 v4 v5 v6 v7} : rn_9_quarrels ns ct R K (n + 1) 87 [.inr (.inr (some z)), v1, v2, v3, v4, v5, v6, v7] k s = (rn_9_quarrels ns ct R K n 88 [.inr (.inr (some z)), v1, v2, v3, v4, v5, v6, v7] (.inr (.inr (some z)) :: k) s) := rfl
theorem rx_9_quarrels_88 {ns n ct R K s L k a} : rn_9_quarrels ns ct R K (n + 1) 88 L (.inr (.inr (some (some a))) :: k) s = (sy_ob a = some 9 ∧ rn_9_quarrels ns ct R K n 91 L (sy_fv s a 12 :: k) s) := rfl
theorem rx_9_quarrels_91 {ns n ct R K s k z v1 v2 v3 v4 v5 v6 v7} : rn_9_quarrels ns ct R K (n + 1) 91 [.inr (.inr (some z)), v1, v2, v3, v4, v5, v6, v7] k s = (rn_9_quarrels ns ct R K n 92 [.inr (.inr (some z)), v1, v2, v3, v4, v5, v6, v7] (.inr (.inr (some z)) :: k) s) := rfl
theorem rx_9_quarrels_92 {ns n ct R K s L k a} : rn_9_quarrels ns ct R K (n + 1) 92 L (.inr (.inr (some (some a))) :: k) s = (sy_ob a = some 9 ∧ rn_9_quarrels ns ct R K n 95 L (sy_fv s a 15 :: k) s) := rfl
theorem rx_9_quarrels_95 {ns n ct R K s L k} : rn_9_quarrels ns ct R K (n + 1) 95 L k s = (rn_9_quarrels ns ct R K n 96 L (.inl (true, 0) :: k) s) := rfl
theorem rx_9_quarrels_96 {ns n ct R K s L k a b z} : rn_9_quarrels ns ct R K (n + 1) 96 L (.inl (b, z) :: .inr (.inr (some (some a))) :: k) s = ((0 ≤ z ∧ z < (sy_ar a).2) ∧ sy_ob a = none ∧ (sy_ar a).1 = 0 ∧ rn_9_quarrels ns ct R K n 97 L (.inl (true, s a z.toNat) :: k) s) := rfl
theorem rx_9_quarrels_97 {ns n ct R K s L k a b z} : rn_9_quarrels ns ct R K (n + 1) 97 L (.inl (b, z) :: .inr (.inr (some (some a))) :: k) s = ((0 ≤ z ∧ z < (sy_ar a).2) ∧ sy_ob a = none ∧ (sy_ar a).1 = 1 ∧ rn_9_quarrels ns ct R K n 98 L (.inr (.inl (true, s a z.toNat)) :: k) s) := rfl
theorem rx_9_quarrels_98 {ns n ct R K s k z v0 v1 v2 v3 v5 v6 v7} : rn_9_quarrels ns ct R K (n + 1) 98 [v0, v1, v2, v3, .inr (.inl (true, z)), v5, v6, v7] k s = (rn_9_quarrels ns ct R K n 100 [v0, v1, v2, v3, .inr (.inl (true, z)), v5, v6, v7] (.inr (.inl (true, z)) :: k) s) := rfl
theorem rx_9_quarrels_100 {ns n ct R K s L k a b x y} : rn_9_quarrels ns ct R K (n + 1) 100 L (.inr (.inl (b, y)) :: .inr (.inl (a, x)) :: k) s = (sy_rl a x ∧ sy_rl b y ∧ rn_9_quarrels ns ct R K n 101 L (.inl (true, sy_cmp x y) :: k) s) := rfl
theorem rx_9_quarrels_101 {ns n ct R K s L k a x} : rn_9_quarrels ns ct R K (n + 1) 101 L (.inl (a, x) :: k) s = (sy_ri a x ∧ (0 < x → rn_9_quarrels ns ct R K n 108 L k s) ∧ (¬ 0 < x → rn_9_quarrels ns ct R K n 104 L k s)) := rfl
theorem rx_9_quarrels_104 {ns n ct R K s L k} : rn_9_quarrels ns ct R K (n + 1) 104 L k s = (rn_9_quarrels ns ct R K n 105 L (.inl (true, 1) :: k) s) := rfl
theorem rx_9_quarrels_105 {ns n ct R K s L k} : rn_9_quarrels ns ct R K (n + 1) 105 L k s = (rn_9_quarrels ns ct R K n 109 L k s) := rfl
theorem rx_9_quarrels_108 {ns n ct R K s L k} : rn_9_quarrels ns ct R K (n + 1) 108 L k s = (rn_9_quarrels ns ct R K n 109 L (.inl (true, 0) :: k) s) := rfl
theorem rx_9_quarrels_109 {ns n ct R K s L k b z} : rn_9_quarrels ns ct R K (n + 1) 109 L (.inl (b, z) :: k) s = (sy_ri b z ∧ 6 < L.length ∧ rn_9_quarrels ns ct R K n 111 (sy_sto L 6 (.inl (true, z))) k s) := rfl
theorem rx_9_quarrels_111 {ns n ct R K s k z v0 v1 v2 v3 v4 v5 v7} : rn_9_quarrels ns ct R K (n + 1) 111 [v0, v1, v2, v3, v4, v5, .inl (true, z), v7] k s = (rn_9_quarrels ns ct R K n 113 [v0, v1, v2, v3, v4, v5, .inl (true, z), v7] (.inl (true, z) :: k) s) := rfl
theorem rx_9_quarrels_113 {ns n ct R K s L k a x} : rn_9_quarrels ns ct R K (n + 1) 113 L (.inl (a, x) :: k) s = (sy_ri a x ∧ (¬ x = 0 → rn_9_quarrels ns ct R K n 147 L k s) ∧ (x = 0 → rn_9_quarrels ns ct R K n 116 L k s)) := rfl
theorem rx_9_quarrels_116 {ns n ct R K s k z v1 v2 v3 v4 v5 v6 v7} : rn_9_quarrels ns ct R K (n + 1) 116 [.inr (.inr (some z)), v1, v2, v3, v4, v5, v6, v7] k s = (rn_9_quarrels ns ct R K n 117 [.inr (.inr (some z)), v1, v2, v3, v4, v5, v6, v7] (.inr (.inr (some z)) :: k) s) := rfl
theorem rx_9_quarrels_117 {ns n ct R K s k z v0 v1 v3 v4 v5 v6 v7} : rn_9_quarrels ns ct R K (n + 1) 117 [v0, v1, .inr (.inl (true, z)), v3, v4, v5, v6, v7] k s = (rn_9_quarrels ns ct R K n 118 [v0, v1, .inr (.inl (true, z)), v3, v4, v5, v6, v7] (.inr (.inl (true, z)) :: k) s) := rfl
theorem rx_9_quarrels_118 {ns n ct R K s k z v1 v2 v3 v4 v5 v6 v7} : rn_9_quarrels ns ct R K (n + 1) 118 [.inr (.inr (some z)), v1, v2, v3, v4, v5, v6, v7] k s = (rn_9_quarrels ns ct R K n 119 [.inr (.inr (some z)), v1, v2, v3, v4, v5, v6, v7] (.inr (.inr (some z)) :: k) s) := rfl
theorem rx_9_quarrels_119 {ns n ct R K s L k a} : rn_9_quarrels ns ct R K (n + 1) 119 L (.inr (.inr (some (some a))) :: k) s = (sy_ob a = some 9 ∧ rn_9_quarrels ns ct R K n 122 L (sy_fv s a 2 :: k) s) := rfl
theorem rx_9_quarrels_122 {ns n ct R K s k z v0 v2 v3 v4 v5 v6 v7} : rn_9_quarrels ns ct R K (n + 1) 122 [v0, .inl (true, z), v2, v3, v4, v5, v6, v7] k s = (rn_9_quarrels ns ct R K n 123 [v0, .inl (true, z), v2, v3, v4, v5, v6, v7] (.inl (true, z) :: k) s) := rfl
theorem rx_9_quarrels_123 {ns n ct R K s L k a b z} : rn_9_quarrels ns ct R K (n + 1) 123 L (.inl (b, z) :: .inr (.inr (some (some a))) :: k) s = ((0 ≤ z ∧ z < (sy_ar a).2) ∧ sy_ob a = none ∧ (sy_ar a).1 = 0 ∧ rn_9_quarrels ns ct R K n 124 L (.inl (true, s a z.toNat) :: k) s) := rfl
theorem rx_9_quarrels_124 {ns n ct R K s L k a x} : rn_9_quarrels ns ct R K (n + 1) 124 L (.inl (a, x) :: k) s = (sy_ri a x ∧ rn_9_quarrels ns ct R K n 125 L (.inr (.inl (true, x)) :: k) s) := rfl
theorem rx_9_quarrels_125 {ns n ct R K s L k} : rn_9_quarrels ns ct R K (n + 1) 125 L k s = (sy_call false (ct 135) k s fun r t => rn_9_quarrels ns ct R K n 128 L r t) := rfl
theorem rx_9_quarrels_128 {ns n ct R K s L k a x} : rn_9_quarrels ns ct R K (n + 1) 128 L (.inl (a, x) :: k) s = (sy_ri a x ∧ (¬ x = 0 → rn_9_quarrels ns ct R K n 147 L k s) ∧ (x = 0 → rn_9_quarrels ns ct R K n 131 L k s)) := rfl
theorem rx_9_quarrels_131 {ns n ct R K s k z v1 v2 v3 v4 v5 v6 v7} : rn_9_quarrels ns ct R K (n + 1) 131 [.inr (.inr (some z)), v1, v2, v3, v4, v5, v6, v7] k s = (rn_9_quarrels ns ct R K n 132 [.inr (.inr (some z)), v1, v2, v3, v4, v5, v6, v7] (.inr (.inr (some z)) :: k) s) := rfl
theorem rx_9_quarrels_132 {ns n ct R K s k z v0 v1 v2 v3 v5 v6 v7} : rn_9_quarrels ns ct R K (n + 1) 132 [v0, v1, v2, v3, .inr (.inl (true, z)), v5, v6, v7] k s = (rn_9_quarrels ns ct R K n 134 [v0, v1, v2, v3, .inr (.inl (true, z)), v5, v6, v7] (.inr (.inl (true, z)) :: k) s) := rfl
theorem rx_9_quarrels_134 {ns n ct R K s k z v1 v2 v3 v4 v5 v6 v7} : rn_9_quarrels ns ct R K (n + 1) 134 [.inr (.inr (some z)), v1, v2, v3, v4, v5, v6, v7] k s = (rn_9_quarrels ns ct R K n 135 [.inr (.inr (some z)), v1, v2, v3, v4, v5, v6, v7] (.inr (.inr (some z)) :: k) s) := rfl
theorem rx_9_quarrels_135 {ns n ct R K s L k a} : rn_9_quarrels ns ct R K (n + 1) 135 L (.inr (.inr (some (some a))) :: k) s = (sy_ob a = some 9 ∧ rn_9_quarrels ns ct R K n 138 L (sy_fv s a 2 :: k) s) := rfl
theorem rx_9_quarrels_138 {ns n ct R K s k z v0 v2 v3 v4 v5 v6 v7} : rn_9_quarrels ns ct R K (n + 1) 138 [v0, .inl (true, z), v2, v3, v4, v5, v6, v7] k s = (rn_9_quarrels ns ct R K n 139 [v0, .inl (true, z), v2, v3, v4, v5, v6, v7] (.inl (true, z) :: k) s) := rfl
theorem rx_9_quarrels_139 {ns n ct R K s L k a b z} : rn_9_quarrels ns ct R K (n + 1) 139 L (.inl (b, z) :: .inr (.inr (some (some a))) :: k) s = ((0 ≤ z ∧ z < (sy_ar a).2) ∧ sy_ob a = none ∧ (sy_ar a).1 = 0 ∧ rn_9_quarrels ns ct R K n 140 L (.inl (true, s a z.toNat) :: k) s) := rfl
theorem rx_9_quarrels_140 {ns n ct R K s L k a x} : rn_9_quarrels ns ct R K (n + 1) 140 L (.inl (a, x) :: k) s = (sy_ri a x ∧ rn_9_quarrels ns ct R K n 141 L (.inr (.inl (true, x)) :: k) s) := rfl
theorem rx_9_quarrels_141 {ns n ct R K s L k} : rn_9_quarrels ns ct R K (n + 1) 141 L k s = (sy_call false (ct 135) k s fun r t => rn_9_quarrels ns ct R K n 144 L r t) := rfl
theorem rx_9_quarrels_144 {ns n ct R K s L k a x} : rn_9_quarrels ns ct R K (n + 1) 144 L (.inl (a, x) :: k) s = (sy_ri a x ∧ (x = 0 → rn_9_quarrels ns ct R K n 151 L k s) ∧ (¬ x = 0 → rn_9_quarrels ns ct R K n 147 L k s)) := rfl
theorem rx_9_quarrels_147 {ns n ct R K s L k} : rn_9_quarrels ns ct R K (n + 1) 147 L k s = (rn_9_quarrels ns ct R K n 148 L (.inl (true, 1) :: k) s) := rfl
theorem rx_9_quarrels_148 {ns n ct R K s L k} : rn_9_quarrels ns ct R K (n + 1) 148 L k s = (rn_9_quarrels ns ct R K n 152 L k s) := rfl
theorem rx_9_quarrels_151 {ns n ct R K s L k} : rn_9_quarrels ns ct R K (n + 1) 151 L k s = (rn_9_quarrels ns ct R K n 152 L (.inl (true, 0) :: k) s) := rfl
theorem rx_9_quarrels_152 {ns n ct R K s L k b z} : rn_9_quarrels ns ct R K (n + 1) 152 L (.inl (b, z) :: k) s = (sy_ri b z ∧ 6 < L.length ∧ rn_9_quarrels ns ct R K n 154 (sy_sto L 6 (.inl (true, z))) k s) := rfl
theorem rx_9_quarrels_154 {ns n ct R K s L k} : rn_9_quarrels ns ct R K (n + 1) 154 L k s = (rn_9_quarrels ns ct R K n 155 L (.inl (true, 0) :: k) s) := rfl
theorem rx_9_quarrels_155 {ns n ct R K s L k b z} : rn_9_quarrels ns ct R K (n + 1) 155 L (.inl (b, z) :: k) s = (sy_ri b z ∧ 7 < L.length ∧ K 157 (sy_sto L 7 (.inl (true, z))) k s) := rfl
theorem rx_9_quarrels_157 {ns n ct R K s k z v0 v1 v2 v3 v4 v5 v6} : rn_9_quarrels ns ct R K (n + 1) 157 [v0, v1, v2, v3, v4, v5, v6, .inl (true, z)] k s = (rn_9_quarrels ns ct R K n 159 [v0, v1, v2, v3, v4, v5, v6, .inl (true, z)] (.inl (true, z) :: k) s) := rfl
theorem rx_9_quarrels_159 {ns n ct R K s k z v1 v2 v3 v4 v5 v6 v7} : rn_9_quarrels ns ct R K (n + 1) 159 [.inr (.inr (some z)), v1, v2, v3, v4, v5, v6, v7] k s = (rn_9_quarrels ns ct R K n 160 [.inr (.inr (some z)), v1, v2, v3, v4, v5, v6, v7] (.inr (.inr (some z)) :: k) s) := rfl
theorem rx_9_quarrels_160 {ns n ct R K s L k a} : rn_9_quarrels ns ct R K (n + 1) 160 L (.inr (.inr (some (some a))) :: k) s = (sy_ob a = some 9 ∧ rn_9_quarrels ns ct R K n 163 L (sy_fv s a 14 :: k) s) := rfl
theorem rx_9_quarrels_163 {ns n ct R K s L k a b x y} : rn_9_quarrels ns ct R K (n + 1) 163 L (.inl (b, y) :: .inl (a, x) :: k) s = (sy_ri a x ∧ sy_ri b y ∧ (y ≤ x → rn_9_quarrels ns ct R K n 230 L k s) ∧ (¬ y ≤ x → rn_9_quarrels ns ct R K n 166 L k s)) := rfl
theorem rx_9_quarrels_166 {ns n ct R K s k z v1 v2 v3 v4 v5 v6 v7} : rn_9_quarrels ns ct R K (n + 1) 166 [.inr (.inr (some z)), v1, v2, v3, v4, v5, v6, v7] k s = (rn_9_quarrels ns ct R K n 167 [.inr (.inr (some z)), v1, v2, v3, v4, v5, v6, v7] (.inr (.inr (some z)) :: k) s) := rfl
theorem rx_9_quarrels_167 {ns n ct R K s L k a} : rn_9_quarrels ns ct R K (n + 1) 167 L (.inr (.inr (some (some a))) :: k) s = (sy_ob a = some 9 ∧ rn_9_quarrels ns ct R K n 170 L (sy_fv s a 14 :: k) s) := rfl
theorem rx_9_quarrels_170 {ns n ct R K s L k} : rn_9_quarrels ns ct R K (n + 1) 170 L k s = (rn_9_quarrels ns ct R K n 171 L (.inl (true, 1) :: k) s) := rfl
theorem rx_9_quarrels_171 {ns n ct R K s L k a b x y} : rn_9_quarrels ns ct R K (n + 1) 171 L (.inl (b, y) :: .inl (a, x) :: k) s = (sy_ri a x ∧ sy_ri b y ∧ (x ≤ y → rn_9_quarrels ns ct R K n 230 L k s) ∧ (¬ x ≤ y → rn_9_quarrels ns ct R K n 174 L k s)) := rfl
theorem rx_9_quarrels_174 {ns n ct R K s k z v0 v1 v2 v3 v4 v5 v7} : rn_9_quarrels ns ct R K (n + 1) 174 [v0, v1, v2, v3, v4, v5, .inl (true, z), v7] k s = (rn_9_quarrels ns ct R K n 176 [v0, v1, v2, v3, v4, v5, .inl (true, z), v7] (.inl (true, z) :: k) s) := rfl
theorem rx_9_quarrels_176 {ns n ct R K s L k a x} : rn_9_quarrels ns ct R K (n + 1) 176 L (.inl (a, x) :: k) s = (sy_ri a x ∧ (¬ x = 0 → rn_9_quarrels ns ct R K n 217 L k s) ∧ (x = 0 → rn_9_quarrels ns ct R K n 179 L k s)) := rfl
theorem rx_9_quarrels_179 {ns n ct R K s k z v1 v2 v3 v4 v5 v6 v7} : rn_9_quarrels ns ct R K (n + 1) 179 [.inr (.inr (some z)), v1, v2, v3, v4, v5, v6, v7] k s = (rn_9_quarrels ns ct R K n 180 [.inr (.inr (some z)), v1, v2, v3, v4, v5, v6, v7] (.inr (.inr (some z)) :: k) s) := rfl
theorem rx_9_quarrels_180 {ns n ct R K s k z v1 v2 v3 v4 v5 v6 v7} : rn_9_quarrels ns ct R K (n + 1) 180 [.inr (.inr (some z)), v1, v2, v3, v4, v5, v6, v7] k s = (rn_9_quarrels ns ct R K n 181 [.inr (.inr (some z)), v1, v2, v3, v4, v5, v6, v7] (.inr (.inr (some z)) :: k) s) := rfl
theorem rx_9_quarrels_181 {ns n ct R K s L k a} : rn_9_quarrels ns ct R K (n + 1) 181 L (.inr (.inr (some (some a))) :: k) s = (sy_ob a = some 9 ∧ rn_9_quarrels ns ct R K n 184 L (sy_fv s a 15 :: k) s) := rfl
theorem rx_9_quarrels_184 {ns n ct R K s k z v0 v1 v2 v3 v4 v5 v6} : rn_9_quarrels ns ct R K (n + 1) 184 [v0, v1, v2, v3, v4, v5, v6, .inl (true, z)] k s = (rn_9_quarrels ns ct R K n 186 [v0, v1, v2, v3, v4, v5, v6, .inl (true, z)] (.inl (true, z) :: k) s) := rfl
theorem rx_9_quarrels_186 {ns n ct R K s L k a b z} : rn_9_quarrels ns ct R K (n + 1) 186 L (.inl (b, z) :: .inr (.inr (some (some a))) :: k) s = ((0 ≤ z ∧ z < (sy_ar a).2) ∧ sy_ob a = none ∧ (sy_ar a).1 = 0 ∧ rn_9_quarrels ns ct R K n 187 L (.inl (true, s a z.toNat) :: k) s) := rfl
theorem rx_9_quarrels_187 {ns n ct R K s k z v1 v2 v3 v4 v5 v6 v7} : rn_9_quarrels ns ct R K (n + 1) 187 [.inr (.inr (some z)), v1, v2, v3, v4, v5, v6, v7] k s = (rn_9_quarrels ns ct R K n 188 [.inr (.inr (some z)), v1, v2, v3, v4, v5, v6, v7] (.inr (.inr (some z)) :: k) s) := rfl
theorem rx_9_quarrels_188 {ns n ct R K s L k a} : rn_9_quarrels ns ct R K (n + 1) 188 L (.inr (.inr (some (some a))) :: k) s = (sy_ob a = some 9 ∧ rn_9_quarrels ns ct R K n 191 L (sy_fv s a 15 :: k) s) := rfl
theorem rx_9_quarrels_191 {ns n ct R K s k z v0 v1 v2 v3 v4 v5 v6} : rn_9_quarrels ns ct R K (n + 1) 191 [v0, v1, v2, v3, v4, v5, v6, .inl (true, z)] k s = (rn_9_quarrels ns ct R K n 193 [v0, v1, v2, v3, v4, v5, v6, .inl (true, z)] (.inl (true, z) :: k) s) := rfl
theorem rx_9_quarrels_193 {ns n ct R K s L k} : rn_9_quarrels ns ct R K (n + 1) 193 L k s = (rn_9_quarrels ns ct R K n 194 L (.inl (true, 1) :: k) s) := rfl
theorem rx_9_quarrels_194 {ns n ct R K s L k a b x y} : rn_9_quarrels ns ct R K (n + 1) 194 L (.inl (b, y) :: .inl (a, x) :: k) s = (rn_9_quarrels ns ct R K n 195 L (.inl (false, x + y) :: k) s) := rfl
theorem rx_9_quarrels_195 {ns n ct R K s k z v1 v2 v3 v4 v5 v6 v7} : rn_9_quarrels ns ct R K (n + 1) 195 [.inr (.inr (some z)), v1, v2, v3, v4, v5, v6, v7] k s = (rn_9_quarrels ns ct R K n 196 [.inr (.inr (some z)), v1, v2, v3, v4, v5, v6, v7] (.inr (.inr (some z)) :: k) s) := rfl
theorem rx_9_quarrels_196 {ns n ct R K s L k a} : rn_9_quarrels ns ct R K (n + 1) 196 L (.inr (.inr (some (some a))) :: k) s = (sy_ob a = some 9 ∧ rn_9_quarrels ns ct R K n 199 L (sy_fv s a 14 :: k) s) := rfl
theorem rx_9_quarrels_199 {ns n ct R K s L k a b x y} : rn_9_quarrels ns ct R K (n + 1) 199 L (.inl (b, y) :: .inl (a, x) :: k) s = (sy_ri a x ∧ sy_ri b y ∧ y ≠ 0 ∧ rn_9_quarrels ns ct R K n 200 L (.inl (false, x.tmod y) :: k) s) := rfl
theorem rx_9_quarrels_200 {ns n ct R K s L k a b z} : rn_9_quarrels ns ct R K (n + 1) 200 L (.inl (b, z) :: .inr (.inr (some (some a))) :: k) s = ((0 ≤ z ∧ z < (sy_ar a).2) ∧ sy_ob a = none ∧ (sy_ar a).1 = 0 ∧ rn_9_quarrels ns ct R K n 201 L (.inl (true, s a z.toNat) :: k) s) := rfl
theorem rx_9_quarrels_201 {ns n ct R K s k z v0 v1 v3 v4 v5 v6 v7} : rn_9_quarrels ns ct R K (n + 1) 201 [v0, v1, .inr (.inl (true, z)), v3, v4, v5, v6, v7] k s = (rn_9_quarrels ns ct R K n 202 [v0, v1, .inr (.inl (true, z)), v3, v4, v5, v6, v7] (.inr (.inl (true, z)) :: k) s) := rfl
theorem rx_9_quarrels_202 {ns n ct R K s k z v0 v1 v2 v3 v5 v6 v7} : rn_9_quarrels ns ct R K (n + 1) 202 [v0, v1, v2, v3, .inr (.inl (true, z)), v5, v6, v7] k s = (rn_9_quarrels ns ct R K n 204 [v0, v1, v2, v3, .inr (.inl (true, z)), v5, v6, v7] (.inr (.inl (true, z)) :: k) s) := rfl
theorem rx_9_quarrels_204 {ns n ct R K s k z v1 v2 v3 v4 v5 v6 v7} : rn_9_quarrels ns ct R K (n + 1) 204 [.inr (.inr (some z)), v1, v2, v3, v4, v5, v6, v7] k s = (rn_9_quarrels ns ct R K n 205 [.inr (.inr (some z)), v1, v2, v3, v4, v5, v6, v7] (.inr (.inr (some z)) :: k) s) := rfl
theorem rx_9_quarrels_205 {ns n ct R K s L k a} : rn_9_quarrels ns ct R K (n + 1) 205 L (.inr (.inr (some (some a))) :: k) s = (sy_ob a = some 9 ∧ rn_9_quarrels ns ct R K n 208 L (sy_fv s a 2 :: k) s) := rfl
theorem rx_9_quarrels_208 {ns n ct R K s k z v0 v2 v3 v4 v5 v6 v7} : rn_9_quarrels ns ct R K (n + 1) 208 [v0, .inl (true, z), v2, v3, v4, v5, v6, v7] k s = (rn_9_quarrels ns ct R K n 209 [v0, .inl (true, z), v2, v3, v4, v5, v6, v7] (.inl (true, z) :: k) s) := rfl
theorem rx_9_quarrels_209 {ns n ct R K s L k a b z} : rn_9_quarrels ns ct R K (n + 1) 209 L (.inl (b, z) :: .inr (.inr (some (some a))) :: k) s = ((0 ≤ z ∧ z < (sy_ar a).2) ∧ sy_ob a = none ∧ (sy_ar a).1 = 0 ∧ rn_9_quarrels ns ct R K n 210 L (.inl (true, s a z.toNat) :: k) s) := rfl
theorem rx_9_quarrels_210 {ns n ct R K s L k a x} : rn_9_quarrels ns ct R K (n + 1) 210 L (.inl (a, x) :: k) s = (sy_ri a x ∧ rn_9_quarrels ns ct R K n 211 L (.inr (.inl (true, x)) :: k) s) := rfl
theorem rx_9_quarrels_211 {ns n ct R K s L k} : rn_9_quarrels ns ct R K (n + 1) 211 L k s = (sy_call false (ct 139) k s fun r t => rn_9_quarrels ns ct R K n 214 L r t) := rfl
theorem rx_9_quarrels_214 {ns n ct R K s L k a x} : rn_9_quarrels ns ct R K (n + 1) 214 L (.inl (a, x) :: k) s = (sy_ri a x ∧ (x = 0 → rn_9_quarrels ns ct R K n 221 L k s) ∧ (¬ x = 0 → rn_9_quarrels ns ct R K n 217 L k s)) := rfl
theorem rx_9_quarrels_217 {ns n ct R K s L k} : rn_9_quarrels ns ct R K (n + 1) 217 L k s = (rn_9_quarrels ns ct R K n 218 L (.inl (true, 1) :: k) s) := rfl
theorem rx_9_quarrels_218 {ns n ct R K s L k} : rn_9_quarrels ns ct R K (n + 1) 218 L k s = (rn_9_quarrels ns ct R K n 222 L k s) := rfl
theorem rx_9_quarrels_221 {ns n ct R K s L k} : rn_9_quarrels ns ct R K (n + 1) 221 L k s = (rn_9_quarrels ns ct R K n 222 L (.inl (true, 0) :: k) s) := rfl
theorem rx_9_quarrels_222 {ns n ct R K s L k b z} : rn_9_quarrels ns ct R K (n + 1) 222 L (.inl (b, z) :: k) s = (sy_ri b z ∧ 6 < L.length ∧ rn_9_quarrels ns ct R K n 224 (sy_sto L 6 (.inl (true, z))) k s) := rfl
theorem rx_9_quarrels_224 {ns n ct R K s k z v0 v1 v2 v3 v4 v5 v6} : rn_9_quarrels ns ct R K (n + 1) 224 [v0, v1, v2, v3, v4, v5, v6, .inl (true, z)] k s = ((-2147483648 ≤ z + 1 ∧ z + 1 < 2147483648) ∧ rn_9_quarrels ns ct R K n 227 (sy_sto [v0, v1, v2, v3, v4, v5, v6, .inl (true, z)] 7 (.inl (true, z + 1))) k s) := rfl
theorem rx_9_quarrels_227 {ns n ct R K s L k} : rn_9_quarrels ns ct R K (n + 1) 227 L k s = (K 157 L k s) := rfl
theorem rx_9_quarrels_230 {ns n ct R K s k z v0 v1 v2 v3 v4 v5 v7} : rn_9_quarrels ns ct R K (n + 1) 230 [v0, v1, v2, v3, v4, v5, .inl (true, z), v7] k s = (rn_9_quarrels ns ct R K n 232 [v0, v1, v2, v3, v4, v5, .inl (true, z), v7] (.inl (true, z) :: k) s) := rfl
theorem rx_9_quarrels_232 {ns n ct R K s L k a x} : rn_9_quarrels ns ct R K (n + 1) 232 L (.inl (a, x) :: k) s = (sy_ri a x ∧ (x = 0 → rn_9_quarrels ns ct R K n 239 L k s) ∧ (¬ x = 0 → rn_9_quarrels ns ct R K n 235 L k s)) := rfl
theorem rx_9_quarrels_235 {ns n ct R K s L k} : rn_9_quarrels ns ct R K (n + 1) 235 L k s = (rn_9_quarrels ns ct R K n 236 L (.inl (true, 1) :: k) s) := rfl
theorem rx_9_quarrels_236 {ns n ct R K s L k} : rn_9_quarrels ns ct R K (n + 1) 236 L k s = (rn_9_quarrels ns ct R K n 240 L k s) := rfl
theorem rx_9_quarrels_239 {ns n ct R K s L k} : rn_9_quarrels ns ct R K (n + 1) 239 L k s = (rn_9_quarrels ns ct R K n 240 L (.inl (true, 0) :: k) s) := rfl
theorem rx_9_quarrels_240 {ns n ct R K s L a z} : rn_9_quarrels ns ct R K (n + 1) 240 L [.inl (a, z)] s = (sy_ri a z ∧ sy_b01 false z ∧ R (some (.inl (true, z))) s) := rfl
def y_9_dip : MethodName := ⟨"StarHideModel", "dip", "(III)I"⟩
abbrev c_9_dip : ByteArray := prog_11_method_42_code
def tc_9_dip (pc : Nat) : Option sy_I := match pc with
  | 0 => some (.aload_n 0, 1, 0)
  | 1 => some (.iload_n 1, 2, 0)
  | 2 => some (.invokevirtual 73, 5, 0)
  | 5 => some (.ifCond .eq 31, 8, 36)
  | 8 => some (.iload_n 2, 9, 0)
  | 9 => some (.invokestatic 77, 12, 0)
  | 12 => some (.ifCond .eq 24, 15, 36)
  | 15 => some (.iload_n 3, 16, 0)
  | 16 => some (.invokestatic 77, 19, 0)
  | 19 => some (.ifCond .eq 17, 22, 36)
  | 22 => some (.iload_n 2, 23, 0)
  | 23 => some (.iload_n 3, 24, 0)
  | 24 => some (.if_icmp .ge 12, 27, 36)
  | 27 => some (.aload_n 0, 28, 0)
  | 28 => some (.getfield 35, 31, 0)
  | 31 => some (.bipush 10, 33, 0)
  | 33 => some (.if_icmp .ne 5, 36, 38)
  | 36 => some (.iconst (-1), 37, 0)
  | 37 => some (.ireturn, 38, 0)
  | 38 => some (.aload_n 0, 39, 0)
  | 39 => some (.getfield 38, 42, 0)
  | 42 => some (.iconst 3, 43, 0)
  | 43 => some (.aload_n 0, 44, 0)
  | 44 => some (.getfield 35, 47, 0)
  | 47 => some (.imul, 48, 0)
  | 48 => some (.iload_n 1, 49, 0)
  | 49 => some (.iastore, 50, 0)
  | 50 => some (.aload_n 0, 51, 0)
  | 51 => some (.getfield 38, 54, 0)
  | 54 => some (.iconst 3, 55, 0)
  | 55 => some (.aload_n 0, 56, 0)
  | 56 => some (.getfield 35, 59, 0)
  | 59 => some (.imul, 60, 0)
  | 60 => some (.iconst 1, 61, 0)
  | 61 => some (.iadd, 62, 0)
  | 62 => some (.iload_n 2, 63, 0)
  | 63 => some (.iastore, 64, 0)
  | 64 => some (.aload_n 0, 65, 0)
  | 65 => some (.getfield 38, 68, 0)
  | 68 => some (.iconst 3, 69, 0)
  | 69 => some (.aload_n 0, 70, 0)
  | 70 => some (.getfield 35, 73, 0)
  | 73 => some (.imul, 74, 0)
  | 74 => some (.iconst 2, 75, 0)
  | 75 => some (.iadd, 76, 0)
  | 76 => some (.iload_n 3, 77, 0)
  | 77 => some (.iastore, 78, 0)
  | 78 => some (.aload_n 0, 79, 0)
  | 79 => some (.dup, 80, 0)
  | 80 => some (.getfield 35, 83, 0)
  | 83 => some (.iconst 1, 84, 0)
  | 84 => some (.iadd, 85, 0)
  | 85 => some (.putfield 35, 88, 0)
  | 88 => some (.aload_n 0, 89, 0)
  | 89 => some (.getfield 35, 92, 0)
  | 92 => some (.ireturn, 93, 0)
  | _ => none
theorem tv_9_dip : ∀ pc i, sy_lk 93 tc_9_dip pc = some i → sy_chk c_9_dip (some .int) false pc i = true := sy_lk_ok 93 tc_9_dip (by decide +kernel)
def Mk_9_dip (ct : Nat → Option (Bool × Nat × sy_Sp)) : sy_M := (sy_lk 93 tc_9_dip, ff_9, ki_9, kl_9, ct, false)
def rn_9_dip (ns : Nat) (ct : Nat → Option (Bool × Nat × sy_Sp)) (R : sy_R) (K : sy_K) : Nat → sy_K := sy_run ns (Mk_9_dip ct) [] R K
theorem rx_9_dip_0 {ns n ct R K s k z v1 v2 v3} : rn_9_dip ns ct R K (n + 1) 0 [.inr (.inr (some z)), v1, v2, v3] k s = (rn_9_dip ns ct R K n 1 [.inr (.inr (some z)), v1, v2, v3] (.inr (.inr (some z)) :: k) s) := rfl
theorem rx_9_dip_1 {ns n ct R K s k z v0 v2 v3} : rn_9_dip ns ct R K (n + 1) 1 [v0, .inl (true, z), v2, v3] k s = (rn_9_dip ns ct R K n 2 [v0, .inl (true, z), v2, v3] (.inl (true, z) :: k) s) := rfl
theorem rx_9_dip_2 {ns n ct R K s L k} : rn_9_dip ns ct R K (n + 1) 2 L k s = (sy_call false (ct 73) k s fun r t => rn_9_dip ns ct R K n 5 L r t) := rfl
theorem rx_9_dip_5 {ns n ct R K s L k a x} : rn_9_dip ns ct R K (n + 1) 5 L (.inl (a, x) :: k) s = (sy_ri a x ∧ (x = 0 → rn_9_dip ns ct R K n 36 L k s) ∧ (¬ x = 0 → rn_9_dip ns ct R K n 8 L k s)) := rfl
theorem rx_9_dip_8 {ns n ct R K s k z v0 v1 v3} : rn_9_dip ns ct R K (n + 1) 8 [v0, v1, .inl (true, z), v3] k s = (rn_9_dip ns ct R K n 9 [v0, v1, .inl (true, z), v3] (.inl (true, z) :: k) s) := rfl
theorem rx_9_dip_9 {ns n ct R K s L k} : rn_9_dip ns ct R K (n + 1) 9 L k s = (sy_call true (ct 77) k s fun r t => rn_9_dip ns ct R K n 12 L r t) := rfl
theorem rx_9_dip_12 {ns n ct R K s L k a x} : rn_9_dip ns ct R K (n + 1) 12 L (.inl (a, x) :: k) s = (sy_ri a x ∧ (x = 0 → rn_9_dip ns ct R K n 36 L k s) ∧ (¬ x = 0 → rn_9_dip ns ct R K n 15 L k s)) := rfl
theorem rx_9_dip_15 {ns n ct R K s k z v0 v1 v2} : rn_9_dip ns ct R K (n + 1) 15 [v0, v1, v2, .inl (true, z)] k s = (rn_9_dip ns ct R K n 16 [v0, v1, v2, .inl (true, z)] (.inl (true, z) :: k) s) := rfl
theorem rx_9_dip_16 {ns n ct R K s L k} : rn_9_dip ns ct R K (n + 1) 16 L k s = (sy_call true (ct 77) k s fun r t => rn_9_dip ns ct R K n 19 L r t) := rfl
theorem rx_9_dip_19 {ns n ct R K s L k a x} : rn_9_dip ns ct R K (n + 1) 19 L (.inl (a, x) :: k) s = (sy_ri a x ∧ (x = 0 → rn_9_dip ns ct R K n 36 L k s) ∧ (¬ x = 0 → rn_9_dip ns ct R K n 22 L k s)) := rfl
theorem rx_9_dip_22 {ns n ct R K s k z v0 v1 v3} : rn_9_dip ns ct R K (n + 1) 22 [v0, v1, .inl (true, z), v3] k s = (rn_9_dip ns ct R K n 23 [v0, v1, .inl (true, z), v3] (.inl (true, z) :: k) s) := rfl
theorem rx_9_dip_23 {ns n ct R K s k z v0 v1 v2} : rn_9_dip ns ct R K (n + 1) 23 [v0, v1, v2, .inl (true, z)] k s = (rn_9_dip ns ct R K n 24 [v0, v1, v2, .inl (true, z)] (.inl (true, z) :: k) s) := rfl
theorem rx_9_dip_24 {ns n ct R K s L k a b x y} : rn_9_dip ns ct R K (n + 1) 24 L (.inl (b, y) :: .inl (a, x) :: k) s = (sy_ri a x ∧ sy_ri b y ∧ (y ≤ x → rn_9_dip ns ct R K n 36 L k s) ∧ (¬ y ≤ x → rn_9_dip ns ct R K n 27 L k s)) := rfl
theorem rx_9_dip_27 {ns n ct R K s k z v1 v2 v3} : rn_9_dip ns ct R K (n + 1) 27 [.inr (.inr (some z)), v1, v2, v3] k s = (rn_9_dip ns ct R K n 28 [.inr (.inr (some z)), v1, v2, v3] (.inr (.inr (some z)) :: k) s) := rfl
theorem rx_9_dip_28 {ns n ct R K s L k a} : rn_9_dip ns ct R K (n + 1) 28 L (.inr (.inr (some (some a))) :: k) s = (sy_ob a = some 9 ∧ rn_9_dip ns ct R K n 31 L (sy_fv s a 8 :: k) s) := rfl
theorem rx_9_dip_31 {ns n ct R K s L k} : rn_9_dip ns ct R K (n + 1) 31 L k s = (rn_9_dip ns ct R K n 33 L (.inl (true, 10) :: k) s) := rfl
theorem rx_9_dip_33 {ns n ct R K s L k a b x y} : rn_9_dip ns ct R K (n + 1) 33 L (.inl (b, y) :: .inl (a, x) :: k) s = (sy_ri a x ∧ sy_ri b y ∧ (¬ x = y → rn_9_dip ns ct R K n 38 L k s) ∧ (x = y → rn_9_dip ns ct R K n 36 L k s)) := rfl
theorem rx_9_dip_36 {ns n ct R K s L k} : rn_9_dip ns ct R K (n + 1) 36 L k s = (rn_9_dip ns ct R K n 37 L (.inl (true, (-1)) :: k) s) := rfl
theorem rx_9_dip_37 {ns n ct R K s L a z} : rn_9_dip ns ct R K (n + 1) 37 L [.inl (a, z)] s = (sy_ri a z ∧ sy_b01 false z ∧ R (some (.inl (true, z))) s) := rfl
theorem rx_9_dip_38 {ns n ct R K s k z v1 v2 v3} : rn_9_dip ns ct R K (n + 1) 38 [.inr (.inr (some z)), v1, v2, v3] k s = (rn_9_dip ns ct R K n 39 [.inr (.inr (some z)), v1, v2, v3] (.inr (.inr (some z)) :: k) s) := rfl
theorem rx_9_dip_39 {ns n ct R K s L k a} : rn_9_dip ns ct R K (n + 1) 39 L (.inr (.inr (some (some a))) :: k) s = (sy_ob a = some 9 ∧ rn_9_dip ns ct R K n 42 L (sy_fv s a 9 :: k) s) := rfl
theorem rx_9_dip_42 {ns n ct R K s L k} : rn_9_dip ns ct R K (n + 1) 42 L k s = (rn_9_dip ns ct R K n 43 L (.inl (true, 3) :: k) s) := rfl
theorem rx_9_dip_43 {ns n ct R K s k z v1 v2 v3} : rn_9_dip ns ct R K (n + 1) 43 [.inr (.inr (some z)), v1, v2, v3] k s = (rn_9_dip ns ct R K n 44 [.inr (.inr (some z)), v1, v2, v3] (.inr (.inr (some z)) :: k) s) := rfl
theorem rx_9_dip_44 {ns n ct R K s L k a} : rn_9_dip ns ct R K (n + 1) 44 L (.inr (.inr (some (some a))) :: k) s = (sy_ob a = some 9 ∧ rn_9_dip ns ct R K n 47 L (sy_fv s a 8 :: k) s) := rfl
theorem rx_9_dip_47 {ns n ct R K s L k a b x y} : rn_9_dip ns ct R K (n + 1) 47 L (.inl (b, y) :: .inl (a, x) :: k) s = (rn_9_dip ns ct R K n 48 L (.inl (false, x * y) :: k) s) := rfl
theorem rx_9_dip_48 {ns n ct R K s k z v0 v2 v3} : rn_9_dip ns ct R K (n + 1) 48 [v0, .inl (true, z), v2, v3] k s = (rn_9_dip ns ct R K n 49 [v0, .inl (true, z), v2, v3] (.inl (true, z) :: k) s) := rfl
theorem rx_9_dip_49 {ns n ct R K s L k a b c z y} : rn_9_dip ns ct R K (n + 1) 49 L (.inl (c, y) :: .inl (b, z) :: .inr (.inr (some (some a))) :: k) s = (sy_ri c y ∧ (0 ≤ z ∧ z < (sy_ar a).2) ∧ sy_ob a = none ∧ (sy_ar a).1 = 0 ∧ rn_9_dip ns ct R K n 50 L k (sy_up s a z.toNat y)) := rfl
theorem rx_9_dip_50 {ns n ct R K s k z v1 v2 v3} : rn_9_dip ns ct R K (n + 1) 50 [.inr (.inr (some z)), v1, v2, v3] k s = (rn_9_dip ns ct R K n 51 [.inr (.inr (some z)), v1, v2, v3] (.inr (.inr (some z)) :: k) s) := rfl
theorem rx_9_dip_51 {ns n ct R K s L k a} : rn_9_dip ns ct R K (n + 1) 51 L (.inr (.inr (some (some a))) :: k) s = (sy_ob a = some 9 ∧ rn_9_dip ns ct R K n 54 L (sy_fv s a 9 :: k) s) := rfl
theorem rx_9_dip_54 {ns n ct R K s L k} : rn_9_dip ns ct R K (n + 1) 54 L k s = (rn_9_dip ns ct R K n 55 L (.inl (true, 3) :: k) s) := rfl
theorem rx_9_dip_55 {ns n ct R K s k z v1 v2 v3} : rn_9_dip ns ct R K (n + 1) 55 [.inr (.inr (some z)), v1, v2, v3] k s = (rn_9_dip ns ct R K n 56 [.inr (.inr (some z)), v1, v2, v3] (.inr (.inr (some z)) :: k) s) := rfl
theorem rx_9_dip_56 {ns n ct R K s L k a} : rn_9_dip ns ct R K (n + 1) 56 L (.inr (.inr (some (some a))) :: k) s = (sy_ob a = some 9 ∧ rn_9_dip ns ct R K n 59 L (sy_fv s a 8 :: k) s) := rfl
theorem rx_9_dip_59 {ns n ct R K s L k a b x y} : rn_9_dip ns ct R K (n + 1) 59 L (.inl (b, y) :: .inl (a, x) :: k) s = (rn_9_dip ns ct R K n 60 L (.inl (false, x * y) :: k) s) := rfl
theorem rx_9_dip_60 {ns n ct R K s L k} : rn_9_dip ns ct R K (n + 1) 60 L k s = (rn_9_dip ns ct R K n 61 L (.inl (true, 1) :: k) s) := rfl
theorem rx_9_dip_61 {ns n ct R K s L k a b x y} : rn_9_dip ns ct R K (n + 1) 61 L (.inl (b, y) :: .inl (a, x) :: k) s = (rn_9_dip ns ct R K n 62 L (.inl (false, x + y) :: k) s) := rfl
theorem rx_9_dip_62 {ns n ct R K s k z v0 v1 v3} : rn_9_dip ns ct R K (n + 1) 62 [v0, v1, .inl (true, z), v3] k s = (rn_9_dip ns ct R K n 63 [v0, v1, .inl (true, z), v3] (.inl (true, z) :: k) s) := rfl
theorem rx_9_dip_63 {ns n ct R K s L k a b c z y} : rn_9_dip ns ct R K (n + 1) 63 L (.inl (c, y) :: .inl (b, z) :: .inr (.inr (some (some a))) :: k) s = (sy_ri c y ∧ (0 ≤ z ∧ z < (sy_ar a).2) ∧ sy_ob a = none ∧ (sy_ar a).1 = 0 ∧ rn_9_dip ns ct R K n 64 L k (sy_up s a z.toNat y)) := rfl
theorem rx_9_dip_64 {ns n ct R K s k z v1 v2 v3} : rn_9_dip ns ct R K (n + 1) 64 [.inr (.inr (some z)), v1, v2, v3] k s = (rn_9_dip ns ct R K n 65 [.inr (.inr (some z)), v1, v2, v3] (.inr (.inr (some z)) :: k) s) := rfl
theorem rx_9_dip_65 {ns n ct R K s L k a} : rn_9_dip ns ct R K (n + 1) 65 L (.inr (.inr (some (some a))) :: k) s = (sy_ob a = some 9 ∧ rn_9_dip ns ct R K n 68 L (sy_fv s a 9 :: k) s) := rfl
theorem rx_9_dip_68 {ns n ct R K s L k} : rn_9_dip ns ct R K (n + 1) 68 L k s = (rn_9_dip ns ct R K n 69 L (.inl (true, 3) :: k) s) := rfl
theorem rx_9_dip_69 {ns n ct R K s k z v1 v2 v3} : rn_9_dip ns ct R K (n + 1) 69 [.inr (.inr (some z)), v1, v2, v3] k s = (rn_9_dip ns ct R K n 70 [.inr (.inr (some z)), v1, v2, v3] (.inr (.inr (some z)) :: k) s) := rfl
theorem rx_9_dip_70 {ns n ct R K s L k a} : rn_9_dip ns ct R K (n + 1) 70 L (.inr (.inr (some (some a))) :: k) s = (sy_ob a = some 9 ∧ rn_9_dip ns ct R K n 73 L (sy_fv s a 8 :: k) s) := rfl
theorem rx_9_dip_73 {ns n ct R K s L k a b x y} : rn_9_dip ns ct R K (n + 1) 73 L (.inl (b, y) :: .inl (a, x) :: k) s = (rn_9_dip ns ct R K n 74 L (.inl (false, x * y) :: k) s) := rfl
theorem rx_9_dip_74 {ns n ct R K s L k} : rn_9_dip ns ct R K (n + 1) 74 L k s = (rn_9_dip ns ct R K n 75 L (.inl (true, 2) :: k) s) := rfl
theorem rx_9_dip_75 {ns n ct R K s L k a b x y} : rn_9_dip ns ct R K (n + 1) 75 L (.inl (b, y) :: .inl (a, x) :: k) s = (rn_9_dip ns ct R K n 76 L (.inl (false, x + y) :: k) s) := rfl
theorem rx_9_dip_76 {ns n ct R K s k z v0 v1 v2} : rn_9_dip ns ct R K (n + 1) 76 [v0, v1, v2, .inl (true, z)] k s = (rn_9_dip ns ct R K n 77 [v0, v1, v2, .inl (true, z)] (.inl (true, z) :: k) s) := rfl
theorem rx_9_dip_77 {ns n ct R K s L k a b c z y} : rn_9_dip ns ct R K (n + 1) 77 L (.inl (c, y) :: .inl (b, z) :: .inr (.inr (some (some a))) :: k) s = (sy_ri c y ∧ (0 ≤ z ∧ z < (sy_ar a).2) ∧ sy_ob a = none ∧ (sy_ar a).1 = 0 ∧ rn_9_dip ns ct R K n 78 L k (sy_up s a z.toNat y)) := rfl
theorem rx_9_dip_78 {ns n ct R K s k z v1 v2 v3} : rn_9_dip ns ct R K (n + 1) 78 [.inr (.inr (some z)), v1, v2, v3] k s = (rn_9_dip ns ct R K n 79 [.inr (.inr (some z)), v1, v2, v3] (.inr (.inr (some z)) :: k) s) := rfl
theorem rx_9_dip_79_i {ns n ct R K s L k a} : rn_9_dip ns ct R K (n + 1) 79 L (.inl a :: k) s = (rn_9_dip ns ct R K n 80 L (.inl a :: .inl a :: k) s) := rfl
theorem rx_9_dip_79 {ns n ct R K s L k a} : rn_9_dip ns ct R K (n + 1) 79 L (.inr (.inr a) :: k) s = (rn_9_dip ns ct R K n 80 L (.inr (.inr a) :: .inr (.inr a) :: k) s) := rfl
theorem rx_9_dip_80 {ns n ct R K s L k a} : rn_9_dip ns ct R K (n + 1) 80 L (.inr (.inr (some (some a))) :: k) s = (sy_ob a = some 9 ∧ rn_9_dip ns ct R K n 83 L (sy_fv s a 8 :: k) s) := rfl
theorem rx_9_dip_83 {ns n ct R K s L k} : rn_9_dip ns ct R K (n + 1) 83 L k s = (rn_9_dip ns ct R K n 84 L (.inl (true, 1) :: k) s) := rfl
theorem rx_9_dip_84 {ns n ct R K s L k a b x y} : rn_9_dip ns ct R K (n + 1) 84 L (.inl (b, y) :: .inl (a, x) :: k) s = (rn_9_dip ns ct R K n 85 L (.inl (false, x + y) :: k) s) := rfl
theorem rx_9_dip_85 {ns n ct R K s L k a b z} : rn_9_dip ns ct R K (n + 1) 85 L (.inl (b, z) :: .inr (.inr (some (some a))) :: k) s = (sy_ob a = some 9 ∧ sy_ri b z ∧ sy_b01 false z ∧ rn_9_dip ns ct R K n 88 L k (sy_up s a 8 z)) := rfl
theorem rx_9_dip_88 {ns n ct R K s k z v1 v2 v3} : rn_9_dip ns ct R K (n + 1) 88 [.inr (.inr (some z)), v1, v2, v3] k s = (rn_9_dip ns ct R K n 89 [.inr (.inr (some z)), v1, v2, v3] (.inr (.inr (some z)) :: k) s) := rfl
theorem rx_9_dip_89 {ns n ct R K s L k a} : rn_9_dip ns ct R K (n + 1) 89 L (.inr (.inr (some (some a))) :: k) s = (sy_ob a = some 9 ∧ rn_9_dip ns ct R K n 92 L (sy_fv s a 8 :: k) s) := rfl
theorem rx_9_dip_92 {ns n ct R K s L a z} : rn_9_dip ns ct R K (n + 1) 92 L [.inl (a, z)] s = (sy_ri a z ∧ sy_b01 false z ∧ R (some (.inl (true, z))) s) := rfl
def y_9_even : MethodName := ⟨"StarHideModel", "even", "(I)I"⟩
abbrev c_9_even : ByteArray := prog_11_method_43_code
def tc_9_even (pc : Nat) : Option sy_I := match pc with
  | 0 => some (.iload_n 1, 1, 0)
  | 1 => some (.iconst 0, 2, 0)
  | 2 => some (.sipush 1000, 5, 0)
  | 5 => some (.invokestatic 69, 8, 0)
  | 8 => some (.ifCond .ne 5, 11, 13)
  | 11 => some (.iconst (-1), 12, 0)
  | 12 => some (.ireturn, 13, 0)
  | 13 => some (.aload_n 0, 14, 0)
  | 14 => some (.getfield 41, 17, 0)
  | 17 => some (.istore_n 2, 18, 0)
  | 18 => some (.aload_n 0, 19, 0)
  | 19 => some (.iload_n 1, 20, 0)
  | 20 => some (.putfield 41, 23, 0)
  | 23 => some (.iload_n 2, 24, 0)
  | 24 => some (.ireturn, 25, 0)
  | _ => none
theorem tv_9_even : ∀ pc i, sy_lk 25 tc_9_even pc = some i → sy_chk c_9_even (some .int) false pc i = true := sy_lk_ok 25 tc_9_even (by decide +kernel)
def Mk_9_even (ct : Nat → Option (Bool × Nat × sy_Sp)) : sy_M := (sy_lk 25 tc_9_even, ff_9, ki_9, kl_9, ct, false)
def rn_9_even (ns : Nat) (ct : Nat → Option (Bool × Nat × sy_Sp)) (R : sy_R) (K : sy_K) : Nat → sy_K := sy_run ns (Mk_9_even ct) [] R K
theorem rx_9_even_0 {ns n ct R K s k z v0 v2} : rn_9_even ns ct R K (n + 1) 0 [v0, .inl (true, z), v2] k s = (rn_9_even ns ct R K n 1 [v0, .inl (true, z), v2] (.inl (true, z) :: k) s) := rfl
theorem rx_9_even_1 {ns n ct R K s L k} : rn_9_even ns ct R K (n + 1) 1 L k s = (rn_9_even ns ct R K n 2 L (.inl (true, 0) :: k) s) := rfl
theorem rx_9_even_2 {ns n ct R K s L k} : rn_9_even ns ct R K (n + 1) 2 L k s = (rn_9_even ns ct R K n 5 L (.inl (true, 1000) :: k) s) := rfl
theorem rx_9_even_5 {ns n ct R K s L k} : rn_9_even ns ct R K (n + 1) 5 L k s = (sy_call true (ct 69) k s fun r t => rn_9_even ns ct R K n 8 L r t) := rfl
theorem rx_9_even_8 {ns n ct R K s L k a x} : rn_9_even ns ct R K (n + 1) 8 L (.inl (a, x) :: k) s = (sy_ri a x ∧ (¬ x = 0 → rn_9_even ns ct R K n 13 L k s) ∧ (x = 0 → rn_9_even ns ct R K n 11 L k s)) := rfl
theorem rx_9_even_11 {ns n ct R K s L k} : rn_9_even ns ct R K (n + 1) 11 L k s = (rn_9_even ns ct R K n 12 L (.inl (true, (-1)) :: k) s) := rfl
theorem rx_9_even_12 {ns n ct R K s L a z} : rn_9_even ns ct R K (n + 1) 12 L [.inl (a, z)] s = (sy_ri a z ∧ sy_b01 false z ∧ R (some (.inl (true, z))) s) := rfl
theorem rx_9_even_13 {ns n ct R K s k z v1 v2} : rn_9_even ns ct R K (n + 1) 13 [.inr (.inr (some z)), v1, v2] k s = (rn_9_even ns ct R K n 14 [.inr (.inr (some z)), v1, v2] (.inr (.inr (some z)) :: k) s) := rfl
theorem rx_9_even_14 {ns n ct R K s L k a} : rn_9_even ns ct R K (n + 1) 14 L (.inr (.inr (some (some a))) :: k) s = (sy_ob a = some 9 ∧ rn_9_even ns ct R K n 17 L (sy_fv s a 10 :: k) s) := rfl
theorem rx_9_even_17 {ns n ct R K s L k b z} : rn_9_even ns ct R K (n + 1) 17 L (.inl (b, z) :: k) s = (sy_ri b z ∧ 2 < L.length ∧ rn_9_even ns ct R K n 18 (sy_sto L 2 (.inl (true, z))) k s) := rfl
theorem rx_9_even_18 {ns n ct R K s k z v1 v2} : rn_9_even ns ct R K (n + 1) 18 [.inr (.inr (some z)), v1, v2] k s = (rn_9_even ns ct R K n 19 [.inr (.inr (some z)), v1, v2] (.inr (.inr (some z)) :: k) s) := rfl
theorem rx_9_even_19 {ns n ct R K s k z v0 v2} : rn_9_even ns ct R K (n + 1) 19 [v0, .inl (true, z), v2] k s = (rn_9_even ns ct R K n 20 [v0, .inl (true, z), v2] (.inl (true, z) :: k) s) := rfl
theorem rx_9_even_20 {ns n ct R K s L k a b z} : rn_9_even ns ct R K (n + 1) 20 L (.inl (b, z) :: .inr (.inr (some (some a))) :: k) s = (sy_ob a = some 9 ∧ sy_ri b z ∧ sy_b01 false z ∧ rn_9_even ns ct R K n 23 L k (sy_up s a 10 z)) := rfl
theorem rx_9_even_23 {ns n ct R K s k z v0 v1} : rn_9_even ns ct R K (n + 1) 23 [v0, v1, .inl (true, z)] k s = (rn_9_even ns ct R K n 24 [v0, v1, .inl (true, z)] (.inl (true, z) :: k) s) := rfl
theorem rx_9_even_24 {ns n ct R K s L a z} : rn_9_even ns ct R K (n + 1) 24 L [.inl (a, z)] s = (sy_ri a z ∧ sy_b01 false z ∧ R (some (.inl (true, z))) s) := rfl
def y_9_calm : MethodName := ⟨"StarHideModel", "calm", "()I"⟩
abbrev c_9_calm : ByteArray := prog_11_method_44_code
def tc_9_calm (pc : Nat) : Option sy_I := match pc with
  | 0 => some (.aload_n 0, 1, 0)
  | 1 => some (.getfield 35, 4, 0)
  | 4 => some (.istore_n 1, 5, 0)
  | 5 => some (.aload_n 0, 6, 0)
  | 6 => some (.iconst 0, 7, 0)
  | 7 => some (.putfield 35, 10, 0)
  | 10 => some (.iload_n 1, 11, 0)
  | 11 => some (.ireturn, 12, 0)
  | _ => none
theorem tv_9_calm : ∀ pc i, sy_lk 12 tc_9_calm pc = some i → sy_chk c_9_calm (some .int) false pc i = true := sy_lk_ok 12 tc_9_calm (by decide +kernel)
def Mk_9_calm (ct : Nat → Option (Bool × Nat × sy_Sp)) : sy_M := (sy_lk 12 tc_9_calm, ff_9, ki_9, kl_9, ct, false)
def rn_9_calm (ns : Nat) (ct : Nat → Option (Bool × Nat × sy_Sp)) (R : sy_R) (K : sy_K) : Nat → sy_K := sy_run ns (Mk_9_calm ct) [] R K
theorem rx_9_calm_0 {ns n ct R K s k z v1} : rn_9_calm ns ct R K (n + 1) 0 [.inr (.inr (some z)), v1] k s = (rn_9_calm ns ct R K n 1 [.inr (.inr (some z)), v1] (.inr (.inr (some z)) :: k) s) := rfl
theorem rx_9_calm_1 {ns n ct R K s L k a} : rn_9_calm ns ct R K (n + 1) 1 L (.inr (.inr (some (some a))) :: k) s = (sy_ob a = some 9 ∧ rn_9_calm ns ct R K n 4 L (sy_fv s a 8 :: k) s) := rfl
theorem rx_9_calm_4 {ns n ct R K s L k b z} : rn_9_calm ns ct R K (n + 1) 4 L (.inl (b, z) :: k) s = (sy_ri b z ∧ 1 < L.length ∧ rn_9_calm ns ct R K n 5 (sy_sto L 1 (.inl (true, z))) k s) := rfl
theorem rx_9_calm_5 {ns n ct R K s k z v1} : rn_9_calm ns ct R K (n + 1) 5 [.inr (.inr (some z)), v1] k s = (rn_9_calm ns ct R K n 6 [.inr (.inr (some z)), v1] (.inr (.inr (some z)) :: k) s) := rfl
theorem rx_9_calm_6 {ns n ct R K s L k} : rn_9_calm ns ct R K (n + 1) 6 L k s = (rn_9_calm ns ct R K n 7 L (.inl (true, 0) :: k) s) := rfl
theorem rx_9_calm_7 {ns n ct R K s L k a b z} : rn_9_calm ns ct R K (n + 1) 7 L (.inl (b, z) :: .inr (.inr (some (some a))) :: k) s = (sy_ob a = some 9 ∧ sy_ri b z ∧ sy_b01 false z ∧ rn_9_calm ns ct R K n 10 L k (sy_up s a 8 z)) := rfl
theorem rx_9_calm_10 {ns n ct R K s k z v0} : rn_9_calm ns ct R K (n + 1) 10 [v0, .inl (true, z)] k s = (rn_9_calm ns ct R K n 11 [v0, .inl (true, z)] (.inl (true, z) :: k) s) := rfl
theorem rx_9_calm_11 {ns n ct R K s L a z} : rn_9_calm ns ct R K (n + 1) 11 L [.inl (a, z)] s = (sy_ri a z ∧ sy_b01 false z ∧ R (some (.inl (true, z))) s) := rfl
def y_9_ring : MethodName := ⟨"StarHideModel", "ring", "(II)J"⟩
abbrev c_9_ring : ByteArray := prog_11_method_45_code
def tc_9_ring (pc : Nat) : Option sy_I := match pc with
  | 0 => some (.aload_n 0, 1, 0)
  | 1 => some (.iload_n 1, 2, 0)
  | 2 => some (.invokevirtual 93, 5, 0)
  | 5 => some (.ifCond .eq 12, 8, 17)
  | 8 => some (.iload_n 2, 9, 0)
  | 9 => some (.iconst 0, 10, 0)
  | 10 => some (.iconst 2, 11, 0)
  | 11 => some (.invokestatic 69, 14, 0)
  | 14 => some (.ifCond .ne 7, 17, 21)
  | 17 => some (.ldc2_w 143, 20, 0)
  | 20 => some (.lreturn, 21, 0)
  | 21 => some (.aload_n 0, 22, 0)
  | 22 => some (.iload_n 1, 23, 0)
  | 23 => some (.iconst 0, 24, 0)
  | 24 => some (.invokevirtual 96, 27, 0)
  | 27 => some (.i2l, 28, 0)
  | 28 => some (.lstore_n 3, 29, 0)
  | 29 => some (.iconst 0, 30, 0)
  | 30 => some (.istore 5, 32, 0)
  | 32 => some (.ldc2_w 143, 35, 0)
  | 35 => some (.lstore 6, 37, 0)
  | 37 => some (.ldc2_w 143, 40, 0)
  | 40 => some (.lstore 8, 42, 0)
  | 42 => some (.iconst 0, 43, 0)
  | 43 => some (.istore 10, 45, 0)
  | 45 => some (.iload 10, 47, 0)
  | 47 => some (.aload_n 0, 48, 0)
  | 48 => some (.getfield 35, 51, 0)
  | 51 => some (.if_icmp .ge 230, 54, 281)
  | 54 => some (.aload_n 0, 55, 0)
  | 55 => some (.getfield 38, 58, 0)
  | 58 => some (.iconst 3, 59, 0)
  | 59 => some (.iload 10, 61, 0)
  | 61 => some (.imul, 62, 0)
  | 62 => some (.iaload, 63, 0)
  | 63 => some (.istore 11, 65, 0)
  | 65 => some (.aload_n 0, 66, 0)
  | 66 => some (.iload 11, 68, 0)
  | 68 => some (.aload_n 0, 69, 0)
  | 69 => some (.getfield 38, 72, 0)
  | 72 => some (.iconst 3, 73, 0)
  | 73 => some (.iload 10, 75, 0)
  | 75 => some (.imul, 76, 0)
  | 76 => some (.iconst 1, 77, 0)
  | 77 => some (.iadd, 78, 0)
  | 78 => some (.iaload, 79, 0)
  | 79 => some (.invokevirtual 84, 82, 0)
  | 82 => some (.i2l, 83, 0)
  | 83 => some (.lstore 12, 85, 0)
  | 85 => some (.aload_n 0, 86, 0)
  | 86 => some (.iload 11, 88, 0)
  | 88 => some (.aload_n 0, 89, 0)
  | 89 => some (.getfield 38, 92, 0)
  | 92 => some (.iconst 3, 93, 0)
  | 93 => some (.iload 10, 95, 0)
  | 95 => some (.imul, 96, 0)
  | 96 => some (.iconst 2, 97, 0)
  | 97 => some (.iadd, 98, 0)
  | 98 => some (.iaload, 99, 0)
  | 99 => some (.invokevirtual 84, 102, 0)
  | 102 => some (.i2l, 103, 0)
  | 103 => some (.lstore 14, 105, 0)
  | 105 => some (.lload 12, 107, 0)
  | 107 => some (.lload 14, 109, 0)
  | 109 => some (.ladd, 110, 0)
  | 110 => some (.ldc2_w 145, 113, 0)
  | 113 => some (.lload_n 3, 114, 0)
  | 114 => some (.lmul, 115, 0)
  | 115 => some (.lsub, 116, 0)
  | 116 => some (.lstore 16, 118, 0)
  | 118 => some (.iload 5, 120, 0)
  | 120 => some (.lload 16, 122, 0)
  | 122 => some (.lconst 0, 123, 0)
  | 123 => some (.lcmp, 124, 0)
  | 124 => some (.ifCond .ge 9, 127, 133)
  | 127 => some (.lload 16, 129, 0)
  | 129 => some (.lneg, 130, 0)
  | 130 => some (.goto 5, 133, 135)
  | 133 => some (.lload 16, 135, 0)
  | 135 => some (.aload_n 0, 136, 0)
  | 136 => some (.getfield 41, 139, 0)
  | 139 => some (.i2l, 140, 0)
  | 140 => some (.lcmp, 141, 0)
  | 141 => some (.ifCond .gt 7, 144, 148)
  | 144 => some (.iconst 1, 145, 0)
  | 145 => some (.goto 4, 148, 149)
  | 148 => some (.iconst 0, 149, 0)
  | 149 => some (.iadd, 150, 0)
  | 150 => some (.istore 5, 152, 0)
  | 152 => some (.lload 12, 154, 0)
  | 154 => some (.lload_n 3, 155, 0)
  | 155 => some (.lsub, 156, 0)
  | 156 => some (.aload_n 0, 157, 0)
  | 157 => some (.getfield 16, 160, 0)
  | 160 => some (.iload 11, 162, 0)
  | 162 => some (.iaload, 163, 0)
  | 163 => some (.aload_n 0, 164, 0)
  | 164 => some (.iload_n 1, 165, 0)
  | 165 => some (.iconst 1, 166, 0)
  | 166 => some (.invokevirtual 96, 169, 0)
  | 169 => some (.isub, 170, 0)
  | 170 => some (.i2l, 171, 0)
  | 171 => some (.invokestatic 128, 174, 0)
  | 174 => some (.lstore 18, 176, 0)
  | 176 => some (.lload 14, 178, 0)
  | 178 => some (.lload_n 3, 179, 0)
  | 179 => some (.lsub, 180, 0)
  | 180 => some (.aload_n 0, 181, 0)
  | 181 => some (.getfield 16, 184, 0)
  | 184 => some (.iload 11, 186, 0)
  | 186 => some (.iaload, 187, 0)
  | 187 => some (.aload_n 0, 188, 0)
  | 188 => some (.iload_n 1, 189, 0)
  | 189 => some (.iconst 1, 190, 0)
  | 190 => some (.invokevirtual 96, 193, 0)
  | 193 => some (.isub, 194, 0)
  | 194 => some (.i2l, 195, 0)
  | 195 => some (.invokestatic 128, 198, 0)
  | 198 => some (.lstore 20, 200, 0)
  | 200 => some (.lload 6, 202, 0)
  | 202 => some (.lconst 0, 203, 0)
  | 203 => some (.lcmp, 204, 0)
  | 204 => some (.ifCond .lt 11, 207, 215)
  | 207 => some (.lload 18, 209, 0)
  | 209 => some (.lload 6, 211, 0)
  | 211 => some (.lcmp, 212, 0)
  | 212 => some (.ifCond .ge 8, 215, 220)
  | 215 => some (.lload 18, 217, 0)
  | 217 => some (.goto 5, 220, 222)
  | 220 => some (.lload 6, 222, 0)
  | 222 => some (.lstore 6, 224, 0)
  | 224 => some (.lload 20, 226, 0)
  | 226 => some (.lload 6, 228, 0)
  | 228 => some (.lcmp, 229, 0)
  | 229 => some (.ifCond .ge 8, 232, 237)
  | 232 => some (.lload 20, 234, 0)
  | 234 => some (.goto 5, 237, 239)
  | 237 => some (.lload 6, 239, 0)
  | 239 => some (.lstore 6, 241, 0)
  | 241 => some (.lload 18, 243, 0)
  | 243 => some (.lload 8, 245, 0)
  | 245 => some (.lcmp, 246, 0)
  | 246 => some (.ifCond .le 8, 249, 254)
  | 249 => some (.lload 18, 251, 0)
  | 251 => some (.goto 5, 254, 256)
  | 254 => some (.lload 8, 256, 0)
  | 256 => some (.lstore 8, 258, 0)
  | 258 => some (.lload 20, 260, 0)
  | 260 => some (.lload 8, 262, 0)
  | 262 => some (.lcmp, 263, 0)
  | 263 => some (.ifCond .le 8, 266, 271)
  | 266 => some (.lload 20, 268, 0)
  | 268 => some (.goto 5, 271, 273)
  | 271 => some (.lload 8, 273, 0)
  | 273 => some (.lstore 8, 275, 0)
  | 275 => some (.iinc 10 1, 278, 0)
  | 278 => some (.goto (-233), 281, 45)
  | 281 => some (.iload_n 2, 282, 0)
  | 282 => some (.ifCond .ne 7, 285, 289)
  | 285 => some (.iload 5, 287, 0)
  | 287 => some (.i2l, 288, 0)
  | 288 => some (.lreturn, 289, 0)
  | 289 => some (.iload 5, 291, 0)
  | 291 => some (.aload_n 0, 292, 0)
  | 292 => some (.getfield 35, 295, 0)
  | 295 => some (.if_icmp .lt 10, 298, 305)
  | 298 => some (.aload_n 0, 299, 0)
  | 299 => some (.getfield 35, 302, 0)
  | 302 => some (.ifCond .ne 7, 305, 309)
  | 305 => some (.ldc2_w 143, 308, 0)
  | 308 => some (.lreturn, 309, 0)
  | 309 => some (.iload_n 2, 310, 0)
  | 310 => some (.iconst 1, 311, 0)
  | 311 => some (.if_icmp .ne 8, 314, 319)
  | 314 => some (.lload 6, 316, 0)
  | 316 => some (.goto 5, 319, 321)
  | 319 => some (.lload 8, 321, 0)
  | 321 => some (.lreturn, 322, 0)
  | _ => none
theorem tv_9_ring : ∀ pc i, sy_lk 322 tc_9_ring pc = some i → sy_chk c_9_ring (some .long) false pc i = true := sy_lk_ok 322 tc_9_ring (by decide +kernel)
def Mk_9_ring (ct : Nat → Option (Bool × Nat × sy_Sp)) : sy_M := (sy_lk 322 tc_9_ring, ff_9, ki_9, kl_9, ct, false)
def rn_9_ring (ns : Nat) (ct : Nat → Option (Bool × Nat × sy_Sp)) (R : sy_R) (K : sy_K) : Nat → sy_K := sy_run ns (Mk_9_ring ct) [45] R K
theorem rx_9_ring_0 {ns n ct R K s k z v1 v2 v3 v4 v5 v6 v7 v8 v9 v10 v11 v12 v13 v14 v15 v16 v17 v18 v19 v20 v21} : rn_9_ring ns ct R K (n + 1) 0 [.inr (.inr (some z)), v1, v2, v3, v4, v5, v6, v7, v8, v9, v10, v11, v12, v13, v14, v15, v16, v17, v18, v19, v20, v21] k s = (rn_9_ring ns ct R K n 1 [.inr (.inr (some z)), v1, v2, v3, v4, v5, v6, v7, v8, v9, v10, v11, v12, v13, v14, v15, v16, v17, v18, v19, v20, v21] (.inr (.inr (some z)) :: k) s) := rfl
theorem rx_9_ring_1 {ns n ct R K s k z v0 v2 v3 v4 v5 v6 v7 v8 v9 v10 v11 v12 v13 v14 v15 v16 v17 v18 v19 v20 v21} : rn_9_ring ns ct R K (n + 1) 1 [v0, .inl (true, z), v2, v3, v4, v5, v6, v7, v8, v9, v10, v11, v12, v13, v14, v15, v16, v17, v18, v19, v20, v21] k s = (rn_9_ring ns ct R K n 2 [v0, .inl (true, z), v2, v3, v4, v5, v6, v7, v8, v9, v10, v11, v12, v13, v14, v15, v16, v17, v18, v19, v20, v21] (.inl (true, z) :: k) s) := rfl
theorem rx_9_ring_2 {ns n ct R K s L k} : rn_9_ring ns ct R K (n + 1) 2 L k s = (sy_call false (ct 93) k s fun r t => rn_9_ring ns ct R K n 5 L r t) := rfl
theorem rx_9_ring_5 {ns n ct R K s L k a x} : rn_9_ring ns ct R K (n + 1) 5 L (.inl (a, x) :: k) s = (sy_ri a x ∧ (x = 0 → rn_9_ring ns ct R K n 17 L k s) ∧ (¬ x = 0 → rn_9_ring ns ct R K n 8 L k s)) := rfl
theorem rx_9_ring_8 {ns n ct R K s k z v0 v1 v3 v4 v5 v6 v7 v8 v9 v10 v11 v12 v13 v14 v15 v16 v17 v18 v19 v20 v21} : rn_9_ring ns ct R K (n + 1) 8 [v0, v1, .inl (true, z), v3, v4, v5, v6, v7, v8, v9, v10, v11, v12, v13, v14, v15, v16, v17, v18, v19, v20, v21] k s = (rn_9_ring ns ct R K n 9 [v0, v1, .inl (true, z), v3, v4, v5, v6, v7, v8, v9, v10, v11, v12, v13, v14, v15, v16, v17, v18, v19, v20, v21] (.inl (true, z) :: k) s) := rfl
theorem rx_9_ring_9 {ns n ct R K s L k} : rn_9_ring ns ct R K (n + 1) 9 L k s = (rn_9_ring ns ct R K n 10 L (.inl (true, 0) :: k) s) := rfl
theorem rx_9_ring_10 {ns n ct R K s L k} : rn_9_ring ns ct R K (n + 1) 10 L k s = (rn_9_ring ns ct R K n 11 L (.inl (true, 2) :: k) s) := rfl
theorem rx_9_ring_11 {ns n ct R K s L k} : rn_9_ring ns ct R K (n + 1) 11 L k s = (sy_call true (ct 69) k s fun r t => rn_9_ring ns ct R K n 14 L r t) := rfl
theorem rx_9_ring_14 {ns n ct R K s L k a x} : rn_9_ring ns ct R K (n + 1) 14 L (.inl (a, x) :: k) s = (sy_ri a x ∧ (¬ x = 0 → rn_9_ring ns ct R K n 21 L k s) ∧ (x = 0 → rn_9_ring ns ct R K n 17 L k s)) := rfl
theorem rx_9_ring_17 {ns n ct R K s L k} : rn_9_ring ns ct R K (n + 1) 17 L k s = (rn_9_ring ns ct R K n 20 L (.inr (.inl (true, -1)) :: k) s) := rfl
theorem rx_9_ring_20 {ns n ct R K s L a z} : rn_9_ring ns ct R K (n + 1) 20 L [.inr (.inl (a, z))] s = (sy_rl a z ∧ R (some (.inr (.inl (true, z)))) s) := rfl
theorem rx_9_ring_21 {ns n ct R K s k z v1 v2 v3 v4 v5 v6 v7 v8 v9 v10 v11 v12 v13 v14 v15 v16 v17 v18 v19 v20 v21} : rn_9_ring ns ct R K (n + 1) 21 [.inr (.inr (some z)), v1, v2, v3, v4, v5, v6, v7, v8, v9, v10, v11, v12, v13, v14, v15, v16, v17, v18, v19, v20, v21] k s = (rn_9_ring ns ct R K n 22 [.inr (.inr (some z)), v1, v2, v3, v4, v5, v6, v7, v8, v9, v10, v11, v12, v13, v14, v15, v16, v17, v18, v19, v20, v21] (.inr (.inr (some z)) :: k) s) := rfl
theorem rx_9_ring_22 {ns n ct R K s k z v0 v2 v3 v4 v5 v6 v7 v8 v9 v10 v11 v12 v13 v14 v15 v16 v17 v18 v19 v20 v21} : rn_9_ring ns ct R K (n + 1) 22 [v0, .inl (true, z), v2, v3, v4, v5, v6, v7, v8, v9, v10, v11, v12, v13, v14, v15, v16, v17, v18, v19, v20, v21] k s = (rn_9_ring ns ct R K n 23 [v0, .inl (true, z), v2, v3, v4, v5, v6, v7, v8, v9, v10, v11, v12, v13, v14, v15, v16, v17, v18, v19, v20, v21] (.inl (true, z) :: k) s) := rfl
theorem rx_9_ring_23 {ns n ct R K s L k} : rn_9_ring ns ct R K (n + 1) 23 L k s = (rn_9_ring ns ct R K n 24 L (.inl (true, 0) :: k) s) := rfl
theorem rx_9_ring_24 {ns n ct R K s L k} : rn_9_ring ns ct R K (n + 1) 24 L k s = (sy_call false (ct 96) k s fun r t => rn_9_ring ns ct R K n 27 L r t) := rfl
theorem rx_9_ring_27 {ns n ct R K s L k a x} : rn_9_ring ns ct R K (n + 1) 27 L (.inl (a, x) :: k) s = (sy_ri a x ∧ rn_9_ring ns ct R K n 28 L (.inr (.inl (true, x)) :: k) s) := rfl
theorem rx_9_ring_28 {ns n ct R K s L k b z} : rn_9_ring ns ct R K (n + 1) 28 L (.inr (.inl (b, z)) :: k) s = (sy_rl b z ∧ 4 < L.length ∧ rn_9_ring ns ct R K n 29 (sy_gone (sy_sto L 3 (.inr (.inl (true, z)))) 4) k s) := rfl
theorem rx_9_ring_29 {ns n ct R K s L k} : rn_9_ring ns ct R K (n + 1) 29 L k s = (rn_9_ring ns ct R K n 30 L (.inl (true, 0) :: k) s) := rfl
theorem rx_9_ring_30 {ns n ct R K s L k b z} : rn_9_ring ns ct R K (n + 1) 30 L (.inl (b, z) :: k) s = (sy_ri b z ∧ 5 < L.length ∧ rn_9_ring ns ct R K n 32 (sy_sto L 5 (.inl (true, z))) k s) := rfl
theorem rx_9_ring_32 {ns n ct R K s L k} : rn_9_ring ns ct R K (n + 1) 32 L k s = (rn_9_ring ns ct R K n 35 L (.inr (.inl (true, -1)) :: k) s) := rfl
theorem rx_9_ring_35 {ns n ct R K s L k b z} : rn_9_ring ns ct R K (n + 1) 35 L (.inr (.inl (b, z)) :: k) s = (sy_rl b z ∧ 7 < L.length ∧ rn_9_ring ns ct R K n 37 (sy_gone (sy_sto L 6 (.inr (.inl (true, z)))) 7) k s) := rfl
theorem rx_9_ring_37 {ns n ct R K s L k} : rn_9_ring ns ct R K (n + 1) 37 L k s = (rn_9_ring ns ct R K n 40 L (.inr (.inl (true, -1)) :: k) s) := rfl
theorem rx_9_ring_40 {ns n ct R K s L k b z} : rn_9_ring ns ct R K (n + 1) 40 L (.inr (.inl (b, z)) :: k) s = (sy_rl b z ∧ 9 < L.length ∧ rn_9_ring ns ct R K n 42 (sy_gone (sy_sto L 8 (.inr (.inl (true, z)))) 9) k s) := rfl
theorem rx_9_ring_42 {ns n ct R K s L k} : rn_9_ring ns ct R K (n + 1) 42 L k s = (rn_9_ring ns ct R K n 43 L (.inl (true, 0) :: k) s) := rfl
theorem rx_9_ring_43 {ns n ct R K s L k b z} : rn_9_ring ns ct R K (n + 1) 43 L (.inl (b, z) :: k) s = (sy_ri b z ∧ 10 < L.length ∧ K 45 (sy_sto L 10 (.inl (true, z))) k s) := rfl
theorem rx_9_ring_45 {ns n ct R K s k z v0 v1 v2 v3 v4 v5 v6 v7 v8 v9 v11 v12 v13 v14 v15 v16 v17 v18 v19 v20 v21} : rn_9_ring ns ct R K (n + 1) 45 [v0, v1, v2, v3, v4, v5, v6, v7, v8, v9, .inl (true, z), v11, v12, v13, v14, v15, v16, v17, v18, v19, v20, v21] k s = (rn_9_ring ns ct R K n 47 [v0, v1, v2, v3, v4, v5, v6, v7, v8, v9, .inl (true, z), v11, v12, v13, v14, v15, v16, v17, v18, v19, v20, v21] (.inl (true, z) :: k) s) := rfl
theorem rx_9_ring_47 {ns n ct R K s k z v1 v2 v3 v4 v5 v6 v7 v8 v9 v10 v11 v12 v13 v14 v15 v16 v17 v18 v19 v20 v21} : rn_9_ring ns ct R K (n + 1) 47 [.inr (.inr (some z)), v1, v2, v3, v4, v5, v6, v7, v8, v9, v10, v11, v12, v13, v14, v15, v16, v17, v18, v19, v20, v21] k s = (rn_9_ring ns ct R K n 48 [.inr (.inr (some z)), v1, v2, v3, v4, v5, v6, v7, v8, v9, v10, v11, v12, v13, v14, v15, v16, v17, v18, v19, v20, v21] (.inr (.inr (some z)) :: k) s) := rfl
theorem rx_9_ring_48 {ns n ct R K s L k a} : rn_9_ring ns ct R K (n + 1) 48 L (.inr (.inr (some (some a))) :: k) s = (sy_ob a = some 9 ∧ rn_9_ring ns ct R K n 51 L (sy_fv s a 8 :: k) s) := rfl
theorem rx_9_ring_51 {ns n ct R K s L k a b x y} : rn_9_ring ns ct R K (n + 1) 51 L (.inl (b, y) :: .inl (a, x) :: k) s = (sy_ri a x ∧ sy_ri b y ∧ (y ≤ x → rn_9_ring ns ct R K n 281 L k s) ∧ (¬ y ≤ x → rn_9_ring ns ct R K n 54 L k s)) := rfl
theorem rx_9_ring_54 {ns n ct R K s k z v1 v2 v3 v4 v5 v6 v7 v8 v9 v10 v11 v12 v13 v14 v15 v16 v17 v18 v19 v20 v21} : rn_9_ring ns ct R K (n + 1) 54 [.inr (.inr (some z)), v1, v2, v3, v4, v5, v6, v7, v8, v9, v10, v11, v12, v13, v14, v15, v16, v17, v18, v19, v20, v21] k s = (rn_9_ring ns ct R K n 55 [.inr (.inr (some z)), v1, v2, v3, v4, v5, v6, v7, v8, v9, v10, v11, v12, v13, v14, v15, v16, v17, v18, v19, v20, v21] (.inr (.inr (some z)) :: k) s) := rfl
theorem rx_9_ring_55 {ns n ct R K s L k a} : rn_9_ring ns ct R K (n + 1) 55 L (.inr (.inr (some (some a))) :: k) s = (sy_ob a = some 9 ∧ rn_9_ring ns ct R K n 58 L (sy_fv s a 9 :: k) s) := rfl
theorem rx_9_ring_58 {ns n ct R K s L k} : rn_9_ring ns ct R K (n + 1) 58 L k s = (rn_9_ring ns ct R K n 59 L (.inl (true, 3) :: k) s) := rfl
theorem rx_9_ring_59 {ns n ct R K s k z v0 v1 v2 v3 v4 v5 v6 v7 v8 v9 v11 v12 v13 v14 v15 v16 v17 v18 v19 v20 v21} : rn_9_ring ns ct R K (n + 1) 59 [v0, v1, v2, v3, v4, v5, v6, v7, v8, v9, .inl (true, z), v11, v12, v13, v14, v15, v16, v17, v18, v19, v20, v21] k s = (rn_9_ring ns ct R K n 61 [v0, v1, v2, v3, v4, v5, v6, v7, v8, v9, .inl (true, z), v11, v12, v13, v14, v15, v16, v17, v18, v19, v20, v21] (.inl (true, z) :: k) s) := rfl
theorem rx_9_ring_61 {ns n ct R K s L k a b x y} : rn_9_ring ns ct R K (n + 1) 61 L (.inl (b, y) :: .inl (a, x) :: k) s = (rn_9_ring ns ct R K n 62 L (.inl (false, x * y) :: k) s) := rfl
theorem rx_9_ring_62 {ns n ct R K s L k a b z} : rn_9_ring ns ct R K (n + 1) 62 L (.inl (b, z) :: .inr (.inr (some (some a))) :: k) s = ((0 ≤ z ∧ z < (sy_ar a).2) ∧ sy_ob a = none ∧ (sy_ar a).1 = 0 ∧ rn_9_ring ns ct R K n 63 L (.inl (true, s a z.toNat) :: k) s) := rfl
theorem rx_9_ring_63 {ns n ct R K s L k b z} : rn_9_ring ns ct R K (n + 1) 63 L (.inl (b, z) :: k) s = (sy_ri b z ∧ 11 < L.length ∧ rn_9_ring ns ct R K n 65 (sy_sto L 11 (.inl (true, z))) k s) := rfl
theorem rx_9_ring_65 {ns n ct R K s k z v1 v2 v3 v4 v5 v6 v7 v8 v9 v10 v11 v12 v13 v14 v15 v16 v17 v18 v19 v20 v21} : rn_9_ring ns ct R K (n + 1) 65 [.inr (.inr (some z)), v1, v2, v3, v4, v5, v6, v7, v8, v9, v10, v11, v12, v13, v14, v15, v16, v17, v18, v19, v20, v21] k s = (rn_9_ring ns ct R K n 66 [.inr (.inr (some z)), v1, v2, v3, v4, v5, v6, v7, v8, v9, v10, v11, v12, v13, v14, v15, v16, v17, v18, v19, v20, v21] (.inr (.inr (some z)) :: k) s) := rfl
theorem rx_9_ring_66 {ns n ct R K s k z v0 v1 v2 v3 v4 v5 v6 v7 v8 v9 v10 v12 v13 v14 v15 v16 v17 v18 v19 v20 v21} : rn_9_ring ns ct R K (n + 1) 66 [v0, v1, v2, v3, v4, v5, v6, v7, v8, v9, v10, .inl (true, z), v12, v13, v14, v15, v16, v17, v18, v19, v20, v21] k s = (rn_9_ring ns ct R K n 68 [v0, v1, v2, v3, v4, v5, v6, v7, v8, v9, v10, .inl (true, z), v12, v13, v14, v15, v16, v17, v18, v19, v20, v21] (.inl (true, z) :: k) s) := rfl
theorem rx_9_ring_68 {ns n ct R K s k z v1 v2 v3 v4 v5 v6 v7 v8 v9 v10 v11 v12 v13 v14 v15 v16 v17 v18 v19 v20 v21} : rn_9_ring ns ct R K (n + 1) 68 [.inr (.inr (some z)), v1, v2, v3, v4, v5, v6, v7, v8, v9, v10, v11, v12, v13, v14, v15, v16, v17, v18, v19, v20, v21] k s = (rn_9_ring ns ct R K n 69 [.inr (.inr (some z)), v1, v2, v3, v4, v5, v6, v7, v8, v9, v10, v11, v12, v13, v14, v15, v16, v17, v18, v19, v20, v21] (.inr (.inr (some z)) :: k) s) := rfl
theorem rx_9_ring_69 {ns n ct R K s L k a} : rn_9_ring ns ct R K (n + 1) 69 L (.inr (.inr (some (some a))) :: k) s = (sy_ob a = some 9 ∧ rn_9_ring ns ct R K n 72 L (sy_fv s a 9 :: k) s) := rfl
theorem rx_9_ring_72 {ns n ct R K s L k} : rn_9_ring ns ct R K (n + 1) 72 L k s = (rn_9_ring ns ct R K n 73 L (.inl (true, 3) :: k) s) := rfl
theorem rx_9_ring_73 {ns n ct R K s k z v0 v1 v2 v3 v4 v5 v6 v7 v8 v9 v11 v12 v13 v14 v15 v16 v17 v18 v19 v20 v21} : rn_9_ring ns ct R K (n + 1) 73 [v0, v1, v2, v3, v4, v5, v6, v7, v8, v9, .inl (true, z), v11, v12, v13, v14, v15, v16, v17, v18, v19, v20, v21] k s = (rn_9_ring ns ct R K n 75 [v0, v1, v2, v3, v4, v5, v6, v7, v8, v9, .inl (true, z), v11, v12, v13, v14, v15, v16, v17, v18, v19, v20, v21] (.inl (true, z) :: k) s) := rfl
theorem rx_9_ring_75 {ns n ct R K s L k a b x y} : rn_9_ring ns ct R K (n + 1) 75 L (.inl (b, y) :: .inl (a, x) :: k) s = (rn_9_ring ns ct R K n 76 L (.inl (false, x * y) :: k) s) := rfl
theorem rx_9_ring_76 {ns n ct R K s L k} : rn_9_ring ns ct R K (n + 1) 76 L k s = (rn_9_ring ns ct R K n 77 L (.inl (true, 1) :: k) s) := rfl
theorem rx_9_ring_77 {ns n ct R K s L k a b x y} : rn_9_ring ns ct R K (n + 1) 77 L (.inl (b, y) :: .inl (a, x) :: k) s = (rn_9_ring ns ct R K n 78 L (.inl (false, x + y) :: k) s) := rfl
theorem rx_9_ring_78 {ns n ct R K s L k a b z} : rn_9_ring ns ct R K (n + 1) 78 L (.inl (b, z) :: .inr (.inr (some (some a))) :: k) s = ((0 ≤ z ∧ z < (sy_ar a).2) ∧ sy_ob a = none ∧ (sy_ar a).1 = 0 ∧ rn_9_ring ns ct R K n 79 L (.inl (true, s a z.toNat) :: k) s) := rfl
theorem rx_9_ring_79 {ns n ct R K s L k} : rn_9_ring ns ct R K (n + 1) 79 L k s = (sy_call false (ct 84) k s fun r t => rn_9_ring ns ct R K n 82 L r t) := rfl
theorem rx_9_ring_82 {ns n ct R K s L k a x} : rn_9_ring ns ct R K (n + 1) 82 L (.inl (a, x) :: k) s = (sy_ri a x ∧ rn_9_ring ns ct R K n 83 L (.inr (.inl (true, x)) :: k) s) := rfl
theorem rx_9_ring_83 {ns n ct R K s L k b z} : rn_9_ring ns ct R K (n + 1) 83 L (.inr (.inl (b, z)) :: k) s = (sy_rl b z ∧ 13 < L.length ∧ rn_9_ring ns ct R K n 85 (sy_gone (sy_sto L 12 (.inr (.inl (true, z)))) 13) k s) := rfl
theorem rx_9_ring_85 {ns n ct R K s k z v1 v2 v3 v4 v5 v6 v7 v8 v9 v10 v11 v12 v13 v14 v15 v16 v17 v18 v19 v20 v21} : rn_9_ring ns ct R K (n + 1) 85 [.inr (.inr (some z)), v1, v2, v3, v4, v5, v6, v7, v8, v9, v10, v11, v12, v13, v14, v15, v16, v17, v18, v19, v20, v21] k s = (rn_9_ring ns ct R K n 86 [.inr (.inr (some z)), v1, v2, v3, v4, v5, v6, v7, v8, v9, v10, v11, v12, v13, v14, v15, v16, v17, v18, v19, v20, v21] (.inr (.inr (some z)) :: k) s) := rfl
theorem rx_9_ring_86 {ns n ct R K s k z v0 v1 v2 v3 v4 v5 v6 v7 v8 v9 v10 v12 v13 v14 v15 v16 v17 v18 v19 v20 v21} : rn_9_ring ns ct R K (n + 1) 86 [v0, v1, v2, v3, v4, v5, v6, v7, v8, v9, v10, .inl (true, z), v12, v13, v14, v15, v16, v17, v18, v19, v20, v21] k s = (rn_9_ring ns ct R K n 88 [v0, v1, v2, v3, v4, v5, v6, v7, v8, v9, v10, .inl (true, z), v12, v13, v14, v15, v16, v17, v18, v19, v20, v21] (.inl (true, z) :: k) s) := rfl
theorem rx_9_ring_88 {ns n ct R K s k z v1 v2 v3 v4 v5 v6 v7 v8 v9 v10 v11 v12 v13 v14 v15 v16 v17 v18 v19 v20 v21} : rn_9_ring ns ct R K (n + 1) 88 [.inr (.inr (some z)), v1, v2, v3, v4, v5, v6, v7, v8, v9, v10, v11, v12, v13, v14, v15, v16, v17, v18, v19, v20, v21] k s = (rn_9_ring ns ct R K n 89 [.inr (.inr (some z)), v1, v2, v3, v4, v5, v6, v7, v8, v9, v10, v11, v12, v13, v14, v15, v16, v17, v18, v19, v20, v21] (.inr (.inr (some z)) :: k) s) := rfl
theorem rx_9_ring_89 {ns n ct R K s L k a} : rn_9_ring ns ct R K (n + 1) 89 L (.inr (.inr (some (some a))) :: k) s = (sy_ob a = some 9 ∧ rn_9_ring ns ct R K n 92 L (sy_fv s a 9 :: k) s) := rfl
theorem rx_9_ring_92 {ns n ct R K s L k} : rn_9_ring ns ct R K (n + 1) 92 L k s = (rn_9_ring ns ct R K n 93 L (.inl (true, 3) :: k) s) := rfl
theorem rx_9_ring_93 {ns n ct R K s k z v0 v1 v2 v3 v4 v5 v6 v7 v8 v9 v11 v12 v13 v14 v15 v16 v17 v18 v19 v20 v21} : rn_9_ring ns ct R K (n + 1) 93 [v0, v1, v2, v3, v4, v5, v6, v7, v8, v9, .inl (true, z), v11, v12, v13, v14, v15, v16, v17, v18, v19, v20, v21] k s = (rn_9_ring ns ct R K n 95 [v0, v1, v2, v3, v4, v5, v6, v7, v8, v9, .inl (true, z), v11, v12, v13, v14, v15, v16, v17, v18, v19, v20, v21] (.inl (true, z) :: k) s) := rfl
theorem rx_9_ring_95 {ns n ct R K s L k a b x y} : rn_9_ring ns ct R K (n + 1) 95 L (.inl (b, y) :: .inl (a, x) :: k) s = (rn_9_ring ns ct R K n 96 L (.inl (false, x * y) :: k) s) := rfl
theorem rx_9_ring_96 {ns n ct R K s L k} : rn_9_ring ns ct R K (n + 1) 96 L k s = (rn_9_ring ns ct R K n 97 L (.inl (true, 2) :: k) s) := rfl
theorem rx_9_ring_97 {ns n ct R K s L k a b x y} : rn_9_ring ns ct R K (n + 1) 97 L (.inl (b, y) :: .inl (a, x) :: k) s = (rn_9_ring ns ct R K n 98 L (.inl (false, x + y) :: k) s) := rfl
theorem rx_9_ring_98 {ns n ct R K s L k a b z} : rn_9_ring ns ct R K (n + 1) 98 L (.inl (b, z) :: .inr (.inr (some (some a))) :: k) s = ((0 ≤ z ∧ z < (sy_ar a).2) ∧ sy_ob a = none ∧ (sy_ar a).1 = 0 ∧ rn_9_ring ns ct R K n 99 L (.inl (true, s a z.toNat) :: k) s) := rfl
theorem rx_9_ring_99 {ns n ct R K s L k} : rn_9_ring ns ct R K (n + 1) 99 L k s = (sy_call false (ct 84) k s fun r t => rn_9_ring ns ct R K n 102 L r t) := rfl
theorem rx_9_ring_102 {ns n ct R K s L k a x} : rn_9_ring ns ct R K (n + 1) 102 L (.inl (a, x) :: k) s = (sy_ri a x ∧ rn_9_ring ns ct R K n 103 L (.inr (.inl (true, x)) :: k) s) := rfl
theorem rx_9_ring_103 {ns n ct R K s L k b z} : rn_9_ring ns ct R K (n + 1) 103 L (.inr (.inl (b, z)) :: k) s = (sy_rl b z ∧ 15 < L.length ∧ rn_9_ring ns ct R K n 105 (sy_gone (sy_sto L 14 (.inr (.inl (true, z)))) 15) k s) := rfl
theorem rx_9_ring_105 {ns n ct R K s k z v0 v1 v2 v3 v4 v5 v6 v7 v8 v9 v10 v11 v13 v14 v15 v16 v17 v18 v19 v20 v21} : rn_9_ring ns ct R K (n + 1) 105 [v0, v1, v2, v3, v4, v5, v6, v7, v8, v9, v10, v11, .inr (.inl (true, z)), v13, v14, v15, v16, v17, v18, v19, v20, v21] k s = (rn_9_ring ns ct R K n 107 [v0, v1, v2, v3, v4, v5, v6, v7, v8, v9, v10, v11, .inr (.inl (true, z)), v13, v14, v15, v16, v17, v18, v19, v20, v21] (.inr (.inl (true, z)) :: k) s) := rfl
theorem rx_9_ring_107 {ns n ct R K s k z v0 v1 v2 v3 v4 v5 v6 v7 v8 v9 v10 v11 v12 v13 v15 v16 v17 v18 v19 v20 v21} : rn_9_ring ns ct R K (n + 1) 107 [v0, v1, v2, v3, v4, v5, v6, v7, v8, v9, v10, v11, v12, v13, .inr (.inl (true, z)), v15, v16, v17, v18, v19, v20, v21] k s = (rn_9_ring ns ct R K n 109 [v0, v1, v2, v3, v4, v5, v6, v7, v8, v9, v10, v11, v12, v13, .inr (.inl (true, z)), v15, v16, v17, v18, v19, v20, v21] (.inr (.inl (true, z)) :: k) s) := rfl
theorem rx_9_ring_109 {ns n ct R K s L k a b x y} : rn_9_ring ns ct R K (n + 1) 109 L (.inr (.inl (b, y)) :: .inr (.inl (a, x)) :: k) s = (rn_9_ring ns ct R K n 110 L (.inr (.inl (false, x + y)) :: k) s) := rfl
theorem rx_9_ring_110 {ns n ct R K s L k} : rn_9_ring ns ct R K (n + 1) 110 L k s = (rn_9_ring ns ct R K n 113 L (.inr (.inl (true, 2)) :: k) s) := rfl
theorem rx_9_ring_113 {ns n ct R K s k z v0 v1 v2 v4 v5 v6 v7 v8 v9 v10 v11 v12 v13 v14 v15 v16 v17 v18 v19 v20 v21} : rn_9_ring ns ct R K (n + 1) 113 [v0, v1, v2, .inr (.inl (true, z)), v4, v5, v6, v7, v8, v9, v10, v11, v12, v13, v14, v15, v16, v17, v18, v19, v20, v21] k s = (rn_9_ring ns ct R K n 114 [v0, v1, v2, .inr (.inl (true, z)), v4, v5, v6, v7, v8, v9, v10, v11, v12, v13, v14, v15, v16, v17, v18, v19, v20, v21] (.inr (.inl (true, z)) :: k) s) := rfl
theorem rx_9_ring_114 {ns n ct R K s L k a b x y} : rn_9_ring ns ct R K (n + 1) 114 L (.inr (.inl (b, y)) :: .inr (.inl (a, x)) :: k) s = (rn_9_ring ns ct R K n 115 L (.inr (.inl (false, x * y)) :: k) s) := rfl
theorem rx_9_ring_115 {ns n ct R K s L k a b x y} : rn_9_ring ns ct R K (n + 1) 115 L (.inr (.inl (b, y)) :: .inr (.inl (a, x)) :: k) s = (rn_9_ring ns ct R K n 116 L (.inr (.inl (false, x - y)) :: k) s) := rfl
theorem rx_9_ring_116 {ns n ct R K s L k b z} : rn_9_ring ns ct R K (n + 1) 116 L (.inr (.inl (b, z)) :: k) s = (sy_rl b z ∧ 17 < L.length ∧ rn_9_ring ns ct R K n 118 (sy_gone (sy_sto L 16 (.inr (.inl (true, z)))) 17) k s) := rfl
theorem rx_9_ring_118 {ns n ct R K s k z v0 v1 v2 v3 v4 v6 v7 v8 v9 v10 v11 v12 v13 v14 v15 v16 v17 v18 v19 v20 v21} : rn_9_ring ns ct R K (n + 1) 118 [v0, v1, v2, v3, v4, .inl (true, z), v6, v7, v8, v9, v10, v11, v12, v13, v14, v15, v16, v17, v18, v19, v20, v21] k s = (rn_9_ring ns ct R K n 120 [v0, v1, v2, v3, v4, .inl (true, z), v6, v7, v8, v9, v10, v11, v12, v13, v14, v15, v16, v17, v18, v19, v20, v21] (.inl (true, z) :: k) s) := rfl
theorem rx_9_ring_120 {ns n ct R K s k z v0 v1 v2 v3 v4 v5 v6 v7 v8 v9 v10 v11 v12 v13 v14 v15 v17 v18 v19 v20 v21} : rn_9_ring ns ct R K (n + 1) 120 [v0, v1, v2, v3, v4, v5, v6, v7, v8, v9, v10, v11, v12, v13, v14, v15, .inr (.inl (true, z)), v17, v18, v19, v20, v21] k s = (rn_9_ring ns ct R K n 122 [v0, v1, v2, v3, v4, v5, v6, v7, v8, v9, v10, v11, v12, v13, v14, v15, .inr (.inl (true, z)), v17, v18, v19, v20, v21] (.inr (.inl (true, z)) :: k) s) := rfl
theorem rx_9_ring_122 {ns n ct R K s L k} : rn_9_ring ns ct R K (n + 1) 122 L k s = (rn_9_ring ns ct R K n 123 L (.inr (.inl (true, 0)) :: k) s) := rfl
theorem rx_9_ring_123 {ns n ct R K s L k a b x y} : rn_9_ring ns ct R K (n + 1) 123 L (.inr (.inl (b, y)) :: .inr (.inl (a, x)) :: k) s = (sy_rl a x ∧ sy_rl b y ∧ rn_9_ring ns ct R K n 124 L (.inl (true, sy_cmp x y) :: k) s) := rfl
theorem rx_9_ring_124 {ns n ct R K s L k a x} : rn_9_ring ns ct R K (n + 1) 124 L (.inl (a, x) :: k) s = (sy_ri a x ∧ (0 ≤ x → rn_9_ring ns ct R K n 133 L k s) ∧ (¬ 0 ≤ x → rn_9_ring ns ct R K n 127 L k s)) := rfl
theorem rx_9_ring_127 {ns n ct R K s k z v0 v1 v2 v3 v4 v5 v6 v7 v8 v9 v10 v11 v12 v13 v14 v15 v17 v18 v19 v20 v21} : rn_9_ring ns ct R K (n + 1) 127 [v0, v1, v2, v3, v4, v5, v6, v7, v8, v9, v10, v11, v12, v13, v14, v15, .inr (.inl (true, z)), v17, v18, v19, v20, v21] k s = (rn_9_ring ns ct R K n 129 [v0, v1, v2, v3, v4, v5, v6, v7, v8, v9, v10, v11, v12, v13, v14, v15, .inr (.inl (true, z)), v17, v18, v19, v20, v21] (.inr (.inl (true, z)) :: k) s) := rfl
theorem rx_9_ring_129 {ns n ct R K s L k a x} : rn_9_ring ns ct R K (n + 1) 129 L (.inr (.inl (a, x)) :: k) s = (rn_9_ring ns ct R K n 130 L (.inr (.inl (false, -x)) :: k) s) := rfl
theorem rx_9_ring_130 {ns n ct R K s L k} : rn_9_ring ns ct R K (n + 1) 130 L k s = (rn_9_ring ns ct R K n 135 L k s) := rfl
theorem rx_9_ring_133 {ns n ct R K s k z v0 v1 v2 v3 v4 v5 v6 v7 v8 v9 v10 v11 v12 v13 v14 v15 v17 v18 v19 v20 v21} : rn_9_ring ns ct R K (n + 1) 133 [v0, v1, v2, v3, v4, v5, v6, v7, v8, v9, v10, v11, v12, v13, v14, v15, .inr (.inl (true, z)), v17, v18, v19, v20, v21] k s = (rn_9_ring ns ct R K n 135 [v0, v1, v2, v3, v4, v5, v6, v7, v8, v9, v10, v11, v12, v13, v14, v15, .inr (.inl (true, z)), v17, v18, v19, v20, v21] (.inr (.inl (true, z)) :: k) s) := rfl
theorem rx_9_ring_135 {ns n ct R K s k z v1 v2 v3 v4 v5 v6 v7 v8 v9 v10 v11 v12 v13 v14 v15 v16 v17 v18 v19 v20 v21} : rn_9_ring ns ct R K (n + 1) 135 [.inr (.inr (some z)), v1, v2, v3, v4, v5, v6, v7, v8, v9, v10, v11, v12, v13, v14, v15, v16, v17, v18, v19, v20, v21] k s = (rn_9_ring ns ct R K n 136 [.inr (.inr (some z)), v1, v2, v3, v4, v5, v6, v7, v8, v9, v10, v11, v12, v13, v14, v15, v16, v17, v18, v19, v20, v21] (.inr (.inr (some z)) :: k) s) := rfl
theorem rx_9_ring_136 {ns n ct R K s L k a} : rn_9_ring ns ct R K (n + 1) 136 L (.inr (.inr (some (some a))) :: k) s = (sy_ob a = some 9 ∧ rn_9_ring ns ct R K n 139 L (sy_fv s a 10 :: k) s) := rfl
theorem rx_9_ring_139 {ns n ct R K s L k a x} : rn_9_ring ns ct R K (n + 1) 139 L (.inl (a, x) :: k) s = (sy_ri a x ∧ rn_9_ring ns ct R K n 140 L (.inr (.inl (true, x)) :: k) s) := rfl
theorem rx_9_ring_140 {ns n ct R K s L k a b x y} : rn_9_ring ns ct R K (n + 1) 140 L (.inr (.inl (b, y)) :: .inr (.inl (a, x)) :: k) s = (sy_rl a x ∧ sy_rl b y ∧ rn_9_ring ns ct R K n 141 L (.inl (true, sy_cmp x y) :: k) s) := rfl
theorem rx_9_ring_141 {ns n ct R K s L k a x} : rn_9_ring ns ct R K (n + 1) 141 L (.inl (a, x) :: k) s = (sy_ri a x ∧ (0 < x → rn_9_ring ns ct R K n 148 L k s) ∧ (¬ 0 < x → rn_9_ring ns ct R K n 144 L k s)) := rfl
theorem rx_9_ring_144 {ns n ct R K s L k} : rn_9_ring ns ct R K (n + 1) 144 L k s = (rn_9_ring ns ct R K n 145 L (.inl (true, 1) :: k) s) := rfl
theorem rx_9_ring_145 {ns n ct R K s L k} : rn_9_ring ns ct R K (n + 1) 145 L k s = (rn_9_ring ns ct R K n 149 L k s) := rfl
theorem rx_9_ring_148 {ns n ct R K s L k} : rn_9_ring ns ct R K (n + 1) 148 L k s = (rn_9_ring ns ct R K n 149 L (.inl (true, 0) :: k) s) := rfl
theorem rx_9_ring_149 {ns n ct R K s L k a b x y} : rn_9_ring ns ct R K (n + 1) 149 L (.inl (b, y) :: .inl (a, x) :: k) s = (rn_9_ring ns ct R K n 150 L (.inl (false, x + y) :: k) s) := rfl
theorem rx_9_ring_150 {ns n ct R K s L k b z} : rn_9_ring ns ct R K (n + 1) 150 L (.inl (b, z) :: k) s = (sy_ri b z ∧ 5 < L.length ∧ rn_9_ring ns ct R K n 152 (sy_sto L 5 (.inl (true, z))) k s) := rfl
theorem rx_9_ring_152 {ns n ct R K s k z v0 v1 v2 v3 v4 v5 v6 v7 v8 v9 v10 v11 v13 v14 v15 v16 v17 v18 v19 v20 v21} : rn_9_ring ns ct R K (n + 1) 152 [v0, v1, v2, v3, v4, v5, v6, v7, v8, v9, v10, v11, .inr (.inl (true, z)), v13, v14, v15, v16, v17, v18, v19, v20, v21] k s = (rn_9_ring ns ct R K n 154 [v0, v1, v2, v3, v4, v5, v6, v7, v8, v9, v10, v11, .inr (.inl (true, z)), v13, v14, v15, v16, v17, v18, v19, v20, v21] (.inr (.inl (true, z)) :: k) s) := rfl
theorem rx_9_ring_154 {ns n ct R K s k z v0 v1 v2 v4 v5 v6 v7 v8 v9 v10 v11 v12 v13 v14 v15 v16 v17 v18 v19 v20 v21} : rn_9_ring ns ct R K (n + 1) 154 [v0, v1, v2, .inr (.inl (true, z)), v4, v5, v6, v7, v8, v9, v10, v11, v12, v13, v14, v15, v16, v17, v18, v19, v20, v21] k s = (rn_9_ring ns ct R K n 155 [v0, v1, v2, .inr (.inl (true, z)), v4, v5, v6, v7, v8, v9, v10, v11, v12, v13, v14, v15, v16, v17, v18, v19, v20, v21] (.inr (.inl (true, z)) :: k) s) := rfl
theorem rx_9_ring_155 {ns n ct R K s L k a b x y} : rn_9_ring ns ct R K (n + 1) 155 L (.inr (.inl (b, y)) :: .inr (.inl (a, x)) :: k) s = (rn_9_ring ns ct R K n 156 L (.inr (.inl (false, x - y)) :: k) s) := rfl
theorem rx_9_ring_156 {ns n ct R K s k z v1 v2 v3 v4 v5 v6 v7 v8 v9 v10 v11 v12 v13 v14 v15 v16 v17 v18 v19 v20 v21} : rn_9_ring ns ct R K (n + 1) 156 [.inr (.inr (some z)), v1, v2, v3, v4, v5, v6, v7, v8, v9, v10, v11, v12, v13, v14, v15, v16, v17, v18, v19, v20, v21] k s = (rn_9_ring ns ct R K n 157 [.inr (.inr (some z)), v1, v2, v3, v4, v5, v6, v7, v8, v9, v10, v11, v12, v13, v14, v15, v16, v17, v18, v19, v20, v21] (.inr (.inr (some z)) :: k) s) := rfl
theorem rx_9_ring_157 {ns n ct R K s L k a} : rn_9_ring ns ct R K (n + 1) 157 L (.inr (.inr (some (some a))) :: k) s = (sy_ob a = some 9 ∧ rn_9_ring ns ct R K n 160 L (sy_fv s a 2 :: k) s) := rfl
theorem rx_9_ring_160 {ns n ct R K s k z v0 v1 v2 v3 v4 v5 v6 v7 v8 v9 v10 v12 v13 v14 v15 v16 v17 v18 v19 v20 v21} : rn_9_ring ns ct R K (n + 1) 160 [v0, v1, v2, v3, v4, v5, v6, v7, v8, v9, v10, .inl (true, z), v12, v13, v14, v15, v16, v17, v18, v19, v20, v21] k s = (rn_9_ring ns ct R K n 162 [v0, v1, v2, v3, v4, v5, v6, v7, v8, v9, v10, .inl (true, z), v12, v13, v14, v15, v16, v17, v18, v19, v20, v21] (.inl (true, z) :: k) s) := rfl
theorem rx_9_ring_162 {ns n ct R K s L k a b z} : rn_9_ring ns ct R K (n + 1) 162 L (.inl (b, z) :: .inr (.inr (some (some a))) :: k) s = ((0 ≤ z ∧ z < (sy_ar a).2) ∧ sy_ob a = none ∧ (sy_ar a).1 = 0 ∧ rn_9_ring ns ct R K n 163 L (.inl (true, s a z.toNat) :: k) s) := rfl
theorem rx_9_ring_163 {ns n ct R K s k z v1 v2 v3 v4 v5 v6 v7 v8 v9 v10 v11 v12 v13 v14 v15 v16 v17 v18 v19 v20 v21} : rn_9_ring ns ct R K (n + 1) 163 [.inr (.inr (some z)), v1, v2, v3, v4, v5, v6, v7, v8, v9, v10, v11, v12, v13, v14, v15, v16, v17, v18, v19, v20, v21] k s = (rn_9_ring ns ct R K n 164 [.inr (.inr (some z)), v1, v2, v3, v4, v5, v6, v7, v8, v9, v10, v11, v12, v13, v14, v15, v16, v17, v18, v19, v20, v21] (.inr (.inr (some z)) :: k) s) := rfl
theorem rx_9_ring_164 {ns n ct R K s k z v0 v2 v3 v4 v5 v6 v7 v8 v9 v10 v11 v12 v13 v14 v15 v16 v17 v18 v19 v20 v21} : rn_9_ring ns ct R K (n + 1) 164 [v0, .inl (true, z), v2, v3, v4, v5, v6, v7, v8, v9, v10, v11, v12, v13, v14, v15, v16, v17, v18, v19, v20, v21] k s = (rn_9_ring ns ct R K n 165 [v0, .inl (true, z), v2, v3, v4, v5, v6, v7, v8, v9, v10, v11, v12, v13, v14, v15, v16, v17, v18, v19, v20, v21] (.inl (true, z) :: k) s) := rfl
theorem rx_9_ring_165 {ns n ct R K s L k} : rn_9_ring ns ct R K (n + 1) 165 L k s = (rn_9_ring ns ct R K n 166 L (.inl (true, 1) :: k) s) := rfl
theorem rx_9_ring_166 {ns n ct R K s L k} : rn_9_ring ns ct R K (n + 1) 166 L k s = (sy_call false (ct 96) k s fun r t => rn_9_ring ns ct R K n 169 L r t) := rfl
theorem rx_9_ring_169 {ns n ct R K s L k a b x y} : rn_9_ring ns ct R K (n + 1) 169 L (.inl (b, y) :: .inl (a, x) :: k) s = (rn_9_ring ns ct R K n 170 L (.inl (false, x - y) :: k) s) := rfl
theorem rx_9_ring_170 {ns n ct R K s L k a x} : rn_9_ring ns ct R K (n + 1) 170 L (.inl (a, x) :: k) s = (sy_ri a x ∧ rn_9_ring ns ct R K n 171 L (.inr (.inl (true, x)) :: k) s) := rfl
theorem rx_9_ring_171 {ns n ct R K s L k} : rn_9_ring ns ct R K (n + 1) 171 L k s = (sy_call true (ct 128) k s fun r t => rn_9_ring ns ct R K n 174 L r t) := rfl
theorem rx_9_ring_174 {ns n ct R K s L k b z} : rn_9_ring ns ct R K (n + 1) 174 L (.inr (.inl (b, z)) :: k) s = (sy_rl b z ∧ 19 < L.length ∧ rn_9_ring ns ct R K n 176 (sy_gone (sy_sto L 18 (.inr (.inl (true, z)))) 19) k s) := rfl
theorem rx_9_ring_176 {ns n ct R K s k z v0 v1 v2 v3 v4 v5 v6 v7 v8 v9 v10 v11 v12 v13 v15 v16 v17 v18 v19 v20 v21} : rn_9_ring ns ct R K (n + 1) 176 [v0, v1, v2, v3, v4, v5, v6, v7, v8, v9, v10, v11, v12, v13, .inr (.inl (true, z)), v15, v16, v17, v18, v19, v20, v21] k s = (rn_9_ring ns ct R K n 178 [v0, v1, v2, v3, v4, v5, v6, v7, v8, v9, v10, v11, v12, v13, .inr (.inl (true, z)), v15, v16, v17, v18, v19, v20, v21] (.inr (.inl (true, z)) :: k) s) := rfl
theorem rx_9_ring_178 {ns n ct R K s k z v0 v1 v2 v4 v5 v6 v7 v8 v9 v10 v11 v12 v13 v14 v15 v16 v17 v18 v19 v20 v21} : rn_9_ring ns ct R K (n + 1) 178 [v0, v1, v2, .inr (.inl (true, z)), v4, v5, v6, v7, v8, v9, v10, v11, v12, v13, v14, v15, v16, v17, v18, v19, v20, v21] k s = (rn_9_ring ns ct R K n 179 [v0, v1, v2, .inr (.inl (true, z)), v4, v5, v6, v7, v8, v9, v10, v11, v12, v13, v14, v15, v16, v17, v18, v19, v20, v21] (.inr (.inl (true, z)) :: k) s) := rfl
theorem rx_9_ring_179 {ns n ct R K s L k a b x y} : rn_9_ring ns ct R K (n + 1) 179 L (.inr (.inl (b, y)) :: .inr (.inl (a, x)) :: k) s = (rn_9_ring ns ct R K n 180 L (.inr (.inl (false, x - y)) :: k) s) := rfl
theorem rx_9_ring_180 {ns n ct R K s k z v1 v2 v3 v4 v5 v6 v7 v8 v9 v10 v11 v12 v13 v14 v15 v16 v17 v18 v19 v20 v21} : rn_9_ring ns ct R K (n + 1) 180 [.inr (.inr (some z)), v1, v2, v3, v4, v5, v6, v7, v8, v9, v10, v11, v12, v13, v14, v15, v16, v17, v18, v19, v20, v21] k s = (rn_9_ring ns ct R K n 181 [.inr (.inr (some z)), v1, v2, v3, v4, v5, v6, v7, v8, v9, v10, v11, v12, v13, v14, v15, v16, v17, v18, v19, v20, v21] (.inr (.inr (some z)) :: k) s) := rfl
theorem rx_9_ring_181 {ns n ct R K s L k a} : rn_9_ring ns ct R K (n + 1) 181 L (.inr (.inr (some (some a))) :: k) s = (sy_ob a = some 9 ∧ rn_9_ring ns ct R K n 184 L (sy_fv s a 2 :: k) s) := rfl
theorem rx_9_ring_184 {ns n ct R K s k z v0 v1 v2 v3 v4 v5 v6 v7 v8 v9 v10 v12 v13 v14 v15 v16 v17 v18 v19 v20 v21} : rn_9_ring ns ct R K (n + 1) 184 [v0, v1, v2, v3, v4, v5, v6, v7, v8, v9, v10, .inl (true, z), v12, v13, v14, v15, v16, v17, v18, v19, v20, v21] k s = (rn_9_ring ns ct R K n 186 [v0, v1, v2, v3, v4, v5, v6, v7, v8, v9, v10, .inl (true, z), v12, v13, v14, v15, v16, v17, v18, v19, v20, v21] (.inl (true, z) :: k) s) := rfl
theorem rx_9_ring_186 {ns n ct R K s L k a b z} : rn_9_ring ns ct R K (n + 1) 186 L (.inl (b, z) :: .inr (.inr (some (some a))) :: k) s = ((0 ≤ z ∧ z < (sy_ar a).2) ∧ sy_ob a = none ∧ (sy_ar a).1 = 0 ∧ rn_9_ring ns ct R K n 187 L (.inl (true, s a z.toNat) :: k) s) := rfl
theorem rx_9_ring_187 {ns n ct R K s k z v1 v2 v3 v4 v5 v6 v7 v8 v9 v10 v11 v12 v13 v14 v15 v16 v17 v18 v19 v20 v21} : rn_9_ring ns ct R K (n + 1) 187 [.inr (.inr (some z)), v1, v2, v3, v4, v5, v6, v7, v8, v9, v10, v11, v12, v13, v14, v15, v16, v17, v18, v19, v20, v21] k s = (rn_9_ring ns ct R K n 188 [.inr (.inr (some z)), v1, v2, v3, v4, v5, v6, v7, v8, v9, v10, v11, v12, v13, v14, v15, v16, v17, v18, v19, v20, v21] (.inr (.inr (some z)) :: k) s) := rfl
theorem rx_9_ring_188 {ns n ct R K s k z v0 v2 v3 v4 v5 v6 v7 v8 v9 v10 v11 v12 v13 v14 v15 v16 v17 v18 v19 v20 v21} : rn_9_ring ns ct R K (n + 1) 188 [v0, .inl (true, z), v2, v3, v4, v5, v6, v7, v8, v9, v10, v11, v12, v13, v14, v15, v16, v17, v18, v19, v20, v21] k s = (rn_9_ring ns ct R K n 189 [v0, .inl (true, z), v2, v3, v4, v5, v6, v7, v8, v9, v10, v11, v12, v13, v14, v15, v16, v17, v18, v19, v20, v21] (.inl (true, z) :: k) s) := rfl
theorem rx_9_ring_189 {ns n ct R K s L k} : rn_9_ring ns ct R K (n + 1) 189 L k s = (rn_9_ring ns ct R K n 190 L (.inl (true, 1) :: k) s) := rfl
theorem rx_9_ring_190 {ns n ct R K s L k} : rn_9_ring ns ct R K (n + 1) 190 L k s = (sy_call false (ct 96) k s fun r t => rn_9_ring ns ct R K n 193 L r t) := rfl
theorem rx_9_ring_193 {ns n ct R K s L k a b x y} : rn_9_ring ns ct R K (n + 1) 193 L (.inl (b, y) :: .inl (a, x) :: k) s = (rn_9_ring ns ct R K n 194 L (.inl (false, x - y) :: k) s) := rfl
theorem rx_9_ring_194 {ns n ct R K s L k a x} : rn_9_ring ns ct R K (n + 1) 194 L (.inl (a, x) :: k) s = (sy_ri a x ∧ rn_9_ring ns ct R K n 195 L (.inr (.inl (true, x)) :: k) s) := rfl
theorem rx_9_ring_195 {ns n ct R K s L k} : rn_9_ring ns ct R K (n + 1) 195 L k s = (sy_call true (ct 128) k s fun r t => rn_9_ring ns ct R K n 198 L r t) := rfl
theorem rx_9_ring_198 {ns n ct R K s L k b z} : rn_9_ring ns ct R K (n + 1) 198 L (.inr (.inl (b, z)) :: k) s = (sy_rl b z ∧ 21 < L.length ∧ rn_9_ring ns ct R K n 200 (sy_gone (sy_sto L 20 (.inr (.inl (true, z)))) 21) k s) := rfl
theorem rx_9_ring_200 {ns n ct R K s k z v0 v1 v2 v3 v4 v5 v7 v8 v9 v10 v11 v12 v13 v14 v15 v16 v17 v18 v19 v20 v21} : rn_9_ring ns ct R K (n + 1) 200 [v0, v1, v2, v3, v4, v5, .inr (.inl (true, z)), v7, v8, v9, v10, v11, v12, v13, v14, v15, v16, v17, v18, v19, v20, v21] k s = (rn_9_ring ns ct R K n 202 [v0, v1, v2, v3, v4, v5, .inr (.inl (true, z)), v7, v8, v9, v10, v11, v12, v13, v14, v15, v16, v17, v18, v19, v20, v21] (.inr (.inl (true, z)) :: k) s) := rfl
theorem rx_9_ring_202 {ns n ct R K s L k} : rn_9_ring ns ct R K (n + 1) 202 L k s = (rn_9_ring ns ct R K n 203 L (.inr (.inl (true, 0)) :: k) s) := rfl
theorem rx_9_ring_203 {ns n ct R K s L k a b x y} : rn_9_ring ns ct R K (n + 1) 203 L (.inr (.inl (b, y)) :: .inr (.inl (a, x)) :: k) s = (sy_rl a x ∧ sy_rl b y ∧ rn_9_ring ns ct R K n 204 L (.inl (true, sy_cmp x y) :: k) s) := rfl
theorem rx_9_ring_204 {ns n ct R K s L k a x} : rn_9_ring ns ct R K (n + 1) 204 L (.inl (a, x) :: k) s = (sy_ri a x ∧ (x < 0 → rn_9_ring ns ct R K n 215 L k s) ∧ (¬ x < 0 → rn_9_ring ns ct R K n 207 L k s)) := rfl
theorem rx_9_ring_207 {ns n ct R K s k z v0 v1 v2 v3 v4 v5 v6 v7 v8 v9 v10 v11 v12 v13 v14 v15 v16 v17 v19 v20 v21} : rn_9_ring ns ct R K (n + 1) 207 [v0, v1, v2, v3, v4, v5, v6, v7, v8, v9, v10, v11, v12, v13, v14, v15, v16, v17, .inr (.inl (true, z)), v19, v20, v21] k s = (rn_9_ring ns ct R K n 209 [v0, v1, v2, v3, v4, v5, v6, v7, v8, v9, v10, v11, v12, v13, v14, v15, v16, v17, .inr (.inl (true, z)), v19, v20, v21] (.inr (.inl (true, z)) :: k) s) := rfl
theorem rx_9_ring_209 {ns n ct R K s k z v0 v1 v2 v3 v4 v5 v7 v8 v9 v10 v11 v12 v13 v14 v15 v16 v17 v18 v19 v20 v21} : rn_9_ring ns ct R K (n + 1) 209 [v0, v1, v2, v3, v4, v5, .inr (.inl (true, z)), v7, v8, v9, v10, v11, v12, v13, v14, v15, v16, v17, v18, v19, v20, v21] k s = (rn_9_ring ns ct R K n 211 [v0, v1, v2, v3, v4, v5, .inr (.inl (true, z)), v7, v8, v9, v10, v11, v12, v13, v14, v15, v16, v17, v18, v19, v20, v21] (.inr (.inl (true, z)) :: k) s) := rfl
theorem rx_9_ring_211 {ns n ct R K s L k a b x y} : rn_9_ring ns ct R K (n + 1) 211 L (.inr (.inl (b, y)) :: .inr (.inl (a, x)) :: k) s = (sy_rl a x ∧ sy_rl b y ∧ rn_9_ring ns ct R K n 212 L (.inl (true, sy_cmp x y) :: k) s) := rfl
theorem rx_9_ring_212 {ns n ct R K s L k a x} : rn_9_ring ns ct R K (n + 1) 212 L (.inl (a, x) :: k) s = (sy_ri a x ∧ (0 ≤ x → rn_9_ring ns ct R K n 220 L k s) ∧ (¬ 0 ≤ x → rn_9_ring ns ct R K n 215 L k s)) := rfl
theorem rx_9_ring_215 {ns n ct R K s k z v0 v1 v2 v3 v4 v5 v6 v7 v8 v9 v10 v11 v12 v13 v14 v15 v16 v17 v19 v20 v21} : rn_9_ring ns ct R K (n + 1) 215 [v0, v1, v2, v3, v4, v5, v6, v7, v8, v9, v10, v11, v12, v13, v14, v15, v16, v17, .inr (.inl (true, z)), v19, v20, v21] k s = (rn_9_ring ns ct R K n 217 [v0, v1, v2, v3, v4, v5, v6, v7, v8, v9, v10, v11, v12, v13, v14, v15, v16, v17, .inr (.inl (true, z)), v19, v20, v21] (.inr (.inl (true, z)) :: k) s) := rfl
theorem rx_9_ring_217 {ns n ct R K s L k} : rn_9_ring ns ct R K (n + 1) 217 L k s = (rn_9_ring ns ct R K n 222 L k s) := rfl
theorem rx_9_ring_220 {ns n ct R K s k z v0 v1 v2 v3 v4 v5 v7 v8 v9 v10 v11 v12 v13 v14 v15 v16 v17 v18 v19 v20 v21} : rn_9_ring ns ct R K (n + 1) 220 [v0, v1, v2, v3, v4, v5, .inr (.inl (true, z)), v7, v8, v9, v10, v11, v12, v13, v14, v15, v16, v17, v18, v19, v20, v21] k s = (rn_9_ring ns ct R K n 222 [v0, v1, v2, v3, v4, v5, .inr (.inl (true, z)), v7, v8, v9, v10, v11, v12, v13, v14, v15, v16, v17, v18, v19, v20, v21] (.inr (.inl (true, z)) :: k) s) := rfl
theorem rx_9_ring_222 {ns n ct R K s L k b z} : rn_9_ring ns ct R K (n + 1) 222 L (.inr (.inl (b, z)) :: k) s = (sy_rl b z ∧ 7 < L.length ∧ rn_9_ring ns ct R K n 224 (sy_gone (sy_sto L 6 (.inr (.inl (true, z)))) 7) k s) := rfl
theorem rx_9_ring_224 {ns n ct R K s k z v0 v1 v2 v3 v4 v5 v6 v7 v8 v9 v10 v11 v12 v13 v14 v15 v16 v17 v18 v19 v21} : rn_9_ring ns ct R K (n + 1) 224 [v0, v1, v2, v3, v4, v5, v6, v7, v8, v9, v10, v11, v12, v13, v14, v15, v16, v17, v18, v19, .inr (.inl (true, z)), v21] k s = (rn_9_ring ns ct R K n 226 [v0, v1, v2, v3, v4, v5, v6, v7, v8, v9, v10, v11, v12, v13, v14, v15, v16, v17, v18, v19, .inr (.inl (true, z)), v21] (.inr (.inl (true, z)) :: k) s) := rfl
theorem rx_9_ring_226 {ns n ct R K s k z v0 v1 v2 v3 v4 v5 v7 v8 v9 v10 v11 v12 v13 v14 v15 v16 v17 v18 v19 v20 v21} : rn_9_ring ns ct R K (n + 1) 226 [v0, v1, v2, v3, v4, v5, .inr (.inl (true, z)), v7, v8, v9, v10, v11, v12, v13, v14, v15, v16, v17, v18, v19, v20, v21] k s = (rn_9_ring ns ct R K n 228 [v0, v1, v2, v3, v4, v5, .inr (.inl (true, z)), v7, v8, v9, v10, v11, v12, v13, v14, v15, v16, v17, v18, v19, v20, v21] (.inr (.inl (true, z)) :: k) s) := rfl
theorem rx_9_ring_228 {ns n ct R K s L k a b x y} : rn_9_ring ns ct R K (n + 1) 228 L (.inr (.inl (b, y)) :: .inr (.inl (a, x)) :: k) s = (sy_rl a x ∧ sy_rl b y ∧ rn_9_ring ns ct R K n 229 L (.inl (true, sy_cmp x y) :: k) s) := rfl
theorem rx_9_ring_229 {ns n ct R K s L k a x} : rn_9_ring ns ct R K (n + 1) 229 L (.inl (a, x) :: k) s = (sy_ri a x ∧ (0 ≤ x → rn_9_ring ns ct R K n 237 L k s) ∧ (¬ 0 ≤ x → rn_9_ring ns ct R K n 232 L k s)) := rfl
theorem rx_9_ring_232 {ns n ct R K s k z v0 v1 v2 v3 v4 v5 v6 v7 v8 v9 v10 v11 v12 v13 v14 v15 v16 v17 v18 v19 v21} : rn_9_ring ns ct R K (n + 1) 232 [v0, v1, v2, v3, v4, v5, v6, v7, v8, v9, v10, v11, v12, v13, v14, v15, v16, v17, v18, v19, .inr (.inl (true, z)), v21] k s = (rn_9_ring ns ct R K n 234 [v0, v1, v2, v3, v4, v5, v6, v7, v8, v9, v10, v11, v12, v13, v14, v15, v16, v17, v18, v19, .inr (.inl (true, z)), v21] (.inr (.inl (true, z)) :: k) s) := rfl
theorem rx_9_ring_234 {ns n ct R K s L k} : rn_9_ring ns ct R K (n + 1) 234 L k s = (rn_9_ring ns ct R K n 239 L k s) := rfl
theorem rx_9_ring_237 {ns n ct R K s k z v0 v1 v2 v3 v4 v5 v7 v8 v9 v10 v11 v12 v13 v14 v15 v16 v17 v18 v19 v20 v21} : rn_9_ring ns ct R K (n + 1) 237 [v0, v1, v2, v3, v4, v5, .inr (.inl (true, z)), v7, v8, v9, v10, v11, v12, v13, v14, v15, v16, v17, v18, v19, v20, v21] k s = (rn_9_ring ns ct R K n 239 [v0, v1, v2, v3, v4, v5, .inr (.inl (true, z)), v7, v8, v9, v10, v11, v12, v13, v14, v15, v16, v17, v18, v19, v20, v21] (.inr (.inl (true, z)) :: k) s) := rfl
theorem rx_9_ring_239 {ns n ct R K s L k b z} : rn_9_ring ns ct R K (n + 1) 239 L (.inr (.inl (b, z)) :: k) s = (sy_rl b z ∧ 7 < L.length ∧ rn_9_ring ns ct R K n 241 (sy_gone (sy_sto L 6 (.inr (.inl (true, z)))) 7) k s) := rfl
theorem rx_9_ring_241 {ns n ct R K s k z v0 v1 v2 v3 v4 v5 v6 v7 v8 v9 v10 v11 v12 v13 v14 v15 v16 v17 v19 v20 v21} : rn_9_ring ns ct R K (n + 1) 241 [v0, v1, v2, v3, v4, v5, v6, v7, v8, v9, v10, v11, v12, v13, v14, v15, v16, v17, .inr (.inl (true, z)), v19, v20, v21] k s = (rn_9_ring ns ct R K n 243 [v0, v1, v2, v3, v4, v5, v6, v7, v8, v9, v10, v11, v12, v13, v14, v15, v16, v17, .inr (.inl (true, z)), v19, v20, v21] (.inr (.inl (true, z)) :: k) s) := rfl
theorem rx_9_ring_243 {ns n ct R K s k z v0 v1 v2 v3 v4 v5 v6 v7 v9 v10 v11 v12 v13 v14 v15 v16 v17 v18 v19 v20 v21} : rn_9_ring ns ct R K (n + 1) 243 [v0, v1, v2, v3, v4, v5, v6, v7, .inr (.inl (true, z)), v9, v10, v11, v12, v13, v14, v15, v16, v17, v18, v19, v20, v21] k s = (rn_9_ring ns ct R K n 245 [v0, v1, v2, v3, v4, v5, v6, v7, .inr (.inl (true, z)), v9, v10, v11, v12, v13, v14, v15, v16, v17, v18, v19, v20, v21] (.inr (.inl (true, z)) :: k) s) := rfl
theorem rx_9_ring_245 {ns n ct R K s L k a b x y} : rn_9_ring ns ct R K (n + 1) 245 L (.inr (.inl (b, y)) :: .inr (.inl (a, x)) :: k) s = (sy_rl a x ∧ sy_rl b y ∧ rn_9_ring ns ct R K n 246 L (.inl (true, sy_cmp x y) :: k) s) := rfl
theorem rx_9_ring_246 {ns n ct R K s L k a x} : rn_9_ring ns ct R K (n + 1) 246 L (.inl (a, x) :: k) s = (sy_ri a x ∧ (x ≤ 0 → rn_9_ring ns ct R K n 254 L k s) ∧ (¬ x ≤ 0 → rn_9_ring ns ct R K n 249 L k s)) := rfl
theorem rx_9_ring_249 {ns n ct R K s k z v0 v1 v2 v3 v4 v5 v6 v7 v8 v9 v10 v11 v12 v13 v14 v15 v16 v17 v19 v20 v21} : rn_9_ring ns ct R K (n + 1) 249 [v0, v1, v2, v3, v4, v5, v6, v7, v8, v9, v10, v11, v12, v13, v14, v15, v16, v17, .inr (.inl (true, z)), v19, v20, v21] k s = (rn_9_ring ns ct R K n 251 [v0, v1, v2, v3, v4, v5, v6, v7, v8, v9, v10, v11, v12, v13, v14, v15, v16, v17, .inr (.inl (true, z)), v19, v20, v21] (.inr (.inl (true, z)) :: k) s) := rfl
theorem rx_9_ring_251 {ns n ct R K s L k} : rn_9_ring ns ct R K (n + 1) 251 L k s = (rn_9_ring ns ct R K n 256 L k s) := rfl
theorem rx_9_ring_254 {ns n ct R K s k z v0 v1 v2 v3 v4 v5 v6 v7 v9 v10 v11 v12 v13 v14 v15 v16 v17 v18 v19 v20 v21} : rn_9_ring ns ct R K (n + 1) 254 [v0, v1, v2, v3, v4, v5, v6, v7, .inr (.inl (true, z)), v9, v10, v11, v12, v13, v14, v15, v16, v17, v18, v19, v20, v21] k s = (rn_9_ring ns ct R K n 256 [v0, v1, v2, v3, v4, v5, v6, v7, .inr (.inl (true, z)), v9, v10, v11, v12, v13, v14, v15, v16, v17, v18, v19, v20, v21] (.inr (.inl (true, z)) :: k) s) := rfl
theorem rx_9_ring_256 {ns n ct R K s L k b z} : rn_9_ring ns ct R K (n + 1) 256 L (.inr (.inl (b, z)) :: k) s = (sy_rl b z ∧ 9 < L.length ∧ rn_9_ring ns ct R K n 258 (sy_gone (sy_sto L 8 (.inr (.inl (true, z)))) 9) k s) := rfl
theorem rx_9_ring_258 {ns n ct R K s k z v0 v1 v2 v3 v4 v5 v6 v7 v8 v9 v10 v11 v12 v13 v14 v15 v16 v17 v18 v19 v21} : rn_9_ring ns ct R K (n + 1) 258 [v0, v1, v2, v3, v4, v5, v6, v7, v8, v9, v10, v11, v12, v13, v14, v15, v16, v17, v18, v19, .inr (.inl (true, z)), v21] k s = (rn_9_ring ns ct R K n 260 [v0, v1, v2, v3, v4, v5, v6, v7, v8, v9, v10, v11, v12, v13, v14, v15, v16, v17, v18, v19, .inr (.inl (true, z)), v21] (.inr (.inl (true, z)) :: k) s) := rfl
theorem rx_9_ring_260 {ns n ct R K s k z v0 v1 v2 v3 v4 v5 v6 v7 v9 v10 v11 v12 v13 v14 v15 v16 v17 v18 v19 v20 v21} : rn_9_ring ns ct R K (n + 1) 260 [v0, v1, v2, v3, v4, v5, v6, v7, .inr (.inl (true, z)), v9, v10, v11, v12, v13, v14, v15, v16, v17, v18, v19, v20, v21] k s = (rn_9_ring ns ct R K n 262 [v0, v1, v2, v3, v4, v5, v6, v7, .inr (.inl (true, z)), v9, v10, v11, v12, v13, v14, v15, v16, v17, v18, v19, v20, v21] (.inr (.inl (true, z)) :: k) s) := rfl
theorem rx_9_ring_262 {ns n ct R K s L k a b x y} : rn_9_ring ns ct R K (n + 1) 262 L (.inr (.inl (b, y)) :: .inr (.inl (a, x)) :: k) s = (sy_rl a x ∧ sy_rl b y ∧ rn_9_ring ns ct R K n 263 L (.inl (true, sy_cmp x y) :: k) s) := rfl
theorem rx_9_ring_263 {ns n ct R K s L k a x} : rn_9_ring ns ct R K (n + 1) 263 L (.inl (a, x) :: k) s = (sy_ri a x ∧ (x ≤ 0 → rn_9_ring ns ct R K n 271 L k s) ∧ (¬ x ≤ 0 → rn_9_ring ns ct R K n 266 L k s)) := rfl
theorem rx_9_ring_266 {ns n ct R K s k z v0 v1 v2 v3 v4 v5 v6 v7 v8 v9 v10 v11 v12 v13 v14 v15 v16 v17 v18 v19 v21} : rn_9_ring ns ct R K (n + 1) 266 [v0, v1, v2, v3, v4, v5, v6, v7, v8, v9, v10, v11, v12, v13, v14, v15, v16, v17, v18, v19, .inr (.inl (true, z)), v21] k s = (rn_9_ring ns ct R K n 268 [v0, v1, v2, v3, v4, v5, v6, v7, v8, v9, v10, v11, v12, v13, v14, v15, v16, v17, v18, v19, .inr (.inl (true, z)), v21] (.inr (.inl (true, z)) :: k) s) := rfl
theorem rx_9_ring_268 {ns n ct R K s L k} : rn_9_ring ns ct R K (n + 1) 268 L k s = (rn_9_ring ns ct R K n 273 L k s) := rfl
theorem rx_9_ring_271 {ns n ct R K s k z v0 v1 v2 v3 v4 v5 v6 v7 v9 v10 v11 v12 v13 v14 v15 v16 v17 v18 v19 v20 v21} : rn_9_ring ns ct R K (n + 1) 271 [v0, v1, v2, v3, v4, v5, v6, v7, .inr (.inl (true, z)), v9, v10, v11, v12, v13, v14, v15, v16, v17, v18, v19, v20, v21] k s = (rn_9_ring ns ct R K n 273 [v0, v1, v2, v3, v4, v5, v6, v7, .inr (.inl (true, z)), v9, v10, v11, v12, v13, v14, v15, v16, v17, v18, v19, v20, v21] (.inr (.inl (true, z)) :: k) s) := rfl
theorem rx_9_ring_273 {ns n ct R K s L k b z} : rn_9_ring ns ct R K (n + 1) 273 L (.inr (.inl (b, z)) :: k) s = (sy_rl b z ∧ 9 < L.length ∧ rn_9_ring ns ct R K n 275 (sy_gone (sy_sto L 8 (.inr (.inl (true, z)))) 9) k s) := rfl
theorem rx_9_ring_275 {ns n ct R K s k z v0 v1 v2 v3 v4 v5 v6 v7 v8 v9 v11 v12 v13 v14 v15 v16 v17 v18 v19 v20 v21} : rn_9_ring ns ct R K (n + 1) 275 [v0, v1, v2, v3, v4, v5, v6, v7, v8, v9, .inl (true, z), v11, v12, v13, v14, v15, v16, v17, v18, v19, v20, v21] k s = ((-2147483648 ≤ z + 1 ∧ z + 1 < 2147483648) ∧ rn_9_ring ns ct R K n 278 (sy_sto [v0, v1, v2, v3, v4, v5, v6, v7, v8, v9, .inl (true, z), v11, v12, v13, v14, v15, v16, v17, v18, v19, v20, v21] 10 (.inl (true, z + 1))) k s) := rfl
theorem rx_9_ring_278 {ns n ct R K s L k} : rn_9_ring ns ct R K (n + 1) 278 L k s = (K 45 L k s) := rfl
theorem rx_9_ring_281 {ns n ct R K s k z v0 v1 v3 v4 v5 v6 v7 v8 v9 v10 v11 v12 v13 v14 v15 v16 v17 v18 v19 v20 v21} : rn_9_ring ns ct R K (n + 1) 281 [v0, v1, .inl (true, z), v3, v4, v5, v6, v7, v8, v9, v10, v11, v12, v13, v14, v15, v16, v17, v18, v19, v20, v21] k s = (rn_9_ring ns ct R K n 282 [v0, v1, .inl (true, z), v3, v4, v5, v6, v7, v8, v9, v10, v11, v12, v13, v14, v15, v16, v17, v18, v19, v20, v21] (.inl (true, z) :: k) s) := rfl
theorem rx_9_ring_282 {ns n ct R K s L k a x} : rn_9_ring ns ct R K (n + 1) 282 L (.inl (a, x) :: k) s = (sy_ri a x ∧ (¬ x = 0 → rn_9_ring ns ct R K n 289 L k s) ∧ (x = 0 → rn_9_ring ns ct R K n 285 L k s)) := rfl
theorem rx_9_ring_285 {ns n ct R K s k z v0 v1 v2 v3 v4 v6 v7 v8 v9 v10 v11 v12 v13 v14 v15 v16 v17 v18 v19 v20 v21} : rn_9_ring ns ct R K (n + 1) 285 [v0, v1, v2, v3, v4, .inl (true, z), v6, v7, v8, v9, v10, v11, v12, v13, v14, v15, v16, v17, v18, v19, v20, v21] k s = (rn_9_ring ns ct R K n 287 [v0, v1, v2, v3, v4, .inl (true, z), v6, v7, v8, v9, v10, v11, v12, v13, v14, v15, v16, v17, v18, v19, v20, v21] (.inl (true, z) :: k) s) := rfl
theorem rx_9_ring_287 {ns n ct R K s L k a x} : rn_9_ring ns ct R K (n + 1) 287 L (.inl (a, x) :: k) s = (sy_ri a x ∧ rn_9_ring ns ct R K n 288 L (.inr (.inl (true, x)) :: k) s) := rfl
theorem rx_9_ring_288 {ns n ct R K s L a z} : rn_9_ring ns ct R K (n + 1) 288 L [.inr (.inl (a, z))] s = (sy_rl a z ∧ R (some (.inr (.inl (true, z)))) s) := rfl
theorem rx_9_ring_289 {ns n ct R K s k z v0 v1 v2 v3 v4 v6 v7 v8 v9 v10 v11 v12 v13 v14 v15 v16 v17 v18 v19 v20 v21} : rn_9_ring ns ct R K (n + 1) 289 [v0, v1, v2, v3, v4, .inl (true, z), v6, v7, v8, v9, v10, v11, v12, v13, v14, v15, v16, v17, v18, v19, v20, v21] k s = (rn_9_ring ns ct R K n 291 [v0, v1, v2, v3, v4, .inl (true, z), v6, v7, v8, v9, v10, v11, v12, v13, v14, v15, v16, v17, v18, v19, v20, v21] (.inl (true, z) :: k) s) := rfl
theorem rx_9_ring_291 {ns n ct R K s k z v1 v2 v3 v4 v5 v6 v7 v8 v9 v10 v11 v12 v13 v14 v15 v16 v17 v18 v19 v20 v21} : rn_9_ring ns ct R K (n + 1) 291 [.inr (.inr (some z)), v1, v2, v3, v4, v5, v6, v7, v8, v9, v10, v11, v12, v13, v14, v15, v16, v17, v18, v19, v20, v21] k s = (rn_9_ring ns ct R K n 292 [.inr (.inr (some z)), v1, v2, v3, v4, v5, v6, v7, v8, v9, v10, v11, v12, v13, v14, v15, v16, v17, v18, v19, v20, v21] (.inr (.inr (some z)) :: k) s) := rfl
theorem rx_9_ring_292 {ns n ct R K s L k a} : rn_9_ring ns ct R K (n + 1) 292 L (.inr (.inr (some (some a))) :: k) s = (sy_ob a = some 9 ∧ rn_9_ring ns ct R K n 295 L (sy_fv s a 8 :: k) s) := rfl
theorem rx_9_ring_295 {ns n ct R K s L k a b x y} : rn_9_ring ns ct R K (n + 1) 295 L (.inl (b, y) :: .inl (a, x) :: k) s = (sy_ri a x ∧ sy_ri b y ∧ (x < y → rn_9_ring ns ct R K n 305 L k s) ∧ (¬ x < y → rn_9_ring ns ct R K n 298 L k s)) := rfl
theorem rx_9_ring_298 {ns n ct R K s k z v1 v2 v3 v4 v5 v6 v7 v8 v9 v10 v11 v12 v13 v14 v15 v16 v17 v18 v19 v20 v21} : rn_9_ring ns ct R K (n + 1) 298 [.inr (.inr (some z)), v1, v2, v3, v4, v5, v6, v7, v8, v9, v10, v11, v12, v13, v14, v15, v16, v17, v18, v19, v20, v21] k s = (rn_9_ring ns ct R K n 299 [.inr (.inr (some z)), v1, v2, v3, v4, v5, v6, v7, v8, v9, v10, v11, v12, v13, v14, v15, v16, v17, v18, v19, v20, v21] (.inr (.inr (some z)) :: k) s) := rfl
theorem rx_9_ring_299 {ns n ct R K s L k a} : rn_9_ring ns ct R K (n + 1) 299 L (.inr (.inr (some (some a))) :: k) s = (sy_ob a = some 9 ∧ rn_9_ring ns ct R K n 302 L (sy_fv s a 8 :: k) s) := rfl
theorem rx_9_ring_302 {ns n ct R K s L k a x} : rn_9_ring ns ct R K (n + 1) 302 L (.inl (a, x) :: k) s = (sy_ri a x ∧ (¬ x = 0 → rn_9_ring ns ct R K n 309 L k s) ∧ (x = 0 → rn_9_ring ns ct R K n 305 L k s)) := rfl
theorem rx_9_ring_305 {ns n ct R K s L k} : rn_9_ring ns ct R K (n + 1) 305 L k s = (rn_9_ring ns ct R K n 308 L (.inr (.inl (true, -1)) :: k) s) := rfl
theorem rx_9_ring_308 {ns n ct R K s L a z} : rn_9_ring ns ct R K (n + 1) 308 L [.inr (.inl (a, z))] s = (sy_rl a z ∧ R (some (.inr (.inl (true, z)))) s) := rfl
theorem rx_9_ring_309 {ns n ct R K s k z v0 v1 v3 v4 v5 v6 v7 v8 v9 v10 v11 v12 v13 v14 v15 v16 v17 v18 v19 v20 v21} : rn_9_ring ns ct R K (n + 1) 309 [v0, v1, .inl (true, z), v3, v4, v5, v6, v7, v8, v9, v10, v11, v12, v13, v14, v15, v16, v17, v18, v19, v20, v21] k s = (rn_9_ring ns ct R K n 310 [v0, v1, .inl (true, z), v3, v4, v5, v6, v7, v8, v9, v10, v11, v12, v13, v14, v15, v16, v17, v18, v19, v20, v21] (.inl (true, z) :: k) s) := rfl
theorem rx_9_ring_310 {ns n ct R K s L k} : rn_9_ring ns ct R K (n + 1) 310 L k s = (rn_9_ring ns ct R K n 311 L (.inl (true, 1) :: k) s) := rfl
theorem rx_9_ring_311 {ns n ct R K s L k a b x y} : rn_9_ring ns ct R K (n + 1) 311 L (.inl (b, y) :: .inl (a, x) :: k) s = (sy_ri a x ∧ sy_ri b y ∧ (¬ x = y → rn_9_ring ns ct R K n 319 L k s) ∧ (x = y → rn_9_ring ns ct R K n 314 L k s)) := rfl
theorem rx_9_ring_314 {ns n ct R K s k z v0 v1 v2 v3 v4 v5 v7 v8 v9 v10 v11 v12 v13 v14 v15 v16 v17 v18 v19 v20 v21} : rn_9_ring ns ct R K (n + 1) 314 [v0, v1, v2, v3, v4, v5, .inr (.inl (true, z)), v7, v8, v9, v10, v11, v12, v13, v14, v15, v16, v17, v18, v19, v20, v21] k s = (rn_9_ring ns ct R K n 316 [v0, v1, v2, v3, v4, v5, .inr (.inl (true, z)), v7, v8, v9, v10, v11, v12, v13, v14, v15, v16, v17, v18, v19, v20, v21] (.inr (.inl (true, z)) :: k) s) := rfl
theorem rx_9_ring_316 {ns n ct R K s L k} : rn_9_ring ns ct R K (n + 1) 316 L k s = (rn_9_ring ns ct R K n 321 L k s) := rfl
theorem rx_9_ring_319 {ns n ct R K s k z v0 v1 v2 v3 v4 v5 v6 v7 v9 v10 v11 v12 v13 v14 v15 v16 v17 v18 v19 v20 v21} : rn_9_ring ns ct R K (n + 1) 319 [v0, v1, v2, v3, v4, v5, v6, v7, .inr (.inl (true, z)), v9, v10, v11, v12, v13, v14, v15, v16, v17, v18, v19, v20, v21] k s = (rn_9_ring ns ct R K n 321 [v0, v1, v2, v3, v4, v5, v6, v7, .inr (.inl (true, z)), v9, v10, v11, v12, v13, v14, v15, v16, v17, v18, v19, v20, v21] (.inr (.inl (true, z)) :: k) s) := rfl
theorem rx_9_ring_321 {ns n ct R K s L a z} : rn_9_ring ns ct R K (n + 1) 321 L [.inr (.inl (a, z))] s = (sy_rl a z ∧ R (some (.inr (.inl (true, z)))) s) := rfl
def y_9_can : MethodName := ⟨"StarHideModel", "can", "(IIIIII)Z"⟩
abbrev c_9_can : ByteArray := prog_11_method_46_code
def tc_9_can (pc : Nat) : Option sy_I := match pc with
  | 0 => some (.iload_n 1, 1, 0)
  | 1 => some (.istore 7, 3, 0)
  | 3 => some (.iconst 0, 4, 0)
  | 4 => some (.istore 8, 6, 0)
  | 6 => some (.iload_n 2, 7, 0)
  | 7 => some (.istore 9, 9, 0)
  | 9 => some (.iload 5, 11, 0)
  | 11 => some (.iload 7, 13, 0)
  | 13 => some (.isub, 14, 0)
  | 14 => some (.iload 6, 16, 0)
  | 16 => some (.if_icmp .le 71, 19, 87)
  | 19 => some (.iconst (-1), 20, 0)
  | 20 => some (.istore 10, 22, 0)
  | 22 => some (.iload 9, 24, 0)
  | 24 => some (.iload 4, 26, 0)
  | 26 => some (.if_icmp .ge 33, 29, 59)
  | 29 => some (.aload_n 0, 30, 0)
  | 30 => some (.getfield 16, 33, 0)
  | 33 => some (.aload_n 0, 34, 0)
  | 34 => some (.getfield 60, 37, 0)
  | 37 => some (.iload 9, 39, 0)
  | 39 => some (.iaload, 40, 0)
  | 40 => some (.iaload, 41, 0)
  | 41 => some (.iload 7, 43, 0)
  | 43 => some (.isub, 44, 0)
  | 44 => some (.iload 6, 46, 0)
  | 46 => some (.if_icmp .gt 13, 49, 59)
  | 49 => some (.iload 9, 51, 0)
  | 51 => some (.istore 10, 53, 0)
  | 53 => some (.iinc 9 1, 56, 0)
  | 56 => some (.goto (-34), 59, 22)
  | 59 => some (.iload 10, 61, 0)
  | 61 => some (.iconst (-1), 62, 0)
  | 62 => some (.if_icmp .ne 5, 65, 67)
  | 65 => some (.iconst 0, 66, 0)
  | 66 => some (.ireturn, 67, 0)
  | 67 => some (.aload_n 0, 68, 0)
  | 68 => some (.getfield 16, 71, 0)
  | 71 => some (.aload_n 0, 72, 0)
  | 72 => some (.getfield 60, 75, 0)
  | 75 => some (.iload 10, 77, 0)
  | 77 => some (.iaload, 78, 0)
  | 78 => some (.iaload, 79, 0)
  | 79 => some (.istore 7, 81, 0)
  | 81 => some (.iinc 8 1, 84, 0)
  | 84 => some (.goto (-75), 87, 9)
  | 87 => some (.iload 8, 89, 0)
  | 89 => some (.iload_n 3, 90, 0)
  | 90 => some (.if_icmp .gt 15, 93, 105)
  | 93 => some (.iload 4, 95, 0)
  | 95 => some (.iload_n 2, 96, 0)
  | 96 => some (.isub, 97, 0)
  | 97 => some (.iload_n 3, 98, 0)
  | 98 => some (.if_icmp .lt 7, 101, 105)
  | 101 => some (.iconst 1, 102, 0)
  | 102 => some (.goto 4, 105, 106)
  | 105 => some (.iconst 0, 106, 0)
  | 106 => some (.ireturn, 107, 0)
  | _ => none
theorem tv_9_can : ∀ pc i, sy_lk 107 tc_9_can pc = some i → sy_chk c_9_can (some .boolean) true pc i = true := sy_lk_ok 107 tc_9_can (by decide +kernel)
def Mk_9_can (ct : Nat → Option (Bool × Nat × sy_Sp)) : sy_M := (sy_lk 107 tc_9_can, ff_9, ki_9, kl_9, ct, true)
def rn_9_can (ns : Nat) (ct : Nat → Option (Bool × Nat × sy_Sp)) (R : sy_R) (K : sy_K) : Nat → sy_K := sy_run ns (Mk_9_can ct) [9, 22] R K
theorem rx_9_can_0 {ns n ct R K s k z v0 v2 v3 v4 v5 v6 v7 v8 v9 v10} : rn_9_can ns ct R K (n + 1) 0 [v0, .inl (true, z), v2, v3, v4, v5, v6, v7, v8, v9, v10] k s = (rn_9_can ns ct R K n 1 [v0, .inl (true, z), v2, v3, v4, v5, v6, v7, v8, v9, v10] (.inl (true, z) :: k) s) := rfl
theorem rx_9_can_1 {ns n ct R K s L k b z} : rn_9_can ns ct R K (n + 1) 1 L (.inl (b, z) :: k) s = (sy_ri b z ∧ 7 < L.length ∧ rn_9_can ns ct R K n 3 (sy_sto L 7 (.inl (true, z))) k s) := rfl
theorem rx_9_can_3 {ns n ct R K s L k} : rn_9_can ns ct R K (n + 1) 3 L k s = (rn_9_can ns ct R K n 4 L (.inl (true, 0) :: k) s) := rfl
theorem rx_9_can_4 {ns n ct R K s L k b z} : rn_9_can ns ct R K (n + 1) 4 L (.inl (b, z) :: k) s = (sy_ri b z ∧ 8 < L.length ∧ rn_9_can ns ct R K n 6 (sy_sto L 8 (.inl (true, z))) k s) := rfl
theorem rx_9_can_6 {ns n ct R K s k z v0 v1 v3 v4 v5 v6 v7 v8 v9 v10} : rn_9_can ns ct R K (n + 1) 6 [v0, v1, .inl (true, z), v3, v4, v5, v6, v7, v8, v9, v10] k s = (rn_9_can ns ct R K n 7 [v0, v1, .inl (true, z), v3, v4, v5, v6, v7, v8, v9, v10] (.inl (true, z) :: k) s) := rfl
theorem rx_9_can_7 {ns n ct R K s L k b z} : rn_9_can ns ct R K (n + 1) 7 L (.inl (b, z) :: k) s = (sy_ri b z ∧ 9 < L.length ∧ K 9 (sy_sto L 9 (.inl (true, z))) k s) := rfl
theorem rx_9_can_9 {ns n ct R K s k z v0 v1 v2 v3 v4 v6 v7 v8 v9 v10} : rn_9_can ns ct R K (n + 1) 9 [v0, v1, v2, v3, v4, .inl (true, z), v6, v7, v8, v9, v10] k s = (rn_9_can ns ct R K n 11 [v0, v1, v2, v3, v4, .inl (true, z), v6, v7, v8, v9, v10] (.inl (true, z) :: k) s) := rfl
theorem rx_9_can_11 {ns n ct R K s k z v0 v1 v2 v3 v4 v5 v6 v8 v9 v10} : rn_9_can ns ct R K (n + 1) 11 [v0, v1, v2, v3, v4, v5, v6, .inl (true, z), v8, v9, v10] k s = (rn_9_can ns ct R K n 13 [v0, v1, v2, v3, v4, v5, v6, .inl (true, z), v8, v9, v10] (.inl (true, z) :: k) s) := rfl
theorem rx_9_can_13 {ns n ct R K s L k a b x y} : rn_9_can ns ct R K (n + 1) 13 L (.inl (b, y) :: .inl (a, x) :: k) s = (rn_9_can ns ct R K n 14 L (.inl (false, x - y) :: k) s) := rfl
theorem rx_9_can_14 {ns n ct R K s k z v0 v1 v2 v3 v4 v5 v7 v8 v9 v10} : rn_9_can ns ct R K (n + 1) 14 [v0, v1, v2, v3, v4, v5, .inl (true, z), v7, v8, v9, v10] k s = (rn_9_can ns ct R K n 16 [v0, v1, v2, v3, v4, v5, .inl (true, z), v7, v8, v9, v10] (.inl (true, z) :: k) s) := rfl
theorem rx_9_can_16 {ns n ct R K s L k a b x y} : rn_9_can ns ct R K (n + 1) 16 L (.inl (b, y) :: .inl (a, x) :: k) s = (sy_ri a x ∧ sy_ri b y ∧ (x ≤ y → rn_9_can ns ct R K n 87 L k s) ∧ (¬ x ≤ y → rn_9_can ns ct R K n 19 L k s)) := rfl
theorem rx_9_can_19 {ns n ct R K s L k} : rn_9_can ns ct R K (n + 1) 19 L k s = (rn_9_can ns ct R K n 20 L (.inl (true, (-1)) :: k) s) := rfl
theorem rx_9_can_20 {ns n ct R K s L k b z} : rn_9_can ns ct R K (n + 1) 20 L (.inl (b, z) :: k) s = (sy_ri b z ∧ 10 < L.length ∧ K 22 (sy_sto L 10 (.inl (true, z))) k s) := rfl
theorem rx_9_can_22 {ns n ct R K s k z v0 v1 v2 v3 v4 v5 v6 v7 v8 v10} : rn_9_can ns ct R K (n + 1) 22 [v0, v1, v2, v3, v4, v5, v6, v7, v8, .inl (true, z), v10] k s = (rn_9_can ns ct R K n 24 [v0, v1, v2, v3, v4, v5, v6, v7, v8, .inl (true, z), v10] (.inl (true, z) :: k) s) := rfl
theorem rx_9_can_24 {ns n ct R K s k z v0 v1 v2 v3 v5 v6 v7 v8 v9 v10} : rn_9_can ns ct R K (n + 1) 24 [v0, v1, v2, v3, .inl (true, z), v5, v6, v7, v8, v9, v10] k s = (rn_9_can ns ct R K n 26 [v0, v1, v2, v3, .inl (true, z), v5, v6, v7, v8, v9, v10] (.inl (true, z) :: k) s) := rfl
theorem rx_9_can_26 {ns n ct R K s L k a b x y} : rn_9_can ns ct R K (n + 1) 26 L (.inl (b, y) :: .inl (a, x) :: k) s = (sy_ri a x ∧ sy_ri b y ∧ (y ≤ x → rn_9_can ns ct R K n 59 L k s) ∧ (¬ y ≤ x → rn_9_can ns ct R K n 29 L k s)) := rfl
theorem rx_9_can_29 {ns n ct R K s k z v1 v2 v3 v4 v5 v6 v7 v8 v9 v10} : rn_9_can ns ct R K (n + 1) 29 [.inr (.inr (some z)), v1, v2, v3, v4, v5, v6, v7, v8, v9, v10] k s = (rn_9_can ns ct R K n 30 [.inr (.inr (some z)), v1, v2, v3, v4, v5, v6, v7, v8, v9, v10] (.inr (.inr (some z)) :: k) s) := rfl
theorem rx_9_can_30 {ns n ct R K s L k a} : rn_9_can ns ct R K (n + 1) 30 L (.inr (.inr (some (some a))) :: k) s = (sy_ob a = some 9 ∧ rn_9_can ns ct R K n 33 L (sy_fv s a 2 :: k) s) := rfl
theorem rx_9_can_33 {ns n ct R K s k z v1 v2 v3 v4 v5 v6 v7 v8 v9 v10} : rn_9_can ns ct R K (n + 1) 33 [.inr (.inr (some z)), v1, v2, v3, v4, v5, v6, v7, v8, v9, v10] k s = (rn_9_can ns ct R K n 34 [.inr (.inr (some z)), v1, v2, v3, v4, v5, v6, v7, v8, v9, v10] (.inr (.inr (some z)) :: k) s) := rfl
theorem rx_9_can_34 {ns n ct R K s L k a} : rn_9_can ns ct R K (n + 1) 34 L (.inr (.inr (some (some a))) :: k) s = (sy_ob a = some 9 ∧ rn_9_can ns ct R K n 37 L (sy_fv s a 16 :: k) s) := rfl
theorem rx_9_can_37 {ns n ct R K s k z v0 v1 v2 v3 v4 v5 v6 v7 v8 v10} : rn_9_can ns ct R K (n + 1) 37 [v0, v1, v2, v3, v4, v5, v6, v7, v8, .inl (true, z), v10] k s = (rn_9_can ns ct R K n 39 [v0, v1, v2, v3, v4, v5, v6, v7, v8, .inl (true, z), v10] (.inl (true, z) :: k) s) := rfl
theorem rx_9_can_39 {ns n ct R K s L k a b z} : rn_9_can ns ct R K (n + 1) 39 L (.inl (b, z) :: .inr (.inr (some (some a))) :: k) s = ((0 ≤ z ∧ z < (sy_ar a).2) ∧ sy_ob a = none ∧ (sy_ar a).1 = 0 ∧ rn_9_can ns ct R K n 40 L (.inl (true, s a z.toNat) :: k) s) := rfl
theorem rx_9_can_40 {ns n ct R K s L k a b z} : rn_9_can ns ct R K (n + 1) 40 L (.inl (b, z) :: .inr (.inr (some (some a))) :: k) s = ((0 ≤ z ∧ z < (sy_ar a).2) ∧ sy_ob a = none ∧ (sy_ar a).1 = 0 ∧ rn_9_can ns ct R K n 41 L (.inl (true, s a z.toNat) :: k) s) := rfl
theorem rx_9_can_41 {ns n ct R K s k z v0 v1 v2 v3 v4 v5 v6 v8 v9 v10} : rn_9_can ns ct R K (n + 1) 41 [v0, v1, v2, v3, v4, v5, v6, .inl (true, z), v8, v9, v10] k s = (rn_9_can ns ct R K n 43 [v0, v1, v2, v3, v4, v5, v6, .inl (true, z), v8, v9, v10] (.inl (true, z) :: k) s) := rfl
theorem rx_9_can_43 {ns n ct R K s L k a b x y} : rn_9_can ns ct R K (n + 1) 43 L (.inl (b, y) :: .inl (a, x) :: k) s = (rn_9_can ns ct R K n 44 L (.inl (false, x - y) :: k) s) := rfl
theorem rx_9_can_44 {ns n ct R K s k z v0 v1 v2 v3 v4 v5 v7 v8 v9 v10} : rn_9_can ns ct R K (n + 1) 44 [v0, v1, v2, v3, v4, v5, .inl (true, z), v7, v8, v9, v10] k s = (rn_9_can ns ct R K n 46 [v0, v1, v2, v3, v4, v5, .inl (true, z), v7, v8, v9, v10] (.inl (true, z) :: k) s) := rfl
theorem rx_9_can_46 {ns n ct R K s L k a b x y} : rn_9_can ns ct R K (n + 1) 46 L (.inl (b, y) :: .inl (a, x) :: k) s = (sy_ri a x ∧ sy_ri b y ∧ (y < x → rn_9_can ns ct R K n 59 L k s) ∧ (¬ y < x → rn_9_can ns ct R K n 49 L k s)) := rfl
theorem rx_9_can_49 {ns n ct R K s k z v0 v1 v2 v3 v4 v5 v6 v7 v8 v10} : rn_9_can ns ct R K (n + 1) 49 [v0, v1, v2, v3, v4, v5, v6, v7, v8, .inl (true, z), v10] k s = (rn_9_can ns ct R K n 51 [v0, v1, v2, v3, v4, v5, v6, v7, v8, .inl (true, z), v10] (.inl (true, z) :: k) s) := rfl
theorem rx_9_can_51 {ns n ct R K s L k b z} : rn_9_can ns ct R K (n + 1) 51 L (.inl (b, z) :: k) s = (sy_ri b z ∧ 10 < L.length ∧ rn_9_can ns ct R K n 53 (sy_sto L 10 (.inl (true, z))) k s) := rfl
theorem rx_9_can_53 {ns n ct R K s k z v0 v1 v2 v3 v4 v5 v6 v7 v8 v10} : rn_9_can ns ct R K (n + 1) 53 [v0, v1, v2, v3, v4, v5, v6, v7, v8, .inl (true, z), v10] k s = ((-2147483648 ≤ z + 1 ∧ z + 1 < 2147483648) ∧ rn_9_can ns ct R K n 56 (sy_sto [v0, v1, v2, v3, v4, v5, v6, v7, v8, .inl (true, z), v10] 9 (.inl (true, z + 1))) k s) := rfl
theorem rx_9_can_56 {ns n ct R K s L k} : rn_9_can ns ct R K (n + 1) 56 L k s = (K 22 L k s) := rfl
theorem rx_9_can_59 {ns n ct R K s k z v0 v1 v2 v3 v4 v5 v6 v7 v8 v9} : rn_9_can ns ct R K (n + 1) 59 [v0, v1, v2, v3, v4, v5, v6, v7, v8, v9, .inl (true, z)] k s = (rn_9_can ns ct R K n 61 [v0, v1, v2, v3, v4, v5, v6, v7, v8, v9, .inl (true, z)] (.inl (true, z) :: k) s) := rfl
theorem rx_9_can_61 {ns n ct R K s L k} : rn_9_can ns ct R K (n + 1) 61 L k s = (rn_9_can ns ct R K n 62 L (.inl (true, (-1)) :: k) s) := rfl
theorem rx_9_can_62 {ns n ct R K s L k a b x y} : rn_9_can ns ct R K (n + 1) 62 L (.inl (b, y) :: .inl (a, x) :: k) s = (sy_ri a x ∧ sy_ri b y ∧ (¬ x = y → rn_9_can ns ct R K n 67 L k s) ∧ (x = y → rn_9_can ns ct R K n 65 L k s)) := rfl
theorem rx_9_can_65 {ns n ct R K s L k} : rn_9_can ns ct R K (n + 1) 65 L k s = (rn_9_can ns ct R K n 66 L (.inl (true, 0) :: k) s) := rfl
theorem rx_9_can_66 {ns n ct R K s L a z} : rn_9_can ns ct R K (n + 1) 66 L [.inl (a, z)] s = (sy_ri a z ∧ sy_b01 true z ∧ R (some (.inl (true, z))) s) := rfl
theorem rx_9_can_67 {ns n ct R K s k z v1 v2 v3 v4 v5 v6 v7 v8 v9 v10} : rn_9_can ns ct R K (n + 1) 67 [.inr (.inr (some z)), v1, v2, v3, v4, v5, v6, v7, v8, v9, v10] k s = (rn_9_can ns ct R K n 68 [.inr (.inr (some z)), v1, v2, v3, v4, v5, v6, v7, v8, v9, v10] (.inr (.inr (some z)) :: k) s) := rfl
theorem rx_9_can_68 {ns n ct R K s L k a} : rn_9_can ns ct R K (n + 1) 68 L (.inr (.inr (some (some a))) :: k) s = (sy_ob a = some 9 ∧ rn_9_can ns ct R K n 71 L (sy_fv s a 2 :: k) s) := rfl
theorem rx_9_can_71 {ns n ct R K s k z v1 v2 v3 v4 v5 v6 v7 v8 v9 v10} : rn_9_can ns ct R K (n + 1) 71 [.inr (.inr (some z)), v1, v2, v3, v4, v5, v6, v7, v8, v9, v10] k s = (rn_9_can ns ct R K n 72 [.inr (.inr (some z)), v1, v2, v3, v4, v5, v6, v7, v8, v9, v10] (.inr (.inr (some z)) :: k) s) := rfl
theorem rx_9_can_72 {ns n ct R K s L k a} : rn_9_can ns ct R K (n + 1) 72 L (.inr (.inr (some (some a))) :: k) s = (sy_ob a = some 9 ∧ rn_9_can ns ct R K n 75 L (sy_fv s a 16 :: k) s) := rfl
theorem rx_9_can_75 {ns n ct R K s k z v0 v1 v2 v3 v4 v5 v6 v7 v8 v9} : rn_9_can ns ct R K (n + 1) 75 [v0, v1, v2, v3, v4, v5, v6, v7, v8, v9, .inl (true, z)] k s = (rn_9_can ns ct R K n 77 [v0, v1, v2, v3, v4, v5, v6, v7, v8, v9, .inl (true, z)] (.inl (true, z) :: k) s) := rfl
theorem rx_9_can_77 {ns n ct R K s L k a b z} : rn_9_can ns ct R K (n + 1) 77 L (.inl (b, z) :: .inr (.inr (some (some a))) :: k) s = ((0 ≤ z ∧ z < (sy_ar a).2) ∧ sy_ob a = none ∧ (sy_ar a).1 = 0 ∧ rn_9_can ns ct R K n 78 L (.inl (true, s a z.toNat) :: k) s) := rfl
theorem rx_9_can_78 {ns n ct R K s L k a b z} : rn_9_can ns ct R K (n + 1) 78 L (.inl (b, z) :: .inr (.inr (some (some a))) :: k) s = ((0 ≤ z ∧ z < (sy_ar a).2) ∧ sy_ob a = none ∧ (sy_ar a).1 = 0 ∧ rn_9_can ns ct R K n 79 L (.inl (true, s a z.toNat) :: k) s) := rfl
theorem rx_9_can_79 {ns n ct R K s L k b z} : rn_9_can ns ct R K (n + 1) 79 L (.inl (b, z) :: k) s = (sy_ri b z ∧ 7 < L.length ∧ rn_9_can ns ct R K n 81 (sy_sto L 7 (.inl (true, z))) k s) := rfl
theorem rx_9_can_81 {ns n ct R K s k z v0 v1 v2 v3 v4 v5 v6 v7 v9 v10} : rn_9_can ns ct R K (n + 1) 81 [v0, v1, v2, v3, v4, v5, v6, v7, .inl (true, z), v9, v10] k s = ((-2147483648 ≤ z + 1 ∧ z + 1 < 2147483648) ∧ rn_9_can ns ct R K n 84 (sy_sto [v0, v1, v2, v3, v4, v5, v6, v7, .inl (true, z), v9, v10] 8 (.inl (true, z + 1))) k s) := rfl
theorem rx_9_can_84 {ns n ct R K s L k} : rn_9_can ns ct R K (n + 1) 84 L k s = (K 9 L k s) := rfl
theorem rx_9_can_87 {ns n ct R K s k z v0 v1 v2 v3 v4 v5 v6 v7 v9 v10} : rn_9_can ns ct R K (n + 1) 87 [v0, v1, v2, v3, v4, v5, v6, v7, .inl (true, z), v9, v10] k s = (rn_9_can ns ct R K n 89 [v0, v1, v2, v3, v4, v5, v6, v7, .inl (true, z), v9, v10] (.inl (true, z) :: k) s) := rfl
theorem rx_9_can_89 {ns n ct R K s k z v0 v1 v2 v4 v5 v6 v7 v8 v9 v10} : rn_9_can ns ct R K (n + 1) 89 [v0, v1, v2, .inl (true, z), v4, v5, v6, v7, v8, v9, v10] k s = (rn_9_can ns ct R K n 90 [v0, v1, v2, .inl (true, z), v4, v5, v6, v7, v8, v9, v10] (.inl (true, z) :: k) s) := rfl
theorem rx_9_can_90 {ns n ct R K s L k a b x y} : rn_9_can ns ct R K (n + 1) 90 L (.inl (b, y) :: .inl (a, x) :: k) s = (sy_ri a x ∧ sy_ri b y ∧ (y < x → rn_9_can ns ct R K n 105 L k s) ∧ (¬ y < x → rn_9_can ns ct R K n 93 L k s)) := rfl
theorem rx_9_can_93 {ns n ct R K s k z v0 v1 v2 v3 v5 v6 v7 v8 v9 v10} : rn_9_can ns ct R K (n + 1) 93 [v0, v1, v2, v3, .inl (true, z), v5, v6, v7, v8, v9, v10] k s = (rn_9_can ns ct R K n 95 [v0, v1, v2, v3, .inl (true, z), v5, v6, v7, v8, v9, v10] (.inl (true, z) :: k) s) := rfl
theorem rx_9_can_95 {ns n ct R K s k z v0 v1 v3 v4 v5 v6 v7 v8 v9 v10} : rn_9_can ns ct R K (n + 1) 95 [v0, v1, .inl (true, z), v3, v4, v5, v6, v7, v8, v9, v10] k s = (rn_9_can ns ct R K n 96 [v0, v1, .inl (true, z), v3, v4, v5, v6, v7, v8, v9, v10] (.inl (true, z) :: k) s) := rfl
theorem rx_9_can_96 {ns n ct R K s L k a b x y} : rn_9_can ns ct R K (n + 1) 96 L (.inl (b, y) :: .inl (a, x) :: k) s = (rn_9_can ns ct R K n 97 L (.inl (false, x - y) :: k) s) := rfl
theorem rx_9_can_97 {ns n ct R K s k z v0 v1 v2 v4 v5 v6 v7 v8 v9 v10} : rn_9_can ns ct R K (n + 1) 97 [v0, v1, v2, .inl (true, z), v4, v5, v6, v7, v8, v9, v10] k s = (rn_9_can ns ct R K n 98 [v0, v1, v2, .inl (true, z), v4, v5, v6, v7, v8, v9, v10] (.inl (true, z) :: k) s) := rfl
theorem rx_9_can_98 {ns n ct R K s L k a b x y} : rn_9_can ns ct R K (n + 1) 98 L (.inl (b, y) :: .inl (a, x) :: k) s = (sy_ri a x ∧ sy_ri b y ∧ (x < y → rn_9_can ns ct R K n 105 L k s) ∧ (¬ x < y → rn_9_can ns ct R K n 101 L k s)) := rfl
theorem rx_9_can_101 {ns n ct R K s L k} : rn_9_can ns ct R K (n + 1) 101 L k s = (rn_9_can ns ct R K n 102 L (.inl (true, 1) :: k) s) := rfl
theorem rx_9_can_102 {ns n ct R K s L k} : rn_9_can ns ct R K (n + 1) 102 L k s = (rn_9_can ns ct R K n 106 L k s) := rfl
theorem rx_9_can_105 {ns n ct R K s L k} : rn_9_can ns ct R K (n + 1) 105 L k s = (rn_9_can ns ct R K n 106 L (.inl (true, 0) :: k) s) := rfl
theorem rx_9_can_106 {ns n ct R K s L a z} : rn_9_can ns ct R K (n + 1) 106 L [.inl (a, z)] s = (sy_ri a z ∧ sy_b01 true z ∧ R (some (.inl (true, z))) s) := rfl
def y_9_plan : MethodName := ⟨"StarHideModel", "plan", "(III)I"⟩
abbrev c_9_plan : ByteArray := prog_11_method_47_code
def tc_9_plan (pc : Nat) : Option sy_I := match pc with
  | 0 => some (.iload_n 1, 1, 0)
  | 1 => some (.iconst 1, 2, 0)
  | 2 => some (.if_icmp .lt 34, 5, 36)
  | 5 => some (.iload_n 2, 6, 0)
  | 6 => some (.sipush (-2000), 9, 0)
  | 9 => some (.sipush 2000, 12, 0)
  | 12 => some (.invokestatic 69, 15, 0)
  | 15 => some (.ifCond .eq 21, 18, 36)
  | 18 => some (.iload_n 3, 19, 0)
  | 19 => some (.sipush (-2000), 22, 0)
  | 22 => some (.sipush 2000, 25, 0)
  | 25 => some (.invokestatic 69, 28, 0)
  | 28 => some (.ifCond .eq 8, 31, 36)
  | 31 => some (.iload_n 2, 32, 0)
  | 32 => some (.iload_n 3, 33, 0)
  | 33 => some (.if_icmp .lt 5, 36, 38)
  | 36 => some (.iconst (-1), 37, 0)
  | 37 => some (.ireturn, 38, 0)
  | 38 => some (.iconst 0, 39, 0)
  | 39 => some (.istore 4, 41, 0)
  | 41 => some (.iconst 0, 42, 0)
  | 42 => some (.istore 5, 44, 0)
  | 44 => some (.iload 5, 46, 0)
  | 46 => some (.aload_n 0, 47, 0)
  | 47 => some (.getfield 13, 50, 0)
  | 50 => some (.if_icmp .ge 94, 53, 144)
  | 53 => some (.aload_n 0, 54, 0)
  | 54 => some (.getfield 16, 57, 0)
  | 57 => some (.iload 5, 59, 0)
  | 59 => some (.iaload, 60, 0)
  | 60 => some (.iload_n 2, 61, 0)
  | 61 => some (.iload_n 3, 62, 0)
  | 62 => some (.invokestatic 69, 65, 0)
  | 65 => some (.ifCond .ne 6, 68, 71)
  | 68 => some (.goto 70, 71, 138)
  | 71 => some (.iload 4, 73, 0)
  | 73 => some (.istore 6, 75, 0)
  | 75 => some (.iload 6, 77, 0)
  | 77 => some (.ifCond .le 49, 80, 126)
  | 80 => some (.aload_n 0, 81, 0)
  | 81 => some (.getfield 16, 84, 0)
  | 84 => some (.aload_n 0, 85, 0)
  | 85 => some (.getfield 60, 88, 0)
  | 88 => some (.iload 6, 90, 0)
  | 90 => some (.iconst 1, 91, 0)
  | 91 => some (.isub, 92, 0)
  | 92 => some (.iaload, 93, 0)
  | 93 => some (.iaload, 94, 0)
  | 94 => some (.aload_n 0, 95, 0)
  | 95 => some (.getfield 16, 98, 0)
  | 98 => some (.iload 5, 100, 0)
  | 100 => some (.iaload, 101, 0)
  | 101 => some (.if_icmp .le 25, 104, 126)
  | 104 => some (.aload_n 0, 105, 0)
  | 105 => some (.getfield 60, 108, 0)
  | 108 => some (.iload 6, 110, 0)
  | 110 => some (.aload_n 0, 111, 0)
  | 111 => some (.getfield 60, 114, 0)
  | 114 => some (.iload 6, 116, 0)
  | 116 => some (.iconst 1, 117, 0)
  | 117 => some (.isub, 118, 0)
  | 118 => some (.iaload, 119, 0)
  | 119 => some (.iastore, 120, 0)
  | 120 => some (.iinc 6 (-1), 123, 0)
  | 123 => some (.goto (-48), 126, 75)
  | 126 => some (.aload_n 0, 127, 0)
  | 127 => some (.getfield 60, 130, 0)
  | 130 => some (.iload 6, 132, 0)
  | 132 => some (.iload 5, 134, 0)
  | 134 => some (.iastore, 135, 0)
  | 135 => some (.iinc 4 1, 138, 0)
  | 138 => some (.iinc 5 1, 141, 0)
  | 141 => some (.goto (-97), 144, 44)
  | 144 => some (.iload 4, 146, 0)
  | 146 => some (.iload_n 1, 147, 0)
  | 147 => some (.if_icmp .ge 5, 150, 152)
  | 150 => some (.iconst (-1), 151, 0)
  | 151 => some (.ireturn, 152, 0)
  | 152 => some (.iconst 0, 153, 0)
  | 153 => some (.istore 5, 155, 0)
  | 155 => some (.aload_n 0, 156, 0)
  | 156 => some (.iload_n 2, 157, 0)
  | 157 => some (.iconst 0, 158, 0)
  | 158 => some (.iload_n 1, 159, 0)
  | 159 => some (.iload 4, 161, 0)
  | 161 => some (.iload_n 3, 162, 0)
  | 162 => some (.iload 5, 164, 0)
  | 164 => some (.invokevirtual 147, 167, 0)
  | 167 => some (.ifCond .ne 9, 170, 176)
  | 170 => some (.iinc 5 1, 173, 0)
  | 173 => some (.goto (-18), 176, 155)
  | 176 => some (.iload_n 2, 177, 0)
  | 177 => some (.istore 6, 179, 0)
  | 179 => some (.iconst 0, 180, 0)
  | 180 => some (.istore 7, 182, 0)
  | 182 => some (.iconst 0, 183, 0)
  | 183 => some (.istore 8, 185, 0)
  | 185 => some (.iload 8, 187, 0)
  | 187 => some (.iload_n 1, 188, 0)
  | 188 => some (.if_icmp .ge 100, 191, 288)
  | 191 => some (.aload_n 0, 192, 0)
  | 192 => some (.getfield 16, 195, 0)
  | 195 => some (.aload_n 0, 196, 0)
  | 196 => some (.getfield 60, 199, 0)
  | 199 => some (.iload 7, 201, 0)
  | 201 => some (.iaload, 202, 0)
  | 202 => some (.iaload, 203, 0)
  | 203 => some (.iload 6, 205, 0)
  | 205 => some (.isub, 206, 0)
  | 206 => some (.iload 5, 208, 0)
  | 208 => some (.if_icmp .gt 37, 211, 245)
  | 211 => some (.aload_n 0, 212, 0)
  | 212 => some (.aload_n 0, 213, 0)
  | 213 => some (.getfield 16, 216, 0)
  | 216 => some (.aload_n 0, 217, 0)
  | 217 => some (.getfield 60, 220, 0)
  | 220 => some (.iload 7, 222, 0)
  | 222 => some (.iaload, 223, 0)
  | 223 => some (.iaload, 224, 0)
  | 224 => some (.iload 7, 226, 0)
  | 226 => some (.iconst 1, 227, 0)
  | 227 => some (.iadd, 228, 0)
  | 228 => some (.iload_n 1, 229, 0)
  | 229 => some (.iconst 1, 230, 0)
  | 230 => some (.isub, 231, 0)
  | 231 => some (.iload 8, 233, 0)
  | 233 => some (.isub, 234, 0)
  | 234 => some (.iload 4, 236, 0)
  | 236 => some (.iload_n 3, 237, 0)
  | 237 => some (.iload 5, 239, 0)
  | 239 => some (.invokevirtual 147, 242, 0)
  | 242 => some (.ifCond .ne 9, 245, 251)
  | 245 => some (.iinc 7 1, 248, 0)
  | 248 => some (.goto (-57), 251, 191)
  | 251 => some (.aload_n 0, 252, 0)
  | 252 => some (.getfield 63, 255, 0)
  | 255 => some (.iload 8, 257, 0)
  | 257 => some (.aload_n 0, 258, 0)
  | 258 => some (.getfield 60, 261, 0)
  | 261 => some (.iload 7, 263, 0)
  | 263 => some (.iaload, 264, 0)
  | 264 => some (.iastore, 265, 0)
  | 265 => some (.aload_n 0, 266, 0)
  | 266 => some (.getfield 16, 269, 0)
  | 269 => some (.aload_n 0, 270, 0)
  | 270 => some (.getfield 60, 273, 0)
  | 273 => some (.iload 7, 275, 0)
  | 275 => some (.iaload, 276, 0)
  | 276 => some (.iaload, 277, 0)
  | 277 => some (.istore 6, 279, 0)
  | 279 => some (.iinc 7 1, 282, 0)
  | 282 => some (.iinc 8 1, 285, 0)
  | 285 => some (.goto (-100), 288, 185)
  | 288 => some (.aload_n 0, 289, 0)
  | 289 => some (.iload_n 1, 290, 0)
  | 290 => some (.putfield 66, 293, 0)
  | 293 => some (.iload 5, 295, 0)
  | 295 => some (.ireturn, 296, 0)
  | _ => none
theorem tv_9_plan : ∀ pc i, sy_lk 296 tc_9_plan pc = some i → sy_chk c_9_plan (some .int) false pc i = true := sy_lk_ok 296 tc_9_plan (by decide +kernel)
def Mk_9_plan (ct : Nat → Option (Bool × Nat × sy_Sp)) : sy_M := (sy_lk 296 tc_9_plan, ff_9, ki_9, kl_9, ct, false)
def rn_9_plan (ns : Nat) (ct : Nat → Option (Bool × Nat × sy_Sp)) (R : sy_R) (K : sy_K) : Nat → sy_K := sy_run ns (Mk_9_plan ct) [44, 75, 155, 185, 191] R K
theorem rx_9_plan_0 {ns n ct R K s k z v0 v2 v3 v4 v5 v6 v7 v8} : rn_9_plan ns ct R K (n + 1) 0 [v0, .inl (true, z), v2, v3, v4, v5, v6, v7, v8] k s = (rn_9_plan ns ct R K n 1 [v0, .inl (true, z), v2, v3, v4, v5, v6, v7, v8] (.inl (true, z) :: k) s) := rfl
theorem rx_9_plan_1 {ns n ct R K s L k} : rn_9_plan ns ct R K (n + 1) 1 L k s = (rn_9_plan ns ct R K n 2 L (.inl (true, 1) :: k) s) := rfl
theorem rx_9_plan_2 {ns n ct R K s L k a b x y} : rn_9_plan ns ct R K (n + 1) 2 L (.inl (b, y) :: .inl (a, x) :: k) s = (sy_ri a x ∧ sy_ri b y ∧ (x < y → rn_9_plan ns ct R K n 36 L k s) ∧ (¬ x < y → rn_9_plan ns ct R K n 5 L k s)) := rfl
theorem rx_9_plan_5 {ns n ct R K s k z v0 v1 v3 v4 v5 v6 v7 v8} : rn_9_plan ns ct R K (n + 1) 5 [v0, v1, .inl (true, z), v3, v4, v5, v6, v7, v8] k s = (rn_9_plan ns ct R K n 6 [v0, v1, .inl (true, z), v3, v4, v5, v6, v7, v8] (.inl (true, z) :: k) s) := rfl
theorem rx_9_plan_6 {ns n ct R K s L k} : rn_9_plan ns ct R K (n + 1) 6 L k s = (rn_9_plan ns ct R K n 9 L (.inl (true, (-2000)) :: k) s) := rfl
theorem rx_9_plan_9 {ns n ct R K s L k} : rn_9_plan ns ct R K (n + 1) 9 L k s = (rn_9_plan ns ct R K n 12 L (.inl (true, 2000) :: k) s) := rfl
theorem rx_9_plan_12 {ns n ct R K s L k} : rn_9_plan ns ct R K (n + 1) 12 L k s = (sy_call true (ct 69) k s fun r t => rn_9_plan ns ct R K n 15 L r t) := rfl
theorem rx_9_plan_15 {ns n ct R K s L k a x} : rn_9_plan ns ct R K (n + 1) 15 L (.inl (a, x) :: k) s = (sy_ri a x ∧ (x = 0 → rn_9_plan ns ct R K n 36 L k s) ∧ (¬ x = 0 → rn_9_plan ns ct R K n 18 L k s)) := rfl
theorem rx_9_plan_18 {ns n ct R K s k z v0 v1 v2 v4 v5 v6 v7 v8} : rn_9_plan ns ct R K (n + 1) 18 [v0, v1, v2, .inl (true, z), v4, v5, v6, v7, v8] k s = (rn_9_plan ns ct R K n 19 [v0, v1, v2, .inl (true, z), v4, v5, v6, v7, v8] (.inl (true, z) :: k) s) := rfl
theorem rx_9_plan_19 {ns n ct R K s L k} : rn_9_plan ns ct R K (n + 1) 19 L k s = (rn_9_plan ns ct R K n 22 L (.inl (true, (-2000)) :: k) s) := rfl
theorem rx_9_plan_22 {ns n ct R K s L k} : rn_9_plan ns ct R K (n + 1) 22 L k s = (rn_9_plan ns ct R K n 25 L (.inl (true, 2000) :: k) s) := rfl
theorem rx_9_plan_25 {ns n ct R K s L k} : rn_9_plan ns ct R K (n + 1) 25 L k s = (sy_call true (ct 69) k s fun r t => rn_9_plan ns ct R K n 28 L r t) := rfl
theorem rx_9_plan_28 {ns n ct R K s L k a x} : rn_9_plan ns ct R K (n + 1) 28 L (.inl (a, x) :: k) s = (sy_ri a x ∧ (x = 0 → rn_9_plan ns ct R K n 36 L k s) ∧ (¬ x = 0 → rn_9_plan ns ct R K n 31 L k s)) := rfl
theorem rx_9_plan_31 {ns n ct R K s k z v0 v1 v3 v4 v5 v6 v7 v8} : rn_9_plan ns ct R K (n + 1) 31 [v0, v1, .inl (true, z), v3, v4, v5, v6, v7, v8] k s = (rn_9_plan ns ct R K n 32 [v0, v1, .inl (true, z), v3, v4, v5, v6, v7, v8] (.inl (true, z) :: k) s) := rfl
theorem rx_9_plan_32 {ns n ct R K s k z v0 v1 v2 v4 v5 v6 v7 v8} : rn_9_plan ns ct R K (n + 1) 32 [v0, v1, v2, .inl (true, z), v4, v5, v6, v7, v8] k s = (rn_9_plan ns ct R K n 33 [v0, v1, v2, .inl (true, z), v4, v5, v6, v7, v8] (.inl (true, z) :: k) s) := rfl
theorem rx_9_plan_33 {ns n ct R K s L k a b x y} : rn_9_plan ns ct R K (n + 1) 33 L (.inl (b, y) :: .inl (a, x) :: k) s = (sy_ri a x ∧ sy_ri b y ∧ (x < y → rn_9_plan ns ct R K n 38 L k s) ∧ (¬ x < y → rn_9_plan ns ct R K n 36 L k s)) := rfl
theorem rx_9_plan_36 {ns n ct R K s L k} : rn_9_plan ns ct R K (n + 1) 36 L k s = (rn_9_plan ns ct R K n 37 L (.inl (true, (-1)) :: k) s) := rfl
theorem rx_9_plan_37 {ns n ct R K s L a z} : rn_9_plan ns ct R K (n + 1) 37 L [.inl (a, z)] s = (sy_ri a z ∧ sy_b01 false z ∧ R (some (.inl (true, z))) s) := rfl
theorem rx_9_plan_38 {ns n ct R K s L k} : rn_9_plan ns ct R K (n + 1) 38 L k s = (rn_9_plan ns ct R K n 39 L (.inl (true, 0) :: k) s) := rfl
theorem rx_9_plan_39 {ns n ct R K s L k b z} : rn_9_plan ns ct R K (n + 1) 39 L (.inl (b, z) :: k) s = (sy_ri b z ∧ 4 < L.length ∧ rn_9_plan ns ct R K n 41 (sy_sto L 4 (.inl (true, z))) k s) := rfl
theorem rx_9_plan_41 {ns n ct R K s L k} : rn_9_plan ns ct R K (n + 1) 41 L k s = (rn_9_plan ns ct R K n 42 L (.inl (true, 0) :: k) s) := rfl
theorem rx_9_plan_42 {ns n ct R K s L k b z} : rn_9_plan ns ct R K (n + 1) 42 L (.inl (b, z) :: k) s = (sy_ri b z ∧ 5 < L.length ∧ K 44 (sy_sto L 5 (.inl (true, z))) k s) := rfl
theorem rx_9_plan_44 {ns n ct R K s k z v0 v1 v2 v3 v4 v6 v7 v8} : rn_9_plan ns ct R K (n + 1) 44 [v0, v1, v2, v3, v4, .inl (true, z), v6, v7, v8] k s = (rn_9_plan ns ct R K n 46 [v0, v1, v2, v3, v4, .inl (true, z), v6, v7, v8] (.inl (true, z) :: k) s) := rfl
theorem rx_9_plan_46 {ns n ct R K s k z v1 v2 v3 v4 v5 v6 v7 v8} : rn_9_plan ns ct R K (n + 1) 46 [.inr (.inr (some z)), v1, v2, v3, v4, v5, v6, v7, v8] k s = (rn_9_plan ns ct R K n 47 [.inr (.inr (some z)), v1, v2, v3, v4, v5, v6, v7, v8] (.inr (.inr (some z)) :: k) s) := rfl
theorem rx_9_plan_47 {ns n ct R K s L k a} : rn_9_plan ns ct R K (n + 1) 47 L (.inr (.inr (some (some a))) :: k) s = (sy_ob a = some 9 ∧ rn_9_plan ns ct R K n 50 L (sy_fv s a 1 :: k) s) := rfl
theorem rx_9_plan_50 {ns n ct R K s L k a b x y} : rn_9_plan ns ct R K (n + 1) 50 L (.inl (b, y) :: .inl (a, x) :: k) s = (sy_ri a x ∧ sy_ri b y ∧ (y ≤ x → rn_9_plan ns ct R K n 144 L k s) ∧ (¬ y ≤ x → rn_9_plan ns ct R K n 53 L k s)) := rfl
theorem rx_9_plan_53 {ns n ct R K s k z v1 v2 v3 v4 v5 v6 v7 v8} : rn_9_plan ns ct R K (n + 1) 53 [.inr (.inr (some z)), v1, v2, v3, v4, v5, v6, v7, v8] k s = (rn_9_plan ns ct R K n 54 [.inr (.inr (some z)), v1, v2, v3, v4, v5, v6, v7, v8] (.inr (.inr (some z)) :: k) s) := rfl
theorem rx_9_plan_54 {ns n ct R K s L k a} : rn_9_plan ns ct R K (n + 1) 54 L (.inr (.inr (some (some a))) :: k) s = (sy_ob a = some 9 ∧ rn_9_plan ns ct R K n 57 L (sy_fv s a 2 :: k) s) := rfl
theorem rx_9_plan_57 {ns n ct R K s k z v0 v1 v2 v3 v4 v6 v7 v8} : rn_9_plan ns ct R K (n + 1) 57 [v0, v1, v2, v3, v4, .inl (true, z), v6, v7, v8] k s = (rn_9_plan ns ct R K n 59 [v0, v1, v2, v3, v4, .inl (true, z), v6, v7, v8] (.inl (true, z) :: k) s) := rfl
theorem rx_9_plan_59 {ns n ct R K s L k a b z} : rn_9_plan ns ct R K (n + 1) 59 L (.inl (b, z) :: .inr (.inr (some (some a))) :: k) s = ((0 ≤ z ∧ z < (sy_ar a).2) ∧ sy_ob a = none ∧ (sy_ar a).1 = 0 ∧ rn_9_plan ns ct R K n 60 L (.inl (true, s a z.toNat) :: k) s) := rfl
theorem rx_9_plan_60 {ns n ct R K s k z v0 v1 v3 v4 v5 v6 v7 v8} : rn_9_plan ns ct R K (n + 1) 60 [v0, v1, .inl (true, z), v3, v4, v5, v6, v7, v8] k s = (rn_9_plan ns ct R K n 61 [v0, v1, .inl (true, z), v3, v4, v5, v6, v7, v8] (.inl (true, z) :: k) s) := rfl
theorem rx_9_plan_61 {ns n ct R K s k z v0 v1 v2 v4 v5 v6 v7 v8} : rn_9_plan ns ct R K (n + 1) 61 [v0, v1, v2, .inl (true, z), v4, v5, v6, v7, v8] k s = (rn_9_plan ns ct R K n 62 [v0, v1, v2, .inl (true, z), v4, v5, v6, v7, v8] (.inl (true, z) :: k) s) := rfl
theorem rx_9_plan_62 {ns n ct R K s L k} : rn_9_plan ns ct R K (n + 1) 62 L k s = (sy_call true (ct 69) k s fun r t => rn_9_plan ns ct R K n 65 L r t) := rfl
theorem rx_9_plan_65 {ns n ct R K s L k a x} : rn_9_plan ns ct R K (n + 1) 65 L (.inl (a, x) :: k) s = (sy_ri a x ∧ (¬ x = 0 → rn_9_plan ns ct R K n 71 L k s) ∧ (x = 0 → rn_9_plan ns ct R K n 68 L k s)) := rfl
theorem rx_9_plan_68 {ns n ct R K s L k} : rn_9_plan ns ct R K (n + 1) 68 L k s = (rn_9_plan ns ct R K n 138 L k s) := rfl
theorem rx_9_plan_71 {ns n ct R K s k z v0 v1 v2 v3 v5 v6 v7 v8} : rn_9_plan ns ct R K (n + 1) 71 [v0, v1, v2, v3, .inl (true, z), v5, v6, v7, v8] k s = (rn_9_plan ns ct R K n 73 [v0, v1, v2, v3, .inl (true, z), v5, v6, v7, v8] (.inl (true, z) :: k) s) := rfl
theorem rx_9_plan_73 {ns n ct R K s L k b z} : rn_9_plan ns ct R K (n + 1) 73 L (.inl (b, z) :: k) s = (sy_ri b z ∧ 6 < L.length ∧ K 75 (sy_sto L 6 (.inl (true, z))) k s) := rfl
theorem rx_9_plan_75 {ns n ct R K s k z v0 v1 v2 v3 v4 v5 v7 v8} : rn_9_plan ns ct R K (n + 1) 75 [v0, v1, v2, v3, v4, v5, .inl (true, z), v7, v8] k s = (rn_9_plan ns ct R K n 77 [v0, v1, v2, v3, v4, v5, .inl (true, z), v7, v8] (.inl (true, z) :: k) s) := rfl
theorem rx_9_plan_77 {ns n ct R K s L k a x} : rn_9_plan ns ct R K (n + 1) 77 L (.inl (a, x) :: k) s = (sy_ri a x ∧ (x ≤ 0 → rn_9_plan ns ct R K n 126 L k s) ∧ (¬ x ≤ 0 → rn_9_plan ns ct R K n 80 L k s)) := rfl
theorem rx_9_plan_80 {ns n ct R K s k z v1 v2 v3 v4 v5 v6 v7 v8} : rn_9_plan ns ct R K (n + 1) 80 [.inr (.inr (some z)), v1, v2, v3, v4, v5, v6, v7, v8] k s = (rn_9_plan ns ct R K n 81 [.inr (.inr (some z)), v1, v2, v3, v4, v5, v6, v7, v8] (.inr (.inr (some z)) :: k) s) := rfl
theorem rx_9_plan_81 {ns n ct R K s L k a} : rn_9_plan ns ct R K (n + 1) 81 L (.inr (.inr (some (some a))) :: k) s = (sy_ob a = some 9 ∧ rn_9_plan ns ct R K n 84 L (sy_fv s a 2 :: k) s) := rfl
theorem rx_9_plan_84 {ns n ct R K s k z v1 v2 v3 v4 v5 v6 v7 v8} : rn_9_plan ns ct R K (n + 1) 84 [.inr (.inr (some z)), v1, v2, v3, v4, v5, v6, v7, v8] k s = (rn_9_plan ns ct R K n 85 [.inr (.inr (some z)), v1, v2, v3, v4, v5, v6, v7, v8] (.inr (.inr (some z)) :: k) s) := rfl
theorem rx_9_plan_85 {ns n ct R K s L k a} : rn_9_plan ns ct R K (n + 1) 85 L (.inr (.inr (some (some a))) :: k) s = (sy_ob a = some 9 ∧ rn_9_plan ns ct R K n 88 L (sy_fv s a 16 :: k) s) := rfl
theorem rx_9_plan_88 {ns n ct R K s k z v0 v1 v2 v3 v4 v5 v7 v8} : rn_9_plan ns ct R K (n + 1) 88 [v0, v1, v2, v3, v4, v5, .inl (true, z), v7, v8] k s = (rn_9_plan ns ct R K n 90 [v0, v1, v2, v3, v4, v5, .inl (true, z), v7, v8] (.inl (true, z) :: k) s) := rfl
theorem rx_9_plan_90 {ns n ct R K s L k} : rn_9_plan ns ct R K (n + 1) 90 L k s = (rn_9_plan ns ct R K n 91 L (.inl (true, 1) :: k) s) := rfl
theorem rx_9_plan_91 {ns n ct R K s L k a b x y} : rn_9_plan ns ct R K (n + 1) 91 L (.inl (b, y) :: .inl (a, x) :: k) s = (rn_9_plan ns ct R K n 92 L (.inl (false, x - y) :: k) s) := rfl
theorem rx_9_plan_92 {ns n ct R K s L k a b z} : rn_9_plan ns ct R K (n + 1) 92 L (.inl (b, z) :: .inr (.inr (some (some a))) :: k) s = ((0 ≤ z ∧ z < (sy_ar a).2) ∧ sy_ob a = none ∧ (sy_ar a).1 = 0 ∧ rn_9_plan ns ct R K n 93 L (.inl (true, s a z.toNat) :: k) s) := rfl
theorem rx_9_plan_93 {ns n ct R K s L k a b z} : rn_9_plan ns ct R K (n + 1) 93 L (.inl (b, z) :: .inr (.inr (some (some a))) :: k) s = ((0 ≤ z ∧ z < (sy_ar a).2) ∧ sy_ob a = none ∧ (sy_ar a).1 = 0 ∧ rn_9_plan ns ct R K n 94 L (.inl (true, s a z.toNat) :: k) s) := rfl
theorem rx_9_plan_94 {ns n ct R K s k z v1 v2 v3 v4 v5 v6 v7 v8} : rn_9_plan ns ct R K (n + 1) 94 [.inr (.inr (some z)), v1, v2, v3, v4, v5, v6, v7, v8] k s = (rn_9_plan ns ct R K n 95 [.inr (.inr (some z)), v1, v2, v3, v4, v5, v6, v7, v8] (.inr (.inr (some z)) :: k) s) := rfl
theorem rx_9_plan_95 {ns n ct R K s L k a} : rn_9_plan ns ct R K (n + 1) 95 L (.inr (.inr (some (some a))) :: k) s = (sy_ob a = some 9 ∧ rn_9_plan ns ct R K n 98 L (sy_fv s a 2 :: k) s) := rfl
theorem rx_9_plan_98 {ns n ct R K s k z v0 v1 v2 v3 v4 v6 v7 v8} : rn_9_plan ns ct R K (n + 1) 98 [v0, v1, v2, v3, v4, .inl (true, z), v6, v7, v8] k s = (rn_9_plan ns ct R K n 100 [v0, v1, v2, v3, v4, .inl (true, z), v6, v7, v8] (.inl (true, z) :: k) s) := rfl
theorem rx_9_plan_100 {ns n ct R K s L k a b z} : rn_9_plan ns ct R K (n + 1) 100 L (.inl (b, z) :: .inr (.inr (some (some a))) :: k) s = ((0 ≤ z ∧ z < (sy_ar a).2) ∧ sy_ob a = none ∧ (sy_ar a).1 = 0 ∧ rn_9_plan ns ct R K n 101 L (.inl (true, s a z.toNat) :: k) s) := rfl
theorem rx_9_plan_101 {ns n ct R K s L k a b x y} : rn_9_plan ns ct R K (n + 1) 101 L (.inl (b, y) :: .inl (a, x) :: k) s = (sy_ri a x ∧ sy_ri b y ∧ (x ≤ y → rn_9_plan ns ct R K n 126 L k s) ∧ (¬ x ≤ y → rn_9_plan ns ct R K n 104 L k s)) := rfl
theorem rx_9_plan_104 {ns n ct R K s k z v1 v2 v3 v4 v5 v6 v7 v8} : rn_9_plan ns ct R K (n + 1) 104 [.inr (.inr (some z)), v1, v2, v3, v4, v5, v6, v7, v8] k s = (rn_9_plan ns ct R K n 105 [.inr (.inr (some z)), v1, v2, v3, v4, v5, v6, v7, v8] (.inr (.inr (some z)) :: k) s) := rfl
theorem rx_9_plan_105 {ns n ct R K s L k a} : rn_9_plan ns ct R K (n + 1) 105 L (.inr (.inr (some (some a))) :: k) s = (sy_ob a = some 9 ∧ rn_9_plan ns ct R K n 108 L (sy_fv s a 16 :: k) s) := rfl
theorem rx_9_plan_108 {ns n ct R K s k z v0 v1 v2 v3 v4 v5 v7 v8} : rn_9_plan ns ct R K (n + 1) 108 [v0, v1, v2, v3, v4, v5, .inl (true, z), v7, v8] k s = (rn_9_plan ns ct R K n 110 [v0, v1, v2, v3, v4, v5, .inl (true, z), v7, v8] (.inl (true, z) :: k) s) := rfl
theorem rx_9_plan_110 {ns n ct R K s k z v1 v2 v3 v4 v5 v6 v7 v8} : rn_9_plan ns ct R K (n + 1) 110 [.inr (.inr (some z)), v1, v2, v3, v4, v5, v6, v7, v8] k s = (rn_9_plan ns ct R K n 111 [.inr (.inr (some z)), v1, v2, v3, v4, v5, v6, v7, v8] (.inr (.inr (some z)) :: k) s) := rfl
theorem rx_9_plan_111 {ns n ct R K s L k a} : rn_9_plan ns ct R K (n + 1) 111 L (.inr (.inr (some (some a))) :: k) s = (sy_ob a = some 9 ∧ rn_9_plan ns ct R K n 114 L (sy_fv s a 16 :: k) s) := rfl
theorem rx_9_plan_114 {ns n ct R K s k z v0 v1 v2 v3 v4 v5 v7 v8} : rn_9_plan ns ct R K (n + 1) 114 [v0, v1, v2, v3, v4, v5, .inl (true, z), v7, v8] k s = (rn_9_plan ns ct R K n 116 [v0, v1, v2, v3, v4, v5, .inl (true, z), v7, v8] (.inl (true, z) :: k) s) := rfl
theorem rx_9_plan_116 {ns n ct R K s L k} : rn_9_plan ns ct R K (n + 1) 116 L k s = (rn_9_plan ns ct R K n 117 L (.inl (true, 1) :: k) s) := rfl
theorem rx_9_plan_117 {ns n ct R K s L k a b x y} : rn_9_plan ns ct R K (n + 1) 117 L (.inl (b, y) :: .inl (a, x) :: k) s = (rn_9_plan ns ct R K n 118 L (.inl (false, x - y) :: k) s) := rfl
theorem rx_9_plan_118 {ns n ct R K s L k a b z} : rn_9_plan ns ct R K (n + 1) 118 L (.inl (b, z) :: .inr (.inr (some (some a))) :: k) s = ((0 ≤ z ∧ z < (sy_ar a).2) ∧ sy_ob a = none ∧ (sy_ar a).1 = 0 ∧ rn_9_plan ns ct R K n 119 L (.inl (true, s a z.toNat) :: k) s) := rfl
theorem rx_9_plan_119 {ns n ct R K s L k a b c z y} : rn_9_plan ns ct R K (n + 1) 119 L (.inl (c, y) :: .inl (b, z) :: .inr (.inr (some (some a))) :: k) s = (sy_ri c y ∧ (0 ≤ z ∧ z < (sy_ar a).2) ∧ sy_ob a = none ∧ (sy_ar a).1 = 0 ∧ rn_9_plan ns ct R K n 120 L k (sy_up s a z.toNat y)) := rfl
theorem rx_9_plan_120 {ns n ct R K s k z v0 v1 v2 v3 v4 v5 v7 v8} : rn_9_plan ns ct R K (n + 1) 120 [v0, v1, v2, v3, v4, v5, .inl (true, z), v7, v8] k s = ((-2147483648 ≤ z + (-1) ∧ z + (-1) < 2147483648) ∧ rn_9_plan ns ct R K n 123 (sy_sto [v0, v1, v2, v3, v4, v5, .inl (true, z), v7, v8] 6 (.inl (true, z + (-1)))) k s) := rfl
theorem rx_9_plan_123 {ns n ct R K s L k} : rn_9_plan ns ct R K (n + 1) 123 L k s = (K 75 L k s) := rfl
theorem rx_9_plan_126 {ns n ct R K s k z v1 v2 v3 v4 v5 v6 v7 v8} : rn_9_plan ns ct R K (n + 1) 126 [.inr (.inr (some z)), v1, v2, v3, v4, v5, v6, v7, v8] k s = (rn_9_plan ns ct R K n 127 [.inr (.inr (some z)), v1, v2, v3, v4, v5, v6, v7, v8] (.inr (.inr (some z)) :: k) s) := rfl
theorem rx_9_plan_127 {ns n ct R K s L k a} : rn_9_plan ns ct R K (n + 1) 127 L (.inr (.inr (some (some a))) :: k) s = (sy_ob a = some 9 ∧ rn_9_plan ns ct R K n 130 L (sy_fv s a 16 :: k) s) := rfl
theorem rx_9_plan_130 {ns n ct R K s k z v0 v1 v2 v3 v4 v5 v7 v8} : rn_9_plan ns ct R K (n + 1) 130 [v0, v1, v2, v3, v4, v5, .inl (true, z), v7, v8] k s = (rn_9_plan ns ct R K n 132 [v0, v1, v2, v3, v4, v5, .inl (true, z), v7, v8] (.inl (true, z) :: k) s) := rfl
theorem rx_9_plan_132 {ns n ct R K s k z v0 v1 v2 v3 v4 v6 v7 v8} : rn_9_plan ns ct R K (n + 1) 132 [v0, v1, v2, v3, v4, .inl (true, z), v6, v7, v8] k s = (rn_9_plan ns ct R K n 134 [v0, v1, v2, v3, v4, .inl (true, z), v6, v7, v8] (.inl (true, z) :: k) s) := rfl
theorem rx_9_plan_134 {ns n ct R K s L k a b c z y} : rn_9_plan ns ct R K (n + 1) 134 L (.inl (c, y) :: .inl (b, z) :: .inr (.inr (some (some a))) :: k) s = (sy_ri c y ∧ (0 ≤ z ∧ z < (sy_ar a).2) ∧ sy_ob a = none ∧ (sy_ar a).1 = 0 ∧ rn_9_plan ns ct R K n 135 L k (sy_up s a z.toNat y)) := rfl
theorem rx_9_plan_135 {ns n ct R K s k z v0 v1 v2 v3 v5 v6 v7 v8} : rn_9_plan ns ct R K (n + 1) 135 [v0, v1, v2, v3, .inl (true, z), v5, v6, v7, v8] k s = ((-2147483648 ≤ z + 1 ∧ z + 1 < 2147483648) ∧ rn_9_plan ns ct R K n 138 (sy_sto [v0, v1, v2, v3, .inl (true, z), v5, v6, v7, v8] 4 (.inl (true, z + 1))) k s) := rfl
theorem rx_9_plan_138 {ns n ct R K s k z v0 v1 v2 v3 v4 v6 v7 v8} : rn_9_plan ns ct R K (n + 1) 138 [v0, v1, v2, v3, v4, .inl (true, z), v6, v7, v8] k s = ((-2147483648 ≤ z + 1 ∧ z + 1 < 2147483648) ∧ rn_9_plan ns ct R K n 141 (sy_sto [v0, v1, v2, v3, v4, .inl (true, z), v6, v7, v8] 5 (.inl (true, z + 1))) k s) := rfl
theorem rx_9_plan_141 {ns n ct R K s L k} : rn_9_plan ns ct R K (n + 1) 141 L k s = (K 44 L k s) := rfl
theorem rx_9_plan_144 {ns n ct R K s k z v0 v1 v2 v3 v5 v6 v7 v8} : rn_9_plan ns ct R K (n + 1) 144 [v0, v1, v2, v3, .inl (true, z), v5, v6, v7, v8] k s = (rn_9_plan ns ct R K n 146 [v0, v1, v2, v3, .inl (true, z), v5, v6, v7, v8] (.inl (true, z) :: k) s) := rfl
theorem rx_9_plan_146 {ns n ct R K s k z v0 v2 v3 v4 v5 v6 v7 v8} : rn_9_plan ns ct R K (n + 1) 146 [v0, .inl (true, z), v2, v3, v4, v5, v6, v7, v8] k s = (rn_9_plan ns ct R K n 147 [v0, .inl (true, z), v2, v3, v4, v5, v6, v7, v8] (.inl (true, z) :: k) s) := rfl
theorem rx_9_plan_147 {ns n ct R K s L k a b x y} : rn_9_plan ns ct R K (n + 1) 147 L (.inl (b, y) :: .inl (a, x) :: k) s = (sy_ri a x ∧ sy_ri b y ∧ (y ≤ x → rn_9_plan ns ct R K n 152 L k s) ∧ (¬ y ≤ x → rn_9_plan ns ct R K n 150 L k s)) := rfl
theorem rx_9_plan_150 {ns n ct R K s L k} : rn_9_plan ns ct R K (n + 1) 150 L k s = (rn_9_plan ns ct R K n 151 L (.inl (true, (-1)) :: k) s) := rfl
theorem rx_9_plan_151 {ns n ct R K s L a z} : rn_9_plan ns ct R K (n + 1) 151 L [.inl (a, z)] s = (sy_ri a z ∧ sy_b01 false z ∧ R (some (.inl (true, z))) s) := rfl
theorem rx_9_plan_152 {ns n ct R K s L k} : rn_9_plan ns ct R K (n + 1) 152 L k s = (rn_9_plan ns ct R K n 153 L (.inl (true, 0) :: k) s) := rfl
theorem rx_9_plan_153 {ns n ct R K s L k b z} : rn_9_plan ns ct R K (n + 1) 153 L (.inl (b, z) :: k) s = (sy_ri b z ∧ 5 < L.length ∧ K 155 (sy_sto L 5 (.inl (true, z))) k s) := rfl
theorem rx_9_plan_155 {ns n ct R K s k z v1 v2 v3 v4 v5 v6 v7 v8} : rn_9_plan ns ct R K (n + 1) 155 [.inr (.inr (some z)), v1, v2, v3, v4, v5, v6, v7, v8] k s = (rn_9_plan ns ct R K n 156 [.inr (.inr (some z)), v1, v2, v3, v4, v5, v6, v7, v8] (.inr (.inr (some z)) :: k) s) := rfl
theorem rx_9_plan_156 {ns n ct R K s k z v0 v1 v3 v4 v5 v6 v7 v8} : rn_9_plan ns ct R K (n + 1) 156 [v0, v1, .inl (true, z), v3, v4, v5, v6, v7, v8] k s = (rn_9_plan ns ct R K n 157 [v0, v1, .inl (true, z), v3, v4, v5, v6, v7, v8] (.inl (true, z) :: k) s) := rfl
theorem rx_9_plan_157 {ns n ct R K s L k} : rn_9_plan ns ct R K (n + 1) 157 L k s = (rn_9_plan ns ct R K n 158 L (.inl (true, 0) :: k) s) := rfl
theorem rx_9_plan_158 {ns n ct R K s k z v0 v2 v3 v4 v5 v6 v7 v8} : rn_9_plan ns ct R K (n + 1) 158 [v0, .inl (true, z), v2, v3, v4, v5, v6, v7, v8] k s = (rn_9_plan ns ct R K n 159 [v0, .inl (true, z), v2, v3, v4, v5, v6, v7, v8] (.inl (true, z) :: k) s) := rfl
theorem rx_9_plan_159 {ns n ct R K s k z v0 v1 v2 v3 v5 v6 v7 v8} : rn_9_plan ns ct R K (n + 1) 159 [v0, v1, v2, v3, .inl (true, z), v5, v6, v7, v8] k s = (rn_9_plan ns ct R K n 161 [v0, v1, v2, v3, .inl (true, z), v5, v6, v7, v8] (.inl (true, z) :: k) s) := rfl
theorem rx_9_plan_161 {ns n ct R K s k z v0 v1 v2 v4 v5 v6 v7 v8} : rn_9_plan ns ct R K (n + 1) 161 [v0, v1, v2, .inl (true, z), v4, v5, v6, v7, v8] k s = (rn_9_plan ns ct R K n 162 [v0, v1, v2, .inl (true, z), v4, v5, v6, v7, v8] (.inl (true, z) :: k) s) := rfl
theorem rx_9_plan_162 {ns n ct R K s k z v0 v1 v2 v3 v4 v6 v7 v8} : rn_9_plan ns ct R K (n + 1) 162 [v0, v1, v2, v3, v4, .inl (true, z), v6, v7, v8] k s = (rn_9_plan ns ct R K n 164 [v0, v1, v2, v3, v4, .inl (true, z), v6, v7, v8] (.inl (true, z) :: k) s) := rfl
theorem rx_9_plan_164 {ns n ct R K s L k} : rn_9_plan ns ct R K (n + 1) 164 L k s = (sy_call false (ct 147) k s fun r t => rn_9_plan ns ct R K n 167 L r t) := rfl
theorem rx_9_plan_167 {ns n ct R K s L k a x} : rn_9_plan ns ct R K (n + 1) 167 L (.inl (a, x) :: k) s = (sy_ri a x ∧ (¬ x = 0 → rn_9_plan ns ct R K n 176 L k s) ∧ (x = 0 → rn_9_plan ns ct R K n 170 L k s)) := rfl
theorem rx_9_plan_170 {ns n ct R K s k z v0 v1 v2 v3 v4 v6 v7 v8} : rn_9_plan ns ct R K (n + 1) 170 [v0, v1, v2, v3, v4, .inl (true, z), v6, v7, v8] k s = ((-2147483648 ≤ z + 1 ∧ z + 1 < 2147483648) ∧ rn_9_plan ns ct R K n 173 (sy_sto [v0, v1, v2, v3, v4, .inl (true, z), v6, v7, v8] 5 (.inl (true, z + 1))) k s) := rfl
theorem rx_9_plan_173 {ns n ct R K s L k} : rn_9_plan ns ct R K (n + 1) 173 L k s = (K 155 L k s) := rfl
theorem rx_9_plan_176 {ns n ct R K s k z v0 v1 v3 v4 v5 v6 v7 v8} : rn_9_plan ns ct R K (n + 1) 176 [v0, v1, .inl (true, z), v3, v4, v5, v6, v7, v8] k s = (rn_9_plan ns ct R K n 177 [v0, v1, .inl (true, z), v3, v4, v5, v6, v7, v8] (.inl (true, z) :: k) s) := rfl
theorem rx_9_plan_177 {ns n ct R K s L k b z} : rn_9_plan ns ct R K (n + 1) 177 L (.inl (b, z) :: k) s = (sy_ri b z ∧ 6 < L.length ∧ rn_9_plan ns ct R K n 179 (sy_sto L 6 (.inl (true, z))) k s) := rfl
theorem rx_9_plan_179 {ns n ct R K s L k} : rn_9_plan ns ct R K (n + 1) 179 L k s = (rn_9_plan ns ct R K n 180 L (.inl (true, 0) :: k) s) := rfl
theorem rx_9_plan_180 {ns n ct R K s L k b z} : rn_9_plan ns ct R K (n + 1) 180 L (.inl (b, z) :: k) s = (sy_ri b z ∧ 7 < L.length ∧ rn_9_plan ns ct R K n 182 (sy_sto L 7 (.inl (true, z))) k s) := rfl
theorem rx_9_plan_182 {ns n ct R K s L k} : rn_9_plan ns ct R K (n + 1) 182 L k s = (rn_9_plan ns ct R K n 183 L (.inl (true, 0) :: k) s) := rfl
theorem rx_9_plan_183 {ns n ct R K s L k b z} : rn_9_plan ns ct R K (n + 1) 183 L (.inl (b, z) :: k) s = (sy_ri b z ∧ 8 < L.length ∧ K 185 (sy_sto L 8 (.inl (true, z))) k s) := rfl
theorem rx_9_plan_185 {ns n ct R K s k z v0 v1 v2 v3 v4 v5 v6 v7} : rn_9_plan ns ct R K (n + 1) 185 [v0, v1, v2, v3, v4, v5, v6, v7, .inl (true, z)] k s = (rn_9_plan ns ct R K n 187 [v0, v1, v2, v3, v4, v5, v6, v7, .inl (true, z)] (.inl (true, z) :: k) s) := rfl
theorem rx_9_plan_187 {ns n ct R K s k z v0 v2 v3 v4 v5 v6 v7 v8} : rn_9_plan ns ct R K (n + 1) 187 [v0, .inl (true, z), v2, v3, v4, v5, v6, v7, v8] k s = (rn_9_plan ns ct R K n 188 [v0, .inl (true, z), v2, v3, v4, v5, v6, v7, v8] (.inl (true, z) :: k) s) := rfl
theorem rx_9_plan_188 {ns n ct R K s L k a b x y} : rn_9_plan ns ct R K (n + 1) 188 L (.inl (b, y) :: .inl (a, x) :: k) s = (sy_ri a x ∧ sy_ri b y ∧ (y ≤ x → rn_9_plan ns ct R K n 288 L k s) ∧ (¬ y ≤ x → K 191 L k s)) := rfl
theorem rx_9_plan_191 {ns n ct R K s k z v1 v2 v3 v4 v5 v6 v7 v8} : rn_9_plan ns ct R K (n + 1) 191 [.inr (.inr (some z)), v1, v2, v3, v4, v5, v6, v7, v8] k s = (rn_9_plan ns ct R K n 192 [.inr (.inr (some z)), v1, v2, v3, v4, v5, v6, v7, v8] (.inr (.inr (some z)) :: k) s) := rfl
theorem rx_9_plan_192 {ns n ct R K s L k a} : rn_9_plan ns ct R K (n + 1) 192 L (.inr (.inr (some (some a))) :: k) s = (sy_ob a = some 9 ∧ rn_9_plan ns ct R K n 195 L (sy_fv s a 2 :: k) s) := rfl
theorem rx_9_plan_195 {ns n ct R K s k z v1 v2 v3 v4 v5 v6 v7 v8} : rn_9_plan ns ct R K (n + 1) 195 [.inr (.inr (some z)), v1, v2, v3, v4, v5, v6, v7, v8] k s = (rn_9_plan ns ct R K n 196 [.inr (.inr (some z)), v1, v2, v3, v4, v5, v6, v7, v8] (.inr (.inr (some z)) :: k) s) := rfl
theorem rx_9_plan_196 {ns n ct R K s L k a} : rn_9_plan ns ct R K (n + 1) 196 L (.inr (.inr (some (some a))) :: k) s = (sy_ob a = some 9 ∧ rn_9_plan ns ct R K n 199 L (sy_fv s a 16 :: k) s) := rfl
theorem rx_9_plan_199 {ns n ct R K s k z v0 v1 v2 v3 v4 v5 v6 v8} : rn_9_plan ns ct R K (n + 1) 199 [v0, v1, v2, v3, v4, v5, v6, .inl (true, z), v8] k s = (rn_9_plan ns ct R K n 201 [v0, v1, v2, v3, v4, v5, v6, .inl (true, z), v8] (.inl (true, z) :: k) s) := rfl
theorem rx_9_plan_201 {ns n ct R K s L k a b z} : rn_9_plan ns ct R K (n + 1) 201 L (.inl (b, z) :: .inr (.inr (some (some a))) :: k) s = ((0 ≤ z ∧ z < (sy_ar a).2) ∧ sy_ob a = none ∧ (sy_ar a).1 = 0 ∧ rn_9_plan ns ct R K n 202 L (.inl (true, s a z.toNat) :: k) s) := rfl
theorem rx_9_plan_202 {ns n ct R K s L k a b z} : rn_9_plan ns ct R K (n + 1) 202 L (.inl (b, z) :: .inr (.inr (some (some a))) :: k) s = ((0 ≤ z ∧ z < (sy_ar a).2) ∧ sy_ob a = none ∧ (sy_ar a).1 = 0 ∧ rn_9_plan ns ct R K n 203 L (.inl (true, s a z.toNat) :: k) s) := rfl
theorem rx_9_plan_203 {ns n ct R K s k z v0 v1 v2 v3 v4 v5 v7 v8} : rn_9_plan ns ct R K (n + 1) 203 [v0, v1, v2, v3, v4, v5, .inl (true, z), v7, v8] k s = (rn_9_plan ns ct R K n 205 [v0, v1, v2, v3, v4, v5, .inl (true, z), v7, v8] (.inl (true, z) :: k) s) := rfl
theorem rx_9_plan_205 {ns n ct R K s L k a b x y} : rn_9_plan ns ct R K (n + 1) 205 L (.inl (b, y) :: .inl (a, x) :: k) s = (rn_9_plan ns ct R K n 206 L (.inl (false, x - y) :: k) s) := rfl
theorem rx_9_plan_206 {ns n ct R K s k z v0 v1 v2 v3 v4 v6 v7 v8} : rn_9_plan ns ct R K (n + 1) 206 [v0, v1, v2, v3, v4, .inl (true, z), v6, v7, v8] k s = (rn_9_plan ns ct R K n 208 [v0, v1, v2, v3, v4, .inl (true, z), v6, v7, v8] (.inl (true, z) :: k) s) := rfl
theorem rx_9_plan_208 {ns n ct R K s L k a b x y} : rn_9_plan ns ct R K (n + 1) 208 L (.inl (b, y) :: .inl (a, x) :: k) s = (sy_ri a x ∧ sy_ri b y ∧ (y < x → rn_9_plan ns ct R K n 245 L k s) ∧ (¬ y < x → rn_9_plan ns ct R K n 211 L k s)) := rfl
theorem rx_9_plan_211 {ns n ct R K s k z v1 v2 v3 v4 v5 v6 v7 v8} : rn_9_plan ns ct R K (n + 1) 211 [.inr (.inr (some z)), v1, v2, v3, v4, v5, v6, v7, v8] k s = (rn_9_plan ns ct R K n 212 [.inr (.inr (some z)), v1, v2, v3, v4, v5, v6, v7, v8] (.inr (.inr (some z)) :: k) s) := rfl
theorem rx_9_plan_212 {ns n ct R K s k z v1 v2 v3 v4 v5 v6 v7 v8} : rn_9_plan ns ct R K (n + 1) 212 [.inr (.inr (some z)), v1, v2, v3, v4, v5, v6, v7, v8] k s = (rn_9_plan ns ct R K n 213 [.inr (.inr (some z)), v1, v2, v3, v4, v5, v6, v7, v8] (.inr (.inr (some z)) :: k) s) := rfl
theorem rx_9_plan_213 {ns n ct R K s L k a} : rn_9_plan ns ct R K (n + 1) 213 L (.inr (.inr (some (some a))) :: k) s = (sy_ob a = some 9 ∧ rn_9_plan ns ct R K n 216 L (sy_fv s a 2 :: k) s) := rfl
theorem rx_9_plan_216 {ns n ct R K s k z v1 v2 v3 v4 v5 v6 v7 v8} : rn_9_plan ns ct R K (n + 1) 216 [.inr (.inr (some z)), v1, v2, v3, v4, v5, v6, v7, v8] k s = (rn_9_plan ns ct R K n 217 [.inr (.inr (some z)), v1, v2, v3, v4, v5, v6, v7, v8] (.inr (.inr (some z)) :: k) s) := rfl
theorem rx_9_plan_217 {ns n ct R K s L k a} : rn_9_plan ns ct R K (n + 1) 217 L (.inr (.inr (some (some a))) :: k) s = (sy_ob a = some 9 ∧ rn_9_plan ns ct R K n 220 L (sy_fv s a 16 :: k) s) := rfl
theorem rx_9_plan_220 {ns n ct R K s k z v0 v1 v2 v3 v4 v5 v6 v8} : rn_9_plan ns ct R K (n + 1) 220 [v0, v1, v2, v3, v4, v5, v6, .inl (true, z), v8] k s = (rn_9_plan ns ct R K n 222 [v0, v1, v2, v3, v4, v5, v6, .inl (true, z), v8] (.inl (true, z) :: k) s) := rfl
theorem rx_9_plan_222 {ns n ct R K s L k a b z} : rn_9_plan ns ct R K (n + 1) 222 L (.inl (b, z) :: .inr (.inr (some (some a))) :: k) s = ((0 ≤ z ∧ z < (sy_ar a).2) ∧ sy_ob a = none ∧ (sy_ar a).1 = 0 ∧ rn_9_plan ns ct R K n 223 L (.inl (true, s a z.toNat) :: k) s) := rfl
theorem rx_9_plan_223 {ns n ct R K s L k a b z} : rn_9_plan ns ct R K (n + 1) 223 L (.inl (b, z) :: .inr (.inr (some (some a))) :: k) s = ((0 ≤ z ∧ z < (sy_ar a).2) ∧ sy_ob a = none ∧ (sy_ar a).1 = 0 ∧ rn_9_plan ns ct R K n 224 L (.inl (true, s a z.toNat) :: k) s) := rfl
theorem rx_9_plan_224 {ns n ct R K s k z v0 v1 v2 v3 v4 v5 v6 v8} : rn_9_plan ns ct R K (n + 1) 224 [v0, v1, v2, v3, v4, v5, v6, .inl (true, z), v8] k s = (rn_9_plan ns ct R K n 226 [v0, v1, v2, v3, v4, v5, v6, .inl (true, z), v8] (.inl (true, z) :: k) s) := rfl
theorem rx_9_plan_226 {ns n ct R K s L k} : rn_9_plan ns ct R K (n + 1) 226 L k s = (rn_9_plan ns ct R K n 227 L (.inl (true, 1) :: k) s) := rfl
theorem rx_9_plan_227 {ns n ct R K s L k a b x y} : rn_9_plan ns ct R K (n + 1) 227 L (.inl (b, y) :: .inl (a, x) :: k) s = (rn_9_plan ns ct R K n 228 L (.inl (false, x + y) :: k) s) := rfl
theorem rx_9_plan_228 {ns n ct R K s k z v0 v2 v3 v4 v5 v6 v7 v8} : rn_9_plan ns ct R K (n + 1) 228 [v0, .inl (true, z), v2, v3, v4, v5, v6, v7, v8] k s = (rn_9_plan ns ct R K n 229 [v0, .inl (true, z), v2, v3, v4, v5, v6, v7, v8] (.inl (true, z) :: k) s) := rfl
theorem rx_9_plan_229 {ns n ct R K s L k} : rn_9_plan ns ct R K (n + 1) 229 L k s = (rn_9_plan ns ct R K n 230 L (.inl (true, 1) :: k) s) := rfl
theorem rx_9_plan_230 {ns n ct R K s L k a b x y} : rn_9_plan ns ct R K (n + 1) 230 L (.inl (b, y) :: .inl (a, x) :: k) s = (rn_9_plan ns ct R K n 231 L (.inl (false, x - y) :: k) s) := rfl
theorem rx_9_plan_231 {ns n ct R K s k z v0 v1 v2 v3 v4 v5 v6 v7} : rn_9_plan ns ct R K (n + 1) 231 [v0, v1, v2, v3, v4, v5, v6, v7, .inl (true, z)] k s = (rn_9_plan ns ct R K n 233 [v0, v1, v2, v3, v4, v5, v6, v7, .inl (true, z)] (.inl (true, z) :: k) s) := rfl
theorem rx_9_plan_233 {ns n ct R K s L k a b x y} : rn_9_plan ns ct R K (n + 1) 233 L (.inl (b, y) :: .inl (a, x) :: k) s = (rn_9_plan ns ct R K n 234 L (.inl (false, x - y) :: k) s) := rfl
theorem rx_9_plan_234 {ns n ct R K s k z v0 v1 v2 v3 v5 v6 v7 v8} : rn_9_plan ns ct R K (n + 1) 234 [v0, v1, v2, v3, .inl (true, z), v5, v6, v7, v8] k s = (rn_9_plan ns ct R K n 236 [v0, v1, v2, v3, .inl (true, z), v5, v6, v7, v8] (.inl (true, z) :: k) s) := rfl
theorem rx_9_plan_236 {ns n ct R K s k z v0 v1 v2 v4 v5 v6 v7 v8} : rn_9_plan ns ct R K (n + 1) 236 [v0, v1, v2, .inl (true, z), v4, v5, v6, v7, v8] k s = (rn_9_plan ns ct R K n 237 [v0, v1, v2, .inl (true, z), v4, v5, v6, v7, v8] (.inl (true, z) :: k) s) := rfl
theorem rx_9_plan_237 {ns n ct R K s k z v0 v1 v2 v3 v4 v6 v7 v8} : rn_9_plan ns ct R K (n + 1) 237 [v0, v1, v2, v3, v4, .inl (true, z), v6, v7, v8] k s = (rn_9_plan ns ct R K n 239 [v0, v1, v2, v3, v4, .inl (true, z), v6, v7, v8] (.inl (true, z) :: k) s) := rfl
theorem rx_9_plan_239 {ns n ct R K s L k} : rn_9_plan ns ct R K (n + 1) 239 L k s = (sy_call false (ct 147) k s fun r t => rn_9_plan ns ct R K n 242 L r t) := rfl
theorem rx_9_plan_242 {ns n ct R K s L k a x} : rn_9_plan ns ct R K (n + 1) 242 L (.inl (a, x) :: k) s = (sy_ri a x ∧ (¬ x = 0 → rn_9_plan ns ct R K n 251 L k s) ∧ (x = 0 → rn_9_plan ns ct R K n 245 L k s)) := rfl
theorem rx_9_plan_245 {ns n ct R K s k z v0 v1 v2 v3 v4 v5 v6 v8} : rn_9_plan ns ct R K (n + 1) 245 [v0, v1, v2, v3, v4, v5, v6, .inl (true, z), v8] k s = ((-2147483648 ≤ z + 1 ∧ z + 1 < 2147483648) ∧ rn_9_plan ns ct R K n 248 (sy_sto [v0, v1, v2, v3, v4, v5, v6, .inl (true, z), v8] 7 (.inl (true, z + 1))) k s) := rfl
theorem rx_9_plan_248 {ns n ct R K s L k} : rn_9_plan ns ct R K (n + 1) 248 L k s = (K 191 L k s) := rfl
theorem rx_9_plan_251 {ns n ct R K s k z v1 v2 v3 v4 v5 v6 v7 v8} : rn_9_plan ns ct R K (n + 1) 251 [.inr (.inr (some z)), v1, v2, v3, v4, v5, v6, v7, v8] k s = (rn_9_plan ns ct R K n 252 [.inr (.inr (some z)), v1, v2, v3, v4, v5, v6, v7, v8] (.inr (.inr (some z)) :: k) s) := rfl
theorem rx_9_plan_252 {ns n ct R K s L k a} : rn_9_plan ns ct R K (n + 1) 252 L (.inr (.inr (some (some a))) :: k) s = (sy_ob a = some 9 ∧ rn_9_plan ns ct R K n 255 L (sy_fv s a 17 :: k) s) := rfl
theorem rx_9_plan_255 {ns n ct R K s k z v0 v1 v2 v3 v4 v5 v6 v7} : rn_9_plan ns ct R K (n + 1) 255 [v0, v1, v2, v3, v4, v5, v6, v7, .inl (true, z)] k s = (rn_9_plan ns ct R K n 257 [v0, v1, v2, v3, v4, v5, v6, v7, .inl (true, z)] (.inl (true, z) :: k) s) := rfl
theorem rx_9_plan_257 {ns n ct R K s k z v1 v2 v3 v4 v5 v6 v7 v8} : rn_9_plan ns ct R K (n + 1) 257 [.inr (.inr (some z)), v1, v2, v3, v4, v5, v6, v7, v8] k s = (rn_9_plan ns ct R K n 258 [.inr (.inr (some z)), v1, v2, v3, v4, v5, v6, v7, v8] (.inr (.inr (some z)) :: k) s) := rfl
theorem rx_9_plan_258 {ns n ct R K s L k a} : rn_9_plan ns ct R K (n + 1) 258 L (.inr (.inr (some (some a))) :: k) s = (sy_ob a = some 9 ∧ rn_9_plan ns ct R K n 261 L (sy_fv s a 16 :: k) s) := rfl
theorem rx_9_plan_261 {ns n ct R K s k z v0 v1 v2 v3 v4 v5 v6 v8} : rn_9_plan ns ct R K (n + 1) 261 [v0, v1, v2, v3, v4, v5, v6, .inl (true, z), v8] k s = (rn_9_plan ns ct R K n 263 [v0, v1, v2, v3, v4, v5, v6, .inl (true, z), v8] (.inl (true, z) :: k) s) := rfl
theorem rx_9_plan_263 {ns n ct R K s L k a b z} : rn_9_plan ns ct R K (n + 1) 263 L (.inl (b, z) :: .inr (.inr (some (some a))) :: k) s = ((0 ≤ z ∧ z < (sy_ar a).2) ∧ sy_ob a = none ∧ (sy_ar a).1 = 0 ∧ rn_9_plan ns ct R K n 264 L (.inl (true, s a z.toNat) :: k) s) := rfl
theorem rx_9_plan_264 {ns n ct R K s L k a b c z y} : rn_9_plan ns ct R K (n + 1) 264 L (.inl (c, y) :: .inl (b, z) :: .inr (.inr (some (some a))) :: k) s = (sy_ri c y ∧ (0 ≤ z ∧ z < (sy_ar a).2) ∧ sy_ob a = none ∧ (sy_ar a).1 = 0 ∧ rn_9_plan ns ct R K n 265 L k (sy_up s a z.toNat y)) := rfl
theorem rx_9_plan_265 {ns n ct R K s k z v1 v2 v3 v4 v5 v6 v7 v8} : rn_9_plan ns ct R K (n + 1) 265 [.inr (.inr (some z)), v1, v2, v3, v4, v5, v6, v7, v8] k s = (rn_9_plan ns ct R K n 266 [.inr (.inr (some z)), v1, v2, v3, v4, v5, v6, v7, v8] (.inr (.inr (some z)) :: k) s) := rfl
theorem rx_9_plan_266 {ns n ct R K s L k a} : rn_9_plan ns ct R K (n + 1) 266 L (.inr (.inr (some (some a))) :: k) s = (sy_ob a = some 9 ∧ rn_9_plan ns ct R K n 269 L (sy_fv s a 2 :: k) s) := rfl
theorem rx_9_plan_269 {ns n ct R K s k z v1 v2 v3 v4 v5 v6 v7 v8} : rn_9_plan ns ct R K (n + 1) 269 [.inr (.inr (some z)), v1, v2, v3, v4, v5, v6, v7, v8] k s = (rn_9_plan ns ct R K n 270 [.inr (.inr (some z)), v1, v2, v3, v4, v5, v6, v7, v8] (.inr (.inr (some z)) :: k) s) := rfl
theorem rx_9_plan_270 {ns n ct R K s L k a} : rn_9_plan ns ct R K (n + 1) 270 L (.inr (.inr (some (some a))) :: k) s = (sy_ob a = some 9 ∧ rn_9_plan ns ct R K n 273 L (sy_fv s a 16 :: k) s) := rfl
theorem rx_9_plan_273 {ns n ct R K s k z v0 v1 v2 v3 v4 v5 v6 v8} : rn_9_plan ns ct R K (n + 1) 273 [v0, v1, v2, v3, v4, v5, v6, .inl (true, z), v8] k s = (rn_9_plan ns ct R K n 275 [v0, v1, v2, v3, v4, v5, v6, .inl (true, z), v8] (.inl (true, z) :: k) s) := rfl
theorem rx_9_plan_275 {ns n ct R K s L k a b z} : rn_9_plan ns ct R K (n + 1) 275 L (.inl (b, z) :: .inr (.inr (some (some a))) :: k) s = ((0 ≤ z ∧ z < (sy_ar a).2) ∧ sy_ob a = none ∧ (sy_ar a).1 = 0 ∧ rn_9_plan ns ct R K n 276 L (.inl (true, s a z.toNat) :: k) s) := rfl
theorem rx_9_plan_276 {ns n ct R K s L k a b z} : rn_9_plan ns ct R K (n + 1) 276 L (.inl (b, z) :: .inr (.inr (some (some a))) :: k) s = ((0 ≤ z ∧ z < (sy_ar a).2) ∧ sy_ob a = none ∧ (sy_ar a).1 = 0 ∧ rn_9_plan ns ct R K n 277 L (.inl (true, s a z.toNat) :: k) s) := rfl
theorem rx_9_plan_277 {ns n ct R K s L k b z} : rn_9_plan ns ct R K (n + 1) 277 L (.inl (b, z) :: k) s = (sy_ri b z ∧ 6 < L.length ∧ rn_9_plan ns ct R K n 279 (sy_sto L 6 (.inl (true, z))) k s) := rfl
theorem rx_9_plan_279 {ns n ct R K s k z v0 v1 v2 v3 v4 v5 v6 v8} : rn_9_plan ns ct R K (n + 1) 279 [v0, v1, v2, v3, v4, v5, v6, .inl (true, z), v8] k s = ((-2147483648 ≤ z + 1 ∧ z + 1 < 2147483648) ∧ rn_9_plan ns ct R K n 282 (sy_sto [v0, v1, v2, v3, v4, v5, v6, .inl (true, z), v8] 7 (.inl (true, z + 1))) k s) := rfl
theorem rx_9_plan_282 {ns n ct R K s k z v0 v1 v2 v3 v4 v5 v6 v7} : rn_9_plan ns ct R K (n + 1) 282 [v0, v1, v2, v3, v4, v5, v6, v7, .inl (true, z)] k s = ((-2147483648 ≤ z + 1 ∧ z + 1 < 2147483648) ∧ rn_9_plan ns ct R K n 285 (sy_sto [v0, v1, v2, v3, v4, v5, v6, v7, .inl (true, z)] 8 (.inl (true, z + 1))) k s) := rfl
theorem rx_9_plan_285 {ns n ct R K s L k} : rn_9_plan ns ct R K (n + 1) 285 L k s = (K 185 L k s) := rfl
theorem rx_9_plan_288 {ns n ct R K s k z v1 v2 v3 v4 v5 v6 v7 v8} : rn_9_plan ns ct R K (n + 1) 288 [.inr (.inr (some z)), v1, v2, v3, v4, v5, v6, v7, v8] k s = (rn_9_plan ns ct R K n 289 [.inr (.inr (some z)), v1, v2, v3, v4, v5, v6, v7, v8] (.inr (.inr (some z)) :: k) s) := rfl
theorem rx_9_plan_289 {ns n ct R K s k z v0 v2 v3 v4 v5 v6 v7 v8} : rn_9_plan ns ct R K (n + 1) 289 [v0, .inl (true, z), v2, v3, v4, v5, v6, v7, v8] k s = (rn_9_plan ns ct R K n 290 [v0, .inl (true, z), v2, v3, v4, v5, v6, v7, v8] (.inl (true, z) :: k) s) := rfl
theorem rx_9_plan_290 {ns n ct R K s L k a b z} : rn_9_plan ns ct R K (n + 1) 290 L (.inl (b, z) :: .inr (.inr (some (some a))) :: k) s = (sy_ob a = some 9 ∧ sy_ri b z ∧ sy_b01 false z ∧ rn_9_plan ns ct R K n 293 L k (sy_up s a 18 z)) := rfl
theorem rx_9_plan_293 {ns n ct R K s k z v0 v1 v2 v3 v4 v6 v7 v8} : rn_9_plan ns ct R K (n + 1) 293 [v0, v1, v2, v3, v4, .inl (true, z), v6, v7, v8] k s = (rn_9_plan ns ct R K n 295 [v0, v1, v2, v3, v4, .inl (true, z), v6, v7, v8] (.inl (true, z) :: k) s) := rfl
theorem rx_9_plan_295 {ns n ct R K s L a z} : rn_9_plan ns ct R K (n + 1) 295 L [.inl (a, z)] s = (sy_ri a z ∧ sy_b01 false z ∧ R (some (.inl (true, z))) s) := rfl
def y_9_planned : MethodName := ⟨"StarHideModel", "planned", "(I)I"⟩
abbrev c_9_planned : ByteArray := prog_11_method_48_code
def tc_9_planned (pc : Nat) : Option sy_I := match pc with
  | 0 => some (.iload_n 1, 1, 0)
  | 1 => some (.ifCond .lt 11, 4, 12)
  | 4 => some (.iload_n 1, 5, 0)
  | 5 => some (.aload_n 0, 6, 0)
  | 6 => some (.getfield 66, 9, 0)
  | 9 => some (.if_icmp .lt 7, 12, 16)
  | 12 => some (.iconst (-1), 13, 0)
  | 13 => some (.goto 9, 16, 22)
  | 16 => some (.aload_n 0, 17, 0)
  | 17 => some (.getfield 63, 20, 0)
  | 20 => some (.iload_n 1, 21, 0)
  | 21 => some (.iaload, 22, 0)
  | 22 => some (.ireturn, 23, 0)
  | _ => none
theorem tv_9_planned : ∀ pc i, sy_lk 23 tc_9_planned pc = some i → sy_chk c_9_planned (some .int) false pc i = true := sy_lk_ok 23 tc_9_planned (by decide +kernel)
def Mk_9_planned (ct : Nat → Option (Bool × Nat × sy_Sp)) : sy_M := (sy_lk 23 tc_9_planned, ff_9, ki_9, kl_9, ct, false)
def rn_9_planned (ns : Nat) (ct : Nat → Option (Bool × Nat × sy_Sp)) (R : sy_R) (K : sy_K) : Nat → sy_K := sy_run ns (Mk_9_planned ct) [] R K
theorem rx_9_planned_0 {ns n ct R K s k z v0} : rn_9_planned ns ct R K (n + 1) 0 [v0, .inl (true, z)] k s = (rn_9_planned ns ct R K n 1 [v0, .inl (true, z)] (.inl (true, z) :: k) s) := rfl
theorem rx_9_planned_1 {ns n ct R K s L k a x} : rn_9_planned ns ct R K (n + 1) 1 L (.inl (a, x) :: k) s = (sy_ri a x ∧ (x < 0 → rn_9_planned ns ct R K n 12 L k s) ∧ (¬ x < 0 → rn_9_planned ns ct R K n 4 L k s)) := rfl
theorem rx_9_planned_4 {ns n ct R K s k z v0} : rn_9_planned ns ct R K (n + 1) 4 [v0, .inl (true, z)] k s = (rn_9_planned ns ct R K n 5 [v0, .inl (true, z)] (.inl (true, z) :: k) s) := rfl
theorem rx_9_planned_5 {ns n ct R K s k z v1} : rn_9_planned ns ct R K (n + 1) 5 [.inr (.inr (some z)), v1] k s = (rn_9_planned ns ct R K n 6 [.inr (.inr (some z)), v1] (.inr (.inr (some z)) :: k) s) := rfl
theorem rx_9_planned_6 {ns n ct R K s L k a} : rn_9_planned ns ct R K (n + 1) 6 L (.inr (.inr (some (some a))) :: k) s = (sy_ob a = some 9 ∧ rn_9_planned ns ct R K n 9 L (sy_fv s a 18 :: k) s) := rfl
theorem rx_9_planned_9 {ns n ct R K s L k a b x y} : rn_9_planned ns ct R K (n + 1) 9 L (.inl (b, y) :: .inl (a, x) :: k) s = (sy_ri a x ∧ sy_ri b y ∧ (x < y → rn_9_planned ns ct R K n 16 L k s) ∧ (¬ x < y → rn_9_planned ns ct R K n 12 L k s)) := rfl
theorem rx_9_planned_12 {ns n ct R K s L k} : rn_9_planned ns ct R K (n + 1) 12 L k s = (rn_9_planned ns ct R K n 13 L (.inl (true, (-1)) :: k) s) := rfl
theorem rx_9_planned_13 {ns n ct R K s L k} : rn_9_planned ns ct R K (n + 1) 13 L k s = (rn_9_planned ns ct R K n 22 L k s) := rfl
theorem rx_9_planned_16 {ns n ct R K s k z v1} : rn_9_planned ns ct R K (n + 1) 16 [.inr (.inr (some z)), v1] k s = (rn_9_planned ns ct R K n 17 [.inr (.inr (some z)), v1] (.inr (.inr (some z)) :: k) s) := rfl
theorem rx_9_planned_17 {ns n ct R K s L k a} : rn_9_planned ns ct R K (n + 1) 17 L (.inr (.inr (some (some a))) :: k) s = (sy_ob a = some 9 ∧ rn_9_planned ns ct R K n 20 L (sy_fv s a 17 :: k) s) := rfl
theorem rx_9_planned_20 {ns n ct R K s k z v0} : rn_9_planned ns ct R K (n + 1) 20 [v0, .inl (true, z)] k s = (rn_9_planned ns ct R K n 21 [v0, .inl (true, z)] (.inl (true, z) :: k) s) := rfl
theorem rx_9_planned_21 {ns n ct R K s L k a b z} : rn_9_planned ns ct R K (n + 1) 21 L (.inl (b, z) :: .inr (.inr (some (some a))) :: k) s = ((0 ≤ z ∧ z < (sy_ar a).2) ∧ sy_ob a = none ∧ (sy_ar a).1 = 0 ∧ rn_9_planned ns ct R K n 22 L (.inl (true, s a z.toNat) :: k) s) := rfl
theorem rx_9_planned_22 {ns n ct R K s L a z} : rn_9_planned ns ct R K (n + 1) 22 L [.inl (a, z)] s = (sy_ri a z ∧ sy_b01 false z ∧ R (some (.inl (true, z))) s) := rfl
def y_9_all : MethodName := ⟨"StarHideModel", "all", "(I)I"⟩
abbrev c_9_all : ByteArray := prog_11_method_49_code
def tc_9_all (pc : Nat) : Option sy_I := match pc with
  | 0 => some (.iload_n 1, 1, 0)
  | 1 => some (.iconst 0, 2, 0)
  | 2 => some (.iconst 4, 3, 0)
  | 3 => some (.invokestatic 69, 6, 0)
  | 6 => some (.ifCond .ne 5, 9, 11)
  | 9 => some (.iconst (-1), 10, 0)
  | 10 => some (.ireturn, 11, 0)
  | 11 => some (.iload_n 1, 12, 0)
  | 12 => some (.ifCond .ne 8, 15, 20)
  | 15 => some (.aload_n 0, 16, 0)
  | 16 => some (.getfield 13, 19, 0)
  | 19 => some (.ireturn, 20, 0)
  | 20 => some (.iload_n 1, 21, 0)
  | 21 => some (.iconst 4, 22, 0)
  | 22 => some (.if_icmp .ne 8, 25, 30)
  | 25 => some (.aload_n 0, 26, 0)
  | 26 => some (.getfield 35, 29, 0)
  | 29 => some (.ireturn, 30, 0)
  | 30 => some (.iconst 0, 31, 0)
  | 31 => some (.istore_n 2, 32, 0)
  | 32 => some (.iconst 0, 33, 0)
  | 33 => some (.istore_n 3, 34, 0)
  | 34 => some (.iload_n 3, 35, 0)
  | 35 => some (.aload_n 0, 36, 0)
  | 36 => some (.getfield 13, 39, 0)
  | 39 => some (.if_icmp .ge 27, 42, 66)
  | 42 => some (.iload_n 2, 43, 0)
  | 43 => some (.aload_n 0, 44, 0)
  | 44 => some (.getfield 26, 47, 0)
  | 47 => some (.iload_n 3, 48, 0)
  | 48 => some (.iaload, 49, 0)
  | 49 => some (.iload_n 1, 50, 0)
  | 50 => some (.if_icmp .ne 7, 53, 57)
  | 53 => some (.iconst 1, 54, 0)
  | 54 => some (.goto 4, 57, 58)
  | 57 => some (.iconst 0, 58, 0)
  | 58 => some (.iadd, 59, 0)
  | 59 => some (.istore_n 2, 60, 0)
  | 60 => some (.iinc 3 1, 63, 0)
  | 63 => some (.goto (-29), 66, 34)
  | 66 => some (.iload_n 2, 67, 0)
  | 67 => some (.ireturn, 68, 0)
  | _ => none
theorem tv_9_all : ∀ pc i, sy_lk 68 tc_9_all pc = some i → sy_chk c_9_all (some .int) false pc i = true := sy_lk_ok 68 tc_9_all (by decide +kernel)
def Mk_9_all (ct : Nat → Option (Bool × Nat × sy_Sp)) : sy_M := (sy_lk 68 tc_9_all, ff_9, ki_9, kl_9, ct, false)
def rn_9_all (ns : Nat) (ct : Nat → Option (Bool × Nat × sy_Sp)) (R : sy_R) (K : sy_K) : Nat → sy_K := sy_run ns (Mk_9_all ct) [34] R K
theorem rx_9_all_0 {ns n ct R K s k z v0 v2 v3} : rn_9_all ns ct R K (n + 1) 0 [v0, .inl (true, z), v2, v3] k s = (rn_9_all ns ct R K n 1 [v0, .inl (true, z), v2, v3] (.inl (true, z) :: k) s) := rfl
theorem rx_9_all_1 {ns n ct R K s L k} : rn_9_all ns ct R K (n + 1) 1 L k s = (rn_9_all ns ct R K n 2 L (.inl (true, 0) :: k) s) := rfl
theorem rx_9_all_2 {ns n ct R K s L k} : rn_9_all ns ct R K (n + 1) 2 L k s = (rn_9_all ns ct R K n 3 L (.inl (true, 4) :: k) s) := rfl
theorem rx_9_all_3 {ns n ct R K s L k} : rn_9_all ns ct R K (n + 1) 3 L k s = (sy_call true (ct 69) k s fun r t => rn_9_all ns ct R K n 6 L r t) := rfl
theorem rx_9_all_6 {ns n ct R K s L k a x} : rn_9_all ns ct R K (n + 1) 6 L (.inl (a, x) :: k) s = (sy_ri a x ∧ (¬ x = 0 → rn_9_all ns ct R K n 11 L k s) ∧ (x = 0 → rn_9_all ns ct R K n 9 L k s)) := rfl
theorem rx_9_all_9 {ns n ct R K s L k} : rn_9_all ns ct R K (n + 1) 9 L k s = (rn_9_all ns ct R K n 10 L (.inl (true, (-1)) :: k) s) := rfl
theorem rx_9_all_10 {ns n ct R K s L a z} : rn_9_all ns ct R K (n + 1) 10 L [.inl (a, z)] s = (sy_ri a z ∧ sy_b01 false z ∧ R (some (.inl (true, z))) s) := rfl
theorem rx_9_all_11 {ns n ct R K s k z v0 v2 v3} : rn_9_all ns ct R K (n + 1) 11 [v0, .inl (true, z), v2, v3] k s = (rn_9_all ns ct R K n 12 [v0, .inl (true, z), v2, v3] (.inl (true, z) :: k) s) := rfl
theorem rx_9_all_12 {ns n ct R K s L k a x} : rn_9_all ns ct R K (n + 1) 12 L (.inl (a, x) :: k) s = (sy_ri a x ∧ (¬ x = 0 → rn_9_all ns ct R K n 20 L k s) ∧ (x = 0 → rn_9_all ns ct R K n 15 L k s)) := rfl
theorem rx_9_all_15 {ns n ct R K s k z v1 v2 v3} : rn_9_all ns ct R K (n + 1) 15 [.inr (.inr (some z)), v1, v2, v3] k s = (rn_9_all ns ct R K n 16 [.inr (.inr (some z)), v1, v2, v3] (.inr (.inr (some z)) :: k) s) := rfl
theorem rx_9_all_16 {ns n ct R K s L k a} : rn_9_all ns ct R K (n + 1) 16 L (.inr (.inr (some (some a))) :: k) s = (sy_ob a = some 9 ∧ rn_9_all ns ct R K n 19 L (sy_fv s a 1 :: k) s) := rfl
theorem rx_9_all_19 {ns n ct R K s L a z} : rn_9_all ns ct R K (n + 1) 19 L [.inl (a, z)] s = (sy_ri a z ∧ sy_b01 false z ∧ R (some (.inl (true, z))) s) := rfl
theorem rx_9_all_20 {ns n ct R K s k z v0 v2 v3} : rn_9_all ns ct R K (n + 1) 20 [v0, .inl (true, z), v2, v3] k s = (rn_9_all ns ct R K n 21 [v0, .inl (true, z), v2, v3] (.inl (true, z) :: k) s) := rfl
theorem rx_9_all_21 {ns n ct R K s L k} : rn_9_all ns ct R K (n + 1) 21 L k s = (rn_9_all ns ct R K n 22 L (.inl (true, 4) :: k) s) := rfl
theorem rx_9_all_22 {ns n ct R K s L k a b x y} : rn_9_all ns ct R K (n + 1) 22 L (.inl (b, y) :: .inl (a, x) :: k) s = (sy_ri a x ∧ sy_ri b y ∧ (¬ x = y → rn_9_all ns ct R K n 30 L k s) ∧ (x = y → rn_9_all ns ct R K n 25 L k s)) := rfl
theorem rx_9_all_25 {ns n ct R K s k z v1 v2 v3} : rn_9_all ns ct R K (n + 1) 25 [.inr (.inr (some z)), v1, v2, v3] k s = (rn_9_all ns ct R K n 26 [.inr (.inr (some z)), v1, v2, v3] (.inr (.inr (some z)) :: k) s) := rfl
theorem rx_9_all_26 {ns n ct R K s L k a} : rn_9_all ns ct R K (n + 1) 26 L (.inr (.inr (some (some a))) :: k) s = (sy_ob a = some 9 ∧ rn_9_all ns ct R K n 29 L (sy_fv s a 8 :: k) s) := rfl
theorem rx_9_all_29 {ns n ct R K s L a z} : rn_9_all ns ct R K (n + 1) 29 L [.inl (a, z)] s = (sy_ri a z ∧ sy_b01 false z ∧ R (some (.inl (true, z))) s) := rfl
theorem rx_9_all_30 {ns n ct R K s L k} : rn_9_all ns ct R K (n + 1) 30 L k s = (rn_9_all ns ct R K n 31 L (.inl (true, 0) :: k) s) := rfl
theorem rx_9_all_31 {ns n ct R K s L k b z} : rn_9_all ns ct R K (n + 1) 31 L (.inl (b, z) :: k) s = (sy_ri b z ∧ 2 < L.length ∧ rn_9_all ns ct R K n 32 (sy_sto L 2 (.inl (true, z))) k s) := rfl
theorem rx_9_all_32 {ns n ct R K s L k} : rn_9_all ns ct R K (n + 1) 32 L k s = (rn_9_all ns ct R K n 33 L (.inl (true, 0) :: k) s) := rfl
theorem rx_9_all_33 {ns n ct R K s L k b z} : rn_9_all ns ct R K (n + 1) 33 L (.inl (b, z) :: k) s = (sy_ri b z ∧ 3 < L.length ∧ K 34 (sy_sto L 3 (.inl (true, z))) k s) := rfl
theorem rx_9_all_34 {ns n ct R K s k z v0 v1 v2} : rn_9_all ns ct R K (n + 1) 34 [v0, v1, v2, .inl (true, z)] k s = (rn_9_all ns ct R K n 35 [v0, v1, v2, .inl (true, z)] (.inl (true, z) :: k) s) := rfl
theorem rx_9_all_35 {ns n ct R K s k z v1 v2 v3} : rn_9_all ns ct R K (n + 1) 35 [.inr (.inr (some z)), v1, v2, v3] k s = (rn_9_all ns ct R K n 36 [.inr (.inr (some z)), v1, v2, v3] (.inr (.inr (some z)) :: k) s) := rfl
theorem rx_9_all_36 {ns n ct R K s L k a} : rn_9_all ns ct R K (n + 1) 36 L (.inr (.inr (some (some a))) :: k) s = (sy_ob a = some 9 ∧ rn_9_all ns ct R K n 39 L (sy_fv s a 1 :: k) s) := rfl
theorem rx_9_all_39 {ns n ct R K s L k a b x y} : rn_9_all ns ct R K (n + 1) 39 L (.inl (b, y) :: .inl (a, x) :: k) s = (sy_ri a x ∧ sy_ri b y ∧ (y ≤ x → rn_9_all ns ct R K n 66 L k s) ∧ (¬ y ≤ x → rn_9_all ns ct R K n 42 L k s)) := rfl
theorem rx_9_all_42 {ns n ct R K s k z v0 v1 v3} : rn_9_all ns ct R K (n + 1) 42 [v0, v1, .inl (true, z), v3] k s = (rn_9_all ns ct R K n 43 [v0, v1, .inl (true, z), v3] (.inl (true, z) :: k) s) := rfl
theorem rx_9_all_43 {ns n ct R K s k z v1 v2 v3} : rn_9_all ns ct R K (n + 1) 43 [.inr (.inr (some z)), v1, v2, v3] k s = (rn_9_all ns ct R K n 44 [.inr (.inr (some z)), v1, v2, v3] (.inr (.inr (some z)) :: k) s) := rfl
theorem rx_9_all_44 {ns n ct R K s L k a} : rn_9_all ns ct R K (n + 1) 44 L (.inr (.inr (some (some a))) :: k) s = (sy_ob a = some 9 ∧ rn_9_all ns ct R K n 47 L (sy_fv s a 5 :: k) s) := rfl
theorem rx_9_all_47 {ns n ct R K s k z v0 v1 v2} : rn_9_all ns ct R K (n + 1) 47 [v0, v1, v2, .inl (true, z)] k s = (rn_9_all ns ct R K n 48 [v0, v1, v2, .inl (true, z)] (.inl (true, z) :: k) s) := rfl
theorem rx_9_all_48 {ns n ct R K s L k a b z} : rn_9_all ns ct R K (n + 1) 48 L (.inl (b, z) :: .inr (.inr (some (some a))) :: k) s = ((0 ≤ z ∧ z < (sy_ar a).2) ∧ sy_ob a = none ∧ (sy_ar a).1 = 0 ∧ rn_9_all ns ct R K n 49 L (.inl (true, s a z.toNat) :: k) s) := rfl
theorem rx_9_all_49 {ns n ct R K s k z v0 v2 v3} : rn_9_all ns ct R K (n + 1) 49 [v0, .inl (true, z), v2, v3] k s = (rn_9_all ns ct R K n 50 [v0, .inl (true, z), v2, v3] (.inl (true, z) :: k) s) := rfl
theorem rx_9_all_50 {ns n ct R K s L k a b x y} : rn_9_all ns ct R K (n + 1) 50 L (.inl (b, y) :: .inl (a, x) :: k) s = (sy_ri a x ∧ sy_ri b y ∧ (¬ x = y → rn_9_all ns ct R K n 57 L k s) ∧ (x = y → rn_9_all ns ct R K n 53 L k s)) := rfl
theorem rx_9_all_53 {ns n ct R K s L k} : rn_9_all ns ct R K (n + 1) 53 L k s = (rn_9_all ns ct R K n 54 L (.inl (true, 1) :: k) s) := rfl
theorem rx_9_all_54 {ns n ct R K s L k} : rn_9_all ns ct R K (n + 1) 54 L k s = (rn_9_all ns ct R K n 58 L k s) := rfl
theorem rx_9_all_57 {ns n ct R K s L k} : rn_9_all ns ct R K (n + 1) 57 L k s = (rn_9_all ns ct R K n 58 L (.inl (true, 0) :: k) s) := rfl
theorem rx_9_all_58 {ns n ct R K s L k a b x y} : rn_9_all ns ct R K (n + 1) 58 L (.inl (b, y) :: .inl (a, x) :: k) s = (rn_9_all ns ct R K n 59 L (.inl (false, x + y) :: k) s) := rfl
theorem rx_9_all_59 {ns n ct R K s L k b z} : rn_9_all ns ct R K (n + 1) 59 L (.inl (b, z) :: k) s = (sy_ri b z ∧ 2 < L.length ∧ rn_9_all ns ct R K n 60 (sy_sto L 2 (.inl (true, z))) k s) := rfl
theorem rx_9_all_60 {ns n ct R K s k z v0 v1 v2} : rn_9_all ns ct R K (n + 1) 60 [v0, v1, v2, .inl (true, z)] k s = ((-2147483648 ≤ z + 1 ∧ z + 1 < 2147483648) ∧ rn_9_all ns ct R K n 63 (sy_sto [v0, v1, v2, .inl (true, z)] 3 (.inl (true, z + 1))) k s) := rfl
theorem rx_9_all_63 {ns n ct R K s L k} : rn_9_all ns ct R K (n + 1) 63 L k s = (K 34 L k s) := rfl
theorem rx_9_all_66 {ns n ct R K s k z v0 v1 v3} : rn_9_all ns ct R K (n + 1) 66 [v0, v1, .inl (true, z), v3] k s = (rn_9_all ns ct R K n 67 [v0, v1, .inl (true, z), v3] (.inl (true, z) :: k) s) := rfl
theorem rx_9_all_67 {ns n ct R K s L a z} : rn_9_all ns ct R K (n + 1) 67 L [.inl (a, z)] s = (sy_ri a z ∧ sy_b01 false z ∧ R (some (.inl (true, z))) s) := rfl
