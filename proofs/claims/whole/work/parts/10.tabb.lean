def y_9_init : MethodName := ⟨"StarHideModel", "<init>", "()V"⟩
abbrev c_9_init : ByteArray := prog_11_method_1_code
def y_9_is : MethodName := ⟨"StarHideModel", "is", "(III)Z"⟩
abbrev c_9_is : ByteArray := prog_11_method_2_code
def tc_9_is (pc : Nat) : Option sy_I := match pc with
  | 0 => some (.iload_n 0, 1, 0)
  | 1 => some (.iload_n 1, 2, 0)
  | 2 => some (.if_icmp .lt 12, 5, 14)
  | 5 => some (.iload_n 0, 6, 0)
  | 6 => some (.iload_n 2, 7, 0)
  | 7 => some (.if_icmp .gt 7, 10, 14)
  | 10 => some (.iconst 1, 11, 0)
  | 11 => some (.goto 4, 14, 15)
  | 14 => some (.iconst 0, 15, 0)
  | 15 => some (.ireturn, 16, 0)
  | _ => none
theorem tv_9_is : ∀ pc i, sy_lk 16 tc_9_is pc = some i → sy_chk c_9_is (some .boolean) true pc i = true := sy_lk_ok 16 tc_9_is (by decide +kernel)
def Mk_9_is (ct : Nat → Option (Bool × Nat × sy_Sp)) : sy_M := (sy_lk 16 tc_9_is, ff_9, ki_9, kl_9, ct, true)
def rn_9_is (ns : Nat) (ct : Nat → Option (Bool × Nat × sy_Sp)) (R : sy_R) (K : sy_K) : Nat → sy_K := sy_run ns (Mk_9_is ct) [] R K
theorem rx_9_is_0 {ns n ct R K s k z v1 v2} : rn_9_is ns ct R K (n + 1) 0 [.inl (true, z), v1, v2] k s = (rn_9_is ns ct R K n 1 [.inl (true, z), v1, v2] (.inl (true, z) :: k) s) := rfl
theorem rx_9_is_1 {ns n ct R K s k z v0 v2} : rn_9_is ns ct R K (n + 1) 1 [v0, .inl (true, z), v2] k s = (rn_9_is ns ct R K n 2 [v0, .inl (true, z), v2] (.inl (true, z) :: k) s) := rfl
theorem rx_9_is_2 {ns n ct R K s L k a b x y} : rn_9_is ns ct R K (n + 1) 2 L (.inl (b, y) :: .inl (a, x) :: k) s = (sy_ri a x ∧ sy_ri b y ∧ (x < y → rn_9_is ns ct R K n 14 L k s) ∧ (¬ x < y → rn_9_is ns ct R K n 5 L k s)) := rfl
theorem rx_9_is_5 {ns n ct R K s k z v1 v2} : rn_9_is ns ct R K (n + 1) 5 [.inl (true, z), v1, v2] k s = (rn_9_is ns ct R K n 6 [.inl (true, z), v1, v2] (.inl (true, z) :: k) s) := rfl
theorem rx_9_is_6 {ns n ct R K s k z v0 v1} : rn_9_is ns ct R K (n + 1) 6 [v0, v1, .inl (true, z)] k s = (rn_9_is ns ct R K n 7 [v0, v1, .inl (true, z)] (.inl (true, z) :: k) s) := rfl
theorem rx_9_is_7 {ns n ct R K s L k a b x y} : rn_9_is ns ct R K (n + 1) 7 L (.inl (b, y) :: .inl (a, x) :: k) s = (sy_ri a x ∧ sy_ri b y ∧ (y < x → rn_9_is ns ct R K n 14 L k s) ∧ (¬ y < x → rn_9_is ns ct R K n 10 L k s)) := rfl
theorem rx_9_is_10 {ns n ct R K s L k} : rn_9_is ns ct R K (n + 1) 10 L k s = (rn_9_is ns ct R K n 11 L (.inl (true, 1) :: k) s) := rfl
theorem rx_9_is_11 {ns n ct R K s L k} : rn_9_is ns ct R K (n + 1) 11 L k s = (rn_9_is ns ct R K n 15 L k s) := rfl
theorem rx_9_is_14 {ns n ct R K s L k} : rn_9_is ns ct R K (n + 1) 14 L k s = (rn_9_is ns ct R K n 15 L (.inl (true, 0) :: k) s) := rfl
theorem rx_9_is_15 {ns n ct R K s L a z} : rn_9_is ns ct R K (n + 1) 15 L [.inl (a, z)] s = (sy_ri a z ∧ sy_b01 true z ∧ R (some (.inl (true, z))) s) := rfl
def y_9_speed : MethodName := ⟨"StarHideModel", "speed", "(I)I"⟩
abbrev c_9_speed : ByteArray := prog_11_method_3_code
def tc_9_speed (pc : Nat) : Option sy_I := match pc with
  | 0 => some (.iload_n 1, 1, 0)
  | 1 => some (.iconst 1, 2, 0)
  | 2 => some (.bipush 10, 4, 0)
  | 4 => some (.invokestatic 69, 7, 0)
  | 7 => some (.ifCond .ne 5, 10, 12)
  | 10 => some (.iconst (-1), 11, 0)
  | 11 => some (.ireturn, 12, 0)
  | 12 => some (.aload_n 0, 13, 0)
  | 13 => some (.getfield 7, 16, 0)
  | 16 => some (.istore_n 2, 17, 0)
  | 17 => some (.aload_n 0, 18, 0)
  | 18 => some (.iload_n 1, 19, 0)
  | 19 => some (.putfield 7, 22, 0)
  | 22 => some (.iload_n 2, 23, 0)
  | 23 => some (.ireturn, 24, 0)
  | _ => none
theorem tv_9_speed : ∀ pc i, sy_lk 24 tc_9_speed pc = some i → sy_chk c_9_speed (some .int) false pc i = true := sy_lk_ok 24 tc_9_speed (by decide +kernel)
def Mk_9_speed (ct : Nat → Option (Bool × Nat × sy_Sp)) : sy_M := (sy_lk 24 tc_9_speed, ff_9, ki_9, kl_9, ct, false)
def rn_9_speed (ns : Nat) (ct : Nat → Option (Bool × Nat × sy_Sp)) (R : sy_R) (K : sy_K) : Nat → sy_K := sy_run ns (Mk_9_speed ct) [] R K
theorem rx_9_speed_0 {ns n ct R K s k z v0 v2} : rn_9_speed ns ct R K (n + 1) 0 [v0, .inl (true, z), v2] k s = (rn_9_speed ns ct R K n 1 [v0, .inl (true, z), v2] (.inl (true, z) :: k) s) := rfl
theorem rx_9_speed_1 {ns n ct R K s L k} : rn_9_speed ns ct R K (n + 1) 1 L k s = (rn_9_speed ns ct R K n 2 L (.inl (true, 1) :: k) s) := rfl
theorem rx_9_speed_2 {ns n ct R K s L k} : rn_9_speed ns ct R K (n + 1) 2 L k s = (rn_9_speed ns ct R K n 4 L (.inl (true, 10) :: k) s) := rfl
theorem rx_9_speed_4 {ns n ct R K s L k} : rn_9_speed ns ct R K (n + 1) 4 L k s = (sy_call true (ct 69) k s fun r t => rn_9_speed ns ct R K n 7 L r t) := rfl
theorem rx_9_speed_7 {ns n ct R K s L k a x} : rn_9_speed ns ct R K (n + 1) 7 L (.inl (a, x) :: k) s = (sy_ri a x ∧ (¬ x = 0 → rn_9_speed ns ct R K n 12 L k s) ∧ (x = 0 → rn_9_speed ns ct R K n 10 L k s)) := rfl
theorem rx_9_speed_10 {ns n ct R K s L k} : rn_9_speed ns ct R K (n + 1) 10 L k s = (rn_9_speed ns ct R K n 11 L (.inl (true, (-1)) :: k) s) := rfl
theorem rx_9_speed_11 {ns n ct R K s L a z} : rn_9_speed ns ct R K (n + 1) 11 L [.inl (a, z)] s = (sy_ri a z ∧ sy_b01 false z ∧ R (some (.inl (true, z))) s) := rfl
theorem rx_9_speed_12 {ns n ct R K s k z v1 v2} : rn_9_speed ns ct R K (n + 1) 12 [.inr (.inr (some z)), v1, v2] k s = (rn_9_speed ns ct R K n 13 [.inr (.inr (some z)), v1, v2] (.inr (.inr (some z)) :: k) s) := rfl
theorem rx_9_speed_13 {ns n ct R K s L k a} : rn_9_speed ns ct R K (n + 1) 13 L (.inr (.inr (some (some a))) :: k) s = (sy_ob a = some 9 ∧ rn_9_speed ns ct R K n 16 L (sy_fv s a 0 :: k) s) := rfl
theorem rx_9_speed_16 {ns n ct R K s L k b z} : rn_9_speed ns ct R K (n + 1) 16 L (.inl (b, z) :: k) s = (sy_ri b z ∧ 2 < L.length ∧ rn_9_speed ns ct R K n 17 (sy_sto L 2 (.inl (true, z))) k s) := rfl
theorem rx_9_speed_17 {ns n ct R K s k z v1 v2} : rn_9_speed ns ct R K (n + 1) 17 [.inr (.inr (some z)), v1, v2] k s = (rn_9_speed ns ct R K n 18 [.inr (.inr (some z)), v1, v2] (.inr (.inr (some z)) :: k) s) := rfl
theorem rx_9_speed_18 {ns n ct R K s k z v0 v2} : rn_9_speed ns ct R K (n + 1) 18 [v0, .inl (true, z), v2] k s = (rn_9_speed ns ct R K n 19 [v0, .inl (true, z), v2] (.inl (true, z) :: k) s) := rfl
theorem rx_9_speed_19 {ns n ct R K s L k a b z} : rn_9_speed ns ct R K (n + 1) 19 L (.inl (b, z) :: .inr (.inr (some (some a))) :: k) s = (sy_ob a = some 9 ∧ sy_ri b z ∧ sy_b01 false z ∧ rn_9_speed ns ct R K n 22 L k (sy_up s a 0 z)) := rfl
theorem rx_9_speed_22 {ns n ct R K s k z v0 v1} : rn_9_speed ns ct R K (n + 1) 22 [v0, v1, .inl (true, z)] k s = (rn_9_speed ns ct R K n 23 [v0, v1, .inl (true, z)] (.inl (true, z) :: k) s) := rfl
theorem rx_9_speed_23 {ns n ct R K s L a z} : rn_9_speed ns ct R K (n + 1) 23 L [.inl (a, z)] s = (sy_ri a z ∧ sy_b01 false z ∧ R (some (.inl (true, z))) s) := rfl
def y_9_site : MethodName := ⟨"StarHideModel", "site", "(II)I"⟩
abbrev c_9_site : ByteArray := prog_11_method_4_code
def tc_9_site (pc : Nat) : Option sy_I := match pc with
  | 0 => some (.iload_n 1, 1, 0)
  | 1 => some (.sipush (-2000), 4, 0)
  | 4 => some (.sipush 2000, 7, 0)
  | 7 => some (.invokestatic 69, 10, 0)
  | 10 => some (.ifCond .eq 25, 13, 35)
  | 13 => some (.iload_n 2, 14, 0)
  | 14 => some (.sipush (-5000), 17, 0)
  | 17 => some (.sipush 5000, 20, 0)
  | 20 => some (.invokestatic 69, 23, 0)
  | 23 => some (.ifCond .eq 12, 26, 35)
  | 26 => some (.aload_n 0, 27, 0)
  | 27 => some (.getfield 13, 30, 0)
  | 30 => some (.bipush 16, 32, 0)
  | 32 => some (.if_icmp .ne 5, 35, 37)
  | 35 => some (.iconst (-1), 36, 0)
  | 36 => some (.ireturn, 37, 0)
  | 37 => some (.iconst 0, 38, 0)
  | 38 => some (.istore_n 3, 39, 0)
  | 39 => some (.iload_n 3, 40, 0)
  | 40 => some (.aload_n 0, 41, 0)
  | 41 => some (.getfield 13, 44, 0)
  | 44 => some (.if_icmp .ge 21, 47, 65)
  | 47 => some (.aload_n 0, 48, 0)
  | 48 => some (.getfield 16, 51, 0)
  | 51 => some (.iload_n 3, 52, 0)
  | 52 => some (.iaload, 53, 0)
  | 53 => some (.iload_n 1, 54, 0)
  | 54 => some (.if_icmp .ne 5, 57, 59)
  | 57 => some (.iconst (-1), 58, 0)
  | 58 => some (.ireturn, 59, 0)
  | 59 => some (.iinc 3 1, 62, 0)
  | 62 => some (.goto (-23), 65, 39)
  | 65 => some (.aload_n 0, 66, 0)
  | 66 => some (.getfield 16, 69, 0)
  | 69 => some (.aload_n 0, 70, 0)
  | 70 => some (.getfield 13, 73, 0)
  | 73 => some (.iload_n 1, 74, 0)
  | 74 => some (.iastore, 75, 0)
  | 75 => some (.aload_n 0, 76, 0)
  | 76 => some (.getfield 20, 79, 0)
  | 79 => some (.aload_n 0, 80, 0)
  | 80 => some (.getfield 13, 83, 0)
  | 83 => some (.iload_n 2, 84, 0)
  | 84 => some (.iastore, 85, 0)
  | 85 => some (.aload_n 0, 86, 0)
  | 86 => some (.dup, 87, 0)
  | 87 => some (.getfield 13, 90, 0)
  | 90 => some (.iconst 1, 91, 0)
  | 91 => some (.iadd, 92, 0)
  | 92 => some (.putfield 13, 95, 0)
  | 95 => some (.aload_n 0, 96, 0)
  | 96 => some (.getfield 13, 99, 0)
  | 99 => some (.iconst 1, 100, 0)
  | 100 => some (.isub, 101, 0)
  | 101 => some (.ireturn, 102, 0)
  | _ => none
theorem tv_9_site : ∀ pc i, sy_lk 102 tc_9_site pc = some i → sy_chk c_9_site (some .int) false pc i = true := sy_lk_ok 102 tc_9_site (by decide +kernel)
def Mk_9_site (ct : Nat → Option (Bool × Nat × sy_Sp)) : sy_M := (sy_lk 102 tc_9_site, ff_9, ki_9, kl_9, ct, false)
def rn_9_site (ns : Nat) (ct : Nat → Option (Bool × Nat × sy_Sp)) (R : sy_R) (K : sy_K) : Nat → sy_K := sy_run ns (Mk_9_site ct) [39] R K
theorem rx_9_site_0 {ns n ct R K s k z v0 v2 v3} : rn_9_site ns ct R K (n + 1) 0 [v0, .inl (true, z), v2, v3] k s = (rn_9_site ns ct R K n 1 [v0, .inl (true, z), v2, v3] (.inl (true, z) :: k) s) := rfl
theorem rx_9_site_1 {ns n ct R K s L k} : rn_9_site ns ct R K (n + 1) 1 L k s = (rn_9_site ns ct R K n 4 L (.inl (true, (-2000)) :: k) s) := rfl
theorem rx_9_site_4 {ns n ct R K s L k} : rn_9_site ns ct R K (n + 1) 4 L k s = (rn_9_site ns ct R K n 7 L (.inl (true, 2000) :: k) s) := rfl
theorem rx_9_site_7 {ns n ct R K s L k} : rn_9_site ns ct R K (n + 1) 7 L k s = (sy_call true (ct 69) k s fun r t => rn_9_site ns ct R K n 10 L r t) := rfl
theorem rx_9_site_10 {ns n ct R K s L k a x} : rn_9_site ns ct R K (n + 1) 10 L (.inl (a, x) :: k) s = (sy_ri a x ∧ (x = 0 → rn_9_site ns ct R K n 35 L k s) ∧ (¬ x = 0 → rn_9_site ns ct R K n 13 L k s)) := rfl
theorem rx_9_site_13 {ns n ct R K s k z v0 v1 v3} : rn_9_site ns ct R K (n + 1) 13 [v0, v1, .inl (true, z), v3] k s = (rn_9_site ns ct R K n 14 [v0, v1, .inl (true, z), v3] (.inl (true, z) :: k) s) := rfl
theorem rx_9_site_14 {ns n ct R K s L k} : rn_9_site ns ct R K (n + 1) 14 L k s = (rn_9_site ns ct R K n 17 L (.inl (true, (-5000)) :: k) s) := rfl
theorem rx_9_site_17 {ns n ct R K s L k} : rn_9_site ns ct R K (n + 1) 17 L k s = (rn_9_site ns ct R K n 20 L (.inl (true, 5000) :: k) s) := rfl
theorem rx_9_site_20 {ns n ct R K s L k} : rn_9_site ns ct R K (n + 1) 20 L k s = (sy_call true (ct 69) k s fun r t => rn_9_site ns ct R K n 23 L r t) := rfl
theorem rx_9_site_23 {ns n ct R K s L k a x} : rn_9_site ns ct R K (n + 1) 23 L (.inl (a, x) :: k) s = (sy_ri a x ∧ (x = 0 → rn_9_site ns ct R K n 35 L k s) ∧ (¬ x = 0 → rn_9_site ns ct R K n 26 L k s)) := rfl
theorem rx_9_site_26 {ns n ct R K s k z v1 v2 v3} : rn_9_site ns ct R K (n + 1) 26 [.inr (.inr (some z)), v1, v2, v3] k s = (rn_9_site ns ct R K n 27 [.inr (.inr (some z)), v1, v2, v3] (.inr (.inr (some z)) :: k) s) := rfl
theorem rx_9_site_27 {ns n ct R K s L k a} : rn_9_site ns ct R K (n + 1) 27 L (.inr (.inr (some (some a))) :: k) s = (sy_ob a = some 9 ∧ rn_9_site ns ct R K n 30 L (sy_fv s a 1 :: k) s) := rfl
theorem rx_9_site_30 {ns n ct R K s L k} : rn_9_site ns ct R K (n + 1) 30 L k s = (rn_9_site ns ct R K n 32 L (.inl (true, 16) :: k) s) := rfl
theorem rx_9_site_32 {ns n ct R K s L k a b x y} : rn_9_site ns ct R K (n + 1) 32 L (.inl (b, y) :: .inl (a, x) :: k) s = (sy_ri a x ∧ sy_ri b y ∧ (¬ x = y → rn_9_site ns ct R K n 37 L k s) ∧ (x = y → rn_9_site ns ct R K n 35 L k s)) := rfl
theorem rx_9_site_35 {ns n ct R K s L k} : rn_9_site ns ct R K (n + 1) 35 L k s = (rn_9_site ns ct R K n 36 L (.inl (true, (-1)) :: k) s) := rfl
theorem rx_9_site_36 {ns n ct R K s L a z} : rn_9_site ns ct R K (n + 1) 36 L [.inl (a, z)] s = (sy_ri a z ∧ sy_b01 false z ∧ R (some (.inl (true, z))) s) := rfl
theorem rx_9_site_37 {ns n ct R K s L k} : rn_9_site ns ct R K (n + 1) 37 L k s = (rn_9_site ns ct R K n 38 L (.inl (true, 0) :: k) s) := rfl
theorem rx_9_site_38 {ns n ct R K s L k b z} : rn_9_site ns ct R K (n + 1) 38 L (.inl (b, z) :: k) s = (sy_ri b z ∧ 3 < L.length ∧ K 39 (sy_sto L 3 (.inl (true, z))) k s) := rfl
theorem rx_9_site_39 {ns n ct R K s k z v0 v1 v2} : rn_9_site ns ct R K (n + 1) 39 [v0, v1, v2, .inl (true, z)] k s = (rn_9_site ns ct R K n 40 [v0, v1, v2, .inl (true, z)] (.inl (true, z) :: k) s) := rfl
theorem rx_9_site_40 {ns n ct R K s k z v1 v2 v3} : rn_9_site ns ct R K (n + 1) 40 [.inr (.inr (some z)), v1, v2, v3] k s = (rn_9_site ns ct R K n 41 [.inr (.inr (some z)), v1, v2, v3] (.inr (.inr (some z)) :: k) s) := rfl
theorem rx_9_site_41 {ns n ct R K s L k a} : rn_9_site ns ct R K (n + 1) 41 L (.inr (.inr (some (some a))) :: k) s = (sy_ob a = some 9 ∧ rn_9_site ns ct R K n 44 L (sy_fv s a 1 :: k) s) := rfl
theorem rx_9_site_44 {ns n ct R K s L k a b x y} : rn_9_site ns ct R K (n + 1) 44 L (.inl (b, y) :: .inl (a, x) :: k) s = (sy_ri a x ∧ sy_ri b y ∧ (y ≤ x → rn_9_site ns ct R K n 65 L k s) ∧ (¬ y ≤ x → rn_9_site ns ct R K n 47 L k s)) := rfl
theorem rx_9_site_47 {ns n ct R K s k z v1 v2 v3} : rn_9_site ns ct R K (n + 1) 47 [.inr (.inr (some z)), v1, v2, v3] k s = (rn_9_site ns ct R K n 48 [.inr (.inr (some z)), v1, v2, v3] (.inr (.inr (some z)) :: k) s) := rfl
theorem rx_9_site_48 {ns n ct R K s L k a} : rn_9_site ns ct R K (n + 1) 48 L (.inr (.inr (some (some a))) :: k) s = (sy_ob a = some 9 ∧ rn_9_site ns ct R K n 51 L (sy_fv s a 2 :: k) s) := rfl
theorem rx_9_site_51 {ns n ct R K s k z v0 v1 v2} : rn_9_site ns ct R K (n + 1) 51 [v0, v1, v2, .inl (true, z)] k s = (rn_9_site ns ct R K n 52 [v0, v1, v2, .inl (true, z)] (.inl (true, z) :: k) s) := rfl
theorem rx_9_site_52 {ns n ct R K s L k a b z} : rn_9_site ns ct R K (n + 1) 52 L (.inl (b, z) :: .inr (.inr (some (some a))) :: k) s = ((0 ≤ z ∧ z < (sy_ar a).2) ∧ sy_ob a = none ∧ (sy_ar a).1 = 0 ∧ rn_9_site ns ct R K n 53 L (.inl (true, s a z.toNat) :: k) s) := rfl
theorem rx_9_site_53 {ns n ct R K s k z v0 v2 v3} : rn_9_site ns ct R K (n + 1) 53 [v0, .inl (true, z), v2, v3] k s = (rn_9_site ns ct R K n 54 [v0, .inl (true, z), v2, v3] (.inl (true, z) :: k) s) := rfl
theorem rx_9_site_54 {ns n ct R K s L k a b x y} : rn_9_site ns ct R K (n + 1) 54 L (.inl (b, y) :: .inl (a, x) :: k) s = (sy_ri a x ∧ sy_ri b y ∧ (¬ x = y → rn_9_site ns ct R K n 59 L k s) ∧ (x = y → rn_9_site ns ct R K n 57 L k s)) := rfl
theorem rx_9_site_57 {ns n ct R K s L k} : rn_9_site ns ct R K (n + 1) 57 L k s = (rn_9_site ns ct R K n 58 L (.inl (true, (-1)) :: k) s) := rfl
theorem rx_9_site_58 {ns n ct R K s L a z} : rn_9_site ns ct R K (n + 1) 58 L [.inl (a, z)] s = (sy_ri a z ∧ sy_b01 false z ∧ R (some (.inl (true, z))) s) := rfl
theorem rx_9_site_59 {ns n ct R K s k z v0 v1 v2} : rn_9_site ns ct R K (n + 1) 59 [v0, v1, v2, .inl (true, z)] k s = ((-2147483648 ≤ z + 1 ∧ z + 1 < 2147483648) ∧ rn_9_site ns ct R K n 62 (sy_sto [v0, v1, v2, .inl (true, z)] 3 (.inl (true, z + 1))) k s) := rfl
theorem rx_9_site_62 {ns n ct R K s L k} : rn_9_site ns ct R K (n + 1) 62 L k s = (K 39 L k s) := rfl
theorem rx_9_site_65 {ns n ct R K s k z v1 v2 v3} : rn_9_site ns ct R K (n + 1) 65 [.inr (.inr (some z)), v1, v2, v3] k s = (rn_9_site ns ct R K n 66 [.inr (.inr (some z)), v1, v2, v3] (.inr (.inr (some z)) :: k) s) := rfl
theorem rx_9_site_66 {ns n ct R K s L k a} : rn_9_site ns ct R K (n + 1) 66 L (.inr (.inr (some (some a))) :: k) s = (sy_ob a = some 9 ∧ rn_9_site ns ct R K n 69 L (sy_fv s a 2 :: k) s) := rfl
theorem rx_9_site_69 {ns n ct R K s k z v1 v2 v3} : rn_9_site ns ct R K (n + 1) 69 [.inr (.inr (some z)), v1, v2, v3] k s = (rn_9_site ns ct R K n 70 [.inr (.inr (some z)), v1, v2, v3] (.inr (.inr (some z)) :: k) s) := rfl
theorem rx_9_site_70 {ns n ct R K s L k a} : rn_9_site ns ct R K (n + 1) 70 L (.inr (.inr (some (some a))) :: k) s = (sy_ob a = some 9 ∧ rn_9_site ns ct R K n 73 L (sy_fv s a 1 :: k) s) := rfl
theorem rx_9_site_73 {ns n ct R K s k z v0 v2 v3} : rn_9_site ns ct R K (n + 1) 73 [v0, .inl (true, z), v2, v3] k s = (rn_9_site ns ct R K n 74 [v0, .inl (true, z), v2, v3] (.inl (true, z) :: k) s) := rfl
theorem rx_9_site_74 {ns n ct R K s L k a b c z y} : rn_9_site ns ct R K (n + 1) 74 L (.inl (c, y) :: .inl (b, z) :: .inr (.inr (some (some a))) :: k) s = (sy_ri c y ∧ (0 ≤ z ∧ z < (sy_ar a).2) ∧ sy_ob a = none ∧ (sy_ar a).1 = 0 ∧ rn_9_site ns ct R K n 75 L k (sy_up s a z.toNat y)) := rfl
theorem rx_9_site_75 {ns n ct R K s k z v1 v2 v3} : rn_9_site ns ct R K (n + 1) 75 [.inr (.inr (some z)), v1, v2, v3] k s = (rn_9_site ns ct R K n 76 [.inr (.inr (some z)), v1, v2, v3] (.inr (.inr (some z)) :: k) s) := rfl
theorem rx_9_site_76 {ns n ct R K s L k a} : rn_9_site ns ct R K (n + 1) 76 L (.inr (.inr (some (some a))) :: k) s = (sy_ob a = some 9 ∧ rn_9_site ns ct R K n 79 L (sy_fv s a 3 :: k) s) := rfl
theorem rx_9_site_79 {ns n ct R K s k z v1 v2 v3} : rn_9_site ns ct R K (n + 1) 79 [.inr (.inr (some z)), v1, v2, v3] k s = (rn_9_site ns ct R K n 80 [.inr (.inr (some z)), v1, v2, v3] (.inr (.inr (some z)) :: k) s) := rfl
theorem rx_9_site_80 {ns n ct R K s L k a} : rn_9_site ns ct R K (n + 1) 80 L (.inr (.inr (some (some a))) :: k) s = (sy_ob a = some 9 ∧ rn_9_site ns ct R K n 83 L (sy_fv s a 1 :: k) s) := rfl
theorem rx_9_site_83 {ns n ct R K s k z v0 v1 v3} : rn_9_site ns ct R K (n + 1) 83 [v0, v1, .inl (true, z), v3] k s = (rn_9_site ns ct R K n 84 [v0, v1, .inl (true, z), v3] (.inl (true, z) :: k) s) := rfl
theorem rx_9_site_84 {ns n ct R K s L k a b c z y} : rn_9_site ns ct R K (n + 1) 84 L (.inl (c, y) :: .inl (b, z) :: .inr (.inr (some (some a))) :: k) s = (sy_ri c y ∧ (0 ≤ z ∧ z < (sy_ar a).2) ∧ sy_ob a = none ∧ (sy_ar a).1 = 0 ∧ rn_9_site ns ct R K n 85 L k (sy_up s a z.toNat y)) := rfl
theorem rx_9_site_85 {ns n ct R K s k z v1 v2 v3} : rn_9_site ns ct R K (n + 1) 85 [.inr (.inr (some z)), v1, v2, v3] k s = (rn_9_site ns ct R K n 86 [.inr (.inr (some z)), v1, v2, v3] (.inr (.inr (some z)) :: k) s) := rfl
theorem rx_9_site_86_i {ns n ct R K s L k a} : rn_9_site ns ct R K (n + 1) 86 L (.inl a :: k) s = (rn_9_site ns ct R K n 87 L (.inl a :: .inl a :: k) s) := rfl
theorem rx_9_site_86 {ns n ct R K s L k a} : rn_9_site ns ct R K (n + 1) 86 L (.inr (.inr a) :: k) s = (rn_9_site ns ct R K n 87 L (.inr (.inr a) :: .inr (.inr a) :: k) s) := rfl
theorem rx_9_site_87 {ns n ct R K s L k a} : rn_9_site ns ct R K (n + 1) 87 L (.inr (.inr (some (some a))) :: k) s = (sy_ob a = some 9 ∧ rn_9_site ns ct R K n 90 L (sy_fv s a 1 :: k) s) := rfl
theorem rx_9_site_90 {ns n ct R K s L k} : rn_9_site ns ct R K (n + 1) 90 L k s = (rn_9_site ns ct R K n 91 L (.inl (true, 1) :: k) s) := rfl
theorem rx_9_site_91 {ns n ct R K s L k a b x y} : rn_9_site ns ct R K (n + 1) 91 L (.inl (b, y) :: .inl (a, x) :: k) s = (rn_9_site ns ct R K n 92 L (.inl (false, x + y) :: k) s) := rfl
theorem rx_9_site_92 {ns n ct R K s L k a b z} : rn_9_site ns ct R K (n + 1) 92 L (.inl (b, z) :: .inr (.inr (some (some a))) :: k) s = (sy_ob a = some 9 ∧ sy_ri b z ∧ sy_b01 false z ∧ rn_9_site ns ct R K n 95 L k (sy_up s a 1 z)) := rfl
theorem rx_9_site_95 {ns n ct R K s k z v1 v2 v3} : rn_9_site ns ct R K (n + 1) 95 [.inr (.inr (some z)), v1, v2, v3] k s = (rn_9_site ns ct R K n 96 [.inr (.inr (some z)), v1, v2, v3] (.inr (.inr (some z)) :: k) s) := rfl
theorem rx_9_site_96 {ns n ct R K s L k a} : rn_9_site ns ct R K (n + 1) 96 L (.inr (.inr (some (some a))) :: k) s = (sy_ob a = some 9 ∧ rn_9_site ns ct R K n 99 L (sy_fv s a 1 :: k) s) := rfl
theorem rx_9_site_99 {ns n ct R K s L k} : rn_9_site ns ct R K (n + 1) 99 L k s = (rn_9_site ns ct R K n 100 L (.inl (true, 1) :: k) s) := rfl
theorem rx_9_site_100 {ns n ct R K s L k a b x y} : rn_9_site ns ct R K (n + 1) 100 L (.inl (b, y) :: .inl (a, x) :: k) s = (rn_9_site ns ct R K n 101 L (.inl (false, x - y) :: k) s) := rfl
theorem rx_9_site_101 {ns n ct R K s L a z} : rn_9_site ns ct R K (n + 1) 101 L [.inl (a, z)] s = (sy_ri a z ∧ sy_b01 false z ∧ R (some (.inl (true, z))) s) := rfl
def y_9_isSite : MethodName := ⟨"StarHideModel", "isSite", "(I)Z"⟩
abbrev c_9_isSite : ByteArray := prog_11_method_5_code
def tc_9_isSite (pc : Nat) : Option sy_I := match pc with
  | 0 => some (.iload_n 1, 1, 0)
  | 1 => some (.ifCond .lt 15, 4, 16)
  | 4 => some (.iload_n 1, 5, 0)
  | 5 => some (.aload_n 0, 6, 0)
  | 6 => some (.getfield 13, 9, 0)
  | 9 => some (.if_icmp .ge 7, 12, 16)
  | 12 => some (.iconst 1, 13, 0)
  | 13 => some (.goto 4, 16, 17)
  | 16 => some (.iconst 0, 17, 0)
  | 17 => some (.ireturn, 18, 0)
  | _ => none
theorem tv_9_isSite : ∀ pc i, sy_lk 18 tc_9_isSite pc = some i → sy_chk c_9_isSite (some .boolean) true pc i = true := sy_lk_ok 18 tc_9_isSite (by decide +kernel)
def Mk_9_isSite (ct : Nat → Option (Bool × Nat × sy_Sp)) : sy_M := (sy_lk 18 tc_9_isSite, ff_9, ki_9, kl_9, ct, true)
def rn_9_isSite (ns : Nat) (ct : Nat → Option (Bool × Nat × sy_Sp)) (R : sy_R) (K : sy_K) : Nat → sy_K := sy_run ns (Mk_9_isSite ct) [] R K
theorem rx_9_isSite_0 {ns n ct R K s k z v0} : rn_9_isSite ns ct R K (n + 1) 0 [v0, .inl (true, z)] k s = (rn_9_isSite ns ct R K n 1 [v0, .inl (true, z)] (.inl (true, z) :: k) s) := rfl
theorem rx_9_isSite_1 {ns n ct R K s L k a x} : rn_9_isSite ns ct R K (n + 1) 1 L (.inl (a, x) :: k) s = (sy_ri a x ∧ (x < 0 → rn_9_isSite ns ct R K n 16 L k s) ∧ (¬ x < 0 → rn_9_isSite ns ct R K n 4 L k s)) := rfl
theorem rx_9_isSite_4 {ns n ct R K s k z v0} : rn_9_isSite ns ct R K (n + 1) 4 [v0, .inl (true, z)] k s = (rn_9_isSite ns ct R K n 5 [v0, .inl (true, z)] (.inl (true, z) :: k) s) := rfl
theorem rx_9_isSite_5 {ns n ct R K s k z v1} : rn_9_isSite ns ct R K (n + 1) 5 [.inr (.inr (some z)), v1] k s = (rn_9_isSite ns ct R K n 6 [.inr (.inr (some z)), v1] (.inr (.inr (some z)) :: k) s) := rfl
theorem rx_9_isSite_6 {ns n ct R K s L k a} : rn_9_isSite ns ct R K (n + 1) 6 L (.inr (.inr (some (some a))) :: k) s = (sy_ob a = some 9 ∧ rn_9_isSite ns ct R K n 9 L (sy_fv s a 1 :: k) s) := rfl
theorem rx_9_isSite_9 {ns n ct R K s L k a b x y} : rn_9_isSite ns ct R K (n + 1) 9 L (.inl (b, y) :: .inl (a, x) :: k) s = (sy_ri a x ∧ sy_ri b y ∧ (y ≤ x → rn_9_isSite ns ct R K n 16 L k s) ∧ (¬ y ≤ x → rn_9_isSite ns ct R K n 12 L k s)) := rfl
theorem rx_9_isSite_12 {ns n ct R K s L k} : rn_9_isSite ns ct R K (n + 1) 12 L k s = (rn_9_isSite ns ct R K n 13 L (.inl (true, 1) :: k) s) := rfl
theorem rx_9_isSite_13 {ns n ct R K s L k} : rn_9_isSite ns ct R K (n + 1) 13 L k s = (rn_9_isSite ns ct R K n 17 L k s) := rfl
theorem rx_9_isSite_16 {ns n ct R K s L k} : rn_9_isSite ns ct R K (n + 1) 16 L k s = (rn_9_isSite ns ct R K n 17 L (.inl (true, 0) :: k) s) := rfl
theorem rx_9_isSite_17 {ns n ct R K s L a z} : rn_9_isSite ns ct R K (n + 1) 17 L [.inl (a, z)] s = (sy_ri a z ∧ sy_b01 true z ∧ R (some (.inl (true, z))) s) := rfl
def y_9_isTick : MethodName := ⟨"StarHideModel", "isTick", "(I)Z"⟩
abbrev c_9_isTick : ByteArray := prog_11_method_6_code
def tc_9_isTick (pc : Nat) : Option sy_I := match pc with
  | 0 => some (.iload_n 0, 1, 0)
  | 1 => some (.sipush (-1000), 4, 0)
  | 4 => some (.sipush 1000, 7, 0)
  | 7 => some (.invokestatic 69, 10, 0)
  | 10 => some (.ireturn, 11, 0)
  | _ => none
theorem tv_9_isTick : ∀ pc i, sy_lk 11 tc_9_isTick pc = some i → sy_chk c_9_isTick (some .boolean) true pc i = true := sy_lk_ok 11 tc_9_isTick (by decide +kernel)
def Mk_9_isTick (ct : Nat → Option (Bool × Nat × sy_Sp)) : sy_M := (sy_lk 11 tc_9_isTick, ff_9, ki_9, kl_9, ct, true)
def rn_9_isTick (ns : Nat) (ct : Nat → Option (Bool × Nat × sy_Sp)) (R : sy_R) (K : sy_K) : Nat → sy_K := sy_run ns (Mk_9_isTick ct) [] R K
theorem rx_9_isTick_0 {ns n ct R K s k z} : rn_9_isTick ns ct R K (n + 1) 0 [.inl (true, z)] k s = (rn_9_isTick ns ct R K n 1 [.inl (true, z)] (.inl (true, z) :: k) s) := rfl
theorem rx_9_isTick_1 {ns n ct R K s L k} : rn_9_isTick ns ct R K (n + 1) 1 L k s = (rn_9_isTick ns ct R K n 4 L (.inl (true, (-1000)) :: k) s) := rfl
theorem rx_9_isTick_4 {ns n ct R K s L k} : rn_9_isTick ns ct R K (n + 1) 4 L k s = (rn_9_isTick ns ct R K n 7 L (.inl (true, 1000) :: k) s) := rfl
theorem rx_9_isTick_7 {ns n ct R K s L k} : rn_9_isTick ns ct R K (n + 1) 7 L k s = (sy_call true (ct 69) k s fun r t => rn_9_isTick ns ct R K n 10 L r t) := rfl
theorem rx_9_isTick_10 {ns n ct R K s L a z} : rn_9_isTick ns ct R K (n + 1) 10 L [.inl (a, z)] s = (sy_ri a z ∧ sy_b01 true z ∧ R (some (.inl (true, z))) s) := rfl
def y_9_ahead : MethodName := ⟨"StarHideModel", "ahead", "(II)I"⟩
abbrev c_9_ahead : ByteArray := prog_11_method_7_code
def tc_9_ahead (pc : Nat) : Option sy_I := match pc with
  | 0 => some (.aload_n 0, 1, 0)
  | 1 => some (.iload_n 1, 2, 0)
  | 2 => some (.invokevirtual 73, 5, 0)
  | 5 => some (.ifCond .eq 14, 8, 19)
  | 8 => some (.iload_n 2, 9, 0)
  | 9 => some (.bipush (-50), 11, 0)
  | 11 => some (.bipush 50, 13, 0)
  | 13 => some (.invokestatic 69, 16, 0)
  | 16 => some (.ifCond .ne 7, 19, 23)
  | 19 => some (.sipush (-1000), 22, 0)
  | 22 => some (.ireturn, 23, 0)
  | 23 => some (.aload_n 0, 24, 0)
  | 24 => some (.getfield 23, 27, 0)
  | 27 => some (.iload_n 1, 28, 0)
  | 28 => some (.iaload, 29, 0)
  | 29 => some (.istore_n 3, 30, 0)
  | 30 => some (.aload_n 0, 31, 0)
  | 31 => some (.getfield 23, 34, 0)
  | 34 => some (.iload_n 1, 35, 0)
  | 35 => some (.iload_n 2, 36, 0)
  | 36 => some (.iastore, 37, 0)
  | 37 => some (.iload_n 3, 38, 0)
  | 38 => some (.ireturn, 39, 0)
  | _ => none
theorem tv_9_ahead : ∀ pc i, sy_lk 39 tc_9_ahead pc = some i → sy_chk c_9_ahead (some .int) false pc i = true := sy_lk_ok 39 tc_9_ahead (by decide +kernel)
def Mk_9_ahead (ct : Nat → Option (Bool × Nat × sy_Sp)) : sy_M := (sy_lk 39 tc_9_ahead, ff_9, ki_9, kl_9, ct, false)
def rn_9_ahead (ns : Nat) (ct : Nat → Option (Bool × Nat × sy_Sp)) (R : sy_R) (K : sy_K) : Nat → sy_K := sy_run ns (Mk_9_ahead ct) [] R K
theorem rx_9_ahead_0 {ns n ct R K s k z v1 v2 v3} : rn_9_ahead ns ct R K (n + 1) 0 [.inr (.inr (some z)), v1, v2, v3] k s = (rn_9_ahead ns ct R K n 1 [.inr (.inr (some z)), v1, v2, v3] (.inr (.inr (some z)) :: k) s) := rfl
theorem rx_9_ahead_1 {ns n ct R K s k z v0 v2 v3} : rn_9_ahead ns ct R K (n + 1) 1 [v0, .inl (true, z), v2, v3] k s = (rn_9_ahead ns ct R K n 2 [v0, .inl (true, z), v2, v3] (.inl (true, z) :: k) s) := rfl
theorem rx_9_ahead_2 {ns n ct R K s L k} : rn_9_ahead ns ct R K (n + 1) 2 L k s = (sy_call false (ct 73) k s fun r t => rn_9_ahead ns ct R K n 5 L r t) := rfl
theorem rx_9_ahead_5 {ns n ct R K s L k a x} : rn_9_ahead ns ct R K (n + 1) 5 L (.inl (a, x) :: k) s = (sy_ri a x ∧ (x = 0 → rn_9_ahead ns ct R K n 19 L k s) ∧ (¬ x = 0 → rn_9_ahead ns ct R K n 8 L k s)) := rfl
theorem rx_9_ahead_8 {ns n ct R K s k z v0 v1 v3} : rn_9_ahead ns ct R K (n + 1) 8 [v0, v1, .inl (true, z), v3] k s = (rn_9_ahead ns ct R K n 9 [v0, v1, .inl (true, z), v3] (.inl (true, z) :: k) s) := rfl
theorem rx_9_ahead_9 {ns n ct R K s L k} : rn_9_ahead ns ct R K (n + 1) 9 L k s = (rn_9_ahead ns ct R K n 11 L (.inl (true, (-50)) :: k) s) := rfl
theorem rx_9_ahead_11 {ns n ct R K s L k} : rn_9_ahead ns ct R K (n + 1) 11 L k s = (rn_9_ahead ns ct R K n 13 L (.inl (true, 50) :: k) s) := rfl
theorem rx_9_ahead_13 {ns n ct R K s L k} : rn_9_ahead ns ct R K (n + 1) 13 L k s = (sy_call true (ct 69) k s fun r t => rn_9_ahead ns ct R K n 16 L r t) := rfl
theorem rx_9_ahead_16 {ns n ct R K s L k a x} : rn_9_ahead ns ct R K (n + 1) 16 L (.inl (a, x) :: k) s = (sy_ri a x ∧ (¬ x = 0 → rn_9_ahead ns ct R K n 23 L k s) ∧ (x = 0 → rn_9_ahead ns ct R K n 19 L k s)) := rfl
theorem rx_9_ahead_19 {ns n ct R K s L k} : rn_9_ahead ns ct R K (n + 1) 19 L k s = (rn_9_ahead ns ct R K n 22 L (.inl (true, (-1000)) :: k) s) := rfl
theorem rx_9_ahead_22 {ns n ct R K s L a z} : rn_9_ahead ns ct R K (n + 1) 22 L [.inl (a, z)] s = (sy_ri a z ∧ sy_b01 false z ∧ R (some (.inl (true, z))) s) := rfl
theorem rx_9_ahead_23 {ns n ct R K s k z v1 v2 v3} : rn_9_ahead ns ct R K (n + 1) 23 [.inr (.inr (some z)), v1, v2, v3] k s = (rn_9_ahead ns ct R K n 24 [.inr (.inr (some z)), v1, v2, v3] (.inr (.inr (some z)) :: k) s) := rfl
theorem rx_9_ahead_24 {ns n ct R K s L k a} : rn_9_ahead ns ct R K (n + 1) 24 L (.inr (.inr (some (some a))) :: k) s = (sy_ob a = some 9 ∧ rn_9_ahead ns ct R K n 27 L (sy_fv s a 4 :: k) s) := rfl
theorem rx_9_ahead_27 {ns n ct R K s k z v0 v2 v3} : rn_9_ahead ns ct R K (n + 1) 27 [v0, .inl (true, z), v2, v3] k s = (rn_9_ahead ns ct R K n 28 [v0, .inl (true, z), v2, v3] (.inl (true, z) :: k) s) := rfl
theorem rx_9_ahead_28 {ns n ct R K s L k a b z} : rn_9_ahead ns ct R K (n + 1) 28 L (.inl (b, z) :: .inr (.inr (some (some a))) :: k) s = ((0 ≤ z ∧ z < (sy_ar a).2) ∧ sy_ob a = none ∧ (sy_ar a).1 = 0 ∧ rn_9_ahead ns ct R K n 29 L (.inl (true, s a z.toNat) :: k) s) := rfl
theorem rx_9_ahead_29 {ns n ct R K s L k b z} : rn_9_ahead ns ct R K (n + 1) 29 L (.inl (b, z) :: k) s = (sy_ri b z ∧ 3 < L.length ∧ rn_9_ahead ns ct R K n 30 (sy_sto L 3 (.inl (true, z))) k s) := rfl
theorem rx_9_ahead_30 {ns n ct R K s k z v1 v2 v3} : rn_9_ahead ns ct R K (n + 1) 30 [.inr (.inr (some z)), v1, v2, v3] k s = (rn_9_ahead ns ct R K n 31 [.inr (.inr (some z)), v1, v2, v3] (.inr (.inr (some z)) :: k) s) := rfl
theorem rx_9_ahead_31 {ns n ct R K s L k a} : rn_9_ahead ns ct R K (n + 1) 31 L (.inr (.inr (some (some a))) :: k) s = (sy_ob a = some 9 ∧ rn_9_ahead ns ct R K n 34 L (sy_fv s a 4 :: k) s) := rfl
theorem rx_9_ahead_34 {ns n ct R K s k z v0 v2 v3} : rn_9_ahead ns ct R K (n + 1) 34 [v0, .inl (true, z), v2, v3] k s = (rn_9_ahead ns ct R K n 35 [v0, .inl (true, z), v2, v3] (.inl (true, z) :: k) s) := rfl
theorem rx_9_ahead_35 {ns n ct R K s k z v0 v1 v3} : rn_9_ahead ns ct R K (n + 1) 35 [v0, v1, .inl (true, z), v3] k s = (rn_9_ahead ns ct R K n 36 [v0, v1, .inl (true, z), v3] (.inl (true, z) :: k) s) := rfl
theorem rx_9_ahead_36 {ns n ct R K s L k a b c z y} : rn_9_ahead ns ct R K (n + 1) 36 L (.inl (c, y) :: .inl (b, z) :: .inr (.inr (some (some a))) :: k) s = (sy_ri c y ∧ (0 ≤ z ∧ z < (sy_ar a).2) ∧ sy_ob a = none ∧ (sy_ar a).1 = 0 ∧ rn_9_ahead ns ct R K n 37 L k (sy_up s a z.toNat y)) := rfl
theorem rx_9_ahead_37 {ns n ct R K s k z v0 v1 v2} : rn_9_ahead ns ct R K (n + 1) 37 [v0, v1, v2, .inl (true, z)] k s = (rn_9_ahead ns ct R K n 38 [v0, v1, v2, .inl (true, z)] (.inl (true, z) :: k) s) := rfl
theorem rx_9_ahead_38 {ns n ct R K s L a z} : rn_9_ahead ns ct R K (n + 1) 38 L [.inl (a, z)] s = (sy_ri a z ∧ sy_b01 false z ∧ R (some (.inl (true, z))) s) := rfl
def y_9_told : MethodName := ⟨"StarHideModel", "told", "(IIIIII)V"⟩
abbrev c_9_told : ByteArray := prog_11_method_8_code
def tc_9_told (pc : Nat) : Option sy_I := match pc with
  | 0 => some (.aload_n 0, 1, 0)
  | 1 => some (.getfield 26, 4, 0)
  | 4 => some (.iload_n 1, 5, 0)
  | 5 => some (.iload_n 2, 6, 0)
  | 6 => some (.iastore, 7, 0)
  | 7 => some (.aload_n 0, 8, 0)
  | 8 => some (.getfield 29, 11, 0)
  | 11 => some (.iconst 4, 12, 0)
  | 12 => some (.iload_n 1, 13, 0)
  | 13 => some (.imul, 14, 0)
  | 14 => some (.iload_n 3, 15, 0)
  | 15 => some (.iastore, 16, 0)
  | 16 => some (.aload_n 0, 17, 0)
  | 17 => some (.getfield 29, 20, 0)
  | 20 => some (.iconst 4, 21, 0)
  | 21 => some (.iload_n 1, 22, 0)
  | 22 => some (.imul, 23, 0)
  | 23 => some (.iconst 1, 24, 0)
  | 24 => some (.iadd, 25, 0)
  | 25 => some (.iload 4, 27, 0)
  | 27 => some (.iastore, 28, 0)
  | 28 => some (.aload_n 0, 29, 0)
  | 29 => some (.getfield 29, 32, 0)
  | 32 => some (.iconst 4, 33, 0)
  | 33 => some (.iload_n 1, 34, 0)
  | 34 => some (.imul, 35, 0)
  | 35 => some (.iconst 2, 36, 0)
  | 36 => some (.iadd, 37, 0)
  | 37 => some (.iload 5, 39, 0)
  | 39 => some (.iastore, 40, 0)
  | 40 => some (.aload_n 0, 41, 0)
  | 41 => some (.getfield 29, 44, 0)
  | 44 => some (.iconst 4, 45, 0)
  | 45 => some (.iload_n 1, 46, 0)
  | 46 => some (.imul, 47, 0)
  | 47 => some (.iconst 3, 48, 0)
  | 48 => some (.iadd, 49, 0)
  | 49 => some (.iload 6, 51, 0)
  | 51 => some (.iastore, 52, 0)
  | 52 => some (.return_, 53, 0)
  | _ => none
theorem tv_9_told : ∀ pc i, sy_lk 53 tc_9_told pc = some i → sy_chk c_9_told none false pc i = true := sy_lk_ok 53 tc_9_told (by decide +kernel)
def Mk_9_told (ct : Nat → Option (Bool × Nat × sy_Sp)) : sy_M := (sy_lk 53 tc_9_told, ff_9, ki_9, kl_9, ct, false)
def rn_9_told (ns : Nat) (ct : Nat → Option (Bool × Nat × sy_Sp)) (R : sy_R) (K : sy_K) : Nat → sy_K := sy_run ns (Mk_9_told ct) [] R K
theorem rx_9_told_0 {ns n ct R K s k z v1 v2 v3 v4 v5 v6} : rn_9_told ns ct R K (n + 1) 0 [.inr (.inr (some z)), v1, v2, v3, v4, v5, v6] k s = (rn_9_told ns ct R K n 1 [.inr (.inr (some z)), v1, v2, v3, v4, v5, v6] (.inr (.inr (some z)) :: k) s) := rfl
theorem rx_9_told_1 {ns n ct R K s L k a} : rn_9_told ns ct R K (n + 1) 1 L (.inr (.inr (some (some a))) :: k) s = (sy_ob a = some 9 ∧ rn_9_told ns ct R K n 4 L (sy_fv s a 5 :: k) s) := rfl
theorem rx_9_told_4 {ns n ct R K s k z v0 v2 v3 v4 v5 v6} : rn_9_told ns ct R K (n + 1) 4 [v0, .inl (true, z), v2, v3, v4, v5, v6] k s = (rn_9_told ns ct R K n 5 [v0, .inl (true, z), v2, v3, v4, v5, v6] (.inl (true, z) :: k) s) := rfl
theorem rx_9_told_5 {ns n ct R K s k z v0 v1 v3 v4 v5 v6} : rn_9_told ns ct R K (n + 1) 5 [v0, v1, .inl (true, z), v3, v4, v5, v6] k s = (rn_9_told ns ct R K n 6 [v0, v1, .inl (true, z), v3, v4, v5, v6] (.inl (true, z) :: k) s) := rfl
theorem rx_9_told_6 {ns n ct R K s L k a b c z y} : rn_9_told ns ct R K (n + 1) 6 L (.inl (c, y) :: .inl (b, z) :: .inr (.inr (some (some a))) :: k) s = (sy_ri c y ∧ (0 ≤ z ∧ z < (sy_ar a).2) ∧ sy_ob a = none ∧ (sy_ar a).1 = 0 ∧ rn_9_told ns ct R K n 7 L k (sy_up s a z.toNat y)) := rfl
theorem rx_9_told_7 {ns n ct R K s k z v1 v2 v3 v4 v5 v6} : rn_9_told ns ct R K (n + 1) 7 [.inr (.inr (some z)), v1, v2, v3, v4, v5, v6] k s = (rn_9_told ns ct R K n 8 [.inr (.inr (some z)), v1, v2, v3, v4, v5, v6] (.inr (.inr (some z)) :: k) s) := rfl
theorem rx_9_told_8 {ns n ct R K s L k a} : rn_9_told ns ct R K (n + 1) 8 L (.inr (.inr (some (some a))) :: k) s = (sy_ob a = some 9 ∧ rn_9_told ns ct R K n 11 L (sy_fv s a 6 :: k) s) := rfl
theorem rx_9_told_11 {ns n ct R K s L k} : rn_9_told ns ct R K (n + 1) 11 L k s = (rn_9_told ns ct R K n 12 L (.inl (true, 4) :: k) s) := rfl
theorem rx_9_told_12 {ns n ct R K s k z v0 v2 v3 v4 v5 v6} : rn_9_told ns ct R K (n + 1) 12 [v0, .inl (true, z), v2, v3, v4, v5, v6] k s = (rn_9_told ns ct R K n 13 [v0, .inl (true, z), v2, v3, v4, v5, v6] (.inl (true, z) :: k) s) := rfl
theorem rx_9_told_13 {ns n ct R K s L k a b x y} : rn_9_told ns ct R K (n + 1) 13 L (.inl (b, y) :: .inl (a, x) :: k) s = (rn_9_told ns ct R K n 14 L (.inl (false, x * y) :: k) s) := rfl
theorem rx_9_told_14 {ns n ct R K s k z v0 v1 v2 v4 v5 v6} : rn_9_told ns ct R K (n + 1) 14 [v0, v1, v2, .inl (true, z), v4, v5, v6] k s = (rn_9_told ns ct R K n 15 [v0, v1, v2, .inl (true, z), v4, v5, v6] (.inl (true, z) :: k) s) := rfl
theorem rx_9_told_15 {ns n ct R K s L k a b c z y} : rn_9_told ns ct R K (n + 1) 15 L (.inl (c, y) :: .inl (b, z) :: .inr (.inr (some (some a))) :: k) s = (sy_ri c y ∧ (0 ≤ z ∧ z < (sy_ar a).2) ∧ sy_ob a = none ∧ (sy_ar a).1 = 0 ∧ rn_9_told ns ct R K n 16 L k (sy_up s a z.toNat y)) := rfl
theorem rx_9_told_16 {ns n ct R K s k z v1 v2 v3 v4 v5 v6} : rn_9_told ns ct R K (n + 1) 16 [.inr (.inr (some z)), v1, v2, v3, v4, v5, v6] k s = (rn_9_told ns ct R K n 17 [.inr (.inr (some z)), v1, v2, v3, v4, v5, v6] (.inr (.inr (some z)) :: k) s) := rfl
theorem rx_9_told_17 {ns n ct R K s L k a} : rn_9_told ns ct R K (n + 1) 17 L (.inr (.inr (some (some a))) :: k) s = (sy_ob a = some 9 ∧ rn_9_told ns ct R K n 20 L (sy_fv s a 6 :: k) s) := rfl
theorem rx_9_told_20 {ns n ct R K s L k} : rn_9_told ns ct R K (n + 1) 20 L k s = (rn_9_told ns ct R K n 21 L (.inl (true, 4) :: k) s) := rfl
theorem rx_9_told_21 {ns n ct R K s k z v0 v2 v3 v4 v5 v6} : rn_9_told ns ct R K (n + 1) 21 [v0, .inl (true, z), v2, v3, v4, v5, v6] k s = (rn_9_told ns ct R K n 22 [v0, .inl (true, z), v2, v3, v4, v5, v6] (.inl (true, z) :: k) s) := rfl
theorem rx_9_told_22 {ns n ct R K s L k a b x y} : rn_9_told ns ct R K (n + 1) 22 L (.inl (b, y) :: .inl (a, x) :: k) s = (rn_9_told ns ct R K n 23 L (.inl (false, x * y) :: k) s) := rfl
theorem rx_9_told_23 {ns n ct R K s L k} : rn_9_told ns ct R K (n + 1) 23 L k s = (rn_9_told ns ct R K n 24 L (.inl (true, 1) :: k) s) := rfl
theorem rx_9_told_24 {ns n ct R K s L k a b x y} : rn_9_told ns ct R K (n + 1) 24 L (.inl (b, y) :: .inl (a, x) :: k) s = (rn_9_told ns ct R K n 25 L (.inl (false, x + y) :: k) s) := rfl
theorem rx_9_told_25 {ns n ct R K s k z v0 v1 v2 v3 v5 v6} : rn_9_told ns ct R K (n + 1) 25 [v0, v1, v2, v3, .inl (true, z), v5, v6] k s = (rn_9_told ns ct R K n 27 [v0, v1, v2, v3, .inl (true, z), v5, v6] (.inl (true, z) :: k) s) := rfl
theorem rx_9_told_27 {ns n ct R K s L k a b c z y} : rn_9_told ns ct R K (n + 1) 27 L (.inl (c, y) :: .inl (b, z) :: .inr (.inr (some (some a))) :: k) s = (sy_ri c y ∧ (0 ≤ z ∧ z < (sy_ar a).2) ∧ sy_ob a = none ∧ (sy_ar a).1 = 0 ∧ rn_9_told ns ct R K n 28 L k (sy_up s a z.toNat y)) := rfl
theorem rx_9_told_28 {ns n ct R K s k z v1 v2 v3 v4 v5 v6} : rn_9_told ns ct R K (n + 1) 28 [.inr (.inr (some z)), v1, v2, v3, v4, v5, v6] k s = (rn_9_told ns ct R K n 29 [.inr (.inr (some z)), v1, v2, v3, v4, v5, v6] (.inr (.inr (some z)) :: k) s) := rfl
theorem rx_9_told_29 {ns n ct R K s L k a} : rn_9_told ns ct R K (n + 1) 29 L (.inr (.inr (some (some a))) :: k) s = (sy_ob a = some 9 ∧ rn_9_told ns ct R K n 32 L (sy_fv s a 6 :: k) s) := rfl
theorem rx_9_told_32 {ns n ct R K s L k} : rn_9_told ns ct R K (n + 1) 32 L k s = (rn_9_told ns ct R K n 33 L (.inl (true, 4) :: k) s) := rfl
theorem rx_9_told_33 {ns n ct R K s k z v0 v2 v3 v4 v5 v6} : rn_9_told ns ct R K (n + 1) 33 [v0, .inl (true, z), v2, v3, v4, v5, v6] k s = (rn_9_told ns ct R K n 34 [v0, .inl (true, z), v2, v3, v4, v5, v6] (.inl (true, z) :: k) s) := rfl
theorem rx_9_told_34 {ns n ct R K s L k a b x y} : rn_9_told ns ct R K (n + 1) 34 L (.inl (b, y) :: .inl (a, x) :: k) s = (rn_9_told ns ct R K n 35 L (.inl (false, x * y) :: k) s) := rfl
theorem rx_9_told_35 {ns n ct R K s L k} : rn_9_told ns ct R K (n + 1) 35 L k s = (rn_9_told ns ct R K n 36 L (.inl (true, 2) :: k) s) := rfl
theorem rx_9_told_36 {ns n ct R K s L k a b x y} : rn_9_told ns ct R K (n + 1) 36 L (.inl (b, y) :: .inl (a, x) :: k) s = (rn_9_told ns ct R K n 37 L (.inl (false, x + y) :: k) s) := rfl
theorem rx_9_told_37 {ns n ct R K s k z v0 v1 v2 v3 v4 v6} : rn_9_told ns ct R K (n + 1) 37 [v0, v1, v2, v3, v4, .inl (true, z), v6] k s = (rn_9_told ns ct R K n 39 [v0, v1, v2, v3, v4, .inl (true, z), v6] (.inl (true, z) :: k) s) := rfl
theorem rx_9_told_39 {ns n ct R K s L k a b c z y} : rn_9_told ns ct R K (n + 1) 39 L (.inl (c, y) :: .inl (b, z) :: .inr (.inr (some (some a))) :: k) s = (sy_ri c y ∧ (0 ≤ z ∧ z < (sy_ar a).2) ∧ sy_ob a = none ∧ (sy_ar a).1 = 0 ∧ rn_9_told ns ct R K n 40 L k (sy_up s a z.toNat y)) := rfl
theorem rx_9_told_40 {ns n ct R K s k z v1 v2 v3 v4 v5 v6} : rn_9_told ns ct R K (n + 1) 40 [.inr (.inr (some z)), v1, v2, v3, v4, v5, v6] k s = (rn_9_told ns ct R K n 41 [.inr (.inr (some z)), v1, v2, v3, v4, v5, v6] (.inr (.inr (some z)) :: k) s) := rfl
theorem rx_9_told_41 {ns n ct R K s L k a} : rn_9_told ns ct R K (n + 1) 41 L (.inr (.inr (some (some a))) :: k) s = (sy_ob a = some 9 ∧ rn_9_told ns ct R K n 44 L (sy_fv s a 6 :: k) s) := rfl
theorem rx_9_told_44 {ns n ct R K s L k} : rn_9_told ns ct R K (n + 1) 44 L k s = (rn_9_told ns ct R K n 45 L (.inl (true, 4) :: k) s) := rfl
theorem rx_9_told_45 {ns n ct R K s k z v0 v2 v3 v4 v5 v6} : rn_9_told ns ct R K (n + 1) 45 [v0, .inl (true, z), v2, v3, v4, v5, v6] k s = (rn_9_told ns ct R K n 46 [v0, .inl (true, z), v2, v3, v4, v5, v6] (.inl (true, z) :: k) s) := rfl
theorem rx_9_told_46 {ns n ct R K s L k a b x y} : rn_9_told ns ct R K (n + 1) 46 L (.inl (b, y) :: .inl (a, x) :: k) s = (rn_9_told ns ct R K n 47 L (.inl (false, x * y) :: k) s) := rfl
theorem rx_9_told_47 {ns n ct R K s L k} : rn_9_told ns ct R K (n + 1) 47 L k s = (rn_9_told ns ct R K n 48 L (.inl (true, 3) :: k) s) := rfl
theorem rx_9_told_48 {ns n ct R K s L k a b x y} : rn_9_told ns ct R K (n + 1) 48 L (.inl (b, y) :: .inl (a, x) :: k) s = (rn_9_told ns ct R K n 49 L (.inl (false, x + y) :: k) s) := rfl
theorem rx_9_told_49 {ns n ct R K s k z v0 v1 v2 v3 v4 v5} : rn_9_told ns ct R K (n + 1) 49 [v0, v1, v2, v3, v4, v5, .inl (true, z)] k s = (rn_9_told ns ct R K n 51 [v0, v1, v2, v3, v4, v5, .inl (true, z)] (.inl (true, z) :: k) s) := rfl
theorem rx_9_told_51 {ns n ct R K s L k a b c z y} : rn_9_told ns ct R K (n + 1) 51 L (.inl (c, y) :: .inl (b, z) :: .inr (.inr (some (some a))) :: k) s = (sy_ri c y ∧ (0 ≤ z ∧ z < (sy_ar a).2) ∧ sy_ob a = none ∧ (sy_ar a).1 = 0 ∧ rn_9_told ns ct R K n 52 L k (sy_up s a z.toNat y)) := rfl
theorem rx_9_told_52 {ns n ct R K s L} : rn_9_told ns ct R K (n + 1) 52 L [] s = (R none s) := rfl
def y_9_chord : MethodName := ⟨"StarHideModel", "chord", "(IIIII)Z"⟩
abbrev c_9_chord : ByteArray := prog_11_method_9_code
def tc_9_chord (pc : Nat) : Option sy_I := match pc with
  | 0 => some (.aload_n 0, 1, 0)
  | 1 => some (.iload_n 1, 2, 0)
  | 2 => some (.invokevirtual 73, 5, 0)
  | 5 => some (.ifCond .eq 36, 8, 41)
  | 8 => some (.iload_n 2, 9, 0)
  | 9 => some (.invokestatic 77, 12, 0)
  | 12 => some (.ifCond .eq 29, 15, 41)
  | 15 => some (.iload 5, 17, 0)
  | 17 => some (.invokestatic 77, 20, 0)
  | 20 => some (.ifCond .eq 21, 23, 41)
  | 23 => some (.iload_n 2, 24, 0)
  | 24 => some (.iload_n 3, 25, 0)
  | 25 => some (.if_icmp .gt 16, 28, 41)
  | 28 => some (.iload_n 3, 29, 0)
  | 29 => some (.iload 4, 31, 0)
  | 31 => some (.if_icmp .gt 10, 34, 41)
  | 34 => some (.iload 4, 36, 0)
  | 36 => some (.iload 5, 38, 0)
  | 38 => some (.if_icmp .le 5, 41, 43)
  | 41 => some (.iconst 0, 42, 0)
  | 42 => some (.ireturn, 43, 0)
  | 43 => some (.aload_n 0, 44, 0)
  | 44 => some (.iload_n 1, 45, 0)
  | 45 => some (.iconst 1, 46, 0)
  | 46 => some (.iload_n 2, 47, 0)
  | 47 => some (.iload_n 3, 48, 0)
  | 48 => some (.iload 4, 50, 0)
  | 50 => some (.iload 5, 52, 0)
  | 52 => some (.invokevirtual 80, 55, 0)
  | 55 => some (.iconst 1, 56, 0)
  | 56 => some (.ireturn, 57, 0)
  | _ => none
theorem tv_9_chord : ∀ pc i, sy_lk 57 tc_9_chord pc = some i → sy_chk c_9_chord (some .boolean) true pc i = true := sy_lk_ok 57 tc_9_chord (by decide +kernel)
def Mk_9_chord (ct : Nat → Option (Bool × Nat × sy_Sp)) : sy_M := (sy_lk 57 tc_9_chord, ff_9, ki_9, kl_9, ct, true)
def rn_9_chord (ns : Nat) (ct : Nat → Option (Bool × Nat × sy_Sp)) (R : sy_R) (K : sy_K) : Nat → sy_K := sy_run ns (Mk_9_chord ct) [] R K
theorem rx_9_chord_0 {ns n ct R K s k z v1 v2 v3 v4 v5} : rn_9_chord ns ct R K (n + 1) 0 [.inr (.inr (some z)), v1, v2, v3, v4, v5] k s = (rn_9_chord ns ct R K n 1 [.inr (.inr (some z)), v1, v2, v3, v4, v5] (.inr (.inr (some z)) :: k) s) := rfl
theorem rx_9_chord_1 {ns n ct R K s k z v0 v2 v3 v4 v5} : rn_9_chord ns ct R K (n + 1) 1 [v0, .inl (true, z), v2, v3, v4, v5] k s = (rn_9_chord ns ct R K n 2 [v0, .inl (true, z), v2, v3, v4, v5] (.inl (true, z) :: k) s) := rfl
theorem rx_9_chord_2 {ns n ct R K s L k} : rn_9_chord ns ct R K (n + 1) 2 L k s = (sy_call false (ct 73) k s fun r t => rn_9_chord ns ct R K n 5 L r t) := rfl
theorem rx_9_chord_5 {ns n ct R K s L k a x} : rn_9_chord ns ct R K (n + 1) 5 L (.inl (a, x) :: k) s = (sy_ri a x ∧ (x = 0 → rn_9_chord ns ct R K n 41 L k s) ∧ (¬ x = 0 → rn_9_chord ns ct R K n 8 L k s)) := rfl
theorem rx_9_chord_8 {ns n ct R K s k z v0 v1 v3 v4 v5} : rn_9_chord ns ct R K (n + 1) 8 [v0, v1, .inl (true, z), v3, v4, v5] k s = (rn_9_chord ns ct R K n 9 [v0, v1, .inl (true, z), v3, v4, v5] (.inl (true, z) :: k) s) := rfl
theorem rx_9_chord_9 {ns n ct R K s L k} : rn_9_chord ns ct R K (n + 1) 9 L k s = (sy_call true (ct 77) k s fun r t => rn_9_chord ns ct R K n 12 L r t) := rfl
theorem rx_9_chord_12 {ns n ct R K s L k a x} : rn_9_chord ns ct R K (n + 1) 12 L (.inl (a, x) :: k) s = (sy_ri a x ∧ (x = 0 → rn_9_chord ns ct R K n 41 L k s) ∧ (¬ x = 0 → rn_9_chord ns ct R K n 15 L k s)) := rfl
theorem rx_9_chord_15 {ns n ct R K s k z v0 v1 v2 v3 v4} : rn_9_chord ns ct R K (n + 1) 15 [v0, v1, v2, v3, v4, .inl (true, z)] k s = (rn_9_chord ns ct R K n 17 [v0, v1, v2, v3, v4, .inl (true, z)] (.inl (true, z) :: k) s) := rfl
theorem rx_9_chord_17 {ns n ct R K s L k} : rn_9_chord ns ct R K (n + 1) 17 L k s = (sy_call true (ct 77) k s fun r t => rn_9_chord ns ct R K n 20 L r t) := rfl
theorem rx_9_chord_20 {ns n ct R K s L k a x} : rn_9_chord ns ct R K (n + 1) 20 L (.inl (a, x) :: k) s = (sy_ri a x ∧ (x = 0 → rn_9_chord ns ct R K n 41 L k s) ∧ (¬ x = 0 → rn_9_chord ns ct R K n 23 L k s)) := rfl
theorem rx_9_chord_23 {ns n ct R K s k z v0 v1 v3 v4 v5} : rn_9_chord ns ct R K (n + 1) 23 [v0, v1, .inl (true, z), v3, v4, v5] k s = (rn_9_chord ns ct R K n 24 [v0, v1, .inl (true, z), v3, v4, v5] (.inl (true, z) :: k) s) := rfl
theorem rx_9_chord_24 {ns n ct R K s k z v0 v1 v2 v4 v5} : rn_9_chord ns ct R K (n + 1) 24 [v0, v1, v2, .inl (true, z), v4, v5] k s = (rn_9_chord ns ct R K n 25 [v0, v1, v2, .inl (true, z), v4, v5] (.inl (true, z) :: k) s) := rfl
theorem rx_9_chord_25 {ns n ct R K s L k a b x y} : rn_9_chord ns ct R K (n + 1) 25 L (.inl (b, y) :: .inl (a, x) :: k) s = (sy_ri a x ∧ sy_ri b y ∧ (y < x → rn_9_chord ns ct R K n 41 L k s) ∧ (¬ y < x → rn_9_chord ns ct R K n 28 L k s)) := rfl
theorem rx_9_chord_28 {ns n ct R K s k z v0 v1 v2 v4 v5} : rn_9_chord ns ct R K (n + 1) 28 [v0, v1, v2, .inl (true, z), v4, v5] k s = (rn_9_chord ns ct R K n 29 [v0, v1, v2, .inl (true, z), v4, v5] (.inl (true, z) :: k) s) := rfl
theorem rx_9_chord_29 {ns n ct R K s k z v0 v1 v2 v3 v5} : rn_9_chord ns ct R K (n + 1) 29 [v0, v1, v2, v3, .inl (true, z), v5] k s = (rn_9_chord ns ct R K n 31 [v0, v1, v2, v3, .inl (true, z), v5] (.inl (true, z) :: k) s) := rfl
theorem rx_9_chord_31 {ns n ct R K s L k a b x y} : rn_9_chord ns ct R K (n + 1) 31 L (.inl (b, y) :: .inl (a, x) :: k) s = (sy_ri a x ∧ sy_ri b y ∧ (y < x → rn_9_chord ns ct R K n 41 L k s) ∧ (¬ y < x → rn_9_chord ns ct R K n 34 L k s)) := rfl
theorem rx_9_chord_34 {ns n ct R K s k z v0 v1 v2 v3 v5} : rn_9_chord ns ct R K (n + 1) 34 [v0, v1, v2, v3, .inl (true, z), v5] k s = (rn_9_chord ns ct R K n 36 [v0, v1, v2, v3, .inl (true, z), v5] (.inl (true, z) :: k) s) := rfl
theorem rx_9_chord_36 {ns n ct R K s k z v0 v1 v2 v3 v4} : rn_9_chord ns ct R K (n + 1) 36 [v0, v1, v2, v3, v4, .inl (true, z)] k s = (rn_9_chord ns ct R K n 38 [v0, v1, v2, v3, v4, .inl (true, z)] (.inl (true, z) :: k) s) := rfl
theorem rx_9_chord_38 {ns n ct R K s L k a b x y} : rn_9_chord ns ct R K (n + 1) 38 L (.inl (b, y) :: .inl (a, x) :: k) s = (sy_ri a x ∧ sy_ri b y ∧ (x ≤ y → rn_9_chord ns ct R K n 43 L k s) ∧ (¬ x ≤ y → rn_9_chord ns ct R K n 41 L k s)) := rfl
theorem rx_9_chord_41 {ns n ct R K s L k} : rn_9_chord ns ct R K (n + 1) 41 L k s = (rn_9_chord ns ct R K n 42 L (.inl (true, 0) :: k) s) := rfl
theorem rx_9_chord_42 {ns n ct R K s L a z} : rn_9_chord ns ct R K (n + 1) 42 L [.inl (a, z)] s = (sy_ri a z ∧ sy_b01 true z ∧ R (some (.inl (true, z))) s) := rfl
theorem rx_9_chord_43 {ns n ct R K s k z v1 v2 v3 v4 v5} : rn_9_chord ns ct R K (n + 1) 43 [.inr (.inr (some z)), v1, v2, v3, v4, v5] k s = (rn_9_chord ns ct R K n 44 [.inr (.inr (some z)), v1, v2, v3, v4, v5] (.inr (.inr (some z)) :: k) s) := rfl
theorem rx_9_chord_44 {ns n ct R K s k z v0 v2 v3 v4 v5} : rn_9_chord ns ct R K (n + 1) 44 [v0, .inl (true, z), v2, v3, v4, v5] k s = (rn_9_chord ns ct R K n 45 [v0, .inl (true, z), v2, v3, v4, v5] (.inl (true, z) :: k) s) := rfl
theorem rx_9_chord_45 {ns n ct R K s L k} : rn_9_chord ns ct R K (n + 1) 45 L k s = (rn_9_chord ns ct R K n 46 L (.inl (true, 1) :: k) s) := rfl
theorem rx_9_chord_46 {ns n ct R K s k z v0 v1 v3 v4 v5} : rn_9_chord ns ct R K (n + 1) 46 [v0, v1, .inl (true, z), v3, v4, v5] k s = (rn_9_chord ns ct R K n 47 [v0, v1, .inl (true, z), v3, v4, v5] (.inl (true, z) :: k) s) := rfl
theorem rx_9_chord_47 {ns n ct R K s k z v0 v1 v2 v4 v5} : rn_9_chord ns ct R K (n + 1) 47 [v0, v1, v2, .inl (true, z), v4, v5] k s = (rn_9_chord ns ct R K n 48 [v0, v1, v2, .inl (true, z), v4, v5] (.inl (true, z) :: k) s) := rfl
theorem rx_9_chord_48 {ns n ct R K s k z v0 v1 v2 v3 v5} : rn_9_chord ns ct R K (n + 1) 48 [v0, v1, v2, v3, .inl (true, z), v5] k s = (rn_9_chord ns ct R K n 50 [v0, v1, v2, v3, .inl (true, z), v5] (.inl (true, z) :: k) s) := rfl
theorem rx_9_chord_50 {ns n ct R K s k z v0 v1 v2 v3 v4} : rn_9_chord ns ct R K (n + 1) 50 [v0, v1, v2, v3, v4, .inl (true, z)] k s = (rn_9_chord ns ct R K n 52 [v0, v1, v2, v3, v4, .inl (true, z)] (.inl (true, z) :: k) s) := rfl
theorem rx_9_chord_52 {ns n ct R K s L k} : rn_9_chord ns ct R K (n + 1) 52 L k s = (sy_call false (ct 80) k s fun r t => rn_9_chord ns ct R K n 55 L r t) := rfl
theorem rx_9_chord_55 {ns n ct R K s L k} : rn_9_chord ns ct R K (n + 1) 55 L k s = (rn_9_chord ns ct R K n 56 L (.inl (true, 1) :: k) s) := rfl
theorem rx_9_chord_56 {ns n ct R K s L a z} : rn_9_chord ns ct R K (n + 1) 56 L [.inl (a, z)] s = (sy_ri a z ∧ sy_b01 true z ∧ R (some (.inl (true, z))) s) := rfl
def y_9_miss : MethodName := ⟨"StarHideModel", "miss", "(III)Z"⟩
abbrev c_9_miss : ByteArray := prog_11_method_10_code
def tc_9_miss (pc : Nat) : Option sy_I := match pc with
  | 0 => some (.aload_n 0, 1, 0)
  | 1 => some (.iload_n 1, 2, 0)
  | 2 => some (.invokevirtual 73, 5, 0)
  | 5 => some (.ifCond .eq 22, 8, 27)
  | 8 => some (.iload_n 2, 9, 0)
  | 9 => some (.invokestatic 77, 12, 0)
  | 12 => some (.ifCond .eq 15, 15, 27)
  | 15 => some (.iload_n 3, 16, 0)
  | 16 => some (.invokestatic 77, 19, 0)
  | 19 => some (.ifCond .eq 8, 22, 27)
  | 22 => some (.iload_n 2, 23, 0)
  | 23 => some (.iload_n 3, 24, 0)
  | 24 => some (.if_icmp .le 5, 27, 29)
  | 27 => some (.iconst 0, 28, 0)
  | 28 => some (.ireturn, 29, 0)
  | 29 => some (.aload_n 0, 30, 0)
  | 30 => some (.iload_n 1, 31, 0)
  | 31 => some (.iconst 2, 32, 0)
  | 32 => some (.iload_n 2, 33, 0)
  | 33 => some (.iload_n 3, 34, 0)
  | 34 => some (.iconst 0, 35, 0)
  | 35 => some (.iconst 0, 36, 0)
  | 36 => some (.invokevirtual 80, 39, 0)
  | 39 => some (.iconst 1, 40, 0)
  | 40 => some (.ireturn, 41, 0)
  | _ => none
theorem tv_9_miss : ∀ pc i, sy_lk 41 tc_9_miss pc = some i → sy_chk c_9_miss (some .boolean) true pc i = true := sy_lk_ok 41 tc_9_miss (by decide +kernel)
def Mk_9_miss (ct : Nat → Option (Bool × Nat × sy_Sp)) : sy_M := (sy_lk 41 tc_9_miss, ff_9, ki_9, kl_9, ct, true)
def rn_9_miss (ns : Nat) (ct : Nat → Option (Bool × Nat × sy_Sp)) (R : sy_R) (K : sy_K) : Nat → sy_K := sy_run ns (Mk_9_miss ct) [] R K
theorem rx_9_miss_0 {ns n ct R K s k z v1 v2 v3} : rn_9_miss ns ct R K (n + 1) 0 [.inr (.inr (some z)), v1, v2, v3] k s = (rn_9_miss ns ct R K n 1 [.inr (.inr (some z)), v1, v2, v3] (.inr (.inr (some z)) :: k) s) := rfl
theorem rx_9_miss_1 {ns n ct R K s k z v0 v2 v3} : rn_9_miss ns ct R K (n + 1) 1 [v0, .inl (true, z), v2, v3] k s = (rn_9_miss ns ct R K n 2 [v0, .inl (true, z), v2, v3] (.inl (true, z) :: k) s) := rfl
theorem rx_9_miss_2 {ns n ct R K s L k} : rn_9_miss ns ct R K (n + 1) 2 L k s = (sy_call false (ct 73) k s fun r t => rn_9_miss ns ct R K n 5 L r t) := rfl
theorem rx_9_miss_5 {ns n ct R K s L k a x} : rn_9_miss ns ct R K (n + 1) 5 L (.inl (a, x) :: k) s = (sy_ri a x ∧ (x = 0 → rn_9_miss ns ct R K n 27 L k s) ∧ (¬ x = 0 → rn_9_miss ns ct R K n 8 L k s)) := rfl
theorem rx_9_miss_8 {ns n ct R K s k z v0 v1 v3} : rn_9_miss ns ct R K (n + 1) 8 [v0, v1, .inl (true, z), v3] k s = (rn_9_miss ns ct R K n 9 [v0, v1, .inl (true, z), v3] (.inl (true, z) :: k) s) := rfl
theorem rx_9_miss_9 {ns n ct R K s L k} : rn_9_miss ns ct R K (n + 1) 9 L k s = (sy_call true (ct 77) k s fun r t => rn_9_miss ns ct R K n 12 L r t) := rfl
theorem rx_9_miss_12 {ns n ct R K s L k a x} : rn_9_miss ns ct R K (n + 1) 12 L (.inl (a, x) :: k) s = (sy_ri a x ∧ (x = 0 → rn_9_miss ns ct R K n 27 L k s) ∧ (¬ x = 0 → rn_9_miss ns ct R K n 15 L k s)) := rfl
theorem rx_9_miss_15 {ns n ct R K s k z v0 v1 v2} : rn_9_miss ns ct R K (n + 1) 15 [v0, v1, v2, .inl (true, z)] k s = (rn_9_miss ns ct R K n 16 [v0, v1, v2, .inl (true, z)] (.inl (true, z) :: k) s) := rfl
theorem rx_9_miss_16 {ns n ct R K s L k} : rn_9_miss ns ct R K (n + 1) 16 L k s = (sy_call true (ct 77) k s fun r t => rn_9_miss ns ct R K n 19 L r t) := rfl
theorem rx_9_miss_19 {ns n ct R K s L k a x} : rn_9_miss ns ct R K (n + 1) 19 L (.inl (a, x) :: k) s = (sy_ri a x ∧ (x = 0 → rn_9_miss ns ct R K n 27 L k s) ∧ (¬ x = 0 → rn_9_miss ns ct R K n 22 L k s)) := rfl
theorem rx_9_miss_22 {ns n ct R K s k z v0 v1 v3} : rn_9_miss ns ct R K (n + 1) 22 [v0, v1, .inl (true, z), v3] k s = (rn_9_miss ns ct R K n 23 [v0, v1, .inl (true, z), v3] (.inl (true, z) :: k) s) := rfl
theorem rx_9_miss_23 {ns n ct R K s k z v0 v1 v2} : rn_9_miss ns ct R K (n + 1) 23 [v0, v1, v2, .inl (true, z)] k s = (rn_9_miss ns ct R K n 24 [v0, v1, v2, .inl (true, z)] (.inl (true, z) :: k) s) := rfl
theorem rx_9_miss_24 {ns n ct R K s L k a b x y} : rn_9_miss ns ct R K (n + 1) 24 L (.inl (b, y) :: .inl (a, x) :: k) s = (sy_ri a x ∧ sy_ri b y ∧ (x ≤ y → rn_9_miss ns ct R K n 29 L k s) ∧ (¬ x ≤ y → rn_9_miss ns ct R K n 27 L k s)) := rfl
theorem rx_9_miss_27 {ns n ct R K s L k} : rn_9_miss ns ct R K (n + 1) 27 L k s = (rn_9_miss ns ct R K n 28 L (.inl (true, 0) :: k) s) := rfl
theorem rx_9_miss_28 {ns n ct R K s L a z} : rn_9_miss ns ct R K (n + 1) 28 L [.inl (a, z)] s = (sy_ri a z ∧ sy_b01 true z ∧ R (some (.inl (true, z))) s) := rfl
theorem rx_9_miss_29 {ns n ct R K s k z v1 v2 v3} : rn_9_miss ns ct R K (n + 1) 29 [.inr (.inr (some z)), v1, v2, v3] k s = (rn_9_miss ns ct R K n 30 [.inr (.inr (some z)), v1, v2, v3] (.inr (.inr (some z)) :: k) s) := rfl
theorem rx_9_miss_30 {ns n ct R K s k z v0 v2 v3} : rn_9_miss ns ct R K (n + 1) 30 [v0, .inl (true, z), v2, v3] k s = (rn_9_miss ns ct R K n 31 [v0, .inl (true, z), v2, v3] (.inl (true, z) :: k) s) := rfl
theorem rx_9_miss_31 {ns n ct R K s L k} : rn_9_miss ns ct R K (n + 1) 31 L k s = (rn_9_miss ns ct R K n 32 L (.inl (true, 2) :: k) s) := rfl
theorem rx_9_miss_32 {ns n ct R K s k z v0 v1 v3} : rn_9_miss ns ct R K (n + 1) 32 [v0, v1, .inl (true, z), v3] k s = (rn_9_miss ns ct R K n 33 [v0, v1, .inl (true, z), v3] (.inl (true, z) :: k) s) := rfl
theorem rx_9_miss_33 {ns n ct R K s k z v0 v1 v2} : rn_9_miss ns ct R K (n + 1) 33 [v0, v1, v2, .inl (true, z)] k s = (rn_9_miss ns ct R K n 34 [v0, v1, v2, .inl (true, z)] (.inl (true, z) :: k) s) := rfl
theorem rx_9_miss_34 {ns n ct R K s L k} : rn_9_miss ns ct R K (n + 1) 34 L k s = (rn_9_miss ns ct R K n 35 L (.inl (true, 0) :: k) s) := rfl
theorem rx_9_miss_35 {ns n ct R K s L k} : rn_9_miss ns ct R K (n + 1) 35 L k s = (rn_9_miss ns ct R K n 36 L (.inl (true, 0) :: k) s) := rfl
theorem rx_9_miss_36 {ns n ct R K s L k} : rn_9_miss ns ct R K (n + 1) 36 L k s = (sy_call false (ct 80) k s fun r t => rn_9_miss ns ct R K n 39 L r t) := rfl
theorem rx_9_miss_39 {ns n ct R K s L k} : rn_9_miss ns ct R K (n + 1) 39 L k s = (rn_9_miss ns ct R K n 40 L (.inl (true, 1) :: k) s) := rfl
theorem rx_9_miss_40 {ns n ct R K s L a z} : rn_9_miss ns ct R K (n + 1) 40 L [.inl (a, z)] s = (sy_ri a z ∧ sy_b01 true z ∧ R (some (.inl (true, z))) s) := rfl
def y_9_cloud : MethodName := ⟨"StarHideModel", "cloud", "(I)Z"⟩
abbrev c_9_cloud : ByteArray := prog_11_method_11_code
def tc_9_cloud (pc : Nat) : Option sy_I := match pc with
  | 0 => some (.aload_n 0, 1, 0)
  | 1 => some (.iload_n 1, 2, 0)
  | 2 => some (.invokevirtual 73, 5, 0)
  | 5 => some (.ifCond .ne 5, 8, 10)
  | 8 => some (.iconst 0, 9, 0)
  | 9 => some (.ireturn, 10, 0)
  | 10 => some (.aload_n 0, 11, 0)
  | 11 => some (.iload_n 1, 12, 0)
  | 12 => some (.iconst 3, 13, 0)
  | 13 => some (.iconst 0, 14, 0)
  | 14 => some (.iconst 0, 15, 0)
  | 15 => some (.iconst 0, 16, 0)
  | 16 => some (.iconst 0, 17, 0)
  | 17 => some (.invokevirtual 80, 20, 0)
  | 20 => some (.iconst 1, 21, 0)
  | 21 => some (.ireturn, 22, 0)
  | _ => none
theorem tv_9_cloud : ∀ pc i, sy_lk 22 tc_9_cloud pc = some i → sy_chk c_9_cloud (some .boolean) true pc i = true := sy_lk_ok 22 tc_9_cloud (by decide +kernel)
def Mk_9_cloud (ct : Nat → Option (Bool × Nat × sy_Sp)) : sy_M := (sy_lk 22 tc_9_cloud, ff_9, ki_9, kl_9, ct, true)
def rn_9_cloud (ns : Nat) (ct : Nat → Option (Bool × Nat × sy_Sp)) (R : sy_R) (K : sy_K) : Nat → sy_K := sy_run ns (Mk_9_cloud ct) [] R K
theorem rx_9_cloud_0 {ns n ct R K s k z v1} : rn_9_cloud ns ct R K (n + 1) 0 [.inr (.inr (some z)), v1] k s = (rn_9_cloud ns ct R K n 1 [.inr (.inr (some z)), v1] (.inr (.inr (some z)) :: k) s) := rfl
theorem rx_9_cloud_1 {ns n ct R K s k z v0} : rn_9_cloud ns ct R K (n + 1) 1 [v0, .inl (true, z)] k s = (rn_9_cloud ns ct R K n 2 [v0, .inl (true, z)] (.inl (true, z) :: k) s) := rfl
theorem rx_9_cloud_2 {ns n ct R K s L k} : rn_9_cloud ns ct R K (n + 1) 2 L k s = (sy_call false (ct 73) k s fun r t => rn_9_cloud ns ct R K n 5 L r t) := rfl
theorem rx_9_cloud_5 {ns n ct R K s L k a x} : rn_9_cloud ns ct R K (n + 1) 5 L (.inl (a, x) :: k) s = (sy_ri a x ∧ (¬ x = 0 → rn_9_cloud ns ct R K n 10 L k s) ∧ (x = 0 → rn_9_cloud ns ct R K n 8 L k s)) := rfl
theorem rx_9_cloud_8 {ns n ct R K s L k} : rn_9_cloud ns ct R K (n + 1) 8 L k s = (rn_9_cloud ns ct R K n 9 L (.inl (true, 0) :: k) s) := rfl
theorem rx_9_cloud_9 {ns n ct R K s L a z} : rn_9_cloud ns ct R K (n + 1) 9 L [.inl (a, z)] s = (sy_ri a z ∧ sy_b01 true z ∧ R (some (.inl (true, z))) s) := rfl
theorem rx_9_cloud_10 {ns n ct R K s k z v1} : rn_9_cloud ns ct R K (n + 1) 10 [.inr (.inr (some z)), v1] k s = (rn_9_cloud ns ct R K n 11 [.inr (.inr (some z)), v1] (.inr (.inr (some z)) :: k) s) := rfl
theorem rx_9_cloud_11 {ns n ct R K s k z v0} : rn_9_cloud ns ct R K (n + 1) 11 [v0, .inl (true, z)] k s = (rn_9_cloud ns ct R K n 12 [v0, .inl (true, z)] (.inl (true, z) :: k) s) := rfl
theorem rx_9_cloud_12 {ns n ct R K s L k} : rn_9_cloud ns ct R K (n + 1) 12 L k s = (rn_9_cloud ns ct R K n 13 L (.inl (true, 3) :: k) s) := rfl
theorem rx_9_cloud_13 {ns n ct R K s L k} : rn_9_cloud ns ct R K (n + 1) 13 L k s = (rn_9_cloud ns ct R K n 14 L (.inl (true, 0) :: k) s) := rfl
theorem rx_9_cloud_14 {ns n ct R K s L k} : rn_9_cloud ns ct R K (n + 1) 14 L k s = (rn_9_cloud ns ct R K n 15 L (.inl (true, 0) :: k) s) := rfl
theorem rx_9_cloud_15 {ns n ct R K s L k} : rn_9_cloud ns ct R K (n + 1) 15 L k s = (rn_9_cloud ns ct R K n 16 L (.inl (true, 0) :: k) s) := rfl
theorem rx_9_cloud_16 {ns n ct R K s L k} : rn_9_cloud ns ct R K (n + 1) 16 L k s = (rn_9_cloud ns ct R K n 17 L (.inl (true, 0) :: k) s) := rfl
theorem rx_9_cloud_17 {ns n ct R K s L k} : rn_9_cloud ns ct R K (n + 1) 17 L k s = (sy_call false (ct 80) k s fun r t => rn_9_cloud ns ct R K n 20 L r t) := rfl
theorem rx_9_cloud_20 {ns n ct R K s L k} : rn_9_cloud ns ct R K (n + 1) 20 L k s = (rn_9_cloud ns ct R K n 21 L (.inl (true, 1) :: k) s) := rfl
theorem rx_9_cloud_21 {ns n ct R K s L a z} : rn_9_cloud ns ct R K (n + 1) 21 L [.inl (a, z)] s = (sy_ri a z ∧ sy_b01 true z ∧ R (some (.inl (true, z))) s) := rfl
def y_9_unsay : MethodName := ⟨"StarHideModel", "unsay", "(I)Z"⟩
abbrev c_9_unsay : ByteArray := prog_11_method_12_code
def tc_9_unsay (pc : Nat) : Option sy_I := match pc with
  | 0 => some (.aload_n 0, 1, 0)
  | 1 => some (.iload_n 1, 2, 0)
  | 2 => some (.invokevirtual 73, 5, 0)
  | 5 => some (.ifCond .eq 12, 8, 17)
  | 8 => some (.aload_n 0, 9, 0)
  | 9 => some (.getfield 26, 12, 0)
  | 12 => some (.iload_n 1, 13, 0)
  | 13 => some (.iaload, 14, 0)
  | 14 => some (.ifCond .ne 5, 17, 19)
  | 17 => some (.iconst 0, 18, 0)
  | 18 => some (.ireturn, 19, 0)
  | 19 => some (.aload_n 0, 20, 0)
  | 20 => some (.getfield 26, 23, 0)
  | 23 => some (.iload_n 1, 24, 0)
  | 24 => some (.iconst 0, 25, 0)
  | 25 => some (.iastore, 26, 0)
  | 26 => some (.iconst 1, 27, 0)
  | 27 => some (.ireturn, 28, 0)
  | _ => none
theorem tv_9_unsay : ∀ pc i, sy_lk 28 tc_9_unsay pc = some i → sy_chk c_9_unsay (some .boolean) true pc i = true := sy_lk_ok 28 tc_9_unsay (by decide +kernel)
def Mk_9_unsay (ct : Nat → Option (Bool × Nat × sy_Sp)) : sy_M := (sy_lk 28 tc_9_unsay, ff_9, ki_9, kl_9, ct, true)
def rn_9_unsay (ns : Nat) (ct : Nat → Option (Bool × Nat × sy_Sp)) (R : sy_R) (K : sy_K) : Nat → sy_K := sy_run ns (Mk_9_unsay ct) [] R K
theorem rx_9_unsay_0 {ns n ct R K s k z v1} : rn_9_unsay ns ct R K (n + 1) 0 [.inr (.inr (some z)), v1] k s = (rn_9_unsay ns ct R K n 1 [.inr (.inr (some z)), v1] (.inr (.inr (some z)) :: k) s) := rfl
theorem rx_9_unsay_1 {ns n ct R K s k z v0} : rn_9_unsay ns ct R K (n + 1) 1 [v0, .inl (true, z)] k s = (rn_9_unsay ns ct R K n 2 [v0, .inl (true, z)] (.inl (true, z) :: k) s) := rfl
theorem rx_9_unsay_2 {ns n ct R K s L k} : rn_9_unsay ns ct R K (n + 1) 2 L k s = (sy_call false (ct 73) k s fun r t => rn_9_unsay ns ct R K n 5 L r t) := rfl
theorem rx_9_unsay_5 {ns n ct R K s L k a x} : rn_9_unsay ns ct R K (n + 1) 5 L (.inl (a, x) :: k) s = (sy_ri a x ∧ (x = 0 → rn_9_unsay ns ct R K n 17 L k s) ∧ (¬ x = 0 → rn_9_unsay ns ct R K n 8 L k s)) := rfl
theorem rx_9_unsay_8 {ns n ct R K s k z v1} : rn_9_unsay ns ct R K (n + 1) 8 [.inr (.inr (some z)), v1] k s = (rn_9_unsay ns ct R K n 9 [.inr (.inr (some z)), v1] (.inr (.inr (some z)) :: k) s) := rfl
theorem rx_9_unsay_9 {ns n ct R K s L k a} : rn_9_unsay ns ct R K (n + 1) 9 L (.inr (.inr (some (some a))) :: k) s = (sy_ob a = some 9 ∧ rn_9_unsay ns ct R K n 12 L (sy_fv s a 5 :: k) s) := rfl
theorem rx_9_unsay_12 {ns n ct R K s k z v0} : rn_9_unsay ns ct R K (n + 1) 12 [v0, .inl (true, z)] k s = (rn_9_unsay ns ct R K n 13 [v0, .inl (true, z)] (.inl (true, z) :: k) s) := rfl
theorem rx_9_unsay_13 {ns n ct R K s L k a b z} : rn_9_unsay ns ct R K (n + 1) 13 L (.inl (b, z) :: .inr (.inr (some (some a))) :: k) s = ((0 ≤ z ∧ z < (sy_ar a).2) ∧ sy_ob a = none ∧ (sy_ar a).1 = 0 ∧ rn_9_unsay ns ct R K n 14 L (.inl (true, s a z.toNat) :: k) s) := rfl
theorem rx_9_unsay_14 {ns n ct R K s L k a x} : rn_9_unsay ns ct R K (n + 1) 14 L (.inl (a, x) :: k) s = (sy_ri a x ∧ (¬ x = 0 → rn_9_unsay ns ct R K n 19 L k s) ∧ (x = 0 → rn_9_unsay ns ct R K n 17 L k s)) := rfl
theorem rx_9_unsay_17 {ns n ct R K s L k} : rn_9_unsay ns ct R K (n + 1) 17 L k s = (rn_9_unsay ns ct R K n 18 L (.inl (true, 0) :: k) s) := rfl
theorem rx_9_unsay_18 {ns n ct R K s L a z} : rn_9_unsay ns ct R K (n + 1) 18 L [.inl (a, z)] s = (sy_ri a z ∧ sy_b01 true z ∧ R (some (.inl (true, z))) s) := rfl
theorem rx_9_unsay_19 {ns n ct R K s k z v1} : rn_9_unsay ns ct R K (n + 1) 19 [.inr (.inr (some z)), v1] k s = (rn_9_unsay ns ct R K n 20 [.inr (.inr (some z)), v1] (.inr (.inr (some z)) :: k) s) := rfl
theorem rx_9_unsay_20 {ns n ct R K s L k a} : rn_9_unsay ns ct R K (n + 1) 20 L (.inr (.inr (some (some a))) :: k) s = (sy_ob a = some 9 ∧ rn_9_unsay ns ct R K n 23 L (sy_fv s a 5 :: k) s) := rfl
theorem rx_9_unsay_23 {ns n ct R K s k z v0} : rn_9_unsay ns ct R K (n + 1) 23 [v0, .inl (true, z)] k s = (rn_9_unsay ns ct R K n 24 [v0, .inl (true, z)] (.inl (true, z) :: k) s) := rfl
theorem rx_9_unsay_24 {ns n ct R K s L k} : rn_9_unsay ns ct R K (n + 1) 24 L k s = (rn_9_unsay ns ct R K n 25 L (.inl (true, 0) :: k) s) := rfl
theorem rx_9_unsay_25 {ns n ct R K s L k a b c z y} : rn_9_unsay ns ct R K (n + 1) 25 L (.inl (c, y) :: .inl (b, z) :: .inr (.inr (some (some a))) :: k) s = (sy_ri c y ∧ (0 ≤ z ∧ z < (sy_ar a).2) ∧ sy_ob a = none ∧ (sy_ar a).1 = 0 ∧ rn_9_unsay ns ct R K n 26 L k (sy_up s a z.toNat y)) := rfl
theorem rx_9_unsay_26 {ns n ct R K s L k} : rn_9_unsay ns ct R K (n + 1) 26 L k s = (rn_9_unsay ns ct R K n 27 L (.inl (true, 1) :: k) s) := rfl
theorem rx_9_unsay_27 {ns n ct R K s L a z} : rn_9_unsay ns ct R K (n + 1) 27 L [.inl (a, z)] s = (sy_ri a z ∧ sy_b01 true z ∧ R (some (.inl (true, z))) s) := rfl
def y_9_placeOf : MethodName := ⟨"StarHideModel", "placeOf", "(II)I"⟩
abbrev c_9_placeOf : ByteArray := prog_11_method_13_code
def tc_9_placeOf (pc : Nat) : Option sy_I := match pc with
  | 0 => some (.aload_n 0, 1, 0)
  | 1 => some (.getfield 7, 4, 0)
  | 4 => some (.iload_n 2, 5, 0)
  | 5 => some (.aload_n 0, 6, 0)
  | 6 => some (.getfield 23, 9, 0)
  | 9 => some (.iload_n 1, 10, 0)
  | 10 => some (.iaload, 11, 0)
  | 11 => some (.isub, 12, 0)
  | 12 => some (.imul, 13, 0)
  | 13 => some (.aload_n 0, 14, 0)
  | 14 => some (.getfield 20, 17, 0)
  | 17 => some (.iload_n 1, 18, 0)
  | 18 => some (.iaload, 19, 0)
  | 19 => some (.isub, 20, 0)
  | 20 => some (.ireturn, 21, 0)
  | _ => none
theorem tv_9_placeOf : ∀ pc i, sy_lk 21 tc_9_placeOf pc = some i → sy_chk c_9_placeOf (some .int) false pc i = true := sy_lk_ok 21 tc_9_placeOf (by decide +kernel)
def Mk_9_placeOf (ct : Nat → Option (Bool × Nat × sy_Sp)) : sy_M := (sy_lk 21 tc_9_placeOf, ff_9, ki_9, kl_9, ct, false)
def rn_9_placeOf (ns : Nat) (ct : Nat → Option (Bool × Nat × sy_Sp)) (R : sy_R) (K : sy_K) : Nat → sy_K := sy_run ns (Mk_9_placeOf ct) [] R K
theorem rx_9_placeOf_0 {ns n ct R K s k z v1 v2} : rn_9_placeOf ns ct R K (n + 1) 0 [.inr (.inr (some z)), v1, v2] k s = (rn_9_placeOf ns ct R K n 1 [.inr (.inr (some z)), v1, v2] (.inr (.inr (some z)) :: k) s) := rfl
theorem rx_9_placeOf_1 {ns n ct R K s L k a} : rn_9_placeOf ns ct R K (n + 1) 1 L (.inr (.inr (some (some a))) :: k) s = (sy_ob a = some 9 ∧ rn_9_placeOf ns ct R K n 4 L (sy_fv s a 0 :: k) s) := rfl
theorem rx_9_placeOf_4 {ns n ct R K s k z v0 v1} : rn_9_placeOf ns ct R K (n + 1) 4 [v0, v1, .inl (true, z)] k s = (rn_9_placeOf ns ct R K n 5 [v0, v1, .inl (true, z)] (.inl (true, z) :: k) s) := rfl
theorem rx_9_placeOf_5 {ns n ct R K s k z v1 v2} : rn_9_placeOf ns ct R K (n + 1) 5 [.inr (.inr (some z)), v1, v2] k s = (rn_9_placeOf ns ct R K n 6 [.inr (.inr (some z)), v1, v2] (.inr (.inr (some z)) :: k) s) := rfl
theorem rx_9_placeOf_6 {ns n ct R K s L k a} : rn_9_placeOf ns ct R K (n + 1) 6 L (.inr (.inr (some (some a))) :: k) s = (sy_ob a = some 9 ∧ rn_9_placeOf ns ct R K n 9 L (sy_fv s a 4 :: k) s) := rfl
theorem rx_9_placeOf_9 {ns n ct R K s k z v0 v2} : rn_9_placeOf ns ct R K (n + 1) 9 [v0, .inl (true, z), v2] k s = (rn_9_placeOf ns ct R K n 10 [v0, .inl (true, z), v2] (.inl (true, z) :: k) s) := rfl
theorem rx_9_placeOf_10 {ns n ct R K s L k a b z} : rn_9_placeOf ns ct R K (n + 1) 10 L (.inl (b, z) :: .inr (.inr (some (some a))) :: k) s = ((0 ≤ z ∧ z < (sy_ar a).2) ∧ sy_ob a = none ∧ (sy_ar a).1 = 0 ∧ rn_9_placeOf ns ct R K n 11 L (.inl (true, s a z.toNat) :: k) s) := rfl
theorem rx_9_placeOf_11 {ns n ct R K s L k a b x y} : rn_9_placeOf ns ct R K (n + 1) 11 L (.inl (b, y) :: .inl (a, x) :: k) s = (rn_9_placeOf ns ct R K n 12 L (.inl (false, x - y) :: k) s) := rfl
theorem rx_9_placeOf_12 {ns n ct R K s L k a b x y} : rn_9_placeOf ns ct R K (n + 1) 12 L (.inl (b, y) :: .inl (a, x) :: k) s = (rn_9_placeOf ns ct R K n 13 L (.inl (false, x * y) :: k) s) := rfl
theorem rx_9_placeOf_13 {ns n ct R K s k z v1 v2} : rn_9_placeOf ns ct R K (n + 1) 13 [.inr (.inr (some z)), v1, v2] k s = (rn_9_placeOf ns ct R K n 14 [.inr (.inr (some z)), v1, v2] (.inr (.inr (some z)) :: k) s) := rfl
theorem rx_9_placeOf_14 {ns n ct R K s L k a} : rn_9_placeOf ns ct R K (n + 1) 14 L (.inr (.inr (some (some a))) :: k) s = (sy_ob a = some 9 ∧ rn_9_placeOf ns ct R K n 17 L (sy_fv s a 3 :: k) s) := rfl
theorem rx_9_placeOf_17 {ns n ct R K s k z v0 v2} : rn_9_placeOf ns ct R K (n + 1) 17 [v0, .inl (true, z), v2] k s = (rn_9_placeOf ns ct R K n 18 [v0, .inl (true, z), v2] (.inl (true, z) :: k) s) := rfl
theorem rx_9_placeOf_18 {ns n ct R K s L k a b z} : rn_9_placeOf ns ct R K (n + 1) 18 L (.inl (b, z) :: .inr (.inr (some (some a))) :: k) s = ((0 ≤ z ∧ z < (sy_ar a).2) ∧ sy_ob a = none ∧ (sy_ar a).1 = 0 ∧ rn_9_placeOf ns ct R K n 19 L (.inl (true, s a z.toNat) :: k) s) := rfl
theorem rx_9_placeOf_19 {ns n ct R K s L k a b x y} : rn_9_placeOf ns ct R K (n + 1) 19 L (.inl (b, y) :: .inl (a, x) :: k) s = (rn_9_placeOf ns ct R K n 20 L (.inl (false, x - y) :: k) s) := rfl
theorem rx_9_placeOf_20 {ns n ct R K s L a z} : rn_9_placeOf ns ct R K (n + 1) 20 L [.inl (a, z)] s = (sy_ri a z ∧ sy_b01 false z ∧ R (some (.inl (true, z))) s) := rfl
def y_9_end : MethodName := ⟨"StarHideModel", "end", "(II)I"⟩
abbrev c_9_end : ByteArray := prog_11_method_14_code
def tc_9_end (pc : Nat) : Option sy_I := match pc with
  | 0 => some (.aload_n 0, 1, 0)
  | 1 => some (.iload_n 1, 2, 0)
  | 2 => some (.aload_n 0, 3, 0)
  | 3 => some (.getfield 29, 6, 0)
  | 6 => some (.iconst 4, 7, 0)
  | 7 => some (.iload_n 1, 8, 0)
  | 8 => some (.imul, 9, 0)
  | 9 => some (.iload_n 2, 10, 0)
  | 10 => some (.iadd, 11, 0)
  | 11 => some (.iaload, 12, 0)
  | 12 => some (.invokevirtual 84, 15, 0)
  | 15 => some (.ireturn, 16, 0)
  | _ => none
theorem tv_9_end : ∀ pc i, sy_lk 16 tc_9_end pc = some i → sy_chk c_9_end (some .int) false pc i = true := sy_lk_ok 16 tc_9_end (by decide +kernel)
def Mk_9_end (ct : Nat → Option (Bool × Nat × sy_Sp)) : sy_M := (sy_lk 16 tc_9_end, ff_9, ki_9, kl_9, ct, false)
def rn_9_end (ns : Nat) (ct : Nat → Option (Bool × Nat × sy_Sp)) (R : sy_R) (K : sy_K) : Nat → sy_K := sy_run ns (Mk_9_end ct) [] R K
theorem rx_9_end_0 {ns n ct R K s k z v1 v2} : rn_9_end ns ct R K (n + 1) 0 [.inr (.inr (some z)), v1, v2] k s = (rn_9_end ns ct R K n 1 [.inr (.inr (some z)), v1, v2] (.inr (.inr (some z)) :: k) s) := rfl
theorem rx_9_end_1 {ns n ct R K s k z v0 v2} : rn_9_end ns ct R K (n + 1) 1 [v0, .inl (true, z), v2] k s = (rn_9_end ns ct R K n 2 [v0, .inl (true, z), v2] (.inl (true, z) :: k) s) := rfl
theorem rx_9_end_2 {ns n ct R K s k z v1 v2} : rn_9_end ns ct R K (n + 1) 2 [.inr (.inr (some z)), v1, v2] k s = (rn_9_end ns ct R K n 3 [.inr (.inr (some z)), v1, v2] (.inr (.inr (some z)) :: k) s) := rfl
theorem rx_9_end_3 {ns n ct R K s L k a} : rn_9_end ns ct R K (n + 1) 3 L (.inr (.inr (some (some a))) :: k) s = (sy_ob a = some 9 ∧ rn_9_end ns ct R K n 6 L (sy_fv s a 6 :: k) s) := rfl
theorem rx_9_end_6 {ns n ct R K s L k} : rn_9_end ns ct R K (n + 1) 6 L k s = (rn_9_end ns ct R K n 7 L (.inl (true, 4) :: k) s) := rfl
theorem rx_9_end_7 {ns n ct R K s k z v0 v2} : rn_9_end ns ct R K (n + 1) 7 [v0, .inl (true, z), v2] k s = (rn_9_end ns ct R K n 8 [v0, .inl (true, z), v2] (.inl (true, z) :: k) s) := rfl
theorem rx_9_end_8 {ns n ct R K s L k a b x y} : rn_9_end ns ct R K (n + 1) 8 L (.inl (b, y) :: .inl (a, x) :: k) s = (rn_9_end ns ct R K n 9 L (.inl (false, x * y) :: k) s) := rfl
theorem rx_9_end_9 {ns n ct R K s k z v0 v1} : rn_9_end ns ct R K (n + 1) 9 [v0, v1, .inl (true, z)] k s = (rn_9_end ns ct R K n 10 [v0, v1, .inl (true, z)] (.inl (true, z) :: k) s) := rfl
theorem rx_9_end_10 {ns n ct R K s L k a b x y} : rn_9_end ns ct R K (n + 1) 10 L (.inl (b, y) :: .inl (a, x) :: k) s = (rn_9_end ns ct R K n 11 L (.inl (false, x + y) :: k) s) := rfl
theorem rx_9_end_11 {ns n ct R K s L k a b z} : rn_9_end ns ct R K (n + 1) 11 L (.inl (b, z) :: .inr (.inr (some (some a))) :: k) s = ((0 ≤ z ∧ z < (sy_ar a).2) ∧ sy_ob a = none ∧ (sy_ar a).1 = 0 ∧ rn_9_end ns ct R K n 12 L (.inl (true, s a z.toNat) :: k) s) := rfl
theorem rx_9_end_12 {ns n ct R K s L k} : rn_9_end ns ct R K (n + 1) 12 L k s = (sy_call false (ct 84) k s fun r t => rn_9_end ns ct R K n 15 L r t) := rfl
theorem rx_9_end_15 {ns n ct R K s L a z} : rn_9_end ns ct R K (n + 1) 15 L [.inl (a, z)] s = (sy_ri a z ∧ sy_b01 false z ∧ R (some (.inl (true, z))) s) := rfl
def y_9_place : MethodName := ⟨"StarHideModel", "place", "(II)I"⟩
abbrev c_9_place : ByteArray := prog_11_method_15_code
def tc_9_place (pc : Nat) : Option sy_I := match pc with
  | 0 => some (.aload_n 0, 1, 0)
  | 1 => some (.iload_n 1, 2, 0)
  | 2 => some (.invokevirtual 73, 5, 0)
  | 5 => some (.ifCond .eq 10, 8, 15)
  | 8 => some (.iload_n 2, 9, 0)
  | 9 => some (.invokestatic 77, 12, 0)
  | 12 => some (.ifCond .ne 8, 15, 20)
  | 15 => some (.ldc 88, 17, 0)
  | 17 => some (.goto 9, 20, 26)
  | 20 => some (.aload_n 0, 21, 0)
  | 21 => some (.iload_n 1, 22, 0)
  | 22 => some (.iload_n 2, 23, 0)
  | 23 => some (.invokevirtual 84, 26, 0)
  | 26 => some (.ireturn, 27, 0)
  | _ => none
theorem tv_9_place : ∀ pc i, sy_lk 27 tc_9_place pc = some i → sy_chk c_9_place (some .int) false pc i = true := sy_lk_ok 27 tc_9_place (by decide +kernel)
def Mk_9_place (ct : Nat → Option (Bool × Nat × sy_Sp)) : sy_M := (sy_lk 27 tc_9_place, ff_9, ki_9, kl_9, ct, false)
def rn_9_place (ns : Nat) (ct : Nat → Option (Bool × Nat × sy_Sp)) (R : sy_R) (K : sy_K) : Nat → sy_K := sy_run ns (Mk_9_place ct) [] R K
theorem rx_9_place_0 {ns n ct R K s k z v1 v2} : rn_9_place ns ct R K (n + 1) 0 [.inr (.inr (some z)), v1, v2] k s = (rn_9_place ns ct R K n 1 [.inr (.inr (some z)), v1, v2] (.inr (.inr (some z)) :: k) s) := rfl
theorem rx_9_place_1 {ns n ct R K s k z v0 v2} : rn_9_place ns ct R K (n + 1) 1 [v0, .inl (true, z), v2] k s = (rn_9_place ns ct R K n 2 [v0, .inl (true, z), v2] (.inl (true, z) :: k) s) := rfl
theorem rx_9_place_2 {ns n ct R K s L k} : rn_9_place ns ct R K (n + 1) 2 L k s = (sy_call false (ct 73) k s fun r t => rn_9_place ns ct R K n 5 L r t) := rfl
theorem rx_9_place_5 {ns n ct R K s L k a x} : rn_9_place ns ct R K (n + 1) 5 L (.inl (a, x) :: k) s = (sy_ri a x ∧ (x = 0 → rn_9_place ns ct R K n 15 L k s) ∧ (¬ x = 0 → rn_9_place ns ct R K n 8 L k s)) := rfl
theorem rx_9_place_8 {ns n ct R K s k z v0 v1} : rn_9_place ns ct R K (n + 1) 8 [v0, v1, .inl (true, z)] k s = (rn_9_place ns ct R K n 9 [v0, v1, .inl (true, z)] (.inl (true, z) :: k) s) := rfl
theorem rx_9_place_9 {ns n ct R K s L k} : rn_9_place ns ct R K (n + 1) 9 L k s = (sy_call true (ct 77) k s fun r t => rn_9_place ns ct R K n 12 L r t) := rfl
theorem rx_9_place_12 {ns n ct R K s L k a x} : rn_9_place ns ct R K (n + 1) 12 L (.inl (a, x) :: k) s = (sy_ri a x ∧ (¬ x = 0 → rn_9_place ns ct R K n 20 L k s) ∧ (x = 0 → rn_9_place ns ct R K n 15 L k s)) := rfl
theorem rx_9_place_15 {ns n ct R K s L k} : rn_9_place ns ct R K (n + 1) 15 L k s = (rn_9_place ns ct R K n 17 L (.inl (true, -1000000) :: k) s) := rfl
theorem rx_9_place_17 {ns n ct R K s L k} : rn_9_place ns ct R K (n + 1) 17 L k s = (rn_9_place ns ct R K n 26 L k s) := rfl
theorem rx_9_place_20 {ns n ct R K s k z v1 v2} : rn_9_place ns ct R K (n + 1) 20 [.inr (.inr (some z)), v1, v2] k s = (rn_9_place ns ct R K n 21 [.inr (.inr (some z)), v1, v2] (.inr (.inr (some z)) :: k) s) := rfl
theorem rx_9_place_21 {ns n ct R K s k z v0 v2} : rn_9_place ns ct R K (n + 1) 21 [v0, .inl (true, z), v2] k s = (rn_9_place ns ct R K n 22 [v0, .inl (true, z), v2] (.inl (true, z) :: k) s) := rfl
theorem rx_9_place_22 {ns n ct R K s k z v0 v1} : rn_9_place ns ct R K (n + 1) 22 [v0, v1, .inl (true, z)] k s = (rn_9_place ns ct R K n 23 [v0, v1, .inl (true, z)] (.inl (true, z) :: k) s) := rfl
theorem rx_9_place_23 {ns n ct R K s L k} : rn_9_place ns ct R K (n + 1) 23 L k s = (sy_call false (ct 84) k s fun r t => rn_9_place ns ct R K n 26 L r t) := rfl
theorem rx_9_place_26 {ns n ct R K s L a z} : rn_9_place ns ct R K (n + 1) 26 L [.inl (a, z)] s = (sy_ri a z ∧ sy_b01 false z ∧ R (some (.inl (true, z))) s) := rfl
def y_9_net : MethodName := ⟨"StarHideModel", "net", "(IIII)Z"⟩
abbrev c_9_net : ByteArray := prog_11_method_16_code
def tc_9_net (pc : Nat) : Option sy_I := match pc with
  | 0 => some (.iload_n 1, 1, 0)
  | 1 => some (.iconst 0, 2, 0)
  | 2 => some (.iconst 3, 3, 0)
  | 3 => some (.invokestatic 69, 6, 0)
  | 6 => some (.ifCond .eq 25, 9, 31)
  | 9 => some (.iload 4, 11, 0)
  | 11 => some (.iconst 1, 12, 0)
  | 12 => some (.bipush 8, 14, 0)
  | 14 => some (.invokestatic 69, 17, 0)
  | 17 => some (.ifCond .eq 14, 20, 31)
  | 20 => some (.iload_n 3, 21, 0)
  | 21 => some (.iconst 1, 22, 0)
  | 22 => some (.sipush 1000, 25, 0)
  | 25 => some (.invokestatic 69, 28, 0)
  | 28 => some (.ifCond .ne 5, 31, 33)
  | 31 => some (.iconst 0, 32, 0)
  | 32 => some (.ireturn, 33, 0)
  | 33 => some (.iload_n 1, 34, 0)
  | 34 => some (.ifCond .ne 9, 37, 43)
  | 37 => some (.sipush 15000, 40, 0)
  | 40 => some (.goto 6, 43, 46)
  | 43 => some (.sipush 2000, 46, 0)
  | 46 => some (.istore 5, 48, 0)
  | 48 => some (.iload_n 2, 49, 0)
  | 49 => some (.iload_n 1, 50, 0)
  | 50 => some (.iconst 1, 51, 0)
  | 51 => some (.if_icmp .le 7, 54, 58)
  | 54 => some (.iconst 1, 55, 0)
  | 55 => some (.goto 6, 58, 61)
  | 58 => some (.iload 5, 60, 0)
  | 60 => some (.ineg, 61, 0)
  | 61 => some (.iload 5, 63, 0)
  | 63 => some (.invokestatic 69, 66, 0)
  | 66 => some (.ifCond .eq 22, 69, 88)
  | 69 => some (.iload_n 1, 70, 0)
  | 70 => some (.iconst 1, 71, 0)
  | 71 => some (.if_icmp .le 19, 74, 90)
  | 74 => some (.iload_n 2, 75, 0)
  | 75 => some (.iload_n 3, 76, 0)
  | 76 => some (.iload 4, 78, 0)
  | 78 => some (.iconst 1, 79, 0)
  | 79 => some (.isub, 80, 0)
  | 80 => some (.imul, 81, 0)
  | 81 => some (.iadd, 82, 0)
  | 82 => some (.sipush 2000, 85, 0)
  | 85 => some (.if_icmp .le 5, 88, 90)
  | 88 => some (.iconst 0, 89, 0)
  | 89 => some (.ireturn, 90, 0)
  | 90 => some (.aload_n 0, 91, 0)
  | 91 => some (.getfield 32, 94, 0)
  | 94 => some (.iconst 3, 95, 0)
  | 95 => some (.iload_n 1, 96, 0)
  | 96 => some (.imul, 97, 0)
  | 97 => some (.iload_n 2, 98, 0)
  | 98 => some (.iastore, 99, 0)
  | 99 => some (.aload_n 0, 100, 0)
  | 100 => some (.getfield 32, 103, 0)
  | 103 => some (.iconst 3, 104, 0)
  | 104 => some (.iload_n 1, 105, 0)
  | 105 => some (.imul, 106, 0)
  | 106 => some (.iconst 1, 107, 0)
  | 107 => some (.iadd, 108, 0)
  | 108 => some (.iload_n 3, 109, 0)
  | 109 => some (.iastore, 110, 0)
  | 110 => some (.aload_n 0, 111, 0)
  | 111 => some (.getfield 32, 114, 0)
  | 114 => some (.iconst 3, 115, 0)
  | 115 => some (.iload_n 1, 116, 0)
  | 116 => some (.imul, 117, 0)
  | 117 => some (.iconst 2, 118, 0)
  | 118 => some (.iadd, 119, 0)
  | 119 => some (.iload 4, 121, 0)
  | 121 => some (.iastore, 122, 0)
  | 122 => some (.iconst 1, 123, 0)
  | 123 => some (.ireturn, 124, 0)
  | _ => none
theorem tv_9_net : ∀ pc i, sy_lk 124 tc_9_net pc = some i → sy_chk c_9_net (some .boolean) true pc i = true := sy_lk_ok 124 tc_9_net (by decide +kernel)
def Mk_9_net (ct : Nat → Option (Bool × Nat × sy_Sp)) : sy_M := (sy_lk 124 tc_9_net, ff_9, ki_9, kl_9, ct, true)
def rn_9_net (ns : Nat) (ct : Nat → Option (Bool × Nat × sy_Sp)) (R : sy_R) (K : sy_K) : Nat → sy_K := sy_run ns (Mk_9_net ct) [] R K
theorem rx_9_net_0 {ns n ct R K s k z v0 v2 v3 v4 v5} : rn_9_net ns ct R K (n + 1) 0 [v0, .inl (true, z), v2, v3, v4, v5] k s = (rn_9_net ns ct R K n 1 [v0, .inl (true, z), v2, v3, v4, v5] (.inl (true, z) :: k) s) := rfl
theorem rx_9_net_1 {ns n ct R K s L k} : rn_9_net ns ct R K (n + 1) 1 L k s = (rn_9_net ns ct R K n 2 L (.inl (true, 0) :: k) s) := rfl
theorem rx_9_net_2 {ns n ct R K s L k} : rn_9_net ns ct R K (n + 1) 2 L k s = (rn_9_net ns ct R K n 3 L (.inl (true, 3) :: k) s) := rfl
theorem rx_9_net_3 {ns n ct R K s L k} : rn_9_net ns ct R K (n + 1) 3 L k s = (sy_call true (ct 69) k s fun r t => rn_9_net ns ct R K n 6 L r t) := rfl
theorem rx_9_net_6 {ns n ct R K s L k a x} : rn_9_net ns ct R K (n + 1) 6 L (.inl (a, x) :: k) s = (sy_ri a x ∧ (x = 0 → rn_9_net ns ct R K n 31 L k s) ∧ (¬ x = 0 → rn_9_net ns ct R K n 9 L k s)) := rfl
theorem rx_9_net_9 {ns n ct R K s k z v0 v1 v2 v3 v5} : rn_9_net ns ct R K (n + 1) 9 [v0, v1, v2, v3, .inl (true, z), v5] k s = (rn_9_net ns ct R K n 11 [v0, v1, v2, v3, .inl (true, z), v5] (.inl (true, z) :: k) s) := rfl
theorem rx_9_net_11 {ns n ct R K s L k} : rn_9_net ns ct R K (n + 1) 11 L k s = (rn_9_net ns ct R K n 12 L (.inl (true, 1) :: k) s) := rfl
theorem rx_9_net_12 {ns n ct R K s L k} : rn_9_net ns ct R K (n + 1) 12 L k s = (rn_9_net ns ct R K n 14 L (.inl (true, 8) :: k) s) := rfl
theorem rx_9_net_14 {ns n ct R K s L k} : rn_9_net ns ct R K (n + 1) 14 L k s = (sy_call true (ct 69) k s fun r t => rn_9_net ns ct R K n 17 L r t) := rfl
theorem rx_9_net_17 {ns n ct R K s L k a x} : rn_9_net ns ct R K (n + 1) 17 L (.inl (a, x) :: k) s = (sy_ri a x ∧ (x = 0 → rn_9_net ns ct R K n 31 L k s) ∧ (¬ x = 0 → rn_9_net ns ct R K n 20 L k s)) := rfl
theorem rx_9_net_20 {ns n ct R K s k z v0 v1 v2 v4 v5} : rn_9_net ns ct R K (n + 1) 20 [v0, v1, v2, .inl (true, z), v4, v5] k s = (rn_9_net ns ct R K n 21 [v0, v1, v2, .inl (true, z), v4, v5] (.inl (true, z) :: k) s) := rfl
theorem rx_9_net_21 {ns n ct R K s L k} : rn_9_net ns ct R K (n + 1) 21 L k s = (rn_9_net ns ct R K n 22 L (.inl (true, 1) :: k) s) := rfl
theorem rx_9_net_22 {ns n ct R K s L k} : rn_9_net ns ct R K (n + 1) 22 L k s = (rn_9_net ns ct R K n 25 L (.inl (true, 1000) :: k) s) := rfl
theorem rx_9_net_25 {ns n ct R K s L k} : rn_9_net ns ct R K (n + 1) 25 L k s = (sy_call true (ct 69) k s fun r t => rn_9_net ns ct R K n 28 L r t) := rfl
theorem rx_9_net_28 {ns n ct R K s L k a x} : rn_9_net ns ct R K (n + 1) 28 L (.inl (a, x) :: k) s = (sy_ri a x ∧ (¬ x = 0 → rn_9_net ns ct R K n 33 L k s) ∧ (x = 0 → rn_9_net ns ct R K n 31 L k s)) := rfl
theorem rx_9_net_31 {ns n ct R K s L k} : rn_9_net ns ct R K (n + 1) 31 L k s = (rn_9_net ns ct R K n 32 L (.inl (true, 0) :: k) s) := rfl
theorem rx_9_net_32 {ns n ct R K s L a z} : rn_9_net ns ct R K (n + 1) 32 L [.inl (a, z)] s = (sy_ri a z ∧ sy_b01 true z ∧ R (some (.inl (true, z))) s) := rfl
theorem rx_9_net_33 {ns n ct R K s k z v0 v2 v3 v4 v5} : rn_9_net ns ct R K (n + 1) 33 [v0, .inl (true, z), v2, v3, v4, v5] k s = (rn_9_net ns ct R K n 34 [v0, .inl (true, z), v2, v3, v4, v5] (.inl (true, z) :: k) s) := rfl
theorem rx_9_net_34 {ns n ct R K s L k a x} : rn_9_net ns ct R K (n + 1) 34 L (.inl (a, x) :: k) s = (sy_ri a x ∧ (¬ x = 0 → rn_9_net ns ct R K n 43 L k s) ∧ (x = 0 → rn_9_net ns ct R K n 37 L k s)) := rfl
theorem rx_9_net_37 {ns n ct R K s L k} : rn_9_net ns ct R K (n + 1) 37 L k s = (rn_9_net ns ct R K n 40 L (.inl (true, 15000) :: k) s) := rfl
theorem rx_9_net_40 {ns n ct R K s L k} : rn_9_net ns ct R K (n + 1) 40 L k s = (rn_9_net ns ct R K n 46 L k s) := rfl
theorem rx_9_net_43 {ns n ct R K s L k} : rn_9_net ns ct R K (n + 1) 43 L k s = (rn_9_net ns ct R K n 46 L (.inl (true, 2000) :: k) s) := rfl
theorem rx_9_net_46 {ns n ct R K s L k b z} : rn_9_net ns ct R K (n + 1) 46 L (.inl (b, z) :: k) s = (sy_ri b z ∧ 5 < L.length ∧ rn_9_net ns ct R K n 48 (sy_sto L 5 (.inl (true, z))) k s) := rfl
theorem rx_9_net_48 {ns n ct R K s k z v0 v1 v3 v4 v5} : rn_9_net ns ct R K (n + 1) 48 [v0, v1, .inl (true, z), v3, v4, v5] k s = (rn_9_net ns ct R K n 49 [v0, v1, .inl (true, z), v3, v4, v5] (.inl (true, z) :: k) s) := rfl
theorem rx_9_net_49 {ns n ct R K s k z v0 v2 v3 v4 v5} : rn_9_net ns ct R K (n + 1) 49 [v0, .inl (true, z), v2, v3, v4, v5] k s = (rn_9_net ns ct R K n 50 [v0, .inl (true, z), v2, v3, v4, v5] (.inl (true, z) :: k) s) := rfl
theorem rx_9_net_50 {ns n ct R K s L k} : rn_9_net ns ct R K (n + 1) 50 L k s = (rn_9_net ns ct R K n 51 L (.inl (true, 1) :: k) s) := rfl
theorem rx_9_net_51 {ns n ct R K s L k a b x y} : rn_9_net ns ct R K (n + 1) 51 L (.inl (b, y) :: .inl (a, x) :: k) s = (sy_ri a x ∧ sy_ri b y ∧ (x ≤ y → rn_9_net ns ct R K n 58 L k s) ∧ (¬ x ≤ y → rn_9_net ns ct R K n 54 L k s)) := rfl
theorem rx_9_net_54 {ns n ct R K s L k} : rn_9_net ns ct R K (n + 1) 54 L k s = (rn_9_net ns ct R K n 55 L (.inl (true, 1) :: k) s) := rfl
theorem rx_9_net_55 {ns n ct R K s L k} : rn_9_net ns ct R K (n + 1) 55 L k s = (rn_9_net ns ct R K n 61 L k s) := rfl
theorem rx_9_net_58 {ns n ct R K s k z v0 v1 v2 v3 v4} : rn_9_net ns ct R K (n + 1) 58 [v0, v1, v2, v3, v4, .inl (true, z)] k s = (rn_9_net ns ct R K n 60 [v0, v1, v2, v3, v4, .inl (true, z)] (.inl (true, z) :: k) s) := rfl
theorem rx_9_net_60 {ns n ct R K s L k a x} : rn_9_net ns ct R K (n + 1) 60 L (.inl (a, x) :: k) s = (rn_9_net ns ct R K n 61 L (.inl (false, -x) :: k) s) := rfl
theorem rx_9_net_61 {ns n ct R K s k z v0 v1 v2 v3 v4} : rn_9_net ns ct R K (n + 1) 61 [v0, v1, v2, v3, v4, .inl (true, z)] k s = (rn_9_net ns ct R K n 63 [v0, v1, v2, v3, v4, .inl (true, z)] (.inl (true, z) :: k) s) := rfl
theorem rx_9_net_63 {ns n ct R K s L k} : rn_9_net ns ct R K (n + 1) 63 L k s = (sy_call true (ct 69) k s fun r t => rn_9_net ns ct R K n 66 L r t) := rfl
theorem rx_9_net_66 {ns n ct R K s L k a x} : rn_9_net ns ct R K (n + 1) 66 L (.inl (a, x) :: k) s = (sy_ri a x ∧ (x = 0 → rn_9_net ns ct R K n 88 L k s) ∧ (¬ x = 0 → rn_9_net ns ct R K n 69 L k s)) := rfl
theorem rx_9_net_69 {ns n ct R K s k z v0 v2 v3 v4 v5} : rn_9_net ns ct R K (n + 1) 69 [v0, .inl (true, z), v2, v3, v4, v5] k s = (rn_9_net ns ct R K n 70 [v0, .inl (true, z), v2, v3, v4, v5] (.inl (true, z) :: k) s) := rfl
theorem rx_9_net_70 {ns n ct R K s L k} : rn_9_net ns ct R K (n + 1) 70 L k s = (rn_9_net ns ct R K n 71 L (.inl (true, 1) :: k) s) := rfl
theorem rx_9_net_71 {ns n ct R K s L k a b x y} : rn_9_net ns ct R K (n + 1) 71 L (.inl (b, y) :: .inl (a, x) :: k) s = (sy_ri a x ∧ sy_ri b y ∧ (x ≤ y → rn_9_net ns ct R K n 90 L k s) ∧ (¬ x ≤ y → rn_9_net ns ct R K n 74 L k s)) := rfl
theorem rx_9_net_74 {ns n ct R K s k z v0 v1 v3 v4 v5} : rn_9_net ns ct R K (n + 1) 74 [v0, v1, .inl (true, z), v3, v4, v5] k s = (rn_9_net ns ct R K n 75 [v0, v1, .inl (true, z), v3, v4, v5] (.inl (true, z) :: k) s) := rfl
theorem rx_9_net_75 {ns n ct R K s k z v0 v1 v2 v4 v5} : rn_9_net ns ct R K (n + 1) 75 [v0, v1, v2, .inl (true, z), v4, v5] k s = (rn_9_net ns ct R K n 76 [v0, v1, v2, .inl (true, z), v4, v5] (.inl (true, z) :: k) s) := rfl
theorem rx_9_net_76 {ns n ct R K s k z v0 v1 v2 v3 v5} : rn_9_net ns ct R K (n + 1) 76 [v0, v1, v2, v3, .inl (true, z), v5] k s = (rn_9_net ns ct R K n 78 [v0, v1, v2, v3, .inl (true, z), v5] (.inl (true, z) :: k) s) := rfl
theorem rx_9_net_78 {ns n ct R K s L k} : rn_9_net ns ct R K (n + 1) 78 L k s = (rn_9_net ns ct R K n 79 L (.inl (true, 1) :: k) s) := rfl
theorem rx_9_net_79 {ns n ct R K s L k a b x y} : rn_9_net ns ct R K (n + 1) 79 L (.inl (b, y) :: .inl (a, x) :: k) s = (rn_9_net ns ct R K n 80 L (.inl (false, x - y) :: k) s) := rfl
theorem rx_9_net_80 {ns n ct R K s L k a b x y} : rn_9_net ns ct R K (n + 1) 80 L (.inl (b, y) :: .inl (a, x) :: k) s = (rn_9_net ns ct R K n 81 L (.inl (false, x * y) :: k) s) := rfl
theorem rx_9_net_81 {ns n ct R K s L k a b x y} : rn_9_net ns ct R K (n + 1) 81 L (.inl (b, y) :: .inl (a, x) :: k) s = (rn_9_net ns ct R K n 82 L (.inl (false, x + y) :: k) s) := rfl
theorem rx_9_net_82 {ns n ct R K s L k} : rn_9_net ns ct R K (n + 1) 82 L k s = (rn_9_net ns ct R K n 85 L (.inl (true, 2000) :: k) s) := rfl
theorem rx_9_net_85 {ns n ct R K s L k a b x y} : rn_9_net ns ct R K (n + 1) 85 L (.inl (b, y) :: .inl (a, x) :: k) s = (sy_ri a x ∧ sy_ri b y ∧ (x ≤ y → rn_9_net ns ct R K n 90 L k s) ∧ (¬ x ≤ y → rn_9_net ns ct R K n 88 L k s)) := rfl
theorem rx_9_net_88 {ns n ct R K s L k} : rn_9_net ns ct R K (n + 1) 88 L k s = (rn_9_net ns ct R K n 89 L (.inl (true, 0) :: k) s) := rfl
theorem rx_9_net_89 {ns n ct R K s L a z} : rn_9_net ns ct R K (n + 1) 89 L [.inl (a, z)] s = (sy_ri a z ∧ sy_b01 true z ∧ R (some (.inl (true, z))) s) := rfl
theorem rx_9_net_90 {ns n ct R K s k z v1 v2 v3 v4 v5} : rn_9_net ns ct R K (n + 1) 90 [.inr (.inr (some z)), v1, v2, v3, v4, v5] k s = (rn_9_net ns ct R K n 91 [.inr (.inr (some z)), v1, v2, v3, v4, v5] (.inr (.inr (some z)) :: k) s) := rfl
theorem rx_9_net_91 {ns n ct R K s L k a} : rn_9_net ns ct R K (n + 1) 91 L (.inr (.inr (some (some a))) :: k) s = (sy_ob a = some 9 ∧ rn_9_net ns ct R K n 94 L (sy_fv s a 7 :: k) s) := rfl
theorem rx_9_net_94 {ns n ct R K s L k} : rn_9_net ns ct R K (n + 1) 94 L k s = (rn_9_net ns ct R K n 95 L (.inl (true, 3) :: k) s) := rfl
theorem rx_9_net_95 {ns n ct R K s k z v0 v2 v3 v4 v5} : rn_9_net ns ct R K (n + 1) 95 [v0, .inl (true, z), v2, v3, v4, v5] k s = (rn_9_net ns ct R K n 96 [v0, .inl (true, z), v2, v3, v4, v5] (.inl (true, z) :: k) s) := rfl
theorem rx_9_net_96 {ns n ct R K s L k a b x y} : rn_9_net ns ct R K (n + 1) 96 L (.inl (b, y) :: .inl (a, x) :: k) s = (rn_9_net ns ct R K n 97 L (.inl (false, x * y) :: k) s) := rfl
theorem rx_9_net_97 {ns n ct R K s k z v0 v1 v3 v4 v5} : rn_9_net ns ct R K (n + 1) 97 [v0, v1, .inl (true, z), v3, v4, v5] k s = (rn_9_net ns ct R K n 98 [v0, v1, .inl (true, z), v3, v4, v5] (.inl (true, z) :: k) s) := rfl
theorem rx_9_net_98 {ns n ct R K s L k a b c z y} : rn_9_net ns ct R K (n + 1) 98 L (.inl (c, y) :: .inl (b, z) :: .inr (.inr (some (some a))) :: k) s = (sy_ri c y ∧ (0 ≤ z ∧ z < (sy_ar a).2) ∧ sy_ob a = none ∧ (sy_ar a).1 = 0 ∧ rn_9_net ns ct R K n 99 L k (sy_up s a z.toNat y)) := rfl
theorem rx_9_net_99 {ns n ct R K s k z v1 v2 v3 v4 v5} : rn_9_net ns ct R K (n + 1) 99 [.inr (.inr (some z)), v1, v2, v3, v4, v5] k s = (rn_9_net ns ct R K n 100 [.inr (.inr (some z)), v1, v2, v3, v4, v5] (.inr (.inr (some z)) :: k) s) := rfl
theorem rx_9_net_100 {ns n ct R K s L k a} : rn_9_net ns ct R K (n + 1) 100 L (.inr (.inr (some (some a))) :: k) s = (sy_ob a = some 9 ∧ rn_9_net ns ct R K n 103 L (sy_fv s a 7 :: k) s) := rfl
theorem rx_9_net_103 {ns n ct R K s L k} : rn_9_net ns ct R K (n + 1) 103 L k s = (rn_9_net ns ct R K n 104 L (.inl (true, 3) :: k) s) := rfl
theorem rx_9_net_104 {ns n ct R K s k z v0 v2 v3 v4 v5} : rn_9_net ns ct R K (n + 1) 104 [v0, .inl (true, z), v2, v3, v4, v5] k s = (rn_9_net ns ct R K n 105 [v0, .inl (true, z), v2, v3, v4, v5] (.inl (true, z) :: k) s) := rfl
theorem rx_9_net_105 {ns n ct R K s L k a b x y} : rn_9_net ns ct R K (n + 1) 105 L (.inl (b, y) :: .inl (a, x) :: k) s = (rn_9_net ns ct R K n 106 L (.inl (false, x * y) :: k) s) := rfl
theorem rx_9_net_106 {ns n ct R K s L k} : rn_9_net ns ct R K (n + 1) 106 L k s = (rn_9_net ns ct R K n 107 L (.inl (true, 1) :: k) s) := rfl
theorem rx_9_net_107 {ns n ct R K s L k a b x y} : rn_9_net ns ct R K (n + 1) 107 L (.inl (b, y) :: .inl (a, x) :: k) s = (rn_9_net ns ct R K n 108 L (.inl (false, x + y) :: k) s) := rfl
theorem rx_9_net_108 {ns n ct R K s k z v0 v1 v2 v4 v5} : rn_9_net ns ct R K (n + 1) 108 [v0, v1, v2, .inl (true, z), v4, v5] k s = (rn_9_net ns ct R K n 109 [v0, v1, v2, .inl (true, z), v4, v5] (.inl (true, z) :: k) s) := rfl
theorem rx_9_net_109 {ns n ct R K s L k a b c z y} : rn_9_net ns ct R K (n + 1) 109 L (.inl (c, y) :: .inl (b, z) :: .inr (.inr (some (some a))) :: k) s = (sy_ri c y ∧ (0 ≤ z ∧ z < (sy_ar a).2) ∧ sy_ob a = none ∧ (sy_ar a).1 = 0 ∧ rn_9_net ns ct R K n 110 L k (sy_up s a z.toNat y)) := rfl
theorem rx_9_net_110 {ns n ct R K s k z v1 v2 v3 v4 v5} : rn_9_net ns ct R K (n + 1) 110 [.inr (.inr (some z)), v1, v2, v3, v4, v5] k s = (rn_9_net ns ct R K n 111 [.inr (.inr (some z)), v1, v2, v3, v4, v5] (.inr (.inr (some z)) :: k) s) := rfl
theorem rx_9_net_111 {ns n ct R K s L k a} : rn_9_net ns ct R K (n + 1) 111 L (.inr (.inr (some (some a))) :: k) s = (sy_ob a = some 9 ∧ rn_9_net ns ct R K n 114 L (sy_fv s a 7 :: k) s) := rfl
theorem rx_9_net_114 {ns n ct R K s L k} : rn_9_net ns ct R K (n + 1) 114 L k s = (rn_9_net ns ct R K n 115 L (.inl (true, 3) :: k) s) := rfl
theorem rx_9_net_115 {ns n ct R K s k z v0 v2 v3 v4 v5} : rn_9_net ns ct R K (n + 1) 115 [v0, .inl (true, z), v2, v3, v4, v5] k s = (rn_9_net ns ct R K n 116 [v0, .inl (true, z), v2, v3, v4, v5] (.inl (true, z) :: k) s) := rfl
theorem rx_9_net_116 {ns n ct R K s L k a b x y} : rn_9_net ns ct R K (n + 1) 116 L (.inl (b, y) :: .inl (a, x) :: k) s = (rn_9_net ns ct R K n 117 L (.inl (false, x * y) :: k) s) := rfl
theorem rx_9_net_117 {ns n ct R K s L k} : rn_9_net ns ct R K (n + 1) 117 L k s = (rn_9_net ns ct R K n 118 L (.inl (true, 2) :: k) s) := rfl
theorem rx_9_net_118 {ns n ct R K s L k a b x y} : rn_9_net ns ct R K (n + 1) 118 L (.inl (b, y) :: .inl (a, x) :: k) s = (rn_9_net ns ct R K n 119 L (.inl (false, x + y) :: k) s) := rfl
theorem rx_9_net_119 {ns n ct R K s k z v0 v1 v2 v3 v5} : rn_9_net ns ct R K (n + 1) 119 [v0, v1, v2, v3, .inl (true, z), v5] k s = (rn_9_net ns ct R K n 121 [v0, v1, v2, v3, .inl (true, z), v5] (.inl (true, z) :: k) s) := rfl
theorem rx_9_net_121 {ns n ct R K s L k a b c z y} : rn_9_net ns ct R K (n + 1) 121 L (.inl (c, y) :: .inl (b, z) :: .inr (.inr (some (some a))) :: k) s = (sy_ri c y ∧ (0 ≤ z ∧ z < (sy_ar a).2) ∧ sy_ob a = none ∧ (sy_ar a).1 = 0 ∧ rn_9_net ns ct R K n 122 L k (sy_up s a z.toNat y)) := rfl
theorem rx_9_net_122 {ns n ct R K s L k} : rn_9_net ns ct R K (n + 1) 122 L k s = (rn_9_net ns ct R K n 123 L (.inl (true, 1) :: k) s) := rfl
theorem rx_9_net_123 {ns n ct R K s L a z} : rn_9_net ns ct R K (n + 1) 123 L [.inl (a, z)] s = (sy_ri a z ∧ sy_b01 true z ∧ R (some (.inl (true, z))) s) := rfl
def y_9_figures : MethodName := ⟨"StarHideModel", "figures", "()I"⟩
abbrev c_9_figures : ByteArray := prog_11_method_17_code
def tc_9_figures (pc : Nat) : Option sy_I := match pc with
  | 0 => some (.aload_n 0, 1, 0)
  | 1 => some (.getfield 32, 4, 0)
  | 4 => some (.iconst 2, 5, 0)
  | 5 => some (.iaload, 6, 0)
  | 6 => some (.aload_n 0, 7, 0)
  | 7 => some (.getfield 32, 10, 0)
  | 10 => some (.iconst 5, 11, 0)
  | 11 => some (.iaload, 12, 0)
  | 12 => some (.imul, 13, 0)
  | 13 => some (.aload_n 0, 14, 0)
  | 14 => some (.getfield 32, 17, 0)
  | 17 => some (.bipush 8, 19, 0)
  | 19 => some (.iaload, 20, 0)
  | 20 => some (.imul, 21, 0)
  | 21 => some (.aload_n 0, 22, 0)
  | 22 => some (.getfield 32, 25, 0)
  | 25 => some (.bipush 11, 27, 0)
  | 27 => some (.iaload, 28, 0)
  | 28 => some (.imul, 29, 0)
  | 29 => some (.ireturn, 30, 0)
  | _ => none
theorem tv_9_figures : ∀ pc i, sy_lk 30 tc_9_figures pc = some i → sy_chk c_9_figures (some .int) false pc i = true := sy_lk_ok 30 tc_9_figures (by decide +kernel)
def Mk_9_figures (ct : Nat → Option (Bool × Nat × sy_Sp)) : sy_M := (sy_lk 30 tc_9_figures, ff_9, ki_9, kl_9, ct, false)
def rn_9_figures (ns : Nat) (ct : Nat → Option (Bool × Nat × sy_Sp)) (R : sy_R) (K : sy_K) : Nat → sy_K := sy_run ns (Mk_9_figures ct) [] R K
theorem rx_9_figures_0 {ns n ct R K s k z} : rn_9_figures ns ct R K (n + 1) 0 [.inr (.inr (some z))] k s = (rn_9_figures ns ct R K n 1 [.inr (.inr (some z))] (.inr (.inr (some z)) :: k) s) := rfl
theorem rx_9_figures_1 {ns n ct R K s L k a} : rn_9_figures ns ct R K (n + 1) 1 L (.inr (.inr (some (some a))) :: k) s = (sy_ob a = some 9 ∧ rn_9_figures ns ct R K n 4 L (sy_fv s a 7 :: k) s) := rfl
theorem rx_9_figures_4 {ns n ct R K s L k} : rn_9_figures ns ct R K (n + 1) 4 L k s = (rn_9_figures ns ct R K n 5 L (.inl (true, 2) :: k) s) := rfl
theorem rx_9_figures_5 {ns n ct R K s L k a b z} : rn_9_figures ns ct R K (n + 1) 5 L (.inl (b, z) :: .inr (.inr (some (some a))) :: k) s = ((0 ≤ z ∧ z < (sy_ar a).2) ∧ sy_ob a = none ∧ (sy_ar a).1 = 0 ∧ rn_9_figures ns ct R K n 6 L (.inl (true, s a z.toNat) :: k) s) := rfl
theorem rx_9_figures_6 {ns n ct R K s k z} : rn_9_figures ns ct R K (n + 1) 6 [.inr (.inr (some z))] k s = (rn_9_figures ns ct R K n 7 [.inr (.inr (some z))] (.inr (.inr (some z)) :: k) s) := rfl
theorem rx_9_figures_7 {ns n ct R K s L k a} : rn_9_figures ns ct R K (n + 1) 7 L (.inr (.inr (some (some a))) :: k) s = (sy_ob a = some 9 ∧ rn_9_figures ns ct R K n 10 L (sy_fv s a 7 :: k) s) := rfl
theorem rx_9_figures_10 {ns n ct R K s L k} : rn_9_figures ns ct R K (n + 1) 10 L k s = (rn_9_figures ns ct R K n 11 L (.inl (true, 5) :: k) s) := rfl
theorem rx_9_figures_11 {ns n ct R K s L k a b z} : rn_9_figures ns ct R K (n + 1) 11 L (.inl (b, z) :: .inr (.inr (some (some a))) :: k) s = ((0 ≤ z ∧ z < (sy_ar a).2) ∧ sy_ob a = none ∧ (sy_ar a).1 = 0 ∧ rn_9_figures ns ct R K n 12 L (.inl (true, s a z.toNat) :: k) s) := rfl
theorem rx_9_figures_12 {ns n ct R K s L k a b x y} : rn_9_figures ns ct R K (n + 1) 12 L (.inl (b, y) :: .inl (a, x) :: k) s = (rn_9_figures ns ct R K n 13 L (.inl (false, x * y) :: k) s) := rfl
theorem rx_9_figures_13 {ns n ct R K s k z} : rn_9_figures ns ct R K (n + 1) 13 [.inr (.inr (some z))] k s = (rn_9_figures ns ct R K n 14 [.inr (.inr (some z))] (.inr (.inr (some z)) :: k) s) := rfl
theorem rx_9_figures_14 {ns n ct R K s L k a} : rn_9_figures ns ct R K (n + 1) 14 L (.inr (.inr (some (some a))) :: k) s = (sy_ob a = some 9 ∧ rn_9_figures ns ct R K n 17 L (sy_fv s a 7 :: k) s) := rfl
theorem rx_9_figures_17 {ns n ct R K s L k} : rn_9_figures ns ct R K (n + 1) 17 L k s = (rn_9_figures ns ct R K n 19 L (.inl (true, 8) :: k) s) := rfl
theorem rx_9_figures_19 {ns n ct R K s L k a b z} : rn_9_figures ns ct R K (n + 1) 19 L (.inl (b, z) :: .inr (.inr (some (some a))) :: k) s = ((0 ≤ z ∧ z < (sy_ar a).2) ∧ sy_ob a = none ∧ (sy_ar a).1 = 0 ∧ rn_9_figures ns ct R K n 20 L (.inl (true, s a z.toNat) :: k) s) := rfl
theorem rx_9_figures_20 {ns n ct R K s L k a b x y} : rn_9_figures ns ct R K (n + 1) 20 L (.inl (b, y) :: .inl (a, x) :: k) s = (rn_9_figures ns ct R K n 21 L (.inl (false, x * y) :: k) s) := rfl
theorem rx_9_figures_21 {ns n ct R K s k z} : rn_9_figures ns ct R K (n + 1) 21 [.inr (.inr (some z))] k s = (rn_9_figures ns ct R K n 22 [.inr (.inr (some z))] (.inr (.inr (some z)) :: k) s) := rfl
theorem rx_9_figures_22 {ns n ct R K s L k a} : rn_9_figures ns ct R K (n + 1) 22 L (.inr (.inr (some (some a))) :: k) s = (sy_ob a = some 9 ∧ rn_9_figures ns ct R K n 25 L (sy_fv s a 7 :: k) s) := rfl
theorem rx_9_figures_25 {ns n ct R K s L k} : rn_9_figures ns ct R K (n + 1) 25 L k s = (rn_9_figures ns ct R K n 27 L (.inl (true, 11) :: k) s) := rfl
theorem rx_9_figures_27 {ns n ct R K s L k a b z} : rn_9_figures ns ct R K (n + 1) 27 L (.inl (b, z) :: .inr (.inr (some (some a))) :: k) s = ((0 ≤ z ∧ z < (sy_ar a).2) ∧ sy_ob a = none ∧ (sy_ar a).1 = 0 ∧ rn_9_figures ns ct R K n 28 L (.inl (true, s a z.toNat) :: k) s) := rfl
theorem rx_9_figures_28 {ns n ct R K s L k a b x y} : rn_9_figures ns ct R K (n + 1) 28 L (.inl (b, y) :: .inl (a, x) :: k) s = (rn_9_figures ns ct R K n 29 L (.inl (false, x * y) :: k) s) := rfl
theorem rx_9_figures_29 {ns n ct R K s L a z} : rn_9_figures ns ct R K (n + 1) 29 L [.inl (a, z)] s = (sy_ri a z ∧ sy_b01 false z ∧ R (some (.inl (true, z))) s) := rfl
def y_9_part : MethodName := ⟨"StarHideModel", "part", "(II)I"⟩
abbrev c_9_part : ByteArray := prog_11_method_18_code
def tc_9_part (pc : Nat) : Option sy_I := match pc with
  | 0 => some (.iload_n 1, 1, 0)
  | 1 => some (.istore_n 3, 2, 0)
  | 2 => some (.iconst 3, 3, 0)
  | 3 => some (.istore 4, 5, 0)
  | 5 => some (.iload 4, 7, 0)
  | 7 => some (.iload_n 2, 8, 0)
  | 8 => some (.if_icmp .le 23, 11, 31)
  | 11 => some (.iload_n 3, 12, 0)
  | 12 => some (.aload_n 0, 13, 0)
  | 13 => some (.getfield 32, 16, 0)
  | 16 => some (.iconst 3, 17, 0)
  | 17 => some (.iload 4, 19, 0)
  | 19 => some (.imul, 20, 0)
  | 20 => some (.iconst 2, 21, 0)
  | 21 => some (.iadd, 22, 0)
  | 22 => some (.iaload, 23, 0)
  | 23 => some (.idiv, 24, 0)
  | 24 => some (.istore_n 3, 25, 0)
  | 25 => some (.iinc 4 (-1), 28, 0)
  | 28 => some (.goto (-23), 31, 5)
  | 31 => some (.aload_n 0, 32, 0)
  | 32 => some (.getfield 32, 35, 0)
  | 35 => some (.iconst 3, 36, 0)
  | 36 => some (.iload_n 2, 37, 0)
  | 37 => some (.imul, 38, 0)
  | 38 => some (.iaload, 39, 0)
  | 39 => some (.aload_n 0, 40, 0)
  | 40 => some (.getfield 32, 43, 0)
  | 43 => some (.iconst 3, 44, 0)
  | 44 => some (.iload_n 2, 45, 0)
  | 45 => some (.imul, 46, 0)
  | 46 => some (.iconst 1, 47, 0)
  | 47 => some (.iadd, 48, 0)
  | 48 => some (.iaload, 49, 0)
  | 49 => some (.iload_n 3, 50, 0)
  | 50 => some (.aload_n 0, 51, 0)
  | 51 => some (.getfield 32, 54, 0)
  | 54 => some (.iconst 3, 55, 0)
  | 55 => some (.iload_n 2, 56, 0)
  | 56 => some (.imul, 57, 0)
  | 57 => some (.iconst 2, 58, 0)
  | 58 => some (.iadd, 59, 0)
  | 59 => some (.iaload, 60, 0)
  | 60 => some (.irem, 61, 0)
  | 61 => some (.imul, 62, 0)
  | 62 => some (.iadd, 63, 0)
  | 63 => some (.ireturn, 64, 0)
  | _ => none
theorem tv_9_part : ∀ pc i, sy_lk 64 tc_9_part pc = some i → sy_chk c_9_part (some .int) false pc i = true := sy_lk_ok 64 tc_9_part (by decide +kernel)
def Mk_9_part (ct : Nat → Option (Bool × Nat × sy_Sp)) : sy_M := (sy_lk 64 tc_9_part, ff_9, ki_9, kl_9, ct, false)
def rn_9_part (ns : Nat) (ct : Nat → Option (Bool × Nat × sy_Sp)) (R : sy_R) (K : sy_K) : Nat → sy_K := sy_run ns (Mk_9_part ct) [5] R K
theorem rx_9_part_0 {ns n ct R K s k z v0 v2 v3 v4} : rn_9_part ns ct R K (n + 1) 0 [v0, .inl (true, z), v2, v3, v4] k s = (rn_9_part ns ct R K n 1 [v0, .inl (true, z), v2, v3, v4] (.inl (true, z) :: k) s) := rfl
theorem rx_9_part_1 {ns n ct R K s L k b z} : rn_9_part ns ct R K (n + 1) 1 L (.inl (b, z) :: k) s = (sy_ri b z ∧ 3 < L.length ∧ rn_9_part ns ct R K n 2 (sy_sto L 3 (.inl (true, z))) k s) := rfl
theorem rx_9_part_2 {ns n ct R K s L k} : rn_9_part ns ct R K (n + 1) 2 L k s = (rn_9_part ns ct R K n 3 L (.inl (true, 3) :: k) s) := rfl
theorem rx_9_part_3 {ns n ct R K s L k b z} : rn_9_part ns ct R K (n + 1) 3 L (.inl (b, z) :: k) s = (sy_ri b z ∧ 4 < L.length ∧ K 5 (sy_sto L 4 (.inl (true, z))) k s) := rfl
theorem rx_9_part_5 {ns n ct R K s k z v0 v1 v2 v3} : rn_9_part ns ct R K (n + 1) 5 [v0, v1, v2, v3, .inl (true, z)] k s = (rn_9_part ns ct R K n 7 [v0, v1, v2, v3, .inl (true, z)] (.inl (true, z) :: k) s) := rfl
theorem rx_9_part_7 {ns n ct R K s k z v0 v1 v3 v4} : rn_9_part ns ct R K (n + 1) 7 [v0, v1, .inl (true, z), v3, v4] k s = (rn_9_part ns ct R K n 8 [v0, v1, .inl (true, z), v3, v4] (.inl (true, z) :: k) s) := rfl
theorem rx_9_part_8 {ns n ct R K s L k a b x y} : rn_9_part ns ct R K (n + 1) 8 L (.inl (b, y) :: .inl (a, x) :: k) s = (sy_ri a x ∧ sy_ri b y ∧ (x ≤ y → rn_9_part ns ct R K n 31 L k s) ∧ (¬ x ≤ y → rn_9_part ns ct R K n 11 L k s)) := rfl
theorem rx_9_part_11 {ns n ct R K s k z v0 v1 v2 v4} : rn_9_part ns ct R K (n + 1) 11 [v0, v1, v2, .inl (true, z), v4] k s = (rn_9_part ns ct R K n 12 [v0, v1, v2, .inl (true, z), v4] (.inl (true, z) :: k) s) := rfl
theorem rx_9_part_12 {ns n ct R K s k z v1 v2 v3 v4} : rn_9_part ns ct R K (n + 1) 12 [.inr (.inr (some z)), v1, v2, v3, v4] k s = (rn_9_part ns ct R K n 13 [.inr (.inr (some z)), v1, v2, v3, v4] (.inr (.inr (some z)) :: k) s) := rfl
theorem rx_9_part_13 {ns n ct R K s L k a} : rn_9_part ns ct R K (n + 1) 13 L (.inr (.inr (some (some a))) :: k) s = (sy_ob a = some 9 ∧ rn_9_part ns ct R K n 16 L (sy_fv s a 7 :: k) s) := rfl
theorem rx_9_part_16 {ns n ct R K s L k} : rn_9_part ns ct R K (n + 1) 16 L k s = (rn_9_part ns ct R K n 17 L (.inl (true, 3) :: k) s) := rfl
theorem rx_9_part_17 {ns n ct R K s k z v0 v1 v2 v3} : rn_9_part ns ct R K (n + 1) 17 [v0, v1, v2, v3, .inl (true, z)] k s = (rn_9_part ns ct R K n 19 [v0, v1, v2, v3, .inl (true, z)] (.inl (true, z) :: k) s) := rfl
theorem rx_9_part_19 {ns n ct R K s L k a b x y} : rn_9_part ns ct R K (n + 1) 19 L (.inl (b, y) :: .inl (a, x) :: k) s = (rn_9_part ns ct R K n 20 L (.inl (false, x * y) :: k) s) := rfl
theorem rx_9_part_20 {ns n ct R K s L k} : rn_9_part ns ct R K (n + 1) 20 L k s = (rn_9_part ns ct R K n 21 L (.inl (true, 2) :: k) s) := rfl
theorem rx_9_part_21 {ns n ct R K s L k a b x y} : rn_9_part ns ct R K (n + 1) 21 L (.inl (b, y) :: .inl (a, x) :: k) s = (rn_9_part ns ct R K n 22 L (.inl (false, x + y) :: k) s) := rfl
theorem rx_9_part_22 {ns n ct R K s L k a b z} : rn_9_part ns ct R K (n + 1) 22 L (.inl (b, z) :: .inr (.inr (some (some a))) :: k) s = ((0 ≤ z ∧ z < (sy_ar a).2) ∧ sy_ob a = none ∧ (sy_ar a).1 = 0 ∧ rn_9_part ns ct R K n 23 L (.inl (true, s a z.toNat) :: k) s) := rfl
theorem rx_9_part_23 {ns n ct R K s L k a b x y} : rn_9_part ns ct R K (n + 1) 23 L (.inl (b, y) :: .inl (a, x) :: k) s = (sy_ri a x ∧ sy_ri b y ∧ y ≠ 0 ∧ rn_9_part ns ct R K n 24 L (.inl (false, x.tdiv y) :: k) s) := rfl
theorem rx_9_part_24 {ns n ct R K s L k b z} : rn_9_part ns ct R K (n + 1) 24 L (.inl (b, z) :: k) s = (sy_ri b z ∧ 3 < L.length ∧ rn_9_part ns ct R K n 25 (sy_sto L 3 (.inl (true, z))) k s) := rfl
theorem rx_9_part_25 {ns n ct R K s k z v0 v1 v2 v3} : rn_9_part ns ct R K (n + 1) 25 [v0, v1, v2, v3, .inl (true, z)] k s = ((-2147483648 ≤ z + (-1) ∧ z + (-1) < 2147483648) ∧ rn_9_part ns ct R K n 28 (sy_sto [v0, v1, v2, v3, .inl (true, z)] 4 (.inl (true, z + (-1)))) k s) := rfl
theorem rx_9_part_28 {ns n ct R K s L k} : rn_9_part ns ct R K (n + 1) 28 L k s = (K 5 L k s) := rfl
theorem rx_9_part_31 {ns n ct R K s k z v1 v2 v3 v4} : rn_9_part ns ct R K (n + 1) 31 [.inr (.inr (some z)), v1, v2, v3, v4] k s = (rn_9_part ns ct R K n 32 [.inr (.inr (some z)), v1, v2, v3, v4] (.inr (.inr (some z)) :: k) s) := rfl
theorem rx_9_part_32 {ns n ct R K s L k a} : rn_9_part ns ct R K (n + 1) 32 L (.inr (.inr (some (some a))) :: k) s = (sy_ob a = some 9 ∧ rn_9_part ns ct R K n 35 L (sy_fv s a 7 :: k) s) := rfl
theorem rx_9_part_35 {ns n ct R K s L k} : rn_9_part ns ct R K (n + 1) 35 L k s = (rn_9_part ns ct R K n 36 L (.inl (true, 3) :: k) s) := rfl
theorem rx_9_part_36 {ns n ct R K s k z v0 v1 v3 v4} : rn_9_part ns ct R K (n + 1) 36 [v0, v1, .inl (true, z), v3, v4] k s = (rn_9_part ns ct R K n 37 [v0, v1, .inl (true, z), v3, v4] (.inl (true, z) :: k) s) := rfl
theorem rx_9_part_37 {ns n ct R K s L k a b x y} : rn_9_part ns ct R K (n + 1) 37 L (.inl (b, y) :: .inl (a, x) :: k) s = (rn_9_part ns ct R K n 38 L (.inl (false, x * y) :: k) s) := rfl
theorem rx_9_part_38 {ns n ct R K s L k a b z} : rn_9_part ns ct R K (n + 1) 38 L (.inl (b, z) :: .inr (.inr (some (some a))) :: k) s = ((0 ≤ z ∧ z < (sy_ar a).2) ∧ sy_ob a = none ∧ (sy_ar a).1 = 0 ∧ rn_9_part ns ct R K n 39 L (.inl (true, s a z.toNat) :: k) s) := rfl
theorem rx_9_part_39 {ns n ct R K s k z v1 v2 v3 v4} : rn_9_part ns ct R K (n + 1) 39 [.inr (.inr (some z)), v1, v2, v3, v4] k s = (rn_9_part ns ct R K n 40 [.inr (.inr (some z)), v1, v2, v3, v4] (.inr (.inr (some z)) :: k) s) := rfl
theorem rx_9_part_40 {ns n ct R K s L k a} : rn_9_part ns ct R K (n + 1) 40 L (.inr (.inr (some (some a))) :: k) s = (sy_ob a = some 9 ∧ rn_9_part ns ct R K n 43 L (sy_fv s a 7 :: k) s) := rfl
theorem rx_9_part_43 {ns n ct R K s L k} : rn_9_part ns ct R K (n + 1) 43 L k s = (rn_9_part ns ct R K n 44 L (.inl (true, 3) :: k) s) := rfl
theorem rx_9_part_44 {ns n ct R K s k z v0 v1 v3 v4} : rn_9_part ns ct R K (n + 1) 44 [v0, v1, .inl (true, z), v3, v4] k s = (rn_9_part ns ct R K n 45 [v0, v1, .inl (true, z), v3, v4] (.inl (true, z) :: k) s) := rfl
theorem rx_9_part_45 {ns n ct R K s L k a b x y} : rn_9_part ns ct R K (n + 1) 45 L (.inl (b, y) :: .inl (a, x) :: k) s = (rn_9_part ns ct R K n 46 L (.inl (false, x * y) :: k) s) := rfl
theorem rx_9_part_46 {ns n ct R K s L k} : rn_9_part ns ct R K (n + 1) 46 L k s = (rn_9_part ns ct R K n 47 L (.inl (true, 1) :: k) s) := rfl
theorem rx_9_part_47 {ns n ct R K s L k a b x y} : rn_9_part ns ct R K (n + 1) 47 L (.inl (b, y) :: .inl (a, x) :: k) s = (rn_9_part ns ct R K n 48 L (.inl (false, x + y) :: k) s) := rfl
theorem rx_9_part_48 {ns n ct R K s L k a b z} : rn_9_part ns ct R K (n + 1) 48 L (.inl (b, z) :: .inr (.inr (some (some a))) :: k) s = ((0 ≤ z ∧ z < (sy_ar a).2) ∧ sy_ob a = none ∧ (sy_ar a).1 = 0 ∧ rn_9_part ns ct R K n 49 L (.inl (true, s a z.toNat) :: k) s) := rfl
theorem rx_9_part_49 {ns n ct R K s k z v0 v1 v2 v4} : rn_9_part ns ct R K (n + 1) 49 [v0, v1, v2, .inl (true, z), v4] k s = (rn_9_part ns ct R K n 50 [v0, v1, v2, .inl (true, z), v4] (.inl (true, z) :: k) s) := rfl
theorem rx_9_part_50 {ns n ct R K s k z v1 v2 v3 v4} : rn_9_part ns ct R K (n + 1) 50 [.inr (.inr (some z)), v1, v2, v3, v4] k s = (rn_9_part ns ct R K n 51 [.inr (.inr (some z)), v1, v2, v3, v4] (.inr (.inr (some z)) :: k) s) := rfl
theorem rx_9_part_51 {ns n ct R K s L k a} : rn_9_part ns ct R K (n + 1) 51 L (.inr (.inr (some (some a))) :: k) s = (sy_ob a = some 9 ∧ rn_9_part ns ct R K n 54 L (sy_fv s a 7 :: k) s) := rfl
theorem rx_9_part_54 {ns n ct R K s L k} : rn_9_part ns ct R K (n + 1) 54 L k s = (rn_9_part ns ct R K n 55 L (.inl (true, 3) :: k) s) := rfl
theorem rx_9_part_55 {ns n ct R K s k z v0 v1 v3 v4} : rn_9_part ns ct R K (n + 1) 55 [v0, v1, .inl (true, z), v3, v4] k s = (rn_9_part ns ct R K n 56 [v0, v1, .inl (true, z), v3, v4] (.inl (true, z) :: k) s) := rfl
theorem rx_9_part_56 {ns n ct R K s L k a b x y} : rn_9_part ns ct R K (n + 1) 56 L (.inl (b, y) :: .inl (a, x) :: k) s = (rn_9_part ns ct R K n 57 L (.inl (false, x * y) :: k) s) := rfl
theorem rx_9_part_57 {ns n ct R K s L k} : rn_9_part ns ct R K (n + 1) 57 L k s = (rn_9_part ns ct R K n 58 L (.inl (true, 2) :: k) s) := rfl
theorem rx_9_part_58 {ns n ct R K s L k a b x y} : rn_9_part ns ct R K (n + 1) 58 L (.inl (b, y) :: .inl (a, x) :: k) s = (rn_9_part ns ct R K n 59 L (.inl (false, x + y) :: k) s) := rfl
theorem rx_9_part_59 {ns n ct R K s L k a b z} : rn_9_part ns ct R K (n + 1) 59 L (.inl (b, z) :: .inr (.inr (some (some a))) :: k) s = ((0 ≤ z ∧ z < (sy_ar a).2) ∧ sy_ob a = none ∧ (sy_ar a).1 = 0 ∧ rn_9_part ns ct R K n 60 L (.inl (true, s a z.toNat) :: k) s) := rfl
theorem rx_9_part_60 {ns n ct R K s L k a b x y} : rn_9_part ns ct R K (n + 1) 60 L (.inl (b, y) :: .inl (a, x) :: k) s = (sy_ri a x ∧ sy_ri b y ∧ y ≠ 0 ∧ rn_9_part ns ct R K n 61 L (.inl (false, x.tmod y) :: k) s) := rfl
theorem rx_9_part_61 {ns n ct R K s L k a b x y} : rn_9_part ns ct R K (n + 1) 61 L (.inl (b, y) :: .inl (a, x) :: k) s = (rn_9_part ns ct R K n 62 L (.inl (false, x * y) :: k) s) := rfl
theorem rx_9_part_62 {ns n ct R K s L k a b x y} : rn_9_part ns ct R K (n + 1) 62 L (.inl (b, y) :: .inl (a, x) :: k) s = (rn_9_part ns ct R K n 63 L (.inl (false, x + y) :: k) s) := rfl
theorem rx_9_part_63 {ns n ct R K s L a z} : rn_9_part ns ct R K (n + 1) 63 L [.inl (a, z)] s = (sy_ri a z ∧ sy_b01 false z ∧ R (some (.inl (true, z))) s) := rfl
def y_9_isFigure : MethodName := ⟨"StarHideModel", "isFigure", "(I)Z"⟩
abbrev c_9_isFigure : ByteArray := prog_11_method_19_code
def tc_9_isFigure (pc : Nat) : Option sy_I := match pc with
  | 0 => some (.iload_n 1, 1, 0)
  | 1 => some (.ifCond .lt 15, 4, 16)
  | 4 => some (.iload_n 1, 5, 0)
  | 5 => some (.aload_n 0, 6, 0)
  | 6 => some (.invokevirtual 89, 9, 0)
  | 9 => some (.if_icmp .ge 7, 12, 16)
  | 12 => some (.iconst 1, 13, 0)
  | 13 => some (.goto 4, 16, 17)
  | 16 => some (.iconst 0, 17, 0)
  | 17 => some (.ireturn, 18, 0)
  | _ => none
theorem tv_9_isFigure : ∀ pc i, sy_lk 18 tc_9_isFigure pc = some i → sy_chk c_9_isFigure (some .boolean) true pc i = true := sy_lk_ok 18 tc_9_isFigure (by decide +kernel)
def Mk_9_isFigure (ct : Nat → Option (Bool × Nat × sy_Sp)) : sy_M := (sy_lk 18 tc_9_isFigure, ff_9, ki_9, kl_9, ct, true)
def rn_9_isFigure (ns : Nat) (ct : Nat → Option (Bool × Nat × sy_Sp)) (R : sy_R) (K : sy_K) : Nat → sy_K := sy_run ns (Mk_9_isFigure ct) [] R K
theorem rx_9_isFigure_0 {ns n ct R K s k z v0} : rn_9_isFigure ns ct R K (n + 1) 0 [v0, .inl (true, z)] k s = (rn_9_isFigure ns ct R K n 1 [v0, .inl (true, z)] (.inl (true, z) :: k) s) := rfl
theorem rx_9_isFigure_1 {ns n ct R K s L k a x} : rn_9_isFigure ns ct R K (n + 1) 1 L (.inl (a, x) :: k) s = (sy_ri a x ∧ (x < 0 → rn_9_isFigure ns ct R K n 16 L k s) ∧ (¬ x < 0 → rn_9_isFigure ns ct R K n 4 L k s)) := rfl
theorem rx_9_isFigure_4 {ns n ct R K s k z v0} : rn_9_isFigure ns ct R K (n + 1) 4 [v0, .inl (true, z)] k s = (rn_9_isFigure ns ct R K n 5 [v0, .inl (true, z)] (.inl (true, z) :: k) s) := rfl
theorem rx_9_isFigure_5 {ns n ct R K s k z v1} : rn_9_isFigure ns ct R K (n + 1) 5 [.inr (.inr (some z)), v1] k s = (rn_9_isFigure ns ct R K n 6 [.inr (.inr (some z)), v1] (.inr (.inr (some z)) :: k) s) := rfl
theorem rx_9_isFigure_6 {ns n ct R K s L k} : rn_9_isFigure ns ct R K (n + 1) 6 L k s = (sy_call false (ct 89) k s fun r t => rn_9_isFigure ns ct R K n 9 L r t) := rfl
theorem rx_9_isFigure_9 {ns n ct R K s L k a b x y} : rn_9_isFigure ns ct R K (n + 1) 9 L (.inl (b, y) :: .inl (a, x) :: k) s = (sy_ri a x ∧ sy_ri b y ∧ (y ≤ x → rn_9_isFigure ns ct R K n 16 L k s) ∧ (¬ y ≤ x → rn_9_isFigure ns ct R K n 12 L k s)) := rfl
theorem rx_9_isFigure_12 {ns n ct R K s L k} : rn_9_isFigure ns ct R K (n + 1) 12 L k s = (rn_9_isFigure ns ct R K n 13 L (.inl (true, 1) :: k) s) := rfl
theorem rx_9_isFigure_13 {ns n ct R K s L k} : rn_9_isFigure ns ct R K (n + 1) 13 L k s = (rn_9_isFigure ns ct R K n 17 L k s) := rfl
theorem rx_9_isFigure_16 {ns n ct R K s L k} : rn_9_isFigure ns ct R K (n + 1) 16 L k s = (rn_9_isFigure ns ct R K n 17 L (.inl (true, 0) :: k) s) := rfl
theorem rx_9_isFigure_17 {ns n ct R K s L a z} : rn_9_isFigure ns ct R K (n + 1) 17 L [.inl (a, z)] s = (sy_ri a z ∧ sy_b01 true z ∧ R (some (.inl (true, z))) s) := rfl
def y_9_figure : MethodName := ⟨"StarHideModel", "figure", "(II)I"⟩
abbrev c_9_figure : ByteArray := prog_11_method_20_code
def tc_9_figure (pc : Nat) : Option sy_I := match pc with
  | 0 => some (.aload_n 0, 1, 0)
  | 1 => some (.iload_n 1, 2, 0)
  | 2 => some (.invokevirtual 93, 5, 0)
  | 5 => some (.ifCond .eq 12, 8, 17)
  | 8 => some (.iload_n 2, 9, 0)
  | 9 => some (.iconst 0, 10, 0)
  | 10 => some (.iconst 3, 11, 0)
  | 11 => some (.invokestatic 69, 14, 0)
  | 14 => some (.ifCond .ne 8, 17, 22)
  | 17 => some (.ldc 88, 19, 0)
  | 19 => some (.goto 9, 22, 28)
  | 22 => some (.aload_n 0, 23, 0)
  | 23 => some (.iload_n 1, 24, 0)
  | 24 => some (.iload_n 2, 25, 0)
  | 25 => some (.invokevirtual 96, 28, 0)
  | 28 => some (.ireturn, 29, 0)
  | _ => none
theorem tv_9_figure : ∀ pc i, sy_lk 29 tc_9_figure pc = some i → sy_chk c_9_figure (some .int) false pc i = true := sy_lk_ok 29 tc_9_figure (by decide +kernel)
def Mk_9_figure (ct : Nat → Option (Bool × Nat × sy_Sp)) : sy_M := (sy_lk 29 tc_9_figure, ff_9, ki_9, kl_9, ct, false)
def rn_9_figure (ns : Nat) (ct : Nat → Option (Bool × Nat × sy_Sp)) (R : sy_R) (K : sy_K) : Nat → sy_K := sy_run ns (Mk_9_figure ct) [] R K
theorem rx_9_figure_0 {ns n ct R K s k z v1 v2} : rn_9_figure ns ct R K (n + 1) 0 [.inr (.inr (some z)), v1, v2] k s = (rn_9_figure ns ct R K n 1 [.inr (.inr (some z)), v1, v2] (.inr (.inr (some z)) :: k) s) := rfl
theorem rx_9_figure_1 {ns n ct R K s k z v0 v2} : rn_9_figure ns ct R K (n + 1) 1 [v0, .inl (true, z), v2] k s = (rn_9_figure ns ct R K n 2 [v0, .inl (true, z), v2] (.inl (true, z) :: k) s) := rfl
theorem rx_9_figure_2 {ns n ct R K s L k} : rn_9_figure ns ct R K (n + 1) 2 L k s = (sy_call false (ct 93) k s fun r t => rn_9_figure ns ct R K n 5 L r t) := rfl
theorem rx_9_figure_5 {ns n ct R K s L k a x} : rn_9_figure ns ct R K (n + 1) 5 L (.inl (a, x) :: k) s = (sy_ri a x ∧ (x = 0 → rn_9_figure ns ct R K n 17 L k s) ∧ (¬ x = 0 → rn_9_figure ns ct R K n 8 L k s)) := rfl
theorem rx_9_figure_8 {ns n ct R K s k z v0 v1} : rn_9_figure ns ct R K (n + 1) 8 [v0, v1, .inl (true, z)] k s = (rn_9_figure ns ct R K n 9 [v0, v1, .inl (true, z)] (.inl (true, z) :: k) s) := rfl
theorem rx_9_figure_9 {ns n ct R K s L k} : rn_9_figure ns ct R K (n + 1) 9 L k s = (rn_9_figure ns ct R K n 10 L (.inl (true, 0) :: k) s) := rfl
theorem rx_9_figure_10 {ns n ct R K s L k} : rn_9_figure ns ct R K (n + 1) 10 L k s = (rn_9_figure ns ct R K n 11 L (.inl (true, 3) :: k) s) := rfl
theorem rx_9_figure_11 {ns n ct R K s L k} : rn_9_figure ns ct R K (n + 1) 11 L k s = (sy_call true (ct 69) k s fun r t => rn_9_figure ns ct R K n 14 L r t) := rfl
theorem rx_9_figure_14 {ns n ct R K s L k a x} : rn_9_figure ns ct R K (n + 1) 14 L (.inl (a, x) :: k) s = (sy_ri a x ∧ (¬ x = 0 → rn_9_figure ns ct R K n 22 L k s) ∧ (x = 0 → rn_9_figure ns ct R K n 17 L k s)) := rfl
theorem rx_9_figure_17 {ns n ct R K s L k} : rn_9_figure ns ct R K (n + 1) 17 L k s = (rn_9_figure ns ct R K n 19 L (.inl (true, -1000000) :: k) s) := rfl
theorem rx_9_figure_19 {ns n ct R K s L k} : rn_9_figure ns ct R K (n + 1) 19 L k s = (rn_9_figure ns ct R K n 28 L k s) := rfl
theorem rx_9_figure_22 {ns n ct R K s k z v1 v2} : rn_9_figure ns ct R K (n + 1) 22 [.inr (.inr (some z)), v1, v2] k s = (rn_9_figure ns ct R K n 23 [.inr (.inr (some z)), v1, v2] (.inr (.inr (some z)) :: k) s) := rfl
theorem rx_9_figure_23 {ns n ct R K s k z v0 v2} : rn_9_figure ns ct R K (n + 1) 23 [v0, .inl (true, z), v2] k s = (rn_9_figure ns ct R K n 24 [v0, .inl (true, z), v2] (.inl (true, z) :: k) s) := rfl
theorem rx_9_figure_24 {ns n ct R K s k z v0 v1} : rn_9_figure ns ct R K (n + 1) 24 [v0, v1, .inl (true, z)] k s = (rn_9_figure ns ct R K n 25 [v0, v1, .inl (true, z)] (.inl (true, z) :: k) s) := rfl
theorem rx_9_figure_25 {ns n ct R K s L k} : rn_9_figure ns ct R K (n + 1) 25 L k s = (sy_call false (ct 96) k s fun r t => rn_9_figure ns ct R K n 28 L r t) := rfl
theorem rx_9_figure_28 {ns n ct R K s L a z} : rn_9_figure ns ct R K (n + 1) 28 L [.inl (a, z)] s = (sy_ri a z ∧ sy_b01 false z ∧ R (some (.inl (true, z))) s) := rfl
def y_9_half : MethodName := ⟨"StarHideModel", "half", "(IIJ)I"⟩
abbrev c_9_half : ByteArray := prog_11_method_21_code
def tc_9_half (pc : Nat) : Option sy_I := match pc with
  | 0 => some (.lload_n 3, 1, 0)
  | 1 => some (.lconst 0, 2, 0)
  | 2 => some (.lcmp, 3, 0)
  | 3 => some (.ifCond .ge 5, 6, 8)
  | 6 => some (.iconst 1, 7, 0)
  | 7 => some (.ireturn, 8, 0)
  | 8 => some (.aload_n 0, 9, 0)
  | 9 => some (.iload_n 1, 10, 0)
  | 10 => some (.iconst 3, 11, 0)
  | 11 => some (.invokevirtual 96, 14, 0)
  | 14 => some (.i2l, 15, 0)
  | 15 => some (.lstore 5, 17, 0)
  | 17 => some (.aload_n 0, 18, 0)
  | 18 => some (.iload_n 1, 19, 0)
  | 19 => some (.iconst 2, 20, 0)
  | 20 => some (.invokevirtual 96, 23, 0)
  | 23 => some (.i2l, 24, 0)
  | 24 => some (.lstore 7, 26, 0)
  | 26 => some (.iload_n 2, 27, 0)
  | 27 => some (.aload_n 0, 28, 0)
  | 28 => some (.iload_n 1, 29, 0)
  | 29 => some (.iconst 1, 30, 0)
  | 30 => some (.invokevirtual 96, 33, 0)
  | 33 => some (.isub, 34, 0)
  | 34 => some (.i2l, 35, 0)
  | 35 => some (.lstore 9, 37, 0)
  | 37 => some (.lload 7, 39, 0)
  | 39 => some (.lload 7, 41, 0)
  | 41 => some (.lmul, 42, 0)
  | 42 => some (.lload 5, 44, 0)
  | 44 => some (.lload 5, 46, 0)
  | 46 => some (.lmul, 47, 0)
  | 47 => some (.lload 9, 49, 0)
  | 49 => some (.lload 9, 51, 0)
  | 51 => some (.lmul, 52, 0)
  | 52 => some (.lsub, 53, 0)
  | 53 => some (.lmul, 54, 0)
  | 54 => some (.lstore 11, 56, 0)
  | 56 => some (.lload_n 3, 57, 0)
  | 57 => some (.lload_n 3, 58, 0)
  | 58 => some (.lmul, 59, 0)
  | 59 => some (.lload 5, 61, 0)
  | 61 => some (.lmul, 62, 0)
  | 62 => some (.lload 5, 64, 0)
  | 64 => some (.lmul, 65, 0)
  | 65 => some (.lstore 13, 67, 0)
  | 67 => some (.lload 11, 69, 0)
  | 69 => some (.lload 13, 71, 0)
  | 71 => some (.lcmp, 72, 0)
  | 72 => some (.ifCond .ge 7, 75, 79)
  | 75 => some (.iconst (-1), 76, 0)
  | 76 => some (.goto 16, 79, 92)
  | 79 => some (.lload 11, 81, 0)
  | 81 => some (.lload 13, 83, 0)
  | 83 => some (.lcmp, 84, 0)
  | 84 => some (.ifCond .le 7, 87, 91)
  | 87 => some (.iconst 1, 88, 0)
  | 88 => some (.goto 4, 91, 92)
  | 91 => some (.iconst 0, 92, 0)
  | 92 => some (.ireturn, 93, 0)
  | _ => none
theorem tv_9_half : ∀ pc i, sy_lk 93 tc_9_half pc = some i → sy_chk c_9_half (some .int) false pc i = true := sy_lk_ok 93 tc_9_half (by decide +kernel)
def Mk_9_half (ct : Nat → Option (Bool × Nat × sy_Sp)) : sy_M := (sy_lk 93 tc_9_half, ff_9, ki_9, kl_9, ct, false)
def rn_9_half (ns : Nat) (ct : Nat → Option (Bool × Nat × sy_Sp)) (R : sy_R) (K : sy_K) : Nat → sy_K := sy_run ns (Mk_9_half ct) [] R K
theorem rx_9_half_0 {ns n ct R K s k z v0 v1 v2 v4 v5 v6 v7 v8 v9 v10 v11 v12 v13 v14} : rn_9_half ns ct R K (n + 1) 0 [v0, v1, v2, .inr (.inl (true, z)), v4, v5, v6, v7, v8, v9, v10, v11, v12, v13, v14] k s = (rn_9_half ns ct R K n 1 [v0, v1, v2, .inr (.inl (true, z)), v4, v5, v6, v7, v8, v9, v10, v11, v12, v13, v14] (.inr (.inl (true, z)) :: k) s) := rfl
theorem rx_9_half_1 {ns n ct R K s L k} : rn_9_half ns ct R K (n + 1) 1 L k s = (rn_9_half ns ct R K n 2 L (.inr (.inl (true, 0)) :: k) s) := rfl
theorem rx_9_half_2 {ns n ct R K s L k a b x y} : rn_9_half ns ct R K (n + 1) 2 L (.inr (.inl (b, y)) :: .inr (.inl (a, x)) :: k) s = (sy_rl a x ∧ sy_rl b y ∧ rn_9_half ns ct R K n 3 L (.inl (true, sy_cmp x y) :: k) s) := rfl
theorem rx_9_half_3 {ns n ct R K s L k a x} : rn_9_half ns ct R K (n + 1) 3 L (.inl (a, x) :: k) s = (sy_ri a x ∧ (0 ≤ x → rn_9_half ns ct R K n 8 L k s) ∧ (¬ 0 ≤ x → rn_9_half ns ct R K n 6 L k s)) := rfl
theorem rx_9_half_6 {ns n ct R K s L k} : rn_9_half ns ct R K (n + 1) 6 L k s = (rn_9_half ns ct R K n 7 L (.inl (true, 1) :: k) s) := rfl
theorem rx_9_half_7 {ns n ct R K s L a z} : rn_9_half ns ct R K (n + 1) 7 L [.inl (a, z)] s = (sy_ri a z ∧ sy_b01 false z ∧ R (some (.inl (true, z))) s) := rfl
theorem rx_9_half_8 {ns n ct R K s k z v1 v2 v3 v4 v5 v6 v7 v8 v9 v10 v11 v12 v13 v14} : rn_9_half ns ct R K (n + 1) 8 [.inr (.inr (some z)), v1, v2, v3, v4, v5, v6, v7, v8, v9, v10, v11, v12, v13, v14] k s = (rn_9_half ns ct R K n 9 [.inr (.inr (some z)), v1, v2, v3, v4, v5, v6, v7, v8, v9, v10, v11, v12, v13, v14] (.inr (.inr (some z)) :: k) s) := rfl
theorem rx_9_half_9 {ns n ct R K s k z v0 v2 v3 v4 v5 v6 v7 v8 v9 v10 v11 v12 v13 v14} : rn_9_half ns ct R K (n + 1) 9 [v0, .inl (true, z), v2, v3, v4, v5, v6, v7, v8, v9, v10, v11, v12, v13, v14] k s = (rn_9_half ns ct R K n 10 [v0, .inl (true, z), v2, v3, v4, v5, v6, v7, v8, v9, v10, v11, v12, v13, v14] (.inl (true, z) :: k) s) := rfl
theorem rx_9_half_10 {ns n ct R K s L k} : rn_9_half ns ct R K (n + 1) 10 L k s = (rn_9_half ns ct R K n 11 L (.inl (true, 3) :: k) s) := rfl
theorem rx_9_half_11 {ns n ct R K s L k} : rn_9_half ns ct R K (n + 1) 11 L k s = (sy_call false (ct 96) k s fun r t => rn_9_half ns ct R K n 14 L r t) := rfl
theorem rx_9_half_14 {ns n ct R K s L k a x} : rn_9_half ns ct R K (n + 1) 14 L (.inl (a, x) :: k) s = (sy_ri a x ∧ rn_9_half ns ct R K n 15 L (.inr (.inl (true, x)) :: k) s) := rfl
theorem rx_9_half_15 {ns n ct R K s L k b z} : rn_9_half ns ct R K (n + 1) 15 L (.inr (.inl (b, z)) :: k) s = (sy_rl b z ∧ 6 < L.length ∧ rn_9_half ns ct R K n 17 (sy_gone (sy_sto L 5 (.inr (.inl (true, z)))) 6) k s) := rfl
theorem rx_9_half_17 {ns n ct R K s k z v1 v2 v3 v4 v5 v6 v7 v8 v9 v10 v11 v12 v13 v14} : rn_9_half ns ct R K (n + 1) 17 [.inr (.inr (some z)), v1, v2, v3, v4, v5, v6, v7, v8, v9, v10, v11, v12, v13, v14] k s = (rn_9_half ns ct R K n 18 [.inr (.inr (some z)), v1, v2, v3, v4, v5, v6, v7, v8, v9, v10, v11, v12, v13, v14] (.inr (.inr (some z)) :: k) s) := rfl
theorem rx_9_half_18 {ns n ct R K s k z v0 v2 v3 v4 v5 v6 v7 v8 v9 v10 v11 v12 v13 v14} : rn_9_half ns ct R K (n + 1) 18 [v0, .inl (true, z), v2, v3, v4, v5, v6, v7, v8, v9, v10, v11, v12, v13, v14] k s = (rn_9_half ns ct R K n 19 [v0, .inl (true, z), v2, v3, v4, v5, v6, v7, v8, v9, v10, v11, v12, v13, v14] (.inl (true, z) :: k) s) := rfl
theorem rx_9_half_19 {ns n ct R K s L k} : rn_9_half ns ct R K (n + 1) 19 L k s = (rn_9_half ns ct R K n 20 L (.inl (true, 2) :: k) s) := rfl
theorem rx_9_half_20 {ns n ct R K s L k} : rn_9_half ns ct R K (n + 1) 20 L k s = (sy_call false (ct 96) k s fun r t => rn_9_half ns ct R K n 23 L r t) := rfl
theorem rx_9_half_23 {ns n ct R K s L k a x} : rn_9_half ns ct R K (n + 1) 23 L (.inl (a, x) :: k) s = (sy_ri a x ∧ rn_9_half ns ct R K n 24 L (.inr (.inl (true, x)) :: k) s) := rfl
theorem rx_9_half_24 {ns n ct R K s L k b z} : rn_9_half ns ct R K (n + 1) 24 L (.inr (.inl (b, z)) :: k) s = (sy_rl b z ∧ 8 < L.length ∧ rn_9_half ns ct R K n 26 (sy_gone (sy_sto L 7 (.inr (.inl (true, z)))) 8) k s) := rfl
theorem rx_9_half_26 {ns n ct R K s k z v0 v1 v3 v4 v5 v6 v7 v8 v9 v10 v11 v12 v13 v14} : rn_9_half ns ct R K (n + 1) 26 [v0, v1, .inl (true, z), v3, v4, v5, v6, v7, v8, v9, v10, v11, v12, v13, v14] k s = (rn_9_half ns ct R K n 27 [v0, v1, .inl (true, z), v3, v4, v5, v6, v7, v8, v9, v10, v11, v12, v13, v14] (.inl (true, z) :: k) s) := rfl
theorem rx_9_half_27 {ns n ct R K s k z v1 v2 v3 v4 v5 v6 v7 v8 v9 v10 v11 v12 v13 v14} : rn_9_half ns ct R K (n + 1) 27 [.inr (.inr (some z)), v1, v2, v3, v4, v5, v6, v7, v8, v9, v10, v11, v12, v13, v14] k s = (rn_9_half ns ct R K n 28 [.inr (.inr (some z)), v1, v2, v3, v4, v5, v6, v7, v8, v9, v10, v11, v12, v13, v14] (.inr (.inr (some z)) :: k) s) := rfl
theorem rx_9_half_28 {ns n ct R K s k z v0 v2 v3 v4 v5 v6 v7 v8 v9 v10 v11 v12 v13 v14} : rn_9_half ns ct R K (n + 1) 28 [v0, .inl (true, z), v2, v3, v4, v5, v6, v7, v8, v9, v10, v11, v12, v13, v14] k s = (rn_9_half ns ct R K n 29 [v0, .inl (true, z), v2, v3, v4, v5, v6, v7, v8, v9, v10, v11, v12, v13, v14] (.inl (true, z) :: k) s) := rfl
theorem rx_9_half_29 {ns n ct R K s L k} : rn_9_half ns ct R K (n + 1) 29 L k s = (rn_9_half ns ct R K n 30 L (.inl (true, 1) :: k) s) := rfl
theorem rx_9_half_30 {ns n ct R K s L k} : rn_9_half ns ct R K (n + 1) 30 L k s = (sy_call false (ct 96) k s fun r t => rn_9_half ns ct R K n 33 L r t) := rfl
theorem rx_9_half_33 {ns n ct R K s L k a b x y} : rn_9_half ns ct R K (n + 1) 33 L (.inl (b, y) :: .inl (a, x) :: k) s = (rn_9_half ns ct R K n 34 L (.inl (false, x - y) :: k) s) := rfl
theorem rx_9_half_34 {ns n ct R K s L k a x} : rn_9_half ns ct R K (n + 1) 34 L (.inl (a, x) :: k) s = (sy_ri a x ∧ rn_9_half ns ct R K n 35 L (.inr (.inl (true, x)) :: k) s) := rfl
theorem rx_9_half_35 {ns n ct R K s L k b z} : rn_9_half ns ct R K (n + 1) 35 L (.inr (.inl (b, z)) :: k) s = (sy_rl b z ∧ 10 < L.length ∧ rn_9_half ns ct R K n 37 (sy_gone (sy_sto L 9 (.inr (.inl (true, z)))) 10) k s) := rfl
theorem rx_9_half_37 {ns n ct R K s k z v0 v1 v2 v3 v4 v5 v6 v8 v9 v10 v11 v12 v13 v14} : rn_9_half ns ct R K (n + 1) 37 [v0, v1, v2, v3, v4, v5, v6, .inr (.inl (true, z)), v8, v9, v10, v11, v12, v13, v14] k s = (rn_9_half ns ct R K n 39 [v0, v1, v2, v3, v4, v5, v6, .inr (.inl (true, z)), v8, v9, v10, v11, v12, v13, v14] (.inr (.inl (true, z)) :: k) s) := rfl
theorem rx_9_half_39 {ns n ct R K s k z v0 v1 v2 v3 v4 v5 v6 v8 v9 v10 v11 v12 v13 v14} : rn_9_half ns ct R K (n + 1) 39 [v0, v1, v2, v3, v4, v5, v6, .inr (.inl (true, z)), v8, v9, v10, v11, v12, v13, v14] k s = (rn_9_half ns ct R K n 41 [v0, v1, v2, v3, v4, v5, v6, .inr (.inl (true, z)), v8, v9, v10, v11, v12, v13, v14] (.inr (.inl (true, z)) :: k) s) := rfl
theorem rx_9_half_41 {ns n ct R K s L k a b x y} : rn_9_half ns ct R K (n + 1) 41 L (.inr (.inl (b, y)) :: .inr (.inl (a, x)) :: k) s = (rn_9_half ns ct R K n 42 L (.inr (.inl (false, x * y)) :: k) s) := rfl
theorem rx_9_half_42 {ns n ct R K s k z v0 v1 v2 v3 v4 v6 v7 v8 v9 v10 v11 v12 v13 v14} : rn_9_half ns ct R K (n + 1) 42 [v0, v1, v2, v3, v4, .inr (.inl (true, z)), v6, v7, v8, v9, v10, v11, v12, v13, v14] k s = (rn_9_half ns ct R K n 44 [v0, v1, v2, v3, v4, .inr (.inl (true, z)), v6, v7, v8, v9, v10, v11, v12, v13, v14] (.inr (.inl (true, z)) :: k) s) := rfl
theorem rx_9_half_44 {ns n ct R K s k z v0 v1 v2 v3 v4 v6 v7 v8 v9 v10 v11 v12 v13 v14} : rn_9_half ns ct R K (n + 1) 44 [v0, v1, v2, v3, v4, .inr (.inl (true, z)), v6, v7, v8, v9, v10, v11, v12, v13, v14] k s = (rn_9_half ns ct R K n 46 [v0, v1, v2, v3, v4, .inr (.inl (true, z)), v6, v7, v8, v9, v10, v11, v12, v13, v14] (.inr (.inl (true, z)) :: k) s) := rfl
theorem rx_9_half_46 {ns n ct R K s L k a b x y} : rn_9_half ns ct R K (n + 1) 46 L (.inr (.inl (b, y)) :: .inr (.inl (a, x)) :: k) s = (rn_9_half ns ct R K n 47 L (.inr (.inl (false, x * y)) :: k) s) := rfl
theorem rx_9_half_47 {ns n ct R K s k z v0 v1 v2 v3 v4 v5 v6 v7 v8 v10 v11 v12 v13 v14} : rn_9_half ns ct R K (n + 1) 47 [v0, v1, v2, v3, v4, v5, v6, v7, v8, .inr (.inl (true, z)), v10, v11, v12, v13, v14] k s = (rn_9_half ns ct R K n 49 [v0, v1, v2, v3, v4, v5, v6, v7, v8, .inr (.inl (true, z)), v10, v11, v12, v13, v14] (.inr (.inl (true, z)) :: k) s) := rfl
theorem rx_9_half_49 {ns n ct R K s k z v0 v1 v2 v3 v4 v5 v6 v7 v8 v10 v11 v12 v13 v14} : rn_9_half ns ct R K (n + 1) 49 [v0, v1, v2, v3, v4, v5, v6, v7, v8, .inr (.inl (true, z)), v10, v11, v12, v13, v14] k s = (rn_9_half ns ct R K n 51 [v0, v1, v2, v3, v4, v5, v6, v7, v8, .inr (.inl (true, z)), v10, v11, v12, v13, v14] (.inr (.inl (true, z)) :: k) s) := rfl
theorem rx_9_half_51 {ns n ct R K s L k a b x y} : rn_9_half ns ct R K (n + 1) 51 L (.inr (.inl (b, y)) :: .inr (.inl (a, x)) :: k) s = (rn_9_half ns ct R K n 52 L (.inr (.inl (false, x * y)) :: k) s) := rfl
theorem rx_9_half_52 {ns n ct R K s L k a b x y} : rn_9_half ns ct R K (n + 1) 52 L (.inr (.inl (b, y)) :: .inr (.inl (a, x)) :: k) s = (rn_9_half ns ct R K n 53 L (.inr (.inl (false, x - y)) :: k) s) := rfl
theorem rx_9_half_53 {ns n ct R K s L k a b x y} : rn_9_half ns ct R K (n + 1) 53 L (.inr (.inl (b, y)) :: .inr (.inl (a, x)) :: k) s = (rn_9_half ns ct R K n 54 L (.inr (.inl (false, x * y)) :: k) s) := rfl
theorem rx_9_half_54 {ns n ct R K s L k b z} : rn_9_half ns ct R K (n + 1) 54 L (.inr (.inl (b, z)) :: k) s = (sy_rl b z ∧ 12 < L.length ∧ rn_9_half ns ct R K n 56 (sy_gone (sy_sto L 11 (.inr (.inl (true, z)))) 12) k s) := rfl
theorem rx_9_half_56 {ns n ct R K s k z v0 v1 v2 v4 v5 v6 v7 v8 v9 v10 v11 v12 v13 v14} : rn_9_half ns ct R K (n + 1) 56 [v0, v1, v2, .inr (.inl (true, z)), v4, v5, v6, v7, v8, v9, v10, v11, v12, v13, v14] k s = (rn_9_half ns ct R K n 57 [v0, v1, v2, .inr (.inl (true, z)), v4, v5, v6, v7, v8, v9, v10, v11, v12, v13, v14] (.inr (.inl (true, z)) :: k) s) := rfl
theorem rx_9_half_57 {ns n ct R K s k z v0 v1 v2 v4 v5 v6 v7 v8 v9 v10 v11 v12 v13 v14} : rn_9_half ns ct R K (n + 1) 57 [v0, v1, v2, .inr (.inl (true, z)), v4, v5, v6, v7, v8, v9, v10, v11, v12, v13, v14] k s = (rn_9_half ns ct R K n 58 [v0, v1, v2, .inr (.inl (true, z)), v4, v5, v6, v7, v8, v9, v10, v11, v12, v13, v14] (.inr (.inl (true, z)) :: k) s) := rfl
theorem rx_9_half_58 {ns n ct R K s L k a b x y} : rn_9_half ns ct R K (n + 1) 58 L (.inr (.inl (b, y)) :: .inr (.inl (a, x)) :: k) s = (rn_9_half ns ct R K n 59 L (.inr (.inl (false, x * y)) :: k) s) := rfl
theorem rx_9_half_59 {ns n ct R K s k z v0 v1 v2 v3 v4 v6 v7 v8 v9 v10 v11 v12 v13 v14} : rn_9_half ns ct R K (n + 1) 59 [v0, v1, v2, v3, v4, .inr (.inl (true, z)), v6, v7, v8, v9, v10, v11, v12, v13, v14] k s = (rn_9_half ns ct R K n 61 [v0, v1, v2, v3, v4, .inr (.inl (true, z)), v6, v7, v8, v9, v10, v11, v12, v13, v14] (.inr (.inl (true, z)) :: k) s) := rfl
theorem rx_9_half_61 {ns n ct R K s L k a b x y} : rn_9_half ns ct R K (n + 1) 61 L (.inr (.inl (b, y)) :: .inr (.inl (a, x)) :: k) s = (rn_9_half ns ct R K n 62 L (.inr (.inl (false, x * y)) :: k) s) := rfl
theorem rx_9_half_62 {ns n ct R K s k z v0 v1 v2 v3 v4 v6 v7 v8 v9 v10 v11 v12 v13 v14} : rn_9_half ns ct R K (n + 1) 62 [v0, v1, v2, v3, v4, .inr (.inl (true, z)), v6, v7, v8, v9, v10, v11, v12, v13, v14] k s = (rn_9_half ns ct R K n 64 [v0, v1, v2, v3, v4, .inr (.inl (true, z)), v6, v7, v8, v9, v10, v11, v12, v13, v14] (.inr (.inl (true, z)) :: k) s) := rfl
theorem rx_9_half_64 {ns n ct R K s L k a b x y} : rn_9_half ns ct R K (n + 1) 64 L (.inr (.inl (b, y)) :: .inr (.inl (a, x)) :: k) s = (rn_9_half ns ct R K n 65 L (.inr (.inl (false, x * y)) :: k) s) := rfl
theorem rx_9_half_65 {ns n ct R K s L k b z} : rn_9_half ns ct R K (n + 1) 65 L (.inr (.inl (b, z)) :: k) s = (sy_rl b z ∧ 14 < L.length ∧ rn_9_half ns ct R K n 67 (sy_gone (sy_sto L 13 (.inr (.inl (true, z)))) 14) k s) := rfl
theorem rx_9_half_67 {ns n ct R K s k z v0 v1 v2 v3 v4 v5 v6 v7 v8 v9 v10 v12 v13 v14} : rn_9_half ns ct R K (n + 1) 67 [v0, v1, v2, v3, v4, v5, v6, v7, v8, v9, v10, .inr (.inl (true, z)), v12, v13, v14] k s = (rn_9_half ns ct R K n 69 [v0, v1, v2, v3, v4, v5, v6, v7, v8, v9, v10, .inr (.inl (true, z)), v12, v13, v14] (.inr (.inl (true, z)) :: k) s) := rfl
theorem rx_9_half_69 {ns n ct R K s k z v0 v1 v2 v3 v4 v5 v6 v7 v8 v9 v10 v11 v12 v14} : rn_9_half ns ct R K (n + 1) 69 [v0, v1, v2, v3, v4, v5, v6, v7, v8, v9, v10, v11, v12, .inr (.inl (true, z)), v14] k s = (rn_9_half ns ct R K n 71 [v0, v1, v2, v3, v4, v5, v6, v7, v8, v9, v10, v11, v12, .inr (.inl (true, z)), v14] (.inr (.inl (true, z)) :: k) s) := rfl
theorem rx_9_half_71 {ns n ct R K s L k a b x y} : rn_9_half ns ct R K (n + 1) 71 L (.inr (.inl (b, y)) :: .inr (.inl (a, x)) :: k) s = (sy_rl a x ∧ sy_rl b y ∧ rn_9_half ns ct R K n 72 L (.inl (true, sy_cmp x y) :: k) s) := rfl
theorem rx_9_half_72 {ns n ct R K s L k a x} : rn_9_half ns ct R K (n + 1) 72 L (.inl (a, x) :: k) s = (sy_ri a x ∧ (0 ≤ x → rn_9_half ns ct R K n 79 L k s) ∧ (¬ 0 ≤ x → rn_9_half ns ct R K n 75 L k s)) := rfl
theorem rx_9_half_75 {ns n ct R K s L k} : rn_9_half ns ct R K (n + 1) 75 L k s = (rn_9_half ns ct R K n 76 L (.inl (true, (-1)) :: k) s) := rfl
theorem rx_9_half_76 {ns n ct R K s L k} : rn_9_half ns ct R K (n + 1) 76 L k s = (rn_9_half ns ct R K n 92 L k s) := rfl
theorem rx_9_half_79 {ns n ct R K s k z v0 v1 v2 v3 v4 v5 v6 v7 v8 v9 v10 v12 v13 v14} : rn_9_half ns ct R K (n + 1) 79 [v0, v1, v2, v3, v4, v5, v6, v7, v8, v9, v10, .inr (.inl (true, z)), v12, v13, v14] k s = (rn_9_half ns ct R K n 81 [v0, v1, v2, v3, v4, v5, v6, v7, v8, v9, v10, .inr (.inl (true, z)), v12, v13, v14] (.inr (.inl (true, z)) :: k) s) := rfl
theorem rx_9_half_81 {ns n ct R K s k z v0 v1 v2 v3 v4 v5 v6 v7 v8 v9 v10 v11 v12 v14} : rn_9_half ns ct R K (n + 1) 81 [v0, v1, v2, v3, v4, v5, v6, v7, v8, v9, v10, v11, v12, .inr (.inl (true, z)), v14] k s = (rn_9_half ns ct R K n 83 [v0, v1, v2, v3, v4, v5, v6, v7, v8, v9, v10, v11, v12, .inr (.inl (true, z)), v14] (.inr (.inl (true, z)) :: k) s) := rfl
theorem rx_9_half_83 {ns n ct R K s L k a b x y} : rn_9_half ns ct R K (n + 1) 83 L (.inr (.inl (b, y)) :: .inr (.inl (a, x)) :: k) s = (sy_rl a x ∧ sy_rl b y ∧ rn_9_half ns ct R K n 84 L (.inl (true, sy_cmp x y) :: k) s) := rfl
theorem rx_9_half_84 {ns n ct R K s L k a x} : rn_9_half ns ct R K (n + 1) 84 L (.inl (a, x) :: k) s = (sy_ri a x ∧ (x ≤ 0 → rn_9_half ns ct R K n 91 L k s) ∧ (¬ x ≤ 0 → rn_9_half ns ct R K n 87 L k s)) := rfl
theorem rx_9_half_87 {ns n ct R K s L k} : rn_9_half ns ct R K (n + 1) 87 L k s = (rn_9_half ns ct R K n 88 L (.inl (true, 1) :: k) s) := rfl
theorem rx_9_half_88 {ns n ct R K s L k} : rn_9_half ns ct R K (n + 1) 88 L k s = (rn_9_half ns ct R K n 92 L k s) := rfl
theorem rx_9_half_91 {ns n ct R K s L k} : rn_9_half ns ct R K (n + 1) 91 L k s = (rn_9_half ns ct R K n 92 L (.inl (true, 0) :: k) s) := rfl
theorem rx_9_half_92 {ns n ct R K s L a z} : rn_9_half ns ct R K (n + 1) 92 L [.inl (a, z)] s = (sy_ri a z ∧ sy_b01 false z ∧ R (some (.inl (true, z))) s) := rfl
def y_9_goes : MethodName := ⟨"StarHideModel", "goes", "(II)Z"⟩
abbrev c_9_goes : ByteArray := prog_11_method_22_code
def tc_9_goes (pc : Nat) : Option sy_I := match pc with
  | 0 => some (.iload_n 2, 1, 0)
  | 1 => some (.aload_n 0, 2, 0)
  | 2 => some (.iload_n 1, 3, 0)
  | 3 => some (.iconst 1, 4, 0)
  | 4 => some (.invokevirtual 96, 7, 0)
  | 7 => some (.isub, 8, 0)
  | 8 => some (.i2l, 9, 0)
  | 9 => some (.lstore_n 3, 10, 0)
  | 10 => some (.lload_n 3, 11, 0)
  | 11 => some (.lconst 0, 12, 0)
  | 12 => some (.lcmp, 13, 0)
  | 13 => some (.ifCond .ge 8, 16, 21)
  | 16 => some (.lload_n 3, 17, 0)
  | 17 => some (.lneg, 18, 0)
  | 18 => some (.goto 4, 21, 22)
  | 21 => some (.lload_n 3, 22, 0)
  | 22 => some (.aload_n 0, 23, 0)
  | 23 => some (.iload_n 1, 24, 0)
  | 24 => some (.iconst 3, 25, 0)
  | 25 => some (.invokevirtual 96, 28, 0)
  | 28 => some (.i2l, 29, 0)
  | 29 => some (.lcmp, 30, 0)
  | 30 => some (.ifCond .ge 7, 33, 37)
  | 33 => some (.iconst 1, 34, 0)
  | 34 => some (.goto 4, 37, 38)
  | 37 => some (.iconst 0, 38, 0)
  | 38 => some (.ireturn, 39, 0)
  | _ => none
theorem tv_9_goes : ∀ pc i, sy_lk 39 tc_9_goes pc = some i → sy_chk c_9_goes (some .boolean) true pc i = true := sy_lk_ok 39 tc_9_goes (by decide +kernel)
def Mk_9_goes (ct : Nat → Option (Bool × Nat × sy_Sp)) : sy_M := (sy_lk 39 tc_9_goes, ff_9, ki_9, kl_9, ct, true)
def rn_9_goes (ns : Nat) (ct : Nat → Option (Bool × Nat × sy_Sp)) (R : sy_R) (K : sy_K) : Nat → sy_K := sy_run ns (Mk_9_goes ct) [] R K
theorem rx_9_goes_0 {ns n ct R K s k z v0 v1 v3 v4} : rn_9_goes ns ct R K (n + 1) 0 [v0, v1, .inl (true, z), v3, v4] k s = (rn_9_goes ns ct R K n 1 [v0, v1, .inl (true, z), v3, v4] (.inl (true, z) :: k) s) := rfl
theorem rx_9_goes_1 {ns n ct R K s k z v1 v2 v3 v4} : rn_9_goes ns ct R K (n + 1) 1 [.inr (.inr (some z)), v1, v2, v3, v4] k s = (rn_9_goes ns ct R K n 2 [.inr (.inr (some z)), v1, v2, v3, v4] (.inr (.inr (some z)) :: k) s) := rfl
theorem rx_9_goes_2 {ns n ct R K s k z v0 v2 v3 v4} : rn_9_goes ns ct R K (n + 1) 2 [v0, .inl (true, z), v2, v3, v4] k s = (rn_9_goes ns ct R K n 3 [v0, .inl (true, z), v2, v3, v4] (.inl (true, z) :: k) s) := rfl
theorem rx_9_goes_3 {ns n ct R K s L k} : rn_9_goes ns ct R K (n + 1) 3 L k s = (rn_9_goes ns ct R K n 4 L (.inl (true, 1) :: k) s) := rfl
theorem rx_9_goes_4 {ns n ct R K s L k} : rn_9_goes ns ct R K (n + 1) 4 L k s = (sy_call false (ct 96) k s fun r t => rn_9_goes ns ct R K n 7 L r t) := rfl
theorem rx_9_goes_7 {ns n ct R K s L k a b x y} : rn_9_goes ns ct R K (n + 1) 7 L (.inl (b, y) :: .inl (a, x) :: k) s = (rn_9_goes ns ct R K n 8 L (.inl (false, x - y) :: k) s) := rfl
theorem rx_9_goes_8 {ns n ct R K s L k a x} : rn_9_goes ns ct R K (n + 1) 8 L (.inl (a, x) :: k) s = (sy_ri a x ∧ rn_9_goes ns ct R K n 9 L (.inr (.inl (true, x)) :: k) s) := rfl
theorem rx_9_goes_9 {ns n ct R K s L k b z} : rn_9_goes ns ct R K (n + 1) 9 L (.inr (.inl (b, z)) :: k) s = (sy_rl b z ∧ 4 < L.length ∧ rn_9_goes ns ct R K n 10 (sy_gone (sy_sto L 3 (.inr (.inl (true, z)))) 4) k s) := rfl
theorem rx_9_goes_10 {ns n ct R K s k z v0 v1 v2 v4} : rn_9_goes ns ct R K (n + 1) 10 [v0, v1, v2, .inr (.inl (true, z)), v4] k s = (rn_9_goes ns ct R K n 11 [v0, v1, v2, .inr (.inl (true, z)), v4] (.inr (.inl (true, z)) :: k) s) := rfl
theorem rx_9_goes_11 {ns n ct R K s L k} : rn_9_goes ns ct R K (n + 1) 11 L k s = (rn_9_goes ns ct R K n 12 L (.inr (.inl (true, 0)) :: k) s) := rfl
theorem rx_9_goes_12 {ns n ct R K s L k a b x y} : rn_9_goes ns ct R K (n + 1) 12 L (.inr (.inl (b, y)) :: .inr (.inl (a, x)) :: k) s = (sy_rl a x ∧ sy_rl b y ∧ rn_9_goes ns ct R K n 13 L (.inl (true, sy_cmp x y) :: k) s) := rfl
theorem rx_9_goes_13 {ns n ct R K s L k a x} : rn_9_goes ns ct R K (n + 1) 13 L (.inl (a, x) :: k) s = (sy_ri a x ∧ (0 ≤ x → rn_9_goes ns ct R K n 21 L k s) ∧ (¬ 0 ≤ x → rn_9_goes ns ct R K n 16 L k s)) := rfl
theorem rx_9_goes_16 {ns n ct R K s k z v0 v1 v2 v4} : rn_9_goes ns ct R K (n + 1) 16 [v0, v1, v2, .inr (.inl (true, z)), v4] k s = (rn_9_goes ns ct R K n 17 [v0, v1, v2, .inr (.inl (true, z)), v4] (.inr (.inl (true, z)) :: k) s) := rfl
theorem rx_9_goes_17 {ns n ct R K s L k a x} : rn_9_goes ns ct R K (n + 1) 17 L (.inr (.inl (a, x)) :: k) s = (rn_9_goes ns ct R K n 18 L (.inr (.inl (false, -x)) :: k) s) := rfl
theorem rx_9_goes_18 {ns n ct R K s L k} : rn_9_goes ns ct R K (n + 1) 18 L k s = (rn_9_goes ns ct R K n 22 L k s) := rfl
theorem rx_9_goes_21 {ns n ct R K s k z v0 v1 v2 v4} : rn_9_goes ns ct R K (n + 1) 21 [v0, v1, v2, .inr (.inl (true, z)), v4] k s = (rn_9_goes ns ct R K n 22 [v0, v1, v2, .inr (.inl (true, z)), v4] (.inr (.inl (true, z)) :: k) s) := rfl
theorem rx_9_goes_22 {ns n ct R K s k z v1 v2 v3 v4} : rn_9_goes ns ct R K (n + 1) 22 [.inr (.inr (some z)), v1, v2, v3, v4] k s = (rn_9_goes ns ct R K n 23 [.inr (.inr (some z)), v1, v2, v3, v4] (.inr (.inr (some z)) :: k) s) := rfl
theorem rx_9_goes_23 {ns n ct R K s k z v0 v2 v3 v4} : rn_9_goes ns ct R K (n + 1) 23 [v0, .inl (true, z), v2, v3, v4] k s = (rn_9_goes ns ct R K n 24 [v0, .inl (true, z), v2, v3, v4] (.inl (true, z) :: k) s) := rfl
theorem rx_9_goes_24 {ns n ct R K s L k} : rn_9_goes ns ct R K (n + 1) 24 L k s = (rn_9_goes ns ct R K n 25 L (.inl (true, 3) :: k) s) := rfl
theorem rx_9_goes_25 {ns n ct R K s L k} : rn_9_goes ns ct R K (n + 1) 25 L k s = (sy_call false (ct 96) k s fun r t => rn_9_goes ns ct R K n 28 L r t) := rfl
theorem rx_9_goes_28 {ns n ct R K s L k a x} : rn_9_goes ns ct R K (n + 1) 28 L (.inl (a, x) :: k) s = (sy_ri a x ∧ rn_9_goes ns ct R K n 29 L (.inr (.inl (true, x)) :: k) s) := rfl
theorem rx_9_goes_29 {ns n ct R K s L k a b x y} : rn_9_goes ns ct R K (n + 1) 29 L (.inr (.inl (b, y)) :: .inr (.inl (a, x)) :: k) s = (sy_rl a x ∧ sy_rl b y ∧ rn_9_goes ns ct R K n 30 L (.inl (true, sy_cmp x y) :: k) s) := rfl
theorem rx_9_goes_30 {ns n ct R K s L k a x} : rn_9_goes ns ct R K (n + 1) 30 L (.inl (a, x) :: k) s = (sy_ri a x ∧ (0 ≤ x → rn_9_goes ns ct R K n 37 L k s) ∧ (¬ 0 ≤ x → rn_9_goes ns ct R K n 33 L k s)) := rfl
theorem rx_9_goes_33 {ns n ct R K s L k} : rn_9_goes ns ct R K (n + 1) 33 L k s = (rn_9_goes ns ct R K n 34 L (.inl (true, 1) :: k) s) := rfl
theorem rx_9_goes_34 {ns n ct R K s L k} : rn_9_goes ns ct R K (n + 1) 34 L k s = (rn_9_goes ns ct R K n 38 L k s) := rfl
theorem rx_9_goes_37 {ns n ct R K s L k} : rn_9_goes ns ct R K (n + 1) 37 L k s = (rn_9_goes ns ct R K n 38 L (.inl (true, 0) :: k) s) := rfl
theorem rx_9_goes_38 {ns n ct R K s L a z} : rn_9_goes ns ct R K (n + 1) 38 L [.inl (a, z)] s = (sy_ri a z ∧ sy_b01 true z ∧ R (some (.inl (true, z))) s) := rfl
def y_9_agree : MethodName := ⟨"StarHideModel", "agree", "(II)Z"⟩
abbrev c_9_agree : ByteArray := prog_11_method_23_code
def tc_9_agree (pc : Nat) : Option sy_I := match pc with
  | 0 => some (.aload_n 0, 1, 0)
  | 1 => some (.getfield 26, 4, 0)
  | 4 => some (.iload_n 2, 5, 0)
  | 5 => some (.iaload, 6, 0)
  | 6 => some (.ifCond .eq 13, 9, 19)
  | 9 => some (.aload_n 0, 10, 0)
  | 10 => some (.getfield 26, 13, 0)
  | 13 => some (.iload_n 2, 14, 0)
  | 14 => some (.iaload, 15, 0)
  | 15 => some (.iconst 3, 16, 0)
  | 16 => some (.if_icmp .ne 5, 19, 21)
  | 19 => some (.iconst 1, 20, 0)
  | 20 => some (.ireturn, 21, 0)
  | 21 => some (.aload_n 0, 22, 0)
  | 22 => some (.iload_n 1, 23, 0)
  | 23 => some (.aload_n 0, 24, 0)
  | 24 => some (.getfield 16, 27, 0)
  | 27 => some (.iload_n 2, 28, 0)
  | 28 => some (.iaload, 29, 0)
  | 29 => some (.invokevirtual 99, 32, 0)
  | 32 => some (.istore_n 3, 33, 0)
  | 33 => some (.aload_n 0, 34, 0)
  | 34 => some (.iload_n 1, 35, 0)
  | 35 => some (.iconst 0, 36, 0)
  | 36 => some (.invokevirtual 96, 39, 0)
  | 39 => some (.istore 4, 41, 0)
  | 41 => some (.aload_n 0, 42, 0)
  | 42 => some (.getfield 26, 45, 0)
  | 45 => some (.iload_n 2, 46, 0)
  | 46 => some (.iaload, 47, 0)
  | 47 => some (.iconst 1, 48, 0)
  | 48 => some (.if_icmp .ne 123, 51, 171)
  | 51 => some (.iload_n 3, 52, 0)
  | 52 => some (.ifCond .ne 5, 55, 57)
  | 55 => some (.iconst 0, 56, 0)
  | 56 => some (.ireturn, 57, 0)
  | 57 => some (.aload_n 0, 58, 0)
  | 58 => some (.iload_n 1, 59, 0)
  | 59 => some (.aload_n 0, 60, 0)
  | 60 => some (.getfield 16, 63, 0)
  | 63 => some (.iload_n 2, 64, 0)
  | 64 => some (.iaload, 65, 0)
  | 65 => some (.iload 4, 67, 0)
  | 67 => some (.aload_n 0, 68, 0)
  | 68 => some (.iload_n 2, 69, 0)
  | 69 => some (.iconst 0, 70, 0)
  | 70 => some (.invokevirtual 103, 73, 0)
  | 73 => some (.isub, 74, 0)
  | 74 => some (.i2l, 75, 0)
  | 75 => some (.invokevirtual 106, 78, 0)
  | 78 => some (.ifCond .gt 31, 81, 109)
  | 81 => some (.aload_n 0, 82, 0)
  | 82 => some (.iload_n 1, 83, 0)
  | 83 => some (.aload_n 0, 84, 0)
  | 84 => some (.getfield 16, 87, 0)
  | 87 => some (.iload_n 2, 88, 0)
  | 88 => some (.iaload, 89, 0)
  | 89 => some (.iload 4, 91, 0)
  | 91 => some (.aload_n 0, 92, 0)
  | 92 => some (.iload_n 2, 93, 0)
  | 93 => some (.iconst 1, 94, 0)
  | 94 => some (.invokevirtual 103, 97, 0)
  | 97 => some (.isub, 98, 0)
  | 98 => some (.i2l, 99, 0)
  | 99 => some (.invokevirtual 106, 102, 0)
  | 102 => some (.ifCond .lt 7, 105, 109)
  | 105 => some (.iconst 1, 106, 0)
  | 106 => some (.goto 4, 109, 110)
  | 109 => some (.iconst 0, 110, 0)
  | 110 => some (.istore 5, 112, 0)
  | 112 => some (.iload 5, 114, 0)
  | 114 => some (.ifCond .eq 55, 117, 169)
  | 117 => some (.aload_n 0, 118, 0)
  | 118 => some (.iload_n 1, 119, 0)
  | 119 => some (.aload_n 0, 120, 0)
  | 120 => some (.getfield 16, 123, 0)
  | 123 => some (.iload_n 2, 124, 0)
  | 124 => some (.iaload, 125, 0)
  | 125 => some (.aload_n 0, 126, 0)
  | 126 => some (.iload_n 2, 127, 0)
  | 127 => some (.iconst 2, 128, 0)
  | 128 => some (.invokevirtual 103, 131, 0)
  | 131 => some (.iload 4, 133, 0)
  | 133 => some (.isub, 134, 0)
  | 134 => some (.i2l, 135, 0)
  | 135 => some (.invokevirtual 106, 138, 0)
  | 138 => some (.ifCond .lt 31, 141, 169)
  | 141 => some (.aload_n 0, 142, 0)
  | 142 => some (.iload_n 1, 143, 0)
  | 143 => some (.aload_n 0, 144, 0)
  | 144 => some (.getfield 16, 147, 0)
  | 147 => some (.iload_n 2, 148, 0)
  | 148 => some (.iaload, 149, 0)
  | 149 => some (.aload_n 0, 150, 0)
  | 150 => some (.iload_n 2, 151, 0)
  | 151 => some (.iconst 3, 152, 0)
  | 152 => some (.invokevirtual 103, 155, 0)
  | 155 => some (.iload 4, 157, 0)
  | 157 => some (.isub, 158, 0)
  | 158 => some (.i2l, 159, 0)
  | 159 => some (.invokevirtual 106, 162, 0)
  | 162 => some (.ifCond .gt 7, 165, 169)
  | 165 => some (.iconst 1, 166, 0)
  | 166 => some (.goto 4, 169, 170)
  | 169 => some (.iconst 0, 170, 0)
  | 170 => some (.ireturn, 171, 0)
  | 171 => some (.iload_n 3, 172, 0)
  | 172 => some (.ifCond .eq 51, 175, 223)
  | 175 => some (.aload_n 0, 176, 0)
  | 176 => some (.iload_n 1, 177, 0)
  | 177 => some (.aload_n 0, 178, 0)
  | 178 => some (.getfield 16, 181, 0)
  | 181 => some (.iload_n 2, 182, 0)
  | 182 => some (.iaload, 183, 0)
  | 183 => some (.iload 4, 185, 0)
  | 185 => some (.aload_n 0, 186, 0)
  | 186 => some (.iload_n 2, 187, 0)
  | 187 => some (.iconst 1, 188, 0)
  | 188 => some (.invokevirtual 103, 191, 0)
  | 191 => some (.isub, 192, 0)
  | 192 => some (.i2l, 193, 0)
  | 193 => some (.invokevirtual 106, 196, 0)
  | 196 => some (.ifCond .le 27, 199, 223)
  | 199 => some (.aload_n 0, 200, 0)
  | 200 => some (.iload_n 1, 201, 0)
  | 201 => some (.aload_n 0, 202, 0)
  | 202 => some (.getfield 16, 205, 0)
  | 205 => some (.iload_n 2, 206, 0)
  | 206 => some (.iaload, 207, 0)
  | 207 => some (.aload_n 0, 208, 0)
  | 208 => some (.iload_n 2, 209, 0)
  | 209 => some (.iconst 0, 210, 0)
  | 210 => some (.invokevirtual 103, 213, 0)
  | 213 => some (.iload 4, 215, 0)
  | 215 => some (.isub, 216, 0)
  | 216 => some (.i2l, 217, 0)
  | 217 => some (.invokevirtual 106, 220, 0)
  | 220 => some (.ifCond .gt 7, 223, 227)
  | 223 => some (.iconst 1, 224, 0)
  | 224 => some (.goto 4, 227, 228)
  | 227 => some (.iconst 0, 228, 0)
  | 228 => some (.ireturn, 229, 0)
  | _ => none
theorem tv_9_agree : ∀ pc i, sy_lk 229 tc_9_agree pc = some i → sy_chk c_9_agree (some .boolean) true pc i = true := sy_lk_ok 229 tc_9_agree (by decide +kernel)
def Mk_9_agree (ct : Nat → Option (Bool × Nat × sy_Sp)) : sy_M := (sy_lk 229 tc_9_agree, ff_9, ki_9, kl_9, ct, true)
def rn_9_agree (ns : Nat) (ct : Nat → Option (Bool × Nat × sy_Sp)) (R : sy_R) (K : sy_K) : Nat → sy_K := sy_run ns (Mk_9_agree ct) [] R K
theorem rx_9_agree_0 {ns n ct R K s k z v1 v2 v3 v4 v5} : rn_9_agree ns ct R K (n + 1) 0 [.inr (.inr (some z)), v1, v2, v3, v4, v5] k s = (rn_9_agree ns ct R K n 1 [.inr (.inr (some z)), v1, v2, v3, v4, v5] (.inr (.inr (some z)) :: k) s) := rfl
theorem rx_9_agree_1 {ns n ct R K s L k a} : rn_9_agree ns ct R K (n + 1) 1 L (.inr (.inr (some (some a))) :: k) s = (sy_ob a = some 9 ∧ rn_9_agree ns ct R K n 4 L (sy_fv s a 5 :: k) s) := rfl
theorem rx_9_agree_4 {ns n ct R K s k z v0 v1 v3 v4 v5} : rn_9_agree ns ct R K (n + 1) 4 [v0, v1, .inl (true, z), v3, v4, v5] k s = (rn_9_agree ns ct R K n 5 [v0, v1, .inl (true, z), v3, v4, v5] (.inl (true, z) :: k) s) := rfl
theorem rx_9_agree_5 {ns n ct R K s L k a b z} : rn_9_agree ns ct R K (n + 1) 5 L (.inl (b, z) :: .inr (.inr (some (some a))) :: k) s = ((0 ≤ z ∧ z < (sy_ar a).2) ∧ sy_ob a = none ∧ (sy_ar a).1 = 0 ∧ rn_9_agree ns ct R K n 6 L (.inl (true, s a z.toNat) :: k) s) := rfl
theorem rx_9_agree_6 {ns n ct R K s L k a x} : rn_9_agree ns ct R K (n + 1) 6 L (.inl (a, x) :: k) s = (sy_ri a x ∧ (x = 0 → rn_9_agree ns ct R K n 19 L k s) ∧ (¬ x = 0 → rn_9_agree ns ct R K n 9 L k s)) := rfl
theorem rx_9_agree_9 {ns n ct R K s k z v1 v2 v3 v4 v5} : rn_9_agree ns ct R K (n + 1) 9 [.inr (.inr (some z)), v1, v2, v3, v4, v5] k s = (rn_9_agree ns ct R K n 10 [.inr (.inr (some z)), v1, v2, v3, v4, v5] (.inr (.inr (some z)) :: k) s) := rfl
theorem rx_9_agree_10 {ns n ct R K s L k a} : rn_9_agree ns ct R K (n + 1) 10 L (.inr (.inr (some (some a))) :: k) s = (sy_ob a = some 9 ∧ rn_9_agree ns ct R K n 13 L (sy_fv s a 5 :: k) s) := rfl
theorem rx_9_agree_13 {ns n ct R K s k z v0 v1 v3 v4 v5} : rn_9_agree ns ct R K (n + 1) 13 [v0, v1, .inl (true, z), v3, v4, v5] k s = (rn_9_agree ns ct R K n 14 [v0, v1, .inl (true, z), v3, v4, v5] (.inl (true, z) :: k) s) := rfl
theorem rx_9_agree_14 {ns n ct R K s L k a b z} : rn_9_agree ns ct R K (n + 1) 14 L (.inl (b, z) :: .inr (.inr (some (some a))) :: k) s = ((0 ≤ z ∧ z < (sy_ar a).2) ∧ sy_ob a = none ∧ (sy_ar a).1 = 0 ∧ rn_9_agree ns ct R K n 15 L (.inl (true, s a z.toNat) :: k) s) := rfl
theorem rx_9_agree_15 {ns n ct R K s L k} : rn_9_agree ns ct R K (n + 1) 15 L k s = (rn_9_agree ns ct R K n 16 L (.inl (true, 3) :: k) s) := rfl
theorem rx_9_agree_16 {ns n ct R K s L k a b x y} : rn_9_agree ns ct R K (n + 1) 16 L (.inl (b, y) :: .inl (a, x) :: k) s = (sy_ri a x ∧ sy_ri b y ∧ (¬ x = y → rn_9_agree ns ct R K n 21 L k s) ∧ (x = y → rn_9_agree ns ct R K n 19 L k s)) := rfl
theorem rx_9_agree_19 {ns n ct R K s L k} : rn_9_agree ns ct R K (n + 1) 19 L k s = (rn_9_agree ns ct R K n 20 L (.inl (true, 1) :: k) s) := rfl
theorem rx_9_agree_20 {ns n ct R K s L a z} : rn_9_agree ns ct R K (n + 1) 20 L [.inl (a, z)] s = (sy_ri a z ∧ sy_b01 true z ∧ R (some (.inl (true, z))) s) := rfl
theorem rx_9_agree_21 {ns n ct R K s k z v1 v2 v3 v4 v5} : rn_9_agree ns ct R K (n + 1) 21 [.inr (.inr (some z)), v1, v2, v3, v4, v5] k s = (rn_9_agree ns ct R K n 22 [.inr (.inr (some z)), v1, v2, v3, v4, v5] (.inr (.inr (some z)) :: k) s) := rfl
theorem rx_9_agree_22 {ns n ct R K s k z v0 v2 v3 v4 v5} : rn_9_agree ns ct R K (n + 1) 22 [v0, .inl (true, z), v2, v3, v4, v5] k s = (rn_9_agree ns ct R K n 23 [v0, .inl (true, z), v2, v3, v4, v5] (.inl (true, z) :: k) s) := rfl
theorem rx_9_agree_23 {ns n ct R K s k z v1 v2 v3 v4 v5} : rn_9_agree ns ct R K (n + 1) 23 [.inr (.inr (some z)), v1, v2, v3, v4, v5] k s = (rn_9_agree ns ct R K n 24 [.inr (.inr (some z)), v1, v2, v3, v4, v5] (.inr (.inr (some z)) :: k) s) := rfl
theorem rx_9_agree_24 {ns n ct R K s L k a} : rn_9_agree ns ct R K (n + 1) 24 L (.inr (.inr (some (some a))) :: k) s = (sy_ob a = some 9 ∧ rn_9_agree ns ct R K n 27 L (sy_fv s a 2 :: k) s) := rfl
theorem rx_9_agree_27 {ns n ct R K s k z v0 v1 v3 v4 v5} : rn_9_agree ns ct R K (n + 1) 27 [v0, v1, .inl (true, z), v3, v4, v5] k s = (rn_9_agree ns ct R K n 28 [v0, v1, .inl (true, z), v3, v4, v5] (.inl (true, z) :: k) s) := rfl
theorem rx_9_agree_28 {ns n ct R K s L k a b z} : rn_9_agree ns ct R K (n + 1) 28 L (.inl (b, z) :: .inr (.inr (some (some a))) :: k) s = ((0 ≤ z ∧ z < (sy_ar a).2) ∧ sy_ob a = none ∧ (sy_ar a).1 = 0 ∧ rn_9_agree ns ct R K n 29 L (.inl (true, s a z.toNat) :: k) s) := rfl
theorem rx_9_agree_29 {ns n ct R K s L k} : rn_9_agree ns ct R K (n + 1) 29 L k s = (sy_call false (ct 99) k s fun r t => rn_9_agree ns ct R K n 32 L r t) := rfl
theorem rx_9_agree_32 {ns n ct R K s L k b z} : rn_9_agree ns ct R K (n + 1) 32 L (.inl (b, z) :: k) s = (sy_ri b z ∧ 3 < L.length ∧ rn_9_agree ns ct R K n 33 (sy_sto L 3 (.inl (true, z))) k s) := rfl
theorem rx_9_agree_33 {ns n ct R K s k z v1 v2 v3 v4 v5} : rn_9_agree ns ct R K (n + 1) 33 [.inr (.inr (some z)), v1, v2, v3, v4, v5] k s = (rn_9_agree ns ct R K n 34 [.inr (.inr (some z)), v1, v2, v3, v4, v5] (.inr (.inr (some z)) :: k) s) := rfl
theorem rx_9_agree_34 {ns n ct R K s k z v0 v2 v3 v4 v5} : rn_9_agree ns ct R K (n + 1) 34 [v0, .inl (true, z), v2, v3, v4, v5] k s = (rn_9_agree ns ct R K n 35 [v0, .inl (true, z), v2, v3, v4, v5] (.inl (true, z) :: k) s) := rfl
theorem rx_9_agree_35 {ns n ct R K s L k} : rn_9_agree ns ct R K (n + 1) 35 L k s = (rn_9_agree ns ct R K n 36 L (.inl (true, 0) :: k) s) := rfl
theorem rx_9_agree_36 {ns n ct R K s L k} : rn_9_agree ns ct R K (n + 1) 36 L k s = (sy_call false (ct 96) k s fun r t => rn_9_agree ns ct R K n 39 L r t) := rfl
theorem rx_9_agree_39 {ns n ct R K s L k b z} : rn_9_agree ns ct R K (n + 1) 39 L (.inl (b, z) :: k) s = (sy_ri b z ∧ 4 < L.length ∧ rn_9_agree ns ct R K n 41 (sy_sto L 4 (.inl (true, z))) k s) := rfl
theorem rx_9_agree_41 {ns n ct R K s k z v1 v2 v3 v4 v5} : rn_9_agree ns ct R K (n + 1) 41 [.inr (.inr (some z)), v1, v2, v3, v4, v5] k s = (rn_9_agree ns ct R K n 42 [.inr (.inr (some z)), v1, v2, v3, v4, v5] (.inr (.inr (some z)) :: k) s) := rfl
theorem rx_9_agree_42 {ns n ct R K s L k a} : rn_9_agree ns ct R K (n + 1) 42 L (.inr (.inr (some (some a))) :: k) s = (sy_ob a = some 9 ∧ rn_9_agree ns ct R K n 45 L (sy_fv s a 5 :: k) s) := rfl
theorem rx_9_agree_45 {ns n ct R K s k z v0 v1 v3 v4 v5} : rn_9_agree ns ct R K (n + 1) 45 [v0, v1, .inl (true, z), v3, v4, v5] k s = (rn_9_agree ns ct R K n 46 [v0, v1, .inl (true, z), v3, v4, v5] (.inl (true, z) :: k) s) := rfl
theorem rx_9_agree_46 {ns n ct R K s L k a b z} : rn_9_agree ns ct R K (n + 1) 46 L (.inl (b, z) :: .inr (.inr (some (some a))) :: k) s = ((0 ≤ z ∧ z < (sy_ar a).2) ∧ sy_ob a = none ∧ (sy_ar a).1 = 0 ∧ rn_9_agree ns ct R K n 47 L (.inl (true, s a z.toNat) :: k) s) := rfl
theorem rx_9_agree_47 {ns n ct R K s L k} : rn_9_agree ns ct R K (n + 1) 47 L k s = (rn_9_agree ns ct R K n 48 L (.inl (true, 1) :: k) s) := rfl
theorem rx_9_agree_48 {ns n ct R K s L k a b x y} : rn_9_agree ns ct R K (n + 1) 48 L (.inl (b, y) :: .inl (a, x) :: k) s = (sy_ri a x ∧ sy_ri b y ∧ (¬ x = y → rn_9_agree ns ct R K n 171 L k s) ∧ (x = y → rn_9_agree ns ct R K n 51 L k s)) := rfl
theorem rx_9_agree_51 {ns n ct R K s k z v0 v1 v2 v4 v5} : rn_9_agree ns ct R K (n + 1) 51 [v0, v1, v2, .inl (true, z), v4, v5] k s = (rn_9_agree ns ct R K n 52 [v0, v1, v2, .inl (true, z), v4, v5] (.inl (true, z) :: k) s) := rfl
theorem rx_9_agree_52 {ns n ct R K s L k a x} : rn_9_agree ns ct R K (n + 1) 52 L (.inl (a, x) :: k) s = (sy_ri a x ∧ (¬ x = 0 → rn_9_agree ns ct R K n 57 L k s) ∧ (x = 0 → rn_9_agree ns ct R K n 55 L k s)) := rfl
theorem rx_9_agree_55 {ns n ct R K s L k} : rn_9_agree ns ct R K (n + 1) 55 L k s = (rn_9_agree ns ct R K n 56 L (.inl (true, 0) :: k) s) := rfl
theorem rx_9_agree_56 {ns n ct R K s L a z} : rn_9_agree ns ct R K (n + 1) 56 L [.inl (a, z)] s = (sy_ri a z ∧ sy_b01 true z ∧ R (some (.inl (true, z))) s) := rfl
theorem rx_9_agree_57 {ns n ct R K s k z v1 v2 v3 v4 v5} : rn_9_agree ns ct R K (n + 1) 57 [.inr (.inr (some z)), v1, v2, v3, v4, v5] k s = (rn_9_agree ns ct R K n 58 [.inr (.inr (some z)), v1, v2, v3, v4, v5] (.inr (.inr (some z)) :: k) s) := rfl
theorem rx_9_agree_58 {ns n ct R K s k z v0 v2 v3 v4 v5} : rn_9_agree ns ct R K (n + 1) 58 [v0, .inl (true, z), v2, v3, v4, v5] k s = (rn_9_agree ns ct R K n 59 [v0, .inl (true, z), v2, v3, v4, v5] (.inl (true, z) :: k) s) := rfl
theorem rx_9_agree_59 {ns n ct R K s k z v1 v2 v3 v4 v5} : rn_9_agree ns ct R K (n + 1) 59 [.inr (.inr (some z)), v1, v2, v3, v4, v5] k s = (rn_9_agree ns ct R K n 60 [.inr (.inr (some z)), v1, v2, v3, v4, v5] (.inr (.inr (some z)) :: k) s) := rfl
theorem rx_9_agree_60 {ns n ct R K s L k a} : rn_9_agree ns ct R K (n + 1) 60 L (.inr (.inr (some (some a))) :: k) s = (sy_ob a = some 9 ∧ rn_9_agree ns ct R K n 63 L (sy_fv s a 2 :: k) s) := rfl
theorem rx_9_agree_63 {ns n ct R K s k z v0 v1 v3 v4 v5} : rn_9_agree ns ct R K (n + 1) 63 [v0, v1, .inl (true, z), v3, v4, v5] k s = (rn_9_agree ns ct R K n 64 [v0, v1, .inl (true, z), v3, v4, v5] (.inl (true, z) :: k) s) := rfl
theorem rx_9_agree_64 {ns n ct R K s L k a b z} : rn_9_agree ns ct R K (n + 1) 64 L (.inl (b, z) :: .inr (.inr (some (some a))) :: k) s = ((0 ≤ z ∧ z < (sy_ar a).2) ∧ sy_ob a = none ∧ (sy_ar a).1 = 0 ∧ rn_9_agree ns ct R K n 65 L (.inl (true, s a z.toNat) :: k) s) := rfl
theorem rx_9_agree_65 {ns n ct R K s k z v0 v1 v2 v3 v5} : rn_9_agree ns ct R K (n + 1) 65 [v0, v1, v2, v3, .inl (true, z), v5] k s = (rn_9_agree ns ct R K n 67 [v0, v1, v2, v3, .inl (true, z), v5] (.inl (true, z) :: k) s) := rfl
theorem rx_9_agree_67 {ns n ct R K s k z v1 v2 v3 v4 v5} : rn_9_agree ns ct R K (n + 1) 67 [.inr (.inr (some z)), v1, v2, v3, v4, v5] k s = (rn_9_agree ns ct R K n 68 [.inr (.inr (some z)), v1, v2, v3, v4, v5] (.inr (.inr (some z)) :: k) s) := rfl
theorem rx_9_agree_68 {ns n ct R K s k z v0 v1 v3 v4 v5} : rn_9_agree ns ct R K (n + 1) 68 [v0, v1, .inl (true, z), v3, v4, v5] k s = (rn_9_agree ns ct R K n 69 [v0, v1, .inl (true, z), v3, v4, v5] (.inl (true, z) :: k) s) := rfl
theorem rx_9_agree_69 {ns n ct R K s L k} : rn_9_agree ns ct R K (n + 1) 69 L k s = (rn_9_agree ns ct R K n 70 L (.inl (true, 0) :: k) s) := rfl
theorem rx_9_agree_70 {ns n ct R K s L k} : rn_9_agree ns ct R K (n + 1) 70 L k s = (sy_call false (ct 103) k s fun r t => rn_9_agree ns ct R K n 73 L r t) := rfl
theorem rx_9_agree_73 {ns n ct R K s L k a b x y} : rn_9_agree ns ct R K (n + 1) 73 L (.inl (b, y) :: .inl (a, x) :: k) s = (rn_9_agree ns ct R K n 74 L (.inl (false, x - y) :: k) s) := rfl
theorem rx_9_agree_74 {ns n ct R K s L k a x} : rn_9_agree ns ct R K (n + 1) 74 L (.inl (a, x) :: k) s = (sy_ri a x ∧ rn_9_agree ns ct R K n 75 L (.inr (.inl (true, x)) :: k) s) := rfl
theorem rx_9_agree_75 {ns n ct R K s L k} : rn_9_agree ns ct R K (n + 1) 75 L k s = (sy_call false (ct 106) k s fun r t => rn_9_agree ns ct R K n 78 L r t) := rfl
theorem rx_9_agree_78 {ns n ct R K s L k a x} : rn_9_agree ns ct R K (n + 1) 78 L (.inl (a, x) :: k) s = (sy_ri a x ∧ (0 < x → rn_9_agree ns ct R K n 109 L k s) ∧ (¬ 0 < x → rn_9_agree ns ct R K n 81 L k s)) := rfl
theorem rx_9_agree_81 {ns n ct R K s k z v1 v2 v3 v4 v5} : rn_9_agree ns ct R K (n + 1) 81 [.inr (.inr (some z)), v1, v2, v3, v4, v5] k s = (rn_9_agree ns ct R K n 82 [.inr (.inr (some z)), v1, v2, v3, v4, v5] (.inr (.inr (some z)) :: k) s) := rfl
theorem rx_9_agree_82 {ns n ct R K s k z v0 v2 v3 v4 v5} : rn_9_agree ns ct R K (n + 1) 82 [v0, .inl (true, z), v2, v3, v4, v5] k s = (rn_9_agree ns ct R K n 83 [v0, .inl (true, z), v2, v3, v4, v5] (.inl (true, z) :: k) s) := rfl
theorem rx_9_agree_83 {ns n ct R K s k z v1 v2 v3 v4 v5} : rn_9_agree ns ct R K (n + 1) 83 [.inr (.inr (some z)), v1, v2, v3, v4, v5] k s = (rn_9_agree ns ct R K n 84 [.inr (.inr (some z)), v1, v2, v3, v4, v5] (.inr (.inr (some z)) :: k) s) := rfl
theorem rx_9_agree_84 {ns n ct R K s L k a} : rn_9_agree ns ct R K (n + 1) 84 L (.inr (.inr (some (some a))) :: k) s = (sy_ob a = some 9 ∧ rn_9_agree ns ct R K n 87 L (sy_fv s a 2 :: k) s) := rfl
theorem rx_9_agree_87 {ns n ct R K s k z v0 v1 v3 v4 v5} : rn_9_agree ns ct R K (n + 1) 87 [v0, v1, .inl (true, z), v3, v4, v5] k s = (rn_9_agree ns ct R K n 88 [v0, v1, .inl (true, z), v3, v4, v5] (.inl (true, z) :: k) s) := rfl
theorem rx_9_agree_88 {ns n ct R K s L k a b z} : rn_9_agree ns ct R K (n + 1) 88 L (.inl (b, z) :: .inr (.inr (some (some a))) :: k) s = ((0 ≤ z ∧ z < (sy_ar a).2) ∧ sy_ob a = none ∧ (sy_ar a).1 = 0 ∧ rn_9_agree ns ct R K n 89 L (.inl (true, s a z.toNat) :: k) s) := rfl
theorem rx_9_agree_89 {ns n ct R K s k z v0 v1 v2 v3 v5} : rn_9_agree ns ct R K (n + 1) 89 [v0, v1, v2, v3, .inl (true, z), v5] k s = (rn_9_agree ns ct R K n 91 [v0, v1, v2, v3, .inl (true, z), v5] (.inl (true, z) :: k) s) := rfl
theorem rx_9_agree_91 {ns n ct R K s k z v1 v2 v3 v4 v5} : rn_9_agree ns ct R K (n + 1) 91 [.inr (.inr (some z)), v1, v2, v3, v4, v5] k s = (rn_9_agree ns ct R K n 92 [.inr (.inr (some z)), v1, v2, v3, v4, v5] (.inr (.inr (some z)) :: k) s) := rfl
theorem rx_9_agree_92 {ns n ct R K s k z v0 v1 v3 v4 v5} : rn_9_agree ns ct R K (n + 1) 92 [v0, v1, .inl (true, z), v3, v4, v5] k s = (rn_9_agree ns ct R K n 93 [v0, v1, .inl (true, z), v3, v4, v5] (.inl (true, z) :: k) s) := rfl
theorem rx_9_agree_93 {ns n ct R K s L k} : rn_9_agree ns ct R K (n + 1) 93 L k s = (rn_9_agree ns ct R K n 94 L (.inl (true, 1) :: k) s) := rfl
theorem rx_9_agree_94 {ns n ct R K s L k} : rn_9_agree ns ct R K (n + 1) 94 L k s = (sy_call false (ct 103) k s fun r t => rn_9_agree ns ct R K n 97 L r t) := rfl
theorem rx_9_agree_97 {ns n ct R K s L k a b x y} : rn_9_agree ns ct R K (n + 1) 97 L (.inl (b, y) :: .inl (a, x) :: k) s = (rn_9_agree ns ct R K n 98 L (.inl (false, x - y) :: k) s) := rfl
theorem rx_9_agree_98 {ns n ct R K s L k a x} : rn_9_agree ns ct R K (n + 1) 98 L (.inl (a, x) :: k) s = (sy_ri a x ∧ rn_9_agree ns ct R K n 99 L (.inr (.inl (true, x)) :: k) s) := rfl
theorem rx_9_agree_99 {ns n ct R K s L k} : rn_9_agree ns ct R K (n + 1) 99 L k s = (sy_call false (ct 106) k s fun r t => rn_9_agree ns ct R K n 102 L r t) := rfl
theorem rx_9_agree_102 {ns n ct R K s L k a x} : rn_9_agree ns ct R K (n + 1) 102 L (.inl (a, x) :: k) s = (sy_ri a x ∧ (x < 0 → rn_9_agree ns ct R K n 109 L k s) ∧ (¬ x < 0 → rn_9_agree ns ct R K n 105 L k s)) := rfl
theorem rx_9_agree_105 {ns n ct R K s L k} : rn_9_agree ns ct R K (n + 1) 105 L k s = (rn_9_agree ns ct R K n 106 L (.inl (true, 1) :: k) s) := rfl
theorem rx_9_agree_106 {ns n ct R K s L k} : rn_9_agree ns ct R K (n + 1) 106 L k s = (rn_9_agree ns ct R K n 110 L k s) := rfl
theorem rx_9_agree_109 {ns n ct R K s L k} : rn_9_agree ns ct R K (n + 1) 109 L k s = (rn_9_agree ns ct R K n 110 L (.inl (true, 0) :: k) s) := rfl
theorem rx_9_agree_110 {ns n ct R K s L k b z} : rn_9_agree ns ct R K (n + 1) 110 L (.inl (b, z) :: k) s = (sy_ri b z ∧ 5 < L.length ∧ rn_9_agree ns ct R K n 112 (sy_sto L 5 (.inl (true, z))) k s) := rfl
theorem rx_9_agree_112 {ns n ct R K s k z v0 v1 v2 v3 v4} : rn_9_agree ns ct R K (n + 1) 112 [v0, v1, v2, v3, v4, .inl (true, z)] k s = (rn_9_agree ns ct R K n 114 [v0, v1, v2, v3, v4, .inl (true, z)] (.inl (true, z) :: k) s) := rfl
theorem rx_9_agree_114 {ns n ct R K s L k a x} : rn_9_agree ns ct R K (n + 1) 114 L (.inl (a, x) :: k) s = (sy_ri a x ∧ (x = 0 → rn_9_agree ns ct R K n 169 L k s) ∧ (¬ x = 0 → rn_9_agree ns ct R K n 117 L k s)) := rfl
theorem rx_9_agree_117 {ns n ct R K s k z v1 v2 v3 v4 v5} : rn_9_agree ns ct R K (n + 1) 117 [.inr (.inr (some z)), v1, v2, v3, v4, v5] k s = (rn_9_agree ns ct R K n 118 [.inr (.inr (some z)), v1, v2, v3, v4, v5] (.inr (.inr (some z)) :: k) s) := rfl
theorem rx_9_agree_118 {ns n ct R K s k z v0 v2 v3 v4 v5} : rn_9_agree ns ct R K (n + 1) 118 [v0, .inl (true, z), v2, v3, v4, v5] k s = (rn_9_agree ns ct R K n 119 [v0, .inl (true, z), v2, v3, v4, v5] (.inl (true, z) :: k) s) := rfl
theorem rx_9_agree_119 {ns n ct R K s k z v1 v2 v3 v4 v5} : rn_9_agree ns ct R K (n + 1) 119 [.inr (.inr (some z)), v1, v2, v3, v4, v5] k s = (rn_9_agree ns ct R K n 120 [.inr (.inr (some z)), v1, v2, v3, v4, v5] (.inr (.inr (some z)) :: k) s) := rfl
theorem rx_9_agree_120 {ns n ct R K s L k a} : rn_9_agree ns ct R K (n + 1) 120 L (.inr (.inr (some (some a))) :: k) s = (sy_ob a = some 9 ∧ rn_9_agree ns ct R K n 123 L (sy_fv s a 2 :: k) s) := rfl
theorem rx_9_agree_123 {ns n ct R K s k z v0 v1 v3 v4 v5} : rn_9_agree ns ct R K (n + 1) 123 [v0, v1, .inl (true, z), v3, v4, v5] k s = (rn_9_agree ns ct R K n 124 [v0, v1, .inl (true, z), v3, v4, v5] (.inl (true, z) :: k) s) := rfl
theorem rx_9_agree_124 {ns n ct R K s L k a b z} : rn_9_agree ns ct R K (n + 1) 124 L (.inl (b, z) :: .inr (.inr (some (some a))) :: k) s = ((0 ≤ z ∧ z < (sy_ar a).2) ∧ sy_ob a = none ∧ (sy_ar a).1 = 0 ∧ rn_9_agree ns ct R K n 125 L (.inl (true, s a z.toNat) :: k) s) := rfl
theorem rx_9_agree_125 {ns n ct R K s k z v1 v2 v3 v4 v5} : rn_9_agree ns ct R K (n + 1) 125 [.inr (.inr (some z)), v1, v2, v3, v4, v5] k s = (rn_9_agree ns ct R K n 126 [.inr (.inr (some z)), v1, v2, v3, v4, v5] (.inr (.inr (some z)) :: k) s) := rfl
theorem rx_9_agree_126 {ns n ct R K s k z v0 v1 v3 v4 v5} : rn_9_agree ns ct R K (n + 1) 126 [v0, v1, .inl (true, z), v3, v4, v5] k s = (rn_9_agree ns ct R K n 127 [v0, v1, .inl (true, z), v3, v4, v5] (.inl (true, z) :: k) s) := rfl
theorem rx_9_agree_127 {ns n ct R K s L k} : rn_9_agree ns ct R K (n + 1) 127 L k s = (rn_9_agree ns ct R K n 128 L (.inl (true, 2) :: k) s) := rfl
theorem rx_9_agree_128 {ns n ct R K s L k} : rn_9_agree ns ct R K (n + 1) 128 L k s = (sy_call false (ct 103) k s fun r t => rn_9_agree ns ct R K n 131 L r t) := rfl
theorem rx_9_agree_131 {ns n ct R K s k z v0 v1 v2 v3 v5} : rn_9_agree ns ct R K (n + 1) 131 [v0, v1, v2, v3, .inl (true, z), v5] k s = (rn_9_agree ns ct R K n 133 [v0, v1, v2, v3, .inl (true, z), v5] (.inl (true, z) :: k) s) := rfl
theorem rx_9_agree_133 {ns n ct R K s L k a b x y} : rn_9_agree ns ct R K (n + 1) 133 L (.inl (b, y) :: .inl (a, x) :: k) s = (rn_9_agree ns ct R K n 134 L (.inl (false, x - y) :: k) s) := rfl
theorem rx_9_agree_134 {ns n ct R K s L k a x} : rn_9_agree ns ct R K (n + 1) 134 L (.inl (a, x) :: k) s = (sy_ri a x ∧ rn_9_agree ns ct R K n 135 L (.inr (.inl (true, x)) :: k) s) := rfl
theorem rx_9_agree_135 {ns n ct R K s L k} : rn_9_agree ns ct R K (n + 1) 135 L k s = (sy_call false (ct 106) k s fun r t => rn_9_agree ns ct R K n 138 L r t) := rfl
theorem rx_9_agree_138 {ns n ct R K s L k a x} : rn_9_agree ns ct R K (n + 1) 138 L (.inl (a, x) :: k) s = (sy_ri a x ∧ (x < 0 → rn_9_agree ns ct R K n 169 L k s) ∧ (¬ x < 0 → rn_9_agree ns ct R K n 141 L k s)) := rfl
theorem rx_9_agree_141 {ns n ct R K s k z v1 v2 v3 v4 v5} : rn_9_agree ns ct R K (n + 1) 141 [.inr (.inr (some z)), v1, v2, v3, v4, v5] k s = (rn_9_agree ns ct R K n 142 [.inr (.inr (some z)), v1, v2, v3, v4, v5] (.inr (.inr (some z)) :: k) s) := rfl
theorem rx_9_agree_142 {ns n ct R K s k z v0 v2 v3 v4 v5} : rn_9_agree ns ct R K (n + 1) 142 [v0, .inl (true, z), v2, v3, v4, v5] k s = (rn_9_agree ns ct R K n 143 [v0, .inl (true, z), v2, v3, v4, v5] (.inl (true, z) :: k) s) := rfl
theorem rx_9_agree_143 {ns n ct R K s k z v1 v2 v3 v4 v5} : rn_9_agree ns ct R K (n + 1) 143 [.inr (.inr (some z)), v1, v2, v3, v4, v5] k s = (rn_9_agree ns ct R K n 144 [.inr (.inr (some z)), v1, v2, v3, v4, v5] (.inr (.inr (some z)) :: k) s) := rfl
theorem rx_9_agree_144 {ns n ct R K s L k a} : rn_9_agree ns ct R K (n + 1) 144 L (.inr (.inr (some (some a))) :: k) s = (sy_ob a = some 9 ∧ rn_9_agree ns ct R K n 147 L (sy_fv s a 2 :: k) s) := rfl
theorem rx_9_agree_147 {ns n ct R K s k z v0 v1 v3 v4 v5} : rn_9_agree ns ct R K (n + 1) 147 [v0, v1, .inl (true, z), v3, v4, v5] k s = (rn_9_agree ns ct R K n 148 [v0, v1, .inl (true, z), v3, v4, v5] (.inl (true, z) :: k) s) := rfl
theorem rx_9_agree_148 {ns n ct R K s L k a b z} : rn_9_agree ns ct R K (n + 1) 148 L (.inl (b, z) :: .inr (.inr (some (some a))) :: k) s = ((0 ≤ z ∧ z < (sy_ar a).2) ∧ sy_ob a = none ∧ (sy_ar a).1 = 0 ∧ rn_9_agree ns ct R K n 149 L (.inl (true, s a z.toNat) :: k) s) := rfl
theorem rx_9_agree_149 {ns n ct R K s k z v1 v2 v3 v4 v5} : rn_9_agree ns ct R K (n + 1) 149 [.inr (.inr (some z)), v1, v2, v3, v4, v5] k s = (rn_9_agree ns ct R K n 150 [.inr (.inr (some z)), v1, v2, v3, v4, v5] (.inr (.inr (some z)) :: k) s) := rfl
theorem rx_9_agree_150 {ns n ct R K s k z v0 v1 v3 v4 v5} : rn_9_agree ns ct R K (n + 1) 150 [v0, v1, .inl (true, z), v3, v4, v5] k s = (rn_9_agree ns ct R K n 151 [v0, v1, .inl (true, z), v3, v4, v5] (.inl (true, z) :: k) s) := rfl
theorem rx_9_agree_151 {ns n ct R K s L k} : rn_9_agree ns ct R K (n + 1) 151 L k s = (rn_9_agree ns ct R K n 152 L (.inl (true, 3) :: k) s) := rfl
theorem rx_9_agree_152 {ns n ct R K s L k} : rn_9_agree ns ct R K (n + 1) 152 L k s = (sy_call false (ct 103) k s fun r t => rn_9_agree ns ct R K n 155 L r t) := rfl
theorem rx_9_agree_155 {ns n ct R K s k z v0 v1 v2 v3 v5} : rn_9_agree ns ct R K (n + 1) 155 [v0, v1, v2, v3, .inl (true, z), v5] k s = (rn_9_agree ns ct R K n 157 [v0, v1, v2, v3, .inl (true, z), v5] (.inl (true, z) :: k) s) := rfl
theorem rx_9_agree_157 {ns n ct R K s L k a b x y} : rn_9_agree ns ct R K (n + 1) 157 L (.inl (b, y) :: .inl (a, x) :: k) s = (rn_9_agree ns ct R K n 158 L (.inl (false, x - y) :: k) s) := rfl
theorem rx_9_agree_158 {ns n ct R K s L k a x} : rn_9_agree ns ct R K (n + 1) 158 L (.inl (a, x) :: k) s = (sy_ri a x ∧ rn_9_agree ns ct R K n 159 L (.inr (.inl (true, x)) :: k) s) := rfl
theorem rx_9_agree_159 {ns n ct R K s L k} : rn_9_agree ns ct R K (n + 1) 159 L k s = (sy_call false (ct 106) k s fun r t => rn_9_agree ns ct R K n 162 L r t) := rfl
theorem rx_9_agree_162 {ns n ct R K s L k a x} : rn_9_agree ns ct R K (n + 1) 162 L (.inl (a, x) :: k) s = (sy_ri a x ∧ (0 < x → rn_9_agree ns ct R K n 169 L k s) ∧ (¬ 0 < x → rn_9_agree ns ct R K n 165 L k s)) := rfl
theorem rx_9_agree_165 {ns n ct R K s L k} : rn_9_agree ns ct R K (n + 1) 165 L k s = (rn_9_agree ns ct R K n 166 L (.inl (true, 1) :: k) s) := rfl
theorem rx_9_agree_166 {ns n ct R K s L k} : rn_9_agree ns ct R K (n + 1) 166 L k s = (rn_9_agree ns ct R K n 170 L k s) := rfl
theorem rx_9_agree_169 {ns n ct R K s L k} : rn_9_agree ns ct R K (n + 1) 169 L k s = (rn_9_agree ns ct R K n 170 L (.inl (true, 0) :: k) s) := rfl
theorem rx_9_agree_170 {ns n ct R K s L a z} : rn_9_agree ns ct R K (n + 1) 170 L [.inl (a, z)] s = (sy_ri a z ∧ sy_b01 true z ∧ R (some (.inl (true, z))) s) := rfl
theorem rx_9_agree_171 {ns n ct R K s k z v0 v1 v2 v4 v5} : rn_9_agree ns ct R K (n + 1) 171 [v0, v1, v2, .inl (true, z), v4, v5] k s = (rn_9_agree ns ct R K n 172 [v0, v1, v2, .inl (true, z), v4, v5] (.inl (true, z) :: k) s) := rfl
theorem rx_9_agree_172 {ns n ct R K s L k a x} : rn_9_agree ns ct R K (n + 1) 172 L (.inl (a, x) :: k) s = (sy_ri a x ∧ (x = 0 → rn_9_agree ns ct R K n 223 L k s) ∧ (¬ x = 0 → rn_9_agree ns ct R K n 175 L k s)) := rfl
theorem rx_9_agree_175 {ns n ct R K s k z v1 v2 v3 v4 v5} : rn_9_agree ns ct R K (n + 1) 175 [.inr (.inr (some z)), v1, v2, v3, v4, v5] k s = (rn_9_agree ns ct R K n 176 [.inr (.inr (some z)), v1, v2, v3, v4, v5] (.inr (.inr (some z)) :: k) s) := rfl
theorem rx_9_agree_176 {ns n ct R K s k z v0 v2 v3 v4 v5} : rn_9_agree ns ct R K (n + 1) 176 [v0, .inl (true, z), v2, v3, v4, v5] k s = (rn_9_agree ns ct R K n 177 [v0, .inl (true, z), v2, v3, v4, v5] (.inl (true, z) :: k) s) := rfl
theorem rx_9_agree_177 {ns n ct R K s k z v1 v2 v3 v4 v5} : rn_9_agree ns ct R K (n + 1) 177 [.inr (.inr (some z)), v1, v2, v3, v4, v5] k s = (rn_9_agree ns ct R K n 178 [.inr (.inr (some z)), v1, v2, v3, v4, v5] (.inr (.inr (some z)) :: k) s) := rfl
theorem rx_9_agree_178 {ns n ct R K s L k a} : rn_9_agree ns ct R K (n + 1) 178 L (.inr (.inr (some (some a))) :: k) s = (sy_ob a = some 9 ∧ rn_9_agree ns ct R K n 181 L (sy_fv s a 2 :: k) s) := rfl
theorem rx_9_agree_181 {ns n ct R K s k z v0 v1 v3 v4 v5} : rn_9_agree ns ct R K (n + 1) 181 [v0, v1, .inl (true, z), v3, v4, v5] k s = (rn_9_agree ns ct R K n 182 [v0, v1, .inl (true, z), v3, v4, v5] (.inl (true, z) :: k) s) := rfl
theorem rx_9_agree_182 {ns n ct R K s L k a b z} : rn_9_agree ns ct R K (n + 1) 182 L (.inl (b, z) :: .inr (.inr (some (some a))) :: k) s = ((0 ≤ z ∧ z < (sy_ar a).2) ∧ sy_ob a = none ∧ (sy_ar a).1 = 0 ∧ rn_9_agree ns ct R K n 183 L (.inl (true, s a z.toNat) :: k) s) := rfl
theorem rx_9_agree_183 {ns n ct R K s k z v0 v1 v2 v3 v5} : rn_9_agree ns ct R K (n + 1) 183 [v0, v1, v2, v3, .inl (true, z), v5] k s = (rn_9_agree ns ct R K n 185 [v0, v1, v2, v3, .inl (true, z), v5] (.inl (true, z) :: k) s) := rfl
theorem rx_9_agree_185 {ns n ct R K s k z v1 v2 v3 v4 v5} : rn_9_agree ns ct R K (n + 1) 185 [.inr (.inr (some z)), v1, v2, v3, v4, v5] k s = (rn_9_agree ns ct R K n 186 [.inr (.inr (some z)), v1, v2, v3, v4, v5] (.inr (.inr (some z)) :: k) s) := rfl
theorem rx_9_agree_186 {ns n ct R K s k z v0 v1 v3 v4 v5} : rn_9_agree ns ct R K (n + 1) 186 [v0, v1, .inl (true, z), v3, v4, v5] k s = (rn_9_agree ns ct R K n 187 [v0, v1, .inl (true, z), v3, v4, v5] (.inl (true, z) :: k) s) := rfl
theorem rx_9_agree_187 {ns n ct R K s L k} : rn_9_agree ns ct R K (n + 1) 187 L k s = (rn_9_agree ns ct R K n 188 L (.inl (true, 1) :: k) s) := rfl
theorem rx_9_agree_188 {ns n ct R K s L k} : rn_9_agree ns ct R K (n + 1) 188 L k s = (sy_call false (ct 103) k s fun r t => rn_9_agree ns ct R K n 191 L r t) := rfl
theorem rx_9_agree_191 {ns n ct R K s L k a b x y} : rn_9_agree ns ct R K (n + 1) 191 L (.inl (b, y) :: .inl (a, x) :: k) s = (rn_9_agree ns ct R K n 192 L (.inl (false, x - y) :: k) s) := rfl
theorem rx_9_agree_192 {ns n ct R K s L k a x} : rn_9_agree ns ct R K (n + 1) 192 L (.inl (a, x) :: k) s = (sy_ri a x ∧ rn_9_agree ns ct R K n 193 L (.inr (.inl (true, x)) :: k) s) := rfl
theorem rx_9_agree_193 {ns n ct R K s L k} : rn_9_agree ns ct R K (n + 1) 193 L k s = (sy_call false (ct 106) k s fun r t => rn_9_agree ns ct R K n 196 L r t) := rfl
theorem rx_9_agree_196 {ns n ct R K s L k a x} : rn_9_agree ns ct R K (n + 1) 196 L (.inl (a, x) :: k) s = (sy_ri a x ∧ (x ≤ 0 → rn_9_agree ns ct R K n 223 L k s) ∧ (¬ x ≤ 0 → rn_9_agree ns ct R K n 199 L k s)) := rfl
theorem rx_9_agree_199 {ns n ct R K s k z v1 v2 v3 v4 v5} : rn_9_agree ns ct R K (n + 1) 199 [.inr (.inr (some z)), v1, v2, v3, v4, v5] k s = (rn_9_agree ns ct R K n 200 [.inr (.inr (some z)), v1, v2, v3, v4, v5] (.inr (.inr (some z)) :: k) s) := rfl
theorem rx_9_agree_200 {ns n ct R K s k z v0 v2 v3 v4 v5} : rn_9_agree ns ct R K (n + 1) 200 [v0, .inl (true, z), v2, v3, v4, v5] k s = (rn_9_agree ns ct R K n 201 [v0, .inl (true, z), v2, v3, v4, v5] (.inl (true, z) :: k) s) := rfl
theorem rx_9_agree_201 {ns n ct R K s k z v1 v2 v3 v4 v5} : rn_9_agree ns ct R K (n + 1) 201 [.inr (.inr (some z)), v1, v2, v3, v4, v5] k s = (rn_9_agree ns ct R K n 202 [.inr (.inr (some z)), v1, v2, v3, v4, v5] (.inr (.inr (some z)) :: k) s) := rfl
theorem rx_9_agree_202 {ns n ct R K s L k a} : rn_9_agree ns ct R K (n + 1) 202 L (.inr (.inr (some (some a))) :: k) s = (sy_ob a = some 9 ∧ rn_9_agree ns ct R K n 205 L (sy_fv s a 2 :: k) s) := rfl
theorem rx_9_agree_205 {ns n ct R K s k z v0 v1 v3 v4 v5} : rn_9_agree ns ct R K (n + 1) 205 [v0, v1, .inl (true, z), v3, v4, v5] k s = (rn_9_agree ns ct R K n 206 [v0, v1, .inl (true, z), v3, v4, v5] (.inl (true, z) :: k) s) := rfl
theorem rx_9_agree_206 {ns n ct R K s L k a b z} : rn_9_agree ns ct R K (n + 1) 206 L (.inl (b, z) :: .inr (.inr (some (some a))) :: k) s = ((0 ≤ z ∧ z < (sy_ar a).2) ∧ sy_ob a = none ∧ (sy_ar a).1 = 0 ∧ rn_9_agree ns ct R K n 207 L (.inl (true, s a z.toNat) :: k) s) := rfl
theorem rx_9_agree_207 {ns n ct R K s k z v1 v2 v3 v4 v5} : rn_9_agree ns ct R K (n + 1) 207 [.inr (.inr (some z)), v1, v2, v3, v4, v5] k s = (rn_9_agree ns ct R K n 208 [.inr (.inr (some z)), v1, v2, v3, v4, v5] (.inr (.inr (some z)) :: k) s) := rfl
theorem rx_9_agree_208 {ns n ct R K s k z v0 v1 v3 v4 v5} : rn_9_agree ns ct R K (n + 1) 208 [v0, v1, .inl (true, z), v3, v4, v5] k s = (rn_9_agree ns ct R K n 209 [v0, v1, .inl (true, z), v3, v4, v5] (.inl (true, z) :: k) s) := rfl
theorem rx_9_agree_209 {ns n ct R K s L k} : rn_9_agree ns ct R K (n + 1) 209 L k s = (rn_9_agree ns ct R K n 210 L (.inl (true, 0) :: k) s) := rfl
theorem rx_9_agree_210 {ns n ct R K s L k} : rn_9_agree ns ct R K (n + 1) 210 L k s = (sy_call false (ct 103) k s fun r t => rn_9_agree ns ct R K n 213 L r t) := rfl
theorem rx_9_agree_213 {ns n ct R K s k z v0 v1 v2 v3 v5} : rn_9_agree ns ct R K (n + 1) 213 [v0, v1, v2, v3, .inl (true, z), v5] k s = (rn_9_agree ns ct R K n 215 [v0, v1, v2, v3, .inl (true, z), v5] (.inl (true, z) :: k) s) := rfl
theorem rx_9_agree_215 {ns n ct R K s L k a b x y} : rn_9_agree ns ct R K (n + 1) 215 L (.inl (b, y) :: .inl (a, x) :: k) s = (rn_9_agree ns ct R K n 216 L (.inl (false, x - y) :: k) s) := rfl
theorem rx_9_agree_216 {ns n ct R K s L k a x} : rn_9_agree ns ct R K (n + 1) 216 L (.inl (a, x) :: k) s = (sy_ri a x ∧ rn_9_agree ns ct R K n 217 L (.inr (.inl (true, x)) :: k) s) := rfl
theorem rx_9_agree_217 {ns n ct R K s L k} : rn_9_agree ns ct R K (n + 1) 217 L k s = (sy_call false (ct 106) k s fun r t => rn_9_agree ns ct R K n 220 L r t) := rfl
theorem rx_9_agree_220 {ns n ct R K s L k a x} : rn_9_agree ns ct R K (n + 1) 220 L (.inl (a, x) :: k) s = (sy_ri a x ∧ (0 < x → rn_9_agree ns ct R K n 227 L k s) ∧ (¬ 0 < x → rn_9_agree ns ct R K n 223 L k s)) := rfl
theorem rx_9_agree_223 {ns n ct R K s L k} : rn_9_agree ns ct R K (n + 1) 223 L k s = (rn_9_agree ns ct R K n 224 L (.inl (true, 1) :: k) s) := rfl
theorem rx_9_agree_224 {ns n ct R K s L k} : rn_9_agree ns ct R K (n + 1) 224 L k s = (rn_9_agree ns ct R K n 228 L k s) := rfl
theorem rx_9_agree_227 {ns n ct R K s L k} : rn_9_agree ns ct R K (n + 1) 227 L k s = (rn_9_agree ns ct R K n 228 L (.inl (true, 0) :: k) s) := rfl
theorem rx_9_agree_228 {ns n ct R K s L a z} : rn_9_agree ns ct R K (n + 1) 228 L [.inl (a, z)] s = (sy_ri a z ∧ sy_b01 true z ∧ R (some (.inl (true, z))) s) := rfl
def y_9_agrees : MethodName := ⟨"StarHideModel", "agrees", "(II)I"⟩
abbrev c_9_agrees : ByteArray := prog_11_method_24_code
def tc_9_agrees (pc : Nat) : Option sy_I := match pc with
  | 0 => some (.aload_n 0, 1, 0)
  | 1 => some (.iload_n 1, 2, 0)
  | 2 => some (.invokevirtual 93, 5, 0)
  | 5 => some (.ifCond .eq 11, 8, 16)
  | 8 => some (.aload_n 0, 9, 0)
  | 9 => some (.iload_n 2, 10, 0)
  | 10 => some (.invokevirtual 73, 13, 0)
  | 13 => some (.ifCond .ne 7, 16, 20)
  | 16 => some (.iconst (-1), 17, 0)
  | 17 => some (.goto 17, 20, 34)
  | 20 => some (.aload_n 0, 21, 0)
  | 21 => some (.iload_n 1, 22, 0)
  | 22 => some (.iload_n 2, 23, 0)
  | 23 => some (.invokevirtual 110, 26, 0)
  | 26 => some (.ifCond .eq 7, 29, 33)
  | 29 => some (.iconst 1, 30, 0)
  | 30 => some (.goto 4, 33, 34)
  | 33 => some (.iconst 0, 34, 0)
  | 34 => some (.ireturn, 35, 0)
  | _ => none
theorem tv_9_agrees : ∀ pc i, sy_lk 35 tc_9_agrees pc = some i → sy_chk c_9_agrees (some .int) false pc i = true := sy_lk_ok 35 tc_9_agrees (by decide +kernel)
def Mk_9_agrees (ct : Nat → Option (Bool × Nat × sy_Sp)) : sy_M := (sy_lk 35 tc_9_agrees, ff_9, ki_9, kl_9, ct, false)
def rn_9_agrees (ns : Nat) (ct : Nat → Option (Bool × Nat × sy_Sp)) (R : sy_R) (K : sy_K) : Nat → sy_K := sy_run ns (Mk_9_agrees ct) [] R K
theorem rx_9_agrees_0 {ns n ct R K s k z v1 v2} : rn_9_agrees ns ct R K (n + 1) 0 [.inr (.inr (some z)), v1, v2] k s = (rn_9_agrees ns ct R K n 1 [.inr (.inr (some z)), v1, v2] (.inr (.inr (some z)) :: k) s) := rfl
theorem rx_9_agrees_1 {ns n ct R K s k z v0 v2} : rn_9_agrees ns ct R K (n + 1) 1 [v0, .inl (true, z), v2] k s = (rn_9_agrees ns ct R K n 2 [v0, .inl (true, z), v2] (.inl (true, z) :: k) s) := rfl
theorem rx_9_agrees_2 {ns n ct R K s L k} : rn_9_agrees ns ct R K (n + 1) 2 L k s = (sy_call false (ct 93) k s fun r t => rn_9_agrees ns ct R K n 5 L r t) := rfl
theorem rx_9_agrees_5 {ns n ct R K s L k a x} : rn_9_agrees ns ct R K (n + 1) 5 L (.inl (a, x) :: k) s = (sy_ri a x ∧ (x = 0 → rn_9_agrees ns ct R K n 16 L k s) ∧ (¬ x = 0 → rn_9_agrees ns ct R K n 8 L k s)) := rfl
theorem rx_9_agrees_8 {ns n ct R K s k z v1 v2} : rn_9_agrees ns ct R K (n + 1) 8 [.inr (.inr (some z)), v1, v2] k s = (rn_9_agrees ns ct R K n 9 [.inr (.inr (some z)), v1, v2] (.inr (.inr (some z)) :: k) s) := rfl
theorem rx_9_agrees_9 {ns n ct R K s k z v0 v1} : rn_9_agrees ns ct R K (n + 1) 9 [v0, v1, .inl (true, z)] k s = (rn_9_agrees ns ct R K n 10 [v0, v1, .inl (true, z)] (.inl (true, z) :: k) s) := rfl
theorem rx_9_agrees_10 {ns n ct R K s L k} : rn_9_agrees ns ct R K (n + 1) 10 L k s = (sy_call false (ct 73) k s fun r t => rn_9_agrees ns ct R K n 13 L r t) := rfl
theorem rx_9_agrees_13 {ns n ct R K s L k a x} : rn_9_agrees ns ct R K (n + 1) 13 L (.inl (a, x) :: k) s = (sy_ri a x ∧ (¬ x = 0 → rn_9_agrees ns ct R K n 20 L k s) ∧ (x = 0 → rn_9_agrees ns ct R K n 16 L k s)) := rfl
theorem rx_9_agrees_16 {ns n ct R K s L k} : rn_9_agrees ns ct R K (n + 1) 16 L k s = (rn_9_agrees ns ct R K n 17 L (.inl (true, (-1)) :: k) s) := rfl
theorem rx_9_agrees_17 {ns n ct R K s L k} : rn_9_agrees ns ct R K (n + 1) 17 L k s = (rn_9_agrees ns ct R K n 34 L k s) := rfl
theorem rx_9_agrees_20 {ns n ct R K s k z v1 v2} : rn_9_agrees ns ct R K (n + 1) 20 [.inr (.inr (some z)), v1, v2] k s = (rn_9_agrees ns ct R K n 21 [.inr (.inr (some z)), v1, v2] (.inr (.inr (some z)) :: k) s) := rfl
theorem rx_9_agrees_21 {ns n ct R K s k z v0 v2} : rn_9_agrees ns ct R K (n + 1) 21 [v0, .inl (true, z), v2] k s = (rn_9_agrees ns ct R K n 22 [v0, .inl (true, z), v2] (.inl (true, z) :: k) s) := rfl
theorem rx_9_agrees_22 {ns n ct R K s k z v0 v1} : rn_9_agrees ns ct R K (n + 1) 22 [v0, v1, .inl (true, z)] k s = (rn_9_agrees ns ct R K n 23 [v0, v1, .inl (true, z)] (.inl (true, z) :: k) s) := rfl
theorem rx_9_agrees_23 {ns n ct R K s L k} : rn_9_agrees ns ct R K (n + 1) 23 L k s = (sy_call false (ct 110) k s fun r t => rn_9_agrees ns ct R K n 26 L r t) := rfl
theorem rx_9_agrees_26 {ns n ct R K s L k a x} : rn_9_agrees ns ct R K (n + 1) 26 L (.inl (a, x) :: k) s = (sy_ri a x ∧ (x = 0 → rn_9_agrees ns ct R K n 33 L k s) ∧ (¬ x = 0 → rn_9_agrees ns ct R K n 29 L k s)) := rfl
theorem rx_9_agrees_29 {ns n ct R K s L k} : rn_9_agrees ns ct R K (n + 1) 29 L k s = (rn_9_agrees ns ct R K n 30 L (.inl (true, 1) :: k) s) := rfl
theorem rx_9_agrees_30 {ns n ct R K s L k} : rn_9_agrees ns ct R K (n + 1) 30 L k s = (rn_9_agrees ns ct R K n 34 L k s) := rfl
theorem rx_9_agrees_33 {ns n ct R K s L k} : rn_9_agrees ns ct R K (n + 1) 33 L k s = (rn_9_agrees ns ct R K n 34 L (.inl (true, 0) :: k) s) := rfl
theorem rx_9_agrees_34 {ns n ct R K s L a z} : rn_9_agrees ns ct R K (n + 1) 34 L [.inl (a, z)] s = (sy_ri a z ∧ sy_b01 false z ∧ R (some (.inl (true, z))) s) := rfl
def y_9_wrong : MethodName := ⟨"StarHideModel", "wrong", "(I)I"⟩
abbrev c_9_wrong : ByteArray := prog_11_method_25_code
def tc_9_wrong (pc : Nat) : Option sy_I := match pc with
  | 0 => some (.iconst 0, 1, 0)
  | 1 => some (.istore_n 2, 2, 0)
  | 2 => some (.iconst 0, 3, 0)
  | 3 => some (.istore_n 3, 4, 0)
  | 4 => some (.iload_n 3, 5, 0)
  | 5 => some (.aload_n 0, 6, 0)
  | 6 => some (.getfield 13, 9, 0)
  | 9 => some (.if_icmp .ge 26, 12, 35)
  | 12 => some (.iload_n 2, 13, 0)
  | 13 => some (.aload_n 0, 14, 0)
  | 14 => some (.iload_n 1, 15, 0)
  | 15 => some (.iload_n 3, 16, 0)
  | 16 => some (.invokevirtual 110, 19, 0)
  | 19 => some (.ifCond .eq 7, 22, 26)
  | 22 => some (.iconst 0, 23, 0)
  | 23 => some (.goto 4, 26, 27)
  | 26 => some (.iconst 1, 27, 0)
  | 27 => some (.iadd, 28, 0)
  | 28 => some (.istore_n 2, 29, 0)
  | 29 => some (.iinc 3 1, 32, 0)
  | 32 => some (.goto (-28), 35, 4)
  | 35 => some (.iload_n 2, 36, 0)
  | 36 => some (.ireturn, 37, 0)
  | _ => none
theorem tv_9_wrong : ∀ pc i, sy_lk 37 tc_9_wrong pc = some i → sy_chk c_9_wrong (some .int) false pc i = true := sy_lk_ok 37 tc_9_wrong (by decide +kernel)
def Mk_9_wrong (ct : Nat → Option (Bool × Nat × sy_Sp)) : sy_M := (sy_lk 37 tc_9_wrong, ff_9, ki_9, kl_9, ct, false)
def rn_9_wrong (ns : Nat) (ct : Nat → Option (Bool × Nat × sy_Sp)) (R : sy_R) (K : sy_K) : Nat → sy_K := sy_run ns (Mk_9_wrong ct) [4] R K
theorem rx_9_wrong_0 {ns n ct R K s L k} : rn_9_wrong ns ct R K (n + 1) 0 L k s = (rn_9_wrong ns ct R K n 1 L (.inl (true, 0) :: k) s) := rfl
theorem rx_9_wrong_1 {ns n ct R K s L k b z} : rn_9_wrong ns ct R K (n + 1) 1 L (.inl (b, z) :: k) s = (sy_ri b z ∧ 2 < L.length ∧ rn_9_wrong ns ct R K n 2 (sy_sto L 2 (.inl (true, z))) k s) := rfl
theorem rx_9_wrong_2 {ns n ct R K s L k} : rn_9_wrong ns ct R K (n + 1) 2 L k s = (rn_9_wrong ns ct R K n 3 L (.inl (true, 0) :: k) s) := rfl
theorem rx_9_wrong_3 {ns n ct R K s L k b z} : rn_9_wrong ns ct R K (n + 1) 3 L (.inl (b, z) :: k) s = (sy_ri b z ∧ 3 < L.length ∧ K 4 (sy_sto L 3 (.inl (true, z))) k s) := rfl
theorem rx_9_wrong_4 {ns n ct R K s k z v0 v1 v2} : rn_9_wrong ns ct R K (n + 1) 4 [v0, v1, v2, .inl (true, z)] k s = (rn_9_wrong ns ct R K n 5 [v0, v1, v2, .inl (true, z)] (.inl (true, z) :: k) s) := rfl
theorem rx_9_wrong_5 {ns n ct R K s k z v1 v2 v3} : rn_9_wrong ns ct R K (n + 1) 5 [.inr (.inr (some z)), v1, v2, v3] k s = (rn_9_wrong ns ct R K n 6 [.inr (.inr (some z)), v1, v2, v3] (.inr (.inr (some z)) :: k) s) := rfl
theorem rx_9_wrong_6 {ns n ct R K s L k a} : rn_9_wrong ns ct R K (n + 1) 6 L (.inr (.inr (some (some a))) :: k) s = (sy_ob a = some 9 ∧ rn_9_wrong ns ct R K n 9 L (sy_fv s a 1 :: k) s) := rfl
theorem rx_9_wrong_9 {ns n ct R K s L k a b x y} : rn_9_wrong ns ct R K (n + 1) 9 L (.inl (b, y) :: .inl (a, x) :: k) s = (sy_ri a x ∧ sy_ri b y ∧ (y ≤ x → rn_9_wrong ns ct R K n 35 L k s) ∧ (¬ y ≤ x → rn_9_wrong ns ct R K n 12 L k s)) := rfl
theorem rx_9_wrong_12 {ns n ct R K s k z v0 v1 v3} : rn_9_wrong ns ct R K (n + 1) 12 [v0, v1, .inl (true, z), v3] k s = (rn_9_wrong ns ct R K n 13 [v0, v1, .inl (true, z), v3] (.inl (true, z) :: k) s) := rfl
theorem rx_9_wrong_13 {ns n ct R K s k z v1 v2 v3} : rn_9_wrong ns ct R K (n + 1) 13 [.inr (.inr (some z)), v1, v2, v3] k s = (rn_9_wrong ns ct R K n 14 [.inr (.inr (some z)), v1, v2, v3] (.inr (.inr (some z)) :: k) s) := rfl
theorem rx_9_wrong_14 {ns n ct R K s k z v0 v2 v3} : rn_9_wrong ns ct R K (n + 1) 14 [v0, .inl (true, z), v2, v3] k s = (rn_9_wrong ns ct R K n 15 [v0, .inl (true, z), v2, v3] (.inl (true, z) :: k) s) := rfl
theorem rx_9_wrong_15 {ns n ct R K s k z v0 v1 v2} : rn_9_wrong ns ct R K (n + 1) 15 [v0, v1, v2, .inl (true, z)] k s = (rn_9_wrong ns ct R K n 16 [v0, v1, v2, .inl (true, z)] (.inl (true, z) :: k) s) := rfl
theorem rx_9_wrong_16 {ns n ct R K s L k} : rn_9_wrong ns ct R K (n + 1) 16 L k s = (sy_call false (ct 110) k s fun r t => rn_9_wrong ns ct R K n 19 L r t) := rfl
theorem rx_9_wrong_19 {ns n ct R K s L k a x} : rn_9_wrong ns ct R K (n + 1) 19 L (.inl (a, x) :: k) s = (sy_ri a x ∧ (x = 0 → rn_9_wrong ns ct R K n 26 L k s) ∧ (¬ x = 0 → rn_9_wrong ns ct R K n 22 L k s)) := rfl
theorem rx_9_wrong_22 {ns n ct R K s L k} : rn_9_wrong ns ct R K (n + 1) 22 L k s = (rn_9_wrong ns ct R K n 23 L (.inl (true, 0) :: k) s) := rfl
theorem rx_9_wrong_23 {ns n ct R K s L k} : rn_9_wrong ns ct R K (n + 1) 23 L k s = (rn_9_wrong ns ct R K n 27 L k s) := rfl
theorem rx_9_wrong_26 {ns n ct R K s L k} : rn_9_wrong ns ct R K (n + 1) 26 L k s = (rn_9_wrong ns ct R K n 27 L (.inl (true, 1) :: k) s) := rfl
theorem rx_9_wrong_27 {ns n ct R K s L k a b x y} : rn_9_wrong ns ct R K (n + 1) 27 L (.inl (b, y) :: .inl (a, x) :: k) s = (rn_9_wrong ns ct R K n 28 L (.inl (false, x + y) :: k) s) := rfl
theorem rx_9_wrong_28 {ns n ct R K s L k b z} : rn_9_wrong ns ct R K (n + 1) 28 L (.inl (b, z) :: k) s = (sy_ri b z ∧ 2 < L.length ∧ rn_9_wrong ns ct R K n 29 (sy_sto L 2 (.inl (true, z))) k s) := rfl
theorem rx_9_wrong_29 {ns n ct R K s k z v0 v1 v2} : rn_9_wrong ns ct R K (n + 1) 29 [v0, v1, v2, .inl (true, z)] k s = ((-2147483648 ≤ z + 1 ∧ z + 1 < 2147483648) ∧ rn_9_wrong ns ct R K n 32 (sy_sto [v0, v1, v2, .inl (true, z)] 3 (.inl (true, z + 1))) k s) := rfl
theorem rx_9_wrong_32 {ns n ct R K s L k} : rn_9_wrong ns ct R K (n + 1) 32 L k s = (K 4 L k s) := rfl
theorem rx_9_wrong_35 {ns n ct R K s k z v0 v1 v3} : rn_9_wrong ns ct R K (n + 1) 35 [v0, v1, .inl (true, z), v3] k s = (rn_9_wrong ns ct R K n 36 [v0, v1, .inl (true, z), v3] (.inl (true, z) :: k) s) := rfl
theorem rx_9_wrong_36 {ns n ct R K s L a z} : rn_9_wrong ns ct R K (n + 1) 36 L [.inl (a, z)] s = (sy_ri a z ∧ sy_b01 false z ∧ R (some (.inl (true, z))) s) := rfl
def y_9_fitting : MethodName := ⟨"StarHideModel", "fitting", "()I"⟩
abbrev c_9_fitting : ByteArray := prog_11_method_26_code
def tc_9_fitting (pc : Nat) : Option sy_I := match pc with
  | 0 => some (.iconst 0, 1, 0)
  | 1 => some (.istore_n 1, 2, 0)
  | 2 => some (.iconst 0, 3, 0)
  | 3 => some (.istore_n 2, 4, 0)
  | 4 => some (.iload_n 2, 5, 0)
  | 5 => some (.aload_n 0, 6, 0)
  | 6 => some (.invokevirtual 89, 9, 0)
  | 9 => some (.if_icmp .ge 25, 12, 34)
  | 12 => some (.iload_n 1, 13, 0)
  | 13 => some (.aload_n 0, 14, 0)
  | 14 => some (.iload_n 2, 15, 0)
  | 15 => some (.invokevirtual 113, 18, 0)
  | 18 => some (.ifCond .ne 7, 21, 25)
  | 21 => some (.iconst 1, 22, 0)
  | 22 => some (.goto 4, 25, 26)
  | 25 => some (.iconst 0, 26, 0)
  | 26 => some (.iadd, 27, 0)
  | 27 => some (.istore_n 1, 28, 0)
  | 28 => some (.iinc 2 1, 31, 0)
  | 31 => some (.goto (-27), 34, 4)
  | 34 => some (.iload_n 1, 35, 0)
  | 35 => some (.ireturn, 36, 0)
  | _ => none
theorem tv_9_fitting : ∀ pc i, sy_lk 36 tc_9_fitting pc = some i → sy_chk c_9_fitting (some .int) false pc i = true := sy_lk_ok 36 tc_9_fitting (by decide +kernel)
def Mk_9_fitting (ct : Nat → Option (Bool × Nat × sy_Sp)) : sy_M := (sy_lk 36 tc_9_fitting, ff_9, ki_9, kl_9, ct, false)
def rn_9_fitting (ns : Nat) (ct : Nat → Option (Bool × Nat × sy_Sp)) (R : sy_R) (K : sy_K) : Nat → sy_K := sy_run ns (Mk_9_fitting ct) [4] R K
theorem rx_9_fitting_0 {ns n ct R K s L k} : rn_9_fitting ns ct R K (n + 1) 0 L k s = (rn_9_fitting ns ct R K n 1 L (.inl (true, 0) :: k) s) := rfl
theorem rx_9_fitting_1 {ns n ct R K s L k b z} : rn_9_fitting ns ct R K (n + 1) 1 L (.inl (b, z) :: k) s = (sy_ri b z ∧ 1 < L.length ∧ rn_9_fitting ns ct R K n 2 (sy_sto L 1 (.inl (true, z))) k s) := rfl
theorem rx_9_fitting_2 {ns n ct R K s L k} : rn_9_fitting ns ct R K (n + 1) 2 L k s = (rn_9_fitting ns ct R K n 3 L (.inl (true, 0) :: k) s) := rfl
theorem rx_9_fitting_3 {ns n ct R K s L k b z} : rn_9_fitting ns ct R K (n + 1) 3 L (.inl (b, z) :: k) s = (sy_ri b z ∧ 2 < L.length ∧ K 4 (sy_sto L 2 (.inl (true, z))) k s) := rfl
theorem rx_9_fitting_4 {ns n ct R K s k z v0 v1} : rn_9_fitting ns ct R K (n + 1) 4 [v0, v1, .inl (true, z)] k s = (rn_9_fitting ns ct R K n 5 [v0, v1, .inl (true, z)] (.inl (true, z) :: k) s) := rfl
theorem rx_9_fitting_5 {ns n ct R K s k z v1 v2} : rn_9_fitting ns ct R K (n + 1) 5 [.inr (.inr (some z)), v1, v2] k s = (rn_9_fitting ns ct R K n 6 [.inr (.inr (some z)), v1, v2] (.inr (.inr (some z)) :: k) s) := rfl
theorem rx_9_fitting_6 {ns n ct R K s L k} : rn_9_fitting ns ct R K (n + 1) 6 L k s = (sy_call false (ct 89) k s fun r t => rn_9_fitting ns ct R K n 9 L r t) := rfl
theorem rx_9_fitting_9 {ns n ct R K s L k a b x y} : rn_9_fitting ns ct R K (n + 1) 9 L (.inl (b, y) :: .inl (a, x) :: k) s = (sy_ri a x ∧ sy_ri b y ∧ (y ≤ x → rn_9_fitting ns ct R K n 34 L k s) ∧ (¬ y ≤ x → rn_9_fitting ns ct R K n 12 L k s)) := rfl
theorem rx_9_fitting_12 {ns n ct R K s k z v0 v2} : rn_9_fitting ns ct R K (n + 1) 12 [v0, .inl (true, z), v2] k s = (rn_9_fitting ns ct R K n 13 [v0, .inl (true, z), v2] (.inl (true, z) :: k) s) := rfl
theorem rx_9_fitting_13 {ns n ct R K s k z v1 v2} : rn_9_fitting ns ct R K (n + 1) 13 [.inr (.inr (some z)), v1, v2] k s = (rn_9_fitting ns ct R K n 14 [.inr (.inr (some z)), v1, v2] (.inr (.inr (some z)) :: k) s) := rfl
theorem rx_9_fitting_14 {ns n ct R K s k z v0 v1} : rn_9_fitting ns ct R K (n + 1) 14 [v0, v1, .inl (true, z)] k s = (rn_9_fitting ns ct R K n 15 [v0, v1, .inl (true, z)] (.inl (true, z) :: k) s) := rfl
theorem rx_9_fitting_15 {ns n ct R K s L k} : rn_9_fitting ns ct R K (n + 1) 15 L k s = (sy_call false (ct 113) k s fun r t => rn_9_fitting ns ct R K n 18 L r t) := rfl
theorem rx_9_fitting_18 {ns n ct R K s L k a x} : rn_9_fitting ns ct R K (n + 1) 18 L (.inl (a, x) :: k) s = (sy_ri a x ∧ (¬ x = 0 → rn_9_fitting ns ct R K n 25 L k s) ∧ (x = 0 → rn_9_fitting ns ct R K n 21 L k s)) := rfl
theorem rx_9_fitting_21 {ns n ct R K s L k} : rn_9_fitting ns ct R K (n + 1) 21 L k s = (rn_9_fitting ns ct R K n 22 L (.inl (true, 1) :: k) s) := rfl
theorem rx_9_fitting_22 {ns n ct R K s L k} : rn_9_fitting ns ct R K (n + 1) 22 L k s = (rn_9_fitting ns ct R K n 26 L k s) := rfl
theorem rx_9_fitting_25 {ns n ct R K s L k} : rn_9_fitting ns ct R K (n + 1) 25 L k s = (rn_9_fitting ns ct R K n 26 L (.inl (true, 0) :: k) s) := rfl
theorem rx_9_fitting_26 {ns n ct R K s L k a b x y} : rn_9_fitting ns ct R K (n + 1) 26 L (.inl (b, y) :: .inl (a, x) :: k) s = (rn_9_fitting ns ct R K n 27 L (.inl (false, x + y) :: k) s) := rfl
theorem rx_9_fitting_27 {ns n ct R K s L k b z} : rn_9_fitting ns ct R K (n + 1) 27 L (.inl (b, z) :: k) s = (sy_ri b z ∧ 1 < L.length ∧ rn_9_fitting ns ct R K n 28 (sy_sto L 1 (.inl (true, z))) k s) := rfl
theorem rx_9_fitting_28 {ns n ct R K s k z v0 v1} : rn_9_fitting ns ct R K (n + 1) 28 [v0, v1, .inl (true, z)] k s = ((-2147483648 ≤ z + 1 ∧ z + 1 < 2147483648) ∧ rn_9_fitting ns ct R K n 31 (sy_sto [v0, v1, .inl (true, z)] 2 (.inl (true, z + 1))) k s) := rfl
theorem rx_9_fitting_31 {ns n ct R K s L k} : rn_9_fitting ns ct R K (n + 1) 31 L k s = (K 4 L k s) := rfl
theorem rx_9_fitting_34 {ns n ct R K s k z v0 v2} : rn_9_fitting ns ct R K (n + 1) 34 [v0, .inl (true, z), v2] k s = (rn_9_fitting ns ct R K n 35 [v0, .inl (true, z), v2] (.inl (true, z) :: k) s) := rfl
theorem rx_9_fitting_35 {ns n ct R K s L a z} : rn_9_fitting ns ct R K (n + 1) 35 L [.inl (a, z)] s = (sy_ri a z ∧ sy_b01 false z ∧ R (some (.inl (true, z))) s) := rfl
def y_9_fits : MethodName := ⟨"StarHideModel", "fits", "(I)I"⟩
abbrev c_9_fits : ByteArray := prog_11_method_27_code
def tc_9_fits (pc : Nat) : Option sy_I := match pc with
  | 0 => some (.iconst 0, 1, 0)
  | 1 => some (.istore_n 2, 2, 0)
  | 2 => some (.iconst 0, 3, 0)
  | 3 => some (.istore_n 3, 4, 0)
  | 4 => some (.iload_n 3, 5, 0)
  | 5 => some (.aload_n 0, 6, 0)
  | 6 => some (.invokevirtual 89, 9, 0)
  | 9 => some (.if_icmp .ge 30, 12, 39)
  | 12 => some (.aload_n 0, 13, 0)
  | 13 => some (.iload_n 3, 14, 0)
  | 14 => some (.invokevirtual 113, 17, 0)
  | 17 => some (.ifCond .le 6, 20, 23)
  | 20 => some (.goto 13, 23, 33)
  | 23 => some (.iload_n 2, 24, 0)
  | 24 => some (.iload_n 1, 25, 0)
  | 25 => some (.if_icmp .ne 5, 28, 30)
  | 28 => some (.iload_n 3, 29, 0)
  | 29 => some (.ireturn, 30, 0)
  | 30 => some (.iinc 2 1, 33, 0)
  | 33 => some (.iinc 3 1, 36, 0)
  | 36 => some (.goto (-32), 39, 4)
  | 39 => some (.iconst (-1), 40, 0)
  | 40 => some (.ireturn, 41, 0)
  | _ => none
theorem tv_9_fits : ∀ pc i, sy_lk 41 tc_9_fits pc = some i → sy_chk c_9_fits (some .int) false pc i = true := sy_lk_ok 41 tc_9_fits (by decide +kernel)
def Mk_9_fits (ct : Nat → Option (Bool × Nat × sy_Sp)) : sy_M := (sy_lk 41 tc_9_fits, ff_9, ki_9, kl_9, ct, false)
def rn_9_fits (ns : Nat) (ct : Nat → Option (Bool × Nat × sy_Sp)) (R : sy_R) (K : sy_K) : Nat → sy_K := sy_run ns (Mk_9_fits ct) [4] R K
theorem rx_9_fits_0 {ns n ct R K s L k} : rn_9_fits ns ct R K (n + 1) 0 L k s = (rn_9_fits ns ct R K n 1 L (.inl (true, 0) :: k) s) := rfl
theorem rx_9_fits_1 {ns n ct R K s L k b z} : rn_9_fits ns ct R K (n + 1) 1 L (.inl (b, z) :: k) s = (sy_ri b z ∧ 2 < L.length ∧ rn_9_fits ns ct R K n 2 (sy_sto L 2 (.inl (true, z))) k s) := rfl
theorem rx_9_fits_2 {ns n ct R K s L k} : rn_9_fits ns ct R K (n + 1) 2 L k s = (rn_9_fits ns ct R K n 3 L (.inl (true, 0) :: k) s) := rfl
theorem rx_9_fits_3 {ns n ct R K s L k b z} : rn_9_fits ns ct R K (n + 1) 3 L (.inl (b, z) :: k) s = (sy_ri b z ∧ 3 < L.length ∧ K 4 (sy_sto L 3 (.inl (true, z))) k s) := rfl
theorem rx_9_fits_4 {ns n ct R K s k z v0 v1 v2} : rn_9_fits ns ct R K (n + 1) 4 [v0, v1, v2, .inl (true, z)] k s = (rn_9_fits ns ct R K n 5 [v0, v1, v2, .inl (true, z)] (.inl (true, z) :: k) s) := rfl
theorem rx_9_fits_5 {ns n ct R K s k z v1 v2 v3} : rn_9_fits ns ct R K (n + 1) 5 [.inr (.inr (some z)), v1, v2, v3] k s = (rn_9_fits ns ct R K n 6 [.inr (.inr (some z)), v1, v2, v3] (.inr (.inr (some z)) :: k) s) := rfl
theorem rx_9_fits_6 {ns n ct R K s L k} : rn_9_fits ns ct R K (n + 1) 6 L k s = (sy_call false (ct 89) k s fun r t => rn_9_fits ns ct R K n 9 L r t) := rfl
theorem rx_9_fits_9 {ns n ct R K s L k a b x y} : rn_9_fits ns ct R K (n + 1) 9 L (.inl (b, y) :: .inl (a, x) :: k) s = (sy_ri a x ∧ sy_ri b y ∧ (y ≤ x → rn_9_fits ns ct R K n 39 L k s) ∧ (¬ y ≤ x → rn_9_fits ns ct R K n 12 L k s)) := rfl
theorem rx_9_fits_12 {ns n ct R K s k z v1 v2 v3} : rn_9_fits ns ct R K (n + 1) 12 [.inr (.inr (some z)), v1, v2, v3] k s = (rn_9_fits ns ct R K n 13 [.inr (.inr (some z)), v1, v2, v3] (.inr (.inr (some z)) :: k) s) := rfl
theorem rx_9_fits_13 {ns n ct R K s k z v0 v1 v2} : rn_9_fits ns ct R K (n + 1) 13 [v0, v1, v2, .inl (true, z)] k s = (rn_9_fits ns ct R K n 14 [v0, v1, v2, .inl (true, z)] (.inl (true, z) :: k) s) := rfl
theorem rx_9_fits_14 {ns n ct R K s L k} : rn_9_fits ns ct R K (n + 1) 14 L k s = (sy_call false (ct 113) k s fun r t => rn_9_fits ns ct R K n 17 L r t) := rfl
theorem rx_9_fits_17 {ns n ct R K s L k a x} : rn_9_fits ns ct R K (n + 1) 17 L (.inl (a, x) :: k) s = (sy_ri a x ∧ (x ≤ 0 → rn_9_fits ns ct R K n 23 L k s) ∧ (¬ x ≤ 0 → rn_9_fits ns ct R K n 20 L k s)) := rfl
theorem rx_9_fits_20 {ns n ct R K s L k} : rn_9_fits ns ct R K (n + 1) 20 L k s = (rn_9_fits ns ct R K n 33 L k s) := rfl
theorem rx_9_fits_23 {ns n ct R K s k z v0 v1 v3} : rn_9_fits ns ct R K (n + 1) 23 [v0, v1, .inl (true, z), v3] k s = (rn_9_fits ns ct R K n 24 [v0, v1, .inl (true, z), v3] (.inl (true, z) :: k) s) := rfl
theorem rx_9_fits_24 {ns n ct R K s k z v0 v2 v3} : rn_9_fits ns ct R K (n + 1) 24 [v0, .inl (true, z), v2, v3] k s = (rn_9_fits ns ct R K n 25 [v0, .inl (true, z), v2, v3] (.inl (true, z) :: k) s) := rfl
theorem rx_9_fits_25 {ns n ct R K s L k a b x y} : rn_9_fits ns ct R K (n + 1) 25 L (.inl (b, y) :: .inl (a, x) :: k) s = (sy_ri a x ∧ sy_ri b y ∧ (¬ x = y → rn_9_fits ns ct R K n 30 L k s) ∧ (x = y → rn_9_fits ns ct R K n 28 L k s)) := rfl
theorem rx_9_fits_28 {ns n ct R K s k z v0 v1 v2} : rn_9_fits ns ct R K (n + 1) 28 [v0, v1, v2, .inl (true, z)] k s = (rn_9_fits ns ct R K n 29 [v0, v1, v2, .inl (true, z)] (.inl (true, z) :: k) s) := rfl
theorem rx_9_fits_29 {ns n ct R K s L a z} : rn_9_fits ns ct R K (n + 1) 29 L [.inl (a, z)] s = (sy_ri a z ∧ sy_b01 false z ∧ R (some (.inl (true, z))) s) := rfl
theorem rx_9_fits_30 {ns n ct R K s k z v0 v1 v3} : rn_9_fits ns ct R K (n + 1) 30 [v0, v1, .inl (true, z), v3] k s = ((-2147483648 ≤ z + 1 ∧ z + 1 < 2147483648) ∧ rn_9_fits ns ct R K n 33 (sy_sto [v0, v1, .inl (true, z), v3] 2 (.inl (true, z + 1))) k s) := rfl
theorem rx_9_fits_33 {ns n ct R K s k z v0 v1 v2} : rn_9_fits ns ct R K (n + 1) 33 [v0, v1, v2, .inl (true, z)] k s = ((-2147483648 ≤ z + 1 ∧ z + 1 < 2147483648) ∧ rn_9_fits ns ct R K n 36 (sy_sto [v0, v1, v2, .inl (true, z)] 3 (.inl (true, z + 1))) k s) := rfl
theorem rx_9_fits_36 {ns n ct R K s L k} : rn_9_fits ns ct R K (n + 1) 36 L k s = (K 4 L k s) := rfl
theorem rx_9_fits_39 {ns n ct R K s L k} : rn_9_fits ns ct R K (n + 1) 39 L k s = (rn_9_fits ns ct R K n 40 L (.inl (true, (-1)) :: k) s) := rfl
theorem rx_9_fits_40 {ns n ct R K s L a z} : rn_9_fits ns ct R K (n + 1) 40 L [.inl (a, z)] s = (sy_ri a z ∧ sy_b01 false z ∧ R (some (.inl (true, z))) s) := rfl
def y_9_size : MethodName := ⟨"StarHideModel", "size", "(Z)I"⟩
abbrev c_9_size : ByteArray := prog_11_method_28_code
def tc_9_size (pc : Nat) : Option sy_I := match pc with
  | 0 => some (.iconst (-1), 1, 0)
  | 1 => some (.istore_n 2, 2, 0)
  | 2 => some (.iconst 0, 3, 0)
  | 3 => some (.istore_n 3, 4, 0)
  | 4 => some (.iload_n 3, 5, 0)
  | 5 => some (.aload_n 0, 6, 0)
  | 6 => some (.invokevirtual 89, 9, 0)
  | 9 => some (.if_icmp .ge 62, 12, 71)
  | 12 => some (.aload_n 0, 13, 0)
  | 13 => some (.iload_n 3, 14, 0)
  | 14 => some (.invokevirtual 113, 17, 0)
  | 17 => some (.ifCond .le 6, 20, 23)
  | 20 => some (.goto 45, 23, 65)
  | 23 => some (.aload_n 0, 24, 0)
  | 24 => some (.iload_n 3, 25, 0)
  | 25 => some (.iconst 2, 26, 0)
  | 26 => some (.invokevirtual 96, 29, 0)
  | 29 => some (.aload_n 0, 30, 0)
  | 30 => some (.iload_n 3, 31, 0)
  | 31 => some (.iconst 3, 32, 0)
  | 32 => some (.invokevirtual 96, 35, 0)
  | 35 => some (.imul, 36, 0)
  | 36 => some (.istore 4, 38, 0)
  | 38 => some (.iload_n 2, 39, 0)
  | 39 => some (.iconst (-1), 40, 0)
  | 40 => some (.if_icmp .eq 22, 43, 62)
  | 43 => some (.iload_n 1, 44, 0)
  | 44 => some (.ifCond .eq 12, 47, 56)
  | 47 => some (.iload 4, 49, 0)
  | 49 => some (.iload_n 2, 50, 0)
  | 50 => some (.if_icmp .le 15, 53, 65)
  | 53 => some (.goto 9, 56, 62)
  | 56 => some (.iload 4, 58, 0)
  | 58 => some (.iload_n 2, 59, 0)
  | 59 => some (.if_icmp .ge 6, 62, 65)
  | 62 => some (.iload 4, 64, 0)
  | 64 => some (.istore_n 2, 65, 0)
  | 65 => some (.iinc 3 1, 68, 0)
  | 68 => some (.goto (-64), 71, 4)
  | 71 => some (.iload_n 2, 72, 0)
  | 72 => some (.ireturn, 73, 0)
  | _ => none
theorem tv_9_size : ∀ pc i, sy_lk 73 tc_9_size pc = some i → sy_chk c_9_size (some .int) false pc i = true := sy_lk_ok 73 tc_9_size (by decide +kernel)
def Mk_9_size (ct : Nat → Option (Bool × Nat × sy_Sp)) : sy_M := (sy_lk 73 tc_9_size, ff_9, ki_9, kl_9, ct, false)
def rn_9_size (ns : Nat) (ct : Nat → Option (Bool × Nat × sy_Sp)) (R : sy_R) (K : sy_K) : Nat → sy_K := sy_run ns (Mk_9_size ct) [4] R K
theorem rx_9_size_0 {ns n ct R K s L k} : rn_9_size ns ct R K (n + 1) 0 L k s = (rn_9_size ns ct R K n 1 L (.inl (true, (-1)) :: k) s) := rfl
theorem rx_9_size_1 {ns n ct R K s L k b z} : rn_9_size ns ct R K (n + 1) 1 L (.inl (b, z) :: k) s = (sy_ri b z ∧ 2 < L.length ∧ rn_9_size ns ct R K n 2 (sy_sto L 2 (.inl (true, z))) k s) := rfl
theorem rx_9_size_2 {ns n ct R K s L k} : rn_9_size ns ct R K (n + 1) 2 L k s = (rn_9_size ns ct R K n 3 L (.inl (true, 0) :: k) s) := rfl
theorem rx_9_size_3 {ns n ct R K s L k b z} : rn_9_size ns ct R K (n + 1) 3 L (.inl (b, z) :: k) s = (sy_ri b z ∧ 3 < L.length ∧ K 4 (sy_sto L 3 (.inl (true, z))) k s) := rfl
theorem rx_9_size_4 {ns n ct R K s k z v0 v1 v2 v4} : rn_9_size ns ct R K (n + 1) 4 [v0, v1, v2, .inl (true, z), v4] k s = (rn_9_size ns ct R K n 5 [v0, v1, v2, .inl (true, z), v4] (.inl (true, z) :: k) s) := rfl
theorem rx_9_size_5 {ns n ct R K s k z v1 v2 v3 v4} : rn_9_size ns ct R K (n + 1) 5 [.inr (.inr (some z)), v1, v2, v3, v4] k s = (rn_9_size ns ct R K n 6 [.inr (.inr (some z)), v1, v2, v3, v4] (.inr (.inr (some z)) :: k) s) := rfl
theorem rx_9_size_6 {ns n ct R K s L k} : rn_9_size ns ct R K (n + 1) 6 L k s = (sy_call false (ct 89) k s fun r t => rn_9_size ns ct R K n 9 L r t) := rfl
theorem rx_9_size_9 {ns n ct R K s L k a b x y} : rn_9_size ns ct R K (n + 1) 9 L (.inl (b, y) :: .inl (a, x) :: k) s = (sy_ri a x ∧ sy_ri b y ∧ (y ≤ x → rn_9_size ns ct R K n 71 L k s) ∧ (¬ y ≤ x → rn_9_size ns ct R K n 12 L k s)) := rfl
theorem rx_9_size_12 {ns n ct R K s k z v1 v2 v3 v4} : rn_9_size ns ct R K (n + 1) 12 [.inr (.inr (some z)), v1, v2, v3, v4] k s = (rn_9_size ns ct R K n 13 [.inr (.inr (some z)), v1, v2, v3, v4] (.inr (.inr (some z)) :: k) s) := rfl
theorem rx_9_size_13 {ns n ct R K s k z v0 v1 v2 v4} : rn_9_size ns ct R K (n + 1) 13 [v0, v1, v2, .inl (true, z), v4] k s = (rn_9_size ns ct R K n 14 [v0, v1, v2, .inl (true, z), v4] (.inl (true, z) :: k) s) := rfl
theorem rx_9_size_14 {ns n ct R K s L k} : rn_9_size ns ct R K (n + 1) 14 L k s = (sy_call false (ct 113) k s fun r t => rn_9_size ns ct R K n 17 L r t) := rfl
theorem rx_9_size_17 {ns n ct R K s L k a x} : rn_9_size ns ct R K (n + 1) 17 L (.inl (a, x) :: k) s = (sy_ri a x ∧ (x ≤ 0 → rn_9_size ns ct R K n 23 L k s) ∧ (¬ x ≤ 0 → rn_9_size ns ct R K n 20 L k s)) := rfl
theorem rx_9_size_20 {ns n ct R K s L k} : rn_9_size ns ct R K (n + 1) 20 L k s = (rn_9_size ns ct R K n 65 L k s) := rfl
theorem rx_9_size_23 {ns n ct R K s k z v1 v2 v3 v4} : rn_9_size ns ct R K (n + 1) 23 [.inr (.inr (some z)), v1, v2, v3, v4] k s = (rn_9_size ns ct R K n 24 [.inr (.inr (some z)), v1, v2, v3, v4] (.inr (.inr (some z)) :: k) s) := rfl
theorem rx_9_size_24 {ns n ct R K s k z v0 v1 v2 v4} : rn_9_size ns ct R K (n + 1) 24 [v0, v1, v2, .inl (true, z), v4] k s = (rn_9_size ns ct R K n 25 [v0, v1, v2, .inl (true, z), v4] (.inl (true, z) :: k) s) := rfl
theorem rx_9_size_25 {ns n ct R K s L k} : rn_9_size ns ct R K (n + 1) 25 L k s = (rn_9_size ns ct R K n 26 L (.inl (true, 2) :: k) s) := rfl
theorem rx_9_size_26 {ns n ct R K s L k} : rn_9_size ns ct R K (n + 1) 26 L k s = (sy_call false (ct 96) k s fun r t => rn_9_size ns ct R K n 29 L r t) := rfl
theorem rx_9_size_29 {ns n ct R K s k z v1 v2 v3 v4} : rn_9_size ns ct R K (n + 1) 29 [.inr (.inr (some z)), v1, v2, v3, v4] k s = (rn_9_size ns ct R K n 30 [.inr (.inr (some z)), v1, v2, v3, v4] (.inr (.inr (some z)) :: k) s) := rfl
theorem rx_9_size_30 {ns n ct R K s k z v0 v1 v2 v4} : rn_9_size ns ct R K (n + 1) 30 [v0, v1, v2, .inl (true, z), v4] k s = (rn_9_size ns ct R K n 31 [v0, v1, v2, .inl (true, z), v4] (.inl (true, z) :: k) s) := rfl
theorem rx_9_size_31 {ns n ct R K s L k} : rn_9_size ns ct R K (n + 1) 31 L k s = (rn_9_size ns ct R K n 32 L (.inl (true, 3) :: k) s) := rfl
theorem rx_9_size_32 {ns n ct R K s L k} : rn_9_size ns ct R K (n + 1) 32 L k s = (sy_call false (ct 96) k s fun r t => rn_9_size ns ct R K n 35 L r t) := rfl
theorem rx_9_size_35 {ns n ct R K s L k a b x y} : rn_9_size ns ct R K (n + 1) 35 L (.inl (b, y) :: .inl (a, x) :: k) s = (rn_9_size ns ct R K n 36 L (.inl (false, x * y) :: k) s) := rfl
theorem rx_9_size_36 {ns n ct R K s L k b z} : rn_9_size ns ct R K (n + 1) 36 L (.inl (b, z) :: k) s = (sy_ri b z ∧ 4 < L.length ∧ rn_9_size ns ct R K n 38 (sy_sto L 4 (.inl (true, z))) k s) := rfl
theorem rx_9_size_38 {ns n ct R K s k z v0 v1 v3 v4} : rn_9_size ns ct R K (n + 1) 38 [v0, v1, .inl (true, z), v3, v4] k s = (rn_9_size ns ct R K n 39 [v0, v1, .inl (true, z), v3, v4] (.inl (true, z) :: k) s) := rfl
theorem rx_9_size_39 {ns n ct R K s L k} : rn_9_size ns ct R K (n + 1) 39 L k s = (rn_9_size ns ct R K n 40 L (.inl (true, (-1)) :: k) s) := rfl
theorem rx_9_size_40 {ns n ct R K s L k a b x y} : rn_9_size ns ct R K (n + 1) 40 L (.inl (b, y) :: .inl (a, x) :: k) s = (sy_ri a x ∧ sy_ri b y ∧ (x = y → rn_9_size ns ct R K n 62 L k s) ∧ (¬ x = y → rn_9_size ns ct R K n 43 L k s)) := rfl
theorem rx_9_size_43 {ns n ct R K s k z v0 v2 v3 v4} : rn_9_size ns ct R K (n + 1) 43 [v0, .inl (true, z), v2, v3, v4] k s = (rn_9_size ns ct R K n 44 [v0, .inl (true, z), v2, v3, v4] (.inl (true, z) :: k) s) := rfl
theorem rx_9_size_44 {ns n ct R K s L k a x} : rn_9_size ns ct R K (n + 1) 44 L (.inl (a, x) :: k) s = (sy_ri a x ∧ (x = 0 → rn_9_size ns ct R K n 56 L k s) ∧ (¬ x = 0 → rn_9_size ns ct R K n 47 L k s)) := rfl
theorem rx_9_size_47 {ns n ct R K s k z v0 v1 v2 v3} : rn_9_size ns ct R K (n + 1) 47 [v0, v1, v2, v3, .inl (true, z)] k s = (rn_9_size ns ct R K n 49 [v0, v1, v2, v3, .inl (true, z)] (.inl (true, z) :: k) s) := rfl
theorem rx_9_size_49 {ns n ct R K s k z v0 v1 v3 v4} : rn_9_size ns ct R K (n + 1) 49 [v0, v1, .inl (true, z), v3, v4] k s = (rn_9_size ns ct R K n 50 [v0, v1, .inl (true, z), v3, v4] (.inl (true, z) :: k) s) := rfl
theorem rx_9_size_50 {ns n ct R K s L k a b x y} : rn_9_size ns ct R K (n + 1) 50 L (.inl (b, y) :: .inl (a, x) :: k) s = (sy_ri a x ∧ sy_ri b y ∧ (x ≤ y → rn_9_size ns ct R K n 65 L k s) ∧ (¬ x ≤ y → rn_9_size ns ct R K n 53 L k s)) := rfl
theorem rx_9_size_53 {ns n ct R K s L k} : rn_9_size ns ct R K (n + 1) 53 L k s = (rn_9_size ns ct R K n 62 L k s) := rfl
theorem rx_9_size_56 {ns n ct R K s k z v0 v1 v2 v3} : rn_9_size ns ct R K (n + 1) 56 [v0, v1, v2, v3, .inl (true, z)] k s = (rn_9_size ns ct R K n 58 [v0, v1, v2, v3, .inl (true, z)] (.inl (true, z) :: k) s) := rfl
theorem rx_9_size_58 {ns n ct R K s k z v0 v1 v3 v4} : rn_9_size ns ct R K (n + 1) 58 [v0, v1, .inl (true, z), v3, v4] k s = (rn_9_size ns ct R K n 59 [v0, v1, .inl (true, z), v3, v4] (.inl (true, z) :: k) s) := rfl
theorem rx_9_size_59 {ns n ct R K s L k a b x y} : rn_9_size ns ct R K (n + 1) 59 L (.inl (b, y) :: .inl (a, x) :: k) s = (sy_ri a x ∧ sy_ri b y ∧ (y ≤ x → rn_9_size ns ct R K n 65 L k s) ∧ (¬ y ≤ x → rn_9_size ns ct R K n 62 L k s)) := rfl
theorem rx_9_size_62 {ns n ct R K s k z v0 v1 v2 v3} : rn_9_size ns ct R K (n + 1) 62 [v0, v1, v2, v3, .inl (true, z)] k s = (rn_9_size ns ct R K n 64 [v0, v1, v2, v3, .inl (true, z)] (.inl (true, z) :: k) s) := rfl
theorem rx_9_size_64 {ns n ct R K s L k b z} : rn_9_size ns ct R K (n + 1) 64 L (.inl (b, z) :: k) s = (sy_ri b z ∧ 2 < L.length ∧ rn_9_size ns ct R K n 65 (sy_sto L 2 (.inl (true, z))) k s) := rfl
theorem rx_9_size_65 {ns n ct R K s k z v0 v1 v2 v4} : rn_9_size ns ct R K (n + 1) 65 [v0, v1, v2, .inl (true, z), v4] k s = ((-2147483648 ≤ z + 1 ∧ z + 1 < 2147483648) ∧ rn_9_size ns ct R K n 68 (sy_sto [v0, v1, v2, .inl (true, z), v4] 3 (.inl (true, z + 1))) k s) := rfl
theorem rx_9_size_68 {ns n ct R K s L k} : rn_9_size ns ct R K (n + 1) 68 L k s = (K 4 L k s) := rfl
theorem rx_9_size_71 {ns n ct R K s k z v0 v1 v3 v4} : rn_9_size ns ct R K (n + 1) 71 [v0, v1, .inl (true, z), v3, v4] k s = (rn_9_size ns ct R K n 72 [v0, v1, .inl (true, z), v3, v4] (.inl (true, z) :: k) s) := rfl
theorem rx_9_size_72 {ns n ct R K s L a z} : rn_9_size ns ct R K (n + 1) 72 L [.inl (a, z)] s = (sy_ri a z ∧ sy_b01 false z ∧ R (some (.inl (true, z))) s) := rfl
def y_9_bestFigure : MethodName := ⟨"StarHideModel", "bestFigure", "()I"⟩
abbrev c_9_bestFigure : ByteArray := prog_11_method_29_code
def tc_9_bestFigure (pc : Nat) : Option sy_I := match pc with
  | 0 => some (.iconst 0, 1, 0)
  | 1 => some (.istore_n 1, 2, 0)
  | 2 => some (.aload_n 0, 3, 0)
  | 3 => some (.iconst 0, 4, 0)
  | 4 => some (.invokevirtual 113, 7, 0)
  | 7 => some (.istore_n 2, 8, 0)
  | 8 => some (.iconst 1, 9, 0)
  | 9 => some (.istore_n 3, 10, 0)
  | 10 => some (.iload_n 3, 11, 0)
  | 11 => some (.aload_n 0, 12, 0)
  | 12 => some (.invokevirtual 89, 15, 0)
  | 15 => some (.if_icmp .ge 30, 18, 45)
  | 18 => some (.aload_n 0, 19, 0)
  | 19 => some (.iload_n 3, 20, 0)
  | 20 => some (.invokevirtual 113, 23, 0)
  | 23 => some (.istore 4, 25, 0)
  | 25 => some (.iload 4, 27, 0)
  | 27 => some (.iload_n 2, 28, 0)
  | 28 => some (.if_icmp .lt 6, 31, 34)
  | 31 => some (.goto 8, 34, 39)
  | 34 => some (.iload 4, 36, 0)
  | 36 => some (.istore_n 2, 37, 0)
  | 37 => some (.iload_n 3, 38, 0)
  | 38 => some (.istore_n 1, 39, 0)
  | 39 => some (.iinc 3 1, 42, 0)
  | 42 => some (.goto (-32), 45, 10)
  | 45 => some (.iload_n 1, 46, 0)
  | 46 => some (.ireturn, 47, 0)
  | _ => none
theorem tv_9_bestFigure : ∀ pc i, sy_lk 47 tc_9_bestFigure pc = some i → sy_chk c_9_bestFigure (some .int) false pc i = true := sy_lk_ok 47 tc_9_bestFigure (by decide +kernel)
def Mk_9_bestFigure (ct : Nat → Option (Bool × Nat × sy_Sp)) : sy_M := (sy_lk 47 tc_9_bestFigure, ff_9, ki_9, kl_9, ct, false)
def rn_9_bestFigure (ns : Nat) (ct : Nat → Option (Bool × Nat × sy_Sp)) (R : sy_R) (K : sy_K) : Nat → sy_K := sy_run ns (Mk_9_bestFigure ct) [10] R K
theorem rx_9_bestFigure_0 {ns n ct R K s L k} : rn_9_bestFigure ns ct R K (n + 1) 0 L k s = (rn_9_bestFigure ns ct R K n 1 L (.inl (true, 0) :: k) s) := rfl
theorem rx_9_bestFigure_1 {ns n ct R K s L k b z} : rn_9_bestFigure ns ct R K (n + 1) 1 L (.inl (b, z) :: k) s = (sy_ri b z ∧ 1 < L.length ∧ rn_9_bestFigure ns ct R K n 2 (sy_sto L 1 (.inl (true, z))) k s) := rfl
theorem rx_9_bestFigure_2 {ns n ct R K s k z v1 v2 v3 v4} : rn_9_bestFigure ns ct R K (n + 1) 2 [.inr (.inr (some z)), v1, v2, v3, v4] k s = (rn_9_bestFigure ns ct R K n 3 [.inr (.inr (some z)), v1, v2, v3, v4] (.inr (.inr (some z)) :: k) s) := rfl
theorem rx_9_bestFigure_3 {ns n ct R K s L k} : rn_9_bestFigure ns ct R K (n + 1) 3 L k s = (rn_9_bestFigure ns ct R K n 4 L (.inl (true, 0) :: k) s) := rfl
theorem rx_9_bestFigure_4 {ns n ct R K s L k} : rn_9_bestFigure ns ct R K (n + 1) 4 L k s = (sy_call false (ct 113) k s fun r t => rn_9_bestFigure ns ct R K n 7 L r t) := rfl
theorem rx_9_bestFigure_7 {ns n ct R K s L k b z} : rn_9_bestFigure ns ct R K (n + 1) 7 L (.inl (b, z) :: k) s = (sy_ri b z ∧ 2 < L.length ∧ rn_9_bestFigure ns ct R K n 8 (sy_sto L 2 (.inl (true, z))) k s) := rfl
theorem rx_9_bestFigure_8 {ns n ct R K s L k} : rn_9_bestFigure ns ct R K (n + 1) 8 L k s = (rn_9_bestFigure ns ct R K n 9 L (.inl (true, 1) :: k) s) := rfl
theorem rx_9_bestFigure_9 {ns n ct R K s L k b z} : rn_9_bestFigure ns ct R K (n + 1) 9 L (.inl (b, z) :: k) s = (sy_ri b z ∧ 3 < L.length ∧ K 10 (sy_sto L 3 (.inl (true, z))) k s) := rfl
theorem rx_9_bestFigure_10 {ns n ct R K s k z v0 v1 v2 v4} : rn_9_bestFigure ns ct R K (n + 1) 10 [v0, v1, v2, .inl (true, z), v4] k s = (rn_9_bestFigure ns ct R K n 11 [v0, v1, v2, .inl (true, z), v4] (.inl (true, z) :: k) s) := rfl
theorem rx_9_bestFigure_11 {ns n ct R K s k z v1 v2 v3 v4} : rn_9_bestFigure ns ct R K (n + 1) 11 [.inr (.inr (some z)), v1, v2, v3, v4] k s = (rn_9_bestFigure ns ct R K n 12 [.inr (.inr (some z)), v1, v2, v3, v4] (.inr (.inr (some z)) :: k) s) := rfl
theorem rx_9_bestFigure_12 {ns n ct R K s L k} : rn_9_bestFigure ns ct R K (n + 1) 12 L k s = (sy_call false (ct 89) k s fun r t => rn_9_bestFigure ns ct R K n 15 L r t) := rfl
theorem rx_9_bestFigure_15 {ns n ct R K s L k a b x y} : rn_9_bestFigure ns ct R K (n + 1) 15 L (.inl (b, y) :: .inl (a, x) :: k) s = (sy_ri a x ∧ sy_ri b y ∧ (y ≤ x → rn_9_bestFigure ns ct R K n 45 L k s) ∧ (¬ y ≤ x → rn_9_bestFigure ns ct R K n 18 L k s)) := rfl
theorem rx_9_bestFigure_18 {ns n ct R K s k z v1 v2 v3 v4} : rn_9_bestFigure ns ct R K (n + 1) 18 [.inr (.inr (some z)), v1, v2, v3, v4] k s = (rn_9_bestFigure ns ct R K n 19 [.inr (.inr (some z)), v1, v2, v3, v4] (.inr (.inr (some z)) :: k) s) := rfl
theorem rx_9_bestFigure_19 {ns n ct R K s k z v0 v1 v2 v4} : rn_9_bestFigure ns ct R K (n + 1) 19 [v0, v1, v2, .inl (true, z), v4] k s = (rn_9_bestFigure ns ct R K n 20 [v0, v1, v2, .inl (true, z), v4] (.inl (true, z) :: k) s) := rfl
theorem rx_9_bestFigure_20 {ns n ct R K s L k} : rn_9_bestFigure ns ct R K (n + 1) 20 L k s = (sy_call false (ct 113) k s fun r t => rn_9_bestFigure ns ct R K n 23 L r t) := rfl
theorem rx_9_bestFigure_23 {ns n ct R K s L k b z} : rn_9_bestFigure ns ct R K (n + 1) 23 L (.inl (b, z) :: k) s = (sy_ri b z ∧ 4 < L.length ∧ rn_9_bestFigure ns ct R K n 25 (sy_sto L 4 (.inl (true, z))) k s) := rfl
theorem rx_9_bestFigure_25 {ns n ct R K s k z v0 v1 v2 v3} : rn_9_bestFigure ns ct R K (n + 1) 25 [v0, v1, v2, v3, .inl (true, z)] k s = (rn_9_bestFigure ns ct R K n 27 [v0, v1, v2, v3, .inl (true, z)] (.inl (true, z) :: k) s) := rfl
theorem rx_9_bestFigure_27 {ns n ct R K s k z v0 v1 v3 v4} : rn_9_bestFigure ns ct R K (n + 1) 27 [v0, v1, .inl (true, z), v3, v4] k s = (rn_9_bestFigure ns ct R K n 28 [v0, v1, .inl (true, z), v3, v4] (.inl (true, z) :: k) s) := rfl
theorem rx_9_bestFigure_28 {ns n ct R K s L k a b x y} : rn_9_bestFigure ns ct R K (n + 1) 28 L (.inl (b, y) :: .inl (a, x) :: k) s = (sy_ri a x ∧ sy_ri b y ∧ (x < y → rn_9_bestFigure ns ct R K n 34 L k s) ∧ (¬ x < y → rn_9_bestFigure ns ct R K n 31 L k s)) := rfl
theorem rx_9_bestFigure_31 {ns n ct R K s L k} : rn_9_bestFigure ns ct R K (n + 1) 31 L k s = (rn_9_bestFigure ns ct R K n 39 L k s) := rfl
theorem rx_9_bestFigure_34 {ns n ct R K s k z v0 v1 v2 v3} : rn_9_bestFigure ns ct R K (n + 1) 34 [v0, v1, v2, v3, .inl (true, z)] k s = (rn_9_bestFigure ns ct R K n 36 [v0, v1, v2, v3, .inl (true, z)] (.inl (true, z) :: k) s) := rfl
theorem rx_9_bestFigure_36 {ns n ct R K s L k b z} : rn_9_bestFigure ns ct R K (n + 1) 36 L (.inl (b, z) :: k) s = (sy_ri b z ∧ 2 < L.length ∧ rn_9_bestFigure ns ct R K n 37 (sy_sto L 2 (.inl (true, z))) k s) := rfl
theorem rx_9_bestFigure_37 {ns n ct R K s k z v0 v1 v2 v4} : rn_9_bestFigure ns ct R K (n + 1) 37 [v0, v1, v2, .inl (true, z), v4] k s = (rn_9_bestFigure ns ct R K n 38 [v0, v1, v2, .inl (true, z), v4] (.inl (true, z) :: k) s) := rfl
theorem rx_9_bestFigure_38 {ns n ct R K s L k b z} : rn_9_bestFigure ns ct R K (n + 1) 38 L (.inl (b, z) :: k) s = (sy_ri b z ∧ 1 < L.length ∧ rn_9_bestFigure ns ct R K n 39 (sy_sto L 1 (.inl (true, z))) k s) := rfl
theorem rx_9_bestFigure_39 {ns n ct R K s k z v0 v1 v2 v4} : rn_9_bestFigure ns ct R K (n + 1) 39 [v0, v1, v2, .inl (true, z), v4] k s = ((-2147483648 ≤ z + 1 ∧ z + 1 < 2147483648) ∧ rn_9_bestFigure ns ct R K n 42 (sy_sto [v0, v1, v2, .inl (true, z), v4] 3 (.inl (true, z + 1))) k s) := rfl
theorem rx_9_bestFigure_42 {ns n ct R K s L k} : rn_9_bestFigure ns ct R K (n + 1) 42 L k s = (K 10 L k s) := rfl
theorem rx_9_bestFigure_45 {ns n ct R K s k z v0 v2 v3 v4} : rn_9_bestFigure ns ct R K (n + 1) 45 [v0, .inl (true, z), v2, v3, v4] k s = (rn_9_bestFigure ns ct R K n 46 [v0, .inl (true, z), v2, v3, v4] (.inl (true, z) :: k) s) := rfl
theorem rx_9_bestFigure_46 {ns n ct R K s L a z} : rn_9_bestFigure ns ct R K (n + 1) 46 L [.inl (a, z)] s = (sy_ri a z ∧ sy_b01 false z ∧ R (some (.inl (true, z))) s) := rfl
def y_9_bad : MethodName := ⟨"StarHideModel", "bad", "(I)I"⟩
abbrev c_9_bad : ByteArray := prog_11_method_30_code
def tc_9_bad (pc : Nat) : Option sy_I := match pc with
  | 0 => some (.iload_n 1, 1, 0)
  | 1 => some (.iconst 0, 2, 0)
  | 2 => some (.iconst 1, 3, 0)
  | 3 => some (.invokestatic 69, 6, 0)
  | 6 => some (.ifCond .ne 5, 9, 11)
  | 9 => some (.iconst (-1), 10, 0)
  | 10 => some (.ireturn, 11, 0)
  | 11 => some (.aload_n 0, 12, 0)
  | 12 => some (.invokevirtual 117, 15, 0)
  | 15 => some (.istore_n 2, 16, 0)
  | 16 => some (.iload_n 1, 17, 0)
  | 17 => some (.iconst 1, 18, 0)
  | 18 => some (.if_icmp .ne 7, 21, 25)
  | 21 => some (.iload_n 2, 22, 0)
  | 22 => some (.goto 8, 25, 30)
  | 25 => some (.aload_n 0, 26, 0)
  | 26 => some (.iload_n 2, 27, 0)
  | 27 => some (.invokevirtual 113, 30, 0)
  | 30 => some (.ireturn, 31, 0)
  | _ => none
theorem tv_9_bad : ∀ pc i, sy_lk 31 tc_9_bad pc = some i → sy_chk c_9_bad (some .int) false pc i = true := sy_lk_ok 31 tc_9_bad (by decide +kernel)
def Mk_9_bad (ct : Nat → Option (Bool × Nat × sy_Sp)) : sy_M := (sy_lk 31 tc_9_bad, ff_9, ki_9, kl_9, ct, false)
def rn_9_bad (ns : Nat) (ct : Nat → Option (Bool × Nat × sy_Sp)) (R : sy_R) (K : sy_K) : Nat → sy_K := sy_run ns (Mk_9_bad ct) [] R K
theorem rx_9_bad_0 {ns n ct R K s k z v0 v2} : rn_9_bad ns ct R K (n + 1) 0 [v0, .inl (true, z), v2] k s = (rn_9_bad ns ct R K n 1 [v0, .inl (true, z), v2] (.inl (true, z) :: k) s) := rfl
theorem rx_9_bad_1 {ns n ct R K s L k} : rn_9_bad ns ct R K (n + 1) 1 L k s = (rn_9_bad ns ct R K n 2 L (.inl (true, 0) :: k) s) := rfl
theorem rx_9_bad_2 {ns n ct R K s L k} : rn_9_bad ns ct R K (n + 1) 2 L k s = (rn_9_bad ns ct R K n 3 L (.inl (true, 1) :: k) s) := rfl
theorem rx_9_bad_3 {ns n ct R K s L k} : rn_9_bad ns ct R K (n + 1) 3 L k s = (sy_call true (ct 69) k s fun r t => rn_9_bad ns ct R K n 6 L r t) := rfl
theorem rx_9_bad_6 {ns n ct R K s L k a x} : rn_9_bad ns ct R K (n + 1) 6 L (.inl (a, x) :: k) s = (sy_ri a x ∧ (¬ x = 0 → rn_9_bad ns ct R K n 11 L k s) ∧ (x = 0 → rn_9_bad ns ct R K n 9 L k s)) := rfl
theorem rx_9_bad_9 {ns n ct R K s L k} : rn_9_bad ns ct R K (n + 1) 9 L k s = (rn_9_bad ns ct R K n 10 L (.inl (true, (-1)) :: k) s) := rfl
theorem rx_9_bad_10 {ns n ct R K s L a z} : rn_9_bad ns ct R K (n + 1) 10 L [.inl (a, z)] s = (sy_ri a z ∧ sy_b01 false z ∧ R (some (.inl (true, z))) s) := rfl
theorem rx_9_bad_11 {ns n ct R K s k z v1 v2} : rn_9_bad ns ct R K (n + 1) 11 [.inr (.inr (some z)), v1, v2] k s = (rn_9_bad ns ct R K n 12 [.inr (.inr (some z)), v1, v2] (.inr (.inr (some z)) :: k) s) := rfl
theorem rx_9_bad_12 {ns n ct R K s L k} : rn_9_bad ns ct R K (n + 1) 12 L k s = (sy_call false (ct 117) k s fun r t => rn_9_bad ns ct R K n 15 L r t) := rfl
theorem rx_9_bad_15 {ns n ct R K s L k b z} : rn_9_bad ns ct R K (n + 1) 15 L (.inl (b, z) :: k) s = (sy_ri b z ∧ 2 < L.length ∧ rn_9_bad ns ct R K n 16 (sy_sto L 2 (.inl (true, z))) k s) := rfl
theorem rx_9_bad_16 {ns n ct R K s k z v0 v2} : rn_9_bad ns ct R K (n + 1) 16 [v0, .inl (true, z), v2] k s = (rn_9_bad ns ct R K n 17 [v0, .inl (true, z), v2] (.inl (true, z) :: k) s) := rfl
theorem rx_9_bad_17 {ns n ct R K s L k} : rn_9_bad ns ct R K (n + 1) 17 L k s = (rn_9_bad ns ct R K n 18 L (.inl (true, 1) :: k) s) := rfl
theorem rx_9_bad_18 {ns n ct R K s L k a b x y} : rn_9_bad ns ct R K (n + 1) 18 L (.inl (b, y) :: .inl (a, x) :: k) s = (sy_ri a x ∧ sy_ri b y ∧ (¬ x = y → rn_9_bad ns ct R K n 25 L k s) ∧ (x = y → rn_9_bad ns ct R K n 21 L k s)) := rfl
theorem rx_9_bad_21 {ns n ct R K s k z v0 v1} : rn_9_bad ns ct R K (n + 1) 21 [v0, v1, .inl (true, z)] k s = (rn_9_bad ns ct R K n 22 [v0, v1, .inl (true, z)] (.inl (true, z) :: k) s) := rfl
theorem rx_9_bad_22 {ns n ct R K s L k} : rn_9_bad ns ct R K (n + 1) 22 L k s = (rn_9_bad ns ct R K n 30 L k s) := rfl
theorem rx_9_bad_25 {ns n ct R K s k z v1 v2} : rn_9_bad ns ct R K (n + 1) 25 [.inr (.inr (some z)), v1, v2] k s = (rn_9_bad ns ct R K n 26 [.inr (.inr (some z)), v1, v2] (.inr (.inr (some z)) :: k) s) := rfl
theorem rx_9_bad_26 {ns n ct R K s k z v0 v1} : rn_9_bad ns ct R K (n + 1) 26 [v0, v1, .inl (true, z)] k s = (rn_9_bad ns ct R K n 27 [v0, v1, .inl (true, z)] (.inl (true, z) :: k) s) := rfl
theorem rx_9_bad_27 {ns n ct R K s L k} : rn_9_bad ns ct R K (n + 1) 27 L k s = (sy_call false (ct 113) k s fun r t => rn_9_bad ns ct R K n 30 L r t) := rfl
theorem rx_9_bad_30 {ns n ct R K s L a z} : rn_9_bad ns ct R K (n + 1) 30 L [.inl (a, z)] s = (sy_ri a z ∧ sy_b01 false z ∧ R (some (.inl (true, z))) s) := rfl
