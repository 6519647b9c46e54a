/-! HOW MANY BITS: Integer.bitCount of what has bits below 16 alone -/
def x_p1 (n : Nat) : Nat := n - (n / 2 &&& 1431655765)
def x_p2 (n : Nat) : Nat := (n &&& 858993459) + (n / 4 &&& 858993459)
def x_p3 (n : Nat) : Nat := n + n / 16 &&& 252645135
def x_p4 (n : Nat) : Nat := n + n / 256
def x_p5 (n : Nat) : Nat := n + n / 65536
def x_pc (n : Nat) : Nat := x_p5 (x_p4 (x_p3 (x_p2 (x_p1 n)))) &&& 63
def x_pck (a b : Nat) : Bool := (List.range a).all fun h => (List.range b).all fun l => Nat.beq (x_pc (h * b + l)) ((h * b + l) % 2 + x_pc ((h * b + l) / 2))
theorem x_pck_16 : x_pck 256 256 = true := by decide +kernel
theorem x_pc_half {n : Nat} (h : n < 65536) : x_pc n = n % 2 + x_pc (n / 2) := by
  have h1 := List.all_eq_true.mp x_pck_16 (n / 256) (List.mem_range.mpr (by omega))
  have h2 := List.all_eq_true.mp h1 (n % 256) (List.mem_range.mpr (by omega))
  have h3 := Nat.eq_of_beq_eq_true h2
  rw [show n / 256 * 256 + n % 256 = n by omega] at h3
  exact h3
theorem xc_head (p : Nat → Bool) : ∀ k, xc p (k + 1) = (if p 0 = true then 1 else 0) + xc (fun i => p (i + 1)) k
  | 0 => by simp [xc]
  | k + 1 => by
    rw [xc, xc_head p k, xc]
    omega
theorem x_pc_ct : ∀ (k n : Nat), k ≤ 16 → n < 2 ^ k → xc (fun i => n.testBit i) k = x_pc n
  | 0, n, _, h => by
    have : n = 0 := by omega
    subst this
    rfl
  | k + 1, n, hk, h => by
    have h16 : n < 65536 := Nat.lt_of_lt_of_le h (by
      have : 2 ^ (k + 1) ≤ 2 ^ 16 := Nat.pow_le_pow_right (by decide) hk
      omega)
    have ih := x_pc_ct k (n / 2) (by omega) (by rw [Nat.pow_succ] at h; omega)
    rw [xc_head, x_pc_half h16]
    have e : (fun i => n.testBit (i + 1)) = fun i => (n / 2).testBit i := by
      funext i
      rw [Nat.testBit_add_one]
    rw [e, ih, Nat.testBit_zero]
    rcases Nat.mod_two_eq_zero_or_one n with q | q <;> simp [q]
theorem x_bt_nat {n : Nat} (i : Nat) (hi : i < 32) : x_bt (n : Int) i = n.testBit i := by
  unfold x_bt
  rw [show (Int32.ofInt (n : Int)).toBitVec = BitVec.ofNat 32 n from by show BitVec.ofInt 32 (n : Int) = _; rw [BitVec.ofInt_natCast]]
  rw [BitVec.getLsbD_ofNat]
  simp [hi]
theorem x_nI (n : Nat) : Int32.ofInt (n : Int) = nI n := rfl
theorem x_sh {n : Nat} (hn : n < 2 ^ 31) (s : Int32) (k : Nat) (hs : ((s.toUInt32 &&& Int32.toUInt32 31).toBitVec % 32).toNat = k) : ((Int32.ofInt (n : Int)).toUInt32 >>> (s.toUInt32 &&& Int32.toUInt32 31)).toInt32.toInt = ((n / 2 ^ k : Nat) : Int) := by
  rw [x_nI, pk_ushrN (by omega) s k hs, nI_toInt (Nat.lt_of_le_of_lt (Nat.div_le_self _ _) hn)]
theorem x_an {a b : Nat} (ha : a < 2 ^ 31) : (Int32.ofInt (a : Int) &&& Int32.ofInt (b : Int)).toInt = ((a &&& b : Nat) : Int) := by
  have e : Int32.ofInt (a : Int) &&& Int32.ofInt (b : Int) = nI (a &&& b) := by
    rw [x_nI, x_nI]
    apply Int32.toBitVec_inj.mp
    rw [Int32.toBitVec_and]
    show BitVec.ofNat 32 a &&& BitVec.ofNat 32 b = BitVec.ofNat 32 (a &&& b)
    apply BitVec.eq_of_getLsbD_eq
    intro i hi
    simp [BitVec.getLsbD_ofNat, hi]
  rw [e, nI_toInt (Nat.lt_of_le_of_lt Nat.and_le_left ha)]
def sp_N_bitCount (ns : Nat) : sy_Sp := sy_s1 fun x st post => (0 ≤ x ∧ x < 65536) ∧ post (some (.inl (true, (x_pc x.toNat : Int)))) st
def ct_N_bitCount (ns q : Nat) : Option (Bool × Nat × sy_Sp) := match q with
  | _ => none
abbrev M_N_bitCount (ns : Nat) : sy_M := Mk_N_bitCount (ct_N_bitCount ns)
theorem mv_N_bitCount (ns : Nat) : sy_MV c_N_bitCount y_N_bitCount.cls (some .int) (M_N_bitCount ns) := ⟨tv_N_bitCount, ff_N_ok, ki_N_ok, kl_N_ok⟩
abbrev rm_N_bitCount : Room := { frames := 0, cells := 0, slots := 0, locals := 0 }
theorem co_N_bitCount (l : Launch) : sy_calls l rm_N_bitCount y_N_bitCount.cls c_N_bitCount 1 (fun ns => (M_N_bitCount ns).2.2.2.2.1) := by
  intro p e s m args below meth c rt wd ad ns A Q X hA q b n sp h
  replace h : ct_N_bitCount ns q = some (b, n, sp) := h
  unfold ct_N_bitCount at h
  cases h
theorem mc_N_bitCount (l : Launch) : sy_MC l y_N_bitCount c_N_bitCount 1 (some .int) rm_N_bitCount sp_N_bitCount := by
  refine sy_meth M_N_bitCount (by decide +kernel) mv_N_bitCount (co_N_bitCount l) ?_
  intro ns as st post WA h hok hrg ⟨hgo0, hin, hwk⟩
  have hgo : ∀ (n pc : Nat) (L k : List sy_V) (st : sy_S), rn_N_bitCount ns (ct_N_bitCount ns) post WA n pc L k st → WA pc L k st := fun n pc L k st h => hgo0 [] n pc L k st h
  replace h := sy_s1_e h hok
  obtain ⟨x, rfl, hx, h⟩ := h
  refine ⟨Nat.le_of_ble_eq_true rfl, ?_⟩
  show WA 0 [.inl (true, x)] [] st
  obtain ⟨hx1, h⟩ := h
  obtain ⟨n, rfl⟩ : ∃ n : Nat, x = n := ⟨x.toNat, by omega⟩
  rw [Int.toNat_natCast] at h
  have a1 : (n / 2 &&& 1431655765) ≤ n / 2 := Nat.and_le_left
  have b1 : x_p1 n ≤ n := Nat.sub_le _ _
  have a2 : (x_p1 n &&& 858993459) ≤ x_p1 n := Nat.and_le_left
  have a3 : (x_p1 n / 4 &&& 858993459) ≤ x_p1 n / 4 := Nat.and_le_left
  have b2 : x_p2 (x_p1 n) ≤ 2 * n := by unfold x_p2; omega
  have b3 : x_p3 (x_p2 (x_p1 n)) ≤ x_p2 (x_p1 n) + x_p2 (x_p1 n) / 16 := Nat.and_le_left
  have b4 : x_p4 (x_p3 (x_p2 (x_p1 n))) ≤ 2 * x_p3 (x_p2 (x_p1 n)) := by unfold x_p4; omega
  have b5 : x_p5 (x_p4 (x_p3 (x_p2 (x_p1 n)))) ≤ 2 * x_p4 (x_p3 (x_p2 (x_p1 n))) := by unfold x_p5; omega
  have s1 : _ = ((n / 2 : Nat) : Int) := x_sh (n := n) (by omega) (Int32.ofInt 1) 1 (by decide +kernel)
  have s2 : (Int32.ofInt ((n / 2 : Nat) : Int) &&& Int32.ofInt 1431655765).toInt = ((n / 2 &&& 1431655765 : Nat) : Int) := x_an (by omega)
  have s3 : (n : Int) - ((n / 2 &&& 1431655765 : Nat) : Int) = (x_p1 n : Int) := by unfold x_p1; omega
  have s4 : (Int32.ofInt (x_p1 n : Int) &&& Int32.ofInt 858993459).toInt = ((x_p1 n &&& 858993459 : Nat) : Int) := x_an (by omega)
  have s5 : _ = ((x_p1 n / 4 : Nat) : Int) := x_sh (n := x_p1 n) (by omega) (Int32.ofInt 2) 2 (by decide +kernel)
  have s6 : (Int32.ofInt ((x_p1 n / 4 : Nat) : Int) &&& Int32.ofInt 858993459).toInt = ((x_p1 n / 4 &&& 858993459 : Nat) : Int) := x_an (by omega)
  have s7 : ((x_p1 n &&& 858993459 : Nat) : Int) + ((x_p1 n / 4 &&& 858993459 : Nat) : Int) = (x_p2 (x_p1 n) : Int) := by unfold x_p2; omega
  have s8 : _ = ((x_p2 (x_p1 n) / 16 : Nat) : Int) := x_sh (n := x_p2 (x_p1 n)) (by omega) (Int32.ofInt 4) 4 (by decide +kernel)
  have s9 : (x_p2 (x_p1 n) : Int) + ((x_p2 (x_p1 n) / 16 : Nat) : Int) = ((x_p2 (x_p1 n) + x_p2 (x_p1 n) / 16 : Nat) : Int) := by omega
  have s10 : (Int32.ofInt ((x_p2 (x_p1 n) + x_p2 (x_p1 n) / 16 : Nat) : Int) &&& Int32.ofInt 252645135).toInt = (x_p3 (x_p2 (x_p1 n)) : Int) := x_an (by omega)
  have s11 : _ = ((x_p3 (x_p2 (x_p1 n)) / 256 : Nat) : Int) := x_sh (n := x_p3 (x_p2 (x_p1 n))) (by omega) (Int32.ofInt 8) 8 (by decide +kernel)
  have s12 : (x_p3 (x_p2 (x_p1 n)) : Int) + ((x_p3 (x_p2 (x_p1 n)) / 256 : Nat) : Int) = (x_p4 (x_p3 (x_p2 (x_p1 n))) : Int) := by unfold x_p4; omega
  have s13 : _ = ((x_p4 (x_p3 (x_p2 (x_p1 n))) / 65536 : Nat) : Int) := x_sh (n := x_p4 (x_p3 (x_p2 (x_p1 n)))) (by omega) (Int32.ofInt 16) 16 (by decide +kernel)
  have s14 : (x_p4 (x_p3 (x_p2 (x_p1 n))) : Int) + ((x_p4 (x_p3 (x_p2 (x_p1 n))) / 65536 : Nat) : Int) = (x_p5 (x_p4 (x_p3 (x_p2 (x_p1 n)))) : Int) := by unfold x_p5; omega
  have s15 : (Int32.ofInt (x_p5 (x_p4 (x_p3 (x_p2 (x_p1 n)))) : Int) &&& Int32.ofInt 63).toInt = (x_pc n : Int) := x_an (by omega)
  refine hgo 100 _ _ _ _ ?_
  simp -implicitDefEqProofs only [↓rx_N_bitCount_0, ↓rx_N_bitCount_1, ↓rx_N_bitCount_2, ↓rx_N_bitCount_3, ↓rx_N_bitCount_4, ↓rx_N_bitCount_7, ↓rx_N_bitCount_8, ↓rx_N_bitCount_9, ↓rx_N_bitCount_10, ↓rx_N_bitCount_11, ↓rx_N_bitCount_14, ↓rx_N_bitCount_15, ↓rx_N_bitCount_16, ↓rx_N_bitCount_17, ↓rx_N_bitCount_18, ↓rx_N_bitCount_21, ↓rx_N_bitCount_22, ↓rx_N_bitCount_23, ↓rx_N_bitCount_24, ↓rx_N_bitCount_25, ↓rx_N_bitCount_26, ↓rx_N_bitCount_27, ↓rx_N_bitCount_28, ↓rx_N_bitCount_29, ↓rx_N_bitCount_32, ↓rx_N_bitCount_33, ↓rx_N_bitCount_34, ↓rx_N_bitCount_35, ↓rx_N_bitCount_36, ↓rx_N_bitCount_38, ↓rx_N_bitCount_39, ↓rx_N_bitCount_40, ↓rx_N_bitCount_41, ↓rx_N_bitCount_42, ↓rx_N_bitCount_43, ↓rx_N_bitCount_45, ↓rx_N_bitCount_46, ↓rx_N_bitCount_47, ↓rx_N_bitCount_48, ↓rx_N_bitCount_49, ↓rx_N_bitCount_51, ↓rx_N_bitCount_52, s1, s2, s3, s4, s5, s6, s7, s8, s9, s10, s11, s12, s13, s14, s15, ↓sx_s1, ↓sx_s2, ↓sx_s3, ↓sx_s4, ↓sx_s5, ↓sx_s6, ↓sx_m0, ↓sx_m1, ↓sx_m2, ↓sx_m3, ↓sx_m4, ↓sx_m5, ↓sx_m6, ↓sx_k0_, ↓sx_k1_, ↓sx_k2_, ↓sx_k3_, ↓sx_k4_, ↓sx_k5_, ↓sx_k6_, ↓sx_sLL, ↓sx_sAI, ↓sx_mLL, ↓sx_mIIL, ↓sx_mIILL, ↓sx_mIILLL, ↓sx_qS, ↓sx_qSI, ↓sx_qSIII, sx_rit, sx_rif, sx_rlt, sx_rlf, sx_b0, sx_b1, sx_o0, sx_o1i, sx_o1a, sx_o1l, sx_o2, sx_g0, sx_g1, sx_k1, sx_k2, sx_k3, sx_f1, sx_f2, sx_f3, sx_w0, sx_w1, sx_w2, sx_w3, sx_ts, sx_tn, sx_up, sx_nS1, sx_nS2, sx_nW1, sx_nW2, sx_SW, sx_WS, sy_nS_inj, sy_nW_inj, sx_ob0, sx_ob1, sx_ob2, sx_ob3, sx_ob4, sx_ob5, sx_ob6, sx_ob7, sx_ob8, sx_ob9, sx_ob10, sx_ob11, sx_ob12, sx_ob13, sx_ob14, sx_ob15, sx_ob16, sx_ob17, sx_ob18, sx_ob19, sx_ob20, sx_ob21, sx_ob22, sx_ob23, sx_ob24, sx_ob25, sx_ob26, sx_ob27, sx_ob28, sx_ob29, sx_ob30, sx_ob31, sx_ob32, sx_ob33, sx_ob34, sx_ob35, sx_ob36, sx_fv0_0, sx_fv0_1, sx_fv0_2, sx_fv0_3, sx_fv0_4, sx_fv0_5, sx_fv1_0, sx_fv1_1, sx_fv1_2, sx_fv3_0, sx_fv3_1, sx_fv3_2, sx_fv3_3, sx_fv3_4, sx_fv7_0, sx_fv7_1, sx_fv7_2, sx_fv7_3, sx_fv7_4, sx_fv7_5, sx_fv7_6, sx_fv7_7, sx_fv7_8, sx_fv7_9, sx_fv7_10, sx_fv9_0, sx_fv9_1, sx_fv9_2, sx_fv9_3, sx_fv11_0, sx_fv11_1, sx_fv11_2, sx_fv11_3, sx_fv11_4, sx_fv11_5, sx_fv11_6, sx_fv15_0, sx_fv15_1, sx_fv15_2, sx_fv15_3, sx_fv15_4, sx_fv15_5, sx_fv19_0, sx_fv19_1, sx_fv19_2, sx_fv19_3, sx_fv19_4, sx_fv19_5, sx_fv19_6, sx_fv24_0, sx_fv24_1, sx_fv24_2, sx_fv24_3, sx_fv24_4, sx_fv24_5, sx_fv24_6, sx_fv24_7, sx_fv24_8, sx_fv24_9, sx_fv24_10, sx_fv24_11, sx_fv24_12, sx_fv24_13, sx_fv24_14, sx_fv24_15, sx_fv24_16, sx_fv24_17, sx_fv24_18, sx_fvS_0, sx_fvS_1, sx_fvS_2, sx_fvS_3, sx_fvS_4, sx_fvS_5, sx_fvS_6, sx_fvS_7, sx_fvS_8, sx_fvS_9, sx_ar2, sx_ar4, sx_ar5, sx_ar6, sx_ar8, sx_ar10, sx_ar12, sx_ar13, sx_ar14, sx_ar16, sx_ar17, sx_ar18, sx_ar20, sx_ar21, sx_ar22, sx_ar23, sx_ar25, sx_ar26, sx_ar27, sx_ar28, sx_ar29, sx_ar30, sx_ar31, sx_ar32, sx_ar33, sx_ar34, sx_ar35, sx_ar36, sy_ob_S, sy_ob_W, sy_ar_W, sx_if0, sx_if1, sx_ie0, sx_em, Classical.not_not, sx_cle, sx_clt, sx_cge, sx_cgt, sx_ceq, Nat.reduceLT, Nat.reduceLeDiff, Nat.reduceAdd, Nat.reduceSub, Nat.reduceEqDiff, reduceIte, List.length_cons, List.length_nil, true_and, and_true, and_self, Bool.false_eq_true, true_implies, not_true_eq_false, not_false_eq_true, false_implies, implies_true, ne_eq, reduceCtorEq, Option.some.injEq, false_and, and_false, Int.reduceNeg, Int.reduceToNat, Int.reduceLT, Int.reduceLE, Int.reduceEq, Int.reduceAdd, Int.reduceSub, Int.reduceMul, or_false, false_or, or_true, true_or, forall_const, Int.toNat_natCast, Int.toNat_zero, Int.toNat_one, Nat.zero_add, or_self, Int.neg_eq_zero]
  exact ⟨⟨by omega, by omega⟩, ⟨by omega, by omega⟩, ⟨by omega, by omega⟩, ⟨by omega, by omega⟩, h⟩
