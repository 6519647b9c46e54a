/-! THE LAW'S LOOP -/
set_option maxHeartbeats 4000000 in
set_option maxRecDepth 100000 in
theorem lw_loop {p : Program} {e : Env} {s : State} {m : MethodId} {below : List Frame} {meth : Method} {c : Code} {b L : Nat} {xs : Nat → Int32} {wd : sy_D} (l : Launch) (C0 : lw_C p s m meth c b L xs wd) (hL : L ≤ 3072) : ∀ (d j ns : Nat) (ad : Nat → Nat) (st : sy_S) (H : Heap) (locs : List Loc) (ls : Array Slot), 6 * j ≤ L → L + 6 ≤ 6 * (j + d) → lv_has ls 4 [(0, .ref b), (1, .ref (ad 0)), (2, .ref (ad 24)), (3, .int (nI (6 * j)))] → sy_WO wd ad ns st (lw_A s) H → Rel ns st → va_S (lw_A s) s.heap H locs → W p l e room_1 s m #[Value.ref b] below meth c H locs (40 + 2 * j) (6000 + 522 * j) (lw_Z below #[Value.ref b] s) (F0 m 18 ls []) := by
  intro d
  induction d with
  | zero => intro j ns ad st H locs ls h1 h2; omega
  | succ d ih =>
    intro j ns ad st H locs ls hjL hd hl hWO hR hS
    obtain ⟨⟨hx, hb, hr, hml, hown, hts, hX, hbl, hlocks, hgv⟩, hK, hKK⟩ := id C0
    have hbA : ¬ lw_A s b := Nat.not_le.mpr hbl
    refine lv_iload_n hx hb dL_18 rfl (lv_at hl 3 rfl) ?_
    refine lv_aload_n hx hb dL_19 rfl (lv_at hl 0 rfl) ?_
    refine va_slen hx hb hX hbl hbA hS dL_20 ?_
    refine lv_bipush hx hb dL_21 (v := nI 6) (by decide) ?_
    refine lv_isub hx hb dL_23 ?_
    have hcmp : (nI L - nI 6) < nI (6 * j) ↔ (L : Int) - 6 < ((6 * j : Nat) : Int) := by
      rw [Int32.lt_iff_toInt_lt, pk_sub_toInt (by omega) (by omega), nI_toInt (by omega)]
      rfl
    refine lv_icmp_gt hx hb dL_24 (tgt := 1007) (by decide) (fun c1 => ?_) (fun c1 => ?_)
    · refine lv_iconst hx hb dL_1007 (v := 1) rfl ?_
      refine va_forget hS.2.2 ?_
      refine W.widen (k := 600000) (n := 7302250) (by omega) (by omega) ?_
      exact lw_ret hx hb hr hlocks dL_1008
    have hi : 6 * j + 5 < L := by
      rcases Int.lt_or_le ((L : Int) - 6) ((6 * j : Nat) : Int) with q | q
      · exact absurd (hcmp.mpr q) c1
      · omega
    have hcs : 40 + 2 * j + 2 ≤ room_1.cells ∧ 6000 + 522 * j + 522 ≤ room_1.slots := by
      show 40 + 2 * j + 2 ≤ 600000 ∧ 6000 + 522 * j + 522 ≤ 7302250
      omega
    have next : ∀ (ns' : Nat) (ad' : Nat → Nat) (st' : sy_S) (H' : Heap) (locs' : List Loc), ad' 0 = ad 0 → ad' 24 = ad 24 → sy_WO wd ad' ns' st' (lw_A s) H' → Rel ns' st' → va_S (lw_A s) s.heap H' locs' → W p l e room_1 s m #[Value.ref b] below meth c H' locs' (40 + 2 * j + 2) (6000 + 522 * j + 522) (lw_Z below #[Value.ref b] s) (F0 m 1001 ls []) := by
      intro ns' ad' st' H' locs' a0 a24 hWO' hR' hS'
      have hl' : lv_has ls 4 [(0, .ref b), (1, .ref (ad' 0)), (2, .ref (ad' 24)), (3, .int (nI (6 * j)))] := by rw [a0, a24]; exact hl
      refine lv_iinc (v := nI (6 * (j + 1))) (lv' := [(3, .int (nI (6 * (j + 1)))), (0, .ref b), (1, .ref (ad' 0)), (2, .ref (ad' 24))]) hx hb dL_1001 hl' (k := 3) rfl ?_ (by decide) rfl (fun ls2 hl2 => ?_)
      · rw [show Int32.ofInt 6 = nI 6 by decide, nI_add]
        rfl
      refine lv_goto (tgt := 18) hx hb dL_1004 (by decide) ?_
      exact ih (j + 1) ns' ad' st' H' locs' ls2 (by omega) (by omega) (lv_sub hl2 [1, 2, 3, 0] rfl) hWO' hR' hS'
    refine lv_aload_n hx hb dL_27 rfl (lv_at hl 0 rfl) ?_
    refine lv_iload_n hx hb dL_28 rfl (lv_at hl 3 rfl) ?_
    refine va_sld hx hb hX hbl hbA hS (vp_in_nI (by omega) (by omega)) dL_29 ?_
    refine lv_bipush hx hb dL_30 (v := 31) (by decide) ?_
    refine lv_iand hx hb dL_32 ?_
    obtain ⟨k, hk, ek⟩ := lw_and (xs (nI (6 * j)).toNatClampNeg)
    rw [ek]
    match k, hk with
    | 0, _ => refine lv_tableIn hx hb dL_33 (off := 127) (tgt := 160) (by decide) (by decide) (by decide) (by decide) ?_; exact lc_speed l C0 hL (i := 6 * j) (by omega) hcs hl hWO hR hS next
    | 1, _ => refine lv_tableIn hx hb dL_33 (off := 150) (tgt := 183) (by decide) (by decide) (by decide) (by decide) ?_; exact lc_site l C0 hL (i := 6 * j) (by omega) hcs hl hWO hR hS next
    | 2, _ => refine lv_tableIn hx hb dL_33 (off := 183) (tgt := 216) (by decide) (by decide) (by decide) (by decide) ?_; exact lc_ahead l C0 hL (i := 6 * j) (by omega) hcs hl hWO hR hS next
    | 3, _ => refine lv_tableIn hx hb dL_33 (off := 216) (tgt := 249) (by decide) (by decide) (by decide) (by decide) ?_; exact lc_chord l C0 hL (i := 6 * j) (by omega) hcs hl hWO hR hS next
    | 4, _ => refine lv_tableIn hx hb dL_33 (off := 279) (tgt := 312) (by decide) (by decide) (by decide) (by decide) ?_; exact lc_miss l C0 hL (i := 6 * j) (by omega) hcs hl hWO hR hS next
    | 5, _ => refine lv_tableIn hx hb dL_33 (off := 322) (tgt := 355) (by decide) (by decide) (by decide) (by decide) ?_; exact lc_cloud l C0 hL (i := 6 * j) (by omega) hcs hl hWO hR hS next
    | 6, _ => refine lv_tableIn hx hb dL_33 (off := 345) (tgt := 378) (by decide) (by decide) (by decide) (by decide) ?_; exact lc_unsay l C0 hL (i := 6 * j) (by omega) hcs hl hWO hR hS next
    | 7, _ => refine lv_tableIn hx hb dL_33 (off := 368) (tgt := 401) (by decide) (by decide) (by decide) (by decide) ?_; exact lc_place l C0 hL (i := 6 * j) (by omega) hcs hl hWO hR hS next
    | 8, _ => refine lv_tableIn hx hb dL_33 (off := 401) (tgt := 434) (by decide) (by decide) (by decide) (by decide) ?_; exact lc_net l C0 hL (i := 6 * j) (by omega) hcs hl hWO hR hS next
    | 9, _ => refine lv_tableIn hx hb dL_33 (off := 454) (tgt := 487) (by decide) (by decide) (by decide) (by decide) ?_; exact lc_figures l C0 hL (i := 6 * j) (by omega) hcs hl hWO hR hS next
    | 10, _ => refine lv_tableIn hx hb dL_33 (off := 467) (tgt := 500) (by decide) (by decide) (by decide) (by decide) ?_; exact lc_figure l C0 hL (i := 6 * j) (by omega) hcs hl hWO hR hS next
    | 11, _ => refine lv_tableIn hx hb dL_33 (off := 500) (tgt := 533) (by decide) (by decide) (by decide) (by decide) ?_; exact lc_agrees l C0 hL (i := 6 * j) (by omega) hcs hl hWO hR hS next
    | 12, _ => refine lv_tableIn hx hb dL_33 (off := 533) (tgt := 566) (by decide) (by decide) (by decide) (by decide) ?_; exact lc_fitting l C0 hL (i := 6 * j) (by omega) hcs hl hWO hR hS next
    | 13, _ => refine lv_tableIn hx hb dL_33 (off := 546) (tgt := 579) (by decide) (by decide) (by decide) (by decide) ?_; exact lc_fits l C0 hL (i := 6 * j) (by omega) hcs hl hWO hR hS next
    | 14, _ => refine lv_tableIn hx hb dL_33 (off := 569) (tgt := 602) (by decide) (by decide) (by decide) (by decide) ?_; exact lc_size l C0 hL (i := 6 * j) (by omega) hcs hl hWO hR hS next
    | 15, _ => refine lv_tableIn hx hb dL_33 (off := 608) (tgt := 641) (by decide) (by decide) (by decide) (by decide) ?_; exact lc_bad l C0 hL (i := 6 * j) (by omega) hcs hl hWO hR hS next
    | 16, _ => refine lv_tableIn hx hb dL_33 (off := 631) (tgt := 664) (by decide) (by decide) (by decide) (by decide) ?_; exact lc_isBad l C0 hL (i := 6 * j) (by omega) hcs hl hWO hR hS next
    | 17, _ => refine lv_tableIn hx hb dL_33 (off := 654) (tgt := 687) (by decide) (by decide) (by decide) (by decide) ?_; exact lc_clock l C0 hL (i := 6 * j) (by omega) hcs hl hWO hR hS next
    | 18, _ => refine lv_tableIn hx hb dL_33 (off := 687) (tgt := 720) (by decide) (by decide) (by decide) (by decide) ?_; exact lc_inside l C0 hL (i := 6 * j) (by omega) hcs hl hWO hR hS next
    | 19, _ => refine lv_tableIn hx hb dL_33 (off := 710) (tgt := 743) (by decide) (by decide) (by decide) (by decide) ?_; exact lc_corner l C0 hL (i := 6 * j) (by omega) hcs hl hWO hR hS next
    | 20, _ => refine lv_tableIn hx hb dL_33 (off := 743) (tgt := 776) (by decide) (by decide) (by decide) (by decide) ?_; exact lc_quarrels l C0 hL (i := 6 * j) (by omega) hcs hl hWO hR hS next
    | 21, _ => refine lv_tableIn hx hb dL_33 (off := 766) (tgt := 799) (by decide) (by decide) (by decide) (by decide) ?_; exact lc_dip l C0 hL (i := 6 * j) (by omega) hcs hl hWO hR hS next
    | 22, _ => refine lv_tableIn hx hb dL_33 (off := 809) (tgt := 842) (by decide) (by decide) (by decide) (by decide) ?_; exact lc_even l C0 hL (i := 6 * j) (by omega) hcs hl hWO hR hS next
    | 23, _ => refine lv_tableIn hx hb dL_33 (off := 832) (tgt := 865) (by decide) (by decide) (by decide) (by decide) ?_; exact lc_calm l C0 hL (i := 6 * j) (by omega) hcs hl hWO hR hS next
    | 24, _ => refine lv_tableIn hx hb dL_33 (off := 845) (tgt := 878) (by decide) (by decide) (by decide) (by decide) ?_; exact lc_ring l C0 hL (i := 6 * j) (by omega) hcs hl hWO hR hS next
    | 25, _ => refine lv_tableIn hx hb dL_33 (off := 879) (tgt := 912) (by decide) (by decide) (by decide) (by decide) ?_; exact lc_plan l C0 hL (i := 6 * j) (by omega) hcs hl hWO hR hS next
    | 26, _ => refine lv_tableIn hx hb dL_33 (off := 922) (tgt := 955) (by decide) (by decide) (by decide) (by decide) ?_; exact lc_planned l C0 hL (i := 6 * j) (by omega) hcs hl hWO hR hS next
    | 27, _ => refine lv_tableIn hx hb dL_33 (off := 945) (tgt := 978) (by decide) (by decide) (by decide) (by decide) ?_; exact lc_all l C0 hL (i := 6 * j) (by omega) hcs hl hWO hR hS next
    | 28, _ => refine lv_tableOut hx hb dL_33 (tgt := 1001) (by decide) (by decide) ?_; exact W.widen (by omega) (by omega) (next ns ad st H locs rfl rfl hWO hR hS)
    | 29, _ => refine lv_tableOut hx hb dL_33 (tgt := 1001) (by decide) (by decide) ?_; exact W.widen (by omega) (by omega) (next ns ad st H locs rfl rfl hWO hR hS)
    | 30, _ => refine lv_tableOut hx hb dL_33 (tgt := 1001) (by decide) (by decide) ?_; exact W.widen (by omega) (by omega) (next ns ad st H locs rfl rfl hWO hR hS)
    | 31, _ => refine lv_tableOut hx hb dL_33 (tgt := 1001) (by decide) (by decide) ?_; exact W.widen (by omega) (by omega) (next ns ad st H locs rfl rfl hWO hR hS)
    | k + 32, hk => omega
