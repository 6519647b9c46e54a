/-! MAKERS -/
theorem dk_U_fill_0 : decode c_U_fill 0 = .ok (.iconst 0, 1) := by decide +kernel
theorem dk_U_fill_1 : decode c_U_fill 1 = .ok (.istore_n 2, 1) := by decide +kernel
theorem dk_U_fill_2 : decode c_U_fill 2 = .ok (.aload_n 0, 1) := by decide +kernel
theorem dk_U_fill_3 : decode c_U_fill 3 = .ok (.arraylength, 1) := by decide +kernel
theorem dk_U_fill_4 : decode c_U_fill 4 = .ok (.istore_n 3, 1) := by decide +kernel
theorem dk_U_fill_5 : decode c_U_fill 5 = .ok (.iload_n 2, 1) := by decide +kernel
theorem dk_U_fill_6 : decode c_U_fill 6 = .ok (.iload_n 3, 1) := by decide +kernel
theorem dk_U_fill_7 : decode c_U_fill 7 = .ok (.if_icmp .ge 13, 3) := by decide +kernel
theorem dk_U_fill_10 : decode c_U_fill 10 = .ok (.aload_n 0, 1) := by decide +kernel
theorem dk_U_fill_11 : decode c_U_fill 11 = .ok (.iload_n 2, 1) := by decide +kernel
theorem dk_U_fill_12 : decode c_U_fill 12 = .ok (.iload_n 1, 1) := by decide +kernel
theorem dk_U_fill_13 : decode c_U_fill 13 = .ok (.iastore, 1) := by decide +kernel
theorem dk_U_fill_14 : decode c_U_fill 14 = .ok (.iinc 2 1, 3) := by decide +kernel
theorem dk_U_fill_17 : decode c_U_fill 17 = .ok (.goto (-12), 3) := by decide +kernel
theorem dk_U_fill_20 : decode c_U_fill 20 = .ok (.return_, 1) := by decide +kernel
abbrev rk_U_fill : Room := { frames := 0, cells := 0, slots := 0, locals := 0 }
set_option maxHeartbeats 4000000 in
set_option maxRecDepth 100000 in
theorem k_U_fill (l : Launch) (wd : sy_D) (h0 : Nat)  : sk_Met l y_U_fill c_U_fill 4 rk_U_fill wd [.ref h0, .int 1] [(h0, .inl (wd.2.1, 4, .inl (fun _ => 0)))] (fun u => [(h0, .inl (wd.2.1, 4, .inl (upd (upd (upd (upd (fun _ => 0) 0 1) 1 1) 2 1) 3 1)))]) := by
  refine sk_of (by decide +kernel) (Nat.le_of_ble_eq_true rfl) ?_
  intro p e s m below meth c ls A hAe hXX hP hD hl
  obtain ⟨hx, hb, hml, hown, hts, hr, hnm, hlk, hKK⟩ := hXX
  have hK := hKK.1
  have hin : meth.name = "fill" := hnm
  have hA : ∀ q : Nat, s.heap.size ≤ q → A q := fun q h => by rw [hAe]; exact Or.inr h
  have hS : va_S A s.heap s.heap [] := va_S.rf
  have hl : lv_has ls 4 [(0, .ref h0), (1, .int 1)] := hl
  refine lv_iconst hx hb dk_U_fill_0 (v := 0) rfl ?_
  refine lv_istore_n hx hb dk_U_fill_1 rfl hl (by decide) rfl (fun ls hl => ?_)
  have hl : lv_has ls 4 [(2, .int 0), (0, .ref h0), (1, .int 1)] := hl
  refine lv_aload_n hx hb dk_U_fill_2 rfl (lv_at hl 1 rfl) ?_
  refine va_alen hx hb hK hP 0 0 rfl rfl (v := 4) rfl dk_U_fill_3 ?_
  refine lv_istore_n hx hb dk_U_fill_4 rfl hl (by decide) rfl (fun ls hl => ?_)
  have hl : lv_has ls 4 [(3, .int 4), (2, .int 0), (0, .ref h0), (1, .int 1)] := hl
  refine lv_iload_n hx hb dk_U_fill_5 rfl (lv_at hl 1 rfl) ?_
  refine lv_iload_n hx hb dk_U_fill_6 rfl (lv_at hl 0 rfl) ?_
  refine lv_icmp_ge hx hb dk_U_fill_7 (tgt := 20) (by decide) (fun c9 => absurd c9 (by decide)) (fun _ => ?_)
  refine lv_aload_n hx hb dk_U_fill_10 rfl (lv_at hl 2 rfl) ?_
  refine lv_iload_n hx hb dk_U_fill_11 rfl (lv_at hl 1 rfl) ?_
  refine lv_iload_n hx hb dk_U_fill_12 rfl (lv_at hl 3 rfl) ?_
  refine va_iast hx hb hK hP hD hS 0 0 rfl rfl (i := 0) (x := 1) (by unfold vp_in; decide) dk_U_fill_13 (fun H locs hP hD hS => ?_)
  have hP : va_P wd.1 sy_cl [(h0, .inl (wd.2.1, 4, .inl (upd (fun _ => 0) 0 1)))] H := hP
  have hD : va_D A [(h0, .inl (wd.2.1, 4, .inl (upd (fun _ => 0) 0 1)))] := hD
  refine lv_iinc hx hb dk_U_fill_14 hl (k := 1) rfl (v := 1) (by decide) (by decide) rfl (fun ls hl => ?_)
  have hl : lv_has ls 4 [(2, .int 1), (3, .int 4), (0, .ref h0), (1, .int 1)] := hl
  refine lv_goto hx hb dk_U_fill_17 (tgt := 5) (by decide) ?_
  refine lv_iload_n hx hb dk_U_fill_5 rfl (lv_at hl 0 rfl) ?_
  refine lv_iload_n hx hb dk_U_fill_6 rfl (lv_at hl 1 rfl) ?_
  refine lv_icmp_ge hx hb dk_U_fill_7 (tgt := 20) (by decide) (fun c9 => absurd c9 (by decide)) (fun _ => ?_)
  refine lv_aload_n hx hb dk_U_fill_10 rfl (lv_at hl 2 rfl) ?_
  refine lv_iload_n hx hb dk_U_fill_11 rfl (lv_at hl 0 rfl) ?_
  refine lv_iload_n hx hb dk_U_fill_12 rfl (lv_at hl 3 rfl) ?_
  refine va_iast hx hb hK hP hD hS 0 0 rfl rfl (i := 1) (x := 1) (by unfold vp_in; decide) dk_U_fill_13 (fun H locs hP hD hS => ?_)
  have hP : va_P wd.1 sy_cl [(h0, .inl (wd.2.1, 4, .inl (upd (upd (fun _ => 0) 0 1) 1 1)))] H := hP
  have hD : va_D A [(h0, .inl (wd.2.1, 4, .inl (upd (upd (fun _ => 0) 0 1) 1 1)))] := hD
  refine lv_iinc hx hb dk_U_fill_14 hl (k := 0) rfl (v := 2) (by decide) (by decide) rfl (fun ls hl => ?_)
  have hl : lv_has ls 4 [(2, .int 2), (3, .int 4), (0, .ref h0), (1, .int 1)] := hl
  refine lv_goto hx hb dk_U_fill_17 (tgt := 5) (by decide) ?_
  refine lv_iload_n hx hb dk_U_fill_5 rfl (lv_at hl 0 rfl) ?_
  refine lv_iload_n hx hb dk_U_fill_6 rfl (lv_at hl 1 rfl) ?_
  refine lv_icmp_ge hx hb dk_U_fill_7 (tgt := 20) (by decide) (fun c9 => absurd c9 (by decide)) (fun _ => ?_)
  refine lv_aload_n hx hb dk_U_fill_10 rfl (lv_at hl 2 rfl) ?_
  refine lv_iload_n hx hb dk_U_fill_11 rfl (lv_at hl 0 rfl) ?_
  refine lv_iload_n hx hb dk_U_fill_12 rfl (lv_at hl 3 rfl) ?_
  refine va_iast hx hb hK hP hD hS 0 0 rfl rfl (i := 2) (x := 1) (by unfold vp_in; decide) dk_U_fill_13 (fun H locs hP hD hS => ?_)
  have hP : va_P wd.1 sy_cl [(h0, .inl (wd.2.1, 4, .inl (upd (upd (upd (fun _ => 0) 0 1) 1 1) 2 1)))] H := hP
  have hD : va_D A [(h0, .inl (wd.2.1, 4, .inl (upd (upd (upd (fun _ => 0) 0 1) 1 1) 2 1)))] := hD
  refine lv_iinc hx hb dk_U_fill_14 hl (k := 0) rfl (v := 3) (by decide) (by decide) rfl (fun ls hl => ?_)
  have hl : lv_has ls 4 [(2, .int 3), (3, .int 4), (0, .ref h0), (1, .int 1)] := hl
  refine lv_goto hx hb dk_U_fill_17 (tgt := 5) (by decide) ?_
  refine lv_iload_n hx hb dk_U_fill_5 rfl (lv_at hl 0 rfl) ?_
  refine lv_iload_n hx hb dk_U_fill_6 rfl (lv_at hl 1 rfl) ?_
  refine lv_icmp_ge hx hb dk_U_fill_7 (tgt := 20) (by decide) (fun c9 => absurd c9 (by decide)) (fun _ => ?_)
  refine lv_aload_n hx hb dk_U_fill_10 rfl (lv_at hl 2 rfl) ?_
  refine lv_iload_n hx hb dk_U_fill_11 rfl (lv_at hl 0 rfl) ?_
  refine lv_iload_n hx hb dk_U_fill_12 rfl (lv_at hl 3 rfl) ?_
  refine va_iast hx hb hK hP hD hS 0 0 rfl rfl (i := 3) (x := 1) (by unfold vp_in; decide) dk_U_fill_13 (fun H locs hP hD hS => ?_)
  have hP : va_P wd.1 sy_cl [(h0, .inl (wd.2.1, 4, .inl (upd (upd (upd (upd (fun _ => 0) 0 1) 1 1) 2 1) 3 1)))] H := hP
  have hD : va_D A [(h0, .inl (wd.2.1, 4, .inl (upd (upd (upd (upd (fun _ => 0) 0 1) 1 1) 2 1) 3 1)))] := hD
  refine lv_iinc hx hb dk_U_fill_14 hl (k := 0) rfl (v := 4) (by decide) (by decide) rfl (fun ls hl => ?_)
  have hl : lv_has ls 4 [(2, .int 4), (3, .int 4), (0, .ref h0), (1, .int 1)] := hl
  refine lv_goto hx hb dk_U_fill_17 (tgt := 5) (by decide) ?_
  refine lv_iload_n hx hb dk_U_fill_5 rfl (lv_at hl 0 rfl) ?_
  refine lv_iload_n hx hb dk_U_fill_6 rfl (lv_at hl 1 rfl) ?_
  refine lv_icmp_ge hx hb dk_U_fill_7 (tgt := 20) (by decide) (fun _ => ?_) (fun c9 => absurd (by decide) c9)
  refine W.widen (k := 0) (n := 0) (by decide) (by decide) ?_
  subst hAe
  exact W.vret hx hb hr (fun t ht hW => ⟨⟨(fun _ => 0), rfl, trivial, by rw [ht]; exact hP, hD⟩, hS.F ht⟩) hS.2.2 dk_U_fill_20 hlk

theorem dk_3_init_0 : decode c_3_init 0 = .ok (.aload_n 0, 1) := by decide +kernel
theorem dk_3_init_1 : decode c_3_init 1 = .ok (.invokespecial 1, 3) := by decide +kernel
theorem dk_3_init_4 : decode c_3_init 4 = .ok (.aload_n 0, 1) := by decide +kernel
theorem dk_3_init_5 : decode c_3_init 5 = .ok (.iconst 4, 1) := by decide +kernel
theorem dk_3_init_6 : decode c_3_init 6 = .ok (.newarray .int, 2) := by decide +kernel
theorem dk_3_init_8 : decode c_3_init 8 = .ok (.putfield 9, 3) := by decide +kernel
theorem dk_3_init_11 : decode c_3_init 11 = .ok (.aload_n 0, 1) := by decide +kernel
theorem dk_3_init_12 : decode c_3_init 12 = .ok (.iconst 4, 1) := by decide +kernel
theorem dk_3_init_13 : decode c_3_init 13 = .ok (.newarray .int, 2) := by decide +kernel
theorem dk_3_init_15 : decode c_3_init 15 = .ok (.putfield 13, 3) := by decide +kernel
theorem dk_3_init_18 : decode c_3_init 18 = .ok (.aload_n 0, 1) := by decide +kernel
theorem dk_3_init_19 : decode c_3_init 19 = .ok (.iconst 4, 1) := by decide +kernel
theorem dk_3_init_20 : decode c_3_init 20 = .ok (.newarray .int, 2) := by decide +kernel
theorem dk_3_init_22 : decode c_3_init 22 = .ok (.putfield 16, 3) := by decide +kernel
theorem dk_3_init_25 : decode c_3_init 25 = .ok (.aload_n 0, 1) := by decide +kernel
theorem dk_3_init_26 : decode c_3_init 26 = .ok (.iconst 1, 1) := by decide +kernel
theorem dk_3_init_27 : decode c_3_init 27 = .ok (.putfield 19, 3) := by decide +kernel
theorem dk_3_init_30 : decode c_3_init 30 = .ok (.aload_n 0, 1) := by decide +kernel
theorem dk_3_init_31 : decode c_3_init 31 = .ok (.iconst 1, 1) := by decide +kernel
theorem dk_3_init_32 : decode c_3_init 32 = .ok (.putfield 23, 3) := by decide +kernel
theorem dk_3_init_35 : decode c_3_init 35 = .ok (.aload_n 0, 1) := by decide +kernel
theorem dk_3_init_36 : decode c_3_init 36 = .ok (.getfield 13, 3) := by decide +kernel
theorem dk_3_init_39 : decode c_3_init 39 = .ok (.iconst 1, 1) := by decide +kernel
theorem dk_3_init_40 : decode c_3_init 40 = .ok (.invokestatic 26, 3) := by decide +kernel
theorem dk_3_init_43 : decode c_3_init 43 = .ok (.aload_n 0, 1) := by decide +kernel
theorem dk_3_init_44 : decode c_3_init 44 = .ok (.getfield 16, 3) := by decide +kernel
theorem dk_3_init_47 : decode c_3_init 47 = .ok (.iconst 1, 1) := by decide +kernel
theorem dk_3_init_48 : decode c_3_init 48 = .ok (.invokestatic 26, 3) := by decide +kernel
theorem dk_3_init_51 : decode c_3_init 51 = .ok (.aload_n 0, 1) := by decide +kernel
theorem dk_3_init_52 : decode c_3_init 52 = .ok (.getfield 9, 3) := by decide +kernel
theorem dk_3_init_55 : decode c_3_init 55 = .ok (.iconst 2, 1) := by decide +kernel
theorem dk_3_init_56 : decode c_3_init 56 = .ok (.bipush 100, 2) := by decide +kernel
theorem dk_3_init_58 : decode c_3_init 58 = .ok (.iastore, 1) := by decide +kernel
theorem dk_3_init_59 : decode c_3_init 59 = .ok (.aload_n 0, 1) := by decide +kernel
theorem dk_3_init_60 : decode c_3_init 60 = .ok (.getfield 9, 3) := by decide +kernel
theorem dk_3_init_63 : decode c_3_init 63 = .ok (.iconst 3, 1) := by decide +kernel
theorem dk_3_init_64 : decode c_3_init 64 = .ok (.bipush 100, 2) := by decide +kernel
theorem dk_3_init_66 : decode c_3_init 66 = .ok (.iastore, 1) := by decide +kernel
theorem dk_3_init_67 : decode c_3_init 67 = .ok (.return_, 1) := by decide +kernel
abbrev rk_3_init : Room := { frames := 1, cells := 3, slots := 12, locals := 24 }
set_option maxHeartbeats 4000000 in
set_option maxRecDepth 100000 in
theorem k_3_init (l : Launch) (wd : sy_D) (h0 : Nat)  : sk_Met l y_3_init c_3_init 1 rk_3_init wd [.ref h0] [(h0, .inr (3, [.null, .null, .null, .int 0, .int 0]))] (fun u => [(h0, .inr (3, [.ref (u 0), .ref (u 1), .ref (u 2), .int 1, .int 1])), ((u 0), .inl (wd.2.1, 4, .inl (upd (upd (fun _ => 0) 2 100) 3 100))), ((u 1), .inl (wd.2.1, 4, .inl (upd (upd (upd (upd (fun _ => 0) 0 1) 1 1) 2 1) 3 1))), ((u 2), .inl (wd.2.1, 4, .inl (upd (upd (upd (upd (fun _ => 0) 0 1) 1 1) 2 1) 3 1)))]) := by
  refine sk_of (by decide +kernel) (Nat.le_of_ble_eq_true rfl) ?_
  intro p e s m below meth c ls A hAe hXX hP hD hl
  obtain ⟨hx, hb, hml, hown, hts, hr, hnm, hlk, hKK⟩ := hXX
  have hK := hKK.1
  have hin : meth.name = "<init>" := hnm
  have hA : ∀ q : Nat, s.heap.size ≤ q → A q := fun q h => by rw [hAe]; exact Or.inr h
  have hS : va_S A s.heap s.heap [] := va_S.rf
  have hown : s.vm.findClass R_3 = some m.cls := hown
  have hl : lv_has ls 1 [(0, .ref h0)] := hl
  refine lv_aload_n hx hb dk_3_init_0 rfl (lv_at hl 0 rfl) ?_
  refine W.objInit hx hb hown (hts (.methodLink R_3 1 objectInit) (sy_inx 96 (by decide +kernel) (by decide +kernel))) (hts (.instanceMethod objectInit) (sy_inx 63 (by decide +kernel) (by decide +kernel))) (hts (.code objectInit ⟨#[0xb1]⟩ 1 none) (sy_inx 64 (by decide +kernel) (by decide +kernel))) rfl (by rw [hml]; exact hl.1) rfl dk_3_init_1 (Nat.le_of_ble_eq_true rfl) (Nat.le_of_ble_eq_true rfl) ?_
  refine W.eq (g2 := F0 m 4 ls []) rfl ?_
  refine lv_aload_n hx hb dk_3_init_4 rfl (lv_at hl 0 rfl) ?_
  refine lv_iconst hx hb dk_3_init_5 (v := 4) rfl ?_
  refine sk_newi hx hb (hts (.arrayClass .int) (sy_inx 119 (by decide +kernel) (by decide +kernel))) hK hP hD hS hA (N := 4) (by decide) (by decide) (by decide) (by decide) (by decide) dk_3_init_6 (fun q6 H hP hD hS => ?_)
  have hP : va_P wd.1 sy_cl [(h0, .inr (3, [.null, .null, .null, .int 0, .int 0])), (q6, .inl (wd.2.1, 4, .inl (fun _ => 0)))] H := hP
  have hD : va_D A [(h0, .inr (3, [.null, .null, .null, .int 0, .int 0])), (q6, .inl (wd.2.1, 4, .inl (fun _ => 0)))] := hD
  refine va_putF (D := wd.1) (ci := 3) (v := .ref q6) (ty := .array .int) (C := R_3) (T := F_3) (N := 5) hx hb hts i_3 t_3 t_3_ok n_3 hown hK hP hD hS 0 rfl rfl 0 (by decide) (hts (.fieldLink R_3 9 "StarHide$Net" "first" "[I") (sy_inx 100 (by decide +kernel) (by decide +kernel))) (fun _ h9 => h9) rfl hin rfl (by decide +kernel) rfl rfl (sk_lt rfl) dk_3_init_8 (fun H locs hP hD hS => ?_)
  have hP : va_P wd.1 sy_cl [(h0, .inr (3, [.ref q6, .null, .null, .int 0, .int 0])), (q6, .inl (wd.2.1, 4, .inl (fun _ => 0)))] H := hP
  have hD : va_D A [(h0, .inr (3, [.ref q6, .null, .null, .int 0, .int 0])), (q6, .inl (wd.2.1, 4, .inl (fun _ => 0)))] := hD
  refine lv_aload_n hx hb dk_3_init_11 rfl (lv_at hl 0 rfl) ?_
  refine lv_iconst hx hb dk_3_init_12 (v := 4) rfl ?_
  refine sk_newi hx hb (hts (.arrayClass .int) (sy_inx 119 (by decide +kernel) (by decide +kernel))) hK hP hD hS hA (N := 4) (by decide) (by decide) (by decide) (by decide) (by decide) dk_3_init_13 (fun q13 H hP hD hS => ?_)
  have hP : va_P wd.1 sy_cl [(h0, .inr (3, [.ref q6, .null, .null, .int 0, .int 0])), (q6, .inl (wd.2.1, 4, .inl (fun _ => 0))), (q13, .inl (wd.2.1, 4, .inl (fun _ => 0)))] H := hP
  have hD : va_D A [(h0, .inr (3, [.ref q6, .null, .null, .int 0, .int 0])), (q6, .inl (wd.2.1, 4, .inl (fun _ => 0))), (q13, .inl (wd.2.1, 4, .inl (fun _ => 0)))] := hD
  refine va_putF (D := wd.1) (ci := 3) (v := .ref q13) (ty := .array .int) (C := R_3) (T := F_3) (N := 5) hx hb hts i_3 t_3 t_3_ok n_3 hown hK hP hD hS 0 rfl rfl 1 (by decide) (hts (.fieldLink R_3 13 "StarHide$Net" "step" "[I") (sy_inx 101 (by decide +kernel) (by decide +kernel))) (fun _ h9 => h9) rfl hin rfl (by decide +kernel) rfl rfl (sk_lt rfl) dk_3_init_15 (fun H locs hP hD hS => ?_)
  have hP : va_P wd.1 sy_cl [(h0, .inr (3, [.ref q6, .ref q13, .null, .int 0, .int 0])), (q6, .inl (wd.2.1, 4, .inl (fun _ => 0))), (q13, .inl (wd.2.1, 4, .inl (fun _ => 0)))] H := hP
  have hD : va_D A [(h0, .inr (3, [.ref q6, .ref q13, .null, .int 0, .int 0])), (q6, .inl (wd.2.1, 4, .inl (fun _ => 0))), (q13, .inl (wd.2.1, 4, .inl (fun _ => 0)))] := hD
  refine lv_aload_n hx hb dk_3_init_18 rfl (lv_at hl 0 rfl) ?_
  refine lv_iconst hx hb dk_3_init_19 (v := 4) rfl ?_
  refine sk_newi hx hb (hts (.arrayClass .int) (sy_inx 119 (by decide +kernel) (by decide +kernel))) hK hP hD hS hA (N := 4) (by decide) (by decide) (by decide) (by decide) (by decide) dk_3_init_20 (fun q20 H hP hD hS => ?_)
  have hP : va_P wd.1 sy_cl [(h0, .inr (3, [.ref q6, .ref q13, .null, .int 0, .int 0])), (q6, .inl (wd.2.1, 4, .inl (fun _ => 0))), (q13, .inl (wd.2.1, 4, .inl (fun _ => 0))), (q20, .inl (wd.2.1, 4, .inl (fun _ => 0)))] H := hP
  have hD : va_D A [(h0, .inr (3, [.ref q6, .ref q13, .null, .int 0, .int 0])), (q6, .inl (wd.2.1, 4, .inl (fun _ => 0))), (q13, .inl (wd.2.1, 4, .inl (fun _ => 0))), (q20, .inl (wd.2.1, 4, .inl (fun _ => 0)))] := hD
  refine va_putF (D := wd.1) (ci := 3) (v := .ref q20) (ty := .array .int) (C := R_3) (T := F_3) (N := 5) hx hb hts i_3 t_3 t_3_ok n_3 hown hK hP hD hS 0 rfl rfl 2 (by decide) (hts (.fieldLink R_3 16 "StarHide$Net" "many" "[I") (sy_inx 102 (by decide +kernel) (by decide +kernel))) (fun _ h9 => h9) rfl hin rfl (by decide +kernel) rfl rfl (sk_lt rfl) dk_3_init_22 (fun H locs hP hD hS => ?_)
  have hP : va_P wd.1 sy_cl [(h0, .inr (3, [.ref q6, .ref q13, .ref q20, .int 0, .int 0])), (q6, .inl (wd.2.1, 4, .inl (fun _ => 0))), (q13, .inl (wd.2.1, 4, .inl (fun _ => 0))), (q20, .inl (wd.2.1, 4, .inl (fun _ => 0)))] H := hP
  have hD : va_D A [(h0, .inr (3, [.ref q6, .ref q13, .ref q20, .int 0, .int 0])), (q6, .inl (wd.2.1, 4, .inl (fun _ => 0))), (q13, .inl (wd.2.1, 4, .inl (fun _ => 0))), (q20, .inl (wd.2.1, 4, .inl (fun _ => 0)))] := hD
  refine lv_aload_n hx hb dk_3_init_25 rfl (lv_at hl 0 rfl) ?_
  refine lv_iconst hx hb dk_3_init_26 (v := 1) rfl ?_
  refine va_put (D := wd.1) (ci := 3) (v := .int 1) (ty := .int) (C := R_3) (T := F_3) (N := 5) hx hb hts i_3 t_3 t_3_ok n_3 hown hK hP hD hS 0 rfl rfl 3 (by decide) (hts (.fieldLink R_3 19 "StarHide$Net" "shapes" "I") (sy_inx 103 (by decide +kernel) (by decide +kernel))) (fun _ h9 => h9) rfl (by decide +kernel) rfl rfl (sk_lt rfl) dk_3_init_27 (fun H locs hP hD hS => ?_)
  have hP : va_P wd.1 sy_cl [(h0, .inr (3, [.ref q6, .ref q13, .ref q20, .int 1, .int 0])), (q6, .inl (wd.2.1, 4, .inl (fun _ => 0))), (q13, .inl (wd.2.1, 4, .inl (fun _ => 0))), (q20, .inl (wd.2.1, 4, .inl (fun _ => 0)))] H := hP
  have hD : va_D A [(h0, .inr (3, [.ref q6, .ref q13, .ref q20, .int 1, .int 0])), (q6, .inl (wd.2.1, 4, .inl (fun _ => 0))), (q13, .inl (wd.2.1, 4, .inl (fun _ => 0))), (q20, .inl (wd.2.1, 4, .inl (fun _ => 0)))] := hD
  refine lv_aload_n hx hb dk_3_init_30 rfl (lv_at hl 0 rfl) ?_
  refine lv_iconst hx hb dk_3_init_31 (v := 1) rfl ?_
  refine va_put (D := wd.1) (ci := 3) (v := .int 1) (ty := .int) (C := R_3) (T := F_3) (N := 5) hx hb hts i_3 t_3 t_3_ok n_3 hown hK hP hD hS 0 rfl rfl 4 (by decide) (hts (.fieldLink R_3 23 "StarHide$Net" "total" "I") (sy_inx 105 (by decide +kernel) (by decide +kernel))) (fun _ h9 => h9) rfl (by decide +kernel) rfl rfl (sk_lt rfl) dk_3_init_32 (fun H locs hP hD hS => ?_)
  have hP : va_P wd.1 sy_cl [(h0, .inr (3, [.ref q6, .ref q13, .ref q20, .int 1, .int 1])), (q6, .inl (wd.2.1, 4, .inl (fun _ => 0))), (q13, .inl (wd.2.1, 4, .inl (fun _ => 0))), (q20, .inl (wd.2.1, 4, .inl (fun _ => 0)))] H := hP
  have hD : va_D A [(h0, .inr (3, [.ref q6, .ref q13, .ref q20, .int 1, .int 1])), (q6, .inl (wd.2.1, 4, .inl (fun _ => 0))), (q13, .inl (wd.2.1, 4, .inl (fun _ => 0))), (q20, .inl (wd.2.1, 4, .inl (fun _ => 0)))] := hD
  refine lv_aload_n hx hb dk_3_init_35 rfl (lv_at hl 0 rfl) ?_
  refine va_get (D := wd.1) (ci := 3) (C := R_3) (T := F_3) (N := 5) hx hb hts i_3 hown hK hP 0 rfl rfl 1 (by decide) (hts (.fieldLink R_3 13 "StarHide$Net" "step" "[I") (sy_inx 101 (by decide +kernel) (by decide +kernel))) (fun _ h9 => h9) rfl dk_3_init_36 ?_
  refine lv_iconst hx hb dk_3_init_39 (v := 1) rfl ?_
  have hPc := hP.sub (ws' := [(q13, .inl (wd.2.1, 4, .inl (fun _ => 0)))]) [2] rfl
  have hDc := hD.sub (ws' := [(q13, .inl (wd.2.1, 4, .inl (fun _ => 0)))]) [2] (by decide) rfl
  have hFc := va_free (wc := [(q13, .inl (wd.2.1, 4, .inl (fun _ => 0)))]) hD hS hA [2] rfl
  refine va_callv (va_runS (As := [.ref q13, .int 1]) (rest := []) ⟨hx, hb, hml, hown, hts⟩ (k_U_fill l wd q13 H.size) ⟨callB_of 2 hts (sy_good y_U_fill c_U_fill 4 none (sy_inx 99 (by decide +kernel) (by decide +kernel))) rfl rfl rfl (hts (.initialized y_U_fill.cls) (sy_inx 47 (by decide +kernel) (by decide +kernel))) (hts (.methodLink R_3 26 y_U_fill) (sy_inx 97 (by decide +kernel) (by decide +kernel))) (by decide +kernel) ⟨by decide, by decide⟩, (hts (.static y_U_fill) (sy_inx 98 (by decide +kernel) (by decide +kernel)))⟩ ⟨sk_blind, fun U hU hW => ⟨rfl, by rw [hU], by rw [hU]; exact hPc, sk_K_warm hW hKK, hDc.weaken (fun _ _ _ _ => trivial)⟩⟩ rfl rfl hl.1 rfl (lv_room (Nat.le_of_ble_eq_true rfl)) dk_3_init_40 ⟨by decide, by decide⟩) hS (fun q _ h => hFc q h) hFc (fun u40 t H1 locs ht hvm _ hB hz1 hk1 hS => ?_)
  obtain ⟨hP1, hD1⟩ := hB
  rw [ht] at hP1
  obtain ⟨hP, hD⟩ := va_join (wr := [(h0, .inr (3, [.ref q6, .ref q13, .ref q20, .int 1, .int 1])), (q6, .inl (wd.2.1, 4, .inl (fun _ => 0))), (q20, .inl (wd.2.1, 4, .inl (fun _ => 0)))]) (w1 := [(q13, .inl (wd.2.1, 4, .inl (upd (upd (upd (upd (fun _ => 0) 0 1) 1 1) 2 1) 3 1)))]) hP hD [2] [0, 1, 3] rfl rfl (by decide) (by decide) hk1 hFc hP1 hD1
  generalize H1 = H at hP hS ⊢
  have hP : va_P wd.1 sy_cl [(h0, .inr (3, [.ref q6, .ref q13, .ref q20, .int 1, .int 1])), (q6, .inl (wd.2.1, 4, .inl (fun _ => 0))), (q13, .inl (wd.2.1, 4, .inl (upd (upd (upd (upd (fun _ => 0) 0 1) 1 1) 2 1) 3 1))), (q20, .inl (wd.2.1, 4, .inl (fun _ => 0)))] H := hP.sub [0, 1, 3, 2] rfl
  have hD : va_D A [(h0, .inr (3, [.ref q6, .ref q13, .ref q20, .int 1, .int 1])), (q6, .inl (wd.2.1, 4, .inl (fun _ => 0))), (q13, .inl (wd.2.1, 4, .inl (upd (upd (upd (upd (fun _ => 0) 0 1) 1 1) 2 1) 3 1))), (q20, .inl (wd.2.1, 4, .inl (fun _ => 0)))] := hD.sub [0, 1, 3, 2] (by decide) rfl
  refine lv_aload_n hx hb dk_3_init_43 rfl (lv_at hl 0 rfl) ?_
  refine va_get (D := wd.1) (ci := 3) (C := R_3) (T := F_3) (N := 5) hx hb hts i_3 hown hK hP 0 rfl rfl 2 (by decide) (hts (.fieldLink R_3 16 "StarHide$Net" "many" "[I") (sy_inx 102 (by decide +kernel) (by decide +kernel))) (fun _ h9 => h9) rfl dk_3_init_44 ?_
  refine lv_iconst hx hb dk_3_init_47 (v := 1) rfl ?_
  have hPc := hP.sub (ws' := [(q20, .inl (wd.2.1, 4, .inl (fun _ => 0)))]) [3] rfl
  have hDc := hD.sub (ws' := [(q20, .inl (wd.2.1, 4, .inl (fun _ => 0)))]) [3] (by decide) rfl
  have hFc := va_free (wc := [(q20, .inl (wd.2.1, 4, .inl (fun _ => 0)))]) hD hS hA [3] rfl
  refine va_callv (va_runS (As := [.ref q20, .int 1]) (rest := []) ⟨hx, hb, hml, hown, hts⟩ (k_U_fill l wd q20 H.size) ⟨callB_of 2 hts (sy_good y_U_fill c_U_fill 4 none (sy_inx 99 (by decide +kernel) (by decide +kernel))) rfl rfl rfl (hts (.initialized y_U_fill.cls) (sy_inx 47 (by decide +kernel) (by decide +kernel))) (hts (.methodLink R_3 26 y_U_fill) (sy_inx 97 (by decide +kernel) (by decide +kernel))) (by decide +kernel) ⟨by decide, by decide⟩, (hts (.static y_U_fill) (sy_inx 98 (by decide +kernel) (by decide +kernel)))⟩ ⟨sk_blind, fun U hU hW => ⟨rfl, by rw [hU], by rw [hU]; exact hPc, sk_K_warm hW hKK, hDc.weaken (fun _ _ _ _ => trivial)⟩⟩ rfl rfl hl.1 rfl (lv_room (Nat.le_of_ble_eq_true rfl)) dk_3_init_48 ⟨by decide, by decide⟩) hS (fun q _ h => hFc q h) hFc (fun u48 t H1 locs ht hvm _ hB hz1 hk1 hS => ?_)
  obtain ⟨hP1, hD1⟩ := hB
  rw [ht] at hP1
  obtain ⟨hP, hD⟩ := va_join (wr := [(h0, .inr (3, [.ref q6, .ref q13, .ref q20, .int 1, .int 1])), (q6, .inl (wd.2.1, 4, .inl (fun _ => 0))), (q13, .inl (wd.2.1, 4, .inl (upd (upd (upd (upd (fun _ => 0) 0 1) 1 1) 2 1) 3 1)))]) (w1 := [(q20, .inl (wd.2.1, 4, .inl (upd (upd (upd (upd (fun _ => 0) 0 1) 1 1) 2 1) 3 1)))]) hP hD [3] [0, 1, 2] rfl rfl (by decide) (by decide) hk1 hFc hP1 hD1
  generalize H1 = H at hP hS ⊢
  have hP : va_P wd.1 sy_cl [(h0, .inr (3, [.ref q6, .ref q13, .ref q20, .int 1, .int 1])), (q6, .inl (wd.2.1, 4, .inl (fun _ => 0))), (q13, .inl (wd.2.1, 4, .inl (upd (upd (upd (upd (fun _ => 0) 0 1) 1 1) 2 1) 3 1))), (q20, .inl (wd.2.1, 4, .inl (upd (upd (upd (upd (fun _ => 0) 0 1) 1 1) 2 1) 3 1)))] H := hP
  have hD : va_D A [(h0, .inr (3, [.ref q6, .ref q13, .ref q20, .int 1, .int 1])), (q6, .inl (wd.2.1, 4, .inl (fun _ => 0))), (q13, .inl (wd.2.1, 4, .inl (upd (upd (upd (upd (fun _ => 0) 0 1) 1 1) 2 1) 3 1))), (q20, .inl (wd.2.1, 4, .inl (upd (upd (upd (upd (fun _ => 0) 0 1) 1 1) 2 1) 3 1)))] := hD
  refine lv_aload_n hx hb dk_3_init_51 rfl (lv_at hl 0 rfl) ?_
  refine va_get (D := wd.1) (ci := 3) (C := R_3) (T := F_3) (N := 5) hx hb hts i_3 hown hK hP 0 rfl rfl 0 (by decide) (hts (.fieldLink R_3 9 "StarHide$Net" "first" "[I") (sy_inx 100 (by decide +kernel) (by decide +kernel))) (fun _ h9 => h9) rfl dk_3_init_52 ?_
  refine lv_iconst hx hb dk_3_init_55 (v := 2) rfl ?_
  refine lv_bipush hx hb dk_3_init_56 (v := 100) rfl ?_
  refine va_iast hx hb hK hP hD hS 1 0 rfl rfl (i := 2) (x := 100) (by unfold vp_in; decide) dk_3_init_58 (fun H locs hP hD hS => ?_)
  have hP : va_P wd.1 sy_cl [(h0, .inr (3, [.ref q6, .ref q13, .ref q20, .int 1, .int 1])), (q6, .inl (wd.2.1, 4, .inl (upd (fun _ => 0) 2 100))), (q13, .inl (wd.2.1, 4, .inl (upd (upd (upd (upd (fun _ => 0) 0 1) 1 1) 2 1) 3 1))), (q20, .inl (wd.2.1, 4, .inl (upd (upd (upd (upd (fun _ => 0) 0 1) 1 1) 2 1) 3 1)))] H := hP
  have hD : va_D A [(h0, .inr (3, [.ref q6, .ref q13, .ref q20, .int 1, .int 1])), (q6, .inl (wd.2.1, 4, .inl (upd (fun _ => 0) 2 100))), (q13, .inl (wd.2.1, 4, .inl (upd (upd (upd (upd (fun _ => 0) 0 1) 1 1) 2 1) 3 1))), (q20, .inl (wd.2.1, 4, .inl (upd (upd (upd (upd (fun _ => 0) 0 1) 1 1) 2 1) 3 1)))] := hD
  refine lv_aload_n hx hb dk_3_init_59 rfl (lv_at hl 0 rfl) ?_
  refine va_get (D := wd.1) (ci := 3) (C := R_3) (T := F_3) (N := 5) hx hb hts i_3 hown hK hP 0 rfl rfl 0 (by decide) (hts (.fieldLink R_3 9 "StarHide$Net" "first" "[I") (sy_inx 100 (by decide +kernel) (by decide +kernel))) (fun _ h9 => h9) rfl dk_3_init_60 ?_
  refine lv_iconst hx hb dk_3_init_63 (v := 3) rfl ?_
  refine lv_bipush hx hb dk_3_init_64 (v := 100) rfl ?_
  refine va_iast hx hb hK hP hD hS 1 0 rfl rfl (i := 3) (x := 100) (by unfold vp_in; decide) dk_3_init_66 (fun H locs hP hD hS => ?_)
  have hP : va_P wd.1 sy_cl [(h0, .inr (3, [.ref q6, .ref q13, .ref q20, .int 1, .int 1])), (q6, .inl (wd.2.1, 4, .inl (upd (upd (fun _ => 0) 2 100) 3 100))), (q13, .inl (wd.2.1, 4, .inl (upd (upd (upd (upd (fun _ => 0) 0 1) 1 1) 2 1) 3 1))), (q20, .inl (wd.2.1, 4, .inl (upd (upd (upd (upd (fun _ => 0) 0 1) 1 1) 2 1) 3 1)))] H := hP
  have hD : va_D A [(h0, .inr (3, [.ref q6, .ref q13, .ref q20, .int 1, .int 1])), (q6, .inl (wd.2.1, 4, .inl (upd (upd (fun _ => 0) 2 100) 3 100))), (q13, .inl (wd.2.1, 4, .inl (upd (upd (upd (upd (fun _ => 0) 0 1) 1 1) 2 1) 3 1))), (q20, .inl (wd.2.1, 4, .inl (upd (upd (upd (upd (fun _ => 0) 0 1) 1 1) 2 1) 3 1)))] := hD
  refine W.widen (k := 3) (n := 12) (by decide) (by decide) ?_
  subst hAe
  exact W.vret hx hb hr (fun t ht hW => ⟨⟨(fun k => match k with | 0 => q6 | 1 => q13 | 2 => q20 | _ => 0), rfl, trivial, by rw [ht]; exact hP, hD⟩, hS.F ht⟩) hS.2.2 dk_3_init_67 hlk

theorem dk_5_init_0 : decode c_5_init 0 = .ok (.aload_n 0, 1) := by decide +kernel
theorem dk_5_init_1 : decode c_5_init 1 = .ok (.invokespecial 3, 3) := by decide +kernel
theorem dk_5_init_4 : decode c_5_init 4 = .ok (.aload_n 0, 1) := by decide +kernel
theorem dk_5_init_5 : decode c_5_init 5 = .ok (.sipush 4096, 3) := by decide +kernel
theorem dk_5_init_8 : decode c_5_init 8 = .ok (.newarray .int, 2) := by decide +kernel
theorem dk_5_init_10 : decode c_5_init 10 = .ok (.putfield 11, 3) := by decide +kernel
theorem dk_5_init_13 : decode c_5_init 13 = .ok (.aload_n 0, 1) := by decide +kernel
theorem dk_5_init_14 : decode c_5_init 14 = .ok (.iconst (-1), 1) := by decide +kernel
theorem dk_5_init_15 : decode c_5_init 15 = .ok (.putfield 17, 3) := by decide +kernel
theorem dk_5_init_18 : decode c_5_init 18 = .ok (.aload_n 0, 1) := by decide +kernel
theorem dk_5_init_19 : decode c_5_init 19 = .ok (.new 21, 3) := by decide +kernel
theorem dk_5_init_22 : decode c_5_init 22 = .ok (.dup, 1) := by decide +kernel
theorem dk_5_init_23 : decode c_5_init 23 = .ok (.invokespecial 23, 3) := by decide +kernel
theorem dk_5_init_26 : decode c_5_init 26 = .ok (.putfield 24, 3) := by decide +kernel
theorem dk_5_init_29 : decode c_5_init 29 = .ok (.aload_n 0, 1) := by decide +kernel
theorem dk_5_init_30 : decode c_5_init 30 = .ok (.iconst (-1), 1) := by decide +kernel
theorem dk_5_init_31 : decode c_5_init 31 = .ok (.putfield 28, 3) := by decide +kernel
theorem dk_5_init_34 : decode c_5_init 34 = .ok (.aload_n 0, 1) := by decide +kernel
theorem dk_5_init_35 : decode c_5_init 35 = .ok (.aload_n 1, 1) := by decide +kernel
theorem dk_5_init_36 : decode c_5_init 36 = .ok (.putfield 31, 3) := by decide +kernel
theorem dk_5_init_39 : decode c_5_init 39 = .ok (.aload_n 0, 1) := by decide +kernel
theorem dk_5_init_40 : decode c_5_init 40 = .ok (.aload_n 2, 1) := by decide +kernel
theorem dk_5_init_41 : decode c_5_init 41 = .ok (.putfield 35, 3) := by decide +kernel
theorem dk_5_init_44 : decode c_5_init 44 = .ok (.return_, 1) := by decide +kernel
abbrev rk_5_init : Room := { frames := 2, cells := 3, slots := 4202, locals := 32 }
set_option maxHeartbeats 4000000 in
set_option maxRecDepth 100000 in
theorem k_5_init (l : Launch) (wd : sy_D) (h0 : Nat) (a1 a2 : Nat) : sk_Met l y_5_init c_5_init 3 rk_5_init wd [.ref h0, .ref a1, .ref a2] [(h0, .inr (5, [.null, .null, .null, .int 0, .int 0, .int 0, .int 0, .int 0, .int 0, .null, .int 0]))] (fun u => [(h0, .inr (5, [.ref a1, .ref a2, .ref (u 0), .int (-1), .int 0, .int 0, .int 0, .int 0, .int 0, .ref (u 1), .int (-1)])), ((u 0), .inl (wd.2.1, 4096, .inl (fun _ => 0))), ((u 1), .inr (0, [.ref (u 2), .int 0, .int 0, .int 0])), ((u 2), .inl (wd.2.1, 102, .inl (fun _ => 0)))]) := by
  refine sk_of (by decide +kernel) (Nat.le_of_ble_eq_true rfl) ?_
  intro p e s m below meth c ls A hAe hXX hP hD hl
  obtain ⟨hx, hb, hml, hown, hts, hr, hnm, hlk, hKK⟩ := hXX
  have hK := hKK.1
  have hin : meth.name = "<init>" := hnm
  have hA : ∀ q : Nat, s.heap.size ≤ q → A q := fun q h => by rw [hAe]; exact Or.inr h
  have hS : va_S A s.heap s.heap [] := va_S.rf
  have hown : s.vm.findClass R_5 = some m.cls := hown
  have hl : lv_has ls 3 [(0, .ref h0), (1, .ref a1), (2, .ref a2)] := hl
  refine lv_aload_n hx hb dk_5_init_0 rfl (lv_at hl 0 rfl) ?_
  refine W.objInit hx hb hown (hts (.methodLink R_5 3 objectInit) (sy_inx 125 (by decide +kernel) (by decide +kernel))) (hts (.instanceMethod objectInit) (sy_inx 63 (by decide +kernel) (by decide +kernel))) (hts (.code objectInit ⟨#[0xb1]⟩ 1 none) (sy_inx 64 (by decide +kernel) (by decide +kernel))) rfl (by rw [hml]; exact hl.1) rfl dk_5_init_1 (Nat.le_of_ble_eq_true rfl) (Nat.le_of_ble_eq_true rfl) ?_
  refine W.eq (g2 := F0 m 4 ls []) rfl ?_
  refine lv_aload_n hx hb dk_5_init_4 rfl (lv_at hl 0 rfl) ?_
  refine lv_sipush hx hb dk_5_init_5 (v := 4096) rfl ?_
  refine sk_newi hx hb (hts (.arrayClass .int) (sy_inx 119 (by decide +kernel) (by decide +kernel))) hK hP hD hS hA (N := 4096) (by decide) (by decide) (by decide) (by decide) (by decide) dk_5_init_8 (fun q8 H hP hD hS => ?_)
  have hP : va_P wd.1 sy_cl [(h0, .inr (5, [.null, .null, .null, .int 0, .int 0, .int 0, .int 0, .int 0, .int 0, .null, .int 0])), (q8, .inl (wd.2.1, 4096, .inl (fun _ => 0)))] H := hP
  have hD : va_D A [(h0, .inr (5, [.null, .null, .null, .int 0, .int 0, .int 0, .int 0, .int 0, .int 0, .null, .int 0])), (q8, .inl (wd.2.1, 4096, .inl (fun _ => 0)))] := hD
  refine va_putF (D := wd.1) (ci := 5) (v := .ref q8) (ty := .array .int) (C := R_5) (T := F_5) (N := 11) hx hb hts i_5 t_5 t_5_ok n_5 hown hK hP hD hS 0 rfl rfl 2 (by decide) (hts (.fieldLink R_5 11 "StarHide$Search" "against" "[I") (sy_inx 150 (by decide +kernel) (by decide +kernel))) (fun _ h9 => h9) rfl hin rfl (by decide +kernel) rfl rfl (sk_lt rfl) dk_5_init_10 (fun H locs hP hD hS => ?_)
  have hP : va_P wd.1 sy_cl [(h0, .inr (5, [.null, .null, .ref q8, .int 0, .int 0, .int 0, .int 0, .int 0, .int 0, .null, .int 0])), (q8, .inl (wd.2.1, 4096, .inl (fun _ => 0)))] H := hP
  have hD : va_D A [(h0, .inr (5, [.null, .null, .ref q8, .int 0, .int 0, .int 0, .int 0, .int 0, .int 0, .null, .int 0])), (q8, .inl (wd.2.1, 4096, .inl (fun _ => 0)))] := hD
  refine lv_aload_n hx hb dk_5_init_13 rfl (lv_at hl 0 rfl) ?_
  refine lv_iconst hx hb dk_5_init_14 (v := (-1)) rfl ?_
  refine va_put (D := wd.1) (ci := 5) (v := .int (-1)) (ty := .int) (C := R_5) (T := F_5) (N := 11) hx hb hts i_5 t_5 t_5_ok n_5 hown hK hP hD hS 0 rfl rfl 3 (by decide) (hts (.fieldLink R_5 17 "StarHide$Search" "stale" "I") (sy_inx 151 (by decide +kernel) (by decide +kernel))) (fun _ h9 => h9) rfl (by decide +kernel) rfl rfl (sk_lt rfl) dk_5_init_15 (fun H locs hP hD hS => ?_)
  have hP : va_P wd.1 sy_cl [(h0, .inr (5, [.null, .null, .ref q8, .int (-1), .int 0, .int 0, .int 0, .int 0, .int 0, .null, .int 0])), (q8, .inl (wd.2.1, 4096, .inl (fun _ => 0)))] H := hP
  have hD : va_D A [(h0, .inr (5, [.null, .null, .ref q8, .int (-1), .int 0, .int 0, .int 0, .int 0, .int 0, .null, .int 0])), (q8, .inl (wd.2.1, 4096, .inl (fun _ => 0)))] := hD
  refine lv_aload_n hx hb dk_5_init_18 rfl (lv_at hl 0 rfl) ?_
  refine va_new (ci := 0) (fs := [.null, .int 0, .int 0, .int 0]) (C := R_0) (T := F_0) (N := 4) hx hb hts i_0 t_0 t_0_ok hown (hts (.classLink R_5 21 R_0) (sy_inx 126 (by decide +kernel) (by decide +kernel))) (hts (.instantiable R_0 4) (sy_inx 127 (by decide +kernel) (by decide +kernel))) (hts (.initialized R_0) (sy_inx 49 (by decide +kernel) (by decide +kernel))) hK hP hD hS hA rfl (fun j hj => by rcases (show j = 0 ∨ j = 1 ∨ j = 2 ∨ j = 3 by omega) with rfl | rfl | rfl | rfl <;> rfl) (by decide) (by decide) dk_5_init_19 (fun q19 H hP hD hS => ?_)
  have hP : va_P wd.1 sy_cl [(h0, .inr (5, [.null, .null, .ref q8, .int (-1), .int 0, .int 0, .int 0, .int 0, .int 0, .null, .int 0])), (q8, .inl (wd.2.1, 4096, .inl (fun _ => 0))), (q19, .inr (0, [.null, .int 0, .int 0, .int 0]))] H := hP
  have hD : va_D A [(h0, .inr (5, [.null, .null, .ref q8, .int (-1), .int 0, .int 0, .int 0, .int 0, .int 0, .null, .int 0])), (q8, .inl (wd.2.1, 4096, .inl (fun _ => 0))), (q19, .inr (0, [.null, .int 0, .int 0, .int 0]))] := hD
  refine lv_dup hx hb dk_5_init_22 rfl ?_
  have hPc := hP.sub (ws' := [(q19, .inr (0, [.null, .int 0, .int 0, .int 0]))]) [2] rfl
  have hDc := hD.sub (ws' := [(q19, .inr (0, [.null, .int 0, .int 0, .int 0]))]) [2] (by decide) rfl
  have hFc := va_free (wc := [(q19, .inr (0, [.null, .int 0, .int 0, .int 0]))]) hD hS hA [2] rfl
  refine va_callv (va_runIN (As := []) (rest := [.ref q19, .ref h0]) ⟨hx, hb, hml, hown, hts⟩ (k_0_init l wd q19 H.size) ⟨va_cnB (host := "StarHide") 0 hts (sy_good y_0_init c_0_init 1 none (sy_inx 130 (by decide +kernel) (by decide +kernel))) rfl rfl rfl (hKK.2.2 _ (by decide +kernel)) (hts (.initialized y_0_init.cls) (sy_inx 49 (by decide +kernel) (by decide +kernel))) (by decide +kernel) ⟨by decide, by decide⟩, rfl, (hts (.instanceMethod y_0_init) (sy_inx 129 (by decide +kernel) (by decide +kernel)))⟩ ⟨sk_blind, fun U hU hW => ⟨rfl, by rw [hU], by rw [hU]; exact hPc, sk_K_warm hW hKK, hDc.weaken (fun _ _ _ _ => trivial)⟩⟩ rfl rfl hl.1 rfl (lv_room (Nat.le_of_ble_eq_true rfl)) dk_5_init_23 ⟨by decide, by decide⟩) hS (fun q _ h => hFc q h) hFc (fun u23 t H1 locs ht hvm _ hB hz1 hk1 hS => ?_)
  obtain ⟨hP1, hD1⟩ := hB
  rw [ht] at hP1
  obtain ⟨hP, hD⟩ := va_join (wr := [(h0, .inr (5, [.null, .null, .ref q8, .int (-1), .int 0, .int 0, .int 0, .int 0, .int 0, .null, .int 0])), (q8, .inl (wd.2.1, 4096, .inl (fun _ => 0)))]) (w1 := [(q19, .inr (0, [.ref (u23 0), .int 0, .int 0, .int 0])), ((u23 0), .inl (wd.2.1, 102, .inl (fun _ => 0)))]) hP hD [2] [0, 1] rfl rfl (by decide) (by decide) hk1 hFc hP1 hD1
  generalize H1 = H at hP hS ⊢
  have hP : va_P wd.1 sy_cl [(h0, .inr (5, [.null, .null, .ref q8, .int (-1), .int 0, .int 0, .int 0, .int 0, .int 0, .null, .int 0])), (q8, .inl (wd.2.1, 4096, .inl (fun _ => 0))), (q19, .inr (0, [.ref (u23 0), .int 0, .int 0, .int 0])), ((u23 0), .inl (wd.2.1, 102, .inl (fun _ => 0)))] H := hP
  have hD : va_D A [(h0, .inr (5, [.null, .null, .ref q8, .int (-1), .int 0, .int 0, .int 0, .int 0, .int 0, .null, .int 0])), (q8, .inl (wd.2.1, 4096, .inl (fun _ => 0))), (q19, .inr (0, [.ref (u23 0), .int 0, .int 0, .int 0])), ((u23 0), .inl (wd.2.1, 102, .inl (fun _ => 0)))] := hD
  refine va_putF (D := wd.1) (ci := 5) (v := .ref q19) (ty := .object "StarHide$Clocks") (C := R_5) (T := F_5) (N := 11) hx hb hts i_5 t_5 t_5_ok n_5 hown hK hP hD hS 0 rfl rfl 9 (by decide) (hts (.fieldLink R_5 24 "StarHide$Search" "clocks" "LStarHide$Clocks;") (sy_inx 157 (by decide +kernel) (by decide +kernel))) (fun _ h9 => h9) rfl hin rfl (by decide +kernel) rfl rfl (sk_lt rfl) dk_5_init_26 (fun H locs hP hD hS => ?_)
  have hP : va_P wd.1 sy_cl [(h0, .inr (5, [.null, .null, .ref q8, .int (-1), .int 0, .int 0, .int 0, .int 0, .int 0, .ref q19, .int 0])), (q8, .inl (wd.2.1, 4096, .inl (fun _ => 0))), (q19, .inr (0, [.ref (u23 0), .int 0, .int 0, .int 0])), ((u23 0), .inl (wd.2.1, 102, .inl (fun _ => 0)))] H := hP
  have hD : va_D A [(h0, .inr (5, [.null, .null, .ref q8, .int (-1), .int 0, .int 0, .int 0, .int 0, .int 0, .ref q19, .int 0])), (q8, .inl (wd.2.1, 4096, .inl (fun _ => 0))), (q19, .inr (0, [.ref (u23 0), .int 0, .int 0, .int 0])), ((u23 0), .inl (wd.2.1, 102, .inl (fun _ => 0)))] := hD
  refine lv_aload_n hx hb dk_5_init_29 rfl (lv_at hl 0 rfl) ?_
  refine lv_iconst hx hb dk_5_init_30 (v := (-1)) rfl ?_
  refine va_put (D := wd.1) (ci := 5) (v := .int (-1)) (ty := .int) (C := R_5) (T := F_5) (N := 11) hx hb hts i_5 t_5 t_5_ok n_5 hown hK hP hD hS 0 rfl rfl 10 (by decide) (hts (.fieldLink R_5 28 "StarHide$Search" "clocksOf" "I") (sy_inx 158 (by decide +kernel) (by decide +kernel))) (fun _ h9 => h9) rfl (by decide +kernel) rfl rfl (sk_lt rfl) dk_5_init_31 (fun H locs hP hD hS => ?_)
  have hP : va_P wd.1 sy_cl [(h0, .inr (5, [.null, .null, .ref q8, .int (-1), .int 0, .int 0, .int 0, .int 0, .int 0, .ref q19, .int (-1)])), (q8, .inl (wd.2.1, 4096, .inl (fun _ => 0))), (q19, .inr (0, [.ref (u23 0), .int 0, .int 0, .int 0])), ((u23 0), .inl (wd.2.1, 102, .inl (fun _ => 0)))] H := hP
  have hD : va_D A [(h0, .inr (5, [.null, .null, .ref q8, .int (-1), .int 0, .int 0, .int 0, .int 0, .int 0, .ref q19, .int (-1)])), (q8, .inl (wd.2.1, 4096, .inl (fun _ => 0))), (q19, .inr (0, [.ref (u23 0), .int 0, .int 0, .int 0])), ((u23 0), .inl (wd.2.1, 102, .inl (fun _ => 0)))] := hD
  refine lv_aload_n hx hb dk_5_init_34 rfl (lv_at hl 0 rfl) ?_
  refine lv_aload_n hx hb dk_5_init_35 rfl (lv_at hl 1 rfl) ?_
  refine va_putF (D := wd.1) (ci := 5) (v := .ref a1) (ty := .object "StarHide$Sites") (C := R_5) (T := F_5) (N := 11) hx hb hts i_5 t_5 t_5_ok n_5 hown hK hP hD hS 0 rfl rfl 0 (by decide) (hts (.fieldLink R_5 31 "StarHide$Search" "sites" "LStarHide$Sites;") (sy_inx 148 (by decide +kernel) (by decide +kernel))) (fun _ h9 => h9) rfl hin rfl (by decide +kernel) rfl rfl (sk_lt rfl) dk_5_init_36 (fun H locs hP hD hS => ?_)
  have hP : va_P wd.1 sy_cl [(h0, .inr (5, [.ref a1, .null, .ref q8, .int (-1), .int 0, .int 0, .int 0, .int 0, .int 0, .ref q19, .int (-1)])), (q8, .inl (wd.2.1, 4096, .inl (fun _ => 0))), (q19, .inr (0, [.ref (u23 0), .int 0, .int 0, .int 0])), ((u23 0), .inl (wd.2.1, 102, .inl (fun _ => 0)))] H := hP
  have hD : va_D A [(h0, .inr (5, [.ref a1, .null, .ref q8, .int (-1), .int 0, .int 0, .int 0, .int 0, .int 0, .ref q19, .int (-1)])), (q8, .inl (wd.2.1, 4096, .inl (fun _ => 0))), (q19, .inr (0, [.ref (u23 0), .int 0, .int 0, .int 0])), ((u23 0), .inl (wd.2.1, 102, .inl (fun _ => 0)))] := hD
  refine lv_aload_n hx hb dk_5_init_39 rfl (lv_at hl 0 rfl) ?_
  refine lv_aload_n hx hb dk_5_init_40 rfl (lv_at hl 2 rfl) ?_
  refine va_putF (D := wd.1) (ci := 5) (v := .ref a2) (ty := .object "StarHide$Net") (C := R_5) (T := F_5) (N := 11) hx hb hts i_5 t_5 t_5_ok n_5 hown hK hP hD hS 0 rfl rfl 1 (by decide) (hts (.fieldLink R_5 35 "StarHide$Search" "mesh" "LStarHide$Net;") (sy_inx 149 (by decide +kernel) (by decide +kernel))) (fun _ h9 => h9) rfl hin rfl (by decide +kernel) rfl rfl (sk_lt rfl) dk_5_init_41 (fun H locs hP hD hS => ?_)
  have hP : va_P wd.1 sy_cl [(h0, .inr (5, [.ref a1, .ref a2, .ref q8, .int (-1), .int 0, .int 0, .int 0, .int 0, .int 0, .ref q19, .int (-1)])), (q8, .inl (wd.2.1, 4096, .inl (fun _ => 0))), (q19, .inr (0, [.ref (u23 0), .int 0, .int 0, .int 0])), ((u23 0), .inl (wd.2.1, 102, .inl (fun _ => 0)))] H := hP
  have hD : va_D A [(h0, .inr (5, [.ref a1, .ref a2, .ref q8, .int (-1), .int 0, .int 0, .int 0, .int 0, .int 0, .ref q19, .int (-1)])), (q8, .inl (wd.2.1, 4096, .inl (fun _ => 0))), (q19, .inr (0, [.ref (u23 0), .int 0, .int 0, .int 0])), ((u23 0), .inl (wd.2.1, 102, .inl (fun _ => 0)))] := hD
  refine W.widen (k := 3) (n := 4202) (by decide) (by decide) ?_
  subst hAe
  exact W.vret hx hb hr (fun t ht hW => ⟨⟨(fun k => match k with | 0 => q8 | 1 => q19 | 2 => (u23 0) | _ => 0), rfl, trivial, by rw [ht]; exact hP, hD⟩, hS.F ht⟩) hS.2.2 dk_5_init_44 hlk
