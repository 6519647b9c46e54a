/-! MAKERS -/
theorem dk_0_init_0 : decode c_0_init 0 = .ok (.aload_n 0, 1) := by decide +kernel
theorem dk_0_init_1 : decode c_0_init 1 = .ok (.invokespecial 3, 3) := by decide +kernel
theorem dk_0_init_4 : decode c_0_init 4 = .ok (.aload_n 0, 1) := by decide +kernel
theorem dk_0_init_5 : decode c_0_init 5 = .ok (.bipush 102, 2) := by decide +kernel
theorem dk_0_init_7 : decode c_0_init 7 = .ok (.newarray .int, 2) := by decide +kernel
theorem dk_0_init_9 : decode c_0_init 9 = .ok (.putfield 9, 3) := by decide +kernel
theorem dk_0_init_12 : decode c_0_init 12 = .ok (.return_, 1) := by decide +kernel
abbrev rk_0_init : Room := { frames := 1, cells := 1, slots := 102, locals := 12 }
set_option maxHeartbeats 4000000 in
set_option maxRecDepth 100000 in
theorem k_0_init (l : Launch) (wd : sy_D) (h0 : Nat)  : sk_Met l y_0_init c_0_init 1 rk_0_init wd [.ref h0] [(h0, .inr (0, [.null, .int 0, .int 0, .int 0]))] (fun u => [(h0, .inr (0, [.ref (u 0), .int 0, .int 0, .int 0])), ((u 0), .inl (wd.2.1, 102, .inl (fun _ => 0)))]) := by
  refine sk_of (by decide +kernel) (Nat.le_of_ble_eq_true rfl) ?_
  intro p e s m below meth c ls A hAe hXX hP hD hl
  obtain ⟨hx, hb, hml, hown, hts, hr, hnm, hlk, hKK⟩ := hXX
  have hK := hKK.1
  have hin : meth.name = "<init>" := hnm
  have hA : ∀ q : Nat, s.heap.size ≤ q → A q := fun q h => by rw [hAe]; exact Or.inr h
  have hS : va_S A s.heap s.heap [] := va_S.rf
  have hown : s.vm.findClass R_0 = some m.cls := hown
  have hl : lv_has ls 1 [(0, .ref h0)] := hl
  refine lv_aload_n hx hb dk_0_init_0 rfl (lv_at hl 0 rfl) ?_
  refine W.objInit hx hb hown (hts (.methodLink R_0 3 objectInit) (sy_inx 131 (by decide +kernel) (by decide +kernel))) (hts (.instanceMethod objectInit) (sy_inx 63 (by decide +kernel) (by decide +kernel))) (hts (.code objectInit ⟨#[0xb1]⟩ 1 none) (sy_inx 64 (by decide +kernel) (by decide +kernel))) rfl (by rw [hml]; exact hl.1) rfl dk_0_init_1 (Nat.le_of_ble_eq_true rfl) (Nat.le_of_ble_eq_true rfl) ?_
  refine W.eq (g2 := F0 m 4 ls []) rfl ?_
  refine lv_aload_n hx hb dk_0_init_4 rfl (lv_at hl 0 rfl) ?_
  refine lv_bipush hx hb dk_0_init_5 (v := 102) rfl ?_
  refine sk_newi hx hb (hts (.arrayClass .int) (sy_inx 119 (by decide +kernel) (by decide +kernel))) hK hP hD hS hA (N := 102) (by decide) (by decide) (by decide) (by decide) (by decide) dk_0_init_7 (fun q7 H hP hD hS => ?_)
  have hP : va_P wd.1 sy_cl [(h0, .inr (0, [.null, .int 0, .int 0, .int 0])), (q7, .inl (wd.2.1, 102, .inl (fun _ => 0)))] H := hP
  have hD : va_D A [(h0, .inr (0, [.null, .int 0, .int 0, .int 0])), (q7, .inl (wd.2.1, 102, .inl (fun _ => 0)))] := hD
  refine va_putF (D := wd.1) (ci := 0) (v := .ref q7) (ty := .array .int) (C := R_0) (T := F_0) (N := 4) hx hb hts i_0 t_0 t_0_ok n_0 hown hK hP hD hS 0 rfl rfl 0 (by decide) (hts (.fieldLink R_0 9 "StarHide$Clocks" "rises" "[I") (sy_inx 132 (by decide +kernel) (by decide +kernel))) (fun _ h9 => h9) rfl hin rfl (by decide +kernel) rfl rfl (sk_lt rfl) dk_0_init_9 (fun H locs hP hD hS => ?_)
  have hP : va_P wd.1 sy_cl [(h0, .inr (0, [.ref q7, .int 0, .int 0, .int 0])), (q7, .inl (wd.2.1, 102, .inl (fun _ => 0)))] H := hP
  have hD : va_D A [(h0, .inr (0, [.ref q7, .int 0, .int 0, .int 0])), (q7, .inl (wd.2.1, 102, .inl (fun _ => 0)))] := hD
  refine W.widen (k := 1) (n := 102) (by decide) (by decide) ?_
  subst hAe
  exact W.vret hx hb hr (fun t ht hW => ⟨⟨(fun k => match k with | 0 => q7 | _ => 0), rfl, trivial, by rw [ht]; exact hP, hD⟩, hS.F ht⟩) hS.2.2 dk_0_init_12 hlk

theorem dk_1_init_0 : decode c_1_init 0 = .ok (.aload_n 0, 1) := by decide +kernel
theorem dk_1_init_1 : decode c_1_init 1 = .ok (.invokespecial 3, 3) := by decide +kernel
theorem dk_1_init_4 : decode c_1_init 4 = .ok (.aload_n 0, 1) := by decide +kernel
theorem dk_1_init_5 : decode c_1_init 5 = .ok (.bipush 10, 2) := by decide +kernel
theorem dk_1_init_7 : decode c_1_init 7 = .ok (.newarray .int, 2) := by decide +kernel
theorem dk_1_init_9 : decode c_1_init 9 = .ok (.putfield 11, 3) := by decide +kernel
theorem dk_1_init_12 : decode c_1_init 12 = .ok (.aload_n 0, 1) := by decide +kernel
theorem dk_1_init_13 : decode c_1_init 13 = .ok (.bipush 10, 2) := by decide +kernel
theorem dk_1_init_15 : decode c_1_init 15 = .ok (.newarray .int, 2) := by decide +kernel
theorem dk_1_init_17 : decode c_1_init 17 = .ok (.putfield 15, 3) := by decide +kernel
theorem dk_1_init_20 : decode c_1_init 20 = .ok (.aload_n 0, 1) := by decide +kernel
theorem dk_1_init_21 : decode c_1_init 21 = .ok (.bipush 10, 2) := by decide +kernel
theorem dk_1_init_23 : decode c_1_init 23 = .ok (.newarray .int, 2) := by decide +kernel
theorem dk_1_init_25 : decode c_1_init 25 = .ok (.putfield 18, 3) := by decide +kernel
theorem dk_1_init_28 : decode c_1_init 28 = .ok (.aload_n 0, 1) := by decide +kernel
theorem dk_1_init_29 : decode c_1_init 29 = .ok (.bipush 10, 2) := by decide +kernel
theorem dk_1_init_31 : decode c_1_init 31 = .ok (.putfield 21, 3) := by decide +kernel
theorem dk_1_init_34 : decode c_1_init 34 = .ok (.aload_n 0, 1) := by decide +kernel
theorem dk_1_init_35 : decode c_1_init 35 = .ok (.aload_n 1, 1) := by decide +kernel
theorem dk_1_init_36 : decode c_1_init 36 = .ok (.putfield 25, 3) := by decide +kernel
theorem dk_1_init_39 : decode c_1_init 39 = .ok (.return_, 1) := by decide +kernel
abbrev rk_1_init : Room := { frames := 1, cells := 3, slots := 30, locals := 12 }
set_option maxHeartbeats 4000000 in
set_option maxRecDepth 100000 in
theorem k_1_init (l : Launch) (wd : sy_D) (h0 : Nat) (a1 : Nat) : sk_Met l y_1_init c_1_init 2 rk_1_init wd [.ref h0, .ref a1] [(h0, .inr (1, [.null, .null, .null, .null, .int 0, .int 0]))] (fun u => [(h0, .inr (1, [.ref a1, .ref (u 0), .ref (u 1), .ref (u 2), .int 0, .int 10])), ((u 0), .inl (wd.2.1, 10, .inl (fun _ => 0))), ((u 1), .inl (wd.2.1, 10, .inl (fun _ => 0))), ((u 2), .inl (wd.2.1, 10, .inl (fun _ => 0)))]) := by
  refine sk_of (by decide +kernel) (Nat.le_of_ble_eq_true rfl) ?_
  intro p e s m below meth c ls A hAe hXX hP hD hl
  obtain ⟨hx, hb, hml, hown, hts, hr, hnm, hlk, hKK⟩ := hXX
  have hK := hKK.1
  have hin : meth.name = "<init>" := hnm
  have hA : ∀ q : Nat, s.heap.size ≤ q → A q := fun q h => by rw [hAe]; exact Or.inr h
  have hS : va_S A s.heap s.heap [] := va_S.rf
  have hown : s.vm.findClass R_1 = some m.cls := hown
  have hl : lv_has ls 2 [(0, .ref h0), (1, .ref a1)] := hl
  refine lv_aload_n hx hb dk_1_init_0 rfl (lv_at hl 0 rfl) ?_
  refine W.objInit hx hb hown (hts (.methodLink R_1 3 objectInit) (sy_inx 215 (by decide +kernel) (by decide +kernel))) (hts (.instanceMethod objectInit) (sy_inx 63 (by decide +kernel) (by decide +kernel))) (hts (.code objectInit ⟨#[0xb1]⟩ 1 none) (sy_inx 64 (by decide +kernel) (by decide +kernel))) rfl (by rw [hml]; exact hl.1) rfl dk_1_init_1 (Nat.le_of_ble_eq_true rfl) (Nat.le_of_ble_eq_true rfl) ?_
  refine W.eq (g2 := F0 m 4 ls []) rfl ?_
  refine lv_aload_n hx hb dk_1_init_4 rfl (lv_at hl 0 rfl) ?_
  refine lv_bipush hx hb dk_1_init_5 (v := 10) rfl ?_
  refine sk_newi hx hb (hts (.arrayClass .int) (sy_inx 119 (by decide +kernel) (by decide +kernel))) hK hP hD hS hA (N := 10) (by decide) (by decide) (by decide) (by decide) (by decide) dk_1_init_7 (fun q7 H hP hD hS => ?_)
  have hP : va_P wd.1 sy_cl [(h0, .inr (1, [.null, .null, .null, .null, .int 0, .int 0])), (q7, .inl (wd.2.1, 10, .inl (fun _ => 0)))] H := hP
  have hD : va_D A [(h0, .inr (1, [.null, .null, .null, .null, .int 0, .int 0])), (q7, .inl (wd.2.1, 10, .inl (fun _ => 0)))] := hD
  refine va_putF (D := wd.1) (ci := 1) (v := .ref q7) (ty := .array .int) (C := R_1) (T := F_1) (N := 6) hx hb hts i_1 t_1 t_1_ok n_1 hown hK hP hD hS 0 rfl rfl 1 (by decide) (hts (.fieldLink R_1 11 "StarHide$Dips" "where" "[I") (sy_inx 217 (by decide +kernel) (by decide +kernel))) (fun _ h9 => h9) rfl hin rfl (by decide +kernel) rfl rfl (sk_lt rfl) dk_1_init_9 (fun H locs hP hD hS => ?_)
  have hP : va_P wd.1 sy_cl [(h0, .inr (1, [.null, .ref q7, .null, .null, .int 0, .int 0])), (q7, .inl (wd.2.1, 10, .inl (fun _ => 0)))] H := hP
  have hD : va_D A [(h0, .inr (1, [.null, .ref q7, .null, .null, .int 0, .int 0])), (q7, .inl (wd.2.1, 10, .inl (fun _ => 0)))] := hD
  refine lv_aload_n hx hb dk_1_init_12 rfl (lv_at hl 0 rfl) ?_
  refine lv_bipush hx hb dk_1_init_13 (v := 10) rfl ?_
  refine sk_newi hx hb (hts (.arrayClass .int) (sy_inx 119 (by decide +kernel) (by decide +kernel))) hK hP hD hS hA (N := 10) (by decide) (by decide) (by decide) (by decide) (by decide) dk_1_init_15 (fun q15 H hP hD hS => ?_)
  have hP : va_P wd.1 sy_cl [(h0, .inr (1, [.null, .ref q7, .null, .null, .int 0, .int 0])), (q7, .inl (wd.2.1, 10, .inl (fun _ => 0))), (q15, .inl (wd.2.1, 10, .inl (fun _ => 0)))] H := hP
  have hD : va_D A [(h0, .inr (1, [.null, .ref q7, .null, .null, .int 0, .int 0])), (q7, .inl (wd.2.1, 10, .inl (fun _ => 0))), (q15, .inl (wd.2.1, 10, .inl (fun _ => 0)))] := hD
  refine va_putF (D := wd.1) (ci := 1) (v := .ref q15) (ty := .array .int) (C := R_1) (T := F_1) (N := 6) hx hb hts i_1 t_1 t_1_ok n_1 hown hK hP hD hS 0 rfl rfl 2 (by decide) (hts (.fieldLink R_1 15 "StarHide$Dips" "start" "[I") (sy_inx 218 (by decide +kernel) (by decide +kernel))) (fun _ h9 => h9) rfl hin rfl (by decide +kernel) rfl rfl (sk_lt rfl) dk_1_init_17 (fun H locs hP hD hS => ?_)
  have hP : va_P wd.1 sy_cl [(h0, .inr (1, [.null, .ref q7, .ref q15, .null, .int 0, .int 0])), (q7, .inl (wd.2.1, 10, .inl (fun _ => 0))), (q15, .inl (wd.2.1, 10, .inl (fun _ => 0)))] H := hP
  have hD : va_D A [(h0, .inr (1, [.null, .ref q7, .ref q15, .null, .int 0, .int 0])), (q7, .inl (wd.2.1, 10, .inl (fun _ => 0))), (q15, .inl (wd.2.1, 10, .inl (fun _ => 0)))] := hD
  refine lv_aload_n hx hb dk_1_init_20 rfl (lv_at hl 0 rfl) ?_
  refine lv_bipush hx hb dk_1_init_21 (v := 10) rfl ?_
  refine sk_newi hx hb (hts (.arrayClass .int) (sy_inx 119 (by decide +kernel) (by decide +kernel))) hK hP hD hS hA (N := 10) (by decide) (by decide) (by decide) (by decide) (by decide) dk_1_init_23 (fun q23 H hP hD hS => ?_)
  have hP : va_P wd.1 sy_cl [(h0, .inr (1, [.null, .ref q7, .ref q15, .null, .int 0, .int 0])), (q7, .inl (wd.2.1, 10, .inl (fun _ => 0))), (q15, .inl (wd.2.1, 10, .inl (fun _ => 0))), (q23, .inl (wd.2.1, 10, .inl (fun _ => 0)))] H := hP
  have hD : va_D A [(h0, .inr (1, [.null, .ref q7, .ref q15, .null, .int 0, .int 0])), (q7, .inl (wd.2.1, 10, .inl (fun _ => 0))), (q15, .inl (wd.2.1, 10, .inl (fun _ => 0))), (q23, .inl (wd.2.1, 10, .inl (fun _ => 0)))] := hD
  refine va_putF (D := wd.1) (ci := 1) (v := .ref q23) (ty := .array .int) (C := R_1) (T := F_1) (N := 6) hx hb hts i_1 t_1 t_1_ok n_1 hown hK hP hD hS 0 rfl rfl 3 (by decide) (hts (.fieldLink R_1 18 "StarHide$Dips" "end" "[I") (sy_inx 219 (by decide +kernel) (by decide +kernel))) (fun _ h9 => h9) rfl hin rfl (by decide +kernel) rfl rfl (sk_lt rfl) dk_1_init_25 (fun H locs hP hD hS => ?_)
  have hP : va_P wd.1 sy_cl [(h0, .inr (1, [.null, .ref q7, .ref q15, .ref q23, .int 0, .int 0])), (q7, .inl (wd.2.1, 10, .inl (fun _ => 0))), (q15, .inl (wd.2.1, 10, .inl (fun _ => 0))), (q23, .inl (wd.2.1, 10, .inl (fun _ => 0)))] H := hP
  have hD : va_D A [(h0, .inr (1, [.null, .ref q7, .ref q15, .ref q23, .int 0, .int 0])), (q7, .inl (wd.2.1, 10, .inl (fun _ => 0))), (q15, .inl (wd.2.1, 10, .inl (fun _ => 0))), (q23, .inl (wd.2.1, 10, .inl (fun _ => 0)))] := hD
  refine lv_aload_n hx hb dk_1_init_28 rfl (lv_at hl 0 rfl) ?_
  refine lv_bipush hx hb dk_1_init_29 (v := 10) rfl ?_
  refine va_put (D := wd.1) (ci := 1) (v := .int 10) (ty := .int) (C := R_1) (T := F_1) (N := 6) hx hb hts i_1 t_1 t_1_ok n_1 hown hK hP hD hS 0 rfl rfl 5 (by decide) (hts (.fieldLink R_1 21 "StarHide$Dips" "slack" "I") (sy_inx 222 (by decide +kernel) (by decide +kernel))) (fun _ h9 => h9) rfl (by decide +kernel) rfl rfl (sk_lt rfl) dk_1_init_31 (fun H locs hP hD hS => ?_)
  have hP : va_P wd.1 sy_cl [(h0, .inr (1, [.null, .ref q7, .ref q15, .ref q23, .int 0, .int 10])), (q7, .inl (wd.2.1, 10, .inl (fun _ => 0))), (q15, .inl (wd.2.1, 10, .inl (fun _ => 0))), (q23, .inl (wd.2.1, 10, .inl (fun _ => 0)))] H := hP
  have hD : va_D A [(h0, .inr (1, [.null, .ref q7, .ref q15, .ref q23, .int 0, .int 10])), (q7, .inl (wd.2.1, 10, .inl (fun _ => 0))), (q15, .inl (wd.2.1, 10, .inl (fun _ => 0))), (q23, .inl (wd.2.1, 10, .inl (fun _ => 0)))] := hD
  refine lv_aload_n hx hb dk_1_init_34 rfl (lv_at hl 0 rfl) ?_
  refine lv_aload_n hx hb dk_1_init_35 rfl (lv_at hl 1 rfl) ?_
  refine va_putF (D := wd.1) (ci := 1) (v := .ref a1) (ty := .object "StarHide$Sites") (C := R_1) (T := F_1) (N := 6) hx hb hts i_1 t_1 t_1_ok n_1 hown hK hP hD hS 0 rfl rfl 0 (by decide) (hts (.fieldLink R_1 25 "StarHide$Dips" "sites" "LStarHide$Sites;") (sy_inx 216 (by decide +kernel) (by decide +kernel))) (fun _ h9 => h9) rfl hin rfl (by decide +kernel) rfl rfl (sk_lt rfl) dk_1_init_36 (fun H locs hP hD hS => ?_)
  have hP : va_P wd.1 sy_cl [(h0, .inr (1, [.ref a1, .ref q7, .ref q15, .ref q23, .int 0, .int 10])), (q7, .inl (wd.2.1, 10, .inl (fun _ => 0))), (q15, .inl (wd.2.1, 10, .inl (fun _ => 0))), (q23, .inl (wd.2.1, 10, .inl (fun _ => 0)))] H := hP
  have hD : va_D A [(h0, .inr (1, [.ref a1, .ref q7, .ref q15, .ref q23, .int 0, .int 10])), (q7, .inl (wd.2.1, 10, .inl (fun _ => 0))), (q15, .inl (wd.2.1, 10, .inl (fun _ => 0))), (q23, .inl (wd.2.1, 10, .inl (fun _ => 0)))] := hD
  refine W.widen (k := 3) (n := 30) (by decide) (by decide) ?_
  subst hAe
  exact W.vret hx hb hr (fun t ht hW => ⟨⟨(fun k => match k with | 0 => q7 | 1 => q15 | 2 => q23 | _ => 0), rfl, trivial, by rw [ht]; exact hP, hD⟩, hS.F ht⟩) hS.2.2 dk_1_init_39 hlk

theorem dk_2_init_0 : decode c_2_init 0 = .ok (.aload_n 0, 1) := by decide +kernel
theorem dk_2_init_1 : decode c_2_init 1 = .ok (.invokespecial 3, 3) := by decide +kernel
theorem dk_2_init_4 : decode c_2_init 4 = .ok (.aload_n 0, 1) := by decide +kernel
theorem dk_2_init_5 : decode c_2_init 5 = .ok (.bipush 32, 2) := by decide +kernel
theorem dk_2_init_7 : decode c_2_init 7 = .ok (.newarray .int, 2) := by decide +kernel
theorem dk_2_init_9 : decode c_2_init 9 = .ok (.putfield 11, 3) := by decide +kernel
theorem dk_2_init_12 : decode c_2_init 12 = .ok (.aload_n 0, 1) := by decide +kernel
theorem dk_2_init_13 : decode c_2_init 13 = .ok (.bipush 32, 2) := by decide +kernel
theorem dk_2_init_15 : decode c_2_init 15 = .ok (.newarray .int, 2) := by decide +kernel
theorem dk_2_init_17 : decode c_2_init 17 = .ok (.putfield 15, 3) := by decide +kernel
theorem dk_2_init_20 : decode c_2_init 20 = .ok (.aload_n 0, 1) := by decide +kernel
theorem dk_2_init_21 : decode c_2_init 21 = .ok (.bipush 32, 2) := by decide +kernel
theorem dk_2_init_23 : decode c_2_init 23 = .ok (.newarray .int, 2) := by decide +kernel
theorem dk_2_init_25 : decode c_2_init 25 = .ok (.putfield 18, 3) := by decide +kernel
theorem dk_2_init_28 : decode c_2_init 28 = .ok (.aload_n 0, 1) := by decide +kernel
theorem dk_2_init_29 : decode c_2_init 29 = .ok (.aload_n 1, 1) := by decide +kernel
theorem dk_2_init_30 : decode c_2_init 30 = .ok (.putfield 21, 3) := by decide +kernel
theorem dk_2_init_33 : decode c_2_init 33 = .ok (.return_, 1) := by decide +kernel
abbrev rk_2_init : Room := { frames := 1, cells := 3, slots := 96, locals := 12 }
set_option maxHeartbeats 4000000 in
set_option maxRecDepth 100000 in
theorem k_2_init (l : Launch) (wd : sy_D) (h0 : Nat) (a1 : Nat) : sk_Met l y_2_init c_2_init 2 rk_2_init wd [.ref h0, .ref a1] [(h0, .inr (2, [.null, .null, .null, .int 0, .null, .int 0, .int 0]))] (fun u => [(h0, .inr (2, [.ref a1, .ref (u 0), .ref (u 1), .int 0, .ref (u 2), .int 0, .int 0])), ((u 0), .inl (wd.2.1, 32, .inl (fun _ => 0))), ((u 1), .inl (wd.2.1, 32, .inl (fun _ => 0))), ((u 2), .inl (wd.2.1, 32, .inl (fun _ => 0)))]) := by
  refine sk_of (by decide +kernel) (Nat.le_of_ble_eq_true rfl) ?_
  intro p e s m below meth c ls A hAe hXX hP hD hl
  obtain ⟨hx, hb, hml, hown, hts, hr, hnm, hlk, hKK⟩ := hXX
  have hK := hKK.1
  have hin : meth.name = "<init>" := hnm
  have hA : ∀ q : Nat, s.heap.size ≤ q → A q := fun q h => by rw [hAe]; exact Or.inr h
  have hS : va_S A s.heap s.heap [] := va_S.rf
  have hown : s.vm.findClass R_2 = some m.cls := hown
  have hl : lv_has ls 2 [(0, .ref h0), (1, .ref a1)] := hl
  refine lv_aload_n hx hb dk_2_init_0 rfl (lv_at hl 0 rfl) ?_
  refine W.objInit hx hb hown (hts (.methodLink R_2 3 objectInit) (sy_inx 187 (by decide +kernel) (by decide +kernel))) (hts (.instanceMethod objectInit) (sy_inx 63 (by decide +kernel) (by decide +kernel))) (hts (.code objectInit ⟨#[0xb1]⟩ 1 none) (sy_inx 64 (by decide +kernel) (by decide +kernel))) rfl (by rw [hml]; exact hl.1) rfl dk_2_init_1 (Nat.le_of_ble_eq_true rfl) (Nat.le_of_ble_eq_true rfl) ?_
  refine W.eq (g2 := F0 m 4 ls []) rfl ?_
  refine lv_aload_n hx hb dk_2_init_4 rfl (lv_at hl 0 rfl) ?_
  refine lv_bipush hx hb dk_2_init_5 (v := 32) rfl ?_
  refine sk_newi hx hb (hts (.arrayClass .int) (sy_inx 119 (by decide +kernel) (by decide +kernel))) hK hP hD hS hA (N := 32) (by decide) (by decide) (by decide) (by decide) (by decide) dk_2_init_7 (fun q7 H hP hD hS => ?_)
  have hP : va_P wd.1 sy_cl [(h0, .inr (2, [.null, .null, .null, .int 0, .null, .int 0, .int 0])), (q7, .inl (wd.2.1, 32, .inl (fun _ => 0)))] H := hP
  have hD : va_D A [(h0, .inr (2, [.null, .null, .null, .int 0, .null, .int 0, .int 0])), (q7, .inl (wd.2.1, 32, .inl (fun _ => 0)))] := hD
  refine va_putF (D := wd.1) (ci := 2) (v := .ref q7) (ty := .array .int) (C := R_2) (T := F_2) (N := 7) hx hb hts i_2 t_2 t_2_ok n_2 hown hK hP hD hS 0 rfl rfl 1 (by decide) (hts (.fieldLink R_2 11 "StarHide$Hull" "along" "[I") (sy_inx 189 (by decide +kernel) (by decide +kernel))) (fun _ h9 => h9) rfl hin rfl (by decide +kernel) rfl rfl (sk_lt rfl) dk_2_init_9 (fun H locs hP hD hS => ?_)
  have hP : va_P wd.1 sy_cl [(h0, .inr (2, [.null, .ref q7, .null, .int 0, .null, .int 0, .int 0])), (q7, .inl (wd.2.1, 32, .inl (fun _ => 0)))] H := hP
  have hD : va_D A [(h0, .inr (2, [.null, .ref q7, .null, .int 0, .null, .int 0, .int 0])), (q7, .inl (wd.2.1, 32, .inl (fun _ => 0)))] := hD
  refine lv_aload_n hx hb dk_2_init_12 rfl (lv_at hl 0 rfl) ?_
  refine lv_bipush hx hb dk_2_init_13 (v := 32) rfl ?_
  refine sk_newi hx hb (hts (.arrayClass .int) (sy_inx 119 (by decide +kernel) (by decide +kernel))) hK hP hD hS hA (N := 32) (by decide) (by decide) (by decide) (by decide) (by decide) dk_2_init_15 (fun q15 H hP hD hS => ?_)
  have hP : va_P wd.1 sy_cl [(h0, .inr (2, [.null, .ref q7, .null, .int 0, .null, .int 0, .int 0])), (q7, .inl (wd.2.1, 32, .inl (fun _ => 0))), (q15, .inl (wd.2.1, 32, .inl (fun _ => 0)))] H := hP
  have hD : va_D A [(h0, .inr (2, [.null, .ref q7, .null, .int 0, .null, .int 0, .int 0])), (q7, .inl (wd.2.1, 32, .inl (fun _ => 0))), (q15, .inl (wd.2.1, 32, .inl (fun _ => 0)))] := hD
  refine va_putF (D := wd.1) (ci := 2) (v := .ref q15) (ty := .array .int) (C := R_2) (T := F_2) (N := 7) hx hb hts i_2 t_2 t_2_ok n_2 hown hK hP hD hS 0 rfl rfl 2 (by decide) (hts (.fieldLink R_2 15 "StarHide$Hull" "height" "[I") (sy_inx 190 (by decide +kernel) (by decide +kernel))) (fun _ h9 => h9) rfl hin rfl (by decide +kernel) rfl rfl (sk_lt rfl) dk_2_init_17 (fun H locs hP hD hS => ?_)
  have hP : va_P wd.1 sy_cl [(h0, .inr (2, [.null, .ref q7, .ref q15, .int 0, .null, .int 0, .int 0])), (q7, .inl (wd.2.1, 32, .inl (fun _ => 0))), (q15, .inl (wd.2.1, 32, .inl (fun _ => 0)))] H := hP
  have hD : va_D A [(h0, .inr (2, [.null, .ref q7, .ref q15, .int 0, .null, .int 0, .int 0])), (q7, .inl (wd.2.1, 32, .inl (fun _ => 0))), (q15, .inl (wd.2.1, 32, .inl (fun _ => 0)))] := hD
  refine lv_aload_n hx hb dk_2_init_20 rfl (lv_at hl 0 rfl) ?_
  refine lv_bipush hx hb dk_2_init_21 (v := 32) rfl ?_
  refine sk_newi hx hb (hts (.arrayClass .int) (sy_inx 119 (by decide +kernel) (by decide +kernel))) hK hP hD hS hA (N := 32) (by decide) (by decide) (by decide) (by decide) (by decide) dk_2_init_23 (fun q23 H hP hD hS => ?_)
  have hP : va_P wd.1 sy_cl [(h0, .inr (2, [.null, .ref q7, .ref q15, .int 0, .null, .int 0, .int 0])), (q7, .inl (wd.2.1, 32, .inl (fun _ => 0))), (q15, .inl (wd.2.1, 32, .inl (fun _ => 0))), (q23, .inl (wd.2.1, 32, .inl (fun _ => 0)))] H := hP
  have hD : va_D A [(h0, .inr (2, [.null, .ref q7, .ref q15, .int 0, .null, .int 0, .int 0])), (q7, .inl (wd.2.1, 32, .inl (fun _ => 0))), (q15, .inl (wd.2.1, 32, .inl (fun _ => 0))), (q23, .inl (wd.2.1, 32, .inl (fun _ => 0)))] := hD
  refine va_putF (D := wd.1) (ci := 2) (v := .ref q23) (ty := .array .int) (C := R_2) (T := F_2) (N := 7) hx hb hts i_2 t_2 t_2_ok n_2 hown hK hP hD hS 0 rfl rfl 4 (by decide) (hts (.fieldLink R_2 18 "StarHide$Hull" "corners" "[I") (sy_inx 192 (by decide +kernel) (by decide +kernel))) (fun _ h9 => h9) rfl hin rfl (by decide +kernel) rfl rfl (sk_lt rfl) dk_2_init_25 (fun H locs hP hD hS => ?_)
  have hP : va_P wd.1 sy_cl [(h0, .inr (2, [.null, .ref q7, .ref q15, .int 0, .ref q23, .int 0, .int 0])), (q7, .inl (wd.2.1, 32, .inl (fun _ => 0))), (q15, .inl (wd.2.1, 32, .inl (fun _ => 0))), (q23, .inl (wd.2.1, 32, .inl (fun _ => 0)))] H := hP
  have hD : va_D A [(h0, .inr (2, [.null, .ref q7, .ref q15, .int 0, .ref q23, .int 0, .int 0])), (q7, .inl (wd.2.1, 32, .inl (fun _ => 0))), (q15, .inl (wd.2.1, 32, .inl (fun _ => 0))), (q23, .inl (wd.2.1, 32, .inl (fun _ => 0)))] := hD
  refine lv_aload_n hx hb dk_2_init_28 rfl (lv_at hl 0 rfl) ?_
  refine lv_aload_n hx hb dk_2_init_29 rfl (lv_at hl 1 rfl) ?_
  refine va_putF (D := wd.1) (ci := 2) (v := .ref a1) (ty := .object "StarHide$Sites") (C := R_2) (T := F_2) (N := 7) hx hb hts i_2 t_2 t_2_ok n_2 hown hK hP hD hS 0 rfl rfl 0 (by decide) (hts (.fieldLink R_2 21 "StarHide$Hull" "sites" "LStarHide$Sites;") (sy_inx 188 (by decide +kernel) (by decide +kernel))) (fun _ h9 => h9) rfl hin rfl (by decide +kernel) rfl rfl (sk_lt rfl) dk_2_init_30 (fun H locs hP hD hS => ?_)
  have hP : va_P wd.1 sy_cl [(h0, .inr (2, [.ref a1, .ref q7, .ref q15, .int 0, .ref q23, .int 0, .int 0])), (q7, .inl (wd.2.1, 32, .inl (fun _ => 0))), (q15, .inl (wd.2.1, 32, .inl (fun _ => 0))), (q23, .inl (wd.2.1, 32, .inl (fun _ => 0)))] H := hP
  have hD : va_D A [(h0, .inr (2, [.ref a1, .ref q7, .ref q15, .int 0, .ref q23, .int 0, .int 0])), (q7, .inl (wd.2.1, 32, .inl (fun _ => 0))), (q15, .inl (wd.2.1, 32, .inl (fun _ => 0))), (q23, .inl (wd.2.1, 32, .inl (fun _ => 0)))] := hD
  refine W.widen (k := 3) (n := 96) (by decide) (by decide) ?_
  subst hAe
  exact W.vret hx hb hr (fun t ht hW => ⟨⟨(fun k => match k with | 0 => q7 | 1 => q15 | 2 => q23 | _ => 0), rfl, trivial, by rw [ht]; exact hP, hD⟩, hS.F ht⟩) hS.2.2 dk_2_init_33 hlk

theorem dk_4_init_0 : decode c_4_init 0 = .ok (.aload_n 0, 1) := by decide +kernel
theorem dk_4_init_1 : decode c_4_init 1 = .ok (.invokespecial 3, 3) := by decide +kernel
theorem dk_4_init_4 : decode c_4_init 4 = .ok (.aload_n 0, 1) := by decide +kernel
theorem dk_4_init_5 : decode c_4_init 5 = .ok (.bipush 16, 2) := by decide +kernel
theorem dk_4_init_7 : decode c_4_init 7 = .ok (.newarray .int, 2) := by decide +kernel
theorem dk_4_init_9 : decode c_4_init 9 = .ok (.putfield 9, 3) := by decide +kernel
theorem dk_4_init_12 : decode c_4_init 12 = .ok (.aload_n 0, 1) := by decide +kernel
theorem dk_4_init_13 : decode c_4_init 13 = .ok (.bipush 16, 2) := by decide +kernel
theorem dk_4_init_15 : decode c_4_init 15 = .ok (.newarray .int, 2) := by decide +kernel
theorem dk_4_init_17 : decode c_4_init 17 = .ok (.putfield 15, 3) := by decide +kernel
theorem dk_4_init_20 : decode c_4_init 20 = .ok (.aload_n 0, 1) := by decide +kernel
theorem dk_4_init_21 : decode c_4_init 21 = .ok (.sipush 256, 3) := by decide +kernel
theorem dk_4_init_24 : decode c_4_init 24 = .ok (.newarray .int, 2) := by decide +kernel
theorem dk_4_init_26 : decode c_4_init 26 = .ok (.putfield 18, 3) := by decide +kernel
theorem dk_4_init_29 : decode c_4_init 29 = .ok (.aload_n 0, 1) := by decide +kernel
theorem dk_4_init_30 : decode c_4_init 30 = .ok (.bipush 16, 2) := by decide +kernel
theorem dk_4_init_32 : decode c_4_init 32 = .ok (.newarray .int, 2) := by decide +kernel
theorem dk_4_init_34 : decode c_4_init 34 = .ok (.putfield 21, 3) := by decide +kernel
theorem dk_4_init_37 : decode c_4_init 37 = .ok (.aload_n 0, 1) := by decide +kernel
theorem dk_4_init_38 : decode c_4_init 38 = .ok (.aload_n 1, 1) := by decide +kernel
theorem dk_4_init_39 : decode c_4_init 39 = .ok (.putfield 24, 3) := by decide +kernel
theorem dk_4_init_42 : decode c_4_init 42 = .ok (.return_, 1) := by decide +kernel
abbrev rk_4_init : Room := { frames := 1, cells := 4, slots := 304, locals := 12 }
set_option maxHeartbeats 4000000 in
set_option maxRecDepth 100000 in
theorem k_4_init (l : Launch) (wd : sy_D) (h0 : Nat) (a1 : Nat) : sk_Met l y_4_init c_4_init 2 rk_4_init wd [.ref h0, .ref a1] [(h0, .inr (4, [.null, .null, .null, .int 0, .null, .null, .int 0]))] (fun u => [(h0, .inr (4, [.ref a1, .ref (u 0), .ref (u 1), .int 0, .ref (u 2), .ref (u 3), .int 0])), ((u 0), .inl (wd.2.1, 16, .inl (fun _ => 0))), ((u 1), .inl (wd.2.1, 16, .inl (fun _ => 0))), ((u 2), .inl (wd.2.1, 256, .inl (fun _ => 0))), ((u 3), .inl (wd.2.1, 16, .inl (fun _ => 0)))]) := by
  refine sk_of (by decide +kernel) (Nat.le_of_ble_eq_true rfl) ?_
  intro p e s m below meth c ls A hAe hXX hP hD hl
  obtain ⟨hx, hb, hml, hown, hts, hr, hnm, hlk, hKK⟩ := hXX
  have hK := hKK.1
  have hin : meth.name = "<init>" := hnm
  have hA : ∀ q : Nat, s.heap.size ≤ q → A q := fun q h => by rw [hAe]; exact Or.inr h
  have hS : va_S A s.heap s.heap [] := va_S.rf
  have hown : s.vm.findClass R_4 = some m.cls := hown
  have hl : lv_has ls 2 [(0, .ref h0), (1, .ref a1)] := hl
  refine lv_aload_n hx hb dk_4_init_0 rfl (lv_at hl 0 rfl) ?_
  refine W.objInit hx hb hown (hts (.methodLink R_4 3 objectInit) (sy_inx 242 (by decide +kernel) (by decide +kernel))) (hts (.instanceMethod objectInit) (sy_inx 63 (by decide +kernel) (by decide +kernel))) (hts (.code objectInit ⟨#[0xb1]⟩ 1 none) (sy_inx 64 (by decide +kernel) (by decide +kernel))) rfl (by rw [hml]; exact hl.1) rfl dk_4_init_1 (Nat.le_of_ble_eq_true rfl) (Nat.le_of_ble_eq_true rfl) ?_
  refine W.eq (g2 := F0 m 4 ls []) rfl ?_
  refine lv_aload_n hx hb dk_4_init_4 rfl (lv_at hl 0 rfl) ?_
  refine lv_bipush hx hb dk_4_init_5 (v := 16) rfl ?_
  refine sk_newi hx hb (hts (.arrayClass .int) (sy_inx 119 (by decide +kernel) (by decide +kernel))) hK hP hD hS hA (N := 16) (by decide) (by decide) (by decide) (by decide) (by decide) dk_4_init_7 (fun q7 H hP hD hS => ?_)
  have hP : va_P wd.1 sy_cl [(h0, .inr (4, [.null, .null, .null, .int 0, .null, .null, .int 0])), (q7, .inl (wd.2.1, 16, .inl (fun _ => 0)))] H := hP
  have hD : va_D A [(h0, .inr (4, [.null, .null, .null, .int 0, .null, .null, .int 0])), (q7, .inl (wd.2.1, 16, .inl (fun _ => 0)))] := hD
  refine va_putF (D := wd.1) (ci := 4) (v := .ref q7) (ty := .array .int) (C := R_4) (T := F_4) (N := 7) hx hb hts i_4 t_4 t_4_ok n_4 hown hK hP hD hS 0 rfl rfl 1 (by decide) (hts (.fieldLink R_4 9 "StarHide$Planner" "order" "[I") (sy_inx 244 (by decide +kernel) (by decide +kernel))) (fun _ h9 => h9) rfl hin rfl (by decide +kernel) rfl rfl (sk_lt rfl) dk_4_init_9 (fun H locs hP hD hS => ?_)
  have hP : va_P wd.1 sy_cl [(h0, .inr (4, [.null, .ref q7, .null, .int 0, .null, .null, .int 0])), (q7, .inl (wd.2.1, 16, .inl (fun _ => 0)))] H := hP
  have hD : va_D A [(h0, .inr (4, [.null, .ref q7, .null, .int 0, .null, .null, .int 0])), (q7, .inl (wd.2.1, 16, .inl (fun _ => 0)))] := hD
  refine lv_aload_n hx hb dk_4_init_12 rfl (lv_at hl 0 rfl) ?_
  refine lv_bipush hx hb dk_4_init_13 (v := 16) rfl ?_
  refine sk_newi hx hb (hts (.arrayClass .int) (sy_inx 119 (by decide +kernel) (by decide +kernel))) hK hP hD hS hA (N := 16) (by decide) (by decide) (by decide) (by decide) (by decide) dk_4_init_15 (fun q15 H hP hD hS => ?_)
  have hP : va_P wd.1 sy_cl [(h0, .inr (4, [.null, .ref q7, .null, .int 0, .null, .null, .int 0])), (q7, .inl (wd.2.1, 16, .inl (fun _ => 0))), (q15, .inl (wd.2.1, 16, .inl (fun _ => 0)))] H := hP
  have hD : va_D A [(h0, .inr (4, [.null, .ref q7, .null, .int 0, .null, .null, .int 0])), (q7, .inl (wd.2.1, 16, .inl (fun _ => 0))), (q15, .inl (wd.2.1, 16, .inl (fun _ => 0)))] := hD
  refine va_putF (D := wd.1) (ci := 4) (v := .ref q15) (ty := .array .int) (C := R_4) (T := F_4) (N := 7) hx hb hts i_4 t_4 t_4_ok n_4 hown hK hP hD hS 0 rfl rfl 2 (by decide) (hts (.fieldLink R_4 15 "StarHide$Planner" "height" "[I") (sy_inx 245 (by decide +kernel) (by decide +kernel))) (fun _ h9 => h9) rfl hin rfl (by decide +kernel) rfl rfl (sk_lt rfl) dk_4_init_17 (fun H locs hP hD hS => ?_)
  have hP : va_P wd.1 sy_cl [(h0, .inr (4, [.null, .ref q7, .ref q15, .int 0, .null, .null, .int 0])), (q7, .inl (wd.2.1, 16, .inl (fun _ => 0))), (q15, .inl (wd.2.1, 16, .inl (fun _ => 0)))] H := hP
  have hD : va_D A [(h0, .inr (4, [.null, .ref q7, .ref q15, .int 0, .null, .null, .int 0])), (q7, .inl (wd.2.1, 16, .inl (fun _ => 0))), (q15, .inl (wd.2.1, 16, .inl (fun _ => 0)))] := hD
  refine lv_aload_n hx hb dk_4_init_20 rfl (lv_at hl 0 rfl) ?_
  refine lv_sipush hx hb dk_4_init_21 (v := 256) rfl ?_
  refine sk_newi hx hb (hts (.arrayClass .int) (sy_inx 119 (by decide +kernel) (by decide +kernel))) hK hP hD hS hA (N := 256) (by decide) (by decide) (by decide) (by decide) (by decide) dk_4_init_24 (fun q24 H hP hD hS => ?_)
  have hP : va_P wd.1 sy_cl [(h0, .inr (4, [.null, .ref q7, .ref q15, .int 0, .null, .null, .int 0])), (q7, .inl (wd.2.1, 16, .inl (fun _ => 0))), (q15, .inl (wd.2.1, 16, .inl (fun _ => 0))), (q24, .inl (wd.2.1, 256, .inl (fun _ => 0)))] H := hP
  have hD : va_D A [(h0, .inr (4, [.null, .ref q7, .ref q15, .int 0, .null, .null, .int 0])), (q7, .inl (wd.2.1, 16, .inl (fun _ => 0))), (q15, .inl (wd.2.1, 16, .inl (fun _ => 0))), (q24, .inl (wd.2.1, 256, .inl (fun _ => 0)))] := hD
  refine va_putF (D := wd.1) (ci := 4) (v := .ref q24) (ty := .array .int) (C := R_4) (T := F_4) (N := 7) hx hb hts i_4 t_4 t_4_ok n_4 hown hK hP hD hS 0 rfl rfl 4 (by decide) (hts (.fieldLink R_4 18 "StarHide$Planner" "gapFrom" "[I") (sy_inx 247 (by decide +kernel) (by decide +kernel))) (fun _ h9 => h9) rfl hin rfl (by decide +kernel) rfl rfl (sk_lt rfl) dk_4_init_26 (fun H locs hP hD hS => ?_)
  have hP : va_P wd.1 sy_cl [(h0, .inr (4, [.null, .ref q7, .ref q15, .int 0, .ref q24, .null, .int 0])), (q7, .inl (wd.2.1, 16, .inl (fun _ => 0))), (q15, .inl (wd.2.1, 16, .inl (fun _ => 0))), (q24, .inl (wd.2.1, 256, .inl (fun _ => 0)))] H := hP
  have hD : va_D A [(h0, .inr (4, [.null, .ref q7, .ref q15, .int 0, .ref q24, .null, .int 0])), (q7, .inl (wd.2.1, 16, .inl (fun _ => 0))), (q15, .inl (wd.2.1, 16, .inl (fun _ => 0))), (q24, .inl (wd.2.1, 256, .inl (fun _ => 0)))] := hD
  refine lv_aload_n hx hb dk_4_init_29 rfl (lv_at hl 0 rfl) ?_
  refine lv_bipush hx hb dk_4_init_30 (v := 16) rfl ?_
  refine sk_newi hx hb (hts (.arrayClass .int) (sy_inx 119 (by decide +kernel) (by decide +kernel))) hK hP hD hS hA (N := 16) (by decide) (by decide) (by decide) (by decide) (by decide) dk_4_init_32 (fun q32 H hP hD hS => ?_)
  have hP : va_P wd.1 sy_cl [(h0, .inr (4, [.null, .ref q7, .ref q15, .int 0, .ref q24, .null, .int 0])), (q7, .inl (wd.2.1, 16, .inl (fun _ => 0))), (q15, .inl (wd.2.1, 16, .inl (fun _ => 0))), (q24, .inl (wd.2.1, 256, .inl (fun _ => 0))), (q32, .inl (wd.2.1, 16, .inl (fun _ => 0)))] H := hP
  have hD : va_D A [(h0, .inr (4, [.null, .ref q7, .ref q15, .int 0, .ref q24, .null, .int 0])), (q7, .inl (wd.2.1, 16, .inl (fun _ => 0))), (q15, .inl (wd.2.1, 16, .inl (fun _ => 0))), (q24, .inl (wd.2.1, 256, .inl (fun _ => 0))), (q32, .inl (wd.2.1, 16, .inl (fun _ => 0)))] := hD
  refine va_putF (D := wd.1) (ci := 4) (v := .ref q32) (ty := .array .int) (C := R_4) (T := F_4) (N := 7) hx hb hts i_4 t_4 t_4_ok n_4 hown hK hP hD hS 0 rfl rfl 5 (by decide) (hts (.fieldLink R_4 21 "StarHide$Planner" "chosen" "[I") (sy_inx 248 (by decide +kernel) (by decide +kernel))) (fun _ h9 => h9) rfl hin rfl (by decide +kernel) rfl rfl (sk_lt rfl) dk_4_init_34 (fun H locs hP hD hS => ?_)
  have hP : va_P wd.1 sy_cl [(h0, .inr (4, [.null, .ref q7, .ref q15, .int 0, .ref q24, .ref q32, .int 0])), (q7, .inl (wd.2.1, 16, .inl (fun _ => 0))), (q15, .inl (wd.2.1, 16, .inl (fun _ => 0))), (q24, .inl (wd.2.1, 256, .inl (fun _ => 0))), (q32, .inl (wd.2.1, 16, .inl (fun _ => 0)))] H := hP
  have hD : va_D A [(h0, .inr (4, [.null, .ref q7, .ref q15, .int 0, .ref q24, .ref q32, .int 0])), (q7, .inl (wd.2.1, 16, .inl (fun _ => 0))), (q15, .inl (wd.2.1, 16, .inl (fun _ => 0))), (q24, .inl (wd.2.1, 256, .inl (fun _ => 0))), (q32, .inl (wd.2.1, 16, .inl (fun _ => 0)))] := hD
  refine lv_aload_n hx hb dk_4_init_37 rfl (lv_at hl 0 rfl) ?_
  refine lv_aload_n hx hb dk_4_init_38 rfl (lv_at hl 1 rfl) ?_
  refine va_putF (D := wd.1) (ci := 4) (v := .ref a1) (ty := .object "StarHide$Sites") (C := R_4) (T := F_4) (N := 7) hx hb hts i_4 t_4 t_4_ok n_4 hown hK hP hD hS 0 rfl rfl 0 (by decide) (hts (.fieldLink R_4 24 "StarHide$Planner" "sites" "LStarHide$Sites;") (sy_inx 243 (by decide +kernel) (by decide +kernel))) (fun _ h9 => h9) rfl hin rfl (by decide +kernel) rfl rfl (sk_lt rfl) dk_4_init_39 (fun H locs hP hD hS => ?_)
  have hP : va_P wd.1 sy_cl [(h0, .inr (4, [.ref a1, .ref q7, .ref q15, .int 0, .ref q24, .ref q32, .int 0])), (q7, .inl (wd.2.1, 16, .inl (fun _ => 0))), (q15, .inl (wd.2.1, 16, .inl (fun _ => 0))), (q24, .inl (wd.2.1, 256, .inl (fun _ => 0))), (q32, .inl (wd.2.1, 16, .inl (fun _ => 0)))] H := hP
  have hD : va_D A [(h0, .inr (4, [.ref a1, .ref q7, .ref q15, .int 0, .ref q24, .ref q32, .int 0])), (q7, .inl (wd.2.1, 16, .inl (fun _ => 0))), (q15, .inl (wd.2.1, 16, .inl (fun _ => 0))), (q24, .inl (wd.2.1, 256, .inl (fun _ => 0))), (q32, .inl (wd.2.1, 16, .inl (fun _ => 0)))] := hD
  refine W.widen (k := 4) (n := 304) (by decide) (by decide) ?_
  subst hAe
  exact W.vret hx hb hr (fun t ht hW => ⟨⟨(fun k => match k with | 0 => q7 | 1 => q15 | 2 => q24 | 3 => q32 | _ => 0), rfl, trivial, by rw [ht]; exact hP, hD⟩, hS.F ht⟩) hS.2.2 dk_4_init_42 hlk

theorem dk_6_init_0 : decode c_6_init 0 = .ok (.aload_n 0, 1) := by decide +kernel
theorem dk_6_init_1 : decode c_6_init 1 = .ok (.invokespecial 3, 3) := by decide +kernel
theorem dk_6_init_4 : decode c_6_init 4 = .ok (.aload_n 0, 1) := by decide +kernel
theorem dk_6_init_5 : decode c_6_init 5 = .ok (.iload_n 1, 1) := by decide +kernel
theorem dk_6_init_6 : decode c_6_init 6 = .ok (.putfield 9, 3) := by decide +kernel
theorem dk_6_init_9 : decode c_6_init 9 = .ok (.aload_n 0, 1) := by decide +kernel
theorem dk_6_init_10 : decode c_6_init 10 = .ok (.iload_n 2, 1) := by decide +kernel
theorem dk_6_init_11 : decode c_6_init 11 = .ok (.putfield 15, 3) := by decide +kernel
theorem dk_6_init_14 : decode c_6_init 14 = .ok (.aload_n 0, 1) := by decide +kernel
theorem dk_6_init_15 : decode c_6_init 15 = .ok (.sipush 512, 3) := by decide +kernel
theorem dk_6_init_18 : decode c_6_init 18 = .ok (.newarray .int, 2) := by decide +kernel
theorem dk_6_init_20 : decode c_6_init 20 = .ok (.putfield 20, 3) := by decide +kernel
theorem dk_6_init_23 : decode c_6_init 23 = .ok (.return_, 1) := by decide +kernel
abbrev rk_6_init : Room := { frames := 1, cells := 1, slots := 512, locals := 12 }
set_option maxHeartbeats 4000000 in
set_option maxRecDepth 100000 in
theorem k_6_init (l : Launch) (wd : sy_D) (h0 : Nat) (a1 a2 : Int32) : sk_Met l y_6_init c_6_init 3 rk_6_init wd [.ref h0, .int a1, .int a2] [(h0, .inr (6, [.int 0, .int 0, .null, .int 0, .int 0, .int 0, .int 0, .int 0, .int 0, .int 0]))] (fun u => [(h0, .inr (6, [.int a1, .int a2, .ref (u 0), .int 0, .int 0, .int 0, .int 0, .int 0, .int 0, .int 0])), ((u 0), .inl (wd.2.1, 512, .inl (fun _ => 0)))]) := by
  refine sk_of (by decide +kernel) (Nat.le_of_ble_eq_true rfl) ?_
  intro p e s m below meth c ls A hAe hXX hP hD hl
  obtain ⟨hx, hb, hml, hown, hts, hr, hnm, hlk, hKK⟩ := hXX
  have hK := hKK.1
  have hin : meth.name = "<init>" := hnm
  have hA : ∀ q : Nat, s.heap.size ≤ q → A q := fun q h => by rw [hAe]; exact Or.inr h
  have hS : va_S A s.heap s.heap [] := va_S.rf
  have hown : s.vm.findClass R_6 = some m.cls := hown
  have hl : lv_has ls 3 [(0, .ref h0), (1, .int a1), (2, .int a2)] := hl
  refine lv_aload_n hx hb dk_6_init_0 rfl (lv_at hl 0 rfl) ?_
  refine W.objInit hx hb hown (hts (.methodLink R_6 3 objectInit) (sy_inx 322 (by decide +kernel) (by decide +kernel))) (hts (.instanceMethod objectInit) (sy_inx 63 (by decide +kernel) (by decide +kernel))) (hts (.code objectInit ⟨#[0xb1]⟩ 1 none) (sy_inx 64 (by decide +kernel) (by decide +kernel))) rfl (by rw [hml]; exact hl.1) rfl dk_6_init_1 (Nat.le_of_ble_eq_true rfl) (Nat.le_of_ble_eq_true rfl) ?_
  refine W.eq (g2 := F0 m 4 ls []) rfl ?_
  refine lv_aload_n hx hb dk_6_init_4 rfl (lv_at hl 0 rfl) ?_
  refine lv_iload_n hx hb dk_6_init_5 rfl (lv_at hl 1 rfl) ?_
  refine va_putF (D := wd.1) (ci := 6) (v := .int a1) (ty := .int) (C := R_6) (T := F_6) (N := 10) hx hb hts i_6 t_6 t_6_ok n_6 hown hK hP hD hS 0 rfl rfl 0 (by decide) (hts (.fieldLink R_6 9 "StarHide$Site" "y" "I") (sy_inx 323 (by decide +kernel) (by decide +kernel))) (fun _ h9 => h9) rfl hin rfl (by decide +kernel) rfl rfl (sk_lt rfl) dk_6_init_6 (fun H locs hP hD hS => ?_)
  have hP : va_P wd.1 sy_cl [(h0, .inr (6, [.int a1, .int 0, .null, .int 0, .int 0, .int 0, .int 0, .int 0, .int 0, .int 0]))] H := hP
  have hD : va_D A [(h0, .inr (6, [.int a1, .int 0, .null, .int 0, .int 0, .int 0, .int 0, .int 0, .int 0, .int 0]))] := hD
  refine lv_aload_n hx hb dk_6_init_9 rfl (lv_at hl 0 rfl) ?_
  refine lv_iload_n hx hb dk_6_init_10 rfl (lv_at hl 2 rfl) ?_
  refine va_putF (D := wd.1) (ci := 6) (v := .int a2) (ty := .int) (C := R_6) (T := F_6) (N := 10) hx hb hts i_6 t_6 t_6_ok n_6 hown hK hP hD hS 0 rfl rfl 1 (by decide) (hts (.fieldLink R_6 15 "StarHide$Site" "x" "I") (sy_inx 330 (by decide +kernel) (by decide +kernel))) (fun _ h9 => h9) rfl hin rfl (by decide +kernel) rfl rfl (sk_lt rfl) dk_6_init_11 (fun H locs hP hD hS => ?_)
  have hP : va_P wd.1 sy_cl [(h0, .inr (6, [.int a1, .int a2, .null, .int 0, .int 0, .int 0, .int 0, .int 0, .int 0, .int 0]))] H := hP
  have hD : va_D A [(h0, .inr (6, [.int a1, .int a2, .null, .int 0, .int 0, .int 0, .int 0, .int 0, .int 0, .int 0]))] := hD
  refine lv_aload_n hx hb dk_6_init_14 rfl (lv_at hl 0 rfl) ?_
  refine lv_sipush hx hb dk_6_init_15 (v := 512) rfl ?_
  refine sk_newi hx hb (hts (.arrayClass .int) (sy_inx 119 (by decide +kernel) (by decide +kernel))) hK hP hD hS hA (N := 512) (by decide) (by decide) (by decide) (by decide) (by decide) dk_6_init_18 (fun q18 H hP hD hS => ?_)
  have hP : va_P wd.1 sy_cl [(h0, .inr (6, [.int a1, .int a2, .null, .int 0, .int 0, .int 0, .int 0, .int 0, .int 0, .int 0])), (q18, .inl (wd.2.1, 512, .inl (fun _ => 0)))] H := hP
  have hD : va_D A [(h0, .inr (6, [.int a1, .int a2, .null, .int 0, .int 0, .int 0, .int 0, .int 0, .int 0, .int 0])), (q18, .inl (wd.2.1, 512, .inl (fun _ => 0)))] := hD
  refine va_putF (D := wd.1) (ci := 6) (v := .ref q18) (ty := .array .int) (C := R_6) (T := F_6) (N := 10) hx hb hts i_6 t_6 t_6_ok n_6 hown hK hP hD hS 0 rfl rfl 2 (by decide) (hts (.fieldLink R_6 20 "StarHide$Site" "widths" "[I") (sy_inx 331 (by decide +kernel) (by decide +kernel))) (fun _ h9 => h9) rfl hin rfl (by decide +kernel) rfl rfl (sk_lt rfl) dk_6_init_20 (fun H locs hP hD hS => ?_)
  have hP : va_P wd.1 sy_cl [(h0, .inr (6, [.int a1, .int a2, .ref q18, .int 0, .int 0, .int 0, .int 0, .int 0, .int 0, .int 0])), (q18, .inl (wd.2.1, 512, .inl (fun _ => 0)))] H := hP
  have hD : va_D A [(h0, .inr (6, [.int a1, .int a2, .ref q18, .int 0, .int 0, .int 0, .int 0, .int 0, .int 0, .int 0])), (q18, .inl (wd.2.1, 512, .inl (fun _ => 0)))] := hD
  refine W.widen (k := 1) (n := 512) (by decide) (by decide) ?_
  subst hAe
  exact W.vret hx hb hr (fun t ht hW => ⟨⟨(fun k => match k with | 0 => q18 | _ => 0), rfl, trivial, by rw [ht]; exact hP, hD⟩, hS.F ht⟩) hS.2.2 dk_6_init_23 hlk

theorem dk_7_init_0 : decode c_7_init 0 = .ok (.aload_n 0, 1) := by decide +kernel
theorem dk_7_init_1 : decode c_7_init 1 = .ok (.invokespecial 3, 3) := by decide +kernel
theorem dk_7_init_4 : decode c_7_init 4 = .ok (.aload_n 0, 1) := by decide +kernel
theorem dk_7_init_5 : decode c_7_init 5 = .ok (.bipush 16, 2) := by decide +kernel
theorem dk_7_init_7 : decode c_7_init 7 = .ok (.anewarray 9, 3) := by decide +kernel
theorem dk_7_init_10 : decode c_7_init 10 = .ok (.putfield 11, 3) := by decide +kernel
theorem dk_7_init_13 : decode c_7_init 13 = .ok (.aload_n 0, 1) := by decide +kernel
theorem dk_7_init_14 : decode c_7_init 14 = .ok (.iconst 5, 1) := by decide +kernel
theorem dk_7_init_15 : decode c_7_init 15 = .ok (.putfield 17, 3) := by decide +kernel
theorem dk_7_init_18 : decode c_7_init 18 = .ok (.return_, 1) := by decide +kernel
abbrev rk_7_init : Room := { frames := 1, cells := 1, slots := 16, locals := 12 }
set_option maxHeartbeats 4000000 in
set_option maxRecDepth 100000 in
theorem k_7_init (l : Launch) (wd : sy_D) (h0 : Nat)  : sk_Met l y_7_init c_7_init 1 rk_7_init wd [.ref h0] [(h0, .inr (7, [.null, .int 0, .int 0]))] (fun u => [(h0, .inr (7, [.ref (u 0), .int 0, .int 5])), ((u 0), .inl (wd.2.2.2, 16, .inr (.inr (.inr (.inr (fun _ => none))))))]) := by
  refine sk_of (by decide +kernel) (Nat.le_of_ble_eq_true rfl) ?_
  intro p e s m below meth c ls A hAe hXX hP hD hl
  obtain ⟨hx, hb, hml, hown, hts, hr, hnm, hlk, hKK⟩ := hXX
  have hK := hKK.1
  have hin : meth.name = "<init>" := hnm
  have hA : ∀ q : Nat, s.heap.size ≤ q → A q := fun q h => by rw [hAe]; exact Or.inr h
  have hS : va_S A s.heap s.heap [] := va_S.rf
  have hown : s.vm.findClass R_7 = some m.cls := hown
  have hl : lv_has ls 1 [(0, .ref h0)] := hl
  refine lv_aload_n hx hb dk_7_init_0 rfl (lv_at hl 0 rfl) ?_
  refine W.objInit hx hb hown (hts (.methodLink R_7 3 objectInit) (sy_inx 70 (by decide +kernel) (by decide +kernel))) (hts (.instanceMethod objectInit) (sy_inx 63 (by decide +kernel) (by decide +kernel))) (hts (.code objectInit ⟨#[0xb1]⟩ 1 none) (sy_inx 64 (by decide +kernel) (by decide +kernel))) rfl (by rw [hml]; exact hl.1) rfl dk_7_init_1 (Nat.le_of_ble_eq_true rfl) (Nat.le_of_ble_eq_true rfl) ?_
  refine W.eq (g2 := F0 m 4 ls []) rfl ?_
  refine lv_aload_n hx hb dk_7_init_4 rfl (lv_at hl 0 rfl) ?_
  refine lv_bipush hx hb dk_7_init_5 (v := 16) rfl ?_
  refine sk_newq (own := R_7) hx hb hown (hts (.classLink R_7 9 R_6) (sy_inx 71 (by decide +kernel) (by decide +kernel))) hKK hP hD hS hA (N := 16) (by decide) (by decide) (by decide) (by decide) (by decide) dk_7_init_7 (fun q7 H hP hD hS => ?_)
  have hP : va_P wd.1 sy_cl [(h0, .inr (7, [.null, .int 0, .int 0])), (q7, .inl (wd.2.2.2, 16, .inr (.inr (.inr (.inr (fun _ => none))))))] H := hP
  have hD : va_D A [(h0, .inr (7, [.null, .int 0, .int 0])), (q7, .inl (wd.2.2.2, 16, .inr (.inr (.inr (.inr (fun _ => none))))))] := hD
  refine va_putF (D := wd.1) (ci := 7) (v := .ref q7) (ty := .array (.object "StarHide$Site")) (C := R_7) (T := F_7) (N := 3) hx hb hts i_7 t_7 t_7_ok n_7 hown hK hP hD hS 0 rfl rfl 0 (by decide) (hts (.fieldLink R_7 11 "StarHide$Sites" "list" "[LStarHide$Site;") (sy_inx 73 (by decide +kernel) (by decide +kernel))) (fun _ h9 => h9) rfl hin rfl (by decide +kernel) rfl rfl (sk_lt rfl) dk_7_init_10 (fun H locs hP hD hS => ?_)
  have hP : va_P wd.1 sy_cl [(h0, .inr (7, [.ref q7, .int 0, .int 0])), (q7, .inl (wd.2.2.2, 16, .inr (.inr (.inr (.inr (fun _ => none))))))] H := hP
  have hD : va_D A [(h0, .inr (7, [.ref q7, .int 0, .int 0])), (q7, .inl (wd.2.2.2, 16, .inr (.inr (.inr (.inr (fun _ => none))))))] := hD
  refine lv_aload_n hx hb dk_7_init_13 rfl (lv_at hl 0 rfl) ?_
  refine lv_iconst hx hb dk_7_init_14 (v := 5) rfl ?_
  refine va_put (D := wd.1) (ci := 7) (v := .int 5) (ty := .int) (C := R_7) (T := F_7) (N := 3) hx hb hts i_7 t_7 t_7_ok n_7 hown hK hP hD hS 0 rfl rfl 2 (by decide) (hts (.fieldLink R_7 17 "StarHide$Sites" "pace" "I") (sy_inx 79 (by decide +kernel) (by decide +kernel))) (fun _ h9 => h9) rfl (by decide +kernel) rfl rfl (sk_lt rfl) dk_7_init_15 (fun H locs hP hD hS => ?_)
  have hP : va_P wd.1 sy_cl [(h0, .inr (7, [.ref q7, .int 0, .int 5])), (q7, .inl (wd.2.2.2, 16, .inr (.inr (.inr (.inr (fun _ => none))))))] H := hP
  have hD : va_D A [(h0, .inr (7, [.ref q7, .int 0, .int 5])), (q7, .inl (wd.2.2.2, 16, .inr (.inr (.inr (.inr (fun _ => none))))))] := hD
  refine W.widen (k := 1) (n := 16) (by decide) (by decide) ?_
  subst hAe
  exact W.vret hx hb hr (fun t ht hW => ⟨⟨(fun k => match k with | 0 => q7 | _ => 0), rfl, trivial, by rw [ht]; exact hP, hD⟩, hS.F ht⟩) hS.2.2 dk_7_init_18 hlk
