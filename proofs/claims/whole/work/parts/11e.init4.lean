/-! MAKERS -/
theorem dk_9_init_0 : decode c_9_init 0 = .ok (.aload_n 0, 1) := by decide +kernel
theorem dk_9_init_1 : decode c_9_init 1 = .ok (.invokespecial 1, 3) := by decide +kernel
theorem dk_9_init_4 : decode c_9_init 4 = .ok (.aload_n 0, 1) := by decide +kernel
theorem dk_9_init_5 : decode c_9_init 5 = .ok (.iconst 5, 1) := by decide +kernel
theorem dk_9_init_6 : decode c_9_init 6 = .ok (.putfield 7, 3) := by decide +kernel
theorem dk_9_init_9 : decode c_9_init 9 = .ok (.aload_n 0, 1) := by decide +kernel
theorem dk_9_init_10 : decode c_9_init 10 = .ok (.iconst 0, 1) := by decide +kernel
theorem dk_9_init_11 : decode c_9_init 11 = .ok (.putfield 13, 3) := by decide +kernel
theorem dk_9_init_14 : decode c_9_init 14 = .ok (.aload_n 0, 1) := by decide +kernel
theorem dk_9_init_15 : decode c_9_init 15 = .ok (.bipush 16, 2) := by decide +kernel
theorem dk_9_init_17 : decode c_9_init 17 = .ok (.newarray .int, 2) := by decide +kernel
theorem dk_9_init_19 : decode c_9_init 19 = .ok (.putfield 16, 3) := by decide +kernel
theorem dk_9_init_22 : decode c_9_init 22 = .ok (.aload_n 0, 1) := by decide +kernel
theorem dk_9_init_23 : decode c_9_init 23 = .ok (.bipush 16, 2) := by decide +kernel
theorem dk_9_init_25 : decode c_9_init 25 = .ok (.newarray .int, 2) := by decide +kernel
theorem dk_9_init_27 : decode c_9_init 27 = .ok (.putfield 20, 3) := by decide +kernel
theorem dk_9_init_30 : decode c_9_init 30 = .ok (.aload_n 0, 1) := by decide +kernel
theorem dk_9_init_31 : decode c_9_init 31 = .ok (.bipush 16, 2) := by decide +kernel
theorem dk_9_init_33 : decode c_9_init 33 = .ok (.newarray .int, 2) := by decide +kernel
theorem dk_9_init_35 : decode c_9_init 35 = .ok (.putfield 23, 3) := by decide +kernel
theorem dk_9_init_38 : decode c_9_init 38 = .ok (.aload_n 0, 1) := by decide +kernel
theorem dk_9_init_39 : decode c_9_init 39 = .ok (.bipush 16, 2) := by decide +kernel
theorem dk_9_init_41 : decode c_9_init 41 = .ok (.newarray .int, 2) := by decide +kernel
theorem dk_9_init_43 : decode c_9_init 43 = .ok (.putfield 26, 3) := by decide +kernel
theorem dk_9_init_46 : decode c_9_init 46 = .ok (.aload_n 0, 1) := by decide +kernel
theorem dk_9_init_47 : decode c_9_init 47 = .ok (.bipush 64, 2) := by decide +kernel
theorem dk_9_init_49 : decode c_9_init 49 = .ok (.newarray .int, 2) := by decide +kernel
theorem dk_9_init_51 : decode c_9_init 51 = .ok (.putfield 29, 3) := by decide +kernel
theorem dk_9_init_54 : decode c_9_init 54 = .ok (.aload_n 0, 1) := by decide +kernel
theorem dk_9_init_55 : decode c_9_init 55 = .ok (.bipush 12, 2) := by decide +kernel
theorem dk_9_init_57 : decode c_9_init 57 = .ok (.newarray .int, 2) := by decide +kernel
theorem dk_9_init_59 : decode c_9_init 59 = .ok (.putfield 32, 3) := by decide +kernel
theorem dk_9_init_62 : decode c_9_init 62 = .ok (.aload_n 0, 1) := by decide +kernel
theorem dk_9_init_63 : decode c_9_init 63 = .ok (.iconst 0, 1) := by decide +kernel
theorem dk_9_init_64 : decode c_9_init 64 = .ok (.putfield 35, 3) := by decide +kernel
theorem dk_9_init_67 : decode c_9_init 67 = .ok (.aload_n 0, 1) := by decide +kernel
theorem dk_9_init_68 : decode c_9_init 68 = .ok (.bipush 30, 2) := by decide +kernel
theorem dk_9_init_70 : decode c_9_init 70 = .ok (.newarray .int, 2) := by decide +kernel
theorem dk_9_init_72 : decode c_9_init 72 = .ok (.putfield 38, 3) := by decide +kernel
theorem dk_9_init_75 : decode c_9_init 75 = .ok (.aload_n 0, 1) := by decide +kernel
theorem dk_9_init_76 : decode c_9_init 76 = .ok (.bipush 10, 2) := by decide +kernel
theorem dk_9_init_78 : decode c_9_init 78 = .ok (.putfield 41, 3) := by decide +kernel
theorem dk_9_init_81 : decode c_9_init 81 = .ok (.aload_n 0, 1) := by decide +kernel
theorem dk_9_init_82 : decode c_9_init 82 = .ok (.iconst 0, 1) := by decide +kernel
theorem dk_9_init_83 : decode c_9_init 83 = .ok (.putfield 44, 3) := by decide +kernel
theorem dk_9_init_86 : decode c_9_init 86 = .ok (.aload_n 0, 1) := by decide +kernel
theorem dk_9_init_87 : decode c_9_init 87 = .ok (.bipush 32, 2) := by decide +kernel
theorem dk_9_init_89 : decode c_9_init 89 = .ok (.newarray .long, 2) := by decide +kernel
theorem dk_9_init_91 : decode c_9_init 91 = .ok (.putfield 47, 3) := by decide +kernel
theorem dk_9_init_94 : decode c_9_init 94 = .ok (.aload_n 0, 1) := by decide +kernel
theorem dk_9_init_95 : decode c_9_init 95 = .ok (.bipush 32, 2) := by decide +kernel
theorem dk_9_init_97 : decode c_9_init 97 = .ok (.newarray .long, 2) := by decide +kernel
theorem dk_9_init_99 : decode c_9_init 99 = .ok (.putfield 51, 3) := by decide +kernel
theorem dk_9_init_102 : decode c_9_init 102 = .ok (.aload_n 0, 1) := by decide +kernel
theorem dk_9_init_103 : decode c_9_init 103 = .ok (.iconst 0, 1) := by decide +kernel
theorem dk_9_init_104 : decode c_9_init 104 = .ok (.putfield 54, 3) := by decide +kernel
theorem dk_9_init_107 : decode c_9_init 107 = .ok (.aload_n 0, 1) := by decide +kernel
theorem dk_9_init_108 : decode c_9_init 108 = .ok (.bipush 33, 2) := by decide +kernel
theorem dk_9_init_110 : decode c_9_init 110 = .ok (.newarray .int, 2) := by decide +kernel
theorem dk_9_init_112 : decode c_9_init 112 = .ok (.putfield 57, 3) := by decide +kernel
theorem dk_9_init_115 : decode c_9_init 115 = .ok (.aload_n 0, 1) := by decide +kernel
theorem dk_9_init_116 : decode c_9_init 116 = .ok (.bipush 16, 2) := by decide +kernel
theorem dk_9_init_118 : decode c_9_init 118 = .ok (.newarray .int, 2) := by decide +kernel
theorem dk_9_init_120 : decode c_9_init 120 = .ok (.putfield 60, 3) := by decide +kernel
theorem dk_9_init_123 : decode c_9_init 123 = .ok (.aload_n 0, 1) := by decide +kernel
theorem dk_9_init_124 : decode c_9_init 124 = .ok (.bipush 16, 2) := by decide +kernel
theorem dk_9_init_126 : decode c_9_init 126 = .ok (.newarray .int, 2) := by decide +kernel
theorem dk_9_init_128 : decode c_9_init 128 = .ok (.putfield 63, 3) := by decide +kernel
theorem dk_9_init_131 : decode c_9_init 131 = .ok (.aload_n 0, 1) := by decide +kernel
theorem dk_9_init_132 : decode c_9_init 132 = .ok (.iconst 0, 1) := by decide +kernel
theorem dk_9_init_133 : decode c_9_init 133 = .ok (.putfield 66, 3) := by decide +kernel
theorem dk_9_init_136 : decode c_9_init 136 = .ok (.iconst 0, 1) := by decide +kernel
theorem dk_9_init_137 : decode c_9_init 137 = .ok (.istore_n 1, 1) := by decide +kernel
theorem dk_9_init_138 : decode c_9_init 138 = .ok (.iload_n 1, 1) := by decide +kernel
theorem dk_9_init_139 : decode c_9_init 139 = .ok (.iconst 4, 1) := by decide +kernel
theorem dk_9_init_140 : decode c_9_init 140 = .ok (.if_icmp .ge 50, 3) := by decide +kernel
theorem dk_9_init_143 : decode c_9_init 143 = .ok (.aload_n 0, 1) := by decide +kernel
theorem dk_9_init_144 : decode c_9_init 144 = .ok (.getfield 32, 3) := by decide +kernel
theorem dk_9_init_147 : decode c_9_init 147 = .ok (.iconst 3, 1) := by decide +kernel
theorem dk_9_init_148 : decode c_9_init 148 = .ok (.iload_n 1, 1) := by decide +kernel
theorem dk_9_init_149 : decode c_9_init 149 = .ok (.imul, 1) := by decide +kernel
theorem dk_9_init_150 : decode c_9_init 150 = .ok (.iload_n 1, 1) := by decide +kernel
theorem dk_9_init_151 : decode c_9_init 151 = .ok (.iconst 2, 1) := by decide +kernel
theorem dk_9_init_152 : decode c_9_init 152 = .ok (.if_icmp .ge 7, 3) := by decide +kernel
theorem dk_9_init_155 : decode c_9_init 155 = .ok (.iconst 0, 1) := by decide +kernel
theorem dk_9_init_156 : decode c_9_init 156 = .ok (.goto 5, 3) := by decide +kernel
theorem dk_9_init_159 : decode c_9_init 159 = .ok (.bipush 100, 2) := by decide +kernel
theorem dk_9_init_161 : decode c_9_init 161 = .ok (.iastore, 1) := by decide +kernel
theorem dk_9_init_162 : decode c_9_init 162 = .ok (.aload_n 0, 1) := by decide +kernel
theorem dk_9_init_163 : decode c_9_init 163 = .ok (.getfield 32, 3) := by decide +kernel
theorem dk_9_init_166 : decode c_9_init 166 = .ok (.iconst 3, 1) := by decide +kernel
theorem dk_9_init_167 : decode c_9_init 167 = .ok (.iload_n 1, 1) := by decide +kernel
theorem dk_9_init_168 : decode c_9_init 168 = .ok (.imul, 1) := by decide +kernel
theorem dk_9_init_169 : decode c_9_init 169 = .ok (.iconst 1, 1) := by decide +kernel
theorem dk_9_init_170 : decode c_9_init 170 = .ok (.iadd, 1) := by decide +kernel
theorem dk_9_init_171 : decode c_9_init 171 = .ok (.iconst 1, 1) := by decide +kernel
theorem dk_9_init_172 : decode c_9_init 172 = .ok (.iastore, 1) := by decide +kernel
theorem dk_9_init_173 : decode c_9_init 173 = .ok (.aload_n 0, 1) := by decide +kernel
theorem dk_9_init_174 : decode c_9_init 174 = .ok (.getfield 32, 3) := by decide +kernel
theorem dk_9_init_177 : decode c_9_init 177 = .ok (.iconst 3, 1) := by decide +kernel
theorem dk_9_init_178 : decode c_9_init 178 = .ok (.iload_n 1, 1) := by decide +kernel
theorem dk_9_init_179 : decode c_9_init 179 = .ok (.imul, 1) := by decide +kernel
theorem dk_9_init_180 : decode c_9_init 180 = .ok (.iconst 2, 1) := by decide +kernel
theorem dk_9_init_181 : decode c_9_init 181 = .ok (.iadd, 1) := by decide +kernel
theorem dk_9_init_182 : decode c_9_init 182 = .ok (.iconst 1, 1) := by decide +kernel
theorem dk_9_init_183 : decode c_9_init 183 = .ok (.iastore, 1) := by decide +kernel
theorem dk_9_init_184 : decode c_9_init 184 = .ok (.iinc 1 1, 3) := by decide +kernel
theorem dk_9_init_187 : decode c_9_init 187 = .ok (.goto (-49), 3) := by decide +kernel
theorem dk_9_init_190 : decode c_9_init 190 = .ok (.return_, 1) := by decide +kernel
abbrev rk_9_init : Room := { frames := 1, cells := 12, slots := 299, locals := 12 }
set_option maxHeartbeats 4000000 in
set_option maxRecDepth 100000 in
theorem k_9_init (l : Launch) (wd : sy_D) (h0 : Nat)  : sk_Met l y_9_init c_9_init 2 rk_9_init wd [.ref h0] [(h0, .inr (9, [.int 0, .int 0, .null, .null, .null, .null, .null, .null, .int 0, .null, .int 0, .int 0, .null, .null, .int 0, .null, .null, .null, .int 0]))] (fun u => [(h0, .inr (9, [.int 5, .int 0, .ref (u 0), .ref (u 1), .ref (u 2), .ref (u 3), .ref (u 4), .ref (u 5), .int 0, .ref (u 6), .int 10, .int 0, .ref (u 7), .ref (u 8), .int 0, .ref (u 9), .ref (u 10), .ref (u 11), .int 0])), ((u 0), .inl (wd.2.1, 16, .inl (fun _ => 0))), ((u 1), .inl (wd.2.1, 16, .inl (fun _ => 0))), ((u 2), .inl (wd.2.1, 16, .inl (fun _ => 0))), ((u 3), .inl (wd.2.1, 16, .inl (fun _ => 0))), ((u 4), .inl (wd.2.1, 64, .inl (fun _ => 0))), ((u 5), .inl (wd.2.1, 12, .inl (upd (upd (upd (upd (upd (upd (upd (upd (upd (upd (upd (upd (fun _ => 0) 0 0) 1 1) 2 1) 3 0) 4 1) 5 1) 6 100) 7 1) 8 1) 9 100) 10 1) 11 1))), ((u 6), .inl (wd.2.1, 30, .inl (fun _ => 0))), ((u 7), .inl (wd.2.2.1, 32, .inr (.inl (fun _ => 0)))), ((u 8), .inl (wd.2.2.1, 32, .inr (.inl (fun _ => 0)))), ((u 9), .inl (wd.2.1, 33, .inl (fun _ => 0))), ((u 10), .inl (wd.2.1, 16, .inl (fun _ => 0))), ((u 11), .inl (wd.2.1, 16, .inl (fun _ => 0)))]) := by
  refine sk_of (by decide +kernel) (Nat.le_of_ble_eq_true rfl) ?_
  intro p e s m below meth c ls A hAe hXX hP hD hl
  obtain ⟨hx, hb, hml, hown, hts, hr, hnm, hlk, hKK⟩ := hXX
  have hK := hKK.1
  have hin : meth.name = "<init>" := hnm
  have hA : ∀ q : Nat, s.heap.size ≤ q → A q := fun q h => by rw [hAe]; exact Or.inr h
  have hS : va_S A s.heap s.heap [] := va_S.rf
  have hown : s.vm.findClass R_9 = some m.cls := hown
  have hl : lv_has ls 2 [(0, .ref h0)] := hl
  refine lv_aload_n hx hb dk_9_init_0 rfl (lv_at hl 0 rfl) ?_
  refine W.objInit hx hb hown (hts (.methodLink R_9 1 objectInit) (sy_inx 795 (by decide +kernel) (by decide +kernel))) (hts (.instanceMethod objectInit) (sy_inx 63 (by decide +kernel) (by decide +kernel))) (hts (.code objectInit ⟨#[0xb1]⟩ 1 none) (sy_inx 64 (by decide +kernel) (by decide +kernel))) rfl (by rw [hml]; exact hl.1) rfl dk_9_init_1 (Nat.le_of_ble_eq_true rfl) (Nat.le_of_ble_eq_true rfl) ?_
  refine W.eq (g2 := F0 m 4 ls []) rfl ?_
  refine lv_aload_n hx hb dk_9_init_4 rfl (lv_at hl 0 rfl) ?_
  refine lv_iconst hx hb dk_9_init_5 (v := 5) rfl ?_
  refine va_put (D := wd.1) (ci := 9) (v := .int 5) (ty := .int) (C := R_9) (T := F_9) (N := 19) hx hb hts i_9 t_9 t_9_ok n_9 hown hK hP hD hS 0 rfl rfl 0 (by decide) (hts (.fieldLink R_9 7 "StarHideModel" "speed" "I") (sy_inx 796 (by decide +kernel) (by decide +kernel))) (fun _ h9 => h9) rfl (by decide +kernel) rfl rfl (sk_lt rfl) dk_9_init_6 (fun H locs hP hD hS => ?_)
  have hP : va_P wd.1 sy_cl [(h0, .inr (9, [.int 5, .int 0, .null, .null, .null, .null, .null, .null, .int 0, .null, .int 0, .int 0, .null, .null, .int 0, .null, .null, .null, .int 0]))] H := hP
  have hD : va_D A [(h0, .inr (9, [.int 5, .int 0, .null, .null, .null, .null, .null, .null, .int 0, .null, .int 0, .int 0, .null, .null, .int 0, .null, .null, .null, .int 0]))] := hD
  refine lv_aload_n hx hb dk_9_init_9 rfl (lv_at hl 0 rfl) ?_
  refine lv_iconst hx hb dk_9_init_10 (v := 0) rfl ?_
  refine va_put (D := wd.1) (ci := 9) (v := .int 0) (ty := .int) (C := R_9) (T := F_9) (N := 19) hx hb hts i_9 t_9 t_9_ok n_9 hown hK hP hD hS 0 rfl rfl 1 (by decide) (hts (.fieldLink R_9 13 "StarHideModel" "sites" "I") (sy_inx 797 (by decide +kernel) (by decide +kernel))) (fun _ h9 => h9) rfl (by decide +kernel) rfl rfl (sk_lt rfl) dk_9_init_11 (fun H locs hP hD hS => ?_)
  have hP : va_P wd.1 sy_cl [(h0, .inr (9, [.int 5, .int 0, .null, .null, .null, .null, .null, .null, .int 0, .null, .int 0, .int 0, .null, .null, .int 0, .null, .null, .null, .int 0]))] H := hP
  have hD : va_D A [(h0, .inr (9, [.int 5, .int 0, .null, .null, .null, .null, .null, .null, .int 0, .null, .int 0, .int 0, .null, .null, .int 0, .null, .null, .null, .int 0]))] := hD
  refine lv_aload_n hx hb dk_9_init_14 rfl (lv_at hl 0 rfl) ?_
  refine lv_bipush hx hb dk_9_init_15 (v := 16) rfl ?_
  refine sk_newi hx hb (hts (.arrayClass .int) (sy_inx 119 (by decide +kernel) (by decide +kernel))) hK hP hD hS hA (N := 16) (by decide) (by decide) (by decide) (by decide) (by decide) dk_9_init_17 (fun q17 H hP hD hS => ?_)
  have hP : va_P wd.1 sy_cl [(h0, .inr (9, [.int 5, .int 0, .null, .null, .null, .null, .null, .null, .int 0, .null, .int 0, .int 0, .null, .null, .int 0, .null, .null, .null, .int 0])), (q17, .inl (wd.2.1, 16, .inl (fun _ => 0)))] H := hP
  have hD : va_D A [(h0, .inr (9, [.int 5, .int 0, .null, .null, .null, .null, .null, .null, .int 0, .null, .int 0, .int 0, .null, .null, .int 0, .null, .null, .null, .int 0])), (q17, .inl (wd.2.1, 16, .inl (fun _ => 0)))] := hD
  refine va_putF (D := wd.1) (ci := 9) (v := .ref q17) (ty := .array .int) (C := R_9) (T := F_9) (N := 19) hx hb hts i_9 t_9 t_9_ok n_9 hown hK hP hD hS 0 rfl rfl 2 (by decide) (hts (.fieldLink R_9 16 "StarHideModel" "ys" "[I") (sy_inx 798 (by decide +kernel) (by decide +kernel))) (fun _ h9 => h9) rfl hin rfl (by decide +kernel) rfl rfl (sk_lt rfl) dk_9_init_19 (fun H locs hP hD hS => ?_)
  have hP : va_P wd.1 sy_cl [(h0, .inr (9, [.int 5, .int 0, .ref q17, .null, .null, .null, .null, .null, .int 0, .null, .int 0, .int 0, .null, .null, .int 0, .null, .null, .null, .int 0])), (q17, .inl (wd.2.1, 16, .inl (fun _ => 0)))] H := hP
  have hD : va_D A [(h0, .inr (9, [.int 5, .int 0, .ref q17, .null, .null, .null, .null, .null, .int 0, .null, .int 0, .int 0, .null, .null, .int 0, .null, .null, .null, .int 0])), (q17, .inl (wd.2.1, 16, .inl (fun _ => 0)))] := hD
  refine lv_aload_n hx hb dk_9_init_22 rfl (lv_at hl 0 rfl) ?_
  refine lv_bipush hx hb dk_9_init_23 (v := 16) rfl ?_
  refine sk_newi hx hb (hts (.arrayClass .int) (sy_inx 119 (by decide +kernel) (by decide +kernel))) hK hP hD hS hA (N := 16) (by decide) (by decide) (by decide) (by decide) (by decide) dk_9_init_25 (fun q25 H hP hD hS => ?_)
  have hP : va_P wd.1 sy_cl [(h0, .inr (9, [.int 5, .int 0, .ref q17, .null, .null, .null, .null, .null, .int 0, .null, .int 0, .int 0, .null, .null, .int 0, .null, .null, .null, .int 0])), (q17, .inl (wd.2.1, 16, .inl (fun _ => 0))), (q25, .inl (wd.2.1, 16, .inl (fun _ => 0)))] H := hP
  have hD : va_D A [(h0, .inr (9, [.int 5, .int 0, .ref q17, .null, .null, .null, .null, .null, .int 0, .null, .int 0, .int 0, .null, .null, .int 0, .null, .null, .null, .int 0])), (q17, .inl (wd.2.1, 16, .inl (fun _ => 0))), (q25, .inl (wd.2.1, 16, .inl (fun _ => 0)))] := hD
  refine va_putF (D := wd.1) (ci := 9) (v := .ref q25) (ty := .array .int) (C := R_9) (T := F_9) (N := 19) hx hb hts i_9 t_9 t_9_ok n_9 hown hK hP hD hS 0 rfl rfl 3 (by decide) (hts (.fieldLink R_9 20 "StarHideModel" "xs" "[I") (sy_inx 799 (by decide +kernel) (by decide +kernel))) (fun _ h9 => h9) rfl hin rfl (by decide +kernel) rfl rfl (sk_lt rfl) dk_9_init_27 (fun H locs hP hD hS => ?_)
  have hP : va_P wd.1 sy_cl [(h0, .inr (9, [.int 5, .int 0, .ref q17, .ref q25, .null, .null, .null, .null, .int 0, .null, .int 0, .int 0, .null, .null, .int 0, .null, .null, .null, .int 0])), (q17, .inl (wd.2.1, 16, .inl (fun _ => 0))), (q25, .inl (wd.2.1, 16, .inl (fun _ => 0)))] H := hP
  have hD : va_D A [(h0, .inr (9, [.int 5, .int 0, .ref q17, .ref q25, .null, .null, .null, .null, .int 0, .null, .int 0, .int 0, .null, .null, .int 0, .null, .null, .null, .int 0])), (q17, .inl (wd.2.1, 16, .inl (fun _ => 0))), (q25, .inl (wd.2.1, 16, .inl (fun _ => 0)))] := hD
  refine lv_aload_n hx hb dk_9_init_30 rfl (lv_at hl 0 rfl) ?_
  refine lv_bipush hx hb dk_9_init_31 (v := 16) rfl ?_
  refine sk_newi hx hb (hts (.arrayClass .int) (sy_inx 119 (by decide +kernel) (by decide +kernel))) hK hP hD hS hA (N := 16) (by decide) (by decide) (by decide) (by decide) (by decide) dk_9_init_33 (fun q33 H hP hD hS => ?_)
  have hP : va_P wd.1 sy_cl [(h0, .inr (9, [.int 5, .int 0, .ref q17, .ref q25, .null, .null, .null, .null, .int 0, .null, .int 0, .int 0, .null, .null, .int 0, .null, .null, .null, .int 0])), (q17, .inl (wd.2.1, 16, .inl (fun _ => 0))), (q25, .inl (wd.2.1, 16, .inl (fun _ => 0))), (q33, .inl (wd.2.1, 16, .inl (fun _ => 0)))] H := hP
  have hD : va_D A [(h0, .inr (9, [.int 5, .int 0, .ref q17, .ref q25, .null, .null, .null, .null, .int 0, .null, .int 0, .int 0, .null, .null, .int 0, .null, .null, .null, .int 0])), (q17, .inl (wd.2.1, 16, .inl (fun _ => 0))), (q25, .inl (wd.2.1, 16, .inl (fun _ => 0))), (q33, .inl (wd.2.1, 16, .inl (fun _ => 0)))] := hD
  refine va_putF (D := wd.1) (ci := 9) (v := .ref q33) (ty := .array .int) (C := R_9) (T := F_9) (N := 19) hx hb hts i_9 t_9 t_9_ok n_9 hown hK hP hD hS 0 rfl rfl 4 (by decide) (hts (.fieldLink R_9 23 "StarHideModel" "aheads" "[I") (sy_inx 800 (by decide +kernel) (by decide +kernel))) (fun _ h9 => h9) rfl hin rfl (by decide +kernel) rfl rfl (sk_lt rfl) dk_9_init_35 (fun H locs hP hD hS => ?_)
  have hP : va_P wd.1 sy_cl [(h0, .inr (9, [.int 5, .int 0, .ref q17, .ref q25, .ref q33, .null, .null, .null, .int 0, .null, .int 0, .int 0, .null, .null, .int 0, .null, .null, .null, .int 0])), (q17, .inl (wd.2.1, 16, .inl (fun _ => 0))), (q25, .inl (wd.2.1, 16, .inl (fun _ => 0))), (q33, .inl (wd.2.1, 16, .inl (fun _ => 0)))] H := hP
  have hD : va_D A [(h0, .inr (9, [.int 5, .int 0, .ref q17, .ref q25, .ref q33, .null, .null, .null, .int 0, .null, .int 0, .int 0, .null, .null, .int 0, .null, .null, .null, .int 0])), (q17, .inl (wd.2.1, 16, .inl (fun _ => 0))), (q25, .inl (wd.2.1, 16, .inl (fun _ => 0))), (q33, .inl (wd.2.1, 16, .inl (fun _ => 0)))] := hD
  refine lv_aload_n hx hb dk_9_init_38 rfl (lv_at hl 0 rfl) ?_
  refine lv_bipush hx hb dk_9_init_39 (v := 16) rfl ?_
  refine sk_newi hx hb (hts (.arrayClass .int) (sy_inx 119 (by decide +kernel) (by decide +kernel))) hK hP hD hS hA (N := 16) (by decide) (by decide) (by decide) (by decide) (by decide) dk_9_init_41 (fun q41 H hP hD hS => ?_)
  have hP : va_P wd.1 sy_cl [(h0, .inr (9, [.int 5, .int 0, .ref q17, .ref q25, .ref q33, .null, .null, .null, .int 0, .null, .int 0, .int 0, .null, .null, .int 0, .null, .null, .null, .int 0])), (q17, .inl (wd.2.1, 16, .inl (fun _ => 0))), (q25, .inl (wd.2.1, 16, .inl (fun _ => 0))), (q33, .inl (wd.2.1, 16, .inl (fun _ => 0))), (q41, .inl (wd.2.1, 16, .inl (fun _ => 0)))] H := hP
  have hD : va_D A [(h0, .inr (9, [.int 5, .int 0, .ref q17, .ref q25, .ref q33, .null, .null, .null, .int 0, .null, .int 0, .int 0, .null, .null, .int 0, .null, .null, .null, .int 0])), (q17, .inl (wd.2.1, 16, .inl (fun _ => 0))), (q25, .inl (wd.2.1, 16, .inl (fun _ => 0))), (q33, .inl (wd.2.1, 16, .inl (fun _ => 0))), (q41, .inl (wd.2.1, 16, .inl (fun _ => 0)))] := hD
  refine va_putF (D := wd.1) (ci := 9) (v := .ref q41) (ty := .array .int) (C := R_9) (T := F_9) (N := 19) hx hb hts i_9 t_9 t_9_ok n_9 hown hK hP hD hS 0 rfl rfl 5 (by decide) (hts (.fieldLink R_9 26 "StarHideModel" "kinds" "[I") (sy_inx 801 (by decide +kernel) (by decide +kernel))) (fun _ h9 => h9) rfl hin rfl (by decide +kernel) rfl rfl (sk_lt rfl) dk_9_init_43 (fun H locs hP hD hS => ?_)
  have hP : va_P wd.1 sy_cl [(h0, .inr (9, [.int 5, .int 0, .ref q17, .ref q25, .ref q33, .ref q41, .null, .null, .int 0, .null, .int 0, .int 0, .null, .null, .int 0, .null, .null, .null, .int 0])), (q17, .inl (wd.2.1, 16, .inl (fun _ => 0))), (q25, .inl (wd.2.1, 16, .inl (fun _ => 0))), (q33, .inl (wd.2.1, 16, .inl (fun _ => 0))), (q41, .inl (wd.2.1, 16, .inl (fun _ => 0)))] H := hP
  have hD : va_D A [(h0, .inr (9, [.int 5, .int 0, .ref q17, .ref q25, .ref q33, .ref q41, .null, .null, .int 0, .null, .int 0, .int 0, .null, .null, .int 0, .null, .null, .null, .int 0])), (q17, .inl (wd.2.1, 16, .inl (fun _ => 0))), (q25, .inl (wd.2.1, 16, .inl (fun _ => 0))), (q33, .inl (wd.2.1, 16, .inl (fun _ => 0))), (q41, .inl (wd.2.1, 16, .inl (fun _ => 0)))] := hD
  refine lv_aload_n hx hb dk_9_init_46 rfl (lv_at hl 0 rfl) ?_
  refine lv_bipush hx hb dk_9_init_47 (v := 64) rfl ?_
  refine sk_newi hx hb (hts (.arrayClass .int) (sy_inx 119 (by decide +kernel) (by decide +kernel))) hK hP hD hS hA (N := 64) (by decide) (by decide) (by decide) (by decide) (by decide) dk_9_init_49 (fun q49 H hP hD hS => ?_)
  have hP : va_P wd.1 sy_cl [(h0, .inr (9, [.int 5, .int 0, .ref q17, .ref q25, .ref q33, .ref q41, .null, .null, .int 0, .null, .int 0, .int 0, .null, .null, .int 0, .null, .null, .null, .int 0])), (q17, .inl (wd.2.1, 16, .inl (fun _ => 0))), (q25, .inl (wd.2.1, 16, .inl (fun _ => 0))), (q33, .inl (wd.2.1, 16, .inl (fun _ => 0))), (q41, .inl (wd.2.1, 16, .inl (fun _ => 0))), (q49, .inl (wd.2.1, 64, .inl (fun _ => 0)))] H := hP
  have hD : va_D A [(h0, .inr (9, [.int 5, .int 0, .ref q17, .ref q25, .ref q33, .ref q41, .null, .null, .int 0, .null, .int 0, .int 0, .null, .null, .int 0, .null, .null, .null, .int 0])), (q17, .inl (wd.2.1, 16, .inl (fun _ => 0))), (q25, .inl (wd.2.1, 16, .inl (fun _ => 0))), (q33, .inl (wd.2.1, 16, .inl (fun _ => 0))), (q41, .inl (wd.2.1, 16, .inl (fun _ => 0))), (q49, .inl (wd.2.1, 64, .inl (fun _ => 0)))] := hD
  refine va_putF (D := wd.1) (ci := 9) (v := .ref q49) (ty := .array .int) (C := R_9) (T := F_9) (N := 19) hx hb hts i_9 t_9 t_9_ok n_9 hown hK hP hD hS 0 rfl rfl 6 (by decide) (hts (.fieldLink R_9 29 "StarHideModel" "ticks" "[I") (sy_inx 802 (by decide +kernel) (by decide +kernel))) (fun _ h9 => h9) rfl hin rfl (by decide +kernel) rfl rfl (sk_lt rfl) dk_9_init_51 (fun H locs hP hD hS => ?_)
  have hP : va_P wd.1 sy_cl [(h0, .inr (9, [.int 5, .int 0, .ref q17, .ref q25, .ref q33, .ref q41, .ref q49, .null, .int 0, .null, .int 0, .int 0, .null, .null, .int 0, .null, .null, .null, .int 0])), (q17, .inl (wd.2.1, 16, .inl (fun _ => 0))), (q25, .inl (wd.2.1, 16, .inl (fun _ => 0))), (q33, .inl (wd.2.1, 16, .inl (fun _ => 0))), (q41, .inl (wd.2.1, 16, .inl (fun _ => 0))), (q49, .inl (wd.2.1, 64, .inl (fun _ => 0)))] H := hP
  have hD : va_D A [(h0, .inr (9, [.int 5, .int 0, .ref q17, .ref q25, .ref q33, .ref q41, .ref q49, .null, .int 0, .null, .int 0, .int 0, .null, .null, .int 0, .null, .null, .null, .int 0])), (q17, .inl (wd.2.1, 16, .inl (fun _ => 0))), (q25, .inl (wd.2.1, 16, .inl (fun _ => 0))), (q33, .inl (wd.2.1, 16, .inl (fun _ => 0))), (q41, .inl (wd.2.1, 16, .inl (fun _ => 0))), (q49, .inl (wd.2.1, 64, .inl (fun _ => 0)))] := hD
  refine lv_aload_n hx hb dk_9_init_54 rfl (lv_at hl 0 rfl) ?_
  refine lv_bipush hx hb dk_9_init_55 (v := 12) rfl ?_
  refine sk_newi hx hb (hts (.arrayClass .int) (sy_inx 119 (by decide +kernel) (by decide +kernel))) hK hP hD hS hA (N := 12) (by decide) (by decide) (by decide) (by decide) (by decide) dk_9_init_57 (fun q57 H hP hD hS => ?_)
  have hP : va_P wd.1 sy_cl [(h0, .inr (9, [.int 5, .int 0, .ref q17, .ref q25, .ref q33, .ref q41, .ref q49, .null, .int 0, .null, .int 0, .int 0, .null, .null, .int 0, .null, .null, .null, .int 0])), (q17, .inl (wd.2.1, 16, .inl (fun _ => 0))), (q25, .inl (wd.2.1, 16, .inl (fun _ => 0))), (q33, .inl (wd.2.1, 16, .inl (fun _ => 0))), (q41, .inl (wd.2.1, 16, .inl (fun _ => 0))), (q49, .inl (wd.2.1, 64, .inl (fun _ => 0))), (q57, .inl (wd.2.1, 12, .inl (fun _ => 0)))] H := hP
  have hD : va_D A [(h0, .inr (9, [.int 5, .int 0, .ref q17, .ref q25, .ref q33, .ref q41, .ref q49, .null, .int 0, .null, .int 0, .int 0, .null, .null, .int 0, .null, .null, .null, .int 0])), (q17, .inl (wd.2.1, 16, .inl (fun _ => 0))), (q25, .inl (wd.2.1, 16, .inl (fun _ => 0))), (q33, .inl (wd.2.1, 16, .inl (fun _ => 0))), (q41, .inl (wd.2.1, 16, .inl (fun _ => 0))), (q49, .inl (wd.2.1, 64, .inl (fun _ => 0))), (q57, .inl (wd.2.1, 12, .inl (fun _ => 0)))] := hD
  refine va_putF (D := wd.1) (ci := 9) (v := .ref q57) (ty := .array .int) (C := R_9) (T := F_9) (N := 19) hx hb hts i_9 t_9 t_9_ok n_9 hown hK hP hD hS 0 rfl rfl 7 (by decide) (hts (.fieldLink R_9 32 "StarHideModel" "net" "[I") (sy_inx 803 (by decide +kernel) (by decide +kernel))) (fun _ h9 => h9) rfl hin rfl (by decide +kernel) rfl rfl (sk_lt rfl) dk_9_init_59 (fun H locs hP hD hS => ?_)
  have hP : va_P wd.1 sy_cl [(h0, .inr (9, [.int 5, .int 0, .ref q17, .ref q25, .ref q33, .ref q41, .ref q49, .ref q57, .int 0, .null, .int 0, .int 0, .null, .null, .int 0, .null, .null, .null, .int 0])), (q17, .inl (wd.2.1, 16, .inl (fun _ => 0))), (q25, .inl (wd.2.1, 16, .inl (fun _ => 0))), (q33, .inl (wd.2.1, 16, .inl (fun _ => 0))), (q41, .inl (wd.2.1, 16, .inl (fun _ => 0))), (q49, .inl (wd.2.1, 64, .inl (fun _ => 0))), (q57, .inl (wd.2.1, 12, .inl (fun _ => 0)))] H := hP
  have hD : va_D A [(h0, .inr (9, [.int 5, .int 0, .ref q17, .ref q25, .ref q33, .ref q41, .ref q49, .ref q57, .int 0, .null, .int 0, .int 0, .null, .null, .int 0, .null, .null, .null, .int 0])), (q17, .inl (wd.2.1, 16, .inl (fun _ => 0))), (q25, .inl (wd.2.1, 16, .inl (fun _ => 0))), (q33, .inl (wd.2.1, 16, .inl (fun _ => 0))), (q41, .inl (wd.2.1, 16, .inl (fun _ => 0))), (q49, .inl (wd.2.1, 64, .inl (fun _ => 0))), (q57, .inl (wd.2.1, 12, .inl (fun _ => 0)))] := hD
  refine lv_aload_n hx hb dk_9_init_62 rfl (lv_at hl 0 rfl) ?_
  refine lv_iconst hx hb dk_9_init_63 (v := 0) rfl ?_
  refine va_put (D := wd.1) (ci := 9) (v := .int 0) (ty := .int) (C := R_9) (T := F_9) (N := 19) hx hb hts i_9 t_9 t_9_ok n_9 hown hK hP hD hS 0 rfl rfl 8 (by decide) (hts (.fieldLink R_9 35 "StarHideModel" "dips" "I") (sy_inx 804 (by decide +kernel) (by decide +kernel))) (fun _ h9 => h9) rfl (by decide +kernel) rfl rfl (sk_lt rfl) dk_9_init_64 (fun H locs hP hD hS => ?_)
  have hP : va_P wd.1 sy_cl [(h0, .inr (9, [.int 5, .int 0, .ref q17, .ref q25, .ref q33, .ref q41, .ref q49, .ref q57, .int 0, .null, .int 0, .int 0, .null, .null, .int 0, .null, .null, .null, .int 0])), (q17, .inl (wd.2.1, 16, .inl (fun _ => 0))), (q25, .inl (wd.2.1, 16, .inl (fun _ => 0))), (q33, .inl (wd.2.1, 16, .inl (fun _ => 0))), (q41, .inl (wd.2.1, 16, .inl (fun _ => 0))), (q49, .inl (wd.2.1, 64, .inl (fun _ => 0))), (q57, .inl (wd.2.1, 12, .inl (fun _ => 0)))] H := hP
  have hD : va_D A [(h0, .inr (9, [.int 5, .int 0, .ref q17, .ref q25, .ref q33, .ref q41, .ref q49, .ref q57, .int 0, .null, .int 0, .int 0, .null, .null, .int 0, .null, .null, .null, .int 0])), (q17, .inl (wd.2.1, 16, .inl (fun _ => 0))), (q25, .inl (wd.2.1, 16, .inl (fun _ => 0))), (q33, .inl (wd.2.1, 16, .inl (fun _ => 0))), (q41, .inl (wd.2.1, 16, .inl (fun _ => 0))), (q49, .inl (wd.2.1, 64, .inl (fun _ => 0))), (q57, .inl (wd.2.1, 12, .inl (fun _ => 0)))] := hD
  refine lv_aload_n hx hb dk_9_init_67 rfl (lv_at hl 0 rfl) ?_
  refine lv_bipush hx hb dk_9_init_68 (v := 30) rfl ?_
  refine sk_newi hx hb (hts (.arrayClass .int) (sy_inx 119 (by decide +kernel) (by decide +kernel))) hK hP hD hS hA (N := 30) (by decide) (by decide) (by decide) (by decide) (by decide) dk_9_init_70 (fun q70 H hP hD hS => ?_)
  have hP : va_P wd.1 sy_cl [(h0, .inr (9, [.int 5, .int 0, .ref q17, .ref q25, .ref q33, .ref q41, .ref q49, .ref q57, .int 0, .null, .int 0, .int 0, .null, .null, .int 0, .null, .null, .null, .int 0])), (q17, .inl (wd.2.1, 16, .inl (fun _ => 0))), (q25, .inl (wd.2.1, 16, .inl (fun _ => 0))), (q33, .inl (wd.2.1, 16, .inl (fun _ => 0))), (q41, .inl (wd.2.1, 16, .inl (fun _ => 0))), (q49, .inl (wd.2.1, 64, .inl (fun _ => 0))), (q57, .inl (wd.2.1, 12, .inl (fun _ => 0))), (q70, .inl (wd.2.1, 30, .inl (fun _ => 0)))] H := hP
  have hD : va_D A [(h0, .inr (9, [.int 5, .int 0, .ref q17, .ref q25, .ref q33, .ref q41, .ref q49, .ref q57, .int 0, .null, .int 0, .int 0, .null, .null, .int 0, .null, .null, .null, .int 0])), (q17, .inl (wd.2.1, 16, .inl (fun _ => 0))), (q25, .inl (wd.2.1, 16, .inl (fun _ => 0))), (q33, .inl (wd.2.1, 16, .inl (fun _ => 0))), (q41, .inl (wd.2.1, 16, .inl (fun _ => 0))), (q49, .inl (wd.2.1, 64, .inl (fun _ => 0))), (q57, .inl (wd.2.1, 12, .inl (fun _ => 0))), (q70, .inl (wd.2.1, 30, .inl (fun _ => 0)))] := hD
  refine va_putF (D := wd.1) (ci := 9) (v := .ref q70) (ty := .array .int) (C := R_9) (T := F_9) (N := 19) hx hb hts i_9 t_9 t_9_ok n_9 hown hK hP hD hS 0 rfl rfl 9 (by decide) (hts (.fieldLink R_9 38 "StarHideModel" "dip" "[I") (sy_inx 805 (by decide +kernel) (by decide +kernel))) (fun _ h9 => h9) rfl hin rfl (by decide +kernel) rfl rfl (sk_lt rfl) dk_9_init_72 (fun H locs hP hD hS => ?_)
  have hP : va_P wd.1 sy_cl [(h0, .inr (9, [.int 5, .int 0, .ref q17, .ref q25, .ref q33, .ref q41, .ref q49, .ref q57, .int 0, .ref q70, .int 0, .int 0, .null, .null, .int 0, .null, .null, .null, .int 0])), (q17, .inl (wd.2.1, 16, .inl (fun _ => 0))), (q25, .inl (wd.2.1, 16, .inl (fun _ => 0))), (q33, .inl (wd.2.1, 16, .inl (fun _ => 0))), (q41, .inl (wd.2.1, 16, .inl (fun _ => 0))), (q49, .inl (wd.2.1, 64, .inl (fun _ => 0))), (q57, .inl (wd.2.1, 12, .inl (fun _ => 0))), (q70, .inl (wd.2.1, 30, .inl (fun _ => 0)))] H := hP
  have hD : va_D A [(h0, .inr (9, [.int 5, .int 0, .ref q17, .ref q25, .ref q33, .ref q41, .ref q49, .ref q57, .int 0, .ref q70, .int 0, .int 0, .null, .null, .int 0, .null, .null, .null, .int 0])), (q17, .inl (wd.2.1, 16, .inl (fun _ => 0))), (q25, .inl (wd.2.1, 16, .inl (fun _ => 0))), (q33, .inl (wd.2.1, 16, .inl (fun _ => 0))), (q41, .inl (wd.2.1, 16, .inl (fun _ => 0))), (q49, .inl (wd.2.1, 64, .inl (fun _ => 0))), (q57, .inl (wd.2.1, 12, .inl (fun _ => 0))), (q70, .inl (wd.2.1, 30, .inl (fun _ => 0)))] := hD
  refine lv_aload_n hx hb dk_9_init_75 rfl (lv_at hl 0 rfl) ?_
  refine lv_bipush hx hb dk_9_init_76 (v := 10) rfl ?_
  refine va_put (D := wd.1) (ci := 9) (v := .int 10) (ty := .int) (C := R_9) (T := F_9) (N := 19) hx hb hts i_9 t_9 t_9_ok n_9 hown hK hP hD hS 0 rfl rfl 10 (by decide) (hts (.fieldLink R_9 41 "StarHideModel" "even" "I") (sy_inx 806 (by decide +kernel) (by decide +kernel))) (fun _ h9 => h9) rfl (by decide +kernel) rfl rfl (sk_lt rfl) dk_9_init_78 (fun H locs hP hD hS => ?_)
  have hP : va_P wd.1 sy_cl [(h0, .inr (9, [.int 5, .int 0, .ref q17, .ref q25, .ref q33, .ref q41, .ref q49, .ref q57, .int 0, .ref q70, .int 10, .int 0, .null, .null, .int 0, .null, .null, .null, .int 0])), (q17, .inl (wd.2.1, 16, .inl (fun _ => 0))), (q25, .inl (wd.2.1, 16, .inl (fun _ => 0))), (q33, .inl (wd.2.1, 16, .inl (fun _ => 0))), (q41, .inl (wd.2.1, 16, .inl (fun _ => 0))), (q49, .inl (wd.2.1, 64, .inl (fun _ => 0))), (q57, .inl (wd.2.1, 12, .inl (fun _ => 0))), (q70, .inl (wd.2.1, 30, .inl (fun _ => 0)))] H := hP
  have hD : va_D A [(h0, .inr (9, [.int 5, .int 0, .ref q17, .ref q25, .ref q33, .ref q41, .ref q49, .ref q57, .int 0, .ref q70, .int 10, .int 0, .null, .null, .int 0, .null, .null, .null, .int 0])), (q17, .inl (wd.2.1, 16, .inl (fun _ => 0))), (q25, .inl (wd.2.1, 16, .inl (fun _ => 0))), (q33, .inl (wd.2.1, 16, .inl (fun _ => 0))), (q41, .inl (wd.2.1, 16, .inl (fun _ => 0))), (q49, .inl (wd.2.1, 64, .inl (fun _ => 0))), (q57, .inl (wd.2.1, 12, .inl (fun _ => 0))), (q70, .inl (wd.2.1, 30, .inl (fun _ => 0)))] := hD
  refine lv_aload_n hx hb dk_9_init_81 rfl (lv_at hl 0 rfl) ?_
  refine lv_iconst hx hb dk_9_init_82 (v := 0) rfl ?_
  refine va_put (D := wd.1) (ci := 9) (v := .int 0) (ty := .int) (C := R_9) (T := F_9) (N := 19) hx hb hts i_9 t_9 t_9_ok n_9 hown hK hP hD hS 0 rfl rfl 11 (by decide) (hts (.fieldLink R_9 44 "StarHideModel" "points" "I") (sy_inx 807 (by decide +kernel) (by decide +kernel))) (fun _ h9 => h9) rfl (by decide +kernel) rfl rfl (sk_lt rfl) dk_9_init_83 (fun H locs hP hD hS => ?_)
  have hP : va_P wd.1 sy_cl [(h0, .inr (9, [.int 5, .int 0, .ref q17, .ref q25, .ref q33, .ref q41, .ref q49, .ref q57, .int 0, .ref q70, .int 10, .int 0, .null, .null, .int 0, .null, .null, .null, .int 0])), (q17, .inl (wd.2.1, 16, .inl (fun _ => 0))), (q25, .inl (wd.2.1, 16, .inl (fun _ => 0))), (q33, .inl (wd.2.1, 16, .inl (fun _ => 0))), (q41, .inl (wd.2.1, 16, .inl (fun _ => 0))), (q49, .inl (wd.2.1, 64, .inl (fun _ => 0))), (q57, .inl (wd.2.1, 12, .inl (fun _ => 0))), (q70, .inl (wd.2.1, 30, .inl (fun _ => 0)))] H := hP
  have hD : va_D A [(h0, .inr (9, [.int 5, .int 0, .ref q17, .ref q25, .ref q33, .ref q41, .ref q49, .ref q57, .int 0, .ref q70, .int 10, .int 0, .null, .null, .int 0, .null, .null, .null, .int 0])), (q17, .inl (wd.2.1, 16, .inl (fun _ => 0))), (q25, .inl (wd.2.1, 16, .inl (fun _ => 0))), (q33, .inl (wd.2.1, 16, .inl (fun _ => 0))), (q41, .inl (wd.2.1, 16, .inl (fun _ => 0))), (q49, .inl (wd.2.1, 64, .inl (fun _ => 0))), (q57, .inl (wd.2.1, 12, .inl (fun _ => 0))), (q70, .inl (wd.2.1, 30, .inl (fun _ => 0)))] := hD
  refine lv_aload_n hx hb dk_9_init_86 rfl (lv_at hl 0 rfl) ?_
  refine lv_bipush hx hb dk_9_init_87 (v := 32) rfl ?_
  refine sk_newl hx hb (hts (.arrayClass .long) (sy_inx 854 (by decide +kernel) (by decide +kernel))) hK hP hD hS hA (N := 32) (by decide) (by decide) (by decide) (by decide) (by decide) dk_9_init_89 (fun q89 H hP hD hS => ?_)
  have hP : va_P wd.1 sy_cl [(h0, .inr (9, [.int 5, .int 0, .ref q17, .ref q25, .ref q33, .ref q41, .ref q49, .ref q57, .int 0, .ref q70, .int 10, .int 0, .null, .null, .int 0, .null, .null, .null, .int 0])), (q17, .inl (wd.2.1, 16, .inl (fun _ => 0))), (q25, .inl (wd.2.1, 16, .inl (fun _ => 0))), (q33, .inl (wd.2.1, 16, .inl (fun _ => 0))), (q41, .inl (wd.2.1, 16, .inl (fun _ => 0))), (q49, .inl (wd.2.1, 64, .inl (fun _ => 0))), (q57, .inl (wd.2.1, 12, .inl (fun _ => 0))), (q70, .inl (wd.2.1, 30, .inl (fun _ => 0))), (q89, .inl (wd.2.2.1, 32, .inr (.inl (fun _ => 0))))] H := hP
  have hD : va_D A [(h0, .inr (9, [.int 5, .int 0, .ref q17, .ref q25, .ref q33, .ref q41, .ref q49, .ref q57, .int 0, .ref q70, .int 10, .int 0, .null, .null, .int 0, .null, .null, .null, .int 0])), (q17, .inl (wd.2.1, 16, .inl (fun _ => 0))), (q25, .inl (wd.2.1, 16, .inl (fun _ => 0))), (q33, .inl (wd.2.1, 16, .inl (fun _ => 0))), (q41, .inl (wd.2.1, 16, .inl (fun _ => 0))), (q49, .inl (wd.2.1, 64, .inl (fun _ => 0))), (q57, .inl (wd.2.1, 12, .inl (fun _ => 0))), (q70, .inl (wd.2.1, 30, .inl (fun _ => 0))), (q89, .inl (wd.2.2.1, 32, .inr (.inl (fun _ => 0))))] := hD
  refine va_putF (D := wd.1) (ci := 9) (v := .ref q89) (ty := .array .long) (C := R_9) (T := F_9) (N := 19) hx hb hts i_9 t_9 t_9_ok n_9 hown hK hP hD hS 0 rfl rfl 12 (by decide) (hts (.fieldLink R_9 47 "StarHideModel" "px" "[J") (sy_inx 808 (by decide +kernel) (by decide +kernel))) (fun _ h9 => h9) rfl hin rfl (by decide +kernel) rfl rfl (sk_lt rfl) dk_9_init_91 (fun H locs hP hD hS => ?_)
  have hP : va_P wd.1 sy_cl [(h0, .inr (9, [.int 5, .int 0, .ref q17, .ref q25, .ref q33, .ref q41, .ref q49, .ref q57, .int 0, .ref q70, .int 10, .int 0, .ref q89, .null, .int 0, .null, .null, .null, .int 0])), (q17, .inl (wd.2.1, 16, .inl (fun _ => 0))), (q25, .inl (wd.2.1, 16, .inl (fun _ => 0))), (q33, .inl (wd.2.1, 16, .inl (fun _ => 0))), (q41, .inl (wd.2.1, 16, .inl (fun _ => 0))), (q49, .inl (wd.2.1, 64, .inl (fun _ => 0))), (q57, .inl (wd.2.1, 12, .inl (fun _ => 0))), (q70, .inl (wd.2.1, 30, .inl (fun _ => 0))), (q89, .inl (wd.2.2.1, 32, .inr (.inl (fun _ => 0))))] H := hP
  have hD : va_D A [(h0, .inr (9, [.int 5, .int 0, .ref q17, .ref q25, .ref q33, .ref q41, .ref q49, .ref q57, .int 0, .ref q70, .int 10, .int 0, .ref q89, .null, .int 0, .null, .null, .null, .int 0])), (q17, .inl (wd.2.1, 16, .inl (fun _ => 0))), (q25, .inl (wd.2.1, 16, .inl (fun _ => 0))), (q33, .inl (wd.2.1, 16, .inl (fun _ => 0))), (q41, .inl (wd.2.1, 16, .inl (fun _ => 0))), (q49, .inl (wd.2.1, 64, .inl (fun _ => 0))), (q57, .inl (wd.2.1, 12, .inl (fun _ => 0))), (q70, .inl (wd.2.1, 30, .inl (fun _ => 0))), (q89, .inl (wd.2.2.1, 32, .inr (.inl (fun _ => 0))))] := hD
  refine lv_aload_n hx hb dk_9_init_94 rfl (lv_at hl 0 rfl) ?_
  refine lv_bipush hx hb dk_9_init_95 (v := 32) rfl ?_
  refine sk_newl hx hb (hts (.arrayClass .long) (sy_inx 854 (by decide +kernel) (by decide +kernel))) hK hP hD hS hA (N := 32) (by decide) (by decide) (by decide) (by decide) (by decide) dk_9_init_97 (fun q97 H hP hD hS => ?_)
  have hP : va_P wd.1 sy_cl [(h0, .inr (9, [.int 5, .int 0, .ref q17, .ref q25, .ref q33, .ref q41, .ref q49, .ref q57, .int 0, .ref q70, .int 10, .int 0, .ref q89, .null, .int 0, .null, .null, .null, .int 0])), (q17, .inl (wd.2.1, 16, .inl (fun _ => 0))), (q25, .inl (wd.2.1, 16, .inl (fun _ => 0))), (q33, .inl (wd.2.1, 16, .inl (fun _ => 0))), (q41, .inl (wd.2.1, 16, .inl (fun _ => 0))), (q49, .inl (wd.2.1, 64, .inl (fun _ => 0))), (q57, .inl (wd.2.1, 12, .inl (fun _ => 0))), (q70, .inl (wd.2.1, 30, .inl (fun _ => 0))), (q89, .inl (wd.2.2.1, 32, .inr (.inl (fun _ => 0)))), (q97, .inl (wd.2.2.1, 32, .inr (.inl (fun _ => 0))))] H := hP
  have hD : va_D A [(h0, .inr (9, [.int 5, .int 0, .ref q17, .ref q25, .ref q33, .ref q41, .ref q49, .ref q57, .int 0, .ref q70, .int 10, .int 0, .ref q89, .null, .int 0, .null, .null, .null, .int 0])), (q17, .inl (wd.2.1, 16, .inl (fun _ => 0))), (q25, .inl (wd.2.1, 16, .inl (fun _ => 0))), (q33, .inl (wd.2.1, 16, .inl (fun _ => 0))), (q41, .inl (wd.2.1, 16, .inl (fun _ => 0))), (q49, .inl (wd.2.1, 64, .inl (fun _ => 0))), (q57, .inl (wd.2.1, 12, .inl (fun _ => 0))), (q70, .inl (wd.2.1, 30, .inl (fun _ => 0))), (q89, .inl (wd.2.2.1, 32, .inr (.inl (fun _ => 0)))), (q97, .inl (wd.2.2.1, 32, .inr (.inl (fun _ => 0))))] := hD
  refine va_putF (D := wd.1) (ci := 9) (v := .ref q97) (ty := .array .long) (C := R_9) (T := F_9) (N := 19) hx hb hts i_9 t_9 t_9_ok n_9 hown hK hP hD hS 0 rfl rfl 13 (by decide) (hts (.fieldLink R_9 51 "StarHideModel" "py" "[J") (sy_inx 809 (by decide +kernel) (by decide +kernel))) (fun _ h9 => h9) rfl hin rfl (by decide +kernel) rfl rfl (sk_lt rfl) dk_9_init_99 (fun H locs hP hD hS => ?_)
  have hP : va_P wd.1 sy_cl [(h0, .inr (9, [.int 5, .int 0, .ref q17, .ref q25, .ref q33, .ref q41, .ref q49, .ref q57, .int 0, .ref q70, .int 10, .int 0, .ref q89, .ref q97, .int 0, .null, .null, .null, .int 0])), (q17, .inl (wd.2.1, 16, .inl (fun _ => 0))), (q25, .inl (wd.2.1, 16, .inl (fun _ => 0))), (q33, .inl (wd.2.1, 16, .inl (fun _ => 0))), (q41, .inl (wd.2.1, 16, .inl (fun _ => 0))), (q49, .inl (wd.2.1, 64, .inl (fun _ => 0))), (q57, .inl (wd.2.1, 12, .inl (fun _ => 0))), (q70, .inl (wd.2.1, 30, .inl (fun _ => 0))), (q89, .inl (wd.2.2.1, 32, .inr (.inl (fun _ => 0)))), (q97, .inl (wd.2.2.1, 32, .inr (.inl (fun _ => 0))))] H := hP
  have hD : va_D A [(h0, .inr (9, [.int 5, .int 0, .ref q17, .ref q25, .ref q33, .ref q41, .ref q49, .ref q57, .int 0, .ref q70, .int 10, .int 0, .ref q89, .ref q97, .int 0, .null, .null, .null, .int 0])), (q17, .inl (wd.2.1, 16, .inl (fun _ => 0))), (q25, .inl (wd.2.1, 16, .inl (fun _ => 0))), (q33, .inl (wd.2.1, 16, .inl (fun _ => 0))), (q41, .inl (wd.2.1, 16, .inl (fun _ => 0))), (q49, .inl (wd.2.1, 64, .inl (fun _ => 0))), (q57, .inl (wd.2.1, 12, .inl (fun _ => 0))), (q70, .inl (wd.2.1, 30, .inl (fun _ => 0))), (q89, .inl (wd.2.2.1, 32, .inr (.inl (fun _ => 0)))), (q97, .inl (wd.2.2.1, 32, .inr (.inl (fun _ => 0))))] := hD
  refine lv_aload_n hx hb dk_9_init_102 rfl (lv_at hl 0 rfl) ?_
  refine lv_iconst hx hb dk_9_init_103 (v := 0) rfl ?_
  refine va_put (D := wd.1) (ci := 9) (v := .int 0) (ty := .int) (C := R_9) (T := F_9) (N := 19) hx hb hts i_9 t_9 t_9_ok n_9 hown hK hP hD hS 0 rfl rfl 14 (by decide) (hts (.fieldLink R_9 54 "StarHideModel" "corners" "I") (sy_inx 810 (by decide +kernel) (by decide +kernel))) (fun _ h9 => h9) rfl (by decide +kernel) rfl rfl (sk_lt rfl) dk_9_init_104 (fun H locs hP hD hS => ?_)
  have hP : va_P wd.1 sy_cl [(h0, .inr (9, [.int 5, .int 0, .ref q17, .ref q25, .ref q33, .ref q41, .ref q49, .ref q57, .int 0, .ref q70, .int 10, .int 0, .ref q89, .ref q97, .int 0, .null, .null, .null, .int 0])), (q17, .inl (wd.2.1, 16, .inl (fun _ => 0))), (q25, .inl (wd.2.1, 16, .inl (fun _ => 0))), (q33, .inl (wd.2.1, 16, .inl (fun _ => 0))), (q41, .inl (wd.2.1, 16, .inl (fun _ => 0))), (q49, .inl (wd.2.1, 64, .inl (fun _ => 0))), (q57, .inl (wd.2.1, 12, .inl (fun _ => 0))), (q70, .inl (wd.2.1, 30, .inl (fun _ => 0))), (q89, .inl (wd.2.2.1, 32, .inr (.inl (fun _ => 0)))), (q97, .inl (wd.2.2.1, 32, .inr (.inl (fun _ => 0))))] H := hP
  have hD : va_D A [(h0, .inr (9, [.int 5, .int 0, .ref q17, .ref q25, .ref q33, .ref q41, .ref q49, .ref q57, .int 0, .ref q70, .int 10, .int 0, .ref q89, .ref q97, .int 0, .null, .null, .null, .int 0])), (q17, .inl (wd.2.1, 16, .inl (fun _ => 0))), (q25, .inl (wd.2.1, 16, .inl (fun _ => 0))), (q33, .inl (wd.2.1, 16, .inl (fun _ => 0))), (q41, .inl (wd.2.1, 16, .inl (fun _ => 0))), (q49, .inl (wd.2.1, 64, .inl (fun _ => 0))), (q57, .inl (wd.2.1, 12, .inl (fun _ => 0))), (q70, .inl (wd.2.1, 30, .inl (fun _ => 0))), (q89, .inl (wd.2.2.1, 32, .inr (.inl (fun _ => 0)))), (q97, .inl (wd.2.2.1, 32, .inr (.inl (fun _ => 0))))] := hD
  refine lv_aload_n hx hb dk_9_init_107 rfl (lv_at hl 0 rfl) ?_
  refine lv_bipush hx hb dk_9_init_108 (v := 33) rfl ?_
  refine sk_newi hx hb (hts (.arrayClass .int) (sy_inx 119 (by decide +kernel) (by decide +kernel))) hK hP hD hS hA (N := 33) (by decide) (by decide) (by decide) (by decide) (by decide) dk_9_init_110 (fun q110 H hP hD hS => ?_)
  have hP : va_P wd.1 sy_cl [(h0, .inr (9, [.int 5, .int 0, .ref q17, .ref q25, .ref q33, .ref q41, .ref q49, .ref q57, .int 0, .ref q70, .int 10, .int 0, .ref q89, .ref q97, .int 0, .null, .null, .null, .int 0])), (q17, .inl (wd.2.1, 16, .inl (fun _ => 0))), (q25, .inl (wd.2.1, 16, .inl (fun _ => 0))), (q33, .inl (wd.2.1, 16, .inl (fun _ => 0))), (q41, .inl (wd.2.1, 16, .inl (fun _ => 0))), (q49, .inl (wd.2.1, 64, .inl (fun _ => 0))), (q57, .inl (wd.2.1, 12, .inl (fun _ => 0))), (q70, .inl (wd.2.1, 30, .inl (fun _ => 0))), (q89, .inl (wd.2.2.1, 32, .inr (.inl (fun _ => 0)))), (q97, .inl (wd.2.2.1, 32, .inr (.inl (fun _ => 0)))), (q110, .inl (wd.2.1, 33, .inl (fun _ => 0)))] H := hP
  have hD : va_D A [(h0, .inr (9, [.int 5, .int 0, .ref q17, .ref q25, .ref q33, .ref q41, .ref q49, .ref q57, .int 0, .ref q70, .int 10, .int 0, .ref q89, .ref q97, .int 0, .null, .null, .null, .int 0])), (q17, .inl (wd.2.1, 16, .inl (fun _ => 0))), (q25, .inl (wd.2.1, 16, .inl (fun _ => 0))), (q33, .inl (wd.2.1, 16, .inl (fun _ => 0))), (q41, .inl (wd.2.1, 16, .inl (fun _ => 0))), (q49, .inl (wd.2.1, 64, .inl (fun _ => 0))), (q57, .inl (wd.2.1, 12, .inl (fun _ => 0))), (q70, .inl (wd.2.1, 30, .inl (fun _ => 0))), (q89, .inl (wd.2.2.1, 32, .inr (.inl (fun _ => 0)))), (q97, .inl (wd.2.2.1, 32, .inr (.inl (fun _ => 0)))), (q110, .inl (wd.2.1, 33, .inl (fun _ => 0)))] := hD
  refine va_putF (D := wd.1) (ci := 9) (v := .ref q110) (ty := .array .int) (C := R_9) (T := F_9) (N := 19) hx hb hts i_9 t_9 t_9_ok n_9 hown hK hP hD hS 0 rfl rfl 15 (by decide) (hts (.fieldLink R_9 57 "StarHideModel" "corner" "[I") (sy_inx 811 (by decide +kernel) (by decide +kernel))) (fun _ h9 => h9) rfl hin rfl (by decide +kernel) rfl rfl (sk_lt rfl) dk_9_init_112 (fun H locs hP hD hS => ?_)
  have hP : va_P wd.1 sy_cl [(h0, .inr (9, [.int 5, .int 0, .ref q17, .ref q25, .ref q33, .ref q41, .ref q49, .ref q57, .int 0, .ref q70, .int 10, .int 0, .ref q89, .ref q97, .int 0, .ref q110, .null, .null, .int 0])), (q17, .inl (wd.2.1, 16, .inl (fun _ => 0))), (q25, .inl (wd.2.1, 16, .inl (fun _ => 0))), (q33, .inl (wd.2.1, 16, .inl (fun _ => 0))), (q41, .inl (wd.2.1, 16, .inl (fun _ => 0))), (q49, .inl (wd.2.1, 64, .inl (fun _ => 0))), (q57, .inl (wd.2.1, 12, .inl (fun _ => 0))), (q70, .inl (wd.2.1, 30, .inl (fun _ => 0))), (q89, .inl (wd.2.2.1, 32, .inr (.inl (fun _ => 0)))), (q97, .inl (wd.2.2.1, 32, .inr (.inl (fun _ => 0)))), (q110, .inl (wd.2.1, 33, .inl (fun _ => 0)))] H := hP
  have hD : va_D A [(h0, .inr (9, [.int 5, .int 0, .ref q17, .ref q25, .ref q33, .ref q41, .ref q49, .ref q57, .int 0, .ref q70, .int 10, .int 0, .ref q89, .ref q97, .int 0, .ref q110, .null, .null, .int 0])), (q17, .inl (wd.2.1, 16, .inl (fun _ => 0))), (q25, .inl (wd.2.1, 16, .inl (fun _ => 0))), (q33, .inl (wd.2.1, 16, .inl (fun _ => 0))), (q41, .inl (wd.2.1, 16, .inl (fun _ => 0))), (q49, .inl (wd.2.1, 64, .inl (fun _ => 0))), (q57, .inl (wd.2.1, 12, .inl (fun _ => 0))), (q70, .inl (wd.2.1, 30, .inl (fun _ => 0))), (q89, .inl (wd.2.2.1, 32, .inr (.inl (fun _ => 0)))), (q97, .inl (wd.2.2.1, 32, .inr (.inl (fun _ => 0)))), (q110, .inl (wd.2.1, 33, .inl (fun _ => 0)))] := hD
  refine lv_aload_n hx hb dk_9_init_115 rfl (lv_at hl 0 rfl) ?_
  refine lv_bipush hx hb dk_9_init_116 (v := 16) rfl ?_
  refine sk_newi hx hb (hts (.arrayClass .int) (sy_inx 119 (by decide +kernel) (by decide +kernel))) hK hP hD hS hA (N := 16) (by decide) (by decide) (by decide) (by decide) (by decide) dk_9_init_118 (fun q118 H hP hD hS => ?_)
  have hP : va_P wd.1 sy_cl [(h0, .inr (9, [.int 5, .int 0, .ref q17, .ref q25, .ref q33, .ref q41, .ref q49, .ref q57, .int 0, .ref q70, .int 10, .int 0, .ref q89, .ref q97, .int 0, .ref q110, .null, .null, .int 0])), (q17, .inl (wd.2.1, 16, .inl (fun _ => 0))), (q25, .inl (wd.2.1, 16, .inl (fun _ => 0))), (q33, .inl (wd.2.1, 16, .inl (fun _ => 0))), (q41, .inl (wd.2.1, 16, .inl (fun _ => 0))), (q49, .inl (wd.2.1, 64, .inl (fun _ => 0))), (q57, .inl (wd.2.1, 12, .inl (fun _ => 0))), (q70, .inl (wd.2.1, 30, .inl (fun _ => 0))), (q89, .inl (wd.2.2.1, 32, .inr (.inl (fun _ => 0)))), (q97, .inl (wd.2.2.1, 32, .inr (.inl (fun _ => 0)))), (q110, .inl (wd.2.1, 33, .inl (fun _ => 0))), (q118, .inl (wd.2.1, 16, .inl (fun _ => 0)))] H := hP
  have hD : va_D A [(h0, .inr (9, [.int 5, .int 0, .ref q17, .ref q25, .ref q33, .ref q41, .ref q49, .ref q57, .int 0, .ref q70, .int 10, .int 0, .ref q89, .ref q97, .int 0, .ref q110, .null, .null, .int 0])), (q17, .inl (wd.2.1, 16, .inl (fun _ => 0))), (q25, .inl (wd.2.1, 16, .inl (fun _ => 0))), (q33, .inl (wd.2.1, 16, .inl (fun _ => 0))), (q41, .inl (wd.2.1, 16, .inl (fun _ => 0))), (q49, .inl (wd.2.1, 64, .inl (fun _ => 0))), (q57, .inl (wd.2.1, 12, .inl (fun _ => 0))), (q70, .inl (wd.2.1, 30, .inl (fun _ => 0))), (q89, .inl (wd.2.2.1, 32, .inr (.inl (fun _ => 0)))), (q97, .inl (wd.2.2.1, 32, .inr (.inl (fun _ => 0)))), (q110, .inl (wd.2.1, 33, .inl (fun _ => 0))), (q118, .inl (wd.2.1, 16, .inl (fun _ => 0)))] := hD
  refine va_putF (D := wd.1) (ci := 9) (v := .ref q118) (ty := .array .int) (C := R_9) (T := F_9) (N := 19) hx hb hts i_9 t_9 t_9_ok n_9 hown hK hP hD hS 0 rfl rfl 16 (by decide) (hts (.fieldLink R_9 60 "StarHideModel" "band" "[I") (sy_inx 812 (by decide +kernel) (by decide +kernel))) (fun _ h9 => h9) rfl hin rfl (by decide +kernel) rfl rfl (sk_lt rfl) dk_9_init_120 (fun H locs hP hD hS => ?_)
  have hP : va_P wd.1 sy_cl [(h0, .inr (9, [.int 5, .int 0, .ref q17, .ref q25, .ref q33, .ref q41, .ref q49, .ref q57, .int 0, .ref q70, .int 10, .int 0, .ref q89, .ref q97, .int 0, .ref q110, .ref q118, .null, .int 0])), (q17, .inl (wd.2.1, 16, .inl (fun _ => 0))), (q25, .inl (wd.2.1, 16, .inl (fun _ => 0))), (q33, .inl (wd.2.1, 16, .inl (fun _ => 0))), (q41, .inl (wd.2.1, 16, .inl (fun _ => 0))), (q49, .inl (wd.2.1, 64, .inl (fun _ => 0))), (q57, .inl (wd.2.1, 12, .inl (fun _ => 0))), (q70, .inl (wd.2.1, 30, .inl (fun _ => 0))), (q89, .inl (wd.2.2.1, 32, .inr (.inl (fun _ => 0)))), (q97, .inl (wd.2.2.1, 32, .inr (.inl (fun _ => 0)))), (q110, .inl (wd.2.1, 33, .inl (fun _ => 0))), (q118, .inl (wd.2.1, 16, .inl (fun _ => 0)))] H := hP
  have hD : va_D A [(h0, .inr (9, [.int 5, .int 0, .ref q17, .ref q25, .ref q33, .ref q41, .ref q49, .ref q57, .int 0, .ref q70, .int 10, .int 0, .ref q89, .ref q97, .int 0, .ref q110, .ref q118, .null, .int 0])), (q17, .inl (wd.2.1, 16, .inl (fun _ => 0))), (q25, .inl (wd.2.1, 16, .inl (fun _ => 0))), (q33, .inl (wd.2.1, 16, .inl (fun _ => 0))), (q41, .inl (wd.2.1, 16, .inl (fun _ => 0))), (q49, .inl (wd.2.1, 64, .inl (fun _ => 0))), (q57, .inl (wd.2.1, 12, .inl (fun _ => 0))), (q70, .inl (wd.2.1, 30, .inl (fun _ => 0))), (q89, .inl (wd.2.2.1, 32, .inr (.inl (fun _ => 0)))), (q97, .inl (wd.2.2.1, 32, .inr (.inl (fun _ => 0)))), (q110, .inl (wd.2.1, 33, .inl (fun _ => 0))), (q118, .inl (wd.2.1, 16, .inl (fun _ => 0)))] := hD
  refine lv_aload_n hx hb dk_9_init_123 rfl (lv_at hl 0 rfl) ?_
  refine lv_bipush hx hb dk_9_init_124 (v := 16) rfl ?_
  refine sk_newi hx hb (hts (.arrayClass .int) (sy_inx 119 (by decide +kernel) (by decide +kernel))) hK hP hD hS hA (N := 16) (by decide) (by decide) (by decide) (by decide) (by decide) dk_9_init_126 (fun q126 H hP hD hS => ?_)
  have hP : va_P wd.1 sy_cl [(h0, .inr (9, [.int 5, .int 0, .ref q17, .ref q25, .ref q33, .ref q41, .ref q49, .ref q57, .int 0, .ref q70, .int 10, .int 0, .ref q89, .ref q97, .int 0, .ref q110, .ref q118, .null, .int 0])), (q17, .inl (wd.2.1, 16, .inl (fun _ => 0))), (q25, .inl (wd.2.1, 16, .inl (fun _ => 0))), (q33, .inl (wd.2.1, 16, .inl (fun _ => 0))), (q41, .inl (wd.2.1, 16, .inl (fun _ => 0))), (q49, .inl (wd.2.1, 64, .inl (fun _ => 0))), (q57, .inl (wd.2.1, 12, .inl (fun _ => 0))), (q70, .inl (wd.2.1, 30, .inl (fun _ => 0))), (q89, .inl (wd.2.2.1, 32, .inr (.inl (fun _ => 0)))), (q97, .inl (wd.2.2.1, 32, .inr (.inl (fun _ => 0)))), (q110, .inl (wd.2.1, 33, .inl (fun _ => 0))), (q118, .inl (wd.2.1, 16, .inl (fun _ => 0))), (q126, .inl (wd.2.1, 16, .inl (fun _ => 0)))] H := hP
  have hD : va_D A [(h0, .inr (9, [.int 5, .int 0, .ref q17, .ref q25, .ref q33, .ref q41, .ref q49, .ref q57, .int 0, .ref q70, .int 10, .int 0, .ref q89, .ref q97, .int 0, .ref q110, .ref q118, .null, .int 0])), (q17, .inl (wd.2.1, 16, .inl (fun _ => 0))), (q25, .inl (wd.2.1, 16, .inl (fun _ => 0))), (q33, .inl (wd.2.1, 16, .inl (fun _ => 0))), (q41, .inl (wd.2.1, 16, .inl (fun _ => 0))), (q49, .inl (wd.2.1, 64, .inl (fun _ => 0))), (q57, .inl (wd.2.1, 12, .inl (fun _ => 0))), (q70, .inl (wd.2.1, 30, .inl (fun _ => 0))), (q89, .inl (wd.2.2.1, 32, .inr (.inl (fun _ => 0)))), (q97, .inl (wd.2.2.1, 32, .inr (.inl (fun _ => 0)))), (q110, .inl (wd.2.1, 33, .inl (fun _ => 0))), (q118, .inl (wd.2.1, 16, .inl (fun _ => 0))), (q126, .inl (wd.2.1, 16, .inl (fun _ => 0)))] := hD
  refine va_putF (D := wd.1) (ci := 9) (v := .ref q126) (ty := .array .int) (C := R_9) (T := F_9) (N := 19) hx hb hts i_9 t_9 t_9_ok n_9 hown hK hP hD hS 0 rfl rfl 17 (by decide) (hts (.fieldLink R_9 63 "StarHideModel" "plan" "[I") (sy_inx 813 (by decide +kernel) (by decide +kernel))) (fun _ h9 => h9) rfl hin rfl (by decide +kernel) rfl rfl (sk_lt rfl) dk_9_init_128 (fun H locs hP hD hS => ?_)
  have hP : va_P wd.1 sy_cl [(h0, .inr (9, [.int 5, .int 0, .ref q17, .ref q25, .ref q33, .ref q41, .ref q49, .ref q57, .int 0, .ref q70, .int 10, .int 0, .ref q89, .ref q97, .int 0, .ref q110, .ref q118, .ref q126, .int 0])), (q17, .inl (wd.2.1, 16, .inl (fun _ => 0))), (q25, .inl (wd.2.1, 16, .inl (fun _ => 0))), (q33, .inl (wd.2.1, 16, .inl (fun _ => 0))), (q41, .inl (wd.2.1, 16, .inl (fun _ => 0))), (q49, .inl (wd.2.1, 64, .inl (fun _ => 0))), (q57, .inl (wd.2.1, 12, .inl (fun _ => 0))), (q70, .inl (wd.2.1, 30, .inl (fun _ => 0))), (q89, .inl (wd.2.2.1, 32, .inr (.inl (fun _ => 0)))), (q97, .inl (wd.2.2.1, 32, .inr (.inl (fun _ => 0)))), (q110, .inl (wd.2.1, 33, .inl (fun _ => 0))), (q118, .inl (wd.2.1, 16, .inl (fun _ => 0))), (q126, .inl (wd.2.1, 16, .inl (fun _ => 0)))] H := hP
  have hD : va_D A [(h0, .inr (9, [.int 5, .int 0, .ref q17, .ref q25, .ref q33, .ref q41, .ref q49, .ref q57, .int 0, .ref q70, .int 10, .int 0, .ref q89, .ref q97, .int 0, .ref q110, .ref q118, .ref q126, .int 0])), (q17, .inl (wd.2.1, 16, .inl (fun _ => 0))), (q25, .inl (wd.2.1, 16, .inl (fun _ => 0))), (q33, .inl (wd.2.1, 16, .inl (fun _ => 0))), (q41, .inl (wd.2.1, 16, .inl (fun _ => 0))), (q49, .inl (wd.2.1, 64, .inl (fun _ => 0))), (q57, .inl (wd.2.1, 12, .inl (fun _ => 0))), (q70, .inl (wd.2.1, 30, .inl (fun _ => 0))), (q89, .inl (wd.2.2.1, 32, .inr (.inl (fun _ => 0)))), (q97, .inl (wd.2.2.1, 32, .inr (.inl (fun _ => 0)))), (q110, .inl (wd.2.1, 33, .inl (fun _ => 0))), (q118, .inl (wd.2.1, 16, .inl (fun _ => 0))), (q126, .inl (wd.2.1, 16, .inl (fun _ => 0)))] := hD
  refine lv_aload_n hx hb dk_9_init_131 rfl (lv_at hl 0 rfl) ?_
  refine lv_iconst hx hb dk_9_init_132 (v := 0) rfl ?_
  refine va_put (D := wd.1) (ci := 9) (v := .int 0) (ty := .int) (C := R_9) (T := F_9) (N := 19) hx hb hts i_9 t_9 t_9_ok n_9 hown hK hP hD hS 0 rfl rfl 18 (by decide) (hts (.fieldLink R_9 66 "StarHideModel" "planMany" "I") (sy_inx 814 (by decide +kernel) (by decide +kernel))) (fun _ h9 => h9) rfl (by decide +kernel) rfl rfl (sk_lt rfl) dk_9_init_133 (fun H locs hP hD hS => ?_)
  have hP : va_P wd.1 sy_cl [(h0, .inr (9, [.int 5, .int 0, .ref q17, .ref q25, .ref q33, .ref q41, .ref q49, .ref q57, .int 0, .ref q70, .int 10, .int 0, .ref q89, .ref q97, .int 0, .ref q110, .ref q118, .ref q126, .int 0])), (q17, .inl (wd.2.1, 16, .inl (fun _ => 0))), (q25, .inl (wd.2.1, 16, .inl (fun _ => 0))), (q33, .inl (wd.2.1, 16, .inl (fun _ => 0))), (q41, .inl (wd.2.1, 16, .inl (fun _ => 0))), (q49, .inl (wd.2.1, 64, .inl (fun _ => 0))), (q57, .inl (wd.2.1, 12, .inl (fun _ => 0))), (q70, .inl (wd.2.1, 30, .inl (fun _ => 0))), (q89, .inl (wd.2.2.1, 32, .inr (.inl (fun _ => 0)))), (q97, .inl (wd.2.2.1, 32, .inr (.inl (fun _ => 0)))), (q110, .inl (wd.2.1, 33, .inl (fun _ => 0))), (q118, .inl (wd.2.1, 16, .inl (fun _ => 0))), (q126, .inl (wd.2.1, 16, .inl (fun _ => 0)))] H := hP
  have hD : va_D A [(h0, .inr (9, [.int 5, .int 0, .ref q17, .ref q25, .ref q33, .ref q41, .ref q49, .ref q57, .int 0, .ref q70, .int 10, .int 0, .ref q89, .ref q97, .int 0, .ref q110, .ref q118, .ref q126, .int 0])), (q17, .inl (wd.2.1, 16, .inl (fun _ => 0))), (q25, .inl (wd.2.1, 16, .inl (fun _ => 0))), (q33, .inl (wd.2.1, 16, .inl (fun _ => 0))), (q41, .inl (wd.2.1, 16, .inl (fun _ => 0))), (q49, .inl (wd.2.1, 64, .inl (fun _ => 0))), (q57, .inl (wd.2.1, 12, .inl (fun _ => 0))), (q70, .inl (wd.2.1, 30, .inl (fun _ => 0))), (q89, .inl (wd.2.2.1, 32, .inr (.inl (fun _ => 0)))), (q97, .inl (wd.2.2.1, 32, .inr (.inl (fun _ => 0)))), (q110, .inl (wd.2.1, 33, .inl (fun _ => 0))), (q118, .inl (wd.2.1, 16, .inl (fun _ => 0))), (q126, .inl (wd.2.1, 16, .inl (fun _ => 0)))] := hD
  refine lv_iconst hx hb dk_9_init_136 (v := 0) rfl ?_
  refine lv_istore_n hx hb dk_9_init_137 rfl hl (by decide) rfl (fun ls hl => ?_)
  have hl : lv_has ls 2 [(1, .int 0), (0, .ref h0)] := hl
  refine lv_iload_n hx hb dk_9_init_138 rfl (lv_at hl 0 rfl) ?_
  refine lv_iconst hx hb dk_9_init_139 (v := 4) rfl ?_
  refine lv_icmp_ge hx hb dk_9_init_140 (tgt := 190) (by decide) (fun c9 => absurd c9 (by decide)) (fun _ => ?_)
  refine lv_aload_n hx hb dk_9_init_143 rfl (lv_at hl 1 rfl) ?_
  refine va_get (D := wd.1) (ci := 9) (C := R_9) (T := F_9) (N := 19) hx hb hts i_9 hown hK hP 0 rfl rfl 7 (by decide) (hts (.fieldLink R_9 32 "StarHideModel" "net" "[I") (sy_inx 803 (by decide +kernel) (by decide +kernel))) (fun _ h9 => h9) rfl dk_9_init_144 ?_
  refine lv_iconst hx hb dk_9_init_147 (v := 3) rfl ?_
  refine lv_iload_n hx hb dk_9_init_148 rfl (lv_at hl 0 rfl) ?_
  refine lv_imul hx hb dk_9_init_149 ?_
  refine lv_topi (fun z81 hz => ?_)
  have hz : z81 = 0 := hz.trans (by decide)
  subst hz
  refine lv_iload_n hx hb dk_9_init_150 rfl (lv_at hl 0 rfl) ?_
  refine lv_iconst hx hb dk_9_init_151 (v := 2) rfl ?_
  refine lv_icmp_ge hx hb dk_9_init_152 (tgt := 159) (by decide) (fun c9 => absurd c9 (by decide)) (fun _ => ?_)
  refine lv_iconst hx hb dk_9_init_155 (v := 0) rfl ?_
  refine lv_goto hx hb dk_9_init_156 (tgt := 161) (by decide) ?_
  refine va_iast hx hb hK hP hD hS 6 0 rfl rfl (i := 0) (x := 0) (by unfold vp_in; decide) dk_9_init_161 (fun H locs hP hD hS => ?_)
  have hP : va_P wd.1 sy_cl [(h0, .inr (9, [.int 5, .int 0, .ref q17, .ref q25, .ref q33, .ref q41, .ref q49, .ref q57, .int 0, .ref q70, .int 10, .int 0, .ref q89, .ref q97, .int 0, .ref q110, .ref q118, .ref q126, .int 0])), (q17, .inl (wd.2.1, 16, .inl (fun _ => 0))), (q25, .inl (wd.2.1, 16, .inl (fun _ => 0))), (q33, .inl (wd.2.1, 16, .inl (fun _ => 0))), (q41, .inl (wd.2.1, 16, .inl (fun _ => 0))), (q49, .inl (wd.2.1, 64, .inl (fun _ => 0))), (q57, .inl (wd.2.1, 12, .inl (upd (fun _ => 0) 0 0))), (q70, .inl (wd.2.1, 30, .inl (fun _ => 0))), (q89, .inl (wd.2.2.1, 32, .inr (.inl (fun _ => 0)))), (q97, .inl (wd.2.2.1, 32, .inr (.inl (fun _ => 0)))), (q110, .inl (wd.2.1, 33, .inl (fun _ => 0))), (q118, .inl (wd.2.1, 16, .inl (fun _ => 0))), (q126, .inl (wd.2.1, 16, .inl (fun _ => 0)))] H := hP
  have hD : va_D A [(h0, .inr (9, [.int 5, .int 0, .ref q17, .ref q25, .ref q33, .ref q41, .ref q49, .ref q57, .int 0, .ref q70, .int 10, .int 0, .ref q89, .ref q97, .int 0, .ref q110, .ref q118, .ref q126, .int 0])), (q17, .inl (wd.2.1, 16, .inl (fun _ => 0))), (q25, .inl (wd.2.1, 16, .inl (fun _ => 0))), (q33, .inl (wd.2.1, 16, .inl (fun _ => 0))), (q41, .inl (wd.2.1, 16, .inl (fun _ => 0))), (q49, .inl (wd.2.1, 64, .inl (fun _ => 0))), (q57, .inl (wd.2.1, 12, .inl (upd (fun _ => 0) 0 0))), (q70, .inl (wd.2.1, 30, .inl (fun _ => 0))), (q89, .inl (wd.2.2.1, 32, .inr (.inl (fun _ => 0)))), (q97, .inl (wd.2.2.1, 32, .inr (.inl (fun _ => 0)))), (q110, .inl (wd.2.1, 33, .inl (fun _ => 0))), (q118, .inl (wd.2.1, 16, .inl (fun _ => 0))), (q126, .inl (wd.2.1, 16, .inl (fun _ => 0)))] := hD
  refine lv_aload_n hx hb dk_9_init_162 rfl (lv_at hl 1 rfl) ?_
  refine va_get (D := wd.1) (ci := 9) (C := R_9) (T := F_9) (N := 19) hx hb hts i_9 hown hK hP 0 rfl rfl 7 (by decide) (hts (.fieldLink R_9 32 "StarHideModel" "net" "[I") (sy_inx 803 (by decide +kernel) (by decide +kernel))) (fun _ h9 => h9) rfl dk_9_init_163 ?_
  refine lv_iconst hx hb dk_9_init_166 (v := 3) rfl ?_
  refine lv_iload_n hx hb dk_9_init_167 rfl (lv_at hl 0 rfl) ?_
  refine lv_imul hx hb dk_9_init_168 ?_
  refine lv_topi (fun z92 hz => ?_)
  have hz : z92 = 0 := hz.trans (by decide)
  subst hz
  refine lv_iconst hx hb dk_9_init_169 (v := 1) rfl ?_
  refine lv_iadd hx hb dk_9_init_170 ?_
  refine lv_topi (fun z94 hz => ?_)
  have hz : z94 = 1 := hz.trans (by decide)
  subst hz
  refine lv_iconst hx hb dk_9_init_171 (v := 1) rfl ?_
  refine va_iast hx hb hK hP hD hS 6 0 rfl rfl (i := 1) (x := 1) (by unfold vp_in; decide) dk_9_init_172 (fun H locs hP hD hS => ?_)
  have hP : va_P wd.1 sy_cl [(h0, .inr (9, [.int 5, .int 0, .ref q17, .ref q25, .ref q33, .ref q41, .ref q49, .ref q57, .int 0, .ref q70, .int 10, .int 0, .ref q89, .ref q97, .int 0, .ref q110, .ref q118, .ref q126, .int 0])), (q17, .inl (wd.2.1, 16, .inl (fun _ => 0))), (q25, .inl (wd.2.1, 16, .inl (fun _ => 0))), (q33, .inl (wd.2.1, 16, .inl (fun _ => 0))), (q41, .inl (wd.2.1, 16, .inl (fun _ => 0))), (q49, .inl (wd.2.1, 64, .inl (fun _ => 0))), (q57, .inl (wd.2.1, 12, .inl (upd (upd (fun _ => 0) 0 0) 1 1))), (q70, .inl (wd.2.1, 30, .inl (fun _ => 0))), (q89, .inl (wd.2.2.1, 32, .inr (.inl (fun _ => 0)))), (q97, .inl (wd.2.2.1, 32, .inr (.inl (fun _ => 0)))), (q110, .inl (wd.2.1, 33, .inl (fun _ => 0))), (q118, .inl (wd.2.1, 16, .inl (fun _ => 0))), (q126, .inl (wd.2.1, 16, .inl (fun _ => 0)))] H := hP
  have hD : va_D A [(h0, .inr (9, [.int 5, .int 0, .ref q17, .ref q25, .ref q33, .ref q41, .ref q49, .ref q57, .int 0, .ref q70, .int 10, .int 0, .ref q89, .ref q97, .int 0, .ref q110, .ref q118, .ref q126, .int 0])), (q17, .inl (wd.2.1, 16, .inl (fun _ => 0))), (q25, .inl (wd.2.1, 16, .inl (fun _ => 0))), (q33, .inl (wd.2.1, 16, .inl (fun _ => 0))), (q41, .inl (wd.2.1, 16, .inl (fun _ => 0))), (q49, .inl (wd.2.1, 64, .inl (fun _ => 0))), (q57, .inl (wd.2.1, 12, .inl (upd (upd (fun _ => 0) 0 0) 1 1))), (q70, .inl (wd.2.1, 30, .inl (fun _ => 0))), (q89, .inl (wd.2.2.1, 32, .inr (.inl (fun _ => 0)))), (q97, .inl (wd.2.2.1, 32, .inr (.inl (fun _ => 0)))), (q110, .inl (wd.2.1, 33, .inl (fun _ => 0))), (q118, .inl (wd.2.1, 16, .inl (fun _ => 0))), (q126, .inl (wd.2.1, 16, .inl (fun _ => 0)))] := hD
  refine lv_aload_n hx hb dk_9_init_173 rfl (lv_at hl 1 rfl) ?_
  refine va_get (D := wd.1) (ci := 9) (C := R_9) (T := F_9) (N := 19) hx hb hts i_9 hown hK hP 0 rfl rfl 7 (by decide) (hts (.fieldLink R_9 32 "StarHideModel" "net" "[I") (sy_inx 803 (by decide +kernel) (by decide +kernel))) (fun _ h9 => h9) rfl dk_9_init_174 ?_
  refine lv_iconst hx hb dk_9_init_177 (v := 3) rfl ?_
  refine lv_iload_n hx hb dk_9_init_178 rfl (lv_at hl 0 rfl) ?_
  refine lv_imul hx hb dk_9_init_179 ?_
  refine lv_topi (fun z101 hz => ?_)
  have hz : z101 = 0 := hz.trans (by decide)
  subst hz
  refine lv_iconst hx hb dk_9_init_180 (v := 2) rfl ?_
  refine lv_iadd hx hb dk_9_init_181 ?_
  refine lv_topi (fun z103 hz => ?_)
  have hz : z103 = 2 := hz.trans (by decide)
  subst hz
  refine lv_iconst hx hb dk_9_init_182 (v := 1) rfl ?_
  refine va_iast hx hb hK hP hD hS 6 0 rfl rfl (i := 2) (x := 1) (by unfold vp_in; decide) dk_9_init_183 (fun H locs hP hD hS => ?_)
  have hP : va_P wd.1 sy_cl [(h0, .inr (9, [.int 5, .int 0, .ref q17, .ref q25, .ref q33, .ref q41, .ref q49, .ref q57, .int 0, .ref q70, .int 10, .int 0, .ref q89, .ref q97, .int 0, .ref q110, .ref q118, .ref q126, .int 0])), (q17, .inl (wd.2.1, 16, .inl (fun _ => 0))), (q25, .inl (wd.2.1, 16, .inl (fun _ => 0))), (q33, .inl (wd.2.1, 16, .inl (fun _ => 0))), (q41, .inl (wd.2.1, 16, .inl (fun _ => 0))), (q49, .inl (wd.2.1, 64, .inl (fun _ => 0))), (q57, .inl (wd.2.1, 12, .inl (upd (upd (upd (fun _ => 0) 0 0) 1 1) 2 1))), (q70, .inl (wd.2.1, 30, .inl (fun _ => 0))), (q89, .inl (wd.2.2.1, 32, .inr (.inl (fun _ => 0)))), (q97, .inl (wd.2.2.1, 32, .inr (.inl (fun _ => 0)))), (q110, .inl (wd.2.1, 33, .inl (fun _ => 0))), (q118, .inl (wd.2.1, 16, .inl (fun _ => 0))), (q126, .inl (wd.2.1, 16, .inl (fun _ => 0)))] H := hP
  have hD : va_D A [(h0, .inr (9, [.int 5, .int 0, .ref q17, .ref q25, .ref q33, .ref q41, .ref q49, .ref q57, .int 0, .ref q70, .int 10, .int 0, .ref q89, .ref q97, .int 0, .ref q110, .ref q118, .ref q126, .int 0])), (q17, .inl (wd.2.1, 16, .inl (fun _ => 0))), (q25, .inl (wd.2.1, 16, .inl (fun _ => 0))), (q33, .inl (wd.2.1, 16, .inl (fun _ => 0))), (q41, .inl (wd.2.1, 16, .inl (fun _ => 0))), (q49, .inl (wd.2.1, 64, .inl (fun _ => 0))), (q57, .inl (wd.2.1, 12, .inl (upd (upd (upd (fun _ => 0) 0 0) 1 1) 2 1))), (q70, .inl (wd.2.1, 30, .inl (fun _ => 0))), (q89, .inl (wd.2.2.1, 32, .inr (.inl (fun _ => 0)))), (q97, .inl (wd.2.2.1, 32, .inr (.inl (fun _ => 0)))), (q110, .inl (wd.2.1, 33, .inl (fun _ => 0))), (q118, .inl (wd.2.1, 16, .inl (fun _ => 0))), (q126, .inl (wd.2.1, 16, .inl (fun _ => 0)))] := hD
  refine lv_iinc hx hb dk_9_init_184 hl (k := 0) rfl (v := 1) (by decide) (by decide) rfl (fun ls hl => ?_)
  have hl : lv_has ls 2 [(1, .int 1), (0, .ref h0)] := hl
  refine lv_goto hx hb dk_9_init_187 (tgt := 138) (by decide) ?_
  refine lv_iload_n hx hb dk_9_init_138 rfl (lv_at hl 0 rfl) ?_
  refine lv_iconst hx hb dk_9_init_139 (v := 4) rfl ?_
  refine lv_icmp_ge hx hb dk_9_init_140 (tgt := 190) (by decide) (fun c9 => absurd c9 (by decide)) (fun _ => ?_)
  refine lv_aload_n hx hb dk_9_init_143 rfl (lv_at hl 1 rfl) ?_
  refine va_get (D := wd.1) (ci := 9) (C := R_9) (T := F_9) (N := 19) hx hb hts i_9 hown hK hP 0 rfl rfl 7 (by decide) (hts (.fieldLink R_9 32 "StarHideModel" "net" "[I") (sy_inx 803 (by decide +kernel) (by decide +kernel))) (fun _ h9 => h9) rfl dk_9_init_144 ?_
  refine lv_iconst hx hb dk_9_init_147 (v := 3) rfl ?_
  refine lv_iload_n hx hb dk_9_init_148 rfl (lv_at hl 0 rfl) ?_
  refine lv_imul hx hb dk_9_init_149 ?_
  refine lv_topi (fun z115 hz => ?_)
  have hz : z115 = 3 := hz.trans (by decide)
  subst hz
  refine lv_iload_n hx hb dk_9_init_150 rfl (lv_at hl 0 rfl) ?_
  refine lv_iconst hx hb dk_9_init_151 (v := 2) rfl ?_
  refine lv_icmp_ge hx hb dk_9_init_152 (tgt := 159) (by decide) (fun c9 => absurd c9 (by decide)) (fun _ => ?_)
  refine lv_iconst hx hb dk_9_init_155 (v := 0) rfl ?_
  refine lv_goto hx hb dk_9_init_156 (tgt := 161) (by decide) ?_
  refine va_iast hx hb hK hP hD hS 6 0 rfl rfl (i := 3) (x := 0) (by unfold vp_in; decide) dk_9_init_161 (fun H locs hP hD hS => ?_)
  have hP : va_P wd.1 sy_cl [(h0, .inr (9, [.int 5, .int 0, .ref q17, .ref q25, .ref q33, .ref q41, .ref q49, .ref q57, .int 0, .ref q70, .int 10, .int 0, .ref q89, .ref q97, .int 0, .ref q110, .ref q118, .ref q126, .int 0])), (q17, .inl (wd.2.1, 16, .inl (fun _ => 0))), (q25, .inl (wd.2.1, 16, .inl (fun _ => 0))), (q33, .inl (wd.2.1, 16, .inl (fun _ => 0))), (q41, .inl (wd.2.1, 16, .inl (fun _ => 0))), (q49, .inl (wd.2.1, 64, .inl (fun _ => 0))), (q57, .inl (wd.2.1, 12, .inl (upd (upd (upd (upd (fun _ => 0) 0 0) 1 1) 2 1) 3 0))), (q70, .inl (wd.2.1, 30, .inl (fun _ => 0))), (q89, .inl (wd.2.2.1, 32, .inr (.inl (fun _ => 0)))), (q97, .inl (wd.2.2.1, 32, .inr (.inl (fun _ => 0)))), (q110, .inl (wd.2.1, 33, .inl (fun _ => 0))), (q118, .inl (wd.2.1, 16, .inl (fun _ => 0))), (q126, .inl (wd.2.1, 16, .inl (fun _ => 0)))] H := hP
  have hD : va_D A [(h0, .inr (9, [.int 5, .int 0, .ref q17, .ref q25, .ref q33, .ref q41, .ref q49, .ref q57, .int 0, .ref q70, .int 10, .int 0, .ref q89, .ref q97, .int 0, .ref q110, .ref q118, .ref q126, .int 0])), (q17, .inl (wd.2.1, 16, .inl (fun _ => 0))), (q25, .inl (wd.2.1, 16, .inl (fun _ => 0))), (q33, .inl (wd.2.1, 16, .inl (fun _ => 0))), (q41, .inl (wd.2.1, 16, .inl (fun _ => 0))), (q49, .inl (wd.2.1, 64, .inl (fun _ => 0))), (q57, .inl (wd.2.1, 12, .inl (upd (upd (upd (upd (fun _ => 0) 0 0) 1 1) 2 1) 3 0))), (q70, .inl (wd.2.1, 30, .inl (fun _ => 0))), (q89, .inl (wd.2.2.1, 32, .inr (.inl (fun _ => 0)))), (q97, .inl (wd.2.2.1, 32, .inr (.inl (fun _ => 0)))), (q110, .inl (wd.2.1, 33, .inl (fun _ => 0))), (q118, .inl (wd.2.1, 16, .inl (fun _ => 0))), (q126, .inl (wd.2.1, 16, .inl (fun _ => 0)))] := hD
  refine lv_aload_n hx hb dk_9_init_162 rfl (lv_at hl 1 rfl) ?_
  refine va_get (D := wd.1) (ci := 9) (C := R_9) (T := F_9) (N := 19) hx hb hts i_9 hown hK hP 0 rfl rfl 7 (by decide) (hts (.fieldLink R_9 32 "StarHideModel" "net" "[I") (sy_inx 803 (by decide +kernel) (by decide +kernel))) (fun _ h9 => h9) rfl dk_9_init_163 ?_
  refine lv_iconst hx hb dk_9_init_166 (v := 3) rfl ?_
  refine lv_iload_n hx hb dk_9_init_167 rfl (lv_at hl 0 rfl) ?_
  refine lv_imul hx hb dk_9_init_168 ?_
  refine lv_topi (fun z126 hz => ?_)
  have hz : z126 = 3 := hz.trans (by decide)
  subst hz
  refine lv_iconst hx hb dk_9_init_169 (v := 1) rfl ?_
  refine lv_iadd hx hb dk_9_init_170 ?_
  refine lv_topi (fun z128 hz => ?_)
  have hz : z128 = 4 := hz.trans (by decide)
  subst hz
  refine lv_iconst hx hb dk_9_init_171 (v := 1) rfl ?_
  refine va_iast hx hb hK hP hD hS 6 0 rfl rfl (i := 4) (x := 1) (by unfold vp_in; decide) dk_9_init_172 (fun H locs hP hD hS => ?_)
  have hP : va_P wd.1 sy_cl [(h0, .inr (9, [.int 5, .int 0, .ref q17, .ref q25, .ref q33, .ref q41, .ref q49, .ref q57, .int 0, .ref q70, .int 10, .int 0, .ref q89, .ref q97, .int 0, .ref q110, .ref q118, .ref q126, .int 0])), (q17, .inl (wd.2.1, 16, .inl (fun _ => 0))), (q25, .inl (wd.2.1, 16, .inl (fun _ => 0))), (q33, .inl (wd.2.1, 16, .inl (fun _ => 0))), (q41, .inl (wd.2.1, 16, .inl (fun _ => 0))), (q49, .inl (wd.2.1, 64, .inl (fun _ => 0))), (q57, .inl (wd.2.1, 12, .inl (upd (upd (upd (upd (upd (fun _ => 0) 0 0) 1 1) 2 1) 3 0) 4 1))), (q70, .inl (wd.2.1, 30, .inl (fun _ => 0))), (q89, .inl (wd.2.2.1, 32, .inr (.inl (fun _ => 0)))), (q97, .inl (wd.2.2.1, 32, .inr (.inl (fun _ => 0)))), (q110, .inl (wd.2.1, 33, .inl (fun _ => 0))), (q118, .inl (wd.2.1, 16, .inl (fun _ => 0))), (q126, .inl (wd.2.1, 16, .inl (fun _ => 0)))] H := hP
  have hD : va_D A [(h0, .inr (9, [.int 5, .int 0, .ref q17, .ref q25, .ref q33, .ref q41, .ref q49, .ref q57, .int 0, .ref q70, .int 10, .int 0, .ref q89, .ref q97, .int 0, .ref q110, .ref q118, .ref q126, .int 0])), (q17, .inl (wd.2.1, 16, .inl (fun _ => 0))), (q25, .inl (wd.2.1, 16, .inl (fun _ => 0))), (q33, .inl (wd.2.1, 16, .inl (fun _ => 0))), (q41, .inl (wd.2.1, 16, .inl (fun _ => 0))), (q49, .inl (wd.2.1, 64, .inl (fun _ => 0))), (q57, .inl (wd.2.1, 12, .inl (upd (upd (upd (upd (upd (fun _ => 0) 0 0) 1 1) 2 1) 3 0) 4 1))), (q70, .inl (wd.2.1, 30, .inl (fun _ => 0))), (q89, .inl (wd.2.2.1, 32, .inr (.inl (fun _ => 0)))), (q97, .inl (wd.2.2.1, 32, .inr (.inl (fun _ => 0)))), (q110, .inl (wd.2.1, 33, .inl (fun _ => 0))), (q118, .inl (wd.2.1, 16, .inl (fun _ => 0))), (q126, .inl (wd.2.1, 16, .inl (fun _ => 0)))] := hD
  refine lv_aload_n hx hb dk_9_init_173 rfl (lv_at hl 1 rfl) ?_
  refine va_get (D := wd.1) (ci := 9) (C := R_9) (T := F_9) (N := 19) hx hb hts i_9 hown hK hP 0 rfl rfl 7 (by decide) (hts (.fieldLink R_9 32 "StarHideModel" "net" "[I") (sy_inx 803 (by decide +kernel) (by decide +kernel))) (fun _ h9 => h9) rfl dk_9_init_174 ?_
  refine lv_iconst hx hb dk_9_init_177 (v := 3) rfl ?_
  refine lv_iload_n hx hb dk_9_init_178 rfl (lv_at hl 0 rfl) ?_
  refine lv_imul hx hb dk_9_init_179 ?_
  refine lv_topi (fun z135 hz => ?_)
  have hz : z135 = 3 := hz.trans (by decide)
  subst hz
  refine lv_iconst hx hb dk_9_init_180 (v := 2) rfl ?_
  refine lv_iadd hx hb dk_9_init_181 ?_
  refine lv_topi (fun z137 hz => ?_)
  have hz : z137 = 5 := hz.trans (by decide)
  subst hz
  refine lv_iconst hx hb dk_9_init_182 (v := 1) rfl ?_
  refine va_iast hx hb hK hP hD hS 6 0 rfl rfl (i := 5) (x := 1) (by unfold vp_in; decide) dk_9_init_183 (fun H locs hP hD hS => ?_)
  have hP : va_P wd.1 sy_cl [(h0, .inr (9, [.int 5, .int 0, .ref q17, .ref q25, .ref q33, .ref q41, .ref q49, .ref q57, .int 0, .ref q70, .int 10, .int 0, .ref q89, .ref q97, .int 0, .ref q110, .ref q118, .ref q126, .int 0])), (q17, .inl (wd.2.1, 16, .inl (fun _ => 0))), (q25, .inl (wd.2.1, 16, .inl (fun _ => 0))), (q33, .inl (wd.2.1, 16, .inl (fun _ => 0))), (q41, .inl (wd.2.1, 16, .inl (fun _ => 0))), (q49, .inl (wd.2.1, 64, .inl (fun _ => 0))), (q57, .inl (wd.2.1, 12, .inl (upd (upd (upd (upd (upd (upd (fun _ => 0) 0 0) 1 1) 2 1) 3 0) 4 1) 5 1))), (q70, .inl (wd.2.1, 30, .inl (fun _ => 0))), (q89, .inl (wd.2.2.1, 32, .inr (.inl (fun _ => 0)))), (q97, .inl (wd.2.2.1, 32, .inr (.inl (fun _ => 0)))), (q110, .inl (wd.2.1, 33, .inl (fun _ => 0))), (q118, .inl (wd.2.1, 16, .inl (fun _ => 0))), (q126, .inl (wd.2.1, 16, .inl (fun _ => 0)))] H := hP
  have hD : va_D A [(h0, .inr (9, [.int 5, .int 0, .ref q17, .ref q25, .ref q33, .ref q41, .ref q49, .ref q57, .int 0, .ref q70, .int 10, .int 0, .ref q89, .ref q97, .int 0, .ref q110, .ref q118, .ref q126, .int 0])), (q17, .inl (wd.2.1, 16, .inl (fun _ => 0))), (q25, .inl (wd.2.1, 16, .inl (fun _ => 0))), (q33, .inl (wd.2.1, 16, .inl (fun _ => 0))), (q41, .inl (wd.2.1, 16, .inl (fun _ => 0))), (q49, .inl (wd.2.1, 64, .inl (fun _ => 0))), (q57, .inl (wd.2.1, 12, .inl (upd (upd (upd (upd (upd (upd (fun _ => 0) 0 0) 1 1) 2 1) 3 0) 4 1) 5 1))), (q70, .inl (wd.2.1, 30, .inl (fun _ => 0))), (q89, .inl (wd.2.2.1, 32, .inr (.inl (fun _ => 0)))), (q97, .inl (wd.2.2.1, 32, .inr (.inl (fun _ => 0)))), (q110, .inl (wd.2.1, 33, .inl (fun _ => 0))), (q118, .inl (wd.2.1, 16, .inl (fun _ => 0))), (q126, .inl (wd.2.1, 16, .inl (fun _ => 0)))] := hD
  refine lv_iinc hx hb dk_9_init_184 hl (k := 0) rfl (v := 2) (by decide) (by decide) rfl (fun ls hl => ?_)
  have hl : lv_has ls 2 [(1, .int 2), (0, .ref h0)] := hl
  refine lv_goto hx hb dk_9_init_187 (tgt := 138) (by decide) ?_
  refine lv_iload_n hx hb dk_9_init_138 rfl (lv_at hl 0 rfl) ?_
  refine lv_iconst hx hb dk_9_init_139 (v := 4) rfl ?_
  refine lv_icmp_ge hx hb dk_9_init_140 (tgt := 190) (by decide) (fun c9 => absurd c9 (by decide)) (fun _ => ?_)
  refine lv_aload_n hx hb dk_9_init_143 rfl (lv_at hl 1 rfl) ?_
  refine va_get (D := wd.1) (ci := 9) (C := R_9) (T := F_9) (N := 19) hx hb hts i_9 hown hK hP 0 rfl rfl 7 (by decide) (hts (.fieldLink R_9 32 "StarHideModel" "net" "[I") (sy_inx 803 (by decide +kernel) (by decide +kernel))) (fun _ h9 => h9) rfl dk_9_init_144 ?_
  refine lv_iconst hx hb dk_9_init_147 (v := 3) rfl ?_
  refine lv_iload_n hx hb dk_9_init_148 rfl (lv_at hl 0 rfl) ?_
  refine lv_imul hx hb dk_9_init_149 ?_
  refine lv_topi (fun z149 hz => ?_)
  have hz : z149 = 6 := hz.trans (by decide)
  subst hz
  refine lv_iload_n hx hb dk_9_init_150 rfl (lv_at hl 0 rfl) ?_
  refine lv_iconst hx hb dk_9_init_151 (v := 2) rfl ?_
  refine lv_icmp_ge hx hb dk_9_init_152 (tgt := 159) (by decide) (fun _ => ?_) (fun c9 => absurd (by decide) c9)
  refine lv_bipush hx hb dk_9_init_159 (v := 100) rfl ?_
  refine va_iast hx hb hK hP hD hS 6 0 rfl rfl (i := 6) (x := 100) (by unfold vp_in; decide) dk_9_init_161 (fun H locs hP hD hS => ?_)
  have hP : va_P wd.1 sy_cl [(h0, .inr (9, [.int 5, .int 0, .ref q17, .ref q25, .ref q33, .ref q41, .ref q49, .ref q57, .int 0, .ref q70, .int 10, .int 0, .ref q89, .ref q97, .int 0, .ref q110, .ref q118, .ref q126, .int 0])), (q17, .inl (wd.2.1, 16, .inl (fun _ => 0))), (q25, .inl (wd.2.1, 16, .inl (fun _ => 0))), (q33, .inl (wd.2.1, 16, .inl (fun _ => 0))), (q41, .inl (wd.2.1, 16, .inl (fun _ => 0))), (q49, .inl (wd.2.1, 64, .inl (fun _ => 0))), (q57, .inl (wd.2.1, 12, .inl (upd (upd (upd (upd (upd (upd (upd (fun _ => 0) 0 0) 1 1) 2 1) 3 0) 4 1) 5 1) 6 100))), (q70, .inl (wd.2.1, 30, .inl (fun _ => 0))), (q89, .inl (wd.2.2.1, 32, .inr (.inl (fun _ => 0)))), (q97, .inl (wd.2.2.1, 32, .inr (.inl (fun _ => 0)))), (q110, .inl (wd.2.1, 33, .inl (fun _ => 0))), (q118, .inl (wd.2.1, 16, .inl (fun _ => 0))), (q126, .inl (wd.2.1, 16, .inl (fun _ => 0)))] H := hP
  have hD : va_D A [(h0, .inr (9, [.int 5, .int 0, .ref q17, .ref q25, .ref q33, .ref q41, .ref q49, .ref q57, .int 0, .ref q70, .int 10, .int 0, .ref q89, .ref q97, .int 0, .ref q110, .ref q118, .ref q126, .int 0])), (q17, .inl (wd.2.1, 16, .inl (fun _ => 0))), (q25, .inl (wd.2.1, 16, .inl (fun _ => 0))), (q33, .inl (wd.2.1, 16, .inl (fun _ => 0))), (q41, .inl (wd.2.1, 16, .inl (fun _ => 0))), (q49, .inl (wd.2.1, 64, .inl (fun _ => 0))), (q57, .inl (wd.2.1, 12, .inl (upd (upd (upd (upd (upd (upd (upd (fun _ => 0) 0 0) 1 1) 2 1) 3 0) 4 1) 5 1) 6 100))), (q70, .inl (wd.2.1, 30, .inl (fun _ => 0))), (q89, .inl (wd.2.2.1, 32, .inr (.inl (fun _ => 0)))), (q97, .inl (wd.2.2.1, 32, .inr (.inl (fun _ => 0)))), (q110, .inl (wd.2.1, 33, .inl (fun _ => 0))), (q118, .inl (wd.2.1, 16, .inl (fun _ => 0))), (q126, .inl (wd.2.1, 16, .inl (fun _ => 0)))] := hD
  refine lv_aload_n hx hb dk_9_init_162 rfl (lv_at hl 1 rfl) ?_
  refine va_get (D := wd.1) (ci := 9) (C := R_9) (T := F_9) (N := 19) hx hb hts i_9 hown hK hP 0 rfl rfl 7 (by decide) (hts (.fieldLink R_9 32 "StarHideModel" "net" "[I") (sy_inx 803 (by decide +kernel) (by decide +kernel))) (fun _ h9 => h9) rfl dk_9_init_163 ?_
  refine lv_iconst hx hb dk_9_init_166 (v := 3) rfl ?_
  refine lv_iload_n hx hb dk_9_init_167 rfl (lv_at hl 0 rfl) ?_
  refine lv_imul hx hb dk_9_init_168 ?_
  refine lv_topi (fun z159 hz => ?_)
  have hz : z159 = 6 := hz.trans (by decide)
  subst hz
  refine lv_iconst hx hb dk_9_init_169 (v := 1) rfl ?_
  refine lv_iadd hx hb dk_9_init_170 ?_
  refine lv_topi (fun z161 hz => ?_)
  have hz : z161 = 7 := hz.trans (by decide)
  subst hz
  refine lv_iconst hx hb dk_9_init_171 (v := 1) rfl ?_
  refine va_iast hx hb hK hP hD hS 6 0 rfl rfl (i := 7) (x := 1) (by unfold vp_in; decide) dk_9_init_172 (fun H locs hP hD hS => ?_)
  have hP : va_P wd.1 sy_cl [(h0, .inr (9, [.int 5, .int 0, .ref q17, .ref q25, .ref q33, .ref q41, .ref q49, .ref q57, .int 0, .ref q70, .int 10, .int 0, .ref q89, .ref q97, .int 0, .ref q110, .ref q118, .ref q126, .int 0])), (q17, .inl (wd.2.1, 16, .inl (fun _ => 0))), (q25, .inl (wd.2.1, 16, .inl (fun _ => 0))), (q33, .inl (wd.2.1, 16, .inl (fun _ => 0))), (q41, .inl (wd.2.1, 16, .inl (fun _ => 0))), (q49, .inl (wd.2.1, 64, .inl (fun _ => 0))), (q57, .inl (wd.2.1, 12, .inl (upd (upd (upd (upd (upd (upd (upd (upd (fun _ => 0) 0 0) 1 1) 2 1) 3 0) 4 1) 5 1) 6 100) 7 1))), (q70, .inl (wd.2.1, 30, .inl (fun _ => 0))), (q89, .inl (wd.2.2.1, 32, .inr (.inl (fun _ => 0)))), (q97, .inl (wd.2.2.1, 32, .inr (.inl (fun _ => 0)))), (q110, .inl (wd.2.1, 33, .inl (fun _ => 0))), (q118, .inl (wd.2.1, 16, .inl (fun _ => 0))), (q126, .inl (wd.2.1, 16, .inl (fun _ => 0)))] H := hP
  have hD : va_D A [(h0, .inr (9, [.int 5, .int 0, .ref q17, .ref q25, .ref q33, .ref q41, .ref q49, .ref q57, .int 0, .ref q70, .int 10, .int 0, .ref q89, .ref q97, .int 0, .ref q110, .ref q118, .ref q126, .int 0])), (q17, .inl (wd.2.1, 16, .inl (fun _ => 0))), (q25, .inl (wd.2.1, 16, .inl (fun _ => 0))), (q33, .inl (wd.2.1, 16, .inl (fun _ => 0))), (q41, .inl (wd.2.1, 16, .inl (fun _ => 0))), (q49, .inl (wd.2.1, 64, .inl (fun _ => 0))), (q57, .inl (wd.2.1, 12, .inl (upd (upd (upd (upd (upd (upd (upd (upd (fun _ => 0) 0 0) 1 1) 2 1) 3 0) 4 1) 5 1) 6 100) 7 1))), (q70, .inl (wd.2.1, 30, .inl (fun _ => 0))), (q89, .inl (wd.2.2.1, 32, .inr (.inl (fun _ => 0)))), (q97, .inl (wd.2.2.1, 32, .inr (.inl (fun _ => 0)))), (q110, .inl (wd.2.1, 33, .inl (fun _ => 0))), (q118, .inl (wd.2.1, 16, .inl (fun _ => 0))), (q126, .inl (wd.2.1, 16, .inl (fun _ => 0)))] := hD
  refine lv_aload_n hx hb dk_9_init_173 rfl (lv_at hl 1 rfl) ?_
  refine va_get (D := wd.1) (ci := 9) (C := R_9) (T := F_9) (N := 19) hx hb hts i_9 hown hK hP 0 rfl rfl 7 (by decide) (hts (.fieldLink R_9 32 "StarHideModel" "net" "[I") (sy_inx 803 (by decide +kernel) (by decide +kernel))) (fun _ h9 => h9) rfl dk_9_init_174 ?_
  refine lv_iconst hx hb dk_9_init_177 (v := 3) rfl ?_
  refine lv_iload_n hx hb dk_9_init_178 rfl (lv_at hl 0 rfl) ?_
  refine lv_imul hx hb dk_9_init_179 ?_
  refine lv_topi (fun z168 hz => ?_)
  have hz : z168 = 6 := hz.trans (by decide)
  subst hz
  refine lv_iconst hx hb dk_9_init_180 (v := 2) rfl ?_
  refine lv_iadd hx hb dk_9_init_181 ?_
  refine lv_topi (fun z170 hz => ?_)
  have hz : z170 = 8 := hz.trans (by decide)
  subst hz
  refine lv_iconst hx hb dk_9_init_182 (v := 1) rfl ?_
  refine va_iast hx hb hK hP hD hS 6 0 rfl rfl (i := 8) (x := 1) (by unfold vp_in; decide) dk_9_init_183 (fun H locs hP hD hS => ?_)
  have hP : va_P wd.1 sy_cl [(h0, .inr (9, [.int 5, .int 0, .ref q17, .ref q25, .ref q33, .ref q41, .ref q49, .ref q57, .int 0, .ref q70, .int 10, .int 0, .ref q89, .ref q97, .int 0, .ref q110, .ref q118, .ref q126, .int 0])), (q17, .inl (wd.2.1, 16, .inl (fun _ => 0))), (q25, .inl (wd.2.1, 16, .inl (fun _ => 0))), (q33, .inl (wd.2.1, 16, .inl (fun _ => 0))), (q41, .inl (wd.2.1, 16, .inl (fun _ => 0))), (q49, .inl (wd.2.1, 64, .inl (fun _ => 0))), (q57, .inl (wd.2.1, 12, .inl (upd (upd (upd (upd (upd (upd (upd (upd (upd (fun _ => 0) 0 0) 1 1) 2 1) 3 0) 4 1) 5 1) 6 100) 7 1) 8 1))), (q70, .inl (wd.2.1, 30, .inl (fun _ => 0))), (q89, .inl (wd.2.2.1, 32, .inr (.inl (fun _ => 0)))), (q97, .inl (wd.2.2.1, 32, .inr (.inl (fun _ => 0)))), (q110, .inl (wd.2.1, 33, .inl (fun _ => 0))), (q118, .inl (wd.2.1, 16, .inl (fun _ => 0))), (q126, .inl (wd.2.1, 16, .inl (fun _ => 0)))] H := hP
  have hD : va_D A [(h0, .inr (9, [.int 5, .int 0, .ref q17, .ref q25, .ref q33, .ref q41, .ref q49, .ref q57, .int 0, .ref q70, .int 10, .int 0, .ref q89, .ref q97, .int 0, .ref q110, .ref q118, .ref q126, .int 0])), (q17, .inl (wd.2.1, 16, .inl (fun _ => 0))), (q25, .inl (wd.2.1, 16, .inl (fun _ => 0))), (q33, .inl (wd.2.1, 16, .inl (fun _ => 0))), (q41, .inl (wd.2.1, 16, .inl (fun _ => 0))), (q49, .inl (wd.2.1, 64, .inl (fun _ => 0))), (q57, .inl (wd.2.1, 12, .inl (upd (upd (upd (upd (upd (upd (upd (upd (upd (fun _ => 0) 0 0) 1 1) 2 1) 3 0) 4 1) 5 1) 6 100) 7 1) 8 1))), (q70, .inl (wd.2.1, 30, .inl (fun _ => 0))), (q89, .inl (wd.2.2.1, 32, .inr (.inl (fun _ => 0)))), (q97, .inl (wd.2.2.1, 32, .inr (.inl (fun _ => 0)))), (q110, .inl (wd.2.1, 33, .inl (fun _ => 0))), (q118, .inl (wd.2.1, 16, .inl (fun _ => 0))), (q126, .inl (wd.2.1, 16, .inl (fun _ => 0)))] := hD
  refine lv_iinc hx hb dk_9_init_184 hl (k := 0) rfl (v := 3) (by decide) (by decide) rfl (fun ls hl => ?_)
  have hl : lv_has ls 2 [(1, .int 3), (0, .ref h0)] := hl
  refine lv_goto hx hb dk_9_init_187 (tgt := 138) (by decide) ?_
  refine lv_iload_n hx hb dk_9_init_138 rfl (lv_at hl 0 rfl) ?_
  refine lv_iconst hx hb dk_9_init_139 (v := 4) rfl ?_
  refine lv_icmp_ge hx hb dk_9_init_140 (tgt := 190) (by decide) (fun c9 => absurd c9 (by decide)) (fun _ => ?_)
  refine lv_aload_n hx hb dk_9_init_143 rfl (lv_at hl 1 rfl) ?_
  refine va_get (D := wd.1) (ci := 9) (C := R_9) (T := F_9) (N := 19) hx hb hts i_9 hown hK hP 0 rfl rfl 7 (by decide) (hts (.fieldLink R_9 32 "StarHideModel" "net" "[I") (sy_inx 803 (by decide +kernel) (by decide +kernel))) (fun _ h9 => h9) rfl dk_9_init_144 ?_
  refine lv_iconst hx hb dk_9_init_147 (v := 3) rfl ?_
  refine lv_iload_n hx hb dk_9_init_148 rfl (lv_at hl 0 rfl) ?_
  refine lv_imul hx hb dk_9_init_149 ?_
  refine lv_topi (fun z182 hz => ?_)
  have hz : z182 = 9 := hz.trans (by decide)
  subst hz
  refine lv_iload_n hx hb dk_9_init_150 rfl (lv_at hl 0 rfl) ?_
  refine lv_iconst hx hb dk_9_init_151 (v := 2) rfl ?_
  refine lv_icmp_ge hx hb dk_9_init_152 (tgt := 159) (by decide) (fun _ => ?_) (fun c9 => absurd (by decide) c9)
  refine lv_bipush hx hb dk_9_init_159 (v := 100) rfl ?_
  refine va_iast hx hb hK hP hD hS 6 0 rfl rfl (i := 9) (x := 100) (by unfold vp_in; decide) dk_9_init_161 (fun H locs hP hD hS => ?_)
  have hP : va_P wd.1 sy_cl [(h0, .inr (9, [.int 5, .int 0, .ref q17, .ref q25, .ref q33, .ref q41, .ref q49, .ref q57, .int 0, .ref q70, .int 10, .int 0, .ref q89, .ref q97, .int 0, .ref q110, .ref q118, .ref q126, .int 0])), (q17, .inl (wd.2.1, 16, .inl (fun _ => 0))), (q25, .inl (wd.2.1, 16, .inl (fun _ => 0))), (q33, .inl (wd.2.1, 16, .inl (fun _ => 0))), (q41, .inl (wd.2.1, 16, .inl (fun _ => 0))), (q49, .inl (wd.2.1, 64, .inl (fun _ => 0))), (q57, .inl (wd.2.1, 12, .inl (upd (upd (upd (upd (upd (upd (upd (upd (upd (upd (fun _ => 0) 0 0) 1 1) 2 1) 3 0) 4 1) 5 1) 6 100) 7 1) 8 1) 9 100))), (q70, .inl (wd.2.1, 30, .inl (fun _ => 0))), (q89, .inl (wd.2.2.1, 32, .inr (.inl (fun _ => 0)))), (q97, .inl (wd.2.2.1, 32, .inr (.inl (fun _ => 0)))), (q110, .inl (wd.2.1, 33, .inl (fun _ => 0))), (q118, .inl (wd.2.1, 16, .inl (fun _ => 0))), (q126, .inl (wd.2.1, 16, .inl (fun _ => 0)))] H := hP
  have hD : va_D A [(h0, .inr (9, [.int 5, .int 0, .ref q17, .ref q25, .ref q33, .ref q41, .ref q49, .ref q57, .int 0, .ref q70, .int 10, .int 0, .ref q89, .ref q97, .int 0, .ref q110, .ref q118, .ref q126, .int 0])), (q17, .inl (wd.2.1, 16, .inl (fun _ => 0))), (q25, .inl (wd.2.1, 16, .inl (fun _ => 0))), (q33, .inl (wd.2.1, 16, .inl (fun _ => 0))), (q41, .inl (wd.2.1, 16, .inl (fun _ => 0))), (q49, .inl (wd.2.1, 64, .inl (fun _ => 0))), (q57, .inl (wd.2.1, 12, .inl (upd (upd (upd (upd (upd (upd (upd (upd (upd (upd (fun _ => 0) 0 0) 1 1) 2 1) 3 0) 4 1) 5 1) 6 100) 7 1) 8 1) 9 100))), (q70, .inl (wd.2.1, 30, .inl (fun _ => 0))), (q89, .inl (wd.2.2.1, 32, .inr (.inl (fun _ => 0)))), (q97, .inl (wd.2.2.1, 32, .inr (.inl (fun _ => 0)))), (q110, .inl (wd.2.1, 33, .inl (fun _ => 0))), (q118, .inl (wd.2.1, 16, .inl (fun _ => 0))), (q126, .inl (wd.2.1, 16, .inl (fun _ => 0)))] := hD
  refine lv_aload_n hx hb dk_9_init_162 rfl (lv_at hl 1 rfl) ?_
  refine va_get (D := wd.1) (ci := 9) (C := R_9) (T := F_9) (N := 19) hx hb hts i_9 hown hK hP 0 rfl rfl 7 (by decide) (hts (.fieldLink R_9 32 "StarHideModel" "net" "[I") (sy_inx 803 (by decide +kernel) (by decide +kernel))) (fun _ h9 => h9) rfl dk_9_init_163 ?_
  refine lv_iconst hx hb dk_9_init_166 (v := 3) rfl ?_
  refine lv_iload_n hx hb dk_9_init_167 rfl (lv_at hl 0 rfl) ?_
  refine lv_imul hx hb dk_9_init_168 ?_
  refine lv_topi (fun z192 hz => ?_)
  have hz : z192 = 9 := hz.trans (by decide)
  subst hz
  refine lv_iconst hx hb dk_9_init_169 (v := 1) rfl ?_
  refine lv_iadd hx hb dk_9_init_170 ?_
  refine lv_topi (fun z194 hz => ?_)
  have hz : z194 = 10 := hz.trans (by decide)
  subst hz
  refine lv_iconst hx hb dk_9_init_171 (v := 1) rfl ?_
  refine va_iast hx hb hK hP hD hS 6 0 rfl rfl (i := 10) (x := 1) (by unfold vp_in; decide) dk_9_init_172 (fun H locs hP hD hS => ?_)
  have hP : va_P wd.1 sy_cl [(h0, .inr (9, [.int 5, .int 0, .ref q17, .ref q25, .ref q33, .ref q41, .ref q49, .ref q57, .int 0, .ref q70, .int 10, .int 0, .ref q89, .ref q97, .int 0, .ref q110, .ref q118, .ref q126, .int 0])), (q17, .inl (wd.2.1, 16, .inl (fun _ => 0))), (q25, .inl (wd.2.1, 16, .inl (fun _ => 0))), (q33, .inl (wd.2.1, 16, .inl (fun _ => 0))), (q41, .inl (wd.2.1, 16, .inl (fun _ => 0))), (q49, .inl (wd.2.1, 64, .inl (fun _ => 0))), (q57, .inl (wd.2.1, 12, .inl (upd (upd (upd (upd (upd (upd (upd (upd (upd (upd (upd (fun _ => 0) 0 0) 1 1) 2 1) 3 0) 4 1) 5 1) 6 100) 7 1) 8 1) 9 100) 10 1))), (q70, .inl (wd.2.1, 30, .inl (fun _ => 0))), (q89, .inl (wd.2.2.1, 32, .inr (.inl (fun _ => 0)))), (q97, .inl (wd.2.2.1, 32, .inr (.inl (fun _ => 0)))), (q110, .inl (wd.2.1, 33, .inl (fun _ => 0))), (q118, .inl (wd.2.1, 16, .inl (fun _ => 0))), (q126, .inl (wd.2.1, 16, .inl (fun _ => 0)))] H := hP
  have hD : va_D A [(h0, .inr (9, [.int 5, .int 0, .ref q17, .ref q25, .ref q33, .ref q41, .ref q49, .ref q57, .int 0, .ref q70, .int 10, .int 0, .ref q89, .ref q97, .int 0, .ref q110, .ref q118, .ref q126, .int 0])), (q17, .inl (wd.2.1, 16, .inl (fun _ => 0))), (q25, .inl (wd.2.1, 16, .inl (fun _ => 0))), (q33, .inl (wd.2.1, 16, .inl (fun _ => 0))), (q41, .inl (wd.2.1, 16, .inl (fun _ => 0))), (q49, .inl (wd.2.1, 64, .inl (fun _ => 0))), (q57, .inl (wd.2.1, 12, .inl (upd (upd (upd (upd (upd (upd (upd (upd (upd (upd (upd (fun _ => 0) 0 0) 1 1) 2 1) 3 0) 4 1) 5 1) 6 100) 7 1) 8 1) 9 100) 10 1))), (q70, .inl (wd.2.1, 30, .inl (fun _ => 0))), (q89, .inl (wd.2.2.1, 32, .inr (.inl (fun _ => 0)))), (q97, .inl (wd.2.2.1, 32, .inr (.inl (fun _ => 0)))), (q110, .inl (wd.2.1, 33, .inl (fun _ => 0))), (q118, .inl (wd.2.1, 16, .inl (fun _ => 0))), (q126, .inl (wd.2.1, 16, .inl (fun _ => 0)))] := hD
  refine lv_aload_n hx hb dk_9_init_173 rfl (lv_at hl 1 rfl) ?_
  refine va_get (D := wd.1) (ci := 9) (C := R_9) (T := F_9) (N := 19) hx hb hts i_9 hown hK hP 0 rfl rfl 7 (by decide) (hts (.fieldLink R_9 32 "StarHideModel" "net" "[I") (sy_inx 803 (by decide +kernel) (by decide +kernel))) (fun _ h9 => h9) rfl dk_9_init_174 ?_
  refine lv_iconst hx hb dk_9_init_177 (v := 3) rfl ?_
  refine lv_iload_n hx hb dk_9_init_178 rfl (lv_at hl 0 rfl) ?_
  refine lv_imul hx hb dk_9_init_179 ?_
  refine lv_topi (fun z201 hz => ?_)
  have hz : z201 = 9 := hz.trans (by decide)
  subst hz
  refine lv_iconst hx hb dk_9_init_180 (v := 2) rfl ?_
  refine lv_iadd hx hb dk_9_init_181 ?_
  refine lv_topi (fun z203 hz => ?_)
  have hz : z203 = 11 := hz.trans (by decide)
  subst hz
  refine lv_iconst hx hb dk_9_init_182 (v := 1) rfl ?_
  refine va_iast hx hb hK hP hD hS 6 0 rfl rfl (i := 11) (x := 1) (by unfold vp_in; decide) dk_9_init_183 (fun H locs hP hD hS => ?_)
  have hP : va_P wd.1 sy_cl [(h0, .inr (9, [.int 5, .int 0, .ref q17, .ref q25, .ref q33, .ref q41, .ref q49, .ref q57, .int 0, .ref q70, .int 10, .int 0, .ref q89, .ref q97, .int 0, .ref q110, .ref q118, .ref q126, .int 0])), (q17, .inl (wd.2.1, 16, .inl (fun _ => 0))), (q25, .inl (wd.2.1, 16, .inl (fun _ => 0))), (q33, .inl (wd.2.1, 16, .inl (fun _ => 0))), (q41, .inl (wd.2.1, 16, .inl (fun _ => 0))), (q49, .inl (wd.2.1, 64, .inl (fun _ => 0))), (q57, .inl (wd.2.1, 12, .inl (upd (upd (upd (upd (upd (upd (upd (upd (upd (upd (upd (upd (fun _ => 0) 0 0) 1 1) 2 1) 3 0) 4 1) 5 1) 6 100) 7 1) 8 1) 9 100) 10 1) 11 1))), (q70, .inl (wd.2.1, 30, .inl (fun _ => 0))), (q89, .inl (wd.2.2.1, 32, .inr (.inl (fun _ => 0)))), (q97, .inl (wd.2.2.1, 32, .inr (.inl (fun _ => 0)))), (q110, .inl (wd.2.1, 33, .inl (fun _ => 0))), (q118, .inl (wd.2.1, 16, .inl (fun _ => 0))), (q126, .inl (wd.2.1, 16, .inl (fun _ => 0)))] H := hP
  have hD : va_D A [(h0, .inr (9, [.int 5, .int 0, .ref q17, .ref q25, .ref q33, .ref q41, .ref q49, .ref q57, .int 0, .ref q70, .int 10, .int 0, .ref q89, .ref q97, .int 0, .ref q110, .ref q118, .ref q126, .int 0])), (q17, .inl (wd.2.1, 16, .inl (fun _ => 0))), (q25, .inl (wd.2.1, 16, .inl (fun _ => 0))), (q33, .inl (wd.2.1, 16, .inl (fun _ => 0))), (q41, .inl (wd.2.1, 16, .inl (fun _ => 0))), (q49, .inl (wd.2.1, 64, .inl (fun _ => 0))), (q57, .inl (wd.2.1, 12, .inl (upd (upd (upd (upd (upd (upd (upd (upd (upd (upd (upd (upd (fun _ => 0) 0 0) 1 1) 2 1) 3 0) 4 1) 5 1) 6 100) 7 1) 8 1) 9 100) 10 1) 11 1))), (q70, .inl (wd.2.1, 30, .inl (fun _ => 0))), (q89, .inl (wd.2.2.1, 32, .inr (.inl (fun _ => 0)))), (q97, .inl (wd.2.2.1, 32, .inr (.inl (fun _ => 0)))), (q110, .inl (wd.2.1, 33, .inl (fun _ => 0))), (q118, .inl (wd.2.1, 16, .inl (fun _ => 0))), (q126, .inl (wd.2.1, 16, .inl (fun _ => 0)))] := hD
  refine lv_iinc hx hb dk_9_init_184 hl (k := 0) rfl (v := 4) (by decide) (by decide) rfl (fun ls hl => ?_)
  have hl : lv_has ls 2 [(1, .int 4), (0, .ref h0)] := hl
  refine lv_goto hx hb dk_9_init_187 (tgt := 138) (by decide) ?_
  refine lv_iload_n hx hb dk_9_init_138 rfl (lv_at hl 0 rfl) ?_
  refine lv_iconst hx hb dk_9_init_139 (v := 4) rfl ?_
  refine lv_icmp_ge hx hb dk_9_init_140 (tgt := 190) (by decide) (fun _ => ?_) (fun c9 => absurd (by decide) c9)
  refine W.widen (k := 12) (n := 299) (by decide) (by decide) ?_
  subst hAe
  exact W.vret hx hb hr (fun t ht hW => ⟨⟨(fun k => match k with | 0 => q17 | 1 => q25 | 2 => q33 | 3 => q41 | 4 => q49 | 5 => q57 | 6 => q70 | 7 => q89 | 8 => q97 | 9 => q110 | 10 => q118 | 11 => q126 | _ => 0), rfl, trivial, by rw [ht]; exact hP, hD⟩, hS.F ht⟩) hS.2.2 dk_9_init_190 hlk
