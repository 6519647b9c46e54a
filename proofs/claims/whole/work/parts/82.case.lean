/-! the law's cases -/
section LC
variable {p : Program} {e : Env} {s : State} {m : MethodId} {below : List Frame} {meth : Method} {c : Code} {b L : Nat} {xs : Nat → Int32} {wd : sy_D} {H : Heap} {locs : List Loc} {cells slots : Nat} {ls : Array Slot} {i ns : Nat} {ad : Nat → Nat} {st : sy_S} {Q : State → Prop}
theorem jw_8_speed : Cond.code y_8_speed c_8_speed 3 (some .int) ∈ sy_tb ∧ Cond.initialized y_8_speed.cls ∈ sy_tb ∧ (y_8_speed.cls ≠ "java/lang/invoke/MethodHandle" ∧ y_8_speed.cls ≠ "java/lang/invoke/VarHandle" ∧ (parseMethodDescriptor y_8_speed.desc).map (fun d => d.parameters.length) = some 1) := ⟨sy_inx 287 (by decide +kernel) (by decide +kernel), sy_inx 44 (by decide +kernel) (by decide +kernel), by decide +kernel⟩
theorem ji_8_speed : Cond.instanceMethod y_8_speed ∈ sy_tb ∧ Cond.selects y_8_speed.cls y_8_speed y_8_speed ∈ sy_tb := ⟨sy_inx 285 (by decide +kernel) (by decide +kernel), sy_inx 286 (by decide +kernel) (by decide +kernel)⟩
theorem jw_9_speed : Cond.code y_9_speed c_9_speed 3 (some .int) ∈ sy_tb ∧ Cond.initialized y_9_speed.cls ∈ sy_tb ∧ (y_9_speed.cls ≠ "java/lang/invoke/MethodHandle" ∧ y_9_speed.cls ≠ "java/lang/invoke/VarHandle" ∧ (parseMethodDescriptor y_9_speed.desc).map (fun d => d.parameters.length) = some 1) := ⟨sy_inx 858 (by decide +kernel) (by decide +kernel), sy_inx 53 (by decide +kernel) (by decide +kernel), by decide +kernel⟩
theorem ji_9_speed : Cond.instanceMethod y_9_speed ∈ sy_tb ∧ Cond.selects y_9_speed.cls y_9_speed y_9_speed ∈ sy_tb := ⟨sy_inx 856 (by decide +kernel) (by decide +kernel), sy_inx 857 (by decide +kernel) (by decide +kernel)⟩
set_option maxHeartbeats 4000000 in
set_option maxRecDepth 100000 in
theorem lc_speed (l : Launch) (C0 : lw_C p s m meth c b L xs wd) (hL : L ≤ 3072) (hi : i + 5 < L) (hcs : cells + 2 ≤ room_1.cells ∧ slots + 522 ≤ room_1.slots) (hl : lv_has ls 4 [(0, .ref b), (1, .ref (ad 0)), (2, .ref (ad 24)), (3, .int (nI i))]) (hWO : sy_WO wd ad ns st (lw_A s) H) (hR : Rel ns st) (hS : va_S (lw_A s) s.heap H locs) (kk : ∀ (ns' : Nat) (ad' : Nat → Nat) (st' : sy_S) (H' : Heap) (locs' : List Loc), ad' 0 = ad 0 → ad' 24 = ad 24 → sy_WO wd ad' ns' st' (lw_A s) H' → Rel ns' st' → va_S (lw_A s) s.heap H' locs' → W p l e room_1 s m #[Value.ref b] below meth c H' locs' (cells + 2) (slots + 522) Q (F0 m 1001 ls [])) : W p l e room_1 s m #[Value.ref b] below meth c H locs (cells) (slots) Q (F0 m 160 ls []) := by
  have S0 := lw_fix C0
  obtain ⟨⟨hx, hb, hr, hml, hown, hts, hX, hbl, hlocks, hgv⟩, hK, hKK⟩ := id C0
  have hA : ∀ q : Nat, s.heap.size ≤ q → lw_A s q := fun _ h => h
  have hc0 : cells ≤ room_1.cells ∧ slots ≤ room_1.slots := ⟨by omega, by omega⟩
  refine lv_aload_n hx hb dL_160 rfl (lv_at hl 1 rfl) ?_
  refine lw_arg C0 hS hl hi hL (k := 1) (by decide) (by decide) dL_161 dL_162 dL_163 dL_164 dL_165 ?_
  refine sq_V (ci := 8) (b := 0) (as' := [.inl (true, (xs (i + 1)).toInt)]) (rest := []) S0 hKK hA (mc_8_speed l) ⟨jw_8_speed.1, jw_8_speed.2.1, jw_8_speed.2.2, ⟨by decide, by decide⟩, rfl, rfl⟩ (sy_inx 284 (by decide +kernel) (by decide +kernel)) ji_8_speed rfl ⟨_, rfl, rfl⟩ (lw_ok (by omega) [xs (i + 1)]) rfl (pi_speed (pr_speed hR _)) rfl (Nat.le_of_ble_eq_true rfl) hc0 hl.1 dL_166 hWO hS (fun r st1 H locs hp _ hWO hS => ?_)
  obtain ⟨⟨z, rfl⟩, hp⟩ := hp
  refine lv_aload_n hx hb dL_169 rfl (lv_at hl 2 rfl) ?_
  refine lw_arg C0 hS hl hi hL (k := 1) (by decide) (by decide) dL_170 dL_171 dL_172 dL_173 dL_174 ?_
  refine sq_V (ci := 9) (b := 24) (as' := [.inl (true, (xs (i + 1)).toInt)]) (rest := [.int (Int32.ofInt z)]) S0 hKK hA (mc_9_speed l) ⟨jw_9_speed.1, jw_9_speed.2.1, jw_9_speed.2.2, ⟨by decide, by decide⟩, rfl, rfl⟩ (sy_inx 855 (by decide +kernel) (by decide +kernel)) ji_9_speed rfl ⟨_, rfl, rfl⟩ (lw_ok (by omega) [xs (i + 1)]) rfl hp rfl (Nat.le_of_ble_eq_true rfl) hc0 hl.1 dL_175 hWO hS (fun r st2 H locs hp _ hWO hS => ?_)
  obtain ⟨rfl, hR2⟩ := hp
  refine lv_icmp_eq hx hb dL_178 (tgt := 1001) (by decide) (fun _ => ?_) (fun c9 => absurd rfl c9)
  exact W.widen (by omega) (by omega) (kk ns ad st2 H locs rfl rfl hWO hR2 hS)
theorem jw_9_site : Cond.code y_9_site c_9_site 4 (some .int) ∈ sy_tb ∧ Cond.initialized y_9_site.cls ∈ sy_tb ∧ (y_9_site.cls ≠ "java/lang/invoke/MethodHandle" ∧ y_9_site.cls ≠ "java/lang/invoke/VarHandle" ∧ (parseMethodDescriptor y_9_site.desc).map (fun d => d.parameters.length) = some 2) := ⟨sy_inx 865 (by decide +kernel) (by decide +kernel), sy_inx 53 (by decide +kernel) (by decide +kernel), by decide +kernel⟩
theorem ji_9_site : Cond.instanceMethod y_9_site ∈ sy_tb ∧ Cond.selects y_9_site.cls y_9_site y_9_site ∈ sy_tb := ⟨sy_inx 863 (by decide +kernel) (by decide +kernel), sy_inx 864 (by decide +kernel) (by decide +kernel)⟩
set_option maxHeartbeats 4000000 in
set_option maxRecDepth 100000 in
theorem lc_site (l : Launch) (C0 : lw_C p s m meth c b L xs wd) (hL : L ≤ 3072) (hi : i + 5 < L) (hcs : cells + 2 ≤ room_1.cells ∧ slots + 522 ≤ room_1.slots) (hl : lv_has ls 4 [(0, .ref b), (1, .ref (ad 0)), (2, .ref (ad 24)), (3, .int (nI i))]) (hWO : sy_WO wd ad ns st (lw_A s) H) (hR : Rel ns st) (hS : va_S (lw_A s) s.heap H locs) (kk : ∀ (ns' : Nat) (ad' : Nat → Nat) (st' : sy_S) (H' : Heap) (locs' : List Loc), ad' 0 = ad 0 → ad' 24 = ad 24 → sy_WO wd ad' ns' st' (lw_A s) H' → Rel ns' st' → va_S (lw_A s) s.heap H' locs' → W p l e room_1 s m #[Value.ref b] below meth c H' locs' (cells + 2) (slots + 522) Q (F0 m 1001 ls [])) : W p l e room_1 s m #[Value.ref b] below meth c H locs (cells) (slots) Q (F0 m 183 ls []) := by
  have S0 := lw_fix C0
  obtain ⟨⟨hx, hb, hr, hml, hown, hts, hX, hbl, hlocks, hgv⟩, hK, hKK⟩ := id C0
  have hA : ∀ q : Nat, s.heap.size ≤ q → lw_A s q := fun _ h => h
  have hc0 : cells ≤ room_1.cells ∧ slots ≤ room_1.slots := ⟨by omega, by omega⟩
  refine lv_aload_n hx hb dL_183 rfl (lv_at hl 1 rfl) ?_
  refine lw_arg C0 hS hl hi hL (k := 1) (by decide) (by decide) dL_184 dL_185 dL_186 dL_187 dL_188 ?_
  refine lw_arg C0 hS hl hi hL (k := 2) (by decide) (by decide) dL_189 dL_190 dL_191 dL_192 dL_193 ?_
  have hs : c_site ns st := hR.1.1.1.1
  refine sa_V (ci := 8) (b := 0) (f := sa_can8) (yy := (xs (i + 1)).toInt) (xx := (xs (i + 2)).toInt) (rest := []) S0 hK hKK hA (k_8_site l) jw_8_site ⟨⟨by decide, by decide⟩, rfl, rfl⟩ (sy_inx 299 (by decide +kernel) (by decide +kernel)) ji_8_site (by omega) rfl ⟨_, rfl, rfl⟩ hs (sy_iR_of _) (sy_iR_of _) (Nat.le_of_ble_eq_true rfl) hcs hl.1 dL_194 hWO hS (fun v H locs hend hS => ?_)
  rcases hend with ⟨g1, g2, ad', g3, hWO⟩ | ⟨g1, g2, hWO⟩
  · cases g2
    have hl : lv_has ls 4 [(0, .ref b), (1, .ref (ad' 0)), (2, .ref (ad' 24)), (3, .int (nI i))] := by rw [g3 0 (by omega), g3 24 (by omega)]; exact hl
    refine lv_aload_n hx hb dL_197 rfl (lv_at hl 2 rfl) ?_
    refine lw_arg C0 hS hl hi hL (k := 1) (by decide) (by decide) dL_198 dL_199 dL_200 dL_201 dL_202 ?_
    refine lw_arg C0 hS hl hi hL (k := 2) (by decide) (by decide) dL_203 dL_204 dL_205 dL_206 dL_207 ?_
    refine sq_V (ci := 9) (b := 24) (as' := [.inl (true, (xs (i + 1)).toInt), .inl (true, (xs (i + 2)).toInt)]) (rest := [.int (nI ns)]) S0 hKK hA (mc_9_site l) ⟨jw_9_site.1, jw_9_site.2.1, jw_9_site.2.2, ⟨by decide, by decide⟩, rfl, rfl⟩ (sy_inx 862 (by decide +kernel) (by decide +kernel)) ji_9_site rfl ⟨_, rfl, rfl⟩ (lw_ok (by omega) [xs (i + 1), xs (i + 2)]) rfl (ps_yes hR g1) rfl (Nat.le_of_ble_eq_true rfl) hcs hl.1 dL_208 hWO hS (fun r st2 H locs hp _ hWO hS => ?_)
    obtain ⟨rfl, hR2⟩ := hp
    refine lv_icmp_eq hx hb dL_211 (tgt := 1001) (by decide) (fun _ => ?_) (fun c9 => absurd (sq_nI (by have := hs.2; omega)).symm c9)
    exact kk (ns + 1) ad' st2 H locs (g3 0 (by omega)) (g3 24 (by omega)) hWO hR2 hS
  · cases g2
    refine lv_aload_n hx hb dL_197 rfl (lv_at hl 2 rfl) ?_
    refine lw_arg C0 hS hl hi hL (k := 1) (by decide) (by decide) dL_198 dL_199 dL_200 dL_201 dL_202 ?_
    refine lw_arg C0 hS hl hi hL (k := 2) (by decide) (by decide) dL_203 dL_204 dL_205 dL_206 dL_207 ?_
    refine sq_V (ci := 9) (b := 24) (as' := [.inl (true, (xs (i + 1)).toInt), .inl (true, (xs (i + 2)).toInt)]) (rest := [.int (-1)]) S0 hKK hA (mc_9_site l) ⟨jw_9_site.1, jw_9_site.2.1, jw_9_site.2.2, ⟨by decide, by decide⟩, rfl, rfl⟩ (sy_inx 862 (by decide +kernel) (by decide +kernel)) ji_9_site rfl ⟨_, rfl, rfl⟩ (lw_ok (by omega) [xs (i + 1), xs (i + 2)]) rfl (ps_no hR g1) rfl (Nat.le_of_ble_eq_true rfl) hcs hl.1 dL_208 hWO hS (fun r st2 H locs hp _ hWO hS => ?_)
    obtain ⟨rfl, hR2⟩ := hp
    refine lv_icmp_eq hx hb dL_211 (tgt := 1001) (by decide) (fun _ => ?_) (fun c9 => absurd (by decide) c9)
    exact kk ns ad st2 H locs rfl rfl hWO hR2 hS
theorem jw_8_ahead : Cond.code y_8_ahead c_8_ahead 5 (some .int) ∈ sy_tb ∧ Cond.initialized y_8_ahead.cls ∈ sy_tb ∧ (y_8_ahead.cls ≠ "java/lang/invoke/MethodHandle" ∧ y_8_ahead.cls ≠ "java/lang/invoke/VarHandle" ∧ (parseMethodDescriptor y_8_ahead.desc).map (fun d => d.parameters.length) = some 2) := ⟨sy_inx 376 (by decide +kernel) (by decide +kernel), sy_inx 44 (by decide +kernel) (by decide +kernel), by decide +kernel⟩
theorem ji_8_ahead : Cond.instanceMethod y_8_ahead ∈ sy_tb ∧ Cond.selects y_8_ahead.cls y_8_ahead y_8_ahead ∈ sy_tb := ⟨sy_inx 374 (by decide +kernel) (by decide +kernel), sy_inx 375 (by decide +kernel) (by decide +kernel)⟩
theorem jw_9_ahead : Cond.code y_9_ahead c_9_ahead 4 (some .int) ∈ sy_tb ∧ Cond.initialized y_9_ahead.cls ∈ sy_tb ∧ (y_9_ahead.cls ≠ "java/lang/invoke/MethodHandle" ∧ y_9_ahead.cls ≠ "java/lang/invoke/VarHandle" ∧ (parseMethodDescriptor y_9_ahead.desc).map (fun d => d.parameters.length) = some 2) := ⟨sy_inx 869 (by decide +kernel) (by decide +kernel), sy_inx 53 (by decide +kernel) (by decide +kernel), by decide +kernel⟩
theorem ji_9_ahead : Cond.instanceMethod y_9_ahead ∈ sy_tb ∧ Cond.selects y_9_ahead.cls y_9_ahead y_9_ahead ∈ sy_tb := ⟨sy_inx 867 (by decide +kernel) (by decide +kernel), sy_inx 868 (by decide +kernel) (by decide +kernel)⟩
set_option maxHeartbeats 4000000 in
set_option maxRecDepth 100000 in
theorem lc_ahead (l : Launch) (C0 : lw_C p s m meth c b L xs wd) (hL : L ≤ 3072) (hi : i + 5 < L) (hcs : cells + 2 ≤ room_1.cells ∧ slots + 522 ≤ room_1.slots) (hl : lv_has ls 4 [(0, .ref b), (1, .ref (ad 0)), (2, .ref (ad 24)), (3, .int (nI i))]) (hWO : sy_WO wd ad ns st (lw_A s) H) (hR : Rel ns st) (hS : va_S (lw_A s) s.heap H locs) (kk : ∀ (ns' : Nat) (ad' : Nat → Nat) (st' : sy_S) (H' : Heap) (locs' : List Loc), ad' 0 = ad 0 → ad' 24 = ad 24 → sy_WO wd ad' ns' st' (lw_A s) H' → Rel ns' st' → va_S (lw_A s) s.heap H' locs' → W p l e room_1 s m #[Value.ref b] below meth c H' locs' (cells + 2) (slots + 522) Q (F0 m 1001 ls [])) : W p l e room_1 s m #[Value.ref b] below meth c H locs (cells) (slots) Q (F0 m 216 ls []) := by
  have S0 := lw_fix C0
  obtain ⟨⟨hx, hb, hr, hml, hown, hts, hX, hbl, hlocks, hgv⟩, hK, hKK⟩ := id C0
  have hA : ∀ q : Nat, s.heap.size ≤ q → lw_A s q := fun _ h => h
  have hc0 : cells ≤ room_1.cells ∧ slots ≤ room_1.slots := ⟨by omega, by omega⟩
  refine lv_aload_n hx hb dL_216 rfl (lv_at hl 1 rfl) ?_
  refine lw_arg C0 hS hl hi hL (k := 1) (by decide) (by decide) dL_217 dL_218 dL_219 dL_220 dL_221 ?_
  refine lw_arg C0 hS hl hi hL (k := 2) (by decide) (by decide) dL_222 dL_223 dL_224 dL_225 dL_226 ?_
  refine sq_V (ci := 8) (b := 0) (as' := [.inl (true, (xs (i + 1)).toInt), .inl (true, (xs (i + 2)).toInt)]) (rest := []) S0 hKK hA (mc_8_ahead l) ⟨jw_8_ahead.1, jw_8_ahead.2.1, jw_8_ahead.2.2, ⟨by decide, by decide⟩, rfl, rfl⟩ (sy_inx 373 (by decide +kernel) (by decide +kernel)) ji_8_ahead rfl ⟨_, rfl, rfl⟩ (lw_ok (by omega) [xs (i + 1), xs (i + 2)]) rfl (pi_ahead (pr_ahead hR _ _)) rfl (Nat.le_of_ble_eq_true rfl) hc0 hl.1 dL_227 hWO hS (fun r st1 H locs hp _ hWO hS => ?_)
  obtain ⟨⟨z, rfl⟩, hp⟩ := hp
  refine lv_aload_n hx hb dL_230 rfl (lv_at hl 2 rfl) ?_
  refine lw_arg C0 hS hl hi hL (k := 1) (by decide) (by decide) dL_231 dL_232 dL_233 dL_234 dL_235 ?_
  refine lw_arg C0 hS hl hi hL (k := 2) (by decide) (by decide) dL_236 dL_237 dL_238 dL_239 dL_240 ?_
  refine sq_V (ci := 9) (b := 24) (as' := [.inl (true, (xs (i + 1)).toInt), .inl (true, (xs (i + 2)).toInt)]) (rest := [.int (Int32.ofInt z)]) S0 hKK hA (mc_9_ahead l) ⟨jw_9_ahead.1, jw_9_ahead.2.1, jw_9_ahead.2.2, ⟨by decide, by decide⟩, rfl, rfl⟩ (sy_inx 866 (by decide +kernel) (by decide +kernel)) ji_9_ahead rfl ⟨_, rfl, rfl⟩ (lw_ok (by omega) [xs (i + 1), xs (i + 2)]) rfl hp rfl (Nat.le_of_ble_eq_true rfl) hc0 hl.1 dL_241 hWO hS (fun r st2 H locs hp _ hWO hS => ?_)
  obtain ⟨rfl, hR2⟩ := hp
  refine lv_icmp_eq hx hb dL_244 (tgt := 1001) (by decide) (fun _ => ?_) (fun c9 => absurd rfl c9)
  exact W.widen (by omega) (by omega) (kk ns ad st2 H locs rfl rfl hWO hR2 hS)
theorem jw_8_chord : Cond.code y_8_chord c_8_chord 7 (some .boolean) ∈ sy_tb ∧ Cond.initialized y_8_chord.cls ∈ sy_tb ∧ (y_8_chord.cls ≠ "java/lang/invoke/MethodHandle" ∧ y_8_chord.cls ≠ "java/lang/invoke/VarHandle" ∧ (parseMethodDescriptor y_8_chord.desc).map (fun d => d.parameters.length) = some 5) := ⟨sy_inx 389 (by decide +kernel) (by decide +kernel), sy_inx 44 (by decide +kernel) (by decide +kernel), by decide +kernel⟩
theorem ji_8_chord : Cond.instanceMethod y_8_chord ∈ sy_tb ∧ Cond.selects y_8_chord.cls y_8_chord y_8_chord ∈ sy_tb := ⟨sy_inx 387 (by decide +kernel) (by decide +kernel), sy_inx 388 (by decide +kernel) (by decide +kernel)⟩
theorem jw_9_chord : Cond.code y_9_chord c_9_chord 6 (some .boolean) ∈ sy_tb ∧ Cond.initialized y_9_chord.cls ∈ sy_tb ∧ (y_9_chord.cls ≠ "java/lang/invoke/MethodHandle" ∧ y_9_chord.cls ≠ "java/lang/invoke/VarHandle" ∧ (parseMethodDescriptor y_9_chord.desc).map (fun d => d.parameters.length) = some 5) := ⟨sy_inx 877 (by decide +kernel) (by decide +kernel), sy_inx 53 (by decide +kernel) (by decide +kernel), by decide +kernel⟩
theorem ji_9_chord : Cond.instanceMethod y_9_chord ∈ sy_tb ∧ Cond.selects y_9_chord.cls y_9_chord y_9_chord ∈ sy_tb := ⟨sy_inx 875 (by decide +kernel) (by decide +kernel), sy_inx 876 (by decide +kernel) (by decide +kernel)⟩
set_option maxHeartbeats 4000000 in
set_option maxRecDepth 100000 in
theorem lc_chord (l : Launch) (C0 : lw_C p s m meth c b L xs wd) (hL : L ≤ 3072) (hi : i + 5 < L) (hcs : cells + 2 ≤ room_1.cells ∧ slots + 522 ≤ room_1.slots) (hl : lv_has ls 4 [(0, .ref b), (1, .ref (ad 0)), (2, .ref (ad 24)), (3, .int (nI i))]) (hWO : sy_WO wd ad ns st (lw_A s) H) (hR : Rel ns st) (hS : va_S (lw_A s) s.heap H locs) (kk : ∀ (ns' : Nat) (ad' : Nat → Nat) (st' : sy_S) (H' : Heap) (locs' : List Loc), ad' 0 = ad 0 → ad' 24 = ad 24 → sy_WO wd ad' ns' st' (lw_A s) H' → Rel ns' st' → va_S (lw_A s) s.heap H' locs' → W p l e room_1 s m #[Value.ref b] below meth c H' locs' (cells + 2) (slots + 522) Q (F0 m 1001 ls [])) : W p l e room_1 s m #[Value.ref b] below meth c H locs (cells) (slots) Q (F0 m 249 ls []) := by
  have S0 := lw_fix C0
  obtain ⟨⟨hx, hb, hr, hml, hown, hts, hX, hbl, hlocks, hgv⟩, hK, hKK⟩ := id C0
  have hA : ∀ q : Nat, s.heap.size ≤ q → lw_A s q := fun _ h => h
  have hc0 : cells ≤ room_1.cells ∧ slots ≤ room_1.slots := ⟨by omega, by omega⟩
  refine lv_aload_n hx hb dL_249 rfl (lv_at hl 1 rfl) ?_
  refine lw_arg C0 hS hl hi hL (k := 1) (by decide) (by decide) dL_250 dL_251 dL_252 dL_253 dL_254 ?_
  refine lw_arg C0 hS hl hi hL (k := 2) (by decide) (by decide) dL_255 dL_256 dL_257 dL_258 dL_259 ?_
  refine lw_arg C0 hS hl hi hL (k := 3) (by decide) (by decide) dL_260 dL_261 dL_262 dL_263 dL_264 ?_
  refine lw_arg C0 hS hl hi hL (k := 4) (by decide) (by decide) dL_265 dL_266 dL_267 dL_268 dL_269 ?_
  refine lw_arg C0 hS hl hi hL (k := 5) (by decide) (by decide) dL_270 dL_271 dL_272 dL_273 dL_274 ?_
  refine sq_V (ci := 8) (b := 0) (as' := [.inl (true, (xs (i + 1)).toInt), .inl (true, (xs (i + 2)).toInt), .inl (true, (xs (i + 3)).toInt), .inl (true, (xs (i + 4)).toInt), .inl (true, (xs (i + 5)).toInt)]) (rest := []) S0 hKK hA (mc_8_chord l) ⟨jw_8_chord.1, jw_8_chord.2.1, jw_8_chord.2.2, ⟨by decide, by decide⟩, rfl, rfl⟩ (sy_inx 386 (by decide +kernel) (by decide +kernel)) ji_8_chord rfl ⟨_, rfl, rfl⟩ (lw_ok (by omega) [xs (i + 1), xs (i + 2), xs (i + 3), xs (i + 4), xs (i + 5)]) rfl (pi_chord (pr_chord hR _ _ _ _ _)) rfl (Nat.le_of_ble_eq_true rfl) hc0 hl.1 dL_275 hWO hS (fun r st1 H locs hp _ hWO hS => ?_)
  obtain ⟨⟨z, rfl⟩, hp⟩ := hp
  refine lv_aload_n hx hb dL_278 rfl (lv_at hl 2 rfl) ?_
  refine lw_arg C0 hS hl hi hL (k := 1) (by decide) (by decide) dL_279 dL_280 dL_281 dL_282 dL_283 ?_
  refine lw_arg C0 hS hl hi hL (k := 2) (by decide) (by decide) dL_284 dL_285 dL_286 dL_287 dL_288 ?_
  refine lw_arg C0 hS hl hi hL (k := 3) (by decide) (by decide) dL_289 dL_290 dL_291 dL_292 dL_293 ?_
  refine lw_arg C0 hS hl hi hL (k := 4) (by decide) (by decide) dL_294 dL_295 dL_296 dL_297 dL_298 ?_
  refine lw_arg C0 hS hl hi hL (k := 5) (by decide) (by decide) dL_299 dL_300 dL_301 dL_302 dL_303 ?_
  refine sq_V (ci := 9) (b := 24) (as' := [.inl (true, (xs (i + 1)).toInt), .inl (true, (xs (i + 2)).toInt), .inl (true, (xs (i + 3)).toInt), .inl (true, (xs (i + 4)).toInt), .inl (true, (xs (i + 5)).toInt)]) (rest := [.int (Int32.ofInt z)]) S0 hKK hA (mc_9_chord l) ⟨jw_9_chord.1, jw_9_chord.2.1, jw_9_chord.2.2, ⟨by decide, by decide⟩, rfl, rfl⟩ (sy_inx 874 (by decide +kernel) (by decide +kernel)) ji_9_chord rfl ⟨_, rfl, rfl⟩ (lw_ok (by omega) [xs (i + 1), xs (i + 2), xs (i + 3), xs (i + 4), xs (i + 5)]) rfl hp rfl (Nat.le_of_ble_eq_true rfl) hc0 hl.1 dL_304 hWO hS (fun r st2 H locs hp _ hWO hS => ?_)
  obtain ⟨rfl, hR2⟩ := hp
  refine lv_icmp_eq hx hb dL_307 (tgt := 1001) (by decide) (fun _ => ?_) (fun c9 => absurd rfl c9)
  exact W.widen (by omega) (by omega) (kk ns ad st2 H locs rfl rfl hWO hR2 hS)
theorem jw_8_miss : Cond.code y_8_miss c_8_miss 5 (some .boolean) ∈ sy_tb ∧ Cond.initialized y_8_miss.cls ∈ sy_tb ∧ (y_8_miss.cls ≠ "java/lang/invoke/MethodHandle" ∧ y_8_miss.cls ≠ "java/lang/invoke/VarHandle" ∧ (parseMethodDescriptor y_8_miss.desc).map (fun d => d.parameters.length) = some 3) := ⟨sy_inx 400 (by decide +kernel) (by decide +kernel), sy_inx 44 (by decide +kernel) (by decide +kernel), by decide +kernel⟩
theorem ji_8_miss : Cond.instanceMethod y_8_miss ∈ sy_tb ∧ Cond.selects y_8_miss.cls y_8_miss y_8_miss ∈ sy_tb := ⟨sy_inx 398 (by decide +kernel) (by decide +kernel), sy_inx 399 (by decide +kernel) (by decide +kernel)⟩
theorem jw_9_miss : Cond.code y_9_miss c_9_miss 4 (some .boolean) ∈ sy_tb ∧ Cond.initialized y_9_miss.cls ∈ sy_tb ∧ (y_9_miss.cls ≠ "java/lang/invoke/MethodHandle" ∧ y_9_miss.cls ≠ "java/lang/invoke/VarHandle" ∧ (parseMethodDescriptor y_9_miss.desc).map (fun d => d.parameters.length) = some 3) := ⟨sy_inx 888 (by decide +kernel) (by decide +kernel), sy_inx 53 (by decide +kernel) (by decide +kernel), by decide +kernel⟩
theorem ji_9_miss : Cond.instanceMethod y_9_miss ∈ sy_tb ∧ Cond.selects y_9_miss.cls y_9_miss y_9_miss ∈ sy_tb := ⟨sy_inx 886 (by decide +kernel) (by decide +kernel), sy_inx 887 (by decide +kernel) (by decide +kernel)⟩
set_option maxHeartbeats 4000000 in
set_option maxRecDepth 100000 in
theorem lc_miss (l : Launch) (C0 : lw_C p s m meth c b L xs wd) (hL : L ≤ 3072) (hi : i + 5 < L) (hcs : cells + 2 ≤ room_1.cells ∧ slots + 522 ≤ room_1.slots) (hl : lv_has ls 4 [(0, .ref b), (1, .ref (ad 0)), (2, .ref (ad 24)), (3, .int (nI i))]) (hWO : sy_WO wd ad ns st (lw_A s) H) (hR : Rel ns st) (hS : va_S (lw_A s) s.heap H locs) (kk : ∀ (ns' : Nat) (ad' : Nat → Nat) (st' : sy_S) (H' : Heap) (locs' : List Loc), ad' 0 = ad 0 → ad' 24 = ad 24 → sy_WO wd ad' ns' st' (lw_A s) H' → Rel ns' st' → va_S (lw_A s) s.heap H' locs' → W p l e room_1 s m #[Value.ref b] below meth c H' locs' (cells + 2) (slots + 522) Q (F0 m 1001 ls [])) : W p l e room_1 s m #[Value.ref b] below meth c H locs (cells) (slots) Q (F0 m 312 ls []) := by
  have S0 := lw_fix C0
  obtain ⟨⟨hx, hb, hr, hml, hown, hts, hX, hbl, hlocks, hgv⟩, hK, hKK⟩ := id C0
  have hA : ∀ q : Nat, s.heap.size ≤ q → lw_A s q := fun _ h => h
  have hc0 : cells ≤ room_1.cells ∧ slots ≤ room_1.slots := ⟨by omega, by omega⟩
  refine lv_aload_n hx hb dL_312 rfl (lv_at hl 1 rfl) ?_
  refine lw_arg C0 hS hl hi hL (k := 1) (by decide) (by decide) dL_313 dL_314 dL_315 dL_316 dL_317 ?_
  refine lw_arg C0 hS hl hi hL (k := 2) (by decide) (by decide) dL_318 dL_319 dL_320 dL_321 dL_322 ?_
  refine lw_arg C0 hS hl hi hL (k := 3) (by decide) (by decide) dL_323 dL_324 dL_325 dL_326 dL_327 ?_
  refine sq_V (ci := 8) (b := 0) (as' := [.inl (true, (xs (i + 1)).toInt), .inl (true, (xs (i + 2)).toInt), .inl (true, (xs (i + 3)).toInt)]) (rest := []) S0 hKK hA (mc_8_miss l) ⟨jw_8_miss.1, jw_8_miss.2.1, jw_8_miss.2.2, ⟨by decide, by decide⟩, rfl, rfl⟩ (sy_inx 397 (by decide +kernel) (by decide +kernel)) ji_8_miss rfl ⟨_, rfl, rfl⟩ (lw_ok (by omega) [xs (i + 1), xs (i + 2), xs (i + 3)]) rfl (pi_miss (pr_miss hR _ _ _)) rfl (Nat.le_of_ble_eq_true rfl) hc0 hl.1 dL_328 hWO hS (fun r st1 H locs hp _ hWO hS => ?_)
  obtain ⟨⟨z, rfl⟩, hp⟩ := hp
  refine lv_aload_n hx hb dL_331 rfl (lv_at hl 2 rfl) ?_
  refine lw_arg C0 hS hl hi hL (k := 1) (by decide) (by decide) dL_332 dL_333 dL_334 dL_335 dL_336 ?_
  refine lw_arg C0 hS hl hi hL (k := 2) (by decide) (by decide) dL_337 dL_338 dL_339 dL_340 dL_341 ?_
  refine lw_arg C0 hS hl hi hL (k := 3) (by decide) (by decide) dL_342 dL_343 dL_344 dL_345 dL_346 ?_
  refine sq_V (ci := 9) (b := 24) (as' := [.inl (true, (xs (i + 1)).toInt), .inl (true, (xs (i + 2)).toInt), .inl (true, (xs (i + 3)).toInt)]) (rest := [.int (Int32.ofInt z)]) S0 hKK hA (mc_9_miss l) ⟨jw_9_miss.1, jw_9_miss.2.1, jw_9_miss.2.2, ⟨by decide, by decide⟩, rfl, rfl⟩ (sy_inx 885 (by decide +kernel) (by decide +kernel)) ji_9_miss rfl ⟨_, rfl, rfl⟩ (lw_ok (by omega) [xs (i + 1), xs (i + 2), xs (i + 3)]) rfl hp rfl (Nat.le_of_ble_eq_true rfl) hc0 hl.1 dL_347 hWO hS (fun r st2 H locs hp _ hWO hS => ?_)
  obtain ⟨rfl, hR2⟩ := hp
  refine lv_icmp_eq hx hb dL_350 (tgt := 1001) (by decide) (fun _ => ?_) (fun c9 => absurd rfl c9)
  exact W.widen (by omega) (by omega) (kk ns ad st2 H locs rfl rfl hWO hR2 hS)
theorem jw_8_cloud : Cond.code y_8_cloud c_8_cloud 3 (some .boolean) ∈ sy_tb ∧ Cond.initialized y_8_cloud.cls ∈ sy_tb ∧ (y_8_cloud.cls ≠ "java/lang/invoke/MethodHandle" ∧ y_8_cloud.cls ≠ "java/lang/invoke/VarHandle" ∧ (parseMethodDescriptor y_8_cloud.desc).map (fun d => d.parameters.length) = some 1) := ⟨sy_inx 404 (by decide +kernel) (by decide +kernel), sy_inx 44 (by decide +kernel) (by decide +kernel), by decide +kernel⟩
theorem ji_8_cloud : Cond.instanceMethod y_8_cloud ∈ sy_tb ∧ Cond.selects y_8_cloud.cls y_8_cloud y_8_cloud ∈ sy_tb := ⟨sy_inx 402 (by decide +kernel) (by decide +kernel), sy_inx 403 (by decide +kernel) (by decide +kernel)⟩
theorem jw_9_cloud : Cond.code y_9_cloud c_9_cloud 2 (some .boolean) ∈ sy_tb ∧ Cond.initialized y_9_cloud.cls ∈ sy_tb ∧ (y_9_cloud.cls ≠ "java/lang/invoke/MethodHandle" ∧ y_9_cloud.cls ≠ "java/lang/invoke/VarHandle" ∧ (parseMethodDescriptor y_9_cloud.desc).map (fun d => d.parameters.length) = some 1) := ⟨sy_inx 892 (by decide +kernel) (by decide +kernel), sy_inx 53 (by decide +kernel) (by decide +kernel), by decide +kernel⟩
theorem ji_9_cloud : Cond.instanceMethod y_9_cloud ∈ sy_tb ∧ Cond.selects y_9_cloud.cls y_9_cloud y_9_cloud ∈ sy_tb := ⟨sy_inx 890 (by decide +kernel) (by decide +kernel), sy_inx 891 (by decide +kernel) (by decide +kernel)⟩
set_option maxHeartbeats 4000000 in
set_option maxRecDepth 100000 in
theorem lc_cloud (l : Launch) (C0 : lw_C p s m meth c b L xs wd) (hL : L ≤ 3072) (hi : i + 5 < L) (hcs : cells + 2 ≤ room_1.cells ∧ slots + 522 ≤ room_1.slots) (hl : lv_has ls 4 [(0, .ref b), (1, .ref (ad 0)), (2, .ref (ad 24)), (3, .int (nI i))]) (hWO : sy_WO wd ad ns st (lw_A s) H) (hR : Rel ns st) (hS : va_S (lw_A s) s.heap H locs) (kk : ∀ (ns' : Nat) (ad' : Nat → Nat) (st' : sy_S) (H' : Heap) (locs' : List Loc), ad' 0 = ad 0 → ad' 24 = ad 24 → sy_WO wd ad' ns' st' (lw_A s) H' → Rel ns' st' → va_S (lw_A s) s.heap H' locs' → W p l e room_1 s m #[Value.ref b] below meth c H' locs' (cells + 2) (slots + 522) Q (F0 m 1001 ls [])) : W p l e room_1 s m #[Value.ref b] below meth c H locs (cells) (slots) Q (F0 m 355 ls []) := by
  have S0 := lw_fix C0
  obtain ⟨⟨hx, hb, hr, hml, hown, hts, hX, hbl, hlocks, hgv⟩, hK, hKK⟩ := id C0
  have hA : ∀ q : Nat, s.heap.size ≤ q → lw_A s q := fun _ h => h
  have hc0 : cells ≤ room_1.cells ∧ slots ≤ room_1.slots := ⟨by omega, by omega⟩
  refine lv_aload_n hx hb dL_355 rfl (lv_at hl 1 rfl) ?_
  refine lw_arg C0 hS hl hi hL (k := 1) (by decide) (by decide) dL_356 dL_357 dL_358 dL_359 dL_360 ?_
  refine sq_V (ci := 8) (b := 0) (as' := [.inl (true, (xs (i + 1)).toInt)]) (rest := []) S0 hKK hA (mc_8_cloud l) ⟨jw_8_cloud.1, jw_8_cloud.2.1, jw_8_cloud.2.2, ⟨by decide, by decide⟩, rfl, rfl⟩ (sy_inx 401 (by decide +kernel) (by decide +kernel)) ji_8_cloud rfl ⟨_, rfl, rfl⟩ (lw_ok (by omega) [xs (i + 1)]) rfl (pi_cloud (pr_cloud hR _)) rfl (Nat.le_of_ble_eq_true rfl) hc0 hl.1 dL_361 hWO hS (fun r st1 H locs hp _ hWO hS => ?_)
  obtain ⟨⟨z, rfl⟩, hp⟩ := hp
  refine lv_aload_n hx hb dL_364 rfl (lv_at hl 2 rfl) ?_
  refine lw_arg C0 hS hl hi hL (k := 1) (by decide) (by decide) dL_365 dL_366 dL_367 dL_368 dL_369 ?_
  refine sq_V (ci := 9) (b := 24) (as' := [.inl (true, (xs (i + 1)).toInt)]) (rest := [.int (Int32.ofInt z)]) S0 hKK hA (mc_9_cloud l) ⟨jw_9_cloud.1, jw_9_cloud.2.1, jw_9_cloud.2.2, ⟨by decide, by decide⟩, rfl, rfl⟩ (sy_inx 889 (by decide +kernel) (by decide +kernel)) ji_9_cloud rfl ⟨_, rfl, rfl⟩ (lw_ok (by omega) [xs (i + 1)]) rfl hp rfl (Nat.le_of_ble_eq_true rfl) hc0 hl.1 dL_370 hWO hS (fun r st2 H locs hp _ hWO hS => ?_)
  obtain ⟨rfl, hR2⟩ := hp
  refine lv_icmp_eq hx hb dL_373 (tgt := 1001) (by decide) (fun _ => ?_) (fun c9 => absurd rfl c9)
  exact W.widen (by omega) (by omega) (kk ns ad st2 H locs rfl rfl hWO hR2 hS)
theorem jw_8_unsay : Cond.code y_8_unsay c_8_unsay 3 (some .boolean) ∈ sy_tb ∧ Cond.initialized y_8_unsay.cls ∈ sy_tb ∧ (y_8_unsay.cls ≠ "java/lang/invoke/MethodHandle" ∧ y_8_unsay.cls ≠ "java/lang/invoke/VarHandle" ∧ (parseMethodDescriptor y_8_unsay.desc).map (fun d => d.parameters.length) = some 1) := ⟨sy_inx 408 (by decide +kernel) (by decide +kernel), sy_inx 44 (by decide +kernel) (by decide +kernel), by decide +kernel⟩
theorem ji_8_unsay : Cond.instanceMethod y_8_unsay ∈ sy_tb ∧ Cond.selects y_8_unsay.cls y_8_unsay y_8_unsay ∈ sy_tb := ⟨sy_inx 406 (by decide +kernel) (by decide +kernel), sy_inx 407 (by decide +kernel) (by decide +kernel)⟩
theorem jw_9_unsay : Cond.code y_9_unsay c_9_unsay 2 (some .boolean) ∈ sy_tb ∧ Cond.initialized y_9_unsay.cls ∈ sy_tb ∧ (y_9_unsay.cls ≠ "java/lang/invoke/MethodHandle" ∧ y_9_unsay.cls ≠ "java/lang/invoke/VarHandle" ∧ (parseMethodDescriptor y_9_unsay.desc).map (fun d => d.parameters.length) = some 1) := ⟨sy_inx 896 (by decide +kernel) (by decide +kernel), sy_inx 53 (by decide +kernel) (by decide +kernel), by decide +kernel⟩
theorem ji_9_unsay : Cond.instanceMethod y_9_unsay ∈ sy_tb ∧ Cond.selects y_9_unsay.cls y_9_unsay y_9_unsay ∈ sy_tb := ⟨sy_inx 894 (by decide +kernel) (by decide +kernel), sy_inx 895 (by decide +kernel) (by decide +kernel)⟩
set_option maxHeartbeats 4000000 in
set_option maxRecDepth 100000 in
theorem lc_unsay (l : Launch) (C0 : lw_C p s m meth c b L xs wd) (hL : L ≤ 3072) (hi : i + 5 < L) (hcs : cells + 2 ≤ room_1.cells ∧ slots + 522 ≤ room_1.slots) (hl : lv_has ls 4 [(0, .ref b), (1, .ref (ad 0)), (2, .ref (ad 24)), (3, .int (nI i))]) (hWO : sy_WO wd ad ns st (lw_A s) H) (hR : Rel ns st) (hS : va_S (lw_A s) s.heap H locs) (kk : ∀ (ns' : Nat) (ad' : Nat → Nat) (st' : sy_S) (H' : Heap) (locs' : List Loc), ad' 0 = ad 0 → ad' 24 = ad 24 → sy_WO wd ad' ns' st' (lw_A s) H' → Rel ns' st' → va_S (lw_A s) s.heap H' locs' → W p l e room_1 s m #[Value.ref b] below meth c H' locs' (cells + 2) (slots + 522) Q (F0 m 1001 ls [])) : W p l e room_1 s m #[Value.ref b] below meth c H locs (cells) (slots) Q (F0 m 378 ls []) := by
  have S0 := lw_fix C0
  obtain ⟨⟨hx, hb, hr, hml, hown, hts, hX, hbl, hlocks, hgv⟩, hK, hKK⟩ := id C0
  have hA : ∀ q : Nat, s.heap.size ≤ q → lw_A s q := fun _ h => h
  have hc0 : cells ≤ room_1.cells ∧ slots ≤ room_1.slots := ⟨by omega, by omega⟩
  refine lv_aload_n hx hb dL_378 rfl (lv_at hl 1 rfl) ?_
  refine lw_arg C0 hS hl hi hL (k := 1) (by decide) (by decide) dL_379 dL_380 dL_381 dL_382 dL_383 ?_
  refine sq_V (ci := 8) (b := 0) (as' := [.inl (true, (xs (i + 1)).toInt)]) (rest := []) S0 hKK hA (mc_8_unsay l) ⟨jw_8_unsay.1, jw_8_unsay.2.1, jw_8_unsay.2.2, ⟨by decide, by decide⟩, rfl, rfl⟩ (sy_inx 405 (by decide +kernel) (by decide +kernel)) ji_8_unsay rfl ⟨_, rfl, rfl⟩ (lw_ok (by omega) [xs (i + 1)]) rfl (pi_unsay (pr_unsay hR _)) rfl (Nat.le_of_ble_eq_true rfl) hc0 hl.1 dL_384 hWO hS (fun r st1 H locs hp _ hWO hS => ?_)
  obtain ⟨⟨z, rfl⟩, hp⟩ := hp
  refine lv_aload_n hx hb dL_387 rfl (lv_at hl 2 rfl) ?_
  refine lw_arg C0 hS hl hi hL (k := 1) (by decide) (by decide) dL_388 dL_389 dL_390 dL_391 dL_392 ?_
  refine sq_V (ci := 9) (b := 24) (as' := [.inl (true, (xs (i + 1)).toInt)]) (rest := [.int (Int32.ofInt z)]) S0 hKK hA (mc_9_unsay l) ⟨jw_9_unsay.1, jw_9_unsay.2.1, jw_9_unsay.2.2, ⟨by decide, by decide⟩, rfl, rfl⟩ (sy_inx 893 (by decide +kernel) (by decide +kernel)) ji_9_unsay rfl ⟨_, rfl, rfl⟩ (lw_ok (by omega) [xs (i + 1)]) rfl hp rfl (Nat.le_of_ble_eq_true rfl) hc0 hl.1 dL_393 hWO hS (fun r st2 H locs hp _ hWO hS => ?_)
  obtain ⟨rfl, hR2⟩ := hp
  refine lv_icmp_eq hx hb dL_396 (tgt := 1001) (by decide) (fun _ => ?_) (fun c9 => absurd rfl c9)
  exact W.widen (by omega) (by omega) (kk ns ad st2 H locs rfl rfl hWO hR2 hS)
theorem jw_8_place : Cond.code y_8_place c_8_place 4 (some .int) ∈ sy_tb ∧ Cond.initialized y_8_place.cls ∈ sy_tb ∧ (y_8_place.cls ≠ "java/lang/invoke/MethodHandle" ∧ y_8_place.cls ≠ "java/lang/invoke/VarHandle" ∧ (parseMethodDescriptor y_8_place.desc).map (fun d => d.parameters.length) = some 2) := ⟨sy_inx 412 (by decide +kernel) (by decide +kernel), sy_inx 44 (by decide +kernel) (by decide +kernel), by decide +kernel⟩
theorem ji_8_place : Cond.instanceMethod y_8_place ∈ sy_tb ∧ Cond.selects y_8_place.cls y_8_place y_8_place ∈ sy_tb := ⟨sy_inx 410 (by decide +kernel) (by decide +kernel), sy_inx 411 (by decide +kernel) (by decide +kernel)⟩
theorem jw_9_place : Cond.code y_9_place c_9_place 3 (some .int) ∈ sy_tb ∧ Cond.initialized y_9_place.cls ∈ sy_tb ∧ (y_9_place.cls ≠ "java/lang/invoke/MethodHandle" ∧ y_9_place.cls ≠ "java/lang/invoke/VarHandle" ∧ (parseMethodDescriptor y_9_place.desc).map (fun d => d.parameters.length) = some 2) := ⟨sy_inx 900 (by decide +kernel) (by decide +kernel), sy_inx 53 (by decide +kernel) (by decide +kernel), by decide +kernel⟩
theorem ji_9_place : Cond.instanceMethod y_9_place ∈ sy_tb ∧ Cond.selects y_9_place.cls y_9_place y_9_place ∈ sy_tb := ⟨sy_inx 898 (by decide +kernel) (by decide +kernel), sy_inx 899 (by decide +kernel) (by decide +kernel)⟩
set_option maxHeartbeats 4000000 in
set_option maxRecDepth 100000 in
theorem lc_place (l : Launch) (C0 : lw_C p s m meth c b L xs wd) (hL : L ≤ 3072) (hi : i + 5 < L) (hcs : cells + 2 ≤ room_1.cells ∧ slots + 522 ≤ room_1.slots) (hl : lv_has ls 4 [(0, .ref b), (1, .ref (ad 0)), (2, .ref (ad 24)), (3, .int (nI i))]) (hWO : sy_WO wd ad ns st (lw_A s) H) (hR : Rel ns st) (hS : va_S (lw_A s) s.heap H locs) (kk : ∀ (ns' : Nat) (ad' : Nat → Nat) (st' : sy_S) (H' : Heap) (locs' : List Loc), ad' 0 = ad 0 → ad' 24 = ad 24 → sy_WO wd ad' ns' st' (lw_A s) H' → Rel ns' st' → va_S (lw_A s) s.heap H' locs' → W p l e room_1 s m #[Value.ref b] below meth c H' locs' (cells + 2) (slots + 522) Q (F0 m 1001 ls [])) : W p l e room_1 s m #[Value.ref b] below meth c H locs (cells) (slots) Q (F0 m 401 ls []) := by
  have S0 := lw_fix C0
  obtain ⟨⟨hx, hb, hr, hml, hown, hts, hX, hbl, hlocks, hgv⟩, hK, hKK⟩ := id C0
  have hA : ∀ q : Nat, s.heap.size ≤ q → lw_A s q := fun _ h => h
  have hc0 : cells ≤ room_1.cells ∧ slots ≤ room_1.slots := ⟨by omega, by omega⟩
  refine lv_aload_n hx hb dL_401 rfl (lv_at hl 1 rfl) ?_
  refine lw_arg C0 hS hl hi hL (k := 1) (by decide) (by decide) dL_402 dL_403 dL_404 dL_405 dL_406 ?_
  refine lw_arg C0 hS hl hi hL (k := 2) (by decide) (by decide) dL_407 dL_408 dL_409 dL_410 dL_411 ?_
  refine sq_V (ci := 8) (b := 0) (as' := [.inl (true, (xs (i + 1)).toInt), .inl (true, (xs (i + 2)).toInt)]) (rest := []) S0 hKK hA (mc_8_place l) ⟨jw_8_place.1, jw_8_place.2.1, jw_8_place.2.2, ⟨by decide, by decide⟩, rfl, rfl⟩ (sy_inx 409 (by decide +kernel) (by decide +kernel)) ji_8_place rfl ⟨_, rfl, rfl⟩ (lw_ok (by omega) [xs (i + 1), xs (i + 2)]) rfl (pi_place (pr_place hR _ _)) rfl (Nat.le_of_ble_eq_true rfl) hc0 hl.1 dL_412 hWO hS (fun r st1 H locs hp _ hWO hS => ?_)
  obtain ⟨⟨z, rfl⟩, hp⟩ := hp
  refine lv_aload_n hx hb dL_415 rfl (lv_at hl 2 rfl) ?_
  refine lw_arg C0 hS hl hi hL (k := 1) (by decide) (by decide) dL_416 dL_417 dL_418 dL_419 dL_420 ?_
  refine lw_arg C0 hS hl hi hL (k := 2) (by decide) (by decide) dL_421 dL_422 dL_423 dL_424 dL_425 ?_
  refine sq_V (ci := 9) (b := 24) (as' := [.inl (true, (xs (i + 1)).toInt), .inl (true, (xs (i + 2)).toInt)]) (rest := [.int (Int32.ofInt z)]) S0 hKK hA (mc_9_place l) ⟨jw_9_place.1, jw_9_place.2.1, jw_9_place.2.2, ⟨by decide, by decide⟩, rfl, rfl⟩ (sy_inx 897 (by decide +kernel) (by decide +kernel)) ji_9_place rfl ⟨_, rfl, rfl⟩ (lw_ok (by omega) [xs (i + 1), xs (i + 2)]) rfl hp rfl (Nat.le_of_ble_eq_true rfl) hc0 hl.1 dL_426 hWO hS (fun r st2 H locs hp _ hWO hS => ?_)
  obtain ⟨rfl, hR2⟩ := hp
  refine lv_icmp_eq hx hb dL_429 (tgt := 1001) (by decide) (fun _ => ?_) (fun c9 => absurd rfl c9)
  exact W.widen (by omega) (by omega) (kk ns ad st2 H locs rfl rfl hWO hR2 hS)
theorem jw_8_net : Cond.code y_8_net c_8_net 5 (some .boolean) ∈ sy_tb ∧ Cond.initialized y_8_net.cls ∈ sy_tb ∧ (y_8_net.cls ≠ "java/lang/invoke/MethodHandle" ∧ y_8_net.cls ≠ "java/lang/invoke/VarHandle" ∧ (parseMethodDescriptor y_8_net.desc).map (fun d => d.parameters.length) = some 4) := ⟨sy_inx 421 (by decide +kernel) (by decide +kernel), sy_inx 44 (by decide +kernel) (by decide +kernel), by decide +kernel⟩
theorem ji_8_net : Cond.instanceMethod y_8_net ∈ sy_tb ∧ Cond.selects y_8_net.cls y_8_net y_8_net ∈ sy_tb := ⟨sy_inx 419 (by decide +kernel) (by decide +kernel), sy_inx 420 (by decide +kernel) (by decide +kernel)⟩
theorem jw_9_net : Cond.code y_9_net c_9_net 6 (some .boolean) ∈ sy_tb ∧ Cond.initialized y_9_net.cls ∈ sy_tb ∧ (y_9_net.cls ≠ "java/lang/invoke/MethodHandle" ∧ y_9_net.cls ≠ "java/lang/invoke/VarHandle" ∧ (parseMethodDescriptor y_9_net.desc).map (fun d => d.parameters.length) = some 4) := ⟨sy_inx 909 (by decide +kernel) (by decide +kernel), sy_inx 53 (by decide +kernel) (by decide +kernel), by decide +kernel⟩
theorem ji_9_net : Cond.instanceMethod y_9_net ∈ sy_tb ∧ Cond.selects y_9_net.cls y_9_net y_9_net ∈ sy_tb := ⟨sy_inx 907 (by decide +kernel) (by decide +kernel), sy_inx 908 (by decide +kernel) (by decide +kernel)⟩
set_option maxHeartbeats 4000000 in
set_option maxRecDepth 100000 in
theorem lc_net (l : Launch) (C0 : lw_C p s m meth c b L xs wd) (hL : L ≤ 3072) (hi : i + 5 < L) (hcs : cells + 2 ≤ room_1.cells ∧ slots + 522 ≤ room_1.slots) (hl : lv_has ls 4 [(0, .ref b), (1, .ref (ad 0)), (2, .ref (ad 24)), (3, .int (nI i))]) (hWO : sy_WO wd ad ns st (lw_A s) H) (hR : Rel ns st) (hS : va_S (lw_A s) s.heap H locs) (kk : ∀ (ns' : Nat) (ad' : Nat → Nat) (st' : sy_S) (H' : Heap) (locs' : List Loc), ad' 0 = ad 0 → ad' 24 = ad 24 → sy_WO wd ad' ns' st' (lw_A s) H' → Rel ns' st' → va_S (lw_A s) s.heap H' locs' → W p l e room_1 s m #[Value.ref b] below meth c H' locs' (cells + 2) (slots + 522) Q (F0 m 1001 ls [])) : W p l e room_1 s m #[Value.ref b] below meth c H locs (cells) (slots) Q (F0 m 434 ls []) := by
  have S0 := lw_fix C0
  obtain ⟨⟨hx, hb, hr, hml, hown, hts, hX, hbl, hlocks, hgv⟩, hK, hKK⟩ := id C0
  have hA : ∀ q : Nat, s.heap.size ≤ q → lw_A s q := fun _ h => h
  have hc0 : cells ≤ room_1.cells ∧ slots ≤ room_1.slots := ⟨by omega, by omega⟩
  refine lv_aload_n hx hb dL_434 rfl (lv_at hl 1 rfl) ?_
  refine lw_arg C0 hS hl hi hL (k := 1) (by decide) (by decide) dL_435 dL_436 dL_437 dL_438 dL_439 ?_
  refine lw_arg C0 hS hl hi hL (k := 2) (by decide) (by decide) dL_440 dL_441 dL_442 dL_443 dL_444 ?_
  refine lw_arg C0 hS hl hi hL (k := 3) (by decide) (by decide) dL_445 dL_446 dL_447 dL_448 dL_449 ?_
  refine lw_arg C0 hS hl hi hL (k := 4) (by decide) (by decide) dL_450 dL_451 dL_452 dL_453 dL_454 ?_
  refine sq_V (ci := 8) (b := 0) (as' := [.inl (true, (xs (i + 1)).toInt), .inl (true, (xs (i + 2)).toInt), .inl (true, (xs (i + 3)).toInt), .inl (true, (xs (i + 4)).toInt)]) (rest := []) S0 hKK hA (mc_8_net l) ⟨jw_8_net.1, jw_8_net.2.1, jw_8_net.2.2, ⟨by decide, by decide⟩, rfl, rfl⟩ (sy_inx 418 (by decide +kernel) (by decide +kernel)) ji_8_net rfl ⟨_, rfl, rfl⟩ (lw_ok (by omega) [xs (i + 1), xs (i + 2), xs (i + 3), xs (i + 4)]) rfl (pi_net (pr_net hR _ _ _ _)) rfl (Nat.le_of_ble_eq_true rfl) hc0 hl.1 dL_455 hWO hS (fun r st1 H locs hp _ hWO hS => ?_)
  obtain ⟨⟨z, rfl⟩, hp⟩ := hp
  refine lv_aload_n hx hb dL_458 rfl (lv_at hl 2 rfl) ?_
  refine lw_arg C0 hS hl hi hL (k := 1) (by decide) (by decide) dL_459 dL_460 dL_461 dL_462 dL_463 ?_
  refine lw_arg C0 hS hl hi hL (k := 2) (by decide) (by decide) dL_464 dL_465 dL_466 dL_467 dL_468 ?_
  refine lw_arg C0 hS hl hi hL (k := 3) (by decide) (by decide) dL_469 dL_470 dL_471 dL_472 dL_473 ?_
  refine lw_arg C0 hS hl hi hL (k := 4) (by decide) (by decide) dL_474 dL_475 dL_476 dL_477 dL_478 ?_
  refine sq_V (ci := 9) (b := 24) (as' := [.inl (true, (xs (i + 1)).toInt), .inl (true, (xs (i + 2)).toInt), .inl (true, (xs (i + 3)).toInt), .inl (true, (xs (i + 4)).toInt)]) (rest := [.int (Int32.ofInt z)]) S0 hKK hA (mc_9_net l) ⟨jw_9_net.1, jw_9_net.2.1, jw_9_net.2.2, ⟨by decide, by decide⟩, rfl, rfl⟩ (sy_inx 906 (by decide +kernel) (by decide +kernel)) ji_9_net rfl ⟨_, rfl, rfl⟩ (lw_ok (by omega) [xs (i + 1), xs (i + 2), xs (i + 3), xs (i + 4)]) rfl hp rfl (Nat.le_of_ble_eq_true rfl) hc0 hl.1 dL_479 hWO hS (fun r st2 H locs hp _ hWO hS => ?_)
  obtain ⟨rfl, hR2⟩ := hp
  refine lv_icmp_eq hx hb dL_482 (tgt := 1001) (by decide) (fun _ => ?_) (fun c9 => absurd rfl c9)
  exact W.widen (by omega) (by omega) (kk ns ad st2 H locs rfl rfl hWO hR2 hS)
theorem jw_8_figures : Cond.code y_8_figures c_8_figures 1 (some .int) ∈ sy_tb ∧ Cond.initialized y_8_figures.cls ∈ sy_tb ∧ (y_8_figures.cls ≠ "java/lang/invoke/MethodHandle" ∧ y_8_figures.cls ≠ "java/lang/invoke/VarHandle" ∧ (parseMethodDescriptor y_8_figures.desc).map (fun d => d.parameters.length) = some 0) := ⟨sy_inx 441 (by decide +kernel) (by decide +kernel), sy_inx 44 (by decide +kernel) (by decide +kernel), by decide +kernel⟩
theorem ji_8_figures : Cond.instanceMethod y_8_figures ∈ sy_tb ∧ Cond.selects y_8_figures.cls y_8_figures y_8_figures ∈ sy_tb := ⟨sy_inx 439 (by decide +kernel) (by decide +kernel), sy_inx 440 (by decide +kernel) (by decide +kernel)⟩
theorem jw_9_figures : Cond.code y_9_figures c_9_figures 1 (some .int) ∈ sy_tb ∧ Cond.initialized y_9_figures.cls ∈ sy_tb ∧ (y_9_figures.cls ≠ "java/lang/invoke/MethodHandle" ∧ y_9_figures.cls ≠ "java/lang/invoke/VarHandle" ∧ (parseMethodDescriptor y_9_figures.desc).map (fun d => d.parameters.length) = some 0) := ⟨sy_inx 913 (by decide +kernel) (by decide +kernel), sy_inx 53 (by decide +kernel) (by decide +kernel), by decide +kernel⟩
theorem ji_9_figures : Cond.instanceMethod y_9_figures ∈ sy_tb ∧ Cond.selects y_9_figures.cls y_9_figures y_9_figures ∈ sy_tb := ⟨sy_inx 911 (by decide +kernel) (by decide +kernel), sy_inx 912 (by decide +kernel) (by decide +kernel)⟩
set_option maxHeartbeats 4000000 in
set_option maxRecDepth 100000 in
theorem lc_figures (l : Launch) (C0 : lw_C p s m meth c b L xs wd) (hL : L ≤ 3072) (hi : i + 5 < L) (hcs : cells + 2 ≤ room_1.cells ∧ slots + 522 ≤ room_1.slots) (hl : lv_has ls 4 [(0, .ref b), (1, .ref (ad 0)), (2, .ref (ad 24)), (3, .int (nI i))]) (hWO : sy_WO wd ad ns st (lw_A s) H) (hR : Rel ns st) (hS : va_S (lw_A s) s.heap H locs) (kk : ∀ (ns' : Nat) (ad' : Nat → Nat) (st' : sy_S) (H' : Heap) (locs' : List Loc), ad' 0 = ad 0 → ad' 24 = ad 24 → sy_WO wd ad' ns' st' (lw_A s) H' → Rel ns' st' → va_S (lw_A s) s.heap H' locs' → W p l e room_1 s m #[Value.ref b] below meth c H' locs' (cells + 2) (slots + 522) Q (F0 m 1001 ls [])) : W p l e room_1 s m #[Value.ref b] below meth c H locs (cells) (slots) Q (F0 m 487 ls []) := by
  have S0 := lw_fix C0
  obtain ⟨⟨hx, hb, hr, hml, hown, hts, hX, hbl, hlocks, hgv⟩, hK, hKK⟩ := id C0
  have hA : ∀ q : Nat, s.heap.size ≤ q → lw_A s q := fun _ h => h
  have hc0 : cells ≤ room_1.cells ∧ slots ≤ room_1.slots := ⟨by omega, by omega⟩
  refine lv_aload_n hx hb dL_487 rfl (lv_at hl 1 rfl) ?_
  refine sq_V (ci := 8) (b := 0) (as' := []) (rest := []) S0 hKK hA (mc_8_figures l) ⟨jw_8_figures.1, jw_8_figures.2.1, jw_8_figures.2.2, ⟨by decide, by decide⟩, rfl, rfl⟩ (sy_inx 438 (by decide +kernel) (by decide +kernel)) ji_8_figures rfl ⟨_, rfl, rfl⟩ (lw_ok (by omega) []) rfl (pi_figures (pr_figures hR)) rfl (Nat.le_of_ble_eq_true rfl) hc0 hl.1 dL_488 hWO hS (fun r st1 H locs hp _ hWO hS => ?_)
  obtain ⟨⟨z, rfl⟩, hp⟩ := hp
  refine lv_aload_n hx hb dL_491 rfl (lv_at hl 2 rfl) ?_
  refine sq_V (ci := 9) (b := 24) (as' := []) (rest := [.int (Int32.ofInt z)]) S0 hKK hA (mc_9_figures l) ⟨jw_9_figures.1, jw_9_figures.2.1, jw_9_figures.2.2, ⟨by decide, by decide⟩, rfl, rfl⟩ (sy_inx 910 (by decide +kernel) (by decide +kernel)) ji_9_figures rfl ⟨_, rfl, rfl⟩ (lw_ok (by omega) []) rfl hp rfl (Nat.le_of_ble_eq_true rfl) hc0 hl.1 dL_492 hWO hS (fun r st2 H locs hp _ hWO hS => ?_)
  obtain ⟨rfl, hR2⟩ := hp
  refine lv_icmp_eq hx hb dL_495 (tgt := 1001) (by decide) (fun _ => ?_) (fun c9 => absurd rfl c9)
  exact W.widen (by omega) (by omega) (kk ns ad st2 H locs rfl rfl hWO hR2 hS)
theorem jw_8_figure : Cond.code y_8_figure c_8_figure 3 (some .int) ∈ sy_tb ∧ Cond.initialized y_8_figure.cls ∈ sy_tb ∧ (y_8_figure.cls ≠ "java/lang/invoke/MethodHandle" ∧ y_8_figure.cls ≠ "java/lang/invoke/VarHandle" ∧ (parseMethodDescriptor y_8_figure.desc).map (fun d => d.parameters.length) = some 2) := ⟨sy_inx 445 (by decide +kernel) (by decide +kernel), sy_inx 44 (by decide +kernel) (by decide +kernel), by decide +kernel⟩
theorem ji_8_figure : Cond.instanceMethod y_8_figure ∈ sy_tb ∧ Cond.selects y_8_figure.cls y_8_figure y_8_figure ∈ sy_tb := ⟨sy_inx 443 (by decide +kernel) (by decide +kernel), sy_inx 444 (by decide +kernel) (by decide +kernel)⟩
theorem jw_9_figure : Cond.code y_9_figure c_9_figure 3 (some .int) ∈ sy_tb ∧ Cond.initialized y_9_figure.cls ∈ sy_tb ∧ (y_9_figure.cls ≠ "java/lang/invoke/MethodHandle" ∧ y_9_figure.cls ≠ "java/lang/invoke/VarHandle" ∧ (parseMethodDescriptor y_9_figure.desc).map (fun d => d.parameters.length) = some 2) := ⟨sy_inx 917 (by decide +kernel) (by decide +kernel), sy_inx 53 (by decide +kernel) (by decide +kernel), by decide +kernel⟩
theorem ji_9_figure : Cond.instanceMethod y_9_figure ∈ sy_tb ∧ Cond.selects y_9_figure.cls y_9_figure y_9_figure ∈ sy_tb := ⟨sy_inx 915 (by decide +kernel) (by decide +kernel), sy_inx 916 (by decide +kernel) (by decide +kernel)⟩
set_option maxHeartbeats 4000000 in
set_option maxRecDepth 100000 in
theorem lc_figure (l : Launch) (C0 : lw_C p s m meth c b L xs wd) (hL : L ≤ 3072) (hi : i + 5 < L) (hcs : cells + 2 ≤ room_1.cells ∧ slots + 522 ≤ room_1.slots) (hl : lv_has ls 4 [(0, .ref b), (1, .ref (ad 0)), (2, .ref (ad 24)), (3, .int (nI i))]) (hWO : sy_WO wd ad ns st (lw_A s) H) (hR : Rel ns st) (hS : va_S (lw_A s) s.heap H locs) (kk : ∀ (ns' : Nat) (ad' : Nat → Nat) (st' : sy_S) (H' : Heap) (locs' : List Loc), ad' 0 = ad 0 → ad' 24 = ad 24 → sy_WO wd ad' ns' st' (lw_A s) H' → Rel ns' st' → va_S (lw_A s) s.heap H' locs' → W p l e room_1 s m #[Value.ref b] below meth c H' locs' (cells + 2) (slots + 522) Q (F0 m 1001 ls [])) : W p l e room_1 s m #[Value.ref b] below meth c H locs (cells) (slots) Q (F0 m 500 ls []) := by
  have S0 := lw_fix C0
  obtain ⟨⟨hx, hb, hr, hml, hown, hts, hX, hbl, hlocks, hgv⟩, hK, hKK⟩ := id C0
  have hA : ∀ q : Nat, s.heap.size ≤ q → lw_A s q := fun _ h => h
  have hc0 : cells ≤ room_1.cells ∧ slots ≤ room_1.slots := ⟨by omega, by omega⟩
  refine lv_aload_n hx hb dL_500 rfl (lv_at hl 1 rfl) ?_
  refine lw_arg C0 hS hl hi hL (k := 1) (by decide) (by decide) dL_501 dL_502 dL_503 dL_504 dL_505 ?_
  refine lw_arg C0 hS hl hi hL (k := 2) (by decide) (by decide) dL_506 dL_507 dL_508 dL_509 dL_510 ?_
  refine sq_V (ci := 8) (b := 0) (as' := [.inl (true, (xs (i + 1)).toInt), .inl (true, (xs (i + 2)).toInt)]) (rest := []) S0 hKK hA (mc_8_figure l) ⟨jw_8_figure.1, jw_8_figure.2.1, jw_8_figure.2.2, ⟨by decide, by decide⟩, rfl, rfl⟩ (sy_inx 442 (by decide +kernel) (by decide +kernel)) ji_8_figure rfl ⟨_, rfl, rfl⟩ (lw_ok (by omega) [xs (i + 1), xs (i + 2)]) rfl (pi_figure (pr_figure hR _ _)) rfl (Nat.le_of_ble_eq_true rfl) hc0 hl.1 dL_511 hWO hS (fun r st1 H locs hp _ hWO hS => ?_)
  obtain ⟨⟨z, rfl⟩, hp⟩ := hp
  refine lv_aload_n hx hb dL_514 rfl (lv_at hl 2 rfl) ?_
  refine lw_arg C0 hS hl hi hL (k := 1) (by decide) (by decide) dL_515 dL_516 dL_517 dL_518 dL_519 ?_
  refine lw_arg C0 hS hl hi hL (k := 2) (by decide) (by decide) dL_520 dL_521 dL_522 dL_523 dL_524 ?_
  refine sq_V (ci := 9) (b := 24) (as' := [.inl (true, (xs (i + 1)).toInt), .inl (true, (xs (i + 2)).toInt)]) (rest := [.int (Int32.ofInt z)]) S0 hKK hA (mc_9_figure l) ⟨jw_9_figure.1, jw_9_figure.2.1, jw_9_figure.2.2, ⟨by decide, by decide⟩, rfl, rfl⟩ (sy_inx 914 (by decide +kernel) (by decide +kernel)) ji_9_figure rfl ⟨_, rfl, rfl⟩ (lw_ok (by omega) [xs (i + 1), xs (i + 2)]) rfl hp rfl (Nat.le_of_ble_eq_true rfl) hc0 hl.1 dL_525 hWO hS (fun r st2 H locs hp _ hWO hS => ?_)
  obtain ⟨rfl, hR2⟩ := hp
  refine lv_icmp_eq hx hb dL_528 (tgt := 1001) (by decide) (fun _ => ?_) (fun c9 => absurd rfl c9)
  exact W.widen (by omega) (by omega) (kk ns ad st2 H locs rfl rfl hWO hR2 hS)
theorem jw_8_agrees : Cond.code y_8_agrees c_8_agrees 3 (some .int) ∈ sy_tb ∧ Cond.initialized y_8_agrees.cls ∈ sy_tb ∧ (y_8_agrees.cls ≠ "java/lang/invoke/MethodHandle" ∧ y_8_agrees.cls ≠ "java/lang/invoke/VarHandle" ∧ (parseMethodDescriptor y_8_agrees.desc).map (fun d => d.parameters.length) = some 2) := ⟨sy_inx 469 (by decide +kernel) (by decide +kernel), sy_inx 44 (by decide +kernel) (by decide +kernel), by decide +kernel⟩
theorem ji_8_agrees : Cond.instanceMethod y_8_agrees ∈ sy_tb ∧ Cond.selects y_8_agrees.cls y_8_agrees y_8_agrees ∈ sy_tb := ⟨sy_inx 467 (by decide +kernel) (by decide +kernel), sy_inx 468 (by decide +kernel) (by decide +kernel)⟩
theorem jw_9_agrees : Cond.code y_9_agrees c_9_agrees 3 (some .int) ∈ sy_tb ∧ Cond.initialized y_9_agrees.cls ∈ sy_tb ∧ (y_9_agrees.cls ≠ "java/lang/invoke/MethodHandle" ∧ y_9_agrees.cls ≠ "java/lang/invoke/VarHandle" ∧ (parseMethodDescriptor y_9_agrees.desc).map (fun d => d.parameters.length) = some 2) := ⟨sy_inx 930 (by decide +kernel) (by decide +kernel), sy_inx 53 (by decide +kernel) (by decide +kernel), by decide +kernel⟩
theorem ji_9_agrees : Cond.instanceMethod y_9_agrees ∈ sy_tb ∧ Cond.selects y_9_agrees.cls y_9_agrees y_9_agrees ∈ sy_tb := ⟨sy_inx 928 (by decide +kernel) (by decide +kernel), sy_inx 929 (by decide +kernel) (by decide +kernel)⟩
set_option maxHeartbeats 4000000 in
set_option maxRecDepth 100000 in
theorem lc_agrees (l : Launch) (C0 : lw_C p s m meth c b L xs wd) (hL : L ≤ 3072) (hi : i + 5 < L) (hcs : cells + 2 ≤ room_1.cells ∧ slots + 522 ≤ room_1.slots) (hl : lv_has ls 4 [(0, .ref b), (1, .ref (ad 0)), (2, .ref (ad 24)), (3, .int (nI i))]) (hWO : sy_WO wd ad ns st (lw_A s) H) (hR : Rel ns st) (hS : va_S (lw_A s) s.heap H locs) (kk : ∀ (ns' : Nat) (ad' : Nat → Nat) (st' : sy_S) (H' : Heap) (locs' : List Loc), ad' 0 = ad 0 → ad' 24 = ad 24 → sy_WO wd ad' ns' st' (lw_A s) H' → Rel ns' st' → va_S (lw_A s) s.heap H' locs' → W p l e room_1 s m #[Value.ref b] below meth c H' locs' (cells + 2) (slots + 522) Q (F0 m 1001 ls [])) : W p l e room_1 s m #[Value.ref b] below meth c H locs (cells) (slots) Q (F0 m 533 ls []) := by
  have S0 := lw_fix C0
  obtain ⟨⟨hx, hb, hr, hml, hown, hts, hX, hbl, hlocks, hgv⟩, hK, hKK⟩ := id C0
  have hA : ∀ q : Nat, s.heap.size ≤ q → lw_A s q := fun _ h => h
  have hc0 : cells ≤ room_1.cells ∧ slots ≤ room_1.slots := ⟨by omega, by omega⟩
  refine lv_aload_n hx hb dL_533 rfl (lv_at hl 1 rfl) ?_
  refine lw_arg C0 hS hl hi hL (k := 1) (by decide) (by decide) dL_534 dL_535 dL_536 dL_537 dL_538 ?_
  refine lw_arg C0 hS hl hi hL (k := 2) (by decide) (by decide) dL_539 dL_540 dL_541 dL_542 dL_543 ?_
  refine sq_V (ci := 8) (b := 0) (as' := [.inl (true, (xs (i + 1)).toInt), .inl (true, (xs (i + 2)).toInt)]) (rest := []) S0 hKK hA (mc_8_agrees l) ⟨jw_8_agrees.1, jw_8_agrees.2.1, jw_8_agrees.2.2, ⟨by decide, by decide⟩, rfl, rfl⟩ (sy_inx 466 (by decide +kernel) (by decide +kernel)) ji_8_agrees rfl ⟨_, rfl, rfl⟩ (lw_ok (by omega) [xs (i + 1), xs (i + 2)]) rfl (pi_agrees (pr_agrees hR _ _)) rfl (Nat.le_of_ble_eq_true rfl) hc0 hl.1 dL_544 hWO hS (fun r st1 H locs hp _ hWO hS => ?_)
  obtain ⟨⟨z, rfl⟩, hp⟩ := hp
  refine lv_aload_n hx hb dL_547 rfl (lv_at hl 2 rfl) ?_
  refine lw_arg C0 hS hl hi hL (k := 1) (by decide) (by decide) dL_548 dL_549 dL_550 dL_551 dL_552 ?_
  refine lw_arg C0 hS hl hi hL (k := 2) (by decide) (by decide) dL_553 dL_554 dL_555 dL_556 dL_557 ?_
  refine sq_V (ci := 9) (b := 24) (as' := [.inl (true, (xs (i + 1)).toInt), .inl (true, (xs (i + 2)).toInt)]) (rest := [.int (Int32.ofInt z)]) S0 hKK hA (mc_9_agrees l) ⟨jw_9_agrees.1, jw_9_agrees.2.1, jw_9_agrees.2.2, ⟨by decide, by decide⟩, rfl, rfl⟩ (sy_inx 927 (by decide +kernel) (by decide +kernel)) ji_9_agrees rfl ⟨_, rfl, rfl⟩ (lw_ok (by omega) [xs (i + 1), xs (i + 2)]) rfl hp rfl (Nat.le_of_ble_eq_true rfl) hc0 hl.1 dL_558 hWO hS (fun r st2 H locs hp _ hWO hS => ?_)
  obtain ⟨rfl, hR2⟩ := hp
  refine lv_icmp_eq hx hb dL_561 (tgt := 1001) (by decide) (fun _ => ?_) (fun c9 => absurd rfl c9)
  exact W.widen (by omega) (by omega) (kk ns ad st2 H locs rfl rfl hWO hR2 hS)
theorem jw_8_fitting : Cond.code y_8_fitting c_8_fitting 1 (some .int) ∈ sy_tb ∧ Cond.initialized y_8_fitting.cls ∈ sy_tb ∧ (y_8_fitting.cls ≠ "java/lang/invoke/MethodHandle" ∧ y_8_fitting.cls ≠ "java/lang/invoke/VarHandle" ∧ (parseMethodDescriptor y_8_fitting.desc).map (fun d => d.parameters.length) = some 0) := ⟨sy_inx 539 (by decide +kernel) (by decide +kernel), sy_inx 44 (by decide +kernel) (by decide +kernel), by decide +kernel⟩
theorem ji_8_fitting : Cond.instanceMethod y_8_fitting ∈ sy_tb ∧ Cond.selects y_8_fitting.cls y_8_fitting y_8_fitting ∈ sy_tb := ⟨sy_inx 537 (by decide +kernel) (by decide +kernel), sy_inx 538 (by decide +kernel) (by decide +kernel)⟩
theorem jw_9_fitting : Cond.code y_9_fitting c_9_fitting 3 (some .int) ∈ sy_tb ∧ Cond.initialized y_9_fitting.cls ∈ sy_tb ∧ (y_9_fitting.cls ≠ "java/lang/invoke/MethodHandle" ∧ y_9_fitting.cls ≠ "java/lang/invoke/VarHandle" ∧ (parseMethodDescriptor y_9_fitting.desc).map (fun d => d.parameters.length) = some 0) := ⟨sy_inx 950 (by decide +kernel) (by decide +kernel), sy_inx 53 (by decide +kernel) (by decide +kernel), by decide +kernel⟩
theorem ji_9_fitting : Cond.instanceMethod y_9_fitting ∈ sy_tb ∧ Cond.selects y_9_fitting.cls y_9_fitting y_9_fitting ∈ sy_tb := ⟨sy_inx 948 (by decide +kernel) (by decide +kernel), sy_inx 949 (by decide +kernel) (by decide +kernel)⟩
set_option maxHeartbeats 4000000 in
set_option maxRecDepth 100000 in
theorem lc_fitting (l : Launch) (C0 : lw_C p s m meth c b L xs wd) (hL : L ≤ 3072) (hi : i + 5 < L) (hcs : cells + 2 ≤ room_1.cells ∧ slots + 522 ≤ room_1.slots) (hl : lv_has ls 4 [(0, .ref b), (1, .ref (ad 0)), (2, .ref (ad 24)), (3, .int (nI i))]) (hWO : sy_WO wd ad ns st (lw_A s) H) (hR : Rel ns st) (hS : va_S (lw_A s) s.heap H locs) (kk : ∀ (ns' : Nat) (ad' : Nat → Nat) (st' : sy_S) (H' : Heap) (locs' : List Loc), ad' 0 = ad 0 → ad' 24 = ad 24 → sy_WO wd ad' ns' st' (lw_A s) H' → Rel ns' st' → va_S (lw_A s) s.heap H' locs' → W p l e room_1 s m #[Value.ref b] below meth c H' locs' (cells + 2) (slots + 522) Q (F0 m 1001 ls [])) : W p l e room_1 s m #[Value.ref b] below meth c H locs (cells) (slots) Q (F0 m 566 ls []) := by
  have S0 := lw_fix C0
  obtain ⟨⟨hx, hb, hr, hml, hown, hts, hX, hbl, hlocks, hgv⟩, hK, hKK⟩ := id C0
  have hA : ∀ q : Nat, s.heap.size ≤ q → lw_A s q := fun _ h => h
  have hc0 : cells ≤ room_1.cells ∧ slots ≤ room_1.slots := ⟨by omega, by omega⟩
  refine lv_aload_n hx hb dL_566 rfl (lv_at hl 1 rfl) ?_
  refine sq_V (ci := 8) (b := 0) (as' := []) (rest := []) S0 hKK hA (mc_8_fitting l) ⟨jw_8_fitting.1, jw_8_fitting.2.1, jw_8_fitting.2.2, ⟨by decide, by decide⟩, rfl, rfl⟩ (sy_inx 536 (by decide +kernel) (by decide +kernel)) ji_8_fitting rfl ⟨_, rfl, rfl⟩ (lw_ok (by omega) []) rfl (pi_fitting (pr_fitting hR)) rfl (Nat.le_of_ble_eq_true rfl) hc0 hl.1 dL_567 hWO hS (fun r st1 H locs hp _ hWO hS => ?_)
  obtain ⟨⟨z, rfl⟩, hp⟩ := hp
  refine lv_aload_n hx hb dL_570 rfl (lv_at hl 2 rfl) ?_
  refine sq_V (ci := 9) (b := 24) (as' := []) (rest := [.int (Int32.ofInt z)]) S0 hKK hA (mc_9_fitting l) ⟨jw_9_fitting.1, jw_9_fitting.2.1, jw_9_fitting.2.2, ⟨by decide, by decide⟩, rfl, rfl⟩ (sy_inx 947 (by decide +kernel) (by decide +kernel)) ji_9_fitting rfl ⟨_, rfl, rfl⟩ (lw_ok (by omega) []) rfl hp rfl (Nat.le_of_ble_eq_true rfl) hc0 hl.1 dL_571 hWO hS (fun r st2 H locs hp _ hWO hS => ?_)
  obtain ⟨rfl, hR2⟩ := hp
  refine lv_icmp_eq hx hb dL_574 (tgt := 1001) (by decide) (fun _ => ?_) (fun c9 => absurd rfl c9)
  exact W.widen (by omega) (by omega) (kk ns ad st2 H locs rfl rfl hWO hR2 hS)
theorem jw_8_fits : Cond.code y_8_fits c_8_fits 2 (some .int) ∈ sy_tb ∧ Cond.initialized y_8_fits.cls ∈ sy_tb ∧ (y_8_fits.cls ≠ "java/lang/invoke/MethodHandle" ∧ y_8_fits.cls ≠ "java/lang/invoke/VarHandle" ∧ (parseMethodDescriptor y_8_fits.desc).map (fun d => d.parameters.length) = some 1) := ⟨sy_inx 547 (by decide +kernel) (by decide +kernel), sy_inx 44 (by decide +kernel) (by decide +kernel), by decide +kernel⟩
theorem ji_8_fits : Cond.instanceMethod y_8_fits ∈ sy_tb ∧ Cond.selects y_8_fits.cls y_8_fits y_8_fits ∈ sy_tb := ⟨sy_inx 545 (by decide +kernel) (by decide +kernel), sy_inx 546 (by decide +kernel) (by decide +kernel)⟩
theorem jw_9_fits : Cond.code y_9_fits c_9_fits 4 (some .int) ∈ sy_tb ∧ Cond.initialized y_9_fits.cls ∈ sy_tb ∧ (y_9_fits.cls ≠ "java/lang/invoke/MethodHandle" ∧ y_9_fits.cls ≠ "java/lang/invoke/VarHandle" ∧ (parseMethodDescriptor y_9_fits.desc).map (fun d => d.parameters.length) = some 1) := ⟨sy_inx 958 (by decide +kernel) (by decide +kernel), sy_inx 53 (by decide +kernel) (by decide +kernel), by decide +kernel⟩
theorem ji_9_fits : Cond.instanceMethod y_9_fits ∈ sy_tb ∧ Cond.selects y_9_fits.cls y_9_fits y_9_fits ∈ sy_tb := ⟨sy_inx 956 (by decide +kernel) (by decide +kernel), sy_inx 957 (by decide +kernel) (by decide +kernel)⟩
set_option maxHeartbeats 4000000 in
set_option maxRecDepth 100000 in
theorem lc_fits (l : Launch) (C0 : lw_C p s m meth c b L xs wd) (hL : L ≤ 3072) (hi : i + 5 < L) (hcs : cells + 2 ≤ room_1.cells ∧ slots + 522 ≤ room_1.slots) (hl : lv_has ls 4 [(0, .ref b), (1, .ref (ad 0)), (2, .ref (ad 24)), (3, .int (nI i))]) (hWO : sy_WO wd ad ns st (lw_A s) H) (hR : Rel ns st) (hS : va_S (lw_A s) s.heap H locs) (kk : ∀ (ns' : Nat) (ad' : Nat → Nat) (st' : sy_S) (H' : Heap) (locs' : List Loc), ad' 0 = ad 0 → ad' 24 = ad 24 → sy_WO wd ad' ns' st' (lw_A s) H' → Rel ns' st' → va_S (lw_A s) s.heap H' locs' → W p l e room_1 s m #[Value.ref b] below meth c H' locs' (cells + 2) (slots + 522) Q (F0 m 1001 ls [])) : W p l e room_1 s m #[Value.ref b] below meth c H locs (cells) (slots) Q (F0 m 579 ls []) := by
  have S0 := lw_fix C0
  obtain ⟨⟨hx, hb, hr, hml, hown, hts, hX, hbl, hlocks, hgv⟩, hK, hKK⟩ := id C0
  have hA : ∀ q : Nat, s.heap.size ≤ q → lw_A s q := fun _ h => h
  have hc0 : cells ≤ room_1.cells ∧ slots ≤ room_1.slots := ⟨by omega, by omega⟩
  refine lv_aload_n hx hb dL_579 rfl (lv_at hl 1 rfl) ?_
  refine lw_arg C0 hS hl hi hL (k := 1) (by decide) (by decide) dL_580 dL_581 dL_582 dL_583 dL_584 ?_
  refine sq_V (ci := 8) (b := 0) (as' := [.inl (true, (xs (i + 1)).toInt)]) (rest := []) S0 hKK hA (mc_8_fits l) ⟨jw_8_fits.1, jw_8_fits.2.1, jw_8_fits.2.2, ⟨by decide, by decide⟩, rfl, rfl⟩ (sy_inx 544 (by decide +kernel) (by decide +kernel)) ji_8_fits rfl ⟨_, rfl, rfl⟩ (lw_ok (by omega) [xs (i + 1)]) rfl (pi_fits (pr_fits hR _)) rfl (Nat.le_of_ble_eq_true rfl) hc0 hl.1 dL_585 hWO hS (fun r st1 H locs hp _ hWO hS => ?_)
  obtain ⟨⟨z, rfl⟩, hp⟩ := hp
  refine lv_aload_n hx hb dL_588 rfl (lv_at hl 2 rfl) ?_
  refine lw_arg C0 hS hl hi hL (k := 1) (by decide) (by decide) dL_589 dL_590 dL_591 dL_592 dL_593 ?_
  refine sq_V (ci := 9) (b := 24) (as' := [.inl (true, (xs (i + 1)).toInt)]) (rest := [.int (Int32.ofInt z)]) S0 hKK hA (mc_9_fits l) ⟨jw_9_fits.1, jw_9_fits.2.1, jw_9_fits.2.2, ⟨by decide, by decide⟩, rfl, rfl⟩ (sy_inx 955 (by decide +kernel) (by decide +kernel)) ji_9_fits rfl ⟨_, rfl, rfl⟩ (lw_ok (by omega) [xs (i + 1)]) rfl hp rfl (Nat.le_of_ble_eq_true rfl) hc0 hl.1 dL_594 hWO hS (fun r st2 H locs hp _ hWO hS => ?_)
  obtain ⟨rfl, hR2⟩ := hp
  refine lv_icmp_eq hx hb dL_597 (tgt := 1001) (by decide) (fun _ => ?_) (fun c9 => absurd rfl c9)
  exact W.widen (by omega) (by omega) (kk ns ad st2 H locs rfl rfl hWO hR2 hS)
theorem jw_8_size : Cond.code y_8_size c_8_size 2 (some .int) ∈ sy_tb ∧ Cond.initialized y_8_size.cls ∈ sy_tb ∧ (y_8_size.cls ≠ "java/lang/invoke/MethodHandle" ∧ y_8_size.cls ≠ "java/lang/invoke/VarHandle" ∧ (parseMethodDescriptor y_8_size.desc).map (fun d => d.parameters.length) = some 1) := ⟨sy_inx 555 (by decide +kernel) (by decide +kernel), sy_inx 44 (by decide +kernel) (by decide +kernel), by decide +kernel⟩
theorem ji_8_size : Cond.instanceMethod y_8_size ∈ sy_tb ∧ Cond.selects y_8_size.cls y_8_size y_8_size ∈ sy_tb := ⟨sy_inx 553 (by decide +kernel) (by decide +kernel), sy_inx 554 (by decide +kernel) (by decide +kernel)⟩
theorem jw_9_size : Cond.code y_9_size c_9_size 5 (some .int) ∈ sy_tb ∧ Cond.initialized y_9_size.cls ∈ sy_tb ∧ (y_9_size.cls ≠ "java/lang/invoke/MethodHandle" ∧ y_9_size.cls ≠ "java/lang/invoke/VarHandle" ∧ (parseMethodDescriptor y_9_size.desc).map (fun d => d.parameters.length) = some 1) := ⟨sy_inx 962 (by decide +kernel) (by decide +kernel), sy_inx 53 (by decide +kernel) (by decide +kernel), by decide +kernel⟩
theorem ji_9_size : Cond.instanceMethod y_9_size ∈ sy_tb ∧ Cond.selects y_9_size.cls y_9_size y_9_size ∈ sy_tb := ⟨sy_inx 960 (by decide +kernel) (by decide +kernel), sy_inx 961 (by decide +kernel) (by decide +kernel)⟩
set_option maxHeartbeats 4000000 in
set_option maxRecDepth 100000 in
theorem lc_size (l : Launch) (C0 : lw_C p s m meth c b L xs wd) (hL : L ≤ 3072) (hi : i + 5 < L) (hcs : cells + 2 ≤ room_1.cells ∧ slots + 522 ≤ room_1.slots) (hl : lv_has ls 4 [(0, .ref b), (1, .ref (ad 0)), (2, .ref (ad 24)), (3, .int (nI i))]) (hWO : sy_WO wd ad ns st (lw_A s) H) (hR : Rel ns st) (hS : va_S (lw_A s) s.heap H locs) (kk : ∀ (ns' : Nat) (ad' : Nat → Nat) (st' : sy_S) (H' : Heap) (locs' : List Loc), ad' 0 = ad 0 → ad' 24 = ad 24 → sy_WO wd ad' ns' st' (lw_A s) H' → Rel ns' st' → va_S (lw_A s) s.heap H' locs' → W p l e room_1 s m #[Value.ref b] below meth c H' locs' (cells + 2) (slots + 522) Q (F0 m 1001 ls [])) : W p l e room_1 s m #[Value.ref b] below meth c H locs (cells) (slots) Q (F0 m 602 ls []) := by
  have S0 := lw_fix C0
  obtain ⟨⟨hx, hb, hr, hml, hown, hts, hX, hbl, hlocks, hgv⟩, hK, hKK⟩ := id C0
  have hA : ∀ q : Nat, s.heap.size ≤ q → lw_A s q := fun _ h => h
  have hc0 : cells ≤ room_1.cells ∧ slots ≤ room_1.slots := ⟨by omega, by omega⟩
  by_cases h0 : Int32.ofInt (xs (i + 1)).toInt = 0
  · refine lv_aload_n hx hb dL_602 rfl (lv_at hl 1 rfl) ?_
    refine lw_arg C0 hS hl hi hL (k := 1) (by decide) (by decide) dL_603 dL_604 dL_605 dL_606 dL_607 ?_
    refine lv_if_eq hx hb dL_608 (tgt := 615) (by decide) (fun _ => ?_) (fun c9 => absurd h0 c9)
    refine lv_iconst hx hb dL_615 (v := Int32.ofInt 0) rfl ?_
    refine sq_V (ci := 8) (b := 0) (as' := [.inl (true, 0)]) (rest := []) S0 hKK hA (mc_8_size l) ⟨jw_8_size.1, jw_8_size.2.1, jw_8_size.2.2, ⟨by decide, by decide⟩, rfl, rfl⟩ (sy_inx 552 (by decide +kernel) (by decide +kernel)) ji_8_size rfl ⟨_, rfl, rfl⟩ (lw_ok1 (by omega) ⟨by decide, by decide⟩) rfl (pi_size (pr_size hR 0)) rfl (Nat.le_of_ble_eq_true rfl) hc0 hl.1 dL_616 hWO hS (fun r st1 H locs hp _ hWO hS => ?_)
    obtain ⟨⟨z, rfl⟩, hp⟩ := hp
    refine lv_aload_n hx hb dL_619 rfl (lv_at hl 2 rfl) ?_
    refine lw_arg C0 hS hl hi hL (k := 1) (by decide) (by decide) dL_620 dL_621 dL_622 dL_623 dL_624 ?_
    refine lv_if_eq hx hb dL_625 (tgt := 632) (by decide) (fun _ => ?_) (fun c9 => absurd h0 c9)
    refine lv_iconst hx hb dL_632 (v := Int32.ofInt 0) rfl ?_
    refine sq_V (ci := 9) (b := 24) (as' := [.inl (true, 0)]) (rest := [.int (Int32.ofInt z)]) S0 hKK hA (mc_9_size l) ⟨jw_9_size.1, jw_9_size.2.1, jw_9_size.2.2, ⟨by decide, by decide⟩, rfl, rfl⟩ (sy_inx 959 (by decide +kernel) (by decide +kernel)) ji_9_size rfl ⟨_, rfl, rfl⟩ (lw_ok1 (by omega) ⟨by decide, by decide⟩) rfl hp rfl (Nat.le_of_ble_eq_true rfl) hc0 hl.1 dL_633 hWO hS (fun r st2 H locs hp _ hWO hS => ?_)
    obtain ⟨rfl, hR2⟩ := hp
    refine lv_icmp_eq hx hb dL_636 (tgt := 1001) (by decide) (fun _ => ?_) (fun c9 => absurd rfl c9)
    exact W.widen (by omega) (by omega) (kk ns ad st2 H locs rfl rfl hWO hR2 hS)
  · refine lv_aload_n hx hb dL_602 rfl (lv_at hl 1 rfl) ?_
    refine lw_arg C0 hS hl hi hL (k := 1) (by decide) (by decide) dL_603 dL_604 dL_605 dL_606 dL_607 ?_
    refine lv_if_eq hx hb dL_608 (tgt := 615) (by decide) (fun c9 => absurd c9 h0) (fun _ => ?_)
    refine lv_iconst hx hb dL_611 (v := Int32.ofInt 1) rfl ?_
    refine lv_goto hx hb dL_612 (tgt := 616) (by decide) ?_
    refine sq_V (ci := 8) (b := 0) (as' := [.inl (true, 1)]) (rest := []) S0 hKK hA (mc_8_size l) ⟨jw_8_size.1, jw_8_size.2.1, jw_8_size.2.2, ⟨by decide, by decide⟩, rfl, rfl⟩ (sy_inx 552 (by decide +kernel) (by decide +kernel)) ji_8_size rfl ⟨_, rfl, rfl⟩ (lw_ok1 (by omega) ⟨by decide, by decide⟩) rfl (pi_size (pr_size hR 1)) rfl (Nat.le_of_ble_eq_true rfl) hc0 hl.1 dL_616 hWO hS (fun r st1 H locs hp _ hWO hS => ?_)
    obtain ⟨⟨z, rfl⟩, hp⟩ := hp
    refine lv_aload_n hx hb dL_619 rfl (lv_at hl 2 rfl) ?_
    refine lw_arg C0 hS hl hi hL (k := 1) (by decide) (by decide) dL_620 dL_621 dL_622 dL_623 dL_624 ?_
    refine lv_if_eq hx hb dL_625 (tgt := 632) (by decide) (fun c9 => absurd c9 h0) (fun _ => ?_)
    refine lv_iconst hx hb dL_628 (v := Int32.ofInt 1) rfl ?_
    refine lv_goto hx hb dL_629 (tgt := 633) (by decide) ?_
    refine sq_V (ci := 9) (b := 24) (as' := [.inl (true, 1)]) (rest := [.int (Int32.ofInt z)]) S0 hKK hA (mc_9_size l) ⟨jw_9_size.1, jw_9_size.2.1, jw_9_size.2.2, ⟨by decide, by decide⟩, rfl, rfl⟩ (sy_inx 959 (by decide +kernel) (by decide +kernel)) ji_9_size rfl ⟨_, rfl, rfl⟩ (lw_ok1 (by omega) ⟨by decide, by decide⟩) rfl hp rfl (Nat.le_of_ble_eq_true rfl) hc0 hl.1 dL_633 hWO hS (fun r st2 H locs hp _ hWO hS => ?_)
    obtain ⟨rfl, hR2⟩ := hp
    refine lv_icmp_eq hx hb dL_636 (tgt := 1001) (by decide) (fun _ => ?_) (fun c9 => absurd rfl c9)
    exact W.widen (by omega) (by omega) (kk ns ad st2 H locs rfl rfl hWO hR2 hS)
theorem jw_8_bad : Cond.code y_8_bad c_8_bad 2 (some .int) ∈ sy_tb ∧ Cond.initialized y_8_bad.cls ∈ sy_tb ∧ (y_8_bad.cls ≠ "java/lang/invoke/MethodHandle" ∧ y_8_bad.cls ≠ "java/lang/invoke/VarHandle" ∧ (parseMethodDescriptor y_8_bad.desc).map (fun d => d.parameters.length) = some 1) := ⟨sy_inx 567 (by decide +kernel) (by decide +kernel), sy_inx 44 (by decide +kernel) (by decide +kernel), by decide +kernel⟩
theorem ji_8_bad : Cond.instanceMethod y_8_bad ∈ sy_tb ∧ Cond.selects y_8_bad.cls y_8_bad y_8_bad ∈ sy_tb := ⟨sy_inx 565 (by decide +kernel) (by decide +kernel), sy_inx 566 (by decide +kernel) (by decide +kernel)⟩
theorem jw_9_bad : Cond.code y_9_bad c_9_bad 3 (some .int) ∈ sy_tb ∧ Cond.initialized y_9_bad.cls ∈ sy_tb ∧ (y_9_bad.cls ≠ "java/lang/invoke/MethodHandle" ∧ y_9_bad.cls ≠ "java/lang/invoke/VarHandle" ∧ (parseMethodDescriptor y_9_bad.desc).map (fun d => d.parameters.length) = some 1) := ⟨sy_inx 966 (by decide +kernel) (by decide +kernel), sy_inx 53 (by decide +kernel) (by decide +kernel), by decide +kernel⟩
theorem ji_9_bad : Cond.instanceMethod y_9_bad ∈ sy_tb ∧ Cond.selects y_9_bad.cls y_9_bad y_9_bad ∈ sy_tb := ⟨sy_inx 964 (by decide +kernel) (by decide +kernel), sy_inx 965 (by decide +kernel) (by decide +kernel)⟩
set_option maxHeartbeats 4000000 in
set_option maxRecDepth 100000 in
theorem lc_bad (l : Launch) (C0 : lw_C p s m meth c b L xs wd) (hL : L ≤ 3072) (hi : i + 5 < L) (hcs : cells + 2 ≤ room_1.cells ∧ slots + 522 ≤ room_1.slots) (hl : lv_has ls 4 [(0, .ref b), (1, .ref (ad 0)), (2, .ref (ad 24)), (3, .int (nI i))]) (hWO : sy_WO wd ad ns st (lw_A s) H) (hR : Rel ns st) (hS : va_S (lw_A s) s.heap H locs) (kk : ∀ (ns' : Nat) (ad' : Nat → Nat) (st' : sy_S) (H' : Heap) (locs' : List Loc), ad' 0 = ad 0 → ad' 24 = ad 24 → sy_WO wd ad' ns' st' (lw_A s) H' → Rel ns' st' → va_S (lw_A s) s.heap H' locs' → W p l e room_1 s m #[Value.ref b] below meth c H' locs' (cells + 2) (slots + 522) Q (F0 m 1001 ls [])) : W p l e room_1 s m #[Value.ref b] below meth c H locs (cells) (slots) Q (F0 m 641 ls []) := by
  have S0 := lw_fix C0
  obtain ⟨⟨hx, hb, hr, hml, hown, hts, hX, hbl, hlocks, hgv⟩, hK, hKK⟩ := id C0
  have hA : ∀ q : Nat, s.heap.size ≤ q → lw_A s q := fun _ h => h
  have hc0 : cells ≤ room_1.cells ∧ slots ≤ room_1.slots := ⟨by omega, by omega⟩
  refine lv_aload_n hx hb dL_641 rfl (lv_at hl 1 rfl) ?_
  refine lw_arg C0 hS hl hi hL (k := 1) (by decide) (by decide) dL_642 dL_643 dL_644 dL_645 dL_646 ?_
  refine sq_V (ci := 8) (b := 0) (as' := [.inl (true, (xs (i + 1)).toInt)]) (rest := []) S0 hKK hA (mc_8_bad l) ⟨jw_8_bad.1, jw_8_bad.2.1, jw_8_bad.2.2, ⟨by decide, by decide⟩, rfl, rfl⟩ (sy_inx 564 (by decide +kernel) (by decide +kernel)) ji_8_bad rfl ⟨_, rfl, rfl⟩ (lw_ok (by omega) [xs (i + 1)]) rfl (pi_bad (pr_bad hR _)) rfl (Nat.le_of_ble_eq_true rfl) hc0 hl.1 dL_647 hWO hS (fun r st1 H locs hp _ hWO hS => ?_)
  obtain ⟨⟨z, rfl⟩, hp⟩ := hp
  refine lv_aload_n hx hb dL_650 rfl (lv_at hl 2 rfl) ?_
  refine lw_arg C0 hS hl hi hL (k := 1) (by decide) (by decide) dL_651 dL_652 dL_653 dL_654 dL_655 ?_
  refine sq_V (ci := 9) (b := 24) (as' := [.inl (true, (xs (i + 1)).toInt)]) (rest := [.int (Int32.ofInt z)]) S0 hKK hA (mc_9_bad l) ⟨jw_9_bad.1, jw_9_bad.2.1, jw_9_bad.2.2, ⟨by decide, by decide⟩, rfl, rfl⟩ (sy_inx 963 (by decide +kernel) (by decide +kernel)) ji_9_bad rfl ⟨_, rfl, rfl⟩ (lw_ok (by omega) [xs (i + 1)]) rfl hp rfl (Nat.le_of_ble_eq_true rfl) hc0 hl.1 dL_656 hWO hS (fun r st2 H locs hp _ hWO hS => ?_)
  obtain ⟨rfl, hR2⟩ := hp
  refine lv_icmp_eq hx hb dL_659 (tgt := 1001) (by decide) (fun _ => ?_) (fun c9 => absurd rfl c9)
  exact W.widen (by omega) (by omega) (kk ns ad st2 H locs rfl rfl hWO hR2 hS)
theorem jw_8_isBad : Cond.code y_8_isBad c_8_isBad 2 (some .int) ∈ sy_tb ∧ Cond.initialized y_8_isBad.cls ∈ sy_tb ∧ (y_8_isBad.cls ≠ "java/lang/invoke/MethodHandle" ∧ y_8_isBad.cls ≠ "java/lang/invoke/VarHandle" ∧ (parseMethodDescriptor y_8_isBad.desc).map (fun d => d.parameters.length) = some 1) := ⟨sy_inx 579 (by decide +kernel) (by decide +kernel), sy_inx 44 (by decide +kernel) (by decide +kernel), by decide +kernel⟩
theorem ji_8_isBad : Cond.instanceMethod y_8_isBad ∈ sy_tb ∧ Cond.selects y_8_isBad.cls y_8_isBad y_8_isBad ∈ sy_tb := ⟨sy_inx 577 (by decide +kernel) (by decide +kernel), sy_inx 578 (by decide +kernel) (by decide +kernel)⟩
theorem jw_9_isBad : Cond.code y_9_isBad c_9_isBad 2 (some .int) ∈ sy_tb ∧ Cond.initialized y_9_isBad.cls ∈ sy_tb ∧ (y_9_isBad.cls ≠ "java/lang/invoke/MethodHandle" ∧ y_9_isBad.cls ≠ "java/lang/invoke/VarHandle" ∧ (parseMethodDescriptor y_9_isBad.desc).map (fun d => d.parameters.length) = some 1) := ⟨sy_inx 974 (by decide +kernel) (by decide +kernel), sy_inx 53 (by decide +kernel) (by decide +kernel), by decide +kernel⟩
theorem ji_9_isBad : Cond.instanceMethod y_9_isBad ∈ sy_tb ∧ Cond.selects y_9_isBad.cls y_9_isBad y_9_isBad ∈ sy_tb := ⟨sy_inx 972 (by decide +kernel) (by decide +kernel), sy_inx 973 (by decide +kernel) (by decide +kernel)⟩
set_option maxHeartbeats 4000000 in
set_option maxRecDepth 100000 in
theorem lc_isBad (l : Launch) (C0 : lw_C p s m meth c b L xs wd) (hL : L ≤ 3072) (hi : i + 5 < L) (hcs : cells + 2 ≤ room_1.cells ∧ slots + 522 ≤ room_1.slots) (hl : lv_has ls 4 [(0, .ref b), (1, .ref (ad 0)), (2, .ref (ad 24)), (3, .int (nI i))]) (hWO : sy_WO wd ad ns st (lw_A s) H) (hR : Rel ns st) (hS : va_S (lw_A s) s.heap H locs) (kk : ∀ (ns' : Nat) (ad' : Nat → Nat) (st' : sy_S) (H' : Heap) (locs' : List Loc), ad' 0 = ad 0 → ad' 24 = ad 24 → sy_WO wd ad' ns' st' (lw_A s) H' → Rel ns' st' → va_S (lw_A s) s.heap H' locs' → W p l e room_1 s m #[Value.ref b] below meth c H' locs' (cells + 2) (slots + 522) Q (F0 m 1001 ls [])) : W p l e room_1 s m #[Value.ref b] below meth c H locs (cells) (slots) Q (F0 m 664 ls []) := by
  have S0 := lw_fix C0
  obtain ⟨⟨hx, hb, hr, hml, hown, hts, hX, hbl, hlocks, hgv⟩, hK, hKK⟩ := id C0
  have hA : ∀ q : Nat, s.heap.size ≤ q → lw_A s q := fun _ h => h
  have hc0 : cells ≤ room_1.cells ∧ slots ≤ room_1.slots := ⟨by omega, by omega⟩
  refine lv_aload_n hx hb dL_664 rfl (lv_at hl 1 rfl) ?_
  refine lw_arg C0 hS hl hi hL (k := 1) (by decide) (by decide) dL_665 dL_666 dL_667 dL_668 dL_669 ?_
  refine sq_V (ci := 8) (b := 0) (as' := [.inl (true, (xs (i + 1)).toInt)]) (rest := []) S0 hKK hA (mc_8_isBad l) ⟨jw_8_isBad.1, jw_8_isBad.2.1, jw_8_isBad.2.2, ⟨by decide, by decide⟩, rfl, rfl⟩ (sy_inx 576 (by decide +kernel) (by decide +kernel)) ji_8_isBad rfl ⟨_, rfl, rfl⟩ (lw_ok (by omega) [xs (i + 1)]) rfl (pi_isBad (pr_isBad hR _)) rfl (Nat.le_of_ble_eq_true rfl) hc0 hl.1 dL_670 hWO hS (fun r st1 H locs hp _ hWO hS => ?_)
  obtain ⟨⟨z, rfl⟩, hp⟩ := hp
  refine lv_aload_n hx hb dL_673 rfl (lv_at hl 2 rfl) ?_
  refine lw_arg C0 hS hl hi hL (k := 1) (by decide) (by decide) dL_674 dL_675 dL_676 dL_677 dL_678 ?_
  refine sq_V (ci := 9) (b := 24) (as' := [.inl (true, (xs (i + 1)).toInt)]) (rest := [.int (Int32.ofInt z)]) S0 hKK hA (mc_9_isBad l) ⟨jw_9_isBad.1, jw_9_isBad.2.1, jw_9_isBad.2.2, ⟨by decide, by decide⟩, rfl, rfl⟩ (sy_inx 971 (by decide +kernel) (by decide +kernel)) ji_9_isBad rfl ⟨_, rfl, rfl⟩ (lw_ok (by omega) [xs (i + 1)]) rfl hp rfl (Nat.le_of_ble_eq_true rfl) hc0 hl.1 dL_679 hWO hS (fun r st2 H locs hp _ hWO hS => ?_)
  obtain ⟨rfl, hR2⟩ := hp
  refine lv_icmp_eq hx hb dL_682 (tgt := 1001) (by decide) (fun _ => ?_) (fun c9 => absurd rfl c9)
  exact W.widen (by omega) (by omega) (kk ns ad st2 H locs rfl rfl hWO hR2 hS)
theorem jw_8_clock : Cond.code y_8_clock c_8_clock 3 (some .int) ∈ sy_tb ∧ Cond.initialized y_8_clock.cls ∈ sy_tb ∧ (y_8_clock.cls ≠ "java/lang/invoke/MethodHandle" ∧ y_8_clock.cls ≠ "java/lang/invoke/VarHandle" ∧ (parseMethodDescriptor y_8_clock.desc).map (fun d => d.parameters.length) = some 2) := ⟨sy_inx 583 (by decide +kernel) (by decide +kernel), sy_inx 44 (by decide +kernel) (by decide +kernel), by decide +kernel⟩
theorem ji_8_clock : Cond.instanceMethod y_8_clock ∈ sy_tb ∧ Cond.selects y_8_clock.cls y_8_clock y_8_clock ∈ sy_tb := ⟨sy_inx 581 (by decide +kernel) (by decide +kernel), sy_inx 582 (by decide +kernel) (by decide +kernel)⟩
theorem jw_9_clock : Cond.code y_9_clock c_9_clock 8 (some .int) ∈ sy_tb ∧ Cond.initialized y_9_clock.cls ∈ sy_tb ∧ (y_9_clock.cls ≠ "java/lang/invoke/MethodHandle" ∧ y_9_clock.cls ≠ "java/lang/invoke/VarHandle" ∧ (parseMethodDescriptor y_9_clock.desc).map (fun d => d.parameters.length) = some 2) := ⟨sy_inx 978 (by decide +kernel) (by decide +kernel), sy_inx 53 (by decide +kernel) (by decide +kernel), by decide +kernel⟩
theorem ji_9_clock : Cond.instanceMethod y_9_clock ∈ sy_tb ∧ Cond.selects y_9_clock.cls y_9_clock y_9_clock ∈ sy_tb := ⟨sy_inx 976 (by decide +kernel) (by decide +kernel), sy_inx 977 (by decide +kernel) (by decide +kernel)⟩
set_option maxHeartbeats 4000000 in
set_option maxRecDepth 100000 in
theorem lc_clock (l : Launch) (C0 : lw_C p s m meth c b L xs wd) (hL : L ≤ 3072) (hi : i + 5 < L) (hcs : cells + 2 ≤ room_1.cells ∧ slots + 522 ≤ room_1.slots) (hl : lv_has ls 4 [(0, .ref b), (1, .ref (ad 0)), (2, .ref (ad 24)), (3, .int (nI i))]) (hWO : sy_WO wd ad ns st (lw_A s) H) (hR : Rel ns st) (hS : va_S (lw_A s) s.heap H locs) (kk : ∀ (ns' : Nat) (ad' : Nat → Nat) (st' : sy_S) (H' : Heap) (locs' : List Loc), ad' 0 = ad 0 → ad' 24 = ad 24 → sy_WO wd ad' ns' st' (lw_A s) H' → Rel ns' st' → va_S (lw_A s) s.heap H' locs' → W p l e room_1 s m #[Value.ref b] below meth c H' locs' (cells + 2) (slots + 522) Q (F0 m 1001 ls [])) : W p l e room_1 s m #[Value.ref b] below meth c H locs (cells) (slots) Q (F0 m 687 ls []) := by
  have S0 := lw_fix C0
  obtain ⟨⟨hx, hb, hr, hml, hown, hts, hX, hbl, hlocks, hgv⟩, hK, hKK⟩ := id C0
  have hA : ∀ q : Nat, s.heap.size ≤ q → lw_A s q := fun _ h => h
  have hc0 : cells ≤ room_1.cells ∧ slots ≤ room_1.slots := ⟨by omega, by omega⟩
  refine lv_aload_n hx hb dL_687 rfl (lv_at hl 1 rfl) ?_
  refine lw_arg C0 hS hl hi hL (k := 1) (by decide) (by decide) dL_688 dL_689 dL_690 dL_691 dL_692 ?_
  refine lw_arg C0 hS hl hi hL (k := 2) (by decide) (by decide) dL_693 dL_694 dL_695 dL_696 dL_697 ?_
  refine sq_V (ci := 8) (b := 0) (as' := [.inl (true, (xs (i + 1)).toInt), .inl (true, (xs (i + 2)).toInt)]) (rest := []) S0 hKK hA (mc_8_clock l) ⟨jw_8_clock.1, jw_8_clock.2.1, jw_8_clock.2.2, ⟨by decide, by decide⟩, rfl, rfl⟩ (sy_inx 580 (by decide +kernel) (by decide +kernel)) ji_8_clock rfl ⟨_, rfl, rfl⟩ (lw_ok (by omega) [xs (i + 1), xs (i + 2)]) rfl (pi_clock (pr_clock hR _ _)) rfl (Nat.le_of_ble_eq_true rfl) hc0 hl.1 dL_698 hWO hS (fun r st1 H locs hp _ hWO hS => ?_)
  obtain ⟨⟨z, rfl⟩, hp⟩ := hp
  refine lv_aload_n hx hb dL_701 rfl (lv_at hl 2 rfl) ?_
  refine lw_arg C0 hS hl hi hL (k := 1) (by decide) (by decide) dL_702 dL_703 dL_704 dL_705 dL_706 ?_
  refine lw_arg C0 hS hl hi hL (k := 2) (by decide) (by decide) dL_707 dL_708 dL_709 dL_710 dL_711 ?_
  refine sq_V (ci := 9) (b := 24) (as' := [.inl (true, (xs (i + 1)).toInt), .inl (true, (xs (i + 2)).toInt)]) (rest := [.int (Int32.ofInt z)]) S0 hKK hA (mc_9_clock l) ⟨jw_9_clock.1, jw_9_clock.2.1, jw_9_clock.2.2, ⟨by decide, by decide⟩, rfl, rfl⟩ (sy_inx 975 (by decide +kernel) (by decide +kernel)) ji_9_clock rfl ⟨_, rfl, rfl⟩ (lw_ok (by omega) [xs (i + 1), xs (i + 2)]) rfl hp rfl (Nat.le_of_ble_eq_true rfl) hc0 hl.1 dL_712 hWO hS (fun r st2 H locs hp _ hWO hS => ?_)
  obtain ⟨rfl, hR2⟩ := hp
  refine lv_icmp_eq hx hb dL_715 (tgt := 1001) (by decide) (fun _ => ?_) (fun c9 => absurd rfl c9)
  exact W.widen (by omega) (by omega) (kk ns ad st2 H locs rfl rfl hWO hR2 hS)
theorem jw_8_inside : Cond.code y_8_inside c_8_inside 2 (some .int) ∈ sy_tb ∧ Cond.initialized y_8_inside.cls ∈ sy_tb ∧ (y_8_inside.cls ≠ "java/lang/invoke/MethodHandle" ∧ y_8_inside.cls ≠ "java/lang/invoke/VarHandle" ∧ (parseMethodDescriptor y_8_inside.desc).map (fun d => d.parameters.length) = some 1) := ⟨sy_inx 622 (by decide +kernel) (by decide +kernel), sy_inx 44 (by decide +kernel) (by decide +kernel), by decide +kernel⟩
theorem ji_8_inside : Cond.instanceMethod y_8_inside ∈ sy_tb ∧ Cond.selects y_8_inside.cls y_8_inside y_8_inside ∈ sy_tb := ⟨sy_inx 620 (by decide +kernel) (by decide +kernel), sy_inx 621 (by decide +kernel) (by decide +kernel)⟩
theorem jw_9_inside : Cond.code y_9_inside c_9_inside 7 (some .int) ∈ sy_tb ∧ Cond.initialized y_9_inside.cls ∈ sy_tb ∧ (y_9_inside.cls ≠ "java/lang/invoke/MethodHandle" ∧ y_9_inside.cls ≠ "java/lang/invoke/VarHandle" ∧ (parseMethodDescriptor y_9_inside.desc).map (fun d => d.parameters.length) = some 1) := ⟨sy_inx 986 (by decide +kernel) (by decide +kernel), sy_inx 53 (by decide +kernel) (by decide +kernel), by decide +kernel⟩
theorem ji_9_inside : Cond.instanceMethod y_9_inside ∈ sy_tb ∧ Cond.selects y_9_inside.cls y_9_inside y_9_inside ∈ sy_tb := ⟨sy_inx 984 (by decide +kernel) (by decide +kernel), sy_inx 985 (by decide +kernel) (by decide +kernel)⟩
set_option maxHeartbeats 4000000 in
set_option maxRecDepth 100000 in
theorem lc_inside (l : Launch) (C0 : lw_C p s m meth c b L xs wd) (hL : L ≤ 3072) (hi : i + 5 < L) (hcs : cells + 2 ≤ room_1.cells ∧ slots + 522 ≤ room_1.slots) (hl : lv_has ls 4 [(0, .ref b), (1, .ref (ad 0)), (2, .ref (ad 24)), (3, .int (nI i))]) (hWO : sy_WO wd ad ns st (lw_A s) H) (hR : Rel ns st) (hS : va_S (lw_A s) s.heap H locs) (kk : ∀ (ns' : Nat) (ad' : Nat → Nat) (st' : sy_S) (H' : Heap) (locs' : List Loc), ad' 0 = ad 0 → ad' 24 = ad 24 → sy_WO wd ad' ns' st' (lw_A s) H' → Rel ns' st' → va_S (lw_A s) s.heap H' locs' → W p l e room_1 s m #[Value.ref b] below meth c H' locs' (cells + 2) (slots + 522) Q (F0 m 1001 ls [])) : W p l e room_1 s m #[Value.ref b] below meth c H locs (cells) (slots) Q (F0 m 720 ls []) := by
  have S0 := lw_fix C0
  obtain ⟨⟨hx, hb, hr, hml, hown, hts, hX, hbl, hlocks, hgv⟩, hK, hKK⟩ := id C0
  have hA : ∀ q : Nat, s.heap.size ≤ q → lw_A s q := fun _ h => h
  have hc0 : cells ≤ room_1.cells ∧ slots ≤ room_1.slots := ⟨by omega, by omega⟩
  refine lv_aload_n hx hb dL_720 rfl (lv_at hl 1 rfl) ?_
  refine lw_arg C0 hS hl hi hL (k := 1) (by decide) (by decide) dL_721 dL_722 dL_723 dL_724 dL_725 ?_
  refine sq_V (ci := 8) (b := 0) (as' := [.inl (true, (xs (i + 1)).toInt)]) (rest := []) S0 hKK hA (mc_8_inside l) ⟨jw_8_inside.1, jw_8_inside.2.1, jw_8_inside.2.2, ⟨by decide, by decide⟩, rfl, rfl⟩ (sy_inx 619 (by decide +kernel) (by decide +kernel)) ji_8_inside rfl ⟨_, rfl, rfl⟩ (lw_ok (by omega) [xs (i + 1)]) rfl (pi_inside (pr_inside hR _)) rfl (Nat.le_of_ble_eq_true rfl) hc0 hl.1 dL_726 hWO hS (fun r st1 H locs hp _ hWO hS => ?_)
  obtain ⟨⟨z, rfl⟩, hp⟩ := hp
  refine lv_aload_n hx hb dL_729 rfl (lv_at hl 2 rfl) ?_
  refine lw_arg C0 hS hl hi hL (k := 1) (by decide) (by decide) dL_730 dL_731 dL_732 dL_733 dL_734 ?_
  refine sq_V (ci := 9) (b := 24) (as' := [.inl (true, (xs (i + 1)).toInt)]) (rest := [.int (Int32.ofInt z)]) S0 hKK hA (mc_9_inside l) ⟨jw_9_inside.1, jw_9_inside.2.1, jw_9_inside.2.2, ⟨by decide, by decide⟩, rfl, rfl⟩ (sy_inx 983 (by decide +kernel) (by decide +kernel)) ji_9_inside rfl ⟨_, rfl, rfl⟩ (lw_ok (by omega) [xs (i + 1)]) rfl hp rfl (Nat.le_of_ble_eq_true rfl) hc0 hl.1 dL_735 hWO hS (fun r st2 H locs hp _ hWO hS => ?_)
  obtain ⟨rfl, hR2⟩ := hp
  refine lv_icmp_eq hx hb dL_738 (tgt := 1001) (by decide) (fun _ => ?_) (fun c9 => absurd rfl c9)
  exact W.widen (by omega) (by omega) (kk ns ad st2 H locs rfl rfl hWO hR2 hS)
theorem jw_8_corner : Cond.code y_8_corner c_8_corner 3 (some .int) ∈ sy_tb ∧ Cond.initialized y_8_corner.cls ∈ sy_tb ∧ (y_8_corner.cls ≠ "java/lang/invoke/MethodHandle" ∧ y_8_corner.cls ≠ "java/lang/invoke/VarHandle" ∧ (parseMethodDescriptor y_8_corner.desc).map (fun d => d.parameters.length) = some 2) := ⟨sy_inx 681 (by decide +kernel) (by decide +kernel), sy_inx 44 (by decide +kernel) (by decide +kernel), by decide +kernel⟩
theorem ji_8_corner : Cond.instanceMethod y_8_corner ∈ sy_tb ∧ Cond.selects y_8_corner.cls y_8_corner y_8_corner ∈ sy_tb := ⟨sy_inx 679 (by decide +kernel) (by decide +kernel), sy_inx 680 (by decide +kernel) (by decide +kernel)⟩
theorem jw_9_corner : Cond.code y_9_corner c_9_corner 3 (some .int) ∈ sy_tb ∧ Cond.initialized y_9_corner.cls ∈ sy_tb ∧ (y_9_corner.cls ≠ "java/lang/invoke/MethodHandle" ∧ y_9_corner.cls ≠ "java/lang/invoke/VarHandle" ∧ (parseMethodDescriptor y_9_corner.desc).map (fun d => d.parameters.length) = some 2) := ⟨sy_inx 1001 (by decide +kernel) (by decide +kernel), sy_inx 53 (by decide +kernel) (by decide +kernel), by decide +kernel⟩
theorem ji_9_corner : Cond.instanceMethod y_9_corner ∈ sy_tb ∧ Cond.selects y_9_corner.cls y_9_corner y_9_corner ∈ sy_tb := ⟨sy_inx 999 (by decide +kernel) (by decide +kernel), sy_inx 1000 (by decide +kernel) (by decide +kernel)⟩
set_option maxHeartbeats 4000000 in
set_option maxRecDepth 100000 in
theorem lc_corner (l : Launch) (C0 : lw_C p s m meth c b L xs wd) (hL : L ≤ 3072) (hi : i + 5 < L) (hcs : cells + 2 ≤ room_1.cells ∧ slots + 522 ≤ room_1.slots) (hl : lv_has ls 4 [(0, .ref b), (1, .ref (ad 0)), (2, .ref (ad 24)), (3, .int (nI i))]) (hWO : sy_WO wd ad ns st (lw_A s) H) (hR : Rel ns st) (hS : va_S (lw_A s) s.heap H locs) (kk : ∀ (ns' : Nat) (ad' : Nat → Nat) (st' : sy_S) (H' : Heap) (locs' : List Loc), ad' 0 = ad 0 → ad' 24 = ad 24 → sy_WO wd ad' ns' st' (lw_A s) H' → Rel ns' st' → va_S (lw_A s) s.heap H' locs' → W p l e room_1 s m #[Value.ref b] below meth c H' locs' (cells + 2) (slots + 522) Q (F0 m 1001 ls [])) : W p l e room_1 s m #[Value.ref b] below meth c H locs (cells) (slots) Q (F0 m 743 ls []) := by
  have S0 := lw_fix C0
  obtain ⟨⟨hx, hb, hr, hml, hown, hts, hX, hbl, hlocks, hgv⟩, hK, hKK⟩ := id C0
  have hA : ∀ q : Nat, s.heap.size ≤ q → lw_A s q := fun _ h => h
  have hc0 : cells ≤ room_1.cells ∧ slots ≤ room_1.slots := ⟨by omega, by omega⟩
  refine lv_aload_n hx hb dL_743 rfl (lv_at hl 1 rfl) ?_
  refine lw_arg C0 hS hl hi hL (k := 1) (by decide) (by decide) dL_744 dL_745 dL_746 dL_747 dL_748 ?_
  refine lw_arg C0 hS hl hi hL (k := 2) (by decide) (by decide) dL_749 dL_750 dL_751 dL_752 dL_753 ?_
  refine sq_V (ci := 8) (b := 0) (as' := [.inl (true, (xs (i + 1)).toInt), .inl (true, (xs (i + 2)).toInt)]) (rest := []) S0 hKK hA (mc_8_corner l) ⟨jw_8_corner.1, jw_8_corner.2.1, jw_8_corner.2.2, ⟨by decide, by decide⟩, rfl, rfl⟩ (sy_inx 678 (by decide +kernel) (by decide +kernel)) ji_8_corner rfl ⟨_, rfl, rfl⟩ (lw_ok (by omega) [xs (i + 1), xs (i + 2)]) rfl (pi_corner (pr_corner hR _ _)) rfl (Nat.le_of_ble_eq_true rfl) hc0 hl.1 dL_754 hWO hS (fun r st1 H locs hp _ hWO hS => ?_)
  obtain ⟨⟨z, rfl⟩, hp⟩ := hp
  refine lv_aload_n hx hb dL_757 rfl (lv_at hl 2 rfl) ?_
  refine lw_arg C0 hS hl hi hL (k := 1) (by decide) (by decide) dL_758 dL_759 dL_760 dL_761 dL_762 ?_
  refine lw_arg C0 hS hl hi hL (k := 2) (by decide) (by decide) dL_763 dL_764 dL_765 dL_766 dL_767 ?_
  refine sq_V (ci := 9) (b := 24) (as' := [.inl (true, (xs (i + 1)).toInt), .inl (true, (xs (i + 2)).toInt)]) (rest := [.int (Int32.ofInt z)]) S0 hKK hA (mc_9_corner l) ⟨jw_9_corner.1, jw_9_corner.2.1, jw_9_corner.2.2, ⟨by decide, by decide⟩, rfl, rfl⟩ (sy_inx 998 (by decide +kernel) (by decide +kernel)) ji_9_corner rfl ⟨_, rfl, rfl⟩ (lw_ok (by omega) [xs (i + 1), xs (i + 2)]) rfl hp rfl (Nat.le_of_ble_eq_true rfl) hc0 hl.1 dL_768 hWO hS (fun r st2 H locs hp _ hWO hS => ?_)
  obtain ⟨rfl, hR2⟩ := hp
  refine lv_icmp_eq hx hb dL_771 (tgt := 1001) (by decide) (fun _ => ?_) (fun c9 => absurd rfl c9)
  exact W.widen (by omega) (by omega) (kk ns ad st2 H locs rfl rfl hWO hR2 hS)
theorem jw_8_quarrels : Cond.code y_8_quarrels c_8_quarrels 5 (some .int) ∈ sy_tb ∧ Cond.initialized y_8_quarrels.cls ∈ sy_tb ∧ (y_8_quarrels.cls ≠ "java/lang/invoke/MethodHandle" ∧ y_8_quarrels.cls ≠ "java/lang/invoke/VarHandle" ∧ (parseMethodDescriptor y_8_quarrels.desc).map (fun d => d.parameters.length) = some 1) := ⟨sy_inx 687 (by decide +kernel) (by decide +kernel), sy_inx 44 (by decide +kernel) (by decide +kernel), by decide +kernel⟩
theorem ji_8_quarrels : Cond.instanceMethod y_8_quarrels ∈ sy_tb ∧ Cond.selects y_8_quarrels.cls y_8_quarrels y_8_quarrels ∈ sy_tb := ⟨sy_inx 685 (by decide +kernel) (by decide +kernel), sy_inx 686 (by decide +kernel) (by decide +kernel)⟩
theorem jw_9_quarrels : Cond.code y_9_quarrels c_9_quarrels 8 (some .int) ∈ sy_tb ∧ Cond.initialized y_9_quarrels.cls ∈ sy_tb ∧ (y_9_quarrels.cls ≠ "java/lang/invoke/MethodHandle" ∧ y_9_quarrels.cls ≠ "java/lang/invoke/VarHandle" ∧ (parseMethodDescriptor y_9_quarrels.desc).map (fun d => d.parameters.length) = some 1) := ⟨sy_inx 1005 (by decide +kernel) (by decide +kernel), sy_inx 53 (by decide +kernel) (by decide +kernel), by decide +kernel⟩
theorem ji_9_quarrels : Cond.instanceMethod y_9_quarrels ∈ sy_tb ∧ Cond.selects y_9_quarrels.cls y_9_quarrels y_9_quarrels ∈ sy_tb := ⟨sy_inx 1003 (by decide +kernel) (by decide +kernel), sy_inx 1004 (by decide +kernel) (by decide +kernel)⟩
set_option maxHeartbeats 4000000 in
set_option maxRecDepth 100000 in
theorem lc_quarrels (l : Launch) (C0 : lw_C p s m meth c b L xs wd) (hL : L ≤ 3072) (hi : i + 5 < L) (hcs : cells + 2 ≤ room_1.cells ∧ slots + 522 ≤ room_1.slots) (hl : lv_has ls 4 [(0, .ref b), (1, .ref (ad 0)), (2, .ref (ad 24)), (3, .int (nI i))]) (hWO : sy_WO wd ad ns st (lw_A s) H) (hR : Rel ns st) (hS : va_S (lw_A s) s.heap H locs) (kk : ∀ (ns' : Nat) (ad' : Nat → Nat) (st' : sy_S) (H' : Heap) (locs' : List Loc), ad' 0 = ad 0 → ad' 24 = ad 24 → sy_WO wd ad' ns' st' (lw_A s) H' → Rel ns' st' → va_S (lw_A s) s.heap H' locs' → W p l e room_1 s m #[Value.ref b] below meth c H' locs' (cells + 2) (slots + 522) Q (F0 m 1001 ls [])) : W p l e room_1 s m #[Value.ref b] below meth c H locs (cells) (slots) Q (F0 m 776 ls []) := by
  have S0 := lw_fix C0
  obtain ⟨⟨hx, hb, hr, hml, hown, hts, hX, hbl, hlocks, hgv⟩, hK, hKK⟩ := id C0
  have hA : ∀ q : Nat, s.heap.size ≤ q → lw_A s q := fun _ h => h
  have hc0 : cells ≤ room_1.cells ∧ slots ≤ room_1.slots := ⟨by omega, by omega⟩
  refine lv_aload_n hx hb dL_776 rfl (lv_at hl 1 rfl) ?_
  refine lw_arg C0 hS hl hi hL (k := 1) (by decide) (by decide) dL_777 dL_778 dL_779 dL_780 dL_781 ?_
  refine sq_V (ci := 8) (b := 0) (as' := [.inl (true, (xs (i + 1)).toInt)]) (rest := []) S0 hKK hA (mc_8_quarrels l) ⟨jw_8_quarrels.1, jw_8_quarrels.2.1, jw_8_quarrels.2.2, ⟨by decide, by decide⟩, rfl, rfl⟩ (sy_inx 684 (by decide +kernel) (by decide +kernel)) ji_8_quarrels rfl ⟨_, rfl, rfl⟩ (lw_ok (by omega) [xs (i + 1)]) rfl (pi_quarrels (pr_quarrels hR _)) rfl (Nat.le_of_ble_eq_true rfl) hc0 hl.1 dL_782 hWO hS (fun r st1 H locs hp _ hWO hS => ?_)
  obtain ⟨⟨z, rfl⟩, hp⟩ := hp
  refine lv_aload_n hx hb dL_785 rfl (lv_at hl 2 rfl) ?_
  refine lw_arg C0 hS hl hi hL (k := 1) (by decide) (by decide) dL_786 dL_787 dL_788 dL_789 dL_790 ?_
  refine sq_V (ci := 9) (b := 24) (as' := [.inl (true, (xs (i + 1)).toInt)]) (rest := [.int (Int32.ofInt z)]) S0 hKK hA (mc_9_quarrels l) ⟨jw_9_quarrels.1, jw_9_quarrels.2.1, jw_9_quarrels.2.2, ⟨by decide, by decide⟩, rfl, rfl⟩ (sy_inx 1002 (by decide +kernel) (by decide +kernel)) ji_9_quarrels rfl ⟨_, rfl, rfl⟩ (lw_ok (by omega) [xs (i + 1)]) rfl hp rfl (Nat.le_of_ble_eq_true rfl) hc0 hl.1 dL_791 hWO hS (fun r st2 H locs hp _ hWO hS => ?_)
  obtain ⟨rfl, hR2⟩ := hp
  refine lv_icmp_eq hx hb dL_794 (tgt := 1001) (by decide) (fun _ => ?_) (fun c9 => absurd rfl c9)
  exact W.widen (by omega) (by omega) (kk ns ad st2 H locs rfl rfl hWO hR2 hS)
theorem jw_8_dip : Cond.code y_8_dip c_8_dip 4 (some .int) ∈ sy_tb ∧ Cond.initialized y_8_dip.cls ∈ sy_tb ∧ (y_8_dip.cls ≠ "java/lang/invoke/MethodHandle" ∧ y_8_dip.cls ≠ "java/lang/invoke/VarHandle" ∧ (parseMethodDescriptor y_8_dip.desc).map (fun d => d.parameters.length) = some 3) := ⟨sy_inx 699 (by decide +kernel) (by decide +kernel), sy_inx 44 (by decide +kernel) (by decide +kernel), by decide +kernel⟩
theorem ji_8_dip : Cond.instanceMethod y_8_dip ∈ sy_tb ∧ Cond.selects y_8_dip.cls y_8_dip y_8_dip ∈ sy_tb := ⟨sy_inx 697 (by decide +kernel) (by decide +kernel), sy_inx 698 (by decide +kernel) (by decide +kernel)⟩
theorem jw_9_dip : Cond.code y_9_dip c_9_dip 4 (some .int) ∈ sy_tb ∧ Cond.initialized y_9_dip.cls ∈ sy_tb ∧ (y_9_dip.cls ≠ "java/lang/invoke/MethodHandle" ∧ y_9_dip.cls ≠ "java/lang/invoke/VarHandle" ∧ (parseMethodDescriptor y_9_dip.desc).map (fun d => d.parameters.length) = some 3) := ⟨sy_inx 1017 (by decide +kernel) (by decide +kernel), sy_inx 53 (by decide +kernel) (by decide +kernel), by decide +kernel⟩
theorem ji_9_dip : Cond.instanceMethod y_9_dip ∈ sy_tb ∧ Cond.selects y_9_dip.cls y_9_dip y_9_dip ∈ sy_tb := ⟨sy_inx 1015 (by decide +kernel) (by decide +kernel), sy_inx 1016 (by decide +kernel) (by decide +kernel)⟩
set_option maxHeartbeats 4000000 in
set_option maxRecDepth 100000 in
theorem lc_dip (l : Launch) (C0 : lw_C p s m meth c b L xs wd) (hL : L ≤ 3072) (hi : i + 5 < L) (hcs : cells + 2 ≤ room_1.cells ∧ slots + 522 ≤ room_1.slots) (hl : lv_has ls 4 [(0, .ref b), (1, .ref (ad 0)), (2, .ref (ad 24)), (3, .int (nI i))]) (hWO : sy_WO wd ad ns st (lw_A s) H) (hR : Rel ns st) (hS : va_S (lw_A s) s.heap H locs) (kk : ∀ (ns' : Nat) (ad' : Nat → Nat) (st' : sy_S) (H' : Heap) (locs' : List Loc), ad' 0 = ad 0 → ad' 24 = ad 24 → sy_WO wd ad' ns' st' (lw_A s) H' → Rel ns' st' → va_S (lw_A s) s.heap H' locs' → W p l e room_1 s m #[Value.ref b] below meth c H' locs' (cells + 2) (slots + 522) Q (F0 m 1001 ls [])) : W p l e room_1 s m #[Value.ref b] below meth c H locs (cells) (slots) Q (F0 m 799 ls []) := by
  have S0 := lw_fix C0
  obtain ⟨⟨hx, hb, hr, hml, hown, hts, hX, hbl, hlocks, hgv⟩, hK, hKK⟩ := id C0
  have hA : ∀ q : Nat, s.heap.size ≤ q → lw_A s q := fun _ h => h
  have hc0 : cells ≤ room_1.cells ∧ slots ≤ room_1.slots := ⟨by omega, by omega⟩
  refine lv_aload_n hx hb dL_799 rfl (lv_at hl 1 rfl) ?_
  refine lw_arg C0 hS hl hi hL (k := 1) (by decide) (by decide) dL_800 dL_801 dL_802 dL_803 dL_804 ?_
  refine lw_arg C0 hS hl hi hL (k := 2) (by decide) (by decide) dL_805 dL_806 dL_807 dL_808 dL_809 ?_
  refine lw_arg C0 hS hl hi hL (k := 3) (by decide) (by decide) dL_810 dL_811 dL_812 dL_813 dL_814 ?_
  refine sq_V (ci := 8) (b := 0) (as' := [.inl (true, (xs (i + 1)).toInt), .inl (true, (xs (i + 2)).toInt), .inl (true, (xs (i + 3)).toInt)]) (rest := []) S0 hKK hA (mc_8_dip l) ⟨jw_8_dip.1, jw_8_dip.2.1, jw_8_dip.2.2, ⟨by decide, by decide⟩, rfl, rfl⟩ (sy_inx 696 (by decide +kernel) (by decide +kernel)) ji_8_dip rfl ⟨_, rfl, rfl⟩ (lw_ok (by omega) [xs (i + 1), xs (i + 2), xs (i + 3)]) rfl (pi_dip (pr_dip hR _ _ _)) rfl (Nat.le_of_ble_eq_true rfl) hc0 hl.1 dL_815 hWO hS (fun r st1 H locs hp _ hWO hS => ?_)
  obtain ⟨⟨z, rfl⟩, hp⟩ := hp
  refine lv_aload_n hx hb dL_818 rfl (lv_at hl 2 rfl) ?_
  refine lw_arg C0 hS hl hi hL (k := 1) (by decide) (by decide) dL_819 dL_820 dL_821 dL_822 dL_823 ?_
  refine lw_arg C0 hS hl hi hL (k := 2) (by decide) (by decide) dL_824 dL_825 dL_826 dL_827 dL_828 ?_
  refine lw_arg C0 hS hl hi hL (k := 3) (by decide) (by decide) dL_829 dL_830 dL_831 dL_832 dL_833 ?_
  refine sq_V (ci := 9) (b := 24) (as' := [.inl (true, (xs (i + 1)).toInt), .inl (true, (xs (i + 2)).toInt), .inl (true, (xs (i + 3)).toInt)]) (rest := [.int (Int32.ofInt z)]) S0 hKK hA (mc_9_dip l) ⟨jw_9_dip.1, jw_9_dip.2.1, jw_9_dip.2.2, ⟨by decide, by decide⟩, rfl, rfl⟩ (sy_inx 1014 (by decide +kernel) (by decide +kernel)) ji_9_dip rfl ⟨_, rfl, rfl⟩ (lw_ok (by omega) [xs (i + 1), xs (i + 2), xs (i + 3)]) rfl hp rfl (Nat.le_of_ble_eq_true rfl) hc0 hl.1 dL_834 hWO hS (fun r st2 H locs hp _ hWO hS => ?_)
  obtain ⟨rfl, hR2⟩ := hp
  refine lv_icmp_eq hx hb dL_837 (tgt := 1001) (by decide) (fun _ => ?_) (fun c9 => absurd rfl c9)
  exact W.widen (by omega) (by omega) (kk ns ad st2 H locs rfl rfl hWO hR2 hS)
theorem jw_8_even : Cond.code y_8_even c_8_even 3 (some .int) ∈ sy_tb ∧ Cond.initialized y_8_even.cls ∈ sy_tb ∧ (y_8_even.cls ≠ "java/lang/invoke/MethodHandle" ∧ y_8_even.cls ≠ "java/lang/invoke/VarHandle" ∧ (parseMethodDescriptor y_8_even.desc).map (fun d => d.parameters.length) = some 1) := ⟨sy_inx 707 (by decide +kernel) (by decide +kernel), sy_inx 44 (by decide +kernel) (by decide +kernel), by decide +kernel⟩
theorem ji_8_even : Cond.instanceMethod y_8_even ∈ sy_tb ∧ Cond.selects y_8_even.cls y_8_even y_8_even ∈ sy_tb := ⟨sy_inx 705 (by decide +kernel) (by decide +kernel), sy_inx 706 (by decide +kernel) (by decide +kernel)⟩
theorem jw_9_even : Cond.code y_9_even c_9_even 3 (some .int) ∈ sy_tb ∧ Cond.initialized y_9_even.cls ∈ sy_tb ∧ (y_9_even.cls ≠ "java/lang/invoke/MethodHandle" ∧ y_9_even.cls ≠ "java/lang/invoke/VarHandle" ∧ (parseMethodDescriptor y_9_even.desc).map (fun d => d.parameters.length) = some 1) := ⟨sy_inx 1021 (by decide +kernel) (by decide +kernel), sy_inx 53 (by decide +kernel) (by decide +kernel), by decide +kernel⟩
theorem ji_9_even : Cond.instanceMethod y_9_even ∈ sy_tb ∧ Cond.selects y_9_even.cls y_9_even y_9_even ∈ sy_tb := ⟨sy_inx 1019 (by decide +kernel) (by decide +kernel), sy_inx 1020 (by decide +kernel) (by decide +kernel)⟩
set_option maxHeartbeats 4000000 in
set_option maxRecDepth 100000 in
theorem lc_even (l : Launch) (C0 : lw_C p s m meth c b L xs wd) (hL : L ≤ 3072) (hi : i + 5 < L) (hcs : cells + 2 ≤ room_1.cells ∧ slots + 522 ≤ room_1.slots) (hl : lv_has ls 4 [(0, .ref b), (1, .ref (ad 0)), (2, .ref (ad 24)), (3, .int (nI i))]) (hWO : sy_WO wd ad ns st (lw_A s) H) (hR : Rel ns st) (hS : va_S (lw_A s) s.heap H locs) (kk : ∀ (ns' : Nat) (ad' : Nat → Nat) (st' : sy_S) (H' : Heap) (locs' : List Loc), ad' 0 = ad 0 → ad' 24 = ad 24 → sy_WO wd ad' ns' st' (lw_A s) H' → Rel ns' st' → va_S (lw_A s) s.heap H' locs' → W p l e room_1 s m #[Value.ref b] below meth c H' locs' (cells + 2) (slots + 522) Q (F0 m 1001 ls [])) : W p l e room_1 s m #[Value.ref b] below meth c H locs (cells) (slots) Q (F0 m 842 ls []) := by
  have S0 := lw_fix C0
  obtain ⟨⟨hx, hb, hr, hml, hown, hts, hX, hbl, hlocks, hgv⟩, hK, hKK⟩ := id C0
  have hA : ∀ q : Nat, s.heap.size ≤ q → lw_A s q := fun _ h => h
  have hc0 : cells ≤ room_1.cells ∧ slots ≤ room_1.slots := ⟨by omega, by omega⟩
  refine lv_aload_n hx hb dL_842 rfl (lv_at hl 1 rfl) ?_
  refine lw_arg C0 hS hl hi hL (k := 1) (by decide) (by decide) dL_843 dL_844 dL_845 dL_846 dL_847 ?_
  refine sq_V (ci := 8) (b := 0) (as' := [.inl (true, (xs (i + 1)).toInt)]) (rest := []) S0 hKK hA (mc_8_even l) ⟨jw_8_even.1, jw_8_even.2.1, jw_8_even.2.2, ⟨by decide, by decide⟩, rfl, rfl⟩ (sy_inx 704 (by decide +kernel) (by decide +kernel)) ji_8_even rfl ⟨_, rfl, rfl⟩ (lw_ok (by omega) [xs (i + 1)]) rfl (pi_even (pr_even hR _)) rfl (Nat.le_of_ble_eq_true rfl) hc0 hl.1 dL_848 hWO hS (fun r st1 H locs hp _ hWO hS => ?_)
  obtain ⟨⟨z, rfl⟩, hp⟩ := hp
  refine lv_aload_n hx hb dL_851 rfl (lv_at hl 2 rfl) ?_
  refine lw_arg C0 hS hl hi hL (k := 1) (by decide) (by decide) dL_852 dL_853 dL_854 dL_855 dL_856 ?_
  refine sq_V (ci := 9) (b := 24) (as' := [.inl (true, (xs (i + 1)).toInt)]) (rest := [.int (Int32.ofInt z)]) S0 hKK hA (mc_9_even l) ⟨jw_9_even.1, jw_9_even.2.1, jw_9_even.2.2, ⟨by decide, by decide⟩, rfl, rfl⟩ (sy_inx 1018 (by decide +kernel) (by decide +kernel)) ji_9_even rfl ⟨_, rfl, rfl⟩ (lw_ok (by omega) [xs (i + 1)]) rfl hp rfl (Nat.le_of_ble_eq_true rfl) hc0 hl.1 dL_857 hWO hS (fun r st2 H locs hp _ hWO hS => ?_)
  obtain ⟨rfl, hR2⟩ := hp
  refine lv_icmp_eq hx hb dL_860 (tgt := 1001) (by decide) (fun _ => ?_) (fun c9 => absurd rfl c9)
  exact W.widen (by omega) (by omega) (kk ns ad st2 H locs rfl rfl hWO hR2 hS)
theorem jw_8_calm : Cond.code y_8_calm c_8_calm 2 (some .int) ∈ sy_tb ∧ Cond.initialized y_8_calm.cls ∈ sy_tb ∧ (y_8_calm.cls ≠ "java/lang/invoke/MethodHandle" ∧ y_8_calm.cls ≠ "java/lang/invoke/VarHandle" ∧ (parseMethodDescriptor y_8_calm.desc).map (fun d => d.parameters.length) = some 0) := ⟨sy_inx 711 (by decide +kernel) (by decide +kernel), sy_inx 44 (by decide +kernel) (by decide +kernel), by decide +kernel⟩
theorem ji_8_calm : Cond.instanceMethod y_8_calm ∈ sy_tb ∧ Cond.selects y_8_calm.cls y_8_calm y_8_calm ∈ sy_tb := ⟨sy_inx 709 (by decide +kernel) (by decide +kernel), sy_inx 710 (by decide +kernel) (by decide +kernel)⟩
theorem jw_9_calm : Cond.code y_9_calm c_9_calm 2 (some .int) ∈ sy_tb ∧ Cond.initialized y_9_calm.cls ∈ sy_tb ∧ (y_9_calm.cls ≠ "java/lang/invoke/MethodHandle" ∧ y_9_calm.cls ≠ "java/lang/invoke/VarHandle" ∧ (parseMethodDescriptor y_9_calm.desc).map (fun d => d.parameters.length) = some 0) := ⟨sy_inx 1025 (by decide +kernel) (by decide +kernel), sy_inx 53 (by decide +kernel) (by decide +kernel), by decide +kernel⟩
theorem ji_9_calm : Cond.instanceMethod y_9_calm ∈ sy_tb ∧ Cond.selects y_9_calm.cls y_9_calm y_9_calm ∈ sy_tb := ⟨sy_inx 1023 (by decide +kernel) (by decide +kernel), sy_inx 1024 (by decide +kernel) (by decide +kernel)⟩
set_option maxHeartbeats 4000000 in
set_option maxRecDepth 100000 in
theorem lc_calm (l : Launch) (C0 : lw_C p s m meth c b L xs wd) (hL : L ≤ 3072) (hi : i + 5 < L) (hcs : cells + 2 ≤ room_1.cells ∧ slots + 522 ≤ room_1.slots) (hl : lv_has ls 4 [(0, .ref b), (1, .ref (ad 0)), (2, .ref (ad 24)), (3, .int (nI i))]) (hWO : sy_WO wd ad ns st (lw_A s) H) (hR : Rel ns st) (hS : va_S (lw_A s) s.heap H locs) (kk : ∀ (ns' : Nat) (ad' : Nat → Nat) (st' : sy_S) (H' : Heap) (locs' : List Loc), ad' 0 = ad 0 → ad' 24 = ad 24 → sy_WO wd ad' ns' st' (lw_A s) H' → Rel ns' st' → va_S (lw_A s) s.heap H' locs' → W p l e room_1 s m #[Value.ref b] below meth c H' locs' (cells + 2) (slots + 522) Q (F0 m 1001 ls [])) : W p l e room_1 s m #[Value.ref b] below meth c H locs (cells) (slots) Q (F0 m 865 ls []) := by
  have S0 := lw_fix C0
  obtain ⟨⟨hx, hb, hr, hml, hown, hts, hX, hbl, hlocks, hgv⟩, hK, hKK⟩ := id C0
  have hA : ∀ q : Nat, s.heap.size ≤ q → lw_A s q := fun _ h => h
  have hc0 : cells ≤ room_1.cells ∧ slots ≤ room_1.slots := ⟨by omega, by omega⟩
  refine lv_aload_n hx hb dL_865 rfl (lv_at hl 1 rfl) ?_
  refine sq_V (ci := 8) (b := 0) (as' := []) (rest := []) S0 hKK hA (mc_8_calm l) ⟨jw_8_calm.1, jw_8_calm.2.1, jw_8_calm.2.2, ⟨by decide, by decide⟩, rfl, rfl⟩ (sy_inx 708 (by decide +kernel) (by decide +kernel)) ji_8_calm rfl ⟨_, rfl, rfl⟩ (lw_ok (by omega) []) rfl (pi_calm (pr_calm hR)) rfl (Nat.le_of_ble_eq_true rfl) hc0 hl.1 dL_866 hWO hS (fun r st1 H locs hp _ hWO hS => ?_)
  obtain ⟨⟨z, rfl⟩, hp⟩ := hp
  refine lv_aload_n hx hb dL_869 rfl (lv_at hl 2 rfl) ?_
  refine sq_V (ci := 9) (b := 24) (as' := []) (rest := [.int (Int32.ofInt z)]) S0 hKK hA (mc_9_calm l) ⟨jw_9_calm.1, jw_9_calm.2.1, jw_9_calm.2.2, ⟨by decide, by decide⟩, rfl, rfl⟩ (sy_inx 1022 (by decide +kernel) (by decide +kernel)) ji_9_calm rfl ⟨_, rfl, rfl⟩ (lw_ok (by omega) []) rfl hp rfl (Nat.le_of_ble_eq_true rfl) hc0 hl.1 dL_870 hWO hS (fun r st2 H locs hp _ hWO hS => ?_)
  obtain ⟨rfl, hR2⟩ := hp
  refine lv_icmp_eq hx hb dL_873 (tgt := 1001) (by decide) (fun _ => ?_) (fun c9 => absurd rfl c9)
  exact W.widen (by omega) (by omega) (kk ns ad st2 H locs rfl rfl hWO hR2 hS)
theorem jw_8_ring : Cond.code y_8_ring c_8_ring 5 (some .long) ∈ sy_tb ∧ Cond.initialized y_8_ring.cls ∈ sy_tb ∧ (y_8_ring.cls ≠ "java/lang/invoke/MethodHandle" ∧ y_8_ring.cls ≠ "java/lang/invoke/VarHandle" ∧ (parseMethodDescriptor y_8_ring.desc).map (fun d => d.parameters.length) = some 2) := ⟨sy_inx 715 (by decide +kernel) (by decide +kernel), sy_inx 44 (by decide +kernel) (by decide +kernel), by decide +kernel⟩
theorem ji_8_ring : Cond.instanceMethod y_8_ring ∈ sy_tb ∧ Cond.selects y_8_ring.cls y_8_ring y_8_ring ∈ sy_tb := ⟨sy_inx 713 (by decide +kernel) (by decide +kernel), sy_inx 714 (by decide +kernel) (by decide +kernel)⟩
theorem jw_9_ring : Cond.code y_9_ring c_9_ring 22 (some .long) ∈ sy_tb ∧ Cond.initialized y_9_ring.cls ∈ sy_tb ∧ (y_9_ring.cls ≠ "java/lang/invoke/MethodHandle" ∧ y_9_ring.cls ≠ "java/lang/invoke/VarHandle" ∧ (parseMethodDescriptor y_9_ring.desc).map (fun d => d.parameters.length) = some 2) := ⟨sy_inx 1029 (by decide +kernel) (by decide +kernel), sy_inx 53 (by decide +kernel) (by decide +kernel), by decide +kernel⟩
theorem ji_9_ring : Cond.instanceMethod y_9_ring ∈ sy_tb ∧ Cond.selects y_9_ring.cls y_9_ring y_9_ring ∈ sy_tb := ⟨sy_inx 1027 (by decide +kernel) (by decide +kernel), sy_inx 1028 (by decide +kernel) (by decide +kernel)⟩
set_option maxHeartbeats 4000000 in
set_option maxRecDepth 100000 in
theorem lc_ring (l : Launch) (C0 : lw_C p s m meth c b L xs wd) (hL : L ≤ 3072) (hi : i + 5 < L) (hcs : cells + 2 ≤ room_1.cells ∧ slots + 522 ≤ room_1.slots) (hl : lv_has ls 4 [(0, .ref b), (1, .ref (ad 0)), (2, .ref (ad 24)), (3, .int (nI i))]) (hWO : sy_WO wd ad ns st (lw_A s) H) (hR : Rel ns st) (hS : va_S (lw_A s) s.heap H locs) (kk : ∀ (ns' : Nat) (ad' : Nat → Nat) (st' : sy_S) (H' : Heap) (locs' : List Loc), ad' 0 = ad 0 → ad' 24 = ad 24 → sy_WO wd ad' ns' st' (lw_A s) H' → Rel ns' st' → va_S (lw_A s) s.heap H' locs' → W p l e room_1 s m #[Value.ref b] below meth c H' locs' (cells + 2) (slots + 522) Q (F0 m 1001 ls [])) : W p l e room_1 s m #[Value.ref b] below meth c H locs (cells) (slots) Q (F0 m 878 ls []) := by
  have S0 := lw_fix C0
  obtain ⟨⟨hx, hb, hr, hml, hown, hts, hX, hbl, hlocks, hgv⟩, hK, hKK⟩ := id C0
  have hA : ∀ q : Nat, s.heap.size ≤ q → lw_A s q := fun _ h => h
  have hc0 : cells ≤ room_1.cells ∧ slots ≤ room_1.slots := ⟨by omega, by omega⟩
  refine lv_aload_n hx hb dL_878 rfl (lv_at hl 1 rfl) ?_
  refine lw_arg C0 hS hl hi hL (k := 1) (by decide) (by decide) dL_879 dL_880 dL_881 dL_882 dL_883 ?_
  refine lw_arg C0 hS hl hi hL (k := 2) (by decide) (by decide) dL_884 dL_885 dL_886 dL_887 dL_888 ?_
  refine sq_V (ci := 8) (b := 0) (as' := [.inl (true, (xs (i + 1)).toInt), .inl (true, (xs (i + 2)).toInt)]) (rest := []) S0 hKK hA (mc_8_ring l) ⟨jw_8_ring.1, jw_8_ring.2.1, jw_8_ring.2.2, ⟨by decide, by decide⟩, rfl, rfl⟩ (sy_inx 712 (by decide +kernel) (by decide +kernel)) ji_8_ring rfl ⟨_, rfl, rfl⟩ (lw_ok (by omega) [xs (i + 1), xs (i + 2)]) rfl (pi_ring (pr_ring hR _ _)) rfl (Nat.le_of_ble_eq_true rfl) hc0 hl.1 dL_889 hWO hS (fun r st1 H locs hp _ hWO hS => ?_)
  obtain ⟨⟨z, rfl⟩, hp⟩ := hp
  refine lv_aload_n hx hb dL_892 rfl (lv_at hl 2 rfl) ?_
  refine lw_arg C0 hS hl hi hL (k := 1) (by decide) (by decide) dL_893 dL_894 dL_895 dL_896 dL_897 ?_
  refine lw_arg C0 hS hl hi hL (k := 2) (by decide) (by decide) dL_898 dL_899 dL_900 dL_901 dL_902 ?_
  refine sq_V (ci := 9) (b := 24) (as' := [.inl (true, (xs (i + 1)).toInt), .inl (true, (xs (i + 2)).toInt)]) (rest := [.long (Int64.ofInt z)]) S0 hKK hA (mc_9_ring l) ⟨jw_9_ring.1, jw_9_ring.2.1, jw_9_ring.2.2, ⟨by decide, by decide⟩, rfl, rfl⟩ (sy_inx 1026 (by decide +kernel) (by decide +kernel)) ji_9_ring rfl ⟨_, rfl, rfl⟩ (lw_ok (by omega) [xs (i + 1), xs (i + 2)]) rfl hp rfl (Nat.le_of_ble_eq_true rfl) hc0 hl.1 dL_903 hWO hS (fun r st2 H locs hp _ hWO hS => ?_)
  obtain ⟨rfl, hR2⟩ := hp
  refine W.lcmp hx hb dL_906 ?_
  refine lv_if_eq hx hb dL_907 (tgt := 1001) (by decide) (fun _ => ?_) (fun c9 => absurd (lw_cmp _) c9)
  exact W.widen (by omega) (by omega) (kk ns ad st2 H locs rfl rfl hWO hR2 hS)
theorem jw_8_plan : Cond.code y_8_plan c_8_plan 4 (some .int) ∈ sy_tb ∧ Cond.initialized y_8_plan.cls ∈ sy_tb ∧ (y_8_plan.cls ≠ "java/lang/invoke/MethodHandle" ∧ y_8_plan.cls ≠ "java/lang/invoke/VarHandle" ∧ (parseMethodDescriptor y_8_plan.desc).map (fun d => d.parameters.length) = some 3) := ⟨sy_inx 740 (by decide +kernel) (by decide +kernel), sy_inx 44 (by decide +kernel) (by decide +kernel), by decide +kernel⟩
theorem ji_8_plan : Cond.instanceMethod y_8_plan ∈ sy_tb ∧ Cond.selects y_8_plan.cls y_8_plan y_8_plan ∈ sy_tb := ⟨sy_inx 738 (by decide +kernel) (by decide +kernel), sy_inx 739 (by decide +kernel) (by decide +kernel)⟩
theorem jw_9_plan : Cond.code y_9_plan c_9_plan 9 (some .int) ∈ sy_tb ∧ Cond.initialized y_9_plan.cls ∈ sy_tb ∧ (y_9_plan.cls ≠ "java/lang/invoke/MethodHandle" ∧ y_9_plan.cls ≠ "java/lang/invoke/VarHandle" ∧ (parseMethodDescriptor y_9_plan.desc).map (fun d => d.parameters.length) = some 3) := ⟨sy_inx 1035 (by decide +kernel) (by decide +kernel), sy_inx 53 (by decide +kernel) (by decide +kernel), by decide +kernel⟩
theorem ji_9_plan : Cond.instanceMethod y_9_plan ∈ sy_tb ∧ Cond.selects y_9_plan.cls y_9_plan y_9_plan ∈ sy_tb := ⟨sy_inx 1033 (by decide +kernel) (by decide +kernel), sy_inx 1034 (by decide +kernel) (by decide +kernel)⟩
set_option maxHeartbeats 4000000 in
set_option maxRecDepth 100000 in
theorem lc_plan (l : Launch) (C0 : lw_C p s m meth c b L xs wd) (hL : L ≤ 3072) (hi : i + 5 < L) (hcs : cells + 2 ≤ room_1.cells ∧ slots + 522 ≤ room_1.slots) (hl : lv_has ls 4 [(0, .ref b), (1, .ref (ad 0)), (2, .ref (ad 24)), (3, .int (nI i))]) (hWO : sy_WO wd ad ns st (lw_A s) H) (hR : Rel ns st) (hS : va_S (lw_A s) s.heap H locs) (kk : ∀ (ns' : Nat) (ad' : Nat → Nat) (st' : sy_S) (H' : Heap) (locs' : List Loc), ad' 0 = ad 0 → ad' 24 = ad 24 → sy_WO wd ad' ns' st' (lw_A s) H' → Rel ns' st' → va_S (lw_A s) s.heap H' locs' → W p l e room_1 s m #[Value.ref b] below meth c H' locs' (cells + 2) (slots + 522) Q (F0 m 1001 ls [])) : W p l e room_1 s m #[Value.ref b] below meth c H locs (cells) (slots) Q (F0 m 912 ls []) := by
  have S0 := lw_fix C0
  obtain ⟨⟨hx, hb, hr, hml, hown, hts, hX, hbl, hlocks, hgv⟩, hK, hKK⟩ := id C0
  have hA : ∀ q : Nat, s.heap.size ≤ q → lw_A s q := fun _ h => h
  have hc0 : cells ≤ room_1.cells ∧ slots ≤ room_1.slots := ⟨by omega, by omega⟩
  refine lv_aload_n hx hb dL_912 rfl (lv_at hl 1 rfl) ?_
  refine lw_arg C0 hS hl hi hL (k := 1) (by decide) (by decide) dL_913 dL_914 dL_915 dL_916 dL_917 ?_
  refine lw_arg C0 hS hl hi hL (k := 2) (by decide) (by decide) dL_918 dL_919 dL_920 dL_921 dL_922 ?_
  refine lw_arg C0 hS hl hi hL (k := 3) (by decide) (by decide) dL_923 dL_924 dL_925 dL_926 dL_927 ?_
  refine sq_V (ci := 8) (b := 0) (as' := [.inl (true, (xs (i + 1)).toInt), .inl (true, (xs (i + 2)).toInt), .inl (true, (xs (i + 3)).toInt)]) (rest := []) S0 hKK hA (mc_8_plan l) ⟨jw_8_plan.1, jw_8_plan.2.1, jw_8_plan.2.2, ⟨by decide, by decide⟩, rfl, rfl⟩ (sy_inx 737 (by decide +kernel) (by decide +kernel)) ji_8_plan rfl ⟨_, rfl, rfl⟩ (lw_ok (by omega) [xs (i + 1), xs (i + 2), xs (i + 3)]) rfl (pi_plan (pr_plan hR _ _ _)) rfl (Nat.le_of_ble_eq_true rfl) hc0 hl.1 dL_928 hWO hS (fun r st1 H locs hp _ hWO hS => ?_)
  obtain ⟨⟨z, rfl⟩, hp⟩ := hp
  refine lv_aload_n hx hb dL_931 rfl (lv_at hl 2 rfl) ?_
  refine lw_arg C0 hS hl hi hL (k := 1) (by decide) (by decide) dL_932 dL_933 dL_934 dL_935 dL_936 ?_
  refine lw_arg C0 hS hl hi hL (k := 2) (by decide) (by decide) dL_937 dL_938 dL_939 dL_940 dL_941 ?_
  refine lw_arg C0 hS hl hi hL (k := 3) (by decide) (by decide) dL_942 dL_943 dL_944 dL_945 dL_946 ?_
  refine sq_V (ci := 9) (b := 24) (as' := [.inl (true, (xs (i + 1)).toInt), .inl (true, (xs (i + 2)).toInt), .inl (true, (xs (i + 3)).toInt)]) (rest := [.int (Int32.ofInt z)]) S0 hKK hA (mc_9_plan l) ⟨jw_9_plan.1, jw_9_plan.2.1, jw_9_plan.2.2, ⟨by decide, by decide⟩, rfl, rfl⟩ (sy_inx 1032 (by decide +kernel) (by decide +kernel)) ji_9_plan rfl ⟨_, rfl, rfl⟩ (lw_ok (by omega) [xs (i + 1), xs (i + 2), xs (i + 3)]) rfl hp rfl (Nat.le_of_ble_eq_true rfl) hc0 hl.1 dL_947 hWO hS (fun r st2 H locs hp _ hWO hS => ?_)
  obtain ⟨rfl, hR2⟩ := hp
  refine lv_icmp_eq hx hb dL_950 (tgt := 1001) (by decide) (fun _ => ?_) (fun c9 => absurd rfl c9)
  exact W.widen (by omega) (by omega) (kk ns ad st2 H locs rfl rfl hWO hR2 hS)
theorem jw_8_planned : Cond.code y_8_planned c_8_planned 2 (some .int) ∈ sy_tb ∧ Cond.initialized y_8_planned.cls ∈ sy_tb ∧ (y_8_planned.cls ≠ "java/lang/invoke/MethodHandle" ∧ y_8_planned.cls ≠ "java/lang/invoke/VarHandle" ∧ (parseMethodDescriptor y_8_planned.desc).map (fun d => d.parameters.length) = some 1) := ⟨sy_inx 777 (by decide +kernel) (by decide +kernel), sy_inx 44 (by decide +kernel) (by decide +kernel), by decide +kernel⟩
theorem ji_8_planned : Cond.instanceMethod y_8_planned ∈ sy_tb ∧ Cond.selects y_8_planned.cls y_8_planned y_8_planned ∈ sy_tb := ⟨sy_inx 775 (by decide +kernel) (by decide +kernel), sy_inx 776 (by decide +kernel) (by decide +kernel)⟩
theorem jw_9_planned : Cond.code y_9_planned c_9_planned 2 (some .int) ∈ sy_tb ∧ Cond.initialized y_9_planned.cls ∈ sy_tb ∧ (y_9_planned.cls ≠ "java/lang/invoke/MethodHandle" ∧ y_9_planned.cls ≠ "java/lang/invoke/VarHandle" ∧ (parseMethodDescriptor y_9_planned.desc).map (fun d => d.parameters.length) = some 1) := ⟨sy_inx 1043 (by decide +kernel) (by decide +kernel), sy_inx 53 (by decide +kernel) (by decide +kernel), by decide +kernel⟩
theorem ji_9_planned : Cond.instanceMethod y_9_planned ∈ sy_tb ∧ Cond.selects y_9_planned.cls y_9_planned y_9_planned ∈ sy_tb := ⟨sy_inx 1041 (by decide +kernel) (by decide +kernel), sy_inx 1042 (by decide +kernel) (by decide +kernel)⟩
set_option maxHeartbeats 4000000 in
set_option maxRecDepth 100000 in
theorem lc_planned (l : Launch) (C0 : lw_C p s m meth c b L xs wd) (hL : L ≤ 3072) (hi : i + 5 < L) (hcs : cells + 2 ≤ room_1.cells ∧ slots + 522 ≤ room_1.slots) (hl : lv_has ls 4 [(0, .ref b), (1, .ref (ad 0)), (2, .ref (ad 24)), (3, .int (nI i))]) (hWO : sy_WO wd ad ns st (lw_A s) H) (hR : Rel ns st) (hS : va_S (lw_A s) s.heap H locs) (kk : ∀ (ns' : Nat) (ad' : Nat → Nat) (st' : sy_S) (H' : Heap) (locs' : List Loc), ad' 0 = ad 0 → ad' 24 = ad 24 → sy_WO wd ad' ns' st' (lw_A s) H' → Rel ns' st' → va_S (lw_A s) s.heap H' locs' → W p l e room_1 s m #[Value.ref b] below meth c H' locs' (cells + 2) (slots + 522) Q (F0 m 1001 ls [])) : W p l e room_1 s m #[Value.ref b] below meth c H locs (cells) (slots) Q (F0 m 955 ls []) := by
  have S0 := lw_fix C0
  obtain ⟨⟨hx, hb, hr, hml, hown, hts, hX, hbl, hlocks, hgv⟩, hK, hKK⟩ := id C0
  have hA : ∀ q : Nat, s.heap.size ≤ q → lw_A s q := fun _ h => h
  have hc0 : cells ≤ room_1.cells ∧ slots ≤ room_1.slots := ⟨by omega, by omega⟩
  refine lv_aload_n hx hb dL_955 rfl (lv_at hl 1 rfl) ?_
  refine lw_arg C0 hS hl hi hL (k := 1) (by decide) (by decide) dL_956 dL_957 dL_958 dL_959 dL_960 ?_
  refine sq_V (ci := 8) (b := 0) (as' := [.inl (true, (xs (i + 1)).toInt)]) (rest := []) S0 hKK hA (mc_8_planned l) ⟨jw_8_planned.1, jw_8_planned.2.1, jw_8_planned.2.2, ⟨by decide, by decide⟩, rfl, rfl⟩ (sy_inx 774 (by decide +kernel) (by decide +kernel)) ji_8_planned rfl ⟨_, rfl, rfl⟩ (lw_ok (by omega) [xs (i + 1)]) rfl (pi_planned (pr_planned hR _)) rfl (Nat.le_of_ble_eq_true rfl) hc0 hl.1 dL_961 hWO hS (fun r st1 H locs hp _ hWO hS => ?_)
  obtain ⟨⟨z, rfl⟩, hp⟩ := hp
  refine lv_aload_n hx hb dL_964 rfl (lv_at hl 2 rfl) ?_
  refine lw_arg C0 hS hl hi hL (k := 1) (by decide) (by decide) dL_965 dL_966 dL_967 dL_968 dL_969 ?_
  refine sq_V (ci := 9) (b := 24) (as' := [.inl (true, (xs (i + 1)).toInt)]) (rest := [.int (Int32.ofInt z)]) S0 hKK hA (mc_9_planned l) ⟨jw_9_planned.1, jw_9_planned.2.1, jw_9_planned.2.2, ⟨by decide, by decide⟩, rfl, rfl⟩ (sy_inx 1040 (by decide +kernel) (by decide +kernel)) ji_9_planned rfl ⟨_, rfl, rfl⟩ (lw_ok (by omega) [xs (i + 1)]) rfl hp rfl (Nat.le_of_ble_eq_true rfl) hc0 hl.1 dL_970 hWO hS (fun r st2 H locs hp _ hWO hS => ?_)
  obtain ⟨rfl, hR2⟩ := hp
  refine lv_icmp_eq hx hb dL_973 (tgt := 1001) (by decide) (fun _ => ?_) (fun c9 => absurd rfl c9)
  exact W.widen (by omega) (by omega) (kk ns ad st2 H locs rfl rfl hWO hR2 hS)
theorem jw_8_all : Cond.code y_8_all c_8_all 2 (some .int) ∈ sy_tb ∧ Cond.initialized y_8_all.cls ∈ sy_tb ∧ (y_8_all.cls ≠ "java/lang/invoke/MethodHandle" ∧ y_8_all.cls ≠ "java/lang/invoke/VarHandle" ∧ (parseMethodDescriptor y_8_all.desc).map (fun d => d.parameters.length) = some 1) := ⟨sy_inx 785 (by decide +kernel) (by decide +kernel), sy_inx 44 (by decide +kernel) (by decide +kernel), by decide +kernel⟩
theorem ji_8_all : Cond.instanceMethod y_8_all ∈ sy_tb ∧ Cond.selects y_8_all.cls y_8_all y_8_all ∈ sy_tb := ⟨sy_inx 783 (by decide +kernel) (by decide +kernel), sy_inx 784 (by decide +kernel) (by decide +kernel)⟩
theorem jw_9_all : Cond.code y_9_all c_9_all 4 (some .int) ∈ sy_tb ∧ Cond.initialized y_9_all.cls ∈ sy_tb ∧ (y_9_all.cls ≠ "java/lang/invoke/MethodHandle" ∧ y_9_all.cls ≠ "java/lang/invoke/VarHandle" ∧ (parseMethodDescriptor y_9_all.desc).map (fun d => d.parameters.length) = some 1) := ⟨sy_inx 1047 (by decide +kernel) (by decide +kernel), sy_inx 53 (by decide +kernel) (by decide +kernel), by decide +kernel⟩
theorem ji_9_all : Cond.instanceMethod y_9_all ∈ sy_tb ∧ Cond.selects y_9_all.cls y_9_all y_9_all ∈ sy_tb := ⟨sy_inx 1045 (by decide +kernel) (by decide +kernel), sy_inx 1046 (by decide +kernel) (by decide +kernel)⟩
set_option maxHeartbeats 4000000 in
set_option maxRecDepth 100000 in
theorem lc_all (l : Launch) (C0 : lw_C p s m meth c b L xs wd) (hL : L ≤ 3072) (hi : i + 5 < L) (hcs : cells + 2 ≤ room_1.cells ∧ slots + 522 ≤ room_1.slots) (hl : lv_has ls 4 [(0, .ref b), (1, .ref (ad 0)), (2, .ref (ad 24)), (3, .int (nI i))]) (hWO : sy_WO wd ad ns st (lw_A s) H) (hR : Rel ns st) (hS : va_S (lw_A s) s.heap H locs) (kk : ∀ (ns' : Nat) (ad' : Nat → Nat) (st' : sy_S) (H' : Heap) (locs' : List Loc), ad' 0 = ad 0 → ad' 24 = ad 24 → sy_WO wd ad' ns' st' (lw_A s) H' → Rel ns' st' → va_S (lw_A s) s.heap H' locs' → W p l e room_1 s m #[Value.ref b] below meth c H' locs' (cells + 2) (slots + 522) Q (F0 m 1001 ls [])) : W p l e room_1 s m #[Value.ref b] below meth c H locs (cells) (slots) Q (F0 m 978 ls []) := by
  have S0 := lw_fix C0
  obtain ⟨⟨hx, hb, hr, hml, hown, hts, hX, hbl, hlocks, hgv⟩, hK, hKK⟩ := id C0
  have hA : ∀ q : Nat, s.heap.size ≤ q → lw_A s q := fun _ h => h
  have hc0 : cells ≤ room_1.cells ∧ slots ≤ room_1.slots := ⟨by omega, by omega⟩
  refine lv_aload_n hx hb dL_978 rfl (lv_at hl 1 rfl) ?_
  refine lw_arg C0 hS hl hi hL (k := 1) (by decide) (by decide) dL_979 dL_980 dL_981 dL_982 dL_983 ?_
  refine sq_V (ci := 8) (b := 0) (as' := [.inl (true, (xs (i + 1)).toInt)]) (rest := []) S0 hKK hA (mc_8_all l) ⟨jw_8_all.1, jw_8_all.2.1, jw_8_all.2.2, ⟨by decide, by decide⟩, rfl, rfl⟩ (sy_inx 782 (by decide +kernel) (by decide +kernel)) ji_8_all rfl ⟨_, rfl, rfl⟩ (lw_ok (by omega) [xs (i + 1)]) rfl (pi_all (pr_all hR _)) rfl (Nat.le_of_ble_eq_true rfl) hc0 hl.1 dL_984 hWO hS (fun r st1 H locs hp _ hWO hS => ?_)
  obtain ⟨⟨z, rfl⟩, hp⟩ := hp
  refine lv_aload_n hx hb dL_987 rfl (lv_at hl 2 rfl) ?_
  refine lw_arg C0 hS hl hi hL (k := 1) (by decide) (by decide) dL_988 dL_989 dL_990 dL_991 dL_992 ?_
  refine sq_V (ci := 9) (b := 24) (as' := [.inl (true, (xs (i + 1)).toInt)]) (rest := [.int (Int32.ofInt z)]) S0 hKK hA (mc_9_all l) ⟨jw_9_all.1, jw_9_all.2.1, jw_9_all.2.2, ⟨by decide, by decide⟩, rfl, rfl⟩ (sy_inx 1044 (by decide +kernel) (by decide +kernel)) ji_9_all rfl ⟨_, rfl, rfl⟩ (lw_ok (by omega) [xs (i + 1)]) rfl hp rfl (Nat.le_of_ble_eq_true rfl) hc0 hl.1 dL_993 hWO hS (fun r st2 H locs hp _ hWO hS => ?_)
  obtain ⟨rfl, hR2⟩ := hp
  refine lv_icmp_eq hx hb dL_996 (tgt := 1001) (by decide) (fun _ => ?_) (fun c9 => absurd rfl c9)
  exact W.widen (by omega) (by omega) (kk ns ad st2 H locs rfl rfl hWO hR2 hS)
end LC
