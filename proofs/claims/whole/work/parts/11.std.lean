theorem sx_rit {z : Int} : sy_ri true z = True := rfl
theorem sx_rif {z : Int} : sy_ri false z = (-2147483648 ≤ z ∧ z < 2147483648) := rfl
theorem sx_rlt {z : Int} : sy_rl true z = True := rfl
theorem sx_rlf {z : Int} : sy_rl false z = (-9223372036854775808 ≤ z ∧ z < 9223372036854775808) := rfl
theorem sx_b0 {z : Int} : sy_b01 false z = True := rfl
theorem sx_b1 {z : Int} : sy_b01 true z = (z = 0 ∨ z = 1) := rfl
theorem sx_o0 {a : sy_V} {r : List sy_V} {v : sy_V} : sy_sto (a :: r) 0 v = v :: r := rfl
theorem sx_o1i {a : Bool × Int} {r : List sy_V} {v : sy_V} : sy_sto (.inl a :: r) 1 v = .inl a :: sy_sto r 0 v := rfl
theorem sx_o1a {a : Option (Option Nat)} {r : List sy_V} {v : sy_V} : sy_sto (.inr (.inr a) :: r) 1 v = .inr (.inr a) :: sy_sto r 0 v := rfl
theorem sx_o1l {a : Bool × Int} {r : List sy_V} {v : sy_V} : sy_sto (.inr (.inl a) :: r) 1 v = .inr (.inr none) :: sy_sto r 0 v := rfl
theorem sx_o2 {a : sy_V} {r : List sy_V} {v : sy_V} {i : Nat} : sy_sto (a :: r) (i + 2) v = a :: sy_sto r (i + 1) v := rfl
theorem sx_g0 {a : sy_V} {r : List sy_V} : sy_gone (a :: r) 0 = .inr (.inr none) :: r := rfl
theorem sx_g1 {a : sy_V} {r : List sy_V} {i : Nat} : sy_gone (a :: r) (i + 1) = a :: sy_gone r i := rfl
theorem sx_k1 {a : Bool × Int} : sy_kn (.inl a) = .inl (true, a.2) := rfl
theorem sx_k2 {a : Bool × Int} : sy_kn (.inr (.inl a)) = .inr (.inl (true, a.2)) := rfl
theorem sx_k3 {a : Option (Option Nat)} : sy_kn (.inr (.inr a)) = .inr (.inr a) := rfl
theorem sx_f1 {b : Bool} {z : Int} : sy_fit (.inl (b, z)) = sy_ri b z := rfl
theorem sx_f2 {b : Bool} {z : Int} : sy_fit (.inr (.inl (b, z))) = sy_rl b z := rfl
theorem sx_f3 {a : Option Nat} : sy_fit (.inr (.inr (some a))) = True := rfl
theorem sx_w0 : sy_wd [] = 0 := rfl
theorem sx_w1 {a : Bool × Int} {r : List sy_V} : sy_wd (.inl a :: r) = 1 + sy_wd r := rfl
theorem sx_w2 {a : Bool × Int} {r : List sy_V} : sy_wd (.inr (.inl a) :: r) = 2 + sy_wd r := rfl
theorem sx_w3 {a : Option (Option Nat)} {r : List sy_V} : sy_wd (.inr (.inr a) :: r) = 1 + sy_wd r := rfl
theorem sx_ts {v : sy_V} {r : List sy_V} : (some v).toList ++ r = v :: r := rfl
theorem sx_tn {r : List sy_V} : (none : Option sy_V).toList ++ r = r := rfl
theorem sx_up {s : sy_S} {a k b j : Nat} {z : Int} : sy_up s a k z b j = if b = a ∧ j = k then z else s b j := rfl
theorem sx_nS1 {i k : Nat} (h : k < 37) : (sy_nS i = k) = False := eq_false (by unfold sy_nS; omega)
theorem sx_nS2 {i k : Nat} (h : k < 37) : (k = sy_nS i) = False := eq_false (by unfold sy_nS; omega)
theorem sx_nW1 {i k : Nat} (h : k < 37) : (sy_nW i = k) = False := eq_false (by unfold sy_nW; omega)
theorem sx_nW2 {i k : Nat} (h : k < 37) : (k = sy_nW i) = False := eq_false (by unfold sy_nW; omega)
theorem sx_SW {i j : Nat} : (sy_nS i = sy_nW j) = False := eq_false (sy_nS_nW i j)
theorem sx_WS {i j : Nat} : (sy_nW i = sy_nS j) = False := eq_false (sy_nW_nS i j)
theorem sy_inx {w : Cond} (i : Nat) (h : lw_tbl[i]? = some w) (g : goodWord w = true) : w ∈ sy_tb := List.mem_filter.mpr ⟨List.mem_of_getElem? h, g⟩
theorem sx_call0 {b : Bool} {sp : sy_Sp} {r : List sy_V} {s : sy_S} {f : List sy_V → sy_S → Prop} : sy_call b (some (b, 0, sp)) (r) s f = (sy_wd r ≤ 8 ∧ (True) ∧ sp [] s (fun q t => f (q.toList ++ r) t)) := by
  simp [sy_call]
theorem sx_call1 {b : Bool} {sp : sy_Sp} {v1 : sy_V} {r : List sy_V} {s : sy_S} {f : List sy_V → sy_S → Prop} : sy_call b (some (b, 1, sp)) (v1 :: r) s f = (sy_wd r ≤ 8 ∧ (sy_fit v1) ∧ sp [sy_kn v1] s (fun q t => f (q.toList ++ r) t)) := by
  simp [sy_call]
theorem sx_call2 {b : Bool} {sp : sy_Sp} {v1 v2 : sy_V} {r : List sy_V} {s : sy_S} {f : List sy_V → sy_S → Prop} : sy_call b (some (b, 2, sp)) (v2 :: v1 :: r) s f = (sy_wd r ≤ 8 ∧ (sy_fit v2 ∧ sy_fit v1) ∧ sp [sy_kn v1, sy_kn v2] s (fun q t => f (q.toList ++ r) t)) := by
  simp [sy_call]
theorem sx_call3 {b : Bool} {sp : sy_Sp} {v1 v2 v3 : sy_V} {r : List sy_V} {s : sy_S} {f : List sy_V → sy_S → Prop} : sy_call b (some (b, 3, sp)) (v3 :: v2 :: v1 :: r) s f = (sy_wd r ≤ 8 ∧ (sy_fit v3 ∧ sy_fit v2 ∧ sy_fit v1) ∧ sp [sy_kn v1, sy_kn v2, sy_kn v3] s (fun q t => f (q.toList ++ r) t)) := by
  simp [sy_call]
theorem sx_call4 {b : Bool} {sp : sy_Sp} {v1 v2 v3 v4 : sy_V} {r : List sy_V} {s : sy_S} {f : List sy_V → sy_S → Prop} : sy_call b (some (b, 4, sp)) (v4 :: v3 :: v2 :: v1 :: r) s f = (sy_wd r ≤ 8 ∧ (sy_fit v4 ∧ sy_fit v3 ∧ sy_fit v2 ∧ sy_fit v1) ∧ sp [sy_kn v1, sy_kn v2, sy_kn v3, sy_kn v4] s (fun q t => f (q.toList ++ r) t)) := by
  simp [sy_call]
theorem sx_call5 {b : Bool} {sp : sy_Sp} {v1 v2 v3 v4 v5 : sy_V} {r : List sy_V} {s : sy_S} {f : List sy_V → sy_S → Prop} : sy_call b (some (b, 5, sp)) (v5 :: v4 :: v3 :: v2 :: v1 :: r) s f = (sy_wd r ≤ 8 ∧ (sy_fit v5 ∧ sy_fit v4 ∧ sy_fit v3 ∧ sy_fit v2 ∧ sy_fit v1) ∧ sp [sy_kn v1, sy_kn v2, sy_kn v3, sy_kn v4, sy_kn v5] s (fun q t => f (q.toList ++ r) t)) := by
  simp [sy_call]
theorem sx_call6 {b : Bool} {sp : sy_Sp} {v1 v2 v3 v4 v5 v6 : sy_V} {r : List sy_V} {s : sy_S} {f : List sy_V → sy_S → Prop} : sy_call b (some (b, 6, sp)) (v6 :: v5 :: v4 :: v3 :: v2 :: v1 :: r) s f = (sy_wd r ≤ 8 ∧ (sy_fit v6 ∧ sy_fit v5 ∧ sy_fit v4 ∧ sy_fit v3 ∧ sy_fit v2 ∧ sy_fit v1) ∧ sp [sy_kn v1, sy_kn v2, sy_kn v3, sy_kn v4, sy_kn v5, sy_kn v6] s (fun q t => f (q.toList ++ r) t)) := by
  simp [sy_call]
theorem sx_call7 {b : Bool} {sp : sy_Sp} {v1 v2 v3 v4 v5 v6 v7 : sy_V} {r : List sy_V} {s : sy_S} {f : List sy_V → sy_S → Prop} : sy_call b (some (b, 7, sp)) (v7 :: v6 :: v5 :: v4 :: v3 :: v2 :: v1 :: r) s f = (sy_wd r ≤ 8 ∧ (sy_fit v7 ∧ sy_fit v6 ∧ sy_fit v5 ∧ sy_fit v4 ∧ sy_fit v3 ∧ sy_fit v2 ∧ sy_fit v1) ∧ sp [sy_kn v1, sy_kn v2, sy_kn v3, sy_kn v4, sy_kn v5, sy_kn v6, sy_kn v7] s (fun q t => f (q.toList ++ r) t)) := by
  simp [sy_call]
theorem sx_s1 {f : Int → sy_S → sy_R → Prop} {c1 : Bool} {x1 : Int} {st : sy_S} {post : sy_R} : sy_s1 f [.inl (c1, x1)] st post = f x1 st post := rfl
theorem sx_s2 {f : Int → Int → sy_S → sy_R → Prop} {c1 c2 : Bool} {x1 x2 : Int} {st : sy_S} {post : sy_R} : sy_s2 f [.inl (c1, x1), .inl (c2, x2)] st post = f x1 x2 st post := rfl
theorem sx_s3 {f : Int → Int → Int → sy_S → sy_R → Prop} {c1 c2 c3 : Bool} {x1 x2 x3 : Int} {st : sy_S} {post : sy_R} : sy_s3 f [.inl (c1, x1), .inl (c2, x2), .inl (c3, x3)] st post = f x1 x2 x3 st post := rfl
theorem sx_s4 {f : Int → Int → Int → Int → sy_S → sy_R → Prop} {c1 c2 c3 c4 : Bool} {x1 x2 x3 x4 : Int} {st : sy_S} {post : sy_R} : sy_s4 f [.inl (c1, x1), .inl (c2, x2), .inl (c3, x3), .inl (c4, x4)] st post = f x1 x2 x3 x4 st post := rfl
theorem sx_s5 {f : Int → Int → Int → Int → Int → sy_S → sy_R → Prop} {c1 c2 c3 c4 c5 : Bool} {x1 x2 x3 x4 x5 : Int} {st : sy_S} {post : sy_R} : sy_s5 f [.inl (c1, x1), .inl (c2, x2), .inl (c3, x3), .inl (c4, x4), .inl (c5, x5)] st post = f x1 x2 x3 x4 x5 st post := rfl
theorem sx_s6 {f : Int → Int → Int → Int → Int → Int → sy_S → sy_R → Prop} {c1 c2 c3 c4 c5 c6 : Bool} {x1 x2 x3 x4 x5 x6 : Int} {st : sy_S} {post : sy_R} : sy_s6 f [.inl (c1, x1), .inl (c2, x2), .inl (c3, x3), .inl (c4, x4), .inl (c5, x5), .inl (c6, x6)] st post = f x1 x2 x3 x4 x5 x6 st post := rfl
theorem sx_m0 {a b : Nat} {f : sy_S → sy_R → Prop} {st : sy_S} {post : sy_R} : sy_m0 a f [.inr (.inr (some (some b)))] st post = (b = a ∧ f st post) := rfl
theorem sx_m1 {a b : Nat} {f : Int → sy_S → sy_R → Prop} {c1 : Bool} {x1 : Int} {st : sy_S} {post : sy_R} : sy_m1 a f [.inr (.inr (some (some b))), .inl (c1, x1)] st post = (b = a ∧ f x1 st post) := rfl
theorem sx_m2 {a b : Nat} {f : Int → Int → sy_S → sy_R → Prop} {c1 c2 : Bool} {x1 x2 : Int} {st : sy_S} {post : sy_R} : sy_m2 a f [.inr (.inr (some (some b))), .inl (c1, x1), .inl (c2, x2)] st post = (b = a ∧ f x1 x2 st post) := rfl
theorem sx_m3 {a b : Nat} {f : Int → Int → Int → sy_S → sy_R → Prop} {c1 c2 c3 : Bool} {x1 x2 x3 : Int} {st : sy_S} {post : sy_R} : sy_m3 a f [.inr (.inr (some (some b))), .inl (c1, x1), .inl (c2, x2), .inl (c3, x3)] st post = (b = a ∧ f x1 x2 x3 st post) := rfl
theorem sx_m4 {a b : Nat} {f : Int → Int → Int → Int → sy_S → sy_R → Prop} {c1 c2 c3 c4 : Bool} {x1 x2 x3 x4 : Int} {st : sy_S} {post : sy_R} : sy_m4 a f [.inr (.inr (some (some b))), .inl (c1, x1), .inl (c2, x2), .inl (c3, x3), .inl (c4, x4)] st post = (b = a ∧ f x1 x2 x3 x4 st post) := rfl
theorem sx_m5 {a b : Nat} {f : Int → Int → Int → Int → Int → sy_S → sy_R → Prop} {c1 c2 c3 c4 c5 : Bool} {x1 x2 x3 x4 x5 : Int} {st : sy_S} {post : sy_R} : sy_m5 a f [.inr (.inr (some (some b))), .inl (c1, x1), .inl (c2, x2), .inl (c3, x3), .inl (c4, x4), .inl (c5, x5)] st post = (b = a ∧ f x1 x2 x3 x4 x5 st post) := rfl
theorem sx_m6 {a b : Nat} {f : Int → Int → Int → Int → Int → Int → sy_S → sy_R → Prop} {c1 c2 c3 c4 c5 c6 : Bool} {x1 x2 x3 x4 x5 x6 : Int} {st : sy_S} {post : sy_R} : sy_m6 a f [.inr (.inr (some (some b))), .inl (c1, x1), .inl (c2, x2), .inl (c3, x3), .inl (c4, x4), .inl (c5, x5), .inl (c6, x6)] st post = (b = a ∧ f x1 x2 x3 x4 x5 x6 st post) := rfl
theorem sx_k0_ {ns i : Nat} {f : Nat → sy_S → sy_R → Prop} {st : sy_S} {post : sy_R} : sy_k0 ns f [.inr (.inr (some (some (sy_nS i))))] st post = (i < ns ∧ f i st post) := propext ⟨fun ⟨j, h1, h2, h3⟩ => by rw [(sy_nS_inj i j).mp h2]; exact ⟨h1, h3⟩, fun ⟨h1, h2⟩ => ⟨i, h1, rfl, h2⟩⟩
theorem sx_k1_ {ns i : Nat} {f : Nat → Int → sy_S → sy_R → Prop} {c1 : Bool} {x1 : Int} {st : sy_S} {post : sy_R} : sy_k1 ns f [.inr (.inr (some (some (sy_nS i)))), .inl (c1, x1)] st post = (i < ns ∧ f i x1 st post) := propext ⟨fun ⟨j, h1, h2, h3⟩ => by rw [(sy_nS_inj i j).mp h2]; exact ⟨h1, h3⟩, fun ⟨h1, h2⟩ => ⟨i, h1, rfl, h2⟩⟩
theorem sx_k2_ {ns i : Nat} {f : Nat → Int → Int → sy_S → sy_R → Prop} {c1 c2 : Bool} {x1 x2 : Int} {st : sy_S} {post : sy_R} : sy_k2 ns f [.inr (.inr (some (some (sy_nS i)))), .inl (c1, x1), .inl (c2, x2)] st post = (i < ns ∧ f i x1 x2 st post) := propext ⟨fun ⟨j, h1, h2, h3⟩ => by rw [(sy_nS_inj i j).mp h2]; exact ⟨h1, h3⟩, fun ⟨h1, h2⟩ => ⟨i, h1, rfl, h2⟩⟩
theorem sx_k3_ {ns i : Nat} {f : Nat → Int → Int → Int → sy_S → sy_R → Prop} {c1 c2 c3 : Bool} {x1 x2 x3 : Int} {st : sy_S} {post : sy_R} : sy_k3 ns f [.inr (.inr (some (some (sy_nS i)))), .inl (c1, x1), .inl (c2, x2), .inl (c3, x3)] st post = (i < ns ∧ f i x1 x2 x3 st post) := propext ⟨fun ⟨j, h1, h2, h3⟩ => by rw [(sy_nS_inj i j).mp h2]; exact ⟨h1, h3⟩, fun ⟨h1, h2⟩ => ⟨i, h1, rfl, h2⟩⟩
theorem sx_k4_ {ns i : Nat} {f : Nat → Int → Int → Int → Int → sy_S → sy_R → Prop} {c1 c2 c3 c4 : Bool} {x1 x2 x3 x4 : Int} {st : sy_S} {post : sy_R} : sy_k4 ns f [.inr (.inr (some (some (sy_nS i)))), .inl (c1, x1), .inl (c2, x2), .inl (c3, x3), .inl (c4, x4)] st post = (i < ns ∧ f i x1 x2 x3 x4 st post) := propext ⟨fun ⟨j, h1, h2, h3⟩ => by rw [(sy_nS_inj i j).mp h2]; exact ⟨h1, h3⟩, fun ⟨h1, h2⟩ => ⟨i, h1, rfl, h2⟩⟩
theorem sx_k5_ {ns i : Nat} {f : Nat → Int → Int → Int → Int → Int → sy_S → sy_R → Prop} {c1 c2 c3 c4 c5 : Bool} {x1 x2 x3 x4 x5 : Int} {st : sy_S} {post : sy_R} : sy_k5 ns f [.inr (.inr (some (some (sy_nS i)))), .inl (c1, x1), .inl (c2, x2), .inl (c3, x3), .inl (c4, x4), .inl (c5, x5)] st post = (i < ns ∧ f i x1 x2 x3 x4 x5 st post) := propext ⟨fun ⟨j, h1, h2, h3⟩ => by rw [(sy_nS_inj i j).mp h2]; exact ⟨h1, h3⟩, fun ⟨h1, h2⟩ => ⟨i, h1, rfl, h2⟩⟩
theorem sx_k6_ {ns i : Nat} {f : Nat → Int → Int → Int → Int → Int → Int → sy_S → sy_R → Prop} {c1 c2 c3 c4 c5 c6 : Bool} {x1 x2 x3 x4 x5 x6 : Int} {st : sy_S} {post : sy_R} : sy_k6 ns f [.inr (.inr (some (some (sy_nS i)))), .inl (c1, x1), .inl (c2, x2), .inl (c3, x3), .inl (c4, x4), .inl (c5, x5), .inl (c6, x6)] st post = (i < ns ∧ f i x1 x2 x3 x4 x5 x6 st post) := propext ⟨fun ⟨j, h1, h2, h3⟩ => by rw [(sy_nS_inj i j).mp h2]; exact ⟨h1, h3⟩, fun ⟨h1, h2⟩ => ⟨i, h1, rfl, h2⟩⟩
def sy_sLL (f : Int → Int → sy_S → sy_R → Prop) : sy_Sp := fun as st post => match as with
  | [.inr (.inl (_, x1)), .inr (.inl (_, x2))] => f x1 x2 st post
  | _ => False
theorem sy_sLL_e {f : Int → Int → sy_S → sy_R → Prop} {as : List sy_V} {st : sy_S} {post : sy_R} {N : Nat} (h : sy_sLL f as st post) (hok : ∀ v ∈ as, sy_ok N v ∧ sy_kn v = v ∧ sy_set v = true) : ∃ (x1 : Int) (x2 : Int), as = [.inr (.inl (true, x1)), .inr (.inl (true, x2))] ∧ sy_lR x1 ∧ sy_lR x2 ∧ f x1 x2 st post := by
  unfold sy_sLL at h
  split at h
  · rename_i b1 x1 b2 x2
    obtain ⟨o1, e1, -⟩ := hok (.inr (.inl (b1, x1))) (by simp)
    injection e1 with e1; injection e1 with e1; injection e1 with e1 _; subst e1
    obtain ⟨o2, e2, -⟩ := hok (.inr (.inl (b2, x2))) (by simp)
    injection e2 with e2; injection e2 with e2; injection e2 with e2 _; subst e2
    exact ⟨x1, x2, rfl, o1, o2, h⟩
  · exact h.elim
theorem sx_sLL {f : Int → Int → sy_S → sy_R → Prop} {c1 : Bool} {x1 : Int} {c2 : Bool} {x2 : Int} {st : sy_S} {post : sy_R} : sy_sLL f [.inr (.inl (c1, x1)), .inr (.inl (c2, x2))] st post = (f x1 x2 st post) := rfl
def sy_sAI (f : Nat → Int → sy_S → sy_R → Prop) : sy_Sp := fun as st post => match as with
  | [.inr (.inr (some (some x1))), .inl (_, x2)] => f x1 x2 st post
  | _ => False
theorem sy_sAI_e {f : Nat → Int → sy_S → sy_R → Prop} {as : List sy_V} {st : sy_S} {post : sy_R} {N : Nat} (h : sy_sAI f as st post) (hok : ∀ v ∈ as, sy_ok N v ∧ sy_kn v = v ∧ sy_set v = true) : ∃ (x1 : Nat) (x2 : Int), as = [.inr (.inr (some (some x1))), .inl (true, x2)] ∧ x1 < N ∧ sy_iR x2 ∧ f x1 x2 st post := by
  unfold sy_sAI at h
  split at h
  · rename_i x1 b2 x2
    obtain ⟨o1, -, -⟩ := hok (.inr (.inr (some (some x1)))) (by simp)
    obtain ⟨o2, e2, -⟩ := hok (.inl (b2, x2)) (by simp)
    injection e2 with e2; injection e2 with e2 _; subst e2
    exact ⟨x1, x2, rfl, o1, o2, h⟩
  · exact h.elim
theorem sx_sAI {f : Nat → Int → sy_S → sy_R → Prop} {x1 : Nat} {c2 : Bool} {x2 : Int} {st : sy_S} {post : sy_R} : sy_sAI f [.inr (.inr (some (some x1))), .inl (c2, x2)] st post = (f x1 x2 st post) := rfl
def sy_mLL (a : Nat) (f : Int → Int → sy_S → sy_R → Prop) : sy_Sp := fun as st post => match as with
  | [.inr (.inr (some (some b))), .inr (.inl (_, x1)), .inr (.inl (_, x2))] => b = a ∧ f x1 x2 st post
  | _ => False
theorem sy_mLL_e {a : Nat} {f : Int → Int → sy_S → sy_R → Prop} {as : List sy_V} {st : sy_S} {post : sy_R} {N : Nat} (h : sy_mLL a f as st post) (hok : ∀ v ∈ as, sy_ok N v ∧ sy_kn v = v ∧ sy_set v = true) : ∃ (x1 : Int) (x2 : Int), as = [.inr (.inr (some (some a))), .inr (.inl (true, x1)), .inr (.inl (true, x2))] ∧ sy_lR x1 ∧ sy_lR x2 ∧ f x1 x2 st post := by
  unfold sy_mLL at h
  split at h
  · rename_i b b1 x1 b2 x2
    obtain ⟨o1, e1, -⟩ := hok (.inr (.inl (b1, x1))) (by simp)
    injection e1 with e1; injection e1 with e1; injection e1 with e1 _; subst e1
    obtain ⟨o2, e2, -⟩ := hok (.inr (.inl (b2, x2))) (by simp)
    injection e2 with e2; injection e2 with e2; injection e2 with e2 _; subst e2
    obtain ⟨rfl, h⟩ := h
    exact ⟨x1, x2, rfl, o1, o2, h⟩
  · exact h.elim
theorem sx_mLL {a b : Nat} {f : Int → Int → sy_S → sy_R → Prop} {c1 : Bool} {x1 : Int} {c2 : Bool} {x2 : Int} {st : sy_S} {post : sy_R} : sy_mLL a f [.inr (.inr (some (some b))), .inr (.inl (c1, x1)), .inr (.inl (c2, x2))] st post = (b = a ∧ f x1 x2 st post) := rfl
theorem sy_mLL_r {a c : Nat} {f : Int → Int → sy_S → sy_R → Prop} (hc : sy_ob a = some c) (as : List sy_V) (st : sy_S) (post : sy_R) (h : sy_mLL a f as st post) : ∃ b as', as = .inr (.inr (some (some b))) :: as' ∧ sy_ob b = some c := by
  unfold sy_mLL at h
  split at h
  · obtain ⟨rfl, h⟩ := h
    exact ⟨_, _, rfl, hc⟩
  · exact h.elim
def sy_mIIL (a : Nat) (f : Int → Int → Int → sy_S → sy_R → Prop) : sy_Sp := fun as st post => match as with
  | [.inr (.inr (some (some b))), .inl (_, x1), .inl (_, x2), .inr (.inl (_, x3))] => b = a ∧ f x1 x2 x3 st post
  | _ => False
theorem sy_mIIL_e {a : Nat} {f : Int → Int → Int → sy_S → sy_R → Prop} {as : List sy_V} {st : sy_S} {post : sy_R} {N : Nat} (h : sy_mIIL a f as st post) (hok : ∀ v ∈ as, sy_ok N v ∧ sy_kn v = v ∧ sy_set v = true) : ∃ (x1 : Int) (x2 : Int) (x3 : Int), as = [.inr (.inr (some (some a))), .inl (true, x1), .inl (true, x2), .inr (.inl (true, x3))] ∧ sy_iR x1 ∧ sy_iR x2 ∧ sy_lR x3 ∧ f x1 x2 x3 st post := by
  unfold sy_mIIL at h
  split at h
  · rename_i b b1 x1 b2 x2 b3 x3
    obtain ⟨o1, e1, -⟩ := hok (.inl (b1, x1)) (by simp)
    injection e1 with e1; injection e1 with e1 _; subst e1
    obtain ⟨o2, e2, -⟩ := hok (.inl (b2, x2)) (by simp)
    injection e2 with e2; injection e2 with e2 _; subst e2
    obtain ⟨o3, e3, -⟩ := hok (.inr (.inl (b3, x3))) (by simp)
    injection e3 with e3; injection e3 with e3; injection e3 with e3 _; subst e3
    obtain ⟨rfl, h⟩ := h
    exact ⟨x1, x2, x3, rfl, o1, o2, o3, h⟩
  · exact h.elim
theorem sx_mIIL {a b : Nat} {f : Int → Int → Int → sy_S → sy_R → Prop} {c1 : Bool} {x1 : Int} {c2 : Bool} {x2 : Int} {c3 : Bool} {x3 : Int} {st : sy_S} {post : sy_R} : sy_mIIL a f [.inr (.inr (some (some b))), .inl (c1, x1), .inl (c2, x2), .inr (.inl (c3, x3))] st post = (b = a ∧ f x1 x2 x3 st post) := rfl
theorem sy_mIIL_r {a c : Nat} {f : Int → Int → Int → sy_S → sy_R → Prop} (hc : sy_ob a = some c) (as : List sy_V) (st : sy_S) (post : sy_R) (h : sy_mIIL a f as st post) : ∃ b as', as = .inr (.inr (some (some b))) :: as' ∧ sy_ob b = some c := by
  unfold sy_mIIL at h
  split at h
  · obtain ⟨rfl, h⟩ := h
    exact ⟨_, _, rfl, hc⟩
  · exact h.elim
def sy_mIILL (a : Nat) (f : Int → Int → Int → Int → sy_S → sy_R → Prop) : sy_Sp := fun as st post => match as with
  | [.inr (.inr (some (some b))), .inl (_, x1), .inl (_, x2), .inr (.inl (_, x3)), .inr (.inl (_, x4))] => b = a ∧ f x1 x2 x3 x4 st post
  | _ => False
theorem sy_mIILL_e {a : Nat} {f : Int → Int → Int → Int → sy_S → sy_R → Prop} {as : List sy_V} {st : sy_S} {post : sy_R} {N : Nat} (h : sy_mIILL a f as st post) (hok : ∀ v ∈ as, sy_ok N v ∧ sy_kn v = v ∧ sy_set v = true) : ∃ (x1 : Int) (x2 : Int) (x3 : Int) (x4 : Int), as = [.inr (.inr (some (some a))), .inl (true, x1), .inl (true, x2), .inr (.inl (true, x3)), .inr (.inl (true, x4))] ∧ sy_iR x1 ∧ sy_iR x2 ∧ sy_lR x3 ∧ sy_lR x4 ∧ f x1 x2 x3 x4 st post := by
  unfold sy_mIILL at h
  split at h
  · rename_i b b1 x1 b2 x2 b3 x3 b4 x4
    obtain ⟨o1, e1, -⟩ := hok (.inl (b1, x1)) (by simp)
    injection e1 with e1; injection e1 with e1 _; subst e1
    obtain ⟨o2, e2, -⟩ := hok (.inl (b2, x2)) (by simp)
    injection e2 with e2; injection e2 with e2 _; subst e2
    obtain ⟨o3, e3, -⟩ := hok (.inr (.inl (b3, x3))) (by simp)
    injection e3 with e3; injection e3 with e3; injection e3 with e3 _; subst e3
    obtain ⟨o4, e4, -⟩ := hok (.inr (.inl (b4, x4))) (by simp)
    injection e4 with e4; injection e4 with e4; injection e4 with e4 _; subst e4
    obtain ⟨rfl, h⟩ := h
    exact ⟨x1, x2, x3, x4, rfl, o1, o2, o3, o4, h⟩
  · exact h.elim
theorem sx_mIILL {a b : Nat} {f : Int → Int → Int → Int → sy_S → sy_R → Prop} {c1 : Bool} {x1 : Int} {c2 : Bool} {x2 : Int} {c3 : Bool} {x3 : Int} {c4 : Bool} {x4 : Int} {st : sy_S} {post : sy_R} : sy_mIILL a f [.inr (.inr (some (some b))), .inl (c1, x1), .inl (c2, x2), .inr (.inl (c3, x3)), .inr (.inl (c4, x4))] st post = (b = a ∧ f x1 x2 x3 x4 st post) := rfl
theorem sy_mIILL_r {a c : Nat} {f : Int → Int → Int → Int → sy_S → sy_R → Prop} (hc : sy_ob a = some c) (as : List sy_V) (st : sy_S) (post : sy_R) (h : sy_mIILL a f as st post) : ∃ b as', as = .inr (.inr (some (some b))) :: as' ∧ sy_ob b = some c := by
  unfold sy_mIILL at h
  split at h
  · obtain ⟨rfl, h⟩ := h
    exact ⟨_, _, rfl, hc⟩
  · exact h.elim
def sy_mIILLL (a : Nat) (f : Int → Int → Int → Int → Int → sy_S → sy_R → Prop) : sy_Sp := fun as st post => match as with
  | [.inr (.inr (some (some b))), .inl (_, x1), .inl (_, x2), .inr (.inl (_, x3)), .inr (.inl (_, x4)), .inr (.inl (_, x5))] => b = a ∧ f x1 x2 x3 x4 x5 st post
  | _ => False
theorem sy_mIILLL_e {a : Nat} {f : Int → Int → Int → Int → Int → sy_S → sy_R → Prop} {as : List sy_V} {st : sy_S} {post : sy_R} {N : Nat} (h : sy_mIILLL a f as st post) (hok : ∀ v ∈ as, sy_ok N v ∧ sy_kn v = v ∧ sy_set v = true) : ∃ (x1 : Int) (x2 : Int) (x3 : Int) (x4 : Int) (x5 : Int), as = [.inr (.inr (some (some a))), .inl (true, x1), .inl (true, x2), .inr (.inl (true, x3)), .inr (.inl (true, x4)), .inr (.inl (true, x5))] ∧ sy_iR x1 ∧ sy_iR x2 ∧ sy_lR x3 ∧ sy_lR x4 ∧ sy_lR x5 ∧ f x1 x2 x3 x4 x5 st post := by
  unfold sy_mIILLL at h
  split at h
  · rename_i b b1 x1 b2 x2 b3 x3 b4 x4 b5 x5
    obtain ⟨o1, e1, -⟩ := hok (.inl (b1, x1)) (by simp)
    injection e1 with e1; injection e1 with e1 _; subst e1
    obtain ⟨o2, e2, -⟩ := hok (.inl (b2, x2)) (by simp)
    injection e2 with e2; injection e2 with e2 _; subst e2
    obtain ⟨o3, e3, -⟩ := hok (.inr (.inl (b3, x3))) (by simp)
    injection e3 with e3; injection e3 with e3; injection e3 with e3 _; subst e3
    obtain ⟨o4, e4, -⟩ := hok (.inr (.inl (b4, x4))) (by simp)
    injection e4 with e4; injection e4 with e4; injection e4 with e4 _; subst e4
    obtain ⟨o5, e5, -⟩ := hok (.inr (.inl (b5, x5))) (by simp)
    injection e5 with e5; injection e5 with e5; injection e5 with e5 _; subst e5
    obtain ⟨rfl, h⟩ := h
    exact ⟨x1, x2, x3, x4, x5, rfl, o1, o2, o3, o4, o5, h⟩
  · exact h.elim
theorem sx_mIILLL {a b : Nat} {f : Int → Int → Int → Int → Int → sy_S → sy_R → Prop} {c1 : Bool} {x1 : Int} {c2 : Bool} {x2 : Int} {c3 : Bool} {x3 : Int} {c4 : Bool} {x4 : Int} {c5 : Bool} {x5 : Int} {st : sy_S} {post : sy_R} : sy_mIILLL a f [.inr (.inr (some (some b))), .inl (c1, x1), .inl (c2, x2), .inr (.inl (c3, x3)), .inr (.inl (c4, x4)), .inr (.inl (c5, x5))] st post = (b = a ∧ f x1 x2 x3 x4 x5 st post) := rfl
theorem sy_mIILLL_r {a c : Nat} {f : Int → Int → Int → Int → Int → sy_S → sy_R → Prop} (hc : sy_ob a = some c) (as : List sy_V) (st : sy_S) (post : sy_R) (h : sy_mIILLL a f as st post) : ∃ b as', as = .inr (.inr (some (some b))) :: as' ∧ sy_ob b = some c := by
  unfold sy_mIILLL at h
  split at h
  · obtain ⟨rfl, h⟩ := h
    exact ⟨_, _, rfl, hc⟩
  · exact h.elim
def sy_qS (ns : Nat) (a : Nat) (f : Nat → sy_S → sy_R → Prop) : sy_Sp := fun as st post => match as with
  | [.inr (.inr (some (some b))), .inr (.inr (some (some x1)))] => b = a ∧ ∃ i, i < ns ∧ x1 = sy_nS i ∧ f i st post
  | _ => False
theorem sy_qS_e {ns : Nat} {a : Nat} {f : Nat → sy_S → sy_R → Prop} {as : List sy_V} {st : sy_S} {post : sy_R} {N : Nat} (h : sy_qS ns a f as st post) (hok : ∀ v ∈ as, sy_ok N v ∧ sy_kn v = v ∧ sy_set v = true) : ∃ (x1 : Nat), as = [.inr (.inr (some (some a))), .inr (.inr (some (some (sy_nS x1))))] ∧ x1 < ns ∧ f x1 st post := by
  unfold sy_qS at h
  split at h
  · rename_i b x1
    obtain ⟨rfl, h⟩ := h
    obtain ⟨i, hi, rfl, h⟩ := h
    exact ⟨i, rfl, hi, h⟩
  · exact h.elim
theorem sx_qS {ns : Nat} {a b : Nat} {f : Nat → sy_S → sy_R → Prop} {x1 : Nat} {st : sy_S} {post : sy_R} : sy_qS ns a f [.inr (.inr (some (some b))), .inr (.inr (some (some (sy_nS x1))))] st post = (b = a ∧ x1 < ns ∧ f x1 st post) := propext ⟨fun ⟨h0, j, h1, h2, h3⟩ => ⟨h0, by rw [(sy_nS_inj _ j).mp h2]; exact ⟨h1, h3⟩⟩, fun ⟨h0, h1, h2⟩ => ⟨h0, _, h1, rfl, h2⟩⟩
theorem sy_qS_r {ns : Nat} {a c : Nat} {f : Nat → sy_S → sy_R → Prop} (hc : sy_ob a = some c) (as : List sy_V) (st : sy_S) (post : sy_R) (h : sy_qS ns a f as st post) : ∃ b as', as = .inr (.inr (some (some b))) :: as' ∧ sy_ob b = some c := by
  unfold sy_qS at h
  split at h
  · obtain ⟨rfl, h⟩ := h
    exact ⟨_, _, rfl, hc⟩
  · exact h.elim
def sy_qSI (ns : Nat) (a : Nat) (f : Nat → Int → sy_S → sy_R → Prop) : sy_Sp := fun as st post => match as with
  | [.inr (.inr (some (some b))), .inr (.inr (some (some x1))), .inl (_, x2)] => b = a ∧ ∃ i, i < ns ∧ x1 = sy_nS i ∧ f i x2 st post
  | _ => False
theorem sy_qSI_e {ns : Nat} {a : Nat} {f : Nat → Int → sy_S → sy_R → Prop} {as : List sy_V} {st : sy_S} {post : sy_R} {N : Nat} (h : sy_qSI ns a f as st post) (hok : ∀ v ∈ as, sy_ok N v ∧ sy_kn v = v ∧ sy_set v = true) : ∃ (x1 : Nat) (x2 : Int), as = [.inr (.inr (some (some a))), .inr (.inr (some (some (sy_nS x1)))), .inl (true, x2)] ∧ x1 < ns ∧ sy_iR x2 ∧ f x1 x2 st post := by
  unfold sy_qSI at h
  split at h
  · rename_i b x1 b2 x2
    obtain ⟨o2, e2, -⟩ := hok (.inl (b2, x2)) (by simp)
    injection e2 with e2; injection e2 with e2 _; subst e2
    obtain ⟨rfl, h⟩ := h
    obtain ⟨i, hi, rfl, h⟩ := h
    exact ⟨i, x2, rfl, hi, o2, h⟩
  · exact h.elim
theorem sx_qSI {ns : Nat} {a b : Nat} {f : Nat → Int → sy_S → sy_R → Prop} {x1 : Nat} {c2 : Bool} {x2 : Int} {st : sy_S} {post : sy_R} : sy_qSI ns a f [.inr (.inr (some (some b))), .inr (.inr (some (some (sy_nS x1)))), .inl (c2, x2)] st post = (b = a ∧ x1 < ns ∧ f x1 x2 st post) := propext ⟨fun ⟨h0, j, h1, h2, h3⟩ => ⟨h0, by rw [(sy_nS_inj _ j).mp h2]; exact ⟨h1, h3⟩⟩, fun ⟨h0, h1, h2⟩ => ⟨h0, _, h1, rfl, h2⟩⟩
theorem sy_qSI_r {ns : Nat} {a c : Nat} {f : Nat → Int → sy_S → sy_R → Prop} (hc : sy_ob a = some c) (as : List sy_V) (st : sy_S) (post : sy_R) (h : sy_qSI ns a f as st post) : ∃ b as', as = .inr (.inr (some (some b))) :: as' ∧ sy_ob b = some c := by
  unfold sy_qSI at h
  split at h
  · obtain ⟨rfl, h⟩ := h
    exact ⟨_, _, rfl, hc⟩
  · exact h.elim
def sy_qSIII (ns : Nat) (a : Nat) (f : Nat → Int → Int → Int → sy_S → sy_R → Prop) : sy_Sp := fun as st post => match as with
  | [.inr (.inr (some (some b))), .inr (.inr (some (some x1))), .inl (_, x2), .inl (_, x3), .inl (_, x4)] => b = a ∧ ∃ i, i < ns ∧ x1 = sy_nS i ∧ f i x2 x3 x4 st post
  | _ => False
theorem sy_qSIII_e {ns : Nat} {a : Nat} {f : Nat → Int → Int → Int → sy_S → sy_R → Prop} {as : List sy_V} {st : sy_S} {post : sy_R} {N : Nat} (h : sy_qSIII ns a f as st post) (hok : ∀ v ∈ as, sy_ok N v ∧ sy_kn v = v ∧ sy_set v = true) : ∃ (x1 : Nat) (x2 : Int) (x3 : Int) (x4 : Int), as = [.inr (.inr (some (some a))), .inr (.inr (some (some (sy_nS x1)))), .inl (true, x2), .inl (true, x3), .inl (true, x4)] ∧ x1 < ns ∧ sy_iR x2 ∧ sy_iR x3 ∧ sy_iR x4 ∧ f x1 x2 x3 x4 st post := by
  unfold sy_qSIII at h
  split at h
  · rename_i b x1 b2 x2 b3 x3 b4 x4
    obtain ⟨o2, e2, -⟩ := hok (.inl (b2, x2)) (by simp)
    injection e2 with e2; injection e2 with e2 _; subst e2
    obtain ⟨o3, e3, -⟩ := hok (.inl (b3, x3)) (by simp)
    injection e3 with e3; injection e3 with e3 _; subst e3
    obtain ⟨o4, e4, -⟩ := hok (.inl (b4, x4)) (by simp)
    injection e4 with e4; injection e4 with e4 _; subst e4
    obtain ⟨rfl, h⟩ := h
    obtain ⟨i, hi, rfl, h⟩ := h
    exact ⟨i, x2, x3, x4, rfl, hi, o2, o3, o4, h⟩
  · exact h.elim
theorem sx_qSIII {ns : Nat} {a b : Nat} {f : Nat → Int → Int → Int → sy_S → sy_R → Prop} {x1 : Nat} {c2 : Bool} {x2 : Int} {c3 : Bool} {x3 : Int} {c4 : Bool} {x4 : Int} {st : sy_S} {post : sy_R} : sy_qSIII ns a f [.inr (.inr (some (some b))), .inr (.inr (some (some (sy_nS x1)))), .inl (c2, x2), .inl (c3, x3), .inl (c4, x4)] st post = (b = a ∧ x1 < ns ∧ f x1 x2 x3 x4 st post) := propext ⟨fun ⟨h0, j, h1, h2, h3⟩ => ⟨h0, by rw [(sy_nS_inj _ j).mp h2]; exact ⟨h1, h3⟩⟩, fun ⟨h0, h1, h2⟩ => ⟨h0, _, h1, rfl, h2⟩⟩
theorem sy_qSIII_r {ns : Nat} {a c : Nat} {f : Nat → Int → Int → Int → sy_S → sy_R → Prop} (hc : sy_ob a = some c) (as : List sy_V) (st : sy_S) (post : sy_R) (h : sy_qSIII ns a f as st post) : ∃ b as', as = .inr (.inr (some (some b))) :: as' ∧ sy_ob b = some c := by
  unfold sy_qSIII at h
  split at h
  · obtain ⟨rfl, h⟩ := h
    exact ⟨_, _, rfl, hc⟩
  · exact h.elim
theorem sx_ob0 : sy_ob 0 = some 8 := rfl
theorem sx_ob1 : sy_ob 1 = some 7 := rfl
theorem sx_ob2 : sy_ob 2 = none := rfl
theorem sx_ob3 : sy_ob 3 = some 3 := rfl
theorem sx_ob4 : sy_ob 4 = none := rfl
theorem sx_ob5 : sy_ob 5 = none := rfl
theorem sx_ob6 : sy_ob 6 = none := rfl
theorem sx_ob7 : sy_ob 7 = some 5 := rfl
theorem sx_ob8 : sy_ob 8 = none := rfl
theorem sx_ob9 : sy_ob 9 = some 0 := rfl
theorem sx_ob10 : sy_ob 10 = none := rfl
theorem sx_ob11 : sy_ob 11 = some 2 := rfl
theorem sx_ob12 : sy_ob 12 = none := rfl
theorem sx_ob13 : sy_ob 13 = none := rfl
theorem sx_ob14 : sy_ob 14 = none := rfl
theorem sx_ob15 : sy_ob 15 = some 1 := rfl
theorem sx_ob16 : sy_ob 16 = none := rfl
theorem sx_ob17 : sy_ob 17 = none := rfl
theorem sx_ob18 : sy_ob 18 = none := rfl
theorem sx_ob19 : sy_ob 19 = some 4 := rfl
theorem sx_ob20 : sy_ob 20 = none := rfl
theorem sx_ob21 : sy_ob 21 = none := rfl
theorem sx_ob22 : sy_ob 22 = none := rfl
theorem sx_ob23 : sy_ob 23 = none := rfl
theorem sx_ob24 : sy_ob 24 = some 9 := rfl
theorem sx_ob25 : sy_ob 25 = none := rfl
theorem sx_ob26 : sy_ob 26 = none := rfl
theorem sx_ob27 : sy_ob 27 = none := rfl
theorem sx_ob28 : sy_ob 28 = none := rfl
theorem sx_ob29 : sy_ob 29 = none := rfl
theorem sx_ob30 : sy_ob 30 = none := rfl
theorem sx_ob31 : sy_ob 31 = none := rfl
theorem sx_ob32 : sy_ob 32 = none := rfl
theorem sx_ob33 : sy_ob 33 = none := rfl
theorem sx_ob34 : sy_ob 34 = none := rfl
theorem sx_ob35 : sy_ob 35 = none := rfl
theorem sx_ob36 : sy_ob 36 = none := rfl
theorem sx_fv0_0 {s : sy_S} : sy_fv s 0 0 = .inr (.inr (some (some 1))) := rfl
theorem sx_fv0_1 {s : sy_S} : sy_fv s 0 1 = .inr (.inr (some (some 3))) := rfl
theorem sx_fv0_2 {s : sy_S} : sy_fv s 0 2 = .inr (.inr (some (some 7))) := rfl
theorem sx_fv0_3 {s : sy_S} : sy_fv s 0 3 = .inr (.inr (some (some 11))) := rfl
theorem sx_fv0_4 {s : sy_S} : sy_fv s 0 4 = .inr (.inr (some (some 15))) := rfl
theorem sx_fv0_5 {s : sy_S} : sy_fv s 0 5 = .inr (.inr (some (some 19))) := rfl
theorem sx_fv1_0 {s : sy_S} : sy_fv s 1 0 = .inr (.inr (some (some 2))) := rfl
theorem sx_fv1_1 {s : sy_S} : sy_fv s 1 1 = .inl (true, s 1 1) := rfl
theorem sx_fv1_2 {s : sy_S} : sy_fv s 1 2 = .inl (true, s 1 2) := rfl
theorem sx_fv3_0 {s : sy_S} : sy_fv s 3 0 = .inr (.inr (some (some 4))) := rfl
theorem sx_fv3_1 {s : sy_S} : sy_fv s 3 1 = .inr (.inr (some (some 5))) := rfl
theorem sx_fv3_2 {s : sy_S} : sy_fv s 3 2 = .inr (.inr (some (some 6))) := rfl
theorem sx_fv3_3 {s : sy_S} : sy_fv s 3 3 = .inl (true, s 3 3) := rfl
theorem sx_fv3_4 {s : sy_S} : sy_fv s 3 4 = .inl (true, s 3 4) := rfl
theorem sx_fv7_0 {s : sy_S} : sy_fv s 7 0 = .inr (.inr (some (some 1))) := rfl
theorem sx_fv7_1 {s : sy_S} : sy_fv s 7 1 = .inr (.inr (some (some 3))) := rfl
theorem sx_fv7_2 {s : sy_S} : sy_fv s 7 2 = .inr (.inr (some (some 8))) := rfl
theorem sx_fv7_3 {s : sy_S} : sy_fv s 7 3 = .inl (true, s 7 3) := rfl
theorem sx_fv7_4 {s : sy_S} : sy_fv s 7 4 = .inl (true, s 7 4) := rfl
theorem sx_fv7_5 {s : sy_S} : sy_fv s 7 5 = .inl (true, s 7 5) := rfl
theorem sx_fv7_6 {s : sy_S} : sy_fv s 7 6 = .inl (true, s 7 6) := rfl
theorem sx_fv7_7 {s : sy_S} : sy_fv s 7 7 = .inl (true, s 7 7) := rfl
theorem sx_fv7_8 {s : sy_S} : sy_fv s 7 8 = .inl (true, s 7 8) := rfl
theorem sx_fv7_9 {s : sy_S} : sy_fv s 7 9 = .inr (.inr (some (some 9))) := rfl
theorem sx_fv7_10 {s : sy_S} : sy_fv s 7 10 = .inl (true, s 7 10) := rfl
theorem sx_fv9_0 {s : sy_S} : sy_fv s 9 0 = .inr (.inr (some (some 10))) := rfl
theorem sx_fv9_1 {s : sy_S} : sy_fv s 9 1 = .inl (true, s 9 1) := rfl
theorem sx_fv9_2 {s : sy_S} : sy_fv s 9 2 = .inl (true, s 9 2) := rfl
theorem sx_fv9_3 {s : sy_S} : sy_fv s 9 3 = .inl (true, s 9 3) := rfl
theorem sx_fv11_0 {s : sy_S} : sy_fv s 11 0 = .inr (.inr (some (some 1))) := rfl
theorem sx_fv11_1 {s : sy_S} : sy_fv s 11 1 = .inr (.inr (some (some 12))) := rfl
theorem sx_fv11_2 {s : sy_S} : sy_fv s 11 2 = .inr (.inr (some (some 13))) := rfl
theorem sx_fv11_3 {s : sy_S} : sy_fv s 11 3 = .inl (true, s 11 3) := rfl
theorem sx_fv11_4 {s : sy_S} : sy_fv s 11 4 = .inr (.inr (some (some 14))) := rfl
theorem sx_fv11_5 {s : sy_S} : sy_fv s 11 5 = .inl (true, s 11 5) := rfl
theorem sx_fv11_6 {s : sy_S} : sy_fv s 11 6 = .inl (true, s 11 6) := rfl
theorem sx_fv15_0 {s : sy_S} : sy_fv s 15 0 = .inr (.inr (some (some 1))) := rfl
theorem sx_fv15_1 {s : sy_S} : sy_fv s 15 1 = .inr (.inr (some (some 16))) := rfl
theorem sx_fv15_2 {s : sy_S} : sy_fv s 15 2 = .inr (.inr (some (some 17))) := rfl
theorem sx_fv15_3 {s : sy_S} : sy_fv s 15 3 = .inr (.inr (some (some 18))) := rfl
theorem sx_fv15_4 {s : sy_S} : sy_fv s 15 4 = .inl (true, s 15 4) := rfl
theorem sx_fv15_5 {s : sy_S} : sy_fv s 15 5 = .inl (true, s 15 5) := rfl
theorem sx_fv19_0 {s : sy_S} : sy_fv s 19 0 = .inr (.inr (some (some 1))) := rfl
theorem sx_fv19_1 {s : sy_S} : sy_fv s 19 1 = .inr (.inr (some (some 20))) := rfl
theorem sx_fv19_2 {s : sy_S} : sy_fv s 19 2 = .inr (.inr (some (some 21))) := rfl
theorem sx_fv19_3 {s : sy_S} : sy_fv s 19 3 = .inl (true, s 19 3) := rfl
theorem sx_fv19_4 {s : sy_S} : sy_fv s 19 4 = .inr (.inr (some (some 22))) := rfl
theorem sx_fv19_5 {s : sy_S} : sy_fv s 19 5 = .inr (.inr (some (some 23))) := rfl
theorem sx_fv19_6 {s : sy_S} : sy_fv s 19 6 = .inl (true, s 19 6) := rfl
theorem sx_fv24_0 {s : sy_S} : sy_fv s 24 0 = .inl (true, s 24 0) := rfl
theorem sx_fv24_1 {s : sy_S} : sy_fv s 24 1 = .inl (true, s 24 1) := rfl
theorem sx_fv24_2 {s : sy_S} : sy_fv s 24 2 = .inr (.inr (some (some 25))) := rfl
theorem sx_fv24_3 {s : sy_S} : sy_fv s 24 3 = .inr (.inr (some (some 26))) := rfl
theorem sx_fv24_4 {s : sy_S} : sy_fv s 24 4 = .inr (.inr (some (some 27))) := rfl
theorem sx_fv24_5 {s : sy_S} : sy_fv s 24 5 = .inr (.inr (some (some 28))) := rfl
theorem sx_fv24_6 {s : sy_S} : sy_fv s 24 6 = .inr (.inr (some (some 29))) := rfl
theorem sx_fv24_7 {s : sy_S} : sy_fv s 24 7 = .inr (.inr (some (some 30))) := rfl
theorem sx_fv24_8 {s : sy_S} : sy_fv s 24 8 = .inl (true, s 24 8) := rfl
theorem sx_fv24_9 {s : sy_S} : sy_fv s 24 9 = .inr (.inr (some (some 31))) := rfl
theorem sx_fv24_10 {s : sy_S} : sy_fv s 24 10 = .inl (true, s 24 10) := rfl
theorem sx_fv24_11 {s : sy_S} : sy_fv s 24 11 = .inl (true, s 24 11) := rfl
theorem sx_fv24_12 {s : sy_S} : sy_fv s 24 12 = .inr (.inr (some (some 32))) := rfl
theorem sx_fv24_13 {s : sy_S} : sy_fv s 24 13 = .inr (.inr (some (some 33))) := rfl
theorem sx_fv24_14 {s : sy_S} : sy_fv s 24 14 = .inl (true, s 24 14) := rfl
theorem sx_fv24_15 {s : sy_S} : sy_fv s 24 15 = .inr (.inr (some (some 34))) := rfl
theorem sx_fv24_16 {s : sy_S} : sy_fv s 24 16 = .inr (.inr (some (some 35))) := rfl
theorem sx_fv24_17 {s : sy_S} : sy_fv s 24 17 = .inr (.inr (some (some 36))) := rfl
theorem sx_fv24_18 {s : sy_S} : sy_fv s 24 18 = .inl (true, s 24 18) := rfl
theorem sx_fvS_0 {s : sy_S} {i : Nat} : sy_fv s (sy_nS i) 0 = .inl (true, s (sy_nS i) 0) := by unfold sy_fv; rw [sy_rf_S i (by decide)]
theorem sx_fvS_1 {s : sy_S} {i : Nat} : sy_fv s (sy_nS i) 1 = .inl (true, s (sy_nS i) 1) := by unfold sy_fv; rw [sy_rf_S i (by decide)]
theorem sx_fvS_2 {s : sy_S} {i : Nat} : sy_fv s (sy_nS i) 2 = .inr (.inr (some (some (sy_nW i)))) := by unfold sy_fv; rw [sy_rf_S2]
theorem sx_fvS_3 {s : sy_S} {i : Nat} : sy_fv s (sy_nS i) 3 = .inl (true, s (sy_nS i) 3) := by unfold sy_fv; rw [sy_rf_S i (by decide)]
theorem sx_fvS_4 {s : sy_S} {i : Nat} : sy_fv s (sy_nS i) 4 = .inl (true, s (sy_nS i) 4) := by unfold sy_fv; rw [sy_rf_S i (by decide)]
theorem sx_fvS_5 {s : sy_S} {i : Nat} : sy_fv s (sy_nS i) 5 = .inl (true, s (sy_nS i) 5) := by unfold sy_fv; rw [sy_rf_S i (by decide)]
theorem sx_fvS_6 {s : sy_S} {i : Nat} : sy_fv s (sy_nS i) 6 = .inl (true, s (sy_nS i) 6) := by unfold sy_fv; rw [sy_rf_S i (by decide)]
theorem sx_fvS_7 {s : sy_S} {i : Nat} : sy_fv s (sy_nS i) 7 = .inl (true, s (sy_nS i) 7) := by unfold sy_fv; rw [sy_rf_S i (by decide)]
theorem sx_fvS_8 {s : sy_S} {i : Nat} : sy_fv s (sy_nS i) 8 = .inl (true, s (sy_nS i) 8) := by unfold sy_fv; rw [sy_rf_S i (by decide)]
theorem sx_fvS_9 {s : sy_S} {i : Nat} : sy_fv s (sy_nS i) 9 = .inl (true, s (sy_nS i) 9) := by unfold sy_fv; rw [sy_rf_S i (by decide)]
theorem sx_ar2 : sy_ar 2 = (2, 16) := rfl
theorem sx_ar4 : sy_ar 4 = (0, 4) := rfl
theorem sx_ar5 : sy_ar 5 = (0, 4) := rfl
theorem sx_ar6 : sy_ar 6 = (0, 4) := rfl
theorem sx_ar8 : sy_ar 8 = (0, 4096) := rfl
theorem sx_ar10 : sy_ar 10 = (0, 102) := rfl
theorem sx_ar12 : sy_ar 12 = (0, 32) := rfl
theorem sx_ar13 : sy_ar 13 = (0, 32) := rfl
theorem sx_ar14 : sy_ar 14 = (0, 32) := rfl
theorem sx_ar16 : sy_ar 16 = (0, 10) := rfl
theorem sx_ar17 : sy_ar 17 = (0, 10) := rfl
theorem sx_ar18 : sy_ar 18 = (0, 10) := rfl
theorem sx_ar20 : sy_ar 20 = (0, 16) := rfl
theorem sx_ar21 : sy_ar 21 = (0, 16) := rfl
theorem sx_ar22 : sy_ar 22 = (0, 256) := rfl
theorem sx_ar23 : sy_ar 23 = (0, 16) := rfl
theorem sx_ar25 : sy_ar 25 = (0, 16) := rfl
theorem sx_ar26 : sy_ar 26 = (0, 16) := rfl
theorem sx_ar27 : sy_ar 27 = (0, 16) := rfl
theorem sx_ar28 : sy_ar 28 = (0, 16) := rfl
theorem sx_ar29 : sy_ar 29 = (0, 64) := rfl
theorem sx_ar30 : sy_ar 30 = (0, 12) := rfl
theorem sx_ar31 : sy_ar 31 = (0, 30) := rfl
theorem sx_ar32 : sy_ar 32 = (1, 32) := rfl
theorem sx_ar33 : sy_ar 33 = (1, 32) := rfl
theorem sx_ar34 : sy_ar 34 = (0, 33) := rfl
theorem sx_ar35 : sy_ar 35 = (0, 16) := rfl
theorem sx_ar36 : sy_ar 36 = (0, 16) := rfl
theorem sx_if0 {c : Prop} [Decidable c] : ((if c then (1 : Int) else 0) = 0) = ¬ c := propext (by by_cases h : c <;> simp [h])
theorem sx_if1 {c : Prop} [Decidable c] : ((if c then (1 : Int) else 0) = 1) = c := propext (by by_cases h : c <;> simp [h])
theorem sx_ie0 {b : Bool} : ((match b with | true => (1 : Int) | false => 0) = 0) = (b = false) := by cases b <;> simp
theorem sx_em {c : Prop} : (¬ c ∨ c) = True := eq_true (Classical.em c).symm
theorem sx_cle {x y : Int} : (sy_cmp x y ≤ 0) = (x ≤ y) := propext (by unfold sy_cmp; split <;> (try split) <;> omega)
theorem sx_clt {x y : Int} : (sy_cmp x y < 0) = (x < y) := propext (by unfold sy_cmp; split <;> (try split) <;> omega)
theorem sx_cge {x y : Int} : (0 ≤ sy_cmp x y) = (y ≤ x) := propext (by unfold sy_cmp; split <;> (try split) <;> omega)
theorem sx_cgt {x y : Int} : (0 < sy_cmp x y) = (y < x) := propext (by unfold sy_cmp; split <;> (try split) <;> omega)
theorem sx_ceq {x y : Int} : (sy_cmp x y = 0) = (x = y) := propext (by unfold sy_cmp; split <;> (try split) <;> omega)
