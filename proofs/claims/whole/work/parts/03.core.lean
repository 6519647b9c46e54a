/-! THE ABSTRACT MACHINE. Cells have names (numbers); all ints and longs are mathematical numbers; a flag says that a number is known to be in range. -/
abbrev sy_V : Type := (Bool × Int) ⊕ ((Bool × Int) ⊕ Option (Option Nat))
abbrev sy_S : Type := Nat → Nat → Int
abbrev sy_R : Type := Option sy_V → sy_S → Prop
abbrev sy_Sp : Type := List sy_V → sy_S → sy_R → Prop
/-- what an instruction is here: the instruction, the pc behind it, the pc that it may jump to -/
abbrev sy_I : Type := Instr × Nat × Nat
def sy_iR (z : Int) : Prop := -2147483648 ≤ z ∧ z < 2147483648
def sy_lR (z : Int) : Prop := -9223372036854775808 ≤ z ∧ z < 9223372036854775808
def sy_ri (b : Bool) (z : Int) : Prop := match b with
  | true => True
  | false => -2147483648 ≤ z ∧ z < 2147483648
def sy_rl (b : Bool) (z : Int) : Prop := match b with
  | true => True
  | false => -9223372036854775808 ≤ z ∧ z < 9223372036854775808
def sy_cv (ad : Nat → Nat) (v : sy_V) : Value := match v with
  | .inl (_, z) => .int (Int32.ofInt z)
  | .inr (.inl (_, z)) => .long (Int64.ofInt z)
  | .inr (.inr (some (some n))) => .ref (ad n)
  | .inr (.inr (some none)) => .null
  | .inr (.inr none) => .null
def sy_ok (N : Nat) (v : sy_V) : Prop := match v with
  | .inl (true, z) => sy_iR z
  | .inl (false, _) => True
  | .inr (.inl (true, z)) => sy_lR z
  | .inr (.inl (false, _)) => True
  | .inr (.inr (some (some n))) => n < N
  | .inr (.inr (some none)) => True
  | .inr (.inr none) => True
def sy_cat2 (v : sy_V) : Bool := match v with
  | .inr (.inl _) => true
  | _ => false
def sy_set (v : sy_V) : Bool := match v with
  | .inr (.inr none) => false
  | _ => true
/-- the locals as the kit lists them -/
def sy_lv (ad : Nat → Nat) : Nat → List sy_V → List (Nat × Value)
  | _, [] => []
  | i, v :: r => if sy_set v then (i, sy_cv ad v) :: sy_lv ad (i + 1) r else sy_lv ad (i + 1) r
/-- a store to a local: a long that stood just below is gone -/
def sy_sto (L : List sy_V) (i : Nat) (v : sy_V) : List sy_V := match i, L with
  | _, [] => []
  | 0, _ :: r => v :: r
  | 1, a :: r => (if sy_cat2 a then .inr (.inr none) else a) :: sy_sto r 0 v
  | i + 2, a :: r => a :: sy_sto r (i + 1) v
/-- a long's second half -/
def sy_gone (L : List sy_V) (i : Nat) : List sy_V := match i, L with
  | _, [] => []
  | 0, _ :: r => .inr (.inr none) :: r
  | i + 1, a :: r => a :: sy_gone r i
def sy_loc (L : List sy_V) (i : Nat) : sy_V := match i, L with
  | _, [] => .inr (.inr none)
  | 0, a :: _ => a
  | i + 1, _ :: r => sy_loc r i
/-- the locals at a method's entry -/
def sy_ent : List sy_V → List sy_V
  | [] => []
  | v :: r => if sy_cat2 v then v :: .inr (.inr none) :: sy_ent r else v :: sy_ent r
def sy_i1 (k : List sy_V) (f : Bool → Int → List sy_V → Prop) : Prop := match k with
  | .inl (b, x) :: r => f b x r
  | _ => False
def sy_l1 (k : List sy_V) (f : Bool → Int → List sy_V → Prop) : Prop := match k with
  | .inr (.inl (b, x)) :: r => f b x r
  | _ => False
/-- a reference or null -/
def sy_n1 (k : List sy_V) (f : Option Nat → List sy_V → Prop) : Prop := match k with
  | .inr (.inr (some o)) :: r => f o r
  | _ => False
def sy_a1 (k : List sy_V) (f : Nat → List sy_V → Prop) : Prop := match k with
  | .inr (.inr (some (some n))) :: r => f n r
  | _ => False
def sy_i2 (k : List sy_V) (f : Bool → Int → Bool → Int → List sy_V → Prop) : Prop := sy_i1 k fun b y r => sy_i1 r fun a x r => f a x b y r
def sy_l2 (k : List sy_V) (f : Bool → Int → Bool → Int → List sy_V → Prop) : Prop := sy_l1 k fun b y r => sy_l1 r fun a x r => f a x b y r
def sy_cmp (x y : Int) : Int := if y < x then 1 else if x = y then 0 else -1
def sy_up (s : sy_S) (a k : Nat) (z : Int) : sy_S := fun b j => if b = a ∧ j = k then z else s b j
def sy_kn (v : sy_V) : sy_V := match v with
  | .inl (_, z) => .inl (true, z)
  | .inr (.inl (_, z)) => .inr (.inl (true, z))
  | .inr (.inr o) => .inr (.inr o)
/-- a value that is handed on: in range, and not an unset local -/
def sy_fit (v : sy_V) : Prop := match v with
  | .inl (b, z) => sy_ri b z
  | .inr (.inl (b, z)) => sy_rl b z
  | .inr (.inr (some _)) => True
  | .inr (.inr none) => False
/-! THE WORLD'S SHAPE: which name is an object of which class, which an array -/
def sy_nS (i : Nat) : Nat := 37 + 2 * i
def sy_nW (i : Nat) : Nat := 38 + 2 * i
def sy_ob (a : Nat) : Option Nat := match a with
  | 0 => some 8 | 1 => some 7 | 3 => some 3 | 7 => some 5 | 9 => some 0 | 11 => some 2 | 15 => some 1 | 19 => some 4 | 24 => some 9
  | a => if 37 ≤ a ∧ a % 2 = 1 then some 6 else none
/-- arrays: kind (0 of ints, 1 of longs, 2 the row of sites), length -/
def sy_ar (a : Nat) : Nat × Nat := match a with
  | 2 => (2, 16) | 4 => (0, 4) | 5 => (0, 4) | 6 => (0, 4) | 8 => (0, 4096) | 10 => (0, 102) | 12 => (0, 32) | 13 => (0, 32) | 14 => (0, 32)
  | 16 => (0, 10) | 17 => (0, 10) | 18 => (0, 10) | 20 => (0, 16) | 21 => (0, 16) | 22 => (0, 256) | 23 => (0, 16)
  | 25 => (0, 16) | 26 => (0, 16) | 27 => (0, 16) | 28 => (0, 16) | 29 => (0, 64) | 30 => (0, 12) | 31 => (0, 30) | 32 => (1, 32) | 33 => (1, 32) | 34 => (0, 33) | 35 => (0, 16) | 36 => (0, 16)
  | _ => (0, 512)
/-- an object's reference fields: what they point to (they never change) -/
def sy_rf (a k : Nat) : Option Nat := match a, k with
  | 0, 0 => some 1 | 0, 1 => some 3 | 0, 2 => some 7 | 0, 3 => some 11 | 0, 4 => some 15 | 0, 5 => some 19
  | 1, 0 => some 2
  | 3, 0 => some 4 | 3, 1 => some 5 | 3, 2 => some 6
  | 7, 0 => some 1 | 7, 1 => some 3 | 7, 2 => some 8 | 7, 9 => some 9
  | 9, 0 => some 10
  | 11, 0 => some 1 | 11, 1 => some 12 | 11, 2 => some 13 | 11, 4 => some 14
  | 15, 0 => some 1 | 15, 1 => some 16 | 15, 2 => some 17 | 15, 3 => some 18
  | 19, 0 => some 1 | 19, 1 => some 20 | 19, 2 => some 21 | 19, 4 => some 22 | 19, 5 => some 23
  | 24, 2 => some 25 | 24, 3 => some 26 | 24, 4 => some 27 | 24, 5 => some 28 | 24, 6 => some 29 | 24, 7 => some 30 | 24, 9 => some 31 | 24, 12 => some 32 | 24, 13 => some 33 | 24, 15 => some 34 | 24, 16 => some 35 | 24, 17 => some 36
  | a, 2 => if 37 ≤ a then some (a + 1) else none
  | _, _ => none
/-- fields that a method may write: class, slot -> is it a truth value -/
def sy_pt (c k : Nat) : Option Bool := match c, k with
  | 0, 1 => some false | 0, 2 => some false | 0, 3 => some false
  | 1, 4 => some false | 1, 5 => some false
  | 2, 3 => some false | 2, 5 => some false | 2, 6 => some true
  | 3, 3 => some false | 3, 4 => some false
  | 4, 3 => some false | 4, 6 => some false
  | 5, 3 => some false | 5, 4 => some false | 5, 5 => some false | 5, 6 => some false | 5, 7 => some false | 5, 8 => some false | 5, 10 => some false
  | 6, 3 => some true | 6, 4 => some false | 6, 5 => some false | 6, 6 => some false | 6, 7 => some false | 6, 8 => some false | 6, 9 => some false
  | 7, 2 => some false
  | 9, 0 => some false | 9, 1 => some false | 9, 8 => some false | 9, 10 => some false | 9, 11 => some false | 9, 14 => some false | 9, 18 => some false
  | _, _ => none
def sy_fv (s : sy_S) (a k : Nat) : sy_V := match sy_rf a k with
  | some b => .inr (.inr (some (some b)))
  | none => .inl (true, s a k)
/-- a method's tables: its instructions; its class's fields by entry (class, slot); int and long constants; calls (static or not, how many values, the meaning); does it answer a truth value -/
abbrev sy_M : Type := (Nat → Option sy_I) × (Nat → Option (Nat × Nat)) × (Nat → Option Int) × (Nat → Option Int) × (Nat → Option (Bool × Nat × sy_Sp)) × Bool
def sy_sw (pc : Nat) (z : Int) (f : Nat → Prop) : Int → List Int → Prop
  | _, [] => True
  | lo, o :: os => (z = lo → f ((pc : Int) + o).toNat) ∧ sy_sw pc z f (lo + 1) os
abbrev sy_K : Type := Nat → List sy_V → List sy_V → sy_S → Prop
def sy_arr (k : List sy_V) (f : Int → Nat → List sy_V → Prop) : Prop := sy_i1 k fun _ i r => sy_a1 r fun a r => (0 ≤ i ∧ i < (sy_ar a).2) ∧ f i a r
def sy_wd : List sy_V → Nat
  | [] => 0
  | v :: r => (match sy_cat2 v with
    | true => 2
    | false => 1) + sy_wd r
def sy_call (stt : Bool) (q : Option (Bool × Nat × sy_Sp)) (k : List sy_V) (s : sy_S) (f : List sy_V → sy_S → Prop) : Prop := match q with
  | some (b, n, sp) => b = stt ∧ n ≤ k.length ∧ sy_wd (k.drop n) ≤ 8 ∧ (∀ v ∈ k.take n, sy_fit v) ∧ sp ((k.take n).reverse.map sy_kn) s (fun r t => f (r.toList ++ k.drop n) t)
  | none => False
def sy_b01 (b : Bool) (z : Int) : Prop := match b with
  | true => z = 0 ∨ z = 1
  | false => True
def sy_ret (b : Bool) (k : List sy_V) (s : sy_S) (R : sy_R) : Prop := match k with
  | [.inl (a, z)] => sy_ri a z ∧ sy_b01 b z ∧ R (some (.inl (true, z))) s
  | _ => False
def sy_lret (k : List sy_V) (s : sy_S) (R : sy_R) : Prop := match k with
  | [.inr (.inl (a, z))] => sy_rl a z ∧ R (some (.inr (.inl (true, z)))) s
  | _ => False
def sy_aret (k : List sy_V) (s : sy_S) (R : sy_R) : Prop := match k with
  | [.inr (.inr (some o))] => R (some (.inr (.inr (some o)))) s
  | _ => False
def sy_vret (k : List sy_V) (s : sy_S) (R : sy_R) : Prop := match k with
  | [] => R none s
  | _ => False
def sy_ldi (v : sy_V) (f : Int → Prop) : Prop := match v with
  | .inl (true, z) => f z
  | _ => False
def sy_ldl (v : sy_V) (f : Int → Prop) : Prop := match v with
  | .inr (.inl (true, z)) => f z
  | _ => False
def sy_lda (v : sy_V) (f : Option Nat → Prop) : Prop := match v with
  | .inr (.inr (some o)) => f o
  | _ => False
def sy_get (q : Option (Nat × Nat)) (k : List sy_V) (s : sy_S) (f : List sy_V → Prop) : Prop := match q with
  | some (c, j) => sy_a1 k fun a r => sy_ob a = some c ∧ f (sy_fv s a j :: r)
  | none => False
def sy_put (q : Option (Nat × Nat)) (k : List sy_V) (s : sy_S) (f : List sy_V → sy_S → Prop) : Prop := match q with
  | some (c, j) => sy_i1 k fun b z r => sy_a1 r fun a r => sy_ob a = some c ∧ sy_ri b z ∧ (match sy_pt c j with
    | some t => sy_b01 t z ∧ f r (sy_up s a j z)
    | none => False)
  | none => False
def sy_dup (k : List sy_V) (f : List sy_V → Prop) : Prop := match k with
  | .inl x :: r => f (.inl x :: .inl x :: r)
  | .inr (.inr x) :: r => f (.inr (.inr x) :: .inr (.inr x) :: r)
  | _ => False
def sy_dup2 (k : List sy_V) (f : List sy_V → Prop) : Prop := match k with
  | .inl x :: .inr (.inr y) :: r => f (.inl x :: .inr (.inr y) :: .inl x :: .inr (.inr y) :: r)
  | _ => False
def sy_cst (q : Option Int) (f : Int → Prop) : Prop := match q with
  | some z => f z
  | none => False
/-- ONE STEP: what must hold now, so that K holds behind it (or R, if the method returns) -/
def sy_st (ns : Nat) (M : sy_M) (i : sy_I) (pc : Nat) (L k : List sy_V) (s : sy_S) (R : sy_R) (K : sy_K) : Prop := match i.1 with
  | .iconst z => K i.2.1 L (.inl (true, z) :: k) s
  | .bipush z => K i.2.1 L (.inl (true, z) :: k) s
  | .sipush z => K i.2.1 L (.inl (true, z) :: k) s
  | .ldc q => sy_cst (M.2.2.1 q) fun z => K i.2.1 L (.inl (true, z) :: k) s
  | .ldc_w q => sy_cst (M.2.2.1 q) fun z => K i.2.1 L (.inl (true, z) :: k) s
  | .lconst z => K i.2.1 L (.inr (.inl (true, z.val)) :: k) s
  | .ldc2_w q => sy_cst (M.2.2.2.1 q) fun z => K i.2.1 L (.inr (.inl (true, z)) :: k) s
  | .aconst_null => K i.2.1 L (.inr (.inr (some none)) :: k) s
  | .iload_n n => sy_ldi (sy_loc L n.val) fun z => K i.2.1 L (.inl (true, z) :: k) s
  | .iload n => sy_ldi (sy_loc L n) fun z => K i.2.1 L (.inl (true, z) :: k) s
  | .lload_n n => sy_ldl (sy_loc L n.val) fun z => K i.2.1 L (.inr (.inl (true, z)) :: k) s
  | .lload n => sy_ldl (sy_loc L n) fun z => K i.2.1 L (.inr (.inl (true, z)) :: k) s
  | .aload_n n => sy_lda (sy_loc L n.val) fun o => K i.2.1 L (.inr (.inr (some o)) :: k) s
  | .aload n => sy_lda (sy_loc L n) fun o => K i.2.1 L (.inr (.inr (some o)) :: k) s
  | .istore_n n => sy_i1 k fun b z r => sy_ri b z ∧ n.val < L.length ∧ K i.2.1 (sy_sto L n.val (.inl (true, z))) r s
  | .istore n => sy_i1 k fun b z r => sy_ri b z ∧ n < L.length ∧ K i.2.1 (sy_sto L n (.inl (true, z))) r s
  | .lstore_n n => sy_l1 k fun b z r => sy_rl b z ∧ n.val + 1 < L.length ∧ K i.2.1 (sy_gone (sy_sto L n.val (.inr (.inl (true, z)))) (n.val + 1)) r s
  | .lstore n => sy_l1 k fun b z r => sy_rl b z ∧ n + 1 < L.length ∧ K i.2.1 (sy_gone (sy_sto L n (.inr (.inl (true, z)))) (n + 1)) r s
  | .astore_n n => sy_n1 k fun o r => n.val < L.length ∧ K i.2.1 (sy_sto L n.val (.inr (.inr (some o)))) r s
  | .astore n => sy_n1 k fun o r => n < L.length ∧ K i.2.1 (sy_sto L n (.inr (.inr (some o)))) r s
  | .iinc n z => sy_ldi (sy_loc L n) fun x => (-2147483648 ≤ x + z ∧ x + z < 2147483648) ∧ K i.2.1 (sy_sto L n (.inl (true, x + z))) k s
  | .iadd => sy_i2 k fun _ x _ y r => K i.2.1 L (.inl (false, x + y) :: r) s
  | .isub => sy_i2 k fun _ x _ y r => K i.2.1 L (.inl (false, x - y) :: r) s
  | .imul => sy_i2 k fun _ x _ y r => K i.2.1 L (.inl (false, x * y) :: r) s
  | .ineg => sy_i1 k fun _ x r => K i.2.1 L (.inl (false, -x) :: r) s
  | .idiv => sy_i2 k fun a x b y r => sy_ri a x ∧ sy_ri b y ∧ y ≠ 0 ∧ K i.2.1 L (.inl (false, x.tdiv y) :: r) s
  | .irem => sy_i2 k fun a x b y r => sy_ri a x ∧ sy_ri b y ∧ y ≠ 0 ∧ K i.2.1 L (.inl (false, x.tmod y) :: r) s
  | .iand => sy_i2 k fun _ x _ y r => K i.2.1 L (.inl (true, (Int32.ofInt x &&& Int32.ofInt y).toInt) :: r) s
  | .ior => sy_i2 k fun _ x _ y r => K i.2.1 L (.inl (true, (Int32.ofInt x ||| Int32.ofInt y).toInt) :: r) s
  | .ixor => sy_i2 k fun _ x _ y r => K i.2.1 L (.inl (true, (Int32.ofInt x ^^^ Int32.ofInt y).toInt) :: r) s
  | .ishl => sy_i2 k fun _ x _ y r => K i.2.1 L (.inl (true, (Int32.ofInt x <<< (Int32.ofInt y &&& 31)).toInt) :: r) s
  | .ishr => sy_i2 k fun _ x _ y r => K i.2.1 L (.inl (true, (Int32.ofInt x >>> (Int32.ofInt y &&& 31)).toInt) :: r) s
  | .iushr => sy_i2 k fun _ x _ y r => K i.2.1 L (.inl (true, ((Int32.ofInt x).toUInt32 >>> ((Int32.ofInt y).toUInt32 &&& Int32.toUInt32 31)).toInt32.toInt) :: r) s
  | .ladd => sy_l2 k fun _ x _ y r => K i.2.1 L (.inr (.inl (false, x + y)) :: r) s
  | .lsub => sy_l2 k fun _ x _ y r => K i.2.1 L (.inr (.inl (false, x - y)) :: r) s
  | .lmul => sy_l2 k fun _ x _ y r => K i.2.1 L (.inr (.inl (false, x * y)) :: r) s
  | .lneg => sy_l1 k fun _ x r => K i.2.1 L (.inr (.inl (false, -x)) :: r) s
  | .lcmp => sy_l2 k fun a x b y r => sy_rl a x ∧ sy_rl b y ∧ K i.2.1 L (.inl (true, sy_cmp x y) :: r) s
  | .i2l => sy_i1 k fun b x r => sy_ri b x ∧ K i.2.1 L (.inr (.inl (true, x)) :: r) s
  | .l2i => sy_l1 k fun _ x r => K i.2.1 L (.inl (false, x) :: r) s
  | .dup => sy_dup k fun r => K i.2.1 L r s
  | .dup2 => sy_dup2 k fun r => K i.2.1 L r s
  | .goto _ => K i.2.2 L k s
  | .if_icmp .eq _ => sy_i2 k fun a x b y r => sy_ri a x ∧ sy_ri b y ∧ (x = y → K i.2.2 L r s) ∧ (¬ x = y → K i.2.1 L r s)
  | .if_icmp .ne _ => sy_i2 k fun a x b y r => sy_ri a x ∧ sy_ri b y ∧ (¬ x = y → K i.2.2 L r s) ∧ (x = y → K i.2.1 L r s)
  | .if_icmp .lt _ => sy_i2 k fun a x b y r => sy_ri a x ∧ sy_ri b y ∧ (x < y → K i.2.2 L r s) ∧ (¬ x < y → K i.2.1 L r s)
  | .if_icmp .ge _ => sy_i2 k fun a x b y r => sy_ri a x ∧ sy_ri b y ∧ (y ≤ x → K i.2.2 L r s) ∧ (¬ y ≤ x → K i.2.1 L r s)
  | .if_icmp .gt _ => sy_i2 k fun a x b y r => sy_ri a x ∧ sy_ri b y ∧ (y < x → K i.2.2 L r s) ∧ (¬ y < x → K i.2.1 L r s)
  | .if_icmp .le _ => sy_i2 k fun a x b y r => sy_ri a x ∧ sy_ri b y ∧ (x ≤ y → K i.2.2 L r s) ∧ (¬ x ≤ y → K i.2.1 L r s)
  | .ifCond .eq _ => sy_i1 k fun a x r => sy_ri a x ∧ (x = 0 → K i.2.2 L r s) ∧ (¬ x = 0 → K i.2.1 L r s)
  | .ifCond .ne _ => sy_i1 k fun a x r => sy_ri a x ∧ (¬ x = 0 → K i.2.2 L r s) ∧ (x = 0 → K i.2.1 L r s)
  | .ifCond .lt _ => sy_i1 k fun a x r => sy_ri a x ∧ (x < 0 → K i.2.2 L r s) ∧ (¬ x < 0 → K i.2.1 L r s)
  | .ifCond .ge _ => sy_i1 k fun a x r => sy_ri a x ∧ (0 ≤ x → K i.2.2 L r s) ∧ (¬ 0 ≤ x → K i.2.1 L r s)
  | .ifCond .gt _ => sy_i1 k fun a x r => sy_ri a x ∧ (0 < x → K i.2.2 L r s) ∧ (¬ 0 < x → K i.2.1 L r s)
  | .ifCond .le _ => sy_i1 k fun a x r => sy_ri a x ∧ (x ≤ 0 → K i.2.2 L r s) ∧ (¬ x ≤ 0 → K i.2.1 L r s)
  | .ifnull _ => sy_n1 k fun o r => match o with
    | none => K i.2.2 L r s
    | some _ => K i.2.1 L r s
  | .ifnonnull _ => sy_n1 k fun o r => match o with
    | none => K i.2.1 L r s
    | some _ => K i.2.2 L r s
  | .getfield q => sy_get (M.2.1 q) k s fun r => K i.2.1 L r s
  | .putfield q => sy_put (M.2.1 q) k s fun r t => K i.2.1 L r t
  | .iaload => sy_arr k fun j a r => sy_ob a = none ∧ (sy_ar a).1 = 0 ∧ K i.2.1 L (.inl (true, s a j.toNat) :: r) s
  | .laload => sy_arr k fun j a r => sy_ob a = none ∧ (sy_ar a).1 = 1 ∧ K i.2.1 L (.inr (.inl (true, s a j.toNat)) :: r) s
  | .aaload => sy_arr k fun j a r => a = 2 ∧ (j < ns → K i.2.1 L (.inr (.inr (some (some (sy_nS j.toNat)))) :: r) s) ∧ (¬ j < ns → K i.2.1 L (.inr (.inr (some none)) :: r) s)
  | .iastore => sy_i1 k fun b z r => sy_ri b z ∧ sy_arr r fun j a r => sy_ob a = none ∧ (sy_ar a).1 = 0 ∧ K i.2.1 L r (sy_up s a j.toNat z)
  | .lastore => sy_l1 k fun b z r => sy_rl b z ∧ sy_arr r fun j a r => sy_ob a = none ∧ (sy_ar a).1 = 1 ∧ K i.2.1 L r (sy_up s a j.toNat z)
  | .arraylength => sy_a1 k fun a r => sy_ob a = none ∧ K i.2.1 L (.inl (true, (sy_ar a).2) :: r) s
  | .invokevirtual q => sy_call false (M.2.2.2.2.1 q) k s fun r t => K i.2.1 L r t
  | .invokestatic q => sy_call true (M.2.2.2.2.1 q) k s fun r t => K i.2.1 L r t
  | .tableswitch _ lo hi os => sy_i1 k fun b z r => sy_ri b z ∧ ((z < lo ∨ hi < z) → K i.2.2 L r s) ∧ sy_sw pc z (fun t => K t L r s) lo os.toList
  | .ireturn => sy_ret M.2.2.2.2.2 k s R
  | .lreturn => sy_lret k s R
  | .areturn => sy_aret k s R
  | .return_ => sy_vret k s R
  | _ => False
/-- MANY STEPS, up to one of the stops (the first step is made in any case) -/
def sy_run (ns : Nat) (M : sy_M) (stops : List Nat) (R : sy_R) (K : sy_K) : Nat → sy_K
  | 0, pc, L, k, s => K pc L k s
  | n + 1, pc, L, k, s => match M.1 pc with
    | some i => sy_st ns M i pc L k s R (fun pc' L' k' s' => match stops.contains pc' with
      | true => K pc' L' k' s'
      | false => sy_run ns M stops R K n pc' L' k' s')
    | none => False
