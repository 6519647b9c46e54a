/-! BITS of ints -/
def x_bt (z : Int) (i : Nat) : Bool := (Int32.ofInt z).toBitVec.getLsbD i
theorem x_bt_t (a : Int32) (i : Nat) : x_bt a.toInt i = a.toBitVec.getLsbD i := by unfold x_bt; rw [Int32.ofInt_toInt]
/-- a bit is cleared, or set -/
def x_bop (b : Int) (al : Bool) (x : Int) : Int := if al = true then (Int32.ofInt x &&& Int32.ofInt ((Int32.ofInt b ^^^ Int32.ofInt (-1)).toInt)).toInt else (Int32.ofInt x ||| Int32.ofInt b).toInt
theorem x_m1 : ∀ i, i < 32 → x_bt (-1) i = true := by decide
theorem x_z0 : ∀ i, x_bt 0 i = false := by
  intro i
  unfold x_bt
  show (0#32).getLsbD i = false
  simp
/-- the bit of a site -/
def x_pw (i : Nat) : Int := (Int32.ofInt 1 <<< (Int32.ofInt (i : Int) &&& 31)).toInt
theorem x_pw_bt : ∀ i, i < 16 → ∀ j, j < 32 → x_bt (x_pw i) j = decide (j = i) := by decide +kernel
theorem x_pw_rng : ∀ i, i < 16 → x_pw i = 2 ^ i ∧ 0 < x_pw i ∧ x_pw i ≤ 32768 := by decide +kernel
theorem x_bop_bt {i : Nat} (hi : i < 16) (al : Bool) (x : Int) {j : Nat} (hj : j < 32) : x_bt (x_bop (x_pw i) al x) j = if j = i then !al else x_bt x j := by
  have hp := x_pw_bt i hi j hj
  have hm := x_m1 j hj
  unfold x_bop
  cases al
  · rw [if_neg (by decide), x_bt_t, Int32.toBitVec_or, BitVec.getLsbD_or]
    show (x_bt x j || x_bt (x_pw i) j) = _
    rw [hp]
    by_cases h : j = i <;> simp [h]
  · rw [if_pos rfl, x_bt_t, Int32.toBitVec_and, BitVec.getLsbD_and, Int32.ofInt_toInt, Int32.toBitVec_xor, BitVec.getLsbD_xor]
    show (x_bt x j && (x_bt (x_pw i) j ^^ x_bt (-1) j)) = _
    rw [hp, hm]
    by_cases h : j = i <;> simp [h]
theorem x_bop_rng (b : Int) (al : Bool) (x : Int) : sy_iR (x_bop b al x) := by
  unfold x_bop
  split <;> exact sy_iR_of _
theorem x_or_bt {i : Nat} (hi : i < 16) (x : Int) {j : Nat} (hj : j < 32) : x_bt (Int32.ofInt x ||| Int32.ofInt (x_pw i)).toInt j = (x_bt x j || decide (j = i)) := by
  rw [x_bt_t, Int32.toBitVec_or, BitVec.getLsbD_or, ← x_pw_bt i hi j hj]
  rfl
/-- no bit: 0 -/
theorem x_zero {z : Int} (hz : sy_iR z) : z = 0 ↔ ∀ i, i < 32 → x_bt z i = false := by
  constructor
  · intro h i _
    subst h
    exact x_z0 i
  · intro h
    have e : (Int32.ofInt z).toBitVec = 0#32 := by
      apply BitVec.eq_of_getLsbD_eq
      intro i hi
      rw [BitVec.getLsbD_zero]
      exact h i hi
    have e2 : Int32.ofInt z = 0 := Int32.toBitVec_inj.mp e
    have := sy_t32 hz
    rw [e2] at this
    exact this.symm
/-- a bit is asked for: shifted down, the lowest -/
theorem x_ask {z : Int} {i : Nat} (hi : i < 16) : ((Int32.ofInt (Int32.ofInt z >>> (Int32.ofInt (i : Int) &&& 31)).toInt &&& Int32.ofInt 1).toInt = 1) = (x_bt z i = true) := by
  rw [Int32.ofInt_toInt]
  have hs : ∀ i : Nat, i < 16 → (Int32.ofInt (i : Int) &&& 31).toBitVec.smod 32 = BitVec.ofNat 32 i := by decide +kernel
  have e : ∀ j, (Int32.ofInt z >>> (Int32.ofInt (i : Int) &&& 31) &&& Int32.ofInt 1).toBitVec.getLsbD j = (decide (j = 0) && x_bt z i) := by
    intro j
    rw [Int32.toBitVec_and, BitVec.getLsbD_and, Int32.toBitVec_shiftRight, hs i hi]
    have h1 : (Int32.ofInt 1).toBitVec = 1#32 := rfl
    rw [h1, BitVec.getLsbD_one]
    by_cases hj : j = 0
    · subst hj
      have hn : (BitVec.ofNat 32 i).toNat = i := by simp; omega
      rw [BitVec.getLsbD_sshiftRight', hn]
      simp [x_bt, show i < 32 by omega]
    · simp [hj]
  generalize (Int32.ofInt z >>> (Int32.ofInt (i : Int) &&& 31) &&& Int32.ofInt 1) = w at *
  apply propext
  cases hb : x_bt z i
  · constructor
    · intro h
      have e1 : w = Int32.ofInt 1 := by rw [← Int32.ofInt_toInt w, h]
      have := e 0
      rw [hb, e1] at this
      exact absurd this (by decide)
    · intro h; cases h
  · refine ⟨fun _ => rfl, fun _ => ?_⟩
    have e1 : w.toBitVec = 1#32 := by
      apply BitVec.eq_of_getLsbD_eq
      intro j hj
      rw [e j, hb, BitVec.getLsbD_one]
      simp
    have e2 : w = Int32.ofInt 1 := Int32.toBitVec_inj.mp e1
    rw [e2]
    rfl
