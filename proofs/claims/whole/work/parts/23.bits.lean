/-! rows of bits in a long -/
theorem z64n {v : Int64} {n : Nat} (h : v.toBitVec.toNat = n) (hn : n < 2 ^ 63) : v.toInt = (n : Int) := by
  show v.toBitVec.toInt = _
  rw [BitVec.toInt_eq_toNat_of_lt (by omega), h]
theorem z64b {n : Nat} (hn : n < 2 ^ 63) : (Int64.ofInt (n : Int)).toBitVec.toNat = n := by
  rw [Int64.toBitVec_ofInt, BitVec.ofInt_natCast, BitVec.toNat_ofNat]
  exact Nat.mod_eq_of_lt (by omega)
theorem zlor_n {a b : Nat} (ha : a < 2 ^ 61) (hb : b < 2 ^ 61) : zf_lor (a : Int) (b : Int) = ((a ||| b : Nat) : Int) := by
  unfold zf_lor
  have h9 : a ||| b < 2 ^ 61 := Nat.or_lt_two_pow ha hb
  refine z64n ?_ (by omega)
  rw [Int64.toBitVec_or, BitVec.toNat_or, z64b (by omega), z64b (by omega)]
theorem zland_n {a b : Nat} (ha : a < 2 ^ 63) (hb : b < 2 ^ 63) : zf_land (a : Int) (b : Int) = ((a &&& b : Nat) : Int) := by
  unfold zf_land
  have h9 : a &&& b ≤ a := Nat.and_le_left
  refine z64n ?_ (by omega)
  rw [Int64.toBitVec_and, BitVec.toNat_and, z64b (by omega), z64b (by omega)]
theorem zlshl_n {a : Nat} (ha : a < 2 ^ 61) : zf_lshl (a : Int) 1 = ((2 * a : Nat) : Int) := by
  unfold zf_lshl
  have e : (Int32.ofInt 1).toInt64 &&& 63 = (1 : Int64) := by decide
  rw [e]
  refine z64n ?_ (by omega)
  rw [Int64.toBitVec_shiftLeft]
  have e2 : (((1 : Int64).toBitVec).smod 64) = 1#64 := by decide
  rw [e2, BitVec.shiftLeft_eq', BitVec.toNat_shiftLeft, z64b (by omega)]
  show a <<< 1 % 2 ^ 64 = 2 * a
  rw [Nat.shiftLeft_eq]; omega
theorem zlushr_n {a k : Nat} (ha : a < 2 ^ 61) (hk : k ≤ 60) : zf_lushr (a : Int) (k : Int) = ((a >>> k : Nat) : Int) := by
  unfold zf_lushr
  have key : ∀ b : Fin 61, ((Int32.ofInt (b.val : Int)).toInt64.toUInt64 &&& Int64.toUInt64 63) = UInt64.ofNat b.val := by decide +kernel
  have e := key ⟨k, by omega⟩
  simp only at e
  rw [e]
  have h9 : a >>> k ≤ a := by rw [Nat.shiftRight_eq_div_pow]; exact Nat.div_le_self _ _
  refine z64n ?_ (by omega)
  show ((Int64.ofInt (a : Int)).toUInt64 >>> UInt64.ofNat k).toNat = _
  rw [UInt64.toNat_shiftRight]
  have e3 : (UInt64.ofNat k).toNat % 64 = k := by rw [UInt64.toNat_ofNat']; omega
  rw [e3]
  have e4 : (Int64.ofInt (a : Int)).toUInt64.toNat = a := z64b (by omega)
  rw [e4]
def zBt (x : Int) (f : Nat → Bool) : Prop := ∃ b : Nat, x = (b : Int) ∧ b < 2 ^ 61 ∧ ∀ k, k ≤ 60 → b.testBit k = f k
theorem zBt_0 : zBt 0 (fun _ => false) := ⟨0, rfl, by omega, fun k _ => Nat.zero_testBit k⟩
theorem zBt_1 : zBt 1 (fun k => k == 0) := ⟨1, rfl, by omega, fun k _ => by
  cases k with
  | zero => rfl
  | succ k => simp [Nat.testBit_succ]⟩
theorem zBt_cg {x : Int} {f g : Nat → Bool} (h : zBt x f) (e : ∀ k, k ≤ 60 → f k = g k) : zBt x g := by
  obtain ⟨b, h1, h2, h3⟩ := h
  exact ⟨b, h1, h2, fun k hk => (h3 k hk).trans (e k hk)⟩
theorem zBt_or {x y : Int} {f g : Nat → Bool} (h : zBt x f) (h' : zBt y g) : zBt (zf_lor x y) (fun k => f k || g k) := by
  obtain ⟨a, rfl, ha, hf⟩ := h
  obtain ⟨b, rfl, hb, hg⟩ := h'
  refine ⟨a ||| b, zlor_n ha hb, Nat.or_lt_two_pow ha hb, fun k hk => ?_⟩
  rw [Nat.testBit_or, hf k hk, hg k hk]
theorem zBt_sh {x : Int} {f : Nat → Bool} (h : zBt x f) : zBt (zf_land (zf_lshl x 1) 2305843009213693951) (fun k => match k with | 0 => false | k + 1 => f k) := by
  obtain ⟨a, rfl, ha, hf⟩ := h
  refine ⟨2 * a % 2 ^ 61, ?_, Nat.mod_lt _ (by decide), fun k hk => ?_⟩
  · rw [zlshl_n ha, show (2305843009213693951 : Int) = ((2 ^ 61 - 1 : Nat) : Int) by decide, zland_n (by omega) (by decide), Nat.and_two_pow_sub_one_eq_mod]
  · rw [Nat.testBit_mod_two_pow]
    cases k with
    | zero => simp [Nat.testBit_zero]
    | succ k =>
      rw [Nat.testBit_succ, show 2 * a / 2 = a by omega, hf k (by omega)]
      simp; omega
theorem zBt_at {x : Int} {f : Nat → Bool} {k : Nat} (h : zBt x f) (hk : k ≤ 60) : zf_land (zf_lushr x (k : Int)) 1 = if f k then 1 else 0 := by
  obtain ⟨a, rfl, ha, hf⟩ := h
  have h9 : a >>> k ≤ a := by rw [Nat.shiftRight_eq_div_pow]; exact Nat.div_le_self _ _
  rw [zlushr_n ha hk, show (1 : Int) = ((1 : Nat) : Int) from rfl, zland_n (by omega) (by decide), ← hf k hk, Nat.testBit]
  rw [show (a >>> k) &&& 1 = a >>> k % 2 from Nat.and_one_is_mod _, show 1 &&& (a >>> k) = a >>> k % 2 by rw [Nat.and_comm]; exact Nat.and_one_is_mod _]
  have := Nat.mod_two_eq_zero_or_one (a >>> k)
  rcases this with e | e <;> rw [e] <;> rfl
