/-! the TAPE fed -/
theorem zbv8 (x : BitVec 32) (s : Nat) (hs : s ≤ 24) : (x >>> s) &&& 255#32 = (x.sshiftRight s) &&& 255#32 := by
  apply BitVec.eq_of_getLsbD_eq
  intro i hi
  rw [BitVec.getLsbD_and, BitVec.getLsbD_and, BitVec.getLsbD_ushiftRight, BitVec.getLsbD_sshiftRight]
  by_cases h8 : i < 8
  · have h9 : s + i < 32 := by omega
    rw [if_pos h9, decide_eq_false (show ¬ 32 ≤ i by omega)]
    simp
  · have e : (255#32).getLsbD i = false := by
      rw [BitVec.getLsbD_ofNat, Nat.testBit_lt_two_pow (show 255 < 2 ^ i from Nat.lt_of_lt_of_le (show 255 < 2 ^ 8 by decide) (Nat.pow_le_pow_right (by decide) (by omega)))]
      exact Bool.and_false _
    rw [e, Bool.and_false, Bool.and_false]
theorem zsh_0 (v : Int) : zf_iand (zf_iushr v 0) 255 = zf_iand (zf_ishr v 0) 255 := by
  unfold zf_iand zf_iushr zf_ishr
  rw [z32o, z32o]
  congr 1
  apply Int32.toBitVec_inj.1
  rw [Int32.toBitVec_and, Int32.toBitVec_and]
  have e1 : ((Int32.ofInt 0).toUInt32 &&& Int32.toUInt32 31) = UInt32.ofNat 0 := by decide
  have e2 : (Int32.ofInt 0 &&& 31) = Int32.ofNat 0 := by decide
  rw [e1, e2]
  have e3 : ((Int32.ofInt v).toUInt32 >>> UInt32.ofNat 0).toInt32.toBitVec = (Int32.ofInt v).toBitVec >>> 0 := by
    show ((Int32.ofInt v).toUInt32 >>> UInt32.ofNat 0).toBitVec = _
    rw [UInt32.toBitVec_shiftRight]
    have e5 : (UInt32.ofNat 0).toBitVec % 32 = 0#32 := by decide
    rw [e5]; rfl
  have e4 : (Int32.ofInt v >>> Int32.ofNat 0).toBitVec = (Int32.ofInt v).toBitVec.sshiftRight 0 := by
    rw [Int32.toBitVec_shiftRight]
    have e5 : (Int32.ofNat 0).toBitVec.smod 32 = 0#32 := by decide
    rw [e5]; rfl
  rw [e3, e4]
  exact zbv8 _ 0 (by decide)
theorem zsh_8 (v : Int) : zf_iand (zf_iushr v 8) 255 = zf_iand (zf_ishr v 8) 255 := by
  unfold zf_iand zf_iushr zf_ishr
  rw [z32o, z32o]
  congr 1
  apply Int32.toBitVec_inj.1
  rw [Int32.toBitVec_and, Int32.toBitVec_and]
  have e1 : ((Int32.ofInt 8).toUInt32 &&& Int32.toUInt32 31) = UInt32.ofNat 8 := by decide
  have e2 : (Int32.ofInt 8 &&& 31) = Int32.ofNat 8 := by decide
  rw [e1, e2]
  have e3 : ((Int32.ofInt v).toUInt32 >>> UInt32.ofNat 8).toInt32.toBitVec = (Int32.ofInt v).toBitVec >>> 8 := by
    show ((Int32.ofInt v).toUInt32 >>> UInt32.ofNat 8).toBitVec = _
    rw [UInt32.toBitVec_shiftRight]
    have e5 : (UInt32.ofNat 8).toBitVec % 32 = 8#32 := by decide
    rw [e5]; rfl
  have e4 : (Int32.ofInt v >>> Int32.ofNat 8).toBitVec = (Int32.ofInt v).toBitVec.sshiftRight 8 := by
    rw [Int32.toBitVec_shiftRight]
    have e5 : (Int32.ofNat 8).toBitVec.smod 32 = 8#32 := by decide
    rw [e5]; rfl
  rw [e3, e4]
  exact zbv8 _ 8 (by decide)
theorem zsh_16 (v : Int) : zf_iand (zf_iushr v 16) 255 = zf_iand (zf_ishr v 16) 255 := by
  unfold zf_iand zf_iushr zf_ishr
  rw [z32o, z32o]
  congr 1
  apply Int32.toBitVec_inj.1
  rw [Int32.toBitVec_and, Int32.toBitVec_and]
  have e1 : ((Int32.ofInt 16).toUInt32 &&& Int32.toUInt32 31) = UInt32.ofNat 16 := by decide
  have e2 : (Int32.ofInt 16 &&& 31) = Int32.ofNat 16 := by decide
  rw [e1, e2]
  have e3 : ((Int32.ofInt v).toUInt32 >>> UInt32.ofNat 16).toInt32.toBitVec = (Int32.ofInt v).toBitVec >>> 16 := by
    show ((Int32.ofInt v).toUInt32 >>> UInt32.ofNat 16).toBitVec = _
    rw [UInt32.toBitVec_shiftRight]
    have e5 : (UInt32.ofNat 16).toBitVec % 32 = 16#32 := by decide
    rw [e5]; rfl
  have e4 : (Int32.ofInt v >>> Int32.ofNat 16).toBitVec = (Int32.ofInt v).toBitVec.sshiftRight 16 := by
    rw [Int32.toBitVec_shiftRight]
    have e5 : (Int32.ofNat 16).toBitVec.smod 32 = 16#32 := by decide
    rw [e5]; rfl
  rw [e3, e4]
  exact zbv8 _ 16 (by decide)
theorem zsh_24 (v : Int) : zf_iand (zf_iushr v 24) 255 = zf_iand (zf_ishr v 24) 255 := by
  unfold zf_iand zf_iushr zf_ishr
  rw [z32o, z32o]
  congr 1
  apply Int32.toBitVec_inj.1
  rw [Int32.toBitVec_and, Int32.toBitVec_and]
  have e1 : ((Int32.ofInt 24).toUInt32 &&& Int32.toUInt32 31) = UInt32.ofNat 24 := by decide
  have e2 : (Int32.ofInt 24 &&& 31) = Int32.ofNat 24 := by decide
  rw [e1, e2]
  have e3 : ((Int32.ofInt v).toUInt32 >>> UInt32.ofNat 24).toInt32.toBitVec = (Int32.ofInt v).toBitVec >>> 24 := by
    show ((Int32.ofInt v).toUInt32 >>> UInt32.ofNat 24).toBitVec = _
    rw [UInt32.toBitVec_shiftRight]
    have e5 : (UInt32.ofNat 24).toBitVec % 32 = 24#32 := by decide
    rw [e5]; rfl
  have e4 : (Int32.ofInt v >>> Int32.ofNat 24).toBitVec = (Int32.ofInt v).toBitVec.sshiftRight 24 := by
    rw [Int32.toBitVec_shiftRight]
    have e5 : (Int32.ofNat 24).toBitVec.smod 32 = 24#32 := by decide
    rw [e5]; rfl
  rw [e3, e4]
  exact zbv8 _ 24 (by decide)
theorem zand255g (y : Int) : zf_iand y 255 = y % 256 := by
  unfold zf_iand
  have h1 : (Int32.ofInt y &&& Int32.ofInt 255).toBitVec.toNat = (y % 4294967296).toNat % 256 := by
    rw [Int32.toBitVec_and, BitVec.toNat_and]
    have e1 : (Int32.ofInt y).toBitVec.toNat = (y % 4294967296).toNat := by
      rw [Int32.toBitVec_ofInt, BitVec.toNat_ofInt]; rfl
    have e2 : (Int32.ofInt 255).toBitVec.toNat = 2 ^ 8 - 1 := by decide
    rw [e1, e2, Nat.and_two_pow_sub_one_eq_mod]
  rw [z32n h1 (by omega)]
  omega
theorem zi2bg {y : Int} (hy : zo32 y) : zf_i2b y % 256 = y % 256 ∧ -128 ≤ zf_i2b y ∧ zf_i2b y < 128 := by
  have e : zf_i2b y = y.bmod 256 := by
    unfold zf_i2b
    rw [Int8.toInt_toInt32, Int32.toInt_toInt8, z32t hy]
  rw [e, Int.bmod_def]
  split <;> omega
/-- the k-th byte of a number from behind -/
def zyt (v : Int) (k : Nat) : Int := zf_iand (zf_ishr v (8 * (k : Int) - 8)) 255
theorem zyt_b (v : Int) (k : Nat) : 0 ≤ zyt v k ∧ zyt v k ≤ 255 := by unfold zyt; rw [zand255g]; omega
theorem zyt_u {v : Int} {k : Nat} (h : 1 ≤ k ∧ k ≤ 4) : zf_iand (zf_iushr v (8 * (k : Int) - 8)) 255 = zyt v k := by
  unfold zyt
  rcases (show k = 1 ∨ k = 2 ∨ k = 3 ∨ k = 4 by omega) with rfl | rfl | rfl | rfl
  · exact zsh_0 v
  · exact zsh_8 v
  · exact zsh_16 v
  · exact zsh_24 v
def zyn (v : Int) : Nat → Nat
  | 0 => 0
  | k + 1 => zyn v k + (if zyt v (k + 1) = 0 then 0 else 1)
theorem zyn_y {v : Int} {k : Nat} (h : zyt v (k + 1) = 0) : zyn v (k + 1) = zyn v k := by rw [zyn, if_pos h, Nat.add_zero]
theorem zyn_n {v : Int} {k : Nat} (h : zyt v (k + 1) ≠ 0) : zyn v (k + 1) = zyn v k + 1 := by rw [zyn, if_neg h]
theorem zyn_b (v : Int) : ∀ k, zyn v k ≤ k
  | 0 => Nat.le_refl _
  | k + 1 => by have := zyn_b v k; unfold zyn; split <;> omega
abbrev zTp := Nat × (Nat → Int)
def zaS (v : Int) : Nat → zTp → zTp
  | 0, S => S
  | k + 1, S => zaS v k (if zyt v (k + 1) = 0 then S else (S.1 + 1, fun j => if j = S.1 then zyt v (k + 1) else S.2 j))
theorem zaS_1 (v : Int) : ∀ k (S : zTp), (zaS v k S).1 = S.1 + zyn v k
  | 0, S => rfl
  | k + 1, S => by
    rw [zaS, zaS_1 v k]
    by_cases e : zyt v (k + 1) = 0
    · rw [if_pos e, zyn_y e]
    · rw [if_neg e, zyn_n e]; show S.1 + 1 + _ = _; omega
theorem zaS_y {v : Int} {k : Nat} {S : zTp} (h : zyt v (k + 1) = 0) : zaS v (k + 1) S = zaS v k S := by rw [zaS, if_pos h]
theorem zaS_n {v : Int} {k : Nat} {S : zTp} (h : zyt v (k + 1) ≠ 0) : zaS v (k + 1) S = zaS v k (S.1 + 1, fun j => if j = S.1 then zyt v (k + 1) else S.2 j) := by rw [zaS, if_neg h]
set_option maxRecDepth 4000 in
theorem X8_bytesIn_l {l : Launch} {Γ : zC} {h : zM} {Q : Option zV → zC → zM → Prop} {v : Int} {V : Nat} (hQ : Q (some (zI (V : Int))) Γ h) : ∀ (m : Nat) (k : Nat) (n : Int), k < m → k ≤ 4 → (0 ≤ n ∧ n ≤ 4 - k) → n + (zyn v k : Int) = (V : Int) → zG (zFn l mX8_bytesIn 0 0 0 Γ Q) 0 0 Γ h 5 [some (zI v), some (zI n), some (zI (8 * (k : Int) - 8))] [] := by
  intro m
  induction m with
  | zero => intros; omega
  | succ m ih =>
    intro k n hm hk hn hV
    refine z_il2 dX8_bytesIn_5 ?_
    refine z_if_lt (t := 28) dX8_bytesIn_6 (by rfl) (fun ht6 => ?_) (fun hf6 => ?_)
    · refine z_il1 dX8_bytesIn_28 ?_
      refine z_iret dX8_bytesIn_29 rfl (Nat.le_refl _) (Nat.le_refl _) (zext_rf _) (fun hrr => ?_)
      rw [show k = 0 by omega] at hV
      have hV2 : n = (V : Int) := by rw [← hV]; show n = n + ((0 : Nat) : Int); omega
      subst hV2
      exact hQ
    · obtain ⟨j, rfl⟩ : ∃ j, k = j + 1 := ⟨k - 1, by omega⟩
      refine z_il0 dX8_bytesIn_9 ?_
      refine z_il2 dX8_bytesIn_10 ?_
      refine z_iushr dX8_bytesIn_11 ?_
      refine z_sipush (x := 255) dX8_bytesIn_12 (by rfl) (by decide) ?_
      refine z_iand dX8_bytesIn_15 ?_
      rw [zyt_u (by omega)]
      refine z_if_eq (t := 22) dX8_bytesIn_16 (by rfl) (fun ht16 => ?_) (fun hf16 => ?_)
      · refine z_ii2 dX8_bytesIn_22 (by omega) (Nat.le_of_ble_eq_true rfl) rfl ?_
        refine z_goto (t := 5) dX8_bytesIn_25 (by rfl) ?_
        have es : 8 * ((j + 1 : Nat) : Int) - 8 + -8 = 8 * (j : Int) - 8 := by omega
        rw [es]
        first
        | (refine ih j _ (by omega) (by omega) (by omega) ?_
           rw [zyn_y (by omega)] at hV; omega)
        | (refine ih j _ (by omega) (by omega) (by omega) ?_
           rw [zyn_n (by omega)] at hV; omega)
      · refine z_ii1 dX8_bytesIn_19 (by omega) (Nat.le_of_ble_eq_true rfl) rfl ?_
        refine z_ii2 dX8_bytesIn_22 (by omega) (Nat.le_of_ble_eq_true rfl) rfl ?_
        refine z_goto (t := 5) dX8_bytesIn_25 (by rfl) ?_
        have es : 8 * ((j + 1 : Nat) : Int) - 8 + -8 = 8 * (j : Int) - 8 := by omega
        rw [es]
        first
        | (refine ih j _ (by omega) (by omega) (by omega) ?_
           rw [zyn_y (by omega)] at hV; omega)
        | (refine ih j _ (by omega) (by omega) (by omega) ?_
           rw [zyn_n (by omega)] at hV; omega)
set_option maxRecDepth 4000 in
theorem X8_bytesIn_ct {l : Launch} {Γ : zC} {h : zM} {Q : Option zV → zC → zM → Prop} {v : Int} (hQ : Q (some (zI (zyn v 4 : Int))) Γ h) : zCT l mX8_bytesIn 0 0 0 Γ [zI v] h Q := by
  refine zCT_of (by decide) (Nat.le_of_ble_eq_true rfl) (ls := [some (zI v), none, none]) rfl ?_
  refine z_iconst dX8_bytesIn_0 (by decide) ?_
  refine z_is1 dX8_bytesIn_1 (Nat.le_of_ble_eq_true rfl) rfl ?_
  refine z_bipush (x := 24) dX8_bytesIn_2 (by rfl) (by decide) ?_
  refine z_is2 dX8_bytesIn_4 (Nat.le_of_ble_eq_true rfl) rfl ?_
  exact X8_bytesIn_l hQ _ 4 0 (Nat.lt_succ_self _) (by omega) (by omega) (by omega)
set_option maxRecDepth 4000 in
theorem X9_bytesIn_l {l : Launch} {Γ : zC} {h : zM} {Q : Option zV → zC → zM → Prop} {v : Int} {V : Nat} (hQ : Q (some (zI (V : Int))) Γ h) : ∀ (m : Nat) (k : Nat) (n : Int), k < m → k ≤ 4 → (0 ≤ n ∧ n ≤ 4 - k) → n + (zyn v k : Int) = (V : Int) → zG (zFn l mX9_bytesIn 0 0 0 Γ Q) 0 0 Γ h 5 [some (zI v), some (zI n), some (zI (8 * (k : Int) - 8))] [] := by
  intro m
  induction m with
  | zero => intros; omega
  | succ m ih =>
    intro k n hm hk hn hV
    refine z_il2 dX9_bytesIn_5 ?_
    refine z_if_lt (t := 33) dX9_bytesIn_6 (by rfl) (fun ht6 => ?_) (fun hf6 => ?_)
    · refine z_il1 dX9_bytesIn_33 ?_
      refine z_iret dX9_bytesIn_34 rfl (Nat.le_refl _) (Nat.le_refl _) (zext_rf _) (fun hrr => ?_)
      rw [show k = 0 by omega] at hV
      have hV2 : n = (V : Int) := by rw [← hV]; show n = n + ((0 : Nat) : Int); omega
      subst hV2
      exact hQ
    · obtain ⟨j, rfl⟩ : ∃ j, k = j + 1 := ⟨k - 1, by omega⟩
      refine z_il1 dX9_bytesIn_9 ?_
      refine z_il0 dX9_bytesIn_10 ?_
      refine z_il2 dX9_bytesIn_11 ?_
      refine z_ishr dX9_bytesIn_12 ?_
      refine z_sipush (x := 255) dX9_bytesIn_13 (by rfl) (by decide) ?_
      refine z_iand dX9_bytesIn_16 ?_
      rw [show zf_iand (zf_ishr v (8 * ((j + 1 : Nat) : Int) - 8)) 255 = zyt v (j + 1) from rfl]
      refine z_if_eq (t := 24) dX9_bytesIn_17 (by rfl) (fun ht17 => ?_) (fun hf17 => ?_)
      · refine z_iconst dX9_bytesIn_24 (by decide) ?_
        refine z_iadd dX9_bytesIn_25 (by omega) ?_
        refine z_is1 dX9_bytesIn_26 (Nat.le_of_ble_eq_true rfl) rfl ?_
        refine z_ii2 dX9_bytesIn_27 (by omega) (Nat.le_of_ble_eq_true rfl) rfl ?_
        refine z_goto (t := 5) dX9_bytesIn_30 (by rfl) ?_
        have es : 8 * ((j + 1 : Nat) : Int) - 8 + -8 = 8 * (j : Int) - 8 := by omega
        rw [es]
        first
        | (refine ih j _ (by omega) (by omega) (by omega) ?_
           rw [zyn_y (by omega)] at hV; omega)
        | (refine ih j _ (by omega) (by omega) (by omega) ?_
           rw [zyn_n (by omega)] at hV; omega)
      · refine z_iconst dX9_bytesIn_20 (by decide) ?_
        refine z_goto (t := 25) dX9_bytesIn_21 (by rfl) ?_
        refine z_iadd dX9_bytesIn_25 (by omega) ?_
        refine z_is1 dX9_bytesIn_26 (Nat.le_of_ble_eq_true rfl) rfl ?_
        refine z_ii2 dX9_bytesIn_27 (by omega) (Nat.le_of_ble_eq_true rfl) rfl ?_
        refine z_goto (t := 5) dX9_bytesIn_30 (by rfl) ?_
        have es : 8 * ((j + 1 : Nat) : Int) - 8 + -8 = 8 * (j : Int) - 8 := by omega
        rw [es]
        first
        | (refine ih j _ (by omega) (by omega) (by omega) ?_
           rw [zyn_y (by omega)] at hV; omega)
        | (refine ih j _ (by omega) (by omega) (by omega) ?_
           rw [zyn_n (by omega)] at hV; omega)
set_option maxRecDepth 4000 in
theorem X9_bytesIn_ct {l : Launch} {Γ : zC} {h : zM} {Q : Option zV → zC → zM → Prop} {v : Int} (hQ : Q (some (zI (zyn v 4 : Int))) Γ h) : zCT l mX9_bytesIn 0 0 0 Γ [zI v] h Q := by
  refine zCT_of (by decide) (Nat.le_of_ble_eq_true rfl) (ls := [some (zI v), none, none]) rfl ?_
  refine z_iconst dX9_bytesIn_0 (by decide) ?_
  refine z_is1 dX9_bytesIn_1 (Nat.le_of_ble_eq_true rfl) rfl ?_
  refine z_bipush (x := 24) dX9_bytesIn_2 (by rfl) (by decide) ?_
  refine z_is2 dX9_bytesIn_4 (Nat.le_of_ble_eq_true rfl) rfl ?_
  exact X9_bytesIn_l hQ _ 4 0 (Nat.lt_succ_self _) (by omega) (by omega) (by omega)
set_option maxRecDepth 4000 in
theorem X5_add_l {l : Launch} {Γ : zC} {h1 : zM} {Q : Option zV → zC → zM → Prop} {v : Int} (hΓ : zBase Γ) : ∀ (m : Nat) (k : Nat) (S : zTp) (y : Option zV) (h : zM), k < m → k ≤ 4 → (∀ q, q ≠ 2 → q ≠ 3 → h q = h1 q) → (∀ i, i ≠ 1 → h 2 i = h1 2 i) → h 2 1 = (S.1 : Int) → (∀ j, j < S.1 → h 3 j = S.2 j) → S.1 + zyn v k ≤ 160 → (∀ h9, (∀ q, q ≠ 2 → q ≠ 3 → h9 q = h1 q) → (∀ i, i ≠ 1 → h9 2 i = h1 2 i) → h9 2 1 = ((zaS v k S).1 : Int) → (∀ j, j < (zaS v k S).1 → h9 3 j = (zaS v k S).2 j) → Q none Γ h9) → zG (zFn l mX5_add 0 0 0 Γ Q) 0 0 Γ h 3 [some (zR 2), some (zI v), some (zI (8 * (k : Int) - 8)), y] [] := by
  intro m
  induction m with
  | zero => intros; omega
  | succ m ih =>
    intro k S y h hm hk hE hE2 hL hD hB hQ
    refine z_il2 dX5_add_3 ?_
    refine z_if_lt (t := 64) dX5_add_4 (by rfl) (fun ht4 => ?_) (fun hf4 => ?_)
    · refine z_ret dX5_add_64 rfl (Nat.le_refl _) (Nat.le_refl _) (zext_rf _) ?_
      rw [show k = 0 by omega] at hQ
      exact hQ h hE hE2 hL hD
    · obtain ⟨j, rfl⟩ : ∃ j, k = j + 1 := ⟨k - 1, by omega⟩
      refine z_il1 dX5_add_7 ?_
      refine z_il2 dX5_add_8 ?_
      refine z_iushr dX5_add_9 ?_
      refine z_sipush (x := 255) dX5_add_10 (by rfl) (by decide) ?_
      refine z_iand dX5_add_13 ?_
      rw [zyt_u (by omega)]
      have hyb := zyt_b v (j + 1)
      refine z_is3 dX5_add_14 (Nat.le_of_ble_eq_true rfl) rfl ?_
      refine z_il3 dX5_add_15 ?_
      refine z_if_eq (t := 58) dX5_add_16 (by rfl) (fun ht16 => ?_) (fun hf16 => ?_)
      · refine z_ii2 dX5_add_58 (by omega) (Nat.le_of_ble_eq_true rfl) rfl ?_
        refine z_goto (t := 3) dX5_add_61 (by rfl) ?_
        have es : 8 * ((j + 1 : Nat) : Int) - 8 + -8 = 8 * (j : Int) - 8 := by omega
        rw [es]
        first
        | (rw [zaS_y (by omega)] at hQ
           rw [zyn_y (by omega)] at hB
           exact ih j S _ _ (by omega) (by omega) hE hE2 hL hD hB hQ)
        | (rw [zaS_n (by omega)] at hQ
           rw [zyn_n (by omega)] at hB
           refine ih j (S.1 + 1, fun i => if i = S.1 then zyt v (j + 1) else S.2 i) _ _ (by omega) (by omega) (fun q a b => ?_) (fun i a => ?_) ?_ (fun i hi => ?_) (by show S.1 + 1 + _ ≤ 160; omega) hQ
           · rw [zup_row a, zup_row b]; exact hE q a b
           · rw [zup_ap, if_neg (fun x => a x.2), zup_row (by decide)]; exact hE2 i a
           · rw [zup_ap]; refine (if_pos ⟨rfl, rfl⟩).trans ?_; show (S.1 : Int) + 1 = ((S.1 + 1 : Nat) : Int); omega
           · rw [zup_row (by decide)]
             show _ = (if i = S.1 then zyt v (j + 1) else S.2 i)
             by_cases e : i = S.1
             · rw [if_pos e, e, zup_ap]; exact if_pos ⟨rfl, by omega⟩
             · rw [if_neg e, zup_ap, if_neg (fun x => e (by have := x.2; omega))]
               exact hD i (by have hi2 : i < S.1 + 1 := hi; omega))
      · have hzn := zyn_n (v := v) (k := j) (by omega)
        refine z_al0 dX5_add_19 (by first | decide | omega | assumption) ?_
        refine z_getI zfX5_15 dX5_add_20 (zkB hΓ rfl) rfl ?_
        try simp only [zup_ap, zup_row, ne_eq, not_false_eq_true, zres, Int.toNat_natCast, reduceIte, Nat.reduceEqDiff, Nat.reduceAdd, and_self, and_true, true_and, and_false, false_and]
        try rw [hL]
        try simp only [zup_ap, zup_row, ne_eq, not_false_eq_true, zres, Int.toNat_natCast, reduceIte, Nat.reduceEqDiff, Nat.reduceAdd, and_self, and_true, true_and, and_false, false_and]
        refine z_if_lt (t := 58) dX5_add_23 (by rfl) (fun ht23 => ?_) (fun hf23 => ?_)
        · first
          | (exfalso; omega)
          | (refine z_ii2 dX5_add_58 (by omega) (Nat.le_of_ble_eq_true rfl) rfl ?_
             refine z_goto (t := 3) dX5_add_61 (by rfl) ?_
             have es : 8 * ((j + 1 : Nat) : Int) - 8 + -8 = 8 * (j : Int) - 8 := by omega
             rw [es]
             first
             | (rw [zaS_y (by omega)] at hQ
                rw [zyn_y (by omega)] at hB
                exact ih j S _ _ (by omega) (by omega) hE hE2 hL hD hB hQ)
             | (rw [zaS_n (by omega)] at hQ
                rw [zyn_n (by omega)] at hB
                refine ih j (S.1 + 1, fun i => if i = S.1 then zyt v (j + 1) else S.2 i) _ _ (by omega) (by omega) (fun q a b => ?_) (fun i a => ?_) ?_ (fun i hi => ?_) (by show S.1 + 1 + _ ≤ 160; omega) hQ
                · rw [zup_row a, zup_row b]; exact hE q a b
                · rw [zup_ap, if_neg (fun x => a x.2), zup_row (by decide)]; exact hE2 i a
                · rw [zup_ap]; refine (if_pos ⟨rfl, rfl⟩).trans ?_; show (S.1 : Int) + 1 = ((S.1 + 1 : Nat) : Int); omega
                · rw [zup_row (by decide)]
                  show _ = (if i = S.1 then zyt v (j + 1) else S.2 i)
                  by_cases e : i = S.1
                  · rw [if_pos e, e, zup_ap]; exact if_pos ⟨rfl, by omega⟩
                  · rw [if_neg e, zup_ap, if_neg (fun x => e (by have := x.2; omega))]
                    exact hD i (by have hi2 : i < S.1 + 1 := hi; omega)))
        · first
          | (exfalso; omega)
          | (refine z_al0 dX5_add_26 (by first | decide | omega | assumption) ?_
             refine z_getI zfX5_15 dX5_add_27 (zkB hΓ rfl) rfl ?_
             try simp only [zup_ap, zup_row, ne_eq, not_false_eq_true, zres, Int.toNat_natCast, reduceIte, Nat.reduceEqDiff, Nat.reduceAdd, and_self, and_true, true_and, and_false, false_and]
             try rw [hL]
             try simp only [zup_ap, zup_row, ne_eq, not_false_eq_true, zres, Int.toNat_natCast, reduceIte, Nat.reduceEqDiff, Nat.reduceAdd, and_self, and_true, true_and, and_false, false_and]
             refine z_al0 dX5_add_30 (by first | decide | omega | assumption) ?_
             refine z_getR zfX5_9 dX5_add_31 (zkB hΓ rfl) rfl (zsB hΓ rfl) (zvB hΓ (by decide)) ?_
             refine z_alen dX5_add_34 (zkB hΓ rfl) (by decide) ?_
             refine z_icmp_ge (t := 58) dX5_add_35 (by rfl) (fun ht35 => ?_) (fun hf35 => ?_)
             · first
               | (exfalso; omega)
               | (refine z_ii2 dX5_add_58 (by omega) (Nat.le_of_ble_eq_true rfl) rfl ?_
                  refine z_goto (t := 3) dX5_add_61 (by rfl) ?_
                  have es : 8 * ((j + 1 : Nat) : Int) - 8 + -8 = 8 * (j : Int) - 8 := by omega
                  rw [es]
                  first
                  | (rw [zaS_y (by omega)] at hQ
                     rw [zyn_y (by omega)] at hB
                     exact ih j S _ _ (by omega) (by omega) hE hE2 hL hD hB hQ)
                  | (rw [zaS_n (by omega)] at hQ
                     rw [zyn_n (by omega)] at hB
                     refine ih j (S.1 + 1, fun i => if i = S.1 then zyt v (j + 1) else S.2 i) _ _ (by omega) (by omega) (fun q a b => ?_) (fun i a => ?_) ?_ (fun i hi => ?_) (by show S.1 + 1 + _ ≤ 160; omega) hQ
                     · rw [zup_row a, zup_row b]; exact hE q a b
                     · rw [zup_ap, if_neg (fun x => a x.2), zup_row (by decide)]; exact hE2 i a
                     · rw [zup_ap]; refine (if_pos ⟨rfl, rfl⟩).trans ?_; show (S.1 : Int) + 1 = ((S.1 + 1 : Nat) : Int); omega
                     · rw [zup_row (by decide)]
                       show _ = (if i = S.1 then zyt v (j + 1) else S.2 i)
                       by_cases e : i = S.1
                       · rw [if_pos e, e, zup_ap]; exact if_pos ⟨rfl, by omega⟩
                       · rw [if_neg e, zup_ap, if_neg (fun x => e (by have := x.2; omega))]
                         exact hD i (by have hi2 : i < S.1 + 1 := hi; omega)))
             · first
               | (exfalso; omega)
               | (refine z_al0 dX5_add_38 (by first | decide | omega | assumption) ?_
                  refine z_getR zfX5_9 dX5_add_39 (zkB hΓ rfl) rfl (zsB hΓ rfl) (zvB hΓ (by decide)) ?_
                  refine z_al0 dX5_add_42 (by first | decide | omega | assumption) ?_
                  refine z_getI zfX5_15 dX5_add_43 (zkB hΓ rfl) rfl ?_
                  try simp only [zup_ap, zup_row, ne_eq, not_false_eq_true, zres, Int.toNat_natCast, reduceIte, Nat.reduceEqDiff, Nat.reduceAdd, and_self, and_true, true_and, and_false, false_and]
                  try rw [hL]
                  try simp only [zup_ap, zup_row, ne_eq, not_false_eq_true, zres, Int.toNat_natCast, reduceIte, Nat.reduceEqDiff, Nat.reduceAdd, and_self, and_true, true_and, and_false, false_and]
                  refine z_il3 dX5_add_46 ?_
                  refine z_iast dX5_add_47 (zkB hΓ rfl) (by omega) (by omega) ?_
                  refine z_al0 dX5_add_48 (by first | decide | omega | assumption) ?_
                  refine z_dup dX5_add_49 rfl ?_
                  refine z_getI zfX5_15 dX5_add_50 (zkB hΓ rfl) rfl ?_
                  try simp only [zup_ap, zup_row, ne_eq, not_false_eq_true, zres, Int.toNat_natCast, reduceIte, Nat.reduceEqDiff, Nat.reduceAdd, and_self, and_true, true_and, and_false, false_and]
                  try rw [hL]
                  try simp only [zup_ap, zup_row, ne_eq, not_false_eq_true, zres, Int.toNat_natCast, reduceIte, Nat.reduceEqDiff, Nat.reduceAdd, and_self, and_true, true_and, and_false, false_and]
                  refine z_iconst dX5_add_53 (by decide) ?_
                  refine z_iadd dX5_add_54 (by omega) ?_
                  refine z_putI zfX5_15 dX5_add_55 (zkB hΓ rfl) rfl rfl ?_
                  refine z_ii2 dX5_add_58 (by omega) (Nat.le_of_ble_eq_true rfl) rfl ?_
                  refine z_goto (t := 3) dX5_add_61 (by rfl) ?_
                  have es : 8 * ((j + 1 : Nat) : Int) - 8 + -8 = 8 * (j : Int) - 8 := by omega
                  rw [es]
                  first
                  | (rw [zaS_y (by omega)] at hQ
                     rw [zyn_y (by omega)] at hB
                     exact ih j S _ _ (by omega) (by omega) hE hE2 hL hD hB hQ)
                  | (rw [zaS_n (by omega)] at hQ
                     rw [zyn_n (by omega)] at hB
                     refine ih j (S.1 + 1, fun i => if i = S.1 then zyt v (j + 1) else S.2 i) _ _ (by omega) (by omega) (fun q a b => ?_) (fun i a => ?_) ?_ (fun i hi => ?_) (by show S.1 + 1 + _ ≤ 160; omega) hQ
                     · rw [zup_row a, zup_row b]; exact hE q a b
                     · rw [zup_ap, if_neg (fun x => a x.2), zup_row (by decide)]; exact hE2 i a
                     · rw [zup_ap]; refine (if_pos ⟨rfl, rfl⟩).trans ?_; show (S.1 : Int) + 1 = ((S.1 + 1 : Nat) : Int); omega
                     · rw [zup_row (by decide)]
                       show _ = (if i = S.1 then zyt v (j + 1) else S.2 i)
                       by_cases e : i = S.1
                       · rw [if_pos e, e, zup_ap]; exact if_pos ⟨rfl, by omega⟩
                       · rw [if_neg e, zup_ap, if_neg (fun x => e (by have := x.2; omega))]
                         exact hD i (by have hi2 : i < S.1 + 1 := hi; omega))))
set_option maxRecDepth 4000 in
theorem X5_add_ct {l : Launch} {Γ : zC} {h1 : zM} {Q : Option zV → zC → zM → Prop} {v : Int} {S : zTp} (hΓ : zBase Γ) (hL : h1 2 1 = (S.1 : Int)) (hD : ∀ j, j < S.1 → h1 3 j = S.2 j) (hB : S.1 + zyn v 4 ≤ 160) (hQ : ∀ h9, (∀ q, q ≠ 2 → q ≠ 3 → h9 q = h1 q) → (∀ i, i ≠ 1 → h9 2 i = h1 2 i) → h9 2 1 = ((zaS v 4 S).1 : Int) → (∀ j, j < (zaS v 4 S).1 → h9 3 j = (zaS v 4 S).2 j) → Q none Γ h9) : zCT l mX5_add 0 0 0 Γ [zR 2, zI v] h1 Q := by
  refine zCT_of (by decide) (Nat.le_of_ble_eq_true rfl) (ls := [some (zR 2), some (zI v), none, none]) rfl ?_
  refine z_bipush (x := 24) dX5_add_0 (by rfl) (by decide) ?_
  refine z_is2 dX5_add_2 (Nat.le_of_ble_eq_true rfl) rfl ?_
  exact X5_add_l hΓ _ 4 S _ _ (Nat.lt_succ_self _) (by omega) (fun _ _ _ => rfl) (fun _ _ => rfl) hL hD hB hQ
set_option maxRecDepth 4000 in
theorem X9_put_l {l : Launch} {Γ : zC} {h1 : zM} {Q : Option zV → zC → zM → Prop} {v : Int} (hΓ : zBase Γ) : ∀ (m : Nat) (k : Nat) (S : zTp) (h : zM), k < m → k ≤ 4 → (∀ q, q ≠ 89 → q ≠ 90 → h q = h1 q) → (∀ i, i ≠ 6 → h 89 i = h1 89 i) → h 89 6 = (S.1 : Int) → (∀ j, j < S.1 → h 90 j % 256 = S.2 j) → S.1 + zyn v k ≤ 160 → (∀ h9, (∀ q, q ≠ 89 → q ≠ 90 → h9 q = h1 q) → (∀ i, i ≠ 6 → h9 89 i = h1 89 i) → h9 89 6 = ((zaS v k S).1 : Int) → (∀ j, j < (zaS v k S).1 → h9 90 j % 256 = (zaS v k S).2 j) → Q none Γ h9) → zG (zFn l mX9_put 0 0 0 Γ Q) 0 0 Γ h 3 [some (zR 89), some (zI v), some (zI (8 * (k : Int) - 8))] [] := by
  intro m
  induction m with
  | zero => intros; omega
  | succ m ih =>
    intro k S h hm hk hE hE2 hL hD hB hQ
    refine z_il2 dX9_put_3 ?_
    refine z_if_lt (t := 49) dX9_put_4 (by rfl) (fun ht4 => ?_) (fun hf4 => ?_)
    · refine z_ret dX9_put_49 rfl (Nat.le_refl _) (Nat.le_refl _) (zext_rf _) ?_
      rw [show k = 0 by omega] at hQ
      exact hQ h hE hE2 hL hD
    · obtain ⟨j, rfl⟩ : ∃ j, k = j + 1 := ⟨k - 1, by omega⟩
      refine z_il1 dX9_put_7 ?_
      refine z_il2 dX9_put_8 ?_
      refine z_ishr dX9_put_9 ?_
      refine z_sipush (x := 255) dX9_put_10 (by rfl) (by decide) ?_
      refine z_iand dX9_put_13 ?_
      rw [show zf_iand (zf_ishr v (8 * ((j + 1 : Nat) : Int) - 8)) 255 = zyt v (j + 1) from rfl]
      refine z_if_ne (t := 20) dX9_put_14 (by rfl) (fun ht14 => ?_) (fun hf14 => ?_)
      · have hzn := zyn_n (v := v) (k := j) (by omega)
        refine z_al0 dX9_put_20 (by first | decide | omega | assumption) ?_
        refine z_getR zfX9_9 dX9_put_21 (zkB hΓ rfl) rfl (zsB hΓ rfl) (zvB hΓ (by decide)) ?_
        refine z_al0 dX9_put_24 (by first | decide | omega | assumption) ?_
        refine z_getI zfX9_141 dX9_put_25 (zkB hΓ rfl) rfl ?_
        try simp only [zup_ap, zup_row, ne_eq, not_false_eq_true, zres, Int.toNat_natCast, reduceIte, Nat.reduceEqDiff, Nat.reduceAdd, and_self, and_true, true_and, and_false, false_and]
        try rw [hL]
        try simp only [zup_ap, zup_row, ne_eq, not_false_eq_true, zres, Int.toNat_natCast, reduceIte, Nat.reduceEqDiff, Nat.reduceAdd, and_self, and_true, true_and, and_false, false_and]
        refine z_il1 dX9_put_28 ?_
        refine z_il2 dX9_put_29 ?_
        refine z_ishr dX9_put_30 ?_
        refine z_i2b dX9_put_31 ?_
        have hib := zi2bg (zf_ishr_r v (8 * ((j + 1 : Nat) : Int) - 8))
        refine z_bast dX9_put_32 (zkB hΓ rfl) (by omega) (by omega) (by omega) ?_
        refine z_al0 dX9_put_33 (by first | decide | omega | assumption) ?_
        refine z_dup dX9_put_34 rfl ?_
        refine z_getI zfX9_141 dX9_put_35 (zkB hΓ rfl) rfl ?_
        try simp only [zup_ap, zup_row, ne_eq, not_false_eq_true, zres, Int.toNat_natCast, reduceIte, Nat.reduceEqDiff, Nat.reduceAdd, and_self, and_true, true_and, and_false, false_and]
        try rw [hL]
        try simp only [zup_ap, zup_row, ne_eq, not_false_eq_true, zres, Int.toNat_natCast, reduceIte, Nat.reduceEqDiff, Nat.reduceAdd, and_self, and_true, true_and, and_false, false_and]
        refine z_iconst dX9_put_38 (by decide) ?_
        refine z_iadd dX9_put_39 (by omega) ?_
        refine z_putI zfX9_141 dX9_put_40 (zkB hΓ rfl) rfl rfl ?_
        refine z_ii2 dX9_put_43 (by omega) (Nat.le_of_ble_eq_true rfl) rfl ?_
        refine z_goto (t := 3) dX9_put_46 (by rfl) ?_
        have es : 8 * ((j + 1 : Nat) : Int) - 8 + -8 = 8 * (j : Int) - 8 := by omega
        rw [es]
        first
        | (rw [zaS_y (by omega)] at hQ
           rw [zyn_y (by omega)] at hB
           exact ih j S _ (by omega) (by omega) hE hE2 hL hD hB hQ)
        | (rw [zaS_n (by omega)] at hQ
           rw [zyn_n (by omega)] at hB
           refine ih j (S.1 + 1, fun i => if i = S.1 then zyt v (j + 1) else S.2 i) _ (by omega) (by omega) (fun q a b => ?_) (fun i a => ?_) ?_ (fun i hi => ?_) (by show S.1 + 1 + _ ≤ 160; omega) hQ
           · rw [zup_row a, zup_row b]; exact hE q a b
           · rw [zup_ap, if_neg (fun x => a x.2), zup_row (by decide)]; exact hE2 i a
           · rw [zup_ap]; refine (if_pos ⟨rfl, rfl⟩).trans ?_; show (S.1 : Int) + 1 = ((S.1 + 1 : Nat) : Int); omega
           · rw [zup_row (by decide)]
             show _ % 256 = (if i = S.1 then zyt v (j + 1) else S.2 i)
             by_cases e : i = S.1
             · rw [if_pos e, e, zup_ap]
               rw [if_pos ⟨rfl, by omega⟩, hib.1, ← zand255g]; rfl
             · rw [if_neg e, zup_ap, if_neg (fun x => e (by have := x.2; omega))]
               exact hD i (by have hi2 : i < S.1 + 1 := hi; omega))
      · refine z_goto (t := 43) dX9_put_17 (by rfl) ?_
        refine z_ii2 dX9_put_43 (by omega) (Nat.le_of_ble_eq_true rfl) rfl ?_
        refine z_goto (t := 3) dX9_put_46 (by rfl) ?_
        have es : 8 * ((j + 1 : Nat) : Int) - 8 + -8 = 8 * (j : Int) - 8 := by omega
        rw [es]
        first
        | (rw [zaS_y (by omega)] at hQ
           rw [zyn_y (by omega)] at hB
           exact ih j S _ (by omega) (by omega) hE hE2 hL hD hB hQ)
        | (rw [zaS_n (by omega)] at hQ
           rw [zyn_n (by omega)] at hB
           refine ih j (S.1 + 1, fun i => if i = S.1 then zyt v (j + 1) else S.2 i) _ (by omega) (by omega) (fun q a b => ?_) (fun i a => ?_) ?_ (fun i hi => ?_) (by show S.1 + 1 + _ ≤ 160; omega) hQ
           · rw [zup_row a, zup_row b]; exact hE q a b
           · rw [zup_ap, if_neg (fun x => a x.2), zup_row (by decide)]; exact hE2 i a
           · rw [zup_ap]; refine (if_pos ⟨rfl, rfl⟩).trans ?_; show (S.1 : Int) + 1 = ((S.1 + 1 : Nat) : Int); omega
           · rw [zup_row (by decide)]
             show _ % 256 = (if i = S.1 then zyt v (j + 1) else S.2 i)
             by_cases e : i = S.1
             · rw [if_pos e, e, zup_ap]
               rw [if_pos ⟨rfl, by omega⟩, hib.1, ← zand255g]; rfl
             · rw [if_neg e, zup_ap, if_neg (fun x => e (by have := x.2; omega))]
               exact hD i (by have hi2 : i < S.1 + 1 := hi; omega))
set_option maxRecDepth 4000 in
theorem X9_put_ct {l : Launch} {Γ : zC} {h1 : zM} {Q : Option zV → zC → zM → Prop} {v : Int} {S : zTp} (hΓ : zBase Γ) (hL : h1 89 6 = (S.1 : Int)) (hD : ∀ j, j < S.1 → h1 90 j % 256 = S.2 j) (hB : S.1 + zyn v 4 ≤ 160) (hQ : ∀ h9, (∀ q, q ≠ 89 → q ≠ 90 → h9 q = h1 q) → (∀ i, i ≠ 6 → h9 89 i = h1 89 i) → h9 89 6 = ((zaS v 4 S).1 : Int) → (∀ j, j < (zaS v 4 S).1 → h9 90 j % 256 = (zaS v 4 S).2 j) → Q none Γ h9) : zCT l mX9_put 0 0 0 Γ [zR 89, zI v] h1 Q := by
  refine zCT_of (by decide) (Nat.le_of_ble_eq_true rfl) (ls := [some (zR 89), some (zI v), none]) rfl ?_
  refine z_bipush (x := 24) dX9_put_0 (by rfl) (by decide) ?_
  refine z_is2 dX9_put_2 (Nat.le_of_ble_eq_true rfl) rfl ?_
  exact X9_put_l hΓ _ 4 S _ (Nat.lt_succ_self _) (by omega) (fun _ _ _ => rfl) (fun _ _ => rfl) hL hD hB hQ
set_option maxRecDepth 4000 in
theorem X8_feed_ct {l : Launch} {Γ : zC} {h : zM} {Q : Option zV → zC → zM → Prop} {a b c d e : Int} {S : zTp} (hΓ : zBase Γ) (hS9 : S.1 ≤ 160) (hL : h 2 1 = (S.1 : Int)) (hD : ∀ j, j < S.1 → h 3 j = S.2 j) (hQ0 : ¬ (S.1 + (zyn a 4 + zyn b 4 + zyn c 4 + zyn d 4 + zyn e 4) ≤ 160) → Q (some (zI (-1))) Γ h) (hQ1 : (S.1 + (zyn a 4 + zyn b 4 + zyn c 4 + zyn d 4 + zyn e 4) ≤ 160) → ∀ h9, (∀ q, q ≠ 2 → q ≠ 3 → h9 q = h q) → (∀ i, i ≠ 1 → h9 2 i = h 2 i) → h9 2 1 = ((zaS e 4 (zaS d 4 (zaS c 4 (zaS b 4 (zaS a 4 S))))).1 : Int) → (∀ j, j < (zaS e 4 (zaS d 4 (zaS c 4 (zaS b 4 (zaS a 4 S))))).1 → h9 3 j = (zaS e 4 (zaS d 4 (zaS c 4 (zaS b 4 (zaS a 4 S))))).2 j) → Q (some (zI ((zaS e 4 (zaS d 4 (zaS c 4 (zaS b 4 (zaS a 4 S))))).1 : Int))) Γ h9) : zCT l mX8_feed 1 0 0 Γ [zR 1, zI a, zI b, zI c, zI d, zI e] h Q := by
  have hya := zyn_b a 4
  have hyb := zyn_b b 4
  have hyc := zyn_b c 4
  have hyd := zyn_b d 4
  have hye := zyn_b e 4
  have hz1 := zaS_1 a 4 S
  have hz2 := zaS_1 b 4 (zaS a 4 S)
  have hz3 := zaS_1 c 4 (zaS b 4 (zaS a 4 S))
  have hz4 := zaS_1 d 4 (zaS c 4 (zaS b 4 (zaS a 4 S)))
  have hz5 := zaS_1 e 4 (zaS d 4 (zaS c 4 (zaS b 4 (zaS a 4 S))))
  refine zCT_of (by decide) (Nat.le_of_ble_eq_true rfl) (ls := [some (zR 1), some (zI a), some (zI b), some (zI c), some (zI d), some (zI e), none]) rfl ?_
  refine z_il1 dX8_feed_0 ?_
  refine zcs1 dX8_feed_1 zkX8_83 ztX8_bytesIn (Nat.le_of_ble_eq_true rfl) (by decide) (by first | decide | omega) ⟨Nat.le_refl _, Nat.le_refl _⟩ (X8_bytesIn_ct (fun _ => ?_))
  try simp only [zup_ap, zup_row, ne_eq, not_false_eq_true, zres, Int.toNat_natCast, reduceIte, Nat.reduceEqDiff, Nat.reduceAdd, and_self, and_true, true_and, and_false, false_and]
  refine z_il2 dX8_feed_4 ?_
  refine zcs1 dX8_feed_5 zkX8_83 ztX8_bytesIn (Nat.le_of_ble_eq_true rfl) (by decide) (by first | decide | omega) ⟨Nat.le_refl _, Nat.le_refl _⟩ (X8_bytesIn_ct (fun _ => ?_))
  try simp only [zup_ap, zup_row, ne_eq, not_false_eq_true, zres, Int.toNat_natCast, reduceIte, Nat.reduceEqDiff, Nat.reduceAdd, and_self, and_true, true_and, and_false, false_and]
  refine z_iadd dX8_feed_8 (by omega) ?_
  refine z_il3 dX8_feed_9 ?_
  refine zcs1 dX8_feed_10 zkX8_83 ztX8_bytesIn (Nat.le_of_ble_eq_true rfl) (by decide) (by first | decide | omega) ⟨Nat.le_refl _, Nat.le_refl _⟩ (X8_bytesIn_ct (fun _ => ?_))
  try simp only [zup_ap, zup_row, ne_eq, not_false_eq_true, zres, Int.toNat_natCast, reduceIte, Nat.reduceEqDiff, Nat.reduceAdd, and_self, and_true, true_and, and_false, false_and]
  refine z_iadd dX8_feed_13 (by omega) ?_
  refine z_il4 dX8_feed_14 ?_
  refine zcs1 dX8_feed_16 zkX8_83 ztX8_bytesIn (Nat.le_of_ble_eq_true rfl) (by decide) (by first | decide | omega) ⟨Nat.le_refl _, Nat.le_refl _⟩ (X8_bytesIn_ct (fun _ => ?_))
  try simp only [zup_ap, zup_row, ne_eq, not_false_eq_true, zres, Int.toNat_natCast, reduceIte, Nat.reduceEqDiff, Nat.reduceAdd, and_self, and_true, true_and, and_false, false_and]
  refine z_iadd dX8_feed_19 (by omega) ?_
  refine z_il5 dX8_feed_20 ?_
  refine zcs1 dX8_feed_22 zkX8_83 ztX8_bytesIn (Nat.le_of_ble_eq_true rfl) (by decide) (by first | decide | omega) ⟨Nat.le_refl _, Nat.le_refl _⟩ (X8_bytesIn_ct (fun _ => ?_))
  try simp only [zup_ap, zup_row, ne_eq, not_false_eq_true, zres, Int.toNat_natCast, reduceIte, Nat.reduceEqDiff, Nat.reduceAdd, and_self, and_true, true_and, and_false, false_and]
  refine z_iadd dX8_feed_25 (by omega) ?_
  refine z_is6 dX8_feed_26 (Nat.le_of_ble_eq_true rfl) rfl ?_
  refine z_al0 dX8_feed_28 (by first | decide | omega | assumption) ?_
  refine z_getR zfX8_10 dX8_feed_29 (zkB hΓ rfl) rfl (zsB hΓ rfl) (zvB hΓ (by decide)) ?_
  refine z_getI zfX8_87 dX8_feed_32 (zkB hΓ rfl) rfl ?_
  first | rw [hL] | rw [hL5]
  try simp only [zup_ap, zup_row, ne_eq, not_false_eq_true, zres, Int.toNat_natCast, reduceIte, Nat.reduceEqDiff, Nat.reduceAdd, and_self, and_true, true_and, and_false, false_and]
  refine z_il6 dX8_feed_35 ?_
  refine z_iadd dX8_feed_37 (by omega) ?_
  refine z_sipush (x := 160) dX8_feed_38 (by rfl) (by decide) ?_
  refine z_icmp_le (t := 46) dX8_feed_41 (by rfl) (fun ht41 => ?_) (fun hf41 => ?_)
  · refine z_al0 dX8_feed_46 (by first | decide | omega | assumption) ?_
    refine z_getR zfX8_10 dX8_feed_47 (zkB hΓ rfl) rfl (zsB hΓ rfl) (zvB hΓ (by decide)) ?_
    refine z_il1 dX8_feed_50 ?_
    refine zcv1 dX8_feed_51 zkX8_90 ziX5_add zsX5_add (zkB hΓ rfl) (by decide) rfl (Nat.le_of_ble_eq_true rfl) (by decide) (by first | decide | omega) ⟨Nat.le_refl _, Nat.le_refl _⟩ (X5_add_ct (S := S) hΓ hL hD (by omega) (fun h1 hE1 hG1 hL1 hD1 _ => ?_))
    try simp only [zup_ap, zup_row, ne_eq, not_false_eq_true, zres, Int.toNat_natCast, reduceIte, Nat.reduceEqDiff, Nat.reduceAdd, and_self, and_true, true_and, and_false, false_and]
    refine z_al0 dX8_feed_54 (by first | decide | omega | assumption) ?_
    refine z_getR zfX8_10 dX8_feed_55 (zkB hΓ rfl) rfl (zsB hΓ rfl) (zvB hΓ (by decide)) ?_
    refine z_il2 dX8_feed_58 ?_
    refine zcv1 dX8_feed_59 zkX8_90 ziX5_add zsX5_add (zkB hΓ rfl) (by decide) rfl (Nat.le_of_ble_eq_true rfl) (by decide) (by first | decide | omega) ⟨Nat.le_refl _, Nat.le_refl _⟩ (X5_add_ct (S := (zaS a 4 S)) hΓ hL1 hD1 (by omega) (fun h2 hE2 hG2 hL2 hD2 _ => ?_))
    try simp only [zup_ap, zup_row, ne_eq, not_false_eq_true, zres, Int.toNat_natCast, reduceIte, Nat.reduceEqDiff, Nat.reduceAdd, and_self, and_true, true_and, and_false, false_and]
    refine z_al0 dX8_feed_62 (by first | decide | omega | assumption) ?_
    refine z_getR zfX8_10 dX8_feed_63 (zkB hΓ rfl) rfl (zsB hΓ rfl) (zvB hΓ (by decide)) ?_
    refine z_il3 dX8_feed_66 ?_
    refine zcv1 dX8_feed_67 zkX8_90 ziX5_add zsX5_add (zkB hΓ rfl) (by decide) rfl (Nat.le_of_ble_eq_true rfl) (by decide) (by first | decide | omega) ⟨Nat.le_refl _, Nat.le_refl _⟩ (X5_add_ct (S := (zaS b 4 (zaS a 4 S))) hΓ hL2 hD2 (by omega) (fun h3 hE3 hG3 hL3 hD3 _ => ?_))
    try simp only [zup_ap, zup_row, ne_eq, not_false_eq_true, zres, Int.toNat_natCast, reduceIte, Nat.reduceEqDiff, Nat.reduceAdd, and_self, and_true, true_and, and_false, false_and]
    refine z_al0 dX8_feed_70 (by first | decide | omega | assumption) ?_
    refine z_getR zfX8_10 dX8_feed_71 (zkB hΓ rfl) rfl (zsB hΓ rfl) (zvB hΓ (by decide)) ?_
    refine z_il4 dX8_feed_74 ?_
    refine zcv1 dX8_feed_76 zkX8_90 ziX5_add zsX5_add (zkB hΓ rfl) (by decide) rfl (Nat.le_of_ble_eq_true rfl) (by decide) (by first | decide | omega) ⟨Nat.le_refl _, Nat.le_refl _⟩ (X5_add_ct (S := (zaS c 4 (zaS b 4 (zaS a 4 S)))) hΓ hL3 hD3 (by omega) (fun h4 hE4 hG4 hL4 hD4 _ => ?_))
    try simp only [zup_ap, zup_row, ne_eq, not_false_eq_true, zres, Int.toNat_natCast, reduceIte, Nat.reduceEqDiff, Nat.reduceAdd, and_self, and_true, true_and, and_false, false_and]
    refine z_al0 dX8_feed_79 (by first | decide | omega | assumption) ?_
    refine z_getR zfX8_10 dX8_feed_80 (zkB hΓ rfl) rfl (zsB hΓ rfl) (zvB hΓ (by decide)) ?_
    refine z_il5 dX8_feed_83 ?_
    refine zcv1 dX8_feed_85 zkX8_90 ziX5_add zsX5_add (zkB hΓ rfl) (by decide) rfl (Nat.le_of_ble_eq_true rfl) (by decide) (by first | decide | omega) ⟨Nat.le_refl _, Nat.le_refl _⟩ (X5_add_ct (S := (zaS d 4 (zaS c 4 (zaS b 4 (zaS a 4 S))))) hΓ hL4 hD4 (by omega) (fun h5 hE5 hG5 hL5 hD5 _ => ?_))
    try simp only [zup_ap, zup_row, ne_eq, not_false_eq_true, zres, Int.toNat_natCast, reduceIte, Nat.reduceEqDiff, Nat.reduceAdd, and_self, and_true, true_and, and_false, false_and]
    refine z_al0 dX8_feed_88 (by first | decide | omega | assumption) ?_
    refine z_getR zfX8_10 dX8_feed_89 (zkB hΓ rfl) rfl (zsB hΓ rfl) (zvB hΓ (by decide)) ?_
    refine z_getI zfX8_87 dX8_feed_92 (zkB hΓ rfl) rfl ?_
    first | rw [hL] | rw [hL5]
    try simp only [zup_ap, zup_row, ne_eq, not_false_eq_true, zres, Int.toNat_natCast, reduceIte, Nat.reduceEqDiff, Nat.reduceAdd, and_self, and_true, true_and, and_false, false_and]
    refine z_iret dX8_feed_95 rfl (Nat.le_refl _) (Nat.le_refl _) (zext_rf _) (fun hrr => ?_)
    refine hQ1 (by omega) _ (fun q a b => ?_) (fun i a => ?_) hL5 hD5
    · rw [hE5 q a b, hE4 q a b, hE3 q a b, hE2 q a b, hE1 q a b]
    · rw [hG5 i a, hG4 i a, hG3 i a, hG2 i a, hG1 i a]
  · refine z_iconst dX8_feed_44 (by decide) ?_
    refine z_iret dX8_feed_45 rfl (Nat.le_refl _) (Nat.le_refl _) (zext_rf _) (fun hrr => ?_)
    exact hQ0 (by omega)
set_option maxRecDepth 4000 in
theorem X9_feed_ct {l : Launch} {Γ : zC} {h : zM} {Q : Option zV → zC → zM → Prop} {a b c d e : Int} {S : zTp} (hΓ : zBase Γ) (hS9 : S.1 ≤ 160) (hL : h 89 6 = (S.1 : Int)) (hD : ∀ j, j < S.1 → h 90 j % 256 = S.2 j) (hQ0 : ¬ (S.1 + (zyn a 4 + zyn b 4 + zyn c 4 + zyn d 4 + zyn e 4) ≤ 160) → Q (some (zI (-1))) Γ (zup h 89 0 0)) (hQ1 : (S.1 + (zyn a 4 + zyn b 4 + zyn c 4 + zyn d 4 + zyn e 4) ≤ 160) → ∀ h9, (∀ q, q ≠ 89 → q ≠ 90 → h9 q = h q) → (∀ i, i ≠ 6 → i ≠ 0 → h9 89 i = h 89 i) → h9 89 6 = ((zaS e 4 (zaS d 4 (zaS c 4 (zaS b 4 (zaS a 4 S))))).1 : Int) → (∀ j, j < (zaS e 4 (zaS d 4 (zaS c 4 (zaS b 4 (zaS a 4 S))))).1 → h9 90 j % 256 = (zaS e 4 (zaS d 4 (zaS c 4 (zaS b 4 (zaS a 4 S))))).2 j) → Q (some (zI ((zaS e 4 (zaS d 4 (zaS c 4 (zaS b 4 (zaS a 4 S))))).1 : Int))) Γ h9) : zCT l mX9_feed 1 0 0 Γ [zR 89, zI a, zI b, zI c, zI d, zI e] h Q := by
  have hya := zyn_b a 4
  have hyb := zyn_b b 4
  have hyc := zyn_b c 4
  have hyd := zyn_b d 4
  have hye := zyn_b e 4
  have hz1 := zaS_1 a 4 S
  have hz2 := zaS_1 b 4 (zaS a 4 S)
  have hz3 := zaS_1 c 4 (zaS b 4 (zaS a 4 S))
  have hz4 := zaS_1 d 4 (zaS c 4 (zaS b 4 (zaS a 4 S)))
  have hz5 := zaS_1 e 4 (zaS d 4 (zaS c 4 (zaS b 4 (zaS a 4 S))))
  refine zCT_of (by decide) (Nat.le_of_ble_eq_true rfl) (ls := [some (zR 89), some (zI a), some (zI b), some (zI c), some (zI d), some (zI e)]) rfl ?_
  refine z_al0 dX9_feed_0 (by first | decide | omega | assumption) ?_
  refine z_iconst dX9_feed_1 (by decide) ?_
  refine z_putI zfX9_128 dX9_feed_2 (zkB hΓ rfl) rfl rfl ?_
  refine z_al0 dX9_feed_5 (by first | decide | omega | assumption) ?_
  refine z_getI zfX9_141 dX9_feed_6 (zkB hΓ rfl) rfl ?_
  try simp only [zup_ap, zup_row, ne_eq, not_false_eq_true, zres, Int.toNat_natCast, reduceIte, Nat.reduceEqDiff, Nat.reduceAdd, and_self, and_true, true_and, and_false, false_and]
  first | rw [hL] | rw [hL5]
  try simp only [zup_ap, zup_row, ne_eq, not_false_eq_true, zres, Int.toNat_natCast, reduceIte, Nat.reduceEqDiff, Nat.reduceAdd, and_self, and_true, true_and, and_false, false_and]
  refine z_il1 dX9_feed_9 ?_
  refine zcs1 dX9_feed_10 zkX9_143 ztX9_bytesIn (Nat.le_of_ble_eq_true rfl) (by decide) (by first | decide | omega) ⟨Nat.le_refl _, Nat.le_refl _⟩ (X9_bytesIn_ct (fun _ => ?_))
  try simp only [zup_ap, zup_row, ne_eq, not_false_eq_true, zres, Int.toNat_natCast, reduceIte, Nat.reduceEqDiff, Nat.reduceAdd, and_self, and_true, true_and, and_false, false_and]
  refine z_iadd dX9_feed_13 (by omega) ?_
  refine z_il2 dX9_feed_14 ?_
  refine zcs1 dX9_feed_15 zkX9_143 ztX9_bytesIn (Nat.le_of_ble_eq_true rfl) (by decide) (by first | decide | omega) ⟨Nat.le_refl _, Nat.le_refl _⟩ (X9_bytesIn_ct (fun _ => ?_))
  try simp only [zup_ap, zup_row, ne_eq, not_false_eq_true, zres, Int.toNat_natCast, reduceIte, Nat.reduceEqDiff, Nat.reduceAdd, and_self, and_true, true_and, and_false, false_and]
  refine z_iadd dX9_feed_18 (by omega) ?_
  refine z_il3 dX9_feed_19 ?_
  refine zcs1 dX9_feed_20 zkX9_143 ztX9_bytesIn (Nat.le_of_ble_eq_true rfl) (by decide) (by first | decide | omega) ⟨Nat.le_refl _, Nat.le_refl _⟩ (X9_bytesIn_ct (fun _ => ?_))
  try simp only [zup_ap, zup_row, ne_eq, not_false_eq_true, zres, Int.toNat_natCast, reduceIte, Nat.reduceEqDiff, Nat.reduceAdd, and_self, and_true, true_and, and_false, false_and]
  refine z_iadd dX9_feed_23 (by omega) ?_
  refine z_il4 dX9_feed_24 ?_
  refine zcs1 dX9_feed_26 zkX9_143 ztX9_bytesIn (Nat.le_of_ble_eq_true rfl) (by decide) (by first | decide | omega) ⟨Nat.le_refl _, Nat.le_refl _⟩ (X9_bytesIn_ct (fun _ => ?_))
  try simp only [zup_ap, zup_row, ne_eq, not_false_eq_true, zres, Int.toNat_natCast, reduceIte, Nat.reduceEqDiff, Nat.reduceAdd, and_self, and_true, true_and, and_false, false_and]
  refine z_iadd dX9_feed_29 (by omega) ?_
  refine z_il5 dX9_feed_30 ?_
  refine zcs1 dX9_feed_32 zkX9_143 ztX9_bytesIn (Nat.le_of_ble_eq_true rfl) (by decide) (by first | decide | omega) ⟨Nat.le_refl _, Nat.le_refl _⟩ (X9_bytesIn_ct (fun _ => ?_))
  try simp only [zup_ap, zup_row, ne_eq, not_false_eq_true, zres, Int.toNat_natCast, reduceIte, Nat.reduceEqDiff, Nat.reduceAdd, and_self, and_true, true_and, and_false, false_and]
  refine z_iadd dX9_feed_35 (by omega) ?_
  refine z_sipush (x := 160) dX9_feed_36 (by rfl) (by decide) ?_
  refine z_icmp_le (t := 44) dX9_feed_39 (by rfl) (fun ht39 => ?_) (fun hf39 => ?_)
  · refine z_al0 dX9_feed_44 (by first | decide | omega | assumption) ?_
    refine z_il1 dX9_feed_45 ?_
    refine zcv1 dX9_feed_46 zkX9_147 ziX9_put zsX9_put (zkB hΓ rfl) (by decide) rfl (Nat.le_of_ble_eq_true rfl) (by decide) (by first | decide | omega) ⟨Nat.le_refl _, Nat.le_refl _⟩ (X9_put_ct (S := S) hΓ (by exact hL) (by exact hD) (by omega) (fun h1 hE1 hG1 hL1 hD1 _ => ?_))
    try simp only [zup_ap, zup_row, ne_eq, not_false_eq_true, zres, Int.toNat_natCast, reduceIte, Nat.reduceEqDiff, Nat.reduceAdd, and_self, and_true, true_and, and_false, false_and]
    refine z_al0 dX9_feed_49 (by first | decide | omega | assumption) ?_
    refine z_il2 dX9_feed_50 ?_
    refine zcv1 dX9_feed_51 zkX9_147 ziX9_put zsX9_put (zkB hΓ rfl) (by decide) rfl (Nat.le_of_ble_eq_true rfl) (by decide) (by first | decide | omega) ⟨Nat.le_refl _, Nat.le_refl _⟩ (X9_put_ct (S := (zaS a 4 S)) hΓ hL1 hD1 (by omega) (fun h2 hE2 hG2 hL2 hD2 _ => ?_))
    try simp only [zup_ap, zup_row, ne_eq, not_false_eq_true, zres, Int.toNat_natCast, reduceIte, Nat.reduceEqDiff, Nat.reduceAdd, and_self, and_true, true_and, and_false, false_and]
    refine z_al0 dX9_feed_54 (by first | decide | omega | assumption) ?_
    refine z_il3 dX9_feed_55 ?_
    refine zcv1 dX9_feed_56 zkX9_147 ziX9_put zsX9_put (zkB hΓ rfl) (by decide) rfl (Nat.le_of_ble_eq_true rfl) (by decide) (by first | decide | omega) ⟨Nat.le_refl _, Nat.le_refl _⟩ (X9_put_ct (S := (zaS b 4 (zaS a 4 S))) hΓ hL2 hD2 (by omega) (fun h3 hE3 hG3 hL3 hD3 _ => ?_))
    try simp only [zup_ap, zup_row, ne_eq, not_false_eq_true, zres, Int.toNat_natCast, reduceIte, Nat.reduceEqDiff, Nat.reduceAdd, and_self, and_true, true_and, and_false, false_and]
    refine z_al0 dX9_feed_59 (by first | decide | omega | assumption) ?_
    refine z_il4 dX9_feed_60 ?_
    refine zcv1 dX9_feed_62 zkX9_147 ziX9_put zsX9_put (zkB hΓ rfl) (by decide) rfl (Nat.le_of_ble_eq_true rfl) (by decide) (by first | decide | omega) ⟨Nat.le_refl _, Nat.le_refl _⟩ (X9_put_ct (S := (zaS c 4 (zaS b 4 (zaS a 4 S)))) hΓ hL3 hD3 (by omega) (fun h4 hE4 hG4 hL4 hD4 _ => ?_))
    try simp only [zup_ap, zup_row, ne_eq, not_false_eq_true, zres, Int.toNat_natCast, reduceIte, Nat.reduceEqDiff, Nat.reduceAdd, and_self, and_true, true_and, and_false, false_and]
    refine z_al0 dX9_feed_65 (by first | decide | omega | assumption) ?_
    refine z_il5 dX9_feed_66 ?_
    refine zcv1 dX9_feed_68 zkX9_147 ziX9_put zsX9_put (zkB hΓ rfl) (by decide) rfl (Nat.le_of_ble_eq_true rfl) (by decide) (by first | decide | omega) ⟨Nat.le_refl _, Nat.le_refl _⟩ (X9_put_ct (S := (zaS d 4 (zaS c 4 (zaS b 4 (zaS a 4 S))))) hΓ hL4 hD4 (by omega) (fun h5 hE5 hG5 hL5 hD5 _ => ?_))
    try simp only [zup_ap, zup_row, ne_eq, not_false_eq_true, zres, Int.toNat_natCast, reduceIte, Nat.reduceEqDiff, Nat.reduceAdd, and_self, and_true, true_and, and_false, false_and]
    refine z_al0 dX9_feed_71 (by first | decide | omega | assumption) ?_
    refine z_getI zfX9_141 dX9_feed_72 (zkB hΓ rfl) rfl ?_
    try simp only [zup_ap, zup_row, ne_eq, not_false_eq_true, zres, Int.toNat_natCast, reduceIte, Nat.reduceEqDiff, Nat.reduceAdd, and_self, and_true, true_and, and_false, false_and]
    first | rw [hL] | rw [hL5]
    try simp only [zup_ap, zup_row, ne_eq, not_false_eq_true, zres, Int.toNat_natCast, reduceIte, Nat.reduceEqDiff, Nat.reduceAdd, and_self, and_true, true_and, and_false, false_and]
    refine z_iret dX9_feed_75 rfl (Nat.le_refl _) (Nat.le_refl _) (zext_rf _) (fun hrr => ?_)
    refine hQ1 (by omega) _ (fun q a b => ?_) (fun i a a0 => ?_) hL5 hD5
    · rw [hE5 q a b, hE4 q a b, hE3 q a b, hE2 q a b, hE1 q a b, zup_row a]
    · rw [hG5 i a, hG4 i a, hG3 i a, hG2 i a, hG1 i a, zup_ap, if_neg (fun x => a0 x.2)]
  · refine z_iconst dX9_feed_42 (by decide) ?_
    refine z_iret dX9_feed_43 rfl (Nat.le_refl _) (Nat.le_refl _) (zext_rf _) (fun hrr => ?_)
    exact hQ0 (by omega)
