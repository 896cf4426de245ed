/-! what a CUSTOM's signs are worth -/
theorem zi_tdr {a b : Int} (ha : 0 ≤ a) (hb : 0 < b) : a.tdiv b = a / b ∧ 0 ≤ a / b ∧ a / b ≤ a := by
  refine ⟨Int.tdiv_eq_ediv_of_nonneg ha, Int.ediv_nonneg ha (by omega), ?_⟩
  exact Int.ediv_le_self b ha
theorem zi_tmr {a b : Int} (ha : 0 ≤ a) (hb : 0 < b) : a.tmod b = a % b ∧ 0 ≤ a % b ∧ a % b < b := ⟨Int.tmod_eq_emod_of_nonneg ha, Int.emod_nonneg a (by omega), Int.emod_lt_of_pos a hb⟩
theorem z_idivp {F : zF} {k n : Nat} {Γ : zC} {h : zM} {pc : Nat} {ls : List (Option zV)} {st : List zV} {a b : Int} (hd : decode F.2.1.2.1 pc = .ok (.idiv, 1)) (ha : 0 ≤ a) (hb : 0 < b) (kk : zG F k n Γ h (pc + 1) ls (zI (a / b) :: st)) : zG F k n Γ h pc ls (zI b :: zI a :: st) := by
  intro p e s m args below meth c H locs lsr hB hl hlv hst hW hS hA
  have h1 : zo32 a := hst (zI a) (by simp)
  obtain ⟨e1, e2, e3⟩ := zi_tdr ha hb
  exact z_idiv hd (by omega) (by rw [e1]; omega) (by rw [e1]; exact kk) p e s m args below meth c H locs lsr hB hl hlv hst hW hS hA
theorem z_iremp {F : zF} {k n : Nat} {Γ : zC} {h : zM} {pc : Nat} {ls : List (Option zV)} {st : List zV} {a b : Int} (hd : decode F.2.1.2.1 pc = .ok (.irem, 1)) (ha : 0 ≤ a) (hb : 0 < b) (kk : zG F k n Γ h (pc + 1) ls (zI (a % b) :: st)) : zG F k n Γ h pc ls (zI b :: zI a :: st) := by
  intro p e s m args below meth c H locs lsr hB hl hlv hst hW hS hA
  have h1 : zo32 a := hst (zI a) (by simp)
  have h2 : zo32 b := hst (zI b) (by simp)
  obtain ⟨e1, e2, e3⟩ := zi_tdr ha hb
  obtain ⟨f1, f2, f3⟩ := zi_tmr ha hb
  exact z_irem hd (by omega) (by rw [e1]; omega) (by rw [f1]; omega) (by rw [f1]; exact kk) p e s m args below meth c H locs lsr hB hl hlv hst hW hS hA
theorem z_ldivp {F : zF} {k n : Nat} {Γ : zC} {h : zM} {pc : Nat} {ls : List (Option zV)} {st : List zV} {a b : Int} (hd : decode F.2.1.2.1 pc = .ok (.ldiv, 1)) (ha : 0 ≤ a) (hb : 0 < b) (kk : zG F k n Γ h (pc + 1) ls (zL (a / b) :: st)) : zG F k n Γ h pc ls (zL b :: zL a :: st) := by
  intro p e s m args below meth c H locs lsr hB hl hlv hst hW hS hA
  have h1 : zo64 a := hst (zL a) (by simp)
  obtain ⟨e1, e2, e3⟩ := zi_tdr ha hb
  exact z_ldiv hd (by omega) (by rw [e1]; omega) (by rw [e1]; exact kk) p e s m args below meth c H locs lsr hB hl hlv hst hW hS hA
theorem z_lremp {F : zF} {k n : Nat} {Γ : zC} {h : zM} {pc : Nat} {ls : List (Option zV)} {st : List zV} {a b : Int} (hd : decode F.2.1.2.1 pc = .ok (.lrem, 1)) (ha : 0 ≤ a) (hb : 0 < b) (kk : zG F k n Γ h (pc + 1) ls (zL (a % b) :: st)) : zG F k n Γ h pc ls (zL b :: zL a :: st) := by
  intro p e s m args below meth c H locs lsr hB hl hlv hst hW hS hA
  have h1 : zo64 a := hst (zL a) (by simp)
  have h2 : zo64 b := hst (zL b) (by simp)
  obtain ⟨e1, e2, e3⟩ := zi_tdr ha hb
  obtain ⟨f1, f2, f3⟩ := zi_tmr ha hb
  exact z_lrem hd (by omega) (by rw [e1]; omega) (by rw [f1]; omega) (by rw [f1]; exact kk) p e s m args below meth c H locs lsr hB hl hlv hst hW hS hA
def zw_isub (a b : Int) : Int := (Int32.ofInt a - Int32.ofInt b).toInt
theorem zw_isub_s {F : zF} {k n : Nat} {Γ : zC} {h : zM} {pc : Nat} {ls : List (Option zV)} {st : List zV} {a b : Int} (hd : decode F.2.1.2.1 pc = .ok (.isub, 1)) (kk : zG F k n Γ h (pc + 1) ls (zI (zw_isub a b) :: st)) : zG F k n Γ h pc ls (zI b :: zI a :: st) :=
  zstk (st := zI b :: zI a :: st) (st' := zI (zw_isub a b) :: st) (pc' := pc + 1) (fun hv => zv2 (z32r _) (zvt (zvt hv))) (fun p e s m args below meth c H locs lsr hB hv hl hm w => lv_isub hB.1 hB.2.1 hd (by rw [← z32o (Int32.ofInt a - Int32.ofInt b)]; exact w)) kk
abbrev zjs (s : Int) : Prop := s = 38 ∨ s = 42 ∨ s = 43 ∨ s = 45 ∨ s = 47 ∨ s = 60 ∨ s = 61 ∨ s = 62 ∨ s = 124
def zlt (n t i d s : Int) : Int := if s = 110 then n else if s = 116 then t else if s = 115 then n / 100 + n / 10 % 10 + n % 10 else if s = 108 then n % 10 else if s = 105 then i else d
def zjn (s a b : Int) : Int := if s = 43 then a + b else if s = 45 then a - b else if s = 42 then a * b else if s = 47 then (if b = 0 then 0 else a.tdiv b) else if s = 61 then (if a = b then 1 else 0) else if s = 60 then (if a < b then 1 else 0) else if s = 62 then (if b < a then 1 else 0) else if s = 38 then zf_land a b else zf_lor a b
def zbn (x : Int) : Int := if 1000000 < x then 1000000 else if x < -1000000 then -1000000 else x
def zwor (L : Int → Int) : List Int → List Int → Bool → Int
  | [], _, _ => 0
  | c :: cs, st, true => zwor L cs st (decide (-c ≠ 59))
  | c :: cs, st, false => if -c = 59 then st.headD 0 else if -c = 63 then zwor L cs [] (decide (st ≠ [] ∧ st.headD 0 = 0)) else if -c = 33 then zwor L cs (match st with | [] => [] | a :: r => zw_isub 1 a :: r) false
      else if zjs (-c) then zwor L cs (match st with | b :: a :: r => zbn (zjn (-c) a b) :: r | st => st) false
      else zwor L cs ((if -c ≤ 0 then c else L (-c)) :: st) false
theorem zcmp_0 {a b : Int} : zcmp a b = 0 ↔ a = b := by unfold zcmp; split <;> (try split) <;> omega
theorem zcmp_l {a b : Int} : zcmp a b < 0 ↔ a < b := by unfold zcmp; split <;> (try split) <;> omega
theorem zcmp_g {a b : Int} : 0 < zcmp a b ↔ b < a := by unfold zcmp; split <;> (try split) <;> omega
theorem zcmp_le {a b : Int} : zcmp a b ≤ 0 ↔ a ≤ b := by unfold zcmp; split <;> (try split) <;> omega
theorem zcmp_ge {a b : Int} : 0 ≤ zcmp a b ↔ b ≤ a := by unfold zcmp; split <;> (try split) <;> omega
set_option maxRecDepth 4000 in
theorem X1_bounded_ct {l : Launch} {Γ : zC} {h : zM} {Q : Option zV → zC → zM → Prop} {x : Int} (hQ : Q (some (zI (zbn x))) Γ h) : zCT l mX1_bounded 0 0 0 Γ [zL x] h Q := by
  refine zCT_of (by decide) (Nat.le_of_ble_eq_true rfl) (ls := [some (zL x), none]) rfl ?_
  refine z_ll0 dX1_bounded_0 ?_
  refine z_ldc2 (x := 1000000) dX1_bounded_1 zqX1_40 (by decide) ?_
  refine z_lcmp dX1_bounded_4 ?_
  refine z_if_le (t := 11) dX1_bounded_5 (by rfl) (fun ht5 => ?_) (fun hf5 => ?_)
  · refine z_ll0 dX1_bounded_11 ?_
    refine z_ldc2 (x := -1000000) dX1_bounded_12 zqX1_43 (by decide) ?_
    refine z_lcmp dX1_bounded_15 ?_
    refine z_if_ge (t := 24) dX1_bounded_16 (by rfl) (fun ht16 => ?_) (fun hf16 => ?_)
    · refine z_ll0 dX1_bounded_24 ?_
      refine z_l2i dX1_bounded_25 (by simp only [zcmp_0, zcmp_l, zcmp_g, zcmp_le, zcmp_ge] at *; omega) ?_
      refine z_iret dX1_bounded_26 rfl (Nat.le_refl _) (Nat.le_refl _) (zext_rf _) (fun hrr => ?_)
      refine zQi hQ ?_ rfl
      unfold zbn
      simp only [zcmp_0, zcmp_l, zcmp_g, zcmp_le, zcmp_ge] at *
      first | (rw [if_pos (by omega)]) | (rw [if_neg (by omega), if_pos (by omega)]) | (rw [if_neg (by omega), if_neg (by omega)])
    · refine z_ldc (x := -1000000) dX1_bounded_19 zqX1_45 (by decide) ?_
      refine z_goto (t := 26) dX1_bounded_21 (by rfl) ?_
      refine z_iret dX1_bounded_26 rfl (Nat.le_refl _) (Nat.le_refl _) (zext_rf _) (fun hrr => ?_)
      refine zQi hQ ?_ rfl
      unfold zbn
      simp only [zcmp_0, zcmp_l, zcmp_g, zcmp_le, zcmp_ge] at *
      first | (rw [if_pos (by omega)]) | (rw [if_neg (by omega), if_pos (by omega)]) | (rw [if_neg (by omega), if_neg (by omega)])
  · refine z_ldc (x := 1000000) dX1_bounded_8 zqX1_42 (by decide) ?_
    refine z_iret dX1_bounded_10 rfl (Nat.le_refl _) (Nat.le_refl _) (zext_rf _) (fun hrr => ?_)
    refine zQi hQ ?_ rfl
    unfold zbn
    simp only [zcmp_0, zcmp_l, zcmp_g, zcmp_le, zcmp_ge] at *
    first | (rw [if_pos (by omega)]) | (rw [if_neg (by omega), if_pos (by omega)]) | (rw [if_neg (by omega), if_neg (by omega)])
theorem zjon {x : Int} (h : zjs x) : Op.lookupswitch.offset (#[((38 : Int), (83 : Int)), (42, 83), (43, 83), (45, 83), (47, 83), (60, 83), (61, 83), (62, 83), (124, 83)] : Array (Int × Int)).toList 85 x = 83 := by
  rcases h with rfl | rfl | rfl | rfl | rfl | rfl | rfl | rfl | rfl <;> rfl
theorem zjoff {x : Int} (h : ¬ zjs x) : Op.lookupswitch.offset (#[((38 : Int), (83 : Int)), (42, 83), (43, 83), (45, 83), (47, 83), (60, 83), (61, 83), (62, 83), (124, 83)] : Array (Int × Int)).toList 85 x = 85 := by
  have h' : x ≠ 38 ∧ x ≠ 42 ∧ x ≠ 43 ∧ x ≠ 45 ∧ x ≠ 47 ∧ x ≠ 60 ∧ x ≠ 61 ∧ x ≠ 62 ∧ x ≠ 124 := by omega
  obtain ⟨h1, h2, h3, h4, h5, h6, h7, h8, h9⟩ := h'
  simp [Op.lookupswitch.offset, h1.symm, h2.symm, h3.symm, h4.symm, h5.symm, h6.symm, h7.symm, h8.symm, h9.symm]
set_option maxRecDepth 4000 in
theorem X1_joins_ct {l : Launch} {Γ : zC} {h : zM} {Q : Option zV → zC → zM → Prop} {x : Int} (hQ : Q (some (zI (if zjs x then 1 else 0))) Γ h) : zCT l mX1_joins 0 0 0 Γ [zI x] h Q := by
  refine zCT_of (by decide) (Nat.le_of_ble_eq_true rfl) (ls := [some (zI x)]) rfl ?_
  refine z_il0 dX1_joins_0 ?_
  by_cases hj : zjs x
  rotate_left
  · refine z_lookup (t := 86) dX1_joins_1 (by decide) (off := 85) (zjoff hj) (by rfl) ?_
    refine z_iconst dX1_joins_86 (by decide) ?_
    refine z_zret dX1_joins_87 rfl (Nat.le_refl _) (Nat.le_refl _) (zext_rf _) (by first | exact Or.inl rfl | exact Or.inr rfl | omega) ?_
    refine zQi hQ ?_ rfl
    first | rw [if_pos hj] | rw [if_neg hj]
  · refine z_lookup (t := 84) dX1_joins_1 (by decide) (off := 83) (zjon hj) (by rfl) ?_
    refine z_iconst dX1_joins_84 (by decide) ?_
    refine z_zret dX1_joins_85 rfl (Nat.le_refl _) (Nat.le_refl _) (zext_rf _) (by first | exact Or.inl rfl | exact Or.inr rfl | omega) ?_
    refine zQi hQ ?_ rfl
    first | rw [if_pos hj] | rw [if_neg hj]
set_option maxRecDepth 4000 in
theorem X1_letter_ct {l : Launch} {Γ : zC} {h : zM} {Q : Option zV → zC → zM → Prop} {s n t i d : Int} (hs : zlet s) (hn : 0 ≤ n) (hn9 : n ≤ 999) (hQ : Q (some (zI (zlt n t i d s))) Γ h) : zCT l mX1_letter 0 0 0 Γ [zI s, zI n, zI t, zI i, zI d] h Q := by
  refine zCT_of (by decide) (Nat.le_of_ble_eq_true rfl) (ls := [some (zI s), some (zI n), some (zI t), some (zI i), some (zI d)]) rfl ?_
  refine z_il0 dX1_letter_0 ?_
  rcases hs with rfl | rfl | rfl | rfl | rfl | rfl
  · refine z_tabIn (t := 64) dX1_letter_1 (by decide) (by decide) (by rfl) (by rfl) ?_
    refine z_il1 dX1_letter_64 ?_
    refine z_iret dX1_letter_65 rfl (Nat.le_refl _) (Nat.le_refl _) (zext_rf _) (fun hrr => ?_)
    exact zQi hQ (by simp [zlt]) rfl
  · refine z_tabIn (t := 66) dX1_letter_1 (by decide) (by decide) (by rfl) (by rfl) ?_
    refine z_il2 dX1_letter_66 ?_
    refine z_iret dX1_letter_67 rfl (Nat.le_refl _) (Nat.le_refl _) (zext_rf _) (fun hrr => ?_)
    exact zQi hQ (by simp [zlt]) rfl
  · refine z_tabIn (t := 68) dX1_letter_1 (by decide) (by decide) (by rfl) (by rfl) ?_
    refine z_il1 dX1_letter_68 ?_
    refine z_bipush (x := 100) dX1_letter_69 (by rfl) (by decide) ?_
    refine z_idivp dX1_letter_71 (by omega) (by omega) ?_
    refine z_il1 dX1_letter_72 ?_
    refine z_bipush (x := 10) dX1_letter_73 (by rfl) (by decide) ?_
    refine z_idivp dX1_letter_75 (by omega) (by omega) ?_
    refine z_bipush (x := 10) dX1_letter_76 (by rfl) (by decide) ?_
    refine z_iremp dX1_letter_78 (by omega) (by omega) ?_
    refine z_iadd dX1_letter_79 (by omega) ?_
    refine z_il1 dX1_letter_80 ?_
    refine z_bipush (x := 10) dX1_letter_81 (by rfl) (by decide) ?_
    refine z_iremp dX1_letter_83 (by omega) (by omega) ?_
    refine z_iadd dX1_letter_84 (by omega) ?_
    refine z_iret dX1_letter_85 rfl (Nat.le_refl _) (Nat.le_refl _) (zext_rf _) (fun hrr => ?_)
    exact zQi hQ (by simp [zlt]) rfl
  · refine z_tabIn (t := 86) dX1_letter_1 (by decide) (by decide) (by rfl) (by rfl) ?_
    refine z_il1 dX1_letter_86 ?_
    refine z_bipush (x := 10) dX1_letter_87 (by rfl) (by decide) ?_
    refine z_iremp dX1_letter_89 (by omega) (by omega) ?_
    refine z_iret dX1_letter_90 rfl (Nat.le_refl _) (Nat.le_refl _) (zext_rf _) (fun hrr => ?_)
    exact zQi hQ (by simp [zlt]) rfl
  · refine z_tabIn (t := 91) dX1_letter_1 (by decide) (by decide) (by rfl) (by rfl) ?_
    refine z_il3 dX1_letter_91 ?_
    refine z_iret dX1_letter_92 rfl (Nat.le_refl _) (Nat.le_refl _) (zext_rf _) (fun hrr => ?_)
    exact zQi hQ (by simp [zlt]) rfl
  · refine z_tabOut (t := 93) dX1_letter_1 (by decide) (by rfl) ?_
    refine z_il4 dX1_letter_93 ?_
    refine z_iret dX1_letter_95 rfl (Nat.le_refl _) (Nat.le_refl _) (zext_rf _) (fun hrr => ?_)
    exact zQi hQ (by simp [zlt]) rfl
theorem zQi2 {Q : Option zV → zC → zM → Prop} {v v' : Int} {Γ : zC} {h : zM} (hQ : Q (some (zL v')) Γ h) (e : v = v') : Q (some (zL v)) Γ h := by rw [e]; exact hQ
theorem zmul64 {a b : Int} (ha : zo32 a) (hb : zo32 b) : zo64 (a * b) := by
  have h1 : a.natAbs ≤ 2147483648 := by omega
  have h2 : b.natAbs ≤ 2147483648 := by omega
  have h3 : (a * b).natAbs ≤ 2147483648 * 2147483648 := by rw [Int.natAbs_mul]; exact Nat.mul_le_mul h1 h2
  omega
theorem ztd64 {a b : Int} (ha : zo32 a) (hb : zo32 b) : zo64 (a.tdiv b) := by
  have h1 : a.natAbs ≤ 2147483648 := by omega
  have h3 : (a.tdiv b).natAbs ≤ 2147483648 := by rw [Int.natAbs_tdiv]; exact Nat.le_trans (Nat.div_le_self _ _) h1
  omega
set_option maxRecDepth 4000 in
theorem X1_joined_ct {l : Launch} {Γ : zC} {h : zM} {Q : Option zV → zC → zM → Prop} {s a b : Int} (hs : zjs s) (ha : zo32 a) (hb : zo32 b) (hQ : Q (some (zL (zjn s a b))) Γ h) : zCT l mX1_joined 0 0 0 Γ [zI s, zL a, zL b] h Q := by
  have hmul : zo64 (a * b) := zmul64 ha hb
  refine zCT_of (by decide) (Nat.le_of_ble_eq_true rfl) (ls := [some (zI s), some (zL a), none, some (zL b), none]) rfl ?_
  refine z_il0 dX1_joined_0 ?_
  rcases hs with rfl | rfl | rfl | rfl | rfl | rfl | rfl | rfl | rfl
  · refine z_tabIn (t := 178) dX1_joined_1 (by decide) (by decide) (by rfl) (by rfl) ?_
    refine z_ll1 dX1_joined_178 ?_
    refine z_ll3 dX1_joined_179 ?_
    refine z_land dX1_joined_180 ?_
    refine z_lret dX1_joined_181 rfl (Nat.le_refl _) (Nat.le_refl _) (zext_rf _) (fun hrr => ?_)
    refine zQi2 hQ ?_
    try simp only [zcmp_0, zcmp_l, zcmp_g, zcmp_le, zcmp_ge] at *
    simp [zjn, *]
  · refine z_tabIn (t := 124) dX1_joined_1 (by decide) (by decide) (by rfl) (by rfl) ?_
    refine z_ll1 dX1_joined_124 ?_
    refine z_ll3 dX1_joined_125 ?_
    refine z_lmul dX1_joined_126 (by exact hmul) ?_
    refine z_lret dX1_joined_127 rfl (Nat.le_refl _) (Nat.le_refl _) (zext_rf _) (fun hrr => ?_)
    refine zQi2 hQ ?_
    try simp only [zcmp_0, zcmp_l, zcmp_g, zcmp_le, zcmp_ge] at *
    simp [zjn, *]
  · refine z_tabIn (t := 116) dX1_joined_1 (by decide) (by decide) (by rfl) (by rfl) ?_
    refine z_ll1 dX1_joined_116 ?_
    refine z_ll3 dX1_joined_117 ?_
    refine z_ladd dX1_joined_118 (by omega) ?_
    refine z_lret dX1_joined_119 rfl (Nat.le_refl _) (Nat.le_refl _) (zext_rf _) (fun hrr => ?_)
    refine zQi2 hQ ?_
    try simp only [zcmp_0, zcmp_l, zcmp_g, zcmp_le, zcmp_ge] at *
    simp [zjn, *]
  · refine z_tabIn (t := 120) dX1_joined_1 (by decide) (by decide) (by rfl) (by rfl) ?_
    refine z_ll1 dX1_joined_120 ?_
    refine z_ll3 dX1_joined_121 ?_
    refine z_lsub dX1_joined_122 (by omega) ?_
    refine z_lret dX1_joined_123 rfl (Nat.le_refl _) (Nat.le_refl _) (zext_rf _) (fun hrr => ?_)
    refine zQi2 hQ ?_
    try simp only [zcmp_0, zcmp_l, zcmp_g, zcmp_le, zcmp_ge] at *
    simp [zjn, *]
  · refine z_tabIn (t := 128) dX1_joined_1 (by decide) (by decide) (by rfl) (by rfl) ?_
    refine z_ll3 dX1_joined_128 ?_
    refine z_lconst (x := 0) dX1_joined_129 (by rfl) (by decide) ?_
    refine z_lcmp dX1_joined_130 ?_
    refine z_if_ne (t := 138) dX1_joined_131 (by rfl) (fun ht131 => ?_) (fun hf131 => ?_)
    · refine z_ll1 dX1_joined_138 ?_
      refine z_ll3 dX1_joined_139 ?_
      refine z_ldiv dX1_joined_140 (fun e9 => ht131 (zcmp_0.mpr e9)) (ztd64 ha hb) ?_
      refine z_lret dX1_joined_141 rfl (Nat.le_refl _) (Nat.le_refl _) (zext_rf _) (fun hrr => ?_)
      refine zQi2 hQ ?_
      try simp only [zcmp_0, zcmp_l, zcmp_g, zcmp_le, zcmp_ge] at *
      simp [zjn, *]
    · refine z_lconst (x := 0) dX1_joined_134 (by rfl) (by decide) ?_
      refine z_goto (t := 141) dX1_joined_135 (by rfl) ?_
      refine z_lret dX1_joined_141 rfl (Nat.le_refl _) (Nat.le_refl _) (zext_rf _) (fun hrr => ?_)
      refine zQi2 hQ ?_
      try simp only [zcmp_0, zcmp_l, zcmp_g, zcmp_le, zcmp_ge] at *
      simp [zjn, *]
  · refine z_tabIn (t := 154) dX1_joined_1 (by decide) (by decide) (by rfl) (by rfl) ?_
    refine z_ll1 dX1_joined_154 ?_
    refine z_ll3 dX1_joined_155 ?_
    refine z_lcmp dX1_joined_156 ?_
    refine z_if_ge (t := 164) dX1_joined_157 (by rfl) (fun ht157 => ?_) (fun hf157 => ?_)
    · refine z_lconst (x := 0) dX1_joined_164 (by rfl) (by decide) ?_
      refine z_lret dX1_joined_165 rfl (Nat.le_refl _) (Nat.le_refl _) (zext_rf _) (fun hrr => ?_)
      refine zQi2 hQ ?_
      try simp only [zcmp_0, zcmp_l, zcmp_g, zcmp_le, zcmp_ge] at *
      simp [zjn, *]
    · refine z_lconst (x := 1) dX1_joined_160 (by rfl) (by decide) ?_
      refine z_goto (t := 165) dX1_joined_161 (by rfl) ?_
      refine z_lret dX1_joined_165 rfl (Nat.le_refl _) (Nat.le_refl _) (zext_rf _) (fun hrr => ?_)
      refine zQi2 hQ ?_
      try simp only [zcmp_0, zcmp_l, zcmp_g, zcmp_le, zcmp_ge] at *
      simp [zjn, *]
  · refine z_tabIn (t := 142) dX1_joined_1 (by decide) (by decide) (by rfl) (by rfl) ?_
    refine z_ll1 dX1_joined_142 ?_
    refine z_ll3 dX1_joined_143 ?_
    refine z_lcmp dX1_joined_144 ?_
    refine z_if_ne (t := 152) dX1_joined_145 (by rfl) (fun ht145 => ?_) (fun hf145 => ?_)
    · refine z_lconst (x := 0) dX1_joined_152 (by rfl) (by decide) ?_
      refine z_lret dX1_joined_153 rfl (Nat.le_refl _) (Nat.le_refl _) (zext_rf _) (fun hrr => ?_)
      refine zQi2 hQ ?_
      try simp only [zcmp_0, zcmp_l, zcmp_g, zcmp_le, zcmp_ge] at *
      simp [zjn, *]
    · refine z_lconst (x := 1) dX1_joined_148 (by rfl) (by decide) ?_
      refine z_goto (t := 153) dX1_joined_149 (by rfl) ?_
      refine z_lret dX1_joined_153 rfl (Nat.le_refl _) (Nat.le_refl _) (zext_rf _) (fun hrr => ?_)
      refine zQi2 hQ ?_
      try simp only [zcmp_0, zcmp_l, zcmp_g, zcmp_le, zcmp_ge] at *
      simp [zjn, *]
  · refine z_tabIn (t := 166) dX1_joined_1 (by decide) (by decide) (by rfl) (by rfl) ?_
    refine z_ll1 dX1_joined_166 ?_
    refine z_ll3 dX1_joined_167 ?_
    refine z_lcmp dX1_joined_168 ?_
    refine z_if_le (t := 176) dX1_joined_169 (by rfl) (fun ht169 => ?_) (fun hf169 => ?_)
    · refine z_lconst (x := 0) dX1_joined_176 (by rfl) (by decide) ?_
      refine z_lret dX1_joined_177 rfl (Nat.le_refl _) (Nat.le_refl _) (zext_rf _) (fun hrr => ?_)
      refine zQi2 hQ ?_
      try simp only [zcmp_0, zcmp_l, zcmp_g, zcmp_le, zcmp_ge] at *
      simp [zjn, *]
    · refine z_lconst (x := 1) dX1_joined_172 (by rfl) (by decide) ?_
      refine z_goto (t := 177) dX1_joined_173 (by rfl) ?_
      refine z_lret dX1_joined_177 rfl (Nat.le_refl _) (Nat.le_refl _) (zext_rf _) (fun hrr => ?_)
      refine zQi2 hQ ?_
      try simp only [zcmp_0, zcmp_l, zcmp_g, zcmp_le, zcmp_ge] at *
      simp [zjn, *]
  · refine z_tabOut (t := 182) dX1_joined_1 (by decide) (by rfl) ?_
    refine z_ll1 dX1_joined_182 ?_
    refine z_ll3 dX1_joined_183 ?_
    refine z_lor dX1_joined_184 ?_
    refine z_lret dX1_joined_185 rfl (Nat.le_refl _) (Nat.le_refl _) (zext_rf _) (fun hrr => ?_)
    refine zQi2 hQ ?_
    try simp only [zcmp_0, zcmp_l, zcmp_g, zcmp_le, zcmp_ge] at *
    simp [zjn, *]
def zskk (h : zM) (q : Nat) (st : List Int) : Prop := ∀ j, j < st.length → h q (st.length - 1 - j) = st.getD j 0
theorem zskk_nil (h : zM) (q : Nat) : zskk h q [] := fun j hj => by simp at hj
theorem zskk_top {h : zM} {q : Nat} {b : Int} {st : List Int} (H : zskk h q (b :: st)) : h q ((((b :: st).length : Nat) : Int) - 1).toNat = b := by
  have := H 0 (by simp)
  simp only [List.length_cons, Nat.add_sub_cancel, Nat.sub_zero, List.getD_cons_zero] at this
  rw [show ((((b :: st).length : Nat) : Int) - 1).toNat = st.length by simp only [List.length_cons]; omega]
  exact this
theorem zskk_tl {h : zM} {q : Nat} {b : Int} {st : List Int} (H : zskk h q (b :: st)) : zskk h q st := by
  intro j hj
  have := H (j + 1) (by simp; omega)
  simp only [List.length_cons, Nat.add_sub_cancel, List.getD_cons_succ] at this
  rw [show st.length - 1 - j = st.length - (j + 1) by omega]
  exact this
theorem zskk_2 {h : zM} {q : Nat} {a b : Int} {st : List Int} (H : zskk h q (b :: a :: st)) : h q ((((b :: a :: st).length : Nat) : Int) - 2).toNat = a := by
  have := zskk_top (zskk_tl H)
  rw [← this]
  congr 1
  simp only [List.length_cons]; omega
theorem zskk_push {h : zM} {q j : Nat} {v : Int} {st : List Int} (H : zskk h q st) (hj : j = st.length) : zskk (zup h q j v) q (v :: st) := by
  subst hj
  intro i hi
  cases i with
  | zero => simp [zup_ap]
  | succ i =>
    have h9 := H i (by simp at hi; omega)
    simp only [List.length_cons, Nat.add_sub_cancel, List.getD_cons_succ, zup_ap, true_and]
    rw [if_neg (by simp only [List.length_cons] at hi; omega), show st.length - (i + 1) = st.length - 1 - i by omega]
    exact h9
theorem zskk_ne {h : zM} {q r j : Nat} {v : Int} {st : List Int} (H : zskk h q st) (hj : q ≠ r) : zskk (zup h r j v) q st := by
  intro i hi; rw [zup_row hj]; exact H i hi
section ZWOR
variable {L : Int → Int} {c : Int} {cs st : List Int}
theorem zwor_p1 (h : -c = 59) : zwor L (c :: cs) st true = zwor L cs st false := by simp only [zwor]; rw [show decide (-c ≠ 59) = false by simpa using h]
theorem zwor_p0 (h : ¬ -c = 59) : zwor L (c :: cs) st true = zwor L cs st true := by simp only [zwor]; rw [show decide (-c ≠ 59) = true by simpa using h]
theorem zwor_e (h : -c = 59) : zwor L (c :: cs) st false = st.headD 0 := by simp only [zwor]; rw [if_pos h]
theorem zwor_q0 (h : -c = 63) : zwor L (c :: cs) [] false = zwor L cs [] false := by simp only [zwor]; rw [if_neg (by omega), if_pos h]; rfl
theorem zwor_q1 {b : Int} (h : -c = 63) (hb : b = 0) : zwor L (c :: cs) (b :: st) false = zwor L cs [] true := by simp only [zwor]; rw [if_neg (by omega), if_pos h]; simp [hb]
theorem zwor_q2 {b : Int} (h : -c = 63) (hb : ¬ b = 0) : zwor L (c :: cs) (b :: st) false = zwor L cs [] false := by simp only [zwor]; rw [if_neg (by omega), if_pos h]; simp [hb]
theorem zwor_n0 (h : -c = 33) : zwor L (c :: cs) [] false = zwor L cs [] false := by simp only [zwor]; rw [if_neg (by omega), if_neg (by omega), if_pos h]
theorem zwor_n1 {b : Int} (h : -c = 33) : zwor L (c :: cs) (b :: st) false = zwor L cs (zw_isub 1 b :: st) false := by simp only [zwor]; rw [if_neg (by omega), if_neg (by omega), if_pos h]
theorem zwor_j2 {a b : Int} (h : zjs (-c)) : zwor L (c :: cs) (b :: a :: st) false = zwor L cs (zbn (zjn (-c) a b) :: st) false := by simp only [zwor]; rw [if_neg (by omega), if_neg (by omega), if_neg (by omega), if_pos h]
theorem zwor_j1 (h : zjs (-c)) (hs : st.length ≤ 1) : zwor L (c :: cs) st false = zwor L cs st false := by
  simp only [zwor]; rw [if_neg (by omega), if_neg (by omega), if_neg (by omega), if_pos h]
  match st, hs with
  | [], _ => rfl
  | [_], _ => rfl
theorem zwor_v (h : 0 ≤ c) : zwor L (c :: cs) st false = zwor L cs (c :: st) false := by simp only [zwor]; rw [if_neg (by omega), if_neg (by omega), if_neg (by omega), if_neg (by omega), if_pos (by omega)]
theorem zwor_l (h : zlet (-c)) : zwor L (c :: cs) st false = zwor L cs (L (-c) :: st) false := by simp only [zwor]; rw [if_neg (by omega), if_neg (by omega), if_neg (by omega), if_neg (by omega), if_neg (by omega)]
end ZWOR
theorem zk_ne0 {Γ : zC} {r : Nat} {q : zK} (h : zkd Γ r = some q) : r ≠ 0 := fun e => by subst e; cases h
theorem zwor_L {L L' : Int → Int} (h : ∀ s, zlet s → L s = L' s) : ∀ (cs st : List Int) (b : Bool), (∀ c, c ∈ cs → 0 ≤ c ∨ zlet (-c) ∨ zjs (-c) ∨ c = -59 ∨ c = -63 ∨ c = -33) → zwor L cs st b = zwor L' cs st b := by
  intro cs
  induction cs with
  | nil => intro st b _; cases b <;> rfl
  | cons c cs ih =>
    intro st b hw
    have hw' := fun c9 hc9 => hw c9 (List.mem_cons_of_mem _ hc9)
    have hc := hw c List.mem_cons_self
    cases b with
    | true => simp only [zwor]; exact ih _ _ hw'
    | false =>
      simp only [zwor]
      by_cases h1 : -c = 59
      · rw [if_pos h1, if_pos h1]
      · rw [if_neg h1, if_neg h1]
        by_cases h2 : -c = 63
        · rw [if_pos h2, if_pos h2]; exact ih _ _ hw'
        · rw [if_neg h2, if_neg h2]
          by_cases h3 : -c = 33
          · rw [if_pos h3, if_pos h3]; exact ih _ _ hw'
          · rw [if_neg h3, if_neg h3]
            by_cases h4 : zjs (-c)
            · rw [if_pos h4, if_pos h4]; exact ih _ _ hw'
            · rw [if_neg h4, if_neg h4]
              by_cases h5 : -c ≤ 0
              · rw [if_pos h5, if_pos h5]; exact ih _ _ hw'
              · rw [if_neg h5, if_neg h5, h (-c) (by omega)]; exact ih _ _ hw'
abbrev zwf (c : Int) : Prop := 0 ≤ c ∨ zlet (-c) ∨ zjs (-c) ∨ c = -59 ∨ c = -63 ∨ c = -33
set_option maxRecDepth 4000 in
theorem zW_loop {l : Launch} {Γ : zC} {h0 : zM} {Q : Option zV → zC → zM → Prop} {r q1 q2 len : Nat} {nn t ii d : Int} (hk : zkd Γ r = some (.inl 1)) (hk1 : zkd Γ q1 = some (.inr (0, len))) (hk2 : zkd Γ q2 = some (.inr (0, len + 1))) (hs1 : zsr Γ r 0 = some q1) (hs2 : zsr Γ r 1 = some q2) (hv1 : zvr Γ q1) (hv2 : zvr Γ q2) (h12 : q1 ≠ q2) (hn : 0 ≤ nn) (hn9 : nn ≤ 999) (hl9 : len ≤ 1000) : ∀ (rest : List Int) (a : Nat) (st : List Int) (pas : Bool) (h : zM) (w : Option zV), a + rest.length = len → (∀ j, j < rest.length → h q1 (a + j) = rest.getD j 0) → st.length ≤ a → zskk h q2 st → (∀ r9, r9 ≠ q2 → h r9 = h0 r9) → (∀ c, c ∈ rest → zwf c) → (∀ h9, (∀ r9, r9 ≠ q2 → h9 r9 = h0 r9) → Q (some (zI (zwor (zlt nn t ii d) rest st pas))) Γ h9) →
    zG (zFn l mX1_worth 1 0 0 Γ Q) 0 0 Γ h 9 [some (zR r), some (zI nn), some (zI t), some (zI ii), some (zI d), some (zI (st.length : Nat)), some (zI (if pas then 1 else 0)), some (zI (a : Nat)), w] [] := by
  have hr0 : r ≠ 0 := zk_ne0 hk
  intro rest
  induction rest with
  | nil =>
    intro a st pas h w hlen hcd hst hZ hfr hwf hQ
    have hlen : a = len := by simpa using hlen
    simp only [zwor] at hQ
    refine z_il7 dX1_worth_9 ?_
    refine z_al0 dX1_worth_11 (by first | decide | omega | assumption) ?_
    refine z_getR zfX1_15 dX1_worth_12 (by first | exact hk | exact hk1 | exact hk2) rfl hs1 hv1 ?_
    refine z_alen dX1_worth_15 (by first | exact hk | exact hk1 | exact hk2) (by decide) ?_
    refine z_icmp_ge (t := 253) dX1_worth_16 (by rfl) (fun ht16 => ?_) (fun hf16 => ?_)
    · refine z_iconst dX1_worth_253 (by decide) ?_
      refine z_iret dX1_worth_254 rfl (Nat.le_refl _) (Nat.le_refl _) (zext_rf _) (fun hrr => ?_)
      exact hQ _ hfr
    · exfalso; omega --stop
  | cons c cs ih =>
    intro a st pas h w hlen hcd hst hZ hfr hwf hQ
    have hlen : a + (cs.length + 1) = len := by simpa using hlen
    have hc0 : h q1 a = c := by have := hcd 0 (by simp); simpa using this
    have hwc : -124 ≤ c := by rcases hwf c List.mem_cons_self with h | h | h | h | h | h <;> omega
    have hcn : (c :: cs).length = cs.length + 1 := rfl
    cases pas with
    | true =>
      show zG _ 0 0 Γ h 9 [some (zR r), some (zI nn), some (zI t), some (zI ii), some (zI d), some (zI (st.length : Nat)), some (zI 1), some (zI (a : Nat)), w] []
      refine z_il7 dX1_worth_9 ?_
      refine z_al0 dX1_worth_11 (by first | decide | omega | assumption) ?_
      refine z_getR zfX1_15 dX1_worth_12 (by first | exact hk | exact hk1 | exact hk2) rfl hs1 hv1 ?_
      refine z_alen dX1_worth_15 (by first | exact hk | exact hk1 | exact hk2) (by decide) ?_
      refine z_icmp_ge (t := 253) dX1_worth_16 (by rfl) (fun ht16 => ?_) (fun hf16 => ?_)
      · exfalso; omega --stop
      · refine z_al0 dX1_worth_19 (by first | decide | omega | assumption) ?_
        refine z_getR zfX1_15 dX1_worth_20 (by first | exact hk | exact hk1 | exact hk2) rfl hs1 hv1 ?_
        refine z_il7 dX1_worth_23 ?_
        refine z_iald dX1_worth_25 (by first | exact hk | exact hk1 | exact hk2) (by omega) (by omega) ?_
        try simp only [zup_ap, zup_row, ne_eq, not_false_eq_true, zres, Int.toNat_natCast, reduceIte, Nat.reduceEqDiff, Nat.reduceAdd, and_self, and_true, true_and, and_false, false_and]
        try simp only [Int.toNat_natCast]
        rw [hc0]
        refine zrngS (fun hrc => ?_)
        refine z_ineg dX1_worth_26 (by omega) ?_
        refine z_is8 dX1_worth_27 (Nat.le_of_ble_eq_true rfl) rfl ?_
        refine z_il6 dX1_worth_29 ?_
        refine z_if_eq (t := 51) dX1_worth_31 (by rfl) (fun hx => absurd hx (by decide)) (fun _ => ?_)
        refine z_il8 dX1_worth_34 ?_
        refine z_bipush (x := 59) dX1_worth_36 (by rfl) (by decide) ?_
        refine z_icmp_eq (t := 45) dX1_worth_38 (by rfl) (fun ht38 => ?_) (fun hf38 => ?_)
        · simp only [zwor_p1 ht38] at hQ
          refine z_iconst dX1_worth_45 (by decide) ?_
          refine z_is6 dX1_worth_46 (Nat.le_of_ble_eq_true rfl) rfl ?_
          refine z_goto (t := 247) dX1_worth_48 (by rfl) ?_
          refine z_ii7 dX1_worth_247 (by omega) (Nat.le_of_ble_eq_true rfl) rfl ?_
          try rw [show (((b :: a2 :: st).length : Nat) : Int) + -1 = (((zbn (zjn (-c) a2 b) :: st).length : Nat) : Int) by simp only [List.length_cons]; omega]
          refine z_goto (t := 9) dX1_worth_250 (by rfl) ?_
          refine ih (a + 1) _ _ _ _ (by omega) ?_ ?_ ?_ ?_ (fun c9 hc9 => hwf c9 (List.mem_cons_of_mem _ hc9)) hQ
          · intro j hj
            have h8 := hcd (j + 1) (by simp only [List.length_cons]; omega)
            rw [List.getD_cons_succ] at h8
            first
            | (rw [zup_row h12, show a + 1 + j = a + (j + 1) by omega]; exact h8)
            | (rw [show a + 1 + j = a + (j + 1) by omega]; exact h8)
          · first
            | omega
            | (simp only [List.length_cons, List.length_nil] at *; omega)
          · first
            | exact hZ
            | exact zskk_nil _ _
            | exact zskk_push hZ (by omega)
            | exact zskk_push (zskk_tl hZ) (by simp only [List.length_cons]; omega)
            | exact zskk_push (zskk_tl (zskk_tl hZ)) (by simp only [List.length_cons]; omega)
          · intro r9 hr9
            first
            | exact hfr r9 hr9
            | (rw [zup_row hr9]; exact hfr r9 hr9)
        · simp only [zwor_p0 hf38] at hQ
          refine z_iconst dX1_worth_41 (by decide) ?_
          refine z_goto (t := 46) dX1_worth_42 (by rfl) ?_
          refine z_is6 dX1_worth_46 (Nat.le_of_ble_eq_true rfl) rfl ?_
          refine z_goto (t := 247) dX1_worth_48 (by rfl) ?_
          refine z_ii7 dX1_worth_247 (by omega) (Nat.le_of_ble_eq_true rfl) rfl ?_
          try rw [show (((b :: a2 :: st).length : Nat) : Int) + -1 = (((zbn (zjn (-c) a2 b) :: st).length : Nat) : Int) by simp only [List.length_cons]; omega]
          refine z_goto (t := 9) dX1_worth_250 (by rfl) ?_
          refine ih (a + 1) _ _ _ _ (by omega) ?_ ?_ ?_ ?_ (fun c9 hc9 => hwf c9 (List.mem_cons_of_mem _ hc9)) hQ
          · intro j hj
            have h8 := hcd (j + 1) (by simp only [List.length_cons]; omega)
            rw [List.getD_cons_succ] at h8
            first
            | (rw [zup_row h12, show a + 1 + j = a + (j + 1) by omega]; exact h8)
            | (rw [show a + 1 + j = a + (j + 1) by omega]; exact h8)
          · first
            | omega
            | (simp only [List.length_cons, List.length_nil] at *; omega)
          · first
            | exact hZ
            | exact zskk_nil _ _
            | exact zskk_push hZ (by omega)
            | exact zskk_push (zskk_tl hZ) (by simp only [List.length_cons]; omega)
            | exact zskk_push (zskk_tl (zskk_tl hZ)) (by simp only [List.length_cons]; omega)
          · intro r9 hr9
            first
            | exact hfr r9 hr9
            | (rw [zup_row hr9]; exact hfr r9 hr9)
    | false =>
      show zG _ 0 0 Γ h 9 [some (zR r), some (zI nn), some (zI t), some (zI ii), some (zI d), some (zI (st.length : Nat)), some (zI 0), some (zI (a : Nat)), w] []
      refine z_il7 dX1_worth_9 ?_
      refine z_al0 dX1_worth_11 (by first | decide | omega | assumption) ?_
      refine z_getR zfX1_15 dX1_worth_12 (by first | exact hk | exact hk1 | exact hk2) rfl hs1 hv1 ?_
      refine z_alen dX1_worth_15 (by first | exact hk | exact hk1 | exact hk2) (by decide) ?_
      refine z_icmp_ge (t := 253) dX1_worth_16 (by rfl) (fun ht16 => ?_) (fun hf16 => ?_)
      · exfalso; omega --stop
      · refine z_al0 dX1_worth_19 (by first | decide | omega | assumption) ?_
        refine z_getR zfX1_15 dX1_worth_20 (by first | exact hk | exact hk1 | exact hk2) rfl hs1 hv1 ?_
        refine z_il7 dX1_worth_23 ?_
        refine z_iald dX1_worth_25 (by first | exact hk | exact hk1 | exact hk2) (by omega) (by omega) ?_
        try simp only [zup_ap, zup_row, ne_eq, not_false_eq_true, zres, Int.toNat_natCast, reduceIte, Nat.reduceEqDiff, Nat.reduceAdd, and_self, and_true, true_and, and_false, false_and]
        try simp only [Int.toNat_natCast]
        rw [hc0]
        refine zrngS (fun hrc => ?_)
        refine z_ineg dX1_worth_26 (by omega) ?_
        refine z_is8 dX1_worth_27 (Nat.le_of_ble_eq_true rfl) rfl ?_
        refine z_il6 dX1_worth_29 ?_
        refine z_if_eq (t := 51) dX1_worth_31 (by rfl) (fun _ => ?_) (fun hx => absurd hx (by decide))
        refine z_il8 dX1_worth_51 ?_
        refine z_bipush (x := 59) dX1_worth_53 (by rfl) (by decide) ?_
        refine z_icmp_ne (t := 77) dX1_worth_55 (by rfl) (fun ht55 => ?_) (fun hf55 => ?_)
        · refine z_il8 dX1_worth_77 ?_
          refine z_bipush (x := 63) dX1_worth_79 (by rfl) (by decide) ?_
          refine z_icmp_ne (t := 114) dX1_worth_81 (by rfl) (fun ht81 => ?_) (fun hf81 => ?_)
          · refine z_il8 dX1_worth_114 ?_
            refine z_bipush (x := 33) dX1_worth_116 (by rfl) (by decide) ?_
            refine z_icmp_ne (t := 149) dX1_worth_118 (by rfl) (fun ht118 => ?_) (fun hf118 => ?_)
            · refine z_il8 dX1_worth_149 ?_
              refine zcs1 dX1_worth_151 zkX1_24 ztX1_joins (Nat.le_of_ble_eq_true rfl) (by decide) (by first | decide | omega) ⟨Nat.le_refl _, Nat.le_refl _⟩ (X1_joins_ct (fun _ => ?_))
              try simp only [zup_ap, zup_row, ne_eq, not_false_eq_true, zres, Int.toNat_natCast, reduceIte, Nat.reduceEqDiff, Nat.reduceAdd, and_self, and_true, true_and, and_false, false_and]
              refine z_if_ne (t := 201) dX1_worth_154 (by rfl) (fun ht154 => ?_) (fun hf154 => ?_)
              · have hj := zif1.mp ht154
                refine z_il5 dX1_worth_201 ?_
                refine z_iconst dX1_worth_203 (by decide) ?_
                refine z_icmp_le (t := 247) dX1_worth_204 (by rfl) (fun ht204 => ?_) (fun hf204 => ?_)
                · simp only [zwor_j1 (st := st) hj (by omega)] at hQ
                  refine z_ii7 dX1_worth_247 (by omega) (Nat.le_of_ble_eq_true rfl) rfl ?_
                  try rw [show (((b :: a2 :: st).length : Nat) : Int) + -1 = (((zbn (zjn (-c) a2 b) :: st).length : Nat) : Int) by simp only [List.length_cons]; omega]
                  refine z_goto (t := 9) dX1_worth_250 (by rfl) ?_
                  refine ih (a + 1) _ _ _ _ (by omega) ?_ ?_ ?_ ?_ (fun c9 hc9 => hwf c9 (List.mem_cons_of_mem _ hc9)) hQ
                  · intro j hj
                    have h8 := hcd (j + 1) (by simp only [List.length_cons]; omega)
                    rw [List.getD_cons_succ] at h8
                    first
                    | (rw [zup_row h12, show a + 1 + j = a + (j + 1) by omega]; exact h8)
                    | (rw [show a + 1 + j = a + (j + 1) by omega]; exact h8)
                  · first
                    | omega
                    | (simp only [List.length_cons, List.length_nil] at *; omega)
                  · first
                    | exact hZ
                    | exact zskk_nil _ _
                    | exact zskk_push hZ (by omega)
                    | exact zskk_push (zskk_tl hZ) (by simp only [List.length_cons]; omega)
                    | exact zskk_push (zskk_tl (zskk_tl hZ)) (by simp only [List.length_cons]; omega)
                  · intro r9 hr9
                    first
                    | exact hfr r9 hr9
                    | (rw [zup_row hr9]; exact hfr r9 hr9)
                · obtain ⟨b, a2, st, rfl⟩ : ∃ b a2 s9, st = b :: a2 :: s9 := by
                    match st, hf204 with
                    | [], h => simp at h
                    | [_], h => simp at h
                    | b :: a2 :: s9, _ => exact ⟨b, a2, s9, rfl⟩
                  simp only [zwor_j2 hj] at hQ
                  refine z_al0 dX1_worth_207 (by first | decide | omega | assumption) ?_
                  refine z_getR zfX1_21 dX1_worth_208 (by first | exact hk | exact hk1 | exact hk2) rfl hs2 hv2 ?_
                  refine z_il5 dX1_worth_211 ?_
                  refine z_iconst dX1_worth_213 (by decide) ?_
                  refine z_isub dX1_worth_214 (by omega) ?_
                  refine z_il8 dX1_worth_215 ?_
                  refine z_al0 dX1_worth_217 (by first | decide | omega | assumption) ?_
                  refine z_getR zfX1_21 dX1_worth_218 (by first | exact hk | exact hk1 | exact hk2) rfl hs2 hv2 ?_
                  refine z_il5 dX1_worth_221 ?_
                  refine z_iconst dX1_worth_223 (by decide) ?_
                  refine z_isub dX1_worth_224 (by omega) ?_
                  refine z_iald dX1_worth_225 (by first | exact hk | exact hk1 | exact hk2) (by first | omega | (simp only [List.length_cons] at *; omega)) (by first | omega | (simp only [List.length_cons] at *; omega)) ?_
                  try simp only [zup_ap, zup_row, ne_eq, not_false_eq_true, zres, Int.toNat_natCast, reduceIte, Nat.reduceEqDiff, Nat.reduceAdd, and_self, and_true, true_and, and_false, false_and]
                  rw [zskk_2 hZ]
                  refine zrngS (fun hr1 => ?_)
                  refine z_i2l dX1_worth_226 ?_
                  refine z_al0 dX1_worth_227 (by first | decide | omega | assumption) ?_
                  refine z_getR zfX1_21 dX1_worth_228 (by first | exact hk | exact hk1 | exact hk2) rfl hs2 hv2 ?_
                  refine z_il5 dX1_worth_231 ?_
                  refine z_iconst dX1_worth_233 (by decide) ?_
                  refine z_isub dX1_worth_234 (by omega) ?_
                  refine z_iald dX1_worth_235 (by first | exact hk | exact hk1 | exact hk2) (by first | omega | (simp only [List.length_cons] at *; omega)) (by first | omega | (simp only [List.length_cons] at *; omega)) ?_
                  try simp only [zup_ap, zup_row, ne_eq, not_false_eq_true, zres, Int.toNat_natCast, reduceIte, Nat.reduceEqDiff, Nat.reduceAdd, and_self, and_true, true_and, and_false, false_and]
                  rw [zskk_top hZ]
                  refine zrngS (fun hr2 => ?_)
                  refine z_i2l dX1_worth_236 ?_
                  refine zcs3 dX1_worth_237 zkX1_32 ztX1_joined (Nat.le_of_ble_eq_true rfl) (by decide) (by first | decide | omega) ⟨Nat.le_refl _, Nat.le_refl _⟩ (X1_joined_ct hj hr1 hr2 (fun _ => ?_))
                  try simp only [zup_ap, zup_row, ne_eq, not_false_eq_true, zres, Int.toNat_natCast, reduceIte, Nat.reduceEqDiff, Nat.reduceAdd, and_self, and_true, true_and, and_false, false_and]
                  refine zcs1 dX1_worth_240 zkX1_36 ztX1_bounded (Nat.le_of_ble_eq_true rfl) (by decide) (by first | decide | omega) ⟨Nat.le_refl _, Nat.le_refl _⟩ (X1_bounded_ct (fun _ => ?_))
                  try simp only [zup_ap, zup_row, ne_eq, not_false_eq_true, zres, Int.toNat_natCast, reduceIte, Nat.reduceEqDiff, Nat.reduceAdd, and_self, and_true, true_and, and_false, false_and]
                  refine z_iast dX1_worth_243 (by first | exact hk | exact hk1 | exact hk2) (by first | omega | (simp only [List.length_cons] at *; omega)) (by first | omega | (simp only [List.length_cons] at *; omega)) ?_
                  refine z_ii5 dX1_worth_244 (by omega) (Nat.le_of_ble_eq_true rfl) rfl ?_
                  refine z_ii7 dX1_worth_247 (by omega) (Nat.le_of_ble_eq_true rfl) rfl ?_
                  try rw [show (((b :: a2 :: st).length : Nat) : Int) + -1 = (((zbn (zjn (-c) a2 b) :: st).length : Nat) : Int) by simp only [List.length_cons]; omega]
                  refine z_goto (t := 9) dX1_worth_250 (by rfl) ?_
                  refine ih (a + 1) _ _ _ _ (by omega) ?_ ?_ ?_ ?_ (fun c9 hc9 => hwf c9 (List.mem_cons_of_mem _ hc9)) hQ
                  · intro j hj
                    have h8 := hcd (j + 1) (by simp only [List.length_cons]; omega)
                    rw [List.getD_cons_succ] at h8
                    first
                    | (rw [zup_row h12, show a + 1 + j = a + (j + 1) by omega]; exact h8)
                    | (rw [show a + 1 + j = a + (j + 1) by omega]; exact h8)
                  · first
                    | omega
                    | (simp only [List.length_cons, List.length_nil] at *; omega)
                  · first
                    | exact hZ
                    | exact zskk_nil _ _
                    | exact zskk_push hZ (by omega)
                    | exact zskk_push (zskk_tl hZ) (by simp only [List.length_cons]; omega)
                    | exact zskk_push (zskk_tl (zskk_tl hZ)) (by simp only [List.length_cons]; omega)
                  · intro r9 hr9
                    first
                    | exact hfr r9 hr9
                    | (rw [zup_row hr9]; exact hfr r9 hr9)
              · have hj := zif0.mp hf154
                refine z_il5 dX1_worth_157 ?_
                refine z_al0 dX1_worth_159 (by first | decide | omega | assumption) ?_
                refine z_getR zfX1_21 dX1_worth_160 (by first | exact hk | exact hk1 | exact hk2) rfl hs2 hv2 ?_
                refine z_alen dX1_worth_163 (by first | exact hk | exact hk1 | exact hk2) (by decide) ?_
                refine z_icmp_ge (t := 247) dX1_worth_164 (by rfl) (fun ht164 => ?_) (fun hf164 => ?_)
                · exfalso; omega --stop
                · refine z_al0 dX1_worth_167 (by first | decide | omega | assumption) ?_
                  refine z_getR zfX1_21 dX1_worth_168 (by first | exact hk | exact hk1 | exact hk2) rfl hs2 hv2 ?_
                  refine z_il5 dX1_worth_171 ?_
                  refine z_il8 dX1_worth_173 ?_
                  refine z_if_gt (t := 184) dX1_worth_175 (by rfl) (fun ht175 => ?_) (fun hf175 => ?_)
                  · have hl : zlet (-c) := by have := hwf c List.mem_cons_self; omega
                    simp only [zwor_l hl] at hQ
                    refine z_il8 dX1_worth_184 ?_
                    refine z_il1 dX1_worth_186 ?_
                    refine z_il2 dX1_worth_187 ?_
                    refine z_il3 dX1_worth_188 ?_
                    refine z_il4 dX1_worth_189 ?_
                    refine zcs5 dX1_worth_191 zkX1_28 ztX1_letter (Nat.le_of_ble_eq_true rfl) (by decide) (by first | decide | omega) ⟨Nat.le_refl _, Nat.le_refl _⟩ (X1_letter_ct hl hn hn9 (fun _ => ?_))
                    try simp only [zup_ap, zup_row, ne_eq, not_false_eq_true, zres, Int.toNat_natCast, reduceIte, Nat.reduceEqDiff, Nat.reduceAdd, and_self, and_true, true_and, and_false, false_and]
                    try rw [Int.neg_neg]
                    refine z_iast dX1_worth_194 (by first | exact hk | exact hk1 | exact hk2) (by omega) (by omega) ?_
                    refine z_ii5 dX1_worth_195 (by omega) (Nat.le_of_ble_eq_true rfl) rfl ?_
                    refine z_goto (t := 247) dX1_worth_198 (by rfl) ?_
                    refine z_ii7 dX1_worth_247 (by omega) (Nat.le_of_ble_eq_true rfl) rfl ?_
                    try rw [show (((b :: a2 :: st).length : Nat) : Int) + -1 = (((zbn (zjn (-c) a2 b) :: st).length : Nat) : Int) by simp only [List.length_cons]; omega]
                    refine z_goto (t := 9) dX1_worth_250 (by rfl) ?_
                    refine ih (a + 1) _ _ _ _ (by omega) ?_ ?_ ?_ ?_ (fun c9 hc9 => hwf c9 (List.mem_cons_of_mem _ hc9)) hQ
                    · intro j hj
                      have h8 := hcd (j + 1) (by simp only [List.length_cons]; omega)
                      rw [List.getD_cons_succ] at h8
                      first
                      | (rw [zup_row h12, show a + 1 + j = a + (j + 1) by omega]; exact h8)
                      | (rw [show a + 1 + j = a + (j + 1) by omega]; exact h8)
                    · first
                      | omega
                      | (simp only [List.length_cons, List.length_nil] at *; omega)
                    · first
                      | exact hZ
                      | exact zskk_nil _ _
                      | exact zskk_push hZ (by omega)
                      | exact zskk_push (zskk_tl hZ) (by simp only [List.length_cons]; omega)
                      | exact zskk_push (zskk_tl (zskk_tl hZ)) (by simp only [List.length_cons]; omega)
                    · intro r9 hr9
                      first
                      | exact hfr r9 hr9
                      | (rw [zup_row hr9]; exact hfr r9 hr9)
                  · simp only [zwor_v (c := c) (by omega)] at hQ
                    refine z_il8 dX1_worth_178 ?_
                    refine z_ineg dX1_worth_180 (by omega) ?_
                    refine z_goto (t := 194) dX1_worth_181 (by rfl) ?_
                    try rw [Int.neg_neg]
                    refine z_iast dX1_worth_194 (by first | exact hk | exact hk1 | exact hk2) (by omega) (by omega) ?_
                    refine z_ii5 dX1_worth_195 (by omega) (Nat.le_of_ble_eq_true rfl) rfl ?_
                    refine z_goto (t := 247) dX1_worth_198 (by rfl) ?_
                    refine z_ii7 dX1_worth_247 (by omega) (Nat.le_of_ble_eq_true rfl) rfl ?_
                    try rw [show (((b :: a2 :: st).length : Nat) : Int) + -1 = (((zbn (zjn (-c) a2 b) :: st).length : Nat) : Int) by simp only [List.length_cons]; omega]
                    refine z_goto (t := 9) dX1_worth_250 (by rfl) ?_
                    refine ih (a + 1) _ _ _ _ (by omega) ?_ ?_ ?_ ?_ (fun c9 hc9 => hwf c9 (List.mem_cons_of_mem _ hc9)) hQ
                    · intro j hj
                      have h8 := hcd (j + 1) (by simp only [List.length_cons]; omega)
                      rw [List.getD_cons_succ] at h8
                      first
                      | (rw [zup_row h12, show a + 1 + j = a + (j + 1) by omega]; exact h8)
                      | (rw [show a + 1 + j = a + (j + 1) by omega]; exact h8)
                    · first
                      | omega
                      | (simp only [List.length_cons, List.length_nil] at *; omega)
                    · first
                      | exact hZ
                      | exact zskk_nil _ _
                      | exact zskk_push hZ (by omega)
                      | exact zskk_push (zskk_tl hZ) (by simp only [List.length_cons]; omega)
                      | exact zskk_push (zskk_tl (zskk_tl hZ)) (by simp only [List.length_cons]; omega)
                    · intro r9 hr9
                      first
                      | exact hfr r9 hr9
                      | (rw [zup_row hr9]; exact hfr r9 hr9)
            · refine z_il5 dX1_worth_121 ?_
              refine z_if_le (t := 247) dX1_worth_123 (by rfl) (fun ht123 => ?_) (fun hf123 => ?_)
              · have e0 : st = [] := List.length_eq_zero_iff.mp (by omega)
                subst e0
                simp only [zwor_n0 hf118] at hQ
                refine z_ii7 dX1_worth_247 (by omega) (Nat.le_of_ble_eq_true rfl) rfl ?_
                try rw [show (((b :: a2 :: st).length : Nat) : Int) + -1 = (((zbn (zjn (-c) a2 b) :: st).length : Nat) : Int) by simp only [List.length_cons]; omega]
                refine z_goto (t := 9) dX1_worth_250 (by rfl) ?_
                refine ih (a + 1) _ _ _ _ (by omega) ?_ ?_ ?_ ?_ (fun c9 hc9 => hwf c9 (List.mem_cons_of_mem _ hc9)) hQ
                · intro j hj
                  have h8 := hcd (j + 1) (by simp only [List.length_cons]; omega)
                  rw [List.getD_cons_succ] at h8
                  first
                  | (rw [zup_row h12, show a + 1 + j = a + (j + 1) by omega]; exact h8)
                  | (rw [show a + 1 + j = a + (j + 1) by omega]; exact h8)
                · first
                  | omega
                  | (simp only [List.length_cons, List.length_nil] at *; omega)
                · first
                  | exact hZ
                  | exact zskk_nil _ _
                  | exact zskk_push hZ (by omega)
                  | exact zskk_push (zskk_tl hZ) (by simp only [List.length_cons]; omega)
                  | exact zskk_push (zskk_tl (zskk_tl hZ)) (by simp only [List.length_cons]; omega)
                · intro r9 hr9
                  first
                  | exact hfr r9 hr9
                  | (rw [zup_row hr9]; exact hfr r9 hr9)
              · obtain ⟨b, st, rfl⟩ : ∃ b s9, st = b :: s9 := by cases st with | nil => simp at hf123 | cons b s9 => exact ⟨b, s9, rfl⟩
                simp only [zwor_n1 hf118] at hQ
                refine z_al0 dX1_worth_126 (by first | decide | omega | assumption) ?_
                refine z_getR zfX1_21 dX1_worth_127 (by first | exact hk | exact hk1 | exact hk2) rfl hs2 hv2 ?_
                refine z_il5 dX1_worth_130 ?_
                refine z_iconst dX1_worth_132 (by decide) ?_
                refine z_isub dX1_worth_133 (by omega) ?_
                refine z_iconst dX1_worth_134 (by decide) ?_
                refine z_al0 dX1_worth_135 (by first | decide | omega | assumption) ?_
                refine z_getR zfX1_21 dX1_worth_136 (by first | exact hk | exact hk1 | exact hk2) rfl hs2 hv2 ?_
                refine z_il5 dX1_worth_139 ?_
                refine z_iconst dX1_worth_141 (by decide) ?_
                refine z_isub dX1_worth_142 (by omega) ?_
                refine z_iald dX1_worth_143 (by first | exact hk | exact hk1 | exact hk2) (by first | omega | (simp only [List.length_cons] at *; omega)) (by first | omega | (simp only [List.length_cons] at *; omega)) ?_
                try simp only [zup_ap, zup_row, ne_eq, not_false_eq_true, zres, Int.toNat_natCast, reduceIte, Nat.reduceEqDiff, Nat.reduceAdd, and_self, and_true, true_and, and_false, false_and]
                rw [zskk_top hZ]
                refine zw_isub_s dX1_worth_144 ?_
                refine z_iast dX1_worth_145 (by first | exact hk | exact hk1 | exact hk2) (by first | omega | (simp only [List.length_cons] at *; omega)) (by first | omega | (simp only [List.length_cons] at *; omega)) ?_
                refine z_goto (t := 247) dX1_worth_146 (by rfl) ?_
                refine z_ii7 dX1_worth_247 (by omega) (Nat.le_of_ble_eq_true rfl) rfl ?_
                try rw [show (((b :: a2 :: st).length : Nat) : Int) + -1 = (((zbn (zjn (-c) a2 b) :: st).length : Nat) : Int) by simp only [List.length_cons]; omega]
                refine z_goto (t := 9) dX1_worth_250 (by rfl) ?_
                refine ih (a + 1) _ _ _ _ (by omega) ?_ ?_ ?_ ?_ (fun c9 hc9 => hwf c9 (List.mem_cons_of_mem _ hc9)) hQ
                · intro j hj
                  have h8 := hcd (j + 1) (by simp only [List.length_cons]; omega)
                  rw [List.getD_cons_succ] at h8
                  first
                  | (rw [zup_row h12, show a + 1 + j = a + (j + 1) by omega]; exact h8)
                  | (rw [show a + 1 + j = a + (j + 1) by omega]; exact h8)
                · first
                  | omega
                  | (simp only [List.length_cons, List.length_nil] at *; omega)
                · first
                  | exact hZ
                  | exact zskk_nil _ _
                  | exact zskk_push hZ (by omega)
                  | exact zskk_push (zskk_tl hZ) (by simp only [List.length_cons]; omega)
                  | exact zskk_push (zskk_tl (zskk_tl hZ)) (by simp only [List.length_cons]; omega)
                · intro r9 hr9
                  first
                  | exact hfr r9 hr9
                  | (rw [zup_row hr9]; exact hfr r9 hr9)
          · refine z_il5 dX1_worth_84 ?_
            refine z_if_le (t := 105) dX1_worth_86 (by rfl) (fun ht86 => ?_) (fun hf86 => ?_)
            · have e0 : st = [] := List.length_eq_zero_iff.mp (by omega)
              subst e0
              simp only [zwor_q0 hf81] at hQ
              refine z_iconst dX1_worth_105 (by decide) ?_
              refine z_is6 dX1_worth_106 (Nat.le_of_ble_eq_true rfl) rfl ?_
              refine z_iconst dX1_worth_108 (by decide) ?_
              refine z_is5 dX1_worth_109 (Nat.le_of_ble_eq_true rfl) rfl ?_
              refine z_goto (t := 247) dX1_worth_111 (by rfl) ?_
              refine z_ii7 dX1_worth_247 (by omega) (Nat.le_of_ble_eq_true rfl) rfl ?_
              try rw [show (((b :: a2 :: st).length : Nat) : Int) + -1 = (((zbn (zjn (-c) a2 b) :: st).length : Nat) : Int) by simp only [List.length_cons]; omega]
              refine z_goto (t := 9) dX1_worth_250 (by rfl) ?_
              refine ih (a + 1) _ _ _ _ (by omega) ?_ ?_ ?_ ?_ (fun c9 hc9 => hwf c9 (List.mem_cons_of_mem _ hc9)) hQ
              · intro j hj
                have h8 := hcd (j + 1) (by simp only [List.length_cons]; omega)
                rw [List.getD_cons_succ] at h8
                first
                | (rw [zup_row h12, show a + 1 + j = a + (j + 1) by omega]; exact h8)
                | (rw [show a + 1 + j = a + (j + 1) by omega]; exact h8)
              · first
                | omega
                | (simp only [List.length_cons, List.length_nil] at *; omega)
              · first
                | exact hZ
                | exact zskk_nil _ _
                | exact zskk_push hZ (by omega)
                | exact zskk_push (zskk_tl hZ) (by simp only [List.length_cons]; omega)
                | exact zskk_push (zskk_tl (zskk_tl hZ)) (by simp only [List.length_cons]; omega)
              · intro r9 hr9
                first
                | exact hfr r9 hr9
                | (rw [zup_row hr9]; exact hfr r9 hr9)
            · obtain ⟨b, st, rfl⟩ : ∃ b s9, st = b :: s9 := by cases st with | nil => simp at hf86 | cons b s9 => exact ⟨b, s9, rfl⟩
              refine z_al0 dX1_worth_89 (by first | decide | omega | assumption) ?_
              refine z_getR zfX1_21 dX1_worth_90 (by first | exact hk | exact hk1 | exact hk2) rfl hs2 hv2 ?_
              refine z_il5 dX1_worth_93 ?_
              refine z_iconst dX1_worth_95 (by decide) ?_
              refine z_isub dX1_worth_96 (by omega) ?_
              refine z_iald dX1_worth_97 (by first | exact hk | exact hk1 | exact hk2) (by first | omega | (simp only [List.length_cons] at *; omega)) (by first | omega | (simp only [List.length_cons] at *; omega)) ?_
              try simp only [zup_ap, zup_row, ne_eq, not_false_eq_true, zres, Int.toNat_natCast, reduceIte, Nat.reduceEqDiff, Nat.reduceAdd, and_self, and_true, true_and, and_false, false_and]
              refine z_if_ne (t := 105) dX1_worth_98 (by rfl) (fun ht98 => ?_) (fun hf98 => ?_)
              · rw [zskk_top hZ] at ht98
                simp only [zwor_q2 hf81 ht98] at hQ
                refine z_iconst dX1_worth_105 (by decide) ?_
                refine z_is6 dX1_worth_106 (Nat.le_of_ble_eq_true rfl) rfl ?_
                refine z_iconst dX1_worth_108 (by decide) ?_
                refine z_is5 dX1_worth_109 (Nat.le_of_ble_eq_true rfl) rfl ?_
                refine z_goto (t := 247) dX1_worth_111 (by rfl) ?_
                refine z_ii7 dX1_worth_247 (by omega) (Nat.le_of_ble_eq_true rfl) rfl ?_
                try rw [show (((b :: a2 :: st).length : Nat) : Int) + -1 = (((zbn (zjn (-c) a2 b) :: st).length : Nat) : Int) by simp only [List.length_cons]; omega]
                refine z_goto (t := 9) dX1_worth_250 (by rfl) ?_
                refine ih (a + 1) _ _ _ _ (by omega) ?_ ?_ ?_ ?_ (fun c9 hc9 => hwf c9 (List.mem_cons_of_mem _ hc9)) hQ
                · intro j hj
                  have h8 := hcd (j + 1) (by simp only [List.length_cons]; omega)
                  rw [List.getD_cons_succ] at h8
                  first
                  | (rw [zup_row h12, show a + 1 + j = a + (j + 1) by omega]; exact h8)
                  | (rw [show a + 1 + j = a + (j + 1) by omega]; exact h8)
                · first
                  | omega
                  | (simp only [List.length_cons, List.length_nil] at *; omega)
                · first
                  | exact hZ
                  | exact zskk_nil _ _
                  | exact zskk_push hZ (by omega)
                  | exact zskk_push (zskk_tl hZ) (by simp only [List.length_cons]; omega)
                  | exact zskk_push (zskk_tl (zskk_tl hZ)) (by simp only [List.length_cons]; omega)
                · intro r9 hr9
                  first
                  | exact hfr r9 hr9
                  | (rw [zup_row hr9]; exact hfr r9 hr9)
              · rw [zskk_top hZ] at hf98
                simp only [zwor_q1 hf81 hf98] at hQ
                refine z_iconst dX1_worth_101 (by decide) ?_
                refine z_goto (t := 106) dX1_worth_102 (by rfl) ?_
                refine z_is6 dX1_worth_106 (Nat.le_of_ble_eq_true rfl) rfl ?_
                refine z_iconst dX1_worth_108 (by decide) ?_
                refine z_is5 dX1_worth_109 (Nat.le_of_ble_eq_true rfl) rfl ?_
                refine z_goto (t := 247) dX1_worth_111 (by rfl) ?_
                refine z_ii7 dX1_worth_247 (by omega) (Nat.le_of_ble_eq_true rfl) rfl ?_
                try rw [show (((b :: a2 :: st).length : Nat) : Int) + -1 = (((zbn (zjn (-c) a2 b) :: st).length : Nat) : Int) by simp only [List.length_cons]; omega]
                refine z_goto (t := 9) dX1_worth_250 (by rfl) ?_
                refine ih (a + 1) _ _ _ _ (by omega) ?_ ?_ ?_ ?_ (fun c9 hc9 => hwf c9 (List.mem_cons_of_mem _ hc9)) hQ
                · intro j hj
                  have h8 := hcd (j + 1) (by simp only [List.length_cons]; omega)
                  rw [List.getD_cons_succ] at h8
                  first
                  | (rw [zup_row h12, show a + 1 + j = a + (j + 1) by omega]; exact h8)
                  | (rw [show a + 1 + j = a + (j + 1) by omega]; exact h8)
                · first
                  | omega
                  | (simp only [List.length_cons, List.length_nil] at *; omega)
                · first
                  | exact hZ
                  | exact zskk_nil _ _
                  | exact zskk_push hZ (by omega)
                  | exact zskk_push (zskk_tl hZ) (by simp only [List.length_cons]; omega)
                  | exact zskk_push (zskk_tl (zskk_tl hZ)) (by simp only [List.length_cons]; omega)
                · intro r9 hr9
                  first
                  | exact hfr r9 hr9
                  | (rw [zup_row hr9]; exact hfr r9 hr9)
        · simp only [zwor_e hf55] at hQ
          refine z_il5 dX1_worth_58 ?_
          refine z_if_le (t := 75) dX1_worth_60 (by rfl) (fun ht60 => ?_) (fun hf60 => ?_)
          · have e0 : st = [] := List.length_eq_zero_iff.mp (by omega)
            subst e0
            refine z_iconst dX1_worth_75 (by decide) ?_
            refine z_iret dX1_worth_76 rfl (Nat.le_refl _) (Nat.le_refl _) (zext_rf _) (fun hrr => ?_)
            first | exact hQ _ hfr | (rw [zskk_top hZ]; exact hQ _ hfr)
          · obtain ⟨b, st, rfl⟩ : ∃ b s9, st = b :: s9 := by cases st with | nil => simp at hf60 | cons b s9 => exact ⟨b, s9, rfl⟩
            refine z_al0 dX1_worth_63 (by first | decide | omega | assumption) ?_
            refine z_getR zfX1_21 dX1_worth_64 (by first | exact hk | exact hk1 | exact hk2) rfl hs2 hv2 ?_
            refine z_il5 dX1_worth_67 ?_
            refine z_iconst dX1_worth_69 (by decide) ?_
            refine z_isub dX1_worth_70 (by omega) ?_
            refine z_iald dX1_worth_71 (by first | exact hk | exact hk1 | exact hk2) (by first | omega | (simp only [List.length_cons] at *; omega)) (by first | omega | (simp only [List.length_cons] at *; omega)) ?_
            try simp only [zup_ap, zup_row, ne_eq, not_false_eq_true, zres, Int.toNat_natCast, reduceIte, Nat.reduceEqDiff, Nat.reduceAdd, and_self, and_true, true_and, and_false, false_and]
            refine z_goto (t := 76) dX1_worth_72 (by rfl) ?_
            refine z_iret dX1_worth_76 rfl (Nat.le_refl _) (Nat.le_refl _) (zext_rf _) (fun hrr => ?_)
            first | exact hQ _ hfr | (rw [zskk_top hZ]; exact hQ _ hfr)
set_option maxRecDepth 4000 in
theorem X1_worth_ct {l : Launch} {Γ : zC} {h0 : zM} {Q : Option zV → zC → zM → Prop} {r q1 q2 len : Nat} {nn t ii d : Int} (hk : zkd Γ r = some (.inl 1)) (hk1 : zkd Γ q1 = some (.inr (0, len))) (hk2 : zkd Γ q2 = some (.inr (0, len + 1))) (hs1 : zsr Γ r 0 = some q1) (hs2 : zsr Γ r 1 = some q2) (hv1 : zvr Γ q1) (hv2 : zvr Γ q2) (h12 : q1 ≠ q2) (hn : 0 ≤ nn) (hn9 : nn ≤ 999) (hl9 : len ≤ 1000) {cs : List Int} (hlen : cs.length = len) (hcd : ∀ j, j < cs.length → h0 q1 j = cs.getD j 0) (hwf : ∀ c, c ∈ cs → zwf c) (hQ : ∀ h9, (∀ r9, r9 ≠ q2 → h9 r9 = h0 r9) → Q (some (zI (zwor (zlt nn t ii d) cs [] false))) Γ h9) : zCT l mX1_worth 1 0 0 Γ [zR r, zI nn, zI t, zI ii, zI d] h0 Q := by
  have hr0 : r ≠ 0 := zk_ne0 hk
  refine zCT_of (by decide) (Nat.le_of_ble_eq_true rfl) (ls := [some (zR r), some (zI nn), some (zI t), some (zI ii), some (zI d), none, none, none, none]) rfl ?_
  refine z_iconst dX1_worth_0 (by decide) ?_
  refine z_is5 dX1_worth_1 (Nat.le_of_ble_eq_true rfl) rfl ?_
  refine z_iconst dX1_worth_3 (by decide) ?_
  refine z_is6 dX1_worth_4 (Nat.le_of_ble_eq_true rfl) rfl ?_
  refine z_iconst dX1_worth_6 (by decide) ?_
  refine z_is7 dX1_worth_7 (Nat.le_of_ble_eq_true rfl) rfl ?_
  exact zW_loop hk hk1 hk2 hs1 hs2 hv1 hv2 h12 hn hn9 hl9 cs 0 [] false h0 _ (by omega) (fun j hj => by rw [Nat.zero_add]; exact hcd j hj) (by simp) (zskk_nil _ _) (fun _ _ => rfl) hwf hQ
