/-! CARRIED, the GAME, CALENDARS; class and reference -/
def zpw (k : Nat) : Nat := 10 ^ k
theorem zpw_0 : zpw 0 = 1 := rfl
theorem zpw_s (k : Nat) : zpw (k + 1) = 10 * zpw k := by unfold zpw; rw [Nat.pow_succ]; omega
theorem zpw_p : ∀ k, 1 ≤ zpw k
  | 0 => Nat.le_refl _
  | k + 1 => by rw [zpw_s]; have := zpw_p k; omega
theorem zpw_m : ∀ {k m}, k ≤ m → zpw k ≤ zpw m := fun h => Nat.pow_le_pow_right (by decide) h
theorem zpw_8 {k : Nat} (h : k ≤ 8) : zpw k ≤ 100000000 := zpw_m h
def zrd (row k : Nat) : Nat := row / zpw k
def zdgt (row k : Nat) : Nat := zrd row k % 10
theorem zrd_0 (row : Nat) : zrd row 0 = row := Nat.div_one row
theorem zrd_s (row k : Nat) : zrd row (k + 1) = zrd row k / 10 := by unfold zrd; rw [zpw_s, Nat.mul_comm, Nat.div_div_eq_div_mul]
theorem zrd_m (row : Nat) : ∀ {k m : Nat}, k ≤ m → zrd row k = 0 → zrd row m = 0
  | k, 0, h, e => (show k = 0 by omega) ▸ e
  | k, m + 1, h, e => by
    by_cases c : k = m + 1
    · rw [← c]; exact e
    · rw [zrd_s, zrd_m row (m := m) (by omega) e]
def zcO (isl : Int) (row many : Nat) : Prop := (∀ k, k < many → (zdgt row k : Int) < isl) ∧ zrd row many = 0
/-- carried along the last isles of a row -/
def zcV (h : zM) (row : Nat) : Nat → Nat → Nat
  | 0, v => v
  | k + 1, v => zcV h row k (zsk (zbF h (zdgt row k : Nat) (h 89 29)) v)
def zcQ (h : zM) (n row many : Int) : Prop := (0 ≤ n ∧ n ≤ 999) ∧ 0 ≤ row ∧ (1 ≤ many ∧ many ≤ 8) ∧ zcO (h 89 22) row.toNat many.toNat
set_option maxRecDepth 4000 in
theorem X8_splitRow_l {l : Launch} {Γ : zC} {h0 h1 : zM} {Q : Option zV → zC → zM → Prop} {row many : Nat} (hI : zIv Γ h0) (hm8 : 1 ≤ many ∧ many ≤ 8) (hr9 : row < 2147483648) (hQ0 : ¬ zcO (h0 89 22) row many → ∀ h9, (∀ q, q ≠ 88 → h9 q = h1 q) → Q (some (zI 0)) Γ h9) (hQ1 : zcO (h0 89 22) row many → ∀ h9, (∀ q, q ≠ 88 → h9 q = h1 q) → (∀ j, j < many → h9 88 j = ((zdgt row j : Nat) : Int)) → Q (some (zI 1)) Γ h9) : ∀ (m : Nat) (k : Nat) (h : zM), many - k < m → k ≤ many → zfr zSS h0 h → (∀ q, q ≠ 88 → h q = h1 q) → (∀ j, j < k → h 88 j = ((zdgt row j : Nat) : Int)) → (∀ j, j < k → (zdgt row j : Int) < h0 89 22) → zG (zFn l mX8_splitRow 1 0 0 Γ Q) 0 0 Γ h 5 [some (zR 1), some (zI (row : Int)), some (zI (many : Int)), some (zI (zrd row k : Int)), some (zI (k : Int))] [] := by
  have hΓ := hI.base
  have hx2 := hI.isl
  intro m
  induction m with
  | zero => intros; omega
  | succ m ih =>
    intro k h hm hk hF hE hD hO9
    refine z_il4 dX8_splitRow_5 ?_
    refine z_il2 dX8_splitRow_7 ?_
    refine z_icmp_ge (t := 59) dX8_splitRow_8 (by rfl) (fun ht8 => ?_) (fun hf8 => ?_)
    · refine z_il3 dX8_splitRow_59 ?_
      refine z_if_ne (t := 67) dX8_splitRow_60 (by rfl) (fun ht60 => ?_) (fun hf60 => ?_)
      · refine z_iconst dX8_splitRow_67 (by decide) ?_
        refine z_zret dX8_splitRow_68 rfl (Nat.le_refl _) (Nat.le_refl _) (zext_rf _) (by first | exact Or.inl rfl | exact Or.inr rfl) ?_
        have ek : k = many := by omega
        subst ek
        first
        | exact hQ1 ⟨hO9, by omega⟩ _ hE hD
        | exact hQ0 (fun e => (by have := e.2; omega)) _ hE
      · refine z_iconst dX8_splitRow_63 (by decide) ?_
        refine z_goto (t := 68) dX8_splitRow_64 (by rfl) ?_
        refine z_zret dX8_splitRow_68 rfl (Nat.le_refl _) (Nat.le_refl _) (zext_rf _) (by first | exact Or.inl rfl | exact Or.inr rfl) ?_
        have ek : k = many := by omega
        subst ek
        first
        | exact hQ1 ⟨hO9, by omega⟩ _ hE hD
        | exact hQ0 (fun e => (by have := e.2; omega)) _ hE
    · refine z_il4 dX8_splitRow_11 ?_
      refine z_bipush (x := 8) dX8_splitRow_13 (by rfl) (by decide) ?_
      refine z_icmp_ge (t := 59) dX8_splitRow_15 (by rfl) (fun ht15 => ?_) (fun hf15 => ?_)
      · refine z_il3 dX8_splitRow_59 ?_
        refine z_if_ne (t := 67) dX8_splitRow_60 (by rfl) (fun ht60 => ?_) (fun hf60 => ?_)
        · refine z_iconst dX8_splitRow_67 (by decide) ?_
          refine z_zret dX8_splitRow_68 rfl (Nat.le_refl _) (Nat.le_refl _) (zext_rf _) (by first | exact Or.inl rfl | exact Or.inr rfl) ?_
          have ek : k = many := by omega
          subst ek
          first
          | exact hQ1 ⟨hO9, by omega⟩ _ hE hD
          | exact hQ0 (fun e => (by have := e.2; omega)) _ hE
        · refine z_iconst dX8_splitRow_63 (by decide) ?_
          refine z_goto (t := 68) dX8_splitRow_64 (by rfl) ?_
          refine z_zret dX8_splitRow_68 rfl (Nat.le_refl _) (Nat.le_refl _) (zext_rf _) (by first | exact Or.inl rfl | exact Or.inr rfl) ?_
          have ek : k = many := by omega
          subst ek
          first
          | exact hQ1 ⟨hO9, by omega⟩ _ hE hD
          | exact hQ0 (fun e => (by have := e.2; omega)) _ hE
      · refine z_al0 dX8_splitRow_18 (by first | decide | omega | assumption) ?_
        refine z_getR zfX8_76 dX8_splitRow_19 (zkB hΓ rfl) rfl (zsB hΓ rfl) (zvB hΓ (by decide)) ?_
        refine z_il4 dX8_splitRow_22 ?_
        refine z_il3 dX8_splitRow_24 ?_
        refine z_bipush (x := 10) dX8_splitRow_25 (by rfl) (by decide) ?_
        refine z_iremp dX8_splitRow_27 (by omega) (by omega) ?_
        rw [show (zrd row k : Int) % 10 = ((zdgt row k : Nat) : Int) from rfl]
        refine z_iast dX8_splitRow_28 (zkB hΓ rfl) (by omega) (by omega) ?_
        refine z_il3 dX8_splitRow_29 ?_
        refine z_bipush (x := 10) dX8_splitRow_30 (by rfl) (by decide) ?_
        refine z_idivp dX8_splitRow_32 (by omega) (by omega) ?_
        rw [show (zrd row k : Int) / 10 = ((zrd row (k + 1) : Nat) : Int) by rw [zrd_s]; rfl]
        refine z_is3 dX8_splitRow_33 (Nat.le_of_ble_eq_true rfl) rfl ?_
        refine z_al0 dX8_splitRow_34 (by first | decide | omega | assumption) ?_
        refine z_getR zfX8_35 dX8_splitRow_35 (zkB hΓ rfl) rfl (zsB hΓ rfl) (zvB hΓ (by decide)) ?_
        refine z_al0 dX8_splitRow_38 (by first | decide | omega | assumption) ?_
        refine z_getR zfX8_76 dX8_splitRow_39 (zkB hΓ rfl) rfl (zsB hΓ rfl) (zvB hΓ (by decide)) ?_
        refine z_il4 dX8_splitRow_42 ?_
        refine z_iald dX8_splitRow_44 (zkB hΓ rfl) (by omega) (by omega) ?_
        try simp only [zup_ap, zup_row, ne_eq, not_false_eq_true, zres, Int.toNat_natCast, reduceIte, Nat.reduceEqDiff, Nat.reduceAdd, and_self, and_true, true_and, and_false, false_and]
        try simp only [Int.toNat_natCast, and_self, if_true]
        replace hF := zfr_up (r := 88) (j := k) (x := ((zdgt row k : Nat) : Int)) hF rfl
        refine zcv1 dX8_splitRow_45 zkX8_114 ziX7_isIsle zsX7_isIsle (zkB hΓ rfl) (by decide) rfl (Nat.le_of_ble_eq_true rfl) (by decide) (by first | decide | omega) ⟨Nat.le_refl _, Nat.le_refl _⟩ (X7_isIsle_ct hI hF (fun hg1 _ => ?_) (fun hg1 _ => ?_))
        · try simp only [zup_ap, zup_row, ne_eq, not_false_eq_true, zres, Int.toNat_natCast, reduceIte, Nat.reduceEqDiff, Nat.reduceAdd, and_self, and_true, true_and, and_false, false_and]
          refine z_if_ne (t := 53) dX8_splitRow_48 (by rfl) (fun hx => absurd hx (by decide)) (fun _ => ?_)
          refine z_iconst dX8_splitRow_51 (by decide) ?_
          refine z_zret dX8_splitRow_52 rfl (Nat.le_refl _) (Nat.le_refl _) (zext_rf _) (by first | exact Or.inl rfl | exact Or.inr rfl) ?_
          refine hQ0 (fun e => hg1 ⟨by omega, e.1 k (by omega)⟩) _ (fun q hq => (zup_row hq).trans (hE q hq))
        · try simp only [zup_ap, zup_row, ne_eq, not_false_eq_true, zres, Int.toNat_natCast, reduceIte, Nat.reduceEqDiff, Nat.reduceAdd, and_self, and_true, true_and, and_false, false_and]
          refine z_if_ne (t := 53) dX8_splitRow_48 (by rfl) (fun _ => ?_) (fun hx => absurd hx (by decide))
          refine z_ii4 dX8_splitRow_53 (by omega) (Nat.le_of_ble_eq_true rfl) rfl ?_
          refine z_goto (t := 5) dX8_splitRow_56 (by rfl) ?_
          refine ih (k + 1) _ (by omega) (by omega) hF (fun q hq => (zup_row hq).trans (hE q hq)) (fun j hj => ?_) (fun j hj => ?_)
          · by_cases e : j = k
            · subst e; rw [zup_ap, if_pos ⟨rfl, rfl⟩]
            · rw [zup_ap, if_neg (fun x => e x.2)]; exact hD j (by omega)
          · by_cases e : j = k
            · subst e; exact hg1.2
            · exact hO9 j (by omega)
set_option maxRecDepth 4000 in
theorem X8_splitRow_ct {l : Launch} {Γ : zC} {h0 h1 : zM} {Q : Option zV → zC → zM → Prop} {row many : Nat} (hI : zIv Γ h0) (hF : zfr zSS h0 h1) (hm8 : 1 ≤ many ∧ many ≤ 8) (hr9 : row < 2147483648) (hQ0 : ¬ zcO (h0 89 22) row many → ∀ h9, (∀ q, q ≠ 88 → h9 q = h1 q) → Q (some (zI 0)) Γ h9) (hQ1 : zcO (h0 89 22) row many → ∀ h9, (∀ q, q ≠ 88 → h9 q = h1 q) → (∀ j, j < many → h9 88 j = ((zdgt row j : Nat) : Int)) → Q (some (zI 1)) Γ h9) : zCT l mX8_splitRow 1 0 0 Γ [zR 1, zI (row : Int), zI (many : Int)] h1 Q := by
  have hΓ := hI.base
  have hx2 := hI.isl
  refine zCT_of (by decide) (Nat.le_of_ble_eq_true rfl) (ls := [some (zR 1), some (zI (row : Int)), some (zI (many : Int)), none, none]) rfl ?_
  refine z_il1 dX8_splitRow_0 ?_
  refine z_is3 dX8_splitRow_1 (Nat.le_of_ble_eq_true rfl) rfl ?_
  refine z_iconst dX8_splitRow_2 (by decide) ?_
  refine z_is4 dX8_splitRow_3 (Nat.le_of_ble_eq_true rfl) rfl ?_
  have e0 := X8_splitRow_l (l := l) hI hm8 hr9 hQ0 hQ1 _ 0 _ (Nat.lt_succ_self _) (by omega) hF (fun _ _ => rfl) (fun j hj => absurd hj (by omega)) (fun j hj => absurd hj (by omega))
  rw [zrd_0] at e0
  exact e0
set_option maxRecDepth 4000 in
theorem X8_carried_l {l : Launch} {Γ : zC} {h0 : zM} {Q : Option zV → zC → zM → Prop} {n : Int} {row many V : Nat} (hI : zIv Γ h0) (hO : h0 89 30 = -1) (hm8 : many ≤ 8) (hV9 : ∀ k, k < many → (zdgt row k : Int) < h0 89 22) (hQ : ∀ h9, zfr zSS h0 h9 → Q (some (zI (V : Int))) Γ h9) : ∀ (m : Nat) (k v : Nat) (e9 : Int) (h : zM), k < m → k ≤ many → e9 = (k : Int) - 1 → v ≤ 999 → zfr zSS h0 h → (∀ j, j < k → h 88 j = ((zdgt row j : Nat) : Int)) → zcV h0 row k v = V → zG (zFn l mX8_carried 6 0 0 Γ Q) 0 0 Γ h 41 [some (zR 1), some (zI n), some (zI (row : Int)), some (zI (many : Int)), some (zI (v : Int)), some (zI e9)] [] := by
  have hΓ := hI.base
  have hx2 := hI.isl
  intro m
  induction m with
  | zero => intros; omega
  | succ m ih =>
    intro k v e9 h hm hk he hv9 hF hD hV
    refine z_il5 dX8_carried_41 ?_
    refine z_if_lt (t := 70) dX8_carried_43 (by rfl) (fun ht43 => ?_) (fun hf43 => ?_)
    · refine z_il4 dX8_carried_70 ?_
      refine z_iret dX8_carried_72 rfl (Nat.le_refl _) (Nat.le_refl _) (zext_rf _) (fun hrr => ?_)
      rw [show k = 0 by omega] at hV
      have hV2 : v = V := hV
      subst hV2
      exact hQ _ hF
    · have ek : k = (k - 1) + 1 := by omega
      have hb9 := zsk_b (zbF h0 (zdgt row (k - 1) : Nat) (h0 89 29)) v
      rw [ek] at hV
      refine z_al0 dX8_carried_46 (by first | decide | omega | assumption) ?_
      refine z_getR zfX8_35 dX8_carried_47 (zkB hΓ rfl) rfl (zsB hΓ rfl) (zvB hΓ (by decide)) ?_
      refine z_al0 dX8_carried_50 (by first | decide | omega | assumption) ?_
      refine z_getR zfX8_76 dX8_carried_51 (zkB hΓ rfl) rfl (zsB hΓ rfl) (zvB hΓ (by decide)) ?_
      refine z_il5 dX8_carried_54 ?_
      refine z_iald dX8_carried_56 (zkB hΓ rfl) (by omega) (by omega) ?_
      try simp only [zup_ap, zup_row, ne_eq, not_false_eq_true, zres, Int.toNat_natCast, reduceIte, Nat.reduceEqDiff, Nat.reduceAdd, and_self, and_true, true_and, and_false, false_and]
      rw [show e9.toNat = k - 1 by omega, hD (k - 1) (by omega)]
      refine z_il4 dX8_carried_57 ?_
      refine zcv2 dX8_carried_59 zkX8_272 ziX7_spokenAs zsX7_spokenAs (zkB hΓ rfl) (by decide) rfl (Nat.le_of_ble_eq_true rfl) (by decide) (by first | decide | omega) ⟨Nat.le_refl _, Nat.le_refl _⟩ (X7_spokenAs_ct (n := v) hI hF hO (by have := hV9 (k - 1) (by omega); omega) (by omega) (fun h2 hK2 _ => ?_))
      try simp only [zup_ap, zup_row, ne_eq, not_false_eq_true, zres, Int.toNat_natCast, reduceIte, Nat.reduceEqDiff, Nat.reduceAdd, and_self, and_true, true_and, and_false, false_and]
      refine z_is4 dX8_carried_62 (Nat.le_of_ble_eq_true rfl) rfl ?_
      refine z_ii5 dX8_carried_64 (by omega) (Nat.le_of_ble_eq_true rfl) rfl ?_
      refine z_goto (t := 41) dX8_carried_67 (by rfl) ?_
      exact ih (k - 1) _ _ _ (by omega) (by omega) (by omega) (by omega) (zfr_K hF hK2) (fun j hj => by rw [hK2 88 (by decide)]; exact hD j (by omega)) hV
theorem zcQ_i {h : zM} {n row many : Int} (a : 0 ≤ n ∧ n ≤ 999) (b : 0 ≤ row) (c : 1 ≤ many ∧ many ≤ 8) (d : zcO (h 89 22) row.toNat many.toNat) : zcQ h n row many := ⟨a, b, c, d⟩
def zvCarried (h : zM) (n row many v : Int) : Prop := (zcQ h n row many ∧ v = (zcV h row.toNat many.toNat n.toNat : Int)) ∨ (¬ zcQ h n row many ∧ v = -1)
theorem zvC_u {h : zM} {n row many v v' : Int} (a : zvCarried h n row many v) (b : zvCarried h n row many v') : v = v' := by
  rcases a with a | a <;> rcases b with b | b
  · rw [a.2, b.2]
  · exact absurd a.1 b.1
  · exact absurd b.1 a.1
  · rw [a.2, b.2]
set_option maxRecDepth 4000 in
theorem X8_carried_ct {l : Launch} {Γ : zC} {h0 h : zM} {Q : Option zV → zC → zM → Prop} {n row many : Int} (hI : zIv Γ h0) (hF : zfr zSS h0 h) (hO : h0 89 30 = -1) (hQ : ∀ (v : Int) h9, zvCarried h0 n row many v → zfr zSS h0 h9 → Q (some (zI v)) Γ h9) : zCT l mX8_carried 6 0 0 Γ [zR 1, zI n, zI row, zI many] h Q := by
  have hΓ := hI.base
  have hx2 := hI.isl
  refine zCT_of (by decide) (Nat.le_of_ble_eq_true rfl) (ls := [some (zR 1), some (zI n), some (zI row), some (zI many), none, none]) rfl ?_
  refine z_il1 dX8_carried_0 ?_
  refine zcs1 dX8_carried_1 zkX8_142 ztX8_isNumber (Nat.le_of_ble_eq_true rfl) (by decide) (by first | decide | omega) ⟨Nat.le_refl _, Nat.le_refl _⟩ (X8_isNumber_ct (fun hg2 _ => ?_) (fun hg2 _ => ?_))
  · try simp only [zup_ap, zup_row, ne_eq, not_false_eq_true, zres, Int.toNat_natCast, reduceIte, Nat.reduceEqDiff, Nat.reduceAdd, and_self, and_true, true_and, and_false, false_and]
    refine z_if_eq (t := 31) dX8_carried_4 (by rfl) (fun _ => ?_) (fun hx => absurd hx (by decide))
    refine z_iconst dX8_carried_31 (by decide) ?_
    refine z_iret dX8_carried_32 rfl (Nat.le_refl _) (Nat.le_refl _) (zext_rf _) (fun hrr => ?_)
    refine hQ _ _ (Or.inr ⟨fun e => ?_, rfl⟩) hF
    obtain ⟨e1, e2, e3, e4⟩ := e
    first
    | omega
    | exact hg3 e4
  · try simp only [zup_ap, zup_row, ne_eq, not_false_eq_true, zres, Int.toNat_natCast, reduceIte, Nat.reduceEqDiff, Nat.reduceAdd, and_self, and_true, true_and, and_false, false_and]
    refine z_if_eq (t := 31) dX8_carried_4 (by rfl) (fun hx => absurd hx (by decide)) (fun _ => ?_)
    refine z_il2 dX8_carried_7 ?_
    refine z_if_lt (t := 31) dX8_carried_8 (by rfl) (fun ht8 => ?_) (fun hf8 => ?_)
    · refine z_iconst dX8_carried_31 (by decide) ?_
      refine z_iret dX8_carried_32 rfl (Nat.le_refl _) (Nat.le_refl _) (zext_rf _) (fun hrr => ?_)
      refine hQ _ _ (Or.inr ⟨fun e => ?_, rfl⟩) hF
      obtain ⟨e1, e2, e3, e4⟩ := e
      first
      | omega
      | exact hg3 e4
    · refine z_il3 dX8_carried_11 ?_
      refine z_iconst dX8_carried_12 (by decide) ?_
      refine z_icmp_lt (t := 31) dX8_carried_13 (by rfl) (fun ht13 => ?_) (fun hf13 => ?_)
      · refine z_iconst dX8_carried_31 (by decide) ?_
        refine z_iret dX8_carried_32 rfl (Nat.le_refl _) (Nat.le_refl _) (zext_rf _) (fun hrr => ?_)
        refine hQ _ _ (Or.inr ⟨fun e => ?_, rfl⟩) hF
        obtain ⟨e1, e2, e3, e4⟩ := e
        first
        | omega
        | exact hg3 e4
      · refine z_il3 dX8_carried_16 ?_
        refine z_bipush (x := 8) dX8_carried_17 (by rfl) (by decide) ?_
        refine z_icmp_gt (t := 31) dX8_carried_19 (by rfl) (fun ht19 => ?_) (fun hf19 => ?_)
        · refine z_iconst dX8_carried_31 (by decide) ?_
          refine z_iret dX8_carried_32 rfl (Nat.le_refl _) (Nat.le_refl _) (zext_rf _) (fun hrr => ?_)
          refine hQ _ _ (Or.inr ⟨fun e => ?_, rfl⟩) hF
          obtain ⟨e1, e2, e3, e4⟩ := e
          first
          | omega
          | exact hg3 e4
        · refine z_al0 dX8_carried_22 (by first | decide | omega | assumption) ?_
          refine z_il2 dX8_carried_23 ?_
          refine z_il3 dX8_carried_24 ?_
          refine zrngL 2 rfl (fun hr32 => ?_)
          obtain ⟨row, rfl⟩ := Int.eq_ofNat_of_zero_le (show 0 ≤ row by omega)
          obtain ⟨many, rfl⟩ := Int.eq_ofNat_of_zero_le (show 0 ≤ many by omega)
          obtain ⟨n, rfl⟩ := Int.eq_ofNat_of_zero_le (show 0 ≤ n by omega)
          refine zcv2 dX8_carried_25 zkX8_275 ziX8_splitRow zsX8_splitRow (zkB hΓ rfl) (by decide) rfl (Nat.le_of_ble_eq_true rfl) (by decide) (by first | decide | omega) ⟨Nat.le_refl _, Nat.le_refl _⟩ (X8_splitRow_ct hI hF (by omega) (by omega) (fun hg3 h2 hE2 _ => ?_) (fun hg3 h2 hE2 hD2 _ => ?_))
          · try simp only [zup_ap, zup_row, ne_eq, not_false_eq_true, zres, Int.toNat_natCast, reduceIte, Nat.reduceEqDiff, Nat.reduceAdd, and_self, and_true, true_and, and_false, false_and]
            replace hF := zfr_1 hF (fun _ => rfl) hE2
            refine z_if_ne (t := 33) dX8_carried_28 (by rfl) (fun hx => absurd hx (by decide)) (fun _ => ?_)
            refine z_iconst dX8_carried_31 (by decide) ?_
            refine z_iret dX8_carried_32 rfl (Nat.le_refl _) (Nat.le_refl _) (zext_rf _) (fun hrr => ?_)
            refine hQ _ _ (Or.inr ⟨fun e => ?_, rfl⟩) hF
            obtain ⟨e1, e2, e3, e4⟩ := e
            first
            | omega
            | exact hg3 e4
          · try simp only [zup_ap, zup_row, ne_eq, not_false_eq_true, zres, Int.toNat_natCast, reduceIte, Nat.reduceEqDiff, Nat.reduceAdd, and_self, and_true, true_and, and_false, false_and]
            replace hF := zfr_1 hF (fun _ => rfl) hE2
            refine z_if_ne (t := 33) dX8_carried_28 (by rfl) (fun _ => ?_) (fun hx => absurd hx (by decide))
            refine z_il1 dX8_carried_33 ?_
            refine z_is4 dX8_carried_34 (Nat.le_of_ble_eq_true rfl) rfl ?_
            refine z_il3 dX8_carried_36 ?_
            refine z_iconst dX8_carried_37 (by decide) ?_
            refine z_isub dX8_carried_38 (by omega) ?_
            refine z_is5 dX8_carried_39 (Nat.le_of_ble_eq_true rfl) rfl ?_
            exact X8_carried_l hI hO (by omega) hg3.1 (fun h9 hF9 => hQ _ h9 (Or.inl ⟨⟨by omega, by omega, by omega, hg3⟩, by rw [Int.toNat_natCast, Int.toNat_natCast, Int.toNat_natCast]⟩) hF9) _ many n _ _ (Nat.lt_succ_self _) (Nat.le_refl _) rfl (by omega) hF hD2 rfl
set_option maxRecDepth 4000 in
theorem X9_cr_p {l : Launch} {Γ : zC} {h : zM} {Q : Option zV → zC → zM → Prop} {n row many : Nat} (hm8 : 1 ≤ many ∧ many ≤ 8) (hK : ∀ y : Int, zG (zFn l mX9_carried 1682 0 0 Γ Q) 0 0 Γ h 67 [some (zR 89), some (zI (n : Int)), some (zI (row : Int)), some (zI (many : Int)), some (zI (zpw (many - 1) : Int)), some (zI y), none] []) : ∀ (m : Nat) (k : Nat), many - k < m → k + 1 ≤ many → zG (zFn l mX9_carried 1682 0 0 Γ Q) 0 0 Γ h 48 [some (zR 89), some (zI (n : Int)), some (zI (row : Int)), some (zI (many : Int)), some (zI (zpw k : Int)), some (zI ((k + 1 : Nat) : Int)), none] [] := by
  intro m
  induction m with
  | zero => intros; omega
  | succ m ih =>
    intro k hm hk
    refine z_il5 dX9_carried_48 ?_
    refine z_il3 dX9_carried_50 ?_
    refine z_icmp_ge (t := 67) dX9_carried_51 (by rfl) (fun ht51 => ?_) (fun hf51 => ?_)
    · have ek : k + 1 = many := by omega
      subst ek
      exact hK _
    · refine z_il4 dX9_carried_54 ?_
      refine z_bipush (x := 10) dX9_carried_56 (by rfl) (by decide) ?_
      have hp1 := zpw_s k
      have hp2 := zpw_8 (k := k + 1) (by omega)
      refine z_imul dX9_carried_58 (by omega) ?_
      refine z_is4 dX9_carried_59 (Nat.le_of_ble_eq_true rfl) rfl ?_
      refine z_ii5 dX9_carried_61 (by omega) (Nat.le_of_ble_eq_true rfl) rfl ?_
      refine z_goto (t := 48) dX9_carried_64 (by rfl) ?_
      have e9 := ih (k + 1) (by omega) (by omega)
      rw [hp1, show ((10 * zpw k : Nat) : Int) = (zpw k : Int) * 10 by omega] at e9
      exact e9
/-- the place of the k-th digit from behind, 0 behind the last -/
def zpz : Nat → Nat
  | 0 => 0
  | k + 1 => zpw k
theorem zpz_d : ∀ k, zpz (k + 1) / 10 = zpz k
  | 0 => rfl
  | k + 1 => by show zpw (k + 1) / 10 = zpw k; rw [zpw_s]; omega
theorem zpz_0 {k : Nat} (h : 0 < zpz k) : k = (k - 1) + 1 := by
  cases k with
  | zero => cases h
  | succ k => rfl
theorem zpz_n {k : Nat} (h : ¬ 0 < zpz k) : k = 0 := by
  cases k with
  | zero => rfl
  | succ k => exact absurd (zpw_p k) h
set_option maxRecDepth 4000 in
theorem X9_cr_d {l : Launch} {Γ : zC} {h : zM} {Q : Option zV → zC → zM → Prop} {n row many : Nat} {N : Int} (hΓ : zBase Γ) (hn9 : h 89 22 = N) (hQ0 : ∀ k, k < many → ¬ (zdgt row k : Int) < N → Q (some (zI (-1))) Γ h) (hK : ∀ y : Int, (∀ j, j < many → (zdgt row j : Int) < N) → zG (zFn l mX9_carried 1682 0 0 Γ Q) 0 0 Γ h 113 [some (zR 89), some (zI (n : Int)), some (zI (row : Int)), some (zI (many : Int)), some (zI (zpz many : Int)), some (zI y), none] []) : ∀ (m : Nat) (k : Nat), k < m → k ≤ many → (∀ j, k ≤ j → j < many → (zdgt row j : Int) < N) → zG (zFn l mX9_carried 1682 0 0 Γ Q) 0 0 Γ h 82 [some (zR 89), some (zI (n : Int)), some (zI (row : Int)), some (zI (many : Int)), some (zI (zpz many : Int)), some (zI (zpz k : Int)), none] [] := by
  intro m
  induction m with
  | zero => intros; omega
  | succ m ih =>
    intro k hm hk hU
    refine z_il5 dX9_carried_82 ?_
    refine z_if_le (t := 113) dX9_carried_84 (by rfl) (fun ht84 => ?_) (fun hf84 => ?_)
    · have ek := zpz_n (k := k) (by omega)
      subst ek
      exact hK _ (fun j hj => hU j (by omega) hj)
    · have ek := zpz_0 (k := k) (by omega)
      have ed : ((zpz k : Nat) : Int) / 10 = ((zpz (k - 1) : Nat) : Int) := by rw [ek]; show (((zpz (k - 1 + 1)) / 10 : Nat) : Int) = _; rw [zpz_d]; rfl
      refine z_il2 dX9_carried_87 ?_
      refine z_il5 dX9_carried_88 ?_
      refine z_idivp dX9_carried_90 (by omega) (by omega) ?_
      rw [show (row : Int) / (zpz k : Int) = ((zrd row (k - 1) : Nat) : Int) by rw [ek]; rfl]
      refine z_bipush (x := 10) dX9_carried_91 (by rfl) (by decide) ?_
      refine z_iremp dX9_carried_93 (by omega) (by omega) ?_
      rw [show ((zrd row (k - 1) : Nat) : Int) % 10 = ((zdgt row (k - 1) : Nat) : Int) from rfl]
      refine z_al0 dX9_carried_94 (by first | decide | omega | assumption) ?_
      refine z_getI zfX9_276 dX9_carried_95 (zkB hΓ rfl) rfl ?_
      rw [hn9]
      try simp only [zup_ap, zup_row, ne_eq, not_false_eq_true, zres, Int.toNat_natCast, reduceIte, Nat.reduceEqDiff, Nat.reduceAdd, and_self, and_true, true_and, and_false, false_and]
      refine z_icmp_lt (t := 103) dX9_carried_98 (by rfl) (fun ht98 => ?_) (fun hf98 => ?_)
      · refine z_il5 dX9_carried_103 ?_
        refine z_bipush (x := 10) dX9_carried_105 (by rfl) (by decide) ?_
        refine z_idivp dX9_carried_107 (by omega) (by omega) ?_
        rw [ed]
        refine z_is5 dX9_carried_108 (Nat.le_of_ble_eq_true rfl) rfl ?_
        refine z_goto (t := 82) dX9_carried_110 (by rfl) ?_
        exact ih (k - 1) (by omega) (by omega) (fun j h1 h2 => by
          by_cases e : j = k - 1
          · subst e; omega
          · exact hU j (by omega) h2)
      · refine z_iconst dX9_carried_101 (by decide) ?_
        refine z_iret dX9_carried_102 rfl (Nat.le_refl _) (Nat.le_refl _) (zext_rf _) (fun hrr => ?_)
        exact hQ0 (k - 1) (by omega) (by omega)
set_option maxRecDepth 4000 in
theorem X9_cr_v {l : Launch} {Γ : zC} {h0 : zM} {Q : Option zV → zC → zM → Prop} {n row many V : Nat} (hI : zIv Γ h0) (hV9 : ∀ k, k < many → (zdgt row k : Int) < h0 89 22) (hQ : ∀ h9, zfr zSS h0 h9 → Q (some (zI (V : Int))) Γ h9) : ∀ (m : Nat) (k v : Nat) (h : zM), k < m → k ≤ many → v ≤ 999 → zfr zSS h0 h → zcV h0 row k v = V → zG (zFn l mX9_carried 1682 0 0 Γ Q) 0 0 Γ h 120 [some (zR 89), some (zI (n : Int)), some (zI (row : Int)), some (zI (many : Int)), some (zI (zpz many : Int)), some (zI (v : Int)), some (zI (zpz k : Int))] [] := by
  have hΓ := hI.base
  have hx2 := hI.isl
  intro m
  induction m with
  | zero => intros; omega
  | succ m ih =>
    intro k v h hm hk hv9 hF hV
    refine z_il6 dX9_carried_120 ?_
    refine z_if_le (t := 150) dX9_carried_122 (by rfl) (fun ht122 => ?_) (fun hf122 => ?_)
    · refine z_il5 dX9_carried_150 ?_
      refine z_iret dX9_carried_152 rfl (Nat.le_refl _) (Nat.le_refl _) (zext_rf _) (fun hrr => ?_)
      have ek := zpz_n (k := k) (by omega)
      subst ek
      have hV2 : v = V := hV
      subst hV2
      exact hQ _ hF
    · have ek := zpz_0 (k := k) (by omega)
      have ed : ((zpz k : Nat) : Int) / 10 = ((zpz (k - 1) : Nat) : Int) := by rw [ek]; show (((zpz (k - 1 + 1)) / 10 : Nat) : Int) = _; rw [zpz_d]; rfl
      have hb9 := zsk_b (zbF h0 (zdgt row (k - 1) : Nat) (h0 89 29)) v
      rw [ek] at hV
      refine z_al0 dX9_carried_125 (by first | decide | omega | assumption) ?_
      refine z_il2 dX9_carried_126 ?_
      refine z_il6 dX9_carried_127 ?_
      refine z_idivp dX9_carried_129 (by omega) (by omega) ?_
      rw [show (row : Int) / (zpz k : Int) = ((zrd row (k - 1) : Nat) : Int) by rw [ek]; rfl]
      refine z_bipush (x := 10) dX9_carried_130 (by rfl) (by decide) ?_
      refine z_iremp dX9_carried_132 (by omega) (by omega) ?_
      rw [show ((zrd row (k - 1) : Nat) : Int) % 10 = ((zdgt row (k - 1) : Nat) : Int) from rfl]
      refine z_il5 dX9_carried_133 ?_
      refine zcv2 dX9_carried_135 zkX9_437 ziX9_spokenAs zsX9_spokenAs (zkB hΓ rfl) (by decide) rfl (Nat.le_of_ble_eq_true rfl) (by decide) (by first | decide | omega) ⟨Nat.le_refl _, Nat.le_refl _⟩ (X9_spokenAs_ct (n := v) hI hF (by have := hV9 (k - 1) (by omega); omega) (by omega) (fun h2 hF2 _ => ?_))
      try simp only [zup_ap, zup_row, ne_eq, not_false_eq_true, zres, Int.toNat_natCast, reduceIte, Nat.reduceEqDiff, Nat.reduceAdd, and_self, and_true, true_and, and_false, false_and]
      refine z_is5 dX9_carried_138 (Nat.le_of_ble_eq_true rfl) rfl ?_
      refine z_il6 dX9_carried_140 ?_
      refine z_bipush (x := 10) dX9_carried_142 (by rfl) (by decide) ?_
      refine z_idivp dX9_carried_144 (by omega) (by omega) ?_
      rw [ed]
      refine z_is6 dX9_carried_145 (Nat.le_of_ble_eq_true rfl) rfl ?_
      refine z_goto (t := 120) dX9_carried_147 (by rfl) ?_
      exact ih (k - 1) _ _ (by omega) (by omega) (by omega) hF2 hV
set_option maxRecDepth 4000 in
theorem X9_carried_ct {l : Launch} {Γ : zC} {h0 h : zM} {Q : Option zV → zC → zM → Prop} {n row many : Int} (hI : zIv Γ h0) (hF : zfr zSS h0 h) (hQ : ∀ (v : Int) h9, zvCarried h0 n row many v → zfr zSS h0 h9 → Q (some (zI v)) Γ h9) : zCT l mX9_carried 1682 0 0 Γ [zR 89, zI n, zI row, zI many] h Q := by
  have hΓ := hI.base
  have hx2 := hI.isl
  refine zCT_of (by decide) (Nat.le_of_ble_eq_true rfl) (ls := [some (zR 89), some (zI n), some (zI row), some (zI many), none, none, none]) rfl ?_
  refine z_al0 dX9_carried_0 (by first | decide | omega | assumption) ?_
  refine z_iconst dX9_carried_1 (by decide) ?_
  refine z_putI zfX9_128 dX9_carried_2 (zkB hΓ rfl) rfl rfl ?_
  replace hF : zfr zSS h0 (zup h 89 0 0) := zfr_up hF rfl
  generalize zup h 89 0 0 = h at hF ⊢
  refine z_al0 dX9_carried_5 (by first | decide | omega | assumption) ?_
  refine z_getI zfX9_276 dX9_carried_6 (zkB hΓ rfl) rfl ?_
  rw [hF 89 22 rfl]
  try simp only [zup_ap, zup_row, ne_eq, not_false_eq_true, zres, Int.toNat_natCast, reduceIte, Nat.reduceEqDiff, Nat.reduceAdd, and_self, and_true, true_and, and_false, false_and]
  refine z_if_eq (t := 40) dX9_carried_9 (by rfl) (fun ht9 => ?_) (fun hf9 => ?_)
  · refine z_iconst dX9_carried_40 (by decide) ?_
    refine z_iret dX9_carried_41 rfl (Nat.le_refl _) (Nat.le_refl _) (zext_rf _) (fun hrr => ?_)
    refine hQ _ _ (Or.inr ⟨fun e => ?_, rfl⟩) hF
    obtain ⟨e1, e2, e3, e4⟩ := e
    first
    | omega
    | (have e5 := e4.1 0 (by omega); omega)
  · refine z_il1 dX9_carried_12 ?_
    refine z_i2l dX9_carried_13 ?_
    refine z_lconst (x := 0) dX9_carried_14 (by rfl) (by decide) ?_
    refine z_ldc2 (x := 999) dX9_carried_15 zqX9_309 (by decide) ?_
    refine zcs3 dX9_carried_18 zkX9_261 ztX9_isIn (Nat.le_of_ble_eq_true rfl) (by decide) (by first | decide | omega) ⟨Nat.le_refl _, Nat.le_refl _⟩ (X9_isIn_ct (fun hg2 _ => ?_) (fun hg2 _ => ?_))
    · try simp only [zup_ap, zup_row, ne_eq, not_false_eq_true, zres, Int.toNat_natCast, reduceIte, Nat.reduceEqDiff, Nat.reduceAdd, and_self, and_true, true_and, and_false, false_and]
      refine z_if_eq (t := 40) dX9_carried_21 (by rfl) (fun _ => ?_) (fun hx => absurd hx (by decide))
      refine z_iconst dX9_carried_40 (by decide) ?_
      refine z_iret dX9_carried_41 rfl (Nat.le_refl _) (Nat.le_refl _) (zext_rf _) (fun hrr => ?_)
      refine hQ _ _ (Or.inr ⟨fun e => ?_, rfl⟩) hF
      obtain ⟨e1, e2, e3, e4⟩ := e
      first
      | omega
      | (have e5 := e4.1 0 (by omega); omega)
    · try simp only [zup_ap, zup_row, ne_eq, not_false_eq_true, zres, Int.toNat_natCast, reduceIte, Nat.reduceEqDiff, Nat.reduceAdd, and_self, and_true, true_and, and_false, false_and]
      refine z_if_eq (t := 40) dX9_carried_21 (by rfl) (fun hx => absurd hx (by decide)) (fun _ => ?_)
      refine z_il3 dX9_carried_24 ?_
      refine z_i2l dX9_carried_25 ?_
      refine z_lconst (x := 1) dX9_carried_26 (by rfl) (by decide) ?_
      refine z_ldc2 (x := 8) dX9_carried_27 zqX9_349 (by decide) ?_
      refine zcs3 dX9_carried_30 zkX9_261 ztX9_isIn (Nat.le_of_ble_eq_true rfl) (by decide) (by first | decide | omega) ⟨Nat.le_refl _, Nat.le_refl _⟩ (X9_isIn_ct (fun hg3 _ => ?_) (fun hg3 _ => ?_))
      · try simp only [zup_ap, zup_row, ne_eq, not_false_eq_true, zres, Int.toNat_natCast, reduceIte, Nat.reduceEqDiff, Nat.reduceAdd, and_self, and_true, true_and, and_false, false_and]
        refine z_if_eq (t := 40) dX9_carried_33 (by rfl) (fun _ => ?_) (fun hx => absurd hx (by decide))
        refine z_iconst dX9_carried_40 (by decide) ?_
        refine z_iret dX9_carried_41 rfl (Nat.le_refl _) (Nat.le_refl _) (zext_rf _) (fun hrr => ?_)
        refine hQ _ _ (Or.inr ⟨fun e => ?_, rfl⟩) hF
        obtain ⟨e1, e2, e3, e4⟩ := e
        first
        | omega
        | (have e5 := e4.1 0 (by omega); omega)
      · try simp only [zup_ap, zup_row, ne_eq, not_false_eq_true, zres, Int.toNat_natCast, reduceIte, Nat.reduceEqDiff, Nat.reduceAdd, and_self, and_true, true_and, and_false, false_and]
        refine z_if_eq (t := 40) dX9_carried_33 (by rfl) (fun hx => absurd hx (by decide)) (fun _ => ?_)
        refine z_il2 dX9_carried_36 ?_
        refine z_if_ge (t := 42) dX9_carried_37 (by rfl) (fun ht37 => ?_) (fun hf37 => ?_)
        · refine z_iconst dX9_carried_42 (by decide) ?_
          refine z_is4 dX9_carried_43 (Nat.le_of_ble_eq_true rfl) rfl ?_
          refine z_iconst dX9_carried_45 (by decide) ?_
          refine z_is5 dX9_carried_46 (Nat.le_of_ble_eq_true rfl) rfl ?_
          refine zrngL 2 rfl (fun hr32 => ?_)
          obtain ⟨row, rfl⟩ := Int.eq_ofNat_of_zero_le (show 0 ≤ row by omega)
          obtain ⟨many, rfl⟩ := Int.eq_ofNat_of_zero_le (show 0 ≤ many by omega)
          obtain ⟨n, rfl⟩ := Int.eq_ofNat_of_zero_le (show 0 ≤ n by omega)
          refine X9_cr_p (by omega) (fun y => ?_) _ 0 (Nat.lt_succ_self _) (by omega)
          have em : many = (many - 1) + 1 := by omega
          have hpp := zpw_p (many - 1)
          have hp1 := zpw_s (many - 1)
          rw [← em] at hp1
          have hz9 : zrd row many = 0 ↔ row < zpw many := by unfold zrd; exact Nat.div_eq_zero_iff_lt (zpw_p many)
          refine z_il2 dX9_carried_67 ?_
          refine z_bipush (x := 10) dX9_carried_68 (by rfl) (by decide) ?_
          refine z_idivp dX9_carried_70 (by omega) (by omega) ?_
          refine z_il4 dX9_carried_71 ?_
          refine z_icmp_lt (t := 78) dX9_carried_73 (by rfl) (fun ht73 => ?_) (fun hf73 => ?_)
          · refine z_il4 dX9_carried_78 ?_
            refine z_is5 dX9_carried_80 (Nat.le_of_ble_eq_true rfl) rfl ?_
            rw [show (zpw (many - 1) : Nat) = zpz many by rw [em]; rfl]
            refine X9_cr_d (N := h0 89 22) hΓ (hF 89 22 rfl) (fun k h1 h2 => ?_) (fun y hV9 => ?_) _ many (Nat.lt_succ_self _) (Nat.le_refl _) (fun j h1 h2 => absurd h1 (by omega))
            · exact hQ _ _ (Or.inr ⟨fun e => h2 (by have := e.2.2.2.1 k (by omega); rw [Int.toNat_natCast] at this; exact this), rfl⟩) hF
            · refine z_il1 dX9_carried_113 ?_
              refine z_is5 dX9_carried_114 (Nat.le_of_ble_eq_true rfl) rfl ?_
              refine z_il4 dX9_carried_116 ?_
              refine z_is6 dX9_carried_118 (Nat.le_of_ble_eq_true rfl) rfl ?_
              exact X9_cr_v hI hV9 (fun h9 hF9 => hQ _ h9 (Or.inl ⟨⟨by omega, by omega, by omega, by rw [Int.toNat_natCast, Int.toNat_natCast]; exact ⟨hV9, hz9.2 (by omega)⟩⟩, by rw [Int.toNat_natCast, Int.toNat_natCast, Int.toNat_natCast]⟩) hF9) _ many n _ (Nat.lt_succ_self _) (Nat.le_refl _) (by omega) hF rfl
          · refine z_iconst dX9_carried_76 (by decide) ?_
            refine z_iret dX9_carried_77 rfl (Nat.le_refl _) (Nat.le_refl _) (zext_rf _) (fun hrr => ?_)
            refine hQ _ _ (Or.inr ⟨fun e => ?_, rfl⟩) hF
            have e5 := e.2.2.2.2
            rw [Int.toNat_natCast, Int.toNat_natCast, hz9] at e5
            omega
        · refine z_iconst dX9_carried_40 (by decide) ?_
          refine z_iret dX9_carried_41 rfl (Nat.le_refl _) (Nat.le_refl _) (zext_rf _) (fun hrr => ?_)
          refine hQ _ _ (Or.inr ⟨fun e => ?_, rfl⟩) hF
          obtain ⟨e1, e2, e3, e4⟩ := e
          first
          | omega
          | (have e5 := e4.1 0 (by omega); omega)
/-- the least number to say, by which it is won, with so many numbers left to the goal -/
def zgM (b : Nat → Int) (G R : Nat) (T : Nat → Bool) (k : Nat) : Int := zlf (fun u => decide (b u = 0) && !T u) (min R k) (G - k + 1)
def zgT (b : Nat → Int) (G R : Nat) : Nat → Nat → Bool
  | 0 => fun _ => false
  | k + 1 => fun u => if u = G - (k + 1) then decide (zgM b G R (zgT b G R k) (k + 1) ≠ -1) else zgT b G R k u
theorem zgT_G (b : Nat → Int) {G : Nat} (R : Nat) (hG : 1 ≤ G) : ∀ k, zgT b G R k G = false
  | 0 => rfl
  | k + 1 => by
    show (if G = G - (k + 1) then _ else zgT b G R k G) = false
    rw [if_neg (by omega)]; exact zgT_G b R hG k
theorem zgT_y {b : Nat → Int} {G R k : Nat} : zgT b G R (k + 1) (G - (k + 1)) = decide (zgM b G R (zgT b G R k) (k + 1) ≠ -1) := if_pos rfl
theorem zgT_n {b : Nat → Int} {G R k u : Nat} (h : u ≠ G - (k + 1)) : zgT b G R (k + 1) u = zgT b G R k u := if_neg h
def zvGame (h : zM) (i r g f j : Int) : Int := if ((0 ≤ i ∧ i < h 89 22) ∧ (1 ≤ r ∧ r ≤ 9) ∧ (1 ≤ g ∧ g ≤ 200)) ∧ (0 ≤ f ∧ f < g) ∧ (0 ≤ j ∧ j ≤ 1) then (if j = 1 then zgM (zbF h i (h 89 29)) g.toNat r.toNat (zgT (zbF h i (h 89 29)) g.toNat r.toNat (g - f - 1).toNat) (g - f).toNat else if zgM (zbF h i (h 89 29)) g.toNat r.toNat (zgT (zbF h i (h 89 29)) g.toNat r.toNat (g - f - 1).toNat) (g - f).toNat = -1 then 0 else 1) else -1000000
set_option maxRecDepth 4000 in
theorem X8_wM_l {l : Launch} {Γ : zC} {h0 h1 : zM} {Q : Option zV → zC → zM → Prop} {i V : Int} {r g v : Nat} {T : Nat → Bool} (hI : zIv Γ h0) (hF1 : zfr zSS h0 h1) (hO : h0 89 30 = -1) (hv : 0 ≤ i ∧ i < h0 89 22) (hr : r ≤ 9) (hg : g ≤ 200) (hT1 : ∀ u, v < u → u ≤ g → h1 87 u = if T u then 1 else 0) (hQ : ∀ h9, zfK h1 h9 → Q (some (zI V)) Γ h9) : ∀ (m : Nat) (a c : Nat) (h : zM), c < m → (a + c = min (v + r) g + 1) → v < a → zfK h1 h → zlf (fun u => decide (zbF h0 i (h0 89 29) u = 0) && !T u) c a = V → zG (zFn l mX8_winningMove 5 0 0 Γ Q) 0 0 Γ h 6 [some (zR 1), some (zI i), some (zI (r : Int)), some (zI (g : Int)), some (zI (v : Int)), some (zI (a : Int))] [] := by
  have hΓ := hI.base
  have hx2 := hI.isl
  intro m
  induction m with
  | zero => intros; omega
  | succ m ih =>
    intro a c h hm hc hva hE hV
    have hF := zfr_K hF1 hE
    have hT : ∀ u, v < u → u ≤ g → h 87 u = if T u then 1 else 0 := fun u a b => by rw [hE 87 (by decide)]; exact hT1 u a b
    refine z_il5 dX8_winningMove_6 ?_
    refine z_il4 dX8_winningMove_8 ?_
    refine z_il2 dX8_winningMove_10 ?_
    refine z_iadd dX8_winningMove_11 (by omega) ?_
    refine z_icmp_gt (t := 53) dX8_winningMove_12 (by rfl) (fun ht12 => ?_) (fun hf12 => ?_)
    · refine z_iconst dX8_winningMove_53 (by decide) ?_
      refine z_iret dX8_winningMove_54 rfl (Nat.le_refl _) (Nat.le_refl _) (zext_rf _) (fun hrr => ?_)
      rw [show c = 0 by omega] at hV
      have hV2 : V = -1 := hV.symm
      subst hV2
      exact hQ _ hE
    · refine z_il5 dX8_winningMove_15 ?_
      refine z_il3 dX8_winningMove_17 ?_
      refine z_icmp_gt (t := 53) dX8_winningMove_18 (by rfl) (fun ht18 => ?_) (fun hf18 => ?_)
      · refine z_iconst dX8_winningMove_53 (by decide) ?_
        refine z_iret dX8_winningMove_54 rfl (Nat.le_refl _) (Nat.le_refl _) (zext_rf _) (fun hrr => ?_)
        rw [show c = 0 by omega] at hV
        have hV2 : V = -1 := hV.symm
        subst hV2
        exact hQ _ hE
      · refine z_al0 dX8_winningMove_21 (by first | decide | omega | assumption) ?_
        refine z_getR zfX8_72 dX8_winningMove_22 (zkB hΓ rfl) rfl (zsB hΓ rfl) (zvB hΓ (by decide)) ?_
        refine z_il5 dX8_winningMove_25 ?_
        refine z_zald dX8_winningMove_27 (zkB hΓ rfl) (by omega) (by omega) ?_
        try simp only [Int.toNat_natCast]
        rw [hT a (by omega) (by omega)]
        try simp only [zup_ap, zup_row, ne_eq, not_false_eq_true, zres, Int.toNat_natCast, reduceIte, Nat.reduceEqDiff, Nat.reduceAdd, and_self, and_true, true_and, and_false, false_and]
        refine z_if_ne (t := 47) dX8_winningMove_28 (by rfl) (fun ht28 => ?_) (fun hf28 => ?_)
        · refine z_ii5 dX8_winningMove_47 (by omega) (Nat.le_of_ble_eq_true rfl) rfl ?_
          refine z_goto (t := 6) dX8_winningMove_50 (by rfl) ?_
          rw [show c = (c - 1) + 1 by omega] at hV
          first
          | (rw [zlf_n (f := (fun u => decide (zbF h0 i (h0 89 29) u = 0) && !T u)) (by show (decide (zFo _ _ _ _ = 0) && _) = false; rw [decide_eq_false (by omega)]; rfl)] at hV
             exact ih (a + 1) (c - 1) _ (by omega) (by omega) (by omega) (zfK_tr hE hK9) hV)
          | (rw [zlf_n (f := (fun u => decide (zbF h0 i (h0 89 29) u = 0) && !T u)) (by
              have hT9 : T a = true := by
                cases hTa : T a with
                | true => rfl
                | false => rw [hTa] at ht28; exact absurd ht28 (by decide)
              show (_ && !T a) = false; rw [hT9]; exact Bool.and_false _)] at hV
             exact ih (a + 1) (c - 1) _ (by omega) (by omega) (by omega) hE hV)
        · refine z_al0 dX8_winningMove_31 (by first | decide | omega | assumption) ?_
          refine z_getR zfX8_35 dX8_winningMove_32 (zkB hΓ rfl) rfl (zsB hΓ rfl) (zvB hΓ (by decide)) ?_
          refine z_il1 dX8_winningMove_35 ?_
          refine z_il5 dX8_winningMove_36 ?_
          refine zcv2 dX8_winningMove_38 zkX8_187 ziX7_forbidsNow zsX7_forbidsNow (zkB hΓ rfl) (by decide) rfl (Nat.le_of_ble_eq_true rfl) (by decide) (by first | decide | omega) ⟨Nat.le_refl _, Nat.le_refl _⟩ (X7_forbidsNow_ct hI hF hO hv (by omega) (fun h9 hK9 _ => ?_))
          try simp only [zup_ap, zup_row, ne_eq, not_false_eq_true, zres, Int.toNat_natCast, reduceIte, Nat.reduceEqDiff, Nat.reduceAdd, and_self, and_true, true_and, and_false, false_and]
          refine z_if_ne (t := 47) dX8_winningMove_41 (by rfl) (fun ht41 => ?_) (fun hf41 => ?_)
          · refine z_ii5 dX8_winningMove_47 (by omega) (Nat.le_of_ble_eq_true rfl) rfl ?_
            refine z_goto (t := 6) dX8_winningMove_50 (by rfl) ?_
            rw [show c = (c - 1) + 1 by omega] at hV
            first
            | (rw [zlf_n (f := (fun u => decide (zbF h0 i (h0 89 29) u = 0) && !T u)) (by show (decide (zFo _ _ _ _ = 0) && _) = false; rw [decide_eq_false (by omega)]; rfl)] at hV
               exact ih (a + 1) (c - 1) _ (by omega) (by omega) (by omega) (zfK_tr hE hK9) hV)
            | (rw [zlf_n (f := (fun u => decide (zbF h0 i (h0 89 29) u = 0) && !T u)) (by
                have hT9 : T a = true := by
                  cases hTa : T a with
                  | true => rfl
                  | false => rw [hTa] at ht28; exact absurd ht28 (by decide)
                show (_ && !T a) = false; rw [hT9]; exact Bool.and_false _)] at hV
               exact ih (a + 1) (c - 1) _ (by omega) (by omega) (by omega) hE hV)
          · refine z_il5 dX8_winningMove_44 ?_
            refine z_iret dX8_winningMove_46 rfl (Nat.le_refl _) (Nat.le_refl _) (zext_rf _) (fun hrr => ?_)
            rw [show c = (c - 1) + 1 by omega] at hV
            have hT9 : T a = false := by
              cases hTa : T a with
              | false => rfl
              | true => rw [hTa] at hf28; exact absurd hf28 (by decide)
            rw [zlf_y (f := (fun u => decide (zbF h0 i (h0 89 29) u = 0) && !T u)) (by show (decide (zFo _ _ _ _ = 0) && !T a) = true; rw [hT9, decide_eq_true (by omega)]; rfl)] at hV
            subst hV
            exact hQ _ (zfK_tr hE hK9)
set_option maxRecDepth 4000 in
theorem X8_winningMove_ct {l : Launch} {Γ : zC} {h0 h1 : zM} {Q : Option zV → zC → zM → Prop} {i : Int} {r g v : Nat} {T : Nat → Bool} (hI : zIv Γ h0) (hF : zfr zSS h0 h1) (hO : h0 89 30 = -1) (hv : 0 ≤ i ∧ i < h0 89 22) (hr : r ≤ 9) (hvg : v < g) (hg : g ≤ 200) (hT1 : ∀ u, v < u → u ≤ g → h1 87 u = if T u then 1 else 0) (hQ : ∀ h9, zfK h1 h9 → Q (some (zI (zlf (fun u => decide (zbF h0 i (h0 89 29) u = 0) && !T u) (min r (g - v)) (v + 1)))) Γ h9) : zCT l mX8_winningMove 5 0 0 Γ [zR 1, zI i, zI (r : Int), zI (g : Int), zI (v : Int)] h1 Q := by
  have hΓ := hI.base
  have hx2 := hI.isl
  refine zCT_of (by decide) (Nat.le_of_ble_eq_true rfl) (ls := [some (zR 1), some (zI i), some (zI (r : Int)), some (zI (g : Int)), some (zI (v : Int)), none]) rfl ?_
  refine z_il4 dX8_winningMove_0 ?_
  refine z_iconst dX8_winningMove_2 (by decide) ?_
  refine z_iadd dX8_winningMove_3 (by omega) ?_
  refine z_is5 dX8_winningMove_4 (Nat.le_of_ble_eq_true rfl) rfl ?_
  exact X8_wM_l hI hF hO hv hr hg hT1 hQ _ (v + 1) (min r (g - v)) _ (Nat.lt_succ_self _) (by omega) (by omega) (zfK_rf _) rfl
set_option maxRecDepth 4000 in
theorem X8_game_l {l : Launch} {Γ : zC} {h0 : zM} {Q : Option zV → zC → zM → Prop} {i j V : Int} {r g f : Nat} (hI : zIv Γ h0) (hO : h0 89 30 = -1) (hv : 0 ≤ i ∧ i < h0 89 22) (hr : r ≤ 9) (hg : g ≤ 200) (hf : f < g) (hV : zgM (zbF h0 i (h0 89 29)) g r (zgT (zbF h0 i (h0 89 29)) g r (g - f - 1)) (g - f) = V) (hQ : ∀ h9, zfr zSS h0 h9 → Q (some (zI (if j = 1 then V else if V = -1 then 0 else 1))) Γ h9) : ∀ (m : Nat) (k : Nat) (e9 mv : Int) (h : zM), g - k < m → k ≤ g - f → e9 = (g : Int) - k - 1 → zfr zSS h0 h → (∀ u, g - k ≤ u → u ≤ g → h 87 u = if zgT (zbF h0 i (h0 89 29)) g r k u then 1 else 0) → (k = 0 ∧ mv = -1 ∨ mv = zgM (zbF h0 i (h0 89 29)) g r (zgT (zbF h0 i (h0 89 29)) g r (k - 1)) k) → zG (zFn l mX8_game 6 0 0 Γ Q) 0 0 Γ h 77 [some (zR 1), some (zI i), some (zI (r : Int)), some (zI (g : Int)), some (zI (f : Int)), some (zI j), some (zI mv), some (zI e9)] [] := by
  have hΓ := hI.base
  have hx2 := hI.isl
  intro m
  induction m with
  | zero => intros; omega
  | succ m ih =>
    intro k e9 mv h hm hk he hF hD hM
    refine z_il7 dX8_game_77 ?_
    refine z_il4 dX8_game_79 ?_
    refine z_icmp_lt (t := 119) dX8_game_81 (by rfl) (fun ht81 => ?_) (fun hf81 => ?_)
    · refine z_il5 dX8_game_119 ?_
      refine z_iconst dX8_game_121 (by decide) ?_
      refine z_icmp_ne (t := 128) dX8_game_122 (by rfl) (fun ht122 => ?_) (fun hf122 => ?_)
      · refine z_il6 dX8_game_128 ?_
        refine z_iconst dX8_game_130 (by decide) ?_
        refine z_icmp_eq (t := 138) dX8_game_131 (by rfl) (fun ht131 => ?_) (fun hf131 => ?_)
        · refine z_iconst dX8_game_138 (by decide) ?_
          refine z_iret dX8_game_139 rfl (Nat.le_refl _) (Nat.le_refl _) (zext_rf _) (fun hrr => ?_)
          have ek : k = g - f := by omega
          have hmv : mv = V := by
            rcases hM with hM | hM
            · omega
            · rw [hM, ek]; exact hV
          subst hmv
          have hw9 := hQ _ hF
          first
          | (rw [if_pos (by omega)] at hw9; exact hw9)
          | (rw [if_neg (by omega), if_pos (by omega)] at hw9; exact hw9)
          | (rw [if_neg (by omega), if_neg (by omega)] at hw9; exact hw9)
        · refine z_iconst dX8_game_134 (by decide) ?_
          refine z_goto (t := 139) dX8_game_135 (by rfl) ?_
          refine z_iret dX8_game_139 rfl (Nat.le_refl _) (Nat.le_refl _) (zext_rf _) (fun hrr => ?_)
          have ek : k = g - f := by omega
          have hmv : mv = V := by
            rcases hM with hM | hM
            · omega
            · rw [hM, ek]; exact hV
          subst hmv
          have hw9 := hQ _ hF
          first
          | (rw [if_pos (by omega)] at hw9; exact hw9)
          | (rw [if_neg (by omega), if_pos (by omega)] at hw9; exact hw9)
          | (rw [if_neg (by omega), if_neg (by omega)] at hw9; exact hw9)
      · refine z_il6 dX8_game_125 ?_
        refine z_iret dX8_game_127 rfl (Nat.le_refl _) (Nat.le_refl _) (zext_rf _) (fun hrr => ?_)
        have ek : k = g - f := by omega
        have hmv : mv = V := by
          rcases hM with hM | hM
          · omega
          · rw [hM, ek]; exact hV
        subst hmv
        have hw9 := hQ _ hF
        first
        | (rw [if_pos (by omega)] at hw9; exact hw9)
        | (rw [if_neg (by omega), if_pos (by omega)] at hw9; exact hw9)
        | (rw [if_neg (by omega), if_neg (by omega)] at hw9; exact hw9)
    · rw [show e9 = ((g - k - 1 : Nat) : Int) by omega]
      refine z_al0 dX8_game_84 (by first | decide | omega | assumption) ?_
      refine z_il1 dX8_game_85 ?_
      refine z_il2 dX8_game_86 ?_
      refine z_il3 dX8_game_87 ?_
      refine z_il7 dX8_game_88 ?_
      refine zcv4 dX8_game_90 zkX8_269 ziX8_winningMove zsX8_winningMove (zkB hΓ rfl) (by decide) rfl (Nat.le_of_ble_eq_true rfl) (by decide) (by first | decide | omega) ⟨Nat.le_refl _, Nat.le_refl _⟩ (X8_winningMove_ct (v := g - k - 1) (T := zgT (zbF h0 i (h0 89 29)) g r k) hI hF hO hv hr (by omega) hg (fun u h1 h2 => hD u (by omega) h2) (fun h9 hK9 _ => ?_))
      try simp only [zup_ap, zup_row, ne_eq, not_false_eq_true, zres, Int.toNat_natCast, reduceIte, Nat.reduceEqDiff, Nat.reduceAdd, and_self, and_true, true_and, and_false, false_and]
      rw [show zlf (fun u => decide (zbF h0 i (h0 89 29) u = 0) && !zgT (zbF h0 i (h0 89 29)) g r k u) (min r (g - (g - k - 1))) (g - k - 1 + 1) = zgM (zbF h0 i (h0 89 29)) g r (zgT (zbF h0 i (h0 89 29)) g r k) (k + 1) by unfold zgM; rw [show g - (g - k - 1) = k + 1 by omega, show g - k - 1 = g - (k + 1) by omega]]
      generalize hmv : zgM (zbF h0 i (h0 89 29)) g r (zgT (zbF h0 i (h0 89 29)) g r k) (k + 1) = mv
      refine z_is6 dX8_game_93 (Nat.le_of_ble_eq_true rfl) rfl ?_
      refine z_al0 dX8_game_95 (by first | decide | omega | assumption) ?_
      refine z_getR zfX8_72 dX8_game_96 (zkB hΓ rfl) rfl (zsB hΓ rfl) (zvB hΓ (by decide)) ?_
      refine z_il7 dX8_game_99 ?_
      refine z_il6 dX8_game_101 ?_
      refine z_iconst dX8_game_103 (by decide) ?_
      refine z_icmp_eq (t := 111) dX8_game_104 (by rfl) (fun ht104 => ?_) (fun hf104 => ?_)
      · refine z_iconst dX8_game_111 (by decide) ?_
        refine z_zast dX8_game_112 (zkB hΓ rfl) (by omega) (by omega) (by first | exact Or.inl rfl | exact Or.inr rfl | omega) ?_
        refine z_ii7 dX8_game_113 (by omega) (Nat.le_of_ble_eq_true rfl) rfl ?_
        refine z_goto (t := 77) dX8_game_116 (by rfl) ?_
        refine ih (k + 1) _ mv (zup h9 87 _ _) (by omega) (by omega) (by omega) (zfr_up (zfr_K hF hK9) rfl) (fun u h1 h2 => ?_) (Or.inr (by rw [Nat.add_sub_cancel]; exact hmv.symm))
        by_cases eu : u = g - (k + 1)
        · subst eu
          rw [zup_ap, zgT_y, hmv]
          refine (if_pos ⟨rfl, by omega⟩).trans ?_
          first
          | (rw [decide_eq_true (show mv ≠ -1 by omega)]; rfl)
          | (rw [decide_eq_false (show ¬ mv ≠ -1 by omega)]; rfl)
        · rw [zgT_n eu, zup_ap, if_neg (fun x => eu (by have := x.2; omega)), hK9 87 (by decide)]
          exact hD u (by omega) h2
      · refine z_iconst dX8_game_107 (by decide) ?_
        refine z_goto (t := 112) dX8_game_108 (by rfl) ?_
        refine z_zast dX8_game_112 (zkB hΓ rfl) (by omega) (by omega) (by first | exact Or.inl rfl | exact Or.inr rfl | omega) ?_
        refine z_ii7 dX8_game_113 (by omega) (Nat.le_of_ble_eq_true rfl) rfl ?_
        refine z_goto (t := 77) dX8_game_116 (by rfl) ?_
        refine ih (k + 1) _ mv (zup h9 87 _ _) (by omega) (by omega) (by omega) (zfr_up (zfr_K hF hK9) rfl) (fun u h1 h2 => ?_) (Or.inr (by rw [Nat.add_sub_cancel]; exact hmv.symm))
        by_cases eu : u = g - (k + 1)
        · subst eu
          rw [zup_ap, zgT_y, hmv]
          refine (if_pos ⟨rfl, by omega⟩).trans ?_
          first
          | (rw [decide_eq_true (show mv ≠ -1 by omega)]; rfl)
          | (rw [decide_eq_false (show ¬ mv ≠ -1 by omega)]; rfl)
        · rw [zgT_n eu, zup_ap, if_neg (fun x => eu (by have := x.2; omega)), hK9 87 (by decide)]
          exact hD u (by omega) h2
set_option maxRecDepth 4000 in
theorem X8_game_ct {l : Launch} {Γ : zC} {h0 h : zM} {Q : Option zV → zC → zM → Prop} {i r g f j : Int} (hI : zIv Γ h0) (hF : zfr zSS h0 h) (hO : h0 89 30 = -1) (hQ : ∀ h9, zfr zSS h0 h9 → Q (some (zI (zvGame h0 i r g f j))) Γ h9) : zCT l mX8_game 6 0 0 Γ [zR 1, zI i, zI r, zI g, zI f, zI j] h Q := by
  have hΓ := hI.base
  have hx2 := hI.isl
  refine zCT_of (by decide) (Nat.le_of_ble_eq_true rfl) (ls := [some (zR 1), some (zI i), some (zI r), some (zI g), some (zI f), some (zI j), none, none]) rfl ?_
  refine z_al0 dX8_game_0 (by first | decide | omega | assumption) ?_
  refine z_getR zfX8_35 dX8_game_1 (zkB hΓ rfl) rfl (zsB hΓ rfl) (zvB hΓ (by decide)) ?_
  refine z_il1 dX8_game_4 ?_
  refine zcv1 dX8_game_5 zkX8_114 ziX7_isIsle zsX7_isIsle (zkB hΓ rfl) (by decide) rfl (Nat.le_of_ble_eq_true rfl) (by decide) (by first | decide | omega) ⟨Nat.le_refl _, Nat.le_refl _⟩ (X7_isIsle_ct hI hF (fun hg1 _ => ?_) (fun hg1 _ => ?_))
  · try simp only [zup_ap, zup_row, ne_eq, not_false_eq_true, zres, Int.toNat_natCast, reduceIte, Nat.reduceEqDiff, Nat.reduceAdd, and_self, and_true, true_and, and_false, false_and]
    refine z_if_eq (t := 34) dX8_game_8 (by rfl) (fun _ => ?_) (fun hx => absurd hx (by decide))
    refine z_ldc (x := -1000000) dX8_game_34 zqX8_228 (by decide) ?_
    refine z_iret dX8_game_36 rfl (Nat.le_refl _) (Nat.le_refl _) (zext_rf _) (fun hrr => ?_)
    have hw9 := hQ _ hF
    unfold zvGame at hw9
    rw [if_neg (by omega)] at hw9
    exact hw9
  · try simp only [zup_ap, zup_row, ne_eq, not_false_eq_true, zres, Int.toNat_natCast, reduceIte, Nat.reduceEqDiff, Nat.reduceAdd, and_self, and_true, true_and, and_false, false_and]
    refine z_if_eq (t := 34) dX8_game_8 (by rfl) (fun hx => absurd hx (by decide)) (fun _ => ?_)
    refine z_il2 dX8_game_11 ?_
    refine z_iconst dX8_game_12 (by decide) ?_
    refine z_icmp_lt (t := 34) dX8_game_13 (by rfl) (fun ht13 => ?_) (fun hf13 => ?_)
    · refine z_ldc (x := -1000000) dX8_game_34 zqX8_228 (by decide) ?_
      refine z_iret dX8_game_36 rfl (Nat.le_refl _) (Nat.le_refl _) (zext_rf _) (fun hrr => ?_)
      have hw9 := hQ _ hF
      unfold zvGame at hw9
      rw [if_neg (by omega)] at hw9
      exact hw9
    · refine z_il2 dX8_game_16 ?_
      refine z_bipush (x := 9) dX8_game_17 (by rfl) (by decide) ?_
      refine z_icmp_gt (t := 34) dX8_game_19 (by rfl) (fun ht19 => ?_) (fun hf19 => ?_)
      · refine z_ldc (x := -1000000) dX8_game_34 zqX8_228 (by decide) ?_
        refine z_iret dX8_game_36 rfl (Nat.le_refl _) (Nat.le_refl _) (zext_rf _) (fun hrr => ?_)
        have hw9 := hQ _ hF
        unfold zvGame at hw9
        rw [if_neg (by omega)] at hw9
        exact hw9
      · refine z_il3 dX8_game_22 ?_
        refine z_iconst dX8_game_23 (by decide) ?_
        refine z_icmp_lt (t := 34) dX8_game_24 (by rfl) (fun ht24 => ?_) (fun hf24 => ?_)
        · refine z_ldc (x := -1000000) dX8_game_34 zqX8_228 (by decide) ?_
          refine z_iret dX8_game_36 rfl (Nat.le_refl _) (Nat.le_refl _) (zext_rf _) (fun hrr => ?_)
          have hw9 := hQ _ hF
          unfold zvGame at hw9
          rw [if_neg (by omega)] at hw9
          exact hw9
        · refine z_il3 dX8_game_27 ?_
          refine z_sipush (x := 200) dX8_game_28 (by rfl) (by decide) ?_
          refine z_icmp_le (t := 37) dX8_game_31 (by rfl) (fun ht31 => ?_) (fun hf31 => ?_)
          · refine z_il4 dX8_game_37 ?_
            refine z_if_lt (t := 59) dX8_game_39 (by rfl) (fun ht39 => ?_) (fun hf39 => ?_)
            · refine z_ldc (x := -1000000) dX8_game_59 zqX8_228 (by decide) ?_
              refine z_iret dX8_game_61 rfl (Nat.le_refl _) (Nat.le_refl _) (zext_rf _) (fun hrr => ?_)
              have hw9 := hQ _ hF
              unfold zvGame at hw9
              rw [if_neg (by omega)] at hw9
              exact hw9
            · refine z_il4 dX8_game_42 ?_
              refine z_il3 dX8_game_44 ?_
              refine z_icmp_ge (t := 59) dX8_game_45 (by rfl) (fun ht45 => ?_) (fun hf45 => ?_)
              · refine z_ldc (x := -1000000) dX8_game_59 zqX8_228 (by decide) ?_
                refine z_iret dX8_game_61 rfl (Nat.le_refl _) (Nat.le_refl _) (zext_rf _) (fun hrr => ?_)
                have hw9 := hQ _ hF
                unfold zvGame at hw9
                rw [if_neg (by omega)] at hw9
                exact hw9
              · refine z_il5 dX8_game_48 ?_
                refine z_if_lt (t := 59) dX8_game_50 (by rfl) (fun ht50 => ?_) (fun hf50 => ?_)
                · refine z_ldc (x := -1000000) dX8_game_59 zqX8_228 (by decide) ?_
                  refine z_iret dX8_game_61 rfl (Nat.le_refl _) (Nat.le_refl _) (zext_rf _) (fun hrr => ?_)
                  have hw9 := hQ _ hF
                  unfold zvGame at hw9
                  rw [if_neg (by omega)] at hw9
                  exact hw9
                · refine z_il5 dX8_game_53 ?_
                  refine z_iconst dX8_game_55 (by decide) ?_
                  refine z_icmp_le (t := 62) dX8_game_56 (by rfl) (fun ht56 => ?_) (fun hf56 => ?_)
                  · obtain ⟨r, rfl⟩ := Int.eq_ofNat_of_zero_le (show 0 ≤ r by omega)
                    obtain ⟨g, rfl⟩ := Int.eq_ofNat_of_zero_le (show 0 ≤ g by omega)
                    obtain ⟨f, rfl⟩ := Int.eq_ofNat_of_zero_le (show 0 ≤ f by omega)
                    unfold zvGame at hQ
                    rw [if_pos (by omega), Int.toNat_natCast, Int.toNat_natCast, show ((g : Int) - (f : Int) - 1).toNat = g - f - 1 by omega, show ((g : Int) - (f : Int)).toNat = g - f by omega] at hQ
                    refine z_al0 dX8_game_62 (by first | decide | omega | assumption) ?_
                    refine z_getR zfX8_72 dX8_game_63 (zkB hΓ rfl) rfl (zsB hΓ rfl) (zvB hΓ (by decide)) ?_
                    refine z_il3 dX8_game_66 ?_
                    refine z_iconst dX8_game_67 (by decide) ?_
                    refine z_zast dX8_game_68 (zkB hΓ rfl) (by omega) (by omega) (by first | exact Or.inl rfl | exact Or.inr rfl | omega) ?_
                    refine z_iconst dX8_game_69 (by decide) ?_
                    refine z_is6 dX8_game_70 (Nat.le_of_ble_eq_true rfl) rfl ?_
                    refine z_il3 dX8_game_72 ?_
                    refine z_iconst dX8_game_73 (by decide) ?_
                    refine z_isub dX8_game_74 (by omega) ?_
                    refine z_is7 dX8_game_75 (Nat.le_of_ble_eq_true rfl) rfl ?_
                    exact X8_game_l hI hO hg1 (by omega) (by omega) (by omega) rfl hQ _ 0 _ _ _ (Nat.lt_succ_self _) (by omega) (by omega) (zfr_up hF rfl) (fun u h1 h2 => by rw [show u = g by omega, zup_ap]; exact if_pos ⟨rfl, by omega⟩) (Or.inl ⟨rfl, rfl⟩)
                  · refine z_ldc (x := -1000000) dX8_game_59 zqX8_228 (by decide) ?_
                    refine z_iret dX8_game_61 rfl (Nat.le_refl _) (Nat.le_refl _) (zext_rf _) (fun hrr => ?_)
                    have hw9 := hQ _ hF
                    unfold zvGame at hw9
                    rw [if_neg (by omega)] at hw9
                    exact hw9
          · refine z_ldc (x := -1000000) dX8_game_34 zqX8_228 (by decide) ?_
            refine z_iret dX8_game_36 rfl (Nat.le_refl _) (Nat.le_refl _) (zext_rf _) (fun hrr => ?_)
            have hw9 := hQ _ hF
            unfold zvGame at hw9
            rw [if_neg (by omega)] at hw9
            exact hw9
set_option maxRecDepth 4000 in
theorem X9_gm_t {l : Launch} {Γ : zC} {h : zM} {Q : Option zV → zC → zM → Prop} {b : Nat → Int} {T : Nat → Bool} {i j : Int} {r g f v top : Nat} (hΓ : zBase Γ) (hB : ∀ n, n ≤ 200 → h 102 n = b n) (hg : g ≤ 200) (htop : v < top ∧ top ≤ g) (hTg : T g = false) (hT : ∀ u, v < u → u < g → h 116 u = if T u then 1 else 0) (hK : ∀ y : Int, zG (zFn l mX9_game 1682 0 0 Γ Q) 0 0 Γ h 146 [some (zR 89), some (zI i), some (zI (r : Int)), some (zI (g : Int)), some (zI (f : Int)), some (zI j), some (zI (zlf (fun u => decide (b u = 0) && !T u) (top - v) (v + 1))), some (zI (v : Int)), some (zI y)] []) : ∀ (m : Nat) (t9 mv : Int), t9 < m → (v : Int) ≤ t9 → t9 ≤ top → mv = zlf (fun u => decide (b u = 0) && !T u) (top - t9.toNat) (t9.toNat + 1) → zG (zFn l mX9_game 1682 0 0 Γ Q) 0 0 Γ h 103 [some (zR 89), some (zI i), some (zI (r : Int)), some (zI (g : Int)), some (zI (f : Int)), some (zI j), some (zI mv), some (zI (v : Int)), some (zI t9)] [] := by
  intro m
  induction m with
  | zero => intros; omega
  | succ m ih =>
    intro t9 mv hm h1 h2 hM
    refine z_il8 dX9_game_103 ?_
    refine z_il7 dX9_game_105 ?_
    refine z_icmp_le (t := 146) dX9_game_107 (by rfl) (fun ht107 => ?_) (fun hf107 => ?_)
    · have et : t9 = (v : Int) := by omega
      subst et
      rw [Int.toNat_natCast] at hM
      subst hM
      exact hK _
    · obtain ⟨t, rfl⟩ := Int.eq_ofNat_of_zero_le (show 0 ≤ t9 by omega)
      refine z_al0 dX9_game_110 (by first | decide | omega | assumption) ?_
      refine z_getR zfX9_68 dX9_game_111 (zkB hΓ rfl) rfl (zsB hΓ rfl) (zvB hΓ (by decide)) ?_
      refine z_il8 dX9_game_114 ?_
      refine z_zald dX9_game_116 (zkB hΓ rfl) (by omega) (by omega) ?_
      try simp only [Int.toNat_natCast]
      rw [hB t (by omega)]
      try simp only [zup_ap, zup_row, ne_eq, not_false_eq_true, zres, Int.toNat_natCast, reduceIte, Nat.reduceEqDiff, Nat.reduceAdd, and_self, and_true, true_and, and_false, false_and]
      refine z_if_ne (t := 140) dX9_game_117 (by rfl) (fun ht117 => ?_) (fun hf117 => ?_)
      · refine z_ii8 dX9_game_140 (by omega) (Nat.le_of_ble_eq_true rfl) rfl ?_
        refine z_goto (t := 103) dX9_game_143 (by rfl) ?_
        have e1 : ((t : Int) + -1).toNat + 1 = t := by omega
        have e2 : top - ((t : Int) + -1).toNat = (top - (t : Int).toNat) + 1 := by omega
        refine ih ((t : Int) + -1) _ (by omega) (by omega) (by omega) ?_
        rw [e2, e1]
        rw [Int.toNat_natCast] at hM ⊢
        first
        | (rw [zlf_n (f := (fun u => decide (b u = 0) && !T u)) (by show (decide (b t = 0) && _) = false; rw [decide_eq_false (by omega)]; rfl)]; exact hM)
        | (have hT9 : T t = true := by
             cases hTa : T t with
             | true => rfl
             | false => rw [hTa] at ht133; exact absurd ht133 (by decide)
           rw [zlf_n (f := (fun u => decide (b u = 0) && !T u)) (by show (_ && !T t) = false; rw [hT9]; exact Bool.and_false _)]; exact hM)
        | (have hT9 : T t = false := by
             first
             | (rw [show t = g by omega]; exact hTg)
             | (cases hTa : T t with
                | false => rfl
                | true => rw [hTa] at hf133; exact absurd hf133 (by decide))
           rw [zlf_y (f := (fun u => decide (b u = 0) && !T u)) (by show (decide (b t = 0) && !T t) = true; rw [hT9, decide_eq_true (by omega)]; rfl)])
      · refine z_il8 dX9_game_120 ?_
        refine z_il3 dX9_game_122 ?_
        refine z_icmp_eq (t := 136) dX9_game_123 (by rfl) (fun ht123 => ?_) (fun hf123 => ?_)
        · refine z_il8 dX9_game_136 ?_
          refine z_is6 dX9_game_138 (Nat.le_of_ble_eq_true rfl) rfl ?_
          refine z_ii8 dX9_game_140 (by omega) (Nat.le_of_ble_eq_true rfl) rfl ?_
          refine z_goto (t := 103) dX9_game_143 (by rfl) ?_
          have e1 : ((t : Int) + -1).toNat + 1 = t := by omega
          have e2 : top - ((t : Int) + -1).toNat = (top - (t : Int).toNat) + 1 := by omega
          refine ih ((t : Int) + -1) _ (by omega) (by omega) (by omega) ?_
          rw [e2, e1]
          rw [Int.toNat_natCast] at hM ⊢
          first
          | (rw [zlf_n (f := (fun u => decide (b u = 0) && !T u)) (by show (decide (b t = 0) && _) = false; rw [decide_eq_false (by omega)]; rfl)]; exact hM)
          | (have hT9 : T t = true := by
               cases hTa : T t with
               | true => rfl
               | false => rw [hTa] at ht133; exact absurd ht133 (by decide)
             rw [zlf_n (f := (fun u => decide (b u = 0) && !T u)) (by show (_ && !T t) = false; rw [hT9]; exact Bool.and_false _)]; exact hM)
          | (have hT9 : T t = false := by
               first
               | (rw [show t = g by omega]; exact hTg)
               | (cases hTa : T t with
                  | false => rfl
                  | true => rw [hTa] at hf133; exact absurd hf133 (by decide))
             rw [zlf_y (f := (fun u => decide (b u = 0) && !T u)) (by show (decide (b t = 0) && !T t) = true; rw [hT9, decide_eq_true (by omega)]; rfl)])
        · refine z_al0 dX9_game_126 (by first | decide | omega | assumption) ?_
          refine z_getR zfX9_113 dX9_game_127 (zkB hΓ rfl) rfl (zsB hΓ rfl) (zvB hΓ (by decide)) ?_
          refine z_il8 dX9_game_130 ?_
          refine z_zald dX9_game_132 (zkB hΓ rfl) (by omega) (by omega) ?_
          try simp only [Int.toNat_natCast]
          rw [hT t (by omega) (by omega)]
          try simp only [zup_ap, zup_row, ne_eq, not_false_eq_true, zres, Int.toNat_natCast, reduceIte, Nat.reduceEqDiff, Nat.reduceAdd, and_self, and_true, true_and, and_false, false_and]
          refine z_if_ne (t := 140) dX9_game_133 (by rfl) (fun ht133 => ?_) (fun hf133 => ?_)
          · refine z_ii8 dX9_game_140 (by omega) (Nat.le_of_ble_eq_true rfl) rfl ?_
            refine z_goto (t := 103) dX9_game_143 (by rfl) ?_
            have e1 : ((t : Int) + -1).toNat + 1 = t := by omega
            have e2 : top - ((t : Int) + -1).toNat = (top - (t : Int).toNat) + 1 := by omega
            refine ih ((t : Int) + -1) _ (by omega) (by omega) (by omega) ?_
            rw [e2, e1]
            rw [Int.toNat_natCast] at hM ⊢
            first
            | (rw [zlf_n (f := (fun u => decide (b u = 0) && !T u)) (by show (decide (b t = 0) && _) = false; rw [decide_eq_false (by omega)]; rfl)]; exact hM)
            | (have hT9 : T t = true := by
                 cases hTa : T t with
                 | true => rfl
                 | false => rw [hTa] at ht133; exact absurd ht133 (by decide)
               rw [zlf_n (f := (fun u => decide (b u = 0) && !T u)) (by show (_ && !T t) = false; rw [hT9]; exact Bool.and_false _)]; exact hM)
            | (have hT9 : T t = false := by
                 first
                 | (rw [show t = g by omega]; exact hTg)
                 | (cases hTa : T t with
                    | false => rfl
                    | true => rw [hTa] at hf133; exact absurd hf133 (by decide))
               rw [zlf_y (f := (fun u => decide (b u = 0) && !T u)) (by show (decide (b t = 0) && !T t) = true; rw [hT9, decide_eq_true (by omega)]; rfl)])
          · refine z_il8 dX9_game_136 ?_
            refine z_is6 dX9_game_138 (Nat.le_of_ble_eq_true rfl) rfl ?_
            refine z_ii8 dX9_game_140 (by omega) (Nat.le_of_ble_eq_true rfl) rfl ?_
            refine z_goto (t := 103) dX9_game_143 (by rfl) ?_
            have e1 : ((t : Int) + -1).toNat + 1 = t := by omega
            have e2 : top - ((t : Int) + -1).toNat = (top - (t : Int).toNat) + 1 := by omega
            refine ih ((t : Int) + -1) _ (by omega) (by omega) (by omega) ?_
            rw [e2, e1]
            rw [Int.toNat_natCast] at hM ⊢
            first
            | (rw [zlf_n (f := (fun u => decide (b u = 0) && !T u)) (by show (decide (b t = 0) && _) = false; rw [decide_eq_false (by omega)]; rfl)]; exact hM)
            | (have hT9 : T t = true := by
                 cases hTa : T t with
                 | true => rfl
                 | false => rw [hTa] at ht133; exact absurd ht133 (by decide)
               rw [zlf_n (f := (fun u => decide (b u = 0) && !T u)) (by show (_ && !T t) = false; rw [hT9]; exact Bool.and_false _)]; exact hM)
            | (have hT9 : T t = false := by
                 first
                 | (rw [show t = g by omega]; exact hTg)
                 | (cases hTa : T t with
                    | false => rfl
                    | true => rw [hTa] at hf133; exact absurd hf133 (by decide))
               rw [zlf_y (f := (fun u => decide (b u = 0) && !T u)) (by show (decide (b t = 0) && !T t) = true; rw [hT9, decide_eq_true (by omega)]; rfl)])
set_option maxRecDepth 4000 in
theorem X9_game_l {l : Launch} {Γ : zC} {h1 : zM} {Q : Option zV → zC → zM → Prop} {b : Nat → Int} {i j V : Int} {r g f : Nat} (hΓ : zBase Γ) (hB1 : ∀ n, n ≤ 200 → h1 102 n = b n) (hr : 1 ≤ r ∧ r ≤ 9) (hg : g ≤ 200) (hf : f < g) (hV : zgM b g r (zgT b g r (g - f - 1)) (g - f) = V) (hQ : ∀ h9, (∀ q, q ≠ 116 → h9 q = h1 q) → Q (some (zI (if j = 1 then V else if V = -1 then 0 else 1))) Γ h9) : ∀ (m : Nat) (k : Nat) (e9 mv : Int) (y : Option zV) (h : zM), g - k < m → k ≤ g - f → e9 = (g : Int) - k - 1 → (∀ q, q ≠ 116 → h q = h1 q) → (∀ u, g - k ≤ u → u < g → h 116 u = if zgT b g r k u then 1 else 0) → (k = 0 ∧ mv = -1 ∨ mv = zgM b g r (zgT b g r (k - 1)) k) → zG (zFn l mX9_game 1682 0 0 Γ Q) 0 0 Γ h 83 [some (zR 89), some (zI i), some (zI (r : Int)), some (zI (g : Int)), some (zI (f : Int)), some (zI j), some (zI mv), some (zI e9), y] [] := by
  intro m
  induction m with
  | zero => intros; omega
  | succ m ih =>
    intro k e9 mv y h hm hk he hE hD hM
    refine z_il7 dX9_game_83 ?_
    refine z_il4 dX9_game_85 ?_
    refine z_icmp_lt (t := 170) dX9_game_87 (by rfl) (fun ht87 => ?_) (fun hf87 => ?_)
    · refine z_il5 dX9_game_170 ?_
      refine z_iconst dX9_game_172 (by decide) ?_
      refine z_icmp_ne (t := 181) dX9_game_173 (by rfl) (fun ht173 => ?_) (fun hf173 => ?_)
      · refine z_il6 dX9_game_181 ?_
        refine z_iconst dX9_game_183 (by decide) ?_
        refine z_icmp_ne (t := 191) dX9_game_184 (by rfl) (fun ht184 => ?_) (fun hf184 => ?_)
        · refine z_iconst dX9_game_191 (by decide) ?_
          refine z_iret dX9_game_192 rfl (Nat.le_refl _) (Nat.le_refl _) (zext_rf _) (fun hrr => ?_)
          have ek : k = g - f := by omega
          have hmv : mv = V := by
            rcases hM with hM | hM
            · omega
            · rw [hM, ek]; exact hV
          subst hmv
          have hw9 := hQ _ hE
          first
          | (rw [if_pos (by omega)] at hw9; exact hw9)
          | (rw [if_neg (by omega), if_pos (by omega)] at hw9; exact hw9)
          | (rw [if_neg (by omega), if_neg (by omega)] at hw9; exact hw9)
        · refine z_iconst dX9_game_187 (by decide) ?_
          refine z_goto (t := 192) dX9_game_188 (by rfl) ?_
          refine z_iret dX9_game_192 rfl (Nat.le_refl _) (Nat.le_refl _) (zext_rf _) (fun hrr => ?_)
          have ek : k = g - f := by omega
          have hmv : mv = V := by
            rcases hM with hM | hM
            · omega
            · rw [hM, ek]; exact hV
          subst hmv
          have hw9 := hQ _ hE
          first
          | (rw [if_pos (by omega)] at hw9; exact hw9)
          | (rw [if_neg (by omega), if_pos (by omega)] at hw9; exact hw9)
          | (rw [if_neg (by omega), if_neg (by omega)] at hw9; exact hw9)
      · refine z_il6 dX9_game_176 ?_
        refine z_goto (t := 192) dX9_game_178 (by rfl) ?_
        refine z_iret dX9_game_192 rfl (Nat.le_refl _) (Nat.le_refl _) (zext_rf _) (fun hrr => ?_)
        have ek : k = g - f := by omega
        have hmv : mv = V := by
          rcases hM with hM | hM
          · omega
          · rw [hM, ek]; exact hV
        subst hmv
        have hw9 := hQ _ hE
        first
        | (rw [if_pos (by omega)] at hw9; exact hw9)
        | (rw [if_neg (by omega), if_pos (by omega)] at hw9; exact hw9)
        | (rw [if_neg (by omega), if_neg (by omega)] at hw9; exact hw9)
    · rw [show e9 = ((g - k - 1 : Nat) : Int) by omega]
      refine z_iconst dX9_game_90 (by decide) ?_
      refine z_is6 dX9_game_91 (Nat.le_of_ble_eq_true rfl) rfl ?_
      refine z_il3 dX9_game_93 ?_
      refine z_il7 dX9_game_94 ?_
      refine z_il2 dX9_game_96 ?_
      refine z_iadd dX9_game_97 (by omega) ?_
      refine z_mmin dX9_game_98 zkX9_347 ztJ9_min_7cf53 (Nat.le_of_ble_eq_true rfl) (by first | decide | omega) ⟨Nat.le_refl _, Nat.le_refl _⟩ ?_
      refine z_is8 dX9_game_101 (Nat.le_of_ble_eq_true rfl) rfl ?_
      rw [show (if ((g - k - 1 : Nat) : Int) + (r : Int) < (g : Int) then ((g - k - 1 : Nat) : Int) + (r : Int) else (g : Int)) = ((min (g - k - 1 + r) g : Nat) : Int) by split <;> omega]
      refine X9_gm_t (b := b) (T := zgT b g r k) (v := g - k - 1) (top := min (g - k - 1 + r) g) hΓ (fun n hn => by rw [hE 102 (by decide)]; exact hB1 n hn) hg (by omega) (zgT_G b r (by omega) k) (fun u h1 h2 => hD u (by omega) h2) (fun y => ?_) (min (g - k - 1 + r) g + 1) _ _ (by omega) (by omega) (by omega) (by rw [Int.toNat_natCast, Nat.sub_self]; rfl)
      rw [show zlf (fun u => decide (b u = 0) && !zgT b g r k u) (min (g - k - 1 + r) g - (g - k - 1)) (g - k - 1 + 1) = zgM b g r (zgT b g r k) (k + 1) by unfold zgM; rw [show min (g - k - 1 + r) g - (g - k - 1) = min r (k + 1) by omega, show g - k - 1 = g - (k + 1) by omega]]
      generalize hmv : zgM b g r (zgT b g r k) (k + 1) = mv
      refine z_al0 dX9_game_146 (by first | decide | omega | assumption) ?_
      refine z_getR zfX9_113 dX9_game_147 (zkB hΓ rfl) rfl (zsB hΓ rfl) (zvB hΓ (by decide)) ?_
      refine z_il7 dX9_game_150 ?_
      refine z_il6 dX9_game_152 ?_
      refine z_iconst dX9_game_154 (by decide) ?_
      refine z_icmp_eq (t := 162) dX9_game_155 (by rfl) (fun ht155 => ?_) (fun hf155 => ?_)
      · refine z_iconst dX9_game_162 (by decide) ?_
        refine z_zast dX9_game_163 (zkB hΓ rfl) (by omega) (by omega) (by first | exact Or.inl rfl | exact Or.inr rfl | omega) ?_
        refine z_ii7 dX9_game_164 (by omega) (Nat.le_of_ble_eq_true rfl) rfl ?_
        refine z_goto (t := 83) dX9_game_167 (by rfl) ?_
        refine ih (k + 1) _ mv _ (zup h 116 _ _) (by omega) (by omega) (by omega) (fun q hq => (zup_row hq).trans (hE q hq)) (fun u h1 h2 => ?_) (Or.inr (by rw [Nat.add_sub_cancel]; exact hmv.symm))
        by_cases eu : u = g - (k + 1)
        · subst eu
          rw [zup_ap, zgT_y, hmv]
          refine (if_pos ⟨rfl, by omega⟩).trans ?_
          first
          | (rw [decide_eq_true (show mv ≠ -1 by omega)]; rfl)
          | (rw [decide_eq_false (show ¬ mv ≠ -1 by omega)]; rfl)
        · rw [zgT_n eu, zup_ap, if_neg (fun x => eu (by have := x.2; omega))]
          exact hD u (by omega) h2
      · refine z_iconst dX9_game_158 (by decide) ?_
        refine z_goto (t := 163) dX9_game_159 (by rfl) ?_
        refine z_zast dX9_game_163 (zkB hΓ rfl) (by omega) (by omega) (by first | exact Or.inl rfl | exact Or.inr rfl | omega) ?_
        refine z_ii7 dX9_game_164 (by omega) (Nat.le_of_ble_eq_true rfl) rfl ?_
        refine z_goto (t := 83) dX9_game_167 (by rfl) ?_
        refine ih (k + 1) _ mv _ (zup h 116 _ _) (by omega) (by omega) (by omega) (fun q hq => (zup_row hq).trans (hE q hq)) (fun u h1 h2 => ?_) (Or.inr (by rw [Nat.add_sub_cancel]; exact hmv.symm))
        by_cases eu : u = g - (k + 1)
        · subst eu
          rw [zup_ap, zgT_y, hmv]
          refine (if_pos ⟨rfl, by omega⟩).trans ?_
          first
          | (rw [decide_eq_true (show mv ≠ -1 by omega)]; rfl)
          | (rw [decide_eq_false (show ¬ mv ≠ -1 by omega)]; rfl)
        · rw [zgT_n eu, zup_ap, if_neg (fun x => eu (by have := x.2; omega))]
          exact hD u (by omega) h2
set_option maxRecDepth 4000 in
theorem X9_game_ct {l : Launch} {Γ : zC} {h0 h : zM} {Q : Option zV → zC → zM → Prop} {i r g f j : Int} (hI : zIv Γ h0) (hF : zfr zSS h0 h) (hQ : ∀ h9, zfr zSS h0 h9 → Q (some (zI (zvGame h0 i r g f j))) Γ h9) : zCT l mX9_game 1682 0 0 Γ [zR 89, zI i, zI r, zI g, zI f, zI j] h Q := by
  have hΓ := hI.base
  have hx2 := hI.isl
  refine zCT_of (by decide) (Nat.le_of_ble_eq_true rfl) (ls := [some (zR 89), some (zI i), some (zI r), some (zI g), some (zI f), some (zI j), none, none, none]) rfl ?_
  refine z_al0 dX9_game_0 (by first | decide | omega | assumption) ?_
  refine z_iconst dX9_game_1 (by decide) ?_
  refine z_putI zfX9_128 dX9_game_2 (zkB hΓ rfl) rfl rfl ?_
  replace hF : zfr zSS h0 (zup h 89 0 0) := zfr_up hF rfl
  generalize zup h 89 0 0 = h at hF ⊢
  refine z_al0 dX9_game_5 (by first | decide | omega | assumption) ?_
  refine z_il1 dX9_game_6 ?_
  refine zcv1 dX9_game_7 zkX9_299 ziX9_isIsle zsX9_isIsle (zkB hΓ rfl) (by decide) rfl (Nat.le_of_ble_eq_true rfl) (by decide) (by first | decide | omega) ⟨Nat.le_refl _, Nat.le_refl _⟩ (X9_isIsle_ct hI hF (fun hg1 _ => ?_) (fun hg1 _ => ?_))
  · try simp only [zup_ap, zup_row, ne_eq, not_false_eq_true, zres, Int.toNat_natCast, reduceIte, Nat.reduceEqDiff, Nat.reduceAdd, and_self, and_true, true_and, and_false, false_and]
    refine z_if_eq (t := 62) dX9_game_10 (by rfl) (fun _ => ?_) (fun hx => absurd hx (by decide))
    refine z_ldcw (x := -1000000) dX9_game_62 zqX9_411 (by decide) ?_
    refine z_iret dX9_game_65 rfl (Nat.le_refl _) (Nat.le_refl _) (zext_rf _) (fun hrr => ?_)
    have hw9 := hQ _ hF
    unfold zvGame at hw9
    rw [if_neg (by omega)] at hw9
    exact hw9
  · try simp only [zup_ap, zup_row, ne_eq, not_false_eq_true, zres, Int.toNat_natCast, reduceIte, Nat.reduceEqDiff, Nat.reduceAdd, and_self, and_true, true_and, and_false, false_and]
    refine z_if_eq (t := 62) dX9_game_10 (by rfl) (fun hx => absurd hx (by decide)) (fun _ => ?_)
    refine z_il2 dX9_game_13 ?_
    refine z_i2l dX9_game_14 ?_
    refine z_lconst (x := 1) dX9_game_15 (by rfl) (by decide) ?_
    refine z_ldc2 (x := 9) dX9_game_16 zqX9_435 (by decide) ?_
    refine zcs3 dX9_game_19 zkX9_261 ztX9_isIn (Nat.le_of_ble_eq_true rfl) (by decide) (by first | decide | omega) ⟨Nat.le_refl _, Nat.le_refl _⟩ (X9_isIn_ct (fun hg2 _ => ?_) (fun hg2 _ => ?_))
    · try simp only [zup_ap, zup_row, ne_eq, not_false_eq_true, zres, Int.toNat_natCast, reduceIte, Nat.reduceEqDiff, Nat.reduceAdd, and_self, and_true, true_and, and_false, false_and]
      refine z_if_eq (t := 62) dX9_game_22 (by rfl) (fun _ => ?_) (fun hx => absurd hx (by decide))
      refine z_ldcw (x := -1000000) dX9_game_62 zqX9_411 (by decide) ?_
      refine z_iret dX9_game_65 rfl (Nat.le_refl _) (Nat.le_refl _) (zext_rf _) (fun hrr => ?_)
      have hw9 := hQ _ hF
      unfold zvGame at hw9
      rw [if_neg (by omega)] at hw9
      exact hw9
    · try simp only [zup_ap, zup_row, ne_eq, not_false_eq_true, zres, Int.toNat_natCast, reduceIte, Nat.reduceEqDiff, Nat.reduceAdd, and_self, and_true, true_and, and_false, false_and]
      refine z_if_eq (t := 62) dX9_game_22 (by rfl) (fun hx => absurd hx (by decide)) (fun _ => ?_)
      refine z_il3 dX9_game_25 ?_
      refine z_i2l dX9_game_26 ?_
      refine z_lconst (x := 1) dX9_game_27 (by rfl) (by decide) ?_
      refine z_ldc2 (x := 200) dX9_game_28 zqX9_332 (by decide) ?_
      refine zcs3 dX9_game_31 zkX9_261 ztX9_isIn (Nat.le_of_ble_eq_true rfl) (by decide) (by first | decide | omega) ⟨Nat.le_refl _, Nat.le_refl _⟩ (X9_isIn_ct (fun hg3 _ => ?_) (fun hg3 _ => ?_))
      · try simp only [zup_ap, zup_row, ne_eq, not_false_eq_true, zres, Int.toNat_natCast, reduceIte, Nat.reduceEqDiff, Nat.reduceAdd, and_self, and_true, true_and, and_false, false_and]
        refine z_if_eq (t := 62) dX9_game_34 (by rfl) (fun _ => ?_) (fun hx => absurd hx (by decide))
        refine z_ldcw (x := -1000000) dX9_game_62 zqX9_411 (by decide) ?_
        refine z_iret dX9_game_65 rfl (Nat.le_refl _) (Nat.le_refl _) (zext_rf _) (fun hrr => ?_)
        have hw9 := hQ _ hF
        unfold zvGame at hw9
        rw [if_neg (by omega)] at hw9
        exact hw9
      · try simp only [zup_ap, zup_row, ne_eq, not_false_eq_true, zres, Int.toNat_natCast, reduceIte, Nat.reduceEqDiff, Nat.reduceAdd, and_self, and_true, true_and, and_false, false_and]
        refine z_if_eq (t := 62) dX9_game_34 (by rfl) (fun hx => absurd hx (by decide)) (fun _ => ?_)
        refine z_il4 dX9_game_37 ?_
        refine z_i2l dX9_game_39 ?_
        refine z_lconst (x := 0) dX9_game_40 (by rfl) (by decide) ?_
        refine z_il3 dX9_game_41 ?_
        refine z_iconst dX9_game_42 (by decide) ?_
        refine z_isub dX9_game_43 (by omega) ?_
        refine z_i2l dX9_game_44 ?_
        refine zcs3 dX9_game_45 zkX9_261 ztX9_isIn (Nat.le_of_ble_eq_true rfl) (by decide) (by first | decide | omega) ⟨Nat.le_refl _, Nat.le_refl _⟩ (X9_isIn_ct (fun hg4 _ => ?_) (fun hg4 _ => ?_))
        · try simp only [zup_ap, zup_row, ne_eq, not_false_eq_true, zres, Int.toNat_natCast, reduceIte, Nat.reduceEqDiff, Nat.reduceAdd, and_self, and_true, true_and, and_false, false_and]
          refine z_if_eq (t := 62) dX9_game_48 (by rfl) (fun _ => ?_) (fun hx => absurd hx (by decide))
          refine z_ldcw (x := -1000000) dX9_game_62 zqX9_411 (by decide) ?_
          refine z_iret dX9_game_65 rfl (Nat.le_refl _) (Nat.le_refl _) (zext_rf _) (fun hrr => ?_)
          have hw9 := hQ _ hF
          unfold zvGame at hw9
          rw [if_neg (by omega)] at hw9
          exact hw9
        · try simp only [zup_ap, zup_row, ne_eq, not_false_eq_true, zres, Int.toNat_natCast, reduceIte, Nat.reduceEqDiff, Nat.reduceAdd, and_self, and_true, true_and, and_false, false_and]
          refine z_if_eq (t := 62) dX9_game_48 (by rfl) (fun hx => absurd hx (by decide)) (fun _ => ?_)
          refine z_il5 dX9_game_51 ?_
          refine z_i2l dX9_game_53 ?_
          refine z_lconst (x := 0) dX9_game_54 (by rfl) (by decide) ?_
          refine z_lconst (x := 1) dX9_game_55 (by rfl) (by decide) ?_
          refine zcs3 dX9_game_56 zkX9_261 ztX9_isIn (Nat.le_of_ble_eq_true rfl) (by decide) (by first | decide | omega) ⟨Nat.le_refl _, Nat.le_refl _⟩ (X9_isIn_ct (fun hg5 _ => ?_) (fun hg5 _ => ?_))
          · try simp only [zup_ap, zup_row, ne_eq, not_false_eq_true, zres, Int.toNat_natCast, reduceIte, Nat.reduceEqDiff, Nat.reduceAdd, and_self, and_true, true_and, and_false, false_and]
            refine z_if_ne (t := 66) dX9_game_59 (by rfl) (fun hx => absurd hx (by decide)) (fun _ => ?_)
            refine z_ldcw (x := -1000000) dX9_game_62 zqX9_411 (by decide) ?_
            refine z_iret dX9_game_65 rfl (Nat.le_refl _) (Nat.le_refl _) (zext_rf _) (fun hrr => ?_)
            have hw9 := hQ _ hF
            unfold zvGame at hw9
            rw [if_neg (by omega)] at hw9
            exact hw9
          · try simp only [zup_ap, zup_row, ne_eq, not_false_eq_true, zres, Int.toNat_natCast, reduceIte, Nat.reduceEqDiff, Nat.reduceAdd, and_self, and_true, true_and, and_false, false_and]
            refine z_if_ne (t := 66) dX9_game_59 (by rfl) (fun _ => ?_) (fun hx => absurd hx (by decide))
            refine z_al0 dX9_game_66 (by first | decide | omega | assumption) ?_
            refine z_il1 dX9_game_67 ?_
            refine z_al0 dX9_game_68 (by first | decide | omega | assumption) ?_
            refine z_getI zfX9_288 dX9_game_69 (zkB hΓ rfl) rfl ?_
            rw [hF 89 29 rfl]
            try simp only [zup_ap, zup_row, ne_eq, not_false_eq_true, zres, Int.toNat_natCast, reduceIte, Nat.reduceEqDiff, Nat.reduceAdd, and_self, and_true, true_and, and_false, false_and]
            refine zcv2 dX9_game_72 zkX9_337 ziX9_layBad zsX9_layBad (zkB hΓ rfl) (by decide) rfl (Nat.le_of_ble_eq_true rfl) (by decide) (by first | decide | omega) ⟨Nat.le_refl _, Nat.le_refl _⟩ (X9_layBad_ct hI hF hg1 (fun h2 hA2 hB2 _ => ?_))
            try simp only [zup_ap, zup_row, ne_eq, not_false_eq_true, zres, Int.toNat_natCast, reduceIte, Nat.reduceEqDiff, Nat.reduceAdd, and_self, and_true, true_and, and_false, false_and]
            replace hF := zfr_B hF zs102 hA2
            obtain ⟨r, rfl⟩ := Int.eq_ofNat_of_zero_le (show 0 ≤ r by omega)
            obtain ⟨g, rfl⟩ := Int.eq_ofNat_of_zero_le (show 0 ≤ g by omega)
            obtain ⟨f, rfl⟩ := Int.eq_ofNat_of_zero_le (show 0 ≤ f by omega)
            unfold zvGame at hQ
            rw [if_pos (by omega), Int.toNat_natCast, Int.toNat_natCast, show ((g : Int) - (f : Int) - 1).toNat = g - f - 1 by omega, show ((g : Int) - (f : Int)).toNat = g - f by omega] at hQ
            refine z_iconst dX9_game_75 (by decide) ?_
            refine z_is6 dX9_game_76 (Nat.le_of_ble_eq_true rfl) rfl ?_
            refine z_il3 dX9_game_78 ?_
            refine z_iconst dX9_game_79 (by decide) ?_
            refine z_isub dX9_game_80 (by omega) ?_
            refine z_is7 dX9_game_81 (Nat.le_of_ble_eq_true rfl) rfl ?_
            exact X9_game_l hΓ hB2 (by omega) (by omega) (by omega) rfl (fun h9 hE9 => hQ h9 (zfr_1 hF (fun _ => rfl) hE9)) _ 0 _ _ _ _ (Nat.lt_succ_self _) (by omega) (by omega) (fun _ _ => rfl) (fun u h1 h2 => absurd h1 (by omega)) (Or.inl ⟨rfl, rfl⟩)
/-- the day so many days on -/
def zdy (h : zM) (k : Int) : Int := if h 89 29 + k < 99 then h 89 29 + k else 99
/-- the DATE behind so many days of a CALENDAR -/
def zcl (h : zM) (i : Int) : Nat → Int
  | 0 => 0
  | k + 1 => if zcl h i k = -1 then -1 else zdF (zbF h i (zdy h (k : Int))) 30 ((zcl h i k).toNat % 30 + 1)
theorem zcl_s {h : zM} {i : Int} {k : Nat} (c : zcl h i k ≠ -1) : zcl h i (k + 1) = zdF (zbF h i (zdy h (k : Int))) 30 ((zcl h i k).toNat % 30 + 1) := by rw [zcl, if_neg c]
theorem zcl_b (h : zM) (i : Int) : ∀ k, zcl h i k = -1 ∨ 0 ≤ zcl h i k ∧ zcl h i k ≤ 30
  | 0 => Or.inr ⟨Int.le_refl _, show (0 : Int) ≤ 30 by decide⟩
  | k + 1 => by
    by_cases c : zcl h i k = -1
    · rw [zcl, if_pos c]; exact Or.inl rfl
    · rw [zcl_s c]
      rcases zdF_b (b := zbF h i (zdy h (k : Int))) 30 ((zcl h i k).toNat % 30 + 1) (by omega) (by omega) with e | e
      · exact Or.inl e
      · exact Or.inr ⟨by omega, e.2.1⟩
theorem zcl_m {h : zM} {i : Int} {k : Nat} (c : zcl h i k = -1) : ∀ {m}, k ≤ m → zcl h i m = -1
  | 0, e => by rw [← show k = 0 by omega]; exact c
  | m + 1, e => by
    by_cases c2 : k = m + 1
    · rw [← c2]; exact c
    · rw [zcl, if_pos (zcl_m c (m := m) (by omega))]
def zvCal (h : zM) (i k : Int) : Int := if (0 ≤ i ∧ i < h 89 22) ∧ (0 ≤ k ∧ k ≤ 60) then zcl h i (k.toNat + 1) else -1
def zeqn (h : zM) (a b : Int) : Nat → Int
  | 0 => 0
  | k + 1 => zeqn h a b k + (if zcl h a (k + 1) = zcl h b (k + 1) then 1 else 0)
theorem zeq_b (h : zM) (a b : Int) : ∀ k : Nat, 0 ≤ zeqn h a b k ∧ zeqn h a b k ≤ (k : Int)
  | 0 => ⟨Int.le_refl _, Int.le_refl _⟩
  | k + 1 => by
    have := zeq_b h a b k
    unfold zeqn; split <;> omega
theorem zeq_y {h : zM} {a b : Int} {k : Nat} (c : zcl h a (k + 1) = zcl h b (k + 1)) : zeqn h a b (k + 1) = zeqn h a b k + 1 := by rw [zeqn, if_pos c]
theorem zeq_n {h : zM} {a b : Int} {k : Nat} (c : zcl h a (k + 1) ≠ zcl h b (k + 1)) : zeqn h a b (k + 1) = zeqn h a b k := by rw [zeqn, if_neg c, Int.add_zero]
def zvTwins (h : zM) (a b k : Int) : Int := if ((0 ≤ a ∧ a < h 89 22) ∧ (0 ≤ b ∧ b < h 89 22)) ∧ a ≠ b ∧ (0 ≤ k ∧ k ≤ 60) then (if zcl h a (k.toNat + 1) = -1 ∨ zcl h b (k.toNat + 1) = -1 then -1 else zeqn h a b (k.toNat + 1)) else -1
set_option maxRecDepth 4000 in
theorem X7_dateBehind_ct {l : Launch} {Γ : zC} {h0 h : zM} {Q : Option zV → zC → zM → Prop} {i k last : Int} (hI : zIv Γ h0) (hF : zfr zSS h0 h) (hO : h0 89 30 = -1) (hv : 0 ≤ i ∧ i < h0 89 22) (hk : 0 ≤ k ∧ k ≤ 60) (hl : 0 ≤ last ∧ last ≤ 30) (hQ : ∀ h9, zfr zSS h0 h9 → Q (some (zI (zdF (zbF h0 i (zdy h0 k)) 30 (last.toNat % 30 + 1)))) Γ h9) : zCT l mX7_dateBehind 4 0 0 Γ [zR 15, zI i, zI k, zI last] h Q := by
  have hΓ := hI.base
  have hx2 := hI.isl
  have hnw := hI.now
  refine zCT_of (by decide) (Nat.le_of_ble_eq_true rfl) (ls := [some (zR 15), some (zI i), some (zI k), some (zI last), none]) rfl ?_
  refine z_bipush (x := 99) dX7_dateBehind_0 (by rfl) (by decide) ?_
  refine z_al0 dX7_dateBehind_2 (by first | decide | omega | assumption) ?_
  refine z_getR zfX7_21 dX7_dateBehind_3 (zkB hΓ rfl) rfl (zsB hΓ rfl) (zvB hΓ (by decide)) ?_
  refine z_getI zfX7_73 dX7_dateBehind_6 (zkB hΓ rfl) rfl ?_
  rw [hF 25 0 rfl, hI.now.1]
  try simp only [zup_ap, zup_row, ne_eq, not_false_eq_true, zres, Int.toNat_natCast, reduceIte, Nat.reduceEqDiff, Nat.reduceAdd, and_self, and_true, true_and, and_false, false_and]
  refine z_il2 dX7_dateBehind_9 ?_
  refine z_iadd dX7_dateBehind_10 (by omega) ?_
  refine z_mmin dX7_dateBehind_11 zkX7_103 ztJ9_min_7cf53 (Nat.le_of_ble_eq_true rfl) (by first | decide | omega) ⟨Nat.le_refl _, Nat.le_refl _⟩ ?_
  rw [show (if h0 89 29 + k < (99 : Int) then h0 89 29 + k else (99 : Int)) = zdy h0 k from rfl]
  refine z_is4 dX7_dateBehind_14 (Nat.le_of_ble_eq_true rfl) rfl ?_
  refine z_al0 dX7_dateBehind_16 (by first | decide | omega | assumption) ?_
  refine z_il1 dX7_dateBehind_17 ?_
  refine z_il4 dX7_dateBehind_18 ?_
  refine z_il3 dX7_dateBehind_20 ?_
  refine z_bipush (x := 30) dX7_dateBehind_21 (by rfl) (by decide) ?_
  refine z_iremp dX7_dateBehind_23 (by omega) (by omega) ?_
  refine z_iconst dX7_dateBehind_24 (by decide) ?_
  refine z_iadd dX7_dateBehind_25 (by omega) ?_
  rw [show last % 30 + 1 = ((last.toNat % 30 + 1 : Nat) : Int) by omega]
  refine zcv3 dX7_dateBehind_26 zkX7_108 ziX7_dateFrom zsX7_dateFrom (zkB hΓ rfl) (by decide) rfl (Nat.le_of_ble_eq_true rfl) (by decide) (by first | decide | omega) ⟨Nat.le_refl _, Nat.le_refl _⟩ (X7_dateFrom_ct (f := last.toNat % 30 + 1) hI hF hO hv (by omega) (fun h2 hF2 _ => ?_))
  try simp only [zup_ap, zup_row, ne_eq, not_false_eq_true, zres, Int.toNat_natCast, reduceIte, Nat.reduceEqDiff, Nat.reduceAdd, and_self, and_true, true_and, and_false, false_and]
  refine z_iret dX7_dateBehind_29 rfl (Nat.le_refl _) (Nat.le_refl _) (zext_rf _) (fun hrr => ?_)
  exact hQ _ hF2
set_option maxRecDepth 4000 in
theorem X8_cal_l {l : Launch} {Γ : zC} {h0 : zM} {Q : Option zV → zC → zM → Prop} {i : Int} {K : Nat} (hI : zIv Γ h0) (hO : h0 89 30 = -1) (hv : 0 ≤ i ∧ i < h0 89 22) (hK9 : K ≤ 60) (hQ : ∀ h9, zfr zSS h0 h9 → Q (some (zI (zcl h0 i (K + 1)))) Γ h9) : ∀ (m : Nat) (k : Nat) (h : zM), K + 1 - k < m → k ≤ K + 1 → zfr zSS h0 h → zcl h0 i k ≠ -1 → zG (zFn l mX8_calendar 5 0 0 Γ Q) 0 0 Γ h 28 [some (zR 1), some (zI i), some (zI (K : Int)), some (zI (zcl h0 i k)), some (zI (k : Int))] [] := by
  have hΓ := hI.base
  have hx2 := hI.isl
  intro m
  induction m with
  | zero => intros; omega
  | succ m ih =>
    intro k h hm hk hF hc
    have hcb := zcl_b h0 i k
    refine z_il4 dX8_calendar_28 ?_
    refine z_il2 dX8_calendar_30 ?_
    refine z_icmp_gt (t := 59) dX8_calendar_31 (by rfl) (fun ht31 => ?_) (fun hf31 => ?_)
    · refine z_il3 dX8_calendar_59 ?_
      refine z_iret dX8_calendar_60 rfl (Nat.le_refl _) (Nat.le_refl _) (zext_rf _) (fun hrr => ?_)
      rw [show k = K + 1 by omega]
      exact hQ _ hF
    · refine z_al0 dX8_calendar_34 (by first | decide | omega | assumption) ?_
      refine z_getR zfX8_35 dX8_calendar_35 (zkB hΓ rfl) rfl (zsB hΓ rfl) (zvB hΓ (by decide)) ?_
      refine z_il1 dX8_calendar_38 ?_
      refine z_il4 dX8_calendar_39 ?_
      refine z_il3 dX8_calendar_41 ?_
      refine zcv3 dX8_calendar_42 zkX8_296 ziX7_dateBehind zsX7_dateBehind (zkB hΓ rfl) (by decide) rfl (Nat.le_of_ble_eq_true rfl) (by decide) (by first | decide | omega) ⟨Nat.le_refl _, Nat.le_refl _⟩ (X7_dateBehind_ct hI hF hO hv (by omega) (by omega) (fun h2 hF2 _ => ?_))
      try simp only [zup_ap, zup_row, ne_eq, not_false_eq_true, zres, Int.toNat_natCast, reduceIte, Nat.reduceEqDiff, Nat.reduceAdd, and_self, and_true, true_and, and_false, false_and]
      rw [← zcl_s hc]
      refine z_is3 dX8_calendar_45 (Nat.le_of_ble_eq_true rfl) rfl ?_
      refine z_il3 dX8_calendar_46 ?_
      refine z_iconst dX8_calendar_47 (by decide) ?_
      refine z_icmp_ne (t := 53) dX8_calendar_48 (by rfl) (fun ht48 => ?_) (fun hf48 => ?_)
      · refine z_ii4 dX8_calendar_53 (by omega) (Nat.le_of_ble_eq_true rfl) rfl ?_
        refine z_goto (t := 28) dX8_calendar_56 (by rfl) ?_
        exact ih (k + 1) _ (by omega) (by omega) hF2 (by omega)
      · refine z_iconst dX8_calendar_51 (by decide) ?_
        refine z_iret dX8_calendar_52 rfl (Nat.le_refl _) (Nat.le_refl _) (zext_rf _) (fun hrr => ?_)
        have hw9 := hQ _ hF2
        rw [zcl_m (k := k + 1) (by omega) (by omega)] at hw9
        exact hw9
set_option maxRecDepth 4000 in
theorem X8_calendar_ct {l : Launch} {Γ : zC} {h0 h : zM} {Q : Option zV → zC → zM → Prop} {i k : Int} (hI : zIv Γ h0) (hF : zfr zSS h0 h) (hO : h0 89 30 = -1) (hQ : ∀ h9, zfr zSS h0 h9 → Q (some (zI (zvCal h0 i k))) Γ h9) : zCT l mX8_calendar 5 0 0 Γ [zR 1, zI i, zI k] h Q := by
  have hΓ := hI.base
  have hx2 := hI.isl
  refine zCT_of (by decide) (Nat.le_of_ble_eq_true rfl) (ls := [some (zR 1), some (zI i), some (zI k), none, none]) rfl ?_
  refine z_al0 dX8_calendar_0 (by first | decide | omega | assumption) ?_
  refine z_getR zfX8_35 dX8_calendar_1 (zkB hΓ rfl) rfl (zsB hΓ rfl) (zvB hΓ (by decide)) ?_
  refine z_il1 dX8_calendar_4 ?_
  refine zcv1 dX8_calendar_5 zkX8_114 ziX7_isIsle zsX7_isIsle (zkB hΓ rfl) (by decide) rfl (Nat.le_of_ble_eq_true rfl) (by decide) (by first | decide | omega) ⟨Nat.le_refl _, Nat.le_refl _⟩ (X7_isIsle_ct hI hF (fun hg1 _ => ?_) (fun hg1 _ => ?_))
  · try simp only [zup_ap, zup_row, ne_eq, not_false_eq_true, zres, Int.toNat_natCast, reduceIte, Nat.reduceEqDiff, Nat.reduceAdd, and_self, and_true, true_and, and_false, false_and]
    refine z_if_eq (t := 21) dX8_calendar_8 (by rfl) (fun _ => ?_) (fun hx => absurd hx (by decide))
    refine z_iconst dX8_calendar_21 (by decide) ?_
    refine z_iret dX8_calendar_22 rfl (Nat.le_refl _) (Nat.le_refl _) (zext_rf _) (fun hrr => ?_)
    have hw9 := hQ _ hF
    unfold zvCal at hw9
    rw [if_neg (by omega)] at hw9
    exact hw9
  · try simp only [zup_ap, zup_row, ne_eq, not_false_eq_true, zres, Int.toNat_natCast, reduceIte, Nat.reduceEqDiff, Nat.reduceAdd, and_self, and_true, true_and, and_false, false_and]
    refine z_if_eq (t := 21) dX8_calendar_8 (by rfl) (fun hx => absurd hx (by decide)) (fun _ => ?_)
    refine z_il2 dX8_calendar_11 ?_
    refine z_if_lt (t := 21) dX8_calendar_12 (by rfl) (fun ht12 => ?_) (fun hf12 => ?_)
    · refine z_iconst dX8_calendar_21 (by decide) ?_
      refine z_iret dX8_calendar_22 rfl (Nat.le_refl _) (Nat.le_refl _) (zext_rf _) (fun hrr => ?_)
      have hw9 := hQ _ hF
      unfold zvCal at hw9
      rw [if_neg (by omega)] at hw9
      exact hw9
    · refine z_il2 dX8_calendar_15 ?_
      refine z_bipush (x := 60) dX8_calendar_16 (by rfl) (by decide) ?_
      refine z_icmp_le (t := 23) dX8_calendar_18 (by rfl) (fun ht18 => ?_) (fun hf18 => ?_)
      · refine z_iconst dX8_calendar_23 (by decide) ?_
        refine z_is3 dX8_calendar_24 (Nat.le_of_ble_eq_true rfl) rfl ?_
        refine z_iconst dX8_calendar_25 (by decide) ?_
        refine z_is4 dX8_calendar_26 (Nat.le_of_ble_eq_true rfl) rfl ?_
        obtain ⟨k, rfl⟩ := Int.eq_ofNat_of_zero_le (show 0 ≤ k by omega)
        unfold zvCal at hQ
        rw [if_pos (by omega), Int.toNat_natCast] at hQ
        exact X8_cal_l hI hO hg1 (by omega) hQ _ 0 _ (Nat.lt_succ_self _) (by omega) hF (show (0 : Int) ≠ -1 by decide)
      · refine z_iconst dX8_calendar_21 (by decide) ?_
        refine z_iret dX8_calendar_22 rfl (Nat.le_refl _) (Nat.le_refl _) (zext_rf _) (fun hrr => ?_)
        have hw9 := hQ _ hF
        unfold zvCal at hw9
        rw [if_neg (by omega)] at hw9
        exact hw9
set_option maxRecDepth 4000 in
theorem X8_twins_l {l : Launch} {Γ : zC} {h0 : zM} {Q : Option zV → zC → zM → Prop} {a b : Int} {K : Nat} (hI : zIv Γ h0) (hO : h0 89 30 = -1) (hva : 0 ≤ a ∧ a < h0 89 22) (hvb : 0 ≤ b ∧ b < h0 89 22) (hK9 : K ≤ 60) (hQ : ∀ h9, zfr zSS h0 h9 → Q (some (zI (if zcl h0 a (K + 1) = -1 ∨ zcl h0 b (K + 1) = -1 then -1 else zeqn h0 a b (K + 1)))) Γ h9) : ∀ (m : Nat) (k : Nat) (h : zM), K + 1 - k < m → k ≤ K + 1 → zfr zSS h0 h → zcl h0 a k ≠ -1 → zcl h0 b k ≠ -1 → zG (zFn l mX8_twins 5 0 0 Γ Q) 0 0 Γ h 51 [some (zR 1), some (zI a), some (zI b), some (zI (K : Int)), some (zI (zeqn h0 a b k)), some (zI (zcl h0 a k)), some (zI (zcl h0 b k)), some (zI (k : Int))] [] := by
  have hΓ := hI.base
  have hx2 := hI.isl
  intro m
  induction m with
  | zero => intros; omega
  | succ m ih =>
    intro k h hm hk hF hca hcb
    have hb1 := zcl_b h0 a k
    have hb2 := zcl_b h0 b k
    have hb3 := zeq_b h0 a b k
    refine z_il7 dX8_twins_51 ?_
    refine z_il3 dX8_twins_53 ?_
    refine z_icmp_gt (t := 115) dX8_twins_54 (by rfl) (fun ht54 => ?_) (fun hf54 => ?_)
    · refine z_il4 dX8_twins_115 ?_
      refine z_iret dX8_twins_117 rfl (Nat.le_refl _) (Nat.le_refl _) (zext_rf _) (fun hrr => ?_)
      have ek : k = K + 1 := by omega
      subst ek
      have hw9 := hQ _ hF
      rw [if_neg (by omega)] at hw9
      exact hw9
    · refine z_al0 dX8_twins_57 (by first | decide | omega | assumption) ?_
      refine z_getR zfX8_35 dX8_twins_58 (zkB hΓ rfl) rfl (zsB hΓ rfl) (zvB hΓ (by decide)) ?_
      refine z_il1 dX8_twins_61 ?_
      refine z_il7 dX8_twins_62 ?_
      refine z_il5 dX8_twins_64 ?_
      refine zcv3 dX8_twins_66 zkX8_296 ziX7_dateBehind zsX7_dateBehind (zkB hΓ rfl) (by decide) rfl (Nat.le_of_ble_eq_true rfl) (by decide) (by first | decide | omega) ⟨Nat.le_refl _, Nat.le_refl _⟩ (X7_dateBehind_ct hI hF hO hva (by omega) (by omega) (fun h2 hF2 _ => ?_))
      try simp only [zup_ap, zup_row, ne_eq, not_false_eq_true, zres, Int.toNat_natCast, reduceIte, Nat.reduceEqDiff, Nat.reduceAdd, and_self, and_true, true_and, and_false, false_and]
      rw [← zcl_s hca]
      refine z_is5 dX8_twins_69 (Nat.le_of_ble_eq_true rfl) rfl ?_
      refine z_al0 dX8_twins_71 (by first | decide | omega | assumption) ?_
      refine z_getR zfX8_35 dX8_twins_72 (zkB hΓ rfl) rfl (zsB hΓ rfl) (zvB hΓ (by decide)) ?_
      refine z_il2 dX8_twins_75 ?_
      refine z_il7 dX8_twins_76 ?_
      refine z_il6 dX8_twins_78 ?_
      refine zcv3 dX8_twins_80 zkX8_296 ziX7_dateBehind zsX7_dateBehind (zkB hΓ rfl) (by decide) rfl (Nat.le_of_ble_eq_true rfl) (by decide) (by first | decide | omega) ⟨Nat.le_refl _, Nat.le_refl _⟩ (X7_dateBehind_ct hI hF2 hO hvb (by omega) (by omega) (fun h3 hF3 _ => ?_))
      try simp only [zup_ap, zup_row, ne_eq, not_false_eq_true, zres, Int.toNat_natCast, reduceIte, Nat.reduceEqDiff, Nat.reduceAdd, and_self, and_true, true_and, and_false, false_and]
      rw [← zcl_s hcb]
      refine z_is6 dX8_twins_83 (Nat.le_of_ble_eq_true rfl) rfl ?_
      refine z_il5 dX8_twins_85 ?_
      refine z_iconst dX8_twins_87 (by decide) ?_
      refine z_icmp_eq (t := 97) dX8_twins_88 (by rfl) (fun ht88 => ?_) (fun hf88 => ?_)
      · refine z_iconst dX8_twins_97 (by decide) ?_
        refine z_iret dX8_twins_98 rfl (Nat.le_refl _) (Nat.le_refl _) (zext_rf _) (fun hrr => ?_)
        have hw9 := hQ _ hF3
        rw [if_pos (by
          by_cases ea : zcl h0 a (k + 1) = -1
          · exact Or.inl (zcl_m ea (by omega))
          · exact Or.inr (zcl_m (k := k + 1) (by omega) (by omega)))] at hw9
        exact hw9
      · refine z_il6 dX8_twins_91 ?_
        refine z_iconst dX8_twins_93 (by decide) ?_
        refine z_icmp_ne (t := 99) dX8_twins_94 (by rfl) (fun ht94 => ?_) (fun hf94 => ?_)
        · refine z_il5 dX8_twins_99 ?_
          refine z_il6 dX8_twins_101 ?_
          refine z_icmp_ne (t := 109) dX8_twins_103 (by rfl) (fun ht103 => ?_) (fun hf103 => ?_)
          · refine z_ii7 dX8_twins_109 (by omega) (Nat.le_of_ble_eq_true rfl) rfl ?_
            refine z_goto (t := 51) dX8_twins_112 (by rfl) ?_
            first
            | (have e9 := ih (k + 1) _ (by omega) (by omega) hF3 (by omega) (by omega)
               rw [zeq_y (by omega)] at e9; exact e9)
            | (have e9 := ih (k + 1) _ (by omega) (by omega) hF3 (by omega) (by omega)
               rw [zeq_n (by omega)] at e9; exact e9)
          · refine z_ii4 dX8_twins_106 (by omega) (Nat.le_of_ble_eq_true rfl) rfl ?_
            refine z_ii7 dX8_twins_109 (by omega) (Nat.le_of_ble_eq_true rfl) rfl ?_
            refine z_goto (t := 51) dX8_twins_112 (by rfl) ?_
            first
            | (have e9 := ih (k + 1) _ (by omega) (by omega) hF3 (by omega) (by omega)
               rw [zeq_y (by omega)] at e9; exact e9)
            | (have e9 := ih (k + 1) _ (by omega) (by omega) hF3 (by omega) (by omega)
               rw [zeq_n (by omega)] at e9; exact e9)
        · refine z_iconst dX8_twins_97 (by decide) ?_
          refine z_iret dX8_twins_98 rfl (Nat.le_refl _) (Nat.le_refl _) (zext_rf _) (fun hrr => ?_)
          have hw9 := hQ _ hF3
          rw [if_pos (by
            by_cases ea : zcl h0 a (k + 1) = -1
            · exact Or.inl (zcl_m ea (by omega))
            · exact Or.inr (zcl_m (k := k + 1) (by omega) (by omega)))] at hw9
          exact hw9
set_option maxRecDepth 4000 in
theorem X8_twins_ct {l : Launch} {Γ : zC} {h0 h : zM} {Q : Option zV → zC → zM → Prop} {a b k : Int} (hI : zIv Γ h0) (hF : zfr zSS h0 h) (hO : h0 89 30 = -1) (hQ : ∀ h9, zfr zSS h0 h9 → Q (some (zI (zvTwins h0 a b k))) Γ h9) : zCT l mX8_twins 5 0 0 Γ [zR 1, zI a, zI b, zI k] h Q := by
  have hΓ := hI.base
  have hx2 := hI.isl
  refine zCT_of (by decide) (Nat.le_of_ble_eq_true rfl) (ls := [some (zR 1), some (zI a), some (zI b), some (zI k), none, none, none, none]) rfl ?_
  refine z_al0 dX8_twins_0 (by first | decide | omega | assumption) ?_
  refine z_getR zfX8_35 dX8_twins_1 (zkB hΓ rfl) rfl (zsB hΓ rfl) (zvB hΓ (by decide)) ?_
  refine z_il1 dX8_twins_4 ?_
  refine zcv1 dX8_twins_5 zkX8_114 ziX7_isIsle zsX7_isIsle (zkB hΓ rfl) (by decide) rfl (Nat.le_of_ble_eq_true rfl) (by decide) (by first | decide | omega) ⟨Nat.le_refl _, Nat.le_refl _⟩ (X7_isIsle_ct hI hF (fun hg1 _ => ?_) (fun hg1 _ => ?_))
  · try simp only [zup_ap, zup_row, ne_eq, not_false_eq_true, zres, Int.toNat_natCast, reduceIte, Nat.reduceEqDiff, Nat.reduceAdd, and_self, and_true, true_and, and_false, false_and]
    refine z_if_eq (t := 37) dX8_twins_8 (by rfl) (fun _ => ?_) (fun hx => absurd hx (by decide))
    refine z_iconst dX8_twins_37 (by decide) ?_
    refine z_iret dX8_twins_38 rfl (Nat.le_refl _) (Nat.le_refl _) (zext_rf _) (fun hrr => ?_)
    have hw9 := hQ _ hF
    unfold zvTwins at hw9
    rw [if_neg (by omega)] at hw9
    exact hw9
  · try simp only [zup_ap, zup_row, ne_eq, not_false_eq_true, zres, Int.toNat_natCast, reduceIte, Nat.reduceEqDiff, Nat.reduceAdd, and_self, and_true, true_and, and_false, false_and]
    refine z_if_eq (t := 37) dX8_twins_8 (by rfl) (fun hx => absurd hx (by decide)) (fun _ => ?_)
    refine z_al0 dX8_twins_11 (by first | decide | omega | assumption) ?_
    refine z_getR zfX8_35 dX8_twins_12 (zkB hΓ rfl) rfl (zsB hΓ rfl) (zvB hΓ (by decide)) ?_
    refine z_il2 dX8_twins_15 ?_
    refine zcv1 dX8_twins_16 zkX8_114 ziX7_isIsle zsX7_isIsle (zkB hΓ rfl) (by decide) rfl (Nat.le_of_ble_eq_true rfl) (by decide) (by first | decide | omega) ⟨Nat.le_refl _, Nat.le_refl _⟩ (X7_isIsle_ct hI hF (fun hg2 _ => ?_) (fun hg2 _ => ?_))
    · try simp only [zup_ap, zup_row, ne_eq, not_false_eq_true, zres, Int.toNat_natCast, reduceIte, Nat.reduceEqDiff, Nat.reduceAdd, and_self, and_true, true_and, and_false, false_and]
      refine z_if_eq (t := 37) dX8_twins_19 (by rfl) (fun _ => ?_) (fun hx => absurd hx (by decide))
      refine z_iconst dX8_twins_37 (by decide) ?_
      refine z_iret dX8_twins_38 rfl (Nat.le_refl _) (Nat.le_refl _) (zext_rf _) (fun hrr => ?_)
      have hw9 := hQ _ hF
      unfold zvTwins at hw9
      rw [if_neg (by omega)] at hw9
      exact hw9
    · try simp only [zup_ap, zup_row, ne_eq, not_false_eq_true, zres, Int.toNat_natCast, reduceIte, Nat.reduceEqDiff, Nat.reduceAdd, and_self, and_true, true_and, and_false, false_and]
      refine z_if_eq (t := 37) dX8_twins_19 (by rfl) (fun hx => absurd hx (by decide)) (fun _ => ?_)
      refine z_il1 dX8_twins_22 ?_
      refine z_il2 dX8_twins_23 ?_
      refine z_icmp_eq (t := 37) dX8_twins_24 (by rfl) (fun ht24 => ?_) (fun hf24 => ?_)
      · refine z_iconst dX8_twins_37 (by decide) ?_
        refine z_iret dX8_twins_38 rfl (Nat.le_refl _) (Nat.le_refl _) (zext_rf _) (fun hrr => ?_)
        have hw9 := hQ _ hF
        unfold zvTwins at hw9
        rw [if_neg (by omega)] at hw9
        exact hw9
      · refine z_il3 dX8_twins_27 ?_
        refine z_if_lt (t := 37) dX8_twins_28 (by rfl) (fun ht28 => ?_) (fun hf28 => ?_)
        · refine z_iconst dX8_twins_37 (by decide) ?_
          refine z_iret dX8_twins_38 rfl (Nat.le_refl _) (Nat.le_refl _) (zext_rf _) (fun hrr => ?_)
          have hw9 := hQ _ hF
          unfold zvTwins at hw9
          rw [if_neg (by omega)] at hw9
          exact hw9
        · refine z_il3 dX8_twins_31 ?_
          refine z_bipush (x := 60) dX8_twins_32 (by rfl) (by decide) ?_
          refine z_icmp_le (t := 39) dX8_twins_34 (by rfl) (fun ht34 => ?_) (fun hf34 => ?_)
          · refine z_iconst dX8_twins_39 (by decide) ?_
            refine z_is4 dX8_twins_40 (Nat.le_of_ble_eq_true rfl) rfl ?_
            refine z_iconst dX8_twins_42 (by decide) ?_
            refine z_is5 dX8_twins_43 (Nat.le_of_ble_eq_true rfl) rfl ?_
            refine z_iconst dX8_twins_45 (by decide) ?_
            refine z_is6 dX8_twins_46 (Nat.le_of_ble_eq_true rfl) rfl ?_
            refine z_iconst dX8_twins_48 (by decide) ?_
            refine z_is7 dX8_twins_49 (Nat.le_of_ble_eq_true rfl) rfl ?_
            obtain ⟨k, rfl⟩ := Int.eq_ofNat_of_zero_le (show 0 ≤ k by omega)
            unfold zvTwins at hQ
            rw [if_pos (by omega), Int.toNat_natCast] at hQ
            exact X8_twins_l hI hO hg1 hg2 (by omega) hQ _ 0 _ (Nat.lt_succ_self _) (by omega) hF (show (0 : Int) ≠ -1 by decide) (show (0 : Int) ≠ -1 by decide)
          · refine z_iconst dX8_twins_37 (by decide) ?_
            refine z_iret dX8_twins_38 rfl (Nat.le_refl _) (Nat.le_refl _) (zext_rf _) (fun hrr => ?_)
            have hw9 := hQ _ hF
            unfold zvTwins at hw9
            rw [if_neg (by omega)] at hw9
            exact hw9
set_option maxRecDepth 4000 in
theorem X9_lD_s {l : Launch} {Γ : zC} {h0 h1 : zM} {Q : Option zV → zC → zM → Prop} {i dy V : Int} {K d q : Nat} (hI : zIv Γ h0) (hF1 : zfr zSS h0 h1) (hv : 0 ≤ i ∧ i < h0 89 22) (hK : ∀ (x : Nat) (y : Int) (h9 : zM), (1 ≤ x ∧ x ≤ 30) → zfM h1 h9 → (zbF h0 i dy x = 0 ∧ V = (x : Int) ∨ zbF h0 i dy x ≠ 0 ∧ V = -1) → zG (zFn l mX9_layDates 1682 0 0 Γ Q) 0 0 Γ h9 60 [some (zR 89), some (zI i), some (zI (K : Int)), some (zR q), some (zI (x : Int)), some (zI (d : Int)), some (zI dy), some (zI y)] []) : ∀ (m : Nat) (x t : Nat) (h : zM), 30 - t < m → t < 30 → zfM h1 h → zdF (zbF h0 i dy) (30 - t) (x % 30 + 1) = V → zG (zFn l mX9_layDates 1682 0 0 Γ Q) 0 0 Γ h 29 [some (zR 89), some (zI i), some (zI (K : Int)), some (zR q), some (zI (x : Int)), some (zI (d : Int)), some (zI dy), some (zI (t : Int))] [] := by
  have hΓ := hI.base
  have hx2 := hI.isl
  intro m
  induction m with
  | zero => intros; omega
  | succ m ih =>
    intro x t h hm ht hE hV
    have hF := zfr_M hF1 hE
    refine z_il4 dX9_layDates_29 ?_
    refine z_bipush (x := 30) dX9_layDates_31 (by rfl) (by decide) ?_
    refine z_iremp dX9_layDates_33 (by omega) (by omega) ?_
    refine z_iconst dX9_layDates_34 (by decide) ?_
    refine z_iadd dX9_layDates_35 (by omega) ?_
    rw [show (x : Int) % 30 + 1 = ((x % 30 + 1 : Nat) : Int) by omega]
    have hVs := hV
    rw [show 30 - t = (30 - (t + 1)) + 1 by omega] at hVs
    refine z_is4 dX9_layDates_36 (Nat.le_of_ble_eq_true rfl) rfl ?_
    refine z_ii7 dX9_layDates_38 (by omega) (Nat.le_of_ble_eq_true rfl) rfl ?_
    refine z_il7 dX9_layDates_41 ?_
    refine z_bipush (x := 30) dX9_layDates_43 (by rfl) (by decide) ?_
    refine z_icmp_ge (t := 60) dX9_layDates_45 (by rfl) (fun ht45 => ?_) (fun hf45 => ?_)
    · first
      | (rw [zdF_y (by show zFo _ _ _ _ = 0; omega)] at hVs
         exact hK (x % 30 + 1) _ _ (by omega) (zfM_tr hE hM9) (Or.inl ⟨by show zFo _ _ _ _ = 0; omega, hVs.symm⟩))
      | (rw [show 30 - (t + 1) = 0 by omega] at hVs
         refine hK (x % 30 + 1) _ _ (by omega) hE ?_
         by_cases e : zbF h0 i dy (x % 30 + 1) = 0
         · rw [zdF_y e] at hVs; exact Or.inl ⟨e, hVs.symm⟩
         · rw [zdF_n e] at hVs; exact Or.inr ⟨e, hVs.symm⟩)
    · refine z_al0 dX9_layDates_48 (by first | decide | omega | assumption) ?_
      refine z_il1 dX9_layDates_49 ?_
      refine z_il4 dX9_layDates_50 ?_
      refine z_il6 dX9_layDates_52 ?_
      refine zcv3 dX9_layDates_54 zkX9_311 ziX9_isForbidden zsX9_isForbidden (zkB hΓ rfl) (by decide) rfl (Nat.le_of_ble_eq_true rfl) (by decide) (by first | decide | omega) ⟨Nat.le_refl _, Nat.le_refl _⟩ (X9_isForbidden_ct hI hF hv (by omega) (fun h9 hM9 _ => ?_))
      try simp only [zup_ap, zup_row, ne_eq, not_false_eq_true, zres, Int.toNat_natCast, reduceIte, Nat.reduceEqDiff, Nat.reduceAdd, and_self, and_true, true_and, and_false, false_and]
      refine z_if_ne (t := 29) dX9_layDates_57 (by rfl) (fun ht57 => ?_) (fun hf57 => ?_)
      · rw [zdF_n (by show zFo _ _ _ _ ≠ 0; omega)] at hVs
        exact ih (x % 30 + 1) (t + 1) _ (by omega) (by omega) (zfM_tr hE hM9) hVs
      · first
        | (rw [zdF_y (by show zFo _ _ _ _ = 0; omega)] at hVs
           exact hK (x % 30 + 1) _ _ (by omega) (zfM_tr hE hM9) (Or.inl ⟨by show zFo _ _ _ _ = 0; omega, hVs.symm⟩))
        | (rw [show 30 - (t + 1) = 0 by omega] at hVs
           refine hK (x % 30 + 1) _ _ (by omega) hE ?_
           by_cases e : zbF h0 i dy (x % 30 + 1) = 0
           · rw [zdF_y e] at hVs; exact Or.inl ⟨e, hVs.symm⟩
           · rw [zdF_n e] at hVs; exact Or.inr ⟨e, hVs.symm⟩)
set_option maxRecDepth 4000 in
theorem X9_lD_d {l : Launch} {Γ : zC} {h0 h1 : zM} {Q : Option zV → zC → zM → Prop} {i : Int} {K q : Nat} (hI : zIv Γ h0) (hF1 : zfr zSS h0 h1) (hv : 0 ≤ i ∧ i < h0 89 22) (hq : q ≠ 0 ∧ q ≠ 89 ∧ q ≠ 93) (hqk : zkd Γ q = some (.inr (0, 61))) (hqs : ∀ j, zSS q j = true) (hK9 : K ≤ 60) (hQ0 : zcl h0 i (K + 1) = -1 → ∀ h9, zfB q h1 h9 → Q (some (zI 0)) Γ h9) (hQ1 : zcl h0 i (K + 1) ≠ -1 → ∀ h9, zfB q h1 h9 → (∀ j, j < K + 1 → h9 q j = zcl h0 i (j + 1)) → Q (some (zI 1)) Γ h9) : ∀ (m : Nat) (d : Nat) (x6 x7 : Option zV) (h : zM), K + 1 - d < m → d ≤ K + 1 → zfB q h1 h → zcl h0 i d ≠ -1 → (∀ j, j < d → h q j = zcl h0 i (j + 1)) → zG (zFn l mX9_layDates 1682 0 0 Γ Q) 0 0 Γ h 6 [some (zR 89), some (zI i), some (zI (K : Int)), some (zR q), some (zI (zcl h0 i d)), some (zI (d : Int)), x6, x7] [] := by
  have hΓ := hI.base
  have hx2 := hI.isl
  intro m
  induction m with
  | zero => intros; omega
  | succ m ih =>
    intro d x6 x7 h hm hd hE hc hD
    have hF := zfr_B hF1 hqs hE
    have hnw := hI.now
    refine z_il5 dX9_layDates_6 ?_
    refine z_il2 dX9_layDates_8 ?_
    refine z_icmp_gt (t := 86) dX9_layDates_9 (by rfl) (fun ht9 => ?_) (fun hf9 => ?_)
    · refine z_iconst dX9_layDates_86 (by decide) ?_
      refine z_zret dX9_layDates_87 rfl (Nat.le_refl _) (Nat.le_refl _) (zext_rf _) (by exact Or.inr rfl) ?_
      have ed : d = K + 1 := by omega
      subst ed
      exact hQ1 hc _ hE hD
    · refine z_bipush (x := 99) dX9_layDates_12 (by rfl) (by decide) ?_
      refine z_al0 dX9_layDates_14 (by first | decide | omega | assumption) ?_
      refine z_getI zfX9_288 dX9_layDates_15 (zkB hΓ rfl) rfl ?_
      rw [hF 89 29 rfl]
      try simp only [zup_ap, zup_row, ne_eq, not_false_eq_true, zres, Int.toNat_natCast, reduceIte, Nat.reduceEqDiff, Nat.reduceAdd, and_self, and_true, true_and, and_false, false_and]
      refine z_il5 dX9_layDates_18 ?_
      refine z_iadd dX9_layDates_20 (by omega) ?_
      refine z_mmin dX9_layDates_21 zkX9_347 ztJ9_min_7cf53 (Nat.le_of_ble_eq_true rfl) (by first | decide | omega) ⟨Nat.le_refl _, Nat.le_refl _⟩ ?_
      rw [show (if h0 89 29 + (d : Int) < (99 : Int) then h0 89 29 + (d : Int) else (99 : Int)) = zdy h0 (d : Int) from rfl]
      refine z_is6 dX9_layDates_24 (Nat.le_of_ble_eq_true rfl) rfl ?_
      refine z_iconst dX9_layDates_26 (by decide) ?_
      refine z_is7 dX9_layDates_27 (Nat.le_of_ble_eq_true rfl) rfl ?_
      have hcb := zcl_b h0 i d
      obtain ⟨x, hx⟩ := Int.eq_ofNat_of_zero_le (show 0 ≤ zcl h0 i d by omega)
      rw [hx]
      refine X9_lD_s (V := zcl h0 i (d + 1)) hI hF hv (fun x9 y9 h2 hx9 hM2 hV2 => ?_) _ x 0 _ (Nat.lt_succ_self _) (by omega) (zfM_rf _) (by rw [zcl_s hc, hx, Int.toNat_natCast])
      replace hF := zfr_M hF hM2
      refine z_al0 dX9_layDates_60 (by first | decide | omega | assumption) ?_
      refine z_il1 dX9_layDates_61 ?_
      refine z_il4 dX9_layDates_62 ?_
      refine z_il6 dX9_layDates_64 ?_
      refine zcv3 dX9_layDates_66 zkX9_311 ziX9_isForbidden zsX9_isForbidden (zkB hΓ rfl) (by decide) rfl (Nat.le_of_ble_eq_true rfl) (by decide) (by first | decide | omega) ⟨Nat.le_refl _, Nat.le_refl _⟩ (X9_isForbidden_ct hI hF hv (by omega) (fun h9 hM9 _ => ?_))
      try simp only [zup_ap, zup_row, ne_eq, not_false_eq_true, zres, Int.toNat_natCast, reduceIte, Nat.reduceEqDiff, Nat.reduceAdd, and_self, and_true, true_and, and_false, false_and]
      refine z_if_eq (t := 74) dX9_layDates_69 (by rfl) (fun ht69 => ?_) (fun hf69 => ?_)
      · refine z_al3 dX9_layDates_74 (by exact hq.1) ?_
        refine z_il5 dX9_layDates_75 ?_
        refine z_il4 dX9_layDates_77 ?_
        refine z_iast dX9_layDates_79 hqk (by omega) (by omega) ?_
        refine z_ii5 dX9_layDates_80 (by omega) (Nat.le_of_ble_eq_true rfl) rfl ?_
        refine z_goto (t := 6) dX9_layDates_83 (by rfl) ?_
        have hV3 : zcl h0 i (d + 1) = (x9 : Int) := by
          rcases hV2 with hV2 | hV2
          · exact hV2.2
          · exact absurd (show zFo _ _ _ _ = 0 by omega) hV2.1
        rw [← hV3]
        refine ih (d + 1) _ _ _ (by omega) (by omega) (zfB_up (zfB_tr hE (zfB_M (zfM_tr hM2 hM9))) hq.2.1) (by omega) (fun j hj => ?_)
        by_cases ej : j = d
        · subst ej
          rw [zup_ap]; exact if_pos ⟨rfl, by omega⟩
        · rw [zup_ap, if_neg (fun x => ej (by have := x.2; omega)), hM9.1 q hq.2.1 hq.2.2, hM2.1 q hq.2.1 hq.2.2]
          exact hD j (by omega)
      · refine z_iconst dX9_layDates_72 (by decide) ?_
        refine z_zret dX9_layDates_73 rfl (Nat.le_refl _) (Nat.le_refl _) (zext_rf _) (by exact Or.inl rfl) ?_
        refine hQ0 ?_ _ (zfB_tr hE (zfB_M (zfM_tr hM2 hM9)))
        rcases hV2 with hV2 | hV2
        · exact absurd hV2.1 (show zFo _ _ _ _ ≠ 0 by omega)
        · exact zcl_m hV2.2 (by omega)
set_option maxRecDepth 4000 in
theorem X9_layDates_ct {l : Launch} {Γ : zC} {h0 h1 : zM} {Q : Option zV → zC → zM → Prop} {i : Int} {K q : Nat} (hI : zIv Γ h0) (hF : zfr zSS h0 h1) (hv : 0 ≤ i ∧ i < h0 89 22) (hq : q ≠ 0 ∧ q ≠ 89 ∧ q ≠ 93) (hqk : zkd Γ q = some (.inr (0, 61))) (hqs : ∀ j, zSS q j = true) (hK9 : K ≤ 60) (hQ0 : zcl h0 i (K + 1) = -1 → ∀ h9, zfB q h1 h9 → Q (some (zI 0)) Γ h9) (hQ1 : zcl h0 i (K + 1) ≠ -1 → ∀ h9, zfB q h1 h9 → (∀ j, j < K + 1 → h9 q j = zcl h0 i (j + 1)) → Q (some (zI 1)) Γ h9) : zCT l mX9_layDates 1682 0 0 Γ [zR 89, zI i, zI (K : Int), zR q] h1 Q := by
  have hΓ := hI.base
  have hx2 := hI.isl
  refine zCT_of (by decide) (Nat.le_of_ble_eq_true rfl) (ls := [some (zR 89), some (zI i), some (zI (K : Int)), some (zR q), none, none, none, none]) rfl ?_
  refine z_iconst dX9_layDates_0 (by decide) ?_
  refine z_is4 dX9_layDates_1 (Nat.le_of_ble_eq_true rfl) rfl ?_
  refine z_iconst dX9_layDates_3 (by decide) ?_
  refine z_is5 dX9_layDates_4 (Nat.le_of_ble_eq_true rfl) rfl ?_
  exact X9_lD_d hI hF hv hq hqk hqs hK9 hQ0 hQ1 _ 0 _ _ _ (Nat.lt_succ_self _) (by omega) (zfB_rf _ _) (show (0 : Int) ≠ -1 by decide) (fun j hj => absurd hj (by omega))
set_option maxRecDepth 4000 in
theorem X9_calendar_ct {l : Launch} {Γ : zC} {h0 h : zM} {Q : Option zV → zC → zM → Prop} {i k : Int} (hI : zIv Γ h0) (hF : zfr zSS h0 h) (hQ : ∀ h9, zfr zSS h0 h9 → Q (some (zI (zvCal h0 i k))) Γ h9) : zCT l mX9_calendar 1683 0 0 Γ [zR 89, zI i, zI k] h Q := by
  have hΓ := hI.base
  have hx2 := hI.isl
  refine zCT_of (by decide) (Nat.le_of_ble_eq_true rfl) (ls := [some (zR 89), some (zI i), some (zI k)]) rfl ?_
  refine z_al0 dX9_calendar_0 (by first | decide | omega | assumption) ?_
  refine z_iconst dX9_calendar_1 (by decide) ?_
  refine z_putI zfX9_128 dX9_calendar_2 (zkB hΓ rfl) rfl rfl ?_
  replace hF : zfr zSS h0 (zup h 89 0 0) := zfr_up hF rfl
  generalize zup h 89 0 0 = h at hF ⊢
  refine z_al0 dX9_calendar_5 (by first | decide | omega | assumption) ?_
  refine z_il1 dX9_calendar_6 ?_
  refine zcv1 dX9_calendar_7 zkX9_299 ziX9_isIsle zsX9_isIsle (zkB hΓ rfl) (by decide) rfl (Nat.le_of_ble_eq_true rfl) (by decide) (by first | decide | omega) ⟨Nat.le_refl _, Nat.le_refl _⟩ (X9_isIsle_ct hI hF (fun hg1 _ => ?_) (fun hg1 _ => ?_))
  · try simp only [zup_ap, zup_row, ne_eq, not_false_eq_true, zres, Int.toNat_natCast, reduceIte, Nat.reduceEqDiff, Nat.reduceAdd, and_self, and_true, true_and, and_false, false_and]
    refine z_if_eq (t := 47) dX9_calendar_10 (by rfl) (fun _ => ?_) (fun hx => absurd hx (by decide))
    refine z_iconst dX9_calendar_47 (by decide) ?_
    refine z_iret dX9_calendar_48 rfl (Nat.le_refl _) (Nat.le_refl _) (zext_rf _) (fun hrr => ?_)
    first
    | (have hw9 := hQ _ hF
       unfold zvCal at hw9
       rw [if_neg (by omega)] at hw9
       exact hw9)
    | (have hw9 := hQ _ hF
       unfold zvCal at hw9
       rw [if_pos (by omega)] at hw9
       rw [Int.toNat_natCast] at hw9
       first | exact hw9 | (rw [hc2] at hw9; exact hw9))
  · try simp only [zup_ap, zup_row, ne_eq, not_false_eq_true, zres, Int.toNat_natCast, reduceIte, Nat.reduceEqDiff, Nat.reduceAdd, and_self, and_true, true_and, and_false, false_and]
    refine z_if_eq (t := 47) dX9_calendar_10 (by rfl) (fun hx => absurd hx (by decide)) (fun _ => ?_)
    refine z_il2 dX9_calendar_13 ?_
    refine z_i2l dX9_calendar_14 ?_
    refine z_lconst (x := 0) dX9_calendar_15 (by rfl) (by decide) ?_
    refine z_ldc2 (x := 60) dX9_calendar_16 zqX9_443 (by decide) ?_
    refine zcs3 dX9_calendar_19 zkX9_261 ztX9_isIn (Nat.le_of_ble_eq_true rfl) (by decide) (by first | decide | omega) ⟨Nat.le_refl _, Nat.le_refl _⟩ (X9_isIn_ct (fun hg2 _ => ?_) (fun hg2 _ => ?_))
    · try simp only [zup_ap, zup_row, ne_eq, not_false_eq_true, zres, Int.toNat_natCast, reduceIte, Nat.reduceEqDiff, Nat.reduceAdd, and_self, and_true, true_and, and_false, false_and]
      refine z_if_eq (t := 47) dX9_calendar_22 (by rfl) (fun _ => ?_) (fun hx => absurd hx (by decide))
      refine z_iconst dX9_calendar_47 (by decide) ?_
      refine z_iret dX9_calendar_48 rfl (Nat.le_refl _) (Nat.le_refl _) (zext_rf _) (fun hrr => ?_)
      first
      | (have hw9 := hQ _ hF
         unfold zvCal at hw9
         rw [if_neg (by omega)] at hw9
         exact hw9)
      | (have hw9 := hQ _ hF
         unfold zvCal at hw9
         rw [if_pos (by omega)] at hw9
         rw [Int.toNat_natCast] at hw9
         first | exact hw9 | (rw [hc2] at hw9; exact hw9))
    · try simp only [zup_ap, zup_row, ne_eq, not_false_eq_true, zres, Int.toNat_natCast, reduceIte, Nat.reduceEqDiff, Nat.reduceAdd, and_self, and_true, true_and, and_false, false_and]
      refine z_if_eq (t := 47) dX9_calendar_22 (by rfl) (fun hx => absurd hx (by decide)) (fun _ => ?_)
      refine z_al0 dX9_calendar_25 (by first | decide | omega | assumption) ?_
      refine z_il1 dX9_calendar_26 ?_
      refine z_il2 dX9_calendar_27 ?_
      refine z_al0 dX9_calendar_28 (by first | decide | omega | assumption) ?_
      refine z_getR zfX9_119 dX9_calendar_29 (zkB hΓ rfl) rfl (zsB hΓ rfl) (zvB hΓ (by decide)) ?_
      obtain ⟨k, rfl⟩ := Int.eq_ofNat_of_zero_le (show 0 ≤ k by omega)
      refine zcv3 dX9_calendar_32 zkX9_445 ziX9_layDates zsX9_layDates (zkB hΓ rfl) (by decide) rfl (Nat.le_of_ble_eq_true rfl) (by decide) (by first | decide | omega) ⟨Nat.le_refl _, Nat.le_refl _⟩ (X9_layDates_ct hI hF hg1 (q := 118) ⟨by decide, by decide, by decide⟩ (zkB hΓ rfl) (fun _ => rfl) (by omega) (fun hc2 h2 hE2 _ => ?_) (fun hc2 h2 hE2 hD2 _ => ?_))
      · try simp only [zup_ap, zup_row, ne_eq, not_false_eq_true, zres, Int.toNat_natCast, reduceIte, Nat.reduceEqDiff, Nat.reduceAdd, and_self, and_true, true_and, and_false, false_and]
        replace hF := zfr_B hF (fun _ => rfl) hE2
        refine z_if_eq (t := 47) dX9_calendar_35 (by rfl) (fun _ => ?_) (fun hx => absurd hx (by decide))
        refine z_iconst dX9_calendar_47 (by decide) ?_
        refine z_iret dX9_calendar_48 rfl (Nat.le_refl _) (Nat.le_refl _) (zext_rf _) (fun hrr => ?_)
        first
        | (have hw9 := hQ _ hF
           unfold zvCal at hw9
           rw [if_neg (by omega)] at hw9
           exact hw9)
        | (have hw9 := hQ _ hF
           unfold zvCal at hw9
           rw [if_pos (by omega)] at hw9
           rw [Int.toNat_natCast] at hw9
           first | exact hw9 | (rw [hc2] at hw9; exact hw9))
      · try simp only [zup_ap, zup_row, ne_eq, not_false_eq_true, zres, Int.toNat_natCast, reduceIte, Nat.reduceEqDiff, Nat.reduceAdd, and_self, and_true, true_and, and_false, false_and]
        replace hF := zfr_B hF (fun _ => rfl) hE2
        refine z_if_eq (t := 47) dX9_calendar_35 (by rfl) (fun hx => absurd hx (by decide)) (fun _ => ?_)
        refine z_al0 dX9_calendar_38 (by first | decide | omega | assumption) ?_
        refine z_getR zfX9_119 dX9_calendar_39 (zkB hΓ rfl) rfl (zsB hΓ rfl) (zvB hΓ (by decide)) ?_
        refine z_il2 dX9_calendar_42 ?_
        refine z_iald dX9_calendar_43 (zkB hΓ rfl) (by omega) (by omega) ?_
        try simp only [Int.toNat_natCast]
        rw [hD2 k (by omega)]
        try simp only [zup_ap, zup_row, ne_eq, not_false_eq_true, zres, Int.toNat_natCast, reduceIte, Nat.reduceEqDiff, Nat.reduceAdd, and_self, and_true, true_and, and_false, false_and]
        refine z_goto (t := 48) dX9_calendar_44 (by rfl) ?_
        refine z_iret dX9_calendar_48 rfl (Nat.le_refl _) (Nat.le_refl _) (zext_rf _) (fun hrr => ?_)
        first
        | (have hw9 := hQ _ hF
           unfold zvCal at hw9
           rw [if_neg (by omega)] at hw9
           exact hw9)
        | (have hw9 := hQ _ hF
           unfold zvCal at hw9
           rw [if_pos (by omega)] at hw9
           rw [Int.toNat_natCast] at hw9
           first | exact hw9 | (rw [hc2] at hw9; exact hw9))
set_option maxRecDepth 4000 in
theorem X9_tw_l {l : Launch} {Γ : zC} {h0 h : zM} {Q : Option zV → zC → zM → Prop} {a b : Int} {K : Nat} (hΓ : zBase Γ) (hK9 : K ≤ 60) (hA : ∀ j, j < K + 1 → h 118 j = zcl h0 a (j + 1)) (hB : ∀ j, j < K + 1 → h 119 j = zcl h0 b (j + 1)) (hQ : Q (some (zI (zeqn h0 a b (K + 1)))) Γ h) : ∀ (m : Nat) (k : Nat), K + 1 - k < m → k ≤ K + 1 → zG (zFn l mX9_twins 1683 0 0 Γ Q) 0 0 Γ h 72 [some (zR 89), some (zI a), some (zI b), some (zI (K : Int)), some (zI (zeqn h0 a b k)), some (zI (k : Int))] [] := by
  intro m
  induction m with
  | zero => intros; omega
  | succ m ih =>
    intro k hm hk
    have hb3 := zeq_b h0 a b k
    refine z_il5 dX9_twins_72 ?_
    refine z_il3 dX9_twins_74 ?_
    refine z_icmp_gt (t := 111) dX9_twins_75 (by rfl) (fun ht75 => ?_) (fun hf75 => ?_)
    · refine z_il4 dX9_twins_111 ?_
      refine z_iret dX9_twins_113 rfl (Nat.le_refl _) (Nat.le_refl _) (zext_rf _) (fun hrr => ?_)
      rw [show k = K + 1 by omega]
      exact hQ
    · refine z_il4 dX9_twins_78 ?_
      refine z_al0 dX9_twins_80 (by first | decide | omega | assumption) ?_
      refine z_getR zfX9_119 dX9_twins_81 (zkB hΓ rfl) rfl (zsB hΓ rfl) (zvB hΓ (by decide)) ?_
      refine z_il5 dX9_twins_84 ?_
      refine z_iald dX9_twins_86 (zkB hΓ rfl) (by omega) (by omega) ?_
      try simp only [Int.toNat_natCast]
      rw [hA k (by omega)]
      try simp only [zup_ap, zup_row, ne_eq, not_false_eq_true, zres, Int.toNat_natCast, reduceIte, Nat.reduceEqDiff, Nat.reduceAdd, and_self, and_true, true_and, and_false, false_and]
      refine z_al0 dX9_twins_87 (by first | decide | omega | assumption) ?_
      refine z_getR zfX9_122 dX9_twins_88 (zkB hΓ rfl) rfl (zsB hΓ rfl) (zvB hΓ (by decide)) ?_
      refine z_il5 dX9_twins_91 ?_
      refine z_iald dX9_twins_93 (zkB hΓ rfl) (by omega) (by omega) ?_
      try simp only [Int.toNat_natCast]
      rw [hB k (by omega)]
      try simp only [zup_ap, zup_row, ne_eq, not_false_eq_true, zres, Int.toNat_natCast, reduceIte, Nat.reduceEqDiff, Nat.reduceAdd, and_self, and_true, true_and, and_false, false_and]
      refine z_icmp_ne (t := 101) dX9_twins_94 (by rfl) (fun ht94 => ?_) (fun hf94 => ?_)
      · refine z_iconst dX9_twins_101 (by decide) ?_
        refine z_iadd dX9_twins_102 (by omega) ?_
        refine z_is4 dX9_twins_103 (Nat.le_of_ble_eq_true rfl) rfl ?_
        refine z_ii5 dX9_twins_105 (by omega) (Nat.le_of_ble_eq_true rfl) rfl ?_
        refine z_goto (t := 72) dX9_twins_108 (by rfl) ?_
        have e9 := ih (k + 1) (by omega) (by omega)
        first
        | (rw [zeq_y (by omega)] at e9; exact e9)
        | (rw [zeq_n (by omega)] at e9; rw [Int.add_zero]; exact e9)
      · refine z_iconst dX9_twins_97 (by decide) ?_
        refine z_goto (t := 102) dX9_twins_98 (by rfl) ?_
        refine z_iadd dX9_twins_102 (by omega) ?_
        refine z_is4 dX9_twins_103 (Nat.le_of_ble_eq_true rfl) rfl ?_
        refine z_ii5 dX9_twins_105 (by omega) (Nat.le_of_ble_eq_true rfl) rfl ?_
        refine z_goto (t := 72) dX9_twins_108 (by rfl) ?_
        have e9 := ih (k + 1) (by omega) (by omega)
        first
        | (rw [zeq_y (by omega)] at e9; exact e9)
        | (rw [zeq_n (by omega)] at e9; rw [Int.add_zero]; exact e9)
set_option maxRecDepth 4000 in
theorem X9_twins_ct {l : Launch} {Γ : zC} {h0 h : zM} {Q : Option zV → zC → zM → Prop} {a b k : Int} (hI : zIv Γ h0) (hF : zfr zSS h0 h) (hQ : ∀ h9, zfr zSS h0 h9 → Q (some (zI (zvTwins h0 a b k))) Γ h9) : zCT l mX9_twins 1683 0 0 Γ [zR 89, zI a, zI b, zI k] h Q := by
  have hΓ := hI.base
  have hx2 := hI.isl
  refine zCT_of (by decide) (Nat.le_of_ble_eq_true rfl) (ls := [some (zR 89), some (zI a), some (zI b), some (zI k), none, none]) rfl ?_
  refine z_al0 dX9_twins_0 (by first | decide | omega | assumption) ?_
  refine z_iconst dX9_twins_1 (by decide) ?_
  refine z_putI zfX9_128 dX9_twins_2 (zkB hΓ rfl) rfl rfl ?_
  replace hF : zfr zSS h0 (zup h 89 0 0) := zfr_up hF rfl
  generalize zup h 89 0 0 = h at hF ⊢
  refine z_al0 dX9_twins_5 (by first | decide | omega | assumption) ?_
  refine z_il1 dX9_twins_6 ?_
  refine zcv1 dX9_twins_7 zkX9_299 ziX9_isIsle zsX9_isIsle (zkB hΓ rfl) (by decide) rfl (Nat.le_of_ble_eq_true rfl) (by decide) (by first | decide | omega) ⟨Nat.le_refl _, Nat.le_refl _⟩ (X9_isIsle_ct hI hF (fun hg1 _ => ?_) (fun hg1 _ => ?_))
  · try simp only [zup_ap, zup_row, ne_eq, not_false_eq_true, zres, Int.toNat_natCast, reduceIte, Nat.reduceEqDiff, Nat.reduceAdd, and_self, and_true, true_and, and_false, false_and]
    refine z_if_eq (t := 64) dX9_twins_10 (by rfl) (fun _ => ?_) (fun hx => absurd hx (by decide))
    refine z_iconst dX9_twins_64 (by decide) ?_
    refine z_iret dX9_twins_65 rfl (Nat.le_refl _) (Nat.le_refl _) (zext_rf _) (fun hrr => ?_)
    first
    | (have hw9 := hQ _ hF
       unfold zvTwins at hw9
       rw [if_neg (by omega)] at hw9
       exact hw9)
    | (have hw9 := hQ _ hF
       unfold zvTwins at hw9
       rw [if_pos (by omega)] at hw9
       rw [Int.toNat_natCast, if_pos (by omega)] at hw9
       exact hw9)
  · try simp only [zup_ap, zup_row, ne_eq, not_false_eq_true, zres, Int.toNat_natCast, reduceIte, Nat.reduceEqDiff, Nat.reduceAdd, and_self, and_true, true_and, and_false, false_and]
    refine z_if_eq (t := 64) dX9_twins_10 (by rfl) (fun hx => absurd hx (by decide)) (fun _ => ?_)
    refine z_al0 dX9_twins_13 (by first | decide | omega | assumption) ?_
    refine z_il2 dX9_twins_14 ?_
    refine zcv1 dX9_twins_15 zkX9_299 ziX9_isIsle zsX9_isIsle (zkB hΓ rfl) (by decide) rfl (Nat.le_of_ble_eq_true rfl) (by decide) (by first | decide | omega) ⟨Nat.le_refl _, Nat.le_refl _⟩ (X9_isIsle_ct hI hF (fun hg2 _ => ?_) (fun hg2 _ => ?_))
    · try simp only [zup_ap, zup_row, ne_eq, not_false_eq_true, zres, Int.toNat_natCast, reduceIte, Nat.reduceEqDiff, Nat.reduceAdd, and_self, and_true, true_and, and_false, false_and]
      refine z_if_eq (t := 64) dX9_twins_18 (by rfl) (fun _ => ?_) (fun hx => absurd hx (by decide))
      refine z_iconst dX9_twins_64 (by decide) ?_
      refine z_iret dX9_twins_65 rfl (Nat.le_refl _) (Nat.le_refl _) (zext_rf _) (fun hrr => ?_)
      first
      | (have hw9 := hQ _ hF
         unfold zvTwins at hw9
         rw [if_neg (by omega)] at hw9
         exact hw9)
      | (have hw9 := hQ _ hF
         unfold zvTwins at hw9
         rw [if_pos (by omega)] at hw9
         rw [Int.toNat_natCast, if_pos (by omega)] at hw9
         exact hw9)
    · try simp only [zup_ap, zup_row, ne_eq, not_false_eq_true, zres, Int.toNat_natCast, reduceIte, Nat.reduceEqDiff, Nat.reduceAdd, and_self, and_true, true_and, and_false, false_and]
      refine z_if_eq (t := 64) dX9_twins_18 (by rfl) (fun hx => absurd hx (by decide)) (fun _ => ?_)
      refine z_il1 dX9_twins_21 ?_
      refine z_il2 dX9_twins_22 ?_
      refine z_icmp_eq (t := 64) dX9_twins_23 (by rfl) (fun ht23 => ?_) (fun hf23 => ?_)
      · refine z_iconst dX9_twins_64 (by decide) ?_
        refine z_iret dX9_twins_65 rfl (Nat.le_refl _) (Nat.le_refl _) (zext_rf _) (fun hrr => ?_)
        first
        | (have hw9 := hQ _ hF
           unfold zvTwins at hw9
           rw [if_neg (by omega)] at hw9
           exact hw9)
        | (have hw9 := hQ _ hF
           unfold zvTwins at hw9
           rw [if_pos (by omega)] at hw9
           rw [Int.toNat_natCast, if_pos (by omega)] at hw9
           exact hw9)
      · refine z_il3 dX9_twins_26 ?_
        refine z_i2l dX9_twins_27 ?_
        refine z_lconst (x := 0) dX9_twins_28 (by rfl) (by decide) ?_
        refine z_ldc2 (x := 60) dX9_twins_29 zqX9_443 (by decide) ?_
        refine zcs3 dX9_twins_32 zkX9_261 ztX9_isIn (Nat.le_of_ble_eq_true rfl) (by decide) (by first | decide | omega) ⟨Nat.le_refl _, Nat.le_refl _⟩ (X9_isIn_ct (fun hg3 _ => ?_) (fun hg3 _ => ?_))
        · try simp only [zup_ap, zup_row, ne_eq, not_false_eq_true, zres, Int.toNat_natCast, reduceIte, Nat.reduceEqDiff, Nat.reduceAdd, and_self, and_true, true_and, and_false, false_and]
          refine z_if_eq (t := 64) dX9_twins_35 (by rfl) (fun _ => ?_) (fun hx => absurd hx (by decide))
          refine z_iconst dX9_twins_64 (by decide) ?_
          refine z_iret dX9_twins_65 rfl (Nat.le_refl _) (Nat.le_refl _) (zext_rf _) (fun hrr => ?_)
          first
          | (have hw9 := hQ _ hF
             unfold zvTwins at hw9
             rw [if_neg (by omega)] at hw9
             exact hw9)
          | (have hw9 := hQ _ hF
             unfold zvTwins at hw9
             rw [if_pos (by omega)] at hw9
             rw [Int.toNat_natCast, if_pos (by omega)] at hw9
             exact hw9)
        · try simp only [zup_ap, zup_row, ne_eq, not_false_eq_true, zres, Int.toNat_natCast, reduceIte, Nat.reduceEqDiff, Nat.reduceAdd, and_self, and_true, true_and, and_false, false_and]
          refine z_if_eq (t := 64) dX9_twins_35 (by rfl) (fun hx => absurd hx (by decide)) (fun _ => ?_)
          refine z_al0 dX9_twins_38 (by first | decide | omega | assumption) ?_
          refine z_il1 dX9_twins_39 ?_
          refine z_il3 dX9_twins_40 ?_
          refine z_al0 dX9_twins_41 (by first | decide | omega | assumption) ?_
          refine z_getR zfX9_119 dX9_twins_42 (zkB hΓ rfl) rfl (zsB hΓ rfl) (zvB hΓ (by decide)) ?_
          obtain ⟨k, rfl⟩ := Int.eq_ofNat_of_zero_le (show 0 ≤ k by omega)
          refine zcv3 dX9_twins_45 zkX9_445 ziX9_layDates zsX9_layDates (zkB hΓ rfl) (by decide) rfl (Nat.le_of_ble_eq_true rfl) (by decide) (by first | decide | omega) ⟨Nat.le_refl _, Nat.le_refl _⟩ (X9_layDates_ct hI hF hg1 (q := 118) ⟨by decide, by decide, by decide⟩ (zkB hΓ rfl) (fun _ => rfl) (by omega) (fun hc2 h2 hE2 _ => ?_) (fun hc2 h2 hE2 hD2 _ => ?_))
          · try simp only [zup_ap, zup_row, ne_eq, not_false_eq_true, zres, Int.toNat_natCast, reduceIte, Nat.reduceEqDiff, Nat.reduceAdd, and_self, and_true, true_and, and_false, false_and]
            replace hF := zfr_B hF (fun _ => rfl) hE2
            refine z_if_eq (t := 64) dX9_twins_48 (by rfl) (fun _ => ?_) (fun hx => absurd hx (by decide))
            refine z_iconst dX9_twins_64 (by decide) ?_
            refine z_iret dX9_twins_65 rfl (Nat.le_refl _) (Nat.le_refl _) (zext_rf _) (fun hrr => ?_)
            first
            | (have hw9 := hQ _ hF
               unfold zvTwins at hw9
               rw [if_neg (by omega)] at hw9
               exact hw9)
            | (have hw9 := hQ _ hF
               unfold zvTwins at hw9
               rw [if_pos (by omega)] at hw9
               rw [Int.toNat_natCast, if_pos (by omega)] at hw9
               exact hw9)
          · try simp only [zup_ap, zup_row, ne_eq, not_false_eq_true, zres, Int.toNat_natCast, reduceIte, Nat.reduceEqDiff, Nat.reduceAdd, and_self, and_true, true_and, and_false, false_and]
            replace hF := zfr_B hF (fun _ => rfl) hE2
            refine z_if_eq (t := 64) dX9_twins_48 (by rfl) (fun hx => absurd hx (by decide)) (fun _ => ?_)
            refine z_al0 dX9_twins_51 (by first | decide | omega | assumption) ?_
            refine z_il2 dX9_twins_52 ?_
            refine z_il3 dX9_twins_53 ?_
            refine z_al0 dX9_twins_54 (by first | decide | omega | assumption) ?_
            refine z_getR zfX9_122 dX9_twins_55 (zkB hΓ rfl) rfl (zsB hΓ rfl) (zvB hΓ (by decide)) ?_
            refine zcv3 dX9_twins_58 zkX9_445 ziX9_layDates zsX9_layDates (zkB hΓ rfl) (by decide) rfl (Nat.le_of_ble_eq_true rfl) (by decide) (by first | decide | omega) ⟨Nat.le_refl _, Nat.le_refl _⟩ (X9_layDates_ct hI hF hg2 (q := 119) ⟨by decide, by decide, by decide⟩ (zkB hΓ rfl) (fun _ => rfl) (by omega) (fun hc3 h3 hE3 _ => ?_) (fun hc3 h3 hE3 hD3 _ => ?_))
            · try simp only [zup_ap, zup_row, ne_eq, not_false_eq_true, zres, Int.toNat_natCast, reduceIte, Nat.reduceEqDiff, Nat.reduceAdd, and_self, and_true, true_and, and_false, false_and]
              replace hF := zfr_B hF (fun _ => rfl) hE3
              refine z_if_ne (t := 66) dX9_twins_61 (by rfl) (fun hx => absurd hx (by decide)) (fun _ => ?_)
              refine z_iconst dX9_twins_64 (by decide) ?_
              refine z_iret dX9_twins_65 rfl (Nat.le_refl _) (Nat.le_refl _) (zext_rf _) (fun hrr => ?_)
              first
              | (have hw9 := hQ _ hF
                 unfold zvTwins at hw9
                 rw [if_neg (by omega)] at hw9
                 exact hw9)
              | (have hw9 := hQ _ hF
                 unfold zvTwins at hw9
                 rw [if_pos (by omega)] at hw9
                 rw [Int.toNat_natCast, if_pos (by omega)] at hw9
                 exact hw9)
            · try simp only [zup_ap, zup_row, ne_eq, not_false_eq_true, zres, Int.toNat_natCast, reduceIte, Nat.reduceEqDiff, Nat.reduceAdd, and_self, and_true, true_and, and_false, false_and]
              replace hF := zfr_B hF (fun _ => rfl) hE3
              refine z_if_ne (t := 66) dX9_twins_61 (by rfl) (fun _ => ?_) (fun hx => absurd hx (by decide))
              refine z_iconst dX9_twins_66 (by decide) ?_
              refine z_is4 dX9_twins_67 (Nat.le_of_ble_eq_true rfl) rfl ?_
              refine z_iconst dX9_twins_69 (by decide) ?_
              refine z_is5 dX9_twins_70 (Nat.le_of_ble_eq_true rfl) rfl ?_
              have hw9 := hQ _ hF
              unfold zvTwins at hw9
              rw [if_pos (by omega)] at hw9
              rw [Int.toNat_natCast, if_neg (by omega)] at hw9
              exact X9_tw_l hΓ (by omega) (fun j hj => by rw [hE3.1 118 (by decide) (by decide) (by decide)]; exact hD2 j hj) hD3 hw9 _ 0 (Nat.lt_succ_self _) (by omega)
