/-! ISLES' text: the reference -/
def zMb (Γ : zC) (h0 h : zM) (n p : Nat) (L : List Int) : Prop := zfr zSS h0 h ∧ zTx Γ h 90 0 n (h0 3) ∧ h 89 10 = (p : Int) ∧ h 89 11 = -1 ∧ h 89 23 = (L.length : Int) ∧ ∀ i, i < L.length → h 95 i = L.getD i 0
def zMr (Γ : zC) (h0 h : zM) (n p : Nat) (L : List Int) (D : zDM) : Prop := zMb Γ h0 h n p L ∧ ∀ a b, a < 6 → b < 6 → h 97 (6 * a + b) = D a b
theorem zTx_r {Γ : zC} {h : zM} {n r j : Nat} {x : Int} {t : Nat → Int} (H : zTx Γ h 90 0 n t) (h1 : r ≠ 89) (h2 : r ≠ 90) : zTx Γ (zup h r j x) 90 0 n t := by
  obtain ⟨a1, a2, a3, a4, a5, a6, a7, a8, a9⟩ := H
  exact ⟨by rw [zup_row (Ne.symm h1)]; exact a1, by rw [zup_row (Ne.symm h1)]; exact a2, by rw [zup_row (Ne.symm h1)]; exact a3, a4, a5, a6, a7, a8, fun j hj => by rw [zup_row (Ne.symm h2)]; exact a9 j hj⟩
theorem zMr_p {Γ : zC} {h0 h : zM} {n p p' : Nat} {L : List Int} {D : zDM} {x : Int} (H : zMr Γ h0 h n p L D) (hx : x = (p' : Int)) : zMr Γ h0 (zup h 89 10 x) n p' L D := by
  obtain ⟨⟨a1, a2, a3, a4, a5, a6⟩, a7⟩ := H
  exact ⟨⟨zfr_up a1 rfl, zTx_up a2 (by decide) (by decide) (by decide), by rw [zup_rj, hx], by rw [zup_ap, if_neg (fun e => absurd e.2 (by decide))]; exact a4, by rw [zup_ap, if_neg (fun e => absurd e.2 (by decide))]; exact a5, fun i hi => by rw [zup_row (by decide)]; exact a6 i hi⟩, fun a b ha hb => by rw [zup_row (by decide)]; exact a7 a b ha hb⟩
theorem zMr_l {Γ : zC} {h0 h : zM} {n p : Nat} {L : List Int} {D : zDM} (H : zMr Γ h0 h n p L D) (v : Int) : zMr Γ h0 (zup (zup h 95 L.length v) 89 23 ((L.length : Int) + 1)) n p (L ++ [v]) D := by
  obtain ⟨⟨a1, a2, a3, a4, a5, a6⟩, a7⟩ := H
  refine ⟨⟨zfr_up (zfr_up a1 rfl) rfl, zTx_up (zTx_r a2 (by decide) (by decide)) (by decide) (by decide) (by decide), by rw [zup_ap, if_neg (fun e => absurd e.2 (by decide)), zup_row (by decide)]; exact a3, by rw [zup_ap, if_neg (fun e => absurd e.2 (by decide)), zup_row (by decide)]; exact a4, by rw [zup_rj, List.length_append]; show _ = ((L.length + 1 : Nat) : Int); omega, fun i hi => ?_⟩, fun a b ha hb => by rw [zup_row (by decide), zup_row (by decide)]; exact a7 a b ha hb⟩
  rw [zup_row (by decide), zgetD_ap, zup_ap]
  rw [List.length_append] at hi
  have hi2 : i < L.length + 1 := hi
  by_cases e : i = L.length
  · rw [if_pos ⟨rfl, e⟩, if_pos e]
  · rw [if_neg (fun x => e x.2), if_neg e]; exact a6 i (by omega)
theorem zMr_d {Γ : zC} {h0 h : zM} {n p : Nat} {L : List Int} {D : zDM} (H : zMr Γ h0 h n p L D) (v : Int) {a b : Nat} (ha : a < 6) (hb : b < 6) : zMr Γ h0 (zup (zup h 97 (6 * a + b) v) 97 (6 * b + a) v) n p L (zdU D a b v) := by
  obtain ⟨⟨a1, a2, a3, a4, a5, a6⟩, a7⟩ := H
  refine ⟨⟨zfr_up (zfr_up a1 rfl) rfl, zTx_r (zTx_r a2 (by decide) (by decide)) (by decide) (by decide), by rw [zup_row (by decide), zup_row (by decide)]; exact a3, by rw [zup_row (by decide), zup_row (by decide)]; exact a4, by rw [zup_row (by decide), zup_row (by decide)]; exact a5, fun i hi => by rw [zup_row (by decide), zup_row (by decide)]; exact a6 i hi⟩, fun i j hi hj => ?_⟩
  unfold zdU
  rw [zup_ap, zup_ap]
  by_cases e : (i = a ∧ j = b) ∨ (i = b ∧ j = a)
  · rw [if_pos e]
    rcases e with ⟨rfl, rfl⟩ | ⟨rfl, rfl⟩
    · split
      · rfl
      · rw [if_pos ⟨rfl, rfl⟩]
    · rw [if_pos ⟨rfl, rfl⟩]
  · rw [if_neg e, if_neg (fun x => e (Or.inr (by have := x.2; omega))), if_neg (fun x => e (Or.inl (by have := x.2; omega)))]
    exact a7 i j hi hj
theorem zN_look {l : Launch} {Γ : zC} {h0 h : zM} {Q : Option zV → zC → zM → Prop} {n p : Nat} {L : List Int} {D : zDM} (hΓ : zBase Γ) (hM : zMr Γ h0 h n p L D) (hp : p ≤ 161) (hQ : ∀ h2, zMr Γ h0 h2 n (zskip (h0 3) n p) L D → Q (some (zI (zsg (h0 3) n (zskip (h0 3) n p)))) Γ h2) : zCT l mX9_look 0 0 0 Γ [zR 89] h Q := X9_look_ct hΓ hM.1.2.1 hM.1.2.2.1 hp (hQ _ (zMr_p hM rfl))
theorem zN_fail {l : Launch} {Γ : zC} {h0 h : zM} {Q : Option zV → zC → zM → Prop} {n p : Nat} {L : List Int} {D : zDM} (hΓ : zBase Γ) (hM : zMr Γ h0 h n p L D) (hQ : ∀ h2, zfr zSS h0 h2 → h2 89 11 = (p : Int) → Q (some (zI 0)) Γ h2) : zCT l mX9_fails 0 0 0 Γ [zR 89] h Q := X9_fails_ct hΓ (fun _ => hQ _ (zfr_up hM.1.1 rfl) (by rw [zup_rj]; exact hM.1.2.2.1)) (fun e => absurd hM.1.2.2.2.1 e)
theorem zN_dig {l : Launch} {Γ : zC} {h0 h : zM} {Q : Option zV → zC → zM → Prop} {n p : Nat} {L : List Int} {D : zDM} (hΓ : zBase Γ) (hM : zMr Γ h0 h n p L D) (hp : p ≤ 160) (hQ0 : ¬ zdg (zsg (h0 3) n p) → Q (some (zI 0)) Γ h) (hQ1 : zdg (zsg (h0 3) n p) → Q (some (zI 1)) Γ h) : zCT l mX9_isDigit 0 0 0 Γ [zR 89] h Q := zM_dig2 hΓ hM.1.2.1 ⟨fun _ _ => rfl, fun _ _ _ _ => rfl⟩ hM.1.2.2.1 hp (by
  by_cases e : zdg (zsg (h0 3) n p)
  · rw [if_pos e]; exact hQ1 e
  · rw [if_neg e]; exact hQ0 e)
set_option maxRecDepth 4000 in
theorem zN_here {l : Launch} {Γ : zC} {h0 h : zM} {Q : Option zV → zC → zM → Prop} {n p : Nat} {L : List Int} {D : zDM} (hΓ : zBase Γ) (hM : zMr Γ h0 h n p L D) (hp : p < n) (hQ : Q (some (zI (zsg (h0 3) n p))) Γ h) : zCT l mX9_here 0 0 0 Γ [zR 89] h Q := by
  obtain ⟨hT5, hT8, hT9, hn2, hb2, hR89, hR0, ⟨len, hkR, hlen⟩, ht⟩ := hM.1.2.1
  refine zCT_of (by decide) (Nat.le_of_ble_eq_true rfl) (ls := [some (zR 89)]) rfl ?_
  refine z_al0 dX9_here_0 (by first | decide | omega | assumption) ?_
  refine z_getI zfX9_151 dX9_here_1 (zkB hΓ rfl) rfl ?_
  rw [hM.1.2.2.1]
  try simp only [zup_ap, zup_row, ne_eq, not_false_eq_true, zres, Int.toNat_natCast, reduceIte, Nat.reduceEqDiff, Nat.reduceAdd, and_self, and_true, true_and, and_false, false_and]
  refine z_al0 dX9_here_4 (by first | decide | omega | assumption) ?_
  refine z_getI zfX9_154 dX9_here_5 (zkB hΓ rfl) rfl ?_
  rw [hT9]
  try simp only [zup_ap, zup_row, ne_eq, not_false_eq_true, zres, Int.toNat_natCast, reduceIte, Nat.reduceEqDiff, Nat.reduceAdd, and_self, and_true, true_and, and_false, false_and]
  refine z_icmp_ge (t := 32) dX9_here_8 (by rfl) (fun ht8 => ?_) (fun hf8 => ?_)
  · exfalso; omega
  · refine z_al0 dX9_here_11 (by first | decide | omega | assumption) ?_
    refine z_getQ zfX9_23 dX9_here_12 (zkB hΓ rfl) rfl (zsN hΓ rfl) ?_
    try simp only [zup_ap, zup_row, ne_eq, not_false_eq_true, zres, Int.toNat_natCast, reduceIte, Nat.reduceEqDiff, Nat.reduceAdd, and_self, and_true, true_and, and_false, false_and]
    rw [hT5]
    refine z_al0 dX9_here_15 (by first | decide | omega | assumption) ?_
    refine z_getI zfX9_157 dX9_here_16 (zkB hΓ rfl) rfl ?_
    rw [hT8]
    try simp only [zup_ap, zup_row, ne_eq, not_false_eq_true, zres, Int.toNat_natCast, reduceIte, Nat.reduceEqDiff, Nat.reduceAdd, and_self, and_true, true_and, and_false, false_and]
    refine z_al0 dX9_here_19 (by first | decide | omega | assumption) ?_
    refine z_getI zfX9_151 dX9_here_20 (zkB hΓ rfl) rfl ?_
    rw [hM.1.2.2.1]
    try simp only [zup_ap, zup_row, ne_eq, not_false_eq_true, zres, Int.toNat_natCast, reduceIte, Nat.reduceEqDiff, Nat.reduceAdd, and_self, and_true, true_and, and_false, false_and]
    refine z_iadd dX9_here_23 (by omega) ?_
    refine z_bald dX9_here_24 (zkB hΓ rfl) (by omega) (by omega) ?_
    try simp only [zup_ap, zup_row, ne_eq, not_false_eq_true, zres, Int.toNat_natCast, reduceIte, Nat.reduceEqDiff, Nat.reduceAdd, and_self, and_true, true_and, and_false, false_and]
    rw [show (((0 : Nat) : Int) + (p : Int)).toNat = p by omega]
    refine zrngM (fun hm9 => ?_)
    have hx9 := zom_a hm9 (zkB hΓ (r := 90) rfl) (j := p) (by omega)
    have hx9 : -128 ≤ h 90 p ∧ h 90 p < 128 := hx9
    have ht9 := ht p (by omega)
    rw [Nat.zero_add] at ht9
    refine z_sipush (x := 255) dX9_here_25 (by rfl) (by decide) ?_
    refine z_iand dX9_here_28 ?_
    refine z_goto (t := 33) dX9_here_29 (by rfl) ?_
    refine z_iret dX9_here_33 rfl (Nat.le_refl _) (Nat.le_refl _) (zext_rf _) (fun hrr => ?_)
    unfold zsg at hQ
    rw [if_pos hp, ht9, ← zand255 hx9] at hQ
    exact hQ
set_option maxRecDepth 4000 in
theorem zN_let {l : Launch} {Γ : zC} {h0 h : zM} {Q : Option zV → zC → zM → Prop} {n p : Nat} {L : List Int} {D : zDM} (hΓ : zBase Γ) (hM : zMr Γ h0 h n p L D) {x : Int} (hL : L.length ≤ 6) (hQ0 : ¬ (97 ≤ x ∧ x < 97 + (L.length : Int)) → Q (some (zI 0)) Γ h) (hQ1 : (97 ≤ x ∧ x < 97 + (L.length : Int)) → Q (some (zI 1)) Γ h) : zCT l mX9_isIsleLetter 0 0 0 Γ [zR 89, zI x] h Q := by
  refine zCT_of (by decide) (Nat.le_of_ble_eq_true rfl) (ls := [some (zR 89), some (zI x)]) rfl ?_
  refine z_il1 dX9_isIsleLetter_0 ?_
  refine z_bipush (x := 97) dX9_isIsleLetter_1 (by rfl) (by decide) ?_
  refine z_icmp_lt (t := 21) dX9_isIsleLetter_3 (by rfl) (fun ht3 => ?_) (fun hf3 => ?_)
  · refine z_iconst dX9_isIsleLetter_21 (by decide) ?_
    refine z_zret dX9_isIsleLetter_22 rfl (Nat.le_refl _) (Nat.le_refl _) (zext_rf _) (by first | exact Or.inl rfl | exact Or.inr rfl | omega) ?_
    first | exact hQ0 (by omega) | exact hQ1 (by omega)
  · refine z_il1 dX9_isIsleLetter_6 ?_
    refine z_bipush (x := 97) dX9_isIsleLetter_7 (by rfl) (by decide) ?_
    refine z_al0 dX9_isIsleLetter_9 (by first | decide | omega | assumption) ?_
    refine z_getI zfX9_249 dX9_isIsleLetter_10 (zkB hΓ rfl) rfl ?_
    rw [hM.1.2.2.2.2.1]
    try simp only [zup_ap, zup_row, ne_eq, not_false_eq_true, zres, Int.toNat_natCast, reduceIte, Nat.reduceEqDiff, Nat.reduceAdd, and_self, and_true, true_and, and_false, false_and]
    refine z_iadd dX9_isIsleLetter_13 (by omega) ?_
    refine z_icmp_ge (t := 21) dX9_isIsleLetter_14 (by rfl) (fun ht14 => ?_) (fun hf14 => ?_)
    · refine z_iconst dX9_isIsleLetter_21 (by decide) ?_
      refine z_zret dX9_isIsleLetter_22 rfl (Nat.le_refl _) (Nat.le_refl _) (zext_rf _) (by first | exact Or.inl rfl | exact Or.inr rfl | omega) ?_
      first | exact hQ0 (by omega) | exact hQ1 (by omega)
    · refine z_iconst dX9_isIsleLetter_17 (by decide) ?_
      refine z_goto (t := 22) dX9_isIsleLetter_18 (by rfl) ?_
      refine z_zret dX9_isIsleLetter_22 rfl (Nat.le_refl _) (Nat.le_refl _) (zext_rf _) (by first | exact Or.inl rfl | exact Or.inr rfl | omega) ?_
      first | exact hQ0 (by omega) | exact hQ1 (by omega)
set_option maxRecDepth 4000 in
theorem zN_two {l : Launch} {Γ : zC} {h0 h : zM} {Q : Option zV → zC → zM → Prop} {n p : Nat} {L : List Int} {D : zDM} (hΓ : zBase Γ) (hM : zMr Γ h0 h n p L D) (hp : p ≤ 160) (hn : n ≤ 160) (hQ0 : ¬ zdg (zsg (h0 3) n (zskip (h0 3) n p)) → ∀ h2, zfr zSS h0 h2 → h2 89 11 = ((zskip (h0 3) n p : Nat) : Int) → Q (some (zI (-1))) Γ h2) (hQ1 : zdg (zsg (h0 3) n (zskip (h0 3) n p)) → zdg (zsg (h0 3) n (znum (h0 3) n 2 (zskip (h0 3) n p) 0).2) → ∀ h2, zfr zSS h0 h2 → h2 89 11 = (((znum (h0 3) n 2 (zskip (h0 3) n p) 0).2 : Nat) : Int) → Q (some (zI (-1))) Γ h2) (hQ2 : zdg (zsg (h0 3) n (zskip (h0 3) n p)) → ¬ zdg (zsg (h0 3) n (znum (h0 3) n 2 (zskip (h0 3) n p) 0).2) → ∀ h2, zMr Γ h0 h2 n (znum (h0 3) n 2 (zskip (h0 3) n p) 0).2 L D → Q (some (zI (znum (h0 3) n 2 (zskip (h0 3) n p) 0).1)) Γ h2) : zCT l mX9_twoDigits 1 0 0 Γ [zR 89] h Q := by
  have s0 := zskip_b (h0 3) n p
  refine zCT_of (by decide) (Nat.le_of_ble_eq_true rfl) (ls := [some (zR 89), none, none]) rfl ?_
  refine z_al0 dX9_twoDigits_0 (by first | decide | omega | assumption) ?_
  refine zcv0 dX9_twoDigits_1 zkX9_170 ziX9_look zsX9_look (zkB hΓ rfl) (by decide) rfl (Nat.le_of_ble_eq_true rfl) (by decide) (by first | decide | omega) ⟨Nat.le_refl _, Nat.le_refl _⟩ (zN_look hΓ hM (by omega) (fun h hM _ => ?_))
  try simp only [zup_ap, zup_row, ne_eq, not_false_eq_true, zres, Int.toNat_natCast, reduceIte, Nat.reduceEqDiff, Nat.reduceAdd, and_self, and_true, true_and, and_false, false_and]
  refine z_is1 dX9_twoDigits_4 (Nat.le_of_ble_eq_true rfl) rfl ?_
  refine z_al0 dX9_twoDigits_5 (by first | decide | omega | assumption) ?_
  refine zcv0 dX9_twoDigits_6 zkX9_200 ziX9_isDigit zsX9_isDigit (zkB hΓ rfl) (by decide) rfl (Nat.le_of_ble_eq_true rfl) (by decide) (by first | decide | omega) ⟨Nat.le_refl _, Nat.le_refl _⟩ (zN_dig hΓ hM (by omega) (fun hd1 _ => ?_) (fun hd1 _ => ?_))
  · try simp only [zup_ap, zup_row, ne_eq, not_false_eq_true, zres, Int.toNat_natCast, reduceIte, Nat.reduceEqDiff, Nat.reduceAdd, and_self, and_true, true_and, and_false, false_and]
    refine z_if_ne (t := 19) dX9_twoDigits_9 (by rfl) (fun hx => absurd hx (by decide)) (fun _ => ?_)
    refine z_al0 dX9_twoDigits_12 (by first | decide | omega | assumption) ?_
    refine zcv0 dX9_twoDigits_13 zkX9_166 ziX9_fails zsX9_fails (zkB hΓ rfl) (by decide) rfl (Nat.le_of_ble_eq_true rfl) (by decide) (by first | decide | omega) ⟨Nat.le_refl _, Nat.le_refl _⟩ (zN_fail hΓ hM (fun h hF9 hf9 _ => ?_))
    try simp only [zup_ap, zup_row, ne_eq, not_false_eq_true, zres, Int.toNat_natCast, reduceIte, Nat.reduceEqDiff, Nat.reduceAdd, and_self, and_true, true_and, and_false, false_and]
    refine z_pop dX9_twoDigits_16 rfl ?_
    refine z_iconst dX9_twoDigits_17 (by decide) ?_
    refine z_iret dX9_twoDigits_18 rfl (Nat.le_refl _) (Nat.le_refl _) (zext_rf _) (fun hrr => ?_)
    exact hQ0 hd1 h hF9 hf9
  · try simp only [zup_ap, zup_row, ne_eq, not_false_eq_true, zres, Int.toNat_natCast, reduceIte, Nat.reduceEqDiff, Nat.reduceAdd, and_self, and_true, true_and, and_false, false_and]
    refine z_if_ne (t := 19) dX9_twoDigits_9 (by rfl) (fun _ => ?_) (fun hx => absurd hx (by decide))
    have l1 := zdg_lt hd1
    refine z_al0 dX9_twoDigits_19 (by first | decide | omega | assumption) ?_
    refine zcv0 dX9_twoDigits_20 zkX9_246 ziX9_here zsX9_here (zkB hΓ rfl) (by decide) rfl (Nat.le_of_ble_eq_true rfl) (by decide) (by first | decide | omega) ⟨Nat.le_refl _, Nat.le_refl _⟩ (zN_here hΓ hM (zdg_lt hd1) (fun _ => ?_))
    try simp only [zup_ap, zup_row, ne_eq, not_false_eq_true, zres, Int.toNat_natCast, reduceIte, Nat.reduceEqDiff, Nat.reduceAdd, and_self, and_true, true_and, and_false, false_and]
    refine z_bipush (x := 48) dX9_twoDigits_23 (by rfl) (by decide) ?_
    refine z_isub dX9_twoDigits_25 (by omega) ?_
    refine z_is2 dX9_twoDigits_26 (Nat.le_of_ble_eq_true rfl) rfl ?_
    refine z_al0 dX9_twoDigits_27 (by first | decide | omega | assumption) ?_
    refine z_dup dX9_twoDigits_28 rfl ?_
    refine z_getI zfX9_151 dX9_twoDigits_29 (zkB hΓ rfl) rfl ?_
    rw [hM.1.2.2.1]
    try simp only [zup_ap, zup_row, ne_eq, not_false_eq_true, zres, Int.toNat_natCast, reduceIte, Nat.reduceEqDiff, Nat.reduceAdd, and_self, and_true, true_and, and_false, false_and]
    refine z_iconst dX9_twoDigits_32 (by decide) ?_
    refine z_iadd dX9_twoDigits_33 (by omega) ?_
    refine z_putI zfX9_151 dX9_twoDigits_34 (zkB hΓ rfl) rfl rfl ?_
    have hM := zMr_p (p' := zskip (h0 3) n p + 1) (x := ((zskip (h0 3) n p : Nat) : Int) + 1) hM (by omega)
    generalize zup h 89 10 (((zskip (h0 3) n p : Nat) : Int) + 1) = h at hM ⊢
    refine z_al0 dX9_twoDigits_37 (by first | decide | omega | assumption) ?_
    refine zcv0 dX9_twoDigits_38 zkX9_200 ziX9_isDigit zsX9_isDigit (zkB hΓ rfl) (by decide) rfl (Nat.le_of_ble_eq_true rfl) (by decide) (by first | decide | omega) ⟨Nat.le_refl _, Nat.le_refl _⟩ (zN_dig hΓ hM (by omega) (fun hd2 _ => ?_) (fun hd2 _ => ?_))
    · try simp only [zup_ap, zup_row, ne_eq, not_false_eq_true, zres, Int.toNat_natCast, reduceIte, Nat.reduceEqDiff, Nat.reduceAdd, and_self, and_true, true_and, and_false, false_and]
      refine z_if_eq (t := 67) dX9_twoDigits_41 (by rfl) (fun _ => ?_) (fun hx => absurd hx (by decide))
      first
      | (show zG _ _ _ _ (zup h 89 10 _) _ _ _
         have hM := zMr_p (p' := zskip (h0 3) n p + 1 + 1) (x := ((zskip (h0 3) n p + 1 : Nat) : Int) + 1) hM (by omega)
         generalize zup h 89 10 (((zskip (h0 3) n p + 1 : Nat) : Int) + 1) = h at hM ⊢)
      | skip
      refine z_al0 dX9_twoDigits_67 (by first | decide | omega | assumption) ?_
      refine zcv0 dX9_twoDigits_68 zkX9_200 ziX9_isDigit zsX9_isDigit (zkB hΓ rfl) (by decide) rfl (Nat.le_of_ble_eq_true rfl) (by decide) (by first | decide | omega) ⟨Nat.le_refl _, Nat.le_refl _⟩ (zN_dig hΓ hM (by omega) (fun hd3 _ => ?_) (fun hd3 _ => ?_))
      · try simp only [zup_ap, zup_row, ne_eq, not_false_eq_true, zres, Int.toNat_natCast, reduceIte, Nat.reduceEqDiff, Nat.reduceAdd, and_self, and_true, true_and, and_false, false_and]
        refine z_if_eq (t := 81) dX9_twoDigits_71 (by rfl) (fun _ => ?_) (fun hx => absurd hx (by decide))
        refine z_il2 dX9_twoDigits_81 ?_
        refine z_iret dX9_twoDigits_82 rfl (Nat.le_refl _) (Nat.le_refl _) (zext_rf _) (fun hrr => ?_)
        first
        | (have e9 : znum (h0 3) n 2 (zskip (h0 3) n p) 0 = (10 * 0 + zsg (h0 3) n (zskip (h0 3) n p) - 48, zskip (h0 3) n p + 1) := by rw [znum_1 (e := 1) hd1, znum_0 (Or.inr hd2)]
           rw [e9] at hQ2
           have hq9 := hQ2 hd1 hd2 h hM
           rw [show (10 * 0 + zsg (h0 3) n (zskip (h0 3) n p) - 48, zskip (h0 3) n p + 1).1 = zsg (h0 3) n (zskip (h0 3) n p) - 48 by show 10 * 0 + zsg (h0 3) n (zskip (h0 3) n p) - 48 = _; omega] at hq9
           exact hq9)
        | (have e9 : znum (h0 3) n 2 (zskip (h0 3) n p) 0 = (10 * (10 * 0 + zsg (h0 3) n (zskip (h0 3) n p) - 48) + zsg (h0 3) n (zskip (h0 3) n p + 1) - 48, zskip (h0 3) n p + 1 + 1) := by rw [znum_1 (e := 1) hd1, znum_1 (e := 0) hd2, znum_0 (Or.inl rfl)]
           rw [e9] at hQ2
           have hq9 := hQ2 hd1 hd3 h hM
           rw [show (10 * (10 * 0 + zsg (h0 3) n (zskip (h0 3) n p) - 48) + zsg (h0 3) n (zskip (h0 3) n p + 1) - 48, zskip (h0 3) n p + 1 + 1).1 = 10 * (zsg (h0 3) n (zskip (h0 3) n p) - 48) + zsg (h0 3) n (zskip (h0 3) n p + 1) - 48 by show 10 * (10 * 0 + zsg (h0 3) n (zskip (h0 3) n p) - 48) + zsg (h0 3) n (zskip (h0 3) n p + 1) - 48 = _; omega] at hq9
           exact hq9)
      · try simp only [zup_ap, zup_row, ne_eq, not_false_eq_true, zres, Int.toNat_natCast, reduceIte, Nat.reduceEqDiff, Nat.reduceAdd, and_self, and_true, true_and, and_false, false_and]
        refine z_if_eq (t := 81) dX9_twoDigits_71 (by rfl) (fun hx => absurd hx (by decide)) (fun _ => ?_)
        refine z_al0 dX9_twoDigits_74 (by first | decide | omega | assumption) ?_
        refine zcv0 dX9_twoDigits_75 zkX9_166 ziX9_fails zsX9_fails (zkB hΓ rfl) (by decide) rfl (Nat.le_of_ble_eq_true rfl) (by decide) (by first | decide | omega) ⟨Nat.le_refl _, Nat.le_refl _⟩ (zN_fail hΓ hM (fun h hF9 hf9 _ => ?_))
        try simp only [zup_ap, zup_row, ne_eq, not_false_eq_true, zres, Int.toNat_natCast, reduceIte, Nat.reduceEqDiff, Nat.reduceAdd, and_self, and_true, true_and, and_false, false_and]
        refine z_pop dX9_twoDigits_78 rfl ?_
        refine z_iconst dX9_twoDigits_79 (by decide) ?_
        refine z_iret dX9_twoDigits_80 rfl (Nat.le_refl _) (Nat.le_refl _) (zext_rf _) (fun hrr => ?_)
        first
        | exact absurd hd3 hd2
        | (have e9 : znum (h0 3) n 2 (zskip (h0 3) n p) 0 = (10 * (10 * 0 + zsg (h0 3) n (zskip (h0 3) n p) - 48) + zsg (h0 3) n (zskip (h0 3) n p + 1) - 48, zskip (h0 3) n p + 1 + 1) := by rw [znum_1 (e := 1) hd1, znum_1 (e := 0) hd2, znum_0 (Or.inl rfl)]
           rw [e9] at hQ1
           exact hQ1 hd1 hd3 h hF9 hf9)
    · try simp only [zup_ap, zup_row, ne_eq, not_false_eq_true, zres, Int.toNat_natCast, reduceIte, Nat.reduceEqDiff, Nat.reduceAdd, and_self, and_true, true_and, and_false, false_and]
      refine z_if_eq (t := 67) dX9_twoDigits_41 (by rfl) (fun hx => absurd hx (by decide)) (fun _ => ?_)
      have l2 := zdg_lt hd2
      refine z_bipush (x := 10) dX9_twoDigits_44 (by rfl) (by decide) ?_
      refine z_il2 dX9_twoDigits_46 ?_
      refine z_imul dX9_twoDigits_47 (by omega) ?_
      refine z_al0 dX9_twoDigits_48 (by first | decide | omega | assumption) ?_
      refine zcv0 dX9_twoDigits_49 zkX9_246 ziX9_here zsX9_here (zkB hΓ rfl) (by decide) rfl (Nat.le_of_ble_eq_true rfl) (by decide) (by first | decide | omega) ⟨Nat.le_refl _, Nat.le_refl _⟩ (zN_here hΓ hM (zdg_lt hd2) (fun _ => ?_))
      try simp only [zup_ap, zup_row, ne_eq, not_false_eq_true, zres, Int.toNat_natCast, reduceIte, Nat.reduceEqDiff, Nat.reduceAdd, and_self, and_true, true_and, and_false, false_and]
      refine z_iadd dX9_twoDigits_52 (by omega) ?_
      refine z_bipush (x := 48) dX9_twoDigits_53 (by rfl) (by decide) ?_
      refine z_isub dX9_twoDigits_55 (by omega) ?_
      refine z_is2 dX9_twoDigits_56 (Nat.le_of_ble_eq_true rfl) rfl ?_
      refine z_al0 dX9_twoDigits_57 (by first | decide | omega | assumption) ?_
      refine z_dup dX9_twoDigits_58 rfl ?_
      refine z_getI zfX9_151 dX9_twoDigits_59 (zkB hΓ rfl) rfl ?_
      rw [hM.1.2.2.1]
      try simp only [zup_ap, zup_row, ne_eq, not_false_eq_true, zres, Int.toNat_natCast, reduceIte, Nat.reduceEqDiff, Nat.reduceAdd, and_self, and_true, true_and, and_false, false_and]
      refine z_iconst dX9_twoDigits_62 (by decide) ?_
      refine z_iadd dX9_twoDigits_63 (by omega) ?_
      refine z_putI zfX9_151 dX9_twoDigits_64 (zkB hΓ rfl) rfl rfl ?_
      first
      | (show zG _ _ _ _ (zup h 89 10 _) _ _ _
         have hM := zMr_p (p' := zskip (h0 3) n p + 1 + 1) (x := ((zskip (h0 3) n p + 1 : Nat) : Int) + 1) hM (by omega)
         generalize zup h 89 10 (((zskip (h0 3) n p + 1 : Nat) : Int) + 1) = h at hM ⊢)
      | skip
      refine z_al0 dX9_twoDigits_67 (by first | decide | omega | assumption) ?_
      refine zcv0 dX9_twoDigits_68 zkX9_200 ziX9_isDigit zsX9_isDigit (zkB hΓ rfl) (by decide) rfl (Nat.le_of_ble_eq_true rfl) (by decide) (by first | decide | omega) ⟨Nat.le_refl _, Nat.le_refl _⟩ (zN_dig hΓ hM (by omega) (fun hd3 _ => ?_) (fun hd3 _ => ?_))
      · try simp only [zup_ap, zup_row, ne_eq, not_false_eq_true, zres, Int.toNat_natCast, reduceIte, Nat.reduceEqDiff, Nat.reduceAdd, and_self, and_true, true_and, and_false, false_and]
        refine z_if_eq (t := 81) dX9_twoDigits_71 (by rfl) (fun _ => ?_) (fun hx => absurd hx (by decide))
        refine z_il2 dX9_twoDigits_81 ?_
        refine z_iret dX9_twoDigits_82 rfl (Nat.le_refl _) (Nat.le_refl _) (zext_rf _) (fun hrr => ?_)
        first
        | (have e9 : znum (h0 3) n 2 (zskip (h0 3) n p) 0 = (10 * 0 + zsg (h0 3) n (zskip (h0 3) n p) - 48, zskip (h0 3) n p + 1) := by rw [znum_1 (e := 1) hd1, znum_0 (Or.inr hd2)]
           rw [e9] at hQ2
           have hq9 := hQ2 hd1 hd2 h hM
           rw [show (10 * 0 + zsg (h0 3) n (zskip (h0 3) n p) - 48, zskip (h0 3) n p + 1).1 = zsg (h0 3) n (zskip (h0 3) n p) - 48 by show 10 * 0 + zsg (h0 3) n (zskip (h0 3) n p) - 48 = _; omega] at hq9
           exact hq9)
        | (have e9 : znum (h0 3) n 2 (zskip (h0 3) n p) 0 = (10 * (10 * 0 + zsg (h0 3) n (zskip (h0 3) n p) - 48) + zsg (h0 3) n (zskip (h0 3) n p + 1) - 48, zskip (h0 3) n p + 1 + 1) := by rw [znum_1 (e := 1) hd1, znum_1 (e := 0) hd2, znum_0 (Or.inl rfl)]
           rw [e9] at hQ2
           have hq9 := hQ2 hd1 hd3 h hM
           rw [show (10 * (10 * 0 + zsg (h0 3) n (zskip (h0 3) n p) - 48) + zsg (h0 3) n (zskip (h0 3) n p + 1) - 48, zskip (h0 3) n p + 1 + 1).1 = 10 * (zsg (h0 3) n (zskip (h0 3) n p) - 48) + zsg (h0 3) n (zskip (h0 3) n p + 1) - 48 by show 10 * (10 * 0 + zsg (h0 3) n (zskip (h0 3) n p) - 48) + zsg (h0 3) n (zskip (h0 3) n p + 1) - 48 = _; omega] at hq9
           exact hq9)
      · try simp only [zup_ap, zup_row, ne_eq, not_false_eq_true, zres, Int.toNat_natCast, reduceIte, Nat.reduceEqDiff, Nat.reduceAdd, and_self, and_true, true_and, and_false, false_and]
        refine z_if_eq (t := 81) dX9_twoDigits_71 (by rfl) (fun hx => absurd hx (by decide)) (fun _ => ?_)
        refine z_al0 dX9_twoDigits_74 (by first | decide | omega | assumption) ?_
        refine zcv0 dX9_twoDigits_75 zkX9_166 ziX9_fails zsX9_fails (zkB hΓ rfl) (by decide) rfl (Nat.le_of_ble_eq_true rfl) (by decide) (by first | decide | omega) ⟨Nat.le_refl _, Nat.le_refl _⟩ (zN_fail hΓ hM (fun h hF9 hf9 _ => ?_))
        try simp only [zup_ap, zup_row, ne_eq, not_false_eq_true, zres, Int.toNat_natCast, reduceIte, Nat.reduceEqDiff, Nat.reduceAdd, and_self, and_true, true_and, and_false, false_and]
        refine z_pop dX9_twoDigits_78 rfl ?_
        refine z_iconst dX9_twoDigits_79 (by decide) ?_
        refine z_iret dX9_twoDigits_80 rfl (Nat.le_refl _) (Nat.le_refl _) (zext_rf _) (fun hrr => ?_)
        first
        | exact absurd hd3 hd2
        | (have e9 : znum (h0 3) n 2 (zskip (h0 3) n p) 0 = (10 * (10 * 0 + zsg (h0 3) n (zskip (h0 3) n p) - 48) + zsg (h0 3) n (zskip (h0 3) n p + 1) - 48, zskip (h0 3) n p + 1 + 1) := by rw [znum_1 (e := 1) hd1, znum_1 (e := 0) hd2, znum_0 (Or.inl rfl)]
           rw [e9] at hQ1
           exact hQ1 hd1 hd3 h hF9 hf9)
set_option maxRecDepth 4000 in
theorem X9_readWay_ct {l : Launch} {Γ : zC} {h0 h : zM} {Q : Option zV → zC → zM → Prop} {n p : Nat} {L : List Int} {D : zDM} (hΓ : zBase Γ) (hM : zMr Γ h0 h n p L D) (ht : ∀ j, j < n → 0 ≤ h0 3 j ∧ h0 3 j ≤ 255) (hn2 : n ≤ 160) (hp : p ≤ 160) (hL : L.length ≤ 6) (hQ0 : (zWy (h0 3) n L.length (zskip (h0 3) n p) D).1 = false → ∀ h2, zfr zSS h0 h2 → h2 89 11 = (((zWy (h0 3) n L.length (zskip (h0 3) n p) D).2.1 : Nat) : Int) → Q none Γ h2) (hQ1 : (zWy (h0 3) n L.length (zskip (h0 3) n p) D).1 = true → ∀ h2 p2, zMr Γ h0 h2 n p2 L (zWy (h0 3) n L.length (zskip (h0 3) n p) D).2.2 → zskip (h0 3) n p2 = (zWy (h0 3) n L.length (zskip (h0 3) n p) D).2.1 → p2 ≤ 160 → Q none Γ h2) : zCT l mX9_readWay 1 0 0 Γ [zR 89] h Q := by
  have s0 := zskip_b (h0 3) n p
  refine zCT_of (by decide) (Nat.le_of_ble_eq_true rfl) (ls := [some (zR 89), none, none, none]) rfl ?_
  refine z_al0 dX9_readWay_0 (by first | decide | omega | assumption) ?_
  refine zcv0 dX9_readWay_1 zkX9_170 ziX9_look zsX9_look (zkB hΓ rfl) (by decide) rfl (Nat.le_of_ble_eq_true rfl) (by decide) (by first | decide | omega) ⟨Nat.le_refl _, Nat.le_refl _⟩ (zN_look hΓ hM (by omega) (fun h hM _ => ?_))
  try simp only [zup_ap, zup_row, ne_eq, not_false_eq_true, zres, Int.toNat_natCast, reduceIte, Nat.reduceEqDiff, Nat.reduceAdd, and_self, and_true, true_and, and_false, false_and]
  refine z_is1 dX9_readWay_4 (Nat.le_of_ble_eq_true rfl) rfl ?_
  have s1 := zskip_b (h0 3) n (zskip (h0 3) n p + 1)
  have hz1 := zsg_r ht (zskip (h0 3) n p)
  refine z_al0 dX9_readWay_5 (by first | decide | omega | assumption) ?_
  refine z_il1 dX9_readWay_6 ?_
  refine zcv1 dX9_readWay_7 zkX9_252 ziX9_isIsleLetter zsX9_isIsleLetter (zkB hΓ rfl) (by decide) rfl (Nat.le_of_ble_eq_true rfl) (by decide) (by first | decide | omega) ⟨Nat.le_refl _, Nat.le_refl _⟩ (zN_let hΓ hM hL (fun hk1 _ => ?_) (fun hk1 _ => ?_))
  · try simp only [zup_ap, zup_row, ne_eq, not_false_eq_true, zres, Int.toNat_natCast, reduceIte, Nat.reduceEqDiff, Nat.reduceAdd, and_self, and_true, true_and, and_false, false_and]
    refine z_if_ne (t := 19) dX9_readWay_10 (by rfl) (fun hx => absurd hx (by decide)) (fun _ => ?_)
    refine z_al0 dX9_readWay_13 (by first | decide | omega | assumption) ?_
    refine zcv0 dX9_readWay_14 zkX9_166 ziX9_fails zsX9_fails (zkB hΓ rfl) (by decide) rfl (Nat.le_of_ble_eq_true rfl) (by decide) (by first | decide | omega) ⟨Nat.le_refl _, Nat.le_refl _⟩ (zN_fail hΓ hM (fun h hF9 hf9 _ => ?_))
    try simp only [zup_ap, zup_row, ne_eq, not_false_eq_true, zres, Int.toNat_natCast, reduceIte, Nat.reduceEqDiff, Nat.reduceAdd, and_self, and_true, true_and, and_false, false_and]
    refine z_pop dX9_readWay_17 rfl ?_
    refine z_ret dX9_readWay_18 rfl (Nat.le_refl _) (Nat.le_refl _) (zext_rf _) ?_
    unfold zWy at hQ0
    rw [if_pos (by omega)] at hQ0
    exact hQ0 rfl h hF9 hf9
  · try simp only [zup_ap, zup_row, ne_eq, not_false_eq_true, zres, Int.toNat_natCast, reduceIte, Nat.reduceEqDiff, Nat.reduceAdd, and_self, and_true, true_and, and_false, false_and]
    refine z_if_ne (t := 19) dX9_readWay_10 (by rfl) (fun _ => ?_) (fun hx => absurd hx (by decide))
    have l1 := zsg_ltg (t := h0 3) (n := n) (q := zskip (h0 3) n p) (by omega)
    obtain ⟨a, ha⟩ := Int.eq_ofNat_of_zero_le (show 0 ≤ zsg (h0 3) n (zskip (h0 3) n p) - 97 by omega)
    refine z_al0 dX9_readWay_19 (by first | decide | omega | assumption) ?_
    refine z_dup dX9_readWay_20 rfl ?_
    refine z_getI zfX9_151 dX9_readWay_21 (zkB hΓ rfl) rfl ?_
    rw [hM.1.2.2.1]
    try simp only [zup_ap, zup_row, ne_eq, not_false_eq_true, zres, Int.toNat_natCast, reduceIte, Nat.reduceEqDiff, Nat.reduceAdd, and_self, and_true, true_and, and_false, false_and]
    refine z_iconst dX9_readWay_24 (by decide) ?_
    refine z_iadd dX9_readWay_25 (by omega) ?_
    refine z_putI zfX9_151 dX9_readWay_26 (zkB hΓ rfl) rfl rfl ?_
    have hM := zMr_p (p' := zskip (h0 3) n p + 1) (x := ((zskip (h0 3) n p : Nat) : Int) + 1) hM (by omega)
    generalize zup h 89 10 (((zskip (h0 3) n p : Nat) : Int) + 1) = h at hM ⊢
    refine z_al0 dX9_readWay_29 (by first | decide | omega | assumption) ?_
    refine zcv0 dX9_readWay_30 zkX9_170 ziX9_look zsX9_look (zkB hΓ rfl) (by decide) rfl (Nat.le_of_ble_eq_true rfl) (by decide) (by first | decide | omega) ⟨Nat.le_refl _, Nat.le_refl _⟩ (zN_look hΓ hM (by omega) (fun h hM _ => ?_))
    try simp only [zup_ap, zup_row, ne_eq, not_false_eq_true, zres, Int.toNat_natCast, reduceIte, Nat.reduceEqDiff, Nat.reduceAdd, and_self, and_true, true_and, and_false, false_and]
    refine z_is2 dX9_readWay_33 (Nat.le_of_ble_eq_true rfl) rfl ?_
    have s2 := zskip_b (h0 3) n (zskip (h0 3) n (zskip (h0 3) n p + 1) + 1)
    have hz2 := zsg_r ht (zskip (h0 3) n (zskip (h0 3) n p + 1))
    refine z_al0 dX9_readWay_34 (by first | decide | omega | assumption) ?_
    refine z_il2 dX9_readWay_35 ?_
    refine zcv1 dX9_readWay_36 zkX9_252 ziX9_isIsleLetter zsX9_isIsleLetter (zkB hΓ rfl) (by decide) rfl (Nat.le_of_ble_eq_true rfl) (by decide) (by first | decide | omega) ⟨Nat.le_refl _, Nat.le_refl _⟩ (zN_let hΓ hM hL (fun hk2 _ => ?_) (fun hk2 _ => ?_))
    · try simp only [zup_ap, zup_row, ne_eq, not_false_eq_true, zres, Int.toNat_natCast, reduceIte, Nat.reduceEqDiff, Nat.reduceAdd, and_self, and_true, true_and, and_false, false_and]
      refine z_if_eq (t := 67) dX9_readWay_39 (by rfl) (fun _ => ?_) (fun hx => absurd hx (by decide))
      refine z_al0 dX9_readWay_67 (by first | decide | omega | assumption) ?_
      refine zcv0 dX9_readWay_68 zkX9_166 ziX9_fails zsX9_fails (zkB hΓ rfl) (by decide) rfl (Nat.le_of_ble_eq_true rfl) (by decide) (by first | decide | omega) ⟨Nat.le_refl _, Nat.le_refl _⟩ (zN_fail hΓ hM (fun h hF9 hf9 _ => ?_))
      try simp only [zup_ap, zup_row, ne_eq, not_false_eq_true, zres, Int.toNat_natCast, reduceIte, Nat.reduceEqDiff, Nat.reduceAdd, and_self, and_true, true_and, and_false, false_and]
      refine z_pop dX9_readWay_71 rfl ?_
      refine z_ret dX9_readWay_72 rfl (Nat.le_refl _) (Nat.le_refl _) (zext_rf _) ?_
      unfold zWy at hQ0
      try rw [show (zsg (h0 3) n (zskip (h0 3) n p) - 97).toNat = a by omega, show (zsg (h0 3) n (zskip (h0 3) n (zskip (h0 3) n p + 1)) - 97).toNat = b by omega] at hQ0
      rw [if_neg (by omega), if_pos (by omega)] at hQ0
      exact hQ0 rfl h hF9 hf9
    · try simp only [zup_ap, zup_row, ne_eq, not_false_eq_true, zres, Int.toNat_natCast, reduceIte, Nat.reduceEqDiff, Nat.reduceAdd, and_self, and_true, true_and, and_false, false_and]
      refine z_if_eq (t := 67) dX9_readWay_39 (by rfl) (fun hx => absurd hx (by decide)) (fun _ => ?_)
      have l2 := zsg_ltg (t := h0 3) (n := n) (q := zskip (h0 3) n (zskip (h0 3) n p + 1)) (by omega)
      obtain ⟨b, hb⟩ := Int.eq_ofNat_of_zero_le (show 0 ≤ zsg (h0 3) n (zskip (h0 3) n (zskip (h0 3) n p + 1)) - 97 by omega)
      refine z_il2 dX9_readWay_42 ?_
      refine z_il1 dX9_readWay_43 ?_
      refine z_icmp_eq (t := 67) dX9_readWay_44 (by rfl) (fun ht44 => ?_) (fun hf44 => ?_)
      · refine z_al0 dX9_readWay_67 (by first | decide | omega | assumption) ?_
        refine zcv0 dX9_readWay_68 zkX9_166 ziX9_fails zsX9_fails (zkB hΓ rfl) (by decide) rfl (Nat.le_of_ble_eq_true rfl) (by decide) (by first | decide | omega) ⟨Nat.le_refl _, Nat.le_refl _⟩ (zN_fail hΓ hM (fun h hF9 hf9 _ => ?_))
        try simp only [zup_ap, zup_row, ne_eq, not_false_eq_true, zres, Int.toNat_natCast, reduceIte, Nat.reduceEqDiff, Nat.reduceAdd, and_self, and_true, true_and, and_false, false_and]
        refine z_pop dX9_readWay_71 rfl ?_
        refine z_ret dX9_readWay_72 rfl (Nat.le_refl _) (Nat.le_refl _) (zext_rf _) ?_
        unfold zWy at hQ0
        try rw [show (zsg (h0 3) n (zskip (h0 3) n p) - 97).toNat = a by omega, show (zsg (h0 3) n (zskip (h0 3) n (zskip (h0 3) n p + 1)) - 97).toNat = b by omega] at hQ0
        rw [if_neg (by omega), if_pos (by omega)] at hQ0
        exact hQ0 rfl h hF9 hf9
      · refine z_al0 dX9_readWay_47 (by first | decide | omega | assumption) ?_
        refine z_getR zfX9_46 dX9_readWay_48 (zkB hΓ rfl) rfl (zsB hΓ rfl) (zvB hΓ (by decide)) ?_
        refine z_bipush (x := 6) dX9_readWay_51 (by rfl) (by decide) ?_
        refine z_il1 dX9_readWay_53 ?_
        refine z_bipush (x := 97) dX9_readWay_54 (by rfl) (by decide) ?_
        refine z_isub dX9_readWay_56 (by omega) ?_
        refine z_imul dX9_readWay_57 (by omega) ?_
        refine z_il2 dX9_readWay_58 ?_
        refine z_iadd dX9_readWay_59 (by omega) ?_
        refine z_bipush (x := 97) dX9_readWay_60 (by rfl) (by decide) ?_
        refine z_isub dX9_readWay_62 (by omega) ?_
        refine z_iald dX9_readWay_63 (zkB hΓ rfl) (by omega) (by omega) ?_
        try simp only [zup_ap, zup_row, ne_eq, not_false_eq_true, zres, Int.toNat_natCast, reduceIte, Nat.reduceEqDiff, Nat.reduceAdd, and_self, and_true, true_and, and_false, false_and]
        rw [show (6 * (zsg (h0 3) n (zskip (h0 3) n p) - 97) + zsg (h0 3) n (zskip (h0 3) n (zskip (h0 3) n p + 1)) - 97).toNat = 6 * a + b by omega, hM.2 a b (by omega) (by omega)]
        refine z_if_le (t := 73) dX9_readWay_64 (by rfl) (fun ht64 => ?_) (fun hf64 => ?_)
        · refine z_al0 dX9_readWay_73 (by first | decide | omega | assumption) ?_
          refine z_dup dX9_readWay_74 rfl ?_
          refine z_getI zfX9_151 dX9_readWay_75 (zkB hΓ rfl) rfl ?_
          rw [hM.1.2.2.1]
          try simp only [zup_ap, zup_row, ne_eq, not_false_eq_true, zres, Int.toNat_natCast, reduceIte, Nat.reduceEqDiff, Nat.reduceAdd, and_self, and_true, true_and, and_false, false_and]
          refine z_iconst dX9_readWay_78 (by decide) ?_
          refine z_iadd dX9_readWay_79 (by omega) ?_
          refine z_putI zfX9_151 dX9_readWay_80 (zkB hΓ rfl) rfl rfl ?_
          have hM := zMr_p (p' := zskip (h0 3) n (zskip (h0 3) n p + 1) + 1) (x := ((zskip (h0 3) n (zskip (h0 3) n p + 1) : Nat) : Int) + 1) hM (by omega)
          generalize zup h 89 10 (((zskip (h0 3) n (zskip (h0 3) n p + 1) : Nat) : Int) + 1) = h at hM ⊢
          refine z_al0 dX9_readWay_83 (by first | decide | omega | assumption) ?_
          refine zcv0 dX9_readWay_84 zkX9_170 ziX9_look zsX9_look (zkB hΓ rfl) (by decide) rfl (Nat.le_of_ble_eq_true rfl) (by decide) (by first | decide | omega) ⟨Nat.le_refl _, Nat.le_refl _⟩ (zN_look hΓ hM (by omega) (fun h hM _ => ?_))
          try simp only [zup_ap, zup_row, ne_eq, not_false_eq_true, zres, Int.toNat_natCast, reduceIte, Nat.reduceEqDiff, Nat.reduceAdd, and_self, and_true, true_and, and_false, false_and]
          refine z_is3 dX9_readWay_87 (Nat.le_of_ble_eq_true rfl) rfl ?_
          have s3 := zskip_b (h0 3) n (zskip (h0 3) n (zskip (h0 3) n (zskip (h0 3) n p + 1) + 1) + 1)
          have hz3 := zsg_r ht (zskip (h0 3) n (zskip (h0 3) n (zskip (h0 3) n p + 1) + 1))
          refine z_il3 dX9_readWay_88 ?_
          refine z_bipush (x := 49) dX9_readWay_89 (by rfl) (by decide) ?_
          refine z_icmp_lt (t := 100) dX9_readWay_91 (by rfl) (fun ht91 => ?_) (fun hf91 => ?_)
          · refine z_al0 dX9_readWay_100 (by first | decide | omega | assumption) ?_
            refine zcv0 dX9_readWay_101 zkX9_166 ziX9_fails zsX9_fails (zkB hΓ rfl) (by decide) rfl (Nat.le_of_ble_eq_true rfl) (by decide) (by first | decide | omega) ⟨Nat.le_refl _, Nat.le_refl _⟩ (zN_fail hΓ hM (fun h hF9 hf9 _ => ?_))
            try simp only [zup_ap, zup_row, ne_eq, not_false_eq_true, zres, Int.toNat_natCast, reduceIte, Nat.reduceEqDiff, Nat.reduceAdd, and_self, and_true, true_and, and_false, false_and]
            refine z_pop dX9_readWay_104 rfl ?_
            refine z_ret dX9_readWay_105 rfl (Nat.le_refl _) (Nat.le_refl _) (zext_rf _) ?_
            unfold zWy at hQ0
            rw [show (zsg (h0 3) n (zskip (h0 3) n p) - 97).toNat = a by omega, show (zsg (h0 3) n (zskip (h0 3) n (zskip (h0 3) n p + 1)) - 97).toNat = b by omega, if_neg (by omega), if_neg (by omega), if_pos (by omega)] at hQ0
            exact hQ0 rfl h hF9 hf9
          · refine z_il3 dX9_readWay_94 ?_
            refine z_bipush (x := 57) dX9_readWay_95 (by rfl) (by decide) ?_
            refine z_icmp_le (t := 106) dX9_readWay_97 (by rfl) (fun ht97 => ?_) (fun hf97 => ?_)
            · have l3 := zsg_ltg (t := h0 3) (n := n) (q := zskip (h0 3) n (zskip (h0 3) n (zskip (h0 3) n p + 1) + 1)) (by omega)
              refine z_al0 dX9_readWay_106 (by first | decide | omega | assumption) ?_
              refine z_dup dX9_readWay_107 rfl ?_
              refine z_getI zfX9_151 dX9_readWay_108 (zkB hΓ rfl) rfl ?_
              rw [hM.1.2.2.1]
              try simp only [zup_ap, zup_row, ne_eq, not_false_eq_true, zres, Int.toNat_natCast, reduceIte, Nat.reduceEqDiff, Nat.reduceAdd, and_self, and_true, true_and, and_false, false_and]
              refine z_iconst dX9_readWay_111 (by decide) ?_
              refine z_iadd dX9_readWay_112 (by omega) ?_
              refine z_putI zfX9_151 dX9_readWay_113 (zkB hΓ rfl) rfl rfl ?_
              have hM := zMr_p (p' := zskip (h0 3) n (zskip (h0 3) n (zskip (h0 3) n p + 1) + 1) + 1) (x := ((zskip (h0 3) n (zskip (h0 3) n (zskip (h0 3) n p + 1) + 1) : Nat) : Int) + 1) hM (by omega)
              generalize zup h 89 10 (((zskip (h0 3) n (zskip (h0 3) n (zskip (h0 3) n p + 1) + 1) : Nat) : Int) + 1) = h at hM ⊢
              refine z_al0 dX9_readWay_116 (by first | decide | omega | assumption) ?_
              refine z_getR zfX9_46 dX9_readWay_117 (zkB hΓ rfl) rfl (zsB hΓ rfl) (zvB hΓ (by decide)) ?_
              refine z_bipush (x := 6) dX9_readWay_120 (by rfl) (by decide) ?_
              refine z_il1 dX9_readWay_122 ?_
              refine z_bipush (x := 97) dX9_readWay_123 (by rfl) (by decide) ?_
              refine z_isub dX9_readWay_125 (by omega) ?_
              refine z_imul dX9_readWay_126 (by omega) ?_
              refine z_il2 dX9_readWay_127 ?_
              refine z_iadd dX9_readWay_128 (by omega) ?_
              refine z_bipush (x := 97) dX9_readWay_129 (by rfl) (by decide) ?_
              refine z_isub dX9_readWay_131 (by omega) ?_
              refine z_il3 dX9_readWay_132 ?_
              refine z_bipush (x := 48) dX9_readWay_133 (by rfl) (by decide) ?_
              refine z_isub dX9_readWay_135 (by omega) ?_
              refine z_iast dX9_readWay_136 (zkB hΓ rfl) (by omega) (by omega) ?_
              refine z_al0 dX9_readWay_137 (by first | decide | omega | assumption) ?_
              refine z_getR zfX9_46 dX9_readWay_138 (zkB hΓ rfl) rfl (zsB hΓ rfl) (zvB hΓ (by decide)) ?_
              refine z_bipush (x := 6) dX9_readWay_141 (by rfl) (by decide) ?_
              refine z_il2 dX9_readWay_143 ?_
              refine z_bipush (x := 97) dX9_readWay_144 (by rfl) (by decide) ?_
              refine z_isub dX9_readWay_146 (by omega) ?_
              refine z_imul dX9_readWay_147 (by omega) ?_
              refine z_il1 dX9_readWay_148 ?_
              refine z_iadd dX9_readWay_149 (by omega) ?_
              refine z_bipush (x := 97) dX9_readWay_150 (by rfl) (by decide) ?_
              refine z_isub dX9_readWay_152 (by omega) ?_
              refine z_il3 dX9_readWay_153 ?_
              refine z_bipush (x := 48) dX9_readWay_154 (by rfl) (by decide) ?_
              refine z_isub dX9_readWay_156 (by omega) ?_
              refine z_iast dX9_readWay_157 (zkB hΓ rfl) (by omega) (by omega) ?_
              refine z_ret dX9_readWay_158 rfl (Nat.le_refl _) (Nat.le_refl _) (zext_rf _) ?_
              rw [show (6 * (zsg (h0 3) n (zskip (h0 3) n p) - 97) + zsg (h0 3) n (zskip (h0 3) n (zskip (h0 3) n p + 1)) - 97).toNat = 6 * a + b by omega, show (6 * (zsg (h0 3) n (zskip (h0 3) n (zskip (h0 3) n p + 1)) - 97) + zsg (h0 3) n (zskip (h0 3) n p) - 97).toNat = 6 * b + a by omega]
              have hM := zMr_d hM (zsg (h0 3) n (zskip (h0 3) n (zskip (h0 3) n (zskip (h0 3) n p + 1) + 1)) - 48) (show a < 6 by omega) (show b < 6 by omega)
              unfold zWy at hQ1
              rw [show (zsg (h0 3) n (zskip (h0 3) n p) - 97).toNat = a by omega, show (zsg (h0 3) n (zskip (h0 3) n (zskip (h0 3) n p + 1)) - 97).toNat = b by omega, if_neg (by omega), if_neg (by omega), if_neg (by omega)] at hQ1
              exact hQ1 rfl _ (zskip (h0 3) n (zskip (h0 3) n (zskip (h0 3) n p + 1) + 1) + 1) hM rfl (by omega)
            · refine z_al0 dX9_readWay_100 (by first | decide | omega | assumption) ?_
              refine zcv0 dX9_readWay_101 zkX9_166 ziX9_fails zsX9_fails (zkB hΓ rfl) (by decide) rfl (Nat.le_of_ble_eq_true rfl) (by decide) (by first | decide | omega) ⟨Nat.le_refl _, Nat.le_refl _⟩ (zN_fail hΓ hM (fun h hF9 hf9 _ => ?_))
              try simp only [zup_ap, zup_row, ne_eq, not_false_eq_true, zres, Int.toNat_natCast, reduceIte, Nat.reduceEqDiff, Nat.reduceAdd, and_self, and_true, true_and, and_false, false_and]
              refine z_pop dX9_readWay_104 rfl ?_
              refine z_ret dX9_readWay_105 rfl (Nat.le_refl _) (Nat.le_refl _) (zext_rf _) ?_
              unfold zWy at hQ0
              rw [show (zsg (h0 3) n (zskip (h0 3) n p) - 97).toNat = a by omega, show (zsg (h0 3) n (zskip (h0 3) n (zskip (h0 3) n p + 1)) - 97).toNat = b by omega, if_neg (by omega), if_neg (by omega), if_pos (by omega)] at hQ0
              exact hQ0 rfl h hF9 hf9
        · refine z_al0 dX9_readWay_67 (by first | decide | omega | assumption) ?_
          refine zcv0 dX9_readWay_68 zkX9_166 ziX9_fails zsX9_fails (zkB hΓ rfl) (by decide) rfl (Nat.le_of_ble_eq_true rfl) (by decide) (by first | decide | omega) ⟨Nat.le_refl _, Nat.le_refl _⟩ (zN_fail hΓ hM (fun h hF9 hf9 _ => ?_))
          try simp only [zup_ap, zup_row, ne_eq, not_false_eq_true, zres, Int.toNat_natCast, reduceIte, Nat.reduceEqDiff, Nat.reduceAdd, and_self, and_true, true_and, and_false, false_and]
          refine z_pop dX9_readWay_71 rfl ?_
          refine z_ret dX9_readWay_72 rfl (Nat.le_refl _) (Nat.le_refl _) (zext_rf _) ?_
          unfold zWy at hQ0
          try rw [show (zsg (h0 3) n (zskip (h0 3) n p) - 97).toNat = a by omega, show (zsg (h0 3) n (zskip (h0 3) n (zskip (h0 3) n p + 1)) - 97).toNat = b by omega] at hQ0
          rw [if_neg (by omega), if_pos (by omega)] at hQ0
          exact hQ0 rfl h hF9 hf9
set_option maxRecDepth 4000 in
theorem X9_rI_w {l : Launch} {Γ : zC} {h0 : zM} {Q : Option zV → zC → zM → Prop} {n : Nat} {L : List Int} (hΓ : zBase Γ) (ht : ∀ j, j < n → 0 ≤ h0 3 j ∧ h0 3 j ≤ 255) (hn2 : n ≤ 160) (hL : L.length ≤ 6) : ∀ (f : Nat) (p : Nat) (D : zDM) (y : Option zV) (h : zM), 16 ≤ zpct D + f → zsy D → zMr Γ h0 h n p L D → p ≤ 160 → ((zWys (h0 3) n L.length (f) (zskip (h0 3) n p) (D)).1 = false → ∀ h2, zfr zSS h0 h2 → h2 89 11 = (((zWys (h0 3) n L.length (f) (zskip (h0 3) n p) (D)).2.1 : Nat) : Int) → Q none Γ h2) → ((zWys (h0 3) n L.length (f) (zskip (h0 3) n p) (D)).1 = true → ∀ h2 p2, zMr Γ h0 h2 n p2 L (zWys (h0 3) n L.length (f) (zskip (h0 3) n p) (D)).2.2 → Q none Γ h2) → zG (zFn l mX9_readIsles 2 0 0 Γ Q) 0 0 Γ h 165 [some (zR 89), some (zI 1), y] [] := by
  intro f
  induction f with
  | zero => intro p D y h hc; have := zpct_b D; omega
  | succ f ih =>
    intro p D y h hc hsy hM hp hQ0 hQ1
    have s0 := zskip_b (h0 3) n p
    refine z_il1 dX9_readIsles_165 ?_
    refine z_if_eq (t := 214) dX9_readIsles_166 (by rfl) (fun hx => absurd hx (by decide)) (fun _ => ?_)
    refine z_al0 dX9_readIsles_169 (by first | decide | omega | assumption) ?_
    refine zcv0 dX9_readIsles_170 zkX9_258 ziX9_readWay zsX9_readWay (zkB hΓ rfl) (by decide) rfl (Nat.le_of_ble_eq_true rfl) (by decide) (by first | decide | omega) ⟨Nat.le_refl _, Nat.le_refl _⟩ (X9_readWay_ct hΓ hM ht hn2 hp hL (fun hw h hF9 hf9 _ => ?_) (fun hw h p2 hM hp2 hp3 _ => ?_))
    · rw [zWys, if_pos hw] at hQ0
      have hQ9 := hQ0 hw h hF9 hf9
      try simp only [zup_ap, zup_row, ne_eq, not_false_eq_true, zres, Int.toNat_natCast, reduceIte, Nat.reduceEqDiff, Nat.reduceAdd, and_self, and_true, true_and, and_false, false_and]
      
      refine z_al0 dX9_readIsles_173 (by first | decide | omega | assumption) ?_
      refine z_getI zfX9_160 dX9_readIsles_174 (zkB hΓ rfl) rfl ?_
      rw [hf9]
      try simp only [zup_ap, zup_row, ne_eq, not_false_eq_true, zres, Int.toNat_natCast, reduceIte, Nat.reduceEqDiff, Nat.reduceAdd, and_self, and_true, true_and, and_false, false_and]
      refine z_iconst dX9_readIsles_177 (by decide) ?_
      refine z_icmp_eq (t := 182) dX9_readIsles_178 (by rfl) (fun ht178 => ?_) (fun hf178 => ?_)
      · exfalso; omega
      · skip
        refine z_ret dX9_readIsles_181 rfl (Nat.le_refl _) (Nat.le_refl _) (zext_rf _) ?_
        exact hQ9
    · have hz9 : zsg (h0 3) n (zskip (h0 3) n p2) = zsg (h0 3) n (zWy (h0 3) n L.length (zskip (h0 3) n p) D).2.1 := by rw [hp2]
      try simp only [zup_ap, zup_row, ne_eq, not_false_eq_true, zres, Int.toNat_natCast, reduceIte, Nat.reduceEqDiff, Nat.reduceAdd, and_self, and_true, true_and, and_false, false_and]
      
      refine z_al0 dX9_readIsles_173 (by first | decide | omega | assumption) ?_
      refine z_getI zfX9_160 dX9_readIsles_174 (zkB hΓ rfl) rfl ?_
      rw [hM.1.2.2.2.1]
      try simp only [zup_ap, zup_row, ne_eq, not_false_eq_true, zres, Int.toNat_natCast, reduceIte, Nat.reduceEqDiff, Nat.reduceAdd, and_self, and_true, true_and, and_false, false_and]
      refine z_iconst dX9_readIsles_177 (by decide) ?_
      refine z_icmp_eq (t := 182) dX9_readIsles_178 (by rfl) (fun ht178 => ?_) (fun hf178 => ?_)
      · refine z_al0 dX9_readIsles_182 (by first | decide | omega | assumption) ?_
        refine zcv0 dX9_readIsles_183 zkX9_170 ziX9_look zsX9_look (zkB hΓ rfl) (by decide) rfl (Nat.le_of_ble_eq_true rfl) (by decide) (by first | decide | omega) ⟨Nat.le_refl _, Nat.le_refl _⟩ (zN_look hΓ hM (by omega) (fun h hM _ => ?_))
        try simp only [zup_ap, zup_row, ne_eq, not_false_eq_true, zres, Int.toNat_natCast, reduceIte, Nat.reduceEqDiff, Nat.reduceAdd, and_self, and_true, true_and, and_false, false_and]
        refine z_bipush (x := 44) dX9_readIsles_186 (by rfl) (by decide) ?_
        refine z_icmp_ne (t := 195) dX9_readIsles_188 (by rfl) (fun ht188 => ?_) (fun hf188 => ?_)
        · have hs9 := zskip_b (h0 3) n p2
          have hg8 := ht188
          refine z_iconst dX9_readIsles_195 (by decide) ?_
          refine z_is1 dX9_readIsles_196 (Nat.le_of_ble_eq_true rfl) rfl ?_
          refine z_il1 dX9_readIsles_197 ?_
          refine z_if_eq (t := 165) dX9_readIsles_198 (by rfl) (fun _ => ?_) (fun hx => absurd hx (by decide))
          first
          | (have hM := zMr_p (p' := zskip (h0 3) n p2 + 1) (x := ((zskip (h0 3) n p2 : Nat) : Int) + 1) hM (by omega)
             have hn9 : ¬ n ≤ (zWy (h0 3) n L.length (zskip (h0 3) n p) D).2.1 := by rw [← hp2]; omega
             rw [zWys, if_neg (by rw [hw]; decide), if_neg hn9, if_pos (by rw [← hp2]; assumption), ← hp2] at hQ0 hQ1
             have hc9 := zWy_c (t := h0 3) (n := n) (q := zskip (h0 3) n p) hL hsy hw
             exact ih _ _ _ _ (by omega) hc9.2 hM (by omega) hQ0 hQ1)
          | (refine z_il1 dX9_readIsles_165 ?_
             refine z_if_eq (t := 214) dX9_readIsles_166 (by rfl) (fun _ => ?_) (fun hx => absurd rfl hx)
             have hg8 : ¬ zsg (h0 3) n (zskip (h0 3) n p2) = 44 := hg8
             refine z_al0 dX9_readIsles_214 (by first | decide | omega | assumption) ?_
             refine zcv0 dX9_readIsles_215 zkX9_170 ziX9_look zsX9_look (zkB hΓ rfl) (by decide) rfl (Nat.le_of_ble_eq_true rfl) (by decide) (by first | decide | omega) ⟨Nat.le_refl _, Nat.le_refl _⟩ (zN_look hΓ hM (by omega) (fun h hM _ => ?_))
             try simp only [zup_ap, zup_row, ne_eq, not_false_eq_true, zres, Int.toNat_natCast, reduceIte, Nat.reduceEqDiff, Nat.reduceAdd, and_self, and_true, true_and, and_false, false_and]
             rw [zskip_id] at hM ⊢
             refine z_iconst dX9_readIsles_218 (by decide) ?_
             refine z_icmp_eq (t := 227) dX9_readIsles_219 (by rfl) (fun ht219 => ?_) (fun hf219 => ?_)
             · have hg9 := ht219
               refine z_ret dX9_readIsles_227 rfl (Nat.le_refl _) (Nat.le_refl _) (zext_rf _) ?_
               first
               | (rw [zWys, if_neg (by rw [hw]; decide), if_pos ((zsg_nn (fun j hj => (ht j hj).1)).2 (by rw [← hp2]; exact hg9))] at hQ1
                  exact hQ1 hw h _ hM)
               | (have hn9 : ¬ n ≤ (zWy (h0 3) n L.length (zskip (h0 3) n p) D).2.1 := fun x => hg9 (by rw [hp2]; exact (zsg_nn (fun j hj => (ht j hj).1)).1 x)
                  rw [zWys, if_neg (by rw [hw]; decide), if_neg hn9, if_neg (by rw [← hp2]; exact hg8)] at hQ0
                  rw [hp2] at hf9
                  exact hQ0 rfl h hF9 hf9)
             · have hg9 := hf219
               refine z_al0 dX9_readIsles_222 (by first | decide | omega | assumption) ?_
               refine zcv0 dX9_readIsles_223 zkX9_166 ziX9_fails zsX9_fails (zkB hΓ rfl) (by decide) rfl (Nat.le_of_ble_eq_true rfl) (by decide) (by first | decide | omega) ⟨Nat.le_refl _, Nat.le_refl _⟩ (zN_fail hΓ hM (fun h hF9 hf9 _ => ?_))
               try simp only [zup_ap, zup_row, ne_eq, not_false_eq_true, zres, Int.toNat_natCast, reduceIte, Nat.reduceEqDiff, Nat.reduceAdd, and_self, and_true, true_and, and_false, false_and]
               refine z_pop dX9_readIsles_226 rfl ?_
               refine z_ret dX9_readIsles_227 rfl (Nat.le_refl _) (Nat.le_refl _) (zext_rf _) ?_
               first
               | (rw [zWys, if_neg (by rw [hw]; decide), if_pos ((zsg_nn (fun j hj => (ht j hj).1)).2 (by rw [← hp2]; exact hg9))] at hQ1
                  exact hQ1 hw h _ hM)
               | (have hn9 : ¬ n ≤ (zWy (h0 3) n L.length (zskip (h0 3) n p) D).2.1 := fun x => hg9 (by rw [hp2]; exact (zsg_nn (fun j hj => (ht j hj).1)).1 x)
                  rw [zWys, if_neg (by rw [hw]; decide), if_neg hn9, if_neg (by rw [← hp2]; exact hg8)] at hQ0
                  rw [hp2] at hf9
                  exact hQ0 rfl h hF9 hf9))
        · have hs9 := zskip_b (h0 3) n p2
          have l9 := zsg_lt (t := h0 3) (n := n) (q := zskip (h0 3) n p2) (x := 44) (by assumption) (by decide)
          refine z_iconst dX9_readIsles_191 (by decide) ?_
          refine z_goto (t := 196) dX9_readIsles_192 (by rfl) ?_
          refine z_is1 dX9_readIsles_196 (Nat.le_of_ble_eq_true rfl) rfl ?_
          refine z_il1 dX9_readIsles_197 ?_
          refine z_if_eq (t := 165) dX9_readIsles_198 (by rfl) (fun hx => absurd hx (by decide)) (fun _ => ?_)
          refine z_al0 dX9_readIsles_201 (by first | decide | omega | assumption) ?_
          refine z_dup dX9_readIsles_202 rfl ?_
          refine z_getI zfX9_151 dX9_readIsles_203 (zkB hΓ rfl) rfl ?_
          rw [hM.1.2.2.1]
          try simp only [zup_ap, zup_row, ne_eq, not_false_eq_true, zres, Int.toNat_natCast, reduceIte, Nat.reduceEqDiff, Nat.reduceAdd, and_self, and_true, true_and, and_false, false_and]
          refine z_iconst dX9_readIsles_206 (by decide) ?_
          refine z_iadd dX9_readIsles_207 (by omega) ?_
          refine z_putI zfX9_151 dX9_readIsles_208 (zkB hΓ rfl) rfl rfl ?_
          refine z_goto (t := 165) dX9_readIsles_211 (by rfl) ?_
          first
          | (have hM := zMr_p (p' := zskip (h0 3) n p2 + 1) (x := ((zskip (h0 3) n p2 : Nat) : Int) + 1) hM (by omega)
             have hn9 : ¬ n ≤ (zWy (h0 3) n L.length (zskip (h0 3) n p) D).2.1 := by rw [← hp2]; omega
             rw [zWys, if_neg (by rw [hw]; decide), if_neg hn9, if_pos (by rw [← hp2]; assumption), ← hp2] at hQ0 hQ1
             have hc9 := zWy_c (t := h0 3) (n := n) (q := zskip (h0 3) n p) hL hsy hw
             exact ih _ _ _ _ (by omega) hc9.2 hM (by omega) hQ0 hQ1)
          | (refine z_il1 dX9_readIsles_165 ?_
             refine z_if_eq (t := 214) dX9_readIsles_166 (by rfl) (fun _ => ?_) (fun hx => absurd rfl hx)
             have hg8 : ¬ zsg (h0 3) n (zskip (h0 3) n p2) = 44 := hg8
             refine z_al0 dX9_readIsles_214 (by first | decide | omega | assumption) ?_
             refine zcv0 dX9_readIsles_215 zkX9_170 ziX9_look zsX9_look (zkB hΓ rfl) (by decide) rfl (Nat.le_of_ble_eq_true rfl) (by decide) (by first | decide | omega) ⟨Nat.le_refl _, Nat.le_refl _⟩ (zN_look hΓ hM (by omega) (fun h hM _ => ?_))
             try simp only [zup_ap, zup_row, ne_eq, not_false_eq_true, zres, Int.toNat_natCast, reduceIte, Nat.reduceEqDiff, Nat.reduceAdd, and_self, and_true, true_and, and_false, false_and]
             rw [zskip_id] at hM ⊢
             refine z_iconst dX9_readIsles_218 (by decide) ?_
             refine z_icmp_eq (t := 227) dX9_readIsles_219 (by rfl) (fun ht219 => ?_) (fun hf219 => ?_)
             · have hg9 := ht219
               refine z_ret dX9_readIsles_227 rfl (Nat.le_refl _) (Nat.le_refl _) (zext_rf _) ?_
               first
               | (rw [zWys, if_neg (by rw [hw]; decide), if_pos ((zsg_nn (fun j hj => (ht j hj).1)).2 (by rw [← hp2]; exact hg9))] at hQ1
                  exact hQ1 hw h _ hM)
               | (have hn9 : ¬ n ≤ (zWy (h0 3) n L.length (zskip (h0 3) n p) D).2.1 := fun x => hg9 (by rw [hp2]; exact (zsg_nn (fun j hj => (ht j hj).1)).1 x)
                  rw [zWys, if_neg (by rw [hw]; decide), if_neg hn9, if_neg (by rw [← hp2]; exact hg8)] at hQ0
                  rw [hp2] at hf9
                  exact hQ0 rfl h hF9 hf9)
             · have hg9 := hf219
               refine z_al0 dX9_readIsles_222 (by first | decide | omega | assumption) ?_
               refine zcv0 dX9_readIsles_223 zkX9_166 ziX9_fails zsX9_fails (zkB hΓ rfl) (by decide) rfl (Nat.le_of_ble_eq_true rfl) (by decide) (by first | decide | omega) ⟨Nat.le_refl _, Nat.le_refl _⟩ (zN_fail hΓ hM (fun h hF9 hf9 _ => ?_))
               try simp only [zup_ap, zup_row, ne_eq, not_false_eq_true, zres, Int.toNat_natCast, reduceIte, Nat.reduceEqDiff, Nat.reduceAdd, and_self, and_true, true_and, and_false, false_and]
               refine z_pop dX9_readIsles_226 rfl ?_
               refine z_ret dX9_readIsles_227 rfl (Nat.le_refl _) (Nat.le_refl _) (zext_rf _) ?_
               first
               | (rw [zWys, if_neg (by rw [hw]; decide), if_pos ((zsg_nn (fun j hj => (ht j hj).1)).2 (by rw [← hp2]; exact hg9))] at hQ1
                  exact hQ1 hw h _ hM)
               | (have hn9 : ¬ n ≤ (zWy (h0 3) n L.length (zskip (h0 3) n p) D).2.1 := fun x => hg9 (by rw [hp2]; exact (zsg_nn (fun j hj => (ht j hj).1)).1 x)
                  rw [zWys, if_neg (by rw [hw]; decide), if_neg hn9, if_neg (by rw [← hp2]; exact hg8)] at hQ0
                  rw [hp2] at hf9
                  exact hQ0 rfl h hF9 hf9))
      · exfalso; omega
set_option maxRecDepth 4000 in
theorem X9_rI_t {l : Launch} {Γ : zC} {h0 : zM} {Q : Option zV → zC → zM → Prop} {n : Nat} {D : zDM} (hΓ : zBase Γ) (ht : ∀ j, j < n → 0 ≤ h0 3 j ∧ h0 3 j ≤ 255) (hn2 : n ≤ 160) : ∀ (m : Nat) (p : Nat) (L : List Int) (y : Option zV) (h : zM), L.length + m = 6 → 1 ≤ m → zMr Γ h0 h n p L D → p ≤ 160 → ((zTbs (h0 3) n (m) (zskip (h0 3) n p) (L)).1 = false → ∀ h2, zfr zSS h0 h2 → h2 89 11 = (((zTbs (h0 3) n (m) (zskip (h0 3) n p) (L)).2.1 : Nat) : Int) → Q none Γ h2) → ((zTbs (h0 3) n (m) (zskip (h0 3) n p) (L)).1 = true → ∀ h2 p2 y2, zMr Γ h0 h2 n p2 (zTbs (h0 3) n (m) (zskip (h0 3) n p) (L)).2.2 D → zskip (h0 3) n p2 = (zTbs (h0 3) n (m) (zskip (h0 3) n p) (L)).2.1 → p2 ≤ 160 → zG (zFn l mX9_readIsles 2 0 0 Γ Q) 0 0 Γ h2 165 [some (zR 89), some (zI 1), y2] []) → zG (zFn l mX9_readIsles 2 0 0 Γ Q) 0 0 Γ h 41 [some (zR 89), some (zI 1), y] [] := by
  intro m
  induction m with
  | zero => intros; omega
  | succ m ih =>
    intro p L y h hm hm1 hM hp hQ0 hK
    have s0 := zskip_b (h0 3) n p
    refine z_il1 dX9_readIsles_41 ?_
    refine z_if_eq (t := 130) dX9_readIsles_42 (by rfl) (fun hx => absurd hx (by decide)) (fun _ => ?_)
    refine z_al0 dX9_readIsles_45 (by first | decide | omega | assumption) ?_
    refine zcv0 dX9_readIsles_46 zkX9_255 ziX9_twoDigits zsX9_twoDigits (zkB hΓ rfl) (by decide) rfl (Nat.le_of_ble_eq_true rfl) (by decide) (by first | decide | omega) ⟨Nat.le_refl _, Nat.le_refl _⟩ (zN_two hΓ hM hp hn2 (fun hd h hF9 hf9 _ => ?_) (fun hd hd3 h hF9 hf9 _ => ?_) (fun hd hd3 h hM _ => ?_))
    · have e9 : (znum (h0 3) n 2 (zskip (h0 3) n p) 0).2 = zskip (h0 3) n p := by rw [znum_0 (Or.inr hd)]
      rw [zTbs, if_pos e9, zskip_id] at hQ0
      have hQ9 := hQ0 rfl h hF9 hf9
      try simp only [zup_ap, zup_row, ne_eq, not_false_eq_true, zres, Int.toNat_natCast, reduceIte, Nat.reduceEqDiff, Nat.reduceAdd, and_self, and_true, true_and, and_false, false_and]
      
      refine z_is2 dX9_readIsles_49 (Nat.le_of_ble_eq_true rfl) rfl ?_
      refine z_al0 dX9_readIsles_50 (by first | decide | omega | assumption) ?_
      refine z_getI zfX9_160 dX9_readIsles_51 (zkB hΓ rfl) rfl ?_
      rw [hf9]
      try simp only [zup_ap, zup_row, ne_eq, not_false_eq_true, zres, Int.toNat_natCast, reduceIte, Nat.reduceEqDiff, Nat.reduceAdd, and_self, and_true, true_and, and_false, false_and]
      refine z_iconst dX9_readIsles_54 (by decide) ?_
      refine z_icmp_eq (t := 59) dX9_readIsles_55 (by rfl) (fun ht55 => ?_) (fun hf55 => ?_)
      · exfalso; omega
      · skip
        refine z_ret dX9_readIsles_58 rfl (Nat.le_refl _) (Nat.le_refl _) (zext_rf _) ?_
        exact hQ9
    · have e9 : ¬ (znum (h0 3) n 2 (zskip (h0 3) n p) 0).2 = zskip (h0 3) n p := by
        have k1 := znum_p (h0 3) n 1 (zskip (h0 3) n p + 1) (10 * 0 + zsg (h0 3) n (zskip (h0 3) n p) - 48)
        rw [znum_1 (e := 1) hd]
        omega
      have hp9 := znum_p (h0 3) n 2 (zskip (h0 3) n p) 0
      have hs9 := zskip_b (h0 3) n (znum (h0 3) n 2 (zskip (h0 3) n p) 0).2
      have ez := zskip_dg hd3
      rw [zTbs, if_neg e9, ez, if_neg (by omega)] at hQ0
      try simp only [zup_ap, zup_row, ne_eq, not_false_eq_true, zres, Int.toNat_natCast, reduceIte, Nat.reduceEqDiff, Nat.reduceAdd, and_self, and_true, true_and, and_false, false_and]
      
      refine z_is2 dX9_readIsles_49 (Nat.le_of_ble_eq_true rfl) rfl ?_
      refine z_al0 dX9_readIsles_50 (by first | decide | omega | assumption) ?_
      refine z_getI zfX9_160 dX9_readIsles_51 (zkB hΓ rfl) rfl ?_
      rw [hf9]
      try simp only [zup_ap, zup_row, ne_eq, not_false_eq_true, zres, Int.toNat_natCast, reduceIte, Nat.reduceEqDiff, Nat.reduceAdd, and_self, and_true, true_and, and_false, false_and]
      refine z_iconst dX9_readIsles_54 (by decide) ?_
      refine z_icmp_eq (t := 59) dX9_readIsles_55 (by rfl) (fun ht55 => ?_) (fun hf55 => ?_)
      · exfalso; omega
      · skip
        refine z_ret dX9_readIsles_58 rfl (Nat.le_refl _) (Nat.le_refl _) (zext_rf _) ?_
        by_cases e6 : L.length + 1 = 6
        · rw [if_pos e6] at hQ0; exact hQ0 rfl h hF9 hf9
        · rw [if_neg e6, if_neg (by omega)] at hQ0; exact hQ0 rfl h hF9 hf9
    · have e9 : ¬ (znum (h0 3) n 2 (zskip (h0 3) n p) 0).2 = zskip (h0 3) n p := by
        have k1 := znum_p (h0 3) n 1 (zskip (h0 3) n p + 1) (10 * 0 + zsg (h0 3) n (zskip (h0 3) n p) - 48)
        rw [znum_1 (e := 1) hd]
        omega
      have hp9 := znum_p (h0 3) n 2 (zskip (h0 3) n p) 0
      have hs9 := zskip_b (h0 3) n (znum (h0 3) n 2 (zskip (h0 3) n p) 0).2
      try simp only [zup_ap, zup_row, ne_eq, not_false_eq_true, zres, Int.toNat_natCast, reduceIte, Nat.reduceEqDiff, Nat.reduceAdd, and_self, and_true, true_and, and_false, false_and]
      
      refine z_is2 dX9_readIsles_49 (Nat.le_of_ble_eq_true rfl) rfl ?_
      refine z_al0 dX9_readIsles_50 (by first | decide | omega | assumption) ?_
      refine z_getI zfX9_160 dX9_readIsles_51 (zkB hΓ rfl) rfl ?_
      rw [hM.1.2.2.2.1]
      try simp only [zup_ap, zup_row, ne_eq, not_false_eq_true, zres, Int.toNat_natCast, reduceIte, Nat.reduceEqDiff, Nat.reduceAdd, and_self, and_true, true_and, and_false, false_and]
      refine z_iconst dX9_readIsles_54 (by decide) ?_
      refine z_icmp_eq (t := 59) dX9_readIsles_55 (by rfl) (fun ht55 => ?_) (fun hf55 => ?_)
      · have hLm : L.length < 6 := by omega
        refine z_al0 dX9_readIsles_59 (by first | decide | omega | assumption) ?_
        refine z_getR zfX9_40 dX9_readIsles_60 (zkB hΓ rfl) rfl (zsB hΓ rfl) (zvB hΓ (by decide)) ?_
        refine z_al0 dX9_readIsles_63 (by first | decide | omega | assumption) ?_
        refine z_getI zfX9_249 dX9_readIsles_64 (zkB hΓ rfl) rfl ?_
        try rw [zup_row (show (89 : Nat) ≠ 95 by decide)]
        rw [hM.1.2.2.2.2.1]
        try simp only [zup_ap, zup_row, ne_eq, not_false_eq_true, zres, Int.toNat_natCast, reduceIte, Nat.reduceEqDiff, Nat.reduceAdd, and_self, and_true, true_and, and_false, false_and]
        refine z_il2 dX9_readIsles_67 ?_
        refine z_iast dX9_readIsles_68 (zkB hΓ rfl) (by omega) (by omega) ?_
        refine z_al0 dX9_readIsles_69 (by first | decide | omega | assumption) ?_
        refine z_dup dX9_readIsles_70 rfl ?_
        refine z_getI zfX9_249 dX9_readIsles_71 (zkB hΓ rfl) rfl ?_
        try rw [zup_row (show (89 : Nat) ≠ 95 by decide)]
        rw [hM.1.2.2.2.2.1]
        try simp only [zup_ap, zup_row, ne_eq, not_false_eq_true, zres, Int.toNat_natCast, reduceIte, Nat.reduceEqDiff, Nat.reduceAdd, and_self, and_true, true_and, and_false, false_and]
        refine z_iconst dX9_readIsles_74 (by decide) ?_
        refine z_iadd dX9_readIsles_75 (by omega) ?_
        refine z_putI zfX9_249 dX9_readIsles_76 (zkB hΓ rfl) rfl rfl ?_
        try simp only [Int.toNat_natCast]
        have hM := zMr_l hM ((znum (h0 3) n 2 (zskip (h0 3) n p) 0).1)
        generalize zup (zup h 95 L.length ((znum (h0 3) n 2 (zskip (h0 3) n p) 0).1)) 89 23 ((L.length : Int) + 1) = h at hM ⊢
        have hLL : (L ++ [(znum (h0 3) n 2 (zskip (h0 3) n p) 0).1]).length = L.length + 1 := by rw [List.length_append]; rfl
        refine z_al0 dX9_readIsles_79 (by first | decide | omega | assumption) ?_
        refine zcv0 dX9_readIsles_80 zkX9_170 ziX9_look zsX9_look (zkB hΓ rfl) (by decide) rfl (Nat.le_of_ble_eq_true rfl) (by decide) (by first | decide | omega) ⟨Nat.le_refl _, Nat.le_refl _⟩ (zN_look hΓ hM (by omega) (fun h hM _ => ?_))
        try simp only [zup_ap, zup_row, ne_eq, not_false_eq_true, zres, Int.toNat_natCast, reduceIte, Nat.reduceEqDiff, Nat.reduceAdd, and_self, and_true, true_and, and_false, false_and]
        refine z_bipush (x := 44) dX9_readIsles_83 (by rfl) (by decide) ?_
        refine z_icmp_ne (t := 92) dX9_readIsles_85 (by rfl) (fun ht85 => ?_) (fun hf85 => ?_)
        · refine z_iconst dX9_readIsles_92 (by decide) ?_
          refine z_is1 dX9_readIsles_93 (Nat.le_of_ble_eq_true rfl) rfl ?_
          refine z_il1 dX9_readIsles_94 ?_
          refine z_if_eq (t := 113) dX9_readIsles_95 (by rfl) (fun _ => ?_) (fun hx => absurd hx (by decide))
          refine z_il1 dX9_readIsles_113 ?_
          refine z_if_eq (t := 127) dX9_readIsles_114 (by rfl) (fun _ => ?_) (fun hx => absurd hx (by decide))
          refine z_goto (t := 41) dX9_readIsles_127 (by rfl) ?_
          first
          | (have l9 := zsg_lt (t := h0 3) (n := n) (q := zskip (h0 3) n (znum (h0 3) n 2 (zskip (h0 3) n p) 0).2) (x := 44) (by assumption) (by decide)
             have hM := zMr_p (p' := zskip (h0 3) n (znum (h0 3) n 2 (zskip (h0 3) n p) 0).2 + 1) (x := ((zskip (h0 3) n (znum (h0 3) n 2 (zskip (h0 3) n p) 0).2 : Nat) : Int) + 1) hM (by omega)
             rw [zTbs, if_neg e9, if_neg (by omega), if_neg (by omega), if_pos (by assumption)] at hQ0 hK
             exact ih _ _ _ _ (by omega) (by omega) hM (by omega) hQ0 hK)
          | (refine z_il1 dX9_readIsles_41 ?_
             refine z_if_eq (t := 130) dX9_readIsles_42 (by rfl) (fun _ => ?_) (fun hx => absurd rfl hx)
             refine z_al0 dX9_readIsles_130 (by first | decide | omega | assumption) ?_
             refine zcv0 dX9_readIsles_131 zkX9_170 ziX9_look zsX9_look (zkB hΓ rfl) (by decide) rfl (Nat.le_of_ble_eq_true rfl) (by decide) (by first | decide | omega) ⟨Nat.le_refl _, Nat.le_refl _⟩ (zN_look hΓ hM (by omega) (fun h hM _ => ?_))
             try simp only [zup_ap, zup_row, ne_eq, not_false_eq_true, zres, Int.toNat_natCast, reduceIte, Nat.reduceEqDiff, Nat.reduceAdd, and_self, and_true, true_and, and_false, false_and]
             rw [zskip_id] at hM ⊢
             refine z_bipush (x := 59) dX9_readIsles_134 (by rfl) (by decide) ?_
             refine z_icmp_ne (t := 147) dX9_readIsles_136 (by rfl) (fun ht136 => ?_) (fun hf136 => ?_)
             · refine z_al0 dX9_readIsles_147 (by first | decide | omega | assumption) ?_
               refine zcv0 dX9_readIsles_148 zkX9_166 ziX9_fails zsX9_fails (zkB hΓ rfl) (by decide) rfl (Nat.le_of_ble_eq_true rfl) (by decide) (by first | decide | omega) ⟨Nat.le_refl _, Nat.le_refl _⟩ (zN_fail hΓ hM (fun h hF9 hf9 _ => ?_))
               try simp only [zup_ap, zup_row, ne_eq, not_false_eq_true, zres, Int.toNat_natCast, reduceIte, Nat.reduceEqDiff, Nat.reduceAdd, and_self, and_true, true_and, and_false, false_and]
               refine z_pop dX9_readIsles_151 rfl ?_
               refine z_ret dX9_readIsles_152 rfl (Nat.le_refl _) (Nat.le_refl _) (zext_rf _) ?_
               rw [zTbs, if_neg e9, if_neg (by omega)] at hQ0
               by_cases e6 : L.length + 1 = 6
               · rw [if_pos e6] at hQ0; exact hQ0 rfl h hF9 hf9
               · rw [if_neg e6, if_neg (by omega)] at hQ0; exact hQ0 rfl h hF9 hf9
             · refine z_al0 dX9_readIsles_139 (by first | decide | omega | assumption) ?_
               refine z_getI zfX9_249 dX9_readIsles_140 (zkB hΓ rfl) rfl ?_
               try rw [zup_row (show (89 : Nat) ≠ 95 by decide)]
               rw [hM.1.2.2.2.2.1]
               try simp only [zup_ap, zup_row, ne_eq, not_false_eq_true, zres, Int.toNat_natCast, reduceIte, Nat.reduceEqDiff, Nat.reduceAdd, and_self, and_true, true_and, and_false, false_and]
               refine z_iconst dX9_readIsles_143 (by decide) ?_
               refine z_icmp_ge (t := 153) dX9_readIsles_144 (by rfl) (fun ht144 => ?_) (fun hf144 => ?_)
               · have l9 := zsg_lt (t := h0 3) (n := n) (q := zskip (h0 3) n (znum (h0 3) n 2 (zskip (h0 3) n p) 0).2) (x := 59) (by assumption) (by decide)
                 refine z_al0 dX9_readIsles_153 (by first | decide | omega | assumption) ?_
                 refine z_dup dX9_readIsles_154 rfl ?_
                 refine z_getI zfX9_151 dX9_readIsles_155 (zkB hΓ rfl) rfl ?_
                 rw [hM.1.2.2.1]
                 try simp only [zup_ap, zup_row, ne_eq, not_false_eq_true, zres, Int.toNat_natCast, reduceIte, Nat.reduceEqDiff, Nat.reduceAdd, and_self, and_true, true_and, and_false, false_and]
                 refine z_iconst dX9_readIsles_158 (by decide) ?_
                 refine z_iadd dX9_readIsles_159 (by omega) ?_
                 refine z_putI zfX9_151 dX9_readIsles_160 (zkB hΓ rfl) rfl rfl ?_
                 have hM := zMr_p (p' := zskip (h0 3) n (znum (h0 3) n 2 (zskip (h0 3) n p) 0).2 + 1) (x := ((zskip (h0 3) n (znum (h0 3) n 2 (zskip (h0 3) n p) 0).2 : Nat) : Int) + 1) hM (by omega)
                 refine z_iconst dX9_readIsles_163 (by decide) ?_
                 refine z_is1 dX9_readIsles_164 (Nat.le_of_ble_eq_true rfl) rfl ?_
                 rw [zTbs, if_neg e9, if_pos ⟨by omega, by assumption⟩] at hK
                 exact hK rfl _ (zskip (h0 3) n (znum (h0 3) n 2 (zskip (h0 3) n p) 0).2 + 1) _ hM rfl (by omega)
               · refine z_al0 dX9_readIsles_147 (by first | decide | omega | assumption) ?_
                 refine zcv0 dX9_readIsles_148 zkX9_166 ziX9_fails zsX9_fails (zkB hΓ rfl) (by decide) rfl (Nat.le_of_ble_eq_true rfl) (by decide) (by first | decide | omega) ⟨Nat.le_refl _, Nat.le_refl _⟩ (zN_fail hΓ hM (fun h hF9 hf9 _ => ?_))
                 try simp only [zup_ap, zup_row, ne_eq, not_false_eq_true, zres, Int.toNat_natCast, reduceIte, Nat.reduceEqDiff, Nat.reduceAdd, and_self, and_true, true_and, and_false, false_and]
                 refine z_pop dX9_readIsles_151 rfl ?_
                 refine z_ret dX9_readIsles_152 rfl (Nat.le_refl _) (Nat.le_refl _) (zext_rf _) ?_
                 rw [zTbs, if_neg e9, if_neg (by omega)] at hQ0
                 by_cases e6 : L.length + 1 = 6
                 · rw [if_pos e6] at hQ0; exact hQ0 rfl h hF9 hf9
                 · rw [if_neg e6, if_neg (by omega)] at hQ0; exact hQ0 rfl h hF9 hf9)
        · refine z_iconst dX9_readIsles_88 (by decide) ?_
          refine z_goto (t := 93) dX9_readIsles_89 (by rfl) ?_
          refine z_is1 dX9_readIsles_93 (Nat.le_of_ble_eq_true rfl) rfl ?_
          refine z_il1 dX9_readIsles_94 ?_
          refine z_if_eq (t := 113) dX9_readIsles_95 (by rfl) (fun hx => absurd hx (by decide)) (fun _ => ?_)
          refine z_al0 dX9_readIsles_98 (by first | decide | omega | assumption) ?_
          refine z_getI zfX9_249 dX9_readIsles_99 (zkB hΓ rfl) rfl ?_
          try rw [zup_row (show (89 : Nat) ≠ 95 by decide)]
          rw [hM.1.2.2.2.2.1]
          try simp only [zup_ap, zup_row, ne_eq, not_false_eq_true, zres, Int.toNat_natCast, reduceIte, Nat.reduceEqDiff, Nat.reduceAdd, and_self, and_true, true_and, and_false, false_and]
          refine z_bipush (x := 6) dX9_readIsles_102 (by rfl) (by decide) ?_
          refine z_icmp_ne (t := 113) dX9_readIsles_104 (by rfl) (fun ht104 => ?_) (fun hf104 => ?_)
          · refine z_il1 dX9_readIsles_113 ?_
            refine z_if_eq (t := 127) dX9_readIsles_114 (by rfl) (fun hx => absurd hx (by decide)) (fun _ => ?_)
            refine z_al0 dX9_readIsles_117 (by first | decide | omega | assumption) ?_
            refine z_dup dX9_readIsles_118 rfl ?_
            refine z_getI zfX9_151 dX9_readIsles_119 (zkB hΓ rfl) rfl ?_
            rw [hM.1.2.2.1]
            try simp only [zup_ap, zup_row, ne_eq, not_false_eq_true, zres, Int.toNat_natCast, reduceIte, Nat.reduceEqDiff, Nat.reduceAdd, and_self, and_true, true_and, and_false, false_and]
            refine z_iconst dX9_readIsles_122 (by decide) ?_
            refine z_iadd dX9_readIsles_123 (by omega) ?_
            refine z_putI zfX9_151 dX9_readIsles_124 (zkB hΓ rfl) rfl rfl ?_
            refine z_goto (t := 41) dX9_readIsles_127 (by rfl) ?_
            first
            | (have l9 := zsg_lt (t := h0 3) (n := n) (q := zskip (h0 3) n (znum (h0 3) n 2 (zskip (h0 3) n p) 0).2) (x := 44) (by assumption) (by decide)
               have hM := zMr_p (p' := zskip (h0 3) n (znum (h0 3) n 2 (zskip (h0 3) n p) 0).2 + 1) (x := ((zskip (h0 3) n (znum (h0 3) n 2 (zskip (h0 3) n p) 0).2 : Nat) : Int) + 1) hM (by omega)
               rw [zTbs, if_neg e9, if_neg (by omega), if_neg (by omega), if_pos (by assumption)] at hQ0 hK
               exact ih _ _ _ _ (by omega) (by omega) hM (by omega) hQ0 hK)
            | (refine z_il1 dX9_readIsles_41 ?_
               refine z_if_eq (t := 130) dX9_readIsles_42 (by rfl) (fun _ => ?_) (fun hx => absurd rfl hx)
               refine z_al0 dX9_readIsles_130 (by first | decide | omega | assumption) ?_
               refine zcv0 dX9_readIsles_131 zkX9_170 ziX9_look zsX9_look (zkB hΓ rfl) (by decide) rfl (Nat.le_of_ble_eq_true rfl) (by decide) (by first | decide | omega) ⟨Nat.le_refl _, Nat.le_refl _⟩ (zN_look hΓ hM (by omega) (fun h hM _ => ?_))
               try simp only [zup_ap, zup_row, ne_eq, not_false_eq_true, zres, Int.toNat_natCast, reduceIte, Nat.reduceEqDiff, Nat.reduceAdd, and_self, and_true, true_and, and_false, false_and]
               rw [zskip_id] at hM ⊢
               refine z_bipush (x := 59) dX9_readIsles_134 (by rfl) (by decide) ?_
               refine z_icmp_ne (t := 147) dX9_readIsles_136 (by rfl) (fun ht136 => ?_) (fun hf136 => ?_)
               · refine z_al0 dX9_readIsles_147 (by first | decide | omega | assumption) ?_
                 refine zcv0 dX9_readIsles_148 zkX9_166 ziX9_fails zsX9_fails (zkB hΓ rfl) (by decide) rfl (Nat.le_of_ble_eq_true rfl) (by decide) (by first | decide | omega) ⟨Nat.le_refl _, Nat.le_refl _⟩ (zN_fail hΓ hM (fun h hF9 hf9 _ => ?_))
                 try simp only [zup_ap, zup_row, ne_eq, not_false_eq_true, zres, Int.toNat_natCast, reduceIte, Nat.reduceEqDiff, Nat.reduceAdd, and_self, and_true, true_and, and_false, false_and]
                 refine z_pop dX9_readIsles_151 rfl ?_
                 refine z_ret dX9_readIsles_152 rfl (Nat.le_refl _) (Nat.le_refl _) (zext_rf _) ?_
                 rw [zTbs, if_neg e9, if_neg (by omega)] at hQ0
                 by_cases e6 : L.length + 1 = 6
                 · rw [if_pos e6] at hQ0; exact hQ0 rfl h hF9 hf9
                 · rw [if_neg e6, if_neg (by omega)] at hQ0; exact hQ0 rfl h hF9 hf9
               · refine z_al0 dX9_readIsles_139 (by first | decide | omega | assumption) ?_
                 refine z_getI zfX9_249 dX9_readIsles_140 (zkB hΓ rfl) rfl ?_
                 try rw [zup_row (show (89 : Nat) ≠ 95 by decide)]
                 rw [hM.1.2.2.2.2.1]
                 try simp only [zup_ap, zup_row, ne_eq, not_false_eq_true, zres, Int.toNat_natCast, reduceIte, Nat.reduceEqDiff, Nat.reduceAdd, and_self, and_true, true_and, and_false, false_and]
                 refine z_iconst dX9_readIsles_143 (by decide) ?_
                 refine z_icmp_ge (t := 153) dX9_readIsles_144 (by rfl) (fun ht144 => ?_) (fun hf144 => ?_)
                 · have l9 := zsg_lt (t := h0 3) (n := n) (q := zskip (h0 3) n (znum (h0 3) n 2 (zskip (h0 3) n p) 0).2) (x := 59) (by assumption) (by decide)
                   refine z_al0 dX9_readIsles_153 (by first | decide | omega | assumption) ?_
                   refine z_dup dX9_readIsles_154 rfl ?_
                   refine z_getI zfX9_151 dX9_readIsles_155 (zkB hΓ rfl) rfl ?_
                   rw [hM.1.2.2.1]
                   try simp only [zup_ap, zup_row, ne_eq, not_false_eq_true, zres, Int.toNat_natCast, reduceIte, Nat.reduceEqDiff, Nat.reduceAdd, and_self, and_true, true_and, and_false, false_and]
                   refine z_iconst dX9_readIsles_158 (by decide) ?_
                   refine z_iadd dX9_readIsles_159 (by omega) ?_
                   refine z_putI zfX9_151 dX9_readIsles_160 (zkB hΓ rfl) rfl rfl ?_
                   have hM := zMr_p (p' := zskip (h0 3) n (znum (h0 3) n 2 (zskip (h0 3) n p) 0).2 + 1) (x := ((zskip (h0 3) n (znum (h0 3) n 2 (zskip (h0 3) n p) 0).2 : Nat) : Int) + 1) hM (by omega)
                   refine z_iconst dX9_readIsles_163 (by decide) ?_
                   refine z_is1 dX9_readIsles_164 (Nat.le_of_ble_eq_true rfl) rfl ?_
                   rw [zTbs, if_neg e9, if_pos ⟨by omega, by assumption⟩] at hK
                   exact hK rfl _ (zskip (h0 3) n (znum (h0 3) n 2 (zskip (h0 3) n p) 0).2 + 1) _ hM rfl (by omega)
                 · refine z_al0 dX9_readIsles_147 (by first | decide | omega | assumption) ?_
                   refine zcv0 dX9_readIsles_148 zkX9_166 ziX9_fails zsX9_fails (zkB hΓ rfl) (by decide) rfl (Nat.le_of_ble_eq_true rfl) (by decide) (by first | decide | omega) ⟨Nat.le_refl _, Nat.le_refl _⟩ (zN_fail hΓ hM (fun h hF9 hf9 _ => ?_))
                   try simp only [zup_ap, zup_row, ne_eq, not_false_eq_true, zres, Int.toNat_natCast, reduceIte, Nat.reduceEqDiff, Nat.reduceAdd, and_self, and_true, true_and, and_false, false_and]
                   refine z_pop dX9_readIsles_151 rfl ?_
                   refine z_ret dX9_readIsles_152 rfl (Nat.le_refl _) (Nat.le_refl _) (zext_rf _) ?_
                   rw [zTbs, if_neg e9, if_neg (by omega)] at hQ0
                   by_cases e6 : L.length + 1 = 6
                   · rw [if_pos e6] at hQ0; exact hQ0 rfl h hF9 hf9
                   · rw [if_neg e6, if_neg (by omega)] at hQ0; exact hQ0 rfl h hF9 hf9)
          · refine z_al0 dX9_readIsles_107 (by first | decide | omega | assumption) ?_
            refine zcv0 dX9_readIsles_108 zkX9_166 ziX9_fails zsX9_fails (zkB hΓ rfl) (by decide) rfl (Nat.le_of_ble_eq_true rfl) (by decide) (by first | decide | omega) ⟨Nat.le_refl _, Nat.le_refl _⟩ (zN_fail hΓ hM (fun h hF9 hf9 _ => ?_))
            try simp only [zup_ap, zup_row, ne_eq, not_false_eq_true, zres, Int.toNat_natCast, reduceIte, Nat.reduceEqDiff, Nat.reduceAdd, and_self, and_true, true_and, and_false, false_and]
            refine z_pop dX9_readIsles_111 rfl ?_
            refine z_ret dX9_readIsles_112 rfl (Nat.le_refl _) (Nat.le_refl _) (zext_rf _) ?_
            rw [zTbs, if_neg e9, if_neg (by omega), if_pos (by omega)] at hQ0
            exact hQ0 rfl h hF9 hf9
      · exfalso; omega
set_option maxRecDepth 4000 in
theorem X9_rI_c {l : Launch} {Γ : zC} {h0 : zM} {Q : Option zV → zC → zM → Prop} {n : Nat} (hΓ : zBase Γ) : ∀ (m k : Nat) (h : zM), 36 - k < m → k ≤ 36 → zMb Γ h0 h n 0 [] → (∀ j, j < k → h 97 j = 0) → (∀ h2 y2, zMb Γ h0 h2 n 0 [] → (∀ j, j < 36 → h2 97 j = 0) → zG (zFn l mX9_readIsles 2 0 0 Γ Q) 0 0 Γ h2 41 [some (zR 89), some (zI 1), y2] []) → zG (zFn l mX9_readIsles 2 0 0 Γ Q) 0 0 Γ h 20 [some (zR 89), some (zI (k : Nat)), none] [] := by
  intro m
  induction m with
  | zero => intros; omega
  | succ m ih =>
    intro k h hm hk hB hz hK
    refine z_il1 dX9_readIsles_20 ?_
    refine z_bipush (x := 36) dX9_readIsles_21 (by rfl) (by decide) ?_
    refine z_icmp_ge (t := 39) dX9_readIsles_23 (by rfl) (fun ht23 => ?_) (fun hf23 => ?_)
    · refine z_iconst dX9_readIsles_39 (by decide) ?_
      refine z_is1 dX9_readIsles_40 (Nat.le_of_ble_eq_true rfl) rfl ?_
      exact hK _ _ hB (fun j hj => hz j (by omega))
    · refine z_al0 dX9_readIsles_26 (by first | decide | omega | assumption) ?_
      refine z_getR zfX9_46 dX9_readIsles_27 (zkB hΓ rfl) rfl (zsB hΓ rfl) (zvB hΓ (by decide)) ?_
      refine z_il1 dX9_readIsles_30 ?_
      refine z_iconst dX9_readIsles_31 (by decide) ?_
      refine z_iast dX9_readIsles_32 (zkB hΓ rfl) (by omega) (by omega) ?_
      refine z_ii1 dX9_readIsles_33 (by omega) (Nat.le_of_ble_eq_true rfl) rfl ?_
      refine z_goto (t := 20) dX9_readIsles_36 (by rfl) ?_
      refine ih (k + 1) _ (by omega) (by omega) ⟨zfr_up hB.1 rfl, zTx_r hB.2.1 (by decide) (by decide), by rw [zup_row (by decide)]; exact hB.2.2.1, by rw [zup_row (by decide)]; exact hB.2.2.2.1, by rw [zup_row (by decide)]; exact hB.2.2.2.2.1, fun i hi => absurd hi (by simp)⟩ (fun j hj => ?_) hK
      rw [zup_ap]
      by_cases e : j = k
      · rw [if_pos ⟨rfl, by omega⟩]
      · rw [if_neg (fun x => e (by have := x.2; omega))]; exact hz j (by omega)
theorem zIs_f {t : Nat → Int} {n : Nat} (h : (zIsB t n).1 = false) : zIs t n = (false, (zIsB t n).2.1, (zIsB t n).2.2, fun _ _ => 0) := by
  unfold zIs
  rw [if_neg (by rw [h]; decide)]
theorem zIs_t {t : Nat → Int} {n : Nat} (h : (zIsB t n).1 = true) : zIs t n = ((zIsW t n).1, (zIsW t n).2.1, (zIsB t n).2.2, (zIsW t n).2.2) := by
  unfold zIs
  rw [if_pos h]
theorem zpct_0 : zpct (fun _ _ => 0) = 0 := by decide
set_option maxRecDepth 4000 in
theorem X9_readIsles_ct {l : Launch} {Γ : zC} {h0 h : zM} {Q : Option zV → zC → zM → Prop} {n : Nat} (hΓ : zBase Γ) (hn : h 89 6 = (n : Int)) (hn2 : n ≤ 160) (ht : ∀ j, j < n → 0 ≤ h0 3 j ∧ h0 3 j ≤ 255) (htap : ∀ j, j < n → h0 3 j = h0 90 j % 256) (hF : zfr zSS h0 h) (hQ0 : (zIs (h0 3) n).1 = false → ∀ h2, zfr zSS h0 h2 → h2 89 11 = (((zIs (h0 3) n).2.1 : Nat) : Int) → Q none Γ h2) (hQ1 : (zIs (h0 3) n).1 = true → ∀ h2 p2, zMr Γ h0 h2 n p2 (zIs (h0 3) n).2.2.1 (zIs (h0 3) n).2.2.2 → Q none Γ h2) : zCT l mX9_readIsles 2 0 0 Γ [zR 89] h Q := by
  have s0 := zskip_b (h0 3) n 0
  refine zCT_of (by decide) (Nat.le_of_ble_eq_true rfl) (ls := [some (zR 89), none, none]) rfl ?_
  refine z_al0 dX9_readIsles_0 (by first | decide | omega | assumption) ?_
  refine z_al0 dX9_readIsles_1 (by first | decide | omega | assumption) ?_
  refine z_getR zfX9_9 dX9_readIsles_2 (zkB hΓ rfl) rfl (zsB hΓ rfl) (zvB hΓ (by decide)) ?_
  refine z_iconst dX9_readIsles_5 (by decide) ?_
  refine z_al0 dX9_readIsles_6 (by first | decide | omega | assumption) ?_
  refine z_getI zfX9_141 dX9_readIsles_7 (zkB hΓ rfl) rfl ?_
  rw [hn]
  try simp only [zup_ap, zup_row, ne_eq, not_false_eq_true, zres, Int.toNat_natCast, reduceIte, Nat.reduceEqDiff, Nat.reduceAdd, and_self, and_true, true_and, and_false, false_and]
  refine zcv3 dX9_readIsles_10 zkX9_239 ziX9_opens zsX9_opens (zkB hΓ rfl) (by decide) rfl (Nat.le_of_ble_eq_true rfl) (by decide) (by first | decide | omega) ⟨Nat.le_refl _, Nat.le_refl _⟩ (X9_opens_ct hΓ (by decide) (fun _ => ?_))
  try simp only [zup_ap, zup_row, ne_eq, not_false_eq_true, zres, Int.toNat_natCast, reduceIte, Nat.reduceEqDiff, Nat.reduceAdd, and_self, and_true, true_and, and_false, false_and]
  refine z_al0 dX9_readIsles_13 (by first | decide | omega | assumption) ?_
  refine z_iconst dX9_readIsles_14 (by decide) ?_
  refine z_putI zfX9_249 dX9_readIsles_15 (zkB hΓ rfl) rfl rfl ?_
  refine z_iconst dX9_readIsles_18 (by decide) ?_
  refine z_is1 dX9_readIsles_19 (Nat.le_of_ble_eq_true rfl) rfl ?_
  refine X9_rI_c (h0 := h0) (n := n) hΓ 37 0 _ (by omega) (by omega) ⟨zfr_up (zfr_up (zfr_up (zfr_up (zfr_up (zfr_up hF rfl) rfl) rfl) rfl) rfl) rfl, ⟨by simp [zup_ap], by simp [zup_ap], by simp [zup_ap], hn2, by omega, by decide, by decide, ⟨160, zkB hΓ rfl, by omega⟩, fun j hj => ?_⟩, by simp [zup_ap], by simp [zup_ap], by simp [zup_ap], fun i hi => absurd hi (by simp)⟩ (fun j hj => absurd hj (by omega)) (fun h2 y2 hB hz => ?_)
  · simp only [zup_row, ne_eq, Nat.reduceEqDiff, not_false_eq_true, Nat.zero_add]
    rw [hF 90 _ rfl]; exact htap j hj
  have hb9 := zTbs_p (t := h0 3) hn2 6 (zskip (h0 3) n 0) [] rfl (by omega)
  refine X9_rI_t (D := fun _ _ => 0) hΓ ht hn2 6 0 [] y2 h2 rfl (by omega) ⟨hB, fun a b ha hb => hz _ (by omega)⟩ (by omega) (fun e h3 hF3 hf3 => ?_) (fun e h3 p2 y3 hM3 hp2 hp3 => ?_)
  · have e2 := zIs_f (t := h0 3) (n := n) e
    rw [e2] at hQ0
    exact hQ0 rfl h3 hF3 hf3
  · have e2 := zIs_t (t := h0 3) (n := n) e
    rw [e2] at hQ0 hQ1
    refine X9_rI_w hΓ ht hn2 hb9.2.1 16 p2 (fun _ _ => 0) y3 h3 (by rw [zpct_0]; omega) (fun _ _ => rfl) hM3 hp3 ?_ ?_
    · rw [hp2]; exact hQ0
    · rw [hp2]; exact hQ1
