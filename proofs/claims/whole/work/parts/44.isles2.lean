/-! ISLES' text: the reference -/
def zMb (Γ : zC) (h0 h : zM) (n p : Nat) (L : List Int) : Prop := zfr zSS h0 h ∧ zTx Γ h 90 0 n (h0 3) ∧ h 89 10 = (p : Int) ∧ h 89 11 = -1 ∧ h 89 23 = (L.length : Int) ∧ ∀ i, i < L.length → h 95 i = L.getD i 0
def zMr (Γ : zC) (h0 h : zM) (n p : Nat) (L : List Int) (D : zDM) : Prop := zMb Γ h0 h n p L ∧ ∀ a b, a < 6 → b < 6 → h 97 (6 * a + b) = D a b
theorem zTx_r {Γ : zC} {h : zM} {n r j : Nat} {x : Int} {t : Nat → Int} (H : zTx Γ h 90 0 n t) (h1 : r ≠ 89) (h2 : r ≠ 90) : zTx Γ (zup h r j x) 90 0 n t := by
  obtain ⟨a1, a2, a3, a4, a5, a6, a7, a8, a9⟩ := H
  exact ⟨by rw [zup_row (Ne.symm h1)]; exact a1, by rw [zup_row (Ne.symm h1)]; exact a2, by rw [zup_row (Ne.symm h1)]; exact a3, a4, a5, a6, a7, a8, fun j hj => by rw [zup_row (Ne.symm h2)]; exact a9 j hj⟩
theorem zMr_p {Γ : zC} {h0 h : zM} {n p p' : Nat} {L : List Int} {D : zDM} {x : Int} (H : zMr Γ h0 h n p L D) (hx : x = (p' : Int)) : zMr Γ h0 (zup h 89 10 x) n p' L D := by
  obtain ⟨⟨a1, a2, a3, a4, a5, a6⟩, a7⟩ := H
  exact ⟨⟨zfr_up a1 rfl, zTx_up a2 (by decide) (by decide) (by decide), by rw [zup_rj, hx], by rw [zup_ap, if_neg (fun e => absurd e.2 (by decide))]; exact a4, by rw [zup_ap, if_neg (fun e => absurd e.2 (by decide))]; exact a5, fun i hi => by rw [zup_row (by decide)]; exact a6 i hi⟩, fun a b ha hb => by rw [zup_row (by decide)]; exact a7 a b ha hb⟩
theorem zMr_l {Γ : zC} {h0 h : zM} {n p : Nat} {L : List Int} {D : zDM} (H : zMr Γ h0 h n p L D) (v : Int) : zMr Γ h0 (zup (zup h 95 L.length v) 89 23 ((L.length : Int) + 1)) n p (L ++ [v]) D := by
  obtain ⟨⟨a1, a2, a3, a4, a5, a6⟩, a7⟩ := H
  refine ⟨⟨zfr_up (zfr_up a1 rfl) rfl, zTx_up (zTx_r a2 (by decide) (by decide)) (by decide) (by decide) (by decide), by rw [zup_ap, if_neg (fun e => absurd e.2 (by decide)), zup_row (by decide)]; exact a3, by rw [zup_ap, if_neg (fun e => absurd e.2 (by decide)), zup_row (by decide)]; exact a4, by rw [zup_rj, List.length_append]; show _ = ((L.length + 1 : Nat) : Int); omega, fun i hi => ?_⟩, fun a b ha hb => by rw [zup_row (by decide), zup_row (by decide)]; exact a7 a b ha hb⟩
  rw [zup_row (by decide), zgetD_ap, zup_ap]
  rw [List.length_append] at hi
  have hi2 : i < L.length + 1 := hi
  by_cases e : i = L.length
  · rw [if_pos ⟨rfl, e⟩, if_pos e]
  · rw [if_neg (fun x => e x.2), if_neg e]; exact a6 i (by omega)
theorem zMr_d {Γ : zC} {h0 h : zM} {n p : Nat} {L : List Int} {D : zDM} (H : zMr Γ h0 h n p L D) (v : Int) {a b : Nat} (ha : a < 6) (hb : b < 6) : zMr Γ h0 (zup (zup h 97 (6 * a + b) v) 97 (6 * b + a) v) n p L (zdU D a b v) := by
  obtain ⟨⟨a1, a2, a3, a4, a5, a6⟩, a7⟩ := H
  refine ⟨⟨zfr_up (zfr_up a1 rfl) rfl, zTx_r (zTx_r a2 (by decide) (by decide)) (by decide) (by decide), by rw [zup_row (by decide), zup_row (by decide)]; exact a3, by rw [zup_row (by decide), zup_row (by decide)]; exact a4, by rw [zup_row (by decide), zup_row (by decide)]; exact a5, fun i hi => by rw [zup_row (by decide), zup_row (by decide)]; exact a6 i hi⟩, fun i j hi hj => ?_⟩
  unfold zdU
  rw [zup_ap, zup_ap]
  by_cases e : (i = a ∧ j = b) ∨ (i = b ∧ j = a)
  · rw [if_pos e]
    rcases e with ⟨rfl, rfl⟩ | ⟨rfl, rfl⟩
    · split
      · rfl
      · rw [if_pos ⟨rfl, rfl⟩]
    · rw [if_pos ⟨rfl, rfl⟩]
  · rw [if_neg e, if_neg (fun x => e (Or.inr (by have := x.2; omega))), if_neg (fun x => e (Or.inl (by have := x.2; omega)))]
    exact a7 i j hi hj
theorem zN_look {l : Launch} {Γ : zC} {h0 h : zM} {Q : Option zV → zC → zM → Prop} {n p : Nat} {L : List Int} {D : zDM} (hΓ : zBase Γ) (hM : zMr Γ h0 h n p L D) (hp : p ≤ 161) (hQ : ∀ h2, zMr Γ h0 h2 n (zskip (h0 3) n p) L D → Q (some (zI (zsg (h0 3) n (zskip (h0 3) n p)))) Γ h2) : zCT l mX9_look 0 0 0 Γ [zR 89] h Q := X9_look_ct hΓ hM.1.2.1 hM.1.2.2.1 hp (hQ _ (zMr_p hM rfl))
theorem zN_fail {l : Launch} {Γ : zC} {h0 h : zM} {Q : Option zV → zC → zM → Prop} {n p : Nat} {L : List Int} {D : zDM} (hΓ : zBase Γ) (hM : zMr Γ h0 h n p L D) (hQ : ∀ h2, zfr zSS h0 h2 → h2 89 11 = (p : Int) → Q (some (zI 0)) Γ h2) : zCT l mX9_fails 0 0 0 Γ [zR 89] h Q := X9_fails_ct hΓ (fun _ => hQ _ (zfr_up hM.1.1 rfl) (by rw [zup_rj]; exact hM.1.2.2.1)) (fun e => absurd hM.1.2.2.2.1 e)
theorem zN_dig {l : Launch} {Γ : zC} {h0 h : zM} {Q : Option zV → zC → zM → Prop} {n p : Nat} {L : List Int} {D : zDM} (hΓ : zBase Γ) (hM : zMr Γ h0 h n p L D) (hp : p ≤ 160) (hQ0 : ¬ zdg (zsg (h0 3) n p) → Q (some (zI 0)) Γ h) (hQ1 : zdg (zsg (h0 3) n p) → Q (some (zI 1)) Γ h) : zCT l mX9_isDigit 0 0 0 Γ [zR 89] h Q := zM_dig2 hΓ hM.1.2.1 ⟨fun _ _ => rfl, fun _ _ _ _ => rfl⟩ hM.1.2.2.1 hp (by
  by_cases e : zdg (zsg (h0 3) n p)
  · rw [if_pos e]; exact hQ1 e
  · rw [if_neg e]; exact hQ0 e)
set_option maxRecDepth 4000 in
theorem zN_here {l : Launch} {Γ : zC} {h0 h : zM} {Q : Option zV → zC → zM → Prop} {n p : Nat} {L : List Int} {D : zDM} (hΓ : zBase Γ) (hM : zMr Γ h0 h n p L D) (hp : p < n) (hQ : Q (some (zI (zsg (h0 3) n p))) Γ h) : zCT l mX9_here 0 0 0 Γ [zR 89] h Q := by
  obtain ⟨hT5, hT8, hT9, hn2, hb2, hR89, hR0, ⟨len, hkR, hlen⟩, ht⟩ := hM.1.2.1
  refine zCT_of (by decide) (Nat.le_of_ble_eq_true rfl) (ls := [some (zR 89)]) rfl ?_
  refine z_al0 dX9_here_0 (by first | decide | omega | assumption) ?_
  refine z_getI zfX9_151 dX9_here_1 (zkB hΓ rfl) rfl ?_
  rw [hM.1.2.2.1]
  try simp only [zup_ap, zup_row, ne_eq, not_false_eq_true, zres, Int.toNat_natCast, reduceIte, Nat.reduceEqDiff, Nat.reduceAdd, and_self, and_true, true_and, and_false, false_and]
  refine z_al0 dX9_here_4 (by first | decide | omega | assumption) ?_
  refine z_getI zfX9_154 dX9_here_5 (zkB hΓ rfl) rfl ?_
  rw [hT9]
  try simp only [zup_ap, zup_row, ne_eq, not_false_eq_true, zres, Int.toNat_natCast, reduceIte, Nat.reduceEqDiff, Nat.reduceAdd, and_self, and_true, true_and, and_false, false_and]
  refine z_icmp_ge (t := 32) dX9_here_8 (by rfl) (fun ht8 => ?_) (fun hf8 => ?_)
  · exfalso; omega
  · refine z_al0 dX9_here_11 (by first | decide | omega | assumption) ?_
    refine z_getQ zfX9_23 dX9_here_12 (zkB hΓ rfl) rfl (zsN hΓ rfl) ?_
    try simp only [zup_ap, zup_row, ne_eq, not_false_eq_true, zres, Int.toNat_natCast, reduceIte, Nat.reduceEqDiff, Nat.reduceAdd, and_self, and_true, true_and, and_false, false_and]
    rw [hT5]
    refine z_al0 dX9_here_15 (by first | decide | omega | assumption) ?_
    refine z_getI zfX9_157 dX9_here_16 (zkB hΓ rfl) rfl ?_
    rw [hT8]
    try simp only [zup_ap, zup_row, ne_eq, not_false_eq_true, zres, Int.toNat_natCast, reduceIte, Nat.reduceEqDiff, Nat.reduceAdd, and_self, and_true, true_and, and_false, false_and]
    refine z_al0 dX9_here_19 (by first | decide | omega | assumption) ?_
    refine z_getI zfX9_151 dX9_here_20 (zkB hΓ rfl) rfl ?_
    rw [hM.1.2.2.1]
    try simp only [zup_ap, zup_row, ne_eq, not_false_eq_true, zres, Int.toNat_natCast, reduceIte, Nat.reduceEqDiff, Nat.reduceAdd, and_self, and_true, true_and, and_false, false_and]
    refine z_iadd dX9_here_23 (by omega) ?_
    refine z_bald dX9_here_24 (zkB hΓ rfl) (by omega) (by omega) ?_
    try simp only [zup_ap, zup_row, ne_eq, not_false_eq_true, zres, Int.toNat_natCast, reduceIte, Nat.reduceEqDiff, Nat.reduceAdd, and_self, and_true, true_and, and_false, false_and]
    rw [show (((0 : Nat) : Int) + (p : Int)).toNat = p by omega]
    refine zrngM (fun hm9 => ?_)
    have hx9 := zom_a hm9 (zkB hΓ (r := 90) rfl) (j := p) (by omega)
    have hx9 : -128 ≤ h 90 p ∧ h 90 p < 128 := hx9
    have ht9 := ht p (by omega)
    rw [Nat.zero_add] at ht9
    refine z_sipush (x := 255) dX9_here_25 (by rfl) (by decide) ?_
    refine z_iand dX9_here_28 ?_
    refine z_goto (t := 33) dX9_here_29 (by rfl) ?_
    refine z_iret dX9_here_33 rfl (Nat.le_refl _) (Nat.le_refl _) (zext_rf _) (fun hrr => ?_)
    unfold zsg at hQ
    rw [if_pos hp, ht9, ← zand255 hx9] at hQ
    exact hQ
set_option maxRecDepth 4000 in
theorem zN_let {l : Launch} {Γ : zC} {h0 h : zM} {Q : Option zV → zC → zM → Prop} {n p : Nat} {L : List Int} {D : zDM} (hΓ : zBase Γ) (hM : zMr Γ h0 h n p L D) {x : Int} (hL : L.length ≤ 6) (hQ0 : ¬ (97 ≤ x ∧ x < 97 + (L.length : Int)) → Q (some (zI 0)) Γ h) (hQ1 : (97 ≤ x ∧ x < 97 + (L.length : Int)) → Q (some (zI 1)) Γ h) : zCT l mX9_isIsleLetter 0 0 0 Γ [zR 89, zI x] h Q := by
  refine zCT_of (by decide) (Nat.le_of_ble_eq_true rfl) (ls := [some (zR 89), some (zI x)]) rfl ?_
  refine z_il1 dX9_isIsleLetter_0 ?_
  refine z_bipush (x := 97) dX9_isIsleLetter_1 (by rfl) (by decide) ?_
  refine z_icmp_lt (t := 21) dX9_isIsleLetter_3 (by rfl) (fun ht3 => ?_) (fun hf3 => ?_)
  · refine z_iconst dX9_isIsleLetter_21 (by decide) ?_
    refine z_zret dX9_isIsleLetter_22 rfl (Nat.le_refl _) (Nat.le_refl _) (zext_rf _) (by first | exact Or.inl rfl | exact Or.inr rfl | omega) ?_
    first | exact hQ0 (by omega) | exact hQ1 (by omega)
  · refine z_il1 dX9_isIsleLetter_6 ?_
    refine z_bipush (x := 97) dX9_isIsleLetter_7 (by rfl) (by decide) ?_
    refine z_al0 dX9_isIsleLetter_9 (by first | decide | omega | assumption) ?_
    refine z_getI zfX9_249 dX9_isIsleLetter_10 (zkB hΓ rfl) rfl ?_
    rw [hM.1.2.2.2.2.1]
    try simp only [zup_ap, zup_row, ne_eq, not_false_eq_true, zres, Int.toNat_natCast, reduceIte, Nat.reduceEqDiff, Nat.reduceAdd, and_self, and_true, true_and, and_false, false_and]
    refine z_iadd dX9_isIsleLetter_13 (by omega) ?_
    refine z_icmp_ge (t := 21) dX9_isIsleLetter_14 (by rfl) (fun ht14 => ?_) (fun hf14 => ?_)
    · refine z_iconst dX9_isIsleLetter_21 (by decide) ?_
      refine z_zret dX9_isIsleLetter_22 rfl (Nat.le_refl _) (Nat.le_refl _) (zext_rf _) (by first | exact Or.inl rfl | exact Or.inr rfl | omega) ?_
      first | exact hQ0 (by omega) | exact hQ1 (by omega)
    · refine z_iconst dX9_isIsleLetter_17 (by decide) ?_
      refine z_goto (t := 22) dX9_isIsleLetter_18 (by rfl) ?_
      refine z_zret dX9_isIsleLetter_22 rfl (Nat.le_refl _) (Nat.le_refl _) (zext_rf _) (by first | exact Or.inl rfl | exact Or.inr rfl | omega) ?_
      first | exact hQ0 (by omega) | exact hQ1 (by omega)
set_option maxRecDepth 4000 in
theorem zN_two {l : Launch} {Γ : zC} {h0 h : zM} {Q : Option zV → zC → zM → Prop} {n p : Nat} {L : List Int} {D : zDM} (hΓ : zBase Γ) (hM : zMr Γ h0 h n p L D) (hp : p ≤ 160) (hn : n ≤ 160) (hQ0 : ¬ zdg (zsg (h0 3) n (zskip (h0 3) n p)) → ∀ h2, zfr zSS h0 h2 → h2 89 11 = ((zskip (h0 3) n p : Nat) : Int) → Q (some (zI (-1))) Γ h2) (hQ1 : zdg (zsg (h0 3) n (zskip (h0 3) n p)) → zdg (zsg (h0 3) n (znum (h0 3) n 2 (zskip (h0 3) n p) 0).2) → ∀ h2, zfr zSS h0 h2 → h2 89 11 = (((znum (h0 3) n 2 (zskip (h0 3) n p) 0).2 : Nat) : Int) → Q (some (zI (-1))) Γ h2) (hQ2 : zdg (zsg (h0 3) n (zskip (h0 3) n p)) → ¬ zdg (zsg (h0 3) n (znum (h0 3) n 2 (zskip (h0 3) n p) 0).2) → ∀ h2, zMr Γ h0 h2 n (znum (h0 3) n 2 (zskip (h0 3) n p) 0).2 L D → Q (some (zI (znum (h0 3) n 2 (zskip (h0 3) n p) 0).1)) Γ h2) : zCT l mX9_twoDigits 1 0 0 Γ [zR 89] h Q := by
  have s0 := zskip_b (h0 3) n p
  refine zCT_of (by decide) (Nat.le_of_ble_eq_true rfl) (ls := [some (zR 89), none, none]) rfl ?_
  refine z_al0 dX9_twoDigits_0 (by first | decide | omega | assumption) ?_
  refine zcv0 dX9_twoDigits_1 zkX9_170 ziX9_look zsX9_look (zkB hΓ rfl) (by decide) rfl (Nat.le_of_ble_eq_true rfl) (by decide) (by first | decide | omega) ⟨Nat.le_refl _, Nat.le_refl _⟩ (zN_look hΓ hM (by omega) (fun h hM _ => ?_))
  try simp only [zup_ap, zup_row, ne_eq, not_false_eq_true, zres, Int.toNat_natCast, reduceIte, Nat.reduceEqDiff, Nat.reduceAdd, and_self, and_true, true_and, and_false, false_and]
  refine z_is1 dX9_twoDigits_4 (Nat.le_of_ble_eq_true rfl) rfl ?_
  refine z_al0 dX9_twoDigits_5 (by first | decide | omega | assumption) ?_
  refine zcv0 dX9_twoDigits_6 zkX9_200 ziX9_isDigit zsX9_isDigit (zkB hΓ rfl) (by decide) rfl (Nat.le_of_ble_eq_true rfl) (by decide) (by first | decide | omega) ⟨Nat.le_refl _, Nat.le_refl _⟩ (zN_dig hΓ hM (by omega) (fun hd1 _ => ?_) (fun hd1 _ => ?_))
  · try simp only [zup_ap, zup_row, ne_eq, not_false_eq_true, zres, Int.toNat_natCast, reduceIte, Nat.reduceEqDiff, Nat.reduceAdd, and_self, and_true, true_and, and_false, false_and]
    refine z_if_ne (t := 19) dX9_twoDigits_9 (by rfl) (fun hx => absurd hx (by decide)) (fun _ => ?_)
    refine z_al0 dX9_twoDigits_12 (by first | decide | omega | assumption) ?_
    refine zcv0 dX9_twoDigits_13 zkX9_166 ziX9_fails zsX9_fails (zkB hΓ rfl) (by decide) rfl (Nat.le_of_ble_eq_true rfl) (by decide) (by first | decide | omega) ⟨Nat.le_refl _, Nat.le_refl _⟩ (zN_fail hΓ hM (fun h hF9 hf9 _ => ?_))
    try simp only [zup_ap, zup_row, ne_eq, not_false_eq_true, zres, Int.toNat_natCast, reduceIte, Nat.reduceEqDiff, Nat.reduceAdd, and_self, and_true, true_and, and_false, false_and]
    refine z_pop dX9_twoDigits_16 rfl ?_
    refine z_iconst dX9_twoDigits_17 (by decide) ?_
    refine z_iret dX9_twoDigits_18 rfl (Nat.le_refl _) (Nat.le_refl _) (zext_rf _) (fun hrr => ?_)
    exact hQ0 hd1 h hF9 hf9
  · try simp only [zup_ap, zup_row, ne_eq, not_false_eq_true, zres, Int.toNat_natCast, reduceIte, Nat.reduceEqDiff, Nat.reduceAdd, and_self, and_true, true_and, and_false, false_and]
    refine z_if_ne (t := 19) dX9_twoDigits_9 (by rfl) (fun _ => ?_) (fun hx => absurd hx (by decide))
    have l1 := zdg_lt hd1
    refine z_al0 dX9_twoDigits_19 (by first | decide | omega | assumption) ?_
    refine zcv0 dX9_twoDigits_20 zkX9_246 ziX9_here zsX9_here (zkB hΓ rfl) (by decide) rfl (Nat.le_of_ble_eq_true rfl) (by decide) (by first | decide | omega) ⟨Nat.le_refl _, Nat.le_refl _⟩ (zN_here hΓ hM (zdg_lt hd1) (fun _ => ?_))
    try simp only [zup_ap, zup_row, ne_eq, not_false_eq_true, zres, Int.toNat_natCast, reduceIte, Nat.reduceEqDiff, Nat.reduceAdd, and_self, and_true, true_and, and_false, false_and]
    refine z_bipush (x := 48) dX9_twoDigits_23 (by rfl) (by decide) ?_
    refine z_isub dX9_twoDigits_25 (by omega) ?_
    refine z_is2 dX9_twoDigits_26 (Nat.le_of_ble_eq_true rfl) rfl ?_
    refine z_al0 dX9_twoDigits_27 (by first | decide | omega | assumption) ?_
    refine z_dup dX9_twoDigits_28 rfl ?_
    refine z_getI zfX9_151 dX9_twoDigits_29 (zkB hΓ rfl) rfl ?_
    rw [hM.1.2.2.1]
    try simp only [zup_ap, zup_row, ne_eq, not_false_eq_true, zres, Int.toNat_natCast, reduceIte, Nat.reduceEqDiff, Nat.reduceAdd, and_self, and_true, true_and, and_false, false_and]
    refine z_iconst dX9_twoDigits_32 (by decide) ?_
    refine z_iadd dX9_twoDigits_33 (by omega) ?_
    refine z_putI zfX9_151 dX9_twoDigits_34 (zkB hΓ rfl) rfl rfl ?_
    have hM := zMr_p (p' := zskip (h0 3) n p + 1) (x := ((zskip (h0 3) n p : Nat) : Int) + 1) hM (by omega)
    generalize zup h 89 10 (((zskip (h0 3) n p : Nat) : Int) + 1) = h at hM ⊢
    refine z_al0 dX9_twoDigits_37 (by first | decide | omega | assumption) ?_
    refine zcv0 dX9_twoDigits_38 zkX9_200 ziX9_isDigit zsX9_isDigit (zkB hΓ rfl) (by decide) rfl (Nat.le_of_ble_eq_true rfl) (by decide) (by first | decide | omega) ⟨Nat.le_refl _, Nat.le_refl _⟩ (zN_dig hΓ hM (by omega) (fun hd2 _ => ?_) (fun hd2 _ => ?_))
    · try simp only [zup_ap, zup_row, ne_eq, not_false_eq_true, zres, Int.toNat_natCast, reduceIte, Nat.reduceEqDiff, Nat.reduceAdd, and_self, and_true, true_and, and_false, false_and]
      refine z_if_eq (t := 67) dX9_twoDigits_41 (by rfl) (fun _ => ?_) (fun hx => absurd hx (by decide))
      first
      | (show zG _ _ _ _ (zup h 89 10 _) _ _ _
         have hM := zMr_p (p' := zskip (h0 3) n p + 1 + 1) (x := ((zskip (h0 3) n p + 1 : Nat) : Int) + 1) hM (by omega)
         generalize zup h 89 10 (((zskip (h0 3) n p + 1 : Nat) : Int) + 1) = h at hM ⊢)
      | skip
      refine z_al0 dX9_twoDigits_67 (by first | decide | omega | assumption) ?_
      refine zcv0 dX9_twoDigits_68 zkX9_200 ziX9_isDigit zsX9_isDigit (zkB hΓ rfl) (by decide) rfl (Nat.le_of_ble_eq_true rfl) (by decide) (by first | decide | omega) ⟨Nat.le_refl _, Nat.le_refl _⟩ (zN_dig hΓ hM (by omega) (fun hd3 _ => ?_) (fun hd3 _ => ?_))
      · try simp only [zup_ap, zup_row, ne_eq, not_false_eq_true, zres, Int.toNat_natCast, reduceIte, Nat.reduceEqDiff, Nat.reduceAdd, and_self, and_true, true_and, and_false, false_and]
        refine z_if_eq (t := 81) dX9_twoDigits_71 (by rfl) (fun _ => ?_) (fun hx => absurd hx (by decide))
        refine z_il2 dX9_twoDigits_81 ?_
        refine z_iret dX9_twoDigits_82 rfl (Nat.le_refl _) (Nat.le_refl _) (zext_rf _) (fun hrr => ?_)
        first
        | (have e9 : znum (h0 3) n 2 (zskip (h0 3) n p) 0 = (10 * 0 + zsg (h0 3) n (zskip (h0 3) n p) - 48, zskip (h0 3) n p + 1) := by rw [znum_1 (e := 1) hd1, znum_0 (Or.inr hd2)]
           rw [e9] at hQ2
           have hq9 := hQ2 hd1 hd2 h hM
           rw [show (10 * 0 + zsg (h0 3) n (zskip (h0 3) n p) - 48, zskip (h0 3) n p + 1).1 = zsg (h0 3) n (zskip (h0 3) n p) - 48 by show 10 * 0 + zsg (h0 3) n (zskip (h0 3) n p) - 48 = _; omega] at hq9
           exact hq9)
        | (have e9 : znum (h0 3) n 2 (zskip (h0 3) n p) 0 = (10 * (10 * 0 + zsg (h0 3) n (zskip (h0 3) n p) - 48) + zsg (h0 3) n (zskip (h0 3) n p + 1) - 48, zskip (h0 3) n p + 1 + 1) := by rw [znum_1 (e := 1) hd1, znum_1 (e := 0) hd2, znum_0 (Or.inl rfl)]
           rw [e9] at hQ2
           have hq9 := hQ2 hd1 hd3 h hM
           rw [show (10 * (10 * 0 + zsg (h0 3) n (zskip (h0 3) n p) - 48) + zsg (h0 3) n (zskip (h0 3) n p + 1) - 48, zskip (h0 3) n p + 1 + 1).1 = 10 * (zsg (h0 3) n (zskip (h0 3) n p) - 48) + zsg (h0 3) n (zskip (h0 3) n p + 1) - 48 by show 10 * (10 * 0 + zsg (h0 3) n (zskip (h0 3) n p) - 48) + zsg (h0 3) n (zskip (h0 3) n p + 1) - 48 = _; omega] at hq9
           exact hq9)
      · try simp only [zup_ap, zup_row, ne_eq, not_false_eq_true, zres, Int.toNat_natCast, reduceIte, Nat.reduceEqDiff, Nat.reduceAdd, and_self, and_true, true_and, and_false, false_and]
        refine z_if_eq (t := 81) dX9_twoDigits_71 (by rfl) (fun hx => absurd hx (by decide)) (fun _ => ?_)
        refine z_al0 dX9_twoDigits_74 (by first | decide | omega | assumption) ?_
        refine zcv0 dX9_twoDigits_75 zkX9_166 ziX9_fails zsX9_fails (zkB hΓ rfl) (by decide) rfl (Nat.le_of_ble_eq_true rfl) (by decide) (by first | decide | omega) ⟨Nat.le_refl _, Nat.le_refl _⟩ (zN_fail hΓ hM (fun h hF9 hf9 _ => ?_))
        try simp only [zup_ap, zup_row, ne_eq, not_false_eq_true, zres, Int.toNat_natCast, reduceIte, Nat.reduceEqDiff, Nat.reduceAdd, and_self, and_true, true_and, and_false, false_and]
        refine z_pop dX9_twoDigits_78 rfl ?_
        refine z_iconst dX9_twoDigits_79 (by decide) ?_
        refine z_iret dX9_twoDigits_80 rfl (Nat.le_refl _) (Nat.le_refl _) (zext_rf _) (fun hrr => ?_)
        first
        | exact absurd hd3 hd2
        | (have e9 : znum (h0 3) n 2 (zskip (h0 3) n p) 0 = (10 * (10 * 0 + zsg (h0 3) n (zskip (h0 3) n p) - 48) + zsg (h0 3) n (zskip (h0 3) n p + 1) - 48, zskip (h0 3) n p + 1 + 1) := by rw [znum_1 (e := 1) hd1, znum_1 (e := 0) hd2, znum_0 (Or.inl rfl)]
           rw [e9] at hQ1
           exact hQ1 hd1 hd3 h hF9 hf9)
    · try simp only [zup_ap, zup_row, ne_eq, not_false_eq_true, zres, Int.toNat_natCast, reduceIte, Nat.reduceEqDiff, Nat.reduceAdd, and_self, and_true, true_and, and_false, false_and]
      refine z_if_eq (t := 67) dX9_twoDigits_41 (by rfl) (fun hx => absurd hx (by decide)) (fun _ => ?_)
      have l2 := zdg_lt hd2
      refine z_bipush (x := 10) dX9_twoDigits_44 (by rfl) (by decide) ?_
      refine z_il2 dX9_twoDigits_46 ?_
      refine z_imul dX9_twoDigits_47 (by omega) ?_
      refine z_al0 dX9_twoDigits_48 (by first | decide | omega | assumption) ?_
      refine zcv0 dX9_twoDigits_49 zkX9_246 ziX9_here zsX9_here (zkB hΓ rfl) (by decide) rfl (Nat.le_of_ble_eq_true rfl) (by decide) (by first | decide | omega) ⟨Nat.le_refl _, Nat.le_refl _⟩ (zN_here hΓ hM (zdg_lt hd2) (fun _ => ?_))
      try simp only [zup_ap, zup_row, ne_eq, not_false_eq_true, zres, Int.toNat_natCast, reduceIte, Nat.reduceEqDiff, Nat.reduceAdd, and_self, and_true, true_and, and_false, false_and]
      refine z_iadd dX9_twoDigits_52 (by omega) ?_
      refine z_bipush (x := 48) dX9_twoDigits_53 (by rfl) (by decide) ?_
      refine z_isub dX9_twoDigits_55 (by omega) ?_
      refine z_is2 dX9_twoDigits_56 (Nat.le_of_ble_eq_true rfl) rfl ?_
      refine z_al0 dX9_twoDigits_57 (by first | decide | omega | assumption) ?_
      refine z_dup dX9_twoDigits_58 rfl ?_
      refine z_getI zfX9_151 dX9_twoDigits_59 (zkB hΓ rfl) rfl ?_
      rw [hM.1.2.2.1]
      try simp only [zup_ap, zup_row, ne_eq, not_false_eq_true, zres, Int.toNat_natCast, reduceIte, Nat.reduceEqDiff, Nat.reduceAdd, and_self, and_true, true_and, and_false, false_and]
      refine z_iconst dX9_twoDigits_62 (by decide) ?_
      refine z_iadd dX9_twoDigits_63 (by omega) ?_
      refine z_putI zfX9_151 dX9_twoDigits_64 (zkB hΓ rfl) rfl rfl ?_
      first
      | (show zG _ _ _ _ (zup h 89 10 _) _ _ _
         have hM := zMr_p (p' := zskip (h0 3) n p + 1 + 1) (x := ((zskip (h0 3) n p + 1 : Nat) : Int) + 1) hM (by omega)
         generalize zup h 89 10 (((zskip (h0 3) n p + 1 : Nat) : Int) + 1) = h at hM ⊢)
      | skip
      refine z_al0 dX9_twoDigits_67 (by first | decide | omega | assumption) ?_
      refine zcv0 dX9_twoDigits_68 zkX9_200 ziX9_isDigit zsX9_isDigit (zkB hΓ rfl) (by decide) rfl (Nat.le_of_ble_eq_true rfl) (by decide) (by first | decide | omega) ⟨Nat.le_refl _, Nat.le_refl _⟩ (zN_dig hΓ hM (by omega) (fun hd3 _ => ?_) (fun hd3 _ => ?_))
      · try simp only [zup_ap, zup_row, ne_eq, not_false_eq_true, zres, Int.toNat_natCast, reduceIte, Nat.reduceEqDiff, Nat.reduceAdd, and_self, and_true, true_and, and_false, false_and]
        refine z_if_eq (t := 81) dX9_twoDigits_71 (by rfl) (fun _ => ?_) (fun hx => absurd hx (by decide))
        refine z_il2 dX9_twoDigits_81 ?_
        refine z_iret dX9_twoDigits_82 rfl (Nat.le_refl _) (Nat.le_refl _) (zext_rf _) (fun hrr => ?_)
        first
        | (have e9 : znum (h0 3) n 2 (zskip (h0 3) n p) 0 = (10 * 0 + zsg (h0 3) n (zskip (h0 3) n p) - 48, zskip (h0 3) n p + 1) := by rw [znum_1 (e := 1) hd1, znum_0 (Or.inr hd2)]
           rw [e9] at hQ2
           have hq9 := hQ2 hd1 hd2 h hM
           rw [show (10 * 0 + zsg (h0 3) n (zskip (h0 3) n p) - 48, zskip (h0 3) n p + 1).1 = zsg (h0 3) n (zskip (h0 3) n p) - 48 by show 10 * 0 + zsg (h0 3) n (zskip (h0 3) n p) - 48 = _; omega] at hq9
           exact hq9)
        | (have e9 : znum (h0 3) n 2 (zskip (h0 3) n p) 0 = (10 * (10 * 0 + zsg (h0 3) n (zskip (h0 3) n p) - 48) + zsg (h0 3) n (zskip (h0 3) n p + 1) - 48, zskip (h0 3) n p + 1 + 1) := by rw [znum_1 (e := 1) hd1, znum_1 (e := 0) hd2, znum_0 (Or.inl rfl)]
           rw [e9] at hQ2
           have hq9 := hQ2 hd1 hd3 h hM
           rw [show (10 * (10 * 0 + zsg (h0 3) n (zskip (h0 3) n p) - 48) + zsg (h0 3) n (zskip (h0 3) n p + 1) - 48, zskip (h0 3) n p + 1 + 1).1 = 10 * (zsg (h0 3) n (zskip (h0 3) n p) - 48) + zsg (h0 3) n (zskip (h0 3) n p + 1) - 48 by show 10 * (10 * 0 + zsg (h0 3) n (zskip (h0 3) n p) - 48) + zsg (h0 3) n (zskip (h0 3) n p + 1) - 48 = _; omega] at hq9
           exact hq9)
      · try simp only [zup_ap, zup_row, ne_eq, not_false_eq_true, zres, Int.toNat_natCast, reduceIte, Nat.reduceEqDiff, Nat.reduceAdd, and_self, and_true, true_and, and_false, false_and]
        refine z_if_eq (t := 81) dX9_twoDigits_71 (by rfl) (fun hx => absurd hx (by decide)) (fun _ => ?_)
        refine z_al0 dX9_twoDigits_74 (by first | decide | omega | assumption) ?_
        refine zcv0 dX9_twoDigits_75 zkX9_166 ziX9_fails zsX9_fails (zkB hΓ rfl) (by decide) rfl (Nat.le_of_ble_eq_true rfl) (by decide) (by first | decide | omega) ⟨Nat.le_refl _, Nat.le_refl _⟩ (zN_fail hΓ hM (fun h hF9 hf9 _ => ?_))
        try simp only [zup_ap, zup_row, ne_eq, not_false_eq_true, zres, Int.toNat_natCast, reduceIte, Nat.reduceEqDiff, Nat.reduceAdd, and_self, and_true, true_and, and_false, false_and]
        refine z_pop dX9_twoDigits_78 rfl ?_
        refine z_iconst dX9_twoDigits_79 (by decide) ?_
        refine z_iret dX9_twoDigits_80 rfl (Nat.le_refl _) (Nat.le_refl _) (zext_rf _) (fun hrr => ?_)
        first
        | exact absurd hd3 hd2
        | (have e9 : znum (h0 3) n 2 (zskip (h0 3) n p) 0 = (10 * (10 * 0 + zsg (h0 3) n (zskip (h0 3) n p) - 48) + zsg (h0 3) n (zskip (h0 3) n p + 1) - 48, zskip (h0 3) n p + 1 + 1) := by rw [znum_1 (e := 1) hd1, znum_1 (e := 0) hd2, znum_0 (Or.inl rfl)]
           rw [e9] at hQ1
           exact hQ1 hd1 hd3 h hF9 hf9)
