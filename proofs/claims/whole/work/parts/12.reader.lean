/-! the class's reader of CUSTOMS: it emits what zP says -/
def zRF (h0 h : zM) (n p : Nat) : Prop := ((∀ r, r ≠ 2 → r ≠ 13 → r ≠ 14 → h r = h0 r) ∧ ∀ j, j ≠ 2 → h 2 j = h0 2 j ∧ h 13 j = h0 13 j) ∧ h 2 1 = (n : Int) ∧ h 2 2 = (p : Int)
def zRS (h0 h : zM) (n p : Nat) (cs : List Int) : Prop := zRF h0 h n p ∧ h 13 2 = (cs.length : Int) ∧ ∀ i, i < cs.length → h 14 i = cs.getD i 0
theorem zRF_at {h0 h : zM} {n p p' : Nat} (H : zRF h0 h n p) : zRF h0 (zup h 2 2 (p' : Nat)) n p' := by
  obtain ⟨h1, h2, h3⟩ := H
  refine ⟨⟨fun r a b c => by rw [zup_row a]; exact h1.1 r a b c, fun j hj => ⟨by rw [zup_ap, if_neg (fun x => hj x.2)]; exact (h1.2 j hj).1, by rw [zup_row (by decide)]; exact (h1.2 j hj).2⟩⟩, by simpa [zup_ap] using h2, by simp [zup_ap]⟩
theorem zRS_at {h0 h : zM} {n p p' : Nat} {cs : List Int} (H : zRS h0 h n p cs) : zRS h0 (zup h 2 2 (p' : Nat)) n p' cs := by
  obtain ⟨h1, h2, h3⟩ := H
  exact ⟨zRF_at h1, by simpa [zup_ap] using h2, fun i hi => by simpa [zup_ap] using h3 i hi⟩
theorem zRS_emit {h0 h : zM} {n p : Nat} {cs : List Int} {x : Int} (H : zRS h0 h n p cs) : zRS h0 (zup (zup h 14 cs.length x) 13 2 ((cs.length : Int) + 1)) n p (cs ++ [x]) := by
  obtain ⟨⟨h1, h2, h3⟩, h4, h5⟩ := H
  refine ⟨⟨⟨fun r a b c => by rw [zup_row b, zup_row c]; exact h1.1 r a b c, fun j hj => ⟨by rw [zup_row (by decide), zup_row (by decide)]; exact (h1.2 j hj).1, by rw [zup_ap, if_neg (fun x => hj x.2), zup_row (by decide)]; exact (h1.2 j hj).2⟩⟩, by simpa [zup_ap] using h2, by simpa [zup_ap] using h3⟩, by simp [zup_ap], fun i hi => ?_⟩
  simp only [List.length_append, List.length_cons, List.length_nil] at hi
  rw [List.getD_eq_getElem?_getD]
  by_cases e : i = cs.length
  · subst e
    simp [zup_ap]
  · rw [List.getElem?_append_left (by omega)]
    simp only [zup_ap, e, and_false, if_false]
    have := h5 i (by omega)
    rw [List.getD_eq_getElem?_getD] at this
    simpa [zup_ap] using this
set_option maxRecDepth 4000 in
theorem zA_sign {l : Launch} {Γ : zC} {h0 h : zM} {Q : Option zV → zC → zM → Prop} {n q : Nat} {cs : List Int} (hΓ : zBase Γ) (hn2 : n ≤ 160) (hR : zRS h0 h n q cs) (hq : q ≤ 160) (hQ : Q (some (zI (zsg (h0 3) n q))) Γ h) : zCT l mX5_sign 0 0 0 Γ [zR 2] h Q := by
  have e3 : h 3 = h0 3 := hR.1.1.1 3 (by decide) (by decide) (by decide)
  exact X5_sign_ct hΓ hR.1.2.1 hn2 hR.1.2.2 (by rw [e3]; exact hQ)
set_option maxRecDepth 4000 in
theorem zA_accept {l : Launch} {Γ : zC} {h0 h : zM} {Q : Option zV → zC → zM → Prop} {x : Int} {n q : Nat} {cs : List Int} (hΓ : zBase Γ) (hn2 : n ≤ 160) (hR : zRS h0 h n q cs) (hq : q ≤ 160) (hQ0 : zsg (h0 3) n q ≠ x → Q (some (zI 0)) Γ h) (hQ1 : zsg (h0 3) n q = x → ∀ h2, zRS h0 h2 n (zskip (h0 3) n (q + 1)) cs → Q (some (zI 1)) Γ h2) : zCT l mX5_accept 1 0 0 Γ [zR 2, zI x] h Q := by
  have e3 : h 3 = h0 3 := hR.1.1.1 3 (by decide) (by decide) (by decide)
  exact X5_accept_ct hΓ hR.1.2.1 hn2 hR.1.2.2 (by omega) (by rw [e3]; exact hQ0) (by rw [e3]; exact fun e => hQ1 e _ (zRS_at hR)) hq
set_option maxRecDepth 4000 in
theorem zA_number {l : Launch} {Γ : zC} {h0 h : zM} {Q : Option zV → zC → zM → Prop} {dd : Nat} {n q : Nat} {cs : List Int} (hΓ : zBase Γ) (hn2 : n ≤ 160) (hR : zRS h0 h n q cs) (hq : q ≤ 160) (hdd : dd ≤ 4) (hQ : ∀ h2, zRS h0 h2 n (zskip (h0 3) n (znum (h0 3) n dd q 0).2) cs → Q (some (zI (if (znum (h0 3) n dd q 0).2 = q then -1 else (znum (h0 3) n dd q 0).1))) Γ h2) : zCT l mX5_number 1 0 0 Γ [zR 2, zI (dd : Nat)] h Q := by
  have e3 : h 3 = h0 3 := hR.1.1.1 3 (by decide) (by decide) (by decide)
  exact X5_number_ct hΓ hR.1.2.1 hn2 hR.1.2.2 hq hdd (by rw [e3]; exact hQ _ (zRS_at hR))
set_option maxRecDepth 4000 in
theorem zA_spent {l : Launch} {Γ : zC} {h0 h : zM} {Q : Option zV → zC → zM → Prop} {n q : Nat} {cs : List Int} (hΓ : zBase Γ) (hn2 : n ≤ 160) (hR : zRS h0 h n q cs) (hq : q ≤ 160) (hQ : Q (some (zI (if n ≤ q then 1 else 0))) Γ h) : zCT l mX5_isSpent 0 0 0 Γ [zR 2] h Q := by
  exact X5_isSpent_ct hΓ hR.1.2.1 hn2 hR.1.2.2 hQ
set_option maxRecDepth 4000 in
theorem zA_emit {l : Launch} {Γ : zC} {h0 h : zM} {Q : Option zV → zC → zM → Prop} {x : Int} {n q : Nat} {cs : List Int} (hΓ : zBase Γ) (hn2 : n ≤ 160) (hR : zRS h0 h n q cs) (hq : q ≤ 160) (hc : cs.length < 161) (hQ : ∀ h2, zRS h0 h2 n q (cs ++ [x]) → Q none Γ h2) : zCT l mX2_emit 0 0 0 Γ [zR 13, zI x] h Q := by
  have e4 := hR.2.1
  refine zCT_of (by decide) (Nat.le_of_ble_eq_true rfl) (ls := [some (zR 13), some (zI x)]) rfl ?_
  refine z_al0 dX2_emit_0 (by first | decide | omega | assumption) ?_
  refine z_getI zfX2_19 dX2_emit_1 (zkB hΓ rfl) rfl ?_
  try simp only [zup_ap, zup_row, ne_eq, not_false_eq_true, zres, Int.toNat_natCast, reduceIte, Nat.reduceEqDiff, Nat.reduceAdd, and_self, and_true, true_and, and_false, false_and]
  refine z_if_lt (t := 39) dX2_emit_4 (by rfl) (fun ht4 => ?_) (fun hf4 => ?_)
  · refine z_ret dX2_emit_39 rfl (Nat.le_refl _) (Nat.le_refl _) (zext_rf _) ?_
    first | (exfalso; omega) | (simp only [e4, Int.toNat_natCast]; exact hQ _ (zRS_emit hR))
  · refine z_al0 dX2_emit_7 (by first | decide | omega | assumption) ?_
    refine z_getI zfX2_19 dX2_emit_8 (zkB hΓ rfl) rfl ?_
    try simp only [zup_ap, zup_row, ne_eq, not_false_eq_true, zres, Int.toNat_natCast, reduceIte, Nat.reduceEqDiff, Nat.reduceAdd, and_self, and_true, true_and, and_false, false_and]
    refine z_al0 dX2_emit_11 (by first | decide | omega | assumption) ?_
    refine z_getR zfX2_15 dX2_emit_12 (zkB hΓ rfl) rfl (zsB hΓ rfl) (zvB hΓ (by decide)) ?_
    refine z_alen dX2_emit_15 (zkB hΓ rfl) (by decide) ?_
    refine z_icmp_ge (t := 39) dX2_emit_16 (by rfl) (fun ht16 => ?_) (fun hf16 => ?_)
    · refine z_ret dX2_emit_39 rfl (Nat.le_refl _) (Nat.le_refl _) (zext_rf _) ?_
      first | (exfalso; omega) | (simp only [e4, Int.toNat_natCast]; exact hQ _ (zRS_emit hR))
    · refine z_al0 dX2_emit_19 (by first | decide | omega | assumption) ?_
      refine z_getR zfX2_15 dX2_emit_20 (zkB hΓ rfl) rfl (zsB hΓ rfl) (zvB hΓ (by decide)) ?_
      refine z_al0 dX2_emit_23 (by first | decide | omega | assumption) ?_
      refine z_getI zfX2_19 dX2_emit_24 (zkB hΓ rfl) rfl ?_
      try simp only [zup_ap, zup_row, ne_eq, not_false_eq_true, zres, Int.toNat_natCast, reduceIte, Nat.reduceEqDiff, Nat.reduceAdd, and_self, and_true, true_and, and_false, false_and]
      refine z_il1 dX2_emit_27 ?_
      refine z_iast dX2_emit_28 (zkB hΓ rfl) (by omega) (by omega) ?_
      refine z_al0 dX2_emit_29 (by first | decide | omega | assumption) ?_
      refine z_dup dX2_emit_30 rfl ?_
      refine z_getI zfX2_19 dX2_emit_31 (zkB hΓ rfl) rfl ?_
      try simp only [zup_ap, zup_row, ne_eq, not_false_eq_true, zres, Int.toNat_natCast, reduceIte, Nat.reduceEqDiff, Nat.reduceAdd, and_self, and_true, true_and, and_false, false_and]
      refine z_iconst dX2_emit_34 (by decide) ?_
      refine z_iadd dX2_emit_35 (by omega) ?_
      refine z_putI zfX2_19 dX2_emit_36 (zkB hΓ rfl) rfl rfl ?_
      refine z_ret dX2_emit_39 rfl (Nat.le_refl _) (Nat.le_refl _) (zext_rf _) ?_
      first | (exfalso; omega) | (simp only [e4, Int.toNat_natCast]; exact hQ _ (zRS_emit hR))
set_option maxRecDepth 4000 in
theorem X2_isLetter_ct {l : Launch} {Γ : zC} {h : zM} {Q : Option zV → zC → zM → Prop} {x : Int} (hQ : Q (some (zI (if zlet x then 1 else 0))) Γ h) : zCT l mX2_isLetter 0 0 0 Γ [zI x] h Q := by
  refine zCT_of (by decide) (Nat.le_of_ble_eq_true rfl) (ls := [some (zI x)]) rfl ?_
  refine z_il0 dX2_isLetter_0 ?_
  refine z_bipush (x := 110) dX2_isLetter_1 (by rfl) (by decide) ?_
  refine z_icmp_eq (t := 36) dX2_isLetter_3 (by rfl) (fun ht3 => ?_) (fun hf3 => ?_)
  · refine z_iconst dX2_isLetter_36 (by decide) ?_
    refine z_goto (t := 41) dX2_isLetter_37 (by rfl) ?_
    refine z_zret dX2_isLetter_41 rfl (Nat.le_refl _) (Nat.le_refl _) (zext_rf _) (by first | exact Or.inl rfl | exact Or.inr rfl | omega) ?_
    refine zQi hQ ?_ rfl
    first | rw [if_pos (by omega)] | rw [if_neg (by omega)]
  · refine z_il0 dX2_isLetter_6 ?_
    refine z_bipush (x := 116) dX2_isLetter_7 (by rfl) (by decide) ?_
    refine z_icmp_eq (t := 36) dX2_isLetter_9 (by rfl) (fun ht9 => ?_) (fun hf9 => ?_)
    · refine z_iconst dX2_isLetter_36 (by decide) ?_
      refine z_goto (t := 41) dX2_isLetter_37 (by rfl) ?_
      refine z_zret dX2_isLetter_41 rfl (Nat.le_refl _) (Nat.le_refl _) (zext_rf _) (by first | exact Or.inl rfl | exact Or.inr rfl | omega) ?_
      refine zQi hQ ?_ rfl
      first | rw [if_pos (by omega)] | rw [if_neg (by omega)]
    · refine z_il0 dX2_isLetter_12 ?_
      refine z_bipush (x := 115) dX2_isLetter_13 (by rfl) (by decide) ?_
      refine z_icmp_eq (t := 36) dX2_isLetter_15 (by rfl) (fun ht15 => ?_) (fun hf15 => ?_)
      · refine z_iconst dX2_isLetter_36 (by decide) ?_
        refine z_goto (t := 41) dX2_isLetter_37 (by rfl) ?_
        refine z_zret dX2_isLetter_41 rfl (Nat.le_refl _) (Nat.le_refl _) (zext_rf _) (by first | exact Or.inl rfl | exact Or.inr rfl | omega) ?_
        refine zQi hQ ?_ rfl
        first | rw [if_pos (by omega)] | rw [if_neg (by omega)]
      · refine z_il0 dX2_isLetter_18 ?_
        refine z_bipush (x := 108) dX2_isLetter_19 (by rfl) (by decide) ?_
        refine z_icmp_eq (t := 36) dX2_isLetter_21 (by rfl) (fun ht21 => ?_) (fun hf21 => ?_)
        · refine z_iconst dX2_isLetter_36 (by decide) ?_
          refine z_goto (t := 41) dX2_isLetter_37 (by rfl) ?_
          refine z_zret dX2_isLetter_41 rfl (Nat.le_refl _) (Nat.le_refl _) (zext_rf _) (by first | exact Or.inl rfl | exact Or.inr rfl | omega) ?_
          refine zQi hQ ?_ rfl
          first | rw [if_pos (by omega)] | rw [if_neg (by omega)]
        · refine z_il0 dX2_isLetter_24 ?_
          refine z_bipush (x := 105) dX2_isLetter_25 (by rfl) (by decide) ?_
          refine z_icmp_eq (t := 36) dX2_isLetter_27 (by rfl) (fun ht27 => ?_) (fun hf27 => ?_)
          · refine z_iconst dX2_isLetter_36 (by decide) ?_
            refine z_goto (t := 41) dX2_isLetter_37 (by rfl) ?_
            refine z_zret dX2_isLetter_41 rfl (Nat.le_refl _) (Nat.le_refl _) (zext_rf _) (by first | exact Or.inl rfl | exact Or.inr rfl | omega) ?_
            refine zQi hQ ?_ rfl
            first | rw [if_pos (by omega)] | rw [if_neg (by omega)]
          · refine z_il0 dX2_isLetter_30 ?_
            refine z_bipush (x := 100) dX2_isLetter_31 (by rfl) (by decide) ?_
            refine z_icmp_ne (t := 40) dX2_isLetter_33 (by rfl) (fun ht33 => ?_) (fun hf33 => ?_)
            · refine z_iconst dX2_isLetter_40 (by decide) ?_
              refine z_zret dX2_isLetter_41 rfl (Nat.le_refl _) (Nat.le_refl _) (zext_rf _) (by first | exact Or.inl rfl | exact Or.inr rfl | omega) ?_
              refine zQi hQ ?_ rfl
              first | rw [if_pos (by omega)] | rw [if_neg (by omega)]
            · refine z_iconst dX2_isLetter_36 (by decide) ?_
              refine z_goto (t := 41) dX2_isLetter_37 (by rfl) ?_
              refine z_zret dX2_isLetter_41 rfl (Nat.le_refl _) (Nat.le_refl _) (zext_rf _) (by first | exact Or.inl rfl | exact Or.inr rfl | omega) ?_
              refine zQi hQ ?_ rfl
              first | rw [if_pos (by omega)] | rw [if_neg (by omega)]
set_option maxRecDepth 4000 in
theorem zA_cmp {l : Launch} {Γ : zC} {h0 h : zM} {Q : Option zV → zC → zM → Prop} {n q : Nat} {cs : List Int} (hΓ : zBase Γ) (hn2 : n ≤ 160) (hR : zRS h0 h n q cs) (hq : q ≤ 160) (hQ0 : ¬ zcp (zsg (h0 3) n q) → Q (some (zI (-1))) Γ h) (hQ1 : zcp (zsg (h0 3) n q) → ∀ h2, zRS h0 h2 n (zskip (h0 3) n (q + 1)) cs → Q (some (zI (zsg (h0 3) n q))) Γ h2) : zCT l mX2_comparison 2 0 0 Γ [zR 13] h Q := by
  refine zCT_of (by decide) (Nat.le_of_ble_eq_true rfl) (ls := [some (zR 13), none, none]) rfl ?_
  refine z_al0 dX2_comparison_0 (by first | decide | omega | assumption) ?_
  refine z_getR zfX2_9 dX2_comparison_1 (zkB hΓ rfl) rfl (zsB hΓ rfl) (zvB hΓ (by decide)) ?_
  refine zcv0 dX2_comparison_4 zkX2_44 ziX5_sign zsX5_sign (zkB hΓ rfl) (by decide) rfl (Nat.le_of_ble_eq_true rfl) (by decide) (by first | decide | omega) ⟨Nat.le_refl _, Nat.le_refl _⟩ (zA_sign hΓ hn2 hR hq (fun _ => ?_))
  try simp only [zup_ap, zup_row, ne_eq, not_false_eq_true, zres, Int.toNat_natCast, reduceIte, Nat.reduceEqDiff, Nat.reduceAdd, and_self, and_true, true_and, and_false, false_and]
  refine z_is1 dX2_comparison_7 (Nat.le_of_ble_eq_true rfl) rfl ?_
  refine z_il1 dX2_comparison_8 ?_
  refine z_bipush (x := 61) dX2_comparison_9 (by rfl) (by decide) ?_
  refine z_icmp_eq (t := 26) dX2_comparison_11 (by rfl) (fun ht11 => ?_) (fun hf11 => ?_)
  · refine z_iconst dX2_comparison_26 (by decide) ?_
    refine z_goto (t := 31) dX2_comparison_27 (by rfl) ?_
    refine z_is2 dX2_comparison_31 (Nat.le_of_ble_eq_true rfl) rfl ?_
    refine z_il2 dX2_comparison_32 ?_
    refine z_if_eq (t := 51) dX2_comparison_33 (by rfl) (fun hx => absurd hx (by decide)) (fun _ => ?_)
    refine z_al0 dX2_comparison_36 (by first | decide | omega | assumption) ?_
    refine z_getR zfX2_9 dX2_comparison_37 (zkB hΓ rfl) rfl (zsB hΓ rfl) (zvB hΓ (by decide)) ?_
    refine z_il1 dX2_comparison_40 ?_
    refine zcv1 dX2_comparison_41 zkX2_35 ziX5_accept zsX5_accept (zkB hΓ rfl) (by decide) rfl (Nat.le_of_ble_eq_true rfl) (by decide) (by first | decide | omega) ⟨Nat.le_refl _, Nat.le_refl _⟩ (zA_accept hΓ hn2 hR hq (fun hne _ => absurd rfl hne) (fun heq h hR _ => ?_))
    · try simp only [zup_ap, zup_row, ne_eq, not_false_eq_true, zres, Int.toNat_natCast, reduceIte, Nat.reduceEqDiff, Nat.reduceAdd, and_self, and_true, true_and, and_false, false_and]
      refine z_if_eq (t := 51) dX2_comparison_44 (by rfl) (fun hx => absurd hx (by decide)) (fun _ => ?_)
      refine z_il1 dX2_comparison_47 ?_
      refine z_goto (t := 52) dX2_comparison_48 (by rfl) ?_
      refine z_iret dX2_comparison_52 rfl (Nat.le_refl _) (Nat.le_refl _) (zext_rf _) (fun hrr => ?_)
      first | exact hQ0 (by omega) | exact hQ1 (by omega) h hR | (exfalso; omega)
  · refine z_il1 dX2_comparison_14 ?_
    refine z_bipush (x := 60) dX2_comparison_15 (by rfl) (by decide) ?_
    refine z_icmp_eq (t := 26) dX2_comparison_17 (by rfl) (fun ht17 => ?_) (fun hf17 => ?_)
    · refine z_iconst dX2_comparison_26 (by decide) ?_
      refine z_goto (t := 31) dX2_comparison_27 (by rfl) ?_
      refine z_is2 dX2_comparison_31 (Nat.le_of_ble_eq_true rfl) rfl ?_
      refine z_il2 dX2_comparison_32 ?_
      refine z_if_eq (t := 51) dX2_comparison_33 (by rfl) (fun hx => absurd hx (by decide)) (fun _ => ?_)
      refine z_al0 dX2_comparison_36 (by first | decide | omega | assumption) ?_
      refine z_getR zfX2_9 dX2_comparison_37 (zkB hΓ rfl) rfl (zsB hΓ rfl) (zvB hΓ (by decide)) ?_
      refine z_il1 dX2_comparison_40 ?_
      refine zcv1 dX2_comparison_41 zkX2_35 ziX5_accept zsX5_accept (zkB hΓ rfl) (by decide) rfl (Nat.le_of_ble_eq_true rfl) (by decide) (by first | decide | omega) ⟨Nat.le_refl _, Nat.le_refl _⟩ (zA_accept hΓ hn2 hR hq (fun hne _ => absurd rfl hne) (fun heq h hR _ => ?_))
      · try simp only [zup_ap, zup_row, ne_eq, not_false_eq_true, zres, Int.toNat_natCast, reduceIte, Nat.reduceEqDiff, Nat.reduceAdd, and_self, and_true, true_and, and_false, false_and]
        refine z_if_eq (t := 51) dX2_comparison_44 (by rfl) (fun hx => absurd hx (by decide)) (fun _ => ?_)
        refine z_il1 dX2_comparison_47 ?_
        refine z_goto (t := 52) dX2_comparison_48 (by rfl) ?_
        refine z_iret dX2_comparison_52 rfl (Nat.le_refl _) (Nat.le_refl _) (zext_rf _) (fun hrr => ?_)
        first | exact hQ0 (by omega) | exact hQ1 (by omega) h hR | (exfalso; omega)
    · refine z_il1 dX2_comparison_20 ?_
      refine z_bipush (x := 62) dX2_comparison_21 (by rfl) (by decide) ?_
      refine z_icmp_ne (t := 30) dX2_comparison_23 (by rfl) (fun ht23 => ?_) (fun hf23 => ?_)
      · refine z_iconst dX2_comparison_30 (by decide) ?_
        refine z_is2 dX2_comparison_31 (Nat.le_of_ble_eq_true rfl) rfl ?_
        refine z_il2 dX2_comparison_32 ?_
        refine z_if_eq (t := 51) dX2_comparison_33 (by rfl) (fun _ => ?_) (fun hx => absurd hx (by decide))
        refine z_iconst dX2_comparison_51 (by decide) ?_
        refine z_iret dX2_comparison_52 rfl (Nat.le_refl _) (Nat.le_refl _) (zext_rf _) (fun hrr => ?_)
        first | exact hQ0 (by omega) | exact hQ1 (by omega) h hR | (exfalso; omega)
      · refine z_iconst dX2_comparison_26 (by decide) ?_
        refine z_goto (t := 31) dX2_comparison_27 (by rfl) ?_
        refine z_is2 dX2_comparison_31 (Nat.le_of_ble_eq_true rfl) rfl ?_
        refine z_il2 dX2_comparison_32 ?_
        refine z_if_eq (t := 51) dX2_comparison_33 (by rfl) (fun hx => absurd hx (by decide)) (fun _ => ?_)
        refine z_al0 dX2_comparison_36 (by first | decide | omega | assumption) ?_
        refine z_getR zfX2_9 dX2_comparison_37 (zkB hΓ rfl) rfl (zsB hΓ rfl) (zvB hΓ (by decide)) ?_
        refine z_il1 dX2_comparison_40 ?_
        refine zcv1 dX2_comparison_41 zkX2_35 ziX5_accept zsX5_accept (zkB hΓ rfl) (by decide) rfl (Nat.le_of_ble_eq_true rfl) (by decide) (by first | decide | omega) ⟨Nat.le_refl _, Nat.le_refl _⟩ (zA_accept hΓ hn2 hR hq (fun hne _ => absurd rfl hne) (fun heq h hR _ => ?_))
        · try simp only [zup_ap, zup_row, ne_eq, not_false_eq_true, zres, Int.toNat_natCast, reduceIte, Nat.reduceEqDiff, Nat.reduceAdd, and_self, and_true, true_and, and_false, false_and]
          refine z_if_eq (t := 51) dX2_comparison_44 (by rfl) (fun hx => absurd hx (by decide)) (fun _ => ?_)
          refine z_il1 dX2_comparison_47 ?_
          refine z_goto (t := 52) dX2_comparison_48 (by rfl) ?_
          refine z_iret dX2_comparison_52 rfl (Nat.le_refl _) (Nat.le_refl _) (zext_rf _) (fun hrr => ?_)
          first | exact hQ0 (by omega) | exact hQ1 (by omega) h hR | (exfalso; omega)
def zPo (Γ : zC) (h0 : zM) (n : Nat) (cs : List Int) (r : zRs) (Q : Option zV → zC → zM → Prop) : Prop := match r with
  | (false, p, _) => ∀ h', zRF h0 h' n p → Q (some (zI 0)) Γ h'
  | (true, p, c) => ∀ h', zRS h0 h' n p (cs ++ c) → Q (some (zI 1)) Γ h'
def zSp (l : Launch) (Γ : zC) (h0 : zM) (n f tag : Nat) (M : zMI) : Prop := ∀ (q dep : Nat) (cs : List Int) (h : zM) (r : zRs) (Q : Option zV → zC → zM → Prop), zRS h0 h n q cs → q ≤ 160 → cs.length ≤ q → dep ≤ 6 → zP (h0 3) n f tag q dep = some r → zPo Γ h0 n cs r Q → zCT l M (f + 3) 0 0 Γ [zR 13, zI (dep : Nat)] h Q
def zSq (l : Launch) (Γ : zC) (h0 : zM) (n f tag sl : Nat) (M : zMI) : Prop := ∀ (q : Nat) (cs : List Int) (h : zM) (r : zRs) (Q : Option zV → zC → zM → Prop), zRS h0 h n q cs → q ≤ 160 → cs.length + sl ≤ q → zP (h0 3) n f tag q 0 = some r → zPo Γ h0 n cs r Q → zCT l M (f + 3) 0 0 Γ [zR 13] h Q
theorem zP_c {t : Nat → Int} {n f tag q dep p : Nat} {c : List Int} (h : zP t n f tag q dep = some (true, p, c)) (ht : tag ≠ 11) : q ≤ p ∧ (p ≤ n ∨ p = q) ∧ c.length + q ≤ p := by
  have := zP_b t n f tag q dep p c h
  rw [if_neg ht] at this
  exact this
theorem zP_d {t : Nat → Int} {n f q dep p : Nat} {c : List Int} (h : zP t n f 11 q dep = some (true, p, c)) : q ≤ p ∧ (p ≤ n ∨ p = q) ∧ c.length + q ≤ p + 1 := zP_b t n f 11 q dep p c h
theorem znum_nn (t : Nat → Int) (n : Nat) : ∀ (d p : Nat) (v : Int), 0 ≤ v → 0 ≤ (znum t n d p v).1 := by
  intro d
  induction d with
  | zero => intro p v h; exact h
  | succ d ih =>
    intro p v h
    unfold znum
    split
    · exact ih _ _ (by omega)
    · exact h
set_option maxRecDepth 4000 in
theorem zB_atom {l : Launch} {Γ : zC} {h0 : zM} {n f : Nat} (hΓ : zBase Γ) (hn2 : n ≤ 160) (iS : ∀ g, g < f + 1 → zSp l Γ h0 n g 3 mX2_sum) : zSp l Γ h0 n (f + 1) 0 mX2_atom := by
  intro q dep cs h r Q hR hq hlen hdep hP hQ
  have sk1 := fun k => zskip_b (h0 3) n k
  simp only [zP] at hP
  refine zCT_of (by decide) (Nat.le_of_ble_eq_true rfl) (ls := [some (zR 13), some (zI (dep : Nat)), none, none]) rfl ?_
  refine z_al0 dX2_atom_0 (by first | decide | omega | assumption) ?_
  refine z_getR zfX2_9 dX2_atom_1 (zkB hΓ rfl) rfl (zsB hΓ rfl) (zvB hΓ (by decide)) ?_
  refine zcv0 dX2_atom_4 zkX2_44 ziX5_sign zsX5_sign (zkB hΓ rfl) (by decide) rfl (Nat.le_of_ble_eq_true rfl) (by decide) (by first | decide | omega) ⟨Nat.le_refl _, Nat.le_refl _⟩ (zA_sign hΓ hn2 hR (by omega) (fun _ => ?_))
  try simp only [zup_ap, zup_row, ne_eq, not_false_eq_true, zres, Int.toNat_natCast, reduceIte, Nat.reduceEqDiff, Nat.reduceAdd, and_self, and_true, true_and, and_false, false_and]
  refine z_is2 dX2_atom_7 (Nat.le_of_ble_eq_true rfl) rfl ?_
  refine z_il2 dX2_atom_8 ?_
  refine z_bipush (x := 91) dX2_atom_9 (by rfl) (by decide) ?_
  refine z_icmp_ne (t := 59) dX2_atom_11 (by rfl) (fun ht11 => ?_) (fun hf11 => ?_)
  · rw [if_neg ht11] at hP
    refine z_il2 dX2_atom_59 ?_
    refine zcs1 dX2_atom_60 zkX2_79 ztX2_isLetter (Nat.le_of_ble_eq_true rfl) (by decide) (by first | decide | omega) ⟨Nat.le_refl _, Nat.le_refl _⟩ (X2_isLetter_ct (fun _ => ?_))
    try simp only [zup_ap, zup_row, ne_eq, not_false_eq_true, zres, Int.toNat_natCast, reduceIte, Nat.reduceEqDiff, Nat.reduceAdd, and_self, and_true, true_and, and_false, false_and]
    refine z_if_eq (t := 81) dX2_atom_63 (by rfl) (fun ht63 => ?_) (fun hf63 => ?_)
    · rw [if_neg (zif0.mp ht63)] at hP
      refine z_al0 dX2_atom_81 (by first | decide | omega | assumption) ?_
      refine z_getR zfX2_9 dX2_atom_82 (zkB hΓ rfl) rfl (zsB hΓ rfl) (zvB hΓ (by decide)) ?_
      refine z_iconst dX2_atom_85 (by decide) ?_
      refine zcv1 dX2_atom_86 zkX2_82 ziX5_number zsX5_number (zkB hΓ rfl) (by decide) rfl (Nat.le_of_ble_eq_true rfl) (by decide) (by first | decide | omega) ⟨Nat.le_refl _, Nat.le_refl _⟩ (zA_number (dd := 4) hΓ hn2 hR (by omega) (by decide) (fun h hR _ => ?_))
      try simp only [zup_ap, zup_row, ne_eq, not_false_eq_true, zres, Int.toNat_natCast, reduceIte, Nat.reduceEqDiff, Nat.reduceAdd, and_self, and_true, true_and, and_false, false_and]
      refine z_is3 dX2_atom_89 (Nat.le_of_ble_eq_true rfl) rfl ?_
      refine z_il3 dX2_atom_90 ?_
      refine z_iconst dX2_atom_91 (by decide) ?_
      refine z_icmp_ne (t := 97) dX2_atom_92 (by rfl) (fun ht92 => ?_) (fun hf92 => ?_)
      · have z9 : ¬ (znum (h0 3) n 4 q 0).2 = q := fun e9 => by rw [if_pos e9] at ht92; exact ht92 rfl
        rw [if_neg z9] at hP
        rw [if_neg z9]
        have s8 := znum_p (h0 3) n 4 q 0
        have s9 := sk1 (znum (h0 3) n 4 q 0).2
        refine z_al0 dX2_atom_97 (by first | decide | omega | assumption) ?_
        refine z_il3 dX2_atom_98 ?_
        refine zcv1 dX2_atom_99 zkX2_60 ziX2_emit zsX2_emit (zkB hΓ rfl) (by decide) rfl (Nat.le_of_ble_eq_true rfl) (by decide) (by first | decide | omega) ⟨Nat.le_refl _, Nat.le_refl _⟩ (zA_emit hΓ hn2 hR (by omega) (by first | omega | (simp only [List.length_append, List.length_cons, List.length_nil]; omega)) (fun h hR _ => ?_))
        try simp only [zup_ap, zup_row, ne_eq, not_false_eq_true, zres, Int.toNat_natCast, reduceIte, Nat.reduceEqDiff, Nat.reduceAdd, and_self, and_true, true_and, and_false, false_and]
        refine z_iconst dX2_atom_102 (by decide) ?_
        refine z_zret dX2_atom_103 rfl (Nat.le_refl _) (Nat.le_refl _) (zext_rf _) (by first | exact Or.inl rfl | exact Or.inr rfl | omega) ?_
        first
        | exact hQ _ hR
        | exact hQ _ hR.1
        | (cases hP; exact hQ _ hR)
        | (cases hP; exact hQ _ hR.1)
        | (cases hP; exact hQ _ (by simpa using hR))
        | (exfalso; omega)
      · have z9 : (znum (h0 3) n 4 q 0).2 = q := by
          apply Classical.byContradiction
          intro e9
          rw [if_neg e9] at hf92
          have := znum_nn (h0 3) n 4 q 0 (by omega)
          omega
        rw [if_pos z9] at hP
        rw [z9] at hR
        refine z_iconst dX2_atom_95 (by decide) ?_
        refine z_zret dX2_atom_96 rfl (Nat.le_refl _) (Nat.le_refl _) (zext_rf _) (by first | exact Or.inl rfl | exact Or.inr rfl | omega) ?_
        first
        | exact hQ _ hR
        | exact hQ _ hR.1
        | (cases hP; exact hQ _ hR)
        | (cases hP; exact hQ _ hR.1)
        | (cases hP; exact hQ _ (by simpa using hR))
        | (exfalso; omega)
    · have hl9 := zif1.mp hf63
      rw [if_pos hl9] at hP
      have l0 : q < n := by rcases hl9 with h | h | h | h | h | h <;> exact zsg_lt h (by decide)
      have s0 := sk1 (q + 1)
      refine z_al0 dX2_atom_66 (by first | decide | omega | assumption) ?_
      refine z_il2 dX2_atom_67 ?_
      refine z_ineg dX2_atom_68 (by omega) ?_
      refine zcv1 dX2_atom_69 zkX2_60 ziX2_emit zsX2_emit (zkB hΓ rfl) (by decide) rfl (Nat.le_of_ble_eq_true rfl) (by decide) (by first | decide | omega) ⟨Nat.le_refl _, Nat.le_refl _⟩ (zA_emit hΓ hn2 hR (by omega) (by first | omega | (simp only [List.length_append, List.length_cons, List.length_nil]; omega)) (fun h hR _ => ?_))
      try simp only [zup_ap, zup_row, ne_eq, not_false_eq_true, zres, Int.toNat_natCast, reduceIte, Nat.reduceEqDiff, Nat.reduceAdd, and_self, and_true, true_and, and_false, false_and]
      refine z_al0 dX2_atom_72 (by first | decide | omega | assumption) ?_
      refine z_getR zfX2_9 dX2_atom_73 (zkB hΓ rfl) rfl (zsB hΓ rfl) (zvB hΓ (by decide)) ?_
      refine z_il2 dX2_atom_76 ?_
      refine zcv1 dX2_atom_77 zkX2_35 ziX5_accept zsX5_accept (zkB hΓ rfl) (by decide) rfl (Nat.le_of_ble_eq_true rfl) (by decide) (by first | decide | omega) ⟨Nat.le_refl _, Nat.le_refl _⟩ (zA_accept hΓ hn2 hR (by omega) (fun hne _ => absurd rfl hne) (fun heq h hR _ => ?_))
      · try simp only [zup_ap, zup_row, ne_eq, not_false_eq_true, zres, Int.toNat_natCast, reduceIte, Nat.reduceEqDiff, Nat.reduceAdd, and_self, and_true, true_and, and_false, false_and]
        refine z_zret dX2_atom_80 rfl (Nat.le_refl _) (Nat.le_refl _) (zext_rf _) (by first | exact Or.inl rfl | exact Or.inr rfl | omega) ?_
        first
        | exact hQ _ hR
        | exact hQ _ hR.1
        | (cases hP; exact hQ _ hR)
        | (cases hP; exact hQ _ hR.1)
        | (cases hP; exact hQ _ (by simpa using hR))
        | (exfalso; omega)
  · rw [if_pos hf11] at hP
    have l0 := zsg_lt hf11 (by decide)
    have s0 := sk1 (q + 1)
    refine z_il1 dX2_atom_14 ?_
    refine z_bipush (x := 6) dX2_atom_15 (by rfl) (by decide) ?_
    refine z_icmp_ge (t := 57) dX2_atom_17 (by rfl) (fun ht17 => ?_) (fun hf17 => ?_)
    · rw [if_neg (by omega)] at hP
      refine z_iconst dX2_atom_57 (by decide) ?_
      refine z_zret dX2_atom_58 rfl (Nat.le_refl _) (Nat.le_refl _) (zext_rf _) (by first | exact Or.inl rfl | exact Or.inr rfl | omega) ?_
      first
      | exact hQ _ hR
      | exact hQ _ hR.1
      | (cases hP; exact hQ _ hR)
      | (cases hP; exact hQ _ hR.1)
      | (cases hP; exact hQ _ (by simpa using hR))
      | (exfalso; omega)
    · rw [if_pos (by omega)] at hP
      refine z_al0 dX2_atom_20 (by first | decide | omega | assumption) ?_
      refine z_getR zfX2_9 dX2_atom_21 (zkB hΓ rfl) rfl (zsB hΓ rfl) (zvB hΓ (by decide)) ?_
      refine z_il2 dX2_atom_24 ?_
      refine zcv1 dX2_atom_25 zkX2_35 ziX5_accept zsX5_accept (zkB hΓ rfl) (by decide) rfl (Nat.le_of_ble_eq_true rfl) (by decide) (by first | decide | omega) ⟨Nat.le_refl _, Nat.le_refl _⟩ (zA_accept hΓ hn2 hR (by omega) (fun hne _ => absurd rfl hne) (fun heq h hR _ => ?_))
      · have s1 := sk1 (q + 1)
        try simp only [zup_ap, zup_row, ne_eq, not_false_eq_true, zres, Int.toNat_natCast, reduceIte, Nat.reduceEqDiff, Nat.reduceAdd, and_self, and_true, true_and, and_false, false_and]
        refine z_if_eq (t := 57) dX2_atom_28 (by rfl) (fun hx => absurd hx (by decide)) (fun _ => ?_)
        refine z_al0 dX2_atom_31 (by first | decide | omega | assumption) ?_
        refine z_il1 dX2_atom_32 ?_
        refine z_iconst dX2_atom_33 (by decide) ?_
        refine z_iadd dX2_atom_34 (by omega) ?_
        rcases zbd_c hP with ⟨p1, c1, hP1, rfl⟩ | ⟨p1, c1, hP1, hP⟩
        · refine zcv1 dX2_atom_35 zkX2_54 ziX2_sum zsX2_sum (zkB hΓ rfl) (by decide) rfl (Nat.le_of_ble_eq_true rfl) (by decide) (by first | decide | omega) ⟨Nat.le_refl _, Nat.le_refl _⟩ (iS f (by omega) _ (dep + 1) _ _ _ _ hR (by omega) (by first | omega | (simp only [List.length_append, List.length_cons, List.length_nil]; omega)) (by omega) hP1 (fun h hR _ => ?_))
          try simp only [zup_ap, zup_row, ne_eq, not_false_eq_true, zres, Int.toNat_natCast, reduceIte, Nat.reduceEqDiff, Nat.reduceAdd, and_self, and_true, true_and, and_false, false_and]
          refine z_if_eq (t := 57) dX2_atom_38 (by rfl) (fun _ => ?_) (fun hx => absurd hx (by decide))
          refine z_iconst dX2_atom_57 (by decide) ?_
          refine z_zret dX2_atom_58 rfl (Nat.le_refl _) (Nat.le_refl _) (zext_rf _) (by first | exact Or.inl rfl | exact Or.inr rfl | omega) ?_
          first
          | exact hQ _ hR
          | exact hQ _ hR.1
          | (cases hP; exact hQ _ hR)
          | (cases hP; exact hQ _ hR.1)
          | (cases hP; exact hQ _ (by simpa using hR))
          | (exfalso; omega)
        · refine zcv1 dX2_atom_35 zkX2_54 ziX2_sum zsX2_sum (zkB hΓ rfl) (by decide) rfl (Nat.le_of_ble_eq_true rfl) (by decide) (by first | decide | omega) ⟨Nat.le_refl _, Nat.le_refl _⟩ (iS f (by omega) _ (dep + 1) _ _ _ _ hR (by omega) (by first | omega | (simp only [List.length_append, List.length_cons, List.length_nil]; omega)) (by omega) hP1 (fun h hR _ => ?_))
          try simp only [zup_ap, zup_row, ne_eq, not_false_eq_true, zres, Int.toNat_natCast, reduceIte, Nat.reduceEqDiff, Nat.reduceAdd, and_self, and_true, true_and, and_false, false_and]
          have b1 := zP_c hP1 (by decide)
          refine z_if_eq (t := 57) dX2_atom_38 (by rfl) (fun hx => absurd hx (by decide)) (fun _ => ?_)
          refine z_al0 dX2_atom_41 (by first | decide | omega | assumption) ?_
          refine z_getR zfX2_9 dX2_atom_42 (zkB hΓ rfl) rfl (zsB hΓ rfl) (zvB hΓ (by decide)) ?_
          refine z_bipush (x := 93) dX2_atom_45 (by rfl) (by decide) ?_
          refine zcv1 dX2_atom_47 zkX2_35 ziX5_accept zsX5_accept (zkB hΓ rfl) (by decide) rfl (Nat.le_of_ble_eq_true rfl) (by decide) (by first | decide | omega) ⟨Nat.le_refl _, Nat.le_refl _⟩ (zA_accept hΓ hn2 hR (by omega) (fun hne _ => ?_) (fun heq h hR _ => ?_))
          · rw [if_neg hne] at hP
            try simp only [zup_ap, zup_row, ne_eq, not_false_eq_true, zres, Int.toNat_natCast, reduceIte, Nat.reduceEqDiff, Nat.reduceAdd, and_self, and_true, true_and, and_false, false_and]
            refine z_if_eq (t := 57) dX2_atom_50 (by rfl) (fun _ => ?_) (fun hx => absurd hx (by decide))
            refine z_iconst dX2_atom_57 (by decide) ?_
            refine z_zret dX2_atom_58 rfl (Nat.le_refl _) (Nat.le_refl _) (zext_rf _) (by first | exact Or.inl rfl | exact Or.inr rfl | omega) ?_
            first
            | exact hQ _ hR
            | exact hQ _ hR.1
            | (cases hP; exact hQ _ hR)
            | (cases hP; exact hQ _ hR.1)
            | (cases hP; exact hQ _ (by simpa using hR))
            | (exfalso; omega)
          · rw [if_pos heq] at hP
            have l3 := zsg_lt heq (by decide)
            have s3 := sk1 (p1 + 1)
            try simp only [zup_ap, zup_row, ne_eq, not_false_eq_true, zres, Int.toNat_natCast, reduceIte, Nat.reduceEqDiff, Nat.reduceAdd, and_self, and_true, true_and, and_false, false_and]
            refine z_if_eq (t := 57) dX2_atom_50 (by rfl) (fun hx => absurd hx (by decide)) (fun _ => ?_)
            refine z_iconst dX2_atom_53 (by decide) ?_
            refine z_goto (t := 58) dX2_atom_54 (by rfl) ?_
            refine z_zret dX2_atom_58 rfl (Nat.le_refl _) (Nat.le_refl _) (zext_rf _) (by first | exact Or.inl rfl | exact Or.inr rfl | omega) ?_
            first
            | exact hQ _ hR
            | exact hQ _ hR.1
            | (cases hP; exact hQ _ hR)
            | (cases hP; exact hQ _ hR.1)
            | (cases hP; exact hQ _ (by simpa using hR))
            | (exfalso; omega)
theorem zP5n {t : Nat → Int} {n f q dep : Nat} {k : Nat → List Int → Option zRs} {r : zRs} (hz : ¬ zcp (zsg t n q)) (h : zbd (zP t n f 5 q dep) k = some r) : r = (false, q, []) := by
  cases f with
  | zero => cases h
  | succ f =>
    simp only [zP] at h
    rw [if_neg hz] at h
    cases h; rfl
theorem zP5p {t : Nat → Int} {n f q dep : Nat} {k : Nat → List Int → Option zRs} {r : zRs} (hz : zcp (zsg t n q)) (h : zbd (zP t n f 5 q dep) k = some r) : ∃ g, f = g + 1 ∧ zbd (zP t n g 3 (zskip t n (q + 1)) dep) (fun p c => k p (c ++ [-(zsg t n q)])) = some r := by
  cases f with
  | zero => cases h
  | succ f =>
    refine ⟨f, rfl, ?_⟩
    simp only [zP] at h
    rw [if_pos hz] at h
    cases hx : zP t n f 3 (zskip t n (q + 1)) dep with
    | none => rw [hx] at h; cases h
    | some x =>
      rw [hx] at h
      obtain ⟨b, p, c⟩ := x
      cases b <;> exact h
set_option maxRecDepth 4000 in
theorem zB_tl {l : Launch} {Γ : zC} {h0 : zM} {n : Nat} (hΓ : zBase Γ) (hn2 : n ≤ 160) (G D : Nat) (hD : G + 3 ≤ D) (iA : ∀ g, g < G → zSp l Γ h0 n g 0 mX2_atom) : ∀ g, g ≤ G → ∀ (q dep k : Nat) (cs : List Int) (h : zM) (r : zRs) (Q : Option zV → zC → zM → Prop) (w : Option zV), zRS h0 h n q cs → q ≤ 160 → cs.length ≤ q → k ≤ q → dep ≤ 6 → zP (h0 3) n g 2 q dep = some r → zPo Γ h0 n cs r Q → zG (zFn l mX2_term D 0 0 Γ Q) 0 0 Γ h 12 [some (zR 13), some (zI (dep : Nat)), some (zI (k : Nat)), w] [] := by
  intro g
  induction g with
  | zero => intro _ q dep k cs h r Q w hR hq hlen hk hdep hP hQ; cases hP
  | succ g ih =>
    intro hg q dep k cs h r Q w hR hq hlen hk hdep hP hQ
    have sk1 := fun k => zskip_b (h0 3) n k
    simp only [zP] at hP
    refine z_il2 dX2_term_12 ?_
    refine z_sipush (x := 160) dX2_term_13 (by rfl) (by decide) ?_
    refine z_icmp_ge (t := 74) dX2_term_16 (by rfl) (fun ht16 => ?_) (fun hf16 => ?_)
    · have hz : zsg (h0 3) n q = -1 := by unfold zsg; rw [if_neg (by omega)]
      rw [if_neg (by rw [hz]; decide)] at hP
      refine z_iconst dX2_term_74 (by decide) ?_
      refine z_zret dX2_term_75 rfl (Nat.le_refl _) (Nat.le_refl _) (zext_rf _) (by first | exact Or.inl rfl | exact Or.inr rfl | omega) ?_
      first
      | exact hQ _ hR
      | exact hQ _ hR.1
      | (cases hP; exact hQ _ hR)
      | (cases hP; exact hQ _ hR.1)
      | (cases hP; exact hQ _ (by simpa using hR))
      | (exfalso; omega)
    · refine z_al0 dX2_term_19 (by first | decide | omega | assumption) ?_
      refine z_getR zfX2_9 dX2_term_20 (zkB hΓ rfl) rfl (zsB hΓ rfl) (zvB hΓ (by decide)) ?_
      refine zcv0 dX2_term_23 zkX2_44 ziX5_sign zsX5_sign (zkB hΓ rfl) (by decide) rfl (Nat.le_of_ble_eq_true rfl) (by decide) (by first | decide | omega) ⟨Nat.le_refl _, Nat.le_refl _⟩ (zA_sign hΓ hn2 hR (by omega) (fun _ => ?_))
      try simp only [zup_ap, zup_row, ne_eq, not_false_eq_true, zres, Int.toNat_natCast, reduceIte, Nat.reduceEqDiff, Nat.reduceAdd, and_self, and_true, true_and, and_false, false_and]
      refine z_is3 dX2_term_26 (Nat.le_of_ble_eq_true rfl) rfl ?_
      refine z_il3 dX2_term_27 ?_
      refine z_bipush (x := 42) dX2_term_28 (by rfl) (by decide) ?_
      refine z_icmp_eq (t := 41) dX2_term_30 (by rfl) (fun ht30 => ?_) (fun hf30 => ?_)
      · rw [if_pos (Or.inl ht30)] at hP
        have l0 := zsg_lt ht30 (by decide)
        refine z_al0 dX2_term_41 (by first | decide | omega | assumption) ?_
        refine z_getR zfX2_9 dX2_term_42 (zkB hΓ rfl) rfl (zsB hΓ rfl) (zvB hΓ (by decide)) ?_
        refine z_il3 dX2_term_45 ?_
        refine zcv1 dX2_term_46 zkX2_35 ziX5_accept zsX5_accept (zkB hΓ rfl) (by decide) rfl (Nat.le_of_ble_eq_true rfl) (by decide) (by first | decide | omega) ⟨Nat.le_refl _, Nat.le_refl _⟩ (zA_accept hΓ hn2 hR (by omega) (fun hne _ => absurd rfl hne) (fun heq h hR _ => ?_))
        · have s1 := sk1 (q + 1)
          try simp only [zup_ap, zup_row, ne_eq, not_false_eq_true, zres, Int.toNat_natCast, reduceIte, Nat.reduceEqDiff, Nat.reduceAdd, and_self, and_true, true_and, and_false, false_and]
          refine z_if_eq (t := 60) dX2_term_49 (by rfl) (fun hx => absurd hx (by decide)) (fun _ => ?_)
          refine z_al0 dX2_term_52 (by first | decide | omega | assumption) ?_
          refine z_il1 dX2_term_53 ?_
          rcases zbd_c hP with ⟨p1, c1, hP1, rfl⟩ | ⟨p1, c1, hP1, hP⟩
          · refine zcv1 dX2_term_54 zkX2_76 ziX2_atom zsX2_atom (zkB hΓ rfl) (by decide) rfl (Nat.le_of_ble_eq_true rfl) (by decide) (by first | decide | omega) ⟨Nat.le_refl _, Nat.le_refl _⟩ (iA g (by omega) _ _ _ _ _ _ hR (by omega) (by first | omega | (simp only [List.length_append, List.length_cons, List.length_nil]; omega)) (by omega) hP1 (fun h hR _ => ?_))
            try simp only [zup_ap, zup_row, ne_eq, not_false_eq_true, zres, Int.toNat_natCast, reduceIte, Nat.reduceEqDiff, Nat.reduceAdd, and_self, and_true, true_and, and_false, false_and]
            refine z_if_ne (t := 62) dX2_term_57 (by rfl) (fun hx => absurd hx (by decide)) (fun _ => ?_)
            refine z_iconst dX2_term_60 (by decide) ?_
            refine z_zret dX2_term_61 rfl (Nat.le_refl _) (Nat.le_refl _) (zext_rf _) (by first | exact Or.inl rfl | exact Or.inr rfl | omega) ?_
            first
            | exact hQ _ hR
            | exact hQ _ hR.1
            | (cases hP; exact hQ _ hR)
            | (cases hP; exact hQ _ hR.1)
            | (cases hP; exact hQ _ (by simpa using hR))
            | (exfalso; omega)
          · refine zcv1 dX2_term_54 zkX2_76 ziX2_atom zsX2_atom (zkB hΓ rfl) (by decide) rfl (Nat.le_of_ble_eq_true rfl) (by decide) (by first | decide | omega) ⟨Nat.le_refl _, Nat.le_refl _⟩ (iA g (by omega) _ _ _ _ _ _ hR (by omega) (by first | omega | (simp only [List.length_append, List.length_cons, List.length_nil]; omega)) (by omega) hP1 (fun h hR _ => ?_))
            try simp only [zup_ap, zup_row, ne_eq, not_false_eq_true, zres, Int.toNat_natCast, reduceIte, Nat.reduceEqDiff, Nat.reduceAdd, and_self, and_true, true_and, and_false, false_and]
            have b1 := zP_c hP1 (by decide)
            refine z_if_ne (t := 62) dX2_term_57 (by rfl) (fun _ => ?_) (fun hx => absurd hx (by decide))
            refine z_al0 dX2_term_62 (by first | decide | omega | assumption) ?_
            refine z_il3 dX2_term_63 ?_
            refine z_ineg dX2_term_64 (by omega) ?_
            refine zcv1 dX2_term_65 zkX2_60 ziX2_emit zsX2_emit (zkB hΓ rfl) (by decide) rfl (Nat.le_of_ble_eq_true rfl) (by decide) (by first | decide | omega) ⟨Nat.le_refl _, Nat.le_refl _⟩ (zA_emit hΓ hn2 hR (by omega) (by first | omega | (simp only [List.length_append, List.length_cons, List.length_nil]; omega)) (fun h hR _ => ?_))
            try simp only [zup_ap, zup_row, ne_eq, not_false_eq_true, zres, Int.toNat_natCast, reduceIte, Nat.reduceEqDiff, Nat.reduceAdd, and_self, and_true, true_and, and_false, false_and]
            refine z_ii2 dX2_term_68 (by omega) (Nat.le_of_ble_eq_true rfl) rfl ?_
            refine z_goto (t := 12) dX2_term_71 (by rfl) ?_
            rcases zbd_c hP with ⟨p9, c9, hP9, rfl⟩ | ⟨p9, c9, hP9, hP⟩
            · exact ih (by omega) p1 dep (k + 1) _ h _ Q _ hR (by omega) (by first | omega | (simp only [List.length_append, List.length_cons, List.length_nil]; omega)) (by omega) hdep hP9 (fun h hR => hQ h hR)
            · cases hP
              exact ih (by omega) p1 dep (k + 1) _ h _ Q _ hR (by omega) (by first | omega | (simp only [List.length_append, List.length_cons, List.length_nil]; omega)) (by omega) hdep hP9 (fun h hR => hQ h (by simpa using hR))
      · refine z_il3 dX2_term_33 ?_
        refine z_bipush (x := 47) dX2_term_34 (by rfl) (by decide) ?_
        refine z_icmp_eq (t := 41) dX2_term_36 (by rfl) (fun ht36 => ?_) (fun hf36 => ?_)
        · rw [if_pos (Or.inr ht36)] at hP
          have l0 := zsg_lt ht36 (by decide)
          refine z_al0 dX2_term_41 (by first | decide | omega | assumption) ?_
          refine z_getR zfX2_9 dX2_term_42 (zkB hΓ rfl) rfl (zsB hΓ rfl) (zvB hΓ (by decide)) ?_
          refine z_il3 dX2_term_45 ?_
          refine zcv1 dX2_term_46 zkX2_35 ziX5_accept zsX5_accept (zkB hΓ rfl) (by decide) rfl (Nat.le_of_ble_eq_true rfl) (by decide) (by first | decide | omega) ⟨Nat.le_refl _, Nat.le_refl _⟩ (zA_accept hΓ hn2 hR (by omega) (fun hne _ => absurd rfl hne) (fun heq h hR _ => ?_))
          · have s1 := sk1 (q + 1)
            try simp only [zup_ap, zup_row, ne_eq, not_false_eq_true, zres, Int.toNat_natCast, reduceIte, Nat.reduceEqDiff, Nat.reduceAdd, and_self, and_true, true_and, and_false, false_and]
            refine z_if_eq (t := 60) dX2_term_49 (by rfl) (fun hx => absurd hx (by decide)) (fun _ => ?_)
            refine z_al0 dX2_term_52 (by first | decide | omega | assumption) ?_
            refine z_il1 dX2_term_53 ?_
            rcases zbd_c hP with ⟨p1, c1, hP1, rfl⟩ | ⟨p1, c1, hP1, hP⟩
            · refine zcv1 dX2_term_54 zkX2_76 ziX2_atom zsX2_atom (zkB hΓ rfl) (by decide) rfl (Nat.le_of_ble_eq_true rfl) (by decide) (by first | decide | omega) ⟨Nat.le_refl _, Nat.le_refl _⟩ (iA g (by omega) _ _ _ _ _ _ hR (by omega) (by first | omega | (simp only [List.length_append, List.length_cons, List.length_nil]; omega)) (by omega) hP1 (fun h hR _ => ?_))
              try simp only [zup_ap, zup_row, ne_eq, not_false_eq_true, zres, Int.toNat_natCast, reduceIte, Nat.reduceEqDiff, Nat.reduceAdd, and_self, and_true, true_and, and_false, false_and]
              refine z_if_ne (t := 62) dX2_term_57 (by rfl) (fun hx => absurd hx (by decide)) (fun _ => ?_)
              refine z_iconst dX2_term_60 (by decide) ?_
              refine z_zret dX2_term_61 rfl (Nat.le_refl _) (Nat.le_refl _) (zext_rf _) (by first | exact Or.inl rfl | exact Or.inr rfl | omega) ?_
              first
              | exact hQ _ hR
              | exact hQ _ hR.1
              | (cases hP; exact hQ _ hR)
              | (cases hP; exact hQ _ hR.1)
              | (cases hP; exact hQ _ (by simpa using hR))
              | (exfalso; omega)
            · refine zcv1 dX2_term_54 zkX2_76 ziX2_atom zsX2_atom (zkB hΓ rfl) (by decide) rfl (Nat.le_of_ble_eq_true rfl) (by decide) (by first | decide | omega) ⟨Nat.le_refl _, Nat.le_refl _⟩ (iA g (by omega) _ _ _ _ _ _ hR (by omega) (by first | omega | (simp only [List.length_append, List.length_cons, List.length_nil]; omega)) (by omega) hP1 (fun h hR _ => ?_))
              try simp only [zup_ap, zup_row, ne_eq, not_false_eq_true, zres, Int.toNat_natCast, reduceIte, Nat.reduceEqDiff, Nat.reduceAdd, and_self, and_true, true_and, and_false, false_and]
              have b1 := zP_c hP1 (by decide)
              refine z_if_ne (t := 62) dX2_term_57 (by rfl) (fun _ => ?_) (fun hx => absurd hx (by decide))
              refine z_al0 dX2_term_62 (by first | decide | omega | assumption) ?_
              refine z_il3 dX2_term_63 ?_
              refine z_ineg dX2_term_64 (by omega) ?_
              refine zcv1 dX2_term_65 zkX2_60 ziX2_emit zsX2_emit (zkB hΓ rfl) (by decide) rfl (Nat.le_of_ble_eq_true rfl) (by decide) (by first | decide | omega) ⟨Nat.le_refl _, Nat.le_refl _⟩ (zA_emit hΓ hn2 hR (by omega) (by first | omega | (simp only [List.length_append, List.length_cons, List.length_nil]; omega)) (fun h hR _ => ?_))
              try simp only [zup_ap, zup_row, ne_eq, not_false_eq_true, zres, Int.toNat_natCast, reduceIte, Nat.reduceEqDiff, Nat.reduceAdd, and_self, and_true, true_and, and_false, false_and]
              refine z_ii2 dX2_term_68 (by omega) (Nat.le_of_ble_eq_true rfl) rfl ?_
              refine z_goto (t := 12) dX2_term_71 (by rfl) ?_
              rcases zbd_c hP with ⟨p9, c9, hP9, rfl⟩ | ⟨p9, c9, hP9, hP⟩
              · exact ih (by omega) p1 dep (k + 1) _ h _ Q _ hR (by omega) (by first | omega | (simp only [List.length_append, List.length_cons, List.length_nil]; omega)) (by omega) hdep hP9 (fun h hR => hQ h hR)
              · cases hP
                exact ih (by omega) p1 dep (k + 1) _ h _ Q _ hR (by omega) (by first | omega | (simp only [List.length_append, List.length_cons, List.length_nil]; omega)) (by omega) hdep hP9 (fun h hR => hQ h (by simpa using hR))
        · rw [if_neg (by omega)] at hP
          refine z_iconst dX2_term_39 (by decide) ?_
          refine z_zret dX2_term_40 rfl (Nat.le_refl _) (Nat.le_refl _) (zext_rf _) (by first | exact Or.inl rfl | exact Or.inr rfl | omega) ?_
          first
          | exact hQ _ hR
          | exact hQ _ hR.1
          | (cases hP; exact hQ _ hR)
          | (cases hP; exact hQ _ hR.1)
          | (cases hP; exact hQ _ (by simpa using hR))
          | (exfalso; omega)
set_option maxRecDepth 4000 in
theorem zB_sl {l : Launch} {Γ : zC} {h0 : zM} {n : Nat} (hΓ : zBase Γ) (hn2 : n ≤ 160) (G D : Nat) (hD : G + 3 ≤ D) (iT : ∀ g, g < G → zSp l Γ h0 n g 1 mX2_term) : ∀ g, g ≤ G → ∀ (q dep k : Nat) (cs : List Int) (h : zM) (r : zRs) (Q : Option zV → zC → zM → Prop) (w : Option zV), zRS h0 h n q cs → q ≤ 160 → cs.length ≤ q → k ≤ q → dep ≤ 6 → zP (h0 3) n g 4 q dep = some r → zPo Γ h0 n cs r Q → zG (zFn l mX2_sum D 0 0 Γ Q) 0 0 Γ h 12 [some (zR 13), some (zI (dep : Nat)), some (zI (k : Nat)), w] [] := by
  intro g
  induction g with
  | zero => intro _ q dep k cs h r Q w hR hq hlen hk hdep hP hQ; cases hP
  | succ g ih =>
    intro hg q dep k cs h r Q w hR hq hlen hk hdep hP hQ
    have sk1 := fun k => zskip_b (h0 3) n k
    simp only [zP] at hP
    refine z_il2 dX2_sum_12 ?_
    refine z_sipush (x := 160) dX2_sum_13 (by rfl) (by decide) ?_
    refine z_icmp_ge (t := 74) dX2_sum_16 (by rfl) (fun ht16 => ?_) (fun hf16 => ?_)
    · have hz : zsg (h0 3) n q = -1 := by unfold zsg; rw [if_neg (by omega)]
      rw [if_neg (by rw [hz]; decide)] at hP
      refine z_iconst dX2_sum_74 (by decide) ?_
      refine z_zret dX2_sum_75 rfl (Nat.le_refl _) (Nat.le_refl _) (zext_rf _) (by first | exact Or.inl rfl | exact Or.inr rfl | omega) ?_
      first
      | exact hQ _ hR
      | exact hQ _ hR.1
      | (cases hP; exact hQ _ hR)
      | (cases hP; exact hQ _ hR.1)
      | (cases hP; exact hQ _ (by simpa using hR))
      | (exfalso; omega)
    · refine z_al0 dX2_sum_19 (by first | decide | omega | assumption) ?_
      refine z_getR zfX2_9 dX2_sum_20 (zkB hΓ rfl) rfl (zsB hΓ rfl) (zvB hΓ (by decide)) ?_
      refine zcv0 dX2_sum_23 zkX2_44 ziX5_sign zsX5_sign (zkB hΓ rfl) (by decide) rfl (Nat.le_of_ble_eq_true rfl) (by decide) (by first | decide | omega) ⟨Nat.le_refl _, Nat.le_refl _⟩ (zA_sign hΓ hn2 hR (by omega) (fun _ => ?_))
      try simp only [zup_ap, zup_row, ne_eq, not_false_eq_true, zres, Int.toNat_natCast, reduceIte, Nat.reduceEqDiff, Nat.reduceAdd, and_self, and_true, true_and, and_false, false_and]
      refine z_is3 dX2_sum_26 (Nat.le_of_ble_eq_true rfl) rfl ?_
      refine z_il3 dX2_sum_27 ?_
      refine z_bipush (x := 43) dX2_sum_28 (by rfl) (by decide) ?_
      refine z_icmp_eq (t := 41) dX2_sum_30 (by rfl) (fun ht30 => ?_) (fun hf30 => ?_)
      · rw [if_pos (Or.inl ht30)] at hP
        have l0 := zsg_lt ht30 (by decide)
        refine z_al0 dX2_sum_41 (by first | decide | omega | assumption) ?_
        refine z_getR zfX2_9 dX2_sum_42 (zkB hΓ rfl) rfl (zsB hΓ rfl) (zvB hΓ (by decide)) ?_
        refine z_il3 dX2_sum_45 ?_
        refine zcv1 dX2_sum_46 zkX2_35 ziX5_accept zsX5_accept (zkB hΓ rfl) (by decide) rfl (Nat.le_of_ble_eq_true rfl) (by decide) (by first | decide | omega) ⟨Nat.le_refl _, Nat.le_refl _⟩ (zA_accept hΓ hn2 hR (by omega) (fun hne _ => absurd rfl hne) (fun heq h hR _ => ?_))
        · have s1 := sk1 (q + 1)
          try simp only [zup_ap, zup_row, ne_eq, not_false_eq_true, zres, Int.toNat_natCast, reduceIte, Nat.reduceEqDiff, Nat.reduceAdd, and_self, and_true, true_and, and_false, false_and]
          refine z_if_eq (t := 60) dX2_sum_49 (by rfl) (fun hx => absurd hx (by decide)) (fun _ => ?_)
          refine z_al0 dX2_sum_52 (by first | decide | omega | assumption) ?_
          refine z_il1 dX2_sum_53 ?_
          rcases zbd_c hP with ⟨p1, c1, hP1, rfl⟩ | ⟨p1, c1, hP1, hP⟩
          · refine zcv1 dX2_sum_54 zkX2_73 ziX2_term zsX2_term (zkB hΓ rfl) (by decide) rfl (Nat.le_of_ble_eq_true rfl) (by decide) (by first | decide | omega) ⟨Nat.le_refl _, Nat.le_refl _⟩ (iT g (by omega) _ _ _ _ _ _ hR (by omega) (by first | omega | (simp only [List.length_append, List.length_cons, List.length_nil]; omega)) (by omega) hP1 (fun h hR _ => ?_))
            try simp only [zup_ap, zup_row, ne_eq, not_false_eq_true, zres, Int.toNat_natCast, reduceIte, Nat.reduceEqDiff, Nat.reduceAdd, and_self, and_true, true_and, and_false, false_and]
            refine z_if_ne (t := 62) dX2_sum_57 (by rfl) (fun hx => absurd hx (by decide)) (fun _ => ?_)
            refine z_iconst dX2_sum_60 (by decide) ?_
            refine z_zret dX2_sum_61 rfl (Nat.le_refl _) (Nat.le_refl _) (zext_rf _) (by first | exact Or.inl rfl | exact Or.inr rfl | omega) ?_
            first
            | exact hQ _ hR
            | exact hQ _ hR.1
            | (cases hP; exact hQ _ hR)
            | (cases hP; exact hQ _ hR.1)
            | (cases hP; exact hQ _ (by simpa using hR))
            | (exfalso; omega)
          · refine zcv1 dX2_sum_54 zkX2_73 ziX2_term zsX2_term (zkB hΓ rfl) (by decide) rfl (Nat.le_of_ble_eq_true rfl) (by decide) (by first | decide | omega) ⟨Nat.le_refl _, Nat.le_refl _⟩ (iT g (by omega) _ _ _ _ _ _ hR (by omega) (by first | omega | (simp only [List.length_append, List.length_cons, List.length_nil]; omega)) (by omega) hP1 (fun h hR _ => ?_))
            try simp only [zup_ap, zup_row, ne_eq, not_false_eq_true, zres, Int.toNat_natCast, reduceIte, Nat.reduceEqDiff, Nat.reduceAdd, and_self, and_true, true_and, and_false, false_and]
            have b1 := zP_c hP1 (by decide)
            refine z_if_ne (t := 62) dX2_sum_57 (by rfl) (fun _ => ?_) (fun hx => absurd hx (by decide))
            refine z_al0 dX2_sum_62 (by first | decide | omega | assumption) ?_
            refine z_il3 dX2_sum_63 ?_
            refine z_ineg dX2_sum_64 (by omega) ?_
            refine zcv1 dX2_sum_65 zkX2_60 ziX2_emit zsX2_emit (zkB hΓ rfl) (by decide) rfl (Nat.le_of_ble_eq_true rfl) (by decide) (by first | decide | omega) ⟨Nat.le_refl _, Nat.le_refl _⟩ (zA_emit hΓ hn2 hR (by omega) (by first | omega | (simp only [List.length_append, List.length_cons, List.length_nil]; omega)) (fun h hR _ => ?_))
            try simp only [zup_ap, zup_row, ne_eq, not_false_eq_true, zres, Int.toNat_natCast, reduceIte, Nat.reduceEqDiff, Nat.reduceAdd, and_self, and_true, true_and, and_false, false_and]
            refine z_ii2 dX2_sum_68 (by omega) (Nat.le_of_ble_eq_true rfl) rfl ?_
            refine z_goto (t := 12) dX2_sum_71 (by rfl) ?_
            rcases zbd_c hP with ⟨p9, c9, hP9, rfl⟩ | ⟨p9, c9, hP9, hP⟩
            · exact ih (by omega) p1 dep (k + 1) _ h _ Q _ hR (by omega) (by first | omega | (simp only [List.length_append, List.length_cons, List.length_nil]; omega)) (by omega) hdep hP9 (fun h hR => hQ h hR)
            · cases hP
              exact ih (by omega) p1 dep (k + 1) _ h _ Q _ hR (by omega) (by first | omega | (simp only [List.length_append, List.length_cons, List.length_nil]; omega)) (by omega) hdep hP9 (fun h hR => hQ h (by simpa using hR))
      · refine z_il3 dX2_sum_33 ?_
        refine z_bipush (x := 45) dX2_sum_34 (by rfl) (by decide) ?_
        refine z_icmp_eq (t := 41) dX2_sum_36 (by rfl) (fun ht36 => ?_) (fun hf36 => ?_)
        · rw [if_pos (Or.inr ht36)] at hP
          have l0 := zsg_lt ht36 (by decide)
          refine z_al0 dX2_sum_41 (by first | decide | omega | assumption) ?_
          refine z_getR zfX2_9 dX2_sum_42 (zkB hΓ rfl) rfl (zsB hΓ rfl) (zvB hΓ (by decide)) ?_
          refine z_il3 dX2_sum_45 ?_
          refine zcv1 dX2_sum_46 zkX2_35 ziX5_accept zsX5_accept (zkB hΓ rfl) (by decide) rfl (Nat.le_of_ble_eq_true rfl) (by decide) (by first | decide | omega) ⟨Nat.le_refl _, Nat.le_refl _⟩ (zA_accept hΓ hn2 hR (by omega) (fun hne _ => absurd rfl hne) (fun heq h hR _ => ?_))
          · have s1 := sk1 (q + 1)
            try simp only [zup_ap, zup_row, ne_eq, not_false_eq_true, zres, Int.toNat_natCast, reduceIte, Nat.reduceEqDiff, Nat.reduceAdd, and_self, and_true, true_and, and_false, false_and]
            refine z_if_eq (t := 60) dX2_sum_49 (by rfl) (fun hx => absurd hx (by decide)) (fun _ => ?_)
            refine z_al0 dX2_sum_52 (by first | decide | omega | assumption) ?_
            refine z_il1 dX2_sum_53 ?_
            rcases zbd_c hP with ⟨p1, c1, hP1, rfl⟩ | ⟨p1, c1, hP1, hP⟩
            · refine zcv1 dX2_sum_54 zkX2_73 ziX2_term zsX2_term (zkB hΓ rfl) (by decide) rfl (Nat.le_of_ble_eq_true rfl) (by decide) (by first | decide | omega) ⟨Nat.le_refl _, Nat.le_refl _⟩ (iT g (by omega) _ _ _ _ _ _ hR (by omega) (by first | omega | (simp only [List.length_append, List.length_cons, List.length_nil]; omega)) (by omega) hP1 (fun h hR _ => ?_))
              try simp only [zup_ap, zup_row, ne_eq, not_false_eq_true, zres, Int.toNat_natCast, reduceIte, Nat.reduceEqDiff, Nat.reduceAdd, and_self, and_true, true_and, and_false, false_and]
              refine z_if_ne (t := 62) dX2_sum_57 (by rfl) (fun hx => absurd hx (by decide)) (fun _ => ?_)
              refine z_iconst dX2_sum_60 (by decide) ?_
              refine z_zret dX2_sum_61 rfl (Nat.le_refl _) (Nat.le_refl _) (zext_rf _) (by first | exact Or.inl rfl | exact Or.inr rfl | omega) ?_
              first
              | exact hQ _ hR
              | exact hQ _ hR.1
              | (cases hP; exact hQ _ hR)
              | (cases hP; exact hQ _ hR.1)
              | (cases hP; exact hQ _ (by simpa using hR))
              | (exfalso; omega)
            · refine zcv1 dX2_sum_54 zkX2_73 ziX2_term zsX2_term (zkB hΓ rfl) (by decide) rfl (Nat.le_of_ble_eq_true rfl) (by decide) (by first | decide | omega) ⟨Nat.le_refl _, Nat.le_refl _⟩ (iT g (by omega) _ _ _ _ _ _ hR (by omega) (by first | omega | (simp only [List.length_append, List.length_cons, List.length_nil]; omega)) (by omega) hP1 (fun h hR _ => ?_))
              try simp only [zup_ap, zup_row, ne_eq, not_false_eq_true, zres, Int.toNat_natCast, reduceIte, Nat.reduceEqDiff, Nat.reduceAdd, and_self, and_true, true_and, and_false, false_and]
              have b1 := zP_c hP1 (by decide)
              refine z_if_ne (t := 62) dX2_sum_57 (by rfl) (fun _ => ?_) (fun hx => absurd hx (by decide))
              refine z_al0 dX2_sum_62 (by first | decide | omega | assumption) ?_
              refine z_il3 dX2_sum_63 ?_
              refine z_ineg dX2_sum_64 (by omega) ?_
              refine zcv1 dX2_sum_65 zkX2_60 ziX2_emit zsX2_emit (zkB hΓ rfl) (by decide) rfl (Nat.le_of_ble_eq_true rfl) (by decide) (by first | decide | omega) ⟨Nat.le_refl _, Nat.le_refl _⟩ (zA_emit hΓ hn2 hR (by omega) (by first | omega | (simp only [List.length_append, List.length_cons, List.length_nil]; omega)) (fun h hR _ => ?_))
              try simp only [zup_ap, zup_row, ne_eq, not_false_eq_true, zres, Int.toNat_natCast, reduceIte, Nat.reduceEqDiff, Nat.reduceAdd, and_self, and_true, true_and, and_false, false_and]
              refine z_ii2 dX2_sum_68 (by omega) (Nat.le_of_ble_eq_true rfl) rfl ?_
              refine z_goto (t := 12) dX2_sum_71 (by rfl) ?_
              rcases zbd_c hP with ⟨p9, c9, hP9, rfl⟩ | ⟨p9, c9, hP9, hP⟩
              · exact ih (by omega) p1 dep (k + 1) _ h _ Q _ hR (by omega) (by first | omega | (simp only [List.length_append, List.length_cons, List.length_nil]; omega)) (by omega) hdep hP9 (fun h hR => hQ h hR)
              · cases hP
                exact ih (by omega) p1 dep (k + 1) _ h _ Q _ hR (by omega) (by first | omega | (simp only [List.length_append, List.length_cons, List.length_nil]; omega)) (by omega) hdep hP9 (fun h hR => hQ h (by simpa using hR))
        · rw [if_neg (by omega)] at hP
          refine z_iconst dX2_sum_39 (by decide) ?_
          refine z_zret dX2_sum_40 rfl (Nat.le_refl _) (Nat.le_refl _) (zext_rf _) (by first | exact Or.inl rfl | exact Or.inr rfl | omega) ?_
          first
          | exact hQ _ hR
          | exact hQ _ hR.1
          | (cases hP; exact hQ _ hR)
          | (cases hP; exact hQ _ hR.1)
          | (cases hP; exact hQ _ (by simpa using hR))
          | (exfalso; omega)
set_option maxRecDepth 4000 in
theorem zB_term {l : Launch} {Γ : zC} {h0 : zM} {n f : Nat} (hΓ : zBase Γ) (hn2 : n ≤ 160) (iA : ∀ g, g < f + 1 → zSp l Γ h0 n g 0 mX2_atom) : zSp l Γ h0 n (f + 1) 1 mX2_term := by
  intro q dep cs h r Q hR hq hlen hdep hP hQ
  have sk1 := fun k => zskip_b (h0 3) n k
  simp only [zP] at hP
  refine zCT_of (by decide) (Nat.le_of_ble_eq_true rfl) (ls := [some (zR 13), some (zI (dep : Nat)), none, none]) rfl ?_
  refine z_al0 dX2_term_0 (by first | decide | omega | assumption) ?_
  refine z_il1 dX2_term_1 ?_
  rcases zbd_c hP with ⟨p1, c1, hP1, rfl⟩ | ⟨p1, c1, hP1, hP⟩
  · refine zcv1 dX2_term_2 zkX2_76 ziX2_atom zsX2_atom (zkB hΓ rfl) (by decide) rfl (Nat.le_of_ble_eq_true rfl) (by decide) (by first | decide | omega) ⟨Nat.le_refl _, Nat.le_refl _⟩ (iA f (by omega) _ _ _ _ _ _ hR (by omega) (by first | omega | (simp only [List.length_append, List.length_cons, List.length_nil]; omega)) (by omega) hP1 (fun h hR _ => ?_))
    try simp only [zup_ap, zup_row, ne_eq, not_false_eq_true, zres, Int.toNat_natCast, reduceIte, Nat.reduceEqDiff, Nat.reduceAdd, and_self, and_true, true_and, and_false, false_and]
    refine z_if_ne (t := 10) dX2_term_5 (by rfl) (fun hx => absurd hx (by decide)) (fun _ => ?_)
    refine z_iconst dX2_term_8 (by decide) ?_
    refine z_zret dX2_term_9 rfl (Nat.le_refl _) (Nat.le_refl _) (zext_rf _) (by first | exact Or.inl rfl | exact Or.inr rfl | omega) ?_
    first
    | exact hQ _ hR
    | exact hQ _ hR.1
    | (cases hP; exact hQ _ hR)
    | (cases hP; exact hQ _ hR.1)
    | (cases hP; exact hQ _ (by simpa using hR))
    | (exfalso; omega)
  · refine zcv1 dX2_term_2 zkX2_76 ziX2_atom zsX2_atom (zkB hΓ rfl) (by decide) rfl (Nat.le_of_ble_eq_true rfl) (by decide) (by first | decide | omega) ⟨Nat.le_refl _, Nat.le_refl _⟩ (iA f (by omega) _ _ _ _ _ _ hR (by omega) (by first | omega | (simp only [List.length_append, List.length_cons, List.length_nil]; omega)) (by omega) hP1 (fun h hR _ => ?_))
    try simp only [zup_ap, zup_row, ne_eq, not_false_eq_true, zres, Int.toNat_natCast, reduceIte, Nat.reduceEqDiff, Nat.reduceAdd, and_self, and_true, true_and, and_false, false_and]
    have b1 := zP_c hP1 (by decide)
    refine z_if_ne (t := 10) dX2_term_5 (by rfl) (fun _ => ?_) (fun hx => absurd hx (by decide))
    refine z_iconst dX2_term_10 (by decide) ?_
    refine z_is2 dX2_term_11 (Nat.le_of_ble_eq_true rfl) rfl ?_
    rcases zbd_c hP with ⟨p9, c9, hP9, rfl⟩ | ⟨p9, c9, hP9, hP⟩
    · exact zB_tl hΓ hn2 f (f + 1 + 3) (by omega) (fun g hg => iA g (by omega)) f (Nat.le_refl _) p1 dep 0 _ h _ Q _ hR (by omega) (by first | omega | (simp only [List.length_append, List.length_cons, List.length_nil]; omega)) (by omega) hdep hP9 (fun h hR => hQ h hR)
    · cases hP
      exact zB_tl hΓ hn2 f (f + 1 + 3) (by omega) (fun g hg => iA g (by omega)) f (Nat.le_refl _) p1 dep 0 _ h _ Q _ hR (by omega) (by first | omega | (simp only [List.length_append, List.length_cons, List.length_nil]; omega)) (by omega) hdep hP9 (fun h hR => hQ h (by simpa using hR))
set_option maxRecDepth 4000 in
theorem zB_sum {l : Launch} {Γ : zC} {h0 : zM} {n f : Nat} (hΓ : zBase Γ) (hn2 : n ≤ 160) (iT : ∀ g, g < f + 1 → zSp l Γ h0 n g 1 mX2_term) : zSp l Γ h0 n (f + 1) 3 mX2_sum := by
  intro q dep cs h r Q hR hq hlen hdep hP hQ
  have sk1 := fun k => zskip_b (h0 3) n k
  simp only [zP] at hP
  refine zCT_of (by decide) (Nat.le_of_ble_eq_true rfl) (ls := [some (zR 13), some (zI (dep : Nat)), none, none]) rfl ?_
  refine z_al0 dX2_sum_0 (by first | decide | omega | assumption) ?_
  refine z_il1 dX2_sum_1 ?_
  rcases zbd_c hP with ⟨p1, c1, hP1, rfl⟩ | ⟨p1, c1, hP1, hP⟩
  · refine zcv1 dX2_sum_2 zkX2_73 ziX2_term zsX2_term (zkB hΓ rfl) (by decide) rfl (Nat.le_of_ble_eq_true rfl) (by decide) (by first | decide | omega) ⟨Nat.le_refl _, Nat.le_refl _⟩ (iT f (by omega) _ _ _ _ _ _ hR (by omega) (by first | omega | (simp only [List.length_append, List.length_cons, List.length_nil]; omega)) (by omega) hP1 (fun h hR _ => ?_))
    try simp only [zup_ap, zup_row, ne_eq, not_false_eq_true, zres, Int.toNat_natCast, reduceIte, Nat.reduceEqDiff, Nat.reduceAdd, and_self, and_true, true_and, and_false, false_and]
    refine z_if_ne (t := 10) dX2_sum_5 (by rfl) (fun hx => absurd hx (by decide)) (fun _ => ?_)
    refine z_iconst dX2_sum_8 (by decide) ?_
    refine z_zret dX2_sum_9 rfl (Nat.le_refl _) (Nat.le_refl _) (zext_rf _) (by first | exact Or.inl rfl | exact Or.inr rfl | omega) ?_
    first
    | exact hQ _ hR
    | exact hQ _ hR.1
    | (cases hP; exact hQ _ hR)
    | (cases hP; exact hQ _ hR.1)
    | (cases hP; exact hQ _ (by simpa using hR))
    | (exfalso; omega)
  · refine zcv1 dX2_sum_2 zkX2_73 ziX2_term zsX2_term (zkB hΓ rfl) (by decide) rfl (Nat.le_of_ble_eq_true rfl) (by decide) (by first | decide | omega) ⟨Nat.le_refl _, Nat.le_refl _⟩ (iT f (by omega) _ _ _ _ _ _ hR (by omega) (by first | omega | (simp only [List.length_append, List.length_cons, List.length_nil]; omega)) (by omega) hP1 (fun h hR _ => ?_))
    try simp only [zup_ap, zup_row, ne_eq, not_false_eq_true, zres, Int.toNat_natCast, reduceIte, Nat.reduceEqDiff, Nat.reduceAdd, and_self, and_true, true_and, and_false, false_and]
    have b1 := zP_c hP1 (by decide)
    refine z_if_ne (t := 10) dX2_sum_5 (by rfl) (fun _ => ?_) (fun hx => absurd hx (by decide))
    refine z_iconst dX2_sum_10 (by decide) ?_
    refine z_is2 dX2_sum_11 (Nat.le_of_ble_eq_true rfl) rfl ?_
    rcases zbd_c hP with ⟨p9, c9, hP9, rfl⟩ | ⟨p9, c9, hP9, hP⟩
    · exact zB_sl hΓ hn2 f (f + 1 + 3) (by omega) (fun g hg => iT g (by omega)) f (Nat.le_refl _) p1 dep 0 _ h _ Q _ hR (by omega) (by first | omega | (simp only [List.length_append, List.length_cons, List.length_nil]; omega)) (by omega) hdep hP9 (fun h hR => hQ h hR)
    · cases hP
      exact zB_sl hΓ hn2 f (f + 1 + 3) (by omega) (fun g hg => iT g (by omega)) f (Nat.le_refl _) p1 dep 0 _ h _ Q _ hR (by omega) (by first | omega | (simp only [List.length_append, List.length_cons, List.length_nil]; omega)) (by omega) hdep hP9 (fun h hR => hQ h (by simpa using hR))
set_option maxRecDepth 4000 in
theorem zB_unit {l : Launch} {Γ : zC} {h0 : zM} {n f : Nat} (hΓ : zBase Γ) (hn2 : n ≤ 160) (iS : ∀ g, g < f + 1 → zSp l Γ h0 n g 3 mX2_sum) (iU : ∀ g, g < f + 1 → zSp l Γ h0 n g 6 mX2_unit) (iC : ∀ g, g < f + 1 → zSp l Γ h0 n g 10 mX2_condition) : zSp l Γ h0 n (f + 1) 6 mX2_unit := by
  intro q dep cs h r Q hR hq hlen hdep hP hQ
  have sk1 := fun k => zskip_b (h0 3) n k
  simp only [zP] at hP
  refine zCT_of (by decide) (Nat.le_of_ble_eq_true rfl) (ls := [some (zR 13), some (zI (dep : Nat)), none, none]) rfl ?_
  refine z_al0 dX2_unit_0 (by first | decide | omega | assumption) ?_
  refine z_getR zfX2_9 dX2_unit_1 (zkB hΓ rfl) rfl (zsB hΓ rfl) (zvB hΓ (by decide)) ?_
  refine zcv0 dX2_unit_4 zkX2_44 ziX5_sign zsX5_sign (zkB hΓ rfl) (by decide) rfl (Nat.le_of_ble_eq_true rfl) (by decide) (by first | decide | omega) ⟨Nat.le_refl _, Nat.le_refl _⟩ (zA_sign hΓ hn2 hR (by omega) (fun _ => ?_))
  try simp only [zup_ap, zup_row, ne_eq, not_false_eq_true, zres, Int.toNat_natCast, reduceIte, Nat.reduceEqDiff, Nat.reduceAdd, and_self, and_true, true_and, and_false, false_and]
  refine z_is2 dX2_unit_7 (Nat.le_of_ble_eq_true rfl) rfl ?_
  refine z_il2 dX2_unit_8 ?_
  refine z_bipush (x := 33) dX2_unit_9 (by rfl) (by decide) ?_
  refine z_icmp_eq (t := 58) dX2_unit_11 (by rfl) (fun ht11 => ?_) (fun hf11 => ?_)
  · rw [if_pos ht11] at hP
    have l0 := zsg_lt ht11 (by decide)
    have s0 := sk1 (q + 1)
    rw [ht11]
    refine z_il1 dX2_unit_58 ?_
    refine z_bipush (x := 6) dX2_unit_59 (by rfl) (by decide) ?_
    refine z_icmp_ge (t := 75) dX2_unit_61 (by rfl) (fun ht61 => ?_) (fun hf61 => ?_)
    · rw [if_neg (by omega)] at hP
      refine z_iconst dX2_unit_75 (by decide) ?_
      refine z_zret dX2_unit_76 rfl (Nat.le_refl _) (Nat.le_refl _) (zext_rf _) (by first | exact Or.inl rfl | exact Or.inr rfl | omega) ?_
      first
      | exact hQ _ hR
      | exact hQ _ hR.1
      | (cases hP; exact hQ _ hR)
      | (cases hP; exact hQ _ hR.1)
      | (cases hP; exact hQ _ (by simpa using hR))
      | (exfalso; omega)
    · rw [if_pos (by omega)] at hP
      refine z_al0 dX2_unit_64 (by first | decide | omega | assumption) ?_
      refine z_getR zfX2_9 dX2_unit_65 (zkB hΓ rfl) rfl (zsB hΓ rfl) (zvB hΓ (by decide)) ?_
      refine z_il2 dX2_unit_68 ?_
      refine zcv1 dX2_unit_69 zkX2_35 ziX5_accept zsX5_accept (zkB hΓ rfl) (by decide) rfl (Nat.le_of_ble_eq_true rfl) (by decide) (by first | decide | omega) ⟨Nat.le_refl _, Nat.le_refl _⟩ (zA_accept hΓ hn2 hR (by omega) (fun hne _ => absurd (by assumption) hne) (fun heq h hR _ => ?_))
      · have s1 := sk1 (q + 1)
        try simp only [zup_ap, zup_row, ne_eq, not_false_eq_true, zres, Int.toNat_natCast, reduceIte, Nat.reduceEqDiff, Nat.reduceAdd, and_self, and_true, true_and, and_false, false_and]
        refine z_if_ne (t := 77) dX2_unit_72 (by rfl) (fun _ => ?_) (fun hx => absurd hx (by decide))
        refine z_il2 dX2_unit_77 ?_
        refine z_bipush (x := 40) dX2_unit_78 (by rfl) (by decide) ?_
        refine z_icmp_ne (t := 111) dX2_unit_80 (by rfl) (fun _ => ?_) (fun hx => absurd hx (by decide))
        refine z_al0 dX2_unit_111 (by first | decide | omega | assumption) ?_
        refine z_il1 dX2_unit_112 ?_
        refine z_iconst dX2_unit_113 (by decide) ?_
        refine z_iadd dX2_unit_114 (by omega) ?_
        rcases zbd_c hP with ⟨p1, c1, hP1, rfl⟩ | ⟨p1, c1, hP1, hP⟩
        · refine zcv1 dX2_unit_115 zkX2_67 ziX2_unit zsX2_unit (zkB hΓ rfl) (by decide) rfl (Nat.le_of_ble_eq_true rfl) (by decide) (by first | decide | omega) ⟨Nat.le_refl _, Nat.le_refl _⟩ (iU f (by omega) _ (dep + 1) _ _ _ _ hR (by omega) (by first | omega | (simp only [List.length_append, List.length_cons, List.length_nil]; omega)) (by omega) hP1 (fun h hR _ => ?_))
          try simp only [zup_ap, zup_row, ne_eq, not_false_eq_true, zres, Int.toNat_natCast, reduceIte, Nat.reduceEqDiff, Nat.reduceAdd, and_self, and_true, true_and, and_false, false_and]
          refine z_if_ne (t := 123) dX2_unit_118 (by rfl) (fun hx => absurd hx (by decide)) (fun _ => ?_)
          refine z_iconst dX2_unit_121 (by decide) ?_
          refine z_zret dX2_unit_122 rfl (Nat.le_refl _) (Nat.le_refl _) (zext_rf _) (by first | exact Or.inl rfl | exact Or.inr rfl | omega) ?_
          first
          | exact hQ _ hR
          | exact hQ _ hR.1
          | (cases hP; exact hQ _ hR)
          | (cases hP; exact hQ _ hR.1)
          | (cases hP; exact hQ _ (by simpa using hR))
          | (exfalso; omega)
        · refine zcv1 dX2_unit_115 zkX2_67 ziX2_unit zsX2_unit (zkB hΓ rfl) (by decide) rfl (Nat.le_of_ble_eq_true rfl) (by decide) (by first | decide | omega) ⟨Nat.le_refl _, Nat.le_refl _⟩ (iU f (by omega) _ (dep + 1) _ _ _ _ hR (by omega) (by first | omega | (simp only [List.length_append, List.length_cons, List.length_nil]; omega)) (by omega) hP1 (fun h hR _ => ?_))
          try simp only [zup_ap, zup_row, ne_eq, not_false_eq_true, zres, Int.toNat_natCast, reduceIte, Nat.reduceEqDiff, Nat.reduceAdd, and_self, and_true, true_and, and_false, false_and]
          have b1 := zP_c hP1 (by decide)
          refine z_if_ne (t := 123) dX2_unit_118 (by rfl) (fun _ => ?_) (fun hx => absurd hx (by decide))
          refine z_al0 dX2_unit_123 (by first | decide | omega | assumption) ?_
          refine z_bipush (x := -33) dX2_unit_124 (by rfl) (by decide) ?_
          refine zcv1 dX2_unit_126 zkX2_60 ziX2_emit zsX2_emit (zkB hΓ rfl) (by decide) rfl (Nat.le_of_ble_eq_true rfl) (by decide) (by first | decide | omega) ⟨Nat.le_refl _, Nat.le_refl _⟩ (zA_emit hΓ hn2 hR (by omega) (by first | omega | (simp only [List.length_append, List.length_cons, List.length_nil]; omega)) (fun h hR _ => ?_))
          try simp only [zup_ap, zup_row, ne_eq, not_false_eq_true, zres, Int.toNat_natCast, reduceIte, Nat.reduceEqDiff, Nat.reduceAdd, and_self, and_true, true_and, and_false, false_and]
          refine z_iconst dX2_unit_129 (by decide) ?_
          refine z_zret dX2_unit_130 rfl (Nat.le_refl _) (Nat.le_refl _) (zext_rf _) (by first | exact Or.inl rfl | exact Or.inr rfl | omega) ?_
          first
          | exact hQ _ hR
          | exact hQ _ hR.1
          | (cases hP; exact hQ _ hR)
          | (cases hP; exact hQ _ hR.1)
          | (cases hP; exact hQ _ (by simpa using hR))
          | (exfalso; omega)
  · refine z_il2 dX2_unit_14 ?_
    refine z_bipush (x := 40) dX2_unit_15 (by rfl) (by decide) ?_
    refine z_icmp_eq (t := 58) dX2_unit_17 (by rfl) (fun ht17 => ?_) (fun hf17 => ?_)
    · rw [if_neg hf11, if_pos ht17] at hP
      have l0 := zsg_lt ht17 (by decide)
      have s0 := sk1 (q + 1)
      rw [ht17]
      refine z_il1 dX2_unit_58 ?_
      refine z_bipush (x := 6) dX2_unit_59 (by rfl) (by decide) ?_
      refine z_icmp_ge (t := 75) dX2_unit_61 (by rfl) (fun ht61 => ?_) (fun hf61 => ?_)
      · rw [if_neg (by omega)] at hP
        refine z_iconst dX2_unit_75 (by decide) ?_
        refine z_zret dX2_unit_76 rfl (Nat.le_refl _) (Nat.le_refl _) (zext_rf _) (by first | exact Or.inl rfl | exact Or.inr rfl | omega) ?_
        first
        | exact hQ _ hR
        | exact hQ _ hR.1
        | (cases hP; exact hQ _ hR)
        | (cases hP; exact hQ _ hR.1)
        | (cases hP; exact hQ _ (by simpa using hR))
        | (exfalso; omega)
      · rw [if_pos (by omega)] at hP
        refine z_al0 dX2_unit_64 (by first | decide | omega | assumption) ?_
        refine z_getR zfX2_9 dX2_unit_65 (zkB hΓ rfl) rfl (zsB hΓ rfl) (zvB hΓ (by decide)) ?_
        refine z_il2 dX2_unit_68 ?_
        refine zcv1 dX2_unit_69 zkX2_35 ziX5_accept zsX5_accept (zkB hΓ rfl) (by decide) rfl (Nat.le_of_ble_eq_true rfl) (by decide) (by first | decide | omega) ⟨Nat.le_refl _, Nat.le_refl _⟩ (zA_accept hΓ hn2 hR (by omega) (fun hne _ => absurd (by assumption) hne) (fun heq h hR _ => ?_))
        · have s1 := sk1 (q + 1)
          try simp only [zup_ap, zup_row, ne_eq, not_false_eq_true, zres, Int.toNat_natCast, reduceIte, Nat.reduceEqDiff, Nat.reduceAdd, and_self, and_true, true_and, and_false, false_and]
          refine z_if_ne (t := 77) dX2_unit_72 (by rfl) (fun _ => ?_) (fun hx => absurd hx (by decide))
          refine z_il2 dX2_unit_77 ?_
          refine z_bipush (x := 40) dX2_unit_78 (by rfl) (by decide) ?_
          refine z_icmp_ne (t := 111) dX2_unit_80 (by rfl) (fun hx => absurd hx (by decide)) (fun _ => ?_)
          refine z_al0 dX2_unit_83 (by first | decide | omega | assumption) ?_
          refine z_il1 dX2_unit_84 ?_
          refine z_iconst dX2_unit_85 (by decide) ?_
          refine z_iadd dX2_unit_86 (by omega) ?_
          rcases zbd_c hP with ⟨p1, c1, hP1, rfl⟩ | ⟨p1, c1, hP1, hP⟩
          · refine zcv1 dX2_unit_87 zkX2_48 ziX2_condition zsX2_condition (zkB hΓ rfl) (by decide) rfl (Nat.le_of_ble_eq_true rfl) (by decide) (by first | decide | omega) ⟨Nat.le_refl _, Nat.le_refl _⟩ (iC f (by omega) _ (dep + 1) _ _ _ _ hR (by omega) (by first | omega | (simp only [List.length_append, List.length_cons, List.length_nil]; omega)) (by omega) hP1 (fun h hR _ => ?_))
            try simp only [zup_ap, zup_row, ne_eq, not_false_eq_true, zres, Int.toNat_natCast, reduceIte, Nat.reduceEqDiff, Nat.reduceAdd, and_self, and_true, true_and, and_false, false_and]
            refine z_if_eq (t := 109) dX2_unit_90 (by rfl) (fun _ => ?_) (fun hx => absurd hx (by decide))
            refine z_iconst dX2_unit_109 (by decide) ?_
            refine z_zret dX2_unit_110 rfl (Nat.le_refl _) (Nat.le_refl _) (zext_rf _) (by first | exact Or.inl rfl | exact Or.inr rfl | omega) ?_
            first
            | exact hQ _ hR
            | exact hQ _ hR.1
            | (cases hP; exact hQ _ hR)
            | (cases hP; exact hQ _ hR.1)
            | (cases hP; exact hQ _ (by simpa using hR))
            | (exfalso; omega)
          · refine zcv1 dX2_unit_87 zkX2_48 ziX2_condition zsX2_condition (zkB hΓ rfl) (by decide) rfl (Nat.le_of_ble_eq_true rfl) (by decide) (by first | decide | omega) ⟨Nat.le_refl _, Nat.le_refl _⟩ (iC f (by omega) _ (dep + 1) _ _ _ _ hR (by omega) (by first | omega | (simp only [List.length_append, List.length_cons, List.length_nil]; omega)) (by omega) hP1 (fun h hR _ => ?_))
            try simp only [zup_ap, zup_row, ne_eq, not_false_eq_true, zres, Int.toNat_natCast, reduceIte, Nat.reduceEqDiff, Nat.reduceAdd, and_self, and_true, true_and, and_false, false_and]
            have b1 := zP_c hP1 (by decide)
            refine z_if_eq (t := 109) dX2_unit_90 (by rfl) (fun hx => absurd hx (by decide)) (fun _ => ?_)
            refine z_al0 dX2_unit_93 (by first | decide | omega | assumption) ?_
            refine z_getR zfX2_9 dX2_unit_94 (zkB hΓ rfl) rfl (zsB hΓ rfl) (zvB hΓ (by decide)) ?_
            refine z_bipush (x := 41) dX2_unit_97 (by rfl) (by decide) ?_
            refine zcv1 dX2_unit_99 zkX2_35 ziX5_accept zsX5_accept (zkB hΓ rfl) (by decide) rfl (Nat.le_of_ble_eq_true rfl) (by decide) (by first | decide | omega) ⟨Nat.le_refl _, Nat.le_refl _⟩ (zA_accept hΓ hn2 hR (by omega) (fun hne _ => ?_) (fun heq h hR _ => ?_))
            · rw [if_neg hne] at hP
              try simp only [zup_ap, zup_row, ne_eq, not_false_eq_true, zres, Int.toNat_natCast, reduceIte, Nat.reduceEqDiff, Nat.reduceAdd, and_self, and_true, true_and, and_false, false_and]
              refine z_if_eq (t := 109) dX2_unit_102 (by rfl) (fun _ => ?_) (fun hx => absurd hx (by decide))
              refine z_iconst dX2_unit_109 (by decide) ?_
              refine z_zret dX2_unit_110 rfl (Nat.le_refl _) (Nat.le_refl _) (zext_rf _) (by first | exact Or.inl rfl | exact Or.inr rfl | omega) ?_
              first
              | exact hQ _ hR
              | exact hQ _ hR.1
              | (cases hP; exact hQ _ hR)
              | (cases hP; exact hQ _ hR.1)
              | (cases hP; exact hQ _ (by simpa using hR))
              | (exfalso; omega)
            · rw [if_pos heq] at hP
              have l2 := zsg_lt heq (by decide)
              have s2 := sk1 (p1 + 1)
              try simp only [zup_ap, zup_row, ne_eq, not_false_eq_true, zres, Int.toNat_natCast, reduceIte, Nat.reduceEqDiff, Nat.reduceAdd, and_self, and_true, true_and, and_false, false_and]
              refine z_if_eq (t := 109) dX2_unit_102 (by rfl) (fun hx => absurd hx (by decide)) (fun _ => ?_)
              refine z_iconst dX2_unit_105 (by decide) ?_
              refine z_goto (t := 110) dX2_unit_106 (by rfl) ?_
              refine z_zret dX2_unit_110 rfl (Nat.le_refl _) (Nat.le_refl _) (zext_rf _) (by first | exact Or.inl rfl | exact Or.inr rfl | omega) ?_
              first
              | exact hQ _ hR
              | exact hQ _ hR.1
              | (cases hP; exact hQ _ hR)
              | (cases hP; exact hQ _ hR.1)
              | (cases hP; exact hQ _ (by simpa using hR))
              | (exfalso; omega)
    · rw [if_neg hf11, if_neg hf17] at hP
      refine z_al0 dX2_unit_20 (by first | decide | omega | assumption) ?_
      refine z_il1 dX2_unit_21 ?_
      rcases zbd_c hP with ⟨p1, c1, hP1, rfl⟩ | ⟨p1, c1, hP1, hP⟩
      · refine zcv1 dX2_unit_22 zkX2_54 ziX2_sum zsX2_sum (zkB hΓ rfl) (by decide) rfl (Nat.le_of_ble_eq_true rfl) (by decide) (by first | decide | omega) ⟨Nat.le_refl _, Nat.le_refl _⟩ (iS f (by omega) _ _ _ _ _ _ hR (by omega) (by first | omega | (simp only [List.length_append, List.length_cons, List.length_nil]; omega)) (by omega) hP1 (fun h hR _ => ?_))
        try simp only [zup_ap, zup_row, ne_eq, not_false_eq_true, zres, Int.toNat_natCast, reduceIte, Nat.reduceEqDiff, Nat.reduceAdd, and_self, and_true, true_and, and_false, false_and]
        refine z_if_ne (t := 30) dX2_unit_25 (by rfl) (fun hx => absurd hx (by decide)) (fun _ => ?_)
        refine z_iconst dX2_unit_28 (by decide) ?_
        refine z_zret dX2_unit_29 rfl (Nat.le_refl _) (Nat.le_refl _) (zext_rf _) (by first | exact Or.inl rfl | exact Or.inr rfl | omega) ?_
        first
        | exact hQ _ hR
        | exact hQ _ hR.1
        | (cases hP; exact hQ _ hR)
        | (cases hP; exact hQ _ hR.1)
        | (cases hP; exact hQ _ (by simpa using hR))
        | (exfalso; omega)
      · refine zcv1 dX2_unit_22 zkX2_54 ziX2_sum zsX2_sum (zkB hΓ rfl) (by decide) rfl (Nat.le_of_ble_eq_true rfl) (by decide) (by first | decide | omega) ⟨Nat.le_refl _, Nat.le_refl _⟩ (iS f (by omega) _ _ _ _ _ _ hR (by omega) (by first | omega | (simp only [List.length_append, List.length_cons, List.length_nil]; omega)) (by omega) hP1 (fun h hR _ => ?_))
        try simp only [zup_ap, zup_row, ne_eq, not_false_eq_true, zres, Int.toNat_natCast, reduceIte, Nat.reduceEqDiff, Nat.reduceAdd, and_self, and_true, true_and, and_false, false_and]
        have b1 := zP_c hP1 (by decide)
        refine z_if_ne (t := 30) dX2_unit_25 (by rfl) (fun _ => ?_) (fun hx => absurd hx (by decide))
        refine z_al0 dX2_unit_30 (by first | decide | omega | assumption) ?_
        refine zcv0 dX2_unit_31 zkX2_57 ziX2_comparison zsX2_comparison (zkB hΓ rfl) (by decide) rfl (Nat.le_of_ble_eq_true rfl) (by decide) (by first | decide | omega) ⟨Nat.le_refl _, Nat.le_refl _⟩ (zA_cmp hΓ hn2 hR (by omega) (fun hz _ => ?_) (fun hz h hR _ => ?_))
        · have e9 := zP5n hz hP
          subst e9
          try simp only [zup_ap, zup_row, ne_eq, not_false_eq_true, zres, Int.toNat_natCast, reduceIte, Nat.reduceEqDiff, Nat.reduceAdd, and_self, and_true, true_and, and_false, false_and]
          refine z_is3 dX2_unit_34 (Nat.le_of_ble_eq_true rfl) rfl ?_
          refine z_il3 dX2_unit_35 ?_
          refine z_iconst dX2_unit_36 (by decide) ?_
          refine z_icmp_eq (t := 48) dX2_unit_37 (by rfl) (fun _ => ?_) (fun hx => absurd hx (by decide))
          refine z_iconst dX2_unit_48 (by decide) ?_
          refine z_zret dX2_unit_49 rfl (Nat.le_refl _) (Nat.le_refl _) (zext_rf _) (by first | exact Or.inl rfl | exact Or.inr rfl | omega) ?_
          first
          | exact hQ _ hR
          | exact hQ _ hR.1
          | (cases hP; exact hQ _ hR)
          | (cases hP; exact hQ _ hR.1)
          | (cases hP; exact hQ _ (by simpa using hR))
          | (exfalso; omega)
        · obtain ⟨g, hg, hP⟩ := zP5p hz hP
          have l8 : p1 < n := by rcases hz with h | h | h <;> exact zsg_lt h (by decide)
          have s8 := sk1 (p1 + 1)
          have hz : _ ∨ _ ∨ _ := hz
          try simp only [zup_ap, zup_row, ne_eq, not_false_eq_true, zres, Int.toNat_natCast, reduceIte, Nat.reduceEqDiff, Nat.reduceAdd, and_self, and_true, true_and, and_false, false_and]
          refine z_is3 dX2_unit_34 (Nat.le_of_ble_eq_true rfl) rfl ?_
          refine z_il3 dX2_unit_35 ?_
          refine z_iconst dX2_unit_36 (by decide) ?_
          refine z_icmp_eq (t := 48) dX2_unit_37 (by rfl) (fun ht37 => ?_) (fun hf37 => ?_)
          · refine z_iconst dX2_unit_48 (by decide) ?_
            refine z_zret dX2_unit_49 rfl (Nat.le_refl _) (Nat.le_refl _) (zext_rf _) (by first | exact Or.inl rfl | exact Or.inr rfl | omega) ?_
            first
            | exact hQ _ hR
            | exact hQ _ hR.1
            | (cases hP; exact hQ _ hR)
            | (cases hP; exact hQ _ hR.1)
            | (cases hP; exact hQ _ (by simpa using hR))
            | (exfalso; omega)
          · refine z_al0 dX2_unit_40 (by first | decide | omega | assumption) ?_
            refine z_il1 dX2_unit_41 ?_
            rcases zbd_c hP with ⟨p2, c2, hP2, rfl⟩ | ⟨p2, c2, hP2, hP⟩
            · refine zcv1 dX2_unit_42 zkX2_54 ziX2_sum zsX2_sum (zkB hΓ rfl) (by decide) rfl (Nat.le_of_ble_eq_true rfl) (by decide) (by first | decide | omega) ⟨Nat.le_refl _, Nat.le_refl _⟩ (iS g (by omega) _ _ _ _ _ _ hR (by omega) (by first | omega | (simp only [List.length_append, List.length_cons, List.length_nil]; omega)) (by omega) hP2 (fun h hR _ => ?_))
              try simp only [zup_ap, zup_row, ne_eq, not_false_eq_true, zres, Int.toNat_natCast, reduceIte, Nat.reduceEqDiff, Nat.reduceAdd, and_self, and_true, true_and, and_false, false_and]
              refine z_if_ne (t := 50) dX2_unit_45 (by rfl) (fun hx => absurd hx (by decide)) (fun _ => ?_)
              refine z_iconst dX2_unit_48 (by decide) ?_
              refine z_zret dX2_unit_49 rfl (Nat.le_refl _) (Nat.le_refl _) (zext_rf _) (by first | exact Or.inl rfl | exact Or.inr rfl | omega) ?_
              first
              | exact hQ _ hR
              | exact hQ _ hR.1
              | (cases hP; exact hQ _ hR)
              | (cases hP; exact hQ _ hR.1)
              | (cases hP; exact hQ _ (by simpa using hR))
              | (exfalso; omega)
            · refine zcv1 dX2_unit_42 zkX2_54 ziX2_sum zsX2_sum (zkB hΓ rfl) (by decide) rfl (Nat.le_of_ble_eq_true rfl) (by decide) (by first | decide | omega) ⟨Nat.le_refl _, Nat.le_refl _⟩ (iS g (by omega) _ _ _ _ _ _ hR (by omega) (by first | omega | (simp only [List.length_append, List.length_cons, List.length_nil]; omega)) (by omega) hP2 (fun h hR _ => ?_))
              try simp only [zup_ap, zup_row, ne_eq, not_false_eq_true, zres, Int.toNat_natCast, reduceIte, Nat.reduceEqDiff, Nat.reduceAdd, and_self, and_true, true_and, and_false, false_and]
              have b2 := zP_c hP2 (by decide)
              refine z_if_ne (t := 50) dX2_unit_45 (by rfl) (fun _ => ?_) (fun hx => absurd hx (by decide))
              refine z_al0 dX2_unit_50 (by first | decide | omega | assumption) ?_
              refine z_il3 dX2_unit_51 ?_
              refine z_ineg dX2_unit_52 (by omega) ?_
              refine zcv1 dX2_unit_53 zkX2_60 ziX2_emit zsX2_emit (zkB hΓ rfl) (by decide) rfl (Nat.le_of_ble_eq_true rfl) (by decide) (by first | decide | omega) ⟨Nat.le_refl _, Nat.le_refl _⟩ (zA_emit hΓ hn2 hR (by omega) (by first | omega | (simp only [List.length_append, List.length_cons, List.length_nil]; omega)) (fun h hR _ => ?_))
              try simp only [zup_ap, zup_row, ne_eq, not_false_eq_true, zres, Int.toNat_natCast, reduceIte, Nat.reduceEqDiff, Nat.reduceAdd, and_self, and_true, true_and, and_false, false_and]
              refine z_iconst dX2_unit_56 (by decide) ?_
              refine z_zret dX2_unit_57 rfl (Nat.le_refl _) (Nat.le_refl _) (zext_rf _) (by first | exact Or.inl rfl | exact Or.inr rfl | omega) ?_
              first
              | exact hQ _ hR
              | exact hQ _ hR.1
              | (cases hP; exact hQ _ hR)
              | (cases hP; exact hQ _ hR.1)
              | (cases hP; exact hQ _ (by simpa using hR))
              | (exfalso; omega)
set_option maxRecDepth 4000 in
theorem zB_ml {l : Launch} {Γ : zC} {h0 : zM} {n : Nat} (hΓ : zBase Γ) (hn2 : n ≤ 160) (G D : Nat) (hD : G + 3 ≤ D) (iU : ∀ g, g < G → zSp l Γ h0 n g 6 mX2_unit) : ∀ g, g ≤ G → ∀ (q dep k : Nat) (cs : List Int) (h : zM) (r : zRs) (Q : Option zV → zC → zM → Prop), zRS h0 h n q cs → q ≤ 160 → cs.length ≤ q → k ≤ q → dep ≤ 6 → zP (h0 3) n g 7 q dep = some r → zPo Γ h0 n cs r Q → zG (zFn l mX2_moreUnits D 0 0 Γ Q) 0 0 Γ h 2 [some (zR 13), some (zI (dep : Nat)), some (zI (k : Nat))] [] := by
  intro g
  induction g with
  | zero => intro _ q dep k cs h r Q hR hq hlen hk hdep hP hQ; cases hP
  | succ g ih =>
    intro hg q dep k cs h r Q hR hq hlen hk hdep hP hQ
    have sk1 := fun k => zskip_b (h0 3) n k
    simp only [zP] at hP
    refine z_il2 dX2_moreUnits_2 ?_
    refine z_sipush (x := 160) dX2_moreUnits_3 (by rfl) (by decide) ?_
    refine z_icmp_ge (t := 43) dX2_moreUnits_6 (by rfl) (fun ht6 => ?_) (fun hf6 => ?_)
    · have hz : zsg (h0 3) n q = -1 := by unfold zsg; rw [if_neg (by omega)]
      rw [if_neg (by rw [hz]; decide)] at hP
      refine z_iconst dX2_moreUnits_43 (by decide) ?_
      refine z_zret dX2_moreUnits_44 rfl (Nat.le_refl _) (Nat.le_refl _) (zext_rf _) (by first | exact Or.inl rfl | exact Or.inr rfl | omega) ?_
      first
      | exact hQ _ hR
      | exact hQ _ hR.1
      | (cases hP; exact hQ _ hR)
      | (cases hP; exact hQ _ hR.1)
      | (cases hP; exact hQ _ (by simpa using hR))
      | (exfalso; omega)
    · refine z_al0 dX2_moreUnits_9 (by first | decide | omega | assumption) ?_
      refine z_getR zfX2_9 dX2_moreUnits_10 (zkB hΓ rfl) rfl (zsB hΓ rfl) (zvB hΓ (by decide)) ?_
      refine z_bipush (x := 38) dX2_moreUnits_13 (by rfl) (by decide) ?_
      refine zcv1 dX2_moreUnits_15 zkX2_35 ziX5_accept zsX5_accept (zkB hΓ rfl) (by decide) rfl (Nat.le_of_ble_eq_true rfl) (by decide) (by first | decide | omega) ⟨Nat.le_refl _, Nat.le_refl _⟩ (zA_accept hΓ hn2 hR (by omega) (fun hne _ => ?_) (fun heq h hR _ => ?_))
      · rw [if_neg hne] at hP
        try simp only [zup_ap, zup_row, ne_eq, not_false_eq_true, zres, Int.toNat_natCast, reduceIte, Nat.reduceEqDiff, Nat.reduceAdd, and_self, and_true, true_and, and_false, false_and]
        refine z_if_eq (t := 43) dX2_moreUnits_18 (by rfl) (fun _ => ?_) (fun hx => absurd hx (by decide))
        refine z_iconst dX2_moreUnits_43 (by decide) ?_
        refine z_zret dX2_moreUnits_44 rfl (Nat.le_refl _) (Nat.le_refl _) (zext_rf _) (by first | exact Or.inl rfl | exact Or.inr rfl | omega) ?_
        first
        | exact hQ _ hR
        | exact hQ _ hR.1
        | (cases hP; exact hQ _ hR)
        | (cases hP; exact hQ _ hR.1)
        | (cases hP; exact hQ _ (by simpa using hR))
        | (exfalso; omega)
      · rw [if_pos heq] at hP
        have l0 := zsg_lt heq (by decide)
        have s0 := sk1 (q + 1)
        try simp only [zup_ap, zup_row, ne_eq, not_false_eq_true, zres, Int.toNat_natCast, reduceIte, Nat.reduceEqDiff, Nat.reduceAdd, and_self, and_true, true_and, and_false, false_and]
        refine z_if_eq (t := 43) dX2_moreUnits_18 (by rfl) (fun hx => absurd hx (by decide)) (fun _ => ?_)
        refine z_al0 dX2_moreUnits_21 (by first | decide | omega | assumption) ?_
        refine z_il1 dX2_moreUnits_22 ?_
        rcases zbd_c hP with ⟨p1, c1, hP1, rfl⟩ | ⟨p1, c1, hP1, hP⟩
        · refine zcv1 dX2_moreUnits_23 zkX2_67 ziX2_unit zsX2_unit (zkB hΓ rfl) (by decide) rfl (Nat.le_of_ble_eq_true rfl) (by decide) (by first | decide | omega) ⟨Nat.le_refl _, Nat.le_refl _⟩ (iU g (by omega) _ _ _ _ _ _ hR (by omega) (by first | omega | (simp only [List.length_append, List.length_cons, List.length_nil]; omega)) (by omega) hP1 (fun h hR _ => ?_))
          try simp only [zup_ap, zup_row, ne_eq, not_false_eq_true, zres, Int.toNat_natCast, reduceIte, Nat.reduceEqDiff, Nat.reduceAdd, and_self, and_true, true_and, and_false, false_and]
          refine z_if_ne (t := 31) dX2_moreUnits_26 (by rfl) (fun hx => absurd hx (by decide)) (fun _ => ?_)
          refine z_iconst dX2_moreUnits_29 (by decide) ?_
          refine z_zret dX2_moreUnits_30 rfl (Nat.le_refl _) (Nat.le_refl _) (zext_rf _) (by first | exact Or.inl rfl | exact Or.inr rfl | omega) ?_
          first
          | exact hQ _ hR
          | exact hQ _ hR.1
          | (cases hP; exact hQ _ hR)
          | (cases hP; exact hQ _ hR.1)
          | (cases hP; exact hQ _ (by simpa using hR))
          | (exfalso; omega)
        · refine zcv1 dX2_moreUnits_23 zkX2_67 ziX2_unit zsX2_unit (zkB hΓ rfl) (by decide) rfl (Nat.le_of_ble_eq_true rfl) (by decide) (by first | decide | omega) ⟨Nat.le_refl _, Nat.le_refl _⟩ (iU g (by omega) _ _ _ _ _ _ hR (by omega) (by first | omega | (simp only [List.length_append, List.length_cons, List.length_nil]; omega)) (by omega) hP1 (fun h hR _ => ?_))
          try simp only [zup_ap, zup_row, ne_eq, not_false_eq_true, zres, Int.toNat_natCast, reduceIte, Nat.reduceEqDiff, Nat.reduceAdd, and_self, and_true, true_and, and_false, false_and]
          have b1 := zP_c hP1 (by decide)
          refine z_if_ne (t := 31) dX2_moreUnits_26 (by rfl) (fun _ => ?_) (fun hx => absurd hx (by decide))
          refine z_al0 dX2_moreUnits_31 (by first | decide | omega | assumption) ?_
          refine z_bipush (x := -38) dX2_moreUnits_32 (by rfl) (by decide) ?_
          refine zcv1 dX2_moreUnits_34 zkX2_60 ziX2_emit zsX2_emit (zkB hΓ rfl) (by decide) rfl (Nat.le_of_ble_eq_true rfl) (by decide) (by first | decide | omega) ⟨Nat.le_refl _, Nat.le_refl _⟩ (zA_emit hΓ hn2 hR (by omega) (by first | omega | (simp only [List.length_append, List.length_cons, List.length_nil]; omega)) (fun h hR _ => ?_))
          try simp only [zup_ap, zup_row, ne_eq, not_false_eq_true, zres, Int.toNat_natCast, reduceIte, Nat.reduceEqDiff, Nat.reduceAdd, and_self, and_true, true_and, and_false, false_and]
          refine z_ii2 dX2_moreUnits_37 (by omega) (Nat.le_of_ble_eq_true rfl) rfl ?_
          refine z_goto (t := 2) dX2_moreUnits_40 (by rfl) ?_
          rcases zbd_c hP with ⟨p9, c9, hP9, rfl⟩ | ⟨p9, c9, hP9, hP⟩
          · exact ih (by omega) p1 dep (k + 1) _ h _ Q hR (by omega) (by first | omega | (simp only [List.length_append, List.length_cons, List.length_nil]; omega)) (by omega) hdep hP9 (fun h hR => hQ h hR)
          · cases hP
            exact ih (by omega) p1 dep (k + 1) _ h _ Q hR (by omega) (by first | omega | (simp only [List.length_append, List.length_cons, List.length_nil]; omega)) (by omega) hdep hP9 (fun h hR => hQ h (by simpa using hR))
set_option maxRecDepth 4000 in
theorem zB_moreUnits {l : Launch} {Γ : zC} {h0 : zM} {n f : Nat} (hΓ : zBase Γ) (hn2 : n ≤ 160) (iU : ∀ g, g < f + 1 → zSp l Γ h0 n g 6 mX2_unit) : zSp l Γ h0 n (f + 1) 7 mX2_moreUnits := by
  intro q dep cs h r Q hR hq hlen hdep hP hQ
  have sk1 := fun k => zskip_b (h0 3) n k
  refine zCT_of (by decide) (Nat.le_of_ble_eq_true rfl) (ls := [some (zR 13), some (zI (dep : Nat)), none]) rfl ?_
  refine z_iconst dX2_moreUnits_0 (by decide) ?_
  refine z_is2 dX2_moreUnits_1 (Nat.le_of_ble_eq_true rfl) rfl ?_
  exact zB_ml hΓ hn2 (f + 1) (f + 1 + 3) (by omega) (fun g hg => iU g (by omega)) (f + 1) (Nat.le_refl _) q dep 0 cs h r Q hR hq hlen (by omega) hdep hP hQ
set_option maxRecDepth 4000 in
theorem zB_rl {l : Launch} {Γ : zC} {h0 : zM} {n : Nat} (hΓ : zBase Γ) (hn2 : n ≤ 160) (G D : Nat) (hD : G + 3 ≤ D) (iU : ∀ g, g < G → zSp l Γ h0 n g 6 mX2_unit) (iMU : ∀ g, g < G → zSp l Γ h0 n g 7 mX2_moreUnits) : ∀ g, g ≤ G → ∀ (q dep k : Nat) (cs : List Int) (h : zM) (r : zRs) (Q : Option zV → zC → zM → Prop), zRS h0 h n q cs → q ≤ 160 → cs.length ≤ q → k ≤ q → dep ≤ 6 → zP (h0 3) n g 9 q dep = some r → zPo Γ h0 n cs r Q → zG (zFn l mX2_moreTruths D 0 0 Γ Q) 0 0 Γ h 12 [some (zR 13), some (zI (dep : Nat)), some (zI (k : Nat))] [] := by
  intro g
  induction g with
  | zero => intro _ q dep k cs h r Q hR hq hlen hk hdep hP hQ; cases hP
  | succ g ih =>
    intro hg q dep k cs h r Q hR hq hlen hk hdep hP hQ
    have sk1 := fun k => zskip_b (h0 3) n k
    simp only [zP] at hP
    refine z_il2 dX2_moreTruths_12 ?_
    refine z_sipush (x := 160) dX2_moreTruths_13 (by rfl) (by decide) ?_
    refine z_icmp_ge (t := 61) dX2_moreTruths_16 (by rfl) (fun ht16 => ?_) (fun hf16 => ?_)
    · have hz : zsg (h0 3) n q = -1 := by unfold zsg; rw [if_neg (by omega)]
      rw [if_neg (by rw [hz]; decide)] at hP
      refine z_iconst dX2_moreTruths_61 (by decide) ?_
      refine z_zret dX2_moreTruths_62 rfl (Nat.le_refl _) (Nat.le_refl _) (zext_rf _) (by first | exact Or.inl rfl | exact Or.inr rfl | omega) ?_
      first
      | exact hQ _ hR
      | exact hQ _ hR.1
      | (cases hP; exact hQ _ hR)
      | (cases hP; exact hQ _ hR.1)
      | (cases hP; exact hQ _ (by simpa using hR))
      | (exfalso; omega)
    · refine z_al0 dX2_moreTruths_19 (by first | decide | omega | assumption) ?_
      refine z_getR zfX2_9 dX2_moreTruths_20 (zkB hΓ rfl) rfl (zsB hΓ rfl) (zvB hΓ (by decide)) ?_
      refine z_bipush (x := 124) dX2_moreTruths_23 (by rfl) (by decide) ?_
      refine zcv1 dX2_moreTruths_25 zkX2_35 ziX5_accept zsX5_accept (zkB hΓ rfl) (by decide) rfl (Nat.le_of_ble_eq_true rfl) (by decide) (by first | decide | omega) ⟨Nat.le_refl _, Nat.le_refl _⟩ (zA_accept hΓ hn2 hR (by omega) (fun hne _ => ?_) (fun heq h hR _ => ?_))
      · rw [if_neg hne] at hP
        try simp only [zup_ap, zup_row, ne_eq, not_false_eq_true, zres, Int.toNat_natCast, reduceIte, Nat.reduceEqDiff, Nat.reduceAdd, and_self, and_true, true_and, and_false, false_and]
        refine z_if_eq (t := 61) dX2_moreTruths_28 (by rfl) (fun _ => ?_) (fun hx => absurd hx (by decide))
        refine z_iconst dX2_moreTruths_61 (by decide) ?_
        refine z_zret dX2_moreTruths_62 rfl (Nat.le_refl _) (Nat.le_refl _) (zext_rf _) (by first | exact Or.inl rfl | exact Or.inr rfl | omega) ?_
        first
        | exact hQ _ hR
        | exact hQ _ hR.1
        | (cases hP; exact hQ _ hR)
        | (cases hP; exact hQ _ hR.1)
        | (cases hP; exact hQ _ (by simpa using hR))
        | (exfalso; omega)
      · rw [if_pos heq] at hP
        have l0 := zsg_lt heq (by decide)
        have s0 := sk1 (q + 1)
        try simp only [zup_ap, zup_row, ne_eq, not_false_eq_true, zres, Int.toNat_natCast, reduceIte, Nat.reduceEqDiff, Nat.reduceAdd, and_self, and_true, true_and, and_false, false_and]
        refine z_if_eq (t := 61) dX2_moreTruths_28 (by rfl) (fun hx => absurd hx (by decide)) (fun _ => ?_)
        refine z_al0 dX2_moreTruths_31 (by first | decide | omega | assumption) ?_
        refine z_il1 dX2_moreTruths_32 ?_
        rcases zbd_c hP with ⟨p1, c1, hP1, rfl⟩ | ⟨p1, c1, hP1, hP⟩
        · refine zcv1 dX2_moreTruths_33 zkX2_67 ziX2_unit zsX2_unit (zkB hΓ rfl) (by decide) rfl (Nat.le_of_ble_eq_true rfl) (by decide) (by first | decide | omega) ⟨Nat.le_refl _, Nat.le_refl _⟩ (iU g (by omega) _ _ _ _ _ _ hR (by omega) (by first | omega | (simp only [List.length_append, List.length_cons, List.length_nil]; omega)) (by omega) hP1 (fun h hR _ => ?_))
          try simp only [zup_ap, zup_row, ne_eq, not_false_eq_true, zres, Int.toNat_natCast, reduceIte, Nat.reduceEqDiff, Nat.reduceAdd, and_self, and_true, true_and, and_false, false_and]
          refine z_if_eq (t := 47) dX2_moreTruths_36 (by rfl) (fun _ => ?_) (fun hx => absurd hx (by decide))
          refine z_iconst dX2_moreTruths_47 (by decide) ?_
          refine z_zret dX2_moreTruths_48 rfl (Nat.le_refl _) (Nat.le_refl _) (zext_rf _) (by first | exact Or.inl rfl | exact Or.inr rfl | omega) ?_
          first
          | exact hQ _ hR
          | exact hQ _ hR.1
          | (cases hP; exact hQ _ hR)
          | (cases hP; exact hQ _ hR.1)
          | (cases hP; exact hQ _ (by simpa using hR))
          | (exfalso; omega)
        · refine zcv1 dX2_moreTruths_33 zkX2_67 ziX2_unit zsX2_unit (zkB hΓ rfl) (by decide) rfl (Nat.le_of_ble_eq_true rfl) (by decide) (by first | decide | omega) ⟨Nat.le_refl _, Nat.le_refl _⟩ (iU g (by omega) _ _ _ _ _ _ hR (by omega) (by first | omega | (simp only [List.length_append, List.length_cons, List.length_nil]; omega)) (by omega) hP1 (fun h hR _ => ?_))
          try simp only [zup_ap, zup_row, ne_eq, not_false_eq_true, zres, Int.toNat_natCast, reduceIte, Nat.reduceEqDiff, Nat.reduceAdd, and_self, and_true, true_and, and_false, false_and]
          have b1 := zP_c hP1 (by decide)
          refine z_if_eq (t := 47) dX2_moreTruths_36 (by rfl) (fun hx => absurd hx (by decide)) (fun _ => ?_)
          refine z_al0 dX2_moreTruths_39 (by first | decide | omega | assumption) ?_
          refine z_il1 dX2_moreTruths_40 ?_
          rcases zbd_c hP with ⟨p2, c2, hP2, rfl⟩ | ⟨p2, c2, hP2, hP⟩
          · refine zcv1 dX2_moreTruths_41 zkX2_70 ziX2_moreUnits zsX2_moreUnits (zkB hΓ rfl) (by decide) rfl (Nat.le_of_ble_eq_true rfl) (by decide) (by first | decide | omega) ⟨Nat.le_refl _, Nat.le_refl _⟩ (iMU g (by omega) _ _ _ _ _ _ hR (by omega) (by first | omega | (simp only [List.length_append, List.length_cons, List.length_nil]; omega)) (by omega) hP2 (fun h hR _ => ?_))
            try simp only [zup_ap, zup_row, ne_eq, not_false_eq_true, zres, Int.toNat_natCast, reduceIte, Nat.reduceEqDiff, Nat.reduceAdd, and_self, and_true, true_and, and_false, false_and]
            refine z_if_ne (t := 49) dX2_moreTruths_44 (by rfl) (fun hx => absurd hx (by decide)) (fun _ => ?_)
            refine z_iconst dX2_moreTruths_47 (by decide) ?_
            refine z_zret dX2_moreTruths_48 rfl (Nat.le_refl _) (Nat.le_refl _) (zext_rf _) (by first | exact Or.inl rfl | exact Or.inr rfl | omega) ?_
            first
            | exact hQ _ hR
            | exact hQ _ hR.1
            | (cases hP; exact hQ _ hR)
            | (cases hP; exact hQ _ hR.1)
            | (cases hP; exact hQ _ (by simpa using hR))
            | (exfalso; omega)
          · refine zcv1 dX2_moreTruths_41 zkX2_70 ziX2_moreUnits zsX2_moreUnits (zkB hΓ rfl) (by decide) rfl (Nat.le_of_ble_eq_true rfl) (by decide) (by first | decide | omega) ⟨Nat.le_refl _, Nat.le_refl _⟩ (iMU g (by omega) _ _ _ _ _ _ hR (by omega) (by first | omega | (simp only [List.length_append, List.length_cons, List.length_nil]; omega)) (by omega) hP2 (fun h hR _ => ?_))
            try simp only [zup_ap, zup_row, ne_eq, not_false_eq_true, zres, Int.toNat_natCast, reduceIte, Nat.reduceEqDiff, Nat.reduceAdd, and_self, and_true, true_and, and_false, false_and]
            have b2 := zP_c hP2 (by decide)
            refine z_if_ne (t := 49) dX2_moreTruths_44 (by rfl) (fun _ => ?_) (fun hx => absurd hx (by decide))
            refine z_al0 dX2_moreTruths_49 (by first | decide | omega | assumption) ?_
            refine z_bipush (x := -124) dX2_moreTruths_50 (by rfl) (by decide) ?_
            refine zcv1 dX2_moreTruths_52 zkX2_60 ziX2_emit zsX2_emit (zkB hΓ rfl) (by decide) rfl (Nat.le_of_ble_eq_true rfl) (by decide) (by first | decide | omega) ⟨Nat.le_refl _, Nat.le_refl _⟩ (zA_emit hΓ hn2 hR (by omega) (by first | omega | (simp only [List.length_append, List.length_cons, List.length_nil]; omega)) (fun h hR _ => ?_))
            try simp only [zup_ap, zup_row, ne_eq, not_false_eq_true, zres, Int.toNat_natCast, reduceIte, Nat.reduceEqDiff, Nat.reduceAdd, and_self, and_true, true_and, and_false, false_and]
            refine z_ii2 dX2_moreTruths_55 (by omega) (Nat.le_of_ble_eq_true rfl) rfl ?_
            refine z_goto (t := 12) dX2_moreTruths_58 (by rfl) ?_
            rcases zbd_c hP with ⟨p9, c9, hP9, rfl⟩ | ⟨p9, c9, hP9, hP⟩
            · exact ih (by omega) p2 dep (k + 1) _ h _ Q hR (by omega) (by first | omega | (simp only [List.length_append, List.length_cons, List.length_nil]; omega)) (by omega) hdep hP9 (fun h hR => hQ h hR)
            · cases hP
              exact ih (by omega) p2 dep (k + 1) _ h _ Q hR (by omega) (by first | omega | (simp only [List.length_append, List.length_cons, List.length_nil]; omega)) (by omega) hdep hP9 (fun h hR => hQ h (by simpa using hR))
set_option maxRecDepth 4000 in
theorem zB_moreTruths {l : Launch} {Γ : zC} {h0 : zM} {n f : Nat} (hΓ : zBase Γ) (hn2 : n ≤ 160) (iU : ∀ g, g < f + 1 → zSp l Γ h0 n g 6 mX2_unit) (iMU : ∀ g, g < f + 1 → zSp l Γ h0 n g 7 mX2_moreUnits) : zSp l Γ h0 n (f + 1) 8 mX2_moreTruths := by
  intro q dep cs h r Q hR hq hlen hdep hP hQ
  have sk1 := fun k => zskip_b (h0 3) n k
  simp only [zP] at hP
  refine zCT_of (by decide) (Nat.le_of_ble_eq_true rfl) (ls := [some (zR 13), some (zI (dep : Nat)), none]) rfl ?_
  refine z_al0 dX2_moreTruths_0 (by first | decide | omega | assumption) ?_
  refine z_il1 dX2_moreTruths_1 ?_
  rcases zbd_c hP with ⟨p1, c1, hP1, rfl⟩ | ⟨p1, c1, hP1, hP⟩
  · refine zcv1 dX2_moreTruths_2 zkX2_70 ziX2_moreUnits zsX2_moreUnits (zkB hΓ rfl) (by decide) rfl (Nat.le_of_ble_eq_true rfl) (by decide) (by first | decide | omega) ⟨Nat.le_refl _, Nat.le_refl _⟩ (iMU f (by omega) _ _ _ _ _ _ hR (by omega) (by first | omega | (simp only [List.length_append, List.length_cons, List.length_nil]; omega)) (by omega) hP1 (fun h hR _ => ?_))
    try simp only [zup_ap, zup_row, ne_eq, not_false_eq_true, zres, Int.toNat_natCast, reduceIte, Nat.reduceEqDiff, Nat.reduceAdd, and_self, and_true, true_and, and_false, false_and]
    refine z_if_ne (t := 10) dX2_moreTruths_5 (by rfl) (fun hx => absurd hx (by decide)) (fun _ => ?_)
    refine z_iconst dX2_moreTruths_8 (by decide) ?_
    refine z_zret dX2_moreTruths_9 rfl (Nat.le_refl _) (Nat.le_refl _) (zext_rf _) (by first | exact Or.inl rfl | exact Or.inr rfl | omega) ?_
    first
    | exact hQ _ hR
    | exact hQ _ hR.1
    | (cases hP; exact hQ _ hR)
    | (cases hP; exact hQ _ hR.1)
    | (cases hP; exact hQ _ (by simpa using hR))
    | (exfalso; omega)
  · refine zcv1 dX2_moreTruths_2 zkX2_70 ziX2_moreUnits zsX2_moreUnits (zkB hΓ rfl) (by decide) rfl (Nat.le_of_ble_eq_true rfl) (by decide) (by first | decide | omega) ⟨Nat.le_refl _, Nat.le_refl _⟩ (iMU f (by omega) _ _ _ _ _ _ hR (by omega) (by first | omega | (simp only [List.length_append, List.length_cons, List.length_nil]; omega)) (by omega) hP1 (fun h hR _ => ?_))
    try simp only [zup_ap, zup_row, ne_eq, not_false_eq_true, zres, Int.toNat_natCast, reduceIte, Nat.reduceEqDiff, Nat.reduceAdd, and_self, and_true, true_and, and_false, false_and]
    have b1 := zP_c hP1 (by decide)
    refine z_if_ne (t := 10) dX2_moreTruths_5 (by rfl) (fun _ => ?_) (fun hx => absurd hx (by decide))
    refine z_iconst dX2_moreTruths_10 (by decide) ?_
    refine z_is2 dX2_moreTruths_11 (Nat.le_of_ble_eq_true rfl) rfl ?_
    rcases zbd_c hP with ⟨p9, c9, hP9, rfl⟩ | ⟨p9, c9, hP9, hP⟩
    · exact zB_rl hΓ hn2 f (f + 1 + 3) (by omega) (fun g hg => iU g (by omega)) (fun g hg => iMU g (by omega)) f (Nat.le_refl _) p1 dep 0 _ h _ Q hR (by omega) (by first | omega | (simp only [List.length_append, List.length_cons, List.length_nil]; omega)) (by omega) hdep hP9 (fun h hR => hQ h hR)
    · cases hP
      exact zB_rl hΓ hn2 f (f + 1 + 3) (by omega) (fun g hg => iU g (by omega)) (fun g hg => iMU g (by omega)) f (Nat.le_refl _) p1 dep 0 _ h _ Q hR (by omega) (by first | omega | (simp only [List.length_append, List.length_cons, List.length_nil]; omega)) (by omega) hdep hP9 (fun h hR => hQ h (by simpa using hR))
set_option maxRecDepth 4000 in
theorem zB_condition {l : Launch} {Γ : zC} {h0 : zM} {n f : Nat} (hΓ : zBase Γ) (hn2 : n ≤ 160) (iU : ∀ g, g < f + 1 → zSp l Γ h0 n g 6 mX2_unit) (iMT : ∀ g, g < f + 1 → zSp l Γ h0 n g 8 mX2_moreTruths) : zSp l Γ h0 n (f + 1) 10 mX2_condition := by
  intro q dep cs h r Q hR hq hlen hdep hP hQ
  have sk1 := fun k => zskip_b (h0 3) n k
  simp only [zP] at hP
  refine zCT_of (by decide) (Nat.le_of_ble_eq_true rfl) (ls := [some (zR 13), some (zI (dep : Nat))]) rfl ?_
  refine z_al0 dX2_condition_0 (by first | decide | omega | assumption) ?_
  refine z_il1 dX2_condition_1 ?_
  rcases zbd_c hP with ⟨p1, c1, hP1, rfl⟩ | ⟨p1, c1, hP1, hP⟩
  · refine zcv1 dX2_condition_2 zkX2_67 ziX2_unit zsX2_unit (zkB hΓ rfl) (by decide) rfl (Nat.le_of_ble_eq_true rfl) (by decide) (by first | decide | omega) ⟨Nat.le_refl _, Nat.le_refl _⟩ (iU f (by omega) _ _ _ _ _ _ hR (by omega) (by first | omega | (simp only [List.length_append, List.length_cons, List.length_nil]; omega)) (by omega) hP1 (fun h hR _ => ?_))
    try simp only [zup_ap, zup_row, ne_eq, not_false_eq_true, zres, Int.toNat_natCast, reduceIte, Nat.reduceEqDiff, Nat.reduceAdd, and_self, and_true, true_and, and_false, false_and]
    refine z_if_eq (t := 20) dX2_condition_5 (by rfl) (fun _ => ?_) (fun hx => absurd hx (by decide))
    refine z_iconst dX2_condition_20 (by decide) ?_
    refine z_zret dX2_condition_21 rfl (Nat.le_refl _) (Nat.le_refl _) (zext_rf _) (by first | exact Or.inl rfl | exact Or.inr rfl | omega) ?_
    first
    | exact hQ _ hR
    | exact hQ _ hR.1
    | (cases hP; exact hQ _ hR)
    | (cases hP; exact hQ _ hR.1)
    | (cases hP; exact hQ _ (by simpa using hR))
    | (exfalso; omega)
  · refine zcv1 dX2_condition_2 zkX2_67 ziX2_unit zsX2_unit (zkB hΓ rfl) (by decide) rfl (Nat.le_of_ble_eq_true rfl) (by decide) (by first | decide | omega) ⟨Nat.le_refl _, Nat.le_refl _⟩ (iU f (by omega) _ _ _ _ _ _ hR (by omega) (by first | omega | (simp only [List.length_append, List.length_cons, List.length_nil]; omega)) (by omega) hP1 (fun h hR _ => ?_))
    try simp only [zup_ap, zup_row, ne_eq, not_false_eq_true, zres, Int.toNat_natCast, reduceIte, Nat.reduceEqDiff, Nat.reduceAdd, and_self, and_true, true_and, and_false, false_and]
    have b1 := zP_c hP1 (by decide)
    refine z_if_eq (t := 20) dX2_condition_5 (by rfl) (fun hx => absurd hx (by decide)) (fun _ => ?_)
    refine z_al0 dX2_condition_8 (by first | decide | omega | assumption) ?_
    refine z_il1 dX2_condition_9 ?_
    rcases zbd_c hP with ⟨p2, c2, hP2, rfl⟩ | ⟨p2, c2, hP2, hP⟩
    · refine zcv1 dX2_condition_10 zkX2_64 ziX2_moreTruths zsX2_moreTruths (zkB hΓ rfl) (by decide) rfl (Nat.le_of_ble_eq_true rfl) (by decide) (by first | decide | omega) ⟨Nat.le_refl _, Nat.le_refl _⟩ (iMT f (by omega) _ _ _ _ _ _ hR (by omega) (by first | omega | (simp only [List.length_append, List.length_cons, List.length_nil]; omega)) (by omega) hP2 (fun h hR _ => ?_))
      try simp only [zup_ap, zup_row, ne_eq, not_false_eq_true, zres, Int.toNat_natCast, reduceIte, Nat.reduceEqDiff, Nat.reduceAdd, and_self, and_true, true_and, and_false, false_and]
      refine z_if_eq (t := 20) dX2_condition_13 (by rfl) (fun _ => ?_) (fun hx => absurd hx (by decide))
      refine z_iconst dX2_condition_20 (by decide) ?_
      refine z_zret dX2_condition_21 rfl (Nat.le_refl _) (Nat.le_refl _) (zext_rf _) (by first | exact Or.inl rfl | exact Or.inr rfl | omega) ?_
      first
      | exact hQ _ hR
      | exact hQ _ hR.1
      | (cases hP; exact hQ _ hR)
      | (cases hP; exact hQ _ hR.1)
      | (cases hP; exact hQ _ (by simpa using hR))
      | (exfalso; omega)
    · refine zcv1 dX2_condition_10 zkX2_64 ziX2_moreTruths zsX2_moreTruths (zkB hΓ rfl) (by decide) rfl (Nat.le_of_ble_eq_true rfl) (by decide) (by first | decide | omega) ⟨Nat.le_refl _, Nat.le_refl _⟩ (iMT f (by omega) _ _ _ _ _ _ hR (by omega) (by first | omega | (simp only [List.length_append, List.length_cons, List.length_nil]; omega)) (by omega) hP2 (fun h hR _ => ?_))
      try simp only [zup_ap, zup_row, ne_eq, not_false_eq_true, zres, Int.toNat_natCast, reduceIte, Nat.reduceEqDiff, Nat.reduceAdd, and_self, and_true, true_and, and_false, false_and]
      have b2 := zP_c hP2 (by decide)
      refine z_if_eq (t := 20) dX2_condition_13 (by rfl) (fun hx => absurd hx (by decide)) (fun _ => ?_)
      refine z_iconst dX2_condition_16 (by decide) ?_
      refine z_goto (t := 21) dX2_condition_17 (by rfl) ?_
      refine z_zret dX2_condition_21 rfl (Nat.le_refl _) (Nat.le_refl _) (zext_rf _) (by first | exact Or.inl rfl | exact Or.inr rfl | omega) ?_
      first
      | exact hQ _ hR
      | exact hQ _ hR.1
      | (cases hP; exact hQ _ hR)
      | (cases hP; exact hQ _ hR.1)
      | (cases hP; exact hQ _ (by simpa using hR))
      | (exfalso; omega)
set_option maxRecDepth 4000 in
theorem zB_answer {l : Launch} {Γ : zC} {h0 : zM} {n f : Nat} (hΓ : zBase Γ) (hn2 : n ≤ 160) (iS : ∀ g, g < f + 1 → zSp l Γ h0 n g 3 mX2_sum) : zSq l Γ h0 n (f + 1) 11 1 mX2_answer := by
  intro q cs h r Q hR hq hlen hP hQ
  have sk1 := fun k => zskip_b (h0 3) n k
  simp only [zP] at hP
  refine zCT_of (by decide) (Nat.le_of_ble_eq_true rfl) (ls := [some (zR 13)]) rfl ?_
  refine z_al0 dX2_answer_0 (by first | decide | omega | assumption) ?_
  refine z_getR zfX2_9 dX2_answer_1 (zkB hΓ rfl) rfl (zsB hΓ rfl) (zvB hΓ (by decide)) ?_
  refine z_bipush (x := 63) dX2_answer_4 (by rfl) (by decide) ?_
  refine zcv1 dX2_answer_6 zkX2_35 ziX5_accept zsX5_accept (zkB hΓ rfl) (by decide) rfl (Nat.le_of_ble_eq_true rfl) (by decide) (by first | decide | omega) ⟨Nat.le_refl _, Nat.le_refl _⟩ (zA_accept hΓ hn2 hR (by omega) (fun hne _ => ?_) (fun heq h hR _ => ?_))
  · rw [if_neg hne] at hP
    try simp only [zup_ap, zup_row, ne_eq, not_false_eq_true, zres, Int.toNat_natCast, reduceIte, Nat.reduceEqDiff, Nat.reduceAdd, and_self, and_true, true_and, and_false, false_and]
    refine z_if_ne (t := 14) dX2_answer_9 (by rfl) (fun hx => absurd hx (by decide)) (fun _ => ?_)
    refine z_iconst dX2_answer_12 (by decide) ?_
    refine z_zret dX2_answer_13 rfl (Nat.le_refl _) (Nat.le_refl _) (zext_rf _) (by first | exact Or.inl rfl | exact Or.inr rfl | omega) ?_
    first
    | exact hQ _ hR
    | exact hQ _ hR.1
    | (cases hP; exact hQ _ hR)
    | (cases hP; exact hQ _ hR.1)
    | (cases hP; exact hQ _ (by simpa using hR))
    | (exfalso; omega)
  · rw [if_pos heq] at hP
    have l0 := zsg_lt heq (by decide)
    have s0 := sk1 (q + 1)
    try simp only [zup_ap, zup_row, ne_eq, not_false_eq_true, zres, Int.toNat_natCast, reduceIte, Nat.reduceEqDiff, Nat.reduceAdd, and_self, and_true, true_and, and_false, false_and]
    refine z_if_ne (t := 14) dX2_answer_9 (by rfl) (fun _ => ?_) (fun hx => absurd hx (by decide))
    refine z_al0 dX2_answer_14 (by first | decide | omega | assumption) ?_
    refine z_bipush (x := -63) dX2_answer_15 (by rfl) (by decide) ?_
    refine zcv1 dX2_answer_17 zkX2_60 ziX2_emit zsX2_emit (zkB hΓ rfl) (by decide) rfl (Nat.le_of_ble_eq_true rfl) (by decide) (by first | decide | omega) ⟨Nat.le_refl _, Nat.le_refl _⟩ (zA_emit hΓ hn2 hR (by omega) (by first | omega | (simp only [List.length_append, List.length_cons, List.length_nil]; omega)) (fun h hR _ => ?_))
    try simp only [zup_ap, zup_row, ne_eq, not_false_eq_true, zres, Int.toNat_natCast, reduceIte, Nat.reduceEqDiff, Nat.reduceAdd, and_self, and_true, true_and, and_false, false_and]
    refine z_al0 dX2_answer_20 (by first | decide | omega | assumption) ?_
    refine z_iconst dX2_answer_21 (by decide) ?_
    rcases zbd_c hP with ⟨p1, c1, hP1, rfl⟩ | ⟨p1, c1, hP1, hP⟩
    · refine zcv1 dX2_answer_22 zkX2_54 ziX2_sum zsX2_sum (zkB hΓ rfl) (by decide) rfl (Nat.le_of_ble_eq_true rfl) (by decide) (by first | decide | omega) ⟨Nat.le_refl _, Nat.le_refl _⟩ (iS f (by omega) _ 0 _ _ _ _ hR (by omega) (by first | omega | (simp only [List.length_append, List.length_cons, List.length_nil]; omega)) (by omega) hP1 (fun h hR _ => ?_))
      try simp only [zup_ap, zup_row, ne_eq, not_false_eq_true, zres, Int.toNat_natCast, reduceIte, Nat.reduceEqDiff, Nat.reduceAdd, and_self, and_true, true_and, and_false, false_and]
      refine z_if_ne (t := 30) dX2_answer_25 (by rfl) (fun hx => absurd hx (by decide)) (fun _ => ?_)
      refine z_iconst dX2_answer_28 (by decide) ?_
      refine z_zret dX2_answer_29 rfl (Nat.le_refl _) (Nat.le_refl _) (zext_rf _) (by first | exact Or.inl rfl | exact Or.inr rfl | omega) ?_
      first
      | exact hQ _ hR
      | exact hQ _ hR.1
      | (cases hP; exact hQ _ hR)
      | (cases hP; exact hQ _ hR.1)
      | (cases hP; exact hQ _ (by simpa using hR))
      | (exfalso; omega)
    · refine zcv1 dX2_answer_22 zkX2_54 ziX2_sum zsX2_sum (zkB hΓ rfl) (by decide) rfl (Nat.le_of_ble_eq_true rfl) (by decide) (by first | decide | omega) ⟨Nat.le_refl _, Nat.le_refl _⟩ (iS f (by omega) _ 0 _ _ _ _ hR (by omega) (by first | omega | (simp only [List.length_append, List.length_cons, List.length_nil]; omega)) (by omega) hP1 (fun h hR _ => ?_))
      try simp only [zup_ap, zup_row, ne_eq, not_false_eq_true, zres, Int.toNat_natCast, reduceIte, Nat.reduceEqDiff, Nat.reduceAdd, and_self, and_true, true_and, and_false, false_and]
      have b1 := zP_c hP1 (by decide)
      refine z_if_ne (t := 30) dX2_answer_25 (by rfl) (fun _ => ?_) (fun hx => absurd hx (by decide))
      refine z_al0 dX2_answer_30 (by first | decide | omega | assumption) ?_
      refine z_bipush (x := -59) dX2_answer_31 (by rfl) (by decide) ?_
      refine zcv1 dX2_answer_33 zkX2_60 ziX2_emit zsX2_emit (zkB hΓ rfl) (by decide) rfl (Nat.le_of_ble_eq_true rfl) (by decide) (by first | decide | omega) ⟨Nat.le_refl _, Nat.le_refl _⟩ (zA_emit hΓ hn2 hR (by omega) (by first | omega | (simp only [List.length_append, List.length_cons, List.length_nil]; omega)) (fun h hR _ => ?_))
      try simp only [zup_ap, zup_row, ne_eq, not_false_eq_true, zres, Int.toNat_natCast, reduceIte, Nat.reduceEqDiff, Nat.reduceAdd, and_self, and_true, true_and, and_false, false_and]
      refine z_iconst dX2_answer_36 (by decide) ?_
      refine z_zret dX2_answer_37 rfl (Nat.le_refl _) (Nat.le_refl _) (zext_rf _) (by first | exact Or.inl rfl | exact Or.inr rfl | omega) ?_
      first
      | exact hQ _ hR
      | exact hQ _ hR.1
      | (cases hP; exact hQ _ hR)
      | (cases hP; exact hQ _ hR.1)
      | (cases hP; exact hQ _ (by simpa using hR))
      | (exfalso; omega)
set_option maxRecDepth 4000 in
theorem zB_clause {l : Launch} {Γ : zC} {h0 : zM} {n f : Nat} (hΓ : zBase Γ) (hn2 : n ≤ 160) (iS : ∀ g, g < f + 1 → zSp l Γ h0 n g 3 mX2_sum) (iMT : ∀ g, g < f + 1 → zSp l Γ h0 n g 8 mX2_moreTruths) (iC : ∀ g, g < f + 1 → zSp l Γ h0 n g 10 mX2_condition) (iAN : ∀ g, g < f + 1 → zSq l Γ h0 n g 11 1 mX2_answer) : zSq l Γ h0 n (f + 1) 12 0 mX2_clause := by
  intro q cs h r Q hR hq hlen hP hQ
  have sk1 := fun k => zskip_b (h0 3) n k
  simp only [zP] at hP
  refine zCT_of (by decide) (Nat.le_of_ble_eq_true rfl) (ls := [some (zR 13), none]) rfl ?_
  refine z_al0 dX2_clause_0 (by first | decide | omega | assumption) ?_
  refine z_getR zfX2_9 dX2_clause_1 (zkB hΓ rfl) rfl (zsB hΓ rfl) (zvB hΓ (by decide)) ?_
  refine z_bipush (x := 121) dX2_clause_4 (by rfl) (by decide) ?_
  refine zcv1 dX2_clause_6 zkX2_35 ziX5_accept zsX5_accept (zkB hΓ rfl) (by decide) rfl (Nat.le_of_ble_eq_true rfl) (by decide) (by first | decide | omega) ⟨Nat.le_refl _, Nat.le_refl _⟩ (zA_accept hΓ hn2 hR (by omega) (fun hne _ => ?_) (fun heq h hR _ => ?_))
  · rw [if_neg hne] at hP
    try simp only [zup_ap, zup_row, ne_eq, not_false_eq_true, zres, Int.toNat_natCast, reduceIte, Nat.reduceEqDiff, Nat.reduceAdd, and_self, and_true, true_and, and_false, false_and]
    refine z_if_eq (t := 24) dX2_clause_9 (by rfl) (fun _ => ?_) (fun hx => absurd hx (by decide))
    refine z_iconst dX2_clause_24 (by decide) ?_
    refine z_zret dX2_clause_25 rfl (Nat.le_refl _) (Nat.le_refl _) (zext_rf _) (by first | exact Or.inl rfl | exact Or.inr rfl | omega) ?_
    first
    | exact hQ _ hR
    | exact hQ _ hR.1
    | (cases hP; exact hQ _ hR)
    | (cases hP; exact hQ _ hR.1)
    | (cases hP; exact hQ _ (by simpa using hR))
    | (exfalso; omega)
  · rw [if_pos heq] at hP
    have l0 := zsg_lt heq (by decide)
    have s0 := sk1 (q + 1)
    try simp only [zup_ap, zup_row, ne_eq, not_false_eq_true, zres, Int.toNat_natCast, reduceIte, Nat.reduceEqDiff, Nat.reduceAdd, and_self, and_true, true_and, and_false, false_and]
    refine z_if_eq (t := 24) dX2_clause_9 (by rfl) (fun hx => absurd hx (by decide)) (fun _ => ?_)
    refine z_al0 dX2_clause_12 (by first | decide | omega | assumption) ?_
    refine z_getR zfX2_9 dX2_clause_13 (zkB hΓ rfl) rfl (zsB hΓ rfl) (zvB hΓ (by decide)) ?_
    refine z_bipush (x := 58) dX2_clause_16 (by rfl) (by decide) ?_
    refine zcv1 dX2_clause_18 zkX2_35 ziX5_accept zsX5_accept (zkB hΓ rfl) (by decide) rfl (Nat.le_of_ble_eq_true rfl) (by decide) (by first | decide | omega) ⟨Nat.le_refl _, Nat.le_refl _⟩ (zA_accept hΓ hn2 hR (by omega) (fun hne _ => ?_) (fun heq h hR _ => ?_))
    · rw [if_neg hne] at hP
      try simp only [zup_ap, zup_row, ne_eq, not_false_eq_true, zres, Int.toNat_natCast, reduceIte, Nat.reduceEqDiff, Nat.reduceAdd, and_self, and_true, true_and, and_false, false_and]
      refine z_if_ne (t := 26) dX2_clause_21 (by rfl) (fun hx => absurd hx (by decide)) (fun _ => ?_)
      refine z_iconst dX2_clause_24 (by decide) ?_
      refine z_zret dX2_clause_25 rfl (Nat.le_refl _) (Nat.le_refl _) (zext_rf _) (by first | exact Or.inl rfl | exact Or.inr rfl | omega) ?_
      first
      | exact hQ _ hR
      | exact hQ _ hR.1
      | (cases hP; exact hQ _ hR)
      | (cases hP; exact hQ _ hR.1)
      | (cases hP; exact hQ _ (by simpa using hR))
      | (exfalso; omega)
    · rw [if_pos heq] at hP
      have l1 := zsg_lt heq (by decide)
      have s1 := sk1 ((zskip (h0 3) n (q + 1)) + 1)
      try simp only [zup_ap, zup_row, ne_eq, not_false_eq_true, zres, Int.toNat_natCast, reduceIte, Nat.reduceEqDiff, Nat.reduceAdd, and_self, and_true, true_and, and_false, false_and]
      refine z_if_ne (t := 26) dX2_clause_21 (by rfl) (fun _ => ?_) (fun hx => absurd hx (by decide))
      refine z_al0 dX2_clause_26 (by first | decide | omega | assumption) ?_
      refine z_getR zfX2_9 dX2_clause_27 (zkB hΓ rfl) rfl (zsB hΓ rfl) (zvB hΓ (by decide)) ?_
      refine zcv0 dX2_clause_30 zkX2_44 ziX5_sign zsX5_sign (zkB hΓ rfl) (by decide) rfl (Nat.le_of_ble_eq_true rfl) (by decide) (by first | decide | omega) ⟨Nat.le_refl _, Nat.le_refl _⟩ (zA_sign hΓ hn2 hR (by omega) (fun _ => ?_))
      try simp only [zup_ap, zup_row, ne_eq, not_false_eq_true, zres, Int.toNat_natCast, reduceIte, Nat.reduceEqDiff, Nat.reduceAdd, and_self, and_true, true_and, and_false, false_and]
      refine z_bipush (x := 33) dX2_clause_33 (by rfl) (by decide) ?_
      refine z_icmp_eq (t := 50) dX2_clause_35 (by rfl) (fun ht35 => ?_) (fun hf35 => ?_)
      · rw [if_pos (Or.inl ht35)] at hP
        refine z_al0 dX2_clause_50 (by first | decide | omega | assumption) ?_
        refine z_iconst dX2_clause_51 (by decide) ?_
        rcases zbd_c hP with ⟨p1, c1, hP1, rfl⟩ | ⟨p1, c1, hP1, hP⟩
        · refine zcv1 dX2_clause_52 zkX2_48 ziX2_condition zsX2_condition (zkB hΓ rfl) (by decide) rfl (Nat.le_of_ble_eq_true rfl) (by decide) (by first | decide | omega) ⟨Nat.le_refl _, Nat.le_refl _⟩ (iC f (by omega) _ 0 _ _ _ _ hR (by omega) (by first | omega | (simp only [List.length_append, List.length_cons, List.length_nil]; omega)) (by omega) hP1 (fun h hR _ => ?_))
          try simp only [zup_ap, zup_row, ne_eq, not_false_eq_true, zres, Int.toNat_natCast, reduceIte, Nat.reduceEqDiff, Nat.reduceAdd, and_self, and_true, true_and, and_false, false_and]
          refine z_if_eq (t := 69) dX2_clause_55 (by rfl) (fun _ => ?_) (fun hx => absurd hx (by decide))
          refine z_iconst dX2_clause_69 (by decide) ?_
          refine z_zret dX2_clause_70 rfl (Nat.le_refl _) (Nat.le_refl _) (zext_rf _) (by first | exact Or.inl rfl | exact Or.inr rfl | omega) ?_
          first
          | exact hQ _ hR
          | exact hQ _ hR.1
          | (cases hP; exact hQ _ hR)
          | (cases hP; exact hQ _ hR.1)
          | (cases hP; exact hQ _ (by simpa using hR))
          | (exfalso; omega)
        · refine zcv1 dX2_clause_52 zkX2_48 ziX2_condition zsX2_condition (zkB hΓ rfl) (by decide) rfl (Nat.le_of_ble_eq_true rfl) (by decide) (by first | decide | omega) ⟨Nat.le_refl _, Nat.le_refl _⟩ (iC f (by omega) _ 0 _ _ _ _ hR (by omega) (by first | omega | (simp only [List.length_append, List.length_cons, List.length_nil]; omega)) (by omega) hP1 (fun h hR _ => ?_))
          try simp only [zup_ap, zup_row, ne_eq, not_false_eq_true, zres, Int.toNat_natCast, reduceIte, Nat.reduceEqDiff, Nat.reduceAdd, and_self, and_true, true_and, and_false, false_and]
          have b1 := zP_c hP1 (by decide)
          refine z_if_eq (t := 69) dX2_clause_55 (by rfl) (fun hx => absurd hx (by decide)) (fun _ => ?_)
          refine z_al0 dX2_clause_58 (by first | decide | omega | assumption) ?_
          rcases zbd_c hP with ⟨p2, c2, hP2, rfl⟩ | ⟨p2, c2, hP2, hP⟩
          · refine zcv0 dX2_clause_59 zkX2_51 ziX2_answer zsX2_answer (zkB hΓ rfl) (by decide) rfl (Nat.le_of_ble_eq_true rfl) (by decide) (by first | decide | omega) ⟨Nat.le_refl _, Nat.le_refl _⟩ (iAN f (by omega) _ _ _ _ _ hR (by omega) (by first | omega | (simp only [List.length_append, List.length_cons, List.length_nil]; omega)) hP2 (fun h hR _ => ?_))
            try simp only [zup_ap, zup_row, ne_eq, not_false_eq_true, zres, Int.toNat_natCast, reduceIte, Nat.reduceEqDiff, Nat.reduceAdd, and_self, and_true, true_and, and_false, false_and]
            refine z_if_eq (t := 69) dX2_clause_62 (by rfl) (fun _ => ?_) (fun hx => absurd hx (by decide))
            refine z_iconst dX2_clause_69 (by decide) ?_
            refine z_zret dX2_clause_70 rfl (Nat.le_refl _) (Nat.le_refl _) (zext_rf _) (by first | exact Or.inl rfl | exact Or.inr rfl | omega) ?_
            first
            | exact hQ _ hR
            | exact hQ _ hR.1
            | (cases hP; exact hQ _ hR)
            | (cases hP; exact hQ _ hR.1)
            | (cases hP; exact hQ _ (by simpa using hR))
            | (exfalso; omega)
          · refine zcv0 dX2_clause_59 zkX2_51 ziX2_answer zsX2_answer (zkB hΓ rfl) (by decide) rfl (Nat.le_of_ble_eq_true rfl) (by decide) (by first | decide | omega) ⟨Nat.le_refl _, Nat.le_refl _⟩ (iAN f (by omega) _ _ _ _ _ hR (by omega) (by first | omega | (simp only [List.length_append, List.length_cons, List.length_nil]; omega)) hP2 (fun h hR _ => ?_))
            try simp only [zup_ap, zup_row, ne_eq, not_false_eq_true, zres, Int.toNat_natCast, reduceIte, Nat.reduceEqDiff, Nat.reduceAdd, and_self, and_true, true_and, and_false, false_and]
            have b2 := zP_d hP2
            refine z_if_eq (t := 69) dX2_clause_62 (by rfl) (fun hx => absurd hx (by decide)) (fun _ => ?_)
            refine z_iconst dX2_clause_65 (by decide) ?_
            refine z_goto (t := 70) dX2_clause_66 (by rfl) ?_
            refine z_zret dX2_clause_70 rfl (Nat.le_refl _) (Nat.le_refl _) (zext_rf _) (by first | exact Or.inl rfl | exact Or.inr rfl | omega) ?_
            first
            | exact hQ _ hR
            | exact hQ _ hR.1
            | (cases hP; exact hQ _ hR)
            | (cases hP; exact hQ _ hR.1)
            | (cases hP; exact hQ _ (by simpa using hR))
            | (exfalso; omega)
      · refine z_al0 dX2_clause_38 (by first | decide | omega | assumption) ?_
        refine z_getR zfX2_9 dX2_clause_39 (zkB hΓ rfl) rfl (zsB hΓ rfl) (zvB hΓ (by decide)) ?_
        refine zcv0 dX2_clause_42 zkX2_44 ziX5_sign zsX5_sign (zkB hΓ rfl) (by decide) rfl (Nat.le_of_ble_eq_true rfl) (by decide) (by first | decide | omega) ⟨Nat.le_refl _, Nat.le_refl _⟩ (zA_sign hΓ hn2 hR (by omega) (fun _ => ?_))
        try simp only [zup_ap, zup_row, ne_eq, not_false_eq_true, zres, Int.toNat_natCast, reduceIte, Nat.reduceEqDiff, Nat.reduceAdd, and_self, and_true, true_and, and_false, false_and]
        refine z_bipush (x := 40) dX2_clause_45 (by rfl) (by decide) ?_
        refine z_icmp_ne (t := 71) dX2_clause_47 (by rfl) (fun ht47 => ?_) (fun hf47 => ?_)
        · rw [if_neg (by omega)] at hP
          refine z_al0 dX2_clause_71 (by first | decide | omega | assumption) ?_
          refine z_iconst dX2_clause_72 (by decide) ?_
          rcases zbd_c hP with ⟨p1, c1, hP1, rfl⟩ | ⟨p1, c1, hP1, hP⟩
          · refine zcv1 dX2_clause_73 zkX2_54 ziX2_sum zsX2_sum (zkB hΓ rfl) (by decide) rfl (Nat.le_of_ble_eq_true rfl) (by decide) (by first | decide | omega) ⟨Nat.le_refl _, Nat.le_refl _⟩ (iS f (by omega) _ 0 _ _ _ _ hR (by omega) (by first | omega | (simp only [List.length_append, List.length_cons, List.length_nil]; omega)) (by omega) hP1 (fun h hR _ => ?_))
            try simp only [zup_ap, zup_row, ne_eq, not_false_eq_true, zres, Int.toNat_natCast, reduceIte, Nat.reduceEqDiff, Nat.reduceAdd, and_self, and_true, true_and, and_false, false_and]
            refine z_if_ne (t := 81) dX2_clause_76 (by rfl) (fun hx => absurd hx (by decide)) (fun _ => ?_)
            refine z_iconst dX2_clause_79 (by decide) ?_
            refine z_zret dX2_clause_80 rfl (Nat.le_refl _) (Nat.le_refl _) (zext_rf _) (by first | exact Or.inl rfl | exact Or.inr rfl | omega) ?_
            first
            | exact hQ _ hR
            | exact hQ _ hR.1
            | (cases hP; exact hQ _ hR)
            | (cases hP; exact hQ _ hR.1)
            | (cases hP; exact hQ _ (by simpa using hR))
            | (exfalso; omega)
          · refine zcv1 dX2_clause_73 zkX2_54 ziX2_sum zsX2_sum (zkB hΓ rfl) (by decide) rfl (Nat.le_of_ble_eq_true rfl) (by decide) (by first | decide | omega) ⟨Nat.le_refl _, Nat.le_refl _⟩ (iS f (by omega) _ 0 _ _ _ _ hR (by omega) (by first | omega | (simp only [List.length_append, List.length_cons, List.length_nil]; omega)) (by omega) hP1 (fun h hR _ => ?_))
            try simp only [zup_ap, zup_row, ne_eq, not_false_eq_true, zres, Int.toNat_natCast, reduceIte, Nat.reduceEqDiff, Nat.reduceAdd, and_self, and_true, true_and, and_false, false_and]
            have b1 := zP_c hP1 (by decide)
            refine z_if_ne (t := 81) dX2_clause_76 (by rfl) (fun _ => ?_) (fun hx => absurd hx (by decide))
            refine z_al0 dX2_clause_81 (by first | decide | omega | assumption) ?_
            refine zcv0 dX2_clause_82 zkX2_57 ziX2_comparison zsX2_comparison (zkB hΓ rfl) (by decide) rfl (Nat.le_of_ble_eq_true rfl) (by decide) (by first | decide | omega) ⟨Nat.le_refl _, Nat.le_refl _⟩ (zA_cmp hΓ hn2 hR (by omega) (fun hz _ => ?_) (fun hz h hR _ => ?_))
            · rw [if_neg hz] at hP
              try simp only [zup_ap, zup_row, ne_eq, not_false_eq_true, zres, Int.toNat_natCast, reduceIte, Nat.reduceEqDiff, Nat.reduceAdd, and_self, and_true, true_and, and_false, false_and]
              refine z_is1 dX2_clause_85 (Nat.le_of_ble_eq_true rfl) rfl ?_
              refine z_il1 dX2_clause_86 ?_
              refine z_iconst dX2_clause_87 (by decide) ?_
              refine z_icmp_ne (t := 99) dX2_clause_88 (by rfl) (fun hx => absurd hx (by decide)) (fun _ => ?_)
              refine z_al0 dX2_clause_91 (by first | decide | omega | assumption) ?_
              refine z_bipush (x := -59) dX2_clause_92 (by rfl) (by decide) ?_
              refine zcv1 dX2_clause_94 zkX2_60 ziX2_emit zsX2_emit (zkB hΓ rfl) (by decide) rfl (Nat.le_of_ble_eq_true rfl) (by decide) (by first | decide | omega) ⟨Nat.le_refl _, Nat.le_refl _⟩ (zA_emit hΓ hn2 hR (by omega) (by first | omega | (simp only [List.length_append, List.length_cons, List.length_nil]; omega)) (fun h hR _ => ?_))
              try simp only [zup_ap, zup_row, ne_eq, not_false_eq_true, zres, Int.toNat_natCast, reduceIte, Nat.reduceEqDiff, Nat.reduceAdd, and_self, and_true, true_and, and_false, false_and]
              refine z_iconst dX2_clause_97 (by decide) ?_
              refine z_zret dX2_clause_98 rfl (Nat.le_refl _) (Nat.le_refl _) (zext_rf _) (by first | exact Or.inl rfl | exact Or.inr rfl | omega) ?_
              first
              | exact hQ _ hR
              | exact hQ _ hR.1
              | (cases hP; exact hQ _ hR)
              | (cases hP; exact hQ _ hR.1)
              | (cases hP; exact hQ _ (by simpa using hR))
              | (exfalso; omega)
            · rw [if_pos hz] at hP
              obtain ⟨g, hg, hP⟩ := zP5p hz hP
              have l8 : p1 < n := by rcases hz with h | h | h <;> exact zsg_lt h (by decide)
              have s8 := sk1 (p1 + 1)
              have hz : _ ∨ _ ∨ _ := hz
              try simp only [zup_ap, zup_row, ne_eq, not_false_eq_true, zres, Int.toNat_natCast, reduceIte, Nat.reduceEqDiff, Nat.reduceAdd, and_self, and_true, true_and, and_false, false_and]
              refine z_is1 dX2_clause_85 (Nat.le_of_ble_eq_true rfl) rfl ?_
              refine z_il1 dX2_clause_86 ?_
              refine z_iconst dX2_clause_87 (by decide) ?_
              refine z_icmp_ne (t := 99) dX2_clause_88 (by rfl) (fun ht88 => ?_) (fun hf88 => ?_)
              · refine z_al0 dX2_clause_99 (by first | decide | omega | assumption) ?_
                refine z_iconst dX2_clause_100 (by decide) ?_
                rcases zbd_c hP with ⟨p2, c2, hP2, rfl⟩ | ⟨p2, c2, hP2, hP⟩
                · refine zcv1 dX2_clause_101 zkX2_54 ziX2_sum zsX2_sum (zkB hΓ rfl) (by decide) rfl (Nat.le_of_ble_eq_true rfl) (by decide) (by first | decide | omega) ⟨Nat.le_refl _, Nat.le_refl _⟩ (iS g (by omega) _ 0 _ _ _ _ hR (by omega) (by first | omega | (simp only [List.length_append, List.length_cons, List.length_nil]; omega)) (by omega) hP2 (fun h hR _ => ?_))
                  try simp only [zup_ap, zup_row, ne_eq, not_false_eq_true, zres, Int.toNat_natCast, reduceIte, Nat.reduceEqDiff, Nat.reduceAdd, and_self, and_true, true_and, and_false, false_and]
                  refine z_if_ne (t := 109) dX2_clause_104 (by rfl) (fun hx => absurd hx (by decide)) (fun _ => ?_)
                  refine z_iconst dX2_clause_107 (by decide) ?_
                  refine z_zret dX2_clause_108 rfl (Nat.le_refl _) (Nat.le_refl _) (zext_rf _) (by first | exact Or.inl rfl | exact Or.inr rfl | omega) ?_
                  first
                  | exact hQ _ hR
                  | exact hQ _ hR.1
                  | (cases hP; exact hQ _ hR)
                  | (cases hP; exact hQ _ hR.1)
                  | (cases hP; exact hQ _ (by simpa using hR))
                  | (exfalso; omega)
                · refine zcv1 dX2_clause_101 zkX2_54 ziX2_sum zsX2_sum (zkB hΓ rfl) (by decide) rfl (Nat.le_of_ble_eq_true rfl) (by decide) (by first | decide | omega) ⟨Nat.le_refl _, Nat.le_refl _⟩ (iS g (by omega) _ 0 _ _ _ _ hR (by omega) (by first | omega | (simp only [List.length_append, List.length_cons, List.length_nil]; omega)) (by omega) hP2 (fun h hR _ => ?_))
                  try simp only [zup_ap, zup_row, ne_eq, not_false_eq_true, zres, Int.toNat_natCast, reduceIte, Nat.reduceEqDiff, Nat.reduceAdd, and_self, and_true, true_and, and_false, false_and]
                  have b2 := zP_c hP2 (by decide)
                  refine z_if_ne (t := 109) dX2_clause_104 (by rfl) (fun _ => ?_) (fun hx => absurd hx (by decide))
                  refine z_al0 dX2_clause_109 (by first | decide | omega | assumption) ?_
                  refine z_il1 dX2_clause_110 ?_
                  refine z_ineg dX2_clause_111 (by omega) ?_
                  refine zcv1 dX2_clause_112 zkX2_60 ziX2_emit zsX2_emit (zkB hΓ rfl) (by decide) rfl (Nat.le_of_ble_eq_true rfl) (by decide) (by first | decide | omega) ⟨Nat.le_refl _, Nat.le_refl _⟩ (zA_emit hΓ hn2 hR (by omega) (by first | omega | (simp only [List.length_append, List.length_cons, List.length_nil]; omega)) (fun h hR _ => ?_))
                  try simp only [zup_ap, zup_row, ne_eq, not_false_eq_true, zres, Int.toNat_natCast, reduceIte, Nat.reduceEqDiff, Nat.reduceAdd, and_self, and_true, true_and, and_false, false_and]
                  refine z_al0 dX2_clause_115 (by first | decide | omega | assumption) ?_
                  refine z_iconst dX2_clause_116 (by decide) ?_
                  rcases zbd_c hP with ⟨p3, c3, hP3, rfl⟩ | ⟨p3, c3, hP3, hP⟩
                  · refine zcv1 dX2_clause_117 zkX2_64 ziX2_moreTruths zsX2_moreTruths (zkB hΓ rfl) (by decide) rfl (Nat.le_of_ble_eq_true rfl) (by decide) (by first | decide | omega) ⟨Nat.le_refl _, Nat.le_refl _⟩ (iMT f (by omega) _ 0 _ _ _ _ hR (by omega) (by first | omega | (simp only [List.length_append, List.length_cons, List.length_nil]; omega)) (by omega) hP3 (fun h hR _ => ?_))
                    try simp only [zup_ap, zup_row, ne_eq, not_false_eq_true, zres, Int.toNat_natCast, reduceIte, Nat.reduceEqDiff, Nat.reduceAdd, and_self, and_true, true_and, and_false, false_and]
                    refine z_if_eq (t := 134) dX2_clause_120 (by rfl) (fun _ => ?_) (fun hx => absurd hx (by decide))
                    refine z_iconst dX2_clause_134 (by decide) ?_
                    refine z_zret dX2_clause_135 rfl (Nat.le_refl _) (Nat.le_refl _) (zext_rf _) (by first | exact Or.inl rfl | exact Or.inr rfl | omega) ?_
                    first
                    | exact hQ _ hR
                    | exact hQ _ hR.1
                    | (cases hP; exact hQ _ hR)
                    | (cases hP; exact hQ _ hR.1)
                    | (cases hP; exact hQ _ (by simpa using hR))
                    | (exfalso; omega)
                  · refine zcv1 dX2_clause_117 zkX2_64 ziX2_moreTruths zsX2_moreTruths (zkB hΓ rfl) (by decide) rfl (Nat.le_of_ble_eq_true rfl) (by decide) (by first | decide | omega) ⟨Nat.le_refl _, Nat.le_refl _⟩ (iMT f (by omega) _ 0 _ _ _ _ hR (by omega) (by first | omega | (simp only [List.length_append, List.length_cons, List.length_nil]; omega)) (by omega) hP3 (fun h hR _ => ?_))
                    try simp only [zup_ap, zup_row, ne_eq, not_false_eq_true, zres, Int.toNat_natCast, reduceIte, Nat.reduceEqDiff, Nat.reduceAdd, and_self, and_true, true_and, and_false, false_and]
                    have b3 := zP_c hP3 (by decide)
                    refine z_if_eq (t := 134) dX2_clause_120 (by rfl) (fun hx => absurd hx (by decide)) (fun _ => ?_)
                    refine z_al0 dX2_clause_123 (by first | decide | omega | assumption) ?_
                    rcases zbd_c hP with ⟨p4, c4, hP4, rfl⟩ | ⟨p4, c4, hP4, hP⟩
                    · refine zcv0 dX2_clause_124 zkX2_51 ziX2_answer zsX2_answer (zkB hΓ rfl) (by decide) rfl (Nat.le_of_ble_eq_true rfl) (by decide) (by first | decide | omega) ⟨Nat.le_refl _, Nat.le_refl _⟩ (iAN f (by omega) _ _ _ _ _ hR (by omega) (by first | omega | (simp only [List.length_append, List.length_cons, List.length_nil]; omega)) hP4 (fun h hR _ => ?_))
                      try simp only [zup_ap, zup_row, ne_eq, not_false_eq_true, zres, Int.toNat_natCast, reduceIte, Nat.reduceEqDiff, Nat.reduceAdd, and_self, and_true, true_and, and_false, false_and]
                      refine z_if_eq (t := 134) dX2_clause_127 (by rfl) (fun _ => ?_) (fun hx => absurd hx (by decide))
                      refine z_iconst dX2_clause_134 (by decide) ?_
                      refine z_zret dX2_clause_135 rfl (Nat.le_refl _) (Nat.le_refl _) (zext_rf _) (by first | exact Or.inl rfl | exact Or.inr rfl | omega) ?_
                      first
                      | exact hQ _ hR
                      | exact hQ _ hR.1
                      | (cases hP; exact hQ _ hR)
                      | (cases hP; exact hQ _ hR.1)
                      | (cases hP; exact hQ _ (by simpa using hR))
                      | (exfalso; omega)
                    · refine zcv0 dX2_clause_124 zkX2_51 ziX2_answer zsX2_answer (zkB hΓ rfl) (by decide) rfl (Nat.le_of_ble_eq_true rfl) (by decide) (by first | decide | omega) ⟨Nat.le_refl _, Nat.le_refl _⟩ (iAN f (by omega) _ _ _ _ _ hR (by omega) (by first | omega | (simp only [List.length_append, List.length_cons, List.length_nil]; omega)) hP4 (fun h hR _ => ?_))
                      try simp only [zup_ap, zup_row, ne_eq, not_false_eq_true, zres, Int.toNat_natCast, reduceIte, Nat.reduceEqDiff, Nat.reduceAdd, and_self, and_true, true_and, and_false, false_and]
                      have b4 := zP_d hP4
                      refine z_if_eq (t := 134) dX2_clause_127 (by rfl) (fun hx => absurd hx (by decide)) (fun _ => ?_)
                      refine z_iconst dX2_clause_130 (by decide) ?_
                      refine z_goto (t := 135) dX2_clause_131 (by rfl) ?_
                      refine z_zret dX2_clause_135 rfl (Nat.le_refl _) (Nat.le_refl _) (zext_rf _) (by first | exact Or.inl rfl | exact Or.inr rfl | omega) ?_
                      first
                      | exact hQ _ hR
                      | exact hQ _ hR.1
                      | (cases hP; exact hQ _ hR)
                      | (cases hP; exact hQ _ hR.1)
                      | (cases hP; exact hQ _ (by simpa using hR))
                      | (exfalso; omega)
              · refine z_al0 dX2_clause_91 (by first | decide | omega | assumption) ?_
                refine z_bipush (x := -59) dX2_clause_92 (by rfl) (by decide) ?_
                refine zcv1 dX2_clause_94 zkX2_60 ziX2_emit zsX2_emit (zkB hΓ rfl) (by decide) rfl (Nat.le_of_ble_eq_true rfl) (by decide) (by first | decide | omega) ⟨Nat.le_refl _, Nat.le_refl _⟩ (zA_emit hΓ hn2 hR (by omega) (by first | omega | (simp only [List.length_append, List.length_cons, List.length_nil]; omega)) (fun h hR _ => ?_))
                try simp only [zup_ap, zup_row, ne_eq, not_false_eq_true, zres, Int.toNat_natCast, reduceIte, Nat.reduceEqDiff, Nat.reduceAdd, and_self, and_true, true_and, and_false, false_and]
                refine z_iconst dX2_clause_97 (by decide) ?_
                refine z_zret dX2_clause_98 rfl (Nat.le_refl _) (Nat.le_refl _) (zext_rf _) (by first | exact Or.inl rfl | exact Or.inr rfl | omega) ?_
                first
                | exact hQ _ hR
                | exact hQ _ hR.1
                | (cases hP; exact hQ _ hR)
                | (cases hP; exact hQ _ hR.1)
                | (cases hP; exact hQ _ (by simpa using hR))
                | (exfalso; omega)
        · rw [if_pos (Or.inr hf47)] at hP
          refine z_al0 dX2_clause_50 (by first | decide | omega | assumption) ?_
          refine z_iconst dX2_clause_51 (by decide) ?_
          rcases zbd_c hP with ⟨p1, c1, hP1, rfl⟩ | ⟨p1, c1, hP1, hP⟩
          · refine zcv1 dX2_clause_52 zkX2_48 ziX2_condition zsX2_condition (zkB hΓ rfl) (by decide) rfl (Nat.le_of_ble_eq_true rfl) (by decide) (by first | decide | omega) ⟨Nat.le_refl _, Nat.le_refl _⟩ (iC f (by omega) _ 0 _ _ _ _ hR (by omega) (by first | omega | (simp only [List.length_append, List.length_cons, List.length_nil]; omega)) (by omega) hP1 (fun h hR _ => ?_))
            try simp only [zup_ap, zup_row, ne_eq, not_false_eq_true, zres, Int.toNat_natCast, reduceIte, Nat.reduceEqDiff, Nat.reduceAdd, and_self, and_true, true_and, and_false, false_and]
            refine z_if_eq (t := 69) dX2_clause_55 (by rfl) (fun _ => ?_) (fun hx => absurd hx (by decide))
            refine z_iconst dX2_clause_69 (by decide) ?_
            refine z_zret dX2_clause_70 rfl (Nat.le_refl _) (Nat.le_refl _) (zext_rf _) (by first | exact Or.inl rfl | exact Or.inr rfl | omega) ?_
            first
            | exact hQ _ hR
            | exact hQ _ hR.1
            | (cases hP; exact hQ _ hR)
            | (cases hP; exact hQ _ hR.1)
            | (cases hP; exact hQ _ (by simpa using hR))
            | (exfalso; omega)
          · refine zcv1 dX2_clause_52 zkX2_48 ziX2_condition zsX2_condition (zkB hΓ rfl) (by decide) rfl (Nat.le_of_ble_eq_true rfl) (by decide) (by first | decide | omega) ⟨Nat.le_refl _, Nat.le_refl _⟩ (iC f (by omega) _ 0 _ _ _ _ hR (by omega) (by first | omega | (simp only [List.length_append, List.length_cons, List.length_nil]; omega)) (by omega) hP1 (fun h hR _ => ?_))
            try simp only [zup_ap, zup_row, ne_eq, not_false_eq_true, zres, Int.toNat_natCast, reduceIte, Nat.reduceEqDiff, Nat.reduceAdd, and_self, and_true, true_and, and_false, false_and]
            have b1 := zP_c hP1 (by decide)
            refine z_if_eq (t := 69) dX2_clause_55 (by rfl) (fun hx => absurd hx (by decide)) (fun _ => ?_)
            refine z_al0 dX2_clause_58 (by first | decide | omega | assumption) ?_
            rcases zbd_c hP with ⟨p2, c2, hP2, rfl⟩ | ⟨p2, c2, hP2, hP⟩
            · refine zcv0 dX2_clause_59 zkX2_51 ziX2_answer zsX2_answer (zkB hΓ rfl) (by decide) rfl (Nat.le_of_ble_eq_true rfl) (by decide) (by first | decide | omega) ⟨Nat.le_refl _, Nat.le_refl _⟩ (iAN f (by omega) _ _ _ _ _ hR (by omega) (by first | omega | (simp only [List.length_append, List.length_cons, List.length_nil]; omega)) hP2 (fun h hR _ => ?_))
              try simp only [zup_ap, zup_row, ne_eq, not_false_eq_true, zres, Int.toNat_natCast, reduceIte, Nat.reduceEqDiff, Nat.reduceAdd, and_self, and_true, true_and, and_false, false_and]
              refine z_if_eq (t := 69) dX2_clause_62 (by rfl) (fun _ => ?_) (fun hx => absurd hx (by decide))
              refine z_iconst dX2_clause_69 (by decide) ?_
              refine z_zret dX2_clause_70 rfl (Nat.le_refl _) (Nat.le_refl _) (zext_rf _) (by first | exact Or.inl rfl | exact Or.inr rfl | omega) ?_
              first
              | exact hQ _ hR
              | exact hQ _ hR.1
              | (cases hP; exact hQ _ hR)
              | (cases hP; exact hQ _ hR.1)
              | (cases hP; exact hQ _ (by simpa using hR))
              | (exfalso; omega)
            · refine zcv0 dX2_clause_59 zkX2_51 ziX2_answer zsX2_answer (zkB hΓ rfl) (by decide) rfl (Nat.le_of_ble_eq_true rfl) (by decide) (by first | decide | omega) ⟨Nat.le_refl _, Nat.le_refl _⟩ (iAN f (by omega) _ _ _ _ _ hR (by omega) (by first | omega | (simp only [List.length_append, List.length_cons, List.length_nil]; omega)) hP2 (fun h hR _ => ?_))
              try simp only [zup_ap, zup_row, ne_eq, not_false_eq_true, zres, Int.toNat_natCast, reduceIte, Nat.reduceEqDiff, Nat.reduceAdd, and_self, and_true, true_and, and_false, false_and]
              have b2 := zP_d hP2
              refine z_if_eq (t := 69) dX2_clause_62 (by rfl) (fun hx => absurd hx (by decide)) (fun _ => ?_)
              refine z_iconst dX2_clause_65 (by decide) ?_
              refine z_goto (t := 70) dX2_clause_66 (by rfl) ?_
              refine z_zret dX2_clause_70 rfl (Nat.le_refl _) (Nat.le_refl _) (zext_rf _) (by first | exact Or.inl rfl | exact Or.inr rfl | omega) ?_
              first
              | exact hQ _ hR
              | exact hQ _ hR.1
              | (cases hP; exact hQ _ hR)
              | (cases hP; exact hQ _ hR.1)
              | (cases hP; exact hQ _ (by simpa using hR))
              | (exfalso; omega)
theorem zSp_0 {l : Launch} {Γ : zC} {h0 : zM} {n tag : Nat} {M : zMI} : zSp l Γ h0 n 0 tag M := by
  intro q dep cs h r Q hR hq hlen hdep hP; cases hP
theorem zSq_0 {l : Launch} {Γ : zC} {h0 : zM} {n tag sl : Nat} {M : zMI} : zSq l Γ h0 n 0 tag sl M := by
  intro q cs h r Q hR hq hlen hP; cases hP
theorem zB_all {l : Launch} {Γ : zC} {h0 : zM} {n : Nat} (hΓ : zBase Γ) (hn2 : n ≤ 160) : ∀ f, zSp l Γ h0 n f 0 mX2_atom ∧ zSp l Γ h0 n f 1 mX2_term ∧ zSp l Γ h0 n f 3 mX2_sum ∧ zSp l Γ h0 n f 6 mX2_unit ∧ zSp l Γ h0 n f 7 mX2_moreUnits ∧ zSp l Γ h0 n f 8 mX2_moreTruths ∧ zSp l Γ h0 n f 10 mX2_condition ∧ zSq l Γ h0 n f 11 1 mX2_answer ∧ zSq l Γ h0 n f 12 0 mX2_clause := by
  intro f
  induction f using Nat.strongRecOn with
  | ind f ih =>
    cases f with
    | zero => exact ⟨zSp_0, zSp_0, zSp_0, zSp_0, zSp_0, zSp_0, zSp_0, zSq_0, zSq_0⟩
    | succ f =>
      have iA := fun g hg => (ih g hg).1
      have iT := fun g hg => (ih g hg).2.1
      have iS := fun g hg => (ih g hg).2.2.1
      have iU := fun g hg => (ih g hg).2.2.2.1
      have iMU := fun g hg => (ih g hg).2.2.2.2.1
      have iMT := fun g hg => (ih g hg).2.2.2.2.2.1
      have iC := fun g hg => (ih g hg).2.2.2.2.2.2.1
      have iAN := fun g hg => (ih g hg).2.2.2.2.2.2.2.1
      exact ⟨zB_atom hΓ hn2 iS, zB_term hΓ hn2 iA, zB_sum hΓ hn2 iT, zB_unit hΓ hn2 iS iU iC, zB_moreUnits hΓ hn2 iU, zB_moreTruths hΓ hn2 iU iMU, zB_condition hΓ hn2 iU iMT, zB_answer hΓ hn2 iS, zB_clause hΓ hn2 iS iMT iC iAN⟩
set_option maxRecDepth 4000 in
theorem zB_readl {l : Launch} {Γ : zC} {h0 : zM} {n : Nat} (hΓ : zBase Γ) (hn2 : n ≤ 160) (D : Nat) : ∀ g, g + 3 ≤ D → ∀ (q k : Nat) (cs : List Int) (h : zM) (r : zRs) (Q : Option zV → zC → zM → Prop), zRS h0 h n q cs → q ≤ 160 → cs.length ≤ q → k ≤ q → zP (h0 3) n g 13 q 0 = some r → zPo Γ h0 n cs r Q → zG (zFn l mX2_read D 0 0 Γ Q) 0 0 Γ h 14 [some (zR 13), some (zI (k : Nat))] [] := by
  intro g
  induction g with
  | zero => intro _ q k cs h r Q hR hq hlen hk hP hQ; cases hP
  | succ g ih =>
    intro hg q k cs h r Q hR hq hlen hk hP hQ
    have sk1 := fun k => zskip_b (h0 3) n k
    simp only [zP] at hP
    refine z_il1 dX2_read_14 ?_
    refine z_sipush (x := 160) dX2_read_15 (by rfl) (by decide) ?_
    refine z_icmp_gt (t := 62) dX2_read_18 (by rfl) (fun ht18 => ?_) (fun hf18 => ?_)
    · refine z_iconst dX2_read_62 (by decide) ?_
      refine z_zret dX2_read_63 rfl (Nat.le_refl _) (Nat.le_refl _) (zext_rf _) (by first | exact Or.inl rfl | exact Or.inr rfl | omega) ?_
      first
      | exact hQ _ hR
      | exact hQ _ hR.1
      | (cases hP; exact hQ _ hR)
      | (cases hP; exact hQ _ hR.1)
      | (cases hP; exact hQ _ (by simpa using hR))
      | (exfalso; omega)
    · refine z_al0 dX2_read_21 (by first | decide | omega | assumption) ?_
      rcases zbd_c hP with ⟨p1, c1, hP1, rfl⟩ | ⟨p1, c1, hP1, hP⟩
      · refine zcv0 dX2_read_22 zkX2_28 ziX2_clause zsX2_clause (zkB hΓ rfl) (by decide) rfl (Nat.le_of_ble_eq_true rfl) (by decide) (by first | decide | omega) ⟨Nat.le_refl _, Nat.le_refl _⟩ ((zB_all hΓ hn2 g).2.2.2.2.2.2.2.2 _ _ _ _ _ hR (by omega) (by first | omega | (simp only [List.length_append, List.length_cons, List.length_nil]; omega)) hP1 (fun h hR _ => ?_))
        try simp only [zup_ap, zup_row, ne_eq, not_false_eq_true, zres, Int.toNat_natCast, reduceIte, Nat.reduceEqDiff, Nat.reduceAdd, and_self, and_true, true_and, and_false, false_and]
        refine z_if_ne (t := 30) dX2_read_25 (by rfl) (fun hx => absurd hx (by decide)) (fun _ => ?_)
        refine z_iconst dX2_read_28 (by decide) ?_
        refine z_zret dX2_read_29 rfl (Nat.le_refl _) (Nat.le_refl _) (zext_rf _) (by first | exact Or.inl rfl | exact Or.inr rfl | omega) ?_
        first
        | exact hQ _ hR
        | exact hQ _ hR.1
        | (cases hP; exact hQ _ hR)
        | (cases hP; exact hQ _ hR.1)
        | (cases hP; exact hQ _ (by simpa using hR))
        | (exfalso; omega)
      · refine zcv0 dX2_read_22 zkX2_28 ziX2_clause zsX2_clause (zkB hΓ rfl) (by decide) rfl (Nat.le_of_ble_eq_true rfl) (by decide) (by first | decide | omega) ⟨Nat.le_refl _, Nat.le_refl _⟩ ((zB_all hΓ hn2 g).2.2.2.2.2.2.2.2 _ _ _ _ _ hR (by omega) (by first | omega | (simp only [List.length_append, List.length_cons, List.length_nil]; omega)) hP1 (fun h hR _ => ?_))
        try simp only [zup_ap, zup_row, ne_eq, not_false_eq_true, zres, Int.toNat_natCast, reduceIte, Nat.reduceEqDiff, Nat.reduceAdd, and_self, and_true, true_and, and_false, false_and]
        have b1 := zP_c hP1 (by decide)
        refine z_if_ne (t := 30) dX2_read_25 (by rfl) (fun _ => ?_) (fun hx => absurd hx (by decide))
        refine z_al0 dX2_read_30 (by first | decide | omega | assumption) ?_
        refine z_getR zfX2_9 dX2_read_31 (zkB hΓ rfl) rfl (zsB hΓ rfl) (zvB hΓ (by decide)) ?_
        refine zcv0 dX2_read_34 zkX2_32 ziX5_isSpent zsX5_isSpent (zkB hΓ rfl) (by decide) rfl (Nat.le_of_ble_eq_true rfl) (by decide) (by first | decide | omega) ⟨Nat.le_refl _, Nat.le_refl _⟩ (zA_spent hΓ hn2 hR (by omega) (fun _ => ?_))
        try simp only [zup_ap, zup_row, ne_eq, not_false_eq_true, zres, Int.toNat_natCast, reduceIte, Nat.reduceEqDiff, Nat.reduceAdd, and_self, and_true, true_and, and_false, false_and]
        refine z_if_eq (t := 42) dX2_read_37 (by rfl) (fun ht37 => ?_) (fun hf37 => ?_)
        · rw [if_neg (zif0.mp ht37)] at hP
          refine z_al0 dX2_read_42 (by first | decide | omega | assumption) ?_
          refine z_getR zfX2_9 dX2_read_43 (zkB hΓ rfl) rfl (zsB hΓ rfl) (zvB hΓ (by decide)) ?_
          refine z_bipush (x := 59) dX2_read_46 (by rfl) (by decide) ?_
          refine zcv1 dX2_read_48 zkX2_35 ziX5_accept zsX5_accept (zkB hΓ rfl) (by decide) rfl (Nat.le_of_ble_eq_true rfl) (by decide) (by first | decide | omega) ⟨Nat.le_refl _, Nat.le_refl _⟩ (zA_accept hΓ hn2 hR (by omega) (fun hne _ => ?_) (fun heq h hR _ => ?_))
          · rw [if_neg hne] at hP
            try simp only [zup_ap, zup_row, ne_eq, not_false_eq_true, zres, Int.toNat_natCast, reduceIte, Nat.reduceEqDiff, Nat.reduceAdd, and_self, and_true, true_and, and_false, false_and]
            refine z_if_ne (t := 56) dX2_read_51 (by rfl) (fun hx => absurd hx (by decide)) (fun _ => ?_)
            refine z_iconst dX2_read_54 (by decide) ?_
            refine z_zret dX2_read_55 rfl (Nat.le_refl _) (Nat.le_refl _) (zext_rf _) (by first | exact Or.inl rfl | exact Or.inr rfl | omega) ?_
            first
            | exact hQ _ hR
            | exact hQ _ hR.1
            | (cases hP; exact hQ _ hR)
            | (cases hP; exact hQ _ hR.1)
            | (cases hP; exact hQ _ (by simpa using hR))
            | (exfalso; omega)
          · rw [if_pos heq] at hP
            have l2 := zsg_lt heq (by decide)
            have s2 := sk1 (p1 + 1)
            try simp only [zup_ap, zup_row, ne_eq, not_false_eq_true, zres, Int.toNat_natCast, reduceIte, Nat.reduceEqDiff, Nat.reduceAdd, and_self, and_true, true_and, and_false, false_and]
            refine z_if_ne (t := 56) dX2_read_51 (by rfl) (fun _ => ?_) (fun hx => absurd hx (by decide))
            refine z_ii1 dX2_read_56 (by omega) (Nat.le_of_ble_eq_true rfl) rfl ?_
            refine z_goto (t := 14) dX2_read_59 (by rfl) ?_
            rcases zbd_c hP with ⟨p9, c9, hP9, rfl⟩ | ⟨p9, c9, hP9, hP⟩
            · exact ih (by omega) _ (k + 1) _ h _ Q hR (by omega) (by first | omega | (simp only [List.length_append, List.length_cons, List.length_nil]; omega)) (by omega) hP9 (fun h hR => hQ h hR)
            · cases hP
              exact ih (by omega) _ (k + 1) _ h _ Q hR (by omega) (by first | omega | (simp only [List.length_append, List.length_cons, List.length_nil]; omega)) (by omega) hP9 (fun h hR => hQ h (by simpa using hR))
        · rw [if_pos (zif1.mp hf37)] at hP
          refine z_iconst dX2_read_40 (by decide) ?_
          refine z_zret dX2_read_41 rfl (Nat.le_refl _) (Nat.le_refl _) (zext_rf _) (by first | exact Or.inl rfl | exact Or.inr rfl | omega) ?_
          first
          | exact hQ _ hR
          | exact hQ _ hR.1
          | (cases hP; exact hQ _ hR)
          | (cases hP; exact hQ _ hR.1)
          | (cases hP; exact hQ _ (by simpa using hR))
          | (exfalso; omega)
set_option maxRecDepth 4000 in
theorem X2_read_ct {l : Launch} {Γ : zC} {h0 : zM} {n f : Nat} {r : zRs} {Q : Option zV → zC → zM → Prop} (hΓ : zBase Γ) (hn2 : n ≤ 160) (hn : h0 2 1 = (n : Int)) (hP : zP (h0 3) n f 13 (zskip (h0 3) n 0) 0 = some r) (hQ : zPo Γ h0 n [] r Q) : zCT l mX2_read (f + 4) 0 0 Γ [zR 13] h0 Q := by
  refine zCT_of (by decide) (Nat.le_of_ble_eq_true rfl) (ls := [some (zR 13), none]) rfl ?_
  refine z_al0 dX2_read_0 (by first | decide | omega | assumption) ?_
  refine z_iconst dX2_read_1 (by decide) ?_
  refine z_putI zfX2_19 dX2_read_2 (zkB hΓ rfl) rfl rfl ?_
  refine z_al0 dX2_read_5 (by first | decide | omega | assumption) ?_
  refine z_getR zfX2_9 dX2_read_6 (zkB hΓ rfl) rfl (zsB hΓ rfl) (zvB hΓ (by decide)) ?_
  refine zcv0 dX2_read_9 zkX2_23 ziX5_begin zsX5_begin (zkB hΓ rfl) (by decide) rfl (Nat.le_of_ble_eq_true rfl) (by decide) (by first | decide | omega) ⟨Nat.le_refl _, Nat.le_refl _⟩ (X5_begin_ct (n := n) hΓ (by simpa [zup_ap] using hn) hn2 (fun _ => ?_))
  try simp only [zup_ap, zup_row, ne_eq, not_false_eq_true, zres, Int.toNat_natCast, reduceIte, Nat.reduceEqDiff, Nat.reduceAdd, and_self, and_true, true_and, and_false, false_and]
  have hR : zRS h0 (zup (zup h0 13 2 0) 2 2 (zskip (zup h0 13 2 0 3) n 0 : Nat)) n (zskip (h0 3) n 0) [] := ⟨⟨⟨fun r a b c => by rw [zup_row a, zup_row b], fun j hj => ⟨by rw [zup_ap, if_neg (fun x => hj x.2), zup_row (by decide)], by rw [zup_row (by decide), zup_ap, if_neg (fun x => hj x.2)]⟩⟩, by simpa [zup_ap] using hn, by simp [zup_ap, zup_row]⟩, by simp [zup_ap], fun i hi => by simp at hi⟩
  have s0 := zskip_b (h0 3) n 0
  try simp only [zup_row, ne_eq, not_false_eq_true, Nat.reduceEqDiff] at hR
  refine z_iconst dX2_read_12 (by decide) ?_
  refine z_is1 dX2_read_13 (Nat.le_of_ble_eq_true rfl) rfl ?_
  exact zB_readl hΓ hn2 (f + 4) f (by omega) _ 0 [] _ r Q hR (by omega) (by simp) (by omega) hP hQ
